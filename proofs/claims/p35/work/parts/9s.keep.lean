theorem xl_ad2 {n : Int32} (c : Int32) (hc0 : ¬ c < 0) (hc : c ≤ 200) (n0 : ¬ n < 0) (n9 : n ≤ 200) : (c + n).toNatClampNeg = c.toNatClampNeg + n.toNatClampNeg := by
  have a0 := xi_nn hc0
  have a9 := xi_le hc
  have c0 := xi_nn n0
  have c9 := xi_le n9
  have e200 : (200 : Int32).toInt = 200 := rfl
  have e : (c + n).toInt = c.toInt + n.toInt := by
    rw [Int32.toInt_add]
    exact Int.bmod_eq_of_le (by omega) (by omega)
  have r1 := xi_nat hc0
  have r2 := xi_nat n0
  have r3 : ((c + n).toNatClampNeg : Int) = (c + n).toInt := by
    show (((c + n).toInt.toNat : Nat) : Int) = _
    exact Int.toNat_of_nonneg (by omega)
  omega
theorem xl_mj {n j : Int32} (m : Int32) (hm0 : ¬ m < 0) (hm : m ≤ 12) (n0 : ¬ n < 0) (n9 : n ≤ 12) (j0 : ¬ j < 0) (j9 : j ≤ 12) : ((m * n) + j).toNatClampNeg = m.toNatClampNeg * n.toNatClampNeg + j.toNatClampNeg := by
  have h := xl_ix (j := j) 0 m (by decide) (by decide) hm0 hm n0 n9 j0 j9
  rw [show (0 : Int32) + m * n + j = m * n + j by lia, show (0 : Int32).toNatClampNeg = 0 from rfl, Nat.zero_add] at h
  exact h
theorem xl_m0 {n : Int32} (m : Int32) (hm0 : ¬ m < 0) (hm : m ≤ 12) (n0 : ¬ n < 0) (n9 : n ≤ 12) : (m * n).toNatClampNeg = m.toNatClampNeg * n.toNatClampNeg := by
  have h := xl_ix0 0 m (by decide) (by decide) hm0 hm n0 n9
  rw [show (0 : Int32) + m * n = m * n by lia, show (0 : Int32).toNatClampNeg = 0 from rfl, Nat.zero_add] at h
  exact h
theorem xi_nlt {a b : Int32} (h0 : ¬ a < 0) (h : a < b) : a.toNatClampNeg < b.toNatClampNeg := by
  have h1 := Int32.lt_iff_toInt_lt.mp h
  have r1 := xi_nat h0
  have r2 := xi_nat (w := b) (by lia)
  omega
theorem xi_nle {a b : Int32} (h0 : ¬ a < 0) (h : a ≤ b) : a.toNatClampNeg ≤ b.toNatClampNeg := by
  have h1 := xi_le h
  have r1 := xi_nat h0
  have r2 := xi_nat (w := b) (by lia)
  omega
theorem xk_copies4_d : ∀ (n : Nat) (L : Int32) (f : Nat → Int32), ¬ L < 0 → L ≤ 4 → 4 ≤ L.toNatClampNeg + n → ∀ k : Nat, fq_copies4_d n L f k = if L.toNatClampNeg ≤ k ∧ k < 4 then f (4 + k) else f k := by
  intro n
  induction n with
  | zero =>
    intro L f h0 h9 hn k
    rw [fq_copies4_d, if_neg (by omega)]
  | succ n ih =>
    intro L f h0 h9 hn k
    rw [fq_copies4_d]
    by_cases h : 4 ≤ L
    · have hL := xi_nle (a := 4) (by decide) h
      rw [show (4 : Int32).toNatClampNeg = 4 from rfl] at hL
      rw [if_pos h, if_neg (by omega)]
    · have hs := xi_natS (w := L) h0 (by lia)
      have hlt := xi_nlt (b := 4) h0 (by lia)
      rw [show (4 : Int32).toNatClampNeg = 4 from rfl] at hlt
      rw [if_neg h, ih (L + 1) _ (by lia) (by lia) (by omega) k, hs, xl_ad2 4 (by decide) (by decide) h0 (by lia), show (4 : Int32).toNatClampNeg = 4 from rfl]
      unfold upd
      by_cases e : k = L.toNatClampNeg
      · subst e
        rw [if_neg (by omega), if_pos rfl, if_pos ⟨Nat.le_refl _, hlt⟩]
      · by_cases c : L.toNatClampNeg + 1 ≤ k ∧ k < 4
        · rw [if_pos c, if_neg (by omega), if_pos ⟨by omega, c.2⟩]
        · rw [if_neg c, if_neg e, if_neg (by omega)]
theorem xk_copies4 (f : Nat → Int32) {k : Nat} (hk : k < 4) : fq_copies4 f k = f (4 + k) := by
  rw [fq_copies4, xk_copies4_d 4 0 f (by decide) (by decide) (by decide) k, if_pos ⟨Nat.zero_le _, hk⟩]
theorem xk_copies4_u (f : Nat → Int32) {k : Nat} (hk : 4 ≤ k) : fq_copies4 f k = f k := by
  rw [fq_copies4, xk_copies4_d 4 0 f (by decide) (by decide) (by decide) k, if_neg (by omega)]
theorem xk_copies7_d : ∀ (n : Nat) (L : Int32) (f : Nat → Int32), ¬ L < 0 → L ≤ 7 → 7 ≤ L.toNatClampNeg + n → ∀ k : Nat, fq_copies7_d n L f k = if L.toNatClampNeg ≤ k ∧ k < 7 then f (7 + k) else f k := by
  intro n
  induction n with
  | zero =>
    intro L f h0 h9 hn k
    rw [fq_copies7_d, if_neg (by omega)]
  | succ n ih =>
    intro L f h0 h9 hn k
    rw [fq_copies7_d]
    by_cases h : 7 ≤ L
    · have hL := xi_nle (a := 7) (by decide) h
      rw [show (7 : Int32).toNatClampNeg = 7 from rfl] at hL
      rw [if_pos h, if_neg (by omega)]
    · have hs := xi_natS (w := L) h0 (by lia)
      have hlt := xi_nlt (b := 7) h0 (by lia)
      rw [show (7 : Int32).toNatClampNeg = 7 from rfl] at hlt
      rw [if_neg h, ih (L + 1) _ (by lia) (by lia) (by omega) k, hs, xl_ad2 7 (by decide) (by decide) h0 (by lia), show (7 : Int32).toNatClampNeg = 7 from rfl]
      unfold upd
      by_cases e : k = L.toNatClampNeg
      · subst e
        rw [if_neg (by omega), if_pos rfl, if_pos ⟨Nat.le_refl _, hlt⟩]
      · by_cases c : L.toNatClampNeg + 1 ≤ k ∧ k < 7
        · rw [if_pos c, if_neg (by omega), if_pos ⟨by omega, c.2⟩]
        · rw [if_neg c, if_neg e, if_neg (by omega)]
theorem xk_copies7 (f : Nat → Int32) {k : Nat} (hk : k < 7) : fq_copies7 f k = f (7 + k) := by
  rw [fq_copies7, xk_copies7_d 7 0 f (by decide) (by decide) (by decide) k, if_pos ⟨Nat.zero_le _, hk⟩]
theorem xk_copies7_u (f : Nat → Int32) {k : Nat} (hk : 7 ≤ k) : fq_copies7 f k = f k := by
  rw [fq_copies7, xk_copies7_d 7 0 f (by decide) (by decide) (by decide) k, if_neg (by omega)]
theorem xk_copies12_d : ∀ (n : Nat) (L : Int32) (f : Nat → Int32), ¬ L < 0 → L ≤ 12 → 12 ≤ L.toNatClampNeg + n → ∀ k : Nat, fq_copies12_d n L f k = if L.toNatClampNeg ≤ k ∧ k < 12 then f (12 + k) else f k := by
  intro n
  induction n with
  | zero =>
    intro L f h0 h9 hn k
    rw [fq_copies12_d, if_neg (by omega)]
  | succ n ih =>
    intro L f h0 h9 hn k
    rw [fq_copies12_d]
    by_cases h : 12 ≤ L
    · have hL := xi_nle (a := 12) (by decide) h
      rw [show (12 : Int32).toNatClampNeg = 12 from rfl] at hL
      rw [if_pos h, if_neg (by omega)]
    · have hs := xi_natS (w := L) h0 (by lia)
      have hlt := xi_nlt (b := 12) h0 (by lia)
      rw [show (12 : Int32).toNatClampNeg = 12 from rfl] at hlt
      rw [if_neg h, ih (L + 1) _ (by lia) (by lia) (by omega) k, hs, xl_ad2 12 (by decide) (by decide) h0 (by lia), show (12 : Int32).toNatClampNeg = 12 from rfl]
      unfold upd
      by_cases e : k = L.toNatClampNeg
      · subst e
        rw [if_neg (by omega), if_pos rfl, if_pos ⟨Nat.le_refl _, hlt⟩]
      · by_cases c : L.toNatClampNeg + 1 ≤ k ∧ k < 12
        · rw [if_pos c, if_neg (by omega), if_pos ⟨by omega, c.2⟩]
        · rw [if_neg c, if_neg e, if_neg (by omega)]
theorem xk_copies12 (f : Nat → Int32) {k : Nat} (hk : k < 12) : fq_copies12 f k = f (12 + k) := by
  rw [fq_copies12, xk_copies12_d 12 0 f (by decide) (by decide) (by decide) k, if_pos ⟨Nat.zero_le _, hk⟩]
theorem xk_copies12_u (f : Nat → Int32) {k : Nat} (hk : 12 ≤ k) : fq_copies12 f k = f k := by
  rw [fq_copies12, xk_copies12_d 12 0 f (by decide) (by decide) (by decide) k, if_neg (by omega)]
theorem xk_copies64_d : ∀ (n : Nat) (L : Int32) (f : Nat → Int32), ¬ L < 0 → L ≤ 64 → 64 ≤ L.toNatClampNeg + n → ∀ k : Nat, fq_copies64_d n L f k = if L.toNatClampNeg ≤ k ∧ k < 64 then f (64 + k) else f k := by
  intro n
  induction n with
  | zero =>
    intro L f h0 h9 hn k
    rw [fq_copies64_d, if_neg (by omega)]
  | succ n ih =>
    intro L f h0 h9 hn k
    rw [fq_copies64_d]
    by_cases h : 64 ≤ L
    · have hL := xi_nle (a := 64) (by decide) h
      rw [show (64 : Int32).toNatClampNeg = 64 from rfl] at hL
      rw [if_pos h, if_neg (by omega)]
    · have hs := xi_natS (w := L) h0 (by lia)
      have hlt := xi_nlt (b := 64) h0 (by lia)
      rw [show (64 : Int32).toNatClampNeg = 64 from rfl] at hlt
      rw [if_neg h, ih (L + 1) _ (by lia) (by lia) (by omega) k, hs, xl_ad2 64 (by decide) (by decide) h0 (by lia), show (64 : Int32).toNatClampNeg = 64 from rfl]
      unfold upd
      by_cases e : k = L.toNatClampNeg
      · subst e
        rw [if_neg (by omega), if_pos rfl, if_pos ⟨Nat.le_refl _, hlt⟩]
      · by_cases c : L.toNatClampNeg + 1 ≤ k ∧ k < 64
        · rw [if_pos c, if_neg (by omega), if_pos ⟨by omega, c.2⟩]
        · rw [if_neg c, if_neg e, if_neg (by omega)]
theorem xk_copies64 (f : Nat → Int32) {k : Nat} (hk : k < 64) : fq_copies64 f k = f (64 + k) := by
  rw [fq_copies64, xk_copies64_d 64 0 f (by decide) (by decide) (by decide) k, if_pos ⟨Nat.zero_le _, hk⟩]
theorem xk_copies64_u (f : Nat → Int32) {k : Nat} (hk : 64 ≤ k) : fq_copies64 f k = f k := by
  rw [fq_copies64, xk_copies64_d 64 0 f (by decide) (by decide) (by decide) k, if_neg (by omega)]
theorem xk_copies132_d : ∀ (n : Nat) (L : Int32) (f : Nat → Int32), ¬ L < 0 → L ≤ 132 → 132 ≤ L.toNatClampNeg + n → ∀ k : Nat, fq_copies132_d n L f k = if L.toNatClampNeg ≤ k ∧ k < 132 then f (132 + k) else f k := by
  intro n
  induction n with
  | zero =>
    intro L f h0 h9 hn k
    rw [fq_copies132_d, if_neg (by omega)]
  | succ n ih =>
    intro L f h0 h9 hn k
    rw [fq_copies132_d]
    by_cases h : 132 ≤ L
    · have hL := xi_nle (a := 132) (by decide) h
      rw [show (132 : Int32).toNatClampNeg = 132 from rfl] at hL
      rw [if_pos h, if_neg (by omega)]
    · have hs := xi_natS (w := L) h0 (by lia)
      have hlt := xi_nlt (b := 132) h0 (by lia)
      rw [show (132 : Int32).toNatClampNeg = 132 from rfl] at hlt
      rw [if_neg h, ih (L + 1) _ (by lia) (by lia) (by omega) k, hs, xl_ad2 132 (by decide) (by decide) h0 (by lia), show (132 : Int32).toNatClampNeg = 132 from rfl]
      unfold upd
      by_cases e : k = L.toNatClampNeg
      · subst e
        rw [if_neg (by omega), if_pos rfl, if_pos ⟨Nat.le_refl _, hlt⟩]
      · by_cases c : L.toNatClampNeg + 1 ≤ k ∧ k < 132
        · rw [if_pos c, if_neg (by omega), if_pos ⟨by omega, c.2⟩]
        · rw [if_neg c, if_neg e, if_neg (by omega)]
theorem xk_copies132 (f : Nat → Int32) {k : Nat} (hk : k < 132) : fq_copies132 f k = f (132 + k) := by
  rw [fq_copies132, xk_copies132_d 132 0 f (by decide) (by decide) (by decide) k, if_pos ⟨Nat.zero_le _, hk⟩]
theorem xk_copies132_u (f : Nat → Int32) {k : Nat} (hk : 132 ≤ k) : fq_copies132 f k = f k := by
  rw [fq_copies132, xk_copies132_d 132 0 f (by decide) (by decide) (by decide) k, if_neg (by omega)]
theorem xk_copiesLong4_d : ∀ (n : Nat) (L : Int32) (f : Nat → Int64), ¬ L < 0 → L ≤ 4 → 4 ≤ L.toNatClampNeg + n → ∀ k : Nat, fq_copiesLong4_d n L f k = if L.toNatClampNeg ≤ k ∧ k < 4 then f (4 + k) else f k := by
  intro n
  induction n with
  | zero =>
    intro L f h0 h9 hn k
    rw [fq_copiesLong4_d, if_neg (by omega)]
  | succ n ih =>
    intro L f h0 h9 hn k
    rw [fq_copiesLong4_d]
    by_cases h : 4 ≤ L
    · have hL := xi_nle (a := 4) (by decide) h
      rw [show (4 : Int32).toNatClampNeg = 4 from rfl] at hL
      rw [if_pos h, if_neg (by omega)]
    · have hs := xi_natS (w := L) h0 (by lia)
      have hlt := xi_nlt (b := 4) h0 (by lia)
      rw [show (4 : Int32).toNatClampNeg = 4 from rfl] at hlt
      rw [if_neg h, ih (L + 1) _ (by lia) (by lia) (by omega) k, hs, xl_ad2 4 (by decide) (by decide) h0 (by lia), show (4 : Int32).toNatClampNeg = 4 from rfl]
      unfold vp_updL
      by_cases e : k = L.toNatClampNeg
      · subst e
        rw [if_neg (by omega), if_pos rfl, if_pos ⟨Nat.le_refl _, hlt⟩]
      · by_cases c : L.toNatClampNeg + 1 ≤ k ∧ k < 4
        · rw [if_pos c, if_neg (by omega), if_pos ⟨by omega, c.2⟩]
        · rw [if_neg c, if_neg e, if_neg (by omega)]
theorem xk_copiesLong4 (f : Nat → Int64) {k : Nat} (hk : k < 4) : fq_copiesLong4 f k = f (4 + k) := by
  rw [fq_copiesLong4, xk_copiesLong4_d 4 0 f (by decide) (by decide) (by decide) k, if_pos ⟨Nat.zero_le _, hk⟩]
theorem xk_copiesLong4_u (f : Nat → Int64) {k : Nat} (hk : 4 ≤ k) : fq_copiesLong4 f k = f k := by
  rw [fq_copiesLong4, xk_copiesLong4_d 4 0 f (by decide) (by decide) (by decide) k, if_neg (by omega)]
theorem xk_copiesLong6_d : ∀ (n : Nat) (L : Int32) (f : Nat → Int64), ¬ L < 0 → L ≤ 6 → 6 ≤ L.toNatClampNeg + n → ∀ k : Nat, fq_copiesLong6_d n L f k = if L.toNatClampNeg ≤ k ∧ k < 6 then f (6 + k) else f k := by
  intro n
  induction n with
  | zero =>
    intro L f h0 h9 hn k
    rw [fq_copiesLong6_d, if_neg (by omega)]
  | succ n ih =>
    intro L f h0 h9 hn k
    rw [fq_copiesLong6_d]
    by_cases h : 6 ≤ L
    · have hL := xi_nle (a := 6) (by decide) h
      rw [show (6 : Int32).toNatClampNeg = 6 from rfl] at hL
      rw [if_pos h, if_neg (by omega)]
    · have hs := xi_natS (w := L) h0 (by lia)
      have hlt := xi_nlt (b := 6) h0 (by lia)
      rw [show (6 : Int32).toNatClampNeg = 6 from rfl] at hlt
      rw [if_neg h, ih (L + 1) _ (by lia) (by lia) (by omega) k, hs, xl_ad2 6 (by decide) (by decide) h0 (by lia), show (6 : Int32).toNatClampNeg = 6 from rfl]
      unfold vp_updL
      by_cases e : k = L.toNatClampNeg
      · subst e
        rw [if_neg (by omega), if_pos rfl, if_pos ⟨Nat.le_refl _, hlt⟩]
      · by_cases c : L.toNatClampNeg + 1 ≤ k ∧ k < 6
        · rw [if_pos c, if_neg (by omega), if_pos ⟨by omega, c.2⟩]
        · rw [if_neg c, if_neg e, if_neg (by omega)]
theorem xk_copiesLong6 (f : Nat → Int64) {k : Nat} (hk : k < 6) : fq_copiesLong6 f k = f (6 + k) := by
  rw [fq_copiesLong6, xk_copiesLong6_d 6 0 f (by decide) (by decide) (by decide) k, if_pos ⟨Nat.zero_le _, hk⟩]
theorem xk_copiesLong6_u (f : Nat → Int64) {k : Nat} (hk : 6 ≤ k) : fq_copiesLong6 f k = f k := by
  rw [fq_copiesLong6, xk_copiesLong6_d 6 0 f (by decide) (by decide) (by decide) k, if_neg (by omega)]
/-- what stands of the text that was taken -/
def xLow (la fe pe de no na : Int32) (flh fsk ff fl fk fp fo : Nat → Int32) (fb fdo : Nat → Int64) (fdh fnh : Nat → Int32) : Prop :=
  (¬ la < 0 ∧ la ≤ 4) ∧ (¬ fe < 0 ∧ fe ≤ 4) ∧ (¬ pe < 0 ∧ pe ≤ 6) ∧ (¬ de < 0 ∧ de ≤ 4) ∧ (¬ no < 0 ∧ no ≤ 12) ∧ (¬ na < 0 ∧ na ≤ 6) ∧
  (∀ k : Int32, ¬ k < 0 → k < la → ¬ (flh ((3 * k).toNatClampNeg)) < 1) ∧ (¬ (fsk 0) < 1 ∧ ¬ (fsk 2) < 1 ∧ ¬ (fsk 5) < 1) ∧
  (∀ k : Int32, ¬ k < 0 → k < fe → ¬ (ff k.toNatClampNeg) < 0 ∧ (fl k.toNatClampNeg) ≤ 64 ∧ ¬ (fl k.toNatClampNeg) < 1) ∧ (∀ k : Nat, k < 64 → xKV fk fp fo k) ∧
  (∀ k : Int32, ¬ k < 0 → k < pe → ¬ (fb k.toNatClampNeg) < 0 ∧ (fb k.toNatClampNeg) ≤ 1000000000000) ∧
  (∀ k : Int32, ¬ k < 0 → k < de → ¬ (fdo k.toNatClampNeg) < 0 ∧ (fdo k.toNatClampNeg) ≤ 1000000000000 ∧ ((fdh ((3 * k).toNatClampNeg)) = 2 → ¬ (fdh (((3 * k) + 1).toNatClampNeg)) < 0 ∧ (fdh (((3 * k) + 1).toNatClampNeg)) < fe)) ∧
  (∀ k : Int32, ¬ k < 0 → k < no → (¬ fq_isOf (fnh ((11 * k).toNatClampNeg)) 5 = 0 → ¬ (fnh (((11 * k) + 7).toNatClampNeg)) < 0 ∧ (fnh (((11 * k) + 7).toNatClampNeg)) < pe) ∧ (¬ fq_isOf (fnh ((11 * k).toNatClampNeg)) 6 = 0 → ¬ (fnh (((11 * k) + 8).toNatClampNeg)) < 0 ∧ (fnh (((11 * k) + 8).toNatClampNeg)) < fe) ∧ (¬ fq_isOf (fnh ((11 * k).toNatClampNeg)) 7 = 0 → ¬ (fnh (((11 * k) + 9).toNatClampNeg)) < 0 ∧ (fnh (((11 * k) + 9).toNatClampNeg)) < k))
section XKP
variable {la fe pe de no na : Int32} {flh fsk ff fl fk fp fo : Nat → Int32} {fb fdo : Nat → Int64} {fdh fnh : Nat → Int32}
theorem xKp_LZ (l0 : ¬ la < 0) (l4 : la ≤ 4) (q : xLZ flh la) : ∀ k : Int32, ¬ k < 0 → k < la → ¬ (fq_copies12 flh ((3 * k).toNatClampNeg)) < 1 := by
  intro k k0 k4
  have h1 := xi_nlt k0 k4
  have h2 := xi_nle l0 l4
  rw [show (4 : Int32).toNatClampNeg = 4 from rfl] at h2
  rw [xl_m0 3 (by decide) (by decide) k0 (by lia), show (3 : Int32).toNatClampNeg = 3 from rfl, xk_copies12 flh (by omega)]
  exact q _ h1
theorem xKp_SK (q : xSK fsk) : ¬ (fq_copies7 fsk 0) < 1 ∧ ¬ (fq_copies7 fsk 2) < 1 ∧ ¬ (fq_copies7 fsk 5) < 1 := by
  rw [xk_copies7 fsk (by decide), xk_copies7 fsk (by decide), xk_copies7 fsk (by decide)]
  exact q
theorem xKp_FA (l0 : ¬ fe < 0) (l4 : fe ≤ 4) (q : xFA ff fl fe) : ∀ k : Int32, ¬ k < 0 → k < fe → ¬ (fq_copies4 ff k.toNatClampNeg) < 0 ∧ (fq_copies4 fl k.toNatClampNeg) ≤ 64 ∧ ¬ (fq_copies4 fl k.toNatClampNeg) < 1 := by
  intro k k0 k4
  have h1 := xi_nlt k0 k4
  have h2 := xi_nle l0 l4
  rw [show (4 : Int32).toNatClampNeg = 4 from rfl] at h2
  rw [xk_copies4 ff (by omega), xk_copies4 fl (by omega)]
  exact q _ h1
theorem xKp_K (q : xKU fk fp fo) : ∀ k : Nat, k < 64 → xKV (fq_copies64 fk) (fq_copies64 fp) (fq_copies64 fo) k := by
  intro k hk
  have h := q (64 + k) (by omega)
  unfold xKV at *
  rw [xk_copies64 fk hk, xk_copies64 fp hk, xk_copies64 fo hk]
  exact h
theorem xKp_KU (q : xKU fk fp fo) : xKU (fq_copies64 fk) (fq_copies64 fp) (fq_copies64 fo) := by
  intro k h2
  rcases Nat.lt_or_ge k 64 with h1 | h1
  · exact xKp_K q k h1
  · have h := q k h2
    unfold xKV at *
    rw [xk_copies64_u fk h1, xk_copies64_u fp h1, xk_copies64_u fo h1]
    exact h
theorem xKp_BO (l0 : ¬ pe < 0) (l4 : pe ≤ 6) (q : xBO fb pe) : ∀ k : Int32, ¬ k < 0 → k < pe → ¬ (fq_copiesLong6 fb k.toNatClampNeg) < 0 ∧ (fq_copiesLong6 fb k.toNatClampNeg) ≤ 1000000000000 := by
  intro k k0 k4
  have h1 := xi_nlt k0 k4
  have h2 := xi_nle l0 l4
  rw [show (6 : Int32).toNatClampNeg = 6 from rfl] at h2
  rw [xk_copiesLong6 fb (by omega)]
  exact q _ h1
theorem xKp_DE (l0 : ¬ de < 0) (l4 : de ≤ 4) (q : xDE fdo fdh de fe) : ∀ k : Int32, ¬ k < 0 → k < de → ¬ (fq_copiesLong4 fdo k.toNatClampNeg) < 0 ∧ (fq_copiesLong4 fdo k.toNatClampNeg) ≤ 1000000000000 ∧ ((fq_copies12 fdh ((3 * k).toNatClampNeg)) = 2 → ¬ (fq_copies12 fdh (((3 * k) + 1).toNatClampNeg)) < 0 ∧ (fq_copies12 fdh (((3 * k) + 1).toNatClampNeg)) < fe) := by
  intro k k0 k4
  have h1 := xi_nlt k0 k4
  have h2 := xi_nle l0 l4
  rw [show (4 : Int32).toNatClampNeg = 4 from rfl] at h2
  rw [xk_copiesLong4 fdo (by omega), xl_m0 3 (by decide) (by decide) k0 (by lia), xl_mj 3 (by decide) (by decide) k0 (by lia) (j := 1) (by decide) (by decide), show (3 : Int32).toNatClampNeg = 3 from rfl, show (1 : Int32).toNatClampNeg = 1 from rfl, xk_copies12 fdh (by omega), xk_copies12 fdh (by omega)]
  exact q _ h1
theorem xKp_NA (l0 : ¬ no < 0) (l4 : no ≤ 6) (q : xNA fnh no pe fe) : ∀ k : Int32, ¬ k < 0 → k < no → (¬ fq_isOf (fq_copies132 fnh ((11 * k).toNatClampNeg)) 5 = 0 → ¬ (fq_copies132 fnh (((11 * k) + 7).toNatClampNeg)) < 0 ∧ (fq_copies132 fnh (((11 * k) + 7).toNatClampNeg)) < pe) ∧ (¬ fq_isOf (fq_copies132 fnh ((11 * k).toNatClampNeg)) 6 = 0 → ¬ (fq_copies132 fnh (((11 * k) + 8).toNatClampNeg)) < 0 ∧ (fq_copies132 fnh (((11 * k) + 8).toNatClampNeg)) < fe) ∧ (¬ fq_isOf (fq_copies132 fnh ((11 * k).toNatClampNeg)) 7 = 0 → ¬ (fq_copies132 fnh (((11 * k) + 9).toNatClampNeg)) < 0 ∧ (fq_copies132 fnh (((11 * k) + 9).toNatClampNeg)) < k) := by
  intro k k0 k4
  have h1 := xi_nlt k0 k4
  have h2 := xi_nle l0 l4
  rw [show (6 : Int32).toNatClampNeg = 6 from rfl] at h2
  rw [xl_m0 11 (by decide) (by decide) k0 (by lia), xl_mj 11 (by decide) (by decide) k0 (by lia) (j := 7) (by decide) (by decide), xl_mj 11 (by decide) (by decide) k0 (by lia) (j := 8) (by decide) (by decide), xl_mj 11 (by decide) (by decide) k0 (by lia) (j := 9) (by decide) (by decide), show (11 : Int32).toNatClampNeg = 11 from rfl, show (7 : Int32).toNatClampNeg = 7 from rfl, show (8 : Int32).toNatClampNeg = 8 from rfl, show (9 : Int32).toNatClampNeg = 9 from rfl, xk_copies132 fnh (by omega), xk_copies132 fnh (by omega), xk_copies132 fnh (by omega), xk_copies132 fnh (by omega)]
  obtain ⟨a, b, c⟩ := q _ h1
  refine ⟨a, b, fun e => ⟨(c e).1, ?_⟩⟩
  have := (c e).2
  rw [xi_nat k0] at this
  exact Int32.lt_iff_toInt_lt.mpr this
theorem xLow_c {flh2 fsk2 ff2 fl2 fk2 fp2 fo2 : Nat → Int32} {fb2 fdo2 : Nat → Int64} {fdh2 fnh2 : Nat → Int32} (q : xLow la fe pe de no na flh fsk ff fl fk fp fo fb fdo fdh fnh) (h1 : xSm 12 flh flh2) (h2 : xSm 7 fsk fsk2) (h3 : xSm 4 ff ff2) (h4 : xSm 4 fl fl2) (hK : xKU fk2 fp2 fo2) (h5 : xSmJ 6 fb fb2) (h6 : xSmJ 4 fdo fdo2) (h7 : xSm 12 fdh fdh2) (h8 : xSm 132 fnh fnh2) : xLow la fe pe de no na flh2 fsk2 ff2 fl2 fk2 fp2 fo2 fb2 fdo2 fdh2 fnh2 := by
  obtain ⟨a1, a2, a3, a4, a5, a6, b1, b2, b3, b4, b5, b6, b7⟩ := q
  have r : ∀ {k n N : Int32}, ¬ k < 0 → k < n → n ≤ N → k.toNatClampNeg < N.toNatClampNeg := fun k0 k1 k2 => xi_nlt k0 (by lia)
  refine ⟨a1, a2, a3, a4, a5, a6, fun k k0 k1 => ?_, ?_, fun k k0 k1 => ?_, fun k hk => hK k (by omega), fun k k0 k1 => ?_, fun k k0 k1 => ?_, fun k k0 k1 => ?_⟩
  · have := r k0 k1 a1.2
    rw [show (4 : Int32).toNatClampNeg = 4 from rfl] at this
    have hb := b1 k k0 k1
    rw [xl_m0 3 (by decide) (by decide) k0 (by lia), show (3 : Int32).toNatClampNeg = 3 from rfl] at hb ⊢
    rw [h1 _ (show _ < 12 by omega)]; exact hb
  · rw [h2 0 (by decide), h2 2 (by decide), h2 5 (by decide)]; exact b2
  · have := r k0 k1 a2.2
    rw [h3 _ this, h4 _ this]; exact b3 k k0 k1
  · have := r k0 k1 a3.2
    rw [h5 _ this]; exact b5 k k0 k1
  · have := r k0 k1 a4.2
    have e4 := this
    rw [show (4 : Int32).toNatClampNeg = 4 from rfl] at e4
    have hb := b6 k k0 k1
    rw [xl_m0 3 (by decide) (by decide) k0 (by lia), xl_mj 3 (by decide) (by decide) k0 (by lia) (j := 1) (by decide) (by decide), show (3 : Int32).toNatClampNeg = 3 from rfl, show (1 : Int32).toNatClampNeg = 1 from rfl] at hb ⊢
    rw [h6 _ this, h7 _ (show _ < 12 by omega), h7 _ (show _ < 12 by omega)]; exact hb
  · have := r k0 k1 a5.2
    rw [show (12 : Int32).toNatClampNeg = 12 from rfl] at this
    have hb := b7 k k0 k1
    rw [xl_m0 11 (by decide) (by decide) k0 (by lia), xl_mj 11 (by decide) (by decide) k0 (by lia) (j := 7) (by decide) (by decide), xl_mj 11 (by decide) (by decide) k0 (by lia) (j := 8) (by decide) (by decide), xl_mj 11 (by decide) (by decide) k0 (by lia) (j := 9) (by decide) (by decide), show (11 : Int32).toNatClampNeg = 11 from rfl, show (7 : Int32).toNatClampNeg = 7 from rfl, show (8 : Int32).toNatClampNeg = 8 from rfl, show (9 : Int32).toNatClampNeg = 9 from rfl] at hb ⊢
    rw [h8 _ (show _ < 132 by omega), h8 _ (show _ < 132 by omega), h8 _ (show _ < 132 by omega), h8 _ (show _ < 132 by omega)]; exact hb
end XKP
