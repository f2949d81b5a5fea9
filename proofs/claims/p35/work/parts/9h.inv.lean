theorem xi_nle0 {a b : Int32} (h0 : ¬ a < 0) (h : ¬ b < a) : a.toNatClampNeg ≤ b.toNatClampNeg := by
  have h1 := xi_le (Int32.not_lt.mp h)
  have r1 := xi_nat h0
  have r2 := xi_nat (w := b) (by lia)
  omega
/-- the first half of a row is as it was -/
def xSm (N : Int32) (f g : Nat → Int32) : Prop := ∀ k : Nat, k < N.toNatClampNeg → g k = f k
def xSmJ (N : Int32) (f g : Nat → Int64) : Prop := ∀ k : Nat, k < N.toNatClampNeg → g k = f k
theorem xSm_rf {N : Int32} {f : Nat → Int32} : xSm N f f := fun _ _ => rfl
theorem xSmJ_rf {N : Int32} {f : Nat → Int64} : xSmJ N f f := fun _ _ => rfl
theorem xSm_tr {N : Int32} {f g h : Nat → Int32} (a : xSm N f g) (b : xSm N g h) : xSm N f h := fun k hk => (b k hk).trans (a k hk)
theorem xSmJ_tr {N : Int32} {f g h : Nat → Int64} (a : xSmJ N f g) (b : xSmJ N g h) : xSmJ N f h := fun k hk => (b k hk).trans (a k hk)
theorem xSm_w {N i x : Int32} {f g : Nat → Int32} (q : xSm N f g) (h0 : ¬ N < 0) (h : ¬ i < N) : xSm N f (upd g i.toNatClampNeg x) := fun k hk => by
  have := xi_nle0 h0 h
  show (if k = i.toNatClampNeg then x else g k) = f k
  rw [if_neg (by omega)]
  exact q k hk
theorem xSmJ_w {N i : Int32} {x : Int64} {f g : Nat → Int64} (q : xSmJ N f g) (h0 : ¬ N < 0) (h : ¬ i < N) : xSmJ N f (vp_updL g i.toNatClampNeg x) := fun k hk => by
  have := xi_nle0 h0 h
  show (if k = i.toNatClampNeg then x else g k) = f k
  rw [if_neg (by omega)]
  exact q k hk
theorem xl_ix {n j : Int32} (c m : Int32) (hc0 : ¬ c < 0) (hc : c ≤ 200) (hm0 : ¬ m < 0) (hm : m ≤ 12) (n0 : ¬ n < 0) (n9 : n ≤ 12) (j0 : ¬ j < 0) (j9 : j ≤ 12) : ((c + (m * n)) + j).toNatClampNeg = c.toNatClampNeg + m.toNatClampNeg * n.toNatClampNeg + j.toNatClampNeg := by
  have a0 := xi_nn n0
  have a9 := xi_le n9
  have b0 := xi_nn j0
  have b9 := xi_le j9
  have d0 := xi_nn hc0
  have d9 := xi_le hc
  have e0 := xi_nn hm0
  have e9 := xi_le hm
  have e12 : (12 : Int32).toInt = 12 := rfl
  have e200 : (200 : Int32).toInt = 200 := rfl
  rw [e12] at a9 b9 e9
  rw [e200] at d9
  have p0 : 0 ≤ m.toInt * n.toInt := Int.mul_nonneg e0 a0
  have p9 : m.toInt * n.toInt ≤ 12 * 12 := Int.mul_le_mul e9 a9 a0 (by omega)
  have q1 : (m.toInt * n.toInt).bmod (2 ^ 32) = m.toInt * n.toInt := Int.bmod_eq_of_le (by omega) (by omega)
  have q2 : (c.toInt + m.toInt * n.toInt).bmod (2 ^ 32) = c.toInt + m.toInt * n.toInt := Int.bmod_eq_of_le (by omega) (by omega)
  have q3 : (c.toInt + m.toInt * n.toInt + j.toInt).bmod (2 ^ 32) = c.toInt + m.toInt * n.toInt + j.toInt := Int.bmod_eq_of_le (by omega) (by omega)
  have e : ((c + (m * n)) + j).toInt = c.toInt + m.toInt * n.toInt + j.toInt := by
    rw [Int32.toInt_add, Int32.toInt_add, Int32.toInt_mul, q1, q2, q3]
  have r1 := xi_nat hc0
  have r2 := xi_nat hm0
  have r3 := xi_nat n0
  have r4 := xi_nat j0
  have r5 : (((c + (m * n)) + j).toNatClampNeg : Int) = ((c + (m * n)) + j).toInt := by
    show ((((c + (m * n)) + j).toInt.toNat : Nat) : Int) = _
    exact Int.toNat_of_nonneg (by omega)
  have : ((c.toNatClampNeg + m.toNatClampNeg * n.toNatClampNeg + j.toNatClampNeg : Nat) : Int) = c.toInt + m.toInt * n.toInt + j.toInt := by
    rw [Int.natCast_add, Int.natCast_add, Int.natCast_mul, r1, r2, r3, r4]
  omega
theorem xl_ix0 {n : Int32} (c m : Int32) (hc0 : ¬ c < 0) (hc : c ≤ 200) (hm0 : ¬ m < 0) (hm : m ≤ 12) (n0 : ¬ n < 0) (n9 : n ≤ 12) : (c + (m * n)).toNatClampNeg = c.toNatClampNeg + m.toNatClampNeg * n.toNatClampNeg := by
  have h := xl_ix (j := 0) c m hc0 hc hm0 hm n0 n9 (by decide) (by decide)
  rw [show c + (m * n) + 0 = c + (m * n) by lia] at h
  exact h
theorem xl_ad {n : Int32} (c : Int32) (hc0 : ¬ c < 0) (hc : c ≤ 200) (n0 : ¬ n < 0) (n9 : n ≤ 12) : (c + n).toNatClampNeg = c.toNatClampNeg + n.toNatClampNeg := by
  have h := xl_ix0 (n := n) c 1 hc0 hc (by decide) (by decide) n0 n9
  rw [show (1 : Int32) * n = n by lia, show (1 : Int32).toNatClampNeg = 1 from rfl, Nat.one_mul] at h
  exact h
/-- of the text that is read: no land's first length is 0 -/
def xLZ (f : Nat → Int32) (n : Int32) : Prop := ∀ k : Nat, k < n.toNatClampNeg → ¬ f (12 + 3 * k) < 1
def xSK (f : Nat → Int32) : Prop := ¬ f 7 < 1 ∧ ¬ f 9 < 1 ∧ ¬ f 12 < 1
def xFA (ff fl : Nat → Int32) (n : Int32) : Prop := ∀ k : Nat, k < n.toNatClampNeg → ¬ ff (4 + k) < 0 ∧ fl (4 + k) ≤ 64 ∧ ¬ fl (4 + k) < 1
def xBO (f : Nat → Int64) (n : Int32) : Prop := ∀ k : Nat, k < n.toNatClampNeg → ¬ f (6 + k) < 0 ∧ f (6 + k) ≤ 1000000000000
def xDE (fo : Nat → Int64) (fh : Nat → Int32) (n nf : Int32) : Prop := ∀ k : Nat, k < n.toNatClampNeg → ¬ fo (4 + k) < 0 ∧ fo (4 + k) ≤ 1000000000000 ∧ (fh (12 + 3 * k) = 2 → ¬ fh (12 + 3 * k + 1) < 0 ∧ fh (12 + 3 * k + 1) < nf)
/-- what one note says of people, feasts and notes is there -/
def xNb (f : Nat → Int32) (b : Nat) (np nf : Int32) (k : Nat) : Prop := (¬ fq_isOf (f b) 5 = 0 → ¬ f (b + 7) < 0 ∧ f (b + 7) < np) ∧ (¬ fq_isOf (f b) 6 = 0 → ¬ f (b + 8) < 0 ∧ f (b + 8) < nf) ∧ (¬ fq_isOf (f b) 7 = 0 → ¬ f (b + 9) < 0 ∧ (f (b + 9)).toInt < (k : Int))
def xNA (f : Nat → Int32) (n np nf : Int32) : Prop := ∀ k : Nat, k < n.toNatClampNeg → xNb f (132 + 11 * k) np nf k
theorem xLZ_z {f : Nat → Int32} : xLZ f 0 := fun k hk => absurd hk (Nat.not_lt_zero k)
theorem xFA_z {f g : Nat → Int32} : xFA f g 0 := fun k hk => absurd hk (Nat.not_lt_zero k)
theorem xBO_z {f : Nat → Int64} : xBO f 0 := fun k hk => absurd hk (Nat.not_lt_zero k)
theorem xDE_z {f : Nat → Int64} {g : Nat → Int32} {m : Int32} : xDE f g 0 m := fun k hk => absurd hk (Nat.not_lt_zero k)
theorem xNA_z {f : Nat → Int32} {m l : Int32} : xNA f 0 m l := fun k hk => absurd hk (Nat.not_lt_zero k)
section XUP
variable {f g : Nat → Int32} {n a b c d : Int32}
theorem xLZ_1 (q : xLZ f n) (n0 : ¬ n < 0) (n4 : n < 4) (ha : ¬ a < 1) : xLZ (upd f ((12 + (3 * n)).toNatClampNeg) a) (n + 1) := by
  intro k hk
  rw [xi_natS n0 (by lia)] at hk
  rw [xl_ix0 12 3 (by decide) (by decide) (by decide) (by decide) n0 (by lia), show (12 : Int32).toNatClampNeg = 12 from rfl, show (3 : Int32).toNatClampNeg = 3 from rfl]
  unfold upd
  by_cases e : 12 + 3 * k = 12 + 3 * n.toNatClampNeg
  · rw [if_pos e]; exact ha
  · rw [if_neg e]; exact q k (by omega)
theorem xLZ_w (q : xLZ f n) {m : Int32} (j : Int32) (n0 : ¬ m < 0) (n4 : m < 4) (j1 : j = 1 ∨ j = 2) : xLZ (upd f (((12 + (3 * m)) + j).toNatClampNeg) a) n := by
  intro k hk
  rw [xl_ix 12 3 (by decide) (by decide) (by decide) (by decide) n0 (by lia) (by rcases j1 with rfl | rfl <;> decide) (by rcases j1 with rfl | rfl <;> decide), show (12 : Int32).toNatClampNeg = 12 from rfl, show (3 : Int32).toNatClampNeg = 3 from rfl]
  have : j.toNatClampNeg = 1 ∨ j.toNatClampNeg = 2 := by rcases j1 with rfl | rfl; exact Or.inl rfl; exact Or.inr rfl
  unfold upd
  rw [if_neg (by omega)]
  exact q k hk
theorem xSK_7 (q : xSK f) (ha : ¬ a < 1) : xSK (upd f ((7 : Int32).toNatClampNeg) a) := ⟨ha, q.2.1, q.2.2⟩
theorem xSK_9 (q : xSK f) (ha : ¬ a < 1) : xSK (upd f ((9 : Int32).toNatClampNeg) a) := ⟨q.1, ha, q.2.2⟩
theorem xSK_12 (q : xSK f) (ha : ¬ a < 1) : xSK (upd f ((12 : Int32).toNatClampNeg) a) := ⟨q.1, q.2.1, ha⟩
theorem xSK_8 (q : xSK f) : xSK (upd f ((8 : Int32).toNatClampNeg) b) := ⟨q.1, q.2.1, q.2.2⟩
theorem xSK_10 (q : xSK f) : xSK (upd f ((10 : Int32).toNatClampNeg) b) := ⟨q.1, q.2.1, q.2.2⟩
theorem xSK_11 (q : xSK f) : xSK (upd f ((11 : Int32).toNatClampNeg) b) := ⟨q.1, q.2.1, q.2.2⟩
theorem xSK_13 (q : xSK f) : xSK (upd f ((13 : Int32).toNatClampNeg) b) := ⟨q.1, q.2.1, q.2.2⟩
theorem xBO_1 {h : Nat → Int64} {x : Int64} (q : xBO h n) (n0 : ¬ n < 0) (n6 : n < 6) (x0 : ¬ x < 0) (x9 : x ≤ 1000000000000) : xBO (vp_updL h ((6 + n).toNatClampNeg) x) (n + 1) := by
  intro k hk
  rw [xi_natS n0 (by lia)] at hk
  rw [xl_ad 6 (by decide) (by decide) n0 (by lia), show (6 : Int32).toNatClampNeg = 6 from rfl]
  unfold vp_updL
  by_cases e : 6 + k = 6 + n.toNatClampNeg
  · rw [if_pos e]; exact ⟨x0, x9⟩
  · rw [if_neg e]; exact q k (by omega)
theorem xFA_1 (q : xFA f g n) (n0 : ¬ n < 0) (n4 : n < 4) (a0 : ¬ a < 0) (b6 : b ≤ 64) (b1 : ¬ b < 1) : xFA (upd f ((4 + n).toNatClampNeg) a) (upd g ((4 + n).toNatClampNeg) b) (n + 1) := by
  intro k hk
  rw [xi_natS n0 (by lia)] at hk
  rw [xl_ad 4 (by decide) (by decide) n0 (by lia), show (4 : Int32).toNatClampNeg = 4 from rfl]
  unfold upd
  by_cases e : 4 + k = 4 + n.toNatClampNeg
  · rw [if_pos e, if_pos e]; exact ⟨a0, b6, b1⟩
  · rw [if_neg e, if_neg e]; exact q k (by omega)
theorem xDE_1 {h : Nat → Int64} {x : Int64} {nf kd tm py : Int32} (q : xDE h f n nf) (n0 : ¬ n < 0) (n4 : n < 4) (x0 : ¬ x < 0) (x9 : x ≤ 1000000000000) (hk2 : ¬ kd = 2 ∨ (¬ tm < 0 ∧ tm < nf)) : xDE (vp_updL h ((4 + n).toNatClampNeg) x) (upd (upd (upd f ((12 + (3 * n)).toNatClampNeg) kd) (((12 + (3 * n)) + 1).toNatClampNeg) tm) (((12 + (3 * n)) + 2).toNatClampNeg) py) (n + 1) nf := by
  intro k hk
  rw [xi_natS n0 (by lia)] at hk
  rw [xl_ad 4 (by decide) (by decide) n0 (by lia), xl_ix0 12 3 (by decide) (by decide) (by decide) (by decide) n0 (by lia), xl_ix 12 3 (by decide) (by decide) (by decide) (by decide) n0 (by lia) (j := 1) (by decide) (by decide), xl_ix 12 3 (by decide) (by decide) (by decide) (by decide) n0 (by lia) (j := 2) (by decide) (by decide), show (4 : Int32).toNatClampNeg = 4 from rfl, show (12 : Int32).toNatClampNeg = 12 from rfl, show (3 : Int32).toNatClampNeg = 3 from rfl, show (1 : Int32).toNatClampNeg = 1 from rfl, show (2 : Int32).toNatClampNeg = 2 from rfl]
  unfold vp_updL upd
  by_cases e : k = n.toNatClampNeg
  · subst e
    rw [if_pos rfl, if_neg (by omega), if_neg (by omega), if_pos rfl, if_neg (by omega), if_pos rfl]
    exact ⟨x0, x9, fun h2 => hk2.resolve_left (fun h3 => h3 h2)⟩
  · rw [if_neg (by omega), if_neg (by omega), if_neg (by omega), if_neg (by omega), if_neg (by omega), if_neg (by omega), if_neg (by omega)]
    exact q k (by omega)
def xDO (h h2 : Nat → Int64) (n : Int32) : Prop := ∃ x : Int64, ¬ x < 0 ∧ x ≤ 1000000000000 ∧ h2 = vp_updL h ((4 + n).toNatClampNeg) x
theorem xDE_2 {h h2 : Nat → Int64} {nf kd tm py : Int32} (q : xDE h f n nf) (n0 : ¬ n < 0) (n4 : n < 4) (hO : xDO h h2 n) (hk2 : ¬ kd = 2 ∨ (¬ tm < 0 ∧ tm < nf)) : xDE h2 (upd (upd (upd f ((12 + (3 * n)).toNatClampNeg) kd) (((12 + (3 * n)) + 1).toNatClampNeg) tm) (((12 + (3 * n)) + 2).toNatClampNeg) py) (n + 1) nf := by
  obtain ⟨x, x0, x9, rfl⟩ := hO
  exact xDE_1 q n0 n4 x0 x9 hk2
theorem xDE_m {h : Nat → Int64} {nf nf2 : Int32} (q : xDE h f n nf) (hm : nf ≤ nf2) : xDE h f n nf2 := fun k hk => by
  obtain ⟨h1, h2, h3⟩ := q k hk
  exact ⟨h1, h2, fun e => ⟨(h3 e).1, by have := (h3 e).2; revert this; generalize f (12 + 3 * k + 1) = y; intro this; lia⟩⟩
theorem xNA_m {np np2 nf nf2 : Int32} (q : xNA f n np nf) (hp : np ≤ np2) (hf : nf ≤ nf2) : xNA f n np2 nf2 := fun k hk => by
  obtain ⟨h1, h2, h3⟩ := q k hk
  exact ⟨fun e => ⟨(h1 e).1, by have := (h1 e).2; revert this; generalize f (132 + 11 * k + 7) = y; intro this; lia⟩, fun e => ⟨(h2 e).1, by have := (h2 e).2; revert this; generalize f (132 + 11 * k + 8) = y; intro this; lia⟩, h3⟩
end XUP
