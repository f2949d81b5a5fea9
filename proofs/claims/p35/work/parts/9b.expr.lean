def xC (k w : Int32) : Prop := k = 5 → ¬ w < 0 ∧ w ≤ 5
theorem xi_nat {w : Int32} (h : ¬ w < 0) : (w.toNatClampNeg : Int) = w.toInt := by
  show ((w.toInt.toNat : Nat) : Int) = w.toInt
  exact Int.toNat_of_nonneg (xi_nn h)
theorem xi_p {w : Int32} (h : ¬ w < 1) : (w - 1).toInt = w.toInt - 1 := by
  have h1 := xi_le (Int32.not_lt.mp h)
  have e1 : (1 : Int32).toInt = 1 := rfl
  have := Int32.toInt_lt w
  rw [Int32.toInt_sub, e1]
  exact Int.bmod_eq_of_le (by omega) (by omega)
theorem xi_natS {w : Int32} (h : ¬ w < 0) (h9 : w ≤ 1000) : (w + 1).toNatClampNeg = w.toNatClampNeg + 1 := by
  have a := xi_s (i := w) (b := 2000) (by lia)
  have b1 := xi_nat h
  have b2 := xi_nat (w := w + 1) (by lia)
  omega
theorem xi_natP {w : Int32} (h : ¬ w < 1) : w.toNatClampNeg = (w - 1).toNatClampNeg + 1 := by
  have a := xi_p h
  have b1 := xi_nat (w := w) (by lia)
  have b2 := xi_nat (w := w - 1) (by lia)
  omega
/-- how many brackets, how many signs with two sides, wait -/
def xz (f : Nat → Int32) : Nat → Int
  | 0 => 0
  | n + 1 => xz f n + (if f n = 0 then 1 else 0)
def xBn (f : Nat → Int32) : Nat → Int
  | 0 => 0
  | n + 1 => xBn f n + (if f n = 0 then 0 else if f n = 2 then 0 else 1)
theorem xz_b (f : Nat → Int32) (n : Nat) : 0 ≤ xz f n ∧ 0 ≤ xBn f n ∧ xz f n + xBn f n ≤ (n : Int) := by
  induction n with
  | zero => simp only [xz, xBn]; omega
  | succ n ih =>
    simp only [xz, xBn]
    split
    · omega
    · split <;> omega
theorem xz_up (f : Nat → Int32) (n m : Nat) (x : Int32) (h : m ≤ n) : xz (upd f n x) m = xz f m ∧ xBn (upd f n x) m = xBn f m := by
  induction m with
  | zero => exact ⟨rfl, rfl⟩
  | succ m ih =>
    have e : upd f n x m = f m := if_neg (by omega)
    have h1 := ih (by omega)
    simp only [xz, xBn, e, h1.1, h1.2, and_self]
def xW (f : Nat → Int32) (w b h t : Int32) : Prop := ¬ w < 0 ∧ (∀ j : Nat, j < w.toNatClampNeg → f j = 0 ∨ ¬ f j < 2) ∧ b.toInt = xz f w.toNatClampNeg ∧ h.toInt + t.toInt = xBn f w.toNatClampNeg + 1
def xH (f : Nat → Int32) (h : Int32) : Prop := ∀ j : Nat, j < h.toNatClampNeg → vp_in (f j) 64
def xKU (fk fp fo : Nat → Int32) : Prop := ∀ k : Nat, k < 128 → xKV fk fp fo k
section XWL
variable {f fh fk fp fo : Nat → Int32} {w b h t k : Int32}
theorem xW_lin (q : xW f w b h t) : ¬ b < 0 ∧ b ≤ w := by
  obtain ⟨h0, -, hb, -⟩ := q
  have := xz_b f w.toNatClampNeg
  have := xi_nat h0
  rw [Int32.lt_iff_toInt_lt, Int32.le_iff_toInt_le]
  have e0 : (0 : Int32).toInt = 0 := rfl
  omega
theorem xW_h1 (q : xW f w b h 0) : ¬ h < 1 := by
  obtain ⟨h0, -, -, hb⟩ := q
  have := xz_b f w.toNatClampNeg
  rw [Int32.lt_iff_toInt_lt]
  have e0 : (0 : Int32).toInt = 0 := rfl
  have e1 : (1 : Int32).toInt = 1 := rfl
  omega
theorem xW_h (q : xW f w b h t) (h9 : w ≤ 96) (t0 : ¬ t < 0) (t1 : t ≤ 1) : ¬ h < 0 ∧ h ≤ w + 1 := by
  obtain ⟨h0, -, -, hb⟩ := q
  have := xz_b f w.toNatClampNeg
  have := xi_nat h0
  have := xi_nn t0
  have := xi_le t1
  have := xi_le h9
  have a := xi_s (i := w) (b := 2000) (by lia)
  rw [Int32.lt_iff_toInt_lt, Int32.le_iff_toInt_le]
  have e0 : (0 : Int32).toInt = 0 := rfl
  have e1 : (1 : Int32).toInt = 1 := rfl
  omega
theorem xW_val (q : xW f w b h t) (h9 : w ≤ 1000) {x : Int32} (hx : x = 0 ∨ ¬ x < 2) : ∀ j : Nat, j < (w + 1).toNatClampNeg → upd f w.toNatClampNeg x j = 0 ∨ ¬ upd f w.toNatClampNeg x j < 2 := by
  intro j hj
  rw [xi_natS q.1 h9] at hj
  unfold upd
  by_cases e : j = w.toNatClampNeg
  · rw [if_pos e]; exact hx
  · rw [if_neg e]; exact q.2.1 j (by omega)
theorem xW_push (q : xW f w b h t) (h9 : w ≤ 96) (x : Int32) : xz (upd f w.toNatClampNeg x) (w + 1).toNatClampNeg = xz f w.toNatClampNeg + (if x = 0 then 1 else 0) ∧ xBn (upd f w.toNatClampNeg x) (w + 1).toNatClampNeg = xBn f w.toNatClampNeg + (if x = 0 then 0 else if x = 2 then 0 else 1) := by
  rw [xi_natS q.1 (by lia)]
  have e : upd f w.toNatClampNeg x w.toNatClampNeg = x := if_pos rfl
  have h1 := xz_up f w.toNatClampNeg w.toNatClampNeg x (Nat.le_refl _)
  simp only [xz, xBn, e, h1.1, h1.2, and_self]
theorem xW_push0 (q : xW f w b h t) (h9 : w ≤ 95) : xW (upd f w.toNatClampNeg 0) (w + 1) (b + 1) h t := by
  have hp := xW_push q (by lia) 0
  have hl := xW_lin q
  have hb := xi_s (i := b) (b := 2000) (by lia)
  refine ⟨by have := q.1; lia, xW_val q (by lia) (Or.inl rfl), ?_, ?_⟩
  · rw [hp.1, hb, if_pos rfl, q.2.2.1]
  · rw [hp.2, if_pos rfl, q.2.2.2]; omega
theorem xW_push2 (q : xW f w b h t) (h9 : w ≤ 95) : xW (upd f w.toNatClampNeg 2) (w + 1) b h t := by
  have hp := xW_push q (by lia) 2
  have n0 : ¬ (2 : Int32) = 0 := by decide
  refine ⟨by have := q.1; lia, xW_val q (by lia) (Or.inr (by decide)), ?_, ?_⟩
  · rw [hp.1, if_neg n0, q.2.2.1]; omega
  · rw [hp.2, if_neg n0, if_pos rfl, q.2.2.2]; omega
theorem xW_pushk (q : xW f w b h 0) (h9 : w ≤ 95) (hk : ¬ k < 3) : xW (upd f w.toNatClampNeg k) (w + 1) b h 1 := by
  have hp := xW_push q (by lia) k
  have n0 : ¬ k = 0 := by lia
  have n2 : ¬ k = 2 := by lia
  have e0 : (0 : Int32).toInt = 0 := rfl
  have e1 : (1 : Int32).toInt = 1 := rfl
  have hq := q.2.2.2
  refine ⟨by have := q.1; lia, xW_val q (by lia) (Or.inr (by lia)), ?_, ?_⟩
  · rw [hp.1, if_neg n0, q.2.2.1]; omega
  · rw [hp.2, if_neg n0, if_neg n2]; omega
theorem xW_leaf (q : xW f w b h 1) (h9 : h ≤ 97) (h0 : ¬ h < 0) : xW f w b (h + 1) 0 := by
  have hb := xi_s (i := h) (b := 2000) (by lia)
  have e0 : (0 : Int32).toInt = 0 := rfl
  have e1 : (1 : Int32).toInt = 1 := rfl
  have hq := q.2.2.2
  exact ⟨q.1, q.2.1, q.2.2.1, by rw [hb]; omega⟩
theorem xW_pop (q : xW f w b h t) (hw : ¬ w < 1) : xz f w.toNatClampNeg = xz f (w - 1).toNatClampNeg + (if f (w - 1).toNatClampNeg = 0 then 1 else 0) ∧ xBn f w.toNatClampNeg = xBn f (w - 1).toNatClampNeg + (if f (w - 1).toNatClampNeg = 0 then 0 else if f (w - 1).toNatClampNeg = 2 then 0 else 1) ∧ ∀ j : Nat, j < (w - 1).toNatClampNeg → f j = 0 ∨ ¬ f j < 2 := by
  have hn := xi_natP hw
  refine ⟨?_, ?_, fun j hj => q.2.1 j (by omega)⟩
  · rw [hn]; simp only [xz]
  · rw [hn]; simp only [xBn]
theorem xW_pop2 (q : xW f w b h t) (hw : ¬ w < 1) (hk : f (w - 1).toNatClampNeg = 2) : xW f (w - 1) b h t := by
  have hp := xW_pop q hw
  have n0 : ¬ (2 : Int32) = 0 := by decide
  rw [hk, if_neg n0, if_neg n0, if_pos rfl] at hp
  exact ⟨by lia, hp.2.2, by rw [q.2.2.1, hp.1]; omega, by rw [q.2.2.2, hp.2.1]; omega⟩
theorem xW_popk (q : xW f w b h 0) (hw : ¬ w < 1) (hk : ¬ f (w - 1).toNatClampNeg < 3) : ¬ h < 2 ∧ xW f (w - 1) b (h - 1) 0 := by
  have hp := xW_pop q hw
  have n0 : ¬ f (w - 1).toNatClampNeg = 0 := by generalize f (w - 1).toNatClampNeg = k at hk ⊢; lia
  have n2 : ¬ f (w - 1).toNatClampNeg = 2 := by generalize f (w - 1).toNatClampNeg = k at hk ⊢; lia
  rw [if_neg n0, if_neg n0, if_neg n2] at hp
  have hb := (xz_b f (w - 1).toNatClampNeg)
  have e0 : (0 : Int32).toInt = 0 := rfl
  have e2 : (2 : Int32).toInt = 2 := rfl
  have hq := q.2.2.2
  have h2 : ¬ h < 2 := by
    rw [Int32.lt_iff_toInt_lt]
    omega
  have hs := xi_p (w := h) (by lia)
  exact ⟨h2, by lia, hp.2.2, by rw [q.2.2.1, hp.1]; omega, by rw [hs]; omega⟩
theorem xW_pop0 (q : xW f w b h t) (hw : ¬ w < 1) (hk : f (w - 1).toNatClampNeg = 0) : xW f (w - 1) (b - 1) h t := by
  have hp := xW_pop q hw
  rw [hk, if_pos rfl, if_pos rfl] at hp
  have hb := (xz_b f (w - 1).toNatClampNeg)
  have e1 : (1 : Int32).toInt = 1 := rfl
  have hq := q.2.2.1
  have b1 : ¬ b < 1 := by
    rw [Int32.lt_iff_toInt_lt]
    omega
  have hs := xi_p b1
  exact ⟨by lia, hp.2.2, by rw [hs]; omega, by rw [q.2.2.2, hp.2.1]; omega⟩
theorem xW_top (q : xW f w b h t) (hw : ¬ w < 1) : f (w - 1).toNatClampNeg = 0 ∨ ¬ f (w - 1).toNatClampNeg < 2 := q.2.1 _ (by have := xi_natP hw; omega)
theorem xW_start : xW f 0 0 0 1 := ⟨by decide, fun j hj => absurd hj (Nat.not_lt_zero j), rfl, rfl⟩
theorem xr_pos {r : Int32} (hr : r = fq_rank k) (h : ¬ r < 1) : k = 2 ∨ ¬ k < 3 := by
  by_cases e2 : k = 2
  · exact Or.inl e2
  · refine Or.inr (fun h3 => h ?_)
    rw [hr, fq_rank, if_pos (show k < 13 by lia), if_pos (show k < 11 by lia), if_pos (show k < 5 by lia), if_neg e2, if_neg (show ¬ k = 3 by lia), if_neg (show ¬ k = 4 by lia)]
    decide
theorem xr_zero {r : Int32} (hr : r = fq_rank k) (h : r < 1) (hv : k = 0 ∨ ¬ k < 2) : k = 0 := by
  rcases hv with e | e
  · exact e
  · exfalso
    rw [hr, fq_rank] at h
    by_cases a1 : k < 13
    · by_cases a2 : k < 11
      · by_cases a3 : k < 5
        · rw [if_pos a1, if_pos a2, if_pos a3] at h
          by_cases b2 : k = 2
          · rw [if_pos b2] at h; exact absurd h (by decide)
          · by_cases b3 : k = 3
            · rw [if_neg b2, if_pos b3] at h; exact absurd h (by decide)
            · rw [if_neg b2, if_neg b3, if_pos (show k = 4 by lia)] at h; exact absurd h (by decide)
        · rw [if_pos a1, if_pos a2, if_neg a3] at h; exact absurd h (by decide)
      · rw [if_pos a1, if_neg a2] at h; exact absurd h (by decide)
    · rw [if_neg a1] at h; exact absurd h (by decide)
theorem xH_less (q : xH f h) (h1 : ¬ h < 1) : vp_in (f (h - 1).toNatClampNeg) 64 ∧ xH f (h - 1) := by
  have := xi_natP h1
  exact ⟨q _ (by omega), fun j hj => q j (by omega)⟩
theorem xH_more (q : xH f h) (h0 : ¬ h < 0) (h9 : h ≤ 1000) {x : Int32} (hx : vp_in x 64) : xH (upd f h.toNatClampNeg x) (h + 1) := by
  intro j hj
  rw [xi_natS h0 h9] at hj
  unfold upd
  by_cases e : j = h.toNatClampNeg
  · rw [if_pos e]; exact hx
  · rw [if_neg e]; exact q j (by omega)
theorem xH_start : xH f 0 := fun j hj => absurd hj (Nat.not_lt_zero j)
theorem xKU_g (q : xKU fk fp fo) {i : Nat} {x y z : Int32} (h1 : x = 1 → vp_in y 6) (h2 : ¬ x = 0 → ¬ x = 1 → vp_in y 64) (h3 : ¬ x = 0 → ¬ x = 1 → ¬ x = 2 → vp_in z 64) : xKU (upd fk i x) (upd fp i y) (upd fo i z) := by
  intro k hk2
  unfold xKV upd
  by_cases e : k = i
  · rw [if_pos e, if_pos e, if_pos e]; exact ⟨h1, h2, h3⟩
  · rw [if_neg e, if_neg e, if_neg e]; exact q k hk2
theorem xin64 {x : Int32} (h0 : ¬ x < 0) (h6 : x < 64) : vp_in x 64 := xg_inr (N := 64) rfl h0 (Int32.not_le.mpr h6)
theorem xbind_2 {kr r1 v1 : Int32} {X1 : Int32 × (Int32)} {u : (Int32) × (Int32) × (Nat → Int32) × (Nat → Int32) × (Nat → Int32) × (Nat → Int32)} (hW : xW f w b h 0) (hH : xH fh h) (hK : xKU fk fp fo) (hw : ¬ w < 1) (h9 : h ≤ 97) (k0 : ¬ kr < 0) (k6 : kr < 64) (hk : f (w - 1).toNatClampNeg = 2)
    (e1 : X1 = fq_dropHeld fh h) (er : r1 = X1.1) (ev : v1 = X1.2) (eu : u = fq_grown fk fp fo fh (f (w - 1).toNatClampNeg) r1 (-1) kr v1) : xW f (w - 1) b u.2.1 0 ∧ xH u.2.2.2.2.2 u.2.1 ∧ xKU u.2.2.1 u.2.2.2.1 u.2.2.2.2.1 ∧ u.1 = kr + 1 := by
  subst e1; subst er; subst ev; subst eu
  have h1 := xW_h1 hW
  have hl := xH_less hH h1
  have hs : h - 1 + 1 = h := by lia
  refine ⟨?_, ?_, ?_, rfl⟩
  · show xW f (w - 1) b (h - 1 + 1) 0
    rw [hs]; exact xW_pop2 hW hw hk
  · exact xH_more hl.2 (by lia) (by lia) (xin64 k0 k6)
  · exact xKU_g hK (fun e => absurd (hk.symm.trans e) (by decide)) (fun _ _ => hl.1) (fun _ _ e => absurd hk e)
theorem xbind_k {kr r1 v1 r2 v2 : Int32} {X1 X2 : Int32 × (Int32)} {u : (Int32) × (Int32) × (Nat → Int32) × (Nat → Int32) × (Nat → Int32) × (Nat → Int32)} (hW : xW f w b h 0) (hH : xH fh h) (hK : xKU fk fp fo) (hw : ¬ w < 1) (h9 : h ≤ 97) (k0 : ¬ kr < 0) (k6 : kr < 64) (hk : ¬ f (w - 1).toNatClampNeg < 3)
    (e1 : X1 = fq_dropHeld fh h) (er : r1 = X1.1) (ev : v1 = X1.2) (e2 : X2 = fq_dropHeld fh v1) (er2 : r2 = X2.1) (ev2 : v2 = X2.2) (eu : u = fq_grown fk fp fo fh (f (w - 1).toNatClampNeg) r2 r1 kr v2) : xW f (w - 1) b u.2.1 0 ∧ xH u.2.2.2.2.2 u.2.1 ∧ xKU u.2.2.1 u.2.2.2.1 u.2.2.2.2.1 ∧ u.1 = kr + 1 := by
  subst e1; subst er; subst ev; subst e2; subst er2; subst ev2; subst eu
  have hp := xW_popk hW hw hk
  have h1 : ¬ h < 1 := by have := hp.1; lia
  have hl := xH_less hH h1
  have hl2 := xH_less hl.2 (by have := hp.1; lia)
  have hs : h - 1 - 1 + 1 = h - 1 := by lia
  have n1 : ¬ f (w - 1).toNatClampNeg = 1 := by generalize f (w - 1).toNatClampNeg = k at hk ⊢; lia
  refine ⟨?_, ?_, ?_, rfl⟩
  · show xW f (w - 1) b (h - 1 - 1 + 1) 0
    rw [hs]; exact hp.2
  · exact xH_more hl2.2 (by have := hp.1; lia) (by lia) (xin64 k0 k6)
  · exact xKU_g hK (fun e => absurd e n1) (fun _ _ => hl2.1) (fun _ _ _ => hl.1)
/-- how much a rule can still grow -/
def xm (c b t : Int32) : Int := 20 * (64 - c.toInt) + (if t = 0 then b.toInt else 18 - b.toInt)
end XWL
