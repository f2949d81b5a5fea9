def xg_isin (n lo hi : Int32) : Int32 := if lo ≤ n ∧ n ≤ hi then 1 else 0
theorem xg_isin1 {n lo hi : Int32} (h : lo ≤ n) (h2 : n ≤ hi) : xg_isin n lo hi = 1 := if_pos ⟨h, h2⟩
theorem xg_isinA {n lo hi : Int32} (h : n < lo) : xg_isin n lo hi = 0 := if_neg (fun q => absurd h (Int32.not_lt.mpr q.1))
theorem xg_isinB {n lo hi : Int32} (h : hi < n) : xg_isin n lo hi = 0 := if_neg (fun q => absurd h (Int32.not_lt.mpr q.2))
theorem xg_isinY {n lo hi : Int32} (h : ¬ xg_isin n lo hi = 0) : lo ≤ n ∧ n ≤ hi := Classical.byContradiction (fun q => h (if_neg q))
theorem xg_isinN {n lo hi : Int32} (h : xg_isin n lo hi = 0) : ¬ (lo ≤ n ∧ n ≤ hi) := fun q => by
  rw [xg_isin1 q.1 q.2] at h
  exact absurd h (by decide)
def xr_rnd (c : Int64) (w : Int32) : Int32 := if w = 0 then xr_week c else if w = 1 then xr_moon c else xr_season c
theorem xm_three {w : Int32} (h : 0 ≤ w) (h2 : w ≤ 2) : w = 0 ∨ w = 1 ∨ w = 2 := by
  rw [Int32.le_iff_toInt_le] at h h2
  have e0 : (0 : Int32).toInt = 0 := rfl
  have e1 : (1 : Int32).toInt = 1 := rfl
  have e2 : (2 : Int32).toInt = 2 := rfl
  rcases (show w.toInt = 0 ∨ w.toInt = 1 ∨ w.toInt = 2 by omega) with q | q | q
  · exact Or.inl (Int32.toInt_inj.mp (q.trans e0.symm))
  · exact Or.inr (Or.inl (Int32.toInt_inj.mp (q.trans e1.symm)))
  · exact Or.inr (Or.inr (Int32.toInt_inj.mp (q.trans e2.symm)))
theorem xm_round0 {c : Int64} {w : Int32} (h : xg_cnt c = 0) : xr_round c w = -1 := by rw [xr_round, if_pos h]
theorem xm_round1 {c : Int64} {w : Int32} (h : xg_isin w 0 2 = 0) : xr_round c w = -1 := by
  have q := xg_isinN h
  rw [xr_round]
  rw [if_neg (fun e => q (by rw [e]; decide)) (c := w = 0), if_neg (fun e => q (by rw [e]; decide)) (c := w = 1), if_neg (fun e => q (by rw [e]; decide)) (c := w = 2)]
  split <;> rfl
theorem xm_round2 {c : Int64} {w : Int32} (h0 : ¬ xg_cnt c = 0) (h : ¬ xg_isin w 0 2 = 0) : xr_round c w = xr_rnd c w := by
  rw [xr_round, if_neg h0, xr_rnd]
  have q := xg_isinY h
  rcases xm_three q.1 q.2 with e | e | e <;> subst e <;> rfl
