theorem xm_cntY {c : Int64} (h : ¬ xg_cnt c = 0) : 0 ≤ c ∧ c ≤ 1000000000000 := Classical.byContradiction (fun q => h (if_neg q))
theorem xm_askD {d w m : Int32} (h : ¬ d = -1) (h2 : xg_isin d 1 99999 = 0) : ¬ xr_ask d w m := fun q => q.1.elim h (xg_isinN h2)
theorem xm_lits : (-1 : Int32).toInt = -1 ∧ (0 : Int32).toInt = 0 ∧ (6 : Int32).toInt = 6 ∧ (7 : Int32).toInt = 7 := by decide
theorem xm_askW2 {w : Int32} (h : ¬ xg_isin w (-1) 6 = 0) : w = -1 ∨ 0 ≤ w ∧ w < 7 := by
  have q := xg_isinY h
  obtain ⟨a1, a2, a3, a4⟩ := xm_lits
  rw [Int32.le_iff_toInt_le, Int32.le_iff_toInt_le] at q
  rw [Int32.le_iff_toInt_le, Int32.lt_iff_toInt_lt, ← Int32.toInt_inj]
  omega
theorem xm_askM2 {w : Int32} (h : ¬ xg_isin w (-1) 7 = 0) : w = -1 ∨ 0 ≤ w ∧ w ≤ 7 := by
  have q := xg_isinY h
  obtain ⟨a1, a2, a3, a4⟩ := xm_lits
  rw [Int32.le_iff_toInt_le, Int32.le_iff_toInt_le] at q
  rw [Int32.le_iff_toInt_le, Int32.le_iff_toInt_le, ← Int32.toInt_inj]
  omega
theorem xm_askW {d w m : Int32} (h : xg_isin w (-1) 6 = 0) : ¬ xr_ask d w m := fun q => xg_isinN h (by
  have q1 := q.2.1
  obtain ⟨a1, a2, a3, a4⟩ := xm_lits
  rw [Int32.le_iff_toInt_le, Int32.lt_iff_toInt_lt, ← Int32.toInt_inj] at q1
  rw [Int32.le_iff_toInt_le, Int32.le_iff_toInt_le]
  omega)
theorem xm_askM {d w m : Int32} (h : xg_isin m (-1) 7 = 0) : ¬ xr_ask d w m := fun q => xg_isinN h (by
  have q1 := q.2.2
  obtain ⟨a1, a2, a3, a4⟩ := xm_lits
  rw [Int32.le_iff_toInt_le, Int32.le_iff_toInt_le, ← Int32.toInt_inj] at q1
  rw [Int32.le_iff_toInt_le, Int32.le_iff_toInt_le]
  omega)
theorem xm_litL : (0 : Int64).toInt = 0 ∧ (1 : Int64).toInt = 1 ∧ (20000 : Int64).toInt = 20000 ∧ (1000000000000 : Int64).toInt = 1000000000000 := by decide
theorem xm_addL {a b : Int64} (h0 : 0 ≤ a.toInt) (h1 : a.toInt ≤ 2000000000000) (h2 : 0 ≤ b.toInt) (h3 : b.toInt ≤ 20000) : (a + b).toInt = a.toInt + b.toInt := by
  rw [Int64.toInt_add]
  exact Int.bmod_eq_of_le (by omega) (by omega)
theorem xm_end {a kk : Int64} {i : Nat} (hc : 0 ≤ a ∧ a ≤ 1000000000000) (hk : kk.toInt = a.toInt + (i : Int)) : a + 20000 ≤ kk ↔ 20000 ≤ i := by
  obtain ⟨l0, l1, l2, l3⟩ := xm_litL
  rw [Int64.le_iff_toInt_le, Int64.le_iff_toInt_le] at hc
  rw [Int64.le_iff_toInt_le, xm_addL (by omega) (by omega) (by omega) (by omega)]
  omega
theorem xm_kk {a kk : Int64} {i : Nat} (hc : a ≤ 1000000000000) (hk : kk.toInt = a.toInt + (i : Int)) (h0 : 0 ≤ a.toInt ∧ i < 20000) : (kk + 1).toInt = a.toInt + ((i + 1 : Nat) : Int) := by
  obtain ⟨l0, l1, l2, l3⟩ := xm_litL
  rw [Int64.le_iff_toInt_le] at hc
  rw [xm_addL (by omega) (by omega) (by omega) (by omega)]
  omega
