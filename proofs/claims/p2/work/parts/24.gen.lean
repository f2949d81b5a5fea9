theorem xi_s {i b : Int32} (h : i < b) : (i + 1).toInt = i.toInt + 1 := by
  rw [Int32.lt_iff_toInt_lt] at h
  have := Int32.toInt_lt b
  have := Int32.le_toInt i
  have e1 : (1 : Int32).toInt = 1 := rfl
  have q1 : (i.toInt + 1).bmod (2 ^ 32) = i.toInt + 1 := Int.bmod_eq_of_le (by omega) (by omega)
  rw [Int32.toInt_add, e1, q1]
theorem xi_s' {i b : Int32} (h : ¬ b ≤ i) : (i + 1).toInt = i.toInt + 1 := xi_s (Int32.not_le.mp h)
theorem xi_z {a b : Int32} (h : b.toInt ≤ a.toInt + ((0 : Nat) : Int)) : b ≤ a := by
  rw [Int32.le_iff_toInt_le]
  omega
theorem xi_z' {a b : Int32} (h : b.toInt ≤ a.toInt + ((0 : Nat) : Int)) : ¬ a < b := Int32.not_lt.mpr (xi_z h)
theorem xi_le {a b : Int32} (h : a ≤ b) : a.toInt ≤ b.toInt := Int32.le_iff_toInt_le.mp h
theorem xi_nn {a : Int32} (h : ¬ a < 0) : 0 ≤ a.toInt := xi_le (Int32.not_lt.mp h)
