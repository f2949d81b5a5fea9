theorem zai32 {a b : Int32} {la ha lb hb L U : Int} (h1 : la ≤ a.toInt) (h2 : a.toInt ≤ ha) (h3 : lb ≤ b.toInt) (h4 : b.toInt ≤ hb) (hL : L ≤ la + lb) (hU : ha + hb ≤ U) (hl : -2147483648 ≤ L) (hu : U ≤ 2147483647) : (a + b).toInt = a.toInt + b.toInt ∧ L ≤ (a + b).toInt ∧ (a + b).toInt ≤ U := by
  rw [Int32.toInt_add, Int.bmod_eq_of_le (by omega) (by omega)]
  exact ⟨rfl, by omega, by omega⟩
theorem zai64 {a b : Int64} {la ha lb hb L U : Int} (h1 : la ≤ a.toInt) (h2 : a.toInt ≤ ha) (h3 : lb ≤ b.toInt) (h4 : b.toInt ≤ hb) (hL : L ≤ la + lb) (hU : ha + hb ≤ U) (hl : -9223372036854775808 ≤ L) (hu : U ≤ 9223372036854775807) : (a + b).toInt = a.toInt + b.toInt ∧ L ≤ (a + b).toInt ∧ (a + b).toInt ≤ U := by
  rw [Int64.toInt_add, Int.bmod_eq_of_le (by omega) (by omega)]
  exact ⟨rfl, by omega, by omega⟩
