theorem xm_zero {a : Int32} (h : ¬ a < 0) (h2 : a ≤ 0) : a = 0 := by
  rw [Int32.lt_iff_toInt_lt] at h
  rw [Int32.le_iff_toInt_le] at h2
  exact Int32.toInt_inj.mp (by omega)
def xr_text (n : Int32) : Int32 := if n = 0 then 0 else -2
theorem xm_text1 {n : Int32} (h : n < 0) : xr_text n = -2 := if_neg (fun e => by rw [e] at h; exact absurd h (by decide))
theorem xm_text2 {n : Int32} (h : ¬ n ≤ 0) : xr_text n = -2 := if_neg (fun e => h (by rw [e]; decide))
