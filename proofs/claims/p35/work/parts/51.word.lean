theorem xw_6 {a : Int32} (h0 : ¬ a < 0) (h9 : a ≤ 900) : (a + 6).toInt = a.toInt + 6 := by
  have e1 : (6 : Int32).toInt = 6 := rfl
  have h8 := xi_le h9
  have h7 := xi_nn h0
  have e9 : (900 : Int32).toInt = 900 := rfl
  rw [Int32.toInt_add, e1]
  exact Int.bmod_eq_of_le (by omega) (by omega)
theorem xw_tape {a0 a1 n i : Int32} (h : n = a1 - a0) (h1 : ¬ n ≤ i) (h2 : ¬ i < 0) (h3 : ¬ a0 < 0) (h4 : a1 ≤ 900) (h5 : a0 ≤ a1) : vp_in (a0 + i) 900 := by
  have e0 : (0 : Int32).toInt = 0 := rfl
  have e9 : (900 : Int32).toInt = 900 := rfl
  rw [Int32.le_iff_toInt_le] at h1 h4 h5
  rw [Int32.lt_iff_toInt_lt, e0] at h2 h3
  rw [e9] at h4
  have q1 : (a1.toInt - a0.toInt).bmod (2 ^ 32) = a1.toInt - a0.toInt := Int.bmod_eq_of_le (by omega) (by omega)
  rw [h, Int32.toInt_sub, q1] at h1
  have q2 : (a0.toInt + i.toInt).bmod (2 ^ 32) = a0.toInt + i.toInt := Int.bmod_eq_of_le (by omega) (by omega)
  rw [vp_in_iff, Int32.toInt_add, q2]
  omega
theorem xw_ne {f : Nat → Int32} {x : Int32} (h : f 117 = 32) (hx : ¬ f x.toNatClampNeg = 32) : ¬ x = 117 := fun e => hx (by rw [e]; exact h)

def fq_wordAt_d (f_words : Nat → Int32) (L4c : Int32) : Nat → (Int32) → (Int32)
  | 0, L5d => L5d
  | n + 1, L5d => (if f_words ((L4c + L5d).toNatClampNeg) = 32 then L5d else fq_wordAt_d f_words L4c n (L5d + 1))
def fq_wordAt_e (f_tape : Nat → Int32) (f_words : Nat → Int32) (a0 : Int32) (L4c : Int32) (L5dx : Int32) : Nat → (Int32) → (Int32) → (Int32) × (Int32)
  | 0, L6e, L7e => (L6e, L7e)
  | n + 1, L6e, L7e => (if L5dx ≤ L7e then (L6e, L7e) else (if L6e = 0 then (L6e, L7e) else (if f_words ((L4c + L7e).toNatClampNeg) = f_tape ((a0 + L7e).toNatClampNeg) then fq_wordAt_e f_tape f_words a0 L4c L5dx n (1 : Int32) (L7e + 1) else fq_wordAt_e f_tape f_words a0 L4c L5dx n (0 : Int32) (L7e + 1))))
def fq_wordAt_c (f_tape : Nat → Int32) (f_words : Nat → Int32) (a0 : Int32) (a1 : Int32) : Nat → (Int32) → (Int32) → Int32
  | 0, L3c, L4c => (-1 : Int32)
  | n + 1, L3c, L4c => (if 118 ≤ L4c then (-1 : Int32) else (xL (fq_wordAt_d f_words L4c 118 (0 : Int32)) (fun X_4 => (if X_4 = (a1 - a0) then (xL (fq_wordAt_e f_tape f_words a0 L4c X_4 118 (1 : Int32) (0 : Int32)) (fun X_15 => (if X_15.1 = 0 then fq_wordAt_c f_tape f_words a0 a1 n (L3c + 1) (L4c + (X_4 + 1)) else L3c))) else (xL (fq_wordAt_e f_tape f_words a0 L4c X_4 118 (0 : Int32) (0 : Int32)) (fun X_7 => (if X_7.1 = 0 then fq_wordAt_c f_tape f_words a0 a1 n (L3c + 1) (L4c + (X_4 + 1)) else L3c)))))))
def fq_wordAt (f_tape : Nat → Int32) (f_words : Nat → Int32) (a0 : Int32) (a1 : Int32) : Int32 := fq_wordAt_c f_tape f_words a0 a1 118 (0 : Int32) (0 : Int32)
theorem gq_wordAt_s0 {y0 : Int32} {y1 : Int32} (h0 : ¬ (y0 < 0)) (h1 : y0 ≤ 118) (h2 : ¬ (y1 < 0)) (h3 : y1 ≤ 117) (h4 : (y0 + y1) ≤ 117) : ¬ ((y0 + (y1 + 1)) < 0) := by lia
theorem gq_wordAt_s1 {y0 : Int32} {y1 : Int32} (h0 : ¬ (y0 < 0)) (h1 : y0 ≤ 118) (h2 : ¬ (y1 < 0)) (h3 : y1 ≤ 117) (h4 : (y0 + y1) ≤ 117) : (y0 + (y1 + 1)) ≤ 118 := by lia
theorem gq_wordAt_s2 {y0 : Int32} {y1 : Int32} (h0 : ¬ (y0 < 0)) (h1 : y0 ≤ 118) (h2 : ¬ (y1 < 0)) (h3 : y1 ≤ 117) (h4 : (y0 + y1) ≤ 117) : (y0 + 1) ≤ (y0 + (y1 + 1)) := by lia
theorem gq_wordAt_s3 {y0 : Int32} {y1 : Int32} (h0 : ¬ (y0 < 0)) (h1 : y0 ≤ 118) (h2 : ¬ (y1 < 0)) (h3 : y1 ≤ 117) (h4 : (y0 + y1) ≤ 117) : y0 < 2000000000 := by lia
theorem gq_wordAt_s4 {y0 : Int32} {y1 : Int32} {y2 : Int32} (h0 : ¬ (y2 ≤ y1)) (h1 : ¬ (y0 < 0)) (h2 : y0 ≤ 118) (h3 : ¬ (y2 < 0)) (h4 : y2 ≤ 117) (h5 : (y0 + y2) ≤ 117) (h6 : ¬ (y1 < 0)) : ¬ ((y0 + y1) < 0) ∧ ¬ (118 ≤ (y0 + y1)) := by lia
theorem gq_wordAt_s5 {y0 : Int32} {y1 : Int32} {y2 : Int32} (h0 : ¬ (y1 ≤ y0)) (h1 : ¬ (y2 < 0)) (h2 : y2 ≤ 118) (h3 : ¬ (y1 < 0)) (h4 : y1 ≤ 117) (h5 : (y2 + y1) ≤ 117) (h6 : ¬ (y0 < 0)) : ¬ ((y0 + 1) < 0) := by lia
theorem gq_wordAt_s6 {y0 : Int32} {y1 : Int32} {y2 : Int32} (h0 : ¬ (y1 ≤ y0)) (h1 : ¬ (y2 < 0)) (h2 : y2 ≤ 118) (h3 : ¬ (y1 < 0)) (h4 : y1 ≤ 117) (h5 : (y2 + y1) ≤ 117) (h6 : ¬ (y0 < 0)) : ¬ ((y0 + 1) < 0) := gq_wordAt_s5 h0 h1 h2 h3 h4 h5 h6
theorem gq_wordAt_s7  : ¬ ((0 : Int32) < 0) := (by decide)
theorem gq_wordAt_s8 {y0 : Int32} {y1 : Int32} {y2 : Int32} {y3 : Int32} (h0 : ¬ (118 ≤ y1)) (h1 : ¬ (y0 = (y2 - y3))) (h2 : ¬ (y1 < 0)) (h3 : y1 ≤ 118) (h4 : ¬ (y0 < 0)) (h5 : y0 ≤ 117) (h6 : (y1 + y0) ≤ 117) (h7 : ¬ (y3 < 0)) (h8 : y2 ≤ 900) (h9 : y3 ≤ y2) : y0 ≤ 118 := by
  have l_y0 := y0.le_toInt
  have u_y0 := y0.toInt_lt
  have l_y1 := y1.le_toInt
  have u_y1 := y1.toInt_lt
  have l_y2 := y2.le_toInt
  have u_y2 := y2.toInt_lt
  have l_y3 := y3.le_toInt
  have u_y3 := y3.toInt_lt
  have h0 : y1.toInt < 118 := Int.not_le.mp (fun z => h0 (Int32.le_iff_toInt_le.mpr z))
  have h2 : 0 ≤ y1.toInt := Int.not_lt.mp (fun z => h2 (Int32.lt_iff_toInt_lt.mpr z))
  have h3 : y1.toInt ≤ 118 := Int32.le_iff_toInt_le.mp h3
  have h4 : 0 ≤ y0.toInt := Int.not_lt.mp (fun z => h4 (Int32.lt_iff_toInt_lt.mpr z))
  have h5 : y0.toInt ≤ 117 := Int32.le_iff_toInt_le.mp h5
  have h7 : 0 ≤ y3.toInt := Int.not_lt.mp (fun z => h7 (Int32.lt_iff_toInt_lt.mpr z))
  have h8 : y2.toInt ≤ 900 := Int32.le_iff_toInt_le.mp h8
  have h9 : y3.toInt ≤ y2.toInt := Int32.le_iff_toInt_le.mp h9
  have e16 : ((y2 - y3) : Int32).toInt = y2.toInt - y3.toInt := by rw [Int32.toInt_sub, Int.bmod_eq_of_le (by omega) (by omega)]
  have e17 : ((y1 + y0) : Int32).toInt = y1.toInt + y0.toInt := by rw [Int32.toInt_add, Int.bmod_eq_of_le (by omega) (by omega)]
  have h1 : ¬ (y0.toInt = ((y2 - y3) : Int32).toInt) := fun z => h1 (Int32.toInt_inj.mp z)
  have h6 : ((y1 + y0) : Int32).toInt ≤ 117 := Int32.le_iff_toInt_le.mp h6
  exact Int32.le_iff_toInt_le.mpr (show y0.toInt ≤ 118 by omega)
theorem gq_wordAt_s9 {y0 : Int32} {y1 : Int32} (h0 : ¬ (y0 < 0)) (h1 : y0 ≤ 118) (h2 : ¬ (y1 < 0)) (h3 : y1 ≤ 117) (h4 : (y0 + y1) ≤ 117) : ¬ ((y0 + (y1 + 1)) < 0) := gq_wordAt_s0 h0 h1 h2 h3 h4
theorem gq_wordAt_s10 {y0 : Int32} {y1 : Int32} (h0 : ¬ (y0 < 0)) (h1 : y0 ≤ 118) (h2 : ¬ (y1 < 0)) (h3 : y1 ≤ 117) (h4 : (y0 + y1) ≤ 117) : (y0 + (y1 + 1)) ≤ 118 := gq_wordAt_s1 h0 h1 h2 h3 h4
theorem gq_wordAt_s11 {y0 : Int32} {y1 : Int32} (h0 : ¬ (y0 < 0)) (h1 : y0 ≤ 118) (h2 : ¬ (y1 < 0)) (h3 : y1 ≤ 117) (h4 : (y0 + y1) ≤ 117) : (y0 + 1) ≤ (y0 + (y1 + 1)) := gq_wordAt_s2 h0 h1 h2 h3 h4
theorem gq_wordAt_s12 {y0 : Int32} {y1 : Int32} (h0 : ¬ (y0 < 0)) (h1 : y0 ≤ 118) (h2 : ¬ (y1 < 0)) (h3 : y1 ≤ 117) (h4 : (y0 + y1) ≤ 117) : y0 < 2000000000 := gq_wordAt_s3 h0 h1 h2 h3 h4
theorem gq_wordAt_s13 {y0 : Int32} {y1 : Int32} {y2 : Int32} (h0 : ¬ (y2 ≤ y1)) (h1 : ¬ (y0 < 0)) (h2 : y0 ≤ 118) (h3 : ¬ (y2 < 0)) (h4 : y2 ≤ 117) (h5 : (y0 + y2) ≤ 117) (h6 : ¬ (y1 < 0)) : ¬ ((y0 + y1) < 0) ∧ ¬ (118 ≤ (y0 + y1)) := gq_wordAt_s4 h0 h1 h2 h3 h4 h5 h6
theorem gq_wordAt_s14 {y0 : Int32} {y1 : Int32} {y2 : Int32} (h0 : ¬ (y1 ≤ y0)) (h1 : ¬ (y2 < 0)) (h2 : y2 ≤ 118) (h3 : ¬ (y1 < 0)) (h4 : y1 ≤ 117) (h5 : (y2 + y1) ≤ 117) (h6 : ¬ (y0 < 0)) : ¬ ((y0 + 1) < 0) := gq_wordAt_s5 h0 h1 h2 h3 h4 h5 h6
theorem gq_wordAt_s15 {y0 : Int32} {y1 : Int32} {y2 : Int32} (h0 : ¬ (y1 ≤ y0)) (h1 : ¬ (y2 < 0)) (h2 : y2 ≤ 118) (h3 : ¬ (y1 < 0)) (h4 : y1 ≤ 117) (h5 : (y2 + y1) ≤ 117) (h6 : ¬ (y0 < 0)) : ¬ ((y0 + 1) < 0) := gq_wordAt_s5 h0 h1 h2 h3 h4 h5 h6
theorem gq_wordAt_s16  : ¬ ((0 : Int32) < 0) := (by decide)
theorem gq_wordAt_s17 {y0 : Int32} {y1 : Int32} {y2 : Int32} {y3 : Int32} (h0 : ¬ (118 ≤ y1)) (h1 : y0 = (y2 - y3)) (h2 : ¬ (y1 < 0)) (h3 : y1 ≤ 118) (h4 : ¬ (y0 < 0)) (h5 : y0 ≤ 117) (h6 : (y1 + y0) ≤ 117) (h7 : ¬ (y3 < 0)) (h8 : y2 ≤ 900) (h9 : y3 ≤ y2) : y0 ≤ 118 := by
  have l_y0 := y0.le_toInt
  have u_y0 := y0.toInt_lt
  have l_y1 := y1.le_toInt
  have u_y1 := y1.toInt_lt
  have l_y2 := y2.le_toInt
  have u_y2 := y2.toInt_lt
  have l_y3 := y3.le_toInt
  have u_y3 := y3.toInt_lt
  have h0 : y1.toInt < 118 := Int.not_le.mp (fun z => h0 (Int32.le_iff_toInt_le.mpr z))
  have h2 : 0 ≤ y1.toInt := Int.not_lt.mp (fun z => h2 (Int32.lt_iff_toInt_lt.mpr z))
  have h3 : y1.toInt ≤ 118 := Int32.le_iff_toInt_le.mp h3
  have h4 : 0 ≤ y0.toInt := Int.not_lt.mp (fun z => h4 (Int32.lt_iff_toInt_lt.mpr z))
  have h5 : y0.toInt ≤ 117 := Int32.le_iff_toInt_le.mp h5
  have h7 : 0 ≤ y3.toInt := Int.not_lt.mp (fun z => h7 (Int32.lt_iff_toInt_lt.mpr z))
  have h8 : y2.toInt ≤ 900 := Int32.le_iff_toInt_le.mp h8
  have h9 : y3.toInt ≤ y2.toInt := Int32.le_iff_toInt_le.mp h9
  have e16 : ((y2 - y3) : Int32).toInt = y2.toInt - y3.toInt := by rw [Int32.toInt_sub, Int.bmod_eq_of_le (by omega) (by omega)]
  have e17 : ((y1 + y0) : Int32).toInt = y1.toInt + y0.toInt := by rw [Int32.toInt_add, Int.bmod_eq_of_le (by omega) (by omega)]
  have h1 : y0.toInt = ((y2 - y3) : Int32).toInt := congrArg Int32.toInt h1
  have h6 : ((y1 + y0) : Int32).toInt ≤ 117 := Int32.le_iff_toInt_le.mp h6
  exact Int32.le_iff_toInt_le.mpr (show y0.toInt ≤ 118 by omega)
theorem gq_wordAt_s18 {y0 : Int32} {y1 : Int32} (h0 : ¬ (y0 < 0)) (h1 : y0 ≤ 118) (h2 : ¬ (y1 < 0)) (h3 : y1 ≤ 117) (h4 : (y0 + y1) ≤ 117) : ¬ ((y0 + y1) < 0) ∧ ¬ (118 ≤ (y0 + y1)) := by lia
theorem gq_wordAt_s19 {y0 : Int32} {y1 : Int32} (h0 : ¬ (y1 < 0)) (h1 : y1 ≤ 118) (h2 : ¬ (y0 < 0)) (h3 : y0 ≤ 117) (h4 : (y1 + y0) ≤ 117) : ¬ (118 ≤ y0) := by lia
theorem gq_wordAt_s20 {y0 : Int32} {y1 : Int32} (h0 : ¬ (118 ≤ y1)) (h1 : ¬ (y1 < 0)) (h2 : y1 ≤ 118) (h3 : ¬ (y0 < 0)) (h4 : y0 ≤ 117) (h5 : (y1 + y0) ≤ 117) : ¬ (y0 < 0) := h3
theorem gq_wordAt_s21 {y0 : Int32} {y1 : Int32} (h0 : ¬ (118 ≤ y1)) (h1 : ¬ (y1 < 0)) (h2 : y1 ≤ 118) (h3 : ¬ (y0 < 0)) (h4 : y0 ≤ 117) (h5 : (y1 + y0) ≤ 117) : y0 ≤ 117 := h4
theorem gq_wordAt_s22 {y0 : Int32} {y1 : Int32} (h0 : ¬ (118 ≤ y0)) (h1 : ¬ (y0 < 0)) (h2 : y0 ≤ 118) (h3 : ¬ (y1 < 0)) (h4 : y1 ≤ 117) (h5 : (y0 + y1) ≤ 117) : (y0 + y1) ≤ 117 := h5
theorem gq_wordAt_s23 {y0 : Int32} {y1 : Int32} (h0 : ¬ (y0 < 0)) (h1 : y0 ≤ 118) (h2 : ¬ (y1 < 0)) (h3 : y1 ≤ 117) (h4 : (y0 + y1) ≤ 117) : ¬ ((y0 + y1) < 0) ∧ ¬ (118 ≤ (y0 + y1)) := gq_wordAt_s18 h0 h1 h2 h3 h4
theorem gq_wordAt_s24 {y0 : Int32} {y1 : Int32} (h0 : ¬ (118 ≤ y1)) (h1 : ¬ (y1 < 0)) (h2 : y1 ≤ 118) (h3 : ¬ (y0 < 0)) (h4 : y0 ≤ 117) (h5 : (y1 + y0) ≤ 117) : ¬ (y0 < 0) := gq_wordAt_s20 h0 h1 h2 h3 h4 h5
theorem gq_wordAt_s25 {y0 : Int32} {y1 : Int32} (h0 : ¬ (118 ≤ y1)) (h1 : ¬ (y1 < 0)) (h2 : y1 ≤ 118) (h3 : ¬ (y0 < 0)) (h4 : y0 ≤ 117) (h5 : (y1 + y0) ≤ 117) : y0 ≤ 117 := gq_wordAt_s21 h0 h1 h2 h3 h4 h5
theorem gq_wordAt_s26 {y0 : Int32} {y1 : Int32} (h0 : ¬ (118 ≤ y0)) (h1 : ¬ (y0 < 0)) (h2 : y0 ≤ 118) (h3 : ¬ (y1 < 0)) (h4 : y1 ≤ 117) (h5 : (y0 + y1) ≤ 117) : (y0 + y1) ≤ 117 := gq_wordAt_s22 h0 h1 h2 h3 h4 h5
theorem gq_wordAt_s27 {y0 : Int32} {y1 : Int32} (h0 : ¬ (118 ≤ y1)) (h1 : ¬ (y1 < 0)) (h2 : y1 ≤ 118) (h3 : ¬ (y0 < 0)) (h4 : y0 ≤ 117) (h5 : (y1 + y0) ≤ 117) : ¬ ((y0 + 1) < 0) := by lia
theorem gq_wordAt_s28 {y0 : Int32} {y1 : Int32} (h0 : ¬ ((y1 + y0) = 117)) (h1 : ¬ (y1 < 0)) (h2 : y1 ≤ 118) (h3 : ¬ (y0 < 0)) (h4 : y0 ≤ 117) (h5 : (y1 + y0) ≤ 117) : (y0 + 1) ≤ 117 := by lia
theorem gq_wordAt_s29 {y0 : Int32} {y1 : Int32} (h0 : ¬ ((y0 + y1) = 117)) (h1 : ¬ (y0 < 0)) (h2 : y0 ≤ 118) (h3 : ¬ (y1 < 0)) (h4 : y1 ≤ 117) (h5 : (y0 + y1) ≤ 117) : (y0 + (y1 + 1)) ≤ 117 := by lia
theorem gq_wordAt_s30 {y0 : Int32} {y1 : Int32} (h0 : ¬ (y1 < 0)) (h1 : y1 ≤ 118) (h2 : ¬ (y0 < 0)) (h3 : y0 ≤ 117) (h4 : (y1 + y0) ≤ 117) : y0 < 2000000000 := by lia
theorem gq_wordAt_s31  : ¬ ((0 : Int32) < 0) := (by decide)
theorem gq_wordAt_s32  : (0 : Int32) ≤ 117 := (by decide)
theorem gq_wordAt_s33 {y0 : Int32} (h0 : ¬ (118 ≤ y0)) (h1 : ¬ (y0 < 0)) (h2 : y0 ≤ 118) : (y0 + (0 : Int32)) ≤ 117 := by lia
theorem gq_wordAt_s34  : ¬ ((0 : Int32) < 0) := (by decide)
theorem gq_wordAt_s35  : (0 : Int32) ≤ 118 := (by decide)
theorem dX12_wordAt_0 : decode cX12_wordAt 0 = .ok (.iconst 0, 1) := zk_3 (by decide +kernel)
theorem dX12_wordAt_1 : decode cX12_wordAt 1 = .ok (.istore_n 3, 1) := zk_62 (by decide +kernel)
theorem dX12_wordAt_2 : decode cX12_wordAt 2 = .ok (.iconst 0, 1) := zk_3 (by decide +kernel)
theorem dX12_wordAt_3 : decode cX12_wordAt 3 = .ok (.istore 4, 2) := zk_54 (by decide +kernel)
theorem dX12_wordAt_5 : decode cX12_wordAt 5 = .ok (.iload 4, 2) := zk_21 (by decide +kernel)
theorem dX12_wordAt_7 : decode cX12_wordAt 7 = .ok (.aload_n 0, 1) := zk_42 (by decide +kernel)
theorem dX12_wordAt_8 : decode cX12_wordAt 8 = .ok (.getfield 13, 3) := zk_180 (by decide +kernel)
theorem dX12_wordAt_11 : decode cX12_wordAt 11 = .ok (.arraylength, 1) := zk_190 (by decide +kernel)
theorem dX12_wordAt_12 : decode cX12_wordAt 12 = .ok (.if_icmp .ge 114, 3) := zk_162 (by decide +kernel)
theorem dX12_wordAt_126 : decode cX12_wordAt 126 = .ok (.iconst (-1), 1) := zk_2 (by decide +kernel)
theorem dX12_wordAt_127 : decode cX12_wordAt 127 = .ok (.ireturn, 1) := zk_172 (by decide +kernel)
theorem dX12_wordAt_15 : decode cX12_wordAt 15 = .ok (.iconst 0, 1) := zk_3 (by decide +kernel)
theorem dX12_wordAt_16 : decode cX12_wordAt 16 = .ok (.istore 5, 2) := zk_54 (by decide +kernel)
theorem dX12_wordAt_39 : decode cX12_wordAt 39 = .ok (.iload 5, 2) := zk_21 (by decide +kernel)
theorem dX12_wordAt_41 : decode cX12_wordAt 41 = .ok (.iload_n 2, 1) := zk_28 (by decide +kernel)
theorem dX12_wordAt_42 : decode cX12_wordAt 42 = .ok (.iload_n 1, 1) := zk_27 (by decide +kernel)
theorem dX12_wordAt_43 : decode cX12_wordAt 43 = .ok (.isub, 1) := zk_100 (by decide +kernel)
theorem dX12_wordAt_44 : decode cX12_wordAt 44 = .ok (.if_icmp .ne 7, 3) := zk_160 (by decide +kernel)
theorem dX12_wordAt_51 : decode cX12_wordAt 51 = .ok (.iconst 0, 1) := zk_3 (by decide +kernel)
theorem dX12_wordAt_52 : decode cX12_wordAt 52 = .ok (.istore 6, 2) := zk_54 (by decide +kernel)
theorem dX12_wordAt_54 : decode cX12_wordAt 54 = .ok (.iconst 0, 1) := zk_3 (by decide +kernel)
theorem dX12_wordAt_55 : decode cX12_wordAt 55 = .ok (.istore 7, 2) := zk_54 (by decide +kernel)
theorem dX12_wordAt_104 : decode cX12_wordAt 104 = .ok (.iload 6, 2) := zk_21 (by decide +kernel)
theorem dX12_wordAt_106 : decode cX12_wordAt 106 = .ok (.ifCond .eq 5, 3) := zk_153 (by decide +kernel)
theorem dX12_wordAt_111 : decode cX12_wordAt 111 = .ok (.iload 4, 2) := zk_21 (by decide +kernel)
theorem dX12_wordAt_113 : decode cX12_wordAt 113 = .ok (.iload 5, 2) := zk_21 (by decide +kernel)
theorem dX12_wordAt_115 : decode cX12_wordAt 115 = .ok (.iconst 1, 1) := zk_4 (by decide +kernel)
theorem dX12_wordAt_116 : decode cX12_wordAt 116 = .ok (.iadd, 1) := zk_96 (by decide +kernel)
theorem dX12_wordAt_117 : decode cX12_wordAt 117 = .ok (.iadd, 1) := zk_96 (by decide +kernel)
theorem dX12_wordAt_118 : decode cX12_wordAt 118 = .ok (.istore 4, 2) := zk_54 (by decide +kernel)
theorem dX12_wordAt_120 : decode cX12_wordAt 120 = .ok (.iinc 3 1, 3) := zk_132 (by decide +kernel)
theorem dX12_wordAt_123 : decode cX12_wordAt 123 = .ok (.goto (-118), 3) := zk_167 (by decide +kernel)
theorem dX12_wordAt_109 : decode cX12_wordAt 109 = .ok (.iload_n 3, 1) := zk_29 (by decide +kernel)
theorem dX12_wordAt_110 : decode cX12_wordAt 110 = .ok (.ireturn, 1) := zk_172 (by decide +kernel)
theorem dX12_wordAt_57 : decode cX12_wordAt 57 = .ok (.iload 7, 2) := zk_21 (by decide +kernel)
theorem dX12_wordAt_59 : decode cX12_wordAt 59 = .ok (.iload 5, 2) := zk_21 (by decide +kernel)
theorem dX12_wordAt_61 : decode cX12_wordAt 61 = .ok (.if_icmp .ge 43, 3) := zk_162 (by decide +kernel)
theorem dX12_wordAt_64 : decode cX12_wordAt 64 = .ok (.iload 6, 2) := zk_21 (by decide +kernel)
theorem dX12_wordAt_66 : decode cX12_wordAt 66 = .ok (.ifCond .eq 38, 3) := zk_153 (by decide +kernel)
theorem dX12_wordAt_69 : decode cX12_wordAt 69 = .ok (.aload_n 0, 1) := zk_42 (by decide +kernel)
theorem dX12_wordAt_70 : decode cX12_wordAt 70 = .ok (.getfield 13, 3) := zk_180 (by decide +kernel)
theorem dX12_wordAt_73 : decode cX12_wordAt 73 = .ok (.iload 4, 2) := zk_21 (by decide +kernel)
theorem dX12_wordAt_75 : decode cX12_wordAt 75 = .ok (.iload 7, 2) := zk_21 (by decide +kernel)
theorem dX12_wordAt_77 : decode cX12_wordAt 77 = .ok (.iadd, 1) := zk_96 (by decide +kernel)
theorem dX12_wordAt_78 : decode cX12_wordAt 78 = .ok (.iaload, 1) := zk_46 (by decide +kernel)
theorem dX12_wordAt_79 : decode cX12_wordAt 79 = .ok (.aload_n 0, 1) := zk_42 (by decide +kernel)
theorem dX12_wordAt_80 : decode cX12_wordAt 80 = .ok (.getfield 7, 3) := zk_180 (by decide +kernel)
theorem dX12_wordAt_83 : decode cX12_wordAt 83 = .ok (.iload_n 1, 1) := zk_27 (by decide +kernel)
theorem dX12_wordAt_84 : decode cX12_wordAt 84 = .ok (.iload 7, 2) := zk_21 (by decide +kernel)
theorem dX12_wordAt_86 : decode cX12_wordAt 86 = .ok (.iadd, 1) := zk_96 (by decide +kernel)
theorem dX12_wordAt_87 : decode cX12_wordAt 87 = .ok (.iaload, 1) := zk_46 (by decide +kernel)
theorem dX12_wordAt_88 : decode cX12_wordAt 88 = .ok (.if_icmp .ne 7, 3) := zk_160 (by decide +kernel)
theorem dX12_wordAt_95 : decode cX12_wordAt 95 = .ok (.iconst 0, 1) := zk_3 (by decide +kernel)
theorem dX12_wordAt_96 : decode cX12_wordAt 96 = .ok (.istore 6, 2) := zk_54 (by decide +kernel)
theorem dX12_wordAt_98 : decode cX12_wordAt 98 = .ok (.iinc 7 1, 3) := zk_132 (by decide +kernel)
theorem dX12_wordAt_101 : decode cX12_wordAt 101 = .ok (.goto (-44), 3) := zk_167 (by decide +kernel)
theorem dX12_wordAt_91 : decode cX12_wordAt 91 = .ok (.iconst 1, 1) := zk_4 (by decide +kernel)
theorem dX12_wordAt_92 : decode cX12_wordAt 92 = .ok (.goto 4, 3) := zk_167 (by decide +kernel)
theorem dX12_wordAt_47 : decode cX12_wordAt 47 = .ok (.iconst 1, 1) := zk_4 (by decide +kernel)
theorem dX12_wordAt_48 : decode cX12_wordAt 48 = .ok (.goto 4, 3) := zk_167 (by decide +kernel)
theorem dX12_wordAt_18 : decode cX12_wordAt 18 = .ok (.aload_n 0, 1) := zk_42 (by decide +kernel)
theorem dX12_wordAt_19 : decode cX12_wordAt 19 = .ok (.getfield 13, 3) := zk_180 (by decide +kernel)
theorem dX12_wordAt_22 : decode cX12_wordAt 22 = .ok (.iload 4, 2) := zk_21 (by decide +kernel)
theorem dX12_wordAt_24 : decode cX12_wordAt 24 = .ok (.iload 5, 2) := zk_21 (by decide +kernel)
theorem dX12_wordAt_26 : decode cX12_wordAt 26 = .ok (.iadd, 1) := zk_96 (by decide +kernel)
theorem dX12_wordAt_27 : decode cX12_wordAt 27 = .ok (.iaload, 1) := zk_46 (by decide +kernel)
theorem dX12_wordAt_28 : decode cX12_wordAt 28 = .ok (.bipush 32, 2) := zk_16 (by decide +kernel)
theorem dX12_wordAt_30 : decode cX12_wordAt 30 = .ok (.if_icmp .eq 9, 3) := zk_159 (by decide +kernel)
theorem dX12_wordAt_33 : decode cX12_wordAt 33 = .ok (.iinc 5 1, 3) := zk_132 (by decide +kernel)
theorem dX12_wordAt_36 : decode cX12_wordAt 36 = .ok (.goto (-18), 3) := zk_167 (by decide +kernel)
set_option maxHeartbeats 4000000 in
set_option maxRecDepth 100000 in
theorem gq_wordAt (l : Launch) (dC : Nat → ClassId) (dI : Nat → Nat → Nat) (mq : Nat) (g : Nat → Int32) (gl : Nat → Int64) (rf : Nat → Nat) (ck : Nat → ClassId) (f_tape : Nat → Int32) (f_words : Nat → Int32) (a0 : Int32) (a1 : Int32) (hk0 : ¬ a0 < 0) (hk1 : a1 ≤ 900) (hk3 : a0 ≤ a1) (hw7 : (f_words 117) = 32) : Met l yX12_wordAt (Cond.code yX12_wordAt cX12_wordAt 8 (some .int) :: wsL_law) ({ frames := 0, cells := 0, slots := 0, locals := 0 }) (va_Pc [.ref mq, .int a0, .int a1] (fun U => va_P (dC, dI) vwCl [(mq, .inr (12, mF g gl rf)), (eA0 (rf 0) (ck 0) 900 f_tape), (eA0 (rf 3) (ck 3) 118 f_words)] U.heap ∧ va_K (dC, dI) vwCl [((ck 0), .int), ((ck 3), .int)] U)) (vp_Si (fun r => r = fq_wordAt f_tape f_words a0 a1)) 0 0 (fun _ => False) := by
  refine Met.ofW (cc := cX12_wordAt) (maxL := 8) (ret := (some .int)) (by decide) rfl ?_
  intro p e s m args below meth c s₁ B hml hv
  obtain ⟨rfl, hP, hK⟩ := hv
  have hx := B.exec
  have hb := B.bytes
  have hr := B.returns
  have hts := atoms_spec (ws := Cond.code yX12_wordAt cX12_wordAt 8 (some .int) :: wsL_law) B.pre
  have htw : ∀ w ∈ wsL_law, w.before _ s = true := fun w h => hts w (List.mem_cons_of_mem _ h)
  have hown : s.vm.findClass RX12 = some m.cls := findClass_of_methodNamed B.named
  have hlocks := B.notSynchronized
  have hl := lv_entry ([.ref mq, .int a0, .int a1]) (n := 8) (Nat.le_of_ble_eq_true rfl)
  rw [lg_entry_eq]
  generalize (lg_sl ([.ref mq, .int a0, .int a1]) ++ List.replicate (8 - (lg_sl ([.ref mq, .int a0, .int a1])).length) Slot.unset).toArray = ls at hl ⊢
  have hl : lv_has ls 8 [(0, .ref mq), (1, .int a0), (2, .int a1)] := hl
  refine lv_iconst (v := 0) hx hb dX12_wordAt_0 (by decide) ?_
  refine lv_istore_n (lv' := [(3, .int 0), (0, .ref mq), (1, .int a0), (2, .int a1)]) hx hb dX12_wordAt_1 rfl hl (by decide) rfl (fun ls hl => ?_)
  refine lv_iconst (v := 0) hx hb dX12_wordAt_2 (by decide) ?_
  refine lv_istore (lv' := [(4, .int 0), (3, .int 0), (0, .ref mq), (1, .int a0), (2, .int a1)]) hx hb dX12_wordAt_3 hl (by decide) rfl (fun ls hl => ?_)
  have hloop_1 : ∀ (n : Nat) (L3c : Int32) (L4c : Int32) (hc0 : ¬ L4c < 0) (hc8 : L4c ≤ 118) (hcf : (118 : Int32).toInt ≤ L4c.toInt + (n : Int)) (hI_c : fq_wordAt f_tape f_words a0 a1 = fq_wordAt_c f_tape f_words a0 a1 n L3c L4c) (ls : Array Slot) (hl : lv_has ls 8 [(4, .int L4c), (3, .int L3c), (0, .ref mq), (1, .int a0), (2, .int a1)]), W p l e (headSpec (Cond.code yX12_wordAt cX12_wordAt 8 (some .int) :: wsL_law) ({ frames := 0, cells := 0, slots := 0, locals := 0 })).room s m ([.ref mq, .int a0, .int a1] : List Value).toArray below meth c s.heap [] 0 0 (MQ below (vp_Si (fun r => r = fq_wordAt f_tape f_words a0 a1)) ([.ref mq, .int a0, .int a1] : List Value).toArray s 0 0 (fun _ => False)) (F0 m 5 ls []) := by
    intro n
    induction n with
    | zero =>
      intro L3c L4c hc0 hc8 hcf hI_c ls hl
      refine lv_iload hx hb dX12_wordAt_5 (lv_at hl 0 rfl) ?_
      refine lv_aload_n hx hb dX12_wordAt_7 rfl (lv_at hl 2 rfl) ?_
      refine va_get (D := (dC, dI)) (ci := 12) (v := .ref (rf 3)) (C := RX12) (T := TX12) (N := 76) hx hb htw inlX12 hown hK hP 0 rfl rfl 3 (by decide) (htw _ (ck_9 _ (List.mem_of_getElem? (i := 5) rfl))) (fun _ h9 => h9) rfl dX12_wordAt_8 ?_
      refine va_alen hx hb hK hP 2 1 rfl rfl (v := 118) rfl dX12_wordAt_11 ?_
      refine lv_icmp_ge (tgt := 126) hx hb dX12_wordAt_12 (by decide) (fun c_2 => ?_) (fun c_2 => absurd c_2 (fun h => h (xi_z hcf)))
      refine lv_iconst (v := (-1)) hx hb dX12_wordAt_126 (by decide) ?_
      exact W.iret (v := (-1)) hx hb hr (fun t ht hW => ⟨(-1), rfl, (Eq.symm (hI_c.trans (by rw [fq_wordAt_c]; try rfl))), ht⟩) (fun _ h => by cases h) dX12_wordAt_127
    | succ n ih =>
      intro L3c L4c hc0 hc8 hcf hI_c ls hl
      refine lv_iload hx hb dX12_wordAt_5 (lv_at hl 0 rfl) ?_
      refine lv_aload_n hx hb dX12_wordAt_7 rfl (lv_at hl 2 rfl) ?_
      refine va_get (D := (dC, dI)) (ci := 12) (v := .ref (rf 3)) (C := RX12) (T := TX12) (N := 76) hx hb htw inlX12 hown hK hP 0 rfl rfl 3 (by decide) (htw _ (ck_9 _ (List.mem_of_getElem? (i := 5) rfl))) (fun _ h9 => h9) rfl dX12_wordAt_8 ?_
      refine va_alen hx hb hK hP 2 1 rfl rfl (v := 118) rfl dX12_wordAt_11 ?_
      refine lv_icmp_ge (tgt := 126) hx hb dX12_wordAt_12 (by decide) (fun c_3 => ?_) (fun c_3 => ?_)
      · refine lv_iconst (v := (-1)) hx hb dX12_wordAt_126 (by decide) ?_
        exact W.iret (v := (-1)) hx hb hr (fun t ht hW => ⟨(-1), rfl, (Eq.symm (hI_c.trans (by rw [fq_wordAt_c]; (try rw [if_pos c_3]); try rfl))), ht⟩) (fun _ h => by cases h) dX12_wordAt_127
      · refine lv_iconst (v := 0) hx hb dX12_wordAt_15 (by decide) ?_
        refine lv_istore (lv' := [(5, .int 0), (4, .int L4c), (3, .int L3c), (0, .ref mq), (1, .int a0), (2, .int a1)]) hx hb dX12_wordAt_16 hl (by decide) rfl (fun ls hl => ?_)
        obtain ⟨X_4, hX_4⟩ : ∃ X9 : (Int32), X9 = fq_wordAt_d f_words L4c 118 (0 : Int32) := ⟨_, rfl⟩
        have hexit_5 : ∀ (L5dx : Int32) (hx0 : ¬ L5dx < 0) (hx9 : L5dx ≤ 117) (hx7 : (L4c + L5dx) ≤ 117) (hE9 : X_4 = L5dx) (ls : Array Slot) (hl : lv_has ls 8 [(5, .int L5dx), (4, .int L4c), (3, .int L3c), (0, .ref mq), (1, .int a0), (2, .int a1)]), W p l e (headSpec (Cond.code yX12_wordAt cX12_wordAt 8 (some .int) :: wsL_law) ({ frames := 0, cells := 0, slots := 0, locals := 0 })).room s m ([.ref mq, .int a0, .int a1] : List Value).toArray below meth c s.heap [] 0 0 (MQ below (vp_Si (fun r => r = fq_wordAt f_tape f_words a0 a1)) ([.ref mq, .int a0, .int a1] : List Value).toArray s 0 0 (fun _ => False)) (F0 m 39 ls []) := by
          intro L5dx hx0 hx9 hx7 hE9 ls hl
          have hq_L5dx : L5dx = X_4 := by rw [hE9]
          refine lv_iload hx hb dX12_wordAt_39 (lv_at hl 0 rfl) ?_
          refine lv_iload_n hx hb dX12_wordAt_41 rfl (lv_at hl 5 rfl) ?_
          refine lv_iload_n hx hb dX12_wordAt_42 rfl (lv_at hl 4 rfl) ?_
          refine lv_isub hx hb dX12_wordAt_43 ?_
          refine lv_icmp_ne (tgt := 51) hx hb dX12_wordAt_44 (by decide) (fun c_6 => ?_) (fun c_6 => ?_)
          · refine lv_iconst (v := 0) hx hb dX12_wordAt_51 (by decide) ?_
            refine lv_istore (lv' := [(6, .int 0), (5, .int L5dx), (4, .int L4c), (3, .int L3c), (0, .ref mq), (1, .int a0), (2, .int a1)]) hx hb dX12_wordAt_52 hl (by decide) rfl (fun ls hl => ?_)
            refine lv_iconst (v := 0) hx hb dX12_wordAt_54 (by decide) ?_
            refine lv_istore (lv' := [(7, .int 0), (6, .int 0), (5, .int L5dx), (4, .int L4c), (3, .int L3c), (0, .ref mq), (1, .int a0), (2, .int a1)]) hx hb dX12_wordAt_55 hl (by decide) rfl (fun ls hl => ?_)
            obtain ⟨X_7, hX_7⟩ : ∃ X9 : (Int32) × (Int32), X9 = fq_wordAt_e f_tape f_words a0 L4c L5dx 118 (0 : Int32) (0 : Int32) := ⟨_, rfl⟩
            have hexit_8 : ∀ (L6ex : Int32) (L7ex : Int32)  (hE9 : X_7 = (L6ex, L7ex)) (ls : Array Slot) (hl : lv_has ls 8 [(7, .int L7ex), (6, .int L6ex), (5, .int L5dx), (4, .int L4c), (3, .int L3c), (0, .ref mq), (1, .int a0), (2, .int a1)]), W p l e (headSpec (Cond.code yX12_wordAt cX12_wordAt 8 (some .int) :: wsL_law) ({ frames := 0, cells := 0, slots := 0, locals := 0 })).room s m ([.ref mq, .int a0, .int a1] : List Value).toArray below meth c s.heap [] 0 0 (MQ below (vp_Si (fun r => r = fq_wordAt f_tape f_words a0 a1)) ([.ref mq, .int a0, .int a1] : List Value).toArray s 0 0 (fun _ => False)) (F0 m 104 ls []) := by
              intro L6ex L7ex  hE9 ls hl
              have hq_L6ex : L6ex = X_7.1 := by rw [hE9]
              have hq_L7ex : L7ex = X_7.2 := by rw [hE9]
              refine lv_iload hx hb dX12_wordAt_104 (lv_at hl 1 rfl) ?_
              refine lv_if_eq (tgt := 111) hx hb dX12_wordAt_106 (by decide) (fun c_9 => ?_) (fun c_9 => ?_)
              · refine lv_iload hx hb dX12_wordAt_111 (lv_at hl 3 rfl) ?_
                refine lv_iload hx hb dX12_wordAt_113 (lv_at hl 2 rfl) ?_
                refine lv_iconst (v := 1) hx hb dX12_wordAt_115 (by decide) ?_
                refine lv_iadd hx hb dX12_wordAt_116 ?_
                refine lv_iadd hx hb dX12_wordAt_117 ?_
                refine lv_istore (lv' := [(4, .int (L4c + (L5dx + 1))), (7, .int L7ex), (6, .int L6ex), (5, .int L5dx), (3, .int L3c), (0, .ref mq), (1, .int a0), (2, .int a1)]) hx hb dX12_wordAt_118 hl (by decide) rfl (fun ls hl => ?_)
                refine lv_iinc (v := (L3c + 1)) (lv' := [(3, .int (L3c + 1)), (4, .int (L4c + (L5dx + 1))), (7, .int L7ex), (6, .int L6ex), (5, .int L5dx), (0, .ref mq), (1, .int a0), (2, .int a1)]) hx hb dX12_wordAt_120 hl (k := 4) rfl (rfl) (by decide) rfl (fun ls hl => ?_)
                refine lv_goto (tgt := 5) hx hb dX12_wordAt_123 (by decide) ?_
                exact ih (L3c + 1) (L4c + (L5dx + 1)) (gq_wordAt_s0 (y0 := L4c) (y1 := L5dx) hc0 hc8 hx0 hx9 hx7) (gq_wordAt_s1 (y0 := L4c) (y1 := L5dx) hc0 hc8 hx0 hx9 hx7) (by have h9 := (gq_wordAt_s2 (y0 := L4c) (y1 := L5dx) hc0 hc8 hx0 hx9 hx7); have h8 := xi_le h9; rw [xi_s (b := 2000000000) (gq_wordAt_s3 (y0 := L4c) (y1 := L5dx) hc0 hc8 hx0 hx9 hx7)] at h8; omega) (hI_c.trans (by rw [fq_wordAt_c]; (try rw [if_neg c_3]); (try rw [← hX_4]); (try rw [xL_eq]); (try rw [← hq_L5dx]); (try rw [if_neg c_6]); (try rw [← hX_7]); (try rw [xL_eq]); (try rw [← hq_L6ex]); (try rw [← hq_L7ex]); (try rw [if_pos c_9]); try rfl)) ls (lv_sub hl [1, 0, 5, 6, 7] rfl)
              · refine lv_iload_n hx hb dX12_wordAt_109 rfl (lv_at hl 4 rfl) ?_
                exact W.iret (v := L3c) hx hb hr (fun t ht hW => ⟨L3c, rfl, (Eq.symm (hI_c.trans (by rw [fq_wordAt_c]; (try rw [if_neg c_3]); (try rw [← hX_4]); (try rw [xL_eq]); (try rw [← hq_L5dx]); (try rw [if_neg c_6]); (try rw [← hX_7]); (try rw [xL_eq]); (try rw [← hq_L6ex]); (try rw [← hq_L7ex]); (try rw [if_neg c_9]); try rfl))), ht⟩) (fun _ h => by cases h) dX12_wordAt_110
            have hloop_10 : ∀ (n : Nat) (L6e : Int32) (L7e : Int32) (he0 : ¬ L7e < 0) (hsm : L6e = 0 ∨ L5dx = (a1 - a0)) (hef : L5dx.toInt ≤ L7e.toInt + (n : Int)) (hI_e : X_7 = fq_wordAt_e f_tape f_words a0 L4c L5dx n L6e L7e) (ls : Array Slot) (hl : lv_has ls 8 [(7, .int L7e), (6, .int L6e), (5, .int L5dx), (4, .int L4c), (3, .int L3c), (0, .ref mq), (1, .int a0), (2, .int a1)]), W p l e (headSpec (Cond.code yX12_wordAt cX12_wordAt 8 (some .int) :: wsL_law) ({ frames := 0, cells := 0, slots := 0, locals := 0 })).room s m ([.ref mq, .int a0, .int a1] : List Value).toArray below meth c s.heap [] 0 0 (MQ below (vp_Si (fun r => r = fq_wordAt f_tape f_words a0 a1)) ([.ref mq, .int a0, .int a1] : List Value).toArray s 0 0 (fun _ => False)) (F0 m 57 ls []) := by
              intro n
              induction n with
              | zero =>
                intro L6e L7e he0 hsm hef hI_e ls hl
                refine lv_iload hx hb dX12_wordAt_57 (lv_at hl 0 rfl) ?_
                refine lv_iload hx hb dX12_wordAt_59 (lv_at hl 2 rfl) ?_
                refine lv_icmp_ge (tgt := 104) hx hb dX12_wordAt_61 (by decide) (fun c_11 => ?_) (fun c_11 => absurd c_11 (fun h => h (xi_z hef)))
                exact hexit_8 L6e L7e  (hI_e.trans (by rw [fq_wordAt_e]; try rfl)) ls (lv_sub hl [0, 1, 2, 3, 4, 5, 6, 7] rfl)
              | succ n ih =>
                intro L6e L7e he0 hsm hef hI_e ls hl
                refine lv_iload hx hb dX12_wordAt_57 (lv_at hl 0 rfl) ?_
                refine lv_iload hx hb dX12_wordAt_59 (lv_at hl 2 rfl) ?_
                refine lv_icmp_ge (tgt := 104) hx hb dX12_wordAt_61 (by decide) (fun c_12 => ?_) (fun c_12 => ?_)
                · exact hexit_8 L6e L7e  (hI_e.trans (by rw [fq_wordAt_e]; (try rw [if_pos c_12]); try rfl)) ls (lv_sub hl [0, 1, 2, 3, 4, 5, 6, 7] rfl)
                · refine lv_iload hx hb dX12_wordAt_64 (lv_at hl 1 rfl) ?_
                  refine lv_if_eq (tgt := 104) hx hb dX12_wordAt_66 (by decide) (fun c_13 => ?_) (fun c_13 => ?_)
                  · exact hexit_8 L6e L7e  (hI_e.trans (by rw [fq_wordAt_e]; (try rw [if_neg c_12]); (try rw [if_pos c_13]); try rfl)) ls (lv_sub hl [0, 1, 2, 3, 4, 5, 6, 7] rfl)
                  · refine lv_aload_n hx hb dX12_wordAt_69 rfl (lv_at hl 5 rfl) ?_
                    refine va_get (D := (dC, dI)) (ci := 12) (v := .ref (rf 3)) (C := RX12) (T := TX12) (N := 76) hx hb htw inlX12 hown hK hP 0 rfl rfl 3 (by decide) (htw _ (ck_9 _ (List.mem_of_getElem? (i := 5) rfl))) (fun _ h9 => h9) rfl dX12_wordAt_70 ?_
                    refine lv_iload hx hb dX12_wordAt_73 (lv_at hl 3 rfl) ?_
                    refine lv_iload hx hb dX12_wordAt_75 (lv_at hl 0 rfl) ?_
                    refine lv_iadd hx hb dX12_wordAt_77 ?_
                    refine va_iald hx hb hK hP 2 1 rfl rfl (xg_inr (N := 118) rfl (gq_wordAt_s4 (y0 := L4c) (y1 := L7e) (y2 := L5dx) c_12 hc0 hc8 hx0 hx9 hx7 he0).1 (gq_wordAt_s4 (y0 := L4c) (y1 := L7e) (y2 := L5dx) c_12 hc0 hc8 hx0 hx9 hx7 he0).2) dX12_wordAt_78 ?_
                    refine lv_aload_n hx hb dX12_wordAt_79 rfl (lv_at hl 5 rfl) ?_
                    refine va_get (D := (dC, dI)) (ci := 12) (v := .ref (rf 0)) (C := RX12) (T := TX12) (N := 76) hx hb htw inlX12 hown hK hP 0 rfl rfl 0 (by decide) (htw _ (ck_9 _ (List.mem_of_getElem? (i := 4) rfl))) (fun _ h9 => h9) rfl dX12_wordAt_80 ?_
                    refine lv_iload_n hx hb dX12_wordAt_83 rfl (lv_at hl 6 rfl) ?_
                    refine lv_iload hx hb dX12_wordAt_84 (lv_at hl 0 rfl) ?_
                    refine lv_iadd hx hb dX12_wordAt_86 ?_
                    refine va_iald hx hb hK hP 1 0 rfl rfl (xw_tape (hsm.resolve_left c_13) c_12 he0 hk0 hk1 hk3) dX12_wordAt_87 ?_
                    refine lv_icmp_ne (tgt := 95) hx hb dX12_wordAt_88 (by decide) (fun c_14 => ?_) (fun c_14 => ?_)
                    · refine lv_iconst (v := 0) hx hb dX12_wordAt_95 (by decide) ?_
                      refine lv_istore (lv' := [(6, .int 0), (7, .int L7e), (5, .int L5dx), (4, .int L4c), (3, .int L3c), (0, .ref mq), (1, .int a0), (2, .int a1)]) hx hb dX12_wordAt_96 hl (by decide) rfl (fun ls hl => ?_)
                      refine lv_iinc (v := (L7e + 1)) (lv' := [(7, .int (L7e + 1)), (6, .int 0), (5, .int L5dx), (4, .int L4c), (3, .int L3c), (0, .ref mq), (1, .int a0), (2, .int a1)]) hx hb dX12_wordAt_98 hl (k := 1) rfl (rfl) (by decide) rfl (fun ls hl => ?_)
                      refine lv_goto (tgt := 57) hx hb dX12_wordAt_101 (by decide) ?_
                      exact ih (0 : Int32) (L7e + 1) (gq_wordAt_s5 (y0 := L7e) (y1 := L5dx) (y2 := L4c) c_12 hc0 hc8 hx0 hx9 hx7 he0) (Or.inl rfl) (by rw [xi_s' c_12]; omega) (hI_e.trans (by rw [fq_wordAt_e]; (try rw [if_neg c_12]); (try rw [if_neg c_13]); (try rw [if_neg c_14]); try rfl)) ls (lv_sub hl [0, 1, 2, 3, 4, 5, 6, 7] rfl)
                    · refine lv_iconst (v := 1) hx hb dX12_wordAt_91 (by decide) ?_
                      refine lv_goto (tgt := 96) hx hb dX12_wordAt_92 (by decide) ?_
                      refine lv_istore (lv' := [(6, .int 1), (7, .int L7e), (5, .int L5dx), (4, .int L4c), (3, .int L3c), (0, .ref mq), (1, .int a0), (2, .int a1)]) hx hb dX12_wordAt_96 hl (by decide) rfl (fun ls hl => ?_)
                      refine lv_iinc (v := (L7e + 1)) (lv' := [(7, .int (L7e + 1)), (6, .int 1), (5, .int L5dx), (4, .int L4c), (3, .int L3c), (0, .ref mq), (1, .int a0), (2, .int a1)]) hx hb dX12_wordAt_98 hl (k := 1) rfl (rfl) (by decide) rfl (fun ls hl => ?_)
                      refine lv_goto (tgt := 57) hx hb dX12_wordAt_101 (by decide) ?_
                      exact ih (1 : Int32) (L7e + 1) (gq_wordAt_s6 (y0 := L7e) (y1 := L5dx) (y2 := L4c) c_12 hc0 hc8 hx0 hx9 hx7 he0) (Or.inr (hsm.resolve_left c_13)) (by rw [xi_s' c_12]; omega) (hI_e.trans (by rw [fq_wordAt_e]; (try rw [if_neg c_12]); (try rw [if_neg c_13]); (try rw [if_pos c_14]); try rfl)) ls (lv_sub hl [0, 1, 2, 3, 4, 5, 6, 7] rfl)
            exact hloop_10 118 (0 : Int32) (0 : Int32) (gq_wordAt_s7 ) (Or.inl rfl) (by have h9 := xi_le (gq_wordAt_s8 (y0 := L5dx) (y1 := L4c) (y2 := a1) (y3 := a0) c_3 c_6 hc0 hc8 hx0 hx9 hx7 hk0 hk1 hk3); have e9 : (118 : Int32).toInt = 118 := rfl; have e0 : (0 : Int32).toInt = 0 := rfl; omega) (hX_7) ls (lv_sub hl [0, 1, 2, 3, 4, 5, 6, 7] rfl)
          · refine lv_iconst (v := 1) hx hb dX12_wordAt_47 (by decide) ?_
            refine lv_goto (tgt := 52) hx hb dX12_wordAt_48 (by decide) ?_
            refine lv_istore (lv' := [(6, .int 1), (5, .int L5dx), (4, .int L4c), (3, .int L3c), (0, .ref mq), (1, .int a0), (2, .int a1)]) hx hb dX12_wordAt_52 hl (by decide) rfl (fun ls hl => ?_)
            refine lv_iconst (v := 0) hx hb dX12_wordAt_54 (by decide) ?_
            refine lv_istore (lv' := [(7, .int 0), (6, .int 1), (5, .int L5dx), (4, .int L4c), (3, .int L3c), (0, .ref mq), (1, .int a0), (2, .int a1)]) hx hb dX12_wordAt_55 hl (by decide) rfl (fun ls hl => ?_)
            obtain ⟨X_15, hX_15⟩ : ∃ X9 : (Int32) × (Int32), X9 = fq_wordAt_e f_tape f_words a0 L4c L5dx 118 (1 : Int32) (0 : Int32) := ⟨_, rfl⟩
            have hexit_16 : ∀ (L6ex : Int32) (L7ex : Int32)  (hE9 : X_15 = (L6ex, L7ex)) (ls : Array Slot) (hl : lv_has ls 8 [(7, .int L7ex), (6, .int L6ex), (5, .int L5dx), (4, .int L4c), (3, .int L3c), (0, .ref mq), (1, .int a0), (2, .int a1)]), W p l e (headSpec (Cond.code yX12_wordAt cX12_wordAt 8 (some .int) :: wsL_law) ({ frames := 0, cells := 0, slots := 0, locals := 0 })).room s m ([.ref mq, .int a0, .int a1] : List Value).toArray below meth c s.heap [] 0 0 (MQ below (vp_Si (fun r => r = fq_wordAt f_tape f_words a0 a1)) ([.ref mq, .int a0, .int a1] : List Value).toArray s 0 0 (fun _ => False)) (F0 m 104 ls []) := by
              intro L6ex L7ex  hE9 ls hl
              have hq_L6ex : L6ex = X_15.1 := by rw [hE9]
              have hq_L7ex : L7ex = X_15.2 := by rw [hE9]
              refine lv_iload hx hb dX12_wordAt_104 (lv_at hl 1 rfl) ?_
              refine lv_if_eq (tgt := 111) hx hb dX12_wordAt_106 (by decide) (fun c_17 => ?_) (fun c_17 => ?_)
              · refine lv_iload hx hb dX12_wordAt_111 (lv_at hl 3 rfl) ?_
                refine lv_iload hx hb dX12_wordAt_113 (lv_at hl 2 rfl) ?_
                refine lv_iconst (v := 1) hx hb dX12_wordAt_115 (by decide) ?_
                refine lv_iadd hx hb dX12_wordAt_116 ?_
                refine lv_iadd hx hb dX12_wordAt_117 ?_
                refine lv_istore (lv' := [(4, .int (L4c + (L5dx + 1))), (7, .int L7ex), (6, .int L6ex), (5, .int L5dx), (3, .int L3c), (0, .ref mq), (1, .int a0), (2, .int a1)]) hx hb dX12_wordAt_118 hl (by decide) rfl (fun ls hl => ?_)
                refine lv_iinc (v := (L3c + 1)) (lv' := [(3, .int (L3c + 1)), (4, .int (L4c + (L5dx + 1))), (7, .int L7ex), (6, .int L6ex), (5, .int L5dx), (0, .ref mq), (1, .int a0), (2, .int a1)]) hx hb dX12_wordAt_120 hl (k := 4) rfl (rfl) (by decide) rfl (fun ls hl => ?_)
                refine lv_goto (tgt := 5) hx hb dX12_wordAt_123 (by decide) ?_
                exact ih (L3c + 1) (L4c + (L5dx + 1)) (gq_wordAt_s9 (y0 := L4c) (y1 := L5dx) hc0 hc8 hx0 hx9 hx7) (gq_wordAt_s10 (y0 := L4c) (y1 := L5dx) hc0 hc8 hx0 hx9 hx7) (by have h9 := (gq_wordAt_s11 (y0 := L4c) (y1 := L5dx) hc0 hc8 hx0 hx9 hx7); have h8 := xi_le h9; rw [xi_s (b := 2000000000) (gq_wordAt_s12 (y0 := L4c) (y1 := L5dx) hc0 hc8 hx0 hx9 hx7)] at h8; omega) (hI_c.trans (by rw [fq_wordAt_c]; (try rw [if_neg c_3]); (try rw [← hX_4]); (try rw [xL_eq]); (try rw [← hq_L5dx]); (try rw [if_pos c_6]); (try rw [← hX_15]); (try rw [xL_eq]); (try rw [← hq_L6ex]); (try rw [← hq_L7ex]); (try rw [if_pos c_17]); try rfl)) ls (lv_sub hl [1, 0, 5, 6, 7] rfl)
              · refine lv_iload_n hx hb dX12_wordAt_109 rfl (lv_at hl 4 rfl) ?_
                exact W.iret (v := L3c) hx hb hr (fun t ht hW => ⟨L3c, rfl, (Eq.symm (hI_c.trans (by rw [fq_wordAt_c]; (try rw [if_neg c_3]); (try rw [← hX_4]); (try rw [xL_eq]); (try rw [← hq_L5dx]); (try rw [if_pos c_6]); (try rw [← hX_15]); (try rw [xL_eq]); (try rw [← hq_L6ex]); (try rw [← hq_L7ex]); (try rw [if_neg c_17]); try rfl))), ht⟩) (fun _ h => by cases h) dX12_wordAt_110
            have hloop_18 : ∀ (n : Nat) (L6e : Int32) (L7e : Int32) (he0 : ¬ L7e < 0) (hsm : L6e = 0 ∨ L5dx = (a1 - a0)) (hef : L5dx.toInt ≤ L7e.toInt + (n : Int)) (hI_e : X_15 = fq_wordAt_e f_tape f_words a0 L4c L5dx n L6e L7e) (ls : Array Slot) (hl : lv_has ls 8 [(7, .int L7e), (6, .int L6e), (5, .int L5dx), (4, .int L4c), (3, .int L3c), (0, .ref mq), (1, .int a0), (2, .int a1)]), W p l e (headSpec (Cond.code yX12_wordAt cX12_wordAt 8 (some .int) :: wsL_law) ({ frames := 0, cells := 0, slots := 0, locals := 0 })).room s m ([.ref mq, .int a0, .int a1] : List Value).toArray below meth c s.heap [] 0 0 (MQ below (vp_Si (fun r => r = fq_wordAt f_tape f_words a0 a1)) ([.ref mq, .int a0, .int a1] : List Value).toArray s 0 0 (fun _ => False)) (F0 m 57 ls []) := by
              intro n
              induction n with
              | zero =>
                intro L6e L7e he0 hsm hef hI_e ls hl
                refine lv_iload hx hb dX12_wordAt_57 (lv_at hl 0 rfl) ?_
                refine lv_iload hx hb dX12_wordAt_59 (lv_at hl 2 rfl) ?_
                refine lv_icmp_ge (tgt := 104) hx hb dX12_wordAt_61 (by decide) (fun c_19 => ?_) (fun c_19 => absurd c_19 (fun h => h (xi_z hef)))
                exact hexit_16 L6e L7e  (hI_e.trans (by rw [fq_wordAt_e]; try rfl)) ls (lv_sub hl [0, 1, 2, 3, 4, 5, 6, 7] rfl)
              | succ n ih =>
                intro L6e L7e he0 hsm hef hI_e ls hl
                refine lv_iload hx hb dX12_wordAt_57 (lv_at hl 0 rfl) ?_
                refine lv_iload hx hb dX12_wordAt_59 (lv_at hl 2 rfl) ?_
                refine lv_icmp_ge (tgt := 104) hx hb dX12_wordAt_61 (by decide) (fun c_20 => ?_) (fun c_20 => ?_)
                · exact hexit_16 L6e L7e  (hI_e.trans (by rw [fq_wordAt_e]; (try rw [if_pos c_20]); try rfl)) ls (lv_sub hl [0, 1, 2, 3, 4, 5, 6, 7] rfl)
                · refine lv_iload hx hb dX12_wordAt_64 (lv_at hl 1 rfl) ?_
                  refine lv_if_eq (tgt := 104) hx hb dX12_wordAt_66 (by decide) (fun c_21 => ?_) (fun c_21 => ?_)
                  · exact hexit_16 L6e L7e  (hI_e.trans (by rw [fq_wordAt_e]; (try rw [if_neg c_20]); (try rw [if_pos c_21]); try rfl)) ls (lv_sub hl [0, 1, 2, 3, 4, 5, 6, 7] rfl)
                  · refine lv_aload_n hx hb dX12_wordAt_69 rfl (lv_at hl 5 rfl) ?_
                    refine va_get (D := (dC, dI)) (ci := 12) (v := .ref (rf 3)) (C := RX12) (T := TX12) (N := 76) hx hb htw inlX12 hown hK hP 0 rfl rfl 3 (by decide) (htw _ (ck_9 _ (List.mem_of_getElem? (i := 5) rfl))) (fun _ h9 => h9) rfl dX12_wordAt_70 ?_
                    refine lv_iload hx hb dX12_wordAt_73 (lv_at hl 3 rfl) ?_
                    refine lv_iload hx hb dX12_wordAt_75 (lv_at hl 0 rfl) ?_
                    refine lv_iadd hx hb dX12_wordAt_77 ?_
                    refine va_iald hx hb hK hP 2 1 rfl rfl (xg_inr (N := 118) rfl (gq_wordAt_s13 (y0 := L4c) (y1 := L7e) (y2 := L5dx) c_20 hc0 hc8 hx0 hx9 hx7 he0).1 (gq_wordAt_s13 (y0 := L4c) (y1 := L7e) (y2 := L5dx) c_20 hc0 hc8 hx0 hx9 hx7 he0).2) dX12_wordAt_78 ?_
                    refine lv_aload_n hx hb dX12_wordAt_79 rfl (lv_at hl 5 rfl) ?_
                    refine va_get (D := (dC, dI)) (ci := 12) (v := .ref (rf 0)) (C := RX12) (T := TX12) (N := 76) hx hb htw inlX12 hown hK hP 0 rfl rfl 0 (by decide) (htw _ (ck_9 _ (List.mem_of_getElem? (i := 4) rfl))) (fun _ h9 => h9) rfl dX12_wordAt_80 ?_
                    refine lv_iload_n hx hb dX12_wordAt_83 rfl (lv_at hl 6 rfl) ?_
                    refine lv_iload hx hb dX12_wordAt_84 (lv_at hl 0 rfl) ?_
                    refine lv_iadd hx hb dX12_wordAt_86 ?_
                    refine va_iald hx hb hK hP 1 0 rfl rfl (xw_tape (hsm.resolve_left c_21) c_20 he0 hk0 hk1 hk3) dX12_wordAt_87 ?_
                    refine lv_icmp_ne (tgt := 95) hx hb dX12_wordAt_88 (by decide) (fun c_22 => ?_) (fun c_22 => ?_)
                    · refine lv_iconst (v := 0) hx hb dX12_wordAt_95 (by decide) ?_
                      refine lv_istore (lv' := [(6, .int 0), (7, .int L7e), (5, .int L5dx), (4, .int L4c), (3, .int L3c), (0, .ref mq), (1, .int a0), (2, .int a1)]) hx hb dX12_wordAt_96 hl (by decide) rfl (fun ls hl => ?_)
                      refine lv_iinc (v := (L7e + 1)) (lv' := [(7, .int (L7e + 1)), (6, .int 0), (5, .int L5dx), (4, .int L4c), (3, .int L3c), (0, .ref mq), (1, .int a0), (2, .int a1)]) hx hb dX12_wordAt_98 hl (k := 1) rfl (rfl) (by decide) rfl (fun ls hl => ?_)
                      refine lv_goto (tgt := 57) hx hb dX12_wordAt_101 (by decide) ?_
                      exact ih (0 : Int32) (L7e + 1) (gq_wordAt_s14 (y0 := L7e) (y1 := L5dx) (y2 := L4c) c_20 hc0 hc8 hx0 hx9 hx7 he0) (Or.inl rfl) (by rw [xi_s' c_20]; omega) (hI_e.trans (by rw [fq_wordAt_e]; (try rw [if_neg c_20]); (try rw [if_neg c_21]); (try rw [if_neg c_22]); try rfl)) ls (lv_sub hl [0, 1, 2, 3, 4, 5, 6, 7] rfl)
                    · refine lv_iconst (v := 1) hx hb dX12_wordAt_91 (by decide) ?_
                      refine lv_goto (tgt := 96) hx hb dX12_wordAt_92 (by decide) ?_
                      refine lv_istore (lv' := [(6, .int 1), (7, .int L7e), (5, .int L5dx), (4, .int L4c), (3, .int L3c), (0, .ref mq), (1, .int a0), (2, .int a1)]) hx hb dX12_wordAt_96 hl (by decide) rfl (fun ls hl => ?_)
                      refine lv_iinc (v := (L7e + 1)) (lv' := [(7, .int (L7e + 1)), (6, .int 1), (5, .int L5dx), (4, .int L4c), (3, .int L3c), (0, .ref mq), (1, .int a0), (2, .int a1)]) hx hb dX12_wordAt_98 hl (k := 1) rfl (rfl) (by decide) rfl (fun ls hl => ?_)
                      refine lv_goto (tgt := 57) hx hb dX12_wordAt_101 (by decide) ?_
                      exact ih (1 : Int32) (L7e + 1) (gq_wordAt_s15 (y0 := L7e) (y1 := L5dx) (y2 := L4c) c_20 hc0 hc8 hx0 hx9 hx7 he0) (Or.inr (hsm.resolve_left c_21)) (by rw [xi_s' c_20]; omega) (hI_e.trans (by rw [fq_wordAt_e]; (try rw [if_neg c_20]); (try rw [if_neg c_21]); (try rw [if_pos c_22]); try rfl)) ls (lv_sub hl [0, 1, 2, 3, 4, 5, 6, 7] rfl)
            exact hloop_18 118 (1 : Int32) (0 : Int32) (gq_wordAt_s16 ) (Or.inr c_6) (by have h9 := xi_le (gq_wordAt_s17 (y0 := L5dx) (y1 := L4c) (y2 := a1) (y3 := a0) c_3 c_6 hc0 hc8 hx0 hx9 hx7 hk0 hk1 hk3); have e9 : (118 : Int32).toInt = 118 := rfl; have e0 : (0 : Int32).toInt = 0 := rfl; omega) (hX_15) ls (lv_sub hl [0, 1, 2, 3, 4, 5, 6, 7] rfl)
        have hloop_23 : ∀ (n : Nat) (L5d : Int32) (hd0 : ¬ L5d < 0) (hd9 : L5d ≤ 117) (hd7 : (L4c + L5d) ≤ 117) (hdf : (118 : Int32).toInt ≤ L5d.toInt + (n : Int)) (hI_d : X_4 = fq_wordAt_d f_words L4c n L5d) (ls : Array Slot) (hl : lv_has ls 8 [(5, .int L5d), (4, .int L4c), (3, .int L3c), (0, .ref mq), (1, .int a0), (2, .int a1)]), W p l e (headSpec (Cond.code yX12_wordAt cX12_wordAt 8 (some .int) :: wsL_law) ({ frames := 0, cells := 0, slots := 0, locals := 0 })).room s m ([.ref mq, .int a0, .int a1] : List Value).toArray below meth c s.heap [] 0 0 (MQ below (vp_Si (fun r => r = fq_wordAt f_tape f_words a0 a1)) ([.ref mq, .int a0, .int a1] : List Value).toArray s 0 0 (fun _ => False)) (F0 m 18 ls []) := by
          intro n
          induction n with
          | zero =>
            intro L5d hd0 hd9 hd7 hdf hI_d ls hl
            refine lv_aload_n hx hb dX12_wordAt_18 rfl (lv_at hl 3 rfl) ?_
            refine va_get (D := (dC, dI)) (ci := 12) (v := .ref (rf 3)) (C := RX12) (T := TX12) (N := 76) hx hb htw inlX12 hown hK hP 0 rfl rfl 3 (by decide) (htw _ (ck_9 _ (List.mem_of_getElem? (i := 5) rfl))) (fun _ h9 => h9) rfl dX12_wordAt_19 ?_
            refine lv_iload hx hb dX12_wordAt_22 (lv_at hl 1 rfl) ?_
            refine lv_iload hx hb dX12_wordAt_24 (lv_at hl 0 rfl) ?_
            refine lv_iadd hx hb dX12_wordAt_26 ?_
            refine va_iald hx hb hK hP 2 1 rfl rfl (xg_inr (N := 118) rfl (gq_wordAt_s18 (y0 := L4c) (y1 := L5d) hc0 hc8 hd0 hd9 hd7).1 (gq_wordAt_s18 (y0 := L4c) (y1 := L5d) hc0 hc8 hd0 hd9 hd7).2) dX12_wordAt_27 ?_
            refine lv_bipush (v := 32) hx hb dX12_wordAt_28 (by decide) ?_
            refine lv_icmp_eq (tgt := 39) hx hb dX12_wordAt_30 (by decide) (fun c_24 => ?_) (fun c_24 => absurd c_24 (fun h => absurd (xi_z hdf) (gq_wordAt_s19 (y0 := L5d) (y1 := L4c) hc0 hc8 hd0 hd9 hd7)))
            exact hexit_5 L5d (gq_wordAt_s20 (y0 := L5d) (y1 := L4c) c_3 hc0 hc8 hd0 hd9 hd7) (gq_wordAt_s21 (y0 := L5d) (y1 := L4c) c_3 hc0 hc8 hd0 hd9 hd7) (gq_wordAt_s22 (y0 := L4c) (y1 := L5d) c_3 hc0 hc8 hd0 hd9 hd7) (hI_d.trans (by rw [fq_wordAt_d]; try rfl)) ls (lv_sub hl [0, 1, 2, 3, 4, 5] rfl)
          | succ n ih =>
            intro L5d hd0 hd9 hd7 hdf hI_d ls hl
            refine lv_aload_n hx hb dX12_wordAt_18 rfl (lv_at hl 3 rfl) ?_
            refine va_get (D := (dC, dI)) (ci := 12) (v := .ref (rf 3)) (C := RX12) (T := TX12) (N := 76) hx hb htw inlX12 hown hK hP 0 rfl rfl 3 (by decide) (htw _ (ck_9 _ (List.mem_of_getElem? (i := 5) rfl))) (fun _ h9 => h9) rfl dX12_wordAt_19 ?_
            refine lv_iload hx hb dX12_wordAt_22 (lv_at hl 1 rfl) ?_
            refine lv_iload hx hb dX12_wordAt_24 (lv_at hl 0 rfl) ?_
            refine lv_iadd hx hb dX12_wordAt_26 ?_
            refine va_iald hx hb hK hP 2 1 rfl rfl (xg_inr (N := 118) rfl (gq_wordAt_s23 (y0 := L4c) (y1 := L5d) hc0 hc8 hd0 hd9 hd7).1 (gq_wordAt_s23 (y0 := L4c) (y1 := L5d) hc0 hc8 hd0 hd9 hd7).2) dX12_wordAt_27 ?_
            refine lv_bipush (v := 32) hx hb dX12_wordAt_28 (by decide) ?_
            refine lv_icmp_eq (tgt := 39) hx hb dX12_wordAt_30 (by decide) (fun c_25 => ?_) (fun c_25 => ?_)
            · exact hexit_5 L5d (gq_wordAt_s24 (y0 := L5d) (y1 := L4c) c_3 hc0 hc8 hd0 hd9 hd7) (gq_wordAt_s25 (y0 := L5d) (y1 := L4c) c_3 hc0 hc8 hd0 hd9 hd7) (gq_wordAt_s26 (y0 := L4c) (y1 := L5d) c_3 hc0 hc8 hd0 hd9 hd7) (hI_d.trans (by rw [fq_wordAt_d]; (try rw [if_pos c_25]); try rfl)) ls (lv_sub hl [0, 1, 2, 3, 4, 5] rfl)
            · refine lv_iinc (v := (L5d + 1)) (lv' := [(5, .int (L5d + 1)), (4, .int L4c), (3, .int L3c), (0, .ref mq), (1, .int a0), (2, .int a1)]) hx hb dX12_wordAt_33 hl (k := 0) rfl (rfl) (by decide) rfl (fun ls hl => ?_)
              refine lv_goto (tgt := 18) hx hb dX12_wordAt_36 (by decide) ?_
              exact ih (L5d + 1) (gq_wordAt_s27 (y0 := L5d) (y1 := L4c) c_3 hc0 hc8 hd0 hd9 hd7) (gq_wordAt_s28 (y0 := L5d) (y1 := L4c) (xw_ne hw7 c_25) hc0 hc8 hd0 hd9 hd7) (gq_wordAt_s29 (y0 := L4c) (y1 := L5d) (xw_ne hw7 c_25) hc0 hc8 hd0 hd9 hd7) (by rw [xi_s (b := 2000000000) (gq_wordAt_s30 (y0 := L5d) (y1 := L4c) hc0 hc8 hd0 hd9 hd7)]; omega) (hI_d.trans (by rw [fq_wordAt_d]; (try rw [if_neg c_25]); try rfl)) ls (lv_sub hl [0, 1, 2, 3, 4, 5] rfl)
        exact hloop_23 118 (0 : Int32) (gq_wordAt_s31 ) (gq_wordAt_s32 ) (gq_wordAt_s33 (y0 := L4c) c_3 hc0 hc8) (by decide) (hX_4) ls (lv_sub hl [0, 1, 2, 3, 4, 5] rfl)
  exact hloop_1 118 (0 : Int32) (0 : Int32) (gq_wordAt_s34 ) (gq_wordAt_s35 ) (by decide) ((by rw [fq_wordAt])) ls (lv_sub hl [0, 1, 2, 3, 4] rfl)
