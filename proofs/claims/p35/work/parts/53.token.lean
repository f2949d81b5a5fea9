theorem fq_small {f : Nat → Int32} {a s r : Int32} (h : r = fq_isSmall f a s) (hr : ¬ r = 0) : ¬ s ≤ a := fun q => hr (by rw [h, fq_isSmall, if_pos q])
theorem fq_digit {f : Nat → Int32} {a s r : Int32} (h : r = fq_isDigit f a s) (hr : ¬ r = 0) : ¬ s ≤ a := fun q => hr (by rw [h, fq_isDigit, if_pos q])

def fq_token_a (f_tape : Nat → Int32) (m_stop : Int32) : Nat → (Int32) → (Int32)
  | 0, m_next_a => m_next_a
  | n + 1, m_next_a => (if m_stop ≤ m_next_a then m_next_a else (if f_tape m_next_a.toNatClampNeg = 10 then fq_token_a f_tape m_stop n (m_next_a + 1) else (if f_tape m_next_a.toNatClampNeg = 32 then fq_token_a f_tape m_stop n (m_next_a + 1) else m_next_a)))
def fq_token_f (f_tape : Nat → Int32) (m_next_d : Int32) (m_which_d : Int32) : (Int32) := (if m_which_d ≤ 99999 then (((10 * m_which_d) + (f_tape m_next_d.toNatClampNeg)) - 48) else m_which_d)
def fq_token_d (f_tape : Nat → Int32) (m_stop : Int32) : Nat → (Int32) → (Int32) → (Int32) → (Int32) × (Int32) × (Int32) × (Int32)
  | 0, m_next_d, m_which_d, m_at_d => (xL ((fq_isDigit f_tape m_next_d m_stop)) (fun r_16 => (m_next_d, (3 : Int32), m_which_d, m_at_d)))
  | n + 1, m_next_d, m_which_d, m_at_d => (xL ((fq_isDigit f_tape m_next_d m_stop)) (fun r_18 => (if r_18 = 0 then (m_next_d, (3 : Int32), m_which_d, m_at_d) else (xL (fq_token_f f_tape m_next_d m_which_d) (fun X_20 => fq_token_d f_tape m_stop n (m_next_d + 1) X_20 m_at_d)))))
def fq_token_b (f_tape : Nat → Int32) (m_stop : Int32) : Nat → (Int32) → (Int32)
  | 0, m_next_b => (xL ((fq_isSmall f_tape m_next_b m_stop)) (fun r_33 => m_next_b))
  | n + 1, m_next_b => (xL ((fq_isSmall f_tape m_next_b m_stop)) (fun r_35 => (if r_35 = 0 then m_next_b else fq_token_b f_tape m_stop n (m_next_b + 1))))
def fq_token_e (m_next_ax : Int32) (m_next_bx : Int32) (r_25 : Int32) : (Int32) × (Int32) := (if r_25 < 0 then (if (m_next_bx - m_next_ax) ≤ 6 then ((2 : Int32), r_25) else ((6 : Int32), r_25)) else ((1 : Int32), r_25))
def fq_token (f_tape : Nat → Int32) (f_words : Nat → Int32) (m_stop : Int32) (m_next : Int32) (m_which : Int32) : (Int32) × (Int32) × (Int32) × (Int32) := (xL (fq_token_a f_tape m_stop 900 m_next) (fun X_1 => (if X_1 = m_stop then (X_1, (0 : Int32), m_which, X_1) else (xL ((fq_isSmall f_tape X_1 m_stop)) (fun r_4 => (if r_4 = 0 then (xL ((fq_isDigit f_tape X_1 m_stop)) (fun r_6 => (if r_6 = 0 then (xL ((fq_signToken f_tape m_stop X_1)) (fun u_9 => (u_9.1, u_9.2.1, u_9.2.2, X_1))) else fq_token_d f_tape m_stop 900 X_1 (0 : Int32) X_1))) else (xL (fq_token_b f_tape m_stop 900 X_1) (fun X_23 => (xL ((fq_wordAt f_tape f_words X_1 X_23)) (fun r_25 => (xL (fq_token_e X_1 X_23 r_25) (fun X_26 => (if X_26.1 = 2 then (xL ((fq_packed f_tape X_1 X_23)) (fun r_29 => (X_23, X_26.1, r_29, X_1))) else (X_23, X_26.1, X_26.2, X_1))))))))))))))
theorem gq_token_s0 {y0 : Int32} {y1 : Int32} {y2 : Int32} (h0 : ¬ (y0 = y1)) (h1 : ¬ (y0 < 0)) (h2 : y0 ≤ y1) (h3 : ¬ (y2 < 0)) (h4 : y2 ≤ y1) (h5 : y1 ≤ 900) : ¬ (y0 < 0) := h1
theorem gq_token_s1 {y0 : Int32} {y1 : Int32} {y2 : Int32} (h0 : ¬ (y0 = y1)) (h1 : ¬ (y0 < 0)) (h2 : y0 ≤ y1) (h3 : ¬ (y2 < 0)) (h4 : y2 ≤ y1) (h5 : y1 ≤ 900) : ¬ (y0 < 0) := gq_token_s0 h0 h1 h2 h3 h4 h5
theorem gq_token_s2 {y0 : Int32} {y1 : Int32} {y2 : Int32} (h0 : ¬ (y0 = y1)) (h1 : ¬ (y0 < 0)) (h2 : y0 ≤ y1) (h3 : ¬ (y2 < 0)) (h4 : y2 ≤ y1) (h5 : y1 ≤ 900) : ¬ (y0 < 0) := gq_token_s0 h0 h1 h2 h3 h4 h5
theorem gq_token_s3 {y0 : Int32} {y1 : Int32} {y2 : Int32} (h0 : ¬ (y0 = y1)) (h1 : ¬ (y0 < 0)) (h2 : y0 ≤ y1) (h3 : ¬ (y2 < 0)) (h4 : y2 ≤ y1) (h5 : y1 ≤ 900) : y0 < y1 := by lia
theorem gq_token_s4 {y0 : Int32} {y1 : Int32} {y2 : Int32} {y3 : Int32} (h0 : ¬ (y1 = y2)) (h1 : ¬ (y1 < 0)) (h2 : y1 ≤ y2) (h3 : ¬ (y0 < 0)) (h4 : y0 ≤ y2) (h5 : ¬ (y3 < 0)) (h6 : y3 ≤ y2) (h7 : y2 ≤ 900) : ¬ (y0 < 0) := h3
theorem gq_token_s5 {y0 : Int32} {y1 : Int32} {y2 : Int32} {y3 : Int32} (h0 : ¬ (y2 = y1)) (h1 : ¬ (y2 < 0)) (h2 : y2 ≤ y1) (h3 : ¬ (y0 < 0)) (h4 : y0 ≤ y1) (h5 : ¬ (y3 < 0)) (h6 : y3 ≤ y1) (h7 : y1 ≤ 900) : y0 ≤ y1 := h4
theorem gq_token_s6 {y0 : Int32} {y1 : Int32} {y2 : Int32} {y3 : Int32} (h0 : ¬ (y1 = y2)) (h1 : ¬ (y1 < 0)) (h2 : y1 ≤ y2) (h3 : ¬ (y0 < 0)) (h4 : y0 ≤ y2) (h5 : ¬ (y3 < 0)) (h6 : y3 ≤ y2) (h7 : y2 ≤ 900) (h8 : ¬ (y2 ≤ y1)) : ¬ (y0 < 0) := h3
theorem gq_token_s7 {y0 : Int32} {y1 : Int32} {y2 : Int32} {y3 : Int32} (h0 : ¬ (y1 = y2)) (h1 : ¬ (y1 < 0)) (h2 : y1 ≤ y2) (h3 : ¬ (y0 < 0)) (h4 : y0 ≤ y2) (h5 : ¬ (y3 < 0)) (h6 : y3 ≤ y2) (h7 : y2 ≤ 900) (h8 : ¬ (y2 ≤ y1)) : ¬ (y0 < 0) := gq_token_s6 h0 h1 h2 h3 h4 h5 h6 h7 h8
theorem gq_token_s8 {y0 : Int32} {y1 : Int32} {y2 : Int32} {y3 : Int32} (h0 : ¬ (y2 = y1)) (h1 : ¬ (y2 < 0)) (h2 : y2 ≤ y1) (h3 : ¬ (y0 < 0)) (h4 : y0 ≤ y1) (h5 : ¬ (y3 < 0)) (h6 : y3 ≤ y1) (h7 : y1 ≤ 900) (h8 : ¬ (y1 ≤ y2)) : y0 ≤ y1 := h4
theorem gq_token_s9 {y0 : Int32} {y1 : Int32} {y2 : Int32} {y3 : Int32} (h0 : ¬ (y1 = y2)) (h1 : ¬ (y1 < 0)) (h2 : y1 ≤ y2) (h3 : ¬ (y0 < 0)) (h4 : y0 ≤ y2) (h5 : ¬ (y3 < 0)) (h6 : y3 ≤ y2) (h7 : y2 ≤ 900) (h8 : ¬ (y2 ≤ y1)) : ¬ (y0 < 0) := gq_token_s6 h0 h1 h2 h3 h4 h5 h6 h7 h8
theorem gq_token_s10 {y0 : Int32} {y1 : Int32} {y2 : Int32} {y3 : Int32} (h0 : ¬ (y1 = y2)) (h1 : ¬ (y1 < 0)) (h2 : y1 ≤ y2) (h3 : ¬ (y0 < 0)) (h4 : y0 ≤ y2) (h5 : ¬ (y3 < 0)) (h6 : y3 ≤ y2) (h7 : y2 ≤ 900) (h8 : ¬ (y2 ≤ y1)) : ¬ (y0 < 0) := gq_token_s6 h0 h1 h2 h3 h4 h5 h6 h7 h8
theorem gq_token_s11 {y0 : Int32} {y1 : Int32} {y2 : Int32} {y3 : Int32} (h0 : ¬ (y2 = y1)) (h1 : ¬ (y2 < 0)) (h2 : y2 ≤ y1) (h3 : ¬ (y0 < 0)) (h4 : y0 ≤ y1) (h5 : ¬ (y3 < 0)) (h6 : y3 ≤ y1) (h7 : y1 ≤ 900) (h8 : ¬ (y1 ≤ y2)) : y0 ≤ y1 := gq_token_s8 h0 h1 h2 h3 h4 h5 h6 h7 h8
theorem gq_token_s12 {y0 : Int32} {y1 : Int32} {y2 : Int32} {y3 : Int32} (h0 : ¬ (y1 = y2)) (h1 : ¬ (y1 < 0)) (h2 : y1 ≤ y2) (h3 : ¬ (y0 < 0)) (h4 : y0 ≤ y2) (h5 : ¬ (y3 < 0)) (h6 : y3 ≤ y2) (h7 : y2 ≤ 900) (h8 : ¬ (y2 ≤ y1)) (h9 : ¬ (y2 ≤ y0)) : ¬ ((y0 + 1) < 0) := by
  have l_y0 := y0.le_toInt
  have u_y0 := y0.toInt_lt
  have l_y1 := y1.le_toInt
  have u_y1 := y1.toInt_lt
  have l_y2 := y2.le_toInt
  have u_y2 := y2.toInt_lt
  have l_y3 := y3.le_toInt
  have u_y3 := y3.toInt_lt
  have h0 : ¬ (y1.toInt = y2.toInt) := fun z => h0 (Int32.toInt_inj.mp z)
  have h1 : 0 ≤ y1.toInt := Int.not_lt.mp (fun z => h1 (Int32.lt_iff_toInt_lt.mpr z))
  have h2 : y1.toInt ≤ y2.toInt := Int32.le_iff_toInt_le.mp h2
  have h3 : 0 ≤ y0.toInt := Int.not_lt.mp (fun z => h3 (Int32.lt_iff_toInt_lt.mpr z))
  have h4 : y0.toInt ≤ y2.toInt := Int32.le_iff_toInt_le.mp h4
  have h5 : 0 ≤ y3.toInt := Int.not_lt.mp (fun z => h5 (Int32.lt_iff_toInt_lt.mpr z))
  have h6 : y3.toInt ≤ y2.toInt := Int32.le_iff_toInt_le.mp h6
  have h7 : y2.toInt ≤ 900 := Int32.le_iff_toInt_le.mp h7
  have h8 : y1.toInt < y2.toInt := Int.not_le.mp (fun z => h8 (Int32.le_iff_toInt_le.mpr z))
  have h9 : y0.toInt < y2.toInt := Int.not_le.mp (fun z => h9 (Int32.le_iff_toInt_le.mpr z))
  have e18 : ((y0 + 1) : Int32).toInt = y0.toInt + 1 := by rw [Int32.toInt_add, show (1 : Int32).toInt = 1 from rfl, Int.bmod_eq_of_le (by omega) (by omega)]
  exact (fun z => by have z : ((y0 + 1) : Int32).toInt < 0 := Int32.lt_iff_toInt_lt.mp z; omega)
theorem gq_token_s13 {y0 : Int32} {y1 : Int32} {y2 : Int32} {y3 : Int32} (h0 : ¬ (y2 = y1)) (h1 : ¬ (y2 < 0)) (h2 : y2 ≤ y1) (h3 : ¬ (y0 < 0)) (h4 : y0 ≤ y1) (h5 : ¬ (y3 < 0)) (h6 : y3 ≤ y1) (h7 : y1 ≤ 900) (h8 : ¬ (y1 ≤ y2)) (h9 : ¬ (y1 ≤ y0)) : (y0 + 1) ≤ y1 := by
  have l_y0 := y0.le_toInt
  have u_y0 := y0.toInt_lt
  have l_y1 := y1.le_toInt
  have u_y1 := y1.toInt_lt
  have l_y2 := y2.le_toInt
  have u_y2 := y2.toInt_lt
  have l_y3 := y3.le_toInt
  have u_y3 := y3.toInt_lt
  have h0 : ¬ (y2.toInt = y1.toInt) := fun z => h0 (Int32.toInt_inj.mp z)
  have h1 : 0 ≤ y2.toInt := Int.not_lt.mp (fun z => h1 (Int32.lt_iff_toInt_lt.mpr z))
  have h2 : y2.toInt ≤ y1.toInt := Int32.le_iff_toInt_le.mp h2
  have h3 : 0 ≤ y0.toInt := Int.not_lt.mp (fun z => h3 (Int32.lt_iff_toInt_lt.mpr z))
  have h4 : y0.toInt ≤ y1.toInt := Int32.le_iff_toInt_le.mp h4
  have h5 : 0 ≤ y3.toInt := Int.not_lt.mp (fun z => h5 (Int32.lt_iff_toInt_lt.mpr z))
  have h6 : y3.toInt ≤ y1.toInt := Int32.le_iff_toInt_le.mp h6
  have h7 : y1.toInt ≤ 900 := Int32.le_iff_toInt_le.mp h7
  have h8 : y2.toInt < y1.toInt := Int.not_le.mp (fun z => h8 (Int32.le_iff_toInt_le.mpr z))
  have h9 : y0.toInt < y1.toInt := Int.not_le.mp (fun z => h9 (Int32.le_iff_toInt_le.mpr z))
  have e18 : ((y0 + 1) : Int32).toInt = y0.toInt + 1 := by rw [Int32.toInt_add, show (1 : Int32).toInt = 1 from rfl, Int.bmod_eq_of_le (by omega) (by omega)]
  exact Int32.le_iff_toInt_le.mpr (show ((y0 + 1) : Int32).toInt ≤ y1.toInt by omega)
theorem gq_token_s14 {y0 : Int32} {y1 : Int32} {y2 : Int32} {y3 : Int32} (h0 : ¬ (y1 = y2)) (h1 : ¬ (y1 < 0)) (h2 : y1 ≤ y2) (h3 : ¬ (y0 < 0)) (h4 : y0 ≤ y2) (h5 : ¬ (y3 < 0)) (h6 : y3 ≤ y2) (h7 : y2 ≤ 900) (h8 : ¬ (y2 ≤ y1)) (h9 : ¬ (y2 ≤ y0)) : y0 < 900 := by
  have l_y0 := y0.le_toInt
  have u_y0 := y0.toInt_lt
  have l_y1 := y1.le_toInt
  have u_y1 := y1.toInt_lt
  have l_y2 := y2.le_toInt
  have u_y2 := y2.toInt_lt
  have l_y3 := y3.le_toInt
  have u_y3 := y3.toInt_lt
  have h0 : ¬ (y1.toInt = y2.toInt) := fun z => h0 (Int32.toInt_inj.mp z)
  have h1 : 0 ≤ y1.toInt := Int.not_lt.mp (fun z => h1 (Int32.lt_iff_toInt_lt.mpr z))
  have h2 : y1.toInt ≤ y2.toInt := Int32.le_iff_toInt_le.mp h2
  have h3 : 0 ≤ y0.toInt := Int.not_lt.mp (fun z => h3 (Int32.lt_iff_toInt_lt.mpr z))
  have h4 : y0.toInt ≤ y2.toInt := Int32.le_iff_toInt_le.mp h4
  have h5 : 0 ≤ y3.toInt := Int.not_lt.mp (fun z => h5 (Int32.lt_iff_toInt_lt.mpr z))
  have h6 : y3.toInt ≤ y2.toInt := Int32.le_iff_toInt_le.mp h6
  have h7 : y2.toInt ≤ 900 := Int32.le_iff_toInt_le.mp h7
  have h8 : y1.toInt < y2.toInt := Int.not_le.mp (fun z => h8 (Int32.le_iff_toInt_le.mpr z))
  have h9 : y0.toInt < y2.toInt := Int.not_le.mp (fun z => h9 (Int32.le_iff_toInt_le.mpr z))
  exact Int32.lt_iff_toInt_lt.mpr (show y0.toInt < 900 by omega)
theorem gq_token_s15 {y0 : Int32} {y1 : Int32} {y2 : Int32} {y3 : Int32} (h0 : ¬ (y1 = y2)) (h1 : ¬ (y1 < 0)) (h2 : y1 ≤ y2) (h3 : ¬ (y0 < 0)) (h4 : y0 ≤ y2) (h5 : ¬ (y3 < 0)) (h6 : y3 ≤ y2) (h7 : y2 ≤ 900) (h8 : ¬ (y2 ≤ y1)) (h9 : ¬ (y2 ≤ y0)) : ¬ (y0 < 0) ∧ ¬ (900 ≤ y0) := by
  have l_y0 := y0.le_toInt
  have u_y0 := y0.toInt_lt
  have l_y1 := y1.le_toInt
  have u_y1 := y1.toInt_lt
  have l_y2 := y2.le_toInt
  have u_y2 := y2.toInt_lt
  have l_y3 := y3.le_toInt
  have u_y3 := y3.toInt_lt
  have h0 : ¬ (y1.toInt = y2.toInt) := fun z => h0 (Int32.toInt_inj.mp z)
  have h1 : 0 ≤ y1.toInt := Int.not_lt.mp (fun z => h1 (Int32.lt_iff_toInt_lt.mpr z))
  have h2 : y1.toInt ≤ y2.toInt := Int32.le_iff_toInt_le.mp h2
  have h3 : 0 ≤ y0.toInt := Int.not_lt.mp (fun z => h3 (Int32.lt_iff_toInt_lt.mpr z))
  have h4 : y0.toInt ≤ y2.toInt := Int32.le_iff_toInt_le.mp h4
  have h5 : 0 ≤ y3.toInt := Int.not_lt.mp (fun z => h5 (Int32.lt_iff_toInt_lt.mpr z))
  have h6 : y3.toInt ≤ y2.toInt := Int32.le_iff_toInt_le.mp h6
  have h7 : y2.toInt ≤ 900 := Int32.le_iff_toInt_le.mp h7
  have h8 : y1.toInt < y2.toInt := Int.not_le.mp (fun z => h8 (Int32.le_iff_toInt_le.mpr z))
  have h9 : y0.toInt < y2.toInt := Int.not_le.mp (fun z => h9 (Int32.le_iff_toInt_le.mpr z))
  exact ⟨(fun z => by have z : y0.toInt < 0 := Int32.lt_iff_toInt_lt.mp z; omega), (fun z => by have z : 900 ≤ y0.toInt := Int32.le_iff_toInt_le.mp z; omega)⟩
theorem gq_token_s16 {y0 : Int32} {y1 : Int32} {y2 : Int32} (h0 : ¬ (y0 = y1)) (h1 : ¬ (y0 < 0)) (h2 : y0 ≤ y1) (h3 : ¬ (y2 < 0)) (h4 : y2 ≤ y1) (h5 : y1 ≤ 900) (h6 : ¬ (y1 ≤ y0)) : ¬ (y0 < 0) := h1
theorem gq_token_s17 {y0 : Int32} {y1 : Int32} {y2 : Int32} (h0 : ¬ (y0 = y1)) (h1 : ¬ (y0 < 0)) (h2 : y0 ≤ y1) (h3 : ¬ (y2 < 0)) (h4 : y2 ≤ y1) (h5 : y1 ≤ 900) (h6 : ¬ (y1 ≤ y0)) : y0 ≤ y1 := h2
theorem gq_token_s18 {y0 : Int32} {y1 : Int32} {y2 : Int32} (h0 : ¬ (y0 = y1)) (h1 : ¬ (y0 < 0)) (h2 : y0 ≤ y1) (h3 : ¬ (y2 < 0)) (h4 : y2 ≤ y1) (h5 : y1 ≤ 900) (h6 : ¬ (y1 ≤ y0)) : ¬ (y0 < 0) := gq_token_s16 h0 h1 h2 h3 h4 h5 h6
theorem gq_token_s19 {y0 : Int32} {y1 : Int32} {y2 : Int32} {y3 : Int32} (h0 : ¬ (y0 = y1)) (h1 : ¬ (y0 < 0)) (h2 : y0 ≤ y1) (h3 : y0 ≤ y2) (h4 : ¬ (y2 < 0)) (h5 : y2 ≤ y1) (h6 : ¬ (y3 < 0)) (h7 : y3 ≤ y1) (h8 : y1 ≤ 900) (h9 : ¬ (y1 ≤ y0)) : ¬ (y0 < 0) := h1
theorem gq_token_s20 {y0 : Int32} {y1 : Int32} {y2 : Int32} {y3 : Int32} (h0 : ¬ (y1 = y2)) (h1 : ¬ (y1 < 0)) (h2 : y1 ≤ y2) (h3 : y1 ≤ y0) (h4 : ¬ (y0 < 0)) (h5 : y0 ≤ y2) (h6 : ¬ (y3 < 0)) (h7 : y3 ≤ y2) (h8 : y2 ≤ 900) (h9 : ¬ (y2 ≤ y1)) : y0 ≤ 900 := by
  have l_y0 := y0.le_toInt
  have u_y0 := y0.toInt_lt
  have l_y1 := y1.le_toInt
  have u_y1 := y1.toInt_lt
  have l_y2 := y2.le_toInt
  have u_y2 := y2.toInt_lt
  have l_y3 := y3.le_toInt
  have u_y3 := y3.toInt_lt
  have h0 : ¬ (y1.toInt = y2.toInt) := fun z => h0 (Int32.toInt_inj.mp z)
  have h1 : 0 ≤ y1.toInt := Int.not_lt.mp (fun z => h1 (Int32.lt_iff_toInt_lt.mpr z))
  have h2 : y1.toInt ≤ y2.toInt := Int32.le_iff_toInt_le.mp h2
  have h3 : y1.toInt ≤ y0.toInt := Int32.le_iff_toInt_le.mp h3
  have h4 : 0 ≤ y0.toInt := Int.not_lt.mp (fun z => h4 (Int32.lt_iff_toInt_lt.mpr z))
  have h5 : y0.toInt ≤ y2.toInt := Int32.le_iff_toInt_le.mp h5
  have h6 : 0 ≤ y3.toInt := Int.not_lt.mp (fun z => h6 (Int32.lt_iff_toInt_lt.mpr z))
  have h7 : y3.toInt ≤ y2.toInt := Int32.le_iff_toInt_le.mp h7
  have h8 : y2.toInt ≤ 900 := Int32.le_iff_toInt_le.mp h8
  have h9 : y1.toInt < y2.toInt := Int.not_le.mp (fun z => h9 (Int32.le_iff_toInt_le.mpr z))
  exact Int32.le_iff_toInt_le.mpr (show y0.toInt ≤ 900 by omega)
theorem gq_token_s21 {y0 : Int32} {y1 : Int32} {y2 : Int32} {y3 : Int32} (h0 : ¬ (y0 = y2)) (h1 : ¬ (y0 < 0)) (h2 : y0 ≤ y2) (h3 : y0 ≤ y1) (h4 : ¬ (y1 < 0)) (h5 : y1 ≤ y2) (h6 : ¬ (y3 < 0)) (h7 : y3 ≤ y2) (h8 : y2 ≤ 900) (h9 : ¬ (y2 ≤ y0)) : y0 ≤ y1 := h3
theorem gq_token_s22 {y0 : Int32} {y1 : Int32} {y2 : Int32} {y3 : Int32} (h0 : ¬ (y1 = y2)) (h1 : ¬ (y1 < 0)) (h2 : y1 ≤ y2) (h3 : y1 ≤ y0) (h4 : ¬ (y0 < 0)) (h5 : y0 ≤ y2) (h6 : ¬ (y3 < 0)) (h7 : y3 ≤ y2) (h8 : y2 ≤ 900) (h9 : ¬ (y2 ≤ y1)) : ¬ (y0 < 0) := h4
theorem gq_token_s23 {y0 : Int32} {y1 : Int32} {y2 : Int32} {y3 : Int32} (h0 : ¬ (y2 = y1)) (h1 : ¬ (y2 < 0)) (h2 : y2 ≤ y1) (h3 : y2 ≤ y0) (h4 : ¬ (y0 < 0)) (h5 : y0 ≤ y1) (h6 : ¬ (y3 < 0)) (h7 : y3 ≤ y1) (h8 : y1 ≤ 900) (h9 : ¬ (y1 ≤ y2)) : y0 ≤ y1 := h5
theorem gq_token_s24 {y0 : Int32} {y1 : Int32} {y2 : Int32} {y3 : Int32} (h0 : ¬ (y0 = y1)) (h1 : ¬ (y0 < 0)) (h2 : y0 ≤ y1) (h3 : y0 ≤ y2) (h4 : ¬ (y2 < 0)) (h5 : y2 ≤ y1) (h6 : ¬ (y3 < 0)) (h7 : y3 ≤ y1) (h8 : y1 ≤ 900) (h9 : ¬ (y1 ≤ y0)) : ¬ (y0 < 0) := gq_token_s19 h0 h1 h2 h3 h4 h5 h6 h7 h8 h9
theorem gq_token_s25 {y0 : Int32} {y1 : Int32} {y2 : Int32} {y3 : Int32} (h0 : ¬ (y1 = y2)) (h1 : ¬ (y1 < 0)) (h2 : y1 ≤ y2) (h3 : y1 ≤ y0) (h4 : ¬ (y0 < 0)) (h5 : y0 ≤ y2) (h6 : ¬ (y3 < 0)) (h7 : y3 ≤ y2) (h8 : y2 ≤ 900) (h9 : ¬ (y2 ≤ y1)) : y0 ≤ 900 := gq_token_s20 h0 h1 h2 h3 h4 h5 h6 h7 h8 h9
theorem gq_token_s26 {y0 : Int32} {y1 : Int32} {y2 : Int32} {y3 : Int32} (h0 : ¬ (y0 = y1)) (h1 : ¬ (y0 < 0)) (h2 : y0 ≤ y1) (h3 : y0 ≤ y2) (h4 : ¬ (y2 < 0)) (h5 : y2 ≤ y1) (h6 : ¬ (y3 < 0)) (h7 : y3 ≤ y1) (h8 : y1 ≤ 900) (h9 : ¬ (y1 ≤ y0)) : y0 ≤ 900 := by
  have l_y0 := y0.le_toInt
  have u_y0 := y0.toInt_lt
  have l_y1 := y1.le_toInt
  have u_y1 := y1.toInt_lt
  have l_y2 := y2.le_toInt
  have u_y2 := y2.toInt_lt
  have l_y3 := y3.le_toInt
  have u_y3 := y3.toInt_lt
  have h0 : ¬ (y0.toInt = y1.toInt) := fun z => h0 (Int32.toInt_inj.mp z)
  have h1 : 0 ≤ y0.toInt := Int.not_lt.mp (fun z => h1 (Int32.lt_iff_toInt_lt.mpr z))
  have h2 : y0.toInt ≤ y1.toInt := Int32.le_iff_toInt_le.mp h2
  have h3 : y0.toInt ≤ y2.toInt := Int32.le_iff_toInt_le.mp h3
  have h4 : 0 ≤ y2.toInt := Int.not_lt.mp (fun z => h4 (Int32.lt_iff_toInt_lt.mpr z))
  have h5 : y2.toInt ≤ y1.toInt := Int32.le_iff_toInt_le.mp h5
  have h6 : 0 ≤ y3.toInt := Int.not_lt.mp (fun z => h6 (Int32.lt_iff_toInt_lt.mpr z))
  have h7 : y3.toInt ≤ y1.toInt := Int32.le_iff_toInt_le.mp h7
  have h8 : y1.toInt ≤ 900 := Int32.le_iff_toInt_le.mp h8
  have h9 : y0.toInt < y1.toInt := Int.not_le.mp (fun z => h9 (Int32.le_iff_toInt_le.mpr z))
  exact Int32.le_iff_toInt_le.mpr (show y0.toInt ≤ 900 by omega)
theorem gq_token_s27 {y0 : Int32} {y1 : Int32} {y2 : Int32} {y3 : Int32} (h0 : ¬ (y1 = y2)) (h1 : ¬ (y1 < 0)) (h2 : y1 ≤ y2) (h3 : y1 ≤ y0) (h4 : ¬ (y0 < 0)) (h5 : y0 ≤ y2) (h6 : ¬ (y3 < 0)) (h7 : y3 ≤ y2) (h8 : y2 ≤ 900) (h9 : ¬ (y2 ≤ y1)) : ¬ (y0 < 0) := gq_token_s22 h0 h1 h2 h3 h4 h5 h6 h7 h8 h9
theorem gq_token_s28 {y0 : Int32} {y1 : Int32} {y2 : Int32} {y3 : Int32} (h0 : ¬ (y2 = y1)) (h1 : ¬ (y2 < 0)) (h2 : y2 ≤ y1) (h3 : y2 ≤ y0) (h4 : ¬ (y0 < 0)) (h5 : y0 ≤ y1) (h6 : ¬ (y3 < 0)) (h7 : y3 ≤ y1) (h8 : y1 ≤ 900) (h9 : ¬ (y1 ≤ y2)) : y0 ≤ y1 := gq_token_s23 h0 h1 h2 h3 h4 h5 h6 h7 h8 h9
theorem gq_token_s29 {y0 : Int32} {y1 : Int32} {y2 : Int32} {y3 : Int32} (h0 : ¬ (y1 = y2)) (h1 : ¬ (y1 < 0)) (h2 : y1 ≤ y2) (h3 : ¬ (y0 < 0)) (h4 : y0 ≤ y2) (h5 : y1 ≤ y0) (h6 : ¬ (y3 < 0)) (h7 : y3 ≤ y2) (h8 : y2 ≤ 900) (h9 : ¬ (y2 ≤ y1)) : ¬ (y0 < 0) := h3
theorem gq_token_s30 {y0 : Int32} {y1 : Int32} {y2 : Int32} {y3 : Int32} (h0 : ¬ (y0 = y2)) (h1 : ¬ (y0 < 0)) (h2 : y0 ≤ y2) (h3 : ¬ (y1 < 0)) (h4 : y1 ≤ y2) (h5 : y0 ≤ y1) (h6 : ¬ (y3 < 0)) (h7 : y3 ≤ y2) (h8 : y2 ≤ 900) (h9 : ¬ (y2 ≤ y0)) : y0 ≤ y1 := h5
theorem gq_token_s31 {y0 : Int32} {y1 : Int32} {y2 : Int32} {y3 : Int32} (h0 : ¬ (y1 = y2)) (h1 : ¬ (y1 < 0)) (h2 : y1 ≤ y2) (h3 : ¬ (y0 < 0)) (h4 : y0 ≤ y2) (h5 : y1 ≤ y0) (h6 : ¬ (y3 < 0)) (h7 : y3 ≤ y2) (h8 : y2 ≤ 900) (h9 : ¬ (y2 ≤ y1)) : ¬ (y0 < 0) := gq_token_s29 h0 h1 h2 h3 h4 h5 h6 h7 h8 h9
theorem gq_token_s32 {y0 : Int32} {y1 : Int32} {y2 : Int32} {y3 : Int32} (h0 : ¬ (y2 = y1)) (h1 : ¬ (y2 < 0)) (h2 : y2 ≤ y1) (h3 : ¬ (y0 < 0)) (h4 : y0 ≤ y1) (h5 : y2 ≤ y0) (h6 : ¬ (y3 < 0)) (h7 : y3 ≤ y1) (h8 : y1 ≤ 900) (h9 : ¬ (y1 ≤ y2)) : y0 ≤ y1 := h4
theorem gq_token_s33 {y0 : Int32} {y1 : Int32} {y2 : Int32} {y3 : Int32} (h0 : ¬ (y1 = y2)) (h1 : ¬ (y1 < 0)) (h2 : y1 ≤ y2) (h3 : ¬ (y0 < 0)) (h4 : y0 ≤ y2) (h5 : y1 ≤ y0) (h6 : ¬ (y3 < 0)) (h7 : y3 ≤ y2) (h8 : y2 ≤ 900) (h9 : ¬ (y2 ≤ y1)) : ¬ (y0 < 0) := gq_token_s29 h0 h1 h2 h3 h4 h5 h6 h7 h8 h9
theorem gq_token_s34 {y0 : Int32} {y1 : Int32} {y2 : Int32} {y3 : Int32} (h0 : ¬ (y0 = y2)) (h1 : ¬ (y0 < 0)) (h2 : y0 ≤ y2) (h3 : ¬ (y1 < 0)) (h4 : y1 ≤ y2) (h5 : y0 ≤ y1) (h6 : ¬ (y3 < 0)) (h7 : y3 ≤ y2) (h8 : y2 ≤ 900) (h9 : ¬ (y2 ≤ y0)) : y0 ≤ y1 := gq_token_s30 h0 h1 h2 h3 h4 h5 h6 h7 h8 h9
theorem gq_token_s35 {y0 : Int32} {y1 : Int32} {y2 : Int32} {y3 : Int32} (h0 : ¬ (y1 = y2)) (h1 : ¬ (y1 < 0)) (h2 : y1 ≤ y2) (h3 : ¬ (y0 < 0)) (h4 : y0 ≤ y2) (h5 : y1 ≤ y0) (h6 : ¬ (y3 < 0)) (h7 : y3 ≤ y2) (h8 : y2 ≤ 900) (h9 : ¬ (y2 ≤ y1)) : ¬ (y0 < 0) := gq_token_s29 h0 h1 h2 h3 h4 h5 h6 h7 h8 h9
theorem gq_token_s36 {y0 : Int32} {y1 : Int32} {y2 : Int32} {y3 : Int32} (h0 : ¬ (y2 = y1)) (h1 : ¬ (y2 < 0)) (h2 : y2 ≤ y1) (h3 : ¬ (y0 < 0)) (h4 : y0 ≤ y1) (h5 : y2 ≤ y0) (h6 : ¬ (y3 < 0)) (h7 : y3 ≤ y1) (h8 : y1 ≤ 900) (h9 : ¬ (y1 ≤ y2)) : y0 ≤ y1 := gq_token_s32 h0 h1 h2 h3 h4 h5 h6 h7 h8 h9
theorem gq_token_s37 {y0 : Int32} {y1 : Int32} {y2 : Int32} {y3 : Int32} (h0 : ¬ (y1 = y2)) (h1 : ¬ (y1 < 0)) (h2 : y1 ≤ y2) (h3 : ¬ (y0 < 0)) (h4 : y0 ≤ y2) (h5 : y1 ≤ y0) (h6 : ¬ (y3 < 0)) (h7 : y3 ≤ y2) (h8 : y2 ≤ 900) (h9 : ¬ (y2 ≤ y1)) (h10 : ¬ (y2 ≤ y0)) : ¬ ((y0 + 1) < 0) := by
  have l_y0 := y0.le_toInt
  have u_y0 := y0.toInt_lt
  have l_y1 := y1.le_toInt
  have u_y1 := y1.toInt_lt
  have l_y2 := y2.le_toInt
  have u_y2 := y2.toInt_lt
  have l_y3 := y3.le_toInt
  have u_y3 := y3.toInt_lt
  have h0 : ¬ (y1.toInt = y2.toInt) := fun z => h0 (Int32.toInt_inj.mp z)
  have h1 : 0 ≤ y1.toInt := Int.not_lt.mp (fun z => h1 (Int32.lt_iff_toInt_lt.mpr z))
  have h2 : y1.toInt ≤ y2.toInt := Int32.le_iff_toInt_le.mp h2
  have h3 : 0 ≤ y0.toInt := Int.not_lt.mp (fun z => h3 (Int32.lt_iff_toInt_lt.mpr z))
  have h4 : y0.toInt ≤ y2.toInt := Int32.le_iff_toInt_le.mp h4
  have h5 : y1.toInt ≤ y0.toInt := Int32.le_iff_toInt_le.mp h5
  have h6 : 0 ≤ y3.toInt := Int.not_lt.mp (fun z => h6 (Int32.lt_iff_toInt_lt.mpr z))
  have h7 : y3.toInt ≤ y2.toInt := Int32.le_iff_toInt_le.mp h7
  have h8 : y2.toInt ≤ 900 := Int32.le_iff_toInt_le.mp h8
  have h9 : y1.toInt < y2.toInt := Int.not_le.mp (fun z => h9 (Int32.le_iff_toInt_le.mpr z))
  have h10 : y0.toInt < y2.toInt := Int.not_le.mp (fun z => h10 (Int32.le_iff_toInt_le.mpr z))
  have e19 : ((y0 + 1) : Int32).toInt = y0.toInt + 1 := by rw [Int32.toInt_add, show (1 : Int32).toInt = 1 from rfl, Int.bmod_eq_of_le (by omega) (by omega)]
  exact (fun z => by have z : ((y0 + 1) : Int32).toInt < 0 := Int32.lt_iff_toInt_lt.mp z; omega)
theorem gq_token_s38 {y0 : Int32} {y1 : Int32} {y2 : Int32} {y3 : Int32} (h0 : ¬ (y2 = y1)) (h1 : ¬ (y2 < 0)) (h2 : y2 ≤ y1) (h3 : ¬ (y0 < 0)) (h4 : y0 ≤ y1) (h5 : y2 ≤ y0) (h6 : ¬ (y3 < 0)) (h7 : y3 ≤ y1) (h8 : y1 ≤ 900) (h9 : ¬ (y1 ≤ y2)) (h10 : ¬ (y1 ≤ y0)) : (y0 + 1) ≤ y1 := by
  have l_y0 := y0.le_toInt
  have u_y0 := y0.toInt_lt
  have l_y1 := y1.le_toInt
  have u_y1 := y1.toInt_lt
  have l_y2 := y2.le_toInt
  have u_y2 := y2.toInt_lt
  have l_y3 := y3.le_toInt
  have u_y3 := y3.toInt_lt
  have h0 : ¬ (y2.toInt = y1.toInt) := fun z => h0 (Int32.toInt_inj.mp z)
  have h1 : 0 ≤ y2.toInt := Int.not_lt.mp (fun z => h1 (Int32.lt_iff_toInt_lt.mpr z))
  have h2 : y2.toInt ≤ y1.toInt := Int32.le_iff_toInt_le.mp h2
  have h3 : 0 ≤ y0.toInt := Int.not_lt.mp (fun z => h3 (Int32.lt_iff_toInt_lt.mpr z))
  have h4 : y0.toInt ≤ y1.toInt := Int32.le_iff_toInt_le.mp h4
  have h5 : y2.toInt ≤ y0.toInt := Int32.le_iff_toInt_le.mp h5
  have h6 : 0 ≤ y3.toInt := Int.not_lt.mp (fun z => h6 (Int32.lt_iff_toInt_lt.mpr z))
  have h7 : y3.toInt ≤ y1.toInt := Int32.le_iff_toInt_le.mp h7
  have h8 : y1.toInt ≤ 900 := Int32.le_iff_toInt_le.mp h8
  have h9 : y2.toInt < y1.toInt := Int.not_le.mp (fun z => h9 (Int32.le_iff_toInt_le.mpr z))
  have h10 : y0.toInt < y1.toInt := Int.not_le.mp (fun z => h10 (Int32.le_iff_toInt_le.mpr z))
  have e19 : ((y0 + 1) : Int32).toInt = y0.toInt + 1 := by rw [Int32.toInt_add, show (1 : Int32).toInt = 1 from rfl, Int.bmod_eq_of_le (by omega) (by omega)]
  exact Int32.le_iff_toInt_le.mpr (show ((y0 + 1) : Int32).toInt ≤ y1.toInt by omega)
theorem gq_token_s39 {y0 : Int32} {y1 : Int32} {y2 : Int32} {y3 : Int32} (h0 : ¬ (y1 = y2)) (h1 : ¬ (y1 < 0)) (h2 : y1 ≤ y2) (h3 : ¬ (y0 < 0)) (h4 : y0 ≤ y2) (h5 : y1 ≤ y0) (h6 : ¬ (y3 < 0)) (h7 : y3 ≤ y2) (h8 : y2 ≤ 900) (h9 : ¬ (y2 ≤ y1)) (h10 : ¬ (y2 ≤ y0)) : y0 < 900 := by
  have l_y0 := y0.le_toInt
  have u_y0 := y0.toInt_lt
  have l_y1 := y1.le_toInt
  have u_y1 := y1.toInt_lt
  have l_y2 := y2.le_toInt
  have u_y2 := y2.toInt_lt
  have l_y3 := y3.le_toInt
  have u_y3 := y3.toInt_lt
  have h0 : ¬ (y1.toInt = y2.toInt) := fun z => h0 (Int32.toInt_inj.mp z)
  have h1 : 0 ≤ y1.toInt := Int.not_lt.mp (fun z => h1 (Int32.lt_iff_toInt_lt.mpr z))
  have h2 : y1.toInt ≤ y2.toInt := Int32.le_iff_toInt_le.mp h2
  have h3 : 0 ≤ y0.toInt := Int.not_lt.mp (fun z => h3 (Int32.lt_iff_toInt_lt.mpr z))
  have h4 : y0.toInt ≤ y2.toInt := Int32.le_iff_toInt_le.mp h4
  have h5 : y1.toInt ≤ y0.toInt := Int32.le_iff_toInt_le.mp h5
  have h6 : 0 ≤ y3.toInt := Int.not_lt.mp (fun z => h6 (Int32.lt_iff_toInt_lt.mpr z))
  have h7 : y3.toInt ≤ y2.toInt := Int32.le_iff_toInt_le.mp h7
  have h8 : y2.toInt ≤ 900 := Int32.le_iff_toInt_le.mp h8
  have h9 : y1.toInt < y2.toInt := Int.not_le.mp (fun z => h9 (Int32.le_iff_toInt_le.mpr z))
  have h10 : y0.toInt < y2.toInt := Int.not_le.mp (fun z => h10 (Int32.le_iff_toInt_le.mpr z))
  exact Int32.lt_iff_toInt_lt.mpr (show y0.toInt < 900 by omega)
theorem gq_token_s40 {y0 : Int32} {y1 : Int32} {y2 : Int32} {y3 : Int32} (h0 : ¬ (y0 = y2)) (h1 : ¬ (y0 < 0)) (h2 : y0 ≤ y2) (h3 : ¬ (y1 < 0)) (h4 : y1 ≤ y2) (h5 : y0 ≤ y1) (h6 : ¬ (y3 < 0)) (h7 : y3 ≤ y2) (h8 : y2 ≤ 900) (h9 : ¬ (y2 ≤ y0)) (h10 : ¬ (y2 ≤ y1)) : y0 ≤ (y1 + 1) := by
  have l_y0 := y0.le_toInt
  have u_y0 := y0.toInt_lt
  have l_y1 := y1.le_toInt
  have u_y1 := y1.toInt_lt
  have l_y2 := y2.le_toInt
  have u_y2 := y2.toInt_lt
  have l_y3 := y3.le_toInt
  have u_y3 := y3.toInt_lt
  have h0 : ¬ (y0.toInt = y2.toInt) := fun z => h0 (Int32.toInt_inj.mp z)
  have h1 : 0 ≤ y0.toInt := Int.not_lt.mp (fun z => h1 (Int32.lt_iff_toInt_lt.mpr z))
  have h2 : y0.toInt ≤ y2.toInt := Int32.le_iff_toInt_le.mp h2
  have h3 : 0 ≤ y1.toInt := Int.not_lt.mp (fun z => h3 (Int32.lt_iff_toInt_lt.mpr z))
  have h4 : y1.toInt ≤ y2.toInt := Int32.le_iff_toInt_le.mp h4
  have h5 : y0.toInt ≤ y1.toInt := Int32.le_iff_toInt_le.mp h5
  have h6 : 0 ≤ y3.toInt := Int.not_lt.mp (fun z => h6 (Int32.lt_iff_toInt_lt.mpr z))
  have h7 : y3.toInt ≤ y2.toInt := Int32.le_iff_toInt_le.mp h7
  have h8 : y2.toInt ≤ 900 := Int32.le_iff_toInt_le.mp h8
  have h9 : y0.toInt < y2.toInt := Int.not_le.mp (fun z => h9 (Int32.le_iff_toInt_le.mpr z))
  have h10 : y1.toInt < y2.toInt := Int.not_le.mp (fun z => h10 (Int32.le_iff_toInt_le.mpr z))
  have e19 : ((y1 + 1) : Int32).toInt = y1.toInt + 1 := by rw [Int32.toInt_add, show (1 : Int32).toInt = 1 from rfl, Int.bmod_eq_of_le (by omega) (by omega)]
  exact Int32.le_iff_toInt_le.mpr (show y0.toInt ≤ ((y1 + 1) : Int32).toInt by omega)
theorem gq_token_s41 {y0 : Int32} {y1 : Int32} {y2 : Int32} (h0 : ¬ (y0 = y1)) (h1 : ¬ (y0 < 0)) (h2 : y0 ≤ y1) (h3 : ¬ (y2 < 0)) (h4 : y2 ≤ y1) (h5 : y1 ≤ 900) (h6 : ¬ (y1 ≤ y0)) : ¬ (y0 < 0) := gq_token_s16 h0 h1 h2 h3 h4 h5 h6
theorem gq_token_s42 {y0 : Int32} {y1 : Int32} {y2 : Int32} (h0 : ¬ (y0 = y1)) (h1 : ¬ (y0 < 0)) (h2 : y0 ≤ y1) (h3 : ¬ (y2 < 0)) (h4 : y2 ≤ y1) (h5 : y1 ≤ 900) (h6 : ¬ (y1 ≤ y0)) : y0 ≤ y1 := gq_token_s17 h0 h1 h2 h3 h4 h5 h6
theorem gq_token_s43 {y0 : Int32} {y1 : Int32} {y2 : Int32} (h0 : ¬ (y0 = y1)) (h1 : ¬ (y0 < 0)) (h2 : y0 ≤ y1) (h3 : ¬ (y2 < 0)) (h4 : y2 ≤ y1) (h5 : y1 ≤ 900) (h6 : ¬ (y1 ≤ y0)) : ¬ (y0 < 0) := gq_token_s16 h0 h1 h2 h3 h4 h5 h6
theorem gq_token_s44 {y0 : Int32} {y1 : Int32} {y2 : Int32} (h0 : ¬ (y0 = y1)) (h1 : ¬ (y0 < 0)) (h2 : y0 ≤ y1) (h3 : ¬ (y2 < 0)) (h4 : y2 ≤ y1) (h5 : y1 ≤ 900) (h6 : ¬ (y1 ≤ y0)) : y0 ≤ y0 := by lia
theorem gq_token_s45 {y0 : Int32} {y1 : Int32} {y2 : Int32} (h0 : y0 = y1) (h1 : ¬ (y0 < 0)) (h2 : y0 ≤ y1) (h3 : ¬ (y2 < 0)) (h4 : y2 ≤ y1) (h5 : y1 ≤ 900) : ¬ (y0 < 0) := h1
theorem gq_token_s46 {y0 : Int32} {y1 : Int32} {y2 : Int32} (h0 : y0 = y1) (h1 : ¬ (y0 < 0)) (h2 : y0 ≤ y1) (h3 : ¬ (y2 < 0)) (h4 : y2 ≤ y1) (h5 : y1 ≤ 900) : y0 ≤ y1 := h2
theorem gq_token_s47 {y0 : Int32} {y1 : Int32} {y2 : Int32} (h0 : y1 ≤ y0) (h1 : ¬ (y0 < 0)) (h2 : y0 ≤ y1) (h3 : ¬ (y2 < 0)) (h4 : y2 ≤ y1) (h5 : y1 ≤ 900) : ¬ (y0 < 0) := h1
theorem gq_token_s48 {y0 : Int32} {y1 : Int32} {y2 : Int32} (h0 : y1 ≤ y0) (h1 : ¬ (y0 < 0)) (h2 : y0 ≤ y1) (h3 : ¬ (y2 < 0)) (h4 : y2 ≤ y1) (h5 : y1 ≤ 900) : y0 ≤ y1 := h2
theorem gq_token_s49 {y0 : Int32} {y1 : Int32} {y2 : Int32} (h0 : y1 ≤ y0) (h1 : ¬ (y0 < 0)) (h2 : y0 ≤ y1) (h3 : ¬ (y2 < 0)) (h4 : y2 ≤ y1) (h5 : y1 ≤ 900) : ¬ (y0 < 0) := gq_token_s47 h0 h1 h2 h3 h4 h5
theorem gq_token_s50 {y0 : Int32} {y1 : Int32} {y2 : Int32} (h0 : y1 ≤ y0) (h1 : ¬ (y0 < 0)) (h2 : y0 ≤ y1) (h3 : ¬ (y2 < 0)) (h4 : y2 ≤ y1) (h5 : y1 ≤ 900) : y0 ≤ y1 := gq_token_s48 h0 h1 h2 h3 h4 h5
theorem gq_token_s51 {y0 : Int32} {y1 : Int32} {y2 : Int32} (h0 : ¬ (y1 ≤ y0)) (h1 : ¬ (y0 < 0)) (h2 : y0 ≤ y1) (h3 : ¬ (y2 < 0)) (h4 : y2 ≤ y1) (h5 : y1 ≤ 900) : ¬ (y0 < 0) ∧ ¬ (900 ≤ y0) := by lia
theorem gq_token_s52 {y0 : Int32} {y1 : Int32} {y2 : Int32} (h0 : ¬ (y1 ≤ y0)) (h1 : ¬ (y0 < 0)) (h2 : y0 ≤ y1) (h3 : ¬ (y2 < 0)) (h4 : y2 ≤ y1) (h5 : y1 ≤ 900) : ¬ ((y0 + 1) < 0) := by lia
theorem gq_token_s53 {y0 : Int32} {y1 : Int32} {y2 : Int32} (h0 : ¬ (y1 ≤ y0)) (h1 : ¬ (y0 < 0)) (h2 : y0 ≤ y1) (h3 : ¬ (y2 < 0)) (h4 : y2 ≤ y1) (h5 : y1 ≤ 900) : (y0 + 1) ≤ y1 := by lia
theorem gq_token_s54 {y0 : Int32} {y1 : Int32} {y2 : Int32} (h0 : ¬ (y1 ≤ y0)) (h1 : ¬ (y0 < 0)) (h2 : y0 ≤ y1) (h3 : ¬ (y2 < 0)) (h4 : y2 ≤ y1) (h5 : y1 ≤ 900) : y0 < 900 := by lia
theorem gq_token_s55 {y0 : Int32} {y1 : Int32} {y2 : Int32} (h0 : ¬ (y1 ≤ y0)) (h1 : ¬ (y0 < 0)) (h2 : y0 ≤ y1) (h3 : ¬ (y2 < 0)) (h4 : y2 ≤ y1) (h5 : y1 ≤ 900) : ¬ (y0 < 0) ∧ ¬ (900 ≤ y0) := gq_token_s51 h0 h1 h2 h3 h4 h5
theorem gq_token_s56 {y0 : Int32} {y1 : Int32} {y2 : Int32} (h0 : ¬ (y1 ≤ y0)) (h1 : ¬ (y0 < 0)) (h2 : y0 ≤ y1) (h3 : ¬ (y2 < 0)) (h4 : y2 ≤ y1) (h5 : y1 ≤ 900) : ¬ (y0 < 0) := h1
theorem gq_token_s57 {y0 : Int32} {y1 : Int32} {y2 : Int32} (h0 : ¬ (y1 ≤ y0)) (h1 : ¬ (y0 < 0)) (h2 : y0 ≤ y1) (h3 : ¬ (y2 < 0)) (h4 : y2 ≤ y1) (h5 : y1 ≤ 900) : y0 ≤ y1 := h2
theorem gq_token_s58 {y0 : Int32} {y1 : Int32} {y2 : Int32} (h0 : ¬ (y1 ≤ y0)) (h1 : ¬ (y0 < 0)) (h2 : y0 ≤ y1) (h3 : ¬ (y2 < 0)) (h4 : y2 ≤ y1) (h5 : y1 ≤ 900) : ¬ ((y0 + 1) < 0) := gq_token_s52 h0 h1 h2 h3 h4 h5
theorem gq_token_s59 {y0 : Int32} {y1 : Int32} {y2 : Int32} (h0 : ¬ (y1 ≤ y0)) (h1 : ¬ (y0 < 0)) (h2 : y0 ≤ y1) (h3 : ¬ (y2 < 0)) (h4 : y2 ≤ y1) (h5 : y1 ≤ 900) : (y0 + 1) ≤ y1 := gq_token_s53 h0 h1 h2 h3 h4 h5
theorem gq_token_s60 {y0 : Int32} {y1 : Int32} {y2 : Int32} (h0 : ¬ (y1 ≤ y0)) (h1 : ¬ (y0 < 0)) (h2 : y0 ≤ y1) (h3 : ¬ (y2 < 0)) (h4 : y2 ≤ y1) (h5 : y1 ≤ 900) : y0 < 900 := gq_token_s54 h0 h1 h2 h3 h4 h5
theorem gq_token_s61 {y0 : Int32} {y1 : Int32} (h0 : ¬ (y0 < 0)) (h1 : y0 ≤ y1) (h2 : y1 ≤ 900) : ¬ (y0 < 0) := h0
theorem gq_token_s62 {y0 : Int32} {y1 : Int32} (h0 : ¬ (y0 < 0)) (h1 : y0 ≤ y1) (h2 : y1 ≤ 900) : y0 ≤ y1 := h1
theorem gq_token_s63 {y0 : Int32} {y1 : Int32} (h0 : ¬ (y0 < 0)) (h1 : y0 ≤ y1) (h2 : y1 ≤ 900) : ¬ (y0 < 0) := h0
theorem dX12_token_52 : decode cX12_token 52 = .ok (.aload_n 0, 1) := zk_42 (by decide +kernel)
theorem dX12_token_53 : decode cX12_token 53 = .ok (.aload_n 0, 1) := zk_42 (by decide +kernel)
theorem dX12_token_54 : decode cX12_token 54 = .ok (.getfield 136, 3) := zk_180 (by decide +kernel)
theorem dX12_token_57 : decode cX12_token 57 = .ok (.putfield 130, 3) := zk_181 (by decide +kernel)
theorem dX12_token_60 : decode cX12_token 60 = .ok (.aload_n 0, 1) := zk_42 (by decide +kernel)
theorem dX12_token_61 : decode cX12_token 61 = .ok (.getfield 136, 3) := zk_180 (by decide +kernel)
theorem dX12_token_64 : decode cX12_token 64 = .ok (.aload_n 0, 1) := zk_42 (by decide +kernel)
theorem dX12_token_65 : decode cX12_token 65 = .ok (.getfield 133, 3) := zk_180 (by decide +kernel)
theorem dX12_token_68 : decode cX12_token 68 = .ok (.if_icmp .ne 11, 3) := zk_160 (by decide +kernel)
theorem dX12_token_79 : decode cX12_token 79 = .ok (.aload_n 0, 1) := zk_42 (by decide +kernel)
theorem dX12_token_80 : decode cX12_token 80 = .ok (.aload_n 0, 1) := zk_42 (by decide +kernel)
theorem dX12_token_81 : decode cX12_token 81 = .ok (.getfield 136, 3) := zk_180 (by decide +kernel)
theorem dX12_token_84 : decode cX12_token 84 = .ok (.invokevirtual 142, 3) := zk_182 (by decide +kernel)
theorem dX12_token_87 : decode cX12_token 87 = .ok (.ifCond .eq 105, 3) := zk_153 (by decide +kernel)
theorem dX12_token_192 : decode cX12_token 192 = .ok (.aload_n 0, 1) := zk_42 (by decide +kernel)
theorem dX12_token_193 : decode cX12_token 193 = .ok (.aload_n 0, 1) := zk_42 (by decide +kernel)
theorem dX12_token_194 : decode cX12_token 194 = .ok (.getfield 136, 3) := zk_180 (by decide +kernel)
theorem dX12_token_197 : decode cX12_token 197 = .ok (.invokevirtual 156, 3) := zk_182 (by decide +kernel)
theorem dX12_token_200 : decode cX12_token 200 = .ok (.ifCond .eq 77, 3) := zk_153 (by decide +kernel)
theorem dX12_token_277 : decode cX12_token 277 = .ok (.aload_n 0, 1) := zk_42 (by decide +kernel)
theorem dX12_token_278 : decode cX12_token 278 = .ok (.invokevirtual 160, 3) := zk_182 (by decide +kernel)
theorem dX12_token_281 : decode cX12_token 281 = .ok (.return_, 1) := zk_177 (by decide +kernel)
theorem dX12_token_203 : decode cX12_token 203 = .ok (.aload_n 0, 1) := zk_42 (by decide +kernel)
theorem dX12_token_204 : decode cX12_token 204 = .ok (.iconst 3, 1) := zk_6 (by decide +kernel)
theorem dX12_token_205 : decode cX12_token 205 = .ok (.putfield 139, 3) := zk_181 (by decide +kernel)
theorem dX12_token_208 : decode cX12_token 208 = .ok (.aload_n 0, 1) := zk_42 (by decide +kernel)
theorem dX12_token_209 : decode cX12_token 209 = .ok (.iconst 0, 1) := zk_3 (by decide +kernel)
theorem dX12_token_210 : decode cX12_token 210 = .ok (.putfield 150, 3) := zk_181 (by decide +kernel)
theorem dX12_token_213 : decode cX12_token 213 = .ok (.aload_n 0, 1) := zk_42 (by decide +kernel)
theorem dX12_token_214 : decode cX12_token 214 = .ok (.aload_n 0, 1) := zk_42 (by decide +kernel)
theorem dX12_token_215 : decode cX12_token 215 = .ok (.getfield 136, 3) := zk_180 (by decide +kernel)
theorem dX12_token_218 : decode cX12_token 218 = .ok (.invokevirtual 156, 3) := zk_182 (by decide +kernel)
theorem dX12_token_221 : decode cX12_token 221 = .ok (.ifCond .eq 60, 3) := zk_153 (by decide +kernel)
theorem dX12_token_224 : decode cX12_token 224 = .ok (.aload_n 0, 1) := zk_42 (by decide +kernel)
theorem dX12_token_225 : decode cX12_token 225 = .ok (.aload_n 0, 1) := zk_42 (by decide +kernel)
theorem dX12_token_226 : decode cX12_token 226 = .ok (.getfield 150, 3) := zk_180 (by decide +kernel)
theorem dX12_token_229 : decode cX12_token 229 = .ok (.ldc 159, 2) := zk_18 (by decide +kernel)
theorem dX12_token_261 : decode cX12_token 261 = .ok (.putfield 150, 3) := zk_181 (by decide +kernel)
theorem dX12_token_264 : decode cX12_token 264 = .ok (.aload_n 0, 1) := zk_42 (by decide +kernel)
theorem dX12_token_265 : decode cX12_token 265 = .ok (.dup, 1) := zk_89 (by decide +kernel)
theorem dX12_token_266 : decode cX12_token 266 = .ok (.getfield 136, 3) := zk_180 (by decide +kernel)
theorem dX12_token_269 : decode cX12_token 269 = .ok (.iconst 1, 1) := zk_4 (by decide +kernel)
theorem dX12_token_270 : decode cX12_token 270 = .ok (.iadd, 1) := zk_96 (by decide +kernel)
theorem dX12_token_271 : decode cX12_token 271 = .ok (.putfield 136, 3) := zk_181 (by decide +kernel)
theorem dX12_token_274 : decode cX12_token 274 = .ok (.goto (-61), 3) := zk_167 (by decide +kernel)
theorem dX12_token_231 : decode cX12_token 231 = .ok (.if_icmp .le 10, 3) := zk_164 (by decide +kernel)
theorem dX12_token_241 : decode cX12_token 241 = .ok (.bipush 10, 2) := zk_16 (by decide +kernel)
theorem dX12_token_243 : decode cX12_token 243 = .ok (.aload_n 0, 1) := zk_42 (by decide +kernel)
theorem dX12_token_244 : decode cX12_token 244 = .ok (.getfield 150, 3) := zk_180 (by decide +kernel)
theorem dX12_token_247 : decode cX12_token 247 = .ok (.imul, 1) := zk_104 (by decide +kernel)
theorem dX12_token_248 : decode cX12_token 248 = .ok (.aload_n 0, 1) := zk_42 (by decide +kernel)
theorem dX12_token_249 : decode cX12_token 249 = .ok (.getfield 7, 3) := zk_180 (by decide +kernel)
theorem dX12_token_252 : decode cX12_token 252 = .ok (.aload_n 0, 1) := zk_42 (by decide +kernel)
theorem dX12_token_253 : decode cX12_token 253 = .ok (.getfield 136, 3) := zk_180 (by decide +kernel)
theorem dX12_token_256 : decode cX12_token 256 = .ok (.iaload, 1) := zk_46 (by decide +kernel)
theorem dX12_token_257 : decode cX12_token 257 = .ok (.iadd, 1) := zk_96 (by decide +kernel)
theorem dX12_token_258 : decode cX12_token 258 = .ok (.bipush 48, 2) := zk_16 (by decide +kernel)
theorem dX12_token_260 : decode cX12_token 260 = .ok (.isub, 1) := zk_100 (by decide +kernel)
theorem dX12_token_234 : decode cX12_token 234 = .ok (.aload_n 0, 1) := zk_42 (by decide +kernel)
theorem dX12_token_235 : decode cX12_token 235 = .ok (.getfield 150, 3) := zk_180 (by decide +kernel)
theorem dX12_token_238 : decode cX12_token 238 = .ok (.goto 23, 3) := zk_167 (by decide +kernel)
theorem dX12_token_114 : decode cX12_token 114 = .ok (.aload_n 0, 1) := zk_42 (by decide +kernel)
theorem dX12_token_115 : decode cX12_token 115 = .ok (.aload_n 0, 1) := zk_42 (by decide +kernel)
theorem dX12_token_116 : decode cX12_token 116 = .ok (.aload_n 0, 1) := zk_42 (by decide +kernel)
theorem dX12_token_117 : decode cX12_token 117 = .ok (.getfield 130, 3) := zk_180 (by decide +kernel)
theorem dX12_token_120 : decode cX12_token 120 = .ok (.aload_n 0, 1) := zk_42 (by decide +kernel)
theorem dX12_token_121 : decode cX12_token 121 = .ok (.getfield 136, 3) := zk_180 (by decide +kernel)
theorem dX12_token_124 : decode cX12_token 124 = .ok (.invokevirtual 146, 3) := zk_182 (by decide +kernel)
theorem dX12_token_127 : decode cX12_token 127 = .ok (.putfield 150, 3) := zk_181 (by decide +kernel)
theorem dX12_token_130 : decode cX12_token 130 = .ok (.aload_n 0, 1) := zk_42 (by decide +kernel)
theorem dX12_token_131 : decode cX12_token 131 = .ok (.aload_n 0, 1) := zk_42 (by decide +kernel)
theorem dX12_token_132 : decode cX12_token 132 = .ok (.getfield 150, 3) := zk_180 (by decide +kernel)
theorem dX12_token_162 : decode cX12_token 162 = .ok (.putfield 139, 3) := zk_181 (by decide +kernel)
theorem dX12_token_165 : decode cX12_token 165 = .ok (.aload_n 0, 1) := zk_42 (by decide +kernel)
theorem dX12_token_166 : decode cX12_token 166 = .ok (.getfield 139, 3) := zk_180 (by decide +kernel)
theorem dX12_token_169 : decode cX12_token 169 = .ok (.iconst 2, 1) := zk_5 (by decide +kernel)
theorem dX12_token_170 : decode cX12_token 170 = .ok (.if_icmp .ne 111, 3) := zk_160 (by decide +kernel)
theorem dX12_token_173 : decode cX12_token 173 = .ok (.aload_n 0, 1) := zk_42 (by decide +kernel)
theorem dX12_token_174 : decode cX12_token 174 = .ok (.aload_n 0, 1) := zk_42 (by decide +kernel)
theorem dX12_token_175 : decode cX12_token 175 = .ok (.aload_n 0, 1) := zk_42 (by decide +kernel)
theorem dX12_token_176 : decode cX12_token 176 = .ok (.getfield 130, 3) := zk_180 (by decide +kernel)
theorem dX12_token_179 : decode cX12_token 179 = .ok (.aload_n 0, 1) := zk_42 (by decide +kernel)
theorem dX12_token_180 : decode cX12_token 180 = .ok (.getfield 136, 3) := zk_180 (by decide +kernel)
theorem dX12_token_183 : decode cX12_token 183 = .ok (.invokevirtual 153, 3) := zk_182 (by decide +kernel)
theorem dX12_token_186 : decode cX12_token 186 = .ok (.putfield 150, 3) := zk_181 (by decide +kernel)
theorem dX12_token_189 : decode cX12_token 189 = .ok (.goto 92, 3) := zk_167 (by decide +kernel)
theorem dX12_token_135 : decode cX12_token 135 = .ok (.ifCond .lt 7, 3) := zk_155 (by decide +kernel)
theorem dX12_token_142 : decode cX12_token 142 = .ok (.aload_n 0, 1) := zk_42 (by decide +kernel)
theorem dX12_token_143 : decode cX12_token 143 = .ok (.getfield 136, 3) := zk_180 (by decide +kernel)
theorem dX12_token_146 : decode cX12_token 146 = .ok (.aload_n 0, 1) := zk_42 (by decide +kernel)
theorem dX12_token_147 : decode cX12_token 147 = .ok (.getfield 130, 3) := zk_180 (by decide +kernel)
theorem dX12_token_150 : decode cX12_token 150 = .ok (.isub, 1) := zk_100 (by decide +kernel)
theorem dX12_token_151 : decode cX12_token 151 = .ok (.bipush 6, 2) := zk_16 (by decide +kernel)
theorem dX12_token_153 : decode cX12_token 153 = .ok (.if_icmp .le 8, 3) := zk_164 (by decide +kernel)
theorem dX12_token_161 : decode cX12_token 161 = .ok (.iconst 2, 1) := zk_5 (by decide +kernel)
theorem dX12_token_156 : decode cX12_token 156 = .ok (.bipush 6, 2) := zk_16 (by decide +kernel)
theorem dX12_token_158 : decode cX12_token 158 = .ok (.goto 4, 3) := zk_167 (by decide +kernel)
theorem dX12_token_138 : decode cX12_token 138 = .ok (.iconst 1, 1) := zk_4 (by decide +kernel)
theorem dX12_token_139 : decode cX12_token 139 = .ok (.goto 23, 3) := zk_167 (by decide +kernel)
theorem dX12_token_90 : decode cX12_token 90 = .ok (.aload_n 0, 1) := zk_42 (by decide +kernel)
theorem dX12_token_91 : decode cX12_token 91 = .ok (.aload_n 0, 1) := zk_42 (by decide +kernel)
theorem dX12_token_92 : decode cX12_token 92 = .ok (.getfield 136, 3) := zk_180 (by decide +kernel)
theorem dX12_token_95 : decode cX12_token 95 = .ok (.invokevirtual 142, 3) := zk_182 (by decide +kernel)
theorem dX12_token_98 : decode cX12_token 98 = .ok (.ifCond .eq 16, 3) := zk_153 (by decide +kernel)
theorem dX12_token_101 : decode cX12_token 101 = .ok (.aload_n 0, 1) := zk_42 (by decide +kernel)
theorem dX12_token_102 : decode cX12_token 102 = .ok (.dup, 1) := zk_89 (by decide +kernel)
theorem dX12_token_103 : decode cX12_token 103 = .ok (.getfield 136, 3) := zk_180 (by decide +kernel)
theorem dX12_token_106 : decode cX12_token 106 = .ok (.iconst 1, 1) := zk_4 (by decide +kernel)
theorem dX12_token_107 : decode cX12_token 107 = .ok (.iadd, 1) := zk_96 (by decide +kernel)
theorem dX12_token_108 : decode cX12_token 108 = .ok (.putfield 136, 3) := zk_181 (by decide +kernel)
theorem dX12_token_111 : decode cX12_token 111 = .ok (.goto (-21), 3) := zk_167 (by decide +kernel)
theorem dX12_token_71 : decode cX12_token 71 = .ok (.aload_n 0, 1) := zk_42 (by decide +kernel)
theorem dX12_token_72 : decode cX12_token 72 = .ok (.iconst 0, 1) := zk_3 (by decide +kernel)
theorem dX12_token_73 : decode cX12_token 73 = .ok (.putfield 139, 3) := zk_181 (by decide +kernel)
theorem dX12_token_76 : decode cX12_token 76 = .ok (.goto 205, 3) := zk_167 (by decide +kernel)
theorem dX12_token_0 : decode cX12_token 0 = .ok (.aload_n 0, 1) := zk_42 (by decide +kernel)
theorem dX12_token_1 : decode cX12_token 1 = .ok (.getfield 136, 3) := zk_180 (by decide +kernel)
theorem dX12_token_4 : decode cX12_token 4 = .ok (.aload_n 0, 1) := zk_42 (by decide +kernel)
theorem dX12_token_5 : decode cX12_token 5 = .ok (.getfield 133, 3) := zk_180 (by decide +kernel)
theorem dX12_token_8 : decode cX12_token 8 = .ok (.if_icmp .ge 44, 3) := zk_162 (by decide +kernel)
theorem dX12_token_11 : decode cX12_token 11 = .ok (.aload_n 0, 1) := zk_42 (by decide +kernel)
theorem dX12_token_12 : decode cX12_token 12 = .ok (.getfield 7, 3) := zk_180 (by decide +kernel)
theorem dX12_token_15 : decode cX12_token 15 = .ok (.aload_n 0, 1) := zk_42 (by decide +kernel)
theorem dX12_token_16 : decode cX12_token 16 = .ok (.getfield 136, 3) := zk_180 (by decide +kernel)
theorem dX12_token_19 : decode cX12_token 19 = .ok (.iaload, 1) := zk_46 (by decide +kernel)
theorem dX12_token_20 : decode cX12_token 20 = .ok (.bipush 10, 2) := zk_16 (by decide +kernel)
theorem dX12_token_22 : decode cX12_token 22 = .ok (.if_icmp .eq 17, 3) := zk_159 (by decide +kernel)
theorem dX12_token_39 : decode cX12_token 39 = .ok (.aload_n 0, 1) := zk_42 (by decide +kernel)
theorem dX12_token_40 : decode cX12_token 40 = .ok (.dup, 1) := zk_89 (by decide +kernel)
theorem dX12_token_41 : decode cX12_token 41 = .ok (.getfield 136, 3) := zk_180 (by decide +kernel)
theorem dX12_token_44 : decode cX12_token 44 = .ok (.iconst 1, 1) := zk_4 (by decide +kernel)
theorem dX12_token_45 : decode cX12_token 45 = .ok (.iadd, 1) := zk_96 (by decide +kernel)
theorem dX12_token_46 : decode cX12_token 46 = .ok (.putfield 136, 3) := zk_181 (by decide +kernel)
theorem dX12_token_49 : decode cX12_token 49 = .ok (.goto (-49), 3) := zk_167 (by decide +kernel)
theorem dX12_token_25 : decode cX12_token 25 = .ok (.aload_n 0, 1) := zk_42 (by decide +kernel)
theorem dX12_token_26 : decode cX12_token 26 = .ok (.getfield 7, 3) := zk_180 (by decide +kernel)
theorem dX12_token_29 : decode cX12_token 29 = .ok (.aload_n 0, 1) := zk_42 (by decide +kernel)
theorem dX12_token_30 : decode cX12_token 30 = .ok (.getfield 136, 3) := zk_180 (by decide +kernel)
theorem dX12_token_33 : decode cX12_token 33 = .ok (.iaload, 1) := zk_46 (by decide +kernel)
theorem dX12_token_34 : decode cX12_token 34 = .ok (.bipush 32, 2) := zk_16 (by decide +kernel)
theorem dX12_token_36 : decode cX12_token 36 = .ok (.if_icmp .ne 16, 3) := zk_160 (by decide +kernel)
set_option maxHeartbeats 4000000 in
set_option maxRecDepth 100000 in
theorem gq_token (l : Launch) (dC : Nat → ClassId) (dI : Nat → Nat → Nat) (mq : Nat) (g : Nat → Int32) (gl : Nat → Int64) (rf : Nat → Nat) (ck : Nat → ClassId) (f_tape : Nat → Int32) (f_words : Nat → Int32) (sz : Nat) (h0n : ¬ (g 7) < 0) (hns : (g 7) ≤ (g 6)) (hs9 : (g 6) ≤ 900) (hw7 : (f_words 117) = 32) : Met l yX12_token (Cond.code yX12_token cX12_token 1 none :: wsL_law) ({ frames := 1, cells := 0, slots := 0, locals := 27 }) (va_Pc [.ref mq] (fun U => U.heap.size = sz ∧ va_P (dC, dI) vwCl [(mq, .inr (12, mF g gl rf)), (eA0 (rf 0) (ck 0) 900 f_tape), (eA0 (rf 3) (ck 3) 118 f_words)] U.heap ∧ va_K (dC, dI) vwCl [((ck 0), .int), ((ck 3), .int)] U ∧ va_D (fun _ => True) [(mq, .inr (12, mF g gl rf)), (eA0 (rf 0) (ck 0) 900 f_tape), (eA0 (rf 3) (ck 3) 118 f_words)])) (va_Qv (fun (u : (Int32) × (Int32) × (Int32) × (Int32)) => (u = fq_token f_tape f_words (g 6) (g 7) (g 9)) ∧ (¬ u.1 < 0) ∧ (u.1 ≤ (g 6))) (fun (u : (Int32) × (Int32) × (Int32) × (Int32)) t => va_P (dC, dI) vwCl [(mq, .inr (12, mF (upd (upd (upd (upd g 7 u.1) 8 u.2.1) 9 u.2.2.1) 10 u.2.2.2) gl rf)), (eA0 (rf 0) (ck 0) 900 f_tape), (eA0 (rf 3) (ck 3) 118 f_words)] t.heap ∧ va_K (dC, dI) vwCl [] t ∧ va_D (va_A [(mq, .inr (12, mF g gl rf)), (eA0 (rf 0) (ck 0) 900 f_tape), (eA0 (rf 3) (ck 3) 118 f_words)] sz) [(mq, .inr (12, mF (upd (upd (upd (upd g 7 u.1) 8 u.2.1) 9 u.2.2.1) 10 u.2.2.2) gl rf)), (eA0 (rf 0) (ck 0) 900 f_tape), (eA0 (rf 3) (ck 3) 118 f_words)]) (va_A [(mq, .inr (12, mF g gl rf)), (eA0 (rf 0) (ck 0) 900 f_tape), (eA0 (rf 3) (ck 3) 118 f_words)] sz)) 0 0 (va_A [(mq, .inr (12, mF g gl rf)), (eA0 (rf 0) (ck 0) 900 f_tape), (eA0 (rf 3) (ck 3) 118 f_words)] sz) := by
  refine Met.ofW (cc := cX12_token) (maxL := 1) (ret := none) (by decide) rfl ?_
  intro p e s m args below meth c s₁ B hml hv
  obtain ⟨rfl, hsz, hP, hK, hD0⟩ := hv
  have hx := B.exec
  have hb := B.bytes
  have hr := B.returns
  have hts := atoms_spec (ws := Cond.code yX12_token cX12_token 1 none :: wsL_law) B.pre
  have htw : ∀ w ∈ wsL_law, w.before _ s = true := fun w h => hts w (List.mem_cons_of_mem _ h)
  have hown : s.vm.findClass RX12 = some m.cls := findClass_of_methodNamed B.named
  have hlocks := B.notSynchronized
  subst hsz
  have hD := hD0.self (sz := s.heap.size)
  generalize hAe : va_A [(mq, .inr (12, mF g gl rf)), (eA0 (rf 0) (ck 0) 900 f_tape), (eA0 (rf 3) (ck 3) 118 f_words)] s.heap.size = A at hD ⊢
  have hA : ∀ q : Nat, s.heap.size ≤ q → A q := fun q h => by rw [← hAe]; exact Or.inr h
  obtain ⟨H, rH⟩ : ∃ z : Heap, z = s.heap := ⟨_, rfl⟩
  have hS : va_S A s.heap H [] := by rw [rH]; exact va_S.rf
  have hP : va_P (dC, dI) vwCl [(mq, .inr (12, mF g gl rf)), (eA0 (rf 0) (ck 0) 900 f_tape), (eA0 (rf 3) (ck 3) 118 f_words)] H := by rw [rH]; exact hP
  rw [← rH]
  have hl := lv_entry ([.ref mq]) (n := 1) (Nat.le_of_ble_eq_true rfl)
  rw [lg_entry_eq]
  generalize (lg_sl ([.ref mq]) ++ List.replicate (1 - (lg_sl ([.ref mq])).length) Slot.unset).toArray = ls at hl ⊢
  have hl : lv_has ls 1 [(0, .ref mq)] := hl
  obtain ⟨X_1, hX_1⟩ : ∃ X9 : (Int32), X9 = fq_token_a f_tape (g 6) 900 (g 7) := ⟨_, rfl⟩
  have hexit_2 : ∀ (m_next_ax : Int32) (hx0a : ¬ m_next_ax < 0) (hx1a : m_next_ax ≤ (g 6)) (hE9 : X_1 = m_next_ax) (H : Heap) (locs : List Loc) (ls : Array Slot) (hP : va_P (dC, dI) vwCl [(mq, .inr (12, mF (upd g 7 m_next_ax) gl rf)), (eA0 (rf 0) (ck 0) 900 f_tape), (eA0 (rf 3) (ck 3) 118 f_words)] H) (hD : va_D A [(mq, .inr (12, mF (upd g 7 m_next_ax) gl rf)), (eA0 (rf 0) (ck 0) 900 f_tape), (eA0 (rf 3) (ck 3) 118 f_words)]) (hS : va_S A s.heap H locs) (hl : lv_has ls 1 [(0, .ref mq)]), W p l e (headSpec (Cond.code yX12_token cX12_token 1 none :: wsL_law) ({ frames := 1, cells := 0, slots := 0, locals := 27 })).room s m ([.ref mq] : List Value).toArray below meth c H locs 0 0 (MQ below (va_Qv (fun (u : (Int32) × (Int32) × (Int32) × (Int32)) => (u = fq_token f_tape f_words (g 6) (g 7) (g 9)) ∧ (¬ u.1 < 0) ∧ (u.1 ≤ (g 6))) (fun (u : (Int32) × (Int32) × (Int32) × (Int32)) t => va_P (dC, dI) vwCl [(mq, .inr (12, mF (upd (upd (upd (upd g 7 u.1) 8 u.2.1) 9 u.2.2.1) 10 u.2.2.2) gl rf)), (eA0 (rf 0) (ck 0) 900 f_tape), (eA0 (rf 3) (ck 3) 118 f_words)] t.heap ∧ va_K (dC, dI) vwCl [] t ∧ va_D A [(mq, .inr (12, mF (upd (upd (upd (upd g 7 u.1) 8 u.2.1) 9 u.2.2.1) 10 u.2.2.2) gl rf)), (eA0 (rf 0) (ck 0) 900 f_tape), (eA0 (rf 3) (ck 3) 118 f_words)]) A) ([.ref mq] : List Value).toArray s 0 0 A) (F0 m 52 ls []) := by
    intro m_next_ax hx0a hx1a hE9 H locs ls hP hD hS hl
    have hq_m_next_ax : m_next_ax = X_1 := by rw [hE9]
    refine lv_aload_n hx hb dX12_token_52 rfl (lv_at hl 0 rfl) ?_
    refine lv_aload_n hx hb dX12_token_53 rfl (lv_at hl 0 rfl) ?_
    refine va_get (D := (dC, dI)) (ci := 12) (v := .int m_next_ax) (C := RX12) (T := TX12) (N := 76) hx hb htw inlX12 hown hK hP 0 rfl rfl 7 (by decide) (htw _ (ck_24 _ (List.mem_of_getElem? (i := 12) rfl))) (fun _ h9 => h9) rfl dX12_token_54 ?_
    refine va_put (D := (dC, dI)) (ci := 12) (v := .int m_next_ax) (ty := tyX12 10) (C := RX12) (T := TX12) (N := 76) hx hb htw inlX12 tyX12 tyX12_ok nmX12 hown hK hP hD hS 0 rfl rfl 10 (by decide) (htw _ (ck_24 _ (List.mem_of_getElem? (i := 18) rfl))) (fun _ h9 => h9) rfl (tyX12_ok 10 (by decide)) rfl rfl (Nat.le_of_ble_eq_true rfl) dX12_token_57 (fun H locs hP hD hS => ?_)
    have hP : va_P (dC, dI) vwCl [(mq, .inr (12, mF (upd (upd g 7 m_next_ax) 10 m_next_ax) gl rf)), (eA0 (rf 0) (ck 0) 900 f_tape), (eA0 (rf 3) (ck 3) 118 f_words)] H := hP
    have hD : va_D A [(mq, .inr (12, mF (upd (upd g 7 m_next_ax) 10 m_next_ax) gl rf)), (eA0 (rf 0) (ck 0) 900 f_tape), (eA0 (rf 3) (ck 3) 118 f_words)] := hD
    refine lv_aload_n hx hb dX12_token_60 rfl (lv_at hl 0 rfl) ?_
    refine va_get (D := (dC, dI)) (ci := 12) (v := .int m_next_ax) (C := RX12) (T := TX12) (N := 76) hx hb htw inlX12 hown hK hP 0 rfl rfl 7 (by decide) (htw _ (ck_24 _ (List.mem_of_getElem? (i := 12) rfl))) (fun _ h9 => h9) rfl dX12_token_61 ?_
    refine lv_aload_n hx hb dX12_token_64 rfl (lv_at hl 0 rfl) ?_
    refine va_get (D := (dC, dI)) (ci := 12) (v := .int (g 6)) (C := RX12) (T := TX12) (N := 76) hx hb htw inlX12 hown hK hP 0 rfl rfl 6 (by decide) (htw _ (ck_24 _ (List.mem_of_getElem? (i := 10) rfl))) (fun _ h9 => h9) rfl dX12_token_65 ?_
    refine lv_icmp_ne (tgt := 79) hx hb dX12_token_68 (by decide) (fun c_3 => ?_) (fun c_3 => ?_)
    · refine lv_aload_n hx hb dX12_token_79 rfl (lv_at hl 0 rfl) ?_
      refine lv_aload_n hx hb dX12_token_80 rfl (lv_at hl 0 rfl) ?_
      refine va_get (D := (dC, dI)) (ci := 12) (v := .int m_next_ax) (C := RX12) (T := TX12) (N := 76) hx hb htw inlX12 hown hK hP 0 rfl rfl 7 (by decide) (htw _ (ck_24 _ (List.mem_of_getElem? (i := 12) rfl))) (fun _ h9 => h9) rfl dX12_token_81 ?_
      have hPc := hP.sub (ws' := [(mq, .inr (12, mF (upd (upd g 7 m_next_ax) 10 m_next_ax) gl rf)), (eA0 (rf 0) (ck 0) 900 f_tape)]) [0, 1] rfl
      have hKc := hK.sub (tys' := [((ck 0), .int)]) [0] rfl
      refine vp_callSi (W.runV (As := [.int m_next_ax]) (rest := []) ⟨hx, hb, hml, hown, htw⟩ (gq_isSmall l dC dI mq (upd (upd g 7 m_next_ax) 10 m_next_ax) gl rf ck f_tape m_next_ax (gq_token_s0 (y0 := m_next_ax) (y1 := g 6) (y2 := g 7) c_3 hx0a hx1a h0n hns hs9) hs9) (cwV 1 htw (xg_V (ck_24 _ (List.mem_of_getElem? (i := 21) rfl)) (ck_24 _ (List.mem_of_getElem? (i := 22) rfl)) (ck_24 _ (List.mem_of_getElem? (i := 23) rfl)) (ck_1 _ (List.mem_of_getElem? (i := 5) rfl)) (ck_25 _ (List.mem_of_getElem? (i := 0) rfl))) rfl rfl rfl (by exact ⟨rfl, hdc_14.1, hdc_14.2, hdd_26⟩) ⟨Nat.le_of_ble_eq_true rfl, Nat.le_of_ble_eq_true rfl⟩) ⟨fun a U g mk q => by obtain ⟨q0, qP, qK⟩ := q; exact ⟨q0, qP, va_K.moved (u := U) (U := U.calling g mk a) (Vm.Alike.refl U.vm) qK⟩, va_recv hKc hPc (ci := 12) (q0 := 0) rfl rfl, fun U hU hW => ⟨rfl, by rw [hU]; exact hPc, va_K.moved hW.alike hKc⟩⟩ rfl rfl hl.1 rfl (lv_room (Nat.le_of_ble_eq_true rfl)) dX12_token_84 ⟨Nat.le_of_ble_eq_true rfl, Nat.le_of_ble_eq_true rfl⟩) (fun r_4 hw => ?_)
      try dsimp only at hw
      obtain ⟨hw, hb_r_4⟩ := hw
      have hq_r_4 : r_4 = (fq_isSmall f_tape m_next_ax (g 6)) := hw
      refine lv_if_eq (tgt := 192) hx hb dX12_token_87 (by decide) (fun c_5 => ?_) (fun c_5 => ?_)
      · refine lv_aload_n hx hb dX12_token_192 rfl (lv_at hl 0 rfl) ?_
        refine lv_aload_n hx hb dX12_token_193 rfl (lv_at hl 0 rfl) ?_
        refine va_get (D := (dC, dI)) (ci := 12) (v := .int m_next_ax) (C := RX12) (T := TX12) (N := 76) hx hb htw inlX12 hown hK hP 0 rfl rfl 7 (by decide) (htw _ (ck_24 _ (List.mem_of_getElem? (i := 12) rfl))) (fun _ h9 => h9) rfl dX12_token_194 ?_
        have hPc := hP.sub (ws' := [(mq, .inr (12, mF (upd (upd g 7 m_next_ax) 10 m_next_ax) gl rf)), (eA0 (rf 0) (ck 0) 900 f_tape)]) [0, 1] rfl
        have hKc := hK.sub (tys' := [((ck 0), .int)]) [0] rfl
        refine vp_callSi (W.runV (As := [.int m_next_ax]) (rest := []) ⟨hx, hb, hml, hown, htw⟩ (gq_isDigit l dC dI mq (upd (upd g 7 m_next_ax) 10 m_next_ax) gl rf ck f_tape m_next_ax (gq_token_s1 (y0 := m_next_ax) (y1 := g 6) (y2 := g 7) c_3 hx0a hx1a h0n hns hs9) hs9) (cwV 1 htw (xg_V (ck_25 _ (List.mem_of_getElem? (i := 9) rfl)) (ck_25 _ (List.mem_of_getElem? (i := 10) rfl)) (ck_25 _ (List.mem_of_getElem? (i := 11) rfl)) (ck_1 _ (List.mem_of_getElem? (i := 5) rfl)) (ck_25 _ (List.mem_of_getElem? (i := 12) rfl))) rfl rfl rfl (by exact ⟨rfl, hdc_14.1, hdc_14.2, hdd_26⟩) ⟨Nat.le_of_ble_eq_true rfl, Nat.le_of_ble_eq_true rfl⟩) ⟨fun a U g mk q => by obtain ⟨q0, qP, qK⟩ := q; exact ⟨q0, qP, va_K.moved (u := U) (U := U.calling g mk a) (Vm.Alike.refl U.vm) qK⟩, va_recv hKc hPc (ci := 12) (q0 := 0) rfl rfl, fun U hU hW => ⟨rfl, by rw [hU]; exact hPc, va_K.moved hW.alike hKc⟩⟩ rfl rfl hl.1 rfl (lv_room (Nat.le_of_ble_eq_true rfl)) dX12_token_197 ⟨Nat.le_of_ble_eq_true rfl, Nat.le_of_ble_eq_true rfl⟩) (fun r_6 hw => ?_)
        try dsimp only at hw
        obtain ⟨hw, hb_r_6⟩ := hw
        have hq_r_6 : r_6 = (fq_isDigit f_tape m_next_ax (g 6)) := hw
        refine lv_if_eq (tgt := 277) hx hb dX12_token_200 (by decide) (fun c_7 => ?_) (fun c_7 => ?_)
        · refine lv_aload_n hx hb dX12_token_277 rfl (lv_at hl 0 rfl) ?_
          obtain ⟨hPc, hDc, hFc, hCc⟩ := zsub3 (ws' := [(mq, .inr (12, mF (upd (upd g 7 m_next_ax) 10 m_next_ax) gl rf)), (eA0 (rf 0) (ck 0) 900 f_tape)]) hP hD hS hA [0, 1] (by decide) rfl
          have hKc := hK.sub (tys' := [((ck 0), .int)]) [0] rfl
          refine va_callv (va_runV (As := []) (rest := []) ⟨hx, hb, hml, hown, htw⟩ (gq_signToken l dC dI mq (upd (upd g 7 m_next_ax) 10 m_next_ax) gl rf ck f_tape H.size (gq_token_s2 (y0 := m_next_ax) (y1 := g 6) (y2 := g 7) c_3 hx0a hx1a h0n hns hs9) hs9 (gq_token_s3 (y0 := m_next_ax) (y1 := g 6) (y2 := g 7) c_3 hx0a hx1a h0n hns hs9)) (cwV 0 htw (xg_V (ck_25 _ (List.mem_of_getElem? (i := 13) rfl)) (ck_25 _ (List.mem_of_getElem? (i := 14) rfl)) (ck_25 _ (List.mem_of_getElem? (i := 15) rfl)) (ck_1 _ (List.mem_of_getElem? (i := 5) rfl)) (ck_25 _ (List.mem_of_getElem? (i := 16) rfl))) rfl rfl rfl (by exact ⟨rfl, hdc_14.1, hdc_14.2, hdd_13⟩) ⟨Nat.le_of_ble_eq_true rfl, Nat.le_of_ble_eq_true rfl⟩) ⟨fun a U g mk q => by obtain ⟨q0, q1, qP, qK, qD⟩ := q; exact ⟨q0, q1, qP, va_K.moved (u := U) (U := U.calling g mk a) (Vm.Alike.refl U.vm) qK, qD⟩, va_recv hKc hPc (ci := 12) (q0 := 0) rfl rfl, fun U hU hW => ⟨rfl, by rw [hU], by rw [hU]; exact hPc, va_K.moved hW.alike hKc, hDc.weaken (fun _ _ _ _ => trivial)⟩⟩ rfl rfl hl.1 rfl (lv_room (Nat.le_of_ble_eq_true rfl)) dX12_token_278 ⟨Nat.le_of_ble_eq_true rfl, Nat.le_of_ble_eq_true rfl⟩) hS (fun q _ h => hFc q h) hFc (fun u_9 t H1 locs ht hvm hw hB hz1 hk1 hS => ?_)
          try dsimp only at hw
          obtain ⟨hP1, hK1, hD1⟩ := hB
          rw [ht] at hP1
          have hK1 := va_K.moved hvm.symm hK1
          have hK1 : va_K (dC, dI) vwCl [] s := hK1
          obtain ⟨hP, hD⟩ := va_join (wr := [(eA0 (rf 3) (ck 3) 118 f_words)]) (w1 := [(mq, .inr (12, mF (upd (upd (upd (upd g 7 u_9.1) 8 u_9.2.1) 9 u_9.2.2) 10 m_next_ax) gl rf)), (eA0 (rf 0) (ck 0) 900 f_tape)]) hP hD [0, 1] [2] hCc rfl (by decide) (by decide) hk1 hFc hP1 hD1
          generalize H1 = H at hP hS ⊢
          have hP : va_P (dC, dI) vwCl [(eA0 (rf 3) (ck 3) 118 f_words), (mq, .inr (12, mF (upd (upd (upd (upd g 7 u_9.1) 8 u_9.2.1) 9 u_9.2.2) 10 m_next_ax) gl rf)), (eA0 (rf 0) (ck 0) 900 f_tape)] H := hP
          have hD : va_D A [(eA0 (rf 3) (ck 3) 118 f_words), (mq, .inr (12, mF (upd (upd (upd (upd g 7 u_9.1) 8 u_9.2.1) 9 u_9.2.2) 10 m_next_ax) gl rf)), (eA0 (rf 0) (ck 0) 900 f_tape)] := hD
          refine W.widen (k := 0) (n := 0) (by omega) (by omega) ?_
          obtain ⟨hw, hp_13, hp_14⟩ := hw
          have hq_u_9 : u_9 = (fq_signToken f_tape (g 6) m_next_ax) := hw
          refine W.widen (k := 0) (n := 0) (by omega) (by omega) ?_
          obtain ⟨hP9, hD9⟩ := zsub2 (ws' := [(mq, .inr (12, mF (upd (upd (upd (upd g 7 u_9.1) 8 u_9.2.1) 9 u_9.2.2) 10 m_next_ax) gl rf)), (eA0 (rf 0) (ck 0) 900 f_tape), (eA0 (rf 3) (ck 3) 118 f_words)]) hP hD [1, 2, 0] (by decide) rfl
          have hK9 := hK.sub (tys' := []) [] rfl
          exact W.vret hx hb hr (fun t ht hW => ⟨⟨(u_9.1, u_9.2.1, u_9.2.2, m_next_ax), rfl, ⟨(Eq.symm ((by rw [fq_token]; (try rw [← hX_1]); (try rw [xL_eq]); (try rw [← hq_m_next_ax]); (try rw [if_neg c_3]); (try rw [← hq_r_4]); (try rw [xL_eq]); (try rw [if_pos c_5]); (try rw [← hq_r_6]); (try rw [xL_eq]); (try rw [if_pos c_7]); (try rw [← hq_u_9]); (try rw [xL_eq]); try rfl))), (gq_token_s4 (y0 := u_9.1) (y1 := m_next_ax) (y2 := g 6) (y3 := g 7) c_3 hx0a hx1a hp_13 hp_14 h0n hns hs9), (gq_token_s5 (y0 := u_9.1) (y1 := g 6) (y2 := m_next_ax) (y3 := g 7) c_3 hx0a hx1a hp_13 hp_14 h0n hns hs9)⟩, by rw [ht]; exact hP9, va_K.moved hW.alike hK9, hD9⟩, hS.F ht⟩) hS.2.2 dX12_token_281
        · refine lv_aload_n hx hb dX12_token_203 rfl (lv_at hl 0 rfl) ?_
          refine lv_iconst (v := 3) hx hb dX12_token_204 (by decide) ?_
          refine va_put (D := (dC, dI)) (ci := 12) (v := .int 3) (ty := tyX12 8) (C := RX12) (T := TX12) (N := 76) hx hb htw inlX12 tyX12 tyX12_ok nmX12 hown hK hP hD hS 0 rfl rfl 8 (by decide) (htw _ (ck_24 _ (List.mem_of_getElem? (i := 13) rfl))) (fun _ h9 => h9) rfl (tyX12_ok 8 (by decide)) rfl rfl (Nat.le_of_ble_eq_true rfl) dX12_token_205 (fun H locs hP hD hS => ?_)
          have hP : va_P (dC, dI) vwCl [(mq, .inr (12, mF (upd (upd (upd g 7 m_next_ax) 8 3) 10 m_next_ax) gl rf)), (eA0 (rf 0) (ck 0) 900 f_tape), (eA0 (rf 3) (ck 3) 118 f_words)] H := hP
          have hD : va_D A [(mq, .inr (12, mF (upd (upd (upd g 7 m_next_ax) 8 3) 10 m_next_ax) gl rf)), (eA0 (rf 0) (ck 0) 900 f_tape), (eA0 (rf 3) (ck 3) 118 f_words)] := hD
          refine lv_aload_n hx hb dX12_token_208 rfl (lv_at hl 0 rfl) ?_
          refine lv_iconst (v := 0) hx hb dX12_token_209 (by decide) ?_
          refine va_put (D := (dC, dI)) (ci := 12) (v := .int 0) (ty := tyX12 9) (C := RX12) (T := TX12) (N := 76) hx hb htw inlX12 tyX12 tyX12_ok nmX12 hown hK hP hD hS 0 rfl rfl 9 (by decide) (htw _ (ck_24 _ (List.mem_of_getElem? (i := 19) rfl))) (fun _ h9 => h9) rfl (tyX12_ok 9 (by decide)) rfl rfl (Nat.le_of_ble_eq_true rfl) dX12_token_210 (fun H locs hP hD hS => ?_)
          have hP : va_P (dC, dI) vwCl [(mq, .inr (12, mF (upd (upd (upd (upd g 7 m_next_ax) 8 3) 9 0) 10 m_next_ax) gl rf)), (eA0 (rf 0) (ck 0) 900 f_tape), (eA0 (rf 3) (ck 3) 118 f_words)] H := hP
          have hD : va_D A [(mq, .inr (12, mF (upd (upd (upd (upd g 7 m_next_ax) 8 3) 9 0) 10 m_next_ax) gl rf)), (eA0 (rf 0) (ck 0) 900 f_tape), (eA0 (rf 3) (ck 3) 118 f_words)] := hD
          have hloop_15 : ∀ (n : Nat) (m_next_d : Int32) (m_which_d : Int32) (m_at_d : Int32) (h0d : ¬ m_next_d < 0) (h1d : m_next_d ≤ (g 6)) (hfd : (g 6).toInt ≤ m_next_d.toInt + (n : Int)) (hI_d : fq_token f_tape f_words (g 6) (g 7) (g 9) = fq_token_d f_tape (g 6) n m_next_d m_which_d m_at_d) (H : Heap) (locs : List Loc) (ls : Array Slot) (hP : va_P (dC, dI) vwCl [(mq, .inr (12, mF (upd (upd (upd (upd g 7 m_next_d) 8 3) 9 m_which_d) 10 m_at_d) gl rf)), (eA0 (rf 0) (ck 0) 900 f_tape), (eA0 (rf 3) (ck 3) 118 f_words)] H) (hD : va_D A [(mq, .inr (12, mF (upd (upd (upd (upd g 7 m_next_d) 8 3) 9 m_which_d) 10 m_at_d) gl rf)), (eA0 (rf 0) (ck 0) 900 f_tape), (eA0 (rf 3) (ck 3) 118 f_words)]) (hS : va_S A s.heap H locs) (hl : lv_has ls 1 [(0, .ref mq)]), W p l e (headSpec (Cond.code yX12_token cX12_token 1 none :: wsL_law) ({ frames := 1, cells := 0, slots := 0, locals := 27 })).room s m ([.ref mq] : List Value).toArray below meth c H locs 0 0 (MQ below (va_Qv (fun (u : (Int32) × (Int32) × (Int32) × (Int32)) => (u = fq_token f_tape f_words (g 6) (g 7) (g 9)) ∧ (¬ u.1 < 0) ∧ (u.1 ≤ (g 6))) (fun (u : (Int32) × (Int32) × (Int32) × (Int32)) t => va_P (dC, dI) vwCl [(mq, .inr (12, mF (upd (upd (upd (upd g 7 u.1) 8 u.2.1) 9 u.2.2.1) 10 u.2.2.2) gl rf)), (eA0 (rf 0) (ck 0) 900 f_tape), (eA0 (rf 3) (ck 3) 118 f_words)] t.heap ∧ va_K (dC, dI) vwCl [] t ∧ va_D A [(mq, .inr (12, mF (upd (upd (upd (upd g 7 u.1) 8 u.2.1) 9 u.2.2.1) 10 u.2.2.2) gl rf)), (eA0 (rf 0) (ck 0) 900 f_tape), (eA0 (rf 3) (ck 3) 118 f_words)]) A) ([.ref mq] : List Value).toArray s 0 0 A) (F0 m 213 ls []) := by
            intro n
            induction n with
            | zero =>
              intro m_next_d m_which_d m_at_d h0d h1d hfd hI_d H locs ls hP hD hS hl
              refine lv_aload_n hx hb dX12_token_213 rfl (lv_at hl 0 rfl) ?_
              refine lv_aload_n hx hb dX12_token_214 rfl (lv_at hl 0 rfl) ?_
              refine va_get (D := (dC, dI)) (ci := 12) (v := .int m_next_d) (C := RX12) (T := TX12) (N := 76) hx hb htw inlX12 hown hK hP 0 rfl rfl 7 (by decide) (htw _ (ck_24 _ (List.mem_of_getElem? (i := 12) rfl))) (fun _ h9 => h9) rfl dX12_token_215 ?_
              have hPc := hP.sub (ws' := [(mq, .inr (12, mF (upd (upd (upd (upd g 7 m_next_d) 8 3) 9 m_which_d) 10 m_at_d) gl rf)), (eA0 (rf 0) (ck 0) 900 f_tape)]) [0, 1] rfl
              have hKc := hK.sub (tys' := [((ck 0), .int)]) [0] rfl
              refine vp_callSi (W.runV (As := [.int m_next_d]) (rest := []) ⟨hx, hb, hml, hown, htw⟩ (gq_isDigit l dC dI mq (upd (upd (upd (upd g 7 m_next_d) 8 3) 9 m_which_d) 10 m_at_d) gl rf ck f_tape m_next_d (gq_token_s6 (y0 := m_next_d) (y1 := m_next_ax) (y2 := g 6) (y3 := g 7) c_3 hx0a hx1a h0d h1d h0n hns hs9 (fq_digit hq_r_6 c_7)) hs9) (cwV 1 htw (xg_V (ck_25 _ (List.mem_of_getElem? (i := 9) rfl)) (ck_25 _ (List.mem_of_getElem? (i := 10) rfl)) (ck_25 _ (List.mem_of_getElem? (i := 11) rfl)) (ck_1 _ (List.mem_of_getElem? (i := 5) rfl)) (ck_25 _ (List.mem_of_getElem? (i := 12) rfl))) rfl rfl rfl (by exact ⟨rfl, hdc_14.1, hdc_14.2, hdd_26⟩) ⟨Nat.le_of_ble_eq_true rfl, Nat.le_of_ble_eq_true rfl⟩) ⟨fun a U g mk q => by obtain ⟨q0, qP, qK⟩ := q; exact ⟨q0, qP, va_K.moved (u := U) (U := U.calling g mk a) (Vm.Alike.refl U.vm) qK⟩, va_recv hKc hPc (ci := 12) (q0 := 0) rfl rfl, fun U hU hW => ⟨rfl, by rw [hU]; exact hPc, va_K.moved hW.alike hKc⟩⟩ rfl rfl hl.1 rfl (lv_room (Nat.le_of_ble_eq_true rfl)) dX12_token_218 ⟨Nat.le_of_ble_eq_true rfl, Nat.le_of_ble_eq_true rfl⟩) (fun r_16 hw => ?_)
              try dsimp only at hw
              obtain ⟨hw, hb_r_16⟩ := hw
              have hq_r_16 : r_16 = (fq_isDigit f_tape m_next_d (g 6)) := hw
              refine lv_if_eq (tgt := 281) hx hb dX12_token_221 (by decide) (fun c_17 => ?_) (fun c_17 => absurd c_17 (fun h => h (by rw [hq_r_16]; exact if_pos (xi_z hfd))))
              refine W.widen (k := 0) (n := 0) (by omega) (by omega) ?_
              obtain ⟨hP9, hD9⟩ := zsub2 (ws' := [(mq, .inr (12, mF (upd (upd (upd (upd g 7 m_next_d) 8 3) 9 m_which_d) 10 m_at_d) gl rf)), (eA0 (rf 0) (ck 0) 900 f_tape), (eA0 (rf 3) (ck 3) 118 f_words)]) hP hD [0, 1, 2] (by decide) rfl
              have hK9 := hK.sub (tys' := []) [] rfl
              exact W.vret hx hb hr (fun t ht hW => ⟨⟨(m_next_d, 3, m_which_d, m_at_d), rfl, ⟨(Eq.symm (hI_d.trans (by rw [fq_token_d]; (try rw [← hq_r_16]); (try rw [xL_eq]); try rfl))), (gq_token_s7 (y0 := m_next_d) (y1 := m_next_ax) (y2 := g 6) (y3 := g 7) c_3 hx0a hx1a h0d h1d h0n hns hs9 (fq_digit hq_r_6 c_7)), (gq_token_s8 (y0 := m_next_d) (y1 := g 6) (y2 := m_next_ax) (y3 := g 7) c_3 hx0a hx1a h0d h1d h0n hns hs9 (fq_digit hq_r_6 c_7))⟩, by rw [ht]; exact hP9, va_K.moved hW.alike hK9, hD9⟩, hS.F ht⟩) hS.2.2 dX12_token_281
            | succ n ih =>
              intro m_next_d m_which_d m_at_d h0d h1d hfd hI_d H locs ls hP hD hS hl
              refine lv_aload_n hx hb dX12_token_213 rfl (lv_at hl 0 rfl) ?_
              refine lv_aload_n hx hb dX12_token_214 rfl (lv_at hl 0 rfl) ?_
              refine va_get (D := (dC, dI)) (ci := 12) (v := .int m_next_d) (C := RX12) (T := TX12) (N := 76) hx hb htw inlX12 hown hK hP 0 rfl rfl 7 (by decide) (htw _ (ck_24 _ (List.mem_of_getElem? (i := 12) rfl))) (fun _ h9 => h9) rfl dX12_token_215 ?_
              have hPc := hP.sub (ws' := [(mq, .inr (12, mF (upd (upd (upd (upd g 7 m_next_d) 8 3) 9 m_which_d) 10 m_at_d) gl rf)), (eA0 (rf 0) (ck 0) 900 f_tape)]) [0, 1] rfl
              have hKc := hK.sub (tys' := [((ck 0), .int)]) [0] rfl
              refine vp_callSi (W.runV (As := [.int m_next_d]) (rest := []) ⟨hx, hb, hml, hown, htw⟩ (gq_isDigit l dC dI mq (upd (upd (upd (upd g 7 m_next_d) 8 3) 9 m_which_d) 10 m_at_d) gl rf ck f_tape m_next_d (gq_token_s9 (y0 := m_next_d) (y1 := m_next_ax) (y2 := g 6) (y3 := g 7) c_3 hx0a hx1a h0d h1d h0n hns hs9 (fq_digit hq_r_6 c_7)) hs9) (cwV 1 htw (xg_V (ck_25 _ (List.mem_of_getElem? (i := 9) rfl)) (ck_25 _ (List.mem_of_getElem? (i := 10) rfl)) (ck_25 _ (List.mem_of_getElem? (i := 11) rfl)) (ck_1 _ (List.mem_of_getElem? (i := 5) rfl)) (ck_25 _ (List.mem_of_getElem? (i := 12) rfl))) rfl rfl rfl (by exact ⟨rfl, hdc_14.1, hdc_14.2, hdd_26⟩) ⟨Nat.le_of_ble_eq_true rfl, Nat.le_of_ble_eq_true rfl⟩) ⟨fun a U g mk q => by obtain ⟨q0, qP, qK⟩ := q; exact ⟨q0, qP, va_K.moved (u := U) (U := U.calling g mk a) (Vm.Alike.refl U.vm) qK⟩, va_recv hKc hPc (ci := 12) (q0 := 0) rfl rfl, fun U hU hW => ⟨rfl, by rw [hU]; exact hPc, va_K.moved hW.alike hKc⟩⟩ rfl rfl hl.1 rfl (lv_room (Nat.le_of_ble_eq_true rfl)) dX12_token_218 ⟨Nat.le_of_ble_eq_true rfl, Nat.le_of_ble_eq_true rfl⟩) (fun r_18 hw => ?_)
              try dsimp only at hw
              obtain ⟨hw, hb_r_18⟩ := hw
              have hq_r_18 : r_18 = (fq_isDigit f_tape m_next_d (g 6)) := hw
              refine lv_if_eq (tgt := 281) hx hb dX12_token_221 (by decide) (fun c_19 => ?_) (fun c_19 => ?_)
              · refine W.widen (k := 0) (n := 0) (by omega) (by omega) ?_
                obtain ⟨hP9, hD9⟩ := zsub2 (ws' := [(mq, .inr (12, mF (upd (upd (upd (upd g 7 m_next_d) 8 3) 9 m_which_d) 10 m_at_d) gl rf)), (eA0 (rf 0) (ck 0) 900 f_tape), (eA0 (rf 3) (ck 3) 118 f_words)]) hP hD [0, 1, 2] (by decide) rfl
                have hK9 := hK.sub (tys' := []) [] rfl
                exact W.vret hx hb hr (fun t ht hW => ⟨⟨(m_next_d, 3, m_which_d, m_at_d), rfl, ⟨(Eq.symm (hI_d.trans (by rw [fq_token_d]; (try rw [← hq_r_18]); (try rw [xL_eq]); (try rw [if_pos c_19]); try rfl))), (gq_token_s10 (y0 := m_next_d) (y1 := m_next_ax) (y2 := g 6) (y3 := g 7) c_3 hx0a hx1a h0d h1d h0n hns hs9 (fq_digit hq_r_6 c_7)), (gq_token_s11 (y0 := m_next_d) (y1 := g 6) (y2 := m_next_ax) (y3 := g 7) c_3 hx0a hx1a h0d h1d h0n hns hs9 (fq_digit hq_r_6 c_7))⟩, by rw [ht]; exact hP9, va_K.moved hW.alike hK9, hD9⟩, hS.F ht⟩) hS.2.2 dX12_token_281
              · refine lv_aload_n hx hb dX12_token_224 rfl (lv_at hl 0 rfl) ?_
                refine lv_aload_n hx hb dX12_token_225 rfl (lv_at hl 0 rfl) ?_
                refine va_get (D := (dC, dI)) (ci := 12) (v := .int m_which_d) (C := RX12) (T := TX12) (N := 76) hx hb htw inlX12 hown hK hP 0 rfl rfl 9 (by decide) (htw _ (ck_24 _ (List.mem_of_getElem? (i := 19) rfl))) (fun _ h9 => h9) rfl dX12_token_226 ?_
                refine lv_ldc (v := 99999) hx hb hown (htw _ (ck_24 _ (List.mem_of_getElem? (i := 20) rfl))) dX12_token_229 ?_
                obtain ⟨X_20, hX_20⟩ : ∃ X9 : (Int32), X9 = fq_token_f f_tape m_next_d m_which_d := ⟨_, rfl⟩
                have hjoin_21 : ∀ (S0f : Int32)  (hE9 : X_20 = S0f) (H : Heap) (locs : List Loc) (ls : Array Slot) (hP : va_P (dC, dI) vwCl [(mq, .inr (12, mF (upd (upd (upd (upd g 7 m_next_d) 8 3) 9 m_which_d) 10 m_at_d) gl rf)), (eA0 (rf 0) (ck 0) 900 f_tape), (eA0 (rf 3) (ck 3) 118 f_words)] H) (hD : va_D A [(mq, .inr (12, mF (upd (upd (upd (upd g 7 m_next_d) 8 3) 9 m_which_d) 10 m_at_d) gl rf)), (eA0 (rf 0) (ck 0) 900 f_tape), (eA0 (rf 3) (ck 3) 118 f_words)]) (hS : va_S A s.heap H locs) (hl : lv_has ls 1 [(0, .ref mq)]), W p l e (headSpec (Cond.code yX12_token cX12_token 1 none :: wsL_law) ({ frames := 1, cells := 0, slots := 0, locals := 27 })).room s m ([.ref mq] : List Value).toArray below meth c H locs 0 0 (MQ below (va_Qv (fun (u : (Int32) × (Int32) × (Int32) × (Int32)) => (u = fq_token f_tape f_words (g 6) (g 7) (g 9)) ∧ (¬ u.1 < 0) ∧ (u.1 ≤ (g 6))) (fun (u : (Int32) × (Int32) × (Int32) × (Int32)) t => va_P (dC, dI) vwCl [(mq, .inr (12, mF (upd (upd (upd (upd g 7 u.1) 8 u.2.1) 9 u.2.2.1) 10 u.2.2.2) gl rf)), (eA0 (rf 0) (ck 0) 900 f_tape), (eA0 (rf 3) (ck 3) 118 f_words)] t.heap ∧ va_K (dC, dI) vwCl [] t ∧ va_D A [(mq, .inr (12, mF (upd (upd (upd (upd g 7 u.1) 8 u.2.1) 9 u.2.2.1) 10 u.2.2.2) gl rf)), (eA0 (rf 0) (ck 0) 900 f_tape), (eA0 (rf 3) (ck 3) 118 f_words)]) A) ([.ref mq] : List Value).toArray s 0 0 A) (F0 m 261 ls [.int S0f, .ref mq]) := by
                  intro S0f  hE9 H locs ls hP hD hS hl
                  have hq_S0f : S0f = X_20 := by rw [hE9]
                  refine va_put (D := (dC, dI)) (ci := 12) (v := .int S0f) (ty := tyX12 9) (C := RX12) (T := TX12) (N := 76) hx hb htw inlX12 tyX12 tyX12_ok nmX12 hown hK hP hD hS 0 rfl rfl 9 (by decide) (htw _ (ck_24 _ (List.mem_of_getElem? (i := 19) rfl))) (fun _ h9 => h9) rfl (tyX12_ok 9 (by decide)) rfl rfl (Nat.le_of_ble_eq_true rfl) dX12_token_261 (fun H locs hP hD hS => ?_)
                  have hP : va_P (dC, dI) vwCl [(mq, .inr (12, mF (upd (upd (upd (upd g 7 m_next_d) 8 3) 9 S0f) 10 m_at_d) gl rf)), (eA0 (rf 0) (ck 0) 900 f_tape), (eA0 (rf 3) (ck 3) 118 f_words)] H := hP
                  have hD : va_D A [(mq, .inr (12, mF (upd (upd (upd (upd g 7 m_next_d) 8 3) 9 S0f) 10 m_at_d) gl rf)), (eA0 (rf 0) (ck 0) 900 f_tape), (eA0 (rf 3) (ck 3) 118 f_words)] := hD
                  refine lv_aload_n hx hb dX12_token_264 rfl (lv_at hl 0 rfl) ?_
                  refine lv_dup hx hb dX12_token_265 rfl ?_
                  refine va_get (D := (dC, dI)) (ci := 12) (v := .int m_next_d) (C := RX12) (T := TX12) (N := 76) hx hb htw inlX12 hown hK hP 0 rfl rfl 7 (by decide) (htw _ (ck_24 _ (List.mem_of_getElem? (i := 12) rfl))) (fun _ h9 => h9) rfl dX12_token_266 ?_
                  refine lv_iconst (v := 1) hx hb dX12_token_269 (by decide) ?_
                  refine lv_iadd hx hb dX12_token_270 ?_
                  refine va_put (D := (dC, dI)) (ci := 12) (v := .int (m_next_d + 1)) (ty := tyX12 7) (C := RX12) (T := TX12) (N := 76) hx hb htw inlX12 tyX12 tyX12_ok nmX12 hown hK hP hD hS 0 rfl rfl 7 (by decide) (htw _ (ck_24 _ (List.mem_of_getElem? (i := 12) rfl))) (fun _ h9 => h9) rfl (tyX12_ok 7 (by decide)) rfl rfl (Nat.le_of_ble_eq_true rfl) dX12_token_271 (fun H locs hP hD hS => ?_)
                  have hP : va_P (dC, dI) vwCl [(mq, .inr (12, mF (upd (upd (upd (upd g 7 (m_next_d + 1)) 8 3) 9 S0f) 10 m_at_d) gl rf)), (eA0 (rf 0) (ck 0) 900 f_tape), (eA0 (rf 3) (ck 3) 118 f_words)] H := hP
                  have hD : va_D A [(mq, .inr (12, mF (upd (upd (upd (upd g 7 (m_next_d + 1)) 8 3) 9 S0f) 10 m_at_d) gl rf)), (eA0 (rf 0) (ck 0) 900 f_tape), (eA0 (rf 3) (ck 3) 118 f_words)] := hD
                  refine lv_goto (tgt := 213) hx hb dX12_token_274 (by decide) ?_
                  exact ih (m_next_d + 1) S0f m_at_d (gq_token_s12 (y0 := m_next_d) (y1 := m_next_ax) (y2 := g 6) (y3 := g 7) c_3 hx0a hx1a h0d h1d h0n hns hs9 (fq_digit hq_r_6 c_7) (fq_digit hq_r_18 c_19)) (gq_token_s13 (y0 := m_next_d) (y1 := g 6) (y2 := m_next_ax) (y3 := g 7) c_3 hx0a hx1a h0d h1d h0n hns hs9 (fq_digit hq_r_6 c_7) (fq_digit hq_r_18 c_19)) (by rw [xi_s (b := 900) (gq_token_s14 (y0 := m_next_d) (y1 := m_next_ax) (y2 := g 6) (y3 := g 7) c_3 hx0a hx1a h0d h1d h0n hns hs9 (fq_digit hq_r_6 c_7) (fq_digit hq_r_18 c_19))]; omega) (hI_d.trans (by rw [fq_token_d]; (try rw [← hq_r_18]); (try rw [xL_eq]); (try rw [if_neg c_19]); (try rw [← hX_20]); (try rw [xL_eq]); (try rw [← hq_S0f]); try rfl)) H locs ls hP hD hS (lv_sub hl [0] rfl)
                refine lv_icmp_le (tgt := 241) hx hb dX12_token_231 (by decide) (fun c_22 => ?_) (fun c_22 => ?_)
                · refine lv_bipush (v := 10) hx hb dX12_token_241 (by decide) ?_
                  refine lv_aload_n hx hb dX12_token_243 rfl (lv_at hl 0 rfl) ?_
                  refine va_get (D := (dC, dI)) (ci := 12) (v := .int m_which_d) (C := RX12) (T := TX12) (N := 76) hx hb htw inlX12 hown hK hP 0 rfl rfl 9 (by decide) (htw _ (ck_24 _ (List.mem_of_getElem? (i := 19) rfl))) (fun _ h9 => h9) rfl dX12_token_244 ?_
                  refine lv_imul hx hb dX12_token_247 ?_
                  refine lv_aload_n hx hb dX12_token_248 rfl (lv_at hl 0 rfl) ?_
                  refine va_get (D := (dC, dI)) (ci := 12) (v := .ref (rf 0)) (C := RX12) (T := TX12) (N := 76) hx hb htw inlX12 hown hK hP 0 rfl rfl 0 (by decide) (htw _ (ck_9 _ (List.mem_of_getElem? (i := 4) rfl))) (fun _ h9 => h9) rfl dX12_token_249 ?_
                  refine lv_aload_n hx hb dX12_token_252 rfl (lv_at hl 0 rfl) ?_
                  refine va_get (D := (dC, dI)) (ci := 12) (v := .int m_next_d) (C := RX12) (T := TX12) (N := 76) hx hb htw inlX12 hown hK hP 0 rfl rfl 7 (by decide) (htw _ (ck_24 _ (List.mem_of_getElem? (i := 12) rfl))) (fun _ h9 => h9) rfl dX12_token_253 ?_
                  refine va_iald hx hb hK hP 1 0 rfl rfl (xg_inr (N := 900) rfl (gq_token_s15 (y0 := m_next_d) (y1 := m_next_ax) (y2 := g 6) (y3 := g 7) c_3 hx0a hx1a h0d h1d h0n hns hs9 (fq_digit hq_r_6 c_7) (fq_digit hq_r_18 c_19)).1 (gq_token_s15 (y0 := m_next_d) (y1 := m_next_ax) (y2 := g 6) (y3 := g 7) c_3 hx0a hx1a h0d h1d h0n hns hs9 (fq_digit hq_r_6 c_7) (fq_digit hq_r_18 c_19)).2) dX12_token_256 ?_
                  refine lv_iadd hx hb dX12_token_257 ?_
                  refine lv_bipush (v := 48) hx hb dX12_token_258 (by decide) ?_
                  refine lv_isub hx hb dX12_token_260 ?_
                  exact hjoin_21 (((10 * m_which_d) + (f_tape m_next_d.toNatClampNeg)) - 48)  (hX_20.trans (by rw [fq_token_f]; (try rw [if_pos c_22]); try rfl)) _ _ ls hP hD hS (lv_sub hl [0] rfl)
                · refine lv_aload_n hx hb dX12_token_234 rfl (lv_at hl 0 rfl) ?_
                  refine va_get (D := (dC, dI)) (ci := 12) (v := .int m_which_d) (C := RX12) (T := TX12) (N := 76) hx hb htw inlX12 hown hK hP 0 rfl rfl 9 (by decide) (htw _ (ck_24 _ (List.mem_of_getElem? (i := 19) rfl))) (fun _ h9 => h9) rfl dX12_token_235 ?_
                  refine lv_goto (tgt := 261) hx hb dX12_token_238 (by decide) ?_
                  exact hjoin_21 m_which_d  (hX_20.trans (by rw [fq_token_f]; (try rw [if_neg c_22]); try rfl)) _ _ ls hP hD hS (lv_sub hl [0] rfl)
          exact hloop_15 900 m_next_ax (0 : Int32) m_next_ax (gq_token_s16 (y0 := m_next_ax) (y1 := g 6) (y2 := g 7) c_3 hx0a hx1a h0n hns hs9 (fq_digit hq_r_6 c_7)) (gq_token_s17 (y0 := m_next_ax) (y1 := g 6) (y2 := g 7) c_3 hx0a hx1a h0n hns hs9 (fq_digit hq_r_6 c_7)) (by have := xi_le hs9; have := xi_nn (gq_token_s18 (y0 := m_next_ax) (y1 := g 6) (y2 := g 7) c_3 hx0a hx1a h0n hns hs9 (fq_digit hq_r_6 c_7)); have e9 : (900 : Int32).toInt = 900 := rfl; omega) ((by rw [fq_token]; (try rw [← hX_1]); (try rw [xL_eq]); (try rw [← hq_m_next_ax]); (try rw [if_neg c_3]); (try rw [← hq_r_4]); (try rw [xL_eq]); (try rw [if_pos c_5]); (try rw [← hq_r_6]); (try rw [xL_eq]); (try rw [if_neg c_7]); try rfl)) _ _ ls hP hD hS (lv_sub hl [0] rfl)
      · obtain ⟨X_23, hX_23⟩ : ∃ X9 : (Int32), X9 = fq_token_b f_tape (g 6) 900 m_next_ax := ⟨_, rfl⟩
        have hexit_24 : ∀ (m_next_bx : Int32) (hx2b : m_next_ax ≤ m_next_bx) (hx0b : ¬ m_next_bx < 0) (hx1b : m_next_bx ≤ (g 6)) (hE9 : X_23 = m_next_bx) (H : Heap) (locs : List Loc) (ls : Array Slot) (hP : va_P (dC, dI) vwCl [(mq, .inr (12, mF (upd (upd g 7 m_next_bx) 10 m_next_ax) gl rf)), (eA0 (rf 0) (ck 0) 900 f_tape), (eA0 (rf 3) (ck 3) 118 f_words)] H) (hD : va_D A [(mq, .inr (12, mF (upd (upd g 7 m_next_bx) 10 m_next_ax) gl rf)), (eA0 (rf 0) (ck 0) 900 f_tape), (eA0 (rf 3) (ck 3) 118 f_words)]) (hS : va_S A s.heap H locs) (hl : lv_has ls 1 [(0, .ref mq)]), W p l e (headSpec (Cond.code yX12_token cX12_token 1 none :: wsL_law) ({ frames := 1, cells := 0, slots := 0, locals := 27 })).room s m ([.ref mq] : List Value).toArray below meth c H locs 0 0 (MQ below (va_Qv (fun (u : (Int32) × (Int32) × (Int32) × (Int32)) => (u = fq_token f_tape f_words (g 6) (g 7) (g 9)) ∧ (¬ u.1 < 0) ∧ (u.1 ≤ (g 6))) (fun (u : (Int32) × (Int32) × (Int32) × (Int32)) t => va_P (dC, dI) vwCl [(mq, .inr (12, mF (upd (upd (upd (upd g 7 u.1) 8 u.2.1) 9 u.2.2.1) 10 u.2.2.2) gl rf)), (eA0 (rf 0) (ck 0) 900 f_tape), (eA0 (rf 3) (ck 3) 118 f_words)] t.heap ∧ va_K (dC, dI) vwCl [] t ∧ va_D A [(mq, .inr (12, mF (upd (upd (upd (upd g 7 u.1) 8 u.2.1) 9 u.2.2.1) 10 u.2.2.2) gl rf)), (eA0 (rf 0) (ck 0) 900 f_tape), (eA0 (rf 3) (ck 3) 118 f_words)]) A) ([.ref mq] : List Value).toArray s 0 0 A) (F0 m 114 ls []) := by
          intro m_next_bx hx2b hx0b hx1b hE9 H locs ls hP hD hS hl
          have hq_m_next_bx : m_next_bx = X_23 := by rw [hE9]
          refine lv_aload_n hx hb dX12_token_114 rfl (lv_at hl 0 rfl) ?_
          refine lv_aload_n hx hb dX12_token_115 rfl (lv_at hl 0 rfl) ?_
          refine lv_aload_n hx hb dX12_token_116 rfl (lv_at hl 0 rfl) ?_
          refine va_get (D := (dC, dI)) (ci := 12) (v := .int m_next_ax) (C := RX12) (T := TX12) (N := 76) hx hb htw inlX12 hown hK hP 0 rfl rfl 10 (by decide) (htw _ (ck_24 _ (List.mem_of_getElem? (i := 18) rfl))) (fun _ h9 => h9) rfl dX12_token_117 ?_
          refine lv_aload_n hx hb dX12_token_120 rfl (lv_at hl 0 rfl) ?_
          refine va_get (D := (dC, dI)) (ci := 12) (v := .int m_next_bx) (C := RX12) (T := TX12) (N := 76) hx hb htw inlX12 hown hK hP 0 rfl rfl 7 (by decide) (htw _ (ck_24 _ (List.mem_of_getElem? (i := 12) rfl))) (fun _ h9 => h9) rfl dX12_token_121 ?_
          have hPc := hP.sub (ws' := [(mq, .inr (12, mF (upd (upd g 7 m_next_bx) 10 m_next_ax) gl rf)), (eA0 (rf 0) (ck 0) 900 f_tape), (eA0 (rf 3) (ck 3) 118 f_words)]) [0, 1, 2] rfl
          have hKc := hK.sub (tys' := [((ck 0), .int), ((ck 3), .int)]) [0, 1] rfl
          refine vp_callSi (W.runV (As := [.int m_next_ax, .int m_next_bx]) (rest := [.ref mq]) ⟨hx, hb, hml, hown, htw⟩ (gq_wordAt l dC dI mq (upd (upd g 7 m_next_bx) 10 m_next_ax) gl rf ck f_tape f_words m_next_ax m_next_bx (gq_token_s19 (y0 := m_next_ax) (y1 := g 6) (y2 := m_next_bx) (y3 := g 7) c_3 hx0a hx1a hx2b hx0b hx1b h0n hns hs9 (fq_small hq_r_4 c_5)) (gq_token_s20 (y0 := m_next_bx) (y1 := m_next_ax) (y2 := g 6) (y3 := g 7) c_3 hx0a hx1a hx2b hx0b hx1b h0n hns hs9 (fq_small hq_r_4 c_5)) (gq_token_s21 (y0 := m_next_ax) (y1 := m_next_bx) (y2 := g 6) (y3 := g 7) c_3 hx0a hx1a hx2b hx0b hx1b h0n hns hs9 (fq_small hq_r_4 c_5)) hw7) (cwV 2 htw (xg_V (ck_25 _ (List.mem_of_getElem? (i := 1) rfl)) (ck_25 _ (List.mem_of_getElem? (i := 2) rfl)) (ck_25 _ (List.mem_of_getElem? (i := 3) rfl)) (ck_1 _ (List.mem_of_getElem? (i := 5) rfl)) (ck_25 _ (List.mem_of_getElem? (i := 4) rfl))) rfl rfl rfl (by exact ⟨rfl, hdc_14.1, hdc_14.2, hdd_7⟩) ⟨Nat.le_of_ble_eq_true rfl, Nat.le_of_ble_eq_true rfl⟩) ⟨fun a U g mk q => by obtain ⟨q0, qP, qK⟩ := q; exact ⟨q0, qP, va_K.moved (u := U) (U := U.calling g mk a) (Vm.Alike.refl U.vm) qK⟩, va_recv hKc hPc (ci := 12) (q0 := 0) rfl rfl, fun U hU hW => ⟨rfl, by rw [hU]; exact hPc, va_K.moved hW.alike hKc⟩⟩ rfl rfl hl.1 rfl (lv_room (Nat.le_of_ble_eq_true rfl)) dX12_token_124 ⟨Nat.le_of_ble_eq_true rfl, Nat.le_of_ble_eq_true rfl⟩) (fun r_25 hw => ?_)
          try dsimp only at hw
          have hq_r_25 : r_25 = (fq_wordAt f_tape f_words m_next_ax m_next_bx) := hw
          refine va_put (D := (dC, dI)) (ci := 12) (v := .int r_25) (ty := tyX12 9) (C := RX12) (T := TX12) (N := 76) hx hb htw inlX12 tyX12 tyX12_ok nmX12 hown hK hP hD hS 0 rfl rfl 9 (by decide) (htw _ (ck_24 _ (List.mem_of_getElem? (i := 19) rfl))) (fun _ h9 => h9) rfl (tyX12_ok 9 (by decide)) rfl rfl (Nat.le_of_ble_eq_true rfl) dX12_token_127 (fun H locs hP hD hS => ?_)
          have hP : va_P (dC, dI) vwCl [(mq, .inr (12, mF (upd (upd (upd g 7 m_next_bx) 9 r_25) 10 m_next_ax) gl rf)), (eA0 (rf 0) (ck 0) 900 f_tape), (eA0 (rf 3) (ck 3) 118 f_words)] H := hP
          have hD : va_D A [(mq, .inr (12, mF (upd (upd (upd g 7 m_next_bx) 9 r_25) 10 m_next_ax) gl rf)), (eA0 (rf 0) (ck 0) 900 f_tape), (eA0 (rf 3) (ck 3) 118 f_words)] := hD
          refine lv_aload_n hx hb dX12_token_130 rfl (lv_at hl 0 rfl) ?_
          refine lv_aload_n hx hb dX12_token_131 rfl (lv_at hl 0 rfl) ?_
          refine va_get (D := (dC, dI)) (ci := 12) (v := .int r_25) (C := RX12) (T := TX12) (N := 76) hx hb htw inlX12 hown hK hP 0 rfl rfl 9 (by decide) (htw _ (ck_24 _ (List.mem_of_getElem? (i := 19) rfl))) (fun _ h9 => h9) rfl dX12_token_132 ?_
          obtain ⟨X_26, hX_26⟩ : ∃ X9 : (Int32) × (Int32), X9 = fq_token_e m_next_ax m_next_bx r_25 := ⟨_, rfl⟩
          have hjoin_27 : ∀ (S0e : Int32) (m_which_e : Int32)  (hE9 : X_26 = (S0e, m_which_e)) (H : Heap) (locs : List Loc) (ls : Array Slot) (hP : va_P (dC, dI) vwCl [(mq, .inr (12, mF (upd (upd (upd g 7 m_next_bx) 9 m_which_e) 10 m_next_ax) gl rf)), (eA0 (rf 0) (ck 0) 900 f_tape), (eA0 (rf 3) (ck 3) 118 f_words)] H) (hD : va_D A [(mq, .inr (12, mF (upd (upd (upd g 7 m_next_bx) 9 m_which_e) 10 m_next_ax) gl rf)), (eA0 (rf 0) (ck 0) 900 f_tape), (eA0 (rf 3) (ck 3) 118 f_words)]) (hS : va_S A s.heap H locs) (hl : lv_has ls 1 [(0, .ref mq)]), W p l e (headSpec (Cond.code yX12_token cX12_token 1 none :: wsL_law) ({ frames := 1, cells := 0, slots := 0, locals := 27 })).room s m ([.ref mq] : List Value).toArray below meth c H locs 0 0 (MQ below (va_Qv (fun (u : (Int32) × (Int32) × (Int32) × (Int32)) => (u = fq_token f_tape f_words (g 6) (g 7) (g 9)) ∧ (¬ u.1 < 0) ∧ (u.1 ≤ (g 6))) (fun (u : (Int32) × (Int32) × (Int32) × (Int32)) t => va_P (dC, dI) vwCl [(mq, .inr (12, mF (upd (upd (upd (upd g 7 u.1) 8 u.2.1) 9 u.2.2.1) 10 u.2.2.2) gl rf)), (eA0 (rf 0) (ck 0) 900 f_tape), (eA0 (rf 3) (ck 3) 118 f_words)] t.heap ∧ va_K (dC, dI) vwCl [] t ∧ va_D A [(mq, .inr (12, mF (upd (upd (upd (upd g 7 u.1) 8 u.2.1) 9 u.2.2.1) 10 u.2.2.2) gl rf)), (eA0 (rf 0) (ck 0) 900 f_tape), (eA0 (rf 3) (ck 3) 118 f_words)]) A) ([.ref mq] : List Value).toArray s 0 0 A) (F0 m 162 ls [.int S0e, .ref mq]) := by
            intro S0e m_which_e  hE9 H locs ls hP hD hS hl
            have hq_S0e : S0e = X_26.1 := by rw [hE9]
            have hq_m_which_e : m_which_e = X_26.2 := by rw [hE9]
            refine va_put (D := (dC, dI)) (ci := 12) (v := .int S0e) (ty := tyX12 8) (C := RX12) (T := TX12) (N := 76) hx hb htw inlX12 tyX12 tyX12_ok nmX12 hown hK hP hD hS 0 rfl rfl 8 (by decide) (htw _ (ck_24 _ (List.mem_of_getElem? (i := 13) rfl))) (fun _ h9 => h9) rfl (tyX12_ok 8 (by decide)) rfl rfl (Nat.le_of_ble_eq_true rfl) dX12_token_162 (fun H locs hP hD hS => ?_)
            have hP : va_P (dC, dI) vwCl [(mq, .inr (12, mF (upd (upd (upd (upd g 7 m_next_bx) 8 S0e) 9 m_which_e) 10 m_next_ax) gl rf)), (eA0 (rf 0) (ck 0) 900 f_tape), (eA0 (rf 3) (ck 3) 118 f_words)] H := hP
            have hD : va_D A [(mq, .inr (12, mF (upd (upd (upd (upd g 7 m_next_bx) 8 S0e) 9 m_which_e) 10 m_next_ax) gl rf)), (eA0 (rf 0) (ck 0) 900 f_tape), (eA0 (rf 3) (ck 3) 118 f_words)] := hD
            refine lv_aload_n hx hb dX12_token_165 rfl (lv_at hl 0 rfl) ?_
            refine va_get (D := (dC, dI)) (ci := 12) (v := .int S0e) (C := RX12) (T := TX12) (N := 76) hx hb htw inlX12 hown hK hP 0 rfl rfl 8 (by decide) (htw _ (ck_24 _ (List.mem_of_getElem? (i := 13) rfl))) (fun _ h9 => h9) rfl dX12_token_166 ?_
            refine lv_iconst (v := 2) hx hb dX12_token_169 (by decide) ?_
            refine lv_icmp_ne (tgt := 281) hx hb dX12_token_170 (by decide) (fun c_28 => ?_) (fun c_28 => ?_)
            · refine W.widen (k := 0) (n := 0) (by omega) (by omega) ?_
              have hP9 := hP
              have hD9 := hD
              have hK9 := hK.sub (tys' := []) [] rfl
              exact W.vret hx hb hr (fun t ht hW => ⟨⟨(m_next_bx, S0e, m_which_e, m_next_ax), rfl, ⟨(Eq.symm ((by rw [fq_token]; (try rw [← hX_1]); (try rw [xL_eq]); (try rw [← hq_m_next_ax]); (try rw [if_neg c_3]); (try rw [← hq_r_4]); (try rw [xL_eq]); (try rw [if_neg c_5]); (try rw [← hX_23]); (try rw [xL_eq]); (try rw [← hq_m_next_bx]); (try rw [← hq_r_25]); (try rw [xL_eq]); (try rw [← hX_26]); (try rw [xL_eq]); (try rw [← hq_S0e]); (try rw [← hq_m_which_e]); (try rw [if_neg c_28]); try rfl))), (gq_token_s22 (y0 := m_next_bx) (y1 := m_next_ax) (y2 := g 6) (y3 := g 7) c_3 hx0a hx1a hx2b hx0b hx1b h0n hns hs9 (fq_small hq_r_4 c_5)), (gq_token_s23 (y0 := m_next_bx) (y1 := g 6) (y2 := m_next_ax) (y3 := g 7) c_3 hx0a hx1a hx2b hx0b hx1b h0n hns hs9 (fq_small hq_r_4 c_5))⟩, by rw [ht]; exact hP9, va_K.moved hW.alike hK9, hD9⟩, hS.F ht⟩) hS.2.2 dX12_token_281
            · refine lv_aload_n hx hb dX12_token_173 rfl (lv_at hl 0 rfl) ?_
              refine lv_aload_n hx hb dX12_token_174 rfl (lv_at hl 0 rfl) ?_
              refine lv_aload_n hx hb dX12_token_175 rfl (lv_at hl 0 rfl) ?_
              refine va_get (D := (dC, dI)) (ci := 12) (v := .int m_next_ax) (C := RX12) (T := TX12) (N := 76) hx hb htw inlX12 hown hK hP 0 rfl rfl 10 (by decide) (htw _ (ck_24 _ (List.mem_of_getElem? (i := 18) rfl))) (fun _ h9 => h9) rfl dX12_token_176 ?_
              refine lv_aload_n hx hb dX12_token_179 rfl (lv_at hl 0 rfl) ?_
              refine va_get (D := (dC, dI)) (ci := 12) (v := .int m_next_bx) (C := RX12) (T := TX12) (N := 76) hx hb htw inlX12 hown hK hP 0 rfl rfl 7 (by decide) (htw _ (ck_24 _ (List.mem_of_getElem? (i := 12) rfl))) (fun _ h9 => h9) rfl dX12_token_180 ?_
              have hPc := hP.sub (ws' := [(mq, .inr (12, mF (upd (upd (upd (upd g 7 m_next_bx) 8 S0e) 9 m_which_e) 10 m_next_ax) gl rf)), (eA0 (rf 0) (ck 0) 900 f_tape)]) [0, 1] rfl
              have hKc := hK.sub (tys' := [((ck 0), .int)]) [0] rfl
              refine vp_callSi (W.runV (As := [.int m_next_ax, .int m_next_bx]) (rest := [.ref mq]) ⟨hx, hb, hml, hown, htw⟩ (gq_packed l dC dI mq (upd (upd (upd (upd g 7 m_next_bx) 8 S0e) 9 m_which_e) 10 m_next_ax) gl rf ck f_tape m_next_ax m_next_bx (gq_token_s24 (y0 := m_next_ax) (y1 := g 6) (y2 := m_next_bx) (y3 := g 7) c_3 hx0a hx1a hx2b hx0b hx1b h0n hns hs9 (fq_small hq_r_4 c_5)) (gq_token_s25 (y0 := m_next_bx) (y1 := m_next_ax) (y2 := g 6) (y3 := g 7) c_3 hx0a hx1a hx2b hx0b hx1b h0n hns hs9 (fq_small hq_r_4 c_5)) (gq_token_s26 (y0 := m_next_ax) (y1 := g 6) (y2 := m_next_bx) (y3 := g 7) c_3 hx0a hx1a hx2b hx0b hx1b h0n hns hs9 (fq_small hq_r_4 c_5))) (cwV 2 htw (xg_V (ck_25 _ (List.mem_of_getElem? (i := 5) rfl)) (ck_25 _ (List.mem_of_getElem? (i := 6) rfl)) (ck_25 _ (List.mem_of_getElem? (i := 7) rfl)) (ck_1 _ (List.mem_of_getElem? (i := 5) rfl)) (ck_25 _ (List.mem_of_getElem? (i := 8) rfl))) rfl rfl rfl (by exact ⟨rfl, hdc_14.1, hdc_14.2, hdd_7⟩) ⟨Nat.le_of_ble_eq_true rfl, Nat.le_of_ble_eq_true rfl⟩) ⟨fun a U g mk q => by obtain ⟨q0, qP, qK⟩ := q; exact ⟨q0, qP, va_K.moved (u := U) (U := U.calling g mk a) (Vm.Alike.refl U.vm) qK⟩, va_recv hKc hPc (ci := 12) (q0 := 0) rfl rfl, fun U hU hW => ⟨rfl, by rw [hU]; exact hPc, va_K.moved hW.alike hKc⟩⟩ rfl rfl hl.1 rfl (lv_room (Nat.le_of_ble_eq_true rfl)) dX12_token_183 ⟨Nat.le_of_ble_eq_true rfl, Nat.le_of_ble_eq_true rfl⟩) (fun r_29 hw => ?_)
              try dsimp only at hw
              have hq_r_29 : r_29 = (fq_packed f_tape m_next_ax m_next_bx) := hw
              refine va_put (D := (dC, dI)) (ci := 12) (v := .int r_29) (ty := tyX12 9) (C := RX12) (T := TX12) (N := 76) hx hb htw inlX12 tyX12 tyX12_ok nmX12 hown hK hP hD hS 0 rfl rfl 9 (by decide) (htw _ (ck_24 _ (List.mem_of_getElem? (i := 19) rfl))) (fun _ h9 => h9) rfl (tyX12_ok 9 (by decide)) rfl rfl (Nat.le_of_ble_eq_true rfl) dX12_token_186 (fun H locs hP hD hS => ?_)
              have hP : va_P (dC, dI) vwCl [(mq, .inr (12, mF (upd (upd (upd (upd g 7 m_next_bx) 8 S0e) 9 r_29) 10 m_next_ax) gl rf)), (eA0 (rf 0) (ck 0) 900 f_tape), (eA0 (rf 3) (ck 3) 118 f_words)] H := hP
              have hD : va_D A [(mq, .inr (12, mF (upd (upd (upd (upd g 7 m_next_bx) 8 S0e) 9 r_29) 10 m_next_ax) gl rf)), (eA0 (rf 0) (ck 0) 900 f_tape), (eA0 (rf 3) (ck 3) 118 f_words)] := hD
              refine lv_goto (tgt := 281) hx hb dX12_token_189 (by decide) ?_
              refine W.widen (k := 0) (n := 0) (by omega) (by omega) ?_
              have hP9 := hP
              have hD9 := hD
              have hK9 := hK.sub (tys' := []) [] rfl
              exact W.vret hx hb hr (fun t ht hW => ⟨⟨(m_next_bx, S0e, r_29, m_next_ax), rfl, ⟨(Eq.symm ((by rw [fq_token]; (try rw [← hX_1]); (try rw [xL_eq]); (try rw [← hq_m_next_ax]); (try rw [if_neg c_3]); (try rw [← hq_r_4]); (try rw [xL_eq]); (try rw [if_neg c_5]); (try rw [← hX_23]); (try rw [xL_eq]); (try rw [← hq_m_next_bx]); (try rw [← hq_r_25]); (try rw [xL_eq]); (try rw [← hX_26]); (try rw [xL_eq]); (try rw [← hq_S0e]); (try rw [← hq_m_which_e]); (try rw [if_pos c_28]); (try rw [← hq_r_29]); (try rw [xL_eq]); try rfl))), (gq_token_s27 (y0 := m_next_bx) (y1 := m_next_ax) (y2 := g 6) (y3 := g 7) c_3 hx0a hx1a hx2b hx0b hx1b h0n hns hs9 (fq_small hq_r_4 c_5)), (gq_token_s28 (y0 := m_next_bx) (y1 := g 6) (y2 := m_next_ax) (y3 := g 7) c_3 hx0a hx1a hx2b hx0b hx1b h0n hns hs9 (fq_small hq_r_4 c_5))⟩, by rw [ht]; exact hP9, va_K.moved hW.alike hK9, hD9⟩, hS.F ht⟩) hS.2.2 dX12_token_281
          refine lv_if_lt (tgt := 142) hx hb dX12_token_135 (by decide) (fun c_30 => ?_) (fun c_30 => ?_)
          · refine lv_aload_n hx hb dX12_token_142 rfl (lv_at hl 0 rfl) ?_
            refine va_get (D := (dC, dI)) (ci := 12) (v := .int m_next_bx) (C := RX12) (T := TX12) (N := 76) hx hb htw inlX12 hown hK hP 0 rfl rfl 7 (by decide) (htw _ (ck_24 _ (List.mem_of_getElem? (i := 12) rfl))) (fun _ h9 => h9) rfl dX12_token_143 ?_
            refine lv_aload_n hx hb dX12_token_146 rfl (lv_at hl 0 rfl) ?_
            refine va_get (D := (dC, dI)) (ci := 12) (v := .int m_next_ax) (C := RX12) (T := TX12) (N := 76) hx hb htw inlX12 hown hK hP 0 rfl rfl 10 (by decide) (htw _ (ck_24 _ (List.mem_of_getElem? (i := 18) rfl))) (fun _ h9 => h9) rfl dX12_token_147 ?_
            refine lv_isub hx hb dX12_token_150 ?_
            refine lv_bipush (v := 6) hx hb dX12_token_151 (by decide) ?_
            refine lv_icmp_le (tgt := 161) hx hb dX12_token_153 (by decide) (fun c_31 => ?_) (fun c_31 => ?_)
            · refine lv_iconst (v := 2) hx hb dX12_token_161 (by decide) ?_
              exact hjoin_27 (2 : Int32) r_25  (hX_26.trans (by rw [fq_token_e]; (try rw [if_pos c_30]); (try rw [if_pos c_31]); try rfl)) _ _ ls hP hD hS (lv_sub hl [0] rfl)
            · refine lv_bipush (v := 6) hx hb dX12_token_156 (by decide) ?_
              refine lv_goto (tgt := 162) hx hb dX12_token_158 (by decide) ?_
              exact hjoin_27 (6 : Int32) r_25  (hX_26.trans (by rw [fq_token_e]; (try rw [if_pos c_30]); (try rw [if_neg c_31]); try rfl)) _ _ ls hP hD hS (lv_sub hl [0] rfl)
          · refine lv_iconst (v := 1) hx hb dX12_token_138 (by decide) ?_
            refine lv_goto (tgt := 162) hx hb dX12_token_139 (by decide) ?_
            exact hjoin_27 (1 : Int32) r_25  (hX_26.trans (by rw [fq_token_e]; (try rw [if_neg c_30]); try rfl)) _ _ ls hP hD hS (lv_sub hl [0] rfl)
        have hloop_32 : ∀ (n : Nat) (m_next_b : Int32) (h0b : ¬ m_next_b < 0) (h1b : m_next_b ≤ (g 6)) (hfb : (g 6).toInt ≤ m_next_b.toInt + (n : Int)) (h2b : m_next_ax ≤ m_next_b) (hI_b : X_23 = fq_token_b f_tape (g 6) n m_next_b) (H : Heap) (locs : List Loc) (ls : Array Slot) (hP : va_P (dC, dI) vwCl [(mq, .inr (12, mF (upd (upd g 7 m_next_b) 10 m_next_ax) gl rf)), (eA0 (rf 0) (ck 0) 900 f_tape), (eA0 (rf 3) (ck 3) 118 f_words)] H) (hD : va_D A [(mq, .inr (12, mF (upd (upd g 7 m_next_b) 10 m_next_ax) gl rf)), (eA0 (rf 0) (ck 0) 900 f_tape), (eA0 (rf 3) (ck 3) 118 f_words)]) (hS : va_S A s.heap H locs) (hl : lv_has ls 1 [(0, .ref mq)]), W p l e (headSpec (Cond.code yX12_token cX12_token 1 none :: wsL_law) ({ frames := 1, cells := 0, slots := 0, locals := 27 })).room s m ([.ref mq] : List Value).toArray below meth c H locs 0 0 (MQ below (va_Qv (fun (u : (Int32) × (Int32) × (Int32) × (Int32)) => (u = fq_token f_tape f_words (g 6) (g 7) (g 9)) ∧ (¬ u.1 < 0) ∧ (u.1 ≤ (g 6))) (fun (u : (Int32) × (Int32) × (Int32) × (Int32)) t => va_P (dC, dI) vwCl [(mq, .inr (12, mF (upd (upd (upd (upd g 7 u.1) 8 u.2.1) 9 u.2.2.1) 10 u.2.2.2) gl rf)), (eA0 (rf 0) (ck 0) 900 f_tape), (eA0 (rf 3) (ck 3) 118 f_words)] t.heap ∧ va_K (dC, dI) vwCl [] t ∧ va_D A [(mq, .inr (12, mF (upd (upd (upd (upd g 7 u.1) 8 u.2.1) 9 u.2.2.1) 10 u.2.2.2) gl rf)), (eA0 (rf 0) (ck 0) 900 f_tape), (eA0 (rf 3) (ck 3) 118 f_words)]) A) ([.ref mq] : List Value).toArray s 0 0 A) (F0 m 90 ls []) := by
          intro n
          induction n with
          | zero =>
            intro m_next_b h0b h1b hfb h2b hI_b H locs ls hP hD hS hl
            refine lv_aload_n hx hb dX12_token_90 rfl (lv_at hl 0 rfl) ?_
            refine lv_aload_n hx hb dX12_token_91 rfl (lv_at hl 0 rfl) ?_
            refine va_get (D := (dC, dI)) (ci := 12) (v := .int m_next_b) (C := RX12) (T := TX12) (N := 76) hx hb htw inlX12 hown hK hP 0 rfl rfl 7 (by decide) (htw _ (ck_24 _ (List.mem_of_getElem? (i := 12) rfl))) (fun _ h9 => h9) rfl dX12_token_92 ?_
            have hPc := hP.sub (ws' := [(mq, .inr (12, mF (upd (upd g 7 m_next_b) 10 m_next_ax) gl rf)), (eA0 (rf 0) (ck 0) 900 f_tape)]) [0, 1] rfl
            have hKc := hK.sub (tys' := [((ck 0), .int)]) [0] rfl
            refine vp_callSi (W.runV (As := [.int m_next_b]) (rest := []) ⟨hx, hb, hml, hown, htw⟩ (gq_isSmall l dC dI mq (upd (upd g 7 m_next_b) 10 m_next_ax) gl rf ck f_tape m_next_b (gq_token_s29 (y0 := m_next_b) (y1 := m_next_ax) (y2 := g 6) (y3 := g 7) c_3 hx0a hx1a h0b h1b h2b h0n hns hs9 (fq_small hq_r_4 c_5)) hs9) (cwV 1 htw (xg_V (ck_24 _ (List.mem_of_getElem? (i := 21) rfl)) (ck_24 _ (List.mem_of_getElem? (i := 22) rfl)) (ck_24 _ (List.mem_of_getElem? (i := 23) rfl)) (ck_1 _ (List.mem_of_getElem? (i := 5) rfl)) (ck_25 _ (List.mem_of_getElem? (i := 0) rfl))) rfl rfl rfl (by exact ⟨rfl, hdc_14.1, hdc_14.2, hdd_26⟩) ⟨Nat.le_of_ble_eq_true rfl, Nat.le_of_ble_eq_true rfl⟩) ⟨fun a U g mk q => by obtain ⟨q0, qP, qK⟩ := q; exact ⟨q0, qP, va_K.moved (u := U) (U := U.calling g mk a) (Vm.Alike.refl U.vm) qK⟩, va_recv hKc hPc (ci := 12) (q0 := 0) rfl rfl, fun U hU hW => ⟨rfl, by rw [hU]; exact hPc, va_K.moved hW.alike hKc⟩⟩ rfl rfl hl.1 rfl (lv_room (Nat.le_of_ble_eq_true rfl)) dX12_token_95 ⟨Nat.le_of_ble_eq_true rfl, Nat.le_of_ble_eq_true rfl⟩) (fun r_33 hw => ?_)
            try dsimp only at hw
            obtain ⟨hw, hb_r_33⟩ := hw
            have hq_r_33 : r_33 = (fq_isSmall f_tape m_next_b (g 6)) := hw
            refine lv_if_eq (tgt := 114) hx hb dX12_token_98 (by decide) (fun c_34 => ?_) (fun c_34 => absurd c_34 (fun h => h (by rw [hq_r_33]; exact if_pos (xi_z hfb))))
            exact hexit_24 m_next_b (gq_token_s30 (y0 := m_next_ax) (y1 := m_next_b) (y2 := g 6) (y3 := g 7) c_3 hx0a hx1a h0b h1b h2b h0n hns hs9 (fq_small hq_r_4 c_5)) (gq_token_s31 (y0 := m_next_b) (y1 := m_next_ax) (y2 := g 6) (y3 := g 7) c_3 hx0a hx1a h0b h1b h2b h0n hns hs9 (fq_small hq_r_4 c_5)) (gq_token_s32 (y0 := m_next_b) (y1 := g 6) (y2 := m_next_ax) (y3 := g 7) c_3 hx0a hx1a h0b h1b h2b h0n hns hs9 (fq_small hq_r_4 c_5)) (hI_b.trans (by rw [fq_token_b]; (try rw [← hq_r_33]); (try rw [xL_eq]); try rfl)) _ _ ls hP hD hS (lv_sub hl [0] rfl)
          | succ n ih =>
            intro m_next_b h0b h1b hfb h2b hI_b H locs ls hP hD hS hl
            refine lv_aload_n hx hb dX12_token_90 rfl (lv_at hl 0 rfl) ?_
            refine lv_aload_n hx hb dX12_token_91 rfl (lv_at hl 0 rfl) ?_
            refine va_get (D := (dC, dI)) (ci := 12) (v := .int m_next_b) (C := RX12) (T := TX12) (N := 76) hx hb htw inlX12 hown hK hP 0 rfl rfl 7 (by decide) (htw _ (ck_24 _ (List.mem_of_getElem? (i := 12) rfl))) (fun _ h9 => h9) rfl dX12_token_92 ?_
            have hPc := hP.sub (ws' := [(mq, .inr (12, mF (upd (upd g 7 m_next_b) 10 m_next_ax) gl rf)), (eA0 (rf 0) (ck 0) 900 f_tape)]) [0, 1] rfl
            have hKc := hK.sub (tys' := [((ck 0), .int)]) [0] rfl
            refine vp_callSi (W.runV (As := [.int m_next_b]) (rest := []) ⟨hx, hb, hml, hown, htw⟩ (gq_isSmall l dC dI mq (upd (upd g 7 m_next_b) 10 m_next_ax) gl rf ck f_tape m_next_b (gq_token_s33 (y0 := m_next_b) (y1 := m_next_ax) (y2 := g 6) (y3 := g 7) c_3 hx0a hx1a h0b h1b h2b h0n hns hs9 (fq_small hq_r_4 c_5)) hs9) (cwV 1 htw (xg_V (ck_24 _ (List.mem_of_getElem? (i := 21) rfl)) (ck_24 _ (List.mem_of_getElem? (i := 22) rfl)) (ck_24 _ (List.mem_of_getElem? (i := 23) rfl)) (ck_1 _ (List.mem_of_getElem? (i := 5) rfl)) (ck_25 _ (List.mem_of_getElem? (i := 0) rfl))) rfl rfl rfl (by exact ⟨rfl, hdc_14.1, hdc_14.2, hdd_26⟩) ⟨Nat.le_of_ble_eq_true rfl, Nat.le_of_ble_eq_true rfl⟩) ⟨fun a U g mk q => by obtain ⟨q0, qP, qK⟩ := q; exact ⟨q0, qP, va_K.moved (u := U) (U := U.calling g mk a) (Vm.Alike.refl U.vm) qK⟩, va_recv hKc hPc (ci := 12) (q0 := 0) rfl rfl, fun U hU hW => ⟨rfl, by rw [hU]; exact hPc, va_K.moved hW.alike hKc⟩⟩ rfl rfl hl.1 rfl (lv_room (Nat.le_of_ble_eq_true rfl)) dX12_token_95 ⟨Nat.le_of_ble_eq_true rfl, Nat.le_of_ble_eq_true rfl⟩) (fun r_35 hw => ?_)
            try dsimp only at hw
            obtain ⟨hw, hb_r_35⟩ := hw
            have hq_r_35 : r_35 = (fq_isSmall f_tape m_next_b (g 6)) := hw
            refine lv_if_eq (tgt := 114) hx hb dX12_token_98 (by decide) (fun c_36 => ?_) (fun c_36 => ?_)
            · exact hexit_24 m_next_b (gq_token_s34 (y0 := m_next_ax) (y1 := m_next_b) (y2 := g 6) (y3 := g 7) c_3 hx0a hx1a h0b h1b h2b h0n hns hs9 (fq_small hq_r_4 c_5)) (gq_token_s35 (y0 := m_next_b) (y1 := m_next_ax) (y2 := g 6) (y3 := g 7) c_3 hx0a hx1a h0b h1b h2b h0n hns hs9 (fq_small hq_r_4 c_5)) (gq_token_s36 (y0 := m_next_b) (y1 := g 6) (y2 := m_next_ax) (y3 := g 7) c_3 hx0a hx1a h0b h1b h2b h0n hns hs9 (fq_small hq_r_4 c_5)) (hI_b.trans (by rw [fq_token_b]; (try rw [← hq_r_35]); (try rw [xL_eq]); (try rw [if_pos c_36]); try rfl)) _ _ ls hP hD hS (lv_sub hl [0] rfl)
            · refine lv_aload_n hx hb dX12_token_101 rfl (lv_at hl 0 rfl) ?_
              refine lv_dup hx hb dX12_token_102 rfl ?_
              refine va_get (D := (dC, dI)) (ci := 12) (v := .int m_next_b) (C := RX12) (T := TX12) (N := 76) hx hb htw inlX12 hown hK hP 0 rfl rfl 7 (by decide) (htw _ (ck_24 _ (List.mem_of_getElem? (i := 12) rfl))) (fun _ h9 => h9) rfl dX12_token_103 ?_
              refine lv_iconst (v := 1) hx hb dX12_token_106 (by decide) ?_
              refine lv_iadd hx hb dX12_token_107 ?_
              refine va_put (D := (dC, dI)) (ci := 12) (v := .int (m_next_b + 1)) (ty := tyX12 7) (C := RX12) (T := TX12) (N := 76) hx hb htw inlX12 tyX12 tyX12_ok nmX12 hown hK hP hD hS 0 rfl rfl 7 (by decide) (htw _ (ck_24 _ (List.mem_of_getElem? (i := 12) rfl))) (fun _ h9 => h9) rfl (tyX12_ok 7 (by decide)) rfl rfl (Nat.le_of_ble_eq_true rfl) dX12_token_108 (fun H locs hP hD hS => ?_)
              have hP : va_P (dC, dI) vwCl [(mq, .inr (12, mF (upd (upd g 7 (m_next_b + 1)) 10 m_next_ax) gl rf)), (eA0 (rf 0) (ck 0) 900 f_tape), (eA0 (rf 3) (ck 3) 118 f_words)] H := hP
              have hD : va_D A [(mq, .inr (12, mF (upd (upd g 7 (m_next_b + 1)) 10 m_next_ax) gl rf)), (eA0 (rf 0) (ck 0) 900 f_tape), (eA0 (rf 3) (ck 3) 118 f_words)] := hD
              refine lv_goto (tgt := 90) hx hb dX12_token_111 (by decide) ?_
              exact ih (m_next_b + 1) (gq_token_s37 (y0 := m_next_b) (y1 := m_next_ax) (y2 := g 6) (y3 := g 7) c_3 hx0a hx1a h0b h1b h2b h0n hns hs9 (fq_small hq_r_4 c_5) (fq_small hq_r_35 c_36)) (gq_token_s38 (y0 := m_next_b) (y1 := g 6) (y2 := m_next_ax) (y3 := g 7) c_3 hx0a hx1a h0b h1b h2b h0n hns hs9 (fq_small hq_r_4 c_5) (fq_small hq_r_35 c_36)) (by rw [xi_s (b := 900) (gq_token_s39 (y0 := m_next_b) (y1 := m_next_ax) (y2 := g 6) (y3 := g 7) c_3 hx0a hx1a h0b h1b h2b h0n hns hs9 (fq_small hq_r_4 c_5) (fq_small hq_r_35 c_36))]; omega) (gq_token_s40 (y0 := m_next_ax) (y1 := m_next_b) (y2 := g 6) (y3 := g 7) c_3 hx0a hx1a h0b h1b h2b h0n hns hs9 (fq_small hq_r_4 c_5) (fq_small hq_r_35 c_36)) (hI_b.trans (by rw [fq_token_b]; (try rw [← hq_r_35]); (try rw [xL_eq]); (try rw [if_neg c_36]); try rfl)) H locs ls hP hD hS (lv_sub hl [0] rfl)
        exact hloop_32 900 m_next_ax (gq_token_s41 (y0 := m_next_ax) (y1 := g 6) (y2 := g 7) c_3 hx0a hx1a h0n hns hs9 (fq_small hq_r_4 c_5)) (gq_token_s42 (y0 := m_next_ax) (y1 := g 6) (y2 := g 7) c_3 hx0a hx1a h0n hns hs9 (fq_small hq_r_4 c_5)) (by have := xi_le hs9; have := xi_nn (gq_token_s43 (y0 := m_next_ax) (y1 := g 6) (y2 := g 7) c_3 hx0a hx1a h0n hns hs9 (fq_small hq_r_4 c_5)); have e9 : (900 : Int32).toInt = 900 := rfl; omega) (gq_token_s44 (y0 := m_next_ax) (y1 := g 6) (y2 := g 7) c_3 hx0a hx1a h0n hns hs9 (fq_small hq_r_4 c_5)) (hX_23) _ _ ls hP hD hS (lv_sub hl [0] rfl)
    · refine lv_aload_n hx hb dX12_token_71 rfl (lv_at hl 0 rfl) ?_
      refine lv_iconst (v := 0) hx hb dX12_token_72 (by decide) ?_
      refine va_put (D := (dC, dI)) (ci := 12) (v := .int 0) (ty := tyX12 8) (C := RX12) (T := TX12) (N := 76) hx hb htw inlX12 tyX12 tyX12_ok nmX12 hown hK hP hD hS 0 rfl rfl 8 (by decide) (htw _ (ck_24 _ (List.mem_of_getElem? (i := 13) rfl))) (fun _ h9 => h9) rfl (tyX12_ok 8 (by decide)) rfl rfl (Nat.le_of_ble_eq_true rfl) dX12_token_73 (fun H locs hP hD hS => ?_)
      have hP : va_P (dC, dI) vwCl [(mq, .inr (12, mF (upd (upd (upd g 7 m_next_ax) 8 0) 10 m_next_ax) gl rf)), (eA0 (rf 0) (ck 0) 900 f_tape), (eA0 (rf 3) (ck 3) 118 f_words)] H := hP
      have hD : va_D A [(mq, .inr (12, mF (upd (upd (upd g 7 m_next_ax) 8 0) 10 m_next_ax) gl rf)), (eA0 (rf 0) (ck 0) 900 f_tape), (eA0 (rf 3) (ck 3) 118 f_words)] := hD
      refine lv_goto (tgt := 281) hx hb dX12_token_76 (by decide) ?_
      refine W.widen (k := 0) (n := 0) (by omega) (by omega) ?_
      have hP9 := hP
      have hD9 := hD
      have hK9 := hK.sub (tys' := []) [] rfl
      exact W.vret hx hb hr (fun t ht hW => ⟨⟨(m_next_ax, 0, (g 9), m_next_ax), rfl, ⟨(Eq.symm ((by rw [fq_token]; (try rw [← hX_1]); (try rw [xL_eq]); (try rw [← hq_m_next_ax]); (try rw [if_pos c_3]); try rfl))), (gq_token_s45 (y0 := m_next_ax) (y1 := g 6) (y2 := g 7) c_3 hx0a hx1a h0n hns hs9), (gq_token_s46 (y0 := m_next_ax) (y1 := g 6) (y2 := g 7) c_3 hx0a hx1a h0n hns hs9)⟩, by rw [ht]; exact hP9, va_K.moved hW.alike hK9, hD9⟩, hS.F ht⟩) hS.2.2 dX12_token_281
  have hloop_37 : ∀ (n : Nat) (m_next_a : Int32) (h0a : ¬ m_next_a < 0) (h1a : m_next_a ≤ (g 6)) (hfa : (g 6).toInt ≤ m_next_a.toInt + (n : Int)) (hI_a : X_1 = fq_token_a f_tape (g 6) n m_next_a) (H : Heap) (locs : List Loc) (ls : Array Slot) (hP : va_P (dC, dI) vwCl [(mq, .inr (12, mF (upd g 7 m_next_a) gl rf)), (eA0 (rf 0) (ck 0) 900 f_tape), (eA0 (rf 3) (ck 3) 118 f_words)] H) (hD : va_D A [(mq, .inr (12, mF (upd g 7 m_next_a) gl rf)), (eA0 (rf 0) (ck 0) 900 f_tape), (eA0 (rf 3) (ck 3) 118 f_words)]) (hS : va_S A s.heap H locs) (hl : lv_has ls 1 [(0, .ref mq)]), W p l e (headSpec (Cond.code yX12_token cX12_token 1 none :: wsL_law) ({ frames := 1, cells := 0, slots := 0, locals := 27 })).room s m ([.ref mq] : List Value).toArray below meth c H locs 0 0 (MQ below (va_Qv (fun (u : (Int32) × (Int32) × (Int32) × (Int32)) => (u = fq_token f_tape f_words (g 6) (g 7) (g 9)) ∧ (¬ u.1 < 0) ∧ (u.1 ≤ (g 6))) (fun (u : (Int32) × (Int32) × (Int32) × (Int32)) t => va_P (dC, dI) vwCl [(mq, .inr (12, mF (upd (upd (upd (upd g 7 u.1) 8 u.2.1) 9 u.2.2.1) 10 u.2.2.2) gl rf)), (eA0 (rf 0) (ck 0) 900 f_tape), (eA0 (rf 3) (ck 3) 118 f_words)] t.heap ∧ va_K (dC, dI) vwCl [] t ∧ va_D A [(mq, .inr (12, mF (upd (upd (upd (upd g 7 u.1) 8 u.2.1) 9 u.2.2.1) 10 u.2.2.2) gl rf)), (eA0 (rf 0) (ck 0) 900 f_tape), (eA0 (rf 3) (ck 3) 118 f_words)]) A) ([.ref mq] : List Value).toArray s 0 0 A) (F0 m 0 ls []) := by
    intro n
    induction n with
    | zero =>
      intro m_next_a h0a h1a hfa hI_a H locs ls hP hD hS hl
      refine lv_aload_n hx hb dX12_token_0 rfl (lv_at hl 0 rfl) ?_
      refine va_get (D := (dC, dI)) (ci := 12) (v := .int m_next_a) (C := RX12) (T := TX12) (N := 76) hx hb htw inlX12 hown hK hP 0 rfl rfl 7 (by decide) (htw _ (ck_24 _ (List.mem_of_getElem? (i := 12) rfl))) (fun _ h9 => h9) rfl dX12_token_1 ?_
      refine lv_aload_n hx hb dX12_token_4 rfl (lv_at hl 0 rfl) ?_
      refine va_get (D := (dC, dI)) (ci := 12) (v := .int (g 6)) (C := RX12) (T := TX12) (N := 76) hx hb htw inlX12 hown hK hP 0 rfl rfl 6 (by decide) (htw _ (ck_24 _ (List.mem_of_getElem? (i := 10) rfl))) (fun _ h9 => h9) rfl dX12_token_5 ?_
      refine lv_icmp_ge (tgt := 52) hx hb dX12_token_8 (by decide) (fun c_38 => ?_) (fun c_38 => absurd c_38 (fun h => h (xi_z hfa)))
      exact hexit_2 m_next_a (gq_token_s47 (y0 := m_next_a) (y1 := g 6) (y2 := g 7) c_38 h0a h1a h0n hns hs9) (gq_token_s48 (y0 := m_next_a) (y1 := g 6) (y2 := g 7) c_38 h0a h1a h0n hns hs9) (hI_a.trans (by rw [fq_token_a]; try rfl)) _ _ ls hP hD hS (lv_sub hl [0] rfl)
    | succ n ih =>
      intro m_next_a h0a h1a hfa hI_a H locs ls hP hD hS hl
      refine lv_aload_n hx hb dX12_token_0 rfl (lv_at hl 0 rfl) ?_
      refine va_get (D := (dC, dI)) (ci := 12) (v := .int m_next_a) (C := RX12) (T := TX12) (N := 76) hx hb htw inlX12 hown hK hP 0 rfl rfl 7 (by decide) (htw _ (ck_24 _ (List.mem_of_getElem? (i := 12) rfl))) (fun _ h9 => h9) rfl dX12_token_1 ?_
      refine lv_aload_n hx hb dX12_token_4 rfl (lv_at hl 0 rfl) ?_
      refine va_get (D := (dC, dI)) (ci := 12) (v := .int (g 6)) (C := RX12) (T := TX12) (N := 76) hx hb htw inlX12 hown hK hP 0 rfl rfl 6 (by decide) (htw _ (ck_24 _ (List.mem_of_getElem? (i := 10) rfl))) (fun _ h9 => h9) rfl dX12_token_5 ?_
      refine lv_icmp_ge (tgt := 52) hx hb dX12_token_8 (by decide) (fun c_39 => ?_) (fun c_39 => ?_)
      · exact hexit_2 m_next_a (gq_token_s49 (y0 := m_next_a) (y1 := g 6) (y2 := g 7) c_39 h0a h1a h0n hns hs9) (gq_token_s50 (y0 := m_next_a) (y1 := g 6) (y2 := g 7) c_39 h0a h1a h0n hns hs9) (hI_a.trans (by rw [fq_token_a]; (try rw [if_pos c_39]); try rfl)) _ _ ls hP hD hS (lv_sub hl [0] rfl)
      · refine lv_aload_n hx hb dX12_token_11 rfl (lv_at hl 0 rfl) ?_
        refine va_get (D := (dC, dI)) (ci := 12) (v := .ref (rf 0)) (C := RX12) (T := TX12) (N := 76) hx hb htw inlX12 hown hK hP 0 rfl rfl 0 (by decide) (htw _ (ck_9 _ (List.mem_of_getElem? (i := 4) rfl))) (fun _ h9 => h9) rfl dX12_token_12 ?_
        refine lv_aload_n hx hb dX12_token_15 rfl (lv_at hl 0 rfl) ?_
        refine va_get (D := (dC, dI)) (ci := 12) (v := .int m_next_a) (C := RX12) (T := TX12) (N := 76) hx hb htw inlX12 hown hK hP 0 rfl rfl 7 (by decide) (htw _ (ck_24 _ (List.mem_of_getElem? (i := 12) rfl))) (fun _ h9 => h9) rfl dX12_token_16 ?_
        refine va_iald hx hb hK hP 1 0 rfl rfl (xg_inr (N := 900) rfl (gq_token_s51 (y0 := m_next_a) (y1 := g 6) (y2 := g 7) c_39 h0a h1a h0n hns hs9).1 (gq_token_s51 (y0 := m_next_a) (y1 := g 6) (y2 := g 7) c_39 h0a h1a h0n hns hs9).2) dX12_token_19 ?_
        refine lv_bipush (v := 10) hx hb dX12_token_20 (by decide) ?_
        refine lv_icmp_eq (tgt := 39) hx hb dX12_token_22 (by decide) (fun c_40 => ?_) (fun c_40 => ?_)
        · refine lv_aload_n hx hb dX12_token_39 rfl (lv_at hl 0 rfl) ?_
          refine lv_dup hx hb dX12_token_40 rfl ?_
          refine va_get (D := (dC, dI)) (ci := 12) (v := .int m_next_a) (C := RX12) (T := TX12) (N := 76) hx hb htw inlX12 hown hK hP 0 rfl rfl 7 (by decide) (htw _ (ck_24 _ (List.mem_of_getElem? (i := 12) rfl))) (fun _ h9 => h9) rfl dX12_token_41 ?_
          refine lv_iconst (v := 1) hx hb dX12_token_44 (by decide) ?_
          refine lv_iadd hx hb dX12_token_45 ?_
          refine va_put (D := (dC, dI)) (ci := 12) (v := .int (m_next_a + 1)) (ty := tyX12 7) (C := RX12) (T := TX12) (N := 76) hx hb htw inlX12 tyX12 tyX12_ok nmX12 hown hK hP hD hS 0 rfl rfl 7 (by decide) (htw _ (ck_24 _ (List.mem_of_getElem? (i := 12) rfl))) (fun _ h9 => h9) rfl (tyX12_ok 7 (by decide)) rfl rfl (Nat.le_of_ble_eq_true rfl) dX12_token_46 (fun H locs hP hD hS => ?_)
          obtain ⟨hP, hD⟩ := zre [(mq, .inr (12, mF (upd g 7 (m_next_a + 1)) gl rf)), (eA0 (rf 0) (ck 0) 900 f_tape), (eA0 (rf 3) (ck 3) 118 f_words)] hP hD rfl
          refine lv_goto (tgt := 0) hx hb dX12_token_49 (by decide) ?_
          exact ih (m_next_a + 1) (gq_token_s52 (y0 := m_next_a) (y1 := g 6) (y2 := g 7) c_39 h0a h1a h0n hns hs9) (gq_token_s53 (y0 := m_next_a) (y1 := g 6) (y2 := g 7) c_39 h0a h1a h0n hns hs9) (by rw [xi_s (b := 900) (gq_token_s54 (y0 := m_next_a) (y1 := g 6) (y2 := g 7) c_39 h0a h1a h0n hns hs9)]; omega) (hI_a.trans (by rw [fq_token_a]; (try rw [if_neg c_39]); (try rw [if_pos c_40]); try rfl)) H locs ls hP hD hS (lv_sub hl [0] rfl)
        · refine lv_aload_n hx hb dX12_token_25 rfl (lv_at hl 0 rfl) ?_
          refine va_get (D := (dC, dI)) (ci := 12) (v := .ref (rf 0)) (C := RX12) (T := TX12) (N := 76) hx hb htw inlX12 hown hK hP 0 rfl rfl 0 (by decide) (htw _ (ck_9 _ (List.mem_of_getElem? (i := 4) rfl))) (fun _ h9 => h9) rfl dX12_token_26 ?_
          refine lv_aload_n hx hb dX12_token_29 rfl (lv_at hl 0 rfl) ?_
          refine va_get (D := (dC, dI)) (ci := 12) (v := .int m_next_a) (C := RX12) (T := TX12) (N := 76) hx hb htw inlX12 hown hK hP 0 rfl rfl 7 (by decide) (htw _ (ck_24 _ (List.mem_of_getElem? (i := 12) rfl))) (fun _ h9 => h9) rfl dX12_token_30 ?_
          refine va_iald hx hb hK hP 1 0 rfl rfl (xg_inr (N := 900) rfl (gq_token_s55 (y0 := m_next_a) (y1 := g 6) (y2 := g 7) c_39 h0a h1a h0n hns hs9).1 (gq_token_s55 (y0 := m_next_a) (y1 := g 6) (y2 := g 7) c_39 h0a h1a h0n hns hs9).2) dX12_token_33 ?_
          refine lv_bipush (v := 32) hx hb dX12_token_34 (by decide) ?_
          refine lv_icmp_ne (tgt := 52) hx hb dX12_token_36 (by decide) (fun c_41 => ?_) (fun c_41 => ?_)
          · exact hexit_2 m_next_a (gq_token_s56 (y0 := m_next_a) (y1 := g 6) (y2 := g 7) c_39 h0a h1a h0n hns hs9) (gq_token_s57 (y0 := m_next_a) (y1 := g 6) (y2 := g 7) c_39 h0a h1a h0n hns hs9) (hI_a.trans (by rw [fq_token_a]; (try rw [if_neg c_39]); (try rw [if_neg c_40]); (try rw [if_neg c_41]); try rfl)) _ _ ls hP hD hS (lv_sub hl [0] rfl)
          · refine lv_aload_n hx hb dX12_token_39 rfl (lv_at hl 0 rfl) ?_
            refine lv_dup hx hb dX12_token_40 rfl ?_
            refine va_get (D := (dC, dI)) (ci := 12) (v := .int m_next_a) (C := RX12) (T := TX12) (N := 76) hx hb htw inlX12 hown hK hP 0 rfl rfl 7 (by decide) (htw _ (ck_24 _ (List.mem_of_getElem? (i := 12) rfl))) (fun _ h9 => h9) rfl dX12_token_41 ?_
            refine lv_iconst (v := 1) hx hb dX12_token_44 (by decide) ?_
            refine lv_iadd hx hb dX12_token_45 ?_
            refine va_put (D := (dC, dI)) (ci := 12) (v := .int (m_next_a + 1)) (ty := tyX12 7) (C := RX12) (T := TX12) (N := 76) hx hb htw inlX12 tyX12 tyX12_ok nmX12 hown hK hP hD hS 0 rfl rfl 7 (by decide) (htw _ (ck_24 _ (List.mem_of_getElem? (i := 12) rfl))) (fun _ h9 => h9) rfl (tyX12_ok 7 (by decide)) rfl rfl (Nat.le_of_ble_eq_true rfl) dX12_token_46 (fun H locs hP hD hS => ?_)
            obtain ⟨hP, hD⟩ := zre [(mq, .inr (12, mF (upd g 7 (m_next_a + 1)) gl rf)), (eA0 (rf 0) (ck 0) 900 f_tape), (eA0 (rf 3) (ck 3) 118 f_words)] hP hD rfl
            refine lv_goto (tgt := 0) hx hb dX12_token_49 (by decide) ?_
            exact ih (m_next_a + 1) (gq_token_s58 (y0 := m_next_a) (y1 := g 6) (y2 := g 7) c_39 h0a h1a h0n hns hs9) (gq_token_s59 (y0 := m_next_a) (y1 := g 6) (y2 := g 7) c_39 h0a h1a h0n hns hs9) (by rw [xi_s (b := 900) (gq_token_s60 (y0 := m_next_a) (y1 := g 6) (y2 := g 7) c_39 h0a h1a h0n hns hs9)]; omega) (hI_a.trans (by rw [fq_token_a]; (try rw [if_neg c_39]); (try rw [if_neg c_40]); (try rw [if_pos c_41]); try rfl)) H locs ls hP hD hS (lv_sub hl [0] rfl)
  exact hloop_37 900 (g 7) (gq_token_s61 (y0 := g 7) (y1 := g 6) h0n hns hs9) (gq_token_s62 (y0 := g 7) (y1 := g 6) h0n hns hs9) (by have := xi_le hs9; have := xi_nn (gq_token_s63 (y0 := g 7) (y1 := g 6) h0n hns hs9); have e9 : (900 : Int32).toInt = 900 := rfl; omega) (hX_1) _ _ ls hP hD hS (lv_sub hl [0] rfl)
