/-- what waits on top does not bind so closely -/
def xTp (f : Nat → Int32) (w l : Int32) : Prop := fq_rank (f (w - 1).toNatClampNeg) < l

def fq_bind_d (f_wait : Nat → Int32) (a0 : Int32) : Nat → (Int32) → (Int32) → (Int32) → (Nat → Int32) → (Nat → Int32) → (Nat → Int32) → (Nat → Int32) → (Int32) × (Int32) × (Int32) × (Nat → Int32) × (Nat → Int32) × (Nat → Int32) × (Nat → Int32)
  | 0, m_knotsRead_d, m_waits_d, m_helds_d, f_knot_d, f_part_d, f_other_d, f_held_d => (m_knotsRead_d, m_waits_d, m_helds_d, f_knot_d, f_part_d, f_other_d, f_held_d)
  | n + 1, m_knotsRead_d, m_waits_d, m_helds_d, f_knot_d, f_part_d, f_other_d, f_held_d => (if m_waits_d ≤ 0 then (m_knotsRead_d, m_waits_d, m_helds_d, f_knot_d, f_part_d, f_other_d, f_held_d) else (xL ((fq_rank (f_wait ((m_waits_d - 1).toNatClampNeg)))) (fun r_4 => (if r_4 < a0 then (m_knotsRead_d, m_waits_d, m_helds_d, f_knot_d, f_part_d, f_other_d, f_held_d) else (if f_wait ((m_waits_d - 1).toNatClampNeg) = 2 then (xL ((fq_dropHeld f_held_d m_helds_d)) (fun X_29 => (xL ((fq_grown f_knot_d f_part_d f_other_d f_held_d (f_wait ((m_waits_d - 1).toNatClampNeg)) X_29.1 (-1 : Int32) m_knotsRead_d X_29.2)) (fun u_31 => fq_bind_d f_wait a0 n u_31.1 (m_waits_d - 1) u_31.2.1 u_31.2.2.1 u_31.2.2.2.1 u_31.2.2.2.2.1 u_31.2.2.2.2.2)))) else (xL ((fq_dropHeld f_held_d m_helds_d)) (fun X_11 => (xL ((fq_dropHeld f_held_d X_11.2)) (fun X_16 => (xL ((fq_grown f_knot_d f_part_d f_other_d f_held_d (f_wait ((m_waits_d - 1).toNatClampNeg)) X_16.1 X_11.1 m_knotsRead_d X_16.2)) (fun u_18 => fq_bind_d f_wait a0 n u_18.1 (m_waits_d - 1) u_18.2.1 u_18.2.2.1 u_18.2.2.2.1 u_18.2.2.2.2.1 u_18.2.2.2.2.2)))))))))))
def fq_bind (f_knot : Nat → Int32) (f_part : Nat → Int32) (f_other : Nat → Int32) (f_wait : Nat → Int32) (f_held : Nat → Int32) (a0 : Int32) (m_knotsRead : Int32) (m_waits : Int32) (m_helds : Int32) : (Int32) × (Int32) × (Int32) × (Nat → Int32) × (Nat → Int32) × (Nat → Int32) × (Nat → Int32) := fq_bind_d f_wait a0 96 m_knotsRead m_waits m_helds f_knot f_part f_other f_held
theorem gq_bind_s0 {y0 : Int32} (h0 : y0 ≤ 72) : y0 ≤ 96 := by lia
theorem gq_bind_s1 {y0 : Int32} (h0 : ¬ (y0 < 0)) (h1 : y0 ≤ 0) : y0 = 0 := by lia
theorem gq_bind_s2 {y0 : Int32} (h0 : ¬ (y0 < 0)) (h1 : y0 ≤ 0) : y0 = 0 := by lia
theorem gq_bind_s3 {y0 : Int32} (h0 : ¬ (y0 ≤ 0)) (h1 : y0 ≤ 72) : ¬ ((y0 - 1) < 0) ∧ ¬ (96 ≤ (y0 - 1)) := by lia
theorem gq_bind_s4 {y0 : Int32} (h0 : y0 ≤ 72) : y0 ≤ 96 := by lia
theorem gq_bind_s5 {y0 : Int32} {y1 : Int32} (h0 : ¬ (y0 < y1)) (h1 : ¬ (y1 < 1)) : ¬ (y0 < 1) := by lia
theorem gq_bind_s6 {y0 : Int32} (h0 : ¬ (y0 ≤ 0)) (h1 : y0 ≤ 72) (h2 : ¬ (y0 < 0)) : ¬ ((y0 - 1) < 0) ∧ ¬ (96 ≤ (y0 - 1)) := by lia
theorem gq_bind_s7 {y0 : Int32} (h0 : ¬ (y0 ≤ 0)) : ¬ (y0 < 1) := by lia
theorem gq_bind_s8 {y0 : Int32} {y1 : Int32} (h0 : y1 ≤ 72) (h1 : y0 ≤ (y1 + 1)) : y0 ≤ 96 := by lia
theorem gq_bind_s9 {y0 : Int32} {y1 : Int32} (h0 : ¬ (y1 < 2)) (h1 : y0 = (y1 - 1)) : ¬ (y0 < 1) := by lia
theorem gq_bind_s10 {y0 : Int32} {y1 : Int32} {y2 : Int32} (h0 : y1 ≤ 72) (h1 : y2 ≤ (y1 + 1)) (h2 : ¬ (y2 < 2)) (h3 : y0 = (y2 - 1)) : y0 ≤ 96 := by lia
theorem gq_bind_s11 {y0 : Int32} {y1 : Int32} {y2 : Int32} {y3 : Int32} (h0 : y0 ≤ 64) (h1 : y1 ≤ 72) (h2 : (y0 + (y1 - y2)) = y3) (h3 : ¬ (y2 < 0)) (h4 : y2 ≤ y1) (h5 : ¬ (y1 < 0)) (h6 : y2 ≤ (y1 - 1)) (h7 : y3 ≤ 64) : y0 < 64 := by
  have l_y0 := y0.le_toInt
  have u_y0 := y0.toInt_lt
  have l_y1 := y1.le_toInt
  have u_y1 := y1.toInt_lt
  have l_y2 := y2.le_toInt
  have u_y2 := y2.toInt_lt
  have l_y3 := y3.le_toInt
  have u_y3 := y3.toInt_lt
  have h0 : y0.toInt ≤ 64 := Int32.le_iff_toInt_le.mp h0
  have h1 : y1.toInt ≤ 72 := Int32.le_iff_toInt_le.mp h1
  have h3 : 0 ≤ y2.toInt := Int.not_lt.mp (fun z => h3 (Int32.lt_iff_toInt_lt.mpr z))
  have h4 : y2.toInt ≤ y1.toInt := Int32.le_iff_toInt_le.mp h4
  have h5 : 0 ≤ y1.toInt := Int.not_lt.mp (fun z => h5 (Int32.lt_iff_toInt_lt.mpr z))
  have h7 : y3.toInt ≤ 64 := Int32.le_iff_toInt_le.mp h7
  have e14 : ((y1 - y2) : Int32).toInt = y1.toInt - y2.toInt := by rw [Int32.toInt_sub, Int.bmod_eq_of_le (by omega) (by omega)]
  have e15 : ((y0 + (y1 - y2)) : Int32).toInt = y0.toInt + ((y1 - y2) : Int32).toInt := by rw [Int32.toInt_add, Int.bmod_eq_of_le (by omega) (by omega)]
  have e16 : ((y1 - 1) : Int32).toInt = y1.toInt - 1 := by rw [Int32.toInt_sub, show (1 : Int32).toInt = 1 from rfl, Int.bmod_eq_of_le (by omega) (by omega)]
  have h2 : ((y0 + (y1 - y2)) : Int32).toInt = y3.toInt := congrArg Int32.toInt h2
  have h6 : y2.toInt ≤ ((y1 - 1) : Int32).toInt := Int32.le_iff_toInt_le.mp h6
  exact Int32.lt_iff_toInt_lt.mpr (show y0.toInt < 64 by omega)
theorem gq_bind_s12 {y0 : Int32} {y1 : Int32} {y2 : Int32} (h0 : ¬ (y1 < 2)) (h1 : y2 = (y1 - 1)) (h2 : y0 = (y2 - 1)) : ¬ (y0 < 0) := by lia
theorem gq_bind_s13 {y0 : Int32} {y1 : Int32} {y2 : Int32} {y3 : Int32} (h0 : y1 ≤ 72) (h1 : y2 ≤ (y1 + 1)) (h2 : ¬ (y2 < 2)) (h3 : y3 = (y2 - 1)) (h4 : y0 = (y3 - 1)) : y0 < 96 := by lia
theorem gq_bind_s14 {y0 : Int32} {y1 : Int32} {y2 : Int32} {y3 : Int32} {y4 : Int32} {y5 : Int32} (h0 : ¬ (y0 ≤ 0)) (h1 : y2 ≤ 64) (h2 : y0 ≤ 72) (h3 : y3 ≤ y2) (h4 : (y2 + (y0 - y4)) = y5) (h5 : ¬ (y4 < 0)) (h6 : y4 ≤ y0) (h7 : ¬ (y0 < 0)) (h8 : y1 ≤ (y0 + 1)) (h9 : y4 ≤ (y0 - 1)) (h10 : ¬ (y3 < 0)) (h11 : y5 ≤ 64) : ¬ (y0 < 1) ∧ y1 ≤ 97 ∧ ¬ (y2 < 0) ∧ y2 < 64 := by
  have l_y0 := y0.le_toInt
  have u_y0 := y0.toInt_lt
  have l_y1 := y1.le_toInt
  have u_y1 := y1.toInt_lt
  have l_y2 := y2.le_toInt
  have u_y2 := y2.toInt_lt
  have l_y3 := y3.le_toInt
  have u_y3 := y3.toInt_lt
  have l_y4 := y4.le_toInt
  have u_y4 := y4.toInt_lt
  have l_y5 := y5.le_toInt
  have u_y5 := y5.toInt_lt
  have h0 : 0 < y0.toInt := Int.not_le.mp (fun z => h0 (Int32.le_iff_toInt_le.mpr z))
  have h1 : y2.toInt ≤ 64 := Int32.le_iff_toInt_le.mp h1
  have h2 : y0.toInt ≤ 72 := Int32.le_iff_toInt_le.mp h2
  have h3 : y3.toInt ≤ y2.toInt := Int32.le_iff_toInt_le.mp h3
  have h5 : 0 ≤ y4.toInt := Int.not_lt.mp (fun z => h5 (Int32.lt_iff_toInt_lt.mpr z))
  have h6 : y4.toInt ≤ y0.toInt := Int32.le_iff_toInt_le.mp h6
  have h7 : 0 ≤ y0.toInt := Int.not_lt.mp (fun z => h7 (Int32.lt_iff_toInt_lt.mpr z))
  have h10 : 0 ≤ y3.toInt := Int.not_lt.mp (fun z => h10 (Int32.lt_iff_toInt_lt.mpr z))
  have h11 : y5.toInt ≤ 64 := Int32.le_iff_toInt_le.mp h11
  have e21 : ((y0 - y4) : Int32).toInt = y0.toInt - y4.toInt := by rw [Int32.toInt_sub, Int.bmod_eq_of_le (by omega) (by omega)]
  have e22 : ((y2 + (y0 - y4)) : Int32).toInt = y2.toInt + ((y0 - y4) : Int32).toInt := by rw [Int32.toInt_add, Int.bmod_eq_of_le (by omega) (by omega)]
  have e23 : ((y0 + 1) : Int32).toInt = y0.toInt + 1 := by rw [Int32.toInt_add, show (1 : Int32).toInt = 1 from rfl, Int.bmod_eq_of_le (by omega) (by omega)]
  have e24 : ((y0 - 1) : Int32).toInt = y0.toInt - 1 := by rw [Int32.toInt_sub, show (1 : Int32).toInt = 1 from rfl, Int.bmod_eq_of_le (by omega) (by omega)]
  have h4 : ((y2 + (y0 - y4)) : Int32).toInt = y5.toInt := congrArg Int32.toInt h4
  have h8 : y1.toInt ≤ ((y0 + 1) : Int32).toInt := Int32.le_iff_toInt_le.mp h8
  have h9 : y4.toInt ≤ ((y0 - 1) : Int32).toInt := Int32.le_iff_toInt_le.mp h9
  exact ⟨(fun z => by have z : y0.toInt < 1 := Int32.lt_iff_toInt_lt.mp z; omega), Int32.le_iff_toInt_le.mpr (show y1.toInt ≤ 97 by omega), (fun z => by have z : y2.toInt < 0 := Int32.lt_iff_toInt_lt.mp z; omega), Int32.lt_iff_toInt_lt.mpr (show y2.toInt < 64 by omega)⟩
theorem gq_bind_s15 {y0 : Int32} {y1 : Int32} {y2 : Int32} {y3 : Int32} {y4 : Int32} (h0 : y1 ≤ 64) (h1 : y2 ≤ 72) (h2 : (y1 + (y2 - y3)) = y4) (h3 : ¬ (y3 < 0)) (h4 : y3 ≤ y2) (h5 : ¬ (y2 < 0)) (h6 : y3 ≤ (y2 - 1)) (h7 : y0 = (y1 + 1)) (h8 : y4 ≤ 64) : y0 ≤ 64 := by
  have l_y0 := y0.le_toInt
  have u_y0 := y0.toInt_lt
  have l_y1 := y1.le_toInt
  have u_y1 := y1.toInt_lt
  have l_y2 := y2.le_toInt
  have u_y2 := y2.toInt_lt
  have l_y3 := y3.le_toInt
  have u_y3 := y3.toInt_lt
  have l_y4 := y4.le_toInt
  have u_y4 := y4.toInt_lt
  have h0 : y1.toInt ≤ 64 := Int32.le_iff_toInt_le.mp h0
  have h1 : y2.toInt ≤ 72 := Int32.le_iff_toInt_le.mp h1
  have h3 : 0 ≤ y3.toInt := Int.not_lt.mp (fun z => h3 (Int32.lt_iff_toInt_lt.mpr z))
  have h4 : y3.toInt ≤ y2.toInt := Int32.le_iff_toInt_le.mp h4
  have h5 : 0 ≤ y2.toInt := Int.not_lt.mp (fun z => h5 (Int32.lt_iff_toInt_lt.mpr z))
  have h8 : y4.toInt ≤ 64 := Int32.le_iff_toInt_le.mp h8
  have e16 : ((y2 - y3) : Int32).toInt = y2.toInt - y3.toInt := by rw [Int32.toInt_sub, Int.bmod_eq_of_le (by omega) (by omega)]
  have e17 : ((y1 + (y2 - y3)) : Int32).toInt = y1.toInt + ((y2 - y3) : Int32).toInt := by rw [Int32.toInt_add, Int.bmod_eq_of_le (by omega) (by omega)]
  have e18 : ((y2 - 1) : Int32).toInt = y2.toInt - 1 := by rw [Int32.toInt_sub, show (1 : Int32).toInt = 1 from rfl, Int.bmod_eq_of_le (by omega) (by omega)]
  have e19 : ((y1 + 1) : Int32).toInt = y1.toInt + 1 := by rw [Int32.toInt_add, show (1 : Int32).toInt = 1 from rfl, Int.bmod_eq_of_le (by omega) (by omega)]
  have h2 : ((y1 + (y2 - y3)) : Int32).toInt = y4.toInt := congrArg Int32.toInt h2
  have h6 : y3.toInt ≤ ((y2 - 1) : Int32).toInt := Int32.le_iff_toInt_le.mp h6
  have h7 : y0.toInt = ((y1 + 1) : Int32).toInt := congrArg Int32.toInt h7
  exact Int32.le_iff_toInt_le.mpr (show y0.toInt ≤ 64 by omega)
theorem gq_bind_s16 {y0 : Int32} (h0 : y0 ≤ 72) (h1 : ¬ (y0 < 0)) : (y0 - 1) ≤ 72 := by lia
theorem gq_bind_s17 {y0 : Int32} {y1 : Int32} {y2 : Int32} (h0 : y1 ≤ 64) (h1 : y2 ≤ y1) (h2 : y0 = (y1 + 1)) (h3 : ¬ (y2 < 0)) : ¬ (y0 < 0) := by lia
theorem gq_bind_s18 {y0 : Int32} {y1 : Int32} {y2 : Int32} (h0 : y2 ≤ 64) (h1 : y0 ≤ y2) (h2 : y1 = (y2 + 1)) : y0 ≤ y1 := by lia
theorem gq_bind_s19 {y0 : Int32} {y1 : Int32} {y2 : Int32} {y3 : Int32} {y4 : Int32} {y5 : Int32} (h0 : y4 ≤ 64) (h1 : y1 ≤ 72) (h2 : y5 ≤ y4) (h3 : (y4 + (y1 - y2)) = y3) (h4 : ¬ (y2 < 0)) (h5 : y2 ≤ y1) (h6 : ¬ (y1 < 0)) (h7 : y0 = (y4 + 1)) (h8 : ¬ (y5 < 0)) : (y0 + ((y1 - 1) - y2)) = y3 := by
  have l_y0 := y0.le_toInt
  have u_y0 := y0.toInt_lt
  have l_y1 := y1.le_toInt
  have u_y1 := y1.toInt_lt
  have l_y2 := y2.le_toInt
  have u_y2 := y2.toInt_lt
  have l_y3 := y3.le_toInt
  have u_y3 := y3.toInt_lt
  have l_y4 := y4.le_toInt
  have u_y4 := y4.toInt_lt
  have l_y5 := y5.le_toInt
  have u_y5 := y5.toInt_lt
  have h0 : y4.toInt ≤ 64 := Int32.le_iff_toInt_le.mp h0
  have h1 : y1.toInt ≤ 72 := Int32.le_iff_toInt_le.mp h1
  have h2 : y5.toInt ≤ y4.toInt := Int32.le_iff_toInt_le.mp h2
  have h4 : 0 ≤ y2.toInt := Int.not_lt.mp (fun z => h4 (Int32.lt_iff_toInt_lt.mpr z))
  have h5 : y2.toInt ≤ y1.toInt := Int32.le_iff_toInt_le.mp h5
  have h6 : 0 ≤ y1.toInt := Int.not_lt.mp (fun z => h6 (Int32.lt_iff_toInt_lt.mpr z))
  have h8 : 0 ≤ y5.toInt := Int.not_lt.mp (fun z => h8 (Int32.lt_iff_toInt_lt.mpr z))
  have e19 : ((y1 - y2) : Int32).toInt = y1.toInt - y2.toInt := by rw [Int32.toInt_sub, Int.bmod_eq_of_le (by omega) (by omega)]
  have e20 : ((y4 + (y1 - y2)) : Int32).toInt = y4.toInt + ((y1 - y2) : Int32).toInt := by rw [Int32.toInt_add, Int.bmod_eq_of_le (by omega) (by omega)]
  have e21 : ((y4 + 1) : Int32).toInt = y4.toInt + 1 := by rw [Int32.toInt_add, show (1 : Int32).toInt = 1 from rfl, Int.bmod_eq_of_le (by omega) (by omega)]
  have e22 : ((y1 - 1) : Int32).toInt = y1.toInt - 1 := by rw [Int32.toInt_sub, show (1 : Int32).toInt = 1 from rfl, Int.bmod_eq_of_le (by omega) (by omega)]
  have e23 : (((y1 - 1) - y2) : Int32).toInt = ((y1 - 1) : Int32).toInt - y2.toInt := by rw [Int32.toInt_sub, Int.bmod_eq_of_le (by omega) (by omega)]
  have h3 : ((y4 + (y1 - y2)) : Int32).toInt = y3.toInt := congrArg Int32.toInt h3
  have h7 : y0.toInt = ((y4 + 1) : Int32).toInt := congrArg Int32.toInt h7
  have e26 : ((y0 + ((y1 - 1) - y2)) : Int32).toInt = y0.toInt + (((y1 - 1) - y2) : Int32).toInt := by rw [Int32.toInt_add, Int.bmod_eq_of_le (by omega) (by omega)]
  exact Int32.toInt_inj.mp (show ((y0 + ((y1 - 1) - y2)) : Int32).toInt = y3.toInt by omega)
theorem gq_bind_s20 {y0 : Int32} (h0 : ¬ (y0 ≤ 0)) : ¬ (y0 < 1) := by lia
theorem gq_bind_s21 {y0 : Int32} (h0 : ¬ (y0 ≤ 0)) : ¬ (y0 < 1) := by lia
theorem gq_bind_s22 {y0 : Int32} {y1 : Int32} (h0 : y1 ≤ 72) (h1 : y0 ≤ (y1 + 1)) : y0 ≤ 96 := by lia
theorem gq_bind_s23 {y0 : Int32} {y1 : Int32} {y2 : Int32} {y3 : Int32} (h0 : y0 ≤ 64) (h1 : y1 ≤ 72) (h2 : (y0 + (y1 - y2)) = y3) (h3 : ¬ (y2 < 0)) (h4 : y2 ≤ y1) (h5 : ¬ (y1 < 0)) (h6 : y2 ≤ (y1 - 1)) (h7 : y3 ≤ 64) : y0 < 64 := gq_bind_s11 h0 h1 h2 h3 h4 h5 h6 h7
theorem gq_bind_s24 {y0 : Int32} {y1 : Int32} (h0 : ¬ (y1 < 1)) (h1 : y0 = (y1 - 1)) : ¬ (y0 < 0) := by lia
theorem gq_bind_s25 {y0 : Int32} {y1 : Int32} {y2 : Int32} (h0 : y1 ≤ 72) (h1 : y2 ≤ (y1 + 1)) (h2 : ¬ (y2 < 1)) (h3 : y0 = (y2 - 1)) : y0 < 96 := by lia
theorem gq_bind_s26 {y0 : Int32} {y1 : Int32} {y2 : Int32} {y3 : Int32} {y4 : Int32} {y5 : Int32} (h0 : ¬ (y0 ≤ 0)) (h1 : y2 ≤ 64) (h2 : y0 ≤ 72) (h3 : y3 ≤ y2) (h4 : (y2 + (y0 - y4)) = y5) (h5 : ¬ (y4 < 0)) (h6 : y4 ≤ y0) (h7 : ¬ (y0 < 0)) (h8 : y1 ≤ (y0 + 1)) (h9 : y4 ≤ (y0 - 1)) (h10 : ¬ (y3 < 0)) (h11 : y5 ≤ 64) : ¬ (y0 < 1) ∧ y1 ≤ 97 ∧ ¬ (y2 < 0) ∧ y2 < 64 := gq_bind_s14 h0 h1 h2 h3 h4 h5 h6 h7 h8 h9 h10 h11
theorem gq_bind_s27 {y0 : Int32} {y1 : Int32} {y2 : Int32} {y3 : Int32} {y4 : Int32} (h0 : y1 ≤ 64) (h1 : y2 ≤ 72) (h2 : (y1 + (y2 - y3)) = y4) (h3 : ¬ (y3 < 0)) (h4 : y3 ≤ y2) (h5 : ¬ (y2 < 0)) (h6 : y3 ≤ (y2 - 1)) (h7 : y0 = (y1 + 1)) (h8 : y4 ≤ 64) : y0 ≤ 64 := gq_bind_s15 h0 h1 h2 h3 h4 h5 h6 h7 h8
theorem gq_bind_s28 {y0 : Int32} (h0 : y0 ≤ 72) (h1 : ¬ (y0 < 0)) : (y0 - 1) ≤ 72 := by lia
theorem gq_bind_s29 {y0 : Int32} {y1 : Int32} {y2 : Int32} (h0 : y1 ≤ 64) (h1 : y2 ≤ y1) (h2 : y0 = (y1 + 1)) (h3 : ¬ (y2 < 0)) : ¬ (y0 < 0) := gq_bind_s17 h0 h1 h2 h3
theorem gq_bind_s30 {y0 : Int32} {y1 : Int32} {y2 : Int32} (h0 : y2 ≤ 64) (h1 : y0 ≤ y2) (h2 : y1 = (y2 + 1)) : y0 ≤ y1 := by lia
theorem gq_bind_s31 {y0 : Int32} {y1 : Int32} {y2 : Int32} {y3 : Int32} {y4 : Int32} {y5 : Int32} (h0 : y4 ≤ 64) (h1 : y1 ≤ 72) (h2 : y5 ≤ y4) (h3 : (y4 + (y1 - y2)) = y3) (h4 : ¬ (y2 < 0)) (h5 : y2 ≤ y1) (h6 : ¬ (y1 < 0)) (h7 : y0 = (y4 + 1)) (h8 : ¬ (y5 < 0)) : (y0 + ((y1 - 1) - y2)) = y3 := gq_bind_s19 h0 h1 h2 h3 h4 h5 h6 h7 h8
theorem gq_bind_s32 {y0 : Int32} (h0 : ¬ (y0 ≤ 0)) : ¬ (y0 < 1) := by lia
theorem gq_bind_s33 {y0 : Int32} : y0 ≤ y0 := by lia
theorem gq_bind_s34 {y0 : Int32} (h0 : y0 ≤ 72) : y0 ≤ 96 := by lia
theorem dX12_bind_0 : decode cX12_bind 0 = .ok (.aload_n 0, 1) := zk_42 (by decide +kernel)
theorem dX12_bind_1 : decode cX12_bind 1 = .ok (.getfield 333, 3) := zk_180 (by decide +kernel)
theorem dX12_bind_4 : decode cX12_bind 4 = .ok (.ifCond .le 72, 3) := zk_158 (by decide +kernel)
theorem dX12_bind_76 : decode cX12_bind 76 = .ok (.return_, 1) := zk_177 (by decide +kernel)
theorem dX12_bind_7 : decode cX12_bind 7 = .ok (.aload_n 0, 1) := zk_42 (by decide +kernel)
theorem dX12_bind_8 : decode cX12_bind 8 = .ok (.getfield 72, 3) := zk_180 (by decide +kernel)
theorem dX12_bind_11 : decode cX12_bind 11 = .ok (.aload_n 0, 1) := zk_42 (by decide +kernel)
theorem dX12_bind_12 : decode cX12_bind 12 = .ok (.getfield 333, 3) := zk_180 (by decide +kernel)
theorem dX12_bind_15 : decode cX12_bind 15 = .ok (.iconst 1, 1) := zk_4 (by decide +kernel)
theorem dX12_bind_16 : decode cX12_bind 16 = .ok (.isub, 1) := zk_100 (by decide +kernel)
theorem dX12_bind_17 : decode cX12_bind 17 = .ok (.iaload, 1) := zk_46 (by decide +kernel)
theorem dX12_bind_18 : decode cX12_bind 18 = .ok (.invokestatic 336, 3) := zk_184 (by decide +kernel)
theorem dX12_bind_21 : decode cX12_bind 21 = .ok (.iload_n 1, 1) := zk_27 (by decide +kernel)
theorem dX12_bind_22 : decode cX12_bind 22 = .ok (.if_icmp .lt 54, 3) := zk_161 (by decide +kernel)
theorem dX12_bind_25 : decode cX12_bind 25 = .ok (.aload_n 0, 1) := zk_42 (by decide +kernel)
theorem dX12_bind_26 : decode cX12_bind 26 = .ok (.dup, 1) := zk_89 (by decide +kernel)
theorem dX12_bind_27 : decode cX12_bind 27 = .ok (.getfield 333, 3) := zk_180 (by decide +kernel)
theorem dX12_bind_30 : decode cX12_bind 30 = .ok (.iconst 1, 1) := zk_4 (by decide +kernel)
theorem dX12_bind_31 : decode cX12_bind 31 = .ok (.isub, 1) := zk_100 (by decide +kernel)
theorem dX12_bind_32 : decode cX12_bind 32 = .ok (.putfield 333, 3) := zk_181 (by decide +kernel)
theorem dX12_bind_35 : decode cX12_bind 35 = .ok (.aload_n 0, 1) := zk_42 (by decide +kernel)
theorem dX12_bind_36 : decode cX12_bind 36 = .ok (.getfield 72, 3) := zk_180 (by decide +kernel)
theorem dX12_bind_39 : decode cX12_bind 39 = .ok (.aload_n 0, 1) := zk_42 (by decide +kernel)
theorem dX12_bind_40 : decode cX12_bind 40 = .ok (.getfield 333, 3) := zk_180 (by decide +kernel)
theorem dX12_bind_43 : decode cX12_bind 43 = .ok (.iaload, 1) := zk_46 (by decide +kernel)
theorem dX12_bind_44 : decode cX12_bind 44 = .ok (.istore_n 2, 1) := zk_61 (by decide +kernel)
theorem dX12_bind_45 : decode cX12_bind 45 = .ok (.iload_n 2, 1) := zk_28 (by decide +kernel)
theorem dX12_bind_46 : decode cX12_bind 46 = .ok (.iconst 2, 1) := zk_5 (by decide +kernel)
theorem dX12_bind_47 : decode cX12_bind 47 = .ok (.if_icmp .ne 7, 3) := zk_160 (by decide +kernel)
theorem dX12_bind_54 : decode cX12_bind 54 = .ok (.aload_n 0, 1) := zk_42 (by decide +kernel)
theorem dX12_bind_55 : decode cX12_bind 55 = .ok (.invokevirtual 340, 3) := zk_182 (by decide +kernel)
theorem dX12_bind_58 : decode cX12_bind 58 = .ok (.istore_n 3, 1) := zk_62 (by decide +kernel)
theorem dX12_bind_59 : decode cX12_bind 59 = .ok (.aload_n 0, 1) := zk_42 (by decide +kernel)
theorem dX12_bind_60 : decode cX12_bind 60 = .ok (.invokevirtual 340, 3) := zk_182 (by decide +kernel)
theorem dX12_bind_63 : decode cX12_bind 63 = .ok (.istore 4, 2) := zk_54 (by decide +kernel)
theorem dX12_bind_65 : decode cX12_bind 65 = .ok (.aload_n 0, 1) := zk_42 (by decide +kernel)
theorem dX12_bind_66 : decode cX12_bind 66 = .ok (.iload_n 2, 1) := zk_28 (by decide +kernel)
theorem dX12_bind_67 : decode cX12_bind 67 = .ok (.iload 4, 2) := zk_21 (by decide +kernel)
theorem dX12_bind_69 : decode cX12_bind 69 = .ok (.iload_n 3, 1) := zk_29 (by decide +kernel)
theorem dX12_bind_70 : decode cX12_bind 70 = .ok (.invokevirtual 343, 3) := zk_182 (by decide +kernel)
theorem dX12_bind_73 : decode cX12_bind 73 = .ok (.goto (-73), 3) := zk_167 (by decide +kernel)
theorem dX12_bind_50 : decode cX12_bind 50 = .ok (.iconst (-1), 1) := zk_2 (by decide +kernel)
theorem dX12_bind_51 : decode cX12_bind 51 = .ok (.goto 7, 3) := zk_167 (by decide +kernel)
set_option maxHeartbeats 4000000 in
set_option maxRecDepth 100000 in
theorem gq_bind (l : Launch) (dC : Nat → ClassId) (dI : Nat → Nat → Nat) (mq : Nat) (g : Nat → Int32) (gl : Nat → Int64) (rf : Nat → Nat) (ck : Nat → ClassId) (f_knot : Nat → Int32) (f_part : Nat → Int32) (f_other : Nat → Int32) (f_wait : Nat → Int32) (f_held : Nat → Int32) (a0 : Int32) (sz : Nat) (hlst : ¬ a0 < 1) (hk6 : (g 23) ≤ 64) (hwt7 : (g 47) ≤ 72) (hk0 : ¬ (g 23) < 0) (hLI : ((g 23) + ((g 47) - (g 49))) = (g 50)) (hct0 : ¬ (g 50) < 0) (hct6 : (g 50) ≤ 64) (hbr8 : (g 49) ≤ 8) (hWx : xW f_wait (g 47) (g 49) (g 48) 0) (hH : xH f_held (g 48)) (hKu : xKU f_knot f_part f_other) : Met l yX12_bind (Cond.code yX12_bind cX12_bind 5 none :: wsL_law) ({ frames := 1, cells := 0, slots := 0, locals := 23 }) (va_Pc [.ref mq, .int a0] (fun U => U.heap.size = sz ∧ va_P (dC, dI) vwCl [(mq, .inr (12, mF g gl rf)), (eA0 (rf 41) (ck 41) 128 f_knot), (eA0 (rf 42) (ck 42) 128 f_part), (eA0 (rf 43) (ck 43) 128 f_other), (eA0 (rf 45) (ck 45) 96 f_wait), (eA0 (rf 46) (ck 46) 96 f_held)] U.heap ∧ va_K (dC, dI) vwCl [((ck 41), .int), ((ck 42), .int), ((ck 43), .int), ((ck 45), .int), ((ck 46), .int)] U ∧ va_D (fun _ => True) [(mq, .inr (12, mF g gl rf)), (eA0 (rf 41) (ck 41) 128 f_knot), (eA0 (rf 42) (ck 42) 128 f_part), (eA0 (rf 43) (ck 43) 128 f_other), (eA0 (rf 45) (ck 45) 96 f_wait), (eA0 (rf 46) (ck 46) 96 f_held)])) (va_Qv (fun (u : (Int32) × (Int32) × (Int32) × (Nat → Int32) × (Nat → Int32) × (Nat → Int32) × (Nat → Int32)) => (u = fq_bind f_knot f_part f_other f_wait f_held a0 (g 23) (g 47) (g 48)) ∧ (u.1 ≤ 64) ∧ (u.2.1 ≤ 72) ∧ ((g 23) ≤ u.1) ∧ (¬ u.1 < 0) ∧ ((u.1 + (u.2.1 - (g 49))) = (g 50)) ∧ (xW f_wait u.2.1 (g 49) u.2.2.1 0) ∧ (xH u.2.2.2.2.2.2 u.2.2.1) ∧ (xKU u.2.2.2.1 u.2.2.2.2.1 u.2.2.2.2.2.1) ∧ (u.2.1 = 0 ∨ xTp f_wait u.2.1 a0)) (fun (u : (Int32) × (Int32) × (Int32) × (Nat → Int32) × (Nat → Int32) × (Nat → Int32) × (Nat → Int32)) t => va_P (dC, dI) vwCl [(mq, .inr (12, mF (upd (upd (upd g 23 u.1) 47 u.2.1) 48 u.2.2.1) gl rf)), (eA0 (rf 41) (ck 41) 128 u.2.2.2.1), (eA0 (rf 42) (ck 42) 128 u.2.2.2.2.1), (eA0 (rf 43) (ck 43) 128 u.2.2.2.2.2.1), (eA0 (rf 45) (ck 45) 96 f_wait), (eA0 (rf 46) (ck 46) 96 u.2.2.2.2.2.2)] t.heap ∧ va_K (dC, dI) vwCl [] t ∧ va_D (va_A [(mq, .inr (12, mF g gl rf)), (eA0 (rf 41) (ck 41) 128 f_knot), (eA0 (rf 42) (ck 42) 128 f_part), (eA0 (rf 43) (ck 43) 128 f_other), (eA0 (rf 45) (ck 45) 96 f_wait), (eA0 (rf 46) (ck 46) 96 f_held)] sz) [(mq, .inr (12, mF (upd (upd (upd g 23 u.1) 47 u.2.1) 48 u.2.2.1) gl rf)), (eA0 (rf 41) (ck 41) 128 u.2.2.2.1), (eA0 (rf 42) (ck 42) 128 u.2.2.2.2.1), (eA0 (rf 43) (ck 43) 128 u.2.2.2.2.2.1), (eA0 (rf 45) (ck 45) 96 f_wait), (eA0 (rf 46) (ck 46) 96 u.2.2.2.2.2.2)]) (va_A [(mq, .inr (12, mF g gl rf)), (eA0 (rf 41) (ck 41) 128 f_knot), (eA0 (rf 42) (ck 42) 128 f_part), (eA0 (rf 43) (ck 43) 128 f_other), (eA0 (rf 45) (ck 45) 96 f_wait), (eA0 (rf 46) (ck 46) 96 f_held)] sz)) 0 0 (va_A [(mq, .inr (12, mF g gl rf)), (eA0 (rf 41) (ck 41) 128 f_knot), (eA0 (rf 42) (ck 42) 128 f_part), (eA0 (rf 43) (ck 43) 128 f_other), (eA0 (rf 45) (ck 45) 96 f_wait), (eA0 (rf 46) (ck 46) 96 f_held)] sz) := by
  refine Met.ofW (cc := cX12_bind) (maxL := 5) (ret := none) (by decide) rfl ?_
  intro p e s m args below meth c s₁ B hml hv
  obtain ⟨rfl, hsz, hP, hK, hD0⟩ := hv
  have hx := B.exec
  have hb := B.bytes
  have hr := B.returns
  have hts := atoms_spec (ws := Cond.code yX12_bind cX12_bind 5 none :: wsL_law) B.pre
  have htw : ∀ w ∈ wsL_law, w.before _ s = true := fun w h => hts w (List.mem_cons_of_mem _ h)
  have hown : s.vm.findClass RX12 = some m.cls := findClass_of_methodNamed B.named
  have hlocks := B.notSynchronized
  subst hsz
  have hD := hD0.self (sz := s.heap.size)
  generalize hAe : va_A [(mq, .inr (12, mF g gl rf)), (eA0 (rf 41) (ck 41) 128 f_knot), (eA0 (rf 42) (ck 42) 128 f_part), (eA0 (rf 43) (ck 43) 128 f_other), (eA0 (rf 45) (ck 45) 96 f_wait), (eA0 (rf 46) (ck 46) 96 f_held)] s.heap.size = A at hD ⊢
  have hA : ∀ q : Nat, s.heap.size ≤ q → A q := fun q h => by rw [← hAe]; exact Or.inr h
  obtain ⟨H, rH⟩ : ∃ z : Heap, z = s.heap := ⟨_, rfl⟩
  have hS : va_S A s.heap H [] := by rw [rH]; exact va_S.rf
  have hP : va_P (dC, dI) vwCl [(mq, .inr (12, mF g gl rf)), (eA0 (rf 41) (ck 41) 128 f_knot), (eA0 (rf 42) (ck 42) 128 f_part), (eA0 (rf 43) (ck 43) 128 f_other), (eA0 (rf 45) (ck 45) 96 f_wait), (eA0 (rf 46) (ck 46) 96 f_held)] H := by rw [rH]; exact hP
  rw [← rH]
  have hl := lv_entry ([.ref mq, .int a0]) (n := 5) (Nat.le_of_ble_eq_true rfl)
  rw [lg_entry_eq]
  generalize (lg_sl ([.ref mq, .int a0]) ++ List.replicate (5 - (lg_sl ([.ref mq, .int a0])).length) Slot.unset).toArray = ls at hl ⊢
  have hl : lv_has ls 5 [(0, .ref mq), (1, .int a0)] := hl
  have hwl_0 := xW_lin hWx
  have hwh_0 := xW_h hWx (gq_bind_s0 (y0 := g 47) hwt7) (by decide) (by decide)
  have hw0_0 := hWx.1
  have hloop_1 : ∀ (n : Nat) (m_knotsRead_d : Int32) (m_waits_d : Int32) (m_helds_d : Int32) (f_knot_d : Nat → Int32) (f_part_d : Nat → Int32) (f_other_d : Nat → Int32) (f_held_d : Nat → Int32) (hk6_d : m_knotsRead_d ≤ 64) (hw7_d : m_waits_d ≤ 72) (hk0_d : ¬ m_knotsRead_d < 0) (hkm_d : (g 23) ≤ m_knotsRead_d) (hLI_d : (m_knotsRead_d + (m_waits_d - (g 49))) = (g 50)) (hW_d : xW f_wait m_waits_d (g 49) m_helds_d 0) (hH_d : xH f_held_d m_helds_d) (hK_d : xKU f_knot_d f_part_d f_other_d) (hf_d : m_waits_d.toInt ≤ (n : Int)) (hI_d : fq_bind f_knot f_part f_other f_wait f_held a0 (g 23) (g 47) (g 48) = fq_bind_d f_wait a0 n m_knotsRead_d m_waits_d m_helds_d f_knot_d f_part_d f_other_d f_held_d) (H : Heap) (locs : List Loc) (ls : Array Slot) (hP : va_P (dC, dI) vwCl [(mq, .inr (12, mF (upd (upd (upd g 23 m_knotsRead_d) 47 m_waits_d) 48 m_helds_d) gl rf)), (eA0 (rf 41) (ck 41) 128 f_knot_d), (eA0 (rf 42) (ck 42) 128 f_part_d), (eA0 (rf 43) (ck 43) 128 f_other_d), (eA0 (rf 45) (ck 45) 96 f_wait), (eA0 (rf 46) (ck 46) 96 f_held_d)] H) (hD : va_D A [(mq, .inr (12, mF (upd (upd (upd g 23 m_knotsRead_d) 47 m_waits_d) 48 m_helds_d) gl rf)), (eA0 (rf 41) (ck 41) 128 f_knot_d), (eA0 (rf 42) (ck 42) 128 f_part_d), (eA0 (rf 43) (ck 43) 128 f_other_d), (eA0 (rf 45) (ck 45) 96 f_wait), (eA0 (rf 46) (ck 46) 96 f_held_d)]) (hS : va_S A s.heap H locs) (hl : lv_has ls 5 [(0, .ref mq), (1, .int a0)]), W p l e (headSpec (Cond.code yX12_bind cX12_bind 5 none :: wsL_law) ({ frames := 1, cells := 0, slots := 0, locals := 23 })).room s m ([.ref mq, .int a0] : List Value).toArray below meth c H locs 0 0 (MQ below (va_Qv (fun (u : (Int32) × (Int32) × (Int32) × (Nat → Int32) × (Nat → Int32) × (Nat → Int32) × (Nat → Int32)) => (u = fq_bind f_knot f_part f_other f_wait f_held a0 (g 23) (g 47) (g 48)) ∧ (u.1 ≤ 64) ∧ (u.2.1 ≤ 72) ∧ ((g 23) ≤ u.1) ∧ (¬ u.1 < 0) ∧ ((u.1 + (u.2.1 - (g 49))) = (g 50)) ∧ (xW f_wait u.2.1 (g 49) u.2.2.1 0) ∧ (xH u.2.2.2.2.2.2 u.2.2.1) ∧ (xKU u.2.2.2.1 u.2.2.2.2.1 u.2.2.2.2.2.1) ∧ (u.2.1 = 0 ∨ xTp f_wait u.2.1 a0)) (fun (u : (Int32) × (Int32) × (Int32) × (Nat → Int32) × (Nat → Int32) × (Nat → Int32) × (Nat → Int32)) t => va_P (dC, dI) vwCl [(mq, .inr (12, mF (upd (upd (upd g 23 u.1) 47 u.2.1) 48 u.2.2.1) gl rf)), (eA0 (rf 41) (ck 41) 128 u.2.2.2.1), (eA0 (rf 42) (ck 42) 128 u.2.2.2.2.1), (eA0 (rf 43) (ck 43) 128 u.2.2.2.2.2.1), (eA0 (rf 45) (ck 45) 96 f_wait), (eA0 (rf 46) (ck 46) 96 u.2.2.2.2.2.2)] t.heap ∧ va_K (dC, dI) vwCl [] t ∧ va_D A [(mq, .inr (12, mF (upd (upd (upd g 23 u.1) 47 u.2.1) 48 u.2.2.1) gl rf)), (eA0 (rf 41) (ck 41) 128 u.2.2.2.1), (eA0 (rf 42) (ck 42) 128 u.2.2.2.2.1), (eA0 (rf 43) (ck 43) 128 u.2.2.2.2.2.1), (eA0 (rf 45) (ck 45) 96 f_wait), (eA0 (rf 46) (ck 46) 96 u.2.2.2.2.2.2)]) A) ([.ref mq, .int a0] : List Value).toArray s 0 0 A) (F0 m 0 ls []) := by
    intro n
    induction n with
    | zero =>
      intro m_knotsRead_d m_waits_d m_helds_d f_knot_d f_part_d f_other_d f_held_d hk6_d hw7_d hk0_d hkm_d hLI_d hW_d hH_d hK_d hf_d hI_d H locs ls hP hD hS hl
      refine lv_aload_n hx hb dX12_bind_0 rfl (lv_at hl 0 rfl) ?_
      refine va_get (D := (dC, dI)) (ci := 12) (v := .int m_waits_d) (C := RX12) (T := TX12) (N := 76) hx hb htw inlX12 hown hK hP 0 rfl rfl 47 (by decide) (htw _ (ck_27 _ (List.mem_of_getElem? (i := 16) rfl))) (fun _ h9 => h9) rfl dX12_bind_1 ?_
      refine lv_if_le (tgt := 76) hx hb dX12_bind_4 (by decide) (fun c_2 => ?_) (fun c_2 => absurd c_2 (fun h => h (Int32.le_iff_toInt_le.mpr (by have e0 : (0 : Int32).toInt = 0 := rfl; omega))))
      refine W.widen (k := 0) (n := 0) (by omega) (by omega) ?_
      obtain ⟨hP9, hD9⟩ := zsub2 (ws' := [(mq, .inr (12, mF (upd (upd (upd g 23 m_knotsRead_d) 47 m_waits_d) 48 m_helds_d) gl rf)), (eA0 (rf 41) (ck 41) 128 f_knot_d), (eA0 (rf 42) (ck 42) 128 f_part_d), (eA0 (rf 43) (ck 43) 128 f_other_d), (eA0 (rf 45) (ck 45) 96 f_wait), (eA0 (rf 46) (ck 46) 96 f_held_d)]) hP hD [0, 1, 2, 3, 4, 5] (by decide) rfl
      have hK9 := hK.sub (tys' := []) [] rfl
      exact W.vret hx hb hr (fun t ht hW => ⟨⟨(m_knotsRead_d, m_waits_d, m_helds_d, f_knot_d, f_part_d, f_other_d, f_held_d), rfl, ⟨(Eq.symm (hI_d.trans (by rw [fq_bind_d]; try rfl))), hk6_d, hw7_d, hkm_d, hk0_d, hLI_d, hW_d, hH_d, hK_d, (Or.inl (gq_bind_s1 (y0 := m_waits_d) hW_d.1 c_2))⟩, by rw [ht]; exact hP9, va_K.moved hW.alike hK9, hD9⟩, hS.F ht⟩) hS.2.2 dX12_bind_76
    | succ n ih =>
      intro m_knotsRead_d m_waits_d m_helds_d f_knot_d f_part_d f_other_d f_held_d hk6_d hw7_d hk0_d hkm_d hLI_d hW_d hH_d hK_d hf_d hI_d H locs ls hP hD hS hl
      refine lv_aload_n hx hb dX12_bind_0 rfl (lv_at hl 0 rfl) ?_
      refine va_get (D := (dC, dI)) (ci := 12) (v := .int m_waits_d) (C := RX12) (T := TX12) (N := 76) hx hb htw inlX12 hown hK hP 0 rfl rfl 47 (by decide) (htw _ (ck_27 _ (List.mem_of_getElem? (i := 16) rfl))) (fun _ h9 => h9) rfl dX12_bind_1 ?_
      refine lv_if_le (tgt := 76) hx hb dX12_bind_4 (by decide) (fun c_3 => ?_) (fun c_3 => ?_)
      · refine W.widen (k := 0) (n := 0) (by omega) (by omega) ?_
        obtain ⟨hP9, hD9⟩ := zsub2 (ws' := [(mq, .inr (12, mF (upd (upd (upd g 23 m_knotsRead_d) 47 m_waits_d) 48 m_helds_d) gl rf)), (eA0 (rf 41) (ck 41) 128 f_knot_d), (eA0 (rf 42) (ck 42) 128 f_part_d), (eA0 (rf 43) (ck 43) 128 f_other_d), (eA0 (rf 45) (ck 45) 96 f_wait), (eA0 (rf 46) (ck 46) 96 f_held_d)]) hP hD [0, 1, 2, 3, 4, 5] (by decide) rfl
        have hK9 := hK.sub (tys' := []) [] rfl
        exact W.vret hx hb hr (fun t ht hW => ⟨⟨(m_knotsRead_d, m_waits_d, m_helds_d, f_knot_d, f_part_d, f_other_d, f_held_d), rfl, ⟨(Eq.symm (hI_d.trans (by rw [fq_bind_d]; (try rw [if_pos c_3]); try rfl))), hk6_d, hw7_d, hkm_d, hk0_d, hLI_d, hW_d, hH_d, hK_d, (Or.inl (gq_bind_s2 (y0 := m_waits_d) hW_d.1 c_3))⟩, by rw [ht]; exact hP9, va_K.moved hW.alike hK9, hD9⟩, hS.F ht⟩) hS.2.2 dX12_bind_76
      · refine lv_aload_n hx hb dX12_bind_7 rfl (lv_at hl 0 rfl) ?_
        refine va_get (D := (dC, dI)) (ci := 12) (v := .ref (rf 45)) (C := RX12) (T := TX12) (N := 76) hx hb htw inlX12 hown hK hP 0 rfl rfl 45 (by decide) (htw _ (ck_10 _ (List.mem_of_getElem? (i := 0) rfl))) (fun _ h9 => h9) rfl dX12_bind_8 ?_
        refine lv_aload_n hx hb dX12_bind_11 rfl (lv_at hl 0 rfl) ?_
        refine va_get (D := (dC, dI)) (ci := 12) (v := .int m_waits_d) (C := RX12) (T := TX12) (N := 76) hx hb htw inlX12 hown hK hP 0 rfl rfl 47 (by decide) (htw _ (ck_27 _ (List.mem_of_getElem? (i := 16) rfl))) (fun _ h9 => h9) rfl dX12_bind_12 ?_
        refine lv_iconst (v := 1) hx hb dX12_bind_15 (by decide) ?_
        refine lv_isub hx hb dX12_bind_16 ?_
        refine va_iald hx hb hK hP 4 3 rfl rfl (xg_inr (N := 96) rfl (gq_bind_s3 (y0 := m_waits_d) c_3 hw7_d).1 (gq_bind_s3 (y0 := m_waits_d) c_3 hw7_d).2) dX12_bind_17 ?_
        have hPc := hP.sub (ws' := []) [] rfl
        have hKc := hK.sub (tys' := []) [] rfl
        refine vp_callSi (W.runS (As := [.int (f_wait ((m_waits_d - 1).toNatClampNeg))]) (rest := []) ⟨hx, hb, hml, hown, htw⟩ (gq_rank l dC dI (f_wait ((m_waits_d - 1).toNatClampNeg))) (va_cwS 1 htw (xg_S (ck_29 _ (List.mem_of_getElem? (i := 1) rfl)) (ck_29 _ (List.mem_of_getElem? (i := 2) rfl)) (ck_1 _ (List.mem_of_getElem? (i := 5) rfl)) (ck_29 _ (List.mem_of_getElem? (i := 3) rfl))) rfl rfl rfl (by exact ⟨hdc_14.1, hdc_14.2, hdd_2⟩) ⟨Nat.le_of_ble_eq_true rfl, Nat.le_of_ble_eq_true rfl⟩) ⟨fun a U g mk q => by obtain ⟨q0, qP, qK⟩ := q; exact ⟨q0, qP, va_K.moved (u := U) (U := U.calling g mk a) (Vm.Alike.refl U.vm) qK⟩, fun U hU hW => ⟨rfl, by rw [hU]; exact hPc, va_K.moved hW.alike hKc⟩⟩ rfl rfl hl.1 rfl (lv_room (Nat.le_of_ble_eq_true rfl)) dX12_bind_18 ⟨Nat.le_of_ble_eq_true rfl, Nat.le_of_ble_eq_true rfl⟩) (fun r_4 hw => ?_)
        try dsimp only at hw
        have hq_r_4 : r_4 = (fq_rank (f_wait ((m_waits_d - 1).toNatClampNeg))) := hw
        refine lv_iload_n hx hb dX12_bind_21 rfl (lv_at hl 1 rfl) ?_
        refine lv_icmp_lt (tgt := 76) hx hb dX12_bind_22 (by decide) (fun c_5 => ?_) (fun c_5 => ?_)
        · refine W.widen (k := 0) (n := 0) (by omega) (by omega) ?_
          obtain ⟨hP9, hD9⟩ := zsub2 (ws' := [(mq, .inr (12, mF (upd (upd (upd g 23 m_knotsRead_d) 47 m_waits_d) 48 m_helds_d) gl rf)), (eA0 (rf 41) (ck 41) 128 f_knot_d), (eA0 (rf 42) (ck 42) 128 f_part_d), (eA0 (rf 43) (ck 43) 128 f_other_d), (eA0 (rf 45) (ck 45) 96 f_wait), (eA0 (rf 46) (ck 46) 96 f_held_d)]) hP hD [0, 1, 2, 3, 4, 5] (by decide) rfl
          have hK9 := hK.sub (tys' := []) [] rfl
          exact W.vret hx hb hr (fun t ht hW => ⟨⟨(m_knotsRead_d, m_waits_d, m_helds_d, f_knot_d, f_part_d, f_other_d, f_held_d), rfl, ⟨(Eq.symm (hI_d.trans (by rw [fq_bind_d]; (try rw [if_neg c_3]); (try rw [← hq_r_4]); (try rw [xL_eq]); (try rw [if_pos c_5]); try rfl))), hk6_d, hw7_d, hkm_d, hk0_d, hLI_d, hW_d, hH_d, hK_d, (Or.inr (by show fq_rank _ < _; rw [← hq_r_4]; exact c_5))⟩, by rw [ht]; exact hP9, va_K.moved hW.alike hK9, hD9⟩, hS.F ht⟩) hS.2.2 dX12_bind_76
        · have hwl_b := xW_lin hW_d
          have hw0_b := hW_d.1
          have hwh_b := xW_h hW_d (gq_bind_s4 (y0 := m_waits_d) hw7_d) (by decide) (by decide)
          have hrp := xr_pos hq_r_4 (gq_bind_s5 (y0 := r_4) (y1 := a0) c_5 hlst)
          have hh1 := xW_h1 hW_d
          refine lv_aload_n hx hb dX12_bind_25 rfl (lv_at hl 0 rfl) ?_
          refine lv_dup hx hb dX12_bind_26 rfl ?_
          refine va_get (D := (dC, dI)) (ci := 12) (v := .int m_waits_d) (C := RX12) (T := TX12) (N := 76) hx hb htw inlX12 hown hK hP 0 rfl rfl 47 (by decide) (htw _ (ck_27 _ (List.mem_of_getElem? (i := 16) rfl))) (fun _ h9 => h9) rfl dX12_bind_27 ?_
          refine lv_iconst (v := 1) hx hb dX12_bind_30 (by decide) ?_
          refine lv_isub hx hb dX12_bind_31 ?_
          refine va_put (D := (dC, dI)) (ci := 12) (v := .int (m_waits_d - 1)) (ty := tyX12 47) (C := RX12) (T := TX12) (N := 76) hx hb htw inlX12 tyX12 tyX12_ok nmX12 hown hK hP hD hS 0 rfl rfl 47 (by decide) (htw _ (ck_27 _ (List.mem_of_getElem? (i := 16) rfl))) (fun _ h9 => h9) rfl (tyX12_ok 47 (by decide)) rfl rfl (Nat.le_of_ble_eq_true rfl) dX12_bind_32 (fun H locs hP hD hS => ?_)
          have hP : va_P (dC, dI) vwCl [(mq, .inr (12, mF (upd (upd (upd g 23 m_knotsRead_d) 47 (m_waits_d - 1)) 48 m_helds_d) gl rf)), (eA0 (rf 41) (ck 41) 128 f_knot_d), (eA0 (rf 42) (ck 42) 128 f_part_d), (eA0 (rf 43) (ck 43) 128 f_other_d), (eA0 (rf 45) (ck 45) 96 f_wait), (eA0 (rf 46) (ck 46) 96 f_held_d)] H := hP
          have hD : va_D A [(mq, .inr (12, mF (upd (upd (upd g 23 m_knotsRead_d) 47 (m_waits_d - 1)) 48 m_helds_d) gl rf)), (eA0 (rf 41) (ck 41) 128 f_knot_d), (eA0 (rf 42) (ck 42) 128 f_part_d), (eA0 (rf 43) (ck 43) 128 f_other_d), (eA0 (rf 45) (ck 45) 96 f_wait), (eA0 (rf 46) (ck 46) 96 f_held_d)] := hD
          refine lv_aload_n hx hb dX12_bind_35 rfl (lv_at hl 0 rfl) ?_
          refine va_get (D := (dC, dI)) (ci := 12) (v := .ref (rf 45)) (C := RX12) (T := TX12) (N := 76) hx hb htw inlX12 hown hK hP 0 rfl rfl 45 (by decide) (htw _ (ck_10 _ (List.mem_of_getElem? (i := 0) rfl))) (fun _ h9 => h9) rfl dX12_bind_36 ?_
          refine lv_aload_n hx hb dX12_bind_39 rfl (lv_at hl 0 rfl) ?_
          refine va_get (D := (dC, dI)) (ci := 12) (v := .int (m_waits_d - 1)) (C := RX12) (T := TX12) (N := 76) hx hb htw inlX12 hown hK hP 0 rfl rfl 47 (by decide) (htw _ (ck_27 _ (List.mem_of_getElem? (i := 16) rfl))) (fun _ h9 => h9) rfl dX12_bind_40 ?_
          refine va_iald hx hb hK hP 4 3 rfl rfl (xg_inr (N := 96) rfl (gq_bind_s6 (y0 := m_waits_d) c_3 hw7_d hw0_b).1 (gq_bind_s6 (y0 := m_waits_d) c_3 hw7_d hw0_b).2) dX12_bind_43 ?_
          refine lv_istore_n (lv' := [(2, .int (f_wait ((m_waits_d - 1).toNatClampNeg))), (0, .ref mq), (1, .int a0)]) hx hb dX12_bind_44 rfl hl (by decide) rfl (fun ls hl => ?_)
          refine lv_iload_n hx hb dX12_bind_45 rfl (lv_at hl 0 rfl) ?_
          refine lv_iconst (v := 2) hx hb dX12_bind_46 (by decide) ?_
          refine lv_icmp_ne (tgt := 54) hx hb dX12_bind_47 (by decide) (fun c_6 => ?_) (fun c_6 => ?_)
          · have hk3 := hrp.resolve_left c_6
            have hpk := xW_popk hW_d (gq_bind_s7 (y0 := m_waits_d) c_3) hk3
            have hlp := xW_lin hpk.2
            refine lv_aload_n hx hb dX12_bind_54 rfl (lv_at hl 1 rfl) ?_
            obtain ⟨hPc, hDc, hFc, hCc⟩ := zsub3 (ws' := [(mq, .inr (12, mF (upd (upd (upd g 23 m_knotsRead_d) 47 (m_waits_d - 1)) 48 m_helds_d) gl rf)), (eA0 (rf 46) (ck 46) 96 f_held_d)]) hP hD hS hA [0, 5] (by decide) rfl
            have hKc := hK.sub (tys' := [((ck 46), .int)]) [4] rfl
            refine va_calli (va_runV (As := []) (rest := []) ⟨hx, hb, hml, hown, htw⟩ (gy_dropHeld l dC dI mq (upd (upd (upd g 23 m_knotsRead_d) 47 (m_waits_d - 1)) 48 m_helds_d) gl rf ck f_held_d H.size hh1 (gq_bind_s8 (y0 := m_helds_d) (y1 := m_waits_d) hw7_d hwh_b.2)) (cwV 0 htw (xg_V (ck_29 _ (List.mem_of_getElem? (i := 4) rfl)) (ck_29 _ (List.mem_of_getElem? (i := 5) rfl)) (ck_29 _ (List.mem_of_getElem? (i := 6) rfl)) (ck_1 _ (List.mem_of_getElem? (i := 5) rfl)) (ck_29 _ (List.mem_of_getElem? (i := 7) rfl))) rfl rfl rfl (by exact ⟨rfl, hdc_14.1, hdc_14.2, hdd_45⟩) ⟨Nat.le_of_ble_eq_true rfl, Nat.le_of_ble_eq_true rfl⟩) ⟨fun a U g mk q => by obtain ⟨q0, q1, qP, qK, qD⟩ := q; exact ⟨q0, q1, qP, va_K.moved (u := U) (U := U.calling g mk a) (Vm.Alike.refl U.vm) qK, qD⟩, va_recv hKc hPc (ci := 12) (q0 := 0) rfl rfl, fun U hU hW => ⟨rfl, by rw [hU], by rw [hU]; exact hPc, va_K.moved hW.alike hKc, hDc.weaken (fun _ _ _ _ => trivial)⟩⟩ rfl rfl hl.1 rfl (lv_room (Nat.le_of_ble_eq_true rfl)) dX12_bind_55 ⟨Nat.le_of_ble_eq_true rfl, Nat.le_of_ble_eq_true rfl⟩) hS (fun q _ h => hFc q h) hFc (fun r_7 u_8 t H1 locs ht hvm hw hB hz1 hk1 hS => ?_)
            try dsimp only at hw
            obtain ⟨hP1, hK1, hD1⟩ := hB
            rw [ht] at hP1
            have hK1 := va_K.moved hvm.symm hK1
            have hK1 : va_K (dC, dI) vwCl [] s := hK1
            obtain ⟨hP, hD⟩ := va_join (wr := [(eA0 (rf 41) (ck 41) 128 f_knot_d), (eA0 (rf 42) (ck 42) 128 f_part_d), (eA0 (rf 43) (ck 43) 128 f_other_d), (eA0 (rf 45) (ck 45) 96 f_wait)]) (w1 := [(mq, .inr (12, mF (upd (upd (upd g 23 m_knotsRead_d) 47 (m_waits_d - 1)) 48 u_8) gl rf)), (eA0 (rf 46) (ck 46) 96 f_held_d)]) hP hD [0, 5] [1, 2, 3, 4] hCc rfl (by decide) (by decide) hk1 hFc hP1 hD1
            generalize H1 = H at hP hS ⊢
            have hP : va_P (dC, dI) vwCl [(eA0 (rf 41) (ck 41) 128 f_knot_d), (eA0 (rf 42) (ck 42) 128 f_part_d), (eA0 (rf 43) (ck 43) 128 f_other_d), (eA0 (rf 45) (ck 45) 96 f_wait), (mq, .inr (12, mF (upd (upd (upd g 23 m_knotsRead_d) 47 (m_waits_d - 1)) 48 u_8) gl rf)), (eA0 (rf 46) (ck 46) 96 f_held_d)] H := hP
            have hD : va_D A [(eA0 (rf 41) (ck 41) 128 f_knot_d), (eA0 (rf 42) (ck 42) 128 f_part_d), (eA0 (rf 43) (ck 43) 128 f_other_d), (eA0 (rf 45) (ck 45) 96 f_wait), (mq, .inr (12, mF (upd (upd (upd g 23 m_knotsRead_d) 47 (m_waits_d - 1)) 48 u_8) gl rf)), (eA0 (rf 46) (ck 46) 96 f_held_d)] := hD
            refine W.widen (k := 0) (n := 0) (by omega) (by omega) ?_
            obtain ⟨hw, hp_10⟩ := hw
            obtain ⟨X_11, hX_11⟩ : ∃ X9 : Int32 × (Int32), X9 = (fq_dropHeld f_held_d m_helds_d) := ⟨_, rfl⟩
            have hq_r_7 : r_7 = X_11.1 := by rw [hX_11]; exact hw.1
            have hq_u_8 : u_8 = X_11.2 := by rw [hX_11]; exact hw.2
            refine lv_istore_n (lv' := [(3, .int r_7), (2, .int (f_wait ((m_waits_d - 1).toNatClampNeg))), (0, .ref mq), (1, .int a0)]) hx hb dX12_bind_58 rfl hl (by decide) rfl (fun ls hl => ?_)
            refine lv_aload_n hx hb dX12_bind_59 rfl (lv_at hl 2 rfl) ?_
            obtain ⟨hPc, hDc, hFc, hCc⟩ := zsub3 (ws' := [(mq, .inr (12, mF (upd (upd (upd g 23 m_knotsRead_d) 47 (m_waits_d - 1)) 48 u_8) gl rf)), (eA0 (rf 46) (ck 46) 96 f_held_d)]) hP hD hS hA [4, 5] (by decide) rfl
            have hKc := hK.sub (tys' := [((ck 46), .int)]) [4] rfl
            refine va_calli (va_runV (As := []) (rest := []) ⟨hx, hb, hml, hown, htw⟩ (gy_dropHeld l dC dI mq (upd (upd (upd g 23 m_knotsRead_d) 47 (m_waits_d - 1)) 48 u_8) gl rf ck f_held_d H.size (gq_bind_s9 (y0 := u_8) (y1 := m_helds_d) hpk.1 hp_10) (gq_bind_s10 (y0 := u_8) (y1 := m_waits_d) (y2 := m_helds_d) hw7_d hwh_b.2 hpk.1 hp_10)) (cwV 0 htw (xg_V (ck_29 _ (List.mem_of_getElem? (i := 4) rfl)) (ck_29 _ (List.mem_of_getElem? (i := 5) rfl)) (ck_29 _ (List.mem_of_getElem? (i := 6) rfl)) (ck_1 _ (List.mem_of_getElem? (i := 5) rfl)) (ck_29 _ (List.mem_of_getElem? (i := 7) rfl))) rfl rfl rfl (by exact ⟨rfl, hdc_14.1, hdc_14.2, hdd_45⟩) ⟨Nat.le_of_ble_eq_true rfl, Nat.le_of_ble_eq_true rfl⟩) ⟨fun a U g mk q => by obtain ⟨q0, q1, qP, qK, qD⟩ := q; exact ⟨q0, q1, qP, va_K.moved (u := U) (U := U.calling g mk a) (Vm.Alike.refl U.vm) qK, qD⟩, va_recv hKc hPc (ci := 12) (q0 := 0) rfl rfl, fun U hU hW => ⟨rfl, by rw [hU], by rw [hU]; exact hPc, va_K.moved hW.alike hKc, hDc.weaken (fun _ _ _ _ => trivial)⟩⟩ rfl rfl hl.1 rfl (lv_room (Nat.le_of_ble_eq_true rfl)) dX12_bind_60 ⟨Nat.le_of_ble_eq_true rfl, Nat.le_of_ble_eq_true rfl⟩) hS (fun q _ h => hFc q h) hFc (fun r_12 u_13 t H1 locs ht hvm hw hB hz1 hk1 hS => ?_)
            try dsimp only at hw
            obtain ⟨hP1, hK1, hD1⟩ := hB
            rw [ht] at hP1
            have hK1 := va_K.moved hvm.symm hK1
            have hK1 : va_K (dC, dI) vwCl [] s := hK1
            obtain ⟨hP, hD⟩ := va_join (wr := [(eA0 (rf 41) (ck 41) 128 f_knot_d), (eA0 (rf 42) (ck 42) 128 f_part_d), (eA0 (rf 43) (ck 43) 128 f_other_d), (eA0 (rf 45) (ck 45) 96 f_wait)]) (w1 := [(mq, .inr (12, mF (upd (upd (upd g 23 m_knotsRead_d) 47 (m_waits_d - 1)) 48 u_13) gl rf)), (eA0 (rf 46) (ck 46) 96 f_held_d)]) hP hD [4, 5] [0, 1, 2, 3] hCc rfl (by decide) (by decide) hk1 hFc hP1 hD1
            generalize H1 = H at hP hS ⊢
            have hP : va_P (dC, dI) vwCl [(eA0 (rf 41) (ck 41) 128 f_knot_d), (eA0 (rf 42) (ck 42) 128 f_part_d), (eA0 (rf 43) (ck 43) 128 f_other_d), (eA0 (rf 45) (ck 45) 96 f_wait), (mq, .inr (12, mF (upd (upd (upd g 23 m_knotsRead_d) 47 (m_waits_d - 1)) 48 u_13) gl rf)), (eA0 (rf 46) (ck 46) 96 f_held_d)] H := hP
            have hD : va_D A [(eA0 (rf 41) (ck 41) 128 f_knot_d), (eA0 (rf 42) (ck 42) 128 f_part_d), (eA0 (rf 43) (ck 43) 128 f_other_d), (eA0 (rf 45) (ck 45) 96 f_wait), (mq, .inr (12, mF (upd (upd (upd g 23 m_knotsRead_d) 47 (m_waits_d - 1)) 48 u_13) gl rf)), (eA0 (rf 46) (ck 46) 96 f_held_d)] := hD
            refine W.widen (k := 0) (n := 0) (by omega) (by omega) ?_
            obtain ⟨hw, hp_15⟩ := hw
            obtain ⟨X_16, hX_16⟩ : ∃ X9 : Int32 × (Int32), X9 = (fq_dropHeld f_held_d u_8) := ⟨_, rfl⟩
            have hq_r_12 : r_12 = X_16.1 := by rw [hX_16]; exact hw.1
            have hq_u_13 : u_13 = X_16.2 := by rw [hX_16]; exact hw.2
            refine lv_istore (lv' := [(4, .int r_12), (3, .int r_7), (2, .int (f_wait ((m_waits_d - 1).toNatClampNeg))), (0, .ref mq), (1, .int a0)]) hx hb dX12_bind_63 hl (by decide) rfl (fun ls hl => ?_)
            refine lv_aload_n hx hb dX12_bind_65 rfl (lv_at hl 3 rfl) ?_
            refine lv_iload_n hx hb dX12_bind_66 rfl (lv_at hl 2 rfl) ?_
            refine lv_iload hx hb dX12_bind_67 (lv_at hl 0 rfl) ?_
            refine lv_iload_n hx hb dX12_bind_69 rfl (lv_at hl 1 rfl) ?_
            obtain ⟨hPc, hDc, hFc, hCc⟩ := zsub3 (ws' := [(mq, .inr (12, mF (upd (upd (upd g 23 m_knotsRead_d) 47 (m_waits_d - 1)) 48 u_13) gl rf)), (eA0 (rf 41) (ck 41) 128 f_knot_d), (eA0 (rf 42) (ck 42) 128 f_part_d), (eA0 (rf 43) (ck 43) 128 f_other_d), (eA0 (rf 46) (ck 46) 96 f_held_d)]) hP hD hS hA [4, 0, 1, 2, 5] (by decide) rfl
            have hKc := hK.sub (tys' := [((ck 41), .int), ((ck 42), .int), ((ck 43), .int), ((ck 46), .int)]) [0, 1, 2, 4] rfl
            refine va_callv (va_runV (As := [.int (f_wait ((m_waits_d - 1).toNatClampNeg)), .int r_12, .int r_7]) (rest := []) ⟨hx, hb, hml, hown, htw⟩ (gq_grown l dC dI mq (upd (upd (upd g 23 m_knotsRead_d) 47 (m_waits_d - 1)) 48 u_13) gl rf ck f_knot_d f_part_d f_other_d f_held_d (f_wait ((m_waits_d - 1).toNatClampNeg)) r_12 r_7 H.size hk0_d (gq_bind_s11 (y0 := m_knotsRead_d) (y1 := m_waits_d) (y2 := g 49) (y3 := g 50) hk6_d hw7_d hLI_d hwl_b.1 hwl_b.2 hw0_b hlp.2 hct6) (gq_bind_s12 (y0 := u_13) (y1 := m_helds_d) (y2 := u_8) hpk.1 hp_10 hp_15) (gq_bind_s13 (y0 := u_13) (y1 := m_waits_d) (y2 := m_helds_d) (y3 := u_8) hw7_d hwh_b.2 hpk.1 hp_10 hp_15)) (cwV 3 htw (xg_V (ck_28 _ (List.mem_of_getElem? (i := 13) rfl)) (ck_28 _ (List.mem_of_getElem? (i := 14) rfl)) (ck_28 _ (List.mem_of_getElem? (i := 15) rfl)) (ck_1 _ (List.mem_of_getElem? (i := 5) rfl)) (ck_28 _ (List.mem_of_getElem? (i := 16) rfl))) rfl rfl rfl (by exact ⟨rfl, hdc_14.1, hdc_14.2, hdd_50⟩) ⟨Nat.le_of_ble_eq_true rfl, Nat.le_of_ble_eq_true rfl⟩) ⟨fun a U g mk q => by obtain ⟨q0, q1, qP, qK, qD⟩ := q; exact ⟨q0, q1, qP, va_K.moved (u := U) (U := U.calling g mk a) (Vm.Alike.refl U.vm) qK, qD⟩, va_recv hKc hPc (ci := 12) (q0 := 0) rfl rfl, fun U hU hW => ⟨rfl, by rw [hU], by rw [hU]; exact hPc, va_K.moved hW.alike hKc, hDc.weaken (fun _ _ _ _ => trivial)⟩⟩ rfl rfl hl.1 rfl (lv_room (Nat.le_of_ble_eq_true rfl)) dX12_bind_70 ⟨Nat.le_of_ble_eq_true rfl, Nat.le_of_ble_eq_true rfl⟩) hS (fun q _ h => hFc q h) hFc (fun u_18 t H1 locs ht hvm hw hB hz1 hk1 hS => ?_)
            try dsimp only at hw
            obtain ⟨hP1, hK1, hD1⟩ := hB
            rw [ht] at hP1
            have hK1 := va_K.moved hvm.symm hK1
            have hK1 : va_K (dC, dI) vwCl [] s := hK1
            obtain ⟨hP, hD⟩ := va_join (wr := [(eA0 (rf 45) (ck 45) 96 f_wait)]) (w1 := [(mq, .inr (12, mF (upd (upd (upd g 23 u_18.1) 47 (m_waits_d - 1)) 48 u_18.2.1) gl rf)), (eA0 (rf 41) (ck 41) 128 u_18.2.2.1), (eA0 (rf 42) (ck 42) 128 u_18.2.2.2.1), (eA0 (rf 43) (ck 43) 128 u_18.2.2.2.2.1), (eA0 (rf 46) (ck 46) 96 u_18.2.2.2.2.2)]) hP hD [4, 0, 1, 2, 5] [3] hCc rfl (by decide) (by decide) hk1 hFc hP1 hD1
            generalize H1 = H at hP hS ⊢
            have hP : va_P (dC, dI) vwCl [(eA0 (rf 45) (ck 45) 96 f_wait), (mq, .inr (12, mF (upd (upd (upd g 23 u_18.1) 47 (m_waits_d - 1)) 48 u_18.2.1) gl rf)), (eA0 (rf 41) (ck 41) 128 u_18.2.2.1), (eA0 (rf 42) (ck 42) 128 u_18.2.2.2.1), (eA0 (rf 43) (ck 43) 128 u_18.2.2.2.2.1), (eA0 (rf 46) (ck 46) 96 u_18.2.2.2.2.2)] H := hP
            have hD : va_D A [(eA0 (rf 45) (ck 45) 96 f_wait), (mq, .inr (12, mF (upd (upd (upd g 23 u_18.1) 47 (m_waits_d - 1)) 48 u_18.2.1) gl rf)), (eA0 (rf 41) (ck 41) 128 u_18.2.2.1), (eA0 (rf 42) (ck 42) 128 u_18.2.2.2.1), (eA0 (rf 43) (ck 43) 128 u_18.2.2.2.2.1), (eA0 (rf 46) (ck 46) 96 u_18.2.2.2.2.2)] := hD
            refine W.widen (k := 0) (n := 0) (by omega) (by omega) ?_
            have hq_u_18 : u_18 = (fq_grown f_knot_d f_part_d f_other_d f_held_d (f_wait ((m_waits_d - 1).toNatClampNeg)) r_12 r_7 m_knotsRead_d u_13) := hw
            obtain ⟨hW_n, hH_n, hK_n, hkr_n⟩ := xbind_k hW_d hH_d hK_d (gq_bind_s14 (y0 := m_waits_d) (y1 := m_helds_d) (y2 := m_knotsRead_d) (y3 := g 23) (y4 := g 49) (y5 := g 50) c_3 hk6_d hw7_d hkm_d hLI_d hwl_b.1 hwl_b.2 hw0_b hwh_b.2 hlp.2 hk0 hct6).1 (gq_bind_s14 (y0 := m_waits_d) (y1 := m_helds_d) (y2 := m_knotsRead_d) (y3 := g 23) (y4 := g 49) (y5 := g 50) c_3 hk6_d hw7_d hkm_d hLI_d hwl_b.1 hwl_b.2 hw0_b hwh_b.2 hlp.2 hk0 hct6).2.1 (gq_bind_s14 (y0 := m_waits_d) (y1 := m_helds_d) (y2 := m_knotsRead_d) (y3 := g 23) (y4 := g 49) (y5 := g 50) c_3 hk6_d hw7_d hkm_d hLI_d hwl_b.1 hwl_b.2 hw0_b hwh_b.2 hlp.2 hk0 hct6).2.2.1 (gq_bind_s14 (y0 := m_waits_d) (y1 := m_helds_d) (y2 := m_knotsRead_d) (y3 := g 23) (y4 := g 49) (y5 := g 50) c_3 hk6_d hw7_d hkm_d hLI_d hwl_b.1 hwl_b.2 hw0_b hwh_b.2 hlp.2 hk0 hct6).2.2.2 hk3 hX_11 hq_r_7 hq_u_8 hX_16 hq_r_12 hq_u_13 hq_u_18
            refine lv_goto (tgt := 0) hx hb dX12_bind_73 (by decide) ?_
            have hP := hP.sub (ws' := [(mq, .inr (12, mF (upd (upd (upd g 23 u_18.1) 47 (m_waits_d - 1)) 48 u_18.2.1) gl rf)), (eA0 (rf 41) (ck 41) 128 u_18.2.2.1), (eA0 (rf 42) (ck 42) 128 u_18.2.2.2.1), (eA0 (rf 43) (ck 43) 128 u_18.2.2.2.2.1), (eA0 (rf 45) (ck 45) 96 f_wait), (eA0 (rf 46) (ck 46) 96 u_18.2.2.2.2.2)]) [1, 2, 3, 4, 0, 5] rfl
            have hD := hD.sub (ws' := [(mq, .inr (12, mF (upd (upd (upd g 23 u_18.1) 47 (m_waits_d - 1)) 48 u_18.2.1) gl rf)), (eA0 (rf 41) (ck 41) 128 u_18.2.2.1), (eA0 (rf 42) (ck 42) 128 u_18.2.2.2.1), (eA0 (rf 43) (ck 43) 128 u_18.2.2.2.2.1), (eA0 (rf 45) (ck 45) 96 f_wait), (eA0 (rf 46) (ck 46) 96 u_18.2.2.2.2.2)]) [1, 2, 3, 4, 0, 5] (by decide) rfl
            exact ih u_18.1 (m_waits_d - 1) u_18.2.1 u_18.2.2.1 u_18.2.2.2.1 u_18.2.2.2.2.1 u_18.2.2.2.2.2 (gq_bind_s15 (y0 := u_18.1) (y1 := m_knotsRead_d) (y2 := m_waits_d) (y3 := g 49) (y4 := g 50) hk6_d hw7_d hLI_d hwl_b.1 hwl_b.2 hw0_b hlp.2 hkr_n hct6) (gq_bind_s16 (y0 := m_waits_d) hw7_d hw0_b) (gq_bind_s17 (y0 := u_18.1) (y1 := m_knotsRead_d) (y2 := g 23) hk6_d hkm_d hkr_n hk0) (gq_bind_s18 (y0 := g 23) (y1 := u_18.1) (y2 := m_knotsRead_d) hk6_d hkm_d hkr_n) (gq_bind_s19 (y0 := u_18.1) (y1 := m_waits_d) (y2 := g 49) (y3 := g 50) (y4 := m_knotsRead_d) (y5 := g 23) hk6_d hw7_d hkm_d hLI_d hwl_b.1 hwl_b.2 hw0_b hkr_n hk0) hW_n hH_n hK_n (by rw [xi_p (gq_bind_s20 (y0 := m_waits_d) c_3)]; omega) (hI_d.trans (by rw [fq_bind_d]; (try rw [if_neg c_3]); (try rw [← hq_r_4]); (try rw [xL_eq]); (try rw [if_neg c_5]); (try rw [if_neg c_6]); (try rw [← hX_11]); (try rw [xL_eq]); (try rw [← hq_r_7]); (try rw [← hq_u_8]); (try rw [← hX_16]); (try rw [xL_eq]); (try rw [← hq_r_12]); (try rw [← hq_u_13]); (try rw [← hq_u_18]); (try rw [xL_eq]); try rfl)) H locs ls hP hD hS (lv_sub hl [3, 4] rfl)
          · have hlp := xW_lin (xW_pop2 hW_d (gq_bind_s21 (y0 := m_waits_d) c_3) c_6)
            refine lv_iconst (v := (-1)) hx hb dX12_bind_50 (by decide) ?_
            refine lv_goto (tgt := 58) hx hb dX12_bind_51 (by decide) ?_
            refine lv_istore_n (lv' := [(3, .int (-1)), (2, .int (f_wait ((m_waits_d - 1).toNatClampNeg))), (0, .ref mq), (1, .int a0)]) hx hb dX12_bind_58 rfl hl (by decide) rfl (fun ls hl => ?_)
            refine lv_aload_n hx hb dX12_bind_59 rfl (lv_at hl 2 rfl) ?_
            obtain ⟨hPc, hDc, hFc, hCc⟩ := zsub3 (ws' := [(mq, .inr (12, mF (upd (upd (upd g 23 m_knotsRead_d) 47 (m_waits_d - 1)) 48 m_helds_d) gl rf)), (eA0 (rf 46) (ck 46) 96 f_held_d)]) hP hD hS hA [0, 5] (by decide) rfl
            have hKc := hK.sub (tys' := [((ck 46), .int)]) [4] rfl
            refine va_calli (va_runV (As := []) (rest := []) ⟨hx, hb, hml, hown, htw⟩ (gy_dropHeld l dC dI mq (upd (upd (upd g 23 m_knotsRead_d) 47 (m_waits_d - 1)) 48 m_helds_d) gl rf ck f_held_d H.size hh1 (gq_bind_s22 (y0 := m_helds_d) (y1 := m_waits_d) hw7_d hwh_b.2)) (cwV 0 htw (xg_V (ck_29 _ (List.mem_of_getElem? (i := 4) rfl)) (ck_29 _ (List.mem_of_getElem? (i := 5) rfl)) (ck_29 _ (List.mem_of_getElem? (i := 6) rfl)) (ck_1 _ (List.mem_of_getElem? (i := 5) rfl)) (ck_29 _ (List.mem_of_getElem? (i := 7) rfl))) rfl rfl rfl (by exact ⟨rfl, hdc_14.1, hdc_14.2, hdd_45⟩) ⟨Nat.le_of_ble_eq_true rfl, Nat.le_of_ble_eq_true rfl⟩) ⟨fun a U g mk q => by obtain ⟨q0, q1, qP, qK, qD⟩ := q; exact ⟨q0, q1, qP, va_K.moved (u := U) (U := U.calling g mk a) (Vm.Alike.refl U.vm) qK, qD⟩, va_recv hKc hPc (ci := 12) (q0 := 0) rfl rfl, fun U hU hW => ⟨rfl, by rw [hU], by rw [hU]; exact hPc, va_K.moved hW.alike hKc, hDc.weaken (fun _ _ _ _ => trivial)⟩⟩ rfl rfl hl.1 rfl (lv_room (Nat.le_of_ble_eq_true rfl)) dX12_bind_60 ⟨Nat.le_of_ble_eq_true rfl, Nat.le_of_ble_eq_true rfl⟩) hS (fun q _ h => hFc q h) hFc (fun r_25 u_26 t H1 locs ht hvm hw hB hz1 hk1 hS => ?_)
            try dsimp only at hw
            obtain ⟨hP1, hK1, hD1⟩ := hB
            rw [ht] at hP1
            have hK1 := va_K.moved hvm.symm hK1
            have hK1 : va_K (dC, dI) vwCl [] s := hK1
            obtain ⟨hP, hD⟩ := va_join (wr := [(eA0 (rf 41) (ck 41) 128 f_knot_d), (eA0 (rf 42) (ck 42) 128 f_part_d), (eA0 (rf 43) (ck 43) 128 f_other_d), (eA0 (rf 45) (ck 45) 96 f_wait)]) (w1 := [(mq, .inr (12, mF (upd (upd (upd g 23 m_knotsRead_d) 47 (m_waits_d - 1)) 48 u_26) gl rf)), (eA0 (rf 46) (ck 46) 96 f_held_d)]) hP hD [0, 5] [1, 2, 3, 4] hCc rfl (by decide) (by decide) hk1 hFc hP1 hD1
            generalize H1 = H at hP hS ⊢
            have hP : va_P (dC, dI) vwCl [(eA0 (rf 41) (ck 41) 128 f_knot_d), (eA0 (rf 42) (ck 42) 128 f_part_d), (eA0 (rf 43) (ck 43) 128 f_other_d), (eA0 (rf 45) (ck 45) 96 f_wait), (mq, .inr (12, mF (upd (upd (upd g 23 m_knotsRead_d) 47 (m_waits_d - 1)) 48 u_26) gl rf)), (eA0 (rf 46) (ck 46) 96 f_held_d)] H := hP
            have hD : va_D A [(eA0 (rf 41) (ck 41) 128 f_knot_d), (eA0 (rf 42) (ck 42) 128 f_part_d), (eA0 (rf 43) (ck 43) 128 f_other_d), (eA0 (rf 45) (ck 45) 96 f_wait), (mq, .inr (12, mF (upd (upd (upd g 23 m_knotsRead_d) 47 (m_waits_d - 1)) 48 u_26) gl rf)), (eA0 (rf 46) (ck 46) 96 f_held_d)] := hD
            refine W.widen (k := 0) (n := 0) (by omega) (by omega) ?_
            obtain ⟨hw, hp_28⟩ := hw
            obtain ⟨X_29, hX_29⟩ : ∃ X9 : Int32 × (Int32), X9 = (fq_dropHeld f_held_d m_helds_d) := ⟨_, rfl⟩
            have hq_r_25 : r_25 = X_29.1 := by rw [hX_29]; exact hw.1
            have hq_u_26 : u_26 = X_29.2 := by rw [hX_29]; exact hw.2
            refine lv_istore (lv' := [(4, .int r_25), (3, .int (-1)), (2, .int (f_wait ((m_waits_d - 1).toNatClampNeg))), (0, .ref mq), (1, .int a0)]) hx hb dX12_bind_63 hl (by decide) rfl (fun ls hl => ?_)
            refine lv_aload_n hx hb dX12_bind_65 rfl (lv_at hl 3 rfl) ?_
            refine lv_iload_n hx hb dX12_bind_66 rfl (lv_at hl 2 rfl) ?_
            refine lv_iload hx hb dX12_bind_67 (lv_at hl 0 rfl) ?_
            refine lv_iload_n hx hb dX12_bind_69 rfl (lv_at hl 1 rfl) ?_
            obtain ⟨hPc, hDc, hFc, hCc⟩ := zsub3 (ws' := [(mq, .inr (12, mF (upd (upd (upd g 23 m_knotsRead_d) 47 (m_waits_d - 1)) 48 u_26) gl rf)), (eA0 (rf 41) (ck 41) 128 f_knot_d), (eA0 (rf 42) (ck 42) 128 f_part_d), (eA0 (rf 43) (ck 43) 128 f_other_d), (eA0 (rf 46) (ck 46) 96 f_held_d)]) hP hD hS hA [4, 0, 1, 2, 5] (by decide) rfl
            have hKc := hK.sub (tys' := [((ck 41), .int), ((ck 42), .int), ((ck 43), .int), ((ck 46), .int)]) [0, 1, 2, 4] rfl
            refine va_callv (va_runV (As := [.int (f_wait ((m_waits_d - 1).toNatClampNeg)), .int r_25, .int (-1)]) (rest := []) ⟨hx, hb, hml, hown, htw⟩ (gq_grown l dC dI mq (upd (upd (upd g 23 m_knotsRead_d) 47 (m_waits_d - 1)) 48 u_26) gl rf ck f_knot_d f_part_d f_other_d f_held_d (f_wait ((m_waits_d - 1).toNatClampNeg)) r_25 (-1 : Int32) H.size hk0_d (gq_bind_s23 (y0 := m_knotsRead_d) (y1 := m_waits_d) (y2 := g 49) (y3 := g 50) hk6_d hw7_d hLI_d hwl_b.1 hwl_b.2 hw0_b hlp.2 hct6) (gq_bind_s24 (y0 := u_26) (y1 := m_helds_d) hh1 hp_28) (gq_bind_s25 (y0 := u_26) (y1 := m_waits_d) (y2 := m_helds_d) hw7_d hwh_b.2 hh1 hp_28)) (cwV 3 htw (xg_V (ck_28 _ (List.mem_of_getElem? (i := 13) rfl)) (ck_28 _ (List.mem_of_getElem? (i := 14) rfl)) (ck_28 _ (List.mem_of_getElem? (i := 15) rfl)) (ck_1 _ (List.mem_of_getElem? (i := 5) rfl)) (ck_28 _ (List.mem_of_getElem? (i := 16) rfl))) rfl rfl rfl (by exact ⟨rfl, hdc_14.1, hdc_14.2, hdd_50⟩) ⟨Nat.le_of_ble_eq_true rfl, Nat.le_of_ble_eq_true rfl⟩) ⟨fun a U g mk q => by obtain ⟨q0, q1, qP, qK, qD⟩ := q; exact ⟨q0, q1, qP, va_K.moved (u := U) (U := U.calling g mk a) (Vm.Alike.refl U.vm) qK, qD⟩, va_recv hKc hPc (ci := 12) (q0 := 0) rfl rfl, fun U hU hW => ⟨rfl, by rw [hU], by rw [hU]; exact hPc, va_K.moved hW.alike hKc, hDc.weaken (fun _ _ _ _ => trivial)⟩⟩ rfl rfl hl.1 rfl (lv_room (Nat.le_of_ble_eq_true rfl)) dX12_bind_70 ⟨Nat.le_of_ble_eq_true rfl, Nat.le_of_ble_eq_true rfl⟩) hS (fun q _ h => hFc q h) hFc (fun u_31 t H1 locs ht hvm hw hB hz1 hk1 hS => ?_)
            try dsimp only at hw
            obtain ⟨hP1, hK1, hD1⟩ := hB
            rw [ht] at hP1
            have hK1 := va_K.moved hvm.symm hK1
            have hK1 : va_K (dC, dI) vwCl [] s := hK1
            obtain ⟨hP, hD⟩ := va_join (wr := [(eA0 (rf 45) (ck 45) 96 f_wait)]) (w1 := [(mq, .inr (12, mF (upd (upd (upd g 23 u_31.1) 47 (m_waits_d - 1)) 48 u_31.2.1) gl rf)), (eA0 (rf 41) (ck 41) 128 u_31.2.2.1), (eA0 (rf 42) (ck 42) 128 u_31.2.2.2.1), (eA0 (rf 43) (ck 43) 128 u_31.2.2.2.2.1), (eA0 (rf 46) (ck 46) 96 u_31.2.2.2.2.2)]) hP hD [4, 0, 1, 2, 5] [3] hCc rfl (by decide) (by decide) hk1 hFc hP1 hD1
            generalize H1 = H at hP hS ⊢
            have hP : va_P (dC, dI) vwCl [(eA0 (rf 45) (ck 45) 96 f_wait), (mq, .inr (12, mF (upd (upd (upd g 23 u_31.1) 47 (m_waits_d - 1)) 48 u_31.2.1) gl rf)), (eA0 (rf 41) (ck 41) 128 u_31.2.2.1), (eA0 (rf 42) (ck 42) 128 u_31.2.2.2.1), (eA0 (rf 43) (ck 43) 128 u_31.2.2.2.2.1), (eA0 (rf 46) (ck 46) 96 u_31.2.2.2.2.2)] H := hP
            have hD : va_D A [(eA0 (rf 45) (ck 45) 96 f_wait), (mq, .inr (12, mF (upd (upd (upd g 23 u_31.1) 47 (m_waits_d - 1)) 48 u_31.2.1) gl rf)), (eA0 (rf 41) (ck 41) 128 u_31.2.2.1), (eA0 (rf 42) (ck 42) 128 u_31.2.2.2.1), (eA0 (rf 43) (ck 43) 128 u_31.2.2.2.2.1), (eA0 (rf 46) (ck 46) 96 u_31.2.2.2.2.2)] := hD
            refine W.widen (k := 0) (n := 0) (by omega) (by omega) ?_
            have hq_u_31 : u_31 = (fq_grown f_knot_d f_part_d f_other_d f_held_d (f_wait ((m_waits_d - 1).toNatClampNeg)) r_25 (-1 : Int32) m_knotsRead_d u_26) := hw
            obtain ⟨hW_n, hH_n, hK_n, hkr_n⟩ := xbind_2 hW_d hH_d hK_d (gq_bind_s26 (y0 := m_waits_d) (y1 := m_helds_d) (y2 := m_knotsRead_d) (y3 := g 23) (y4 := g 49) (y5 := g 50) c_3 hk6_d hw7_d hkm_d hLI_d hwl_b.1 hwl_b.2 hw0_b hwh_b.2 hlp.2 hk0 hct6).1 (gq_bind_s26 (y0 := m_waits_d) (y1 := m_helds_d) (y2 := m_knotsRead_d) (y3 := g 23) (y4 := g 49) (y5 := g 50) c_3 hk6_d hw7_d hkm_d hLI_d hwl_b.1 hwl_b.2 hw0_b hwh_b.2 hlp.2 hk0 hct6).2.1 (gq_bind_s26 (y0 := m_waits_d) (y1 := m_helds_d) (y2 := m_knotsRead_d) (y3 := g 23) (y4 := g 49) (y5 := g 50) c_3 hk6_d hw7_d hkm_d hLI_d hwl_b.1 hwl_b.2 hw0_b hwh_b.2 hlp.2 hk0 hct6).2.2.1 (gq_bind_s26 (y0 := m_waits_d) (y1 := m_helds_d) (y2 := m_knotsRead_d) (y3 := g 23) (y4 := g 49) (y5 := g 50) c_3 hk6_d hw7_d hkm_d hLI_d hwl_b.1 hwl_b.2 hw0_b hwh_b.2 hlp.2 hk0 hct6).2.2.2 c_6 hX_29 hq_r_25 hq_u_26 hq_u_31
            refine lv_goto (tgt := 0) hx hb dX12_bind_73 (by decide) ?_
            have hP := hP.sub (ws' := [(mq, .inr (12, mF (upd (upd (upd g 23 u_31.1) 47 (m_waits_d - 1)) 48 u_31.2.1) gl rf)), (eA0 (rf 41) (ck 41) 128 u_31.2.2.1), (eA0 (rf 42) (ck 42) 128 u_31.2.2.2.1), (eA0 (rf 43) (ck 43) 128 u_31.2.2.2.2.1), (eA0 (rf 45) (ck 45) 96 f_wait), (eA0 (rf 46) (ck 46) 96 u_31.2.2.2.2.2)]) [1, 2, 3, 4, 0, 5] rfl
            have hD := hD.sub (ws' := [(mq, .inr (12, mF (upd (upd (upd g 23 u_31.1) 47 (m_waits_d - 1)) 48 u_31.2.1) gl rf)), (eA0 (rf 41) (ck 41) 128 u_31.2.2.1), (eA0 (rf 42) (ck 42) 128 u_31.2.2.2.1), (eA0 (rf 43) (ck 43) 128 u_31.2.2.2.2.1), (eA0 (rf 45) (ck 45) 96 f_wait), (eA0 (rf 46) (ck 46) 96 u_31.2.2.2.2.2)]) [1, 2, 3, 4, 0, 5] (by decide) rfl
            exact ih u_31.1 (m_waits_d - 1) u_31.2.1 u_31.2.2.1 u_31.2.2.2.1 u_31.2.2.2.2.1 u_31.2.2.2.2.2 (gq_bind_s27 (y0 := u_31.1) (y1 := m_knotsRead_d) (y2 := m_waits_d) (y3 := g 49) (y4 := g 50) hk6_d hw7_d hLI_d hwl_b.1 hwl_b.2 hw0_b hlp.2 hkr_n hct6) (gq_bind_s28 (y0 := m_waits_d) hw7_d hw0_b) (gq_bind_s29 (y0 := u_31.1) (y1 := m_knotsRead_d) (y2 := g 23) hk6_d hkm_d hkr_n hk0) (gq_bind_s30 (y0 := g 23) (y1 := u_31.1) (y2 := m_knotsRead_d) hk6_d hkm_d hkr_n) (gq_bind_s31 (y0 := u_31.1) (y1 := m_waits_d) (y2 := g 49) (y3 := g 50) (y4 := m_knotsRead_d) (y5 := g 23) hk6_d hw7_d hkm_d hLI_d hwl_b.1 hwl_b.2 hw0_b hkr_n hk0) hW_n hH_n hK_n (by rw [xi_p (gq_bind_s32 (y0 := m_waits_d) c_3)]; omega) (hI_d.trans (by rw [fq_bind_d]; (try rw [if_neg c_3]); (try rw [← hq_r_4]); (try rw [xL_eq]); (try rw [if_neg c_5]); (try rw [if_pos c_6]); (try rw [← hX_29]); (try rw [xL_eq]); (try rw [← hq_r_25]); (try rw [← hq_u_26]); (try rw [← hq_u_31]); (try rw [xL_eq]); try rfl)) H locs ls hP hD hS (lv_sub hl [3, 4] rfl)
  exact hloop_1 96 (g 23) (g 47) (g 48) f_knot f_part f_other f_held hk6 hwt7 hk0 (gq_bind_s33 (y0 := g 23)) hLI hWx hH hKu (by have := xi_le (gq_bind_s34 (y0 := g 47) hwt7); have e9 : (96 : Int32).toInt = 96 := rfl; omega) ((by rw [fq_bind])) _ _ ls hP hD hS (lv_sub hl [0, 1] rfl)
