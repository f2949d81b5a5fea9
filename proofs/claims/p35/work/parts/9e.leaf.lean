section XWM
variable {f fh fk fp fo : Nat → Int32} {w b h t k c : Int32}
theorem xr_ge {r : Int32} (hr : r = fq_rank k) (hk : ¬ k < 3) : ¬ r < 1 := fun h => by
  have := xr_zero hr h (Or.inr (by lia))
  lia
theorem xgrown_leaf {kr a x : Int32} {u : (Int32) × (Int32) × (Nat → Int32) × (Nat → Int32) × (Nat → Int32) × (Nat → Int32)} (hW : xW f w b h 1) (hH : xH fh h) (hK : xKU fk fp fo) (h0 : ¬ h < 0) (h9 : h ≤ 97) (k0 : ¬ kr < 0) (k6 : kr < 64) (hv : x = 0 ∨ (x = 1 ∧ vp_in a 6)) (eu : u = fq_grown fk fp fo fh x a 0 kr h) : xW f w b u.2.1 0 ∧ xH u.2.2.2.2.2 u.2.1 ∧ xKU u.2.2.1 u.2.2.2.1 u.2.2.2.2.1 ∧ u.1 = kr + 1 := by
  subst eu
  refine ⟨xW_leaf hW h9 h0, xH_more hH h0 (by lia) (xin64 k0 k6), ?_, rfl⟩
  rcases hv with e | ⟨e, ha⟩
  · exact xKU_g hK (fun q => absurd (e.symm.trans q) (by decide)) (fun q => absurd e q) (fun q => absurd e q)
  · exact xKU_g hK (fun _ => ha) (fun _ q => absurd e q) (fun _ q => absurd e q)
theorem xm_two {x : Int32} (h0 : ¬ x < 0) (h8 : x ≤ 8) : 0 ≤ x.toInt ∧ x.toInt ≤ 8 := ⟨xi_nn h0, xi_le h8⟩
theorem xm_nn (c0 : ¬ c < 0) (c6 : c ≤ 64) (b0 : ¬ b < 0) (b8 : b ≤ 8) : 0 ≤ xm c b t := by
  have h1 := xm_two b0 b8
  have h2 := xi_nn c0
  have h3 := xi_le c6
  have e : (64 : Int32).toInt = 64 := rfl
  unfold xm
  split <;> omega
theorem xm_open (b0 : ¬ b < 0) (b8 : b < 8) : xm c (b + 1) 1 < xm c b 1 := by
  have hs := xi_s b8
  have n0 : ¬ (1 : Int32) = 0 := by decide
  unfold xm
  rw [if_neg n0, if_neg n0, hs]
  omega
theorem xm_close (b1 : ¬ b < 1) : xm c (b - 1) 0 < xm c b 0 := by
  have hs := xi_p b1
  unfold xm
  rw [if_pos rfl, if_pos rfl, hs]
  omega
theorem xm_cnt {c2 b2 t2 : Int32} (hc : c2 = c + 1) (c0 : ¬ c < 0) (c6 : c ≤ 64) (b0 : ¬ b < 0) (b8 : b ≤ 8) (d0 : ¬ b2 < 0) (d8 : b2 ≤ 8) : xm c2 b2 t2 < xm c b t := by
  have h1 := xm_two b0 b8
  have h2 := xm_two d0 d8
  have hs := xi_s (i := c) (b := 2000) (by lia)
  subst hc
  unfold xm
  rw [hs]
  split <;> split <;> omega
theorem xW_end (q : xW f w 0 h 0) (ht : w = 0 ∨ xTp f w 1) : w = 0 := by
  rcases ht with e | e
  · exact e
  · by_cases hw : w < 1
    · have := q.1; lia
    · have h0 := xr_zero rfl e (xW_top q hw)
      have hp := xW_pop q hw
      rw [h0, if_pos rfl] at hp
      have hb := xz_b f (w - 1).toNatClampNeg
      have := q.2.2.1
      have e0 : (0 : Int32).toInt = 0 := rfl
      omega
end XWM

def fq_leafRead (f_tape : Nat → Int32) (f_words : Nat → Int32) (f_knot : Nat → Int32) (f_part : Nat → Int32) (f_other : Nat → Int32) (f_wait : Nat → Int32) (f_held : Nat → Int32) (m_fault : Int32) (m_faultPlace : Int32) (m_stop : Int32) (m_next : Int32) (m_kind : Int32) (m_which : Int32) (m_at : Int32) (m_knotsRead : Int32) (m_waits : Int32) (m_helds : Int32) (m_brackets : Int32) (m_counted : Int32) (m_wants : Int32) (m_mayNot : Int32) : Int32 × (Nat → Int32) × (Nat → Int32) × (Nat → Int32) × (Nat → Int32) × (Int32) × (Int32) × (Int32) × (Int32) × (Int32) × (Int32) × (Int32) × (Int32) × (Int32) × (Int32) × (Nat → Int32) × (Int32) × (Int32) × (Int32) := (xL ((fq_isSign (40 : Int32) m_kind m_which)) (fun r_1 => (if r_1 = 0 then (xL ((fq_isKey (18 : Int32) m_kind m_which)) (fun r_3 => (if r_3 = 0 then (xL ((fq_nameMet m_kind m_which)) (fun r_5 => (if 0 ≤ r_5 then (xL ((fq_isCounted m_fault m_faultPlace m_at m_counted)) (fun X_18 => (if X_18.1 = 0 then ((0 : Int32), f_knot, f_part, f_other, f_held, X_18.2.2.1, X_18.2.2.2, m_next, m_kind, m_which, m_at, m_knotsRead, m_helds, X_18.2.1, m_wants, f_wait, m_waits, m_brackets, m_mayNot) else (if r_5 < 0 then (xL ((fq_grown f_knot f_part f_other f_held (0 : Int32) m_which (0 : Int32) m_knotsRead m_helds)) (fun u_23 => (xL ((fq_token f_tape f_words m_stop m_next m_which)) (fun u_31 => ((1 : Int32), u_23.2.2.1, u_23.2.2.2.1, u_23.2.2.2.2.1, u_23.2.2.2.2.2, X_18.2.2.1, X_18.2.2.2, u_31.1, u_31.2.1, u_31.2.2.1, u_31.2.2.2, u_23.1, u_23.2.1, X_18.2.1, (0 : Int32), f_wait, m_waits, m_brackets, m_mayNot))))) else (xL ((fq_grown f_knot f_part f_other f_held (1 : Int32) r_5 (0 : Int32) m_knotsRead m_helds)) (fun u_41 => (xL ((fq_token f_tape f_words m_stop m_next m_which)) (fun u_49 => ((1 : Int32), u_41.2.2.1, u_41.2.2.2.1, u_41.2.2.2.2.1, u_41.2.2.2.2.2, X_18.2.2.1, X_18.2.2.2, u_49.1, u_49.2.1, u_49.2.2.1, u_49.2.2.2, u_41.1, u_41.2.1, X_18.2.1, (0 : Int32), f_wait, m_waits, m_brackets, m_mayNot))))))))) else (if m_kind = 3 then (if m_which ≤ 9999 then (xL ((fq_isCounted m_fault m_faultPlace m_at m_counted)) (fun X_68 => (if X_68.1 = 0 then ((0 : Int32), f_knot, f_part, f_other, f_held, X_68.2.2.1, X_68.2.2.2, m_next, m_kind, m_which, m_at, m_knotsRead, m_helds, X_68.2.1, m_wants, f_wait, m_waits, m_brackets, m_mayNot) else (if r_5 < 0 then (xL ((fq_grown f_knot f_part f_other f_held (0 : Int32) m_which (0 : Int32) m_knotsRead m_helds)) (fun u_73 => (xL ((fq_token f_tape f_words m_stop m_next m_which)) (fun u_81 => ((1 : Int32), u_73.2.2.1, u_73.2.2.2.1, u_73.2.2.2.2.1, u_73.2.2.2.2.2, X_68.2.2.1, X_68.2.2.2, u_81.1, u_81.2.1, u_81.2.2.1, u_81.2.2.2, u_73.1, u_73.2.1, X_68.2.1, (0 : Int32), f_wait, m_waits, m_brackets, m_mayNot))))) else (xL ((fq_grown f_knot f_part f_other f_held (1 : Int32) r_5 (0 : Int32) m_knotsRead m_helds)) (fun u_91 => (xL ((fq_token f_tape f_words m_stop m_next m_which)) (fun u_99 => ((1 : Int32), u_91.2.2.1, u_91.2.2.2.1, u_91.2.2.2.2.1, u_91.2.2.2.2.2, X_68.2.2.1, X_68.2.2.2, u_99.1, u_99.2.1, u_99.2.2.1, u_99.2.2.2, u_91.1, u_91.2.1, X_68.2.1, (0 : Int32), f_wait, m_waits, m_brackets, m_mayNot))))))))) else (xL ((fq_wrong (2 : Int32) m_at)) (fun X_112 => (X_112.1, f_knot, f_part, f_other, f_held, X_112.2.1, X_112.2.2, m_next, m_kind, m_which, m_at, m_knotsRead, m_helds, m_counted, m_wants, f_wait, m_waits, m_brackets, m_mayNot)))) else (xL ((fq_wrong (1 : Int32) m_at)) (fun X_118 => (X_118.1, f_knot, f_part, f_other, f_held, X_118.2.1, X_118.2.2, m_next, m_kind, m_which, m_at, m_knotsRead, m_helds, m_counted, m_wants, f_wait, m_waits, m_brackets, m_mayNot))))))) else (if m_mayNot = 0 then (xL ((fq_nameMet m_kind m_which)) (fun r_120 => (if 0 ≤ r_120 then (xL ((fq_isCounted m_fault m_faultPlace m_at m_counted)) (fun X_133 => (if X_133.1 = 0 then ((0 : Int32), f_knot, f_part, f_other, f_held, X_133.2.2.1, X_133.2.2.2, m_next, m_kind, m_which, m_at, m_knotsRead, m_helds, X_133.2.1, m_wants, f_wait, m_waits, m_brackets, m_mayNot) else (if r_120 < 0 then (xL ((fq_grown f_knot f_part f_other f_held (0 : Int32) m_which (0 : Int32) m_knotsRead m_helds)) (fun u_138 => (xL ((fq_token f_tape f_words m_stop m_next m_which)) (fun u_146 => ((1 : Int32), u_138.2.2.1, u_138.2.2.2.1, u_138.2.2.2.2.1, u_138.2.2.2.2.2, X_133.2.2.1, X_133.2.2.2, u_146.1, u_146.2.1, u_146.2.2.1, u_146.2.2.2, u_138.1, u_138.2.1, X_133.2.1, (0 : Int32), f_wait, m_waits, m_brackets, m_mayNot))))) else (xL ((fq_grown f_knot f_part f_other f_held (1 : Int32) r_120 (0 : Int32) m_knotsRead m_helds)) (fun u_156 => (xL ((fq_token f_tape f_words m_stop m_next m_which)) (fun u_164 => ((1 : Int32), u_156.2.2.1, u_156.2.2.2.1, u_156.2.2.2.2.1, u_156.2.2.2.2.2, X_133.2.2.1, X_133.2.2.2, u_164.1, u_164.2.1, u_164.2.2.1, u_164.2.2.2, u_156.1, u_156.2.1, X_133.2.1, (0 : Int32), f_wait, m_waits, m_brackets, m_mayNot))))))))) else (if m_kind = 3 then (if m_which ≤ 9999 then (xL ((fq_isCounted m_fault m_faultPlace m_at m_counted)) (fun X_183 => (if X_183.1 = 0 then ((0 : Int32), f_knot, f_part, f_other, f_held, X_183.2.2.1, X_183.2.2.2, m_next, m_kind, m_which, m_at, m_knotsRead, m_helds, X_183.2.1, m_wants, f_wait, m_waits, m_brackets, m_mayNot) else (if r_120 < 0 then (xL ((fq_grown f_knot f_part f_other f_held (0 : Int32) m_which (0 : Int32) m_knotsRead m_helds)) (fun u_188 => (xL ((fq_token f_tape f_words m_stop m_next m_which)) (fun u_196 => ((1 : Int32), u_188.2.2.1, u_188.2.2.2.1, u_188.2.2.2.2.1, u_188.2.2.2.2.2, X_183.2.2.1, X_183.2.2.2, u_196.1, u_196.2.1, u_196.2.2.1, u_196.2.2.2, u_188.1, u_188.2.1, X_183.2.1, (0 : Int32), f_wait, m_waits, m_brackets, m_mayNot))))) else (xL ((fq_grown f_knot f_part f_other f_held (1 : Int32) r_120 (0 : Int32) m_knotsRead m_helds)) (fun u_206 => (xL ((fq_token f_tape f_words m_stop m_next m_which)) (fun u_214 => ((1 : Int32), u_206.2.2.1, u_206.2.2.2.1, u_206.2.2.2.2.1, u_206.2.2.2.2.2, X_183.2.2.1, X_183.2.2.2, u_214.1, u_214.2.1, u_214.2.2.1, u_214.2.2.2, u_206.1, u_206.2.1, X_183.2.1, (0 : Int32), f_wait, m_waits, m_brackets, m_mayNot))))))))) else (xL ((fq_wrong (2 : Int32) m_at)) (fun X_227 => (X_227.1, f_knot, f_part, f_other, f_held, X_227.2.1, X_227.2.2, m_next, m_kind, m_which, m_at, m_knotsRead, m_helds, m_counted, m_wants, f_wait, m_waits, m_brackets, m_mayNot)))) else (xL ((fq_wrong (1 : Int32) m_at)) (fun X_233 => (X_233.1, f_knot, f_part, f_other, f_held, X_233.2.1, X_233.2.2, m_next, m_kind, m_which, m_at, m_knotsRead, m_helds, m_counted, m_wants, f_wait, m_waits, m_brackets, m_mayNot))))))) else (xL ((fq_isCounted m_fault m_faultPlace m_at m_counted)) (fun X_242 => (if X_242.1 = 0 then ((0 : Int32), f_knot, f_part, f_other, f_held, X_242.2.2.1, X_242.2.2.2, m_next, m_kind, m_which, m_at, m_knotsRead, m_helds, X_242.2.1, m_wants, f_wait, m_waits, m_brackets, m_mayNot) else (xL ((fq_waitsFor f_wait (2 : Int32) m_waits)) (fun u_245 => (xL ((fq_token f_tape f_words m_stop m_next m_which)) (fun u_249 => ((1 : Int32), f_knot, f_part, f_other, f_held, X_242.2.2.1, X_242.2.2.2, u_249.1, u_249.2.1, u_249.2.2.1, u_249.2.2.2, m_knotsRead, m_helds, X_242.2.1, m_wants, u_245.2, u_245.1, m_brackets, m_mayNot)))))))))))) else (if m_brackets = 8 then (xL ((fq_wrong (2 : Int32) m_at)) (fun X_276 => (X_276.1, f_knot, f_part, f_other, f_held, X_276.2.1, X_276.2.2, m_next, m_kind, m_which, m_at, m_knotsRead, m_helds, m_counted, m_wants, f_wait, m_waits, m_brackets, m_mayNot))) else (xL ((fq_waitsFor f_wait (0 : Int32) m_waits)) (fun u_259 => (xL ((fq_token f_tape f_words m_stop m_next m_which)) (fun u_263 => ((1 : Int32), f_knot, f_part, f_other, f_held, m_fault, m_faultPlace, u_263.1, u_263.2.1, u_263.2.2.1, u_263.2.2.2, m_knotsRead, m_helds, m_counted, m_wants, u_259.2, u_259.1, (m_brackets + 1), (1 : Int32))))))))))
theorem gq_leafRead_s0 {y0 : Int32} (h0 : y0 ≤ 72) : y0 ≤ 96 := by lia
theorem gq_leafRead_s1 {y0 : Int32} {y1 : Int32} {y2 : Int32} {y3 : Int32} {y4 : Int32} (h0 : y1 = (y2 + 1)) (h1 : y3 ≤ y4) (h2 : ¬ (y4 < 0)) (h3 : y1 ≤ 64) (h4 : y0 ≤ 64) (h5 : y4 ≤ 72) (h6 : ¬ (y0 < 0)) (h7 : (y0 + (y4 - y3)) = y2) (h8 : y2 ≤ 64) (h9 : ¬ (y3 < 0)) : y0 < 64 := by
  have l_y0 := y0.le_toInt
  have u_y0 := y0.toInt_lt
  have l_y1 := y1.le_toInt
  have u_y1 := y1.toInt_lt
  have l_y2 := y2.le_toInt
  have u_y2 := y2.toInt_lt
  have l_y3 := y3.le_toInt
  have u_y3 := y3.toInt_lt
  have l_y4 := y4.le_toInt
  have u_y4 := y4.toInt_lt
  have h1 : y3.toInt ≤ y4.toInt := Int32.le_iff_toInt_le.mp h1
  have h2 : 0 ≤ y4.toInt := Int.not_lt.mp (fun z => h2 (Int32.lt_iff_toInt_lt.mpr z))
  have h3 : y1.toInt ≤ 64 := Int32.le_iff_toInt_le.mp h3
  have h4 : y0.toInt ≤ 64 := Int32.le_iff_toInt_le.mp h4
  have h5 : y4.toInt ≤ 72 := Int32.le_iff_toInt_le.mp h5
  have h6 : 0 ≤ y0.toInt := Int.not_lt.mp (fun z => h6 (Int32.lt_iff_toInt_lt.mpr z))
  have h8 : y2.toInt ≤ 64 := Int32.le_iff_toInt_le.mp h8
  have h9 : 0 ≤ y3.toInt := Int.not_lt.mp (fun z => h9 (Int32.lt_iff_toInt_lt.mpr z))
  have e18 : ((y2 + 1) : Int32).toInt = y2.toInt + 1 := by rw [Int32.toInt_add, show (1 : Int32).toInt = 1 from rfl, Int.bmod_eq_of_le (by omega) (by omega)]
  have e19 : ((y4 - y3) : Int32).toInt = y4.toInt - y3.toInt := by rw [Int32.toInt_sub, Int.bmod_eq_of_le (by omega) (by omega)]
  have e20 : ((y0 + (y4 - y3)) : Int32).toInt = y0.toInt + ((y4 - y3) : Int32).toInt := by rw [Int32.toInt_add, Int.bmod_eq_of_le (by omega) (by omega)]
  have h0 : y1.toInt = ((y2 + 1) : Int32).toInt := congrArg Int32.toInt h0
  have h7 : ((y0 + (y4 - y3)) : Int32).toInt = y2.toInt := congrArg Int32.toInt h7
  exact Int32.lt_iff_toInt_lt.mpr (show y0.toInt < 64 by omega)
theorem gq_leafRead_s2 {y0 : Int32} {y1 : Int32} (h0 : y0 ≤ (y1 + 1)) (h1 : y1 ≤ 72) : y0 < 96 := by lia
theorem gq_leafRead_s3 {y0 : Int32} {y1 : Int32} {y2 : Int32} {y3 : Int32} {y4 : Int32} {y5 : Int32} (h0 : y2 = (y3 + 1)) (h1 : y4 ≤ y5) (h2 : ¬ (y5 < 0)) (h3 : ¬ (y0 < 0)) (h4 : y0 ≤ (y5 + 1)) (h5 : y2 ≤ 64) (h6 : y1 ≤ 64) (h7 : y5 ≤ 72) (h8 : ¬ (y1 < 0)) (h9 : (y1 + (y5 - y4)) = y3) (h10 : y3 ≤ 64) (h11 : ¬ (y4 < 0)) : ¬ (y0 < 0) ∧ y0 ≤ 97 ∧ ¬ (y1 < 0) ∧ y1 < 64 := by
  have l_y0 := y0.le_toInt
  have u_y0 := y0.toInt_lt
  have l_y1 := y1.le_toInt
  have u_y1 := y1.toInt_lt
  have l_y2 := y2.le_toInt
  have u_y2 := y2.toInt_lt
  have l_y3 := y3.le_toInt
  have u_y3 := y3.toInt_lt
  have l_y4 := y4.le_toInt
  have u_y4 := y4.toInt_lt
  have l_y5 := y5.le_toInt
  have u_y5 := y5.toInt_lt
  have h1 : y4.toInt ≤ y5.toInt := Int32.le_iff_toInt_le.mp h1
  have h2 : 0 ≤ y5.toInt := Int.not_lt.mp (fun z => h2 (Int32.lt_iff_toInt_lt.mpr z))
  have h3 : 0 ≤ y0.toInt := Int.not_lt.mp (fun z => h3 (Int32.lt_iff_toInt_lt.mpr z))
  have h5 : y2.toInt ≤ 64 := Int32.le_iff_toInt_le.mp h5
  have h6 : y1.toInt ≤ 64 := Int32.le_iff_toInt_le.mp h6
  have h7 : y5.toInt ≤ 72 := Int32.le_iff_toInt_le.mp h7
  have h8 : 0 ≤ y1.toInt := Int.not_lt.mp (fun z => h8 (Int32.lt_iff_toInt_lt.mpr z))
  have h10 : y3.toInt ≤ 64 := Int32.le_iff_toInt_le.mp h10
  have h11 : 0 ≤ y4.toInt := Int.not_lt.mp (fun z => h11 (Int32.lt_iff_toInt_lt.mpr z))
  have e21 : ((y3 + 1) : Int32).toInt = y3.toInt + 1 := by rw [Int32.toInt_add, show (1 : Int32).toInt = 1 from rfl, Int.bmod_eq_of_le (by omega) (by omega)]
  have e22 : ((y5 + 1) : Int32).toInt = y5.toInt + 1 := by rw [Int32.toInt_add, show (1 : Int32).toInt = 1 from rfl, Int.bmod_eq_of_le (by omega) (by omega)]
  have e23 : ((y5 - y4) : Int32).toInt = y5.toInt - y4.toInt := by rw [Int32.toInt_sub, Int.bmod_eq_of_le (by omega) (by omega)]
  have e24 : ((y1 + (y5 - y4)) : Int32).toInt = y1.toInt + ((y5 - y4) : Int32).toInt := by rw [Int32.toInt_add, Int.bmod_eq_of_le (by omega) (by omega)]
  have h0 : y2.toInt = ((y3 + 1) : Int32).toInt := congrArg Int32.toInt h0
  have h4 : y0.toInt ≤ ((y5 + 1) : Int32).toInt := Int32.le_iff_toInt_le.mp h4
  have h9 : ((y1 + (y5 - y4)) : Int32).toInt = y3.toInt := congrArg Int32.toInt h9
  exact ⟨(fun z => by have z : y0.toInt < 0 := Int32.lt_iff_toInt_lt.mp z; omega), Int32.le_iff_toInt_le.mpr (show y0.toInt ≤ 97 by omega), (fun z => by have z : y1.toInt < 0 := Int32.lt_iff_toInt_lt.mp z; omega), Int32.lt_iff_toInt_lt.mpr (show y1.toInt < 64 by omega)⟩
theorem gq_leafRead_s4 {y0 : Int32} {y1 : Int32} {y2 : Int32} {y3 : Int32} {y4 : Int32} {y5 : Int32} (h0 : y1 = (y2 + 1)) (h1 : y3 ≤ y4) (h2 : ¬ (y4 < 0)) (h3 : y1 ≤ 64) (h4 : y0 = (y5 + 1)) (h5 : y5 ≤ 64) (h6 : y4 ≤ 72) (h7 : ¬ (y5 < 0)) (h8 : (y5 + (y4 - y3)) = y2) (h9 : y2 ≤ 64) (h10 : ¬ (y3 < 0)) : y0 ≤ 64 := by
  have l_y0 := y0.le_toInt
  have u_y0 := y0.toInt_lt
  have l_y1 := y1.le_toInt
  have u_y1 := y1.toInt_lt
  have l_y2 := y2.le_toInt
  have u_y2 := y2.toInt_lt
  have l_y3 := y3.le_toInt
  have u_y3 := y3.toInt_lt
  have l_y4 := y4.le_toInt
  have u_y4 := y4.toInt_lt
  have l_y5 := y5.le_toInt
  have u_y5 := y5.toInt_lt
  have h1 : y3.toInt ≤ y4.toInt := Int32.le_iff_toInt_le.mp h1
  have h2 : 0 ≤ y4.toInt := Int.not_lt.mp (fun z => h2 (Int32.lt_iff_toInt_lt.mpr z))
  have h3 : y1.toInt ≤ 64 := Int32.le_iff_toInt_le.mp h3
  have h5 : y5.toInt ≤ 64 := Int32.le_iff_toInt_le.mp h5
  have h6 : y4.toInt ≤ 72 := Int32.le_iff_toInt_le.mp h6
  have h7 : 0 ≤ y5.toInt := Int.not_lt.mp (fun z => h7 (Int32.lt_iff_toInt_lt.mpr z))
  have h9 : y2.toInt ≤ 64 := Int32.le_iff_toInt_le.mp h9
  have h10 : 0 ≤ y3.toInt := Int.not_lt.mp (fun z => h10 (Int32.lt_iff_toInt_lt.mpr z))
  have e20 : ((y2 + 1) : Int32).toInt = y2.toInt + 1 := by rw [Int32.toInt_add, show (1 : Int32).toInt = 1 from rfl, Int.bmod_eq_of_le (by omega) (by omega)]
  have e21 : ((y5 + 1) : Int32).toInt = y5.toInt + 1 := by rw [Int32.toInt_add, show (1 : Int32).toInt = 1 from rfl, Int.bmod_eq_of_le (by omega) (by omega)]
  have e22 : ((y4 - y3) : Int32).toInt = y4.toInt - y3.toInt := by rw [Int32.toInt_sub, Int.bmod_eq_of_le (by omega) (by omega)]
  have e23 : ((y5 + (y4 - y3)) : Int32).toInt = y5.toInt + ((y4 - y3) : Int32).toInt := by rw [Int32.toInt_add, Int.bmod_eq_of_le (by omega) (by omega)]
  have h0 : y1.toInt = ((y2 + 1) : Int32).toInt := congrArg Int32.toInt h0
  have h4 : y0.toInt = ((y5 + 1) : Int32).toInt := congrArg Int32.toInt h4
  have h8 : ((y5 + (y4 - y3)) : Int32).toInt = y2.toInt := congrArg Int32.toInt h8
  exact Int32.le_iff_toInt_le.mpr (show y0.toInt ≤ 64 by omega)
theorem gq_leafRead_s5 {y0 : Int32} {y1 : Int32} (h0 : y0 = (y1 + 1)) (h1 : y1 ≤ 64) (h2 : ¬ (y1 < 0)) : ¬ (y0 < 0) := by lia
theorem gq_leafRead_s6 {y0 : Int32} {y1 : Int32} {y2 : Int32} {y3 : Int32} {y4 : Int32} {y5 : Int32} (h0 : y3 = (y4 + 1)) (h1 : y2 ≤ y1) (h2 : ¬ (y1 < 0)) (h3 : y0 = (y5 + 1)) (h4 : y5 ≤ 64) (h5 : y1 ≤ 72) (h6 : ¬ (y5 < 0)) (h7 : (y5 + (y1 - y2)) = y4) (h8 : y4 ≤ 64) (h9 : ¬ (y2 < 0)) : (y0 + (y1 - y2)) = y3 := by
  have l_y0 := y0.le_toInt
  have u_y0 := y0.toInt_lt
  have l_y1 := y1.le_toInt
  have u_y1 := y1.toInt_lt
  have l_y2 := y2.le_toInt
  have u_y2 := y2.toInt_lt
  have l_y3 := y3.le_toInt
  have u_y3 := y3.toInt_lt
  have l_y4 := y4.le_toInt
  have u_y4 := y4.toInt_lt
  have l_y5 := y5.le_toInt
  have u_y5 := y5.toInt_lt
  have h1 : y2.toInt ≤ y1.toInt := Int32.le_iff_toInt_le.mp h1
  have h2 : 0 ≤ y1.toInt := Int.not_lt.mp (fun z => h2 (Int32.lt_iff_toInt_lt.mpr z))
  have h4 : y5.toInt ≤ 64 := Int32.le_iff_toInt_le.mp h4
  have h5 : y1.toInt ≤ 72 := Int32.le_iff_toInt_le.mp h5
  have h6 : 0 ≤ y5.toInt := Int.not_lt.mp (fun z => h6 (Int32.lt_iff_toInt_lt.mpr z))
  have h8 : y4.toInt ≤ 64 := Int32.le_iff_toInt_le.mp h8
  have h9 : 0 ≤ y2.toInt := Int.not_lt.mp (fun z => h9 (Int32.lt_iff_toInt_lt.mpr z))
  have e19 : ((y4 + 1) : Int32).toInt = y4.toInt + 1 := by rw [Int32.toInt_add, show (1 : Int32).toInt = 1 from rfl, Int.bmod_eq_of_le (by omega) (by omega)]
  have e20 : ((y5 + 1) : Int32).toInt = y5.toInt + 1 := by rw [Int32.toInt_add, show (1 : Int32).toInt = 1 from rfl, Int.bmod_eq_of_le (by omega) (by omega)]
  have e21 : ((y1 - y2) : Int32).toInt = y1.toInt - y2.toInt := by rw [Int32.toInt_sub, Int.bmod_eq_of_le (by omega) (by omega)]
  have e22 : ((y5 + (y1 - y2)) : Int32).toInt = y5.toInt + ((y1 - y2) : Int32).toInt := by rw [Int32.toInt_add, Int.bmod_eq_of_le (by omega) (by omega)]
  have h0 : y3.toInt = ((y4 + 1) : Int32).toInt := congrArg Int32.toInt h0
  have h3 : y0.toInt = ((y5 + 1) : Int32).toInt := congrArg Int32.toInt h3
  have h7 : ((y5 + (y1 - y2)) : Int32).toInt = y4.toInt := congrArg Int32.toInt h7
  have e26 : ((y0 + (y1 - y2)) : Int32).toInt = y0.toInt + ((y1 - y2) : Int32).toInt := by rw [Int32.toInt_add, Int.bmod_eq_of_le (by omega) (by omega)]
  exact Int32.toInt_inj.mp (show ((y0 + (y1 - y2)) : Int32).toInt = y3.toInt by omega)
theorem gq_leafRead_s7  : ¬ ((0 : Int32) < 0) := (by decide)
theorem gq_leafRead_s8  : (0 : Int32) ≤ 1 := (by decide)
theorem gq_leafRead_s9 {y0 : Int32} {y1 : Int32} (h0 : y0 = (y1 + 1)) (h1 : y1 ≤ 64) (h2 : ¬ (y1 < 0)) : ¬ ((y0 + 0) < 1) := by lia
theorem gq_leafRead_s10 {y0 : Int32} {y1 : Int32} (h0 : y1 = (y0 + 1)) (h1 : y0 ≤ 64) : y0 ≤ y1 := by lia
theorem gq_leafRead_s11 {y0 : Int32} {y1 : Int32} {y2 : Int32} {y3 : Int32} {y4 : Int32} (h0 : y1 = (y2 + 1)) (h1 : y3 ≤ y4) (h2 : ¬ (y4 < 0)) (h3 : y1 ≤ 64) (h4 : y0 ≤ 64) (h5 : y4 ≤ 72) (h6 : ¬ (y0 < 0)) (h7 : (y0 + (y4 - y3)) = y2) (h8 : y2 ≤ 64) (h9 : ¬ (y3 < 0)) : y0 < 64 := gq_leafRead_s1 h0 h1 h2 h3 h4 h5 h6 h7 h8 h9
theorem gq_leafRead_s12 {y0 : Int32} {y1 : Int32} (h0 : y0 ≤ (y1 + 1)) (h1 : y1 ≤ 72) : y0 < 96 := by lia
theorem gq_leafRead_s13 {y0 : Int32} {y1 : Int32} {y2 : Int32} {y3 : Int32} {y4 : Int32} {y5 : Int32} (h0 : y2 = (y3 + 1)) (h1 : y4 ≤ y5) (h2 : ¬ (y5 < 0)) (h3 : ¬ (y0 < 0)) (h4 : y0 ≤ (y5 + 1)) (h5 : y2 ≤ 64) (h6 : y1 ≤ 64) (h7 : y5 ≤ 72) (h8 : ¬ (y1 < 0)) (h9 : (y1 + (y5 - y4)) = y3) (h10 : y3 ≤ 64) (h11 : ¬ (y4 < 0)) : ¬ (y0 < 0) ∧ y0 ≤ 97 ∧ ¬ (y1 < 0) ∧ y1 < 64 := gq_leafRead_s3 h0 h1 h2 h3 h4 h5 h6 h7 h8 h9 h10 h11
theorem gq_leafRead_s14 {y0 : Int32} {y1 : Int32} {y2 : Int32} {y3 : Int32} {y4 : Int32} {y5 : Int32} (h0 : y1 = (y2 + 1)) (h1 : y3 ≤ y4) (h2 : ¬ (y4 < 0)) (h3 : y1 ≤ 64) (h4 : y0 = (y5 + 1)) (h5 : y5 ≤ 64) (h6 : y4 ≤ 72) (h7 : ¬ (y5 < 0)) (h8 : (y5 + (y4 - y3)) = y2) (h9 : y2 ≤ 64) (h10 : ¬ (y3 < 0)) : y0 ≤ 64 := gq_leafRead_s4 h0 h1 h2 h3 h4 h5 h6 h7 h8 h9 h10
theorem gq_leafRead_s15 {y0 : Int32} {y1 : Int32} (h0 : y0 = (y1 + 1)) (h1 : y1 ≤ 64) (h2 : ¬ (y1 < 0)) : ¬ (y0 < 0) := by lia
theorem gq_leafRead_s16 {y0 : Int32} {y1 : Int32} {y2 : Int32} {y3 : Int32} {y4 : Int32} {y5 : Int32} (h0 : y3 = (y4 + 1)) (h1 : y2 ≤ y1) (h2 : ¬ (y1 < 0)) (h3 : y0 = (y5 + 1)) (h4 : y5 ≤ 64) (h5 : y1 ≤ 72) (h6 : ¬ (y5 < 0)) (h7 : (y5 + (y1 - y2)) = y4) (h8 : y4 ≤ 64) (h9 : ¬ (y2 < 0)) : (y0 + (y1 - y2)) = y3 := gq_leafRead_s6 h0 h1 h2 h3 h4 h5 h6 h7 h8 h9
theorem gq_leafRead_s17  : ¬ ((0 : Int32) < 0) := (by decide)
theorem gq_leafRead_s18  : (0 : Int32) ≤ 1 := (by decide)
theorem gq_leafRead_s19 {y0 : Int32} {y1 : Int32} (h0 : y0 = (y1 + 1)) (h1 : y1 ≤ 64) (h2 : ¬ (y1 < 0)) : ¬ ((y0 + 0) < 1) := by lia
theorem gq_leafRead_s20 {y0 : Int32} {y1 : Int32} (h0 : y1 = (y0 + 1)) (h1 : y0 ≤ 64) : y0 ≤ y1 := by lia
theorem gq_leafRead_s21 {y0 : Int32} {y1 : Int32} {y2 : Int32} {y3 : Int32} {y4 : Int32} (h0 : y1 = (y2 + 1)) (h1 : y3 ≤ y4) (h2 : ¬ (y4 < 0)) (h3 : y1 ≤ 64) (h4 : y0 ≤ 64) (h5 : y4 ≤ 72) (h6 : ¬ (y0 < 0)) (h7 : (y0 + (y4 - y3)) = y2) (h8 : y2 ≤ 64) (h9 : ¬ (y3 < 0)) : y0 < 64 := gq_leafRead_s1 h0 h1 h2 h3 h4 h5 h6 h7 h8 h9
theorem gq_leafRead_s22 {y0 : Int32} {y1 : Int32} (h0 : y0 ≤ (y1 + 1)) (h1 : y1 ≤ 72) : y0 < 96 := by lia
theorem gq_leafRead_s23 {y0 : Int32} {y1 : Int32} {y2 : Int32} {y3 : Int32} {y4 : Int32} {y5 : Int32} (h0 : y2 = (y3 + 1)) (h1 : y4 ≤ y5) (h2 : ¬ (y5 < 0)) (h3 : ¬ (y0 < 0)) (h4 : y0 ≤ (y5 + 1)) (h5 : y2 ≤ 64) (h6 : y1 ≤ 64) (h7 : y5 ≤ 72) (h8 : ¬ (y1 < 0)) (h9 : (y1 + (y5 - y4)) = y3) (h10 : y3 ≤ 64) (h11 : ¬ (y4 < 0)) : ¬ (y0 < 0) ∧ y0 ≤ 97 ∧ ¬ (y1 < 0) ∧ y1 < 64 := gq_leafRead_s3 h0 h1 h2 h3 h4 h5 h6 h7 h8 h9 h10 h11
theorem gq_leafRead_s24 {y0 : Int32} {y1 : Int32} {y2 : Int32} {y3 : Int32} {y4 : Int32} {y5 : Int32} (h0 : y1 = (y2 + 1)) (h1 : y3 ≤ y4) (h2 : ¬ (y4 < 0)) (h3 : y1 ≤ 64) (h4 : y0 = (y5 + 1)) (h5 : y5 ≤ 64) (h6 : y4 ≤ 72) (h7 : ¬ (y5 < 0)) (h8 : (y5 + (y4 - y3)) = y2) (h9 : y2 ≤ 64) (h10 : ¬ (y3 < 0)) : y0 ≤ 64 := gq_leafRead_s4 h0 h1 h2 h3 h4 h5 h6 h7 h8 h9 h10
theorem gq_leafRead_s25 {y0 : Int32} {y1 : Int32} (h0 : y0 = (y1 + 1)) (h1 : y1 ≤ 64) (h2 : ¬ (y1 < 0)) : ¬ (y0 < 0) := by lia
theorem gq_leafRead_s26 {y0 : Int32} {y1 : Int32} {y2 : Int32} {y3 : Int32} {y4 : Int32} {y5 : Int32} (h0 : y3 = (y4 + 1)) (h1 : y2 ≤ y1) (h2 : ¬ (y1 < 0)) (h3 : y0 = (y5 + 1)) (h4 : y5 ≤ 64) (h5 : y1 ≤ 72) (h6 : ¬ (y5 < 0)) (h7 : (y5 + (y1 - y2)) = y4) (h8 : y4 ≤ 64) (h9 : ¬ (y2 < 0)) : (y0 + (y1 - y2)) = y3 := gq_leafRead_s6 h0 h1 h2 h3 h4 h5 h6 h7 h8 h9
theorem gq_leafRead_s27  : ¬ ((0 : Int32) < 0) := (by decide)
theorem gq_leafRead_s28  : (0 : Int32) ≤ 1 := (by decide)
theorem gq_leafRead_s29 {y0 : Int32} {y1 : Int32} (h0 : y0 = (y1 + 1)) (h1 : y1 ≤ 64) (h2 : ¬ (y1 < 0)) : ¬ ((y0 + 0) < 1) := by lia
theorem gq_leafRead_s30 {y0 : Int32} {y1 : Int32} (h0 : y1 = (y0 + 1)) (h1 : y0 ≤ 64) : y0 ≤ y1 := by lia
theorem gq_leafRead_s31 {y0 : Int32} {y1 : Int32} {y2 : Int32} {y3 : Int32} {y4 : Int32} (h0 : y1 = (y2 + 1)) (h1 : y3 ≤ y4) (h2 : ¬ (y4 < 0)) (h3 : y1 ≤ 64) (h4 : y0 ≤ 64) (h5 : y4 ≤ 72) (h6 : ¬ (y0 < 0)) (h7 : (y0 + (y4 - y3)) = y2) (h8 : y2 ≤ 64) (h9 : ¬ (y3 < 0)) : y0 < 64 := gq_leafRead_s1 h0 h1 h2 h3 h4 h5 h6 h7 h8 h9
theorem gq_leafRead_s32 {y0 : Int32} {y1 : Int32} (h0 : y0 ≤ (y1 + 1)) (h1 : y1 ≤ 72) : y0 < 96 := by lia
theorem gq_leafRead_s33 {y0 : Int32} {y1 : Int32} {y2 : Int32} {y3 : Int32} {y4 : Int32} {y5 : Int32} (h0 : y2 = (y3 + 1)) (h1 : y4 ≤ y5) (h2 : ¬ (y5 < 0)) (h3 : ¬ (y0 < 0)) (h4 : y0 ≤ (y5 + 1)) (h5 : y2 ≤ 64) (h6 : y1 ≤ 64) (h7 : y5 ≤ 72) (h8 : ¬ (y1 < 0)) (h9 : (y1 + (y5 - y4)) = y3) (h10 : y3 ≤ 64) (h11 : ¬ (y4 < 0)) : ¬ (y0 < 0) ∧ y0 ≤ 97 ∧ ¬ (y1 < 0) ∧ y1 < 64 := gq_leafRead_s3 h0 h1 h2 h3 h4 h5 h6 h7 h8 h9 h10 h11
theorem gq_leafRead_s34 {y0 : Int32} {y1 : Int32} {y2 : Int32} {y3 : Int32} {y4 : Int32} {y5 : Int32} (h0 : y1 = (y2 + 1)) (h1 : y3 ≤ y4) (h2 : ¬ (y4 < 0)) (h3 : y1 ≤ 64) (h4 : y0 = (y5 + 1)) (h5 : y5 ≤ 64) (h6 : y4 ≤ 72) (h7 : ¬ (y5 < 0)) (h8 : (y5 + (y4 - y3)) = y2) (h9 : y2 ≤ 64) (h10 : ¬ (y3 < 0)) : y0 ≤ 64 := gq_leafRead_s4 h0 h1 h2 h3 h4 h5 h6 h7 h8 h9 h10
theorem gq_leafRead_s35 {y0 : Int32} {y1 : Int32} (h0 : y0 = (y1 + 1)) (h1 : y1 ≤ 64) (h2 : ¬ (y1 < 0)) : ¬ (y0 < 0) := by lia
theorem gq_leafRead_s36 {y0 : Int32} {y1 : Int32} {y2 : Int32} {y3 : Int32} {y4 : Int32} {y5 : Int32} (h0 : y3 = (y4 + 1)) (h1 : y2 ≤ y1) (h2 : ¬ (y1 < 0)) (h3 : y0 = (y5 + 1)) (h4 : y5 ≤ 64) (h5 : y1 ≤ 72) (h6 : ¬ (y5 < 0)) (h7 : (y5 + (y1 - y2)) = y4) (h8 : y4 ≤ 64) (h9 : ¬ (y2 < 0)) : (y0 + (y1 - y2)) = y3 := gq_leafRead_s6 h0 h1 h2 h3 h4 h5 h6 h7 h8 h9
theorem gq_leafRead_s37  : ¬ ((0 : Int32) < 0) := (by decide)
theorem gq_leafRead_s38  : (0 : Int32) ≤ 1 := (by decide)
theorem gq_leafRead_s39 {y0 : Int32} {y1 : Int32} (h0 : y0 = (y1 + 1)) (h1 : y1 ≤ 64) (h2 : ¬ (y1 < 0)) : ¬ ((y0 + 0) < 1) := by lia
theorem gq_leafRead_s40 {y0 : Int32} {y1 : Int32} (h0 : y1 = (y0 + 1)) (h1 : y0 ≤ 64) : y0 ≤ y1 := by lia
theorem gq_leafRead_s41 {y0 : Int32} {y1 : Int32} {y2 : Int32} {y3 : Int32} {y4 : Int32} (h0 : y1 = (y2 + 1)) (h1 : y3 ≤ y4) (h2 : ¬ (y4 < 0)) (h3 : y1 ≤ 64) (h4 : y0 ≤ 64) (h5 : y4 ≤ 72) (h6 : ¬ (y0 < 0)) (h7 : (y0 + (y4 - y3)) = y2) (h8 : y2 ≤ 64) (h9 : ¬ (y3 < 0)) : y0 < 64 := gq_leafRead_s1 h0 h1 h2 h3 h4 h5 h6 h7 h8 h9
theorem gq_leafRead_s42 {y0 : Int32} {y1 : Int32} (h0 : y0 ≤ (y1 + 1)) (h1 : y1 ≤ 72) : y0 < 96 := by lia
theorem gq_leafRead_s43 {y0 : Int32} {y1 : Int32} {y2 : Int32} {y3 : Int32} {y4 : Int32} {y5 : Int32} (h0 : y2 = (y3 + 1)) (h1 : y4 ≤ y5) (h2 : ¬ (y5 < 0)) (h3 : ¬ (y0 < 0)) (h4 : y0 ≤ (y5 + 1)) (h5 : y2 ≤ 64) (h6 : y1 ≤ 64) (h7 : y5 ≤ 72) (h8 : ¬ (y1 < 0)) (h9 : (y1 + (y5 - y4)) = y3) (h10 : y3 ≤ 64) (h11 : ¬ (y4 < 0)) : ¬ (y0 < 0) ∧ y0 ≤ 97 ∧ ¬ (y1 < 0) ∧ y1 < 64 := gq_leafRead_s3 h0 h1 h2 h3 h4 h5 h6 h7 h8 h9 h10 h11
theorem gq_leafRead_s44 {y0 : Int32} {y1 : Int32} {y2 : Int32} {y3 : Int32} {y4 : Int32} {y5 : Int32} (h0 : y1 = (y2 + 1)) (h1 : y3 ≤ y4) (h2 : ¬ (y4 < 0)) (h3 : y1 ≤ 64) (h4 : y0 = (y5 + 1)) (h5 : y5 ≤ 64) (h6 : y4 ≤ 72) (h7 : ¬ (y5 < 0)) (h8 : (y5 + (y4 - y3)) = y2) (h9 : y2 ≤ 64) (h10 : ¬ (y3 < 0)) : y0 ≤ 64 := gq_leafRead_s4 h0 h1 h2 h3 h4 h5 h6 h7 h8 h9 h10
theorem gq_leafRead_s45 {y0 : Int32} {y1 : Int32} (h0 : y0 = (y1 + 1)) (h1 : y1 ≤ 64) (h2 : ¬ (y1 < 0)) : ¬ (y0 < 0) := by lia
theorem gq_leafRead_s46 {y0 : Int32} {y1 : Int32} {y2 : Int32} {y3 : Int32} {y4 : Int32} {y5 : Int32} (h0 : y3 = (y4 + 1)) (h1 : y2 ≤ y1) (h2 : ¬ (y1 < 0)) (h3 : y0 = (y5 + 1)) (h4 : y5 ≤ 64) (h5 : y1 ≤ 72) (h6 : ¬ (y5 < 0)) (h7 : (y5 + (y1 - y2)) = y4) (h8 : y4 ≤ 64) (h9 : ¬ (y2 < 0)) : (y0 + (y1 - y2)) = y3 := gq_leafRead_s6 h0 h1 h2 h3 h4 h5 h6 h7 h8 h9
theorem gq_leafRead_s47  : ¬ ((0 : Int32) < 0) := (by decide)
theorem gq_leafRead_s48  : (0 : Int32) ≤ 1 := (by decide)
theorem gq_leafRead_s49 {y0 : Int32} {y1 : Int32} (h0 : y0 = (y1 + 1)) (h1 : y1 ≤ 64) (h2 : ¬ (y1 < 0)) : ¬ ((y0 + 0) < 1) := by lia
theorem gq_leafRead_s50 {y0 : Int32} {y1 : Int32} (h0 : y1 = (y0 + 1)) (h1 : y0 ≤ 64) : y0 ≤ y1 := by lia
theorem gq_leafRead_s51 {y0 : Int32} {y1 : Int32} {y2 : Int32} {y3 : Int32} {y4 : Int32} (h0 : y1 = (y2 + 1)) (h1 : y3 ≤ y4) (h2 : ¬ (y4 < 0)) (h3 : y1 ≤ 64) (h4 : y0 ≤ 64) (h5 : y4 ≤ 72) (h6 : ¬ (y0 < 0)) (h7 : (y0 + (y4 - y3)) = y2) (h8 : y2 ≤ 64) (h9 : ¬ (y3 < 0)) : y0 < 64 := gq_leafRead_s1 h0 h1 h2 h3 h4 h5 h6 h7 h8 h9
theorem gq_leafRead_s52 {y0 : Int32} {y1 : Int32} (h0 : y0 ≤ (y1 + 1)) (h1 : y1 ≤ 72) : y0 < 96 := by lia
theorem gq_leafRead_s53 {y0 : Int32} {y1 : Int32} {y2 : Int32} {y3 : Int32} {y4 : Int32} {y5 : Int32} (h0 : y2 = (y3 + 1)) (h1 : y4 ≤ y5) (h2 : ¬ (y5 < 0)) (h3 : ¬ (y0 < 0)) (h4 : y0 ≤ (y5 + 1)) (h5 : y2 ≤ 64) (h6 : y1 ≤ 64) (h7 : y5 ≤ 72) (h8 : ¬ (y1 < 0)) (h9 : (y1 + (y5 - y4)) = y3) (h10 : y3 ≤ 64) (h11 : ¬ (y4 < 0)) : ¬ (y0 < 0) ∧ y0 ≤ 97 ∧ ¬ (y1 < 0) ∧ y1 < 64 := gq_leafRead_s3 h0 h1 h2 h3 h4 h5 h6 h7 h8 h9 h10 h11
theorem gq_leafRead_s54 {y0 : Int32} {y1 : Int32} {y2 : Int32} {y3 : Int32} {y4 : Int32} {y5 : Int32} (h0 : y1 = (y2 + 1)) (h1 : y3 ≤ y4) (h2 : ¬ (y4 < 0)) (h3 : y1 ≤ 64) (h4 : y0 = (y5 + 1)) (h5 : y5 ≤ 64) (h6 : y4 ≤ 72) (h7 : ¬ (y5 < 0)) (h8 : (y5 + (y4 - y3)) = y2) (h9 : y2 ≤ 64) (h10 : ¬ (y3 < 0)) : y0 ≤ 64 := gq_leafRead_s4 h0 h1 h2 h3 h4 h5 h6 h7 h8 h9 h10
theorem gq_leafRead_s55 {y0 : Int32} {y1 : Int32} (h0 : y0 = (y1 + 1)) (h1 : y1 ≤ 64) (h2 : ¬ (y1 < 0)) : ¬ (y0 < 0) := by lia
theorem gq_leafRead_s56 {y0 : Int32} {y1 : Int32} {y2 : Int32} {y3 : Int32} {y4 : Int32} {y5 : Int32} (h0 : y3 = (y4 + 1)) (h1 : y2 ≤ y1) (h2 : ¬ (y1 < 0)) (h3 : y0 = (y5 + 1)) (h4 : y5 ≤ 64) (h5 : y1 ≤ 72) (h6 : ¬ (y5 < 0)) (h7 : (y5 + (y1 - y2)) = y4) (h8 : y4 ≤ 64) (h9 : ¬ (y2 < 0)) : (y0 + (y1 - y2)) = y3 := gq_leafRead_s6 h0 h1 h2 h3 h4 h5 h6 h7 h8 h9
theorem gq_leafRead_s57  : ¬ ((0 : Int32) < 0) := (by decide)
theorem gq_leafRead_s58  : (0 : Int32) ≤ 1 := (by decide)
theorem gq_leafRead_s59 {y0 : Int32} {y1 : Int32} (h0 : y0 = (y1 + 1)) (h1 : y1 ≤ 64) (h2 : ¬ (y1 < 0)) : ¬ ((y0 + 0) < 1) := by lia
theorem gq_leafRead_s60 {y0 : Int32} {y1 : Int32} (h0 : y1 = (y0 + 1)) (h1 : y0 ≤ 64) : y0 ≤ y1 := by lia
theorem gq_leafRead_s61 {y0 : Int32} {y1 : Int32} {y2 : Int32} {y3 : Int32} {y4 : Int32} (h0 : y1 = (y2 + 1)) (h1 : y3 ≤ y4) (h2 : ¬ (y4 < 0)) (h3 : y1 ≤ 64) (h4 : y0 ≤ 64) (h5 : y4 ≤ 72) (h6 : ¬ (y0 < 0)) (h7 : (y0 + (y4 - y3)) = y2) (h8 : y2 ≤ 64) (h9 : ¬ (y3 < 0)) : y0 < 64 := gq_leafRead_s1 h0 h1 h2 h3 h4 h5 h6 h7 h8 h9
theorem gq_leafRead_s62 {y0 : Int32} {y1 : Int32} (h0 : y0 ≤ (y1 + 1)) (h1 : y1 ≤ 72) : y0 < 96 := by lia
theorem gq_leafRead_s63 {y0 : Int32} {y1 : Int32} {y2 : Int32} {y3 : Int32} {y4 : Int32} {y5 : Int32} (h0 : y2 = (y3 + 1)) (h1 : y4 ≤ y5) (h2 : ¬ (y5 < 0)) (h3 : ¬ (y0 < 0)) (h4 : y0 ≤ (y5 + 1)) (h5 : y2 ≤ 64) (h6 : y1 ≤ 64) (h7 : y5 ≤ 72) (h8 : ¬ (y1 < 0)) (h9 : (y1 + (y5 - y4)) = y3) (h10 : y3 ≤ 64) (h11 : ¬ (y4 < 0)) : ¬ (y0 < 0) ∧ y0 ≤ 97 ∧ ¬ (y1 < 0) ∧ y1 < 64 := gq_leafRead_s3 h0 h1 h2 h3 h4 h5 h6 h7 h8 h9 h10 h11
theorem gq_leafRead_s64 {y0 : Int32} {y1 : Int32} {y2 : Int32} {y3 : Int32} {y4 : Int32} {y5 : Int32} (h0 : y1 = (y2 + 1)) (h1 : y3 ≤ y4) (h2 : ¬ (y4 < 0)) (h3 : y1 ≤ 64) (h4 : y0 = (y5 + 1)) (h5 : y5 ≤ 64) (h6 : y4 ≤ 72) (h7 : ¬ (y5 < 0)) (h8 : (y5 + (y4 - y3)) = y2) (h9 : y2 ≤ 64) (h10 : ¬ (y3 < 0)) : y0 ≤ 64 := gq_leafRead_s4 h0 h1 h2 h3 h4 h5 h6 h7 h8 h9 h10
theorem gq_leafRead_s65 {y0 : Int32} {y1 : Int32} (h0 : y0 = (y1 + 1)) (h1 : y1 ≤ 64) (h2 : ¬ (y1 < 0)) : ¬ (y0 < 0) := by lia
theorem gq_leafRead_s66 {y0 : Int32} {y1 : Int32} {y2 : Int32} {y3 : Int32} {y4 : Int32} {y5 : Int32} (h0 : y3 = (y4 + 1)) (h1 : y2 ≤ y1) (h2 : ¬ (y1 < 0)) (h3 : y0 = (y5 + 1)) (h4 : y5 ≤ 64) (h5 : y1 ≤ 72) (h6 : ¬ (y5 < 0)) (h7 : (y5 + (y1 - y2)) = y4) (h8 : y4 ≤ 64) (h9 : ¬ (y2 < 0)) : (y0 + (y1 - y2)) = y3 := gq_leafRead_s6 h0 h1 h2 h3 h4 h5 h6 h7 h8 h9
theorem gq_leafRead_s67  : ¬ ((0 : Int32) < 0) := (by decide)
theorem gq_leafRead_s68  : (0 : Int32) ≤ 1 := (by decide)
theorem gq_leafRead_s69 {y0 : Int32} {y1 : Int32} (h0 : y0 = (y1 + 1)) (h1 : y1 ≤ 64) (h2 : ¬ (y1 < 0)) : ¬ ((y0 + 0) < 1) := by lia
theorem gq_leafRead_s70 {y0 : Int32} {y1 : Int32} (h0 : y1 = (y0 + 1)) (h1 : y0 ≤ 64) : y0 ≤ y1 := by lia
theorem gq_leafRead_s71 {y0 : Int32} {y1 : Int32} {y2 : Int32} {y3 : Int32} {y4 : Int32} (h0 : y1 = (y2 + 1)) (h1 : y3 ≤ y4) (h2 : ¬ (y4 < 0)) (h3 : y1 ≤ 64) (h4 : y0 ≤ 64) (h5 : y4 ≤ 72) (h6 : ¬ (y0 < 0)) (h7 : (y0 + (y4 - y3)) = y2) (h8 : y2 ≤ 64) (h9 : ¬ (y3 < 0)) : y0 < 64 := gq_leafRead_s1 h0 h1 h2 h3 h4 h5 h6 h7 h8 h9
theorem gq_leafRead_s72 {y0 : Int32} {y1 : Int32} (h0 : y0 ≤ (y1 + 1)) (h1 : y1 ≤ 72) : y0 < 96 := by lia
theorem gq_leafRead_s73 {y0 : Int32} {y1 : Int32} {y2 : Int32} {y3 : Int32} {y4 : Int32} {y5 : Int32} (h0 : y2 = (y3 + 1)) (h1 : y4 ≤ y5) (h2 : ¬ (y5 < 0)) (h3 : ¬ (y0 < 0)) (h4 : y0 ≤ (y5 + 1)) (h5 : y2 ≤ 64) (h6 : y1 ≤ 64) (h7 : y5 ≤ 72) (h8 : ¬ (y1 < 0)) (h9 : (y1 + (y5 - y4)) = y3) (h10 : y3 ≤ 64) (h11 : ¬ (y4 < 0)) : ¬ (y0 < 0) ∧ y0 ≤ 97 ∧ ¬ (y1 < 0) ∧ y1 < 64 := gq_leafRead_s3 h0 h1 h2 h3 h4 h5 h6 h7 h8 h9 h10 h11
theorem gq_leafRead_s74 {y0 : Int32} {y1 : Int32} {y2 : Int32} {y3 : Int32} {y4 : Int32} {y5 : Int32} (h0 : y1 = (y2 + 1)) (h1 : y3 ≤ y4) (h2 : ¬ (y4 < 0)) (h3 : y1 ≤ 64) (h4 : y0 = (y5 + 1)) (h5 : y5 ≤ 64) (h6 : y4 ≤ 72) (h7 : ¬ (y5 < 0)) (h8 : (y5 + (y4 - y3)) = y2) (h9 : y2 ≤ 64) (h10 : ¬ (y3 < 0)) : y0 ≤ 64 := gq_leafRead_s4 h0 h1 h2 h3 h4 h5 h6 h7 h8 h9 h10
theorem gq_leafRead_s75 {y0 : Int32} {y1 : Int32} (h0 : y0 = (y1 + 1)) (h1 : y1 ≤ 64) (h2 : ¬ (y1 < 0)) : ¬ (y0 < 0) := by lia
theorem gq_leafRead_s76 {y0 : Int32} {y1 : Int32} {y2 : Int32} {y3 : Int32} {y4 : Int32} {y5 : Int32} (h0 : y3 = (y4 + 1)) (h1 : y2 ≤ y1) (h2 : ¬ (y1 < 0)) (h3 : y0 = (y5 + 1)) (h4 : y5 ≤ 64) (h5 : y1 ≤ 72) (h6 : ¬ (y5 < 0)) (h7 : (y5 + (y1 - y2)) = y4) (h8 : y4 ≤ 64) (h9 : ¬ (y2 < 0)) : (y0 + (y1 - y2)) = y3 := gq_leafRead_s6 h0 h1 h2 h3 h4 h5 h6 h7 h8 h9
theorem gq_leafRead_s77  : ¬ ((0 : Int32) < 0) := (by decide)
theorem gq_leafRead_s78  : (0 : Int32) ≤ 1 := (by decide)
theorem gq_leafRead_s79 {y0 : Int32} {y1 : Int32} (h0 : y0 = (y1 + 1)) (h1 : y1 ≤ 64) (h2 : ¬ (y1 < 0)) : ¬ ((y0 + 0) < 1) := by lia
theorem gq_leafRead_s80 {y0 : Int32} {y1 : Int32} (h0 : y1 = (y0 + 1)) (h1 : y0 ≤ 64) : y0 ≤ y1 := by lia
theorem gq_leafRead_s81 {y0 : Int32} (h0 : y0 ≤ 72) : y0 < 96 := by lia
theorem gq_leafRead_s82 {y0 : Int32} (h0 : y0 ≤ 72) : y0 ≤ 95 := by lia
theorem gq_leafRead_s83 {y0 : Int32} {y1 : Int32} {y2 : Int32} {y3 : Int32} {y4 : Int32} {y5 : Int32} (h0 : y1 = (y2 + 1)) (h1 : ¬ (y3 < 0)) (h2 : y1 ≤ 64) (h3 : y0 = (y3 + 1)) (h4 : y4 ≤ 64) (h5 : y3 ≤ 72) (h6 : ¬ (y4 < 0)) (h7 : (y4 + (y3 - y5)) = y2) (h8 : y2 ≤ 64) (h9 : ¬ (y5 < 0)) (h10 : y5 ≤ 8) : y0 ≤ 72 := by
  have l_y0 := y0.le_toInt
  have u_y0 := y0.toInt_lt
  have l_y1 := y1.le_toInt
  have u_y1 := y1.toInt_lt
  have l_y2 := y2.le_toInt
  have u_y2 := y2.toInt_lt
  have l_y3 := y3.le_toInt
  have u_y3 := y3.toInt_lt
  have l_y4 := y4.le_toInt
  have u_y4 := y4.toInt_lt
  have l_y5 := y5.le_toInt
  have u_y5 := y5.toInt_lt
  have h1 : 0 ≤ y3.toInt := Int.not_lt.mp (fun z => h1 (Int32.lt_iff_toInt_lt.mpr z))
  have h2 : y1.toInt ≤ 64 := Int32.le_iff_toInt_le.mp h2
  have h4 : y4.toInt ≤ 64 := Int32.le_iff_toInt_le.mp h4
  have h5 : y3.toInt ≤ 72 := Int32.le_iff_toInt_le.mp h5
  have h6 : 0 ≤ y4.toInt := Int.not_lt.mp (fun z => h6 (Int32.lt_iff_toInt_lt.mpr z))
  have h8 : y2.toInt ≤ 64 := Int32.le_iff_toInt_le.mp h8
  have h9 : 0 ≤ y5.toInt := Int.not_lt.mp (fun z => h9 (Int32.lt_iff_toInt_lt.mpr z))
  have h10 : y5.toInt ≤ 8 := Int32.le_iff_toInt_le.mp h10
  have e20 : ((y2 + 1) : Int32).toInt = y2.toInt + 1 := by rw [Int32.toInt_add, show (1 : Int32).toInt = 1 from rfl, Int.bmod_eq_of_le (by omega) (by omega)]
  have e21 : ((y3 + 1) : Int32).toInt = y3.toInt + 1 := by rw [Int32.toInt_add, show (1 : Int32).toInt = 1 from rfl, Int.bmod_eq_of_le (by omega) (by omega)]
  have e22 : ((y3 - y5) : Int32).toInt = y3.toInt - y5.toInt := by rw [Int32.toInt_sub, Int.bmod_eq_of_le (by omega) (by omega)]
  have e23 : ((y4 + (y3 - y5)) : Int32).toInt = y4.toInt + ((y3 - y5) : Int32).toInt := by rw [Int32.toInt_add, Int.bmod_eq_of_le (by omega) (by omega)]
  have h0 : y1.toInt = ((y2 + 1) : Int32).toInt := congrArg Int32.toInt h0
  have h3 : y0.toInt = ((y3 + 1) : Int32).toInt := congrArg Int32.toInt h3
  have h7 : ((y4 + (y3 - y5)) : Int32).toInt = y2.toInt := congrArg Int32.toInt h7
  exact Int32.le_iff_toInt_le.mpr (show y0.toInt ≤ 72 by omega)
theorem gq_leafRead_s84 {y0 : Int32} {y1 : Int32} {y2 : Int32} {y3 : Int32} {y4 : Int32} {y5 : Int32} (h0 : y3 = (y4 + 1)) (h1 : ¬ (y5 < 0)) (h2 : y1 = (y5 + 1)) (h3 : y0 ≤ 64) (h4 : y5 ≤ 72) (h5 : ¬ (y0 < 0)) (h6 : (y0 + (y5 - y2)) = y4) (h7 : y4 ≤ 64) (h8 : ¬ (y2 < 0)) : (y0 + (y1 - y2)) = y3 := by
  have l_y0 := y0.le_toInt
  have u_y0 := y0.toInt_lt
  have l_y1 := y1.le_toInt
  have u_y1 := y1.toInt_lt
  have l_y2 := y2.le_toInt
  have u_y2 := y2.toInt_lt
  have l_y3 := y3.le_toInt
  have u_y3 := y3.toInt_lt
  have l_y4 := y4.le_toInt
  have u_y4 := y4.toInt_lt
  have l_y5 := y5.le_toInt
  have u_y5 := y5.toInt_lt
  have h1 : 0 ≤ y5.toInt := Int.not_lt.mp (fun z => h1 (Int32.lt_iff_toInt_lt.mpr z))
  have h3 : y0.toInt ≤ 64 := Int32.le_iff_toInt_le.mp h3
  have h4 : y5.toInt ≤ 72 := Int32.le_iff_toInt_le.mp h4
  have h5 : 0 ≤ y0.toInt := Int.not_lt.mp (fun z => h5 (Int32.lt_iff_toInt_lt.mpr z))
  have h7 : y4.toInt ≤ 64 := Int32.le_iff_toInt_le.mp h7
  have h8 : 0 ≤ y2.toInt := Int.not_lt.mp (fun z => h8 (Int32.lt_iff_toInt_lt.mpr z))
  have e18 : ((y4 + 1) : Int32).toInt = y4.toInt + 1 := by rw [Int32.toInt_add, show (1 : Int32).toInt = 1 from rfl, Int.bmod_eq_of_le (by omega) (by omega)]
  have e19 : ((y5 + 1) : Int32).toInt = y5.toInt + 1 := by rw [Int32.toInt_add, show (1 : Int32).toInt = 1 from rfl, Int.bmod_eq_of_le (by omega) (by omega)]
  have e20 : ((y5 - y2) : Int32).toInt = y5.toInt - y2.toInt := by rw [Int32.toInt_sub, Int.bmod_eq_of_le (by omega) (by omega)]
  have e21 : ((y0 + (y5 - y2)) : Int32).toInt = y0.toInt + ((y5 - y2) : Int32).toInt := by rw [Int32.toInt_add, Int.bmod_eq_of_le (by omega) (by omega)]
  have h0 : y3.toInt = ((y4 + 1) : Int32).toInt := congrArg Int32.toInt h0
  have h2 : y1.toInt = ((y5 + 1) : Int32).toInt := congrArg Int32.toInt h2
  have h6 : ((y0 + (y5 - y2)) : Int32).toInt = y4.toInt := congrArg Int32.toInt h6
  have e25 : ((y1 - y2) : Int32).toInt = y1.toInt - y2.toInt := by rw [Int32.toInt_sub, Int.bmod_eq_of_le (by omega) (by omega)]
  have e26 : ((y0 + (y1 - y2)) : Int32).toInt = y0.toInt + ((y1 - y2) : Int32).toInt := by rw [Int32.toInt_add, Int.bmod_eq_of_le (by omega) (by omega)]
  exact Int32.toInt_inj.mp (show ((y0 + (y1 - y2)) : Int32).toInt = y3.toInt by omega)
theorem gq_leafRead_s85 {y0 : Int32} (h0 : y0 = 1) : ¬ (y0 < 0) := by lia
theorem gq_leafRead_s86 {y0 : Int32} (h0 : y0 = 1) : y0 ≤ 1 := by lia
theorem gq_leafRead_s87 {y0 : Int32} {y1 : Int32} (h0 : y0 ≤ 64) (h1 : ¬ (y0 < 0)) (h2 : y1 = 1) : ¬ ((y0 + y1) < 1) := by lia
theorem gq_leafRead_s88 {y0 : Int32} : y0 ≤ y0 := by lia
theorem gq_leafRead_s89 {y0 : Int32} (h0 : y0 ≤ 72) : y0 < 96 := by lia
theorem gq_leafRead_s90 {y0 : Int32} (h0 : y0 ≤ 72) : y0 ≤ 95 := by lia
theorem gq_leafRead_s91 {y0 : Int32} {y1 : Int32} {y2 : Int32} {y3 : Int32} {y4 : Int32} (h0 : ¬ (y1 = 8)) (h1 : ¬ (y2 < 0)) (h2 : y0 = (y2 + 1)) (h3 : y3 ≤ 64) (h4 : y2 ≤ 72) (h5 : ¬ (y3 < 0)) (h6 : (y3 + (y2 - y1)) = y4) (h7 : y4 ≤ 64) (h8 : ¬ (y1 < 0)) (h9 : y1 ≤ 8) : y0 ≤ 72 := by
  have l_y0 := y0.le_toInt
  have u_y0 := y0.toInt_lt
  have l_y1 := y1.le_toInt
  have u_y1 := y1.toInt_lt
  have l_y2 := y2.le_toInt
  have u_y2 := y2.toInt_lt
  have l_y3 := y3.le_toInt
  have u_y3 := y3.toInt_lt
  have l_y4 := y4.le_toInt
  have u_y4 := y4.toInt_lt
  have h0 : ¬ (y1.toInt = 8) := fun z => h0 (Int32.toInt_inj.mp z)
  have h1 : 0 ≤ y2.toInt := Int.not_lt.mp (fun z => h1 (Int32.lt_iff_toInt_lt.mpr z))
  have h3 : y3.toInt ≤ 64 := Int32.le_iff_toInt_le.mp h3
  have h4 : y2.toInt ≤ 72 := Int32.le_iff_toInt_le.mp h4
  have h5 : 0 ≤ y3.toInt := Int.not_lt.mp (fun z => h5 (Int32.lt_iff_toInt_lt.mpr z))
  have h7 : y4.toInt ≤ 64 := Int32.le_iff_toInt_le.mp h7
  have h8 : 0 ≤ y1.toInt := Int.not_lt.mp (fun z => h8 (Int32.lt_iff_toInt_lt.mpr z))
  have h9 : y1.toInt ≤ 8 := Int32.le_iff_toInt_le.mp h9
  have e18 : ((y2 + 1) : Int32).toInt = y2.toInt + 1 := by rw [Int32.toInt_add, show (1 : Int32).toInt = 1 from rfl, Int.bmod_eq_of_le (by omega) (by omega)]
  have e19 : ((y2 - y1) : Int32).toInt = y2.toInt - y1.toInt := by rw [Int32.toInt_sub, Int.bmod_eq_of_le (by omega) (by omega)]
  have e20 : ((y3 + (y2 - y1)) : Int32).toInt = y3.toInt + ((y2 - y1) : Int32).toInt := by rw [Int32.toInt_add, Int.bmod_eq_of_le (by omega) (by omega)]
  have h2 : y0.toInt = ((y2 + 1) : Int32).toInt := congrArg Int32.toInt h2
  have h6 : ((y3 + (y2 - y1)) : Int32).toInt = y4.toInt := congrArg Int32.toInt h6
  exact Int32.le_iff_toInt_le.mpr (show y0.toInt ≤ 72 by omega)
theorem gq_leafRead_s92 {y0 : Int32} {y1 : Int32} {y2 : Int32} {y3 : Int32} {y4 : Int32} (h0 : ¬ (y4 < 0)) (h1 : y1 = (y4 + 1)) (h2 : y0 ≤ 64) (h3 : y4 ≤ 72) (h4 : ¬ (y0 < 0)) (h5 : (y0 + (y4 - y2)) = y3) (h6 : ¬ (y2 < 0)) (h7 : y2 ≤ 8) : (y0 + (y1 - (y2 + 1))) = y3 := by
  have l_y0 := y0.le_toInt
  have u_y0 := y0.toInt_lt
  have l_y1 := y1.le_toInt
  have u_y1 := y1.toInt_lt
  have l_y2 := y2.le_toInt
  have u_y2 := y2.toInt_lt
  have l_y3 := y3.le_toInt
  have u_y3 := y3.toInt_lt
  have l_y4 := y4.le_toInt
  have u_y4 := y4.toInt_lt
  have h0 : 0 ≤ y4.toInt := Int.not_lt.mp (fun z => h0 (Int32.lt_iff_toInt_lt.mpr z))
  have h2 : y0.toInt ≤ 64 := Int32.le_iff_toInt_le.mp h2
  have h3 : y4.toInt ≤ 72 := Int32.le_iff_toInt_le.mp h3
  have h4 : 0 ≤ y0.toInt := Int.not_lt.mp (fun z => h4 (Int32.lt_iff_toInt_lt.mpr z))
  have h6 : 0 ≤ y2.toInt := Int.not_lt.mp (fun z => h6 (Int32.lt_iff_toInt_lt.mpr z))
  have h7 : y2.toInt ≤ 8 := Int32.le_iff_toInt_le.mp h7
  have e16 : ((y4 + 1) : Int32).toInt = y4.toInt + 1 := by rw [Int32.toInt_add, show (1 : Int32).toInt = 1 from rfl, Int.bmod_eq_of_le (by omega) (by omega)]
  have e17 : ((y4 - y2) : Int32).toInt = y4.toInt - y2.toInt := by rw [Int32.toInt_sub, Int.bmod_eq_of_le (by omega) (by omega)]
  have e18 : ((y0 + (y4 - y2)) : Int32).toInt = y0.toInt + ((y4 - y2) : Int32).toInt := by rw [Int32.toInt_add, Int.bmod_eq_of_le (by omega) (by omega)]
  have e19 : ((y2 + 1) : Int32).toInt = y2.toInt + 1 := by rw [Int32.toInt_add, show (1 : Int32).toInt = 1 from rfl, Int.bmod_eq_of_le (by omega) (by omega)]
  have h1 : y1.toInt = ((y4 + 1) : Int32).toInt := congrArg Int32.toInt h1
  have h5 : ((y0 + (y4 - y2)) : Int32).toInt = y3.toInt := congrArg Int32.toInt h5
  have e22 : ((y1 - (y2 + 1)) : Int32).toInt = y1.toInt - ((y2 + 1) : Int32).toInt := by rw [Int32.toInt_sub, Int.bmod_eq_of_le (by omega) (by omega)]
  have e23 : ((y0 + (y1 - (y2 + 1))) : Int32).toInt = y0.toInt + ((y1 - (y2 + 1)) : Int32).toInt := by rw [Int32.toInt_add, Int.bmod_eq_of_le (by omega) (by omega)]
  exact Int32.toInt_inj.mp (show ((y0 + (y1 - (y2 + 1))) : Int32).toInt = y3.toInt by omega)
theorem gq_leafRead_s93 {y0 : Int32} (h0 : ¬ (y0 < 0)) (h1 : y0 ≤ 8) : ¬ ((y0 + 1) < 0) := by lia
theorem gq_leafRead_s94 {y0 : Int32} (h0 : ¬ (y0 = 8)) (h1 : y0 ≤ 8) : (y0 + 1) ≤ 8 := by lia
theorem gq_leafRead_s95 {y0 : Int32} (h0 : y0 = 1) : ¬ (y0 < 0) := by lia
theorem gq_leafRead_s96 {y0 : Int32} (h0 : y0 = 1) : y0 ≤ 1 := by lia
theorem gq_leafRead_s97 {y0 : Int32} {y1 : Int32} (h0 : y0 ≤ 64) (h1 : ¬ (y0 < 0)) (h2 : y1 = 1) : ¬ ((y0 + y1) < 1) := by lia
theorem gq_leafRead_s98 {y0 : Int32} : y0 ≤ y0 := by lia
theorem gq_leafRead_s99 {y0 : Int32} (h0 : ¬ (y0 = 8)) (h1 : ¬ (y0 < 0)) (h2 : y0 ≤ 8) : ¬ (y0 < 0) ∧ y0 < 8 := by lia
theorem dX12_leafRead_0 : decode cX12_leafRead 0 = .ok (.aload_n 0, 1) := zk_42 (by decide +kernel)
theorem dX12_leafRead_1 : decode cX12_leafRead 1 = .ok (.bipush 40, 2) := zk_16 (by decide +kernel)
theorem dX12_leafRead_3 : decode cX12_leafRead 3 = .ok (.invokevirtual 176, 3) := zk_182 (by decide +kernel)
theorem dX12_leafRead_6 : decode cX12_leafRead 6 = .ok (.ifCond .eq 44, 3) := zk_153 (by decide +kernel)
theorem dX12_leafRead_50 : decode cX12_leafRead 50 = .ok (.aload_n 0, 1) := zk_42 (by decide +kernel)
theorem dX12_leafRead_51 : decode cX12_leafRead 51 = .ok (.bipush 18, 2) := zk_16 (by decide +kernel)
theorem dX12_leafRead_53 : decode cX12_leafRead 53 = .ok (.invokevirtual 183, 3) := zk_182 (by decide +kernel)
theorem dX12_leafRead_56 : decode cX12_leafRead 56 = .ok (.ifCond .eq 30, 3) := zk_153 (by decide +kernel)
theorem dX12_leafRead_86 : decode cX12_leafRead 86 = .ok (.aload_n 0, 1) := zk_42 (by decide +kernel)
theorem dX12_leafRead_87 : decode cX12_leafRead 87 = .ok (.invokevirtual 360, 3) := zk_182 (by decide +kernel)
theorem dX12_leafRead_90 : decode cX12_leafRead 90 = .ok (.istore_n 1, 1) := zk_60 (by decide +kernel)
theorem dX12_leafRead_91 : decode cX12_leafRead 91 = .ok (.iload_n 1, 1) := zk_27 (by decide +kernel)
theorem dX12_leafRead_92 : decode cX12_leafRead 92 = .ok (.ifCond .ge 17, 3) := zk_156 (by decide +kernel)
theorem dX12_leafRead_109 : decode cX12_leafRead 109 = .ok (.iload_n 1, 1) := zk_27 (by decide +kernel)
theorem dX12_leafRead_110 : decode cX12_leafRead 110 = .ok (.ifCond .ge 19, 3) := zk_156 (by decide +kernel)
theorem dX12_leafRead_129 : decode cX12_leafRead 129 = .ok (.aload_n 0, 1) := zk_42 (by decide +kernel)
theorem dX12_leafRead_130 : decode cX12_leafRead 130 = .ok (.invokevirtual 357, 3) := zk_182 (by decide +kernel)
theorem dX12_leafRead_133 : decode cX12_leafRead 133 = .ok (.ifCond .ne 5, 3) := zk_154 (by decide +kernel)
theorem dX12_leafRead_138 : decode cX12_leafRead 138 = .ok (.aload_n 0, 1) := zk_42 (by decide +kernel)
theorem dX12_leafRead_139 : decode cX12_leafRead 139 = .ok (.iload_n 1, 1) := zk_27 (by decide +kernel)
theorem dX12_leafRead_140 : decode cX12_leafRead 140 = .ok (.ifCond .lt 7, 3) := zk_155 (by decide +kernel)
theorem dX12_leafRead_147 : decode cX12_leafRead 147 = .ok (.iconst 0, 1) := zk_3 (by decide +kernel)
theorem dX12_leafRead_148 : decode cX12_leafRead 148 = .ok (.iload_n 1, 1) := zk_27 (by decide +kernel)
theorem dX12_leafRead_149 : decode cX12_leafRead 149 = .ok (.ifCond .lt 7, 3) := zk_155 (by decide +kernel)
theorem dX12_leafRead_156 : decode cX12_leafRead 156 = .ok (.aload_n 0, 1) := zk_42 (by decide +kernel)
theorem dX12_leafRead_157 : decode cX12_leafRead 157 = .ok (.getfield 150, 3) := zk_180 (by decide +kernel)
theorem dX12_leafRead_160 : decode cX12_leafRead 160 = .ok (.iconst 0, 1) := zk_3 (by decide +kernel)
theorem dX12_leafRead_161 : decode cX12_leafRead 161 = .ok (.invokevirtual 343, 3) := zk_182 (by decide +kernel)
theorem dX12_leafRead_164 : decode cX12_leafRead 164 = .ok (.aload_n 0, 1) := zk_42 (by decide +kernel)
theorem dX12_leafRead_165 : decode cX12_leafRead 165 = .ok (.iconst 0, 1) := zk_3 (by decide +kernel)
theorem dX12_leafRead_166 : decode cX12_leafRead 166 = .ok (.putfield 363, 3) := zk_181 (by decide +kernel)
theorem dX12_leafRead_169 : decode cX12_leafRead 169 = .ok (.aload_n 0, 1) := zk_42 (by decide +kernel)
theorem dX12_leafRead_170 : decode cX12_leafRead 170 = .ok (.invokevirtual 173, 3) := zk_182 (by decide +kernel)
theorem dX12_leafRead_173 : decode cX12_leafRead 173 = .ok (.iconst 1, 1) := zk_4 (by decide +kernel)
theorem dX12_leafRead_174 : decode cX12_leafRead 174 = .ok (.ireturn, 1) := zk_172 (by decide +kernel)
theorem dX12_leafRead_143 : decode cX12_leafRead 143 = .ok (.iconst 1, 1) := zk_4 (by decide +kernel)
theorem dX12_leafRead_144 : decode cX12_leafRead 144 = .ok (.goto 4, 3) := zk_167 (by decide +kernel)
theorem dX12_leafRead_152 : decode cX12_leafRead 152 = .ok (.iload_n 1, 1) := zk_27 (by decide +kernel)
theorem dX12_leafRead_153 : decode cX12_leafRead 153 = .ok (.goto 7, 3) := zk_167 (by decide +kernel)
theorem dX12_leafRead_136 : decode cX12_leafRead 136 = .ok (.iconst 0, 1) := zk_3 (by decide +kernel)
theorem dX12_leafRead_137 : decode cX12_leafRead 137 = .ok (.ireturn, 1) := zk_172 (by decide +kernel)
theorem dX12_leafRead_95 : decode cX12_leafRead 95 = .ok (.aload_n 0, 1) := zk_42 (by decide +kernel)
theorem dX12_leafRead_96 : decode cX12_leafRead 96 = .ok (.getfield 139, 3) := zk_180 (by decide +kernel)
theorem dX12_leafRead_99 : decode cX12_leafRead 99 = .ok (.iconst 3, 1) := zk_6 (by decide +kernel)
theorem dX12_leafRead_100 : decode cX12_leafRead 100 = .ok (.if_icmp .eq 9, 3) := zk_159 (by decide +kernel)
theorem dX12_leafRead_113 : decode cX12_leafRead 113 = .ok (.aload_n 0, 1) := zk_42 (by decide +kernel)
theorem dX12_leafRead_114 : decode cX12_leafRead 114 = .ok (.getfield 150, 3) := zk_180 (by decide +kernel)
theorem dX12_leafRead_117 : decode cX12_leafRead 117 = .ok (.sipush 9999, 3) := zk_17 (by decide +kernel)
theorem dX12_leafRead_120 : decode cX12_leafRead 120 = .ok (.if_icmp .le 9, 3) := zk_164 (by decide +kernel)
theorem dX12_leafRead_123 : decode cX12_leafRead 123 = .ok (.aload_n 0, 1) := zk_42 (by decide +kernel)
theorem dX12_leafRead_124 : decode cX12_leafRead 124 = .ok (.iconst 2, 1) := zk_5 (by decide +kernel)
theorem dX12_leafRead_125 : decode cX12_leafRead 125 = .ok (.invokevirtual 163, 3) := zk_182 (by decide +kernel)
theorem dX12_leafRead_128 : decode cX12_leafRead 128 = .ok (.ireturn, 1) := zk_172 (by decide +kernel)
theorem dX12_leafRead_103 : decode cX12_leafRead 103 = .ok (.aload_n 0, 1) := zk_42 (by decide +kernel)
theorem dX12_leafRead_104 : decode cX12_leafRead 104 = .ok (.iconst 1, 1) := zk_4 (by decide +kernel)
theorem dX12_leafRead_105 : decode cX12_leafRead 105 = .ok (.invokevirtual 163, 3) := zk_182 (by decide +kernel)
theorem dX12_leafRead_108 : decode cX12_leafRead 108 = .ok (.ireturn, 1) := zk_172 (by decide +kernel)
theorem dX12_leafRead_59 : decode cX12_leafRead 59 = .ok (.aload_n 0, 1) := zk_42 (by decide +kernel)
theorem dX12_leafRead_60 : decode cX12_leafRead 60 = .ok (.getfield 354, 3) := zk_180 (by decide +kernel)
theorem dX12_leafRead_63 : decode cX12_leafRead 63 = .ok (.ifCond .eq 23, 3) := zk_153 (by decide +kernel)
theorem dX12_leafRead_66 : decode cX12_leafRead 66 = .ok (.aload_n 0, 1) := zk_42 (by decide +kernel)
theorem dX12_leafRead_67 : decode cX12_leafRead 67 = .ok (.invokevirtual 357, 3) := zk_182 (by decide +kernel)
theorem dX12_leafRead_70 : decode cX12_leafRead 70 = .ok (.ifCond .ne 5, 3) := zk_154 (by decide +kernel)
theorem dX12_leafRead_75 : decode cX12_leafRead 75 = .ok (.aload_n 0, 1) := zk_42 (by decide +kernel)
theorem dX12_leafRead_76 : decode cX12_leafRead 76 = .ok (.iconst 2, 1) := zk_5 (by decide +kernel)
theorem dX12_leafRead_77 : decode cX12_leafRead 77 = .ok (.invokevirtual 350, 3) := zk_182 (by decide +kernel)
theorem dX12_leafRead_80 : decode cX12_leafRead 80 = .ok (.aload_n 0, 1) := zk_42 (by decide +kernel)
theorem dX12_leafRead_81 : decode cX12_leafRead 81 = .ok (.invokevirtual 173, 3) := zk_182 (by decide +kernel)
theorem dX12_leafRead_84 : decode cX12_leafRead 84 = .ok (.iconst 1, 1) := zk_4 (by decide +kernel)
theorem dX12_leafRead_85 : decode cX12_leafRead 85 = .ok (.ireturn, 1) := zk_172 (by decide +kernel)
theorem dX12_leafRead_73 : decode cX12_leafRead 73 = .ok (.iconst 0, 1) := zk_3 (by decide +kernel)
theorem dX12_leafRead_74 : decode cX12_leafRead 74 = .ok (.ireturn, 1) := zk_172 (by decide +kernel)
theorem dX12_leafRead_9 : decode cX12_leafRead 9 = .ok (.aload_n 0, 1) := zk_42 (by decide +kernel)
theorem dX12_leafRead_10 : decode cX12_leafRead 10 = .ok (.getfield 347, 3) := zk_180 (by decide +kernel)
theorem dX12_leafRead_13 : decode cX12_leafRead 13 = .ok (.bipush 8, 2) := zk_16 (by decide +kernel)
theorem dX12_leafRead_15 : decode cX12_leafRead 15 = .ok (.if_icmp .ne 9, 3) := zk_160 (by decide +kernel)
theorem dX12_leafRead_24 : decode cX12_leafRead 24 = .ok (.aload_n 0, 1) := zk_42 (by decide +kernel)
theorem dX12_leafRead_25 : decode cX12_leafRead 25 = .ok (.dup, 1) := zk_89 (by decide +kernel)
theorem dX12_leafRead_26 : decode cX12_leafRead 26 = .ok (.getfield 347, 3) := zk_180 (by decide +kernel)
theorem dX12_leafRead_29 : decode cX12_leafRead 29 = .ok (.iconst 1, 1) := zk_4 (by decide +kernel)
theorem dX12_leafRead_30 : decode cX12_leafRead 30 = .ok (.iadd, 1) := zk_96 (by decide +kernel)
theorem dX12_leafRead_31 : decode cX12_leafRead 31 = .ok (.putfield 347, 3) := zk_181 (by decide +kernel)
theorem dX12_leafRead_34 : decode cX12_leafRead 34 = .ok (.aload_n 0, 1) := zk_42 (by decide +kernel)
theorem dX12_leafRead_35 : decode cX12_leafRead 35 = .ok (.iconst 0, 1) := zk_3 (by decide +kernel)
theorem dX12_leafRead_36 : decode cX12_leafRead 36 = .ok (.invokevirtual 350, 3) := zk_182 (by decide +kernel)
theorem dX12_leafRead_39 : decode cX12_leafRead 39 = .ok (.aload_n 0, 1) := zk_42 (by decide +kernel)
theorem dX12_leafRead_40 : decode cX12_leafRead 40 = .ok (.iconst 1, 1) := zk_4 (by decide +kernel)
theorem dX12_leafRead_41 : decode cX12_leafRead 41 = .ok (.putfield 354, 3) := zk_181 (by decide +kernel)
theorem dX12_leafRead_44 : decode cX12_leafRead 44 = .ok (.aload_n 0, 1) := zk_42 (by decide +kernel)
theorem dX12_leafRead_45 : decode cX12_leafRead 45 = .ok (.invokevirtual 173, 3) := zk_182 (by decide +kernel)
theorem dX12_leafRead_48 : decode cX12_leafRead 48 = .ok (.iconst 1, 1) := zk_4 (by decide +kernel)
theorem dX12_leafRead_49 : decode cX12_leafRead 49 = .ok (.ireturn, 1) := zk_172 (by decide +kernel)
theorem dX12_leafRead_18 : decode cX12_leafRead 18 = .ok (.aload_n 0, 1) := zk_42 (by decide +kernel)
theorem dX12_leafRead_19 : decode cX12_leafRead 19 = .ok (.iconst 2, 1) := zk_5 (by decide +kernel)
theorem dX12_leafRead_20 : decode cX12_leafRead 20 = .ok (.invokevirtual 163, 3) := zk_182 (by decide +kernel)
theorem dX12_leafRead_23 : decode cX12_leafRead 23 = .ok (.ireturn, 1) := zk_172 (by decide +kernel)
set_option maxHeartbeats 4000000 in
set_option maxRecDepth 100000 in
theorem gq_leafRead (l : Launch) (dC : Nat → ClassId) (dI : Nat → Nat → Nat) (mq : Nat) (g : Nat → Int32) (gl : Nat → Int64) (rf : Nat → Nat) (ck : Nat → ClassId) (f_tape : Nat → Int32) (f_words : Nat → Int32) (f_knot : Nat → Int32) (f_part : Nat → Int32) (f_other : Nat → Int32) (f_wait : Nat → Int32) (f_held : Nat → Int32) (sz : Nat) (h0n : ¬ (g 7) < 0) (hns : (g 7) ≤ (g 6)) (hs9 : (g 6) ≤ 900) (hw7 : (f_words 117) = 32) (hk6 : (g 23) ≤ 64) (hwt7 : (g 47) ≤ 72) (hk0 : ¬ (g 23) < 0) (hLI : ((g 23) + ((g 47) - (g 49))) = (g 50)) (hct0 : ¬ (g 50) < 0) (hct6 : (g 50) ≤ 64) (hbr0 : ¬ (g 49) < 0) (hbr8 : (g 49) ≤ 8) (hwn : (g 51) = 1) (hWx : xW f_wait (g 47) (g 49) (g 48) (g 51)) (hH : xH f_held (g 48)) (hKu : xKU f_knot f_part f_other) : Met l yX12_leafRead (Cond.code yX12_leafRead cX12_leafRead 2 (some .boolean) :: wsL_law) ({ frames := 2, cells := 0, slots := 0, locals := 47 }) (va_Pc [.ref mq] (fun U => U.heap.size = sz ∧ va_P (dC, dI) vwCl [(mq, .inr (12, mF g gl rf)), (eA0 (rf 0) (ck 0) 900 f_tape), (eA0 (rf 3) (ck 3) 118 f_words), (eA0 (rf 41) (ck 41) 128 f_knot), (eA0 (rf 42) (ck 42) 128 f_part), (eA0 (rf 43) (ck 43) 128 f_other), (eA0 (rf 45) (ck 45) 96 f_wait), (eA0 (rf 46) (ck 46) 96 f_held)] U.heap ∧ va_K (dC, dI) vwCl [((ck 0), .int), ((ck 3), .int), ((ck 41), .int), ((ck 42), .int), ((ck 43), .int), ((ck 45), .int), ((ck 46), .int)] U ∧ va_D (fun _ => True) [(mq, .inr (12, mF g gl rf)), (eA0 (rf 0) (ck 0) 900 f_tape), (eA0 (rf 3) (ck 3) 118 f_words), (eA0 (rf 41) (ck 41) 128 f_knot), (eA0 (rf 42) (ck 42) 128 f_part), (eA0 (rf 43) (ck 43) 128 f_other), (eA0 (rf 45) (ck 45) 96 f_wait), (eA0 (rf 46) (ck 46) 96 f_held)])) (va_Qi (fun (r : Int32) (u : (Nat → Int32) × (Nat → Int32) × (Nat → Int32) × (Nat → Int32) × (Int32) × (Int32) × (Int32) × (Int32) × (Int32) × (Int32) × (Int32) × (Int32) × (Int32) × (Int32) × (Nat → Int32) × (Int32) × (Int32) × (Int32)) => (r = (fq_leafRead f_tape f_words f_knot f_part f_other f_wait f_held (g 4) (g 5) (g 6) (g 7) (g 8) (g 9) (g 10) (g 23) (g 47) (g 48) (g 49) (g 50) (g 51) (g 52)).1 ∧ u = (fq_leafRead f_tape f_words f_knot f_part f_other f_wait f_held (g 4) (g 5) (g 6) (g 7) (g 8) (g 9) (g 10) (g 23) (g 47) (g 48) (g 49) (g 50) (g 51) (g 52)).2) ∧ (r = 0 ∨ r = 1) ∧ (¬ u.2.2.2.2.2.2.1 < 0) ∧ (u.2.2.2.2.2.2.1 ≤ (g 6)) ∧ (r = 0 ∨ u.2.2.2.2.2.2.2.2.2.2.1 ≤ 64) ∧ (r = 0 ∨ u.2.2.2.2.2.2.2.2.2.2.2.2.2.2.2.1 ≤ 72) ∧ (xKU u.1 u.2.1 u.2.2.1) ∧ (r = 0 ∨ ¬ u.2.2.2.2.2.2.2.2.2.2.1 < 0) ∧ (r = 0 ∨ (u.2.2.2.2.2.2.2.2.2.2.1 + (u.2.2.2.2.2.2.2.2.2.2.2.2.2.2.2.1 - u.2.2.2.2.2.2.2.2.2.2.2.2.2.2.2.2.1)) = u.2.2.2.2.2.2.2.2.2.2.2.2.1) ∧ (¬ u.2.2.2.2.2.2.2.2.2.2.2.2.1 < 0) ∧ (u.2.2.2.2.2.2.2.2.2.2.2.2.1 ≤ 64) ∧ (r = 0 ∨ ¬ u.2.2.2.2.2.2.2.2.2.2.2.2.2.2.2.2.1 < 0) ∧ (r = 0 ∨ u.2.2.2.2.2.2.2.2.2.2.2.2.2.2.2.2.1 ≤ 8) ∧ (r = 0 ∨ ¬ u.2.2.2.2.2.2.2.2.2.2.2.2.2.1 < 0) ∧ (r = 0 ∨ u.2.2.2.2.2.2.2.2.2.2.2.2.2.1 ≤ 1) ∧ (r = 0 ∨ ¬ (u.2.2.2.2.2.2.2.2.2.2.1 + u.2.2.2.2.2.2.2.2.2.2.2.2.2.1) < 1) ∧ (r = 0 ∨ (g 23) ≤ u.2.2.2.2.2.2.2.2.2.2.1) ∧ (r = 0 ∨ (xW u.2.2.2.2.2.2.2.2.2.2.2.2.2.2.1 u.2.2.2.2.2.2.2.2.2.2.2.2.2.2.2.1 u.2.2.2.2.2.2.2.2.2.2.2.2.2.2.2.2.1 u.2.2.2.2.2.2.2.2.2.2.2.1 u.2.2.2.2.2.2.2.2.2.2.2.2.2.1 ∧ xH u.2.2.2.1 u.2.2.2.2.2.2.2.2.2.2.2.1 ∧ xC u.2.2.2.2.2.2.2.1 u.2.2.2.2.2.2.2.2.1 ∧ xm u.2.2.2.2.2.2.2.2.2.2.2.2.1 u.2.2.2.2.2.2.2.2.2.2.2.2.2.2.2.2.1 u.2.2.2.2.2.2.2.2.2.2.2.2.2.1 < xm (g 50) (g 49) (g 51)))) (fun (u : (Nat → Int32) × (Nat → Int32) × (Nat → Int32) × (Nat → Int32) × (Int32) × (Int32) × (Int32) × (Int32) × (Int32) × (Int32) × (Int32) × (Int32) × (Int32) × (Int32) × (Nat → Int32) × (Int32) × (Int32) × (Int32)) t => va_P (dC, dI) vwCl [(mq, .inr (12, mF (upd (upd (upd (upd (upd (upd (upd (upd (upd (upd (upd (upd (upd g 4 u.2.2.2.2.1) 5 u.2.2.2.2.2.1) 7 u.2.2.2.2.2.2.1) 8 u.2.2.2.2.2.2.2.1) 9 u.2.2.2.2.2.2.2.2.1) 10 u.2.2.2.2.2.2.2.2.2.1) 23 u.2.2.2.2.2.2.2.2.2.2.1) 47 u.2.2.2.2.2.2.2.2.2.2.2.2.2.2.2.1) 48 u.2.2.2.2.2.2.2.2.2.2.2.1) 49 u.2.2.2.2.2.2.2.2.2.2.2.2.2.2.2.2.1) 50 u.2.2.2.2.2.2.2.2.2.2.2.2.1) 51 u.2.2.2.2.2.2.2.2.2.2.2.2.2.1) 52 u.2.2.2.2.2.2.2.2.2.2.2.2.2.2.2.2.2) gl rf)), (eA0 (rf 0) (ck 0) 900 f_tape), (eA0 (rf 3) (ck 3) 118 f_words), (eA0 (rf 41) (ck 41) 128 u.1), (eA0 (rf 42) (ck 42) 128 u.2.1), (eA0 (rf 43) (ck 43) 128 u.2.2.1), (eA0 (rf 45) (ck 45) 96 u.2.2.2.2.2.2.2.2.2.2.2.2.2.2.1), (eA0 (rf 46) (ck 46) 96 u.2.2.2.1)] t.heap ∧ va_K (dC, dI) vwCl [] t ∧ va_D (va_A [(mq, .inr (12, mF g gl rf)), (eA0 (rf 0) (ck 0) 900 f_tape), (eA0 (rf 3) (ck 3) 118 f_words), (eA0 (rf 41) (ck 41) 128 f_knot), (eA0 (rf 42) (ck 42) 128 f_part), (eA0 (rf 43) (ck 43) 128 f_other), (eA0 (rf 45) (ck 45) 96 f_wait), (eA0 (rf 46) (ck 46) 96 f_held)] sz) [(mq, .inr (12, mF (upd (upd (upd (upd (upd (upd (upd (upd (upd (upd (upd (upd (upd g 4 u.2.2.2.2.1) 5 u.2.2.2.2.2.1) 7 u.2.2.2.2.2.2.1) 8 u.2.2.2.2.2.2.2.1) 9 u.2.2.2.2.2.2.2.2.1) 10 u.2.2.2.2.2.2.2.2.2.1) 23 u.2.2.2.2.2.2.2.2.2.2.1) 47 u.2.2.2.2.2.2.2.2.2.2.2.2.2.2.2.1) 48 u.2.2.2.2.2.2.2.2.2.2.2.1) 49 u.2.2.2.2.2.2.2.2.2.2.2.2.2.2.2.2.1) 50 u.2.2.2.2.2.2.2.2.2.2.2.2.1) 51 u.2.2.2.2.2.2.2.2.2.2.2.2.2.1) 52 u.2.2.2.2.2.2.2.2.2.2.2.2.2.2.2.2.2) gl rf)), (eA0 (rf 0) (ck 0) 900 f_tape), (eA0 (rf 3) (ck 3) 118 f_words), (eA0 (rf 41) (ck 41) 128 u.1), (eA0 (rf 42) (ck 42) 128 u.2.1), (eA0 (rf 43) (ck 43) 128 u.2.2.1), (eA0 (rf 45) (ck 45) 96 u.2.2.2.2.2.2.2.2.2.2.2.2.2.2.1), (eA0 (rf 46) (ck 46) 96 u.2.2.2.1)]) (va_A [(mq, .inr (12, mF g gl rf)), (eA0 (rf 0) (ck 0) 900 f_tape), (eA0 (rf 3) (ck 3) 118 f_words), (eA0 (rf 41) (ck 41) 128 f_knot), (eA0 (rf 42) (ck 42) 128 f_part), (eA0 (rf 43) (ck 43) 128 f_other), (eA0 (rf 45) (ck 45) 96 f_wait), (eA0 (rf 46) (ck 46) 96 f_held)] sz)) 0 0 (va_A [(mq, .inr (12, mF g gl rf)), (eA0 (rf 0) (ck 0) 900 f_tape), (eA0 (rf 3) (ck 3) 118 f_words), (eA0 (rf 41) (ck 41) 128 f_knot), (eA0 (rf 42) (ck 42) 128 f_part), (eA0 (rf 43) (ck 43) 128 f_other), (eA0 (rf 45) (ck 45) 96 f_wait), (eA0 (rf 46) (ck 46) 96 f_held)] sz) := by
  refine Met.ofW (cc := cX12_leafRead) (maxL := 2) (ret := (some .boolean)) (by decide) rfl ?_
  intro p e s m args below meth c s₁ B hml hv
  obtain ⟨rfl, hsz, hP, hK, hD0⟩ := hv
  have hx := B.exec
  have hb := B.bytes
  have hr := B.returns
  have hts := atoms_spec (ws := Cond.code yX12_leafRead cX12_leafRead 2 (some .boolean) :: wsL_law) B.pre
  have htw : ∀ w ∈ wsL_law, w.before _ s = true := fun w h => hts w (List.mem_cons_of_mem _ h)
  have hown : s.vm.findClass RX12 = some m.cls := findClass_of_methodNamed B.named
  have hlocks := B.notSynchronized
  subst hsz
  have hD := hD0.self (sz := s.heap.size)
  generalize hAe : va_A [(mq, .inr (12, mF g gl rf)), (eA0 (rf 0) (ck 0) 900 f_tape), (eA0 (rf 3) (ck 3) 118 f_words), (eA0 (rf 41) (ck 41) 128 f_knot), (eA0 (rf 42) (ck 42) 128 f_part), (eA0 (rf 43) (ck 43) 128 f_other), (eA0 (rf 45) (ck 45) 96 f_wait), (eA0 (rf 46) (ck 46) 96 f_held)] s.heap.size = A at hD ⊢
  have hA : ∀ q : Nat, s.heap.size ≤ q → A q := fun q h => by rw [← hAe]; exact Or.inr h
  obtain ⟨H, rH⟩ : ∃ z : Heap, z = s.heap := ⟨_, rfl⟩
  have hS : va_S A s.heap H [] := by rw [rH]; exact va_S.rf
  have hP : va_P (dC, dI) vwCl [(mq, .inr (12, mF g gl rf)), (eA0 (rf 0) (ck 0) 900 f_tape), (eA0 (rf 3) (ck 3) 118 f_words), (eA0 (rf 41) (ck 41) 128 f_knot), (eA0 (rf 42) (ck 42) 128 f_part), (eA0 (rf 43) (ck 43) 128 f_other), (eA0 (rf 45) (ck 45) 96 f_wait), (eA0 (rf 46) (ck 46) 96 f_held)] H := by rw [rH]; exact hP
  rw [← rH]
  have hl := lv_entry ([.ref mq]) (n := 2) (Nat.le_of_ble_eq_true rfl)
  rw [lg_entry_eq]
  generalize (lg_sl ([.ref mq]) ++ List.replicate (2 - (lg_sl ([.ref mq])).length) Slot.unset).toArray = ls at hl ⊢
  have hl : lv_has ls 2 [(0, .ref mq)] := hl
  have hW1 : xW f_wait (g 47) (g 49) (g 48) 1 := by rw [← hwn]; exact hWx
  have hwl_0 := xW_lin hWx
  have hw0_0 := hWx.1
  have hwh_0 := xW_h hW1 (gq_leafRead_s0 (y0 := g 47) hwt7) (by decide) (by decide)
  refine lv_aload_n hx hb dX12_leafRead_0 rfl (lv_at hl 0 rfl) ?_
  refine lv_bipush (v := 40) hx hb dX12_leafRead_1 (by decide) ?_
  have hPc := hP.sub (ws' := [(mq, .inr (12, mF g gl rf))]) [0] rfl
  have hKc := hK.sub (tys' := []) [] rfl
  refine vp_callSi (W.runV (As := [.int 40]) (rest := []) ⟨hx, hb, hml, hown, htw⟩ (gq_isSign l dC dI mq g gl rf (40 : Int32)) (cwV 1 htw (xg_V (ck_27 _ (List.mem_of_getElem? (i := 0) rfl)) (ck_27 _ (List.mem_of_getElem? (i := 1) rfl)) (ck_27 _ (List.mem_of_getElem? (i := 2) rfl)) (ck_1 _ (List.mem_of_getElem? (i := 5) rfl)) (ck_27 _ (List.mem_of_getElem? (i := 3) rfl))) rfl rfl rfl (by exact ⟨rfl, hdc_14.1, hdc_14.2, hdd_26⟩) ⟨Nat.le_of_ble_eq_true rfl, Nat.le_of_ble_eq_true rfl⟩) ⟨fun a U g mk q => by obtain ⟨q0, qP, qK⟩ := q; exact ⟨q0, qP, va_K.moved (u := U) (U := U.calling g mk a) (Vm.Alike.refl U.vm) qK⟩, va_recv hKc hPc (ci := 12) (q0 := 0) rfl rfl, fun U hU hW => ⟨rfl, by rw [hU]; exact hPc, va_K.moved hW.alike hKc⟩⟩ rfl rfl hl.1 rfl (lv_room (Nat.le_of_ble_eq_true rfl)) dX12_leafRead_3 ⟨Nat.le_of_ble_eq_true rfl, Nat.le_of_ble_eq_true rfl⟩) (fun r_1 hw => ?_)
  try dsimp only at hw
  obtain ⟨hw, hb_r_1⟩ := hw
  have hq_r_1 : r_1 = (fq_isSign (40 : Int32) (g 8) (g 9)) := hw
  refine lv_if_eq (tgt := 50) hx hb dX12_leafRead_6 (by decide) (fun c_2 => ?_) (fun c_2 => ?_)
  · refine lv_aload_n hx hb dX12_leafRead_50 rfl (lv_at hl 0 rfl) ?_
    refine lv_bipush (v := 18) hx hb dX12_leafRead_51 (by decide) ?_
    have hPc := hP.sub (ws' := [(mq, .inr (12, mF g gl rf))]) [0] rfl
    have hKc := hK.sub (tys' := []) [] rfl
    refine vp_callSi (W.runV (As := [.int 18]) (rest := []) ⟨hx, hb, hml, hown, htw⟩ (gq_isKey l dC dI mq g gl rf (18 : Int32)) (cwV 1 htw (xg_V (ck_27 _ (List.mem_of_getElem? (i := 4) rfl)) (ck_27 _ (List.mem_of_getElem? (i := 5) rfl)) (ck_27 _ (List.mem_of_getElem? (i := 6) rfl)) (ck_1 _ (List.mem_of_getElem? (i := 5) rfl)) (ck_27 _ (List.mem_of_getElem? (i := 7) rfl))) rfl rfl rfl (by exact ⟨rfl, hdc_14.1, hdc_14.2, hdd_26⟩) ⟨Nat.le_of_ble_eq_true rfl, Nat.le_of_ble_eq_true rfl⟩) ⟨fun a U g mk q => by obtain ⟨q0, qP, qK⟩ := q; exact ⟨q0, qP, va_K.moved (u := U) (U := U.calling g mk a) (Vm.Alike.refl U.vm) qK⟩, va_recv hKc hPc (ci := 12) (q0 := 0) rfl rfl, fun U hU hW => ⟨rfl, by rw [hU]; exact hPc, va_K.moved hW.alike hKc⟩⟩ rfl rfl hl.1 rfl (lv_room (Nat.le_of_ble_eq_true rfl)) dX12_leafRead_53 ⟨Nat.le_of_ble_eq_true rfl, Nat.le_of_ble_eq_true rfl⟩) (fun r_3 hw => ?_)
    try dsimp only at hw
    obtain ⟨hw, hb_r_3⟩ := hw
    have hq_r_3 : r_3 = (fq_isKey (18 : Int32) (g 8) (g 9)) := hw
    refine lv_if_eq (tgt := 86) hx hb dX12_leafRead_56 (by decide) (fun c_4 => ?_) (fun c_4 => ?_)
    · refine lv_aload_n hx hb dX12_leafRead_86 rfl (lv_at hl 0 rfl) ?_
      have hPc := hP.sub (ws' := [(mq, .inr (12, mF g gl rf))]) [0] rfl
      have hKc := hK.sub (tys' := []) [] rfl
      refine vp_callSi (W.runV (As := []) (rest := []) ⟨hx, hb, hml, hown, htw⟩ (gq_nameMet l dC dI mq g gl rf) (cwV 0 htw (xg_V (ck_28 _ (List.mem_of_getElem? (i := 9) rfl)) (ck_28 _ (List.mem_of_getElem? (i := 10) rfl)) (ck_28 _ (List.mem_of_getElem? (i := 11) rfl)) (ck_1 _ (List.mem_of_getElem? (i := 5) rfl)) (ck_28 _ (List.mem_of_getElem? (i := 12) rfl))) rfl rfl rfl (by exact ⟨rfl, hdc_14.1, hdc_14.2, hdd_45⟩) ⟨Nat.le_of_ble_eq_true rfl, Nat.le_of_ble_eq_true rfl⟩) ⟨fun a U g mk q => by obtain ⟨q0, qP, qK⟩ := q; exact ⟨q0, qP, va_K.moved (u := U) (U := U.calling g mk a) (Vm.Alike.refl U.vm) qK⟩, va_recv hKc hPc (ci := 12) (q0 := 0) rfl rfl, fun U hU hW => ⟨rfl, by rw [hU]; exact hPc, va_K.moved hW.alike hKc⟩⟩ rfl rfl hl.1 rfl (lv_room (Nat.le_of_ble_eq_true rfl)) dX12_leafRead_87 ⟨Nat.le_of_ble_eq_true rfl, Nat.le_of_ble_eq_true rfl⟩) (fun r_5 hw => ?_)
      try dsimp only at hw
      obtain ⟨hw, hp_6, hp_7⟩ := hw
      have hq_r_5 : r_5 = (fq_nameMet (g 8) (g 9)) := hw
      refine lv_istore_n (lv' := [(1, .int r_5), (0, .ref mq)]) hx hb dX12_leafRead_90 rfl hl (by decide) rfl (fun ls hl => ?_)
      refine lv_iload_n hx hb dX12_leafRead_91 rfl (lv_at hl 0 rfl) ?_
      refine lv_if_ge (tgt := 109) hx hb dX12_leafRead_92 (by decide) (fun c_8 => ?_) (fun c_8 => ?_)
      · refine lv_iload_n hx hb dX12_leafRead_109 rfl (lv_at hl 0 rfl) ?_
        refine lv_if_ge (tgt := 129) hx hb dX12_leafRead_110 (by decide) (fun c_9 => ?_) (fun c_9 => absurd c_9 (fun h9 => h9 c_8))
        refine lv_aload_n hx hb dX12_leafRead_129 rfl (lv_at hl 1 rfl) ?_
        obtain ⟨hPc, hDc, hFc, hCc⟩ := zsub3 (ws' := [(mq, .inr (12, mF g gl rf))]) hP hD hS hA [0] (by decide) rfl
        have hKc := hK.sub (tys' := []) [] rfl
        refine va_calli (va_runV (As := []) (rest := []) ⟨hx, hb, hml, hown, htw⟩ (gy_isCounted l dC dI mq g gl rf H.size hct0 hct6) (cwV 0 htw (xg_V (ck_28 _ (List.mem_of_getElem? (i := 5) rfl)) (ck_28 _ (List.mem_of_getElem? (i := 6) rfl)) (ck_28 _ (List.mem_of_getElem? (i := 7) rfl)) (ck_1 _ (List.mem_of_getElem? (i := 5) rfl)) (ck_28 _ (List.mem_of_getElem? (i := 8) rfl))) rfl rfl rfl (by exact ⟨rfl, hdc_14.1, hdc_14.2, hdd_32⟩) ⟨Nat.le_of_ble_eq_true rfl, Nat.le_of_ble_eq_true rfl⟩) ⟨fun a U g mk q => by obtain ⟨q0, q1, qP, qK, qD⟩ := q; exact ⟨q0, q1, qP, va_K.moved (u := U) (U := U.calling g mk a) (Vm.Alike.refl U.vm) qK, qD⟩, va_recv hKc hPc (ci := 12) (q0 := 0) rfl rfl, fun U hU hW => ⟨rfl, by rw [hU], by rw [hU]; exact hPc, va_K.moved hW.alike hKc, hDc.weaken (fun _ _ _ _ => trivial)⟩⟩ rfl rfl hl.1 rfl (lv_room (Nat.le_of_ble_eq_true rfl)) dX12_leafRead_130 ⟨Nat.le_of_ble_eq_true rfl, Nat.le_of_ble_eq_true rfl⟩) hS (fun q _ h => hFc q h) hFc (fun r_10 u_11 t H1 locs ht hvm hw hB hz1 hk1 hS => ?_)
        try dsimp only at hw
        obtain ⟨hP1, hK1, hD1⟩ := hB
        rw [ht] at hP1
        have hK1 := va_K.moved hvm.symm hK1
        have hK1 : va_K (dC, dI) vwCl [] s := hK1
        obtain ⟨hP, hD⟩ := va_join (wr := [(eA0 (rf 0) (ck 0) 900 f_tape), (eA0 (rf 3) (ck 3) 118 f_words), (eA0 (rf 41) (ck 41) 128 f_knot), (eA0 (rf 42) (ck 42) 128 f_part), (eA0 (rf 43) (ck 43) 128 f_other), (eA0 (rf 45) (ck 45) 96 f_wait), (eA0 (rf 46) (ck 46) 96 f_held)]) (w1 := [(mq, .inr (12, mF (upd (upd (upd g 4 u_11.2.1) 5 u_11.2.2) 50 u_11.1) gl rf))]) hP hD [0] [1, 2, 3, 4, 5, 6, 7] hCc rfl (by decide) (by decide) hk1 hFc hP1 hD1
        generalize H1 = H at hP hS ⊢
        have hP : va_P (dC, dI) vwCl [(eA0 (rf 0) (ck 0) 900 f_tape), (eA0 (rf 3) (ck 3) 118 f_words), (eA0 (rf 41) (ck 41) 128 f_knot), (eA0 (rf 42) (ck 42) 128 f_part), (eA0 (rf 43) (ck 43) 128 f_other), (eA0 (rf 45) (ck 45) 96 f_wait), (eA0 (rf 46) (ck 46) 96 f_held), (mq, .inr (12, mF (upd (upd (upd g 4 u_11.2.1) 5 u_11.2.2) 50 u_11.1) gl rf))] H := hP
        have hD : va_D A [(eA0 (rf 0) (ck 0) 900 f_tape), (eA0 (rf 3) (ck 3) 118 f_words), (eA0 (rf 41) (ck 41) 128 f_knot), (eA0 (rf 42) (ck 42) 128 f_part), (eA0 (rf 43) (ck 43) 128 f_other), (eA0 (rf 45) (ck 45) 96 f_wait), (eA0 (rf 46) (ck 46) 96 f_held), (mq, .inr (12, mF (upd (upd (upd g 4 u_11.2.1) 5 u_11.2.2) 50 u_11.1) gl rf))] := hD
        refine W.widen (k := 0) (n := 0) (by omega) (by omega) ?_
        obtain ⟨hw, hb_r_10, hp_15, hp_16, hp_17⟩ := hw
        obtain ⟨X_18, hX_18⟩ : ∃ X9 : Int32 × (Int32) × (Int32) × (Int32), X9 = (fq_isCounted (g 4) (g 5) (g 10) (g 50)) := ⟨_, rfl⟩
        have hq_r_10 : r_10 = X_18.1 := by rw [hX_18]; exact hw.1
        have hq_u_11 : u_11 = X_18.2 := by rw [hX_18]; exact hw.2
        refine lv_if_ne (tgt := 138) hx hb dX12_leafRead_133 (by decide) (fun c_19 => ?_) (fun c_19 => ?_)
        · refine lv_aload_n hx hb dX12_leafRead_138 rfl (lv_at hl 1 rfl) ?_
          refine lv_iload_n hx hb dX12_leafRead_139 rfl (lv_at hl 0 rfl) ?_
          refine lv_if_lt (tgt := 147) hx hb dX12_leafRead_140 (by decide) (fun c_20 => ?_) (fun c_20 => ?_)
          · refine lv_iconst (v := 0) hx hb dX12_leafRead_147 (by decide) ?_
            refine lv_iload_n hx hb dX12_leafRead_148 rfl (lv_at hl 0 rfl) ?_
            refine lv_if_lt (tgt := 156) hx hb dX12_leafRead_149 (by decide) (fun c_21 => ?_) (fun c_21 => absurd c_21 (fun h9 => h9 c_20))
            refine lv_aload_n hx hb dX12_leafRead_156 rfl (lv_at hl 1 rfl) ?_
            refine va_get (D := (dC, dI)) (ci := 12) (v := .int (g 9)) (C := RX12) (T := TX12) (N := 76) hx hb htw inlX12 hown hK hP 7 rfl rfl 9 (by decide) (htw _ (ck_24 _ (List.mem_of_getElem? (i := 19) rfl))) (fun _ h9 => h9) rfl dX12_leafRead_157 ?_
            refine lv_iconst (v := 0) hx hb dX12_leafRead_160 (by decide) ?_
            obtain ⟨hPc, hDc, hFc, hCc⟩ := zsub3 (ws' := [(mq, .inr (12, mF (upd (upd (upd g 4 u_11.2.1) 5 u_11.2.2) 50 u_11.1) gl rf)), (eA0 (rf 41) (ck 41) 128 f_knot), (eA0 (rf 42) (ck 42) 128 f_part), (eA0 (rf 43) (ck 43) 128 f_other), (eA0 (rf 46) (ck 46) 96 f_held)]) hP hD hS hA [7, 2, 3, 4, 6] (by decide) rfl
            have hKc := hK.sub (tys' := [((ck 41), .int), ((ck 42), .int), ((ck 43), .int), ((ck 46), .int)]) [2, 3, 4, 6] rfl
            refine va_callv (va_runV (As := [.int 0, .int (g 9), .int 0]) (rest := []) ⟨hx, hb, hml, hown, htw⟩ (gq_grown l dC dI mq (upd (upd (upd g 4 u_11.2.1) 5 u_11.2.2) 50 u_11.1) gl rf ck f_knot f_part f_other f_held (0 : Int32) (g 9) (0 : Int32) H.size hk0 (gq_leafRead_s1 (y0 := g 23) (y1 := u_11.1) (y2 := g 50) (y3 := g 49) (y4 := g 47) (hp_15.resolve_left c_19) hwl_0.2 hw0_0 hp_17 hk6 hwt7 hk0 hLI hct6 hbr0) hwh_0.1 (gq_leafRead_s2 (y0 := g 48) (y1 := g 47) hwh_0.2 hwt7)) (cwV 3 htw (xg_V (ck_28 _ (List.mem_of_getElem? (i := 13) rfl)) (ck_28 _ (List.mem_of_getElem? (i := 14) rfl)) (ck_28 _ (List.mem_of_getElem? (i := 15) rfl)) (ck_1 _ (List.mem_of_getElem? (i := 5) rfl)) (ck_28 _ (List.mem_of_getElem? (i := 16) rfl))) rfl rfl rfl (by exact ⟨rfl, hdc_14.1, hdc_14.2, hdd_50⟩) ⟨Nat.le_of_ble_eq_true rfl, Nat.le_of_ble_eq_true rfl⟩) ⟨fun a U g mk q => by obtain ⟨q0, q1, qP, qK, qD⟩ := q; exact ⟨q0, q1, qP, va_K.moved (u := U) (U := U.calling g mk a) (Vm.Alike.refl U.vm) qK, qD⟩, va_recv hKc hPc (ci := 12) (q0 := 0) rfl rfl, fun U hU hW => ⟨rfl, by rw [hU], by rw [hU]; exact hPc, va_K.moved hW.alike hKc, hDc.weaken (fun _ _ _ _ => trivial)⟩⟩ rfl rfl hl.1 rfl (lv_room (Nat.le_of_ble_eq_true rfl)) dX12_leafRead_161 ⟨Nat.le_of_ble_eq_true rfl, Nat.le_of_ble_eq_true rfl⟩) hS (fun q _ h => hFc q h) hFc (fun u_23 t H1 locs ht hvm hw hB hz1 hk1 hS => ?_)
            try dsimp only at hw
            obtain ⟨hP1, hK1, hD1⟩ := hB
            rw [ht] at hP1
            have hK1 := va_K.moved hvm.symm hK1
            have hK1 : va_K (dC, dI) vwCl [] s := hK1
            obtain ⟨hP, hD⟩ := va_join (wr := [(eA0 (rf 0) (ck 0) 900 f_tape), (eA0 (rf 3) (ck 3) 118 f_words), (eA0 (rf 45) (ck 45) 96 f_wait)]) (w1 := [(mq, .inr (12, mF (upd (upd (upd (upd (upd g 4 u_11.2.1) 5 u_11.2.2) 23 u_23.1) 48 u_23.2.1) 50 u_11.1) gl rf)), (eA0 (rf 41) (ck 41) 128 u_23.2.2.1), (eA0 (rf 42) (ck 42) 128 u_23.2.2.2.1), (eA0 (rf 43) (ck 43) 128 u_23.2.2.2.2.1), (eA0 (rf 46) (ck 46) 96 u_23.2.2.2.2.2)]) hP hD [7, 2, 3, 4, 6] [0, 1, 5] hCc rfl (by decide) (by decide) hk1 hFc hP1 hD1
            generalize H1 = H at hP hS ⊢
            have hP : va_P (dC, dI) vwCl [(eA0 (rf 0) (ck 0) 900 f_tape), (eA0 (rf 3) (ck 3) 118 f_words), (eA0 (rf 45) (ck 45) 96 f_wait), (mq, .inr (12, mF (upd (upd (upd (upd (upd g 4 u_11.2.1) 5 u_11.2.2) 23 u_23.1) 48 u_23.2.1) 50 u_11.1) gl rf)), (eA0 (rf 41) (ck 41) 128 u_23.2.2.1), (eA0 (rf 42) (ck 42) 128 u_23.2.2.2.1), (eA0 (rf 43) (ck 43) 128 u_23.2.2.2.2.1), (eA0 (rf 46) (ck 46) 96 u_23.2.2.2.2.2)] H := hP
            have hD : va_D A [(eA0 (rf 0) (ck 0) 900 f_tape), (eA0 (rf 3) (ck 3) 118 f_words), (eA0 (rf 45) (ck 45) 96 f_wait), (mq, .inr (12, mF (upd (upd (upd (upd (upd g 4 u_11.2.1) 5 u_11.2.2) 23 u_23.1) 48 u_23.2.1) 50 u_11.1) gl rf)), (eA0 (rf 41) (ck 41) 128 u_23.2.2.1), (eA0 (rf 42) (ck 42) 128 u_23.2.2.2.1), (eA0 (rf 43) (ck 43) 128 u_23.2.2.2.2.1), (eA0 (rf 46) (ck 46) 96 u_23.2.2.2.2.2)] := hD
            refine W.widen (k := 0) (n := 0) (by omega) (by omega) ?_
            have hq_u_23 : u_23 = (fq_grown f_knot f_part f_other f_held (0 : Int32) (g 9) (0 : Int32) (g 23) (g 48)) := hw
            obtain ⟨hW_g, hH_n, hK_n, hkr_n⟩ := xgrown_leaf hW1 hH hKu (gq_leafRead_s3 (y0 := g 48) (y1 := g 23) (y2 := u_11.1) (y3 := g 50) (y4 := g 49) (y5 := g 47) (hp_15.resolve_left c_19) hwl_0.2 hw0_0 hwh_0.1 hwh_0.2 hp_17 hk6 hwt7 hk0 hLI hct6 hbr0).1 (gq_leafRead_s3 (y0 := g 48) (y1 := g 23) (y2 := u_11.1) (y3 := g 50) (y4 := g 49) (y5 := g 47) (hp_15.resolve_left c_19) hwl_0.2 hw0_0 hwh_0.1 hwh_0.2 hp_17 hk6 hwt7 hk0 hLI hct6 hbr0).2.1 (gq_leafRead_s3 (y0 := g 48) (y1 := g 23) (y2 := u_11.1) (y3 := g 50) (y4 := g 49) (y5 := g 47) (hp_15.resolve_left c_19) hwl_0.2 hw0_0 hwh_0.1 hwh_0.2 hp_17 hk6 hwt7 hk0 hLI hct6 hbr0).2.2.1 (gq_leafRead_s3 (y0 := g 48) (y1 := g 23) (y2 := u_11.1) (y3 := g 50) (y4 := g 49) (y5 := g 47) (hp_15.resolve_left c_19) hwl_0.2 hw0_0 hwh_0.1 hwh_0.2 hp_17 hk6 hwt7 hk0 hLI hct6 hbr0).2.2.2 (Or.inl rfl) hq_u_23
            refine lv_aload_n hx hb dX12_leafRead_164 rfl (lv_at hl 1 rfl) ?_
            refine lv_iconst (v := 0) hx hb dX12_leafRead_165 (by decide) ?_
            refine va_put (D := (dC, dI)) (ci := 12) (v := .int 0) (ty := tyX12 51) (C := RX12) (T := TX12) (N := 76) hx hb htw inlX12 tyX12 tyX12_ok nmX12 hown hK hP hD hS 3 rfl rfl 51 (by decide) (htw _ (ck_27 _ (List.mem_of_getElem? (i := 19) rfl))) (fun _ h9 => h9) rfl (tyX12_ok 51 (by decide)) rfl rfl (Nat.le_of_ble_eq_true rfl) dX12_leafRead_166 (fun H locs hP hD hS => ?_)
            have hP : va_P (dC, dI) vwCl [(eA0 (rf 0) (ck 0) 900 f_tape), (eA0 (rf 3) (ck 3) 118 f_words), (eA0 (rf 45) (ck 45) 96 f_wait), (mq, .inr (12, mF (upd (upd (upd (upd (upd (upd g 4 u_11.2.1) 5 u_11.2.2) 23 u_23.1) 48 u_23.2.1) 50 u_11.1) 51 0) gl rf)), (eA0 (rf 41) (ck 41) 128 u_23.2.2.1), (eA0 (rf 42) (ck 42) 128 u_23.2.2.2.1), (eA0 (rf 43) (ck 43) 128 u_23.2.2.2.2.1), (eA0 (rf 46) (ck 46) 96 u_23.2.2.2.2.2)] H := hP
            have hD : va_D A [(eA0 (rf 0) (ck 0) 900 f_tape), (eA0 (rf 3) (ck 3) 118 f_words), (eA0 (rf 45) (ck 45) 96 f_wait), (mq, .inr (12, mF (upd (upd (upd (upd (upd (upd g 4 u_11.2.1) 5 u_11.2.2) 23 u_23.1) 48 u_23.2.1) 50 u_11.1) 51 0) gl rf)), (eA0 (rf 41) (ck 41) 128 u_23.2.2.1), (eA0 (rf 42) (ck 42) 128 u_23.2.2.2.1), (eA0 (rf 43) (ck 43) 128 u_23.2.2.2.2.1), (eA0 (rf 46) (ck 46) 96 u_23.2.2.2.2.2)] := hD
            refine lv_aload_n hx hb dX12_leafRead_169 rfl (lv_at hl 1 rfl) ?_
            obtain ⟨hPc, hDc, hFc, hCc⟩ := zsub3 (ws' := [(mq, .inr (12, mF (upd (upd (upd (upd (upd (upd g 4 u_11.2.1) 5 u_11.2.2) 23 u_23.1) 48 u_23.2.1) 50 u_11.1) 51 0) gl rf)), (eA0 (rf 0) (ck 0) 900 f_tape), (eA0 (rf 3) (ck 3) 118 f_words)]) hP hD hS hA [3, 0, 1] (by decide) rfl
            have hKc := hK.sub (tys' := [((ck 0), .int), ((ck 3), .int)]) [0, 1] rfl
            refine va_callv (va_runV (As := []) (rest := []) ⟨hx, hb, hml, hown, htw⟩ (gy_token l dC dI mq (upd (upd (upd (upd (upd (upd g 4 u_11.2.1) 5 u_11.2.2) 23 u_23.1) 48 u_23.2.1) 50 u_11.1) 51 0) gl rf ck f_tape f_words H.size h0n hns hs9 hw7) (cwV 0 htw (xg_V (ck_24 _ (List.mem_of_getElem? (i := 14) rfl)) (ck_24 _ (List.mem_of_getElem? (i := 15) rfl)) (ck_24 _ (List.mem_of_getElem? (i := 16) rfl)) (ck_1 _ (List.mem_of_getElem? (i := 5) rfl)) (ck_24 _ (List.mem_of_getElem? (i := 17) rfl))) rfl rfl rfl (by exact ⟨rfl, hdc_14.1, hdc_14.2, hdd_13⟩) ⟨Nat.le_of_ble_eq_true rfl, Nat.le_of_ble_eq_true rfl⟩) ⟨fun a U g mk q => by obtain ⟨q0, q1, qP, qK, qD⟩ := q; exact ⟨q0, q1, qP, va_K.moved (u := U) (U := U.calling g mk a) (Vm.Alike.refl U.vm) qK, qD⟩, va_recv hKc hPc (ci := 12) (q0 := 0) rfl rfl, fun U hU hW => ⟨rfl, by rw [hU], by rw [hU]; exact hPc, va_K.moved hW.alike hKc, hDc.weaken (fun _ _ _ _ => trivial)⟩⟩ rfl rfl hl.1 rfl (lv_room (Nat.le_of_ble_eq_true rfl)) dX12_leafRead_170 ⟨Nat.le_of_ble_eq_true rfl, Nat.le_of_ble_eq_true rfl⟩) hS (fun q _ h => hFc q h) hFc (fun u_31 t H1 locs ht hvm hw hB hz1 hk1 hS => ?_)
            try dsimp only at hw
            obtain ⟨hP1, hK1, hD1⟩ := hB
            rw [ht] at hP1
            have hK1 := va_K.moved hvm.symm hK1
            have hK1 : va_K (dC, dI) vwCl [] s := hK1
            obtain ⟨hP, hD⟩ := va_join (wr := [(eA0 (rf 45) (ck 45) 96 f_wait), (eA0 (rf 41) (ck 41) 128 u_23.2.2.1), (eA0 (rf 42) (ck 42) 128 u_23.2.2.2.1), (eA0 (rf 43) (ck 43) 128 u_23.2.2.2.2.1), (eA0 (rf 46) (ck 46) 96 u_23.2.2.2.2.2)]) (w1 := [(mq, .inr (12, mF (upd (upd (upd (upd (upd (upd (upd (upd (upd (upd g 4 u_11.2.1) 5 u_11.2.2) 7 u_31.1) 8 u_31.2.1) 9 u_31.2.2.1) 10 u_31.2.2.2) 23 u_23.1) 48 u_23.2.1) 50 u_11.1) 51 0) gl rf)), (eA0 (rf 0) (ck 0) 900 f_tape), (eA0 (rf 3) (ck 3) 118 f_words)]) hP hD [3, 0, 1] [2, 4, 5, 6, 7] hCc rfl (by decide) (by decide) hk1 hFc hP1 hD1
            generalize H1 = H at hP hS ⊢
            have hP : va_P (dC, dI) vwCl [(eA0 (rf 45) (ck 45) 96 f_wait), (eA0 (rf 41) (ck 41) 128 u_23.2.2.1), (eA0 (rf 42) (ck 42) 128 u_23.2.2.2.1), (eA0 (rf 43) (ck 43) 128 u_23.2.2.2.2.1), (eA0 (rf 46) (ck 46) 96 u_23.2.2.2.2.2), (mq, .inr (12, mF (upd (upd (upd (upd (upd (upd (upd (upd (upd (upd g 4 u_11.2.1) 5 u_11.2.2) 7 u_31.1) 8 u_31.2.1) 9 u_31.2.2.1) 10 u_31.2.2.2) 23 u_23.1) 48 u_23.2.1) 50 u_11.1) 51 0) gl rf)), (eA0 (rf 0) (ck 0) 900 f_tape), (eA0 (rf 3) (ck 3) 118 f_words)] H := hP
            have hD : va_D A [(eA0 (rf 45) (ck 45) 96 f_wait), (eA0 (rf 41) (ck 41) 128 u_23.2.2.1), (eA0 (rf 42) (ck 42) 128 u_23.2.2.2.1), (eA0 (rf 43) (ck 43) 128 u_23.2.2.2.2.1), (eA0 (rf 46) (ck 46) 96 u_23.2.2.2.2.2), (mq, .inr (12, mF (upd (upd (upd (upd (upd (upd (upd (upd (upd (upd g 4 u_11.2.1) 5 u_11.2.2) 7 u_31.1) 8 u_31.2.1) 9 u_31.2.2.1) 10 u_31.2.2.2) 23 u_23.1) 48 u_23.2.1) 50 u_11.1) 51 0) gl rf)), (eA0 (rf 0) (ck 0) 900 f_tape), (eA0 (rf 3) (ck 3) 118 f_words)] := hD
            refine W.widen (k := 0) (n := 0) (by omega) (by omega) ?_
            obtain ⟨hw, hp_36, hp_37, hp_38⟩ := hw
            have hq_u_31 : u_31 = (fq_token f_tape f_words (g 6) (g 7) (g 9)) := hw
            refine lv_iconst (v := 1) hx hb dX12_leafRead_173 (by decide) ?_
            refine W.widen (k := 0) (n := 0) (by omega) (by omega) ?_
            obtain ⟨hP9, hD9⟩ := zsub2 (ws' := [(mq, .inr (12, mF (upd (upd (upd (upd (upd (upd (upd (upd (upd (upd g 4 u_11.2.1) 5 u_11.2.2) 7 u_31.1) 8 u_31.2.1) 9 u_31.2.2.1) 10 u_31.2.2.2) 23 u_23.1) 48 u_23.2.1) 50 u_11.1) 51 0) gl rf)), (eA0 (rf 0) (ck 0) 900 f_tape), (eA0 (rf 3) (ck 3) 118 f_words), (eA0 (rf 41) (ck 41) 128 u_23.2.2.1), (eA0 (rf 42) (ck 42) 128 u_23.2.2.2.1), (eA0 (rf 43) (ck 43) 128 u_23.2.2.2.2.1), (eA0 (rf 45) (ck 45) 96 f_wait), (eA0 (rf 46) (ck 46) 96 u_23.2.2.2.2.2)]) hP hD [5, 6, 7, 1, 2, 3, 0, 4] (by decide +kernel) rfl
            have hK9 := hK.sub (tys' := []) [] rfl
            exact W.zret (v := 1) hx hb hr (by first | rfl | decide) (fun t ht hW => ⟨⟨1, (u_23.2.2.1, u_23.2.2.2.1, u_23.2.2.2.2.1, u_23.2.2.2.2.2, u_11.2.1, u_11.2.2, u_31.1, u_31.2.1, u_31.2.2.1, u_31.2.2.2, u_23.1, u_23.2.1, u_11.1, 0, f_wait, (g 47), (g 49), (g 52)), rfl, ⟨((fun e9 => ⟨by rw [e9], by rw [e9]⟩ : fq_leafRead f_tape f_words f_knot f_part f_other f_wait f_held (g 4) (g 5) (g 6) (g 7) (g 8) (g 9) (g 10) (g 23) (g 47) (g 48) (g 49) (g 50) (g 51) (g 52) = ((1 : Int32), u_23.2.2.1, u_23.2.2.2.1, u_23.2.2.2.2.1, u_23.2.2.2.2.2, u_11.2.1, u_11.2.2, u_31.1, u_31.2.1, u_31.2.2.1, u_31.2.2.2, u_23.1, u_23.2.1, u_11.1, (0 : Int32), f_wait, (g 47), (g 49), (g 52)) → _) ((by rw [fq_leafRead]; (try rw [← hq_r_1]); (try rw [xL_eq]); (try rw [if_pos c_2]); (try rw [← hq_r_3]); (try rw [xL_eq]); (try rw [if_pos c_4]); (try rw [← hq_r_5]); (try rw [xL_eq]); (try rw [if_pos c_8]); (try rw [← hX_18]); (try rw [xL_eq]); (try rw [← hq_r_10]); (try rw [← hq_u_11]); (try rw [if_neg c_19]); (try rw [if_pos c_20]); (try rw [← hq_u_23]); (try rw [xL_eq]); (try rw [← hq_u_31]); (try rw [xL_eq]); try rfl))), Or.inr rfl, hp_36, hp_37, (Or.inr (gq_leafRead_s4 (y0 := u_23.1) (y1 := u_11.1) (y2 := g 50) (y3 := g 49) (y4 := g 47) (y5 := g 23) (hp_15.resolve_left c_19) hwl_0.2 hw0_0 hp_17 hkr_n hk6 hwt7 hk0 hLI hct6 hbr0)), (Or.inr hwt7), hK_n, (Or.inr (gq_leafRead_s5 (y0 := u_23.1) (y1 := g 23) hkr_n hk6 hk0)), (Or.inr (gq_leafRead_s6 (y0 := u_23.1) (y1 := g 47) (y2 := g 49) (y3 := u_11.1) (y4 := g 50) (y5 := g 23) (hp_15.resolve_left c_19) hwl_0.2 hw0_0 hkr_n hk6 hwt7 hk0 hLI hct6 hbr0)), hp_16, hp_17, (Or.inr hwl_0.1), (Or.inr hbr8), (Or.inr (gq_leafRead_s7 )), (Or.inr (gq_leafRead_s8 )), (Or.inr (gq_leafRead_s9 (y0 := u_23.1) (y1 := g 23) hkr_n hk6 hk0)), (Or.inr (gq_leafRead_s10 (y0 := g 23) (y1 := u_23.1) hkr_n hk6)), (Or.inr ⟨hW_g, hH_n, hp_38, (xm_cnt (hp_15.resolve_left c_19) hct0 hct6 hbr0 hbr8 hbr0 hbr8)⟩)⟩, by rw [ht]; exact hP9, va_K.moved hW.alike hK9, hD9⟩, hS.F ht⟩) hS.2.2 dX12_leafRead_174
          · refine lv_iconst (v := 1) hx hb dX12_leafRead_143 (by decide) ?_
            refine lv_goto (tgt := 148) hx hb dX12_leafRead_144 (by decide) ?_
            refine lv_iload_n hx hb dX12_leafRead_148 rfl (lv_at hl 0 rfl) ?_
            refine lv_if_lt (tgt := 156) hx hb dX12_leafRead_149 (by decide) (fun c_39 => absurd c_39 (c_20)) (fun c_39 => ?_)
            refine lv_iload_n hx hb dX12_leafRead_152 rfl (lv_at hl 0 rfl) ?_
            refine lv_goto (tgt := 160) hx hb dX12_leafRead_153 (by decide) ?_
            refine lv_iconst (v := 0) hx hb dX12_leafRead_160 (by decide) ?_
            obtain ⟨hPc, hDc, hFc, hCc⟩ := zsub3 (ws' := [(mq, .inr (12, mF (upd (upd (upd g 4 u_11.2.1) 5 u_11.2.2) 50 u_11.1) gl rf)), (eA0 (rf 41) (ck 41) 128 f_knot), (eA0 (rf 42) (ck 42) 128 f_part), (eA0 (rf 43) (ck 43) 128 f_other), (eA0 (rf 46) (ck 46) 96 f_held)]) hP hD hS hA [7, 2, 3, 4, 6] (by decide) rfl
            have hKc := hK.sub (tys' := [((ck 41), .int), ((ck 42), .int), ((ck 43), .int), ((ck 46), .int)]) [2, 3, 4, 6] rfl
            refine va_callv (va_runV (As := [.int 1, .int r_5, .int 0]) (rest := []) ⟨hx, hb, hml, hown, htw⟩ (gq_grown l dC dI mq (upd (upd (upd g 4 u_11.2.1) 5 u_11.2.2) 50 u_11.1) gl rf ck f_knot f_part f_other f_held (1 : Int32) r_5 (0 : Int32) H.size hk0 (gq_leafRead_s11 (y0 := g 23) (y1 := u_11.1) (y2 := g 50) (y3 := g 49) (y4 := g 47) (hp_15.resolve_left c_19) hwl_0.2 hw0_0 hp_17 hk6 hwt7 hk0 hLI hct6 hbr0) hwh_0.1 (gq_leafRead_s12 (y0 := g 48) (y1 := g 47) hwh_0.2 hwt7)) (cwV 3 htw (xg_V (ck_28 _ (List.mem_of_getElem? (i := 13) rfl)) (ck_28 _ (List.mem_of_getElem? (i := 14) rfl)) (ck_28 _ (List.mem_of_getElem? (i := 15) rfl)) (ck_1 _ (List.mem_of_getElem? (i := 5) rfl)) (ck_28 _ (List.mem_of_getElem? (i := 16) rfl))) rfl rfl rfl (by exact ⟨rfl, hdc_14.1, hdc_14.2, hdd_50⟩) ⟨Nat.le_of_ble_eq_true rfl, Nat.le_of_ble_eq_true rfl⟩) ⟨fun a U g mk q => by obtain ⟨q0, q1, qP, qK, qD⟩ := q; exact ⟨q0, q1, qP, va_K.moved (u := U) (U := U.calling g mk a) (Vm.Alike.refl U.vm) qK, qD⟩, va_recv hKc hPc (ci := 12) (q0 := 0) rfl rfl, fun U hU hW => ⟨rfl, by rw [hU], by rw [hU]; exact hPc, va_K.moved hW.alike hKc, hDc.weaken (fun _ _ _ _ => trivial)⟩⟩ rfl rfl hl.1 rfl (lv_room (Nat.le_of_ble_eq_true rfl)) dX12_leafRead_161 ⟨Nat.le_of_ble_eq_true rfl, Nat.le_of_ble_eq_true rfl⟩) hS (fun q _ h => hFc q h) hFc (fun u_41 t H1 locs ht hvm hw hB hz1 hk1 hS => ?_)
            try dsimp only at hw
            obtain ⟨hP1, hK1, hD1⟩ := hB
            rw [ht] at hP1
            have hK1 := va_K.moved hvm.symm hK1
            have hK1 : va_K (dC, dI) vwCl [] s := hK1
            obtain ⟨hP, hD⟩ := va_join (wr := [(eA0 (rf 0) (ck 0) 900 f_tape), (eA0 (rf 3) (ck 3) 118 f_words), (eA0 (rf 45) (ck 45) 96 f_wait)]) (w1 := [(mq, .inr (12, mF (upd (upd (upd (upd (upd g 4 u_11.2.1) 5 u_11.2.2) 23 u_41.1) 48 u_41.2.1) 50 u_11.1) gl rf)), (eA0 (rf 41) (ck 41) 128 u_41.2.2.1), (eA0 (rf 42) (ck 42) 128 u_41.2.2.2.1), (eA0 (rf 43) (ck 43) 128 u_41.2.2.2.2.1), (eA0 (rf 46) (ck 46) 96 u_41.2.2.2.2.2)]) hP hD [7, 2, 3, 4, 6] [0, 1, 5] hCc rfl (by decide) (by decide) hk1 hFc hP1 hD1
            generalize H1 = H at hP hS ⊢
            have hP : va_P (dC, dI) vwCl [(eA0 (rf 0) (ck 0) 900 f_tape), (eA0 (rf 3) (ck 3) 118 f_words), (eA0 (rf 45) (ck 45) 96 f_wait), (mq, .inr (12, mF (upd (upd (upd (upd (upd g 4 u_11.2.1) 5 u_11.2.2) 23 u_41.1) 48 u_41.2.1) 50 u_11.1) gl rf)), (eA0 (rf 41) (ck 41) 128 u_41.2.2.1), (eA0 (rf 42) (ck 42) 128 u_41.2.2.2.1), (eA0 (rf 43) (ck 43) 128 u_41.2.2.2.2.1), (eA0 (rf 46) (ck 46) 96 u_41.2.2.2.2.2)] H := hP
            have hD : va_D A [(eA0 (rf 0) (ck 0) 900 f_tape), (eA0 (rf 3) (ck 3) 118 f_words), (eA0 (rf 45) (ck 45) 96 f_wait), (mq, .inr (12, mF (upd (upd (upd (upd (upd g 4 u_11.2.1) 5 u_11.2.2) 23 u_41.1) 48 u_41.2.1) 50 u_11.1) gl rf)), (eA0 (rf 41) (ck 41) 128 u_41.2.2.1), (eA0 (rf 42) (ck 42) 128 u_41.2.2.2.1), (eA0 (rf 43) (ck 43) 128 u_41.2.2.2.2.1), (eA0 (rf 46) (ck 46) 96 u_41.2.2.2.2.2)] := hD
            refine W.widen (k := 0) (n := 0) (by omega) (by omega) ?_
            have hq_u_41 : u_41 = (fq_grown f_knot f_part f_other f_held (1 : Int32) r_5 (0 : Int32) (g 23) (g 48)) := hw
            obtain ⟨hW_g, hH_n, hK_n, hkr_n⟩ := xgrown_leaf hW1 hH hKu (gq_leafRead_s13 (y0 := g 48) (y1 := g 23) (y2 := u_11.1) (y3 := g 50) (y4 := g 49) (y5 := g 47) (hp_15.resolve_left c_19) hwl_0.2 hw0_0 hwh_0.1 hwh_0.2 hp_17 hk6 hwt7 hk0 hLI hct6 hbr0).1 (gq_leafRead_s13 (y0 := g 48) (y1 := g 23) (y2 := u_11.1) (y3 := g 50) (y4 := g 49) (y5 := g 47) (hp_15.resolve_left c_19) hwl_0.2 hw0_0 hwh_0.1 hwh_0.2 hp_17 hk6 hwt7 hk0 hLI hct6 hbr0).2.1 (gq_leafRead_s13 (y0 := g 48) (y1 := g 23) (y2 := u_11.1) (y3 := g 50) (y4 := g 49) (y5 := g 47) (hp_15.resolve_left c_19) hwl_0.2 hw0_0 hwh_0.1 hwh_0.2 hp_17 hk6 hwt7 hk0 hLI hct6 hbr0).2.2.1 (gq_leafRead_s13 (y0 := g 48) (y1 := g 23) (y2 := u_11.1) (y3 := g 50) (y4 := g 49) (y5 := g 47) (hp_15.resolve_left c_19) hwl_0.2 hw0_0 hwh_0.1 hwh_0.2 hp_17 hk6 hwt7 hk0 hLI hct6 hbr0).2.2.2 (Or.inr ⟨rfl, xg_inr (N := 6) rfl (And.intro c_20 hp_6).1 (Int32.not_le.mpr (And.intro c_20 hp_6).2)⟩) hq_u_41
            refine lv_aload_n hx hb dX12_leafRead_164 rfl (lv_at hl 1 rfl) ?_
            refine lv_iconst (v := 0) hx hb dX12_leafRead_165 (by decide) ?_
            refine va_put (D := (dC, dI)) (ci := 12) (v := .int 0) (ty := tyX12 51) (C := RX12) (T := TX12) (N := 76) hx hb htw inlX12 tyX12 tyX12_ok nmX12 hown hK hP hD hS 3 rfl rfl 51 (by decide) (htw _ (ck_27 _ (List.mem_of_getElem? (i := 19) rfl))) (fun _ h9 => h9) rfl (tyX12_ok 51 (by decide)) rfl rfl (Nat.le_of_ble_eq_true rfl) dX12_leafRead_166 (fun H locs hP hD hS => ?_)
            have hP : va_P (dC, dI) vwCl [(eA0 (rf 0) (ck 0) 900 f_tape), (eA0 (rf 3) (ck 3) 118 f_words), (eA0 (rf 45) (ck 45) 96 f_wait), (mq, .inr (12, mF (upd (upd (upd (upd (upd (upd g 4 u_11.2.1) 5 u_11.2.2) 23 u_41.1) 48 u_41.2.1) 50 u_11.1) 51 0) gl rf)), (eA0 (rf 41) (ck 41) 128 u_41.2.2.1), (eA0 (rf 42) (ck 42) 128 u_41.2.2.2.1), (eA0 (rf 43) (ck 43) 128 u_41.2.2.2.2.1), (eA0 (rf 46) (ck 46) 96 u_41.2.2.2.2.2)] H := hP
            have hD : va_D A [(eA0 (rf 0) (ck 0) 900 f_tape), (eA0 (rf 3) (ck 3) 118 f_words), (eA0 (rf 45) (ck 45) 96 f_wait), (mq, .inr (12, mF (upd (upd (upd (upd (upd (upd g 4 u_11.2.1) 5 u_11.2.2) 23 u_41.1) 48 u_41.2.1) 50 u_11.1) 51 0) gl rf)), (eA0 (rf 41) (ck 41) 128 u_41.2.2.1), (eA0 (rf 42) (ck 42) 128 u_41.2.2.2.1), (eA0 (rf 43) (ck 43) 128 u_41.2.2.2.2.1), (eA0 (rf 46) (ck 46) 96 u_41.2.2.2.2.2)] := hD
            refine lv_aload_n hx hb dX12_leafRead_169 rfl (lv_at hl 1 rfl) ?_
            obtain ⟨hPc, hDc, hFc, hCc⟩ := zsub3 (ws' := [(mq, .inr (12, mF (upd (upd (upd (upd (upd (upd g 4 u_11.2.1) 5 u_11.2.2) 23 u_41.1) 48 u_41.2.1) 50 u_11.1) 51 0) gl rf)), (eA0 (rf 0) (ck 0) 900 f_tape), (eA0 (rf 3) (ck 3) 118 f_words)]) hP hD hS hA [3, 0, 1] (by decide) rfl
            have hKc := hK.sub (tys' := [((ck 0), .int), ((ck 3), .int)]) [0, 1] rfl
            refine va_callv (va_runV (As := []) (rest := []) ⟨hx, hb, hml, hown, htw⟩ (gy_token l dC dI mq (upd (upd (upd (upd (upd (upd g 4 u_11.2.1) 5 u_11.2.2) 23 u_41.1) 48 u_41.2.1) 50 u_11.1) 51 0) gl rf ck f_tape f_words H.size h0n hns hs9 hw7) (cwV 0 htw (xg_V (ck_24 _ (List.mem_of_getElem? (i := 14) rfl)) (ck_24 _ (List.mem_of_getElem? (i := 15) rfl)) (ck_24 _ (List.mem_of_getElem? (i := 16) rfl)) (ck_1 _ (List.mem_of_getElem? (i := 5) rfl)) (ck_24 _ (List.mem_of_getElem? (i := 17) rfl))) rfl rfl rfl (by exact ⟨rfl, hdc_14.1, hdc_14.2, hdd_13⟩) ⟨Nat.le_of_ble_eq_true rfl, Nat.le_of_ble_eq_true rfl⟩) ⟨fun a U g mk q => by obtain ⟨q0, q1, qP, qK, qD⟩ := q; exact ⟨q0, q1, qP, va_K.moved (u := U) (U := U.calling g mk a) (Vm.Alike.refl U.vm) qK, qD⟩, va_recv hKc hPc (ci := 12) (q0 := 0) rfl rfl, fun U hU hW => ⟨rfl, by rw [hU], by rw [hU]; exact hPc, va_K.moved hW.alike hKc, hDc.weaken (fun _ _ _ _ => trivial)⟩⟩ rfl rfl hl.1 rfl (lv_room (Nat.le_of_ble_eq_true rfl)) dX12_leafRead_170 ⟨Nat.le_of_ble_eq_true rfl, Nat.le_of_ble_eq_true rfl⟩) hS (fun q _ h => hFc q h) hFc (fun u_49 t H1 locs ht hvm hw hB hz1 hk1 hS => ?_)
            try dsimp only at hw
            obtain ⟨hP1, hK1, hD1⟩ := hB
            rw [ht] at hP1
            have hK1 := va_K.moved hvm.symm hK1
            have hK1 : va_K (dC, dI) vwCl [] s := hK1
            obtain ⟨hP, hD⟩ := va_join (wr := [(eA0 (rf 45) (ck 45) 96 f_wait), (eA0 (rf 41) (ck 41) 128 u_41.2.2.1), (eA0 (rf 42) (ck 42) 128 u_41.2.2.2.1), (eA0 (rf 43) (ck 43) 128 u_41.2.2.2.2.1), (eA0 (rf 46) (ck 46) 96 u_41.2.2.2.2.2)]) (w1 := [(mq, .inr (12, mF (upd (upd (upd (upd (upd (upd (upd (upd (upd (upd g 4 u_11.2.1) 5 u_11.2.2) 7 u_49.1) 8 u_49.2.1) 9 u_49.2.2.1) 10 u_49.2.2.2) 23 u_41.1) 48 u_41.2.1) 50 u_11.1) 51 0) gl rf)), (eA0 (rf 0) (ck 0) 900 f_tape), (eA0 (rf 3) (ck 3) 118 f_words)]) hP hD [3, 0, 1] [2, 4, 5, 6, 7] hCc rfl (by decide) (by decide) hk1 hFc hP1 hD1
            generalize H1 = H at hP hS ⊢
            have hP : va_P (dC, dI) vwCl [(eA0 (rf 45) (ck 45) 96 f_wait), (eA0 (rf 41) (ck 41) 128 u_41.2.2.1), (eA0 (rf 42) (ck 42) 128 u_41.2.2.2.1), (eA0 (rf 43) (ck 43) 128 u_41.2.2.2.2.1), (eA0 (rf 46) (ck 46) 96 u_41.2.2.2.2.2), (mq, .inr (12, mF (upd (upd (upd (upd (upd (upd (upd (upd (upd (upd g 4 u_11.2.1) 5 u_11.2.2) 7 u_49.1) 8 u_49.2.1) 9 u_49.2.2.1) 10 u_49.2.2.2) 23 u_41.1) 48 u_41.2.1) 50 u_11.1) 51 0) gl rf)), (eA0 (rf 0) (ck 0) 900 f_tape), (eA0 (rf 3) (ck 3) 118 f_words)] H := hP
            have hD : va_D A [(eA0 (rf 45) (ck 45) 96 f_wait), (eA0 (rf 41) (ck 41) 128 u_41.2.2.1), (eA0 (rf 42) (ck 42) 128 u_41.2.2.2.1), (eA0 (rf 43) (ck 43) 128 u_41.2.2.2.2.1), (eA0 (rf 46) (ck 46) 96 u_41.2.2.2.2.2), (mq, .inr (12, mF (upd (upd (upd (upd (upd (upd (upd (upd (upd (upd g 4 u_11.2.1) 5 u_11.2.2) 7 u_49.1) 8 u_49.2.1) 9 u_49.2.2.1) 10 u_49.2.2.2) 23 u_41.1) 48 u_41.2.1) 50 u_11.1) 51 0) gl rf)), (eA0 (rf 0) (ck 0) 900 f_tape), (eA0 (rf 3) (ck 3) 118 f_words)] := hD
            refine W.widen (k := 0) (n := 0) (by omega) (by omega) ?_
            obtain ⟨hw, hp_54, hp_55, hp_56⟩ := hw
            have hq_u_49 : u_49 = (fq_token f_tape f_words (g 6) (g 7) (g 9)) := hw
            refine lv_iconst (v := 1) hx hb dX12_leafRead_173 (by decide) ?_
            refine W.widen (k := 0) (n := 0) (by omega) (by omega) ?_
            obtain ⟨hP9, hD9⟩ := zsub2 (ws' := [(mq, .inr (12, mF (upd (upd (upd (upd (upd (upd (upd (upd (upd (upd g 4 u_11.2.1) 5 u_11.2.2) 7 u_49.1) 8 u_49.2.1) 9 u_49.2.2.1) 10 u_49.2.2.2) 23 u_41.1) 48 u_41.2.1) 50 u_11.1) 51 0) gl rf)), (eA0 (rf 0) (ck 0) 900 f_tape), (eA0 (rf 3) (ck 3) 118 f_words), (eA0 (rf 41) (ck 41) 128 u_41.2.2.1), (eA0 (rf 42) (ck 42) 128 u_41.2.2.2.1), (eA0 (rf 43) (ck 43) 128 u_41.2.2.2.2.1), (eA0 (rf 45) (ck 45) 96 f_wait), (eA0 (rf 46) (ck 46) 96 u_41.2.2.2.2.2)]) hP hD [5, 6, 7, 1, 2, 3, 0, 4] (by decide +kernel) rfl
            have hK9 := hK.sub (tys' := []) [] rfl
            exact W.zret (v := 1) hx hb hr (by first | rfl | decide) (fun t ht hW => ⟨⟨1, (u_41.2.2.1, u_41.2.2.2.1, u_41.2.2.2.2.1, u_41.2.2.2.2.2, u_11.2.1, u_11.2.2, u_49.1, u_49.2.1, u_49.2.2.1, u_49.2.2.2, u_41.1, u_41.2.1, u_11.1, 0, f_wait, (g 47), (g 49), (g 52)), rfl, ⟨((fun e9 => ⟨by rw [e9], by rw [e9]⟩ : fq_leafRead f_tape f_words f_knot f_part f_other f_wait f_held (g 4) (g 5) (g 6) (g 7) (g 8) (g 9) (g 10) (g 23) (g 47) (g 48) (g 49) (g 50) (g 51) (g 52) = ((1 : Int32), u_41.2.2.1, u_41.2.2.2.1, u_41.2.2.2.2.1, u_41.2.2.2.2.2, u_11.2.1, u_11.2.2, u_49.1, u_49.2.1, u_49.2.2.1, u_49.2.2.2, u_41.1, u_41.2.1, u_11.1, (0 : Int32), f_wait, (g 47), (g 49), (g 52)) → _) ((by rw [fq_leafRead]; (try rw [← hq_r_1]); (try rw [xL_eq]); (try rw [if_pos c_2]); (try rw [← hq_r_3]); (try rw [xL_eq]); (try rw [if_pos c_4]); (try rw [← hq_r_5]); (try rw [xL_eq]); (try rw [if_pos c_8]); (try rw [← hX_18]); (try rw [xL_eq]); (try rw [← hq_r_10]); (try rw [← hq_u_11]); (try rw [if_neg c_19]); (try rw [if_neg c_20]); (try rw [← hq_u_41]); (try rw [xL_eq]); (try rw [← hq_u_49]); (try rw [xL_eq]); try rfl))), Or.inr rfl, hp_54, hp_55, (Or.inr (gq_leafRead_s14 (y0 := u_41.1) (y1 := u_11.1) (y2 := g 50) (y3 := g 49) (y4 := g 47) (y5 := g 23) (hp_15.resolve_left c_19) hwl_0.2 hw0_0 hp_17 hkr_n hk6 hwt7 hk0 hLI hct6 hbr0)), (Or.inr hwt7), hK_n, (Or.inr (gq_leafRead_s15 (y0 := u_41.1) (y1 := g 23) hkr_n hk6 hk0)), (Or.inr (gq_leafRead_s16 (y0 := u_41.1) (y1 := g 47) (y2 := g 49) (y3 := u_11.1) (y4 := g 50) (y5 := g 23) (hp_15.resolve_left c_19) hwl_0.2 hw0_0 hkr_n hk6 hwt7 hk0 hLI hct6 hbr0)), hp_16, hp_17, (Or.inr hwl_0.1), (Or.inr hbr8), (Or.inr (gq_leafRead_s17 )), (Or.inr (gq_leafRead_s18 )), (Or.inr (gq_leafRead_s19 (y0 := u_41.1) (y1 := g 23) hkr_n hk6 hk0)), (Or.inr (gq_leafRead_s20 (y0 := g 23) (y1 := u_41.1) hkr_n hk6)), (Or.inr ⟨hW_g, hH_n, hp_56, (xm_cnt (hp_15.resolve_left c_19) hct0 hct6 hbr0 hbr8 hbr0 hbr8)⟩)⟩, by rw [ht]; exact hP9, va_K.moved hW.alike hK9, hD9⟩, hS.F ht⟩) hS.2.2 dX12_leafRead_174
        · refine lv_iconst (v := 0) hx hb dX12_leafRead_136 (by decide) ?_
          refine W.widen (k := 0) (n := 0) (by omega) (by omega) ?_
          obtain ⟨hP9, hD9⟩ := zsub2 (ws' := [(mq, .inr (12, mF (upd (upd (upd g 4 u_11.2.1) 5 u_11.2.2) 50 u_11.1) gl rf)), (eA0 (rf 0) (ck 0) 900 f_tape), (eA0 (rf 3) (ck 3) 118 f_words), (eA0 (rf 41) (ck 41) 128 f_knot), (eA0 (rf 42) (ck 42) 128 f_part), (eA0 (rf 43) (ck 43) 128 f_other), (eA0 (rf 45) (ck 45) 96 f_wait), (eA0 (rf 46) (ck 46) 96 f_held)]) hP hD [7, 0, 1, 2, 3, 4, 5, 6] (by decide +kernel) rfl
          have hK9 := hK.sub (tys' := []) [] rfl
          exact W.zret (v := 0) hx hb hr (by first | rfl | decide) (fun t ht hW => ⟨⟨0, (f_knot, f_part, f_other, f_held, u_11.2.1, u_11.2.2, (g 7), (g 8), (g 9), (g 10), (g 23), (g 48), u_11.1, (g 51), f_wait, (g 47), (g 49), (g 52)), rfl, ⟨((fun e9 => ⟨by rw [e9], by rw [e9]⟩ : fq_leafRead f_tape f_words f_knot f_part f_other f_wait f_held (g 4) (g 5) (g 6) (g 7) (g 8) (g 9) (g 10) (g 23) (g 47) (g 48) (g 49) (g 50) (g 51) (g 52) = ((0 : Int32), f_knot, f_part, f_other, f_held, u_11.2.1, u_11.2.2, (g 7), (g 8), (g 9), (g 10), (g 23), (g 48), u_11.1, (g 51), f_wait, (g 47), (g 49), (g 52)) → _) ((by rw [fq_leafRead]; (try rw [← hq_r_1]); (try rw [xL_eq]); (try rw [if_pos c_2]); (try rw [← hq_r_3]); (try rw [xL_eq]); (try rw [if_pos c_4]); (try rw [← hq_r_5]); (try rw [xL_eq]); (try rw [if_pos c_8]); (try rw [← hX_18]); (try rw [xL_eq]); (try rw [← hq_r_10]); (try rw [← hq_u_11]); (try rw [if_pos c_19]); try rfl))), Or.inl rfl, h0n, hns, Or.inl rfl, Or.inl rfl, hKu, Or.inl rfl, Or.inl rfl, hp_16, hp_17, Or.inl rfl, Or.inl rfl, Or.inl rfl, Or.inl rfl, Or.inl rfl, Or.inl rfl, (Or.inl rfl)⟩, by rw [ht]; exact hP9, va_K.moved hW.alike hK9, hD9⟩, hS.F ht⟩) hS.2.2 dX12_leafRead_137
      · refine lv_aload_n hx hb dX12_leafRead_95 rfl (lv_at hl 1 rfl) ?_
        refine va_get (D := (dC, dI)) (ci := 12) (v := .int (g 8)) (C := RX12) (T := TX12) (N := 76) hx hb htw inlX12 hown hK hP 0 rfl rfl 8 (by decide) (htw _ (ck_24 _ (List.mem_of_getElem? (i := 13) rfl))) (fun _ h9 => h9) rfl dX12_leafRead_96 ?_
        refine lv_iconst (v := 3) hx hb dX12_leafRead_99 (by decide) ?_
        refine lv_icmp_eq (tgt := 109) hx hb dX12_leafRead_100 (by decide) (fun c_57 => ?_) (fun c_57 => ?_)
        · refine lv_iload_n hx hb dX12_leafRead_109 rfl (lv_at hl 0 rfl) ?_
          refine lv_if_ge (tgt := 129) hx hb dX12_leafRead_110 (by decide) (fun c_58 => absurd c_58 (c_8)) (fun c_58 => ?_)
          refine lv_aload_n hx hb dX12_leafRead_113 rfl (lv_at hl 1 rfl) ?_
          refine va_get (D := (dC, dI)) (ci := 12) (v := .int (g 9)) (C := RX12) (T := TX12) (N := 76) hx hb htw inlX12 hown hK hP 0 rfl rfl 9 (by decide) (htw _ (ck_24 _ (List.mem_of_getElem? (i := 19) rfl))) (fun _ h9 => h9) rfl dX12_leafRead_114 ?_
          refine lv_sipush (v := 9999) hx hb dX12_leafRead_117 (by decide) ?_
          refine lv_icmp_le (tgt := 129) hx hb dX12_leafRead_120 (by decide) (fun c_59 => ?_) (fun c_59 => ?_)
          · refine lv_aload_n hx hb dX12_leafRead_129 rfl (lv_at hl 1 rfl) ?_
            obtain ⟨hPc, hDc, hFc, hCc⟩ := zsub3 (ws' := [(mq, .inr (12, mF g gl rf))]) hP hD hS hA [0] (by decide) rfl
            have hKc := hK.sub (tys' := []) [] rfl
            refine va_calli (va_runV (As := []) (rest := []) ⟨hx, hb, hml, hown, htw⟩ (gy_isCounted l dC dI mq g gl rf H.size hct0 hct6) (cwV 0 htw (xg_V (ck_28 _ (List.mem_of_getElem? (i := 5) rfl)) (ck_28 _ (List.mem_of_getElem? (i := 6) rfl)) (ck_28 _ (List.mem_of_getElem? (i := 7) rfl)) (ck_1 _ (List.mem_of_getElem? (i := 5) rfl)) (ck_28 _ (List.mem_of_getElem? (i := 8) rfl))) rfl rfl rfl (by exact ⟨rfl, hdc_14.1, hdc_14.2, hdd_32⟩) ⟨Nat.le_of_ble_eq_true rfl, Nat.le_of_ble_eq_true rfl⟩) ⟨fun a U g mk q => by obtain ⟨q0, q1, qP, qK, qD⟩ := q; exact ⟨q0, q1, qP, va_K.moved (u := U) (U := U.calling g mk a) (Vm.Alike.refl U.vm) qK, qD⟩, va_recv hKc hPc (ci := 12) (q0 := 0) rfl rfl, fun U hU hW => ⟨rfl, by rw [hU], by rw [hU]; exact hPc, va_K.moved hW.alike hKc, hDc.weaken (fun _ _ _ _ => trivial)⟩⟩ rfl rfl hl.1 rfl (lv_room (Nat.le_of_ble_eq_true rfl)) dX12_leafRead_130 ⟨Nat.le_of_ble_eq_true rfl, Nat.le_of_ble_eq_true rfl⟩) hS (fun q _ h => hFc q h) hFc (fun r_60 u_61 t H1 locs ht hvm hw hB hz1 hk1 hS => ?_)
            try dsimp only at hw
            obtain ⟨hP1, hK1, hD1⟩ := hB
            rw [ht] at hP1
            have hK1 := va_K.moved hvm.symm hK1
            have hK1 : va_K (dC, dI) vwCl [] s := hK1
            obtain ⟨hP, hD⟩ := va_join (wr := [(eA0 (rf 0) (ck 0) 900 f_tape), (eA0 (rf 3) (ck 3) 118 f_words), (eA0 (rf 41) (ck 41) 128 f_knot), (eA0 (rf 42) (ck 42) 128 f_part), (eA0 (rf 43) (ck 43) 128 f_other), (eA0 (rf 45) (ck 45) 96 f_wait), (eA0 (rf 46) (ck 46) 96 f_held)]) (w1 := [(mq, .inr (12, mF (upd (upd (upd g 4 u_61.2.1) 5 u_61.2.2) 50 u_61.1) gl rf))]) hP hD [0] [1, 2, 3, 4, 5, 6, 7] hCc rfl (by decide) (by decide) hk1 hFc hP1 hD1
            generalize H1 = H at hP hS ⊢
            have hP : va_P (dC, dI) vwCl [(eA0 (rf 0) (ck 0) 900 f_tape), (eA0 (rf 3) (ck 3) 118 f_words), (eA0 (rf 41) (ck 41) 128 f_knot), (eA0 (rf 42) (ck 42) 128 f_part), (eA0 (rf 43) (ck 43) 128 f_other), (eA0 (rf 45) (ck 45) 96 f_wait), (eA0 (rf 46) (ck 46) 96 f_held), (mq, .inr (12, mF (upd (upd (upd g 4 u_61.2.1) 5 u_61.2.2) 50 u_61.1) gl rf))] H := hP
            have hD : va_D A [(eA0 (rf 0) (ck 0) 900 f_tape), (eA0 (rf 3) (ck 3) 118 f_words), (eA0 (rf 41) (ck 41) 128 f_knot), (eA0 (rf 42) (ck 42) 128 f_part), (eA0 (rf 43) (ck 43) 128 f_other), (eA0 (rf 45) (ck 45) 96 f_wait), (eA0 (rf 46) (ck 46) 96 f_held), (mq, .inr (12, mF (upd (upd (upd g 4 u_61.2.1) 5 u_61.2.2) 50 u_61.1) gl rf))] := hD
            refine W.widen (k := 0) (n := 0) (by omega) (by omega) ?_
            obtain ⟨hw, hb_r_60, hp_65, hp_66, hp_67⟩ := hw
            obtain ⟨X_68, hX_68⟩ : ∃ X9 : Int32 × (Int32) × (Int32) × (Int32), X9 = (fq_isCounted (g 4) (g 5) (g 10) (g 50)) := ⟨_, rfl⟩
            have hq_r_60 : r_60 = X_68.1 := by rw [hX_68]; exact hw.1
            have hq_u_61 : u_61 = X_68.2 := by rw [hX_68]; exact hw.2
            refine lv_if_ne (tgt := 138) hx hb dX12_leafRead_133 (by decide) (fun c_69 => ?_) (fun c_69 => ?_)
            · refine lv_aload_n hx hb dX12_leafRead_138 rfl (lv_at hl 1 rfl) ?_
              refine lv_iload_n hx hb dX12_leafRead_139 rfl (lv_at hl 0 rfl) ?_
              refine lv_if_lt (tgt := 147) hx hb dX12_leafRead_140 (by decide) (fun c_70 => ?_) (fun c_70 => ?_)
              · refine lv_iconst (v := 0) hx hb dX12_leafRead_147 (by decide) ?_
                refine lv_iload_n hx hb dX12_leafRead_148 rfl (lv_at hl 0 rfl) ?_
                refine lv_if_lt (tgt := 156) hx hb dX12_leafRead_149 (by decide) (fun c_71 => ?_) (fun c_71 => absurd c_71 (fun h9 => h9 c_70))
                refine lv_aload_n hx hb dX12_leafRead_156 rfl (lv_at hl 1 rfl) ?_
                refine va_get (D := (dC, dI)) (ci := 12) (v := .int (g 9)) (C := RX12) (T := TX12) (N := 76) hx hb htw inlX12 hown hK hP 7 rfl rfl 9 (by decide) (htw _ (ck_24 _ (List.mem_of_getElem? (i := 19) rfl))) (fun _ h9 => h9) rfl dX12_leafRead_157 ?_
                refine lv_iconst (v := 0) hx hb dX12_leafRead_160 (by decide) ?_
                obtain ⟨hPc, hDc, hFc, hCc⟩ := zsub3 (ws' := [(mq, .inr (12, mF (upd (upd (upd g 4 u_61.2.1) 5 u_61.2.2) 50 u_61.1) gl rf)), (eA0 (rf 41) (ck 41) 128 f_knot), (eA0 (rf 42) (ck 42) 128 f_part), (eA0 (rf 43) (ck 43) 128 f_other), (eA0 (rf 46) (ck 46) 96 f_held)]) hP hD hS hA [7, 2, 3, 4, 6] (by decide) rfl
                have hKc := hK.sub (tys' := [((ck 41), .int), ((ck 42), .int), ((ck 43), .int), ((ck 46), .int)]) [2, 3, 4, 6] rfl
                refine va_callv (va_runV (As := [.int 0, .int (g 9), .int 0]) (rest := []) ⟨hx, hb, hml, hown, htw⟩ (gq_grown l dC dI mq (upd (upd (upd g 4 u_61.2.1) 5 u_61.2.2) 50 u_61.1) gl rf ck f_knot f_part f_other f_held (0 : Int32) (g 9) (0 : Int32) H.size hk0 (gq_leafRead_s21 (y0 := g 23) (y1 := u_61.1) (y2 := g 50) (y3 := g 49) (y4 := g 47) (hp_65.resolve_left c_69) hwl_0.2 hw0_0 hp_67 hk6 hwt7 hk0 hLI hct6 hbr0) hwh_0.1 (gq_leafRead_s22 (y0 := g 48) (y1 := g 47) hwh_0.2 hwt7)) (cwV 3 htw (xg_V (ck_28 _ (List.mem_of_getElem? (i := 13) rfl)) (ck_28 _ (List.mem_of_getElem? (i := 14) rfl)) (ck_28 _ (List.mem_of_getElem? (i := 15) rfl)) (ck_1 _ (List.mem_of_getElem? (i := 5) rfl)) (ck_28 _ (List.mem_of_getElem? (i := 16) rfl))) rfl rfl rfl (by exact ⟨rfl, hdc_14.1, hdc_14.2, hdd_50⟩) ⟨Nat.le_of_ble_eq_true rfl, Nat.le_of_ble_eq_true rfl⟩) ⟨fun a U g mk q => by obtain ⟨q0, q1, qP, qK, qD⟩ := q; exact ⟨q0, q1, qP, va_K.moved (u := U) (U := U.calling g mk a) (Vm.Alike.refl U.vm) qK, qD⟩, va_recv hKc hPc (ci := 12) (q0 := 0) rfl rfl, fun U hU hW => ⟨rfl, by rw [hU], by rw [hU]; exact hPc, va_K.moved hW.alike hKc, hDc.weaken (fun _ _ _ _ => trivial)⟩⟩ rfl rfl hl.1 rfl (lv_room (Nat.le_of_ble_eq_true rfl)) dX12_leafRead_161 ⟨Nat.le_of_ble_eq_true rfl, Nat.le_of_ble_eq_true rfl⟩) hS (fun q _ h => hFc q h) hFc (fun u_73 t H1 locs ht hvm hw hB hz1 hk1 hS => ?_)
                try dsimp only at hw
                obtain ⟨hP1, hK1, hD1⟩ := hB
                rw [ht] at hP1
                have hK1 := va_K.moved hvm.symm hK1
                have hK1 : va_K (dC, dI) vwCl [] s := hK1
                obtain ⟨hP, hD⟩ := va_join (wr := [(eA0 (rf 0) (ck 0) 900 f_tape), (eA0 (rf 3) (ck 3) 118 f_words), (eA0 (rf 45) (ck 45) 96 f_wait)]) (w1 := [(mq, .inr (12, mF (upd (upd (upd (upd (upd g 4 u_61.2.1) 5 u_61.2.2) 23 u_73.1) 48 u_73.2.1) 50 u_61.1) gl rf)), (eA0 (rf 41) (ck 41) 128 u_73.2.2.1), (eA0 (rf 42) (ck 42) 128 u_73.2.2.2.1), (eA0 (rf 43) (ck 43) 128 u_73.2.2.2.2.1), (eA0 (rf 46) (ck 46) 96 u_73.2.2.2.2.2)]) hP hD [7, 2, 3, 4, 6] [0, 1, 5] hCc rfl (by decide) (by decide) hk1 hFc hP1 hD1
                generalize H1 = H at hP hS ⊢
                have hP : va_P (dC, dI) vwCl [(eA0 (rf 0) (ck 0) 900 f_tape), (eA0 (rf 3) (ck 3) 118 f_words), (eA0 (rf 45) (ck 45) 96 f_wait), (mq, .inr (12, mF (upd (upd (upd (upd (upd g 4 u_61.2.1) 5 u_61.2.2) 23 u_73.1) 48 u_73.2.1) 50 u_61.1) gl rf)), (eA0 (rf 41) (ck 41) 128 u_73.2.2.1), (eA0 (rf 42) (ck 42) 128 u_73.2.2.2.1), (eA0 (rf 43) (ck 43) 128 u_73.2.2.2.2.1), (eA0 (rf 46) (ck 46) 96 u_73.2.2.2.2.2)] H := hP
                have hD : va_D A [(eA0 (rf 0) (ck 0) 900 f_tape), (eA0 (rf 3) (ck 3) 118 f_words), (eA0 (rf 45) (ck 45) 96 f_wait), (mq, .inr (12, mF (upd (upd (upd (upd (upd g 4 u_61.2.1) 5 u_61.2.2) 23 u_73.1) 48 u_73.2.1) 50 u_61.1) gl rf)), (eA0 (rf 41) (ck 41) 128 u_73.2.2.1), (eA0 (rf 42) (ck 42) 128 u_73.2.2.2.1), (eA0 (rf 43) (ck 43) 128 u_73.2.2.2.2.1), (eA0 (rf 46) (ck 46) 96 u_73.2.2.2.2.2)] := hD
                refine W.widen (k := 0) (n := 0) (by omega) (by omega) ?_
                have hq_u_73 : u_73 = (fq_grown f_knot f_part f_other f_held (0 : Int32) (g 9) (0 : Int32) (g 23) (g 48)) := hw
                obtain ⟨hW_g, hH_n, hK_n, hkr_n⟩ := xgrown_leaf hW1 hH hKu (gq_leafRead_s23 (y0 := g 48) (y1 := g 23) (y2 := u_61.1) (y3 := g 50) (y4 := g 49) (y5 := g 47) (hp_65.resolve_left c_69) hwl_0.2 hw0_0 hwh_0.1 hwh_0.2 hp_67 hk6 hwt7 hk0 hLI hct6 hbr0).1 (gq_leafRead_s23 (y0 := g 48) (y1 := g 23) (y2 := u_61.1) (y3 := g 50) (y4 := g 49) (y5 := g 47) (hp_65.resolve_left c_69) hwl_0.2 hw0_0 hwh_0.1 hwh_0.2 hp_67 hk6 hwt7 hk0 hLI hct6 hbr0).2.1 (gq_leafRead_s23 (y0 := g 48) (y1 := g 23) (y2 := u_61.1) (y3 := g 50) (y4 := g 49) (y5 := g 47) (hp_65.resolve_left c_69) hwl_0.2 hw0_0 hwh_0.1 hwh_0.2 hp_67 hk6 hwt7 hk0 hLI hct6 hbr0).2.2.1 (gq_leafRead_s23 (y0 := g 48) (y1 := g 23) (y2 := u_61.1) (y3 := g 50) (y4 := g 49) (y5 := g 47) (hp_65.resolve_left c_69) hwl_0.2 hw0_0 hwh_0.1 hwh_0.2 hp_67 hk6 hwt7 hk0 hLI hct6 hbr0).2.2.2 (Or.inl rfl) hq_u_73
                refine lv_aload_n hx hb dX12_leafRead_164 rfl (lv_at hl 1 rfl) ?_
                refine lv_iconst (v := 0) hx hb dX12_leafRead_165 (by decide) ?_
                refine va_put (D := (dC, dI)) (ci := 12) (v := .int 0) (ty := tyX12 51) (C := RX12) (T := TX12) (N := 76) hx hb htw inlX12 tyX12 tyX12_ok nmX12 hown hK hP hD hS 3 rfl rfl 51 (by decide) (htw _ (ck_27 _ (List.mem_of_getElem? (i := 19) rfl))) (fun _ h9 => h9) rfl (tyX12_ok 51 (by decide)) rfl rfl (Nat.le_of_ble_eq_true rfl) dX12_leafRead_166 (fun H locs hP hD hS => ?_)
                have hP : va_P (dC, dI) vwCl [(eA0 (rf 0) (ck 0) 900 f_tape), (eA0 (rf 3) (ck 3) 118 f_words), (eA0 (rf 45) (ck 45) 96 f_wait), (mq, .inr (12, mF (upd (upd (upd (upd (upd (upd g 4 u_61.2.1) 5 u_61.2.2) 23 u_73.1) 48 u_73.2.1) 50 u_61.1) 51 0) gl rf)), (eA0 (rf 41) (ck 41) 128 u_73.2.2.1), (eA0 (rf 42) (ck 42) 128 u_73.2.2.2.1), (eA0 (rf 43) (ck 43) 128 u_73.2.2.2.2.1), (eA0 (rf 46) (ck 46) 96 u_73.2.2.2.2.2)] H := hP
                have hD : va_D A [(eA0 (rf 0) (ck 0) 900 f_tape), (eA0 (rf 3) (ck 3) 118 f_words), (eA0 (rf 45) (ck 45) 96 f_wait), (mq, .inr (12, mF (upd (upd (upd (upd (upd (upd g 4 u_61.2.1) 5 u_61.2.2) 23 u_73.1) 48 u_73.2.1) 50 u_61.1) 51 0) gl rf)), (eA0 (rf 41) (ck 41) 128 u_73.2.2.1), (eA0 (rf 42) (ck 42) 128 u_73.2.2.2.1), (eA0 (rf 43) (ck 43) 128 u_73.2.2.2.2.1), (eA0 (rf 46) (ck 46) 96 u_73.2.2.2.2.2)] := hD
                refine lv_aload_n hx hb dX12_leafRead_169 rfl (lv_at hl 1 rfl) ?_
                obtain ⟨hPc, hDc, hFc, hCc⟩ := zsub3 (ws' := [(mq, .inr (12, mF (upd (upd (upd (upd (upd (upd g 4 u_61.2.1) 5 u_61.2.2) 23 u_73.1) 48 u_73.2.1) 50 u_61.1) 51 0) gl rf)), (eA0 (rf 0) (ck 0) 900 f_tape), (eA0 (rf 3) (ck 3) 118 f_words)]) hP hD hS hA [3, 0, 1] (by decide) rfl
                have hKc := hK.sub (tys' := [((ck 0), .int), ((ck 3), .int)]) [0, 1] rfl
                refine va_callv (va_runV (As := []) (rest := []) ⟨hx, hb, hml, hown, htw⟩ (gy_token l dC dI mq (upd (upd (upd (upd (upd (upd g 4 u_61.2.1) 5 u_61.2.2) 23 u_73.1) 48 u_73.2.1) 50 u_61.1) 51 0) gl rf ck f_tape f_words H.size h0n hns hs9 hw7) (cwV 0 htw (xg_V (ck_24 _ (List.mem_of_getElem? (i := 14) rfl)) (ck_24 _ (List.mem_of_getElem? (i := 15) rfl)) (ck_24 _ (List.mem_of_getElem? (i := 16) rfl)) (ck_1 _ (List.mem_of_getElem? (i := 5) rfl)) (ck_24 _ (List.mem_of_getElem? (i := 17) rfl))) rfl rfl rfl (by exact ⟨rfl, hdc_14.1, hdc_14.2, hdd_13⟩) ⟨Nat.le_of_ble_eq_true rfl, Nat.le_of_ble_eq_true rfl⟩) ⟨fun a U g mk q => by obtain ⟨q0, q1, qP, qK, qD⟩ := q; exact ⟨q0, q1, qP, va_K.moved (u := U) (U := U.calling g mk a) (Vm.Alike.refl U.vm) qK, qD⟩, va_recv hKc hPc (ci := 12) (q0 := 0) rfl rfl, fun U hU hW => ⟨rfl, by rw [hU], by rw [hU]; exact hPc, va_K.moved hW.alike hKc, hDc.weaken (fun _ _ _ _ => trivial)⟩⟩ rfl rfl hl.1 rfl (lv_room (Nat.le_of_ble_eq_true rfl)) dX12_leafRead_170 ⟨Nat.le_of_ble_eq_true rfl, Nat.le_of_ble_eq_true rfl⟩) hS (fun q _ h => hFc q h) hFc (fun u_81 t H1 locs ht hvm hw hB hz1 hk1 hS => ?_)
                try dsimp only at hw
                obtain ⟨hP1, hK1, hD1⟩ := hB
                rw [ht] at hP1
                have hK1 := va_K.moved hvm.symm hK1
                have hK1 : va_K (dC, dI) vwCl [] s := hK1
                obtain ⟨hP, hD⟩ := va_join (wr := [(eA0 (rf 45) (ck 45) 96 f_wait), (eA0 (rf 41) (ck 41) 128 u_73.2.2.1), (eA0 (rf 42) (ck 42) 128 u_73.2.2.2.1), (eA0 (rf 43) (ck 43) 128 u_73.2.2.2.2.1), (eA0 (rf 46) (ck 46) 96 u_73.2.2.2.2.2)]) (w1 := [(mq, .inr (12, mF (upd (upd (upd (upd (upd (upd (upd (upd (upd (upd g 4 u_61.2.1) 5 u_61.2.2) 7 u_81.1) 8 u_81.2.1) 9 u_81.2.2.1) 10 u_81.2.2.2) 23 u_73.1) 48 u_73.2.1) 50 u_61.1) 51 0) gl rf)), (eA0 (rf 0) (ck 0) 900 f_tape), (eA0 (rf 3) (ck 3) 118 f_words)]) hP hD [3, 0, 1] [2, 4, 5, 6, 7] hCc rfl (by decide) (by decide) hk1 hFc hP1 hD1
                generalize H1 = H at hP hS ⊢
                have hP : va_P (dC, dI) vwCl [(eA0 (rf 45) (ck 45) 96 f_wait), (eA0 (rf 41) (ck 41) 128 u_73.2.2.1), (eA0 (rf 42) (ck 42) 128 u_73.2.2.2.1), (eA0 (rf 43) (ck 43) 128 u_73.2.2.2.2.1), (eA0 (rf 46) (ck 46) 96 u_73.2.2.2.2.2), (mq, .inr (12, mF (upd (upd (upd (upd (upd (upd (upd (upd (upd (upd g 4 u_61.2.1) 5 u_61.2.2) 7 u_81.1) 8 u_81.2.1) 9 u_81.2.2.1) 10 u_81.2.2.2) 23 u_73.1) 48 u_73.2.1) 50 u_61.1) 51 0) gl rf)), (eA0 (rf 0) (ck 0) 900 f_tape), (eA0 (rf 3) (ck 3) 118 f_words)] H := hP
                have hD : va_D A [(eA0 (rf 45) (ck 45) 96 f_wait), (eA0 (rf 41) (ck 41) 128 u_73.2.2.1), (eA0 (rf 42) (ck 42) 128 u_73.2.2.2.1), (eA0 (rf 43) (ck 43) 128 u_73.2.2.2.2.1), (eA0 (rf 46) (ck 46) 96 u_73.2.2.2.2.2), (mq, .inr (12, mF (upd (upd (upd (upd (upd (upd (upd (upd (upd (upd g 4 u_61.2.1) 5 u_61.2.2) 7 u_81.1) 8 u_81.2.1) 9 u_81.2.2.1) 10 u_81.2.2.2) 23 u_73.1) 48 u_73.2.1) 50 u_61.1) 51 0) gl rf)), (eA0 (rf 0) (ck 0) 900 f_tape), (eA0 (rf 3) (ck 3) 118 f_words)] := hD
                refine W.widen (k := 0) (n := 0) (by omega) (by omega) ?_
                obtain ⟨hw, hp_86, hp_87, hp_88⟩ := hw
                have hq_u_81 : u_81 = (fq_token f_tape f_words (g 6) (g 7) (g 9)) := hw
                refine lv_iconst (v := 1) hx hb dX12_leafRead_173 (by decide) ?_
                refine W.widen (k := 0) (n := 0) (by omega) (by omega) ?_
                obtain ⟨hP9, hD9⟩ := zsub2 (ws' := [(mq, .inr (12, mF (upd (upd (upd (upd (upd (upd (upd (upd (upd (upd g 4 u_61.2.1) 5 u_61.2.2) 7 u_81.1) 8 u_81.2.1) 9 u_81.2.2.1) 10 u_81.2.2.2) 23 u_73.1) 48 u_73.2.1) 50 u_61.1) 51 0) gl rf)), (eA0 (rf 0) (ck 0) 900 f_tape), (eA0 (rf 3) (ck 3) 118 f_words), (eA0 (rf 41) (ck 41) 128 u_73.2.2.1), (eA0 (rf 42) (ck 42) 128 u_73.2.2.2.1), (eA0 (rf 43) (ck 43) 128 u_73.2.2.2.2.1), (eA0 (rf 45) (ck 45) 96 f_wait), (eA0 (rf 46) (ck 46) 96 u_73.2.2.2.2.2)]) hP hD [5, 6, 7, 1, 2, 3, 0, 4] (by decide +kernel) rfl
                have hK9 := hK.sub (tys' := []) [] rfl
                exact W.zret (v := 1) hx hb hr (by first | rfl | decide) (fun t ht hW => ⟨⟨1, (u_73.2.2.1, u_73.2.2.2.1, u_73.2.2.2.2.1, u_73.2.2.2.2.2, u_61.2.1, u_61.2.2, u_81.1, u_81.2.1, u_81.2.2.1, u_81.2.2.2, u_73.1, u_73.2.1, u_61.1, 0, f_wait, (g 47), (g 49), (g 52)), rfl, ⟨((fun e9 => ⟨by rw [e9], by rw [e9]⟩ : fq_leafRead f_tape f_words f_knot f_part f_other f_wait f_held (g 4) (g 5) (g 6) (g 7) (g 8) (g 9) (g 10) (g 23) (g 47) (g 48) (g 49) (g 50) (g 51) (g 52) = ((1 : Int32), u_73.2.2.1, u_73.2.2.2.1, u_73.2.2.2.2.1, u_73.2.2.2.2.2, u_61.2.1, u_61.2.2, u_81.1, u_81.2.1, u_81.2.2.1, u_81.2.2.2, u_73.1, u_73.2.1, u_61.1, (0 : Int32), f_wait, (g 47), (g 49), (g 52)) → _) ((by rw [fq_leafRead]; (try rw [← hq_r_1]); (try rw [xL_eq]); (try rw [if_pos c_2]); (try rw [← hq_r_3]); (try rw [xL_eq]); (try rw [if_pos c_4]); (try rw [← hq_r_5]); (try rw [xL_eq]); (try rw [if_neg c_8]); (try rw [if_pos c_57]); (try rw [if_pos c_59]); (try rw [← hX_68]); (try rw [xL_eq]); (try rw [← hq_r_60]); (try rw [← hq_u_61]); (try rw [if_neg c_69]); (try rw [if_pos c_70]); (try rw [← hq_u_73]); (try rw [xL_eq]); (try rw [← hq_u_81]); (try rw [xL_eq]); try rfl))), Or.inr rfl, hp_86, hp_87, (Or.inr (gq_leafRead_s24 (y0 := u_73.1) (y1 := u_61.1) (y2 := g 50) (y3 := g 49) (y4 := g 47) (y5 := g 23) (hp_65.resolve_left c_69) hwl_0.2 hw0_0 hp_67 hkr_n hk6 hwt7 hk0 hLI hct6 hbr0)), (Or.inr hwt7), hK_n, (Or.inr (gq_leafRead_s25 (y0 := u_73.1) (y1 := g 23) hkr_n hk6 hk0)), (Or.inr (gq_leafRead_s26 (y0 := u_73.1) (y1 := g 47) (y2 := g 49) (y3 := u_61.1) (y4 := g 50) (y5 := g 23) (hp_65.resolve_left c_69) hwl_0.2 hw0_0 hkr_n hk6 hwt7 hk0 hLI hct6 hbr0)), hp_66, hp_67, (Or.inr hwl_0.1), (Or.inr hbr8), (Or.inr (gq_leafRead_s27 )), (Or.inr (gq_leafRead_s28 )), (Or.inr (gq_leafRead_s29 (y0 := u_73.1) (y1 := g 23) hkr_n hk6 hk0)), (Or.inr (gq_leafRead_s30 (y0 := g 23) (y1 := u_73.1) hkr_n hk6)), (Or.inr ⟨hW_g, hH_n, hp_88, (xm_cnt (hp_65.resolve_left c_69) hct0 hct6 hbr0 hbr8 hbr0 hbr8)⟩)⟩, by rw [ht]; exact hP9, va_K.moved hW.alike hK9, hD9⟩, hS.F ht⟩) hS.2.2 dX12_leafRead_174
              · refine lv_iconst (v := 1) hx hb dX12_leafRead_143 (by decide) ?_
                refine lv_goto (tgt := 148) hx hb dX12_leafRead_144 (by decide) ?_
                refine lv_iload_n hx hb dX12_leafRead_148 rfl (lv_at hl 0 rfl) ?_
                refine lv_if_lt (tgt := 156) hx hb dX12_leafRead_149 (by decide) (fun c_89 => absurd c_89 (c_70)) (fun c_89 => ?_)
                refine lv_iload_n hx hb dX12_leafRead_152 rfl (lv_at hl 0 rfl) ?_
                refine lv_goto (tgt := 160) hx hb dX12_leafRead_153 (by decide) ?_
                refine lv_iconst (v := 0) hx hb dX12_leafRead_160 (by decide) ?_
                obtain ⟨hPc, hDc, hFc, hCc⟩ := zsub3 (ws' := [(mq, .inr (12, mF (upd (upd (upd g 4 u_61.2.1) 5 u_61.2.2) 50 u_61.1) gl rf)), (eA0 (rf 41) (ck 41) 128 f_knot), (eA0 (rf 42) (ck 42) 128 f_part), (eA0 (rf 43) (ck 43) 128 f_other), (eA0 (rf 46) (ck 46) 96 f_held)]) hP hD hS hA [7, 2, 3, 4, 6] (by decide) rfl
                have hKc := hK.sub (tys' := [((ck 41), .int), ((ck 42), .int), ((ck 43), .int), ((ck 46), .int)]) [2, 3, 4, 6] rfl
                refine va_callv (va_runV (As := [.int 1, .int r_5, .int 0]) (rest := []) ⟨hx, hb, hml, hown, htw⟩ (gq_grown l dC dI mq (upd (upd (upd g 4 u_61.2.1) 5 u_61.2.2) 50 u_61.1) gl rf ck f_knot f_part f_other f_held (1 : Int32) r_5 (0 : Int32) H.size hk0 (gq_leafRead_s31 (y0 := g 23) (y1 := u_61.1) (y2 := g 50) (y3 := g 49) (y4 := g 47) (hp_65.resolve_left c_69) hwl_0.2 hw0_0 hp_67 hk6 hwt7 hk0 hLI hct6 hbr0) hwh_0.1 (gq_leafRead_s32 (y0 := g 48) (y1 := g 47) hwh_0.2 hwt7)) (cwV 3 htw (xg_V (ck_28 _ (List.mem_of_getElem? (i := 13) rfl)) (ck_28 _ (List.mem_of_getElem? (i := 14) rfl)) (ck_28 _ (List.mem_of_getElem? (i := 15) rfl)) (ck_1 _ (List.mem_of_getElem? (i := 5) rfl)) (ck_28 _ (List.mem_of_getElem? (i := 16) rfl))) rfl rfl rfl (by exact ⟨rfl, hdc_14.1, hdc_14.2, hdd_50⟩) ⟨Nat.le_of_ble_eq_true rfl, Nat.le_of_ble_eq_true rfl⟩) ⟨fun a U g mk q => by obtain ⟨q0, q1, qP, qK, qD⟩ := q; exact ⟨q0, q1, qP, va_K.moved (u := U) (U := U.calling g mk a) (Vm.Alike.refl U.vm) qK, qD⟩, va_recv hKc hPc (ci := 12) (q0 := 0) rfl rfl, fun U hU hW => ⟨rfl, by rw [hU], by rw [hU]; exact hPc, va_K.moved hW.alike hKc, hDc.weaken (fun _ _ _ _ => trivial)⟩⟩ rfl rfl hl.1 rfl (lv_room (Nat.le_of_ble_eq_true rfl)) dX12_leafRead_161 ⟨Nat.le_of_ble_eq_true rfl, Nat.le_of_ble_eq_true rfl⟩) hS (fun q _ h => hFc q h) hFc (fun u_91 t H1 locs ht hvm hw hB hz1 hk1 hS => ?_)
                try dsimp only at hw
                obtain ⟨hP1, hK1, hD1⟩ := hB
                rw [ht] at hP1
                have hK1 := va_K.moved hvm.symm hK1
                have hK1 : va_K (dC, dI) vwCl [] s := hK1
                obtain ⟨hP, hD⟩ := va_join (wr := [(eA0 (rf 0) (ck 0) 900 f_tape), (eA0 (rf 3) (ck 3) 118 f_words), (eA0 (rf 45) (ck 45) 96 f_wait)]) (w1 := [(mq, .inr (12, mF (upd (upd (upd (upd (upd g 4 u_61.2.1) 5 u_61.2.2) 23 u_91.1) 48 u_91.2.1) 50 u_61.1) gl rf)), (eA0 (rf 41) (ck 41) 128 u_91.2.2.1), (eA0 (rf 42) (ck 42) 128 u_91.2.2.2.1), (eA0 (rf 43) (ck 43) 128 u_91.2.2.2.2.1), (eA0 (rf 46) (ck 46) 96 u_91.2.2.2.2.2)]) hP hD [7, 2, 3, 4, 6] [0, 1, 5] hCc rfl (by decide) (by decide) hk1 hFc hP1 hD1
                generalize H1 = H at hP hS ⊢
                have hP : va_P (dC, dI) vwCl [(eA0 (rf 0) (ck 0) 900 f_tape), (eA0 (rf 3) (ck 3) 118 f_words), (eA0 (rf 45) (ck 45) 96 f_wait), (mq, .inr (12, mF (upd (upd (upd (upd (upd g 4 u_61.2.1) 5 u_61.2.2) 23 u_91.1) 48 u_91.2.1) 50 u_61.1) gl rf)), (eA0 (rf 41) (ck 41) 128 u_91.2.2.1), (eA0 (rf 42) (ck 42) 128 u_91.2.2.2.1), (eA0 (rf 43) (ck 43) 128 u_91.2.2.2.2.1), (eA0 (rf 46) (ck 46) 96 u_91.2.2.2.2.2)] H := hP
                have hD : va_D A [(eA0 (rf 0) (ck 0) 900 f_tape), (eA0 (rf 3) (ck 3) 118 f_words), (eA0 (rf 45) (ck 45) 96 f_wait), (mq, .inr (12, mF (upd (upd (upd (upd (upd g 4 u_61.2.1) 5 u_61.2.2) 23 u_91.1) 48 u_91.2.1) 50 u_61.1) gl rf)), (eA0 (rf 41) (ck 41) 128 u_91.2.2.1), (eA0 (rf 42) (ck 42) 128 u_91.2.2.2.1), (eA0 (rf 43) (ck 43) 128 u_91.2.2.2.2.1), (eA0 (rf 46) (ck 46) 96 u_91.2.2.2.2.2)] := hD
                refine W.widen (k := 0) (n := 0) (by omega) (by omega) ?_
                have hq_u_91 : u_91 = (fq_grown f_knot f_part f_other f_held (1 : Int32) r_5 (0 : Int32) (g 23) (g 48)) := hw
                obtain ⟨hW_g, hH_n, hK_n, hkr_n⟩ := xgrown_leaf hW1 hH hKu (gq_leafRead_s33 (y0 := g 48) (y1 := g 23) (y2 := u_61.1) (y3 := g 50) (y4 := g 49) (y5 := g 47) (hp_65.resolve_left c_69) hwl_0.2 hw0_0 hwh_0.1 hwh_0.2 hp_67 hk6 hwt7 hk0 hLI hct6 hbr0).1 (gq_leafRead_s33 (y0 := g 48) (y1 := g 23) (y2 := u_61.1) (y3 := g 50) (y4 := g 49) (y5 := g 47) (hp_65.resolve_left c_69) hwl_0.2 hw0_0 hwh_0.1 hwh_0.2 hp_67 hk6 hwt7 hk0 hLI hct6 hbr0).2.1 (gq_leafRead_s33 (y0 := g 48) (y1 := g 23) (y2 := u_61.1) (y3 := g 50) (y4 := g 49) (y5 := g 47) (hp_65.resolve_left c_69) hwl_0.2 hw0_0 hwh_0.1 hwh_0.2 hp_67 hk6 hwt7 hk0 hLI hct6 hbr0).2.2.1 (gq_leafRead_s33 (y0 := g 48) (y1 := g 23) (y2 := u_61.1) (y3 := g 50) (y4 := g 49) (y5 := g 47) (hp_65.resolve_left c_69) hwl_0.2 hw0_0 hwh_0.1 hwh_0.2 hp_67 hk6 hwt7 hk0 hLI hct6 hbr0).2.2.2 (Or.inr ⟨rfl, xg_inr (N := 6) rfl (And.intro c_70 hp_6).1 (Int32.not_le.mpr (And.intro c_70 hp_6).2)⟩) hq_u_91
                refine lv_aload_n hx hb dX12_leafRead_164 rfl (lv_at hl 1 rfl) ?_
                refine lv_iconst (v := 0) hx hb dX12_leafRead_165 (by decide) ?_
                refine va_put (D := (dC, dI)) (ci := 12) (v := .int 0) (ty := tyX12 51) (C := RX12) (T := TX12) (N := 76) hx hb htw inlX12 tyX12 tyX12_ok nmX12 hown hK hP hD hS 3 rfl rfl 51 (by decide) (htw _ (ck_27 _ (List.mem_of_getElem? (i := 19) rfl))) (fun _ h9 => h9) rfl (tyX12_ok 51 (by decide)) rfl rfl (Nat.le_of_ble_eq_true rfl) dX12_leafRead_166 (fun H locs hP hD hS => ?_)
                have hP : va_P (dC, dI) vwCl [(eA0 (rf 0) (ck 0) 900 f_tape), (eA0 (rf 3) (ck 3) 118 f_words), (eA0 (rf 45) (ck 45) 96 f_wait), (mq, .inr (12, mF (upd (upd (upd (upd (upd (upd g 4 u_61.2.1) 5 u_61.2.2) 23 u_91.1) 48 u_91.2.1) 50 u_61.1) 51 0) gl rf)), (eA0 (rf 41) (ck 41) 128 u_91.2.2.1), (eA0 (rf 42) (ck 42) 128 u_91.2.2.2.1), (eA0 (rf 43) (ck 43) 128 u_91.2.2.2.2.1), (eA0 (rf 46) (ck 46) 96 u_91.2.2.2.2.2)] H := hP
                have hD : va_D A [(eA0 (rf 0) (ck 0) 900 f_tape), (eA0 (rf 3) (ck 3) 118 f_words), (eA0 (rf 45) (ck 45) 96 f_wait), (mq, .inr (12, mF (upd (upd (upd (upd (upd (upd g 4 u_61.2.1) 5 u_61.2.2) 23 u_91.1) 48 u_91.2.1) 50 u_61.1) 51 0) gl rf)), (eA0 (rf 41) (ck 41) 128 u_91.2.2.1), (eA0 (rf 42) (ck 42) 128 u_91.2.2.2.1), (eA0 (rf 43) (ck 43) 128 u_91.2.2.2.2.1), (eA0 (rf 46) (ck 46) 96 u_91.2.2.2.2.2)] := hD
                refine lv_aload_n hx hb dX12_leafRead_169 rfl (lv_at hl 1 rfl) ?_
                obtain ⟨hPc, hDc, hFc, hCc⟩ := zsub3 (ws' := [(mq, .inr (12, mF (upd (upd (upd (upd (upd (upd g 4 u_61.2.1) 5 u_61.2.2) 23 u_91.1) 48 u_91.2.1) 50 u_61.1) 51 0) gl rf)), (eA0 (rf 0) (ck 0) 900 f_tape), (eA0 (rf 3) (ck 3) 118 f_words)]) hP hD hS hA [3, 0, 1] (by decide) rfl
                have hKc := hK.sub (tys' := [((ck 0), .int), ((ck 3), .int)]) [0, 1] rfl
                refine va_callv (va_runV (As := []) (rest := []) ⟨hx, hb, hml, hown, htw⟩ (gy_token l dC dI mq (upd (upd (upd (upd (upd (upd g 4 u_61.2.1) 5 u_61.2.2) 23 u_91.1) 48 u_91.2.1) 50 u_61.1) 51 0) gl rf ck f_tape f_words H.size h0n hns hs9 hw7) (cwV 0 htw (xg_V (ck_24 _ (List.mem_of_getElem? (i := 14) rfl)) (ck_24 _ (List.mem_of_getElem? (i := 15) rfl)) (ck_24 _ (List.mem_of_getElem? (i := 16) rfl)) (ck_1 _ (List.mem_of_getElem? (i := 5) rfl)) (ck_24 _ (List.mem_of_getElem? (i := 17) rfl))) rfl rfl rfl (by exact ⟨rfl, hdc_14.1, hdc_14.2, hdd_13⟩) ⟨Nat.le_of_ble_eq_true rfl, Nat.le_of_ble_eq_true rfl⟩) ⟨fun a U g mk q => by obtain ⟨q0, q1, qP, qK, qD⟩ := q; exact ⟨q0, q1, qP, va_K.moved (u := U) (U := U.calling g mk a) (Vm.Alike.refl U.vm) qK, qD⟩, va_recv hKc hPc (ci := 12) (q0 := 0) rfl rfl, fun U hU hW => ⟨rfl, by rw [hU], by rw [hU]; exact hPc, va_K.moved hW.alike hKc, hDc.weaken (fun _ _ _ _ => trivial)⟩⟩ rfl rfl hl.1 rfl (lv_room (Nat.le_of_ble_eq_true rfl)) dX12_leafRead_170 ⟨Nat.le_of_ble_eq_true rfl, Nat.le_of_ble_eq_true rfl⟩) hS (fun q _ h => hFc q h) hFc (fun u_99 t H1 locs ht hvm hw hB hz1 hk1 hS => ?_)
                try dsimp only at hw
                obtain ⟨hP1, hK1, hD1⟩ := hB
                rw [ht] at hP1
                have hK1 := va_K.moved hvm.symm hK1
                have hK1 : va_K (dC, dI) vwCl [] s := hK1
                obtain ⟨hP, hD⟩ := va_join (wr := [(eA0 (rf 45) (ck 45) 96 f_wait), (eA0 (rf 41) (ck 41) 128 u_91.2.2.1), (eA0 (rf 42) (ck 42) 128 u_91.2.2.2.1), (eA0 (rf 43) (ck 43) 128 u_91.2.2.2.2.1), (eA0 (rf 46) (ck 46) 96 u_91.2.2.2.2.2)]) (w1 := [(mq, .inr (12, mF (upd (upd (upd (upd (upd (upd (upd (upd (upd (upd g 4 u_61.2.1) 5 u_61.2.2) 7 u_99.1) 8 u_99.2.1) 9 u_99.2.2.1) 10 u_99.2.2.2) 23 u_91.1) 48 u_91.2.1) 50 u_61.1) 51 0) gl rf)), (eA0 (rf 0) (ck 0) 900 f_tape), (eA0 (rf 3) (ck 3) 118 f_words)]) hP hD [3, 0, 1] [2, 4, 5, 6, 7] hCc rfl (by decide) (by decide) hk1 hFc hP1 hD1
                generalize H1 = H at hP hS ⊢
                have hP : va_P (dC, dI) vwCl [(eA0 (rf 45) (ck 45) 96 f_wait), (eA0 (rf 41) (ck 41) 128 u_91.2.2.1), (eA0 (rf 42) (ck 42) 128 u_91.2.2.2.1), (eA0 (rf 43) (ck 43) 128 u_91.2.2.2.2.1), (eA0 (rf 46) (ck 46) 96 u_91.2.2.2.2.2), (mq, .inr (12, mF (upd (upd (upd (upd (upd (upd (upd (upd (upd (upd g 4 u_61.2.1) 5 u_61.2.2) 7 u_99.1) 8 u_99.2.1) 9 u_99.2.2.1) 10 u_99.2.2.2) 23 u_91.1) 48 u_91.2.1) 50 u_61.1) 51 0) gl rf)), (eA0 (rf 0) (ck 0) 900 f_tape), (eA0 (rf 3) (ck 3) 118 f_words)] H := hP
                have hD : va_D A [(eA0 (rf 45) (ck 45) 96 f_wait), (eA0 (rf 41) (ck 41) 128 u_91.2.2.1), (eA0 (rf 42) (ck 42) 128 u_91.2.2.2.1), (eA0 (rf 43) (ck 43) 128 u_91.2.2.2.2.1), (eA0 (rf 46) (ck 46) 96 u_91.2.2.2.2.2), (mq, .inr (12, mF (upd (upd (upd (upd (upd (upd (upd (upd (upd (upd g 4 u_61.2.1) 5 u_61.2.2) 7 u_99.1) 8 u_99.2.1) 9 u_99.2.2.1) 10 u_99.2.2.2) 23 u_91.1) 48 u_91.2.1) 50 u_61.1) 51 0) gl rf)), (eA0 (rf 0) (ck 0) 900 f_tape), (eA0 (rf 3) (ck 3) 118 f_words)] := hD
                refine W.widen (k := 0) (n := 0) (by omega) (by omega) ?_
                obtain ⟨hw, hp_104, hp_105, hp_106⟩ := hw
                have hq_u_99 : u_99 = (fq_token f_tape f_words (g 6) (g 7) (g 9)) := hw
                refine lv_iconst (v := 1) hx hb dX12_leafRead_173 (by decide) ?_
                refine W.widen (k := 0) (n := 0) (by omega) (by omega) ?_
                obtain ⟨hP9, hD9⟩ := zsub2 (ws' := [(mq, .inr (12, mF (upd (upd (upd (upd (upd (upd (upd (upd (upd (upd g 4 u_61.2.1) 5 u_61.2.2) 7 u_99.1) 8 u_99.2.1) 9 u_99.2.2.1) 10 u_99.2.2.2) 23 u_91.1) 48 u_91.2.1) 50 u_61.1) 51 0) gl rf)), (eA0 (rf 0) (ck 0) 900 f_tape), (eA0 (rf 3) (ck 3) 118 f_words), (eA0 (rf 41) (ck 41) 128 u_91.2.2.1), (eA0 (rf 42) (ck 42) 128 u_91.2.2.2.1), (eA0 (rf 43) (ck 43) 128 u_91.2.2.2.2.1), (eA0 (rf 45) (ck 45) 96 f_wait), (eA0 (rf 46) (ck 46) 96 u_91.2.2.2.2.2)]) hP hD [5, 6, 7, 1, 2, 3, 0, 4] (by decide +kernel) rfl
                have hK9 := hK.sub (tys' := []) [] rfl
                exact W.zret (v := 1) hx hb hr (by first | rfl | decide) (fun t ht hW => ⟨⟨1, (u_91.2.2.1, u_91.2.2.2.1, u_91.2.2.2.2.1, u_91.2.2.2.2.2, u_61.2.1, u_61.2.2, u_99.1, u_99.2.1, u_99.2.2.1, u_99.2.2.2, u_91.1, u_91.2.1, u_61.1, 0, f_wait, (g 47), (g 49), (g 52)), rfl, ⟨((fun e9 => ⟨by rw [e9], by rw [e9]⟩ : fq_leafRead f_tape f_words f_knot f_part f_other f_wait f_held (g 4) (g 5) (g 6) (g 7) (g 8) (g 9) (g 10) (g 23) (g 47) (g 48) (g 49) (g 50) (g 51) (g 52) = ((1 : Int32), u_91.2.2.1, u_91.2.2.2.1, u_91.2.2.2.2.1, u_91.2.2.2.2.2, u_61.2.1, u_61.2.2, u_99.1, u_99.2.1, u_99.2.2.1, u_99.2.2.2, u_91.1, u_91.2.1, u_61.1, (0 : Int32), f_wait, (g 47), (g 49), (g 52)) → _) ((by rw [fq_leafRead]; (try rw [← hq_r_1]); (try rw [xL_eq]); (try rw [if_pos c_2]); (try rw [← hq_r_3]); (try rw [xL_eq]); (try rw [if_pos c_4]); (try rw [← hq_r_5]); (try rw [xL_eq]); (try rw [if_neg c_8]); (try rw [if_pos c_57]); (try rw [if_pos c_59]); (try rw [← hX_68]); (try rw [xL_eq]); (try rw [← hq_r_60]); (try rw [← hq_u_61]); (try rw [if_neg c_69]); (try rw [if_neg c_70]); (try rw [← hq_u_91]); (try rw [xL_eq]); (try rw [← hq_u_99]); (try rw [xL_eq]); try rfl))), Or.inr rfl, hp_104, hp_105, (Or.inr (gq_leafRead_s34 (y0 := u_91.1) (y1 := u_61.1) (y2 := g 50) (y3 := g 49) (y4 := g 47) (y5 := g 23) (hp_65.resolve_left c_69) hwl_0.2 hw0_0 hp_67 hkr_n hk6 hwt7 hk0 hLI hct6 hbr0)), (Or.inr hwt7), hK_n, (Or.inr (gq_leafRead_s35 (y0 := u_91.1) (y1 := g 23) hkr_n hk6 hk0)), (Or.inr (gq_leafRead_s36 (y0 := u_91.1) (y1 := g 47) (y2 := g 49) (y3 := u_61.1) (y4 := g 50) (y5 := g 23) (hp_65.resolve_left c_69) hwl_0.2 hw0_0 hkr_n hk6 hwt7 hk0 hLI hct6 hbr0)), hp_66, hp_67, (Or.inr hwl_0.1), (Or.inr hbr8), (Or.inr (gq_leafRead_s37 )), (Or.inr (gq_leafRead_s38 )), (Or.inr (gq_leafRead_s39 (y0 := u_91.1) (y1 := g 23) hkr_n hk6 hk0)), (Or.inr (gq_leafRead_s40 (y0 := g 23) (y1 := u_91.1) hkr_n hk6)), (Or.inr ⟨hW_g, hH_n, hp_106, (xm_cnt (hp_65.resolve_left c_69) hct0 hct6 hbr0 hbr8 hbr0 hbr8)⟩)⟩, by rw [ht]; exact hP9, va_K.moved hW.alike hK9, hD9⟩, hS.F ht⟩) hS.2.2 dX12_leafRead_174
            · refine lv_iconst (v := 0) hx hb dX12_leafRead_136 (by decide) ?_
              refine W.widen (k := 0) (n := 0) (by omega) (by omega) ?_
              obtain ⟨hP9, hD9⟩ := zsub2 (ws' := [(mq, .inr (12, mF (upd (upd (upd g 4 u_61.2.1) 5 u_61.2.2) 50 u_61.1) gl rf)), (eA0 (rf 0) (ck 0) 900 f_tape), (eA0 (rf 3) (ck 3) 118 f_words), (eA0 (rf 41) (ck 41) 128 f_knot), (eA0 (rf 42) (ck 42) 128 f_part), (eA0 (rf 43) (ck 43) 128 f_other), (eA0 (rf 45) (ck 45) 96 f_wait), (eA0 (rf 46) (ck 46) 96 f_held)]) hP hD [7, 0, 1, 2, 3, 4, 5, 6] (by decide +kernel) rfl
              have hK9 := hK.sub (tys' := []) [] rfl
              exact W.zret (v := 0) hx hb hr (by first | rfl | decide) (fun t ht hW => ⟨⟨0, (f_knot, f_part, f_other, f_held, u_61.2.1, u_61.2.2, (g 7), (g 8), (g 9), (g 10), (g 23), (g 48), u_61.1, (g 51), f_wait, (g 47), (g 49), (g 52)), rfl, ⟨((fun e9 => ⟨by rw [e9], by rw [e9]⟩ : fq_leafRead f_tape f_words f_knot f_part f_other f_wait f_held (g 4) (g 5) (g 6) (g 7) (g 8) (g 9) (g 10) (g 23) (g 47) (g 48) (g 49) (g 50) (g 51) (g 52) = ((0 : Int32), f_knot, f_part, f_other, f_held, u_61.2.1, u_61.2.2, (g 7), (g 8), (g 9), (g 10), (g 23), (g 48), u_61.1, (g 51), f_wait, (g 47), (g 49), (g 52)) → _) ((by rw [fq_leafRead]; (try rw [← hq_r_1]); (try rw [xL_eq]); (try rw [if_pos c_2]); (try rw [← hq_r_3]); (try rw [xL_eq]); (try rw [if_pos c_4]); (try rw [← hq_r_5]); (try rw [xL_eq]); (try rw [if_neg c_8]); (try rw [if_pos c_57]); (try rw [if_pos c_59]); (try rw [← hX_68]); (try rw [xL_eq]); (try rw [← hq_r_60]); (try rw [← hq_u_61]); (try rw [if_pos c_69]); try rfl))), Or.inl rfl, h0n, hns, Or.inl rfl, Or.inl rfl, hKu, Or.inl rfl, Or.inl rfl, hp_66, hp_67, Or.inl rfl, Or.inl rfl, Or.inl rfl, Or.inl rfl, Or.inl rfl, Or.inl rfl, (Or.inl rfl)⟩, by rw [ht]; exact hP9, va_K.moved hW.alike hK9, hD9⟩, hS.F ht⟩) hS.2.2 dX12_leafRead_137
          · refine lv_aload_n hx hb dX12_leafRead_123 rfl (lv_at hl 1 rfl) ?_
            refine lv_iconst (v := 2) hx hb dX12_leafRead_124 (by decide) ?_
            obtain ⟨hPc, hDc, hFc, hCc⟩ := zsub3 (ws' := [(mq, .inr (12, mF g gl rf))]) hP hD hS hA [0] (by decide) rfl
            have hKc := hK.sub (tys' := []) [] rfl
            refine va_calli (va_runV (As := [.int 2]) (rest := []) ⟨hx, hb, hml, hown, htw⟩ (gq_wrong l dC dI mq g gl rf (2 : Int32) H.size) (cwV 1 htw (xg_V (ck_25 _ (List.mem_of_getElem? (i := 21) rfl)) (ck_25 _ (List.mem_of_getElem? (i := 22) rfl)) (ck_25 _ (List.mem_of_getElem? (i := 23) rfl)) (ck_1 _ (List.mem_of_getElem? (i := 5) rfl)) (ck_26 _ (List.mem_of_getElem? (i := 0) rfl))) rfl rfl rfl (by exact ⟨rfl, hdc_14.1, hdc_14.2, hdd_26⟩) ⟨Nat.le_of_ble_eq_true rfl, Nat.le_of_ble_eq_true rfl⟩) ⟨fun a U g mk q => by obtain ⟨q0, q1, qP, qK, qD⟩ := q; exact ⟨q0, q1, qP, va_K.moved (u := U) (U := U.calling g mk a) (Vm.Alike.refl U.vm) qK, qD⟩, va_recv hKc hPc (ci := 12) (q0 := 0) rfl rfl, fun U hU hW => ⟨rfl, by rw [hU], by rw [hU]; exact hPc, va_K.moved hW.alike hKc, hDc.weaken (fun _ _ _ _ => trivial)⟩⟩ rfl rfl hl.1 rfl (lv_room (Nat.le_of_ble_eq_true rfl)) dX12_leafRead_125 ⟨Nat.le_of_ble_eq_true rfl, Nat.le_of_ble_eq_true rfl⟩) hS (fun q _ h => hFc q h) hFc (fun r_107 u_108 t H1 locs ht hvm hw hB hz1 hk1 hS => ?_)
            try dsimp only at hw
            obtain ⟨hP1, hK1, hD1⟩ := hB
            rw [ht] at hP1
            have hK1 := va_K.moved hvm.symm hK1
            have hK1 : va_K (dC, dI) vwCl [] s := hK1
            obtain ⟨hP, hD⟩ := va_join (wr := [(eA0 (rf 0) (ck 0) 900 f_tape), (eA0 (rf 3) (ck 3) 118 f_words), (eA0 (rf 41) (ck 41) 128 f_knot), (eA0 (rf 42) (ck 42) 128 f_part), (eA0 (rf 43) (ck 43) 128 f_other), (eA0 (rf 45) (ck 45) 96 f_wait), (eA0 (rf 46) (ck 46) 96 f_held)]) (w1 := [(mq, .inr (12, mF (upd (upd g 4 u_108.1) 5 u_108.2) gl rf))]) hP hD [0] [1, 2, 3, 4, 5, 6, 7] hCc rfl (by decide) (by decide) hk1 hFc hP1 hD1
            generalize H1 = H at hP hS ⊢
            have hP : va_P (dC, dI) vwCl [(eA0 (rf 0) (ck 0) 900 f_tape), (eA0 (rf 3) (ck 3) 118 f_words), (eA0 (rf 41) (ck 41) 128 f_knot), (eA0 (rf 42) (ck 42) 128 f_part), (eA0 (rf 43) (ck 43) 128 f_other), (eA0 (rf 45) (ck 45) 96 f_wait), (eA0 (rf 46) (ck 46) 96 f_held), (mq, .inr (12, mF (upd (upd g 4 u_108.1) 5 u_108.2) gl rf))] H := hP
            have hD : va_D A [(eA0 (rf 0) (ck 0) 900 f_tape), (eA0 (rf 3) (ck 3) 118 f_words), (eA0 (rf 41) (ck 41) 128 f_knot), (eA0 (rf 42) (ck 42) 128 f_part), (eA0 (rf 43) (ck 43) 128 f_other), (eA0 (rf 45) (ck 45) 96 f_wait), (eA0 (rf 46) (ck 46) 96 f_held), (mq, .inr (12, mF (upd (upd g 4 u_108.1) 5 u_108.2) gl rf))] := hD
            refine W.widen (k := 0) (n := 0) (by omega) (by omega) ?_
            obtain ⟨hw, hb_r_107, hp_111⟩ := hw
            obtain ⟨X_112, hX_112⟩ : ∃ X9 : Int32 × (Int32) × (Int32), X9 = (fq_wrong (2 : Int32) (g 10)) := ⟨_, rfl⟩
            have hq_r_107 : r_107 = X_112.1 := by rw [hX_112]; exact hw.1
            have hq_u_108 : u_108 = X_112.2 := by rw [hX_112]; exact hw.2
            refine W.widen (k := 0) (n := 0) (by omega) (by omega) ?_
            obtain ⟨hP9, hD9⟩ := zsub2 (ws' := [(mq, .inr (12, mF (upd (upd g 4 u_108.1) 5 u_108.2) gl rf)), (eA0 (rf 0) (ck 0) 900 f_tape), (eA0 (rf 3) (ck 3) 118 f_words), (eA0 (rf 41) (ck 41) 128 f_knot), (eA0 (rf 42) (ck 42) 128 f_part), (eA0 (rf 43) (ck 43) 128 f_other), (eA0 (rf 45) (ck 45) 96 f_wait), (eA0 (rf 46) (ck 46) 96 f_held)]) hP hD [7, 0, 1, 2, 3, 4, 5, 6] (by decide +kernel) rfl
            have hK9 := hK.sub (tys' := []) [] rfl
            exact W.zret (v := r_107) hx hb hr (xz_nar hb_r_107) (fun t ht hW => ⟨⟨r_107, (f_knot, f_part, f_other, f_held, u_108.1, u_108.2, (g 7), (g 8), (g 9), (g 10), (g 23), (g 48), (g 50), (g 51), f_wait, (g 47), (g 49), (g 52)), rfl, ⟨((fun e9 => ⟨by rw [e9], by rw [e9]⟩ : fq_leafRead f_tape f_words f_knot f_part f_other f_wait f_held (g 4) (g 5) (g 6) (g 7) (g 8) (g 9) (g 10) (g 23) (g 47) (g 48) (g 49) (g 50) (g 51) (g 52) = (r_107, f_knot, f_part, f_other, f_held, u_108.1, u_108.2, (g 7), (g 8), (g 9), (g 10), (g 23), (g 48), (g 50), (g 51), f_wait, (g 47), (g 49), (g 52)) → _) ((by rw [fq_leafRead]; (try rw [← hq_r_1]); (try rw [xL_eq]); (try rw [if_pos c_2]); (try rw [← hq_r_3]); (try rw [xL_eq]); (try rw [if_pos c_4]); (try rw [← hq_r_5]); (try rw [xL_eq]); (try rw [if_neg c_8]); (try rw [if_pos c_57]); (try rw [if_neg c_59]); (try rw [← hX_112]); (try rw [xL_eq]); (try rw [← hq_r_107]); (try rw [← hq_u_108]); try rfl))), hb_r_107, h0n, hns, (Or.inl hp_111), (Or.inl hp_111), hKu, (Or.inl hp_111), (Or.inl hp_111), hct0, hct6, (Or.inl hp_111), (Or.inl hp_111), (Or.inl hp_111), (Or.inl hp_111), (Or.inl hp_111), (Or.inl hp_111), (Or.inl hp_111)⟩, by rw [ht]; exact hP9, va_K.moved hW.alike hK9, hD9⟩, hS.F ht⟩) hS.2.2 dX12_leafRead_128
        · refine lv_aload_n hx hb dX12_leafRead_103 rfl (lv_at hl 1 rfl) ?_
          refine lv_iconst (v := 1) hx hb dX12_leafRead_104 (by decide) ?_
          obtain ⟨hPc, hDc, hFc, hCc⟩ := zsub3 (ws' := [(mq, .inr (12, mF g gl rf))]) hP hD hS hA [0] (by decide) rfl
          have hKc := hK.sub (tys' := []) [] rfl
          refine va_calli (va_runV (As := [.int 1]) (rest := []) ⟨hx, hb, hml, hown, htw⟩ (gq_wrong l dC dI mq g gl rf (1 : Int32) H.size) (cwV 1 htw (xg_V (ck_25 _ (List.mem_of_getElem? (i := 21) rfl)) (ck_25 _ (List.mem_of_getElem? (i := 22) rfl)) (ck_25 _ (List.mem_of_getElem? (i := 23) rfl)) (ck_1 _ (List.mem_of_getElem? (i := 5) rfl)) (ck_26 _ (List.mem_of_getElem? (i := 0) rfl))) rfl rfl rfl (by exact ⟨rfl, hdc_14.1, hdc_14.2, hdd_26⟩) ⟨Nat.le_of_ble_eq_true rfl, Nat.le_of_ble_eq_true rfl⟩) ⟨fun a U g mk q => by obtain ⟨q0, q1, qP, qK, qD⟩ := q; exact ⟨q0, q1, qP, va_K.moved (u := U) (U := U.calling g mk a) (Vm.Alike.refl U.vm) qK, qD⟩, va_recv hKc hPc (ci := 12) (q0 := 0) rfl rfl, fun U hU hW => ⟨rfl, by rw [hU], by rw [hU]; exact hPc, va_K.moved hW.alike hKc, hDc.weaken (fun _ _ _ _ => trivial)⟩⟩ rfl rfl hl.1 rfl (lv_room (Nat.le_of_ble_eq_true rfl)) dX12_leafRead_105 ⟨Nat.le_of_ble_eq_true rfl, Nat.le_of_ble_eq_true rfl⟩) hS (fun q _ h => hFc q h) hFc (fun r_113 u_114 t H1 locs ht hvm hw hB hz1 hk1 hS => ?_)
          try dsimp only at hw
          obtain ⟨hP1, hK1, hD1⟩ := hB
          rw [ht] at hP1
          have hK1 := va_K.moved hvm.symm hK1
          have hK1 : va_K (dC, dI) vwCl [] s := hK1
          obtain ⟨hP, hD⟩ := va_join (wr := [(eA0 (rf 0) (ck 0) 900 f_tape), (eA0 (rf 3) (ck 3) 118 f_words), (eA0 (rf 41) (ck 41) 128 f_knot), (eA0 (rf 42) (ck 42) 128 f_part), (eA0 (rf 43) (ck 43) 128 f_other), (eA0 (rf 45) (ck 45) 96 f_wait), (eA0 (rf 46) (ck 46) 96 f_held)]) (w1 := [(mq, .inr (12, mF (upd (upd g 4 u_114.1) 5 u_114.2) gl rf))]) hP hD [0] [1, 2, 3, 4, 5, 6, 7] hCc rfl (by decide) (by decide) hk1 hFc hP1 hD1
          generalize H1 = H at hP hS ⊢
          have hP : va_P (dC, dI) vwCl [(eA0 (rf 0) (ck 0) 900 f_tape), (eA0 (rf 3) (ck 3) 118 f_words), (eA0 (rf 41) (ck 41) 128 f_knot), (eA0 (rf 42) (ck 42) 128 f_part), (eA0 (rf 43) (ck 43) 128 f_other), (eA0 (rf 45) (ck 45) 96 f_wait), (eA0 (rf 46) (ck 46) 96 f_held), (mq, .inr (12, mF (upd (upd g 4 u_114.1) 5 u_114.2) gl rf))] H := hP
          have hD : va_D A [(eA0 (rf 0) (ck 0) 900 f_tape), (eA0 (rf 3) (ck 3) 118 f_words), (eA0 (rf 41) (ck 41) 128 f_knot), (eA0 (rf 42) (ck 42) 128 f_part), (eA0 (rf 43) (ck 43) 128 f_other), (eA0 (rf 45) (ck 45) 96 f_wait), (eA0 (rf 46) (ck 46) 96 f_held), (mq, .inr (12, mF (upd (upd g 4 u_114.1) 5 u_114.2) gl rf))] := hD
          refine W.widen (k := 0) (n := 0) (by omega) (by omega) ?_
          obtain ⟨hw, hb_r_113, hp_117⟩ := hw
          obtain ⟨X_118, hX_118⟩ : ∃ X9 : Int32 × (Int32) × (Int32), X9 = (fq_wrong (1 : Int32) (g 10)) := ⟨_, rfl⟩
          have hq_r_113 : r_113 = X_118.1 := by rw [hX_118]; exact hw.1
          have hq_u_114 : u_114 = X_118.2 := by rw [hX_118]; exact hw.2
          refine W.widen (k := 0) (n := 0) (by omega) (by omega) ?_
          obtain ⟨hP9, hD9⟩ := zsub2 (ws' := [(mq, .inr (12, mF (upd (upd g 4 u_114.1) 5 u_114.2) gl rf)), (eA0 (rf 0) (ck 0) 900 f_tape), (eA0 (rf 3) (ck 3) 118 f_words), (eA0 (rf 41) (ck 41) 128 f_knot), (eA0 (rf 42) (ck 42) 128 f_part), (eA0 (rf 43) (ck 43) 128 f_other), (eA0 (rf 45) (ck 45) 96 f_wait), (eA0 (rf 46) (ck 46) 96 f_held)]) hP hD [7, 0, 1, 2, 3, 4, 5, 6] (by decide +kernel) rfl
          have hK9 := hK.sub (tys' := []) [] rfl
          exact W.zret (v := r_113) hx hb hr (xz_nar hb_r_113) (fun t ht hW => ⟨⟨r_113, (f_knot, f_part, f_other, f_held, u_114.1, u_114.2, (g 7), (g 8), (g 9), (g 10), (g 23), (g 48), (g 50), (g 51), f_wait, (g 47), (g 49), (g 52)), rfl, ⟨((fun e9 => ⟨by rw [e9], by rw [e9]⟩ : fq_leafRead f_tape f_words f_knot f_part f_other f_wait f_held (g 4) (g 5) (g 6) (g 7) (g 8) (g 9) (g 10) (g 23) (g 47) (g 48) (g 49) (g 50) (g 51) (g 52) = (r_113, f_knot, f_part, f_other, f_held, u_114.1, u_114.2, (g 7), (g 8), (g 9), (g 10), (g 23), (g 48), (g 50), (g 51), f_wait, (g 47), (g 49), (g 52)) → _) ((by rw [fq_leafRead]; (try rw [← hq_r_1]); (try rw [xL_eq]); (try rw [if_pos c_2]); (try rw [← hq_r_3]); (try rw [xL_eq]); (try rw [if_pos c_4]); (try rw [← hq_r_5]); (try rw [xL_eq]); (try rw [if_neg c_8]); (try rw [if_neg c_57]); (try rw [← hX_118]); (try rw [xL_eq]); (try rw [← hq_r_113]); (try rw [← hq_u_114]); try rfl))), hb_r_113, h0n, hns, (Or.inl hp_117), (Or.inl hp_117), hKu, (Or.inl hp_117), (Or.inl hp_117), hct0, hct6, (Or.inl hp_117), (Or.inl hp_117), (Or.inl hp_117), (Or.inl hp_117), (Or.inl hp_117), (Or.inl hp_117), (Or.inl hp_117)⟩, by rw [ht]; exact hP9, va_K.moved hW.alike hK9, hD9⟩, hS.F ht⟩) hS.2.2 dX12_leafRead_108
    · refine lv_aload_n hx hb dX12_leafRead_59 rfl (lv_at hl 0 rfl) ?_
      refine va_get (D := (dC, dI)) (ci := 12) (v := .int (g 52)) (C := RX12) (T := TX12) (N := 76) hx hb htw inlX12 hown hK hP 0 rfl rfl 52 (by decide) (htw _ (ck_27 _ (List.mem_of_getElem? (i := 20) rfl))) (fun _ h9 => h9) rfl dX12_leafRead_60 ?_
      refine lv_if_eq (tgt := 86) hx hb dX12_leafRead_63 (by decide) (fun c_119 => ?_) (fun c_119 => ?_)
      · refine lv_aload_n hx hb dX12_leafRead_86 rfl (lv_at hl 0 rfl) ?_
        have hPc := hP.sub (ws' := [(mq, .inr (12, mF g gl rf))]) [0] rfl
        have hKc := hK.sub (tys' := []) [] rfl
        refine vp_callSi (W.runV (As := []) (rest := []) ⟨hx, hb, hml, hown, htw⟩ (gq_nameMet l dC dI mq g gl rf) (cwV 0 htw (xg_V (ck_28 _ (List.mem_of_getElem? (i := 9) rfl)) (ck_28 _ (List.mem_of_getElem? (i := 10) rfl)) (ck_28 _ (List.mem_of_getElem? (i := 11) rfl)) (ck_1 _ (List.mem_of_getElem? (i := 5) rfl)) (ck_28 _ (List.mem_of_getElem? (i := 12) rfl))) rfl rfl rfl (by exact ⟨rfl, hdc_14.1, hdc_14.2, hdd_45⟩) ⟨Nat.le_of_ble_eq_true rfl, Nat.le_of_ble_eq_true rfl⟩) ⟨fun a U g mk q => by obtain ⟨q0, qP, qK⟩ := q; exact ⟨q0, qP, va_K.moved (u := U) (U := U.calling g mk a) (Vm.Alike.refl U.vm) qK⟩, va_recv hKc hPc (ci := 12) (q0 := 0) rfl rfl, fun U hU hW => ⟨rfl, by rw [hU]; exact hPc, va_K.moved hW.alike hKc⟩⟩ rfl rfl hl.1 rfl (lv_room (Nat.le_of_ble_eq_true rfl)) dX12_leafRead_87 ⟨Nat.le_of_ble_eq_true rfl, Nat.le_of_ble_eq_true rfl⟩) (fun r_120 hw => ?_)
        try dsimp only at hw
        obtain ⟨hw, hp_121, hp_122⟩ := hw
        have hq_r_120 : r_120 = (fq_nameMet (g 8) (g 9)) := hw
        refine lv_istore_n (lv' := [(1, .int r_120), (0, .ref mq)]) hx hb dX12_leafRead_90 rfl hl (by decide) rfl (fun ls hl => ?_)
        refine lv_iload_n hx hb dX12_leafRead_91 rfl (lv_at hl 0 rfl) ?_
        refine lv_if_ge (tgt := 109) hx hb dX12_leafRead_92 (by decide) (fun c_123 => ?_) (fun c_123 => ?_)
        · refine lv_iload_n hx hb dX12_leafRead_109 rfl (lv_at hl 0 rfl) ?_
          refine lv_if_ge (tgt := 129) hx hb dX12_leafRead_110 (by decide) (fun c_124 => ?_) (fun c_124 => absurd c_124 (fun h9 => h9 c_123))
          refine lv_aload_n hx hb dX12_leafRead_129 rfl (lv_at hl 1 rfl) ?_
          obtain ⟨hPc, hDc, hFc, hCc⟩ := zsub3 (ws' := [(mq, .inr (12, mF g gl rf))]) hP hD hS hA [0] (by decide) rfl
          have hKc := hK.sub (tys' := []) [] rfl
          refine va_calli (va_runV (As := []) (rest := []) ⟨hx, hb, hml, hown, htw⟩ (gy_isCounted l dC dI mq g gl rf H.size hct0 hct6) (cwV 0 htw (xg_V (ck_28 _ (List.mem_of_getElem? (i := 5) rfl)) (ck_28 _ (List.mem_of_getElem? (i := 6) rfl)) (ck_28 _ (List.mem_of_getElem? (i := 7) rfl)) (ck_1 _ (List.mem_of_getElem? (i := 5) rfl)) (ck_28 _ (List.mem_of_getElem? (i := 8) rfl))) rfl rfl rfl (by exact ⟨rfl, hdc_14.1, hdc_14.2, hdd_32⟩) ⟨Nat.le_of_ble_eq_true rfl, Nat.le_of_ble_eq_true rfl⟩) ⟨fun a U g mk q => by obtain ⟨q0, q1, qP, qK, qD⟩ := q; exact ⟨q0, q1, qP, va_K.moved (u := U) (U := U.calling g mk a) (Vm.Alike.refl U.vm) qK, qD⟩, va_recv hKc hPc (ci := 12) (q0 := 0) rfl rfl, fun U hU hW => ⟨rfl, by rw [hU], by rw [hU]; exact hPc, va_K.moved hW.alike hKc, hDc.weaken (fun _ _ _ _ => trivial)⟩⟩ rfl rfl hl.1 rfl (lv_room (Nat.le_of_ble_eq_true rfl)) dX12_leafRead_130 ⟨Nat.le_of_ble_eq_true rfl, Nat.le_of_ble_eq_true rfl⟩) hS (fun q _ h => hFc q h) hFc (fun r_125 u_126 t H1 locs ht hvm hw hB hz1 hk1 hS => ?_)
          try dsimp only at hw
          obtain ⟨hP1, hK1, hD1⟩ := hB
          rw [ht] at hP1
          have hK1 := va_K.moved hvm.symm hK1
          have hK1 : va_K (dC, dI) vwCl [] s := hK1
          obtain ⟨hP, hD⟩ := va_join (wr := [(eA0 (rf 0) (ck 0) 900 f_tape), (eA0 (rf 3) (ck 3) 118 f_words), (eA0 (rf 41) (ck 41) 128 f_knot), (eA0 (rf 42) (ck 42) 128 f_part), (eA0 (rf 43) (ck 43) 128 f_other), (eA0 (rf 45) (ck 45) 96 f_wait), (eA0 (rf 46) (ck 46) 96 f_held)]) (w1 := [(mq, .inr (12, mF (upd (upd (upd g 4 u_126.2.1) 5 u_126.2.2) 50 u_126.1) gl rf))]) hP hD [0] [1, 2, 3, 4, 5, 6, 7] hCc rfl (by decide) (by decide) hk1 hFc hP1 hD1
          generalize H1 = H at hP hS ⊢
          have hP : va_P (dC, dI) vwCl [(eA0 (rf 0) (ck 0) 900 f_tape), (eA0 (rf 3) (ck 3) 118 f_words), (eA0 (rf 41) (ck 41) 128 f_knot), (eA0 (rf 42) (ck 42) 128 f_part), (eA0 (rf 43) (ck 43) 128 f_other), (eA0 (rf 45) (ck 45) 96 f_wait), (eA0 (rf 46) (ck 46) 96 f_held), (mq, .inr (12, mF (upd (upd (upd g 4 u_126.2.1) 5 u_126.2.2) 50 u_126.1) gl rf))] H := hP
          have hD : va_D A [(eA0 (rf 0) (ck 0) 900 f_tape), (eA0 (rf 3) (ck 3) 118 f_words), (eA0 (rf 41) (ck 41) 128 f_knot), (eA0 (rf 42) (ck 42) 128 f_part), (eA0 (rf 43) (ck 43) 128 f_other), (eA0 (rf 45) (ck 45) 96 f_wait), (eA0 (rf 46) (ck 46) 96 f_held), (mq, .inr (12, mF (upd (upd (upd g 4 u_126.2.1) 5 u_126.2.2) 50 u_126.1) gl rf))] := hD
          refine W.widen (k := 0) (n := 0) (by omega) (by omega) ?_
          obtain ⟨hw, hb_r_125, hp_130, hp_131, hp_132⟩ := hw
          obtain ⟨X_133, hX_133⟩ : ∃ X9 : Int32 × (Int32) × (Int32) × (Int32), X9 = (fq_isCounted (g 4) (g 5) (g 10) (g 50)) := ⟨_, rfl⟩
          have hq_r_125 : r_125 = X_133.1 := by rw [hX_133]; exact hw.1
          have hq_u_126 : u_126 = X_133.2 := by rw [hX_133]; exact hw.2
          refine lv_if_ne (tgt := 138) hx hb dX12_leafRead_133 (by decide) (fun c_134 => ?_) (fun c_134 => ?_)
          · refine lv_aload_n hx hb dX12_leafRead_138 rfl (lv_at hl 1 rfl) ?_
            refine lv_iload_n hx hb dX12_leafRead_139 rfl (lv_at hl 0 rfl) ?_
            refine lv_if_lt (tgt := 147) hx hb dX12_leafRead_140 (by decide) (fun c_135 => ?_) (fun c_135 => ?_)
            · refine lv_iconst (v := 0) hx hb dX12_leafRead_147 (by decide) ?_
              refine lv_iload_n hx hb dX12_leafRead_148 rfl (lv_at hl 0 rfl) ?_
              refine lv_if_lt (tgt := 156) hx hb dX12_leafRead_149 (by decide) (fun c_136 => ?_) (fun c_136 => absurd c_136 (fun h9 => h9 c_135))
              refine lv_aload_n hx hb dX12_leafRead_156 rfl (lv_at hl 1 rfl) ?_
              refine va_get (D := (dC, dI)) (ci := 12) (v := .int (g 9)) (C := RX12) (T := TX12) (N := 76) hx hb htw inlX12 hown hK hP 7 rfl rfl 9 (by decide) (htw _ (ck_24 _ (List.mem_of_getElem? (i := 19) rfl))) (fun _ h9 => h9) rfl dX12_leafRead_157 ?_
              refine lv_iconst (v := 0) hx hb dX12_leafRead_160 (by decide) ?_
              obtain ⟨hPc, hDc, hFc, hCc⟩ := zsub3 (ws' := [(mq, .inr (12, mF (upd (upd (upd g 4 u_126.2.1) 5 u_126.2.2) 50 u_126.1) gl rf)), (eA0 (rf 41) (ck 41) 128 f_knot), (eA0 (rf 42) (ck 42) 128 f_part), (eA0 (rf 43) (ck 43) 128 f_other), (eA0 (rf 46) (ck 46) 96 f_held)]) hP hD hS hA [7, 2, 3, 4, 6] (by decide) rfl
              have hKc := hK.sub (tys' := [((ck 41), .int), ((ck 42), .int), ((ck 43), .int), ((ck 46), .int)]) [2, 3, 4, 6] rfl
              refine va_callv (va_runV (As := [.int 0, .int (g 9), .int 0]) (rest := []) ⟨hx, hb, hml, hown, htw⟩ (gq_grown l dC dI mq (upd (upd (upd g 4 u_126.2.1) 5 u_126.2.2) 50 u_126.1) gl rf ck f_knot f_part f_other f_held (0 : Int32) (g 9) (0 : Int32) H.size hk0 (gq_leafRead_s41 (y0 := g 23) (y1 := u_126.1) (y2 := g 50) (y3 := g 49) (y4 := g 47) (hp_130.resolve_left c_134) hwl_0.2 hw0_0 hp_132 hk6 hwt7 hk0 hLI hct6 hbr0) hwh_0.1 (gq_leafRead_s42 (y0 := g 48) (y1 := g 47) hwh_0.2 hwt7)) (cwV 3 htw (xg_V (ck_28 _ (List.mem_of_getElem? (i := 13) rfl)) (ck_28 _ (List.mem_of_getElem? (i := 14) rfl)) (ck_28 _ (List.mem_of_getElem? (i := 15) rfl)) (ck_1 _ (List.mem_of_getElem? (i := 5) rfl)) (ck_28 _ (List.mem_of_getElem? (i := 16) rfl))) rfl rfl rfl (by exact ⟨rfl, hdc_14.1, hdc_14.2, hdd_50⟩) ⟨Nat.le_of_ble_eq_true rfl, Nat.le_of_ble_eq_true rfl⟩) ⟨fun a U g mk q => by obtain ⟨q0, q1, qP, qK, qD⟩ := q; exact ⟨q0, q1, qP, va_K.moved (u := U) (U := U.calling g mk a) (Vm.Alike.refl U.vm) qK, qD⟩, va_recv hKc hPc (ci := 12) (q0 := 0) rfl rfl, fun U hU hW => ⟨rfl, by rw [hU], by rw [hU]; exact hPc, va_K.moved hW.alike hKc, hDc.weaken (fun _ _ _ _ => trivial)⟩⟩ rfl rfl hl.1 rfl (lv_room (Nat.le_of_ble_eq_true rfl)) dX12_leafRead_161 ⟨Nat.le_of_ble_eq_true rfl, Nat.le_of_ble_eq_true rfl⟩) hS (fun q _ h => hFc q h) hFc (fun u_138 t H1 locs ht hvm hw hB hz1 hk1 hS => ?_)
              try dsimp only at hw
              obtain ⟨hP1, hK1, hD1⟩ := hB
              rw [ht] at hP1
              have hK1 := va_K.moved hvm.symm hK1
              have hK1 : va_K (dC, dI) vwCl [] s := hK1
              obtain ⟨hP, hD⟩ := va_join (wr := [(eA0 (rf 0) (ck 0) 900 f_tape), (eA0 (rf 3) (ck 3) 118 f_words), (eA0 (rf 45) (ck 45) 96 f_wait)]) (w1 := [(mq, .inr (12, mF (upd (upd (upd (upd (upd g 4 u_126.2.1) 5 u_126.2.2) 23 u_138.1) 48 u_138.2.1) 50 u_126.1) gl rf)), (eA0 (rf 41) (ck 41) 128 u_138.2.2.1), (eA0 (rf 42) (ck 42) 128 u_138.2.2.2.1), (eA0 (rf 43) (ck 43) 128 u_138.2.2.2.2.1), (eA0 (rf 46) (ck 46) 96 u_138.2.2.2.2.2)]) hP hD [7, 2, 3, 4, 6] [0, 1, 5] hCc rfl (by decide) (by decide) hk1 hFc hP1 hD1
              generalize H1 = H at hP hS ⊢
              have hP : va_P (dC, dI) vwCl [(eA0 (rf 0) (ck 0) 900 f_tape), (eA0 (rf 3) (ck 3) 118 f_words), (eA0 (rf 45) (ck 45) 96 f_wait), (mq, .inr (12, mF (upd (upd (upd (upd (upd g 4 u_126.2.1) 5 u_126.2.2) 23 u_138.1) 48 u_138.2.1) 50 u_126.1) gl rf)), (eA0 (rf 41) (ck 41) 128 u_138.2.2.1), (eA0 (rf 42) (ck 42) 128 u_138.2.2.2.1), (eA0 (rf 43) (ck 43) 128 u_138.2.2.2.2.1), (eA0 (rf 46) (ck 46) 96 u_138.2.2.2.2.2)] H := hP
              have hD : va_D A [(eA0 (rf 0) (ck 0) 900 f_tape), (eA0 (rf 3) (ck 3) 118 f_words), (eA0 (rf 45) (ck 45) 96 f_wait), (mq, .inr (12, mF (upd (upd (upd (upd (upd g 4 u_126.2.1) 5 u_126.2.2) 23 u_138.1) 48 u_138.2.1) 50 u_126.1) gl rf)), (eA0 (rf 41) (ck 41) 128 u_138.2.2.1), (eA0 (rf 42) (ck 42) 128 u_138.2.2.2.1), (eA0 (rf 43) (ck 43) 128 u_138.2.2.2.2.1), (eA0 (rf 46) (ck 46) 96 u_138.2.2.2.2.2)] := hD
              refine W.widen (k := 0) (n := 0) (by omega) (by omega) ?_
              have hq_u_138 : u_138 = (fq_grown f_knot f_part f_other f_held (0 : Int32) (g 9) (0 : Int32) (g 23) (g 48)) := hw
              obtain ⟨hW_g, hH_n, hK_n, hkr_n⟩ := xgrown_leaf hW1 hH hKu (gq_leafRead_s43 (y0 := g 48) (y1 := g 23) (y2 := u_126.1) (y3 := g 50) (y4 := g 49) (y5 := g 47) (hp_130.resolve_left c_134) hwl_0.2 hw0_0 hwh_0.1 hwh_0.2 hp_132 hk6 hwt7 hk0 hLI hct6 hbr0).1 (gq_leafRead_s43 (y0 := g 48) (y1 := g 23) (y2 := u_126.1) (y3 := g 50) (y4 := g 49) (y5 := g 47) (hp_130.resolve_left c_134) hwl_0.2 hw0_0 hwh_0.1 hwh_0.2 hp_132 hk6 hwt7 hk0 hLI hct6 hbr0).2.1 (gq_leafRead_s43 (y0 := g 48) (y1 := g 23) (y2 := u_126.1) (y3 := g 50) (y4 := g 49) (y5 := g 47) (hp_130.resolve_left c_134) hwl_0.2 hw0_0 hwh_0.1 hwh_0.2 hp_132 hk6 hwt7 hk0 hLI hct6 hbr0).2.2.1 (gq_leafRead_s43 (y0 := g 48) (y1 := g 23) (y2 := u_126.1) (y3 := g 50) (y4 := g 49) (y5 := g 47) (hp_130.resolve_left c_134) hwl_0.2 hw0_0 hwh_0.1 hwh_0.2 hp_132 hk6 hwt7 hk0 hLI hct6 hbr0).2.2.2 (Or.inl rfl) hq_u_138
              refine lv_aload_n hx hb dX12_leafRead_164 rfl (lv_at hl 1 rfl) ?_
              refine lv_iconst (v := 0) hx hb dX12_leafRead_165 (by decide) ?_
              refine va_put (D := (dC, dI)) (ci := 12) (v := .int 0) (ty := tyX12 51) (C := RX12) (T := TX12) (N := 76) hx hb htw inlX12 tyX12 tyX12_ok nmX12 hown hK hP hD hS 3 rfl rfl 51 (by decide) (htw _ (ck_27 _ (List.mem_of_getElem? (i := 19) rfl))) (fun _ h9 => h9) rfl (tyX12_ok 51 (by decide)) rfl rfl (Nat.le_of_ble_eq_true rfl) dX12_leafRead_166 (fun H locs hP hD hS => ?_)
              have hP : va_P (dC, dI) vwCl [(eA0 (rf 0) (ck 0) 900 f_tape), (eA0 (rf 3) (ck 3) 118 f_words), (eA0 (rf 45) (ck 45) 96 f_wait), (mq, .inr (12, mF (upd (upd (upd (upd (upd (upd g 4 u_126.2.1) 5 u_126.2.2) 23 u_138.1) 48 u_138.2.1) 50 u_126.1) 51 0) gl rf)), (eA0 (rf 41) (ck 41) 128 u_138.2.2.1), (eA0 (rf 42) (ck 42) 128 u_138.2.2.2.1), (eA0 (rf 43) (ck 43) 128 u_138.2.2.2.2.1), (eA0 (rf 46) (ck 46) 96 u_138.2.2.2.2.2)] H := hP
              have hD : va_D A [(eA0 (rf 0) (ck 0) 900 f_tape), (eA0 (rf 3) (ck 3) 118 f_words), (eA0 (rf 45) (ck 45) 96 f_wait), (mq, .inr (12, mF (upd (upd (upd (upd (upd (upd g 4 u_126.2.1) 5 u_126.2.2) 23 u_138.1) 48 u_138.2.1) 50 u_126.1) 51 0) gl rf)), (eA0 (rf 41) (ck 41) 128 u_138.2.2.1), (eA0 (rf 42) (ck 42) 128 u_138.2.2.2.1), (eA0 (rf 43) (ck 43) 128 u_138.2.2.2.2.1), (eA0 (rf 46) (ck 46) 96 u_138.2.2.2.2.2)] := hD
              refine lv_aload_n hx hb dX12_leafRead_169 rfl (lv_at hl 1 rfl) ?_
              obtain ⟨hPc, hDc, hFc, hCc⟩ := zsub3 (ws' := [(mq, .inr (12, mF (upd (upd (upd (upd (upd (upd g 4 u_126.2.1) 5 u_126.2.2) 23 u_138.1) 48 u_138.2.1) 50 u_126.1) 51 0) gl rf)), (eA0 (rf 0) (ck 0) 900 f_tape), (eA0 (rf 3) (ck 3) 118 f_words)]) hP hD hS hA [3, 0, 1] (by decide) rfl
              have hKc := hK.sub (tys' := [((ck 0), .int), ((ck 3), .int)]) [0, 1] rfl
              refine va_callv (va_runV (As := []) (rest := []) ⟨hx, hb, hml, hown, htw⟩ (gy_token l dC dI mq (upd (upd (upd (upd (upd (upd g 4 u_126.2.1) 5 u_126.2.2) 23 u_138.1) 48 u_138.2.1) 50 u_126.1) 51 0) gl rf ck f_tape f_words H.size h0n hns hs9 hw7) (cwV 0 htw (xg_V (ck_24 _ (List.mem_of_getElem? (i := 14) rfl)) (ck_24 _ (List.mem_of_getElem? (i := 15) rfl)) (ck_24 _ (List.mem_of_getElem? (i := 16) rfl)) (ck_1 _ (List.mem_of_getElem? (i := 5) rfl)) (ck_24 _ (List.mem_of_getElem? (i := 17) rfl))) rfl rfl rfl (by exact ⟨rfl, hdc_14.1, hdc_14.2, hdd_13⟩) ⟨Nat.le_of_ble_eq_true rfl, Nat.le_of_ble_eq_true rfl⟩) ⟨fun a U g mk q => by obtain ⟨q0, q1, qP, qK, qD⟩ := q; exact ⟨q0, q1, qP, va_K.moved (u := U) (U := U.calling g mk a) (Vm.Alike.refl U.vm) qK, qD⟩, va_recv hKc hPc (ci := 12) (q0 := 0) rfl rfl, fun U hU hW => ⟨rfl, by rw [hU], by rw [hU]; exact hPc, va_K.moved hW.alike hKc, hDc.weaken (fun _ _ _ _ => trivial)⟩⟩ rfl rfl hl.1 rfl (lv_room (Nat.le_of_ble_eq_true rfl)) dX12_leafRead_170 ⟨Nat.le_of_ble_eq_true rfl, Nat.le_of_ble_eq_true rfl⟩) hS (fun q _ h => hFc q h) hFc (fun u_146 t H1 locs ht hvm hw hB hz1 hk1 hS => ?_)
              try dsimp only at hw
              obtain ⟨hP1, hK1, hD1⟩ := hB
              rw [ht] at hP1
              have hK1 := va_K.moved hvm.symm hK1
              have hK1 : va_K (dC, dI) vwCl [] s := hK1
              obtain ⟨hP, hD⟩ := va_join (wr := [(eA0 (rf 45) (ck 45) 96 f_wait), (eA0 (rf 41) (ck 41) 128 u_138.2.2.1), (eA0 (rf 42) (ck 42) 128 u_138.2.2.2.1), (eA0 (rf 43) (ck 43) 128 u_138.2.2.2.2.1), (eA0 (rf 46) (ck 46) 96 u_138.2.2.2.2.2)]) (w1 := [(mq, .inr (12, mF (upd (upd (upd (upd (upd (upd (upd (upd (upd (upd g 4 u_126.2.1) 5 u_126.2.2) 7 u_146.1) 8 u_146.2.1) 9 u_146.2.2.1) 10 u_146.2.2.2) 23 u_138.1) 48 u_138.2.1) 50 u_126.1) 51 0) gl rf)), (eA0 (rf 0) (ck 0) 900 f_tape), (eA0 (rf 3) (ck 3) 118 f_words)]) hP hD [3, 0, 1] [2, 4, 5, 6, 7] hCc rfl (by decide) (by decide) hk1 hFc hP1 hD1
              generalize H1 = H at hP hS ⊢
              have hP : va_P (dC, dI) vwCl [(eA0 (rf 45) (ck 45) 96 f_wait), (eA0 (rf 41) (ck 41) 128 u_138.2.2.1), (eA0 (rf 42) (ck 42) 128 u_138.2.2.2.1), (eA0 (rf 43) (ck 43) 128 u_138.2.2.2.2.1), (eA0 (rf 46) (ck 46) 96 u_138.2.2.2.2.2), (mq, .inr (12, mF (upd (upd (upd (upd (upd (upd (upd (upd (upd (upd g 4 u_126.2.1) 5 u_126.2.2) 7 u_146.1) 8 u_146.2.1) 9 u_146.2.2.1) 10 u_146.2.2.2) 23 u_138.1) 48 u_138.2.1) 50 u_126.1) 51 0) gl rf)), (eA0 (rf 0) (ck 0) 900 f_tape), (eA0 (rf 3) (ck 3) 118 f_words)] H := hP
              have hD : va_D A [(eA0 (rf 45) (ck 45) 96 f_wait), (eA0 (rf 41) (ck 41) 128 u_138.2.2.1), (eA0 (rf 42) (ck 42) 128 u_138.2.2.2.1), (eA0 (rf 43) (ck 43) 128 u_138.2.2.2.2.1), (eA0 (rf 46) (ck 46) 96 u_138.2.2.2.2.2), (mq, .inr (12, mF (upd (upd (upd (upd (upd (upd (upd (upd (upd (upd g 4 u_126.2.1) 5 u_126.2.2) 7 u_146.1) 8 u_146.2.1) 9 u_146.2.2.1) 10 u_146.2.2.2) 23 u_138.1) 48 u_138.2.1) 50 u_126.1) 51 0) gl rf)), (eA0 (rf 0) (ck 0) 900 f_tape), (eA0 (rf 3) (ck 3) 118 f_words)] := hD
              refine W.widen (k := 0) (n := 0) (by omega) (by omega) ?_
              obtain ⟨hw, hp_151, hp_152, hp_153⟩ := hw
              have hq_u_146 : u_146 = (fq_token f_tape f_words (g 6) (g 7) (g 9)) := hw
              refine lv_iconst (v := 1) hx hb dX12_leafRead_173 (by decide) ?_
              refine W.widen (k := 0) (n := 0) (by omega) (by omega) ?_
              obtain ⟨hP9, hD9⟩ := zsub2 (ws' := [(mq, .inr (12, mF (upd (upd (upd (upd (upd (upd (upd (upd (upd (upd g 4 u_126.2.1) 5 u_126.2.2) 7 u_146.1) 8 u_146.2.1) 9 u_146.2.2.1) 10 u_146.2.2.2) 23 u_138.1) 48 u_138.2.1) 50 u_126.1) 51 0) gl rf)), (eA0 (rf 0) (ck 0) 900 f_tape), (eA0 (rf 3) (ck 3) 118 f_words), (eA0 (rf 41) (ck 41) 128 u_138.2.2.1), (eA0 (rf 42) (ck 42) 128 u_138.2.2.2.1), (eA0 (rf 43) (ck 43) 128 u_138.2.2.2.2.1), (eA0 (rf 45) (ck 45) 96 f_wait), (eA0 (rf 46) (ck 46) 96 u_138.2.2.2.2.2)]) hP hD [5, 6, 7, 1, 2, 3, 0, 4] (by decide +kernel) rfl
              have hK9 := hK.sub (tys' := []) [] rfl
              exact W.zret (v := 1) hx hb hr (by first | rfl | decide) (fun t ht hW => ⟨⟨1, (u_138.2.2.1, u_138.2.2.2.1, u_138.2.2.2.2.1, u_138.2.2.2.2.2, u_126.2.1, u_126.2.2, u_146.1, u_146.2.1, u_146.2.2.1, u_146.2.2.2, u_138.1, u_138.2.1, u_126.1, 0, f_wait, (g 47), (g 49), (g 52)), rfl, ⟨((fun e9 => ⟨by rw [e9], by rw [e9]⟩ : fq_leafRead f_tape f_words f_knot f_part f_other f_wait f_held (g 4) (g 5) (g 6) (g 7) (g 8) (g 9) (g 10) (g 23) (g 47) (g 48) (g 49) (g 50) (g 51) (g 52) = ((1 : Int32), u_138.2.2.1, u_138.2.2.2.1, u_138.2.2.2.2.1, u_138.2.2.2.2.2, u_126.2.1, u_126.2.2, u_146.1, u_146.2.1, u_146.2.2.1, u_146.2.2.2, u_138.1, u_138.2.1, u_126.1, (0 : Int32), f_wait, (g 47), (g 49), (g 52)) → _) ((by rw [fq_leafRead]; (try rw [← hq_r_1]); (try rw [xL_eq]); (try rw [if_pos c_2]); (try rw [← hq_r_3]); (try rw [xL_eq]); (try rw [if_neg c_4]); (try rw [if_pos c_119]); (try rw [← hq_r_120]); (try rw [xL_eq]); (try rw [if_pos c_123]); (try rw [← hX_133]); (try rw [xL_eq]); (try rw [← hq_r_125]); (try rw [← hq_u_126]); (try rw [if_neg c_134]); (try rw [if_pos c_135]); (try rw [← hq_u_138]); (try rw [xL_eq]); (try rw [← hq_u_146]); (try rw [xL_eq]); try rfl))), Or.inr rfl, hp_151, hp_152, (Or.inr (gq_leafRead_s44 (y0 := u_138.1) (y1 := u_126.1) (y2 := g 50) (y3 := g 49) (y4 := g 47) (y5 := g 23) (hp_130.resolve_left c_134) hwl_0.2 hw0_0 hp_132 hkr_n hk6 hwt7 hk0 hLI hct6 hbr0)), (Or.inr hwt7), hK_n, (Or.inr (gq_leafRead_s45 (y0 := u_138.1) (y1 := g 23) hkr_n hk6 hk0)), (Or.inr (gq_leafRead_s46 (y0 := u_138.1) (y1 := g 47) (y2 := g 49) (y3 := u_126.1) (y4 := g 50) (y5 := g 23) (hp_130.resolve_left c_134) hwl_0.2 hw0_0 hkr_n hk6 hwt7 hk0 hLI hct6 hbr0)), hp_131, hp_132, (Or.inr hwl_0.1), (Or.inr hbr8), (Or.inr (gq_leafRead_s47 )), (Or.inr (gq_leafRead_s48 )), (Or.inr (gq_leafRead_s49 (y0 := u_138.1) (y1 := g 23) hkr_n hk6 hk0)), (Or.inr (gq_leafRead_s50 (y0 := g 23) (y1 := u_138.1) hkr_n hk6)), (Or.inr ⟨hW_g, hH_n, hp_153, (xm_cnt (hp_130.resolve_left c_134) hct0 hct6 hbr0 hbr8 hbr0 hbr8)⟩)⟩, by rw [ht]; exact hP9, va_K.moved hW.alike hK9, hD9⟩, hS.F ht⟩) hS.2.2 dX12_leafRead_174
            · refine lv_iconst (v := 1) hx hb dX12_leafRead_143 (by decide) ?_
              refine lv_goto (tgt := 148) hx hb dX12_leafRead_144 (by decide) ?_
              refine lv_iload_n hx hb dX12_leafRead_148 rfl (lv_at hl 0 rfl) ?_
              refine lv_if_lt (tgt := 156) hx hb dX12_leafRead_149 (by decide) (fun c_154 => absurd c_154 (c_135)) (fun c_154 => ?_)
              refine lv_iload_n hx hb dX12_leafRead_152 rfl (lv_at hl 0 rfl) ?_
              refine lv_goto (tgt := 160) hx hb dX12_leafRead_153 (by decide) ?_
              refine lv_iconst (v := 0) hx hb dX12_leafRead_160 (by decide) ?_
              obtain ⟨hPc, hDc, hFc, hCc⟩ := zsub3 (ws' := [(mq, .inr (12, mF (upd (upd (upd g 4 u_126.2.1) 5 u_126.2.2) 50 u_126.1) gl rf)), (eA0 (rf 41) (ck 41) 128 f_knot), (eA0 (rf 42) (ck 42) 128 f_part), (eA0 (rf 43) (ck 43) 128 f_other), (eA0 (rf 46) (ck 46) 96 f_held)]) hP hD hS hA [7, 2, 3, 4, 6] (by decide) rfl
              have hKc := hK.sub (tys' := [((ck 41), .int), ((ck 42), .int), ((ck 43), .int), ((ck 46), .int)]) [2, 3, 4, 6] rfl
              refine va_callv (va_runV (As := [.int 1, .int r_120, .int 0]) (rest := []) ⟨hx, hb, hml, hown, htw⟩ (gq_grown l dC dI mq (upd (upd (upd g 4 u_126.2.1) 5 u_126.2.2) 50 u_126.1) gl rf ck f_knot f_part f_other f_held (1 : Int32) r_120 (0 : Int32) H.size hk0 (gq_leafRead_s51 (y0 := g 23) (y1 := u_126.1) (y2 := g 50) (y3 := g 49) (y4 := g 47) (hp_130.resolve_left c_134) hwl_0.2 hw0_0 hp_132 hk6 hwt7 hk0 hLI hct6 hbr0) hwh_0.1 (gq_leafRead_s52 (y0 := g 48) (y1 := g 47) hwh_0.2 hwt7)) (cwV 3 htw (xg_V (ck_28 _ (List.mem_of_getElem? (i := 13) rfl)) (ck_28 _ (List.mem_of_getElem? (i := 14) rfl)) (ck_28 _ (List.mem_of_getElem? (i := 15) rfl)) (ck_1 _ (List.mem_of_getElem? (i := 5) rfl)) (ck_28 _ (List.mem_of_getElem? (i := 16) rfl))) rfl rfl rfl (by exact ⟨rfl, hdc_14.1, hdc_14.2, hdd_50⟩) ⟨Nat.le_of_ble_eq_true rfl, Nat.le_of_ble_eq_true rfl⟩) ⟨fun a U g mk q => by obtain ⟨q0, q1, qP, qK, qD⟩ := q; exact ⟨q0, q1, qP, va_K.moved (u := U) (U := U.calling g mk a) (Vm.Alike.refl U.vm) qK, qD⟩, va_recv hKc hPc (ci := 12) (q0 := 0) rfl rfl, fun U hU hW => ⟨rfl, by rw [hU], by rw [hU]; exact hPc, va_K.moved hW.alike hKc, hDc.weaken (fun _ _ _ _ => trivial)⟩⟩ rfl rfl hl.1 rfl (lv_room (Nat.le_of_ble_eq_true rfl)) dX12_leafRead_161 ⟨Nat.le_of_ble_eq_true rfl, Nat.le_of_ble_eq_true rfl⟩) hS (fun q _ h => hFc q h) hFc (fun u_156 t H1 locs ht hvm hw hB hz1 hk1 hS => ?_)
              try dsimp only at hw
              obtain ⟨hP1, hK1, hD1⟩ := hB
              rw [ht] at hP1
              have hK1 := va_K.moved hvm.symm hK1
              have hK1 : va_K (dC, dI) vwCl [] s := hK1
              obtain ⟨hP, hD⟩ := va_join (wr := [(eA0 (rf 0) (ck 0) 900 f_tape), (eA0 (rf 3) (ck 3) 118 f_words), (eA0 (rf 45) (ck 45) 96 f_wait)]) (w1 := [(mq, .inr (12, mF (upd (upd (upd (upd (upd g 4 u_126.2.1) 5 u_126.2.2) 23 u_156.1) 48 u_156.2.1) 50 u_126.1) gl rf)), (eA0 (rf 41) (ck 41) 128 u_156.2.2.1), (eA0 (rf 42) (ck 42) 128 u_156.2.2.2.1), (eA0 (rf 43) (ck 43) 128 u_156.2.2.2.2.1), (eA0 (rf 46) (ck 46) 96 u_156.2.2.2.2.2)]) hP hD [7, 2, 3, 4, 6] [0, 1, 5] hCc rfl (by decide) (by decide) hk1 hFc hP1 hD1
              generalize H1 = H at hP hS ⊢
              have hP : va_P (dC, dI) vwCl [(eA0 (rf 0) (ck 0) 900 f_tape), (eA0 (rf 3) (ck 3) 118 f_words), (eA0 (rf 45) (ck 45) 96 f_wait), (mq, .inr (12, mF (upd (upd (upd (upd (upd g 4 u_126.2.1) 5 u_126.2.2) 23 u_156.1) 48 u_156.2.1) 50 u_126.1) gl rf)), (eA0 (rf 41) (ck 41) 128 u_156.2.2.1), (eA0 (rf 42) (ck 42) 128 u_156.2.2.2.1), (eA0 (rf 43) (ck 43) 128 u_156.2.2.2.2.1), (eA0 (rf 46) (ck 46) 96 u_156.2.2.2.2.2)] H := hP
              have hD : va_D A [(eA0 (rf 0) (ck 0) 900 f_tape), (eA0 (rf 3) (ck 3) 118 f_words), (eA0 (rf 45) (ck 45) 96 f_wait), (mq, .inr (12, mF (upd (upd (upd (upd (upd g 4 u_126.2.1) 5 u_126.2.2) 23 u_156.1) 48 u_156.2.1) 50 u_126.1) gl rf)), (eA0 (rf 41) (ck 41) 128 u_156.2.2.1), (eA0 (rf 42) (ck 42) 128 u_156.2.2.2.1), (eA0 (rf 43) (ck 43) 128 u_156.2.2.2.2.1), (eA0 (rf 46) (ck 46) 96 u_156.2.2.2.2.2)] := hD
              refine W.widen (k := 0) (n := 0) (by omega) (by omega) ?_
              have hq_u_156 : u_156 = (fq_grown f_knot f_part f_other f_held (1 : Int32) r_120 (0 : Int32) (g 23) (g 48)) := hw
              obtain ⟨hW_g, hH_n, hK_n, hkr_n⟩ := xgrown_leaf hW1 hH hKu (gq_leafRead_s53 (y0 := g 48) (y1 := g 23) (y2 := u_126.1) (y3 := g 50) (y4 := g 49) (y5 := g 47) (hp_130.resolve_left c_134) hwl_0.2 hw0_0 hwh_0.1 hwh_0.2 hp_132 hk6 hwt7 hk0 hLI hct6 hbr0).1 (gq_leafRead_s53 (y0 := g 48) (y1 := g 23) (y2 := u_126.1) (y3 := g 50) (y4 := g 49) (y5 := g 47) (hp_130.resolve_left c_134) hwl_0.2 hw0_0 hwh_0.1 hwh_0.2 hp_132 hk6 hwt7 hk0 hLI hct6 hbr0).2.1 (gq_leafRead_s53 (y0 := g 48) (y1 := g 23) (y2 := u_126.1) (y3 := g 50) (y4 := g 49) (y5 := g 47) (hp_130.resolve_left c_134) hwl_0.2 hw0_0 hwh_0.1 hwh_0.2 hp_132 hk6 hwt7 hk0 hLI hct6 hbr0).2.2.1 (gq_leafRead_s53 (y0 := g 48) (y1 := g 23) (y2 := u_126.1) (y3 := g 50) (y4 := g 49) (y5 := g 47) (hp_130.resolve_left c_134) hwl_0.2 hw0_0 hwh_0.1 hwh_0.2 hp_132 hk6 hwt7 hk0 hLI hct6 hbr0).2.2.2 (Or.inr ⟨rfl, xg_inr (N := 6) rfl (And.intro c_135 hp_121).1 (Int32.not_le.mpr (And.intro c_135 hp_121).2)⟩) hq_u_156
              refine lv_aload_n hx hb dX12_leafRead_164 rfl (lv_at hl 1 rfl) ?_
              refine lv_iconst (v := 0) hx hb dX12_leafRead_165 (by decide) ?_
              refine va_put (D := (dC, dI)) (ci := 12) (v := .int 0) (ty := tyX12 51) (C := RX12) (T := TX12) (N := 76) hx hb htw inlX12 tyX12 tyX12_ok nmX12 hown hK hP hD hS 3 rfl rfl 51 (by decide) (htw _ (ck_27 _ (List.mem_of_getElem? (i := 19) rfl))) (fun _ h9 => h9) rfl (tyX12_ok 51 (by decide)) rfl rfl (Nat.le_of_ble_eq_true rfl) dX12_leafRead_166 (fun H locs hP hD hS => ?_)
              have hP : va_P (dC, dI) vwCl [(eA0 (rf 0) (ck 0) 900 f_tape), (eA0 (rf 3) (ck 3) 118 f_words), (eA0 (rf 45) (ck 45) 96 f_wait), (mq, .inr (12, mF (upd (upd (upd (upd (upd (upd g 4 u_126.2.1) 5 u_126.2.2) 23 u_156.1) 48 u_156.2.1) 50 u_126.1) 51 0) gl rf)), (eA0 (rf 41) (ck 41) 128 u_156.2.2.1), (eA0 (rf 42) (ck 42) 128 u_156.2.2.2.1), (eA0 (rf 43) (ck 43) 128 u_156.2.2.2.2.1), (eA0 (rf 46) (ck 46) 96 u_156.2.2.2.2.2)] H := hP
              have hD : va_D A [(eA0 (rf 0) (ck 0) 900 f_tape), (eA0 (rf 3) (ck 3) 118 f_words), (eA0 (rf 45) (ck 45) 96 f_wait), (mq, .inr (12, mF (upd (upd (upd (upd (upd (upd g 4 u_126.2.1) 5 u_126.2.2) 23 u_156.1) 48 u_156.2.1) 50 u_126.1) 51 0) gl rf)), (eA0 (rf 41) (ck 41) 128 u_156.2.2.1), (eA0 (rf 42) (ck 42) 128 u_156.2.2.2.1), (eA0 (rf 43) (ck 43) 128 u_156.2.2.2.2.1), (eA0 (rf 46) (ck 46) 96 u_156.2.2.2.2.2)] := hD
              refine lv_aload_n hx hb dX12_leafRead_169 rfl (lv_at hl 1 rfl) ?_
              obtain ⟨hPc, hDc, hFc, hCc⟩ := zsub3 (ws' := [(mq, .inr (12, mF (upd (upd (upd (upd (upd (upd g 4 u_126.2.1) 5 u_126.2.2) 23 u_156.1) 48 u_156.2.1) 50 u_126.1) 51 0) gl rf)), (eA0 (rf 0) (ck 0) 900 f_tape), (eA0 (rf 3) (ck 3) 118 f_words)]) hP hD hS hA [3, 0, 1] (by decide) rfl
              have hKc := hK.sub (tys' := [((ck 0), .int), ((ck 3), .int)]) [0, 1] rfl
              refine va_callv (va_runV (As := []) (rest := []) ⟨hx, hb, hml, hown, htw⟩ (gy_token l dC dI mq (upd (upd (upd (upd (upd (upd g 4 u_126.2.1) 5 u_126.2.2) 23 u_156.1) 48 u_156.2.1) 50 u_126.1) 51 0) gl rf ck f_tape f_words H.size h0n hns hs9 hw7) (cwV 0 htw (xg_V (ck_24 _ (List.mem_of_getElem? (i := 14) rfl)) (ck_24 _ (List.mem_of_getElem? (i := 15) rfl)) (ck_24 _ (List.mem_of_getElem? (i := 16) rfl)) (ck_1 _ (List.mem_of_getElem? (i := 5) rfl)) (ck_24 _ (List.mem_of_getElem? (i := 17) rfl))) rfl rfl rfl (by exact ⟨rfl, hdc_14.1, hdc_14.2, hdd_13⟩) ⟨Nat.le_of_ble_eq_true rfl, Nat.le_of_ble_eq_true rfl⟩) ⟨fun a U g mk q => by obtain ⟨q0, q1, qP, qK, qD⟩ := q; exact ⟨q0, q1, qP, va_K.moved (u := U) (U := U.calling g mk a) (Vm.Alike.refl U.vm) qK, qD⟩, va_recv hKc hPc (ci := 12) (q0 := 0) rfl rfl, fun U hU hW => ⟨rfl, by rw [hU], by rw [hU]; exact hPc, va_K.moved hW.alike hKc, hDc.weaken (fun _ _ _ _ => trivial)⟩⟩ rfl rfl hl.1 rfl (lv_room (Nat.le_of_ble_eq_true rfl)) dX12_leafRead_170 ⟨Nat.le_of_ble_eq_true rfl, Nat.le_of_ble_eq_true rfl⟩) hS (fun q _ h => hFc q h) hFc (fun u_164 t H1 locs ht hvm hw hB hz1 hk1 hS => ?_)
              try dsimp only at hw
              obtain ⟨hP1, hK1, hD1⟩ := hB
              rw [ht] at hP1
              have hK1 := va_K.moved hvm.symm hK1
              have hK1 : va_K (dC, dI) vwCl [] s := hK1
              obtain ⟨hP, hD⟩ := va_join (wr := [(eA0 (rf 45) (ck 45) 96 f_wait), (eA0 (rf 41) (ck 41) 128 u_156.2.2.1), (eA0 (rf 42) (ck 42) 128 u_156.2.2.2.1), (eA0 (rf 43) (ck 43) 128 u_156.2.2.2.2.1), (eA0 (rf 46) (ck 46) 96 u_156.2.2.2.2.2)]) (w1 := [(mq, .inr (12, mF (upd (upd (upd (upd (upd (upd (upd (upd (upd (upd g 4 u_126.2.1) 5 u_126.2.2) 7 u_164.1) 8 u_164.2.1) 9 u_164.2.2.1) 10 u_164.2.2.2) 23 u_156.1) 48 u_156.2.1) 50 u_126.1) 51 0) gl rf)), (eA0 (rf 0) (ck 0) 900 f_tape), (eA0 (rf 3) (ck 3) 118 f_words)]) hP hD [3, 0, 1] [2, 4, 5, 6, 7] hCc rfl (by decide) (by decide) hk1 hFc hP1 hD1
              generalize H1 = H at hP hS ⊢
              have hP : va_P (dC, dI) vwCl [(eA0 (rf 45) (ck 45) 96 f_wait), (eA0 (rf 41) (ck 41) 128 u_156.2.2.1), (eA0 (rf 42) (ck 42) 128 u_156.2.2.2.1), (eA0 (rf 43) (ck 43) 128 u_156.2.2.2.2.1), (eA0 (rf 46) (ck 46) 96 u_156.2.2.2.2.2), (mq, .inr (12, mF (upd (upd (upd (upd (upd (upd (upd (upd (upd (upd g 4 u_126.2.1) 5 u_126.2.2) 7 u_164.1) 8 u_164.2.1) 9 u_164.2.2.1) 10 u_164.2.2.2) 23 u_156.1) 48 u_156.2.1) 50 u_126.1) 51 0) gl rf)), (eA0 (rf 0) (ck 0) 900 f_tape), (eA0 (rf 3) (ck 3) 118 f_words)] H := hP
              have hD : va_D A [(eA0 (rf 45) (ck 45) 96 f_wait), (eA0 (rf 41) (ck 41) 128 u_156.2.2.1), (eA0 (rf 42) (ck 42) 128 u_156.2.2.2.1), (eA0 (rf 43) (ck 43) 128 u_156.2.2.2.2.1), (eA0 (rf 46) (ck 46) 96 u_156.2.2.2.2.2), (mq, .inr (12, mF (upd (upd (upd (upd (upd (upd (upd (upd (upd (upd g 4 u_126.2.1) 5 u_126.2.2) 7 u_164.1) 8 u_164.2.1) 9 u_164.2.2.1) 10 u_164.2.2.2) 23 u_156.1) 48 u_156.2.1) 50 u_126.1) 51 0) gl rf)), (eA0 (rf 0) (ck 0) 900 f_tape), (eA0 (rf 3) (ck 3) 118 f_words)] := hD
              refine W.widen (k := 0) (n := 0) (by omega) (by omega) ?_
              obtain ⟨hw, hp_169, hp_170, hp_171⟩ := hw
              have hq_u_164 : u_164 = (fq_token f_tape f_words (g 6) (g 7) (g 9)) := hw
              refine lv_iconst (v := 1) hx hb dX12_leafRead_173 (by decide) ?_
              refine W.widen (k := 0) (n := 0) (by omega) (by omega) ?_
              obtain ⟨hP9, hD9⟩ := zsub2 (ws' := [(mq, .inr (12, mF (upd (upd (upd (upd (upd (upd (upd (upd (upd (upd g 4 u_126.2.1) 5 u_126.2.2) 7 u_164.1) 8 u_164.2.1) 9 u_164.2.2.1) 10 u_164.2.2.2) 23 u_156.1) 48 u_156.2.1) 50 u_126.1) 51 0) gl rf)), (eA0 (rf 0) (ck 0) 900 f_tape), (eA0 (rf 3) (ck 3) 118 f_words), (eA0 (rf 41) (ck 41) 128 u_156.2.2.1), (eA0 (rf 42) (ck 42) 128 u_156.2.2.2.1), (eA0 (rf 43) (ck 43) 128 u_156.2.2.2.2.1), (eA0 (rf 45) (ck 45) 96 f_wait), (eA0 (rf 46) (ck 46) 96 u_156.2.2.2.2.2)]) hP hD [5, 6, 7, 1, 2, 3, 0, 4] (by decide +kernel) rfl
              have hK9 := hK.sub (tys' := []) [] rfl
              exact W.zret (v := 1) hx hb hr (by first | rfl | decide) (fun t ht hW => ⟨⟨1, (u_156.2.2.1, u_156.2.2.2.1, u_156.2.2.2.2.1, u_156.2.2.2.2.2, u_126.2.1, u_126.2.2, u_164.1, u_164.2.1, u_164.2.2.1, u_164.2.2.2, u_156.1, u_156.2.1, u_126.1, 0, f_wait, (g 47), (g 49), (g 52)), rfl, ⟨((fun e9 => ⟨by rw [e9], by rw [e9]⟩ : fq_leafRead f_tape f_words f_knot f_part f_other f_wait f_held (g 4) (g 5) (g 6) (g 7) (g 8) (g 9) (g 10) (g 23) (g 47) (g 48) (g 49) (g 50) (g 51) (g 52) = ((1 : Int32), u_156.2.2.1, u_156.2.2.2.1, u_156.2.2.2.2.1, u_156.2.2.2.2.2, u_126.2.1, u_126.2.2, u_164.1, u_164.2.1, u_164.2.2.1, u_164.2.2.2, u_156.1, u_156.2.1, u_126.1, (0 : Int32), f_wait, (g 47), (g 49), (g 52)) → _) ((by rw [fq_leafRead]; (try rw [← hq_r_1]); (try rw [xL_eq]); (try rw [if_pos c_2]); (try rw [← hq_r_3]); (try rw [xL_eq]); (try rw [if_neg c_4]); (try rw [if_pos c_119]); (try rw [← hq_r_120]); (try rw [xL_eq]); (try rw [if_pos c_123]); (try rw [← hX_133]); (try rw [xL_eq]); (try rw [← hq_r_125]); (try rw [← hq_u_126]); (try rw [if_neg c_134]); (try rw [if_neg c_135]); (try rw [← hq_u_156]); (try rw [xL_eq]); (try rw [← hq_u_164]); (try rw [xL_eq]); try rfl))), Or.inr rfl, hp_169, hp_170, (Or.inr (gq_leafRead_s54 (y0 := u_156.1) (y1 := u_126.1) (y2 := g 50) (y3 := g 49) (y4 := g 47) (y5 := g 23) (hp_130.resolve_left c_134) hwl_0.2 hw0_0 hp_132 hkr_n hk6 hwt7 hk0 hLI hct6 hbr0)), (Or.inr hwt7), hK_n, (Or.inr (gq_leafRead_s55 (y0 := u_156.1) (y1 := g 23) hkr_n hk6 hk0)), (Or.inr (gq_leafRead_s56 (y0 := u_156.1) (y1 := g 47) (y2 := g 49) (y3 := u_126.1) (y4 := g 50) (y5 := g 23) (hp_130.resolve_left c_134) hwl_0.2 hw0_0 hkr_n hk6 hwt7 hk0 hLI hct6 hbr0)), hp_131, hp_132, (Or.inr hwl_0.1), (Or.inr hbr8), (Or.inr (gq_leafRead_s57 )), (Or.inr (gq_leafRead_s58 )), (Or.inr (gq_leafRead_s59 (y0 := u_156.1) (y1 := g 23) hkr_n hk6 hk0)), (Or.inr (gq_leafRead_s60 (y0 := g 23) (y1 := u_156.1) hkr_n hk6)), (Or.inr ⟨hW_g, hH_n, hp_171, (xm_cnt (hp_130.resolve_left c_134) hct0 hct6 hbr0 hbr8 hbr0 hbr8)⟩)⟩, by rw [ht]; exact hP9, va_K.moved hW.alike hK9, hD9⟩, hS.F ht⟩) hS.2.2 dX12_leafRead_174
          · refine lv_iconst (v := 0) hx hb dX12_leafRead_136 (by decide) ?_
            refine W.widen (k := 0) (n := 0) (by omega) (by omega) ?_
            obtain ⟨hP9, hD9⟩ := zsub2 (ws' := [(mq, .inr (12, mF (upd (upd (upd g 4 u_126.2.1) 5 u_126.2.2) 50 u_126.1) gl rf)), (eA0 (rf 0) (ck 0) 900 f_tape), (eA0 (rf 3) (ck 3) 118 f_words), (eA0 (rf 41) (ck 41) 128 f_knot), (eA0 (rf 42) (ck 42) 128 f_part), (eA0 (rf 43) (ck 43) 128 f_other), (eA0 (rf 45) (ck 45) 96 f_wait), (eA0 (rf 46) (ck 46) 96 f_held)]) hP hD [7, 0, 1, 2, 3, 4, 5, 6] (by decide +kernel) rfl
            have hK9 := hK.sub (tys' := []) [] rfl
            exact W.zret (v := 0) hx hb hr (by first | rfl | decide) (fun t ht hW => ⟨⟨0, (f_knot, f_part, f_other, f_held, u_126.2.1, u_126.2.2, (g 7), (g 8), (g 9), (g 10), (g 23), (g 48), u_126.1, (g 51), f_wait, (g 47), (g 49), (g 52)), rfl, ⟨((fun e9 => ⟨by rw [e9], by rw [e9]⟩ : fq_leafRead f_tape f_words f_knot f_part f_other f_wait f_held (g 4) (g 5) (g 6) (g 7) (g 8) (g 9) (g 10) (g 23) (g 47) (g 48) (g 49) (g 50) (g 51) (g 52) = ((0 : Int32), f_knot, f_part, f_other, f_held, u_126.2.1, u_126.2.2, (g 7), (g 8), (g 9), (g 10), (g 23), (g 48), u_126.1, (g 51), f_wait, (g 47), (g 49), (g 52)) → _) ((by rw [fq_leafRead]; (try rw [← hq_r_1]); (try rw [xL_eq]); (try rw [if_pos c_2]); (try rw [← hq_r_3]); (try rw [xL_eq]); (try rw [if_neg c_4]); (try rw [if_pos c_119]); (try rw [← hq_r_120]); (try rw [xL_eq]); (try rw [if_pos c_123]); (try rw [← hX_133]); (try rw [xL_eq]); (try rw [← hq_r_125]); (try rw [← hq_u_126]); (try rw [if_pos c_134]); try rfl))), Or.inl rfl, h0n, hns, Or.inl rfl, Or.inl rfl, hKu, Or.inl rfl, Or.inl rfl, hp_131, hp_132, Or.inl rfl, Or.inl rfl, Or.inl rfl, Or.inl rfl, Or.inl rfl, Or.inl rfl, (Or.inl rfl)⟩, by rw [ht]; exact hP9, va_K.moved hW.alike hK9, hD9⟩, hS.F ht⟩) hS.2.2 dX12_leafRead_137
        · refine lv_aload_n hx hb dX12_leafRead_95 rfl (lv_at hl 1 rfl) ?_
          refine va_get (D := (dC, dI)) (ci := 12) (v := .int (g 8)) (C := RX12) (T := TX12) (N := 76) hx hb htw inlX12 hown hK hP 0 rfl rfl 8 (by decide) (htw _ (ck_24 _ (List.mem_of_getElem? (i := 13) rfl))) (fun _ h9 => h9) rfl dX12_leafRead_96 ?_
          refine lv_iconst (v := 3) hx hb dX12_leafRead_99 (by decide) ?_
          refine lv_icmp_eq (tgt := 109) hx hb dX12_leafRead_100 (by decide) (fun c_172 => ?_) (fun c_172 => ?_)
          · refine lv_iload_n hx hb dX12_leafRead_109 rfl (lv_at hl 0 rfl) ?_
            refine lv_if_ge (tgt := 129) hx hb dX12_leafRead_110 (by decide) (fun c_173 => absurd c_173 (c_123)) (fun c_173 => ?_)
            refine lv_aload_n hx hb dX12_leafRead_113 rfl (lv_at hl 1 rfl) ?_
            refine va_get (D := (dC, dI)) (ci := 12) (v := .int (g 9)) (C := RX12) (T := TX12) (N := 76) hx hb htw inlX12 hown hK hP 0 rfl rfl 9 (by decide) (htw _ (ck_24 _ (List.mem_of_getElem? (i := 19) rfl))) (fun _ h9 => h9) rfl dX12_leafRead_114 ?_
            refine lv_sipush (v := 9999) hx hb dX12_leafRead_117 (by decide) ?_
            refine lv_icmp_le (tgt := 129) hx hb dX12_leafRead_120 (by decide) (fun c_174 => ?_) (fun c_174 => ?_)
            · refine lv_aload_n hx hb dX12_leafRead_129 rfl (lv_at hl 1 rfl) ?_
              obtain ⟨hPc, hDc, hFc, hCc⟩ := zsub3 (ws' := [(mq, .inr (12, mF g gl rf))]) hP hD hS hA [0] (by decide) rfl
              have hKc := hK.sub (tys' := []) [] rfl
              refine va_calli (va_runV (As := []) (rest := []) ⟨hx, hb, hml, hown, htw⟩ (gy_isCounted l dC dI mq g gl rf H.size hct0 hct6) (cwV 0 htw (xg_V (ck_28 _ (List.mem_of_getElem? (i := 5) rfl)) (ck_28 _ (List.mem_of_getElem? (i := 6) rfl)) (ck_28 _ (List.mem_of_getElem? (i := 7) rfl)) (ck_1 _ (List.mem_of_getElem? (i := 5) rfl)) (ck_28 _ (List.mem_of_getElem? (i := 8) rfl))) rfl rfl rfl (by exact ⟨rfl, hdc_14.1, hdc_14.2, hdd_32⟩) ⟨Nat.le_of_ble_eq_true rfl, Nat.le_of_ble_eq_true rfl⟩) ⟨fun a U g mk q => by obtain ⟨q0, q1, qP, qK, qD⟩ := q; exact ⟨q0, q1, qP, va_K.moved (u := U) (U := U.calling g mk a) (Vm.Alike.refl U.vm) qK, qD⟩, va_recv hKc hPc (ci := 12) (q0 := 0) rfl rfl, fun U hU hW => ⟨rfl, by rw [hU], by rw [hU]; exact hPc, va_K.moved hW.alike hKc, hDc.weaken (fun _ _ _ _ => trivial)⟩⟩ rfl rfl hl.1 rfl (lv_room (Nat.le_of_ble_eq_true rfl)) dX12_leafRead_130 ⟨Nat.le_of_ble_eq_true rfl, Nat.le_of_ble_eq_true rfl⟩) hS (fun q _ h => hFc q h) hFc (fun r_175 u_176 t H1 locs ht hvm hw hB hz1 hk1 hS => ?_)
              try dsimp only at hw
              obtain ⟨hP1, hK1, hD1⟩ := hB
              rw [ht] at hP1
              have hK1 := va_K.moved hvm.symm hK1
              have hK1 : va_K (dC, dI) vwCl [] s := hK1
              obtain ⟨hP, hD⟩ := va_join (wr := [(eA0 (rf 0) (ck 0) 900 f_tape), (eA0 (rf 3) (ck 3) 118 f_words), (eA0 (rf 41) (ck 41) 128 f_knot), (eA0 (rf 42) (ck 42) 128 f_part), (eA0 (rf 43) (ck 43) 128 f_other), (eA0 (rf 45) (ck 45) 96 f_wait), (eA0 (rf 46) (ck 46) 96 f_held)]) (w1 := [(mq, .inr (12, mF (upd (upd (upd g 4 u_176.2.1) 5 u_176.2.2) 50 u_176.1) gl rf))]) hP hD [0] [1, 2, 3, 4, 5, 6, 7] hCc rfl (by decide) (by decide) hk1 hFc hP1 hD1
              generalize H1 = H at hP hS ⊢
              have hP : va_P (dC, dI) vwCl [(eA0 (rf 0) (ck 0) 900 f_tape), (eA0 (rf 3) (ck 3) 118 f_words), (eA0 (rf 41) (ck 41) 128 f_knot), (eA0 (rf 42) (ck 42) 128 f_part), (eA0 (rf 43) (ck 43) 128 f_other), (eA0 (rf 45) (ck 45) 96 f_wait), (eA0 (rf 46) (ck 46) 96 f_held), (mq, .inr (12, mF (upd (upd (upd g 4 u_176.2.1) 5 u_176.2.2) 50 u_176.1) gl rf))] H := hP
              have hD : va_D A [(eA0 (rf 0) (ck 0) 900 f_tape), (eA0 (rf 3) (ck 3) 118 f_words), (eA0 (rf 41) (ck 41) 128 f_knot), (eA0 (rf 42) (ck 42) 128 f_part), (eA0 (rf 43) (ck 43) 128 f_other), (eA0 (rf 45) (ck 45) 96 f_wait), (eA0 (rf 46) (ck 46) 96 f_held), (mq, .inr (12, mF (upd (upd (upd g 4 u_176.2.1) 5 u_176.2.2) 50 u_176.1) gl rf))] := hD
              refine W.widen (k := 0) (n := 0) (by omega) (by omega) ?_
              obtain ⟨hw, hb_r_175, hp_180, hp_181, hp_182⟩ := hw
              obtain ⟨X_183, hX_183⟩ : ∃ X9 : Int32 × (Int32) × (Int32) × (Int32), X9 = (fq_isCounted (g 4) (g 5) (g 10) (g 50)) := ⟨_, rfl⟩
              have hq_r_175 : r_175 = X_183.1 := by rw [hX_183]; exact hw.1
              have hq_u_176 : u_176 = X_183.2 := by rw [hX_183]; exact hw.2
              refine lv_if_ne (tgt := 138) hx hb dX12_leafRead_133 (by decide) (fun c_184 => ?_) (fun c_184 => ?_)
              · refine lv_aload_n hx hb dX12_leafRead_138 rfl (lv_at hl 1 rfl) ?_
                refine lv_iload_n hx hb dX12_leafRead_139 rfl (lv_at hl 0 rfl) ?_
                refine lv_if_lt (tgt := 147) hx hb dX12_leafRead_140 (by decide) (fun c_185 => ?_) (fun c_185 => ?_)
                · refine lv_iconst (v := 0) hx hb dX12_leafRead_147 (by decide) ?_
                  refine lv_iload_n hx hb dX12_leafRead_148 rfl (lv_at hl 0 rfl) ?_
                  refine lv_if_lt (tgt := 156) hx hb dX12_leafRead_149 (by decide) (fun c_186 => ?_) (fun c_186 => absurd c_186 (fun h9 => h9 c_185))
                  refine lv_aload_n hx hb dX12_leafRead_156 rfl (lv_at hl 1 rfl) ?_
                  refine va_get (D := (dC, dI)) (ci := 12) (v := .int (g 9)) (C := RX12) (T := TX12) (N := 76) hx hb htw inlX12 hown hK hP 7 rfl rfl 9 (by decide) (htw _ (ck_24 _ (List.mem_of_getElem? (i := 19) rfl))) (fun _ h9 => h9) rfl dX12_leafRead_157 ?_
                  refine lv_iconst (v := 0) hx hb dX12_leafRead_160 (by decide) ?_
                  obtain ⟨hPc, hDc, hFc, hCc⟩ := zsub3 (ws' := [(mq, .inr (12, mF (upd (upd (upd g 4 u_176.2.1) 5 u_176.2.2) 50 u_176.1) gl rf)), (eA0 (rf 41) (ck 41) 128 f_knot), (eA0 (rf 42) (ck 42) 128 f_part), (eA0 (rf 43) (ck 43) 128 f_other), (eA0 (rf 46) (ck 46) 96 f_held)]) hP hD hS hA [7, 2, 3, 4, 6] (by decide) rfl
                  have hKc := hK.sub (tys' := [((ck 41), .int), ((ck 42), .int), ((ck 43), .int), ((ck 46), .int)]) [2, 3, 4, 6] rfl
                  refine va_callv (va_runV (As := [.int 0, .int (g 9), .int 0]) (rest := []) ⟨hx, hb, hml, hown, htw⟩ (gq_grown l dC dI mq (upd (upd (upd g 4 u_176.2.1) 5 u_176.2.2) 50 u_176.1) gl rf ck f_knot f_part f_other f_held (0 : Int32) (g 9) (0 : Int32) H.size hk0 (gq_leafRead_s61 (y0 := g 23) (y1 := u_176.1) (y2 := g 50) (y3 := g 49) (y4 := g 47) (hp_180.resolve_left c_184) hwl_0.2 hw0_0 hp_182 hk6 hwt7 hk0 hLI hct6 hbr0) hwh_0.1 (gq_leafRead_s62 (y0 := g 48) (y1 := g 47) hwh_0.2 hwt7)) (cwV 3 htw (xg_V (ck_28 _ (List.mem_of_getElem? (i := 13) rfl)) (ck_28 _ (List.mem_of_getElem? (i := 14) rfl)) (ck_28 _ (List.mem_of_getElem? (i := 15) rfl)) (ck_1 _ (List.mem_of_getElem? (i := 5) rfl)) (ck_28 _ (List.mem_of_getElem? (i := 16) rfl))) rfl rfl rfl (by exact ⟨rfl, hdc_14.1, hdc_14.2, hdd_50⟩) ⟨Nat.le_of_ble_eq_true rfl, Nat.le_of_ble_eq_true rfl⟩) ⟨fun a U g mk q => by obtain ⟨q0, q1, qP, qK, qD⟩ := q; exact ⟨q0, q1, qP, va_K.moved (u := U) (U := U.calling g mk a) (Vm.Alike.refl U.vm) qK, qD⟩, va_recv hKc hPc (ci := 12) (q0 := 0) rfl rfl, fun U hU hW => ⟨rfl, by rw [hU], by rw [hU]; exact hPc, va_K.moved hW.alike hKc, hDc.weaken (fun _ _ _ _ => trivial)⟩⟩ rfl rfl hl.1 rfl (lv_room (Nat.le_of_ble_eq_true rfl)) dX12_leafRead_161 ⟨Nat.le_of_ble_eq_true rfl, Nat.le_of_ble_eq_true rfl⟩) hS (fun q _ h => hFc q h) hFc (fun u_188 t H1 locs ht hvm hw hB hz1 hk1 hS => ?_)
                  try dsimp only at hw
                  obtain ⟨hP1, hK1, hD1⟩ := hB
                  rw [ht] at hP1
                  have hK1 := va_K.moved hvm.symm hK1
                  have hK1 : va_K (dC, dI) vwCl [] s := hK1
                  obtain ⟨hP, hD⟩ := va_join (wr := [(eA0 (rf 0) (ck 0) 900 f_tape), (eA0 (rf 3) (ck 3) 118 f_words), (eA0 (rf 45) (ck 45) 96 f_wait)]) (w1 := [(mq, .inr (12, mF (upd (upd (upd (upd (upd g 4 u_176.2.1) 5 u_176.2.2) 23 u_188.1) 48 u_188.2.1) 50 u_176.1) gl rf)), (eA0 (rf 41) (ck 41) 128 u_188.2.2.1), (eA0 (rf 42) (ck 42) 128 u_188.2.2.2.1), (eA0 (rf 43) (ck 43) 128 u_188.2.2.2.2.1), (eA0 (rf 46) (ck 46) 96 u_188.2.2.2.2.2)]) hP hD [7, 2, 3, 4, 6] [0, 1, 5] hCc rfl (by decide) (by decide) hk1 hFc hP1 hD1
                  generalize H1 = H at hP hS ⊢
                  have hP : va_P (dC, dI) vwCl [(eA0 (rf 0) (ck 0) 900 f_tape), (eA0 (rf 3) (ck 3) 118 f_words), (eA0 (rf 45) (ck 45) 96 f_wait), (mq, .inr (12, mF (upd (upd (upd (upd (upd g 4 u_176.2.1) 5 u_176.2.2) 23 u_188.1) 48 u_188.2.1) 50 u_176.1) gl rf)), (eA0 (rf 41) (ck 41) 128 u_188.2.2.1), (eA0 (rf 42) (ck 42) 128 u_188.2.2.2.1), (eA0 (rf 43) (ck 43) 128 u_188.2.2.2.2.1), (eA0 (rf 46) (ck 46) 96 u_188.2.2.2.2.2)] H := hP
                  have hD : va_D A [(eA0 (rf 0) (ck 0) 900 f_tape), (eA0 (rf 3) (ck 3) 118 f_words), (eA0 (rf 45) (ck 45) 96 f_wait), (mq, .inr (12, mF (upd (upd (upd (upd (upd g 4 u_176.2.1) 5 u_176.2.2) 23 u_188.1) 48 u_188.2.1) 50 u_176.1) gl rf)), (eA0 (rf 41) (ck 41) 128 u_188.2.2.1), (eA0 (rf 42) (ck 42) 128 u_188.2.2.2.1), (eA0 (rf 43) (ck 43) 128 u_188.2.2.2.2.1), (eA0 (rf 46) (ck 46) 96 u_188.2.2.2.2.2)] := hD
                  refine W.widen (k := 0) (n := 0) (by omega) (by omega) ?_
                  have hq_u_188 : u_188 = (fq_grown f_knot f_part f_other f_held (0 : Int32) (g 9) (0 : Int32) (g 23) (g 48)) := hw
                  obtain ⟨hW_g, hH_n, hK_n, hkr_n⟩ := xgrown_leaf hW1 hH hKu (gq_leafRead_s63 (y0 := g 48) (y1 := g 23) (y2 := u_176.1) (y3 := g 50) (y4 := g 49) (y5 := g 47) (hp_180.resolve_left c_184) hwl_0.2 hw0_0 hwh_0.1 hwh_0.2 hp_182 hk6 hwt7 hk0 hLI hct6 hbr0).1 (gq_leafRead_s63 (y0 := g 48) (y1 := g 23) (y2 := u_176.1) (y3 := g 50) (y4 := g 49) (y5 := g 47) (hp_180.resolve_left c_184) hwl_0.2 hw0_0 hwh_0.1 hwh_0.2 hp_182 hk6 hwt7 hk0 hLI hct6 hbr0).2.1 (gq_leafRead_s63 (y0 := g 48) (y1 := g 23) (y2 := u_176.1) (y3 := g 50) (y4 := g 49) (y5 := g 47) (hp_180.resolve_left c_184) hwl_0.2 hw0_0 hwh_0.1 hwh_0.2 hp_182 hk6 hwt7 hk0 hLI hct6 hbr0).2.2.1 (gq_leafRead_s63 (y0 := g 48) (y1 := g 23) (y2 := u_176.1) (y3 := g 50) (y4 := g 49) (y5 := g 47) (hp_180.resolve_left c_184) hwl_0.2 hw0_0 hwh_0.1 hwh_0.2 hp_182 hk6 hwt7 hk0 hLI hct6 hbr0).2.2.2 (Or.inl rfl) hq_u_188
                  refine lv_aload_n hx hb dX12_leafRead_164 rfl (lv_at hl 1 rfl) ?_
                  refine lv_iconst (v := 0) hx hb dX12_leafRead_165 (by decide) ?_
                  refine va_put (D := (dC, dI)) (ci := 12) (v := .int 0) (ty := tyX12 51) (C := RX12) (T := TX12) (N := 76) hx hb htw inlX12 tyX12 tyX12_ok nmX12 hown hK hP hD hS 3 rfl rfl 51 (by decide) (htw _ (ck_27 _ (List.mem_of_getElem? (i := 19) rfl))) (fun _ h9 => h9) rfl (tyX12_ok 51 (by decide)) rfl rfl (Nat.le_of_ble_eq_true rfl) dX12_leafRead_166 (fun H locs hP hD hS => ?_)
                  have hP : va_P (dC, dI) vwCl [(eA0 (rf 0) (ck 0) 900 f_tape), (eA0 (rf 3) (ck 3) 118 f_words), (eA0 (rf 45) (ck 45) 96 f_wait), (mq, .inr (12, mF (upd (upd (upd (upd (upd (upd g 4 u_176.2.1) 5 u_176.2.2) 23 u_188.1) 48 u_188.2.1) 50 u_176.1) 51 0) gl rf)), (eA0 (rf 41) (ck 41) 128 u_188.2.2.1), (eA0 (rf 42) (ck 42) 128 u_188.2.2.2.1), (eA0 (rf 43) (ck 43) 128 u_188.2.2.2.2.1), (eA0 (rf 46) (ck 46) 96 u_188.2.2.2.2.2)] H := hP
                  have hD : va_D A [(eA0 (rf 0) (ck 0) 900 f_tape), (eA0 (rf 3) (ck 3) 118 f_words), (eA0 (rf 45) (ck 45) 96 f_wait), (mq, .inr (12, mF (upd (upd (upd (upd (upd (upd g 4 u_176.2.1) 5 u_176.2.2) 23 u_188.1) 48 u_188.2.1) 50 u_176.1) 51 0) gl rf)), (eA0 (rf 41) (ck 41) 128 u_188.2.2.1), (eA0 (rf 42) (ck 42) 128 u_188.2.2.2.1), (eA0 (rf 43) (ck 43) 128 u_188.2.2.2.2.1), (eA0 (rf 46) (ck 46) 96 u_188.2.2.2.2.2)] := hD
                  refine lv_aload_n hx hb dX12_leafRead_169 rfl (lv_at hl 1 rfl) ?_
                  obtain ⟨hPc, hDc, hFc, hCc⟩ := zsub3 (ws' := [(mq, .inr (12, mF (upd (upd (upd (upd (upd (upd g 4 u_176.2.1) 5 u_176.2.2) 23 u_188.1) 48 u_188.2.1) 50 u_176.1) 51 0) gl rf)), (eA0 (rf 0) (ck 0) 900 f_tape), (eA0 (rf 3) (ck 3) 118 f_words)]) hP hD hS hA [3, 0, 1] (by decide) rfl
                  have hKc := hK.sub (tys' := [((ck 0), .int), ((ck 3), .int)]) [0, 1] rfl
                  refine va_callv (va_runV (As := []) (rest := []) ⟨hx, hb, hml, hown, htw⟩ (gy_token l dC dI mq (upd (upd (upd (upd (upd (upd g 4 u_176.2.1) 5 u_176.2.2) 23 u_188.1) 48 u_188.2.1) 50 u_176.1) 51 0) gl rf ck f_tape f_words H.size h0n hns hs9 hw7) (cwV 0 htw (xg_V (ck_24 _ (List.mem_of_getElem? (i := 14) rfl)) (ck_24 _ (List.mem_of_getElem? (i := 15) rfl)) (ck_24 _ (List.mem_of_getElem? (i := 16) rfl)) (ck_1 _ (List.mem_of_getElem? (i := 5) rfl)) (ck_24 _ (List.mem_of_getElem? (i := 17) rfl))) rfl rfl rfl (by exact ⟨rfl, hdc_14.1, hdc_14.2, hdd_13⟩) ⟨Nat.le_of_ble_eq_true rfl, Nat.le_of_ble_eq_true rfl⟩) ⟨fun a U g mk q => by obtain ⟨q0, q1, qP, qK, qD⟩ := q; exact ⟨q0, q1, qP, va_K.moved (u := U) (U := U.calling g mk a) (Vm.Alike.refl U.vm) qK, qD⟩, va_recv hKc hPc (ci := 12) (q0 := 0) rfl rfl, fun U hU hW => ⟨rfl, by rw [hU], by rw [hU]; exact hPc, va_K.moved hW.alike hKc, hDc.weaken (fun _ _ _ _ => trivial)⟩⟩ rfl rfl hl.1 rfl (lv_room (Nat.le_of_ble_eq_true rfl)) dX12_leafRead_170 ⟨Nat.le_of_ble_eq_true rfl, Nat.le_of_ble_eq_true rfl⟩) hS (fun q _ h => hFc q h) hFc (fun u_196 t H1 locs ht hvm hw hB hz1 hk1 hS => ?_)
                  try dsimp only at hw
                  obtain ⟨hP1, hK1, hD1⟩ := hB
                  rw [ht] at hP1
                  have hK1 := va_K.moved hvm.symm hK1
                  have hK1 : va_K (dC, dI) vwCl [] s := hK1
                  obtain ⟨hP, hD⟩ := va_join (wr := [(eA0 (rf 45) (ck 45) 96 f_wait), (eA0 (rf 41) (ck 41) 128 u_188.2.2.1), (eA0 (rf 42) (ck 42) 128 u_188.2.2.2.1), (eA0 (rf 43) (ck 43) 128 u_188.2.2.2.2.1), (eA0 (rf 46) (ck 46) 96 u_188.2.2.2.2.2)]) (w1 := [(mq, .inr (12, mF (upd (upd (upd (upd (upd (upd (upd (upd (upd (upd g 4 u_176.2.1) 5 u_176.2.2) 7 u_196.1) 8 u_196.2.1) 9 u_196.2.2.1) 10 u_196.2.2.2) 23 u_188.1) 48 u_188.2.1) 50 u_176.1) 51 0) gl rf)), (eA0 (rf 0) (ck 0) 900 f_tape), (eA0 (rf 3) (ck 3) 118 f_words)]) hP hD [3, 0, 1] [2, 4, 5, 6, 7] hCc rfl (by decide) (by decide) hk1 hFc hP1 hD1
                  generalize H1 = H at hP hS ⊢
                  have hP : va_P (dC, dI) vwCl [(eA0 (rf 45) (ck 45) 96 f_wait), (eA0 (rf 41) (ck 41) 128 u_188.2.2.1), (eA0 (rf 42) (ck 42) 128 u_188.2.2.2.1), (eA0 (rf 43) (ck 43) 128 u_188.2.2.2.2.1), (eA0 (rf 46) (ck 46) 96 u_188.2.2.2.2.2), (mq, .inr (12, mF (upd (upd (upd (upd (upd (upd (upd (upd (upd (upd g 4 u_176.2.1) 5 u_176.2.2) 7 u_196.1) 8 u_196.2.1) 9 u_196.2.2.1) 10 u_196.2.2.2) 23 u_188.1) 48 u_188.2.1) 50 u_176.1) 51 0) gl rf)), (eA0 (rf 0) (ck 0) 900 f_tape), (eA0 (rf 3) (ck 3) 118 f_words)] H := hP
                  have hD : va_D A [(eA0 (rf 45) (ck 45) 96 f_wait), (eA0 (rf 41) (ck 41) 128 u_188.2.2.1), (eA0 (rf 42) (ck 42) 128 u_188.2.2.2.1), (eA0 (rf 43) (ck 43) 128 u_188.2.2.2.2.1), (eA0 (rf 46) (ck 46) 96 u_188.2.2.2.2.2), (mq, .inr (12, mF (upd (upd (upd (upd (upd (upd (upd (upd (upd (upd g 4 u_176.2.1) 5 u_176.2.2) 7 u_196.1) 8 u_196.2.1) 9 u_196.2.2.1) 10 u_196.2.2.2) 23 u_188.1) 48 u_188.2.1) 50 u_176.1) 51 0) gl rf)), (eA0 (rf 0) (ck 0) 900 f_tape), (eA0 (rf 3) (ck 3) 118 f_words)] := hD
                  refine W.widen (k := 0) (n := 0) (by omega) (by omega) ?_
                  obtain ⟨hw, hp_201, hp_202, hp_203⟩ := hw
                  have hq_u_196 : u_196 = (fq_token f_tape f_words (g 6) (g 7) (g 9)) := hw
                  refine lv_iconst (v := 1) hx hb dX12_leafRead_173 (by decide) ?_
                  refine W.widen (k := 0) (n := 0) (by omega) (by omega) ?_
                  obtain ⟨hP9, hD9⟩ := zsub2 (ws' := [(mq, .inr (12, mF (upd (upd (upd (upd (upd (upd (upd (upd (upd (upd g 4 u_176.2.1) 5 u_176.2.2) 7 u_196.1) 8 u_196.2.1) 9 u_196.2.2.1) 10 u_196.2.2.2) 23 u_188.1) 48 u_188.2.1) 50 u_176.1) 51 0) gl rf)), (eA0 (rf 0) (ck 0) 900 f_tape), (eA0 (rf 3) (ck 3) 118 f_words), (eA0 (rf 41) (ck 41) 128 u_188.2.2.1), (eA0 (rf 42) (ck 42) 128 u_188.2.2.2.1), (eA0 (rf 43) (ck 43) 128 u_188.2.2.2.2.1), (eA0 (rf 45) (ck 45) 96 f_wait), (eA0 (rf 46) (ck 46) 96 u_188.2.2.2.2.2)]) hP hD [5, 6, 7, 1, 2, 3, 0, 4] (by decide +kernel) rfl
                  have hK9 := hK.sub (tys' := []) [] rfl
                  exact W.zret (v := 1) hx hb hr (by first | rfl | decide) (fun t ht hW => ⟨⟨1, (u_188.2.2.1, u_188.2.2.2.1, u_188.2.2.2.2.1, u_188.2.2.2.2.2, u_176.2.1, u_176.2.2, u_196.1, u_196.2.1, u_196.2.2.1, u_196.2.2.2, u_188.1, u_188.2.1, u_176.1, 0, f_wait, (g 47), (g 49), (g 52)), rfl, ⟨((fun e9 => ⟨by rw [e9], by rw [e9]⟩ : fq_leafRead f_tape f_words f_knot f_part f_other f_wait f_held (g 4) (g 5) (g 6) (g 7) (g 8) (g 9) (g 10) (g 23) (g 47) (g 48) (g 49) (g 50) (g 51) (g 52) = ((1 : Int32), u_188.2.2.1, u_188.2.2.2.1, u_188.2.2.2.2.1, u_188.2.2.2.2.2, u_176.2.1, u_176.2.2, u_196.1, u_196.2.1, u_196.2.2.1, u_196.2.2.2, u_188.1, u_188.2.1, u_176.1, (0 : Int32), f_wait, (g 47), (g 49), (g 52)) → _) ((by rw [fq_leafRead]; (try rw [← hq_r_1]); (try rw [xL_eq]); (try rw [if_pos c_2]); (try rw [← hq_r_3]); (try rw [xL_eq]); (try rw [if_neg c_4]); (try rw [if_pos c_119]); (try rw [← hq_r_120]); (try rw [xL_eq]); (try rw [if_neg c_123]); (try rw [if_pos c_172]); (try rw [if_pos c_174]); (try rw [← hX_183]); (try rw [xL_eq]); (try rw [← hq_r_175]); (try rw [← hq_u_176]); (try rw [if_neg c_184]); (try rw [if_pos c_185]); (try rw [← hq_u_188]); (try rw [xL_eq]); (try rw [← hq_u_196]); (try rw [xL_eq]); try rfl))), Or.inr rfl, hp_201, hp_202, (Or.inr (gq_leafRead_s64 (y0 := u_188.1) (y1 := u_176.1) (y2 := g 50) (y3 := g 49) (y4 := g 47) (y5 := g 23) (hp_180.resolve_left c_184) hwl_0.2 hw0_0 hp_182 hkr_n hk6 hwt7 hk0 hLI hct6 hbr0)), (Or.inr hwt7), hK_n, (Or.inr (gq_leafRead_s65 (y0 := u_188.1) (y1 := g 23) hkr_n hk6 hk0)), (Or.inr (gq_leafRead_s66 (y0 := u_188.1) (y1 := g 47) (y2 := g 49) (y3 := u_176.1) (y4 := g 50) (y5 := g 23) (hp_180.resolve_left c_184) hwl_0.2 hw0_0 hkr_n hk6 hwt7 hk0 hLI hct6 hbr0)), hp_181, hp_182, (Or.inr hwl_0.1), (Or.inr hbr8), (Or.inr (gq_leafRead_s67 )), (Or.inr (gq_leafRead_s68 )), (Or.inr (gq_leafRead_s69 (y0 := u_188.1) (y1 := g 23) hkr_n hk6 hk0)), (Or.inr (gq_leafRead_s70 (y0 := g 23) (y1 := u_188.1) hkr_n hk6)), (Or.inr ⟨hW_g, hH_n, hp_203, (xm_cnt (hp_180.resolve_left c_184) hct0 hct6 hbr0 hbr8 hbr0 hbr8)⟩)⟩, by rw [ht]; exact hP9, va_K.moved hW.alike hK9, hD9⟩, hS.F ht⟩) hS.2.2 dX12_leafRead_174
                · refine lv_iconst (v := 1) hx hb dX12_leafRead_143 (by decide) ?_
                  refine lv_goto (tgt := 148) hx hb dX12_leafRead_144 (by decide) ?_
                  refine lv_iload_n hx hb dX12_leafRead_148 rfl (lv_at hl 0 rfl) ?_
                  refine lv_if_lt (tgt := 156) hx hb dX12_leafRead_149 (by decide) (fun c_204 => absurd c_204 (c_185)) (fun c_204 => ?_)
                  refine lv_iload_n hx hb dX12_leafRead_152 rfl (lv_at hl 0 rfl) ?_
                  refine lv_goto (tgt := 160) hx hb dX12_leafRead_153 (by decide) ?_
                  refine lv_iconst (v := 0) hx hb dX12_leafRead_160 (by decide) ?_
                  obtain ⟨hPc, hDc, hFc, hCc⟩ := zsub3 (ws' := [(mq, .inr (12, mF (upd (upd (upd g 4 u_176.2.1) 5 u_176.2.2) 50 u_176.1) gl rf)), (eA0 (rf 41) (ck 41) 128 f_knot), (eA0 (rf 42) (ck 42) 128 f_part), (eA0 (rf 43) (ck 43) 128 f_other), (eA0 (rf 46) (ck 46) 96 f_held)]) hP hD hS hA [7, 2, 3, 4, 6] (by decide) rfl
                  have hKc := hK.sub (tys' := [((ck 41), .int), ((ck 42), .int), ((ck 43), .int), ((ck 46), .int)]) [2, 3, 4, 6] rfl
                  refine va_callv (va_runV (As := [.int 1, .int r_120, .int 0]) (rest := []) ⟨hx, hb, hml, hown, htw⟩ (gq_grown l dC dI mq (upd (upd (upd g 4 u_176.2.1) 5 u_176.2.2) 50 u_176.1) gl rf ck f_knot f_part f_other f_held (1 : Int32) r_120 (0 : Int32) H.size hk0 (gq_leafRead_s71 (y0 := g 23) (y1 := u_176.1) (y2 := g 50) (y3 := g 49) (y4 := g 47) (hp_180.resolve_left c_184) hwl_0.2 hw0_0 hp_182 hk6 hwt7 hk0 hLI hct6 hbr0) hwh_0.1 (gq_leafRead_s72 (y0 := g 48) (y1 := g 47) hwh_0.2 hwt7)) (cwV 3 htw (xg_V (ck_28 _ (List.mem_of_getElem? (i := 13) rfl)) (ck_28 _ (List.mem_of_getElem? (i := 14) rfl)) (ck_28 _ (List.mem_of_getElem? (i := 15) rfl)) (ck_1 _ (List.mem_of_getElem? (i := 5) rfl)) (ck_28 _ (List.mem_of_getElem? (i := 16) rfl))) rfl rfl rfl (by exact ⟨rfl, hdc_14.1, hdc_14.2, hdd_50⟩) ⟨Nat.le_of_ble_eq_true rfl, Nat.le_of_ble_eq_true rfl⟩) ⟨fun a U g mk q => by obtain ⟨q0, q1, qP, qK, qD⟩ := q; exact ⟨q0, q1, qP, va_K.moved (u := U) (U := U.calling g mk a) (Vm.Alike.refl U.vm) qK, qD⟩, va_recv hKc hPc (ci := 12) (q0 := 0) rfl rfl, fun U hU hW => ⟨rfl, by rw [hU], by rw [hU]; exact hPc, va_K.moved hW.alike hKc, hDc.weaken (fun _ _ _ _ => trivial)⟩⟩ rfl rfl hl.1 rfl (lv_room (Nat.le_of_ble_eq_true rfl)) dX12_leafRead_161 ⟨Nat.le_of_ble_eq_true rfl, Nat.le_of_ble_eq_true rfl⟩) hS (fun q _ h => hFc q h) hFc (fun u_206 t H1 locs ht hvm hw hB hz1 hk1 hS => ?_)
                  try dsimp only at hw
                  obtain ⟨hP1, hK1, hD1⟩ := hB
                  rw [ht] at hP1
                  have hK1 := va_K.moved hvm.symm hK1
                  have hK1 : va_K (dC, dI) vwCl [] s := hK1
                  obtain ⟨hP, hD⟩ := va_join (wr := [(eA0 (rf 0) (ck 0) 900 f_tape), (eA0 (rf 3) (ck 3) 118 f_words), (eA0 (rf 45) (ck 45) 96 f_wait)]) (w1 := [(mq, .inr (12, mF (upd (upd (upd (upd (upd g 4 u_176.2.1) 5 u_176.2.2) 23 u_206.1) 48 u_206.2.1) 50 u_176.1) gl rf)), (eA0 (rf 41) (ck 41) 128 u_206.2.2.1), (eA0 (rf 42) (ck 42) 128 u_206.2.2.2.1), (eA0 (rf 43) (ck 43) 128 u_206.2.2.2.2.1), (eA0 (rf 46) (ck 46) 96 u_206.2.2.2.2.2)]) hP hD [7, 2, 3, 4, 6] [0, 1, 5] hCc rfl (by decide) (by decide) hk1 hFc hP1 hD1
                  generalize H1 = H at hP hS ⊢
                  have hP : va_P (dC, dI) vwCl [(eA0 (rf 0) (ck 0) 900 f_tape), (eA0 (rf 3) (ck 3) 118 f_words), (eA0 (rf 45) (ck 45) 96 f_wait), (mq, .inr (12, mF (upd (upd (upd (upd (upd g 4 u_176.2.1) 5 u_176.2.2) 23 u_206.1) 48 u_206.2.1) 50 u_176.1) gl rf)), (eA0 (rf 41) (ck 41) 128 u_206.2.2.1), (eA0 (rf 42) (ck 42) 128 u_206.2.2.2.1), (eA0 (rf 43) (ck 43) 128 u_206.2.2.2.2.1), (eA0 (rf 46) (ck 46) 96 u_206.2.2.2.2.2)] H := hP
                  have hD : va_D A [(eA0 (rf 0) (ck 0) 900 f_tape), (eA0 (rf 3) (ck 3) 118 f_words), (eA0 (rf 45) (ck 45) 96 f_wait), (mq, .inr (12, mF (upd (upd (upd (upd (upd g 4 u_176.2.1) 5 u_176.2.2) 23 u_206.1) 48 u_206.2.1) 50 u_176.1) gl rf)), (eA0 (rf 41) (ck 41) 128 u_206.2.2.1), (eA0 (rf 42) (ck 42) 128 u_206.2.2.2.1), (eA0 (rf 43) (ck 43) 128 u_206.2.2.2.2.1), (eA0 (rf 46) (ck 46) 96 u_206.2.2.2.2.2)] := hD
                  refine W.widen (k := 0) (n := 0) (by omega) (by omega) ?_
                  have hq_u_206 : u_206 = (fq_grown f_knot f_part f_other f_held (1 : Int32) r_120 (0 : Int32) (g 23) (g 48)) := hw
                  obtain ⟨hW_g, hH_n, hK_n, hkr_n⟩ := xgrown_leaf hW1 hH hKu (gq_leafRead_s73 (y0 := g 48) (y1 := g 23) (y2 := u_176.1) (y3 := g 50) (y4 := g 49) (y5 := g 47) (hp_180.resolve_left c_184) hwl_0.2 hw0_0 hwh_0.1 hwh_0.2 hp_182 hk6 hwt7 hk0 hLI hct6 hbr0).1 (gq_leafRead_s73 (y0 := g 48) (y1 := g 23) (y2 := u_176.1) (y3 := g 50) (y4 := g 49) (y5 := g 47) (hp_180.resolve_left c_184) hwl_0.2 hw0_0 hwh_0.1 hwh_0.2 hp_182 hk6 hwt7 hk0 hLI hct6 hbr0).2.1 (gq_leafRead_s73 (y0 := g 48) (y1 := g 23) (y2 := u_176.1) (y3 := g 50) (y4 := g 49) (y5 := g 47) (hp_180.resolve_left c_184) hwl_0.2 hw0_0 hwh_0.1 hwh_0.2 hp_182 hk6 hwt7 hk0 hLI hct6 hbr0).2.2.1 (gq_leafRead_s73 (y0 := g 48) (y1 := g 23) (y2 := u_176.1) (y3 := g 50) (y4 := g 49) (y5 := g 47) (hp_180.resolve_left c_184) hwl_0.2 hw0_0 hwh_0.1 hwh_0.2 hp_182 hk6 hwt7 hk0 hLI hct6 hbr0).2.2.2 (Or.inr ⟨rfl, xg_inr (N := 6) rfl (And.intro c_185 hp_121).1 (Int32.not_le.mpr (And.intro c_185 hp_121).2)⟩) hq_u_206
                  refine lv_aload_n hx hb dX12_leafRead_164 rfl (lv_at hl 1 rfl) ?_
                  refine lv_iconst (v := 0) hx hb dX12_leafRead_165 (by decide) ?_
                  refine va_put (D := (dC, dI)) (ci := 12) (v := .int 0) (ty := tyX12 51) (C := RX12) (T := TX12) (N := 76) hx hb htw inlX12 tyX12 tyX12_ok nmX12 hown hK hP hD hS 3 rfl rfl 51 (by decide) (htw _ (ck_27 _ (List.mem_of_getElem? (i := 19) rfl))) (fun _ h9 => h9) rfl (tyX12_ok 51 (by decide)) rfl rfl (Nat.le_of_ble_eq_true rfl) dX12_leafRead_166 (fun H locs hP hD hS => ?_)
                  have hP : va_P (dC, dI) vwCl [(eA0 (rf 0) (ck 0) 900 f_tape), (eA0 (rf 3) (ck 3) 118 f_words), (eA0 (rf 45) (ck 45) 96 f_wait), (mq, .inr (12, mF (upd (upd (upd (upd (upd (upd g 4 u_176.2.1) 5 u_176.2.2) 23 u_206.1) 48 u_206.2.1) 50 u_176.1) 51 0) gl rf)), (eA0 (rf 41) (ck 41) 128 u_206.2.2.1), (eA0 (rf 42) (ck 42) 128 u_206.2.2.2.1), (eA0 (rf 43) (ck 43) 128 u_206.2.2.2.2.1), (eA0 (rf 46) (ck 46) 96 u_206.2.2.2.2.2)] H := hP
                  have hD : va_D A [(eA0 (rf 0) (ck 0) 900 f_tape), (eA0 (rf 3) (ck 3) 118 f_words), (eA0 (rf 45) (ck 45) 96 f_wait), (mq, .inr (12, mF (upd (upd (upd (upd (upd (upd g 4 u_176.2.1) 5 u_176.2.2) 23 u_206.1) 48 u_206.2.1) 50 u_176.1) 51 0) gl rf)), (eA0 (rf 41) (ck 41) 128 u_206.2.2.1), (eA0 (rf 42) (ck 42) 128 u_206.2.2.2.1), (eA0 (rf 43) (ck 43) 128 u_206.2.2.2.2.1), (eA0 (rf 46) (ck 46) 96 u_206.2.2.2.2.2)] := hD
                  refine lv_aload_n hx hb dX12_leafRead_169 rfl (lv_at hl 1 rfl) ?_
                  obtain ⟨hPc, hDc, hFc, hCc⟩ := zsub3 (ws' := [(mq, .inr (12, mF (upd (upd (upd (upd (upd (upd g 4 u_176.2.1) 5 u_176.2.2) 23 u_206.1) 48 u_206.2.1) 50 u_176.1) 51 0) gl rf)), (eA0 (rf 0) (ck 0) 900 f_tape), (eA0 (rf 3) (ck 3) 118 f_words)]) hP hD hS hA [3, 0, 1] (by decide) rfl
                  have hKc := hK.sub (tys' := [((ck 0), .int), ((ck 3), .int)]) [0, 1] rfl
                  refine va_callv (va_runV (As := []) (rest := []) ⟨hx, hb, hml, hown, htw⟩ (gy_token l dC dI mq (upd (upd (upd (upd (upd (upd g 4 u_176.2.1) 5 u_176.2.2) 23 u_206.1) 48 u_206.2.1) 50 u_176.1) 51 0) gl rf ck f_tape f_words H.size h0n hns hs9 hw7) (cwV 0 htw (xg_V (ck_24 _ (List.mem_of_getElem? (i := 14) rfl)) (ck_24 _ (List.mem_of_getElem? (i := 15) rfl)) (ck_24 _ (List.mem_of_getElem? (i := 16) rfl)) (ck_1 _ (List.mem_of_getElem? (i := 5) rfl)) (ck_24 _ (List.mem_of_getElem? (i := 17) rfl))) rfl rfl rfl (by exact ⟨rfl, hdc_14.1, hdc_14.2, hdd_13⟩) ⟨Nat.le_of_ble_eq_true rfl, Nat.le_of_ble_eq_true rfl⟩) ⟨fun a U g mk q => by obtain ⟨q0, q1, qP, qK, qD⟩ := q; exact ⟨q0, q1, qP, va_K.moved (u := U) (U := U.calling g mk a) (Vm.Alike.refl U.vm) qK, qD⟩, va_recv hKc hPc (ci := 12) (q0 := 0) rfl rfl, fun U hU hW => ⟨rfl, by rw [hU], by rw [hU]; exact hPc, va_K.moved hW.alike hKc, hDc.weaken (fun _ _ _ _ => trivial)⟩⟩ rfl rfl hl.1 rfl (lv_room (Nat.le_of_ble_eq_true rfl)) dX12_leafRead_170 ⟨Nat.le_of_ble_eq_true rfl, Nat.le_of_ble_eq_true rfl⟩) hS (fun q _ h => hFc q h) hFc (fun u_214 t H1 locs ht hvm hw hB hz1 hk1 hS => ?_)
                  try dsimp only at hw
                  obtain ⟨hP1, hK1, hD1⟩ := hB
                  rw [ht] at hP1
                  have hK1 := va_K.moved hvm.symm hK1
                  have hK1 : va_K (dC, dI) vwCl [] s := hK1
                  obtain ⟨hP, hD⟩ := va_join (wr := [(eA0 (rf 45) (ck 45) 96 f_wait), (eA0 (rf 41) (ck 41) 128 u_206.2.2.1), (eA0 (rf 42) (ck 42) 128 u_206.2.2.2.1), (eA0 (rf 43) (ck 43) 128 u_206.2.2.2.2.1), (eA0 (rf 46) (ck 46) 96 u_206.2.2.2.2.2)]) (w1 := [(mq, .inr (12, mF (upd (upd (upd (upd (upd (upd (upd (upd (upd (upd g 4 u_176.2.1) 5 u_176.2.2) 7 u_214.1) 8 u_214.2.1) 9 u_214.2.2.1) 10 u_214.2.2.2) 23 u_206.1) 48 u_206.2.1) 50 u_176.1) 51 0) gl rf)), (eA0 (rf 0) (ck 0) 900 f_tape), (eA0 (rf 3) (ck 3) 118 f_words)]) hP hD [3, 0, 1] [2, 4, 5, 6, 7] hCc rfl (by decide) (by decide) hk1 hFc hP1 hD1
                  generalize H1 = H at hP hS ⊢
                  have hP : va_P (dC, dI) vwCl [(eA0 (rf 45) (ck 45) 96 f_wait), (eA0 (rf 41) (ck 41) 128 u_206.2.2.1), (eA0 (rf 42) (ck 42) 128 u_206.2.2.2.1), (eA0 (rf 43) (ck 43) 128 u_206.2.2.2.2.1), (eA0 (rf 46) (ck 46) 96 u_206.2.2.2.2.2), (mq, .inr (12, mF (upd (upd (upd (upd (upd (upd (upd (upd (upd (upd g 4 u_176.2.1) 5 u_176.2.2) 7 u_214.1) 8 u_214.2.1) 9 u_214.2.2.1) 10 u_214.2.2.2) 23 u_206.1) 48 u_206.2.1) 50 u_176.1) 51 0) gl rf)), (eA0 (rf 0) (ck 0) 900 f_tape), (eA0 (rf 3) (ck 3) 118 f_words)] H := hP
                  have hD : va_D A [(eA0 (rf 45) (ck 45) 96 f_wait), (eA0 (rf 41) (ck 41) 128 u_206.2.2.1), (eA0 (rf 42) (ck 42) 128 u_206.2.2.2.1), (eA0 (rf 43) (ck 43) 128 u_206.2.2.2.2.1), (eA0 (rf 46) (ck 46) 96 u_206.2.2.2.2.2), (mq, .inr (12, mF (upd (upd (upd (upd (upd (upd (upd (upd (upd (upd g 4 u_176.2.1) 5 u_176.2.2) 7 u_214.1) 8 u_214.2.1) 9 u_214.2.2.1) 10 u_214.2.2.2) 23 u_206.1) 48 u_206.2.1) 50 u_176.1) 51 0) gl rf)), (eA0 (rf 0) (ck 0) 900 f_tape), (eA0 (rf 3) (ck 3) 118 f_words)] := hD
                  refine W.widen (k := 0) (n := 0) (by omega) (by omega) ?_
                  obtain ⟨hw, hp_219, hp_220, hp_221⟩ := hw
                  have hq_u_214 : u_214 = (fq_token f_tape f_words (g 6) (g 7) (g 9)) := hw
                  refine lv_iconst (v := 1) hx hb dX12_leafRead_173 (by decide) ?_
                  refine W.widen (k := 0) (n := 0) (by omega) (by omega) ?_
                  obtain ⟨hP9, hD9⟩ := zsub2 (ws' := [(mq, .inr (12, mF (upd (upd (upd (upd (upd (upd (upd (upd (upd (upd g 4 u_176.2.1) 5 u_176.2.2) 7 u_214.1) 8 u_214.2.1) 9 u_214.2.2.1) 10 u_214.2.2.2) 23 u_206.1) 48 u_206.2.1) 50 u_176.1) 51 0) gl rf)), (eA0 (rf 0) (ck 0) 900 f_tape), (eA0 (rf 3) (ck 3) 118 f_words), (eA0 (rf 41) (ck 41) 128 u_206.2.2.1), (eA0 (rf 42) (ck 42) 128 u_206.2.2.2.1), (eA0 (rf 43) (ck 43) 128 u_206.2.2.2.2.1), (eA0 (rf 45) (ck 45) 96 f_wait), (eA0 (rf 46) (ck 46) 96 u_206.2.2.2.2.2)]) hP hD [5, 6, 7, 1, 2, 3, 0, 4] (by decide +kernel) rfl
                  have hK9 := hK.sub (tys' := []) [] rfl
                  exact W.zret (v := 1) hx hb hr (by first | rfl | decide) (fun t ht hW => ⟨⟨1, (u_206.2.2.1, u_206.2.2.2.1, u_206.2.2.2.2.1, u_206.2.2.2.2.2, u_176.2.1, u_176.2.2, u_214.1, u_214.2.1, u_214.2.2.1, u_214.2.2.2, u_206.1, u_206.2.1, u_176.1, 0, f_wait, (g 47), (g 49), (g 52)), rfl, ⟨((fun e9 => ⟨by rw [e9], by rw [e9]⟩ : fq_leafRead f_tape f_words f_knot f_part f_other f_wait f_held (g 4) (g 5) (g 6) (g 7) (g 8) (g 9) (g 10) (g 23) (g 47) (g 48) (g 49) (g 50) (g 51) (g 52) = ((1 : Int32), u_206.2.2.1, u_206.2.2.2.1, u_206.2.2.2.2.1, u_206.2.2.2.2.2, u_176.2.1, u_176.2.2, u_214.1, u_214.2.1, u_214.2.2.1, u_214.2.2.2, u_206.1, u_206.2.1, u_176.1, (0 : Int32), f_wait, (g 47), (g 49), (g 52)) → _) ((by rw [fq_leafRead]; (try rw [← hq_r_1]); (try rw [xL_eq]); (try rw [if_pos c_2]); (try rw [← hq_r_3]); (try rw [xL_eq]); (try rw [if_neg c_4]); (try rw [if_pos c_119]); (try rw [← hq_r_120]); (try rw [xL_eq]); (try rw [if_neg c_123]); (try rw [if_pos c_172]); (try rw [if_pos c_174]); (try rw [← hX_183]); (try rw [xL_eq]); (try rw [← hq_r_175]); (try rw [← hq_u_176]); (try rw [if_neg c_184]); (try rw [if_neg c_185]); (try rw [← hq_u_206]); (try rw [xL_eq]); (try rw [← hq_u_214]); (try rw [xL_eq]); try rfl))), Or.inr rfl, hp_219, hp_220, (Or.inr (gq_leafRead_s74 (y0 := u_206.1) (y1 := u_176.1) (y2 := g 50) (y3 := g 49) (y4 := g 47) (y5 := g 23) (hp_180.resolve_left c_184) hwl_0.2 hw0_0 hp_182 hkr_n hk6 hwt7 hk0 hLI hct6 hbr0)), (Or.inr hwt7), hK_n, (Or.inr (gq_leafRead_s75 (y0 := u_206.1) (y1 := g 23) hkr_n hk6 hk0)), (Or.inr (gq_leafRead_s76 (y0 := u_206.1) (y1 := g 47) (y2 := g 49) (y3 := u_176.1) (y4 := g 50) (y5 := g 23) (hp_180.resolve_left c_184) hwl_0.2 hw0_0 hkr_n hk6 hwt7 hk0 hLI hct6 hbr0)), hp_181, hp_182, (Or.inr hwl_0.1), (Or.inr hbr8), (Or.inr (gq_leafRead_s77 )), (Or.inr (gq_leafRead_s78 )), (Or.inr (gq_leafRead_s79 (y0 := u_206.1) (y1 := g 23) hkr_n hk6 hk0)), (Or.inr (gq_leafRead_s80 (y0 := g 23) (y1 := u_206.1) hkr_n hk6)), (Or.inr ⟨hW_g, hH_n, hp_221, (xm_cnt (hp_180.resolve_left c_184) hct0 hct6 hbr0 hbr8 hbr0 hbr8)⟩)⟩, by rw [ht]; exact hP9, va_K.moved hW.alike hK9, hD9⟩, hS.F ht⟩) hS.2.2 dX12_leafRead_174
              · refine lv_iconst (v := 0) hx hb dX12_leafRead_136 (by decide) ?_
                refine W.widen (k := 0) (n := 0) (by omega) (by omega) ?_
                obtain ⟨hP9, hD9⟩ := zsub2 (ws' := [(mq, .inr (12, mF (upd (upd (upd g 4 u_176.2.1) 5 u_176.2.2) 50 u_176.1) gl rf)), (eA0 (rf 0) (ck 0) 900 f_tape), (eA0 (rf 3) (ck 3) 118 f_words), (eA0 (rf 41) (ck 41) 128 f_knot), (eA0 (rf 42) (ck 42) 128 f_part), (eA0 (rf 43) (ck 43) 128 f_other), (eA0 (rf 45) (ck 45) 96 f_wait), (eA0 (rf 46) (ck 46) 96 f_held)]) hP hD [7, 0, 1, 2, 3, 4, 5, 6] (by decide +kernel) rfl
                have hK9 := hK.sub (tys' := []) [] rfl
                exact W.zret (v := 0) hx hb hr (by first | rfl | decide) (fun t ht hW => ⟨⟨0, (f_knot, f_part, f_other, f_held, u_176.2.1, u_176.2.2, (g 7), (g 8), (g 9), (g 10), (g 23), (g 48), u_176.1, (g 51), f_wait, (g 47), (g 49), (g 52)), rfl, ⟨((fun e9 => ⟨by rw [e9], by rw [e9]⟩ : fq_leafRead f_tape f_words f_knot f_part f_other f_wait f_held (g 4) (g 5) (g 6) (g 7) (g 8) (g 9) (g 10) (g 23) (g 47) (g 48) (g 49) (g 50) (g 51) (g 52) = ((0 : Int32), f_knot, f_part, f_other, f_held, u_176.2.1, u_176.2.2, (g 7), (g 8), (g 9), (g 10), (g 23), (g 48), u_176.1, (g 51), f_wait, (g 47), (g 49), (g 52)) → _) ((by rw [fq_leafRead]; (try rw [← hq_r_1]); (try rw [xL_eq]); (try rw [if_pos c_2]); (try rw [← hq_r_3]); (try rw [xL_eq]); (try rw [if_neg c_4]); (try rw [if_pos c_119]); (try rw [← hq_r_120]); (try rw [xL_eq]); (try rw [if_neg c_123]); (try rw [if_pos c_172]); (try rw [if_pos c_174]); (try rw [← hX_183]); (try rw [xL_eq]); (try rw [← hq_r_175]); (try rw [← hq_u_176]); (try rw [if_pos c_184]); try rfl))), Or.inl rfl, h0n, hns, Or.inl rfl, Or.inl rfl, hKu, Or.inl rfl, Or.inl rfl, hp_181, hp_182, Or.inl rfl, Or.inl rfl, Or.inl rfl, Or.inl rfl, Or.inl rfl, Or.inl rfl, (Or.inl rfl)⟩, by rw [ht]; exact hP9, va_K.moved hW.alike hK9, hD9⟩, hS.F ht⟩) hS.2.2 dX12_leafRead_137
            · refine lv_aload_n hx hb dX12_leafRead_123 rfl (lv_at hl 1 rfl) ?_
              refine lv_iconst (v := 2) hx hb dX12_leafRead_124 (by decide) ?_
              obtain ⟨hPc, hDc, hFc, hCc⟩ := zsub3 (ws' := [(mq, .inr (12, mF g gl rf))]) hP hD hS hA [0] (by decide) rfl
              have hKc := hK.sub (tys' := []) [] rfl
              refine va_calli (va_runV (As := [.int 2]) (rest := []) ⟨hx, hb, hml, hown, htw⟩ (gq_wrong l dC dI mq g gl rf (2 : Int32) H.size) (cwV 1 htw (xg_V (ck_25 _ (List.mem_of_getElem? (i := 21) rfl)) (ck_25 _ (List.mem_of_getElem? (i := 22) rfl)) (ck_25 _ (List.mem_of_getElem? (i := 23) rfl)) (ck_1 _ (List.mem_of_getElem? (i := 5) rfl)) (ck_26 _ (List.mem_of_getElem? (i := 0) rfl))) rfl rfl rfl (by exact ⟨rfl, hdc_14.1, hdc_14.2, hdd_26⟩) ⟨Nat.le_of_ble_eq_true rfl, Nat.le_of_ble_eq_true rfl⟩) ⟨fun a U g mk q => by obtain ⟨q0, q1, qP, qK, qD⟩ := q; exact ⟨q0, q1, qP, va_K.moved (u := U) (U := U.calling g mk a) (Vm.Alike.refl U.vm) qK, qD⟩, va_recv hKc hPc (ci := 12) (q0 := 0) rfl rfl, fun U hU hW => ⟨rfl, by rw [hU], by rw [hU]; exact hPc, va_K.moved hW.alike hKc, hDc.weaken (fun _ _ _ _ => trivial)⟩⟩ rfl rfl hl.1 rfl (lv_room (Nat.le_of_ble_eq_true rfl)) dX12_leafRead_125 ⟨Nat.le_of_ble_eq_true rfl, Nat.le_of_ble_eq_true rfl⟩) hS (fun q _ h => hFc q h) hFc (fun r_222 u_223 t H1 locs ht hvm hw hB hz1 hk1 hS => ?_)
              try dsimp only at hw
              obtain ⟨hP1, hK1, hD1⟩ := hB
              rw [ht] at hP1
              have hK1 := va_K.moved hvm.symm hK1
              have hK1 : va_K (dC, dI) vwCl [] s := hK1
              obtain ⟨hP, hD⟩ := va_join (wr := [(eA0 (rf 0) (ck 0) 900 f_tape), (eA0 (rf 3) (ck 3) 118 f_words), (eA0 (rf 41) (ck 41) 128 f_knot), (eA0 (rf 42) (ck 42) 128 f_part), (eA0 (rf 43) (ck 43) 128 f_other), (eA0 (rf 45) (ck 45) 96 f_wait), (eA0 (rf 46) (ck 46) 96 f_held)]) (w1 := [(mq, .inr (12, mF (upd (upd g 4 u_223.1) 5 u_223.2) gl rf))]) hP hD [0] [1, 2, 3, 4, 5, 6, 7] hCc rfl (by decide) (by decide) hk1 hFc hP1 hD1
              generalize H1 = H at hP hS ⊢
              have hP : va_P (dC, dI) vwCl [(eA0 (rf 0) (ck 0) 900 f_tape), (eA0 (rf 3) (ck 3) 118 f_words), (eA0 (rf 41) (ck 41) 128 f_knot), (eA0 (rf 42) (ck 42) 128 f_part), (eA0 (rf 43) (ck 43) 128 f_other), (eA0 (rf 45) (ck 45) 96 f_wait), (eA0 (rf 46) (ck 46) 96 f_held), (mq, .inr (12, mF (upd (upd g 4 u_223.1) 5 u_223.2) gl rf))] H := hP
              have hD : va_D A [(eA0 (rf 0) (ck 0) 900 f_tape), (eA0 (rf 3) (ck 3) 118 f_words), (eA0 (rf 41) (ck 41) 128 f_knot), (eA0 (rf 42) (ck 42) 128 f_part), (eA0 (rf 43) (ck 43) 128 f_other), (eA0 (rf 45) (ck 45) 96 f_wait), (eA0 (rf 46) (ck 46) 96 f_held), (mq, .inr (12, mF (upd (upd g 4 u_223.1) 5 u_223.2) gl rf))] := hD
              refine W.widen (k := 0) (n := 0) (by omega) (by omega) ?_
              obtain ⟨hw, hb_r_222, hp_226⟩ := hw
              obtain ⟨X_227, hX_227⟩ : ∃ X9 : Int32 × (Int32) × (Int32), X9 = (fq_wrong (2 : Int32) (g 10)) := ⟨_, rfl⟩
              have hq_r_222 : r_222 = X_227.1 := by rw [hX_227]; exact hw.1
              have hq_u_223 : u_223 = X_227.2 := by rw [hX_227]; exact hw.2
              refine W.widen (k := 0) (n := 0) (by omega) (by omega) ?_
              obtain ⟨hP9, hD9⟩ := zsub2 (ws' := [(mq, .inr (12, mF (upd (upd g 4 u_223.1) 5 u_223.2) gl rf)), (eA0 (rf 0) (ck 0) 900 f_tape), (eA0 (rf 3) (ck 3) 118 f_words), (eA0 (rf 41) (ck 41) 128 f_knot), (eA0 (rf 42) (ck 42) 128 f_part), (eA0 (rf 43) (ck 43) 128 f_other), (eA0 (rf 45) (ck 45) 96 f_wait), (eA0 (rf 46) (ck 46) 96 f_held)]) hP hD [7, 0, 1, 2, 3, 4, 5, 6] (by decide +kernel) rfl
              have hK9 := hK.sub (tys' := []) [] rfl
              exact W.zret (v := r_222) hx hb hr (xz_nar hb_r_222) (fun t ht hW => ⟨⟨r_222, (f_knot, f_part, f_other, f_held, u_223.1, u_223.2, (g 7), (g 8), (g 9), (g 10), (g 23), (g 48), (g 50), (g 51), f_wait, (g 47), (g 49), (g 52)), rfl, ⟨((fun e9 => ⟨by rw [e9], by rw [e9]⟩ : fq_leafRead f_tape f_words f_knot f_part f_other f_wait f_held (g 4) (g 5) (g 6) (g 7) (g 8) (g 9) (g 10) (g 23) (g 47) (g 48) (g 49) (g 50) (g 51) (g 52) = (r_222, f_knot, f_part, f_other, f_held, u_223.1, u_223.2, (g 7), (g 8), (g 9), (g 10), (g 23), (g 48), (g 50), (g 51), f_wait, (g 47), (g 49), (g 52)) → _) ((by rw [fq_leafRead]; (try rw [← hq_r_1]); (try rw [xL_eq]); (try rw [if_pos c_2]); (try rw [← hq_r_3]); (try rw [xL_eq]); (try rw [if_neg c_4]); (try rw [if_pos c_119]); (try rw [← hq_r_120]); (try rw [xL_eq]); (try rw [if_neg c_123]); (try rw [if_pos c_172]); (try rw [if_neg c_174]); (try rw [← hX_227]); (try rw [xL_eq]); (try rw [← hq_r_222]); (try rw [← hq_u_223]); try rfl))), hb_r_222, h0n, hns, (Or.inl hp_226), (Or.inl hp_226), hKu, (Or.inl hp_226), (Or.inl hp_226), hct0, hct6, (Or.inl hp_226), (Or.inl hp_226), (Or.inl hp_226), (Or.inl hp_226), (Or.inl hp_226), (Or.inl hp_226), (Or.inl hp_226)⟩, by rw [ht]; exact hP9, va_K.moved hW.alike hK9, hD9⟩, hS.F ht⟩) hS.2.2 dX12_leafRead_128
          · refine lv_aload_n hx hb dX12_leafRead_103 rfl (lv_at hl 1 rfl) ?_
            refine lv_iconst (v := 1) hx hb dX12_leafRead_104 (by decide) ?_
            obtain ⟨hPc, hDc, hFc, hCc⟩ := zsub3 (ws' := [(mq, .inr (12, mF g gl rf))]) hP hD hS hA [0] (by decide) rfl
            have hKc := hK.sub (tys' := []) [] rfl
            refine va_calli (va_runV (As := [.int 1]) (rest := []) ⟨hx, hb, hml, hown, htw⟩ (gq_wrong l dC dI mq g gl rf (1 : Int32) H.size) (cwV 1 htw (xg_V (ck_25 _ (List.mem_of_getElem? (i := 21) rfl)) (ck_25 _ (List.mem_of_getElem? (i := 22) rfl)) (ck_25 _ (List.mem_of_getElem? (i := 23) rfl)) (ck_1 _ (List.mem_of_getElem? (i := 5) rfl)) (ck_26 _ (List.mem_of_getElem? (i := 0) rfl))) rfl rfl rfl (by exact ⟨rfl, hdc_14.1, hdc_14.2, hdd_26⟩) ⟨Nat.le_of_ble_eq_true rfl, Nat.le_of_ble_eq_true rfl⟩) ⟨fun a U g mk q => by obtain ⟨q0, q1, qP, qK, qD⟩ := q; exact ⟨q0, q1, qP, va_K.moved (u := U) (U := U.calling g mk a) (Vm.Alike.refl U.vm) qK, qD⟩, va_recv hKc hPc (ci := 12) (q0 := 0) rfl rfl, fun U hU hW => ⟨rfl, by rw [hU], by rw [hU]; exact hPc, va_K.moved hW.alike hKc, hDc.weaken (fun _ _ _ _ => trivial)⟩⟩ rfl rfl hl.1 rfl (lv_room (Nat.le_of_ble_eq_true rfl)) dX12_leafRead_105 ⟨Nat.le_of_ble_eq_true rfl, Nat.le_of_ble_eq_true rfl⟩) hS (fun q _ h => hFc q h) hFc (fun r_228 u_229 t H1 locs ht hvm hw hB hz1 hk1 hS => ?_)
            try dsimp only at hw
            obtain ⟨hP1, hK1, hD1⟩ := hB
            rw [ht] at hP1
            have hK1 := va_K.moved hvm.symm hK1
            have hK1 : va_K (dC, dI) vwCl [] s := hK1
            obtain ⟨hP, hD⟩ := va_join (wr := [(eA0 (rf 0) (ck 0) 900 f_tape), (eA0 (rf 3) (ck 3) 118 f_words), (eA0 (rf 41) (ck 41) 128 f_knot), (eA0 (rf 42) (ck 42) 128 f_part), (eA0 (rf 43) (ck 43) 128 f_other), (eA0 (rf 45) (ck 45) 96 f_wait), (eA0 (rf 46) (ck 46) 96 f_held)]) (w1 := [(mq, .inr (12, mF (upd (upd g 4 u_229.1) 5 u_229.2) gl rf))]) hP hD [0] [1, 2, 3, 4, 5, 6, 7] hCc rfl (by decide) (by decide) hk1 hFc hP1 hD1
            generalize H1 = H at hP hS ⊢
            have hP : va_P (dC, dI) vwCl [(eA0 (rf 0) (ck 0) 900 f_tape), (eA0 (rf 3) (ck 3) 118 f_words), (eA0 (rf 41) (ck 41) 128 f_knot), (eA0 (rf 42) (ck 42) 128 f_part), (eA0 (rf 43) (ck 43) 128 f_other), (eA0 (rf 45) (ck 45) 96 f_wait), (eA0 (rf 46) (ck 46) 96 f_held), (mq, .inr (12, mF (upd (upd g 4 u_229.1) 5 u_229.2) gl rf))] H := hP
            have hD : va_D A [(eA0 (rf 0) (ck 0) 900 f_tape), (eA0 (rf 3) (ck 3) 118 f_words), (eA0 (rf 41) (ck 41) 128 f_knot), (eA0 (rf 42) (ck 42) 128 f_part), (eA0 (rf 43) (ck 43) 128 f_other), (eA0 (rf 45) (ck 45) 96 f_wait), (eA0 (rf 46) (ck 46) 96 f_held), (mq, .inr (12, mF (upd (upd g 4 u_229.1) 5 u_229.2) gl rf))] := hD
            refine W.widen (k := 0) (n := 0) (by omega) (by omega) ?_
            obtain ⟨hw, hb_r_228, hp_232⟩ := hw
            obtain ⟨X_233, hX_233⟩ : ∃ X9 : Int32 × (Int32) × (Int32), X9 = (fq_wrong (1 : Int32) (g 10)) := ⟨_, rfl⟩
            have hq_r_228 : r_228 = X_233.1 := by rw [hX_233]; exact hw.1
            have hq_u_229 : u_229 = X_233.2 := by rw [hX_233]; exact hw.2
            refine W.widen (k := 0) (n := 0) (by omega) (by omega) ?_
            obtain ⟨hP9, hD9⟩ := zsub2 (ws' := [(mq, .inr (12, mF (upd (upd g 4 u_229.1) 5 u_229.2) gl rf)), (eA0 (rf 0) (ck 0) 900 f_tape), (eA0 (rf 3) (ck 3) 118 f_words), (eA0 (rf 41) (ck 41) 128 f_knot), (eA0 (rf 42) (ck 42) 128 f_part), (eA0 (rf 43) (ck 43) 128 f_other), (eA0 (rf 45) (ck 45) 96 f_wait), (eA0 (rf 46) (ck 46) 96 f_held)]) hP hD [7, 0, 1, 2, 3, 4, 5, 6] (by decide +kernel) rfl
            have hK9 := hK.sub (tys' := []) [] rfl
            exact W.zret (v := r_228) hx hb hr (xz_nar hb_r_228) (fun t ht hW => ⟨⟨r_228, (f_knot, f_part, f_other, f_held, u_229.1, u_229.2, (g 7), (g 8), (g 9), (g 10), (g 23), (g 48), (g 50), (g 51), f_wait, (g 47), (g 49), (g 52)), rfl, ⟨((fun e9 => ⟨by rw [e9], by rw [e9]⟩ : fq_leafRead f_tape f_words f_knot f_part f_other f_wait f_held (g 4) (g 5) (g 6) (g 7) (g 8) (g 9) (g 10) (g 23) (g 47) (g 48) (g 49) (g 50) (g 51) (g 52) = (r_228, f_knot, f_part, f_other, f_held, u_229.1, u_229.2, (g 7), (g 8), (g 9), (g 10), (g 23), (g 48), (g 50), (g 51), f_wait, (g 47), (g 49), (g 52)) → _) ((by rw [fq_leafRead]; (try rw [← hq_r_1]); (try rw [xL_eq]); (try rw [if_pos c_2]); (try rw [← hq_r_3]); (try rw [xL_eq]); (try rw [if_neg c_4]); (try rw [if_pos c_119]); (try rw [← hq_r_120]); (try rw [xL_eq]); (try rw [if_neg c_123]); (try rw [if_neg c_172]); (try rw [← hX_233]); (try rw [xL_eq]); (try rw [← hq_r_228]); (try rw [← hq_u_229]); try rfl))), hb_r_228, h0n, hns, (Or.inl hp_232), (Or.inl hp_232), hKu, (Or.inl hp_232), (Or.inl hp_232), hct0, hct6, (Or.inl hp_232), (Or.inl hp_232), (Or.inl hp_232), (Or.inl hp_232), (Or.inl hp_232), (Or.inl hp_232), (Or.inl hp_232)⟩, by rw [ht]; exact hP9, va_K.moved hW.alike hK9, hD9⟩, hS.F ht⟩) hS.2.2 dX12_leafRead_108
      · refine lv_aload_n hx hb dX12_leafRead_66 rfl (lv_at hl 0 rfl) ?_
        obtain ⟨hPc, hDc, hFc, hCc⟩ := zsub3 (ws' := [(mq, .inr (12, mF g gl rf))]) hP hD hS hA [0] (by decide) rfl
        have hKc := hK.sub (tys' := []) [] rfl
        refine va_calli (va_runV (As := []) (rest := []) ⟨hx, hb, hml, hown, htw⟩ (gy_isCounted l dC dI mq g gl rf H.size hct0 hct6) (cwV 0 htw (xg_V (ck_28 _ (List.mem_of_getElem? (i := 5) rfl)) (ck_28 _ (List.mem_of_getElem? (i := 6) rfl)) (ck_28 _ (List.mem_of_getElem? (i := 7) rfl)) (ck_1 _ (List.mem_of_getElem? (i := 5) rfl)) (ck_28 _ (List.mem_of_getElem? (i := 8) rfl))) rfl rfl rfl (by exact ⟨rfl, hdc_14.1, hdc_14.2, hdd_32⟩) ⟨Nat.le_of_ble_eq_true rfl, Nat.le_of_ble_eq_true rfl⟩) ⟨fun a U g mk q => by obtain ⟨q0, q1, qP, qK, qD⟩ := q; exact ⟨q0, q1, qP, va_K.moved (u := U) (U := U.calling g mk a) (Vm.Alike.refl U.vm) qK, qD⟩, va_recv hKc hPc (ci := 12) (q0 := 0) rfl rfl, fun U hU hW => ⟨rfl, by rw [hU], by rw [hU]; exact hPc, va_K.moved hW.alike hKc, hDc.weaken (fun _ _ _ _ => trivial)⟩⟩ rfl rfl hl.1 rfl (lv_room (Nat.le_of_ble_eq_true rfl)) dX12_leafRead_67 ⟨Nat.le_of_ble_eq_true rfl, Nat.le_of_ble_eq_true rfl⟩) hS (fun q _ h => hFc q h) hFc (fun r_234 u_235 t H1 locs ht hvm hw hB hz1 hk1 hS => ?_)
        try dsimp only at hw
        obtain ⟨hP1, hK1, hD1⟩ := hB
        rw [ht] at hP1
        have hK1 := va_K.moved hvm.symm hK1
        have hK1 : va_K (dC, dI) vwCl [] s := hK1
        obtain ⟨hP, hD⟩ := va_join (wr := [(eA0 (rf 0) (ck 0) 900 f_tape), (eA0 (rf 3) (ck 3) 118 f_words), (eA0 (rf 41) (ck 41) 128 f_knot), (eA0 (rf 42) (ck 42) 128 f_part), (eA0 (rf 43) (ck 43) 128 f_other), (eA0 (rf 45) (ck 45) 96 f_wait), (eA0 (rf 46) (ck 46) 96 f_held)]) (w1 := [(mq, .inr (12, mF (upd (upd (upd g 4 u_235.2.1) 5 u_235.2.2) 50 u_235.1) gl rf))]) hP hD [0] [1, 2, 3, 4, 5, 6, 7] hCc rfl (by decide) (by decide) hk1 hFc hP1 hD1
        generalize H1 = H at hP hS ⊢
        have hP : va_P (dC, dI) vwCl [(eA0 (rf 0) (ck 0) 900 f_tape), (eA0 (rf 3) (ck 3) 118 f_words), (eA0 (rf 41) (ck 41) 128 f_knot), (eA0 (rf 42) (ck 42) 128 f_part), (eA0 (rf 43) (ck 43) 128 f_other), (eA0 (rf 45) (ck 45) 96 f_wait), (eA0 (rf 46) (ck 46) 96 f_held), (mq, .inr (12, mF (upd (upd (upd g 4 u_235.2.1) 5 u_235.2.2) 50 u_235.1) gl rf))] H := hP
        have hD : va_D A [(eA0 (rf 0) (ck 0) 900 f_tape), (eA0 (rf 3) (ck 3) 118 f_words), (eA0 (rf 41) (ck 41) 128 f_knot), (eA0 (rf 42) (ck 42) 128 f_part), (eA0 (rf 43) (ck 43) 128 f_other), (eA0 (rf 45) (ck 45) 96 f_wait), (eA0 (rf 46) (ck 46) 96 f_held), (mq, .inr (12, mF (upd (upd (upd g 4 u_235.2.1) 5 u_235.2.2) 50 u_235.1) gl rf))] := hD
        refine W.widen (k := 0) (n := 0) (by omega) (by omega) ?_
        obtain ⟨hw, hb_r_234, hp_239, hp_240, hp_241⟩ := hw
        obtain ⟨X_242, hX_242⟩ : ∃ X9 : Int32 × (Int32) × (Int32) × (Int32), X9 = (fq_isCounted (g 4) (g 5) (g 10) (g 50)) := ⟨_, rfl⟩
        have hq_r_234 : r_234 = X_242.1 := by rw [hX_242]; exact hw.1
        have hq_u_235 : u_235 = X_242.2 := by rw [hX_242]; exact hw.2
        refine lv_if_ne (tgt := 75) hx hb dX12_leafRead_70 (by decide) (fun c_243 => ?_) (fun c_243 => ?_)
        · refine lv_aload_n hx hb dX12_leafRead_75 rfl (lv_at hl 0 rfl) ?_
          refine lv_iconst (v := 2) hx hb dX12_leafRead_76 (by decide) ?_
          obtain ⟨hPc, hDc, hFc, hCc⟩ := zsub3 (ws' := [(mq, .inr (12, mF (upd (upd (upd g 4 u_235.2.1) 5 u_235.2.2) 50 u_235.1) gl rf)), (eA0 (rf 45) (ck 45) 96 f_wait)]) hP hD hS hA [7, 5] (by decide) rfl
          have hKc := hK.sub (tys' := [((ck 45), .int)]) [5] rfl
          refine va_callv (va_runV (As := [.int 2]) (rest := []) ⟨hx, hb, hml, hown, htw⟩ (gq_waitsFor l dC dI mq (upd (upd (upd g 4 u_235.2.1) 5 u_235.2.2) 50 u_235.1) gl rf ck f_wait (2 : Int32) H.size hw0_0 (gq_leafRead_s81 (y0 := g 47) hwt7)) (cwV 1 htw (xg_V (ck_28 _ (List.mem_of_getElem? (i := 1) rfl)) (ck_28 _ (List.mem_of_getElem? (i := 2) rfl)) (ck_28 _ (List.mem_of_getElem? (i := 3) rfl)) (ck_1 _ (List.mem_of_getElem? (i := 5) rfl)) (ck_28 _ (List.mem_of_getElem? (i := 4) rfl))) rfl rfl rfl (by exact ⟨rfl, hdc_14.1, hdc_14.2, hdd_9⟩) ⟨Nat.le_of_ble_eq_true rfl, Nat.le_of_ble_eq_true rfl⟩) ⟨fun a U g mk q => by obtain ⟨q0, q1, qP, qK, qD⟩ := q; exact ⟨q0, q1, qP, va_K.moved (u := U) (U := U.calling g mk a) (Vm.Alike.refl U.vm) qK, qD⟩, va_recv hKc hPc (ci := 12) (q0 := 0) rfl rfl, fun U hU hW => ⟨rfl, by rw [hU], by rw [hU]; exact hPc, va_K.moved hW.alike hKc, hDc.weaken (fun _ _ _ _ => trivial)⟩⟩ rfl rfl hl.1 rfl (lv_room (Nat.le_of_ble_eq_true rfl)) dX12_leafRead_77 ⟨Nat.le_of_ble_eq_true rfl, Nat.le_of_ble_eq_true rfl⟩) hS (fun q _ h => hFc q h) hFc (fun u_245 t H1 locs ht hvm hw hB hz1 hk1 hS => ?_)
          try dsimp only at hw
          obtain ⟨hP1, hK1, hD1⟩ := hB
          rw [ht] at hP1
          have hK1 := va_K.moved hvm.symm hK1
          have hK1 : va_K (dC, dI) vwCl [] s := hK1
          obtain ⟨hP, hD⟩ := va_join (wr := [(eA0 (rf 0) (ck 0) 900 f_tape), (eA0 (rf 3) (ck 3) 118 f_words), (eA0 (rf 41) (ck 41) 128 f_knot), (eA0 (rf 42) (ck 42) 128 f_part), (eA0 (rf 43) (ck 43) 128 f_other), (eA0 (rf 46) (ck 46) 96 f_held)]) (w1 := [(mq, .inr (12, mF (upd (upd (upd (upd g 4 u_235.2.1) 5 u_235.2.2) 47 u_245.1) 50 u_235.1) gl rf)), (eA0 (rf 45) (ck 45) 96 u_245.2)]) hP hD [7, 5] [0, 1, 2, 3, 4, 6] hCc rfl (by decide) (by decide) hk1 hFc hP1 hD1
          generalize H1 = H at hP hS ⊢
          have hP : va_P (dC, dI) vwCl [(eA0 (rf 0) (ck 0) 900 f_tape), (eA0 (rf 3) (ck 3) 118 f_words), (eA0 (rf 41) (ck 41) 128 f_knot), (eA0 (rf 42) (ck 42) 128 f_part), (eA0 (rf 43) (ck 43) 128 f_other), (eA0 (rf 46) (ck 46) 96 f_held), (mq, .inr (12, mF (upd (upd (upd (upd g 4 u_235.2.1) 5 u_235.2.2) 47 u_245.1) 50 u_235.1) gl rf)), (eA0 (rf 45) (ck 45) 96 u_245.2)] H := hP
          have hD : va_D A [(eA0 (rf 0) (ck 0) 900 f_tape), (eA0 (rf 3) (ck 3) 118 f_words), (eA0 (rf 41) (ck 41) 128 f_knot), (eA0 (rf 42) (ck 42) 128 f_part), (eA0 (rf 43) (ck 43) 128 f_other), (eA0 (rf 46) (ck 46) 96 f_held), (mq, .inr (12, mF (upd (upd (upd (upd g 4 u_235.2.1) 5 u_235.2.2) 47 u_245.1) 50 u_235.1) gl rf)), (eA0 (rf 45) (ck 45) 96 u_245.2)] := hD
          refine W.widen (k := 0) (n := 0) (by omega) (by omega) ?_
          have hq_u_245 : u_245 = (fq_waitsFor f_wait (2 : Int32) (g 47)) := hw
          have hW_n : xW u_245.2 u_245.1 (g 49) (g 48) (g 51) := by rw [hq_u_245]; exact xW_push2 hWx (gq_leafRead_s82 (y0 := g 47) hwt7)
          have hwu : u_245.1 = ((g 47) + 1) := by rw [hq_u_245]; rfl
          refine lv_aload_n hx hb dX12_leafRead_80 rfl (lv_at hl 0 rfl) ?_
          obtain ⟨hPc, hDc, hFc, hCc⟩ := zsub3 (ws' := [(mq, .inr (12, mF (upd (upd (upd (upd g 4 u_235.2.1) 5 u_235.2.2) 47 u_245.1) 50 u_235.1) gl rf)), (eA0 (rf 0) (ck 0) 900 f_tape), (eA0 (rf 3) (ck 3) 118 f_words)]) hP hD hS hA [6, 0, 1] (by decide) rfl
          have hKc := hK.sub (tys' := [((ck 0), .int), ((ck 3), .int)]) [0, 1] rfl
          refine va_callv (va_runV (As := []) (rest := []) ⟨hx, hb, hml, hown, htw⟩ (gy_token l dC dI mq (upd (upd (upd (upd g 4 u_235.2.1) 5 u_235.2.2) 47 u_245.1) 50 u_235.1) gl rf ck f_tape f_words H.size h0n hns hs9 hw7) (cwV 0 htw (xg_V (ck_24 _ (List.mem_of_getElem? (i := 14) rfl)) (ck_24 _ (List.mem_of_getElem? (i := 15) rfl)) (ck_24 _ (List.mem_of_getElem? (i := 16) rfl)) (ck_1 _ (List.mem_of_getElem? (i := 5) rfl)) (ck_24 _ (List.mem_of_getElem? (i := 17) rfl))) rfl rfl rfl (by exact ⟨rfl, hdc_14.1, hdc_14.2, hdd_13⟩) ⟨Nat.le_of_ble_eq_true rfl, Nat.le_of_ble_eq_true rfl⟩) ⟨fun a U g mk q => by obtain ⟨q0, q1, qP, qK, qD⟩ := q; exact ⟨q0, q1, qP, va_K.moved (u := U) (U := U.calling g mk a) (Vm.Alike.refl U.vm) qK, qD⟩, va_recv hKc hPc (ci := 12) (q0 := 0) rfl rfl, fun U hU hW => ⟨rfl, by rw [hU], by rw [hU]; exact hPc, va_K.moved hW.alike hKc, hDc.weaken (fun _ _ _ _ => trivial)⟩⟩ rfl rfl hl.1 rfl (lv_room (Nat.le_of_ble_eq_true rfl)) dX12_leafRead_81 ⟨Nat.le_of_ble_eq_true rfl, Nat.le_of_ble_eq_true rfl⟩) hS (fun q _ h => hFc q h) hFc (fun u_249 t H1 locs ht hvm hw hB hz1 hk1 hS => ?_)
          try dsimp only at hw
          obtain ⟨hP1, hK1, hD1⟩ := hB
          rw [ht] at hP1
          have hK1 := va_K.moved hvm.symm hK1
          have hK1 : va_K (dC, dI) vwCl [] s := hK1
          obtain ⟨hP, hD⟩ := va_join (wr := [(eA0 (rf 41) (ck 41) 128 f_knot), (eA0 (rf 42) (ck 42) 128 f_part), (eA0 (rf 43) (ck 43) 128 f_other), (eA0 (rf 46) (ck 46) 96 f_held), (eA0 (rf 45) (ck 45) 96 u_245.2)]) (w1 := [(mq, .inr (12, mF (upd (upd (upd (upd (upd (upd (upd (upd g 4 u_235.2.1) 5 u_235.2.2) 7 u_249.1) 8 u_249.2.1) 9 u_249.2.2.1) 10 u_249.2.2.2) 47 u_245.1) 50 u_235.1) gl rf)), (eA0 (rf 0) (ck 0) 900 f_tape), (eA0 (rf 3) (ck 3) 118 f_words)]) hP hD [6, 0, 1] [2, 3, 4, 5, 7] hCc rfl (by decide) (by decide) hk1 hFc hP1 hD1
          generalize H1 = H at hP hS ⊢
          have hP : va_P (dC, dI) vwCl [(eA0 (rf 41) (ck 41) 128 f_knot), (eA0 (rf 42) (ck 42) 128 f_part), (eA0 (rf 43) (ck 43) 128 f_other), (eA0 (rf 46) (ck 46) 96 f_held), (eA0 (rf 45) (ck 45) 96 u_245.2), (mq, .inr (12, mF (upd (upd (upd (upd (upd (upd (upd (upd g 4 u_235.2.1) 5 u_235.2.2) 7 u_249.1) 8 u_249.2.1) 9 u_249.2.2.1) 10 u_249.2.2.2) 47 u_245.1) 50 u_235.1) gl rf)), (eA0 (rf 0) (ck 0) 900 f_tape), (eA0 (rf 3) (ck 3) 118 f_words)] H := hP
          have hD : va_D A [(eA0 (rf 41) (ck 41) 128 f_knot), (eA0 (rf 42) (ck 42) 128 f_part), (eA0 (rf 43) (ck 43) 128 f_other), (eA0 (rf 46) (ck 46) 96 f_held), (eA0 (rf 45) (ck 45) 96 u_245.2), (mq, .inr (12, mF (upd (upd (upd (upd (upd (upd (upd (upd g 4 u_235.2.1) 5 u_235.2.2) 7 u_249.1) 8 u_249.2.1) 9 u_249.2.2.1) 10 u_249.2.2.2) 47 u_245.1) 50 u_235.1) gl rf)), (eA0 (rf 0) (ck 0) 900 f_tape), (eA0 (rf 3) (ck 3) 118 f_words)] := hD
          refine W.widen (k := 0) (n := 0) (by omega) (by omega) ?_
          obtain ⟨hw, hp_254, hp_255, hp_256⟩ := hw
          have hq_u_249 : u_249 = (fq_token f_tape f_words (g 6) (g 7) (g 9)) := hw
          refine lv_iconst (v := 1) hx hb dX12_leafRead_84 (by decide) ?_
          refine W.widen (k := 0) (n := 0) (by omega) (by omega) ?_
          obtain ⟨hP9, hD9⟩ := zsub2 (ws' := [(mq, .inr (12, mF (upd (upd (upd (upd (upd (upd (upd (upd g 4 u_235.2.1) 5 u_235.2.2) 7 u_249.1) 8 u_249.2.1) 9 u_249.2.2.1) 10 u_249.2.2.2) 47 u_245.1) 50 u_235.1) gl rf)), (eA0 (rf 0) (ck 0) 900 f_tape), (eA0 (rf 3) (ck 3) 118 f_words), (eA0 (rf 41) (ck 41) 128 f_knot), (eA0 (rf 42) (ck 42) 128 f_part), (eA0 (rf 43) (ck 43) 128 f_other), (eA0 (rf 45) (ck 45) 96 u_245.2), (eA0 (rf 46) (ck 46) 96 f_held)]) hP hD [5, 6, 7, 0, 1, 2, 4, 3] (by decide +kernel) rfl
          have hK9 := hK.sub (tys' := []) [] rfl
          exact W.zret (v := 1) hx hb hr (by first | rfl | decide) (fun t ht hW => ⟨⟨1, (f_knot, f_part, f_other, f_held, u_235.2.1, u_235.2.2, u_249.1, u_249.2.1, u_249.2.2.1, u_249.2.2.2, (g 23), (g 48), u_235.1, (g 51), u_245.2, u_245.1, (g 49), (g 52)), rfl, ⟨((fun e9 => ⟨by rw [e9], by rw [e9]⟩ : fq_leafRead f_tape f_words f_knot f_part f_other f_wait f_held (g 4) (g 5) (g 6) (g 7) (g 8) (g 9) (g 10) (g 23) (g 47) (g 48) (g 49) (g 50) (g 51) (g 52) = ((1 : Int32), f_knot, f_part, f_other, f_held, u_235.2.1, u_235.2.2, u_249.1, u_249.2.1, u_249.2.2.1, u_249.2.2.2, (g 23), (g 48), u_235.1, (g 51), u_245.2, u_245.1, (g 49), (g 52)) → _) ((by rw [fq_leafRead]; (try rw [← hq_r_1]); (try rw [xL_eq]); (try rw [if_pos c_2]); (try rw [← hq_r_3]); (try rw [xL_eq]); (try rw [if_neg c_4]); (try rw [if_neg c_119]); (try rw [← hX_242]); (try rw [xL_eq]); (try rw [← hq_r_234]); (try rw [← hq_u_235]); (try rw [if_neg c_243]); (try rw [← hq_u_245]); (try rw [xL_eq]); (try rw [← hq_u_249]); (try rw [xL_eq]); try rfl))), Or.inr rfl, hp_254, hp_255, (Or.inr hk6), (Or.inr (gq_leafRead_s83 (y0 := u_245.1) (y1 := u_235.1) (y2 := g 50) (y3 := g 47) (y4 := g 23) (y5 := g 49) (hp_239.resolve_left c_243) hw0_0 hp_241 hwu hk6 hwt7 hk0 hLI hct6 hbr0 hbr8)), hKu, (Or.inr hk0), (Or.inr (gq_leafRead_s84 (y0 := g 23) (y1 := u_245.1) (y2 := g 49) (y3 := u_235.1) (y4 := g 50) (y5 := g 47) (hp_239.resolve_left c_243) hw0_0 hwu hk6 hwt7 hk0 hLI hct6 hbr0)), hp_240, hp_241, (Or.inr hwl_0.1), (Or.inr hbr8), (Or.inr (gq_leafRead_s85 (y0 := g 51) hwn)), (Or.inr (gq_leafRead_s86 (y0 := g 51) hwn)), (Or.inr (gq_leafRead_s87 (y0 := g 23) (y1 := g 51) hk6 hk0 hwn)), (Or.inr (gq_leafRead_s88 (y0 := g 23))), (Or.inr ⟨hW_n, hH, hp_256, (xm_cnt (hp_239.resolve_left c_243) hct0 hct6 hbr0 hbr8 hbr0 hbr8)⟩)⟩, by rw [ht]; exact hP9, va_K.moved hW.alike hK9, hD9⟩, hS.F ht⟩) hS.2.2 dX12_leafRead_85
        · refine lv_iconst (v := 0) hx hb dX12_leafRead_73 (by decide) ?_
          refine W.widen (k := 0) (n := 0) (by omega) (by omega) ?_
          obtain ⟨hP9, hD9⟩ := zsub2 (ws' := [(mq, .inr (12, mF (upd (upd (upd g 4 u_235.2.1) 5 u_235.2.2) 50 u_235.1) gl rf)), (eA0 (rf 0) (ck 0) 900 f_tape), (eA0 (rf 3) (ck 3) 118 f_words), (eA0 (rf 41) (ck 41) 128 f_knot), (eA0 (rf 42) (ck 42) 128 f_part), (eA0 (rf 43) (ck 43) 128 f_other), (eA0 (rf 45) (ck 45) 96 f_wait), (eA0 (rf 46) (ck 46) 96 f_held)]) hP hD [7, 0, 1, 2, 3, 4, 5, 6] (by decide +kernel) rfl
          have hK9 := hK.sub (tys' := []) [] rfl
          exact W.zret (v := 0) hx hb hr (by first | rfl | decide) (fun t ht hW => ⟨⟨0, (f_knot, f_part, f_other, f_held, u_235.2.1, u_235.2.2, (g 7), (g 8), (g 9), (g 10), (g 23), (g 48), u_235.1, (g 51), f_wait, (g 47), (g 49), (g 52)), rfl, ⟨((fun e9 => ⟨by rw [e9], by rw [e9]⟩ : fq_leafRead f_tape f_words f_knot f_part f_other f_wait f_held (g 4) (g 5) (g 6) (g 7) (g 8) (g 9) (g 10) (g 23) (g 47) (g 48) (g 49) (g 50) (g 51) (g 52) = ((0 : Int32), f_knot, f_part, f_other, f_held, u_235.2.1, u_235.2.2, (g 7), (g 8), (g 9), (g 10), (g 23), (g 48), u_235.1, (g 51), f_wait, (g 47), (g 49), (g 52)) → _) ((by rw [fq_leafRead]; (try rw [← hq_r_1]); (try rw [xL_eq]); (try rw [if_pos c_2]); (try rw [← hq_r_3]); (try rw [xL_eq]); (try rw [if_neg c_4]); (try rw [if_neg c_119]); (try rw [← hX_242]); (try rw [xL_eq]); (try rw [← hq_r_234]); (try rw [← hq_u_235]); (try rw [if_pos c_243]); try rfl))), Or.inl rfl, h0n, hns, Or.inl rfl, Or.inl rfl, hKu, Or.inl rfl, Or.inl rfl, hp_240, hp_241, Or.inl rfl, Or.inl rfl, Or.inl rfl, Or.inl rfl, Or.inl rfl, Or.inl rfl, (Or.inl rfl)⟩, by rw [ht]; exact hP9, va_K.moved hW.alike hK9, hD9⟩, hS.F ht⟩) hS.2.2 dX12_leafRead_74
  · refine lv_aload_n hx hb dX12_leafRead_9 rfl (lv_at hl 0 rfl) ?_
    refine va_get (D := (dC, dI)) (ci := 12) (v := .int (g 49)) (C := RX12) (T := TX12) (N := 76) hx hb htw inlX12 hown hK hP 0 rfl rfl 49 (by decide) (htw _ (ck_27 _ (List.mem_of_getElem? (i := 18) rfl))) (fun _ h9 => h9) rfl dX12_leafRead_10 ?_
    refine lv_bipush (v := 8) hx hb dX12_leafRead_13 (by decide) ?_
    refine lv_icmp_ne (tgt := 24) hx hb dX12_leafRead_15 (by decide) (fun c_257 => ?_) (fun c_257 => ?_)
    · refine lv_aload_n hx hb dX12_leafRead_24 rfl (lv_at hl 0 rfl) ?_
      refine lv_dup hx hb dX12_leafRead_25 rfl ?_
      refine va_get (D := (dC, dI)) (ci := 12) (v := .int (g 49)) (C := RX12) (T := TX12) (N := 76) hx hb htw inlX12 hown hK hP 0 rfl rfl 49 (by decide) (htw _ (ck_27 _ (List.mem_of_getElem? (i := 18) rfl))) (fun _ h9 => h9) rfl dX12_leafRead_26 ?_
      refine lv_iconst (v := 1) hx hb dX12_leafRead_29 (by decide) ?_
      refine lv_iadd hx hb dX12_leafRead_30 ?_
      refine va_put (D := (dC, dI)) (ci := 12) (v := .int ((g 49) + 1)) (ty := tyX12 49) (C := RX12) (T := TX12) (N := 76) hx hb htw inlX12 tyX12 tyX12_ok nmX12 hown hK hP hD hS 0 rfl rfl 49 (by decide) (htw _ (ck_27 _ (List.mem_of_getElem? (i := 18) rfl))) (fun _ h9 => h9) rfl (tyX12_ok 49 (by decide)) rfl rfl (Nat.le_of_ble_eq_true rfl) dX12_leafRead_31 (fun H locs hP hD hS => ?_)
      obtain ⟨hP, hD⟩ := zre [(mq, .inr (12, mF (upd g 49 ((g 49) + 1)) gl rf)), (eA0 (rf 0) (ck 0) 900 f_tape), (eA0 (rf 3) (ck 3) 118 f_words), (eA0 (rf 41) (ck 41) 128 f_knot), (eA0 (rf 42) (ck 42) 128 f_part), (eA0 (rf 43) (ck 43) 128 f_other), (eA0 (rf 45) (ck 45) 96 f_wait), (eA0 (rf 46) (ck 46) 96 f_held)] hP hD rfl
      refine lv_aload_n hx hb dX12_leafRead_34 rfl (lv_at hl 0 rfl) ?_
      refine lv_iconst (v := 0) hx hb dX12_leafRead_35 (by decide) ?_
      obtain ⟨hPc, hDc, hFc, hCc⟩ := zsub3 (ws' := [(mq, .inr (12, mF (upd g 49 ((g 49) + 1)) gl rf)), (eA0 (rf 45) (ck 45) 96 f_wait)]) hP hD hS hA [0, 6] (by decide) rfl
      have hKc := hK.sub (tys' := [((ck 45), .int)]) [5] rfl
      refine va_callv (va_runV (As := [.int 0]) (rest := []) ⟨hx, hb, hml, hown, htw⟩ (gq_waitsFor l dC dI mq (upd g 49 ((g 49) + 1)) gl rf ck f_wait (0 : Int32) H.size hw0_0 (gq_leafRead_s89 (y0 := g 47) hwt7)) (cwV 1 htw (xg_V (ck_28 _ (List.mem_of_getElem? (i := 1) rfl)) (ck_28 _ (List.mem_of_getElem? (i := 2) rfl)) (ck_28 _ (List.mem_of_getElem? (i := 3) rfl)) (ck_1 _ (List.mem_of_getElem? (i := 5) rfl)) (ck_28 _ (List.mem_of_getElem? (i := 4) rfl))) rfl rfl rfl (by exact ⟨rfl, hdc_14.1, hdc_14.2, hdd_9⟩) ⟨Nat.le_of_ble_eq_true rfl, Nat.le_of_ble_eq_true rfl⟩) ⟨fun a U g mk q => by obtain ⟨q0, q1, qP, qK, qD⟩ := q; exact ⟨q0, q1, qP, va_K.moved (u := U) (U := U.calling g mk a) (Vm.Alike.refl U.vm) qK, qD⟩, va_recv hKc hPc (ci := 12) (q0 := 0) rfl rfl, fun U hU hW => ⟨rfl, by rw [hU], by rw [hU]; exact hPc, va_K.moved hW.alike hKc, hDc.weaken (fun _ _ _ _ => trivial)⟩⟩ rfl rfl hl.1 rfl (lv_room (Nat.le_of_ble_eq_true rfl)) dX12_leafRead_36 ⟨Nat.le_of_ble_eq_true rfl, Nat.le_of_ble_eq_true rfl⟩) hS (fun q _ h => hFc q h) hFc (fun u_259 t H1 locs ht hvm hw hB hz1 hk1 hS => ?_)
      try dsimp only at hw
      obtain ⟨hP1, hK1, hD1⟩ := hB
      rw [ht] at hP1
      have hK1 := va_K.moved hvm.symm hK1
      have hK1 : va_K (dC, dI) vwCl [] s := hK1
      obtain ⟨hP, hD⟩ := va_join (wr := [(eA0 (rf 0) (ck 0) 900 f_tape), (eA0 (rf 3) (ck 3) 118 f_words), (eA0 (rf 41) (ck 41) 128 f_knot), (eA0 (rf 42) (ck 42) 128 f_part), (eA0 (rf 43) (ck 43) 128 f_other), (eA0 (rf 46) (ck 46) 96 f_held)]) (w1 := [(mq, .inr (12, mF (upd (upd g 47 u_259.1) 49 ((g 49) + 1)) gl rf)), (eA0 (rf 45) (ck 45) 96 u_259.2)]) hP hD [0, 6] [1, 2, 3, 4, 5, 7] hCc rfl (by decide) (by decide) hk1 hFc hP1 hD1
      generalize H1 = H at hP hS ⊢
      have hP : va_P (dC, dI) vwCl [(eA0 (rf 0) (ck 0) 900 f_tape), (eA0 (rf 3) (ck 3) 118 f_words), (eA0 (rf 41) (ck 41) 128 f_knot), (eA0 (rf 42) (ck 42) 128 f_part), (eA0 (rf 43) (ck 43) 128 f_other), (eA0 (rf 46) (ck 46) 96 f_held), (mq, .inr (12, mF (upd (upd g 47 u_259.1) 49 ((g 49) + 1)) gl rf)), (eA0 (rf 45) (ck 45) 96 u_259.2)] H := hP
      have hD : va_D A [(eA0 (rf 0) (ck 0) 900 f_tape), (eA0 (rf 3) (ck 3) 118 f_words), (eA0 (rf 41) (ck 41) 128 f_knot), (eA0 (rf 42) (ck 42) 128 f_part), (eA0 (rf 43) (ck 43) 128 f_other), (eA0 (rf 46) (ck 46) 96 f_held), (mq, .inr (12, mF (upd (upd g 47 u_259.1) 49 ((g 49) + 1)) gl rf)), (eA0 (rf 45) (ck 45) 96 u_259.2)] := hD
      refine W.widen (k := 0) (n := 0) (by omega) (by omega) ?_
      have hq_u_259 : u_259 = (fq_waitsFor f_wait (0 : Int32) (g 47)) := hw
      have hW_n : xW u_259.2 u_259.1 ((g 49) + 1) (g 48) (g 51) := by rw [hq_u_259]; exact xW_push0 hWx (gq_leafRead_s90 (y0 := g 47) hwt7)
      have hwu : u_259.1 = ((g 47) + 1) := by rw [hq_u_259]; rfl
      refine lv_aload_n hx hb dX12_leafRead_39 rfl (lv_at hl 0 rfl) ?_
      refine lv_iconst (v := 1) hx hb dX12_leafRead_40 (by decide) ?_
      refine va_put (D := (dC, dI)) (ci := 12) (v := .int 1) (ty := tyX12 52) (C := RX12) (T := TX12) (N := 76) hx hb htw inlX12 tyX12 tyX12_ok nmX12 hown hK hP hD hS 6 rfl rfl 52 (by decide) (htw _ (ck_27 _ (List.mem_of_getElem? (i := 20) rfl))) (fun _ h9 => h9) rfl (tyX12_ok 52 (by decide)) rfl rfl (Nat.le_of_ble_eq_true rfl) dX12_leafRead_41 (fun H locs hP hD hS => ?_)
      have hP : va_P (dC, dI) vwCl [(eA0 (rf 0) (ck 0) 900 f_tape), (eA0 (rf 3) (ck 3) 118 f_words), (eA0 (rf 41) (ck 41) 128 f_knot), (eA0 (rf 42) (ck 42) 128 f_part), (eA0 (rf 43) (ck 43) 128 f_other), (eA0 (rf 46) (ck 46) 96 f_held), (mq, .inr (12, mF (upd (upd (upd g 47 u_259.1) 49 ((g 49) + 1)) 52 1) gl rf)), (eA0 (rf 45) (ck 45) 96 u_259.2)] H := hP
      have hD : va_D A [(eA0 (rf 0) (ck 0) 900 f_tape), (eA0 (rf 3) (ck 3) 118 f_words), (eA0 (rf 41) (ck 41) 128 f_knot), (eA0 (rf 42) (ck 42) 128 f_part), (eA0 (rf 43) (ck 43) 128 f_other), (eA0 (rf 46) (ck 46) 96 f_held), (mq, .inr (12, mF (upd (upd (upd g 47 u_259.1) 49 ((g 49) + 1)) 52 1) gl rf)), (eA0 (rf 45) (ck 45) 96 u_259.2)] := hD
      refine lv_aload_n hx hb dX12_leafRead_44 rfl (lv_at hl 0 rfl) ?_
      obtain ⟨hPc, hDc, hFc, hCc⟩ := zsub3 (ws' := [(mq, .inr (12, mF (upd (upd (upd g 47 u_259.1) 49 ((g 49) + 1)) 52 1) gl rf)), (eA0 (rf 0) (ck 0) 900 f_tape), (eA0 (rf 3) (ck 3) 118 f_words)]) hP hD hS hA [6, 0, 1] (by decide) rfl
      have hKc := hK.sub (tys' := [((ck 0), .int), ((ck 3), .int)]) [0, 1] rfl
      refine va_callv (va_runV (As := []) (rest := []) ⟨hx, hb, hml, hown, htw⟩ (gy_token l dC dI mq (upd (upd (upd g 47 u_259.1) 49 ((g 49) + 1)) 52 1) gl rf ck f_tape f_words H.size h0n hns hs9 hw7) (cwV 0 htw (xg_V (ck_24 _ (List.mem_of_getElem? (i := 14) rfl)) (ck_24 _ (List.mem_of_getElem? (i := 15) rfl)) (ck_24 _ (List.mem_of_getElem? (i := 16) rfl)) (ck_1 _ (List.mem_of_getElem? (i := 5) rfl)) (ck_24 _ (List.mem_of_getElem? (i := 17) rfl))) rfl rfl rfl (by exact ⟨rfl, hdc_14.1, hdc_14.2, hdd_13⟩) ⟨Nat.le_of_ble_eq_true rfl, Nat.le_of_ble_eq_true rfl⟩) ⟨fun a U g mk q => by obtain ⟨q0, q1, qP, qK, qD⟩ := q; exact ⟨q0, q1, qP, va_K.moved (u := U) (U := U.calling g mk a) (Vm.Alike.refl U.vm) qK, qD⟩, va_recv hKc hPc (ci := 12) (q0 := 0) rfl rfl, fun U hU hW => ⟨rfl, by rw [hU], by rw [hU]; exact hPc, va_K.moved hW.alike hKc, hDc.weaken (fun _ _ _ _ => trivial)⟩⟩ rfl rfl hl.1 rfl (lv_room (Nat.le_of_ble_eq_true rfl)) dX12_leafRead_45 ⟨Nat.le_of_ble_eq_true rfl, Nat.le_of_ble_eq_true rfl⟩) hS (fun q _ h => hFc q h) hFc (fun u_263 t H1 locs ht hvm hw hB hz1 hk1 hS => ?_)
      try dsimp only at hw
      obtain ⟨hP1, hK1, hD1⟩ := hB
      rw [ht] at hP1
      have hK1 := va_K.moved hvm.symm hK1
      have hK1 : va_K (dC, dI) vwCl [] s := hK1
      obtain ⟨hP, hD⟩ := va_join (wr := [(eA0 (rf 41) (ck 41) 128 f_knot), (eA0 (rf 42) (ck 42) 128 f_part), (eA0 (rf 43) (ck 43) 128 f_other), (eA0 (rf 46) (ck 46) 96 f_held), (eA0 (rf 45) (ck 45) 96 u_259.2)]) (w1 := [(mq, .inr (12, mF (upd (upd (upd (upd (upd (upd (upd g 7 u_263.1) 8 u_263.2.1) 9 u_263.2.2.1) 10 u_263.2.2.2) 47 u_259.1) 49 ((g 49) + 1)) 52 1) gl rf)), (eA0 (rf 0) (ck 0) 900 f_tape), (eA0 (rf 3) (ck 3) 118 f_words)]) hP hD [6, 0, 1] [2, 3, 4, 5, 7] hCc rfl (by decide) (by decide) hk1 hFc hP1 hD1
      generalize H1 = H at hP hS ⊢
      have hP : va_P (dC, dI) vwCl [(eA0 (rf 41) (ck 41) 128 f_knot), (eA0 (rf 42) (ck 42) 128 f_part), (eA0 (rf 43) (ck 43) 128 f_other), (eA0 (rf 46) (ck 46) 96 f_held), (eA0 (rf 45) (ck 45) 96 u_259.2), (mq, .inr (12, mF (upd (upd (upd (upd (upd (upd (upd g 7 u_263.1) 8 u_263.2.1) 9 u_263.2.2.1) 10 u_263.2.2.2) 47 u_259.1) 49 ((g 49) + 1)) 52 1) gl rf)), (eA0 (rf 0) (ck 0) 900 f_tape), (eA0 (rf 3) (ck 3) 118 f_words)] H := hP
      have hD : va_D A [(eA0 (rf 41) (ck 41) 128 f_knot), (eA0 (rf 42) (ck 42) 128 f_part), (eA0 (rf 43) (ck 43) 128 f_other), (eA0 (rf 46) (ck 46) 96 f_held), (eA0 (rf 45) (ck 45) 96 u_259.2), (mq, .inr (12, mF (upd (upd (upd (upd (upd (upd (upd g 7 u_263.1) 8 u_263.2.1) 9 u_263.2.2.1) 10 u_263.2.2.2) 47 u_259.1) 49 ((g 49) + 1)) 52 1) gl rf)), (eA0 (rf 0) (ck 0) 900 f_tape), (eA0 (rf 3) (ck 3) 118 f_words)] := hD
      refine W.widen (k := 0) (n := 0) (by omega) (by omega) ?_
      obtain ⟨hw, hp_268, hp_269, hp_270⟩ := hw
      have hq_u_263 : u_263 = (fq_token f_tape f_words (g 6) (g 7) (g 9)) := hw
      refine lv_iconst (v := 1) hx hb dX12_leafRead_48 (by decide) ?_
      refine W.widen (k := 0) (n := 0) (by omega) (by omega) ?_
      obtain ⟨hP9, hD9⟩ := zsub2 (ws' := [(mq, .inr (12, mF (upd (upd (upd (upd (upd (upd (upd g 7 u_263.1) 8 u_263.2.1) 9 u_263.2.2.1) 10 u_263.2.2.2) 47 u_259.1) 49 ((g 49) + 1)) 52 1) gl rf)), (eA0 (rf 0) (ck 0) 900 f_tape), (eA0 (rf 3) (ck 3) 118 f_words), (eA0 (rf 41) (ck 41) 128 f_knot), (eA0 (rf 42) (ck 42) 128 f_part), (eA0 (rf 43) (ck 43) 128 f_other), (eA0 (rf 45) (ck 45) 96 u_259.2), (eA0 (rf 46) (ck 46) 96 f_held)]) hP hD [5, 6, 7, 0, 1, 2, 4, 3] (by decide +kernel) rfl
      have hK9 := hK.sub (tys' := []) [] rfl
      exact W.zret (v := 1) hx hb hr (by first | rfl | decide) (fun t ht hW => ⟨⟨1, (f_knot, f_part, f_other, f_held, (g 4), (g 5), u_263.1, u_263.2.1, u_263.2.2.1, u_263.2.2.2, (g 23), (g 48), (g 50), (g 51), u_259.2, u_259.1, ((g 49) + 1), 1), rfl, ⟨((fun e9 => ⟨by rw [e9], by rw [e9]⟩ : fq_leafRead f_tape f_words f_knot f_part f_other f_wait f_held (g 4) (g 5) (g 6) (g 7) (g 8) (g 9) (g 10) (g 23) (g 47) (g 48) (g 49) (g 50) (g 51) (g 52) = ((1 : Int32), f_knot, f_part, f_other, f_held, (g 4), (g 5), u_263.1, u_263.2.1, u_263.2.2.1, u_263.2.2.2, (g 23), (g 48), (g 50), (g 51), u_259.2, u_259.1, ((g 49) + 1), (1 : Int32)) → _) ((by rw [fq_leafRead]; (try rw [← hq_r_1]); (try rw [xL_eq]); (try rw [if_neg c_2]); (try rw [if_neg c_257]); (try rw [← hq_u_259]); (try rw [xL_eq]); (try rw [← hq_u_263]); (try rw [xL_eq]); try rfl))), Or.inr rfl, hp_268, hp_269, (Or.inr hk6), (Or.inr (gq_leafRead_s91 (y0 := u_259.1) (y1 := g 49) (y2 := g 47) (y3 := g 23) (y4 := g 50) c_257 hw0_0 hwu hk6 hwt7 hk0 hLI hct6 hbr0 hbr8)), hKu, (Or.inr hk0), (Or.inr (gq_leafRead_s92 (y0 := g 23) (y1 := u_259.1) (y2 := g 49) (y3 := g 50) (y4 := g 47) hw0_0 hwu hk6 hwt7 hk0 hLI hbr0 hbr8)), hct0, hct6, (Or.inr (gq_leafRead_s93 (y0 := g 49) hbr0 hbr8)), (Or.inr (gq_leafRead_s94 (y0 := g 49) c_257 hbr8)), (Or.inr (gq_leafRead_s95 (y0 := g 51) hwn)), (Or.inr (gq_leafRead_s96 (y0 := g 51) hwn)), (Or.inr (gq_leafRead_s97 (y0 := g 23) (y1 := g 51) hk6 hk0 hwn)), (Or.inr (gq_leafRead_s98 (y0 := g 23))), (Or.inr ⟨hW_n, hH, hp_270, (by rw [hwn]; exact xm_open (gq_leafRead_s99 (y0 := g 49) c_257 hbr0 hbr8).1 (gq_leafRead_s99 (y0 := g 49) c_257 hbr0 hbr8).2)⟩)⟩, by rw [ht]; exact hP9, va_K.moved hW.alike hK9, hD9⟩, hS.F ht⟩) hS.2.2 dX12_leafRead_49
    · refine lv_aload_n hx hb dX12_leafRead_18 rfl (lv_at hl 0 rfl) ?_
      refine lv_iconst (v := 2) hx hb dX12_leafRead_19 (by decide) ?_
      obtain ⟨hPc, hDc, hFc, hCc⟩ := zsub3 (ws' := [(mq, .inr (12, mF g gl rf))]) hP hD hS hA [0] (by decide) rfl
      have hKc := hK.sub (tys' := []) [] rfl
      refine va_calli (va_runV (As := [.int 2]) (rest := []) ⟨hx, hb, hml, hown, htw⟩ (gq_wrong l dC dI mq g gl rf (2 : Int32) H.size) (cwV 1 htw (xg_V (ck_25 _ (List.mem_of_getElem? (i := 21) rfl)) (ck_25 _ (List.mem_of_getElem? (i := 22) rfl)) (ck_25 _ (List.mem_of_getElem? (i := 23) rfl)) (ck_1 _ (List.mem_of_getElem? (i := 5) rfl)) (ck_26 _ (List.mem_of_getElem? (i := 0) rfl))) rfl rfl rfl (by exact ⟨rfl, hdc_14.1, hdc_14.2, hdd_26⟩) ⟨Nat.le_of_ble_eq_true rfl, Nat.le_of_ble_eq_true rfl⟩) ⟨fun a U g mk q => by obtain ⟨q0, q1, qP, qK, qD⟩ := q; exact ⟨q0, q1, qP, va_K.moved (u := U) (U := U.calling g mk a) (Vm.Alike.refl U.vm) qK, qD⟩, va_recv hKc hPc (ci := 12) (q0 := 0) rfl rfl, fun U hU hW => ⟨rfl, by rw [hU], by rw [hU]; exact hPc, va_K.moved hW.alike hKc, hDc.weaken (fun _ _ _ _ => trivial)⟩⟩ rfl rfl hl.1 rfl (lv_room (Nat.le_of_ble_eq_true rfl)) dX12_leafRead_20 ⟨Nat.le_of_ble_eq_true rfl, Nat.le_of_ble_eq_true rfl⟩) hS (fun q _ h => hFc q h) hFc (fun r_271 u_272 t H1 locs ht hvm hw hB hz1 hk1 hS => ?_)
      try dsimp only at hw
      obtain ⟨hP1, hK1, hD1⟩ := hB
      rw [ht] at hP1
      have hK1 := va_K.moved hvm.symm hK1
      have hK1 : va_K (dC, dI) vwCl [] s := hK1
      obtain ⟨hP, hD⟩ := va_join (wr := [(eA0 (rf 0) (ck 0) 900 f_tape), (eA0 (rf 3) (ck 3) 118 f_words), (eA0 (rf 41) (ck 41) 128 f_knot), (eA0 (rf 42) (ck 42) 128 f_part), (eA0 (rf 43) (ck 43) 128 f_other), (eA0 (rf 45) (ck 45) 96 f_wait), (eA0 (rf 46) (ck 46) 96 f_held)]) (w1 := [(mq, .inr (12, mF (upd (upd g 4 u_272.1) 5 u_272.2) gl rf))]) hP hD [0] [1, 2, 3, 4, 5, 6, 7] hCc rfl (by decide) (by decide) hk1 hFc hP1 hD1
      generalize H1 = H at hP hS ⊢
      have hP : va_P (dC, dI) vwCl [(eA0 (rf 0) (ck 0) 900 f_tape), (eA0 (rf 3) (ck 3) 118 f_words), (eA0 (rf 41) (ck 41) 128 f_knot), (eA0 (rf 42) (ck 42) 128 f_part), (eA0 (rf 43) (ck 43) 128 f_other), (eA0 (rf 45) (ck 45) 96 f_wait), (eA0 (rf 46) (ck 46) 96 f_held), (mq, .inr (12, mF (upd (upd g 4 u_272.1) 5 u_272.2) gl rf))] H := hP
      have hD : va_D A [(eA0 (rf 0) (ck 0) 900 f_tape), (eA0 (rf 3) (ck 3) 118 f_words), (eA0 (rf 41) (ck 41) 128 f_knot), (eA0 (rf 42) (ck 42) 128 f_part), (eA0 (rf 43) (ck 43) 128 f_other), (eA0 (rf 45) (ck 45) 96 f_wait), (eA0 (rf 46) (ck 46) 96 f_held), (mq, .inr (12, mF (upd (upd g 4 u_272.1) 5 u_272.2) gl rf))] := hD
      refine W.widen (k := 0) (n := 0) (by omega) (by omega) ?_
      obtain ⟨hw, hb_r_271, hp_275⟩ := hw
      obtain ⟨X_276, hX_276⟩ : ∃ X9 : Int32 × (Int32) × (Int32), X9 = (fq_wrong (2 : Int32) (g 10)) := ⟨_, rfl⟩
      have hq_r_271 : r_271 = X_276.1 := by rw [hX_276]; exact hw.1
      have hq_u_272 : u_272 = X_276.2 := by rw [hX_276]; exact hw.2
      refine W.widen (k := 0) (n := 0) (by omega) (by omega) ?_
      obtain ⟨hP9, hD9⟩ := zsub2 (ws' := [(mq, .inr (12, mF (upd (upd g 4 u_272.1) 5 u_272.2) gl rf)), (eA0 (rf 0) (ck 0) 900 f_tape), (eA0 (rf 3) (ck 3) 118 f_words), (eA0 (rf 41) (ck 41) 128 f_knot), (eA0 (rf 42) (ck 42) 128 f_part), (eA0 (rf 43) (ck 43) 128 f_other), (eA0 (rf 45) (ck 45) 96 f_wait), (eA0 (rf 46) (ck 46) 96 f_held)]) hP hD [7, 0, 1, 2, 3, 4, 5, 6] (by decide +kernel) rfl
      have hK9 := hK.sub (tys' := []) [] rfl
      exact W.zret (v := r_271) hx hb hr (xz_nar hb_r_271) (fun t ht hW => ⟨⟨r_271, (f_knot, f_part, f_other, f_held, u_272.1, u_272.2, (g 7), (g 8), (g 9), (g 10), (g 23), (g 48), (g 50), (g 51), f_wait, (g 47), (g 49), (g 52)), rfl, ⟨((fun e9 => ⟨by rw [e9], by rw [e9]⟩ : fq_leafRead f_tape f_words f_knot f_part f_other f_wait f_held (g 4) (g 5) (g 6) (g 7) (g 8) (g 9) (g 10) (g 23) (g 47) (g 48) (g 49) (g 50) (g 51) (g 52) = (r_271, f_knot, f_part, f_other, f_held, u_272.1, u_272.2, (g 7), (g 8), (g 9), (g 10), (g 23), (g 48), (g 50), (g 51), f_wait, (g 47), (g 49), (g 52)) → _) ((by rw [fq_leafRead]; (try rw [← hq_r_1]); (try rw [xL_eq]); (try rw [if_neg c_2]); (try rw [if_pos c_257]); (try rw [← hX_276]); (try rw [xL_eq]); (try rw [← hq_r_271]); (try rw [← hq_u_272]); try rfl))), hb_r_271, h0n, hns, (Or.inl hp_275), (Or.inl hp_275), hKu, (Or.inl hp_275), (Or.inl hp_275), hct0, hct6, (Or.inl hp_275), (Or.inl hp_275), (Or.inl hp_275), (Or.inl hp_275), (Or.inl hp_275), (Or.inl hp_275), (Or.inl hp_275)⟩, by rw [ht]; exact hP9, va_K.moved hW.alike hK9, hD9⟩, hS.F ht⟩) hS.2.2 dX12_leafRead_23
