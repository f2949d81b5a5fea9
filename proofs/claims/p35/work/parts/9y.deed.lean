def fq_deed (f_sky : Nat → Int32) (f_landHas : Nat → Int32) (f_first : Nat → Int32) (f_last : Nat → Int32) (f_deedOn : Nat → Int64) (f_deedHas : Nat → Int32) (f_knot : Nat → Int32) (f_part : Nat → Int32) (f_other : Nat → Int32) (f_names : Nat → Int64) (f_value : Nat → Int64) (a0 : Int32) (a1 : Int32) (a2 : Int32) (m_lands : Int32) (m_deeds : Int32) (m_gotYear : Int64) (m_gotDay : Int64) (m_isError : Int32) : Int64 × (Int32) × (Int64) × (Int64) × (Int32) × (Nat → Int64) × (Nat → Int64) := (if a0 < 0 then ((-1 : Int64), (0 : Int32), m_gotYear, m_gotDay, m_isError, f_names, f_value) else (if m_deeds ≤ a0 then ((-1 : Int64), (0 : Int32), m_gotYear, m_gotDay, m_isError, f_names, f_value) else (xL ((fq_isLand a1 m_lands)) (fun r_3 => (if r_3 = 0 then ((-1 : Int64), (0 : Int32), m_gotYear, m_gotDay, m_isError, f_names, f_value) else (xL ((fq_isIn a2 (0 : Int32) (2 : Int32))) (fun r_7 => (if r_7 = 0 then ((-1 : Int64), (0 : Int32), m_gotYear, m_gotDay, m_isError, f_names, f_value) else (xL ((fq_date1 f_landHas a1 (f_deedOn a0.toNatClampNeg) m_gotYear m_gotDay)) (fun X_15 => (if X_15.1 = 0 then ((-1 : Int64), (0 : Int32), X_15.2.1, X_15.2.2, m_isError, f_names, f_value) else (if a2 = 0 then (f_deedOn a0.toNatClampNeg, (0 : Int32), X_15.2.1, X_15.2.2, m_isError, f_names, f_value) else (xL ((fq_dueOf f_sky f_landHas f_first f_last f_deedOn f_deedHas f_knot f_part f_other f_names f_value a0 a1 m_lands X_15.2.1 X_15.2.2 m_isError)) (fun X_26 => (if lg_cmp X_26.1 0 < 0 then (X_26.1, (0 : Int32), X_26.2.1, X_26.2.2.1, X_26.2.2.2.1, X_26.2.2.2.2.1, X_26.2.2.2.2.2) else (if a2 = 1 then (X_26.1, (0 : Int32), X_26.2.1, X_26.2.2.1, X_26.2.2.2.1, X_26.2.2.2.2.1, X_26.2.2.2.2.2) else (xL ((fq_endedBy f_landHas a1 X_26.1 X_26.2.1 X_26.2.2.1)) (fun X_33 => (xL ((fq_endedBy f_landHas a1 (f_deedOn a0.toNatClampNeg) X_33.2.1 X_33.2.2)) (fun X_38 => ((((f_deedHas (((3 * a0) + 2).toNatClampNeg)).toInt64) * (X_33.1 - X_38.1)), (0 : Int32), X_38.2.1, X_38.2.2, X_26.2.2.2.1, X_26.2.2.2.2.1, X_26.2.2.2.2.2)))))))))))))))))))))
theorem gq_deed_s0 {y0 : Int32} {y1 : Int32} (h0 : ¬ (y0 < 0)) (h1 : ¬ (y1 ≤ y0)) (h2 : y1 ≤ 4) : ¬ (y0 < 0) ∧ ¬ (8 ≤ y0) := by lia
theorem gq_deed_s1 {y0 : Int32} {y1 : Int32} (h0 : y0 < y1) (h1 : y1 ≤ 4) : y0 ≤ 7 := by lia
theorem gq_deed_s2 {y0 : Int64} (h0 : y0 ≤ 1000000000000) : y0 ≤ 2000000000000 := by lia
theorem gq_deed_s3 {y0 : Int32} {y1 : Int32} (h0 : ¬ (y1 ≤ y0)) (h1 : y1 ≤ 4) : y0 < 4 := by lia
theorem gq_deed_s4 {y0 : Int32} {y1 : Int32} (h0 : y0 < y1) (h1 : y1 ≤ 4) : y0 ≤ 7 := by lia
theorem gq_deed_s5 {y0 : Int32} {y1 : Int32} (h0 : ¬ (y0 < 0)) (h1 : ¬ (y1 ≤ y0)) (h2 : y1 ≤ 4) : ¬ (((3 * y0) + 2) < 0) ∧ ¬ (24 ≤ ((3 * y0) + 2)) := by lia
theorem gq_deed_s6 {y0 : Int32} {y1 : Int32} (h0 : y0 < y1) (h1 : y1 ≤ 4) : y0 ≤ 7 := by lia
theorem gq_deed_s7 {y0 : Int32} {y1 : Int32} (h0 : ¬ (y0 < 0)) (h1 : ¬ (y1 ≤ y0)) (h2 : y1 ≤ 4) : ¬ (y0 < 0) ∧ ¬ (8 ≤ y0) := by lia
theorem gq_deed_s8 {y0 : Int32} {y1 : Int32} (h0 : y0 < y1) (h1 : y1 ≤ 4) : y0 ≤ 7 := by lia
theorem gq_deed_s9 {y0 : Int64} (h0 : y0 ≤ 1000000000000) : y0 ≤ 2000000000000 := by lia
theorem gq_deed_s10 {y0 : Int32} {y1 : Int32} (h0 : ¬ (y0 < 0)) (h1 : ¬ (y1 ≤ y0)) (h2 : y1 ≤ 4) : ¬ (y0 < 0) ∧ ¬ (8 ≤ y0) := by lia
theorem dX12_deed_0 : decode cX12_deed 0 = .ok (.aload_n 0, 1) := zk_42 (by decide +kernel)
theorem dX12_deed_1 : decode cX12_deed 1 = .ok (.iconst 0, 1) := zk_3 (by decide +kernel)
theorem dX12_deed_2 : decode cX12_deed 2 = .ok (.putfield 119, 3) := zk_181 (by decide +kernel)
theorem dX12_deed_5 : decode cX12_deed 5 = .ok (.iload_n 1, 1) := zk_27 (by decide +kernel)
theorem dX12_deed_6 : decode cX12_deed 6 = .ok (.ifCond .lt 42, 3) := zk_155 (by decide +kernel)
theorem dX12_deed_48 : decode cX12_deed 48 = .ok (.ldc2_w 273, 3) := zk_20 (by decide +kernel)
theorem dX12_deed_51 : decode cX12_deed 51 = .ok (.lreturn, 1) := zk_173 (by decide +kernel)
theorem dX12_deed_9 : decode cX12_deed 9 = .ok (.iload_n 1, 1) := zk_27 (by decide +kernel)
theorem dX12_deed_10 : decode cX12_deed 10 = .ok (.aload_n 0, 1) := zk_42 (by decide +kernel)
theorem dX12_deed_11 : decode cX12_deed 11 = .ok (.getfield 226, 3) := zk_180 (by decide +kernel)
theorem dX12_deed_14 : decode cX12_deed 14 = .ok (.if_icmp .ge 34, 3) := zk_162 (by decide +kernel)
theorem dX12_deed_17 : decode cX12_deed 17 = .ok (.aload_n 0, 1) := zk_42 (by decide +kernel)
theorem dX12_deed_18 : decode cX12_deed 18 = .ok (.iload_n 2, 1) := zk_28 (by decide +kernel)
theorem dX12_deed_19 : decode cX12_deed 19 = .ok (.invokevirtual 404, 3) := zk_182 (by decide +kernel)
theorem dX12_deed_22 : decode cX12_deed 22 = .ok (.ifCond .eq 26, 3) := zk_153 (by decide +kernel)
theorem dX12_deed_25 : decode cX12_deed 25 = .ok (.iload_n 3, 1) := zk_29 (by decide +kernel)
theorem dX12_deed_26 : decode cX12_deed 26 = .ok (.iconst 0, 1) := zk_3 (by decide +kernel)
theorem dX12_deed_27 : decode cX12_deed 27 = .ok (.iconst 2, 1) := zk_5 (by decide +kernel)
theorem dX12_deed_28 : decode cX12_deed 28 = .ok (.invokestatic 166, 3) := zk_184 (by decide +kernel)
theorem dX12_deed_31 : decode cX12_deed 31 = .ok (.ifCond .eq 17, 3) := zk_153 (by decide +kernel)
theorem dX12_deed_34 : decode cX12_deed 34 = .ok (.aload_n 0, 1) := zk_42 (by decide +kernel)
theorem dX12_deed_35 : decode cX12_deed 35 = .ok (.iload_n 2, 1) := zk_28 (by decide +kernel)
theorem dX12_deed_36 : decode cX12_deed 36 = .ok (.aload_n 0, 1) := zk_42 (by decide +kernel)
theorem dX12_deed_37 : decode cX12_deed 37 = .ok (.getfield 51, 3) := zk_180 (by decide +kernel)
theorem dX12_deed_40 : decode cX12_deed 40 = .ok (.iload_n 1, 1) := zk_27 (by decide +kernel)
theorem dX12_deed_41 : decode cX12_deed 41 = .ok (.laload, 1) := zk_47 (by decide +kernel)
theorem dX12_deed_42 : decode cX12_deed 42 = .ok (.invokevirtual 416, 3) := zk_182 (by decide +kernel)
theorem dX12_deed_45 : decode cX12_deed 45 = .ok (.ifCond .ne 7, 3) := zk_154 (by decide +kernel)
theorem dX12_deed_52 : decode cX12_deed 52 = .ok (.iload_n 3, 1) := zk_29 (by decide +kernel)
theorem dX12_deed_53 : decode cX12_deed 53 = .ok (.ifCond .ne 10, 3) := zk_154 (by decide +kernel)
theorem dX12_deed_63 : decode cX12_deed 63 = .ok (.aload_n 0, 1) := zk_42 (by decide +kernel)
theorem dX12_deed_64 : decode cX12_deed 64 = .ok (.iload_n 1, 1) := zk_27 (by decide +kernel)
theorem dX12_deed_65 : decode cX12_deed 65 = .ok (.iload_n 2, 1) := zk_28 (by decide +kernel)
theorem dX12_deed_66 : decode cX12_deed 66 = .ok (.invokevirtual 480, 3) := zk_182 (by decide +kernel)
theorem dX12_deed_69 : decode cX12_deed 69 = .ok (.lstore 4, 2) := zk_55 (by decide +kernel)
theorem dX12_deed_71 : decode cX12_deed 71 = .ok (.lload 4, 2) := zk_22 (by decide +kernel)
theorem dX12_deed_73 : decode cX12_deed 73 = .ok (.lconst 0, 1) := zk_9 (by decide +kernel)
theorem dX12_deed_74 : decode cX12_deed 74 = .ok (.lcmp, 1) := zk_148 (by decide +kernel)
theorem dX12_deed_75 : decode cX12_deed 75 = .ok (.ifCond .lt 8, 3) := zk_155 (by decide +kernel)
theorem dX12_deed_83 : decode cX12_deed 83 = .ok (.lload 4, 2) := zk_22 (by decide +kernel)
theorem dX12_deed_85 : decode cX12_deed 85 = .ok (.lreturn, 1) := zk_173 (by decide +kernel)
theorem dX12_deed_78 : decode cX12_deed 78 = .ok (.iload_n 3, 1) := zk_29 (by decide +kernel)
theorem dX12_deed_79 : decode cX12_deed 79 = .ok (.iconst 1, 1) := zk_4 (by decide +kernel)
theorem dX12_deed_80 : decode cX12_deed 80 = .ok (.if_icmp .ne 6, 3) := zk_160 (by decide +kernel)
theorem dX12_deed_86 : decode cX12_deed 86 = .ok (.aload_n 0, 1) := zk_42 (by decide +kernel)
theorem dX12_deed_87 : decode cX12_deed 87 = .ok (.getfield 54, 3) := zk_180 (by decide +kernel)
theorem dX12_deed_90 : decode cX12_deed 90 = .ok (.iconst 3, 1) := zk_6 (by decide +kernel)
theorem dX12_deed_91 : decode cX12_deed 91 = .ok (.iload_n 1, 1) := zk_27 (by decide +kernel)
theorem dX12_deed_92 : decode cX12_deed 92 = .ok (.imul, 1) := zk_104 (by decide +kernel)
theorem dX12_deed_93 : decode cX12_deed 93 = .ok (.iconst 2, 1) := zk_5 (by decide +kernel)
theorem dX12_deed_94 : decode cX12_deed 94 = .ok (.iadd, 1) := zk_96 (by decide +kernel)
theorem dX12_deed_95 : decode cX12_deed 95 = .ok (.iaload, 1) := zk_46 (by decide +kernel)
theorem dX12_deed_96 : decode cX12_deed 96 = .ok (.i2l, 1) := zk_133 (by decide +kernel)
theorem dX12_deed_97 : decode cX12_deed 97 = .ok (.aload_n 0, 1) := zk_42 (by decide +kernel)
theorem dX12_deed_98 : decode cX12_deed 98 = .ok (.iload_n 2, 1) := zk_28 (by decide +kernel)
theorem dX12_deed_99 : decode cX12_deed 99 = .ok (.lload 4, 2) := zk_22 (by decide +kernel)
theorem dX12_deed_101 : decode cX12_deed 101 = .ok (.invokevirtual 484, 3) := zk_182 (by decide +kernel)
theorem dX12_deed_104 : decode cX12_deed 104 = .ok (.aload_n 0, 1) := zk_42 (by decide +kernel)
theorem dX12_deed_105 : decode cX12_deed 105 = .ok (.iload_n 2, 1) := zk_28 (by decide +kernel)
theorem dX12_deed_106 : decode cX12_deed 106 = .ok (.aload_n 0, 1) := zk_42 (by decide +kernel)
theorem dX12_deed_107 : decode cX12_deed 107 = .ok (.getfield 51, 3) := zk_180 (by decide +kernel)
theorem dX12_deed_110 : decode cX12_deed 110 = .ok (.iload_n 1, 1) := zk_27 (by decide +kernel)
theorem dX12_deed_111 : decode cX12_deed 111 = .ok (.laload, 1) := zk_47 (by decide +kernel)
theorem dX12_deed_112 : decode cX12_deed 112 = .ok (.invokevirtual 484, 3) := zk_182 (by decide +kernel)
theorem dX12_deed_115 : decode cX12_deed 115 = .ok (.lsub, 1) := zk_101 (by decide +kernel)
theorem dX12_deed_116 : decode cX12_deed 116 = .ok (.lmul, 1) := zk_105 (by decide +kernel)
theorem dX12_deed_117 : decode cX12_deed 117 = .ok (.lreturn, 1) := zk_173 (by decide +kernel)
theorem dX12_deed_56 : decode cX12_deed 56 = .ok (.aload_n 0, 1) := zk_42 (by decide +kernel)
theorem dX12_deed_57 : decode cX12_deed 57 = .ok (.getfield 51, 3) := zk_180 (by decide +kernel)
theorem dX12_deed_60 : decode cX12_deed 60 = .ok (.iload_n 1, 1) := zk_27 (by decide +kernel)
theorem dX12_deed_61 : decode cX12_deed 61 = .ok (.laload, 1) := zk_47 (by decide +kernel)
theorem dX12_deed_62 : decode cX12_deed 62 = .ok (.lreturn, 1) := zk_173 (by decide +kernel)
set_option maxHeartbeats 4000000 in
set_option maxRecDepth 100000 in
theorem gq_deed (l : Launch) (dC : Nat → ClassId) (dI : Nat → Nat → Nat) (mq : Nat) (g : Nat → Int32) (gl : Nat → Int64) (rf : Nat → Nat) (ck : Nat → ClassId) (f_sky : Nat → Int32) (f_landHas : Nat → Int32) (f_first : Nat → Int32) (f_last : Nat → Int32) (f_deedOn : Nat → Int64) (f_deedHas : Nat → Int32) (f_knot : Nat → Int32) (f_part : Nat → Int32) (f_other : Nat → Int32) (f_names : Nat → Int64) (f_value : Nat → Int64) (a0 : Int32) (a1 : Int32) (a2 : Int32) (sz : Nat) (hfe0 : ¬ (g 13) < 0) (hfe4 : (g 13) ≤ 4) (hFA : ∀ k : Int32, ¬ k < 0 → k < (g 13) → ¬ (f_first k.toNatClampNeg) < 0 ∧ (f_last k.toNatClampNeg) ≤ 64 ∧ ¬ (f_last k.toNatClampNeg) < 1) (hKA : ∀ k : Nat, k < 64 → xKV f_knot f_part f_other k) (hln0 : ¬ (g 12) < 0) (hln4 : (g 12) ≤ 4) (hLZ : ∀ k : Int32, ¬ k < 0 → k < (g 12) → ¬ (f_landHas ((3 * k).toNatClampNeg)) = 0) (hs0 : ¬ (f_sky 0) < 1) (hs2 : ¬ (f_sky 2) < 1) (hs5 : ¬ (f_sky 5) < 1) (hde0 : ¬ (g 15) < 0) (hde4 : (g 15) ≤ 4) (hLZ1 : ∀ k : Int32, ¬ k < 0 → k < (g 12) → ¬ (f_landHas ((3 * k).toNatClampNeg)) < 1) (hDE : ∀ k : Int32, ¬ k < 0 → k < (g 15) → ¬ (f_deedOn k.toNatClampNeg) < 0 ∧ (f_deedOn k.toNatClampNeg) ≤ 1000000000000 ∧ ((f_deedHas ((3 * k).toNatClampNeg)) = 2 → ¬ (f_deedHas (((3 * k) + 1).toNatClampNeg)) < 0 ∧ (f_deedHas (((3 * k) + 1).toNatClampNeg)) < (g 13))) : Met l yX12_deed (Cond.code yX12_deed cX12_deed 6 (some .long) :: wsL_law) ({ frames := 5, cells := 0, slots := 0, locals := 129 }) (va_Pc [.ref mq, .int a0, .int a1, .int a2] (fun U => U.heap.size = sz ∧ va_P (dC, dI) vwCl [(mq, .inr (12, mF g gl rf)), (eA0 (rf 24) (ck 24) 14 f_sky), (eA0 (rf 29) (ck 29) 24 f_landHas), (eA0 (rf 31) (ck 31) 8 f_first), (eA0 (rf 32) (ck 32) 8 f_last), (eA1 (rf 37) (ck 37) 8 f_deedOn), (eA0 (rf 38) (ck 38) 24 f_deedHas), (eA0 (rf 41) (ck 41) 128 f_knot), (eA0 (rf 42) (ck 42) 128 f_part), (eA0 (rf 43) (ck 43) 128 f_other), (eA1 (rf 55) (ck 55) 6 f_names), (eA1 (rf 56) (ck 56) 64 f_value)] U.heap ∧ va_K (dC, dI) vwCl [((ck 24), .int), ((ck 29), .int), ((ck 31), .int), ((ck 32), .int), ((ck 37), .long), ((ck 38), .int), ((ck 41), .int), ((ck 42), .int), ((ck 43), .int), ((ck 55), .long), ((ck 56), .long)] U ∧ va_D (fun _ => True) [(mq, .inr (12, mF g gl rf)), (eA0 (rf 24) (ck 24) 14 f_sky), (eA0 (rf 29) (ck 29) 24 f_landHas), (eA0 (rf 31) (ck 31) 8 f_first), (eA0 (rf 32) (ck 32) 8 f_last), (eA1 (rf 37) (ck 37) 8 f_deedOn), (eA0 (rf 38) (ck 38) 24 f_deedHas), (eA0 (rf 41) (ck 41) 128 f_knot), (eA0 (rf 42) (ck 42) 128 f_part), (eA0 (rf 43) (ck 43) 128 f_other), (eA1 (rf 55) (ck 55) 6 f_names), (eA1 (rf 56) (ck 56) 64 f_value)])) (va_Ql (fun (r : Int64) (u : (Int32) × (Int64) × (Int64) × (Int32) × (Nat → Int64) × (Nat → Int64)) => r = (fq_deed f_sky f_landHas f_first f_last f_deedOn f_deedHas f_knot f_part f_other f_names f_value a0 a1 a2 (g 12) (g 15) (gl 53) (gl 54) (g 57)).1 ∧ u = (fq_deed f_sky f_landHas f_first f_last f_deedOn f_deedHas f_knot f_part f_other f_names f_value a0 a1 a2 (g 12) (g 15) (gl 53) (gl 54) (g 57)).2) (fun (u : (Int32) × (Int64) × (Int64) × (Int32) × (Nat → Int64) × (Nat → Int64)) t => va_P (dC, dI) vwCl [(mq, .inr (12, mF (upd (upd g 2 u.1) 57 u.2.2.2.1) (vp_updL (vp_updL gl 53 u.2.1) 54 u.2.2.1) rf)), (eA0 (rf 24) (ck 24) 14 f_sky), (eA0 (rf 29) (ck 29) 24 f_landHas), (eA0 (rf 31) (ck 31) 8 f_first), (eA0 (rf 32) (ck 32) 8 f_last), (eA1 (rf 37) (ck 37) 8 f_deedOn), (eA0 (rf 38) (ck 38) 24 f_deedHas), (eA0 (rf 41) (ck 41) 128 f_knot), (eA0 (rf 42) (ck 42) 128 f_part), (eA0 (rf 43) (ck 43) 128 f_other), (eA1 (rf 55) (ck 55) 6 u.2.2.2.2.1), (eA1 (rf 56) (ck 56) 64 u.2.2.2.2.2)] t.heap ∧ va_K (dC, dI) vwCl [] t ∧ va_D (va_A [(mq, .inr (12, mF g gl rf)), (eA0 (rf 24) (ck 24) 14 f_sky), (eA0 (rf 29) (ck 29) 24 f_landHas), (eA0 (rf 31) (ck 31) 8 f_first), (eA0 (rf 32) (ck 32) 8 f_last), (eA1 (rf 37) (ck 37) 8 f_deedOn), (eA0 (rf 38) (ck 38) 24 f_deedHas), (eA0 (rf 41) (ck 41) 128 f_knot), (eA0 (rf 42) (ck 42) 128 f_part), (eA0 (rf 43) (ck 43) 128 f_other), (eA1 (rf 55) (ck 55) 6 f_names), (eA1 (rf 56) (ck 56) 64 f_value)] sz) [(mq, .inr (12, mF (upd (upd g 2 u.1) 57 u.2.2.2.1) (vp_updL (vp_updL gl 53 u.2.1) 54 u.2.2.1) rf)), (eA0 (rf 24) (ck 24) 14 f_sky), (eA0 (rf 29) (ck 29) 24 f_landHas), (eA0 (rf 31) (ck 31) 8 f_first), (eA0 (rf 32) (ck 32) 8 f_last), (eA1 (rf 37) (ck 37) 8 f_deedOn), (eA0 (rf 38) (ck 38) 24 f_deedHas), (eA0 (rf 41) (ck 41) 128 f_knot), (eA0 (rf 42) (ck 42) 128 f_part), (eA0 (rf 43) (ck 43) 128 f_other), (eA1 (rf 55) (ck 55) 6 u.2.2.2.2.1), (eA1 (rf 56) (ck 56) 64 u.2.2.2.2.2)]) (va_A [(mq, .inr (12, mF g gl rf)), (eA0 (rf 24) (ck 24) 14 f_sky), (eA0 (rf 29) (ck 29) 24 f_landHas), (eA0 (rf 31) (ck 31) 8 f_first), (eA0 (rf 32) (ck 32) 8 f_last), (eA1 (rf 37) (ck 37) 8 f_deedOn), (eA0 (rf 38) (ck 38) 24 f_deedHas), (eA0 (rf 41) (ck 41) 128 f_knot), (eA0 (rf 42) (ck 42) 128 f_part), (eA0 (rf 43) (ck 43) 128 f_other), (eA1 (rf 55) (ck 55) 6 f_names), (eA1 (rf 56) (ck 56) 64 f_value)] sz)) 0 0 (va_A [(mq, .inr (12, mF g gl rf)), (eA0 (rf 24) (ck 24) 14 f_sky), (eA0 (rf 29) (ck 29) 24 f_landHas), (eA0 (rf 31) (ck 31) 8 f_first), (eA0 (rf 32) (ck 32) 8 f_last), (eA1 (rf 37) (ck 37) 8 f_deedOn), (eA0 (rf 38) (ck 38) 24 f_deedHas), (eA0 (rf 41) (ck 41) 128 f_knot), (eA0 (rf 42) (ck 42) 128 f_part), (eA0 (rf 43) (ck 43) 128 f_other), (eA1 (rf 55) (ck 55) 6 f_names), (eA1 (rf 56) (ck 56) 64 f_value)] sz) := by
  refine Met.ofW (cc := cX12_deed) (maxL := 6) (ret := (some .long)) (by decide) rfl ?_
  intro p e s m args below meth c s₁ B hml hv
  obtain ⟨rfl, hsz, hP, hK, hD0⟩ := hv
  have hx := B.exec
  have hb := B.bytes
  have hr := B.returns
  have hts := atoms_spec (ws := Cond.code yX12_deed cX12_deed 6 (some .long) :: wsL_law) B.pre
  have htw : ∀ w ∈ wsL_law, w.before _ s = true := fun w h => hts w (List.mem_cons_of_mem _ h)
  have hown : s.vm.findClass RX12 = some m.cls := findClass_of_methodNamed B.named
  have hlocks := B.notSynchronized
  subst hsz
  have hD := hD0.self (sz := s.heap.size)
  generalize hAe : va_A [(mq, .inr (12, mF g gl rf)), (eA0 (rf 24) (ck 24) 14 f_sky), (eA0 (rf 29) (ck 29) 24 f_landHas), (eA0 (rf 31) (ck 31) 8 f_first), (eA0 (rf 32) (ck 32) 8 f_last), (eA1 (rf 37) (ck 37) 8 f_deedOn), (eA0 (rf 38) (ck 38) 24 f_deedHas), (eA0 (rf 41) (ck 41) 128 f_knot), (eA0 (rf 42) (ck 42) 128 f_part), (eA0 (rf 43) (ck 43) 128 f_other), (eA1 (rf 55) (ck 55) 6 f_names), (eA1 (rf 56) (ck 56) 64 f_value)] s.heap.size = A at hD ⊢
  have hA : ∀ q : Nat, s.heap.size ≤ q → A q := fun q h => by rw [← hAe]; exact Or.inr h
  obtain ⟨H, rH⟩ : ∃ z : Heap, z = s.heap := ⟨_, rfl⟩
  have hS : va_S A s.heap H [] := by rw [rH]; exact va_S.rf
  have hP : va_P (dC, dI) vwCl [(mq, .inr (12, mF g gl rf)), (eA0 (rf 24) (ck 24) 14 f_sky), (eA0 (rf 29) (ck 29) 24 f_landHas), (eA0 (rf 31) (ck 31) 8 f_first), (eA0 (rf 32) (ck 32) 8 f_last), (eA1 (rf 37) (ck 37) 8 f_deedOn), (eA0 (rf 38) (ck 38) 24 f_deedHas), (eA0 (rf 41) (ck 41) 128 f_knot), (eA0 (rf 42) (ck 42) 128 f_part), (eA0 (rf 43) (ck 43) 128 f_other), (eA1 (rf 55) (ck 55) 6 f_names), (eA1 (rf 56) (ck 56) 64 f_value)] H := by rw [rH]; exact hP
  rw [← rH]
  have hl := lv_entry ([.ref mq, .int a0, .int a1, .int a2]) (n := 6) (Nat.le_of_ble_eq_true rfl)
  rw [lg_entry_eq]
  generalize (lg_sl ([.ref mq, .int a0, .int a1, .int a2]) ++ List.replicate (6 - (lg_sl ([.ref mq, .int a0, .int a1, .int a2])).length) Slot.unset).toArray = ls at hl ⊢
  have hl : lv_has ls 6 [(0, .ref mq), (1, .int a0), (2, .int a1), (3, .int a2)] := hl
  refine lv_aload_n hx hb dX12_deed_0 rfl (lv_at hl 0 rfl) ?_
  refine lv_iconst (v := 0) hx hb dX12_deed_1 (by decide) ?_
  refine va_put (D := (dC, dI)) (ci := 12) (v := .int 0) (ty := tyX12 2) (C := RX12) (T := TX12) (N := 76) hx hb htw inlX12 tyX12 tyX12_ok nmX12 hown hK hP hD hS 0 rfl rfl 2 (by decide) (htw _ (ck_12 _ (List.mem_of_getElem? (i := 16) rfl))) (fun _ h9 => h9) rfl (tyX12_ok 2 (by decide)) rfl rfl (Nat.le_of_ble_eq_true rfl) dX12_deed_2 (fun H locs hP hD hS => ?_)
  obtain ⟨hP, hD⟩ := zre [(mq, .inr (12, mF (upd g 2 0) gl rf)), (eA0 (rf 24) (ck 24) 14 f_sky), (eA0 (rf 29) (ck 29) 24 f_landHas), (eA0 (rf 31) (ck 31) 8 f_first), (eA0 (rf 32) (ck 32) 8 f_last), (eA1 (rf 37) (ck 37) 8 f_deedOn), (eA0 (rf 38) (ck 38) 24 f_deedHas), (eA0 (rf 41) (ck 41) 128 f_knot), (eA0 (rf 42) (ck 42) 128 f_part), (eA0 (rf 43) (ck 43) 128 f_other), (eA1 (rf 55) (ck 55) 6 f_names), (eA1 (rf 56) (ck 56) 64 f_value)] hP hD rfl
  refine lv_iload_n hx hb dX12_deed_5 rfl (lv_at hl 1 rfl) ?_
  refine lv_if_lt (tgt := 48) hx hb dX12_deed_6 (by decide) (fun c_1 => ?_) (fun c_1 => ?_)
  · refine lv_ldc2 (v := (-1)) hx hb hown (htw _ (ck_29 _ (List.mem_of_getElem? (i := 13) rfl))) dX12_deed_48 ?_
    refine W.widen (k := 0) (n := 0) (by omega) (by omega) ?_
    have hP9 := hP
    have hD9 := hD
    have hK9 := hK.sub (tys' := []) [] rfl
    exact W.lret (v := (-1)) hx hb hr (fun t ht hW => ⟨⟨(-1), (0, (gl 53), (gl 54), (g 57), f_names, f_value), rfl, ((fun e9 => ⟨by rw [e9], by rw [e9]⟩ : fq_deed f_sky f_landHas f_first f_last f_deedOn f_deedHas f_knot f_part f_other f_names f_value a0 a1 a2 (g 12) (g 15) (gl 53) (gl 54) (g 57) = ((-1 : Int64), (0 : Int32), (gl 53), (gl 54), (g 57), f_names, f_value) → _) ((by rw [fq_deed]; (try rw [if_pos c_1]); try rfl))), by rw [ht]; exact hP9, va_K.moved hW.alike hK9, hD9⟩, hS.F ht⟩) hS.2.2 dX12_deed_51
  · refine lv_iload_n hx hb dX12_deed_9 rfl (lv_at hl 1 rfl) ?_
    refine lv_aload_n hx hb dX12_deed_10 rfl (lv_at hl 0 rfl) ?_
    refine va_get (D := (dC, dI)) (ci := 12) (v := .int (g 15)) (C := RX12) (T := TX12) (N := 76) hx hb htw inlX12 hown hK hP 0 rfl rfl 15 (by decide) (htw _ (ck_11 _ (List.mem_of_getElem? (i := 12) rfl))) (fun _ h9 => h9) rfl dX12_deed_11 ?_
    refine lv_icmp_ge (tgt := 48) hx hb dX12_deed_14 (by decide) (fun c_2 => ?_) (fun c_2 => ?_)
    · refine lv_ldc2 (v := (-1)) hx hb hown (htw _ (ck_29 _ (List.mem_of_getElem? (i := 13) rfl))) dX12_deed_48 ?_
      refine W.widen (k := 0) (n := 0) (by omega) (by omega) ?_
      have hP9 := hP
      have hD9 := hD
      have hK9 := hK.sub (tys' := []) [] rfl
      exact W.lret (v := (-1)) hx hb hr (fun t ht hW => ⟨⟨(-1), (0, (gl 53), (gl 54), (g 57), f_names, f_value), rfl, ((fun e9 => ⟨by rw [e9], by rw [e9]⟩ : fq_deed f_sky f_landHas f_first f_last f_deedOn f_deedHas f_knot f_part f_other f_names f_value a0 a1 a2 (g 12) (g 15) (gl 53) (gl 54) (g 57) = ((-1 : Int64), (0 : Int32), (gl 53), (gl 54), (g 57), f_names, f_value) → _) ((by rw [fq_deed]; (try rw [if_neg c_1]); (try rw [if_pos c_2]); try rfl))), by rw [ht]; exact hP9, va_K.moved hW.alike hK9, hD9⟩, hS.F ht⟩) hS.2.2 dX12_deed_51
    · refine lv_aload_n hx hb dX12_deed_17 rfl (lv_at hl 0 rfl) ?_
      refine lv_iload_n hx hb dX12_deed_18 rfl (lv_at hl 2 rfl) ?_
      have hPc := hP.sub (ws' := [(mq, .inr (12, mF (upd g 2 0) gl rf))]) [0] rfl
      have hKc := hK.sub (tys' := []) [] rfl
      refine vp_callSi (W.runV (As := [.int a1]) (rest := []) ⟨hx, hb, hml, hown, htw⟩ (gq_isLand l dC dI mq (upd g 2 0) gl rf a1) (cwV 1 htw (xg_V (ck_34 _ (List.mem_of_getElem? (i := 2) rfl)) (ck_34 _ (List.mem_of_getElem? (i := 3) rfl)) (ck_34 _ (List.mem_of_getElem? (i := 4) rfl)) (ck_1 _ (List.mem_of_getElem? (i := 5) rfl)) (ck_34 _ (List.mem_of_getElem? (i := 5) rfl))) rfl rfl rfl (by exact ⟨rfl, hdc_14.1, hdc_14.2, hdd_26⟩) ⟨Nat.le_of_ble_eq_true rfl, Nat.le_of_ble_eq_true rfl⟩) ⟨fun a U g mk q => by obtain ⟨q0, qP, qK⟩ := q; exact ⟨q0, qP, va_K.moved (u := U) (U := U.calling g mk a) (Vm.Alike.refl U.vm) qK⟩, va_recv hKc hPc (ci := 12) (q0 := 0) rfl rfl, fun U hU hW => ⟨rfl, by rw [hU]; exact hPc, va_K.moved hW.alike hKc⟩⟩ rfl rfl hl.1 rfl (lv_room (Nat.le_of_ble_eq_true rfl)) dX12_deed_19 ⟨Nat.le_of_ble_eq_true rfl, Nat.le_of_ble_eq_true rfl⟩) (fun r_3 hw => ?_)
      try dsimp only at hw
      obtain ⟨hw, hb_r_3, hp_4, hp_5⟩ := hw
      have hq_r_3 : r_3 = (fq_isLand a1 (g 12)) := hw
      refine lv_if_eq (tgt := 48) hx hb dX12_deed_22 (by decide) (fun c_6 => ?_) (fun c_6 => ?_)
      · refine lv_ldc2 (v := (-1)) hx hb hown (htw _ (ck_29 _ (List.mem_of_getElem? (i := 13) rfl))) dX12_deed_48 ?_
        refine W.widen (k := 0) (n := 0) (by omega) (by omega) ?_
        have hP9 := hP
        have hD9 := hD
        have hK9 := hK.sub (tys' := []) [] rfl
        exact W.lret (v := (-1)) hx hb hr (fun t ht hW => ⟨⟨(-1), (0, (gl 53), (gl 54), (g 57), f_names, f_value), rfl, ((fun e9 => ⟨by rw [e9], by rw [e9]⟩ : fq_deed f_sky f_landHas f_first f_last f_deedOn f_deedHas f_knot f_part f_other f_names f_value a0 a1 a2 (g 12) (g 15) (gl 53) (gl 54) (g 57) = ((-1 : Int64), (0 : Int32), (gl 53), (gl 54), (g 57), f_names, f_value) → _) ((by rw [fq_deed]; (try rw [if_neg c_1]); (try rw [if_neg c_2]); (try rw [← hq_r_3]); (try rw [xL_eq]); (try rw [if_pos c_6]); try rfl))), by rw [ht]; exact hP9, va_K.moved hW.alike hK9, hD9⟩, hS.F ht⟩) hS.2.2 dX12_deed_51
      · refine lv_iload_n hx hb dX12_deed_25 rfl (lv_at hl 3 rfl) ?_
        refine lv_iconst (v := 0) hx hb dX12_deed_26 (by decide) ?_
        refine lv_iconst (v := 2) hx hb dX12_deed_27 (by decide) ?_
        have hPc := hP.sub (ws' := []) [] rfl
        have hKc := hK.sub (tys' := []) [] rfl
        refine vp_callSi (W.runS (As := [.int a2, .int 0, .int 2]) (rest := []) ⟨hx, hb, hml, hown, htw⟩ (gq_isIn l dC dI a2 (0 : Int32) (2 : Int32)) (va_cwS 3 htw (xg_S (ck_26 _ (List.mem_of_getElem? (i := 17) rfl)) (ck_26 _ (List.mem_of_getElem? (i := 18) rfl)) (ck_1 _ (List.mem_of_getElem? (i := 5) rfl)) (ck_26 _ (List.mem_of_getElem? (i := 19) rfl))) rfl rfl rfl (by exact ⟨hdc_14.1, hdc_14.2, hdd_38⟩) ⟨Nat.le_of_ble_eq_true rfl, Nat.le_of_ble_eq_true rfl⟩) ⟨fun a U g mk q => by obtain ⟨q0, qP, qK⟩ := q; exact ⟨q0, qP, va_K.moved (u := U) (U := U.calling g mk a) (Vm.Alike.refl U.vm) qK⟩, fun U hU hW => ⟨rfl, by rw [hU]; exact hPc, va_K.moved hW.alike hKc⟩⟩ rfl rfl hl.1 rfl (lv_room (Nat.le_of_ble_eq_true rfl)) dX12_deed_28 ⟨Nat.le_of_ble_eq_true rfl, Nat.le_of_ble_eq_true rfl⟩) (fun r_7 hw => ?_)
        try dsimp only at hw
        obtain ⟨hw, hb_r_7, hp_8, hp_9⟩ := hw
        have hq_r_7 : r_7 = (fq_isIn a2 (0 : Int32) (2 : Int32)) := hw
        refine lv_if_eq (tgt := 48) hx hb dX12_deed_31 (by decide) (fun c_10 => ?_) (fun c_10 => ?_)
        · refine lv_ldc2 (v := (-1)) hx hb hown (htw _ (ck_29 _ (List.mem_of_getElem? (i := 13) rfl))) dX12_deed_48 ?_
          refine W.widen (k := 0) (n := 0) (by omega) (by omega) ?_
          have hP9 := hP
          have hD9 := hD
          have hK9 := hK.sub (tys' := []) [] rfl
          exact W.lret (v := (-1)) hx hb hr (fun t ht hW => ⟨⟨(-1), (0, (gl 53), (gl 54), (g 57), f_names, f_value), rfl, ((fun e9 => ⟨by rw [e9], by rw [e9]⟩ : fq_deed f_sky f_landHas f_first f_last f_deedOn f_deedHas f_knot f_part f_other f_names f_value a0 a1 a2 (g 12) (g 15) (gl 53) (gl 54) (g 57) = ((-1 : Int64), (0 : Int32), (gl 53), (gl 54), (g 57), f_names, f_value) → _) ((by rw [fq_deed]; (try rw [if_neg c_1]); (try rw [if_neg c_2]); (try rw [← hq_r_3]); (try rw [xL_eq]); (try rw [if_neg c_6]); (try rw [← hq_r_7]); (try rw [xL_eq]); (try rw [if_pos c_10]); try rfl))), by rw [ht]; exact hP9, va_K.moved hW.alike hK9, hD9⟩, hS.F ht⟩) hS.2.2 dX12_deed_51
        · refine lv_aload_n hx hb dX12_deed_34 rfl (lv_at hl 0 rfl) ?_
          refine lv_iload_n hx hb dX12_deed_35 rfl (lv_at hl 2 rfl) ?_
          refine lv_aload_n hx hb dX12_deed_36 rfl (lv_at hl 0 rfl) ?_
          refine va_get (D := (dC, dI)) (ci := 12) (v := .ref (rf 37)) (C := RX12) (T := TX12) (N := 76) hx hb htw inlX12 hown hK hP 0 rfl rfl 37 (by decide) (htw _ (ck_9 _ (List.mem_of_getElem? (i := 17) rfl))) (fun _ h9 => h9) rfl dX12_deed_37 ?_
          refine lv_iload_n hx hb dX12_deed_40 rfl (lv_at hl 1 rfl) ?_
          refine va_lald hx hb hK hP 5 4 rfl rfl (xg_inr (N := 8) rfl (gq_deed_s0 (y0 := a0) (y1 := g 15) c_1 c_2 hde4).1 (gq_deed_s0 (y0 := a0) (y1 := g 15) c_1 c_2 hde4).2) dX12_deed_41 ?_
          obtain ⟨hPc, hDc, hFc, hCc⟩ := zsub3 (ws' := [(mq, .inr (12, mF (upd g 2 0) gl rf)), (eA0 (rf 29) (ck 29) 24 f_landHas)]) hP hD hS hA [0, 2] (by decide) rfl
          have hKc := hK.sub (tys' := [((ck 29), .int)]) [1] rfl
          refine va_calli (va_runV (As := [.int a1, .long (f_deedOn a0.toNatClampNeg)]) (rest := []) ⟨hx, hb, hml, hown, htw⟩ (gq_date1 l dC dI mq (upd g 2 0) gl rf ck f_landHas a1 (f_deedOn a0.toNatClampNeg) H.size (hp_4.resolve_left c_6) (gq_deed_s1 (y0 := a1) (y1 := g 12) (hp_5.resolve_left c_6) hln4) (hDE a0 c_1 (Int32.not_le.mp c_2)).1 (gq_deed_s2 (y0 := f_deedOn a0.toNatClampNeg) (hDE a0 c_1 (Int32.not_le.mp c_2)).2.1) (hLZ a1 (And.intro (hp_4.resolve_left c_6) (hp_5.resolve_left c_6)).1 (And.intro (hp_4.resolve_left c_6) (hp_5.resolve_left c_6)).2)) (cwV 2 htw (xg_V (ck_36 _ (List.mem_of_getElem? (i := 11) rfl)) (ck_36 _ (List.mem_of_getElem? (i := 12) rfl)) (ck_36 _ (List.mem_of_getElem? (i := 13) rfl)) (ck_1 _ (List.mem_of_getElem? (i := 5) rfl)) (ck_36 _ (List.mem_of_getElem? (i := 14) rfl))) rfl rfl rfl (by exact ⟨rfl, hdc_14.1, hdc_14.2, hdd_42⟩) ⟨Nat.le_of_ble_eq_true rfl, Nat.le_of_ble_eq_true rfl⟩) ⟨fun a U g mk q => by obtain ⟨q0, q1, qP, qK, qD⟩ := q; exact ⟨q0, q1, qP, va_K.moved (u := U) (U := U.calling g mk a) (Vm.Alike.refl U.vm) qK, qD⟩, va_recv hKc hPc (ci := 12) (q0 := 0) rfl rfl, fun U hU hW => ⟨rfl, by rw [hU], by rw [hU]; exact hPc, va_K.moved hW.alike hKc, hDc.weaken (fun _ _ _ _ => trivial)⟩⟩ rfl rfl hl.1 rfl (lv_room (Nat.le_of_ble_eq_true rfl)) dX12_deed_42 ⟨Nat.le_of_ble_eq_true rfl, Nat.le_of_ble_eq_true rfl⟩) hS (fun q _ h => hFc q h) hFc (fun r_11 u_12 t H1 locs ht hvm hw hB hz1 hk1 hS => ?_)
          try dsimp only at hw
          obtain ⟨hP1, hK1, hD1⟩ := hB
          rw [ht] at hP1
          have hK1 := va_K.moved hvm.symm hK1
          have hK1 : va_K (dC, dI) vwCl [] s := hK1
          obtain ⟨hP, hD⟩ := va_join (wr := [(eA0 (rf 24) (ck 24) 14 f_sky), (eA0 (rf 31) (ck 31) 8 f_first), (eA0 (rf 32) (ck 32) 8 f_last), (eA1 (rf 37) (ck 37) 8 f_deedOn), (eA0 (rf 38) (ck 38) 24 f_deedHas), (eA0 (rf 41) (ck 41) 128 f_knot), (eA0 (rf 42) (ck 42) 128 f_part), (eA0 (rf 43) (ck 43) 128 f_other), (eA1 (rf 55) (ck 55) 6 f_names), (eA1 (rf 56) (ck 56) 64 f_value)]) (w1 := [(mq, .inr (12, mF (upd g 2 0) (vp_updL (vp_updL gl 53 u_12.1) 54 u_12.2) rf)), (eA0 (rf 29) (ck 29) 24 f_landHas)]) hP hD [0, 2] [1, 3, 4, 5, 6, 7, 8, 9, 10, 11] hCc rfl (by decide +kernel) (by decide +kernel) hk1 hFc hP1 hD1
          generalize H1 = H at hP hS ⊢
          obtain ⟨hP, hD⟩ := zre [(eA0 (rf 24) (ck 24) 14 f_sky), (eA0 (rf 31) (ck 31) 8 f_first), (eA0 (rf 32) (ck 32) 8 f_last), (eA1 (rf 37) (ck 37) 8 f_deedOn), (eA0 (rf 38) (ck 38) 24 f_deedHas), (eA0 (rf 41) (ck 41) 128 f_knot), (eA0 (rf 42) (ck 42) 128 f_part), (eA0 (rf 43) (ck 43) 128 f_other), (eA1 (rf 55) (ck 55) 6 f_names), (eA1 (rf 56) (ck 56) 64 f_value), (mq, .inr (12, mF (upd g 2 0) (vp_updL (vp_updL gl 53 u_12.1) 54 u_12.2) rf)), (eA0 (rf 29) (ck 29) 24 f_landHas)] hP hD rfl
          refine W.widen (k := 0) (n := 0) (by omega) (by omega) ?_
          obtain ⟨hw, hb_r_11⟩ := hw
          obtain ⟨X_15, hX_15⟩ : ∃ X9 : Int32 × (Int64) × (Int64), X9 = (fq_date1 f_landHas a1 (f_deedOn a0.toNatClampNeg) (gl 53) (gl 54)) := ⟨_, rfl⟩
          have hq_r_11 : r_11 = X_15.1 := by rw [hX_15]; exact hw.1
          have hq_u_12 : u_12 = X_15.2 := by rw [hX_15]; exact hw.2
          refine lv_if_ne (tgt := 52) hx hb dX12_deed_45 (by decide) (fun c_16 => ?_) (fun c_16 => ?_)
          · refine lv_iload_n hx hb dX12_deed_52 rfl (lv_at hl 3 rfl) ?_
            refine lv_if_ne (tgt := 63) hx hb dX12_deed_53 (by decide) (fun c_17 => ?_) (fun c_17 => ?_)
            · refine lv_aload_n hx hb dX12_deed_63 rfl (lv_at hl 0 rfl) ?_
              refine lv_iload_n hx hb dX12_deed_64 rfl (lv_at hl 1 rfl) ?_
              refine lv_iload_n hx hb dX12_deed_65 rfl (lv_at hl 2 rfl) ?_
              obtain ⟨hPc, hDc, hFc, hCc⟩ := zsub3 (ws' := [(mq, .inr (12, mF (upd g 2 0) (vp_updL (vp_updL gl 53 u_12.1) 54 u_12.2) rf)), (eA0 (rf 24) (ck 24) 14 f_sky), (eA0 (rf 29) (ck 29) 24 f_landHas), (eA0 (rf 31) (ck 31) 8 f_first), (eA0 (rf 32) (ck 32) 8 f_last), (eA1 (rf 37) (ck 37) 8 f_deedOn), (eA0 (rf 38) (ck 38) 24 f_deedHas), (eA0 (rf 41) (ck 41) 128 f_knot), (eA0 (rf 42) (ck 42) 128 f_part), (eA0 (rf 43) (ck 43) 128 f_other), (eA1 (rf 55) (ck 55) 6 f_names), (eA1 (rf 56) (ck 56) 64 f_value)]) hP hD hS hA [10, 0, 11, 1, 2, 3, 4, 5, 6, 7, 8, 9] (by decide +kernel) rfl
              have hKc := hK.sub (tys' := [((ck 24), .int), ((ck 29), .int), ((ck 31), .int), ((ck 32), .int), ((ck 37), .long), ((ck 38), .int), ((ck 41), .int), ((ck 42), .int), ((ck 43), .int), ((ck 55), .long), ((ck 56), .long)]) [0, 1, 2, 3, 4, 5, 6, 7, 8, 9, 10] rfl
              refine va_calll (va_runV (As := [.int a0, .int a1]) (rest := []) ⟨hx, hb, hml, hown, htw⟩ (gq_dueOf l dC dI mq (upd g 2 0) (vp_updL (vp_updL gl 53 u_12.1) 54 u_12.2) rf ck f_sky f_landHas f_first f_last f_deedOn f_deedHas f_knot f_part f_other f_names f_value a0 a1 H.size c_1 (gq_deed_s3 (y0 := a0) (y1 := g 15) c_2 hde4) (hp_4.resolve_left c_6) (gq_deed_s4 (y0 := a1) (y1 := g 12) (hp_5.resolve_left c_6) hln4) (hDE a0 c_1 (Int32.not_le.mp c_2)).1 (hDE a0 c_1 (Int32.not_le.mp c_2)).2.1 (hDE a0 c_1 (Int32.not_le.mp c_2)).2.2 hfe0 hfe4 hFA hKA hln0 hln4 hLZ hs0 hs2 hs5) (cwV 2 htw (xg_V (ck_50 _ (List.mem_of_getElem? (i := 4) rfl)) (ck_50 _ (List.mem_of_getElem? (i := 5) rfl)) (ck_50 _ (List.mem_of_getElem? (i := 6) rfl)) (ck_1 _ (List.mem_of_getElem? (i := 5) rfl)) (ck_50 _ (List.mem_of_getElem? (i := 7) rfl))) rfl rfl rfl (by exact ⟨rfl, hdc_14.1, hdc_14.2, hdd_25⟩) ⟨Nat.le_of_ble_eq_true rfl, Nat.le_of_ble_eq_true rfl⟩) ⟨fun a U g mk q => by obtain ⟨q0, q1, qP, qK, qD⟩ := q; exact ⟨q0, q1, qP, va_K.moved (u := U) (U := U.calling g mk a) (Vm.Alike.refl U.vm) qK, qD⟩, va_recv hKc hPc (ci := 12) (q0 := 0) rfl rfl, fun U hU hW => ⟨rfl, by rw [hU], by rw [hU]; exact hPc, va_K.moved hW.alike hKc, hDc.weaken (fun _ _ _ _ => trivial)⟩⟩ rfl rfl hl.1 rfl (lv_room (Nat.le_of_ble_eq_true rfl)) dX12_deed_66 ⟨Nat.le_of_ble_eq_true rfl, Nat.le_of_ble_eq_true rfl⟩) hS (fun q _ h => hFc q h) hFc (fun r_18 u_19 t H1 locs ht hvm hw hB hz1 hk1 hS => ?_)
              try dsimp only at hw
              obtain ⟨hP1, hK1, hD1⟩ := hB
              rw [ht] at hP1
              have hK1 := va_K.moved hvm.symm hK1
              have hK1 : va_K (dC, dI) vwCl [] s := hK1
              obtain ⟨hP, hD⟩ := va_join (wr := []) (w1 := [(mq, .inr (12, mF (upd (upd g 2 0) 57 u_19.2.2.1) (vp_updL (vp_updL gl 53 u_19.1) 54 u_19.2.1) rf)), (eA0 (rf 24) (ck 24) 14 f_sky), (eA0 (rf 29) (ck 29) 24 f_landHas), (eA0 (rf 31) (ck 31) 8 f_first), (eA0 (rf 32) (ck 32) 8 f_last), (eA1 (rf 37) (ck 37) 8 f_deedOn), (eA0 (rf 38) (ck 38) 24 f_deedHas), (eA0 (rf 41) (ck 41) 128 f_knot), (eA0 (rf 42) (ck 42) 128 f_part), (eA0 (rf 43) (ck 43) 128 f_other), (eA1 (rf 55) (ck 55) 6 u_19.2.2.2.1), (eA1 (rf 56) (ck 56) 64 u_19.2.2.2.2)]) hP hD [10, 0, 11, 1, 2, 3, 4, 5, 6, 7, 8, 9] [] hCc rfl (by decide +kernel) (by decide +kernel) hk1 hFc hP1 hD1
              generalize H1 = H at hP hS ⊢
              have hP : va_P (dC, dI) vwCl [(mq, .inr (12, mF (upd (upd g 2 0) 57 u_19.2.2.1) (vp_updL (vp_updL gl 53 u_19.1) 54 u_19.2.1) rf)), (eA0 (rf 24) (ck 24) 14 f_sky), (eA0 (rf 29) (ck 29) 24 f_landHas), (eA0 (rf 31) (ck 31) 8 f_first), (eA0 (rf 32) (ck 32) 8 f_last), (eA1 (rf 37) (ck 37) 8 f_deedOn), (eA0 (rf 38) (ck 38) 24 f_deedHas), (eA0 (rf 41) (ck 41) 128 f_knot), (eA0 (rf 42) (ck 42) 128 f_part), (eA0 (rf 43) (ck 43) 128 f_other), (eA1 (rf 55) (ck 55) 6 u_19.2.2.2.1), (eA1 (rf 56) (ck 56) 64 u_19.2.2.2.2)] H := hP
              have hD : va_D A [(mq, .inr (12, mF (upd (upd g 2 0) 57 u_19.2.2.1) (vp_updL (vp_updL gl 53 u_19.1) 54 u_19.2.1) rf)), (eA0 (rf 24) (ck 24) 14 f_sky), (eA0 (rf 29) (ck 29) 24 f_landHas), (eA0 (rf 31) (ck 31) 8 f_first), (eA0 (rf 32) (ck 32) 8 f_last), (eA1 (rf 37) (ck 37) 8 f_deedOn), (eA0 (rf 38) (ck 38) 24 f_deedHas), (eA0 (rf 41) (ck 41) 128 f_knot), (eA0 (rf 42) (ck 42) 128 f_part), (eA0 (rf 43) (ck 43) 128 f_other), (eA1 (rf 55) (ck 55) 6 u_19.2.2.2.1), (eA1 (rf 56) (ck 56) 64 u_19.2.2.2.2)] := hD
              refine W.widen (k := 0) (n := 0) (by omega) (by omega) ?_
              obtain ⟨hw, hp_25⟩ := hw
              obtain ⟨X_26, hX_26⟩ : ∃ X9 : Int64 × (Int64) × (Int64) × (Int32) × (Nat → Int64) × (Nat → Int64), X9 = (fq_dueOf f_sky f_landHas f_first f_last f_deedOn f_deedHas f_knot f_part f_other f_names f_value a0 a1 (g 12) u_12.1 u_12.2 (g 57)) := ⟨_, rfl⟩
              have hq_r_18 : r_18 = X_26.1 := by rw [hX_26]; exact hw.1
              have hq_u_19 : u_19 = X_26.2 := by rw [hX_26]; exact hw.2
              refine lv_lstore (lv' := [(4, .long r_18), (0, .ref mq), (1, .int a0), (2, .int a1), (3, .int a2)]) hx hb dX12_deed_69 hl (by decide) rfl (fun ls hl => ?_)
              refine lv_lload hx hb dX12_deed_71 (lv_at hl 0 rfl) ?_
              refine lv_lconst (v := 0) hx hb dX12_deed_73 (by decide) ?_
              refine W.lcmp hx hb dX12_deed_74 ?_
              refine lv_if_lt (tgt := 83) hx hb dX12_deed_75 (by decide) (fun c_27 => ?_) (fun c_27 => ?_)
              · refine lv_lload hx hb dX12_deed_83 (lv_at hl 0 rfl) ?_
                refine W.widen (k := 0) (n := 0) (by omega) (by omega) ?_
                have hP9 := hP
                have hD9 := hD
                have hK9 := hK.sub (tys' := []) [] rfl
                exact W.lret (v := r_18) hx hb hr (fun t ht hW => ⟨⟨r_18, (0, u_19.1, u_19.2.1, u_19.2.2.1, u_19.2.2.2.1, u_19.2.2.2.2), rfl, ((fun e9 => ⟨by rw [e9], by rw [e9]⟩ : fq_deed f_sky f_landHas f_first f_last f_deedOn f_deedHas f_knot f_part f_other f_names f_value a0 a1 a2 (g 12) (g 15) (gl 53) (gl 54) (g 57) = (r_18, (0 : Int32), u_19.1, u_19.2.1, u_19.2.2.1, u_19.2.2.2.1, u_19.2.2.2.2) → _) ((by rw [fq_deed]; (try rw [if_neg c_1]); (try rw [if_neg c_2]); (try rw [← hq_r_3]); (try rw [xL_eq]); (try rw [if_neg c_6]); (try rw [← hq_r_7]); (try rw [xL_eq]); (try rw [if_neg c_10]); (try rw [← hX_15]); (try rw [xL_eq]); (try rw [← hq_r_11]); (try rw [← hq_u_12]); (try rw [if_neg c_16]); (try rw [if_neg c_17]); (try rw [← hX_26]); (try rw [xL_eq]); (try rw [← hq_r_18]); (try rw [← hq_u_19]); (try rw [if_pos c_27]); try rfl))), by rw [ht]; exact hP9, va_K.moved hW.alike hK9, hD9⟩, hS.F ht⟩) hS.2.2 dX12_deed_85
              · refine lv_iload_n hx hb dX12_deed_78 rfl (lv_at hl 4 rfl) ?_
                refine lv_iconst (v := 1) hx hb dX12_deed_79 (by decide) ?_
                refine lv_icmp_ne (tgt := 86) hx hb dX12_deed_80 (by decide) (fun c_28 => ?_) (fun c_28 => ?_)
                · refine lv_aload_n hx hb dX12_deed_86 rfl (lv_at hl 1 rfl) ?_
                  refine va_get (D := (dC, dI)) (ci := 12) (v := .ref (rf 38)) (C := RX12) (T := TX12) (N := 76) hx hb htw inlX12 hown hK hP 0 rfl rfl 38 (by decide) (htw _ (ck_9 _ (List.mem_of_getElem? (i := 18) rfl))) (fun _ h9 => h9) rfl dX12_deed_87 ?_
                  refine lv_iconst (v := 3) hx hb dX12_deed_90 (by decide) ?_
                  refine lv_iload_n hx hb dX12_deed_91 rfl (lv_at hl 2 rfl) ?_
                  refine lv_imul hx hb dX12_deed_92 ?_
                  refine lv_iconst (v := 2) hx hb dX12_deed_93 (by decide) ?_
                  refine lv_iadd hx hb dX12_deed_94 ?_
                  refine va_iald hx hb hK hP 6 5 rfl rfl (xg_inr (N := 24) rfl (gq_deed_s5 (y0 := a0) (y1 := g 15) c_1 c_2 hde4).1 (gq_deed_s5 (y0 := a0) (y1 := g 15) c_1 c_2 hde4).2) dX12_deed_95 ?_
                  refine lv_i2l (v := (f_deedHas (((3 * a0) + 2).toNatClampNeg)).toInt64) hx hb dX12_deed_96 rfl ?_
                  refine lv_aload_n hx hb dX12_deed_97 rfl (lv_at hl 1 rfl) ?_
                  refine lv_iload_n hx hb dX12_deed_98 rfl (lv_at hl 3 rfl) ?_
                  refine lv_lload hx hb dX12_deed_99 (lv_at hl 0 rfl) ?_
                  obtain ⟨hPc, hDc, hFc, hCc⟩ := zsub3 (ws' := [(mq, .inr (12, mF (upd (upd g 2 0) 57 u_19.2.2.1) (vp_updL (vp_updL gl 53 u_19.1) 54 u_19.2.1) rf)), (eA0 (rf 29) (ck 29) 24 f_landHas)]) hP hD hS hA [0, 2] (by decide) rfl
                  have hKc := hK.sub (tys' := [((ck 29), .int)]) [1] rfl
                  refine va_calll (va_runV (As := [.int a1, .long r_18]) (rest := [.long ((f_deedHas (((3 * a0) + 2).toNatClampNeg)).toInt64)]) ⟨hx, hb, hml, hown, htw⟩ (gq_endedBy l dC dI mq (upd (upd g 2 0) 57 u_19.2.2.1) (vp_updL (vp_updL gl 53 u_19.1) 54 u_19.2.1) rf ck f_landHas a1 r_18 H.size (hp_4.resolve_left c_6) (gq_deed_s6 (y0 := a1) (y1 := g 12) (hp_5.resolve_left c_6) hln4) (fun q9 => c_27 ((lg_cmp_lt _ _).mpr q9)) hp_25 (hLZ1 a1 (And.intro (hp_4.resolve_left c_6) (hp_5.resolve_left c_6)).1 (And.intro (hp_4.resolve_left c_6) (hp_5.resolve_left c_6)).2)) (cwV 2 htw (xg_V (ck_50 _ (List.mem_of_getElem? (i := 12) rfl)) (ck_50 _ (List.mem_of_getElem? (i := 13) rfl)) (ck_50 _ (List.mem_of_getElem? (i := 14) rfl)) (ck_1 _ (List.mem_of_getElem? (i := 5) rfl)) (ck_50 _ (List.mem_of_getElem? (i := 15) rfl))) rfl rfl rfl (by exact ⟨rfl, hdc_14.1, hdc_14.2, hdd_41⟩) ⟨Nat.le_of_ble_eq_true rfl, Nat.le_of_ble_eq_true rfl⟩) ⟨fun a U g mk q => by obtain ⟨q0, q1, qP, qK, qD⟩ := q; exact ⟨q0, q1, qP, va_K.moved (u := U) (U := U.calling g mk a) (Vm.Alike.refl U.vm) qK, qD⟩, va_recv hKc hPc (ci := 12) (q0 := 0) rfl rfl, fun U hU hW => ⟨rfl, by rw [hU], by rw [hU]; exact hPc, va_K.moved hW.alike hKc, hDc.weaken (fun _ _ _ _ => trivial)⟩⟩ rfl rfl hl.1 rfl (lv_room (Nat.le_of_ble_eq_true rfl)) dX12_deed_101 ⟨Nat.le_of_ble_eq_true rfl, Nat.le_of_ble_eq_true rfl⟩) hS (fun q _ h => hFc q h) hFc (fun r_29 u_30 t H1 locs ht hvm hw hB hz1 hk1 hS => ?_)
                  try dsimp only at hw
                  obtain ⟨hP1, hK1, hD1⟩ := hB
                  rw [ht] at hP1
                  have hK1 := va_K.moved hvm.symm hK1
                  have hK1 : va_K (dC, dI) vwCl [] s := hK1
                  obtain ⟨hP, hD⟩ := va_join (wr := [(eA0 (rf 24) (ck 24) 14 f_sky), (eA0 (rf 31) (ck 31) 8 f_first), (eA0 (rf 32) (ck 32) 8 f_last), (eA1 (rf 37) (ck 37) 8 f_deedOn), (eA0 (rf 38) (ck 38) 24 f_deedHas), (eA0 (rf 41) (ck 41) 128 f_knot), (eA0 (rf 42) (ck 42) 128 f_part), (eA0 (rf 43) (ck 43) 128 f_other), (eA1 (rf 55) (ck 55) 6 u_19.2.2.2.1), (eA1 (rf 56) (ck 56) 64 u_19.2.2.2.2)]) (w1 := [(mq, .inr (12, mF (upd (upd g 2 0) 57 u_19.2.2.1) (vp_updL (vp_updL gl 53 u_30.1) 54 u_30.2) rf)), (eA0 (rf 29) (ck 29) 24 f_landHas)]) hP hD [0, 2] [1, 3, 4, 5, 6, 7, 8, 9, 10, 11] hCc rfl (by decide +kernel) (by decide +kernel) hk1 hFc hP1 hD1
                  generalize H1 = H at hP hS ⊢
                  have hP : va_P (dC, dI) vwCl [(eA0 (rf 24) (ck 24) 14 f_sky), (eA0 (rf 31) (ck 31) 8 f_first), (eA0 (rf 32) (ck 32) 8 f_last), (eA1 (rf 37) (ck 37) 8 f_deedOn), (eA0 (rf 38) (ck 38) 24 f_deedHas), (eA0 (rf 41) (ck 41) 128 f_knot), (eA0 (rf 42) (ck 42) 128 f_part), (eA0 (rf 43) (ck 43) 128 f_other), (eA1 (rf 55) (ck 55) 6 u_19.2.2.2.1), (eA1 (rf 56) (ck 56) 64 u_19.2.2.2.2), (mq, .inr (12, mF (upd (upd g 2 0) 57 u_19.2.2.1) (vp_updL (vp_updL gl 53 u_30.1) 54 u_30.2) rf)), (eA0 (rf 29) (ck 29) 24 f_landHas)] H := hP
                  have hD : va_D A [(eA0 (rf 24) (ck 24) 14 f_sky), (eA0 (rf 31) (ck 31) 8 f_first), (eA0 (rf 32) (ck 32) 8 f_last), (eA1 (rf 37) (ck 37) 8 f_deedOn), (eA0 (rf 38) (ck 38) 24 f_deedHas), (eA0 (rf 41) (ck 41) 128 f_knot), (eA0 (rf 42) (ck 42) 128 f_part), (eA0 (rf 43) (ck 43) 128 f_other), (eA1 (rf 55) (ck 55) 6 u_19.2.2.2.1), (eA1 (rf 56) (ck 56) 64 u_19.2.2.2.2), (mq, .inr (12, mF (upd (upd g 2 0) 57 u_19.2.2.1) (vp_updL (vp_updL gl 53 u_30.1) 54 u_30.2) rf)), (eA0 (rf 29) (ck 29) 24 f_landHas)] := hD
                  refine W.widen (k := 0) (n := 0) (by omega) (by omega) ?_
                  obtain ⟨X_33, hX_33⟩ : ∃ X9 : Int64 × (Int64) × (Int64), X9 = (fq_endedBy f_landHas a1 r_18 u_19.1 u_19.2.1) := ⟨_, rfl⟩
                  have hq_r_29 : r_29 = X_33.1 := by rw [hX_33]; exact hw.1
                  have hq_u_30 : u_30 = X_33.2 := by rw [hX_33]; exact hw.2
                  refine lv_aload_n hx hb dX12_deed_104 rfl (lv_at hl 1 rfl) ?_
                  refine lv_iload_n hx hb dX12_deed_105 rfl (lv_at hl 3 rfl) ?_
                  refine lv_aload_n hx hb dX12_deed_106 rfl (lv_at hl 1 rfl) ?_
                  refine va_get (D := (dC, dI)) (ci := 12) (v := .ref (rf 37)) (C := RX12) (T := TX12) (N := 76) hx hb htw inlX12 hown hK hP 10 rfl rfl 37 (by decide) (htw _ (ck_9 _ (List.mem_of_getElem? (i := 17) rfl))) (fun _ h9 => h9) rfl dX12_deed_107 ?_
                  refine lv_iload_n hx hb dX12_deed_110 rfl (lv_at hl 2 rfl) ?_
                  refine va_lald hx hb hK hP 3 4 rfl rfl (xg_inr (N := 8) rfl (gq_deed_s7 (y0 := a0) (y1 := g 15) c_1 c_2 hde4).1 (gq_deed_s7 (y0 := a0) (y1 := g 15) c_1 c_2 hde4).2) dX12_deed_111 ?_
                  obtain ⟨hPc, hDc, hFc, hCc⟩ := zsub3 (ws' := [(mq, .inr (12, mF (upd (upd g 2 0) 57 u_19.2.2.1) (vp_updL (vp_updL gl 53 u_30.1) 54 u_30.2) rf)), (eA0 (rf 29) (ck 29) 24 f_landHas)]) hP hD hS hA [10, 11] (by decide) rfl
                  have hKc := hK.sub (tys' := [((ck 29), .int)]) [1] rfl
                  refine va_calll (va_runV (As := [.int a1, .long (f_deedOn a0.toNatClampNeg)]) (rest := [.long r_29, .long ((f_deedHas (((3 * a0) + 2).toNatClampNeg)).toInt64)]) ⟨hx, hb, hml, hown, htw⟩ (gq_endedBy l dC dI mq (upd (upd g 2 0) 57 u_19.2.2.1) (vp_updL (vp_updL gl 53 u_30.1) 54 u_30.2) rf ck f_landHas a1 (f_deedOn a0.toNatClampNeg) H.size (hp_4.resolve_left c_6) (gq_deed_s8 (y0 := a1) (y1 := g 12) (hp_5.resolve_left c_6) hln4) (hDE a0 c_1 (Int32.not_le.mp c_2)).1 (gq_deed_s9 (y0 := f_deedOn a0.toNatClampNeg) (hDE a0 c_1 (Int32.not_le.mp c_2)).2.1) (hLZ1 a1 (And.intro (hp_4.resolve_left c_6) (hp_5.resolve_left c_6)).1 (And.intro (hp_4.resolve_left c_6) (hp_5.resolve_left c_6)).2)) (cwV 2 htw (xg_V (ck_50 _ (List.mem_of_getElem? (i := 12) rfl)) (ck_50 _ (List.mem_of_getElem? (i := 13) rfl)) (ck_50 _ (List.mem_of_getElem? (i := 14) rfl)) (ck_1 _ (List.mem_of_getElem? (i := 5) rfl)) (ck_50 _ (List.mem_of_getElem? (i := 15) rfl))) rfl rfl rfl (by exact ⟨rfl, hdc_14.1, hdc_14.2, hdd_41⟩) ⟨Nat.le_of_ble_eq_true rfl, Nat.le_of_ble_eq_true rfl⟩) ⟨fun a U g mk q => by obtain ⟨q0, q1, qP, qK, qD⟩ := q; exact ⟨q0, q1, qP, va_K.moved (u := U) (U := U.calling g mk a) (Vm.Alike.refl U.vm) qK, qD⟩, va_recv hKc hPc (ci := 12) (q0 := 0) rfl rfl, fun U hU hW => ⟨rfl, by rw [hU], by rw [hU]; exact hPc, va_K.moved hW.alike hKc, hDc.weaken (fun _ _ _ _ => trivial)⟩⟩ rfl rfl hl.1 rfl (lv_room (Nat.le_of_ble_eq_true rfl)) dX12_deed_112 ⟨Nat.le_of_ble_eq_true rfl, Nat.le_of_ble_eq_true rfl⟩) hS (fun q _ h => hFc q h) hFc (fun r_34 u_35 t H1 locs ht hvm hw hB hz1 hk1 hS => ?_)
                  try dsimp only at hw
                  obtain ⟨hP1, hK1, hD1⟩ := hB
                  rw [ht] at hP1
                  have hK1 := va_K.moved hvm.symm hK1
                  have hK1 : va_K (dC, dI) vwCl [] s := hK1
                  obtain ⟨hP, hD⟩ := va_join (wr := [(eA0 (rf 24) (ck 24) 14 f_sky), (eA0 (rf 31) (ck 31) 8 f_first), (eA0 (rf 32) (ck 32) 8 f_last), (eA1 (rf 37) (ck 37) 8 f_deedOn), (eA0 (rf 38) (ck 38) 24 f_deedHas), (eA0 (rf 41) (ck 41) 128 f_knot), (eA0 (rf 42) (ck 42) 128 f_part), (eA0 (rf 43) (ck 43) 128 f_other), (eA1 (rf 55) (ck 55) 6 u_19.2.2.2.1), (eA1 (rf 56) (ck 56) 64 u_19.2.2.2.2)]) (w1 := [(mq, .inr (12, mF (upd (upd g 2 0) 57 u_19.2.2.1) (vp_updL (vp_updL gl 53 u_35.1) 54 u_35.2) rf)), (eA0 (rf 29) (ck 29) 24 f_landHas)]) hP hD [10, 11] [0, 1, 2, 3, 4, 5, 6, 7, 8, 9] hCc rfl (by decide +kernel) (by decide +kernel) hk1 hFc hP1 hD1
                  generalize H1 = H at hP hS ⊢
                  have hP : va_P (dC, dI) vwCl [(eA0 (rf 24) (ck 24) 14 f_sky), (eA0 (rf 31) (ck 31) 8 f_first), (eA0 (rf 32) (ck 32) 8 f_last), (eA1 (rf 37) (ck 37) 8 f_deedOn), (eA0 (rf 38) (ck 38) 24 f_deedHas), (eA0 (rf 41) (ck 41) 128 f_knot), (eA0 (rf 42) (ck 42) 128 f_part), (eA0 (rf 43) (ck 43) 128 f_other), (eA1 (rf 55) (ck 55) 6 u_19.2.2.2.1), (eA1 (rf 56) (ck 56) 64 u_19.2.2.2.2), (mq, .inr (12, mF (upd (upd g 2 0) 57 u_19.2.2.1) (vp_updL (vp_updL gl 53 u_35.1) 54 u_35.2) rf)), (eA0 (rf 29) (ck 29) 24 f_landHas)] H := hP
                  have hD : va_D A [(eA0 (rf 24) (ck 24) 14 f_sky), (eA0 (rf 31) (ck 31) 8 f_first), (eA0 (rf 32) (ck 32) 8 f_last), (eA1 (rf 37) (ck 37) 8 f_deedOn), (eA0 (rf 38) (ck 38) 24 f_deedHas), (eA0 (rf 41) (ck 41) 128 f_knot), (eA0 (rf 42) (ck 42) 128 f_part), (eA0 (rf 43) (ck 43) 128 f_other), (eA1 (rf 55) (ck 55) 6 u_19.2.2.2.1), (eA1 (rf 56) (ck 56) 64 u_19.2.2.2.2), (mq, .inr (12, mF (upd (upd g 2 0) 57 u_19.2.2.1) (vp_updL (vp_updL gl 53 u_35.1) 54 u_35.2) rf)), (eA0 (rf 29) (ck 29) 24 f_landHas)] := hD
                  refine W.widen (k := 0) (n := 0) (by omega) (by omega) ?_
                  obtain ⟨X_38, hX_38⟩ : ∃ X9 : Int64 × (Int64) × (Int64), X9 = (fq_endedBy f_landHas a1 (f_deedOn a0.toNatClampNeg) u_30.1 u_30.2) := ⟨_, rfl⟩
                  have hq_r_34 : r_34 = X_38.1 := by rw [hX_38]; exact hw.1
                  have hq_u_35 : u_35 = X_38.2 := by rw [hX_38]; exact hw.2
                  refine lv_lsub hx hb dX12_deed_115 ?_
                  refine lv_lmul hx hb dX12_deed_116 ?_
                  refine W.widen (k := 0) (n := 0) (by omega) (by omega) ?_
                  obtain ⟨hP9, hD9⟩ := zsub2 (ws' := [(mq, .inr (12, mF (upd (upd g 2 0) 57 u_19.2.2.1) (vp_updL (vp_updL gl 53 u_35.1) 54 u_35.2) rf)), (eA0 (rf 24) (ck 24) 14 f_sky), (eA0 (rf 29) (ck 29) 24 f_landHas), (eA0 (rf 31) (ck 31) 8 f_first), (eA0 (rf 32) (ck 32) 8 f_last), (eA1 (rf 37) (ck 37) 8 f_deedOn), (eA0 (rf 38) (ck 38) 24 f_deedHas), (eA0 (rf 41) (ck 41) 128 f_knot), (eA0 (rf 42) (ck 42) 128 f_part), (eA0 (rf 43) (ck 43) 128 f_other), (eA1 (rf 55) (ck 55) 6 u_19.2.2.2.1), (eA1 (rf 56) (ck 56) 64 u_19.2.2.2.2)]) hP hD [10, 0, 11, 1, 2, 3, 4, 5, 6, 7, 8, 9] (by decide +kernel) rfl
                  have hK9 := hK.sub (tys' := []) [] rfl
                  exact W.lret (v := (((f_deedHas (((3 * a0) + 2).toNatClampNeg)).toInt64) * (r_29 - r_34))) hx hb hr (fun t ht hW => ⟨⟨(((f_deedHas (((3 * a0) + 2).toNatClampNeg)).toInt64) * (r_29 - r_34)), (0, u_35.1, u_35.2, u_19.2.2.1, u_19.2.2.2.1, u_19.2.2.2.2), rfl, ((fun e9 => ⟨by rw [e9], by rw [e9]⟩ : fq_deed f_sky f_landHas f_first f_last f_deedOn f_deedHas f_knot f_part f_other f_names f_value a0 a1 a2 (g 12) (g 15) (gl 53) (gl 54) (g 57) = ((((f_deedHas (((3 * a0) + 2).toNatClampNeg)).toInt64) * (r_29 - r_34)), (0 : Int32), u_35.1, u_35.2, u_19.2.2.1, u_19.2.2.2.1, u_19.2.2.2.2) → _) ((by rw [fq_deed]; (try rw [if_neg c_1]); (try rw [if_neg c_2]); (try rw [← hq_r_3]); (try rw [xL_eq]); (try rw [if_neg c_6]); (try rw [← hq_r_7]); (try rw [xL_eq]); (try rw [if_neg c_10]); (try rw [← hX_15]); (try rw [xL_eq]); (try rw [← hq_r_11]); (try rw [← hq_u_12]); (try rw [if_neg c_16]); (try rw [if_neg c_17]); (try rw [← hX_26]); (try rw [xL_eq]); (try rw [← hq_r_18]); (try rw [← hq_u_19]); (try rw [if_neg c_27]); (try rw [if_neg c_28]); (try rw [← hX_33]); (try rw [xL_eq]); (try rw [← hq_r_29]); (try rw [← hq_u_30]); (try rw [← hX_38]); (try rw [xL_eq]); (try rw [← hq_r_34]); (try rw [← hq_u_35]); try rfl))), by rw [ht]; exact hP9, va_K.moved hW.alike hK9, hD9⟩, hS.F ht⟩) hS.2.2 dX12_deed_117
                · refine lv_lload hx hb dX12_deed_83 (lv_at hl 0 rfl) ?_
                  refine W.widen (k := 0) (n := 0) (by omega) (by omega) ?_
                  obtain ⟨hP9, hD9⟩ := zsub2 (ws' := [(mq, .inr (12, mF (upd (upd g 2 0) 57 u_19.2.2.1) (vp_updL (vp_updL gl 53 u_19.1) 54 u_19.2.1) rf)), (eA0 (rf 24) (ck 24) 14 f_sky), (eA0 (rf 29) (ck 29) 24 f_landHas), (eA0 (rf 31) (ck 31) 8 f_first), (eA0 (rf 32) (ck 32) 8 f_last), (eA1 (rf 37) (ck 37) 8 f_deedOn), (eA0 (rf 38) (ck 38) 24 f_deedHas), (eA0 (rf 41) (ck 41) 128 f_knot), (eA0 (rf 42) (ck 42) 128 f_part), (eA0 (rf 43) (ck 43) 128 f_other), (eA1 (rf 55) (ck 55) 6 u_19.2.2.2.1), (eA1 (rf 56) (ck 56) 64 u_19.2.2.2.2)]) hP hD [0, 1, 2, 3, 4, 5, 6, 7, 8, 9, 10, 11] (by decide +kernel) rfl
                  have hK9 := hK.sub (tys' := []) [] rfl
                  exact W.lret (v := r_18) hx hb hr (fun t ht hW => ⟨⟨r_18, (0, u_19.1, u_19.2.1, u_19.2.2.1, u_19.2.2.2.1, u_19.2.2.2.2), rfl, ((fun e9 => ⟨by rw [e9], by rw [e9]⟩ : fq_deed f_sky f_landHas f_first f_last f_deedOn f_deedHas f_knot f_part f_other f_names f_value a0 a1 a2 (g 12) (g 15) (gl 53) (gl 54) (g 57) = (r_18, (0 : Int32), u_19.1, u_19.2.1, u_19.2.2.1, u_19.2.2.2.1, u_19.2.2.2.2) → _) ((by rw [fq_deed]; (try rw [if_neg c_1]); (try rw [if_neg c_2]); (try rw [← hq_r_3]); (try rw [xL_eq]); (try rw [if_neg c_6]); (try rw [← hq_r_7]); (try rw [xL_eq]); (try rw [if_neg c_10]); (try rw [← hX_15]); (try rw [xL_eq]); (try rw [← hq_r_11]); (try rw [← hq_u_12]); (try rw [if_neg c_16]); (try rw [if_neg c_17]); (try rw [← hX_26]); (try rw [xL_eq]); (try rw [← hq_r_18]); (try rw [← hq_u_19]); (try rw [if_neg c_27]); (try rw [if_pos c_28]); try rfl))), by rw [ht]; exact hP9, va_K.moved hW.alike hK9, hD9⟩, hS.F ht⟩) hS.2.2 dX12_deed_85
            · refine lv_aload_n hx hb dX12_deed_56 rfl (lv_at hl 0 rfl) ?_
              refine va_get (D := (dC, dI)) (ci := 12) (v := .ref (rf 37)) (C := RX12) (T := TX12) (N := 76) hx hb htw inlX12 hown hK hP 10 rfl rfl 37 (by decide) (htw _ (ck_9 _ (List.mem_of_getElem? (i := 17) rfl))) (fun _ h9 => h9) rfl dX12_deed_57 ?_
              refine lv_iload_n hx hb dX12_deed_60 rfl (lv_at hl 1 rfl) ?_
              refine va_lald hx hb hK hP 3 4 rfl rfl (xg_inr (N := 8) rfl (gq_deed_s10 (y0 := a0) (y1 := g 15) c_1 c_2 hde4).1 (gq_deed_s10 (y0 := a0) (y1 := g 15) c_1 c_2 hde4).2) dX12_deed_61 ?_
              refine W.widen (k := 0) (n := 0) (by omega) (by omega) ?_
              obtain ⟨hP9, hD9⟩ := zsub2 (ws' := [(mq, .inr (12, mF (upd g 2 0) (vp_updL (vp_updL gl 53 u_12.1) 54 u_12.2) rf)), (eA0 (rf 24) (ck 24) 14 f_sky), (eA0 (rf 29) (ck 29) 24 f_landHas), (eA0 (rf 31) (ck 31) 8 f_first), (eA0 (rf 32) (ck 32) 8 f_last), (eA1 (rf 37) (ck 37) 8 f_deedOn), (eA0 (rf 38) (ck 38) 24 f_deedHas), (eA0 (rf 41) (ck 41) 128 f_knot), (eA0 (rf 42) (ck 42) 128 f_part), (eA0 (rf 43) (ck 43) 128 f_other), (eA1 (rf 55) (ck 55) 6 f_names), (eA1 (rf 56) (ck 56) 64 f_value)]) hP hD [10, 0, 11, 1, 2, 3, 4, 5, 6, 7, 8, 9] (by decide +kernel) rfl
              have hK9 := hK.sub (tys' := []) [] rfl
              exact W.lret (v := f_deedOn a0.toNatClampNeg) hx hb hr (fun t ht hW => ⟨⟨f_deedOn a0.toNatClampNeg, (0, u_12.1, u_12.2, (g 57), f_names, f_value), rfl, ((fun e9 => ⟨by rw [e9], by rw [e9]⟩ : fq_deed f_sky f_landHas f_first f_last f_deedOn f_deedHas f_knot f_part f_other f_names f_value a0 a1 a2 (g 12) (g 15) (gl 53) (gl 54) (g 57) = (f_deedOn a0.toNatClampNeg, (0 : Int32), u_12.1, u_12.2, (g 57), f_names, f_value) → _) ((by rw [fq_deed]; (try rw [if_neg c_1]); (try rw [if_neg c_2]); (try rw [← hq_r_3]); (try rw [xL_eq]); (try rw [if_neg c_6]); (try rw [← hq_r_7]); (try rw [xL_eq]); (try rw [if_neg c_10]); (try rw [← hX_15]); (try rw [xL_eq]); (try rw [← hq_r_11]); (try rw [← hq_u_12]); (try rw [if_neg c_16]); (try rw [if_pos c_17]); try rfl))), by rw [ht]; exact hP9, va_K.moved hW.alike hK9, hD9⟩, hS.F ht⟩) hS.2.2 dX12_deed_62
          · refine lv_ldc2 (v := (-1)) hx hb hown (htw _ (ck_29 _ (List.mem_of_getElem? (i := 13) rfl))) dX12_deed_48 ?_
            refine W.widen (k := 0) (n := 0) (by omega) (by omega) ?_
            obtain ⟨hP9, hD9⟩ := zsub2 (ws' := [(mq, .inr (12, mF (upd g 2 0) (vp_updL (vp_updL gl 53 u_12.1) 54 u_12.2) rf)), (eA0 (rf 24) (ck 24) 14 f_sky), (eA0 (rf 29) (ck 29) 24 f_landHas), (eA0 (rf 31) (ck 31) 8 f_first), (eA0 (rf 32) (ck 32) 8 f_last), (eA1 (rf 37) (ck 37) 8 f_deedOn), (eA0 (rf 38) (ck 38) 24 f_deedHas), (eA0 (rf 41) (ck 41) 128 f_knot), (eA0 (rf 42) (ck 42) 128 f_part), (eA0 (rf 43) (ck 43) 128 f_other), (eA1 (rf 55) (ck 55) 6 f_names), (eA1 (rf 56) (ck 56) 64 f_value)]) hP hD [10, 0, 11, 1, 2, 3, 4, 5, 6, 7, 8, 9] (by decide +kernel) rfl
            have hK9 := hK.sub (tys' := []) [] rfl
            exact W.lret (v := (-1)) hx hb hr (fun t ht hW => ⟨⟨(-1), (0, u_12.1, u_12.2, (g 57), f_names, f_value), rfl, ((fun e9 => ⟨by rw [e9], by rw [e9]⟩ : fq_deed f_sky f_landHas f_first f_last f_deedOn f_deedHas f_knot f_part f_other f_names f_value a0 a1 a2 (g 12) (g 15) (gl 53) (gl 54) (g 57) = ((-1 : Int64), (0 : Int32), u_12.1, u_12.2, (g 57), f_names, f_value) → _) ((by rw [fq_deed]; (try rw [if_neg c_1]); (try rw [if_neg c_2]); (try rw [← hq_r_3]); (try rw [xL_eq]); (try rw [if_neg c_6]); (try rw [← hq_r_7]); (try rw [xL_eq]); (try rw [if_neg c_10]); (try rw [← hX_15]); (try rw [xL_eq]); (try rw [← hq_r_11]); (try rw [← hq_u_12]); (try rw [if_pos c_16]); try rfl))), by rw [ht]; exact hP9, va_K.moved hW.alike hK9, hD9⟩, hS.F ht⟩) hS.2.2 dX12_deed_51
