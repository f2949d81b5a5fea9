theorem xD_tr {c b f : Int64} (h : 0 ≤ lg_cmp b f) (hc : ¬ lg_cmp c b < 0) : 0 ≤ lg_cmp c f := by
  have h1 := (lg_cmp_ge _ _).mp h
  have h2 := Int64.not_lt.mp (fun z => hc ((lg_cmp_lt _ _).mpr z))
  exact (lg_cmp_ge _ _).mpr (Int64.le_trans h1 h2)

def fq_age_a (f_landHas : Nat → Int32) (a2 : Int32) (u_13 : (Int64) × (Int64)) (r_18 : Int32) (u_19 : (Int64) × (Int64)) : (Int64) × (Int64) × (Int32) × (Int64) × (Int64) × (Int64) := (if r_18 = 0 then (xL ((fq_endYear f_landHas a2)) (fun r_31 => (u_13.1, u_13.2, r_18, r_31, u_19.1, u_19.2))) else (if lg_cmp u_19.2 u_13.2 < 0 then (u_13.1, u_13.2, r_18, (u_19.1 - 1), u_19.1, u_19.2) else (u_13.1, u_13.2, r_18, u_19.1, u_19.1, u_19.2)))
def fq_age_b (f_landHas : Nat → Int32) (a2 : Int32) (L7a : Int64) (S0a : Int64) : (Int64) := (if 0 ≤ lg_cmp ((f_landHas (((3 * a2) + 1).toNatClampNeg)).toInt64) 0 then S0a else (if 0 ≤ lg_cmp S0a (((((f_landHas ((3 * a2).toNatClampNeg)).toInt64) - L7a) / (-((f_landHas (((3 * a2) + 1).toNatClampNeg)).toInt64))) + 1) then (((((f_landHas ((3 * a2).toNatClampNeg)).toInt64) - L7a) / (-((f_landHas (((3 * a2) + 1).toNatClampNeg)).toInt64))) + 1) else S0a))
def fq_age (f_landHas : Nat → Int32) (f_born : Nat → Int64) (a0 : Int32) (a1 : Int64) (a2 : Int32) (m_lands : Int32) (m_people : Int32) (m_gotYear : Int64) (m_gotDay : Int64) : Int64 × (Int32) × (Int64) × (Int64) := (xL ((fq_isPerson a0 m_people)) (fun r_1 => (if r_1 = 0 then ((-1 : Int64), (0 : Int32), m_gotYear, m_gotDay) else (xL ((fq_isCount a1)) (fun r_5 => (if r_5 = 0 then ((-1 : Int64), (0 : Int32), m_gotYear, m_gotDay) else (xL ((fq_isLand a2 m_lands)) (fun r_7 => (if r_7 = 0 then ((-1 : Int64), (0 : Int32), m_gotYear, m_gotDay) else (if lg_cmp a1 (f_born a0.toNatClampNeg) < 0 then ((-1 : Int64), (0 : Int32), m_gotYear, m_gotDay) else (xL ((fq_date1 f_landHas a2 (f_born a0.toNatClampNeg) m_gotYear m_gotDay)) (fun X_16 => (if X_16.1 = 0 then ((-1 : Int64), (0 : Int32), X_16.2.1, X_16.2.2) else (xL ((fq_date1 f_landHas a2 a1 X_16.2.1 X_16.2.2)) (fun X_22 => (xL (fq_age_a f_landHas a2 X_16.2 X_22.1 X_22.2) (fun X_23 => (xL (fq_age_b f_landHas a2 X_23.2.1 X_23.2.2.2.1) (fun X_25 => (if lg_cmp X_25 X_23.1 ≤ 0 then ((0 : Int64), (0 : Int32), X_23.2.2.2.2.1, X_23.2.2.2.2.2) else ((X_25 - X_23.1), (0 : Int32), X_23.2.2.2.2.1, X_23.2.2.2.2.2)))))))))))))))))))))
theorem gq_age_s0 {y0 : Int32} {y1 : Int32} (h0 : ¬ (y0 < 0)) (h1 : y0 < y1) (h2 : y1 ≤ 6) : ¬ (y0 < 0) ∧ ¬ (12 ≤ y0) := by lia
theorem gq_age_s1 {y0 : Int32} {y1 : Int32} (h0 : ¬ (y0 < 0)) (h1 : y0 < y1) (h2 : y1 ≤ 6) : ¬ (y0 < 0) ∧ ¬ (12 ≤ y0) := by lia
theorem gq_age_s2 {y0 : Int32} {y1 : Int32} (h0 : y0 < y1) (h1 : y1 ≤ 4) : y0 ≤ 7 := by lia
theorem gq_age_s3 {y0 : Int64} (h0 : y0 ≤ 1000000000000) : y0 ≤ 2000000000000 := by lia
theorem gq_age_s4 {y0 : Int32} {y1 : Int32} (h0 : ¬ (y0 < 0)) (h1 : y0 < y1) (h2 : y1 ≤ 4) : ¬ (((3 * y0) + 1) < 0) ∧ ¬ (24 ≤ ((3 * y0) + 1)) := by lia
theorem gq_age_s5 {y0 : Int32} {y1 : Int32} (h0 : y0 < y1) (h1 : y1 ≤ 4) : y0 ≤ 7 := by lia
theorem gq_age_s6 {y0 : Int64} (h0 : y0 ≤ 1000000000000) : y0 ≤ 2000000000000 := by lia
theorem gq_age_s7 {y0 : Int32} {y1 : Int32} (h0 : ¬ (y0 < 0)) (h1 : y0 < y1) (h2 : y1 ≤ 4) : ¬ ((3 * y0) < 0) ∧ ¬ (24 ≤ (3 * y0)) := by lia
theorem gq_age_s8 {y0 : Int32} {y1 : Int32} (h0 : y0 < y1) (h1 : y1 ≤ 4) : y0 ≤ 7 := by lia
theorem gq_age_s9 {y0 : Int64} (h0 : ¬ (y0 < 0)) (h1 : y0 ≤ 1000000000000) : ¬ (y0 < 0) ∧ y0 ≤ 2000000000000 := by lia
theorem dX12_age_0 : decode cX12_age 0 = .ok (.aload_n 0, 1) := zk_42 (by decide +kernel)
theorem dX12_age_1 : decode cX12_age 1 = .ok (.iconst 0, 1) := zk_3 (by decide +kernel)
theorem dX12_age_2 : decode cX12_age 2 = .ok (.putfield 119, 3) := zk_181 (by decide +kernel)
theorem dX12_age_5 : decode cX12_age 5 = .ok (.aload_n 0, 1) := zk_42 (by decide +kernel)
theorem dX12_age_6 : decode cX12_age 6 = .ok (.iload_n 1, 1) := zk_27 (by decide +kernel)
theorem dX12_age_7 : decode cX12_age 7 = .ok (.invokevirtual 463, 3) := zk_182 (by decide +kernel)
theorem dX12_age_10 : decode cX12_age 10 = .ok (.ifCond .eq 45, 3) := zk_153 (by decide +kernel)
theorem dX12_age_55 : decode cX12_age 55 = .ok (.ldc2_w 273, 3) := zk_20 (by decide +kernel)
theorem dX12_age_58 : decode cX12_age 58 = .ok (.lreturn, 1) := zk_173 (by decide +kernel)
theorem dX12_age_13 : decode cX12_age 13 = .ok (.lload_n 2, 1) := zk_32 (by decide +kernel)
theorem dX12_age_14 : decode cX12_age 14 = .ok (.invokestatic 413, 3) := zk_184 (by decide +kernel)
theorem dX12_age_17 : decode cX12_age 17 = .ok (.ifCond .eq 38, 3) := zk_153 (by decide +kernel)
theorem dX12_age_20 : decode cX12_age 20 = .ok (.aload_n 0, 1) := zk_42 (by decide +kernel)
theorem dX12_age_21 : decode cX12_age 21 = .ok (.iload 4, 2) := zk_21 (by decide +kernel)
theorem dX12_age_23 : decode cX12_age 23 = .ok (.invokevirtual 404, 3) := zk_182 (by decide +kernel)
theorem dX12_age_26 : decode cX12_age 26 = .ok (.ifCond .eq 29, 3) := zk_153 (by decide +kernel)
theorem dX12_age_29 : decode cX12_age 29 = .ok (.lload_n 2, 1) := zk_32 (by decide +kernel)
theorem dX12_age_30 : decode cX12_age 30 = .ok (.aload_n 0, 1) := zk_42 (by decide +kernel)
theorem dX12_age_31 : decode cX12_age 31 = .ok (.getfield 41, 3) := zk_180 (by decide +kernel)
theorem dX12_age_34 : decode cX12_age 34 = .ok (.iload_n 1, 1) := zk_27 (by decide +kernel)
theorem dX12_age_35 : decode cX12_age 35 = .ok (.laload, 1) := zk_47 (by decide +kernel)
theorem dX12_age_36 : decode cX12_age 36 = .ok (.lcmp, 1) := zk_148 (by decide +kernel)
theorem dX12_age_37 : decode cX12_age 37 = .ok (.ifCond .lt 18, 3) := zk_155 (by decide +kernel)
theorem dX12_age_40 : decode cX12_age 40 = .ok (.aload_n 0, 1) := zk_42 (by decide +kernel)
theorem dX12_age_41 : decode cX12_age 41 = .ok (.iload 4, 2) := zk_21 (by decide +kernel)
theorem dX12_age_43 : decode cX12_age 43 = .ok (.aload_n 0, 1) := zk_42 (by decide +kernel)
theorem dX12_age_44 : decode cX12_age 44 = .ok (.getfield 41, 3) := zk_180 (by decide +kernel)
theorem dX12_age_47 : decode cX12_age 47 = .ok (.iload_n 1, 1) := zk_27 (by decide +kernel)
theorem dX12_age_48 : decode cX12_age 48 = .ok (.laload, 1) := zk_47 (by decide +kernel)
theorem dX12_age_49 : decode cX12_age 49 = .ok (.invokevirtual 416, 3) := zk_182 (by decide +kernel)
theorem dX12_age_52 : decode cX12_age 52 = .ok (.ifCond .ne 7, 3) := zk_154 (by decide +kernel)
theorem dX12_age_59 : decode cX12_age 59 = .ok (.aload_n 0, 1) := zk_42 (by decide +kernel)
theorem dX12_age_60 : decode cX12_age 60 = .ok (.getfield 396, 3) := zk_180 (by decide +kernel)
theorem dX12_age_63 : decode cX12_age 63 = .ok (.lstore 5, 2) := zk_55 (by decide +kernel)
theorem dX12_age_65 : decode cX12_age 65 = .ok (.aload_n 0, 1) := zk_42 (by decide +kernel)
theorem dX12_age_66 : decode cX12_age 66 = .ok (.getfield 399, 3) := zk_180 (by decide +kernel)
theorem dX12_age_69 : decode cX12_age 69 = .ok (.lstore 7, 2) := zk_55 (by decide +kernel)
theorem dX12_age_71 : decode cX12_age 71 = .ok (.aload_n 0, 1) := zk_42 (by decide +kernel)
theorem dX12_age_72 : decode cX12_age 72 = .ok (.getfield 26, 3) := zk_180 (by decide +kernel)
theorem dX12_age_75 : decode cX12_age 75 = .ok (.iconst 3, 1) := zk_6 (by decide +kernel)
theorem dX12_age_76 : decode cX12_age 76 = .ok (.iload 4, 2) := zk_21 (by decide +kernel)
theorem dX12_age_78 : decode cX12_age 78 = .ok (.imul, 1) := zk_104 (by decide +kernel)
theorem dX12_age_79 : decode cX12_age 79 = .ok (.iconst 1, 1) := zk_4 (by decide +kernel)
theorem dX12_age_80 : decode cX12_age 80 = .ok (.iadd, 1) := zk_96 (by decide +kernel)
theorem dX12_age_81 : decode cX12_age 81 = .ok (.iaload, 1) := zk_46 (by decide +kernel)
theorem dX12_age_82 : decode cX12_age 82 = .ok (.i2l, 1) := zk_133 (by decide +kernel)
theorem dX12_age_83 : decode cX12_age 83 = .ok (.lstore 9, 2) := zk_55 (by decide +kernel)
theorem dX12_age_85 : decode cX12_age 85 = .ok (.aload_n 0, 1) := zk_42 (by decide +kernel)
theorem dX12_age_86 : decode cX12_age 86 = .ok (.iload 4, 2) := zk_21 (by decide +kernel)
theorem dX12_age_88 : decode cX12_age 88 = .ok (.lload_n 2, 1) := zk_32 (by decide +kernel)
theorem dX12_age_89 : decode cX12_age 89 = .ok (.invokevirtual 416, 3) := zk_182 (by decide +kernel)
theorem dX12_age_92 : decode cX12_age 92 = .ok (.istore 11, 2) := zk_54 (by decide +kernel)
theorem dX12_age_131 : decode cX12_age 131 = .ok (.lstore 12, 2) := zk_55 (by decide +kernel)
theorem dX12_age_178 : decode cX12_age 178 = .ok (.lload 12, 2) := zk_22 (by decide +kernel)
theorem dX12_age_180 : decode cX12_age 180 = .ok (.lload 5, 2) := zk_22 (by decide +kernel)
theorem dX12_age_182 : decode cX12_age 182 = .ok (.lcmp, 1) := zk_148 (by decide +kernel)
theorem dX12_age_183 : decode cX12_age 183 = .ok (.ifCond .le 11, 3) := zk_158 (by decide +kernel)
theorem dX12_age_194 : decode cX12_age 194 = .ok (.lconst 0, 1) := zk_9 (by decide +kernel)
theorem dX12_age_195 : decode cX12_age 195 = .ok (.lreturn, 1) := zk_173 (by decide +kernel)
theorem dX12_age_186 : decode cX12_age 186 = .ok (.lload 12, 2) := zk_22 (by decide +kernel)
theorem dX12_age_188 : decode cX12_age 188 = .ok (.lload 5, 2) := zk_22 (by decide +kernel)
theorem dX12_age_190 : decode cX12_age 190 = .ok (.lsub, 1) := zk_101 (by decide +kernel)
theorem dX12_age_191 : decode cX12_age 191 = .ok (.goto 4, 3) := zk_167 (by decide +kernel)
theorem dX12_age_133 : decode cX12_age 133 = .ok (.lload 9, 2) := zk_22 (by decide +kernel)
theorem dX12_age_135 : decode cX12_age 135 = .ok (.lconst 0, 1) := zk_9 (by decide +kernel)
theorem dX12_age_136 : decode cX12_age 136 = .ok (.lcmp, 1) := zk_148 (by decide +kernel)
theorem dX12_age_137 : decode cX12_age 137 = .ok (.ifCond .ge 41, 3) := zk_156 (by decide +kernel)
theorem dX12_age_140 : decode cX12_age 140 = .ok (.aload_n 0, 1) := zk_42 (by decide +kernel)
theorem dX12_age_141 : decode cX12_age 141 = .ok (.getfield 26, 3) := zk_180 (by decide +kernel)
theorem dX12_age_144 : decode cX12_age 144 = .ok (.iconst 3, 1) := zk_6 (by decide +kernel)
theorem dX12_age_145 : decode cX12_age 145 = .ok (.iload 4, 2) := zk_21 (by decide +kernel)
theorem dX12_age_147 : decode cX12_age 147 = .ok (.imul, 1) := zk_104 (by decide +kernel)
theorem dX12_age_148 : decode cX12_age 148 = .ok (.iaload, 1) := zk_46 (by decide +kernel)
theorem dX12_age_149 : decode cX12_age 149 = .ok (.i2l, 1) := zk_133 (by decide +kernel)
theorem dX12_age_150 : decode cX12_age 150 = .ok (.lload 7, 2) := zk_22 (by decide +kernel)
theorem dX12_age_152 : decode cX12_age 152 = .ok (.lsub, 1) := zk_101 (by decide +kernel)
theorem dX12_age_153 : decode cX12_age 153 = .ok (.lload 9, 2) := zk_22 (by decide +kernel)
theorem dX12_age_155 : decode cX12_age 155 = .ok (.lneg, 1) := zk_117 (by decide +kernel)
theorem dX12_age_156 : decode cX12_age 156 = .ok (.ldiv, 1) := zk_109 (by decide +kernel)
theorem dX12_age_157 : decode cX12_age 157 = .ok (.lconst 1, 1) := zk_10 (by decide +kernel)
theorem dX12_age_158 : decode cX12_age 158 = .ok (.ladd, 1) := zk_97 (by decide +kernel)
theorem dX12_age_159 : decode cX12_age 159 = .ok (.lstore 14, 2) := zk_55 (by decide +kernel)
theorem dX12_age_161 : decode cX12_age 161 = .ok (.lload 12, 2) := zk_22 (by decide +kernel)
theorem dX12_age_163 : decode cX12_age 163 = .ok (.lload 14, 2) := zk_22 (by decide +kernel)
theorem dX12_age_165 : decode cX12_age 165 = .ok (.lcmp, 1) := zk_148 (by decide +kernel)
theorem dX12_age_166 : decode cX12_age 166 = .ok (.ifCond .ge 8, 3) := zk_156 (by decide +kernel)
theorem dX12_age_174 : decode cX12_age 174 = .ok (.lload 14, 2) := zk_22 (by decide +kernel)
theorem dX12_age_176 : decode cX12_age 176 = .ok (.lstore 12, 2) := zk_55 (by decide +kernel)
theorem dX12_age_169 : decode cX12_age 169 = .ok (.lload 12, 2) := zk_22 (by decide +kernel)
theorem dX12_age_171 : decode cX12_age 171 = .ok (.goto 5, 3) := zk_167 (by decide +kernel)
theorem dX12_age_94 : decode cX12_age 94 = .ok (.iload 11, 2) := zk_21 (by decide +kernel)
theorem dX12_age_96 : decode cX12_age 96 = .ok (.ifCond .eq 29, 3) := zk_153 (by decide +kernel)
theorem dX12_age_125 : decode cX12_age 125 = .ok (.aload_n 0, 1) := zk_42 (by decide +kernel)
theorem dX12_age_126 : decode cX12_age 126 = .ok (.iload 4, 2) := zk_21 (by decide +kernel)
theorem dX12_age_128 : decode cX12_age 128 = .ok (.invokevirtual 392, 3) := zk_182 (by decide +kernel)
theorem dX12_age_99 : decode cX12_age 99 = .ok (.aload_n 0, 1) := zk_42 (by decide +kernel)
theorem dX12_age_100 : decode cX12_age 100 = .ok (.getfield 399, 3) := zk_180 (by decide +kernel)
theorem dX12_age_103 : decode cX12_age 103 = .ok (.lload 7, 2) := zk_22 (by decide +kernel)
theorem dX12_age_105 : decode cX12_age 105 = .ok (.lcmp, 1) := zk_148 (by decide +kernel)
theorem dX12_age_106 : decode cX12_age 106 = .ok (.ifCond .lt 10, 3) := zk_155 (by decide +kernel)
theorem dX12_age_116 : decode cX12_age 116 = .ok (.aload_n 0, 1) := zk_42 (by decide +kernel)
theorem dX12_age_117 : decode cX12_age 117 = .ok (.getfield 396, 3) := zk_180 (by decide +kernel)
theorem dX12_age_120 : decode cX12_age 120 = .ok (.lconst 1, 1) := zk_10 (by decide +kernel)
theorem dX12_age_121 : decode cX12_age 121 = .ok (.lsub, 1) := zk_101 (by decide +kernel)
theorem dX12_age_122 : decode cX12_age 122 = .ok (.goto 9, 3) := zk_167 (by decide +kernel)
theorem dX12_age_109 : decode cX12_age 109 = .ok (.aload_n 0, 1) := zk_42 (by decide +kernel)
theorem dX12_age_110 : decode cX12_age 110 = .ok (.getfield 396, 3) := zk_180 (by decide +kernel)
theorem dX12_age_113 : decode cX12_age 113 = .ok (.goto 18, 3) := zk_167 (by decide +kernel)
set_option maxHeartbeats 4000000 in
set_option maxRecDepth 100000 in
theorem gq_age (l : Launch) (dC : Nat → ClassId) (dI : Nat → Nat → Nat) (mq : Nat) (g : Nat → Int32) (gl : Nat → Int64) (rf : Nat → Nat) (ck : Nat → ClassId) (f_landHas : Nat → Int32) (f_born : Nat → Int64) (a0 : Int32) (a1 : Int64) (a2 : Int32) (sz : Nat) (hln0 : ¬ (g 12) < 0) (hln4 : (g 12) ≤ 4) (hLZ : ∀ k : Int32, ¬ k < 0 → k < (g 12) → ¬ (f_landHas ((3 * k).toNatClampNeg)) = 0) (hLZ1 : ∀ k : Int32, ¬ k < 0 → k < (g 12) → ¬ (f_landHas ((3 * k).toNatClampNeg)) < 1) (hp0 : ¬ (g 14) < 0) (hp6 : (g 14) ≤ 6) (hBO : ∀ k : Int32, ¬ k < 0 → k < (g 14) → ¬ (f_born k.toNatClampNeg) < 0 ∧ (f_born k.toNatClampNeg) ≤ 1000000000000) : Met l yX12_age (Cond.code yX12_age cX12_age 16 (some .long) :: wsL_law) ({ frames := 2, cells := 0, slots := 0, locals := 56 }) (va_Pc [.ref mq, .int a0, .long a1, .int a2] (fun U => U.heap.size = sz ∧ va_P (dC, dI) vwCl [(mq, .inr (12, mF g gl rf)), (eA0 (rf 29) (ck 29) 24 f_landHas), (eA1 (rf 34) (ck 34) 12 f_born)] U.heap ∧ va_K (dC, dI) vwCl [((ck 29), .int), ((ck 34), .long)] U ∧ va_D (fun _ => True) [(mq, .inr (12, mF g gl rf)), (eA0 (rf 29) (ck 29) 24 f_landHas), (eA1 (rf 34) (ck 34) 12 f_born)])) (va_Ql (fun (r : Int64) (u : (Int32) × (Int64) × (Int64)) => r = (fq_age f_landHas f_born a0 a1 a2 (g 12) (g 14) (gl 53) (gl 54)).1 ∧ u = (fq_age f_landHas f_born a0 a1 a2 (g 12) (g 14) (gl 53) (gl 54)).2) (fun (u : (Int32) × (Int64) × (Int64)) t => va_P (dC, dI) vwCl [(mq, .inr (12, mF (upd g 2 u.1) (vp_updL (vp_updL gl 53 u.2.1) 54 u.2.2) rf)), (eA0 (rf 29) (ck 29) 24 f_landHas), (eA1 (rf 34) (ck 34) 12 f_born)] t.heap ∧ va_K (dC, dI) vwCl [] t ∧ va_D (va_A [(mq, .inr (12, mF g gl rf)), (eA0 (rf 29) (ck 29) 24 f_landHas), (eA1 (rf 34) (ck 34) 12 f_born)] sz) [(mq, .inr (12, mF (upd g 2 u.1) (vp_updL (vp_updL gl 53 u.2.1) 54 u.2.2) rf)), (eA0 (rf 29) (ck 29) 24 f_landHas), (eA1 (rf 34) (ck 34) 12 f_born)]) (va_A [(mq, .inr (12, mF g gl rf)), (eA0 (rf 29) (ck 29) 24 f_landHas), (eA1 (rf 34) (ck 34) 12 f_born)] sz)) 0 0 (va_A [(mq, .inr (12, mF g gl rf)), (eA0 (rf 29) (ck 29) 24 f_landHas), (eA1 (rf 34) (ck 34) 12 f_born)] sz) := by
  refine Met.ofW (cc := cX12_age) (maxL := 16) (ret := (some .long)) (by decide) rfl ?_
  intro p e s m args below meth c s₁ B hml hv
  obtain ⟨rfl, hsz, hP, hK, hD0⟩ := hv
  have hx := B.exec
  have hb := B.bytes
  have hr := B.returns
  have hts := atoms_spec (ws := Cond.code yX12_age cX12_age 16 (some .long) :: wsL_law) B.pre
  have htw : ∀ w ∈ wsL_law, w.before _ s = true := fun w h => hts w (List.mem_cons_of_mem _ h)
  have hown : s.vm.findClass RX12 = some m.cls := findClass_of_methodNamed B.named
  have hlocks := B.notSynchronized
  subst hsz
  have hD := hD0.self (sz := s.heap.size)
  generalize hAe : va_A [(mq, .inr (12, mF g gl rf)), (eA0 (rf 29) (ck 29) 24 f_landHas), (eA1 (rf 34) (ck 34) 12 f_born)] s.heap.size = A at hD ⊢
  have hA : ∀ q : Nat, s.heap.size ≤ q → A q := fun q h => by rw [← hAe]; exact Or.inr h
  obtain ⟨H, rH⟩ : ∃ z : Heap, z = s.heap := ⟨_, rfl⟩
  have hS : va_S A s.heap H [] := by rw [rH]; exact va_S.rf
  have hP : va_P (dC, dI) vwCl [(mq, .inr (12, mF g gl rf)), (eA0 (rf 29) (ck 29) 24 f_landHas), (eA1 (rf 34) (ck 34) 12 f_born)] H := by rw [rH]; exact hP
  rw [← rH]
  have hl := lv_entry ([.ref mq, .int a0, .long a1, .int a2]) (n := 16) (Nat.le_of_ble_eq_true rfl)
  rw [lg_entry_eq]
  generalize (lg_sl ([.ref mq, .int a0, .long a1, .int a2]) ++ List.replicate (16 - (lg_sl ([.ref mq, .int a0, .long a1, .int a2])).length) Slot.unset).toArray = ls at hl ⊢
  have hl : lv_has ls 16 [(0, .ref mq), (1, .int a0), (2, .long a1), (4, .int a2)] := hl
  refine lv_aload_n hx hb dX12_age_0 rfl (lv_at hl 0 rfl) ?_
  refine lv_iconst (v := 0) hx hb dX12_age_1 (by decide) ?_
  refine va_put (D := (dC, dI)) (ci := 12) (v := .int 0) (ty := tyX12 2) (C := RX12) (T := TX12) (N := 76) hx hb htw inlX12 tyX12 tyX12_ok nmX12 hown hK hP hD hS 0 rfl rfl 2 (by decide) (htw _ (ck_12 _ (List.mem_of_getElem? (i := 16) rfl))) (fun _ h9 => h9) rfl (tyX12_ok 2 (by decide)) rfl rfl (Nat.le_of_ble_eq_true rfl) dX12_age_2 (fun H locs hP hD hS => ?_)
  obtain ⟨hP, hD⟩ := zre [(mq, .inr (12, mF (upd g 2 0) gl rf)), (eA0 (rf 29) (ck 29) 24 f_landHas), (eA1 (rf 34) (ck 34) 12 f_born)] hP hD rfl
  refine lv_aload_n hx hb dX12_age_5 rfl (lv_at hl 0 rfl) ?_
  refine lv_iload_n hx hb dX12_age_6 rfl (lv_at hl 1 rfl) ?_
  have hPc := hP.sub (ws' := [(mq, .inr (12, mF (upd g 2 0) gl rf))]) [0] rfl
  have hKc := hK.sub (tys' := []) [] rfl
  refine vp_callSi (W.runV (As := [.int a0]) (rest := []) ⟨hx, hb, hml, hown, htw⟩ (gq_isPerson l dC dI mq (upd g 2 0) gl rf a0) (cwV 1 htw (xg_V (ck_44 _ (List.mem_of_getElem? (i := 20) rfl)) (ck_44 _ (List.mem_of_getElem? (i := 21) rfl)) (ck_44 _ (List.mem_of_getElem? (i := 22) rfl)) (ck_1 _ (List.mem_of_getElem? (i := 5) rfl)) (ck_44 _ (List.mem_of_getElem? (i := 23) rfl))) rfl rfl rfl (by exact ⟨rfl, hdc_14.1, hdc_14.2, hdd_26⟩) ⟨Nat.le_of_ble_eq_true rfl, Nat.le_of_ble_eq_true rfl⟩) ⟨fun a U g mk q => by obtain ⟨q0, qP, qK⟩ := q; exact ⟨q0, qP, va_K.moved (u := U) (U := U.calling g mk a) (Vm.Alike.refl U.vm) qK⟩, va_recv hKc hPc (ci := 12) (q0 := 0) rfl rfl, fun U hU hW => ⟨rfl, by rw [hU]; exact hPc, va_K.moved hW.alike hKc⟩⟩ rfl rfl hl.1 rfl (lv_room (Nat.le_of_ble_eq_true rfl)) dX12_age_7 ⟨Nat.le_of_ble_eq_true rfl, Nat.le_of_ble_eq_true rfl⟩) (fun r_1 hw => ?_)
  try dsimp only at hw
  obtain ⟨hw, hb_r_1, hp_2, hp_3⟩ := hw
  have hq_r_1 : r_1 = (fq_isPerson a0 (g 14)) := hw
  refine lv_if_eq (tgt := 55) hx hb dX12_age_10 (by decide) (fun c_4 => ?_) (fun c_4 => ?_)
  · refine lv_ldc2 (v := (-1)) hx hb hown (htw _ (ck_29 _ (List.mem_of_getElem? (i := 13) rfl))) dX12_age_55 ?_
    refine W.widen (k := 0) (n := 0) (by omega) (by omega) ?_
    have hP9 := hP
    have hD9 := hD
    have hK9 := hK.sub (tys' := []) [] rfl
    exact W.lret (v := (-1)) hx hb hr (fun t ht hW => ⟨⟨(-1), (0, (gl 53), (gl 54)), rfl, ((fun e9 => ⟨by rw [e9], by rw [e9]⟩ : fq_age f_landHas f_born a0 a1 a2 (g 12) (g 14) (gl 53) (gl 54) = ((-1 : Int64), (0 : Int32), (gl 53), (gl 54)) → _) ((by rw [fq_age]; (try rw [← hq_r_1]); (try rw [xL_eq]); (try rw [if_pos c_4]); try rfl))), by rw [ht]; exact hP9, va_K.moved hW.alike hK9, hD9⟩, hS.F ht⟩) hS.2.2 dX12_age_58
  · refine lv_lload_n hx hb dX12_age_13 rfl (lv_at hl 2 rfl) ?_
    have hPc := hP.sub (ws' := []) [] rfl
    have hKc := hK.sub (tys' := []) [] rfl
    refine vp_callSi (W.runS (As := [.long a1]) (rest := []) ⟨hx, hb, hml, hown, htw⟩ (gq_isCount l dC dI a1) (va_cwS 1 htw (xg_S (ck_36 _ (List.mem_of_getElem? (i := 8) rfl)) (ck_36 _ (List.mem_of_getElem? (i := 9) rfl)) (ck_1 _ (List.mem_of_getElem? (i := 5) rfl)) (ck_36 _ (List.mem_of_getElem? (i := 10) rfl))) rfl rfl rfl (by exact ⟨hdc_14.1, hdc_14.2, hdd_1⟩) ⟨Nat.le_of_ble_eq_true rfl, Nat.le_of_ble_eq_true rfl⟩) ⟨fun a U g mk q => by obtain ⟨q0, qP, qK⟩ := q; exact ⟨q0, qP, va_K.moved (u := U) (U := U.calling g mk a) (Vm.Alike.refl U.vm) qK⟩, fun U hU hW => ⟨rfl, by rw [hU]; exact hPc, va_K.moved hW.alike hKc⟩⟩ rfl rfl hl.1 rfl (lv_room (Nat.le_of_ble_eq_true rfl)) dX12_age_14 ⟨Nat.le_of_ble_eq_true rfl, Nat.le_of_ble_eq_true rfl⟩) (fun r_5 hw => ?_)
    try dsimp only at hw
    obtain ⟨hw, hb_r_5⟩ := hw
    have hq_r_5 : r_5 = (fq_isCount a1) := hw
    refine lv_if_eq (tgt := 55) hx hb dX12_age_17 (by decide) (fun c_6 => ?_) (fun c_6 => ?_)
    · refine lv_ldc2 (v := (-1)) hx hb hown (htw _ (ck_29 _ (List.mem_of_getElem? (i := 13) rfl))) dX12_age_55 ?_
      refine W.widen (k := 0) (n := 0) (by omega) (by omega) ?_
      have hP9 := hP
      have hD9 := hD
      have hK9 := hK.sub (tys' := []) [] rfl
      exact W.lret (v := (-1)) hx hb hr (fun t ht hW => ⟨⟨(-1), (0, (gl 53), (gl 54)), rfl, ((fun e9 => ⟨by rw [e9], by rw [e9]⟩ : fq_age f_landHas f_born a0 a1 a2 (g 12) (g 14) (gl 53) (gl 54) = ((-1 : Int64), (0 : Int32), (gl 53), (gl 54)) → _) ((by rw [fq_age]; (try rw [← hq_r_1]); (try rw [xL_eq]); (try rw [if_neg c_4]); (try rw [← hq_r_5]); (try rw [xL_eq]); (try rw [if_pos c_6]); try rfl))), by rw [ht]; exact hP9, va_K.moved hW.alike hK9, hD9⟩, hS.F ht⟩) hS.2.2 dX12_age_58
    · refine lv_aload_n hx hb dX12_age_20 rfl (lv_at hl 0 rfl) ?_
      refine lv_iload hx hb dX12_age_21 (lv_at hl 3 rfl) ?_
      have hPc := hP.sub (ws' := [(mq, .inr (12, mF (upd g 2 0) gl rf))]) [0] rfl
      have hKc := hK.sub (tys' := []) [] rfl
      refine vp_callSi (W.runV (As := [.int a2]) (rest := []) ⟨hx, hb, hml, hown, htw⟩ (gq_isLand l dC dI mq (upd g 2 0) gl rf a2) (cwV 1 htw (xg_V (ck_34 _ (List.mem_of_getElem? (i := 2) rfl)) (ck_34 _ (List.mem_of_getElem? (i := 3) rfl)) (ck_34 _ (List.mem_of_getElem? (i := 4) rfl)) (ck_1 _ (List.mem_of_getElem? (i := 5) rfl)) (ck_34 _ (List.mem_of_getElem? (i := 5) rfl))) rfl rfl rfl (by exact ⟨rfl, hdc_14.1, hdc_14.2, hdd_26⟩) ⟨Nat.le_of_ble_eq_true rfl, Nat.le_of_ble_eq_true rfl⟩) ⟨fun a U g mk q => by obtain ⟨q0, qP, qK⟩ := q; exact ⟨q0, qP, va_K.moved (u := U) (U := U.calling g mk a) (Vm.Alike.refl U.vm) qK⟩, va_recv hKc hPc (ci := 12) (q0 := 0) rfl rfl, fun U hU hW => ⟨rfl, by rw [hU]; exact hPc, va_K.moved hW.alike hKc⟩⟩ rfl rfl hl.1 rfl (lv_room (Nat.le_of_ble_eq_true rfl)) dX12_age_23 ⟨Nat.le_of_ble_eq_true rfl, Nat.le_of_ble_eq_true rfl⟩) (fun r_7 hw => ?_)
      try dsimp only at hw
      obtain ⟨hw, hb_r_7, hp_8, hp_9⟩ := hw
      have hq_r_7 : r_7 = (fq_isLand a2 (g 12)) := hw
      refine lv_if_eq (tgt := 55) hx hb dX12_age_26 (by decide) (fun c_10 => ?_) (fun c_10 => ?_)
      · refine lv_ldc2 (v := (-1)) hx hb hown (htw _ (ck_29 _ (List.mem_of_getElem? (i := 13) rfl))) dX12_age_55 ?_
        refine W.widen (k := 0) (n := 0) (by omega) (by omega) ?_
        have hP9 := hP
        have hD9 := hD
        have hK9 := hK.sub (tys' := []) [] rfl
        exact W.lret (v := (-1)) hx hb hr (fun t ht hW => ⟨⟨(-1), (0, (gl 53), (gl 54)), rfl, ((fun e9 => ⟨by rw [e9], by rw [e9]⟩ : fq_age f_landHas f_born a0 a1 a2 (g 12) (g 14) (gl 53) (gl 54) = ((-1 : Int64), (0 : Int32), (gl 53), (gl 54)) → _) ((by rw [fq_age]; (try rw [← hq_r_1]); (try rw [xL_eq]); (try rw [if_neg c_4]); (try rw [← hq_r_5]); (try rw [xL_eq]); (try rw [if_neg c_6]); (try rw [← hq_r_7]); (try rw [xL_eq]); (try rw [if_pos c_10]); try rfl))), by rw [ht]; exact hP9, va_K.moved hW.alike hK9, hD9⟩, hS.F ht⟩) hS.2.2 dX12_age_58
      · refine lv_lload_n hx hb dX12_age_29 rfl (lv_at hl 2 rfl) ?_
        refine lv_aload_n hx hb dX12_age_30 rfl (lv_at hl 0 rfl) ?_
        refine va_get (D := (dC, dI)) (ci := 12) (v := .ref (rf 34)) (C := RX12) (T := TX12) (N := 76) hx hb htw inlX12 hown hK hP 0 rfl rfl 34 (by decide) (htw _ (ck_9 _ (List.mem_of_getElem? (i := 14) rfl))) (fun _ h9 => h9) rfl dX12_age_31 ?_
        refine lv_iload_n hx hb dX12_age_34 rfl (lv_at hl 1 rfl) ?_
        refine va_lald hx hb hK hP 2 1 rfl rfl (xg_inr (N := 12) rfl (gq_age_s0 (y0 := a0) (y1 := g 14) (hp_2.resolve_left c_4) (hp_3.resolve_left c_4) hp6).1 (gq_age_s0 (y0 := a0) (y1 := g 14) (hp_2.resolve_left c_4) (hp_3.resolve_left c_4) hp6).2) dX12_age_35 ?_
        refine W.lcmp hx hb dX12_age_36 ?_
        refine lv_if_lt (tgt := 55) hx hb dX12_age_37 (by decide) (fun c_11 => ?_) (fun c_11 => ?_)
        · refine lv_ldc2 (v := (-1)) hx hb hown (htw _ (ck_29 _ (List.mem_of_getElem? (i := 13) rfl))) dX12_age_55 ?_
          refine W.widen (k := 0) (n := 0) (by omega) (by omega) ?_
          have hP9 := hP
          have hD9 := hD
          have hK9 := hK.sub (tys' := []) [] rfl
          exact W.lret (v := (-1)) hx hb hr (fun t ht hW => ⟨⟨(-1), (0, (gl 53), (gl 54)), rfl, ((fun e9 => ⟨by rw [e9], by rw [e9]⟩ : fq_age f_landHas f_born a0 a1 a2 (g 12) (g 14) (gl 53) (gl 54) = ((-1 : Int64), (0 : Int32), (gl 53), (gl 54)) → _) ((by rw [fq_age]; (try rw [← hq_r_1]); (try rw [xL_eq]); (try rw [if_neg c_4]); (try rw [← hq_r_5]); (try rw [xL_eq]); (try rw [if_neg c_6]); (try rw [← hq_r_7]); (try rw [xL_eq]); (try rw [if_neg c_10]); (try rw [if_pos c_11]); try rfl))), by rw [ht]; exact hP9, va_K.moved hW.alike hK9, hD9⟩, hS.F ht⟩) hS.2.2 dX12_age_58
        · refine lv_aload_n hx hb dX12_age_40 rfl (lv_at hl 0 rfl) ?_
          refine lv_iload hx hb dX12_age_41 (lv_at hl 3 rfl) ?_
          refine lv_aload_n hx hb dX12_age_43 rfl (lv_at hl 0 rfl) ?_
          refine va_get (D := (dC, dI)) (ci := 12) (v := .ref (rf 34)) (C := RX12) (T := TX12) (N := 76) hx hb htw inlX12 hown hK hP 0 rfl rfl 34 (by decide) (htw _ (ck_9 _ (List.mem_of_getElem? (i := 14) rfl))) (fun _ h9 => h9) rfl dX12_age_44 ?_
          refine lv_iload_n hx hb dX12_age_47 rfl (lv_at hl 1 rfl) ?_
          refine va_lald hx hb hK hP 2 1 rfl rfl (xg_inr (N := 12) rfl (gq_age_s1 (y0 := a0) (y1 := g 14) (hp_2.resolve_left c_4) (hp_3.resolve_left c_4) hp6).1 (gq_age_s1 (y0 := a0) (y1 := g 14) (hp_2.resolve_left c_4) (hp_3.resolve_left c_4) hp6).2) dX12_age_48 ?_
          obtain ⟨hPc, hDc, hFc, hCc⟩ := zsub3 (ws' := [(mq, .inr (12, mF (upd g 2 0) gl rf)), (eA0 (rf 29) (ck 29) 24 f_landHas)]) hP hD hS hA [0, 1] (by decide) rfl
          have hKc := hK.sub (tys' := [((ck 29), .int)]) [0] rfl
          refine va_calli (va_runV (As := [.int a2, .long (f_born a0.toNatClampNeg)]) (rest := []) ⟨hx, hb, hml, hown, htw⟩ (gq_date1 l dC dI mq (upd g 2 0) gl rf ck f_landHas a2 (f_born a0.toNatClampNeg) H.size (hp_8.resolve_left c_10) (gq_age_s2 (y0 := a2) (y1 := g 12) (hp_9.resolve_left c_10) hln4) (hBO a0 (hp_2.resolve_left c_4) (hp_3.resolve_left c_4)).1 (gq_age_s3 (y0 := f_born a0.toNatClampNeg) (hBO a0 (hp_2.resolve_left c_4) (hp_3.resolve_left c_4)).2) (hLZ a2 (And.intro (hp_8.resolve_left c_10) (hp_9.resolve_left c_10)).1 (And.intro (hp_8.resolve_left c_10) (hp_9.resolve_left c_10)).2)) (cwV 2 htw (xg_V (ck_36 _ (List.mem_of_getElem? (i := 11) rfl)) (ck_36 _ (List.mem_of_getElem? (i := 12) rfl)) (ck_36 _ (List.mem_of_getElem? (i := 13) rfl)) (ck_1 _ (List.mem_of_getElem? (i := 5) rfl)) (ck_36 _ (List.mem_of_getElem? (i := 14) rfl))) rfl rfl rfl (by exact ⟨rfl, hdc_14.1, hdc_14.2, hdd_42⟩) ⟨Nat.le_of_ble_eq_true rfl, Nat.le_of_ble_eq_true rfl⟩) ⟨fun a U g mk q => by obtain ⟨q0, q1, qP, qK, qD⟩ := q; exact ⟨q0, q1, qP, va_K.moved (u := U) (U := U.calling g mk a) (Vm.Alike.refl U.vm) qK, qD⟩, va_recv hKc hPc (ci := 12) (q0 := 0) rfl rfl, fun U hU hW => ⟨rfl, by rw [hU], by rw [hU]; exact hPc, va_K.moved hW.alike hKc, hDc.weaken (fun _ _ _ _ => trivial)⟩⟩ rfl rfl hl.1 rfl (lv_room (Nat.le_of_ble_eq_true rfl)) dX12_age_49 ⟨Nat.le_of_ble_eq_true rfl, Nat.le_of_ble_eq_true rfl⟩) hS (fun q _ h => hFc q h) hFc (fun r_12 u_13 t H1 locs ht hvm hw hB hz1 hk1 hS => ?_)
          try dsimp only at hw
          obtain ⟨hP1, hK1, hD1⟩ := hB
          rw [ht] at hP1
          have hK1 := va_K.moved hvm.symm hK1
          have hK1 : va_K (dC, dI) vwCl [] s := hK1
          obtain ⟨hP, hD⟩ := va_join (wr := [(eA1 (rf 34) (ck 34) 12 f_born)]) (w1 := [(mq, .inr (12, mF (upd g 2 0) (vp_updL (vp_updL gl 53 u_13.1) 54 u_13.2) rf)), (eA0 (rf 29) (ck 29) 24 f_landHas)]) hP hD [0, 1] [2] hCc rfl (by decide) (by decide) hk1 hFc hP1 hD1
          generalize H1 = H at hP hS ⊢
          obtain ⟨hP, hD⟩ := zre [(eA1 (rf 34) (ck 34) 12 f_born), (mq, .inr (12, mF (upd g 2 0) (vp_updL (vp_updL gl 53 u_13.1) 54 u_13.2) rf)), (eA0 (rf 29) (ck 29) 24 f_landHas)] hP hD rfl
          refine W.widen (k := 0) (n := 0) (by omega) (by omega) ?_
          obtain ⟨hw, hb_r_12⟩ := hw
          obtain ⟨X_16, hX_16⟩ : ∃ X9 : Int32 × (Int64) × (Int64), X9 = (fq_date1 f_landHas a2 (f_born a0.toNatClampNeg) (gl 53) (gl 54)) := ⟨_, rfl⟩
          have hq_r_12 : r_12 = X_16.1 := by rw [hX_16]; exact hw.1
          have hq_u_13 : u_13 = X_16.2 := by rw [hX_16]; exact hw.2
          refine lv_if_ne (tgt := 59) hx hb dX12_age_52 (by decide) (fun c_17 => ?_) (fun c_17 => ?_)
          · refine lv_aload_n hx hb dX12_age_59 rfl (lv_at hl 0 rfl) ?_
            refine va_get (D := (dC, dI)) (ci := 12) (v := .long u_13.1) (C := RX12) (T := TX12) (N := 76) hx hb htw inlX12 hown hK hP 1 rfl rfl 53 (by decide) (htw _ (ck_36 _ (List.mem_of_getElem? (i := 6) rfl))) (fun _ h9 => h9) rfl dX12_age_60 ?_
            refine lv_lstore (lv' := [(5, .long u_13.1), (0, .ref mq), (1, .int a0), (2, .long a1), (4, .int a2)]) hx hb dX12_age_63 hl (by decide) rfl (fun ls hl => ?_)
            refine lv_aload_n hx hb dX12_age_65 rfl (lv_at hl 1 rfl) ?_
            refine va_get (D := (dC, dI)) (ci := 12) (v := .long u_13.2) (C := RX12) (T := TX12) (N := 76) hx hb htw inlX12 hown hK hP 1 rfl rfl 54 (by decide) (htw _ (ck_36 _ (List.mem_of_getElem? (i := 7) rfl))) (fun _ h9 => h9) rfl dX12_age_66 ?_
            refine lv_lstore (lv' := [(7, .long u_13.2), (5, .long u_13.1), (0, .ref mq), (1, .int a0), (2, .long a1), (4, .int a2)]) hx hb dX12_age_69 hl (by decide) rfl (fun ls hl => ?_)
            refine lv_aload_n hx hb dX12_age_71 rfl (lv_at hl 2 rfl) ?_
            refine va_get (D := (dC, dI)) (ci := 12) (v := .ref (rf 29)) (C := RX12) (T := TX12) (N := 76) hx hb htw inlX12 hown hK hP 1 rfl rfl 29 (by decide) (htw _ (ck_9 _ (List.mem_of_getElem? (i := 9) rfl))) (fun _ h9 => h9) rfl dX12_age_72 ?_
            refine lv_iconst (v := 3) hx hb dX12_age_75 (by decide) ?_
            refine lv_iload hx hb dX12_age_76 (lv_at hl 5 rfl) ?_
            refine lv_imul hx hb dX12_age_78 ?_
            refine lv_iconst (v := 1) hx hb dX12_age_79 (by decide) ?_
            refine lv_iadd hx hb dX12_age_80 ?_
            refine va_iald hx hb hK hP 2 0 rfl rfl (xg_inr (N := 24) rfl (gq_age_s4 (y0 := a2) (y1 := g 12) (hp_8.resolve_left c_10) (hp_9.resolve_left c_10) hln4).1 (gq_age_s4 (y0 := a2) (y1 := g 12) (hp_8.resolve_left c_10) (hp_9.resolve_left c_10) hln4).2) dX12_age_81 ?_
            refine lv_i2l (v := (f_landHas (((3 * a2) + 1).toNatClampNeg)).toInt64) hx hb dX12_age_82 rfl ?_
            refine lv_lstore (lv' := [(9, .long ((f_landHas (((3 * a2) + 1).toNatClampNeg)).toInt64)), (7, .long u_13.2), (5, .long u_13.1), (0, .ref mq), (1, .int a0), (2, .long a1), (4, .int a2)]) hx hb dX12_age_83 hl (by decide) rfl (fun ls hl => ?_)
            refine lv_aload_n hx hb dX12_age_85 rfl (lv_at hl 3 rfl) ?_
            refine lv_iload hx hb dX12_age_86 (lv_at hl 6 rfl) ?_
            refine lv_lload_n hx hb dX12_age_88 rfl (lv_at hl 5 rfl) ?_
            obtain ⟨hPc, hDc, hFc, hCc⟩ := zsub3 (ws' := [(mq, .inr (12, mF (upd g 2 0) (vp_updL (vp_updL gl 53 u_13.1) 54 u_13.2) rf)), (eA0 (rf 29) (ck 29) 24 f_landHas)]) hP hD hS hA [1, 2] (by decide) rfl
            have hKc := hK.sub (tys' := [((ck 29), .int)]) [0] rfl
            refine va_calli (va_runV (As := [.int a2, .long a1]) (rest := []) ⟨hx, hb, hml, hown, htw⟩ (gq_date1 l dC dI mq (upd g 2 0) (vp_updL (vp_updL gl 53 u_13.1) 54 u_13.2) rf ck f_landHas a2 a1 H.size (hp_8.resolve_left c_10) (gq_age_s5 (y0 := a2) (y1 := g 12) (hp_9.resolve_left c_10) hln4) (xq_cnt hq_r_5 c_6).1 (gq_age_s6 (y0 := a1) (xq_cnt hq_r_5 c_6).2) (hLZ a2 (And.intro (hp_8.resolve_left c_10) (hp_9.resolve_left c_10)).1 (And.intro (hp_8.resolve_left c_10) (hp_9.resolve_left c_10)).2)) (cwV 2 htw (xg_V (ck_36 _ (List.mem_of_getElem? (i := 11) rfl)) (ck_36 _ (List.mem_of_getElem? (i := 12) rfl)) (ck_36 _ (List.mem_of_getElem? (i := 13) rfl)) (ck_1 _ (List.mem_of_getElem? (i := 5) rfl)) (ck_36 _ (List.mem_of_getElem? (i := 14) rfl))) rfl rfl rfl (by exact ⟨rfl, hdc_14.1, hdc_14.2, hdd_42⟩) ⟨Nat.le_of_ble_eq_true rfl, Nat.le_of_ble_eq_true rfl⟩) ⟨fun a U g mk q => by obtain ⟨q0, q1, qP, qK, qD⟩ := q; exact ⟨q0, q1, qP, va_K.moved (u := U) (U := U.calling g mk a) (Vm.Alike.refl U.vm) qK, qD⟩, va_recv hKc hPc (ci := 12) (q0 := 0) rfl rfl, fun U hU hW => ⟨rfl, by rw [hU], by rw [hU]; exact hPc, va_K.moved hW.alike hKc, hDc.weaken (fun _ _ _ _ => trivial)⟩⟩ rfl rfl hl.1 rfl (lv_room (Nat.le_of_ble_eq_true rfl)) dX12_age_89 ⟨Nat.le_of_ble_eq_true rfl, Nat.le_of_ble_eq_true rfl⟩) hS (fun q _ h => hFc q h) hFc (fun r_18 u_19 t H1 locs ht hvm hw hB hz1 hk1 hS => ?_)
            try dsimp only at hw
            obtain ⟨hP1, hK1, hD1⟩ := hB
            rw [ht] at hP1
            have hK1 := va_K.moved hvm.symm hK1
            have hK1 : va_K (dC, dI) vwCl [] s := hK1
            obtain ⟨hP, hD⟩ := va_join (wr := [(eA1 (rf 34) (ck 34) 12 f_born)]) (w1 := [(mq, .inr (12, mF (upd g 2 0) (vp_updL (vp_updL gl 53 u_19.1) 54 u_19.2) rf)), (eA0 (rf 29) (ck 29) 24 f_landHas)]) hP hD [1, 2] [0] hCc rfl (by decide) (by decide) hk1 hFc hP1 hD1
            generalize H1 = H at hP hS ⊢
            obtain ⟨hP, hD⟩ := zre [(eA1 (rf 34) (ck 34) 12 f_born), (mq, .inr (12, mF (upd g 2 0) (vp_updL (vp_updL gl 53 u_19.1) 54 u_19.2) rf)), (eA0 (rf 29) (ck 29) 24 f_landHas)] hP hD rfl
            refine W.widen (k := 0) (n := 0) (by omega) (by omega) ?_
            obtain ⟨hw, hb_r_18⟩ := hw
            obtain ⟨X_22, hX_22⟩ : ∃ X9 : Int32 × (Int64) × (Int64), X9 = (fq_date1 f_landHas a2 a1 u_13.1 u_13.2) := ⟨_, rfl⟩
            have hq_r_18 : r_18 = X_22.1 := by rw [hX_22]; exact hw.1
            have hq_u_19 : u_19 = X_22.2 := by rw [hX_22]; exact hw.2
            refine lv_istore (lv' := [(11, .int r_18), (9, .long ((f_landHas (((3 * a2) + 1).toNatClampNeg)).toInt64)), (7, .long u_13.2), (5, .long u_13.1), (0, .ref mq), (1, .int a0), (2, .long a1), (4, .int a2)]) hx hb dX12_age_92 hl (by decide) rfl (fun ls hl => ?_)
            obtain ⟨X_23, hX_23⟩ : ∃ X9 : (Int64) × (Int64) × (Int32) × (Int64) × (Int64) × (Int64), X9 = fq_age_a f_landHas a2 u_13 r_18 u_19 := ⟨_, rfl⟩
            have hjoin_24 : ∀ (L5a : Int64) (L7a : Int64) (L11a : Int32) (S0a : Int64) (m_gotYear_a : Int64) (m_gotDay_a : Int64)  (hE9 : X_23 = (L5a, L7a, L11a, S0a, m_gotYear_a, m_gotDay_a)) (H : Heap) (locs : List Loc) (ls : Array Slot) (hP : va_P (dC, dI) vwCl [(eA1 (rf 34) (ck 34) 12 f_born), (mq, .inr (12, mF (upd g 2 0) (vp_updL (vp_updL gl 53 m_gotYear_a) 54 m_gotDay_a) rf)), (eA0 (rf 29) (ck 29) 24 f_landHas)] H) (hD : va_D A [(eA1 (rf 34) (ck 34) 12 f_born), (mq, .inr (12, mF (upd g 2 0) (vp_updL (vp_updL gl 53 m_gotYear_a) 54 m_gotDay_a) rf)), (eA0 (rf 29) (ck 29) 24 f_landHas)]) (hS : va_S A s.heap H locs) (hl : lv_has ls 16 [(11, .int L11a), (9, .long ((f_landHas (((3 * a2) + 1).toNatClampNeg)).toInt64)), (7, .long L7a), (5, .long L5a), (0, .ref mq), (1, .int a0), (2, .long a1), (4, .int a2)]), W p l e (headSpec (Cond.code yX12_age cX12_age 16 (some .long) :: wsL_law) ({ frames := 2, cells := 0, slots := 0, locals := 56 })).room s m ([.ref mq, .int a0, .long a1, .int a2] : List Value).toArray below meth c H locs 0 0 (MQ below (va_Ql (fun (r : Int64) (u : (Int32) × (Int64) × (Int64)) => r = (fq_age f_landHas f_born a0 a1 a2 (g 12) (g 14) (gl 53) (gl 54)).1 ∧ u = (fq_age f_landHas f_born a0 a1 a2 (g 12) (g 14) (gl 53) (gl 54)).2) (fun (u : (Int32) × (Int64) × (Int64)) t => va_P (dC, dI) vwCl [(mq, .inr (12, mF (upd g 2 u.1) (vp_updL (vp_updL gl 53 u.2.1) 54 u.2.2) rf)), (eA0 (rf 29) (ck 29) 24 f_landHas), (eA1 (rf 34) (ck 34) 12 f_born)] t.heap ∧ va_K (dC, dI) vwCl [] t ∧ va_D A [(mq, .inr (12, mF (upd g 2 u.1) (vp_updL (vp_updL gl 53 u.2.1) 54 u.2.2) rf)), (eA0 (rf 29) (ck 29) 24 f_landHas), (eA1 (rf 34) (ck 34) 12 f_born)]) A) ([.ref mq, .int a0, .long a1, .int a2] : List Value).toArray s 0 0 A) (F0 m 131 ls [.long S0a]) := by
              intro L5a L7a L11a S0a m_gotYear_a m_gotDay_a  hE9 H locs ls hP hD hS hl
              have hq_L5a : L5a = X_23.1 := by rw [hE9]
              have hq_L7a : L7a = X_23.2.1 := by rw [hE9]
              have hq_L11a : L11a = X_23.2.2.1 := by rw [hE9]
              have hq_S0a : S0a = X_23.2.2.2.1 := by rw [hE9]
              have hq_m_gotYear_a : m_gotYear_a = X_23.2.2.2.2.1 := by rw [hE9]
              have hq_m_gotDay_a : m_gotDay_a = X_23.2.2.2.2.2 := by rw [hE9]
              refine lv_lstore (lv' := [(12, .long S0a), (11, .int L11a), (9, .long ((f_landHas (((3 * a2) + 1).toNatClampNeg)).toInt64)), (7, .long L7a), (5, .long L5a), (0, .ref mq), (1, .int a0), (2, .long a1), (4, .int a2)]) hx hb dX12_age_131 hl (by decide) rfl (fun ls hl => ?_)
              obtain ⟨X_25, hX_25⟩ : ∃ X9 : (Int64), X9 = fq_age_b f_landHas a2 L7a S0a := ⟨_, rfl⟩
              have hjoin_26 : ∀ (L12b : Int64)  (hE9 : X_25 = L12b) (H : Heap) (locs : List Loc) (ls : Array Slot) (hP : va_P (dC, dI) vwCl [(eA1 (rf 34) (ck 34) 12 f_born), (mq, .inr (12, mF (upd g 2 0) (vp_updL (vp_updL gl 53 m_gotYear_a) 54 m_gotDay_a) rf)), (eA0 (rf 29) (ck 29) 24 f_landHas)] H) (hD : va_D A [(eA1 (rf 34) (ck 34) 12 f_born), (mq, .inr (12, mF (upd g 2 0) (vp_updL (vp_updL gl 53 m_gotYear_a) 54 m_gotDay_a) rf)), (eA0 (rf 29) (ck 29) 24 f_landHas)]) (hS : va_S A s.heap H locs) (hl : lv_has ls 16 [(12, .long L12b), (11, .int L11a), (9, .long ((f_landHas (((3 * a2) + 1).toNatClampNeg)).toInt64)), (7, .long L7a), (5, .long L5a), (0, .ref mq), (1, .int a0), (2, .long a1), (4, .int a2)]), W p l e (headSpec (Cond.code yX12_age cX12_age 16 (some .long) :: wsL_law) ({ frames := 2, cells := 0, slots := 0, locals := 56 })).room s m ([.ref mq, .int a0, .long a1, .int a2] : List Value).toArray below meth c H locs 0 0 (MQ below (va_Ql (fun (r : Int64) (u : (Int32) × (Int64) × (Int64)) => r = (fq_age f_landHas f_born a0 a1 a2 (g 12) (g 14) (gl 53) (gl 54)).1 ∧ u = (fq_age f_landHas f_born a0 a1 a2 (g 12) (g 14) (gl 53) (gl 54)).2) (fun (u : (Int32) × (Int64) × (Int64)) t => va_P (dC, dI) vwCl [(mq, .inr (12, mF (upd g 2 u.1) (vp_updL (vp_updL gl 53 u.2.1) 54 u.2.2) rf)), (eA0 (rf 29) (ck 29) 24 f_landHas), (eA1 (rf 34) (ck 34) 12 f_born)] t.heap ∧ va_K (dC, dI) vwCl [] t ∧ va_D A [(mq, .inr (12, mF (upd g 2 u.1) (vp_updL (vp_updL gl 53 u.2.1) 54 u.2.2) rf)), (eA0 (rf 29) (ck 29) 24 f_landHas), (eA1 (rf 34) (ck 34) 12 f_born)]) A) ([.ref mq, .int a0, .long a1, .int a2] : List Value).toArray s 0 0 A) (F0 m 178 ls []) := by
                intro L12b  hE9 H locs ls hP hD hS hl
                have hq_L12b : L12b = X_25 := by rw [hE9]
                refine lv_lload hx hb dX12_age_178 (lv_at hl 0 rfl) ?_
                refine lv_lload hx hb dX12_age_180 (lv_at hl 4 rfl) ?_
                refine W.lcmp hx hb dX12_age_182 ?_
                refine lv_if_le (tgt := 194) hx hb dX12_age_183 (by decide) (fun c_27 => ?_) (fun c_27 => ?_)
                · refine lv_lconst (v := 0) hx hb dX12_age_194 (by decide) ?_
                  refine W.widen (k := 0) (n := 0) (by omega) (by omega) ?_
                  obtain ⟨hP9, hD9⟩ := zsub2 (ws' := [(mq, .inr (12, mF (upd g 2 0) (vp_updL (vp_updL gl 53 m_gotYear_a) 54 m_gotDay_a) rf)), (eA0 (rf 29) (ck 29) 24 f_landHas), (eA1 (rf 34) (ck 34) 12 f_born)]) hP hD [1, 2, 0] (by decide) rfl
                  have hK9 := hK.sub (tys' := []) [] rfl
                  exact W.lret (v := 0) hx hb hr (fun t ht hW => ⟨⟨0, (0, m_gotYear_a, m_gotDay_a), rfl, ((fun e9 => ⟨by rw [e9], by rw [e9]⟩ : fq_age f_landHas f_born a0 a1 a2 (g 12) (g 14) (gl 53) (gl 54) = ((0 : Int64), (0 : Int32), m_gotYear_a, m_gotDay_a) → _) ((by rw [fq_age]; (try rw [← hq_r_1]); (try rw [xL_eq]); (try rw [if_neg c_4]); (try rw [← hq_r_5]); (try rw [xL_eq]); (try rw [if_neg c_6]); (try rw [← hq_r_7]); (try rw [xL_eq]); (try rw [if_neg c_10]); (try rw [if_neg c_11]); (try rw [← hX_16]); (try rw [xL_eq]); (try rw [← hq_r_12]); (try rw [← hq_u_13]); (try rw [if_neg c_17]); (try rw [← hX_22]); (try rw [xL_eq]); (try rw [← hq_r_18]); (try rw [← hq_u_19]); (try rw [← hX_23]); (try rw [xL_eq]); (try rw [← hq_L5a]); (try rw [← hq_L7a]); (try rw [← hq_L11a]); (try rw [← hq_S0a]); (try rw [← hq_m_gotYear_a]); (try rw [← hq_m_gotDay_a]); (try rw [← hX_25]); (try rw [xL_eq]); (try rw [← hq_L12b]); (try rw [if_pos c_27]); try rfl))), by rw [ht]; exact hP9, va_K.moved hW.alike hK9, hD9⟩, hS.F ht⟩) hS.2.2 dX12_age_195
                · refine lv_lload hx hb dX12_age_186 (lv_at hl 0 rfl) ?_
                  refine lv_lload hx hb dX12_age_188 (lv_at hl 4 rfl) ?_
                  refine lv_lsub hx hb dX12_age_190 ?_
                  refine lv_goto (tgt := 195) hx hb dX12_age_191 (by decide) ?_
                  refine W.widen (k := 0) (n := 0) (by omega) (by omega) ?_
                  obtain ⟨hP9, hD9⟩ := zsub2 (ws' := [(mq, .inr (12, mF (upd g 2 0) (vp_updL (vp_updL gl 53 m_gotYear_a) 54 m_gotDay_a) rf)), (eA0 (rf 29) (ck 29) 24 f_landHas), (eA1 (rf 34) (ck 34) 12 f_born)]) hP hD [1, 2, 0] (by decide) rfl
                  have hK9 := hK.sub (tys' := []) [] rfl
                  exact W.lret (v := (L12b - L5a)) hx hb hr (fun t ht hW => ⟨⟨(L12b - L5a), (0, m_gotYear_a, m_gotDay_a), rfl, ((fun e9 => ⟨by rw [e9], by rw [e9]⟩ : fq_age f_landHas f_born a0 a1 a2 (g 12) (g 14) (gl 53) (gl 54) = ((L12b - L5a), (0 : Int32), m_gotYear_a, m_gotDay_a) → _) ((by rw [fq_age]; (try rw [← hq_r_1]); (try rw [xL_eq]); (try rw [if_neg c_4]); (try rw [← hq_r_5]); (try rw [xL_eq]); (try rw [if_neg c_6]); (try rw [← hq_r_7]); (try rw [xL_eq]); (try rw [if_neg c_10]); (try rw [if_neg c_11]); (try rw [← hX_16]); (try rw [xL_eq]); (try rw [← hq_r_12]); (try rw [← hq_u_13]); (try rw [if_neg c_17]); (try rw [← hX_22]); (try rw [xL_eq]); (try rw [← hq_r_18]); (try rw [← hq_u_19]); (try rw [← hX_23]); (try rw [xL_eq]); (try rw [← hq_L5a]); (try rw [← hq_L7a]); (try rw [← hq_L11a]); (try rw [← hq_S0a]); (try rw [← hq_m_gotYear_a]); (try rw [← hq_m_gotDay_a]); (try rw [← hX_25]); (try rw [xL_eq]); (try rw [← hq_L12b]); (try rw [if_neg c_27]); try rfl))), by rw [ht]; exact hP9, va_K.moved hW.alike hK9, hD9⟩, hS.F ht⟩) hS.2.2 dX12_age_195
              refine lv_lload hx hb dX12_age_133 (lv_at hl 2 rfl) ?_
              refine lv_lconst (v := 0) hx hb dX12_age_135 (by decide) ?_
              refine W.lcmp hx hb dX12_age_136 ?_
              refine lv_if_ge (tgt := 178) hx hb dX12_age_137 (by decide) (fun c_28 => ?_) (fun c_28 => ?_)
              · exact hjoin_26 S0a  (hX_25.trans (by rw [fq_age_b]; (try rw [if_pos c_28]); try rfl)) _ _ ls hP hD hS (lv_sub hl [0, 1, 2, 3, 4, 5, 6, 7, 8] rfl)
              · refine lv_aload_n hx hb dX12_age_140 rfl (lv_at hl 5 rfl) ?_
                refine va_get (D := (dC, dI)) (ci := 12) (v := .ref (rf 29)) (C := RX12) (T := TX12) (N := 76) hx hb htw inlX12 hown hK hP 1 rfl rfl 29 (by decide) (htw _ (ck_9 _ (List.mem_of_getElem? (i := 9) rfl))) (fun _ h9 => h9) rfl dX12_age_141 ?_
                refine lv_iconst (v := 3) hx hb dX12_age_144 (by decide) ?_
                refine lv_iload hx hb dX12_age_145 (lv_at hl 8 rfl) ?_
                refine lv_imul hx hb dX12_age_147 ?_
                refine va_iald hx hb hK hP 2 0 rfl rfl (xg_inr (N := 24) rfl (gq_age_s7 (y0 := a2) (y1 := g 12) (hp_8.resolve_left c_10) (hp_9.resolve_left c_10) hln4).1 (gq_age_s7 (y0 := a2) (y1 := g 12) (hp_8.resolve_left c_10) (hp_9.resolve_left c_10) hln4).2) dX12_age_148 ?_
                refine lv_i2l (v := (f_landHas ((3 * a2).toNatClampNeg)).toInt64) hx hb dX12_age_149 rfl ?_
                refine lv_lload hx hb dX12_age_150 (lv_at hl 3 rfl) ?_
                refine lv_lsub hx hb dX12_age_152 ?_
                refine lv_lload hx hb dX12_age_153 (lv_at hl 2 rfl) ?_
                refine lv_lneg hx hb dX12_age_155 ?_
                refine lv_ldiv hx hb dX12_age_156 (xg_nz64n (xd_neg c_28)) ?_
                refine lv_lconst (v := 1) hx hb dX12_age_157 (by decide) ?_
                refine lv_ladd hx hb dX12_age_158 ?_
                refine lv_lstore (lv' := [(14, .long (((((f_landHas ((3 * a2).toNatClampNeg)).toInt64) - L7a) / (-((f_landHas (((3 * a2) + 1).toNatClampNeg)).toInt64))) + 1)), (12, .long S0a), (11, .int L11a), (9, .long ((f_landHas (((3 * a2) + 1).toNatClampNeg)).toInt64)), (7, .long L7a), (5, .long L5a), (0, .ref mq), (1, .int a0), (2, .long a1), (4, .int a2)]) hx hb dX12_age_159 hl (by decide) rfl (fun ls hl => ?_)
                refine lv_lload hx hb dX12_age_161 (lv_at hl 1 rfl) ?_
                refine lv_lload hx hb dX12_age_163 (lv_at hl 0 rfl) ?_
                refine W.lcmp hx hb dX12_age_165 ?_
                refine lv_if_ge (tgt := 174) hx hb dX12_age_166 (by decide) (fun c_29 => ?_) (fun c_29 => ?_)
                · refine lv_lload hx hb dX12_age_174 (lv_at hl 0 rfl) ?_
                  refine lv_lstore (lv' := [(12, .long (((((f_landHas ((3 * a2).toNatClampNeg)).toInt64) - L7a) / (-((f_landHas (((3 * a2) + 1).toNatClampNeg)).toInt64))) + 1)), (14, .long (((((f_landHas ((3 * a2).toNatClampNeg)).toInt64) - L7a) / (-((f_landHas (((3 * a2) + 1).toNatClampNeg)).toInt64))) + 1)), (11, .int L11a), (9, .long ((f_landHas (((3 * a2) + 1).toNatClampNeg)).toInt64)), (7, .long L7a), (5, .long L5a), (0, .ref mq), (1, .int a0), (2, .long a1), (4, .int a2)]) hx hb dX12_age_176 hl (by decide) rfl (fun ls hl => ?_)
                  exact hjoin_26 (((((f_landHas ((3 * a2).toNatClampNeg)).toInt64) - L7a) / (-((f_landHas (((3 * a2) + 1).toNatClampNeg)).toInt64))) + 1)  (hX_25.trans (by rw [fq_age_b]; (try rw [if_neg c_28]); (try rw [if_pos c_29]); try rfl)) _ _ ls hP hD hS (lv_sub hl [0, 2, 3, 4, 5, 6, 7, 8, 9] rfl)
                · refine lv_lload hx hb dX12_age_169 (lv_at hl 1 rfl) ?_
                  refine lv_goto (tgt := 176) hx hb dX12_age_171 (by decide) ?_
                  refine lv_lstore (lv' := [(12, .long S0a), (14, .long (((((f_landHas ((3 * a2).toNatClampNeg)).toInt64) - L7a) / (-((f_landHas (((3 * a2) + 1).toNatClampNeg)).toInt64))) + 1)), (11, .int L11a), (9, .long ((f_landHas (((3 * a2) + 1).toNatClampNeg)).toInt64)), (7, .long L7a), (5, .long L5a), (0, .ref mq), (1, .int a0), (2, .long a1), (4, .int a2)]) hx hb dX12_age_176 hl (by decide) rfl (fun ls hl => ?_)
                  exact hjoin_26 S0a  (hX_25.trans (by rw [fq_age_b]; (try rw [if_neg c_28]); (try rw [if_neg c_29]); try rfl)) _ _ ls hP hD hS (lv_sub hl [0, 2, 3, 4, 5, 6, 7, 8, 9] rfl)
            refine lv_iload hx hb dX12_age_94 (lv_at hl 0 rfl) ?_
            refine lv_if_eq (tgt := 125) hx hb dX12_age_96 (by decide) (fun c_30 => ?_) (fun c_30 => ?_)
            · refine lv_aload_n hx hb dX12_age_125 rfl (lv_at hl 4 rfl) ?_
              refine lv_iload hx hb dX12_age_126 (lv_at hl 7 rfl) ?_
              have hPc := hP.sub (ws' := [(mq, .inr (12, mF (upd g 2 0) (vp_updL (vp_updL gl 53 u_19.1) 54 u_19.2) rf)), (eA0 (rf 29) (ck 29) 24 f_landHas)]) [1, 2] rfl
              have hKc := hK.sub (tys' := [((ck 29), .int)]) [0] rfl
              refine vp_callSl (W.runV (As := [.int a2]) (rest := []) ⟨hx, hb, hml, hown, htw⟩ (gq_endYear l dC dI mq (upd g 2 0) (vp_updL (vp_updL gl 53 u_19.1) 54 u_19.2) rf ck f_landHas a2 (hp_8.resolve_left c_10) (gq_age_s8 (y0 := a2) (y1 := g 12) (hp_9.resolve_left c_10) hln4) (xD_g0 hX_22 (hq_r_18.symm.trans c_30) (xD_tr (xD_from hX_16 (fun z => c_17 (hq_r_12.trans z))) c_11) (hLZ1 a2 (And.intro (hp_8.resolve_left c_10) (hp_9.resolve_left c_10)).1 (And.intro (hp_8.resolve_left c_10) (hp_9.resolve_left c_10)).2) (gq_age_s9 (y0 := a1) (xq_cnt hq_r_5 c_6).1 (xq_cnt hq_r_5 c_6).2).1 (gq_age_s9 (y0 := a1) (xq_cnt hq_r_5 c_6).1 (xq_cnt hq_r_5 c_6).2).2)) (cwV 1 htw (xg_V (ck_36 _ (List.mem_of_getElem? (i := 15) rfl)) (ck_36 _ (List.mem_of_getElem? (i := 16) rfl)) (ck_36 _ (List.mem_of_getElem? (i := 17) rfl)) (ck_1 _ (List.mem_of_getElem? (i := 5) rfl)) (ck_36 _ (List.mem_of_getElem? (i := 18) rfl))) rfl rfl rfl (by exact ⟨rfl, hdc_14.1, hdc_14.2, hdd_30⟩) ⟨Nat.le_of_ble_eq_true rfl, Nat.le_of_ble_eq_true rfl⟩) ⟨fun a U g mk q => by obtain ⟨q0, qP, qK⟩ := q; exact ⟨q0, qP, va_K.moved (u := U) (U := U.calling g mk a) (Vm.Alike.refl U.vm) qK⟩, va_recv hKc hPc (ci := 12) (q0 := 0) rfl rfl, fun U hU hW => ⟨rfl, by rw [hU]; exact hPc, va_K.moved hW.alike hKc⟩⟩ rfl rfl hl.1 rfl (lv_room (Nat.le_of_ble_eq_true rfl)) dX12_age_128 ⟨Nat.le_of_ble_eq_true rfl, Nat.le_of_ble_eq_true rfl⟩) (fun r_31 hw => ?_)
              try dsimp only at hw
              have hq_r_31 : r_31 = (fq_endYear f_landHas a2) := hw
              exact hjoin_24 u_13.1 u_13.2 r_18 r_31 u_19.1 u_19.2  (hX_23.trans (by rw [fq_age_a]; (try rw [if_pos c_30]); (try rw [← hq_r_31]); (try rw [xL_eq]); try rfl)) _ _ ls hP hD hS (lv_sub hl [0, 1, 2, 3, 4, 5, 6, 7] rfl)
            · refine lv_aload_n hx hb dX12_age_99 rfl (lv_at hl 4 rfl) ?_
              refine va_get (D := (dC, dI)) (ci := 12) (v := .long u_19.2) (C := RX12) (T := TX12) (N := 76) hx hb htw inlX12 hown hK hP 1 rfl rfl 54 (by decide) (htw _ (ck_36 _ (List.mem_of_getElem? (i := 7) rfl))) (fun _ h9 => h9) rfl dX12_age_100 ?_
              refine lv_lload hx hb dX12_age_103 (lv_at hl 2 rfl) ?_
              refine W.lcmp hx hb dX12_age_105 ?_
              refine lv_if_lt (tgt := 116) hx hb dX12_age_106 (by decide) (fun c_32 => ?_) (fun c_32 => ?_)
              · refine lv_aload_n hx hb dX12_age_116 rfl (lv_at hl 4 rfl) ?_
                refine va_get (D := (dC, dI)) (ci := 12) (v := .long u_19.1) (C := RX12) (T := TX12) (N := 76) hx hb htw inlX12 hown hK hP 1 rfl rfl 53 (by decide) (htw _ (ck_36 _ (List.mem_of_getElem? (i := 6) rfl))) (fun _ h9 => h9) rfl dX12_age_117 ?_
                refine lv_lconst (v := 1) hx hb dX12_age_120 (by decide) ?_
                refine lv_lsub hx hb dX12_age_121 ?_
                refine lv_goto (tgt := 131) hx hb dX12_age_122 (by decide) ?_
                exact hjoin_24 u_13.1 u_13.2 r_18 (u_19.1 - 1) u_19.1 u_19.2  (hX_23.trans (by rw [fq_age_a]; (try rw [if_neg c_30]); (try rw [if_pos c_32]); try rfl)) _ _ ls hP hD hS (lv_sub hl [0, 1, 2, 3, 4, 5, 6, 7] rfl)
              · refine lv_aload_n hx hb dX12_age_109 rfl (lv_at hl 4 rfl) ?_
                refine va_get (D := (dC, dI)) (ci := 12) (v := .long u_19.1) (C := RX12) (T := TX12) (N := 76) hx hb htw inlX12 hown hK hP 1 rfl rfl 53 (by decide) (htw _ (ck_36 _ (List.mem_of_getElem? (i := 6) rfl))) (fun _ h9 => h9) rfl dX12_age_110 ?_
                refine lv_goto (tgt := 131) hx hb dX12_age_113 (by decide) ?_
                exact hjoin_24 u_13.1 u_13.2 r_18 u_19.1 u_19.1 u_19.2  (hX_23.trans (by rw [fq_age_a]; (try rw [if_neg c_30]); (try rw [if_neg c_32]); try rfl)) _ _ ls hP hD hS (lv_sub hl [0, 1, 2, 3, 4, 5, 6, 7] rfl)
          · refine lv_ldc2 (v := (-1)) hx hb hown (htw _ (ck_29 _ (List.mem_of_getElem? (i := 13) rfl))) dX12_age_55 ?_
            refine W.widen (k := 0) (n := 0) (by omega) (by omega) ?_
            obtain ⟨hP9, hD9⟩ := zsub2 (ws' := [(mq, .inr (12, mF (upd g 2 0) (vp_updL (vp_updL gl 53 u_13.1) 54 u_13.2) rf)), (eA0 (rf 29) (ck 29) 24 f_landHas), (eA1 (rf 34) (ck 34) 12 f_born)]) hP hD [1, 2, 0] (by decide) rfl
            have hK9 := hK.sub (tys' := []) [] rfl
            exact W.lret (v := (-1)) hx hb hr (fun t ht hW => ⟨⟨(-1), (0, u_13.1, u_13.2), rfl, ((fun e9 => ⟨by rw [e9], by rw [e9]⟩ : fq_age f_landHas f_born a0 a1 a2 (g 12) (g 14) (gl 53) (gl 54) = ((-1 : Int64), (0 : Int32), u_13.1, u_13.2) → _) ((by rw [fq_age]; (try rw [← hq_r_1]); (try rw [xL_eq]); (try rw [if_neg c_4]); (try rw [← hq_r_5]); (try rw [xL_eq]); (try rw [if_neg c_6]); (try rw [← hq_r_7]); (try rw [xL_eq]); (try rw [if_neg c_10]); (try rw [if_neg c_11]); (try rw [← hX_16]); (try rw [xL_eq]); (try rw [← hq_r_12]); (try rw [← hq_u_13]); (try rw [if_pos c_17]); try rfl))), by rw [ht]; exact hP9, va_K.moved hW.alike hK9, hD9⟩, hS.F ht⟩) hS.2.2 dX12_age_58
