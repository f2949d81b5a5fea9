def fq_often_a (f_landHas : Nat → Int32) (a0 : Int32) (a1 : Int32) (a3 : Int64) : (Int64) := (if lg_cmp ((f_landHas (((3 * a0) + 1).toNatClampNeg)).toInt64) 0 ≤ 0 then a1.toInt64 else (if lg_cmp a3 ((f_landHas ((3 * a0).toNatClampNeg)).toInt64) ≤ 0 then a1.toInt64 else (if lg_cmp a1.toInt64 ((((a3 - ((f_landHas ((3 * a0).toNatClampNeg)).toInt64)) - 1) / ((f_landHas (((3 * a0) + 1).toNatClampNeg)).toInt64)) + 2) ≤ 0 then ((((a3 - ((f_landHas ((3 * a0).toNatClampNeg)).toInt64)) - 1) / ((f_landHas (((3 * a0) + 1).toNatClampNeg)).toInt64)) + 2) else a1.toInt64)))
def fq_often_a2 (f_landHas : Nat → Int32) (a0 : Int32) (a1 : Int32) (a3 : Int64) : (Int64) := (if lg_cmp ((f_landHas (((3 * a0) + 1).toNatClampNeg)).toInt64) 0 ≤ 0 then a1.toInt64 else (if lg_cmp a3 ((f_landHas ((3 * a0).toNatClampNeg)).toInt64) ≤ 0 then a1.toInt64 else (if lg_cmp a1.toInt64 ((((a3 - ((f_landHas ((3 * a0).toNatClampNeg)).toInt64)) - 1) / ((f_landHas (((3 * a0) + 1).toNatClampNeg)).toInt64)) + 2) ≤ 0 then ((((a3 - ((f_landHas ((3 * a0).toNatClampNeg)).toInt64)) - 1) / ((f_landHas (((3 * a0) + 1).toNatClampNeg)).toInt64)) + 2) else a1.toInt64)))
def fq_often (f_landHas : Nat → Int32) (a0 : Int32) (a1 : Int32) (a2 : Int32) (a3 : Int64) (m_lands : Int32) : Int64 × (Int32) := (xL ((fq_isLand a0 m_lands)) (fun r_1 => (if r_1 = 0 then ((-1 : Int64), (0 : Int32)) else (if a1 < 1 then ((-1 : Int64), (0 : Int32)) else (if 1000000000 < a2 then ((-1 : Int64), (0 : Int32)) else (if a2 < a1 then ((-1 : Int64), (0 : Int32)) else (if 0 ≤ lg_cmp a3 1 then (if lg_cmp ((f_landHas (((3 * a0) + 1).toNatClampNeg)).toInt64) 0 = 0 then (if 0 ≤ lg_cmp ((f_landHas ((3 * a0).toNatClampNeg)).toInt64) a3 then (xL (fq_often_a2 f_landHas a0 a1 a3) (fun X_22 => (if 0 ≤ lg_cmp ((f_landHas (((3 * a0) + 1).toNatClampNeg)).toInt64) 0 then (if 0 ≤ lg_cmp a2.toInt64 X_22 then (((a2.toInt64 - X_22) + 1), (0 : Int32)) else ((0 : Int64), (0 : Int32))) else (if 0 ≤ lg_cmp a2.toInt64 (((((f_landHas ((3 * a0).toNatClampNeg)).toInt64) - a3) / (-((f_landHas (((3 * a0) + 1).toNatClampNeg)).toInt64))) + 1) then (if 0 ≤ lg_cmp (((((f_landHas ((3 * a0).toNatClampNeg)).toInt64) - a3) / (-((f_landHas (((3 * a0) + 1).toNatClampNeg)).toInt64))) + 1) X_22 then ((((((((f_landHas ((3 * a0).toNatClampNeg)).toInt64) - a3) / (-((f_landHas (((3 * a0) + 1).toNatClampNeg)).toInt64))) + 1) - X_22) + 1), (0 : Int32)) else ((0 : Int64), (0 : Int32))) else (if 0 ≤ lg_cmp a2.toInt64 X_22 then (((a2.toInt64 - X_22) + 1), (0 : Int32)) else ((0 : Int64), (0 : Int32))))))) else ((0 : Int64), (0 : Int32))) else (xL (fq_often_a f_landHas a0 a1 a3) (fun X_10 => (if 0 ≤ lg_cmp ((f_landHas (((3 * a0) + 1).toNatClampNeg)).toInt64) 0 then (if 0 ≤ lg_cmp a2.toInt64 X_10 then (((a2.toInt64 - X_10) + 1), (0 : Int32)) else ((0 : Int64), (0 : Int32))) else (if 0 ≤ lg_cmp ((f_landHas ((3 * a0).toNatClampNeg)).toInt64) a3 then (if 0 ≤ lg_cmp a2.toInt64 (((((f_landHas ((3 * a0).toNatClampNeg)).toInt64) - a3) / (-((f_landHas (((3 * a0) + 1).toNatClampNeg)).toInt64))) + 1) then (if 0 ≤ lg_cmp (((((f_landHas ((3 * a0).toNatClampNeg)).toInt64) - a3) / (-((f_landHas (((3 * a0) + 1).toNatClampNeg)).toInt64))) + 1) X_10 then ((((((((f_landHas ((3 * a0).toNatClampNeg)).toInt64) - a3) / (-((f_landHas (((3 * a0) + 1).toNatClampNeg)).toInt64))) + 1) - X_10) + 1), (0 : Int32)) else ((0 : Int64), (0 : Int32))) else (if 0 ≤ lg_cmp a2.toInt64 X_10 then (((a2.toInt64 - X_10) + 1), (0 : Int32)) else ((0 : Int64), (0 : Int32)))) else ((0 : Int64), (0 : Int32))))))) else ((-1 : Int64), (0 : Int32)))))))))
theorem gq_often_s0 {y0 : Int32} {y1 : Int32} (h0 : ¬ (y0 < 0)) (h1 : y0 < y1) (h2 : ¬ (y1 < 0)) (h3 : y1 ≤ 4) : ¬ ((3 * y0) < 0) ∧ ¬ (24 ≤ (3 * y0)) := by lia
theorem gq_often_s1 {y0 : Int32} {y1 : Int32} (h0 : ¬ (y0 < 0)) (h1 : y0 < y1) (h2 : ¬ (y1 < 0)) (h3 : y1 ≤ 4) : ¬ (((3 * y0) + 1) < 0) ∧ ¬ (24 ≤ ((3 * y0) + 1)) := by lia
theorem gq_often_s2 {y0 : Int64} (h0 : ¬ (y0 = 0)) (h1 : ¬ (0 ≤ y0)) : ¬ ((-y0) = 0) := by lia
theorem gq_often_s3 {y0 : Int64} (h0 : ¬ (y0 = 0)) (h1 : ¬ (y0 ≤ 0)) : ¬ (y0 = 0) := h0
theorem gq_often_s4 {y0 : Int64} (h0 : y0 = 0) (h1 : ¬ (0 ≤ y0)) : ¬ ((-y0) = 0) := by lia
theorem gq_often_s5 {y0 : Int64} (h0 : y0 = 0) (h1 : ¬ (y0 ≤ 0)) : ¬ (y0 = 0) := by lia
theorem dX12_often_0 : decode cX12_often 0 = .ok (.aload_n 0, 1) := zk_42 (by decide +kernel)
theorem dX12_often_1 : decode cX12_often 1 = .ok (.iconst 0, 1) := zk_3 (by decide +kernel)
theorem dX12_often_2 : decode cX12_often 2 = .ok (.putfield 119, 3) := zk_181 (by decide +kernel)
theorem dX12_often_5 : decode cX12_often 5 = .ok (.aload_n 0, 1) := zk_42 (by decide +kernel)
theorem dX12_often_6 : decode cX12_often 6 = .ok (.iload_n 1, 1) := zk_27 (by decide +kernel)
theorem dX12_often_7 : decode cX12_often 7 = .ok (.invokevirtual 404, 3) := zk_182 (by decide +kernel)
theorem dX12_often_10 : decode cX12_often 10 = .ok (.ifCond .eq 27, 3) := zk_153 (by decide +kernel)
theorem dX12_often_37 : decode cX12_often 37 = .ok (.ldc2_w 273, 3) := zk_20 (by decide +kernel)
theorem dX12_often_40 : decode cX12_often 40 = .ok (.lreturn, 1) := zk_173 (by decide +kernel)
theorem dX12_often_13 : decode cX12_often 13 = .ok (.iload_n 2, 1) := zk_28 (by decide +kernel)
theorem dX12_often_14 : decode cX12_often 14 = .ok (.iconst 1, 1) := zk_4 (by decide +kernel)
theorem dX12_often_15 : decode cX12_often 15 = .ok (.if_icmp .lt 22, 3) := zk_161 (by decide +kernel)
theorem dX12_often_18 : decode cX12_often 18 = .ok (.iload_n 3, 1) := zk_29 (by decide +kernel)
theorem dX12_often_19 : decode cX12_often 19 = .ok (.ldc_w 419, 3) := zk_19 (by decide +kernel)
theorem dX12_often_22 : decode cX12_often 22 = .ok (.if_icmp .gt 15, 3) := zk_163 (by decide +kernel)
theorem dX12_often_25 : decode cX12_often 25 = .ok (.iload_n 2, 1) := zk_28 (by decide +kernel)
theorem dX12_often_26 : decode cX12_often 26 = .ok (.iload_n 3, 1) := zk_29 (by decide +kernel)
theorem dX12_often_27 : decode cX12_often 27 = .ok (.if_icmp .gt 10, 3) := zk_163 (by decide +kernel)
theorem dX12_often_30 : decode cX12_often 30 = .ok (.lload 4, 2) := zk_22 (by decide +kernel)
theorem dX12_often_32 : decode cX12_often 32 = .ok (.lconst 1, 1) := zk_10 (by decide +kernel)
theorem dX12_often_33 : decode cX12_often 33 = .ok (.lcmp, 1) := zk_148 (by decide +kernel)
theorem dX12_often_34 : decode cX12_often 34 = .ok (.ifCond .ge 7, 3) := zk_156 (by decide +kernel)
theorem dX12_often_41 : decode cX12_often 41 = .ok (.aload_n 0, 1) := zk_42 (by decide +kernel)
theorem dX12_often_42 : decode cX12_often 42 = .ok (.getfield 26, 3) := zk_180 (by decide +kernel)
theorem dX12_often_45 : decode cX12_often 45 = .ok (.iconst 3, 1) := zk_6 (by decide +kernel)
theorem dX12_often_46 : decode cX12_often 46 = .ok (.iload_n 1, 1) := zk_27 (by decide +kernel)
theorem dX12_often_47 : decode cX12_often 47 = .ok (.imul, 1) := zk_104 (by decide +kernel)
theorem dX12_often_48 : decode cX12_often 48 = .ok (.iaload, 1) := zk_46 (by decide +kernel)
theorem dX12_often_49 : decode cX12_often 49 = .ok (.i2l, 1) := zk_133 (by decide +kernel)
theorem dX12_often_50 : decode cX12_often 50 = .ok (.lstore 6, 2) := zk_55 (by decide +kernel)
theorem dX12_often_52 : decode cX12_often 52 = .ok (.aload_n 0, 1) := zk_42 (by decide +kernel)
theorem dX12_often_53 : decode cX12_often 53 = .ok (.getfield 26, 3) := zk_180 (by decide +kernel)
theorem dX12_often_56 : decode cX12_often 56 = .ok (.iconst 3, 1) := zk_6 (by decide +kernel)
theorem dX12_often_57 : decode cX12_often 57 = .ok (.iload_n 1, 1) := zk_27 (by decide +kernel)
theorem dX12_often_58 : decode cX12_often 58 = .ok (.imul, 1) := zk_104 (by decide +kernel)
theorem dX12_often_59 : decode cX12_often 59 = .ok (.iconst 1, 1) := zk_4 (by decide +kernel)
theorem dX12_often_60 : decode cX12_often 60 = .ok (.iadd, 1) := zk_96 (by decide +kernel)
theorem dX12_often_61 : decode cX12_often 61 = .ok (.iaload, 1) := zk_46 (by decide +kernel)
theorem dX12_often_62 : decode cX12_often 62 = .ok (.i2l, 1) := zk_133 (by decide +kernel)
theorem dX12_often_63 : decode cX12_often 63 = .ok (.lstore 8, 2) := zk_55 (by decide +kernel)
theorem dX12_often_65 : decode cX12_often 65 = .ok (.iload_n 2, 1) := zk_28 (by decide +kernel)
theorem dX12_often_66 : decode cX12_often 66 = .ok (.i2l, 1) := zk_133 (by decide +kernel)
theorem dX12_often_67 : decode cX12_often 67 = .ok (.lstore 10, 2) := zk_55 (by decide +kernel)
theorem dX12_often_69 : decode cX12_often 69 = .ok (.iload_n 3, 1) := zk_29 (by decide +kernel)
theorem dX12_often_70 : decode cX12_often 70 = .ok (.i2l, 1) := zk_133 (by decide +kernel)
theorem dX12_often_71 : decode cX12_often 71 = .ok (.lstore 12, 2) := zk_55 (by decide +kernel)
theorem dX12_often_73 : decode cX12_often 73 = .ok (.lload 8, 2) := zk_22 (by decide +kernel)
theorem dX12_often_75 : decode cX12_often 75 = .ok (.lconst 0, 1) := zk_9 (by decide +kernel)
theorem dX12_often_76 : decode cX12_often 76 = .ok (.lcmp, 1) := zk_148 (by decide +kernel)
theorem dX12_often_77 : decode cX12_often 77 = .ok (.ifCond .ne 13, 3) := zk_154 (by decide +kernel)
theorem dX12_often_90 : decode cX12_often 90 = .ok (.lload 8, 2) := zk_22 (by decide +kernel)
theorem dX12_often_92 : decode cX12_often 92 = .ok (.lconst 0, 1) := zk_9 (by decide +kernel)
theorem dX12_often_93 : decode cX12_often 93 = .ok (.lcmp, 1) := zk_148 (by decide +kernel)
theorem dX12_often_138 : decode cX12_often 138 = .ok (.lload 8, 2) := zk_22 (by decide +kernel)
theorem dX12_often_140 : decode cX12_often 140 = .ok (.lconst 0, 1) := zk_9 (by decide +kernel)
theorem dX12_often_141 : decode cX12_often 141 = .ok (.lcmp, 1) := zk_148 (by decide +kernel)
theorem dX12_often_142 : decode cX12_often 142 = .ok (.ifCond .ge 43, 3) := zk_156 (by decide +kernel)
theorem dX12_often_185 : decode cX12_often 185 = .ok (.lload 12, 2) := zk_22 (by decide +kernel)
theorem dX12_often_187 : decode cX12_often 187 = .ok (.lload 10, 2) := zk_22 (by decide +kernel)
theorem dX12_often_189 : decode cX12_often 189 = .ok (.lcmp, 1) := zk_148 (by decide +kernel)
theorem dX12_often_190 : decode cX12_often 190 = .ok (.ifCond .ge 7, 3) := zk_156 (by decide +kernel)
theorem dX12_often_197 : decode cX12_often 197 = .ok (.lload 12, 2) := zk_22 (by decide +kernel)
theorem dX12_often_199 : decode cX12_often 199 = .ok (.lload 10, 2) := zk_22 (by decide +kernel)
theorem dX12_often_201 : decode cX12_often 201 = .ok (.lsub, 1) := zk_101 (by decide +kernel)
theorem dX12_often_202 : decode cX12_often 202 = .ok (.lconst 1, 1) := zk_10 (by decide +kernel)
theorem dX12_often_203 : decode cX12_often 203 = .ok (.ladd, 1) := zk_97 (by decide +kernel)
theorem dX12_often_204 : decode cX12_often 204 = .ok (.lreturn, 1) := zk_173 (by decide +kernel)
theorem dX12_often_193 : decode cX12_often 193 = .ok (.lconst 0, 1) := zk_9 (by decide +kernel)
theorem dX12_often_194 : decode cX12_often 194 = .ok (.goto 10, 3) := zk_167 (by decide +kernel)
theorem dX12_often_145 : decode cX12_often 145 = .ok (.lload 6, 2) := zk_22 (by decide +kernel)
theorem dX12_often_147 : decode cX12_often 147 = .ok (.lload 4, 2) := zk_22 (by decide +kernel)
theorem dX12_often_149 : decode cX12_often 149 = .ok (.lcmp, 1) := zk_148 (by decide +kernel)
theorem dX12_often_150 : decode cX12_often 150 = .ok (.ifCond .ge 5, 3) := zk_156 (by decide +kernel)
theorem dX12_often_155 : decode cX12_often 155 = .ok (.lload 6, 2) := zk_22 (by decide +kernel)
theorem dX12_often_157 : decode cX12_often 157 = .ok (.lload 4, 2) := zk_22 (by decide +kernel)
theorem dX12_often_159 : decode cX12_often 159 = .ok (.lsub, 1) := zk_101 (by decide +kernel)
theorem dX12_often_160 : decode cX12_often 160 = .ok (.lload 8, 2) := zk_22 (by decide +kernel)
theorem dX12_often_162 : decode cX12_often 162 = .ok (.lneg, 1) := zk_117 (by decide +kernel)
theorem dX12_often_163 : decode cX12_often 163 = .ok (.ldiv, 1) := zk_109 (by decide +kernel)
theorem dX12_often_164 : decode cX12_often 164 = .ok (.lconst 1, 1) := zk_10 (by decide +kernel)
theorem dX12_often_165 : decode cX12_often 165 = .ok (.ladd, 1) := zk_97 (by decide +kernel)
theorem dX12_often_166 : decode cX12_often 166 = .ok (.lstore 14, 2) := zk_55 (by decide +kernel)
theorem dX12_often_168 : decode cX12_often 168 = .ok (.lload 12, 2) := zk_22 (by decide +kernel)
theorem dX12_often_170 : decode cX12_often 170 = .ok (.lload 14, 2) := zk_22 (by decide +kernel)
theorem dX12_often_172 : decode cX12_often 172 = .ok (.lcmp, 1) := zk_148 (by decide +kernel)
theorem dX12_often_173 : decode cX12_often 173 = .ok (.ifCond .ge 8, 3) := zk_156 (by decide +kernel)
theorem dX12_often_181 : decode cX12_often 181 = .ok (.lload 14, 2) := zk_22 (by decide +kernel)
theorem dX12_often_183 : decode cX12_often 183 = .ok (.lstore 12, 2) := zk_55 (by decide +kernel)
theorem dX12_often_176 : decode cX12_often 176 = .ok (.lload 12, 2) := zk_22 (by decide +kernel)
theorem dX12_often_178 : decode cX12_often 178 = .ok (.goto 5, 3) := zk_167 (by decide +kernel)
theorem dX12_often_153 : decode cX12_often 153 = .ok (.lconst 0, 1) := zk_9 (by decide +kernel)
theorem dX12_often_154 : decode cX12_often 154 = .ok (.lreturn, 1) := zk_173 (by decide +kernel)
theorem dX12_often_94 : decode cX12_often 94 = .ok (.ifCond .le 44, 3) := zk_158 (by decide +kernel)
theorem dX12_often_97 : decode cX12_often 97 = .ok (.lload 4, 2) := zk_22 (by decide +kernel)
theorem dX12_often_99 : decode cX12_often 99 = .ok (.lload 6, 2) := zk_22 (by decide +kernel)
theorem dX12_often_101 : decode cX12_often 101 = .ok (.lcmp, 1) := zk_148 (by decide +kernel)
theorem dX12_often_102 : decode cX12_often 102 = .ok (.ifCond .le 36, 3) := zk_158 (by decide +kernel)
theorem dX12_often_105 : decode cX12_often 105 = .ok (.lload 4, 2) := zk_22 (by decide +kernel)
theorem dX12_often_107 : decode cX12_often 107 = .ok (.lload 6, 2) := zk_22 (by decide +kernel)
theorem dX12_often_109 : decode cX12_often 109 = .ok (.lsub, 1) := zk_101 (by decide +kernel)
theorem dX12_often_110 : decode cX12_often 110 = .ok (.lconst 1, 1) := zk_10 (by decide +kernel)
theorem dX12_often_111 : decode cX12_often 111 = .ok (.lsub, 1) := zk_101 (by decide +kernel)
theorem dX12_often_112 : decode cX12_often 112 = .ok (.lload 8, 2) := zk_22 (by decide +kernel)
theorem dX12_often_114 : decode cX12_often 114 = .ok (.ldiv, 1) := zk_109 (by decide +kernel)
theorem dX12_often_115 : decode cX12_often 115 = .ok (.ldc2_w 383, 3) := zk_20 (by decide +kernel)
theorem dX12_often_118 : decode cX12_often 118 = .ok (.ladd, 1) := zk_97 (by decide +kernel)
theorem dX12_often_119 : decode cX12_often 119 = .ok (.lstore 14, 2) := zk_55 (by decide +kernel)
theorem dX12_often_121 : decode cX12_often 121 = .ok (.lload 10, 2) := zk_22 (by decide +kernel)
theorem dX12_often_123 : decode cX12_often 123 = .ok (.lload 14, 2) := zk_22 (by decide +kernel)
theorem dX12_often_125 : decode cX12_often 125 = .ok (.lcmp, 1) := zk_148 (by decide +kernel)
theorem dX12_often_126 : decode cX12_often 126 = .ok (.ifCond .le 8, 3) := zk_158 (by decide +kernel)
theorem dX12_often_134 : decode cX12_often 134 = .ok (.lload 14, 2) := zk_22 (by decide +kernel)
theorem dX12_often_136 : decode cX12_often 136 = .ok (.lstore 10, 2) := zk_55 (by decide +kernel)
theorem dX12_often_129 : decode cX12_often 129 = .ok (.lload 10, 2) := zk_22 (by decide +kernel)
theorem dX12_often_131 : decode cX12_often 131 = .ok (.goto 5, 3) := zk_167 (by decide +kernel)
theorem dX12_often_80 : decode cX12_often 80 = .ok (.lload 6, 2) := zk_22 (by decide +kernel)
theorem dX12_often_82 : decode cX12_often 82 = .ok (.lload 4, 2) := zk_22 (by decide +kernel)
theorem dX12_often_84 : decode cX12_often 84 = .ok (.lcmp, 1) := zk_148 (by decide +kernel)
theorem dX12_often_85 : decode cX12_often 85 = .ok (.ifCond .ge 5, 3) := zk_156 (by decide +kernel)
theorem dX12_often_88 : decode cX12_often 88 = .ok (.lconst 0, 1) := zk_9 (by decide +kernel)
theorem dX12_often_89 : decode cX12_often 89 = .ok (.lreturn, 1) := zk_173 (by decide +kernel)
set_option maxHeartbeats 4000000 in
set_option maxRecDepth 100000 in
theorem gq_often (l : Launch) (dC : Nat → ClassId) (dI : Nat → Nat → Nat) (mq : Nat) (g : Nat → Int32) (gl : Nat → Int64) (rf : Nat → Nat) (ck : Nat → ClassId) (f_landHas : Nat → Int32) (a0 : Int32) (a1 : Int32) (a2 : Int32) (a3 : Int64) (sz : Nat) (hln0 : ¬ (g 12) < 0) (hln4 : (g 12) ≤ 4) : Met l yX12_often (Cond.code yX12_often cX12_often 16 (some .long) :: wsL_law) ({ frames := 1, cells := 0, slots := 0, locals := 21 }) (va_Pc [.ref mq, .int a0, .int a1, .int a2, .long a3] (fun U => U.heap.size = sz ∧ va_P (dC, dI) vwCl [(mq, .inr (12, mF g gl rf)), (eA0 (rf 29) (ck 29) 24 f_landHas)] U.heap ∧ va_K (dC, dI) vwCl [((ck 29), .int)] U ∧ va_D (fun _ => True) [(mq, .inr (12, mF g gl rf)), (eA0 (rf 29) (ck 29) 24 f_landHas)])) (va_Ql (fun (r : Int64) (u : (Int32)) => r = (fq_often f_landHas a0 a1 a2 a3 (g 12)).1 ∧ u = (fq_often f_landHas a0 a1 a2 a3 (g 12)).2) (fun (u : (Int32)) t => va_P (dC, dI) vwCl [(mq, .inr (12, mF (upd g 2 u) gl rf)), (eA0 (rf 29) (ck 29) 24 f_landHas)] t.heap ∧ va_K (dC, dI) vwCl [] t ∧ va_D (va_A [(mq, .inr (12, mF g gl rf)), (eA0 (rf 29) (ck 29) 24 f_landHas)] sz) [(mq, .inr (12, mF (upd g 2 u) gl rf)), (eA0 (rf 29) (ck 29) 24 f_landHas)]) (va_A [(mq, .inr (12, mF g gl rf)), (eA0 (rf 29) (ck 29) 24 f_landHas)] sz)) 0 0 (va_A [(mq, .inr (12, mF g gl rf)), (eA0 (rf 29) (ck 29) 24 f_landHas)] sz) := by
  refine Met.ofW (cc := cX12_often) (maxL := 16) (ret := (some .long)) (by decide) rfl ?_
  intro p e s m args below meth c s₁ B hml hv
  obtain ⟨rfl, hsz, hP, hK, hD0⟩ := hv
  have hx := B.exec
  have hb := B.bytes
  have hr := B.returns
  have hts := atoms_spec (ws := Cond.code yX12_often cX12_often 16 (some .long) :: wsL_law) B.pre
  have htw : ∀ w ∈ wsL_law, w.before _ s = true := fun w h => hts w (List.mem_cons_of_mem _ h)
  have hown : s.vm.findClass RX12 = some m.cls := findClass_of_methodNamed B.named
  have hlocks := B.notSynchronized
  subst hsz
  have hD := hD0.self (sz := s.heap.size)
  generalize hAe : va_A [(mq, .inr (12, mF g gl rf)), (eA0 (rf 29) (ck 29) 24 f_landHas)] s.heap.size = A at hD ⊢
  have hA : ∀ q : Nat, s.heap.size ≤ q → A q := fun q h => by rw [← hAe]; exact Or.inr h
  obtain ⟨H, rH⟩ : ∃ z : Heap, z = s.heap := ⟨_, rfl⟩
  have hS : va_S A s.heap H [] := by rw [rH]; exact va_S.rf
  have hP : va_P (dC, dI) vwCl [(mq, .inr (12, mF g gl rf)), (eA0 (rf 29) (ck 29) 24 f_landHas)] H := by rw [rH]; exact hP
  rw [← rH]
  have hl := lv_entry ([.ref mq, .int a0, .int a1, .int a2, .long a3]) (n := 16) (Nat.le_of_ble_eq_true rfl)
  rw [lg_entry_eq]
  generalize (lg_sl ([.ref mq, .int a0, .int a1, .int a2, .long a3]) ++ List.replicate (16 - (lg_sl ([.ref mq, .int a0, .int a1, .int a2, .long a3])).length) Slot.unset).toArray = ls at hl ⊢
  have hl : lv_has ls 16 [(0, .ref mq), (1, .int a0), (2, .int a1), (3, .int a2), (4, .long a3)] := hl
  refine lv_aload_n hx hb dX12_often_0 rfl (lv_at hl 0 rfl) ?_
  refine lv_iconst (v := 0) hx hb dX12_often_1 (by decide) ?_
  refine va_put (D := (dC, dI)) (ci := 12) (v := .int 0) (ty := tyX12 2) (C := RX12) (T := TX12) (N := 76) hx hb htw inlX12 tyX12 tyX12_ok nmX12 hown hK hP hD hS 0 rfl rfl 2 (by decide) (htw _ (ck_12 _ (List.mem_of_getElem? (i := 16) rfl))) (fun _ h9 => h9) rfl (tyX12_ok 2 (by decide)) rfl rfl (Nat.le_of_ble_eq_true rfl) dX12_often_2 (fun H locs hP hD hS => ?_)
  obtain ⟨hP, hD⟩ := zre [(mq, .inr (12, mF (upd g 2 0) gl rf)), (eA0 (rf 29) (ck 29) 24 f_landHas)] hP hD rfl
  refine lv_aload_n hx hb dX12_often_5 rfl (lv_at hl 0 rfl) ?_
  refine lv_iload_n hx hb dX12_often_6 rfl (lv_at hl 1 rfl) ?_
  have hPc := hP.sub (ws' := [(mq, .inr (12, mF (upd g 2 0) gl rf))]) [0] rfl
  have hKc := hK.sub (tys' := []) [] rfl
  refine vp_callSi (W.runV (As := [.int a0]) (rest := []) ⟨hx, hb, hml, hown, htw⟩ (gq_isLand l dC dI mq (upd g 2 0) gl rf a0) (cwV 1 htw (xg_V (ck_34 _ (List.mem_of_getElem? (i := 2) rfl)) (ck_34 _ (List.mem_of_getElem? (i := 3) rfl)) (ck_34 _ (List.mem_of_getElem? (i := 4) rfl)) (ck_1 _ (List.mem_of_getElem? (i := 5) rfl)) (ck_34 _ (List.mem_of_getElem? (i := 5) rfl))) rfl rfl rfl (by exact ⟨rfl, hdc_14.1, hdc_14.2, hdd_26⟩) ⟨Nat.le_of_ble_eq_true rfl, Nat.le_of_ble_eq_true rfl⟩) ⟨fun a U g mk q => by obtain ⟨q0, qP, qK⟩ := q; exact ⟨q0, qP, va_K.moved (u := U) (U := U.calling g mk a) (Vm.Alike.refl U.vm) qK⟩, va_recv hKc hPc (ci := 12) (q0 := 0) rfl rfl, fun U hU hW => ⟨rfl, by rw [hU]; exact hPc, va_K.moved hW.alike hKc⟩⟩ rfl rfl hl.1 rfl (lv_room (Nat.le_of_ble_eq_true rfl)) dX12_often_7 ⟨Nat.le_of_ble_eq_true rfl, Nat.le_of_ble_eq_true rfl⟩) (fun r_1 hw => ?_)
  try dsimp only at hw
  obtain ⟨hw, hb_r_1, hp_2, hp_3⟩ := hw
  have hq_r_1 : r_1 = (fq_isLand a0 (g 12)) := hw
  refine lv_if_eq (tgt := 37) hx hb dX12_often_10 (by decide) (fun c_4 => ?_) (fun c_4 => ?_)
  · refine lv_ldc2 (v := (-1)) hx hb hown (htw _ (ck_29 _ (List.mem_of_getElem? (i := 13) rfl))) dX12_often_37 ?_
    refine W.widen (k := 0) (n := 0) (by omega) (by omega) ?_
    have hP9 := hP
    have hD9 := hD
    have hK9 := hK.sub (tys' := []) [] rfl
    exact W.lret (v := (-1)) hx hb hr (fun t ht hW => ⟨⟨(-1), 0, rfl, ((fun e9 => ⟨by rw [e9], by rw [e9]⟩ : fq_often f_landHas a0 a1 a2 a3 (g 12) = ((-1 : Int64), (0 : Int32)) → _) ((by rw [fq_often]; (try rw [← hq_r_1]); (try rw [xL_eq]); (try rw [if_pos c_4]); try rfl))), by rw [ht]; exact hP9, va_K.moved hW.alike hK9, hD9⟩, hS.F ht⟩) hS.2.2 dX12_often_40
  · refine lv_iload_n hx hb dX12_often_13 rfl (lv_at hl 2 rfl) ?_
    refine lv_iconst (v := 1) hx hb dX12_often_14 (by decide) ?_
    refine lv_icmp_lt (tgt := 37) hx hb dX12_often_15 (by decide) (fun c_5 => ?_) (fun c_5 => ?_)
    · refine lv_ldc2 (v := (-1)) hx hb hown (htw _ (ck_29 _ (List.mem_of_getElem? (i := 13) rfl))) dX12_often_37 ?_
      refine W.widen (k := 0) (n := 0) (by omega) (by omega) ?_
      have hP9 := hP
      have hD9 := hD
      have hK9 := hK.sub (tys' := []) [] rfl
      exact W.lret (v := (-1)) hx hb hr (fun t ht hW => ⟨⟨(-1), 0, rfl, ((fun e9 => ⟨by rw [e9], by rw [e9]⟩ : fq_often f_landHas a0 a1 a2 a3 (g 12) = ((-1 : Int64), (0 : Int32)) → _) ((by rw [fq_often]; (try rw [← hq_r_1]); (try rw [xL_eq]); (try rw [if_neg c_4]); (try rw [if_pos c_5]); try rfl))), by rw [ht]; exact hP9, va_K.moved hW.alike hK9, hD9⟩, hS.F ht⟩) hS.2.2 dX12_often_40
    · refine lv_iload_n hx hb dX12_often_18 rfl (lv_at hl 3 rfl) ?_
      refine lv_ldcw (v := 1000000000) hx hb hown (htw _ (ck_37 _ (List.mem_of_getElem? (i := 4) rfl))) dX12_often_19 ?_
      refine lv_icmp_gt (tgt := 37) hx hb dX12_often_22 (by decide) (fun c_6 => ?_) (fun c_6 => ?_)
      · refine lv_ldc2 (v := (-1)) hx hb hown (htw _ (ck_29 _ (List.mem_of_getElem? (i := 13) rfl))) dX12_often_37 ?_
        refine W.widen (k := 0) (n := 0) (by omega) (by omega) ?_
        have hP9 := hP
        have hD9 := hD
        have hK9 := hK.sub (tys' := []) [] rfl
        exact W.lret (v := (-1)) hx hb hr (fun t ht hW => ⟨⟨(-1), 0, rfl, ((fun e9 => ⟨by rw [e9], by rw [e9]⟩ : fq_often f_landHas a0 a1 a2 a3 (g 12) = ((-1 : Int64), (0 : Int32)) → _) ((by rw [fq_often]; (try rw [← hq_r_1]); (try rw [xL_eq]); (try rw [if_neg c_4]); (try rw [if_neg c_5]); (try rw [if_pos c_6]); try rfl))), by rw [ht]; exact hP9, va_K.moved hW.alike hK9, hD9⟩, hS.F ht⟩) hS.2.2 dX12_often_40
      · refine lv_iload_n hx hb dX12_often_25 rfl (lv_at hl 2 rfl) ?_
        refine lv_iload_n hx hb dX12_often_26 rfl (lv_at hl 3 rfl) ?_
        refine lv_icmp_gt (tgt := 37) hx hb dX12_often_27 (by decide) (fun c_7 => ?_) (fun c_7 => ?_)
        · refine lv_ldc2 (v := (-1)) hx hb hown (htw _ (ck_29 _ (List.mem_of_getElem? (i := 13) rfl))) dX12_often_37 ?_
          refine W.widen (k := 0) (n := 0) (by omega) (by omega) ?_
          have hP9 := hP
          have hD9 := hD
          have hK9 := hK.sub (tys' := []) [] rfl
          exact W.lret (v := (-1)) hx hb hr (fun t ht hW => ⟨⟨(-1), 0, rfl, ((fun e9 => ⟨by rw [e9], by rw [e9]⟩ : fq_often f_landHas a0 a1 a2 a3 (g 12) = ((-1 : Int64), (0 : Int32)) → _) ((by rw [fq_often]; (try rw [← hq_r_1]); (try rw [xL_eq]); (try rw [if_neg c_4]); (try rw [if_neg c_5]); (try rw [if_neg c_6]); (try rw [if_pos c_7]); try rfl))), by rw [ht]; exact hP9, va_K.moved hW.alike hK9, hD9⟩, hS.F ht⟩) hS.2.2 dX12_often_40
        · refine lv_lload hx hb dX12_often_30 (lv_at hl 4 rfl) ?_
          refine lv_lconst (v := 1) hx hb dX12_often_32 (by decide) ?_
          refine W.lcmp hx hb dX12_often_33 ?_
          refine lv_if_ge (tgt := 41) hx hb dX12_often_34 (by decide) (fun c_8 => ?_) (fun c_8 => ?_)
          · refine lv_aload_n hx hb dX12_often_41 rfl (lv_at hl 0 rfl) ?_
            refine va_get (D := (dC, dI)) (ci := 12) (v := .ref (rf 29)) (C := RX12) (T := TX12) (N := 76) hx hb htw inlX12 hown hK hP 0 rfl rfl 29 (by decide) (htw _ (ck_9 _ (List.mem_of_getElem? (i := 9) rfl))) (fun _ h9 => h9) rfl dX12_often_42 ?_
            refine lv_iconst (v := 3) hx hb dX12_often_45 (by decide) ?_
            refine lv_iload_n hx hb dX12_often_46 rfl (lv_at hl 1 rfl) ?_
            refine lv_imul hx hb dX12_often_47 ?_
            refine va_iald hx hb hK hP 1 0 rfl rfl (xg_inr (N := 24) rfl (gq_often_s0 (y0 := a0) (y1 := g 12) (hp_2.resolve_left c_4) (hp_3.resolve_left c_4) hln0 hln4).1 (gq_often_s0 (y0 := a0) (y1 := g 12) (hp_2.resolve_left c_4) (hp_3.resolve_left c_4) hln0 hln4).2) dX12_often_48 ?_
            refine lv_i2l (v := (f_landHas ((3 * a0).toNatClampNeg)).toInt64) hx hb dX12_often_49 rfl ?_
            refine lv_lstore (lv' := [(6, .long ((f_landHas ((3 * a0).toNatClampNeg)).toInt64)), (0, .ref mq), (1, .int a0), (2, .int a1), (3, .int a2), (4, .long a3)]) hx hb dX12_often_50 hl (by decide) rfl (fun ls hl => ?_)
            refine lv_aload_n hx hb dX12_often_52 rfl (lv_at hl 1 rfl) ?_
            refine va_get (D := (dC, dI)) (ci := 12) (v := .ref (rf 29)) (C := RX12) (T := TX12) (N := 76) hx hb htw inlX12 hown hK hP 0 rfl rfl 29 (by decide) (htw _ (ck_9 _ (List.mem_of_getElem? (i := 9) rfl))) (fun _ h9 => h9) rfl dX12_often_53 ?_
            refine lv_iconst (v := 3) hx hb dX12_often_56 (by decide) ?_
            refine lv_iload_n hx hb dX12_often_57 rfl (lv_at hl 2 rfl) ?_
            refine lv_imul hx hb dX12_often_58 ?_
            refine lv_iconst (v := 1) hx hb dX12_often_59 (by decide) ?_
            refine lv_iadd hx hb dX12_often_60 ?_
            refine va_iald hx hb hK hP 1 0 rfl rfl (xg_inr (N := 24) rfl (gq_often_s1 (y0 := a0) (y1 := g 12) (hp_2.resolve_left c_4) (hp_3.resolve_left c_4) hln0 hln4).1 (gq_often_s1 (y0 := a0) (y1 := g 12) (hp_2.resolve_left c_4) (hp_3.resolve_left c_4) hln0 hln4).2) dX12_often_61 ?_
            refine lv_i2l (v := (f_landHas (((3 * a0) + 1).toNatClampNeg)).toInt64) hx hb dX12_often_62 rfl ?_
            refine lv_lstore (lv' := [(8, .long ((f_landHas (((3 * a0) + 1).toNatClampNeg)).toInt64)), (6, .long ((f_landHas ((3 * a0).toNatClampNeg)).toInt64)), (0, .ref mq), (1, .int a0), (2, .int a1), (3, .int a2), (4, .long a3)]) hx hb dX12_often_63 hl (by decide) rfl (fun ls hl => ?_)
            refine lv_iload_n hx hb dX12_often_65 rfl (lv_at hl 4 rfl) ?_
            refine lv_i2l (v := a1.toInt64) hx hb dX12_often_66 rfl ?_
            refine lv_lstore (lv' := [(10, .long a1.toInt64), (8, .long ((f_landHas (((3 * a0) + 1).toNatClampNeg)).toInt64)), (6, .long ((f_landHas ((3 * a0).toNatClampNeg)).toInt64)), (0, .ref mq), (1, .int a0), (2, .int a1), (3, .int a2), (4, .long a3)]) hx hb dX12_often_67 hl (by decide) rfl (fun ls hl => ?_)
            refine lv_iload_n hx hb dX12_often_69 rfl (lv_at hl 6 rfl) ?_
            refine lv_i2l (v := a2.toInt64) hx hb dX12_often_70 rfl ?_
            refine lv_lstore (lv' := [(12, .long a2.toInt64), (10, .long a1.toInt64), (8, .long ((f_landHas (((3 * a0) + 1).toNatClampNeg)).toInt64)), (6, .long ((f_landHas ((3 * a0).toNatClampNeg)).toInt64)), (0, .ref mq), (1, .int a0), (2, .int a1), (3, .int a2), (4, .long a3)]) hx hb dX12_often_71 hl (by decide) rfl (fun ls hl => ?_)
            refine lv_lload hx hb dX12_often_73 (lv_at hl 2 rfl) ?_
            refine lv_lconst (v := 0) hx hb dX12_often_75 (by decide) ?_
            refine W.lcmp hx hb dX12_often_76 ?_
            refine lv_if_ne (tgt := 90) hx hb dX12_often_77 (by decide) (fun c_9 => ?_) (fun c_9 => ?_)
            · refine lv_lload hx hb dX12_often_90 (lv_at hl 2 rfl) ?_
              refine lv_lconst (v := 0) hx hb dX12_often_92 (by decide) ?_
              refine W.lcmp hx hb dX12_often_93 ?_
              obtain ⟨X_10, hX_10⟩ : ∃ X9 : (Int64), X9 = fq_often_a f_landHas a0 a1 a3 := ⟨_, rfl⟩
              have hjoin_11 : ∀ (L10a : Int64)  (hE9 : X_10 = L10a) (H : Heap) (locs : List Loc) (ls : Array Slot) (hP : va_P (dC, dI) vwCl [(mq, .inr (12, mF (upd g 2 0) gl rf)), (eA0 (rf 29) (ck 29) 24 f_landHas)] H) (hD : va_D A [(mq, .inr (12, mF (upd g 2 0) gl rf)), (eA0 (rf 29) (ck 29) 24 f_landHas)]) (hS : va_S A s.heap H locs) (hl : lv_has ls 16 [(12, .long a2.toInt64), (10, .long L10a), (8, .long ((f_landHas (((3 * a0) + 1).toNatClampNeg)).toInt64)), (6, .long ((f_landHas ((3 * a0).toNatClampNeg)).toInt64)), (0, .ref mq), (1, .int a0), (2, .int a1), (3, .int a2), (4, .long a3)]), W p l e (headSpec (Cond.code yX12_often cX12_often 16 (some .long) :: wsL_law) ({ frames := 1, cells := 0, slots := 0, locals := 21 })).room s m ([.ref mq, .int a0, .int a1, .int a2, .long a3] : List Value).toArray below meth c H locs 0 0 (MQ below (va_Ql (fun (r : Int64) (u : (Int32)) => r = (fq_often f_landHas a0 a1 a2 a3 (g 12)).1 ∧ u = (fq_often f_landHas a0 a1 a2 a3 (g 12)).2) (fun (u : (Int32)) t => va_P (dC, dI) vwCl [(mq, .inr (12, mF (upd g 2 u) gl rf)), (eA0 (rf 29) (ck 29) 24 f_landHas)] t.heap ∧ va_K (dC, dI) vwCl [] t ∧ va_D A [(mq, .inr (12, mF (upd g 2 u) gl rf)), (eA0 (rf 29) (ck 29) 24 f_landHas)]) A) ([.ref mq, .int a0, .int a1, .int a2, .long a3] : List Value).toArray s 0 0 A) (F0 m 138 ls []) := by
                intro L10a  hE9 H locs ls hP hD hS hl
                have hq_L10a : L10a = X_10 := by rw [hE9]
                refine lv_lload hx hb dX12_often_138 (lv_at hl 2 rfl) ?_
                refine lv_lconst (v := 0) hx hb dX12_often_140 (by decide) ?_
                refine W.lcmp hx hb dX12_often_141 ?_
                refine lv_if_ge (tgt := 185) hx hb dX12_often_142 (by decide) (fun c_12 => ?_) (fun c_12 => ?_)
                · refine lv_lload hx hb dX12_often_185 (lv_at hl 0 rfl) ?_
                  refine lv_lload hx hb dX12_often_187 (lv_at hl 1 rfl) ?_
                  refine W.lcmp hx hb dX12_often_189 ?_
                  refine lv_if_ge (tgt := 197) hx hb dX12_often_190 (by decide) (fun c_13 => ?_) (fun c_13 => ?_)
                  · refine lv_lload hx hb dX12_often_197 (lv_at hl 0 rfl) ?_
                    refine lv_lload hx hb dX12_often_199 (lv_at hl 1 rfl) ?_
                    refine lv_lsub hx hb dX12_often_201 ?_
                    refine lv_lconst (v := 1) hx hb dX12_often_202 (by decide) ?_
                    refine lv_ladd hx hb dX12_often_203 ?_
                    refine W.widen (k := 0) (n := 0) (by omega) (by omega) ?_
                    obtain ⟨hP9, hD9⟩ := zsub2 (ws' := [(mq, .inr (12, mF (upd g 2 0) gl rf)), (eA0 (rf 29) (ck 29) 24 f_landHas)]) hP hD [0, 1] (by decide) rfl
                    have hK9 := hK.sub (tys' := []) [] rfl
                    exact W.lret (v := ((a2.toInt64 - L10a) + 1)) hx hb hr (fun t ht hW => ⟨⟨((a2.toInt64 - L10a) + 1), 0, rfl, ((fun e9 => ⟨by rw [e9], by rw [e9]⟩ : fq_often f_landHas a0 a1 a2 a3 (g 12) = (((a2.toInt64 - L10a) + 1), (0 : Int32)) → _) ((by rw [fq_often]; (try rw [← hq_r_1]); (try rw [xL_eq]); (try rw [if_neg c_4]); (try rw [if_neg c_5]); (try rw [if_neg c_6]); (try rw [if_neg c_7]); (try rw [if_pos c_8]); (try rw [if_neg c_9]); (try rw [← hX_10]); (try rw [xL_eq]); (try rw [← hq_L10a]); (try rw [if_pos c_12]); (try rw [if_pos c_13]); try rfl))), by rw [ht]; exact hP9, va_K.moved hW.alike hK9, hD9⟩, hS.F ht⟩) hS.2.2 dX12_often_204
                  · refine lv_lconst (v := 0) hx hb dX12_often_193 (by decide) ?_
                    refine lv_goto (tgt := 204) hx hb dX12_often_194 (by decide) ?_
                    refine W.widen (k := 0) (n := 0) (by omega) (by omega) ?_
                    obtain ⟨hP9, hD9⟩ := zsub2 (ws' := [(mq, .inr (12, mF (upd g 2 0) gl rf)), (eA0 (rf 29) (ck 29) 24 f_landHas)]) hP hD [0, 1] (by decide) rfl
                    have hK9 := hK.sub (tys' := []) [] rfl
                    exact W.lret (v := 0) hx hb hr (fun t ht hW => ⟨⟨0, 0, rfl, ((fun e9 => ⟨by rw [e9], by rw [e9]⟩ : fq_often f_landHas a0 a1 a2 a3 (g 12) = ((0 : Int64), (0 : Int32)) → _) ((by rw [fq_often]; (try rw [← hq_r_1]); (try rw [xL_eq]); (try rw [if_neg c_4]); (try rw [if_neg c_5]); (try rw [if_neg c_6]); (try rw [if_neg c_7]); (try rw [if_pos c_8]); (try rw [if_neg c_9]); (try rw [← hX_10]); (try rw [xL_eq]); (try rw [← hq_L10a]); (try rw [if_pos c_12]); (try rw [if_neg c_13]); try rfl))), by rw [ht]; exact hP9, va_K.moved hW.alike hK9, hD9⟩, hS.F ht⟩) hS.2.2 dX12_often_204
                · refine lv_lload hx hb dX12_often_145 (lv_at hl 3 rfl) ?_
                  refine lv_lload hx hb dX12_often_147 (lv_at hl 8 rfl) ?_
                  refine W.lcmp hx hb dX12_often_149 ?_
                  refine lv_if_ge (tgt := 155) hx hb dX12_often_150 (by decide) (fun c_14 => ?_) (fun c_14 => ?_)
                  · refine lv_lload hx hb dX12_often_155 (lv_at hl 3 rfl) ?_
                    refine lv_lload hx hb dX12_often_157 (lv_at hl 8 rfl) ?_
                    refine lv_lsub hx hb dX12_often_159 ?_
                    refine lv_lload hx hb dX12_often_160 (lv_at hl 2 rfl) ?_
                    refine lv_lneg hx hb dX12_often_162 ?_
                    refine lv_ldiv hx hb dX12_often_163 ((gq_often_s2 (y0 := (f_landHas (((3 * a0) + 1).toNatClampNeg)).toInt64) (fun q9 => c_9 ((lg_cmp_eq _ _).mpr q9)) (fun q9 => c_12 ((lg_cmp_ge _ _).mpr q9)))) ?_
                    refine lv_lconst (v := 1) hx hb dX12_often_164 (by decide) ?_
                    refine lv_ladd hx hb dX12_often_165 ?_
                    refine lv_lstore (lv' := [(14, .long (((((f_landHas ((3 * a0).toNatClampNeg)).toInt64) - a3) / (-((f_landHas (((3 * a0) + 1).toNatClampNeg)).toInt64))) + 1)), (12, .long a2.toInt64), (10, .long L10a), (8, .long ((f_landHas (((3 * a0) + 1).toNatClampNeg)).toInt64)), (6, .long ((f_landHas ((3 * a0).toNatClampNeg)).toInt64)), (0, .ref mq), (1, .int a0), (2, .int a1), (3, .int a2), (4, .long a3)]) hx hb dX12_often_166 hl (by decide) rfl (fun ls hl => ?_)
                    refine lv_lload hx hb dX12_often_168 (lv_at hl 1 rfl) ?_
                    refine lv_lload hx hb dX12_often_170 (lv_at hl 0 rfl) ?_
                    refine W.lcmp hx hb dX12_often_172 ?_
                    refine lv_if_ge (tgt := 181) hx hb dX12_often_173 (by decide) (fun c_15 => ?_) (fun c_15 => ?_)
                    · refine lv_lload hx hb dX12_often_181 (lv_at hl 0 rfl) ?_
                      refine lv_lstore (lv' := [(12, .long (((((f_landHas ((3 * a0).toNatClampNeg)).toInt64) - a3) / (-((f_landHas (((3 * a0) + 1).toNatClampNeg)).toInt64))) + 1)), (14, .long (((((f_landHas ((3 * a0).toNatClampNeg)).toInt64) - a3) / (-((f_landHas (((3 * a0) + 1).toNatClampNeg)).toInt64))) + 1)), (10, .long L10a), (8, .long ((f_landHas (((3 * a0) + 1).toNatClampNeg)).toInt64)), (6, .long ((f_landHas ((3 * a0).toNatClampNeg)).toInt64)), (0, .ref mq), (1, .int a0), (2, .int a1), (3, .int a2), (4, .long a3)]) hx hb dX12_often_183 hl (by decide) rfl (fun ls hl => ?_)
                      refine lv_lload hx hb dX12_often_185 (lv_at hl 0 rfl) ?_
                      refine lv_lload hx hb dX12_often_187 (lv_at hl 2 rfl) ?_
                      refine W.lcmp hx hb dX12_often_189 ?_
                      refine lv_if_ge (tgt := 197) hx hb dX12_often_190 (by decide) (fun c_16 => ?_) (fun c_16 => ?_)
                      · refine lv_lload hx hb dX12_often_197 (lv_at hl 0 rfl) ?_
                        refine lv_lload hx hb dX12_often_199 (lv_at hl 2 rfl) ?_
                        refine lv_lsub hx hb dX12_often_201 ?_
                        refine lv_lconst (v := 1) hx hb dX12_often_202 (by decide) ?_
                        refine lv_ladd hx hb dX12_often_203 ?_
                        refine W.widen (k := 0) (n := 0) (by omega) (by omega) ?_
                        obtain ⟨hP9, hD9⟩ := zsub2 (ws' := [(mq, .inr (12, mF (upd g 2 0) gl rf)), (eA0 (rf 29) (ck 29) 24 f_landHas)]) hP hD [0, 1] (by decide) rfl
                        have hK9 := hK.sub (tys' := []) [] rfl
                        exact W.lret (v := (((((((f_landHas ((3 * a0).toNatClampNeg)).toInt64) - a3) / (-((f_landHas (((3 * a0) + 1).toNatClampNeg)).toInt64))) + 1) - L10a) + 1)) hx hb hr (fun t ht hW => ⟨⟨(((((((f_landHas ((3 * a0).toNatClampNeg)).toInt64) - a3) / (-((f_landHas (((3 * a0) + 1).toNatClampNeg)).toInt64))) + 1) - L10a) + 1), 0, rfl, ((fun e9 => ⟨by rw [e9], by rw [e9]⟩ : fq_often f_landHas a0 a1 a2 a3 (g 12) = ((((((((f_landHas ((3 * a0).toNatClampNeg)).toInt64) - a3) / (-((f_landHas (((3 * a0) + 1).toNatClampNeg)).toInt64))) + 1) - L10a) + 1), (0 : Int32)) → _) ((by rw [fq_often]; (try rw [← hq_r_1]); (try rw [xL_eq]); (try rw [if_neg c_4]); (try rw [if_neg c_5]); (try rw [if_neg c_6]); (try rw [if_neg c_7]); (try rw [if_pos c_8]); (try rw [if_neg c_9]); (try rw [← hX_10]); (try rw [xL_eq]); (try rw [← hq_L10a]); (try rw [if_neg c_12]); (try rw [if_pos c_14]); (try rw [if_pos c_15]); (try rw [if_pos c_16]); try rfl))), by rw [ht]; exact hP9, va_K.moved hW.alike hK9, hD9⟩, hS.F ht⟩) hS.2.2 dX12_often_204
                      · refine lv_lconst (v := 0) hx hb dX12_often_193 (by decide) ?_
                        refine lv_goto (tgt := 204) hx hb dX12_often_194 (by decide) ?_
                        refine W.widen (k := 0) (n := 0) (by omega) (by omega) ?_
                        obtain ⟨hP9, hD9⟩ := zsub2 (ws' := [(mq, .inr (12, mF (upd g 2 0) gl rf)), (eA0 (rf 29) (ck 29) 24 f_landHas)]) hP hD [0, 1] (by decide) rfl
                        have hK9 := hK.sub (tys' := []) [] rfl
                        exact W.lret (v := 0) hx hb hr (fun t ht hW => ⟨⟨0, 0, rfl, ((fun e9 => ⟨by rw [e9], by rw [e9]⟩ : fq_often f_landHas a0 a1 a2 a3 (g 12) = ((0 : Int64), (0 : Int32)) → _) ((by rw [fq_often]; (try rw [← hq_r_1]); (try rw [xL_eq]); (try rw [if_neg c_4]); (try rw [if_neg c_5]); (try rw [if_neg c_6]); (try rw [if_neg c_7]); (try rw [if_pos c_8]); (try rw [if_neg c_9]); (try rw [← hX_10]); (try rw [xL_eq]); (try rw [← hq_L10a]); (try rw [if_neg c_12]); (try rw [if_pos c_14]); (try rw [if_pos c_15]); (try rw [if_neg c_16]); try rfl))), by rw [ht]; exact hP9, va_K.moved hW.alike hK9, hD9⟩, hS.F ht⟩) hS.2.2 dX12_often_204
                    · refine lv_lload hx hb dX12_often_176 (lv_at hl 1 rfl) ?_
                      refine lv_goto (tgt := 183) hx hb dX12_often_178 (by decide) ?_
                      refine lv_lstore (lv' := [(12, .long a2.toInt64), (14, .long (((((f_landHas ((3 * a0).toNatClampNeg)).toInt64) - a3) / (-((f_landHas (((3 * a0) + 1).toNatClampNeg)).toInt64))) + 1)), (10, .long L10a), (8, .long ((f_landHas (((3 * a0) + 1).toNatClampNeg)).toInt64)), (6, .long ((f_landHas ((3 * a0).toNatClampNeg)).toInt64)), (0, .ref mq), (1, .int a0), (2, .int a1), (3, .int a2), (4, .long a3)]) hx hb dX12_often_183 hl (by decide) rfl (fun ls hl => ?_)
                      refine lv_lload hx hb dX12_often_185 (lv_at hl 0 rfl) ?_
                      refine lv_lload hx hb dX12_often_187 (lv_at hl 2 rfl) ?_
                      refine W.lcmp hx hb dX12_often_189 ?_
                      refine lv_if_ge (tgt := 197) hx hb dX12_often_190 (by decide) (fun c_17 => ?_) (fun c_17 => ?_)
                      · refine lv_lload hx hb dX12_often_197 (lv_at hl 0 rfl) ?_
                        refine lv_lload hx hb dX12_often_199 (lv_at hl 2 rfl) ?_
                        refine lv_lsub hx hb dX12_often_201 ?_
                        refine lv_lconst (v := 1) hx hb dX12_often_202 (by decide) ?_
                        refine lv_ladd hx hb dX12_often_203 ?_
                        refine W.widen (k := 0) (n := 0) (by omega) (by omega) ?_
                        obtain ⟨hP9, hD9⟩ := zsub2 (ws' := [(mq, .inr (12, mF (upd g 2 0) gl rf)), (eA0 (rf 29) (ck 29) 24 f_landHas)]) hP hD [0, 1] (by decide) rfl
                        have hK9 := hK.sub (tys' := []) [] rfl
                        exact W.lret (v := ((a2.toInt64 - L10a) + 1)) hx hb hr (fun t ht hW => ⟨⟨((a2.toInt64 - L10a) + 1), 0, rfl, ((fun e9 => ⟨by rw [e9], by rw [e9]⟩ : fq_often f_landHas a0 a1 a2 a3 (g 12) = (((a2.toInt64 - L10a) + 1), (0 : Int32)) → _) ((by rw [fq_often]; (try rw [← hq_r_1]); (try rw [xL_eq]); (try rw [if_neg c_4]); (try rw [if_neg c_5]); (try rw [if_neg c_6]); (try rw [if_neg c_7]); (try rw [if_pos c_8]); (try rw [if_neg c_9]); (try rw [← hX_10]); (try rw [xL_eq]); (try rw [← hq_L10a]); (try rw [if_neg c_12]); (try rw [if_pos c_14]); (try rw [if_neg c_15]); (try rw [if_pos c_17]); try rfl))), by rw [ht]; exact hP9, va_K.moved hW.alike hK9, hD9⟩, hS.F ht⟩) hS.2.2 dX12_often_204
                      · refine lv_lconst (v := 0) hx hb dX12_often_193 (by decide) ?_
                        refine lv_goto (tgt := 204) hx hb dX12_often_194 (by decide) ?_
                        refine W.widen (k := 0) (n := 0) (by omega) (by omega) ?_
                        obtain ⟨hP9, hD9⟩ := zsub2 (ws' := [(mq, .inr (12, mF (upd g 2 0) gl rf)), (eA0 (rf 29) (ck 29) 24 f_landHas)]) hP hD [0, 1] (by decide) rfl
                        have hK9 := hK.sub (tys' := []) [] rfl
                        exact W.lret (v := 0) hx hb hr (fun t ht hW => ⟨⟨0, 0, rfl, ((fun e9 => ⟨by rw [e9], by rw [e9]⟩ : fq_often f_landHas a0 a1 a2 a3 (g 12) = ((0 : Int64), (0 : Int32)) → _) ((by rw [fq_often]; (try rw [← hq_r_1]); (try rw [xL_eq]); (try rw [if_neg c_4]); (try rw [if_neg c_5]); (try rw [if_neg c_6]); (try rw [if_neg c_7]); (try rw [if_pos c_8]); (try rw [if_neg c_9]); (try rw [← hX_10]); (try rw [xL_eq]); (try rw [← hq_L10a]); (try rw [if_neg c_12]); (try rw [if_pos c_14]); (try rw [if_neg c_15]); (try rw [if_neg c_17]); try rfl))), by rw [ht]; exact hP9, va_K.moved hW.alike hK9, hD9⟩, hS.F ht⟩) hS.2.2 dX12_often_204
                  · refine lv_lconst (v := 0) hx hb dX12_often_153 (by decide) ?_
                    refine W.widen (k := 0) (n := 0) (by omega) (by omega) ?_
                    obtain ⟨hP9, hD9⟩ := zsub2 (ws' := [(mq, .inr (12, mF (upd g 2 0) gl rf)), (eA0 (rf 29) (ck 29) 24 f_landHas)]) hP hD [0, 1] (by decide) rfl
                    have hK9 := hK.sub (tys' := []) [] rfl
                    exact W.lret (v := 0) hx hb hr (fun t ht hW => ⟨⟨0, 0, rfl, ((fun e9 => ⟨by rw [e9], by rw [e9]⟩ : fq_often f_landHas a0 a1 a2 a3 (g 12) = ((0 : Int64), (0 : Int32)) → _) ((by rw [fq_often]; (try rw [← hq_r_1]); (try rw [xL_eq]); (try rw [if_neg c_4]); (try rw [if_neg c_5]); (try rw [if_neg c_6]); (try rw [if_neg c_7]); (try rw [if_pos c_8]); (try rw [if_neg c_9]); (try rw [← hX_10]); (try rw [xL_eq]); (try rw [← hq_L10a]); (try rw [if_neg c_12]); (try rw [if_neg c_14]); try rfl))), by rw [ht]; exact hP9, va_K.moved hW.alike hK9, hD9⟩, hS.F ht⟩) hS.2.2 dX12_often_154
              refine lv_if_le (tgt := 138) hx hb dX12_often_94 (by decide) (fun c_18 => ?_) (fun c_18 => ?_)
              · exact hjoin_11 a1.toInt64  (hX_10.trans (by rw [fq_often_a]; (try rw [if_pos c_18]); try rfl)) _ _ ls hP hD hS (lv_sub hl [0, 1, 2, 3, 4, 5, 6, 7, 8] rfl)
              · refine lv_lload hx hb dX12_often_97 (lv_at hl 8 rfl) ?_
                refine lv_lload hx hb dX12_often_99 (lv_at hl 3 rfl) ?_
                refine W.lcmp hx hb dX12_often_101 ?_
                refine lv_if_le (tgt := 138) hx hb dX12_often_102 (by decide) (fun c_19 => ?_) (fun c_19 => ?_)
                · exact hjoin_11 a1.toInt64  (hX_10.trans (by rw [fq_often_a]; (try rw [if_neg c_18]); (try rw [if_pos c_19]); try rfl)) _ _ ls hP hD hS (lv_sub hl [0, 1, 2, 3, 4, 5, 6, 7, 8] rfl)
                · refine lv_lload hx hb dX12_often_105 (lv_at hl 8 rfl) ?_
                  refine lv_lload hx hb dX12_often_107 (lv_at hl 3 rfl) ?_
                  refine lv_lsub hx hb dX12_often_109 ?_
                  refine lv_lconst (v := 1) hx hb dX12_often_110 (by decide) ?_
                  refine lv_lsub hx hb dX12_often_111 ?_
                  refine lv_lload hx hb dX12_often_112 (lv_at hl 2 rfl) ?_
                  refine lv_ldiv hx hb dX12_often_114 ((gq_often_s3 (y0 := (f_landHas (((3 * a0) + 1).toNatClampNeg)).toInt64) (fun q9 => c_9 ((lg_cmp_eq _ _).mpr q9)) (fun q9 => c_18 ((lg_cmp_le _ _).mpr q9)))) ?_
                  refine lv_ldc2 (v := 2) hx hb hown (htw _ (ck_30 _ (List.mem_of_getElem? (i := 13) rfl))) dX12_often_115 ?_
                  refine lv_ladd hx hb dX12_often_118 ?_
                  refine lv_lstore (lv' := [(14, .long ((((a3 - ((f_landHas ((3 * a0).toNatClampNeg)).toInt64)) - 1) / ((f_landHas (((3 * a0) + 1).toNatClampNeg)).toInt64)) + 2)), (12, .long a2.toInt64), (10, .long a1.toInt64), (8, .long ((f_landHas (((3 * a0) + 1).toNatClampNeg)).toInt64)), (6, .long ((f_landHas ((3 * a0).toNatClampNeg)).toInt64)), (0, .ref mq), (1, .int a0), (2, .int a1), (3, .int a2), (4, .long a3)]) hx hb dX12_often_119 hl (by decide) rfl (fun ls hl => ?_)
                  refine lv_lload hx hb dX12_often_121 (lv_at hl 2 rfl) ?_
                  refine lv_lload hx hb dX12_often_123 (lv_at hl 0 rfl) ?_
                  refine W.lcmp hx hb dX12_often_125 ?_
                  refine lv_if_le (tgt := 134) hx hb dX12_often_126 (by decide) (fun c_20 => ?_) (fun c_20 => ?_)
                  · refine lv_lload hx hb dX12_often_134 (lv_at hl 0 rfl) ?_
                    refine lv_lstore (lv' := [(10, .long ((((a3 - ((f_landHas ((3 * a0).toNatClampNeg)).toInt64)) - 1) / ((f_landHas (((3 * a0) + 1).toNatClampNeg)).toInt64)) + 2)), (14, .long ((((a3 - ((f_landHas ((3 * a0).toNatClampNeg)).toInt64)) - 1) / ((f_landHas (((3 * a0) + 1).toNatClampNeg)).toInt64)) + 2)), (12, .long a2.toInt64), (8, .long ((f_landHas (((3 * a0) + 1).toNatClampNeg)).toInt64)), (6, .long ((f_landHas ((3 * a0).toNatClampNeg)).toInt64)), (0, .ref mq), (1, .int a0), (2, .int a1), (3, .int a2), (4, .long a3)]) hx hb dX12_often_136 hl (by decide) rfl (fun ls hl => ?_)
                    exact hjoin_11 ((((a3 - ((f_landHas ((3 * a0).toNatClampNeg)).toInt64)) - 1) / ((f_landHas (((3 * a0) + 1).toNatClampNeg)).toInt64)) + 2)  (hX_10.trans (by rw [fq_often_a]; (try rw [if_neg c_18]); (try rw [if_neg c_19]); (try rw [if_pos c_20]); try rfl)) _ _ ls hP hD hS (lv_sub hl [2, 0, 3, 4, 5, 6, 7, 8, 9] rfl)
                  · refine lv_lload hx hb dX12_often_129 (lv_at hl 2 rfl) ?_
                    refine lv_goto (tgt := 136) hx hb dX12_often_131 (by decide) ?_
                    refine lv_lstore (lv' := [(10, .long a1.toInt64), (14, .long ((((a3 - ((f_landHas ((3 * a0).toNatClampNeg)).toInt64)) - 1) / ((f_landHas (((3 * a0) + 1).toNatClampNeg)).toInt64)) + 2)), (12, .long a2.toInt64), (8, .long ((f_landHas (((3 * a0) + 1).toNatClampNeg)).toInt64)), (6, .long ((f_landHas ((3 * a0).toNatClampNeg)).toInt64)), (0, .ref mq), (1, .int a0), (2, .int a1), (3, .int a2), (4, .long a3)]) hx hb dX12_often_136 hl (by decide) rfl (fun ls hl => ?_)
                    exact hjoin_11 a1.toInt64  (hX_10.trans (by rw [fq_often_a]; (try rw [if_neg c_18]); (try rw [if_neg c_19]); (try rw [if_neg c_20]); try rfl)) _ _ ls hP hD hS (lv_sub hl [2, 0, 3, 4, 5, 6, 7, 8, 9] rfl)
            · refine lv_lload hx hb dX12_often_80 (lv_at hl 3 rfl) ?_
              refine lv_lload hx hb dX12_often_82 (lv_at hl 8 rfl) ?_
              refine W.lcmp hx hb dX12_often_84 ?_
              refine lv_if_ge (tgt := 90) hx hb dX12_often_85 (by decide) (fun c_21 => ?_) (fun c_21 => ?_)
              · refine lv_lload hx hb dX12_often_90 (lv_at hl 2 rfl) ?_
                refine lv_lconst (v := 0) hx hb dX12_often_92 (by decide) ?_
                refine W.lcmp hx hb dX12_often_93 ?_
                obtain ⟨X_22, hX_22⟩ : ∃ X9 : (Int64), X9 = fq_often_a2 f_landHas a0 a1 a3 := ⟨_, rfl⟩
                have hjoin_23 : ∀ (L10a : Int64)  (hE9 : X_22 = L10a) (H : Heap) (locs : List Loc) (ls : Array Slot) (hP : va_P (dC, dI) vwCl [(mq, .inr (12, mF (upd g 2 0) gl rf)), (eA0 (rf 29) (ck 29) 24 f_landHas)] H) (hD : va_D A [(mq, .inr (12, mF (upd g 2 0) gl rf)), (eA0 (rf 29) (ck 29) 24 f_landHas)]) (hS : va_S A s.heap H locs) (hl : lv_has ls 16 [(12, .long a2.toInt64), (10, .long L10a), (8, .long ((f_landHas (((3 * a0) + 1).toNatClampNeg)).toInt64)), (6, .long ((f_landHas ((3 * a0).toNatClampNeg)).toInt64)), (0, .ref mq), (1, .int a0), (2, .int a1), (3, .int a2), (4, .long a3)]), W p l e (headSpec (Cond.code yX12_often cX12_often 16 (some .long) :: wsL_law) ({ frames := 1, cells := 0, slots := 0, locals := 21 })).room s m ([.ref mq, .int a0, .int a1, .int a2, .long a3] : List Value).toArray below meth c H locs 0 0 (MQ below (va_Ql (fun (r : Int64) (u : (Int32)) => r = (fq_often f_landHas a0 a1 a2 a3 (g 12)).1 ∧ u = (fq_often f_landHas a0 a1 a2 a3 (g 12)).2) (fun (u : (Int32)) t => va_P (dC, dI) vwCl [(mq, .inr (12, mF (upd g 2 u) gl rf)), (eA0 (rf 29) (ck 29) 24 f_landHas)] t.heap ∧ va_K (dC, dI) vwCl [] t ∧ va_D A [(mq, .inr (12, mF (upd g 2 u) gl rf)), (eA0 (rf 29) (ck 29) 24 f_landHas)]) A) ([.ref mq, .int a0, .int a1, .int a2, .long a3] : List Value).toArray s 0 0 A) (F0 m 138 ls []) := by
                  intro L10a  hE9 H locs ls hP hD hS hl
                  have hq_L10a : L10a = X_22 := by rw [hE9]
                  refine lv_lload hx hb dX12_often_138 (lv_at hl 2 rfl) ?_
                  refine lv_lconst (v := 0) hx hb dX12_often_140 (by decide) ?_
                  refine W.lcmp hx hb dX12_often_141 ?_
                  refine lv_if_ge (tgt := 185) hx hb dX12_often_142 (by decide) (fun c_24 => ?_) (fun c_24 => ?_)
                  · refine lv_lload hx hb dX12_often_185 (lv_at hl 0 rfl) ?_
                    refine lv_lload hx hb dX12_often_187 (lv_at hl 1 rfl) ?_
                    refine W.lcmp hx hb dX12_often_189 ?_
                    refine lv_if_ge (tgt := 197) hx hb dX12_often_190 (by decide) (fun c_25 => ?_) (fun c_25 => ?_)
                    · refine lv_lload hx hb dX12_often_197 (lv_at hl 0 rfl) ?_
                      refine lv_lload hx hb dX12_often_199 (lv_at hl 1 rfl) ?_
                      refine lv_lsub hx hb dX12_often_201 ?_
                      refine lv_lconst (v := 1) hx hb dX12_often_202 (by decide) ?_
                      refine lv_ladd hx hb dX12_often_203 ?_
                      refine W.widen (k := 0) (n := 0) (by omega) (by omega) ?_
                      obtain ⟨hP9, hD9⟩ := zsub2 (ws' := [(mq, .inr (12, mF (upd g 2 0) gl rf)), (eA0 (rf 29) (ck 29) 24 f_landHas)]) hP hD [0, 1] (by decide) rfl
                      have hK9 := hK.sub (tys' := []) [] rfl
                      exact W.lret (v := ((a2.toInt64 - L10a) + 1)) hx hb hr (fun t ht hW => ⟨⟨((a2.toInt64 - L10a) + 1), 0, rfl, ((fun e9 => ⟨by rw [e9], by rw [e9]⟩ : fq_often f_landHas a0 a1 a2 a3 (g 12) = (((a2.toInt64 - L10a) + 1), (0 : Int32)) → _) ((by rw [fq_often]; (try rw [← hq_r_1]); (try rw [xL_eq]); (try rw [if_neg c_4]); (try rw [if_neg c_5]); (try rw [if_neg c_6]); (try rw [if_neg c_7]); (try rw [if_pos c_8]); (try rw [if_pos c_9]); (try rw [if_pos c_21]); (try rw [← hX_22]); (try rw [xL_eq]); (try rw [← hq_L10a]); (try rw [if_pos c_24]); (try rw [if_pos c_25]); try rfl))), by rw [ht]; exact hP9, va_K.moved hW.alike hK9, hD9⟩, hS.F ht⟩) hS.2.2 dX12_often_204
                    · refine lv_lconst (v := 0) hx hb dX12_often_193 (by decide) ?_
                      refine lv_goto (tgt := 204) hx hb dX12_often_194 (by decide) ?_
                      refine W.widen (k := 0) (n := 0) (by omega) (by omega) ?_
                      obtain ⟨hP9, hD9⟩ := zsub2 (ws' := [(mq, .inr (12, mF (upd g 2 0) gl rf)), (eA0 (rf 29) (ck 29) 24 f_landHas)]) hP hD [0, 1] (by decide) rfl
                      have hK9 := hK.sub (tys' := []) [] rfl
                      exact W.lret (v := 0) hx hb hr (fun t ht hW => ⟨⟨0, 0, rfl, ((fun e9 => ⟨by rw [e9], by rw [e9]⟩ : fq_often f_landHas a0 a1 a2 a3 (g 12) = ((0 : Int64), (0 : Int32)) → _) ((by rw [fq_often]; (try rw [← hq_r_1]); (try rw [xL_eq]); (try rw [if_neg c_4]); (try rw [if_neg c_5]); (try rw [if_neg c_6]); (try rw [if_neg c_7]); (try rw [if_pos c_8]); (try rw [if_pos c_9]); (try rw [if_pos c_21]); (try rw [← hX_22]); (try rw [xL_eq]); (try rw [← hq_L10a]); (try rw [if_pos c_24]); (try rw [if_neg c_25]); try rfl))), by rw [ht]; exact hP9, va_K.moved hW.alike hK9, hD9⟩, hS.F ht⟩) hS.2.2 dX12_often_204
                  · refine lv_lload hx hb dX12_often_145 (lv_at hl 3 rfl) ?_
                    refine lv_lload hx hb dX12_often_147 (lv_at hl 8 rfl) ?_
                    refine W.lcmp hx hb dX12_often_149 ?_
                    refine lv_if_ge (tgt := 155) hx hb dX12_often_150 (by decide) (fun c_26 => ?_) (fun c_26 => absurd c_26 (fun h9 => h9 c_21))
                    refine lv_lload hx hb dX12_often_155 (lv_at hl 3 rfl) ?_
                    refine lv_lload hx hb dX12_often_157 (lv_at hl 8 rfl) ?_
                    refine lv_lsub hx hb dX12_often_159 ?_
                    refine lv_lload hx hb dX12_often_160 (lv_at hl 2 rfl) ?_
                    refine lv_lneg hx hb dX12_often_162 ?_
                    refine lv_ldiv hx hb dX12_often_163 ((gq_often_s4 (y0 := (f_landHas (((3 * a0) + 1).toNatClampNeg)).toInt64) ((lg_cmp_eq _ _).mp c_9) (fun q9 => c_24 ((lg_cmp_ge _ _).mpr q9)))) ?_
                    refine lv_lconst (v := 1) hx hb dX12_often_164 (by decide) ?_
                    refine lv_ladd hx hb dX12_often_165 ?_
                    refine lv_lstore (lv' := [(14, .long (((((f_landHas ((3 * a0).toNatClampNeg)).toInt64) - a3) / (-((f_landHas (((3 * a0) + 1).toNatClampNeg)).toInt64))) + 1)), (12, .long a2.toInt64), (10, .long L10a), (8, .long ((f_landHas (((3 * a0) + 1).toNatClampNeg)).toInt64)), (6, .long ((f_landHas ((3 * a0).toNatClampNeg)).toInt64)), (0, .ref mq), (1, .int a0), (2, .int a1), (3, .int a2), (4, .long a3)]) hx hb dX12_often_166 hl (by decide) rfl (fun ls hl => ?_)
                    refine lv_lload hx hb dX12_often_168 (lv_at hl 1 rfl) ?_
                    refine lv_lload hx hb dX12_often_170 (lv_at hl 0 rfl) ?_
                    refine W.lcmp hx hb dX12_often_172 ?_
                    refine lv_if_ge (tgt := 181) hx hb dX12_often_173 (by decide) (fun c_27 => ?_) (fun c_27 => ?_)
                    · refine lv_lload hx hb dX12_often_181 (lv_at hl 0 rfl) ?_
                      refine lv_lstore (lv' := [(12, .long (((((f_landHas ((3 * a0).toNatClampNeg)).toInt64) - a3) / (-((f_landHas (((3 * a0) + 1).toNatClampNeg)).toInt64))) + 1)), (14, .long (((((f_landHas ((3 * a0).toNatClampNeg)).toInt64) - a3) / (-((f_landHas (((3 * a0) + 1).toNatClampNeg)).toInt64))) + 1)), (10, .long L10a), (8, .long ((f_landHas (((3 * a0) + 1).toNatClampNeg)).toInt64)), (6, .long ((f_landHas ((3 * a0).toNatClampNeg)).toInt64)), (0, .ref mq), (1, .int a0), (2, .int a1), (3, .int a2), (4, .long a3)]) hx hb dX12_often_183 hl (by decide) rfl (fun ls hl => ?_)
                      refine lv_lload hx hb dX12_often_185 (lv_at hl 0 rfl) ?_
                      refine lv_lload hx hb dX12_often_187 (lv_at hl 2 rfl) ?_
                      refine W.lcmp hx hb dX12_often_189 ?_
                      refine lv_if_ge (tgt := 197) hx hb dX12_often_190 (by decide) (fun c_28 => ?_) (fun c_28 => ?_)
                      · refine lv_lload hx hb dX12_often_197 (lv_at hl 0 rfl) ?_
                        refine lv_lload hx hb dX12_often_199 (lv_at hl 2 rfl) ?_
                        refine lv_lsub hx hb dX12_often_201 ?_
                        refine lv_lconst (v := 1) hx hb dX12_often_202 (by decide) ?_
                        refine lv_ladd hx hb dX12_often_203 ?_
                        refine W.widen (k := 0) (n := 0) (by omega) (by omega) ?_
                        obtain ⟨hP9, hD9⟩ := zsub2 (ws' := [(mq, .inr (12, mF (upd g 2 0) gl rf)), (eA0 (rf 29) (ck 29) 24 f_landHas)]) hP hD [0, 1] (by decide) rfl
                        have hK9 := hK.sub (tys' := []) [] rfl
                        exact W.lret (v := (((((((f_landHas ((3 * a0).toNatClampNeg)).toInt64) - a3) / (-((f_landHas (((3 * a0) + 1).toNatClampNeg)).toInt64))) + 1) - L10a) + 1)) hx hb hr (fun t ht hW => ⟨⟨(((((((f_landHas ((3 * a0).toNatClampNeg)).toInt64) - a3) / (-((f_landHas (((3 * a0) + 1).toNatClampNeg)).toInt64))) + 1) - L10a) + 1), 0, rfl, ((fun e9 => ⟨by rw [e9], by rw [e9]⟩ : fq_often f_landHas a0 a1 a2 a3 (g 12) = ((((((((f_landHas ((3 * a0).toNatClampNeg)).toInt64) - a3) / (-((f_landHas (((3 * a0) + 1).toNatClampNeg)).toInt64))) + 1) - L10a) + 1), (0 : Int32)) → _) ((by rw [fq_often]; (try rw [← hq_r_1]); (try rw [xL_eq]); (try rw [if_neg c_4]); (try rw [if_neg c_5]); (try rw [if_neg c_6]); (try rw [if_neg c_7]); (try rw [if_pos c_8]); (try rw [if_pos c_9]); (try rw [if_pos c_21]); (try rw [← hX_22]); (try rw [xL_eq]); (try rw [← hq_L10a]); (try rw [if_neg c_24]); (try rw [if_pos c_27]); (try rw [if_pos c_28]); try rfl))), by rw [ht]; exact hP9, va_K.moved hW.alike hK9, hD9⟩, hS.F ht⟩) hS.2.2 dX12_often_204
                      · refine lv_lconst (v := 0) hx hb dX12_often_193 (by decide) ?_
                        refine lv_goto (tgt := 204) hx hb dX12_often_194 (by decide) ?_
                        refine W.widen (k := 0) (n := 0) (by omega) (by omega) ?_
                        obtain ⟨hP9, hD9⟩ := zsub2 (ws' := [(mq, .inr (12, mF (upd g 2 0) gl rf)), (eA0 (rf 29) (ck 29) 24 f_landHas)]) hP hD [0, 1] (by decide) rfl
                        have hK9 := hK.sub (tys' := []) [] rfl
                        exact W.lret (v := 0) hx hb hr (fun t ht hW => ⟨⟨0, 0, rfl, ((fun e9 => ⟨by rw [e9], by rw [e9]⟩ : fq_often f_landHas a0 a1 a2 a3 (g 12) = ((0 : Int64), (0 : Int32)) → _) ((by rw [fq_often]; (try rw [← hq_r_1]); (try rw [xL_eq]); (try rw [if_neg c_4]); (try rw [if_neg c_5]); (try rw [if_neg c_6]); (try rw [if_neg c_7]); (try rw [if_pos c_8]); (try rw [if_pos c_9]); (try rw [if_pos c_21]); (try rw [← hX_22]); (try rw [xL_eq]); (try rw [← hq_L10a]); (try rw [if_neg c_24]); (try rw [if_pos c_27]); (try rw [if_neg c_28]); try rfl))), by rw [ht]; exact hP9, va_K.moved hW.alike hK9, hD9⟩, hS.F ht⟩) hS.2.2 dX12_often_204
                    · refine lv_lload hx hb dX12_often_176 (lv_at hl 1 rfl) ?_
                      refine lv_goto (tgt := 183) hx hb dX12_often_178 (by decide) ?_
                      refine lv_lstore (lv' := [(12, .long a2.toInt64), (14, .long (((((f_landHas ((3 * a0).toNatClampNeg)).toInt64) - a3) / (-((f_landHas (((3 * a0) + 1).toNatClampNeg)).toInt64))) + 1)), (10, .long L10a), (8, .long ((f_landHas (((3 * a0) + 1).toNatClampNeg)).toInt64)), (6, .long ((f_landHas ((3 * a0).toNatClampNeg)).toInt64)), (0, .ref mq), (1, .int a0), (2, .int a1), (3, .int a2), (4, .long a3)]) hx hb dX12_often_183 hl (by decide) rfl (fun ls hl => ?_)
                      refine lv_lload hx hb dX12_often_185 (lv_at hl 0 rfl) ?_
                      refine lv_lload hx hb dX12_often_187 (lv_at hl 2 rfl) ?_
                      refine W.lcmp hx hb dX12_often_189 ?_
                      refine lv_if_ge (tgt := 197) hx hb dX12_often_190 (by decide) (fun c_29 => ?_) (fun c_29 => ?_)
                      · refine lv_lload hx hb dX12_often_197 (lv_at hl 0 rfl) ?_
                        refine lv_lload hx hb dX12_often_199 (lv_at hl 2 rfl) ?_
                        refine lv_lsub hx hb dX12_often_201 ?_
                        refine lv_lconst (v := 1) hx hb dX12_often_202 (by decide) ?_
                        refine lv_ladd hx hb dX12_often_203 ?_
                        refine W.widen (k := 0) (n := 0) (by omega) (by omega) ?_
                        obtain ⟨hP9, hD9⟩ := zsub2 (ws' := [(mq, .inr (12, mF (upd g 2 0) gl rf)), (eA0 (rf 29) (ck 29) 24 f_landHas)]) hP hD [0, 1] (by decide) rfl
                        have hK9 := hK.sub (tys' := []) [] rfl
                        exact W.lret (v := ((a2.toInt64 - L10a) + 1)) hx hb hr (fun t ht hW => ⟨⟨((a2.toInt64 - L10a) + 1), 0, rfl, ((fun e9 => ⟨by rw [e9], by rw [e9]⟩ : fq_often f_landHas a0 a1 a2 a3 (g 12) = (((a2.toInt64 - L10a) + 1), (0 : Int32)) → _) ((by rw [fq_often]; (try rw [← hq_r_1]); (try rw [xL_eq]); (try rw [if_neg c_4]); (try rw [if_neg c_5]); (try rw [if_neg c_6]); (try rw [if_neg c_7]); (try rw [if_pos c_8]); (try rw [if_pos c_9]); (try rw [if_pos c_21]); (try rw [← hX_22]); (try rw [xL_eq]); (try rw [← hq_L10a]); (try rw [if_neg c_24]); (try rw [if_neg c_27]); (try rw [if_pos c_29]); try rfl))), by rw [ht]; exact hP9, va_K.moved hW.alike hK9, hD9⟩, hS.F ht⟩) hS.2.2 dX12_often_204
                      · refine lv_lconst (v := 0) hx hb dX12_often_193 (by decide) ?_
                        refine lv_goto (tgt := 204) hx hb dX12_often_194 (by decide) ?_
                        refine W.widen (k := 0) (n := 0) (by omega) (by omega) ?_
                        obtain ⟨hP9, hD9⟩ := zsub2 (ws' := [(mq, .inr (12, mF (upd g 2 0) gl rf)), (eA0 (rf 29) (ck 29) 24 f_landHas)]) hP hD [0, 1] (by decide) rfl
                        have hK9 := hK.sub (tys' := []) [] rfl
                        exact W.lret (v := 0) hx hb hr (fun t ht hW => ⟨⟨0, 0, rfl, ((fun e9 => ⟨by rw [e9], by rw [e9]⟩ : fq_often f_landHas a0 a1 a2 a3 (g 12) = ((0 : Int64), (0 : Int32)) → _) ((by rw [fq_often]; (try rw [← hq_r_1]); (try rw [xL_eq]); (try rw [if_neg c_4]); (try rw [if_neg c_5]); (try rw [if_neg c_6]); (try rw [if_neg c_7]); (try rw [if_pos c_8]); (try rw [if_pos c_9]); (try rw [if_pos c_21]); (try rw [← hX_22]); (try rw [xL_eq]); (try rw [← hq_L10a]); (try rw [if_neg c_24]); (try rw [if_neg c_27]); (try rw [if_neg c_29]); try rfl))), by rw [ht]; exact hP9, va_K.moved hW.alike hK9, hD9⟩, hS.F ht⟩) hS.2.2 dX12_often_204
                refine lv_if_le (tgt := 138) hx hb dX12_often_94 (by decide) (fun c_30 => ?_) (fun c_30 => ?_)
                · exact hjoin_23 a1.toInt64  (hX_22.trans (by rw [fq_often_a2]; (try rw [if_pos c_30]); try rfl)) _ _ ls hP hD hS (lv_sub hl [0, 1, 2, 3, 4, 5, 6, 7, 8] rfl)
                · refine lv_lload hx hb dX12_often_97 (lv_at hl 8 rfl) ?_
                  refine lv_lload hx hb dX12_often_99 (lv_at hl 3 rfl) ?_
                  refine W.lcmp hx hb dX12_often_101 ?_
                  refine lv_if_le (tgt := 138) hx hb dX12_often_102 (by decide) (fun c_31 => ?_) (fun c_31 => ?_)
                  · exact hjoin_23 a1.toInt64  (hX_22.trans (by rw [fq_often_a2]; (try rw [if_neg c_30]); (try rw [if_pos c_31]); try rfl)) _ _ ls hP hD hS (lv_sub hl [0, 1, 2, 3, 4, 5, 6, 7, 8] rfl)
                  · refine lv_lload hx hb dX12_often_105 (lv_at hl 8 rfl) ?_
                    refine lv_lload hx hb dX12_often_107 (lv_at hl 3 rfl) ?_
                    refine lv_lsub hx hb dX12_often_109 ?_
                    refine lv_lconst (v := 1) hx hb dX12_often_110 (by decide) ?_
                    refine lv_lsub hx hb dX12_often_111 ?_
                    refine lv_lload hx hb dX12_often_112 (lv_at hl 2 rfl) ?_
                    refine lv_ldiv hx hb dX12_often_114 ((gq_often_s5 (y0 := (f_landHas (((3 * a0) + 1).toNatClampNeg)).toInt64) ((lg_cmp_eq _ _).mp c_9) (fun q9 => c_30 ((lg_cmp_le _ _).mpr q9)))) ?_
                    refine lv_ldc2 (v := 2) hx hb hown (htw _ (ck_30 _ (List.mem_of_getElem? (i := 13) rfl))) dX12_often_115 ?_
                    refine lv_ladd hx hb dX12_often_118 ?_
                    refine lv_lstore (lv' := [(14, .long ((((a3 - ((f_landHas ((3 * a0).toNatClampNeg)).toInt64)) - 1) / ((f_landHas (((3 * a0) + 1).toNatClampNeg)).toInt64)) + 2)), (12, .long a2.toInt64), (10, .long a1.toInt64), (8, .long ((f_landHas (((3 * a0) + 1).toNatClampNeg)).toInt64)), (6, .long ((f_landHas ((3 * a0).toNatClampNeg)).toInt64)), (0, .ref mq), (1, .int a0), (2, .int a1), (3, .int a2), (4, .long a3)]) hx hb dX12_often_119 hl (by decide) rfl (fun ls hl => ?_)
                    refine lv_lload hx hb dX12_often_121 (lv_at hl 2 rfl) ?_
                    refine lv_lload hx hb dX12_often_123 (lv_at hl 0 rfl) ?_
                    refine W.lcmp hx hb dX12_often_125 ?_
                    refine lv_if_le (tgt := 134) hx hb dX12_often_126 (by decide) (fun c_32 => ?_) (fun c_32 => ?_)
                    · refine lv_lload hx hb dX12_often_134 (lv_at hl 0 rfl) ?_
                      refine lv_lstore (lv' := [(10, .long ((((a3 - ((f_landHas ((3 * a0).toNatClampNeg)).toInt64)) - 1) / ((f_landHas (((3 * a0) + 1).toNatClampNeg)).toInt64)) + 2)), (14, .long ((((a3 - ((f_landHas ((3 * a0).toNatClampNeg)).toInt64)) - 1) / ((f_landHas (((3 * a0) + 1).toNatClampNeg)).toInt64)) + 2)), (12, .long a2.toInt64), (8, .long ((f_landHas (((3 * a0) + 1).toNatClampNeg)).toInt64)), (6, .long ((f_landHas ((3 * a0).toNatClampNeg)).toInt64)), (0, .ref mq), (1, .int a0), (2, .int a1), (3, .int a2), (4, .long a3)]) hx hb dX12_often_136 hl (by decide) rfl (fun ls hl => ?_)
                      exact hjoin_23 ((((a3 - ((f_landHas ((3 * a0).toNatClampNeg)).toInt64)) - 1) / ((f_landHas (((3 * a0) + 1).toNatClampNeg)).toInt64)) + 2)  (hX_22.trans (by rw [fq_often_a2]; (try rw [if_neg c_30]); (try rw [if_neg c_31]); (try rw [if_pos c_32]); try rfl)) _ _ ls hP hD hS (lv_sub hl [2, 0, 3, 4, 5, 6, 7, 8, 9] rfl)
                    · refine lv_lload hx hb dX12_often_129 (lv_at hl 2 rfl) ?_
                      refine lv_goto (tgt := 136) hx hb dX12_often_131 (by decide) ?_
                      refine lv_lstore (lv' := [(10, .long a1.toInt64), (14, .long ((((a3 - ((f_landHas ((3 * a0).toNatClampNeg)).toInt64)) - 1) / ((f_landHas (((3 * a0) + 1).toNatClampNeg)).toInt64)) + 2)), (12, .long a2.toInt64), (8, .long ((f_landHas (((3 * a0) + 1).toNatClampNeg)).toInt64)), (6, .long ((f_landHas ((3 * a0).toNatClampNeg)).toInt64)), (0, .ref mq), (1, .int a0), (2, .int a1), (3, .int a2), (4, .long a3)]) hx hb dX12_often_136 hl (by decide) rfl (fun ls hl => ?_)
                      exact hjoin_23 a1.toInt64  (hX_22.trans (by rw [fq_often_a2]; (try rw [if_neg c_30]); (try rw [if_neg c_31]); (try rw [if_neg c_32]); try rfl)) _ _ ls hP hD hS (lv_sub hl [2, 0, 3, 4, 5, 6, 7, 8, 9] rfl)
              · refine lv_lconst (v := 0) hx hb dX12_often_88 (by decide) ?_
                refine W.widen (k := 0) (n := 0) (by omega) (by omega) ?_
                have hP9 := hP
                have hD9 := hD
                have hK9 := hK.sub (tys' := []) [] rfl
                exact W.lret (v := 0) hx hb hr (fun t ht hW => ⟨⟨0, 0, rfl, ((fun e9 => ⟨by rw [e9], by rw [e9]⟩ : fq_often f_landHas a0 a1 a2 a3 (g 12) = ((0 : Int64), (0 : Int32)) → _) ((by rw [fq_often]; (try rw [← hq_r_1]); (try rw [xL_eq]); (try rw [if_neg c_4]); (try rw [if_neg c_5]); (try rw [if_neg c_6]); (try rw [if_neg c_7]); (try rw [if_pos c_8]); (try rw [if_pos c_9]); (try rw [if_neg c_21]); try rfl))), by rw [ht]; exact hP9, va_K.moved hW.alike hK9, hD9⟩, hS.F ht⟩) hS.2.2 dX12_often_89
          · refine lv_ldc2 (v := (-1)) hx hb hown (htw _ (ck_29 _ (List.mem_of_getElem? (i := 13) rfl))) dX12_often_37 ?_
            refine W.widen (k := 0) (n := 0) (by omega) (by omega) ?_
            have hP9 := hP
            have hD9 := hD
            have hK9 := hK.sub (tys' := []) [] rfl
            exact W.lret (v := (-1)) hx hb hr (fun t ht hW => ⟨⟨(-1), 0, rfl, ((fun e9 => ⟨by rw [e9], by rw [e9]⟩ : fq_often f_landHas a0 a1 a2 a3 (g 12) = ((-1 : Int64), (0 : Int32)) → _) ((by rw [fq_often]; (try rw [← hq_r_1]); (try rw [xL_eq]); (try rw [if_neg c_4]); (try rw [if_neg c_5]); (try rw [if_neg c_6]); (try rw [if_neg c_7]); (try rw [if_neg c_8]); try rfl))), by rw [ht]; exact hP9, va_K.moved hW.alike hK9, hD9⟩, hS.F ht⟩) hS.2.2 dX12_often_40

def fq_floor (a0 : Int64) (a1 : Int64) : Int64 := (if lg_cmp a0 0 < 0 then (-((((-a0) + a1) - 1) / a1)) else (a0 / a1))
theorem gq_floor_s0 {y0 : Int64} (h0 : ¬ (y0 = 0)) : ¬ (y0 = 0) := h0
theorem gq_floor_s1 {y0 : Int64} (h0 : ¬ (y0 = 0)) : ¬ (y0 = 0) := h0
theorem dX12_floor_0 : decode cX12_floor 0 = .ok (.lload_n 0, 1) := zk_30 (by decide +kernel)
theorem dX12_floor_1 : decode cX12_floor 1 = .ok (.lconst 0, 1) := zk_9 (by decide +kernel)
theorem dX12_floor_2 : decode cX12_floor 2 = .ok (.lcmp, 1) := zk_148 (by decide +kernel)
theorem dX12_floor_3 : decode cX12_floor 3 = .ok (.ifCond .lt 9, 3) := zk_155 (by decide +kernel)
theorem dX12_floor_12 : decode cX12_floor 12 = .ok (.lload_n 0, 1) := zk_30 (by decide +kernel)
theorem dX12_floor_13 : decode cX12_floor 13 = .ok (.lneg, 1) := zk_117 (by decide +kernel)
theorem dX12_floor_14 : decode cX12_floor 14 = .ok (.lload_n 2, 1) := zk_32 (by decide +kernel)
theorem dX12_floor_15 : decode cX12_floor 15 = .ok (.ladd, 1) := zk_97 (by decide +kernel)
theorem dX12_floor_16 : decode cX12_floor 16 = .ok (.lconst 1, 1) := zk_10 (by decide +kernel)
theorem dX12_floor_17 : decode cX12_floor 17 = .ok (.lsub, 1) := zk_101 (by decide +kernel)
theorem dX12_floor_18 : decode cX12_floor 18 = .ok (.lload_n 2, 1) := zk_32 (by decide +kernel)
theorem dX12_floor_19 : decode cX12_floor 19 = .ok (.ldiv, 1) := zk_109 (by decide +kernel)
theorem dX12_floor_20 : decode cX12_floor 20 = .ok (.lneg, 1) := zk_117 (by decide +kernel)
theorem dX12_floor_21 : decode cX12_floor 21 = .ok (.lreturn, 1) := zk_173 (by decide +kernel)
theorem dX12_floor_6 : decode cX12_floor 6 = .ok (.lload_n 0, 1) := zk_30 (by decide +kernel)
theorem dX12_floor_7 : decode cX12_floor 7 = .ok (.lload_n 2, 1) := zk_32 (by decide +kernel)
theorem dX12_floor_8 : decode cX12_floor 8 = .ok (.ldiv, 1) := zk_109 (by decide +kernel)
theorem dX12_floor_9 : decode cX12_floor 9 = .ok (.goto 12, 3) := zk_167 (by decide +kernel)
set_option maxHeartbeats 4000000 in
set_option maxRecDepth 100000 in
theorem gq_floor (l : Launch) (dC : Nat → ClassId) (dI : Nat → Nat → Nat) (a0 : Int64) (a1 : Int64) (hb0 : ¬ a1 = 0) : Met l yX12_floor (Cond.code yX12_floor cX12_floor 4 (some .long) :: wsL_law) ({ frames := 0, cells := 0, slots := 0, locals := 0 }) (va_Pc [.long a0, .long a1] (fun U => va_P (dC, dI) vwCl [] U.heap ∧ va_K (dC, dI) vwCl [] U)) (vp_Sl (fun r => r = fq_floor a0 a1)) 0 0 (fun _ => False) := by
  refine Met.ofW (cc := cX12_floor) (maxL := 4) (ret := (some .long)) (by decide) rfl ?_
  intro p e s m args below meth c s₁ B hml hv
  obtain ⟨rfl, hP, hK⟩ := hv
  have hx := B.exec
  have hb := B.bytes
  have hr := B.returns
  have hts := atoms_spec (ws := Cond.code yX12_floor cX12_floor 4 (some .long) :: wsL_law) B.pre
  have htw : ∀ w ∈ wsL_law, w.before _ s = true := fun w h => hts w (List.mem_cons_of_mem _ h)
  have hown : s.vm.findClass RX12 = some m.cls := findClass_of_methodNamed B.named
  have hlocks := B.notSynchronized
  have hl := lv_entry ([.long a0, .long a1]) (n := 4) (Nat.le_of_ble_eq_true rfl)
  rw [lg_entry_eq]
  generalize (lg_sl ([.long a0, .long a1]) ++ List.replicate (4 - (lg_sl ([.long a0, .long a1])).length) Slot.unset).toArray = ls at hl ⊢
  have hl : lv_has ls 4 [(0, .long a0), (2, .long a1)] := hl
  refine lv_lload_n hx hb dX12_floor_0 rfl (lv_at hl 0 rfl) ?_
  refine lv_lconst (v := 0) hx hb dX12_floor_1 (by decide) ?_
  refine W.lcmp hx hb dX12_floor_2 ?_
  refine lv_if_lt (tgt := 12) hx hb dX12_floor_3 (by decide) (fun c_1 => ?_) (fun c_1 => ?_)
  · refine lv_lload_n hx hb dX12_floor_12 rfl (lv_at hl 0 rfl) ?_
    refine lv_lneg hx hb dX12_floor_13 ?_
    refine lv_lload_n hx hb dX12_floor_14 rfl (lv_at hl 1 rfl) ?_
    refine lv_ladd hx hb dX12_floor_15 ?_
    refine lv_lconst (v := 1) hx hb dX12_floor_16 (by decide) ?_
    refine lv_lsub hx hb dX12_floor_17 ?_
    refine lv_lload_n hx hb dX12_floor_18 rfl (lv_at hl 1 rfl) ?_
    refine lv_ldiv hx hb dX12_floor_19 ((gq_floor_s0 (y0 := a1) hb0)) ?_
    refine lv_lneg hx hb dX12_floor_20 ?_
    exact W.lret (v := (-((((-a0) + a1) - 1) / a1))) hx hb hr (fun t ht hW => ⟨(-((((-a0) + a1) - 1) / a1)), rfl, (Eq.symm ((by rw [fq_floor]; (try rw [if_pos c_1]); try rfl))), ht⟩) (fun _ h => by cases h) dX12_floor_21
  · refine lv_lload_n hx hb dX12_floor_6 rfl (lv_at hl 0 rfl) ?_
    refine lv_lload_n hx hb dX12_floor_7 rfl (lv_at hl 1 rfl) ?_
    refine lv_ldiv hx hb dX12_floor_8 ((gq_floor_s1 (y0 := a1) hb0)) ?_
    refine lv_goto (tgt := 21) hx hb dX12_floor_9 (by decide) ?_
    exact W.lret (v := (a0 / a1)) hx hb hr (fun t ht hW => ⟨(a0 / a1), rfl, (Eq.symm ((by rw [fq_floor]; (try rw [if_neg c_1]); try rfl))), ht⟩) (fun _ h => by cases h) dX12_floor_21

def fq_begins (f_landHas : Nat → Int32) (a0 : Int32) (a1 : Int64) : Int32 := (xL ((fq_isAsked f_landHas a0 a1)) (fun r_1 => (if r_1 = 0 then (0 : Int32) else (xL ((fq_beginOf f_landHas a0 a1)) (fun r_3 => (if 0 < lg_cmp r_3 1000000000000 then (0 : Int32) else (1 : Int32)))))))
theorem dX12_begins_0 : decode cX12_begins 0 = .ok (.aload_n 0, 1) := zk_42 (by decide +kernel)
theorem dX12_begins_1 : decode cX12_begins 1 = .ok (.iload_n 1, 1) := zk_27 (by decide +kernel)
theorem dX12_begins_2 : decode cX12_begins 2 = .ok (.lload_n 2, 1) := zk_32 (by decide +kernel)
theorem dX12_begins_3 : decode cX12_begins 3 = .ok (.invokevirtual 410, 3) := zk_182 (by decide +kernel)
theorem dX12_begins_6 : decode cX12_begins 6 = .ok (.ifCond .eq 20, 3) := zk_153 (by decide +kernel)
theorem dX12_begins_26 : decode cX12_begins 26 = .ok (.iconst 0, 1) := zk_3 (by decide +kernel)
theorem dX12_begins_27 : decode cX12_begins 27 = .ok (.ireturn, 1) := zk_172 (by decide +kernel)
theorem dX12_begins_9 : decode cX12_begins 9 = .ok (.aload_n 0, 1) := zk_42 (by decide +kernel)
theorem dX12_begins_10 : decode cX12_begins 10 = .ok (.iload_n 1, 1) := zk_27 (by decide +kernel)
theorem dX12_begins_11 : decode cX12_begins 11 = .ok (.lload_n 2, 1) := zk_32 (by decide +kernel)
theorem dX12_begins_12 : decode cX12_begins 12 = .ok (.invokevirtual 389, 3) := zk_182 (by decide +kernel)
theorem dX12_begins_15 : decode cX12_begins 15 = .ok (.ldc2_w 125, 3) := zk_20 (by decide +kernel)
theorem dX12_begins_18 : decode cX12_begins 18 = .ok (.lcmp, 1) := zk_148 (by decide +kernel)
theorem dX12_begins_19 : decode cX12_begins 19 = .ok (.ifCond .gt 7, 3) := zk_157 (by decide +kernel)
theorem dX12_begins_22 : decode cX12_begins 22 = .ok (.iconst 1, 1) := zk_4 (by decide +kernel)
theorem dX12_begins_23 : decode cX12_begins 23 = .ok (.goto 4, 3) := zk_167 (by decide +kernel)
set_option maxHeartbeats 4000000 in
set_option maxRecDepth 100000 in
theorem gq_begins (l : Launch) (dC : Nat → ClassId) (dI : Nat → Nat → Nat) (mq : Nat) (g : Nat → Int32) (gl : Nat → Int64) (rf : Nat → Nat) (ck : Nat → ClassId) (f_landHas : Nat → Int32) (a0 : Int32) (a1 : Int64) (hl0 : ¬ a0 < 0) (hl7 : a0 ≤ 7) : Met l yX12_begins (Cond.code yX12_begins cX12_begins 4 (some .boolean) :: wsL_law) ({ frames := 3, cells := 0, slots := 0, locals := 69 }) (va_Pc [.ref mq, .int a0, .long a1] (fun U => va_P (dC, dI) vwCl [(mq, .inr (12, mF g gl rf)), (eA0 (rf 29) (ck 29) 24 f_landHas)] U.heap ∧ va_K (dC, dI) vwCl [((ck 29), .int)] U)) (vp_Si (fun r => (r = fq_begins f_landHas a0 a1) ∧ (r = 0 ∨ r = 1))) 0 0 (fun _ => False) := by
  refine Met.ofW (cc := cX12_begins) (maxL := 4) (ret := (some .boolean)) (by decide) rfl ?_
  intro p e s m args below meth c s₁ B hml hv
  obtain ⟨rfl, hP, hK⟩ := hv
  have hx := B.exec
  have hb := B.bytes
  have hr := B.returns
  have hts := atoms_spec (ws := Cond.code yX12_begins cX12_begins 4 (some .boolean) :: wsL_law) B.pre
  have htw : ∀ w ∈ wsL_law, w.before _ s = true := fun w h => hts w (List.mem_cons_of_mem _ h)
  have hown : s.vm.findClass RX12 = some m.cls := findClass_of_methodNamed B.named
  have hlocks := B.notSynchronized
  have hl := lv_entry ([.ref mq, .int a0, .long a1]) (n := 4) (Nat.le_of_ble_eq_true rfl)
  rw [lg_entry_eq]
  generalize (lg_sl ([.ref mq, .int a0, .long a1]) ++ List.replicate (4 - (lg_sl ([.ref mq, .int a0, .long a1])).length) Slot.unset).toArray = ls at hl ⊢
  have hl : lv_has ls 4 [(0, .ref mq), (1, .int a0), (2, .long a1)] := hl
  refine lv_aload_n hx hb dX12_begins_0 rfl (lv_at hl 0 rfl) ?_
  refine lv_iload_n hx hb dX12_begins_1 rfl (lv_at hl 1 rfl) ?_
  refine lv_lload_n hx hb dX12_begins_2 rfl (lv_at hl 2 rfl) ?_
  have hPc := hP.sub (ws' := [(mq, .inr (12, mF g gl rf)), (eA0 (rf 29) (ck 29) 24 f_landHas)]) [0, 1] rfl
  have hKc := hK.sub (tys' := [((ck 29), .int)]) [0] rfl
  refine vp_callSi (W.runV (As := [.int a0, .long a1]) (rest := []) ⟨hx, hb, hml, hown, htw⟩ (gq_isAsked l dC dI mq g gl rf ck f_landHas a0 a1 hl0 hl7) (cwV 2 htw (xg_V (ck_35 _ (List.mem_of_getElem? (i := 2) rfl)) (ck_35 _ (List.mem_of_getElem? (i := 3) rfl)) (ck_35 _ (List.mem_of_getElem? (i := 4) rfl)) (ck_1 _ (List.mem_of_getElem? (i := 5) rfl)) (ck_35 _ (List.mem_of_getElem? (i := 5) rfl))) rfl rfl rfl (by exact ⟨rfl, hdc_14.1, hdc_14.2, hdd_42⟩) ⟨Nat.le_of_ble_eq_true rfl, Nat.le_of_ble_eq_true rfl⟩) ⟨fun a U g mk q => by obtain ⟨q0, qP, qK⟩ := q; exact ⟨q0, qP, va_K.moved (u := U) (U := U.calling g mk a) (Vm.Alike.refl U.vm) qK⟩, va_recv hKc hPc (ci := 12) (q0 := 0) rfl rfl, fun U hU hW => ⟨rfl, by rw [hU]; exact hPc, va_K.moved hW.alike hKc⟩⟩ rfl rfl hl.1 rfl (lv_room (Nat.le_of_ble_eq_true rfl)) dX12_begins_3 ⟨Nat.le_of_ble_eq_true rfl, Nat.le_of_ble_eq_true rfl⟩) (fun r_1 hw => ?_)
  try dsimp only at hw
  obtain ⟨hw, hb_r_1⟩ := hw
  have hq_r_1 : r_1 = (fq_isAsked f_landHas a0 a1) := hw
  refine lv_if_eq (tgt := 26) hx hb dX12_begins_6 (by decide) (fun c_2 => ?_) (fun c_2 => ?_)
  · refine lv_iconst (v := 0) hx hb dX12_begins_26 (by decide) ?_
    exact W.zret (v := 0) hx hb hr (by first | rfl | decide) (fun t ht hW => ⟨0, rfl, ⟨(Eq.symm ((by rw [fq_begins]; (try rw [← hq_r_1]); (try rw [xL_eq]); (try rw [if_pos c_2]); try rfl))), Or.inl rfl⟩, ht⟩) (fun _ h => by cases h) dX12_begins_27
  · refine lv_aload_n hx hb dX12_begins_9 rfl (lv_at hl 0 rfl) ?_
    refine lv_iload_n hx hb dX12_begins_10 rfl (lv_at hl 1 rfl) ?_
    refine lv_lload_n hx hb dX12_begins_11 rfl (lv_at hl 2 rfl) ?_
    have hPc := hP.sub (ws' := [(mq, .inr (12, mF g gl rf)), (eA0 (rf 29) (ck 29) 24 f_landHas)]) [0, 1] rfl
    have hKc := hK.sub (tys' := [((ck 29), .int)]) [0] rfl
    refine vp_callSl (W.runV (As := [.int a0, .long a1]) (rest := []) ⟨hx, hb, hml, hown, htw⟩ (gq_beginOf l dC dI mq g gl rf ck f_landHas a0 a1 hl0 hl7) (cwV 2 htw (xg_V (ck_30 _ (List.mem_of_getElem? (i := 7) rfl)) (ck_30 _ (List.mem_of_getElem? (i := 8) rfl)) (ck_30 _ (List.mem_of_getElem? (i := 9) rfl)) (ck_1 _ (List.mem_of_getElem? (i := 5) rfl)) (ck_30 _ (List.mem_of_getElem? (i := 10) rfl))) rfl rfl rfl (by exact ⟨rfl, hdc_14.1, hdc_14.2, hdd_41⟩) ⟨Nat.le_of_ble_eq_true rfl, Nat.le_of_ble_eq_true rfl⟩) ⟨fun a U g mk q => by obtain ⟨q0, qP, qK⟩ := q; exact ⟨q0, qP, va_K.moved (u := U) (U := U.calling g mk a) (Vm.Alike.refl U.vm) qK⟩, va_recv hKc hPc (ci := 12) (q0 := 0) rfl rfl, fun U hU hW => ⟨rfl, by rw [hU]; exact hPc, va_K.moved hW.alike hKc⟩⟩ rfl rfl hl.1 rfl (lv_room (Nat.le_of_ble_eq_true rfl)) dX12_begins_12 ⟨Nat.le_of_ble_eq_true rfl, Nat.le_of_ble_eq_true rfl⟩) (fun r_3 hw => ?_)
    try dsimp only at hw
    have hq_r_3 : r_3 = (fq_beginOf f_landHas a0 a1) := hw
    refine lv_ldc2 (v := 1000000000000) hx hb hown (htw _ (ck_29 _ (List.mem_of_getElem? (i := 22) rfl))) dX12_begins_15 ?_
    refine W.lcmp hx hb dX12_begins_18 ?_
    refine lv_if_gt (tgt := 26) hx hb dX12_begins_19 (by decide) (fun c_4 => ?_) (fun c_4 => ?_)
    · refine lv_iconst (v := 0) hx hb dX12_begins_26 (by decide) ?_
      exact W.zret (v := 0) hx hb hr (by first | rfl | decide) (fun t ht hW => ⟨0, rfl, ⟨(Eq.symm ((by rw [fq_begins]; (try rw [← hq_r_1]); (try rw [xL_eq]); (try rw [if_neg c_2]); (try rw [← hq_r_3]); (try rw [xL_eq]); (try rw [if_pos c_4]); try rfl))), Or.inl rfl⟩, ht⟩) (fun _ h => by cases h) dX12_begins_27
    · refine lv_iconst (v := 1) hx hb dX12_begins_22 (by decide) ?_
      refine lv_goto (tgt := 27) hx hb dX12_begins_23 (by decide) ?_
      exact W.zret (v := 1) hx hb hr (by first | rfl | decide) (fun t ht hW => ⟨1, rfl, ⟨(Eq.symm ((by rw [fq_begins]; (try rw [← hq_r_1]); (try rw [xL_eq]); (try rw [if_neg c_2]); (try rw [← hq_r_3]); (try rw [xL_eq]); (try rw [if_neg c_4]); try rfl))), Or.inr rfl⟩, ht⟩) (fun _ h => by cases h) dX12_begins_27

def fq_springsOf (f_sky : Nat → Int32) (f_landHas : Nat → Int32) (a0 : Int32) (a1 : Int64) : Int64 := (xL ((fq_beginOf f_landHas a0 a1)) (fun r_1 => (xL ((fq_lengthOf f_landHas a0 a1)) (fun r_2 => (xL ((fq_floor (((r_1 + r_2) - 1) * ((f_sky ((6 : Int32).toNatClampNeg)).toInt64)) ((f_sky ((5 : Int32).toNatClampNeg)).toInt64))) (fun r_3 => (xL ((fq_floor ((r_1 - 1) * ((f_sky ((6 : Int32).toNatClampNeg)).toInt64)) ((f_sky ((5 : Int32).toNatClampNeg)).toInt64))) (fun r_4 => (r_3 - r_4)))))))))
theorem dX12_springsOf_0 : decode cX12_springsOf 0 = .ok (.aload_n 0, 1) := zk_42 (by decide +kernel)
theorem dX12_springsOf_1 : decode cX12_springsOf 1 = .ok (.iload_n 1, 1) := zk_27 (by decide +kernel)
theorem dX12_springsOf_2 : decode cX12_springsOf 2 = .ok (.lload_n 2, 1) := zk_32 (by decide +kernel)
theorem dX12_springsOf_3 : decode cX12_springsOf 3 = .ok (.invokevirtual 389, 3) := zk_182 (by decide +kernel)
theorem dX12_springsOf_6 : decode cX12_springsOf 6 = .ok (.lstore 4, 2) := zk_55 (by decide +kernel)
theorem dX12_springsOf_8 : decode cX12_springsOf 8 = .ok (.lload 4, 2) := zk_22 (by decide +kernel)
theorem dX12_springsOf_10 : decode cX12_springsOf 10 = .ok (.aload_n 0, 1) := zk_42 (by decide +kernel)
theorem dX12_springsOf_11 : decode cX12_springsOf 11 = .ok (.iload_n 1, 1) := zk_27 (by decide +kernel)
theorem dX12_springsOf_12 : decode cX12_springsOf 12 = .ok (.lload_n 2, 1) := zk_32 (by decide +kernel)
theorem dX12_springsOf_13 : decode cX12_springsOf 13 = .ok (.invokevirtual 375, 3) := zk_182 (by decide +kernel)
theorem dX12_springsOf_16 : decode cX12_springsOf 16 = .ok (.ladd, 1) := zk_97 (by decide +kernel)
theorem dX12_springsOf_17 : decode cX12_springsOf 17 = .ok (.lconst 1, 1) := zk_10 (by decide +kernel)
theorem dX12_springsOf_18 : decode cX12_springsOf 18 = .ok (.lsub, 1) := zk_101 (by decide +kernel)
theorem dX12_springsOf_19 : decode cX12_springsOf 19 = .ok (.lstore 6, 2) := zk_55 (by decide +kernel)
theorem dX12_springsOf_21 : decode cX12_springsOf 21 = .ok (.lload 6, 2) := zk_22 (by decide +kernel)
theorem dX12_springsOf_23 : decode cX12_springsOf 23 = .ok (.aload_n 0, 1) := zk_42 (by decide +kernel)
theorem dX12_springsOf_24 : decode cX12_springsOf 24 = .ok (.getfield 20, 3) := zk_180 (by decide +kernel)
theorem dX12_springsOf_27 : decode cX12_springsOf 27 = .ok (.bipush 6, 2) := zk_16 (by decide +kernel)
theorem dX12_springsOf_29 : decode cX12_springsOf 29 = .ok (.iaload, 1) := zk_46 (by decide +kernel)
theorem dX12_springsOf_30 : decode cX12_springsOf 30 = .ok (.i2l, 1) := zk_133 (by decide +kernel)
theorem dX12_springsOf_31 : decode cX12_springsOf 31 = .ok (.lmul, 1) := zk_105 (by decide +kernel)
theorem dX12_springsOf_32 : decode cX12_springsOf 32 = .ok (.aload_n 0, 1) := zk_42 (by decide +kernel)
theorem dX12_springsOf_33 : decode cX12_springsOf 33 = .ok (.getfield 20, 3) := zk_180 (by decide +kernel)
theorem dX12_springsOf_36 : decode cX12_springsOf 36 = .ok (.iconst 5, 1) := zk_8 (by decide +kernel)
theorem dX12_springsOf_37 : decode cX12_springsOf 37 = .ok (.iaload, 1) := zk_46 (by decide +kernel)
theorem dX12_springsOf_38 : decode cX12_springsOf 38 = .ok (.i2l, 1) := zk_133 (by decide +kernel)
theorem dX12_springsOf_39 : decode cX12_springsOf 39 = .ok (.invokestatic 466, 3) := zk_184 (by decide +kernel)
theorem dX12_springsOf_42 : decode cX12_springsOf 42 = .ok (.lload 4, 2) := zk_22 (by decide +kernel)
theorem dX12_springsOf_44 : decode cX12_springsOf 44 = .ok (.lconst 1, 1) := zk_10 (by decide +kernel)
theorem dX12_springsOf_45 : decode cX12_springsOf 45 = .ok (.lsub, 1) := zk_101 (by decide +kernel)
theorem dX12_springsOf_46 : decode cX12_springsOf 46 = .ok (.aload_n 0, 1) := zk_42 (by decide +kernel)
theorem dX12_springsOf_47 : decode cX12_springsOf 47 = .ok (.getfield 20, 3) := zk_180 (by decide +kernel)
theorem dX12_springsOf_50 : decode cX12_springsOf 50 = .ok (.bipush 6, 2) := zk_16 (by decide +kernel)
theorem dX12_springsOf_52 : decode cX12_springsOf 52 = .ok (.iaload, 1) := zk_46 (by decide +kernel)
theorem dX12_springsOf_53 : decode cX12_springsOf 53 = .ok (.i2l, 1) := zk_133 (by decide +kernel)
theorem dX12_springsOf_54 : decode cX12_springsOf 54 = .ok (.lmul, 1) := zk_105 (by decide +kernel)
theorem dX12_springsOf_55 : decode cX12_springsOf 55 = .ok (.aload_n 0, 1) := zk_42 (by decide +kernel)
theorem dX12_springsOf_56 : decode cX12_springsOf 56 = .ok (.getfield 20, 3) := zk_180 (by decide +kernel)
theorem dX12_springsOf_59 : decode cX12_springsOf 59 = .ok (.iconst 5, 1) := zk_8 (by decide +kernel)
theorem dX12_springsOf_60 : decode cX12_springsOf 60 = .ok (.iaload, 1) := zk_46 (by decide +kernel)
theorem dX12_springsOf_61 : decode cX12_springsOf 61 = .ok (.i2l, 1) := zk_133 (by decide +kernel)
theorem dX12_springsOf_62 : decode cX12_springsOf 62 = .ok (.invokestatic 466, 3) := zk_184 (by decide +kernel)
theorem dX12_springsOf_65 : decode cX12_springsOf 65 = .ok (.lsub, 1) := zk_101 (by decide +kernel)
theorem dX12_springsOf_66 : decode cX12_springsOf 66 = .ok (.lreturn, 1) := zk_173 (by decide +kernel)
set_option maxHeartbeats 4000000 in
set_option maxRecDepth 100000 in
theorem gq_springsOf (l : Launch) (dC : Nat → ClassId) (dI : Nat → Nat → Nat) (mq : Nat) (g : Nat → Int32) (gl : Nat → Int64) (rf : Nat → Nat) (ck : Nat → ClassId) (f_sky : Nat → Int32) (f_landHas : Nat → Int32) (a0 : Int32) (a1 : Int64) (hl0 : ¬ a0 < 0) (hl7 : a0 ≤ 7) (hs5 : ¬ (f_sky 5) < 1) : Met l yX12_springsOf (Cond.code yX12_springsOf cX12_springsOf 8 (some .long) :: wsL_law) ({ frames := 1, cells := 0, slots := 0, locals := 25 }) (va_Pc [.ref mq, .int a0, .long a1] (fun U => va_P (dC, dI) vwCl [(mq, .inr (12, mF g gl rf)), (eA0 (rf 24) (ck 24) 14 f_sky), (eA0 (rf 29) (ck 29) 24 f_landHas)] U.heap ∧ va_K (dC, dI) vwCl [((ck 24), .int), ((ck 29), .int)] U)) (vp_Sl (fun r => r = fq_springsOf f_sky f_landHas a0 a1)) 0 0 (fun _ => False) := by
  refine Met.ofW (cc := cX12_springsOf) (maxL := 8) (ret := (some .long)) (by decide) rfl ?_
  intro p e s m args below meth c s₁ B hml hv
  obtain ⟨rfl, hP, hK⟩ := hv
  have hx := B.exec
  have hb := B.bytes
  have hr := B.returns
  have hts := atoms_spec (ws := Cond.code yX12_springsOf cX12_springsOf 8 (some .long) :: wsL_law) B.pre
  have htw : ∀ w ∈ wsL_law, w.before _ s = true := fun w h => hts w (List.mem_cons_of_mem _ h)
  have hown : s.vm.findClass RX12 = some m.cls := findClass_of_methodNamed B.named
  have hlocks := B.notSynchronized
  have hl := lv_entry ([.ref mq, .int a0, .long a1]) (n := 8) (Nat.le_of_ble_eq_true rfl)
  rw [lg_entry_eq]
  generalize (lg_sl ([.ref mq, .int a0, .long a1]) ++ List.replicate (8 - (lg_sl ([.ref mq, .int a0, .long a1])).length) Slot.unset).toArray = ls at hl ⊢
  have hl : lv_has ls 8 [(0, .ref mq), (1, .int a0), (2, .long a1)] := hl
  refine lv_aload_n hx hb dX12_springsOf_0 rfl (lv_at hl 0 rfl) ?_
  refine lv_iload_n hx hb dX12_springsOf_1 rfl (lv_at hl 1 rfl) ?_
  refine lv_lload_n hx hb dX12_springsOf_2 rfl (lv_at hl 2 rfl) ?_
  have hPc := hP.sub (ws' := [(mq, .inr (12, mF g gl rf)), (eA0 (rf 29) (ck 29) 24 f_landHas)]) [0, 2] rfl
  have hKc := hK.sub (tys' := [((ck 29), .int)]) [1] rfl
  refine vp_callSl (W.runV (As := [.int a0, .long a1]) (rest := []) ⟨hx, hb, hml, hown, htw⟩ (gq_beginOf l dC dI mq g gl rf ck f_landHas a0 a1 hl0 hl7) (cwV 2 htw (xg_V (ck_30 _ (List.mem_of_getElem? (i := 7) rfl)) (ck_30 _ (List.mem_of_getElem? (i := 8) rfl)) (ck_30 _ (List.mem_of_getElem? (i := 9) rfl)) (ck_1 _ (List.mem_of_getElem? (i := 5) rfl)) (ck_30 _ (List.mem_of_getElem? (i := 10) rfl))) rfl rfl rfl (by exact ⟨rfl, hdc_14.1, hdc_14.2, hdd_41⟩) ⟨Nat.le_of_ble_eq_true rfl, Nat.le_of_ble_eq_true rfl⟩) ⟨fun a U g mk q => by obtain ⟨q0, qP, qK⟩ := q; exact ⟨q0, qP, va_K.moved (u := U) (U := U.calling g mk a) (Vm.Alike.refl U.vm) qK⟩, va_recv hKc hPc (ci := 12) (q0 := 0) rfl rfl, fun U hU hW => ⟨rfl, by rw [hU]; exact hPc, va_K.moved hW.alike hKc⟩⟩ rfl rfl hl.1 rfl (lv_room (Nat.le_of_ble_eq_true rfl)) dX12_springsOf_3 ⟨Nat.le_of_ble_eq_true rfl, Nat.le_of_ble_eq_true rfl⟩) (fun r_1 hw => ?_)
  try dsimp only at hw
  have hq_r_1 : r_1 = (fq_beginOf f_landHas a0 a1) := hw
  refine lv_lstore (lv' := [(4, .long r_1), (0, .ref mq), (1, .int a0), (2, .long a1)]) hx hb dX12_springsOf_6 hl (by decide) rfl (fun ls hl => ?_)
  refine lv_lload hx hb dX12_springsOf_8 (lv_at hl 0 rfl) ?_
  refine lv_aload_n hx hb dX12_springsOf_10 rfl (lv_at hl 1 rfl) ?_
  refine lv_iload_n hx hb dX12_springsOf_11 rfl (lv_at hl 2 rfl) ?_
  refine lv_lload_n hx hb dX12_springsOf_12 rfl (lv_at hl 3 rfl) ?_
  have hPc := hP.sub (ws' := [(mq, .inr (12, mF g gl rf)), (eA0 (rf 29) (ck 29) 24 f_landHas)]) [0, 2] rfl
  have hKc := hK.sub (tys' := [((ck 29), .int)]) [1] rfl
  refine vp_callSl (W.runV (As := [.int a0, .long a1]) (rest := [.long r_1]) ⟨hx, hb, hml, hown, htw⟩ (gq_lengthOf l dC dI mq g gl rf ck f_landHas a0 a1 hl0 hl7) (cwV 2 htw (xg_V (ck_30 _ (List.mem_of_getElem? (i := 3) rfl)) (ck_30 _ (List.mem_of_getElem? (i := 4) rfl)) (ck_30 _ (List.mem_of_getElem? (i := 5) rfl)) (ck_1 _ (List.mem_of_getElem? (i := 5) rfl)) (ck_30 _ (List.mem_of_getElem? (i := 6) rfl))) rfl rfl rfl (by exact ⟨rfl, hdc_14.1, hdc_14.2, hdd_41⟩) ⟨Nat.le_of_ble_eq_true rfl, Nat.le_of_ble_eq_true rfl⟩) ⟨fun a U g mk q => by obtain ⟨q0, qP, qK⟩ := q; exact ⟨q0, qP, va_K.moved (u := U) (U := U.calling g mk a) (Vm.Alike.refl U.vm) qK⟩, va_recv hKc hPc (ci := 12) (q0 := 0) rfl rfl, fun U hU hW => ⟨rfl, by rw [hU]; exact hPc, va_K.moved hW.alike hKc⟩⟩ rfl rfl hl.1 rfl (lv_room (Nat.le_of_ble_eq_true rfl)) dX12_springsOf_13 ⟨Nat.le_of_ble_eq_true rfl, Nat.le_of_ble_eq_true rfl⟩) (fun r_2 hw => ?_)
  try dsimp only at hw
  have hq_r_2 : r_2 = (fq_lengthOf f_landHas a0 a1) := hw
  refine lv_ladd hx hb dX12_springsOf_16 ?_
  refine lv_lconst (v := 1) hx hb dX12_springsOf_17 (by decide) ?_
  refine lv_lsub hx hb dX12_springsOf_18 ?_
  refine lv_lstore (lv' := [(6, .long ((r_1 + r_2) - 1)), (4, .long r_1), (0, .ref mq), (1, .int a0), (2, .long a1)]) hx hb dX12_springsOf_19 hl (by decide) rfl (fun ls hl => ?_)
  refine lv_lload hx hb dX12_springsOf_21 (lv_at hl 0 rfl) ?_
  refine lv_aload_n hx hb dX12_springsOf_23 rfl (lv_at hl 2 rfl) ?_
  refine va_get (D := (dC, dI)) (ci := 12) (v := .ref (rf 24)) (C := RX12) (T := TX12) (N := 76) hx hb htw inlX12 hown hK hP 0 rfl rfl 24 (by decide) (htw _ (ck_9 _ (List.mem_of_getElem? (i := 7) rfl))) (fun _ h9 => h9) rfl dX12_springsOf_24 ?_
  refine lv_bipush (v := 6) hx hb dX12_springsOf_27 (by decide) ?_
  refine va_iald hx hb hK hP 1 0 rfl rfl (by unfold vp_in; decide) dX12_springsOf_29 ?_
  refine lv_i2l (v := (f_sky ((6 : Int32).toNatClampNeg)).toInt64) hx hb dX12_springsOf_30 rfl ?_
  refine lv_lmul hx hb dX12_springsOf_31 ?_
  refine lv_aload_n hx hb dX12_springsOf_32 rfl (lv_at hl 2 rfl) ?_
  refine va_get (D := (dC, dI)) (ci := 12) (v := .ref (rf 24)) (C := RX12) (T := TX12) (N := 76) hx hb htw inlX12 hown hK hP 0 rfl rfl 24 (by decide) (htw _ (ck_9 _ (List.mem_of_getElem? (i := 7) rfl))) (fun _ h9 => h9) rfl dX12_springsOf_33 ?_
  refine lv_iconst (v := 5) hx hb dX12_springsOf_36 (by decide) ?_
  refine va_iald hx hb hK hP 1 0 rfl rfl (by unfold vp_in; decide) dX12_springsOf_37 ?_
  refine lv_i2l (v := (f_sky ((5 : Int32).toNatClampNeg)).toInt64) hx hb dX12_springsOf_38 rfl ?_
  have hPc := hP.sub (ws' := []) [] rfl
  have hKc := hK.sub (tys' := []) [] rfl
  refine vp_callSl (W.runS (As := [.long (((r_1 + r_2) - 1) * ((f_sky ((6 : Int32).toNatClampNeg)).toInt64)), .long ((f_sky ((5 : Int32).toNatClampNeg)).toInt64)]) (rest := []) ⟨hx, hb, hml, hown, htw⟩ (gq_floor l dC dI (((r_1 + r_2) - 1) * ((f_sky ((6 : Int32).toNatClampNeg)).toInt64)) ((f_sky ((5 : Int32).toNatClampNeg)).toInt64) (xg_nz64 (xs_nz hs5))) (va_cwS 2 htw (xg_S (ck_47 _ (List.mem_of_getElem? (i := 16) rfl)) (ck_47 _ (List.mem_of_getElem? (i := 17) rfl)) (ck_1 _ (List.mem_of_getElem? (i := 5) rfl)) (ck_47 _ (List.mem_of_getElem? (i := 18) rfl))) rfl rfl rfl (by exact ⟨hdc_14.1, hdc_14.2, hdd_4⟩) ⟨Nat.le_of_ble_eq_true rfl, Nat.le_of_ble_eq_true rfl⟩) ⟨fun a U g mk q => by obtain ⟨q0, qP, qK⟩ := q; exact ⟨q0, qP, va_K.moved (u := U) (U := U.calling g mk a) (Vm.Alike.refl U.vm) qK⟩, fun U hU hW => ⟨rfl, by rw [hU]; exact hPc, va_K.moved hW.alike hKc⟩⟩ rfl rfl hl.1 rfl (lv_room (Nat.le_of_ble_eq_true rfl)) dX12_springsOf_39 ⟨Nat.le_of_ble_eq_true rfl, Nat.le_of_ble_eq_true rfl⟩) (fun r_3 hw => ?_)
  try dsimp only at hw
  have hq_r_3 : r_3 = (fq_floor (((r_1 + r_2) - 1) * ((f_sky ((6 : Int32).toNatClampNeg)).toInt64)) ((f_sky ((5 : Int32).toNatClampNeg)).toInt64)) := hw
  refine lv_lload hx hb dX12_springsOf_42 (lv_at hl 1 rfl) ?_
  refine lv_lconst (v := 1) hx hb dX12_springsOf_44 (by decide) ?_
  refine lv_lsub hx hb dX12_springsOf_45 ?_
  refine lv_aload_n hx hb dX12_springsOf_46 rfl (lv_at hl 2 rfl) ?_
  refine va_get (D := (dC, dI)) (ci := 12) (v := .ref (rf 24)) (C := RX12) (T := TX12) (N := 76) hx hb htw inlX12 hown hK hP 0 rfl rfl 24 (by decide) (htw _ (ck_9 _ (List.mem_of_getElem? (i := 7) rfl))) (fun _ h9 => h9) rfl dX12_springsOf_47 ?_
  refine lv_bipush (v := 6) hx hb dX12_springsOf_50 (by decide) ?_
  refine va_iald hx hb hK hP 1 0 rfl rfl (by unfold vp_in; decide) dX12_springsOf_52 ?_
  refine lv_i2l (v := (f_sky ((6 : Int32).toNatClampNeg)).toInt64) hx hb dX12_springsOf_53 rfl ?_
  refine lv_lmul hx hb dX12_springsOf_54 ?_
  refine lv_aload_n hx hb dX12_springsOf_55 rfl (lv_at hl 2 rfl) ?_
  refine va_get (D := (dC, dI)) (ci := 12) (v := .ref (rf 24)) (C := RX12) (T := TX12) (N := 76) hx hb htw inlX12 hown hK hP 0 rfl rfl 24 (by decide) (htw _ (ck_9 _ (List.mem_of_getElem? (i := 7) rfl))) (fun _ h9 => h9) rfl dX12_springsOf_56 ?_
  refine lv_iconst (v := 5) hx hb dX12_springsOf_59 (by decide) ?_
  refine va_iald hx hb hK hP 1 0 rfl rfl (by unfold vp_in; decide) dX12_springsOf_60 ?_
  refine lv_i2l (v := (f_sky ((5 : Int32).toNatClampNeg)).toInt64) hx hb dX12_springsOf_61 rfl ?_
  have hPc := hP.sub (ws' := []) [] rfl
  have hKc := hK.sub (tys' := []) [] rfl
  refine vp_callSl (W.runS (As := [.long ((r_1 - 1) * ((f_sky ((6 : Int32).toNatClampNeg)).toInt64)), .long ((f_sky ((5 : Int32).toNatClampNeg)).toInt64)]) (rest := [.long r_3]) ⟨hx, hb, hml, hown, htw⟩ (gq_floor l dC dI ((r_1 - 1) * ((f_sky ((6 : Int32).toNatClampNeg)).toInt64)) ((f_sky ((5 : Int32).toNatClampNeg)).toInt64) (xg_nz64 (xs_nz hs5))) (va_cwS 2 htw (xg_S (ck_47 _ (List.mem_of_getElem? (i := 16) rfl)) (ck_47 _ (List.mem_of_getElem? (i := 17) rfl)) (ck_1 _ (List.mem_of_getElem? (i := 5) rfl)) (ck_47 _ (List.mem_of_getElem? (i := 18) rfl))) rfl rfl rfl (by exact ⟨hdc_14.1, hdc_14.2, hdd_4⟩) ⟨Nat.le_of_ble_eq_true rfl, Nat.le_of_ble_eq_true rfl⟩) ⟨fun a U g mk q => by obtain ⟨q0, qP, qK⟩ := q; exact ⟨q0, qP, va_K.moved (u := U) (U := U.calling g mk a) (Vm.Alike.refl U.vm) qK⟩, fun U hU hW => ⟨rfl, by rw [hU]; exact hPc, va_K.moved hW.alike hKc⟩⟩ rfl rfl hl.1 rfl (lv_room (Nat.le_of_ble_eq_true rfl)) dX12_springsOf_62 ⟨Nat.le_of_ble_eq_true rfl, Nat.le_of_ble_eq_true rfl⟩) (fun r_4 hw => ?_)
  try dsimp only at hw
  have hq_r_4 : r_4 = (fq_floor ((r_1 - 1) * ((f_sky ((6 : Int32).toNatClampNeg)).toInt64)) ((f_sky ((5 : Int32).toNatClampNeg)).toInt64)) := hw
  refine lv_lsub hx hb dX12_springsOf_65 ?_
  exact W.lret (v := (r_3 - r_4)) hx hb hr (fun t ht hW => ⟨(r_3 - r_4), rfl, (Eq.symm ((by rw [fq_springsOf]; (try rw [← hq_r_1]); (try rw [xL_eq]); (try rw [← hq_r_2]); (try rw [xL_eq]); (try rw [← hq_r_3]); (try rw [xL_eq]); (try rw [← hq_r_4]); (try rw [xL_eq]); try rfl))), ht⟩) (fun _ h => by cases h) dX12_springsOf_66

def fq_springs (f_sky : Nat → Int32) (f_landHas : Nat → Int32) (a0 : Int32) (a1 : Int32) (m_lands : Int32) : Int64 × (Int32) := (xL ((fq_isLand a0 m_lands)) (fun r_1 => (if r_1 = 0 then ((-1 : Int64), (0 : Int32)) else (xL ((fq_begins f_landHas a0 a1.toInt64)) (fun r_5 => (if r_5 = 0 then ((-1 : Int64), (0 : Int32)) else (xL ((fq_springsOf f_sky f_landHas a0 a1.toInt64)) (fun r_7 => (r_7, (0 : Int32))))))))))
theorem gq_springs_s0 {y0 : Int32} {y1 : Int32} (h0 : ¬ (y0 < 0)) (h1 : y0 < y1) (h2 : ¬ (y1 < 0)) (h3 : y1 ≤ 4) : ¬ (y0 < 0) := h0
theorem gq_springs_s1 {y0 : Int32} {y1 : Int32} (h0 : ¬ (y0 < 0)) (h1 : y0 < y1) (h2 : ¬ (y1 < 0)) (h3 : y1 ≤ 4) : y0 ≤ 7 := by lia
theorem gq_springs_s2 {y0 : Int32} {y1 : Int32} (h0 : ¬ (y0 < 0)) (h1 : y0 < y1) (h2 : ¬ (y1 < 0)) (h3 : y1 ≤ 4) : ¬ (y0 < 0) := h0
theorem gq_springs_s3 {y0 : Int32} {y1 : Int32} (h0 : ¬ (y0 < 0)) (h1 : y0 < y1) (h2 : ¬ (y1 < 0)) (h3 : y1 ≤ 4) : y0 ≤ 7 := by lia
theorem dX12_springs_0 : decode cX12_springs 0 = .ok (.aload_n 0, 1) := zk_42 (by decide +kernel)
theorem dX12_springs_1 : decode cX12_springs 1 = .ok (.iconst 0, 1) := zk_3 (by decide +kernel)
theorem dX12_springs_2 : decode cX12_springs 2 = .ok (.putfield 119, 3) := zk_181 (by decide +kernel)
theorem dX12_springs_5 : decode cX12_springs 5 = .ok (.aload_n 0, 1) := zk_42 (by decide +kernel)
theorem dX12_springs_6 : decode cX12_springs 6 = .ok (.iload_n 1, 1) := zk_27 (by decide +kernel)
theorem dX12_springs_7 : decode cX12_springs 7 = .ok (.invokevirtual 404, 3) := zk_182 (by decide +kernel)
theorem dX12_springs_10 : decode cX12_springs 10 = .ok (.ifCond .eq 23, 3) := zk_153 (by decide +kernel)
theorem dX12_springs_33 : decode cX12_springs 33 = .ok (.ldc2_w 273, 3) := zk_20 (by decide +kernel)
theorem dX12_springs_36 : decode cX12_springs 36 = .ok (.lreturn, 1) := zk_173 (by decide +kernel)
theorem dX12_springs_13 : decode cX12_springs 13 = .ok (.aload_n 0, 1) := zk_42 (by decide +kernel)
theorem dX12_springs_14 : decode cX12_springs 14 = .ok (.iload_n 1, 1) := zk_27 (by decide +kernel)
theorem dX12_springs_15 : decode cX12_springs 15 = .ok (.iload_n 2, 1) := zk_28 (by decide +kernel)
theorem dX12_springs_16 : decode cX12_springs 16 = .ok (.i2l, 1) := zk_133 (by decide +kernel)
theorem dX12_springs_17 : decode cX12_springs 17 = .ok (.invokevirtual 469, 3) := zk_182 (by decide +kernel)
theorem dX12_springs_20 : decode cX12_springs 20 = .ok (.ifCond .eq 13, 3) := zk_153 (by decide +kernel)
theorem dX12_springs_23 : decode cX12_springs 23 = .ok (.aload_n 0, 1) := zk_42 (by decide +kernel)
theorem dX12_springs_24 : decode cX12_springs 24 = .ok (.iload_n 1, 1) := zk_27 (by decide +kernel)
theorem dX12_springs_25 : decode cX12_springs 25 = .ok (.iload_n 2, 1) := zk_28 (by decide +kernel)
theorem dX12_springs_26 : decode cX12_springs 26 = .ok (.i2l, 1) := zk_133 (by decide +kernel)
theorem dX12_springs_27 : decode cX12_springs 27 = .ok (.invokevirtual 472, 3) := zk_182 (by decide +kernel)
theorem dX12_springs_30 : decode cX12_springs 30 = .ok (.goto 6, 3) := zk_167 (by decide +kernel)
set_option maxHeartbeats 4000000 in
set_option maxRecDepth 100000 in
theorem gq_springs (l : Launch) (dC : Nat → ClassId) (dI : Nat → Nat → Nat) (mq : Nat) (g : Nat → Int32) (gl : Nat → Int64) (rf : Nat → Nat) (ck : Nat → ClassId) (f_sky : Nat → Int32) (f_landHas : Nat → Int32) (a0 : Int32) (a1 : Int32) (sz : Nat) (hln0 : ¬ (g 12) < 0) (hln4 : (g 12) ≤ 4) (hs5 : ¬ (f_sky 5) < 1) : Met l yX12_springs (Cond.code yX12_springs cX12_springs 3 (some .long) :: wsL_law) ({ frames := 4, cells := 0, slots := 0, locals := 92 }) (va_Pc [.ref mq, .int a0, .int a1] (fun U => U.heap.size = sz ∧ va_P (dC, dI) vwCl [(mq, .inr (12, mF g gl rf)), (eA0 (rf 24) (ck 24) 14 f_sky), (eA0 (rf 29) (ck 29) 24 f_landHas)] U.heap ∧ va_K (dC, dI) vwCl [((ck 24), .int), ((ck 29), .int)] U ∧ va_D (fun _ => True) [(mq, .inr (12, mF g gl rf)), (eA0 (rf 24) (ck 24) 14 f_sky), (eA0 (rf 29) (ck 29) 24 f_landHas)])) (va_Ql (fun (r : Int64) (u : (Int32)) => r = (fq_springs f_sky f_landHas a0 a1 (g 12)).1 ∧ u = (fq_springs f_sky f_landHas a0 a1 (g 12)).2) (fun (u : (Int32)) t => va_P (dC, dI) vwCl [(mq, .inr (12, mF (upd g 2 u) gl rf)), (eA0 (rf 24) (ck 24) 14 f_sky), (eA0 (rf 29) (ck 29) 24 f_landHas)] t.heap ∧ va_K (dC, dI) vwCl [] t ∧ va_D (va_A [(mq, .inr (12, mF g gl rf)), (eA0 (rf 24) (ck 24) 14 f_sky), (eA0 (rf 29) (ck 29) 24 f_landHas)] sz) [(mq, .inr (12, mF (upd g 2 u) gl rf)), (eA0 (rf 24) (ck 24) 14 f_sky), (eA0 (rf 29) (ck 29) 24 f_landHas)]) (va_A [(mq, .inr (12, mF g gl rf)), (eA0 (rf 24) (ck 24) 14 f_sky), (eA0 (rf 29) (ck 29) 24 f_landHas)] sz)) 0 0 (va_A [(mq, .inr (12, mF g gl rf)), (eA0 (rf 24) (ck 24) 14 f_sky), (eA0 (rf 29) (ck 29) 24 f_landHas)] sz) := by
  refine Met.ofW (cc := cX12_springs) (maxL := 3) (ret := (some .long)) (by decide) rfl ?_
  intro p e s m args below meth c s₁ B hml hv
  obtain ⟨rfl, hsz, hP, hK, hD0⟩ := hv
  have hx := B.exec
  have hb := B.bytes
  have hr := B.returns
  have hts := atoms_spec (ws := Cond.code yX12_springs cX12_springs 3 (some .long) :: wsL_law) B.pre
  have htw : ∀ w ∈ wsL_law, w.before _ s = true := fun w h => hts w (List.mem_cons_of_mem _ h)
  have hown : s.vm.findClass RX12 = some m.cls := findClass_of_methodNamed B.named
  have hlocks := B.notSynchronized
  subst hsz
  have hD := hD0.self (sz := s.heap.size)
  generalize hAe : va_A [(mq, .inr (12, mF g gl rf)), (eA0 (rf 24) (ck 24) 14 f_sky), (eA0 (rf 29) (ck 29) 24 f_landHas)] s.heap.size = A at hD ⊢
  have hA : ∀ q : Nat, s.heap.size ≤ q → A q := fun q h => by rw [← hAe]; exact Or.inr h
  obtain ⟨H, rH⟩ : ∃ z : Heap, z = s.heap := ⟨_, rfl⟩
  have hS : va_S A s.heap H [] := by rw [rH]; exact va_S.rf
  have hP : va_P (dC, dI) vwCl [(mq, .inr (12, mF g gl rf)), (eA0 (rf 24) (ck 24) 14 f_sky), (eA0 (rf 29) (ck 29) 24 f_landHas)] H := by rw [rH]; exact hP
  rw [← rH]
  have hl := lv_entry ([.ref mq, .int a0, .int a1]) (n := 3) (Nat.le_of_ble_eq_true rfl)
  rw [lg_entry_eq]
  generalize (lg_sl ([.ref mq, .int a0, .int a1]) ++ List.replicate (3 - (lg_sl ([.ref mq, .int a0, .int a1])).length) Slot.unset).toArray = ls at hl ⊢
  have hl : lv_has ls 3 [(0, .ref mq), (1, .int a0), (2, .int a1)] := hl
  refine lv_aload_n hx hb dX12_springs_0 rfl (lv_at hl 0 rfl) ?_
  refine lv_iconst (v := 0) hx hb dX12_springs_1 (by decide) ?_
  refine va_put (D := (dC, dI)) (ci := 12) (v := .int 0) (ty := tyX12 2) (C := RX12) (T := TX12) (N := 76) hx hb htw inlX12 tyX12 tyX12_ok nmX12 hown hK hP hD hS 0 rfl rfl 2 (by decide) (htw _ (ck_12 _ (List.mem_of_getElem? (i := 16) rfl))) (fun _ h9 => h9) rfl (tyX12_ok 2 (by decide)) rfl rfl (Nat.le_of_ble_eq_true rfl) dX12_springs_2 (fun H locs hP hD hS => ?_)
  obtain ⟨hP, hD⟩ := zre [(mq, .inr (12, mF (upd g 2 0) gl rf)), (eA0 (rf 24) (ck 24) 14 f_sky), (eA0 (rf 29) (ck 29) 24 f_landHas)] hP hD rfl
  refine lv_aload_n hx hb dX12_springs_5 rfl (lv_at hl 0 rfl) ?_
  refine lv_iload_n hx hb dX12_springs_6 rfl (lv_at hl 1 rfl) ?_
  have hPc := hP.sub (ws' := [(mq, .inr (12, mF (upd g 2 0) gl rf))]) [0] rfl
  have hKc := hK.sub (tys' := []) [] rfl
  refine vp_callSi (W.runV (As := [.int a0]) (rest := []) ⟨hx, hb, hml, hown, htw⟩ (gq_isLand l dC dI mq (upd g 2 0) gl rf a0) (cwV 1 htw (xg_V (ck_34 _ (List.mem_of_getElem? (i := 2) rfl)) (ck_34 _ (List.mem_of_getElem? (i := 3) rfl)) (ck_34 _ (List.mem_of_getElem? (i := 4) rfl)) (ck_1 _ (List.mem_of_getElem? (i := 5) rfl)) (ck_34 _ (List.mem_of_getElem? (i := 5) rfl))) rfl rfl rfl (by exact ⟨rfl, hdc_14.1, hdc_14.2, hdd_26⟩) ⟨Nat.le_of_ble_eq_true rfl, Nat.le_of_ble_eq_true rfl⟩) ⟨fun a U g mk q => by obtain ⟨q0, qP, qK⟩ := q; exact ⟨q0, qP, va_K.moved (u := U) (U := U.calling g mk a) (Vm.Alike.refl U.vm) qK⟩, va_recv hKc hPc (ci := 12) (q0 := 0) rfl rfl, fun U hU hW => ⟨rfl, by rw [hU]; exact hPc, va_K.moved hW.alike hKc⟩⟩ rfl rfl hl.1 rfl (lv_room (Nat.le_of_ble_eq_true rfl)) dX12_springs_7 ⟨Nat.le_of_ble_eq_true rfl, Nat.le_of_ble_eq_true rfl⟩) (fun r_1 hw => ?_)
  try dsimp only at hw
  obtain ⟨hw, hb_r_1, hp_2, hp_3⟩ := hw
  have hq_r_1 : r_1 = (fq_isLand a0 (g 12)) := hw
  refine lv_if_eq (tgt := 33) hx hb dX12_springs_10 (by decide) (fun c_4 => ?_) (fun c_4 => ?_)
  · refine lv_ldc2 (v := (-1)) hx hb hown (htw _ (ck_29 _ (List.mem_of_getElem? (i := 13) rfl))) dX12_springs_33 ?_
    refine W.widen (k := 0) (n := 0) (by omega) (by omega) ?_
    have hP9 := hP
    have hD9 := hD
    have hK9 := hK.sub (tys' := []) [] rfl
    exact W.lret (v := (-1)) hx hb hr (fun t ht hW => ⟨⟨(-1), 0, rfl, ((fun e9 => ⟨by rw [e9], by rw [e9]⟩ : fq_springs f_sky f_landHas a0 a1 (g 12) = ((-1 : Int64), (0 : Int32)) → _) ((by rw [fq_springs]; (try rw [← hq_r_1]); (try rw [xL_eq]); (try rw [if_pos c_4]); try rfl))), by rw [ht]; exact hP9, va_K.moved hW.alike hK9, hD9⟩, hS.F ht⟩) hS.2.2 dX12_springs_36
  · refine lv_aload_n hx hb dX12_springs_13 rfl (lv_at hl 0 rfl) ?_
    refine lv_iload_n hx hb dX12_springs_14 rfl (lv_at hl 1 rfl) ?_
    refine lv_iload_n hx hb dX12_springs_15 rfl (lv_at hl 2 rfl) ?_
    refine lv_i2l (v := a1.toInt64) hx hb dX12_springs_16 rfl ?_
    have hPc := hP.sub (ws' := [(mq, .inr (12, mF (upd g 2 0) gl rf)), (eA0 (rf 29) (ck 29) 24 f_landHas)]) [0, 2] rfl
    have hKc := hK.sub (tys' := [((ck 29), .int)]) [1] rfl
    refine vp_callSi (W.runV (As := [.int a0, .long a1.toInt64]) (rest := []) ⟨hx, hb, hml, hown, htw⟩ (gq_begins l dC dI mq (upd g 2 0) gl rf ck f_landHas a0 a1.toInt64 (gq_springs_s0 (y0 := a0) (y1 := g 12) (hp_2.resolve_left c_4) (hp_3.resolve_left c_4) hln0 hln4) (gq_springs_s1 (y0 := a0) (y1 := g 12) (hp_2.resolve_left c_4) (hp_3.resolve_left c_4) hln0 hln4)) (cwV 2 htw (xg_V (ck_47 _ (List.mem_of_getElem? (i := 8) rfl)) (ck_47 _ (List.mem_of_getElem? (i := 9) rfl)) (ck_47 _ (List.mem_of_getElem? (i := 10) rfl)) (ck_1 _ (List.mem_of_getElem? (i := 5) rfl)) (ck_47 _ (List.mem_of_getElem? (i := 11) rfl))) rfl rfl rfl (by exact ⟨rfl, hdc_14.1, hdc_14.2, hdd_42⟩) ⟨Nat.le_of_ble_eq_true rfl, Nat.le_of_ble_eq_true rfl⟩) ⟨fun a U g mk q => by obtain ⟨q0, qP, qK⟩ := q; exact ⟨q0, qP, va_K.moved (u := U) (U := U.calling g mk a) (Vm.Alike.refl U.vm) qK⟩, va_recv hKc hPc (ci := 12) (q0 := 0) rfl rfl, fun U hU hW => ⟨rfl, by rw [hU]; exact hPc, va_K.moved hW.alike hKc⟩⟩ rfl rfl hl.1 rfl (lv_room (Nat.le_of_ble_eq_true rfl)) dX12_springs_17 ⟨Nat.le_of_ble_eq_true rfl, Nat.le_of_ble_eq_true rfl⟩) (fun r_5 hw => ?_)
    try dsimp only at hw
    obtain ⟨hw, hb_r_5⟩ := hw
    have hq_r_5 : r_5 = (fq_begins f_landHas a0 a1.toInt64) := hw
    refine lv_if_eq (tgt := 33) hx hb dX12_springs_20 (by decide) (fun c_6 => ?_) (fun c_6 => ?_)
    · refine lv_ldc2 (v := (-1)) hx hb hown (htw _ (ck_29 _ (List.mem_of_getElem? (i := 13) rfl))) dX12_springs_33 ?_
      refine W.widen (k := 0) (n := 0) (by omega) (by omega) ?_
      have hP9 := hP
      have hD9 := hD
      have hK9 := hK.sub (tys' := []) [] rfl
      exact W.lret (v := (-1)) hx hb hr (fun t ht hW => ⟨⟨(-1), 0, rfl, ((fun e9 => ⟨by rw [e9], by rw [e9]⟩ : fq_springs f_sky f_landHas a0 a1 (g 12) = ((-1 : Int64), (0 : Int32)) → _) ((by rw [fq_springs]; (try rw [← hq_r_1]); (try rw [xL_eq]); (try rw [if_neg c_4]); (try rw [← hq_r_5]); (try rw [xL_eq]); (try rw [if_pos c_6]); try rfl))), by rw [ht]; exact hP9, va_K.moved hW.alike hK9, hD9⟩, hS.F ht⟩) hS.2.2 dX12_springs_36
    · refine lv_aload_n hx hb dX12_springs_23 rfl (lv_at hl 0 rfl) ?_
      refine lv_iload_n hx hb dX12_springs_24 rfl (lv_at hl 1 rfl) ?_
      refine lv_iload_n hx hb dX12_springs_25 rfl (lv_at hl 2 rfl) ?_
      refine lv_i2l (v := a1.toInt64) hx hb dX12_springs_26 rfl ?_
      have hPc := hP.sub (ws' := [(mq, .inr (12, mF (upd g 2 0) gl rf)), (eA0 (rf 24) (ck 24) 14 f_sky), (eA0 (rf 29) (ck 29) 24 f_landHas)]) [0, 1, 2] rfl
      have hKc := hK.sub (tys' := [((ck 24), .int), ((ck 29), .int)]) [0, 1] rfl
      refine vp_callSl (W.runV (As := [.int a0, .long a1.toInt64]) (rest := []) ⟨hx, hb, hml, hown, htw⟩ (gq_springsOf l dC dI mq (upd g 2 0) gl rf ck f_sky f_landHas a0 a1.toInt64 (gq_springs_s2 (y0 := a0) (y1 := g 12) (hp_2.resolve_left c_4) (hp_3.resolve_left c_4) hln0 hln4) (gq_springs_s3 (y0 := a0) (y1 := g 12) (hp_2.resolve_left c_4) (hp_3.resolve_left c_4) hln0 hln4) hs5) (cwV 2 htw (xg_V (ck_47 _ (List.mem_of_getElem? (i := 12) rfl)) (ck_47 _ (List.mem_of_getElem? (i := 13) rfl)) (ck_47 _ (List.mem_of_getElem? (i := 14) rfl)) (ck_1 _ (List.mem_of_getElem? (i := 5) rfl)) (ck_47 _ (List.mem_of_getElem? (i := 15) rfl))) rfl rfl rfl (by exact ⟨rfl, hdc_14.1, hdc_14.2, hdd_41⟩) ⟨Nat.le_of_ble_eq_true rfl, Nat.le_of_ble_eq_true rfl⟩) ⟨fun a U g mk q => by obtain ⟨q0, qP, qK⟩ := q; exact ⟨q0, qP, va_K.moved (u := U) (U := U.calling g mk a) (Vm.Alike.refl U.vm) qK⟩, va_recv hKc hPc (ci := 12) (q0 := 0) rfl rfl, fun U hU hW => ⟨rfl, by rw [hU]; exact hPc, va_K.moved hW.alike hKc⟩⟩ rfl rfl hl.1 rfl (lv_room (Nat.le_of_ble_eq_true rfl)) dX12_springs_27 ⟨Nat.le_of_ble_eq_true rfl, Nat.le_of_ble_eq_true rfl⟩) (fun r_7 hw => ?_)
      try dsimp only at hw
      have hq_r_7 : r_7 = (fq_springsOf f_sky f_landHas a0 a1.toInt64) := hw
      refine lv_goto (tgt := 36) hx hb dX12_springs_30 (by decide) ?_
      refine W.widen (k := 0) (n := 0) (by omega) (by omega) ?_
      have hP9 := hP
      have hD9 := hD
      have hK9 := hK.sub (tys' := []) [] rfl
      exact W.lret (v := r_7) hx hb hr (fun t ht hW => ⟨⟨r_7, 0, rfl, ((fun e9 => ⟨by rw [e9], by rw [e9]⟩ : fq_springs f_sky f_landHas a0 a1 (g 12) = (r_7, (0 : Int32)) → _) ((by rw [fq_springs]; (try rw [← hq_r_1]); (try rw [xL_eq]); (try rw [if_neg c_4]); (try rw [← hq_r_5]); (try rw [xL_eq]); (try rw [if_neg c_6]); (try rw [← hq_r_7]); (try rw [xL_eq]); try rfl))), by rw [ht]; exact hP9, va_K.moved hW.alike hK9, hD9⟩, hS.F ht⟩) hS.2.2 dX12_springs_36

def fq_many_d (f_sky : Nat → Int32) (f_landHas : Nat → Int32) (a0 : Int32) (a1 : Int32) (a2 : Int32) : Nat → (Int64) → Int32 × (Int32)
  | 0, L4d => ((-2 : Int32), (0 : Int32))
  | n + 1, L4d => (if 0 ≤ lg_cmp L4d (a1.toInt64 + 1000) then ((-2 : Int32), (0 : Int32)) else (xL ((fq_begins f_landHas a0 L4d)) (fun r_14 => (if r_14 = 0 then ((-2 : Int32), (0 : Int32)) else (xL ((fq_springsOf f_sky f_landHas a0 L4d)) (fun r_16 => (if lg_cmp r_16 a2.toInt64 = 0 then (L4d.toInt32, (0 : Int32)) else fq_many_d f_sky f_landHas a0 a1 a2 n (L4d + 1))))))))
def fq_many (f_sky : Nat → Int32) (f_landHas : Nat → Int32) (a0 : Int32) (a1 : Int32) (a2 : Int32) (m_lands : Int32) : Int32 × (Int32) := (xL ((fq_isLand a0 m_lands)) (fun r_1 => (if r_1 = 0 then ((-1 : Int32), (0 : Int32)) else (xL ((fq_isIn a2 (0 : Int32) (99 : Int32))) (fun r_5 => (if r_5 = 0 then ((-1 : Int32), (0 : Int32)) else (xL ((fq_begins f_landHas a0 a1.toInt64)) (fun r_9 => (if r_9 = 0 then ((-1 : Int32), (0 : Int32)) else fq_many_d f_sky f_landHas a0 a1 a2 1000 a1.toInt64)))))))))
theorem gq_many_s0 {y0 : Int32} {y1 : Int32} (h0 : ¬ (y0 < 0)) (h1 : y0 < y1) (h2 : ¬ (y1 < 0)) (h3 : y1 ≤ 4) : ¬ (y0 < 0) := h0
theorem gq_many_s1 {y0 : Int32} {y1 : Int32} (h0 : ¬ (y0 < 0)) (h1 : y0 < y1) (h2 : ¬ (y1 < 0)) (h3 : y1 ≤ 4) : y0 ≤ 7 := by lia
theorem gq_many_s2 {y0 : Int32} {y1 : Int32} (h0 : ¬ (y0 < 0)) (h1 : y0 < y1) (h2 : ¬ (y1 < 0)) (h3 : y1 ≤ 4) : ¬ (y0 < 0) := h0
theorem gq_many_s3 {y0 : Int32} {y1 : Int32} (h0 : ¬ (y0 < 0)) (h1 : y0 < y1) (h2 : ¬ (y1 < 0)) (h3 : y1 ≤ 4) : y0 ≤ 7 := by lia
theorem gq_many_s4 {y0 : Int32} {y1 : Int32} (h0 : ¬ (y0 < 0)) (h1 : y0 < y1) (h2 : ¬ (y1 < 0)) (h3 : y1 ≤ 4) : ¬ (y0 < 0) := h0
theorem gq_many_s5 {y0 : Int32} {y1 : Int32} (h0 : ¬ (y0 < 0)) (h1 : y0 < y1) (h2 : ¬ (y1 < 0)) (h3 : y1 ≤ 4) : y0 ≤ 7 := by lia
theorem dX12_many_0 : decode cX12_many 0 = .ok (.aload_n 0, 1) := zk_42 (by decide +kernel)
theorem dX12_many_1 : decode cX12_many 1 = .ok (.iconst 0, 1) := zk_3 (by decide +kernel)
theorem dX12_many_2 : decode cX12_many 2 = .ok (.putfield 119, 3) := zk_181 (by decide +kernel)
theorem dX12_many_5 : decode cX12_many 5 = .ok (.aload_n 0, 1) := zk_42 (by decide +kernel)
theorem dX12_many_6 : decode cX12_many 6 = .ok (.iload_n 1, 1) := zk_27 (by decide +kernel)
theorem dX12_many_7 : decode cX12_many 7 = .ok (.invokevirtual 404, 3) := zk_182 (by decide +kernel)
theorem dX12_many_10 : decode cX12_many 10 = .ok (.ifCond .eq 23, 3) := zk_153 (by decide +kernel)
theorem dX12_many_33 : decode cX12_many 33 = .ok (.iconst (-1), 1) := zk_2 (by decide +kernel)
theorem dX12_many_34 : decode cX12_many 34 = .ok (.ireturn, 1) := zk_172 (by decide +kernel)
theorem dX12_many_13 : decode cX12_many 13 = .ok (.iload_n 3, 1) := zk_29 (by decide +kernel)
theorem dX12_many_14 : decode cX12_many 14 = .ok (.iconst 0, 1) := zk_3 (by decide +kernel)
theorem dX12_many_15 : decode cX12_many 15 = .ok (.bipush 99, 2) := zk_16 (by decide +kernel)
theorem dX12_many_17 : decode cX12_many 17 = .ok (.invokestatic 166, 3) := zk_184 (by decide +kernel)
theorem dX12_many_20 : decode cX12_many 20 = .ok (.ifCond .eq 13, 3) := zk_153 (by decide +kernel)
theorem dX12_many_23 : decode cX12_many 23 = .ok (.aload_n 0, 1) := zk_42 (by decide +kernel)
theorem dX12_many_24 : decode cX12_many 24 = .ok (.iload_n 1, 1) := zk_27 (by decide +kernel)
theorem dX12_many_25 : decode cX12_many 25 = .ok (.iload_n 2, 1) := zk_28 (by decide +kernel)
theorem dX12_many_26 : decode cX12_many 26 = .ok (.i2l, 1) := zk_133 (by decide +kernel)
theorem dX12_many_27 : decode cX12_many 27 = .ok (.invokevirtual 469, 3) := zk_182 (by decide +kernel)
theorem dX12_many_30 : decode cX12_many 30 = .ok (.ifCond .ne 5, 3) := zk_154 (by decide +kernel)
theorem dX12_many_35 : decode cX12_many 35 = .ok (.iload_n 2, 1) := zk_28 (by decide +kernel)
theorem dX12_many_36 : decode cX12_many 36 = .ok (.i2l, 1) := zk_133 (by decide +kernel)
theorem dX12_many_37 : decode cX12_many 37 = .ok (.lstore 4, 2) := zk_55 (by decide +kernel)
theorem dX12_many_39 : decode cX12_many 39 = .ok (.lload 4, 2) := zk_22 (by decide +kernel)
theorem dX12_many_41 : decode cX12_many 41 = .ok (.iload_n 2, 1) := zk_28 (by decide +kernel)
theorem dX12_many_42 : decode cX12_many 42 = .ok (.i2l, 1) := zk_133 (by decide +kernel)
theorem dX12_many_43 : decode cX12_many 43 = .ok (.ldc2_w 475, 3) := zk_20 (by decide +kernel)
theorem dX12_many_46 : decode cX12_many 46 = .ok (.ladd, 1) := zk_97 (by decide +kernel)
theorem dX12_many_47 : decode cX12_many 47 = .ok (.lcmp, 1) := zk_148 (by decide +kernel)
theorem dX12_many_48 : decode cX12_many 48 = .ok (.ifCond .ge 39, 3) := zk_156 (by decide +kernel)
theorem dX12_many_87 : decode cX12_many 87 = .ok (.bipush (-2), 2) := zk_16 (by decide +kernel)
theorem dX12_many_89 : decode cX12_many 89 = .ok (.ireturn, 1) := zk_172 (by decide +kernel)
theorem dX12_many_51 : decode cX12_many 51 = .ok (.aload_n 0, 1) := zk_42 (by decide +kernel)
theorem dX12_many_52 : decode cX12_many 52 = .ok (.iload_n 1, 1) := zk_27 (by decide +kernel)
theorem dX12_many_53 : decode cX12_many 53 = .ok (.lload 4, 2) := zk_22 (by decide +kernel)
theorem dX12_many_55 : decode cX12_many 55 = .ok (.invokevirtual 469, 3) := zk_182 (by decide +kernel)
theorem dX12_many_58 : decode cX12_many 58 = .ok (.ifCond .eq 29, 3) := zk_153 (by decide +kernel)
theorem dX12_many_61 : decode cX12_many 61 = .ok (.aload_n 0, 1) := zk_42 (by decide +kernel)
theorem dX12_many_62 : decode cX12_many 62 = .ok (.iload_n 1, 1) := zk_27 (by decide +kernel)
theorem dX12_many_63 : decode cX12_many 63 = .ok (.lload 4, 2) := zk_22 (by decide +kernel)
theorem dX12_many_65 : decode cX12_many 65 = .ok (.invokevirtual 472, 3) := zk_182 (by decide +kernel)
theorem dX12_many_68 : decode cX12_many 68 = .ok (.iload_n 3, 1) := zk_29 (by decide +kernel)
theorem dX12_many_69 : decode cX12_many 69 = .ok (.i2l, 1) := zk_133 (by decide +kernel)
theorem dX12_many_70 : decode cX12_many 70 = .ok (.lcmp, 1) := zk_148 (by decide +kernel)
theorem dX12_many_71 : decode cX12_many 71 = .ok (.ifCond .ne 7, 3) := zk_154 (by decide +kernel)
theorem dX12_many_78 : decode cX12_many 78 = .ok (.lload 4, 2) := zk_22 (by decide +kernel)
theorem dX12_many_80 : decode cX12_many 80 = .ok (.lconst 1, 1) := zk_10 (by decide +kernel)
theorem dX12_many_81 : decode cX12_many 81 = .ok (.ladd, 1) := zk_97 (by decide +kernel)
theorem dX12_many_82 : decode cX12_many 82 = .ok (.lstore 4, 2) := zk_55 (by decide +kernel)
theorem dX12_many_84 : decode cX12_many 84 = .ok (.goto (-45), 3) := zk_167 (by decide +kernel)
theorem dX12_many_74 : decode cX12_many 74 = .ok (.lload 4, 2) := zk_22 (by decide +kernel)
theorem dX12_many_76 : decode cX12_many 76 = .ok (.l2i, 1) := zk_136 (by decide +kernel)
theorem dX12_many_77 : decode cX12_many 77 = .ok (.ireturn, 1) := zk_172 (by decide +kernel)
set_option maxHeartbeats 4000000 in
set_option maxRecDepth 100000 in
theorem gq_many (l : Launch) (dC : Nat → ClassId) (dI : Nat → Nat → Nat) (mq : Nat) (g : Nat → Int32) (gl : Nat → Int64) (rf : Nat → Nat) (ck : Nat → ClassId) (f_sky : Nat → Int32) (f_landHas : Nat → Int32) (a0 : Int32) (a1 : Int32) (a2 : Int32) (sz : Nat) (hln0 : ¬ (g 12) < 0) (hln4 : (g 12) ≤ 4) (hs5 : ¬ (f_sky 5) < 1) : Met l yX12_many (Cond.code yX12_many cX12_many 6 (some .int) :: wsL_law) ({ frames := 4, cells := 0, slots := 0, locals := 92 }) (va_Pc [.ref mq, .int a0, .int a1, .int a2] (fun U => U.heap.size = sz ∧ va_P (dC, dI) vwCl [(mq, .inr (12, mF g gl rf)), (eA0 (rf 24) (ck 24) 14 f_sky), (eA0 (rf 29) (ck 29) 24 f_landHas)] U.heap ∧ va_K (dC, dI) vwCl [((ck 24), .int), ((ck 29), .int)] U ∧ va_D (fun _ => True) [(mq, .inr (12, mF g gl rf)), (eA0 (rf 24) (ck 24) 14 f_sky), (eA0 (rf 29) (ck 29) 24 f_landHas)])) (va_Qi (fun (r : Int32) (u : (Int32)) => r = (fq_many f_sky f_landHas a0 a1 a2 (g 12)).1 ∧ u = (fq_many f_sky f_landHas a0 a1 a2 (g 12)).2) (fun (u : (Int32)) t => va_P (dC, dI) vwCl [(mq, .inr (12, mF (upd g 2 u) gl rf)), (eA0 (rf 24) (ck 24) 14 f_sky), (eA0 (rf 29) (ck 29) 24 f_landHas)] t.heap ∧ va_K (dC, dI) vwCl [] t ∧ va_D (va_A [(mq, .inr (12, mF g gl rf)), (eA0 (rf 24) (ck 24) 14 f_sky), (eA0 (rf 29) (ck 29) 24 f_landHas)] sz) [(mq, .inr (12, mF (upd g 2 u) gl rf)), (eA0 (rf 24) (ck 24) 14 f_sky), (eA0 (rf 29) (ck 29) 24 f_landHas)]) (va_A [(mq, .inr (12, mF g gl rf)), (eA0 (rf 24) (ck 24) 14 f_sky), (eA0 (rf 29) (ck 29) 24 f_landHas)] sz)) 0 0 (va_A [(mq, .inr (12, mF g gl rf)), (eA0 (rf 24) (ck 24) 14 f_sky), (eA0 (rf 29) (ck 29) 24 f_landHas)] sz) := by
  refine Met.ofW (cc := cX12_many) (maxL := 6) (ret := (some .int)) (by decide) rfl ?_
  intro p e s m args below meth c s₁ B hml hv
  obtain ⟨rfl, hsz, hP, hK, hD0⟩ := hv
  have hx := B.exec
  have hb := B.bytes
  have hr := B.returns
  have hts := atoms_spec (ws := Cond.code yX12_many cX12_many 6 (some .int) :: wsL_law) B.pre
  have htw : ∀ w ∈ wsL_law, w.before _ s = true := fun w h => hts w (List.mem_cons_of_mem _ h)
  have hown : s.vm.findClass RX12 = some m.cls := findClass_of_methodNamed B.named
  have hlocks := B.notSynchronized
  subst hsz
  have hD := hD0.self (sz := s.heap.size)
  generalize hAe : va_A [(mq, .inr (12, mF g gl rf)), (eA0 (rf 24) (ck 24) 14 f_sky), (eA0 (rf 29) (ck 29) 24 f_landHas)] s.heap.size = A at hD ⊢
  have hA : ∀ q : Nat, s.heap.size ≤ q → A q := fun q h => by rw [← hAe]; exact Or.inr h
  obtain ⟨H, rH⟩ : ∃ z : Heap, z = s.heap := ⟨_, rfl⟩
  have hS : va_S A s.heap H [] := by rw [rH]; exact va_S.rf
  have hP : va_P (dC, dI) vwCl [(mq, .inr (12, mF g gl rf)), (eA0 (rf 24) (ck 24) 14 f_sky), (eA0 (rf 29) (ck 29) 24 f_landHas)] H := by rw [rH]; exact hP
  rw [← rH]
  have hl := lv_entry ([.ref mq, .int a0, .int a1, .int a2]) (n := 6) (Nat.le_of_ble_eq_true rfl)
  rw [lg_entry_eq]
  generalize (lg_sl ([.ref mq, .int a0, .int a1, .int a2]) ++ List.replicate (6 - (lg_sl ([.ref mq, .int a0, .int a1, .int a2])).length) Slot.unset).toArray = ls at hl ⊢
  have hl : lv_has ls 6 [(0, .ref mq), (1, .int a0), (2, .int a1), (3, .int a2)] := hl
  refine lv_aload_n hx hb dX12_many_0 rfl (lv_at hl 0 rfl) ?_
  refine lv_iconst (v := 0) hx hb dX12_many_1 (by decide) ?_
  refine va_put (D := (dC, dI)) (ci := 12) (v := .int 0) (ty := tyX12 2) (C := RX12) (T := TX12) (N := 76) hx hb htw inlX12 tyX12 tyX12_ok nmX12 hown hK hP hD hS 0 rfl rfl 2 (by decide) (htw _ (ck_12 _ (List.mem_of_getElem? (i := 16) rfl))) (fun _ h9 => h9) rfl (tyX12_ok 2 (by decide)) rfl rfl (Nat.le_of_ble_eq_true rfl) dX12_many_2 (fun H locs hP hD hS => ?_)
  obtain ⟨hP, hD⟩ := zre [(mq, .inr (12, mF (upd g 2 0) gl rf)), (eA0 (rf 24) (ck 24) 14 f_sky), (eA0 (rf 29) (ck 29) 24 f_landHas)] hP hD rfl
  refine lv_aload_n hx hb dX12_many_5 rfl (lv_at hl 0 rfl) ?_
  refine lv_iload_n hx hb dX12_many_6 rfl (lv_at hl 1 rfl) ?_
  have hPc := hP.sub (ws' := [(mq, .inr (12, mF (upd g 2 0) gl rf))]) [0] rfl
  have hKc := hK.sub (tys' := []) [] rfl
  refine vp_callSi (W.runV (As := [.int a0]) (rest := []) ⟨hx, hb, hml, hown, htw⟩ (gq_isLand l dC dI mq (upd g 2 0) gl rf a0) (cwV 1 htw (xg_V (ck_34 _ (List.mem_of_getElem? (i := 2) rfl)) (ck_34 _ (List.mem_of_getElem? (i := 3) rfl)) (ck_34 _ (List.mem_of_getElem? (i := 4) rfl)) (ck_1 _ (List.mem_of_getElem? (i := 5) rfl)) (ck_34 _ (List.mem_of_getElem? (i := 5) rfl))) rfl rfl rfl (by exact ⟨rfl, hdc_14.1, hdc_14.2, hdd_26⟩) ⟨Nat.le_of_ble_eq_true rfl, Nat.le_of_ble_eq_true rfl⟩) ⟨fun a U g mk q => by obtain ⟨q0, qP, qK⟩ := q; exact ⟨q0, qP, va_K.moved (u := U) (U := U.calling g mk a) (Vm.Alike.refl U.vm) qK⟩, va_recv hKc hPc (ci := 12) (q0 := 0) rfl rfl, fun U hU hW => ⟨rfl, by rw [hU]; exact hPc, va_K.moved hW.alike hKc⟩⟩ rfl rfl hl.1 rfl (lv_room (Nat.le_of_ble_eq_true rfl)) dX12_many_7 ⟨Nat.le_of_ble_eq_true rfl, Nat.le_of_ble_eq_true rfl⟩) (fun r_1 hw => ?_)
  try dsimp only at hw
  obtain ⟨hw, hb_r_1, hp_2, hp_3⟩ := hw
  have hq_r_1 : r_1 = (fq_isLand a0 (g 12)) := hw
  refine lv_if_eq (tgt := 33) hx hb dX12_many_10 (by decide) (fun c_4 => ?_) (fun c_4 => ?_)
  · refine lv_iconst (v := (-1)) hx hb dX12_many_33 (by decide) ?_
    refine W.widen (k := 0) (n := 0) (by omega) (by omega) ?_
    have hP9 := hP
    have hD9 := hD
    have hK9 := hK.sub (tys' := []) [] rfl
    exact W.iret (v := (-1)) hx hb hr (fun t ht hW => ⟨⟨(-1), 0, rfl, ((fun e9 => ⟨by rw [e9], by rw [e9]⟩ : fq_many f_sky f_landHas a0 a1 a2 (g 12) = ((-1 : Int32), (0 : Int32)) → _) ((by rw [fq_many]; (try rw [← hq_r_1]); (try rw [xL_eq]); (try rw [if_pos c_4]); try rfl))), by rw [ht]; exact hP9, va_K.moved hW.alike hK9, hD9⟩, hS.F ht⟩) hS.2.2 dX12_many_34
  · refine lv_iload_n hx hb dX12_many_13 rfl (lv_at hl 3 rfl) ?_
    refine lv_iconst (v := 0) hx hb dX12_many_14 (by decide) ?_
    refine lv_bipush (v := 99) hx hb dX12_many_15 (by decide) ?_
    have hPc := hP.sub (ws' := []) [] rfl
    have hKc := hK.sub (tys' := []) [] rfl
    refine vp_callSi (W.runS (As := [.int a2, .int 0, .int 99]) (rest := []) ⟨hx, hb, hml, hown, htw⟩ (gq_isIn l dC dI a2 (0 : Int32) (99 : Int32)) (va_cwS 3 htw (xg_S (ck_26 _ (List.mem_of_getElem? (i := 17) rfl)) (ck_26 _ (List.mem_of_getElem? (i := 18) rfl)) (ck_1 _ (List.mem_of_getElem? (i := 5) rfl)) (ck_26 _ (List.mem_of_getElem? (i := 19) rfl))) rfl rfl rfl (by exact ⟨hdc_14.1, hdc_14.2, hdd_38⟩) ⟨Nat.le_of_ble_eq_true rfl, Nat.le_of_ble_eq_true rfl⟩) ⟨fun a U g mk q => by obtain ⟨q0, qP, qK⟩ := q; exact ⟨q0, qP, va_K.moved (u := U) (U := U.calling g mk a) (Vm.Alike.refl U.vm) qK⟩, fun U hU hW => ⟨rfl, by rw [hU]; exact hPc, va_K.moved hW.alike hKc⟩⟩ rfl rfl hl.1 rfl (lv_room (Nat.le_of_ble_eq_true rfl)) dX12_many_17 ⟨Nat.le_of_ble_eq_true rfl, Nat.le_of_ble_eq_true rfl⟩) (fun r_5 hw => ?_)
    try dsimp only at hw
    obtain ⟨hw, hb_r_5, hp_6, hp_7⟩ := hw
    have hq_r_5 : r_5 = (fq_isIn a2 (0 : Int32) (99 : Int32)) := hw
    refine lv_if_eq (tgt := 33) hx hb dX12_many_20 (by decide) (fun c_8 => ?_) (fun c_8 => ?_)
    · refine lv_iconst (v := (-1)) hx hb dX12_many_33 (by decide) ?_
      refine W.widen (k := 0) (n := 0) (by omega) (by omega) ?_
      have hP9 := hP
      have hD9 := hD
      have hK9 := hK.sub (tys' := []) [] rfl
      exact W.iret (v := (-1)) hx hb hr (fun t ht hW => ⟨⟨(-1), 0, rfl, ((fun e9 => ⟨by rw [e9], by rw [e9]⟩ : fq_many f_sky f_landHas a0 a1 a2 (g 12) = ((-1 : Int32), (0 : Int32)) → _) ((by rw [fq_many]; (try rw [← hq_r_1]); (try rw [xL_eq]); (try rw [if_neg c_4]); (try rw [← hq_r_5]); (try rw [xL_eq]); (try rw [if_pos c_8]); try rfl))), by rw [ht]; exact hP9, va_K.moved hW.alike hK9, hD9⟩, hS.F ht⟩) hS.2.2 dX12_many_34
    · refine lv_aload_n hx hb dX12_many_23 rfl (lv_at hl 0 rfl) ?_
      refine lv_iload_n hx hb dX12_many_24 rfl (lv_at hl 1 rfl) ?_
      refine lv_iload_n hx hb dX12_many_25 rfl (lv_at hl 2 rfl) ?_
      refine lv_i2l (v := a1.toInt64) hx hb dX12_many_26 rfl ?_
      have hPc := hP.sub (ws' := [(mq, .inr (12, mF (upd g 2 0) gl rf)), (eA0 (rf 29) (ck 29) 24 f_landHas)]) [0, 2] rfl
      have hKc := hK.sub (tys' := [((ck 29), .int)]) [1] rfl
      refine vp_callSi (W.runV (As := [.int a0, .long a1.toInt64]) (rest := []) ⟨hx, hb, hml, hown, htw⟩ (gq_begins l dC dI mq (upd g 2 0) gl rf ck f_landHas a0 a1.toInt64 (gq_many_s0 (y0 := a0) (y1 := g 12) (hp_2.resolve_left c_4) (hp_3.resolve_left c_4) hln0 hln4) (gq_many_s1 (y0 := a0) (y1 := g 12) (hp_2.resolve_left c_4) (hp_3.resolve_left c_4) hln0 hln4)) (cwV 2 htw (xg_V (ck_47 _ (List.mem_of_getElem? (i := 8) rfl)) (ck_47 _ (List.mem_of_getElem? (i := 9) rfl)) (ck_47 _ (List.mem_of_getElem? (i := 10) rfl)) (ck_1 _ (List.mem_of_getElem? (i := 5) rfl)) (ck_47 _ (List.mem_of_getElem? (i := 11) rfl))) rfl rfl rfl (by exact ⟨rfl, hdc_14.1, hdc_14.2, hdd_42⟩) ⟨Nat.le_of_ble_eq_true rfl, Nat.le_of_ble_eq_true rfl⟩) ⟨fun a U g mk q => by obtain ⟨q0, qP, qK⟩ := q; exact ⟨q0, qP, va_K.moved (u := U) (U := U.calling g mk a) (Vm.Alike.refl U.vm) qK⟩, va_recv hKc hPc (ci := 12) (q0 := 0) rfl rfl, fun U hU hW => ⟨rfl, by rw [hU]; exact hPc, va_K.moved hW.alike hKc⟩⟩ rfl rfl hl.1 rfl (lv_room (Nat.le_of_ble_eq_true rfl)) dX12_many_27 ⟨Nat.le_of_ble_eq_true rfl, Nat.le_of_ble_eq_true rfl⟩) (fun r_9 hw => ?_)
      try dsimp only at hw
      obtain ⟨hw, hb_r_9⟩ := hw
      have hq_r_9 : r_9 = (fq_begins f_landHas a0 a1.toInt64) := hw
      refine lv_if_ne (tgt := 35) hx hb dX12_many_30 (by decide) (fun c_10 => ?_) (fun c_10 => ?_)
      · refine lv_iload_n hx hb dX12_many_35 rfl (lv_at hl 2 rfl) ?_
        refine lv_i2l (v := a1.toInt64) hx hb dX12_many_36 rfl ?_
        refine lv_lstore (lv' := [(4, .long a1.toInt64), (0, .ref mq), (1, .int a0), (2, .int a1), (3, .int a2)]) hx hb dX12_many_37 hl (by decide) rfl (fun ls hl => ?_)
        have hloop_11 : ∀ (n : Nat) (L4d : Int64) (hf_d : (a1.toInt64 + 1000).toInt ≤ L4d.toInt + (n : Int)) (hI_d : fq_many f_sky f_landHas a0 a1 a2 (g 12) = fq_many_d f_sky f_landHas a0 a1 a2 n L4d) (H : Heap) (locs : List Loc) (ls : Array Slot) (hP : va_P (dC, dI) vwCl [(mq, .inr (12, mF (upd g 2 0) gl rf)), (eA0 (rf 24) (ck 24) 14 f_sky), (eA0 (rf 29) (ck 29) 24 f_landHas)] H) (hD : va_D A [(mq, .inr (12, mF (upd g 2 0) gl rf)), (eA0 (rf 24) (ck 24) 14 f_sky), (eA0 (rf 29) (ck 29) 24 f_landHas)]) (hS : va_S A s.heap H locs) (hl : lv_has ls 6 [(4, .long L4d), (0, .ref mq), (1, .int a0), (2, .int a1), (3, .int a2)]), W p l e (headSpec (Cond.code yX12_many cX12_many 6 (some .int) :: wsL_law) ({ frames := 4, cells := 0, slots := 0, locals := 92 })).room s m ([.ref mq, .int a0, .int a1, .int a2] : List Value).toArray below meth c H locs 0 0 (MQ below (va_Qi (fun (r : Int32) (u : (Int32)) => r = (fq_many f_sky f_landHas a0 a1 a2 (g 12)).1 ∧ u = (fq_many f_sky f_landHas a0 a1 a2 (g 12)).2) (fun (u : (Int32)) t => va_P (dC, dI) vwCl [(mq, .inr (12, mF (upd g 2 u) gl rf)), (eA0 (rf 24) (ck 24) 14 f_sky), (eA0 (rf 29) (ck 29) 24 f_landHas)] t.heap ∧ va_K (dC, dI) vwCl [] t ∧ va_D A [(mq, .inr (12, mF (upd g 2 u) gl rf)), (eA0 (rf 24) (ck 24) 14 f_sky), (eA0 (rf 29) (ck 29) 24 f_landHas)]) A) ([.ref mq, .int a0, .int a1, .int a2] : List Value).toArray s 0 0 A) (F0 m 39 ls []) := by
          intro n
          induction n with
          | zero =>
            intro L4d hf_d hI_d H locs ls hP hD hS hl
            refine lv_lload hx hb dX12_many_39 (lv_at hl 0 rfl) ?_
            refine lv_iload_n hx hb dX12_many_41 rfl (lv_at hl 3 rfl) ?_
            refine lv_i2l (v := a1.toInt64) hx hb dX12_many_42 rfl ?_
            refine lv_ldc2 (v := 1000) hx hb hown (htw _ (ck_48 _ (List.mem_of_getElem? (i := 3) rfl))) dX12_many_43 ?_
            refine lv_ladd hx hb dX12_many_46 ?_
            refine W.lcmp hx hb dX12_many_47 ?_
            refine lv_if_ge (tgt := 87) hx hb dX12_many_48 (by decide) (fun c_12 => ?_) (fun c_12 => absurd c_12 (fun h => h ((lg_cmp_ge _ _).mpr (xj_z hf_d))))
            refine lv_bipush (v := (-2)) hx hb dX12_many_87 (by decide) ?_
            refine W.widen (k := 0) (n := 0) (by omega) (by omega) ?_
            obtain ⟨hP9, hD9⟩ := zsub2 (ws' := [(mq, .inr (12, mF (upd g 2 0) gl rf)), (eA0 (rf 24) (ck 24) 14 f_sky), (eA0 (rf 29) (ck 29) 24 f_landHas)]) hP hD [0, 1, 2] (by decide) rfl
            have hK9 := hK.sub (tys' := []) [] rfl
            exact W.iret (v := (-2)) hx hb hr (fun t ht hW => ⟨⟨(-2), 0, rfl, ((fun e9 => ⟨by rw [e9], by rw [e9]⟩ : fq_many f_sky f_landHas a0 a1 a2 (g 12) = ((-2 : Int32), (0 : Int32)) → _) (hI_d.trans (by rw [fq_many_d]; try rfl))), by rw [ht]; exact hP9, va_K.moved hW.alike hK9, hD9⟩, hS.F ht⟩) hS.2.2 dX12_many_89
          | succ n ih =>
            intro L4d hf_d hI_d H locs ls hP hD hS hl
            refine lv_lload hx hb dX12_many_39 (lv_at hl 0 rfl) ?_
            refine lv_iload_n hx hb dX12_many_41 rfl (lv_at hl 3 rfl) ?_
            refine lv_i2l (v := a1.toInt64) hx hb dX12_many_42 rfl ?_
            refine lv_ldc2 (v := 1000) hx hb hown (htw _ (ck_48 _ (List.mem_of_getElem? (i := 3) rfl))) dX12_many_43 ?_
            refine lv_ladd hx hb dX12_many_46 ?_
            refine W.lcmp hx hb dX12_many_47 ?_
            refine lv_if_ge (tgt := 87) hx hb dX12_many_48 (by decide) (fun c_13 => ?_) (fun c_13 => ?_)
            · refine lv_bipush (v := (-2)) hx hb dX12_many_87 (by decide) ?_
              refine W.widen (k := 0) (n := 0) (by omega) (by omega) ?_
              obtain ⟨hP9, hD9⟩ := zsub2 (ws' := [(mq, .inr (12, mF (upd g 2 0) gl rf)), (eA0 (rf 24) (ck 24) 14 f_sky), (eA0 (rf 29) (ck 29) 24 f_landHas)]) hP hD [0, 1, 2] (by decide) rfl
              have hK9 := hK.sub (tys' := []) [] rfl
              exact W.iret (v := (-2)) hx hb hr (fun t ht hW => ⟨⟨(-2), 0, rfl, ((fun e9 => ⟨by rw [e9], by rw [e9]⟩ : fq_many f_sky f_landHas a0 a1 a2 (g 12) = ((-2 : Int32), (0 : Int32)) → _) (hI_d.trans (by rw [fq_many_d]; (try rw [if_pos c_13]); try rfl))), by rw [ht]; exact hP9, va_K.moved hW.alike hK9, hD9⟩, hS.F ht⟩) hS.2.2 dX12_many_89
            · refine lv_aload_n hx hb dX12_many_51 rfl (lv_at hl 1 rfl) ?_
              refine lv_iload_n hx hb dX12_many_52 rfl (lv_at hl 2 rfl) ?_
              refine lv_lload hx hb dX12_many_53 (lv_at hl 0 rfl) ?_
              have hPc := hP.sub (ws' := [(mq, .inr (12, mF (upd g 2 0) gl rf)), (eA0 (rf 29) (ck 29) 24 f_landHas)]) [0, 2] rfl
              have hKc := hK.sub (tys' := [((ck 29), .int)]) [1] rfl
              refine vp_callSi (W.runV (As := [.int a0, .long L4d]) (rest := []) ⟨hx, hb, hml, hown, htw⟩ (gq_begins l dC dI mq (upd g 2 0) gl rf ck f_landHas a0 L4d (gq_many_s2 (y0 := a0) (y1 := g 12) (hp_2.resolve_left c_4) (hp_3.resolve_left c_4) hln0 hln4) (gq_many_s3 (y0 := a0) (y1 := g 12) (hp_2.resolve_left c_4) (hp_3.resolve_left c_4) hln0 hln4)) (cwV 2 htw (xg_V (ck_47 _ (List.mem_of_getElem? (i := 8) rfl)) (ck_47 _ (List.mem_of_getElem? (i := 9) rfl)) (ck_47 _ (List.mem_of_getElem? (i := 10) rfl)) (ck_1 _ (List.mem_of_getElem? (i := 5) rfl)) (ck_47 _ (List.mem_of_getElem? (i := 11) rfl))) rfl rfl rfl (by exact ⟨rfl, hdc_14.1, hdc_14.2, hdd_42⟩) ⟨Nat.le_of_ble_eq_true rfl, Nat.le_of_ble_eq_true rfl⟩) ⟨fun a U g mk q => by obtain ⟨q0, qP, qK⟩ := q; exact ⟨q0, qP, va_K.moved (u := U) (U := U.calling g mk a) (Vm.Alike.refl U.vm) qK⟩, va_recv hKc hPc (ci := 12) (q0 := 0) rfl rfl, fun U hU hW => ⟨rfl, by rw [hU]; exact hPc, va_K.moved hW.alike hKc⟩⟩ rfl rfl hl.1 rfl (lv_room (Nat.le_of_ble_eq_true rfl)) dX12_many_55 ⟨Nat.le_of_ble_eq_true rfl, Nat.le_of_ble_eq_true rfl⟩) (fun r_14 hw => ?_)
              try dsimp only at hw
              obtain ⟨hw, hb_r_14⟩ := hw
              have hq_r_14 : r_14 = (fq_begins f_landHas a0 L4d) := hw
              refine lv_if_eq (tgt := 87) hx hb dX12_many_58 (by decide) (fun c_15 => ?_) (fun c_15 => ?_)
              · refine lv_bipush (v := (-2)) hx hb dX12_many_87 (by decide) ?_
                refine W.widen (k := 0) (n := 0) (by omega) (by omega) ?_
                obtain ⟨hP9, hD9⟩ := zsub2 (ws' := [(mq, .inr (12, mF (upd g 2 0) gl rf)), (eA0 (rf 24) (ck 24) 14 f_sky), (eA0 (rf 29) (ck 29) 24 f_landHas)]) hP hD [0, 1, 2] (by decide) rfl
                have hK9 := hK.sub (tys' := []) [] rfl
                exact W.iret (v := (-2)) hx hb hr (fun t ht hW => ⟨⟨(-2), 0, rfl, ((fun e9 => ⟨by rw [e9], by rw [e9]⟩ : fq_many f_sky f_landHas a0 a1 a2 (g 12) = ((-2 : Int32), (0 : Int32)) → _) (hI_d.trans (by rw [fq_many_d]; (try rw [if_neg c_13]); (try rw [← hq_r_14]); (try rw [xL_eq]); (try rw [if_pos c_15]); try rfl))), by rw [ht]; exact hP9, va_K.moved hW.alike hK9, hD9⟩, hS.F ht⟩) hS.2.2 dX12_many_89
              · refine lv_aload_n hx hb dX12_many_61 rfl (lv_at hl 1 rfl) ?_
                refine lv_iload_n hx hb dX12_many_62 rfl (lv_at hl 2 rfl) ?_
                refine lv_lload hx hb dX12_many_63 (lv_at hl 0 rfl) ?_
                have hPc := hP.sub (ws' := [(mq, .inr (12, mF (upd g 2 0) gl rf)), (eA0 (rf 24) (ck 24) 14 f_sky), (eA0 (rf 29) (ck 29) 24 f_landHas)]) [0, 1, 2] rfl
                have hKc := hK.sub (tys' := [((ck 24), .int), ((ck 29), .int)]) [0, 1] rfl
                refine vp_callSl (W.runV (As := [.int a0, .long L4d]) (rest := []) ⟨hx, hb, hml, hown, htw⟩ (gq_springsOf l dC dI mq (upd g 2 0) gl rf ck f_sky f_landHas a0 L4d (gq_many_s4 (y0 := a0) (y1 := g 12) (hp_2.resolve_left c_4) (hp_3.resolve_left c_4) hln0 hln4) (gq_many_s5 (y0 := a0) (y1 := g 12) (hp_2.resolve_left c_4) (hp_3.resolve_left c_4) hln0 hln4) hs5) (cwV 2 htw (xg_V (ck_47 _ (List.mem_of_getElem? (i := 12) rfl)) (ck_47 _ (List.mem_of_getElem? (i := 13) rfl)) (ck_47 _ (List.mem_of_getElem? (i := 14) rfl)) (ck_1 _ (List.mem_of_getElem? (i := 5) rfl)) (ck_47 _ (List.mem_of_getElem? (i := 15) rfl))) rfl rfl rfl (by exact ⟨rfl, hdc_14.1, hdc_14.2, hdd_41⟩) ⟨Nat.le_of_ble_eq_true rfl, Nat.le_of_ble_eq_true rfl⟩) ⟨fun a U g mk q => by obtain ⟨q0, qP, qK⟩ := q; exact ⟨q0, qP, va_K.moved (u := U) (U := U.calling g mk a) (Vm.Alike.refl U.vm) qK⟩, va_recv hKc hPc (ci := 12) (q0 := 0) rfl rfl, fun U hU hW => ⟨rfl, by rw [hU]; exact hPc, va_K.moved hW.alike hKc⟩⟩ rfl rfl hl.1 rfl (lv_room (Nat.le_of_ble_eq_true rfl)) dX12_many_65 ⟨Nat.le_of_ble_eq_true rfl, Nat.le_of_ble_eq_true rfl⟩) (fun r_16 hw => ?_)
                try dsimp only at hw
                have hq_r_16 : r_16 = (fq_springsOf f_sky f_landHas a0 L4d) := hw
                refine lv_iload_n hx hb dX12_many_68 rfl (lv_at hl 4 rfl) ?_
                refine lv_i2l (v := a2.toInt64) hx hb dX12_many_69 rfl ?_
                refine W.lcmp hx hb dX12_many_70 ?_
                refine lv_if_ne (tgt := 78) hx hb dX12_many_71 (by decide) (fun c_17 => ?_) (fun c_17 => ?_)
                · refine lv_lload hx hb dX12_many_78 (lv_at hl 0 rfl) ?_
                  refine lv_lconst (v := 1) hx hb dX12_many_80 (by decide) ?_
                  refine lv_ladd hx hb dX12_many_81 ?_
                  refine lv_lstore (lv' := [(4, .long (L4d + 1)), (0, .ref mq), (1, .int a0), (2, .int a1), (3, .int a2)]) hx hb dX12_many_82 hl (by decide) rfl (fun ls hl => ?_)
                  refine lv_goto (tgt := 39) hx hb dX12_many_84 (by decide) ?_
                  exact ih (L4d + 1) (by rw [xj_s (Int64.not_le.mp (fun q => c_13 ((lg_cmp_ge _ _).mpr q)))]; omega) (hI_d.trans (by rw [fq_many_d]; (try rw [if_neg c_13]); (try rw [← hq_r_14]); (try rw [xL_eq]); (try rw [if_neg c_15]); (try rw [← hq_r_16]); (try rw [xL_eq]); (try rw [if_neg c_17]); try rfl)) H locs ls hP hD hS (lv_sub hl [0, 1, 2, 3, 4] rfl)
                · refine lv_lload hx hb dX12_many_74 (lv_at hl 0 rfl) ?_
                  refine lv_l2i (v := L4d.toInt32) hx hb dX12_many_76 rfl ?_
                  refine W.widen (k := 0) (n := 0) (by omega) (by omega) ?_
                  obtain ⟨hP9, hD9⟩ := zsub2 (ws' := [(mq, .inr (12, mF (upd g 2 0) gl rf)), (eA0 (rf 24) (ck 24) 14 f_sky), (eA0 (rf 29) (ck 29) 24 f_landHas)]) hP hD [0, 1, 2] (by decide) rfl
                  have hK9 := hK.sub (tys' := []) [] rfl
                  exact W.iret (v := L4d.toInt32) hx hb hr (fun t ht hW => ⟨⟨L4d.toInt32, 0, rfl, ((fun e9 => ⟨by rw [e9], by rw [e9]⟩ : fq_many f_sky f_landHas a0 a1 a2 (g 12) = (L4d.toInt32, (0 : Int32)) → _) (hI_d.trans (by rw [fq_many_d]; (try rw [if_neg c_13]); (try rw [← hq_r_14]); (try rw [xL_eq]); (try rw [if_neg c_15]); (try rw [← hq_r_16]); (try rw [xL_eq]); (try rw [if_pos c_17]); try rfl))), by rw [ht]; exact hP9, va_K.moved hW.alike hK9, hD9⟩, hS.F ht⟩) hS.2.2 dX12_many_77
        exact hloop_11 1000 a1.toInt64 (by rw [xj_add xj_i.1 xj_i.2 (by decide) (by decide)]; have e9 : (1000 : Int64).toInt = 1000 := rfl; omega) ((by rw [fq_many]; (try rw [← hq_r_1]); (try rw [xL_eq]); (try rw [if_neg c_4]); (try rw [← hq_r_5]); (try rw [xL_eq]); (try rw [if_neg c_8]); (try rw [← hq_r_9]); (try rw [xL_eq]); (try rw [if_neg c_10]); try rfl)) _ _ ls hP hD hS (lv_sub hl [0, 1, 2, 3, 4] rfl)
      · refine lv_iconst (v := (-1)) hx hb dX12_many_33 (by decide) ?_
        refine W.widen (k := 0) (n := 0) (by omega) (by omega) ?_
        have hP9 := hP
        have hD9 := hD
        have hK9 := hK.sub (tys' := []) [] rfl
        exact W.iret (v := (-1)) hx hb hr (fun t ht hW => ⟨⟨(-1), 0, rfl, ((fun e9 => ⟨by rw [e9], by rw [e9]⟩ : fq_many f_sky f_landHas a0 a1 a2 (g 12) = ((-1 : Int32), (0 : Int32)) → _) ((by rw [fq_many]; (try rw [← hq_r_1]); (try rw [xL_eq]); (try rw [if_neg c_4]); (try rw [← hq_r_5]); (try rw [xL_eq]); (try rw [if_neg c_8]); (try rw [← hq_r_9]); (try rw [xL_eq]); (try rw [if_pos c_10]); try rfl))), by rw [ht]; exact hP9, va_K.moved hW.alike hK9, hD9⟩, hS.F ht⟩) hS.2.2 dX12_many_34
