theorem xv_ge {i : Int32} (h : 64 ≤ i.toInt + ((0 : Nat) : Int)) : (64 : Int32) ≤ i := by
  rw [Int32.le_iff_toInt_le]
  have e : (64 : Int32).toInt = 64 := rfl
  omega
theorem xv_i1 {i : Int32} (h0 : 0 ≤ i.toInt) (h : ¬ 64 ≤ i) : (i + 1).toInt = i.toInt + 1 := by
  have e1 : (1 : Int32).toInt = 1 := rfl
  have e9 : (64 : Int32).toInt = 64 := rfl
  rw [Int32.le_iff_toInt_le, e9] at h
  have q1 : (i.toInt + 1).bmod (2 ^ 32) = i.toInt + 1 := Int.bmod_eq_of_le (by omega) (by omega)
  rw [Int32.toInt_add, e1, q1]
theorem xv_r {r t : Int32} (h : r = fr_takenBy t) : 0 ≤ r.toInt ∧ r.toInt ≤ 2 := by
  subst h
  rw [fr_takenBy]
  split
  · decide
  · split <;> decide
theorem xv_t {t i r : Int32} (ht : 0 ≤ t.toInt ∧ t.toInt ≤ i.toInt) (hr : 0 ≤ r.toInt ∧ r.toInt ≤ 2) (h1 : ¬ t < r) : (t - r).toInt = t.toInt - r.toInt ∧ r.toInt ≤ t.toInt := by
  rw [Int32.lt_iff_toInt_lt] at h1
  have := Int32.toInt_lt i
  have q1 : (t.toInt - r.toInt).bmod (2 ^ 32) = t.toInt - r.toInt := Int.bmod_eq_of_le (by omega) (by omega)
  rw [Int32.toInt_sub, q1]
  omega
theorem xv_in {t i r : Int32} (ht : 0 ≤ t.toInt ∧ t.toInt ≤ i.toInt) (hr : 0 ≤ r.toInt ∧ r.toInt ≤ 2) (h1 : ¬ t < r) (hi : ¬ 64 ≤ i) (h2 : t - r < 64) : vp_in (t - r) 64 := by
  obtain ⟨q, q2⟩ := xv_t ht hr h1
  have e9 : (64 : Int32).toInt = 64 := rfl
  rw [Int32.lt_iff_toInt_lt, e9, q] at h2
  rw [vp_in_iff, q]
  omega
theorem xv_t1 {t i r : Int32} (ht : 0 ≤ t.toInt ∧ t.toInt ≤ i.toInt) (hr : 0 ≤ r.toInt ∧ r.toInt ≤ 2) (h1 : ¬ t < r) (hi : ¬ 64 ≤ i) : (t - r + 1).toInt = t.toInt - r.toInt + 1 := by
  obtain ⟨q, q2⟩ := xv_t ht hr h1
  have e1 : (1 : Int32).toInt = 1 := rfl
  have e9 : (64 : Int32).toInt = 64 := rfl
  rw [Int32.le_iff_toInt_le, e9] at hi
  have q1 : (t.toInt - r.toInt + 1).bmod (2 ^ 32) = t.toInt - r.toInt + 1 := Int.bmod_eq_of_le (by omega) (by omega)
  rw [Int32.toInt_add, q, e1, q1]
theorem xv_in2 {t i r : Int32} (ht : 0 ≤ t.toInt ∧ t.toInt ≤ i.toInt) (hr : 0 ≤ r.toInt ∧ r.toInt ≤ 2) (h1 : ¬ t < r) (hi : ¬ 64 ≤ i) (h2 : r = 2) : vp_in (t - r + 1) 64 := by
  have q := xv_t1 ht hr h1 hi
  obtain ⟨_, q2⟩ := xv_t ht hr h1
  have e2 : (2 : Int32).toInt = 2 := rfl
  have e9 : (64 : Int32).toInt = 64 := rfl
  rw [Int32.le_iff_toInt_le, e9] at hi
  have q3 : r.toInt = 2 := by rw [h2, e2]
  rw [vp_in_iff, q]
  omega
theorem xv_next {t i r : Int32} (ht : 0 ≤ t.toInt ∧ t.toInt ≤ i.toInt) (hr : 0 ≤ r.toInt ∧ r.toInt ≤ 2) (h1 : ¬ t < r) (hi : ¬ 64 ≤ i) : 0 ≤ (t - r + 1).toInt ∧ (t - r + 1).toInt ≤ (i + 1).toInt := by
  rw [xv_t1 ht hr h1 hi, xv_i1 (by omega) hi]
  obtain ⟨_, q2⟩ := xv_t ht hr h1
  omega
theorem xv_nl {x : Int32} (h : 0 ≤ x.toInt) : ¬ x < 0 := by
  have e0 : (0 : Int32).toInt = 0 := rfl
  rw [Int32.lt_iff_toInt_lt, e0]
  omega
theorem xv_pre {a : Int32} (h0 : ¬ a < 0) (h1 : ¬ a = 0) (h6 : a < 4) : vp_in (a - 1) 4 := by
  have e0 : (0 : Int32).toInt = 0 := rfl
  have e1 : (1 : Int32).toInt = 1 := rfl
  have e6 : (4 : Int32).toInt = 4 := rfl
  rw [Int32.lt_iff_toInt_lt, e0] at h0
  rw [Int32.lt_iff_toInt_lt, e6] at h6
  rw [← Int32.toInt_inj, e0] at h1
  have q1 : (a.toInt - 1).bmod (2 ^ 32) = a.toInt - 1 := Int.bmod_eq_of_le (by omega) (by omega)
  rw [vp_in_iff, Int32.toInt_sub, e1, q1]
  omega
theorem xv_nn {x : Int32} (h : ¬ x < 0) : 0 ≤ x.toInt := by
  have e0 : (0 : Int32).toInt = 0 := rfl
  rw [Int32.lt_iff_toInt_lt, e0] at h
  omega

def fr_valueOf_L (fRc : Nat → Int32) (fRe : Nat → Int32) (ct : Int64) (yr : Int64) (dy : Int64) (lg : Int64) (wd : Int32) (wf : Int32) (mp : Int32) (mb : Int32) (mo : Int32) (sp : Int32) (sb : Int32) (a0 : Int32) : Nat → (Int32) → (Int32) → (Nat → Int64) → Int64 × (Nat → Int64)
  | 0, tp, i, g => (if fRe a0.toNatClampNeg ≤ i then (if tp = 1 then (g ((0 : Int32).toNatClampNeg), g) else ((-9223372036854775808 : Int64), g)) else (if tp = 1 then (g ((0 : Int32).toNatClampNeg), g) else ((-9223372036854775808 : Int64), g)))
  | n + 1, tp, i, g => (if fRe a0.toNatClampNeg ≤ i then (if tp = 1 then (g ((0 : Int32).toNatClampNeg), g) else ((-9223372036854775808 : Int64), g)) else (if 64 ≤ i then (if tp = 1 then (g ((0 : Int32).toNatClampNeg), g) else ((-9223372036854775808 : Int64), g)) else (if tp < (fr_takenBy ((-1) - (fRc i.toNatClampNeg))) then ((-9223372036854775808 : Int64), g) else (if (tp - (fr_takenBy ((-1) - (fRc i.toNatClampNeg)))) < 64 then (if (fr_takenBy ((-1) - (fRc i.toNatClampNeg))) = 2 then (if 0 < lg_cmp (fr_joined ((-1) - (fRc i.toNatClampNeg)) (g ((tp - (fr_takenBy ((-1) - (fRc i.toNatClampNeg)))).toNatClampNeg)) (g (((tp - (fr_takenBy ((-1) - (fRc i.toNatClampNeg)))) + 1).toNatClampNeg))) 1000000000000 then ((-9223372036854775808 : Int64), g) else (if 0 ≤ lg_cmp (fr_joined ((-1) - (fRc i.toNatClampNeg)) (g ((tp - (fr_takenBy ((-1) - (fRc i.toNatClampNeg)))).toNatClampNeg)) (g (((tp - (fr_takenBy ((-1) - (fRc i.toNatClampNeg)))) + 1).toNatClampNeg))) (-1000000000000) then fr_valueOf_L fRc fRe ct yr dy lg wd wf mp mb mo sp sb a0 n ((tp - (fr_takenBy ((-1) - (fRc i.toNatClampNeg)))) + 1) (i + 1) (vp_updL g ((tp - (fr_takenBy ((-1) - (fRc i.toNatClampNeg)))).toNatClampNeg) (fr_joined ((-1) - (fRc i.toNatClampNeg)) (g ((tp - (fr_takenBy ((-1) - (fRc i.toNatClampNeg)))).toNatClampNeg)) (g (((tp - (fr_takenBy ((-1) - (fRc i.toNatClampNeg)))) + 1).toNatClampNeg)))) else ((-9223372036854775808 : Int64), g))) else (if (fr_takenBy ((-1) - (fRc i.toNatClampNeg))) = 1 then (if lg_cmp (g ((tp - (fr_takenBy ((-1) - (fRc i.toNatClampNeg)))).toNatClampNeg)) 0 = 0 then fr_valueOf_L fRc fRe ct yr dy lg wd wf mp mb mo sp sb a0 n ((tp - (fr_takenBy ((-1) - (fRc i.toNatClampNeg)))) + 1) (i + 1) (vp_updL g ((tp - (fr_takenBy ((-1) - (fRc i.toNatClampNeg)))).toNatClampNeg) 1) else fr_valueOf_L fRc fRe ct yr dy lg wd wf mp mb mo sp sb a0 n ((tp - (fr_takenBy ((-1) - (fRc i.toNatClampNeg)))) + 1) (i + 1) (vp_updL g ((tp - (fr_takenBy ((-1) - (fRc i.toNatClampNeg)))).toNatClampNeg) 0)) else (if 0 ≤ ((-1) - (fRc i.toNatClampNeg)) then (if 0 < lg_cmp (fr_nameOf ct yr dy lg wd wf mp mb mo sp sb ((-1) - (fRc i.toNatClampNeg))) 1000000000000 then ((-9223372036854775808 : Int64), g) else (if 0 ≤ lg_cmp (fr_nameOf ct yr dy lg wd wf mp mb mo sp sb ((-1) - (fRc i.toNatClampNeg))) (-1000000000000) then fr_valueOf_L fRc fRe ct yr dy lg wd wf mp mb mo sp sb a0 n ((tp - (fr_takenBy ((-1) - (fRc i.toNatClampNeg)))) + 1) (i + 1) (vp_updL g ((tp - (fr_takenBy ((-1) - (fRc i.toNatClampNeg)))).toNatClampNeg) (fr_nameOf ct yr dy lg wd wf mp mb mo sp sb ((-1) - (fRc i.toNatClampNeg)))) else ((-9223372036854775808 : Int64), g))) else (if 0 < lg_cmp ((fRc i.toNatClampNeg).toInt64) 1000000000000 then ((-9223372036854775808 : Int64), g) else (if 0 ≤ lg_cmp ((fRc i.toNatClampNeg).toInt64) (-1000000000000) then fr_valueOf_L fRc fRe ct yr dy lg wd wf mp mb mo sp sb a0 n ((tp - (fr_takenBy ((-1) - (fRc i.toNatClampNeg)))) + 1) (i + 1) (vp_updL g ((tp - (fr_takenBy ((-1) - (fRc i.toNatClampNeg)))).toNatClampNeg) ((fRc i.toNatClampNeg).toInt64)) else ((-9223372036854775808 : Int64), g)))))) else ((-9223372036854775808 : Int64), g)))))
def fr_valueOf (fRc : Nat → Int32) (fRe : Nat → Int32) (fRs : Nat → Int64) (ct : Int64) (yr : Int64) (dy : Int64) (lg : Int64) (wd : Int32) (wf : Int32) (mp : Int32) (mb : Int32) (mo : Int32) (sp : Int32) (sb : Int32) (a0 : Int32) : Int64 × (Nat → Int64) := (if a0 < 0 then ((-9223372036854775808 : Int64), fRs) else (if a0 < 4 then (if a0 = 0 then fr_valueOf_L fRc fRe ct yr dy lg wd wf mp mb mo sp sb a0 64 (0 : Int32) (0 : Int32) fRs else fr_valueOf_L fRc fRe ct yr dy lg wd wf mp mb mo sp sb a0 64 (0 : Int32) (fRe ((a0 - 1).toNatClampNeg)) fRs) else ((-9223372036854775808 : Int64), fRs)))
theorem dX8_valueOf_0 : decode cX8_valueOf 0 = .ok (.iload_n 1, 1) := zk_27 (by decide +kernel)
theorem dX8_valueOf_1 : decode cX8_valueOf 1 = .ok (.ifCond .lt 12, 3) := zk_155 (by decide +kernel)
theorem dX8_valueOf_13 : decode cX8_valueOf 13 = .ok (.ldc2_w 44, 3) := zk_20 (by decide +kernel)
theorem dX8_valueOf_16 : decode cX8_valueOf 16 = .ok (.lreturn, 1) := zk_173 (by decide +kernel)
theorem dX8_valueOf_4 : decode cX8_valueOf 4 = .ok (.iload_n 1, 1) := zk_27 (by decide +kernel)
theorem dX8_valueOf_5 : decode cX8_valueOf 5 = .ok (.aload_n 0, 1) := zk_42 (by decide +kernel)
theorem dX8_valueOf_6 : decode cX8_valueOf 6 = .ok (.getfield 20, 3) := zk_180 (by decide +kernel)
theorem dX8_valueOf_9 : decode cX8_valueOf 9 = .ok (.arraylength, 1) := zk_190 (by decide +kernel)
theorem dX8_valueOf_10 : decode cX8_valueOf 10 = .ok (.if_icmp .lt 7, 3) := zk_161 (by decide +kernel)
theorem dX8_valueOf_17 : decode cX8_valueOf 17 = .ok (.iconst 0, 1) := zk_3 (by decide +kernel)
theorem dX8_valueOf_18 : decode cX8_valueOf 18 = .ok (.istore 4, 2) := zk_54 (by decide +kernel)
theorem dX8_valueOf_20 : decode cX8_valueOf 20 = .ok (.iload_n 1, 1) := zk_27 (by decide +kernel)
theorem dX8_valueOf_21 : decode cX8_valueOf 21 = .ok (.ifCond .ne 7, 3) := zk_154 (by decide +kernel)
theorem dX8_valueOf_28 : decode cX8_valueOf 28 = .ok (.aload_n 0, 1) := zk_42 (by decide +kernel)
theorem dX8_valueOf_29 : decode cX8_valueOf 29 = .ok (.getfield 20, 3) := zk_180 (by decide +kernel)
theorem dX8_valueOf_32 : decode cX8_valueOf 32 = .ok (.iload_n 1, 1) := zk_27 (by decide +kernel)
theorem dX8_valueOf_33 : decode cX8_valueOf 33 = .ok (.iconst 1, 1) := zk_4 (by decide +kernel)
theorem dX8_valueOf_34 : decode cX8_valueOf 34 = .ok (.isub, 1) := zk_100 (by decide +kernel)
theorem dX8_valueOf_35 : decode cX8_valueOf 35 = .ok (.iaload, 1) := zk_46 (by decide +kernel)
theorem dX8_valueOf_36 : decode cX8_valueOf 36 = .ok (.istore 5, 2) := zk_54 (by decide +kernel)
theorem dX8_valueOf_38 : decode cX8_valueOf 38 = .ok (.iload 5, 2) := zk_21 (by decide +kernel)
theorem dX8_valueOf_40 : decode cX8_valueOf 40 = .ok (.istore 6, 2) := zk_54 (by decide +kernel)
theorem dX8_valueOf_42 : decode cX8_valueOf 42 = .ok (.iload 6, 2) := zk_21 (by decide +kernel)
theorem dX8_valueOf_44 : decode cX8_valueOf 44 = .ok (.aload_n 0, 1) := zk_42 (by decide +kernel)
theorem dX8_valueOf_45 : decode cX8_valueOf 45 = .ok (.getfield 20, 3) := zk_180 (by decide +kernel)
theorem dX8_valueOf_48 : decode cX8_valueOf 48 = .ok (.iload_n 1, 1) := zk_27 (by decide +kernel)
theorem dX8_valueOf_49 : decode cX8_valueOf 49 = .ok (.iaload, 1) := zk_46 (by decide +kernel)
theorem dX8_valueOf_50 : decode cX8_valueOf 50 = .ok (.if_icmp .ge 187, 3) := zk_162 (by decide +kernel)
theorem dX8_valueOf_237 : decode cX8_valueOf 237 = .ok (.iload 4, 2) := zk_21 (by decide +kernel)
theorem dX8_valueOf_239 : decode cX8_valueOf 239 = .ok (.iconst 1, 1) := zk_4 (by decide +kernel)
theorem dX8_valueOf_240 : decode cX8_valueOf 240 = .ok (.if_icmp .ne 12, 3) := zk_160 (by decide +kernel)
theorem dX8_valueOf_252 : decode cX8_valueOf 252 = .ok (.ldc2_w 44, 3) := zk_20 (by decide +kernel)
theorem dX8_valueOf_255 : decode cX8_valueOf 255 = .ok (.lreturn, 1) := zk_173 (by decide +kernel)
theorem dX8_valueOf_243 : decode cX8_valueOf 243 = .ok (.aload_n 0, 1) := zk_42 (by decide +kernel)
theorem dX8_valueOf_244 : decode cX8_valueOf 244 = .ok (.getfield 23, 3) := zk_180 (by decide +kernel)
theorem dX8_valueOf_247 : decode cX8_valueOf 247 = .ok (.iconst 0, 1) := zk_3 (by decide +kernel)
theorem dX8_valueOf_248 : decode cX8_valueOf 248 = .ok (.laload, 1) := zk_47 (by decide +kernel)
theorem dX8_valueOf_249 : decode cX8_valueOf 249 = .ok (.goto 6, 3) := zk_167 (by decide +kernel)
theorem dX8_valueOf_53 : decode cX8_valueOf 53 = .ok (.iload 6, 2) := zk_21 (by decide +kernel)
theorem dX8_valueOf_55 : decode cX8_valueOf 55 = .ok (.aload_n 0, 1) := zk_42 (by decide +kernel)
theorem dX8_valueOf_56 : decode cX8_valueOf 56 = .ok (.getfield 13, 3) := zk_180 (by decide +kernel)
theorem dX8_valueOf_59 : decode cX8_valueOf 59 = .ok (.arraylength, 1) := zk_190 (by decide +kernel)
theorem dX8_valueOf_60 : decode cX8_valueOf 60 = .ok (.if_icmp .ge 177, 3) := zk_162 (by decide +kernel)
theorem dX8_valueOf_63 : decode cX8_valueOf 63 = .ok (.iconst (-1), 1) := zk_2 (by decide +kernel)
theorem dX8_valueOf_64 : decode cX8_valueOf 64 = .ok (.aload_n 0, 1) := zk_42 (by decide +kernel)
theorem dX8_valueOf_65 : decode cX8_valueOf 65 = .ok (.getfield 13, 3) := zk_180 (by decide +kernel)
theorem dX8_valueOf_68 : decode cX8_valueOf 68 = .ok (.iload 6, 2) := zk_21 (by decide +kernel)
theorem dX8_valueOf_70 : decode cX8_valueOf 70 = .ok (.iaload, 1) := zk_46 (by decide +kernel)
theorem dX8_valueOf_71 : decode cX8_valueOf 71 = .ok (.isub, 1) := zk_100 (by decide +kernel)
theorem dX8_valueOf_72 : decode cX8_valueOf 72 = .ok (.istore 7, 2) := zk_54 (by decide +kernel)
theorem dX8_valueOf_74 : decode cX8_valueOf 74 = .ok (.iload 7, 2) := zk_21 (by decide +kernel)
theorem dX8_valueOf_76 : decode cX8_valueOf 76 = .ok (.invokestatic 46, 3) := zk_184 (by decide +kernel)
theorem dX8_valueOf_79 : decode cX8_valueOf 79 = .ok (.istore 8, 2) := zk_54 (by decide +kernel)
theorem dX8_valueOf_81 : decode cX8_valueOf 81 = .ok (.iload 4, 2) := zk_21 (by decide +kernel)
theorem dX8_valueOf_83 : decode cX8_valueOf 83 = .ok (.iload 8, 2) := zk_21 (by decide +kernel)
theorem dX8_valueOf_85 : decode cX8_valueOf 85 = .ok (.if_icmp .lt 16, 3) := zk_161 (by decide +kernel)
theorem dX8_valueOf_101 : decode cX8_valueOf 101 = .ok (.ldc2_w 44, 3) := zk_20 (by decide +kernel)
theorem dX8_valueOf_104 : decode cX8_valueOf 104 = .ok (.lreturn, 1) := zk_173 (by decide +kernel)
theorem dX8_valueOf_88 : decode cX8_valueOf 88 = .ok (.iload 4, 2) := zk_21 (by decide +kernel)
theorem dX8_valueOf_90 : decode cX8_valueOf 90 = .ok (.iload 8, 2) := zk_21 (by decide +kernel)
theorem dX8_valueOf_92 : decode cX8_valueOf 92 = .ok (.isub, 1) := zk_100 (by decide +kernel)
theorem dX8_valueOf_93 : decode cX8_valueOf 93 = .ok (.aload_n 0, 1) := zk_42 (by decide +kernel)
theorem dX8_valueOf_94 : decode cX8_valueOf 94 = .ok (.getfield 23, 3) := zk_180 (by decide +kernel)
theorem dX8_valueOf_97 : decode cX8_valueOf 97 = .ok (.arraylength, 1) := zk_190 (by decide +kernel)
theorem dX8_valueOf_98 : decode cX8_valueOf 98 = .ok (.if_icmp .lt 7, 3) := zk_161 (by decide +kernel)
theorem dX8_valueOf_105 : decode cX8_valueOf 105 = .ok (.iload 4, 2) := zk_21 (by decide +kernel)
theorem dX8_valueOf_107 : decode cX8_valueOf 107 = .ok (.iload 8, 2) := zk_21 (by decide +kernel)
theorem dX8_valueOf_109 : decode cX8_valueOf 109 = .ok (.isub, 1) := zk_100 (by decide +kernel)
theorem dX8_valueOf_110 : decode cX8_valueOf 110 = .ok (.istore 4, 2) := zk_54 (by decide +kernel)
theorem dX8_valueOf_112 : decode cX8_valueOf 112 = .ok (.iload 8, 2) := zk_21 (by decide +kernel)
theorem dX8_valueOf_114 : decode cX8_valueOf 114 = .ok (.iconst 2, 1) := zk_5 (by decide +kernel)
theorem dX8_valueOf_115 : decode cX8_valueOf 115 = .ok (.if_icmp .ne 29, 3) := zk_160 (by decide +kernel)
theorem dX8_valueOf_144 : decode cX8_valueOf 144 = .ok (.iload 8, 2) := zk_21 (by decide +kernel)
theorem dX8_valueOf_146 : decode cX8_valueOf 146 = .ok (.iconst 1, 1) := zk_4 (by decide +kernel)
theorem dX8_valueOf_147 : decode cX8_valueOf 147 = .ok (.if_icmp .ne 25, 3) := zk_160 (by decide +kernel)
theorem dX8_valueOf_172 : decode cX8_valueOf 172 = .ok (.iload 7, 2) := zk_21 (by decide +kernel)
theorem dX8_valueOf_174 : decode cX8_valueOf 174 = .ok (.ifCond .ge 14, 3) := zk_156 (by decide +kernel)
theorem dX8_valueOf_188 : decode cX8_valueOf 188 = .ok (.iload 7, 2) := zk_21 (by decide +kernel)
theorem dX8_valueOf_190 : decode cX8_valueOf 190 = .ok (.aload_n 2, 1) := zk_44 (by decide +kernel)
theorem dX8_valueOf_191 : decode cX8_valueOf 191 = .ok (.aload_n 3, 1) := zk_45 (by decide +kernel)
theorem dX8_valueOf_192 : decode cX8_valueOf 192 = .ok (.invokestatic 54, 3) := zk_184 (by decide +kernel)
theorem dX8_valueOf_195 : decode cX8_valueOf 195 = .ok (.lstore 9, 2) := zk_55 (by decide +kernel)
theorem dX8_valueOf_197 : decode cX8_valueOf 197 = .ok (.lload 9, 2) := zk_22 (by decide +kernel)
theorem dX8_valueOf_199 : decode cX8_valueOf 199 = .ok (.ldc2_w 57, 3) := zk_20 (by decide +kernel)
theorem dX8_valueOf_202 : decode cX8_valueOf 202 = .ok (.lcmp, 1) := zk_148 (by decide +kernel)
theorem dX8_valueOf_203 : decode cX8_valueOf 203 = .ok (.ifCond .gt 12, 3) := zk_157 (by decide +kernel)
theorem dX8_valueOf_215 : decode cX8_valueOf 215 = .ok (.ldc2_w 44, 3) := zk_20 (by decide +kernel)
theorem dX8_valueOf_218 : decode cX8_valueOf 218 = .ok (.lreturn, 1) := zk_173 (by decide +kernel)
theorem dX8_valueOf_206 : decode cX8_valueOf 206 = .ok (.lload 9, 2) := zk_22 (by decide +kernel)
theorem dX8_valueOf_208 : decode cX8_valueOf 208 = .ok (.ldc2_w 59, 3) := zk_20 (by decide +kernel)
theorem dX8_valueOf_211 : decode cX8_valueOf 211 = .ok (.lcmp, 1) := zk_148 (by decide +kernel)
theorem dX8_valueOf_212 : decode cX8_valueOf 212 = .ok (.ifCond .ge 7, 3) := zk_156 (by decide +kernel)
theorem dX8_valueOf_219 : decode cX8_valueOf 219 = .ok (.aload_n 0, 1) := zk_42 (by decide +kernel)
theorem dX8_valueOf_220 : decode cX8_valueOf 220 = .ok (.getfield 23, 3) := zk_180 (by decide +kernel)
theorem dX8_valueOf_223 : decode cX8_valueOf 223 = .ok (.iload 4, 2) := zk_21 (by decide +kernel)
theorem dX8_valueOf_225 : decode cX8_valueOf 225 = .ok (.lload 9, 2) := zk_22 (by decide +kernel)
theorem dX8_valueOf_227 : decode cX8_valueOf 227 = .ok (.lastore, 1) := zk_80 (by decide +kernel)
theorem dX8_valueOf_228 : decode cX8_valueOf 228 = .ok (.iinc 4 1, 3) := zk_132 (by decide +kernel)
theorem dX8_valueOf_231 : decode cX8_valueOf 231 = .ok (.iinc 6 1, 3) := zk_132 (by decide +kernel)
theorem dX8_valueOf_234 : decode cX8_valueOf 234 = .ok (.goto (-192), 3) := zk_167 (by decide +kernel)
theorem dX8_valueOf_177 : decode cX8_valueOf 177 = .ok (.aload_n 0, 1) := zk_42 (by decide +kernel)
theorem dX8_valueOf_178 : decode cX8_valueOf 178 = .ok (.getfield 13, 3) := zk_180 (by decide +kernel)
theorem dX8_valueOf_181 : decode cX8_valueOf 181 = .ok (.iload 6, 2) := zk_21 (by decide +kernel)
theorem dX8_valueOf_183 : decode cX8_valueOf 183 = .ok (.iaload, 1) := zk_46 (by decide +kernel)
theorem dX8_valueOf_184 : decode cX8_valueOf 184 = .ok (.i2l, 1) := zk_133 (by decide +kernel)
theorem dX8_valueOf_185 : decode cX8_valueOf 185 = .ok (.goto 10, 3) := zk_167 (by decide +kernel)
theorem dX8_valueOf_150 : decode cX8_valueOf 150 = .ok (.aload_n 0, 1) := zk_42 (by decide +kernel)
theorem dX8_valueOf_151 : decode cX8_valueOf 151 = .ok (.getfield 23, 3) := zk_180 (by decide +kernel)
theorem dX8_valueOf_154 : decode cX8_valueOf 154 = .ok (.iload 4, 2) := zk_21 (by decide +kernel)
theorem dX8_valueOf_156 : decode cX8_valueOf 156 = .ok (.laload, 1) := zk_47 (by decide +kernel)
theorem dX8_valueOf_157 : decode cX8_valueOf 157 = .ok (.lconst 0, 1) := zk_9 (by decide +kernel)
theorem dX8_valueOf_158 : decode cX8_valueOf 158 = .ok (.lcmp, 1) := zk_148 (by decide +kernel)
theorem dX8_valueOf_159 : decode cX8_valueOf 159 = .ok (.ifCond .ne 7, 3) := zk_154 (by decide +kernel)
theorem dX8_valueOf_166 : decode cX8_valueOf 166 = .ok (.lconst 0, 1) := zk_9 (by decide +kernel)
theorem dX8_valueOf_167 : decode cX8_valueOf 167 = .ok (.lstore 9, 2) := zk_55 (by decide +kernel)
theorem dX8_valueOf_169 : decode cX8_valueOf 169 = .ok (.goto 28, 3) := zk_167 (by decide +kernel)
theorem dX8_valueOf_162 : decode cX8_valueOf 162 = .ok (.lconst 1, 1) := zk_10 (by decide +kernel)
theorem dX8_valueOf_163 : decode cX8_valueOf 163 = .ok (.goto 4, 3) := zk_167 (by decide +kernel)
theorem dX8_valueOf_118 : decode cX8_valueOf 118 = .ok (.iload 7, 2) := zk_21 (by decide +kernel)
theorem dX8_valueOf_120 : decode cX8_valueOf 120 = .ok (.aload_n 0, 1) := zk_42 (by decide +kernel)
theorem dX8_valueOf_121 : decode cX8_valueOf 121 = .ok (.getfield 23, 3) := zk_180 (by decide +kernel)
theorem dX8_valueOf_124 : decode cX8_valueOf 124 = .ok (.iload 4, 2) := zk_21 (by decide +kernel)
theorem dX8_valueOf_126 : decode cX8_valueOf 126 = .ok (.laload, 1) := zk_47 (by decide +kernel)
theorem dX8_valueOf_127 : decode cX8_valueOf 127 = .ok (.aload_n 0, 1) := zk_42 (by decide +kernel)
theorem dX8_valueOf_128 : decode cX8_valueOf 128 = .ok (.getfield 23, 3) := zk_180 (by decide +kernel)
theorem dX8_valueOf_131 : decode cX8_valueOf 131 = .ok (.iload 4, 2) := zk_21 (by decide +kernel)
theorem dX8_valueOf_133 : decode cX8_valueOf 133 = .ok (.iconst 1, 1) := zk_4 (by decide +kernel)
theorem dX8_valueOf_134 : decode cX8_valueOf 134 = .ok (.iadd, 1) := zk_96 (by decide +kernel)
theorem dX8_valueOf_135 : decode cX8_valueOf 135 = .ok (.laload, 1) := zk_47 (by decide +kernel)
theorem dX8_valueOf_136 : decode cX8_valueOf 136 = .ok (.invokestatic 50, 3) := zk_184 (by decide +kernel)
theorem dX8_valueOf_139 : decode cX8_valueOf 139 = .ok (.lstore 9, 2) := zk_55 (by decide +kernel)
theorem dX8_valueOf_141 : decode cX8_valueOf 141 = .ok (.goto 56, 3) := zk_167 (by decide +kernel)
theorem dX8_valueOf_24 : decode cX8_valueOf 24 = .ok (.iconst 0, 1) := zk_3 (by decide +kernel)
theorem dX8_valueOf_25 : decode cX8_valueOf 25 = .ok (.goto 11, 3) := zk_167 (by decide +kernel)
set_option maxHeartbeats 4000000 in
set_option maxRecDepth 100000 in
theorem gr_valueOf (l : Launch) (dC : Nat → ClassId) (dI : Nat → Nat → Nat) (ru : Nat) (rco : Nat) (rsz : Int32) (ren : Nat) (rst : Nat) (rkn : Int32) (cRc : ClassId) (fRc : Nat → Int32) (cRe : ClassId) (fRe : Nat → Int32) (cRs : ClassId) (fRs : Nat → Int64) (mm : Nat) (mla : Value) (ct : Int64) (yr : Int64) (dy : Int64) (lg : Int64) (sk : Nat) (wd : Int32) (wf : Int32) (mp : Int32) (mb : Int32) (mo : Int32) (sp : Int32) (sb : Int32) (a0 : Int32) (sz : Nat) (hE : ∀ k, ¬ fRe k < 0) : Met l yX8_valueOf (Cond.code yX8_valueOf cX8_valueOf 11 (some .long) :: wsL_law) ({ frames := 2, cells := 0, slots := 0, locals := 51 }) (va_Pc [.ref ru, .int a0, .ref mm, .ref sk] (fun U => U.heap.size = sz ∧ va_P (dC, dI) vwCl [(eO8a ru rco rsz ren rst rkn), (eA0 rco cRc 64 fRc), (eA0 ren cRe 4 fRe), (eA1 rst cRs 64 fRs), (mm, .inr (4, [mla, .long ct, .long yr, .long dy, .long lg])), (eO9a sk wd wf mp mb mo sp sb)] U.heap ∧ va_K (dC, dI) vwCl [(cRc, .int), (cRe, .int), (cRs, .long)] U ∧ va_D (fun _ => True) [(eO8a ru rco rsz ren rst rkn), (eA0 rco cRc 64 fRc), (eA0 ren cRe 4 fRe), (eA1 rst cRs 64 fRs), (mm, .inr (4, [mla, .long ct, .long yr, .long dy, .long lg])), (eO9a sk wd wf mp mb mo sp sb)])) (va_Ql (fun (r : Int64) (u : (Nat → Int64)) => r = (fr_valueOf fRc fRe fRs ct yr dy lg wd wf mp mb mo sp sb a0).1 ∧ u = (fr_valueOf fRc fRe fRs ct yr dy lg wd wf mp mb mo sp sb a0).2) (fun (u : (Nat → Int64)) t => va_P (dC, dI) vwCl [(eO8a ru rco rsz ren rst rkn), (eA0 rco cRc 64 fRc), (eA0 ren cRe 4 fRe), (eA1 rst cRs 64 u), (mm, .inr (4, [mla, .long ct, .long yr, .long dy, .long lg])), (eO9a sk wd wf mp mb mo sp sb)] t.heap ∧ va_K (dC, dI) vwCl [] t ∧ va_D (va_A [(eO8a ru rco rsz ren rst rkn), (eA0 rco cRc 64 fRc), (eA0 ren cRe 4 fRe), (eA1 rst cRs 64 fRs), (mm, .inr (4, [mla, .long ct, .long yr, .long dy, .long lg])), (eO9a sk wd wf mp mb mo sp sb)] sz) [(eO8a ru rco rsz ren rst rkn), (eA0 rco cRc 64 fRc), (eA0 ren cRe 4 fRe), (eA1 rst cRs 64 u), (mm, .inr (4, [mla, .long ct, .long yr, .long dy, .long lg])), (eO9a sk wd wf mp mb mo sp sb)]) (va_A [(eO8a ru rco rsz ren rst rkn), (eA0 rco cRc 64 fRc), (eA0 ren cRe 4 fRe), (eA1 rst cRs 64 fRs), (mm, .inr (4, [mla, .long ct, .long yr, .long dy, .long lg])), (eO9a sk wd wf mp mb mo sp sb)] sz)) 0 0 (va_A [(eO8a ru rco rsz ren rst rkn), (eA0 rco cRc 64 fRc), (eA0 ren cRe 4 fRe), (eA1 rst cRs 64 fRs), (mm, .inr (4, [mla, .long ct, .long yr, .long dy, .long lg])), (eO9a sk wd wf mp mb mo sp sb)] sz) := by
  refine Met.ofW (cc := cX8_valueOf) (maxL := 11) (ret := (some .long)) (by decide) rfl ?_
  intro p e s m args below meth c s₁ B hml hv
  obtain ⟨rfl, hsz, hP, hK, hD0⟩ := hv
  have hx := B.exec
  have hb := B.bytes
  have hr := B.returns
  have hts := atoms_spec (ws := Cond.code yX8_valueOf cX8_valueOf 11 (some .long) :: wsL_law) B.pre
  have htw : ∀ w ∈ wsL_law, w.before _ s = true := fun w h => hts w (List.mem_cons_of_mem _ h)
  have hown : s.vm.findClass RX8 = some m.cls := findClass_of_methodNamed B.named
  have hlocks := B.notSynchronized
  subst hsz
  have hD := hD0.self (sz := s.heap.size)
  generalize hAe : va_A [(eO8a ru rco rsz ren rst rkn), (eA0 rco cRc 64 fRc), (eA0 ren cRe 4 fRe), (eA1 rst cRs 64 fRs), (mm, .inr (4, [mla, .long ct, .long yr, .long dy, .long lg])), (eO9a sk wd wf mp mb mo sp sb)] s.heap.size = A at hD ⊢
  have hA : ∀ q : Nat, s.heap.size ≤ q → A q := fun q h => by rw [← hAe]; exact Or.inr h
  obtain ⟨H, rH⟩ : ∃ z : Heap, z = s.heap := ⟨_, rfl⟩
  have hS : va_S A s.heap H [] := by rw [rH]; exact va_S.rf
  have hP : va_P (dC, dI) vwCl [(eO8a ru rco rsz ren rst rkn), (eA0 rco cRc 64 fRc), (eA0 ren cRe 4 fRe), (eA1 rst cRs 64 fRs), (mm, .inr (4, [mla, .long ct, .long yr, .long dy, .long lg])), (eO9a sk wd wf mp mb mo sp sb)] H := by rw [rH]; exact hP
  rw [← rH]
  have hl := lv_entry ([.ref ru, .int a0, .ref mm, .ref sk]) (n := 11) (Nat.le_of_ble_eq_true rfl)
  rw [lg_entry_eq]
  generalize (lg_sl ([.ref ru, .int a0, .ref mm, .ref sk]) ++ List.replicate (11 - (lg_sl ([.ref ru, .int a0, .ref mm, .ref sk])).length) Slot.unset).toArray = ls at hl ⊢
  have hl : lv_has ls 11 [(0, .ref ru), (1, .int a0), (2, .ref mm), (3, .ref sk)] := hl
  refine lv_iload_n hx hb dX8_valueOf_0 rfl (lv_at hl 1 rfl) ?_
  refine lv_if_lt (tgt := 13) hx hb dX8_valueOf_1 (by decide) (fun c_1 => ?_) (fun c_1 => ?_)
  · refine lv_ldc2 (v := (-9223372036854775808)) hx hb hown (htw _ (ck_39 _ (List.mem_of_getElem? (i := 8) rfl))) dX8_valueOf_13 ?_
    refine W.widen (k := 0) (n := 0) (by omega) (by omega) ?_
    have hP9 := hP
    have hD9 := hD
    have hK9 := hK.sub (tys' := []) [] rfl
    exact W.lret (v := (-9223372036854775808)) hx hb hr (fun t ht hW => ⟨⟨(-9223372036854775808), fRs, rfl, ((fun e9 => ⟨by rw [e9], by rw [e9]⟩ : fr_valueOf fRc fRe fRs ct yr dy lg wd wf mp mb mo sp sb a0 = ((-9223372036854775808 : Int64), fRs) → _) (by rw [fr_valueOf]; (try rw [if_pos c_1]); try rfl)), by rw [ht]; exact hP9, va_K.moved hW.alike hK9, hD9⟩, hS.F ht⟩) hS.2.2 dX8_valueOf_16
  · refine lv_iload_n hx hb dX8_valueOf_4 rfl (lv_at hl 1 rfl) ?_
    refine lv_aload_n hx hb dX8_valueOf_5 rfl (lv_at hl 0 rfl) ?_
    refine va_get (D := (dC, dI)) (ci := 8) (v := .ref ren) (C := RX8) (T := TX8) (N := 5) hx hb htw inlX8 hown hK hP 0 rfl rfl 2 (by decide) (htw _ (ck_7 _ (List.mem_of_getElem? (i := 3) rfl))) (fun _ h9 => h9) rfl dX8_valueOf_6 ?_
    refine va_alen hx hb hK hP 2 1 rfl rfl (v := 4) rfl dX8_valueOf_9 ?_
    refine lv_icmp_lt (tgt := 17) hx hb dX8_valueOf_10 (by decide) (fun c_2 => ?_) (fun c_2 => ?_)
    · refine lv_iconst (v := 0) hx hb dX8_valueOf_17 (by decide) ?_
      refine lv_istore (lv' := [(4, .int 0), (0, .ref ru), (1, .int a0), (2, .ref mm), (3, .ref sk)]) hx hb dX8_valueOf_18 hl (by decide) rfl (fun ls hl => ?_)
      refine lv_iload_n hx hb dX8_valueOf_20 rfl (lv_at hl 2 rfl) ?_
      refine lv_if_ne (tgt := 28) hx hb dX8_valueOf_21 (by decide) (fun c_3 => ?_) (fun c_3 => ?_)
      · refine lv_aload_n hx hb dX8_valueOf_28 rfl (lv_at hl 1 rfl) ?_
        refine va_get (D := (dC, dI)) (ci := 8) (v := .ref ren) (C := RX8) (T := TX8) (N := 5) hx hb htw inlX8 hown hK hP 0 rfl rfl 2 (by decide) (htw _ (ck_7 _ (List.mem_of_getElem? (i := 3) rfl))) (fun _ h9 => h9) rfl dX8_valueOf_29 ?_
        refine lv_iload_n hx hb dX8_valueOf_32 rfl (lv_at hl 2 rfl) ?_
        refine lv_iconst (v := 1) hx hb dX8_valueOf_33 (by decide) ?_
        refine lv_isub hx hb dX8_valueOf_34 ?_
        refine va_iald hx hb hK hP 2 1 rfl rfl (xv_pre c_1 c_3 c_2) dX8_valueOf_35 ?_
        refine lv_istore (lv' := [(5, .int (fRe ((a0 - 1).toNatClampNeg))), (4, .int 0), (0, .ref ru), (1, .int a0), (2, .ref mm), (3, .ref sk)]) hx hb dX8_valueOf_36 hl (by decide) rfl (fun ls hl => ?_)
        refine lv_iload hx hb dX8_valueOf_38 (lv_at hl 0 rfl) ?_
        refine lv_istore (lv' := [(6, .int (fRe ((a0 - 1).toNatClampNeg))), (5, .int (fRe ((a0 - 1).toNatClampNeg))), (4, .int 0), (0, .ref ru), (1, .int a0), (2, .ref mm), (3, .ref sk)]) hx hb dX8_valueOf_40 hl (by decide) rfl (fun ls hl => ?_)
        have hloop_4 : ∀ (n : Nat) (tp : Int32) (i : Int32) (g : Nat → Int64) (hi0 : 0 ≤ i.toInt) (hin : 64 ≤ i.toInt + (n : Int)) (htp : 0 ≤ tp.toInt ∧ tp.toInt ≤ i.toInt) (hI : fr_valueOf fRc fRe fRs ct yr dy lg wd wf mp mb mo sp sb a0 = fr_valueOf_L fRc fRe ct yr dy lg wd wf mp mb mo sp sb a0 n tp i g) (H : Heap) (locs : List Loc) (ls : Array Slot) (hP : va_P (dC, dI) vwCl [(eO8a ru rco rsz ren rst rkn), (eA0 rco cRc 64 fRc), (eA0 ren cRe 4 fRe), (eA1 rst cRs 64 g), (mm, .inr (4, [mla, .long ct, .long yr, .long dy, .long lg])), (eO9a sk wd wf mp mb mo sp sb)] H) (hD : va_D A [(eO8a ru rco rsz ren rst rkn), (eA0 rco cRc 64 fRc), (eA0 ren cRe 4 fRe), (eA1 rst cRs 64 g), (mm, .inr (4, [mla, .long ct, .long yr, .long dy, .long lg])), (eO9a sk wd wf mp mb mo sp sb)]) (hS : va_S A s.heap H locs) (hl : lv_has ls 11 [(4, .int tp), (6, .int i), (5, .int (fRe ((a0 - 1).toNatClampNeg))), (0, .ref ru), (1, .int a0), (2, .ref mm), (3, .ref sk)]), W p l e (headSpec (Cond.code yX8_valueOf cX8_valueOf 11 (some .long) :: wsL_law) ({ frames := 2, cells := 0, slots := 0, locals := 51 })).room s m ([.ref ru, .int a0, .ref mm, .ref sk] : List Value).toArray below meth c H locs 0 0 (MQ below (va_Ql (fun (r : Int64) (u : (Nat → Int64)) => r = (fr_valueOf fRc fRe fRs ct yr dy lg wd wf mp mb mo sp sb a0).1 ∧ u = (fr_valueOf fRc fRe fRs ct yr dy lg wd wf mp mb mo sp sb a0).2) (fun (u : (Nat → Int64)) t => va_P (dC, dI) vwCl [(eO8a ru rco rsz ren rst rkn), (eA0 rco cRc 64 fRc), (eA0 ren cRe 4 fRe), (eA1 rst cRs 64 u), (mm, .inr (4, [mla, .long ct, .long yr, .long dy, .long lg])), (eO9a sk wd wf mp mb mo sp sb)] t.heap ∧ va_K (dC, dI) vwCl [] t ∧ va_D A [(eO8a ru rco rsz ren rst rkn), (eA0 rco cRc 64 fRc), (eA0 ren cRe 4 fRe), (eA1 rst cRs 64 u), (mm, .inr (4, [mla, .long ct, .long yr, .long dy, .long lg])), (eO9a sk wd wf mp mb mo sp sb)]) A) ([.ref ru, .int a0, .ref mm, .ref sk] : List Value).toArray s 0 0 A) (F0 m 42 ls []) := by
          intro n
          induction n with
          | zero =>
            intro tp i g hi0 hin htp hI H locs ls hP hD hS hl
            refine lv_iload hx hb dX8_valueOf_42 (lv_at hl 1 rfl) ?_
            refine lv_aload_n hx hb dX8_valueOf_44 rfl (lv_at hl 3 rfl) ?_
            refine va_get (D := (dC, dI)) (ci := 8) (v := .ref ren) (C := RX8) (T := TX8) (N := 5) hx hb htw inlX8 hown hK hP 0 rfl rfl 2 (by decide) (htw _ (ck_7 _ (List.mem_of_getElem? (i := 3) rfl))) (fun _ h9 => h9) rfl dX8_valueOf_45 ?_
            refine lv_iload_n hx hb dX8_valueOf_48 rfl (lv_at hl 4 rfl) ?_
            refine va_iald hx hb hK hP 2 1 rfl rfl (xg_inr (N := 4) rfl c_1 (Int32.not_le.mpr c_2)) dX8_valueOf_49 ?_
            refine lv_icmp_ge (tgt := 237) hx hb dX8_valueOf_50 (by decide) (fun c_5 => ?_) (fun c_5 => ?_)
            · refine lv_iload hx hb dX8_valueOf_237 (lv_at hl 0 rfl) ?_
              refine lv_iconst (v := 1) hx hb dX8_valueOf_239 (by decide) ?_
              refine lv_icmp_ne (tgt := 252) hx hb dX8_valueOf_240 (by decide) (fun c_6 => ?_) (fun c_6 => ?_)
              · refine lv_ldc2 (v := (-9223372036854775808)) hx hb hown (htw _ (ck_39 _ (List.mem_of_getElem? (i := 8) rfl))) dX8_valueOf_252 ?_
                refine W.widen (k := 0) (n := 0) (by omega) (by omega) ?_
                obtain ⟨hP9, hD9⟩ := zsub2 (ws' := [(eO8a ru rco rsz ren rst rkn), (eA0 rco cRc 64 fRc), (eA0 ren cRe 4 fRe), (eA1 rst cRs 64 g), (mm, .inr (4, [mla, .long ct, .long yr, .long dy, .long lg])), (eO9a sk wd wf mp mb mo sp sb)]) hP hD [0, 1, 2, 3, 4, 5] (by decide) rfl
                have hK9 := hK.sub (tys' := []) [] rfl
                exact W.lret (v := (-9223372036854775808)) hx hb hr (fun t ht hW => ⟨⟨(-9223372036854775808), g, rfl, ((fun e9 => ⟨by rw [e9], by rw [e9]⟩ : fr_valueOf fRc fRe fRs ct yr dy lg wd wf mp mb mo sp sb a0 = ((-9223372036854775808 : Int64), g) → _) (hI.trans (by rw [fr_valueOf_L]; (try rw [if_pos c_5]); (try rw [if_neg c_6]); try rfl))), by rw [ht]; exact hP9, va_K.moved hW.alike hK9, hD9⟩, hS.F ht⟩) hS.2.2 dX8_valueOf_255
              · refine lv_aload_n hx hb dX8_valueOf_243 rfl (lv_at hl 3 rfl) ?_
                refine va_get (D := (dC, dI)) (ci := 8) (v := .ref rst) (C := RX8) (T := TX8) (N := 5) hx hb htw inlX8 hown hK hP 0 rfl rfl 3 (by decide) (htw _ (ck_7 _ (List.mem_of_getElem? (i := 4) rfl))) (fun _ h9 => h9) rfl dX8_valueOf_244 ?_
                refine lv_iconst (v := 0) hx hb dX8_valueOf_247 (by decide) ?_
                refine va_lald hx hb hK hP 3 2 rfl rfl (by unfold vp_in; decide) dX8_valueOf_248 ?_
                refine lv_goto (tgt := 255) hx hb dX8_valueOf_249 (by decide) ?_
                refine W.widen (k := 0) (n := 0) (by omega) (by omega) ?_
                obtain ⟨hP9, hD9⟩ := zsub2 (ws' := [(eO8a ru rco rsz ren rst rkn), (eA0 rco cRc 64 fRc), (eA0 ren cRe 4 fRe), (eA1 rst cRs 64 g), (mm, .inr (4, [mla, .long ct, .long yr, .long dy, .long lg])), (eO9a sk wd wf mp mb mo sp sb)]) hP hD [0, 1, 2, 3, 4, 5] (by decide) rfl
                have hK9 := hK.sub (tys' := []) [] rfl
                exact W.lret (v := g ((0 : Int32).toNatClampNeg)) hx hb hr (fun t ht hW => ⟨⟨g ((0 : Int32).toNatClampNeg), g, rfl, ((fun e9 => ⟨by rw [e9], by rw [e9]⟩ : fr_valueOf fRc fRe fRs ct yr dy lg wd wf mp mb mo sp sb a0 = (g ((0 : Int32).toNatClampNeg), g) → _) (hI.trans (by rw [fr_valueOf_L]; (try rw [if_pos c_5]); (try rw [if_pos c_6]); try rfl))), by rw [ht]; exact hP9, va_K.moved hW.alike hK9, hD9⟩, hS.F ht⟩) hS.2.2 dX8_valueOf_255
            · refine lv_iload hx hb dX8_valueOf_53 (lv_at hl 1 rfl) ?_
              refine lv_aload_n hx hb dX8_valueOf_55 rfl (lv_at hl 3 rfl) ?_
              refine va_get (D := (dC, dI)) (ci := 8) (v := .ref rco) (C := RX8) (T := TX8) (N := 5) hx hb htw inlX8 hown hK hP 0 rfl rfl 0 (by decide) (htw _ (ck_7 _ (List.mem_of_getElem? (i := 2) rfl))) (fun _ h9 => h9) rfl dX8_valueOf_56 ?_
              refine va_alen hx hb hK hP 1 0 rfl rfl (v := 64) rfl dX8_valueOf_59 ?_
              refine lv_icmp_ge (tgt := 237) hx hb dX8_valueOf_60 (by decide) (fun c_7 => ?_) (fun c_7 => absurd c_7 (fun h => h (xv_ge hin)))
              refine lv_iload hx hb dX8_valueOf_237 (lv_at hl 0 rfl) ?_
              refine lv_iconst (v := 1) hx hb dX8_valueOf_239 (by decide) ?_
              refine lv_icmp_ne (tgt := 252) hx hb dX8_valueOf_240 (by decide) (fun c_8 => ?_) (fun c_8 => ?_)
              · refine lv_ldc2 (v := (-9223372036854775808)) hx hb hown (htw _ (ck_39 _ (List.mem_of_getElem? (i := 8) rfl))) dX8_valueOf_252 ?_
                refine W.widen (k := 0) (n := 0) (by omega) (by omega) ?_
                obtain ⟨hP9, hD9⟩ := zsub2 (ws' := [(eO8a ru rco rsz ren rst rkn), (eA0 rco cRc 64 fRc), (eA0 ren cRe 4 fRe), (eA1 rst cRs 64 g), (mm, .inr (4, [mla, .long ct, .long yr, .long dy, .long lg])), (eO9a sk wd wf mp mb mo sp sb)]) hP hD [0, 1, 2, 3, 4, 5] (by decide) rfl
                have hK9 := hK.sub (tys' := []) [] rfl
                exact W.lret (v := (-9223372036854775808)) hx hb hr (fun t ht hW => ⟨⟨(-9223372036854775808), g, rfl, ((fun e9 => ⟨by rw [e9], by rw [e9]⟩ : fr_valueOf fRc fRe fRs ct yr dy lg wd wf mp mb mo sp sb a0 = ((-9223372036854775808 : Int64), g) → _) (hI.trans (by rw [fr_valueOf_L]; (try rw [if_neg c_5]); (try rw [if_neg c_8]); try rfl))), by rw [ht]; exact hP9, va_K.moved hW.alike hK9, hD9⟩, hS.F ht⟩) hS.2.2 dX8_valueOf_255
              · refine lv_aload_n hx hb dX8_valueOf_243 rfl (lv_at hl 3 rfl) ?_
                refine va_get (D := (dC, dI)) (ci := 8) (v := .ref rst) (C := RX8) (T := TX8) (N := 5) hx hb htw inlX8 hown hK hP 0 rfl rfl 3 (by decide) (htw _ (ck_7 _ (List.mem_of_getElem? (i := 4) rfl))) (fun _ h9 => h9) rfl dX8_valueOf_244 ?_
                refine lv_iconst (v := 0) hx hb dX8_valueOf_247 (by decide) ?_
                refine va_lald hx hb hK hP 3 2 rfl rfl (by unfold vp_in; decide) dX8_valueOf_248 ?_
                refine lv_goto (tgt := 255) hx hb dX8_valueOf_249 (by decide) ?_
                refine W.widen (k := 0) (n := 0) (by omega) (by omega) ?_
                obtain ⟨hP9, hD9⟩ := zsub2 (ws' := [(eO8a ru rco rsz ren rst rkn), (eA0 rco cRc 64 fRc), (eA0 ren cRe 4 fRe), (eA1 rst cRs 64 g), (mm, .inr (4, [mla, .long ct, .long yr, .long dy, .long lg])), (eO9a sk wd wf mp mb mo sp sb)]) hP hD [0, 1, 2, 3, 4, 5] (by decide) rfl
                have hK9 := hK.sub (tys' := []) [] rfl
                exact W.lret (v := g ((0 : Int32).toNatClampNeg)) hx hb hr (fun t ht hW => ⟨⟨g ((0 : Int32).toNatClampNeg), g, rfl, ((fun e9 => ⟨by rw [e9], by rw [e9]⟩ : fr_valueOf fRc fRe fRs ct yr dy lg wd wf mp mb mo sp sb a0 = (g ((0 : Int32).toNatClampNeg), g) → _) (hI.trans (by rw [fr_valueOf_L]; (try rw [if_neg c_5]); (try rw [if_pos c_8]); try rfl))), by rw [ht]; exact hP9, va_K.moved hW.alike hK9, hD9⟩, hS.F ht⟩) hS.2.2 dX8_valueOf_255
          | succ n ih =>
            intro tp i g hi0 hin htp hI H locs ls hP hD hS hl
            refine lv_iload hx hb dX8_valueOf_42 (lv_at hl 1 rfl) ?_
            refine lv_aload_n hx hb dX8_valueOf_44 rfl (lv_at hl 3 rfl) ?_
            refine va_get (D := (dC, dI)) (ci := 8) (v := .ref ren) (C := RX8) (T := TX8) (N := 5) hx hb htw inlX8 hown hK hP 0 rfl rfl 2 (by decide) (htw _ (ck_7 _ (List.mem_of_getElem? (i := 3) rfl))) (fun _ h9 => h9) rfl dX8_valueOf_45 ?_
            refine lv_iload_n hx hb dX8_valueOf_48 rfl (lv_at hl 4 rfl) ?_
            refine va_iald hx hb hK hP 2 1 rfl rfl (xg_inr (N := 4) rfl c_1 (Int32.not_le.mpr c_2)) dX8_valueOf_49 ?_
            refine lv_icmp_ge (tgt := 237) hx hb dX8_valueOf_50 (by decide) (fun c_9 => ?_) (fun c_9 => ?_)
            · refine lv_iload hx hb dX8_valueOf_237 (lv_at hl 0 rfl) ?_
              refine lv_iconst (v := 1) hx hb dX8_valueOf_239 (by decide) ?_
              refine lv_icmp_ne (tgt := 252) hx hb dX8_valueOf_240 (by decide) (fun c_10 => ?_) (fun c_10 => ?_)
              · refine lv_ldc2 (v := (-9223372036854775808)) hx hb hown (htw _ (ck_39 _ (List.mem_of_getElem? (i := 8) rfl))) dX8_valueOf_252 ?_
                refine W.widen (k := 0) (n := 0) (by omega) (by omega) ?_
                obtain ⟨hP9, hD9⟩ := zsub2 (ws' := [(eO8a ru rco rsz ren rst rkn), (eA0 rco cRc 64 fRc), (eA0 ren cRe 4 fRe), (eA1 rst cRs 64 g), (mm, .inr (4, [mla, .long ct, .long yr, .long dy, .long lg])), (eO9a sk wd wf mp mb mo sp sb)]) hP hD [0, 1, 2, 3, 4, 5] (by decide) rfl
                have hK9 := hK.sub (tys' := []) [] rfl
                exact W.lret (v := (-9223372036854775808)) hx hb hr (fun t ht hW => ⟨⟨(-9223372036854775808), g, rfl, ((fun e9 => ⟨by rw [e9], by rw [e9]⟩ : fr_valueOf fRc fRe fRs ct yr dy lg wd wf mp mb mo sp sb a0 = ((-9223372036854775808 : Int64), g) → _) (hI.trans (by rw [fr_valueOf_L]; (try rw [if_pos c_9]); (try rw [if_neg c_10]); try rfl))), by rw [ht]; exact hP9, va_K.moved hW.alike hK9, hD9⟩, hS.F ht⟩) hS.2.2 dX8_valueOf_255
              · refine lv_aload_n hx hb dX8_valueOf_243 rfl (lv_at hl 3 rfl) ?_
                refine va_get (D := (dC, dI)) (ci := 8) (v := .ref rst) (C := RX8) (T := TX8) (N := 5) hx hb htw inlX8 hown hK hP 0 rfl rfl 3 (by decide) (htw _ (ck_7 _ (List.mem_of_getElem? (i := 4) rfl))) (fun _ h9 => h9) rfl dX8_valueOf_244 ?_
                refine lv_iconst (v := 0) hx hb dX8_valueOf_247 (by decide) ?_
                refine va_lald hx hb hK hP 3 2 rfl rfl (by unfold vp_in; decide) dX8_valueOf_248 ?_
                refine lv_goto (tgt := 255) hx hb dX8_valueOf_249 (by decide) ?_
                refine W.widen (k := 0) (n := 0) (by omega) (by omega) ?_
                obtain ⟨hP9, hD9⟩ := zsub2 (ws' := [(eO8a ru rco rsz ren rst rkn), (eA0 rco cRc 64 fRc), (eA0 ren cRe 4 fRe), (eA1 rst cRs 64 g), (mm, .inr (4, [mla, .long ct, .long yr, .long dy, .long lg])), (eO9a sk wd wf mp mb mo sp sb)]) hP hD [0, 1, 2, 3, 4, 5] (by decide) rfl
                have hK9 := hK.sub (tys' := []) [] rfl
                exact W.lret (v := g ((0 : Int32).toNatClampNeg)) hx hb hr (fun t ht hW => ⟨⟨g ((0 : Int32).toNatClampNeg), g, rfl, ((fun e9 => ⟨by rw [e9], by rw [e9]⟩ : fr_valueOf fRc fRe fRs ct yr dy lg wd wf mp mb mo sp sb a0 = (g ((0 : Int32).toNatClampNeg), g) → _) (hI.trans (by rw [fr_valueOf_L]; (try rw [if_pos c_9]); (try rw [if_pos c_10]); try rfl))), by rw [ht]; exact hP9, va_K.moved hW.alike hK9, hD9⟩, hS.F ht⟩) hS.2.2 dX8_valueOf_255
            · refine lv_iload hx hb dX8_valueOf_53 (lv_at hl 1 rfl) ?_
              refine lv_aload_n hx hb dX8_valueOf_55 rfl (lv_at hl 3 rfl) ?_
              refine va_get (D := (dC, dI)) (ci := 8) (v := .ref rco) (C := RX8) (T := TX8) (N := 5) hx hb htw inlX8 hown hK hP 0 rfl rfl 0 (by decide) (htw _ (ck_7 _ (List.mem_of_getElem? (i := 2) rfl))) (fun _ h9 => h9) rfl dX8_valueOf_56 ?_
              refine va_alen hx hb hK hP 1 0 rfl rfl (v := 64) rfl dX8_valueOf_59 ?_
              refine lv_icmp_ge (tgt := 237) hx hb dX8_valueOf_60 (by decide) (fun c_11 => ?_) (fun c_11 => ?_)
              · refine lv_iload hx hb dX8_valueOf_237 (lv_at hl 0 rfl) ?_
                refine lv_iconst (v := 1) hx hb dX8_valueOf_239 (by decide) ?_
                refine lv_icmp_ne (tgt := 252) hx hb dX8_valueOf_240 (by decide) (fun c_12 => ?_) (fun c_12 => ?_)
                · refine lv_ldc2 (v := (-9223372036854775808)) hx hb hown (htw _ (ck_39 _ (List.mem_of_getElem? (i := 8) rfl))) dX8_valueOf_252 ?_
                  refine W.widen (k := 0) (n := 0) (by omega) (by omega) ?_
                  obtain ⟨hP9, hD9⟩ := zsub2 (ws' := [(eO8a ru rco rsz ren rst rkn), (eA0 rco cRc 64 fRc), (eA0 ren cRe 4 fRe), (eA1 rst cRs 64 g), (mm, .inr (4, [mla, .long ct, .long yr, .long dy, .long lg])), (eO9a sk wd wf mp mb mo sp sb)]) hP hD [0, 1, 2, 3, 4, 5] (by decide) rfl
                  have hK9 := hK.sub (tys' := []) [] rfl
                  exact W.lret (v := (-9223372036854775808)) hx hb hr (fun t ht hW => ⟨⟨(-9223372036854775808), g, rfl, ((fun e9 => ⟨by rw [e9], by rw [e9]⟩ : fr_valueOf fRc fRe fRs ct yr dy lg wd wf mp mb mo sp sb a0 = ((-9223372036854775808 : Int64), g) → _) (hI.trans (by rw [fr_valueOf_L]; (try rw [if_neg c_9]); (try rw [if_pos c_11]); (try rw [if_neg c_12]); try rfl))), by rw [ht]; exact hP9, va_K.moved hW.alike hK9, hD9⟩, hS.F ht⟩) hS.2.2 dX8_valueOf_255
                · refine lv_aload_n hx hb dX8_valueOf_243 rfl (lv_at hl 3 rfl) ?_
                  refine va_get (D := (dC, dI)) (ci := 8) (v := .ref rst) (C := RX8) (T := TX8) (N := 5) hx hb htw inlX8 hown hK hP 0 rfl rfl 3 (by decide) (htw _ (ck_7 _ (List.mem_of_getElem? (i := 4) rfl))) (fun _ h9 => h9) rfl dX8_valueOf_244 ?_
                  refine lv_iconst (v := 0) hx hb dX8_valueOf_247 (by decide) ?_
                  refine va_lald hx hb hK hP 3 2 rfl rfl (by unfold vp_in; decide) dX8_valueOf_248 ?_
                  refine lv_goto (tgt := 255) hx hb dX8_valueOf_249 (by decide) ?_
                  refine W.widen (k := 0) (n := 0) (by omega) (by omega) ?_
                  obtain ⟨hP9, hD9⟩ := zsub2 (ws' := [(eO8a ru rco rsz ren rst rkn), (eA0 rco cRc 64 fRc), (eA0 ren cRe 4 fRe), (eA1 rst cRs 64 g), (mm, .inr (4, [mla, .long ct, .long yr, .long dy, .long lg])), (eO9a sk wd wf mp mb mo sp sb)]) hP hD [0, 1, 2, 3, 4, 5] (by decide) rfl
                  have hK9 := hK.sub (tys' := []) [] rfl
                  exact W.lret (v := g ((0 : Int32).toNatClampNeg)) hx hb hr (fun t ht hW => ⟨⟨g ((0 : Int32).toNatClampNeg), g, rfl, ((fun e9 => ⟨by rw [e9], by rw [e9]⟩ : fr_valueOf fRc fRe fRs ct yr dy lg wd wf mp mb mo sp sb a0 = (g ((0 : Int32).toNatClampNeg), g) → _) (hI.trans (by rw [fr_valueOf_L]; (try rw [if_neg c_9]); (try rw [if_pos c_11]); (try rw [if_pos c_12]); try rfl))), by rw [ht]; exact hP9, va_K.moved hW.alike hK9, hD9⟩, hS.F ht⟩) hS.2.2 dX8_valueOf_255
              · refine lv_iconst (v := (-1)) hx hb dX8_valueOf_63 (by decide) ?_
                refine lv_aload_n hx hb dX8_valueOf_64 rfl (lv_at hl 3 rfl) ?_
                refine va_get (D := (dC, dI)) (ci := 8) (v := .ref rco) (C := RX8) (T := TX8) (N := 5) hx hb htw inlX8 hown hK hP 0 rfl rfl 0 (by decide) (htw _ (ck_7 _ (List.mem_of_getElem? (i := 2) rfl))) (fun _ h9 => h9) rfl dX8_valueOf_65 ?_
                refine lv_iload hx hb dX8_valueOf_68 (lv_at hl 1 rfl) ?_
                refine va_iald hx hb hK hP 1 0 rfl rfl (xg_inr (N := 64) rfl (xv_nl hi0) c_11) dX8_valueOf_70 ?_
                refine lv_isub hx hb dX8_valueOf_71 ?_
                refine lv_istore (lv' := [(7, .int ((-1) - (fRc i.toNatClampNeg))), (4, .int tp), (6, .int i), (5, .int (fRe ((a0 - 1).toNatClampNeg))), (0, .ref ru), (1, .int a0), (2, .ref mm), (3, .ref sk)]) hx hb dX8_valueOf_72 hl (by decide) rfl (fun ls hl => ?_)
                refine lv_iload hx hb dX8_valueOf_74 (lv_at hl 0 rfl) ?_
                have hPc := hP.sub (ws' := []) [] rfl
                have hKc := hK.sub (tys' := []) [] rfl
                refine vp_callSi (W.runS (As := [.int ((-1) - (fRc i.toNatClampNeg))]) (rest := []) ⟨hx, hb, hml, hown, htw⟩ (gr_takenBy l dC dI ((-1) - (fRc i.toNatClampNeg))) (va_cwS 1 htw (xg_S (ck_39 _ (List.mem_of_getElem? (i := 15) rfl)) (ck_39 _ (List.mem_of_getElem? (i := 16) rfl)) (ck_6 _ (List.mem_of_getElem? (i := 8) rfl)) (ck_39 _ (List.mem_of_getElem? (i := 17) rfl))) rfl rfl rfl (by exact ⟨hdc_1.1, hdc_1.2, hdd_2⟩) ⟨Nat.le_of_ble_eq_true rfl, Nat.le_of_ble_eq_true rfl⟩) ⟨fun a U g mk q => by obtain ⟨q0, qP, qK⟩ := q; exact ⟨q0, qP, va_K.moved (u := U) (U := U.calling g mk a) (Vm.Alike.refl U.vm) qK⟩, fun U hU hW => ⟨rfl, by rw [hU]; exact hPc, va_K.moved hW.alike hKc⟩⟩ rfl rfl hl.1 rfl (lv_room (Nat.le_of_ble_eq_true rfl)) dX8_valueOf_76 ⟨Nat.le_of_ble_eq_true rfl, Nat.le_of_ble_eq_true rfl⟩) (fun r_13 hw => ?_)
                try dsimp only at hw
                have hq_r_13 : r_13 = fr_takenBy ((-1) - (fRc i.toNatClampNeg)) := hw
                refine lv_istore (lv' := [(8, .int r_13), (7, .int ((-1) - (fRc i.toNatClampNeg))), (4, .int tp), (6, .int i), (5, .int (fRe ((a0 - 1).toNatClampNeg))), (0, .ref ru), (1, .int a0), (2, .ref mm), (3, .ref sk)]) hx hb dX8_valueOf_79 hl (by decide) rfl (fun ls hl => ?_)
                refine lv_iload hx hb dX8_valueOf_81 (lv_at hl 2 rfl) ?_
                refine lv_iload hx hb dX8_valueOf_83 (lv_at hl 0 rfl) ?_
                refine lv_icmp_lt (tgt := 101) hx hb dX8_valueOf_85 (by decide) (fun c_14 => ?_) (fun c_14 => ?_)
                · refine lv_ldc2 (v := (-9223372036854775808)) hx hb hown (htw _ (ck_39 _ (List.mem_of_getElem? (i := 8) rfl))) dX8_valueOf_101 ?_
                  refine W.widen (k := 0) (n := 0) (by omega) (by omega) ?_
                  obtain ⟨hP9, hD9⟩ := zsub2 (ws' := [(eO8a ru rco rsz ren rst rkn), (eA0 rco cRc 64 fRc), (eA0 ren cRe 4 fRe), (eA1 rst cRs 64 g), (mm, .inr (4, [mla, .long ct, .long yr, .long dy, .long lg])), (eO9a sk wd wf mp mb mo sp sb)]) hP hD [0, 1, 2, 3, 4, 5] (by decide) rfl
                  have hK9 := hK.sub (tys' := []) [] rfl
                  exact W.lret (v := (-9223372036854775808)) hx hb hr (fun t ht hW => ⟨⟨(-9223372036854775808), g, rfl, ((fun e9 => ⟨by rw [e9], by rw [e9]⟩ : fr_valueOf fRc fRe fRs ct yr dy lg wd wf mp mb mo sp sb a0 = ((-9223372036854775808 : Int64), g) → _) (hI.trans (by rw [fr_valueOf_L]; (try rw [← hq_r_13]); (try rw [if_neg c_9]); (try rw [if_neg c_11]); (try rw [if_pos c_14]); try rfl))), by rw [ht]; exact hP9, va_K.moved hW.alike hK9, hD9⟩, hS.F ht⟩) hS.2.2 dX8_valueOf_104
                · refine lv_iload hx hb dX8_valueOf_88 (lv_at hl 2 rfl) ?_
                  refine lv_iload hx hb dX8_valueOf_90 (lv_at hl 0 rfl) ?_
                  refine lv_isub hx hb dX8_valueOf_92 ?_
                  refine lv_aload_n hx hb dX8_valueOf_93 rfl (lv_at hl 5 rfl) ?_
                  refine va_get (D := (dC, dI)) (ci := 8) (v := .ref rst) (C := RX8) (T := TX8) (N := 5) hx hb htw inlX8 hown hK hP 0 rfl rfl 3 (by decide) (htw _ (ck_7 _ (List.mem_of_getElem? (i := 4) rfl))) (fun _ h9 => h9) rfl dX8_valueOf_94 ?_
                  refine va_alen hx hb hK hP 3 2 rfl rfl (v := 64) rfl dX8_valueOf_97 ?_
                  refine lv_icmp_lt (tgt := 105) hx hb dX8_valueOf_98 (by decide) (fun c_15 => ?_) (fun c_15 => ?_)
                  · refine lv_iload hx hb dX8_valueOf_105 (lv_at hl 2 rfl) ?_
                    refine lv_iload hx hb dX8_valueOf_107 (lv_at hl 0 rfl) ?_
                    refine lv_isub hx hb dX8_valueOf_109 ?_
                    refine lv_istore (lv' := [(4, .int (tp - r_13)), (8, .int r_13), (7, .int ((-1) - (fRc i.toNatClampNeg))), (6, .int i), (5, .int (fRe ((a0 - 1).toNatClampNeg))), (0, .ref ru), (1, .int a0), (2, .ref mm), (3, .ref sk)]) hx hb dX8_valueOf_110 hl (by decide) rfl (fun ls hl => ?_)
                    refine lv_iload hx hb dX8_valueOf_112 (lv_at hl 1 rfl) ?_
                    refine lv_iconst (v := 2) hx hb dX8_valueOf_114 (by decide) ?_
                    refine lv_icmp_ne (tgt := 144) hx hb dX8_valueOf_115 (by decide) (fun c_16 => ?_) (fun c_16 => ?_)
                    · refine lv_iload hx hb dX8_valueOf_144 (lv_at hl 1 rfl) ?_
                      refine lv_iconst (v := 1) hx hb dX8_valueOf_146 (by decide) ?_
                      refine lv_icmp_ne (tgt := 172) hx hb dX8_valueOf_147 (by decide) (fun c_17 => ?_) (fun c_17 => ?_)
                      · refine lv_iload hx hb dX8_valueOf_172 (lv_at hl 2 rfl) ?_
                        refine lv_if_ge (tgt := 188) hx hb dX8_valueOf_174 (by decide) (fun c_18 => ?_) (fun c_18 => ?_)
                        · refine lv_iload hx hb dX8_valueOf_188 (lv_at hl 2 rfl) ?_
                          refine lv_aload_n hx hb dX8_valueOf_190 rfl (lv_at hl 7 rfl) ?_
                          refine lv_aload_n hx hb dX8_valueOf_191 rfl (lv_at hl 8 rfl) ?_
                          have hPc := hP.sub (ws' := [(mm, .inr (4, [mla, .long ct, .long yr, .long dy, .long lg])), (eO9a sk wd wf mp mb mo sp sb)]) [4, 5] rfl
                          have hKc := hK.sub (tys' := []) [] rfl
                          refine vp_callSl (W.runS (As := [.int ((-1) - (fRc i.toNatClampNeg)), .ref mm, .ref sk]) (rest := []) ⟨hx, hb, hml, hown, htw⟩ (gr_nameOf l dC dI mm mla ct yr dy lg sk wd wf mp mb mo sp sb ((-1) - (fRc i.toNatClampNeg))) (va_cwS 3 htw (xg_S (ck_40 _ (List.mem_of_getElem? (i := 4) rfl)) (ck_40 _ (List.mem_of_getElem? (i := 5) rfl)) (ck_6 _ (List.mem_of_getElem? (i := 8) rfl)) (ck_40 _ (List.mem_of_getElem? (i := 6) rfl))) rfl rfl rfl (by exact ⟨hdc_1.1, hdc_1.2, hdd_10⟩) ⟨Nat.le_of_ble_eq_true rfl, Nat.le_of_ble_eq_true rfl⟩) ⟨fun a U g mk q => by obtain ⟨q0, qP, qK⟩ := q; exact ⟨q0, qP, va_K.moved (u := U) (U := U.calling g mk a) (Vm.Alike.refl U.vm) qK⟩, fun U hU hW => ⟨rfl, by rw [hU]; exact hPc, va_K.moved hW.alike hKc⟩⟩ rfl rfl hl.1 rfl (lv_room (Nat.le_of_ble_eq_true rfl)) dX8_valueOf_192 ⟨Nat.le_of_ble_eq_true rfl, Nat.le_of_ble_eq_true rfl⟩) (fun r_19 hw => ?_)
                          try dsimp only at hw
                          have hq_r_19 : r_19 = fr_nameOf ct yr dy lg wd wf mp mb mo sp sb ((-1) - (fRc i.toNatClampNeg)) := hw
                          refine lv_lstore (lv' := [(9, .long r_19), (4, .int (tp - r_13)), (8, .int r_13), (7, .int ((-1) - (fRc i.toNatClampNeg))), (6, .int i), (5, .int (fRe ((a0 - 1).toNatClampNeg))), (0, .ref ru), (1, .int a0), (2, .ref mm), (3, .ref sk)]) hx hb dX8_valueOf_195 hl (by decide) rfl (fun ls hl => ?_)
                          refine lv_lload hx hb dX8_valueOf_197 (lv_at hl 0 rfl) ?_
                          refine lv_ldc2 (v := 1000000000000) hx hb hown (htw _ (ck_39 _ (List.mem_of_getElem? (i := 13) rfl))) dX8_valueOf_199 ?_
                          refine W.lcmp hx hb dX8_valueOf_202 ?_
                          refine lv_if_gt (tgt := 215) hx hb dX8_valueOf_203 (by decide) (fun c_20 => ?_) (fun c_20 => ?_)
                          · refine lv_ldc2 (v := (-9223372036854775808)) hx hb hown (htw _ (ck_39 _ (List.mem_of_getElem? (i := 8) rfl))) dX8_valueOf_215 ?_
                            refine W.widen (k := 0) (n := 0) (by omega) (by omega) ?_
                            obtain ⟨hP9, hD9⟩ := zsub2 (ws' := [(eO8a ru rco rsz ren rst rkn), (eA0 rco cRc 64 fRc), (eA0 ren cRe 4 fRe), (eA1 rst cRs 64 g), (mm, .inr (4, [mla, .long ct, .long yr, .long dy, .long lg])), (eO9a sk wd wf mp mb mo sp sb)]) hP hD [0, 1, 2, 3, 4, 5] (by decide) rfl
                            have hK9 := hK.sub (tys' := []) [] rfl
                            exact W.lret (v := (-9223372036854775808)) hx hb hr (fun t ht hW => ⟨⟨(-9223372036854775808), g, rfl, ((fun e9 => ⟨by rw [e9], by rw [e9]⟩ : fr_valueOf fRc fRe fRs ct yr dy lg wd wf mp mb mo sp sb a0 = ((-9223372036854775808 : Int64), g) → _) (hI.trans (by rw [fr_valueOf_L]; (try rw [← hq_r_13]); (try rw [← hq_r_19]); (try rw [if_neg c_9]); (try rw [if_neg c_11]); (try rw [if_neg c_14]); (try rw [if_pos c_15]); (try rw [if_neg c_16]); (try rw [if_neg c_17]); (try rw [if_pos c_18]); (try rw [if_pos c_20]); try rfl))), by rw [ht]; exact hP9, va_K.moved hW.alike hK9, hD9⟩, hS.F ht⟩) hS.2.2 dX8_valueOf_218
                          · refine lv_lload hx hb dX8_valueOf_206 (lv_at hl 0 rfl) ?_
                            refine lv_ldc2 (v := (-1000000000000)) hx hb hown (htw _ (ck_39 _ (List.mem_of_getElem? (i := 14) rfl))) dX8_valueOf_208 ?_
                            refine W.lcmp hx hb dX8_valueOf_211 ?_
                            refine lv_if_ge (tgt := 219) hx hb dX8_valueOf_212 (by decide) (fun c_21 => ?_) (fun c_21 => ?_)
                            · refine lv_aload_n hx hb dX8_valueOf_219 rfl (lv_at hl 6 rfl) ?_
                              refine va_get (D := (dC, dI)) (ci := 8) (v := .ref rst) (C := RX8) (T := TX8) (N := 5) hx hb htw inlX8 hown hK hP 0 rfl rfl 3 (by decide) (htw _ (ck_7 _ (List.mem_of_getElem? (i := 4) rfl))) (fun _ h9 => h9) rfl dX8_valueOf_220 ?_
                              refine lv_iload hx hb dX8_valueOf_223 (lv_at hl 1 rfl) ?_
                              refine lv_lload hx hb dX8_valueOf_225 (lv_at hl 0 rfl) ?_
                              refine va_last hx hb hK hP hD hS 3 2 rfl rfl (xv_in htp (xv_r hq_r_13) c_14 c_11 c_15) dX8_valueOf_227 (fun H locs hP hD hS => ?_)
                              obtain ⟨hP, hD⟩ := zre [(eO8a ru rco rsz ren rst rkn), (eA0 rco cRc 64 fRc), (eA0 ren cRe 4 fRe), (eA1 rst cRs 64 (vp_updL g ((tp - r_13).toNatClampNeg) r_19)), (mm, .inr (4, [mla, .long ct, .long yr, .long dy, .long lg])), (eO9a sk wd wf mp mb mo sp sb)] hP hD rfl
                              refine lv_iinc (v := ((tp - r_13) + 1)) (lv' := [(4, .int ((tp - r_13) + 1)), (9, .long r_19), (8, .int r_13), (7, .int ((-1) - (fRc i.toNatClampNeg))), (6, .int i), (5, .int (fRe ((a0 - 1).toNatClampNeg))), (0, .ref ru), (1, .int a0), (2, .ref mm), (3, .ref sk)]) hx hb dX8_valueOf_228 hl (k := 1) rfl (rfl) (by decide) rfl (fun ls hl => ?_)
                              refine lv_iinc (v := (i + 1)) (lv' := [(6, .int (i + 1)), (4, .int ((tp - r_13) + 1)), (9, .long r_19), (8, .int r_13), (7, .int ((-1) - (fRc i.toNatClampNeg))), (5, .int (fRe ((a0 - 1).toNatClampNeg))), (0, .ref ru), (1, .int a0), (2, .ref mm), (3, .ref sk)]) hx hb dX8_valueOf_231 hl (k := 4) rfl (rfl) (by decide) rfl (fun ls hl => ?_)
                              refine lv_goto (tgt := 42) hx hb dX8_valueOf_234 (by decide) ?_
                              exact ih ((tp - r_13) + 1) (i + 1) (vp_updL g ((tp - r_13).toNatClampNeg) r_19) (by rw [xv_i1 hi0 c_11]; omega) (by rw [xv_i1 hi0 c_11]; omega) (xv_next htp (xv_r hq_r_13) c_14 c_11) (hI.trans (by rw [fr_valueOf_L]; (try rw [← hq_r_13]); (try rw [← hq_r_19]); (try rw [if_neg c_9]); (try rw [if_neg c_11]); (try rw [if_neg c_14]); (try rw [if_pos c_15]); (try rw [if_neg c_16]); (try rw [if_neg c_17]); (try rw [if_pos c_18]); (try rw [if_neg c_20]); (try rw [if_pos c_21]); try rfl)) H locs ls hP hD hS (lv_sub hl [1, 0, 5, 6, 7, 8, 9] rfl)
                            · refine lv_ldc2 (v := (-9223372036854775808)) hx hb hown (htw _ (ck_39 _ (List.mem_of_getElem? (i := 8) rfl))) dX8_valueOf_215 ?_
                              refine W.widen (k := 0) (n := 0) (by omega) (by omega) ?_
                              obtain ⟨hP9, hD9⟩ := zsub2 (ws' := [(eO8a ru rco rsz ren rst rkn), (eA0 rco cRc 64 fRc), (eA0 ren cRe 4 fRe), (eA1 rst cRs 64 g), (mm, .inr (4, [mla, .long ct, .long yr, .long dy, .long lg])), (eO9a sk wd wf mp mb mo sp sb)]) hP hD [0, 1, 2, 3, 4, 5] (by decide) rfl
                              have hK9 := hK.sub (tys' := []) [] rfl
                              exact W.lret (v := (-9223372036854775808)) hx hb hr (fun t ht hW => ⟨⟨(-9223372036854775808), g, rfl, ((fun e9 => ⟨by rw [e9], by rw [e9]⟩ : fr_valueOf fRc fRe fRs ct yr dy lg wd wf mp mb mo sp sb a0 = ((-9223372036854775808 : Int64), g) → _) (hI.trans (by rw [fr_valueOf_L]; (try rw [← hq_r_13]); (try rw [← hq_r_19]); (try rw [if_neg c_9]); (try rw [if_neg c_11]); (try rw [if_neg c_14]); (try rw [if_pos c_15]); (try rw [if_neg c_16]); (try rw [if_neg c_17]); (try rw [if_pos c_18]); (try rw [if_neg c_20]); (try rw [if_neg c_21]); try rfl))), by rw [ht]; exact hP9, va_K.moved hW.alike hK9, hD9⟩, hS.F ht⟩) hS.2.2 dX8_valueOf_218
                        · refine lv_aload_n hx hb dX8_valueOf_177 rfl (lv_at hl 5 rfl) ?_
                          refine va_get (D := (dC, dI)) (ci := 8) (v := .ref rco) (C := RX8) (T := TX8) (N := 5) hx hb htw inlX8 hown hK hP 0 rfl rfl 0 (by decide) (htw _ (ck_7 _ (List.mem_of_getElem? (i := 2) rfl))) (fun _ h9 => h9) rfl dX8_valueOf_178 ?_
                          refine lv_iload hx hb dX8_valueOf_181 (lv_at hl 3 rfl) ?_
                          refine va_iald hx hb hK hP 1 0 rfl rfl (xg_inr (N := 64) rfl (xv_nl hi0) c_11) dX8_valueOf_183 ?_
                          refine lv_i2l (v := (fRc i.toNatClampNeg).toInt64) hx hb dX8_valueOf_184 rfl ?_
                          refine lv_goto (tgt := 195) hx hb dX8_valueOf_185 (by decide) ?_
                          refine lv_lstore (lv' := [(9, .long ((fRc i.toNatClampNeg).toInt64)), (4, .int (tp - r_13)), (8, .int r_13), (7, .int ((-1) - (fRc i.toNatClampNeg))), (6, .int i), (5, .int (fRe ((a0 - 1).toNatClampNeg))), (0, .ref ru), (1, .int a0), (2, .ref mm), (3, .ref sk)]) hx hb dX8_valueOf_195 hl (by decide) rfl (fun ls hl => ?_)
                          refine lv_lload hx hb dX8_valueOf_197 (lv_at hl 0 rfl) ?_
                          refine lv_ldc2 (v := 1000000000000) hx hb hown (htw _ (ck_39 _ (List.mem_of_getElem? (i := 13) rfl))) dX8_valueOf_199 ?_
                          refine W.lcmp hx hb dX8_valueOf_202 ?_
                          refine lv_if_gt (tgt := 215) hx hb dX8_valueOf_203 (by decide) (fun c_23 => ?_) (fun c_23 => ?_)
                          · refine lv_ldc2 (v := (-9223372036854775808)) hx hb hown (htw _ (ck_39 _ (List.mem_of_getElem? (i := 8) rfl))) dX8_valueOf_215 ?_
                            refine W.widen (k := 0) (n := 0) (by omega) (by omega) ?_
                            obtain ⟨hP9, hD9⟩ := zsub2 (ws' := [(eO8a ru rco rsz ren rst rkn), (eA0 rco cRc 64 fRc), (eA0 ren cRe 4 fRe), (eA1 rst cRs 64 g), (mm, .inr (4, [mla, .long ct, .long yr, .long dy, .long lg])), (eO9a sk wd wf mp mb mo sp sb)]) hP hD [0, 1, 2, 3, 4, 5] (by decide) rfl
                            have hK9 := hK.sub (tys' := []) [] rfl
                            exact W.lret (v := (-9223372036854775808)) hx hb hr (fun t ht hW => ⟨⟨(-9223372036854775808), g, rfl, ((fun e9 => ⟨by rw [e9], by rw [e9]⟩ : fr_valueOf fRc fRe fRs ct yr dy lg wd wf mp mb mo sp sb a0 = ((-9223372036854775808 : Int64), g) → _) (hI.trans (by rw [fr_valueOf_L]; (try rw [← hq_r_13]); (try rw [if_neg c_9]); (try rw [if_neg c_11]); (try rw [if_neg c_14]); (try rw [if_pos c_15]); (try rw [if_neg c_16]); (try rw [if_neg c_17]); (try rw [if_neg c_18]); (try rw [if_pos c_23]); try rfl))), by rw [ht]; exact hP9, va_K.moved hW.alike hK9, hD9⟩, hS.F ht⟩) hS.2.2 dX8_valueOf_218
                          · refine lv_lload hx hb dX8_valueOf_206 (lv_at hl 0 rfl) ?_
                            refine lv_ldc2 (v := (-1000000000000)) hx hb hown (htw _ (ck_39 _ (List.mem_of_getElem? (i := 14) rfl))) dX8_valueOf_208 ?_
                            refine W.lcmp hx hb dX8_valueOf_211 ?_
                            refine lv_if_ge (tgt := 219) hx hb dX8_valueOf_212 (by decide) (fun c_24 => ?_) (fun c_24 => ?_)
                            · refine lv_aload_n hx hb dX8_valueOf_219 rfl (lv_at hl 6 rfl) ?_
                              refine va_get (D := (dC, dI)) (ci := 8) (v := .ref rst) (C := RX8) (T := TX8) (N := 5) hx hb htw inlX8 hown hK hP 0 rfl rfl 3 (by decide) (htw _ (ck_7 _ (List.mem_of_getElem? (i := 4) rfl))) (fun _ h9 => h9) rfl dX8_valueOf_220 ?_
                              refine lv_iload hx hb dX8_valueOf_223 (lv_at hl 1 rfl) ?_
                              refine lv_lload hx hb dX8_valueOf_225 (lv_at hl 0 rfl) ?_
                              refine va_last hx hb hK hP hD hS 3 2 rfl rfl (xv_in htp (xv_r hq_r_13) c_14 c_11 c_15) dX8_valueOf_227 (fun H locs hP hD hS => ?_)
                              obtain ⟨hP, hD⟩ := zre [(eO8a ru rco rsz ren rst rkn), (eA0 rco cRc 64 fRc), (eA0 ren cRe 4 fRe), (eA1 rst cRs 64 (vp_updL g ((tp - r_13).toNatClampNeg) ((fRc i.toNatClampNeg).toInt64))), (mm, .inr (4, [mla, .long ct, .long yr, .long dy, .long lg])), (eO9a sk wd wf mp mb mo sp sb)] hP hD rfl
                              refine lv_iinc (v := ((tp - r_13) + 1)) (lv' := [(4, .int ((tp - r_13) + 1)), (9, .long ((fRc i.toNatClampNeg).toInt64)), (8, .int r_13), (7, .int ((-1) - (fRc i.toNatClampNeg))), (6, .int i), (5, .int (fRe ((a0 - 1).toNatClampNeg))), (0, .ref ru), (1, .int a0), (2, .ref mm), (3, .ref sk)]) hx hb dX8_valueOf_228 hl (k := 1) rfl (rfl) (by decide) rfl (fun ls hl => ?_)
                              refine lv_iinc (v := (i + 1)) (lv' := [(6, .int (i + 1)), (4, .int ((tp - r_13) + 1)), (9, .long ((fRc i.toNatClampNeg).toInt64)), (8, .int r_13), (7, .int ((-1) - (fRc i.toNatClampNeg))), (5, .int (fRe ((a0 - 1).toNatClampNeg))), (0, .ref ru), (1, .int a0), (2, .ref mm), (3, .ref sk)]) hx hb dX8_valueOf_231 hl (k := 4) rfl (rfl) (by decide) rfl (fun ls hl => ?_)
                              refine lv_goto (tgt := 42) hx hb dX8_valueOf_234 (by decide) ?_
                              exact ih ((tp - r_13) + 1) (i + 1) (vp_updL g ((tp - r_13).toNatClampNeg) ((fRc i.toNatClampNeg).toInt64)) (by rw [xv_i1 hi0 c_11]; omega) (by rw [xv_i1 hi0 c_11]; omega) (xv_next htp (xv_r hq_r_13) c_14 c_11) (hI.trans (by rw [fr_valueOf_L]; (try rw [← hq_r_13]); (try rw [if_neg c_9]); (try rw [if_neg c_11]); (try rw [if_neg c_14]); (try rw [if_pos c_15]); (try rw [if_neg c_16]); (try rw [if_neg c_17]); (try rw [if_neg c_18]); (try rw [if_neg c_23]); (try rw [if_pos c_24]); try rfl)) H locs ls hP hD hS (lv_sub hl [1, 0, 5, 6, 7, 8, 9] rfl)
                            · refine lv_ldc2 (v := (-9223372036854775808)) hx hb hown (htw _ (ck_39 _ (List.mem_of_getElem? (i := 8) rfl))) dX8_valueOf_215 ?_
                              refine W.widen (k := 0) (n := 0) (by omega) (by omega) ?_
                              obtain ⟨hP9, hD9⟩ := zsub2 (ws' := [(eO8a ru rco rsz ren rst rkn), (eA0 rco cRc 64 fRc), (eA0 ren cRe 4 fRe), (eA1 rst cRs 64 g), (mm, .inr (4, [mla, .long ct, .long yr, .long dy, .long lg])), (eO9a sk wd wf mp mb mo sp sb)]) hP hD [0, 1, 2, 3, 4, 5] (by decide) rfl
                              have hK9 := hK.sub (tys' := []) [] rfl
                              exact W.lret (v := (-9223372036854775808)) hx hb hr (fun t ht hW => ⟨⟨(-9223372036854775808), g, rfl, ((fun e9 => ⟨by rw [e9], by rw [e9]⟩ : fr_valueOf fRc fRe fRs ct yr dy lg wd wf mp mb mo sp sb a0 = ((-9223372036854775808 : Int64), g) → _) (hI.trans (by rw [fr_valueOf_L]; (try rw [← hq_r_13]); (try rw [if_neg c_9]); (try rw [if_neg c_11]); (try rw [if_neg c_14]); (try rw [if_pos c_15]); (try rw [if_neg c_16]); (try rw [if_neg c_17]); (try rw [if_neg c_18]); (try rw [if_neg c_23]); (try rw [if_neg c_24]); try rfl))), by rw [ht]; exact hP9, va_K.moved hW.alike hK9, hD9⟩, hS.F ht⟩) hS.2.2 dX8_valueOf_218
                      · refine lv_aload_n hx hb dX8_valueOf_150 rfl (lv_at hl 5 rfl) ?_
                        refine va_get (D := (dC, dI)) (ci := 8) (v := .ref rst) (C := RX8) (T := TX8) (N := 5) hx hb htw inlX8 hown hK hP 0 rfl rfl 3 (by decide) (htw _ (ck_7 _ (List.mem_of_getElem? (i := 4) rfl))) (fun _ h9 => h9) rfl dX8_valueOf_151 ?_
                        refine lv_iload hx hb dX8_valueOf_154 (lv_at hl 0 rfl) ?_
                        refine va_lald hx hb hK hP 3 2 rfl rfl (xv_in htp (xv_r hq_r_13) c_14 c_11 c_15) dX8_valueOf_156 ?_
                        refine lv_lconst (v := 0) hx hb dX8_valueOf_157 (by decide) ?_
                        refine W.lcmp hx hb dX8_valueOf_158 ?_
                        refine lv_if_ne (tgt := 166) hx hb dX8_valueOf_159 (by decide) (fun c_26 => ?_) (fun c_26 => ?_)
                        · refine lv_lconst (v := 0) hx hb dX8_valueOf_166 (by decide) ?_
                          refine lv_lstore (lv' := [(9, .long 0), (4, .int (tp - r_13)), (8, .int r_13), (7, .int ((-1) - (fRc i.toNatClampNeg))), (6, .int i), (5, .int (fRe ((a0 - 1).toNatClampNeg))), (0, .ref ru), (1, .int a0), (2, .ref mm), (3, .ref sk)]) hx hb dX8_valueOf_167 hl (by decide) rfl (fun ls hl => ?_)
                          refine lv_goto (tgt := 197) hx hb dX8_valueOf_169 (by decide) ?_
                          refine lv_lload hx hb dX8_valueOf_197 (lv_at hl 0 rfl) ?_
                          refine lv_ldc2 (v := 1000000000000) hx hb hown (htw _ (ck_39 _ (List.mem_of_getElem? (i := 13) rfl))) dX8_valueOf_199 ?_
                          refine W.lcmp hx hb dX8_valueOf_202 ?_
                          refine lv_if_gt (tgt := 215) hx hb dX8_valueOf_203 (by decide) (fun c => absurd c (by decide)) (fun _ => ?_)
                          refine lv_lload hx hb dX8_valueOf_206 (lv_at hl 0 rfl) ?_
                          refine lv_ldc2 (v := (-1000000000000)) hx hb hown (htw _ (ck_39 _ (List.mem_of_getElem? (i := 14) rfl))) dX8_valueOf_208 ?_
                          refine W.lcmp hx hb dX8_valueOf_211 ?_
                          refine lv_if_ge (tgt := 219) hx hb dX8_valueOf_212 (by decide) (fun _ => ?_) (fun c => absurd c (by decide))
                          refine lv_aload_n hx hb dX8_valueOf_219 rfl (lv_at hl 6 rfl) ?_
                          refine va_get (D := (dC, dI)) (ci := 8) (v := .ref rst) (C := RX8) (T := TX8) (N := 5) hx hb htw inlX8 hown hK hP 0 rfl rfl 3 (by decide) (htw _ (ck_7 _ (List.mem_of_getElem? (i := 4) rfl))) (fun _ h9 => h9) rfl dX8_valueOf_220 ?_
                          refine lv_iload hx hb dX8_valueOf_223 (lv_at hl 1 rfl) ?_
                          refine lv_lload hx hb dX8_valueOf_225 (lv_at hl 0 rfl) ?_
                          refine va_last hx hb hK hP hD hS 3 2 rfl rfl (xv_in htp (xv_r hq_r_13) c_14 c_11 c_15) dX8_valueOf_227 (fun H locs hP hD hS => ?_)
                          obtain ⟨hP, hD⟩ := zre [(eO8a ru rco rsz ren rst rkn), (eA0 rco cRc 64 fRc), (eA0 ren cRe 4 fRe), (eA1 rst cRs 64 (vp_updL g ((tp - r_13).toNatClampNeg) 0)), (mm, .inr (4, [mla, .long ct, .long yr, .long dy, .long lg])), (eO9a sk wd wf mp mb mo sp sb)] hP hD rfl
                          refine lv_iinc (v := ((tp - r_13) + 1)) (lv' := [(4, .int ((tp - r_13) + 1)), (9, .long 0), (8, .int r_13), (7, .int ((-1) - (fRc i.toNatClampNeg))), (6, .int i), (5, .int (fRe ((a0 - 1).toNatClampNeg))), (0, .ref ru), (1, .int a0), (2, .ref mm), (3, .ref sk)]) hx hb dX8_valueOf_228 hl (k := 1) rfl (rfl) (by decide) rfl (fun ls hl => ?_)
                          refine lv_iinc (v := (i + 1)) (lv' := [(6, .int (i + 1)), (4, .int ((tp - r_13) + 1)), (9, .long 0), (8, .int r_13), (7, .int ((-1) - (fRc i.toNatClampNeg))), (5, .int (fRe ((a0 - 1).toNatClampNeg))), (0, .ref ru), (1, .int a0), (2, .ref mm), (3, .ref sk)]) hx hb dX8_valueOf_231 hl (k := 4) rfl (rfl) (by decide) rfl (fun ls hl => ?_)
                          refine lv_goto (tgt := 42) hx hb dX8_valueOf_234 (by decide) ?_
                          exact ih ((tp - r_13) + 1) (i + 1) (vp_updL g ((tp - r_13).toNatClampNeg) 0) (by rw [xv_i1 hi0 c_11]; omega) (by rw [xv_i1 hi0 c_11]; omega) (xv_next htp (xv_r hq_r_13) c_14 c_11) (hI.trans (by rw [fr_valueOf_L]; (try rw [← hq_r_13]); (try rw [if_neg c_9]); (try rw [if_neg c_11]); (try rw [if_neg c_14]); (try rw [if_pos c_15]); (try rw [if_neg c_16]); (try rw [if_pos c_17]); (try rw [if_neg c_26]); try rfl)) H locs ls hP hD hS (lv_sub hl [1, 0, 5, 6, 7, 8, 9] rfl)
                        · refine lv_lconst (v := 1) hx hb dX8_valueOf_162 (by decide) ?_
                          refine lv_goto (tgt := 167) hx hb dX8_valueOf_163 (by decide) ?_
                          refine lv_lstore (lv' := [(9, .long 1), (4, .int (tp - r_13)), (8, .int r_13), (7, .int ((-1) - (fRc i.toNatClampNeg))), (6, .int i), (5, .int (fRe ((a0 - 1).toNatClampNeg))), (0, .ref ru), (1, .int a0), (2, .ref mm), (3, .ref sk)]) hx hb dX8_valueOf_167 hl (by decide) rfl (fun ls hl => ?_)
                          refine lv_goto (tgt := 197) hx hb dX8_valueOf_169 (by decide) ?_
                          refine lv_lload hx hb dX8_valueOf_197 (lv_at hl 0 rfl) ?_
                          refine lv_ldc2 (v := 1000000000000) hx hb hown (htw _ (ck_39 _ (List.mem_of_getElem? (i := 13) rfl))) dX8_valueOf_199 ?_
                          refine W.lcmp hx hb dX8_valueOf_202 ?_
                          refine lv_if_gt (tgt := 215) hx hb dX8_valueOf_203 (by decide) (fun c => absurd c (by decide)) (fun _ => ?_)
                          refine lv_lload hx hb dX8_valueOf_206 (lv_at hl 0 rfl) ?_
                          refine lv_ldc2 (v := (-1000000000000)) hx hb hown (htw _ (ck_39 _ (List.mem_of_getElem? (i := 14) rfl))) dX8_valueOf_208 ?_
                          refine W.lcmp hx hb dX8_valueOf_211 ?_
                          refine lv_if_ge (tgt := 219) hx hb dX8_valueOf_212 (by decide) (fun _ => ?_) (fun c => absurd c (by decide))
                          refine lv_aload_n hx hb dX8_valueOf_219 rfl (lv_at hl 6 rfl) ?_
                          refine va_get (D := (dC, dI)) (ci := 8) (v := .ref rst) (C := RX8) (T := TX8) (N := 5) hx hb htw inlX8 hown hK hP 0 rfl rfl 3 (by decide) (htw _ (ck_7 _ (List.mem_of_getElem? (i := 4) rfl))) (fun _ h9 => h9) rfl dX8_valueOf_220 ?_
                          refine lv_iload hx hb dX8_valueOf_223 (lv_at hl 1 rfl) ?_
                          refine lv_lload hx hb dX8_valueOf_225 (lv_at hl 0 rfl) ?_
                          refine va_last hx hb hK hP hD hS 3 2 rfl rfl (xv_in htp (xv_r hq_r_13) c_14 c_11 c_15) dX8_valueOf_227 (fun H locs hP hD hS => ?_)
                          obtain ⟨hP, hD⟩ := zre [(eO8a ru rco rsz ren rst rkn), (eA0 rco cRc 64 fRc), (eA0 ren cRe 4 fRe), (eA1 rst cRs 64 (vp_updL g ((tp - r_13).toNatClampNeg) 1)), (mm, .inr (4, [mla, .long ct, .long yr, .long dy, .long lg])), (eO9a sk wd wf mp mb mo sp sb)] hP hD rfl
                          refine lv_iinc (v := ((tp - r_13) + 1)) (lv' := [(4, .int ((tp - r_13) + 1)), (9, .long 1), (8, .int r_13), (7, .int ((-1) - (fRc i.toNatClampNeg))), (6, .int i), (5, .int (fRe ((a0 - 1).toNatClampNeg))), (0, .ref ru), (1, .int a0), (2, .ref mm), (3, .ref sk)]) hx hb dX8_valueOf_228 hl (k := 1) rfl (rfl) (by decide) rfl (fun ls hl => ?_)
                          refine lv_iinc (v := (i + 1)) (lv' := [(6, .int (i + 1)), (4, .int ((tp - r_13) + 1)), (9, .long 1), (8, .int r_13), (7, .int ((-1) - (fRc i.toNatClampNeg))), (5, .int (fRe ((a0 - 1).toNatClampNeg))), (0, .ref ru), (1, .int a0), (2, .ref mm), (3, .ref sk)]) hx hb dX8_valueOf_231 hl (k := 4) rfl (rfl) (by decide) rfl (fun ls hl => ?_)
                          refine lv_goto (tgt := 42) hx hb dX8_valueOf_234 (by decide) ?_
                          exact ih ((tp - r_13) + 1) (i + 1) (vp_updL g ((tp - r_13).toNatClampNeg) 1) (by rw [xv_i1 hi0 c_11]; omega) (by rw [xv_i1 hi0 c_11]; omega) (xv_next htp (xv_r hq_r_13) c_14 c_11) (hI.trans (by rw [fr_valueOf_L]; (try rw [← hq_r_13]); (try rw [if_neg c_9]); (try rw [if_neg c_11]); (try rw [if_neg c_14]); (try rw [if_pos c_15]); (try rw [if_neg c_16]); (try rw [if_pos c_17]); (try rw [if_pos c_26]); try rfl)) H locs ls hP hD hS (lv_sub hl [1, 0, 5, 6, 7, 8, 9] rfl)
                    · refine lv_iload hx hb dX8_valueOf_118 (lv_at hl 2 rfl) ?_
                      refine lv_aload_n hx hb dX8_valueOf_120 rfl (lv_at hl 5 rfl) ?_
                      refine va_get (D := (dC, dI)) (ci := 8) (v := .ref rst) (C := RX8) (T := TX8) (N := 5) hx hb htw inlX8 hown hK hP 0 rfl rfl 3 (by decide) (htw _ (ck_7 _ (List.mem_of_getElem? (i := 4) rfl))) (fun _ h9 => h9) rfl dX8_valueOf_121 ?_
                      refine lv_iload hx hb dX8_valueOf_124 (lv_at hl 0 rfl) ?_
                      refine va_lald hx hb hK hP 3 2 rfl rfl (xv_in htp (xv_r hq_r_13) c_14 c_11 c_15) dX8_valueOf_126 ?_
                      refine lv_aload_n hx hb dX8_valueOf_127 rfl (lv_at hl 5 rfl) ?_
                      refine va_get (D := (dC, dI)) (ci := 8) (v := .ref rst) (C := RX8) (T := TX8) (N := 5) hx hb htw inlX8 hown hK hP 0 rfl rfl 3 (by decide) (htw _ (ck_7 _ (List.mem_of_getElem? (i := 4) rfl))) (fun _ h9 => h9) rfl dX8_valueOf_128 ?_
                      refine lv_iload hx hb dX8_valueOf_131 (lv_at hl 0 rfl) ?_
                      refine lv_iconst (v := 1) hx hb dX8_valueOf_133 (by decide) ?_
                      refine lv_iadd hx hb dX8_valueOf_134 ?_
                      refine va_lald hx hb hK hP 3 2 rfl rfl (xv_in2 htp (xv_r hq_r_13) c_14 c_11 c_16) dX8_valueOf_135 ?_
                      have hPc := hP.sub (ws' := []) [] rfl
                      have hKc := hK.sub (tys' := []) [] rfl
                      refine vp_callSl (W.runS (As := [.int ((-1) - (fRc i.toNatClampNeg)), .long (g ((tp - r_13).toNatClampNeg)), .long (g (((tp - r_13) + 1).toNatClampNeg))]) (rest := []) ⟨hx, hb, hml, hown, htw⟩ (gr_joined l dC dI ((-1) - (fRc i.toNatClampNeg)) (g ((tp - r_13).toNatClampNeg)) (g (((tp - r_13) + 1).toNatClampNeg))) (va_cwS 3 htw (xg_S (ck_39 _ (List.mem_of_getElem? (i := 19) rfl)) (ck_39 _ (List.mem_of_getElem? (i := 20) rfl)) (ck_6 _ (List.mem_of_getElem? (i := 8) rfl)) (ck_39 _ (List.mem_of_getElem? (i := 21) rfl))) rfl rfl rfl (by exact ⟨hdc_1.1, hdc_1.2, hdd_11⟩) ⟨Nat.le_of_ble_eq_true rfl, Nat.le_of_ble_eq_true rfl⟩) ⟨fun a U g mk q => by obtain ⟨q0, qP, qK⟩ := q; exact ⟨q0, qP, va_K.moved (u := U) (U := U.calling g mk a) (Vm.Alike.refl U.vm) qK⟩, fun U hU hW => ⟨rfl, by rw [hU]; exact hPc, va_K.moved hW.alike hKc⟩⟩ rfl rfl hl.1 rfl (lv_room (Nat.le_of_ble_eq_true rfl)) dX8_valueOf_136 ⟨Nat.le_of_ble_eq_true rfl, Nat.le_of_ble_eq_true rfl⟩) (fun r_29 hw => ?_)
                      try dsimp only at hw
                      have hq_r_29 : r_29 = fr_joined ((-1) - (fRc i.toNatClampNeg)) (g ((tp - r_13).toNatClampNeg)) (g (((tp - r_13) + 1).toNatClampNeg)) := hw
                      refine lv_lstore (lv' := [(9, .long r_29), (4, .int (tp - r_13)), (8, .int r_13), (7, .int ((-1) - (fRc i.toNatClampNeg))), (6, .int i), (5, .int (fRe ((a0 - 1).toNatClampNeg))), (0, .ref ru), (1, .int a0), (2, .ref mm), (3, .ref sk)]) hx hb dX8_valueOf_139 hl (by decide) rfl (fun ls hl => ?_)
                      refine lv_goto (tgt := 197) hx hb dX8_valueOf_141 (by decide) ?_
                      refine lv_lload hx hb dX8_valueOf_197 (lv_at hl 0 rfl) ?_
                      refine lv_ldc2 (v := 1000000000000) hx hb hown (htw _ (ck_39 _ (List.mem_of_getElem? (i := 13) rfl))) dX8_valueOf_199 ?_
                      refine W.lcmp hx hb dX8_valueOf_202 ?_
                      refine lv_if_gt (tgt := 215) hx hb dX8_valueOf_203 (by decide) (fun c_30 => ?_) (fun c_30 => ?_)
                      · refine lv_ldc2 (v := (-9223372036854775808)) hx hb hown (htw _ (ck_39 _ (List.mem_of_getElem? (i := 8) rfl))) dX8_valueOf_215 ?_
                        refine W.widen (k := 0) (n := 0) (by omega) (by omega) ?_
                        obtain ⟨hP9, hD9⟩ := zsub2 (ws' := [(eO8a ru rco rsz ren rst rkn), (eA0 rco cRc 64 fRc), (eA0 ren cRe 4 fRe), (eA1 rst cRs 64 g), (mm, .inr (4, [mla, .long ct, .long yr, .long dy, .long lg])), (eO9a sk wd wf mp mb mo sp sb)]) hP hD [0, 1, 2, 3, 4, 5] (by decide) rfl
                        have hK9 := hK.sub (tys' := []) [] rfl
                        exact W.lret (v := (-9223372036854775808)) hx hb hr (fun t ht hW => ⟨⟨(-9223372036854775808), g, rfl, ((fun e9 => ⟨by rw [e9], by rw [e9]⟩ : fr_valueOf fRc fRe fRs ct yr dy lg wd wf mp mb mo sp sb a0 = ((-9223372036854775808 : Int64), g) → _) (hI.trans (by rw [fr_valueOf_L]; (try rw [← hq_r_13]); (try rw [← hq_r_29]); (try rw [if_neg c_9]); (try rw [if_neg c_11]); (try rw [if_neg c_14]); (try rw [if_pos c_15]); (try rw [if_pos c_16]); (try rw [if_pos c_30]); try rfl))), by rw [ht]; exact hP9, va_K.moved hW.alike hK9, hD9⟩, hS.F ht⟩) hS.2.2 dX8_valueOf_218
                      · refine lv_lload hx hb dX8_valueOf_206 (lv_at hl 0 rfl) ?_
                        refine lv_ldc2 (v := (-1000000000000)) hx hb hown (htw _ (ck_39 _ (List.mem_of_getElem? (i := 14) rfl))) dX8_valueOf_208 ?_
                        refine W.lcmp hx hb dX8_valueOf_211 ?_
                        refine lv_if_ge (tgt := 219) hx hb dX8_valueOf_212 (by decide) (fun c_31 => ?_) (fun c_31 => ?_)
                        · refine lv_aload_n hx hb dX8_valueOf_219 rfl (lv_at hl 6 rfl) ?_
                          refine va_get (D := (dC, dI)) (ci := 8) (v := .ref rst) (C := RX8) (T := TX8) (N := 5) hx hb htw inlX8 hown hK hP 0 rfl rfl 3 (by decide) (htw _ (ck_7 _ (List.mem_of_getElem? (i := 4) rfl))) (fun _ h9 => h9) rfl dX8_valueOf_220 ?_
                          refine lv_iload hx hb dX8_valueOf_223 (lv_at hl 1 rfl) ?_
                          refine lv_lload hx hb dX8_valueOf_225 (lv_at hl 0 rfl) ?_
                          refine va_last hx hb hK hP hD hS 3 2 rfl rfl (xv_in htp (xv_r hq_r_13) c_14 c_11 c_15) dX8_valueOf_227 (fun H locs hP hD hS => ?_)
                          obtain ⟨hP, hD⟩ := zre [(eO8a ru rco rsz ren rst rkn), (eA0 rco cRc 64 fRc), (eA0 ren cRe 4 fRe), (eA1 rst cRs 64 (vp_updL g ((tp - r_13).toNatClampNeg) r_29)), (mm, .inr (4, [mla, .long ct, .long yr, .long dy, .long lg])), (eO9a sk wd wf mp mb mo sp sb)] hP hD rfl
                          refine lv_iinc (v := ((tp - r_13) + 1)) (lv' := [(4, .int ((tp - r_13) + 1)), (9, .long r_29), (8, .int r_13), (7, .int ((-1) - (fRc i.toNatClampNeg))), (6, .int i), (5, .int (fRe ((a0 - 1).toNatClampNeg))), (0, .ref ru), (1, .int a0), (2, .ref mm), (3, .ref sk)]) hx hb dX8_valueOf_228 hl (k := 1) rfl (rfl) (by decide) rfl (fun ls hl => ?_)
                          refine lv_iinc (v := (i + 1)) (lv' := [(6, .int (i + 1)), (4, .int ((tp - r_13) + 1)), (9, .long r_29), (8, .int r_13), (7, .int ((-1) - (fRc i.toNatClampNeg))), (5, .int (fRe ((a0 - 1).toNatClampNeg))), (0, .ref ru), (1, .int a0), (2, .ref mm), (3, .ref sk)]) hx hb dX8_valueOf_231 hl (k := 4) rfl (rfl) (by decide) rfl (fun ls hl => ?_)
                          refine lv_goto (tgt := 42) hx hb dX8_valueOf_234 (by decide) ?_
                          exact ih ((tp - r_13) + 1) (i + 1) (vp_updL g ((tp - r_13).toNatClampNeg) r_29) (by rw [xv_i1 hi0 c_11]; omega) (by rw [xv_i1 hi0 c_11]; omega) (xv_next htp (xv_r hq_r_13) c_14 c_11) (hI.trans (by rw [fr_valueOf_L]; (try rw [← hq_r_13]); (try rw [← hq_r_29]); (try rw [if_neg c_9]); (try rw [if_neg c_11]); (try rw [if_neg c_14]); (try rw [if_pos c_15]); (try rw [if_pos c_16]); (try rw [if_neg c_30]); (try rw [if_pos c_31]); try rfl)) H locs ls hP hD hS (lv_sub hl [1, 0, 5, 6, 7, 8, 9] rfl)
                        · refine lv_ldc2 (v := (-9223372036854775808)) hx hb hown (htw _ (ck_39 _ (List.mem_of_getElem? (i := 8) rfl))) dX8_valueOf_215 ?_
                          refine W.widen (k := 0) (n := 0) (by omega) (by omega) ?_
                          obtain ⟨hP9, hD9⟩ := zsub2 (ws' := [(eO8a ru rco rsz ren rst rkn), (eA0 rco cRc 64 fRc), (eA0 ren cRe 4 fRe), (eA1 rst cRs 64 g), (mm, .inr (4, [mla, .long ct, .long yr, .long dy, .long lg])), (eO9a sk wd wf mp mb mo sp sb)]) hP hD [0, 1, 2, 3, 4, 5] (by decide) rfl
                          have hK9 := hK.sub (tys' := []) [] rfl
                          exact W.lret (v := (-9223372036854775808)) hx hb hr (fun t ht hW => ⟨⟨(-9223372036854775808), g, rfl, ((fun e9 => ⟨by rw [e9], by rw [e9]⟩ : fr_valueOf fRc fRe fRs ct yr dy lg wd wf mp mb mo sp sb a0 = ((-9223372036854775808 : Int64), g) → _) (hI.trans (by rw [fr_valueOf_L]; (try rw [← hq_r_13]); (try rw [← hq_r_29]); (try rw [if_neg c_9]); (try rw [if_neg c_11]); (try rw [if_neg c_14]); (try rw [if_pos c_15]); (try rw [if_pos c_16]); (try rw [if_neg c_30]); (try rw [if_neg c_31]); try rfl))), by rw [ht]; exact hP9, va_K.moved hW.alike hK9, hD9⟩, hS.F ht⟩) hS.2.2 dX8_valueOf_218
                  · refine lv_ldc2 (v := (-9223372036854775808)) hx hb hown (htw _ (ck_39 _ (List.mem_of_getElem? (i := 8) rfl))) dX8_valueOf_101 ?_
                    refine W.widen (k := 0) (n := 0) (by omega) (by omega) ?_
                    obtain ⟨hP9, hD9⟩ := zsub2 (ws' := [(eO8a ru rco rsz ren rst rkn), (eA0 rco cRc 64 fRc), (eA0 ren cRe 4 fRe), (eA1 rst cRs 64 g), (mm, .inr (4, [mla, .long ct, .long yr, .long dy, .long lg])), (eO9a sk wd wf mp mb mo sp sb)]) hP hD [0, 1, 2, 3, 4, 5] (by decide) rfl
                    have hK9 := hK.sub (tys' := []) [] rfl
                    exact W.lret (v := (-9223372036854775808)) hx hb hr (fun t ht hW => ⟨⟨(-9223372036854775808), g, rfl, ((fun e9 => ⟨by rw [e9], by rw [e9]⟩ : fr_valueOf fRc fRe fRs ct yr dy lg wd wf mp mb mo sp sb a0 = ((-9223372036854775808 : Int64), g) → _) (hI.trans (by rw [fr_valueOf_L]; (try rw [← hq_r_13]); (try rw [if_neg c_9]); (try rw [if_neg c_11]); (try rw [if_neg c_14]); (try rw [if_neg c_15]); try rfl))), by rw [ht]; exact hP9, va_K.moved hW.alike hK9, hD9⟩, hS.F ht⟩) hS.2.2 dX8_valueOf_104
        exact hloop_4 64 (0 : Int32) (fRe ((a0 - 1).toNatClampNeg)) fRs (xv_nn (hE _)) (by have := xv_nn (hE (a0 - 1).toNatClampNeg); omega) (⟨Int.le_refl 0, xv_nn (hE _)⟩) (by rw [fr_valueOf]; (try rw [if_neg c_1]); (try rw [if_pos c_2]); (try rw [if_neg c_3]); try rfl) _ _ ls hP hD hS (lv_sub hl [2, 0, 1, 3, 4, 5, 6] rfl)
      · refine lv_iconst (v := 0) hx hb dX8_valueOf_24 (by decide) ?_
        refine lv_goto (tgt := 36) hx hb dX8_valueOf_25 (by decide) ?_
        refine lv_istore (lv' := [(5, .int 0), (4, .int 0), (0, .ref ru), (1, .int a0), (2, .ref mm), (3, .ref sk)]) hx hb dX8_valueOf_36 hl (by decide) rfl (fun ls hl => ?_)
        refine lv_iload hx hb dX8_valueOf_38 (lv_at hl 0 rfl) ?_
        refine lv_istore (lv' := [(6, .int 0), (5, .int 0), (4, .int 0), (0, .ref ru), (1, .int a0), (2, .ref mm), (3, .ref sk)]) hx hb dX8_valueOf_40 hl (by decide) rfl (fun ls hl => ?_)
        have hloop_33 : ∀ (n : Nat) (tp : Int32) (i : Int32) (g : Nat → Int64) (hi0 : 0 ≤ i.toInt) (hin : 64 ≤ i.toInt + (n : Int)) (htp : 0 ≤ tp.toInt ∧ tp.toInt ≤ i.toInt) (hI : fr_valueOf fRc fRe fRs ct yr dy lg wd wf mp mb mo sp sb a0 = fr_valueOf_L fRc fRe ct yr dy lg wd wf mp mb mo sp sb a0 n tp i g) (H : Heap) (locs : List Loc) (ls : Array Slot) (hP : va_P (dC, dI) vwCl [(eO8a ru rco rsz ren rst rkn), (eA0 rco cRc 64 fRc), (eA0 ren cRe 4 fRe), (eA1 rst cRs 64 g), (mm, .inr (4, [mla, .long ct, .long yr, .long dy, .long lg])), (eO9a sk wd wf mp mb mo sp sb)] H) (hD : va_D A [(eO8a ru rco rsz ren rst rkn), (eA0 rco cRc 64 fRc), (eA0 ren cRe 4 fRe), (eA1 rst cRs 64 g), (mm, .inr (4, [mla, .long ct, .long yr, .long dy, .long lg])), (eO9a sk wd wf mp mb mo sp sb)]) (hS : va_S A s.heap H locs) (hl : lv_has ls 11 [(4, .int tp), (6, .int i), (5, .int 0), (0, .ref ru), (1, .int a0), (2, .ref mm), (3, .ref sk)]), W p l e (headSpec (Cond.code yX8_valueOf cX8_valueOf 11 (some .long) :: wsL_law) ({ frames := 2, cells := 0, slots := 0, locals := 51 })).room s m ([.ref ru, .int a0, .ref mm, .ref sk] : List Value).toArray below meth c H locs 0 0 (MQ below (va_Ql (fun (r : Int64) (u : (Nat → Int64)) => r = (fr_valueOf fRc fRe fRs ct yr dy lg wd wf mp mb mo sp sb a0).1 ∧ u = (fr_valueOf fRc fRe fRs ct yr dy lg wd wf mp mb mo sp sb a0).2) (fun (u : (Nat → Int64)) t => va_P (dC, dI) vwCl [(eO8a ru rco rsz ren rst rkn), (eA0 rco cRc 64 fRc), (eA0 ren cRe 4 fRe), (eA1 rst cRs 64 u), (mm, .inr (4, [mla, .long ct, .long yr, .long dy, .long lg])), (eO9a sk wd wf mp mb mo sp sb)] t.heap ∧ va_K (dC, dI) vwCl [] t ∧ va_D A [(eO8a ru rco rsz ren rst rkn), (eA0 rco cRc 64 fRc), (eA0 ren cRe 4 fRe), (eA1 rst cRs 64 u), (mm, .inr (4, [mla, .long ct, .long yr, .long dy, .long lg])), (eO9a sk wd wf mp mb mo sp sb)]) A) ([.ref ru, .int a0, .ref mm, .ref sk] : List Value).toArray s 0 0 A) (F0 m 42 ls []) := by
          intro n
          induction n with
          | zero =>
            intro tp i g hi0 hin htp hI H locs ls hP hD hS hl
            refine lv_iload hx hb dX8_valueOf_42 (lv_at hl 1 rfl) ?_
            refine lv_aload_n hx hb dX8_valueOf_44 rfl (lv_at hl 3 rfl) ?_
            refine va_get (D := (dC, dI)) (ci := 8) (v := .ref ren) (C := RX8) (T := TX8) (N := 5) hx hb htw inlX8 hown hK hP 0 rfl rfl 2 (by decide) (htw _ (ck_7 _ (List.mem_of_getElem? (i := 3) rfl))) (fun _ h9 => h9) rfl dX8_valueOf_45 ?_
            refine lv_iload_n hx hb dX8_valueOf_48 rfl (lv_at hl 4 rfl) ?_
            refine va_iald hx hb hK hP 2 1 rfl rfl (xg_inr (N := 4) rfl c_1 (Int32.not_le.mpr c_2)) dX8_valueOf_49 ?_
            refine lv_icmp_ge (tgt := 237) hx hb dX8_valueOf_50 (by decide) (fun c_34 => ?_) (fun c_34 => ?_)
            · refine lv_iload hx hb dX8_valueOf_237 (lv_at hl 0 rfl) ?_
              refine lv_iconst (v := 1) hx hb dX8_valueOf_239 (by decide) ?_
              refine lv_icmp_ne (tgt := 252) hx hb dX8_valueOf_240 (by decide) (fun c_35 => ?_) (fun c_35 => ?_)
              · refine lv_ldc2 (v := (-9223372036854775808)) hx hb hown (htw _ (ck_39 _ (List.mem_of_getElem? (i := 8) rfl))) dX8_valueOf_252 ?_
                refine W.widen (k := 0) (n := 0) (by omega) (by omega) ?_
                obtain ⟨hP9, hD9⟩ := zsub2 (ws' := [(eO8a ru rco rsz ren rst rkn), (eA0 rco cRc 64 fRc), (eA0 ren cRe 4 fRe), (eA1 rst cRs 64 g), (mm, .inr (4, [mla, .long ct, .long yr, .long dy, .long lg])), (eO9a sk wd wf mp mb mo sp sb)]) hP hD [0, 1, 2, 3, 4, 5] (by decide) rfl
                have hK9 := hK.sub (tys' := []) [] rfl
                exact W.lret (v := (-9223372036854775808)) hx hb hr (fun t ht hW => ⟨⟨(-9223372036854775808), g, rfl, ((fun e9 => ⟨by rw [e9], by rw [e9]⟩ : fr_valueOf fRc fRe fRs ct yr dy lg wd wf mp mb mo sp sb a0 = ((-9223372036854775808 : Int64), g) → _) (hI.trans (by rw [fr_valueOf_L]; (try rw [if_pos c_34]); (try rw [if_neg c_35]); try rfl))), by rw [ht]; exact hP9, va_K.moved hW.alike hK9, hD9⟩, hS.F ht⟩) hS.2.2 dX8_valueOf_255
              · refine lv_aload_n hx hb dX8_valueOf_243 rfl (lv_at hl 3 rfl) ?_
                refine va_get (D := (dC, dI)) (ci := 8) (v := .ref rst) (C := RX8) (T := TX8) (N := 5) hx hb htw inlX8 hown hK hP 0 rfl rfl 3 (by decide) (htw _ (ck_7 _ (List.mem_of_getElem? (i := 4) rfl))) (fun _ h9 => h9) rfl dX8_valueOf_244 ?_
                refine lv_iconst (v := 0) hx hb dX8_valueOf_247 (by decide) ?_
                refine va_lald hx hb hK hP 3 2 rfl rfl (by unfold vp_in; decide) dX8_valueOf_248 ?_
                refine lv_goto (tgt := 255) hx hb dX8_valueOf_249 (by decide) ?_
                refine W.widen (k := 0) (n := 0) (by omega) (by omega) ?_
                obtain ⟨hP9, hD9⟩ := zsub2 (ws' := [(eO8a ru rco rsz ren rst rkn), (eA0 rco cRc 64 fRc), (eA0 ren cRe 4 fRe), (eA1 rst cRs 64 g), (mm, .inr (4, [mla, .long ct, .long yr, .long dy, .long lg])), (eO9a sk wd wf mp mb mo sp sb)]) hP hD [0, 1, 2, 3, 4, 5] (by decide) rfl
                have hK9 := hK.sub (tys' := []) [] rfl
                exact W.lret (v := g ((0 : Int32).toNatClampNeg)) hx hb hr (fun t ht hW => ⟨⟨g ((0 : Int32).toNatClampNeg), g, rfl, ((fun e9 => ⟨by rw [e9], by rw [e9]⟩ : fr_valueOf fRc fRe fRs ct yr dy lg wd wf mp mb mo sp sb a0 = (g ((0 : Int32).toNatClampNeg), g) → _) (hI.trans (by rw [fr_valueOf_L]; (try rw [if_pos c_34]); (try rw [if_pos c_35]); try rfl))), by rw [ht]; exact hP9, va_K.moved hW.alike hK9, hD9⟩, hS.F ht⟩) hS.2.2 dX8_valueOf_255
            · refine lv_iload hx hb dX8_valueOf_53 (lv_at hl 1 rfl) ?_
              refine lv_aload_n hx hb dX8_valueOf_55 rfl (lv_at hl 3 rfl) ?_
              refine va_get (D := (dC, dI)) (ci := 8) (v := .ref rco) (C := RX8) (T := TX8) (N := 5) hx hb htw inlX8 hown hK hP 0 rfl rfl 0 (by decide) (htw _ (ck_7 _ (List.mem_of_getElem? (i := 2) rfl))) (fun _ h9 => h9) rfl dX8_valueOf_56 ?_
              refine va_alen hx hb hK hP 1 0 rfl rfl (v := 64) rfl dX8_valueOf_59 ?_
              refine lv_icmp_ge (tgt := 237) hx hb dX8_valueOf_60 (by decide) (fun c_36 => ?_) (fun c_36 => absurd c_36 (fun h => h (xv_ge hin)))
              refine lv_iload hx hb dX8_valueOf_237 (lv_at hl 0 rfl) ?_
              refine lv_iconst (v := 1) hx hb dX8_valueOf_239 (by decide) ?_
              refine lv_icmp_ne (tgt := 252) hx hb dX8_valueOf_240 (by decide) (fun c_37 => ?_) (fun c_37 => ?_)
              · refine lv_ldc2 (v := (-9223372036854775808)) hx hb hown (htw _ (ck_39 _ (List.mem_of_getElem? (i := 8) rfl))) dX8_valueOf_252 ?_
                refine W.widen (k := 0) (n := 0) (by omega) (by omega) ?_
                obtain ⟨hP9, hD9⟩ := zsub2 (ws' := [(eO8a ru rco rsz ren rst rkn), (eA0 rco cRc 64 fRc), (eA0 ren cRe 4 fRe), (eA1 rst cRs 64 g), (mm, .inr (4, [mla, .long ct, .long yr, .long dy, .long lg])), (eO9a sk wd wf mp mb mo sp sb)]) hP hD [0, 1, 2, 3, 4, 5] (by decide) rfl
                have hK9 := hK.sub (tys' := []) [] rfl
                exact W.lret (v := (-9223372036854775808)) hx hb hr (fun t ht hW => ⟨⟨(-9223372036854775808), g, rfl, ((fun e9 => ⟨by rw [e9], by rw [e9]⟩ : fr_valueOf fRc fRe fRs ct yr dy lg wd wf mp mb mo sp sb a0 = ((-9223372036854775808 : Int64), g) → _) (hI.trans (by rw [fr_valueOf_L]; (try rw [if_neg c_34]); (try rw [if_neg c_37]); try rfl))), by rw [ht]; exact hP9, va_K.moved hW.alike hK9, hD9⟩, hS.F ht⟩) hS.2.2 dX8_valueOf_255
              · refine lv_aload_n hx hb dX8_valueOf_243 rfl (lv_at hl 3 rfl) ?_
                refine va_get (D := (dC, dI)) (ci := 8) (v := .ref rst) (C := RX8) (T := TX8) (N := 5) hx hb htw inlX8 hown hK hP 0 rfl rfl 3 (by decide) (htw _ (ck_7 _ (List.mem_of_getElem? (i := 4) rfl))) (fun _ h9 => h9) rfl dX8_valueOf_244 ?_
                refine lv_iconst (v := 0) hx hb dX8_valueOf_247 (by decide) ?_
                refine va_lald hx hb hK hP 3 2 rfl rfl (by unfold vp_in; decide) dX8_valueOf_248 ?_
                refine lv_goto (tgt := 255) hx hb dX8_valueOf_249 (by decide) ?_
                refine W.widen (k := 0) (n := 0) (by omega) (by omega) ?_
                obtain ⟨hP9, hD9⟩ := zsub2 (ws' := [(eO8a ru rco rsz ren rst rkn), (eA0 rco cRc 64 fRc), (eA0 ren cRe 4 fRe), (eA1 rst cRs 64 g), (mm, .inr (4, [mla, .long ct, .long yr, .long dy, .long lg])), (eO9a sk wd wf mp mb mo sp sb)]) hP hD [0, 1, 2, 3, 4, 5] (by decide) rfl
                have hK9 := hK.sub (tys' := []) [] rfl
                exact W.lret (v := g ((0 : Int32).toNatClampNeg)) hx hb hr (fun t ht hW => ⟨⟨g ((0 : Int32).toNatClampNeg), g, rfl, ((fun e9 => ⟨by rw [e9], by rw [e9]⟩ : fr_valueOf fRc fRe fRs ct yr dy lg wd wf mp mb mo sp sb a0 = (g ((0 : Int32).toNatClampNeg), g) → _) (hI.trans (by rw [fr_valueOf_L]; (try rw [if_neg c_34]); (try rw [if_pos c_37]); try rfl))), by rw [ht]; exact hP9, va_K.moved hW.alike hK9, hD9⟩, hS.F ht⟩) hS.2.2 dX8_valueOf_255
          | succ n ih =>
            intro tp i g hi0 hin htp hI H locs ls hP hD hS hl
            refine lv_iload hx hb dX8_valueOf_42 (lv_at hl 1 rfl) ?_
            refine lv_aload_n hx hb dX8_valueOf_44 rfl (lv_at hl 3 rfl) ?_
            refine va_get (D := (dC, dI)) (ci := 8) (v := .ref ren) (C := RX8) (T := TX8) (N := 5) hx hb htw inlX8 hown hK hP 0 rfl rfl 2 (by decide) (htw _ (ck_7 _ (List.mem_of_getElem? (i := 3) rfl))) (fun _ h9 => h9) rfl dX8_valueOf_45 ?_
            refine lv_iload_n hx hb dX8_valueOf_48 rfl (lv_at hl 4 rfl) ?_
            refine va_iald hx hb hK hP 2 1 rfl rfl (xg_inr (N := 4) rfl c_1 (Int32.not_le.mpr c_2)) dX8_valueOf_49 ?_
            refine lv_icmp_ge (tgt := 237) hx hb dX8_valueOf_50 (by decide) (fun c_38 => ?_) (fun c_38 => ?_)
            · refine lv_iload hx hb dX8_valueOf_237 (lv_at hl 0 rfl) ?_
              refine lv_iconst (v := 1) hx hb dX8_valueOf_239 (by decide) ?_
              refine lv_icmp_ne (tgt := 252) hx hb dX8_valueOf_240 (by decide) (fun c_39 => ?_) (fun c_39 => ?_)
              · refine lv_ldc2 (v := (-9223372036854775808)) hx hb hown (htw _ (ck_39 _ (List.mem_of_getElem? (i := 8) rfl))) dX8_valueOf_252 ?_
                refine W.widen (k := 0) (n := 0) (by omega) (by omega) ?_
                obtain ⟨hP9, hD9⟩ := zsub2 (ws' := [(eO8a ru rco rsz ren rst rkn), (eA0 rco cRc 64 fRc), (eA0 ren cRe 4 fRe), (eA1 rst cRs 64 g), (mm, .inr (4, [mla, .long ct, .long yr, .long dy, .long lg])), (eO9a sk wd wf mp mb mo sp sb)]) hP hD [0, 1, 2, 3, 4, 5] (by decide) rfl
                have hK9 := hK.sub (tys' := []) [] rfl
                exact W.lret (v := (-9223372036854775808)) hx hb hr (fun t ht hW => ⟨⟨(-9223372036854775808), g, rfl, ((fun e9 => ⟨by rw [e9], by rw [e9]⟩ : fr_valueOf fRc fRe fRs ct yr dy lg wd wf mp mb mo sp sb a0 = ((-9223372036854775808 : Int64), g) → _) (hI.trans (by rw [fr_valueOf_L]; (try rw [if_pos c_38]); (try rw [if_neg c_39]); try rfl))), by rw [ht]; exact hP9, va_K.moved hW.alike hK9, hD9⟩, hS.F ht⟩) hS.2.2 dX8_valueOf_255
              · refine lv_aload_n hx hb dX8_valueOf_243 rfl (lv_at hl 3 rfl) ?_
                refine va_get (D := (dC, dI)) (ci := 8) (v := .ref rst) (C := RX8) (T := TX8) (N := 5) hx hb htw inlX8 hown hK hP 0 rfl rfl 3 (by decide) (htw _ (ck_7 _ (List.mem_of_getElem? (i := 4) rfl))) (fun _ h9 => h9) rfl dX8_valueOf_244 ?_
                refine lv_iconst (v := 0) hx hb dX8_valueOf_247 (by decide) ?_
                refine va_lald hx hb hK hP 3 2 rfl rfl (by unfold vp_in; decide) dX8_valueOf_248 ?_
                refine lv_goto (tgt := 255) hx hb dX8_valueOf_249 (by decide) ?_
                refine W.widen (k := 0) (n := 0) (by omega) (by omega) ?_
                obtain ⟨hP9, hD9⟩ := zsub2 (ws' := [(eO8a ru rco rsz ren rst rkn), (eA0 rco cRc 64 fRc), (eA0 ren cRe 4 fRe), (eA1 rst cRs 64 g), (mm, .inr (4, [mla, .long ct, .long yr, .long dy, .long lg])), (eO9a sk wd wf mp mb mo sp sb)]) hP hD [0, 1, 2, 3, 4, 5] (by decide) rfl
                have hK9 := hK.sub (tys' := []) [] rfl
                exact W.lret (v := g ((0 : Int32).toNatClampNeg)) hx hb hr (fun t ht hW => ⟨⟨g ((0 : Int32).toNatClampNeg), g, rfl, ((fun e9 => ⟨by rw [e9], by rw [e9]⟩ : fr_valueOf fRc fRe fRs ct yr dy lg wd wf mp mb mo sp sb a0 = (g ((0 : Int32).toNatClampNeg), g) → _) (hI.trans (by rw [fr_valueOf_L]; (try rw [if_pos c_38]); (try rw [if_pos c_39]); try rfl))), by rw [ht]; exact hP9, va_K.moved hW.alike hK9, hD9⟩, hS.F ht⟩) hS.2.2 dX8_valueOf_255
            · refine lv_iload hx hb dX8_valueOf_53 (lv_at hl 1 rfl) ?_
              refine lv_aload_n hx hb dX8_valueOf_55 rfl (lv_at hl 3 rfl) ?_
              refine va_get (D := (dC, dI)) (ci := 8) (v := .ref rco) (C := RX8) (T := TX8) (N := 5) hx hb htw inlX8 hown hK hP 0 rfl rfl 0 (by decide) (htw _ (ck_7 _ (List.mem_of_getElem? (i := 2) rfl))) (fun _ h9 => h9) rfl dX8_valueOf_56 ?_
              refine va_alen hx hb hK hP 1 0 rfl rfl (v := 64) rfl dX8_valueOf_59 ?_
              refine lv_icmp_ge (tgt := 237) hx hb dX8_valueOf_60 (by decide) (fun c_40 => ?_) (fun c_40 => ?_)
              · refine lv_iload hx hb dX8_valueOf_237 (lv_at hl 0 rfl) ?_
                refine lv_iconst (v := 1) hx hb dX8_valueOf_239 (by decide) ?_
                refine lv_icmp_ne (tgt := 252) hx hb dX8_valueOf_240 (by decide) (fun c_41 => ?_) (fun c_41 => ?_)
                · refine lv_ldc2 (v := (-9223372036854775808)) hx hb hown (htw _ (ck_39 _ (List.mem_of_getElem? (i := 8) rfl))) dX8_valueOf_252 ?_
                  refine W.widen (k := 0) (n := 0) (by omega) (by omega) ?_
                  obtain ⟨hP9, hD9⟩ := zsub2 (ws' := [(eO8a ru rco rsz ren rst rkn), (eA0 rco cRc 64 fRc), (eA0 ren cRe 4 fRe), (eA1 rst cRs 64 g), (mm, .inr (4, [mla, .long ct, .long yr, .long dy, .long lg])), (eO9a sk wd wf mp mb mo sp sb)]) hP hD [0, 1, 2, 3, 4, 5] (by decide) rfl
                  have hK9 := hK.sub (tys' := []) [] rfl
                  exact W.lret (v := (-9223372036854775808)) hx hb hr (fun t ht hW => ⟨⟨(-9223372036854775808), g, rfl, ((fun e9 => ⟨by rw [e9], by rw [e9]⟩ : fr_valueOf fRc fRe fRs ct yr dy lg wd wf mp mb mo sp sb a0 = ((-9223372036854775808 : Int64), g) → _) (hI.trans (by rw [fr_valueOf_L]; (try rw [if_neg c_38]); (try rw [if_pos c_40]); (try rw [if_neg c_41]); try rfl))), by rw [ht]; exact hP9, va_K.moved hW.alike hK9, hD9⟩, hS.F ht⟩) hS.2.2 dX8_valueOf_255
                · refine lv_aload_n hx hb dX8_valueOf_243 rfl (lv_at hl 3 rfl) ?_
                  refine va_get (D := (dC, dI)) (ci := 8) (v := .ref rst) (C := RX8) (T := TX8) (N := 5) hx hb htw inlX8 hown hK hP 0 rfl rfl 3 (by decide) (htw _ (ck_7 _ (List.mem_of_getElem? (i := 4) rfl))) (fun _ h9 => h9) rfl dX8_valueOf_244 ?_
                  refine lv_iconst (v := 0) hx hb dX8_valueOf_247 (by decide) ?_
                  refine va_lald hx hb hK hP 3 2 rfl rfl (by unfold vp_in; decide) dX8_valueOf_248 ?_
                  refine lv_goto (tgt := 255) hx hb dX8_valueOf_249 (by decide) ?_
                  refine W.widen (k := 0) (n := 0) (by omega) (by omega) ?_
                  obtain ⟨hP9, hD9⟩ := zsub2 (ws' := [(eO8a ru rco rsz ren rst rkn), (eA0 rco cRc 64 fRc), (eA0 ren cRe 4 fRe), (eA1 rst cRs 64 g), (mm, .inr (4, [mla, .long ct, .long yr, .long dy, .long lg])), (eO9a sk wd wf mp mb mo sp sb)]) hP hD [0, 1, 2, 3, 4, 5] (by decide) rfl
                  have hK9 := hK.sub (tys' := []) [] rfl
                  exact W.lret (v := g ((0 : Int32).toNatClampNeg)) hx hb hr (fun t ht hW => ⟨⟨g ((0 : Int32).toNatClampNeg), g, rfl, ((fun e9 => ⟨by rw [e9], by rw [e9]⟩ : fr_valueOf fRc fRe fRs ct yr dy lg wd wf mp mb mo sp sb a0 = (g ((0 : Int32).toNatClampNeg), g) → _) (hI.trans (by rw [fr_valueOf_L]; (try rw [if_neg c_38]); (try rw [if_pos c_40]); (try rw [if_pos c_41]); try rfl))), by rw [ht]; exact hP9, va_K.moved hW.alike hK9, hD9⟩, hS.F ht⟩) hS.2.2 dX8_valueOf_255
              · refine lv_iconst (v := (-1)) hx hb dX8_valueOf_63 (by decide) ?_
                refine lv_aload_n hx hb dX8_valueOf_64 rfl (lv_at hl 3 rfl) ?_
                refine va_get (D := (dC, dI)) (ci := 8) (v := .ref rco) (C := RX8) (T := TX8) (N := 5) hx hb htw inlX8 hown hK hP 0 rfl rfl 0 (by decide) (htw _ (ck_7 _ (List.mem_of_getElem? (i := 2) rfl))) (fun _ h9 => h9) rfl dX8_valueOf_65 ?_
                refine lv_iload hx hb dX8_valueOf_68 (lv_at hl 1 rfl) ?_
                refine va_iald hx hb hK hP 1 0 rfl rfl (xg_inr (N := 64) rfl (xv_nl hi0) c_40) dX8_valueOf_70 ?_
                refine lv_isub hx hb dX8_valueOf_71 ?_
                refine lv_istore (lv' := [(7, .int ((-1) - (fRc i.toNatClampNeg))), (4, .int tp), (6, .int i), (5, .int 0), (0, .ref ru), (1, .int a0), (2, .ref mm), (3, .ref sk)]) hx hb dX8_valueOf_72 hl (by decide) rfl (fun ls hl => ?_)
                refine lv_iload hx hb dX8_valueOf_74 (lv_at hl 0 rfl) ?_
                have hPc := hP.sub (ws' := []) [] rfl
                have hKc := hK.sub (tys' := []) [] rfl
                refine vp_callSi (W.runS (As := [.int ((-1) - (fRc i.toNatClampNeg))]) (rest := []) ⟨hx, hb, hml, hown, htw⟩ (gr_takenBy l dC dI ((-1) - (fRc i.toNatClampNeg))) (va_cwS 1 htw (xg_S (ck_39 _ (List.mem_of_getElem? (i := 15) rfl)) (ck_39 _ (List.mem_of_getElem? (i := 16) rfl)) (ck_6 _ (List.mem_of_getElem? (i := 8) rfl)) (ck_39 _ (List.mem_of_getElem? (i := 17) rfl))) rfl rfl rfl (by exact ⟨hdc_1.1, hdc_1.2, hdd_2⟩) ⟨Nat.le_of_ble_eq_true rfl, Nat.le_of_ble_eq_true rfl⟩) ⟨fun a U g mk q => by obtain ⟨q0, qP, qK⟩ := q; exact ⟨q0, qP, va_K.moved (u := U) (U := U.calling g mk a) (Vm.Alike.refl U.vm) qK⟩, fun U hU hW => ⟨rfl, by rw [hU]; exact hPc, va_K.moved hW.alike hKc⟩⟩ rfl rfl hl.1 rfl (lv_room (Nat.le_of_ble_eq_true rfl)) dX8_valueOf_76 ⟨Nat.le_of_ble_eq_true rfl, Nat.le_of_ble_eq_true rfl⟩) (fun r_42 hw => ?_)
                try dsimp only at hw
                have hq_r_42 : r_42 = fr_takenBy ((-1) - (fRc i.toNatClampNeg)) := hw
                refine lv_istore (lv' := [(8, .int r_42), (7, .int ((-1) - (fRc i.toNatClampNeg))), (4, .int tp), (6, .int i), (5, .int 0), (0, .ref ru), (1, .int a0), (2, .ref mm), (3, .ref sk)]) hx hb dX8_valueOf_79 hl (by decide) rfl (fun ls hl => ?_)
                refine lv_iload hx hb dX8_valueOf_81 (lv_at hl 2 rfl) ?_
                refine lv_iload hx hb dX8_valueOf_83 (lv_at hl 0 rfl) ?_
                refine lv_icmp_lt (tgt := 101) hx hb dX8_valueOf_85 (by decide) (fun c_43 => ?_) (fun c_43 => ?_)
                · refine lv_ldc2 (v := (-9223372036854775808)) hx hb hown (htw _ (ck_39 _ (List.mem_of_getElem? (i := 8) rfl))) dX8_valueOf_101 ?_
                  refine W.widen (k := 0) (n := 0) (by omega) (by omega) ?_
                  obtain ⟨hP9, hD9⟩ := zsub2 (ws' := [(eO8a ru rco rsz ren rst rkn), (eA0 rco cRc 64 fRc), (eA0 ren cRe 4 fRe), (eA1 rst cRs 64 g), (mm, .inr (4, [mla, .long ct, .long yr, .long dy, .long lg])), (eO9a sk wd wf mp mb mo sp sb)]) hP hD [0, 1, 2, 3, 4, 5] (by decide) rfl
                  have hK9 := hK.sub (tys' := []) [] rfl
                  exact W.lret (v := (-9223372036854775808)) hx hb hr (fun t ht hW => ⟨⟨(-9223372036854775808), g, rfl, ((fun e9 => ⟨by rw [e9], by rw [e9]⟩ : fr_valueOf fRc fRe fRs ct yr dy lg wd wf mp mb mo sp sb a0 = ((-9223372036854775808 : Int64), g) → _) (hI.trans (by rw [fr_valueOf_L]; (try rw [← hq_r_42]); (try rw [if_neg c_38]); (try rw [if_neg c_40]); (try rw [if_pos c_43]); try rfl))), by rw [ht]; exact hP9, va_K.moved hW.alike hK9, hD9⟩, hS.F ht⟩) hS.2.2 dX8_valueOf_104
                · refine lv_iload hx hb dX8_valueOf_88 (lv_at hl 2 rfl) ?_
                  refine lv_iload hx hb dX8_valueOf_90 (lv_at hl 0 rfl) ?_
                  refine lv_isub hx hb dX8_valueOf_92 ?_
                  refine lv_aload_n hx hb dX8_valueOf_93 rfl (lv_at hl 5 rfl) ?_
                  refine va_get (D := (dC, dI)) (ci := 8) (v := .ref rst) (C := RX8) (T := TX8) (N := 5) hx hb htw inlX8 hown hK hP 0 rfl rfl 3 (by decide) (htw _ (ck_7 _ (List.mem_of_getElem? (i := 4) rfl))) (fun _ h9 => h9) rfl dX8_valueOf_94 ?_
                  refine va_alen hx hb hK hP 3 2 rfl rfl (v := 64) rfl dX8_valueOf_97 ?_
                  refine lv_icmp_lt (tgt := 105) hx hb dX8_valueOf_98 (by decide) (fun c_44 => ?_) (fun c_44 => ?_)
                  · refine lv_iload hx hb dX8_valueOf_105 (lv_at hl 2 rfl) ?_
                    refine lv_iload hx hb dX8_valueOf_107 (lv_at hl 0 rfl) ?_
                    refine lv_isub hx hb dX8_valueOf_109 ?_
                    refine lv_istore (lv' := [(4, .int (tp - r_42)), (8, .int r_42), (7, .int ((-1) - (fRc i.toNatClampNeg))), (6, .int i), (5, .int 0), (0, .ref ru), (1, .int a0), (2, .ref mm), (3, .ref sk)]) hx hb dX8_valueOf_110 hl (by decide) rfl (fun ls hl => ?_)
                    refine lv_iload hx hb dX8_valueOf_112 (lv_at hl 1 rfl) ?_
                    refine lv_iconst (v := 2) hx hb dX8_valueOf_114 (by decide) ?_
                    refine lv_icmp_ne (tgt := 144) hx hb dX8_valueOf_115 (by decide) (fun c_45 => ?_) (fun c_45 => ?_)
                    · refine lv_iload hx hb dX8_valueOf_144 (lv_at hl 1 rfl) ?_
                      refine lv_iconst (v := 1) hx hb dX8_valueOf_146 (by decide) ?_
                      refine lv_icmp_ne (tgt := 172) hx hb dX8_valueOf_147 (by decide) (fun c_46 => ?_) (fun c_46 => ?_)
                      · refine lv_iload hx hb dX8_valueOf_172 (lv_at hl 2 rfl) ?_
                        refine lv_if_ge (tgt := 188) hx hb dX8_valueOf_174 (by decide) (fun c_47 => ?_) (fun c_47 => ?_)
                        · refine lv_iload hx hb dX8_valueOf_188 (lv_at hl 2 rfl) ?_
                          refine lv_aload_n hx hb dX8_valueOf_190 rfl (lv_at hl 7 rfl) ?_
                          refine lv_aload_n hx hb dX8_valueOf_191 rfl (lv_at hl 8 rfl) ?_
                          have hPc := hP.sub (ws' := [(mm, .inr (4, [mla, .long ct, .long yr, .long dy, .long lg])), (eO9a sk wd wf mp mb mo sp sb)]) [4, 5] rfl
                          have hKc := hK.sub (tys' := []) [] rfl
                          refine vp_callSl (W.runS (As := [.int ((-1) - (fRc i.toNatClampNeg)), .ref mm, .ref sk]) (rest := []) ⟨hx, hb, hml, hown, htw⟩ (gr_nameOf l dC dI mm mla ct yr dy lg sk wd wf mp mb mo sp sb ((-1) - (fRc i.toNatClampNeg))) (va_cwS 3 htw (xg_S (ck_40 _ (List.mem_of_getElem? (i := 4) rfl)) (ck_40 _ (List.mem_of_getElem? (i := 5) rfl)) (ck_6 _ (List.mem_of_getElem? (i := 8) rfl)) (ck_40 _ (List.mem_of_getElem? (i := 6) rfl))) rfl rfl rfl (by exact ⟨hdc_1.1, hdc_1.2, hdd_10⟩) ⟨Nat.le_of_ble_eq_true rfl, Nat.le_of_ble_eq_true rfl⟩) ⟨fun a U g mk q => by obtain ⟨q0, qP, qK⟩ := q; exact ⟨q0, qP, va_K.moved (u := U) (U := U.calling g mk a) (Vm.Alike.refl U.vm) qK⟩, fun U hU hW => ⟨rfl, by rw [hU]; exact hPc, va_K.moved hW.alike hKc⟩⟩ rfl rfl hl.1 rfl (lv_room (Nat.le_of_ble_eq_true rfl)) dX8_valueOf_192 ⟨Nat.le_of_ble_eq_true rfl, Nat.le_of_ble_eq_true rfl⟩) (fun r_48 hw => ?_)
                          try dsimp only at hw
                          have hq_r_48 : r_48 = fr_nameOf ct yr dy lg wd wf mp mb mo sp sb ((-1) - (fRc i.toNatClampNeg)) := hw
                          refine lv_lstore (lv' := [(9, .long r_48), (4, .int (tp - r_42)), (8, .int r_42), (7, .int ((-1) - (fRc i.toNatClampNeg))), (6, .int i), (5, .int 0), (0, .ref ru), (1, .int a0), (2, .ref mm), (3, .ref sk)]) hx hb dX8_valueOf_195 hl (by decide) rfl (fun ls hl => ?_)
                          refine lv_lload hx hb dX8_valueOf_197 (lv_at hl 0 rfl) ?_
                          refine lv_ldc2 (v := 1000000000000) hx hb hown (htw _ (ck_39 _ (List.mem_of_getElem? (i := 13) rfl))) dX8_valueOf_199 ?_
                          refine W.lcmp hx hb dX8_valueOf_202 ?_
                          refine lv_if_gt (tgt := 215) hx hb dX8_valueOf_203 (by decide) (fun c_49 => ?_) (fun c_49 => ?_)
                          · refine lv_ldc2 (v := (-9223372036854775808)) hx hb hown (htw _ (ck_39 _ (List.mem_of_getElem? (i := 8) rfl))) dX8_valueOf_215 ?_
                            refine W.widen (k := 0) (n := 0) (by omega) (by omega) ?_
                            obtain ⟨hP9, hD9⟩ := zsub2 (ws' := [(eO8a ru rco rsz ren rst rkn), (eA0 rco cRc 64 fRc), (eA0 ren cRe 4 fRe), (eA1 rst cRs 64 g), (mm, .inr (4, [mla, .long ct, .long yr, .long dy, .long lg])), (eO9a sk wd wf mp mb mo sp sb)]) hP hD [0, 1, 2, 3, 4, 5] (by decide) rfl
                            have hK9 := hK.sub (tys' := []) [] rfl
                            exact W.lret (v := (-9223372036854775808)) hx hb hr (fun t ht hW => ⟨⟨(-9223372036854775808), g, rfl, ((fun e9 => ⟨by rw [e9], by rw [e9]⟩ : fr_valueOf fRc fRe fRs ct yr dy lg wd wf mp mb mo sp sb a0 = ((-9223372036854775808 : Int64), g) → _) (hI.trans (by rw [fr_valueOf_L]; (try rw [← hq_r_42]); (try rw [← hq_r_48]); (try rw [if_neg c_38]); (try rw [if_neg c_40]); (try rw [if_neg c_43]); (try rw [if_pos c_44]); (try rw [if_neg c_45]); (try rw [if_neg c_46]); (try rw [if_pos c_47]); (try rw [if_pos c_49]); try rfl))), by rw [ht]; exact hP9, va_K.moved hW.alike hK9, hD9⟩, hS.F ht⟩) hS.2.2 dX8_valueOf_218
                          · refine lv_lload hx hb dX8_valueOf_206 (lv_at hl 0 rfl) ?_
                            refine lv_ldc2 (v := (-1000000000000)) hx hb hown (htw _ (ck_39 _ (List.mem_of_getElem? (i := 14) rfl))) dX8_valueOf_208 ?_
                            refine W.lcmp hx hb dX8_valueOf_211 ?_
                            refine lv_if_ge (tgt := 219) hx hb dX8_valueOf_212 (by decide) (fun c_50 => ?_) (fun c_50 => ?_)
                            · refine lv_aload_n hx hb dX8_valueOf_219 rfl (lv_at hl 6 rfl) ?_
                              refine va_get (D := (dC, dI)) (ci := 8) (v := .ref rst) (C := RX8) (T := TX8) (N := 5) hx hb htw inlX8 hown hK hP 0 rfl rfl 3 (by decide) (htw _ (ck_7 _ (List.mem_of_getElem? (i := 4) rfl))) (fun _ h9 => h9) rfl dX8_valueOf_220 ?_
                              refine lv_iload hx hb dX8_valueOf_223 (lv_at hl 1 rfl) ?_
                              refine lv_lload hx hb dX8_valueOf_225 (lv_at hl 0 rfl) ?_
                              refine va_last hx hb hK hP hD hS 3 2 rfl rfl (xv_in htp (xv_r hq_r_42) c_43 c_40 c_44) dX8_valueOf_227 (fun H locs hP hD hS => ?_)
                              obtain ⟨hP, hD⟩ := zre [(eO8a ru rco rsz ren rst rkn), (eA0 rco cRc 64 fRc), (eA0 ren cRe 4 fRe), (eA1 rst cRs 64 (vp_updL g ((tp - r_42).toNatClampNeg) r_48)), (mm, .inr (4, [mla, .long ct, .long yr, .long dy, .long lg])), (eO9a sk wd wf mp mb mo sp sb)] hP hD rfl
                              refine lv_iinc (v := ((tp - r_42) + 1)) (lv' := [(4, .int ((tp - r_42) + 1)), (9, .long r_48), (8, .int r_42), (7, .int ((-1) - (fRc i.toNatClampNeg))), (6, .int i), (5, .int 0), (0, .ref ru), (1, .int a0), (2, .ref mm), (3, .ref sk)]) hx hb dX8_valueOf_228 hl (k := 1) rfl (rfl) (by decide) rfl (fun ls hl => ?_)
                              refine lv_iinc (v := (i + 1)) (lv' := [(6, .int (i + 1)), (4, .int ((tp - r_42) + 1)), (9, .long r_48), (8, .int r_42), (7, .int ((-1) - (fRc i.toNatClampNeg))), (5, .int 0), (0, .ref ru), (1, .int a0), (2, .ref mm), (3, .ref sk)]) hx hb dX8_valueOf_231 hl (k := 4) rfl (rfl) (by decide) rfl (fun ls hl => ?_)
                              refine lv_goto (tgt := 42) hx hb dX8_valueOf_234 (by decide) ?_
                              exact ih ((tp - r_42) + 1) (i + 1) (vp_updL g ((tp - r_42).toNatClampNeg) r_48) (by rw [xv_i1 hi0 c_40]; omega) (by rw [xv_i1 hi0 c_40]; omega) (xv_next htp (xv_r hq_r_42) c_43 c_40) (hI.trans (by rw [fr_valueOf_L]; (try rw [← hq_r_42]); (try rw [← hq_r_48]); (try rw [if_neg c_38]); (try rw [if_neg c_40]); (try rw [if_neg c_43]); (try rw [if_pos c_44]); (try rw [if_neg c_45]); (try rw [if_neg c_46]); (try rw [if_pos c_47]); (try rw [if_neg c_49]); (try rw [if_pos c_50]); try rfl)) H locs ls hP hD hS (lv_sub hl [1, 0, 5, 6, 7, 8, 9] rfl)
                            · refine lv_ldc2 (v := (-9223372036854775808)) hx hb hown (htw _ (ck_39 _ (List.mem_of_getElem? (i := 8) rfl))) dX8_valueOf_215 ?_
                              refine W.widen (k := 0) (n := 0) (by omega) (by omega) ?_
                              obtain ⟨hP9, hD9⟩ := zsub2 (ws' := [(eO8a ru rco rsz ren rst rkn), (eA0 rco cRc 64 fRc), (eA0 ren cRe 4 fRe), (eA1 rst cRs 64 g), (mm, .inr (4, [mla, .long ct, .long yr, .long dy, .long lg])), (eO9a sk wd wf mp mb mo sp sb)]) hP hD [0, 1, 2, 3, 4, 5] (by decide) rfl
                              have hK9 := hK.sub (tys' := []) [] rfl
                              exact W.lret (v := (-9223372036854775808)) hx hb hr (fun t ht hW => ⟨⟨(-9223372036854775808), g, rfl, ((fun e9 => ⟨by rw [e9], by rw [e9]⟩ : fr_valueOf fRc fRe fRs ct yr dy lg wd wf mp mb mo sp sb a0 = ((-9223372036854775808 : Int64), g) → _) (hI.trans (by rw [fr_valueOf_L]; (try rw [← hq_r_42]); (try rw [← hq_r_48]); (try rw [if_neg c_38]); (try rw [if_neg c_40]); (try rw [if_neg c_43]); (try rw [if_pos c_44]); (try rw [if_neg c_45]); (try rw [if_neg c_46]); (try rw [if_pos c_47]); (try rw [if_neg c_49]); (try rw [if_neg c_50]); try rfl))), by rw [ht]; exact hP9, va_K.moved hW.alike hK9, hD9⟩, hS.F ht⟩) hS.2.2 dX8_valueOf_218
                        · refine lv_aload_n hx hb dX8_valueOf_177 rfl (lv_at hl 5 rfl) ?_
                          refine va_get (D := (dC, dI)) (ci := 8) (v := .ref rco) (C := RX8) (T := TX8) (N := 5) hx hb htw inlX8 hown hK hP 0 rfl rfl 0 (by decide) (htw _ (ck_7 _ (List.mem_of_getElem? (i := 2) rfl))) (fun _ h9 => h9) rfl dX8_valueOf_178 ?_
                          refine lv_iload hx hb dX8_valueOf_181 (lv_at hl 3 rfl) ?_
                          refine va_iald hx hb hK hP 1 0 rfl rfl (xg_inr (N := 64) rfl (xv_nl hi0) c_40) dX8_valueOf_183 ?_
                          refine lv_i2l (v := (fRc i.toNatClampNeg).toInt64) hx hb dX8_valueOf_184 rfl ?_
                          refine lv_goto (tgt := 195) hx hb dX8_valueOf_185 (by decide) ?_
                          refine lv_lstore (lv' := [(9, .long ((fRc i.toNatClampNeg).toInt64)), (4, .int (tp - r_42)), (8, .int r_42), (7, .int ((-1) - (fRc i.toNatClampNeg))), (6, .int i), (5, .int 0), (0, .ref ru), (1, .int a0), (2, .ref mm), (3, .ref sk)]) hx hb dX8_valueOf_195 hl (by decide) rfl (fun ls hl => ?_)
                          refine lv_lload hx hb dX8_valueOf_197 (lv_at hl 0 rfl) ?_
                          refine lv_ldc2 (v := 1000000000000) hx hb hown (htw _ (ck_39 _ (List.mem_of_getElem? (i := 13) rfl))) dX8_valueOf_199 ?_
                          refine W.lcmp hx hb dX8_valueOf_202 ?_
                          refine lv_if_gt (tgt := 215) hx hb dX8_valueOf_203 (by decide) (fun c_52 => ?_) (fun c_52 => ?_)
                          · refine lv_ldc2 (v := (-9223372036854775808)) hx hb hown (htw _ (ck_39 _ (List.mem_of_getElem? (i := 8) rfl))) dX8_valueOf_215 ?_
                            refine W.widen (k := 0) (n := 0) (by omega) (by omega) ?_
                            obtain ⟨hP9, hD9⟩ := zsub2 (ws' := [(eO8a ru rco rsz ren rst rkn), (eA0 rco cRc 64 fRc), (eA0 ren cRe 4 fRe), (eA1 rst cRs 64 g), (mm, .inr (4, [mla, .long ct, .long yr, .long dy, .long lg])), (eO9a sk wd wf mp mb mo sp sb)]) hP hD [0, 1, 2, 3, 4, 5] (by decide) rfl
                            have hK9 := hK.sub (tys' := []) [] rfl
                            exact W.lret (v := (-9223372036854775808)) hx hb hr (fun t ht hW => ⟨⟨(-9223372036854775808), g, rfl, ((fun e9 => ⟨by rw [e9], by rw [e9]⟩ : fr_valueOf fRc fRe fRs ct yr dy lg wd wf mp mb mo sp sb a0 = ((-9223372036854775808 : Int64), g) → _) (hI.trans (by rw [fr_valueOf_L]; (try rw [← hq_r_42]); (try rw [if_neg c_38]); (try rw [if_neg c_40]); (try rw [if_neg c_43]); (try rw [if_pos c_44]); (try rw [if_neg c_45]); (try rw [if_neg c_46]); (try rw [if_neg c_47]); (try rw [if_pos c_52]); try rfl))), by rw [ht]; exact hP9, va_K.moved hW.alike hK9, hD9⟩, hS.F ht⟩) hS.2.2 dX8_valueOf_218
                          · refine lv_lload hx hb dX8_valueOf_206 (lv_at hl 0 rfl) ?_
                            refine lv_ldc2 (v := (-1000000000000)) hx hb hown (htw _ (ck_39 _ (List.mem_of_getElem? (i := 14) rfl))) dX8_valueOf_208 ?_
                            refine W.lcmp hx hb dX8_valueOf_211 ?_
                            refine lv_if_ge (tgt := 219) hx hb dX8_valueOf_212 (by decide) (fun c_53 => ?_) (fun c_53 => ?_)
                            · refine lv_aload_n hx hb dX8_valueOf_219 rfl (lv_at hl 6 rfl) ?_
                              refine va_get (D := (dC, dI)) (ci := 8) (v := .ref rst) (C := RX8) (T := TX8) (N := 5) hx hb htw inlX8 hown hK hP 0 rfl rfl 3 (by decide) (htw _ (ck_7 _ (List.mem_of_getElem? (i := 4) rfl))) (fun _ h9 => h9) rfl dX8_valueOf_220 ?_
                              refine lv_iload hx hb dX8_valueOf_223 (lv_at hl 1 rfl) ?_
                              refine lv_lload hx hb dX8_valueOf_225 (lv_at hl 0 rfl) ?_
                              refine va_last hx hb hK hP hD hS 3 2 rfl rfl (xv_in htp (xv_r hq_r_42) c_43 c_40 c_44) dX8_valueOf_227 (fun H locs hP hD hS => ?_)
                              obtain ⟨hP, hD⟩ := zre [(eO8a ru rco rsz ren rst rkn), (eA0 rco cRc 64 fRc), (eA0 ren cRe 4 fRe), (eA1 rst cRs 64 (vp_updL g ((tp - r_42).toNatClampNeg) ((fRc i.toNatClampNeg).toInt64))), (mm, .inr (4, [mla, .long ct, .long yr, .long dy, .long lg])), (eO9a sk wd wf mp mb mo sp sb)] hP hD rfl
                              refine lv_iinc (v := ((tp - r_42) + 1)) (lv' := [(4, .int ((tp - r_42) + 1)), (9, .long ((fRc i.toNatClampNeg).toInt64)), (8, .int r_42), (7, .int ((-1) - (fRc i.toNatClampNeg))), (6, .int i), (5, .int 0), (0, .ref ru), (1, .int a0), (2, .ref mm), (3, .ref sk)]) hx hb dX8_valueOf_228 hl (k := 1) rfl (rfl) (by decide) rfl (fun ls hl => ?_)
                              refine lv_iinc (v := (i + 1)) (lv' := [(6, .int (i + 1)), (4, .int ((tp - r_42) + 1)), (9, .long ((fRc i.toNatClampNeg).toInt64)), (8, .int r_42), (7, .int ((-1) - (fRc i.toNatClampNeg))), (5, .int 0), (0, .ref ru), (1, .int a0), (2, .ref mm), (3, .ref sk)]) hx hb dX8_valueOf_231 hl (k := 4) rfl (rfl) (by decide) rfl (fun ls hl => ?_)
                              refine lv_goto (tgt := 42) hx hb dX8_valueOf_234 (by decide) ?_
                              exact ih ((tp - r_42) + 1) (i + 1) (vp_updL g ((tp - r_42).toNatClampNeg) ((fRc i.toNatClampNeg).toInt64)) (by rw [xv_i1 hi0 c_40]; omega) (by rw [xv_i1 hi0 c_40]; omega) (xv_next htp (xv_r hq_r_42) c_43 c_40) (hI.trans (by rw [fr_valueOf_L]; (try rw [← hq_r_42]); (try rw [if_neg c_38]); (try rw [if_neg c_40]); (try rw [if_neg c_43]); (try rw [if_pos c_44]); (try rw [if_neg c_45]); (try rw [if_neg c_46]); (try rw [if_neg c_47]); (try rw [if_neg c_52]); (try rw [if_pos c_53]); try rfl)) H locs ls hP hD hS (lv_sub hl [1, 0, 5, 6, 7, 8, 9] rfl)
                            · refine lv_ldc2 (v := (-9223372036854775808)) hx hb hown (htw _ (ck_39 _ (List.mem_of_getElem? (i := 8) rfl))) dX8_valueOf_215 ?_
                              refine W.widen (k := 0) (n := 0) (by omega) (by omega) ?_
                              obtain ⟨hP9, hD9⟩ := zsub2 (ws' := [(eO8a ru rco rsz ren rst rkn), (eA0 rco cRc 64 fRc), (eA0 ren cRe 4 fRe), (eA1 rst cRs 64 g), (mm, .inr (4, [mla, .long ct, .long yr, .long dy, .long lg])), (eO9a sk wd wf mp mb mo sp sb)]) hP hD [0, 1, 2, 3, 4, 5] (by decide) rfl
                              have hK9 := hK.sub (tys' := []) [] rfl
                              exact W.lret (v := (-9223372036854775808)) hx hb hr (fun t ht hW => ⟨⟨(-9223372036854775808), g, rfl, ((fun e9 => ⟨by rw [e9], by rw [e9]⟩ : fr_valueOf fRc fRe fRs ct yr dy lg wd wf mp mb mo sp sb a0 = ((-9223372036854775808 : Int64), g) → _) (hI.trans (by rw [fr_valueOf_L]; (try rw [← hq_r_42]); (try rw [if_neg c_38]); (try rw [if_neg c_40]); (try rw [if_neg c_43]); (try rw [if_pos c_44]); (try rw [if_neg c_45]); (try rw [if_neg c_46]); (try rw [if_neg c_47]); (try rw [if_neg c_52]); (try rw [if_neg c_53]); try rfl))), by rw [ht]; exact hP9, va_K.moved hW.alike hK9, hD9⟩, hS.F ht⟩) hS.2.2 dX8_valueOf_218
                      · refine lv_aload_n hx hb dX8_valueOf_150 rfl (lv_at hl 5 rfl) ?_
                        refine va_get (D := (dC, dI)) (ci := 8) (v := .ref rst) (C := RX8) (T := TX8) (N := 5) hx hb htw inlX8 hown hK hP 0 rfl rfl 3 (by decide) (htw _ (ck_7 _ (List.mem_of_getElem? (i := 4) rfl))) (fun _ h9 => h9) rfl dX8_valueOf_151 ?_
                        refine lv_iload hx hb dX8_valueOf_154 (lv_at hl 0 rfl) ?_
                        refine va_lald hx hb hK hP 3 2 rfl rfl (xv_in htp (xv_r hq_r_42) c_43 c_40 c_44) dX8_valueOf_156 ?_
                        refine lv_lconst (v := 0) hx hb dX8_valueOf_157 (by decide) ?_
                        refine W.lcmp hx hb dX8_valueOf_158 ?_
                        refine lv_if_ne (tgt := 166) hx hb dX8_valueOf_159 (by decide) (fun c_55 => ?_) (fun c_55 => ?_)
                        · refine lv_lconst (v := 0) hx hb dX8_valueOf_166 (by decide) ?_
                          refine lv_lstore (lv' := [(9, .long 0), (4, .int (tp - r_42)), (8, .int r_42), (7, .int ((-1) - (fRc i.toNatClampNeg))), (6, .int i), (5, .int 0), (0, .ref ru), (1, .int a0), (2, .ref mm), (3, .ref sk)]) hx hb dX8_valueOf_167 hl (by decide) rfl (fun ls hl => ?_)
                          refine lv_goto (tgt := 197) hx hb dX8_valueOf_169 (by decide) ?_
                          refine lv_lload hx hb dX8_valueOf_197 (lv_at hl 0 rfl) ?_
                          refine lv_ldc2 (v := 1000000000000) hx hb hown (htw _ (ck_39 _ (List.mem_of_getElem? (i := 13) rfl))) dX8_valueOf_199 ?_
                          refine W.lcmp hx hb dX8_valueOf_202 ?_
                          refine lv_if_gt (tgt := 215) hx hb dX8_valueOf_203 (by decide) (fun c => absurd c (by decide)) (fun _ => ?_)
                          refine lv_lload hx hb dX8_valueOf_206 (lv_at hl 0 rfl) ?_
                          refine lv_ldc2 (v := (-1000000000000)) hx hb hown (htw _ (ck_39 _ (List.mem_of_getElem? (i := 14) rfl))) dX8_valueOf_208 ?_
                          refine W.lcmp hx hb dX8_valueOf_211 ?_
                          refine lv_if_ge (tgt := 219) hx hb dX8_valueOf_212 (by decide) (fun _ => ?_) (fun c => absurd c (by decide))
                          refine lv_aload_n hx hb dX8_valueOf_219 rfl (lv_at hl 6 rfl) ?_
                          refine va_get (D := (dC, dI)) (ci := 8) (v := .ref rst) (C := RX8) (T := TX8) (N := 5) hx hb htw inlX8 hown hK hP 0 rfl rfl 3 (by decide) (htw _ (ck_7 _ (List.mem_of_getElem? (i := 4) rfl))) (fun _ h9 => h9) rfl dX8_valueOf_220 ?_
                          refine lv_iload hx hb dX8_valueOf_223 (lv_at hl 1 rfl) ?_
                          refine lv_lload hx hb dX8_valueOf_225 (lv_at hl 0 rfl) ?_
                          refine va_last hx hb hK hP hD hS 3 2 rfl rfl (xv_in htp (xv_r hq_r_42) c_43 c_40 c_44) dX8_valueOf_227 (fun H locs hP hD hS => ?_)
                          obtain ⟨hP, hD⟩ := zre [(eO8a ru rco rsz ren rst rkn), (eA0 rco cRc 64 fRc), (eA0 ren cRe 4 fRe), (eA1 rst cRs 64 (vp_updL g ((tp - r_42).toNatClampNeg) 0)), (mm, .inr (4, [mla, .long ct, .long yr, .long dy, .long lg])), (eO9a sk wd wf mp mb mo sp sb)] hP hD rfl
                          refine lv_iinc (v := ((tp - r_42) + 1)) (lv' := [(4, .int ((tp - r_42) + 1)), (9, .long 0), (8, .int r_42), (7, .int ((-1) - (fRc i.toNatClampNeg))), (6, .int i), (5, .int 0), (0, .ref ru), (1, .int a0), (2, .ref mm), (3, .ref sk)]) hx hb dX8_valueOf_228 hl (k := 1) rfl (rfl) (by decide) rfl (fun ls hl => ?_)
                          refine lv_iinc (v := (i + 1)) (lv' := [(6, .int (i + 1)), (4, .int ((tp - r_42) + 1)), (9, .long 0), (8, .int r_42), (7, .int ((-1) - (fRc i.toNatClampNeg))), (5, .int 0), (0, .ref ru), (1, .int a0), (2, .ref mm), (3, .ref sk)]) hx hb dX8_valueOf_231 hl (k := 4) rfl (rfl) (by decide) rfl (fun ls hl => ?_)
                          refine lv_goto (tgt := 42) hx hb dX8_valueOf_234 (by decide) ?_
                          exact ih ((tp - r_42) + 1) (i + 1) (vp_updL g ((tp - r_42).toNatClampNeg) 0) (by rw [xv_i1 hi0 c_40]; omega) (by rw [xv_i1 hi0 c_40]; omega) (xv_next htp (xv_r hq_r_42) c_43 c_40) (hI.trans (by rw [fr_valueOf_L]; (try rw [← hq_r_42]); (try rw [if_neg c_38]); (try rw [if_neg c_40]); (try rw [if_neg c_43]); (try rw [if_pos c_44]); (try rw [if_neg c_45]); (try rw [if_pos c_46]); (try rw [if_neg c_55]); try rfl)) H locs ls hP hD hS (lv_sub hl [1, 0, 5, 6, 7, 8, 9] rfl)
                        · refine lv_lconst (v := 1) hx hb dX8_valueOf_162 (by decide) ?_
                          refine lv_goto (tgt := 167) hx hb dX8_valueOf_163 (by decide) ?_
                          refine lv_lstore (lv' := [(9, .long 1), (4, .int (tp - r_42)), (8, .int r_42), (7, .int ((-1) - (fRc i.toNatClampNeg))), (6, .int i), (5, .int 0), (0, .ref ru), (1, .int a0), (2, .ref mm), (3, .ref sk)]) hx hb dX8_valueOf_167 hl (by decide) rfl (fun ls hl => ?_)
                          refine lv_goto (tgt := 197) hx hb dX8_valueOf_169 (by decide) ?_
                          refine lv_lload hx hb dX8_valueOf_197 (lv_at hl 0 rfl) ?_
                          refine lv_ldc2 (v := 1000000000000) hx hb hown (htw _ (ck_39 _ (List.mem_of_getElem? (i := 13) rfl))) dX8_valueOf_199 ?_
                          refine W.lcmp hx hb dX8_valueOf_202 ?_
                          refine lv_if_gt (tgt := 215) hx hb dX8_valueOf_203 (by decide) (fun c => absurd c (by decide)) (fun _ => ?_)
                          refine lv_lload hx hb dX8_valueOf_206 (lv_at hl 0 rfl) ?_
                          refine lv_ldc2 (v := (-1000000000000)) hx hb hown (htw _ (ck_39 _ (List.mem_of_getElem? (i := 14) rfl))) dX8_valueOf_208 ?_
                          refine W.lcmp hx hb dX8_valueOf_211 ?_
                          refine lv_if_ge (tgt := 219) hx hb dX8_valueOf_212 (by decide) (fun _ => ?_) (fun c => absurd c (by decide))
                          refine lv_aload_n hx hb dX8_valueOf_219 rfl (lv_at hl 6 rfl) ?_
                          refine va_get (D := (dC, dI)) (ci := 8) (v := .ref rst) (C := RX8) (T := TX8) (N := 5) hx hb htw inlX8 hown hK hP 0 rfl rfl 3 (by decide) (htw _ (ck_7 _ (List.mem_of_getElem? (i := 4) rfl))) (fun _ h9 => h9) rfl dX8_valueOf_220 ?_
                          refine lv_iload hx hb dX8_valueOf_223 (lv_at hl 1 rfl) ?_
                          refine lv_lload hx hb dX8_valueOf_225 (lv_at hl 0 rfl) ?_
                          refine va_last hx hb hK hP hD hS 3 2 rfl rfl (xv_in htp (xv_r hq_r_42) c_43 c_40 c_44) dX8_valueOf_227 (fun H locs hP hD hS => ?_)
                          obtain ⟨hP, hD⟩ := zre [(eO8a ru rco rsz ren rst rkn), (eA0 rco cRc 64 fRc), (eA0 ren cRe 4 fRe), (eA1 rst cRs 64 (vp_updL g ((tp - r_42).toNatClampNeg) 1)), (mm, .inr (4, [mla, .long ct, .long yr, .long dy, .long lg])), (eO9a sk wd wf mp mb mo sp sb)] hP hD rfl
                          refine lv_iinc (v := ((tp - r_42) + 1)) (lv' := [(4, .int ((tp - r_42) + 1)), (9, .long 1), (8, .int r_42), (7, .int ((-1) - (fRc i.toNatClampNeg))), (6, .int i), (5, .int 0), (0, .ref ru), (1, .int a0), (2, .ref mm), (3, .ref sk)]) hx hb dX8_valueOf_228 hl (k := 1) rfl (rfl) (by decide) rfl (fun ls hl => ?_)
                          refine lv_iinc (v := (i + 1)) (lv' := [(6, .int (i + 1)), (4, .int ((tp - r_42) + 1)), (9, .long 1), (8, .int r_42), (7, .int ((-1) - (fRc i.toNatClampNeg))), (5, .int 0), (0, .ref ru), (1, .int a0), (2, .ref mm), (3, .ref sk)]) hx hb dX8_valueOf_231 hl (k := 4) rfl (rfl) (by decide) rfl (fun ls hl => ?_)
                          refine lv_goto (tgt := 42) hx hb dX8_valueOf_234 (by decide) ?_
                          exact ih ((tp - r_42) + 1) (i + 1) (vp_updL g ((tp - r_42).toNatClampNeg) 1) (by rw [xv_i1 hi0 c_40]; omega) (by rw [xv_i1 hi0 c_40]; omega) (xv_next htp (xv_r hq_r_42) c_43 c_40) (hI.trans (by rw [fr_valueOf_L]; (try rw [← hq_r_42]); (try rw [if_neg c_38]); (try rw [if_neg c_40]); (try rw [if_neg c_43]); (try rw [if_pos c_44]); (try rw [if_neg c_45]); (try rw [if_pos c_46]); (try rw [if_pos c_55]); try rfl)) H locs ls hP hD hS (lv_sub hl [1, 0, 5, 6, 7, 8, 9] rfl)
                    · refine lv_iload hx hb dX8_valueOf_118 (lv_at hl 2 rfl) ?_
                      refine lv_aload_n hx hb dX8_valueOf_120 rfl (lv_at hl 5 rfl) ?_
                      refine va_get (D := (dC, dI)) (ci := 8) (v := .ref rst) (C := RX8) (T := TX8) (N := 5) hx hb htw inlX8 hown hK hP 0 rfl rfl 3 (by decide) (htw _ (ck_7 _ (List.mem_of_getElem? (i := 4) rfl))) (fun _ h9 => h9) rfl dX8_valueOf_121 ?_
                      refine lv_iload hx hb dX8_valueOf_124 (lv_at hl 0 rfl) ?_
                      refine va_lald hx hb hK hP 3 2 rfl rfl (xv_in htp (xv_r hq_r_42) c_43 c_40 c_44) dX8_valueOf_126 ?_
                      refine lv_aload_n hx hb dX8_valueOf_127 rfl (lv_at hl 5 rfl) ?_
                      refine va_get (D := (dC, dI)) (ci := 8) (v := .ref rst) (C := RX8) (T := TX8) (N := 5) hx hb htw inlX8 hown hK hP 0 rfl rfl 3 (by decide) (htw _ (ck_7 _ (List.mem_of_getElem? (i := 4) rfl))) (fun _ h9 => h9) rfl dX8_valueOf_128 ?_
                      refine lv_iload hx hb dX8_valueOf_131 (lv_at hl 0 rfl) ?_
                      refine lv_iconst (v := 1) hx hb dX8_valueOf_133 (by decide) ?_
                      refine lv_iadd hx hb dX8_valueOf_134 ?_
                      refine va_lald hx hb hK hP 3 2 rfl rfl (xv_in2 htp (xv_r hq_r_42) c_43 c_40 c_45) dX8_valueOf_135 ?_
                      have hPc := hP.sub (ws' := []) [] rfl
                      have hKc := hK.sub (tys' := []) [] rfl
                      refine vp_callSl (W.runS (As := [.int ((-1) - (fRc i.toNatClampNeg)), .long (g ((tp - r_42).toNatClampNeg)), .long (g (((tp - r_42) + 1).toNatClampNeg))]) (rest := []) ⟨hx, hb, hml, hown, htw⟩ (gr_joined l dC dI ((-1) - (fRc i.toNatClampNeg)) (g ((tp - r_42).toNatClampNeg)) (g (((tp - r_42) + 1).toNatClampNeg))) (va_cwS 3 htw (xg_S (ck_39 _ (List.mem_of_getElem? (i := 19) rfl)) (ck_39 _ (List.mem_of_getElem? (i := 20) rfl)) (ck_6 _ (List.mem_of_getElem? (i := 8) rfl)) (ck_39 _ (List.mem_of_getElem? (i := 21) rfl))) rfl rfl rfl (by exact ⟨hdc_1.1, hdc_1.2, hdd_11⟩) ⟨Nat.le_of_ble_eq_true rfl, Nat.le_of_ble_eq_true rfl⟩) ⟨fun a U g mk q => by obtain ⟨q0, qP, qK⟩ := q; exact ⟨q0, qP, va_K.moved (u := U) (U := U.calling g mk a) (Vm.Alike.refl U.vm) qK⟩, fun U hU hW => ⟨rfl, by rw [hU]; exact hPc, va_K.moved hW.alike hKc⟩⟩ rfl rfl hl.1 rfl (lv_room (Nat.le_of_ble_eq_true rfl)) dX8_valueOf_136 ⟨Nat.le_of_ble_eq_true rfl, Nat.le_of_ble_eq_true rfl⟩) (fun r_58 hw => ?_)
                      try dsimp only at hw
                      have hq_r_58 : r_58 = fr_joined ((-1) - (fRc i.toNatClampNeg)) (g ((tp - r_42).toNatClampNeg)) (g (((tp - r_42) + 1).toNatClampNeg)) := hw
                      refine lv_lstore (lv' := [(9, .long r_58), (4, .int (tp - r_42)), (8, .int r_42), (7, .int ((-1) - (fRc i.toNatClampNeg))), (6, .int i), (5, .int 0), (0, .ref ru), (1, .int a0), (2, .ref mm), (3, .ref sk)]) hx hb dX8_valueOf_139 hl (by decide) rfl (fun ls hl => ?_)
                      refine lv_goto (tgt := 197) hx hb dX8_valueOf_141 (by decide) ?_
                      refine lv_lload hx hb dX8_valueOf_197 (lv_at hl 0 rfl) ?_
                      refine lv_ldc2 (v := 1000000000000) hx hb hown (htw _ (ck_39 _ (List.mem_of_getElem? (i := 13) rfl))) dX8_valueOf_199 ?_
                      refine W.lcmp hx hb dX8_valueOf_202 ?_
                      refine lv_if_gt (tgt := 215) hx hb dX8_valueOf_203 (by decide) (fun c_59 => ?_) (fun c_59 => ?_)
                      · refine lv_ldc2 (v := (-9223372036854775808)) hx hb hown (htw _ (ck_39 _ (List.mem_of_getElem? (i := 8) rfl))) dX8_valueOf_215 ?_
                        refine W.widen (k := 0) (n := 0) (by omega) (by omega) ?_
                        obtain ⟨hP9, hD9⟩ := zsub2 (ws' := [(eO8a ru rco rsz ren rst rkn), (eA0 rco cRc 64 fRc), (eA0 ren cRe 4 fRe), (eA1 rst cRs 64 g), (mm, .inr (4, [mla, .long ct, .long yr, .long dy, .long lg])), (eO9a sk wd wf mp mb mo sp sb)]) hP hD [0, 1, 2, 3, 4, 5] (by decide) rfl
                        have hK9 := hK.sub (tys' := []) [] rfl
                        exact W.lret (v := (-9223372036854775808)) hx hb hr (fun t ht hW => ⟨⟨(-9223372036854775808), g, rfl, ((fun e9 => ⟨by rw [e9], by rw [e9]⟩ : fr_valueOf fRc fRe fRs ct yr dy lg wd wf mp mb mo sp sb a0 = ((-9223372036854775808 : Int64), g) → _) (hI.trans (by rw [fr_valueOf_L]; (try rw [← hq_r_42]); (try rw [← hq_r_58]); (try rw [if_neg c_38]); (try rw [if_neg c_40]); (try rw [if_neg c_43]); (try rw [if_pos c_44]); (try rw [if_pos c_45]); (try rw [if_pos c_59]); try rfl))), by rw [ht]; exact hP9, va_K.moved hW.alike hK9, hD9⟩, hS.F ht⟩) hS.2.2 dX8_valueOf_218
                      · refine lv_lload hx hb dX8_valueOf_206 (lv_at hl 0 rfl) ?_
                        refine lv_ldc2 (v := (-1000000000000)) hx hb hown (htw _ (ck_39 _ (List.mem_of_getElem? (i := 14) rfl))) dX8_valueOf_208 ?_
                        refine W.lcmp hx hb dX8_valueOf_211 ?_
                        refine lv_if_ge (tgt := 219) hx hb dX8_valueOf_212 (by decide) (fun c_60 => ?_) (fun c_60 => ?_)
                        · refine lv_aload_n hx hb dX8_valueOf_219 rfl (lv_at hl 6 rfl) ?_
                          refine va_get (D := (dC, dI)) (ci := 8) (v := .ref rst) (C := RX8) (T := TX8) (N := 5) hx hb htw inlX8 hown hK hP 0 rfl rfl 3 (by decide) (htw _ (ck_7 _ (List.mem_of_getElem? (i := 4) rfl))) (fun _ h9 => h9) rfl dX8_valueOf_220 ?_
                          refine lv_iload hx hb dX8_valueOf_223 (lv_at hl 1 rfl) ?_
                          refine lv_lload hx hb dX8_valueOf_225 (lv_at hl 0 rfl) ?_
                          refine va_last hx hb hK hP hD hS 3 2 rfl rfl (xv_in htp (xv_r hq_r_42) c_43 c_40 c_44) dX8_valueOf_227 (fun H locs hP hD hS => ?_)
                          obtain ⟨hP, hD⟩ := zre [(eO8a ru rco rsz ren rst rkn), (eA0 rco cRc 64 fRc), (eA0 ren cRe 4 fRe), (eA1 rst cRs 64 (vp_updL g ((tp - r_42).toNatClampNeg) r_58)), (mm, .inr (4, [mla, .long ct, .long yr, .long dy, .long lg])), (eO9a sk wd wf mp mb mo sp sb)] hP hD rfl
                          refine lv_iinc (v := ((tp - r_42) + 1)) (lv' := [(4, .int ((tp - r_42) + 1)), (9, .long r_58), (8, .int r_42), (7, .int ((-1) - (fRc i.toNatClampNeg))), (6, .int i), (5, .int 0), (0, .ref ru), (1, .int a0), (2, .ref mm), (3, .ref sk)]) hx hb dX8_valueOf_228 hl (k := 1) rfl (rfl) (by decide) rfl (fun ls hl => ?_)
                          refine lv_iinc (v := (i + 1)) (lv' := [(6, .int (i + 1)), (4, .int ((tp - r_42) + 1)), (9, .long r_58), (8, .int r_42), (7, .int ((-1) - (fRc i.toNatClampNeg))), (5, .int 0), (0, .ref ru), (1, .int a0), (2, .ref mm), (3, .ref sk)]) hx hb dX8_valueOf_231 hl (k := 4) rfl (rfl) (by decide) rfl (fun ls hl => ?_)
                          refine lv_goto (tgt := 42) hx hb dX8_valueOf_234 (by decide) ?_
                          exact ih ((tp - r_42) + 1) (i + 1) (vp_updL g ((tp - r_42).toNatClampNeg) r_58) (by rw [xv_i1 hi0 c_40]; omega) (by rw [xv_i1 hi0 c_40]; omega) (xv_next htp (xv_r hq_r_42) c_43 c_40) (hI.trans (by rw [fr_valueOf_L]; (try rw [← hq_r_42]); (try rw [← hq_r_58]); (try rw [if_neg c_38]); (try rw [if_neg c_40]); (try rw [if_neg c_43]); (try rw [if_pos c_44]); (try rw [if_pos c_45]); (try rw [if_neg c_59]); (try rw [if_pos c_60]); try rfl)) H locs ls hP hD hS (lv_sub hl [1, 0, 5, 6, 7, 8, 9] rfl)
                        · refine lv_ldc2 (v := (-9223372036854775808)) hx hb hown (htw _ (ck_39 _ (List.mem_of_getElem? (i := 8) rfl))) dX8_valueOf_215 ?_
                          refine W.widen (k := 0) (n := 0) (by omega) (by omega) ?_
                          obtain ⟨hP9, hD9⟩ := zsub2 (ws' := [(eO8a ru rco rsz ren rst rkn), (eA0 rco cRc 64 fRc), (eA0 ren cRe 4 fRe), (eA1 rst cRs 64 g), (mm, .inr (4, [mla, .long ct, .long yr, .long dy, .long lg])), (eO9a sk wd wf mp mb mo sp sb)]) hP hD [0, 1, 2, 3, 4, 5] (by decide) rfl
                          have hK9 := hK.sub (tys' := []) [] rfl
                          exact W.lret (v := (-9223372036854775808)) hx hb hr (fun t ht hW => ⟨⟨(-9223372036854775808), g, rfl, ((fun e9 => ⟨by rw [e9], by rw [e9]⟩ : fr_valueOf fRc fRe fRs ct yr dy lg wd wf mp mb mo sp sb a0 = ((-9223372036854775808 : Int64), g) → _) (hI.trans (by rw [fr_valueOf_L]; (try rw [← hq_r_42]); (try rw [← hq_r_58]); (try rw [if_neg c_38]); (try rw [if_neg c_40]); (try rw [if_neg c_43]); (try rw [if_pos c_44]); (try rw [if_pos c_45]); (try rw [if_neg c_59]); (try rw [if_neg c_60]); try rfl))), by rw [ht]; exact hP9, va_K.moved hW.alike hK9, hD9⟩, hS.F ht⟩) hS.2.2 dX8_valueOf_218
                  · refine lv_ldc2 (v := (-9223372036854775808)) hx hb hown (htw _ (ck_39 _ (List.mem_of_getElem? (i := 8) rfl))) dX8_valueOf_101 ?_
                    refine W.widen (k := 0) (n := 0) (by omega) (by omega) ?_
                    obtain ⟨hP9, hD9⟩ := zsub2 (ws' := [(eO8a ru rco rsz ren rst rkn), (eA0 rco cRc 64 fRc), (eA0 ren cRe 4 fRe), (eA1 rst cRs 64 g), (mm, .inr (4, [mla, .long ct, .long yr, .long dy, .long lg])), (eO9a sk wd wf mp mb mo sp sb)]) hP hD [0, 1, 2, 3, 4, 5] (by decide) rfl
                    have hK9 := hK.sub (tys' := []) [] rfl
                    exact W.lret (v := (-9223372036854775808)) hx hb hr (fun t ht hW => ⟨⟨(-9223372036854775808), g, rfl, ((fun e9 => ⟨by rw [e9], by rw [e9]⟩ : fr_valueOf fRc fRe fRs ct yr dy lg wd wf mp mb mo sp sb a0 = ((-9223372036854775808 : Int64), g) → _) (hI.trans (by rw [fr_valueOf_L]; (try rw [← hq_r_42]); (try rw [if_neg c_38]); (try rw [if_neg c_40]); (try rw [if_neg c_43]); (try rw [if_neg c_44]); try rfl))), by rw [ht]; exact hP9, va_K.moved hW.alike hK9, hD9⟩, hS.F ht⟩) hS.2.2 dX8_valueOf_104
        exact hloop_33 64 (0 : Int32) (0 : Int32) fRs (Int.le_refl 0) (by decide) (⟨Int.le_refl 0, Int.le_refl 0⟩) (by rw [fr_valueOf]; (try rw [if_neg c_1]); (try rw [if_pos c_2]); (try rw [if_pos c_3]); try rfl) _ _ ls hP hD hS (lv_sub hl [2, 0, 1, 3, 4, 5, 6] rfl)
    · refine lv_ldc2 (v := (-9223372036854775808)) hx hb hown (htw _ (ck_39 _ (List.mem_of_getElem? (i := 8) rfl))) dX8_valueOf_13 ?_
      refine W.widen (k := 0) (n := 0) (by omega) (by omega) ?_
      have hP9 := hP
      have hD9 := hD
      have hK9 := hK.sub (tys' := []) [] rfl
      exact W.lret (v := (-9223372036854775808)) hx hb hr (fun t ht hW => ⟨⟨(-9223372036854775808), fRs, rfl, ((fun e9 => ⟨by rw [e9], by rw [e9]⟩ : fr_valueOf fRc fRe fRs ct yr dy lg wd wf mp mb mo sp sb a0 = ((-9223372036854775808 : Int64), fRs) → _) (by rw [fr_valueOf]; (try rw [if_neg c_1]); (try rw [if_neg c_2]); try rfl)), by rw [ht]; exact hP9, va_K.moved hW.alike hK9, hD9⟩, hS.F ht⟩) hS.2.2 dX8_valueOf_16
