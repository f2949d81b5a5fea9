theorem xd_mid {a b : Int64} (h0 : ¬ a < 1) (h1 : a < b) (h2 : b ≤ 10000000000000) : (((a + b) + 1) / 2).toInt = (a.toInt + b.toInt + 1) / 2 := by
  rw [Int64.lt_iff_toInt_lt] at h0 h1
  rw [Int64.le_iff_toInt_le] at h2
  have e1 : (1 : Int64).toInt = 1 := rfl
  have e2 : (2 : Int64).toInt = 2 := rfl
  have e9 : (10000000000000 : Int64).toInt = 10000000000000 := rfl
  have q1 : (a.toInt + b.toInt).bmod (2 ^ 64) = a.toInt + b.toInt := Int.bmod_eq_of_le (by omega) (by omega)
  have q2 : (a.toInt + b.toInt + 1).bmod (2 ^ 64) = a.toInt + b.toInt + 1 := Int.bmod_eq_of_le (by omega) (by omega)
  rw [Int64.toInt_div, Int64.toInt_add, Int64.toInt_add, e1, e2, q1, q2, Int.tdiv_eq_ediv_of_nonneg (by omega)]
  exact Int.bmod_eq_of_le (by omega) (by omega)
theorem xd_lo {a b : Int64} (h0 : ¬ a < 1) (h1 : a < b) (h2 : b ≤ 10000000000000) : ¬ (((a + b) + 1) / 2) < 1 := by
  have q := xd_mid h0 h1 h2
  rw [Int64.lt_iff_toInt_lt] at h0 h1 ⊢
  have e1 : (1 : Int64).toInt = 1 := rfl
  omega
theorem xd_m1 {a b : Int64} (h0 : ¬ a < 1) (h1 : a < b) (h2 : b ≤ 10000000000000) : ((((a + b) + 1) / 2) - 1).toInt = (a.toInt + b.toInt + 1) / 2 - 1 := by
  have q := xd_mid h0 h1 h2
  rw [Int64.lt_iff_toInt_lt] at h0 h1
  rw [Int64.le_iff_toInt_le] at h2
  have e1 : (1 : Int64).toInt = 1 := rfl
  have e9 : (10000000000000 : Int64).toInt = 10000000000000 := rfl
  rw [Int64.toInt_sub, q, e1]
  exact Int.bmod_eq_of_le (by omega) (by omega)
theorem xd_hi {a b : Int64} (h0 : ¬ a < 1) (h1 : a < b) (h2 : b ≤ 10000000000000) : ((((a + b) + 1) / 2) - 1) ≤ 10000000000000 := by
  have q := xd_m1 h0 h1 h2
  rw [Int64.lt_iff_toInt_lt] at h0 h1
  rw [Int64.le_iff_toInt_le] at h2 ⊢
  have e1 : (1 : Int64).toInt = 1 := rfl
  have e9 : (10000000000000 : Int64).toInt = 10000000000000 := rfl
  omega
theorem xd_pow {x : Int} {n : Nat} (h : x < (2 : Int) ^ (n + 1)) : x < 2 * (2 : Int) ^ n := by
  rw [Int.pow_succ] at h
  omega
theorem xd_g1 {a b : Int64} {n : Nat} (h0 : ¬ a < 1) (h1 : a < b) (h2 : b ≤ 10000000000000) (hg : b.toInt - a.toInt < (2 : Int) ^ (n + 1)) : b.toInt - (((a + b) + 1) / 2).toInt < (2 : Int) ^ n := by
  rw [xd_mid h0 h1 h2]
  have := xd_pow hg
  rw [Int64.lt_iff_toInt_lt] at h1
  omega
theorem xd_g2 {a b : Int64} {n : Nat} (h0 : ¬ a < 1) (h1 : a < b) (h2 : b ≤ 10000000000000) (hg : b.toInt - a.toInt < (2 : Int) ^ (n + 1)) : ((((a + b) + 1) / 2) - 1).toInt - a.toInt < (2 : Int) ^ n := by
  rw [xd_m1 h0 h1 h2]
  have := xd_pow hg
  rw [Int64.lt_iff_toInt_lt] at h1
  omega
theorem xd_z {a b : Int64} (h : b.toInt - a.toInt < (2 : Int) ^ 0) : b ≤ a := by
  rw [Int64.le_iff_toInt_le]
  have : (2 : Int) ^ 0 = 1 := rfl
  omega
theorem xd_s {b : Int64} (h : b ≤ 10000000000000) : b.toInt - (1 : Int64).toInt < (2 : Int) ^ 64 := by
  rw [Int64.le_iff_toInt_le] at h
  have e1 : (1 : Int64).toInt = 1 := rfl
  have e9 : (10000000000000 : Int64).toInt = 10000000000000 := rfl
  have e2 : (2 : Int) ^ 64 = 18446744073709551616 := by decide
  omega
theorem xd_tdiv {a b : Int} (hb : b ≠ 0) : -(a.natAbs : Int) ≤ a.tdiv b ∧ a.tdiv b ≤ (a.natAbs : Int) := by
  have h1 : (a.tdiv b).natAbs ≤ a.natAbs := by rw [Int.natAbs_tdiv]; exact Nat.div_le_self _ _
  omega
theorem xd_q {c : Int64} {f l : Int32} (h0 : ¬ c < 0) (h9 : c ≤ 2000000000000) (hl : ¬ l = 0) : (((c - f.toInt64) / l.toInt64) + 1) ≤ 10000000000000 := by
  rw [Int64.lt_iff_toInt_lt] at h0
  rw [Int64.le_iff_toInt_le] at h9 ⊢
  have e0 : (0 : Int64).toInt = 0 := rfl
  have e1 : (1 : Int64).toInt = 1 := rfl
  have e2 : (2000000000000 : Int64).toInt = 2000000000000 := rfl
  have e9 : (10000000000000 : Int64).toInt = 10000000000000 := rfl
  have hf := Int32.toInt_lt f
  have hf2 := Int32.le_toInt f
  have q1 : (c.toInt - f.toInt).bmod (2 ^ 64) = c.toInt - f.toInt := Int.bmod_eq_of_le (by omega) (by omega)
  have hl2 : l.toInt ≠ 0 := fun q => hl (Int32.toInt_inj.mp (by rw [q]; rfl))
  have hd := xd_tdiv (a := c.toInt - f.toInt) hl2
  have q2 : ((c.toInt - f.toInt).tdiv l.toInt).bmod (2 ^ 64) = (c.toInt - f.toInt).tdiv l.toInt := Int.bmod_eq_of_le (by omega) (by omega)
  rw [Int64.toInt_add, Int64.toInt_div, Int64.toInt_sub, Int32.toInt_toInt64, Int32.toInt_toInt64, q1, q2, e1, Int.bmod_eq_of_le (by omega) (by omega)]
  omega
theorem xd_ey {f k : Int32} (hk : ¬ k = 0) : (((f.toInt64 - 1) / k.toInt64) + 1) ≤ 10000000000000 := by
  rw [Int64.le_iff_toInt_le]
  have e1 : (1 : Int64).toInt = 1 := rfl
  have e9 : (10000000000000 : Int64).toInt = 10000000000000 := rfl
  have hf := Int32.toInt_lt f
  have hf2 := Int32.le_toInt f
  have q1 : (f.toInt - 1).bmod (2 ^ 64) = f.toInt - 1 := Int.bmod_eq_of_le (by omega) (by omega)
  have hl2 : k.toInt ≠ 0 := fun q => hk (Int32.toInt_inj.mp (by rw [q]; rfl))
  have hd := xd_tdiv (a := f.toInt - 1) hl2
  have q2 : ((f.toInt - 1).tdiv k.toInt).bmod (2 ^ 64) = (f.toInt - 1).tdiv k.toInt := Int.bmod_eq_of_le (by omega) (by omega)
  rw [Int64.toInt_add, Int64.toInt_div, Int64.toInt_sub, Int32.toInt_toInt64, Int32.toInt_toInt64, e1, q1, q2, Int.bmod_eq_of_le (by omega) (by omega)]
  omega
theorem xd_nneg {x : Int32} (h : ¬ x = 0) : ¬ (-x) = 0 := by lia

theorem xd_neg {x : Int32} (h : ¬ 0 ≤ lg_cmp x.toInt64 0) : ¬ x = 0 := fun e => h (by rw [e]; decide)

def fq_lengthOf (f_landHas : Nat → Int32) (a0 : Int32) (a1 : Int64) : Int64 := (((f_landHas ((3 * a0).toNatClampNeg)).toInt64) + ((a1 - 1) * ((f_landHas (((3 * a0) + 1).toNatClampNeg)).toInt64)))
theorem gq_lengthOf_s0 {y0 : Int32} (h0 : ¬ (y0 < 0)) (h1 : y0 ≤ 7) : ¬ ((3 * y0) < 0) ∧ ¬ (24 ≤ (3 * y0)) := by lia
theorem gq_lengthOf_s1 {y0 : Int32} (h0 : ¬ (y0 < 0)) (h1 : y0 ≤ 7) : ¬ (((3 * y0) + 1) < 0) ∧ ¬ (24 ≤ ((3 * y0) + 1)) := by lia
theorem dX12_lengthOf_0 : decode cX12_lengthOf 0 = .ok (.aload_n 0, 1) := zk_42 (by decide +kernel)
theorem dX12_lengthOf_1 : decode cX12_lengthOf 1 = .ok (.getfield 26, 3) := zk_180 (by decide +kernel)
theorem dX12_lengthOf_4 : decode cX12_lengthOf 4 = .ok (.iconst 3, 1) := zk_6 (by decide +kernel)
theorem dX12_lengthOf_5 : decode cX12_lengthOf 5 = .ok (.iload_n 1, 1) := zk_27 (by decide +kernel)
theorem dX12_lengthOf_6 : decode cX12_lengthOf 6 = .ok (.imul, 1) := zk_104 (by decide +kernel)
theorem dX12_lengthOf_7 : decode cX12_lengthOf 7 = .ok (.iaload, 1) := zk_46 (by decide +kernel)
theorem dX12_lengthOf_8 : decode cX12_lengthOf 8 = .ok (.i2l, 1) := zk_133 (by decide +kernel)
theorem dX12_lengthOf_9 : decode cX12_lengthOf 9 = .ok (.lload_n 2, 1) := zk_32 (by decide +kernel)
theorem dX12_lengthOf_10 : decode cX12_lengthOf 10 = .ok (.lconst 1, 1) := zk_10 (by decide +kernel)
theorem dX12_lengthOf_11 : decode cX12_lengthOf 11 = .ok (.lsub, 1) := zk_101 (by decide +kernel)
theorem dX12_lengthOf_12 : decode cX12_lengthOf 12 = .ok (.aload_n 0, 1) := zk_42 (by decide +kernel)
theorem dX12_lengthOf_13 : decode cX12_lengthOf 13 = .ok (.getfield 26, 3) := zk_180 (by decide +kernel)
theorem dX12_lengthOf_16 : decode cX12_lengthOf 16 = .ok (.iconst 3, 1) := zk_6 (by decide +kernel)
theorem dX12_lengthOf_17 : decode cX12_lengthOf 17 = .ok (.iload_n 1, 1) := zk_27 (by decide +kernel)
theorem dX12_lengthOf_18 : decode cX12_lengthOf 18 = .ok (.imul, 1) := zk_104 (by decide +kernel)
theorem dX12_lengthOf_19 : decode cX12_lengthOf 19 = .ok (.iconst 1, 1) := zk_4 (by decide +kernel)
theorem dX12_lengthOf_20 : decode cX12_lengthOf 20 = .ok (.iadd, 1) := zk_96 (by decide +kernel)
theorem dX12_lengthOf_21 : decode cX12_lengthOf 21 = .ok (.iaload, 1) := zk_46 (by decide +kernel)
theorem dX12_lengthOf_22 : decode cX12_lengthOf 22 = .ok (.i2l, 1) := zk_133 (by decide +kernel)
theorem dX12_lengthOf_23 : decode cX12_lengthOf 23 = .ok (.lmul, 1) := zk_105 (by decide +kernel)
theorem dX12_lengthOf_24 : decode cX12_lengthOf 24 = .ok (.ladd, 1) := zk_97 (by decide +kernel)
theorem dX12_lengthOf_25 : decode cX12_lengthOf 25 = .ok (.lreturn, 1) := zk_173 (by decide +kernel)
set_option maxHeartbeats 4000000 in
set_option maxRecDepth 100000 in
theorem gq_lengthOf (l : Launch) (dC : Nat → ClassId) (dI : Nat → Nat → Nat) (mq : Nat) (g : Nat → Int32) (gl : Nat → Int64) (rf : Nat → Nat) (ck : Nat → ClassId) (f_landHas : Nat → Int32) (a0 : Int32) (a1 : Int64) (hl0 : ¬ a0 < 0) (hl7 : a0 ≤ 7) : Met l yX12_lengthOf (Cond.code yX12_lengthOf cX12_lengthOf 4 (some .long) :: wsL_law) ({ frames := 0, cells := 0, slots := 0, locals := 0 }) (va_Pc [.ref mq, .int a0, .long a1] (fun U => va_P (dC, dI) vwCl [(mq, .inr (12, mF g gl rf)), (eA0 (rf 29) (ck 29) 24 f_landHas)] U.heap ∧ va_K (dC, dI) vwCl [((ck 29), .int)] U)) (vp_Sl (fun r => r = fq_lengthOf f_landHas a0 a1)) 0 0 (fun _ => False) := by
  refine Met.ofW (cc := cX12_lengthOf) (maxL := 4) (ret := (some .long)) (by decide) rfl ?_
  intro p e s m args below meth c s₁ B hml hv
  obtain ⟨rfl, hP, hK⟩ := hv
  have hx := B.exec
  have hb := B.bytes
  have hr := B.returns
  have hts := atoms_spec (ws := Cond.code yX12_lengthOf cX12_lengthOf 4 (some .long) :: wsL_law) B.pre
  have htw : ∀ w ∈ wsL_law, w.before _ s = true := fun w h => hts w (List.mem_cons_of_mem _ h)
  have hown : s.vm.findClass RX12 = some m.cls := findClass_of_methodNamed B.named
  have hlocks := B.notSynchronized
  have hl := lv_entry ([.ref mq, .int a0, .long a1]) (n := 4) (Nat.le_of_ble_eq_true rfl)
  rw [lg_entry_eq]
  generalize (lg_sl ([.ref mq, .int a0, .long a1]) ++ List.replicate (4 - (lg_sl ([.ref mq, .int a0, .long a1])).length) Slot.unset).toArray = ls at hl ⊢
  have hl : lv_has ls 4 [(0, .ref mq), (1, .int a0), (2, .long a1)] := hl
  refine lv_aload_n hx hb dX12_lengthOf_0 rfl (lv_at hl 0 rfl) ?_
  refine va_get (D := (dC, dI)) (ci := 12) (v := .ref (rf 29)) (C := RX12) (T := TX12) (N := 76) hx hb htw inlX12 hown hK hP 0 rfl rfl 29 (by decide) (htw _ (ck_9 _ (List.mem_of_getElem? (i := 9) rfl))) (fun _ h9 => h9) rfl dX12_lengthOf_1 ?_
  refine lv_iconst (v := 3) hx hb dX12_lengthOf_4 (by decide) ?_
  refine lv_iload_n hx hb dX12_lengthOf_5 rfl (lv_at hl 1 rfl) ?_
  refine lv_imul hx hb dX12_lengthOf_6 ?_
  refine va_iald hx hb hK hP 1 0 rfl rfl (xg_inr (N := 24) rfl (gq_lengthOf_s0 (y0 := a0) hl0 hl7).1 (gq_lengthOf_s0 (y0 := a0) hl0 hl7).2) dX12_lengthOf_7 ?_
  refine lv_i2l (v := (f_landHas ((3 * a0).toNatClampNeg)).toInt64) hx hb dX12_lengthOf_8 rfl ?_
  refine lv_lload_n hx hb dX12_lengthOf_9 rfl (lv_at hl 2 rfl) ?_
  refine lv_lconst (v := 1) hx hb dX12_lengthOf_10 (by decide) ?_
  refine lv_lsub hx hb dX12_lengthOf_11 ?_
  refine lv_aload_n hx hb dX12_lengthOf_12 rfl (lv_at hl 0 rfl) ?_
  refine va_get (D := (dC, dI)) (ci := 12) (v := .ref (rf 29)) (C := RX12) (T := TX12) (N := 76) hx hb htw inlX12 hown hK hP 0 rfl rfl 29 (by decide) (htw _ (ck_9 _ (List.mem_of_getElem? (i := 9) rfl))) (fun _ h9 => h9) rfl dX12_lengthOf_13 ?_
  refine lv_iconst (v := 3) hx hb dX12_lengthOf_16 (by decide) ?_
  refine lv_iload_n hx hb dX12_lengthOf_17 rfl (lv_at hl 1 rfl) ?_
  refine lv_imul hx hb dX12_lengthOf_18 ?_
  refine lv_iconst (v := 1) hx hb dX12_lengthOf_19 (by decide) ?_
  refine lv_iadd hx hb dX12_lengthOf_20 ?_
  refine va_iald hx hb hK hP 1 0 rfl rfl (xg_inr (N := 24) rfl (gq_lengthOf_s1 (y0 := a0) hl0 hl7).1 (gq_lengthOf_s1 (y0 := a0) hl0 hl7).2) dX12_lengthOf_21 ?_
  refine lv_i2l (v := (f_landHas (((3 * a0) + 1).toNatClampNeg)).toInt64) hx hb dX12_lengthOf_22 rfl ?_
  refine lv_lmul hx hb dX12_lengthOf_23 ?_
  refine lv_ladd hx hb dX12_lengthOf_24 ?_
  exact W.lret (v := (((f_landHas ((3 * a0).toNatClampNeg)).toInt64) + ((a1 - 1) * ((f_landHas (((3 * a0) + 1).toNatClampNeg)).toInt64)))) hx hb hr (fun t ht hW => ⟨(((f_landHas ((3 * a0).toNatClampNeg)).toInt64) + ((a1 - 1) * ((f_landHas (((3 * a0) + 1).toNatClampNeg)).toInt64))), rfl, (Eq.symm ((by rw [fq_lengthOf]))), ht⟩) (fun _ h => by cases h) dX12_lengthOf_25

def fq_isYear (f_landHas : Nat → Int32) (a0 : Int32) (a1 : Int64) : Int32 := (if lg_cmp a1 1 < 0 then (0 : Int32) else (xL ((fq_lengthOf f_landHas a0 a1)) (fun r_2 => (if lg_cmp r_2 1 < 0 then (0 : Int32) else (1 : Int32)))))
theorem dX12_isYear_0 : decode cX12_isYear 0 = .ok (.lload_n 2, 1) := zk_32 (by decide +kernel)
theorem dX12_isYear_1 : decode cX12_isYear 1 = .ok (.lconst 1, 1) := zk_10 (by decide +kernel)
theorem dX12_isYear_2 : decode cX12_isYear 2 = .ok (.lcmp, 1) := zk_148 (by decide +kernel)
theorem dX12_isYear_3 : decode cX12_isYear 3 = .ok (.ifCond .lt 18, 3) := zk_155 (by decide +kernel)
theorem dX12_isYear_21 : decode cX12_isYear 21 = .ok (.iconst 0, 1) := zk_3 (by decide +kernel)
theorem dX12_isYear_22 : decode cX12_isYear 22 = .ok (.ireturn, 1) := zk_172 (by decide +kernel)
theorem dX12_isYear_6 : decode cX12_isYear 6 = .ok (.aload_n 0, 1) := zk_42 (by decide +kernel)
theorem dX12_isYear_7 : decode cX12_isYear 7 = .ok (.iload_n 1, 1) := zk_27 (by decide +kernel)
theorem dX12_isYear_8 : decode cX12_isYear 8 = .ok (.lload_n 2, 1) := zk_32 (by decide +kernel)
theorem dX12_isYear_9 : decode cX12_isYear 9 = .ok (.invokevirtual 375, 3) := zk_182 (by decide +kernel)
theorem dX12_isYear_12 : decode cX12_isYear 12 = .ok (.lconst 1, 1) := zk_10 (by decide +kernel)
theorem dX12_isYear_13 : decode cX12_isYear 13 = .ok (.lcmp, 1) := zk_148 (by decide +kernel)
theorem dX12_isYear_14 : decode cX12_isYear 14 = .ok (.ifCond .lt 7, 3) := zk_155 (by decide +kernel)
theorem dX12_isYear_17 : decode cX12_isYear 17 = .ok (.iconst 1, 1) := zk_4 (by decide +kernel)
theorem dX12_isYear_18 : decode cX12_isYear 18 = .ok (.goto 4, 3) := zk_167 (by decide +kernel)
set_option maxHeartbeats 4000000 in
set_option maxRecDepth 100000 in
theorem gq_isYear (l : Launch) (dC : Nat → ClassId) (dI : Nat → Nat → Nat) (mq : Nat) (g : Nat → Int32) (gl : Nat → Int64) (rf : Nat → Nat) (ck : Nat → ClassId) (f_landHas : Nat → Int32) (a0 : Int32) (a1 : Int64) (hl0 : ¬ a0 < 0) (hl7 : a0 ≤ 7) : Met l yX12_isYear (Cond.code yX12_isYear cX12_isYear 4 (some .boolean) :: wsL_law) ({ frames := 1, cells := 0, slots := 0, locals := 23 }) (va_Pc [.ref mq, .int a0, .long a1] (fun U => va_P (dC, dI) vwCl [(mq, .inr (12, mF g gl rf)), (eA0 (rf 29) (ck 29) 24 f_landHas)] U.heap ∧ va_K (dC, dI) vwCl [((ck 29), .int)] U)) (vp_Si (fun r => (r = fq_isYear f_landHas a0 a1) ∧ (r = 0 ∨ r = 1))) 0 0 (fun _ => False) := by
  refine Met.ofW (cc := cX12_isYear) (maxL := 4) (ret := (some .boolean)) (by decide) rfl ?_
  intro p e s m args below meth c s₁ B hml hv
  obtain ⟨rfl, hP, hK⟩ := hv
  have hx := B.exec
  have hb := B.bytes
  have hr := B.returns
  have hts := atoms_spec (ws := Cond.code yX12_isYear cX12_isYear 4 (some .boolean) :: wsL_law) B.pre
  have htw : ∀ w ∈ wsL_law, w.before _ s = true := fun w h => hts w (List.mem_cons_of_mem _ h)
  have hown : s.vm.findClass RX12 = some m.cls := findClass_of_methodNamed B.named
  have hlocks := B.notSynchronized
  have hl := lv_entry ([.ref mq, .int a0, .long a1]) (n := 4) (Nat.le_of_ble_eq_true rfl)
  rw [lg_entry_eq]
  generalize (lg_sl ([.ref mq, .int a0, .long a1]) ++ List.replicate (4 - (lg_sl ([.ref mq, .int a0, .long a1])).length) Slot.unset).toArray = ls at hl ⊢
  have hl : lv_has ls 4 [(0, .ref mq), (1, .int a0), (2, .long a1)] := hl
  refine lv_lload_n hx hb dX12_isYear_0 rfl (lv_at hl 2 rfl) ?_
  refine lv_lconst (v := 1) hx hb dX12_isYear_1 (by decide) ?_
  refine W.lcmp hx hb dX12_isYear_2 ?_
  refine lv_if_lt (tgt := 21) hx hb dX12_isYear_3 (by decide) (fun c_1 => ?_) (fun c_1 => ?_)
  · refine lv_iconst (v := 0) hx hb dX12_isYear_21 (by decide) ?_
    exact W.zret (v := 0) hx hb hr (by first | rfl | decide) (fun t ht hW => ⟨0, rfl, ⟨(Eq.symm ((by rw [fq_isYear]; (try rw [if_pos c_1]); try rfl))), Or.inl rfl⟩, ht⟩) (fun _ h => by cases h) dX12_isYear_22
  · refine lv_aload_n hx hb dX12_isYear_6 rfl (lv_at hl 0 rfl) ?_
    refine lv_iload_n hx hb dX12_isYear_7 rfl (lv_at hl 1 rfl) ?_
    refine lv_lload_n hx hb dX12_isYear_8 rfl (lv_at hl 2 rfl) ?_
    have hPc := hP.sub (ws' := [(mq, .inr (12, mF g gl rf)), (eA0 (rf 29) (ck 29) 24 f_landHas)]) [0, 1] rfl
    have hKc := hK.sub (tys' := [((ck 29), .int)]) [0] rfl
    refine vp_callSl (W.runV (As := [.int a0, .long a1]) (rest := []) ⟨hx, hb, hml, hown, htw⟩ (gq_lengthOf l dC dI mq g gl rf ck f_landHas a0 a1 hl0 hl7) (cwV 2 htw (xg_V (ck_30 _ (List.mem_of_getElem? (i := 3) rfl)) (ck_30 _ (List.mem_of_getElem? (i := 4) rfl)) (ck_30 _ (List.mem_of_getElem? (i := 5) rfl)) (ck_1 _ (List.mem_of_getElem? (i := 5) rfl)) (ck_30 _ (List.mem_of_getElem? (i := 6) rfl))) rfl rfl rfl (by exact ⟨rfl, hdc_14.1, hdc_14.2, hdd_41⟩) ⟨Nat.le_of_ble_eq_true rfl, Nat.le_of_ble_eq_true rfl⟩) ⟨fun a U g mk q => by obtain ⟨q0, qP, qK⟩ := q; exact ⟨q0, qP, va_K.moved (u := U) (U := U.calling g mk a) (Vm.Alike.refl U.vm) qK⟩, va_recv hKc hPc (ci := 12) (q0 := 0) rfl rfl, fun U hU hW => ⟨rfl, by rw [hU]; exact hPc, va_K.moved hW.alike hKc⟩⟩ rfl rfl hl.1 rfl (lv_room (Nat.le_of_ble_eq_true rfl)) dX12_isYear_9 ⟨Nat.le_of_ble_eq_true rfl, Nat.le_of_ble_eq_true rfl⟩) (fun r_2 hw => ?_)
    try dsimp only at hw
    have hq_r_2 : r_2 = (fq_lengthOf f_landHas a0 a1) := hw
    refine lv_lconst (v := 1) hx hb dX12_isYear_12 (by decide) ?_
    refine W.lcmp hx hb dX12_isYear_13 ?_
    refine lv_if_lt (tgt := 21) hx hb dX12_isYear_14 (by decide) (fun c_3 => ?_) (fun c_3 => ?_)
    · refine lv_iconst (v := 0) hx hb dX12_isYear_21 (by decide) ?_
      exact W.zret (v := 0) hx hb hr (by first | rfl | decide) (fun t ht hW => ⟨0, rfl, ⟨(Eq.symm ((by rw [fq_isYear]; (try rw [if_neg c_1]); (try rw [← hq_r_2]); (try rw [xL_eq]); (try rw [if_pos c_3]); try rfl))), Or.inl rfl⟩, ht⟩) (fun _ h => by cases h) dX12_isYear_22
    · refine lv_iconst (v := 1) hx hb dX12_isYear_17 (by decide) ?_
      refine lv_goto (tgt := 22) hx hb dX12_isYear_18 (by decide) ?_
      exact W.zret (v := 1) hx hb hr (by first | rfl | decide) (fun t ht hW => ⟨1, rfl, ⟨(Eq.symm ((by rw [fq_isYear]; (try rw [if_neg c_1]); (try rw [← hq_r_2]); (try rw [xL_eq]); (try rw [if_neg c_3]); try rfl))), Or.inr rfl⟩, ht⟩) (fun _ h => by cases h) dX12_isYear_22

def fq_beginOf (f_landHas : Nat → Int32) (a0 : Int32) (a1 : Int64) : Int64 := (if lg_cmp ((f_landHas (((3 * a0) + 1).toNatClampNeg)).toInt64) 0 ≤ 0 then ((((f_landHas (((3 * a0) + 2).toNatClampNeg)).toInt64) + ((a1 - 1) * ((f_landHas ((3 * a0).toNatClampNeg)).toInt64))) + (((f_landHas (((3 * a0) + 1).toNatClampNeg)).toInt64) * (((a1 - 1) * (a1 - 2)) / 2))) else (if lg_cmp a1 3000000 ≤ 0 then ((((f_landHas (((3 * a0) + 2).toNatClampNeg)).toInt64) + ((a1 - 1) * ((f_landHas ((3 * a0).toNatClampNeg)).toInt64))) + (((f_landHas (((3 * a0) + 1).toNatClampNeg)).toInt64) * (((a1 - 1) * (a1 - 2)) / 2))) else (1000000000001 : Int64)))
theorem gq_beginOf_s0 {y0 : Int32} (h0 : ¬ (y0 < 0)) (h1 : y0 ≤ 7) : ¬ (((3 * y0) + 1) < 0) ∧ ¬ (24 ≤ ((3 * y0) + 1)) := by lia
theorem gq_beginOf_s1 {y0 : Int32} (h0 : ¬ (y0 < 0)) (h1 : y0 ≤ 7) : ¬ (((3 * y0) + 2) < 0) ∧ ¬ (24 ≤ ((3 * y0) + 2)) := by lia
theorem gq_beginOf_s2 {y0 : Int32} (h0 : ¬ (y0 < 0)) (h1 : y0 ≤ 7) : ¬ ((3 * y0) < 0) ∧ ¬ (24 ≤ (3 * y0)) := by lia
theorem gq_beginOf_s3 {y0 : Int32} (h0 : ¬ (y0 < 0)) (h1 : y0 ≤ 7) : ¬ (((3 * y0) + 2) < 0) ∧ ¬ (24 ≤ ((3 * y0) + 2)) := by lia
theorem gq_beginOf_s4 {y0 : Int32} (h0 : ¬ (y0 < 0)) (h1 : y0 ≤ 7) : ¬ ((3 * y0) < 0) ∧ ¬ (24 ≤ (3 * y0)) := by lia
theorem dX12_beginOf_0 : decode cX12_beginOf 0 = .ok (.aload_n 0, 1) := zk_42 (by decide +kernel)
theorem dX12_beginOf_1 : decode cX12_beginOf 1 = .ok (.getfield 26, 3) := zk_180 (by decide +kernel)
theorem dX12_beginOf_4 : decode cX12_beginOf 4 = .ok (.iconst 3, 1) := zk_6 (by decide +kernel)
theorem dX12_beginOf_5 : decode cX12_beginOf 5 = .ok (.iload_n 1, 1) := zk_27 (by decide +kernel)
theorem dX12_beginOf_6 : decode cX12_beginOf 6 = .ok (.imul, 1) := zk_104 (by decide +kernel)
theorem dX12_beginOf_7 : decode cX12_beginOf 7 = .ok (.iconst 1, 1) := zk_4 (by decide +kernel)
theorem dX12_beginOf_8 : decode cX12_beginOf 8 = .ok (.iadd, 1) := zk_96 (by decide +kernel)
theorem dX12_beginOf_9 : decode cX12_beginOf 9 = .ok (.iaload, 1) := zk_46 (by decide +kernel)
theorem dX12_beginOf_10 : decode cX12_beginOf 10 = .ok (.i2l, 1) := zk_133 (by decide +kernel)
theorem dX12_beginOf_11 : decode cX12_beginOf 11 = .ok (.lstore 4, 2) := zk_55 (by decide +kernel)
theorem dX12_beginOf_13 : decode cX12_beginOf 13 = .ok (.lload 4, 2) := zk_22 (by decide +kernel)
theorem dX12_beginOf_15 : decode cX12_beginOf 15 = .ok (.lconst 0, 1) := zk_9 (by decide +kernel)
theorem dX12_beginOf_16 : decode cX12_beginOf 16 = .ok (.lcmp, 1) := zk_148 (by decide +kernel)
theorem dX12_beginOf_17 : decode cX12_beginOf 17 = .ok (.ifCond .le 15, 3) := zk_158 (by decide +kernel)
theorem dX12_beginOf_32 : decode cX12_beginOf 32 = .ok (.aload_n 0, 1) := zk_42 (by decide +kernel)
theorem dX12_beginOf_33 : decode cX12_beginOf 33 = .ok (.getfield 26, 3) := zk_180 (by decide +kernel)
theorem dX12_beginOf_36 : decode cX12_beginOf 36 = .ok (.iconst 3, 1) := zk_6 (by decide +kernel)
theorem dX12_beginOf_37 : decode cX12_beginOf 37 = .ok (.iload_n 1, 1) := zk_27 (by decide +kernel)
theorem dX12_beginOf_38 : decode cX12_beginOf 38 = .ok (.imul, 1) := zk_104 (by decide +kernel)
theorem dX12_beginOf_39 : decode cX12_beginOf 39 = .ok (.iconst 2, 1) := zk_5 (by decide +kernel)
theorem dX12_beginOf_40 : decode cX12_beginOf 40 = .ok (.iadd, 1) := zk_96 (by decide +kernel)
theorem dX12_beginOf_41 : decode cX12_beginOf 41 = .ok (.iaload, 1) := zk_46 (by decide +kernel)
theorem dX12_beginOf_42 : decode cX12_beginOf 42 = .ok (.i2l, 1) := zk_133 (by decide +kernel)
theorem dX12_beginOf_43 : decode cX12_beginOf 43 = .ok (.lload_n 2, 1) := zk_32 (by decide +kernel)
theorem dX12_beginOf_44 : decode cX12_beginOf 44 = .ok (.lconst 1, 1) := zk_10 (by decide +kernel)
theorem dX12_beginOf_45 : decode cX12_beginOf 45 = .ok (.lsub, 1) := zk_101 (by decide +kernel)
theorem dX12_beginOf_46 : decode cX12_beginOf 46 = .ok (.aload_n 0, 1) := zk_42 (by decide +kernel)
theorem dX12_beginOf_47 : decode cX12_beginOf 47 = .ok (.getfield 26, 3) := zk_180 (by decide +kernel)
theorem dX12_beginOf_50 : decode cX12_beginOf 50 = .ok (.iconst 3, 1) := zk_6 (by decide +kernel)
theorem dX12_beginOf_51 : decode cX12_beginOf 51 = .ok (.iload_n 1, 1) := zk_27 (by decide +kernel)
theorem dX12_beginOf_52 : decode cX12_beginOf 52 = .ok (.imul, 1) := zk_104 (by decide +kernel)
theorem dX12_beginOf_53 : decode cX12_beginOf 53 = .ok (.iaload, 1) := zk_46 (by decide +kernel)
theorem dX12_beginOf_54 : decode cX12_beginOf 54 = .ok (.i2l, 1) := zk_133 (by decide +kernel)
theorem dX12_beginOf_55 : decode cX12_beginOf 55 = .ok (.lmul, 1) := zk_105 (by decide +kernel)
theorem dX12_beginOf_56 : decode cX12_beginOf 56 = .ok (.ladd, 1) := zk_97 (by decide +kernel)
theorem dX12_beginOf_57 : decode cX12_beginOf 57 = .ok (.lload 4, 2) := zk_22 (by decide +kernel)
theorem dX12_beginOf_59 : decode cX12_beginOf 59 = .ok (.lload_n 2, 1) := zk_32 (by decide +kernel)
theorem dX12_beginOf_60 : decode cX12_beginOf 60 = .ok (.lconst 1, 1) := zk_10 (by decide +kernel)
theorem dX12_beginOf_61 : decode cX12_beginOf 61 = .ok (.lsub, 1) := zk_101 (by decide +kernel)
theorem dX12_beginOf_62 : decode cX12_beginOf 62 = .ok (.lload_n 2, 1) := zk_32 (by decide +kernel)
theorem dX12_beginOf_63 : decode cX12_beginOf 63 = .ok (.ldc2_w 383, 3) := zk_20 (by decide +kernel)
theorem dX12_beginOf_66 : decode cX12_beginOf 66 = .ok (.lsub, 1) := zk_101 (by decide +kernel)
theorem dX12_beginOf_67 : decode cX12_beginOf 67 = .ok (.lmul, 1) := zk_105 (by decide +kernel)
theorem dX12_beginOf_68 : decode cX12_beginOf 68 = .ok (.ldc2_w 383, 3) := zk_20 (by decide +kernel)
theorem dX12_beginOf_71 : decode cX12_beginOf 71 = .ok (.ldiv, 1) := zk_109 (by decide +kernel)
theorem dX12_beginOf_72 : decode cX12_beginOf 72 = .ok (.lmul, 1) := zk_105 (by decide +kernel)
theorem dX12_beginOf_73 : decode cX12_beginOf 73 = .ok (.ladd, 1) := zk_97 (by decide +kernel)
theorem dX12_beginOf_74 : decode cX12_beginOf 74 = .ok (.lreturn, 1) := zk_173 (by decide +kernel)
theorem dX12_beginOf_20 : decode cX12_beginOf 20 = .ok (.lload_n 2, 1) := zk_32 (by decide +kernel)
theorem dX12_beginOf_21 : decode cX12_beginOf 21 = .ok (.ldc2_w 379, 3) := zk_20 (by decide +kernel)
theorem dX12_beginOf_24 : decode cX12_beginOf 24 = .ok (.lcmp, 1) := zk_148 (by decide +kernel)
theorem dX12_beginOf_25 : decode cX12_beginOf 25 = .ok (.ifCond .le 7, 3) := zk_158 (by decide +kernel)
theorem dX12_beginOf_28 : decode cX12_beginOf 28 = .ok (.ldc2_w 381, 3) := zk_20 (by decide +kernel)
theorem dX12_beginOf_31 : decode cX12_beginOf 31 = .ok (.lreturn, 1) := zk_173 (by decide +kernel)
set_option maxHeartbeats 4000000 in
set_option maxRecDepth 100000 in
theorem gq_beginOf (l : Launch) (dC : Nat → ClassId) (dI : Nat → Nat → Nat) (mq : Nat) (g : Nat → Int32) (gl : Nat → Int64) (rf : Nat → Nat) (ck : Nat → ClassId) (f_landHas : Nat → Int32) (a0 : Int32) (a1 : Int64) (hl0 : ¬ a0 < 0) (hl7 : a0 ≤ 7) : Met l yX12_beginOf (Cond.code yX12_beginOf cX12_beginOf 6 (some .long) :: wsL_law) ({ frames := 0, cells := 0, slots := 0, locals := 0 }) (va_Pc [.ref mq, .int a0, .long a1] (fun U => va_P (dC, dI) vwCl [(mq, .inr (12, mF g gl rf)), (eA0 (rf 29) (ck 29) 24 f_landHas)] U.heap ∧ va_K (dC, dI) vwCl [((ck 29), .int)] U)) (vp_Sl (fun r => r = fq_beginOf f_landHas a0 a1)) 0 0 (fun _ => False) := by
  refine Met.ofW (cc := cX12_beginOf) (maxL := 6) (ret := (some .long)) (by decide) rfl ?_
  intro p e s m args below meth c s₁ B hml hv
  obtain ⟨rfl, hP, hK⟩ := hv
  have hx := B.exec
  have hb := B.bytes
  have hr := B.returns
  have hts := atoms_spec (ws := Cond.code yX12_beginOf cX12_beginOf 6 (some .long) :: wsL_law) B.pre
  have htw : ∀ w ∈ wsL_law, w.before _ s = true := fun w h => hts w (List.mem_cons_of_mem _ h)
  have hown : s.vm.findClass RX12 = some m.cls := findClass_of_methodNamed B.named
  have hlocks := B.notSynchronized
  have hl := lv_entry ([.ref mq, .int a0, .long a1]) (n := 6) (Nat.le_of_ble_eq_true rfl)
  rw [lg_entry_eq]
  generalize (lg_sl ([.ref mq, .int a0, .long a1]) ++ List.replicate (6 - (lg_sl ([.ref mq, .int a0, .long a1])).length) Slot.unset).toArray = ls at hl ⊢
  have hl : lv_has ls 6 [(0, .ref mq), (1, .int a0), (2, .long a1)] := hl
  refine lv_aload_n hx hb dX12_beginOf_0 rfl (lv_at hl 0 rfl) ?_
  refine va_get (D := (dC, dI)) (ci := 12) (v := .ref (rf 29)) (C := RX12) (T := TX12) (N := 76) hx hb htw inlX12 hown hK hP 0 rfl rfl 29 (by decide) (htw _ (ck_9 _ (List.mem_of_getElem? (i := 9) rfl))) (fun _ h9 => h9) rfl dX12_beginOf_1 ?_
  refine lv_iconst (v := 3) hx hb dX12_beginOf_4 (by decide) ?_
  refine lv_iload_n hx hb dX12_beginOf_5 rfl (lv_at hl 1 rfl) ?_
  refine lv_imul hx hb dX12_beginOf_6 ?_
  refine lv_iconst (v := 1) hx hb dX12_beginOf_7 (by decide) ?_
  refine lv_iadd hx hb dX12_beginOf_8 ?_
  refine va_iald hx hb hK hP 1 0 rfl rfl (xg_inr (N := 24) rfl (gq_beginOf_s0 (y0 := a0) hl0 hl7).1 (gq_beginOf_s0 (y0 := a0) hl0 hl7).2) dX12_beginOf_9 ?_
  refine lv_i2l (v := (f_landHas (((3 * a0) + 1).toNatClampNeg)).toInt64) hx hb dX12_beginOf_10 rfl ?_
  refine lv_lstore (lv' := [(4, .long ((f_landHas (((3 * a0) + 1).toNatClampNeg)).toInt64)), (0, .ref mq), (1, .int a0), (2, .long a1)]) hx hb dX12_beginOf_11 hl (by decide) rfl (fun ls hl => ?_)
  refine lv_lload hx hb dX12_beginOf_13 (lv_at hl 0 rfl) ?_
  refine lv_lconst (v := 0) hx hb dX12_beginOf_15 (by decide) ?_
  refine W.lcmp hx hb dX12_beginOf_16 ?_
  refine lv_if_le (tgt := 32) hx hb dX12_beginOf_17 (by decide) (fun c_1 => ?_) (fun c_1 => ?_)
  · refine lv_aload_n hx hb dX12_beginOf_32 rfl (lv_at hl 1 rfl) ?_
    refine va_get (D := (dC, dI)) (ci := 12) (v := .ref (rf 29)) (C := RX12) (T := TX12) (N := 76) hx hb htw inlX12 hown hK hP 0 rfl rfl 29 (by decide) (htw _ (ck_9 _ (List.mem_of_getElem? (i := 9) rfl))) (fun _ h9 => h9) rfl dX12_beginOf_33 ?_
    refine lv_iconst (v := 3) hx hb dX12_beginOf_36 (by decide) ?_
    refine lv_iload_n hx hb dX12_beginOf_37 rfl (lv_at hl 2 rfl) ?_
    refine lv_imul hx hb dX12_beginOf_38 ?_
    refine lv_iconst (v := 2) hx hb dX12_beginOf_39 (by decide) ?_
    refine lv_iadd hx hb dX12_beginOf_40 ?_
    refine va_iald hx hb hK hP 1 0 rfl rfl (xg_inr (N := 24) rfl (gq_beginOf_s1 (y0 := a0) hl0 hl7).1 (gq_beginOf_s1 (y0 := a0) hl0 hl7).2) dX12_beginOf_41 ?_
    refine lv_i2l (v := (f_landHas (((3 * a0) + 2).toNatClampNeg)).toInt64) hx hb dX12_beginOf_42 rfl ?_
    refine lv_lload_n hx hb dX12_beginOf_43 rfl (lv_at hl 3 rfl) ?_
    refine lv_lconst (v := 1) hx hb dX12_beginOf_44 (by decide) ?_
    refine lv_lsub hx hb dX12_beginOf_45 ?_
    refine lv_aload_n hx hb dX12_beginOf_46 rfl (lv_at hl 1 rfl) ?_
    refine va_get (D := (dC, dI)) (ci := 12) (v := .ref (rf 29)) (C := RX12) (T := TX12) (N := 76) hx hb htw inlX12 hown hK hP 0 rfl rfl 29 (by decide) (htw _ (ck_9 _ (List.mem_of_getElem? (i := 9) rfl))) (fun _ h9 => h9) rfl dX12_beginOf_47 ?_
    refine lv_iconst (v := 3) hx hb dX12_beginOf_50 (by decide) ?_
    refine lv_iload_n hx hb dX12_beginOf_51 rfl (lv_at hl 2 rfl) ?_
    refine lv_imul hx hb dX12_beginOf_52 ?_
    refine va_iald hx hb hK hP 1 0 rfl rfl (xg_inr (N := 24) rfl (gq_beginOf_s2 (y0 := a0) hl0 hl7).1 (gq_beginOf_s2 (y0 := a0) hl0 hl7).2) dX12_beginOf_53 ?_
    refine lv_i2l (v := (f_landHas ((3 * a0).toNatClampNeg)).toInt64) hx hb dX12_beginOf_54 rfl ?_
    refine lv_lmul hx hb dX12_beginOf_55 ?_
    refine lv_ladd hx hb dX12_beginOf_56 ?_
    refine lv_lload hx hb dX12_beginOf_57 (lv_at hl 0 rfl) ?_
    refine lv_lload_n hx hb dX12_beginOf_59 rfl (lv_at hl 3 rfl) ?_
    refine lv_lconst (v := 1) hx hb dX12_beginOf_60 (by decide) ?_
    refine lv_lsub hx hb dX12_beginOf_61 ?_
    refine lv_lload_n hx hb dX12_beginOf_62 rfl (lv_at hl 3 rfl) ?_
    refine lv_ldc2 (v := 2) hx hb hown (htw _ (ck_30 _ (List.mem_of_getElem? (i := 13) rfl))) dX12_beginOf_63 ?_
    refine lv_lsub hx hb dX12_beginOf_66 ?_
    refine lv_lmul hx hb dX12_beginOf_67 ?_
    refine lv_ldc2 (v := 2) hx hb hown (htw _ (ck_30 _ (List.mem_of_getElem? (i := 13) rfl))) dX12_beginOf_68 ?_
    refine lv_ldiv hx hb dX12_beginOf_71 (by decide) ?_
    refine lv_lmul hx hb dX12_beginOf_72 ?_
    refine lv_ladd hx hb dX12_beginOf_73 ?_
    exact W.lret (v := ((((f_landHas (((3 * a0) + 2).toNatClampNeg)).toInt64) + ((a1 - 1) * ((f_landHas ((3 * a0).toNatClampNeg)).toInt64))) + (((f_landHas (((3 * a0) + 1).toNatClampNeg)).toInt64) * (((a1 - 1) * (a1 - 2)) / 2)))) hx hb hr (fun t ht hW => ⟨((((f_landHas (((3 * a0) + 2).toNatClampNeg)).toInt64) + ((a1 - 1) * ((f_landHas ((3 * a0).toNatClampNeg)).toInt64))) + (((f_landHas (((3 * a0) + 1).toNatClampNeg)).toInt64) * (((a1 - 1) * (a1 - 2)) / 2))), rfl, (Eq.symm ((by rw [fq_beginOf]; (try rw [if_pos c_1]); try rfl))), ht⟩) (fun _ h => by cases h) dX12_beginOf_74
  · refine lv_lload_n hx hb dX12_beginOf_20 rfl (lv_at hl 3 rfl) ?_
    refine lv_ldc2 (v := 3000000) hx hb hown (htw _ (ck_30 _ (List.mem_of_getElem? (i := 11) rfl))) dX12_beginOf_21 ?_
    refine W.lcmp hx hb dX12_beginOf_24 ?_
    refine lv_if_le (tgt := 32) hx hb dX12_beginOf_25 (by decide) (fun c_2 => ?_) (fun c_2 => ?_)
    · refine lv_aload_n hx hb dX12_beginOf_32 rfl (lv_at hl 1 rfl) ?_
      refine va_get (D := (dC, dI)) (ci := 12) (v := .ref (rf 29)) (C := RX12) (T := TX12) (N := 76) hx hb htw inlX12 hown hK hP 0 rfl rfl 29 (by decide) (htw _ (ck_9 _ (List.mem_of_getElem? (i := 9) rfl))) (fun _ h9 => h9) rfl dX12_beginOf_33 ?_
      refine lv_iconst (v := 3) hx hb dX12_beginOf_36 (by decide) ?_
      refine lv_iload_n hx hb dX12_beginOf_37 rfl (lv_at hl 2 rfl) ?_
      refine lv_imul hx hb dX12_beginOf_38 ?_
      refine lv_iconst (v := 2) hx hb dX12_beginOf_39 (by decide) ?_
      refine lv_iadd hx hb dX12_beginOf_40 ?_
      refine va_iald hx hb hK hP 1 0 rfl rfl (xg_inr (N := 24) rfl (gq_beginOf_s3 (y0 := a0) hl0 hl7).1 (gq_beginOf_s3 (y0 := a0) hl0 hl7).2) dX12_beginOf_41 ?_
      refine lv_i2l (v := (f_landHas (((3 * a0) + 2).toNatClampNeg)).toInt64) hx hb dX12_beginOf_42 rfl ?_
      refine lv_lload_n hx hb dX12_beginOf_43 rfl (lv_at hl 3 rfl) ?_
      refine lv_lconst (v := 1) hx hb dX12_beginOf_44 (by decide) ?_
      refine lv_lsub hx hb dX12_beginOf_45 ?_
      refine lv_aload_n hx hb dX12_beginOf_46 rfl (lv_at hl 1 rfl) ?_
      refine va_get (D := (dC, dI)) (ci := 12) (v := .ref (rf 29)) (C := RX12) (T := TX12) (N := 76) hx hb htw inlX12 hown hK hP 0 rfl rfl 29 (by decide) (htw _ (ck_9 _ (List.mem_of_getElem? (i := 9) rfl))) (fun _ h9 => h9) rfl dX12_beginOf_47 ?_
      refine lv_iconst (v := 3) hx hb dX12_beginOf_50 (by decide) ?_
      refine lv_iload_n hx hb dX12_beginOf_51 rfl (lv_at hl 2 rfl) ?_
      refine lv_imul hx hb dX12_beginOf_52 ?_
      refine va_iald hx hb hK hP 1 0 rfl rfl (xg_inr (N := 24) rfl (gq_beginOf_s4 (y0 := a0) hl0 hl7).1 (gq_beginOf_s4 (y0 := a0) hl0 hl7).2) dX12_beginOf_53 ?_
      refine lv_i2l (v := (f_landHas ((3 * a0).toNatClampNeg)).toInt64) hx hb dX12_beginOf_54 rfl ?_
      refine lv_lmul hx hb dX12_beginOf_55 ?_
      refine lv_ladd hx hb dX12_beginOf_56 ?_
      refine lv_lload hx hb dX12_beginOf_57 (lv_at hl 0 rfl) ?_
      refine lv_lload_n hx hb dX12_beginOf_59 rfl (lv_at hl 3 rfl) ?_
      refine lv_lconst (v := 1) hx hb dX12_beginOf_60 (by decide) ?_
      refine lv_lsub hx hb dX12_beginOf_61 ?_
      refine lv_lload_n hx hb dX12_beginOf_62 rfl (lv_at hl 3 rfl) ?_
      refine lv_ldc2 (v := 2) hx hb hown (htw _ (ck_30 _ (List.mem_of_getElem? (i := 13) rfl))) dX12_beginOf_63 ?_
      refine lv_lsub hx hb dX12_beginOf_66 ?_
      refine lv_lmul hx hb dX12_beginOf_67 ?_
      refine lv_ldc2 (v := 2) hx hb hown (htw _ (ck_30 _ (List.mem_of_getElem? (i := 13) rfl))) dX12_beginOf_68 ?_
      refine lv_ldiv hx hb dX12_beginOf_71 (by decide) ?_
      refine lv_lmul hx hb dX12_beginOf_72 ?_
      refine lv_ladd hx hb dX12_beginOf_73 ?_
      exact W.lret (v := ((((f_landHas (((3 * a0) + 2).toNatClampNeg)).toInt64) + ((a1 - 1) * ((f_landHas ((3 * a0).toNatClampNeg)).toInt64))) + (((f_landHas (((3 * a0) + 1).toNatClampNeg)).toInt64) * (((a1 - 1) * (a1 - 2)) / 2)))) hx hb hr (fun t ht hW => ⟨((((f_landHas (((3 * a0) + 2).toNatClampNeg)).toInt64) + ((a1 - 1) * ((f_landHas ((3 * a0).toNatClampNeg)).toInt64))) + (((f_landHas (((3 * a0) + 1).toNatClampNeg)).toInt64) * (((a1 - 1) * (a1 - 2)) / 2))), rfl, (Eq.symm ((by rw [fq_beginOf]; (try rw [if_neg c_1]); (try rw [if_pos c_2]); try rfl))), ht⟩) (fun _ h => by cases h) dX12_beginOf_74
    · refine lv_ldc2 (v := 1000000000001) hx hb hown (htw _ (ck_30 _ (List.mem_of_getElem? (i := 12) rfl))) dX12_beginOf_28 ?_
      exact W.lret (v := 1000000000001) hx hb hr (fun t ht hW => ⟨1000000000001, rfl, (Eq.symm ((by rw [fq_beginOf]; (try rw [if_neg c_1]); (try rw [if_neg c_2]); try rfl))), ht⟩) (fun _ h => by cases h) dX12_beginOf_31

def fq_endYear (f_landHas : Nat → Int32) (a0 : Int32) : Int64 := (((((f_landHas ((3 * a0).toNatClampNeg)).toInt64) - 1) / ((-(f_landHas (((3 * a0) + 1).toNatClampNeg))).toInt64)) + 1)
theorem gq_endYear_s0 {y0 : Int32} (h0 : ¬ (y0 < 0)) (h1 : y0 ≤ 7) : ¬ ((3 * y0) < 0) ∧ ¬ (24 ≤ (3 * y0)) := by lia
theorem gq_endYear_s1 {y0 : Int32} (h0 : ¬ (y0 < 0)) (h1 : y0 ≤ 7) : ¬ (((3 * y0) + 1) < 0) ∧ ¬ (24 ≤ ((3 * y0) + 1)) := by lia
theorem gq_endYear_s2 {y0 : Int32} (h0 : ¬ (y0 = 0)) : ¬ ((-y0) = 0) := by lia
theorem dX12_endYear_0 : decode cX12_endYear 0 = .ok (.aload_n 0, 1) := zk_42 (by decide +kernel)
theorem dX12_endYear_1 : decode cX12_endYear 1 = .ok (.getfield 26, 3) := zk_180 (by decide +kernel)
theorem dX12_endYear_4 : decode cX12_endYear 4 = .ok (.iconst 3, 1) := zk_6 (by decide +kernel)
theorem dX12_endYear_5 : decode cX12_endYear 5 = .ok (.iload_n 1, 1) := zk_27 (by decide +kernel)
theorem dX12_endYear_6 : decode cX12_endYear 6 = .ok (.imul, 1) := zk_104 (by decide +kernel)
theorem dX12_endYear_7 : decode cX12_endYear 7 = .ok (.iaload, 1) := zk_46 (by decide +kernel)
theorem dX12_endYear_8 : decode cX12_endYear 8 = .ok (.i2l, 1) := zk_133 (by decide +kernel)
theorem dX12_endYear_9 : decode cX12_endYear 9 = .ok (.lconst 1, 1) := zk_10 (by decide +kernel)
theorem dX12_endYear_10 : decode cX12_endYear 10 = .ok (.lsub, 1) := zk_101 (by decide +kernel)
theorem dX12_endYear_11 : decode cX12_endYear 11 = .ok (.aload_n 0, 1) := zk_42 (by decide +kernel)
theorem dX12_endYear_12 : decode cX12_endYear 12 = .ok (.getfield 26, 3) := zk_180 (by decide +kernel)
theorem dX12_endYear_15 : decode cX12_endYear 15 = .ok (.iconst 3, 1) := zk_6 (by decide +kernel)
theorem dX12_endYear_16 : decode cX12_endYear 16 = .ok (.iload_n 1, 1) := zk_27 (by decide +kernel)
theorem dX12_endYear_17 : decode cX12_endYear 17 = .ok (.imul, 1) := zk_104 (by decide +kernel)
theorem dX12_endYear_18 : decode cX12_endYear 18 = .ok (.iconst 1, 1) := zk_4 (by decide +kernel)
theorem dX12_endYear_19 : decode cX12_endYear 19 = .ok (.iadd, 1) := zk_96 (by decide +kernel)
theorem dX12_endYear_20 : decode cX12_endYear 20 = .ok (.iaload, 1) := zk_46 (by decide +kernel)
theorem dX12_endYear_21 : decode cX12_endYear 21 = .ok (.ineg, 1) := zk_116 (by decide +kernel)
theorem dX12_endYear_22 : decode cX12_endYear 22 = .ok (.i2l, 1) := zk_133 (by decide +kernel)
theorem dX12_endYear_23 : decode cX12_endYear 23 = .ok (.ldiv, 1) := zk_109 (by decide +kernel)
theorem dX12_endYear_24 : decode cX12_endYear 24 = .ok (.lconst 1, 1) := zk_10 (by decide +kernel)
theorem dX12_endYear_25 : decode cX12_endYear 25 = .ok (.ladd, 1) := zk_97 (by decide +kernel)
theorem dX12_endYear_26 : decode cX12_endYear 26 = .ok (.lreturn, 1) := zk_173 (by decide +kernel)
set_option maxHeartbeats 4000000 in
set_option maxRecDepth 100000 in
theorem gq_endYear (l : Launch) (dC : Nat → ClassId) (dI : Nat → Nat → Nat) (mq : Nat) (g : Nat → Int32) (gl : Nat → Int64) (rf : Nat → Nat) (ck : Nat → ClassId) (f_landHas : Nat → Int32) (a0 : Int32) (hl0 : ¬ a0 < 0) (hl7 : a0 ≤ 7) (hgz : ¬ (f_landHas (((3 * a0) + 1).toNatClampNeg)) = 0) : Met l yX12_endYear (Cond.code yX12_endYear cX12_endYear 2 (some .long) :: wsL_law) ({ frames := 0, cells := 0, slots := 0, locals := 0 }) (va_Pc [.ref mq, .int a0] (fun U => va_P (dC, dI) vwCl [(mq, .inr (12, mF g gl rf)), (eA0 (rf 29) (ck 29) 24 f_landHas)] U.heap ∧ va_K (dC, dI) vwCl [((ck 29), .int)] U)) (vp_Sl (fun r => r = fq_endYear f_landHas a0)) 0 0 (fun _ => False) := by
  refine Met.ofW (cc := cX12_endYear) (maxL := 2) (ret := (some .long)) (by decide) rfl ?_
  intro p e s m args below meth c s₁ B hml hv
  obtain ⟨rfl, hP, hK⟩ := hv
  have hx := B.exec
  have hb := B.bytes
  have hr := B.returns
  have hts := atoms_spec (ws := Cond.code yX12_endYear cX12_endYear 2 (some .long) :: wsL_law) B.pre
  have htw : ∀ w ∈ wsL_law, w.before _ s = true := fun w h => hts w (List.mem_cons_of_mem _ h)
  have hown : s.vm.findClass RX12 = some m.cls := findClass_of_methodNamed B.named
  have hlocks := B.notSynchronized
  have hl := lv_entry ([.ref mq, .int a0]) (n := 2) (Nat.le_of_ble_eq_true rfl)
  rw [lg_entry_eq]
  generalize (lg_sl ([.ref mq, .int a0]) ++ List.replicate (2 - (lg_sl ([.ref mq, .int a0])).length) Slot.unset).toArray = ls at hl ⊢
  have hl : lv_has ls 2 [(0, .ref mq), (1, .int a0)] := hl
  refine lv_aload_n hx hb dX12_endYear_0 rfl (lv_at hl 0 rfl) ?_
  refine va_get (D := (dC, dI)) (ci := 12) (v := .ref (rf 29)) (C := RX12) (T := TX12) (N := 76) hx hb htw inlX12 hown hK hP 0 rfl rfl 29 (by decide) (htw _ (ck_9 _ (List.mem_of_getElem? (i := 9) rfl))) (fun _ h9 => h9) rfl dX12_endYear_1 ?_
  refine lv_iconst (v := 3) hx hb dX12_endYear_4 (by decide) ?_
  refine lv_iload_n hx hb dX12_endYear_5 rfl (lv_at hl 1 rfl) ?_
  refine lv_imul hx hb dX12_endYear_6 ?_
  refine va_iald hx hb hK hP 1 0 rfl rfl (xg_inr (N := 24) rfl (gq_endYear_s0 (y0 := a0) hl0 hl7).1 (gq_endYear_s0 (y0 := a0) hl0 hl7).2) dX12_endYear_7 ?_
  refine lv_i2l (v := (f_landHas ((3 * a0).toNatClampNeg)).toInt64) hx hb dX12_endYear_8 rfl ?_
  refine lv_lconst (v := 1) hx hb dX12_endYear_9 (by decide) ?_
  refine lv_lsub hx hb dX12_endYear_10 ?_
  refine lv_aload_n hx hb dX12_endYear_11 rfl (lv_at hl 0 rfl) ?_
  refine va_get (D := (dC, dI)) (ci := 12) (v := .ref (rf 29)) (C := RX12) (T := TX12) (N := 76) hx hb htw inlX12 hown hK hP 0 rfl rfl 29 (by decide) (htw _ (ck_9 _ (List.mem_of_getElem? (i := 9) rfl))) (fun _ h9 => h9) rfl dX12_endYear_12 ?_
  refine lv_iconst (v := 3) hx hb dX12_endYear_15 (by decide) ?_
  refine lv_iload_n hx hb dX12_endYear_16 rfl (lv_at hl 1 rfl) ?_
  refine lv_imul hx hb dX12_endYear_17 ?_
  refine lv_iconst (v := 1) hx hb dX12_endYear_18 (by decide) ?_
  refine lv_iadd hx hb dX12_endYear_19 ?_
  refine va_iald hx hb hK hP 1 0 rfl rfl (xg_inr (N := 24) rfl (gq_endYear_s1 (y0 := a0) hl0 hl7).1 (gq_endYear_s1 (y0 := a0) hl0 hl7).2) dX12_endYear_20 ?_
  refine lv_ineg hx hb dX12_endYear_21 ?_
  refine lv_i2l (v := (-(f_landHas (((3 * a0) + 1).toNatClampNeg))).toInt64) hx hb dX12_endYear_22 rfl ?_
  refine lv_ldiv hx hb dX12_endYear_23 (xg_nz64 (gq_endYear_s2 (y0 := f_landHas (((3 * a0) + 1).toNatClampNeg)) hgz)) ?_
  refine lv_lconst (v := 1) hx hb dX12_endYear_24 (by decide) ?_
  refine lv_ladd hx hb dX12_endYear_25 ?_
  exact W.lret (v := (((((f_landHas ((3 * a0).toNatClampNeg)).toInt64) - 1) / ((-(f_landHas (((3 * a0) + 1).toNatClampNeg))).toInt64)) + 1)) hx hb hr (fun t ht hW => ⟨(((((f_landHas ((3 * a0).toNatClampNeg)).toInt64) - 1) / ((-(f_landHas (((3 * a0) + 1).toNatClampNeg))).toInt64)) + 1), rfl, (Eq.symm ((by rw [fq_endYear]))), ht⟩) (fun _ h => by cases h) dX12_endYear_26

def fq_countOf (f_landHas : Nat → Int32) (a0 : Int32) (a1 : Int64) (a2 : Int64) : Int64 := (xL ((fq_isYear f_landHas a0 a1)) (fun r_1 => (if r_1 = 0 then (-1 : Int64) else (if lg_cmp a2 1 < 0 then (-1 : Int64) else (xL ((fq_lengthOf f_landHas a0 a1)) (fun r_4 => (if lg_cmp a2 r_4 ≤ 0 then (xL ((fq_beginOf f_landHas a0 a1)) (fun r_6 => (if lg_cmp ((r_6 + a2) - 1) 1000000000000 ≤ 0 then ((r_6 + a2) - 1) else (-1 : Int64)))) else (-1 : Int64))))))))
theorem dX12_countOf_0 : decode cX12_countOf 0 = .ok (.aload_n 0, 1) := zk_42 (by decide +kernel)
theorem dX12_countOf_1 : decode cX12_countOf 1 = .ok (.iload_n 1, 1) := zk_27 (by decide +kernel)
theorem dX12_countOf_2 : decode cX12_countOf 2 = .ok (.lload_n 2, 1) := zk_32 (by decide +kernel)
theorem dX12_countOf_3 : decode cX12_countOf 3 = .ok (.invokevirtual 385, 3) := zk_182 (by decide +kernel)
theorem dX12_countOf_6 : decode cX12_countOf 6 = .ok (.ifCond .eq 22, 3) := zk_153 (by decide +kernel)
theorem dX12_countOf_28 : decode cX12_countOf 28 = .ok (.ldc2_w 273, 3) := zk_20 (by decide +kernel)
theorem dX12_countOf_31 : decode cX12_countOf 31 = .ok (.lreturn, 1) := zk_173 (by decide +kernel)
theorem dX12_countOf_9 : decode cX12_countOf 9 = .ok (.lload 4, 2) := zk_22 (by decide +kernel)
theorem dX12_countOf_11 : decode cX12_countOf 11 = .ok (.lconst 1, 1) := zk_10 (by decide +kernel)
theorem dX12_countOf_12 : decode cX12_countOf 12 = .ok (.lcmp, 1) := zk_148 (by decide +kernel)
theorem dX12_countOf_13 : decode cX12_countOf 13 = .ok (.ifCond .lt 15, 3) := zk_155 (by decide +kernel)
theorem dX12_countOf_16 : decode cX12_countOf 16 = .ok (.lload 4, 2) := zk_22 (by decide +kernel)
theorem dX12_countOf_18 : decode cX12_countOf 18 = .ok (.aload_n 0, 1) := zk_42 (by decide +kernel)
theorem dX12_countOf_19 : decode cX12_countOf 19 = .ok (.iload_n 1, 1) := zk_27 (by decide +kernel)
theorem dX12_countOf_20 : decode cX12_countOf 20 = .ok (.lload_n 2, 1) := zk_32 (by decide +kernel)
theorem dX12_countOf_21 : decode cX12_countOf 21 = .ok (.invokevirtual 375, 3) := zk_182 (by decide +kernel)
theorem dX12_countOf_24 : decode cX12_countOf 24 = .ok (.lcmp, 1) := zk_148 (by decide +kernel)
theorem dX12_countOf_25 : decode cX12_countOf 25 = .ok (.ifCond .le 7, 3) := zk_158 (by decide +kernel)
theorem dX12_countOf_32 : decode cX12_countOf 32 = .ok (.aload_n 0, 1) := zk_42 (by decide +kernel)
theorem dX12_countOf_33 : decode cX12_countOf 33 = .ok (.iload_n 1, 1) := zk_27 (by decide +kernel)
theorem dX12_countOf_34 : decode cX12_countOf 34 = .ok (.lload_n 2, 1) := zk_32 (by decide +kernel)
theorem dX12_countOf_35 : decode cX12_countOf 35 = .ok (.invokevirtual 389, 3) := zk_182 (by decide +kernel)
theorem dX12_countOf_38 : decode cX12_countOf 38 = .ok (.lload 4, 2) := zk_22 (by decide +kernel)
theorem dX12_countOf_40 : decode cX12_countOf 40 = .ok (.ladd, 1) := zk_97 (by decide +kernel)
theorem dX12_countOf_41 : decode cX12_countOf 41 = .ok (.lconst 1, 1) := zk_10 (by decide +kernel)
theorem dX12_countOf_42 : decode cX12_countOf 42 = .ok (.lsub, 1) := zk_101 (by decide +kernel)
theorem dX12_countOf_43 : decode cX12_countOf 43 = .ok (.lstore 6, 2) := zk_55 (by decide +kernel)
theorem dX12_countOf_45 : decode cX12_countOf 45 = .ok (.lload 6, 2) := zk_22 (by decide +kernel)
theorem dX12_countOf_47 : decode cX12_countOf 47 = .ok (.ldc2_w 125, 3) := zk_20 (by decide +kernel)
theorem dX12_countOf_50 : decode cX12_countOf 50 = .ok (.lcmp, 1) := zk_148 (by decide +kernel)
theorem dX12_countOf_51 : decode cX12_countOf 51 = .ok (.ifCond .le 9, 3) := zk_158 (by decide +kernel)
theorem dX12_countOf_60 : decode cX12_countOf 60 = .ok (.lload 6, 2) := zk_22 (by decide +kernel)
theorem dX12_countOf_62 : decode cX12_countOf 62 = .ok (.lreturn, 1) := zk_173 (by decide +kernel)
theorem dX12_countOf_54 : decode cX12_countOf 54 = .ok (.ldc2_w 273, 3) := zk_20 (by decide +kernel)
theorem dX12_countOf_57 : decode cX12_countOf 57 = .ok (.goto 5, 3) := zk_167 (by decide +kernel)
set_option maxHeartbeats 4000000 in
set_option maxRecDepth 100000 in
theorem gq_countOf (l : Launch) (dC : Nat → ClassId) (dI : Nat → Nat → Nat) (mq : Nat) (g : Nat → Int32) (gl : Nat → Int64) (rf : Nat → Nat) (ck : Nat → ClassId) (f_landHas : Nat → Int32) (a0 : Int32) (a1 : Int64) (a2 : Int64) (hl0 : ¬ a0 < 0) (hl7 : a0 ≤ 7) : Met l yX12_countOf (Cond.code yX12_countOf cX12_countOf 8 (some .long) :: wsL_law) ({ frames := 2, cells := 0, slots := 0, locals := 46 }) (va_Pc [.ref mq, .int a0, .long a1, .long a2] (fun U => va_P (dC, dI) vwCl [(mq, .inr (12, mF g gl rf)), (eA0 (rf 29) (ck 29) 24 f_landHas)] U.heap ∧ va_K (dC, dI) vwCl [((ck 29), .int)] U)) (vp_Sl (fun r => r = fq_countOf f_landHas a0 a1 a2)) 0 0 (fun _ => False) := by
  refine Met.ofW (cc := cX12_countOf) (maxL := 8) (ret := (some .long)) (by decide) rfl ?_
  intro p e s m args below meth c s₁ B hml hv
  obtain ⟨rfl, hP, hK⟩ := hv
  have hx := B.exec
  have hb := B.bytes
  have hr := B.returns
  have hts := atoms_spec (ws := Cond.code yX12_countOf cX12_countOf 8 (some .long) :: wsL_law) B.pre
  have htw : ∀ w ∈ wsL_law, w.before _ s = true := fun w h => hts w (List.mem_cons_of_mem _ h)
  have hown : s.vm.findClass RX12 = some m.cls := findClass_of_methodNamed B.named
  have hlocks := B.notSynchronized
  have hl := lv_entry ([.ref mq, .int a0, .long a1, .long a2]) (n := 8) (Nat.le_of_ble_eq_true rfl)
  rw [lg_entry_eq]
  generalize (lg_sl ([.ref mq, .int a0, .long a1, .long a2]) ++ List.replicate (8 - (lg_sl ([.ref mq, .int a0, .long a1, .long a2])).length) Slot.unset).toArray = ls at hl ⊢
  have hl : lv_has ls 8 [(0, .ref mq), (1, .int a0), (2, .long a1), (4, .long a2)] := hl
  refine lv_aload_n hx hb dX12_countOf_0 rfl (lv_at hl 0 rfl) ?_
  refine lv_iload_n hx hb dX12_countOf_1 rfl (lv_at hl 1 rfl) ?_
  refine lv_lload_n hx hb dX12_countOf_2 rfl (lv_at hl 2 rfl) ?_
  have hPc := hP.sub (ws' := [(mq, .inr (12, mF g gl rf)), (eA0 (rf 29) (ck 29) 24 f_landHas)]) [0, 1] rfl
  have hKc := hK.sub (tys' := [((ck 29), .int)]) [0] rfl
  refine vp_callSi (W.runV (As := [.int a0, .long a1]) (rest := []) ⟨hx, hb, hml, hown, htw⟩ (gq_isYear l dC dI mq g gl rf ck f_landHas a0 a1 hl0 hl7) (cwV 2 htw (xg_V (ck_29 _ (List.mem_of_getElem? (i := 23) rfl)) (ck_30 _ (List.mem_of_getElem? (i := 0) rfl)) (ck_30 _ (List.mem_of_getElem? (i := 1) rfl)) (ck_1 _ (List.mem_of_getElem? (i := 5) rfl)) (ck_30 _ (List.mem_of_getElem? (i := 2) rfl))) rfl rfl rfl (by exact ⟨rfl, hdc_14.1, hdc_14.2, hdd_42⟩) ⟨Nat.le_of_ble_eq_true rfl, Nat.le_of_ble_eq_true rfl⟩) ⟨fun a U g mk q => by obtain ⟨q0, qP, qK⟩ := q; exact ⟨q0, qP, va_K.moved (u := U) (U := U.calling g mk a) (Vm.Alike.refl U.vm) qK⟩, va_recv hKc hPc (ci := 12) (q0 := 0) rfl rfl, fun U hU hW => ⟨rfl, by rw [hU]; exact hPc, va_K.moved hW.alike hKc⟩⟩ rfl rfl hl.1 rfl (lv_room (Nat.le_of_ble_eq_true rfl)) dX12_countOf_3 ⟨Nat.le_of_ble_eq_true rfl, Nat.le_of_ble_eq_true rfl⟩) (fun r_1 hw => ?_)
  try dsimp only at hw
  obtain ⟨hw, hb_r_1⟩ := hw
  have hq_r_1 : r_1 = (fq_isYear f_landHas a0 a1) := hw
  refine lv_if_eq (tgt := 28) hx hb dX12_countOf_6 (by decide) (fun c_2 => ?_) (fun c_2 => ?_)
  · refine lv_ldc2 (v := (-1)) hx hb hown (htw _ (ck_29 _ (List.mem_of_getElem? (i := 13) rfl))) dX12_countOf_28 ?_
    exact W.lret (v := (-1)) hx hb hr (fun t ht hW => ⟨(-1), rfl, (Eq.symm ((by rw [fq_countOf]; (try rw [← hq_r_1]); (try rw [xL_eq]); (try rw [if_pos c_2]); try rfl))), ht⟩) (fun _ h => by cases h) dX12_countOf_31
  · refine lv_lload hx hb dX12_countOf_9 (lv_at hl 3 rfl) ?_
    refine lv_lconst (v := 1) hx hb dX12_countOf_11 (by decide) ?_
    refine W.lcmp hx hb dX12_countOf_12 ?_
    refine lv_if_lt (tgt := 28) hx hb dX12_countOf_13 (by decide) (fun c_3 => ?_) (fun c_3 => ?_)
    · refine lv_ldc2 (v := (-1)) hx hb hown (htw _ (ck_29 _ (List.mem_of_getElem? (i := 13) rfl))) dX12_countOf_28 ?_
      exact W.lret (v := (-1)) hx hb hr (fun t ht hW => ⟨(-1), rfl, (Eq.symm ((by rw [fq_countOf]; (try rw [← hq_r_1]); (try rw [xL_eq]); (try rw [if_neg c_2]); (try rw [if_pos c_3]); try rfl))), ht⟩) (fun _ h => by cases h) dX12_countOf_31
    · refine lv_lload hx hb dX12_countOf_16 (lv_at hl 3 rfl) ?_
      refine lv_aload_n hx hb dX12_countOf_18 rfl (lv_at hl 0 rfl) ?_
      refine lv_iload_n hx hb dX12_countOf_19 rfl (lv_at hl 1 rfl) ?_
      refine lv_lload_n hx hb dX12_countOf_20 rfl (lv_at hl 2 rfl) ?_
      have hPc := hP.sub (ws' := [(mq, .inr (12, mF g gl rf)), (eA0 (rf 29) (ck 29) 24 f_landHas)]) [0, 1] rfl
      have hKc := hK.sub (tys' := [((ck 29), .int)]) [0] rfl
      refine vp_callSl (W.runV (As := [.int a0, .long a1]) (rest := [.long a2]) ⟨hx, hb, hml, hown, htw⟩ (gq_lengthOf l dC dI mq g gl rf ck f_landHas a0 a1 hl0 hl7) (cwV 2 htw (xg_V (ck_30 _ (List.mem_of_getElem? (i := 3) rfl)) (ck_30 _ (List.mem_of_getElem? (i := 4) rfl)) (ck_30 _ (List.mem_of_getElem? (i := 5) rfl)) (ck_1 _ (List.mem_of_getElem? (i := 5) rfl)) (ck_30 _ (List.mem_of_getElem? (i := 6) rfl))) rfl rfl rfl (by exact ⟨rfl, hdc_14.1, hdc_14.2, hdd_41⟩) ⟨Nat.le_of_ble_eq_true rfl, Nat.le_of_ble_eq_true rfl⟩) ⟨fun a U g mk q => by obtain ⟨q0, qP, qK⟩ := q; exact ⟨q0, qP, va_K.moved (u := U) (U := U.calling g mk a) (Vm.Alike.refl U.vm) qK⟩, va_recv hKc hPc (ci := 12) (q0 := 0) rfl rfl, fun U hU hW => ⟨rfl, by rw [hU]; exact hPc, va_K.moved hW.alike hKc⟩⟩ rfl rfl hl.1 rfl (lv_room (Nat.le_of_ble_eq_true rfl)) dX12_countOf_21 ⟨Nat.le_of_ble_eq_true rfl, Nat.le_of_ble_eq_true rfl⟩) (fun r_4 hw => ?_)
      try dsimp only at hw
      have hq_r_4 : r_4 = (fq_lengthOf f_landHas a0 a1) := hw
      refine W.lcmp hx hb dX12_countOf_24 ?_
      refine lv_if_le (tgt := 32) hx hb dX12_countOf_25 (by decide) (fun c_5 => ?_) (fun c_5 => ?_)
      · refine lv_aload_n hx hb dX12_countOf_32 rfl (lv_at hl 0 rfl) ?_
        refine lv_iload_n hx hb dX12_countOf_33 rfl (lv_at hl 1 rfl) ?_
        refine lv_lload_n hx hb dX12_countOf_34 rfl (lv_at hl 2 rfl) ?_
        have hPc := hP.sub (ws' := [(mq, .inr (12, mF g gl rf)), (eA0 (rf 29) (ck 29) 24 f_landHas)]) [0, 1] rfl
        have hKc := hK.sub (tys' := [((ck 29), .int)]) [0] rfl
        refine vp_callSl (W.runV (As := [.int a0, .long a1]) (rest := []) ⟨hx, hb, hml, hown, htw⟩ (gq_beginOf l dC dI mq g gl rf ck f_landHas a0 a1 hl0 hl7) (cwV 2 htw (xg_V (ck_30 _ (List.mem_of_getElem? (i := 7) rfl)) (ck_30 _ (List.mem_of_getElem? (i := 8) rfl)) (ck_30 _ (List.mem_of_getElem? (i := 9) rfl)) (ck_1 _ (List.mem_of_getElem? (i := 5) rfl)) (ck_30 _ (List.mem_of_getElem? (i := 10) rfl))) rfl rfl rfl (by exact ⟨rfl, hdc_14.1, hdc_14.2, hdd_41⟩) ⟨Nat.le_of_ble_eq_true rfl, Nat.le_of_ble_eq_true rfl⟩) ⟨fun a U g mk q => by obtain ⟨q0, qP, qK⟩ := q; exact ⟨q0, qP, va_K.moved (u := U) (U := U.calling g mk a) (Vm.Alike.refl U.vm) qK⟩, va_recv hKc hPc (ci := 12) (q0 := 0) rfl rfl, fun U hU hW => ⟨rfl, by rw [hU]; exact hPc, va_K.moved hW.alike hKc⟩⟩ rfl rfl hl.1 rfl (lv_room (Nat.le_of_ble_eq_true rfl)) dX12_countOf_35 ⟨Nat.le_of_ble_eq_true rfl, Nat.le_of_ble_eq_true rfl⟩) (fun r_6 hw => ?_)
        try dsimp only at hw
        have hq_r_6 : r_6 = (fq_beginOf f_landHas a0 a1) := hw
        refine lv_lload hx hb dX12_countOf_38 (lv_at hl 3 rfl) ?_
        refine lv_ladd hx hb dX12_countOf_40 ?_
        refine lv_lconst (v := 1) hx hb dX12_countOf_41 (by decide) ?_
        refine lv_lsub hx hb dX12_countOf_42 ?_
        refine lv_lstore (lv' := [(6, .long ((r_6 + a2) - 1)), (0, .ref mq), (1, .int a0), (2, .long a1), (4, .long a2)]) hx hb dX12_countOf_43 hl (by decide) rfl (fun ls hl => ?_)
        refine lv_lload hx hb dX12_countOf_45 (lv_at hl 0 rfl) ?_
        refine lv_ldc2 (v := 1000000000000) hx hb hown (htw _ (ck_29 _ (List.mem_of_getElem? (i := 22) rfl))) dX12_countOf_47 ?_
        refine W.lcmp hx hb dX12_countOf_50 ?_
        refine lv_if_le (tgt := 60) hx hb dX12_countOf_51 (by decide) (fun c_7 => ?_) (fun c_7 => ?_)
        · refine lv_lload hx hb dX12_countOf_60 (lv_at hl 0 rfl) ?_
          exact W.lret (v := ((r_6 + a2) - 1)) hx hb hr (fun t ht hW => ⟨((r_6 + a2) - 1), rfl, (Eq.symm ((by rw [fq_countOf]; (try rw [← hq_r_1]); (try rw [xL_eq]); (try rw [if_neg c_2]); (try rw [if_neg c_3]); (try rw [← hq_r_4]); (try rw [xL_eq]); (try rw [if_pos c_5]); (try rw [← hq_r_6]); (try rw [xL_eq]); (try rw [if_pos c_7]); try rfl))), ht⟩) (fun _ h => by cases h) dX12_countOf_62
        · refine lv_ldc2 (v := (-1)) hx hb hown (htw _ (ck_29 _ (List.mem_of_getElem? (i := 13) rfl))) dX12_countOf_54 ?_
          refine lv_goto (tgt := 62) hx hb dX12_countOf_57 (by decide) ?_
          exact W.lret (v := (-1)) hx hb hr (fun t ht hW => ⟨(-1), rfl, (Eq.symm ((by rw [fq_countOf]; (try rw [← hq_r_1]); (try rw [xL_eq]); (try rw [if_neg c_2]); (try rw [if_neg c_3]); (try rw [← hq_r_4]); (try rw [xL_eq]); (try rw [if_pos c_5]); (try rw [← hq_r_6]); (try rw [xL_eq]); (try rw [if_neg c_7]); try rfl))), ht⟩) (fun _ h => by cases h) dX12_countOf_62
      · refine lv_ldc2 (v := (-1)) hx hb hown (htw _ (ck_29 _ (List.mem_of_getElem? (i := 13) rfl))) dX12_countOf_28 ?_
        exact W.lret (v := (-1)) hx hb hr (fun t ht hW => ⟨(-1), rfl, (Eq.symm ((by rw [fq_countOf]; (try rw [← hq_r_1]); (try rw [xL_eq]); (try rw [if_neg c_2]); (try rw [if_neg c_3]); (try rw [← hq_r_4]); (try rw [xL_eq]); (try rw [if_neg c_5]); try rfl))), ht⟩) (fun _ h => by cases h) dX12_countOf_31

def fq_date1_j (f_landHas : Nat → Int32) (a0 : Int32) (a1 : Int64) : (Int64) := (if 0 ≤ lg_cmp ((f_landHas (((3 * a0) + 1).toNatClampNeg)).toInt64) 0 then (if lg_cmp ((f_landHas (((3 * a0) + 1).toNatClampNeg)).toInt64) 0 ≤ 0 then (((a1 - ((f_landHas (((3 * a0) + 2).toNatClampNeg)).toInt64)) / ((f_landHas ((3 * a0).toNatClampNeg)).toInt64)) + 1) else (3000000 : Int64)) else (xL ((fq_endYear f_landHas a0)) (fun r_17 => r_17)))
def fq_date1_d (f_landHas : Nat → Int32) (a0 : Int32) (a1 : Int64) : Nat → (Int64) → (Int64) → Int32 × (Int64) × (Int64)
  | 0, L6d, L8d => (xL ((fq_beginOf f_landHas a0 L6d)) (fun r_6 => (xL ((fq_lengthOf f_landHas a0 L6d)) (fun r_7 => (if 0 < lg_cmp ((a1 - r_6) + 1) r_7 then ((0 : Int32), L6d, ((a1 - r_6) + 1)) else ((1 : Int32), L6d, ((a1 - r_6) + 1)))))))
  | n + 1, L6d, L8d => (if 0 ≤ lg_cmp L6d L8d then (xL ((fq_beginOf f_landHas a0 L6d)) (fun r_10 => (xL ((fq_lengthOf f_landHas a0 L6d)) (fun r_11 => (if 0 < lg_cmp ((a1 - r_10) + 1) r_11 then ((0 : Int32), L6d, ((a1 - r_10) + 1)) else ((1 : Int32), L6d, ((a1 - r_10) + 1))))))) else (xL ((fq_beginOf f_landHas a0 (((L6d + L8d) + 1) / 2))) (fun r_13 => (if 0 < lg_cmp r_13 a1 then fq_date1_d f_landHas a0 a1 n L6d ((((L6d + L8d) + 1) / 2) - 1) else fq_date1_d f_landHas a0 a1 n (((L6d + L8d) + 1) / 2) L8d))))
def fq_date1 (f_landHas : Nat → Int32) (a0 : Int32) (a1 : Int64) (m_gotYear : Int64) (m_gotDay : Int64) : Int32 × (Int64) × (Int64) := (if 0 ≤ lg_cmp a1 ((f_landHas (((3 * a0) + 2).toNatClampNeg)).toInt64) then (xL (fq_date1_j f_landHas a0 a1) (fun X_2 => fq_date1_d f_landHas a0 a1 64 (1 : Int64) X_2)) else ((0 : Int32), m_gotYear, m_gotDay))
theorem gq_date1_s0 {y0 : Int32} (h0 : ¬ (y0 < 0)) (h1 : y0 ≤ 7) : ¬ (((3 * y0) + 2) < 0) ∧ ¬ (24 ≤ ((3 * y0) + 2)) := by lia
theorem gq_date1_s1 {y0 : Int32} (h0 : ¬ (y0 < 0)) (h1 : y0 ≤ 7) : ¬ (((3 * y0) + 1) < 0) ∧ ¬ (24 ≤ ((3 * y0) + 1)) := by lia
theorem gq_date1_s2 {y0 : Int32} (h0 : ¬ (y0 < 0)) (h1 : y0 ≤ 7) : ¬ (((3 * y0) + 2) < 0) ∧ ¬ (24 ≤ ((3 * y0) + 2)) := by lia
theorem gq_date1_s3 {y0 : Int32} (h0 : ¬ (y0 < 0)) (h1 : y0 ≤ 7) : ¬ ((3 * y0) < 0) ∧ ¬ (24 ≤ (3 * y0)) := by lia
theorem dX12_date1_0 : decode cX12_date1 0 = .ok (.lload_n 2, 1) := zk_32 (by decide +kernel)
theorem dX12_date1_1 : decode cX12_date1 1 = .ok (.aload_n 0, 1) := zk_42 (by decide +kernel)
theorem dX12_date1_2 : decode cX12_date1 2 = .ok (.getfield 26, 3) := zk_180 (by decide +kernel)
theorem dX12_date1_5 : decode cX12_date1 5 = .ok (.iconst 3, 1) := zk_6 (by decide +kernel)
theorem dX12_date1_6 : decode cX12_date1 6 = .ok (.iload_n 1, 1) := zk_27 (by decide +kernel)
theorem dX12_date1_7 : decode cX12_date1 7 = .ok (.imul, 1) := zk_104 (by decide +kernel)
theorem dX12_date1_8 : decode cX12_date1 8 = .ok (.iconst 2, 1) := zk_5 (by decide +kernel)
theorem dX12_date1_9 : decode cX12_date1 9 = .ok (.iadd, 1) := zk_96 (by decide +kernel)
theorem dX12_date1_10 : decode cX12_date1 10 = .ok (.iaload, 1) := zk_46 (by decide +kernel)
theorem dX12_date1_11 : decode cX12_date1 11 = .ok (.i2l, 1) := zk_133 (by decide +kernel)
theorem dX12_date1_12 : decode cX12_date1 12 = .ok (.lcmp, 1) := zk_148 (by decide +kernel)
theorem dX12_date1_13 : decode cX12_date1 13 = .ok (.ifCond .ge 5, 3) := zk_156 (by decide +kernel)
theorem dX12_date1_18 : decode cX12_date1 18 = .ok (.aload_n 0, 1) := zk_42 (by decide +kernel)
theorem dX12_date1_19 : decode cX12_date1 19 = .ok (.getfield 26, 3) := zk_180 (by decide +kernel)
theorem dX12_date1_22 : decode cX12_date1 22 = .ok (.iconst 3, 1) := zk_6 (by decide +kernel)
theorem dX12_date1_23 : decode cX12_date1 23 = .ok (.iload_n 1, 1) := zk_27 (by decide +kernel)
theorem dX12_date1_24 : decode cX12_date1 24 = .ok (.imul, 1) := zk_104 (by decide +kernel)
theorem dX12_date1_25 : decode cX12_date1 25 = .ok (.iconst 1, 1) := zk_4 (by decide +kernel)
theorem dX12_date1_26 : decode cX12_date1 26 = .ok (.iadd, 1) := zk_96 (by decide +kernel)
theorem dX12_date1_27 : decode cX12_date1 27 = .ok (.iaload, 1) := zk_46 (by decide +kernel)
theorem dX12_date1_28 : decode cX12_date1 28 = .ok (.i2l, 1) := zk_133 (by decide +kernel)
theorem dX12_date1_29 : decode cX12_date1 29 = .ok (.lstore 4, 2) := zk_55 (by decide +kernel)
theorem dX12_date1_31 : decode cX12_date1 31 = .ok (.lconst 1, 1) := zk_10 (by decide +kernel)
theorem dX12_date1_32 : decode cX12_date1 32 = .ok (.lstore 6, 2) := zk_55 (by decide +kernel)
theorem dX12_date1_34 : decode cX12_date1 34 = .ok (.lload 4, 2) := zk_22 (by decide +kernel)
theorem dX12_date1_36 : decode cX12_date1 36 = .ok (.lconst 0, 1) := zk_9 (by decide +kernel)
theorem dX12_date1_37 : decode cX12_date1 37 = .ok (.lcmp, 1) := zk_148 (by decide +kernel)
theorem dX12_date1_87 : decode cX12_date1 87 = .ok (.lstore 8, 2) := zk_55 (by decide +kernel)
theorem dX12_date1_89 : decode cX12_date1 89 = .ok (.lload 6, 2) := zk_22 (by decide +kernel)
theorem dX12_date1_91 : decode cX12_date1 91 = .ok (.lload 8, 2) := zk_22 (by decide +kernel)
theorem dX12_date1_93 : decode cX12_date1 93 = .ok (.lcmp, 1) := zk_148 (by decide +kernel)
theorem dX12_date1_94 : decode cX12_date1 94 = .ok (.ifCond .ge 44, 3) := zk_156 (by decide +kernel)
theorem dX12_date1_138 : decode cX12_date1 138 = .ok (.aload_n 0, 1) := zk_42 (by decide +kernel)
theorem dX12_date1_139 : decode cX12_date1 139 = .ok (.lload 6, 2) := zk_22 (by decide +kernel)
theorem dX12_date1_141 : decode cX12_date1 141 = .ok (.putfield 396, 3) := zk_181 (by decide +kernel)
theorem dX12_date1_144 : decode cX12_date1 144 = .ok (.aload_n 0, 1) := zk_42 (by decide +kernel)
theorem dX12_date1_145 : decode cX12_date1 145 = .ok (.lload_n 2, 1) := zk_32 (by decide +kernel)
theorem dX12_date1_146 : decode cX12_date1 146 = .ok (.aload_n 0, 1) := zk_42 (by decide +kernel)
theorem dX12_date1_147 : decode cX12_date1 147 = .ok (.iload_n 1, 1) := zk_27 (by decide +kernel)
theorem dX12_date1_148 : decode cX12_date1 148 = .ok (.lload 6, 2) := zk_22 (by decide +kernel)
theorem dX12_date1_150 : decode cX12_date1 150 = .ok (.invokevirtual 389, 3) := zk_182 (by decide +kernel)
theorem dX12_date1_153 : decode cX12_date1 153 = .ok (.lsub, 1) := zk_101 (by decide +kernel)
theorem dX12_date1_154 : decode cX12_date1 154 = .ok (.lconst 1, 1) := zk_10 (by decide +kernel)
theorem dX12_date1_155 : decode cX12_date1 155 = .ok (.ladd, 1) := zk_97 (by decide +kernel)
theorem dX12_date1_156 : decode cX12_date1 156 = .ok (.putfield 399, 3) := zk_181 (by decide +kernel)
theorem dX12_date1_159 : decode cX12_date1 159 = .ok (.aload_n 0, 1) := zk_42 (by decide +kernel)
theorem dX12_date1_160 : decode cX12_date1 160 = .ok (.getfield 399, 3) := zk_180 (by decide +kernel)
theorem dX12_date1_163 : decode cX12_date1 163 = .ok (.aload_n 0, 1) := zk_42 (by decide +kernel)
theorem dX12_date1_164 : decode cX12_date1 164 = .ok (.iload_n 1, 1) := zk_27 (by decide +kernel)
theorem dX12_date1_165 : decode cX12_date1 165 = .ok (.lload 6, 2) := zk_22 (by decide +kernel)
theorem dX12_date1_167 : decode cX12_date1 167 = .ok (.invokevirtual 375, 3) := zk_182 (by decide +kernel)
theorem dX12_date1_170 : decode cX12_date1 170 = .ok (.lcmp, 1) := zk_148 (by decide +kernel)
theorem dX12_date1_171 : decode cX12_date1 171 = .ok (.ifCond .gt 7, 3) := zk_157 (by decide +kernel)
theorem dX12_date1_178 : decode cX12_date1 178 = .ok (.iconst 0, 1) := zk_3 (by decide +kernel)
theorem dX12_date1_179 : decode cX12_date1 179 = .ok (.ireturn, 1) := zk_172 (by decide +kernel)
theorem dX12_date1_174 : decode cX12_date1 174 = .ok (.iconst 1, 1) := zk_4 (by decide +kernel)
theorem dX12_date1_175 : decode cX12_date1 175 = .ok (.goto 4, 3) := zk_167 (by decide +kernel)
theorem dX12_date1_97 : decode cX12_date1 97 = .ok (.lload 6, 2) := zk_22 (by decide +kernel)
theorem dX12_date1_99 : decode cX12_date1 99 = .ok (.lload 8, 2) := zk_22 (by decide +kernel)
theorem dX12_date1_101 : decode cX12_date1 101 = .ok (.ladd, 1) := zk_97 (by decide +kernel)
theorem dX12_date1_102 : decode cX12_date1 102 = .ok (.lconst 1, 1) := zk_10 (by decide +kernel)
theorem dX12_date1_103 : decode cX12_date1 103 = .ok (.ladd, 1) := zk_97 (by decide +kernel)
theorem dX12_date1_104 : decode cX12_date1 104 = .ok (.ldc2_w 383, 3) := zk_20 (by decide +kernel)
theorem dX12_date1_107 : decode cX12_date1 107 = .ok (.ldiv, 1) := zk_109 (by decide +kernel)
theorem dX12_date1_108 : decode cX12_date1 108 = .ok (.lstore 10, 2) := zk_55 (by decide +kernel)
theorem dX12_date1_110 : decode cX12_date1 110 = .ok (.aload_n 0, 1) := zk_42 (by decide +kernel)
theorem dX12_date1_111 : decode cX12_date1 111 = .ok (.iload_n 1, 1) := zk_27 (by decide +kernel)
theorem dX12_date1_112 : decode cX12_date1 112 = .ok (.lload 10, 2) := zk_22 (by decide +kernel)
theorem dX12_date1_114 : decode cX12_date1 114 = .ok (.invokevirtual 389, 3) := zk_182 (by decide +kernel)
theorem dX12_date1_117 : decode cX12_date1 117 = .ok (.lload_n 2, 1) := zk_32 (by decide +kernel)
theorem dX12_date1_118 : decode cX12_date1 118 = .ok (.lcmp, 1) := zk_148 (by decide +kernel)
theorem dX12_date1_119 : decode cX12_date1 119 = .ok (.ifCond .gt 10, 3) := zk_157 (by decide +kernel)
theorem dX12_date1_129 : decode cX12_date1 129 = .ok (.lload 10, 2) := zk_22 (by decide +kernel)
theorem dX12_date1_131 : decode cX12_date1 131 = .ok (.lconst 1, 1) := zk_10 (by decide +kernel)
theorem dX12_date1_132 : decode cX12_date1 132 = .ok (.lsub, 1) := zk_101 (by decide +kernel)
theorem dX12_date1_133 : decode cX12_date1 133 = .ok (.lstore 8, 2) := zk_55 (by decide +kernel)
theorem dX12_date1_135 : decode cX12_date1 135 = .ok (.goto (-46), 3) := zk_167 (by decide +kernel)
theorem dX12_date1_122 : decode cX12_date1 122 = .ok (.lload 10, 2) := zk_22 (by decide +kernel)
theorem dX12_date1_124 : decode cX12_date1 124 = .ok (.lstore 6, 2) := zk_55 (by decide +kernel)
theorem dX12_date1_126 : decode cX12_date1 126 = .ok (.goto 9, 3) := zk_167 (by decide +kernel)
theorem dX12_date1_38 : decode cX12_date1 38 = .ok (.ifCond .ge 11, 3) := zk_156 (by decide +kernel)
theorem dX12_date1_49 : decode cX12_date1 49 = .ok (.lload 4, 2) := zk_22 (by decide +kernel)
theorem dX12_date1_51 : decode cX12_date1 51 = .ok (.lconst 0, 1) := zk_9 (by decide +kernel)
theorem dX12_date1_52 : decode cX12_date1 52 = .ok (.lcmp, 1) := zk_148 (by decide +kernel)
theorem dX12_date1_53 : decode cX12_date1 53 = .ok (.ifCond .le 9, 3) := zk_158 (by decide +kernel)
theorem dX12_date1_62 : decode cX12_date1 62 = .ok (.lload_n 2, 1) := zk_32 (by decide +kernel)
theorem dX12_date1_63 : decode cX12_date1 63 = .ok (.aload_n 0, 1) := zk_42 (by decide +kernel)
theorem dX12_date1_64 : decode cX12_date1 64 = .ok (.getfield 26, 3) := zk_180 (by decide +kernel)
theorem dX12_date1_67 : decode cX12_date1 67 = .ok (.iconst 3, 1) := zk_6 (by decide +kernel)
theorem dX12_date1_68 : decode cX12_date1 68 = .ok (.iload_n 1, 1) := zk_27 (by decide +kernel)
theorem dX12_date1_69 : decode cX12_date1 69 = .ok (.imul, 1) := zk_104 (by decide +kernel)
theorem dX12_date1_70 : decode cX12_date1 70 = .ok (.iconst 2, 1) := zk_5 (by decide +kernel)
theorem dX12_date1_71 : decode cX12_date1 71 = .ok (.iadd, 1) := zk_96 (by decide +kernel)
theorem dX12_date1_72 : decode cX12_date1 72 = .ok (.iaload, 1) := zk_46 (by decide +kernel)
theorem dX12_date1_73 : decode cX12_date1 73 = .ok (.i2l, 1) := zk_133 (by decide +kernel)
theorem dX12_date1_74 : decode cX12_date1 74 = .ok (.lsub, 1) := zk_101 (by decide +kernel)
theorem dX12_date1_75 : decode cX12_date1 75 = .ok (.aload_n 0, 1) := zk_42 (by decide +kernel)
theorem dX12_date1_76 : decode cX12_date1 76 = .ok (.getfield 26, 3) := zk_180 (by decide +kernel)
theorem dX12_date1_79 : decode cX12_date1 79 = .ok (.iconst 3, 1) := zk_6 (by decide +kernel)
theorem dX12_date1_80 : decode cX12_date1 80 = .ok (.iload_n 1, 1) := zk_27 (by decide +kernel)
theorem dX12_date1_81 : decode cX12_date1 81 = .ok (.imul, 1) := zk_104 (by decide +kernel)
theorem dX12_date1_82 : decode cX12_date1 82 = .ok (.iaload, 1) := zk_46 (by decide +kernel)
theorem dX12_date1_83 : decode cX12_date1 83 = .ok (.i2l, 1) := zk_133 (by decide +kernel)
theorem dX12_date1_84 : decode cX12_date1 84 = .ok (.ldiv, 1) := zk_109 (by decide +kernel)
theorem dX12_date1_85 : decode cX12_date1 85 = .ok (.lconst 1, 1) := zk_10 (by decide +kernel)
theorem dX12_date1_86 : decode cX12_date1 86 = .ok (.ladd, 1) := zk_97 (by decide +kernel)
theorem dX12_date1_56 : decode cX12_date1 56 = .ok (.ldc2_w 379, 3) := zk_20 (by decide +kernel)
theorem dX12_date1_59 : decode cX12_date1 59 = .ok (.goto 28, 3) := zk_167 (by decide +kernel)
theorem dX12_date1_41 : decode cX12_date1 41 = .ok (.aload_n 0, 1) := zk_42 (by decide +kernel)
theorem dX12_date1_42 : decode cX12_date1 42 = .ok (.iload_n 1, 1) := zk_27 (by decide +kernel)
theorem dX12_date1_43 : decode cX12_date1 43 = .ok (.invokevirtual 392, 3) := zk_182 (by decide +kernel)
theorem dX12_date1_46 : decode cX12_date1 46 = .ok (.goto 41, 3) := zk_167 (by decide +kernel)
theorem dX12_date1_16 : decode cX12_date1 16 = .ok (.iconst 0, 1) := zk_3 (by decide +kernel)
theorem dX12_date1_17 : decode cX12_date1 17 = .ok (.ireturn, 1) := zk_172 (by decide +kernel)
set_option maxHeartbeats 4000000 in
set_option maxRecDepth 100000 in
theorem gq_date1 (l : Launch) (dC : Nat → ClassId) (dI : Nat → Nat → Nat) (mq : Nat) (g : Nat → Int32) (gl : Nat → Int64) (rf : Nat → Nat) (ck : Nat → ClassId) (f_landHas : Nat → Int32) (a0 : Int32) (a1 : Int64) (sz : Nat) (hl0 : ¬ a0 < 0) (hl7 : a0 ≤ 7) (hc0 : ¬ a1 < 0) (hc9 : a1 ≤ 2000000000000) (hfz : ¬ (f_landHas ((3 * a0).toNatClampNeg)) = 0) : Met l yX12_date1 (Cond.code yX12_date1 cX12_date1 12 (some .boolean) :: wsL_law) ({ frames := 1, cells := 0, slots := 0, locals := 25 }) (va_Pc [.ref mq, .int a0, .long a1] (fun U => U.heap.size = sz ∧ va_P (dC, dI) vwCl [(mq, .inr (12, mF g gl rf)), (eA0 (rf 29) (ck 29) 24 f_landHas)] U.heap ∧ va_K (dC, dI) vwCl [((ck 29), .int)] U ∧ va_D (fun _ => True) [(mq, .inr (12, mF g gl rf)), (eA0 (rf 29) (ck 29) 24 f_landHas)])) (va_Qi (fun (r : Int32) (u : (Int64) × (Int64)) => (r = (fq_date1 f_landHas a0 a1 (gl 53) (gl 54)).1 ∧ u = (fq_date1 f_landHas a0 a1 (gl 53) (gl 54)).2) ∧ (r = 0 ∨ r = 1)) (fun (u : (Int64) × (Int64)) t => va_P (dC, dI) vwCl [(mq, .inr (12, mF g (vp_updL (vp_updL gl 53 u.1) 54 u.2) rf)), (eA0 (rf 29) (ck 29) 24 f_landHas)] t.heap ∧ va_K (dC, dI) vwCl [] t ∧ va_D (va_A [(mq, .inr (12, mF g gl rf)), (eA0 (rf 29) (ck 29) 24 f_landHas)] sz) [(mq, .inr (12, mF g (vp_updL (vp_updL gl 53 u.1) 54 u.2) rf)), (eA0 (rf 29) (ck 29) 24 f_landHas)]) (va_A [(mq, .inr (12, mF g gl rf)), (eA0 (rf 29) (ck 29) 24 f_landHas)] sz)) 0 0 (va_A [(mq, .inr (12, mF g gl rf)), (eA0 (rf 29) (ck 29) 24 f_landHas)] sz) := by
  refine Met.ofW (cc := cX12_date1) (maxL := 12) (ret := (some .boolean)) (by decide) rfl ?_
  intro p e s m args below meth c s₁ B hml hv
  obtain ⟨rfl, hsz, hP, hK, hD0⟩ := hv
  have hx := B.exec
  have hb := B.bytes
  have hr := B.returns
  have hts := atoms_spec (ws := Cond.code yX12_date1 cX12_date1 12 (some .boolean) :: wsL_law) B.pre
  have htw : ∀ w ∈ wsL_law, w.before _ s = true := fun w h => hts w (List.mem_cons_of_mem _ h)
  have hown : s.vm.findClass RX12 = some m.cls := findClass_of_methodNamed B.named
  have hlocks := B.notSynchronized
  subst hsz
  have hD := hD0.self (sz := s.heap.size)
  generalize hAe : va_A [(mq, .inr (12, mF g gl rf)), (eA0 (rf 29) (ck 29) 24 f_landHas)] s.heap.size = A at hD ⊢
  have hA : ∀ q : Nat, s.heap.size ≤ q → A q := fun q h => by rw [← hAe]; exact Or.inr h
  obtain ⟨H, rH⟩ : ∃ z : Heap, z = s.heap := ⟨_, rfl⟩
  have hS : va_S A s.heap H [] := by rw [rH]; exact va_S.rf
  have hP : va_P (dC, dI) vwCl [(mq, .inr (12, mF g gl rf)), (eA0 (rf 29) (ck 29) 24 f_landHas)] H := by rw [rH]; exact hP
  rw [← rH]
  have hl := lv_entry ([.ref mq, .int a0, .long a1]) (n := 12) (Nat.le_of_ble_eq_true rfl)
  rw [lg_entry_eq]
  generalize (lg_sl ([.ref mq, .int a0, .long a1]) ++ List.replicate (12 - (lg_sl ([.ref mq, .int a0, .long a1])).length) Slot.unset).toArray = ls at hl ⊢
  have hl : lv_has ls 12 [(0, .ref mq), (1, .int a0), (2, .long a1)] := hl
  refine lv_lload_n hx hb dX12_date1_0 rfl (lv_at hl 2 rfl) ?_
  refine lv_aload_n hx hb dX12_date1_1 rfl (lv_at hl 0 rfl) ?_
  refine va_get (D := (dC, dI)) (ci := 12) (v := .ref (rf 29)) (C := RX12) (T := TX12) (N := 76) hx hb htw inlX12 hown hK hP 0 rfl rfl 29 (by decide) (htw _ (ck_9 _ (List.mem_of_getElem? (i := 9) rfl))) (fun _ h9 => h9) rfl dX12_date1_2 ?_
  refine lv_iconst (v := 3) hx hb dX12_date1_5 (by decide) ?_
  refine lv_iload_n hx hb dX12_date1_6 rfl (lv_at hl 1 rfl) ?_
  refine lv_imul hx hb dX12_date1_7 ?_
  refine lv_iconst (v := 2) hx hb dX12_date1_8 (by decide) ?_
  refine lv_iadd hx hb dX12_date1_9 ?_
  refine va_iald hx hb hK hP 1 0 rfl rfl (xg_inr (N := 24) rfl (gq_date1_s0 (y0 := a0) hl0 hl7).1 (gq_date1_s0 (y0 := a0) hl0 hl7).2) dX12_date1_10 ?_
  refine lv_i2l (v := (f_landHas (((3 * a0) + 2).toNatClampNeg)).toInt64) hx hb dX12_date1_11 rfl ?_
  refine W.lcmp hx hb dX12_date1_12 ?_
  refine lv_if_ge (tgt := 18) hx hb dX12_date1_13 (by decide) (fun c_1 => ?_) (fun c_1 => ?_)
  · refine lv_aload_n hx hb dX12_date1_18 rfl (lv_at hl 0 rfl) ?_
    refine va_get (D := (dC, dI)) (ci := 12) (v := .ref (rf 29)) (C := RX12) (T := TX12) (N := 76) hx hb htw inlX12 hown hK hP 0 rfl rfl 29 (by decide) (htw _ (ck_9 _ (List.mem_of_getElem? (i := 9) rfl))) (fun _ h9 => h9) rfl dX12_date1_19 ?_
    refine lv_iconst (v := 3) hx hb dX12_date1_22 (by decide) ?_
    refine lv_iload_n hx hb dX12_date1_23 rfl (lv_at hl 1 rfl) ?_
    refine lv_imul hx hb dX12_date1_24 ?_
    refine lv_iconst (v := 1) hx hb dX12_date1_25 (by decide) ?_
    refine lv_iadd hx hb dX12_date1_26 ?_
    refine va_iald hx hb hK hP 1 0 rfl rfl (xg_inr (N := 24) rfl (gq_date1_s1 (y0 := a0) hl0 hl7).1 (gq_date1_s1 (y0 := a0) hl0 hl7).2) dX12_date1_27 ?_
    refine lv_i2l (v := (f_landHas (((3 * a0) + 1).toNatClampNeg)).toInt64) hx hb dX12_date1_28 rfl ?_
    refine lv_lstore (lv' := [(4, .long ((f_landHas (((3 * a0) + 1).toNatClampNeg)).toInt64)), (0, .ref mq), (1, .int a0), (2, .long a1)]) hx hb dX12_date1_29 hl (by decide) rfl (fun ls hl => ?_)
    refine lv_lconst (v := 1) hx hb dX12_date1_31 (by decide) ?_
    refine lv_lstore (lv' := [(6, .long 1), (4, .long ((f_landHas (((3 * a0) + 1).toNatClampNeg)).toInt64)), (0, .ref mq), (1, .int a0), (2, .long a1)]) hx hb dX12_date1_32 hl (by decide) rfl (fun ls hl => ?_)
    refine lv_lload hx hb dX12_date1_34 (lv_at hl 1 rfl) ?_
    refine lv_lconst (v := 0) hx hb dX12_date1_36 (by decide) ?_
    refine W.lcmp hx hb dX12_date1_37 ?_
    obtain ⟨X_2, hX_2⟩ : ∃ X9 : (Int64), X9 = fq_date1_j f_landHas a0 a1 := ⟨_, rfl⟩
    have hjoin_3 : ∀ (S0j : Int64) (hj : S0j ≤ 10000000000000) (hE9 : X_2 = S0j) (H : Heap) (locs : List Loc) (ls : Array Slot) (hP : va_P (dC, dI) vwCl [(mq, .inr (12, mF g gl rf)), (eA0 (rf 29) (ck 29) 24 f_landHas)] H) (hD : va_D A [(mq, .inr (12, mF g gl rf)), (eA0 (rf 29) (ck 29) 24 f_landHas)]) (hS : va_S A s.heap H locs) (hl : lv_has ls 12 [(6, .long 1), (4, .long ((f_landHas (((3 * a0) + 1).toNatClampNeg)).toInt64)), (0, .ref mq), (1, .int a0), (2, .long a1)]), W p l e (headSpec (Cond.code yX12_date1 cX12_date1 12 (some .boolean) :: wsL_law) ({ frames := 1, cells := 0, slots := 0, locals := 25 })).room s m ([.ref mq, .int a0, .long a1] : List Value).toArray below meth c H locs 0 0 (MQ below (va_Qi (fun (r : Int32) (u : (Int64) × (Int64)) => (r = (fq_date1 f_landHas a0 a1 (gl 53) (gl 54)).1 ∧ u = (fq_date1 f_landHas a0 a1 (gl 53) (gl 54)).2) ∧ (r = 0 ∨ r = 1)) (fun (u : (Int64) × (Int64)) t => va_P (dC, dI) vwCl [(mq, .inr (12, mF g (vp_updL (vp_updL gl 53 u.1) 54 u.2) rf)), (eA0 (rf 29) (ck 29) 24 f_landHas)] t.heap ∧ va_K (dC, dI) vwCl [] t ∧ va_D A [(mq, .inr (12, mF g (vp_updL (vp_updL gl 53 u.1) 54 u.2) rf)), (eA0 (rf 29) (ck 29) 24 f_landHas)]) A) ([.ref mq, .int a0, .long a1] : List Value).toArray s 0 0 A) (F0 m 87 ls [.long S0j]) := by
      intro S0j hj hE9 H locs ls hP hD hS hl
      have hq_S0j : S0j = X_2 := by rw [hE9]
      refine lv_lstore (lv' := [(8, .long S0j), (6, .long 1), (4, .long ((f_landHas (((3 * a0) + 1).toNatClampNeg)).toInt64)), (0, .ref mq), (1, .int a0), (2, .long a1)]) hx hb dX12_date1_87 hl (by decide) rfl (fun ls hl => ?_)
      have hloop_4 : ∀ (n : Nat) (L6d : Int64) (L8d : Int64) (hlo : ¬ L6d < 1) (hhi : L8d ≤ 10000000000000) (hgap : L8d.toInt - L6d.toInt < (2 : Int) ^ n) (hI_d : fq_date1 f_landHas a0 a1 (gl 53) (gl 54) = fq_date1_d f_landHas a0 a1 n L6d L8d) (H : Heap) (locs : List Loc) (ls : Array Slot) (hP : va_P (dC, dI) vwCl [(mq, .inr (12, mF g gl rf)), (eA0 (rf 29) (ck 29) 24 f_landHas)] H) (hD : va_D A [(mq, .inr (12, mF g gl rf)), (eA0 (rf 29) (ck 29) 24 f_landHas)]) (hS : va_S A s.heap H locs) (hl : lv_has ls 12 [(8, .long L8d), (6, .long L6d), (4, .long ((f_landHas (((3 * a0) + 1).toNatClampNeg)).toInt64)), (0, .ref mq), (1, .int a0), (2, .long a1)]), W p l e (headSpec (Cond.code yX12_date1 cX12_date1 12 (some .boolean) :: wsL_law) ({ frames := 1, cells := 0, slots := 0, locals := 25 })).room s m ([.ref mq, .int a0, .long a1] : List Value).toArray below meth c H locs 0 0 (MQ below (va_Qi (fun (r : Int32) (u : (Int64) × (Int64)) => (r = (fq_date1 f_landHas a0 a1 (gl 53) (gl 54)).1 ∧ u = (fq_date1 f_landHas a0 a1 (gl 53) (gl 54)).2) ∧ (r = 0 ∨ r = 1)) (fun (u : (Int64) × (Int64)) t => va_P (dC, dI) vwCl [(mq, .inr (12, mF g (vp_updL (vp_updL gl 53 u.1) 54 u.2) rf)), (eA0 (rf 29) (ck 29) 24 f_landHas)] t.heap ∧ va_K (dC, dI) vwCl [] t ∧ va_D A [(mq, .inr (12, mF g (vp_updL (vp_updL gl 53 u.1) 54 u.2) rf)), (eA0 (rf 29) (ck 29) 24 f_landHas)]) A) ([.ref mq, .int a0, .long a1] : List Value).toArray s 0 0 A) (F0 m 89 ls []) := by
        intro n
        induction n with
        | zero =>
          intro L6d L8d hlo hhi hgap hI_d H locs ls hP hD hS hl
          refine lv_lload hx hb dX12_date1_89 (lv_at hl 1 rfl) ?_
          refine lv_lload hx hb dX12_date1_91 (lv_at hl 0 rfl) ?_
          refine W.lcmp hx hb dX12_date1_93 ?_
          refine lv_if_ge (tgt := 138) hx hb dX12_date1_94 (by decide) (fun c_5 => ?_) (fun c_5 => absurd c_5 (fun h => h ((lg_cmp_ge _ _).mpr (xd_z hgap))))
          refine lv_aload_n hx hb dX12_date1_138 rfl (lv_at hl 3 rfl) ?_
          refine lv_lload hx hb dX12_date1_139 (lv_at hl 1 rfl) ?_
          refine va_put (D := (dC, dI)) (ci := 12) (v := .long L6d) (ty := tyX12 53) (C := RX12) (T := TX12) (N := 76) hx hb htw inlX12 tyX12 tyX12_ok nmX12 hown hK hP hD hS 0 rfl rfl 53 (by decide) (htw _ (ck_36 _ (List.mem_of_getElem? (i := 6) rfl))) (fun _ h9 => h9) rfl (tyX12_ok 53 (by decide)) rfl rfl (Nat.le_of_ble_eq_true rfl) dX12_date1_141 (fun H locs hP hD hS => ?_)
          obtain ⟨hP, hD⟩ := zre [(mq, .inr (12, mF g (vp_updL gl 53 L6d) rf)), (eA0 (rf 29) (ck 29) 24 f_landHas)] hP hD rfl
          refine lv_aload_n hx hb dX12_date1_144 rfl (lv_at hl 3 rfl) ?_
          refine lv_lload_n hx hb dX12_date1_145 rfl (lv_at hl 5 rfl) ?_
          refine lv_aload_n hx hb dX12_date1_146 rfl (lv_at hl 3 rfl) ?_
          refine lv_iload_n hx hb dX12_date1_147 rfl (lv_at hl 4 rfl) ?_
          refine lv_lload hx hb dX12_date1_148 (lv_at hl 1 rfl) ?_
          have hPc := hP.sub (ws' := [(mq, .inr (12, mF g (vp_updL gl 53 L6d) rf)), (eA0 (rf 29) (ck 29) 24 f_landHas)]) [0, 1] rfl
          have hKc := hK.sub (tys' := [((ck 29), .int)]) [0] rfl
          refine vp_callSl (W.runV (As := [.int a0, .long L6d]) (rest := [.long a1, .ref mq]) ⟨hx, hb, hml, hown, htw⟩ (gq_beginOf l dC dI mq g (vp_updL gl 53 L6d) rf ck f_landHas a0 L6d hl0 hl7) (cwV 2 htw (xg_V (ck_30 _ (List.mem_of_getElem? (i := 7) rfl)) (ck_30 _ (List.mem_of_getElem? (i := 8) rfl)) (ck_30 _ (List.mem_of_getElem? (i := 9) rfl)) (ck_1 _ (List.mem_of_getElem? (i := 5) rfl)) (ck_30 _ (List.mem_of_getElem? (i := 10) rfl))) rfl rfl rfl (by exact ⟨rfl, hdc_14.1, hdc_14.2, hdd_41⟩) ⟨Nat.le_of_ble_eq_true rfl, Nat.le_of_ble_eq_true rfl⟩) ⟨fun a U g mk q => by obtain ⟨q0, qP, qK⟩ := q; exact ⟨q0, qP, va_K.moved (u := U) (U := U.calling g mk a) (Vm.Alike.refl U.vm) qK⟩, va_recv hKc hPc (ci := 12) (q0 := 0) rfl rfl, fun U hU hW => ⟨rfl, by rw [hU]; exact hPc, va_K.moved hW.alike hKc⟩⟩ rfl rfl hl.1 rfl (lv_room (Nat.le_of_ble_eq_true rfl)) dX12_date1_150 ⟨Nat.le_of_ble_eq_true rfl, Nat.le_of_ble_eq_true rfl⟩) (fun r_6 hw => ?_)
          try dsimp only at hw
          have hq_r_6 : r_6 = (fq_beginOf f_landHas a0 L6d) := hw
          refine lv_lsub hx hb dX12_date1_153 ?_
          refine lv_lconst (v := 1) hx hb dX12_date1_154 (by decide) ?_
          refine lv_ladd hx hb dX12_date1_155 ?_
          refine va_put (D := (dC, dI)) (ci := 12) (v := .long ((a1 - r_6) + 1)) (ty := tyX12 54) (C := RX12) (T := TX12) (N := 76) hx hb htw inlX12 tyX12 tyX12_ok nmX12 hown hK hP hD hS 0 rfl rfl 54 (by decide) (htw _ (ck_36 _ (List.mem_of_getElem? (i := 7) rfl))) (fun _ h9 => h9) rfl (tyX12_ok 54 (by decide)) rfl rfl (Nat.le_of_ble_eq_true rfl) dX12_date1_156 (fun H locs hP hD hS => ?_)
          obtain ⟨hP, hD⟩ := zre [(mq, .inr (12, mF g (vp_updL (vp_updL gl 53 L6d) 54 ((a1 - r_6) + 1)) rf)), (eA0 (rf 29) (ck 29) 24 f_landHas)] hP hD rfl
          refine lv_aload_n hx hb dX12_date1_159 rfl (lv_at hl 3 rfl) ?_
          refine va_get (D := (dC, dI)) (ci := 12) (v := .long ((a1 - r_6) + 1)) (C := RX12) (T := TX12) (N := 76) hx hb htw inlX12 hown hK hP 0 rfl rfl 54 (by decide) (htw _ (ck_36 _ (List.mem_of_getElem? (i := 7) rfl))) (fun _ h9 => h9) rfl dX12_date1_160 ?_
          refine lv_aload_n hx hb dX12_date1_163 rfl (lv_at hl 3 rfl) ?_
          refine lv_iload_n hx hb dX12_date1_164 rfl (lv_at hl 4 rfl) ?_
          refine lv_lload hx hb dX12_date1_165 (lv_at hl 1 rfl) ?_
          have hPc := hP.sub (ws' := [(mq, .inr (12, mF g (vp_updL (vp_updL gl 53 L6d) 54 ((a1 - r_6) + 1)) rf)), (eA0 (rf 29) (ck 29) 24 f_landHas)]) [0, 1] rfl
          have hKc := hK.sub (tys' := [((ck 29), .int)]) [0] rfl
          refine vp_callSl (W.runV (As := [.int a0, .long L6d]) (rest := [.long ((a1 - r_6) + 1)]) ⟨hx, hb, hml, hown, htw⟩ (gq_lengthOf l dC dI mq g (vp_updL (vp_updL gl 53 L6d) 54 ((a1 - r_6) + 1)) rf ck f_landHas a0 L6d hl0 hl7) (cwV 2 htw (xg_V (ck_30 _ (List.mem_of_getElem? (i := 3) rfl)) (ck_30 _ (List.mem_of_getElem? (i := 4) rfl)) (ck_30 _ (List.mem_of_getElem? (i := 5) rfl)) (ck_1 _ (List.mem_of_getElem? (i := 5) rfl)) (ck_30 _ (List.mem_of_getElem? (i := 6) rfl))) rfl rfl rfl (by exact ⟨rfl, hdc_14.1, hdc_14.2, hdd_41⟩) ⟨Nat.le_of_ble_eq_true rfl, Nat.le_of_ble_eq_true rfl⟩) ⟨fun a U g mk q => by obtain ⟨q0, qP, qK⟩ := q; exact ⟨q0, qP, va_K.moved (u := U) (U := U.calling g mk a) (Vm.Alike.refl U.vm) qK⟩, va_recv hKc hPc (ci := 12) (q0 := 0) rfl rfl, fun U hU hW => ⟨rfl, by rw [hU]; exact hPc, va_K.moved hW.alike hKc⟩⟩ rfl rfl hl.1 rfl (lv_room (Nat.le_of_ble_eq_true rfl)) dX12_date1_167 ⟨Nat.le_of_ble_eq_true rfl, Nat.le_of_ble_eq_true rfl⟩) (fun r_7 hw => ?_)
          try dsimp only at hw
          have hq_r_7 : r_7 = (fq_lengthOf f_landHas a0 L6d) := hw
          refine W.lcmp hx hb dX12_date1_170 ?_
          refine lv_if_gt (tgt := 178) hx hb dX12_date1_171 (by decide) (fun c_8 => ?_) (fun c_8 => ?_)
          · refine lv_iconst (v := 0) hx hb dX12_date1_178 (by decide) ?_
            refine W.widen (k := 0) (n := 0) (by omega) (by omega) ?_
            have hP9 := hP
            have hD9 := hD
            have hK9 := hK.sub (tys' := []) [] rfl
            exact W.zret (v := 0) hx hb hr (by first | rfl | decide) (fun t ht hW => ⟨⟨0, (L6d, ((a1 - r_6) + 1)), rfl, ⟨((fun e9 => ⟨by rw [e9], by rw [e9]⟩ : fq_date1 f_landHas a0 a1 (gl 53) (gl 54) = ((0 : Int32), L6d, ((a1 - r_6) + 1)) → _) (hI_d.trans (by rw [fq_date1_d]; (try rw [← hq_r_6]); (try rw [xL_eq]); (try rw [← hq_r_7]); (try rw [xL_eq]); (try rw [if_pos c_8]); try rfl))), Or.inl rfl⟩, by rw [ht]; exact hP9, va_K.moved hW.alike hK9, hD9⟩, hS.F ht⟩) hS.2.2 dX12_date1_179
          · refine lv_iconst (v := 1) hx hb dX12_date1_174 (by decide) ?_
            refine lv_goto (tgt := 179) hx hb dX12_date1_175 (by decide) ?_
            refine W.widen (k := 0) (n := 0) (by omega) (by omega) ?_
            have hP9 := hP
            have hD9 := hD
            have hK9 := hK.sub (tys' := []) [] rfl
            exact W.zret (v := 1) hx hb hr (by first | rfl | decide) (fun t ht hW => ⟨⟨1, (L6d, ((a1 - r_6) + 1)), rfl, ⟨((fun e9 => ⟨by rw [e9], by rw [e9]⟩ : fq_date1 f_landHas a0 a1 (gl 53) (gl 54) = ((1 : Int32), L6d, ((a1 - r_6) + 1)) → _) (hI_d.trans (by rw [fq_date1_d]; (try rw [← hq_r_6]); (try rw [xL_eq]); (try rw [← hq_r_7]); (try rw [xL_eq]); (try rw [if_neg c_8]); try rfl))), Or.inr rfl⟩, by rw [ht]; exact hP9, va_K.moved hW.alike hK9, hD9⟩, hS.F ht⟩) hS.2.2 dX12_date1_179
        | succ n ih =>
          intro L6d L8d hlo hhi hgap hI_d H locs ls hP hD hS hl
          refine lv_lload hx hb dX12_date1_89 (lv_at hl 1 rfl) ?_
          refine lv_lload hx hb dX12_date1_91 (lv_at hl 0 rfl) ?_
          refine W.lcmp hx hb dX12_date1_93 ?_
          refine lv_if_ge (tgt := 138) hx hb dX12_date1_94 (by decide) (fun c_9 => ?_) (fun c_9 => ?_)
          · refine lv_aload_n hx hb dX12_date1_138 rfl (lv_at hl 3 rfl) ?_
            refine lv_lload hx hb dX12_date1_139 (lv_at hl 1 rfl) ?_
            refine va_put (D := (dC, dI)) (ci := 12) (v := .long L6d) (ty := tyX12 53) (C := RX12) (T := TX12) (N := 76) hx hb htw inlX12 tyX12 tyX12_ok nmX12 hown hK hP hD hS 0 rfl rfl 53 (by decide) (htw _ (ck_36 _ (List.mem_of_getElem? (i := 6) rfl))) (fun _ h9 => h9) rfl (tyX12_ok 53 (by decide)) rfl rfl (Nat.le_of_ble_eq_true rfl) dX12_date1_141 (fun H locs hP hD hS => ?_)
            obtain ⟨hP, hD⟩ := zre [(mq, .inr (12, mF g (vp_updL gl 53 L6d) rf)), (eA0 (rf 29) (ck 29) 24 f_landHas)] hP hD rfl
            refine lv_aload_n hx hb dX12_date1_144 rfl (lv_at hl 3 rfl) ?_
            refine lv_lload_n hx hb dX12_date1_145 rfl (lv_at hl 5 rfl) ?_
            refine lv_aload_n hx hb dX12_date1_146 rfl (lv_at hl 3 rfl) ?_
            refine lv_iload_n hx hb dX12_date1_147 rfl (lv_at hl 4 rfl) ?_
            refine lv_lload hx hb dX12_date1_148 (lv_at hl 1 rfl) ?_
            have hPc := hP.sub (ws' := [(mq, .inr (12, mF g (vp_updL gl 53 L6d) rf)), (eA0 (rf 29) (ck 29) 24 f_landHas)]) [0, 1] rfl
            have hKc := hK.sub (tys' := [((ck 29), .int)]) [0] rfl
            refine vp_callSl (W.runV (As := [.int a0, .long L6d]) (rest := [.long a1, .ref mq]) ⟨hx, hb, hml, hown, htw⟩ (gq_beginOf l dC dI mq g (vp_updL gl 53 L6d) rf ck f_landHas a0 L6d hl0 hl7) (cwV 2 htw (xg_V (ck_30 _ (List.mem_of_getElem? (i := 7) rfl)) (ck_30 _ (List.mem_of_getElem? (i := 8) rfl)) (ck_30 _ (List.mem_of_getElem? (i := 9) rfl)) (ck_1 _ (List.mem_of_getElem? (i := 5) rfl)) (ck_30 _ (List.mem_of_getElem? (i := 10) rfl))) rfl rfl rfl (by exact ⟨rfl, hdc_14.1, hdc_14.2, hdd_41⟩) ⟨Nat.le_of_ble_eq_true rfl, Nat.le_of_ble_eq_true rfl⟩) ⟨fun a U g mk q => by obtain ⟨q0, qP, qK⟩ := q; exact ⟨q0, qP, va_K.moved (u := U) (U := U.calling g mk a) (Vm.Alike.refl U.vm) qK⟩, va_recv hKc hPc (ci := 12) (q0 := 0) rfl rfl, fun U hU hW => ⟨rfl, by rw [hU]; exact hPc, va_K.moved hW.alike hKc⟩⟩ rfl rfl hl.1 rfl (lv_room (Nat.le_of_ble_eq_true rfl)) dX12_date1_150 ⟨Nat.le_of_ble_eq_true rfl, Nat.le_of_ble_eq_true rfl⟩) (fun r_10 hw => ?_)
            try dsimp only at hw
            have hq_r_10 : r_10 = (fq_beginOf f_landHas a0 L6d) := hw
            refine lv_lsub hx hb dX12_date1_153 ?_
            refine lv_lconst (v := 1) hx hb dX12_date1_154 (by decide) ?_
            refine lv_ladd hx hb dX12_date1_155 ?_
            refine va_put (D := (dC, dI)) (ci := 12) (v := .long ((a1 - r_10) + 1)) (ty := tyX12 54) (C := RX12) (T := TX12) (N := 76) hx hb htw inlX12 tyX12 tyX12_ok nmX12 hown hK hP hD hS 0 rfl rfl 54 (by decide) (htw _ (ck_36 _ (List.mem_of_getElem? (i := 7) rfl))) (fun _ h9 => h9) rfl (tyX12_ok 54 (by decide)) rfl rfl (Nat.le_of_ble_eq_true rfl) dX12_date1_156 (fun H locs hP hD hS => ?_)
            obtain ⟨hP, hD⟩ := zre [(mq, .inr (12, mF g (vp_updL (vp_updL gl 53 L6d) 54 ((a1 - r_10) + 1)) rf)), (eA0 (rf 29) (ck 29) 24 f_landHas)] hP hD rfl
            refine lv_aload_n hx hb dX12_date1_159 rfl (lv_at hl 3 rfl) ?_
            refine va_get (D := (dC, dI)) (ci := 12) (v := .long ((a1 - r_10) + 1)) (C := RX12) (T := TX12) (N := 76) hx hb htw inlX12 hown hK hP 0 rfl rfl 54 (by decide) (htw _ (ck_36 _ (List.mem_of_getElem? (i := 7) rfl))) (fun _ h9 => h9) rfl dX12_date1_160 ?_
            refine lv_aload_n hx hb dX12_date1_163 rfl (lv_at hl 3 rfl) ?_
            refine lv_iload_n hx hb dX12_date1_164 rfl (lv_at hl 4 rfl) ?_
            refine lv_lload hx hb dX12_date1_165 (lv_at hl 1 rfl) ?_
            have hPc := hP.sub (ws' := [(mq, .inr (12, mF g (vp_updL (vp_updL gl 53 L6d) 54 ((a1 - r_10) + 1)) rf)), (eA0 (rf 29) (ck 29) 24 f_landHas)]) [0, 1] rfl
            have hKc := hK.sub (tys' := [((ck 29), .int)]) [0] rfl
            refine vp_callSl (W.runV (As := [.int a0, .long L6d]) (rest := [.long ((a1 - r_10) + 1)]) ⟨hx, hb, hml, hown, htw⟩ (gq_lengthOf l dC dI mq g (vp_updL (vp_updL gl 53 L6d) 54 ((a1 - r_10) + 1)) rf ck f_landHas a0 L6d hl0 hl7) (cwV 2 htw (xg_V (ck_30 _ (List.mem_of_getElem? (i := 3) rfl)) (ck_30 _ (List.mem_of_getElem? (i := 4) rfl)) (ck_30 _ (List.mem_of_getElem? (i := 5) rfl)) (ck_1 _ (List.mem_of_getElem? (i := 5) rfl)) (ck_30 _ (List.mem_of_getElem? (i := 6) rfl))) rfl rfl rfl (by exact ⟨rfl, hdc_14.1, hdc_14.2, hdd_41⟩) ⟨Nat.le_of_ble_eq_true rfl, Nat.le_of_ble_eq_true rfl⟩) ⟨fun a U g mk q => by obtain ⟨q0, qP, qK⟩ := q; exact ⟨q0, qP, va_K.moved (u := U) (U := U.calling g mk a) (Vm.Alike.refl U.vm) qK⟩, va_recv hKc hPc (ci := 12) (q0 := 0) rfl rfl, fun U hU hW => ⟨rfl, by rw [hU]; exact hPc, va_K.moved hW.alike hKc⟩⟩ rfl rfl hl.1 rfl (lv_room (Nat.le_of_ble_eq_true rfl)) dX12_date1_167 ⟨Nat.le_of_ble_eq_true rfl, Nat.le_of_ble_eq_true rfl⟩) (fun r_11 hw => ?_)
            try dsimp only at hw
            have hq_r_11 : r_11 = (fq_lengthOf f_landHas a0 L6d) := hw
            refine W.lcmp hx hb dX12_date1_170 ?_
            refine lv_if_gt (tgt := 178) hx hb dX12_date1_171 (by decide) (fun c_12 => ?_) (fun c_12 => ?_)
            · refine lv_iconst (v := 0) hx hb dX12_date1_178 (by decide) ?_
              refine W.widen (k := 0) (n := 0) (by omega) (by omega) ?_
              have hP9 := hP
              have hD9 := hD
              have hK9 := hK.sub (tys' := []) [] rfl
              exact W.zret (v := 0) hx hb hr (by first | rfl | decide) (fun t ht hW => ⟨⟨0, (L6d, ((a1 - r_10) + 1)), rfl, ⟨((fun e9 => ⟨by rw [e9], by rw [e9]⟩ : fq_date1 f_landHas a0 a1 (gl 53) (gl 54) = ((0 : Int32), L6d, ((a1 - r_10) + 1)) → _) (hI_d.trans (by rw [fq_date1_d]; (try rw [if_pos c_9]); (try rw [← hq_r_10]); (try rw [xL_eq]); (try rw [← hq_r_11]); (try rw [xL_eq]); (try rw [if_pos c_12]); try rfl))), Or.inl rfl⟩, by rw [ht]; exact hP9, va_K.moved hW.alike hK9, hD9⟩, hS.F ht⟩) hS.2.2 dX12_date1_179
            · refine lv_iconst (v := 1) hx hb dX12_date1_174 (by decide) ?_
              refine lv_goto (tgt := 179) hx hb dX12_date1_175 (by decide) ?_
              refine W.widen (k := 0) (n := 0) (by omega) (by omega) ?_
              have hP9 := hP
              have hD9 := hD
              have hK9 := hK.sub (tys' := []) [] rfl
              exact W.zret (v := 1) hx hb hr (by first | rfl | decide) (fun t ht hW => ⟨⟨1, (L6d, ((a1 - r_10) + 1)), rfl, ⟨((fun e9 => ⟨by rw [e9], by rw [e9]⟩ : fq_date1 f_landHas a0 a1 (gl 53) (gl 54) = ((1 : Int32), L6d, ((a1 - r_10) + 1)) → _) (hI_d.trans (by rw [fq_date1_d]; (try rw [if_pos c_9]); (try rw [← hq_r_10]); (try rw [xL_eq]); (try rw [← hq_r_11]); (try rw [xL_eq]); (try rw [if_neg c_12]); try rfl))), Or.inr rfl⟩, by rw [ht]; exact hP9, va_K.moved hW.alike hK9, hD9⟩, hS.F ht⟩) hS.2.2 dX12_date1_179
          · refine lv_lload hx hb dX12_date1_97 (lv_at hl 1 rfl) ?_
            refine lv_lload hx hb dX12_date1_99 (lv_at hl 0 rfl) ?_
            refine lv_ladd hx hb dX12_date1_101 ?_
            refine lv_lconst (v := 1) hx hb dX12_date1_102 (by decide) ?_
            refine lv_ladd hx hb dX12_date1_103 ?_
            refine lv_ldc2 (v := 2) hx hb hown (htw _ (ck_30 _ (List.mem_of_getElem? (i := 13) rfl))) dX12_date1_104 ?_
            refine lv_ldiv hx hb dX12_date1_107 (by decide) ?_
            refine lv_lstore (lv' := [(10, .long (((L6d + L8d) + 1) / 2)), (8, .long L8d), (6, .long L6d), (4, .long ((f_landHas (((3 * a0) + 1).toNatClampNeg)).toInt64)), (0, .ref mq), (1, .int a0), (2, .long a1)]) hx hb dX12_date1_108 hl (by decide) rfl (fun ls hl => ?_)
            refine lv_aload_n hx hb dX12_date1_110 rfl (lv_at hl 4 rfl) ?_
            refine lv_iload_n hx hb dX12_date1_111 rfl (lv_at hl 5 rfl) ?_
            refine lv_lload hx hb dX12_date1_112 (lv_at hl 0 rfl) ?_
            have hPc := hP.sub (ws' := [(mq, .inr (12, mF g gl rf)), (eA0 (rf 29) (ck 29) 24 f_landHas)]) [0, 1] rfl
            have hKc := hK.sub (tys' := [((ck 29), .int)]) [0] rfl
            refine vp_callSl (W.runV (As := [.int a0, .long (((L6d + L8d) + 1) / 2)]) (rest := []) ⟨hx, hb, hml, hown, htw⟩ (gq_beginOf l dC dI mq g gl rf ck f_landHas a0 (((L6d + L8d) + 1) / 2) hl0 hl7) (cwV 2 htw (xg_V (ck_30 _ (List.mem_of_getElem? (i := 7) rfl)) (ck_30 _ (List.mem_of_getElem? (i := 8) rfl)) (ck_30 _ (List.mem_of_getElem? (i := 9) rfl)) (ck_1 _ (List.mem_of_getElem? (i := 5) rfl)) (ck_30 _ (List.mem_of_getElem? (i := 10) rfl))) rfl rfl rfl (by exact ⟨rfl, hdc_14.1, hdc_14.2, hdd_41⟩) ⟨Nat.le_of_ble_eq_true rfl, Nat.le_of_ble_eq_true rfl⟩) ⟨fun a U g mk q => by obtain ⟨q0, qP, qK⟩ := q; exact ⟨q0, qP, va_K.moved (u := U) (U := U.calling g mk a) (Vm.Alike.refl U.vm) qK⟩, va_recv hKc hPc (ci := 12) (q0 := 0) rfl rfl, fun U hU hW => ⟨rfl, by rw [hU]; exact hPc, va_K.moved hW.alike hKc⟩⟩ rfl rfl hl.1 rfl (lv_room (Nat.le_of_ble_eq_true rfl)) dX12_date1_114 ⟨Nat.le_of_ble_eq_true rfl, Nat.le_of_ble_eq_true rfl⟩) (fun r_13 hw => ?_)
            try dsimp only at hw
            have hq_r_13 : r_13 = (fq_beginOf f_landHas a0 (((L6d + L8d) + 1) / 2)) := hw
            refine lv_lload_n hx hb dX12_date1_117 rfl (lv_at hl 6 rfl) ?_
            refine W.lcmp hx hb dX12_date1_118 ?_
            refine lv_if_gt (tgt := 129) hx hb dX12_date1_119 (by decide) (fun c_14 => ?_) (fun c_14 => ?_)
            · refine lv_lload hx hb dX12_date1_129 (lv_at hl 0 rfl) ?_
              refine lv_lconst (v := 1) hx hb dX12_date1_131 (by decide) ?_
              refine lv_lsub hx hb dX12_date1_132 ?_
              refine lv_lstore (lv' := [(8, .long ((((L6d + L8d) + 1) / 2) - 1)), (10, .long (((L6d + L8d) + 1) / 2)), (6, .long L6d), (4, .long ((f_landHas (((3 * a0) + 1).toNatClampNeg)).toInt64)), (0, .ref mq), (1, .int a0), (2, .long a1)]) hx hb dX12_date1_133 hl (by decide) rfl (fun ls hl => ?_)
              refine lv_goto (tgt := 89) hx hb dX12_date1_135 (by decide) ?_
              exact ih L6d ((((L6d + L8d) + 1) / 2) - 1) hlo (xd_hi hlo (Int64.not_le.mp (fun q => c_9 ((lg_cmp_ge _ _).mpr q))) hhi) (xd_g2 hlo (Int64.not_le.mp (fun q => c_9 ((lg_cmp_ge _ _).mpr q))) hhi hgap) (hI_d.trans (by rw [fq_date1_d]; (try rw [if_neg c_9]); (try rw [← hq_r_13]); (try rw [xL_eq]); (try rw [if_pos c_14]); try rfl)) H locs ls hP hD hS (lv_sub hl [0, 2, 3, 4, 5, 6] rfl)
            · refine lv_lload hx hb dX12_date1_122 (lv_at hl 0 rfl) ?_
              refine lv_lstore (lv' := [(6, .long (((L6d + L8d) + 1) / 2)), (10, .long (((L6d + L8d) + 1) / 2)), (8, .long L8d), (4, .long ((f_landHas (((3 * a0) + 1).toNatClampNeg)).toInt64)), (0, .ref mq), (1, .int a0), (2, .long a1)]) hx hb dX12_date1_124 hl (by decide) rfl (fun ls hl => ?_)
              refine lv_goto (tgt := 135) hx hb dX12_date1_126 (by decide) ?_
              refine lv_goto (tgt := 89) hx hb dX12_date1_135 (by decide) ?_
              exact ih (((L6d + L8d) + 1) / 2) L8d (xd_lo hlo (Int64.not_le.mp (fun q => c_9 ((lg_cmp_ge _ _).mpr q))) hhi) hhi (xd_g1 hlo (Int64.not_le.mp (fun q => c_9 ((lg_cmp_ge _ _).mpr q))) hhi hgap) (hI_d.trans (by rw [fq_date1_d]; (try rw [if_neg c_9]); (try rw [← hq_r_13]); (try rw [xL_eq]); (try rw [if_neg c_14]); try rfl)) H locs ls hP hD hS (lv_sub hl [2, 0, 3, 4, 5, 6] rfl)
      exact hloop_4 64 (1 : Int64) S0j (by decide) hj (xd_s hj) ((by rw [fq_date1]; (try rw [if_pos c_1]); (try rw [← hX_2]); (try rw [xL_eq]); (try rw [← hq_S0j]); try rfl)) _ _ ls hP hD hS (lv_sub hl [0, 1, 2, 3, 4, 5] rfl)
    refine lv_if_ge (tgt := 49) hx hb dX12_date1_38 (by decide) (fun c_15 => ?_) (fun c_15 => ?_)
    · refine lv_lload hx hb dX12_date1_49 (lv_at hl 1 rfl) ?_
      refine lv_lconst (v := 0) hx hb dX12_date1_51 (by decide) ?_
      refine W.lcmp hx hb dX12_date1_52 ?_
      refine lv_if_le (tgt := 62) hx hb dX12_date1_53 (by decide) (fun c_16 => ?_) (fun c_16 => ?_)
      · refine lv_lload_n hx hb dX12_date1_62 rfl (lv_at hl 4 rfl) ?_
        refine lv_aload_n hx hb dX12_date1_63 rfl (lv_at hl 2 rfl) ?_
        refine va_get (D := (dC, dI)) (ci := 12) (v := .ref (rf 29)) (C := RX12) (T := TX12) (N := 76) hx hb htw inlX12 hown hK hP 0 rfl rfl 29 (by decide) (htw _ (ck_9 _ (List.mem_of_getElem? (i := 9) rfl))) (fun _ h9 => h9) rfl dX12_date1_64 ?_
        refine lv_iconst (v := 3) hx hb dX12_date1_67 (by decide) ?_
        refine lv_iload_n hx hb dX12_date1_68 rfl (lv_at hl 3 rfl) ?_
        refine lv_imul hx hb dX12_date1_69 ?_
        refine lv_iconst (v := 2) hx hb dX12_date1_70 (by decide) ?_
        refine lv_iadd hx hb dX12_date1_71 ?_
        refine va_iald hx hb hK hP 1 0 rfl rfl (xg_inr (N := 24) rfl (gq_date1_s2 (y0 := a0) hl0 hl7).1 (gq_date1_s2 (y0 := a0) hl0 hl7).2) dX12_date1_72 ?_
        refine lv_i2l (v := (f_landHas (((3 * a0) + 2).toNatClampNeg)).toInt64) hx hb dX12_date1_73 rfl ?_
        refine lv_lsub hx hb dX12_date1_74 ?_
        refine lv_aload_n hx hb dX12_date1_75 rfl (lv_at hl 2 rfl) ?_
        refine va_get (D := (dC, dI)) (ci := 12) (v := .ref (rf 29)) (C := RX12) (T := TX12) (N := 76) hx hb htw inlX12 hown hK hP 0 rfl rfl 29 (by decide) (htw _ (ck_9 _ (List.mem_of_getElem? (i := 9) rfl))) (fun _ h9 => h9) rfl dX12_date1_76 ?_
        refine lv_iconst (v := 3) hx hb dX12_date1_79 (by decide) ?_
        refine lv_iload_n hx hb dX12_date1_80 rfl (lv_at hl 3 rfl) ?_
        refine lv_imul hx hb dX12_date1_81 ?_
        refine va_iald hx hb hK hP 1 0 rfl rfl (xg_inr (N := 24) rfl (gq_date1_s3 (y0 := a0) hl0 hl7).1 (gq_date1_s3 (y0 := a0) hl0 hl7).2) dX12_date1_82 ?_
        refine lv_i2l (v := (f_landHas ((3 * a0).toNatClampNeg)).toInt64) hx hb dX12_date1_83 rfl ?_
        refine lv_ldiv hx hb dX12_date1_84 (xg_nz64 hfz) ?_
        refine lv_lconst (v := 1) hx hb dX12_date1_85 (by decide) ?_
        refine lv_ladd hx hb dX12_date1_86 ?_
        exact hjoin_3 (((a1 - ((f_landHas (((3 * a0) + 2).toNatClampNeg)).toInt64)) / ((f_landHas ((3 * a0).toNatClampNeg)).toInt64)) + 1) (xd_q hc0 hc9 hfz) (hX_2.trans (by rw [fq_date1_j]; (try rw [if_pos c_15]); (try rw [if_pos c_16]); try rfl)) _ _ ls hP hD hS (lv_sub hl [0, 1, 2, 3, 4] rfl)
      · refine lv_ldc2 (v := 3000000) hx hb hown (htw _ (ck_30 _ (List.mem_of_getElem? (i := 11) rfl))) dX12_date1_56 ?_
        refine lv_goto (tgt := 87) hx hb dX12_date1_59 (by decide) ?_
        exact hjoin_3 (3000000 : Int64) (by decide) (hX_2.trans (by rw [fq_date1_j]; (try rw [if_pos c_15]); (try rw [if_neg c_16]); try rfl)) _ _ ls hP hD hS (lv_sub hl [0, 1, 2, 3, 4] rfl)
    · refine lv_aload_n hx hb dX12_date1_41 rfl (lv_at hl 2 rfl) ?_
      refine lv_iload_n hx hb dX12_date1_42 rfl (lv_at hl 3 rfl) ?_
      have hPc := hP.sub (ws' := [(mq, .inr (12, mF g gl rf)), (eA0 (rf 29) (ck 29) 24 f_landHas)]) [0, 1] rfl
      have hKc := hK.sub (tys' := [((ck 29), .int)]) [0] rfl
      refine vp_callSl (W.runV (As := [.int a0]) (rest := []) ⟨hx, hb, hml, hown, htw⟩ (gq_endYear l dC dI mq g gl rf ck f_landHas a0 hl0 hl7 (xd_neg c_15)) (cwV 1 htw (xg_V (ck_36 _ (List.mem_of_getElem? (i := 15) rfl)) (ck_36 _ (List.mem_of_getElem? (i := 16) rfl)) (ck_36 _ (List.mem_of_getElem? (i := 17) rfl)) (ck_1 _ (List.mem_of_getElem? (i := 5) rfl)) (ck_36 _ (List.mem_of_getElem? (i := 18) rfl))) rfl rfl rfl (by exact ⟨rfl, hdc_14.1, hdc_14.2, hdd_30⟩) ⟨Nat.le_of_ble_eq_true rfl, Nat.le_of_ble_eq_true rfl⟩) ⟨fun a U g mk q => by obtain ⟨q0, qP, qK⟩ := q; exact ⟨q0, qP, va_K.moved (u := U) (U := U.calling g mk a) (Vm.Alike.refl U.vm) qK⟩, va_recv hKc hPc (ci := 12) (q0 := 0) rfl rfl, fun U hU hW => ⟨rfl, by rw [hU]; exact hPc, va_K.moved hW.alike hKc⟩⟩ rfl rfl hl.1 rfl (lv_room (Nat.le_of_ble_eq_true rfl)) dX12_date1_43 ⟨Nat.le_of_ble_eq_true rfl, Nat.le_of_ble_eq_true rfl⟩) (fun r_17 hw => ?_)
      try dsimp only at hw
      have hq_r_17 : r_17 = (fq_endYear f_landHas a0) := hw
      refine lv_goto (tgt := 87) hx hb dX12_date1_46 (by decide) ?_
      exact hjoin_3 r_17 (by rw [hq_r_17, fq_endYear]; exact xd_ey (xd_nneg (xd_neg c_15))) (hX_2.trans (by rw [fq_date1_j]; (try rw [if_neg c_15]); (try rw [← hq_r_17]); (try rw [xL_eq]); try rfl)) _ _ ls hP hD hS (lv_sub hl [0, 1, 2, 3, 4] rfl)
  · refine lv_iconst (v := 0) hx hb dX12_date1_16 (by decide) ?_
    refine W.widen (k := 0) (n := 0) (by omega) (by omega) ?_
    have hP9 := hP
    have hD9 := hD
    have hK9 := hK.sub (tys' := []) [] rfl
    exact W.zret (v := 0) hx hb hr (by first | rfl | decide) (fun t ht hW => ⟨⟨0, ((gl 53), (gl 54)), rfl, ⟨((fun e9 => ⟨by rw [e9], by rw [e9]⟩ : fq_date1 f_landHas a0 a1 (gl 53) (gl 54) = ((0 : Int32), (gl 53), (gl 54)) → _) ((by rw [fq_date1]; (try rw [if_neg c_1]); try rfl))), Or.inl rfl⟩, by rw [ht]; exact hP9, va_K.moved hW.alike hK9, hD9⟩, hS.F ht⟩) hS.2.2 dX12_date1_17
