def fq_endedBy (f_landHas : Nat → Int32) (a0 : Int32) (a1 : Int64) (m_gotYear : Int64) (m_gotDay : Int64) : Int64 × (Int64) × (Int64) := (if 0 ≤ lg_cmp a1 ((f_landHas (((3 * a0) + 2).toNatClampNeg)).toInt64) then (xL ((fq_date1 f_landHas a0 a1 m_gotYear m_gotDay)) (fun X_6 => (if X_6.1 = 0 then (xL ((fq_endYear f_landHas a0)) (fun r_10 => (r_10, X_6.2.1, X_6.2.2))) else (xL ((fq_lengthOf f_landHas a0 X_6.2.1)) (fun r_8 => (if lg_cmp X_6.2.2 r_8 = 0 then (X_6.2.1, X_6.2.1, X_6.2.2) else ((X_6.2.1 - 1), X_6.2.1, X_6.2.2))))))) else ((0 : Int64), m_gotYear, m_gotDay))
theorem gq_endedBy_s0 {y0 : Int32} (h0 : ¬ (y0 < 0)) (h1 : y0 ≤ 7) : ¬ (((3 * y0) + 2) < 0) ∧ ¬ (24 ≤ ((3 * y0) + 2)) := by lia
theorem dX12_endedBy_0 : decode cX12_endedBy 0 = .ok (.lload_n 2, 1) := zk_32 (by decide +kernel)
theorem dX12_endedBy_1 : decode cX12_endedBy 1 = .ok (.aload_n 0, 1) := zk_42 (by decide +kernel)
theorem dX12_endedBy_2 : decode cX12_endedBy 2 = .ok (.getfield 26, 3) := zk_180 (by decide +kernel)
theorem dX12_endedBy_5 : decode cX12_endedBy 5 = .ok (.iconst 3, 1) := zk_6 (by decide +kernel)
theorem dX12_endedBy_6 : decode cX12_endedBy 6 = .ok (.iload_n 1, 1) := zk_27 (by decide +kernel)
theorem dX12_endedBy_7 : decode cX12_endedBy 7 = .ok (.imul, 1) := zk_104 (by decide +kernel)
theorem dX12_endedBy_8 : decode cX12_endedBy 8 = .ok (.iconst 2, 1) := zk_5 (by decide +kernel)
theorem dX12_endedBy_9 : decode cX12_endedBy 9 = .ok (.iadd, 1) := zk_96 (by decide +kernel)
theorem dX12_endedBy_10 : decode cX12_endedBy 10 = .ok (.iaload, 1) := zk_46 (by decide +kernel)
theorem dX12_endedBy_11 : decode cX12_endedBy 11 = .ok (.i2l, 1) := zk_133 (by decide +kernel)
theorem dX12_endedBy_12 : decode cX12_endedBy 12 = .ok (.lcmp, 1) := zk_148 (by decide +kernel)
theorem dX12_endedBy_13 : decode cX12_endedBy 13 = .ok (.ifCond .ge 5, 3) := zk_156 (by decide +kernel)
theorem dX12_endedBy_18 : decode cX12_endedBy 18 = .ok (.aload_n 0, 1) := zk_42 (by decide +kernel)
theorem dX12_endedBy_19 : decode cX12_endedBy 19 = .ok (.iload_n 1, 1) := zk_27 (by decide +kernel)
theorem dX12_endedBy_20 : decode cX12_endedBy 20 = .ok (.lload_n 2, 1) := zk_32 (by decide +kernel)
theorem dX12_endedBy_21 : decode cX12_endedBy 21 = .ok (.invokevirtual 416, 3) := zk_182 (by decide +kernel)
theorem dX12_endedBy_24 : decode cX12_endedBy 24 = .ok (.ifCond .ne 9, 3) := zk_154 (by decide +kernel)
theorem dX12_endedBy_33 : decode cX12_endedBy 33 = .ok (.aload_n 0, 1) := zk_42 (by decide +kernel)
theorem dX12_endedBy_34 : decode cX12_endedBy 34 = .ok (.getfield 399, 3) := zk_180 (by decide +kernel)
theorem dX12_endedBy_37 : decode cX12_endedBy 37 = .ok (.aload_n 0, 1) := zk_42 (by decide +kernel)
theorem dX12_endedBy_38 : decode cX12_endedBy 38 = .ok (.iload_n 1, 1) := zk_27 (by decide +kernel)
theorem dX12_endedBy_39 : decode cX12_endedBy 39 = .ok (.aload_n 0, 1) := zk_42 (by decide +kernel)
theorem dX12_endedBy_40 : decode cX12_endedBy 40 = .ok (.getfield 396, 3) := zk_180 (by decide +kernel)
theorem dX12_endedBy_43 : decode cX12_endedBy 43 = .ok (.invokevirtual 375, 3) := zk_182 (by decide +kernel)
theorem dX12_endedBy_46 : decode cX12_endedBy 46 = .ok (.lcmp, 1) := zk_148 (by decide +kernel)
theorem dX12_endedBy_47 : decode cX12_endedBy 47 = .ok (.ifCond .ne 10, 3) := zk_154 (by decide +kernel)
theorem dX12_endedBy_57 : decode cX12_endedBy 57 = .ok (.aload_n 0, 1) := zk_42 (by decide +kernel)
theorem dX12_endedBy_58 : decode cX12_endedBy 58 = .ok (.getfield 396, 3) := zk_180 (by decide +kernel)
theorem dX12_endedBy_61 : decode cX12_endedBy 61 = .ok (.lconst 1, 1) := zk_10 (by decide +kernel)
theorem dX12_endedBy_62 : decode cX12_endedBy 62 = .ok (.lsub, 1) := zk_101 (by decide +kernel)
theorem dX12_endedBy_63 : decode cX12_endedBy 63 = .ok (.lreturn, 1) := zk_173 (by decide +kernel)
theorem dX12_endedBy_50 : decode cX12_endedBy 50 = .ok (.aload_n 0, 1) := zk_42 (by decide +kernel)
theorem dX12_endedBy_51 : decode cX12_endedBy 51 = .ok (.getfield 396, 3) := zk_180 (by decide +kernel)
theorem dX12_endedBy_54 : decode cX12_endedBy 54 = .ok (.goto 9, 3) := zk_167 (by decide +kernel)
theorem dX12_endedBy_27 : decode cX12_endedBy 27 = .ok (.aload_n 0, 1) := zk_42 (by decide +kernel)
theorem dX12_endedBy_28 : decode cX12_endedBy 28 = .ok (.iload_n 1, 1) := zk_27 (by decide +kernel)
theorem dX12_endedBy_29 : decode cX12_endedBy 29 = .ok (.invokevirtual 392, 3) := zk_182 (by decide +kernel)
theorem dX12_endedBy_32 : decode cX12_endedBy 32 = .ok (.lreturn, 1) := zk_173 (by decide +kernel)
theorem dX12_endedBy_16 : decode cX12_endedBy 16 = .ok (.lconst 0, 1) := zk_9 (by decide +kernel)
theorem dX12_endedBy_17 : decode cX12_endedBy 17 = .ok (.lreturn, 1) := zk_173 (by decide +kernel)
set_option maxHeartbeats 4000000 in
set_option maxRecDepth 100000 in
theorem gq_endedBy (l : Launch) (dC : Nat → ClassId) (dI : Nat → Nat → Nat) (mq : Nat) (g : Nat → Int32) (gl : Nat → Int64) (rf : Nat → Nat) (ck : Nat → ClassId) (f_landHas : Nat → Int32) (a0 : Int32) (a1 : Int64) (sz : Nat) (hl0 : ¬ a0 < 0) (hl7 : a0 ≤ 7) (hc0 : ¬ a1 < 0) (hc9 : a1 ≤ 2000000000000) (hfp : ¬ (f_landHas ((3 * a0).toNatClampNeg)) < 1) : Met l yX12_endedBy (Cond.code yX12_endedBy cX12_endedBy 4 (some .long) :: wsL_law) ({ frames := 2, cells := 0, slots := 0, locals := 56 }) (va_Pc [.ref mq, .int a0, .long a1] (fun U => U.heap.size = sz ∧ va_P (dC, dI) vwCl [(mq, .inr (12, mF g gl rf)), (eA0 (rf 29) (ck 29) 24 f_landHas)] U.heap ∧ va_K (dC, dI) vwCl [((ck 29), .int)] U ∧ va_D (fun _ => True) [(mq, .inr (12, mF g gl rf)), (eA0 (rf 29) (ck 29) 24 f_landHas)])) (va_Ql (fun (r : Int64) (u : (Int64) × (Int64)) => r = (fq_endedBy f_landHas a0 a1 (gl 53) (gl 54)).1 ∧ u = (fq_endedBy f_landHas a0 a1 (gl 53) (gl 54)).2) (fun (u : (Int64) × (Int64)) t => va_P (dC, dI) vwCl [(mq, .inr (12, mF g (vp_updL (vp_updL gl 53 u.1) 54 u.2) rf)), (eA0 (rf 29) (ck 29) 24 f_landHas)] t.heap ∧ va_K (dC, dI) vwCl [] t ∧ va_D (va_A [(mq, .inr (12, mF g gl rf)), (eA0 (rf 29) (ck 29) 24 f_landHas)] sz) [(mq, .inr (12, mF g (vp_updL (vp_updL gl 53 u.1) 54 u.2) rf)), (eA0 (rf 29) (ck 29) 24 f_landHas)]) (va_A [(mq, .inr (12, mF g gl rf)), (eA0 (rf 29) (ck 29) 24 f_landHas)] sz)) 0 0 (va_A [(mq, .inr (12, mF g gl rf)), (eA0 (rf 29) (ck 29) 24 f_landHas)] sz) := by
  refine Met.ofW (cc := cX12_endedBy) (maxL := 4) (ret := (some .long)) (by decide) rfl ?_
  intro p e s m args below meth c s₁ B hml hv
  obtain ⟨rfl, hsz, hP, hK, hD0⟩ := hv
  have hx := B.exec
  have hb := B.bytes
  have hr := B.returns
  have hts := atoms_spec (ws := Cond.code yX12_endedBy cX12_endedBy 4 (some .long) :: wsL_law) B.pre
  have htw : ∀ w ∈ wsL_law, w.before _ s = true := fun w h => hts w (List.mem_cons_of_mem _ h)
  have hown : s.vm.findClass RX12 = some m.cls := findClass_of_methodNamed B.named
  have hlocks := B.notSynchronized
  subst hsz
  have hD := hD0.self (sz := s.heap.size)
  generalize hAe : va_A [(mq, .inr (12, mF g gl rf)), (eA0 (rf 29) (ck 29) 24 f_landHas)] s.heap.size = A at hD ⊢
  have hA : ∀ q : Nat, s.heap.size ≤ q → A q := fun q h => by rw [← hAe]; exact Or.inr h
  obtain ⟨H, rH⟩ : ∃ z : Heap, z = s.heap := ⟨_, rfl⟩
  have hS : va_S A s.heap H [] := by rw [rH]; exact va_S.rf
  have hP : va_P (dC, dI) vwCl [(mq, .inr (12, mF g gl rf)), (eA0 (rf 29) (ck 29) 24 f_landHas)] H := by rw [rH]; exact hP
  rw [← rH]
  have hl := lv_entry ([.ref mq, .int a0, .long a1]) (n := 4) (Nat.le_of_ble_eq_true rfl)
  rw [lg_entry_eq]
  generalize (lg_sl ([.ref mq, .int a0, .long a1]) ++ List.replicate (4 - (lg_sl ([.ref mq, .int a0, .long a1])).length) Slot.unset).toArray = ls at hl ⊢
  have hl : lv_has ls 4 [(0, .ref mq), (1, .int a0), (2, .long a1)] := hl
  refine lv_lload_n hx hb dX12_endedBy_0 rfl (lv_at hl 2 rfl) ?_
  refine lv_aload_n hx hb dX12_endedBy_1 rfl (lv_at hl 0 rfl) ?_
  refine va_get (D := (dC, dI)) (ci := 12) (v := .ref (rf 29)) (C := RX12) (T := TX12) (N := 76) hx hb htw inlX12 hown hK hP 0 rfl rfl 29 (by decide) (htw _ (ck_9 _ (List.mem_of_getElem? (i := 9) rfl))) (fun _ h9 => h9) rfl dX12_endedBy_2 ?_
  refine lv_iconst (v := 3) hx hb dX12_endedBy_5 (by decide) ?_
  refine lv_iload_n hx hb dX12_endedBy_6 rfl (lv_at hl 1 rfl) ?_
  refine lv_imul hx hb dX12_endedBy_7 ?_
  refine lv_iconst (v := 2) hx hb dX12_endedBy_8 (by decide) ?_
  refine lv_iadd hx hb dX12_endedBy_9 ?_
  refine va_iald hx hb hK hP 1 0 rfl rfl (xg_inr (N := 24) rfl (gq_endedBy_s0 (y0 := a0) hl0 hl7).1 (gq_endedBy_s0 (y0 := a0) hl0 hl7).2) dX12_endedBy_10 ?_
  refine lv_i2l (v := (f_landHas (((3 * a0) + 2).toNatClampNeg)).toInt64) hx hb dX12_endedBy_11 rfl ?_
  refine W.lcmp hx hb dX12_endedBy_12 ?_
  refine lv_if_ge (tgt := 18) hx hb dX12_endedBy_13 (by decide) (fun c_1 => ?_) (fun c_1 => ?_)
  · refine lv_aload_n hx hb dX12_endedBy_18 rfl (lv_at hl 0 rfl) ?_
    refine lv_iload_n hx hb dX12_endedBy_19 rfl (lv_at hl 1 rfl) ?_
    refine lv_lload_n hx hb dX12_endedBy_20 rfl (lv_at hl 2 rfl) ?_
    obtain ⟨hPc, hDc, hFc, hCc⟩ := zsub3 (ws' := [(mq, .inr (12, mF g gl rf)), (eA0 (rf 29) (ck 29) 24 f_landHas)]) hP hD hS hA [0, 1] (by decide) rfl
    have hKc := hK.sub (tys' := [((ck 29), .int)]) [0] rfl
    refine va_calli (va_runV (As := [.int a0, .long a1]) (rest := []) ⟨hx, hb, hml, hown, htw⟩ (gq_date1 l dC dI mq g gl rf ck f_landHas a0 a1 H.size hl0 hl7 hc0 hc9 (xs_nz hfp)) (cwV 2 htw (xg_V (ck_36 _ (List.mem_of_getElem? (i := 11) rfl)) (ck_36 _ (List.mem_of_getElem? (i := 12) rfl)) (ck_36 _ (List.mem_of_getElem? (i := 13) rfl)) (ck_1 _ (List.mem_of_getElem? (i := 5) rfl)) (ck_36 _ (List.mem_of_getElem? (i := 14) rfl))) rfl rfl rfl (by exact ⟨rfl, hdc_14.1, hdc_14.2, hdd_42⟩) ⟨Nat.le_of_ble_eq_true rfl, Nat.le_of_ble_eq_true rfl⟩) ⟨fun a U g mk q => by obtain ⟨q0, q1, qP, qK, qD⟩ := q; exact ⟨q0, q1, qP, va_K.moved (u := U) (U := U.calling g mk a) (Vm.Alike.refl U.vm) qK, qD⟩, va_recv hKc hPc (ci := 12) (q0 := 0) rfl rfl, fun U hU hW => ⟨rfl, by rw [hU], by rw [hU]; exact hPc, va_K.moved hW.alike hKc, hDc.weaken (fun _ _ _ _ => trivial)⟩⟩ rfl rfl hl.1 rfl (lv_room (Nat.le_of_ble_eq_true rfl)) dX12_endedBy_21 ⟨Nat.le_of_ble_eq_true rfl, Nat.le_of_ble_eq_true rfl⟩) hS (fun q _ h => hFc q h) hFc (fun r_2 u_3 t H1 locs ht hvm hw hB hz1 hk1 hS => ?_)
    try dsimp only at hw
    obtain ⟨hP1, hK1, hD1⟩ := hB
    rw [ht] at hP1
    have hK1 := va_K.moved hvm.symm hK1
    have hK1 : va_K (dC, dI) vwCl [] s := hK1
    obtain ⟨hP, hD⟩ := va_join (wr := []) (w1 := [(mq, .inr (12, mF g (vp_updL (vp_updL gl 53 u_3.1) 54 u_3.2) rf)), (eA0 (rf 29) (ck 29) 24 f_landHas)]) hP hD [0, 1] [] hCc rfl (by decide) (by decide) hk1 hFc hP1 hD1
    generalize H1 = H at hP hS ⊢
    obtain ⟨hP, hD⟩ := zre [(mq, .inr (12, mF g (vp_updL (vp_updL gl 53 u_3.1) 54 u_3.2) rf)), (eA0 (rf 29) (ck 29) 24 f_landHas)] hP hD rfl
    refine W.widen (k := 0) (n := 0) (by omega) (by omega) ?_
    obtain ⟨hw, hb_r_2⟩ := hw
    obtain ⟨X_6, hX_6⟩ : ∃ X9 : Int32 × (Int64) × (Int64), X9 = (fq_date1 f_landHas a0 a1 (gl 53) (gl 54)) := ⟨_, rfl⟩
    have hq_r_2 : r_2 = X_6.1 := by rw [hX_6]; exact hw.1
    have hq_u_3 : u_3 = X_6.2 := by rw [hX_6]; exact hw.2
    refine lv_if_ne (tgt := 33) hx hb dX12_endedBy_24 (by decide) (fun c_7 => ?_) (fun c_7 => ?_)
    · refine lv_aload_n hx hb dX12_endedBy_33 rfl (lv_at hl 0 rfl) ?_
      refine va_get (D := (dC, dI)) (ci := 12) (v := .long u_3.2) (C := RX12) (T := TX12) (N := 76) hx hb htw inlX12 hown hK hP 0 rfl rfl 54 (by decide) (htw _ (ck_36 _ (List.mem_of_getElem? (i := 7) rfl))) (fun _ h9 => h9) rfl dX12_endedBy_34 ?_
      refine lv_aload_n hx hb dX12_endedBy_37 rfl (lv_at hl 0 rfl) ?_
      refine lv_iload_n hx hb dX12_endedBy_38 rfl (lv_at hl 1 rfl) ?_
      refine lv_aload_n hx hb dX12_endedBy_39 rfl (lv_at hl 0 rfl) ?_
      refine va_get (D := (dC, dI)) (ci := 12) (v := .long u_3.1) (C := RX12) (T := TX12) (N := 76) hx hb htw inlX12 hown hK hP 0 rfl rfl 53 (by decide) (htw _ (ck_36 _ (List.mem_of_getElem? (i := 6) rfl))) (fun _ h9 => h9) rfl dX12_endedBy_40 ?_
      have hPc := hP.sub (ws' := [(mq, .inr (12, mF g (vp_updL (vp_updL gl 53 u_3.1) 54 u_3.2) rf)), (eA0 (rf 29) (ck 29) 24 f_landHas)]) [0, 1] rfl
      have hKc := hK.sub (tys' := [((ck 29), .int)]) [0] rfl
      refine vp_callSl (W.runV (As := [.int a0, .long u_3.1]) (rest := [.long u_3.2]) ⟨hx, hb, hml, hown, htw⟩ (gq_lengthOf l dC dI mq g (vp_updL (vp_updL gl 53 u_3.1) 54 u_3.2) rf ck f_landHas a0 u_3.1 hl0 hl7) (cwV 2 htw (xg_V (ck_30 _ (List.mem_of_getElem? (i := 3) rfl)) (ck_30 _ (List.mem_of_getElem? (i := 4) rfl)) (ck_30 _ (List.mem_of_getElem? (i := 5) rfl)) (ck_1 _ (List.mem_of_getElem? (i := 5) rfl)) (ck_30 _ (List.mem_of_getElem? (i := 6) rfl))) rfl rfl rfl (by exact ⟨rfl, hdc_14.1, hdc_14.2, hdd_41⟩) ⟨Nat.le_of_ble_eq_true rfl, Nat.le_of_ble_eq_true rfl⟩) ⟨fun a U g mk q => by obtain ⟨q0, qP, qK⟩ := q; exact ⟨q0, qP, va_K.moved (u := U) (U := U.calling g mk a) (Vm.Alike.refl U.vm) qK⟩, va_recv hKc hPc (ci := 12) (q0 := 0) rfl rfl, fun U hU hW => ⟨rfl, by rw [hU]; exact hPc, va_K.moved hW.alike hKc⟩⟩ rfl rfl hl.1 rfl (lv_room (Nat.le_of_ble_eq_true rfl)) dX12_endedBy_43 ⟨Nat.le_of_ble_eq_true rfl, Nat.le_of_ble_eq_true rfl⟩) (fun r_8 hw => ?_)
      try dsimp only at hw
      have hq_r_8 : r_8 = (fq_lengthOf f_landHas a0 u_3.1) := hw
      refine W.lcmp hx hb dX12_endedBy_46 ?_
      refine lv_if_ne (tgt := 57) hx hb dX12_endedBy_47 (by decide) (fun c_9 => ?_) (fun c_9 => ?_)
      · refine lv_aload_n hx hb dX12_endedBy_57 rfl (lv_at hl 0 rfl) ?_
        refine va_get (D := (dC, dI)) (ci := 12) (v := .long u_3.1) (C := RX12) (T := TX12) (N := 76) hx hb htw inlX12 hown hK hP 0 rfl rfl 53 (by decide) (htw _ (ck_36 _ (List.mem_of_getElem? (i := 6) rfl))) (fun _ h9 => h9) rfl dX12_endedBy_58 ?_
        refine lv_lconst (v := 1) hx hb dX12_endedBy_61 (by decide) ?_
        refine lv_lsub hx hb dX12_endedBy_62 ?_
        refine W.widen (k := 0) (n := 0) (by omega) (by omega) ?_
        have hP9 := hP
        have hD9 := hD
        have hK9 := hK.sub (tys' := []) [] rfl
        exact W.lret (v := (u_3.1 - 1)) hx hb hr (fun t ht hW => ⟨⟨(u_3.1 - 1), (u_3.1, u_3.2), rfl, ((fun e9 => ⟨by rw [e9], by rw [e9]⟩ : fq_endedBy f_landHas a0 a1 (gl 53) (gl 54) = ((u_3.1 - 1), u_3.1, u_3.2) → _) ((by rw [fq_endedBy]; (try rw [if_pos c_1]); (try rw [← hX_6]); (try rw [xL_eq]); (try rw [← hq_r_2]); (try rw [← hq_u_3]); (try rw [if_neg c_7]); (try rw [← hq_r_8]); (try rw [xL_eq]); (try rw [if_neg c_9]); try rfl))), by rw [ht]; exact hP9, va_K.moved hW.alike hK9, hD9⟩, hS.F ht⟩) hS.2.2 dX12_endedBy_63
      · refine lv_aload_n hx hb dX12_endedBy_50 rfl (lv_at hl 0 rfl) ?_
        refine va_get (D := (dC, dI)) (ci := 12) (v := .long u_3.1) (C := RX12) (T := TX12) (N := 76) hx hb htw inlX12 hown hK hP 0 rfl rfl 53 (by decide) (htw _ (ck_36 _ (List.mem_of_getElem? (i := 6) rfl))) (fun _ h9 => h9) rfl dX12_endedBy_51 ?_
        refine lv_goto (tgt := 63) hx hb dX12_endedBy_54 (by decide) ?_
        refine W.widen (k := 0) (n := 0) (by omega) (by omega) ?_
        have hP9 := hP
        have hD9 := hD
        have hK9 := hK.sub (tys' := []) [] rfl
        exact W.lret (v := u_3.1) hx hb hr (fun t ht hW => ⟨⟨u_3.1, (u_3.1, u_3.2), rfl, ((fun e9 => ⟨by rw [e9], by rw [e9]⟩ : fq_endedBy f_landHas a0 a1 (gl 53) (gl 54) = (u_3.1, u_3.1, u_3.2) → _) ((by rw [fq_endedBy]; (try rw [if_pos c_1]); (try rw [← hX_6]); (try rw [xL_eq]); (try rw [← hq_r_2]); (try rw [← hq_u_3]); (try rw [if_neg c_7]); (try rw [← hq_r_8]); (try rw [xL_eq]); (try rw [if_pos c_9]); try rfl))), by rw [ht]; exact hP9, va_K.moved hW.alike hK9, hD9⟩, hS.F ht⟩) hS.2.2 dX12_endedBy_63
    · refine lv_aload_n hx hb dX12_endedBy_27 rfl (lv_at hl 0 rfl) ?_
      refine lv_iload_n hx hb dX12_endedBy_28 rfl (lv_at hl 1 rfl) ?_
      have hPc := hP.sub (ws' := [(mq, .inr (12, mF g (vp_updL (vp_updL gl 53 u_3.1) 54 u_3.2) rf)), (eA0 (rf 29) (ck 29) 24 f_landHas)]) [0, 1] rfl
      have hKc := hK.sub (tys' := [((ck 29), .int)]) [0] rfl
      refine vp_callSl (W.runV (As := [.int a0]) (rest := []) ⟨hx, hb, hml, hown, htw⟩ (gq_endYear l dC dI mq g (vp_updL (vp_updL gl 53 u_3.1) 54 u_3.2) rf ck f_landHas a0 hl0 hl7 (xD_g0 hX_6 (hq_r_2.symm.trans c_7) c_1 hfp hc0 hc9)) (cwV 1 htw (xg_V (ck_36 _ (List.mem_of_getElem? (i := 15) rfl)) (ck_36 _ (List.mem_of_getElem? (i := 16) rfl)) (ck_36 _ (List.mem_of_getElem? (i := 17) rfl)) (ck_1 _ (List.mem_of_getElem? (i := 5) rfl)) (ck_36 _ (List.mem_of_getElem? (i := 18) rfl))) rfl rfl rfl (by exact ⟨rfl, hdc_14.1, hdc_14.2, hdd_30⟩) ⟨Nat.le_of_ble_eq_true rfl, Nat.le_of_ble_eq_true rfl⟩) ⟨fun a U g mk q => by obtain ⟨q0, qP, qK⟩ := q; exact ⟨q0, qP, va_K.moved (u := U) (U := U.calling g mk a) (Vm.Alike.refl U.vm) qK⟩, va_recv hKc hPc (ci := 12) (q0 := 0) rfl rfl, fun U hU hW => ⟨rfl, by rw [hU]; exact hPc, va_K.moved hW.alike hKc⟩⟩ rfl rfl hl.1 rfl (lv_room (Nat.le_of_ble_eq_true rfl)) dX12_endedBy_29 ⟨Nat.le_of_ble_eq_true rfl, Nat.le_of_ble_eq_true rfl⟩) (fun r_10 hw => ?_)
      try dsimp only at hw
      have hq_r_10 : r_10 = (fq_endYear f_landHas a0) := hw
      refine W.widen (k := 0) (n := 0) (by omega) (by omega) ?_
      have hP9 := hP
      have hD9 := hD
      have hK9 := hK.sub (tys' := []) [] rfl
      exact W.lret (v := r_10) hx hb hr (fun t ht hW => ⟨⟨r_10, (u_3.1, u_3.2), rfl, ((fun e9 => ⟨by rw [e9], by rw [e9]⟩ : fq_endedBy f_landHas a0 a1 (gl 53) (gl 54) = (r_10, u_3.1, u_3.2) → _) ((by rw [fq_endedBy]; (try rw [if_pos c_1]); (try rw [← hX_6]); (try rw [xL_eq]); (try rw [← hq_r_2]); (try rw [← hq_u_3]); (try rw [if_pos c_7]); (try rw [← hq_r_10]); (try rw [xL_eq]); try rfl))), by rw [ht]; exact hP9, va_K.moved hW.alike hK9, hD9⟩, hS.F ht⟩) hS.2.2 dX12_endedBy_32
  · refine lv_lconst (v := 0) hx hb dX12_endedBy_16 (by decide) ?_
    refine W.widen (k := 0) (n := 0) (by omega) (by omega) ?_
    obtain ⟨hP9, hD9⟩ := zsub2 (ws' := [(mq, .inr (12, mF g gl rf)), (eA0 (rf 29) (ck 29) 24 f_landHas)]) hP hD [0, 1] (by decide) rfl
    have hK9 := hK.sub (tys' := []) [] rfl
    exact W.lret (v := 0) hx hb hr (fun t ht hW => ⟨⟨0, ((gl 53), (gl 54)), rfl, ((fun e9 => ⟨by rw [e9], by rw [e9]⟩ : fq_endedBy f_landHas a0 a1 (gl 53) (gl 54) = ((0 : Int64), (gl 53), (gl 54)) → _) ((by rw [fq_endedBy]; (try rw [if_neg c_1]); try rfl))), by rw [ht]; exact hP9, va_K.moved hW.alike hK9, hD9⟩, hS.F ht⟩) hS.2.2 dX12_endedBy_17
