def fq_yearsLater (f_landHas : Nat → Int32) (a0 : Int32) (a1 : Int64) (a2 : Int64) : Int64 := (xL ((fq_isYear f_landHas a0 a1)) (fun r_1 => (if r_1 = 0 then (-1 : Int64) else (xL ((fq_lengthOf f_landHas a0 a1)) (fun r_3 => (if lg_cmp r_3 a2 < 0 then (xL ((fq_countOf f_landHas a0 (a1 + 1) (1 : Int64))) (fun r_5 => r_5)) else (xL ((fq_countOf f_landHas a0 a1 a2)) (fun r_6 => r_6))))))))
theorem dX12_yearsLater_0 : decode cX12_yearsLater 0 = .ok (.aload_n 0, 1) := zk_42 (by decide +kernel)
theorem dX12_yearsLater_1 : decode cX12_yearsLater 1 = .ok (.iload_n 1, 1) := zk_27 (by decide +kernel)
theorem dX12_yearsLater_2 : decode cX12_yearsLater 2 = .ok (.lload_n 2, 1) := zk_32 (by decide +kernel)
theorem dX12_yearsLater_3 : decode cX12_yearsLater 3 = .ok (.invokevirtual 385, 3) := zk_182 (by decide +kernel)
theorem dX12_yearsLater_6 : decode cX12_yearsLater 6 = .ok (.ifCond .ne 7, 3) := zk_154 (by decide +kernel)
theorem dX12_yearsLater_13 : decode cX12_yearsLater 13 = .ok (.aload_n 0, 1) := zk_42 (by decide +kernel)
theorem dX12_yearsLater_14 : decode cX12_yearsLater 14 = .ok (.iload_n 1, 1) := zk_27 (by decide +kernel)
theorem dX12_yearsLater_15 : decode cX12_yearsLater 15 = .ok (.lload_n 2, 1) := zk_32 (by decide +kernel)
theorem dX12_yearsLater_16 : decode cX12_yearsLater 16 = .ok (.invokevirtual 375, 3) := zk_182 (by decide +kernel)
theorem dX12_yearsLater_19 : decode cX12_yearsLater 19 = .ok (.lload 4, 2) := zk_22 (by decide +kernel)
theorem dX12_yearsLater_21 : decode cX12_yearsLater 21 = .ok (.lcmp, 1) := zk_148 (by decide +kernel)
theorem dX12_yearsLater_22 : decode cX12_yearsLater 22 = .ok (.ifCond .lt 12, 3) := zk_155 (by decide +kernel)
theorem dX12_yearsLater_34 : decode cX12_yearsLater 34 = .ok (.aload_n 0, 1) := zk_42 (by decide +kernel)
theorem dX12_yearsLater_35 : decode cX12_yearsLater 35 = .ok (.iload_n 1, 1) := zk_27 (by decide +kernel)
theorem dX12_yearsLater_36 : decode cX12_yearsLater 36 = .ok (.lload_n 2, 1) := zk_32 (by decide +kernel)
theorem dX12_yearsLater_37 : decode cX12_yearsLater 37 = .ok (.lconst 1, 1) := zk_10 (by decide +kernel)
theorem dX12_yearsLater_38 : decode cX12_yearsLater 38 = .ok (.ladd, 1) := zk_97 (by decide +kernel)
theorem dX12_yearsLater_39 : decode cX12_yearsLater 39 = .ok (.lconst 1, 1) := zk_10 (by decide +kernel)
theorem dX12_yearsLater_40 : decode cX12_yearsLater 40 = .ok (.invokevirtual 275, 3) := zk_182 (by decide +kernel)
theorem dX12_yearsLater_43 : decode cX12_yearsLater 43 = .ok (.lreturn, 1) := zk_173 (by decide +kernel)
theorem dX12_yearsLater_25 : decode cX12_yearsLater 25 = .ok (.aload_n 0, 1) := zk_42 (by decide +kernel)
theorem dX12_yearsLater_26 : decode cX12_yearsLater 26 = .ok (.iload_n 1, 1) := zk_27 (by decide +kernel)
theorem dX12_yearsLater_27 : decode cX12_yearsLater 27 = .ok (.lload_n 2, 1) := zk_32 (by decide +kernel)
theorem dX12_yearsLater_28 : decode cX12_yearsLater 28 = .ok (.lload 4, 2) := zk_22 (by decide +kernel)
theorem dX12_yearsLater_30 : decode cX12_yearsLater 30 = .ok (.invokevirtual 275, 3) := zk_182 (by decide +kernel)
theorem dX12_yearsLater_33 : decode cX12_yearsLater 33 = .ok (.lreturn, 1) := zk_173 (by decide +kernel)
theorem dX12_yearsLater_9 : decode cX12_yearsLater 9 = .ok (.ldc2_w 273, 3) := zk_20 (by decide +kernel)
theorem dX12_yearsLater_12 : decode cX12_yearsLater 12 = .ok (.lreturn, 1) := zk_173 (by decide +kernel)
set_option maxHeartbeats 4000000 in
set_option maxRecDepth 100000 in
theorem gq_yearsLater (l : Launch) (dC : Nat → ClassId) (dI : Nat → Nat → Nat) (mq : Nat) (g : Nat → Int32) (gl : Nat → Int64) (rf : Nat → Nat) (ck : Nat → ClassId) (f_landHas : Nat → Int32) (a0 : Int32) (a1 : Int64) (a2 : Int64) (hl0 : ¬ a0 < 0) (hl7 : a0 ≤ 7) : Met l yX12_yearsLater (Cond.code yX12_yearsLater cX12_yearsLater 6 (some .long) :: wsL_law) ({ frames := 3, cells := 0, slots := 0, locals := 73 }) (va_Pc [.ref mq, .int a0, .long a1, .long a2] (fun U => va_P (dC, dI) vwCl [(mq, .inr (12, mF g gl rf)), (eA0 (rf 29) (ck 29) 24 f_landHas)] U.heap ∧ va_K (dC, dI) vwCl [((ck 29), .int)] U)) (vp_Sl (fun r => r = fq_yearsLater f_landHas a0 a1 a2)) 0 0 (fun _ => False) := by
  refine Met.ofW (cc := cX12_yearsLater) (maxL := 6) (ret := (some .long)) (by decide) rfl ?_
  intro p e s m args below meth c s₁ B hml hv
  obtain ⟨rfl, hP, hK⟩ := hv
  have hx := B.exec
  have hb := B.bytes
  have hr := B.returns
  have hts := atoms_spec (ws := Cond.code yX12_yearsLater cX12_yearsLater 6 (some .long) :: wsL_law) B.pre
  have htw : ∀ w ∈ wsL_law, w.before _ s = true := fun w h => hts w (List.mem_cons_of_mem _ h)
  have hown : s.vm.findClass RX12 = some m.cls := findClass_of_methodNamed B.named
  have hlocks := B.notSynchronized
  have hl := lv_entry ([.ref mq, .int a0, .long a1, .long a2]) (n := 6) (Nat.le_of_ble_eq_true rfl)
  rw [lg_entry_eq]
  generalize (lg_sl ([.ref mq, .int a0, .long a1, .long a2]) ++ List.replicate (6 - (lg_sl ([.ref mq, .int a0, .long a1, .long a2])).length) Slot.unset).toArray = ls at hl ⊢
  have hl : lv_has ls 6 [(0, .ref mq), (1, .int a0), (2, .long a1), (4, .long a2)] := hl
  refine lv_aload_n hx hb dX12_yearsLater_0 rfl (lv_at hl 0 rfl) ?_
  refine lv_iload_n hx hb dX12_yearsLater_1 rfl (lv_at hl 1 rfl) ?_
  refine lv_lload_n hx hb dX12_yearsLater_2 rfl (lv_at hl 2 rfl) ?_
  have hPc := hP.sub (ws' := [(mq, .inr (12, mF g gl rf)), (eA0 (rf 29) (ck 29) 24 f_landHas)]) [0, 1] rfl
  have hKc := hK.sub (tys' := [((ck 29), .int)]) [0] rfl
  refine vp_callSi (W.runV (As := [.int a0, .long a1]) (rest := []) ⟨hx, hb, hml, hown, htw⟩ (gq_isYear l dC dI mq g gl rf ck f_landHas a0 a1 hl0 hl7) (cwV 2 htw (xg_V (ck_29 _ (List.mem_of_getElem? (i := 23) rfl)) (ck_30 _ (List.mem_of_getElem? (i := 0) rfl)) (ck_30 _ (List.mem_of_getElem? (i := 1) rfl)) (ck_1 _ (List.mem_of_getElem? (i := 5) rfl)) (ck_30 _ (List.mem_of_getElem? (i := 2) rfl))) rfl rfl rfl (by exact ⟨rfl, hdc_14.1, hdc_14.2, hdd_42⟩) ⟨Nat.le_of_ble_eq_true rfl, Nat.le_of_ble_eq_true rfl⟩) ⟨fun a U g mk q => by obtain ⟨q0, qP, qK⟩ := q; exact ⟨q0, qP, va_K.moved (u := U) (U := U.calling g mk a) (Vm.Alike.refl U.vm) qK⟩, va_recv hKc hPc (ci := 12) (q0 := 0) rfl rfl, fun U hU hW => ⟨rfl, by rw [hU]; exact hPc, va_K.moved hW.alike hKc⟩⟩ rfl rfl hl.1 rfl (lv_room (Nat.le_of_ble_eq_true rfl)) dX12_yearsLater_3 ⟨Nat.le_of_ble_eq_true rfl, Nat.le_of_ble_eq_true rfl⟩) (fun r_1 hw => ?_)
  try dsimp only at hw
  obtain ⟨hw, hb_r_1⟩ := hw
  have hq_r_1 : r_1 = (fq_isYear f_landHas a0 a1) := hw
  refine lv_if_ne (tgt := 13) hx hb dX12_yearsLater_6 (by decide) (fun c_2 => ?_) (fun c_2 => ?_)
  · refine lv_aload_n hx hb dX12_yearsLater_13 rfl (lv_at hl 0 rfl) ?_
    refine lv_iload_n hx hb dX12_yearsLater_14 rfl (lv_at hl 1 rfl) ?_
    refine lv_lload_n hx hb dX12_yearsLater_15 rfl (lv_at hl 2 rfl) ?_
    have hPc := hP.sub (ws' := [(mq, .inr (12, mF g gl rf)), (eA0 (rf 29) (ck 29) 24 f_landHas)]) [0, 1] rfl
    have hKc := hK.sub (tys' := [((ck 29), .int)]) [0] rfl
    refine vp_callSl (W.runV (As := [.int a0, .long a1]) (rest := []) ⟨hx, hb, hml, hown, htw⟩ (gq_lengthOf l dC dI mq g gl rf ck f_landHas a0 a1 hl0 hl7) (cwV 2 htw (xg_V (ck_30 _ (List.mem_of_getElem? (i := 3) rfl)) (ck_30 _ (List.mem_of_getElem? (i := 4) rfl)) (ck_30 _ (List.mem_of_getElem? (i := 5) rfl)) (ck_1 _ (List.mem_of_getElem? (i := 5) rfl)) (ck_30 _ (List.mem_of_getElem? (i := 6) rfl))) rfl rfl rfl (by exact ⟨rfl, hdc_14.1, hdc_14.2, hdd_41⟩) ⟨Nat.le_of_ble_eq_true rfl, Nat.le_of_ble_eq_true rfl⟩) ⟨fun a U g mk q => by obtain ⟨q0, qP, qK⟩ := q; exact ⟨q0, qP, va_K.moved (u := U) (U := U.calling g mk a) (Vm.Alike.refl U.vm) qK⟩, va_recv hKc hPc (ci := 12) (q0 := 0) rfl rfl, fun U hU hW => ⟨rfl, by rw [hU]; exact hPc, va_K.moved hW.alike hKc⟩⟩ rfl rfl hl.1 rfl (lv_room (Nat.le_of_ble_eq_true rfl)) dX12_yearsLater_16 ⟨Nat.le_of_ble_eq_true rfl, Nat.le_of_ble_eq_true rfl⟩) (fun r_3 hw => ?_)
    try dsimp only at hw
    have hq_r_3 : r_3 = (fq_lengthOf f_landHas a0 a1) := hw
    refine lv_lload hx hb dX12_yearsLater_19 (lv_at hl 3 rfl) ?_
    refine W.lcmp hx hb dX12_yearsLater_21 ?_
    refine lv_if_lt (tgt := 34) hx hb dX12_yearsLater_22 (by decide) (fun c_4 => ?_) (fun c_4 => ?_)
    · refine lv_aload_n hx hb dX12_yearsLater_34 rfl (lv_at hl 0 rfl) ?_
      refine lv_iload_n hx hb dX12_yearsLater_35 rfl (lv_at hl 1 rfl) ?_
      refine lv_lload_n hx hb dX12_yearsLater_36 rfl (lv_at hl 2 rfl) ?_
      refine lv_lconst (v := 1) hx hb dX12_yearsLater_37 (by decide) ?_
      refine lv_ladd hx hb dX12_yearsLater_38 ?_
      refine lv_lconst (v := 1) hx hb dX12_yearsLater_39 (by decide) ?_
      have hPc := hP.sub (ws' := [(mq, .inr (12, mF g gl rf)), (eA0 (rf 29) (ck 29) 24 f_landHas)]) [0, 1] rfl
      have hKc := hK.sub (tys' := [((ck 29), .int)]) [0] rfl
      refine vp_callSl (W.runV (As := [.int a0, .long (a1 + 1), .long 1]) (rest := []) ⟨hx, hb, hml, hown, htw⟩ (gq_countOf l dC dI mq g gl rf ck f_landHas a0 (a1 + 1) (1 : Int64) hl0 hl7) (cwV 3 htw (xg_V (ck_29 _ (List.mem_of_getElem? (i := 18) rfl)) (ck_29 _ (List.mem_of_getElem? (i := 19) rfl)) (ck_29 _ (List.mem_of_getElem? (i := 20) rfl)) (ck_1 _ (List.mem_of_getElem? (i := 5) rfl)) (ck_29 _ (List.mem_of_getElem? (i := 21) rfl))) rfl rfl rfl (by exact ⟨rfl, hdc_14.1, hdc_14.2, hdd_11⟩) ⟨Nat.le_of_ble_eq_true rfl, Nat.le_of_ble_eq_true rfl⟩) ⟨fun a U g mk q => by obtain ⟨q0, qP, qK⟩ := q; exact ⟨q0, qP, va_K.moved (u := U) (U := U.calling g mk a) (Vm.Alike.refl U.vm) qK⟩, va_recv hKc hPc (ci := 12) (q0 := 0) rfl rfl, fun U hU hW => ⟨rfl, by rw [hU]; exact hPc, va_K.moved hW.alike hKc⟩⟩ rfl rfl hl.1 rfl (lv_room (Nat.le_of_ble_eq_true rfl)) dX12_yearsLater_40 ⟨Nat.le_of_ble_eq_true rfl, Nat.le_of_ble_eq_true rfl⟩) (fun r_5 hw => ?_)
      try dsimp only at hw
      have hq_r_5 : r_5 = (fq_countOf f_landHas a0 (a1 + 1) (1 : Int64)) := hw
      exact W.lret (v := r_5) hx hb hr (fun t ht hW => ⟨r_5, rfl, (Eq.symm ((by rw [fq_yearsLater]; (try rw [← hq_r_1]); (try rw [xL_eq]); (try rw [if_neg c_2]); (try rw [← hq_r_3]); (try rw [xL_eq]); (try rw [if_pos c_4]); (try rw [← hq_r_5]); (try rw [xL_eq]); try rfl))), ht⟩) (fun _ h => by cases h) dX12_yearsLater_43
    · refine lv_aload_n hx hb dX12_yearsLater_25 rfl (lv_at hl 0 rfl) ?_
      refine lv_iload_n hx hb dX12_yearsLater_26 rfl (lv_at hl 1 rfl) ?_
      refine lv_lload_n hx hb dX12_yearsLater_27 rfl (lv_at hl 2 rfl) ?_
      refine lv_lload hx hb dX12_yearsLater_28 (lv_at hl 3 rfl) ?_
      have hPc := hP.sub (ws' := [(mq, .inr (12, mF g gl rf)), (eA0 (rf 29) (ck 29) 24 f_landHas)]) [0, 1] rfl
      have hKc := hK.sub (tys' := [((ck 29), .int)]) [0] rfl
      refine vp_callSl (W.runV (As := [.int a0, .long a1, .long a2]) (rest := []) ⟨hx, hb, hml, hown, htw⟩ (gq_countOf l dC dI mq g gl rf ck f_landHas a0 a1 a2 hl0 hl7) (cwV 3 htw (xg_V (ck_29 _ (List.mem_of_getElem? (i := 18) rfl)) (ck_29 _ (List.mem_of_getElem? (i := 19) rfl)) (ck_29 _ (List.mem_of_getElem? (i := 20) rfl)) (ck_1 _ (List.mem_of_getElem? (i := 5) rfl)) (ck_29 _ (List.mem_of_getElem? (i := 21) rfl))) rfl rfl rfl (by exact ⟨rfl, hdc_14.1, hdc_14.2, hdd_11⟩) ⟨Nat.le_of_ble_eq_true rfl, Nat.le_of_ble_eq_true rfl⟩) ⟨fun a U g mk q => by obtain ⟨q0, qP, qK⟩ := q; exact ⟨q0, qP, va_K.moved (u := U) (U := U.calling g mk a) (Vm.Alike.refl U.vm) qK⟩, va_recv hKc hPc (ci := 12) (q0 := 0) rfl rfl, fun U hU hW => ⟨rfl, by rw [hU]; exact hPc, va_K.moved hW.alike hKc⟩⟩ rfl rfl hl.1 rfl (lv_room (Nat.le_of_ble_eq_true rfl)) dX12_yearsLater_30 ⟨Nat.le_of_ble_eq_true rfl, Nat.le_of_ble_eq_true rfl⟩) (fun r_6 hw => ?_)
      try dsimp only at hw
      have hq_r_6 : r_6 = (fq_countOf f_landHas a0 a1 a2) := hw
      exact W.lret (v := r_6) hx hb hr (fun t ht hW => ⟨r_6, rfl, (Eq.symm ((by rw [fq_yearsLater]; (try rw [← hq_r_1]); (try rw [xL_eq]); (try rw [if_neg c_2]); (try rw [← hq_r_3]); (try rw [xL_eq]); (try rw [if_neg c_4]); (try rw [← hq_r_6]); (try rw [xL_eq]); try rfl))), ht⟩) (fun _ h => by cases h) dX12_yearsLater_33
  · refine lv_ldc2 (v := (-1)) hx hb hown (htw _ (ck_29 _ (List.mem_of_getElem? (i := 13) rfl))) dX12_yearsLater_9 ?_
    exact W.lret (v := (-1)) hx hb hr (fun t ht hW => ⟨(-1), rfl, (Eq.symm ((by rw [fq_yearsLater]; (try rw [← hq_r_1]); (try rw [xL_eq]); (try rw [if_pos c_2]); try rfl))), ht⟩) (fun _ h => by cases h) dX12_yearsLater_12
