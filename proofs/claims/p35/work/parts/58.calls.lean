def fq_look (f_landHas : Nat → Int32) (a0 : Int32) (a1 : Int32) (m_lands : Int32) : Int32 × (Int32) := (xL ((fq_isLand a0 m_lands)) (fun r_1 => (if r_1 = 0 then (xL ((fq_fails (1 : Int32))) (fun X_16 => (X_16.1, X_16.2))) else (xL ((fq_isIn a1 (0 : Int32) (2 : Int32))) (fun r_5 => (if r_5 = 0 then (xL ((fq_fails (2 : Int32))) (fun X_12 => (X_12.1, X_12.2))) else (f_landHas (((3 * a0) + a1).toNatClampNeg), (0 : Int32))))))))
theorem gq_look_s0 {y0 : Int32} {y1 : Int32} {y2 : Int32} (h0 : ¬ (y0 < 0)) (h1 : y0 < y2) (h2 : ¬ (y1 < 0)) (h3 : ¬ (2 < y1)) (h4 : ¬ (y2 < 0)) (h5 : y2 ≤ 4) : ¬ (((3 * y0) + y1) < 0) ∧ ¬ (24 ≤ ((3 * y0) + y1)) := by lia
theorem dX12_look_0 : decode cX12_look 0 = .ok (.aload_n 0, 1) := zk_42 (by decide +kernel)
theorem dX12_look_1 : decode cX12_look 1 = .ok (.iconst 0, 1) := zk_3 (by decide +kernel)
theorem dX12_look_2 : decode cX12_look 2 = .ok (.putfield 119, 3) := zk_181 (by decide +kernel)
theorem dX12_look_5 : decode cX12_look 5 = .ok (.aload_n 0, 1) := zk_42 (by decide +kernel)
theorem dX12_look_6 : decode cX12_look 6 = .ok (.iload_n 1, 1) := zk_27 (by decide +kernel)
theorem dX12_look_7 : decode cX12_look 7 = .ok (.invokevirtual 404, 3) := zk_182 (by decide +kernel)
theorem dX12_look_10 : decode cX12_look 10 = .ok (.ifCond .ne 9, 3) := zk_154 (by decide +kernel)
theorem dX12_look_19 : decode cX12_look 19 = .ok (.iload_n 2, 1) := zk_28 (by decide +kernel)
theorem dX12_look_20 : decode cX12_look 20 = .ok (.iconst 0, 1) := zk_3 (by decide +kernel)
theorem dX12_look_21 : decode cX12_look 21 = .ok (.iconst 2, 1) := zk_5 (by decide +kernel)
theorem dX12_look_22 : decode cX12_look 22 = .ok (.invokestatic 166, 3) := zk_184 (by decide +kernel)
theorem dX12_look_25 : decode cX12_look 25 = .ok (.ifCond .eq 16, 3) := zk_153 (by decide +kernel)
theorem dX12_look_41 : decode cX12_look 41 = .ok (.aload_n 0, 1) := zk_42 (by decide +kernel)
theorem dX12_look_42 : decode cX12_look 42 = .ok (.iconst 2, 1) := zk_5 (by decide +kernel)
theorem dX12_look_43 : decode cX12_look 43 = .ok (.invokevirtual 407, 3) := zk_182 (by decide +kernel)
theorem dX12_look_46 : decode cX12_look 46 = .ok (.ireturn, 1) := zk_172 (by decide +kernel)
theorem dX12_look_28 : decode cX12_look 28 = .ok (.aload_n 0, 1) := zk_42 (by decide +kernel)
theorem dX12_look_29 : decode cX12_look 29 = .ok (.getfield 26, 3) := zk_180 (by decide +kernel)
theorem dX12_look_32 : decode cX12_look 32 = .ok (.iconst 3, 1) := zk_6 (by decide +kernel)
theorem dX12_look_33 : decode cX12_look 33 = .ok (.iload_n 1, 1) := zk_27 (by decide +kernel)
theorem dX12_look_34 : decode cX12_look 34 = .ok (.imul, 1) := zk_104 (by decide +kernel)
theorem dX12_look_35 : decode cX12_look 35 = .ok (.iload_n 2, 1) := zk_28 (by decide +kernel)
theorem dX12_look_36 : decode cX12_look 36 = .ok (.iadd, 1) := zk_96 (by decide +kernel)
theorem dX12_look_37 : decode cX12_look 37 = .ok (.iaload, 1) := zk_46 (by decide +kernel)
theorem dX12_look_38 : decode cX12_look 38 = .ok (.goto 8, 3) := zk_167 (by decide +kernel)
theorem dX12_look_13 : decode cX12_look 13 = .ok (.aload_n 0, 1) := zk_42 (by decide +kernel)
theorem dX12_look_14 : decode cX12_look 14 = .ok (.iconst 1, 1) := zk_4 (by decide +kernel)
theorem dX12_look_15 : decode cX12_look 15 = .ok (.invokevirtual 407, 3) := zk_182 (by decide +kernel)
theorem dX12_look_18 : decode cX12_look 18 = .ok (.ireturn, 1) := zk_172 (by decide +kernel)
set_option maxHeartbeats 4000000 in
set_option maxRecDepth 100000 in
theorem gq_look (l : Launch) (dC : Nat → ClassId) (dI : Nat → Nat → Nat) (mq : Nat) (g : Nat → Int32) (gl : Nat → Int64) (rf : Nat → Nat) (ck : Nat → ClassId) (f_landHas : Nat → Int32) (a0 : Int32) (a1 : Int32) (sz : Nat) (hln0 : ¬ (g 12) < 0) (hln4 : (g 12) ≤ 4) : Met l yX12_look (Cond.code yX12_look cX12_look 3 (some .int) :: wsL_law) ({ frames := 1, cells := 0, slots := 0, locals := 22 }) (va_Pc [.ref mq, .int a0, .int a1] (fun U => U.heap.size = sz ∧ va_P (dC, dI) vwCl [(mq, .inr (12, mF g gl rf)), (eA0 (rf 29) (ck 29) 24 f_landHas)] U.heap ∧ va_K (dC, dI) vwCl [((ck 29), .int)] U ∧ va_D (fun _ => True) [(mq, .inr (12, mF g gl rf)), (eA0 (rf 29) (ck 29) 24 f_landHas)])) (va_Qi (fun (r : Int32) (u : (Int32)) => r = (fq_look f_landHas a0 a1 (g 12)).1 ∧ u = (fq_look f_landHas a0 a1 (g 12)).2) (fun (u : (Int32)) t => va_P (dC, dI) vwCl [(mq, .inr (12, mF (upd g 2 u) gl rf)), (eA0 (rf 29) (ck 29) 24 f_landHas)] t.heap ∧ va_K (dC, dI) vwCl [] t ∧ va_D (va_A [(mq, .inr (12, mF g gl rf)), (eA0 (rf 29) (ck 29) 24 f_landHas)] sz) [(mq, .inr (12, mF (upd g 2 u) gl rf)), (eA0 (rf 29) (ck 29) 24 f_landHas)]) (va_A [(mq, .inr (12, mF g gl rf)), (eA0 (rf 29) (ck 29) 24 f_landHas)] sz)) 0 0 (va_A [(mq, .inr (12, mF g gl rf)), (eA0 (rf 29) (ck 29) 24 f_landHas)] sz) := by
  refine Met.ofW (cc := cX12_look) (maxL := 3) (ret := (some .int)) (by decide) rfl ?_
  intro p e s m args below meth c s₁ B hml hv
  obtain ⟨rfl, hsz, hP, hK, hD0⟩ := hv
  have hx := B.exec
  have hb := B.bytes
  have hr := B.returns
  have hts := atoms_spec (ws := Cond.code yX12_look cX12_look 3 (some .int) :: wsL_law) B.pre
  have htw : ∀ w ∈ wsL_law, w.before _ s = true := fun w h => hts w (List.mem_cons_of_mem _ h)
  have hown : s.vm.findClass RX12 = some m.cls := findClass_of_methodNamed B.named
  have hlocks := B.notSynchronized
  subst hsz
  have hD := hD0.self (sz := s.heap.size)
  generalize hAe : va_A [(mq, .inr (12, mF g gl rf)), (eA0 (rf 29) (ck 29) 24 f_landHas)] s.heap.size = A at hD ⊢
  have hA : ∀ q : Nat, s.heap.size ≤ q → A q := fun q h => by rw [← hAe]; exact Or.inr h
  obtain ⟨H, rH⟩ : ∃ z : Heap, z = s.heap := ⟨_, rfl⟩
  have hS : va_S A s.heap H [] := by rw [rH]; exact va_S.rf
  have hP : va_P (dC, dI) vwCl [(mq, .inr (12, mF g gl rf)), (eA0 (rf 29) (ck 29) 24 f_landHas)] H := by rw [rH]; exact hP
  rw [← rH]
  have hl := lv_entry ([.ref mq, .int a0, .int a1]) (n := 3) (Nat.le_of_ble_eq_true rfl)
  rw [lg_entry_eq]
  generalize (lg_sl ([.ref mq, .int a0, .int a1]) ++ List.replicate (3 - (lg_sl ([.ref mq, .int a0, .int a1])).length) Slot.unset).toArray = ls at hl ⊢
  have hl : lv_has ls 3 [(0, .ref mq), (1, .int a0), (2, .int a1)] := hl
  refine lv_aload_n hx hb dX12_look_0 rfl (lv_at hl 0 rfl) ?_
  refine lv_iconst (v := 0) hx hb dX12_look_1 (by decide) ?_
  refine va_put (D := (dC, dI)) (ci := 12) (v := .int 0) (ty := tyX12 2) (C := RX12) (T := TX12) (N := 76) hx hb htw inlX12 tyX12 tyX12_ok nmX12 hown hK hP hD hS 0 rfl rfl 2 (by decide) (htw _ (ck_12 _ (List.mem_of_getElem? (i := 16) rfl))) (fun _ h9 => h9) rfl (tyX12_ok 2 (by decide)) rfl rfl (Nat.le_of_ble_eq_true rfl) dX12_look_2 (fun H locs hP hD hS => ?_)
  obtain ⟨hP, hD⟩ := zre [(mq, .inr (12, mF (upd g 2 0) gl rf)), (eA0 (rf 29) (ck 29) 24 f_landHas)] hP hD rfl
  refine lv_aload_n hx hb dX12_look_5 rfl (lv_at hl 0 rfl) ?_
  refine lv_iload_n hx hb dX12_look_6 rfl (lv_at hl 1 rfl) ?_
  have hPc := hP.sub (ws' := [(mq, .inr (12, mF (upd g 2 0) gl rf))]) [0] rfl
  have hKc := hK.sub (tys' := []) [] rfl
  refine vp_callSi (W.runV (As := [.int a0]) (rest := []) ⟨hx, hb, hml, hown, htw⟩ (gq_isLand l dC dI mq (upd g 2 0) gl rf a0) (cwV 1 htw (xg_V (ck_34 _ (List.mem_of_getElem? (i := 2) rfl)) (ck_34 _ (List.mem_of_getElem? (i := 3) rfl)) (ck_34 _ (List.mem_of_getElem? (i := 4) rfl)) (ck_1 _ (List.mem_of_getElem? (i := 5) rfl)) (ck_34 _ (List.mem_of_getElem? (i := 5) rfl))) rfl rfl rfl (by exact ⟨rfl, hdc_14.1, hdc_14.2, hdd_26⟩) ⟨Nat.le_of_ble_eq_true rfl, Nat.le_of_ble_eq_true rfl⟩) ⟨fun a U g mk q => by obtain ⟨q0, qP, qK⟩ := q; exact ⟨q0, qP, va_K.moved (u := U) (U := U.calling g mk a) (Vm.Alike.refl U.vm) qK⟩, va_recv hKc hPc (ci := 12) (q0 := 0) rfl rfl, fun U hU hW => ⟨rfl, by rw [hU]; exact hPc, va_K.moved hW.alike hKc⟩⟩ rfl rfl hl.1 rfl (lv_room (Nat.le_of_ble_eq_true rfl)) dX12_look_7 ⟨Nat.le_of_ble_eq_true rfl, Nat.le_of_ble_eq_true rfl⟩) (fun r_1 hw => ?_)
  try dsimp only at hw
  obtain ⟨hw, hb_r_1, hp_2, hp_3⟩ := hw
  have hq_r_1 : r_1 = (fq_isLand a0 (g 12)) := hw
  refine lv_if_ne (tgt := 19) hx hb dX12_look_10 (by decide) (fun c_4 => ?_) (fun c_4 => ?_)
  · refine lv_iload_n hx hb dX12_look_19 rfl (lv_at hl 2 rfl) ?_
    refine lv_iconst (v := 0) hx hb dX12_look_20 (by decide) ?_
    refine lv_iconst (v := 2) hx hb dX12_look_21 (by decide) ?_
    have hPc := hP.sub (ws' := []) [] rfl
    have hKc := hK.sub (tys' := []) [] rfl
    refine vp_callSi (W.runS (As := [.int a1, .int 0, .int 2]) (rest := []) ⟨hx, hb, hml, hown, htw⟩ (gq_isIn l dC dI a1 (0 : Int32) (2 : Int32)) (va_cwS 3 htw (xg_S (ck_26 _ (List.mem_of_getElem? (i := 17) rfl)) (ck_26 _ (List.mem_of_getElem? (i := 18) rfl)) (ck_1 _ (List.mem_of_getElem? (i := 5) rfl)) (ck_26 _ (List.mem_of_getElem? (i := 19) rfl))) rfl rfl rfl (by exact ⟨hdc_14.1, hdc_14.2, hdd_38⟩) ⟨Nat.le_of_ble_eq_true rfl, Nat.le_of_ble_eq_true rfl⟩) ⟨fun a U g mk q => by obtain ⟨q0, qP, qK⟩ := q; exact ⟨q0, qP, va_K.moved (u := U) (U := U.calling g mk a) (Vm.Alike.refl U.vm) qK⟩, fun U hU hW => ⟨rfl, by rw [hU]; exact hPc, va_K.moved hW.alike hKc⟩⟩ rfl rfl hl.1 rfl (lv_room (Nat.le_of_ble_eq_true rfl)) dX12_look_22 ⟨Nat.le_of_ble_eq_true rfl, Nat.le_of_ble_eq_true rfl⟩) (fun r_5 hw => ?_)
    try dsimp only at hw
    obtain ⟨hw, hb_r_5, hp_6, hp_7⟩ := hw
    have hq_r_5 : r_5 = (fq_isIn a1 (0 : Int32) (2 : Int32)) := hw
    refine lv_if_eq (tgt := 41) hx hb dX12_look_25 (by decide) (fun c_8 => ?_) (fun c_8 => ?_)
    · refine lv_aload_n hx hb dX12_look_41 rfl (lv_at hl 0 rfl) ?_
      refine lv_iconst (v := 2) hx hb dX12_look_42 (by decide) ?_
      obtain ⟨hPc, hDc, hFc, hCc⟩ := zsub3 (ws' := [(mq, .inr (12, mF (upd g 2 0) gl rf))]) hP hD hS hA [0] (by decide) rfl
      have hKc := hK.sub (tys' := []) [] rfl
      refine va_calli (va_runV (As := [.int 2]) (rest := []) ⟨hx, hb, hml, hown, htw⟩ (gq_fails l dC dI mq (upd g 2 0) gl rf (2 : Int32) H.size) (cwV 1 htw (xg_V (ck_34 _ (List.mem_of_getElem? (i := 6) rfl)) (ck_34 _ (List.mem_of_getElem? (i := 7) rfl)) (ck_34 _ (List.mem_of_getElem? (i := 8) rfl)) (ck_1 _ (List.mem_of_getElem? (i := 5) rfl)) (ck_34 _ (List.mem_of_getElem? (i := 9) rfl))) rfl rfl rfl (by exact ⟨rfl, hdc_14.1, hdc_14.2, hdd_2⟩) ⟨Nat.le_of_ble_eq_true rfl, Nat.le_of_ble_eq_true rfl⟩) ⟨fun a U g mk q => by obtain ⟨q0, q1, qP, qK, qD⟩ := q; exact ⟨q0, q1, qP, va_K.moved (u := U) (U := U.calling g mk a) (Vm.Alike.refl U.vm) qK, qD⟩, va_recv hKc hPc (ci := 12) (q0 := 0) rfl rfl, fun U hU hW => ⟨rfl, by rw [hU], by rw [hU]; exact hPc, va_K.moved hW.alike hKc, hDc.weaken (fun _ _ _ _ => trivial)⟩⟩ rfl rfl hl.1 rfl (lv_room (Nat.le_of_ble_eq_true rfl)) dX12_look_43 ⟨Nat.le_of_ble_eq_true rfl, Nat.le_of_ble_eq_true rfl⟩) hS (fun q _ h => hFc q h) hFc (fun r_9 u_10 t H1 locs ht hvm hw hB hz1 hk1 hS => ?_)
      try dsimp only at hw
      obtain ⟨hP1, hK1, hD1⟩ := hB
      rw [ht] at hP1
      have hK1 := va_K.moved hvm.symm hK1
      have hK1 : va_K (dC, dI) vwCl [] s := hK1
      obtain ⟨hP, hD⟩ := va_join (wr := [(eA0 (rf 29) (ck 29) 24 f_landHas)]) (w1 := [(mq, .inr (12, mF (upd g 2 u_10) gl rf))]) hP hD [0] [1] hCc rfl (by decide) (by decide) hk1 hFc hP1 hD1
      generalize H1 = H at hP hS ⊢
      obtain ⟨hP, hD⟩ := zre [(eA0 (rf 29) (ck 29) 24 f_landHas), (mq, .inr (12, mF (upd g 2 u_10) gl rf))] hP hD rfl
      refine W.widen (k := 0) (n := 0) (by omega) (by omega) ?_
      obtain ⟨X_12, hX_12⟩ : ∃ X9 : Int32 × (Int32), X9 = (fq_fails (2 : Int32)) := ⟨_, rfl⟩
      have hq_r_9 : r_9 = X_12.1 := by rw [hX_12]; exact hw.1
      have hq_u_10 : u_10 = X_12.2 := by rw [hX_12]; exact hw.2
      refine W.widen (k := 0) (n := 0) (by omega) (by omega) ?_
      obtain ⟨hP9, hD9⟩ := zsub2 (ws' := [(mq, .inr (12, mF (upd g 2 u_10) gl rf)), (eA0 (rf 29) (ck 29) 24 f_landHas)]) hP hD [1, 0] (by decide) rfl
      have hK9 := hK.sub (tys' := []) [] rfl
      exact W.iret (v := r_9) hx hb hr (fun t ht hW => ⟨⟨r_9, u_10, rfl, ((fun e9 => ⟨by rw [e9], by rw [e9]⟩ : fq_look f_landHas a0 a1 (g 12) = (r_9, u_10) → _) ((by rw [fq_look]; (try rw [← hq_r_1]); (try rw [xL_eq]); (try rw [if_neg c_4]); (try rw [← hq_r_5]); (try rw [xL_eq]); (try rw [if_pos c_8]); (try rw [← hX_12]); (try rw [xL_eq]); (try rw [← hq_r_9]); (try rw [← hq_u_10]); try rfl))), by rw [ht]; exact hP9, va_K.moved hW.alike hK9, hD9⟩, hS.F ht⟩) hS.2.2 dX12_look_46
    · refine lv_aload_n hx hb dX12_look_28 rfl (lv_at hl 0 rfl) ?_
      refine va_get (D := (dC, dI)) (ci := 12) (v := .ref (rf 29)) (C := RX12) (T := TX12) (N := 76) hx hb htw inlX12 hown hK hP 0 rfl rfl 29 (by decide) (htw _ (ck_9 _ (List.mem_of_getElem? (i := 9) rfl))) (fun _ h9 => h9) rfl dX12_look_29 ?_
      refine lv_iconst (v := 3) hx hb dX12_look_32 (by decide) ?_
      refine lv_iload_n hx hb dX12_look_33 rfl (lv_at hl 1 rfl) ?_
      refine lv_imul hx hb dX12_look_34 ?_
      refine lv_iload_n hx hb dX12_look_35 rfl (lv_at hl 2 rfl) ?_
      refine lv_iadd hx hb dX12_look_36 ?_
      refine va_iald hx hb hK hP 1 0 rfl rfl (xg_inr (N := 24) rfl (gq_look_s0 (y0 := a0) (y1 := a1) (y2 := g 12) (hp_2.resolve_left c_4) (hp_3.resolve_left c_4) (hp_6.resolve_left c_8) (hp_7.resolve_left c_8) hln0 hln4).1 (gq_look_s0 (y0 := a0) (y1 := a1) (y2 := g 12) (hp_2.resolve_left c_4) (hp_3.resolve_left c_4) (hp_6.resolve_left c_8) (hp_7.resolve_left c_8) hln0 hln4).2) dX12_look_37 ?_
      refine lv_goto (tgt := 46) hx hb dX12_look_38 (by decide) ?_
      refine W.widen (k := 0) (n := 0) (by omega) (by omega) ?_
      obtain ⟨hP9, hD9⟩ := zsub2 (ws' := [(mq, .inr (12, mF (upd g 2 0) gl rf)), (eA0 (rf 29) (ck 29) 24 f_landHas)]) hP hD [0, 1] (by decide) rfl
      have hK9 := hK.sub (tys' := []) [] rfl
      exact W.iret (v := f_landHas (((3 * a0) + a1).toNatClampNeg)) hx hb hr (fun t ht hW => ⟨⟨f_landHas (((3 * a0) + a1).toNatClampNeg), 0, rfl, ((fun e9 => ⟨by rw [e9], by rw [e9]⟩ : fq_look f_landHas a0 a1 (g 12) = (f_landHas (((3 * a0) + a1).toNatClampNeg), (0 : Int32)) → _) ((by rw [fq_look]; (try rw [← hq_r_1]); (try rw [xL_eq]); (try rw [if_neg c_4]); (try rw [← hq_r_5]); (try rw [xL_eq]); (try rw [if_neg c_8]); try rfl))), by rw [ht]; exact hP9, va_K.moved hW.alike hK9, hD9⟩, hS.F ht⟩) hS.2.2 dX12_look_46
  · refine lv_aload_n hx hb dX12_look_13 rfl (lv_at hl 0 rfl) ?_
    refine lv_iconst (v := 1) hx hb dX12_look_14 (by decide) ?_
    obtain ⟨hPc, hDc, hFc, hCc⟩ := zsub3 (ws' := [(mq, .inr (12, mF (upd g 2 0) gl rf))]) hP hD hS hA [0] (by decide) rfl
    have hKc := hK.sub (tys' := []) [] rfl
    refine va_calli (va_runV (As := [.int 1]) (rest := []) ⟨hx, hb, hml, hown, htw⟩ (gq_fails l dC dI mq (upd g 2 0) gl rf (1 : Int32) H.size) (cwV 1 htw (xg_V (ck_34 _ (List.mem_of_getElem? (i := 6) rfl)) (ck_34 _ (List.mem_of_getElem? (i := 7) rfl)) (ck_34 _ (List.mem_of_getElem? (i := 8) rfl)) (ck_1 _ (List.mem_of_getElem? (i := 5) rfl)) (ck_34 _ (List.mem_of_getElem? (i := 9) rfl))) rfl rfl rfl (by exact ⟨rfl, hdc_14.1, hdc_14.2, hdd_2⟩) ⟨Nat.le_of_ble_eq_true rfl, Nat.le_of_ble_eq_true rfl⟩) ⟨fun a U g mk q => by obtain ⟨q0, q1, qP, qK, qD⟩ := q; exact ⟨q0, q1, qP, va_K.moved (u := U) (U := U.calling g mk a) (Vm.Alike.refl U.vm) qK, qD⟩, va_recv hKc hPc (ci := 12) (q0 := 0) rfl rfl, fun U hU hW => ⟨rfl, by rw [hU], by rw [hU]; exact hPc, va_K.moved hW.alike hKc, hDc.weaken (fun _ _ _ _ => trivial)⟩⟩ rfl rfl hl.1 rfl (lv_room (Nat.le_of_ble_eq_true rfl)) dX12_look_15 ⟨Nat.le_of_ble_eq_true rfl, Nat.le_of_ble_eq_true rfl⟩) hS (fun q _ h => hFc q h) hFc (fun r_13 u_14 t H1 locs ht hvm hw hB hz1 hk1 hS => ?_)
    try dsimp only at hw
    obtain ⟨hP1, hK1, hD1⟩ := hB
    rw [ht] at hP1
    have hK1 := va_K.moved hvm.symm hK1
    have hK1 : va_K (dC, dI) vwCl [] s := hK1
    obtain ⟨hP, hD⟩ := va_join (wr := [(eA0 (rf 29) (ck 29) 24 f_landHas)]) (w1 := [(mq, .inr (12, mF (upd g 2 u_14) gl rf))]) hP hD [0] [1] hCc rfl (by decide) (by decide) hk1 hFc hP1 hD1
    generalize H1 = H at hP hS ⊢
    obtain ⟨hP, hD⟩ := zre [(eA0 (rf 29) (ck 29) 24 f_landHas), (mq, .inr (12, mF (upd g 2 u_14) gl rf))] hP hD rfl
    refine W.widen (k := 0) (n := 0) (by omega) (by omega) ?_
    obtain ⟨X_16, hX_16⟩ : ∃ X9 : Int32 × (Int32), X9 = (fq_fails (1 : Int32)) := ⟨_, rfl⟩
    have hq_r_13 : r_13 = X_16.1 := by rw [hX_16]; exact hw.1
    have hq_u_14 : u_14 = X_16.2 := by rw [hX_16]; exact hw.2
    refine W.widen (k := 0) (n := 0) (by omega) (by omega) ?_
    obtain ⟨hP9, hD9⟩ := zsub2 (ws' := [(mq, .inr (12, mF (upd g 2 u_14) gl rf)), (eA0 (rf 29) (ck 29) 24 f_landHas)]) hP hD [1, 0] (by decide) rfl
    have hK9 := hK.sub (tys' := []) [] rfl
    exact W.iret (v := r_13) hx hb hr (fun t ht hW => ⟨⟨r_13, u_14, rfl, ((fun e9 => ⟨by rw [e9], by rw [e9]⟩ : fq_look f_landHas a0 a1 (g 12) = (r_13, u_14) → _) ((by rw [fq_look]; (try rw [← hq_r_1]); (try rw [xL_eq]); (try rw [if_pos c_4]); (try rw [← hX_16]); (try rw [xL_eq]); (try rw [← hq_r_13]); (try rw [← hq_u_14]); try rfl))), by rw [ht]; exact hP9, va_K.moved hW.alike hK9, hD9⟩, hS.F ht⟩) hS.2.2 dX12_look_18

def fq_length (f_landHas : Nat → Int32) (a0 : Int32) (a1 : Int32) (m_lands : Int32) : Int64 × (Int32) := (xL ((fq_isLand a0 m_lands)) (fun r_1 => (if r_1 = 0 then ((-1 : Int64), (0 : Int32)) else (xL ((fq_isAsked f_landHas a0 a1.toInt64)) (fun r_5 => (if r_5 = 0 then ((-1 : Int64), (0 : Int32)) else (xL ((fq_lengthOf f_landHas a0 a1.toInt64)) (fun r_7 => (r_7, (0 : Int32))))))))))
theorem gq_length_s0 {y0 : Int32} {y1 : Int32} (h0 : ¬ (y0 < 0)) (h1 : y0 < y1) (h2 : ¬ (y1 < 0)) (h3 : y1 ≤ 4) : ¬ (y0 < 0) := h0
theorem gq_length_s1 {y0 : Int32} {y1 : Int32} (h0 : ¬ (y0 < 0)) (h1 : y0 < y1) (h2 : ¬ (y1 < 0)) (h3 : y1 ≤ 4) : y0 ≤ 7 := by lia
theorem gq_length_s2 {y0 : Int32} {y1 : Int32} (h0 : ¬ (y0 < 0)) (h1 : y0 < y1) (h2 : ¬ (y1 < 0)) (h3 : y1 ≤ 4) : ¬ (y0 < 0) := h0
theorem gq_length_s3 {y0 : Int32} {y1 : Int32} (h0 : ¬ (y0 < 0)) (h1 : y0 < y1) (h2 : ¬ (y1 < 0)) (h3 : y1 ≤ 4) : y0 ≤ 7 := by lia
theorem dX12_length_0 : decode cX12_length 0 = .ok (.aload_n 0, 1) := zk_42 (by decide +kernel)
theorem dX12_length_1 : decode cX12_length 1 = .ok (.iconst 0, 1) := zk_3 (by decide +kernel)
theorem dX12_length_2 : decode cX12_length 2 = .ok (.putfield 119, 3) := zk_181 (by decide +kernel)
theorem dX12_length_5 : decode cX12_length 5 = .ok (.aload_n 0, 1) := zk_42 (by decide +kernel)
theorem dX12_length_6 : decode cX12_length 6 = .ok (.iload_n 1, 1) := zk_27 (by decide +kernel)
theorem dX12_length_7 : decode cX12_length 7 = .ok (.invokevirtual 404, 3) := zk_182 (by decide +kernel)
theorem dX12_length_10 : decode cX12_length 10 = .ok (.ifCond .eq 23, 3) := zk_153 (by decide +kernel)
theorem dX12_length_33 : decode cX12_length 33 = .ok (.ldc2_w 273, 3) := zk_20 (by decide +kernel)
theorem dX12_length_36 : decode cX12_length 36 = .ok (.lreturn, 1) := zk_173 (by decide +kernel)
theorem dX12_length_13 : decode cX12_length 13 = .ok (.aload_n 0, 1) := zk_42 (by decide +kernel)
theorem dX12_length_14 : decode cX12_length 14 = .ok (.iload_n 1, 1) := zk_27 (by decide +kernel)
theorem dX12_length_15 : decode cX12_length 15 = .ok (.iload_n 2, 1) := zk_28 (by decide +kernel)
theorem dX12_length_16 : decode cX12_length 16 = .ok (.i2l, 1) := zk_133 (by decide +kernel)
theorem dX12_length_17 : decode cX12_length 17 = .ok (.invokevirtual 410, 3) := zk_182 (by decide +kernel)
theorem dX12_length_20 : decode cX12_length 20 = .ok (.ifCond .eq 13, 3) := zk_153 (by decide +kernel)
theorem dX12_length_23 : decode cX12_length 23 = .ok (.aload_n 0, 1) := zk_42 (by decide +kernel)
theorem dX12_length_24 : decode cX12_length 24 = .ok (.iload_n 1, 1) := zk_27 (by decide +kernel)
theorem dX12_length_25 : decode cX12_length 25 = .ok (.iload_n 2, 1) := zk_28 (by decide +kernel)
theorem dX12_length_26 : decode cX12_length 26 = .ok (.i2l, 1) := zk_133 (by decide +kernel)
theorem dX12_length_27 : decode cX12_length 27 = .ok (.invokevirtual 375, 3) := zk_182 (by decide +kernel)
theorem dX12_length_30 : decode cX12_length 30 = .ok (.goto 6, 3) := zk_167 (by decide +kernel)
set_option maxHeartbeats 4000000 in
set_option maxRecDepth 100000 in
theorem gq_length (l : Launch) (dC : Nat → ClassId) (dI : Nat → Nat → Nat) (mq : Nat) (g : Nat → Int32) (gl : Nat → Int64) (rf : Nat → Nat) (ck : Nat → ClassId) (f_landHas : Nat → Int32) (a0 : Int32) (a1 : Int32) (sz : Nat) (hln0 : ¬ (g 12) < 0) (hln4 : (g 12) ≤ 4) : Met l yX12_length (Cond.code yX12_length cX12_length 3 (some .long) :: wsL_law) ({ frames := 3, cells := 0, slots := 0, locals := 69 }) (va_Pc [.ref mq, .int a0, .int a1] (fun U => U.heap.size = sz ∧ va_P (dC, dI) vwCl [(mq, .inr (12, mF g gl rf)), (eA0 (rf 29) (ck 29) 24 f_landHas)] U.heap ∧ va_K (dC, dI) vwCl [((ck 29), .int)] U ∧ va_D (fun _ => True) [(mq, .inr (12, mF g gl rf)), (eA0 (rf 29) (ck 29) 24 f_landHas)])) (va_Ql (fun (r : Int64) (u : (Int32)) => r = (fq_length f_landHas a0 a1 (g 12)).1 ∧ u = (fq_length f_landHas a0 a1 (g 12)).2) (fun (u : (Int32)) t => va_P (dC, dI) vwCl [(mq, .inr (12, mF (upd g 2 u) gl rf)), (eA0 (rf 29) (ck 29) 24 f_landHas)] t.heap ∧ va_K (dC, dI) vwCl [] t ∧ va_D (va_A [(mq, .inr (12, mF g gl rf)), (eA0 (rf 29) (ck 29) 24 f_landHas)] sz) [(mq, .inr (12, mF (upd g 2 u) gl rf)), (eA0 (rf 29) (ck 29) 24 f_landHas)]) (va_A [(mq, .inr (12, mF g gl rf)), (eA0 (rf 29) (ck 29) 24 f_landHas)] sz)) 0 0 (va_A [(mq, .inr (12, mF g gl rf)), (eA0 (rf 29) (ck 29) 24 f_landHas)] sz) := by
  refine Met.ofW (cc := cX12_length) (maxL := 3) (ret := (some .long)) (by decide) rfl ?_
  intro p e s m args below meth c s₁ B hml hv
  obtain ⟨rfl, hsz, hP, hK, hD0⟩ := hv
  have hx := B.exec
  have hb := B.bytes
  have hr := B.returns
  have hts := atoms_spec (ws := Cond.code yX12_length cX12_length 3 (some .long) :: wsL_law) B.pre
  have htw : ∀ w ∈ wsL_law, w.before _ s = true := fun w h => hts w (List.mem_cons_of_mem _ h)
  have hown : s.vm.findClass RX12 = some m.cls := findClass_of_methodNamed B.named
  have hlocks := B.notSynchronized
  subst hsz
  have hD := hD0.self (sz := s.heap.size)
  generalize hAe : va_A [(mq, .inr (12, mF g gl rf)), (eA0 (rf 29) (ck 29) 24 f_landHas)] s.heap.size = A at hD ⊢
  have hA : ∀ q : Nat, s.heap.size ≤ q → A q := fun q h => by rw [← hAe]; exact Or.inr h
  obtain ⟨H, rH⟩ : ∃ z : Heap, z = s.heap := ⟨_, rfl⟩
  have hS : va_S A s.heap H [] := by rw [rH]; exact va_S.rf
  have hP : va_P (dC, dI) vwCl [(mq, .inr (12, mF g gl rf)), (eA0 (rf 29) (ck 29) 24 f_landHas)] H := by rw [rH]; exact hP
  rw [← rH]
  have hl := lv_entry ([.ref mq, .int a0, .int a1]) (n := 3) (Nat.le_of_ble_eq_true rfl)
  rw [lg_entry_eq]
  generalize (lg_sl ([.ref mq, .int a0, .int a1]) ++ List.replicate (3 - (lg_sl ([.ref mq, .int a0, .int a1])).length) Slot.unset).toArray = ls at hl ⊢
  have hl : lv_has ls 3 [(0, .ref mq), (1, .int a0), (2, .int a1)] := hl
  refine lv_aload_n hx hb dX12_length_0 rfl (lv_at hl 0 rfl) ?_
  refine lv_iconst (v := 0) hx hb dX12_length_1 (by decide) ?_
  refine va_put (D := (dC, dI)) (ci := 12) (v := .int 0) (ty := tyX12 2) (C := RX12) (T := TX12) (N := 76) hx hb htw inlX12 tyX12 tyX12_ok nmX12 hown hK hP hD hS 0 rfl rfl 2 (by decide) (htw _ (ck_12 _ (List.mem_of_getElem? (i := 16) rfl))) (fun _ h9 => h9) rfl (tyX12_ok 2 (by decide)) rfl rfl (Nat.le_of_ble_eq_true rfl) dX12_length_2 (fun H locs hP hD hS => ?_)
  obtain ⟨hP, hD⟩ := zre [(mq, .inr (12, mF (upd g 2 0) gl rf)), (eA0 (rf 29) (ck 29) 24 f_landHas)] hP hD rfl
  refine lv_aload_n hx hb dX12_length_5 rfl (lv_at hl 0 rfl) ?_
  refine lv_iload_n hx hb dX12_length_6 rfl (lv_at hl 1 rfl) ?_
  have hPc := hP.sub (ws' := [(mq, .inr (12, mF (upd g 2 0) gl rf))]) [0] rfl
  have hKc := hK.sub (tys' := []) [] rfl
  refine vp_callSi (W.runV (As := [.int a0]) (rest := []) ⟨hx, hb, hml, hown, htw⟩ (gq_isLand l dC dI mq (upd g 2 0) gl rf a0) (cwV 1 htw (xg_V (ck_34 _ (List.mem_of_getElem? (i := 2) rfl)) (ck_34 _ (List.mem_of_getElem? (i := 3) rfl)) (ck_34 _ (List.mem_of_getElem? (i := 4) rfl)) (ck_1 _ (List.mem_of_getElem? (i := 5) rfl)) (ck_34 _ (List.mem_of_getElem? (i := 5) rfl))) rfl rfl rfl (by exact ⟨rfl, hdc_14.1, hdc_14.2, hdd_26⟩) ⟨Nat.le_of_ble_eq_true rfl, Nat.le_of_ble_eq_true rfl⟩) ⟨fun a U g mk q => by obtain ⟨q0, qP, qK⟩ := q; exact ⟨q0, qP, va_K.moved (u := U) (U := U.calling g mk a) (Vm.Alike.refl U.vm) qK⟩, va_recv hKc hPc (ci := 12) (q0 := 0) rfl rfl, fun U hU hW => ⟨rfl, by rw [hU]; exact hPc, va_K.moved hW.alike hKc⟩⟩ rfl rfl hl.1 rfl (lv_room (Nat.le_of_ble_eq_true rfl)) dX12_length_7 ⟨Nat.le_of_ble_eq_true rfl, Nat.le_of_ble_eq_true rfl⟩) (fun r_1 hw => ?_)
  try dsimp only at hw
  obtain ⟨hw, hb_r_1, hp_2, hp_3⟩ := hw
  have hq_r_1 : r_1 = (fq_isLand a0 (g 12)) := hw
  refine lv_if_eq (tgt := 33) hx hb dX12_length_10 (by decide) (fun c_4 => ?_) (fun c_4 => ?_)
  · refine lv_ldc2 (v := (-1)) hx hb hown (htw _ (ck_29 _ (List.mem_of_getElem? (i := 13) rfl))) dX12_length_33 ?_
    refine W.widen (k := 0) (n := 0) (by omega) (by omega) ?_
    have hP9 := hP
    have hD9 := hD
    have hK9 := hK.sub (tys' := []) [] rfl
    exact W.lret (v := (-1)) hx hb hr (fun t ht hW => ⟨⟨(-1), 0, rfl, ((fun e9 => ⟨by rw [e9], by rw [e9]⟩ : fq_length f_landHas a0 a1 (g 12) = ((-1 : Int64), (0 : Int32)) → _) ((by rw [fq_length]; (try rw [← hq_r_1]); (try rw [xL_eq]); (try rw [if_pos c_4]); try rfl))), by rw [ht]; exact hP9, va_K.moved hW.alike hK9, hD9⟩, hS.F ht⟩) hS.2.2 dX12_length_36
  · refine lv_aload_n hx hb dX12_length_13 rfl (lv_at hl 0 rfl) ?_
    refine lv_iload_n hx hb dX12_length_14 rfl (lv_at hl 1 rfl) ?_
    refine lv_iload_n hx hb dX12_length_15 rfl (lv_at hl 2 rfl) ?_
    refine lv_i2l (v := a1.toInt64) hx hb dX12_length_16 rfl ?_
    have hPc := hP.sub (ws' := [(mq, .inr (12, mF (upd g 2 0) gl rf)), (eA0 (rf 29) (ck 29) 24 f_landHas)]) [0, 1] rfl
    have hKc := hK.sub (tys' := [((ck 29), .int)]) [0] rfl
    refine vp_callSi (W.runV (As := [.int a0, .long a1.toInt64]) (rest := []) ⟨hx, hb, hml, hown, htw⟩ (gq_isAsked l dC dI mq (upd g 2 0) gl rf ck f_landHas a0 a1.toInt64 (gq_length_s0 (y0 := a0) (y1 := g 12) (hp_2.resolve_left c_4) (hp_3.resolve_left c_4) hln0 hln4) (gq_length_s1 (y0 := a0) (y1 := g 12) (hp_2.resolve_left c_4) (hp_3.resolve_left c_4) hln0 hln4)) (cwV 2 htw (xg_V (ck_35 _ (List.mem_of_getElem? (i := 2) rfl)) (ck_35 _ (List.mem_of_getElem? (i := 3) rfl)) (ck_35 _ (List.mem_of_getElem? (i := 4) rfl)) (ck_1 _ (List.mem_of_getElem? (i := 5) rfl)) (ck_35 _ (List.mem_of_getElem? (i := 5) rfl))) rfl rfl rfl (by exact ⟨rfl, hdc_14.1, hdc_14.2, hdd_42⟩) ⟨Nat.le_of_ble_eq_true rfl, Nat.le_of_ble_eq_true rfl⟩) ⟨fun a U g mk q => by obtain ⟨q0, qP, qK⟩ := q; exact ⟨q0, qP, va_K.moved (u := U) (U := U.calling g mk a) (Vm.Alike.refl U.vm) qK⟩, va_recv hKc hPc (ci := 12) (q0 := 0) rfl rfl, fun U hU hW => ⟨rfl, by rw [hU]; exact hPc, va_K.moved hW.alike hKc⟩⟩ rfl rfl hl.1 rfl (lv_room (Nat.le_of_ble_eq_true rfl)) dX12_length_17 ⟨Nat.le_of_ble_eq_true rfl, Nat.le_of_ble_eq_true rfl⟩) (fun r_5 hw => ?_)
    try dsimp only at hw
    obtain ⟨hw, hb_r_5⟩ := hw
    have hq_r_5 : r_5 = (fq_isAsked f_landHas a0 a1.toInt64) := hw
    refine lv_if_eq (tgt := 33) hx hb dX12_length_20 (by decide) (fun c_6 => ?_) (fun c_6 => ?_)
    · refine lv_ldc2 (v := (-1)) hx hb hown (htw _ (ck_29 _ (List.mem_of_getElem? (i := 13) rfl))) dX12_length_33 ?_
      refine W.widen (k := 0) (n := 0) (by omega) (by omega) ?_
      have hP9 := hP
      have hD9 := hD
      have hK9 := hK.sub (tys' := []) [] rfl
      exact W.lret (v := (-1)) hx hb hr (fun t ht hW => ⟨⟨(-1), 0, rfl, ((fun e9 => ⟨by rw [e9], by rw [e9]⟩ : fq_length f_landHas a0 a1 (g 12) = ((-1 : Int64), (0 : Int32)) → _) ((by rw [fq_length]; (try rw [← hq_r_1]); (try rw [xL_eq]); (try rw [if_neg c_4]); (try rw [← hq_r_5]); (try rw [xL_eq]); (try rw [if_pos c_6]); try rfl))), by rw [ht]; exact hP9, va_K.moved hW.alike hK9, hD9⟩, hS.F ht⟩) hS.2.2 dX12_length_36
    · refine lv_aload_n hx hb dX12_length_23 rfl (lv_at hl 0 rfl) ?_
      refine lv_iload_n hx hb dX12_length_24 rfl (lv_at hl 1 rfl) ?_
      refine lv_iload_n hx hb dX12_length_25 rfl (lv_at hl 2 rfl) ?_
      refine lv_i2l (v := a1.toInt64) hx hb dX12_length_26 rfl ?_
      have hPc := hP.sub (ws' := [(mq, .inr (12, mF (upd g 2 0) gl rf)), (eA0 (rf 29) (ck 29) 24 f_landHas)]) [0, 1] rfl
      have hKc := hK.sub (tys' := [((ck 29), .int)]) [0] rfl
      refine vp_callSl (W.runV (As := [.int a0, .long a1.toInt64]) (rest := []) ⟨hx, hb, hml, hown, htw⟩ (gq_lengthOf l dC dI mq (upd g 2 0) gl rf ck f_landHas a0 a1.toInt64 (gq_length_s2 (y0 := a0) (y1 := g 12) (hp_2.resolve_left c_4) (hp_3.resolve_left c_4) hln0 hln4) (gq_length_s3 (y0 := a0) (y1 := g 12) (hp_2.resolve_left c_4) (hp_3.resolve_left c_4) hln0 hln4)) (cwV 2 htw (xg_V (ck_30 _ (List.mem_of_getElem? (i := 3) rfl)) (ck_30 _ (List.mem_of_getElem? (i := 4) rfl)) (ck_30 _ (List.mem_of_getElem? (i := 5) rfl)) (ck_1 _ (List.mem_of_getElem? (i := 5) rfl)) (ck_30 _ (List.mem_of_getElem? (i := 6) rfl))) rfl rfl rfl (by exact ⟨rfl, hdc_14.1, hdc_14.2, hdd_41⟩) ⟨Nat.le_of_ble_eq_true rfl, Nat.le_of_ble_eq_true rfl⟩) ⟨fun a U g mk q => by obtain ⟨q0, qP, qK⟩ := q; exact ⟨q0, qP, va_K.moved (u := U) (U := U.calling g mk a) (Vm.Alike.refl U.vm) qK⟩, va_recv hKc hPc (ci := 12) (q0 := 0) rfl rfl, fun U hU hW => ⟨rfl, by rw [hU]; exact hPc, va_K.moved hW.alike hKc⟩⟩ rfl rfl hl.1 rfl (lv_room (Nat.le_of_ble_eq_true rfl)) dX12_length_27 ⟨Nat.le_of_ble_eq_true rfl, Nat.le_of_ble_eq_true rfl⟩) (fun r_7 hw => ?_)
      try dsimp only at hw
      have hq_r_7 : r_7 = (fq_lengthOf f_landHas a0 a1.toInt64) := hw
      refine lv_goto (tgt := 36) hx hb dX12_length_30 (by decide) ?_
      refine W.widen (k := 0) (n := 0) (by omega) (by omega) ?_
      have hP9 := hP
      have hD9 := hD
      have hK9 := hK.sub (tys' := []) [] rfl
      exact W.lret (v := r_7) hx hb hr (fun t ht hW => ⟨⟨r_7, 0, rfl, ((fun e9 => ⟨by rw [e9], by rw [e9]⟩ : fq_length f_landHas a0 a1 (g 12) = (r_7, (0 : Int32)) → _) ((by rw [fq_length]; (try rw [← hq_r_1]); (try rw [xL_eq]); (try rw [if_neg c_4]); (try rw [← hq_r_5]); (try rw [xL_eq]); (try rw [if_neg c_6]); (try rw [← hq_r_7]); (try rw [xL_eq]); try rfl))), by rw [ht]; exact hP9, va_K.moved hW.alike hK9, hD9⟩, hS.F ht⟩) hS.2.2 dX12_length_36

def fq_date (f_landHas : Nat → Int32) (a0 : Int32) (a1 : Int64) (a2 : Int32) (m_lands : Int32) (m_gotYear : Int64) (m_gotDay : Int64) : Int64 × (Int32) × (Int64) × (Int64) := (xL ((fq_isLand a0 m_lands)) (fun r_1 => (if r_1 = 0 then ((-1 : Int64), (0 : Int32), m_gotYear, m_gotDay) else (xL ((fq_isCount a1)) (fun r_5 => (if r_5 = 0 then ((-1 : Int64), (0 : Int32), m_gotYear, m_gotDay) else (xL ((fq_isIn a2 (0 : Int32) (1 : Int32))) (fun r_7 => (if r_7 = 0 then ((-1 : Int64), (0 : Int32), m_gotYear, m_gotDay) else (xL ((fq_date1 f_landHas a0 a1 m_gotYear m_gotDay)) (fun X_15 => (if X_15.1 = 0 then ((-1 : Int64), (0 : Int32), X_15.2.1, X_15.2.2) else (if a2 = 0 then (X_15.2.1, (0 : Int32), X_15.2.1, X_15.2.2) else (X_15.2.2, (0 : Int32), X_15.2.1, X_15.2.2))))))))))))))
theorem gq_date_s0 {y0 : Int32} {y1 : Int32} (h0 : ¬ (y0 < 0)) (h1 : y0 < y1) (h2 : ¬ (y1 < 0)) (h3 : y1 ≤ 4) : ¬ (y0 < 0) := h0
theorem gq_date_s1 {y0 : Int32} {y1 : Int32} (h0 : ¬ (y0 < 0)) (h1 : y0 < y1) (h2 : ¬ (y1 < 0)) (h3 : y1 ≤ 4) : y0 ≤ 7 := by lia
theorem gq_date_s2 {y0 : Int64} (h0 : ¬ (y0 < 0)) (h1 : y0 ≤ 1000000000000) : ¬ (y0 < 0) := h0
theorem gq_date_s3 {y0 : Int64} (h0 : ¬ (y0 < 0)) (h1 : y0 ≤ 1000000000000) : y0 ≤ 2000000000000 := by lia
theorem gq_date_s4 {y0 : Int32} {y1 : Int32} (h0 : ¬ (y0 < 0)) (h1 : y0 < y1) (h2 : ¬ (y1 < 0)) (h3 : y1 ≤ 4) : ¬ (y0 < 0) ∧ y0 < y1 := ⟨h0, h1⟩
theorem dX12_date_0 : decode cX12_date 0 = .ok (.aload_n 0, 1) := zk_42 (by decide +kernel)
theorem dX12_date_1 : decode cX12_date 1 = .ok (.iconst 0, 1) := zk_3 (by decide +kernel)
theorem dX12_date_2 : decode cX12_date 2 = .ok (.putfield 119, 3) := zk_181 (by decide +kernel)
theorem dX12_date_5 : decode cX12_date 5 = .ok (.aload_n 0, 1) := zk_42 (by decide +kernel)
theorem dX12_date_6 : decode cX12_date 6 = .ok (.iload_n 1, 1) := zk_27 (by decide +kernel)
theorem dX12_date_7 : decode cX12_date 7 = .ok (.invokevirtual 404, 3) := zk_182 (by decide +kernel)
theorem dX12_date_10 : decode cX12_date 10 = .ok (.ifCond .eq 29, 3) := zk_153 (by decide +kernel)
theorem dX12_date_39 : decode cX12_date 39 = .ok (.ldc2_w 273, 3) := zk_20 (by decide +kernel)
theorem dX12_date_42 : decode cX12_date 42 = .ok (.lreturn, 1) := zk_173 (by decide +kernel)
theorem dX12_date_13 : decode cX12_date 13 = .ok (.lload_n 2, 1) := zk_32 (by decide +kernel)
theorem dX12_date_14 : decode cX12_date 14 = .ok (.invokestatic 413, 3) := zk_184 (by decide +kernel)
theorem dX12_date_17 : decode cX12_date 17 = .ok (.ifCond .eq 22, 3) := zk_153 (by decide +kernel)
theorem dX12_date_20 : decode cX12_date 20 = .ok (.iload 4, 2) := zk_21 (by decide +kernel)
theorem dX12_date_22 : decode cX12_date 22 = .ok (.iconst 0, 1) := zk_3 (by decide +kernel)
theorem dX12_date_23 : decode cX12_date 23 = .ok (.iconst 1, 1) := zk_4 (by decide +kernel)
theorem dX12_date_24 : decode cX12_date 24 = .ok (.invokestatic 166, 3) := zk_184 (by decide +kernel)
theorem dX12_date_27 : decode cX12_date 27 = .ok (.ifCond .eq 12, 3) := zk_153 (by decide +kernel)
theorem dX12_date_30 : decode cX12_date 30 = .ok (.aload_n 0, 1) := zk_42 (by decide +kernel)
theorem dX12_date_31 : decode cX12_date 31 = .ok (.iload_n 1, 1) := zk_27 (by decide +kernel)
theorem dX12_date_32 : decode cX12_date 32 = .ok (.lload_n 2, 1) := zk_32 (by decide +kernel)
theorem dX12_date_33 : decode cX12_date 33 = .ok (.invokevirtual 416, 3) := zk_182 (by decide +kernel)
theorem dX12_date_36 : decode cX12_date 36 = .ok (.ifCond .ne 7, 3) := zk_154 (by decide +kernel)
theorem dX12_date_43 : decode cX12_date 43 = .ok (.iload 4, 2) := zk_21 (by decide +kernel)
theorem dX12_date_45 : decode cX12_date 45 = .ok (.ifCond .ne 10, 3) := zk_154 (by decide +kernel)
theorem dX12_date_55 : decode cX12_date 55 = .ok (.aload_n 0, 1) := zk_42 (by decide +kernel)
theorem dX12_date_56 : decode cX12_date 56 = .ok (.getfield 399, 3) := zk_180 (by decide +kernel)
theorem dX12_date_59 : decode cX12_date 59 = .ok (.lreturn, 1) := zk_173 (by decide +kernel)
theorem dX12_date_48 : decode cX12_date 48 = .ok (.aload_n 0, 1) := zk_42 (by decide +kernel)
theorem dX12_date_49 : decode cX12_date 49 = .ok (.getfield 396, 3) := zk_180 (by decide +kernel)
theorem dX12_date_52 : decode cX12_date 52 = .ok (.goto 7, 3) := zk_167 (by decide +kernel)
set_option maxHeartbeats 4000000 in
set_option maxRecDepth 100000 in
theorem gq_date (l : Launch) (dC : Nat → ClassId) (dI : Nat → Nat → Nat) (mq : Nat) (g : Nat → Int32) (gl : Nat → Int64) (rf : Nat → Nat) (ck : Nat → ClassId) (f_landHas : Nat → Int32) (a0 : Int32) (a1 : Int64) (a2 : Int32) (sz : Nat) (hln0 : ¬ (g 12) < 0) (hln4 : (g 12) ≤ 4) (hLZ : ∀ k : Int32, ¬ k < 0 → k < (g 12) → ¬ (f_landHas ((3 * k).toNatClampNeg)) = 0) : Met l yX12_date (Cond.code yX12_date cX12_date 5 (some .long) :: wsL_law) ({ frames := 2, cells := 0, slots := 0, locals := 56 }) (va_Pc [.ref mq, .int a0, .long a1, .int a2] (fun U => U.heap.size = sz ∧ va_P (dC, dI) vwCl [(mq, .inr (12, mF g gl rf)), (eA0 (rf 29) (ck 29) 24 f_landHas)] U.heap ∧ va_K (dC, dI) vwCl [((ck 29), .int)] U ∧ va_D (fun _ => True) [(mq, .inr (12, mF g gl rf)), (eA0 (rf 29) (ck 29) 24 f_landHas)])) (va_Ql (fun (r : Int64) (u : (Int32) × (Int64) × (Int64)) => r = (fq_date f_landHas a0 a1 a2 (g 12) (gl 53) (gl 54)).1 ∧ u = (fq_date f_landHas a0 a1 a2 (g 12) (gl 53) (gl 54)).2) (fun (u : (Int32) × (Int64) × (Int64)) t => va_P (dC, dI) vwCl [(mq, .inr (12, mF (upd g 2 u.1) (vp_updL (vp_updL gl 53 u.2.1) 54 u.2.2) rf)), (eA0 (rf 29) (ck 29) 24 f_landHas)] t.heap ∧ va_K (dC, dI) vwCl [] t ∧ va_D (va_A [(mq, .inr (12, mF g gl rf)), (eA0 (rf 29) (ck 29) 24 f_landHas)] sz) [(mq, .inr (12, mF (upd g 2 u.1) (vp_updL (vp_updL gl 53 u.2.1) 54 u.2.2) rf)), (eA0 (rf 29) (ck 29) 24 f_landHas)]) (va_A [(mq, .inr (12, mF g gl rf)), (eA0 (rf 29) (ck 29) 24 f_landHas)] sz)) 0 0 (va_A [(mq, .inr (12, mF g gl rf)), (eA0 (rf 29) (ck 29) 24 f_landHas)] sz) := by
  refine Met.ofW (cc := cX12_date) (maxL := 5) (ret := (some .long)) (by decide) rfl ?_
  intro p e s m args below meth c s₁ B hml hv
  obtain ⟨rfl, hsz, hP, hK, hD0⟩ := hv
  have hx := B.exec
  have hb := B.bytes
  have hr := B.returns
  have hts := atoms_spec (ws := Cond.code yX12_date cX12_date 5 (some .long) :: wsL_law) B.pre
  have htw : ∀ w ∈ wsL_law, w.before _ s = true := fun w h => hts w (List.mem_cons_of_mem _ h)
  have hown : s.vm.findClass RX12 = some m.cls := findClass_of_methodNamed B.named
  have hlocks := B.notSynchronized
  subst hsz
  have hD := hD0.self (sz := s.heap.size)
  generalize hAe : va_A [(mq, .inr (12, mF g gl rf)), (eA0 (rf 29) (ck 29) 24 f_landHas)] s.heap.size = A at hD ⊢
  have hA : ∀ q : Nat, s.heap.size ≤ q → A q := fun q h => by rw [← hAe]; exact Or.inr h
  obtain ⟨H, rH⟩ : ∃ z : Heap, z = s.heap := ⟨_, rfl⟩
  have hS : va_S A s.heap H [] := by rw [rH]; exact va_S.rf
  have hP : va_P (dC, dI) vwCl [(mq, .inr (12, mF g gl rf)), (eA0 (rf 29) (ck 29) 24 f_landHas)] H := by rw [rH]; exact hP
  rw [← rH]
  have hl := lv_entry ([.ref mq, .int a0, .long a1, .int a2]) (n := 5) (Nat.le_of_ble_eq_true rfl)
  rw [lg_entry_eq]
  generalize (lg_sl ([.ref mq, .int a0, .long a1, .int a2]) ++ List.replicate (5 - (lg_sl ([.ref mq, .int a0, .long a1, .int a2])).length) Slot.unset).toArray = ls at hl ⊢
  have hl : lv_has ls 5 [(0, .ref mq), (1, .int a0), (2, .long a1), (4, .int a2)] := hl
  refine lv_aload_n hx hb dX12_date_0 rfl (lv_at hl 0 rfl) ?_
  refine lv_iconst (v := 0) hx hb dX12_date_1 (by decide) ?_
  refine va_put (D := (dC, dI)) (ci := 12) (v := .int 0) (ty := tyX12 2) (C := RX12) (T := TX12) (N := 76) hx hb htw inlX12 tyX12 tyX12_ok nmX12 hown hK hP hD hS 0 rfl rfl 2 (by decide) (htw _ (ck_12 _ (List.mem_of_getElem? (i := 16) rfl))) (fun _ h9 => h9) rfl (tyX12_ok 2 (by decide)) rfl rfl (Nat.le_of_ble_eq_true rfl) dX12_date_2 (fun H locs hP hD hS => ?_)
  obtain ⟨hP, hD⟩ := zre [(mq, .inr (12, mF (upd g 2 0) gl rf)), (eA0 (rf 29) (ck 29) 24 f_landHas)] hP hD rfl
  refine lv_aload_n hx hb dX12_date_5 rfl (lv_at hl 0 rfl) ?_
  refine lv_iload_n hx hb dX12_date_6 rfl (lv_at hl 1 rfl) ?_
  have hPc := hP.sub (ws' := [(mq, .inr (12, mF (upd g 2 0) gl rf))]) [0] rfl
  have hKc := hK.sub (tys' := []) [] rfl
  refine vp_callSi (W.runV (As := [.int a0]) (rest := []) ⟨hx, hb, hml, hown, htw⟩ (gq_isLand l dC dI mq (upd g 2 0) gl rf a0) (cwV 1 htw (xg_V (ck_34 _ (List.mem_of_getElem? (i := 2) rfl)) (ck_34 _ (List.mem_of_getElem? (i := 3) rfl)) (ck_34 _ (List.mem_of_getElem? (i := 4) rfl)) (ck_1 _ (List.mem_of_getElem? (i := 5) rfl)) (ck_34 _ (List.mem_of_getElem? (i := 5) rfl))) rfl rfl rfl (by exact ⟨rfl, hdc_14.1, hdc_14.2, hdd_26⟩) ⟨Nat.le_of_ble_eq_true rfl, Nat.le_of_ble_eq_true rfl⟩) ⟨fun a U g mk q => by obtain ⟨q0, qP, qK⟩ := q; exact ⟨q0, qP, va_K.moved (u := U) (U := U.calling g mk a) (Vm.Alike.refl U.vm) qK⟩, va_recv hKc hPc (ci := 12) (q0 := 0) rfl rfl, fun U hU hW => ⟨rfl, by rw [hU]; exact hPc, va_K.moved hW.alike hKc⟩⟩ rfl rfl hl.1 rfl (lv_room (Nat.le_of_ble_eq_true rfl)) dX12_date_7 ⟨Nat.le_of_ble_eq_true rfl, Nat.le_of_ble_eq_true rfl⟩) (fun r_1 hw => ?_)
  try dsimp only at hw
  obtain ⟨hw, hb_r_1, hp_2, hp_3⟩ := hw
  have hq_r_1 : r_1 = (fq_isLand a0 (g 12)) := hw
  refine lv_if_eq (tgt := 39) hx hb dX12_date_10 (by decide) (fun c_4 => ?_) (fun c_4 => ?_)
  · refine lv_ldc2 (v := (-1)) hx hb hown (htw _ (ck_29 _ (List.mem_of_getElem? (i := 13) rfl))) dX12_date_39 ?_
    refine W.widen (k := 0) (n := 0) (by omega) (by omega) ?_
    have hP9 := hP
    have hD9 := hD
    have hK9 := hK.sub (tys' := []) [] rfl
    exact W.lret (v := (-1)) hx hb hr (fun t ht hW => ⟨⟨(-1), (0, (gl 53), (gl 54)), rfl, ((fun e9 => ⟨by rw [e9], by rw [e9]⟩ : fq_date f_landHas a0 a1 a2 (g 12) (gl 53) (gl 54) = ((-1 : Int64), (0 : Int32), (gl 53), (gl 54)) → _) ((by rw [fq_date]; (try rw [← hq_r_1]); (try rw [xL_eq]); (try rw [if_pos c_4]); try rfl))), by rw [ht]; exact hP9, va_K.moved hW.alike hK9, hD9⟩, hS.F ht⟩) hS.2.2 dX12_date_42
  · refine lv_lload_n hx hb dX12_date_13 rfl (lv_at hl 2 rfl) ?_
    have hPc := hP.sub (ws' := []) [] rfl
    have hKc := hK.sub (tys' := []) [] rfl
    refine vp_callSi (W.runS (As := [.long a1]) (rest := []) ⟨hx, hb, hml, hown, htw⟩ (gq_isCount l dC dI a1) (va_cwS 1 htw (xg_S (ck_36 _ (List.mem_of_getElem? (i := 8) rfl)) (ck_36 _ (List.mem_of_getElem? (i := 9) rfl)) (ck_1 _ (List.mem_of_getElem? (i := 5) rfl)) (ck_36 _ (List.mem_of_getElem? (i := 10) rfl))) rfl rfl rfl (by exact ⟨hdc_14.1, hdc_14.2, hdd_1⟩) ⟨Nat.le_of_ble_eq_true rfl, Nat.le_of_ble_eq_true rfl⟩) ⟨fun a U g mk q => by obtain ⟨q0, qP, qK⟩ := q; exact ⟨q0, qP, va_K.moved (u := U) (U := U.calling g mk a) (Vm.Alike.refl U.vm) qK⟩, fun U hU hW => ⟨rfl, by rw [hU]; exact hPc, va_K.moved hW.alike hKc⟩⟩ rfl rfl hl.1 rfl (lv_room (Nat.le_of_ble_eq_true rfl)) dX12_date_14 ⟨Nat.le_of_ble_eq_true rfl, Nat.le_of_ble_eq_true rfl⟩) (fun r_5 hw => ?_)
    try dsimp only at hw
    obtain ⟨hw, hb_r_5⟩ := hw
    have hq_r_5 : r_5 = (fq_isCount a1) := hw
    refine lv_if_eq (tgt := 39) hx hb dX12_date_17 (by decide) (fun c_6 => ?_) (fun c_6 => ?_)
    · refine lv_ldc2 (v := (-1)) hx hb hown (htw _ (ck_29 _ (List.mem_of_getElem? (i := 13) rfl))) dX12_date_39 ?_
      refine W.widen (k := 0) (n := 0) (by omega) (by omega) ?_
      have hP9 := hP
      have hD9 := hD
      have hK9 := hK.sub (tys' := []) [] rfl
      exact W.lret (v := (-1)) hx hb hr (fun t ht hW => ⟨⟨(-1), (0, (gl 53), (gl 54)), rfl, ((fun e9 => ⟨by rw [e9], by rw [e9]⟩ : fq_date f_landHas a0 a1 a2 (g 12) (gl 53) (gl 54) = ((-1 : Int64), (0 : Int32), (gl 53), (gl 54)) → _) ((by rw [fq_date]; (try rw [← hq_r_1]); (try rw [xL_eq]); (try rw [if_neg c_4]); (try rw [← hq_r_5]); (try rw [xL_eq]); (try rw [if_pos c_6]); try rfl))), by rw [ht]; exact hP9, va_K.moved hW.alike hK9, hD9⟩, hS.F ht⟩) hS.2.2 dX12_date_42
    · refine lv_iload hx hb dX12_date_20 (lv_at hl 3 rfl) ?_
      refine lv_iconst (v := 0) hx hb dX12_date_22 (by decide) ?_
      refine lv_iconst (v := 1) hx hb dX12_date_23 (by decide) ?_
      have hPc := hP.sub (ws' := []) [] rfl
      have hKc := hK.sub (tys' := []) [] rfl
      refine vp_callSi (W.runS (As := [.int a2, .int 0, .int 1]) (rest := []) ⟨hx, hb, hml, hown, htw⟩ (gq_isIn l dC dI a2 (0 : Int32) (1 : Int32)) (va_cwS 3 htw (xg_S (ck_26 _ (List.mem_of_getElem? (i := 17) rfl)) (ck_26 _ (List.mem_of_getElem? (i := 18) rfl)) (ck_1 _ (List.mem_of_getElem? (i := 5) rfl)) (ck_26 _ (List.mem_of_getElem? (i := 19) rfl))) rfl rfl rfl (by exact ⟨hdc_14.1, hdc_14.2, hdd_38⟩) ⟨Nat.le_of_ble_eq_true rfl, Nat.le_of_ble_eq_true rfl⟩) ⟨fun a U g mk q => by obtain ⟨q0, qP, qK⟩ := q; exact ⟨q0, qP, va_K.moved (u := U) (U := U.calling g mk a) (Vm.Alike.refl U.vm) qK⟩, fun U hU hW => ⟨rfl, by rw [hU]; exact hPc, va_K.moved hW.alike hKc⟩⟩ rfl rfl hl.1 rfl (lv_room (Nat.le_of_ble_eq_true rfl)) dX12_date_24 ⟨Nat.le_of_ble_eq_true rfl, Nat.le_of_ble_eq_true rfl⟩) (fun r_7 hw => ?_)
      try dsimp only at hw
      obtain ⟨hw, hb_r_7, hp_8, hp_9⟩ := hw
      have hq_r_7 : r_7 = (fq_isIn a2 (0 : Int32) (1 : Int32)) := hw
      refine lv_if_eq (tgt := 39) hx hb dX12_date_27 (by decide) (fun c_10 => ?_) (fun c_10 => ?_)
      · refine lv_ldc2 (v := (-1)) hx hb hown (htw _ (ck_29 _ (List.mem_of_getElem? (i := 13) rfl))) dX12_date_39 ?_
        refine W.widen (k := 0) (n := 0) (by omega) (by omega) ?_
        have hP9 := hP
        have hD9 := hD
        have hK9 := hK.sub (tys' := []) [] rfl
        exact W.lret (v := (-1)) hx hb hr (fun t ht hW => ⟨⟨(-1), (0, (gl 53), (gl 54)), rfl, ((fun e9 => ⟨by rw [e9], by rw [e9]⟩ : fq_date f_landHas a0 a1 a2 (g 12) (gl 53) (gl 54) = ((-1 : Int64), (0 : Int32), (gl 53), (gl 54)) → _) ((by rw [fq_date]; (try rw [← hq_r_1]); (try rw [xL_eq]); (try rw [if_neg c_4]); (try rw [← hq_r_5]); (try rw [xL_eq]); (try rw [if_neg c_6]); (try rw [← hq_r_7]); (try rw [xL_eq]); (try rw [if_pos c_10]); try rfl))), by rw [ht]; exact hP9, va_K.moved hW.alike hK9, hD9⟩, hS.F ht⟩) hS.2.2 dX12_date_42
      · refine lv_aload_n hx hb dX12_date_30 rfl (lv_at hl 0 rfl) ?_
        refine lv_iload_n hx hb dX12_date_31 rfl (lv_at hl 1 rfl) ?_
        refine lv_lload_n hx hb dX12_date_32 rfl (lv_at hl 2 rfl) ?_
        obtain ⟨hPc, hDc, hFc, hCc⟩ := zsub3 (ws' := [(mq, .inr (12, mF (upd g 2 0) gl rf)), (eA0 (rf 29) (ck 29) 24 f_landHas)]) hP hD hS hA [0, 1] (by decide) rfl
        have hKc := hK.sub (tys' := [((ck 29), .int)]) [0] rfl
        refine va_calli (va_runV (As := [.int a0, .long a1]) (rest := []) ⟨hx, hb, hml, hown, htw⟩ (gq_date1 l dC dI mq (upd g 2 0) gl rf ck f_landHas a0 a1 H.size (gq_date_s0 (y0 := a0) (y1 := g 12) (hp_2.resolve_left c_4) (hp_3.resolve_left c_4) hln0 hln4) (gq_date_s1 (y0 := a0) (y1 := g 12) (hp_2.resolve_left c_4) (hp_3.resolve_left c_4) hln0 hln4) (gq_date_s2 (y0 := a1) (xq_cnt hq_r_5 c_6).1 (xq_cnt hq_r_5 c_6).2) (gq_date_s3 (y0 := a1) (xq_cnt hq_r_5 c_6).1 (xq_cnt hq_r_5 c_6).2) (hLZ a0 (gq_date_s4 (y0 := a0) (y1 := g 12) (hp_2.resolve_left c_4) (hp_3.resolve_left c_4) hln0 hln4).1 (gq_date_s4 (y0 := a0) (y1 := g 12) (hp_2.resolve_left c_4) (hp_3.resolve_left c_4) hln0 hln4).2)) (cwV 2 htw (xg_V (ck_36 _ (List.mem_of_getElem? (i := 11) rfl)) (ck_36 _ (List.mem_of_getElem? (i := 12) rfl)) (ck_36 _ (List.mem_of_getElem? (i := 13) rfl)) (ck_1 _ (List.mem_of_getElem? (i := 5) rfl)) (ck_36 _ (List.mem_of_getElem? (i := 14) rfl))) rfl rfl rfl (by exact ⟨rfl, hdc_14.1, hdc_14.2, hdd_42⟩) ⟨Nat.le_of_ble_eq_true rfl, Nat.le_of_ble_eq_true rfl⟩) ⟨fun a U g mk q => by obtain ⟨q0, q1, qP, qK, qD⟩ := q; exact ⟨q0, q1, qP, va_K.moved (u := U) (U := U.calling g mk a) (Vm.Alike.refl U.vm) qK, qD⟩, va_recv hKc hPc (ci := 12) (q0 := 0) rfl rfl, fun U hU hW => ⟨rfl, by rw [hU], by rw [hU]; exact hPc, va_K.moved hW.alike hKc, hDc.weaken (fun _ _ _ _ => trivial)⟩⟩ rfl rfl hl.1 rfl (lv_room (Nat.le_of_ble_eq_true rfl)) dX12_date_33 ⟨Nat.le_of_ble_eq_true rfl, Nat.le_of_ble_eq_true rfl⟩) hS (fun q _ h => hFc q h) hFc (fun r_11 u_12 t H1 locs ht hvm hw hB hz1 hk1 hS => ?_)
        try dsimp only at hw
        obtain ⟨hP1, hK1, hD1⟩ := hB
        rw [ht] at hP1
        have hK1 := va_K.moved hvm.symm hK1
        have hK1 : va_K (dC, dI) vwCl [] s := hK1
        obtain ⟨hP, hD⟩ := va_join (wr := []) (w1 := [(mq, .inr (12, mF (upd g 2 0) (vp_updL (vp_updL gl 53 u_12.1) 54 u_12.2) rf)), (eA0 (rf 29) (ck 29) 24 f_landHas)]) hP hD [0, 1] [] hCc rfl (by decide) (by decide) hk1 hFc hP1 hD1
        generalize H1 = H at hP hS ⊢
        obtain ⟨hP, hD⟩ := zre [(mq, .inr (12, mF (upd g 2 0) (vp_updL (vp_updL gl 53 u_12.1) 54 u_12.2) rf)), (eA0 (rf 29) (ck 29) 24 f_landHas)] hP hD rfl
        refine W.widen (k := 0) (n := 0) (by omega) (by omega) ?_
        obtain ⟨hw, hb_r_11⟩ := hw
        obtain ⟨X_15, hX_15⟩ : ∃ X9 : Int32 × (Int64) × (Int64), X9 = (fq_date1 f_landHas a0 a1 (gl 53) (gl 54)) := ⟨_, rfl⟩
        have hq_r_11 : r_11 = X_15.1 := by rw [hX_15]; exact hw.1
        have hq_u_12 : u_12 = X_15.2 := by rw [hX_15]; exact hw.2
        refine lv_if_ne (tgt := 43) hx hb dX12_date_36 (by decide) (fun c_16 => ?_) (fun c_16 => ?_)
        · refine lv_iload hx hb dX12_date_43 (lv_at hl 3 rfl) ?_
          refine lv_if_ne (tgt := 55) hx hb dX12_date_45 (by decide) (fun c_17 => ?_) (fun c_17 => ?_)
          · refine lv_aload_n hx hb dX12_date_55 rfl (lv_at hl 0 rfl) ?_
            refine va_get (D := (dC, dI)) (ci := 12) (v := .long u_12.2) (C := RX12) (T := TX12) (N := 76) hx hb htw inlX12 hown hK hP 0 rfl rfl 54 (by decide) (htw _ (ck_36 _ (List.mem_of_getElem? (i := 7) rfl))) (fun _ h9 => h9) rfl dX12_date_56 ?_
            refine W.widen (k := 0) (n := 0) (by omega) (by omega) ?_
            have hP9 := hP
            have hD9 := hD
            have hK9 := hK.sub (tys' := []) [] rfl
            exact W.lret (v := u_12.2) hx hb hr (fun t ht hW => ⟨⟨u_12.2, (0, u_12.1, u_12.2), rfl, ((fun e9 => ⟨by rw [e9], by rw [e9]⟩ : fq_date f_landHas a0 a1 a2 (g 12) (gl 53) (gl 54) = (u_12.2, (0 : Int32), u_12.1, u_12.2) → _) ((by rw [fq_date]; (try rw [← hq_r_1]); (try rw [xL_eq]); (try rw [if_neg c_4]); (try rw [← hq_r_5]); (try rw [xL_eq]); (try rw [if_neg c_6]); (try rw [← hq_r_7]); (try rw [xL_eq]); (try rw [if_neg c_10]); (try rw [← hX_15]); (try rw [xL_eq]); (try rw [← hq_r_11]); (try rw [← hq_u_12]); (try rw [if_neg c_16]); (try rw [if_neg c_17]); try rfl))), by rw [ht]; exact hP9, va_K.moved hW.alike hK9, hD9⟩, hS.F ht⟩) hS.2.2 dX12_date_59
          · refine lv_aload_n hx hb dX12_date_48 rfl (lv_at hl 0 rfl) ?_
            refine va_get (D := (dC, dI)) (ci := 12) (v := .long u_12.1) (C := RX12) (T := TX12) (N := 76) hx hb htw inlX12 hown hK hP 0 rfl rfl 53 (by decide) (htw _ (ck_36 _ (List.mem_of_getElem? (i := 6) rfl))) (fun _ h9 => h9) rfl dX12_date_49 ?_
            refine lv_goto (tgt := 59) hx hb dX12_date_52 (by decide) ?_
            refine W.widen (k := 0) (n := 0) (by omega) (by omega) ?_
            have hP9 := hP
            have hD9 := hD
            have hK9 := hK.sub (tys' := []) [] rfl
            exact W.lret (v := u_12.1) hx hb hr (fun t ht hW => ⟨⟨u_12.1, (0, u_12.1, u_12.2), rfl, ((fun e9 => ⟨by rw [e9], by rw [e9]⟩ : fq_date f_landHas a0 a1 a2 (g 12) (gl 53) (gl 54) = (u_12.1, (0 : Int32), u_12.1, u_12.2) → _) ((by rw [fq_date]; (try rw [← hq_r_1]); (try rw [xL_eq]); (try rw [if_neg c_4]); (try rw [← hq_r_5]); (try rw [xL_eq]); (try rw [if_neg c_6]); (try rw [← hq_r_7]); (try rw [xL_eq]); (try rw [if_neg c_10]); (try rw [← hX_15]); (try rw [xL_eq]); (try rw [← hq_r_11]); (try rw [← hq_u_12]); (try rw [if_neg c_16]); (try rw [if_pos c_17]); try rfl))), by rw [ht]; exact hP9, va_K.moved hW.alike hK9, hD9⟩, hS.F ht⟩) hS.2.2 dX12_date_59
        · refine lv_ldc2 (v := (-1)) hx hb hown (htw _ (ck_29 _ (List.mem_of_getElem? (i := 13) rfl))) dX12_date_39 ?_
          refine W.widen (k := 0) (n := 0) (by omega) (by omega) ?_
          have hP9 := hP
          have hD9 := hD
          have hK9 := hK.sub (tys' := []) [] rfl
          exact W.lret (v := (-1)) hx hb hr (fun t ht hW => ⟨⟨(-1), (0, u_12.1, u_12.2), rfl, ((fun e9 => ⟨by rw [e9], by rw [e9]⟩ : fq_date f_landHas a0 a1 a2 (g 12) (gl 53) (gl 54) = ((-1 : Int64), (0 : Int32), u_12.1, u_12.2) → _) ((by rw [fq_date]; (try rw [← hq_r_1]); (try rw [xL_eq]); (try rw [if_neg c_4]); (try rw [← hq_r_5]); (try rw [xL_eq]); (try rw [if_neg c_6]); (try rw [← hq_r_7]); (try rw [xL_eq]); (try rw [if_neg c_10]); (try rw [← hX_15]); (try rw [xL_eq]); (try rw [← hq_r_11]); (try rw [← hq_u_12]); (try rw [if_pos c_16]); try rfl))), by rw [ht]; exact hP9, va_K.moved hW.alike hK9, hD9⟩, hS.F ht⟩) hS.2.2 dX12_date_42

def fq_count (f_landHas : Nat → Int32) (a0 : Int32) (a1 : Int32) (a2 : Int64) (m_lands : Int32) : Int64 × (Int32) := (xL ((fq_isLand a0 m_lands)) (fun r_1 => (if r_1 = 0 then ((-1 : Int64), (0 : Int32)) else (if 1000000000 < a1 then ((-1 : Int64), (0 : Int32)) else (xL ((fq_countOf f_landHas a0 a1.toInt64 a2)) (fun r_6 => (r_6, (0 : Int32))))))))
theorem gq_count_s0 {y0 : Int32} {y1 : Int32} (h0 : ¬ (y0 < 0)) (h1 : y0 < y1) (h2 : ¬ (y1 < 0)) (h3 : y1 ≤ 4) : ¬ (y0 < 0) := h0
theorem gq_count_s1 {y0 : Int32} {y1 : Int32} (h0 : ¬ (y0 < 0)) (h1 : y0 < y1) (h2 : ¬ (y1 < 0)) (h3 : y1 ≤ 4) : y0 ≤ 7 := by lia
theorem dX12_count_0 : decode cX12_count 0 = .ok (.aload_n 0, 1) := zk_42 (by decide +kernel)
theorem dX12_count_1 : decode cX12_count 1 = .ok (.iconst 0, 1) := zk_3 (by decide +kernel)
theorem dX12_count_2 : decode cX12_count 2 = .ok (.putfield 119, 3) := zk_181 (by decide +kernel)
theorem dX12_count_5 : decode cX12_count 5 = .ok (.aload_n 0, 1) := zk_42 (by decide +kernel)
theorem dX12_count_6 : decode cX12_count 6 = .ok (.iload_n 1, 1) := zk_27 (by decide +kernel)
theorem dX12_count_7 : decode cX12_count 7 = .ok (.invokevirtual 404, 3) := zk_182 (by decide +kernel)
theorem dX12_count_10 : decode cX12_count 10 = .ok (.ifCond .eq 21, 3) := zk_153 (by decide +kernel)
theorem dX12_count_31 : decode cX12_count 31 = .ok (.ldc2_w 273, 3) := zk_20 (by decide +kernel)
theorem dX12_count_34 : decode cX12_count 34 = .ok (.lreturn, 1) := zk_173 (by decide +kernel)
theorem dX12_count_13 : decode cX12_count 13 = .ok (.iload_n 2, 1) := zk_28 (by decide +kernel)
theorem dX12_count_14 : decode cX12_count 14 = .ok (.ldc_w 419, 3) := zk_19 (by decide +kernel)
theorem dX12_count_17 : decode cX12_count 17 = .ok (.if_icmp .gt 14, 3) := zk_163 (by decide +kernel)
theorem dX12_count_20 : decode cX12_count 20 = .ok (.aload_n 0, 1) := zk_42 (by decide +kernel)
theorem dX12_count_21 : decode cX12_count 21 = .ok (.iload_n 1, 1) := zk_27 (by decide +kernel)
theorem dX12_count_22 : decode cX12_count 22 = .ok (.iload_n 2, 1) := zk_28 (by decide +kernel)
theorem dX12_count_23 : decode cX12_count 23 = .ok (.i2l, 1) := zk_133 (by decide +kernel)
theorem dX12_count_24 : decode cX12_count 24 = .ok (.lload_n 3, 1) := zk_33 (by decide +kernel)
theorem dX12_count_25 : decode cX12_count 25 = .ok (.invokevirtual 275, 3) := zk_182 (by decide +kernel)
theorem dX12_count_28 : decode cX12_count 28 = .ok (.goto 6, 3) := zk_167 (by decide +kernel)
set_option maxHeartbeats 4000000 in
set_option maxRecDepth 100000 in
theorem gq_count (l : Launch) (dC : Nat → ClassId) (dI : Nat → Nat → Nat) (mq : Nat) (g : Nat → Int32) (gl : Nat → Int64) (rf : Nat → Nat) (ck : Nat → ClassId) (f_landHas : Nat → Int32) (a0 : Int32) (a1 : Int32) (a2 : Int64) (sz : Nat) (hln0 : ¬ (g 12) < 0) (hln4 : (g 12) ≤ 4) : Met l yX12_count (Cond.code yX12_count cX12_count 5 (some .long) :: wsL_law) ({ frames := 3, cells := 0, slots := 0, locals := 73 }) (va_Pc [.ref mq, .int a0, .int a1, .long a2] (fun U => U.heap.size = sz ∧ va_P (dC, dI) vwCl [(mq, .inr (12, mF g gl rf)), (eA0 (rf 29) (ck 29) 24 f_landHas)] U.heap ∧ va_K (dC, dI) vwCl [((ck 29), .int)] U ∧ va_D (fun _ => True) [(mq, .inr (12, mF g gl rf)), (eA0 (rf 29) (ck 29) 24 f_landHas)])) (va_Ql (fun (r : Int64) (u : (Int32)) => r = (fq_count f_landHas a0 a1 a2 (g 12)).1 ∧ u = (fq_count f_landHas a0 a1 a2 (g 12)).2) (fun (u : (Int32)) t => va_P (dC, dI) vwCl [(mq, .inr (12, mF (upd g 2 u) gl rf)), (eA0 (rf 29) (ck 29) 24 f_landHas)] t.heap ∧ va_K (dC, dI) vwCl [] t ∧ va_D (va_A [(mq, .inr (12, mF g gl rf)), (eA0 (rf 29) (ck 29) 24 f_landHas)] sz) [(mq, .inr (12, mF (upd g 2 u) gl rf)), (eA0 (rf 29) (ck 29) 24 f_landHas)]) (va_A [(mq, .inr (12, mF g gl rf)), (eA0 (rf 29) (ck 29) 24 f_landHas)] sz)) 0 0 (va_A [(mq, .inr (12, mF g gl rf)), (eA0 (rf 29) (ck 29) 24 f_landHas)] sz) := by
  refine Met.ofW (cc := cX12_count) (maxL := 5) (ret := (some .long)) (by decide) rfl ?_
  intro p e s m args below meth c s₁ B hml hv
  obtain ⟨rfl, hsz, hP, hK, hD0⟩ := hv
  have hx := B.exec
  have hb := B.bytes
  have hr := B.returns
  have hts := atoms_spec (ws := Cond.code yX12_count cX12_count 5 (some .long) :: wsL_law) B.pre
  have htw : ∀ w ∈ wsL_law, w.before _ s = true := fun w h => hts w (List.mem_cons_of_mem _ h)
  have hown : s.vm.findClass RX12 = some m.cls := findClass_of_methodNamed B.named
  have hlocks := B.notSynchronized
  subst hsz
  have hD := hD0.self (sz := s.heap.size)
  generalize hAe : va_A [(mq, .inr (12, mF g gl rf)), (eA0 (rf 29) (ck 29) 24 f_landHas)] s.heap.size = A at hD ⊢
  have hA : ∀ q : Nat, s.heap.size ≤ q → A q := fun q h => by rw [← hAe]; exact Or.inr h
  obtain ⟨H, rH⟩ : ∃ z : Heap, z = s.heap := ⟨_, rfl⟩
  have hS : va_S A s.heap H [] := by rw [rH]; exact va_S.rf
  have hP : va_P (dC, dI) vwCl [(mq, .inr (12, mF g gl rf)), (eA0 (rf 29) (ck 29) 24 f_landHas)] H := by rw [rH]; exact hP
  rw [← rH]
  have hl := lv_entry ([.ref mq, .int a0, .int a1, .long a2]) (n := 5) (Nat.le_of_ble_eq_true rfl)
  rw [lg_entry_eq]
  generalize (lg_sl ([.ref mq, .int a0, .int a1, .long a2]) ++ List.replicate (5 - (lg_sl ([.ref mq, .int a0, .int a1, .long a2])).length) Slot.unset).toArray = ls at hl ⊢
  have hl : lv_has ls 5 [(0, .ref mq), (1, .int a0), (2, .int a1), (3, .long a2)] := hl
  refine lv_aload_n hx hb dX12_count_0 rfl (lv_at hl 0 rfl) ?_
  refine lv_iconst (v := 0) hx hb dX12_count_1 (by decide) ?_
  refine va_put (D := (dC, dI)) (ci := 12) (v := .int 0) (ty := tyX12 2) (C := RX12) (T := TX12) (N := 76) hx hb htw inlX12 tyX12 tyX12_ok nmX12 hown hK hP hD hS 0 rfl rfl 2 (by decide) (htw _ (ck_12 _ (List.mem_of_getElem? (i := 16) rfl))) (fun _ h9 => h9) rfl (tyX12_ok 2 (by decide)) rfl rfl (Nat.le_of_ble_eq_true rfl) dX12_count_2 (fun H locs hP hD hS => ?_)
  obtain ⟨hP, hD⟩ := zre [(mq, .inr (12, mF (upd g 2 0) gl rf)), (eA0 (rf 29) (ck 29) 24 f_landHas)] hP hD rfl
  refine lv_aload_n hx hb dX12_count_5 rfl (lv_at hl 0 rfl) ?_
  refine lv_iload_n hx hb dX12_count_6 rfl (lv_at hl 1 rfl) ?_
  have hPc := hP.sub (ws' := [(mq, .inr (12, mF (upd g 2 0) gl rf))]) [0] rfl
  have hKc := hK.sub (tys' := []) [] rfl
  refine vp_callSi (W.runV (As := [.int a0]) (rest := []) ⟨hx, hb, hml, hown, htw⟩ (gq_isLand l dC dI mq (upd g 2 0) gl rf a0) (cwV 1 htw (xg_V (ck_34 _ (List.mem_of_getElem? (i := 2) rfl)) (ck_34 _ (List.mem_of_getElem? (i := 3) rfl)) (ck_34 _ (List.mem_of_getElem? (i := 4) rfl)) (ck_1 _ (List.mem_of_getElem? (i := 5) rfl)) (ck_34 _ (List.mem_of_getElem? (i := 5) rfl))) rfl rfl rfl (by exact ⟨rfl, hdc_14.1, hdc_14.2, hdd_26⟩) ⟨Nat.le_of_ble_eq_true rfl, Nat.le_of_ble_eq_true rfl⟩) ⟨fun a U g mk q => by obtain ⟨q0, qP, qK⟩ := q; exact ⟨q0, qP, va_K.moved (u := U) (U := U.calling g mk a) (Vm.Alike.refl U.vm) qK⟩, va_recv hKc hPc (ci := 12) (q0 := 0) rfl rfl, fun U hU hW => ⟨rfl, by rw [hU]; exact hPc, va_K.moved hW.alike hKc⟩⟩ rfl rfl hl.1 rfl (lv_room (Nat.le_of_ble_eq_true rfl)) dX12_count_7 ⟨Nat.le_of_ble_eq_true rfl, Nat.le_of_ble_eq_true rfl⟩) (fun r_1 hw => ?_)
  try dsimp only at hw
  obtain ⟨hw, hb_r_1, hp_2, hp_3⟩ := hw
  have hq_r_1 : r_1 = (fq_isLand a0 (g 12)) := hw
  refine lv_if_eq (tgt := 31) hx hb dX12_count_10 (by decide) (fun c_4 => ?_) (fun c_4 => ?_)
  · refine lv_ldc2 (v := (-1)) hx hb hown (htw _ (ck_29 _ (List.mem_of_getElem? (i := 13) rfl))) dX12_count_31 ?_
    refine W.widen (k := 0) (n := 0) (by omega) (by omega) ?_
    have hP9 := hP
    have hD9 := hD
    have hK9 := hK.sub (tys' := []) [] rfl
    exact W.lret (v := (-1)) hx hb hr (fun t ht hW => ⟨⟨(-1), 0, rfl, ((fun e9 => ⟨by rw [e9], by rw [e9]⟩ : fq_count f_landHas a0 a1 a2 (g 12) = ((-1 : Int64), (0 : Int32)) → _) ((by rw [fq_count]; (try rw [← hq_r_1]); (try rw [xL_eq]); (try rw [if_pos c_4]); try rfl))), by rw [ht]; exact hP9, va_K.moved hW.alike hK9, hD9⟩, hS.F ht⟩) hS.2.2 dX12_count_34
  · refine lv_iload_n hx hb dX12_count_13 rfl (lv_at hl 2 rfl) ?_
    refine lv_ldcw (v := 1000000000) hx hb hown (htw _ (ck_37 _ (List.mem_of_getElem? (i := 4) rfl))) dX12_count_14 ?_
    refine lv_icmp_gt (tgt := 31) hx hb dX12_count_17 (by decide) (fun c_5 => ?_) (fun c_5 => ?_)
    · refine lv_ldc2 (v := (-1)) hx hb hown (htw _ (ck_29 _ (List.mem_of_getElem? (i := 13) rfl))) dX12_count_31 ?_
      refine W.widen (k := 0) (n := 0) (by omega) (by omega) ?_
      have hP9 := hP
      have hD9 := hD
      have hK9 := hK.sub (tys' := []) [] rfl
      exact W.lret (v := (-1)) hx hb hr (fun t ht hW => ⟨⟨(-1), 0, rfl, ((fun e9 => ⟨by rw [e9], by rw [e9]⟩ : fq_count f_landHas a0 a1 a2 (g 12) = ((-1 : Int64), (0 : Int32)) → _) ((by rw [fq_count]; (try rw [← hq_r_1]); (try rw [xL_eq]); (try rw [if_neg c_4]); (try rw [if_pos c_5]); try rfl))), by rw [ht]; exact hP9, va_K.moved hW.alike hK9, hD9⟩, hS.F ht⟩) hS.2.2 dX12_count_34
    · refine lv_aload_n hx hb dX12_count_20 rfl (lv_at hl 0 rfl) ?_
      refine lv_iload_n hx hb dX12_count_21 rfl (lv_at hl 1 rfl) ?_
      refine lv_iload_n hx hb dX12_count_22 rfl (lv_at hl 2 rfl) ?_
      refine lv_i2l (v := a1.toInt64) hx hb dX12_count_23 rfl ?_
      refine lv_lload_n hx hb dX12_count_24 rfl (lv_at hl 3 rfl) ?_
      have hPc := hP.sub (ws' := [(mq, .inr (12, mF (upd g 2 0) gl rf)), (eA0 (rf 29) (ck 29) 24 f_landHas)]) [0, 1] rfl
      have hKc := hK.sub (tys' := [((ck 29), .int)]) [0] rfl
      refine vp_callSl (W.runV (As := [.int a0, .long a1.toInt64, .long a2]) (rest := []) ⟨hx, hb, hml, hown, htw⟩ (gq_countOf l dC dI mq (upd g 2 0) gl rf ck f_landHas a0 a1.toInt64 a2 (gq_count_s0 (y0 := a0) (y1 := g 12) (hp_2.resolve_left c_4) (hp_3.resolve_left c_4) hln0 hln4) (gq_count_s1 (y0 := a0) (y1 := g 12) (hp_2.resolve_left c_4) (hp_3.resolve_left c_4) hln0 hln4)) (cwV 3 htw (xg_V (ck_29 _ (List.mem_of_getElem? (i := 18) rfl)) (ck_29 _ (List.mem_of_getElem? (i := 19) rfl)) (ck_29 _ (List.mem_of_getElem? (i := 20) rfl)) (ck_1 _ (List.mem_of_getElem? (i := 5) rfl)) (ck_29 _ (List.mem_of_getElem? (i := 21) rfl))) rfl rfl rfl (by exact ⟨rfl, hdc_14.1, hdc_14.2, hdd_11⟩) ⟨Nat.le_of_ble_eq_true rfl, Nat.le_of_ble_eq_true rfl⟩) ⟨fun a U g mk q => by obtain ⟨q0, qP, qK⟩ := q; exact ⟨q0, qP, va_K.moved (u := U) (U := U.calling g mk a) (Vm.Alike.refl U.vm) qK⟩, va_recv hKc hPc (ci := 12) (q0 := 0) rfl rfl, fun U hU hW => ⟨rfl, by rw [hU]; exact hPc, va_K.moved hW.alike hKc⟩⟩ rfl rfl hl.1 rfl (lv_room (Nat.le_of_ble_eq_true rfl)) dX12_count_25 ⟨Nat.le_of_ble_eq_true rfl, Nat.le_of_ble_eq_true rfl⟩) (fun r_6 hw => ?_)
      try dsimp only at hw
      have hq_r_6 : r_6 = (fq_countOf f_landHas a0 a1.toInt64 a2) := hw
      refine lv_goto (tgt := 34) hx hb dX12_count_28 (by decide) ?_
      refine W.widen (k := 0) (n := 0) (by omega) (by omega) ?_
      have hP9 := hP
      have hD9 := hD
      have hK9 := hK.sub (tys' := []) [] rfl
      exact W.lret (v := r_6) hx hb hr (fun t ht hW => ⟨⟨r_6, 0, rfl, ((fun e9 => ⟨by rw [e9], by rw [e9]⟩ : fq_count f_landHas a0 a1 a2 (g 12) = (r_6, (0 : Int32)) → _) ((by rw [fq_count]; (try rw [← hq_r_1]); (try rw [xL_eq]); (try rw [if_neg c_4]); (try rw [if_neg c_5]); (try rw [← hq_r_6]); (try rw [xL_eq]); try rfl))), by rw [ht]; exact hP9, va_K.moved hW.alike hK9, hD9⟩, hS.F ht⟩) hS.2.2 dX12_count_34

def fq_round (f_sky : Nat → Int32) (a0 : Int64) (a1 : Int32) : Int32 × (Int32) := (xL ((fq_isCount a0)) (fun r_1 => (if r_1 = 0 then ((-1 : Int32), (0 : Int32)) else (xL ((fq_isIn a1 (0 : Int32) (2 : Int32))) (fun r_3 => (if r_3 = 0 then ((-1 : Int32), (0 : Int32)) else (xL ((fq_roundOf f_sky a0 a1)) (fun r_7 => (r_7, (0 : Int32))))))))))
theorem dX12_round_0 : decode cX12_round 0 = .ok (.aload_n 0, 1) := zk_42 (by decide +kernel)
theorem dX12_round_1 : decode cX12_round 1 = .ok (.iconst 0, 1) := zk_3 (by decide +kernel)
theorem dX12_round_2 : decode cX12_round 2 = .ok (.putfield 119, 3) := zk_181 (by decide +kernel)
theorem dX12_round_5 : decode cX12_round 5 = .ok (.lload_n 1, 1) := zk_31 (by decide +kernel)
theorem dX12_round_6 : decode cX12_round 6 = .ok (.invokestatic 413, 3) := zk_184 (by decide +kernel)
theorem dX12_round_9 : decode cX12_round 9 = .ok (.ifCond .eq 21, 3) := zk_153 (by decide +kernel)
theorem dX12_round_30 : decode cX12_round 30 = .ok (.iconst (-1), 1) := zk_2 (by decide +kernel)
theorem dX12_round_31 : decode cX12_round 31 = .ok (.ireturn, 1) := zk_172 (by decide +kernel)
theorem dX12_round_12 : decode cX12_round 12 = .ok (.iload_n 3, 1) := zk_29 (by decide +kernel)
theorem dX12_round_13 : decode cX12_round 13 = .ok (.iconst 0, 1) := zk_3 (by decide +kernel)
theorem dX12_round_14 : decode cX12_round 14 = .ok (.iconst 2, 1) := zk_5 (by decide +kernel)
theorem dX12_round_15 : decode cX12_round 15 = .ok (.invokestatic 166, 3) := zk_184 (by decide +kernel)
theorem dX12_round_18 : decode cX12_round 18 = .ok (.ifCond .eq 12, 3) := zk_153 (by decide +kernel)
theorem dX12_round_21 : decode cX12_round 21 = .ok (.aload_n 0, 1) := zk_42 (by decide +kernel)
theorem dX12_round_22 : decode cX12_round 22 = .ok (.lload_n 1, 1) := zk_31 (by decide +kernel)
theorem dX12_round_23 : decode cX12_round 23 = .ok (.iload_n 3, 1) := zk_29 (by decide +kernel)
theorem dX12_round_24 : decode cX12_round 24 = .ok (.invokevirtual 424, 3) := zk_182 (by decide +kernel)
theorem dX12_round_27 : decode cX12_round 27 = .ok (.goto 4, 3) := zk_167 (by decide +kernel)
set_option maxHeartbeats 4000000 in
set_option maxRecDepth 100000 in
theorem gq_round (l : Launch) (dC : Nat → ClassId) (dI : Nat → Nat → Nat) (mq : Nat) (g : Nat → Int32) (gl : Nat → Int64) (rf : Nat → Nat) (ck : Nat → ClassId) (f_sky : Nat → Int32) (a0 : Int64) (a1 : Int32) (sz : Nat) (hs0 : ¬ (f_sky 0) < 1) (hs2 : ¬ (f_sky 2) < 1) (hs5 : ¬ (f_sky 5) < 1) : Met l yX12_round (Cond.code yX12_round cX12_round 4 (some .int) :: wsL_law) ({ frames := 1, cells := 0, slots := 0, locals := 23 }) (va_Pc [.ref mq, .long a0, .int a1] (fun U => U.heap.size = sz ∧ va_P (dC, dI) vwCl [(mq, .inr (12, mF g gl rf)), (eA0 (rf 24) (ck 24) 14 f_sky)] U.heap ∧ va_K (dC, dI) vwCl [((ck 24), .int)] U ∧ va_D (fun _ => True) [(mq, .inr (12, mF g gl rf)), (eA0 (rf 24) (ck 24) 14 f_sky)])) (va_Qi (fun (r : Int32) (u : (Int32)) => r = (fq_round f_sky a0 a1).1 ∧ u = (fq_round f_sky a0 a1).2) (fun (u : (Int32)) t => va_P (dC, dI) vwCl [(mq, .inr (12, mF (upd g 2 u) gl rf)), (eA0 (rf 24) (ck 24) 14 f_sky)] t.heap ∧ va_K (dC, dI) vwCl [] t ∧ va_D (va_A [(mq, .inr (12, mF g gl rf)), (eA0 (rf 24) (ck 24) 14 f_sky)] sz) [(mq, .inr (12, mF (upd g 2 u) gl rf)), (eA0 (rf 24) (ck 24) 14 f_sky)]) (va_A [(mq, .inr (12, mF g gl rf)), (eA0 (rf 24) (ck 24) 14 f_sky)] sz)) 0 0 (va_A [(mq, .inr (12, mF g gl rf)), (eA0 (rf 24) (ck 24) 14 f_sky)] sz) := by
  refine Met.ofW (cc := cX12_round) (maxL := 4) (ret := (some .int)) (by decide) rfl ?_
  intro p e s m args below meth c s₁ B hml hv
  obtain ⟨rfl, hsz, hP, hK, hD0⟩ := hv
  have hx := B.exec
  have hb := B.bytes
  have hr := B.returns
  have hts := atoms_spec (ws := Cond.code yX12_round cX12_round 4 (some .int) :: wsL_law) B.pre
  have htw : ∀ w ∈ wsL_law, w.before _ s = true := fun w h => hts w (List.mem_cons_of_mem _ h)
  have hown : s.vm.findClass RX12 = some m.cls := findClass_of_methodNamed B.named
  have hlocks := B.notSynchronized
  subst hsz
  have hD := hD0.self (sz := s.heap.size)
  generalize hAe : va_A [(mq, .inr (12, mF g gl rf)), (eA0 (rf 24) (ck 24) 14 f_sky)] s.heap.size = A at hD ⊢
  have hA : ∀ q : Nat, s.heap.size ≤ q → A q := fun q h => by rw [← hAe]; exact Or.inr h
  obtain ⟨H, rH⟩ : ∃ z : Heap, z = s.heap := ⟨_, rfl⟩
  have hS : va_S A s.heap H [] := by rw [rH]; exact va_S.rf
  have hP : va_P (dC, dI) vwCl [(mq, .inr (12, mF g gl rf)), (eA0 (rf 24) (ck 24) 14 f_sky)] H := by rw [rH]; exact hP
  rw [← rH]
  have hl := lv_entry ([.ref mq, .long a0, .int a1]) (n := 4) (Nat.le_of_ble_eq_true rfl)
  rw [lg_entry_eq]
  generalize (lg_sl ([.ref mq, .long a0, .int a1]) ++ List.replicate (4 - (lg_sl ([.ref mq, .long a0, .int a1])).length) Slot.unset).toArray = ls at hl ⊢
  have hl : lv_has ls 4 [(0, .ref mq), (1, .long a0), (3, .int a1)] := hl
  refine lv_aload_n hx hb dX12_round_0 rfl (lv_at hl 0 rfl) ?_
  refine lv_iconst (v := 0) hx hb dX12_round_1 (by decide) ?_
  refine va_put (D := (dC, dI)) (ci := 12) (v := .int 0) (ty := tyX12 2) (C := RX12) (T := TX12) (N := 76) hx hb htw inlX12 tyX12 tyX12_ok nmX12 hown hK hP hD hS 0 rfl rfl 2 (by decide) (htw _ (ck_12 _ (List.mem_of_getElem? (i := 16) rfl))) (fun _ h9 => h9) rfl (tyX12_ok 2 (by decide)) rfl rfl (Nat.le_of_ble_eq_true rfl) dX12_round_2 (fun H locs hP hD hS => ?_)
  obtain ⟨hP, hD⟩ := zre [(mq, .inr (12, mF (upd g 2 0) gl rf)), (eA0 (rf 24) (ck 24) 14 f_sky)] hP hD rfl
  refine lv_lload_n hx hb dX12_round_5 rfl (lv_at hl 1 rfl) ?_
  have hPc := hP.sub (ws' := []) [] rfl
  have hKc := hK.sub (tys' := []) [] rfl
  refine vp_callSi (W.runS (As := [.long a0]) (rest := []) ⟨hx, hb, hml, hown, htw⟩ (gq_isCount l dC dI a0) (va_cwS 1 htw (xg_S (ck_36 _ (List.mem_of_getElem? (i := 8) rfl)) (ck_36 _ (List.mem_of_getElem? (i := 9) rfl)) (ck_1 _ (List.mem_of_getElem? (i := 5) rfl)) (ck_36 _ (List.mem_of_getElem? (i := 10) rfl))) rfl rfl rfl (by exact ⟨hdc_14.1, hdc_14.2, hdd_1⟩) ⟨Nat.le_of_ble_eq_true rfl, Nat.le_of_ble_eq_true rfl⟩) ⟨fun a U g mk q => by obtain ⟨q0, qP, qK⟩ := q; exact ⟨q0, qP, va_K.moved (u := U) (U := U.calling g mk a) (Vm.Alike.refl U.vm) qK⟩, fun U hU hW => ⟨rfl, by rw [hU]; exact hPc, va_K.moved hW.alike hKc⟩⟩ rfl rfl hl.1 rfl (lv_room (Nat.le_of_ble_eq_true rfl)) dX12_round_6 ⟨Nat.le_of_ble_eq_true rfl, Nat.le_of_ble_eq_true rfl⟩) (fun r_1 hw => ?_)
  try dsimp only at hw
  obtain ⟨hw, hb_r_1⟩ := hw
  have hq_r_1 : r_1 = (fq_isCount a0) := hw
  refine lv_if_eq (tgt := 30) hx hb dX12_round_9 (by decide) (fun c_2 => ?_) (fun c_2 => ?_)
  · refine lv_iconst (v := (-1)) hx hb dX12_round_30 (by decide) ?_
    refine W.widen (k := 0) (n := 0) (by omega) (by omega) ?_
    have hP9 := hP
    have hD9 := hD
    have hK9 := hK.sub (tys' := []) [] rfl
    exact W.iret (v := (-1)) hx hb hr (fun t ht hW => ⟨⟨(-1), 0, rfl, ((fun e9 => ⟨by rw [e9], by rw [e9]⟩ : fq_round f_sky a0 a1 = ((-1 : Int32), (0 : Int32)) → _) ((by rw [fq_round]; (try rw [← hq_r_1]); (try rw [xL_eq]); (try rw [if_pos c_2]); try rfl))), by rw [ht]; exact hP9, va_K.moved hW.alike hK9, hD9⟩, hS.F ht⟩) hS.2.2 dX12_round_31
  · refine lv_iload_n hx hb dX12_round_12 rfl (lv_at hl 2 rfl) ?_
    refine lv_iconst (v := 0) hx hb dX12_round_13 (by decide) ?_
    refine lv_iconst (v := 2) hx hb dX12_round_14 (by decide) ?_
    have hPc := hP.sub (ws' := []) [] rfl
    have hKc := hK.sub (tys' := []) [] rfl
    refine vp_callSi (W.runS (As := [.int a1, .int 0, .int 2]) (rest := []) ⟨hx, hb, hml, hown, htw⟩ (gq_isIn l dC dI a1 (0 : Int32) (2 : Int32)) (va_cwS 3 htw (xg_S (ck_26 _ (List.mem_of_getElem? (i := 17) rfl)) (ck_26 _ (List.mem_of_getElem? (i := 18) rfl)) (ck_1 _ (List.mem_of_getElem? (i := 5) rfl)) (ck_26 _ (List.mem_of_getElem? (i := 19) rfl))) rfl rfl rfl (by exact ⟨hdc_14.1, hdc_14.2, hdd_38⟩) ⟨Nat.le_of_ble_eq_true rfl, Nat.le_of_ble_eq_true rfl⟩) ⟨fun a U g mk q => by obtain ⟨q0, qP, qK⟩ := q; exact ⟨q0, qP, va_K.moved (u := U) (U := U.calling g mk a) (Vm.Alike.refl U.vm) qK⟩, fun U hU hW => ⟨rfl, by rw [hU]; exact hPc, va_K.moved hW.alike hKc⟩⟩ rfl rfl hl.1 rfl (lv_room (Nat.le_of_ble_eq_true rfl)) dX12_round_15 ⟨Nat.le_of_ble_eq_true rfl, Nat.le_of_ble_eq_true rfl⟩) (fun r_3 hw => ?_)
    try dsimp only at hw
    obtain ⟨hw, hb_r_3, hp_4, hp_5⟩ := hw
    have hq_r_3 : r_3 = (fq_isIn a1 (0 : Int32) (2 : Int32)) := hw
    refine lv_if_eq (tgt := 30) hx hb dX12_round_18 (by decide) (fun c_6 => ?_) (fun c_6 => ?_)
    · refine lv_iconst (v := (-1)) hx hb dX12_round_30 (by decide) ?_
      refine W.widen (k := 0) (n := 0) (by omega) (by omega) ?_
      have hP9 := hP
      have hD9 := hD
      have hK9 := hK.sub (tys' := []) [] rfl
      exact W.iret (v := (-1)) hx hb hr (fun t ht hW => ⟨⟨(-1), 0, rfl, ((fun e9 => ⟨by rw [e9], by rw [e9]⟩ : fq_round f_sky a0 a1 = ((-1 : Int32), (0 : Int32)) → _) ((by rw [fq_round]; (try rw [← hq_r_1]); (try rw [xL_eq]); (try rw [if_neg c_2]); (try rw [← hq_r_3]); (try rw [xL_eq]); (try rw [if_pos c_6]); try rfl))), by rw [ht]; exact hP9, va_K.moved hW.alike hK9, hD9⟩, hS.F ht⟩) hS.2.2 dX12_round_31
    · refine lv_aload_n hx hb dX12_round_21 rfl (lv_at hl 0 rfl) ?_
      refine lv_lload_n hx hb dX12_round_22 rfl (lv_at hl 1 rfl) ?_
      refine lv_iload_n hx hb dX12_round_23 rfl (lv_at hl 2 rfl) ?_
      have hPc := hP.sub (ws' := [(mq, .inr (12, mF (upd g 2 0) gl rf)), (eA0 (rf 24) (ck 24) 14 f_sky)]) [0, 1] rfl
      have hKc := hK.sub (tys' := [((ck 24), .int)]) [0] rfl
      refine vp_callSi (W.runV (As := [.long a0, .int a1]) (rest := []) ⟨hx, hb, hml, hown, htw⟩ (gq_roundOf l dC dI mq (upd g 2 0) gl rf ck f_sky a0 a1 hs0 hs2 hs5) (cwV 2 htw (xg_V (ck_38 _ (List.mem_of_getElem? (i := 4) rfl)) (ck_38 _ (List.mem_of_getElem? (i := 5) rfl)) (ck_38 _ (List.mem_of_getElem? (i := 6) rfl)) (ck_1 _ (List.mem_of_getElem? (i := 5) rfl)) (ck_38 _ (List.mem_of_getElem? (i := 7) rfl))) rfl rfl rfl (by exact ⟨rfl, hdc_14.1, hdc_14.2, hdd_43⟩) ⟨Nat.le_of_ble_eq_true rfl, Nat.le_of_ble_eq_true rfl⟩) ⟨fun a U g mk q => by obtain ⟨q0, qP, qK⟩ := q; exact ⟨q0, qP, va_K.moved (u := U) (U := U.calling g mk a) (Vm.Alike.refl U.vm) qK⟩, va_recv hKc hPc (ci := 12) (q0 := 0) rfl rfl, fun U hU hW => ⟨rfl, by rw [hU]; exact hPc, va_K.moved hW.alike hKc⟩⟩ rfl rfl hl.1 rfl (lv_room (Nat.le_of_ble_eq_true rfl)) dX12_round_24 ⟨Nat.le_of_ble_eq_true rfl, Nat.le_of_ble_eq_true rfl⟩) (fun r_7 hw => ?_)
      try dsimp only at hw
      have hq_r_7 : r_7 = (fq_roundOf f_sky a0 a1) := hw
      refine lv_goto (tgt := 31) hx hb dX12_round_27 (by decide) ?_
      refine W.widen (k := 0) (n := 0) (by omega) (by omega) ?_
      have hP9 := hP
      have hD9 := hD
      have hK9 := hK.sub (tys' := []) [] rfl
      exact W.iret (v := r_7) hx hb hr (fun t ht hW => ⟨⟨r_7, 0, rfl, ((fun e9 => ⟨by rw [e9], by rw [e9]⟩ : fq_round f_sky a0 a1 = (r_7, (0 : Int32)) → _) ((by rw [fq_round]; (try rw [← hq_r_1]); (try rw [xL_eq]); (try rw [if_neg c_2]); (try rw [← hq_r_3]); (try rw [xL_eq]); (try rw [if_neg c_6]); (try rw [← hq_r_7]); (try rw [xL_eq]); try rfl))), by rw [ht]; exact hP9, va_K.moved hW.alike hK9, hD9⟩, hS.F ht⟩) hS.2.2 dX12_round_31

def fq_life (f_born : Nat → Int64) (f_died : Nat → Int64) (a0 : Int32) (a1 : Int32) (m_people : Int32) : Int64 × (Int32) := (xL ((fq_isPerson a0 m_people)) (fun r_1 => (if r_1 = 0 then ((-1 : Int64), (0 : Int32)) else (if a1 = 0 then (f_born a0.toNatClampNeg, (0 : Int32)) else (if a1 = 1 then (f_died a0.toNatClampNeg, (0 : Int32)) else ((-1 : Int64), (0 : Int32)))))))
theorem gq_life_s0 {y0 : Int32} {y1 : Int32} (h0 : ¬ (y0 < 0)) (h1 : y0 < y1) (h2 : ¬ (y1 < 0)) (h3 : y1 ≤ 6) : ¬ (y0 < 0) ∧ ¬ (12 ≤ y0) := by lia
theorem gq_life_s1 {y0 : Int32} {y1 : Int32} (h0 : ¬ (y0 < 0)) (h1 : y0 < y1) (h2 : ¬ (y1 < 0)) (h3 : y1 ≤ 6) : ¬ (y0 < 0) ∧ ¬ (12 ≤ y0) := gq_life_s0 h0 h1 h2 h3
theorem dX12_life_0 : decode cX12_life 0 = .ok (.aload_n 0, 1) := zk_42 (by decide +kernel)
theorem dX12_life_1 : decode cX12_life 1 = .ok (.iconst 0, 1) := zk_3 (by decide +kernel)
theorem dX12_life_2 : decode cX12_life 2 = .ok (.putfield 119, 3) := zk_181 (by decide +kernel)
theorem dX12_life_5 : decode cX12_life 5 = .ok (.aload_n 0, 1) := zk_42 (by decide +kernel)
theorem dX12_life_6 : decode cX12_life 6 = .ok (.iload_n 1, 1) := zk_27 (by decide +kernel)
theorem dX12_life_7 : decode cX12_life 7 = .ok (.invokevirtual 463, 3) := zk_182 (by decide +kernel)
theorem dX12_life_10 : decode cX12_life 10 = .ok (.ifCond .ne 9, 3) := zk_154 (by decide +kernel)
theorem dX12_life_19 : decode cX12_life 19 = .ok (.iload_n 2, 1) := zk_28 (by decide +kernel)
theorem dX12_life_20 : decode cX12_life 20 = .ok (.ifCond .ne 12, 3) := zk_154 (by decide +kernel)
theorem dX12_life_32 : decode cX12_life 32 = .ok (.iload_n 2, 1) := zk_28 (by decide +kernel)
theorem dX12_life_33 : decode cX12_life 33 = .ok (.iconst 1, 1) := zk_4 (by decide +kernel)
theorem dX12_life_34 : decode cX12_life 34 = .ok (.if_icmp .ne 12, 3) := zk_160 (by decide +kernel)
theorem dX12_life_46 : decode cX12_life 46 = .ok (.ldc2_w 273, 3) := zk_20 (by decide +kernel)
theorem dX12_life_49 : decode cX12_life 49 = .ok (.lreturn, 1) := zk_173 (by decide +kernel)
theorem dX12_life_37 : decode cX12_life 37 = .ok (.aload_n 0, 1) := zk_42 (by decide +kernel)
theorem dX12_life_38 : decode cX12_life 38 = .ok (.getfield 45, 3) := zk_180 (by decide +kernel)
theorem dX12_life_41 : decode cX12_life 41 = .ok (.iload_n 1, 1) := zk_27 (by decide +kernel)
theorem dX12_life_42 : decode cX12_life 42 = .ok (.laload, 1) := zk_47 (by decide +kernel)
theorem dX12_life_43 : decode cX12_life 43 = .ok (.goto 6, 3) := zk_167 (by decide +kernel)
theorem dX12_life_23 : decode cX12_life 23 = .ok (.aload_n 0, 1) := zk_42 (by decide +kernel)
theorem dX12_life_24 : decode cX12_life 24 = .ok (.getfield 41, 3) := zk_180 (by decide +kernel)
theorem dX12_life_27 : decode cX12_life 27 = .ok (.iload_n 1, 1) := zk_27 (by decide +kernel)
theorem dX12_life_28 : decode cX12_life 28 = .ok (.laload, 1) := zk_47 (by decide +kernel)
theorem dX12_life_29 : decode cX12_life 29 = .ok (.goto 20, 3) := zk_167 (by decide +kernel)
theorem dX12_life_13 : decode cX12_life 13 = .ok (.ldc2_w 273, 3) := zk_20 (by decide +kernel)
theorem dX12_life_16 : decode cX12_life 16 = .ok (.goto 33, 3) := zk_167 (by decide +kernel)
set_option maxHeartbeats 4000000 in
set_option maxRecDepth 100000 in
theorem gq_life (l : Launch) (dC : Nat → ClassId) (dI : Nat → Nat → Nat) (mq : Nat) (g : Nat → Int32) (gl : Nat → Int64) (rf : Nat → Nat) (ck : Nat → ClassId) (f_born : Nat → Int64) (f_died : Nat → Int64) (a0 : Int32) (a1 : Int32) (sz : Nat) (hp0 : ¬ (g 14) < 0) (hp6 : (g 14) ≤ 6) : Met l yX12_life (Cond.code yX12_life cX12_life 3 (some .long) :: wsL_law) ({ frames := 1, cells := 0, slots := 0, locals := 21 }) (va_Pc [.ref mq, .int a0, .int a1] (fun U => U.heap.size = sz ∧ va_P (dC, dI) vwCl [(mq, .inr (12, mF g gl rf)), (eA1 (rf 34) (ck 34) 12 f_born), (eA1 (rf 35) (ck 35) 12 f_died)] U.heap ∧ va_K (dC, dI) vwCl [((ck 34), .long), ((ck 35), .long)] U ∧ va_D (fun _ => True) [(mq, .inr (12, mF g gl rf)), (eA1 (rf 34) (ck 34) 12 f_born), (eA1 (rf 35) (ck 35) 12 f_died)])) (va_Ql (fun (r : Int64) (u : (Int32)) => r = (fq_life f_born f_died a0 a1 (g 14)).1 ∧ u = (fq_life f_born f_died a0 a1 (g 14)).2) (fun (u : (Int32)) t => va_P (dC, dI) vwCl [(mq, .inr (12, mF (upd g 2 u) gl rf)), (eA1 (rf 34) (ck 34) 12 f_born), (eA1 (rf 35) (ck 35) 12 f_died)] t.heap ∧ va_K (dC, dI) vwCl [] t ∧ va_D (va_A [(mq, .inr (12, mF g gl rf)), (eA1 (rf 34) (ck 34) 12 f_born), (eA1 (rf 35) (ck 35) 12 f_died)] sz) [(mq, .inr (12, mF (upd g 2 u) gl rf)), (eA1 (rf 34) (ck 34) 12 f_born), (eA1 (rf 35) (ck 35) 12 f_died)]) (va_A [(mq, .inr (12, mF g gl rf)), (eA1 (rf 34) (ck 34) 12 f_born), (eA1 (rf 35) (ck 35) 12 f_died)] sz)) 0 0 (va_A [(mq, .inr (12, mF g gl rf)), (eA1 (rf 34) (ck 34) 12 f_born), (eA1 (rf 35) (ck 35) 12 f_died)] sz) := by
  refine Met.ofW (cc := cX12_life) (maxL := 3) (ret := (some .long)) (by decide) rfl ?_
  intro p e s m args below meth c s₁ B hml hv
  obtain ⟨rfl, hsz, hP, hK, hD0⟩ := hv
  have hx := B.exec
  have hb := B.bytes
  have hr := B.returns
  have hts := atoms_spec (ws := Cond.code yX12_life cX12_life 3 (some .long) :: wsL_law) B.pre
  have htw : ∀ w ∈ wsL_law, w.before _ s = true := fun w h => hts w (List.mem_cons_of_mem _ h)
  have hown : s.vm.findClass RX12 = some m.cls := findClass_of_methodNamed B.named
  have hlocks := B.notSynchronized
  subst hsz
  have hD := hD0.self (sz := s.heap.size)
  generalize hAe : va_A [(mq, .inr (12, mF g gl rf)), (eA1 (rf 34) (ck 34) 12 f_born), (eA1 (rf 35) (ck 35) 12 f_died)] s.heap.size = A at hD ⊢
  have hA : ∀ q : Nat, s.heap.size ≤ q → A q := fun q h => by rw [← hAe]; exact Or.inr h
  obtain ⟨H, rH⟩ : ∃ z : Heap, z = s.heap := ⟨_, rfl⟩
  have hS : va_S A s.heap H [] := by rw [rH]; exact va_S.rf
  have hP : va_P (dC, dI) vwCl [(mq, .inr (12, mF g gl rf)), (eA1 (rf 34) (ck 34) 12 f_born), (eA1 (rf 35) (ck 35) 12 f_died)] H := by rw [rH]; exact hP
  rw [← rH]
  have hl := lv_entry ([.ref mq, .int a0, .int a1]) (n := 3) (Nat.le_of_ble_eq_true rfl)
  rw [lg_entry_eq]
  generalize (lg_sl ([.ref mq, .int a0, .int a1]) ++ List.replicate (3 - (lg_sl ([.ref mq, .int a0, .int a1])).length) Slot.unset).toArray = ls at hl ⊢
  have hl : lv_has ls 3 [(0, .ref mq), (1, .int a0), (2, .int a1)] := hl
  refine lv_aload_n hx hb dX12_life_0 rfl (lv_at hl 0 rfl) ?_
  refine lv_iconst (v := 0) hx hb dX12_life_1 (by decide) ?_
  refine va_put (D := (dC, dI)) (ci := 12) (v := .int 0) (ty := tyX12 2) (C := RX12) (T := TX12) (N := 76) hx hb htw inlX12 tyX12 tyX12_ok nmX12 hown hK hP hD hS 0 rfl rfl 2 (by decide) (htw _ (ck_12 _ (List.mem_of_getElem? (i := 16) rfl))) (fun _ h9 => h9) rfl (tyX12_ok 2 (by decide)) rfl rfl (Nat.le_of_ble_eq_true rfl) dX12_life_2 (fun H locs hP hD hS => ?_)
  obtain ⟨hP, hD⟩ := zre [(mq, .inr (12, mF (upd g 2 0) gl rf)), (eA1 (rf 34) (ck 34) 12 f_born), (eA1 (rf 35) (ck 35) 12 f_died)] hP hD rfl
  refine lv_aload_n hx hb dX12_life_5 rfl (lv_at hl 0 rfl) ?_
  refine lv_iload_n hx hb dX12_life_6 rfl (lv_at hl 1 rfl) ?_
  have hPc := hP.sub (ws' := [(mq, .inr (12, mF (upd g 2 0) gl rf))]) [0] rfl
  have hKc := hK.sub (tys' := []) [] rfl
  refine vp_callSi (W.runV (As := [.int a0]) (rest := []) ⟨hx, hb, hml, hown, htw⟩ (gq_isPerson l dC dI mq (upd g 2 0) gl rf a0) (cwV 1 htw (xg_V (ck_44 _ (List.mem_of_getElem? (i := 20) rfl)) (ck_44 _ (List.mem_of_getElem? (i := 21) rfl)) (ck_44 _ (List.mem_of_getElem? (i := 22) rfl)) (ck_1 _ (List.mem_of_getElem? (i := 5) rfl)) (ck_44 _ (List.mem_of_getElem? (i := 23) rfl))) rfl rfl rfl (by exact ⟨rfl, hdc_14.1, hdc_14.2, hdd_26⟩) ⟨Nat.le_of_ble_eq_true rfl, Nat.le_of_ble_eq_true rfl⟩) ⟨fun a U g mk q => by obtain ⟨q0, qP, qK⟩ := q; exact ⟨q0, qP, va_K.moved (u := U) (U := U.calling g mk a) (Vm.Alike.refl U.vm) qK⟩, va_recv hKc hPc (ci := 12) (q0 := 0) rfl rfl, fun U hU hW => ⟨rfl, by rw [hU]; exact hPc, va_K.moved hW.alike hKc⟩⟩ rfl rfl hl.1 rfl (lv_room (Nat.le_of_ble_eq_true rfl)) dX12_life_7 ⟨Nat.le_of_ble_eq_true rfl, Nat.le_of_ble_eq_true rfl⟩) (fun r_1 hw => ?_)
  try dsimp only at hw
  obtain ⟨hw, hb_r_1, hp_2, hp_3⟩ := hw
  have hq_r_1 : r_1 = (fq_isPerson a0 (g 14)) := hw
  refine lv_if_ne (tgt := 19) hx hb dX12_life_10 (by decide) (fun c_4 => ?_) (fun c_4 => ?_)
  · refine lv_iload_n hx hb dX12_life_19 rfl (lv_at hl 2 rfl) ?_
    refine lv_if_ne (tgt := 32) hx hb dX12_life_20 (by decide) (fun c_5 => ?_) (fun c_5 => ?_)
    · refine lv_iload_n hx hb dX12_life_32 rfl (lv_at hl 2 rfl) ?_
      refine lv_iconst (v := 1) hx hb dX12_life_33 (by decide) ?_
      refine lv_icmp_ne (tgt := 46) hx hb dX12_life_34 (by decide) (fun c_6 => ?_) (fun c_6 => ?_)
      · refine lv_ldc2 (v := (-1)) hx hb hown (htw _ (ck_29 _ (List.mem_of_getElem? (i := 13) rfl))) dX12_life_46 ?_
        refine W.widen (k := 0) (n := 0) (by omega) (by omega) ?_
        have hP9 := hP
        have hD9 := hD
        have hK9 := hK.sub (tys' := []) [] rfl
        exact W.lret (v := (-1)) hx hb hr (fun t ht hW => ⟨⟨(-1), 0, rfl, ((fun e9 => ⟨by rw [e9], by rw [e9]⟩ : fq_life f_born f_died a0 a1 (g 14) = ((-1 : Int64), (0 : Int32)) → _) ((by rw [fq_life]; (try rw [← hq_r_1]); (try rw [xL_eq]); (try rw [if_neg c_4]); (try rw [if_neg c_5]); (try rw [if_neg c_6]); try rfl))), by rw [ht]; exact hP9, va_K.moved hW.alike hK9, hD9⟩, hS.F ht⟩) hS.2.2 dX12_life_49
      · refine lv_aload_n hx hb dX12_life_37 rfl (lv_at hl 0 rfl) ?_
        refine va_get (D := (dC, dI)) (ci := 12) (v := .ref (rf 35)) (C := RX12) (T := TX12) (N := 76) hx hb htw inlX12 hown hK hP 0 rfl rfl 35 (by decide) (htw _ (ck_9 _ (List.mem_of_getElem? (i := 15) rfl))) (fun _ h9 => h9) rfl dX12_life_38 ?_
        refine lv_iload_n hx hb dX12_life_41 rfl (lv_at hl 1 rfl) ?_
        refine va_lald hx hb hK hP 2 1 rfl rfl (xg_inr (N := 12) rfl (gq_life_s0 (y0 := a0) (y1 := g 14) (hp_2.resolve_left c_4) (hp_3.resolve_left c_4) hp0 hp6).1 (gq_life_s0 (y0 := a0) (y1 := g 14) (hp_2.resolve_left c_4) (hp_3.resolve_left c_4) hp0 hp6).2) dX12_life_42 ?_
        refine lv_goto (tgt := 49) hx hb dX12_life_43 (by decide) ?_
        refine W.widen (k := 0) (n := 0) (by omega) (by omega) ?_
        have hP9 := hP
        have hD9 := hD
        have hK9 := hK.sub (tys' := []) [] rfl
        exact W.lret (v := f_died a0.toNatClampNeg) hx hb hr (fun t ht hW => ⟨⟨f_died a0.toNatClampNeg, 0, rfl, ((fun e9 => ⟨by rw [e9], by rw [e9]⟩ : fq_life f_born f_died a0 a1 (g 14) = (f_died a0.toNatClampNeg, (0 : Int32)) → _) ((by rw [fq_life]; (try rw [← hq_r_1]); (try rw [xL_eq]); (try rw [if_neg c_4]); (try rw [if_neg c_5]); (try rw [if_pos c_6]); try rfl))), by rw [ht]; exact hP9, va_K.moved hW.alike hK9, hD9⟩, hS.F ht⟩) hS.2.2 dX12_life_49
    · refine lv_aload_n hx hb dX12_life_23 rfl (lv_at hl 0 rfl) ?_
      refine va_get (D := (dC, dI)) (ci := 12) (v := .ref (rf 34)) (C := RX12) (T := TX12) (N := 76) hx hb htw inlX12 hown hK hP 0 rfl rfl 34 (by decide) (htw _ (ck_9 _ (List.mem_of_getElem? (i := 14) rfl))) (fun _ h9 => h9) rfl dX12_life_24 ?_
      refine lv_iload_n hx hb dX12_life_27 rfl (lv_at hl 1 rfl) ?_
      refine va_lald hx hb hK hP 1 0 rfl rfl (xg_inr (N := 12) rfl (gq_life_s1 (y0 := a0) (y1 := g 14) (hp_2.resolve_left c_4) (hp_3.resolve_left c_4) hp0 hp6).1 (gq_life_s1 (y0 := a0) (y1 := g 14) (hp_2.resolve_left c_4) (hp_3.resolve_left c_4) hp0 hp6).2) dX12_life_28 ?_
      refine lv_goto (tgt := 49) hx hb dX12_life_29 (by decide) ?_
      refine W.widen (k := 0) (n := 0) (by omega) (by omega) ?_
      have hP9 := hP
      have hD9 := hD
      have hK9 := hK.sub (tys' := []) [] rfl
      exact W.lret (v := f_born a0.toNatClampNeg) hx hb hr (fun t ht hW => ⟨⟨f_born a0.toNatClampNeg, 0, rfl, ((fun e9 => ⟨by rw [e9], by rw [e9]⟩ : fq_life f_born f_died a0 a1 (g 14) = (f_born a0.toNatClampNeg, (0 : Int32)) → _) ((by rw [fq_life]; (try rw [← hq_r_1]); (try rw [xL_eq]); (try rw [if_neg c_4]); (try rw [if_pos c_5]); try rfl))), by rw [ht]; exact hP9, va_K.moved hW.alike hK9, hD9⟩, hS.F ht⟩) hS.2.2 dX12_life_49
  · refine lv_ldc2 (v := (-1)) hx hb hown (htw _ (ck_29 _ (List.mem_of_getElem? (i := 13) rfl))) dX12_life_13 ?_
    refine lv_goto (tgt := 49) hx hb dX12_life_16 (by decide) ?_
    refine W.widen (k := 0) (n := 0) (by omega) (by omega) ?_
    have hP9 := hP
    have hD9 := hD
    have hK9 := hK.sub (tys' := []) [] rfl
    exact W.lret (v := (-1)) hx hb hr (fun t ht hW => ⟨⟨(-1), 0, rfl, ((fun e9 => ⟨by rw [e9], by rw [e9]⟩ : fq_life f_born f_died a0 a1 (g 14) = ((-1 : Int64), (0 : Int32)) → _) ((by rw [fq_life]; (try rw [← hq_r_1]); (try rw [xL_eq]); (try rw [if_pos c_4]); try rfl))), by rw [ht]; exact hP9, va_K.moved hW.alike hK9, hD9⟩, hS.F ht⟩) hS.2.2 dX12_life_49

def fq_elder (f_born : Nat → Int64) (a0 : Int32) (a1 : Int32) (m_people : Int32) : Int32 × (Int32) := (xL ((fq_isPerson a0 m_people)) (fun r_1 => (if r_1 = 0 then ((-1 : Int32), (0 : Int32)) else (xL ((fq_isPerson a1 m_people)) (fun r_5 => (if r_5 = 0 then ((-1 : Int32), (0 : Int32)) else (if 0 ≤ lg_cmp (f_born a1.toNatClampNeg) (f_born a0.toNatClampNeg) then (a0, (0 : Int32)) else (a1, (0 : Int32)))))))))
theorem gq_elder_s0 {y0 : Int32} {y1 : Int32} {y2 : Int32} (h0 : ¬ (y1 < 0)) (h1 : y1 < y2) (h2 : ¬ (y0 < 0)) (h3 : y0 < y2) (h4 : ¬ (y2 < 0)) (h5 : y2 ≤ 6) : ¬ (y0 < 0) ∧ ¬ (12 ≤ y0) := by lia
theorem gq_elder_s1 {y0 : Int32} {y1 : Int32} {y2 : Int32} (h0 : ¬ (y0 < 0)) (h1 : y0 < y1) (h2 : ¬ (y2 < 0)) (h3 : y2 < y1) (h4 : ¬ (y1 < 0)) (h5 : y1 ≤ 6) : ¬ (y0 < 0) ∧ ¬ (12 ≤ y0) := by lia
theorem dX12_elder_0 : decode cX12_elder 0 = .ok (.aload_n 0, 1) := zk_42 (by decide +kernel)
theorem dX12_elder_1 : decode cX12_elder 1 = .ok (.iconst 0, 1) := zk_3 (by decide +kernel)
theorem dX12_elder_2 : decode cX12_elder 2 = .ok (.putfield 119, 3) := zk_181 (by decide +kernel)
theorem dX12_elder_5 : decode cX12_elder 5 = .ok (.aload_n 0, 1) := zk_42 (by decide +kernel)
theorem dX12_elder_6 : decode cX12_elder 6 = .ok (.iload_n 1, 1) := zk_27 (by decide +kernel)
theorem dX12_elder_7 : decode cX12_elder 7 = .ok (.invokevirtual 463, 3) := zk_182 (by decide +kernel)
theorem dX12_elder_10 : decode cX12_elder 10 = .ok (.ifCond .eq 11, 3) := zk_153 (by decide +kernel)
theorem dX12_elder_21 : decode cX12_elder 21 = .ok (.iconst (-1), 1) := zk_2 (by decide +kernel)
theorem dX12_elder_22 : decode cX12_elder 22 = .ok (.goto 24, 3) := zk_167 (by decide +kernel)
theorem dX12_elder_46 : decode cX12_elder 46 = .ok (.ireturn, 1) := zk_172 (by decide +kernel)
theorem dX12_elder_13 : decode cX12_elder 13 = .ok (.aload_n 0, 1) := zk_42 (by decide +kernel)
theorem dX12_elder_14 : decode cX12_elder 14 = .ok (.iload_n 2, 1) := zk_28 (by decide +kernel)
theorem dX12_elder_15 : decode cX12_elder 15 = .ok (.invokevirtual 463, 3) := zk_182 (by decide +kernel)
theorem dX12_elder_18 : decode cX12_elder 18 = .ok (.ifCond .ne 7, 3) := zk_154 (by decide +kernel)
theorem dX12_elder_25 : decode cX12_elder 25 = .ok (.aload_n 0, 1) := zk_42 (by decide +kernel)
theorem dX12_elder_26 : decode cX12_elder 26 = .ok (.getfield 41, 3) := zk_180 (by decide +kernel)
theorem dX12_elder_29 : decode cX12_elder 29 = .ok (.iload_n 2, 1) := zk_28 (by decide +kernel)
theorem dX12_elder_30 : decode cX12_elder 30 = .ok (.laload, 1) := zk_47 (by decide +kernel)
theorem dX12_elder_31 : decode cX12_elder 31 = .ok (.aload_n 0, 1) := zk_42 (by decide +kernel)
theorem dX12_elder_32 : decode cX12_elder 32 = .ok (.getfield 41, 3) := zk_180 (by decide +kernel)
theorem dX12_elder_35 : decode cX12_elder 35 = .ok (.iload_n 1, 1) := zk_27 (by decide +kernel)
theorem dX12_elder_36 : decode cX12_elder 36 = .ok (.laload, 1) := zk_47 (by decide +kernel)
theorem dX12_elder_37 : decode cX12_elder 37 = .ok (.lcmp, 1) := zk_148 (by decide +kernel)
theorem dX12_elder_38 : decode cX12_elder 38 = .ok (.ifCond .ge 7, 3) := zk_156 (by decide +kernel)
theorem dX12_elder_45 : decode cX12_elder 45 = .ok (.iload_n 1, 1) := zk_27 (by decide +kernel)
theorem dX12_elder_41 : decode cX12_elder 41 = .ok (.iload_n 2, 1) := zk_28 (by decide +kernel)
theorem dX12_elder_42 : decode cX12_elder 42 = .ok (.goto 4, 3) := zk_167 (by decide +kernel)
set_option maxHeartbeats 4000000 in
set_option maxRecDepth 100000 in
theorem gq_elder (l : Launch) (dC : Nat → ClassId) (dI : Nat → Nat → Nat) (mq : Nat) (g : Nat → Int32) (gl : Nat → Int64) (rf : Nat → Nat) (ck : Nat → ClassId) (f_born : Nat → Int64) (a0 : Int32) (a1 : Int32) (sz : Nat) (hp0 : ¬ (g 14) < 0) (hp6 : (g 14) ≤ 6) : Met l yX12_elder (Cond.code yX12_elder cX12_elder 3 (some .int) :: wsL_law) ({ frames := 1, cells := 0, slots := 0, locals := 21 }) (va_Pc [.ref mq, .int a0, .int a1] (fun U => U.heap.size = sz ∧ va_P (dC, dI) vwCl [(mq, .inr (12, mF g gl rf)), (eA1 (rf 34) (ck 34) 12 f_born)] U.heap ∧ va_K (dC, dI) vwCl [((ck 34), .long)] U ∧ va_D (fun _ => True) [(mq, .inr (12, mF g gl rf)), (eA1 (rf 34) (ck 34) 12 f_born)])) (va_Qi (fun (r : Int32) (u : (Int32)) => r = (fq_elder f_born a0 a1 (g 14)).1 ∧ u = (fq_elder f_born a0 a1 (g 14)).2) (fun (u : (Int32)) t => va_P (dC, dI) vwCl [(mq, .inr (12, mF (upd g 2 u) gl rf)), (eA1 (rf 34) (ck 34) 12 f_born)] t.heap ∧ va_K (dC, dI) vwCl [] t ∧ va_D (va_A [(mq, .inr (12, mF g gl rf)), (eA1 (rf 34) (ck 34) 12 f_born)] sz) [(mq, .inr (12, mF (upd g 2 u) gl rf)), (eA1 (rf 34) (ck 34) 12 f_born)]) (va_A [(mq, .inr (12, mF g gl rf)), (eA1 (rf 34) (ck 34) 12 f_born)] sz)) 0 0 (va_A [(mq, .inr (12, mF g gl rf)), (eA1 (rf 34) (ck 34) 12 f_born)] sz) := by
  refine Met.ofW (cc := cX12_elder) (maxL := 3) (ret := (some .int)) (by decide) rfl ?_
  intro p e s m args below meth c s₁ B hml hv
  obtain ⟨rfl, hsz, hP, hK, hD0⟩ := hv
  have hx := B.exec
  have hb := B.bytes
  have hr := B.returns
  have hts := atoms_spec (ws := Cond.code yX12_elder cX12_elder 3 (some .int) :: wsL_law) B.pre
  have htw : ∀ w ∈ wsL_law, w.before _ s = true := fun w h => hts w (List.mem_cons_of_mem _ h)
  have hown : s.vm.findClass RX12 = some m.cls := findClass_of_methodNamed B.named
  have hlocks := B.notSynchronized
  subst hsz
  have hD := hD0.self (sz := s.heap.size)
  generalize hAe : va_A [(mq, .inr (12, mF g gl rf)), (eA1 (rf 34) (ck 34) 12 f_born)] s.heap.size = A at hD ⊢
  have hA : ∀ q : Nat, s.heap.size ≤ q → A q := fun q h => by rw [← hAe]; exact Or.inr h
  obtain ⟨H, rH⟩ : ∃ z : Heap, z = s.heap := ⟨_, rfl⟩
  have hS : va_S A s.heap H [] := by rw [rH]; exact va_S.rf
  have hP : va_P (dC, dI) vwCl [(mq, .inr (12, mF g gl rf)), (eA1 (rf 34) (ck 34) 12 f_born)] H := by rw [rH]; exact hP
  rw [← rH]
  have hl := lv_entry ([.ref mq, .int a0, .int a1]) (n := 3) (Nat.le_of_ble_eq_true rfl)
  rw [lg_entry_eq]
  generalize (lg_sl ([.ref mq, .int a0, .int a1]) ++ List.replicate (3 - (lg_sl ([.ref mq, .int a0, .int a1])).length) Slot.unset).toArray = ls at hl ⊢
  have hl : lv_has ls 3 [(0, .ref mq), (1, .int a0), (2, .int a1)] := hl
  refine lv_aload_n hx hb dX12_elder_0 rfl (lv_at hl 0 rfl) ?_
  refine lv_iconst (v := 0) hx hb dX12_elder_1 (by decide) ?_
  refine va_put (D := (dC, dI)) (ci := 12) (v := .int 0) (ty := tyX12 2) (C := RX12) (T := TX12) (N := 76) hx hb htw inlX12 tyX12 tyX12_ok nmX12 hown hK hP hD hS 0 rfl rfl 2 (by decide) (htw _ (ck_12 _ (List.mem_of_getElem? (i := 16) rfl))) (fun _ h9 => h9) rfl (tyX12_ok 2 (by decide)) rfl rfl (Nat.le_of_ble_eq_true rfl) dX12_elder_2 (fun H locs hP hD hS => ?_)
  obtain ⟨hP, hD⟩ := zre [(mq, .inr (12, mF (upd g 2 0) gl rf)), (eA1 (rf 34) (ck 34) 12 f_born)] hP hD rfl
  refine lv_aload_n hx hb dX12_elder_5 rfl (lv_at hl 0 rfl) ?_
  refine lv_iload_n hx hb dX12_elder_6 rfl (lv_at hl 1 rfl) ?_
  have hPc := hP.sub (ws' := [(mq, .inr (12, mF (upd g 2 0) gl rf))]) [0] rfl
  have hKc := hK.sub (tys' := []) [] rfl
  refine vp_callSi (W.runV (As := [.int a0]) (rest := []) ⟨hx, hb, hml, hown, htw⟩ (gq_isPerson l dC dI mq (upd g 2 0) gl rf a0) (cwV 1 htw (xg_V (ck_44 _ (List.mem_of_getElem? (i := 20) rfl)) (ck_44 _ (List.mem_of_getElem? (i := 21) rfl)) (ck_44 _ (List.mem_of_getElem? (i := 22) rfl)) (ck_1 _ (List.mem_of_getElem? (i := 5) rfl)) (ck_44 _ (List.mem_of_getElem? (i := 23) rfl))) rfl rfl rfl (by exact ⟨rfl, hdc_14.1, hdc_14.2, hdd_26⟩) ⟨Nat.le_of_ble_eq_true rfl, Nat.le_of_ble_eq_true rfl⟩) ⟨fun a U g mk q => by obtain ⟨q0, qP, qK⟩ := q; exact ⟨q0, qP, va_K.moved (u := U) (U := U.calling g mk a) (Vm.Alike.refl U.vm) qK⟩, va_recv hKc hPc (ci := 12) (q0 := 0) rfl rfl, fun U hU hW => ⟨rfl, by rw [hU]; exact hPc, va_K.moved hW.alike hKc⟩⟩ rfl rfl hl.1 rfl (lv_room (Nat.le_of_ble_eq_true rfl)) dX12_elder_7 ⟨Nat.le_of_ble_eq_true rfl, Nat.le_of_ble_eq_true rfl⟩) (fun r_1 hw => ?_)
  try dsimp only at hw
  obtain ⟨hw, hb_r_1, hp_2, hp_3⟩ := hw
  have hq_r_1 : r_1 = (fq_isPerson a0 (g 14)) := hw
  refine lv_if_eq (tgt := 21) hx hb dX12_elder_10 (by decide) (fun c_4 => ?_) (fun c_4 => ?_)
  · refine lv_iconst (v := (-1)) hx hb dX12_elder_21 (by decide) ?_
    refine lv_goto (tgt := 46) hx hb dX12_elder_22 (by decide) ?_
    refine W.widen (k := 0) (n := 0) (by omega) (by omega) ?_
    have hP9 := hP
    have hD9 := hD
    have hK9 := hK.sub (tys' := []) [] rfl
    exact W.iret (v := (-1)) hx hb hr (fun t ht hW => ⟨⟨(-1), 0, rfl, ((fun e9 => ⟨by rw [e9], by rw [e9]⟩ : fq_elder f_born a0 a1 (g 14) = ((-1 : Int32), (0 : Int32)) → _) ((by rw [fq_elder]; (try rw [← hq_r_1]); (try rw [xL_eq]); (try rw [if_pos c_4]); try rfl))), by rw [ht]; exact hP9, va_K.moved hW.alike hK9, hD9⟩, hS.F ht⟩) hS.2.2 dX12_elder_46
  · refine lv_aload_n hx hb dX12_elder_13 rfl (lv_at hl 0 rfl) ?_
    refine lv_iload_n hx hb dX12_elder_14 rfl (lv_at hl 2 rfl) ?_
    have hPc := hP.sub (ws' := [(mq, .inr (12, mF (upd g 2 0) gl rf))]) [0] rfl
    have hKc := hK.sub (tys' := []) [] rfl
    refine vp_callSi (W.runV (As := [.int a1]) (rest := []) ⟨hx, hb, hml, hown, htw⟩ (gq_isPerson l dC dI mq (upd g 2 0) gl rf a1) (cwV 1 htw (xg_V (ck_44 _ (List.mem_of_getElem? (i := 20) rfl)) (ck_44 _ (List.mem_of_getElem? (i := 21) rfl)) (ck_44 _ (List.mem_of_getElem? (i := 22) rfl)) (ck_1 _ (List.mem_of_getElem? (i := 5) rfl)) (ck_44 _ (List.mem_of_getElem? (i := 23) rfl))) rfl rfl rfl (by exact ⟨rfl, hdc_14.1, hdc_14.2, hdd_26⟩) ⟨Nat.le_of_ble_eq_true rfl, Nat.le_of_ble_eq_true rfl⟩) ⟨fun a U g mk q => by obtain ⟨q0, qP, qK⟩ := q; exact ⟨q0, qP, va_K.moved (u := U) (U := U.calling g mk a) (Vm.Alike.refl U.vm) qK⟩, va_recv hKc hPc (ci := 12) (q0 := 0) rfl rfl, fun U hU hW => ⟨rfl, by rw [hU]; exact hPc, va_K.moved hW.alike hKc⟩⟩ rfl rfl hl.1 rfl (lv_room (Nat.le_of_ble_eq_true rfl)) dX12_elder_15 ⟨Nat.le_of_ble_eq_true rfl, Nat.le_of_ble_eq_true rfl⟩) (fun r_5 hw => ?_)
    try dsimp only at hw
    obtain ⟨hw, hb_r_5, hp_6, hp_7⟩ := hw
    have hq_r_5 : r_5 = (fq_isPerson a1 (g 14)) := hw
    refine lv_if_ne (tgt := 25) hx hb dX12_elder_18 (by decide) (fun c_8 => ?_) (fun c_8 => ?_)
    · refine lv_aload_n hx hb dX12_elder_25 rfl (lv_at hl 0 rfl) ?_
      refine va_get (D := (dC, dI)) (ci := 12) (v := .ref (rf 34)) (C := RX12) (T := TX12) (N := 76) hx hb htw inlX12 hown hK hP 0 rfl rfl 34 (by decide) (htw _ (ck_9 _ (List.mem_of_getElem? (i := 14) rfl))) (fun _ h9 => h9) rfl dX12_elder_26 ?_
      refine lv_iload_n hx hb dX12_elder_29 rfl (lv_at hl 2 rfl) ?_
      refine va_lald hx hb hK hP 1 0 rfl rfl (xg_inr (N := 12) rfl (gq_elder_s0 (y0 := a1) (y1 := a0) (y2 := g 14) (hp_2.resolve_left c_4) (hp_3.resolve_left c_4) (hp_6.resolve_left c_8) (hp_7.resolve_left c_8) hp0 hp6).1 (gq_elder_s0 (y0 := a1) (y1 := a0) (y2 := g 14) (hp_2.resolve_left c_4) (hp_3.resolve_left c_4) (hp_6.resolve_left c_8) (hp_7.resolve_left c_8) hp0 hp6).2) dX12_elder_30 ?_
      refine lv_aload_n hx hb dX12_elder_31 rfl (lv_at hl 0 rfl) ?_
      refine va_get (D := (dC, dI)) (ci := 12) (v := .ref (rf 34)) (C := RX12) (T := TX12) (N := 76) hx hb htw inlX12 hown hK hP 0 rfl rfl 34 (by decide) (htw _ (ck_9 _ (List.mem_of_getElem? (i := 14) rfl))) (fun _ h9 => h9) rfl dX12_elder_32 ?_
      refine lv_iload_n hx hb dX12_elder_35 rfl (lv_at hl 1 rfl) ?_
      refine va_lald hx hb hK hP 1 0 rfl rfl (xg_inr (N := 12) rfl (gq_elder_s1 (y0 := a0) (y1 := g 14) (y2 := a1) (hp_2.resolve_left c_4) (hp_3.resolve_left c_4) (hp_6.resolve_left c_8) (hp_7.resolve_left c_8) hp0 hp6).1 (gq_elder_s1 (y0 := a0) (y1 := g 14) (y2 := a1) (hp_2.resolve_left c_4) (hp_3.resolve_left c_4) (hp_6.resolve_left c_8) (hp_7.resolve_left c_8) hp0 hp6).2) dX12_elder_36 ?_
      refine W.lcmp hx hb dX12_elder_37 ?_
      refine lv_if_ge (tgt := 45) hx hb dX12_elder_38 (by decide) (fun c_9 => ?_) (fun c_9 => ?_)
      · refine lv_iload_n hx hb dX12_elder_45 rfl (lv_at hl 1 rfl) ?_
        refine W.widen (k := 0) (n := 0) (by omega) (by omega) ?_
        have hP9 := hP
        have hD9 := hD
        have hK9 := hK.sub (tys' := []) [] rfl
        exact W.iret (v := a0) hx hb hr (fun t ht hW => ⟨⟨a0, 0, rfl, ((fun e9 => ⟨by rw [e9], by rw [e9]⟩ : fq_elder f_born a0 a1 (g 14) = (a0, (0 : Int32)) → _) ((by rw [fq_elder]; (try rw [← hq_r_1]); (try rw [xL_eq]); (try rw [if_neg c_4]); (try rw [← hq_r_5]); (try rw [xL_eq]); (try rw [if_neg c_8]); (try rw [if_pos c_9]); try rfl))), by rw [ht]; exact hP9, va_K.moved hW.alike hK9, hD9⟩, hS.F ht⟩) hS.2.2 dX12_elder_46
      · refine lv_iload_n hx hb dX12_elder_41 rfl (lv_at hl 2 rfl) ?_
        refine lv_goto (tgt := 46) hx hb dX12_elder_42 (by decide) ?_
        refine W.widen (k := 0) (n := 0) (by omega) (by omega) ?_
        have hP9 := hP
        have hD9 := hD
        have hK9 := hK.sub (tys' := []) [] rfl
        exact W.iret (v := a1) hx hb hr (fun t ht hW => ⟨⟨a1, 0, rfl, ((fun e9 => ⟨by rw [e9], by rw [e9]⟩ : fq_elder f_born a0 a1 (g 14) = (a1, (0 : Int32)) → _) ((by rw [fq_elder]; (try rw [← hq_r_1]); (try rw [xL_eq]); (try rw [if_neg c_4]); (try rw [← hq_r_5]); (try rw [xL_eq]); (try rw [if_neg c_8]); (try rw [if_neg c_9]); try rfl))), by rw [ht]; exact hP9, va_K.moved hW.alike hK9, hD9⟩, hS.F ht⟩) hS.2.2 dX12_elder_46
    · refine lv_iconst (v := (-1)) hx hb dX12_elder_21 (by decide) ?_
      refine lv_goto (tgt := 46) hx hb dX12_elder_22 (by decide) ?_
      refine W.widen (k := 0) (n := 0) (by omega) (by omega) ?_
      have hP9 := hP
      have hD9 := hD
      have hK9 := hK.sub (tys' := []) [] rfl
      exact W.iret (v := (-1)) hx hb hr (fun t ht hW => ⟨⟨(-1), 0, rfl, ((fun e9 => ⟨by rw [e9], by rw [e9]⟩ : fq_elder f_born a0 a1 (g 14) = ((-1 : Int32), (0 : Int32)) → _) ((by rw [fq_elder]; (try rw [← hq_r_1]); (try rw [xL_eq]); (try rw [if_neg c_4]); (try rw [← hq_r_5]); (try rw [xL_eq]); (try rw [if_pos c_8]); try rfl))), by rw [ht]; exact hP9, va_K.moved hW.alike hK9, hD9⟩, hS.F ht⟩) hS.2.2 dX12_elder_46

def fq_fault (a0 : Int32) (m_fault : Int32) (m_faultPlace : Int32) : Int32 × (Int32) := (if a0 = 0 then (m_fault, (0 : Int32)) else (if a0 = 1 then (m_faultPlace, (0 : Int32)) else ((-1 : Int32), (0 : Int32))))
theorem dX12_fault_0 : decode cX12_fault 0 = .ok (.aload_n 0, 1) := zk_42 (by decide +kernel)
theorem dX12_fault_1 : decode cX12_fault 1 = .ok (.iconst 0, 1) := zk_3 (by decide +kernel)
theorem dX12_fault_2 : decode cX12_fault 2 = .ok (.putfield 119, 3) := zk_181 (by decide +kernel)
theorem dX12_fault_5 : decode cX12_fault 5 = .ok (.iload_n 1, 1) := zk_27 (by decide +kernel)
theorem dX12_fault_6 : decode cX12_fault 6 = .ok (.ifCond .ne 10, 3) := zk_154 (by decide +kernel)
theorem dX12_fault_16 : decode cX12_fault 16 = .ok (.iload_n 1, 1) := zk_27 (by decide +kernel)
theorem dX12_fault_17 : decode cX12_fault 17 = .ok (.iconst 1, 1) := zk_4 (by decide +kernel)
theorem dX12_fault_18 : decode cX12_fault 18 = .ok (.if_icmp .ne 10, 3) := zk_160 (by decide +kernel)
theorem dX12_fault_28 : decode cX12_fault 28 = .ok (.iconst (-1), 1) := zk_2 (by decide +kernel)
theorem dX12_fault_29 : decode cX12_fault 29 = .ok (.ireturn, 1) := zk_172 (by decide +kernel)
theorem dX12_fault_21 : decode cX12_fault 21 = .ok (.aload_n 0, 1) := zk_42 (by decide +kernel)
theorem dX12_fault_22 : decode cX12_fault 22 = .ok (.getfield 16, 3) := zk_180 (by decide +kernel)
theorem dX12_fault_25 : decode cX12_fault 25 = .ok (.goto 4, 3) := zk_167 (by decide +kernel)
theorem dX12_fault_9 : decode cX12_fault 9 = .ok (.aload_n 0, 1) := zk_42 (by decide +kernel)
theorem dX12_fault_10 : decode cX12_fault 10 = .ok (.getfield 127, 3) := zk_180 (by decide +kernel)
theorem dX12_fault_13 : decode cX12_fault 13 = .ok (.goto 16, 3) := zk_167 (by decide +kernel)
set_option maxHeartbeats 4000000 in
set_option maxRecDepth 100000 in
theorem gq_fault (l : Launch) (dC : Nat → ClassId) (dI : Nat → Nat → Nat) (mq : Nat) (g : Nat → Int32) (gl : Nat → Int64) (rf : Nat → Nat) (a0 : Int32) (sz : Nat) : Met l yX12_fault (Cond.code yX12_fault cX12_fault 2 (some .int) :: wsL_law) ({ frames := 0, cells := 0, slots := 0, locals := 0 }) (va_Pc [.ref mq, .int a0] (fun U => U.heap.size = sz ∧ va_P (dC, dI) vwCl [(mq, .inr (12, mF g gl rf))] U.heap ∧ va_K (dC, dI) vwCl [] U ∧ va_D (fun _ => True) [(mq, .inr (12, mF g gl rf))])) (va_Qi (fun (r : Int32) (u : (Int32)) => r = (fq_fault a0 (g 4) (g 5)).1 ∧ u = (fq_fault a0 (g 4) (g 5)).2) (fun (u : (Int32)) t => va_P (dC, dI) vwCl [(mq, .inr (12, mF (upd g 2 u) gl rf))] t.heap ∧ va_K (dC, dI) vwCl [] t ∧ va_D (va_A [(mq, .inr (12, mF g gl rf))] sz) [(mq, .inr (12, mF (upd g 2 u) gl rf))]) (va_A [(mq, .inr (12, mF g gl rf))] sz)) 0 0 (va_A [(mq, .inr (12, mF g gl rf))] sz) := by
  refine Met.ofW (cc := cX12_fault) (maxL := 2) (ret := (some .int)) (by decide) rfl ?_
  intro p e s m args below meth c s₁ B hml hv
  obtain ⟨rfl, hsz, hP, hK, hD0⟩ := hv
  have hx := B.exec
  have hb := B.bytes
  have hr := B.returns
  have hts := atoms_spec (ws := Cond.code yX12_fault cX12_fault 2 (some .int) :: wsL_law) B.pre
  have htw : ∀ w ∈ wsL_law, w.before _ s = true := fun w h => hts w (List.mem_cons_of_mem _ h)
  have hown : s.vm.findClass RX12 = some m.cls := findClass_of_methodNamed B.named
  have hlocks := B.notSynchronized
  subst hsz
  have hD := hD0.self (sz := s.heap.size)
  generalize hAe : va_A [(mq, .inr (12, mF g gl rf))] s.heap.size = A at hD ⊢
  have hA : ∀ q : Nat, s.heap.size ≤ q → A q := fun q h => by rw [← hAe]; exact Or.inr h
  obtain ⟨H, rH⟩ : ∃ z : Heap, z = s.heap := ⟨_, rfl⟩
  have hS : va_S A s.heap H [] := by rw [rH]; exact va_S.rf
  have hP : va_P (dC, dI) vwCl [(mq, .inr (12, mF g gl rf))] H := by rw [rH]; exact hP
  rw [← rH]
  have hl := lv_entry ([.ref mq, .int a0]) (n := 2) (Nat.le_of_ble_eq_true rfl)
  rw [lg_entry_eq]
  generalize (lg_sl ([.ref mq, .int a0]) ++ List.replicate (2 - (lg_sl ([.ref mq, .int a0])).length) Slot.unset).toArray = ls at hl ⊢
  have hl : lv_has ls 2 [(0, .ref mq), (1, .int a0)] := hl
  refine lv_aload_n hx hb dX12_fault_0 rfl (lv_at hl 0 rfl) ?_
  refine lv_iconst (v := 0) hx hb dX12_fault_1 (by decide) ?_
  refine va_put (D := (dC, dI)) (ci := 12) (v := .int 0) (ty := tyX12 2) (C := RX12) (T := TX12) (N := 76) hx hb htw inlX12 tyX12 tyX12_ok nmX12 hown hK hP hD hS 0 rfl rfl 2 (by decide) (htw _ (ck_12 _ (List.mem_of_getElem? (i := 16) rfl))) (fun _ h9 => h9) rfl (tyX12_ok 2 (by decide)) rfl rfl (Nat.le_of_ble_eq_true rfl) dX12_fault_2 (fun H locs hP hD hS => ?_)
  obtain ⟨hP, hD⟩ := zre [(mq, .inr (12, mF (upd g 2 0) gl rf))] hP hD rfl
  refine lv_iload_n hx hb dX12_fault_5 rfl (lv_at hl 1 rfl) ?_
  refine lv_if_ne (tgt := 16) hx hb dX12_fault_6 (by decide) (fun c_1 => ?_) (fun c_1 => ?_)
  · refine lv_iload_n hx hb dX12_fault_16 rfl (lv_at hl 1 rfl) ?_
    refine lv_iconst (v := 1) hx hb dX12_fault_17 (by decide) ?_
    refine lv_icmp_ne (tgt := 28) hx hb dX12_fault_18 (by decide) (fun c_2 => ?_) (fun c_2 => ?_)
    · refine lv_iconst (v := (-1)) hx hb dX12_fault_28 (by decide) ?_
      refine W.widen (k := 0) (n := 0) (by omega) (by omega) ?_
      have hP9 := hP
      have hD9 := hD
      have hK9 := hK.sub (tys' := []) [] rfl
      exact W.iret (v := (-1)) hx hb hr (fun t ht hW => ⟨⟨(-1), 0, rfl, ((fun e9 => ⟨by rw [e9], by rw [e9]⟩ : fq_fault a0 (g 4) (g 5) = ((-1 : Int32), (0 : Int32)) → _) ((by rw [fq_fault]; (try rw [if_neg c_1]); (try rw [if_neg c_2]); try rfl))), by rw [ht]; exact hP9, va_K.moved hW.alike hK9, hD9⟩, hS.F ht⟩) hS.2.2 dX12_fault_29
    · refine lv_aload_n hx hb dX12_fault_21 rfl (lv_at hl 0 rfl) ?_
      refine va_get (D := (dC, dI)) (ci := 12) (v := .int (g 5)) (C := RX12) (T := TX12) (N := 76) hx hb htw inlX12 hown hK hP 0 rfl rfl 5 (by decide) (htw _ (ck_9 _ (List.mem_of_getElem? (i := 6) rfl))) (fun _ h9 => h9) rfl dX12_fault_22 ?_
      refine lv_goto (tgt := 29) hx hb dX12_fault_25 (by decide) ?_
      refine W.widen (k := 0) (n := 0) (by omega) (by omega) ?_
      have hP9 := hP
      have hD9 := hD
      have hK9 := hK.sub (tys' := []) [] rfl
      exact W.iret (v := (g 5)) hx hb hr (fun t ht hW => ⟨⟨(g 5), 0, rfl, ((fun e9 => ⟨by rw [e9], by rw [e9]⟩ : fq_fault a0 (g 4) (g 5) = ((g 5), (0 : Int32)) → _) ((by rw [fq_fault]; (try rw [if_neg c_1]); (try rw [if_pos c_2]); try rfl))), by rw [ht]; exact hP9, va_K.moved hW.alike hK9, hD9⟩, hS.F ht⟩) hS.2.2 dX12_fault_29
  · refine lv_aload_n hx hb dX12_fault_9 rfl (lv_at hl 0 rfl) ?_
    refine va_get (D := (dC, dI)) (ci := 12) (v := .int (g 4)) (C := RX12) (T := TX12) (N := 76) hx hb htw inlX12 hown hK hP 0 rfl rfl 4 (by decide) (htw _ (ck_24 _ (List.mem_of_getElem? (i := 11) rfl))) (fun _ h9 => h9) rfl dX12_fault_10 ?_
    refine lv_goto (tgt := 29) hx hb dX12_fault_13 (by decide) ?_
    refine W.widen (k := 0) (n := 0) (by omega) (by omega) ?_
    have hP9 := hP
    have hD9 := hD
    have hK9 := hK.sub (tys' := []) [] rfl
    exact W.iret (v := (g 4)) hx hb hr (fun t ht hW => ⟨⟨(g 4), 0, rfl, ((fun e9 => ⟨by rw [e9], by rw [e9]⟩ : fq_fault a0 (g 4) (g 5) = ((g 4), (0 : Int32)) → _) ((by rw [fq_fault]; (try rw [if_pos c_1]); try rfl))), by rw [ht]; exact hP9, va_K.moved hW.alike hK9, hD9⟩, hS.F ht⟩) hS.2.2 dX12_fault_29

def fq_size (f_sky : Nat → Int32) (a0 : Int32) (m_lands : Int32) (m_feasts : Int32) (m_people : Int32) (m_deeds : Int32) (m_notes : Int32) (m_knots : Int32) (m_undos : Int32) (m_tolds : Int32) : Int32 × (Int32) := (if a0 = 0 then (m_lands, (0 : Int32)) else (if a0 = 1 then (m_feasts, (0 : Int32)) else (if a0 = 2 then (m_people, (0 : Int32)) else (if a0 = 3 then (m_deeds, (0 : Int32)) else (if a0 = 4 then (m_notes, (0 : Int32)) else (if a0 = 5 then (m_knots, (0 : Int32)) else (if a0 = 6 then (f_sky ((0 : Int32).toNatClampNeg), (0 : Int32)) else (if a0 = 7 then (m_tolds, (0 : Int32)) else (if a0 = 8 then (m_undos, (0 : Int32)) else ((-1 : Int32), (0 : Int32)))))))))))
theorem dX12_size_0 : decode cX12_size 0 = .ok (.aload_n 0, 1) := zk_42 (by decide +kernel)
theorem dX12_size_1 : decode cX12_size 1 = .ok (.iconst 0, 1) := zk_3 (by decide +kernel)
theorem dX12_size_2 : decode cX12_size 2 = .ok (.putfield 119, 3) := zk_181 (by decide +kernel)
theorem dX12_size_5 : decode cX12_size 5 = .ok (.iload_n 1, 1) := zk_27 (by decide +kernel)
theorem dX12_size_6 : decode cX12_size 6 = .ok (.tableswitch 97 0 8 #[50, 55, 60, 65, 70, 75, 80, 87, 92], 50) := by decide +kernel
theorem dX12_size_56 : decode cX12_size 56 = .ok (.aload_n 0, 1) := zk_42 (by decide +kernel)
theorem dX12_size_57 : decode cX12_size 57 = .ok (.getfield 217, 3) := zk_180 (by decide +kernel)
theorem dX12_size_60 : decode cX12_size 60 = .ok (.ireturn, 1) := zk_172 (by decide +kernel)
theorem dX12_size_61 : decode cX12_size 61 = .ok (.aload_n 0, 1) := zk_42 (by decide +kernel)
theorem dX12_size_62 : decode cX12_size 62 = .ok (.getfield 220, 3) := zk_180 (by decide +kernel)
theorem dX12_size_65 : decode cX12_size 65 = .ok (.ireturn, 1) := zk_172 (by decide +kernel)
theorem dX12_size_66 : decode cX12_size 66 = .ok (.aload_n 0, 1) := zk_42 (by decide +kernel)
theorem dX12_size_67 : decode cX12_size 67 = .ok (.getfield 223, 3) := zk_180 (by decide +kernel)
theorem dX12_size_70 : decode cX12_size 70 = .ok (.ireturn, 1) := zk_172 (by decide +kernel)
theorem dX12_size_71 : decode cX12_size 71 = .ok (.aload_n 0, 1) := zk_42 (by decide +kernel)
theorem dX12_size_72 : decode cX12_size 72 = .ok (.getfield 226, 3) := zk_180 (by decide +kernel)
theorem dX12_size_75 : decode cX12_size 75 = .ok (.ireturn, 1) := zk_172 (by decide +kernel)
theorem dX12_size_76 : decode cX12_size 76 = .ok (.aload_n 0, 1) := zk_42 (by decide +kernel)
theorem dX12_size_77 : decode cX12_size 77 = .ok (.getfield 229, 3) := zk_180 (by decide +kernel)
theorem dX12_size_80 : decode cX12_size 80 = .ok (.ireturn, 1) := zk_172 (by decide +kernel)
theorem dX12_size_81 : decode cX12_size 81 = .ok (.aload_n 0, 1) := zk_42 (by decide +kernel)
theorem dX12_size_82 : decode cX12_size 82 = .ok (.getfield 232, 3) := zk_180 (by decide +kernel)
theorem dX12_size_85 : decode cX12_size 85 = .ok (.ireturn, 1) := zk_172 (by decide +kernel)
theorem dX12_size_86 : decode cX12_size 86 = .ok (.aload_n 0, 1) := zk_42 (by decide +kernel)
theorem dX12_size_87 : decode cX12_size 87 = .ok (.getfield 20, 3) := zk_180 (by decide +kernel)
theorem dX12_size_90 : decode cX12_size 90 = .ok (.iconst 0, 1) := zk_3 (by decide +kernel)
theorem dX12_size_91 : decode cX12_size 91 = .ok (.iaload, 1) := zk_46 (by decide +kernel)
theorem dX12_size_92 : decode cX12_size 92 = .ok (.ireturn, 1) := zk_172 (by decide +kernel)
theorem dX12_size_93 : decode cX12_size 93 = .ok (.aload_n 0, 1) := zk_42 (by decide +kernel)
theorem dX12_size_94 : decode cX12_size 94 = .ok (.getfield 246, 3) := zk_180 (by decide +kernel)
theorem dX12_size_97 : decode cX12_size 97 = .ok (.ireturn, 1) := zk_172 (by decide +kernel)
theorem dX12_size_98 : decode cX12_size 98 = .ok (.aload_n 0, 1) := zk_42 (by decide +kernel)
theorem dX12_size_99 : decode cX12_size 99 = .ok (.getfield 249, 3) := zk_180 (by decide +kernel)
theorem dX12_size_102 : decode cX12_size 102 = .ok (.ireturn, 1) := zk_172 (by decide +kernel)
theorem dX12_size_103 : decode cX12_size 103 = .ok (.iconst (-1), 1) := zk_2 (by decide +kernel)
theorem dX12_size_104 : decode cX12_size 104 = .ok (.ireturn, 1) := zk_172 (by decide +kernel)
set_option maxHeartbeats 4000000 in
set_option maxRecDepth 100000 in
theorem gq_size (l : Launch) (dC : Nat → ClassId) (dI : Nat → Nat → Nat) (mq : Nat) (g : Nat → Int32) (gl : Nat → Int64) (rf : Nat → Nat) (ck : Nat → ClassId) (f_sky : Nat → Int32) (a0 : Int32) (sz : Nat) : Met l yX12_size (Cond.code yX12_size cX12_size 2 (some .int) :: wsL_law) ({ frames := 0, cells := 0, slots := 0, locals := 0 }) (va_Pc [.ref mq, .int a0] (fun U => U.heap.size = sz ∧ va_P (dC, dI) vwCl [(mq, .inr (12, mF g gl rf)), (eA0 (rf 24) (ck 24) 14 f_sky)] U.heap ∧ va_K (dC, dI) vwCl [((ck 24), .int)] U ∧ va_D (fun _ => True) [(mq, .inr (12, mF g gl rf)), (eA0 (rf 24) (ck 24) 14 f_sky)])) (va_Qi (fun (r : Int32) (u : (Int32)) => r = (fq_size f_sky a0 (g 12) (g 13) (g 14) (g 15) (g 16) (g 17) (g 59) (g 67)).1 ∧ u = (fq_size f_sky a0 (g 12) (g 13) (g 14) (g 15) (g 16) (g 17) (g 59) (g 67)).2) (fun (u : (Int32)) t => va_P (dC, dI) vwCl [(mq, .inr (12, mF (upd g 2 u) gl rf)), (eA0 (rf 24) (ck 24) 14 f_sky)] t.heap ∧ va_K (dC, dI) vwCl [] t ∧ va_D (va_A [(mq, .inr (12, mF g gl rf)), (eA0 (rf 24) (ck 24) 14 f_sky)] sz) [(mq, .inr (12, mF (upd g 2 u) gl rf)), (eA0 (rf 24) (ck 24) 14 f_sky)]) (va_A [(mq, .inr (12, mF g gl rf)), (eA0 (rf 24) (ck 24) 14 f_sky)] sz)) 0 0 (va_A [(mq, .inr (12, mF g gl rf)), (eA0 (rf 24) (ck 24) 14 f_sky)] sz) := by
  refine Met.ofW (cc := cX12_size) (maxL := 2) (ret := (some .int)) (by decide) rfl ?_
  intro p e s m args below meth c s₁ B hml hv
  obtain ⟨rfl, hsz, hP, hK, hD0⟩ := hv
  have hx := B.exec
  have hb := B.bytes
  have hr := B.returns
  have hts := atoms_spec (ws := Cond.code yX12_size cX12_size 2 (some .int) :: wsL_law) B.pre
  have htw : ∀ w ∈ wsL_law, w.before _ s = true := fun w h => hts w (List.mem_cons_of_mem _ h)
  have hown : s.vm.findClass RX12 = some m.cls := findClass_of_methodNamed B.named
  have hlocks := B.notSynchronized
  subst hsz
  have hD := hD0.self (sz := s.heap.size)
  generalize hAe : va_A [(mq, .inr (12, mF g gl rf)), (eA0 (rf 24) (ck 24) 14 f_sky)] s.heap.size = A at hD ⊢
  have hA : ∀ q : Nat, s.heap.size ≤ q → A q := fun q h => by rw [← hAe]; exact Or.inr h
  obtain ⟨H, rH⟩ : ∃ z : Heap, z = s.heap := ⟨_, rfl⟩
  have hS : va_S A s.heap H [] := by rw [rH]; exact va_S.rf
  have hP : va_P (dC, dI) vwCl [(mq, .inr (12, mF g gl rf)), (eA0 (rf 24) (ck 24) 14 f_sky)] H := by rw [rH]; exact hP
  rw [← rH]
  have hl := lv_entry ([.ref mq, .int a0]) (n := 2) (Nat.le_of_ble_eq_true rfl)
  rw [lg_entry_eq]
  generalize (lg_sl ([.ref mq, .int a0]) ++ List.replicate (2 - (lg_sl ([.ref mq, .int a0])).length) Slot.unset).toArray = ls at hl ⊢
  have hl : lv_has ls 2 [(0, .ref mq), (1, .int a0)] := hl
  refine lv_aload_n hx hb dX12_size_0 rfl (lv_at hl 0 rfl) ?_
  refine lv_iconst (v := 0) hx hb dX12_size_1 (by decide) ?_
  refine va_put (D := (dC, dI)) (ci := 12) (v := .int 0) (ty := tyX12 2) (C := RX12) (T := TX12) (N := 76) hx hb htw inlX12 tyX12 tyX12_ok nmX12 hown hK hP hD hS 0 rfl rfl 2 (by decide) (htw _ (ck_12 _ (List.mem_of_getElem? (i := 16) rfl))) (fun _ h9 => h9) rfl (tyX12_ok 2 (by decide)) rfl rfl (Nat.le_of_ble_eq_true rfl) dX12_size_2 (fun H locs hP hD hS => ?_)
  obtain ⟨hP, hD⟩ := zre [(mq, .inr (12, mF (upd g 2 0) gl rf)), (eA0 (rf 24) (ck 24) 14 f_sky)] hP hD rfl
  refine lv_iload_n hx hb dX12_size_5 rfl (lv_at hl 1 rfl) ?_
  by_cases h_1 : a0 = 0
  · subst h_1
    refine lv_tableIn (off := 50) (tgt := 56) hx hb dX12_size_6 (by decide) (by decide) (by decide) (by decide) ?_
    refine lv_aload_n hx hb dX12_size_56 rfl (lv_at hl 0 rfl) ?_
    refine va_get (D := (dC, dI)) (ci := 12) (v := .int (g 12)) (C := RX12) (T := TX12) (N := 76) hx hb htw inlX12 hown hK hP 0 rfl rfl 12 (by decide) (htw _ (ck_11 _ (List.mem_of_getElem? (i := 9) rfl))) (fun _ h9 => h9) rfl dX12_size_57 ?_
    refine W.widen (k := 0) (n := 0) (by omega) (by omega) ?_
    have hP9 := hP
    have hD9 := hD
    have hK9 := hK.sub (tys' := []) [] rfl
    exact W.iret (v := (g 12)) hx hb hr (fun t ht hW => ⟨⟨(g 12), 0, rfl, ((fun e9 => ⟨by rw [e9], by rw [e9]⟩ : fq_size f_sky (0 : Int32) (g 12) (g 13) (g 14) (g 15) (g 16) (g 17) (g 59) (g 67) = ((g 12), (0 : Int32)) → _) ((by rw [fq_size]; (try rw [if_pos rfl]); try rfl))), by rw [ht]; exact hP9, va_K.moved hW.alike hK9, hD9⟩, hS.F ht⟩) hS.2.2 dX12_size_60
  by_cases h_2 : a0 = 1
  · subst h_2
    refine lv_tableIn (off := 55) (tgt := 61) hx hb dX12_size_6 (by decide) (by decide) (by decide) (by decide) ?_
    refine lv_aload_n hx hb dX12_size_61 rfl (lv_at hl 0 rfl) ?_
    refine va_get (D := (dC, dI)) (ci := 12) (v := .int (g 13)) (C := RX12) (T := TX12) (N := 76) hx hb htw inlX12 hown hK hP 0 rfl rfl 13 (by decide) (htw _ (ck_11 _ (List.mem_of_getElem? (i := 10) rfl))) (fun _ h9 => h9) rfl dX12_size_62 ?_
    refine W.widen (k := 0) (n := 0) (by omega) (by omega) ?_
    have hP9 := hP
    have hD9 := hD
    have hK9 := hK.sub (tys' := []) [] rfl
    exact W.iret (v := (g 13)) hx hb hr (fun t ht hW => ⟨⟨(g 13), 0, rfl, ((fun e9 => ⟨by rw [e9], by rw [e9]⟩ : fq_size f_sky (1 : Int32) (g 12) (g 13) (g 14) (g 15) (g 16) (g 17) (g 59) (g 67) = ((g 13), (0 : Int32)) → _) ((by rw [fq_size]; (try rw [if_neg h_1]); (try rw [if_pos rfl]); try rfl))), by rw [ht]; exact hP9, va_K.moved hW.alike hK9, hD9⟩, hS.F ht⟩) hS.2.2 dX12_size_65
  by_cases h_3 : a0 = 2
  · subst h_3
    refine lv_tableIn (off := 60) (tgt := 66) hx hb dX12_size_6 (by decide) (by decide) (by decide) (by decide) ?_
    refine lv_aload_n hx hb dX12_size_66 rfl (lv_at hl 0 rfl) ?_
    refine va_get (D := (dC, dI)) (ci := 12) (v := .int (g 14)) (C := RX12) (T := TX12) (N := 76) hx hb htw inlX12 hown hK hP 0 rfl rfl 14 (by decide) (htw _ (ck_11 _ (List.mem_of_getElem? (i := 11) rfl))) (fun _ h9 => h9) rfl dX12_size_67 ?_
    refine W.widen (k := 0) (n := 0) (by omega) (by omega) ?_
    have hP9 := hP
    have hD9 := hD
    have hK9 := hK.sub (tys' := []) [] rfl
    exact W.iret (v := (g 14)) hx hb hr (fun t ht hW => ⟨⟨(g 14), 0, rfl, ((fun e9 => ⟨by rw [e9], by rw [e9]⟩ : fq_size f_sky (2 : Int32) (g 12) (g 13) (g 14) (g 15) (g 16) (g 17) (g 59) (g 67) = ((g 14), (0 : Int32)) → _) ((by rw [fq_size]; (try rw [if_neg h_1]); (try rw [if_neg h_2]); (try rw [if_pos rfl]); try rfl))), by rw [ht]; exact hP9, va_K.moved hW.alike hK9, hD9⟩, hS.F ht⟩) hS.2.2 dX12_size_70
  by_cases h_4 : a0 = 3
  · subst h_4
    refine lv_tableIn (off := 65) (tgt := 71) hx hb dX12_size_6 (by decide) (by decide) (by decide) (by decide) ?_
    refine lv_aload_n hx hb dX12_size_71 rfl (lv_at hl 0 rfl) ?_
    refine va_get (D := (dC, dI)) (ci := 12) (v := .int (g 15)) (C := RX12) (T := TX12) (N := 76) hx hb htw inlX12 hown hK hP 0 rfl rfl 15 (by decide) (htw _ (ck_11 _ (List.mem_of_getElem? (i := 12) rfl))) (fun _ h9 => h9) rfl dX12_size_72 ?_
    refine W.widen (k := 0) (n := 0) (by omega) (by omega) ?_
    have hP9 := hP
    have hD9 := hD
    have hK9 := hK.sub (tys' := []) [] rfl
    exact W.iret (v := (g 15)) hx hb hr (fun t ht hW => ⟨⟨(g 15), 0, rfl, ((fun e9 => ⟨by rw [e9], by rw [e9]⟩ : fq_size f_sky (3 : Int32) (g 12) (g 13) (g 14) (g 15) (g 16) (g 17) (g 59) (g 67) = ((g 15), (0 : Int32)) → _) ((by rw [fq_size]; (try rw [if_neg h_1]); (try rw [if_neg h_2]); (try rw [if_neg h_3]); (try rw [if_pos rfl]); try rfl))), by rw [ht]; exact hP9, va_K.moved hW.alike hK9, hD9⟩, hS.F ht⟩) hS.2.2 dX12_size_75
  by_cases h_5 : a0 = 4
  · subst h_5
    refine lv_tableIn (off := 70) (tgt := 76) hx hb dX12_size_6 (by decide) (by decide) (by decide) (by decide) ?_
    refine lv_aload_n hx hb dX12_size_76 rfl (lv_at hl 0 rfl) ?_
    refine va_get (D := (dC, dI)) (ci := 12) (v := .int (g 16)) (C := RX12) (T := TX12) (N := 76) hx hb htw inlX12 hown hK hP 0 rfl rfl 16 (by decide) (htw _ (ck_11 _ (List.mem_of_getElem? (i := 13) rfl))) (fun _ h9 => h9) rfl dX12_size_77 ?_
    refine W.widen (k := 0) (n := 0) (by omega) (by omega) ?_
    have hP9 := hP
    have hD9 := hD
    have hK9 := hK.sub (tys' := []) [] rfl
    exact W.iret (v := (g 16)) hx hb hr (fun t ht hW => ⟨⟨(g 16), 0, rfl, ((fun e9 => ⟨by rw [e9], by rw [e9]⟩ : fq_size f_sky (4 : Int32) (g 12) (g 13) (g 14) (g 15) (g 16) (g 17) (g 59) (g 67) = ((g 16), (0 : Int32)) → _) ((by rw [fq_size]; (try rw [if_neg h_1]); (try rw [if_neg h_2]); (try rw [if_neg h_3]); (try rw [if_neg h_4]); (try rw [if_pos rfl]); try rfl))), by rw [ht]; exact hP9, va_K.moved hW.alike hK9, hD9⟩, hS.F ht⟩) hS.2.2 dX12_size_80
  by_cases h_6 : a0 = 5
  · subst h_6
    refine lv_tableIn (off := 75) (tgt := 81) hx hb dX12_size_6 (by decide) (by decide) (by decide) (by decide) ?_
    refine lv_aload_n hx hb dX12_size_81 rfl (lv_at hl 0 rfl) ?_
    refine va_get (D := (dC, dI)) (ci := 12) (v := .int (g 17)) (C := RX12) (T := TX12) (N := 76) hx hb htw inlX12 hown hK hP 0 rfl rfl 17 (by decide) (htw _ (ck_11 _ (List.mem_of_getElem? (i := 14) rfl))) (fun _ h9 => h9) rfl dX12_size_82 ?_
    refine W.widen (k := 0) (n := 0) (by omega) (by omega) ?_
    have hP9 := hP
    have hD9 := hD
    have hK9 := hK.sub (tys' := []) [] rfl
    exact W.iret (v := (g 17)) hx hb hr (fun t ht hW => ⟨⟨(g 17), 0, rfl, ((fun e9 => ⟨by rw [e9], by rw [e9]⟩ : fq_size f_sky (5 : Int32) (g 12) (g 13) (g 14) (g 15) (g 16) (g 17) (g 59) (g 67) = ((g 17), (0 : Int32)) → _) ((by rw [fq_size]; (try rw [if_neg h_1]); (try rw [if_neg h_2]); (try rw [if_neg h_3]); (try rw [if_neg h_4]); (try rw [if_neg h_5]); (try rw [if_pos rfl]); try rfl))), by rw [ht]; exact hP9, va_K.moved hW.alike hK9, hD9⟩, hS.F ht⟩) hS.2.2 dX12_size_85
  by_cases h_7 : a0 = 6
  · subst h_7
    refine lv_tableIn (off := 80) (tgt := 86) hx hb dX12_size_6 (by decide) (by decide) (by decide) (by decide) ?_
    refine lv_aload_n hx hb dX12_size_86 rfl (lv_at hl 0 rfl) ?_
    refine va_get (D := (dC, dI)) (ci := 12) (v := .ref (rf 24)) (C := RX12) (T := TX12) (N := 76) hx hb htw inlX12 hown hK hP 0 rfl rfl 24 (by decide) (htw _ (ck_9 _ (List.mem_of_getElem? (i := 7) rfl))) (fun _ h9 => h9) rfl dX12_size_87 ?_
    refine lv_iconst (v := 0) hx hb dX12_size_90 (by decide) ?_
    refine va_iald hx hb hK hP 1 0 rfl rfl (by unfold vp_in; decide) dX12_size_91 ?_
    refine W.widen (k := 0) (n := 0) (by omega) (by omega) ?_
    have hP9 := hP
    have hD9 := hD
    have hK9 := hK.sub (tys' := []) [] rfl
    exact W.iret (v := f_sky ((0 : Int32).toNatClampNeg)) hx hb hr (fun t ht hW => ⟨⟨f_sky ((0 : Int32).toNatClampNeg), 0, rfl, ((fun e9 => ⟨by rw [e9], by rw [e9]⟩ : fq_size f_sky (6 : Int32) (g 12) (g 13) (g 14) (g 15) (g 16) (g 17) (g 59) (g 67) = (f_sky ((0 : Int32).toNatClampNeg), (0 : Int32)) → _) ((by rw [fq_size]; (try rw [if_neg h_1]); (try rw [if_neg h_2]); (try rw [if_neg h_3]); (try rw [if_neg h_4]); (try rw [if_neg h_5]); (try rw [if_neg h_6]); (try rw [if_pos rfl]); try rfl))), by rw [ht]; exact hP9, va_K.moved hW.alike hK9, hD9⟩, hS.F ht⟩) hS.2.2 dX12_size_92
  by_cases h_8 : a0 = 7
  · subst h_8
    refine lv_tableIn (off := 87) (tgt := 93) hx hb dX12_size_6 (by decide) (by decide) (by decide) (by decide) ?_
    refine lv_aload_n hx hb dX12_size_93 rfl (lv_at hl 0 rfl) ?_
    refine va_get (D := (dC, dI)) (ci := 12) (v := .int (g 67)) (C := RX12) (T := TX12) (N := 76) hx hb htw inlX12 hown hK hP 0 rfl rfl 67 (by decide) (htw _ (ck_11 _ (List.mem_of_getElem? (i := 16) rfl))) (fun _ h9 => h9) rfl dX12_size_94 ?_
    refine W.widen (k := 0) (n := 0) (by omega) (by omega) ?_
    have hP9 := hP
    have hD9 := hD
    have hK9 := hK.sub (tys' := []) [] rfl
    exact W.iret (v := (g 67)) hx hb hr (fun t ht hW => ⟨⟨(g 67), 0, rfl, ((fun e9 => ⟨by rw [e9], by rw [e9]⟩ : fq_size f_sky (7 : Int32) (g 12) (g 13) (g 14) (g 15) (g 16) (g 17) (g 59) (g 67) = ((g 67), (0 : Int32)) → _) ((by rw [fq_size]; (try rw [if_neg h_1]); (try rw [if_neg h_2]); (try rw [if_neg h_3]); (try rw [if_neg h_4]); (try rw [if_neg h_5]); (try rw [if_neg h_6]); (try rw [if_neg h_7]); (try rw [if_pos rfl]); try rfl))), by rw [ht]; exact hP9, va_K.moved hW.alike hK9, hD9⟩, hS.F ht⟩) hS.2.2 dX12_size_97
  by_cases h_9 : a0 = 8
  · subst h_9
    refine lv_tableIn (off := 92) (tgt := 98) hx hb dX12_size_6 (by decide) (by decide) (by decide) (by decide) ?_
    refine lv_aload_n hx hb dX12_size_98 rfl (lv_at hl 0 rfl) ?_
    refine va_get (D := (dC, dI)) (ci := 12) (v := .int (g 59)) (C := RX12) (T := TX12) (N := 76) hx hb htw inlX12 hown hK hP 0 rfl rfl 59 (by decide) (htw _ (ck_11 _ (List.mem_of_getElem? (i := 17) rfl))) (fun _ h9 => h9) rfl dX12_size_99 ?_
    refine W.widen (k := 0) (n := 0) (by omega) (by omega) ?_
    have hP9 := hP
    have hD9 := hD
    have hK9 := hK.sub (tys' := []) [] rfl
    exact W.iret (v := (g 59)) hx hb hr (fun t ht hW => ⟨⟨(g 59), 0, rfl, ((fun e9 => ⟨by rw [e9], by rw [e9]⟩ : fq_size f_sky (8 : Int32) (g 12) (g 13) (g 14) (g 15) (g 16) (g 17) (g 59) (g 67) = ((g 59), (0 : Int32)) → _) ((by rw [fq_size]; (try rw [if_neg h_1]); (try rw [if_neg h_2]); (try rw [if_neg h_3]); (try rw [if_neg h_4]); (try rw [if_neg h_5]); (try rw [if_neg h_6]); (try rw [if_neg h_7]); (try rw [if_neg h_8]); (try rw [if_pos rfl]); try rfl))), by rw [ht]; exact hP9, va_K.moved hW.alike hK9, hD9⟩, hS.F ht⟩) hS.2.2 dX12_size_102
  refine lv_tableOut (tgt := 103) hx hb dX12_size_6 (by have a0 := xg_ne h_1; have a1 := xg_ne h_2; have a2 := xg_ne h_3; have a3 := xg_ne h_4; have a4 := xg_ne h_5; have a5 := xg_ne h_6; have a6 := xg_ne h_7; have a7 := xg_ne h_8; have a8 := xg_ne h_9; have b0 : (0 : Int32).toInt = 0 := rfl; have b1 : (1 : Int32).toInt = 1 := rfl; have b2 : (2 : Int32).toInt = 2 := rfl; have b3 : (3 : Int32).toInt = 3 := rfl; have b4 : (4 : Int32).toInt = 4 := rfl; have b5 : (5 : Int32).toInt = 5 := rfl; have b6 : (6 : Int32).toInt = 6 := rfl; have b7 : (7 : Int32).toInt = 7 := rfl; have b8 : (8 : Int32).toInt = 8 := rfl; omega) (by decide) ?_
  refine lv_iconst (v := (-1)) hx hb dX12_size_103 (by decide) ?_
  refine W.widen (k := 0) (n := 0) (by omega) (by omega) ?_
  have hP9 := hP
  have hD9 := hD
  have hK9 := hK.sub (tys' := []) [] rfl
  exact W.iret (v := (-1)) hx hb hr (fun t ht hW => ⟨⟨(-1), 0, rfl, ((fun e9 => ⟨by rw [e9], by rw [e9]⟩ : fq_size f_sky a0 (g 12) (g 13) (g 14) (g 15) (g 16) (g 17) (g 59) (g 67) = ((-1 : Int32), (0 : Int32)) → _) ((by rw [fq_size]; (try rw [if_neg h_1]); (try rw [if_neg h_2]); (try rw [if_neg h_3]); (try rw [if_neg h_4]); (try rw [if_neg h_5]); (try rw [if_neg h_6]); (try rw [if_neg h_7]); (try rw [if_neg h_8]); (try rw [if_neg h_9]); try rfl))), by rw [ht]; exact hP9, va_K.moved hW.alike hK9, hD9⟩, hS.F ht⟩) hS.2.2 dX12_size_104

def fq_forget (m_tolds : Int32) : Int32 × (Int32) × (Int32) := (m_tolds, (0 : Int32), (0 : Int32))
theorem dX12_forget_0 : decode cX12_forget 0 = .ok (.aload_n 0, 1) := zk_42 (by decide +kernel)
theorem dX12_forget_1 : decode cX12_forget 1 = .ok (.iconst 0, 1) := zk_3 (by decide +kernel)
theorem dX12_forget_2 : decode cX12_forget 2 = .ok (.putfield 119, 3) := zk_181 (by decide +kernel)
theorem dX12_forget_5 : decode cX12_forget 5 = .ok (.aload_n 0, 1) := zk_42 (by decide +kernel)
theorem dX12_forget_6 : decode cX12_forget 6 = .ok (.getfield 246, 3) := zk_180 (by decide +kernel)
theorem dX12_forget_9 : decode cX12_forget 9 = .ok (.istore_n 1, 1) := zk_60 (by decide +kernel)
theorem dX12_forget_10 : decode cX12_forget 10 = .ok (.aload_n 0, 1) := zk_42 (by decide +kernel)
theorem dX12_forget_11 : decode cX12_forget 11 = .ok (.iconst 0, 1) := zk_3 (by decide +kernel)
theorem dX12_forget_12 : decode cX12_forget 12 = .ok (.putfield 246, 3) := zk_181 (by decide +kernel)
theorem dX12_forget_15 : decode cX12_forget 15 = .ok (.iload_n 1, 1) := zk_27 (by decide +kernel)
theorem dX12_forget_16 : decode cX12_forget 16 = .ok (.ireturn, 1) := zk_172 (by decide +kernel)
set_option maxHeartbeats 4000000 in
set_option maxRecDepth 100000 in
theorem gq_forget (l : Launch) (dC : Nat → ClassId) (dI : Nat → Nat → Nat) (mq : Nat) (g : Nat → Int32) (gl : Nat → Int64) (rf : Nat → Nat) (sz : Nat) : Met l yX12_forget (Cond.code yX12_forget cX12_forget 2 (some .int) :: wsL_law) ({ frames := 0, cells := 0, slots := 0, locals := 0 }) (va_Pc [.ref mq] (fun U => U.heap.size = sz ∧ va_P (dC, dI) vwCl [(mq, .inr (12, mF g gl rf))] U.heap ∧ va_K (dC, dI) vwCl [] U ∧ va_D (fun _ => True) [(mq, .inr (12, mF g gl rf))])) (va_Qi (fun (r : Int32) (u : (Int32) × (Int32)) => r = (fq_forget (g 67)).1 ∧ u = (fq_forget (g 67)).2) (fun (u : (Int32) × (Int32)) t => va_P (dC, dI) vwCl [(mq, .inr (12, mF (upd (upd g 2 u.1) 67 u.2) gl rf))] t.heap ∧ va_K (dC, dI) vwCl [] t ∧ va_D (va_A [(mq, .inr (12, mF g gl rf))] sz) [(mq, .inr (12, mF (upd (upd g 2 u.1) 67 u.2) gl rf))]) (va_A [(mq, .inr (12, mF g gl rf))] sz)) 0 0 (va_A [(mq, .inr (12, mF g gl rf))] sz) := by
  refine Met.ofW (cc := cX12_forget) (maxL := 2) (ret := (some .int)) (by decide) rfl ?_
  intro p e s m args below meth c s₁ B hml hv
  obtain ⟨rfl, hsz, hP, hK, hD0⟩ := hv
  have hx := B.exec
  have hb := B.bytes
  have hr := B.returns
  have hts := atoms_spec (ws := Cond.code yX12_forget cX12_forget 2 (some .int) :: wsL_law) B.pre
  have htw : ∀ w ∈ wsL_law, w.before _ s = true := fun w h => hts w (List.mem_cons_of_mem _ h)
  have hown : s.vm.findClass RX12 = some m.cls := findClass_of_methodNamed B.named
  have hlocks := B.notSynchronized
  subst hsz
  have hD := hD0.self (sz := s.heap.size)
  generalize hAe : va_A [(mq, .inr (12, mF g gl rf))] s.heap.size = A at hD ⊢
  have hA : ∀ q : Nat, s.heap.size ≤ q → A q := fun q h => by rw [← hAe]; exact Or.inr h
  obtain ⟨H, rH⟩ : ∃ z : Heap, z = s.heap := ⟨_, rfl⟩
  have hS : va_S A s.heap H [] := by rw [rH]; exact va_S.rf
  have hP : va_P (dC, dI) vwCl [(mq, .inr (12, mF g gl rf))] H := by rw [rH]; exact hP
  rw [← rH]
  have hl := lv_entry ([.ref mq]) (n := 2) (Nat.le_of_ble_eq_true rfl)
  rw [lg_entry_eq]
  generalize (lg_sl ([.ref mq]) ++ List.replicate (2 - (lg_sl ([.ref mq])).length) Slot.unset).toArray = ls at hl ⊢
  have hl : lv_has ls 2 [(0, .ref mq)] := hl
  refine lv_aload_n hx hb dX12_forget_0 rfl (lv_at hl 0 rfl) ?_
  refine lv_iconst (v := 0) hx hb dX12_forget_1 (by decide) ?_
  refine va_put (D := (dC, dI)) (ci := 12) (v := .int 0) (ty := tyX12 2) (C := RX12) (T := TX12) (N := 76) hx hb htw inlX12 tyX12 tyX12_ok nmX12 hown hK hP hD hS 0 rfl rfl 2 (by decide) (htw _ (ck_12 _ (List.mem_of_getElem? (i := 16) rfl))) (fun _ h9 => h9) rfl (tyX12_ok 2 (by decide)) rfl rfl (Nat.le_of_ble_eq_true rfl) dX12_forget_2 (fun H locs hP hD hS => ?_)
  obtain ⟨hP, hD⟩ := zre [(mq, .inr (12, mF (upd g 2 0) gl rf))] hP hD rfl
  refine lv_aload_n hx hb dX12_forget_5 rfl (lv_at hl 0 rfl) ?_
  refine va_get (D := (dC, dI)) (ci := 12) (v := .int (g 67)) (C := RX12) (T := TX12) (N := 76) hx hb htw inlX12 hown hK hP 0 rfl rfl 67 (by decide) (htw _ (ck_11 _ (List.mem_of_getElem? (i := 16) rfl))) (fun _ h9 => h9) rfl dX12_forget_6 ?_
  refine lv_istore_n (lv' := [(1, .int (g 67)), (0, .ref mq)]) hx hb dX12_forget_9 rfl hl (by decide) rfl (fun ls hl => ?_)
  refine lv_aload_n hx hb dX12_forget_10 rfl (lv_at hl 1 rfl) ?_
  refine lv_iconst (v := 0) hx hb dX12_forget_11 (by decide) ?_
  refine va_put (D := (dC, dI)) (ci := 12) (v := .int 0) (ty := tyX12 67) (C := RX12) (T := TX12) (N := 76) hx hb htw inlX12 tyX12 tyX12_ok nmX12 hown hK hP hD hS 0 rfl rfl 67 (by decide) (htw _ (ck_11 _ (List.mem_of_getElem? (i := 16) rfl))) (fun _ h9 => h9) rfl (tyX12_ok 67 (by decide)) rfl rfl (Nat.le_of_ble_eq_true rfl) dX12_forget_12 (fun H locs hP hD hS => ?_)
  have hP : va_P (dC, dI) vwCl [(mq, .inr (12, mF (upd (upd g 2 0) 67 0) gl rf))] H := hP
  have hD : va_D A [(mq, .inr (12, mF (upd (upd g 2 0) 67 0) gl rf))] := hD
  refine lv_iload_n hx hb dX12_forget_15 rfl (lv_at hl 0 rfl) ?_
  refine W.widen (k := 0) (n := 0) (by omega) (by omega) ?_
  have hP9 := hP
  have hD9 := hD
  have hK9 := hK.sub (tys' := []) [] rfl
  exact W.iret (v := (g 67)) hx hb hr (fun t ht hW => ⟨⟨(g 67), (0, 0), rfl, ((fun e9 => ⟨by rw [e9], by rw [e9]⟩ : fq_forget (g 67) = ((g 67), (0 : Int32), (0 : Int32)) → _) ((by rw [fq_forget]))), by rw [ht]; exact hP9, va_K.moved hW.alike hK9, hD9⟩, hS.F ht⟩) hS.2.2 dX12_forget_16
