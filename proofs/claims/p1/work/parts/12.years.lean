theorem dX11_named_0 : decode cX11_named 0 = .ok (.aload_n 0, 1) := by decide +kernel
theorem dX11_named_1 : decode cX11_named 1 = .ok (.getfield 19, 3) := by decide +kernel
theorem dX11_named_4 : decode cX11_named 4 = .ok (.iload_n 1, 1) := by decide +kernel
theorem dX11_named_5 : decode cX11_named 5 = .ok (.iload_n 2, 1) := by decide +kernel
theorem dX11_named_6 : decode cX11_named 6 = .ok (.invokevirtual 108, 3) := by decide +kernel
theorem dX11_named_9 : decode cX11_named 9 = .ok (.ireturn, 1) := by decide +kernel
set_option maxHeartbeats 4000000 in
set_option maxRecDepth 100000 in
theorem mx_named (l : Launch) (dC : Nat → ClassId) (dI : Nat → Nat → Nat) (x : Nat) (xpa : Nat) (xsp : Nat) (xdy : Nat) (xle : Nat) (xst : Nat) (xim : Nat) (xil : Nat) (xmo : Nat) (xom : Nat) (xwi : Nat) (b : Nat) (bto : Nat) (bnm : Nat) (bla : Nat) (bsk : Nat) (bru : Nat) (bbo : Nat) (bdi : Nat) (bda : Nat) (bdk : Nat) (bdt : Nat) (bdp : Nat) (bno : Nat) (bcT : ClassId) (a0 : Int32) (a1 : Int32) : Met l yX11_named (Cond.code yX11_named cX11_named 3 (some .int) :: wsL_law) ({ frames := 1, cells := 0, slots := 0, locals := 23 }) (va_Pc [.ref x, .int a0, .int a1] (fun U => va_P (dC, dI) vwCl [(x, .inr (11, [.ref xpa, .ref b, .ref xsp, .ref xdy, .ref xle, .ref xst, .int 0, .ref xim, .ref xil, .int 0, .ref xmo, .ref xom, .ref xwi])), (b, .inr (0, [.ref bto, .ref bnm, .ref bla, .ref bsk, .ref bru, .ref bbo, .ref bdi, .ref bda, .ref bdk, .ref bdt, .ref bdp, .ref bno])), (bto, .inl (bcT, 5, .inl (fun _ => 0)))] U.heap ∧ va_K (dC, dI) vwCl [(bcT, .int)] U)) (vp_Si (fun r => r = (-1))) 0 0 (fun _ => False) := by
  refine Met.ofW (cc := cX11_named) (maxL := 3) (ret := (some .int)) (by decide) rfl ?_
  intro p e s m args below meth c s₁ B hml hv
  obtain ⟨rfl, hP, hK⟩ := hv
  have hx := B.exec
  have hb := B.bytes
  have hr := B.returns
  have hts := atoms_spec (ws := Cond.code yX11_named cX11_named 3 (some .int) :: wsL_law) B.pre
  have htw : ∀ w ∈ wsL_law, w.before _ s = true := fun w h => hts w (List.mem_cons_of_mem _ h)
  have hown : s.vm.findClass RX11 = some m.cls := findClass_of_methodNamed B.named
  have hlocks := B.notSynchronized
  have hl := lv_entry ([.ref x, .int a0, .int a1]) (n := 3) (Nat.le_of_ble_eq_true rfl)
  rw [lg_entry_eq]
  generalize (lg_sl ([.ref x, .int a0, .int a1]) ++ List.replicate (3 - (lg_sl ([.ref x, .int a0, .int a1])).length) Slot.unset).toArray = ls at hl ⊢
  have hl : lv_has ls 3 [(0, .ref x), (1, .int a0), (2, .int a1)] := hl
  refine lv_aload_n hx hb dX11_named_0 rfl (lv_at hl 0 rfl) ?_
  refine va_get (D := (dC, dI)) (ci := 11) (v := .ref b) (C := RX11) (T := TX11) (N := 13) hx hb htw inlX11 hown hK hP 0 rfl rfl 1 (by decide) (htw _ (ck_1 _ (List.mem_of_getElem? (i := 21) rfl))) (fun _ h9 => h9) rfl dX11_named_1 ?_
  refine lv_iload_n hx hb dX11_named_4 rfl (lv_at hl 1 rfl) ?_
  refine lv_iload_n hx hb dX11_named_5 rfl (lv_at hl 2 rfl) ?_
  have hPc := hP.sub (ws' := [(b, .inr (0, [.ref bto, .ref bnm, .ref bla, .ref bsk, .ref bru, .ref bbo, .ref bdi, .ref bda, .ref bdk, .ref bdt, .ref bdp, .ref bno])), (bto, .inl (bcT, 5, .inl (fun _ => 0)))]) [1, 2] rfl
  have hKc := hK.sub (tys' := [(bcT, .int)]) [0] rfl
  refine vp_callSi (W.runV (As := [.int a0, .int a1]) (rest := []) ⟨hx, hb, hml, hown, htw⟩ (mt_find l dC dI b bto bnm bla bsk bru bbo bdi bda bdk bdt bdp bno bcT a0 a1) (cwV 2 htw (xg_V (ck_32 _ (List.mem_of_getElem? (i := 23) rfl)) (ck_16 _ (List.mem_of_getElem? (i := 13) rfl)) (ck_16 _ (List.mem_of_getElem? (i := 14) rfl)) (ck_1 _ (List.mem_of_getElem? (i := 20) rfl)) (ck_16 _ (List.mem_of_getElem? (i := 15) rfl))) rfl rfl rfl (by decide +kernel) ⟨Nat.le_of_ble_eq_true rfl, Nat.le_of_ble_eq_true rfl⟩) ⟨fun a U g mk q => by obtain ⟨q0, qP, qK⟩ := q; exact ⟨q0, qP, va_K.moved (u := U) (U := U.calling g mk a) (Vm.Alike.refl U.vm) qK⟩, va_recv hKc hPc (ci := 0) (q0 := 0) rfl rfl, fun U hU hW => ⟨rfl, by rw [hU]; exact hPc, va_K.moved hW.alike hKc⟩⟩ rfl rfl hl.1 rfl (lv_room (Nat.le_of_ble_eq_true rfl)) dX11_named_6 ⟨Nat.le_of_ble_eq_true rfl, Nat.le_of_ble_eq_true rfl⟩) (fun r_1 hw => ?_)
  try dsimp only at hw
  obtain rfl : r_1 = (-1) := hw
  exact W.iret (v := (-1)) hx hb hr (fun t ht hW => ⟨(-1), rfl, rfl, ht⟩) (fun _ h => by cases h) dX11_named_9

theorem dX11_length_0 : decode cX11_length 0 = .ok (.aload_n 0, 1) := by decide +kernel
theorem dX11_length_1 : decode cX11_length 1 = .ok (.getfield 19, 3) := by decide +kernel
theorem dX11_length_4 : decode cX11_length 4 = .ok (.iload_n 1, 1) := by decide +kernel
theorem dX11_length_5 : decode cX11_length 5 = .ok (.invokevirtual 112, 3) := by decide +kernel
theorem dX11_length_8 : decode cX11_length 8 = .ok (.astore_n 3, 1) := by decide +kernel
theorem dX11_length_9 : decode cX11_length 9 = .ok (.aload_n 3, 1) := by decide +kernel
theorem dX11_length_10 : decode cX11_length 10 = .ok (.ifnull 12, 3) := by decide +kernel
theorem dX11_length_22 : decode cX11_length 22 = .ok (.ldc2_w 143, 3) := by decide +kernel
theorem dX11_length_25 : decode cX11_length 25 = .ok (.lreturn, 1) := by decide +kernel
set_option maxHeartbeats 4000000 in
set_option maxRecDepth 100000 in
theorem mx_length (l : Launch) (dC : Nat → ClassId) (dI : Nat → Nat → Nat) (x : Nat) (xpa : Nat) (xsp : Nat) (xdy : Nat) (xle : Nat) (xst : Nat) (xim : Nat) (xil : Nat) (xmo : Nat) (xom : Nat) (xwi : Nat) (b : Nat) (bto : Nat) (bnm : Nat) (bla : Nat) (bsk : Nat) (bru : Nat) (bbo : Nat) (bdi : Nat) (bda : Nat) (bdk : Nat) (bdt : Nat) (bdp : Nat) (bno : Nat) (bcT : ClassId) (a0 : Int32) (a1 : Int32) : Met l yX11_length (Cond.code yX11_length cX11_length 4 (some .long) :: wsL_law) ({ frames := 2, cells := 0, slots := 0, locals := 43 }) (va_Pc [.ref x, .int a0, .int a1] (fun U => va_P (dC, dI) vwCl [(x, .inr (11, [.ref xpa, .ref b, .ref xsp, .ref xdy, .ref xle, .ref xst, .int 0, .ref xim, .ref xil, .int 0, .ref xmo, .ref xom, .ref xwi])), (b, .inr (0, [.ref bto, .ref bnm, .ref bla, .ref bsk, .ref bru, .ref bbo, .ref bdi, .ref bda, .ref bdk, .ref bdt, .ref bdp, .ref bno])), (bto, .inl (bcT, 5, .inl (fun _ => 0)))] U.heap ∧ va_K (dC, dI) vwCl [(bcT, .int)] U)) (vp_Sl (fun r => r = (-1))) 0 0 (fun _ => False) := by
  refine Met.ofW (cc := cX11_length) (maxL := 4) (ret := (some .long)) (by decide) rfl ?_
  intro p e s m args below meth c s₁ B hml hv
  obtain ⟨rfl, hP, hK⟩ := hv
  have hx := B.exec
  have hb := B.bytes
  have hr := B.returns
  have hts := atoms_spec (ws := Cond.code yX11_length cX11_length 4 (some .long) :: wsL_law) B.pre
  have htw : ∀ w ∈ wsL_law, w.before _ s = true := fun w h => hts w (List.mem_cons_of_mem _ h)
  have hown : s.vm.findClass RX11 = some m.cls := findClass_of_methodNamed B.named
  have hlocks := B.notSynchronized
  have hl := lv_entry ([.ref x, .int a0, .int a1]) (n := 4) (Nat.le_of_ble_eq_true rfl)
  rw [lg_entry_eq]
  generalize (lg_sl ([.ref x, .int a0, .int a1]) ++ List.replicate (4 - (lg_sl ([.ref x, .int a0, .int a1])).length) Slot.unset).toArray = ls at hl ⊢
  have hl : lv_has ls 4 [(0, .ref x), (1, .int a0), (2, .int a1)] := hl
  refine lv_aload_n hx hb dX11_length_0 rfl (lv_at hl 0 rfl) ?_
  refine va_get (D := (dC, dI)) (ci := 11) (v := .ref b) (C := RX11) (T := TX11) (N := 13) hx hb htw inlX11 hown hK hP 0 rfl rfl 1 (by decide) (htw _ (ck_1 _ (List.mem_of_getElem? (i := 21) rfl))) (fun _ h9 => h9) rfl dX11_length_1 ?_
  refine lv_iload_n hx hb dX11_length_4 rfl (lv_at hl 1 rfl) ?_
  have hPc := hP.sub (ws' := [(b, .inr (0, [.ref bto, .ref bnm, .ref bla, .ref bsk, .ref bru, .ref bbo, .ref bdi, .ref bda, .ref bdk, .ref bdt, .ref bdp, .ref bno])), (bto, .inl (bcT, 5, .inl (fun _ => 0)))]) [1, 2] rfl
  have hKc := hK.sub (tys' := [(bcT, .int)]) [0] rfl
  refine va_csq (W.runV (As := [.int a0]) (rest := []) ⟨hx, hb, hml, hown, htw⟩ (mt_landAt l dC dI b bto bnm bla bsk bru bbo bdi bda bdk bdt bdp bno bcT a0) (cwV 1 htw (xg_V (ck_33 _ (List.mem_of_getElem? (i := 21) rfl)) (ck_20 _ (List.mem_of_getElem? (i := 22) rfl)) (ck_20 _ (List.mem_of_getElem? (i := 23) rfl)) (ck_1 _ (List.mem_of_getElem? (i := 20) rfl)) (ck_21 _ (List.mem_of_getElem? (i := 0) rfl))) rfl rfl rfl (by decide +kernel) ⟨Nat.le_of_ble_eq_true rfl, Nat.le_of_ble_eq_true rfl⟩) ⟨fun a U g mk q => by obtain ⟨q0, qP, qK⟩ := q; exact ⟨q0, qP, va_K.moved (u := U) (U := U.calling g mk a) (Vm.Alike.refl U.vm) qK⟩, va_recv hKc hPc (ci := 0) (q0 := 0) rfl rfl, fun U hU hW => ⟨rfl, by rw [hU]; exact hPc, va_K.moved hW.alike hKc⟩⟩ rfl rfl hl.1 rfl (lv_room (Nat.le_of_ble_eq_true rfl)) dX11_length_5 ⟨Nat.le_of_ble_eq_true rfl, Nat.le_of_ble_eq_true rfl⟩) (fun r_1 hw => ?_)
  try dsimp only at hw
  obtain rfl : r_1 = none := hw
  refine W.eq (g2 := F0 m 8 ls [.null]) rfl ?_
  refine lv_astore_nN (lv' := [(3, .null), (0, .ref x), (1, .int a0), (2, .int a1)]) hx hb dX11_length_8 rfl hl (by decide) rfl (fun ls hl => ?_)
  refine lv_aload_nN hx hb dX11_length_9 rfl (lv_at hl 0 rfl) ?_
  refine lv_ifnullN (tgt := 22) hx hb dX11_length_10 (by decide) ?_
  refine lv_ldc2 (v := (-1)) hx hb hown (htw _ (ck_34 _ (List.mem_of_getElem? (i := 18) rfl))) dX11_length_22 ?_
  exact W.lret (v := (-1)) hx hb hr (fun t ht hW => ⟨(-1), rfl, rfl, ht⟩) (fun _ h => by cases h) dX11_length_25

theorem dX11_date_0 : decode cX11_date 0 = .ok (.aload_n 0, 1) := by decide +kernel
theorem dX11_date_1 : decode cX11_date 1 = .ok (.getfield 19, 3) := by decide +kernel
theorem dX11_date_4 : decode cX11_date 4 = .ok (.iload_n 1, 1) := by decide +kernel
theorem dX11_date_5 : decode cX11_date 5 = .ok (.invokevirtual 112, 3) := by decide +kernel
theorem dX11_date_8 : decode cX11_date 8 = .ok (.astore 5, 2) := by decide +kernel
theorem dX11_date_10 : decode cX11_date 10 = .ok (.aload 5, 2) := by decide +kernel
theorem dX11_date_12 : decode cX11_date 12 = .ok (.ifnull 21, 3) := by decide +kernel
theorem dX11_date_33 : decode cX11_date 33 = .ok (.ldc2_w 143, 3) := by decide +kernel
theorem dX11_date_36 : decode cX11_date 36 = .ok (.lreturn, 1) := by decide +kernel
set_option maxHeartbeats 4000000 in
set_option maxRecDepth 100000 in
theorem mx_date (l : Launch) (dC : Nat → ClassId) (dI : Nat → Nat → Nat) (x : Nat) (xpa : Nat) (xsp : Nat) (xdy : Nat) (xle : Nat) (xst : Nat) (xim : Nat) (xil : Nat) (xmo : Nat) (xom : Nat) (xwi : Nat) (b : Nat) (bto : Nat) (bnm : Nat) (bla : Nat) (bsk : Nat) (bru : Nat) (bbo : Nat) (bdi : Nat) (bda : Nat) (bdk : Nat) (bdt : Nat) (bdp : Nat) (bno : Nat) (bcT : ClassId) (a0 : Int32) (a1 : Int64) (a2 : Int32) : Met l yX11_date (Cond.code yX11_date cX11_date 8 (some .long) :: wsL_law) ({ frames := 2, cells := 0, slots := 0, locals := 43 }) (va_Pc [.ref x, .int a0, .long a1, .int a2] (fun U => va_P (dC, dI) vwCl [(x, .inr (11, [.ref xpa, .ref b, .ref xsp, .ref xdy, .ref xle, .ref xst, .int 0, .ref xim, .ref xil, .int 0, .ref xmo, .ref xom, .ref xwi])), (b, .inr (0, [.ref bto, .ref bnm, .ref bla, .ref bsk, .ref bru, .ref bbo, .ref bdi, .ref bda, .ref bdk, .ref bdt, .ref bdp, .ref bno])), (bto, .inl (bcT, 5, .inl (fun _ => 0)))] U.heap ∧ va_K (dC, dI) vwCl [(bcT, .int)] U)) (vp_Sl (fun r => r = (-1))) 0 0 (fun _ => False) := by
  refine Met.ofW (cc := cX11_date) (maxL := 8) (ret := (some .long)) (by decide) rfl ?_
  intro p e s m args below meth c s₁ B hml hv
  obtain ⟨rfl, hP, hK⟩ := hv
  have hx := B.exec
  have hb := B.bytes
  have hr := B.returns
  have hts := atoms_spec (ws := Cond.code yX11_date cX11_date 8 (some .long) :: wsL_law) B.pre
  have htw : ∀ w ∈ wsL_law, w.before _ s = true := fun w h => hts w (List.mem_cons_of_mem _ h)
  have hown : s.vm.findClass RX11 = some m.cls := findClass_of_methodNamed B.named
  have hlocks := B.notSynchronized
  have hl := lv_entry ([.ref x, .int a0, .long a1, .int a2]) (n := 8) (Nat.le_of_ble_eq_true rfl)
  rw [lg_entry_eq]
  generalize (lg_sl ([.ref x, .int a0, .long a1, .int a2]) ++ List.replicate (8 - (lg_sl ([.ref x, .int a0, .long a1, .int a2])).length) Slot.unset).toArray = ls at hl ⊢
  have hl : lv_has ls 8 [(0, .ref x), (1, .int a0), (2, .long a1), (4, .int a2)] := hl
  refine lv_aload_n hx hb dX11_date_0 rfl (lv_at hl 0 rfl) ?_
  refine va_get (D := (dC, dI)) (ci := 11) (v := .ref b) (C := RX11) (T := TX11) (N := 13) hx hb htw inlX11 hown hK hP 0 rfl rfl 1 (by decide) (htw _ (ck_1 _ (List.mem_of_getElem? (i := 21) rfl))) (fun _ h9 => h9) rfl dX11_date_1 ?_
  refine lv_iload_n hx hb dX11_date_4 rfl (lv_at hl 1 rfl) ?_
  have hPc := hP.sub (ws' := [(b, .inr (0, [.ref bto, .ref bnm, .ref bla, .ref bsk, .ref bru, .ref bbo, .ref bdi, .ref bda, .ref bdk, .ref bdt, .ref bdp, .ref bno])), (bto, .inl (bcT, 5, .inl (fun _ => 0)))]) [1, 2] rfl
  have hKc := hK.sub (tys' := [(bcT, .int)]) [0] rfl
  refine va_csq (W.runV (As := [.int a0]) (rest := []) ⟨hx, hb, hml, hown, htw⟩ (mt_landAt l dC dI b bto bnm bla bsk bru bbo bdi bda bdk bdt bdp bno bcT a0) (cwV 1 htw (xg_V (ck_33 _ (List.mem_of_getElem? (i := 21) rfl)) (ck_20 _ (List.mem_of_getElem? (i := 22) rfl)) (ck_20 _ (List.mem_of_getElem? (i := 23) rfl)) (ck_1 _ (List.mem_of_getElem? (i := 20) rfl)) (ck_21 _ (List.mem_of_getElem? (i := 0) rfl))) rfl rfl rfl (by decide +kernel) ⟨Nat.le_of_ble_eq_true rfl, Nat.le_of_ble_eq_true rfl⟩) ⟨fun a U g mk q => by obtain ⟨q0, qP, qK⟩ := q; exact ⟨q0, qP, va_K.moved (u := U) (U := U.calling g mk a) (Vm.Alike.refl U.vm) qK⟩, va_recv hKc hPc (ci := 0) (q0 := 0) rfl rfl, fun U hU hW => ⟨rfl, by rw [hU]; exact hPc, va_K.moved hW.alike hKc⟩⟩ rfl rfl hl.1 rfl (lv_room (Nat.le_of_ble_eq_true rfl)) dX11_date_5 ⟨Nat.le_of_ble_eq_true rfl, Nat.le_of_ble_eq_true rfl⟩) (fun r_1 hw => ?_)
  try dsimp only at hw
  obtain rfl : r_1 = none := hw
  refine W.eq (g2 := F0 m 8 ls [.null]) rfl ?_
  refine lv_astoreN (lv' := [(5, .null), (0, .ref x), (1, .int a0), (2, .long a1), (4, .int a2)]) hx hb dX11_date_8 hl (by decide) rfl (fun ls hl => ?_)
  refine lv_aloadN hx hb dX11_date_10 (lv_at hl 0 rfl) ?_
  refine lv_ifnullN (tgt := 33) hx hb dX11_date_12 (by decide) ?_
  refine lv_ldc2 (v := (-1)) hx hb hown (htw _ (ck_34 _ (List.mem_of_getElem? (i := 18) rfl))) dX11_date_33 ?_
  exact W.lret (v := (-1)) hx hb hr (fun t ht hW => ⟨(-1), rfl, rfl, ht⟩) (fun _ h => by cases h) dX11_date_36

theorem dX11_count_0 : decode cX11_count 0 = .ok (.aload_n 0, 1) := by decide +kernel
theorem dX11_count_1 : decode cX11_count 1 = .ok (.getfield 19, 3) := by decide +kernel
theorem dX11_count_4 : decode cX11_count 4 = .ok (.iload_n 1, 1) := by decide +kernel
theorem dX11_count_5 : decode cX11_count 5 = .ok (.invokevirtual 112, 3) := by decide +kernel
theorem dX11_count_8 : decode cX11_count 8 = .ok (.astore 5, 2) := by decide +kernel
theorem dX11_count_10 : decode cX11_count 10 = .ok (.aload 5, 2) := by decide +kernel
theorem dX11_count_12 : decode cX11_count 12 = .ok (.ifnull 13, 3) := by decide +kernel
theorem dX11_count_25 : decode cX11_count 25 = .ok (.ldc2_w 143, 3) := by decide +kernel
theorem dX11_count_28 : decode cX11_count 28 = .ok (.lreturn, 1) := by decide +kernel
set_option maxHeartbeats 4000000 in
set_option maxRecDepth 100000 in
theorem mx_count (l : Launch) (dC : Nat → ClassId) (dI : Nat → Nat → Nat) (x : Nat) (xpa : Nat) (xsp : Nat) (xdy : Nat) (xle : Nat) (xst : Nat) (xim : Nat) (xil : Nat) (xmo : Nat) (xom : Nat) (xwi : Nat) (b : Nat) (bto : Nat) (bnm : Nat) (bla : Nat) (bsk : Nat) (bru : Nat) (bbo : Nat) (bdi : Nat) (bda : Nat) (bdk : Nat) (bdt : Nat) (bdp : Nat) (bno : Nat) (bcT : ClassId) (a0 : Int32) (a1 : Int32) (a2 : Int64) : Met l yX11_count (Cond.code yX11_count cX11_count 6 (some .long) :: wsL_law) ({ frames := 2, cells := 0, slots := 0, locals := 43 }) (va_Pc [.ref x, .int a0, .int a1, .long a2] (fun U => va_P (dC, dI) vwCl [(x, .inr (11, [.ref xpa, .ref b, .ref xsp, .ref xdy, .ref xle, .ref xst, .int 0, .ref xim, .ref xil, .int 0, .ref xmo, .ref xom, .ref xwi])), (b, .inr (0, [.ref bto, .ref bnm, .ref bla, .ref bsk, .ref bru, .ref bbo, .ref bdi, .ref bda, .ref bdk, .ref bdt, .ref bdp, .ref bno])), (bto, .inl (bcT, 5, .inl (fun _ => 0)))] U.heap ∧ va_K (dC, dI) vwCl [(bcT, .int)] U)) (vp_Sl (fun r => r = (-1))) 0 0 (fun _ => False) := by
  refine Met.ofW (cc := cX11_count) (maxL := 6) (ret := (some .long)) (by decide) rfl ?_
  intro p e s m args below meth c s₁ B hml hv
  obtain ⟨rfl, hP, hK⟩ := hv
  have hx := B.exec
  have hb := B.bytes
  have hr := B.returns
  have hts := atoms_spec (ws := Cond.code yX11_count cX11_count 6 (some .long) :: wsL_law) B.pre
  have htw : ∀ w ∈ wsL_law, w.before _ s = true := fun w h => hts w (List.mem_cons_of_mem _ h)
  have hown : s.vm.findClass RX11 = some m.cls := findClass_of_methodNamed B.named
  have hlocks := B.notSynchronized
  have hl := lv_entry ([.ref x, .int a0, .int a1, .long a2]) (n := 6) (Nat.le_of_ble_eq_true rfl)
  rw [lg_entry_eq]
  generalize (lg_sl ([.ref x, .int a0, .int a1, .long a2]) ++ List.replicate (6 - (lg_sl ([.ref x, .int a0, .int a1, .long a2])).length) Slot.unset).toArray = ls at hl ⊢
  have hl : lv_has ls 6 [(0, .ref x), (1, .int a0), (2, .int a1), (3, .long a2)] := hl
  refine lv_aload_n hx hb dX11_count_0 rfl (lv_at hl 0 rfl) ?_
  refine va_get (D := (dC, dI)) (ci := 11) (v := .ref b) (C := RX11) (T := TX11) (N := 13) hx hb htw inlX11 hown hK hP 0 rfl rfl 1 (by decide) (htw _ (ck_1 _ (List.mem_of_getElem? (i := 21) rfl))) (fun _ h9 => h9) rfl dX11_count_1 ?_
  refine lv_iload_n hx hb dX11_count_4 rfl (lv_at hl 1 rfl) ?_
  have hPc := hP.sub (ws' := [(b, .inr (0, [.ref bto, .ref bnm, .ref bla, .ref bsk, .ref bru, .ref bbo, .ref bdi, .ref bda, .ref bdk, .ref bdt, .ref bdp, .ref bno])), (bto, .inl (bcT, 5, .inl (fun _ => 0)))]) [1, 2] rfl
  have hKc := hK.sub (tys' := [(bcT, .int)]) [0] rfl
  refine va_csq (W.runV (As := [.int a0]) (rest := []) ⟨hx, hb, hml, hown, htw⟩ (mt_landAt l dC dI b bto bnm bla bsk bru bbo bdi bda bdk bdt bdp bno bcT a0) (cwV 1 htw (xg_V (ck_33 _ (List.mem_of_getElem? (i := 21) rfl)) (ck_20 _ (List.mem_of_getElem? (i := 22) rfl)) (ck_20 _ (List.mem_of_getElem? (i := 23) rfl)) (ck_1 _ (List.mem_of_getElem? (i := 20) rfl)) (ck_21 _ (List.mem_of_getElem? (i := 0) rfl))) rfl rfl rfl (by decide +kernel) ⟨Nat.le_of_ble_eq_true rfl, Nat.le_of_ble_eq_true rfl⟩) ⟨fun a U g mk q => by obtain ⟨q0, qP, qK⟩ := q; exact ⟨q0, qP, va_K.moved (u := U) (U := U.calling g mk a) (Vm.Alike.refl U.vm) qK⟩, va_recv hKc hPc (ci := 0) (q0 := 0) rfl rfl, fun U hU hW => ⟨rfl, by rw [hU]; exact hPc, va_K.moved hW.alike hKc⟩⟩ rfl rfl hl.1 rfl (lv_room (Nat.le_of_ble_eq_true rfl)) dX11_count_5 ⟨Nat.le_of_ble_eq_true rfl, Nat.le_of_ble_eq_true rfl⟩) (fun r_1 hw => ?_)
  try dsimp only at hw
  obtain rfl : r_1 = none := hw
  refine W.eq (g2 := F0 m 8 ls [.null]) rfl ?_
  refine lv_astoreN (lv' := [(5, .null), (0, .ref x), (1, .int a0), (2, .int a1), (3, .long a2)]) hx hb dX11_count_8 hl (by decide) rfl (fun ls hl => ?_)
  refine lv_aloadN hx hb dX11_count_10 (lv_at hl 0 rfl) ?_
  refine lv_ifnullN (tgt := 25) hx hb dX11_count_12 (by decide) ?_
  refine lv_ldc2 (v := (-1)) hx hb hown (htw _ (ck_34 _ (List.mem_of_getElem? (i := 18) rfl))) dX11_count_25 ?_
  exact W.lret (v := (-1)) hx hb hr (fun t ht hW => ⟨(-1), rfl, rfl, ht⟩) (fun _ h => by cases h) dX11_count_28

theorem dX11_feast_0 : decode cX11_feast 0 = .ok (.aload_n 0, 1) := by decide +kernel
theorem dX11_feast_1 : decode cX11_feast 1 = .ok (.getfield 19, 3) := by decide +kernel
theorem dX11_feast_4 : decode cX11_feast 4 = .ok (.iconst 1, 1) := by decide +kernel
theorem dX11_feast_5 : decode cX11_feast 5 = .ok (.iload_n 1, 1) := by decide +kernel
theorem dX11_feast_6 : decode cX11_feast 6 = .ok (.invokevirtual 178, 3) := by decide +kernel
theorem dX11_feast_9 : decode cX11_feast 9 = .ok (.ifCond .eq 10, 3) := by decide +kernel
theorem dX11_feast_19 : decode cX11_feast 19 = .ok (.iconst (-1), 1) := by decide +kernel
theorem dX11_feast_20 : decode cX11_feast 20 = .ok (.ireturn, 1) := by decide +kernel
set_option maxHeartbeats 4000000 in
set_option maxRecDepth 100000 in
theorem mx_feast (l : Launch) (dC : Nat → ClassId) (dI : Nat → Nat → Nat) (x : Nat) (xpa : Nat) (xsp : Nat) (xdy : Nat) (xle : Nat) (xst : Nat) (xim : Nat) (xil : Nat) (xmo : Nat) (xom : Nat) (xwi : Nat) (b : Nat) (bto : Nat) (bnm : Nat) (bla : Nat) (bsk : Nat) (bru : Nat) (bbo : Nat) (bdi : Nat) (bda : Nat) (bdk : Nat) (bdt : Nat) (bdp : Nat) (bno : Nat) (bcT : ClassId) (a0 : Int32) (a1 : Int64) : Met l yX11_feast (Cond.code yX11_feast cX11_feast 4 (some .int) :: wsL_law) ({ frames := 1, cells := 0, slots := 0, locals := 22 }) (va_Pc [.ref x, .int a0, .long a1] (fun U => va_P (dC, dI) vwCl [(x, .inr (11, [.ref xpa, .ref b, .ref xsp, .ref xdy, .ref xle, .ref xst, .int 0, .ref xim, .ref xil, .int 0, .ref xmo, .ref xom, .ref xwi])), (b, .inr (0, [.ref bto, .ref bnm, .ref bla, .ref bsk, .ref bru, .ref bbo, .ref bdi, .ref bda, .ref bdk, .ref bdt, .ref bdp, .ref bno])), (bto, .inl (bcT, 5, .inl (fun _ => 0)))] U.heap ∧ va_K (dC, dI) vwCl [(bcT, .int)] U)) (vp_Si (fun r => r = (-1))) 0 0 (fun _ => False) := by
  refine Met.ofW (cc := cX11_feast) (maxL := 4) (ret := (some .int)) (by decide) rfl ?_
  intro p e s m args below meth c s₁ B hml hv
  obtain ⟨rfl, hP, hK⟩ := hv
  have hx := B.exec
  have hb := B.bytes
  have hr := B.returns
  have hts := atoms_spec (ws := Cond.code yX11_feast cX11_feast 4 (some .int) :: wsL_law) B.pre
  have htw : ∀ w ∈ wsL_law, w.before _ s = true := fun w h => hts w (List.mem_cons_of_mem _ h)
  have hown : s.vm.findClass RX11 = some m.cls := findClass_of_methodNamed B.named
  have hlocks := B.notSynchronized
  have hl := lv_entry ([.ref x, .int a0, .long a1]) (n := 4) (Nat.le_of_ble_eq_true rfl)
  rw [lg_entry_eq]
  generalize (lg_sl ([.ref x, .int a0, .long a1]) ++ List.replicate (4 - (lg_sl ([.ref x, .int a0, .long a1])).length) Slot.unset).toArray = ls at hl ⊢
  have hl : lv_has ls 4 [(0, .ref x), (1, .int a0), (2, .long a1)] := hl
  refine lv_aload_n hx hb dX11_feast_0 rfl (lv_at hl 0 rfl) ?_
  refine va_get (D := (dC, dI)) (ci := 11) (v := .ref b) (C := RX11) (T := TX11) (N := 13) hx hb htw inlX11 hown hK hP 0 rfl rfl 1 (by decide) (htw _ (ck_1 _ (List.mem_of_getElem? (i := 21) rfl))) (fun _ h9 => h9) rfl dX11_feast_1 ?_
  refine lv_iconst (v := 1) hx hb dX11_feast_4 (by decide) ?_
  refine lv_iload_n hx hb dX11_feast_5 rfl (lv_at hl 1 rfl) ?_
  have hPc := hP.sub (ws' := [(b, .inr (0, [.ref bto, .ref bnm, .ref bla, .ref bsk, .ref bru, .ref bbo, .ref bdi, .ref bda, .ref bdk, .ref bdt, .ref bdp, .ref bno])), (bto, .inl (bcT, 5, .inl (fun _ => 0)))]) [1, 2] rfl
  have hKc := hK.sub (tys' := [(bcT, .int)]) [0] rfl
  refine vp_callSi (W.runV (As := [.int 1, .int a0]) (rest := []) ⟨hx, hb, hml, hown, htw⟩ (mt_has l dC dI b bto bnm bla bsk bru bbo bdi bda bdk bdt bdp bno bcT (1 : Int32) a0) (cwV 2 htw (xg_V (ck_38 _ (List.mem_of_getElem? (i := 19) rfl)) (ck_21 _ (List.mem_of_getElem? (i := 2) rfl)) (ck_21 _ (List.mem_of_getElem? (i := 3) rfl)) (ck_1 _ (List.mem_of_getElem? (i := 20) rfl)) (ck_21 _ (List.mem_of_getElem? (i := 4) rfl))) rfl rfl rfl (by decide +kernel) ⟨Nat.le_of_ble_eq_true rfl, Nat.le_of_ble_eq_true rfl⟩) ⟨fun a U g mk q => by obtain ⟨q0, qP, qK⟩ := q; exact ⟨q0, qP, va_K.moved (u := U) (U := U.calling g mk a) (Vm.Alike.refl U.vm) qK⟩, va_recv hKc hPc (ci := 0) (q0 := 0) rfl rfl, fun U hU hW => ⟨rfl, by rw [hU]; exact hPc, va_K.moved hW.alike hKc⟩⟩ rfl rfl hl.1 rfl (lv_room (Nat.le_of_ble_eq_true rfl)) dX11_feast_6 ⟨Nat.le_of_ble_eq_true rfl, Nat.le_of_ble_eq_true rfl⟩) (fun r_1 hw => ?_)
  try dsimp only at hw
  obtain rfl : r_1 = 0 := hw
  refine lv_if_eq (tgt := 19) hx hb dX11_feast_9 (by decide) (fun _ => ?_) (fun c => absurd c (by decide))
  refine lv_iconst (v := (-1)) hx hb dX11_feast_19 (by decide) ?_
  exact W.iret (v := (-1)) hx hb hr (fun t ht hW => ⟨(-1), rfl, rfl, ht⟩) (fun _ h => by cases h) dX11_feast_20

theorem dX11_festive_0 : decode cX11_festive 0 = .ok (.aload_n 0, 1) := by decide +kernel
theorem dX11_festive_1 : decode cX11_festive 1 = .ok (.getfield 19, 3) := by decide +kernel
theorem dX11_festive_4 : decode cX11_festive 4 = .ok (.iconst 1, 1) := by decide +kernel
theorem dX11_festive_5 : decode cX11_festive 5 = .ok (.iload_n 1, 1) := by decide +kernel
theorem dX11_festive_6 : decode cX11_festive 6 = .ok (.invokevirtual 178, 3) := by decide +kernel
theorem dX11_festive_9 : decode cX11_festive 9 = .ok (.ifCond .eq 10, 3) := by decide +kernel
theorem dX11_festive_19 : decode cX11_festive 19 = .ok (.ldc2_w 143, 3) := by decide +kernel
theorem dX11_festive_22 : decode cX11_festive 22 = .ok (.lreturn, 1) := by decide +kernel
set_option maxHeartbeats 4000000 in
set_option maxRecDepth 100000 in
theorem mx_festive (l : Launch) (dC : Nat → ClassId) (dI : Nat → Nat → Nat) (x : Nat) (xpa : Nat) (xsp : Nat) (xdy : Nat) (xle : Nat) (xst : Nat) (xim : Nat) (xil : Nat) (xmo : Nat) (xom : Nat) (xwi : Nat) (b : Nat) (bto : Nat) (bnm : Nat) (bla : Nat) (bsk : Nat) (bru : Nat) (bbo : Nat) (bdi : Nat) (bda : Nat) (bdk : Nat) (bdt : Nat) (bdp : Nat) (bno : Nat) (bcT : ClassId) (a0 : Int32) (a1 : Int64) : Met l yX11_festive (Cond.code yX11_festive cX11_festive 4 (some .long) :: wsL_law) ({ frames := 1, cells := 0, slots := 0, locals := 22 }) (va_Pc [.ref x, .int a0, .long a1] (fun U => va_P (dC, dI) vwCl [(x, .inr (11, [.ref xpa, .ref b, .ref xsp, .ref xdy, .ref xle, .ref xst, .int 0, .ref xim, .ref xil, .int 0, .ref xmo, .ref xom, .ref xwi])), (b, .inr (0, [.ref bto, .ref bnm, .ref bla, .ref bsk, .ref bru, .ref bbo, .ref bdi, .ref bda, .ref bdk, .ref bdt, .ref bdp, .ref bno])), (bto, .inl (bcT, 5, .inl (fun _ => 0)))] U.heap ∧ va_K (dC, dI) vwCl [(bcT, .int)] U)) (vp_Sl (fun r => r = (-1))) 0 0 (fun _ => False) := by
  refine Met.ofW (cc := cX11_festive) (maxL := 4) (ret := (some .long)) (by decide) rfl ?_
  intro p e s m args below meth c s₁ B hml hv
  obtain ⟨rfl, hP, hK⟩ := hv
  have hx := B.exec
  have hb := B.bytes
  have hr := B.returns
  have hts := atoms_spec (ws := Cond.code yX11_festive cX11_festive 4 (some .long) :: wsL_law) B.pre
  have htw : ∀ w ∈ wsL_law, w.before _ s = true := fun w h => hts w (List.mem_cons_of_mem _ h)
  have hown : s.vm.findClass RX11 = some m.cls := findClass_of_methodNamed B.named
  have hlocks := B.notSynchronized
  have hl := lv_entry ([.ref x, .int a0, .long a1]) (n := 4) (Nat.le_of_ble_eq_true rfl)
  rw [lg_entry_eq]
  generalize (lg_sl ([.ref x, .int a0, .long a1]) ++ List.replicate (4 - (lg_sl ([.ref x, .int a0, .long a1])).length) Slot.unset).toArray = ls at hl ⊢
  have hl : lv_has ls 4 [(0, .ref x), (1, .int a0), (2, .long a1)] := hl
  refine lv_aload_n hx hb dX11_festive_0 rfl (lv_at hl 0 rfl) ?_
  refine va_get (D := (dC, dI)) (ci := 11) (v := .ref b) (C := RX11) (T := TX11) (N := 13) hx hb htw inlX11 hown hK hP 0 rfl rfl 1 (by decide) (htw _ (ck_1 _ (List.mem_of_getElem? (i := 21) rfl))) (fun _ h9 => h9) rfl dX11_festive_1 ?_
  refine lv_iconst (v := 1) hx hb dX11_festive_4 (by decide) ?_
  refine lv_iload_n hx hb dX11_festive_5 rfl (lv_at hl 1 rfl) ?_
  have hPc := hP.sub (ws' := [(b, .inr (0, [.ref bto, .ref bnm, .ref bla, .ref bsk, .ref bru, .ref bbo, .ref bdi, .ref bda, .ref bdk, .ref bdt, .ref bdp, .ref bno])), (bto, .inl (bcT, 5, .inl (fun _ => 0)))]) [1, 2] rfl
  have hKc := hK.sub (tys' := [(bcT, .int)]) [0] rfl
  refine vp_callSi (W.runV (As := [.int 1, .int a0]) (rest := []) ⟨hx, hb, hml, hown, htw⟩ (mt_has l dC dI b bto bnm bla bsk bru bbo bdi bda bdk bdt bdp bno bcT (1 : Int32) a0) (cwV 2 htw (xg_V (ck_38 _ (List.mem_of_getElem? (i := 19) rfl)) (ck_21 _ (List.mem_of_getElem? (i := 2) rfl)) (ck_21 _ (List.mem_of_getElem? (i := 3) rfl)) (ck_1 _ (List.mem_of_getElem? (i := 20) rfl)) (ck_21 _ (List.mem_of_getElem? (i := 4) rfl))) rfl rfl rfl (by decide +kernel) ⟨Nat.le_of_ble_eq_true rfl, Nat.le_of_ble_eq_true rfl⟩) ⟨fun a U g mk q => by obtain ⟨q0, qP, qK⟩ := q; exact ⟨q0, qP, va_K.moved (u := U) (U := U.calling g mk a) (Vm.Alike.refl U.vm) qK⟩, va_recv hKc hPc (ci := 0) (q0 := 0) rfl rfl, fun U hU hW => ⟨rfl, by rw [hU]; exact hPc, va_K.moved hW.alike hKc⟩⟩ rfl rfl hl.1 rfl (lv_room (Nat.le_of_ble_eq_true rfl)) dX11_festive_6 ⟨Nat.le_of_ble_eq_true rfl, Nat.le_of_ble_eq_true rfl⟩) (fun r_1 hw => ?_)
  try dsimp only at hw
  obtain rfl : r_1 = 0 := hw
  refine lv_if_eq (tgt := 19) hx hb dX11_festive_9 (by decide) (fun _ => ?_) (fun c => absurd c (by decide))
  refine lv_ldc2 (v := (-1)) hx hb hown (htw _ (ck_34 _ (List.mem_of_getElem? (i := 18) rfl))) dX11_festive_19 ?_
  exact W.lret (v := (-1)) hx hb hr (fun t ht hW => ⟨(-1), rfl, rfl, ht⟩) (fun _ h => by cases h) dX11_festive_22

theorem dX11_rule_0 : decode cX11_rule 0 = .ok (.aload_n 0, 1) := by decide +kernel
theorem dX11_rule_1 : decode cX11_rule 1 = .ok (.getfield 19, 3) := by decide +kernel
theorem dX11_rule_4 : decode cX11_rule 4 = .ok (.iconst 1, 1) := by decide +kernel
theorem dX11_rule_5 : decode cX11_rule 5 = .ok (.iload_n 1, 1) := by decide +kernel
theorem dX11_rule_6 : decode cX11_rule 6 = .ok (.invokevirtual 178, 3) := by decide +kernel
theorem dX11_rule_9 : decode cX11_rule 9 = .ok (.ifCond .eq 10, 3) := by decide +kernel
theorem dX11_rule_19 : decode cX11_rule 19 = .ok (.ldc2_w 220, 3) := by decide +kernel
theorem dX11_rule_22 : decode cX11_rule 22 = .ok (.lreturn, 1) := by decide +kernel
set_option maxHeartbeats 4000000 in
set_option maxRecDepth 100000 in
theorem mx_rule (l : Launch) (dC : Nat → ClassId) (dI : Nat → Nat → Nat) (x : Nat) (xpa : Nat) (xsp : Nat) (xdy : Nat) (xle : Nat) (xst : Nat) (xim : Nat) (xil : Nat) (xmo : Nat) (xom : Nat) (xwi : Nat) (b : Nat) (bto : Nat) (bnm : Nat) (bla : Nat) (bsk : Nat) (bru : Nat) (bbo : Nat) (bdi : Nat) (bda : Nat) (bdk : Nat) (bdt : Nat) (bdp : Nat) (bno : Nat) (bcT : ClassId) (a0 : Int32) (a1 : Int64) : Met l yX11_rule (Cond.code yX11_rule cX11_rule 4 (some .long) :: wsL_law) ({ frames := 1, cells := 0, slots := 0, locals := 22 }) (va_Pc [.ref x, .int a0, .long a1] (fun U => va_P (dC, dI) vwCl [(x, .inr (11, [.ref xpa, .ref b, .ref xsp, .ref xdy, .ref xle, .ref xst, .int 0, .ref xim, .ref xil, .int 0, .ref xmo, .ref xom, .ref xwi])), (b, .inr (0, [.ref bto, .ref bnm, .ref bla, .ref bsk, .ref bru, .ref bbo, .ref bdi, .ref bda, .ref bdk, .ref bdt, .ref bdp, .ref bno])), (bto, .inl (bcT, 5, .inl (fun _ => 0)))] U.heap ∧ va_K (dC, dI) vwCl [(bcT, .int)] U)) (vp_Sl (fun r => r = (-9223372036854775808))) 0 0 (fun _ => False) := by
  refine Met.ofW (cc := cX11_rule) (maxL := 4) (ret := (some .long)) (by decide) rfl ?_
  intro p e s m args below meth c s₁ B hml hv
  obtain ⟨rfl, hP, hK⟩ := hv
  have hx := B.exec
  have hb := B.bytes
  have hr := B.returns
  have hts := atoms_spec (ws := Cond.code yX11_rule cX11_rule 4 (some .long) :: wsL_law) B.pre
  have htw : ∀ w ∈ wsL_law, w.before _ s = true := fun w h => hts w (List.mem_cons_of_mem _ h)
  have hown : s.vm.findClass RX11 = some m.cls := findClass_of_methodNamed B.named
  have hlocks := B.notSynchronized
  have hl := lv_entry ([.ref x, .int a0, .long a1]) (n := 4) (Nat.le_of_ble_eq_true rfl)
  rw [lg_entry_eq]
  generalize (lg_sl ([.ref x, .int a0, .long a1]) ++ List.replicate (4 - (lg_sl ([.ref x, .int a0, .long a1])).length) Slot.unset).toArray = ls at hl ⊢
  have hl : lv_has ls 4 [(0, .ref x), (1, .int a0), (2, .long a1)] := hl
  refine lv_aload_n hx hb dX11_rule_0 rfl (lv_at hl 0 rfl) ?_
  refine va_get (D := (dC, dI)) (ci := 11) (v := .ref b) (C := RX11) (T := TX11) (N := 13) hx hb htw inlX11 hown hK hP 0 rfl rfl 1 (by decide) (htw _ (ck_1 _ (List.mem_of_getElem? (i := 21) rfl))) (fun _ h9 => h9) rfl dX11_rule_1 ?_
  refine lv_iconst (v := 1) hx hb dX11_rule_4 (by decide) ?_
  refine lv_iload_n hx hb dX11_rule_5 rfl (lv_at hl 1 rfl) ?_
  have hPc := hP.sub (ws' := [(b, .inr (0, [.ref bto, .ref bnm, .ref bla, .ref bsk, .ref bru, .ref bbo, .ref bdi, .ref bda, .ref bdk, .ref bdt, .ref bdp, .ref bno])), (bto, .inl (bcT, 5, .inl (fun _ => 0)))]) [1, 2] rfl
  have hKc := hK.sub (tys' := [(bcT, .int)]) [0] rfl
  refine vp_callSi (W.runV (As := [.int 1, .int a0]) (rest := []) ⟨hx, hb, hml, hown, htw⟩ (mt_has l dC dI b bto bnm bla bsk bru bbo bdi bda bdk bdt bdp bno bcT (1 : Int32) a0) (cwV 2 htw (xg_V (ck_38 _ (List.mem_of_getElem? (i := 19) rfl)) (ck_21 _ (List.mem_of_getElem? (i := 2) rfl)) (ck_21 _ (List.mem_of_getElem? (i := 3) rfl)) (ck_1 _ (List.mem_of_getElem? (i := 20) rfl)) (ck_21 _ (List.mem_of_getElem? (i := 4) rfl))) rfl rfl rfl (by decide +kernel) ⟨Nat.le_of_ble_eq_true rfl, Nat.le_of_ble_eq_true rfl⟩) ⟨fun a U g mk q => by obtain ⟨q0, qP, qK⟩ := q; exact ⟨q0, qP, va_K.moved (u := U) (U := U.calling g mk a) (Vm.Alike.refl U.vm) qK⟩, va_recv hKc hPc (ci := 0) (q0 := 0) rfl rfl, fun U hU hW => ⟨rfl, by rw [hU]; exact hPc, va_K.moved hW.alike hKc⟩⟩ rfl rfl hl.1 rfl (lv_room (Nat.le_of_ble_eq_true rfl)) dX11_rule_6 ⟨Nat.le_of_ble_eq_true rfl, Nat.le_of_ble_eq_true rfl⟩) (fun r_1 hw => ?_)
  try dsimp only at hw
  obtain rfl : r_1 = 0 := hw
  refine lv_if_eq (tgt := 19) hx hb dX11_rule_9 (by decide) (fun _ => ?_) (fun c => absurd c (by decide))
  refine lv_ldc2 (v := (-9223372036854775808)) hx hb hown (htw _ (ck_44 _ (List.mem_of_getElem? (i := 7) rfl))) dX11_rule_19 ?_
  exact W.lret (v := (-9223372036854775808)) hx hb hr (fun t ht hW => ⟨(-9223372036854775808), rfl, rfl, ht⟩) (fun _ h => by cases h) dX11_rule_22

theorem dX11_life_0 : decode cX11_life 0 = .ok (.aload_n 0, 1) := by decide +kernel
theorem dX11_life_1 : decode cX11_life 1 = .ok (.getfield 19, 3) := by decide +kernel
theorem dX11_life_4 : decode cX11_life 4 = .ok (.iconst 2, 1) := by decide +kernel
theorem dX11_life_5 : decode cX11_life 5 = .ok (.iload_n 1, 1) := by decide +kernel
theorem dX11_life_6 : decode cX11_life 6 = .ok (.invokevirtual 178, 3) := by decide +kernel
theorem dX11_life_9 : decode cX11_life 9 = .ok (.ifCond .eq 12, 3) := by decide +kernel
theorem dX11_life_21 : decode cX11_life 21 = .ok (.ldc2_w 143, 3) := by decide +kernel
theorem dX11_life_24 : decode cX11_life 24 = .ok (.lreturn, 1) := by decide +kernel
set_option maxHeartbeats 4000000 in
set_option maxRecDepth 100000 in
theorem mx_life (l : Launch) (dC : Nat → ClassId) (dI : Nat → Nat → Nat) (x : Nat) (xpa : Nat) (xsp : Nat) (xdy : Nat) (xle : Nat) (xst : Nat) (xim : Nat) (xil : Nat) (xmo : Nat) (xom : Nat) (xwi : Nat) (b : Nat) (bto : Nat) (bnm : Nat) (bla : Nat) (bsk : Nat) (bru : Nat) (bbo : Nat) (bdi : Nat) (bda : Nat) (bdk : Nat) (bdt : Nat) (bdp : Nat) (bno : Nat) (bcT : ClassId) (a0 : Int32) (a1 : Int32) : Met l yX11_life (Cond.code yX11_life cX11_life 3 (some .long) :: wsL_law) ({ frames := 1, cells := 0, slots := 0, locals := 22 }) (va_Pc [.ref x, .int a0, .int a1] (fun U => va_P (dC, dI) vwCl [(x, .inr (11, [.ref xpa, .ref b, .ref xsp, .ref xdy, .ref xle, .ref xst, .int 0, .ref xim, .ref xil, .int 0, .ref xmo, .ref xom, .ref xwi])), (b, .inr (0, [.ref bto, .ref bnm, .ref bla, .ref bsk, .ref bru, .ref bbo, .ref bdi, .ref bda, .ref bdk, .ref bdt, .ref bdp, .ref bno])), (bto, .inl (bcT, 5, .inl (fun _ => 0)))] U.heap ∧ va_K (dC, dI) vwCl [(bcT, .int)] U)) (vp_Sl (fun r => r = (-1))) 0 0 (fun _ => False) := by
  refine Met.ofW (cc := cX11_life) (maxL := 3) (ret := (some .long)) (by decide) rfl ?_
  intro p e s m args below meth c s₁ B hml hv
  obtain ⟨rfl, hP, hK⟩ := hv
  have hx := B.exec
  have hb := B.bytes
  have hr := B.returns
  have hts := atoms_spec (ws := Cond.code yX11_life cX11_life 3 (some .long) :: wsL_law) B.pre
  have htw : ∀ w ∈ wsL_law, w.before _ s = true := fun w h => hts w (List.mem_cons_of_mem _ h)
  have hown : s.vm.findClass RX11 = some m.cls := findClass_of_methodNamed B.named
  have hlocks := B.notSynchronized
  have hl := lv_entry ([.ref x, .int a0, .int a1]) (n := 3) (Nat.le_of_ble_eq_true rfl)
  rw [lg_entry_eq]
  generalize (lg_sl ([.ref x, .int a0, .int a1]) ++ List.replicate (3 - (lg_sl ([.ref x, .int a0, .int a1])).length) Slot.unset).toArray = ls at hl ⊢
  have hl : lv_has ls 3 [(0, .ref x), (1, .int a0), (2, .int a1)] := hl
  refine lv_aload_n hx hb dX11_life_0 rfl (lv_at hl 0 rfl) ?_
  refine va_get (D := (dC, dI)) (ci := 11) (v := .ref b) (C := RX11) (T := TX11) (N := 13) hx hb htw inlX11 hown hK hP 0 rfl rfl 1 (by decide) (htw _ (ck_1 _ (List.mem_of_getElem? (i := 21) rfl))) (fun _ h9 => h9) rfl dX11_life_1 ?_
  refine lv_iconst (v := 2) hx hb dX11_life_4 (by decide) ?_
  refine lv_iload_n hx hb dX11_life_5 rfl (lv_at hl 1 rfl) ?_
  have hPc := hP.sub (ws' := [(b, .inr (0, [.ref bto, .ref bnm, .ref bla, .ref bsk, .ref bru, .ref bbo, .ref bdi, .ref bda, .ref bdk, .ref bdt, .ref bdp, .ref bno])), (bto, .inl (bcT, 5, .inl (fun _ => 0)))]) [1, 2] rfl
  have hKc := hK.sub (tys' := [(bcT, .int)]) [0] rfl
  refine vp_callSi (W.runV (As := [.int 2, .int a0]) (rest := []) ⟨hx, hb, hml, hown, htw⟩ (mt_has l dC dI b bto bnm bla bsk bru bbo bdi bda bdk bdt bdp bno bcT (2 : Int32) a0) (cwV 2 htw (xg_V (ck_38 _ (List.mem_of_getElem? (i := 19) rfl)) (ck_21 _ (List.mem_of_getElem? (i := 2) rfl)) (ck_21 _ (List.mem_of_getElem? (i := 3) rfl)) (ck_1 _ (List.mem_of_getElem? (i := 20) rfl)) (ck_21 _ (List.mem_of_getElem? (i := 4) rfl))) rfl rfl rfl (by decide +kernel) ⟨Nat.le_of_ble_eq_true rfl, Nat.le_of_ble_eq_true rfl⟩) ⟨fun a U g mk q => by obtain ⟨q0, qP, qK⟩ := q; exact ⟨q0, qP, va_K.moved (u := U) (U := U.calling g mk a) (Vm.Alike.refl U.vm) qK⟩, va_recv hKc hPc (ci := 0) (q0 := 0) rfl rfl, fun U hU hW => ⟨rfl, by rw [hU]; exact hPc, va_K.moved hW.alike hKc⟩⟩ rfl rfl hl.1 rfl (lv_room (Nat.le_of_ble_eq_true rfl)) dX11_life_6 ⟨Nat.le_of_ble_eq_true rfl, Nat.le_of_ble_eq_true rfl⟩) (fun r_1 hw => ?_)
  try dsimp only at hw
  obtain rfl : r_1 = 0 := hw
  refine lv_if_eq (tgt := 21) hx hb dX11_life_9 (by decide) (fun _ => ?_) (fun c => absurd c (by decide))
  refine lv_ldc2 (v := (-1)) hx hb hown (htw _ (ck_34 _ (List.mem_of_getElem? (i := 18) rfl))) dX11_life_21 ?_
  exact W.lret (v := (-1)) hx hb hr (fun t ht hW => ⟨(-1), rfl, rfl, ht⟩) (fun _ h => by cases h) dX11_life_24

theorem dX11_age_0 : decode cX11_age 0 = .ok (.aload_n 0, 1) := by decide +kernel
theorem dX11_age_1 : decode cX11_age 1 = .ok (.getfield 19, 3) := by decide +kernel
theorem dX11_age_4 : decode cX11_age 4 = .ok (.iload 4, 2) := by decide +kernel
theorem dX11_age_6 : decode cX11_age 6 = .ok (.invokevirtual 112, 3) := by decide +kernel
theorem dX11_age_9 : decode cX11_age 9 = .ok (.astore 5, 2) := by decide +kernel
theorem dX11_age_11 : decode cX11_age 11 = .ok (.aload 5, 2) := by decide +kernel
theorem dX11_age_13 : decode cX11_age 13 = .ok (.ifnull 36, 3) := by decide +kernel
theorem dX11_age_49 : decode cX11_age 49 = .ok (.ldc2_w 143, 3) := by decide +kernel
theorem dX11_age_52 : decode cX11_age 52 = .ok (.lreturn, 1) := by decide +kernel
set_option maxHeartbeats 4000000 in
set_option maxRecDepth 100000 in
theorem mx_age (l : Launch) (dC : Nat → ClassId) (dI : Nat → Nat → Nat) (x : Nat) (xpa : Nat) (xsp : Nat) (xdy : Nat) (xle : Nat) (xst : Nat) (xim : Nat) (xil : Nat) (xmo : Nat) (xom : Nat) (xwi : Nat) (b : Nat) (bto : Nat) (bnm : Nat) (bla : Nat) (bsk : Nat) (bru : Nat) (bbo : Nat) (bdi : Nat) (bda : Nat) (bdk : Nat) (bdt : Nat) (bdp : Nat) (bno : Nat) (bcT : ClassId) (a0 : Int32) (a1 : Int64) (a2 : Int32) : Met l yX11_age (Cond.code yX11_age cX11_age 6 (some .long) :: wsL_law) ({ frames := 2, cells := 0, slots := 0, locals := 43 }) (va_Pc [.ref x, .int a0, .long a1, .int a2] (fun U => va_P (dC, dI) vwCl [(x, .inr (11, [.ref xpa, .ref b, .ref xsp, .ref xdy, .ref xle, .ref xst, .int 0, .ref xim, .ref xil, .int 0, .ref xmo, .ref xom, .ref xwi])), (b, .inr (0, [.ref bto, .ref bnm, .ref bla, .ref bsk, .ref bru, .ref bbo, .ref bdi, .ref bda, .ref bdk, .ref bdt, .ref bdp, .ref bno])), (bto, .inl (bcT, 5, .inl (fun _ => 0)))] U.heap ∧ va_K (dC, dI) vwCl [(bcT, .int)] U)) (vp_Sl (fun r => r = (-1))) 0 0 (fun _ => False) := by
  refine Met.ofW (cc := cX11_age) (maxL := 6) (ret := (some .long)) (by decide) rfl ?_
  intro p e s m args below meth c s₁ B hml hv
  obtain ⟨rfl, hP, hK⟩ := hv
  have hx := B.exec
  have hb := B.bytes
  have hr := B.returns
  have hts := atoms_spec (ws := Cond.code yX11_age cX11_age 6 (some .long) :: wsL_law) B.pre
  have htw : ∀ w ∈ wsL_law, w.before _ s = true := fun w h => hts w (List.mem_cons_of_mem _ h)
  have hown : s.vm.findClass RX11 = some m.cls := findClass_of_methodNamed B.named
  have hlocks := B.notSynchronized
  have hl := lv_entry ([.ref x, .int a0, .long a1, .int a2]) (n := 6) (Nat.le_of_ble_eq_true rfl)
  rw [lg_entry_eq]
  generalize (lg_sl ([.ref x, .int a0, .long a1, .int a2]) ++ List.replicate (6 - (lg_sl ([.ref x, .int a0, .long a1, .int a2])).length) Slot.unset).toArray = ls at hl ⊢
  have hl : lv_has ls 6 [(0, .ref x), (1, .int a0), (2, .long a1), (4, .int a2)] := hl
  refine lv_aload_n hx hb dX11_age_0 rfl (lv_at hl 0 rfl) ?_
  refine va_get (D := (dC, dI)) (ci := 11) (v := .ref b) (C := RX11) (T := TX11) (N := 13) hx hb htw inlX11 hown hK hP 0 rfl rfl 1 (by decide) (htw _ (ck_1 _ (List.mem_of_getElem? (i := 21) rfl))) (fun _ h9 => h9) rfl dX11_age_1 ?_
  refine lv_iload hx hb dX11_age_4 (lv_at hl 3 rfl) ?_
  have hPc := hP.sub (ws' := [(b, .inr (0, [.ref bto, .ref bnm, .ref bla, .ref bsk, .ref bru, .ref bbo, .ref bdi, .ref bda, .ref bdk, .ref bdt, .ref bdp, .ref bno])), (bto, .inl (bcT, 5, .inl (fun _ => 0)))]) [1, 2] rfl
  have hKc := hK.sub (tys' := [(bcT, .int)]) [0] rfl
  refine va_csq (W.runV (As := [.int a2]) (rest := []) ⟨hx, hb, hml, hown, htw⟩ (mt_landAt l dC dI b bto bnm bla bsk bru bbo bdi bda bdk bdt bdp bno bcT a2) (cwV 1 htw (xg_V (ck_33 _ (List.mem_of_getElem? (i := 21) rfl)) (ck_20 _ (List.mem_of_getElem? (i := 22) rfl)) (ck_20 _ (List.mem_of_getElem? (i := 23) rfl)) (ck_1 _ (List.mem_of_getElem? (i := 20) rfl)) (ck_21 _ (List.mem_of_getElem? (i := 0) rfl))) rfl rfl rfl (by decide +kernel) ⟨Nat.le_of_ble_eq_true rfl, Nat.le_of_ble_eq_true rfl⟩) ⟨fun a U g mk q => by obtain ⟨q0, qP, qK⟩ := q; exact ⟨q0, qP, va_K.moved (u := U) (U := U.calling g mk a) (Vm.Alike.refl U.vm) qK⟩, va_recv hKc hPc (ci := 0) (q0 := 0) rfl rfl, fun U hU hW => ⟨rfl, by rw [hU]; exact hPc, va_K.moved hW.alike hKc⟩⟩ rfl rfl hl.1 rfl (lv_room (Nat.le_of_ble_eq_true rfl)) dX11_age_6 ⟨Nat.le_of_ble_eq_true rfl, Nat.le_of_ble_eq_true rfl⟩) (fun r_1 hw => ?_)
  try dsimp only at hw
  obtain rfl : r_1 = none := hw
  refine W.eq (g2 := F0 m 9 ls [.null]) rfl ?_
  refine lv_astoreN (lv' := [(5, .null), (0, .ref x), (1, .int a0), (2, .long a1), (4, .int a2)]) hx hb dX11_age_9 hl (by decide) rfl (fun ls hl => ?_)
  refine lv_aloadN hx hb dX11_age_11 (lv_at hl 0 rfl) ?_
  refine lv_ifnullN (tgt := 49) hx hb dX11_age_13 (by decide) ?_
  refine lv_ldc2 (v := (-1)) hx hb hown (htw _ (ck_34 _ (List.mem_of_getElem? (i := 18) rfl))) dX11_age_49 ?_
  exact W.lret (v := (-1)) hx hb hr (fun t ht hW => ⟨(-1), rfl, rfl, ht⟩) (fun _ h => by cases h) dX11_age_52

theorem dX11_elder_0 : decode cX11_elder 0 = .ok (.aload_n 0, 1) := by decide +kernel
theorem dX11_elder_1 : decode cX11_elder 1 = .ok (.getfield 19, 3) := by decide +kernel
theorem dX11_elder_4 : decode cX11_elder 4 = .ok (.iconst 2, 1) := by decide +kernel
theorem dX11_elder_5 : decode cX11_elder 5 = .ok (.iload_n 1, 1) := by decide +kernel
theorem dX11_elder_6 : decode cX11_elder 6 = .ok (.invokevirtual 178, 3) := by decide +kernel
theorem dX11_elder_9 : decode cX11_elder 9 = .ok (.ifCond .eq 15, 3) := by decide +kernel
theorem dX11_elder_24 : decode cX11_elder 24 = .ok (.iconst (-1), 1) := by decide +kernel
theorem dX11_elder_25 : decode cX11_elder 25 = .ok (.ireturn, 1) := by decide +kernel
set_option maxHeartbeats 4000000 in
set_option maxRecDepth 100000 in
theorem mx_elder (l : Launch) (dC : Nat → ClassId) (dI : Nat → Nat → Nat) (x : Nat) (xpa : Nat) (xsp : Nat) (xdy : Nat) (xle : Nat) (xst : Nat) (xim : Nat) (xil : Nat) (xmo : Nat) (xom : Nat) (xwi : Nat) (b : Nat) (bto : Nat) (bnm : Nat) (bla : Nat) (bsk : Nat) (bru : Nat) (bbo : Nat) (bdi : Nat) (bda : Nat) (bdk : Nat) (bdt : Nat) (bdp : Nat) (bno : Nat) (bcT : ClassId) (a0 : Int32) (a1 : Int32) : Met l yX11_elder (Cond.code yX11_elder cX11_elder 3 (some .int) :: wsL_law) ({ frames := 1, cells := 0, slots := 0, locals := 22 }) (va_Pc [.ref x, .int a0, .int a1] (fun U => va_P (dC, dI) vwCl [(x, .inr (11, [.ref xpa, .ref b, .ref xsp, .ref xdy, .ref xle, .ref xst, .int 0, .ref xim, .ref xil, .int 0, .ref xmo, .ref xom, .ref xwi])), (b, .inr (0, [.ref bto, .ref bnm, .ref bla, .ref bsk, .ref bru, .ref bbo, .ref bdi, .ref bda, .ref bdk, .ref bdt, .ref bdp, .ref bno])), (bto, .inl (bcT, 5, .inl (fun _ => 0)))] U.heap ∧ va_K (dC, dI) vwCl [(bcT, .int)] U)) (vp_Si (fun r => r = (-1))) 0 0 (fun _ => False) := by
  refine Met.ofW (cc := cX11_elder) (maxL := 3) (ret := (some .int)) (by decide) rfl ?_
  intro p e s m args below meth c s₁ B hml hv
  obtain ⟨rfl, hP, hK⟩ := hv
  have hx := B.exec
  have hb := B.bytes
  have hr := B.returns
  have hts := atoms_spec (ws := Cond.code yX11_elder cX11_elder 3 (some .int) :: wsL_law) B.pre
  have htw : ∀ w ∈ wsL_law, w.before _ s = true := fun w h => hts w (List.mem_cons_of_mem _ h)
  have hown : s.vm.findClass RX11 = some m.cls := findClass_of_methodNamed B.named
  have hlocks := B.notSynchronized
  have hl := lv_entry ([.ref x, .int a0, .int a1]) (n := 3) (Nat.le_of_ble_eq_true rfl)
  rw [lg_entry_eq]
  generalize (lg_sl ([.ref x, .int a0, .int a1]) ++ List.replicate (3 - (lg_sl ([.ref x, .int a0, .int a1])).length) Slot.unset).toArray = ls at hl ⊢
  have hl : lv_has ls 3 [(0, .ref x), (1, .int a0), (2, .int a1)] := hl
  refine lv_aload_n hx hb dX11_elder_0 rfl (lv_at hl 0 rfl) ?_
  refine va_get (D := (dC, dI)) (ci := 11) (v := .ref b) (C := RX11) (T := TX11) (N := 13) hx hb htw inlX11 hown hK hP 0 rfl rfl 1 (by decide) (htw _ (ck_1 _ (List.mem_of_getElem? (i := 21) rfl))) (fun _ h9 => h9) rfl dX11_elder_1 ?_
  refine lv_iconst (v := 2) hx hb dX11_elder_4 (by decide) ?_
  refine lv_iload_n hx hb dX11_elder_5 rfl (lv_at hl 1 rfl) ?_
  have hPc := hP.sub (ws' := [(b, .inr (0, [.ref bto, .ref bnm, .ref bla, .ref bsk, .ref bru, .ref bbo, .ref bdi, .ref bda, .ref bdk, .ref bdt, .ref bdp, .ref bno])), (bto, .inl (bcT, 5, .inl (fun _ => 0)))]) [1, 2] rfl
  have hKc := hK.sub (tys' := [(bcT, .int)]) [0] rfl
  refine vp_callSi (W.runV (As := [.int 2, .int a0]) (rest := []) ⟨hx, hb, hml, hown, htw⟩ (mt_has l dC dI b bto bnm bla bsk bru bbo bdi bda bdk bdt bdp bno bcT (2 : Int32) a0) (cwV 2 htw (xg_V (ck_38 _ (List.mem_of_getElem? (i := 19) rfl)) (ck_21 _ (List.mem_of_getElem? (i := 2) rfl)) (ck_21 _ (List.mem_of_getElem? (i := 3) rfl)) (ck_1 _ (List.mem_of_getElem? (i := 20) rfl)) (ck_21 _ (List.mem_of_getElem? (i := 4) rfl))) rfl rfl rfl (by decide +kernel) ⟨Nat.le_of_ble_eq_true rfl, Nat.le_of_ble_eq_true rfl⟩) ⟨fun a U g mk q => by obtain ⟨q0, qP, qK⟩ := q; exact ⟨q0, qP, va_K.moved (u := U) (U := U.calling g mk a) (Vm.Alike.refl U.vm) qK⟩, va_recv hKc hPc (ci := 0) (q0 := 0) rfl rfl, fun U hU hW => ⟨rfl, by rw [hU]; exact hPc, va_K.moved hW.alike hKc⟩⟩ rfl rfl hl.1 rfl (lv_room (Nat.le_of_ble_eq_true rfl)) dX11_elder_6 ⟨Nat.le_of_ble_eq_true rfl, Nat.le_of_ble_eq_true rfl⟩) (fun r_1 hw => ?_)
  try dsimp only at hw
  obtain rfl : r_1 = 0 := hw
  refine lv_if_eq (tgt := 24) hx hb dX11_elder_9 (by decide) (fun _ => ?_) (fun c => absurd c (by decide))
  refine lv_iconst (v := (-1)) hx hb dX11_elder_24 (by decide) ?_
  exact W.iret (v := (-1)) hx hb hr (fun t ht hW => ⟨(-1), rfl, rfl, ht⟩) (fun _ h => by cases h) dX11_elder_25

theorem dX11_often_0 : decode cX11_often 0 = .ok (.aload_n 0, 1) := by decide +kernel
theorem dX11_often_1 : decode cX11_often 1 = .ok (.getfield 19, 3) := by decide +kernel
theorem dX11_often_4 : decode cX11_often 4 = .ok (.iload_n 1, 1) := by decide +kernel
theorem dX11_often_5 : decode cX11_often 5 = .ok (.invokevirtual 112, 3) := by decide +kernel
theorem dX11_often_8 : decode cX11_often 8 = .ok (.astore 6, 2) := by decide +kernel
theorem dX11_often_10 : decode cX11_often 10 = .ok (.aload 6, 2) := by decide +kernel
theorem dX11_often_12 : decode cX11_often 12 = .ok (.ifnull 29, 3) := by decide +kernel
theorem dX11_often_41 : decode cX11_often 41 = .ok (.ldc2_w 143, 3) := by decide +kernel
theorem dX11_often_44 : decode cX11_often 44 = .ok (.lreturn, 1) := by decide +kernel
set_option maxHeartbeats 4000000 in
set_option maxRecDepth 100000 in
theorem mx_often (l : Launch) (dC : Nat → ClassId) (dI : Nat → Nat → Nat) (x : Nat) (xpa : Nat) (xsp : Nat) (xdy : Nat) (xle : Nat) (xst : Nat) (xim : Nat) (xil : Nat) (xmo : Nat) (xom : Nat) (xwi : Nat) (b : Nat) (bto : Nat) (bnm : Nat) (bla : Nat) (bsk : Nat) (bru : Nat) (bbo : Nat) (bdi : Nat) (bda : Nat) (bdk : Nat) (bdt : Nat) (bdp : Nat) (bno : Nat) (bcT : ClassId) (a0 : Int32) (a1 : Int32) (a2 : Int32) (a3 : Int64) : Met l yX11_often (Cond.code yX11_often cX11_often 7 (some .long) :: wsL_law) ({ frames := 2, cells := 0, slots := 0, locals := 43 }) (va_Pc [.ref x, .int a0, .int a1, .int a2, .long a3] (fun U => va_P (dC, dI) vwCl [(x, .inr (11, [.ref xpa, .ref b, .ref xsp, .ref xdy, .ref xle, .ref xst, .int 0, .ref xim, .ref xil, .int 0, .ref xmo, .ref xom, .ref xwi])), (b, .inr (0, [.ref bto, .ref bnm, .ref bla, .ref bsk, .ref bru, .ref bbo, .ref bdi, .ref bda, .ref bdk, .ref bdt, .ref bdp, .ref bno])), (bto, .inl (bcT, 5, .inl (fun _ => 0)))] U.heap ∧ va_K (dC, dI) vwCl [(bcT, .int)] U)) (vp_Sl (fun r => r = (-1))) 0 0 (fun _ => False) := by
  refine Met.ofW (cc := cX11_often) (maxL := 7) (ret := (some .long)) (by decide) rfl ?_
  intro p e s m args below meth c s₁ B hml hv
  obtain ⟨rfl, hP, hK⟩ := hv
  have hx := B.exec
  have hb := B.bytes
  have hr := B.returns
  have hts := atoms_spec (ws := Cond.code yX11_often cX11_often 7 (some .long) :: wsL_law) B.pre
  have htw : ∀ w ∈ wsL_law, w.before _ s = true := fun w h => hts w (List.mem_cons_of_mem _ h)
  have hown : s.vm.findClass RX11 = some m.cls := findClass_of_methodNamed B.named
  have hlocks := B.notSynchronized
  have hl := lv_entry ([.ref x, .int a0, .int a1, .int a2, .long a3]) (n := 7) (Nat.le_of_ble_eq_true rfl)
  rw [lg_entry_eq]
  generalize (lg_sl ([.ref x, .int a0, .int a1, .int a2, .long a3]) ++ List.replicate (7 - (lg_sl ([.ref x, .int a0, .int a1, .int a2, .long a3])).length) Slot.unset).toArray = ls at hl ⊢
  have hl : lv_has ls 7 [(0, .ref x), (1, .int a0), (2, .int a1), (3, .int a2), (4, .long a3)] := hl
  refine lv_aload_n hx hb dX11_often_0 rfl (lv_at hl 0 rfl) ?_
  refine va_get (D := (dC, dI)) (ci := 11) (v := .ref b) (C := RX11) (T := TX11) (N := 13) hx hb htw inlX11 hown hK hP 0 rfl rfl 1 (by decide) (htw _ (ck_1 _ (List.mem_of_getElem? (i := 21) rfl))) (fun _ h9 => h9) rfl dX11_often_1 ?_
  refine lv_iload_n hx hb dX11_often_4 rfl (lv_at hl 1 rfl) ?_
  have hPc := hP.sub (ws' := [(b, .inr (0, [.ref bto, .ref bnm, .ref bla, .ref bsk, .ref bru, .ref bbo, .ref bdi, .ref bda, .ref bdk, .ref bdt, .ref bdp, .ref bno])), (bto, .inl (bcT, 5, .inl (fun _ => 0)))]) [1, 2] rfl
  have hKc := hK.sub (tys' := [(bcT, .int)]) [0] rfl
  refine va_csq (W.runV (As := [.int a0]) (rest := []) ⟨hx, hb, hml, hown, htw⟩ (mt_landAt l dC dI b bto bnm bla bsk bru bbo bdi bda bdk bdt bdp bno bcT a0) (cwV 1 htw (xg_V (ck_33 _ (List.mem_of_getElem? (i := 21) rfl)) (ck_20 _ (List.mem_of_getElem? (i := 22) rfl)) (ck_20 _ (List.mem_of_getElem? (i := 23) rfl)) (ck_1 _ (List.mem_of_getElem? (i := 20) rfl)) (ck_21 _ (List.mem_of_getElem? (i := 0) rfl))) rfl rfl rfl (by decide +kernel) ⟨Nat.le_of_ble_eq_true rfl, Nat.le_of_ble_eq_true rfl⟩) ⟨fun a U g mk q => by obtain ⟨q0, qP, qK⟩ := q; exact ⟨q0, qP, va_K.moved (u := U) (U := U.calling g mk a) (Vm.Alike.refl U.vm) qK⟩, va_recv hKc hPc (ci := 0) (q0 := 0) rfl rfl, fun U hU hW => ⟨rfl, by rw [hU]; exact hPc, va_K.moved hW.alike hKc⟩⟩ rfl rfl hl.1 rfl (lv_room (Nat.le_of_ble_eq_true rfl)) dX11_often_5 ⟨Nat.le_of_ble_eq_true rfl, Nat.le_of_ble_eq_true rfl⟩) (fun r_1 hw => ?_)
  try dsimp only at hw
  obtain rfl : r_1 = none := hw
  refine W.eq (g2 := F0 m 8 ls [.null]) rfl ?_
  refine lv_astoreN (lv' := [(6, .null), (0, .ref x), (1, .int a0), (2, .int a1), (3, .int a2), (4, .long a3)]) hx hb dX11_often_8 hl (by decide) rfl (fun ls hl => ?_)
  refine lv_aloadN hx hb dX11_often_10 (lv_at hl 0 rfl) ?_
  refine lv_ifnullN (tgt := 41) hx hb dX11_often_12 (by decide) ?_
  refine lv_ldc2 (v := (-1)) hx hb hown (htw _ (ck_34 _ (List.mem_of_getElem? (i := 18) rfl))) dX11_often_41 ?_
  exact W.lret (v := (-1)) hx hb hr (fun t ht hW => ⟨(-1), rfl, rfl, ht⟩) (fun _ h => by cases h) dX11_often_44

theorem dX11_springs_0 : decode cX11_springs 0 = .ok (.aload_n 0, 1) := by decide +kernel
theorem dX11_springs_1 : decode cX11_springs 1 = .ok (.getfield 19, 3) := by decide +kernel
theorem dX11_springs_4 : decode cX11_springs 4 = .ok (.iload_n 1, 1) := by decide +kernel
theorem dX11_springs_5 : decode cX11_springs 5 = .ok (.invokevirtual 112, 3) := by decide +kernel
theorem dX11_springs_8 : decode cX11_springs 8 = .ok (.astore_n 3, 1) := by decide +kernel
theorem dX11_springs_9 : decode cX11_springs 9 = .ok (.aload_n 3, 1) := by decide +kernel
theorem dX11_springs_10 : decode cX11_springs 10 = .ok (.ifnull 25, 3) := by decide +kernel
theorem dX11_springs_35 : decode cX11_springs 35 = .ok (.ldc2_w 143, 3) := by decide +kernel
theorem dX11_springs_38 : decode cX11_springs 38 = .ok (.lreturn, 1) := by decide +kernel
set_option maxHeartbeats 4000000 in
set_option maxRecDepth 100000 in
theorem mx_springs (l : Launch) (dC : Nat → ClassId) (dI : Nat → Nat → Nat) (x : Nat) (xpa : Nat) (xsp : Nat) (xdy : Nat) (xle : Nat) (xst : Nat) (xim : Nat) (xil : Nat) (xmo : Nat) (xom : Nat) (xwi : Nat) (b : Nat) (bto : Nat) (bnm : Nat) (bla : Nat) (bsk : Nat) (bru : Nat) (bbo : Nat) (bdi : Nat) (bda : Nat) (bdk : Nat) (bdt : Nat) (bdp : Nat) (bno : Nat) (bcT : ClassId) (a0 : Int32) (a1 : Int32) : Met l yX11_springs (Cond.code yX11_springs cX11_springs 4 (some .long) :: wsL_law) ({ frames := 2, cells := 0, slots := 0, locals := 43 }) (va_Pc [.ref x, .int a0, .int a1] (fun U => va_P (dC, dI) vwCl [(x, .inr (11, [.ref xpa, .ref b, .ref xsp, .ref xdy, .ref xle, .ref xst, .int 0, .ref xim, .ref xil, .int 0, .ref xmo, .ref xom, .ref xwi])), (b, .inr (0, [.ref bto, .ref bnm, .ref bla, .ref bsk, .ref bru, .ref bbo, .ref bdi, .ref bda, .ref bdk, .ref bdt, .ref bdp, .ref bno])), (bto, .inl (bcT, 5, .inl (fun _ => 0)))] U.heap ∧ va_K (dC, dI) vwCl [(bcT, .int)] U)) (vp_Sl (fun r => r = (-1))) 0 0 (fun _ => False) := by
  refine Met.ofW (cc := cX11_springs) (maxL := 4) (ret := (some .long)) (by decide) rfl ?_
  intro p e s m args below meth c s₁ B hml hv
  obtain ⟨rfl, hP, hK⟩ := hv
  have hx := B.exec
  have hb := B.bytes
  have hr := B.returns
  have hts := atoms_spec (ws := Cond.code yX11_springs cX11_springs 4 (some .long) :: wsL_law) B.pre
  have htw : ∀ w ∈ wsL_law, w.before _ s = true := fun w h => hts w (List.mem_cons_of_mem _ h)
  have hown : s.vm.findClass RX11 = some m.cls := findClass_of_methodNamed B.named
  have hlocks := B.notSynchronized
  have hl := lv_entry ([.ref x, .int a0, .int a1]) (n := 4) (Nat.le_of_ble_eq_true rfl)
  rw [lg_entry_eq]
  generalize (lg_sl ([.ref x, .int a0, .int a1]) ++ List.replicate (4 - (lg_sl ([.ref x, .int a0, .int a1])).length) Slot.unset).toArray = ls at hl ⊢
  have hl : lv_has ls 4 [(0, .ref x), (1, .int a0), (2, .int a1)] := hl
  refine lv_aload_n hx hb dX11_springs_0 rfl (lv_at hl 0 rfl) ?_
  refine va_get (D := (dC, dI)) (ci := 11) (v := .ref b) (C := RX11) (T := TX11) (N := 13) hx hb htw inlX11 hown hK hP 0 rfl rfl 1 (by decide) (htw _ (ck_1 _ (List.mem_of_getElem? (i := 21) rfl))) (fun _ h9 => h9) rfl dX11_springs_1 ?_
  refine lv_iload_n hx hb dX11_springs_4 rfl (lv_at hl 1 rfl) ?_
  have hPc := hP.sub (ws' := [(b, .inr (0, [.ref bto, .ref bnm, .ref bla, .ref bsk, .ref bru, .ref bbo, .ref bdi, .ref bda, .ref bdk, .ref bdt, .ref bdp, .ref bno])), (bto, .inl (bcT, 5, .inl (fun _ => 0)))]) [1, 2] rfl
  have hKc := hK.sub (tys' := [(bcT, .int)]) [0] rfl
  refine va_csq (W.runV (As := [.int a0]) (rest := []) ⟨hx, hb, hml, hown, htw⟩ (mt_landAt l dC dI b bto bnm bla bsk bru bbo bdi bda bdk bdt bdp bno bcT a0) (cwV 1 htw (xg_V (ck_33 _ (List.mem_of_getElem? (i := 21) rfl)) (ck_20 _ (List.mem_of_getElem? (i := 22) rfl)) (ck_20 _ (List.mem_of_getElem? (i := 23) rfl)) (ck_1 _ (List.mem_of_getElem? (i := 20) rfl)) (ck_21 _ (List.mem_of_getElem? (i := 0) rfl))) rfl rfl rfl (by decide +kernel) ⟨Nat.le_of_ble_eq_true rfl, Nat.le_of_ble_eq_true rfl⟩) ⟨fun a U g mk q => by obtain ⟨q0, qP, qK⟩ := q; exact ⟨q0, qP, va_K.moved (u := U) (U := U.calling g mk a) (Vm.Alike.refl U.vm) qK⟩, va_recv hKc hPc (ci := 0) (q0 := 0) rfl rfl, fun U hU hW => ⟨rfl, by rw [hU]; exact hPc, va_K.moved hW.alike hKc⟩⟩ rfl rfl hl.1 rfl (lv_room (Nat.le_of_ble_eq_true rfl)) dX11_springs_5 ⟨Nat.le_of_ble_eq_true rfl, Nat.le_of_ble_eq_true rfl⟩) (fun r_1 hw => ?_)
  try dsimp only at hw
  obtain rfl : r_1 = none := hw
  refine W.eq (g2 := F0 m 8 ls [.null]) rfl ?_
  refine lv_astore_nN (lv' := [(3, .null), (0, .ref x), (1, .int a0), (2, .int a1)]) hx hb dX11_springs_8 rfl hl (by decide) rfl (fun ls hl => ?_)
  refine lv_aload_nN hx hb dX11_springs_9 rfl (lv_at hl 0 rfl) ?_
  refine lv_ifnullN (tgt := 35) hx hb dX11_springs_10 (by decide) ?_
  refine lv_ldc2 (v := (-1)) hx hb hown (htw _ (ck_34 _ (List.mem_of_getElem? (i := 18) rfl))) dX11_springs_35 ?_
  exact W.lret (v := (-1)) hx hb hr (fun t ht hW => ⟨(-1), rfl, rfl, ht⟩) (fun _ h => by cases h) dX11_springs_38

theorem dX11_many_0 : decode cX11_many 0 = .ok (.aload_n 0, 1) := by decide +kernel
theorem dX11_many_1 : decode cX11_many 1 = .ok (.getfield 19, 3) := by decide +kernel
theorem dX11_many_4 : decode cX11_many 4 = .ok (.iload_n 1, 1) := by decide +kernel
theorem dX11_many_5 : decode cX11_many 5 = .ok (.invokevirtual 112, 3) := by decide +kernel
theorem dX11_many_8 : decode cX11_many 8 = .ok (.astore 4, 2) := by decide +kernel
theorem dX11_many_10 : decode cX11_many 10 = .ok (.aload 4, 2) := by decide +kernel
theorem dX11_many_12 : decode cX11_many 12 = .ok (.ifnull 23, 3) := by decide +kernel
theorem dX11_many_35 : decode cX11_many 35 = .ok (.iconst (-1), 1) := by decide +kernel
theorem dX11_many_36 : decode cX11_many 36 = .ok (.ireturn, 1) := by decide +kernel
set_option maxHeartbeats 4000000 in
set_option maxRecDepth 100000 in
theorem mx_many (l : Launch) (dC : Nat → ClassId) (dI : Nat → Nat → Nat) (x : Nat) (xpa : Nat) (xsp : Nat) (xdy : Nat) (xle : Nat) (xst : Nat) (xim : Nat) (xil : Nat) (xmo : Nat) (xom : Nat) (xwi : Nat) (b : Nat) (bto : Nat) (bnm : Nat) (bla : Nat) (bsk : Nat) (bru : Nat) (bbo : Nat) (bdi : Nat) (bda : Nat) (bdk : Nat) (bdt : Nat) (bdp : Nat) (bno : Nat) (bcT : ClassId) (a0 : Int32) (a1 : Int32) (a2 : Int32) : Met l yX11_many (Cond.code yX11_many cX11_many 8 (some .int) :: wsL_law) ({ frames := 2, cells := 0, slots := 0, locals := 43 }) (va_Pc [.ref x, .int a0, .int a1, .int a2] (fun U => va_P (dC, dI) vwCl [(x, .inr (11, [.ref xpa, .ref b, .ref xsp, .ref xdy, .ref xle, .ref xst, .int 0, .ref xim, .ref xil, .int 0, .ref xmo, .ref xom, .ref xwi])), (b, .inr (0, [.ref bto, .ref bnm, .ref bla, .ref bsk, .ref bru, .ref bbo, .ref bdi, .ref bda, .ref bdk, .ref bdt, .ref bdp, .ref bno])), (bto, .inl (bcT, 5, .inl (fun _ => 0)))] U.heap ∧ va_K (dC, dI) vwCl [(bcT, .int)] U)) (vp_Si (fun r => r = (-1))) 0 0 (fun _ => False) := by
  refine Met.ofW (cc := cX11_many) (maxL := 8) (ret := (some .int)) (by decide) rfl ?_
  intro p e s m args below meth c s₁ B hml hv
  obtain ⟨rfl, hP, hK⟩ := hv
  have hx := B.exec
  have hb := B.bytes
  have hr := B.returns
  have hts := atoms_spec (ws := Cond.code yX11_many cX11_many 8 (some .int) :: wsL_law) B.pre
  have htw : ∀ w ∈ wsL_law, w.before _ s = true := fun w h => hts w (List.mem_cons_of_mem _ h)
  have hown : s.vm.findClass RX11 = some m.cls := findClass_of_methodNamed B.named
  have hlocks := B.notSynchronized
  have hl := lv_entry ([.ref x, .int a0, .int a1, .int a2]) (n := 8) (Nat.le_of_ble_eq_true rfl)
  rw [lg_entry_eq]
  generalize (lg_sl ([.ref x, .int a0, .int a1, .int a2]) ++ List.replicate (8 - (lg_sl ([.ref x, .int a0, .int a1, .int a2])).length) Slot.unset).toArray = ls at hl ⊢
  have hl : lv_has ls 8 [(0, .ref x), (1, .int a0), (2, .int a1), (3, .int a2)] := hl
  refine lv_aload_n hx hb dX11_many_0 rfl (lv_at hl 0 rfl) ?_
  refine va_get (D := (dC, dI)) (ci := 11) (v := .ref b) (C := RX11) (T := TX11) (N := 13) hx hb htw inlX11 hown hK hP 0 rfl rfl 1 (by decide) (htw _ (ck_1 _ (List.mem_of_getElem? (i := 21) rfl))) (fun _ h9 => h9) rfl dX11_many_1 ?_
  refine lv_iload_n hx hb dX11_many_4 rfl (lv_at hl 1 rfl) ?_
  have hPc := hP.sub (ws' := [(b, .inr (0, [.ref bto, .ref bnm, .ref bla, .ref bsk, .ref bru, .ref bbo, .ref bdi, .ref bda, .ref bdk, .ref bdt, .ref bdp, .ref bno])), (bto, .inl (bcT, 5, .inl (fun _ => 0)))]) [1, 2] rfl
  have hKc := hK.sub (tys' := [(bcT, .int)]) [0] rfl
  refine va_csq (W.runV (As := [.int a0]) (rest := []) ⟨hx, hb, hml, hown, htw⟩ (mt_landAt l dC dI b bto bnm bla bsk bru bbo bdi bda bdk bdt bdp bno bcT a0) (cwV 1 htw (xg_V (ck_33 _ (List.mem_of_getElem? (i := 21) rfl)) (ck_20 _ (List.mem_of_getElem? (i := 22) rfl)) (ck_20 _ (List.mem_of_getElem? (i := 23) rfl)) (ck_1 _ (List.mem_of_getElem? (i := 20) rfl)) (ck_21 _ (List.mem_of_getElem? (i := 0) rfl))) rfl rfl rfl (by decide +kernel) ⟨Nat.le_of_ble_eq_true rfl, Nat.le_of_ble_eq_true rfl⟩) ⟨fun a U g mk q => by obtain ⟨q0, qP, qK⟩ := q; exact ⟨q0, qP, va_K.moved (u := U) (U := U.calling g mk a) (Vm.Alike.refl U.vm) qK⟩, va_recv hKc hPc (ci := 0) (q0 := 0) rfl rfl, fun U hU hW => ⟨rfl, by rw [hU]; exact hPc, va_K.moved hW.alike hKc⟩⟩ rfl rfl hl.1 rfl (lv_room (Nat.le_of_ble_eq_true rfl)) dX11_many_5 ⟨Nat.le_of_ble_eq_true rfl, Nat.le_of_ble_eq_true rfl⟩) (fun r_1 hw => ?_)
  try dsimp only at hw
  obtain rfl : r_1 = none := hw
  refine W.eq (g2 := F0 m 8 ls [.null]) rfl ?_
  refine lv_astoreN (lv' := [(4, .null), (0, .ref x), (1, .int a0), (2, .int a1), (3, .int a2)]) hx hb dX11_many_8 hl (by decide) rfl (fun ls hl => ?_)
  refine lv_aloadN hx hb dX11_many_10 (lv_at hl 0 rfl) ?_
  refine lv_ifnullN (tgt := 35) hx hb dX11_many_12 (by decide) ?_
  refine lv_iconst (v := (-1)) hx hb dX11_many_35 (by decide) ?_
  exact W.iret (v := (-1)) hx hb hr (fun t ht hW => ⟨(-1), rfl, rfl, ht⟩) (fun _ h => by cases h) dX11_many_36

theorem dX11_alike_0 : decode cX11_alike 0 = .ok (.iload_n 1, 1) := by decide +kernel
theorem dX11_alike_1 : decode cX11_alike 1 = .ok (.iload_n 2, 1) := by decide +kernel
theorem dX11_alike_2 : decode cX11_alike 2 = .ok (.if_icmp .eq 32, 3) := by decide +kernel
theorem dX11_alike_34 : decode cX11_alike 34 = .ok (.ldc2_w 143, 3) := by decide +kernel
theorem dX11_alike_37 : decode cX11_alike 37 = .ok (.lreturn, 1) := by decide +kernel
theorem dX11_alike_5 : decode cX11_alike 5 = .ok (.aload_n 0, 1) := by decide +kernel
theorem dX11_alike_6 : decode cX11_alike 6 = .ok (.getfield 19, 3) := by decide +kernel
theorem dX11_alike_9 : decode cX11_alike 9 = .ok (.iload_n 1, 1) := by decide +kernel
theorem dX11_alike_10 : decode cX11_alike 10 = .ok (.invokevirtual 112, 3) := by decide +kernel
theorem dX11_alike_13 : decode cX11_alike 13 = .ok (.ifnull 21, 3) := by decide +kernel
set_option maxHeartbeats 4000000 in
set_option maxRecDepth 100000 in
theorem mx_alike (l : Launch) (dC : Nat → ClassId) (dI : Nat → Nat → Nat) (x : Nat) (xpa : Nat) (xsp : Nat) (xdy : Nat) (xle : Nat) (xst : Nat) (xim : Nat) (xil : Nat) (xmo : Nat) (xom : Nat) (xwi : Nat) (b : Nat) (bto : Nat) (bnm : Nat) (bla : Nat) (bsk : Nat) (bru : Nat) (bbo : Nat) (bdi : Nat) (bda : Nat) (bdk : Nat) (bdt : Nat) (bdp : Nat) (bno : Nat) (bcT : ClassId) (a0 : Int32) (a1 : Int32) (a2 : Int64) (a3 : Int32) : Met l yX11_alike (Cond.code yX11_alike cX11_alike 7 (some .long) :: wsL_law) ({ frames := 2, cells := 0, slots := 0, locals := 43 }) (va_Pc [.ref x, .int a0, .int a1, .long a2, .int a3] (fun U => va_P (dC, dI) vwCl [(x, .inr (11, [.ref xpa, .ref b, .ref xsp, .ref xdy, .ref xle, .ref xst, .int 0, .ref xim, .ref xil, .int 0, .ref xmo, .ref xom, .ref xwi])), (b, .inr (0, [.ref bto, .ref bnm, .ref bla, .ref bsk, .ref bru, .ref bbo, .ref bdi, .ref bda, .ref bdk, .ref bdt, .ref bdp, .ref bno])), (bto, .inl (bcT, 5, .inl (fun _ => 0)))] U.heap ∧ va_K (dC, dI) vwCl [(bcT, .int)] U)) (vp_Sl (fun r => r = (-1))) 0 0 (fun _ => False) := by
  refine Met.ofW (cc := cX11_alike) (maxL := 7) (ret := (some .long)) (by decide) rfl ?_
  intro p e s m args below meth c s₁ B hml hv
  obtain ⟨rfl, hP, hK⟩ := hv
  have hx := B.exec
  have hb := B.bytes
  have hr := B.returns
  have hts := atoms_spec (ws := Cond.code yX11_alike cX11_alike 7 (some .long) :: wsL_law) B.pre
  have htw : ∀ w ∈ wsL_law, w.before _ s = true := fun w h => hts w (List.mem_cons_of_mem _ h)
  have hown : s.vm.findClass RX11 = some m.cls := findClass_of_methodNamed B.named
  have hlocks := B.notSynchronized
  have hl := lv_entry ([.ref x, .int a0, .int a1, .long a2, .int a3]) (n := 7) (Nat.le_of_ble_eq_true rfl)
  rw [lg_entry_eq]
  generalize (lg_sl ([.ref x, .int a0, .int a1, .long a2, .int a3]) ++ List.replicate (7 - (lg_sl ([.ref x, .int a0, .int a1, .long a2, .int a3])).length) Slot.unset).toArray = ls at hl ⊢
  have hl : lv_has ls 7 [(0, .ref x), (1, .int a0), (2, .int a1), (3, .long a2), (5, .int a3)] := hl
  refine lv_iload_n hx hb dX11_alike_0 rfl (lv_at hl 1 rfl) ?_
  refine lv_iload_n hx hb dX11_alike_1 rfl (lv_at hl 2 rfl) ?_
  refine lv_icmp_eq (tgt := 34) hx hb dX11_alike_2 (by decide) (fun c_1 => ?_) (fun c_1 => ?_)
  · refine lv_ldc2 (v := (-1)) hx hb hown (htw _ (ck_34 _ (List.mem_of_getElem? (i := 18) rfl))) dX11_alike_34 ?_
    exact W.lret (v := (-1)) hx hb hr (fun t ht hW => ⟨(-1), rfl, rfl, ht⟩) (fun _ h => by cases h) dX11_alike_37
  · refine lv_aload_n hx hb dX11_alike_5 rfl (lv_at hl 0 rfl) ?_
    refine va_get (D := (dC, dI)) (ci := 11) (v := .ref b) (C := RX11) (T := TX11) (N := 13) hx hb htw inlX11 hown hK hP 0 rfl rfl 1 (by decide) (htw _ (ck_1 _ (List.mem_of_getElem? (i := 21) rfl))) (fun _ h9 => h9) rfl dX11_alike_6 ?_
    refine lv_iload_n hx hb dX11_alike_9 rfl (lv_at hl 1 rfl) ?_
    have hPc := hP.sub (ws' := [(b, .inr (0, [.ref bto, .ref bnm, .ref bla, .ref bsk, .ref bru, .ref bbo, .ref bdi, .ref bda, .ref bdk, .ref bdt, .ref bdp, .ref bno])), (bto, .inl (bcT, 5, .inl (fun _ => 0)))]) [1, 2] rfl
    have hKc := hK.sub (tys' := [(bcT, .int)]) [0] rfl
    refine va_csq (W.runV (As := [.int a0]) (rest := []) ⟨hx, hb, hml, hown, htw⟩ (mt_landAt l dC dI b bto bnm bla bsk bru bbo bdi bda bdk bdt bdp bno bcT a0) (cwV 1 htw (xg_V (ck_33 _ (List.mem_of_getElem? (i := 21) rfl)) (ck_20 _ (List.mem_of_getElem? (i := 22) rfl)) (ck_20 _ (List.mem_of_getElem? (i := 23) rfl)) (ck_1 _ (List.mem_of_getElem? (i := 20) rfl)) (ck_21 _ (List.mem_of_getElem? (i := 0) rfl))) rfl rfl rfl (by decide +kernel) ⟨Nat.le_of_ble_eq_true rfl, Nat.le_of_ble_eq_true rfl⟩) ⟨fun a U g mk q => by obtain ⟨q0, qP, qK⟩ := q; exact ⟨q0, qP, va_K.moved (u := U) (U := U.calling g mk a) (Vm.Alike.refl U.vm) qK⟩, va_recv hKc hPc (ci := 0) (q0 := 0) rfl rfl, fun U hU hW => ⟨rfl, by rw [hU]; exact hPc, va_K.moved hW.alike hKc⟩⟩ rfl rfl hl.1 rfl (lv_room (Nat.le_of_ble_eq_true rfl)) dX11_alike_10 ⟨Nat.le_of_ble_eq_true rfl, Nat.le_of_ble_eq_true rfl⟩) (fun r_2 hw => ?_)
    try dsimp only at hw
    obtain rfl : r_2 = none := hw
    refine W.eq (g2 := F0 m 13 ls [.null]) rfl ?_
    refine lv_ifnullN (tgt := 34) hx hb dX11_alike_13 (by decide) ?_
    refine lv_ldc2 (v := (-1)) hx hb hown (htw _ (ck_34 _ (List.mem_of_getElem? (i := 18) rfl))) dX11_alike_34 ?_
    exact W.lret (v := (-1)) hx hb hr (fun t ht hW => ⟨(-1), rfl, rfl, ht⟩) (fun _ h => by cases h) dX11_alike_37

theorem dX11_deed_0 : decode cX11_deed 0 = .ok (.aload_n 0, 1) := by decide +kernel
theorem dX11_deed_1 : decode cX11_deed 1 = .ok (.getfield 19, 3) := by decide +kernel
theorem dX11_deed_4 : decode cX11_deed 4 = .ok (.iload_n 2, 1) := by decide +kernel
theorem dX11_deed_5 : decode cX11_deed 5 = .ok (.invokevirtual 112, 3) := by decide +kernel
theorem dX11_deed_8 : decode cX11_deed 8 = .ok (.astore 4, 2) := by decide +kernel
theorem dX11_deed_10 : decode cX11_deed 10 = .ok (.aload 4, 2) := by decide +kernel
theorem dX11_deed_12 : decode cX11_deed 12 = .ok (.ifnull 24, 3) := by decide +kernel
theorem dX11_deed_36 : decode cX11_deed 36 = .ok (.ldc2_w 143, 3) := by decide +kernel
theorem dX11_deed_39 : decode cX11_deed 39 = .ok (.lreturn, 1) := by decide +kernel
set_option maxHeartbeats 4000000 in
set_option maxRecDepth 100000 in
theorem mx_deed (l : Launch) (dC : Nat → ClassId) (dI : Nat → Nat → Nat) (x : Nat) (xpa : Nat) (xsp : Nat) (xdy : Nat) (xle : Nat) (xst : Nat) (xim : Nat) (xil : Nat) (xmo : Nat) (xom : Nat) (xwi : Nat) (b : Nat) (bto : Nat) (bnm : Nat) (bla : Nat) (bsk : Nat) (bru : Nat) (bbo : Nat) (bdi : Nat) (bda : Nat) (bdk : Nat) (bdt : Nat) (bdp : Nat) (bno : Nat) (bcT : ClassId) (a0 : Int32) (a1 : Int32) (a2 : Int32) : Met l yX11_deed (Cond.code yX11_deed cX11_deed 9 (some .long) :: wsL_law) ({ frames := 2, cells := 0, slots := 0, locals := 43 }) (va_Pc [.ref x, .int a0, .int a1, .int a2] (fun U => va_P (dC, dI) vwCl [(x, .inr (11, [.ref xpa, .ref b, .ref xsp, .ref xdy, .ref xle, .ref xst, .int 0, .ref xim, .ref xil, .int 0, .ref xmo, .ref xom, .ref xwi])), (b, .inr (0, [.ref bto, .ref bnm, .ref bla, .ref bsk, .ref bru, .ref bbo, .ref bdi, .ref bda, .ref bdk, .ref bdt, .ref bdp, .ref bno])), (bto, .inl (bcT, 5, .inl (fun _ => 0)))] U.heap ∧ va_K (dC, dI) vwCl [(bcT, .int)] U)) (vp_Sl (fun r => r = (-1))) 0 0 (fun _ => False) := by
  refine Met.ofW (cc := cX11_deed) (maxL := 9) (ret := (some .long)) (by decide) rfl ?_
  intro p e s m args below meth c s₁ B hml hv
  obtain ⟨rfl, hP, hK⟩ := hv
  have hx := B.exec
  have hb := B.bytes
  have hr := B.returns
  have hts := atoms_spec (ws := Cond.code yX11_deed cX11_deed 9 (some .long) :: wsL_law) B.pre
  have htw : ∀ w ∈ wsL_law, w.before _ s = true := fun w h => hts w (List.mem_cons_of_mem _ h)
  have hown : s.vm.findClass RX11 = some m.cls := findClass_of_methodNamed B.named
  have hlocks := B.notSynchronized
  have hl := lv_entry ([.ref x, .int a0, .int a1, .int a2]) (n := 9) (Nat.le_of_ble_eq_true rfl)
  rw [lg_entry_eq]
  generalize (lg_sl ([.ref x, .int a0, .int a1, .int a2]) ++ List.replicate (9 - (lg_sl ([.ref x, .int a0, .int a1, .int a2])).length) Slot.unset).toArray = ls at hl ⊢
  have hl : lv_has ls 9 [(0, .ref x), (1, .int a0), (2, .int a1), (3, .int a2)] := hl
  refine lv_aload_n hx hb dX11_deed_0 rfl (lv_at hl 0 rfl) ?_
  refine va_get (D := (dC, dI)) (ci := 11) (v := .ref b) (C := RX11) (T := TX11) (N := 13) hx hb htw inlX11 hown hK hP 0 rfl rfl 1 (by decide) (htw _ (ck_1 _ (List.mem_of_getElem? (i := 21) rfl))) (fun _ h9 => h9) rfl dX11_deed_1 ?_
  refine lv_iload_n hx hb dX11_deed_4 rfl (lv_at hl 2 rfl) ?_
  have hPc := hP.sub (ws' := [(b, .inr (0, [.ref bto, .ref bnm, .ref bla, .ref bsk, .ref bru, .ref bbo, .ref bdi, .ref bda, .ref bdk, .ref bdt, .ref bdp, .ref bno])), (bto, .inl (bcT, 5, .inl (fun _ => 0)))]) [1, 2] rfl
  have hKc := hK.sub (tys' := [(bcT, .int)]) [0] rfl
  refine va_csq (W.runV (As := [.int a1]) (rest := []) ⟨hx, hb, hml, hown, htw⟩ (mt_landAt l dC dI b bto bnm bla bsk bru bbo bdi bda bdk bdt bdp bno bcT a1) (cwV 1 htw (xg_V (ck_33 _ (List.mem_of_getElem? (i := 21) rfl)) (ck_20 _ (List.mem_of_getElem? (i := 22) rfl)) (ck_20 _ (List.mem_of_getElem? (i := 23) rfl)) (ck_1 _ (List.mem_of_getElem? (i := 20) rfl)) (ck_21 _ (List.mem_of_getElem? (i := 0) rfl))) rfl rfl rfl (by decide +kernel) ⟨Nat.le_of_ble_eq_true rfl, Nat.le_of_ble_eq_true rfl⟩) ⟨fun a U g mk q => by obtain ⟨q0, qP, qK⟩ := q; exact ⟨q0, qP, va_K.moved (u := U) (U := U.calling g mk a) (Vm.Alike.refl U.vm) qK⟩, va_recv hKc hPc (ci := 0) (q0 := 0) rfl rfl, fun U hU hW => ⟨rfl, by rw [hU]; exact hPc, va_K.moved hW.alike hKc⟩⟩ rfl rfl hl.1 rfl (lv_room (Nat.le_of_ble_eq_true rfl)) dX11_deed_5 ⟨Nat.le_of_ble_eq_true rfl, Nat.le_of_ble_eq_true rfl⟩) (fun r_1 hw => ?_)
  try dsimp only at hw
  obtain rfl : r_1 = none := hw
  refine W.eq (g2 := F0 m 8 ls [.null]) rfl ?_
  refine lv_astoreN (lv' := [(4, .null), (0, .ref x), (1, .int a0), (2, .int a1), (3, .int a2)]) hx hb dX11_deed_8 hl (by decide) rfl (fun ls hl => ?_)
  refine lv_aloadN hx hb dX11_deed_10 (lv_at hl 0 rfl) ?_
  refine lv_ifnullN (tgt := 36) hx hb dX11_deed_12 (by decide) ?_
  refine lv_ldc2 (v := (-1)) hx hb hown (htw _ (ck_34 _ (List.mem_of_getElem? (i := 18) rfl))) dX11_deed_36 ?_
  exact W.lret (v := (-1)) hx hb hr (fun t ht hW => ⟨(-1), rfl, rfl, ht⟩) (fun _ h => by cases h) dX11_deed_39

theorem dX11_ends_0 : decode cX11_ends 0 = .ok (.aload_n 0, 1) := by decide +kernel
theorem dX11_ends_1 : decode cX11_ends 1 = .ok (.getfield 19, 3) := by decide +kernel
theorem dX11_ends_4 : decode cX11_ends 4 = .ok (.iload_n 1, 1) := by decide +kernel
theorem dX11_ends_5 : decode cX11_ends 5 = .ok (.invokevirtual 112, 3) := by decide +kernel
theorem dX11_ends_8 : decode cX11_ends 8 = .ok (.astore 5, 2) := by decide +kernel
theorem dX11_ends_10 : decode cX11_ends 10 = .ok (.aload 5, 2) := by decide +kernel
theorem dX11_ends_12 : decode cX11_ends 12 = .ok (.ifnull 35, 3) := by decide +kernel
theorem dX11_ends_47 : decode cX11_ends 47 = .ok (.iconst (-1), 1) := by decide +kernel
theorem dX11_ends_48 : decode cX11_ends 48 = .ok (.ireturn, 1) := by decide +kernel
set_option maxHeartbeats 4000000 in
set_option maxRecDepth 100000 in
theorem mx_ends (l : Launch) (dC : Nat → ClassId) (dI : Nat → Nat → Nat) (x : Nat) (xpa : Nat) (xsp : Nat) (xdy : Nat) (xle : Nat) (xst : Nat) (xim : Nat) (xil : Nat) (xmo : Nat) (xom : Nat) (xwi : Nat) (b : Nat) (bto : Nat) (bnm : Nat) (bla : Nat) (bsk : Nat) (bru : Nat) (bbo : Nat) (bdi : Nat) (bda : Nat) (bdk : Nat) (bdt : Nat) (bdp : Nat) (bno : Nat) (bcT : ClassId) (a0 : Int32) (a1 : Int64) (a2 : Int32) : Met l yX11_ends (Cond.code yX11_ends cX11_ends 6 (some .int) :: wsL_law) ({ frames := 2, cells := 0, slots := 0, locals := 43 }) (va_Pc [.ref x, .int a0, .long a1, .int a2] (fun U => va_P (dC, dI) vwCl [(x, .inr (11, [.ref xpa, .ref b, .ref xsp, .ref xdy, .ref xle, .ref xst, .int 0, .ref xim, .ref xil, .int 0, .ref xmo, .ref xom, .ref xwi])), (b, .inr (0, [.ref bto, .ref bnm, .ref bla, .ref bsk, .ref bru, .ref bbo, .ref bdi, .ref bda, .ref bdk, .ref bdt, .ref bdp, .ref bno])), (bto, .inl (bcT, 5, .inl (fun _ => 0)))] U.heap ∧ va_K (dC, dI) vwCl [(bcT, .int)] U)) (vp_Si (fun r => r = (-1))) 0 0 (fun _ => False) := by
  refine Met.ofW (cc := cX11_ends) (maxL := 6) (ret := (some .int)) (by decide) rfl ?_
  intro p e s m args below meth c s₁ B hml hv
  obtain ⟨rfl, hP, hK⟩ := hv
  have hx := B.exec
  have hb := B.bytes
  have hr := B.returns
  have hts := atoms_spec (ws := Cond.code yX11_ends cX11_ends 6 (some .int) :: wsL_law) B.pre
  have htw : ∀ w ∈ wsL_law, w.before _ s = true := fun w h => hts w (List.mem_cons_of_mem _ h)
  have hown : s.vm.findClass RX11 = some m.cls := findClass_of_methodNamed B.named
  have hlocks := B.notSynchronized
  have hl := lv_entry ([.ref x, .int a0, .long a1, .int a2]) (n := 6) (Nat.le_of_ble_eq_true rfl)
  rw [lg_entry_eq]
  generalize (lg_sl ([.ref x, .int a0, .long a1, .int a2]) ++ List.replicate (6 - (lg_sl ([.ref x, .int a0, .long a1, .int a2])).length) Slot.unset).toArray = ls at hl ⊢
  have hl : lv_has ls 6 [(0, .ref x), (1, .int a0), (2, .long a1), (4, .int a2)] := hl
  refine lv_aload_n hx hb dX11_ends_0 rfl (lv_at hl 0 rfl) ?_
  refine va_get (D := (dC, dI)) (ci := 11) (v := .ref b) (C := RX11) (T := TX11) (N := 13) hx hb htw inlX11 hown hK hP 0 rfl rfl 1 (by decide) (htw _ (ck_1 _ (List.mem_of_getElem? (i := 21) rfl))) (fun _ h9 => h9) rfl dX11_ends_1 ?_
  refine lv_iload_n hx hb dX11_ends_4 rfl (lv_at hl 1 rfl) ?_
  have hPc := hP.sub (ws' := [(b, .inr (0, [.ref bto, .ref bnm, .ref bla, .ref bsk, .ref bru, .ref bbo, .ref bdi, .ref bda, .ref bdk, .ref bdt, .ref bdp, .ref bno])), (bto, .inl (bcT, 5, .inl (fun _ => 0)))]) [1, 2] rfl
  have hKc := hK.sub (tys' := [(bcT, .int)]) [0] rfl
  refine va_csq (W.runV (As := [.int a0]) (rest := []) ⟨hx, hb, hml, hown, htw⟩ (mt_landAt l dC dI b bto bnm bla bsk bru bbo bdi bda bdk bdt bdp bno bcT a0) (cwV 1 htw (xg_V (ck_33 _ (List.mem_of_getElem? (i := 21) rfl)) (ck_20 _ (List.mem_of_getElem? (i := 22) rfl)) (ck_20 _ (List.mem_of_getElem? (i := 23) rfl)) (ck_1 _ (List.mem_of_getElem? (i := 20) rfl)) (ck_21 _ (List.mem_of_getElem? (i := 0) rfl))) rfl rfl rfl (by decide +kernel) ⟨Nat.le_of_ble_eq_true rfl, Nat.le_of_ble_eq_true rfl⟩) ⟨fun a U g mk q => by obtain ⟨q0, qP, qK⟩ := q; exact ⟨q0, qP, va_K.moved (u := U) (U := U.calling g mk a) (Vm.Alike.refl U.vm) qK⟩, va_recv hKc hPc (ci := 0) (q0 := 0) rfl rfl, fun U hU hW => ⟨rfl, by rw [hU]; exact hPc, va_K.moved hW.alike hKc⟩⟩ rfl rfl hl.1 rfl (lv_room (Nat.le_of_ble_eq_true rfl)) dX11_ends_5 ⟨Nat.le_of_ble_eq_true rfl, Nat.le_of_ble_eq_true rfl⟩) (fun r_1 hw => ?_)
  try dsimp only at hw
  obtain rfl : r_1 = none := hw
  refine W.eq (g2 := F0 m 8 ls [.null]) rfl ?_
  refine lv_astoreN (lv' := [(5, .null), (0, .ref x), (1, .int a0), (2, .long a1), (4, .int a2)]) hx hb dX11_ends_8 hl (by decide) rfl (fun ls hl => ?_)
  refine lv_aloadN hx hb dX11_ends_10 (lv_at hl 0 rfl) ?_
  refine lv_ifnullN (tgt := 47) hx hb dX11_ends_12 (by decide) ?_
  refine lv_iconst (v := (-1)) hx hb dX11_ends_47 (by decide) ?_
  exact W.iret (v := (-1)) hx hb hr (fun t ht hW => ⟨(-1), rfl, rfl, ht⟩) (fun _ h => by cases h) dX11_ends_48

theorem dX11_hire_0 : decode cX11_hire 0 = .ok (.aload_n 0, 1) := by decide +kernel
theorem dX11_hire_1 : decode cX11_hire 1 = .ok (.getfield 19, 3) := by decide +kernel
theorem dX11_hire_4 : decode cX11_hire 4 = .ok (.iload_n 1, 1) := by decide +kernel
theorem dX11_hire_5 : decode cX11_hire 5 = .ok (.invokevirtual 112, 3) := by decide +kernel
theorem dX11_hire_8 : decode cX11_hire 8 = .ok (.astore 6, 2) := by decide +kernel
theorem dX11_hire_10 : decode cX11_hire 10 = .ok (.aload 6, 2) := by decide +kernel
theorem dX11_hire_12 : decode cX11_hire 12 = .ok (.ifnull 52, 3) := by decide +kernel
theorem dX11_hire_64 : decode cX11_hire 64 = .ok (.ldc2_w 143, 3) := by decide +kernel
theorem dX11_hire_67 : decode cX11_hire 67 = .ok (.lreturn, 1) := by decide +kernel
set_option maxHeartbeats 4000000 in
set_option maxRecDepth 100000 in
theorem mx_hire (l : Launch) (dC : Nat → ClassId) (dI : Nat → Nat → Nat) (x : Nat) (xpa : Nat) (xsp : Nat) (xdy : Nat) (xle : Nat) (xst : Nat) (xim : Nat) (xil : Nat) (xmo : Nat) (xom : Nat) (xwi : Nat) (b : Nat) (bto : Nat) (bnm : Nat) (bla : Nat) (bsk : Nat) (bru : Nat) (bbo : Nat) (bdi : Nat) (bda : Nat) (bdk : Nat) (bdt : Nat) (bdp : Nat) (bno : Nat) (bcT : ClassId) (a0 : Int32) (a1 : Int64) (a2 : Int32) (a3 : Int32) : Met l yX11_hire (Cond.code yX11_hire cX11_hire 14 (some .long) :: wsL_law) ({ frames := 2, cells := 0, slots := 0, locals := 43 }) (va_Pc [.ref x, .int a0, .long a1, .int a2, .int a3] (fun U => va_P (dC, dI) vwCl [(x, .inr (11, [.ref xpa, .ref b, .ref xsp, .ref xdy, .ref xle, .ref xst, .int 0, .ref xim, .ref xil, .int 0, .ref xmo, .ref xom, .ref xwi])), (b, .inr (0, [.ref bto, .ref bnm, .ref bla, .ref bsk, .ref bru, .ref bbo, .ref bdi, .ref bda, .ref bdk, .ref bdt, .ref bdp, .ref bno])), (bto, .inl (bcT, 5, .inl (fun _ => 0)))] U.heap ∧ va_K (dC, dI) vwCl [(bcT, .int)] U)) (vp_Sl (fun r => r = (-1))) 0 0 (fun _ => False) := by
  refine Met.ofW (cc := cX11_hire) (maxL := 14) (ret := (some .long)) (by decide) rfl ?_
  intro p e s m args below meth c s₁ B hml hv
  obtain ⟨rfl, hP, hK⟩ := hv
  have hx := B.exec
  have hb := B.bytes
  have hr := B.returns
  have hts := atoms_spec (ws := Cond.code yX11_hire cX11_hire 14 (some .long) :: wsL_law) B.pre
  have htw : ∀ w ∈ wsL_law, w.before _ s = true := fun w h => hts w (List.mem_cons_of_mem _ h)
  have hown : s.vm.findClass RX11 = some m.cls := findClass_of_methodNamed B.named
  have hlocks := B.notSynchronized
  have hl := lv_entry ([.ref x, .int a0, .long a1, .int a2, .int a3]) (n := 14) (Nat.le_of_ble_eq_true rfl)
  rw [lg_entry_eq]
  generalize (lg_sl ([.ref x, .int a0, .long a1, .int a2, .int a3]) ++ List.replicate (14 - (lg_sl ([.ref x, .int a0, .long a1, .int a2, .int a3])).length) Slot.unset).toArray = ls at hl ⊢
  have hl : lv_has ls 14 [(0, .ref x), (1, .int a0), (2, .long a1), (4, .int a2), (5, .int a3)] := hl
  refine lv_aload_n hx hb dX11_hire_0 rfl (lv_at hl 0 rfl) ?_
  refine va_get (D := (dC, dI)) (ci := 11) (v := .ref b) (C := RX11) (T := TX11) (N := 13) hx hb htw inlX11 hown hK hP 0 rfl rfl 1 (by decide) (htw _ (ck_1 _ (List.mem_of_getElem? (i := 21) rfl))) (fun _ h9 => h9) rfl dX11_hire_1 ?_
  refine lv_iload_n hx hb dX11_hire_4 rfl (lv_at hl 1 rfl) ?_
  have hPc := hP.sub (ws' := [(b, .inr (0, [.ref bto, .ref bnm, .ref bla, .ref bsk, .ref bru, .ref bbo, .ref bdi, .ref bda, .ref bdk, .ref bdt, .ref bdp, .ref bno])), (bto, .inl (bcT, 5, .inl (fun _ => 0)))]) [1, 2] rfl
  have hKc := hK.sub (tys' := [(bcT, .int)]) [0] rfl
  refine va_csq (W.runV (As := [.int a0]) (rest := []) ⟨hx, hb, hml, hown, htw⟩ (mt_landAt l dC dI b bto bnm bla bsk bru bbo bdi bda bdk bdt bdp bno bcT a0) (cwV 1 htw (xg_V (ck_33 _ (List.mem_of_getElem? (i := 21) rfl)) (ck_20 _ (List.mem_of_getElem? (i := 22) rfl)) (ck_20 _ (List.mem_of_getElem? (i := 23) rfl)) (ck_1 _ (List.mem_of_getElem? (i := 20) rfl)) (ck_21 _ (List.mem_of_getElem? (i := 0) rfl))) rfl rfl rfl (by decide +kernel) ⟨Nat.le_of_ble_eq_true rfl, Nat.le_of_ble_eq_true rfl⟩) ⟨fun a U g mk q => by obtain ⟨q0, qP, qK⟩ := q; exact ⟨q0, qP, va_K.moved (u := U) (U := U.calling g mk a) (Vm.Alike.refl U.vm) qK⟩, va_recv hKc hPc (ci := 0) (q0 := 0) rfl rfl, fun U hU hW => ⟨rfl, by rw [hU]; exact hPc, va_K.moved hW.alike hKc⟩⟩ rfl rfl hl.1 rfl (lv_room (Nat.le_of_ble_eq_true rfl)) dX11_hire_5 ⟨Nat.le_of_ble_eq_true rfl, Nat.le_of_ble_eq_true rfl⟩) (fun r_1 hw => ?_)
  try dsimp only at hw
  obtain rfl : r_1 = none := hw
  refine W.eq (g2 := F0 m 8 ls [.null]) rfl ?_
  refine lv_astoreN (lv' := [(6, .null), (0, .ref x), (1, .int a0), (2, .long a1), (4, .int a2), (5, .int a3)]) hx hb dX11_hire_8 hl (by decide) rfl (fun ls hl => ?_)
  refine lv_aloadN hx hb dX11_hire_10 (lv_at hl 0 rfl) ?_
  refine lv_ifnullN (tgt := 64) hx hb dX11_hire_12 (by decide) ?_
  refine lv_ldc2 (v := (-1)) hx hb hown (htw _ (ck_34 _ (List.mem_of_getElem? (i := 18) rfl))) dX11_hire_64 ?_
  exact W.lret (v := (-1)) hx hb hr (fun t ht hW => ⟨(-1), rfl, rfl, ht⟩) (fun _ h => by cases h) dX11_hire_67

theorem dX11_parts_0 : decode cX11_parts 0 = .ok (.aload_n 0, 1) := by decide +kernel
theorem dX11_parts_1 : decode cX11_parts 1 = .ok (.getfield 19, 3) := by decide +kernel
theorem dX11_parts_4 : decode cX11_parts 4 = .ok (.iload_n 1, 1) := by decide +kernel
theorem dX11_parts_5 : decode cX11_parts 5 = .ok (.invokevirtual 112, 3) := by decide +kernel
theorem dX11_parts_8 : decode cX11_parts 8 = .ok (.astore 4, 2) := by decide +kernel
theorem dX11_parts_10 : decode cX11_parts 10 = .ok (.aload 4, 2) := by decide +kernel
theorem dX11_parts_12 : decode cX11_parts 12 = .ok (.ifnull 22, 3) := by decide +kernel
theorem dX11_parts_34 : decode cX11_parts 34 = .ok (.iconst (-1), 1) := by decide +kernel
theorem dX11_parts_35 : decode cX11_parts 35 = .ok (.ireturn, 1) := by decide +kernel
set_option maxHeartbeats 4000000 in
set_option maxRecDepth 100000 in
theorem mx_parts (l : Launch) (dC : Nat → ClassId) (dI : Nat → Nat → Nat) (x : Nat) (xpa : Nat) (xsp : Nat) (xdy : Nat) (xle : Nat) (xst : Nat) (xim : Nat) (xil : Nat) (xmo : Nat) (xom : Nat) (xwi : Nat) (b : Nat) (bto : Nat) (bnm : Nat) (bla : Nat) (bsk : Nat) (bru : Nat) (bbo : Nat) (bdi : Nat) (bda : Nat) (bdk : Nat) (bdt : Nat) (bdp : Nat) (bno : Nat) (bcT : ClassId) (a0 : Int32) (a1 : Int32) (a2 : Int32) : Met l yX11_parts (Cond.code yX11_parts cX11_parts 10 (some .int) :: wsL_law) ({ frames := 2, cells := 0, slots := 0, locals := 43 }) (va_Pc [.ref x, .int a0, .int a1, .int a2] (fun U => va_P (dC, dI) vwCl [(x, .inr (11, [.ref xpa, .ref b, .ref xsp, .ref xdy, .ref xle, .ref xst, .int 0, .ref xim, .ref xil, .int 0, .ref xmo, .ref xom, .ref xwi])), (b, .inr (0, [.ref bto, .ref bnm, .ref bla, .ref bsk, .ref bru, .ref bbo, .ref bdi, .ref bda, .ref bdk, .ref bdt, .ref bdp, .ref bno])), (bto, .inl (bcT, 5, .inl (fun _ => 0)))] U.heap ∧ va_K (dC, dI) vwCl [(bcT, .int)] U)) (vp_Si (fun r => r = (-1))) 0 0 (fun _ => False) := by
  refine Met.ofW (cc := cX11_parts) (maxL := 10) (ret := (some .int)) (by decide) rfl ?_
  intro p e s m args below meth c s₁ B hml hv
  obtain ⟨rfl, hP, hK⟩ := hv
  have hx := B.exec
  have hb := B.bytes
  have hr := B.returns
  have hts := atoms_spec (ws := Cond.code yX11_parts cX11_parts 10 (some .int) :: wsL_law) B.pre
  have htw : ∀ w ∈ wsL_law, w.before _ s = true := fun w h => hts w (List.mem_cons_of_mem _ h)
  have hown : s.vm.findClass RX11 = some m.cls := findClass_of_methodNamed B.named
  have hlocks := B.notSynchronized
  have hl := lv_entry ([.ref x, .int a0, .int a1, .int a2]) (n := 10) (Nat.le_of_ble_eq_true rfl)
  rw [lg_entry_eq]
  generalize (lg_sl ([.ref x, .int a0, .int a1, .int a2]) ++ List.replicate (10 - (lg_sl ([.ref x, .int a0, .int a1, .int a2])).length) Slot.unset).toArray = ls at hl ⊢
  have hl : lv_has ls 10 [(0, .ref x), (1, .int a0), (2, .int a1), (3, .int a2)] := hl
  refine lv_aload_n hx hb dX11_parts_0 rfl (lv_at hl 0 rfl) ?_
  refine va_get (D := (dC, dI)) (ci := 11) (v := .ref b) (C := RX11) (T := TX11) (N := 13) hx hb htw inlX11 hown hK hP 0 rfl rfl 1 (by decide) (htw _ (ck_1 _ (List.mem_of_getElem? (i := 21) rfl))) (fun _ h9 => h9) rfl dX11_parts_1 ?_
  refine lv_iload_n hx hb dX11_parts_4 rfl (lv_at hl 1 rfl) ?_
  have hPc := hP.sub (ws' := [(b, .inr (0, [.ref bto, .ref bnm, .ref bla, .ref bsk, .ref bru, .ref bbo, .ref bdi, .ref bda, .ref bdk, .ref bdt, .ref bdp, .ref bno])), (bto, .inl (bcT, 5, .inl (fun _ => 0)))]) [1, 2] rfl
  have hKc := hK.sub (tys' := [(bcT, .int)]) [0] rfl
  refine va_csq (W.runV (As := [.int a0]) (rest := []) ⟨hx, hb, hml, hown, htw⟩ (mt_landAt l dC dI b bto bnm bla bsk bru bbo bdi bda bdk bdt bdp bno bcT a0) (cwV 1 htw (xg_V (ck_33 _ (List.mem_of_getElem? (i := 21) rfl)) (ck_20 _ (List.mem_of_getElem? (i := 22) rfl)) (ck_20 _ (List.mem_of_getElem? (i := 23) rfl)) (ck_1 _ (List.mem_of_getElem? (i := 20) rfl)) (ck_21 _ (List.mem_of_getElem? (i := 0) rfl))) rfl rfl rfl (by decide +kernel) ⟨Nat.le_of_ble_eq_true rfl, Nat.le_of_ble_eq_true rfl⟩) ⟨fun a U g mk q => by obtain ⟨q0, qP, qK⟩ := q; exact ⟨q0, qP, va_K.moved (u := U) (U := U.calling g mk a) (Vm.Alike.refl U.vm) qK⟩, va_recv hKc hPc (ci := 0) (q0 := 0) rfl rfl, fun U hU hW => ⟨rfl, by rw [hU]; exact hPc, va_K.moved hW.alike hKc⟩⟩ rfl rfl hl.1 rfl (lv_room (Nat.le_of_ble_eq_true rfl)) dX11_parts_5 ⟨Nat.le_of_ble_eq_true rfl, Nat.le_of_ble_eq_true rfl⟩) (fun r_1 hw => ?_)
  try dsimp only at hw
  obtain rfl : r_1 = none := hw
  refine W.eq (g2 := F0 m 8 ls [.null]) rfl ?_
  refine lv_astoreN (lv' := [(4, .null), (0, .ref x), (1, .int a0), (2, .int a1), (3, .int a2)]) hx hb dX11_parts_8 hl (by decide) rfl (fun ls hl => ?_)
  refine lv_aloadN hx hb dX11_parts_10 (lv_at hl 0 rfl) ?_
  refine lv_ifnullN (tgt := 34) hx hb dX11_parts_12 (by decide) ?_
  refine lv_iconst (v := (-1)) hx hb dX11_parts_34 (by decide) ?_
  exact W.iret (v := (-1)) hx hb hr (fun t ht hW => ⟨(-1), rfl, rfl, ht⟩) (fun _ h => by cases h) dX11_parts_35

theorem dX11_months_0 : decode cX11_months 0 = .ok (.aload_n 0, 1) := by decide +kernel
theorem dX11_months_1 : decode cX11_months 1 = .ok (.getfield 19, 3) := by decide +kernel
theorem dX11_months_4 : decode cX11_months 4 = .ok (.iload_n 1, 1) := by decide +kernel
theorem dX11_months_5 : decode cX11_months 5 = .ok (.invokevirtual 112, 3) := by decide +kernel
theorem dX11_months_8 : decode cX11_months 8 = .ok (.astore 4, 2) := by decide +kernel
theorem dX11_months_10 : decode cX11_months 10 = .ok (.aload 4, 2) := by decide +kernel
theorem dX11_months_12 : decode cX11_months 12 = .ok (.ifnull 24, 3) := by decide +kernel
theorem dX11_months_36 : decode cX11_months 36 = .ok (.iconst (-1), 1) := by decide +kernel
theorem dX11_months_37 : decode cX11_months 37 = .ok (.ireturn, 1) := by decide +kernel
set_option maxHeartbeats 4000000 in
set_option maxRecDepth 100000 in
theorem mx_months (l : Launch) (dC : Nat → ClassId) (dI : Nat → Nat → Nat) (x : Nat) (xpa : Nat) (xsp : Nat) (xdy : Nat) (xle : Nat) (xst : Nat) (xim : Nat) (xil : Nat) (xmo : Nat) (xom : Nat) (xwi : Nat) (b : Nat) (bto : Nat) (bnm : Nat) (bla : Nat) (bsk : Nat) (bru : Nat) (bbo : Nat) (bdi : Nat) (bda : Nat) (bdk : Nat) (bdt : Nat) (bdp : Nat) (bno : Nat) (bcT : ClassId) (a0 : Int32) (a1 : Int32) (a2 : Int32) : Met l yX11_months (Cond.code yX11_months cX11_months 8 (some .int) :: wsL_law) ({ frames := 2, cells := 0, slots := 0, locals := 43 }) (va_Pc [.ref x, .int a0, .int a1, .int a2] (fun U => va_P (dC, dI) vwCl [(x, .inr (11, [.ref xpa, .ref b, .ref xsp, .ref xdy, .ref xle, .ref xst, .int 0, .ref xim, .ref xil, .int 0, .ref xmo, .ref xom, .ref xwi])), (b, .inr (0, [.ref bto, .ref bnm, .ref bla, .ref bsk, .ref bru, .ref bbo, .ref bdi, .ref bda, .ref bdk, .ref bdt, .ref bdp, .ref bno])), (bto, .inl (bcT, 5, .inl (fun _ => 0)))] U.heap ∧ va_K (dC, dI) vwCl [(bcT, .int)] U)) (vp_Si (fun r => r = (-1))) 0 0 (fun _ => False) := by
  refine Met.ofW (cc := cX11_months) (maxL := 8) (ret := (some .int)) (by decide) rfl ?_
  intro p e s m args below meth c s₁ B hml hv
  obtain ⟨rfl, hP, hK⟩ := hv
  have hx := B.exec
  have hb := B.bytes
  have hr := B.returns
  have hts := atoms_spec (ws := Cond.code yX11_months cX11_months 8 (some .int) :: wsL_law) B.pre
  have htw : ∀ w ∈ wsL_law, w.before _ s = true := fun w h => hts w (List.mem_cons_of_mem _ h)
  have hown : s.vm.findClass RX11 = some m.cls := findClass_of_methodNamed B.named
  have hlocks := B.notSynchronized
  have hl := lv_entry ([.ref x, .int a0, .int a1, .int a2]) (n := 8) (Nat.le_of_ble_eq_true rfl)
  rw [lg_entry_eq]
  generalize (lg_sl ([.ref x, .int a0, .int a1, .int a2]) ++ List.replicate (8 - (lg_sl ([.ref x, .int a0, .int a1, .int a2])).length) Slot.unset).toArray = ls at hl ⊢
  have hl : lv_has ls 8 [(0, .ref x), (1, .int a0), (2, .int a1), (3, .int a2)] := hl
  refine lv_aload_n hx hb dX11_months_0 rfl (lv_at hl 0 rfl) ?_
  refine va_get (D := (dC, dI)) (ci := 11) (v := .ref b) (C := RX11) (T := TX11) (N := 13) hx hb htw inlX11 hown hK hP 0 rfl rfl 1 (by decide) (htw _ (ck_1 _ (List.mem_of_getElem? (i := 21) rfl))) (fun _ h9 => h9) rfl dX11_months_1 ?_
  refine lv_iload_n hx hb dX11_months_4 rfl (lv_at hl 1 rfl) ?_
  have hPc := hP.sub (ws' := [(b, .inr (0, [.ref bto, .ref bnm, .ref bla, .ref bsk, .ref bru, .ref bbo, .ref bdi, .ref bda, .ref bdk, .ref bdt, .ref bdp, .ref bno])), (bto, .inl (bcT, 5, .inl (fun _ => 0)))]) [1, 2] rfl
  have hKc := hK.sub (tys' := [(bcT, .int)]) [0] rfl
  refine va_csq (W.runV (As := [.int a0]) (rest := []) ⟨hx, hb, hml, hown, htw⟩ (mt_landAt l dC dI b bto bnm bla bsk bru bbo bdi bda bdk bdt bdp bno bcT a0) (cwV 1 htw (xg_V (ck_33 _ (List.mem_of_getElem? (i := 21) rfl)) (ck_20 _ (List.mem_of_getElem? (i := 22) rfl)) (ck_20 _ (List.mem_of_getElem? (i := 23) rfl)) (ck_1 _ (List.mem_of_getElem? (i := 20) rfl)) (ck_21 _ (List.mem_of_getElem? (i := 0) rfl))) rfl rfl rfl (by decide +kernel) ⟨Nat.le_of_ble_eq_true rfl, Nat.le_of_ble_eq_true rfl⟩) ⟨fun a U g mk q => by obtain ⟨q0, qP, qK⟩ := q; exact ⟨q0, qP, va_K.moved (u := U) (U := U.calling g mk a) (Vm.Alike.refl U.vm) qK⟩, va_recv hKc hPc (ci := 0) (q0 := 0) rfl rfl, fun U hU hW => ⟨rfl, by rw [hU]; exact hPc, va_K.moved hW.alike hKc⟩⟩ rfl rfl hl.1 rfl (lv_room (Nat.le_of_ble_eq_true rfl)) dX11_months_5 ⟨Nat.le_of_ble_eq_true rfl, Nat.le_of_ble_eq_true rfl⟩) (fun r_1 hw => ?_)
  try dsimp only at hw
  obtain rfl : r_1 = none := hw
  refine W.eq (g2 := F0 m 8 ls [.null]) rfl ?_
  refine lv_astoreN (lv' := [(4, .null), (0, .ref x), (1, .int a0), (2, .int a1), (3, .int a2)]) hx hb dX11_months_8 hl (by decide) rfl (fun ls hl => ?_)
  refine lv_aloadN hx hb dX11_months_10 (lv_at hl 0 rfl) ?_
  refine lv_ifnullN (tgt := 36) hx hb dX11_months_12 (by decide) ?_
  refine lv_iconst (v := (-1)) hx hb dX11_months_36 (by decide) ?_
  exact W.iret (v := (-1)) hx hb hr (fun t ht hW => ⟨(-1), rfl, rfl, ht⟩) (fun _ h => by cases h) dX11_months_37
