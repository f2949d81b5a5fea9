theorem dL_law_1454 : decode cL_law 1454 = .ok (.aload_n 1, 1) := by decide +kernel
theorem dL_law_1455 : decode cL_law 1455 = .ok (.aload_n 0, 1) := by decide +kernel
theorem dL_law_1456 : decode cL_law 1456 = .ok (.iload 4, 2) := by decide +kernel
theorem dL_law_1458 : decode cL_law 1458 = .ok (.iconst 1, 1) := by decide +kernel
theorem dL_law_1459 : decode cL_law 1459 = .ok (.iadd, 1) := by decide +kernel
theorem dL_law_1460 : decode cL_law 1460 = .ok (.iaload, 1) := by decide +kernel
theorem dL_law_1461 : decode cL_law 1461 = .ok (.aload_n 0, 1) := by decide +kernel
theorem dL_law_1462 : decode cL_law 1462 = .ok (.iload 4, 2) := by decide +kernel
theorem dL_law_1464 : decode cL_law 1464 = .ok (.iconst 2, 1) := by decide +kernel
theorem dL_law_1465 : decode cL_law 1465 = .ok (.iadd, 1) := by decide +kernel
theorem dL_law_1466 : decode cL_law 1466 = .ok (.iaload, 1) := by decide +kernel
theorem dL_law_1467 : decode cL_law 1467 = .ok (.aload_n 0, 1) := by decide +kernel
theorem dL_law_1468 : decode cL_law 1468 = .ok (.iload 4, 2) := by decide +kernel
theorem dL_law_1470 : decode cL_law 1470 = .ok (.iconst 3, 1) := by decide +kernel
theorem dL_law_1471 : decode cL_law 1471 = .ok (.iadd, 1) := by decide +kernel
theorem dL_law_1472 : decode cL_law 1472 = .ok (.iaload, 1) := by decide +kernel
theorem dL_law_1473 : decode cL_law 1473 = .ok (.invokevirtual 121, 3) := by decide +kernel
theorem dL_law_1476 : decode cL_law 1476 = .ok (.aload_n 2, 1) := by decide +kernel
theorem dL_law_1477 : decode cL_law 1477 = .ok (.aload_n 0, 1) := by decide +kernel
theorem dL_law_1478 : decode cL_law 1478 = .ok (.iload 4, 2) := by decide +kernel
theorem dL_law_1480 : decode cL_law 1480 = .ok (.iconst 1, 1) := by decide +kernel
theorem dL_law_1481 : decode cL_law 1481 = .ok (.iadd, 1) := by decide +kernel
theorem dL_law_1482 : decode cL_law 1482 = .ok (.iaload, 1) := by decide +kernel
theorem dL_law_1483 : decode cL_law 1483 = .ok (.aload_n 0, 1) := by decide +kernel
theorem dL_law_1484 : decode cL_law 1484 = .ok (.iload 4, 2) := by decide +kernel
theorem dL_law_1486 : decode cL_law 1486 = .ok (.iconst 2, 1) := by decide +kernel
theorem dL_law_1487 : decode cL_law 1487 = .ok (.iadd, 1) := by decide +kernel
theorem dL_law_1488 : decode cL_law 1488 = .ok (.iaload, 1) := by decide +kernel
theorem dL_law_1489 : decode cL_law 1489 = .ok (.aload_n 0, 1) := by decide +kernel
theorem dL_law_1490 : decode cL_law 1490 = .ok (.iload 4, 2) := by decide +kernel
theorem dL_law_1492 : decode cL_law 1492 = .ok (.iconst 3, 1) := by decide +kernel
theorem dL_law_1493 : decode cL_law 1493 = .ok (.iadd, 1) := by decide +kernel
theorem dL_law_1494 : decode cL_law 1494 = .ok (.iaload, 1) := by decide +kernel
theorem dL_law_1495 : decode cL_law 1495 = .ok (.invokevirtual 125, 3) := by decide +kernel
theorem dL_law_1498 : decode cL_law 1498 = .ok (.lcmp, 1) := by decide +kernel
theorem dL_law_1499 : decode cL_law 1499 = .ok (.ifCond .eq 554, 3) := by decide +kernel
set_option maxHeartbeats 4000000 in
set_option maxRecDepth 100000 in
theorem law_deed (l : Launch) (hst : l.stackTraces = false) {p : Program} {e : Env} {s : State} {m : MethodId} {below : List Frame} {meth : Method} {c : Code} {bs : Nat} {xs : Nat → Int32} (C0 : lw_At p s m meth c bs 6 xs) (dC : Nat → ClassId) (dI : Nat → Nat → Nat) (A : Nat → Prop) (hAe : ∀ q, A q ↔ s.heap.size ≤ q) (xpa : Nat) (b : Nat) (xsp : Nat) (xdy : Nat) (xle : Nat) (xst : Nat) (xim : Nat) (xil : Nat) (xmo : Nat) (xom : Nat) (xwi : Nat) (bto : Nat) (bnm : Nat) (bla : Nat) (bsk : Nat) (bru : Nat) (bbo : Nat) (bdi : Nat) (bda : Nat) (bdk : Nat) (bdt : Nat) (bdp : Nat) (bno : Nat) (bcT : ClassId) (mtp : Nat) (mywords : Nat) (msk : Nat) (mln : Nat) (mlh : Nat) (mfn : Nat) (mfi : Nat) (mla : Nat) (mpn : Nat) (mbo : Nat) (mdi : Nat) (mdn : Nat) (mdo : Nat) (mdh : Nat) (mnn : Nat) (mnh : Nat) (mkn : Nat) (mpt : Nat) (mot : Nat) (mywait : Nat) (myheld : Nat) (mynames : Nat) (myvalue : Nat) (mun : Nat) (mycan : Nat) (myroot : Nat) (myoff : Nat) (mtn : Nat) (mtc : Nat) (mkh : Nat) (mkt : Nat) (mkc : Nat) (x : Nat) (mq : Nat) (o3 : Nat)  (H : Heap) (locs : List Loc) (ls : Array Slot) (hK : va_K (dC, dI) vwCl [(bcT, .int)] s) (hP : va_P (dC, dI) vwCl [(x, .inr (11, [.ref xpa, .ref b, .ref xsp, .ref xdy, .ref xle, .ref xst, .int 0, .ref xim, .ref xil, .int 0, .ref xmo, .ref xom, .ref xwi])), (b, .inr (0, [.ref bto, .ref bnm, .ref bla, .ref bsk, .ref bru, .ref bbo, .ref bdi, .ref bda, .ref bdk, .ref bdt, .ref bdp, .ref bno])), (bto, .inl (bcT, 5, .inl (fun _ => 0))), (mq, .inr (12, [.ref mtp, .int 0, .int 0, .ref mywords, .int 0, .int (-1), .int 0, .int 0, .int 0, .int 0, .int 0, .int 0, .int 0, .int 0, .int 0, .int 0, .int 0, .int 0, .int 0, .int 0, .int 0, .int 0, .int 0, .int 0, .ref msk, .int 0, .int 0, .int 0, .ref mln, .ref mlh, .ref mfn, .ref mfi, .ref mla, .ref mpn, .ref mbo, .ref mdi, .ref mdn, .ref mdo, .ref mdh, .ref mnn, .ref mnh, .ref mkn, .ref mpt, .ref mot, .long 0, .ref mywait, .ref myheld, .int 0, .int 0, .int 0, .int 0, .int 0, .int 0, .long 0, .long 0, .ref mynames, .ref myvalue, .int 0, .int 0, .int 0, .ref mun, .ref mycan, .int 0, .int 0, .int 0, .ref myroot, .ref myoff, .int 0, .ref mtn, .ref mtc, .int 0, .int 0, .int 0, .ref mkh, .ref mkt, .ref mkc]))] H) (hD : va_D A [(x, .inr (11, [.ref xpa, .ref b, .ref xsp, .ref xdy, .ref xle, .ref xst, .int 0, .ref xim, .ref xil, .int 0, .ref xmo, .ref xom, .ref xwi])), (b, .inr (0, [.ref bto, .ref bnm, .ref bla, .ref bsk, .ref bru, .ref bbo, .ref bdi, .ref bda, .ref bdk, .ref bdt, .ref bdp, .ref bno])), (bto, .inl (bcT, 5, .inl (fun _ => 0))), (mq, .inr (12, [.ref mtp, .int 0, .int 0, .ref mywords, .int 0, .int (-1), .int 0, .int 0, .int 0, .int 0, .int 0, .int 0, .int 0, .int 0, .int 0, .int 0, .int 0, .int 0, .int 0, .int 0, .int 0, .int 0, .int 0, .int 0, .ref msk, .int 0, .int 0, .int 0, .ref mln, .ref mlh, .ref mfn, .ref mfi, .ref mla, .ref mpn, .ref mbo, .ref mdi, .ref mdn, .ref mdo, .ref mdh, .ref mnn, .ref mnh, .ref mkn, .ref mpt, .ref mot, .long 0, .ref mywait, .ref myheld, .int 0, .int 0, .int 0, .int 0, .int 0, .int 0, .long 0, .long 0, .ref mynames, .ref myvalue, .int 0, .int 0, .int 0, .ref mun, .ref mycan, .int 0, .int 0, .int 0, .ref myroot, .ref myoff, .int 0, .ref mtn, .ref mtc, .int 0, .int 0, .int 0, .ref mkh, .ref mkt, .ref mkc]))]) (hS : va_S A s.heap H locs) (hl : lv_has ls 7 [(4, .int 0), (3, .ref o3), (2, .ref mq), (1, .ref x), (0, .ref bs)]) : W p l e room_1 s m #[Value.ref bs] below meth c H locs 129 248806 (lw_Z below #[Value.ref bs] s) (F0 m 1454 ls []) := by
  obtain ⟨hx, hb, hr, hml, hown, hts, hX, hbl, hlocks, hgv⟩ := id C0
  have htw : ∀ w ∈ wsL_law, w.before _ s = true := fun w h => hts w (wsL_law_in w h)
  have hown : s.vm.findClass RL = some m.cls := hown
  have hA : ∀ q : Nat, s.heap.size ≤ q → A q := fun q h => (hAe q).mpr h
  have hbA : ¬ A bs := fun h => absurd ((hAe bs).mp h) (Nat.not_le.mpr hbl)
  refine lv_aload_n hx hb dL_law_1454 rfl (lv_at hl 3 rfl) ?_
  refine lv_aload_n hx hb dL_law_1455 rfl (lv_at hl 4 rfl) ?_
  refine lv_iload hx hb dL_law_1456 (lv_at hl 0 rfl) ?_
  refine lv_iconst (v := 1) hx hb dL_law_1458 (by decide) ?_
  refine lv_iadd hx hb dL_law_1459 ?_
  refine lv_topi (fun z_1 ez_1 => ?_)
  obtain rfl : z_1 = 1 := ez_1.trans (by decide)
  refine va_sld hx hb hX hbl hbA hS (by unfold vp_in; decide) dL_law_1460 ?_
  refine lv_topi (fun z_2 ez_2 => ?_)
  obtain rfl : z_2 = xs 1 := ez_2
  refine lv_aload_n hx hb dL_law_1461 rfl (lv_at hl 4 rfl) ?_
  refine lv_iload hx hb dL_law_1462 (lv_at hl 0 rfl) ?_
  refine lv_iconst (v := 2) hx hb dL_law_1464 (by decide) ?_
  refine lv_iadd hx hb dL_law_1465 ?_
  refine lv_topi (fun z_3 ez_3 => ?_)
  obtain rfl : z_3 = 2 := ez_3.trans (by decide)
  refine va_sld hx hb hX hbl hbA hS (by unfold vp_in; decide) dL_law_1466 ?_
  refine lv_topi (fun z_4 ez_4 => ?_)
  obtain rfl : z_4 = xs 2 := ez_4
  refine lv_aload_n hx hb dL_law_1467 rfl (lv_at hl 4 rfl) ?_
  refine lv_iload hx hb dL_law_1468 (lv_at hl 0 rfl) ?_
  refine lv_iconst (v := 3) hx hb dL_law_1470 (by decide) ?_
  refine lv_iadd hx hb dL_law_1471 ?_
  refine lv_topi (fun z_5 ez_5 => ?_)
  obtain rfl : z_5 = 3 := ez_5.trans (by decide)
  refine va_sld hx hb hX hbl hbA hS (by unfold vp_in; decide) dL_law_1472 ?_
  refine lv_topi (fun z_6 ez_6 => ?_)
  obtain rfl : z_6 = xs 3 := ez_6
  have hPc := hP.sub (ws' := [(x, .inr (11, [.ref xpa, .ref b, .ref xsp, .ref xdy, .ref xle, .ref xst, .int 0, .ref xim, .ref xil, .int 0, .ref xmo, .ref xom, .ref xwi])), (b, .inr (0, [.ref bto, .ref bnm, .ref bla, .ref bsk, .ref bru, .ref bbo, .ref bdi, .ref bda, .ref bdk, .ref bdt, .ref bdp, .ref bno])), (bto, .inl (bcT, 5, .inl (fun _ => 0)))]) [0, 1, 2] rfl
  have hKc := hK.sub (tys' := [(bcT, .int)]) [0] rfl
  refine vp_callSl (W.runV (As := [.int (xs 1), .int (xs 2), .int (xs 3)]) (rest := []) ⟨hx, hb, hml, hown, htw⟩ (mx_deed l dC dI x xpa xsp xdy xle xst xim xil xmo xom xwi b bto bnm bla bsk bru bbo bdi bda bdk bdt bdp bno bcT (xs 1) (xs 2) (xs 3)) (cwV 3 htw (xg_V (ck_49 _ (List.mem_of_getElem? (i := 7) rfl)) (ck_49 _ (List.mem_of_getElem? (i := 8) rfl)) (ck_49 _ (List.mem_of_getElem? (i := 9) rfl)) (ck_1 _ (List.mem_of_getElem? (i := 2) rfl)) (ck_49 _ (List.mem_of_getElem? (i := 10) rfl))) rfl rfl rfl (by decide +kernel) ⟨Nat.le_of_ble_eq_true rfl, Nat.le_of_ble_eq_true rfl⟩) ⟨fun a U g mk q => by obtain ⟨q0, qP, qK⟩ := q; exact ⟨q0, qP, va_K.moved (u := U) (U := U.calling g mk a) (Vm.Alike.refl U.vm) qK⟩, va_recv hKc hPc (ci := 11) (q0 := 0) rfl rfl, fun U hU hW => ⟨rfl, by rw [hU]; exact hPc, va_K.moved hW.alike hKc⟩⟩ rfl rfl hl.1 rfl (lv_room (Nat.le_of_ble_eq_true rfl)) dL_law_1473 ⟨Nat.le_of_ble_eq_true rfl, Nat.le_of_ble_eq_true rfl⟩) (fun r_7 hw => ?_)
  try dsimp only at hw
  obtain rfl : r_7 = (-1) := hw
  refine lv_aload_n hx hb dL_law_1476 rfl (lv_at hl 2 rfl) ?_
  refine lv_aload_n hx hb dL_law_1477 rfl (lv_at hl 4 rfl) ?_
  refine lv_iload hx hb dL_law_1478 (lv_at hl 0 rfl) ?_
  refine lv_iconst (v := 1) hx hb dL_law_1480 (by decide) ?_
  refine lv_iadd hx hb dL_law_1481 ?_
  refine lv_topi (fun z_8 ez_8 => ?_)
  obtain rfl : z_8 = 1 := ez_8.trans (by decide)
  refine va_sld hx hb hX hbl hbA hS (by unfold vp_in; decide) dL_law_1482 ?_
  refine lv_topi (fun z_9 ez_9 => ?_)
  obtain rfl : z_9 = xs 1 := ez_9
  refine lv_aload_n hx hb dL_law_1483 rfl (lv_at hl 4 rfl) ?_
  refine lv_iload hx hb dL_law_1484 (lv_at hl 0 rfl) ?_
  refine lv_iconst (v := 2) hx hb dL_law_1486 (by decide) ?_
  refine lv_iadd hx hb dL_law_1487 ?_
  refine lv_topi (fun z_10 ez_10 => ?_)
  obtain rfl : z_10 = 2 := ez_10.trans (by decide)
  refine va_sld hx hb hX hbl hbA hS (by unfold vp_in; decide) dL_law_1488 ?_
  refine lv_topi (fun z_11 ez_11 => ?_)
  obtain rfl : z_11 = xs 2 := ez_11
  refine lv_aload_n hx hb dL_law_1489 rfl (lv_at hl 4 rfl) ?_
  refine lv_iload hx hb dL_law_1490 (lv_at hl 0 rfl) ?_
  refine lv_iconst (v := 3) hx hb dL_law_1492 (by decide) ?_
  refine lv_iadd hx hb dL_law_1493 ?_
  refine lv_topi (fun z_12 ez_12 => ?_)
  obtain rfl : z_12 = 3 := ez_12.trans (by decide)
  refine va_sld hx hb hX hbl hbA hS (by unfold vp_in; decide) dL_law_1494 ?_
  refine lv_topi (fun z_13 ez_13 => ?_)
  obtain rfl : z_13 = xs 3 := ez_13
  have hPc := hP.sub (ws' := [(mq, .inr (12, [.ref mtp, .int 0, .int 0, .ref mywords, .int 0, .int (-1), .int 0, .int 0, .int 0, .int 0, .int 0, .int 0, .int 0, .int 0, .int 0, .int 0, .int 0, .int 0, .int 0, .int 0, .int 0, .int 0, .int 0, .int 0, .ref msk, .int 0, .int 0, .int 0, .ref mln, .ref mlh, .ref mfn, .ref mfi, .ref mla, .ref mpn, .ref mbo, .ref mdi, .ref mdn, .ref mdo, .ref mdh, .ref mnn, .ref mnh, .ref mkn, .ref mpt, .ref mot, .long 0, .ref mywait, .ref myheld, .int 0, .int 0, .int 0, .int 0, .int 0, .int 0, .long 0, .long 0, .ref mynames, .ref myvalue, .int 0, .int 0, .int 0, .ref mun, .ref mycan, .int 0, .int 0, .int 0, .ref myroot, .ref myoff, .int 0, .ref mtn, .ref mtc, .int 0, .int 0, .int 0, .ref mkh, .ref mkt, .ref mkc]))]) [3] rfl
  have hKc := hK.sub (tys' := []) [] rfl
  have hDc := hD.sub (ws' := [(mq, .inr (12, [.ref mtp, .int 0, .int 0, .ref mywords, .int 0, .int (-1), .int 0, .int 0, .int 0, .int 0, .int 0, .int 0, .int 0, .int 0, .int 0, .int 0, .int 0, .int 0, .int 0, .int 0, .int 0, .int 0, .int 0, .int 0, .ref msk, .int 0, .int 0, .int 0, .ref mln, .ref mlh, .ref mfn, .ref mfi, .ref mla, .ref mpn, .ref mbo, .ref mdi, .ref mdn, .ref mdo, .ref mdh, .ref mnn, .ref mnh, .ref mkn, .ref mpt, .ref mot, .long 0, .ref mywait, .ref myheld, .int 0, .int 0, .int 0, .int 0, .int 0, .int 0, .long 0, .long 0, .ref mynames, .ref myvalue, .int 0, .int 0, .int 0, .ref mun, .ref mycan, .int 0, .int 0, .int 0, .ref myroot, .ref myoff, .int 0, .ref mtn, .ref mtc, .int 0, .int 0, .int 0, .ref mkh, .ref mkt, .ref mkc]))]) [3] (by decide) rfl
  have hFc := va_free (wc := [(mq, .inr (12, [.ref mtp, .int 0, .int 0, .ref mywords, .int 0, .int (-1), .int 0, .int 0, .int 0, .int 0, .int 0, .int 0, .int 0, .int 0, .int 0, .int 0, .int 0, .int 0, .int 0, .int 0, .int 0, .int 0, .int 0, .int 0, .ref msk, .int 0, .int 0, .int 0, .ref mln, .ref mlh, .ref mfn, .ref mfi, .ref mla, .ref mpn, .ref mbo, .ref mdi, .ref mdn, .ref mdo, .ref mdh, .ref mnn, .ref mnh, .ref mkn, .ref mpt, .ref mot, .long 0, .ref mywait, .ref myheld, .int 0, .int 0, .int 0, .int 0, .int 0, .int 0, .long 0, .long 0, .ref mynames, .ref myvalue, .int 0, .int 0, .int 0, .ref mun, .ref mycan, .int 0, .int 0, .int 0, .ref myroot, .ref myoff, .int 0, .ref mtn, .ref mtc, .int 0, .int 0, .int 0, .ref mkh, .ref mkt, .ref mkc]))]) hD hS hA [3] rfl
  refine va_calll (va_runV (As := [.int (xs 1), .int (xs 2), .int (xs 3)]) (rest := [.long (-1)]) ⟨hx, hb, hml, hown, htw⟩ (mm_deed l dC dI mq ([.ref mtp, .int 0, .int 0, .ref mywords, .int 0, .int (-1), .int 0, .int 0, .int 0, .int 0, .int 0, .int 0, .int 0, .int 0, .int 0, .int 0, .int 0, .int 0, .int 0, .int 0, .int 0, .int 0, .int 0, .int 0, .ref msk, .int 0, .int 0, .int 0, .ref mln, .ref mlh, .ref mfn, .ref mfi, .ref mla, .ref mpn, .ref mbo, .ref mdi, .ref mdn, .ref mdo, .ref mdh, .ref mnn, .ref mnh, .ref mkn, .ref mpt, .ref mot, .long 0, .ref mywait, .ref myheld, .int 0, .int 0, .int 0, .int 0, .int 0, .int 0, .long 0, .long 0, .ref mynames, .ref myvalue, .int 0, .int 0, .int 0, .ref mun, .ref mycan, .int 0, .int 0, .int 0, .ref myroot, .ref myoff, .int 0, .ref mtn, .ref mtc, .int 0, .int 0, .int 0, .ref mkh, .ref mkt, .ref mkc]) (xs 1) (xs 2) (xs 3) H.size rfl rfl rfl) (cwV 3 htw (xg_V (ck_50 _ (List.mem_of_getElem? (i := 4) rfl)) (ck_50 _ (List.mem_of_getElem? (i := 5) rfl)) (ck_50 _ (List.mem_of_getElem? (i := 6) rfl)) (ck_1 _ (List.mem_of_getElem? (i := 5) rfl)) (ck_50 _ (List.mem_of_getElem? (i := 7) rfl))) rfl rfl rfl (by decide +kernel) ⟨Nat.le_of_ble_eq_true rfl, Nat.le_of_ble_eq_true rfl⟩) ⟨fun a U g mk q => by obtain ⟨q0, q1, qP, qK, qD⟩ := q; exact ⟨q0, q1, qP, va_K.moved (u := U) (U := U.calling g mk a) (Vm.Alike.refl U.vm) qK, qD⟩, va_recv hKc hPc (ci := 12) (q0 := 0) rfl rfl, fun U hU hW => ⟨rfl, by rw [hU], by rw [hU]; exact hPc, va_K.moved hW.alike hKc, hDc.weaken (fun _ _ _ _ => trivial)⟩⟩ rfl rfl hl.1 rfl (lv_room (Nat.le_of_ble_eq_true rfl)) dL_law_1495 ⟨Nat.le_of_ble_eq_true rfl, Nat.le_of_ble_eq_true rfl⟩) hS (fun q _ h => hFc q h) hFc (fun r_14 u_15 t H1 locs ht hvm hw hB hz1 hk1 hS => ?_)
  try dsimp only at hw
  have hP1 : va_P (dC, dI) vwCl [] H1 := fun k q h => by simp at h
  have hD1 : va_D (va_A [(mq, .inr (12, [.ref mtp, .int 0, .int 0, .ref mywords, .int 0, .int (-1), .int 0, .int 0, .int 0, .int 0, .int 0, .int 0, .int 0, .int 0, .int 0, .int 0, .int 0, .int 0, .int 0, .int 0, .int 0, .int 0, .int 0, .int 0, .ref msk, .int 0, .int 0, .int 0, .ref mln, .ref mlh, .ref mfn, .ref mfi, .ref mla, .ref mpn, .ref mbo, .ref mdi, .ref mdn, .ref mdo, .ref mdh, .ref mnn, .ref mnh, .ref mkn, .ref mpt, .ref mot, .long 0, .ref mywait, .ref myheld, .int 0, .int 0, .int 0, .int 0, .int 0, .int 0, .long 0, .long 0, .ref mynames, .ref myvalue, .int 0, .int 0, .int 0, .ref mun, .ref mycan, .int 0, .int 0, .int 0, .ref myroot, .ref myoff, .int 0, .ref mtn, .ref mtc, .int 0, .int 0, .int 0, .ref mkh, .ref mkt, .ref mkc]))] H.size) [] := ⟨fun i j p q h => by simp at h, fun k q h => by simp at h⟩
  obtain ⟨hP, hD⟩ := va_join (wr := [(x, .inr (11, [.ref xpa, .ref b, .ref xsp, .ref xdy, .ref xle, .ref xst, .int 0, .ref xim, .ref xil, .int 0, .ref xmo, .ref xom, .ref xwi])), (b, .inr (0, [.ref bto, .ref bnm, .ref bla, .ref bsk, .ref bru, .ref bbo, .ref bdi, .ref bda, .ref bdk, .ref bdt, .ref bdp, .ref bno])), (bto, .inl (bcT, 5, .inl (fun _ => 0)))]) (w1 := []) hP hD [3] [0, 1, 2] rfl rfl (by decide) (by decide) hk1 hFc hP1 hD1
  generalize H1 = H at hP hS ⊢
  have hP : va_P (dC, dI) vwCl [(x, .inr (11, [.ref xpa, .ref b, .ref xsp, .ref xdy, .ref xle, .ref xst, .int 0, .ref xim, .ref xil, .int 0, .ref xmo, .ref xom, .ref xwi])), (b, .inr (0, [.ref bto, .ref bnm, .ref bla, .ref bsk, .ref bru, .ref bbo, .ref bdi, .ref bda, .ref bdk, .ref bdt, .ref bdp, .ref bno])), (bto, .inl (bcT, 5, .inl (fun _ => 0)))] H := hP
  have hD : va_D A [(x, .inr (11, [.ref xpa, .ref b, .ref xsp, .ref xdy, .ref xle, .ref xst, .int 0, .ref xim, .ref xil, .int 0, .ref xmo, .ref xom, .ref xwi])), (b, .inr (0, [.ref bto, .ref bnm, .ref bla, .ref bsk, .ref bru, .ref bbo, .ref bdi, .ref bda, .ref bdk, .ref bdt, .ref bdp, .ref bno])), (bto, .inl (bcT, 5, .inl (fun _ => 0)))] := hD
  refine W.widen (k := 129) (n := 248806) (by omega) (by omega) ?_
  obtain rfl : r_14 = (-1) := hw
  refine W.lcmp hx hb dL_law_1498 ?_
  refine lv_if_eq (tgt := 2053) hx hb dL_law_1499 (by decide) (fun _ => ?_) (fun c => absurd c (by decide))
  refine lv_iinc (v := 6) (lv' := [(4, .int 6), (3, .ref o3), (2, .ref mq), (1, .ref x), (0, .ref bs)]) hx hb dL_law_2053 hl (k := 0) rfl (by decide) (by decide) rfl (fun ls hl => ?_)
  refine lv_goto (tgt := 23) hx hb dL_law_2056 (by decide) ?_
  refine lv_iload hx hb dL_law_23 (lv_at hl 0 rfl) ?_
  refine lv_aload_n hx hb dL_law_25 rfl (lv_at hl 4 rfl) ?_
  refine va_slen hx hb hX hbl hbA hS dL_law_26 ?_
  refine lv_topi (fun z_16 ez_16 => ?_)
  obtain rfl : z_16 = 6 := ez_16.trans (by decide)
  refine lv_bipush (v := 6) hx hb dL_law_27 (by decide) ?_
  refine lv_isub hx hb dL_law_29 ?_
  refine lv_topi (fun z_17 ez_17 => ?_)
  obtain rfl : z_17 = 0 := ez_17.trans (by decide)
  refine lv_icmp_gt (tgt := 2059) hx hb dL_law_30 (by decide) (fun _ => ?_) (fun c => absurd c (by decide))
  refine lv_iconst (v := 1) hx hb dL_law_2059 (by decide) ?_
  refine va_forget (fun q hq => (hAe _).mp (hS.2.2 q hq)) ?_
  refine W.widen (k := 600002) (n := 7302232) (by omega) (by omega) ?_
  exact lw_ret hx hb hr hlocks dL_law_2060

theorem dL_law_1504 : decode cL_law 1504 = .ok (.aload_n 1, 1) := by decide +kernel
theorem dL_law_1505 : decode cL_law 1505 = .ok (.aload_n 0, 1) := by decide +kernel
theorem dL_law_1506 : decode cL_law 1506 = .ok (.iload 4, 2) := by decide +kernel
theorem dL_law_1508 : decode cL_law 1508 = .ok (.iconst 1, 1) := by decide +kernel
theorem dL_law_1509 : decode cL_law 1509 = .ok (.iadd, 1) := by decide +kernel
theorem dL_law_1510 : decode cL_law 1510 = .ok (.iaload, 1) := by decide +kernel
theorem dL_law_1511 : decode cL_law 1511 = .ok (.aload_n 0, 1) := by decide +kernel
theorem dL_law_1512 : decode cL_law 1512 = .ok (.iload 4, 2) := by decide +kernel
theorem dL_law_1514 : decode cL_law 1514 = .ok (.iconst 2, 1) := by decide +kernel
theorem dL_law_1515 : decode cL_law 1515 = .ok (.iadd, 1) := by decide +kernel
theorem dL_law_1516 : decode cL_law 1516 = .ok (.iaload, 1) := by decide +kernel
theorem dL_law_1517 : decode cL_law 1517 = .ok (.i2l, 1) := by decide +kernel
theorem dL_law_1518 : decode cL_law 1518 = .ok (.bipush 32, 2) := by decide +kernel
theorem dL_law_1520 : decode cL_law 1520 = .ok (.lshl, 1) := by decide +kernel
theorem dL_law_1521 : decode cL_law 1521 = .ok (.aload_n 0, 1) := by decide +kernel
theorem dL_law_1522 : decode cL_law 1522 = .ok (.iload 4, 2) := by decide +kernel
theorem dL_law_1524 : decode cL_law 1524 = .ok (.iconst 3, 1) := by decide +kernel
theorem dL_law_1525 : decode cL_law 1525 = .ok (.iadd, 1) := by decide +kernel
theorem dL_law_1526 : decode cL_law 1526 = .ok (.iaload, 1) := by decide +kernel
theorem dL_law_1527 : decode cL_law 1527 = .ok (.i2l, 1) := by decide +kernel
theorem dL_law_1528 : decode cL_law 1528 = .ok (.ldc2_w 54, 3) := by decide +kernel
theorem dL_law_1531 : decode cL_law 1531 = .ok (.land, 1) := by decide +kernel
theorem dL_law_1532 : decode cL_law 1532 = .ok (.lor, 1) := by decide +kernel
theorem dL_law_1533 : decode cL_law 1533 = .ok (.aload_n 0, 1) := by decide +kernel
theorem dL_law_1534 : decode cL_law 1534 = .ok (.iload 4, 2) := by decide +kernel
theorem dL_law_1536 : decode cL_law 1536 = .ok (.iconst 4, 1) := by decide +kernel
theorem dL_law_1537 : decode cL_law 1537 = .ok (.iadd, 1) := by decide +kernel
theorem dL_law_1538 : decode cL_law 1538 = .ok (.iaload, 1) := by decide +kernel
theorem dL_law_1539 : decode cL_law 1539 = .ok (.invokevirtual 126, 3) := by decide +kernel
theorem dL_law_1542 : decode cL_law 1542 = .ok (.aload_n 2, 1) := by decide +kernel
theorem dL_law_1543 : decode cL_law 1543 = .ok (.aload_n 0, 1) := by decide +kernel
theorem dL_law_1544 : decode cL_law 1544 = .ok (.iload 4, 2) := by decide +kernel
theorem dL_law_1546 : decode cL_law 1546 = .ok (.iconst 1, 1) := by decide +kernel
theorem dL_law_1547 : decode cL_law 1547 = .ok (.iadd, 1) := by decide +kernel
theorem dL_law_1548 : decode cL_law 1548 = .ok (.iaload, 1) := by decide +kernel
theorem dL_law_1549 : decode cL_law 1549 = .ok (.aload_n 0, 1) := by decide +kernel
theorem dL_law_1550 : decode cL_law 1550 = .ok (.iload 4, 2) := by decide +kernel
theorem dL_law_1552 : decode cL_law 1552 = .ok (.iconst 2, 1) := by decide +kernel
theorem dL_law_1553 : decode cL_law 1553 = .ok (.iadd, 1) := by decide +kernel
theorem dL_law_1554 : decode cL_law 1554 = .ok (.iaload, 1) := by decide +kernel
theorem dL_law_1555 : decode cL_law 1555 = .ok (.i2l, 1) := by decide +kernel
theorem dL_law_1556 : decode cL_law 1556 = .ok (.bipush 32, 2) := by decide +kernel
theorem dL_law_1558 : decode cL_law 1558 = .ok (.lshl, 1) := by decide +kernel
theorem dL_law_1559 : decode cL_law 1559 = .ok (.aload_n 0, 1) := by decide +kernel
theorem dL_law_1560 : decode cL_law 1560 = .ok (.iload 4, 2) := by decide +kernel
theorem dL_law_1562 : decode cL_law 1562 = .ok (.iconst 3, 1) := by decide +kernel
theorem dL_law_1563 : decode cL_law 1563 = .ok (.iadd, 1) := by decide +kernel
theorem dL_law_1564 : decode cL_law 1564 = .ok (.iaload, 1) := by decide +kernel
theorem dL_law_1565 : decode cL_law 1565 = .ok (.i2l, 1) := by decide +kernel
theorem dL_law_1566 : decode cL_law 1566 = .ok (.ldc2_w 54, 3) := by decide +kernel
theorem dL_law_1569 : decode cL_law 1569 = .ok (.land, 1) := by decide +kernel
theorem dL_law_1570 : decode cL_law 1570 = .ok (.lor, 1) := by decide +kernel
theorem dL_law_1571 : decode cL_law 1571 = .ok (.aload_n 0, 1) := by decide +kernel
theorem dL_law_1572 : decode cL_law 1572 = .ok (.iload 4, 2) := by decide +kernel
theorem dL_law_1574 : decode cL_law 1574 = .ok (.iconst 4, 1) := by decide +kernel
theorem dL_law_1575 : decode cL_law 1575 = .ok (.iadd, 1) := by decide +kernel
theorem dL_law_1576 : decode cL_law 1576 = .ok (.iaload, 1) := by decide +kernel
theorem dL_law_1577 : decode cL_law 1577 = .ok (.invokevirtual 130, 3) := by decide +kernel
theorem dL_law_1580 : decode cL_law 1580 = .ok (.if_icmp .eq 473, 3) := by decide +kernel
set_option maxHeartbeats 4000000 in
set_option maxRecDepth 100000 in
theorem law_ends (l : Launch) (hst : l.stackTraces = false) {p : Program} {e : Env} {s : State} {m : MethodId} {below : List Frame} {meth : Method} {c : Code} {bs : Nat} {xs : Nat → Int32} (C0 : lw_At p s m meth c bs 6 xs) (dC : Nat → ClassId) (dI : Nat → Nat → Nat) (A : Nat → Prop) (hAe : ∀ q, A q ↔ s.heap.size ≤ q) (xpa : Nat) (b : Nat) (xsp : Nat) (xdy : Nat) (xle : Nat) (xst : Nat) (xim : Nat) (xil : Nat) (xmo : Nat) (xom : Nat) (xwi : Nat) (bto : Nat) (bnm : Nat) (bla : Nat) (bsk : Nat) (bru : Nat) (bbo : Nat) (bdi : Nat) (bda : Nat) (bdk : Nat) (bdt : Nat) (bdp : Nat) (bno : Nat) (bcT : ClassId) (mtp : Nat) (mywords : Nat) (msk : Nat) (mln : Nat) (mlh : Nat) (mfn : Nat) (mfi : Nat) (mla : Nat) (mpn : Nat) (mbo : Nat) (mdi : Nat) (mdn : Nat) (mdo : Nat) (mdh : Nat) (mnn : Nat) (mnh : Nat) (mkn : Nat) (mpt : Nat) (mot : Nat) (mywait : Nat) (myheld : Nat) (mynames : Nat) (myvalue : Nat) (mun : Nat) (mycan : Nat) (myroot : Nat) (myoff : Nat) (mtn : Nat) (mtc : Nat) (mkh : Nat) (mkt : Nat) (mkc : Nat) (x : Nat) (mq : Nat) (o3 : Nat)  (H : Heap) (locs : List Loc) (ls : Array Slot) (hK : va_K (dC, dI) vwCl [(bcT, .int)] s) (hP : va_P (dC, dI) vwCl [(x, .inr (11, [.ref xpa, .ref b, .ref xsp, .ref xdy, .ref xle, .ref xst, .int 0, .ref xim, .ref xil, .int 0, .ref xmo, .ref xom, .ref xwi])), (b, .inr (0, [.ref bto, .ref bnm, .ref bla, .ref bsk, .ref bru, .ref bbo, .ref bdi, .ref bda, .ref bdk, .ref bdt, .ref bdp, .ref bno])), (bto, .inl (bcT, 5, .inl (fun _ => 0))), (mq, .inr (12, [.ref mtp, .int 0, .int 0, .ref mywords, .int 0, .int (-1), .int 0, .int 0, .int 0, .int 0, .int 0, .int 0, .int 0, .int 0, .int 0, .int 0, .int 0, .int 0, .int 0, .int 0, .int 0, .int 0, .int 0, .int 0, .ref msk, .int 0, .int 0, .int 0, .ref mln, .ref mlh, .ref mfn, .ref mfi, .ref mla, .ref mpn, .ref mbo, .ref mdi, .ref mdn, .ref mdo, .ref mdh, .ref mnn, .ref mnh, .ref mkn, .ref mpt, .ref mot, .long 0, .ref mywait, .ref myheld, .int 0, .int 0, .int 0, .int 0, .int 0, .int 0, .long 0, .long 0, .ref mynames, .ref myvalue, .int 0, .int 0, .int 0, .ref mun, .ref mycan, .int 0, .int 0, .int 0, .ref myroot, .ref myoff, .int 0, .ref mtn, .ref mtc, .int 0, .int 0, .int 0, .ref mkh, .ref mkt, .ref mkc]))] H) (hD : va_D A [(x, .inr (11, [.ref xpa, .ref b, .ref xsp, .ref xdy, .ref xle, .ref xst, .int 0, .ref xim, .ref xil, .int 0, .ref xmo, .ref xom, .ref xwi])), (b, .inr (0, [.ref bto, .ref bnm, .ref bla, .ref bsk, .ref bru, .ref bbo, .ref bdi, .ref bda, .ref bdk, .ref bdt, .ref bdp, .ref bno])), (bto, .inl (bcT, 5, .inl (fun _ => 0))), (mq, .inr (12, [.ref mtp, .int 0, .int 0, .ref mywords, .int 0, .int (-1), .int 0, .int 0, .int 0, .int 0, .int 0, .int 0, .int 0, .int 0, .int 0, .int 0, .int 0, .int 0, .int 0, .int 0, .int 0, .int 0, .int 0, .int 0, .ref msk, .int 0, .int 0, .int 0, .ref mln, .ref mlh, .ref mfn, .ref mfi, .ref mla, .ref mpn, .ref mbo, .ref mdi, .ref mdn, .ref mdo, .ref mdh, .ref mnn, .ref mnh, .ref mkn, .ref mpt, .ref mot, .long 0, .ref mywait, .ref myheld, .int 0, .int 0, .int 0, .int 0, .int 0, .int 0, .long 0, .long 0, .ref mynames, .ref myvalue, .int 0, .int 0, .int 0, .ref mun, .ref mycan, .int 0, .int 0, .int 0, .ref myroot, .ref myoff, .int 0, .ref mtn, .ref mtc, .int 0, .int 0, .int 0, .ref mkh, .ref mkt, .ref mkc]))]) (hS : va_S A s.heap H locs) (hl : lv_has ls 7 [(4, .int 0), (3, .ref o3), (2, .ref mq), (1, .ref x), (0, .ref bs)]) : W p l e room_1 s m #[Value.ref bs] below meth c H locs 129 248806 (lw_Z below #[Value.ref bs] s) (F0 m 1504 ls []) := by
  obtain ⟨hx, hb, hr, hml, hown, hts, hX, hbl, hlocks, hgv⟩ := id C0
  have htw : ∀ w ∈ wsL_law, w.before _ s = true := fun w h => hts w (wsL_law_in w h)
  have hown : s.vm.findClass RL = some m.cls := hown
  have hA : ∀ q : Nat, s.heap.size ≤ q → A q := fun q h => (hAe q).mpr h
  have hbA : ¬ A bs := fun h => absurd ((hAe bs).mp h) (Nat.not_le.mpr hbl)
  refine lv_aload_n hx hb dL_law_1504 rfl (lv_at hl 3 rfl) ?_
  refine lv_aload_n hx hb dL_law_1505 rfl (lv_at hl 4 rfl) ?_
  refine lv_iload hx hb dL_law_1506 (lv_at hl 0 rfl) ?_
  refine lv_iconst (v := 1) hx hb dL_law_1508 (by decide) ?_
  refine lv_iadd hx hb dL_law_1509 ?_
  refine lv_topi (fun z_1 ez_1 => ?_)
  obtain rfl : z_1 = 1 := ez_1.trans (by decide)
  refine va_sld hx hb hX hbl hbA hS (by unfold vp_in; decide) dL_law_1510 ?_
  refine lv_topi (fun z_2 ez_2 => ?_)
  obtain rfl : z_2 = xs 1 := ez_2
  refine lv_aload_n hx hb dL_law_1511 rfl (lv_at hl 4 rfl) ?_
  refine lv_iload hx hb dL_law_1512 (lv_at hl 0 rfl) ?_
  refine lv_iconst (v := 2) hx hb dL_law_1514 (by decide) ?_
  refine lv_iadd hx hb dL_law_1515 ?_
  refine lv_topi (fun z_3 ez_3 => ?_)
  obtain rfl : z_3 = 2 := ez_3.trans (by decide)
  refine va_sld hx hb hX hbl hbA hS (by unfold vp_in; decide) dL_law_1516 ?_
  refine lv_topi (fun z_4 ez_4 => ?_)
  obtain rfl : z_4 = xs 2 := ez_4
  refine lv_i2l (v := (xs 2).toInt64) hx hb dL_law_1517 rfl ?_
  refine lv_bipush (v := 32) hx hb dL_law_1518 (by decide) ?_
  refine lv_lshl (v := (((xs 2).toInt64) <<< ((32 : Int32).toInt64 &&& 63))) hx hb dL_law_1520 rfl ?_
  refine lv_aload_n hx hb dL_law_1521 rfl (lv_at hl 4 rfl) ?_
  refine lv_iload hx hb dL_law_1522 (lv_at hl 0 rfl) ?_
  refine lv_iconst (v := 3) hx hb dL_law_1524 (by decide) ?_
  refine lv_iadd hx hb dL_law_1525 ?_
  refine lv_topi (fun z_5 ez_5 => ?_)
  obtain rfl : z_5 = 3 := ez_5.trans (by decide)
  refine va_sld hx hb hX hbl hbA hS (by unfold vp_in; decide) dL_law_1526 ?_
  refine lv_topi (fun z_6 ez_6 => ?_)
  obtain rfl : z_6 = xs 3 := ez_6
  refine lv_i2l (v := (xs 3).toInt64) hx hb dL_law_1527 rfl ?_
  refine lv_ldc2 (v := 4294967295) hx hb hown (htw _ (ck_1 _ (List.mem_of_getElem? (i := 7) rfl))) dL_law_1528 ?_
  refine lv_land hx hb dL_law_1531 ?_
  refine lv_lor hx hb dL_law_1532 ?_
  refine lv_aload_n hx hb dL_law_1533 rfl (lv_at hl 4 rfl) ?_
  refine lv_iload hx hb dL_law_1534 (lv_at hl 0 rfl) ?_
  refine lv_iconst (v := 4) hx hb dL_law_1536 (by decide) ?_
  refine lv_iadd hx hb dL_law_1537 ?_
  refine lv_topi (fun z_7 ez_7 => ?_)
  obtain rfl : z_7 = 4 := ez_7.trans (by decide)
  refine va_sld hx hb hX hbl hbA hS (by unfold vp_in; decide) dL_law_1538 ?_
  refine lv_topi (fun z_8 ez_8 => ?_)
  obtain rfl : z_8 = xs 4 := ez_8
  have hPc := hP.sub (ws' := [(x, .inr (11, [.ref xpa, .ref b, .ref xsp, .ref xdy, .ref xle, .ref xst, .int 0, .ref xim, .ref xil, .int 0, .ref xmo, .ref xom, .ref xwi])), (b, .inr (0, [.ref bto, .ref bnm, .ref bla, .ref bsk, .ref bru, .ref bbo, .ref bdi, .ref bda, .ref bdk, .ref bdt, .ref bdp, .ref bno])), (bto, .inl (bcT, 5, .inl (fun _ => 0)))]) [0, 1, 2] rfl
  have hKc := hK.sub (tys' := [(bcT, .int)]) [0] rfl
  refine vp_callSi (W.runV (As := [.int (xs 1), .long ((((xs 2).toInt64) <<< ((32 : Int32).toInt64 &&& 63)) ||| (((xs 3).toInt64) &&& 4294967295)), .int (xs 4)]) (rest := []) ⟨hx, hb, hml, hown, htw⟩ (mx_ends l dC dI x xpa xsp xdy xle xst xim xil xmo xom xwi b bto bnm bla bsk bru bbo bdi bda bdk bdt bdp bno bcT (xs 1) ((((xs 2).toInt64) <<< ((32 : Int32).toInt64 &&& 63)) ||| (((xs 3).toInt64) &&& 4294967295)) (xs 4)) (cwV 3 htw (xg_V (ck_50 _ (List.mem_of_getElem? (i := 20) rfl)) (ck_50 _ (List.mem_of_getElem? (i := 21) rfl)) (ck_50 _ (List.mem_of_getElem? (i := 22) rfl)) (ck_1 _ (List.mem_of_getElem? (i := 2) rfl)) (ck_50 _ (List.mem_of_getElem? (i := 23) rfl))) rfl rfl rfl (by decide +kernel) ⟨Nat.le_of_ble_eq_true rfl, Nat.le_of_ble_eq_true rfl⟩) ⟨fun a U g mk q => by obtain ⟨q0, qP, qK⟩ := q; exact ⟨q0, qP, va_K.moved (u := U) (U := U.calling g mk a) (Vm.Alike.refl U.vm) qK⟩, va_recv hKc hPc (ci := 11) (q0 := 0) rfl rfl, fun U hU hW => ⟨rfl, by rw [hU]; exact hPc, va_K.moved hW.alike hKc⟩⟩ rfl rfl hl.1 rfl (lv_room (Nat.le_of_ble_eq_true rfl)) dL_law_1539 ⟨Nat.le_of_ble_eq_true rfl, Nat.le_of_ble_eq_true rfl⟩) (fun r_9 hw => ?_)
  try dsimp only at hw
  obtain rfl : r_9 = (-1) := hw
  refine lv_aload_n hx hb dL_law_1542 rfl (lv_at hl 2 rfl) ?_
  refine lv_aload_n hx hb dL_law_1543 rfl (lv_at hl 4 rfl) ?_
  refine lv_iload hx hb dL_law_1544 (lv_at hl 0 rfl) ?_
  refine lv_iconst (v := 1) hx hb dL_law_1546 (by decide) ?_
  refine lv_iadd hx hb dL_law_1547 ?_
  refine lv_topi (fun z_10 ez_10 => ?_)
  obtain rfl : z_10 = 1 := ez_10.trans (by decide)
  refine va_sld hx hb hX hbl hbA hS (by unfold vp_in; decide) dL_law_1548 ?_
  refine lv_topi (fun z_11 ez_11 => ?_)
  obtain rfl : z_11 = xs 1 := ez_11
  refine lv_aload_n hx hb dL_law_1549 rfl (lv_at hl 4 rfl) ?_
  refine lv_iload hx hb dL_law_1550 (lv_at hl 0 rfl) ?_
  refine lv_iconst (v := 2) hx hb dL_law_1552 (by decide) ?_
  refine lv_iadd hx hb dL_law_1553 ?_
  refine lv_topi (fun z_12 ez_12 => ?_)
  obtain rfl : z_12 = 2 := ez_12.trans (by decide)
  refine va_sld hx hb hX hbl hbA hS (by unfold vp_in; decide) dL_law_1554 ?_
  refine lv_topi (fun z_13 ez_13 => ?_)
  obtain rfl : z_13 = xs 2 := ez_13
  refine lv_i2l (v := (xs 2).toInt64) hx hb dL_law_1555 rfl ?_
  refine lv_bipush (v := 32) hx hb dL_law_1556 (by decide) ?_
  refine lv_lshl (v := (((xs 2).toInt64) <<< ((32 : Int32).toInt64 &&& 63))) hx hb dL_law_1558 rfl ?_
  refine lv_aload_n hx hb dL_law_1559 rfl (lv_at hl 4 rfl) ?_
  refine lv_iload hx hb dL_law_1560 (lv_at hl 0 rfl) ?_
  refine lv_iconst (v := 3) hx hb dL_law_1562 (by decide) ?_
  refine lv_iadd hx hb dL_law_1563 ?_
  refine lv_topi (fun z_14 ez_14 => ?_)
  obtain rfl : z_14 = 3 := ez_14.trans (by decide)
  refine va_sld hx hb hX hbl hbA hS (by unfold vp_in; decide) dL_law_1564 ?_
  refine lv_topi (fun z_15 ez_15 => ?_)
  obtain rfl : z_15 = xs 3 := ez_15
  refine lv_i2l (v := (xs 3).toInt64) hx hb dL_law_1565 rfl ?_
  refine lv_ldc2 (v := 4294967295) hx hb hown (htw _ (ck_1 _ (List.mem_of_getElem? (i := 7) rfl))) dL_law_1566 ?_
  refine lv_land hx hb dL_law_1569 ?_
  refine lv_lor hx hb dL_law_1570 ?_
  refine lv_aload_n hx hb dL_law_1571 rfl (lv_at hl 4 rfl) ?_
  refine lv_iload hx hb dL_law_1572 (lv_at hl 0 rfl) ?_
  refine lv_iconst (v := 4) hx hb dL_law_1574 (by decide) ?_
  refine lv_iadd hx hb dL_law_1575 ?_
  refine lv_topi (fun z_16 ez_16 => ?_)
  obtain rfl : z_16 = 4 := ez_16.trans (by decide)
  refine va_sld hx hb hX hbl hbA hS (by unfold vp_in; decide) dL_law_1576 ?_
  refine lv_topi (fun z_17 ez_17 => ?_)
  obtain rfl : z_17 = xs 4 := ez_17
  have hPc := hP.sub (ws' := [(mq, .inr (12, [.ref mtp, .int 0, .int 0, .ref mywords, .int 0, .int (-1), .int 0, .int 0, .int 0, .int 0, .int 0, .int 0, .int 0, .int 0, .int 0, .int 0, .int 0, .int 0, .int 0, .int 0, .int 0, .int 0, .int 0, .int 0, .ref msk, .int 0, .int 0, .int 0, .ref mln, .ref mlh, .ref mfn, .ref mfi, .ref mla, .ref mpn, .ref mbo, .ref mdi, .ref mdn, .ref mdo, .ref mdh, .ref mnn, .ref mnh, .ref mkn, .ref mpt, .ref mot, .long 0, .ref mywait, .ref myheld, .int 0, .int 0, .int 0, .int 0, .int 0, .int 0, .long 0, .long 0, .ref mynames, .ref myvalue, .int 0, .int 0, .int 0, .ref mun, .ref mycan, .int 0, .int 0, .int 0, .ref myroot, .ref myoff, .int 0, .ref mtn, .ref mtc, .int 0, .int 0, .int 0, .ref mkh, .ref mkt, .ref mkc]))]) [3] rfl
  have hKc := hK.sub (tys' := []) [] rfl
  have hDc := hD.sub (ws' := [(mq, .inr (12, [.ref mtp, .int 0, .int 0, .ref mywords, .int 0, .int (-1), .int 0, .int 0, .int 0, .int 0, .int 0, .int 0, .int 0, .int 0, .int 0, .int 0, .int 0, .int 0, .int 0, .int 0, .int 0, .int 0, .int 0, .int 0, .ref msk, .int 0, .int 0, .int 0, .ref mln, .ref mlh, .ref mfn, .ref mfi, .ref mla, .ref mpn, .ref mbo, .ref mdi, .ref mdn, .ref mdo, .ref mdh, .ref mnn, .ref mnh, .ref mkn, .ref mpt, .ref mot, .long 0, .ref mywait, .ref myheld, .int 0, .int 0, .int 0, .int 0, .int 0, .int 0, .long 0, .long 0, .ref mynames, .ref myvalue, .int 0, .int 0, .int 0, .ref mun, .ref mycan, .int 0, .int 0, .int 0, .ref myroot, .ref myoff, .int 0, .ref mtn, .ref mtc, .int 0, .int 0, .int 0, .ref mkh, .ref mkt, .ref mkc]))]) [3] (by decide) rfl
  have hFc := va_free (wc := [(mq, .inr (12, [.ref mtp, .int 0, .int 0, .ref mywords, .int 0, .int (-1), .int 0, .int 0, .int 0, .int 0, .int 0, .int 0, .int 0, .int 0, .int 0, .int 0, .int 0, .int 0, .int 0, .int 0, .int 0, .int 0, .int 0, .int 0, .ref msk, .int 0, .int 0, .int 0, .ref mln, .ref mlh, .ref mfn, .ref mfi, .ref mla, .ref mpn, .ref mbo, .ref mdi, .ref mdn, .ref mdo, .ref mdh, .ref mnn, .ref mnh, .ref mkn, .ref mpt, .ref mot, .long 0, .ref mywait, .ref myheld, .int 0, .int 0, .int 0, .int 0, .int 0, .int 0, .long 0, .long 0, .ref mynames, .ref myvalue, .int 0, .int 0, .int 0, .ref mun, .ref mycan, .int 0, .int 0, .int 0, .ref myroot, .ref myoff, .int 0, .ref mtn, .ref mtc, .int 0, .int 0, .int 0, .ref mkh, .ref mkt, .ref mkc]))]) hD hS hA [3] rfl
  refine va_calli (va_runV (As := [.int (xs 1), .long ((((xs 2).toInt64) <<< ((32 : Int32).toInt64 &&& 63)) ||| (((xs 3).toInt64) &&& 4294967295)), .int (xs 4)]) (rest := [.int (-1)]) ⟨hx, hb, hml, hown, htw⟩ (mm_ends l dC dI mq ([.ref mtp, .int 0, .int 0, .ref mywords, .int 0, .int (-1), .int 0, .int 0, .int 0, .int 0, .int 0, .int 0, .int 0, .int 0, .int 0, .int 0, .int 0, .int 0, .int 0, .int 0, .int 0, .int 0, .int 0, .int 0, .ref msk, .int 0, .int 0, .int 0, .ref mln, .ref mlh, .ref mfn, .ref mfi, .ref mla, .ref mpn, .ref mbo, .ref mdi, .ref mdn, .ref mdo, .ref mdh, .ref mnn, .ref mnh, .ref mkn, .ref mpt, .ref mot, .long 0, .ref mywait, .ref myheld, .int 0, .int 0, .int 0, .int 0, .int 0, .int 0, .long 0, .long 0, .ref mynames, .ref myvalue, .int 0, .int 0, .int 0, .ref mun, .ref mycan, .int 0, .int 0, .int 0, .ref myroot, .ref myoff, .int 0, .ref mtn, .ref mtc, .int 0, .int 0, .int 0, .ref mkh, .ref mkt, .ref mkc]) (xs 1) ((((xs 2).toInt64) <<< ((32 : Int32).toInt64 &&& 63)) ||| (((xs 3).toInt64) &&& 4294967295)) (xs 4) H.size rfl rfl) (cwV 3 htw (xg_V (ck_51 _ (List.mem_of_getElem? (i := 0) rfl)) (ck_51 _ (List.mem_of_getElem? (i := 1) rfl)) (ck_51 _ (List.mem_of_getElem? (i := 2) rfl)) (ck_1 _ (List.mem_of_getElem? (i := 5) rfl)) (ck_51 _ (List.mem_of_getElem? (i := 3) rfl))) rfl rfl rfl (by decide +kernel) ⟨Nat.le_of_ble_eq_true rfl, Nat.le_of_ble_eq_true rfl⟩) ⟨fun a U g mk q => by obtain ⟨q0, q1, qP, qK, qD⟩ := q; exact ⟨q0, q1, qP, va_K.moved (u := U) (U := U.calling g mk a) (Vm.Alike.refl U.vm) qK, qD⟩, va_recv hKc hPc (ci := 12) (q0 := 0) rfl rfl, fun U hU hW => ⟨rfl, by rw [hU], by rw [hU]; exact hPc, va_K.moved hW.alike hKc, hDc.weaken (fun _ _ _ _ => trivial)⟩⟩ rfl rfl hl.1 rfl (lv_room (Nat.le_of_ble_eq_true rfl)) dL_law_1577 ⟨Nat.le_of_ble_eq_true rfl, Nat.le_of_ble_eq_true rfl⟩) hS (fun q _ h => hFc q h) hFc (fun r_18 u_19 t H1 locs ht hvm hw hB hz1 hk1 hS => ?_)
  try dsimp only at hw
  have hP1 : va_P (dC, dI) vwCl [] H1 := fun k q h => by simp at h
  have hD1 : va_D (va_A [(mq, .inr (12, [.ref mtp, .int 0, .int 0, .ref mywords, .int 0, .int (-1), .int 0, .int 0, .int 0, .int 0, .int 0, .int 0, .int 0, .int 0, .int 0, .int 0, .int 0, .int 0, .int 0, .int 0, .int 0, .int 0, .int 0, .int 0, .ref msk, .int 0, .int 0, .int 0, .ref mln, .ref mlh, .ref mfn, .ref mfi, .ref mla, .ref mpn, .ref mbo, .ref mdi, .ref mdn, .ref mdo, .ref mdh, .ref mnn, .ref mnh, .ref mkn, .ref mpt, .ref mot, .long 0, .ref mywait, .ref myheld, .int 0, .int 0, .int 0, .int 0, .int 0, .int 0, .long 0, .long 0, .ref mynames, .ref myvalue, .int 0, .int 0, .int 0, .ref mun, .ref mycan, .int 0, .int 0, .int 0, .ref myroot, .ref myoff, .int 0, .ref mtn, .ref mtc, .int 0, .int 0, .int 0, .ref mkh, .ref mkt, .ref mkc]))] H.size) [] := ⟨fun i j p q h => by simp at h, fun k q h => by simp at h⟩
  obtain ⟨hP, hD⟩ := va_join (wr := [(x, .inr (11, [.ref xpa, .ref b, .ref xsp, .ref xdy, .ref xle, .ref xst, .int 0, .ref xim, .ref xil, .int 0, .ref xmo, .ref xom, .ref xwi])), (b, .inr (0, [.ref bto, .ref bnm, .ref bla, .ref bsk, .ref bru, .ref bbo, .ref bdi, .ref bda, .ref bdk, .ref bdt, .ref bdp, .ref bno])), (bto, .inl (bcT, 5, .inl (fun _ => 0)))]) (w1 := []) hP hD [3] [0, 1, 2] rfl rfl (by decide) (by decide) hk1 hFc hP1 hD1
  generalize H1 = H at hP hS ⊢
  have hP : va_P (dC, dI) vwCl [(x, .inr (11, [.ref xpa, .ref b, .ref xsp, .ref xdy, .ref xle, .ref xst, .int 0, .ref xim, .ref xil, .int 0, .ref xmo, .ref xom, .ref xwi])), (b, .inr (0, [.ref bto, .ref bnm, .ref bla, .ref bsk, .ref bru, .ref bbo, .ref bdi, .ref bda, .ref bdk, .ref bdt, .ref bdp, .ref bno])), (bto, .inl (bcT, 5, .inl (fun _ => 0)))] H := hP
  have hD : va_D A [(x, .inr (11, [.ref xpa, .ref b, .ref xsp, .ref xdy, .ref xle, .ref xst, .int 0, .ref xim, .ref xil, .int 0, .ref xmo, .ref xom, .ref xwi])), (b, .inr (0, [.ref bto, .ref bnm, .ref bla, .ref bsk, .ref bru, .ref bbo, .ref bdi, .ref bda, .ref bdk, .ref bdt, .ref bdp, .ref bno])), (bto, .inl (bcT, 5, .inl (fun _ => 0)))] := hD
  refine W.widen (k := 129) (n := 248806) (by omega) (by omega) ?_
  obtain rfl : r_18 = (-1) := hw
  refine lv_icmp_eq (tgt := 2053) hx hb dL_law_1580 (by decide) (fun _ => ?_) (fun c => absurd c (by decide))
  refine lv_iinc (v := 6) (lv' := [(4, .int 6), (3, .ref o3), (2, .ref mq), (1, .ref x), (0, .ref bs)]) hx hb dL_law_2053 hl (k := 0) rfl (by decide) (by decide) rfl (fun ls hl => ?_)
  refine lv_goto (tgt := 23) hx hb dL_law_2056 (by decide) ?_
  refine lv_iload hx hb dL_law_23 (lv_at hl 0 rfl) ?_
  refine lv_aload_n hx hb dL_law_25 rfl (lv_at hl 4 rfl) ?_
  refine va_slen hx hb hX hbl hbA hS dL_law_26 ?_
  refine lv_topi (fun z_20 ez_20 => ?_)
  obtain rfl : z_20 = 6 := ez_20.trans (by decide)
  refine lv_bipush (v := 6) hx hb dL_law_27 (by decide) ?_
  refine lv_isub hx hb dL_law_29 ?_
  refine lv_topi (fun z_21 ez_21 => ?_)
  obtain rfl : z_21 = 0 := ez_21.trans (by decide)
  refine lv_icmp_gt (tgt := 2059) hx hb dL_law_30 (by decide) (fun _ => ?_) (fun c => absurd c (by decide))
  refine lv_iconst (v := 1) hx hb dL_law_2059 (by decide) ?_
  refine va_forget (fun q hq => (hAe _).mp (hS.2.2 q hq)) ?_
  refine W.widen (k := 600002) (n := 7302232) (by omega) (by omega) ?_
  exact lw_ret hx hb hr hlocks dL_law_2060

theorem dL_law_1585 : decode cL_law 1585 = .ok (.aload_n 1, 1) := by decide +kernel
theorem dL_law_1586 : decode cL_law 1586 = .ok (.aload_n 0, 1) := by decide +kernel
theorem dL_law_1587 : decode cL_law 1587 = .ok (.iload 4, 2) := by decide +kernel
theorem dL_law_1589 : decode cL_law 1589 = .ok (.iconst 1, 1) := by decide +kernel
theorem dL_law_1590 : decode cL_law 1590 = .ok (.iadd, 1) := by decide +kernel
theorem dL_law_1591 : decode cL_law 1591 = .ok (.iaload, 1) := by decide +kernel
theorem dL_law_1592 : decode cL_law 1592 = .ok (.aload_n 0, 1) := by decide +kernel
theorem dL_law_1593 : decode cL_law 1593 = .ok (.iload 4, 2) := by decide +kernel
theorem dL_law_1595 : decode cL_law 1595 = .ok (.iconst 2, 1) := by decide +kernel
theorem dL_law_1596 : decode cL_law 1596 = .ok (.iadd, 1) := by decide +kernel
theorem dL_law_1597 : decode cL_law 1597 = .ok (.iaload, 1) := by decide +kernel
theorem dL_law_1598 : decode cL_law 1598 = .ok (.i2l, 1) := by decide +kernel
theorem dL_law_1599 : decode cL_law 1599 = .ok (.bipush 32, 2) := by decide +kernel
theorem dL_law_1601 : decode cL_law 1601 = .ok (.lshl, 1) := by decide +kernel
theorem dL_law_1602 : decode cL_law 1602 = .ok (.aload_n 0, 1) := by decide +kernel
theorem dL_law_1603 : decode cL_law 1603 = .ok (.iload 4, 2) := by decide +kernel
theorem dL_law_1605 : decode cL_law 1605 = .ok (.iconst 3, 1) := by decide +kernel
theorem dL_law_1606 : decode cL_law 1606 = .ok (.iadd, 1) := by decide +kernel
theorem dL_law_1607 : decode cL_law 1607 = .ok (.iaload, 1) := by decide +kernel
theorem dL_law_1608 : decode cL_law 1608 = .ok (.i2l, 1) := by decide +kernel
theorem dL_law_1609 : decode cL_law 1609 = .ok (.ldc2_w 54, 3) := by decide +kernel
theorem dL_law_1612 : decode cL_law 1612 = .ok (.land, 1) := by decide +kernel
theorem dL_law_1613 : decode cL_law 1613 = .ok (.lor, 1) := by decide +kernel
theorem dL_law_1614 : decode cL_law 1614 = .ok (.aload_n 0, 1) := by decide +kernel
theorem dL_law_1615 : decode cL_law 1615 = .ok (.iload 4, 2) := by decide +kernel
theorem dL_law_1617 : decode cL_law 1617 = .ok (.iconst 4, 1) := by decide +kernel
theorem dL_law_1618 : decode cL_law 1618 = .ok (.iadd, 1) := by decide +kernel
theorem dL_law_1619 : decode cL_law 1619 = .ok (.iaload, 1) := by decide +kernel
theorem dL_law_1620 : decode cL_law 1620 = .ok (.aload_n 0, 1) := by decide +kernel
theorem dL_law_1621 : decode cL_law 1621 = .ok (.iload 4, 2) := by decide +kernel
theorem dL_law_1623 : decode cL_law 1623 = .ok (.iconst 5, 1) := by decide +kernel
theorem dL_law_1624 : decode cL_law 1624 = .ok (.iadd, 1) := by decide +kernel
theorem dL_law_1625 : decode cL_law 1625 = .ok (.iaload, 1) := by decide +kernel
theorem dL_law_1626 : decode cL_law 1626 = .ok (.invokevirtual 131, 3) := by decide +kernel
theorem dL_law_1629 : decode cL_law 1629 = .ok (.aload_n 2, 1) := by decide +kernel
theorem dL_law_1630 : decode cL_law 1630 = .ok (.aload_n 0, 1) := by decide +kernel
theorem dL_law_1631 : decode cL_law 1631 = .ok (.iload 4, 2) := by decide +kernel
theorem dL_law_1633 : decode cL_law 1633 = .ok (.iconst 1, 1) := by decide +kernel
theorem dL_law_1634 : decode cL_law 1634 = .ok (.iadd, 1) := by decide +kernel
theorem dL_law_1635 : decode cL_law 1635 = .ok (.iaload, 1) := by decide +kernel
theorem dL_law_1636 : decode cL_law 1636 = .ok (.aload_n 0, 1) := by decide +kernel
theorem dL_law_1637 : decode cL_law 1637 = .ok (.iload 4, 2) := by decide +kernel
theorem dL_law_1639 : decode cL_law 1639 = .ok (.iconst 2, 1) := by decide +kernel
theorem dL_law_1640 : decode cL_law 1640 = .ok (.iadd, 1) := by decide +kernel
theorem dL_law_1641 : decode cL_law 1641 = .ok (.iaload, 1) := by decide +kernel
theorem dL_law_1642 : decode cL_law 1642 = .ok (.i2l, 1) := by decide +kernel
theorem dL_law_1643 : decode cL_law 1643 = .ok (.bipush 32, 2) := by decide +kernel
theorem dL_law_1645 : decode cL_law 1645 = .ok (.lshl, 1) := by decide +kernel
theorem dL_law_1646 : decode cL_law 1646 = .ok (.aload_n 0, 1) := by decide +kernel
theorem dL_law_1647 : decode cL_law 1647 = .ok (.iload 4, 2) := by decide +kernel
theorem dL_law_1649 : decode cL_law 1649 = .ok (.iconst 3, 1) := by decide +kernel
theorem dL_law_1650 : decode cL_law 1650 = .ok (.iadd, 1) := by decide +kernel
theorem dL_law_1651 : decode cL_law 1651 = .ok (.iaload, 1) := by decide +kernel
theorem dL_law_1652 : decode cL_law 1652 = .ok (.i2l, 1) := by decide +kernel
theorem dL_law_1653 : decode cL_law 1653 = .ok (.ldc2_w 54, 3) := by decide +kernel
theorem dL_law_1656 : decode cL_law 1656 = .ok (.land, 1) := by decide +kernel
theorem dL_law_1657 : decode cL_law 1657 = .ok (.lor, 1) := by decide +kernel
theorem dL_law_1658 : decode cL_law 1658 = .ok (.aload_n 0, 1) := by decide +kernel
theorem dL_law_1659 : decode cL_law 1659 = .ok (.iload 4, 2) := by decide +kernel
theorem dL_law_1661 : decode cL_law 1661 = .ok (.iconst 4, 1) := by decide +kernel
theorem dL_law_1662 : decode cL_law 1662 = .ok (.iadd, 1) := by decide +kernel
theorem dL_law_1663 : decode cL_law 1663 = .ok (.iaload, 1) := by decide +kernel
theorem dL_law_1664 : decode cL_law 1664 = .ok (.aload_n 0, 1) := by decide +kernel
theorem dL_law_1665 : decode cL_law 1665 = .ok (.iload 4, 2) := by decide +kernel
theorem dL_law_1667 : decode cL_law 1667 = .ok (.iconst 5, 1) := by decide +kernel
theorem dL_law_1668 : decode cL_law 1668 = .ok (.iadd, 1) := by decide +kernel
theorem dL_law_1669 : decode cL_law 1669 = .ok (.iaload, 1) := by decide +kernel
theorem dL_law_1670 : decode cL_law 1670 = .ok (.invokevirtual 135, 3) := by decide +kernel
theorem dL_law_1673 : decode cL_law 1673 = .ok (.lcmp, 1) := by decide +kernel
theorem dL_law_1674 : decode cL_law 1674 = .ok (.ifCond .eq 379, 3) := by decide +kernel
set_option maxHeartbeats 4000000 in
set_option maxRecDepth 100000 in
theorem law_hire (l : Launch) (hst : l.stackTraces = false) {p : Program} {e : Env} {s : State} {m : MethodId} {below : List Frame} {meth : Method} {c : Code} {bs : Nat} {xs : Nat → Int32} (C0 : lw_At p s m meth c bs 6 xs) (dC : Nat → ClassId) (dI : Nat → Nat → Nat) (A : Nat → Prop) (hAe : ∀ q, A q ↔ s.heap.size ≤ q) (xpa : Nat) (b : Nat) (xsp : Nat) (xdy : Nat) (xle : Nat) (xst : Nat) (xim : Nat) (xil : Nat) (xmo : Nat) (xom : Nat) (xwi : Nat) (bto : Nat) (bnm : Nat) (bla : Nat) (bsk : Nat) (bru : Nat) (bbo : Nat) (bdi : Nat) (bda : Nat) (bdk : Nat) (bdt : Nat) (bdp : Nat) (bno : Nat) (bcT : ClassId) (mtp : Nat) (mywords : Nat) (msk : Nat) (mln : Nat) (mlh : Nat) (mfn : Nat) (mfi : Nat) (mla : Nat) (mpn : Nat) (mbo : Nat) (mdi : Nat) (mdn : Nat) (mdo : Nat) (mdh : Nat) (mnn : Nat) (mnh : Nat) (mkn : Nat) (mpt : Nat) (mot : Nat) (mywait : Nat) (myheld : Nat) (mynames : Nat) (myvalue : Nat) (mun : Nat) (mycan : Nat) (myroot : Nat) (myoff : Nat) (mtn : Nat) (mtc : Nat) (mkh : Nat) (mkt : Nat) (mkc : Nat) (x : Nat) (mq : Nat) (o3 : Nat)  (H : Heap) (locs : List Loc) (ls : Array Slot) (hK : va_K (dC, dI) vwCl [(bcT, .int)] s) (hP : va_P (dC, dI) vwCl [(x, .inr (11, [.ref xpa, .ref b, .ref xsp, .ref xdy, .ref xle, .ref xst, .int 0, .ref xim, .ref xil, .int 0, .ref xmo, .ref xom, .ref xwi])), (b, .inr (0, [.ref bto, .ref bnm, .ref bla, .ref bsk, .ref bru, .ref bbo, .ref bdi, .ref bda, .ref bdk, .ref bdt, .ref bdp, .ref bno])), (bto, .inl (bcT, 5, .inl (fun _ => 0))), (mq, .inr (12, [.ref mtp, .int 0, .int 0, .ref mywords, .int 0, .int (-1), .int 0, .int 0, .int 0, .int 0, .int 0, .int 0, .int 0, .int 0, .int 0, .int 0, .int 0, .int 0, .int 0, .int 0, .int 0, .int 0, .int 0, .int 0, .ref msk, .int 0, .int 0, .int 0, .ref mln, .ref mlh, .ref mfn, .ref mfi, .ref mla, .ref mpn, .ref mbo, .ref mdi, .ref mdn, .ref mdo, .ref mdh, .ref mnn, .ref mnh, .ref mkn, .ref mpt, .ref mot, .long 0, .ref mywait, .ref myheld, .int 0, .int 0, .int 0, .int 0, .int 0, .int 0, .long 0, .long 0, .ref mynames, .ref myvalue, .int 0, .int 0, .int 0, .ref mun, .ref mycan, .int 0, .int 0, .int 0, .ref myroot, .ref myoff, .int 0, .ref mtn, .ref mtc, .int 0, .int 0, .int 0, .ref mkh, .ref mkt, .ref mkc]))] H) (hD : va_D A [(x, .inr (11, [.ref xpa, .ref b, .ref xsp, .ref xdy, .ref xle, .ref xst, .int 0, .ref xim, .ref xil, .int 0, .ref xmo, .ref xom, .ref xwi])), (b, .inr (0, [.ref bto, .ref bnm, .ref bla, .ref bsk, .ref bru, .ref bbo, .ref bdi, .ref bda, .ref bdk, .ref bdt, .ref bdp, .ref bno])), (bto, .inl (bcT, 5, .inl (fun _ => 0))), (mq, .inr (12, [.ref mtp, .int 0, .int 0, .ref mywords, .int 0, .int (-1), .int 0, .int 0, .int 0, .int 0, .int 0, .int 0, .int 0, .int 0, .int 0, .int 0, .int 0, .int 0, .int 0, .int 0, .int 0, .int 0, .int 0, .int 0, .ref msk, .int 0, .int 0, .int 0, .ref mln, .ref mlh, .ref mfn, .ref mfi, .ref mla, .ref mpn, .ref mbo, .ref mdi, .ref mdn, .ref mdo, .ref mdh, .ref mnn, .ref mnh, .ref mkn, .ref mpt, .ref mot, .long 0, .ref mywait, .ref myheld, .int 0, .int 0, .int 0, .int 0, .int 0, .int 0, .long 0, .long 0, .ref mynames, .ref myvalue, .int 0, .int 0, .int 0, .ref mun, .ref mycan, .int 0, .int 0, .int 0, .ref myroot, .ref myoff, .int 0, .ref mtn, .ref mtc, .int 0, .int 0, .int 0, .ref mkh, .ref mkt, .ref mkc]))]) (hS : va_S A s.heap H locs) (hl : lv_has ls 7 [(4, .int 0), (3, .ref o3), (2, .ref mq), (1, .ref x), (0, .ref bs)]) : W p l e room_1 s m #[Value.ref bs] below meth c H locs 129 248806 (lw_Z below #[Value.ref bs] s) (F0 m 1585 ls []) := by
  obtain ⟨hx, hb, hr, hml, hown, hts, hX, hbl, hlocks, hgv⟩ := id C0
  have htw : ∀ w ∈ wsL_law, w.before _ s = true := fun w h => hts w (wsL_law_in w h)
  have hown : s.vm.findClass RL = some m.cls := hown
  have hA : ∀ q : Nat, s.heap.size ≤ q → A q := fun q h => (hAe q).mpr h
  have hbA : ¬ A bs := fun h => absurd ((hAe bs).mp h) (Nat.not_le.mpr hbl)
  refine lv_aload_n hx hb dL_law_1585 rfl (lv_at hl 3 rfl) ?_
  refine lv_aload_n hx hb dL_law_1586 rfl (lv_at hl 4 rfl) ?_
  refine lv_iload hx hb dL_law_1587 (lv_at hl 0 rfl) ?_
  refine lv_iconst (v := 1) hx hb dL_law_1589 (by decide) ?_
  refine lv_iadd hx hb dL_law_1590 ?_
  refine lv_topi (fun z_1 ez_1 => ?_)
  obtain rfl : z_1 = 1 := ez_1.trans (by decide)
  refine va_sld hx hb hX hbl hbA hS (by unfold vp_in; decide) dL_law_1591 ?_
  refine lv_topi (fun z_2 ez_2 => ?_)
  obtain rfl : z_2 = xs 1 := ez_2
  refine lv_aload_n hx hb dL_law_1592 rfl (lv_at hl 4 rfl) ?_
  refine lv_iload hx hb dL_law_1593 (lv_at hl 0 rfl) ?_
  refine lv_iconst (v := 2) hx hb dL_law_1595 (by decide) ?_
  refine lv_iadd hx hb dL_law_1596 ?_
  refine lv_topi (fun z_3 ez_3 => ?_)
  obtain rfl : z_3 = 2 := ez_3.trans (by decide)
  refine va_sld hx hb hX hbl hbA hS (by unfold vp_in; decide) dL_law_1597 ?_
  refine lv_topi (fun z_4 ez_4 => ?_)
  obtain rfl : z_4 = xs 2 := ez_4
  refine lv_i2l (v := (xs 2).toInt64) hx hb dL_law_1598 rfl ?_
  refine lv_bipush (v := 32) hx hb dL_law_1599 (by decide) ?_
  refine lv_lshl (v := (((xs 2).toInt64) <<< ((32 : Int32).toInt64 &&& 63))) hx hb dL_law_1601 rfl ?_
  refine lv_aload_n hx hb dL_law_1602 rfl (lv_at hl 4 rfl) ?_
  refine lv_iload hx hb dL_law_1603 (lv_at hl 0 rfl) ?_
  refine lv_iconst (v := 3) hx hb dL_law_1605 (by decide) ?_
  refine lv_iadd hx hb dL_law_1606 ?_
  refine lv_topi (fun z_5 ez_5 => ?_)
  obtain rfl : z_5 = 3 := ez_5.trans (by decide)
  refine va_sld hx hb hX hbl hbA hS (by unfold vp_in; decide) dL_law_1607 ?_
  refine lv_topi (fun z_6 ez_6 => ?_)
  obtain rfl : z_6 = xs 3 := ez_6
  refine lv_i2l (v := (xs 3).toInt64) hx hb dL_law_1608 rfl ?_
  refine lv_ldc2 (v := 4294967295) hx hb hown (htw _ (ck_1 _ (List.mem_of_getElem? (i := 7) rfl))) dL_law_1609 ?_
  refine lv_land hx hb dL_law_1612 ?_
  refine lv_lor hx hb dL_law_1613 ?_
  refine lv_aload_n hx hb dL_law_1614 rfl (lv_at hl 4 rfl) ?_
  refine lv_iload hx hb dL_law_1615 (lv_at hl 0 rfl) ?_
  refine lv_iconst (v := 4) hx hb dL_law_1617 (by decide) ?_
  refine lv_iadd hx hb dL_law_1618 ?_
  refine lv_topi (fun z_7 ez_7 => ?_)
  obtain rfl : z_7 = 4 := ez_7.trans (by decide)
  refine va_sld hx hb hX hbl hbA hS (by unfold vp_in; decide) dL_law_1619 ?_
  refine lv_topi (fun z_8 ez_8 => ?_)
  obtain rfl : z_8 = xs 4 := ez_8
  refine lv_aload_n hx hb dL_law_1620 rfl (lv_at hl 4 rfl) ?_
  refine lv_iload hx hb dL_law_1621 (lv_at hl 0 rfl) ?_
  refine lv_iconst (v := 5) hx hb dL_law_1623 (by decide) ?_
  refine lv_iadd hx hb dL_law_1624 ?_
  refine lv_topi (fun z_9 ez_9 => ?_)
  obtain rfl : z_9 = 5 := ez_9.trans (by decide)
  refine va_sld hx hb hX hbl hbA hS (by unfold vp_in; decide) dL_law_1625 ?_
  refine lv_topi (fun z_10 ez_10 => ?_)
  obtain rfl : z_10 = xs 5 := ez_10
  have hPc := hP.sub (ws' := [(x, .inr (11, [.ref xpa, .ref b, .ref xsp, .ref xdy, .ref xle, .ref xst, .int 0, .ref xim, .ref xil, .int 0, .ref xmo, .ref xom, .ref xwi])), (b, .inr (0, [.ref bto, .ref bnm, .ref bla, .ref bsk, .ref bru, .ref bbo, .ref bdi, .ref bda, .ref bdk, .ref bdt, .ref bdp, .ref bno])), (bto, .inl (bcT, 5, .inl (fun _ => 0)))]) [0, 1, 2] rfl
  have hKc := hK.sub (tys' := [(bcT, .int)]) [0] rfl
  refine vp_callSl (W.runV (As := [.int (xs 1), .long ((((xs 2).toInt64) <<< ((32 : Int32).toInt64 &&& 63)) ||| (((xs 3).toInt64) &&& 4294967295)), .int (xs 4), .int (xs 5)]) (rest := []) ⟨hx, hb, hml, hown, htw⟩ (mx_hire l dC dI x xpa xsp xdy xle xst xim xil xmo xom xwi b bto bnm bla bsk bru bbo bdi bda bdk bdt bdp bno bcT (xs 1) ((((xs 2).toInt64) <<< ((32 : Int32).toInt64 &&& 63)) ||| (((xs 3).toInt64) &&& 4294967295)) (xs 4) (xs 5)) (cwV 4 htw (xg_V (ck_51 _ (List.mem_of_getElem? (i := 7) rfl)) (ck_51 _ (List.mem_of_getElem? (i := 8) rfl)) (ck_51 _ (List.mem_of_getElem? (i := 9) rfl)) (ck_1 _ (List.mem_of_getElem? (i := 2) rfl)) (ck_51 _ (List.mem_of_getElem? (i := 10) rfl))) rfl rfl rfl (by decide +kernel) ⟨Nat.le_of_ble_eq_true rfl, Nat.le_of_ble_eq_true rfl⟩) ⟨fun a U g mk q => by obtain ⟨q0, qP, qK⟩ := q; exact ⟨q0, qP, va_K.moved (u := U) (U := U.calling g mk a) (Vm.Alike.refl U.vm) qK⟩, va_recv hKc hPc (ci := 11) (q0 := 0) rfl rfl, fun U hU hW => ⟨rfl, by rw [hU]; exact hPc, va_K.moved hW.alike hKc⟩⟩ rfl rfl hl.1 rfl (lv_room (Nat.le_of_ble_eq_true rfl)) dL_law_1626 ⟨Nat.le_of_ble_eq_true rfl, Nat.le_of_ble_eq_true rfl⟩) (fun r_11 hw => ?_)
  try dsimp only at hw
  obtain rfl : r_11 = (-1) := hw
  refine lv_aload_n hx hb dL_law_1629 rfl (lv_at hl 2 rfl) ?_
  refine lv_aload_n hx hb dL_law_1630 rfl (lv_at hl 4 rfl) ?_
  refine lv_iload hx hb dL_law_1631 (lv_at hl 0 rfl) ?_
  refine lv_iconst (v := 1) hx hb dL_law_1633 (by decide) ?_
  refine lv_iadd hx hb dL_law_1634 ?_
  refine lv_topi (fun z_12 ez_12 => ?_)
  obtain rfl : z_12 = 1 := ez_12.trans (by decide)
  refine va_sld hx hb hX hbl hbA hS (by unfold vp_in; decide) dL_law_1635 ?_
  refine lv_topi (fun z_13 ez_13 => ?_)
  obtain rfl : z_13 = xs 1 := ez_13
  refine lv_aload_n hx hb dL_law_1636 rfl (lv_at hl 4 rfl) ?_
  refine lv_iload hx hb dL_law_1637 (lv_at hl 0 rfl) ?_
  refine lv_iconst (v := 2) hx hb dL_law_1639 (by decide) ?_
  refine lv_iadd hx hb dL_law_1640 ?_
  refine lv_topi (fun z_14 ez_14 => ?_)
  obtain rfl : z_14 = 2 := ez_14.trans (by decide)
  refine va_sld hx hb hX hbl hbA hS (by unfold vp_in; decide) dL_law_1641 ?_
  refine lv_topi (fun z_15 ez_15 => ?_)
  obtain rfl : z_15 = xs 2 := ez_15
  refine lv_i2l (v := (xs 2).toInt64) hx hb dL_law_1642 rfl ?_
  refine lv_bipush (v := 32) hx hb dL_law_1643 (by decide) ?_
  refine lv_lshl (v := (((xs 2).toInt64) <<< ((32 : Int32).toInt64 &&& 63))) hx hb dL_law_1645 rfl ?_
  refine lv_aload_n hx hb dL_law_1646 rfl (lv_at hl 4 rfl) ?_
  refine lv_iload hx hb dL_law_1647 (lv_at hl 0 rfl) ?_
  refine lv_iconst (v := 3) hx hb dL_law_1649 (by decide) ?_
  refine lv_iadd hx hb dL_law_1650 ?_
  refine lv_topi (fun z_16 ez_16 => ?_)
  obtain rfl : z_16 = 3 := ez_16.trans (by decide)
  refine va_sld hx hb hX hbl hbA hS (by unfold vp_in; decide) dL_law_1651 ?_
  refine lv_topi (fun z_17 ez_17 => ?_)
  obtain rfl : z_17 = xs 3 := ez_17
  refine lv_i2l (v := (xs 3).toInt64) hx hb dL_law_1652 rfl ?_
  refine lv_ldc2 (v := 4294967295) hx hb hown (htw _ (ck_1 _ (List.mem_of_getElem? (i := 7) rfl))) dL_law_1653 ?_
  refine lv_land hx hb dL_law_1656 ?_
  refine lv_lor hx hb dL_law_1657 ?_
  refine lv_aload_n hx hb dL_law_1658 rfl (lv_at hl 4 rfl) ?_
  refine lv_iload hx hb dL_law_1659 (lv_at hl 0 rfl) ?_
  refine lv_iconst (v := 4) hx hb dL_law_1661 (by decide) ?_
  refine lv_iadd hx hb dL_law_1662 ?_
  refine lv_topi (fun z_18 ez_18 => ?_)
  obtain rfl : z_18 = 4 := ez_18.trans (by decide)
  refine va_sld hx hb hX hbl hbA hS (by unfold vp_in; decide) dL_law_1663 ?_
  refine lv_topi (fun z_19 ez_19 => ?_)
  obtain rfl : z_19 = xs 4 := ez_19
  refine lv_aload_n hx hb dL_law_1664 rfl (lv_at hl 4 rfl) ?_
  refine lv_iload hx hb dL_law_1665 (lv_at hl 0 rfl) ?_
  refine lv_iconst (v := 5) hx hb dL_law_1667 (by decide) ?_
  refine lv_iadd hx hb dL_law_1668 ?_
  refine lv_topi (fun z_20 ez_20 => ?_)
  obtain rfl : z_20 = 5 := ez_20.trans (by decide)
  refine va_sld hx hb hX hbl hbA hS (by unfold vp_in; decide) dL_law_1669 ?_
  refine lv_topi (fun z_21 ez_21 => ?_)
  obtain rfl : z_21 = xs 5 := ez_21
  have hPc := hP.sub (ws' := [(mq, .inr (12, [.ref mtp, .int 0, .int 0, .ref mywords, .int 0, .int (-1), .int 0, .int 0, .int 0, .int 0, .int 0, .int 0, .int 0, .int 0, .int 0, .int 0, .int 0, .int 0, .int 0, .int 0, .int 0, .int 0, .int 0, .int 0, .ref msk, .int 0, .int 0, .int 0, .ref mln, .ref mlh, .ref mfn, .ref mfi, .ref mla, .ref mpn, .ref mbo, .ref mdi, .ref mdn, .ref mdo, .ref mdh, .ref mnn, .ref mnh, .ref mkn, .ref mpt, .ref mot, .long 0, .ref mywait, .ref myheld, .int 0, .int 0, .int 0, .int 0, .int 0, .int 0, .long 0, .long 0, .ref mynames, .ref myvalue, .int 0, .int 0, .int 0, .ref mun, .ref mycan, .int 0, .int 0, .int 0, .ref myroot, .ref myoff, .int 0, .ref mtn, .ref mtc, .int 0, .int 0, .int 0, .ref mkh, .ref mkt, .ref mkc]))]) [3] rfl
  have hKc := hK.sub (tys' := []) [] rfl
  have hDc := hD.sub (ws' := [(mq, .inr (12, [.ref mtp, .int 0, .int 0, .ref mywords, .int 0, .int (-1), .int 0, .int 0, .int 0, .int 0, .int 0, .int 0, .int 0, .int 0, .int 0, .int 0, .int 0, .int 0, .int 0, .int 0, .int 0, .int 0, .int 0, .int 0, .ref msk, .int 0, .int 0, .int 0, .ref mln, .ref mlh, .ref mfn, .ref mfi, .ref mla, .ref mpn, .ref mbo, .ref mdi, .ref mdn, .ref mdo, .ref mdh, .ref mnn, .ref mnh, .ref mkn, .ref mpt, .ref mot, .long 0, .ref mywait, .ref myheld, .int 0, .int 0, .int 0, .int 0, .int 0, .int 0, .long 0, .long 0, .ref mynames, .ref myvalue, .int 0, .int 0, .int 0, .ref mun, .ref mycan, .int 0, .int 0, .int 0, .ref myroot, .ref myoff, .int 0, .ref mtn, .ref mtc, .int 0, .int 0, .int 0, .ref mkh, .ref mkt, .ref mkc]))]) [3] (by decide) rfl
  have hFc := va_free (wc := [(mq, .inr (12, [.ref mtp, .int 0, .int 0, .ref mywords, .int 0, .int (-1), .int 0, .int 0, .int 0, .int 0, .int 0, .int 0, .int 0, .int 0, .int 0, .int 0, .int 0, .int 0, .int 0, .int 0, .int 0, .int 0, .int 0, .int 0, .ref msk, .int 0, .int 0, .int 0, .ref mln, .ref mlh, .ref mfn, .ref mfi, .ref mla, .ref mpn, .ref mbo, .ref mdi, .ref mdn, .ref mdo, .ref mdh, .ref mnn, .ref mnh, .ref mkn, .ref mpt, .ref mot, .long 0, .ref mywait, .ref myheld, .int 0, .int 0, .int 0, .int 0, .int 0, .int 0, .long 0, .long 0, .ref mynames, .ref myvalue, .int 0, .int 0, .int 0, .ref mun, .ref mycan, .int 0, .int 0, .int 0, .ref myroot, .ref myoff, .int 0, .ref mtn, .ref mtc, .int 0, .int 0, .int 0, .ref mkh, .ref mkt, .ref mkc]))]) hD hS hA [3] rfl
  refine va_calll (va_runV (As := [.int (xs 1), .long ((((xs 2).toInt64) <<< ((32 : Int32).toInt64 &&& 63)) ||| (((xs 3).toInt64) &&& 4294967295)), .int (xs 4), .int (xs 5)]) (rest := [.long (-1)]) ⟨hx, hb, hml, hown, htw⟩ (mm_hire l dC dI mq ([.ref mtp, .int 0, .int 0, .ref mywords, .int 0, .int (-1), .int 0, .int 0, .int 0, .int 0, .int 0, .int 0, .int 0, .int 0, .int 0, .int 0, .int 0, .int 0, .int 0, .int 0, .int 0, .int 0, .int 0, .int 0, .ref msk, .int 0, .int 0, .int 0, .ref mln, .ref mlh, .ref mfn, .ref mfi, .ref mla, .ref mpn, .ref mbo, .ref mdi, .ref mdn, .ref mdo, .ref mdh, .ref mnn, .ref mnh, .ref mkn, .ref mpt, .ref mot, .long 0, .ref mywait, .ref myheld, .int 0, .int 0, .int 0, .int 0, .int 0, .int 0, .long 0, .long 0, .ref mynames, .ref myvalue, .int 0, .int 0, .int 0, .ref mun, .ref mycan, .int 0, .int 0, .int 0, .ref myroot, .ref myoff, .int 0, .ref mtn, .ref mtc, .int 0, .int 0, .int 0, .ref mkh, .ref mkt, .ref mkc]) (xs 1) ((((xs 2).toInt64) <<< ((32 : Int32).toInt64 &&& 63)) ||| (((xs 3).toInt64) &&& 4294967295)) (xs 4) (xs 5) H.size rfl rfl) (cwV 4 htw (xg_V (ck_51 _ (List.mem_of_getElem? (i := 11) rfl)) (ck_51 _ (List.mem_of_getElem? (i := 12) rfl)) (ck_51 _ (List.mem_of_getElem? (i := 13) rfl)) (ck_1 _ (List.mem_of_getElem? (i := 5) rfl)) (ck_51 _ (List.mem_of_getElem? (i := 14) rfl))) rfl rfl rfl (by decide +kernel) ⟨Nat.le_of_ble_eq_true rfl, Nat.le_of_ble_eq_true rfl⟩) ⟨fun a U g mk q => by obtain ⟨q0, q1, qP, qK, qD⟩ := q; exact ⟨q0, q1, qP, va_K.moved (u := U) (U := U.calling g mk a) (Vm.Alike.refl U.vm) qK, qD⟩, va_recv hKc hPc (ci := 12) (q0 := 0) rfl rfl, fun U hU hW => ⟨rfl, by rw [hU], by rw [hU]; exact hPc, va_K.moved hW.alike hKc, hDc.weaken (fun _ _ _ _ => trivial)⟩⟩ rfl rfl hl.1 rfl (lv_room (Nat.le_of_ble_eq_true rfl)) dL_law_1670 ⟨Nat.le_of_ble_eq_true rfl, Nat.le_of_ble_eq_true rfl⟩) hS (fun q _ h => hFc q h) hFc (fun r_22 u_23 t H1 locs ht hvm hw hB hz1 hk1 hS => ?_)
  try dsimp only at hw
  have hP1 : va_P (dC, dI) vwCl [] H1 := fun k q h => by simp at h
  have hD1 : va_D (va_A [(mq, .inr (12, [.ref mtp, .int 0, .int 0, .ref mywords, .int 0, .int (-1), .int 0, .int 0, .int 0, .int 0, .int 0, .int 0, .int 0, .int 0, .int 0, .int 0, .int 0, .int 0, .int 0, .int 0, .int 0, .int 0, .int 0, .int 0, .ref msk, .int 0, .int 0, .int 0, .ref mln, .ref mlh, .ref mfn, .ref mfi, .ref mla, .ref mpn, .ref mbo, .ref mdi, .ref mdn, .ref mdo, .ref mdh, .ref mnn, .ref mnh, .ref mkn, .ref mpt, .ref mot, .long 0, .ref mywait, .ref myheld, .int 0, .int 0, .int 0, .int 0, .int 0, .int 0, .long 0, .long 0, .ref mynames, .ref myvalue, .int 0, .int 0, .int 0, .ref mun, .ref mycan, .int 0, .int 0, .int 0, .ref myroot, .ref myoff, .int 0, .ref mtn, .ref mtc, .int 0, .int 0, .int 0, .ref mkh, .ref mkt, .ref mkc]))] H.size) [] := ⟨fun i j p q h => by simp at h, fun k q h => by simp at h⟩
  obtain ⟨hP, hD⟩ := va_join (wr := [(x, .inr (11, [.ref xpa, .ref b, .ref xsp, .ref xdy, .ref xle, .ref xst, .int 0, .ref xim, .ref xil, .int 0, .ref xmo, .ref xom, .ref xwi])), (b, .inr (0, [.ref bto, .ref bnm, .ref bla, .ref bsk, .ref bru, .ref bbo, .ref bdi, .ref bda, .ref bdk, .ref bdt, .ref bdp, .ref bno])), (bto, .inl (bcT, 5, .inl (fun _ => 0)))]) (w1 := []) hP hD [3] [0, 1, 2] rfl rfl (by decide) (by decide) hk1 hFc hP1 hD1
  generalize H1 = H at hP hS ⊢
  have hP : va_P (dC, dI) vwCl [(x, .inr (11, [.ref xpa, .ref b, .ref xsp, .ref xdy, .ref xle, .ref xst, .int 0, .ref xim, .ref xil, .int 0, .ref xmo, .ref xom, .ref xwi])), (b, .inr (0, [.ref bto, .ref bnm, .ref bla, .ref bsk, .ref bru, .ref bbo, .ref bdi, .ref bda, .ref bdk, .ref bdt, .ref bdp, .ref bno])), (bto, .inl (bcT, 5, .inl (fun _ => 0)))] H := hP
  have hD : va_D A [(x, .inr (11, [.ref xpa, .ref b, .ref xsp, .ref xdy, .ref xle, .ref xst, .int 0, .ref xim, .ref xil, .int 0, .ref xmo, .ref xom, .ref xwi])), (b, .inr (0, [.ref bto, .ref bnm, .ref bla, .ref bsk, .ref bru, .ref bbo, .ref bdi, .ref bda, .ref bdk, .ref bdt, .ref bdp, .ref bno])), (bto, .inl (bcT, 5, .inl (fun _ => 0)))] := hD
  refine W.widen (k := 129) (n := 248806) (by omega) (by omega) ?_
  obtain rfl : r_22 = (-1) := hw
  refine W.lcmp hx hb dL_law_1673 ?_
  refine lv_if_eq (tgt := 2053) hx hb dL_law_1674 (by decide) (fun _ => ?_) (fun c => absurd c (by decide))
  refine lv_iinc (v := 6) (lv' := [(4, .int 6), (3, .ref o3), (2, .ref mq), (1, .ref x), (0, .ref bs)]) hx hb dL_law_2053 hl (k := 0) rfl (by decide) (by decide) rfl (fun ls hl => ?_)
  refine lv_goto (tgt := 23) hx hb dL_law_2056 (by decide) ?_
  refine lv_iload hx hb dL_law_23 (lv_at hl 0 rfl) ?_
  refine lv_aload_n hx hb dL_law_25 rfl (lv_at hl 4 rfl) ?_
  refine va_slen hx hb hX hbl hbA hS dL_law_26 ?_
  refine lv_topi (fun z_24 ez_24 => ?_)
  obtain rfl : z_24 = 6 := ez_24.trans (by decide)
  refine lv_bipush (v := 6) hx hb dL_law_27 (by decide) ?_
  refine lv_isub hx hb dL_law_29 ?_
  refine lv_topi (fun z_25 ez_25 => ?_)
  obtain rfl : z_25 = 0 := ez_25.trans (by decide)
  refine lv_icmp_gt (tgt := 2059) hx hb dL_law_30 (by decide) (fun _ => ?_) (fun c => absurd c (by decide))
  refine lv_iconst (v := 1) hx hb dL_law_2059 (by decide) ?_
  refine va_forget (fun q hq => (hAe _).mp (hS.2.2 q hq)) ?_
  refine W.widen (k := 600002) (n := 7302232) (by omega) (by omega) ?_
  exact lw_ret hx hb hr hlocks dL_law_2060

theorem dL_law_1679 : decode cL_law 1679 = .ok (.aload_n 1, 1) := by decide +kernel
theorem dL_law_1680 : decode cL_law 1680 = .ok (.aload_n 0, 1) := by decide +kernel
theorem dL_law_1681 : decode cL_law 1681 = .ok (.iload 4, 2) := by decide +kernel
theorem dL_law_1683 : decode cL_law 1683 = .ok (.iconst 1, 1) := by decide +kernel
theorem dL_law_1684 : decode cL_law 1684 = .ok (.iadd, 1) := by decide +kernel
theorem dL_law_1685 : decode cL_law 1685 = .ok (.iaload, 1) := by decide +kernel
theorem dL_law_1686 : decode cL_law 1686 = .ok (.aload_n 0, 1) := by decide +kernel
theorem dL_law_1687 : decode cL_law 1687 = .ok (.iload 4, 2) := by decide +kernel
theorem dL_law_1689 : decode cL_law 1689 = .ok (.iconst 2, 1) := by decide +kernel
theorem dL_law_1690 : decode cL_law 1690 = .ok (.iadd, 1) := by decide +kernel
theorem dL_law_1691 : decode cL_law 1691 = .ok (.iaload, 1) := by decide +kernel
theorem dL_law_1692 : decode cL_law 1692 = .ok (.aload_n 0, 1) := by decide +kernel
theorem dL_law_1693 : decode cL_law 1693 = .ok (.iload 4, 2) := by decide +kernel
theorem dL_law_1695 : decode cL_law 1695 = .ok (.iconst 3, 1) := by decide +kernel
theorem dL_law_1696 : decode cL_law 1696 = .ok (.iadd, 1) := by decide +kernel
theorem dL_law_1697 : decode cL_law 1697 = .ok (.iaload, 1) := by decide +kernel
theorem dL_law_1698 : decode cL_law 1698 = .ok (.invokevirtual 136, 3) := by decide +kernel
theorem dL_law_1701 : decode cL_law 1701 = .ok (.aload_n 2, 1) := by decide +kernel
theorem dL_law_1702 : decode cL_law 1702 = .ok (.aload_n 0, 1) := by decide +kernel
theorem dL_law_1703 : decode cL_law 1703 = .ok (.iload 4, 2) := by decide +kernel
theorem dL_law_1705 : decode cL_law 1705 = .ok (.iconst 1, 1) := by decide +kernel
theorem dL_law_1706 : decode cL_law 1706 = .ok (.iadd, 1) := by decide +kernel
theorem dL_law_1707 : decode cL_law 1707 = .ok (.iaload, 1) := by decide +kernel
theorem dL_law_1708 : decode cL_law 1708 = .ok (.aload_n 0, 1) := by decide +kernel
theorem dL_law_1709 : decode cL_law 1709 = .ok (.iload 4, 2) := by decide +kernel
theorem dL_law_1711 : decode cL_law 1711 = .ok (.iconst 2, 1) := by decide +kernel
theorem dL_law_1712 : decode cL_law 1712 = .ok (.iadd, 1) := by decide +kernel
theorem dL_law_1713 : decode cL_law 1713 = .ok (.iaload, 1) := by decide +kernel
theorem dL_law_1714 : decode cL_law 1714 = .ok (.aload_n 0, 1) := by decide +kernel
theorem dL_law_1715 : decode cL_law 1715 = .ok (.iload 4, 2) := by decide +kernel
theorem dL_law_1717 : decode cL_law 1717 = .ok (.iconst 3, 1) := by decide +kernel
theorem dL_law_1718 : decode cL_law 1718 = .ok (.iadd, 1) := by decide +kernel
theorem dL_law_1719 : decode cL_law 1719 = .ok (.iaload, 1) := by decide +kernel
theorem dL_law_1720 : decode cL_law 1720 = .ok (.invokevirtual 139, 3) := by decide +kernel
theorem dL_law_1723 : decode cL_law 1723 = .ok (.if_icmp .eq 330, 3) := by decide +kernel
set_option maxHeartbeats 4000000 in
set_option maxRecDepth 100000 in
theorem law_parts (l : Launch) (hst : l.stackTraces = false) {p : Program} {e : Env} {s : State} {m : MethodId} {below : List Frame} {meth : Method} {c : Code} {bs : Nat} {xs : Nat → Int32} (C0 : lw_At p s m meth c bs 6 xs) (dC : Nat → ClassId) (dI : Nat → Nat → Nat) (A : Nat → Prop) (hAe : ∀ q, A q ↔ s.heap.size ≤ q) (xpa : Nat) (b : Nat) (xsp : Nat) (xdy : Nat) (xle : Nat) (xst : Nat) (xim : Nat) (xil : Nat) (xmo : Nat) (xom : Nat) (xwi : Nat) (bto : Nat) (bnm : Nat) (bla : Nat) (bsk : Nat) (bru : Nat) (bbo : Nat) (bdi : Nat) (bda : Nat) (bdk : Nat) (bdt : Nat) (bdp : Nat) (bno : Nat) (bcT : ClassId) (mtp : Nat) (mywords : Nat) (msk : Nat) (mln : Nat) (mlh : Nat) (mfn : Nat) (mfi : Nat) (mla : Nat) (mpn : Nat) (mbo : Nat) (mdi : Nat) (mdn : Nat) (mdo : Nat) (mdh : Nat) (mnn : Nat) (mnh : Nat) (mkn : Nat) (mpt : Nat) (mot : Nat) (mywait : Nat) (myheld : Nat) (mynames : Nat) (myvalue : Nat) (mun : Nat) (mycan : Nat) (myroot : Nat) (myoff : Nat) (mtn : Nat) (mtc : Nat) (mkh : Nat) (mkt : Nat) (mkc : Nat) (x : Nat) (mq : Nat) (o3 : Nat)  (H : Heap) (locs : List Loc) (ls : Array Slot) (hK : va_K (dC, dI) vwCl [(bcT, .int)] s) (hP : va_P (dC, dI) vwCl [(x, .inr (11, [.ref xpa, .ref b, .ref xsp, .ref xdy, .ref xle, .ref xst, .int 0, .ref xim, .ref xil, .int 0, .ref xmo, .ref xom, .ref xwi])), (b, .inr (0, [.ref bto, .ref bnm, .ref bla, .ref bsk, .ref bru, .ref bbo, .ref bdi, .ref bda, .ref bdk, .ref bdt, .ref bdp, .ref bno])), (bto, .inl (bcT, 5, .inl (fun _ => 0))), (mq, .inr (12, [.ref mtp, .int 0, .int 0, .ref mywords, .int 0, .int (-1), .int 0, .int 0, .int 0, .int 0, .int 0, .int 0, .int 0, .int 0, .int 0, .int 0, .int 0, .int 0, .int 0, .int 0, .int 0, .int 0, .int 0, .int 0, .ref msk, .int 0, .int 0, .int 0, .ref mln, .ref mlh, .ref mfn, .ref mfi, .ref mla, .ref mpn, .ref mbo, .ref mdi, .ref mdn, .ref mdo, .ref mdh, .ref mnn, .ref mnh, .ref mkn, .ref mpt, .ref mot, .long 0, .ref mywait, .ref myheld, .int 0, .int 0, .int 0, .int 0, .int 0, .int 0, .long 0, .long 0, .ref mynames, .ref myvalue, .int 0, .int 0, .int 0, .ref mun, .ref mycan, .int 0, .int 0, .int 0, .ref myroot, .ref myoff, .int 0, .ref mtn, .ref mtc, .int 0, .int 0, .int 0, .ref mkh, .ref mkt, .ref mkc]))] H) (hD : va_D A [(x, .inr (11, [.ref xpa, .ref b, .ref xsp, .ref xdy, .ref xle, .ref xst, .int 0, .ref xim, .ref xil, .int 0, .ref xmo, .ref xom, .ref xwi])), (b, .inr (0, [.ref bto, .ref bnm, .ref bla, .ref bsk, .ref bru, .ref bbo, .ref bdi, .ref bda, .ref bdk, .ref bdt, .ref bdp, .ref bno])), (bto, .inl (bcT, 5, .inl (fun _ => 0))), (mq, .inr (12, [.ref mtp, .int 0, .int 0, .ref mywords, .int 0, .int (-1), .int 0, .int 0, .int 0, .int 0, .int 0, .int 0, .int 0, .int 0, .int 0, .int 0, .int 0, .int 0, .int 0, .int 0, .int 0, .int 0, .int 0, .int 0, .ref msk, .int 0, .int 0, .int 0, .ref mln, .ref mlh, .ref mfn, .ref mfi, .ref mla, .ref mpn, .ref mbo, .ref mdi, .ref mdn, .ref mdo, .ref mdh, .ref mnn, .ref mnh, .ref mkn, .ref mpt, .ref mot, .long 0, .ref mywait, .ref myheld, .int 0, .int 0, .int 0, .int 0, .int 0, .int 0, .long 0, .long 0, .ref mynames, .ref myvalue, .int 0, .int 0, .int 0, .ref mun, .ref mycan, .int 0, .int 0, .int 0, .ref myroot, .ref myoff, .int 0, .ref mtn, .ref mtc, .int 0, .int 0, .int 0, .ref mkh, .ref mkt, .ref mkc]))]) (hS : va_S A s.heap H locs) (hl : lv_has ls 7 [(4, .int 0), (3, .ref o3), (2, .ref mq), (1, .ref x), (0, .ref bs)]) : W p l e room_1 s m #[Value.ref bs] below meth c H locs 129 248806 (lw_Z below #[Value.ref bs] s) (F0 m 1679 ls []) := by
  obtain ⟨hx, hb, hr, hml, hown, hts, hX, hbl, hlocks, hgv⟩ := id C0
  have htw : ∀ w ∈ wsL_law, w.before _ s = true := fun w h => hts w (wsL_law_in w h)
  have hown : s.vm.findClass RL = some m.cls := hown
  have hA : ∀ q : Nat, s.heap.size ≤ q → A q := fun q h => (hAe q).mpr h
  have hbA : ¬ A bs := fun h => absurd ((hAe bs).mp h) (Nat.not_le.mpr hbl)
  refine lv_aload_n hx hb dL_law_1679 rfl (lv_at hl 3 rfl) ?_
  refine lv_aload_n hx hb dL_law_1680 rfl (lv_at hl 4 rfl) ?_
  refine lv_iload hx hb dL_law_1681 (lv_at hl 0 rfl) ?_
  refine lv_iconst (v := 1) hx hb dL_law_1683 (by decide) ?_
  refine lv_iadd hx hb dL_law_1684 ?_
  refine lv_topi (fun z_1 ez_1 => ?_)
  obtain rfl : z_1 = 1 := ez_1.trans (by decide)
  refine va_sld hx hb hX hbl hbA hS (by unfold vp_in; decide) dL_law_1685 ?_
  refine lv_topi (fun z_2 ez_2 => ?_)
  obtain rfl : z_2 = xs 1 := ez_2
  refine lv_aload_n hx hb dL_law_1686 rfl (lv_at hl 4 rfl) ?_
  refine lv_iload hx hb dL_law_1687 (lv_at hl 0 rfl) ?_
  refine lv_iconst (v := 2) hx hb dL_law_1689 (by decide) ?_
  refine lv_iadd hx hb dL_law_1690 ?_
  refine lv_topi (fun z_3 ez_3 => ?_)
  obtain rfl : z_3 = 2 := ez_3.trans (by decide)
  refine va_sld hx hb hX hbl hbA hS (by unfold vp_in; decide) dL_law_1691 ?_
  refine lv_topi (fun z_4 ez_4 => ?_)
  obtain rfl : z_4 = xs 2 := ez_4
  refine lv_aload_n hx hb dL_law_1692 rfl (lv_at hl 4 rfl) ?_
  refine lv_iload hx hb dL_law_1693 (lv_at hl 0 rfl) ?_
  refine lv_iconst (v := 3) hx hb dL_law_1695 (by decide) ?_
  refine lv_iadd hx hb dL_law_1696 ?_
  refine lv_topi (fun z_5 ez_5 => ?_)
  obtain rfl : z_5 = 3 := ez_5.trans (by decide)
  refine va_sld hx hb hX hbl hbA hS (by unfold vp_in; decide) dL_law_1697 ?_
  refine lv_topi (fun z_6 ez_6 => ?_)
  obtain rfl : z_6 = xs 3 := ez_6
  have hPc := hP.sub (ws' := [(x, .inr (11, [.ref xpa, .ref b, .ref xsp, .ref xdy, .ref xle, .ref xst, .int 0, .ref xim, .ref xil, .int 0, .ref xmo, .ref xom, .ref xwi])), (b, .inr (0, [.ref bto, .ref bnm, .ref bla, .ref bsk, .ref bru, .ref bbo, .ref bdi, .ref bda, .ref bdk, .ref bdt, .ref bdp, .ref bno])), (bto, .inl (bcT, 5, .inl (fun _ => 0)))]) [0, 1, 2] rfl
  have hKc := hK.sub (tys' := [(bcT, .int)]) [0] rfl
  refine vp_callSi (W.runV (As := [.int (xs 1), .int (xs 2), .int (xs 3)]) (rest := []) ⟨hx, hb, hml, hown, htw⟩ (mx_parts l dC dI x xpa xsp xdy xle xst xim xil xmo xom xwi b bto bnm bla bsk bru bbo bdi bda bdk bdt bdp bno bcT (xs 1) (xs 2) (xs 3)) (cwV 3 htw (xg_V (ck_51 _ (List.mem_of_getElem? (i := 15) rfl)) (ck_51 _ (List.mem_of_getElem? (i := 16) rfl)) (ck_51 _ (List.mem_of_getElem? (i := 17) rfl)) (ck_1 _ (List.mem_of_getElem? (i := 2) rfl)) (ck_51 _ (List.mem_of_getElem? (i := 18) rfl))) rfl rfl rfl (by decide +kernel) ⟨Nat.le_of_ble_eq_true rfl, Nat.le_of_ble_eq_true rfl⟩) ⟨fun a U g mk q => by obtain ⟨q0, qP, qK⟩ := q; exact ⟨q0, qP, va_K.moved (u := U) (U := U.calling g mk a) (Vm.Alike.refl U.vm) qK⟩, va_recv hKc hPc (ci := 11) (q0 := 0) rfl rfl, fun U hU hW => ⟨rfl, by rw [hU]; exact hPc, va_K.moved hW.alike hKc⟩⟩ rfl rfl hl.1 rfl (lv_room (Nat.le_of_ble_eq_true rfl)) dL_law_1698 ⟨Nat.le_of_ble_eq_true rfl, Nat.le_of_ble_eq_true rfl⟩) (fun r_7 hw => ?_)
  try dsimp only at hw
  obtain rfl : r_7 = (-1) := hw
  refine lv_aload_n hx hb dL_law_1701 rfl (lv_at hl 2 rfl) ?_
  refine lv_aload_n hx hb dL_law_1702 rfl (lv_at hl 4 rfl) ?_
  refine lv_iload hx hb dL_law_1703 (lv_at hl 0 rfl) ?_
  refine lv_iconst (v := 1) hx hb dL_law_1705 (by decide) ?_
  refine lv_iadd hx hb dL_law_1706 ?_
  refine lv_topi (fun z_8 ez_8 => ?_)
  obtain rfl : z_8 = 1 := ez_8.trans (by decide)
  refine va_sld hx hb hX hbl hbA hS (by unfold vp_in; decide) dL_law_1707 ?_
  refine lv_topi (fun z_9 ez_9 => ?_)
  obtain rfl : z_9 = xs 1 := ez_9
  refine lv_aload_n hx hb dL_law_1708 rfl (lv_at hl 4 rfl) ?_
  refine lv_iload hx hb dL_law_1709 (lv_at hl 0 rfl) ?_
  refine lv_iconst (v := 2) hx hb dL_law_1711 (by decide) ?_
  refine lv_iadd hx hb dL_law_1712 ?_
  refine lv_topi (fun z_10 ez_10 => ?_)
  obtain rfl : z_10 = 2 := ez_10.trans (by decide)
  refine va_sld hx hb hX hbl hbA hS (by unfold vp_in; decide) dL_law_1713 ?_
  refine lv_topi (fun z_11 ez_11 => ?_)
  obtain rfl : z_11 = xs 2 := ez_11
  refine lv_aload_n hx hb dL_law_1714 rfl (lv_at hl 4 rfl) ?_
  refine lv_iload hx hb dL_law_1715 (lv_at hl 0 rfl) ?_
  refine lv_iconst (v := 3) hx hb dL_law_1717 (by decide) ?_
  refine lv_iadd hx hb dL_law_1718 ?_
  refine lv_topi (fun z_12 ez_12 => ?_)
  obtain rfl : z_12 = 3 := ez_12.trans (by decide)
  refine va_sld hx hb hX hbl hbA hS (by unfold vp_in; decide) dL_law_1719 ?_
  refine lv_topi (fun z_13 ez_13 => ?_)
  obtain rfl : z_13 = xs 3 := ez_13
  have hPc := hP.sub (ws' := [(mq, .inr (12, [.ref mtp, .int 0, .int 0, .ref mywords, .int 0, .int (-1), .int 0, .int 0, .int 0, .int 0, .int 0, .int 0, .int 0, .int 0, .int 0, .int 0, .int 0, .int 0, .int 0, .int 0, .int 0, .int 0, .int 0, .int 0, .ref msk, .int 0, .int 0, .int 0, .ref mln, .ref mlh, .ref mfn, .ref mfi, .ref mla, .ref mpn, .ref mbo, .ref mdi, .ref mdn, .ref mdo, .ref mdh, .ref mnn, .ref mnh, .ref mkn, .ref mpt, .ref mot, .long 0, .ref mywait, .ref myheld, .int 0, .int 0, .int 0, .int 0, .int 0, .int 0, .long 0, .long 0, .ref mynames, .ref myvalue, .int 0, .int 0, .int 0, .ref mun, .ref mycan, .int 0, .int 0, .int 0, .ref myroot, .ref myoff, .int 0, .ref mtn, .ref mtc, .int 0, .int 0, .int 0, .ref mkh, .ref mkt, .ref mkc]))]) [3] rfl
  have hKc := hK.sub (tys' := []) [] rfl
  have hDc := hD.sub (ws' := [(mq, .inr (12, [.ref mtp, .int 0, .int 0, .ref mywords, .int 0, .int (-1), .int 0, .int 0, .int 0, .int 0, .int 0, .int 0, .int 0, .int 0, .int 0, .int 0, .int 0, .int 0, .int 0, .int 0, .int 0, .int 0, .int 0, .int 0, .ref msk, .int 0, .int 0, .int 0, .ref mln, .ref mlh, .ref mfn, .ref mfi, .ref mla, .ref mpn, .ref mbo, .ref mdi, .ref mdn, .ref mdo, .ref mdh, .ref mnn, .ref mnh, .ref mkn, .ref mpt, .ref mot, .long 0, .ref mywait, .ref myheld, .int 0, .int 0, .int 0, .int 0, .int 0, .int 0, .long 0, .long 0, .ref mynames, .ref myvalue, .int 0, .int 0, .int 0, .ref mun, .ref mycan, .int 0, .int 0, .int 0, .ref myroot, .ref myoff, .int 0, .ref mtn, .ref mtc, .int 0, .int 0, .int 0, .ref mkh, .ref mkt, .ref mkc]))]) [3] (by decide) rfl
  have hFc := va_free (wc := [(mq, .inr (12, [.ref mtp, .int 0, .int 0, .ref mywords, .int 0, .int (-1), .int 0, .int 0, .int 0, .int 0, .int 0, .int 0, .int 0, .int 0, .int 0, .int 0, .int 0, .int 0, .int 0, .int 0, .int 0, .int 0, .int 0, .int 0, .ref msk, .int 0, .int 0, .int 0, .ref mln, .ref mlh, .ref mfn, .ref mfi, .ref mla, .ref mpn, .ref mbo, .ref mdi, .ref mdn, .ref mdo, .ref mdh, .ref mnn, .ref mnh, .ref mkn, .ref mpt, .ref mot, .long 0, .ref mywait, .ref myheld, .int 0, .int 0, .int 0, .int 0, .int 0, .int 0, .long 0, .long 0, .ref mynames, .ref myvalue, .int 0, .int 0, .int 0, .ref mun, .ref mycan, .int 0, .int 0, .int 0, .ref myroot, .ref myoff, .int 0, .ref mtn, .ref mtc, .int 0, .int 0, .int 0, .ref mkh, .ref mkt, .ref mkc]))]) hD hS hA [3] rfl
  refine va_calli (va_runV (As := [.int (xs 1), .int (xs 2), .int (xs 3)]) (rest := [.int (-1)]) ⟨hx, hb, hml, hown, htw⟩ (mm_parts l dC dI mq ([.ref mtp, .int 0, .int 0, .ref mywords, .int 0, .int (-1), .int 0, .int 0, .int 0, .int 0, .int 0, .int 0, .int 0, .int 0, .int 0, .int 0, .int 0, .int 0, .int 0, .int 0, .int 0, .int 0, .int 0, .int 0, .ref msk, .int 0, .int 0, .int 0, .ref mln, .ref mlh, .ref mfn, .ref mfi, .ref mla, .ref mpn, .ref mbo, .ref mdi, .ref mdn, .ref mdo, .ref mdh, .ref mnn, .ref mnh, .ref mkn, .ref mpt, .ref mot, .long 0, .ref mywait, .ref myheld, .int 0, .int 0, .int 0, .int 0, .int 0, .int 0, .long 0, .long 0, .ref mynames, .ref myvalue, .int 0, .int 0, .int 0, .ref mun, .ref mycan, .int 0, .int 0, .int 0, .ref myroot, .ref myoff, .int 0, .ref mtn, .ref mtc, .int 0, .int 0, .int 0, .ref mkh, .ref mkt, .ref mkc]) (xs 1) (xs 2) (xs 3) H.size rfl rfl) (cwV 3 htw (xg_V (ck_51 _ (List.mem_of_getElem? (i := 19) rfl)) (ck_51 _ (List.mem_of_getElem? (i := 20) rfl)) (ck_51 _ (List.mem_of_getElem? (i := 21) rfl)) (ck_1 _ (List.mem_of_getElem? (i := 5) rfl)) (ck_51 _ (List.mem_of_getElem? (i := 22) rfl))) rfl rfl rfl (by decide +kernel) ⟨Nat.le_of_ble_eq_true rfl, Nat.le_of_ble_eq_true rfl⟩) ⟨fun a U g mk q => by obtain ⟨q0, q1, qP, qK, qD⟩ := q; exact ⟨q0, q1, qP, va_K.moved (u := U) (U := U.calling g mk a) (Vm.Alike.refl U.vm) qK, qD⟩, va_recv hKc hPc (ci := 12) (q0 := 0) rfl rfl, fun U hU hW => ⟨rfl, by rw [hU], by rw [hU]; exact hPc, va_K.moved hW.alike hKc, hDc.weaken (fun _ _ _ _ => trivial)⟩⟩ rfl rfl hl.1 rfl (lv_room (Nat.le_of_ble_eq_true rfl)) dL_law_1720 ⟨Nat.le_of_ble_eq_true rfl, Nat.le_of_ble_eq_true rfl⟩) hS (fun q _ h => hFc q h) hFc (fun r_14 u_15 t H1 locs ht hvm hw hB hz1 hk1 hS => ?_)
  try dsimp only at hw
  have hP1 : va_P (dC, dI) vwCl [] H1 := fun k q h => by simp at h
  have hD1 : va_D (va_A [(mq, .inr (12, [.ref mtp, .int 0, .int 0, .ref mywords, .int 0, .int (-1), .int 0, .int 0, .int 0, .int 0, .int 0, .int 0, .int 0, .int 0, .int 0, .int 0, .int 0, .int 0, .int 0, .int 0, .int 0, .int 0, .int 0, .int 0, .ref msk, .int 0, .int 0, .int 0, .ref mln, .ref mlh, .ref mfn, .ref mfi, .ref mla, .ref mpn, .ref mbo, .ref mdi, .ref mdn, .ref mdo, .ref mdh, .ref mnn, .ref mnh, .ref mkn, .ref mpt, .ref mot, .long 0, .ref mywait, .ref myheld, .int 0, .int 0, .int 0, .int 0, .int 0, .int 0, .long 0, .long 0, .ref mynames, .ref myvalue, .int 0, .int 0, .int 0, .ref mun, .ref mycan, .int 0, .int 0, .int 0, .ref myroot, .ref myoff, .int 0, .ref mtn, .ref mtc, .int 0, .int 0, .int 0, .ref mkh, .ref mkt, .ref mkc]))] H.size) [] := ⟨fun i j p q h => by simp at h, fun k q h => by simp at h⟩
  obtain ⟨hP, hD⟩ := va_join (wr := [(x, .inr (11, [.ref xpa, .ref b, .ref xsp, .ref xdy, .ref xle, .ref xst, .int 0, .ref xim, .ref xil, .int 0, .ref xmo, .ref xom, .ref xwi])), (b, .inr (0, [.ref bto, .ref bnm, .ref bla, .ref bsk, .ref bru, .ref bbo, .ref bdi, .ref bda, .ref bdk, .ref bdt, .ref bdp, .ref bno])), (bto, .inl (bcT, 5, .inl (fun _ => 0)))]) (w1 := []) hP hD [3] [0, 1, 2] rfl rfl (by decide) (by decide) hk1 hFc hP1 hD1
  generalize H1 = H at hP hS ⊢
  have hP : va_P (dC, dI) vwCl [(x, .inr (11, [.ref xpa, .ref b, .ref xsp, .ref xdy, .ref xle, .ref xst, .int 0, .ref xim, .ref xil, .int 0, .ref xmo, .ref xom, .ref xwi])), (b, .inr (0, [.ref bto, .ref bnm, .ref bla, .ref bsk, .ref bru, .ref bbo, .ref bdi, .ref bda, .ref bdk, .ref bdt, .ref bdp, .ref bno])), (bto, .inl (bcT, 5, .inl (fun _ => 0)))] H := hP
  have hD : va_D A [(x, .inr (11, [.ref xpa, .ref b, .ref xsp, .ref xdy, .ref xle, .ref xst, .int 0, .ref xim, .ref xil, .int 0, .ref xmo, .ref xom, .ref xwi])), (b, .inr (0, [.ref bto, .ref bnm, .ref bla, .ref bsk, .ref bru, .ref bbo, .ref bdi, .ref bda, .ref bdk, .ref bdt, .ref bdp, .ref bno])), (bto, .inl (bcT, 5, .inl (fun _ => 0)))] := hD
  refine W.widen (k := 129) (n := 248806) (by omega) (by omega) ?_
  obtain rfl : r_14 = (-1) := hw
  refine lv_icmp_eq (tgt := 2053) hx hb dL_law_1723 (by decide) (fun _ => ?_) (fun c => absurd c (by decide))
  refine lv_iinc (v := 6) (lv' := [(4, .int 6), (3, .ref o3), (2, .ref mq), (1, .ref x), (0, .ref bs)]) hx hb dL_law_2053 hl (k := 0) rfl (by decide) (by decide) rfl (fun ls hl => ?_)
  refine lv_goto (tgt := 23) hx hb dL_law_2056 (by decide) ?_
  refine lv_iload hx hb dL_law_23 (lv_at hl 0 rfl) ?_
  refine lv_aload_n hx hb dL_law_25 rfl (lv_at hl 4 rfl) ?_
  refine va_slen hx hb hX hbl hbA hS dL_law_26 ?_
  refine lv_topi (fun z_16 ez_16 => ?_)
  obtain rfl : z_16 = 6 := ez_16.trans (by decide)
  refine lv_bipush (v := 6) hx hb dL_law_27 (by decide) ?_
  refine lv_isub hx hb dL_law_29 ?_
  refine lv_topi (fun z_17 ez_17 => ?_)
  obtain rfl : z_17 = 0 := ez_17.trans (by decide)
  refine lv_icmp_gt (tgt := 2059) hx hb dL_law_30 (by decide) (fun _ => ?_) (fun c => absurd c (by decide))
  refine lv_iconst (v := 1) hx hb dL_law_2059 (by decide) ?_
  refine va_forget (fun q hq => (hAe _).mp (hS.2.2 q hq)) ?_
  refine W.widen (k := 600002) (n := 7302232) (by omega) (by omega) ?_
  exact lw_ret hx hb hr hlocks dL_law_2060

theorem dL_law_1728 : decode cL_law 1728 = .ok (.aload_n 1, 1) := by decide +kernel
theorem dL_law_1729 : decode cL_law 1729 = .ok (.aload_n 0, 1) := by decide +kernel
theorem dL_law_1730 : decode cL_law 1730 = .ok (.iload 4, 2) := by decide +kernel
theorem dL_law_1732 : decode cL_law 1732 = .ok (.iconst 1, 1) := by decide +kernel
theorem dL_law_1733 : decode cL_law 1733 = .ok (.iadd, 1) := by decide +kernel
theorem dL_law_1734 : decode cL_law 1734 = .ok (.iaload, 1) := by decide +kernel
theorem dL_law_1735 : decode cL_law 1735 = .ok (.aload_n 0, 1) := by decide +kernel
theorem dL_law_1736 : decode cL_law 1736 = .ok (.iload 4, 2) := by decide +kernel
theorem dL_law_1738 : decode cL_law 1738 = .ok (.iconst 2, 1) := by decide +kernel
theorem dL_law_1739 : decode cL_law 1739 = .ok (.iadd, 1) := by decide +kernel
theorem dL_law_1740 : decode cL_law 1740 = .ok (.iaload, 1) := by decide +kernel
theorem dL_law_1741 : decode cL_law 1741 = .ok (.aload_n 0, 1) := by decide +kernel
theorem dL_law_1742 : decode cL_law 1742 = .ok (.iload 4, 2) := by decide +kernel
theorem dL_law_1744 : decode cL_law 1744 = .ok (.iconst 3, 1) := by decide +kernel
theorem dL_law_1745 : decode cL_law 1745 = .ok (.iadd, 1) := by decide +kernel
theorem dL_law_1746 : decode cL_law 1746 = .ok (.iaload, 1) := by decide +kernel
theorem dL_law_1747 : decode cL_law 1747 = .ok (.invokevirtual 140, 3) := by decide +kernel
theorem dL_law_1750 : decode cL_law 1750 = .ok (.aload_n 2, 1) := by decide +kernel
theorem dL_law_1751 : decode cL_law 1751 = .ok (.aload_n 0, 1) := by decide +kernel
theorem dL_law_1752 : decode cL_law 1752 = .ok (.iload 4, 2) := by decide +kernel
theorem dL_law_1754 : decode cL_law 1754 = .ok (.iconst 1, 1) := by decide +kernel
theorem dL_law_1755 : decode cL_law 1755 = .ok (.iadd, 1) := by decide +kernel
theorem dL_law_1756 : decode cL_law 1756 = .ok (.iaload, 1) := by decide +kernel
theorem dL_law_1757 : decode cL_law 1757 = .ok (.aload_n 0, 1) := by decide +kernel
theorem dL_law_1758 : decode cL_law 1758 = .ok (.iload 4, 2) := by decide +kernel
theorem dL_law_1760 : decode cL_law 1760 = .ok (.iconst 2, 1) := by decide +kernel
theorem dL_law_1761 : decode cL_law 1761 = .ok (.iadd, 1) := by decide +kernel
theorem dL_law_1762 : decode cL_law 1762 = .ok (.iaload, 1) := by decide +kernel
theorem dL_law_1763 : decode cL_law 1763 = .ok (.aload_n 0, 1) := by decide +kernel
theorem dL_law_1764 : decode cL_law 1764 = .ok (.iload 4, 2) := by decide +kernel
theorem dL_law_1766 : decode cL_law 1766 = .ok (.iconst 3, 1) := by decide +kernel
theorem dL_law_1767 : decode cL_law 1767 = .ok (.iadd, 1) := by decide +kernel
theorem dL_law_1768 : decode cL_law 1768 = .ok (.iaload, 1) := by decide +kernel
theorem dL_law_1769 : decode cL_law 1769 = .ok (.invokevirtual 143, 3) := by decide +kernel
theorem dL_law_1772 : decode cL_law 1772 = .ok (.if_icmp .eq 281, 3) := by decide +kernel
set_option maxHeartbeats 4000000 in
set_option maxRecDepth 100000 in
theorem law_months (l : Launch) (hst : l.stackTraces = false) {p : Program} {e : Env} {s : State} {m : MethodId} {below : List Frame} {meth : Method} {c : Code} {bs : Nat} {xs : Nat → Int32} (C0 : lw_At p s m meth c bs 6 xs) (dC : Nat → ClassId) (dI : Nat → Nat → Nat) (A : Nat → Prop) (hAe : ∀ q, A q ↔ s.heap.size ≤ q) (xpa : Nat) (b : Nat) (xsp : Nat) (xdy : Nat) (xle : Nat) (xst : Nat) (xim : Nat) (xil : Nat) (xmo : Nat) (xom : Nat) (xwi : Nat) (bto : Nat) (bnm : Nat) (bla : Nat) (bsk : Nat) (bru : Nat) (bbo : Nat) (bdi : Nat) (bda : Nat) (bdk : Nat) (bdt : Nat) (bdp : Nat) (bno : Nat) (bcT : ClassId) (mtp : Nat) (mywords : Nat) (msk : Nat) (mln : Nat) (mlh : Nat) (mfn : Nat) (mfi : Nat) (mla : Nat) (mpn : Nat) (mbo : Nat) (mdi : Nat) (mdn : Nat) (mdo : Nat) (mdh : Nat) (mnn : Nat) (mnh : Nat) (mkn : Nat) (mpt : Nat) (mot : Nat) (mywait : Nat) (myheld : Nat) (mynames : Nat) (myvalue : Nat) (mun : Nat) (mycan : Nat) (myroot : Nat) (myoff : Nat) (mtn : Nat) (mtc : Nat) (mkh : Nat) (mkt : Nat) (mkc : Nat) (x : Nat) (mq : Nat) (o3 : Nat)  (H : Heap) (locs : List Loc) (ls : Array Slot) (hK : va_K (dC, dI) vwCl [(bcT, .int)] s) (hP : va_P (dC, dI) vwCl [(x, .inr (11, [.ref xpa, .ref b, .ref xsp, .ref xdy, .ref xle, .ref xst, .int 0, .ref xim, .ref xil, .int 0, .ref xmo, .ref xom, .ref xwi])), (b, .inr (0, [.ref bto, .ref bnm, .ref bla, .ref bsk, .ref bru, .ref bbo, .ref bdi, .ref bda, .ref bdk, .ref bdt, .ref bdp, .ref bno])), (bto, .inl (bcT, 5, .inl (fun _ => 0))), (mq, .inr (12, [.ref mtp, .int 0, .int 0, .ref mywords, .int 0, .int (-1), .int 0, .int 0, .int 0, .int 0, .int 0, .int 0, .int 0, .int 0, .int 0, .int 0, .int 0, .int 0, .int 0, .int 0, .int 0, .int 0, .int 0, .int 0, .ref msk, .int 0, .int 0, .int 0, .ref mln, .ref mlh, .ref mfn, .ref mfi, .ref mla, .ref mpn, .ref mbo, .ref mdi, .ref mdn, .ref mdo, .ref mdh, .ref mnn, .ref mnh, .ref mkn, .ref mpt, .ref mot, .long 0, .ref mywait, .ref myheld, .int 0, .int 0, .int 0, .int 0, .int 0, .int 0, .long 0, .long 0, .ref mynames, .ref myvalue, .int 0, .int 0, .int 0, .ref mun, .ref mycan, .int 0, .int 0, .int 0, .ref myroot, .ref myoff, .int 0, .ref mtn, .ref mtc, .int 0, .int 0, .int 0, .ref mkh, .ref mkt, .ref mkc]))] H) (hD : va_D A [(x, .inr (11, [.ref xpa, .ref b, .ref xsp, .ref xdy, .ref xle, .ref xst, .int 0, .ref xim, .ref xil, .int 0, .ref xmo, .ref xom, .ref xwi])), (b, .inr (0, [.ref bto, .ref bnm, .ref bla, .ref bsk, .ref bru, .ref bbo, .ref bdi, .ref bda, .ref bdk, .ref bdt, .ref bdp, .ref bno])), (bto, .inl (bcT, 5, .inl (fun _ => 0))), (mq, .inr (12, [.ref mtp, .int 0, .int 0, .ref mywords, .int 0, .int (-1), .int 0, .int 0, .int 0, .int 0, .int 0, .int 0, .int 0, .int 0, .int 0, .int 0, .int 0, .int 0, .int 0, .int 0, .int 0, .int 0, .int 0, .int 0, .ref msk, .int 0, .int 0, .int 0, .ref mln, .ref mlh, .ref mfn, .ref mfi, .ref mla, .ref mpn, .ref mbo, .ref mdi, .ref mdn, .ref mdo, .ref mdh, .ref mnn, .ref mnh, .ref mkn, .ref mpt, .ref mot, .long 0, .ref mywait, .ref myheld, .int 0, .int 0, .int 0, .int 0, .int 0, .int 0, .long 0, .long 0, .ref mynames, .ref myvalue, .int 0, .int 0, .int 0, .ref mun, .ref mycan, .int 0, .int 0, .int 0, .ref myroot, .ref myoff, .int 0, .ref mtn, .ref mtc, .int 0, .int 0, .int 0, .ref mkh, .ref mkt, .ref mkc]))]) (hS : va_S A s.heap H locs) (hl : lv_has ls 7 [(4, .int 0), (3, .ref o3), (2, .ref mq), (1, .ref x), (0, .ref bs)]) : W p l e room_1 s m #[Value.ref bs] below meth c H locs 129 248806 (lw_Z below #[Value.ref bs] s) (F0 m 1728 ls []) := by
  obtain ⟨hx, hb, hr, hml, hown, hts, hX, hbl, hlocks, hgv⟩ := id C0
  have htw : ∀ w ∈ wsL_law, w.before _ s = true := fun w h => hts w (wsL_law_in w h)
  have hown : s.vm.findClass RL = some m.cls := hown
  have hA : ∀ q : Nat, s.heap.size ≤ q → A q := fun q h => (hAe q).mpr h
  have hbA : ¬ A bs := fun h => absurd ((hAe bs).mp h) (Nat.not_le.mpr hbl)
  refine lv_aload_n hx hb dL_law_1728 rfl (lv_at hl 3 rfl) ?_
  refine lv_aload_n hx hb dL_law_1729 rfl (lv_at hl 4 rfl) ?_
  refine lv_iload hx hb dL_law_1730 (lv_at hl 0 rfl) ?_
  refine lv_iconst (v := 1) hx hb dL_law_1732 (by decide) ?_
  refine lv_iadd hx hb dL_law_1733 ?_
  refine lv_topi (fun z_1 ez_1 => ?_)
  obtain rfl : z_1 = 1 := ez_1.trans (by decide)
  refine va_sld hx hb hX hbl hbA hS (by unfold vp_in; decide) dL_law_1734 ?_
  refine lv_topi (fun z_2 ez_2 => ?_)
  obtain rfl : z_2 = xs 1 := ez_2
  refine lv_aload_n hx hb dL_law_1735 rfl (lv_at hl 4 rfl) ?_
  refine lv_iload hx hb dL_law_1736 (lv_at hl 0 rfl) ?_
  refine lv_iconst (v := 2) hx hb dL_law_1738 (by decide) ?_
  refine lv_iadd hx hb dL_law_1739 ?_
  refine lv_topi (fun z_3 ez_3 => ?_)
  obtain rfl : z_3 = 2 := ez_3.trans (by decide)
  refine va_sld hx hb hX hbl hbA hS (by unfold vp_in; decide) dL_law_1740 ?_
  refine lv_topi (fun z_4 ez_4 => ?_)
  obtain rfl : z_4 = xs 2 := ez_4
  refine lv_aload_n hx hb dL_law_1741 rfl (lv_at hl 4 rfl) ?_
  refine lv_iload hx hb dL_law_1742 (lv_at hl 0 rfl) ?_
  refine lv_iconst (v := 3) hx hb dL_law_1744 (by decide) ?_
  refine lv_iadd hx hb dL_law_1745 ?_
  refine lv_topi (fun z_5 ez_5 => ?_)
  obtain rfl : z_5 = 3 := ez_5.trans (by decide)
  refine va_sld hx hb hX hbl hbA hS (by unfold vp_in; decide) dL_law_1746 ?_
  refine lv_topi (fun z_6 ez_6 => ?_)
  obtain rfl : z_6 = xs 3 := ez_6
  have hPc := hP.sub (ws' := [(x, .inr (11, [.ref xpa, .ref b, .ref xsp, .ref xdy, .ref xle, .ref xst, .int 0, .ref xim, .ref xil, .int 0, .ref xmo, .ref xom, .ref xwi])), (b, .inr (0, [.ref bto, .ref bnm, .ref bla, .ref bsk, .ref bru, .ref bbo, .ref bdi, .ref bda, .ref bdk, .ref bdt, .ref bdp, .ref bno])), (bto, .inl (bcT, 5, .inl (fun _ => 0)))]) [0, 1, 2] rfl
  have hKc := hK.sub (tys' := [(bcT, .int)]) [0] rfl
  refine vp_callSi (W.runV (As := [.int (xs 1), .int (xs 2), .int (xs 3)]) (rest := []) ⟨hx, hb, hml, hown, htw⟩ (mx_months l dC dI x xpa xsp xdy xle xst xim xil xmo xom xwi b bto bnm bla bsk bru bbo bdi bda bdk bdt bdp bno bcT (xs 1) (xs 2) (xs 3)) (cwV 3 htw (xg_V (ck_51 _ (List.mem_of_getElem? (i := 23) rfl)) (ck_52 _ (List.mem_of_getElem? (i := 0) rfl)) (ck_52 _ (List.mem_of_getElem? (i := 1) rfl)) (ck_1 _ (List.mem_of_getElem? (i := 2) rfl)) (ck_52 _ (List.mem_of_getElem? (i := 2) rfl))) rfl rfl rfl (by decide +kernel) ⟨Nat.le_of_ble_eq_true rfl, Nat.le_of_ble_eq_true rfl⟩) ⟨fun a U g mk q => by obtain ⟨q0, qP, qK⟩ := q; exact ⟨q0, qP, va_K.moved (u := U) (U := U.calling g mk a) (Vm.Alike.refl U.vm) qK⟩, va_recv hKc hPc (ci := 11) (q0 := 0) rfl rfl, fun U hU hW => ⟨rfl, by rw [hU]; exact hPc, va_K.moved hW.alike hKc⟩⟩ rfl rfl hl.1 rfl (lv_room (Nat.le_of_ble_eq_true rfl)) dL_law_1747 ⟨Nat.le_of_ble_eq_true rfl, Nat.le_of_ble_eq_true rfl⟩) (fun r_7 hw => ?_)
  try dsimp only at hw
  obtain rfl : r_7 = (-1) := hw
  refine lv_aload_n hx hb dL_law_1750 rfl (lv_at hl 2 rfl) ?_
  refine lv_aload_n hx hb dL_law_1751 rfl (lv_at hl 4 rfl) ?_
  refine lv_iload hx hb dL_law_1752 (lv_at hl 0 rfl) ?_
  refine lv_iconst (v := 1) hx hb dL_law_1754 (by decide) ?_
  refine lv_iadd hx hb dL_law_1755 ?_
  refine lv_topi (fun z_8 ez_8 => ?_)
  obtain rfl : z_8 = 1 := ez_8.trans (by decide)
  refine va_sld hx hb hX hbl hbA hS (by unfold vp_in; decide) dL_law_1756 ?_
  refine lv_topi (fun z_9 ez_9 => ?_)
  obtain rfl : z_9 = xs 1 := ez_9
  refine lv_aload_n hx hb dL_law_1757 rfl (lv_at hl 4 rfl) ?_
  refine lv_iload hx hb dL_law_1758 (lv_at hl 0 rfl) ?_
  refine lv_iconst (v := 2) hx hb dL_law_1760 (by decide) ?_
  refine lv_iadd hx hb dL_law_1761 ?_
  refine lv_topi (fun z_10 ez_10 => ?_)
  obtain rfl : z_10 = 2 := ez_10.trans (by decide)
  refine va_sld hx hb hX hbl hbA hS (by unfold vp_in; decide) dL_law_1762 ?_
  refine lv_topi (fun z_11 ez_11 => ?_)
  obtain rfl : z_11 = xs 2 := ez_11
  refine lv_aload_n hx hb dL_law_1763 rfl (lv_at hl 4 rfl) ?_
  refine lv_iload hx hb dL_law_1764 (lv_at hl 0 rfl) ?_
  refine lv_iconst (v := 3) hx hb dL_law_1766 (by decide) ?_
  refine lv_iadd hx hb dL_law_1767 ?_
  refine lv_topi (fun z_12 ez_12 => ?_)
  obtain rfl : z_12 = 3 := ez_12.trans (by decide)
  refine va_sld hx hb hX hbl hbA hS (by unfold vp_in; decide) dL_law_1768 ?_
  refine lv_topi (fun z_13 ez_13 => ?_)
  obtain rfl : z_13 = xs 3 := ez_13
  have hPc := hP.sub (ws' := [(mq, .inr (12, [.ref mtp, .int 0, .int 0, .ref mywords, .int 0, .int (-1), .int 0, .int 0, .int 0, .int 0, .int 0, .int 0, .int 0, .int 0, .int 0, .int 0, .int 0, .int 0, .int 0, .int 0, .int 0, .int 0, .int 0, .int 0, .ref msk, .int 0, .int 0, .int 0, .ref mln, .ref mlh, .ref mfn, .ref mfi, .ref mla, .ref mpn, .ref mbo, .ref mdi, .ref mdn, .ref mdo, .ref mdh, .ref mnn, .ref mnh, .ref mkn, .ref mpt, .ref mot, .long 0, .ref mywait, .ref myheld, .int 0, .int 0, .int 0, .int 0, .int 0, .int 0, .long 0, .long 0, .ref mynames, .ref myvalue, .int 0, .int 0, .int 0, .ref mun, .ref mycan, .int 0, .int 0, .int 0, .ref myroot, .ref myoff, .int 0, .ref mtn, .ref mtc, .int 0, .int 0, .int 0, .ref mkh, .ref mkt, .ref mkc]))]) [3] rfl
  have hKc := hK.sub (tys' := []) [] rfl
  have hDc := hD.sub (ws' := [(mq, .inr (12, [.ref mtp, .int 0, .int 0, .ref mywords, .int 0, .int (-1), .int 0, .int 0, .int 0, .int 0, .int 0, .int 0, .int 0, .int 0, .int 0, .int 0, .int 0, .int 0, .int 0, .int 0, .int 0, .int 0, .int 0, .int 0, .ref msk, .int 0, .int 0, .int 0, .ref mln, .ref mlh, .ref mfn, .ref mfi, .ref mla, .ref mpn, .ref mbo, .ref mdi, .ref mdn, .ref mdo, .ref mdh, .ref mnn, .ref mnh, .ref mkn, .ref mpt, .ref mot, .long 0, .ref mywait, .ref myheld, .int 0, .int 0, .int 0, .int 0, .int 0, .int 0, .long 0, .long 0, .ref mynames, .ref myvalue, .int 0, .int 0, .int 0, .ref mun, .ref mycan, .int 0, .int 0, .int 0, .ref myroot, .ref myoff, .int 0, .ref mtn, .ref mtc, .int 0, .int 0, .int 0, .ref mkh, .ref mkt, .ref mkc]))]) [3] (by decide) rfl
  have hFc := va_free (wc := [(mq, .inr (12, [.ref mtp, .int 0, .int 0, .ref mywords, .int 0, .int (-1), .int 0, .int 0, .int 0, .int 0, .int 0, .int 0, .int 0, .int 0, .int 0, .int 0, .int 0, .int 0, .int 0, .int 0, .int 0, .int 0, .int 0, .int 0, .ref msk, .int 0, .int 0, .int 0, .ref mln, .ref mlh, .ref mfn, .ref mfi, .ref mla, .ref mpn, .ref mbo, .ref mdi, .ref mdn, .ref mdo, .ref mdh, .ref mnn, .ref mnh, .ref mkn, .ref mpt, .ref mot, .long 0, .ref mywait, .ref myheld, .int 0, .int 0, .int 0, .int 0, .int 0, .int 0, .long 0, .long 0, .ref mynames, .ref myvalue, .int 0, .int 0, .int 0, .ref mun, .ref mycan, .int 0, .int 0, .int 0, .ref myroot, .ref myoff, .int 0, .ref mtn, .ref mtc, .int 0, .int 0, .int 0, .ref mkh, .ref mkt, .ref mkc]))]) hD hS hA [3] rfl
  refine va_calli (va_runV (As := [.int (xs 1), .int (xs 2), .int (xs 3)]) (rest := [.int (-1)]) ⟨hx, hb, hml, hown, htw⟩ (mm_months l dC dI mq ([.ref mtp, .int 0, .int 0, .ref mywords, .int 0, .int (-1), .int 0, .int 0, .int 0, .int 0, .int 0, .int 0, .int 0, .int 0, .int 0, .int 0, .int 0, .int 0, .int 0, .int 0, .int 0, .int 0, .int 0, .int 0, .ref msk, .int 0, .int 0, .int 0, .ref mln, .ref mlh, .ref mfn, .ref mfi, .ref mla, .ref mpn, .ref mbo, .ref mdi, .ref mdn, .ref mdo, .ref mdh, .ref mnn, .ref mnh, .ref mkn, .ref mpt, .ref mot, .long 0, .ref mywait, .ref myheld, .int 0, .int 0, .int 0, .int 0, .int 0, .int 0, .long 0, .long 0, .ref mynames, .ref myvalue, .int 0, .int 0, .int 0, .ref mun, .ref mycan, .int 0, .int 0, .int 0, .ref myroot, .ref myoff, .int 0, .ref mtn, .ref mtc, .int 0, .int 0, .int 0, .ref mkh, .ref mkt, .ref mkc]) (xs 1) (xs 2) (xs 3) H.size rfl rfl) (cwV 3 htw (xg_V (ck_52 _ (List.mem_of_getElem? (i := 3) rfl)) (ck_52 _ (List.mem_of_getElem? (i := 4) rfl)) (ck_52 _ (List.mem_of_getElem? (i := 5) rfl)) (ck_1 _ (List.mem_of_getElem? (i := 5) rfl)) (ck_52 _ (List.mem_of_getElem? (i := 6) rfl))) rfl rfl rfl (by decide +kernel) ⟨Nat.le_of_ble_eq_true rfl, Nat.le_of_ble_eq_true rfl⟩) ⟨fun a U g mk q => by obtain ⟨q0, q1, qP, qK, qD⟩ := q; exact ⟨q0, q1, qP, va_K.moved (u := U) (U := U.calling g mk a) (Vm.Alike.refl U.vm) qK, qD⟩, va_recv hKc hPc (ci := 12) (q0 := 0) rfl rfl, fun U hU hW => ⟨rfl, by rw [hU], by rw [hU]; exact hPc, va_K.moved hW.alike hKc, hDc.weaken (fun _ _ _ _ => trivial)⟩⟩ rfl rfl hl.1 rfl (lv_room (Nat.le_of_ble_eq_true rfl)) dL_law_1769 ⟨Nat.le_of_ble_eq_true rfl, Nat.le_of_ble_eq_true rfl⟩) hS (fun q _ h => hFc q h) hFc (fun r_14 u_15 t H1 locs ht hvm hw hB hz1 hk1 hS => ?_)
  try dsimp only at hw
  have hP1 : va_P (dC, dI) vwCl [] H1 := fun k q h => by simp at h
  have hD1 : va_D (va_A [(mq, .inr (12, [.ref mtp, .int 0, .int 0, .ref mywords, .int 0, .int (-1), .int 0, .int 0, .int 0, .int 0, .int 0, .int 0, .int 0, .int 0, .int 0, .int 0, .int 0, .int 0, .int 0, .int 0, .int 0, .int 0, .int 0, .int 0, .ref msk, .int 0, .int 0, .int 0, .ref mln, .ref mlh, .ref mfn, .ref mfi, .ref mla, .ref mpn, .ref mbo, .ref mdi, .ref mdn, .ref mdo, .ref mdh, .ref mnn, .ref mnh, .ref mkn, .ref mpt, .ref mot, .long 0, .ref mywait, .ref myheld, .int 0, .int 0, .int 0, .int 0, .int 0, .int 0, .long 0, .long 0, .ref mynames, .ref myvalue, .int 0, .int 0, .int 0, .ref mun, .ref mycan, .int 0, .int 0, .int 0, .ref myroot, .ref myoff, .int 0, .ref mtn, .ref mtc, .int 0, .int 0, .int 0, .ref mkh, .ref mkt, .ref mkc]))] H.size) [] := ⟨fun i j p q h => by simp at h, fun k q h => by simp at h⟩
  obtain ⟨hP, hD⟩ := va_join (wr := [(x, .inr (11, [.ref xpa, .ref b, .ref xsp, .ref xdy, .ref xle, .ref xst, .int 0, .ref xim, .ref xil, .int 0, .ref xmo, .ref xom, .ref xwi])), (b, .inr (0, [.ref bto, .ref bnm, .ref bla, .ref bsk, .ref bru, .ref bbo, .ref bdi, .ref bda, .ref bdk, .ref bdt, .ref bdp, .ref bno])), (bto, .inl (bcT, 5, .inl (fun _ => 0)))]) (w1 := []) hP hD [3] [0, 1, 2] rfl rfl (by decide) (by decide) hk1 hFc hP1 hD1
  generalize H1 = H at hP hS ⊢
  have hP : va_P (dC, dI) vwCl [(x, .inr (11, [.ref xpa, .ref b, .ref xsp, .ref xdy, .ref xle, .ref xst, .int 0, .ref xim, .ref xil, .int 0, .ref xmo, .ref xom, .ref xwi])), (b, .inr (0, [.ref bto, .ref bnm, .ref bla, .ref bsk, .ref bru, .ref bbo, .ref bdi, .ref bda, .ref bdk, .ref bdt, .ref bdp, .ref bno])), (bto, .inl (bcT, 5, .inl (fun _ => 0)))] H := hP
  have hD : va_D A [(x, .inr (11, [.ref xpa, .ref b, .ref xsp, .ref xdy, .ref xle, .ref xst, .int 0, .ref xim, .ref xil, .int 0, .ref xmo, .ref xom, .ref xwi])), (b, .inr (0, [.ref bto, .ref bnm, .ref bla, .ref bsk, .ref bru, .ref bbo, .ref bdi, .ref bda, .ref bdk, .ref bdt, .ref bdp, .ref bno])), (bto, .inl (bcT, 5, .inl (fun _ => 0)))] := hD
  refine W.widen (k := 129) (n := 248806) (by omega) (by omega) ?_
  obtain rfl : r_14 = (-1) := hw
  refine lv_icmp_eq (tgt := 2053) hx hb dL_law_1772 (by decide) (fun _ => ?_) (fun c => absurd c (by decide))
  refine lv_iinc (v := 6) (lv' := [(4, .int 6), (3, .ref o3), (2, .ref mq), (1, .ref x), (0, .ref bs)]) hx hb dL_law_2053 hl (k := 0) rfl (by decide) (by decide) rfl (fun ls hl => ?_)
  refine lv_goto (tgt := 23) hx hb dL_law_2056 (by decide) ?_
  refine lv_iload hx hb dL_law_23 (lv_at hl 0 rfl) ?_
  refine lv_aload_n hx hb dL_law_25 rfl (lv_at hl 4 rfl) ?_
  refine va_slen hx hb hX hbl hbA hS dL_law_26 ?_
  refine lv_topi (fun z_16 ez_16 => ?_)
  obtain rfl : z_16 = 6 := ez_16.trans (by decide)
  refine lv_bipush (v := 6) hx hb dL_law_27 (by decide) ?_
  refine lv_isub hx hb dL_law_29 ?_
  refine lv_topi (fun z_17 ez_17 => ?_)
  obtain rfl : z_17 = 0 := ez_17.trans (by decide)
  refine lv_icmp_gt (tgt := 2059) hx hb dL_law_30 (by decide) (fun _ => ?_) (fun c => absurd c (by decide))
  refine lv_iconst (v := 1) hx hb dL_law_2059 (by decide) ?_
  refine va_forget (fun q hq => (hAe _).mp (hS.2.2 q hq)) ?_
  refine W.widen (k := 600002) (n := 7302232) (by omega) (by omega) ?_
  exact lw_ret hx hb hr hlocks dL_law_2060

theorem dL_law_1777 : decode cL_law 1777 = .ok (.aload_n 1, 1) := by decide +kernel
theorem dL_law_1778 : decode cL_law 1778 = .ok (.invokevirtual 144, 3) := by decide +kernel
theorem dL_law_1781 : decode cL_law 1781 = .ok (.aload_n 2, 1) := by decide +kernel
theorem dL_law_1782 : decode cL_law 1782 = .ok (.invokevirtual 147, 3) := by decide +kernel
theorem dL_law_1785 : decode cL_law 1785 = .ok (.if_icmp .eq 268, 3) := by decide +kernel
set_option maxHeartbeats 4000000 in
set_option maxRecDepth 100000 in
theorem law_note (l : Launch) (hst : l.stackTraces = false) {p : Program} {e : Env} {s : State} {m : MethodId} {below : List Frame} {meth : Method} {c : Code} {bs : Nat} {xs : Nat → Int32} (C0 : lw_At p s m meth c bs 6 xs) (dC : Nat → ClassId) (dI : Nat → Nat → Nat) (A : Nat → Prop) (hAe : ∀ q, A q ↔ s.heap.size ≤ q) (xpa : Nat) (b : Nat) (xsp : Nat) (xdy : Nat) (xle : Nat) (xst : Nat) (xim : Nat) (xil : Nat) (xmo : Nat) (xom : Nat) (xwi : Nat) (bto : Nat) (bnm : Nat) (bla : Nat) (bsk : Nat) (bru : Nat) (bbo : Nat) (bdi : Nat) (bda : Nat) (bdk : Nat) (bdt : Nat) (bdp : Nat) (bno : Nat) (bnos : Nat) (bnof : Nat) (bnoz : Nat) (cN0 : ClassId) (dro : Nat) (dsh : Nat) (dto : Nat) (dmo : Nat) (dwi : Nat) (cP : ClassId) (mtp : Nat) (mywords : Nat) (msk : Nat) (mln : Nat) (mlh : Nat) (mfn : Nat) (mfi : Nat) (mla : Nat) (mpn : Nat) (mbo : Nat) (mdi : Nat) (mdn : Nat) (mdo : Nat) (mdh : Nat) (mnn : Nat) (mnh : Nat) (mkn : Nat) (mpt : Nat) (mot : Nat) (mywait : Nat) (myheld : Nat) (mynames : Nat) (myvalue : Nat) (mun : Nat) (mycan : Nat) (myroot : Nat) (myoff : Nat) (mtn : Nat) (mtc : Nat) (mkh : Nat) (mkt : Nat) (mkc : Nat) (cmnh : ClassId) (cmun : ClassId) (gmnh : Nat → Int32) (x : Nat) (mq : Nat) (o3 : Nat)  (H : Heap) (locs : List Loc) (ls : Array Slot) (hK : va_K (dC, dI) vwCl [(cN0, .int), (cP, .int), (cmnh, .int), (cmun, .int)] s) (hP : va_P (dC, dI) vwCl [(x, .inr (11, [.ref xpa, .ref b, .ref xsp, .ref xdy, .ref xle, .ref xst, .int 0, .ref xim, .ref xil, .int 0, .ref xmo, .ref xom, .ref xwi])), (b, .inr (0, [.ref bto, .ref bnm, .ref bla, .ref bsk, .ref bru, .ref bbo, .ref bdi, .ref bda, .ref bdk, .ref bdt, .ref bdp, .ref bno])), (bno, .inr (6, [.int 0, .ref bnos, .ref bnof, .ref bnoz])), (bnos, .inl (cN0, 12, .inl (fun _ => 0))), (xst, .inl (cP, 108, .inl (fun _ => 0))), (xdy, .inr (5, [.ref dro, .int 0, .ref dsh, .ref dto, .ref dmo, .ref dwi])), (mq, .inr (12, [.ref mtp, .int 0, .int 0, .ref mywords, .int 0, .int (-1), .int 0, .int 0, .int 0, .int 0, .int 0, .int 0, .int 0, .int 0, .int 0, .int 0, .int 0, .int 0, .int 0, .int 0, .int 0, .int 0, .int 0, .int 0, .ref msk, .int 0, .int 0, .int 0, .ref mln, .ref mlh, .ref mfn, .ref mfi, .ref mla, .ref mpn, .ref mbo, .ref mdi, .ref mdn, .ref mdo, .ref mdh, .ref mnn, .ref mnh, .ref mkn, .ref mpt, .ref mot, .long 0, .ref mywait, .ref myheld, .int 0, .int 0, .int 0, .int 0, .int 0, .int 0, .long 0, .long 0, .ref mynames, .ref myvalue, .int 0, .int 0, .int 0, .ref mun, .ref mycan, .int 0, .int 0, .int 0, .ref myroot, .ref myoff, .int 0, .ref mtn, .ref mtc, .int 0, .int 0, .int 0, .ref mkh, .ref mkt, .ref mkc])), (mnh, .inl (cmnh, 264, .inl gmnh)), (mun, .inl (cmun, 128, .inl (fun _ => 0)))] H) (hD : va_D A [(x, .inr (11, [.ref xpa, .ref b, .ref xsp, .ref xdy, .ref xle, .ref xst, .int 0, .ref xim, .ref xil, .int 0, .ref xmo, .ref xom, .ref xwi])), (b, .inr (0, [.ref bto, .ref bnm, .ref bla, .ref bsk, .ref bru, .ref bbo, .ref bdi, .ref bda, .ref bdk, .ref bdt, .ref bdp, .ref bno])), (bno, .inr (6, [.int 0, .ref bnos, .ref bnof, .ref bnoz])), (bnos, .inl (cN0, 12, .inl (fun _ => 0))), (xst, .inl (cP, 108, .inl (fun _ => 0))), (xdy, .inr (5, [.ref dro, .int 0, .ref dsh, .ref dto, .ref dmo, .ref dwi])), (mq, .inr (12, [.ref mtp, .int 0, .int 0, .ref mywords, .int 0, .int (-1), .int 0, .int 0, .int 0, .int 0, .int 0, .int 0, .int 0, .int 0, .int 0, .int 0, .int 0, .int 0, .int 0, .int 0, .int 0, .int 0, .int 0, .int 0, .ref msk, .int 0, .int 0, .int 0, .ref mln, .ref mlh, .ref mfn, .ref mfi, .ref mla, .ref mpn, .ref mbo, .ref mdi, .ref mdn, .ref mdo, .ref mdh, .ref mnn, .ref mnh, .ref mkn, .ref mpt, .ref mot, .long 0, .ref mywait, .ref myheld, .int 0, .int 0, .int 0, .int 0, .int 0, .int 0, .long 0, .long 0, .ref mynames, .ref myvalue, .int 0, .int 0, .int 0, .ref mun, .ref mycan, .int 0, .int 0, .int 0, .ref myroot, .ref myoff, .int 0, .ref mtn, .ref mtc, .int 0, .int 0, .int 0, .ref mkh, .ref mkt, .ref mkc])), (mnh, .inl (cmnh, 264, .inl gmnh)), (mun, .inl (cmun, 128, .inl (fun _ => 0)))]) (hS : va_S A s.heap H locs) (hl : lv_has ls 7 [(4, .int 0), (3, .ref o3), (2, .ref mq), (1, .ref x), (0, .ref bs)]) : W p l e room_1 s m #[Value.ref bs] below meth c H locs 129 248806 (lw_Z below #[Value.ref bs] s) (F0 m 1777 ls []) := by
  obtain ⟨hx, hb, hr, hml, hown, hts, hX, hbl, hlocks, hgv⟩ := id C0
  have htw : ∀ w ∈ wsL_law, w.before _ s = true := fun w h => hts w (wsL_law_in w h)
  have hown : s.vm.findClass RL = some m.cls := hown
  have hA : ∀ q : Nat, s.heap.size ≤ q → A q := fun q h => (hAe q).mpr h
  have hbA : ¬ A bs := fun h => absurd ((hAe bs).mp h) (Nat.not_le.mpr hbl)
  refine lv_aload_n hx hb dL_law_1777 rfl (lv_at hl 3 rfl) ?_
  have hPc := hP.sub (ws' := [(x, .inr (11, [.ref xpa, .ref b, .ref xsp, .ref xdy, .ref xle, .ref xst, .int 0, .ref xim, .ref xil, .int 0, .ref xmo, .ref xom, .ref xwi])), (b, .inr (0, [.ref bto, .ref bnm, .ref bla, .ref bsk, .ref bru, .ref bbo, .ref bdi, .ref bda, .ref bdk, .ref bdt, .ref bdp, .ref bno])), (bno, .inr (6, [.int 0, .ref bnos, .ref bnof, .ref bnoz])), (bnos, .inl (cN0, 12, .inl (fun _ => 0))), (xst, .inl (cP, 108, .inl (fun _ => 0))), (xdy, .inr (5, [.ref dro, .int 0, .ref dsh, .ref dto, .ref dmo, .ref dwi]))]) [0, 1, 2, 3, 4, 5] rfl
  have hKc := hK.sub (tys' := [(cN0, .int), (cP, .int)]) [0, 1] rfl
  have hDc := hD.sub (ws' := [(x, .inr (11, [.ref xpa, .ref b, .ref xsp, .ref xdy, .ref xle, .ref xst, .int 0, .ref xim, .ref xil, .int 0, .ref xmo, .ref xom, .ref xwi])), (b, .inr (0, [.ref bto, .ref bnm, .ref bla, .ref bsk, .ref bru, .ref bbo, .ref bdi, .ref bda, .ref bdk, .ref bdt, .ref bdp, .ref bno])), (bno, .inr (6, [.int 0, .ref bnos, .ref bnof, .ref bnoz])), (bnos, .inl (cN0, 12, .inl (fun _ => 0))), (xst, .inl (cP, 108, .inl (fun _ => 0))), (xdy, .inr (5, [.ref dro, .int 0, .ref dsh, .ref dto, .ref dmo, .ref dwi]))]) [0, 1, 2, 3, 4, 5] (by decide) rfl
  have hFc := va_free (wc := [(x, .inr (11, [.ref xpa, .ref b, .ref xsp, .ref xdy, .ref xle, .ref xst, .int 0, .ref xim, .ref xil, .int 0, .ref xmo, .ref xom, .ref xwi])), (b, .inr (0, [.ref bto, .ref bnm, .ref bla, .ref bsk, .ref bru, .ref bbo, .ref bdi, .ref bda, .ref bdk, .ref bdt, .ref bdp, .ref bno])), (bno, .inr (6, [.int 0, .ref bnos, .ref bnof, .ref bnoz])), (bnos, .inl (cN0, 12, .inl (fun _ => 0))), (xst, .inl (cP, 108, .inl (fun _ => 0))), (xdy, .inr (5, [.ref dro, .int 0, .ref dsh, .ref dto, .ref dmo, .ref dwi]))]) hD hS hA [0, 1, 2, 3, 4, 5] rfl
  refine va_calli (va_runV (As := []) (rest := []) ⟨hx, hb, hml, hown, htw⟩ (mx_note l dC dI x xpa xsp xdy xle xst xim xil xmo xom xwi b bto bnm bla bsk bru bbo bdi bda bdk bdt bdp bno bnos bnof bnoz dro dsh dto dmo dwi cN0 (fun _ => 0) cP (fun _ => 0) H.size) (cwV 0 htw (xg_V (ck_52 _ (List.mem_of_getElem? (i := 7) rfl)) (ck_52 _ (List.mem_of_getElem? (i := 8) rfl)) (ck_52 _ (List.mem_of_getElem? (i := 9) rfl)) (ck_1 _ (List.mem_of_getElem? (i := 2) rfl)) (ck_52 _ (List.mem_of_getElem? (i := 10) rfl))) rfl rfl rfl (by decide +kernel) ⟨Nat.le_of_ble_eq_true rfl, Nat.le_of_ble_eq_true rfl⟩) ⟨fun a U g mk q => by obtain ⟨q0, q1, qP, qK, qD⟩ := q; exact ⟨q0, q1, qP, va_K.moved (u := U) (U := U.calling g mk a) (Vm.Alike.refl U.vm) qK, qD⟩, va_recv hKc hPc (ci := 11) (q0 := 0) rfl rfl, fun U hU hW => ⟨rfl, by rw [hU], by rw [hU]; exact hPc, va_K.moved hW.alike hKc, hDc.weaken (fun _ _ _ _ => trivial)⟩⟩ rfl rfl hl.1 rfl (lv_room (Nat.le_of_ble_eq_true rfl)) dL_law_1778 ⟨Nat.le_of_ble_eq_true rfl, Nat.le_of_ble_eq_true rfl⟩) hS (fun q _ h => hFc q h) hFc (fun r_1 u_2 t H1 locs ht hvm hw hB hz1 hk1 hS => ?_)
  try dsimp only at hw
  have hP1 : va_P (dC, dI) vwCl [] H1 := fun k q h => by simp at h
  have hD1 : va_D (va_A [(x, .inr (11, [.ref xpa, .ref b, .ref xsp, .ref xdy, .ref xle, .ref xst, .int 0, .ref xim, .ref xil, .int 0, .ref xmo, .ref xom, .ref xwi])), (b, .inr (0, [.ref bto, .ref bnm, .ref bla, .ref bsk, .ref bru, .ref bbo, .ref bdi, .ref bda, .ref bdk, .ref bdt, .ref bdp, .ref bno])), (bno, .inr (6, [.int 0, .ref bnos, .ref bnof, .ref bnoz])), (bnos, .inl (cN0, 12, .inl (fun _ => 0))), (xst, .inl (cP, 108, .inl (fun _ => 0))), (xdy, .inr (5, [.ref dro, .int 0, .ref dsh, .ref dto, .ref dmo, .ref dwi]))] H.size) [] := ⟨fun i j p q h => by simp at h, fun k q h => by simp at h⟩
  obtain ⟨hP, hD⟩ := va_join (wr := [(mq, .inr (12, [.ref mtp, .int 0, .int 0, .ref mywords, .int 0, .int (-1), .int 0, .int 0, .int 0, .int 0, .int 0, .int 0, .int 0, .int 0, .int 0, .int 0, .int 0, .int 0, .int 0, .int 0, .int 0, .int 0, .int 0, .int 0, .ref msk, .int 0, .int 0, .int 0, .ref mln, .ref mlh, .ref mfn, .ref mfi, .ref mla, .ref mpn, .ref mbo, .ref mdi, .ref mdn, .ref mdo, .ref mdh, .ref mnn, .ref mnh, .ref mkn, .ref mpt, .ref mot, .long 0, .ref mywait, .ref myheld, .int 0, .int 0, .int 0, .int 0, .int 0, .int 0, .long 0, .long 0, .ref mynames, .ref myvalue, .int 0, .int 0, .int 0, .ref mun, .ref mycan, .int 0, .int 0, .int 0, .ref myroot, .ref myoff, .int 0, .ref mtn, .ref mtc, .int 0, .int 0, .int 0, .ref mkh, .ref mkt, .ref mkc])), (mnh, .inl (cmnh, 264, .inl gmnh)), (mun, .inl (cmun, 128, .inl (fun _ => 0)))]) (w1 := []) hP hD [0, 1, 2, 3, 4, 5] [6, 7, 8] rfl rfl (by decide) (by decide) hk1 hFc hP1 hD1
  generalize H1 = H at hP hS ⊢
  have hP : va_P (dC, dI) vwCl [(mq, .inr (12, [.ref mtp, .int 0, .int 0, .ref mywords, .int 0, .int (-1), .int 0, .int 0, .int 0, .int 0, .int 0, .int 0, .int 0, .int 0, .int 0, .int 0, .int 0, .int 0, .int 0, .int 0, .int 0, .int 0, .int 0, .int 0, .ref msk, .int 0, .int 0, .int 0, .ref mln, .ref mlh, .ref mfn, .ref mfi, .ref mla, .ref mpn, .ref mbo, .ref mdi, .ref mdn, .ref mdo, .ref mdh, .ref mnn, .ref mnh, .ref mkn, .ref mpt, .ref mot, .long 0, .ref mywait, .ref myheld, .int 0, .int 0, .int 0, .int 0, .int 0, .int 0, .long 0, .long 0, .ref mynames, .ref myvalue, .int 0, .int 0, .int 0, .ref mun, .ref mycan, .int 0, .int 0, .int 0, .ref myroot, .ref myoff, .int 0, .ref mtn, .ref mtc, .int 0, .int 0, .int 0, .ref mkh, .ref mkt, .ref mkc])), (mnh, .inl (cmnh, 264, .inl gmnh)), (mun, .inl (cmun, 128, .inl (fun _ => 0)))] H := hP
  have hD : va_D A [(mq, .inr (12, [.ref mtp, .int 0, .int 0, .ref mywords, .int 0, .int (-1), .int 0, .int 0, .int 0, .int 0, .int 0, .int 0, .int 0, .int 0, .int 0, .int 0, .int 0, .int 0, .int 0, .int 0, .int 0, .int 0, .int 0, .int 0, .ref msk, .int 0, .int 0, .int 0, .ref mln, .ref mlh, .ref mfn, .ref mfi, .ref mla, .ref mpn, .ref mbo, .ref mdi, .ref mdn, .ref mdo, .ref mdh, .ref mnn, .ref mnh, .ref mkn, .ref mpt, .ref mot, .long 0, .ref mywait, .ref myheld, .int 0, .int 0, .int 0, .int 0, .int 0, .int 0, .long 0, .long 0, .ref mynames, .ref myvalue, .int 0, .int 0, .int 0, .ref mun, .ref mycan, .int 0, .int 0, .int 0, .ref myroot, .ref myoff, .int 0, .ref mtn, .ref mtc, .int 0, .int 0, .int 0, .ref mkh, .ref mkt, .ref mkc])), (mnh, .inl (cmnh, 264, .inl gmnh)), (mun, .inl (cmun, 128, .inl (fun _ => 0)))] := hD
  refine W.widen (k := 129) (n := 248806) (by omega) (by omega) ?_
  obtain rfl : r_1 = 0 := hw
  refine lv_aload_n hx hb dL_law_1781 rfl (lv_at hl 2 rfl) ?_
  have hPc := hP.sub (ws' := [(mq, .inr (12, [.ref mtp, .int 0, .int 0, .ref mywords, .int 0, .int (-1), .int 0, .int 0, .int 0, .int 0, .int 0, .int 0, .int 0, .int 0, .int 0, .int 0, .int 0, .int 0, .int 0, .int 0, .int 0, .int 0, .int 0, .int 0, .ref msk, .int 0, .int 0, .int 0, .ref mln, .ref mlh, .ref mfn, .ref mfi, .ref mla, .ref mpn, .ref mbo, .ref mdi, .ref mdn, .ref mdo, .ref mdh, .ref mnn, .ref mnh, .ref mkn, .ref mpt, .ref mot, .long 0, .ref mywait, .ref myheld, .int 0, .int 0, .int 0, .int 0, .int 0, .int 0, .long 0, .long 0, .ref mynames, .ref myvalue, .int 0, .int 0, .int 0, .ref mun, .ref mycan, .int 0, .int 0, .int 0, .ref myroot, .ref myoff, .int 0, .ref mtn, .ref mtc, .int 0, .int 0, .int 0, .ref mkh, .ref mkt, .ref mkc])), (mnh, .inl (cmnh, 264, .inl gmnh)), (mun, .inl (cmun, 128, .inl (fun _ => 0)))]) [0, 1, 2] rfl
  have hKc := hK.sub (tys' := [(cmnh, .int), (cmun, .int)]) [2, 3] rfl
  have hDc := hD.sub (ws' := [(mq, .inr (12, [.ref mtp, .int 0, .int 0, .ref mywords, .int 0, .int (-1), .int 0, .int 0, .int 0, .int 0, .int 0, .int 0, .int 0, .int 0, .int 0, .int 0, .int 0, .int 0, .int 0, .int 0, .int 0, .int 0, .int 0, .int 0, .ref msk, .int 0, .int 0, .int 0, .ref mln, .ref mlh, .ref mfn, .ref mfi, .ref mla, .ref mpn, .ref mbo, .ref mdi, .ref mdn, .ref mdo, .ref mdh, .ref mnn, .ref mnh, .ref mkn, .ref mpt, .ref mot, .long 0, .ref mywait, .ref myheld, .int 0, .int 0, .int 0, .int 0, .int 0, .int 0, .long 0, .long 0, .ref mynames, .ref myvalue, .int 0, .int 0, .int 0, .ref mun, .ref mycan, .int 0, .int 0, .int 0, .ref myroot, .ref myoff, .int 0, .ref mtn, .ref mtc, .int 0, .int 0, .int 0, .ref mkh, .ref mkt, .ref mkc])), (mnh, .inl (cmnh, 264, .inl gmnh)), (mun, .inl (cmun, 128, .inl (fun _ => 0)))]) [0, 1, 2] (by decide) rfl
  have hFc := va_free (wc := [(mq, .inr (12, [.ref mtp, .int 0, .int 0, .ref mywords, .int 0, .int (-1), .int 0, .int 0, .int 0, .int 0, .int 0, .int 0, .int 0, .int 0, .int 0, .int 0, .int 0, .int 0, .int 0, .int 0, .int 0, .int 0, .int 0, .int 0, .ref msk, .int 0, .int 0, .int 0, .ref mln, .ref mlh, .ref mfn, .ref mfi, .ref mla, .ref mpn, .ref mbo, .ref mdi, .ref mdn, .ref mdo, .ref mdh, .ref mnn, .ref mnh, .ref mkn, .ref mpt, .ref mot, .long 0, .ref mywait, .ref myheld, .int 0, .int 0, .int 0, .int 0, .int 0, .int 0, .long 0, .long 0, .ref mynames, .ref myvalue, .int 0, .int 0, .int 0, .ref mun, .ref mycan, .int 0, .int 0, .int 0, .ref myroot, .ref myoff, .int 0, .ref mtn, .ref mtc, .int 0, .int 0, .int 0, .ref mkh, .ref mkt, .ref mkc])), (mnh, .inl (cmnh, 264, .inl gmnh)), (mun, .inl (cmun, 128, .inl (fun _ => 0)))]) hD hS hA [0, 1, 2] rfl
  refine va_calli (va_runV (As := []) (rest := [.int 0]) ⟨hx, hb, hml, hown, htw⟩ (mm_note l dC dI mq ([.ref mtp, .int 0, .int 0, .ref mywords, .int 0, .int (-1), .int 0, .int 0, .int 0, .int 0, .int 0, .int 0, .int 0, .int 0, .int 0, .int 0, .int 0, .int 0, .int 0, .int 0, .int 0, .int 0, .int 0, .int 0, .ref msk, .int 0, .int 0, .int 0, .ref mln, .ref mlh, .ref mfn, .ref mfi, .ref mla, .ref mpn, .ref mbo, .ref mdi, .ref mdn, .ref mdo, .ref mdh, .ref mnn, .ref mnh, .ref mkn, .ref mpt, .ref mot, .long 0, .ref mywait, .ref myheld, .int 0, .int 0, .int 0, .int 0, .int 0, .int 0, .long 0, .long 0, .ref mynames, .ref myvalue, .int 0, .int 0, .int 0, .ref mun, .ref mycan, .int 0, .int 0, .int 0, .ref myroot, .ref myoff, .int 0, .ref mtn, .ref mtc, .int 0, .int 0, .int 0, .ref mkh, .ref mkt, .ref mkc]) mnh mun cmnh gmnh cmun (fun _ => 0) H.size rfl rfl rfl rfl rfl) (cwV 0 htw (xg_V (ck_52 _ (List.mem_of_getElem? (i := 14) rfl)) (ck_52 _ (List.mem_of_getElem? (i := 15) rfl)) (ck_52 _ (List.mem_of_getElem? (i := 16) rfl)) (ck_1 _ (List.mem_of_getElem? (i := 5) rfl)) (ck_52 _ (List.mem_of_getElem? (i := 17) rfl))) rfl rfl rfl (by decide +kernel) ⟨Nat.le_of_ble_eq_true rfl, Nat.le_of_ble_eq_true rfl⟩) ⟨fun a U g mk q => by obtain ⟨q0, q1, qP, qK, qD⟩ := q; exact ⟨q0, q1, qP, va_K.moved (u := U) (U := U.calling g mk a) (Vm.Alike.refl U.vm) qK, qD⟩, va_recv hKc hPc (ci := 12) (q0 := 0) rfl rfl, fun U hU hW => ⟨rfl, by rw [hU], by rw [hU]; exact hPc, va_K.moved hW.alike hKc, hDc.weaken (fun _ _ _ _ => trivial)⟩⟩ rfl rfl hl.1 rfl (lv_room (Nat.le_of_ble_eq_true rfl)) dL_law_1782 ⟨Nat.le_of_ble_eq_true rfl, Nat.le_of_ble_eq_true rfl⟩) hS (fun q _ h => hFc q h) hFc (fun r_3 u_4 t H1 locs ht hvm hw hB hz1 hk1 hS => ?_)
  try dsimp only at hw
  have hP1 : va_P (dC, dI) vwCl [] H1 := fun k q h => by simp at h
  have hD1 : va_D (va_A [(mq, .inr (12, [.ref mtp, .int 0, .int 0, .ref mywords, .int 0, .int (-1), .int 0, .int 0, .int 0, .int 0, .int 0, .int 0, .int 0, .int 0, .int 0, .int 0, .int 0, .int 0, .int 0, .int 0, .int 0, .int 0, .int 0, .int 0, .ref msk, .int 0, .int 0, .int 0, .ref mln, .ref mlh, .ref mfn, .ref mfi, .ref mla, .ref mpn, .ref mbo, .ref mdi, .ref mdn, .ref mdo, .ref mdh, .ref mnn, .ref mnh, .ref mkn, .ref mpt, .ref mot, .long 0, .ref mywait, .ref myheld, .int 0, .int 0, .int 0, .int 0, .int 0, .int 0, .long 0, .long 0, .ref mynames, .ref myvalue, .int 0, .int 0, .int 0, .ref mun, .ref mycan, .int 0, .int 0, .int 0, .ref myroot, .ref myoff, .int 0, .ref mtn, .ref mtc, .int 0, .int 0, .int 0, .ref mkh, .ref mkt, .ref mkc])), (mnh, .inl (cmnh, 264, .inl gmnh)), (mun, .inl (cmun, 128, .inl (fun _ => 0)))] H.size) [] := ⟨fun i j p q h => by simp at h, fun k q h => by simp at h⟩
  obtain ⟨hP, hD⟩ := va_join (wr := []) (w1 := []) hP hD [0, 1, 2] [] rfl rfl (by decide) (by decide) hk1 hFc hP1 hD1
  generalize H1 = H at hP hS ⊢
  have hP : va_P (dC, dI) vwCl [] H := hP
  have hD : va_D A [] := hD
  refine W.widen (k := 129) (n := 248806) (by omega) (by omega) ?_
  obtain rfl : r_3 = 0 := hw
  refine lv_icmp_eq (tgt := 2053) hx hb dL_law_1785 (by decide) (fun _ => ?_) (fun c => absurd c (by decide))
  refine lv_iinc (v := 6) (lv' := [(4, .int 6), (3, .ref o3), (2, .ref mq), (1, .ref x), (0, .ref bs)]) hx hb dL_law_2053 hl (k := 0) rfl (by decide) (by decide) rfl (fun ls hl => ?_)
  refine lv_goto (tgt := 23) hx hb dL_law_2056 (by decide) ?_
  refine lv_iload hx hb dL_law_23 (lv_at hl 0 rfl) ?_
  refine lv_aload_n hx hb dL_law_25 rfl (lv_at hl 4 rfl) ?_
  refine va_slen hx hb hX hbl hbA hS dL_law_26 ?_
  refine lv_topi (fun z_5 ez_5 => ?_)
  obtain rfl : z_5 = 6 := ez_5.trans (by decide)
  refine lv_bipush (v := 6) hx hb dL_law_27 (by decide) ?_
  refine lv_isub hx hb dL_law_29 ?_
  refine lv_topi (fun z_6 ez_6 => ?_)
  obtain rfl : z_6 = 0 := ez_6.trans (by decide)
  refine lv_icmp_gt (tgt := 2059) hx hb dL_law_30 (by decide) (fun _ => ?_) (fun c => absurd c (by decide))
  refine lv_iconst (v := 1) hx hb dL_law_2059 (by decide) ?_
  refine va_forget (fun q hq => (hAe _).mp (hS.2.2 q hq)) ?_
  refine W.widen (k := 600002) (n := 7302232) (by omega) (by omega) ?_
  exact lw_ret hx hb hr hlocks dL_law_2060

theorem dL_law_1790 : decode cL_law 1790 = .ok (.aload_n 1, 1) := by decide +kernel
theorem dL_law_1791 : decode cL_law 1791 = .ok (.aload_n 0, 1) := by decide +kernel
theorem dL_law_1792 : decode cL_law 1792 = .ok (.iload 4, 2) := by decide +kernel
theorem dL_law_1794 : decode cL_law 1794 = .ok (.iconst 1, 1) := by decide +kernel
theorem dL_law_1795 : decode cL_law 1795 = .ok (.iadd, 1) := by decide +kernel
theorem dL_law_1796 : decode cL_law 1796 = .ok (.iaload, 1) := by decide +kernel
theorem dL_law_1797 : decode cL_law 1797 = .ok (.aload_n 0, 1) := by decide +kernel
theorem dL_law_1798 : decode cL_law 1798 = .ok (.iload 4, 2) := by decide +kernel
theorem dL_law_1800 : decode cL_law 1800 = .ok (.iconst 2, 1) := by decide +kernel
theorem dL_law_1801 : decode cL_law 1801 = .ok (.iadd, 1) := by decide +kernel
theorem dL_law_1802 : decode cL_law 1802 = .ok (.iaload, 1) := by decide +kernel
theorem dL_law_1803 : decode cL_law 1803 = .ok (.aload_n 0, 1) := by decide +kernel
theorem dL_law_1804 : decode cL_law 1804 = .ok (.iload 4, 2) := by decide +kernel
theorem dL_law_1806 : decode cL_law 1806 = .ok (.iconst 3, 1) := by decide +kernel
theorem dL_law_1807 : decode cL_law 1807 = .ok (.iadd, 1) := by decide +kernel
theorem dL_law_1808 : decode cL_law 1808 = .ok (.iaload, 1) := by decide +kernel
theorem dL_law_1809 : decode cL_law 1809 = .ok (.invokevirtual 148, 3) := by decide +kernel
theorem dL_law_1812 : decode cL_law 1812 = .ok (.aload_n 2, 1) := by decide +kernel
theorem dL_law_1813 : decode cL_law 1813 = .ok (.aload_n 0, 1) := by decide +kernel
theorem dL_law_1814 : decode cL_law 1814 = .ok (.iload 4, 2) := by decide +kernel
theorem dL_law_1816 : decode cL_law 1816 = .ok (.iconst 1, 1) := by decide +kernel
theorem dL_law_1817 : decode cL_law 1817 = .ok (.iadd, 1) := by decide +kernel
theorem dL_law_1818 : decode cL_law 1818 = .ok (.iaload, 1) := by decide +kernel
theorem dL_law_1819 : decode cL_law 1819 = .ok (.aload_n 0, 1) := by decide +kernel
theorem dL_law_1820 : decode cL_law 1820 = .ok (.iload 4, 2) := by decide +kernel
theorem dL_law_1822 : decode cL_law 1822 = .ok (.iconst 2, 1) := by decide +kernel
theorem dL_law_1823 : decode cL_law 1823 = .ok (.iadd, 1) := by decide +kernel
theorem dL_law_1824 : decode cL_law 1824 = .ok (.iaload, 1) := by decide +kernel
theorem dL_law_1825 : decode cL_law 1825 = .ok (.aload_n 0, 1) := by decide +kernel
theorem dL_law_1826 : decode cL_law 1826 = .ok (.iload 4, 2) := by decide +kernel
theorem dL_law_1828 : decode cL_law 1828 = .ok (.iconst 3, 1) := by decide +kernel
theorem dL_law_1829 : decode cL_law 1829 = .ok (.iadd, 1) := by decide +kernel
theorem dL_law_1830 : decode cL_law 1830 = .ok (.iaload, 1) := by decide +kernel
theorem dL_law_1831 : decode cL_law 1831 = .ok (.invokevirtual 152, 3) := by decide +kernel
theorem dL_law_1834 : decode cL_law 1834 = .ok (.if_icmp .eq 219, 3) := by decide +kernel
set_option maxHeartbeats 4000000 in
set_option maxRecDepth 100000 in
theorem law_says (l : Launch) (hst : l.stackTraces = false) {p : Program} {e : Env} {s : State} {m : MethodId} {below : List Frame} {meth : Method} {c : Code} {bs : Nat} {xs : Nat → Int32} (C0 : lw_At p s m meth c bs 6 xs) (dC : Nat → ClassId) (dI : Nat → Nat → Nat) (A : Nat → Prop) (hAe : ∀ q, A q ↔ s.heap.size ≤ q) (xpa : Nat) (b : Nat) (xsp : Nat) (xdy : Nat) (xle : Nat) (xst : Nat) (xim : Nat) (xil : Nat) (xmo : Nat) (xom : Nat) (xwi : Nat) (bto : Nat) (bnm : Nat) (bla : Nat) (bsk : Nat) (bru : Nat) (bbo : Nat) (bdi : Nat) (bda : Nat) (bdk : Nat) (bdt : Nat) (bdp : Nat) (bno : Nat) (bnos : Nat) (bnof : Nat) (bnoz : Nat) (mtp : Nat) (mywords : Nat) (msk : Nat) (mln : Nat) (mlh : Nat) (mfn : Nat) (mfi : Nat) (mla : Nat) (mpn : Nat) (mbo : Nat) (mdi : Nat) (mdn : Nat) (mdo : Nat) (mdh : Nat) (mnn : Nat) (mnh : Nat) (mkn : Nat) (mpt : Nat) (mot : Nat) (mywait : Nat) (myheld : Nat) (mynames : Nat) (myvalue : Nat) (mun : Nat) (mycan : Nat) (myroot : Nat) (myoff : Nat) (mtn : Nat) (mtc : Nat) (mkh : Nat) (mkt : Nat) (mkc : Nat) (x : Nat) (mq : Nat) (o3 : Nat)  (H : Heap) (locs : List Loc) (ls : Array Slot) (hK : va_K (dC, dI) vwCl [] s) (hP : va_P (dC, dI) vwCl [(x, .inr (11, [.ref xpa, .ref b, .ref xsp, .ref xdy, .ref xle, .ref xst, .int 0, .ref xim, .ref xil, .int 0, .ref xmo, .ref xom, .ref xwi])), (b, .inr (0, [.ref bto, .ref bnm, .ref bla, .ref bsk, .ref bru, .ref bbo, .ref bdi, .ref bda, .ref bdk, .ref bdt, .ref bdp, .ref bno])), (bno, .inr (6, [.int 0, .ref bnos, .ref bnof, .ref bnoz])), (mq, .inr (12, [.ref mtp, .int 0, .int 0, .ref mywords, .int 0, .int (-1), .int 0, .int 0, .int 0, .int 0, .int 0, .int 0, .int 0, .int 0, .int 0, .int 0, .int 0, .int 0, .int 0, .int 0, .int 0, .int 0, .int 0, .int 0, .ref msk, .int 0, .int 0, .int 0, .ref mln, .ref mlh, .ref mfn, .ref mfi, .ref mla, .ref mpn, .ref mbo, .ref mdi, .ref mdn, .ref mdo, .ref mdh, .ref mnn, .ref mnh, .ref mkn, .ref mpt, .ref mot, .long 0, .ref mywait, .ref myheld, .int 0, .int 0, .int 0, .int 0, .int 0, .int 0, .long 0, .long 0, .ref mynames, .ref myvalue, .int 0, .int 0, .int 0, .ref mun, .ref mycan, .int 0, .int 0, .int 0, .ref myroot, .ref myoff, .int 0, .ref mtn, .ref mtc, .int 0, .int 0, .int 0, .ref mkh, .ref mkt, .ref mkc]))] H) (hD : va_D A [(x, .inr (11, [.ref xpa, .ref b, .ref xsp, .ref xdy, .ref xle, .ref xst, .int 0, .ref xim, .ref xil, .int 0, .ref xmo, .ref xom, .ref xwi])), (b, .inr (0, [.ref bto, .ref bnm, .ref bla, .ref bsk, .ref bru, .ref bbo, .ref bdi, .ref bda, .ref bdk, .ref bdt, .ref bdp, .ref bno])), (bno, .inr (6, [.int 0, .ref bnos, .ref bnof, .ref bnoz])), (mq, .inr (12, [.ref mtp, .int 0, .int 0, .ref mywords, .int 0, .int (-1), .int 0, .int 0, .int 0, .int 0, .int 0, .int 0, .int 0, .int 0, .int 0, .int 0, .int 0, .int 0, .int 0, .int 0, .int 0, .int 0, .int 0, .int 0, .ref msk, .int 0, .int 0, .int 0, .ref mln, .ref mlh, .ref mfn, .ref mfi, .ref mla, .ref mpn, .ref mbo, .ref mdi, .ref mdn, .ref mdo, .ref mdh, .ref mnn, .ref mnh, .ref mkn, .ref mpt, .ref mot, .long 0, .ref mywait, .ref myheld, .int 0, .int 0, .int 0, .int 0, .int 0, .int 0, .long 0, .long 0, .ref mynames, .ref myvalue, .int 0, .int 0, .int 0, .ref mun, .ref mycan, .int 0, .int 0, .int 0, .ref myroot, .ref myoff, .int 0, .ref mtn, .ref mtc, .int 0, .int 0, .int 0, .ref mkh, .ref mkt, .ref mkc]))]) (hS : va_S A s.heap H locs) (hl : lv_has ls 7 [(4, .int 0), (3, .ref o3), (2, .ref mq), (1, .ref x), (0, .ref bs)]) : W p l e room_1 s m #[Value.ref bs] below meth c H locs 129 248806 (lw_Z below #[Value.ref bs] s) (F0 m 1790 ls []) := by
  obtain ⟨hx, hb, hr, hml, hown, hts, hX, hbl, hlocks, hgv⟩ := id C0
  have htw : ∀ w ∈ wsL_law, w.before _ s = true := fun w h => hts w (wsL_law_in w h)
  have hown : s.vm.findClass RL = some m.cls := hown
  have hA : ∀ q : Nat, s.heap.size ≤ q → A q := fun q h => (hAe q).mpr h
  have hbA : ¬ A bs := fun h => absurd ((hAe bs).mp h) (Nat.not_le.mpr hbl)
  refine lv_aload_n hx hb dL_law_1790 rfl (lv_at hl 3 rfl) ?_
  refine lv_aload_n hx hb dL_law_1791 rfl (lv_at hl 4 rfl) ?_
  refine lv_iload hx hb dL_law_1792 (lv_at hl 0 rfl) ?_
  refine lv_iconst (v := 1) hx hb dL_law_1794 (by decide) ?_
  refine lv_iadd hx hb dL_law_1795 ?_
  refine lv_topi (fun z_1 ez_1 => ?_)
  obtain rfl : z_1 = 1 := ez_1.trans (by decide)
  refine va_sld hx hb hX hbl hbA hS (by unfold vp_in; decide) dL_law_1796 ?_
  refine lv_topi (fun z_2 ez_2 => ?_)
  obtain rfl : z_2 = xs 1 := ez_2
  refine lv_aload_n hx hb dL_law_1797 rfl (lv_at hl 4 rfl) ?_
  refine lv_iload hx hb dL_law_1798 (lv_at hl 0 rfl) ?_
  refine lv_iconst (v := 2) hx hb dL_law_1800 (by decide) ?_
  refine lv_iadd hx hb dL_law_1801 ?_
  refine lv_topi (fun z_3 ez_3 => ?_)
  obtain rfl : z_3 = 2 := ez_3.trans (by decide)
  refine va_sld hx hb hX hbl hbA hS (by unfold vp_in; decide) dL_law_1802 ?_
  refine lv_topi (fun z_4 ez_4 => ?_)
  obtain rfl : z_4 = xs 2 := ez_4
  refine lv_aload_n hx hb dL_law_1803 rfl (lv_at hl 4 rfl) ?_
  refine lv_iload hx hb dL_law_1804 (lv_at hl 0 rfl) ?_
  refine lv_iconst (v := 3) hx hb dL_law_1806 (by decide) ?_
  refine lv_iadd hx hb dL_law_1807 ?_
  refine lv_topi (fun z_5 ez_5 => ?_)
  obtain rfl : z_5 = 3 := ez_5.trans (by decide)
  refine va_sld hx hb hX hbl hbA hS (by unfold vp_in; decide) dL_law_1808 ?_
  refine lv_topi (fun z_6 ez_6 => ?_)
  obtain rfl : z_6 = xs 3 := ez_6
  have hPc := hP.sub (ws' := [(x, .inr (11, [.ref xpa, .ref b, .ref xsp, .ref xdy, .ref xle, .ref xst, .int 0, .ref xim, .ref xil, .int 0, .ref xmo, .ref xom, .ref xwi])), (b, .inr (0, [.ref bto, .ref bnm, .ref bla, .ref bsk, .ref bru, .ref bbo, .ref bdi, .ref bda, .ref bdk, .ref bdt, .ref bdp, .ref bno])), (bno, .inr (6, [.int 0, .ref bnos, .ref bnof, .ref bnoz]))]) [0, 1, 2] rfl
  have hKc := hK.sub (tys' := []) [] rfl
  refine vp_callSi (W.runV (As := [.int (xs 1), .int (xs 2), .int (xs 3)]) (rest := []) ⟨hx, hb, hml, hown, htw⟩ (mx_says l dC dI x xpa xsp xdy xle xst xim xil xmo xom xwi b bto bnm bla bsk bru bbo bdi bda bdk bdt bdp bno bnos bnof bnoz (xs 1) (xs 2) (xs 3)) (cwV 3 htw (xg_V (ck_52 _ (List.mem_of_getElem? (i := 18) rfl)) (ck_52 _ (List.mem_of_getElem? (i := 19) rfl)) (ck_52 _ (List.mem_of_getElem? (i := 20) rfl)) (ck_1 _ (List.mem_of_getElem? (i := 2) rfl)) (ck_52 _ (List.mem_of_getElem? (i := 21) rfl))) rfl rfl rfl (by decide +kernel) ⟨Nat.le_of_ble_eq_true rfl, Nat.le_of_ble_eq_true rfl⟩) ⟨fun a U g mk q => by obtain ⟨q0, qP, qK⟩ := q; exact ⟨q0, qP, va_K.moved (u := U) (U := U.calling g mk a) (Vm.Alike.refl U.vm) qK⟩, va_recv hKc hPc (ci := 11) (q0 := 0) rfl rfl, fun U hU hW => ⟨rfl, by rw [hU]; exact hPc, va_K.moved hW.alike hKc⟩⟩ rfl rfl hl.1 rfl (lv_room (Nat.le_of_ble_eq_true rfl)) dL_law_1809 ⟨Nat.le_of_ble_eq_true rfl, Nat.le_of_ble_eq_true rfl⟩) (fun r_7 hw => ?_)
  try dsimp only at hw
  obtain rfl : r_7 = 0 := hw
  refine lv_aload_n hx hb dL_law_1812 rfl (lv_at hl 2 rfl) ?_
  refine lv_aload_n hx hb dL_law_1813 rfl (lv_at hl 4 rfl) ?_
  refine lv_iload hx hb dL_law_1814 (lv_at hl 0 rfl) ?_
  refine lv_iconst (v := 1) hx hb dL_law_1816 (by decide) ?_
  refine lv_iadd hx hb dL_law_1817 ?_
  refine lv_topi (fun z_8 ez_8 => ?_)
  obtain rfl : z_8 = 1 := ez_8.trans (by decide)
  refine va_sld hx hb hX hbl hbA hS (by unfold vp_in; decide) dL_law_1818 ?_
  refine lv_topi (fun z_9 ez_9 => ?_)
  obtain rfl : z_9 = xs 1 := ez_9
  refine lv_aload_n hx hb dL_law_1819 rfl (lv_at hl 4 rfl) ?_
  refine lv_iload hx hb dL_law_1820 (lv_at hl 0 rfl) ?_
  refine lv_iconst (v := 2) hx hb dL_law_1822 (by decide) ?_
  refine lv_iadd hx hb dL_law_1823 ?_
  refine lv_topi (fun z_10 ez_10 => ?_)
  obtain rfl : z_10 = 2 := ez_10.trans (by decide)
  refine va_sld hx hb hX hbl hbA hS (by unfold vp_in; decide) dL_law_1824 ?_
  refine lv_topi (fun z_11 ez_11 => ?_)
  obtain rfl : z_11 = xs 2 := ez_11
  refine lv_aload_n hx hb dL_law_1825 rfl (lv_at hl 4 rfl) ?_
  refine lv_iload hx hb dL_law_1826 (lv_at hl 0 rfl) ?_
  refine lv_iconst (v := 3) hx hb dL_law_1828 (by decide) ?_
  refine lv_iadd hx hb dL_law_1829 ?_
  refine lv_topi (fun z_12 ez_12 => ?_)
  obtain rfl : z_12 = 3 := ez_12.trans (by decide)
  refine va_sld hx hb hX hbl hbA hS (by unfold vp_in; decide) dL_law_1830 ?_
  refine lv_topi (fun z_13 ez_13 => ?_)
  obtain rfl : z_13 = xs 3 := ez_13
  have hPc := hP.sub (ws' := [(mq, .inr (12, [.ref mtp, .int 0, .int 0, .ref mywords, .int 0, .int (-1), .int 0, .int 0, .int 0, .int 0, .int 0, .int 0, .int 0, .int 0, .int 0, .int 0, .int 0, .int 0, .int 0, .int 0, .int 0, .int 0, .int 0, .int 0, .ref msk, .int 0, .int 0, .int 0, .ref mln, .ref mlh, .ref mfn, .ref mfi, .ref mla, .ref mpn, .ref mbo, .ref mdi, .ref mdn, .ref mdo, .ref mdh, .ref mnn, .ref mnh, .ref mkn, .ref mpt, .ref mot, .long 0, .ref mywait, .ref myheld, .int 0, .int 0, .int 0, .int 0, .int 0, .int 0, .long 0, .long 0, .ref mynames, .ref myvalue, .int 0, .int 0, .int 0, .ref mun, .ref mycan, .int 0, .int 0, .int 0, .ref myroot, .ref myoff, .int 0, .ref mtn, .ref mtc, .int 0, .int 0, .int 0, .ref mkh, .ref mkt, .ref mkc]))]) [3] rfl
  have hKc := hK.sub (tys' := []) [] rfl
  have hDc := hD.sub (ws' := [(mq, .inr (12, [.ref mtp, .int 0, .int 0, .ref mywords, .int 0, .int (-1), .int 0, .int 0, .int 0, .int 0, .int 0, .int 0, .int 0, .int 0, .int 0, .int 0, .int 0, .int 0, .int 0, .int 0, .int 0, .int 0, .int 0, .int 0, .ref msk, .int 0, .int 0, .int 0, .ref mln, .ref mlh, .ref mfn, .ref mfi, .ref mla, .ref mpn, .ref mbo, .ref mdi, .ref mdn, .ref mdo, .ref mdh, .ref mnn, .ref mnh, .ref mkn, .ref mpt, .ref mot, .long 0, .ref mywait, .ref myheld, .int 0, .int 0, .int 0, .int 0, .int 0, .int 0, .long 0, .long 0, .ref mynames, .ref myvalue, .int 0, .int 0, .int 0, .ref mun, .ref mycan, .int 0, .int 0, .int 0, .ref myroot, .ref myoff, .int 0, .ref mtn, .ref mtc, .int 0, .int 0, .int 0, .ref mkh, .ref mkt, .ref mkc]))]) [3] (by decide) rfl
  have hFc := va_free (wc := [(mq, .inr (12, [.ref mtp, .int 0, .int 0, .ref mywords, .int 0, .int (-1), .int 0, .int 0, .int 0, .int 0, .int 0, .int 0, .int 0, .int 0, .int 0, .int 0, .int 0, .int 0, .int 0, .int 0, .int 0, .int 0, .int 0, .int 0, .ref msk, .int 0, .int 0, .int 0, .ref mln, .ref mlh, .ref mfn, .ref mfi, .ref mla, .ref mpn, .ref mbo, .ref mdi, .ref mdn, .ref mdo, .ref mdh, .ref mnn, .ref mnh, .ref mkn, .ref mpt, .ref mot, .long 0, .ref mywait, .ref myheld, .int 0, .int 0, .int 0, .int 0, .int 0, .int 0, .long 0, .long 0, .ref mynames, .ref myvalue, .int 0, .int 0, .int 0, .ref mun, .ref mycan, .int 0, .int 0, .int 0, .ref myroot, .ref myoff, .int 0, .ref mtn, .ref mtc, .int 0, .int 0, .int 0, .ref mkh, .ref mkt, .ref mkc]))]) hD hS hA [3] rfl
  refine va_calli (va_runV (As := [.int (xs 1), .int (xs 2), .int (xs 3)]) (rest := [.int 0]) ⟨hx, hb, hml, hown, htw⟩ (mm_says l dC dI mq ([.ref mtp, .int 0, .int 0, .ref mywords, .int 0, .int (-1), .int 0, .int 0, .int 0, .int 0, .int 0, .int 0, .int 0, .int 0, .int 0, .int 0, .int 0, .int 0, .int 0, .int 0, .int 0, .int 0, .int 0, .int 0, .ref msk, .int 0, .int 0, .int 0, .ref mln, .ref mlh, .ref mfn, .ref mfi, .ref mla, .ref mpn, .ref mbo, .ref mdi, .ref mdn, .ref mdo, .ref mdh, .ref mnn, .ref mnh, .ref mkn, .ref mpt, .ref mot, .long 0, .ref mywait, .ref myheld, .int 0, .int 0, .int 0, .int 0, .int 0, .int 0, .long 0, .long 0, .ref mynames, .ref myvalue, .int 0, .int 0, .int 0, .ref mun, .ref mycan, .int 0, .int 0, .int 0, .ref myroot, .ref myoff, .int 0, .ref mtn, .ref mtc, .int 0, .int 0, .int 0, .ref mkh, .ref mkt, .ref mkc]) (xs 1) (xs 2) (xs 3) H.size rfl rfl) (cwV 3 htw (xg_V (ck_53 _ (List.mem_of_getElem? (i := 6) rfl)) (ck_53 _ (List.mem_of_getElem? (i := 7) rfl)) (ck_53 _ (List.mem_of_getElem? (i := 8) rfl)) (ck_1 _ (List.mem_of_getElem? (i := 5) rfl)) (ck_53 _ (List.mem_of_getElem? (i := 9) rfl))) rfl rfl rfl (by decide +kernel) ⟨Nat.le_of_ble_eq_true rfl, Nat.le_of_ble_eq_true rfl⟩) ⟨fun a U g mk q => by obtain ⟨q0, q1, qP, qK, qD⟩ := q; exact ⟨q0, q1, qP, va_K.moved (u := U) (U := U.calling g mk a) (Vm.Alike.refl U.vm) qK, qD⟩, va_recv hKc hPc (ci := 12) (q0 := 0) rfl rfl, fun U hU hW => ⟨rfl, by rw [hU], by rw [hU]; exact hPc, va_K.moved hW.alike hKc, hDc.weaken (fun _ _ _ _ => trivial)⟩⟩ rfl rfl hl.1 rfl (lv_room (Nat.le_of_ble_eq_true rfl)) dL_law_1831 ⟨Nat.le_of_ble_eq_true rfl, Nat.le_of_ble_eq_true rfl⟩) hS (fun q _ h => hFc q h) hFc (fun r_14 u_15 t H1 locs ht hvm hw hB hz1 hk1 hS => ?_)
  try dsimp only at hw
  have hP1 : va_P (dC, dI) vwCl [] H1 := fun k q h => by simp at h
  have hD1 : va_D (va_A [(mq, .inr (12, [.ref mtp, .int 0, .int 0, .ref mywords, .int 0, .int (-1), .int 0, .int 0, .int 0, .int 0, .int 0, .int 0, .int 0, .int 0, .int 0, .int 0, .int 0, .int 0, .int 0, .int 0, .int 0, .int 0, .int 0, .int 0, .ref msk, .int 0, .int 0, .int 0, .ref mln, .ref mlh, .ref mfn, .ref mfi, .ref mla, .ref mpn, .ref mbo, .ref mdi, .ref mdn, .ref mdo, .ref mdh, .ref mnn, .ref mnh, .ref mkn, .ref mpt, .ref mot, .long 0, .ref mywait, .ref myheld, .int 0, .int 0, .int 0, .int 0, .int 0, .int 0, .long 0, .long 0, .ref mynames, .ref myvalue, .int 0, .int 0, .int 0, .ref mun, .ref mycan, .int 0, .int 0, .int 0, .ref myroot, .ref myoff, .int 0, .ref mtn, .ref mtc, .int 0, .int 0, .int 0, .ref mkh, .ref mkt, .ref mkc]))] H.size) [] := ⟨fun i j p q h => by simp at h, fun k q h => by simp at h⟩
  obtain ⟨hP, hD⟩ := va_join (wr := [(x, .inr (11, [.ref xpa, .ref b, .ref xsp, .ref xdy, .ref xle, .ref xst, .int 0, .ref xim, .ref xil, .int 0, .ref xmo, .ref xom, .ref xwi])), (b, .inr (0, [.ref bto, .ref bnm, .ref bla, .ref bsk, .ref bru, .ref bbo, .ref bdi, .ref bda, .ref bdk, .ref bdt, .ref bdp, .ref bno])), (bno, .inr (6, [.int 0, .ref bnos, .ref bnof, .ref bnoz]))]) (w1 := []) hP hD [3] [0, 1, 2] rfl rfl (by decide) (by decide) hk1 hFc hP1 hD1
  generalize H1 = H at hP hS ⊢
  have hP : va_P (dC, dI) vwCl [(x, .inr (11, [.ref xpa, .ref b, .ref xsp, .ref xdy, .ref xle, .ref xst, .int 0, .ref xim, .ref xil, .int 0, .ref xmo, .ref xom, .ref xwi])), (b, .inr (0, [.ref bto, .ref bnm, .ref bla, .ref bsk, .ref bru, .ref bbo, .ref bdi, .ref bda, .ref bdk, .ref bdt, .ref bdp, .ref bno])), (bno, .inr (6, [.int 0, .ref bnos, .ref bnof, .ref bnoz]))] H := hP
  have hD : va_D A [(x, .inr (11, [.ref xpa, .ref b, .ref xsp, .ref xdy, .ref xle, .ref xst, .int 0, .ref xim, .ref xil, .int 0, .ref xmo, .ref xom, .ref xwi])), (b, .inr (0, [.ref bto, .ref bnm, .ref bla, .ref bsk, .ref bru, .ref bbo, .ref bdi, .ref bda, .ref bdk, .ref bdt, .ref bdp, .ref bno])), (bno, .inr (6, [.int 0, .ref bnos, .ref bnof, .ref bnoz]))] := hD
  refine W.widen (k := 129) (n := 248806) (by omega) (by omega) ?_
  obtain rfl : r_14 = 0 := hw
  refine lv_icmp_eq (tgt := 2053) hx hb dL_law_1834 (by decide) (fun _ => ?_) (fun c => absurd c (by decide))
  refine lv_iinc (v := 6) (lv' := [(4, .int 6), (3, .ref o3), (2, .ref mq), (1, .ref x), (0, .ref bs)]) hx hb dL_law_2053 hl (k := 0) rfl (by decide) (by decide) rfl (fun ls hl => ?_)
  refine lv_goto (tgt := 23) hx hb dL_law_2056 (by decide) ?_
  refine lv_iload hx hb dL_law_23 (lv_at hl 0 rfl) ?_
  refine lv_aload_n hx hb dL_law_25 rfl (lv_at hl 4 rfl) ?_
  refine va_slen hx hb hX hbl hbA hS dL_law_26 ?_
  refine lv_topi (fun z_16 ez_16 => ?_)
  obtain rfl : z_16 = 6 := ez_16.trans (by decide)
  refine lv_bipush (v := 6) hx hb dL_law_27 (by decide) ?_
  refine lv_isub hx hb dL_law_29 ?_
  refine lv_topi (fun z_17 ez_17 => ?_)
  obtain rfl : z_17 = 0 := ez_17.trans (by decide)
  refine lv_icmp_gt (tgt := 2059) hx hb dL_law_30 (by decide) (fun _ => ?_) (fun c => absurd c (by decide))
  refine lv_iconst (v := 1) hx hb dL_law_2059 (by decide) ?_
  refine va_forget (fun q hq => (hAe _).mp (hS.2.2 q hq)) ?_
  refine W.widen (k := 600002) (n := 7302232) (by omega) (by omega) ?_
  exact lw_ret hx hb hr hlocks dL_law_2060

theorem dL_law_1839 : decode cL_law 1839 = .ok (.aload_n 1, 1) := by decide +kernel
theorem dL_law_1840 : decode cL_law 1840 = .ok (.invokevirtual 153, 3) := by decide +kernel
theorem dL_law_1843 : decode cL_law 1843 = .ok (.aload_n 2, 1) := by decide +kernel
theorem dL_law_1844 : decode cL_law 1844 = .ok (.invokevirtual 156, 3) := by decide +kernel
theorem dL_law_1847 : decode cL_law 1847 = .ok (.if_icmp .eq 206, 3) := by decide +kernel
set_option maxHeartbeats 4000000 in
set_option maxRecDepth 100000 in
theorem law_undo (l : Launch) (hst : l.stackTraces = false) {p : Program} {e : Env} {s : State} {m : MethodId} {below : List Frame} {meth : Method} {c : Code} {bs : Nat} {xs : Nat → Int32} (C0 : lw_At p s m meth c bs 6 xs) (dC : Nat → ClassId) (dI : Nat → Nat → Nat) (A : Nat → Prop) (hAe : ∀ q, A q ↔ s.heap.size ≤ q) (xpa : Nat) (b : Nat) (xsp : Nat) (xdy : Nat) (xle : Nat) (xst : Nat) (xim : Nat) (xil : Nat) (xmo : Nat) (xom : Nat) (xwi : Nat) (bto : Nat) (bnm : Nat) (bla : Nat) (bsk : Nat) (bru : Nat) (bbo : Nat) (bdi : Nat) (bda : Nat) (bdk : Nat) (bdt : Nat) (bdp : Nat) (bno : Nat) (bnos : Nat) (bnof : Nat) (bnoz : Nat) (mtp : Nat) (mywords : Nat) (msk : Nat) (mln : Nat) (mlh : Nat) (mfn : Nat) (mfi : Nat) (mla : Nat) (mpn : Nat) (mbo : Nat) (mdi : Nat) (mdn : Nat) (mdo : Nat) (mdh : Nat) (mnn : Nat) (mnh : Nat) (mkn : Nat) (mpt : Nat) (mot : Nat) (mywait : Nat) (myheld : Nat) (mynames : Nat) (myvalue : Nat) (mun : Nat) (mycan : Nat) (myroot : Nat) (myoff : Nat) (mtn : Nat) (mtc : Nat) (mkh : Nat) (mkt : Nat) (mkc : Nat) (x : Nat) (mq : Nat) (o3 : Nat)  (H : Heap) (locs : List Loc) (ls : Array Slot) (hK : va_K (dC, dI) vwCl [] s) (hP : va_P (dC, dI) vwCl [(x, .inr (11, [.ref xpa, .ref b, .ref xsp, .ref xdy, .ref xle, .ref xst, .int 0, .ref xim, .ref xil, .int 0, .ref xmo, .ref xom, .ref xwi])), (b, .inr (0, [.ref bto, .ref bnm, .ref bla, .ref bsk, .ref bru, .ref bbo, .ref bdi, .ref bda, .ref bdk, .ref bdt, .ref bdp, .ref bno])), (bno, .inr (6, [.int 0, .ref bnos, .ref bnof, .ref bnoz])), (mq, .inr (12, [.ref mtp, .int 0, .int 0, .ref mywords, .int 0, .int (-1), .int 0, .int 0, .int 0, .int 0, .int 0, .int 0, .int 0, .int 0, .int 0, .int 0, .int 0, .int 0, .int 0, .int 0, .int 0, .int 0, .int 0, .int 0, .ref msk, .int 0, .int 0, .int 0, .ref mln, .ref mlh, .ref mfn, .ref mfi, .ref mla, .ref mpn, .ref mbo, .ref mdi, .ref mdn, .ref mdo, .ref mdh, .ref mnn, .ref mnh, .ref mkn, .ref mpt, .ref mot, .long 0, .ref mywait, .ref myheld, .int 0, .int 0, .int 0, .int 0, .int 0, .int 0, .long 0, .long 0, .ref mynames, .ref myvalue, .int 0, .int 0, .int 0, .ref mun, .ref mycan, .int 0, .int 0, .int 0, .ref myroot, .ref myoff, .int 0, .ref mtn, .ref mtc, .int 0, .int 0, .int 0, .ref mkh, .ref mkt, .ref mkc]))] H) (hD : va_D A [(x, .inr (11, [.ref xpa, .ref b, .ref xsp, .ref xdy, .ref xle, .ref xst, .int 0, .ref xim, .ref xil, .int 0, .ref xmo, .ref xom, .ref xwi])), (b, .inr (0, [.ref bto, .ref bnm, .ref bla, .ref bsk, .ref bru, .ref bbo, .ref bdi, .ref bda, .ref bdk, .ref bdt, .ref bdp, .ref bno])), (bno, .inr (6, [.int 0, .ref bnos, .ref bnof, .ref bnoz])), (mq, .inr (12, [.ref mtp, .int 0, .int 0, .ref mywords, .int 0, .int (-1), .int 0, .int 0, .int 0, .int 0, .int 0, .int 0, .int 0, .int 0, .int 0, .int 0, .int 0, .int 0, .int 0, .int 0, .int 0, .int 0, .int 0, .int 0, .ref msk, .int 0, .int 0, .int 0, .ref mln, .ref mlh, .ref mfn, .ref mfi, .ref mla, .ref mpn, .ref mbo, .ref mdi, .ref mdn, .ref mdo, .ref mdh, .ref mnn, .ref mnh, .ref mkn, .ref mpt, .ref mot, .long 0, .ref mywait, .ref myheld, .int 0, .int 0, .int 0, .int 0, .int 0, .int 0, .long 0, .long 0, .ref mynames, .ref myvalue, .int 0, .int 0, .int 0, .ref mun, .ref mycan, .int 0, .int 0, .int 0, .ref myroot, .ref myoff, .int 0, .ref mtn, .ref mtc, .int 0, .int 0, .int 0, .ref mkh, .ref mkt, .ref mkc]))]) (hS : va_S A s.heap H locs) (hl : lv_has ls 7 [(4, .int 0), (3, .ref o3), (2, .ref mq), (1, .ref x), (0, .ref bs)]) : W p l e room_1 s m #[Value.ref bs] below meth c H locs 129 248806 (lw_Z below #[Value.ref bs] s) (F0 m 1839 ls []) := by
  obtain ⟨hx, hb, hr, hml, hown, hts, hX, hbl, hlocks, hgv⟩ := id C0
  have htw : ∀ w ∈ wsL_law, w.before _ s = true := fun w h => hts w (wsL_law_in w h)
  have hown : s.vm.findClass RL = some m.cls := hown
  have hA : ∀ q : Nat, s.heap.size ≤ q → A q := fun q h => (hAe q).mpr h
  have hbA : ¬ A bs := fun h => absurd ((hAe bs).mp h) (Nat.not_le.mpr hbl)
  refine lv_aload_n hx hb dL_law_1839 rfl (lv_at hl 3 rfl) ?_
  have hPc := hP.sub (ws' := [(x, .inr (11, [.ref xpa, .ref b, .ref xsp, .ref xdy, .ref xle, .ref xst, .int 0, .ref xim, .ref xil, .int 0, .ref xmo, .ref xom, .ref xwi])), (b, .inr (0, [.ref bto, .ref bnm, .ref bla, .ref bsk, .ref bru, .ref bbo, .ref bdi, .ref bda, .ref bdk, .ref bdt, .ref bdp, .ref bno])), (bno, .inr (6, [.int 0, .ref bnos, .ref bnof, .ref bnoz]))]) [0, 1, 2] rfl
  have hKc := hK.sub (tys' := []) [] rfl
  refine vp_callSi (W.runV (As := []) (rest := []) ⟨hx, hb, hml, hown, htw⟩ (mx_undo l dC dI x xpa xsp xdy xle xst xim xil xmo xom xwi b bto bnm bla bsk bru bbo bdi bda bdk bdt bdp bno bnos bnof bnoz) (cwV 0 htw (xg_V (ck_53 _ (List.mem_of_getElem? (i := 14) rfl)) (ck_53 _ (List.mem_of_getElem? (i := 15) rfl)) (ck_53 _ (List.mem_of_getElem? (i := 16) rfl)) (ck_1 _ (List.mem_of_getElem? (i := 2) rfl)) (ck_53 _ (List.mem_of_getElem? (i := 17) rfl))) rfl rfl rfl (by decide +kernel) ⟨Nat.le_of_ble_eq_true rfl, Nat.le_of_ble_eq_true rfl⟩) ⟨fun a U g mk q => by obtain ⟨q0, qP, qK⟩ := q; exact ⟨q0, qP, va_K.moved (u := U) (U := U.calling g mk a) (Vm.Alike.refl U.vm) qK⟩, va_recv hKc hPc (ci := 11) (q0 := 0) rfl rfl, fun U hU hW => ⟨rfl, by rw [hU]; exact hPc, va_K.moved hW.alike hKc⟩⟩ rfl rfl hl.1 rfl (lv_room (Nat.le_of_ble_eq_true rfl)) dL_law_1840 ⟨Nat.le_of_ble_eq_true rfl, Nat.le_of_ble_eq_true rfl⟩) (fun r_1 hw => ?_)
  try dsimp only at hw
  obtain rfl : r_1 = (-1) := hw
  refine lv_aload_n hx hb dL_law_1843 rfl (lv_at hl 2 rfl) ?_
  have hPc := hP.sub (ws' := [(mq, .inr (12, [.ref mtp, .int 0, .int 0, .ref mywords, .int 0, .int (-1), .int 0, .int 0, .int 0, .int 0, .int 0, .int 0, .int 0, .int 0, .int 0, .int 0, .int 0, .int 0, .int 0, .int 0, .int 0, .int 0, .int 0, .int 0, .ref msk, .int 0, .int 0, .int 0, .ref mln, .ref mlh, .ref mfn, .ref mfi, .ref mla, .ref mpn, .ref mbo, .ref mdi, .ref mdn, .ref mdo, .ref mdh, .ref mnn, .ref mnh, .ref mkn, .ref mpt, .ref mot, .long 0, .ref mywait, .ref myheld, .int 0, .int 0, .int 0, .int 0, .int 0, .int 0, .long 0, .long 0, .ref mynames, .ref myvalue, .int 0, .int 0, .int 0, .ref mun, .ref mycan, .int 0, .int 0, .int 0, .ref myroot, .ref myoff, .int 0, .ref mtn, .ref mtc, .int 0, .int 0, .int 0, .ref mkh, .ref mkt, .ref mkc]))]) [3] rfl
  have hKc := hK.sub (tys' := []) [] rfl
  have hDc := hD.sub (ws' := [(mq, .inr (12, [.ref mtp, .int 0, .int 0, .ref mywords, .int 0, .int (-1), .int 0, .int 0, .int 0, .int 0, .int 0, .int 0, .int 0, .int 0, .int 0, .int 0, .int 0, .int 0, .int 0, .int 0, .int 0, .int 0, .int 0, .int 0, .ref msk, .int 0, .int 0, .int 0, .ref mln, .ref mlh, .ref mfn, .ref mfi, .ref mla, .ref mpn, .ref mbo, .ref mdi, .ref mdn, .ref mdo, .ref mdh, .ref mnn, .ref mnh, .ref mkn, .ref mpt, .ref mot, .long 0, .ref mywait, .ref myheld, .int 0, .int 0, .int 0, .int 0, .int 0, .int 0, .long 0, .long 0, .ref mynames, .ref myvalue, .int 0, .int 0, .int 0, .ref mun, .ref mycan, .int 0, .int 0, .int 0, .ref myroot, .ref myoff, .int 0, .ref mtn, .ref mtc, .int 0, .int 0, .int 0, .ref mkh, .ref mkt, .ref mkc]))]) [3] (by decide) rfl
  have hFc := va_free (wc := [(mq, .inr (12, [.ref mtp, .int 0, .int 0, .ref mywords, .int 0, .int (-1), .int 0, .int 0, .int 0, .int 0, .int 0, .int 0, .int 0, .int 0, .int 0, .int 0, .int 0, .int 0, .int 0, .int 0, .int 0, .int 0, .int 0, .int 0, .ref msk, .int 0, .int 0, .int 0, .ref mln, .ref mlh, .ref mfn, .ref mfi, .ref mla, .ref mpn, .ref mbo, .ref mdi, .ref mdn, .ref mdo, .ref mdh, .ref mnn, .ref mnh, .ref mkn, .ref mpt, .ref mot, .long 0, .ref mywait, .ref myheld, .int 0, .int 0, .int 0, .int 0, .int 0, .int 0, .long 0, .long 0, .ref mynames, .ref myvalue, .int 0, .int 0, .int 0, .ref mun, .ref mycan, .int 0, .int 0, .int 0, .ref myroot, .ref myoff, .int 0, .ref mtn, .ref mtc, .int 0, .int 0, .int 0, .ref mkh, .ref mkt, .ref mkc]))]) hD hS hA [3] rfl
  refine va_calli (va_runV (As := []) (rest := [.int (-1)]) ⟨hx, hb, hml, hown, htw⟩ (mm_undo l dC dI mq ([.ref mtp, .int 0, .int 0, .ref mywords, .int 0, .int (-1), .int 0, .int 0, .int 0, .int 0, .int 0, .int 0, .int 0, .int 0, .int 0, .int 0, .int 0, .int 0, .int 0, .int 0, .int 0, .int 0, .int 0, .int 0, .ref msk, .int 0, .int 0, .int 0, .ref mln, .ref mlh, .ref mfn, .ref mfi, .ref mla, .ref mpn, .ref mbo, .ref mdi, .ref mdn, .ref mdo, .ref mdh, .ref mnn, .ref mnh, .ref mkn, .ref mpt, .ref mot, .long 0, .ref mywait, .ref myheld, .int 0, .int 0, .int 0, .int 0, .int 0, .int 0, .long 0, .long 0, .ref mynames, .ref myvalue, .int 0, .int 0, .int 0, .ref mun, .ref mycan, .int 0, .int 0, .int 0, .ref myroot, .ref myoff, .int 0, .ref mtn, .ref mtc, .int 0, .int 0, .int 0, .ref mkh, .ref mkt, .ref mkc]) H.size rfl rfl) (cwV 0 htw (xg_V (ck_53 _ (List.mem_of_getElem? (i := 22) rfl)) (ck_53 _ (List.mem_of_getElem? (i := 23) rfl)) (ck_54 _ (List.mem_of_getElem? (i := 0) rfl)) (ck_1 _ (List.mem_of_getElem? (i := 5) rfl)) (ck_54 _ (List.mem_of_getElem? (i := 1) rfl))) rfl rfl rfl (by decide +kernel) ⟨Nat.le_of_ble_eq_true rfl, Nat.le_of_ble_eq_true rfl⟩) ⟨fun a U g mk q => by obtain ⟨q0, q1, qP, qK, qD⟩ := q; exact ⟨q0, q1, qP, va_K.moved (u := U) (U := U.calling g mk a) (Vm.Alike.refl U.vm) qK, qD⟩, va_recv hKc hPc (ci := 12) (q0 := 0) rfl rfl, fun U hU hW => ⟨rfl, by rw [hU], by rw [hU]; exact hPc, va_K.moved hW.alike hKc, hDc.weaken (fun _ _ _ _ => trivial)⟩⟩ rfl rfl hl.1 rfl (lv_room (Nat.le_of_ble_eq_true rfl)) dL_law_1844 ⟨Nat.le_of_ble_eq_true rfl, Nat.le_of_ble_eq_true rfl⟩) hS (fun q _ h => hFc q h) hFc (fun r_2 u_3 t H1 locs ht hvm hw hB hz1 hk1 hS => ?_)
  try dsimp only at hw
  have hP1 : va_P (dC, dI) vwCl [] H1 := fun k q h => by simp at h
  have hD1 : va_D (va_A [(mq, .inr (12, [.ref mtp, .int 0, .int 0, .ref mywords, .int 0, .int (-1), .int 0, .int 0, .int 0, .int 0, .int 0, .int 0, .int 0, .int 0, .int 0, .int 0, .int 0, .int 0, .int 0, .int 0, .int 0, .int 0, .int 0, .int 0, .ref msk, .int 0, .int 0, .int 0, .ref mln, .ref mlh, .ref mfn, .ref mfi, .ref mla, .ref mpn, .ref mbo, .ref mdi, .ref mdn, .ref mdo, .ref mdh, .ref mnn, .ref mnh, .ref mkn, .ref mpt, .ref mot, .long 0, .ref mywait, .ref myheld, .int 0, .int 0, .int 0, .int 0, .int 0, .int 0, .long 0, .long 0, .ref mynames, .ref myvalue, .int 0, .int 0, .int 0, .ref mun, .ref mycan, .int 0, .int 0, .int 0, .ref myroot, .ref myoff, .int 0, .ref mtn, .ref mtc, .int 0, .int 0, .int 0, .ref mkh, .ref mkt, .ref mkc]))] H.size) [] := ⟨fun i j p q h => by simp at h, fun k q h => by simp at h⟩
  obtain ⟨hP, hD⟩ := va_join (wr := [(x, .inr (11, [.ref xpa, .ref b, .ref xsp, .ref xdy, .ref xle, .ref xst, .int 0, .ref xim, .ref xil, .int 0, .ref xmo, .ref xom, .ref xwi])), (b, .inr (0, [.ref bto, .ref bnm, .ref bla, .ref bsk, .ref bru, .ref bbo, .ref bdi, .ref bda, .ref bdk, .ref bdt, .ref bdp, .ref bno])), (bno, .inr (6, [.int 0, .ref bnos, .ref bnof, .ref bnoz]))]) (w1 := []) hP hD [3] [0, 1, 2] rfl rfl (by decide) (by decide) hk1 hFc hP1 hD1
  generalize H1 = H at hP hS ⊢
  have hP : va_P (dC, dI) vwCl [(x, .inr (11, [.ref xpa, .ref b, .ref xsp, .ref xdy, .ref xle, .ref xst, .int 0, .ref xim, .ref xil, .int 0, .ref xmo, .ref xom, .ref xwi])), (b, .inr (0, [.ref bto, .ref bnm, .ref bla, .ref bsk, .ref bru, .ref bbo, .ref bdi, .ref bda, .ref bdk, .ref bdt, .ref bdp, .ref bno])), (bno, .inr (6, [.int 0, .ref bnos, .ref bnof, .ref bnoz]))] H := hP
  have hD : va_D A [(x, .inr (11, [.ref xpa, .ref b, .ref xsp, .ref xdy, .ref xle, .ref xst, .int 0, .ref xim, .ref xil, .int 0, .ref xmo, .ref xom, .ref xwi])), (b, .inr (0, [.ref bto, .ref bnm, .ref bla, .ref bsk, .ref bru, .ref bbo, .ref bdi, .ref bda, .ref bdk, .ref bdt, .ref bdp, .ref bno])), (bno, .inr (6, [.int 0, .ref bnos, .ref bnof, .ref bnoz]))] := hD
  refine W.widen (k := 129) (n := 248806) (by omega) (by omega) ?_
  obtain rfl : r_2 = (-1) := hw
  refine lv_icmp_eq (tgt := 2053) hx hb dL_law_1847 (by decide) (fun _ => ?_) (fun c => absurd c (by decide))
  refine lv_iinc (v := 6) (lv' := [(4, .int 6), (3, .ref o3), (2, .ref mq), (1, .ref x), (0, .ref bs)]) hx hb dL_law_2053 hl (k := 0) rfl (by decide) (by decide) rfl (fun ls hl => ?_)
  refine lv_goto (tgt := 23) hx hb dL_law_2056 (by decide) ?_
  refine lv_iload hx hb dL_law_23 (lv_at hl 0 rfl) ?_
  refine lv_aload_n hx hb dL_law_25 rfl (lv_at hl 4 rfl) ?_
  refine va_slen hx hb hX hbl hbA hS dL_law_26 ?_
  refine lv_topi (fun z_4 ez_4 => ?_)
  obtain rfl : z_4 = 6 := ez_4.trans (by decide)
  refine lv_bipush (v := 6) hx hb dL_law_27 (by decide) ?_
  refine lv_isub hx hb dL_law_29 ?_
  refine lv_topi (fun z_5 ez_5 => ?_)
  obtain rfl : z_5 = 0 := ez_5.trans (by decide)
  refine lv_icmp_gt (tgt := 2059) hx hb dL_law_30 (by decide) (fun _ => ?_) (fun c => absurd c (by decide))
  refine lv_iconst (v := 1) hx hb dL_law_2059 (by decide) ?_
  refine va_forget (fun q hq => (hAe _).mp (hS.2.2 q hq)) ?_
  refine W.widen (k := 600002) (n := 7302232) (by omega) (by omega) ?_
  exact lw_ret hx hb hr hlocks dL_law_2060

theorem dL_law_1852 : decode cL_law 1852 = .ok (.aload_n 1, 1) := by decide +kernel
theorem dL_law_1853 : decode cL_law 1853 = .ok (.aload_n 0, 1) := by decide +kernel
theorem dL_law_1854 : decode cL_law 1854 = .ok (.iload 4, 2) := by decide +kernel
theorem dL_law_1856 : decode cL_law 1856 = .ok (.iconst 1, 1) := by decide +kernel
theorem dL_law_1857 : decode cL_law 1857 = .ok (.iadd, 1) := by decide +kernel
theorem dL_law_1858 : decode cL_law 1858 = .ok (.iaload, 1) := by decide +kernel
theorem dL_law_1859 : decode cL_law 1859 = .ok (.aload_n 0, 1) := by decide +kernel
theorem dL_law_1860 : decode cL_law 1860 = .ok (.iload 4, 2) := by decide +kernel
theorem dL_law_1862 : decode cL_law 1862 = .ok (.iconst 2, 1) := by decide +kernel
theorem dL_law_1863 : decode cL_law 1863 = .ok (.iadd, 1) := by decide +kernel
theorem dL_law_1864 : decode cL_law 1864 = .ok (.iaload, 1) := by decide +kernel
theorem dL_law_1865 : decode cL_law 1865 = .ok (.invokevirtual 157, 3) := by decide +kernel
theorem dL_law_1868 : decode cL_law 1868 = .ok (.aload_n 2, 1) := by decide +kernel
theorem dL_law_1869 : decode cL_law 1869 = .ok (.aload_n 0, 1) := by decide +kernel
theorem dL_law_1870 : decode cL_law 1870 = .ok (.iload 4, 2) := by decide +kernel
theorem dL_law_1872 : decode cL_law 1872 = .ok (.iconst 1, 1) := by decide +kernel
theorem dL_law_1873 : decode cL_law 1873 = .ok (.iadd, 1) := by decide +kernel
theorem dL_law_1874 : decode cL_law 1874 = .ok (.iaload, 1) := by decide +kernel
theorem dL_law_1875 : decode cL_law 1875 = .ok (.aload_n 0, 1) := by decide +kernel
theorem dL_law_1876 : decode cL_law 1876 = .ok (.iload 4, 2) := by decide +kernel
theorem dL_law_1878 : decode cL_law 1878 = .ok (.iconst 2, 1) := by decide +kernel
theorem dL_law_1879 : decode cL_law 1879 = .ok (.iadd, 1) := by decide +kernel
theorem dL_law_1880 : decode cL_law 1880 = .ok (.iaload, 1) := by decide +kernel
theorem dL_law_1881 : decode cL_law 1881 = .ok (.invokevirtual 160, 3) := by decide +kernel
theorem dL_law_1884 : decode cL_law 1884 = .ok (.if_icmp .eq 169, 3) := by decide +kernel
set_option maxHeartbeats 4000000 in
set_option maxRecDepth 100000 in
theorem law_alone (l : Launch) (hst : l.stackTraces = false) {p : Program} {e : Env} {s : State} {m : MethodId} {below : List Frame} {meth : Method} {c : Code} {bs : Nat} {xs : Nat → Int32} (C0 : lw_At p s m meth c bs 6 xs) (dC : Nat → ClassId) (dI : Nat → Nat → Nat) (A : Nat → Prop) (hAe : ∀ q, A q ↔ s.heap.size ≤ q) (xpa : Nat) (b : Nat) (xsp : Nat) (xdy : Nat) (xle : Nat) (xst : Nat) (xim : Nat) (xil : Nat) (xmo : Nat) (xom : Nat) (xwi : Nat) (bto : Nat) (bnm : Nat) (bla : Nat) (bsk : Nat) (bru : Nat) (bbo : Nat) (bdi : Nat) (bda : Nat) (bdk : Nat) (bdt : Nat) (bdp : Nat) (bno : Nat) (bnos : Nat) (bnof : Nat) (bnoz : Nat) (mtp : Nat) (mywords : Nat) (msk : Nat) (mln : Nat) (mlh : Nat) (mfn : Nat) (mfi : Nat) (mla : Nat) (mpn : Nat) (mbo : Nat) (mdi : Nat) (mdn : Nat) (mdo : Nat) (mdh : Nat) (mnn : Nat) (mnh : Nat) (mkn : Nat) (mpt : Nat) (mot : Nat) (mywait : Nat) (myheld : Nat) (mynames : Nat) (myvalue : Nat) (mun : Nat) (mycan : Nat) (myroot : Nat) (myoff : Nat) (mtn : Nat) (mtc : Nat) (mkh : Nat) (mkt : Nat) (mkc : Nat) (x : Nat) (mq : Nat) (o3 : Nat)  (H : Heap) (locs : List Loc) (ls : Array Slot) (hK : va_K (dC, dI) vwCl [] s) (hP : va_P (dC, dI) vwCl [(x, .inr (11, [.ref xpa, .ref b, .ref xsp, .ref xdy, .ref xle, .ref xst, .int 0, .ref xim, .ref xil, .int 0, .ref xmo, .ref xom, .ref xwi])), (b, .inr (0, [.ref bto, .ref bnm, .ref bla, .ref bsk, .ref bru, .ref bbo, .ref bdi, .ref bda, .ref bdk, .ref bdt, .ref bdp, .ref bno])), (bno, .inr (6, [.int 0, .ref bnos, .ref bnof, .ref bnoz])), (mq, .inr (12, [.ref mtp, .int 0, .int 0, .ref mywords, .int 0, .int (-1), .int 0, .int 0, .int 0, .int 0, .int 0, .int 0, .int 0, .int 0, .int 0, .int 0, .int 0, .int 0, .int 0, .int 0, .int 0, .int 0, .int 0, .int 0, .ref msk, .int 0, .int 0, .int 0, .ref mln, .ref mlh, .ref mfn, .ref mfi, .ref mla, .ref mpn, .ref mbo, .ref mdi, .ref mdn, .ref mdo, .ref mdh, .ref mnn, .ref mnh, .ref mkn, .ref mpt, .ref mot, .long 0, .ref mywait, .ref myheld, .int 0, .int 0, .int 0, .int 0, .int 0, .int 0, .long 0, .long 0, .ref mynames, .ref myvalue, .int 0, .int 0, .int 0, .ref mun, .ref mycan, .int 0, .int 0, .int 0, .ref myroot, .ref myoff, .int 0, .ref mtn, .ref mtc, .int 0, .int 0, .int 0, .ref mkh, .ref mkt, .ref mkc]))] H) (hD : va_D A [(x, .inr (11, [.ref xpa, .ref b, .ref xsp, .ref xdy, .ref xle, .ref xst, .int 0, .ref xim, .ref xil, .int 0, .ref xmo, .ref xom, .ref xwi])), (b, .inr (0, [.ref bto, .ref bnm, .ref bla, .ref bsk, .ref bru, .ref bbo, .ref bdi, .ref bda, .ref bdk, .ref bdt, .ref bdp, .ref bno])), (bno, .inr (6, [.int 0, .ref bnos, .ref bnof, .ref bnoz])), (mq, .inr (12, [.ref mtp, .int 0, .int 0, .ref mywords, .int 0, .int (-1), .int 0, .int 0, .int 0, .int 0, .int 0, .int 0, .int 0, .int 0, .int 0, .int 0, .int 0, .int 0, .int 0, .int 0, .int 0, .int 0, .int 0, .int 0, .ref msk, .int 0, .int 0, .int 0, .ref mln, .ref mlh, .ref mfn, .ref mfi, .ref mla, .ref mpn, .ref mbo, .ref mdi, .ref mdn, .ref mdo, .ref mdh, .ref mnn, .ref mnh, .ref mkn, .ref mpt, .ref mot, .long 0, .ref mywait, .ref myheld, .int 0, .int 0, .int 0, .int 0, .int 0, .int 0, .long 0, .long 0, .ref mynames, .ref myvalue, .int 0, .int 0, .int 0, .ref mun, .ref mycan, .int 0, .int 0, .int 0, .ref myroot, .ref myoff, .int 0, .ref mtn, .ref mtc, .int 0, .int 0, .int 0, .ref mkh, .ref mkt, .ref mkc]))]) (hS : va_S A s.heap H locs) (hl : lv_has ls 7 [(4, .int 0), (3, .ref o3), (2, .ref mq), (1, .ref x), (0, .ref bs)]) : W p l e room_1 s m #[Value.ref bs] below meth c H locs 129 248806 (lw_Z below #[Value.ref bs] s) (F0 m 1852 ls []) := by
  obtain ⟨hx, hb, hr, hml, hown, hts, hX, hbl, hlocks, hgv⟩ := id C0
  have htw : ∀ w ∈ wsL_law, w.before _ s = true := fun w h => hts w (wsL_law_in w h)
  have hown : s.vm.findClass RL = some m.cls := hown
  have hA : ∀ q : Nat, s.heap.size ≤ q → A q := fun q h => (hAe q).mpr h
  have hbA : ¬ A bs := fun h => absurd ((hAe bs).mp h) (Nat.not_le.mpr hbl)
  refine lv_aload_n hx hb dL_law_1852 rfl (lv_at hl 3 rfl) ?_
  refine lv_aload_n hx hb dL_law_1853 rfl (lv_at hl 4 rfl) ?_
  refine lv_iload hx hb dL_law_1854 (lv_at hl 0 rfl) ?_
  refine lv_iconst (v := 1) hx hb dL_law_1856 (by decide) ?_
  refine lv_iadd hx hb dL_law_1857 ?_
  refine lv_topi (fun z_1 ez_1 => ?_)
  obtain rfl : z_1 = 1 := ez_1.trans (by decide)
  refine va_sld hx hb hX hbl hbA hS (by unfold vp_in; decide) dL_law_1858 ?_
  refine lv_topi (fun z_2 ez_2 => ?_)
  obtain rfl : z_2 = xs 1 := ez_2
  refine lv_aload_n hx hb dL_law_1859 rfl (lv_at hl 4 rfl) ?_
  refine lv_iload hx hb dL_law_1860 (lv_at hl 0 rfl) ?_
  refine lv_iconst (v := 2) hx hb dL_law_1862 (by decide) ?_
  refine lv_iadd hx hb dL_law_1863 ?_
  refine lv_topi (fun z_3 ez_3 => ?_)
  obtain rfl : z_3 = 2 := ez_3.trans (by decide)
  refine va_sld hx hb hX hbl hbA hS (by unfold vp_in; decide) dL_law_1864 ?_
  refine lv_topi (fun z_4 ez_4 => ?_)
  obtain rfl : z_4 = xs 2 := ez_4
  have hPc := hP.sub (ws' := [(x, .inr (11, [.ref xpa, .ref b, .ref xsp, .ref xdy, .ref xle, .ref xst, .int 0, .ref xim, .ref xil, .int 0, .ref xmo, .ref xom, .ref xwi])), (b, .inr (0, [.ref bto, .ref bnm, .ref bla, .ref bsk, .ref bru, .ref bbo, .ref bdi, .ref bda, .ref bdk, .ref bdt, .ref bdp, .ref bno])), (bno, .inr (6, [.int 0, .ref bnos, .ref bnof, .ref bnoz]))]) [0, 1, 2] rfl
  have hKc := hK.sub (tys' := []) [] rfl
  refine vp_callSi (W.runV (As := [.int (xs 1), .int (xs 2)]) (rest := []) ⟨hx, hb, hml, hown, htw⟩ (mx_alone l dC dI x xpa xsp xdy xle xst xim xil xmo xom xwi b bto bnm bla bsk bru bbo bdi bda bdk bdt bdp bno bnos bnof bnoz (xs 1) (xs 2)) (cwV 2 htw (xg_V (ck_54 _ (List.mem_of_getElem? (i := 2) rfl)) (ck_54 _ (List.mem_of_getElem? (i := 3) rfl)) (ck_54 _ (List.mem_of_getElem? (i := 4) rfl)) (ck_1 _ (List.mem_of_getElem? (i := 2) rfl)) (ck_54 _ (List.mem_of_getElem? (i := 5) rfl))) rfl rfl rfl (by decide +kernel) ⟨Nat.le_of_ble_eq_true rfl, Nat.le_of_ble_eq_true rfl⟩) ⟨fun a U g mk q => by obtain ⟨q0, qP, qK⟩ := q; exact ⟨q0, qP, va_K.moved (u := U) (U := U.calling g mk a) (Vm.Alike.refl U.vm) qK⟩, va_recv hKc hPc (ci := 11) (q0 := 0) rfl rfl, fun U hU hW => ⟨rfl, by rw [hU]; exact hPc, va_K.moved hW.alike hKc⟩⟩ rfl rfl hl.1 rfl (lv_room (Nat.le_of_ble_eq_true rfl)) dL_law_1865 ⟨Nat.le_of_ble_eq_true rfl, Nat.le_of_ble_eq_true rfl⟩) (fun r_5 hw => ?_)
  try dsimp only at hw
  obtain rfl : r_5 = (-1) := hw
  refine lv_aload_n hx hb dL_law_1868 rfl (lv_at hl 2 rfl) ?_
  refine lv_aload_n hx hb dL_law_1869 rfl (lv_at hl 4 rfl) ?_
  refine lv_iload hx hb dL_law_1870 (lv_at hl 0 rfl) ?_
  refine lv_iconst (v := 1) hx hb dL_law_1872 (by decide) ?_
  refine lv_iadd hx hb dL_law_1873 ?_
  refine lv_topi (fun z_6 ez_6 => ?_)
  obtain rfl : z_6 = 1 := ez_6.trans (by decide)
  refine va_sld hx hb hX hbl hbA hS (by unfold vp_in; decide) dL_law_1874 ?_
  refine lv_topi (fun z_7 ez_7 => ?_)
  obtain rfl : z_7 = xs 1 := ez_7
  refine lv_aload_n hx hb dL_law_1875 rfl (lv_at hl 4 rfl) ?_
  refine lv_iload hx hb dL_law_1876 (lv_at hl 0 rfl) ?_
  refine lv_iconst (v := 2) hx hb dL_law_1878 (by decide) ?_
  refine lv_iadd hx hb dL_law_1879 ?_
  refine lv_topi (fun z_8 ez_8 => ?_)
  obtain rfl : z_8 = 2 := ez_8.trans (by decide)
  refine va_sld hx hb hX hbl hbA hS (by unfold vp_in; decide) dL_law_1880 ?_
  refine lv_topi (fun z_9 ez_9 => ?_)
  obtain rfl : z_9 = xs 2 := ez_9
  have hPc := hP.sub (ws' := [(mq, .inr (12, [.ref mtp, .int 0, .int 0, .ref mywords, .int 0, .int (-1), .int 0, .int 0, .int 0, .int 0, .int 0, .int 0, .int 0, .int 0, .int 0, .int 0, .int 0, .int 0, .int 0, .int 0, .int 0, .int 0, .int 0, .int 0, .ref msk, .int 0, .int 0, .int 0, .ref mln, .ref mlh, .ref mfn, .ref mfi, .ref mla, .ref mpn, .ref mbo, .ref mdi, .ref mdn, .ref mdo, .ref mdh, .ref mnn, .ref mnh, .ref mkn, .ref mpt, .ref mot, .long 0, .ref mywait, .ref myheld, .int 0, .int 0, .int 0, .int 0, .int 0, .int 0, .long 0, .long 0, .ref mynames, .ref myvalue, .int 0, .int 0, .int 0, .ref mun, .ref mycan, .int 0, .int 0, .int 0, .ref myroot, .ref myoff, .int 0, .ref mtn, .ref mtc, .int 0, .int 0, .int 0, .ref mkh, .ref mkt, .ref mkc]))]) [3] rfl
  have hKc := hK.sub (tys' := []) [] rfl
  have hDc := hD.sub (ws' := [(mq, .inr (12, [.ref mtp, .int 0, .int 0, .ref mywords, .int 0, .int (-1), .int 0, .int 0, .int 0, .int 0, .int 0, .int 0, .int 0, .int 0, .int 0, .int 0, .int 0, .int 0, .int 0, .int 0, .int 0, .int 0, .int 0, .int 0, .ref msk, .int 0, .int 0, .int 0, .ref mln, .ref mlh, .ref mfn, .ref mfi, .ref mla, .ref mpn, .ref mbo, .ref mdi, .ref mdn, .ref mdo, .ref mdh, .ref mnn, .ref mnh, .ref mkn, .ref mpt, .ref mot, .long 0, .ref mywait, .ref myheld, .int 0, .int 0, .int 0, .int 0, .int 0, .int 0, .long 0, .long 0, .ref mynames, .ref myvalue, .int 0, .int 0, .int 0, .ref mun, .ref mycan, .int 0, .int 0, .int 0, .ref myroot, .ref myoff, .int 0, .ref mtn, .ref mtc, .int 0, .int 0, .int 0, .ref mkh, .ref mkt, .ref mkc]))]) [3] (by decide) rfl
  have hFc := va_free (wc := [(mq, .inr (12, [.ref mtp, .int 0, .int 0, .ref mywords, .int 0, .int (-1), .int 0, .int 0, .int 0, .int 0, .int 0, .int 0, .int 0, .int 0, .int 0, .int 0, .int 0, .int 0, .int 0, .int 0, .int 0, .int 0, .int 0, .int 0, .ref msk, .int 0, .int 0, .int 0, .ref mln, .ref mlh, .ref mfn, .ref mfi, .ref mla, .ref mpn, .ref mbo, .ref mdi, .ref mdn, .ref mdo, .ref mdh, .ref mnn, .ref mnh, .ref mkn, .ref mpt, .ref mot, .long 0, .ref mywait, .ref myheld, .int 0, .int 0, .int 0, .int 0, .int 0, .int 0, .long 0, .long 0, .ref mynames, .ref myvalue, .int 0, .int 0, .int 0, .ref mun, .ref mycan, .int 0, .int 0, .int 0, .ref myroot, .ref myoff, .int 0, .ref mtn, .ref mtc, .int 0, .int 0, .int 0, .ref mkh, .ref mkt, .ref mkc]))]) hD hS hA [3] rfl
  refine va_calli (va_runV (As := [.int (xs 1), .int (xs 2)]) (rest := [.int (-1)]) ⟨hx, hb, hml, hown, htw⟩ (mm_alone l dC dI mq ([.ref mtp, .int 0, .int 0, .ref mywords, .int 0, .int (-1), .int 0, .int 0, .int 0, .int 0, .int 0, .int 0, .int 0, .int 0, .int 0, .int 0, .int 0, .int 0, .int 0, .int 0, .int 0, .int 0, .int 0, .int 0, .ref msk, .int 0, .int 0, .int 0, .ref mln, .ref mlh, .ref mfn, .ref mfi, .ref mla, .ref mpn, .ref mbo, .ref mdi, .ref mdn, .ref mdo, .ref mdh, .ref mnn, .ref mnh, .ref mkn, .ref mpt, .ref mot, .long 0, .ref mywait, .ref myheld, .int 0, .int 0, .int 0, .int 0, .int 0, .int 0, .long 0, .long 0, .ref mynames, .ref myvalue, .int 0, .int 0, .int 0, .ref mun, .ref mycan, .int 0, .int 0, .int 0, .ref myroot, .ref myoff, .int 0, .ref mtn, .ref mtc, .int 0, .int 0, .int 0, .ref mkh, .ref mkt, .ref mkc]) (xs 1) (xs 2) H.size rfl rfl) (cwV 2 htw (xg_V (ck_59 _ (List.mem_of_getElem? (i := 0) rfl)) (ck_59 _ (List.mem_of_getElem? (i := 1) rfl)) (ck_59 _ (List.mem_of_getElem? (i := 2) rfl)) (ck_1 _ (List.mem_of_getElem? (i := 5) rfl)) (ck_59 _ (List.mem_of_getElem? (i := 3) rfl))) rfl rfl rfl (by decide +kernel) ⟨Nat.le_of_ble_eq_true rfl, Nat.le_of_ble_eq_true rfl⟩) ⟨fun a U g mk q => by obtain ⟨q0, q1, qP, qK, qD⟩ := q; exact ⟨q0, q1, qP, va_K.moved (u := U) (U := U.calling g mk a) (Vm.Alike.refl U.vm) qK, qD⟩, va_recv hKc hPc (ci := 12) (q0 := 0) rfl rfl, fun U hU hW => ⟨rfl, by rw [hU], by rw [hU]; exact hPc, va_K.moved hW.alike hKc, hDc.weaken (fun _ _ _ _ => trivial)⟩⟩ rfl rfl hl.1 rfl (lv_room (Nat.le_of_ble_eq_true rfl)) dL_law_1881 ⟨Nat.le_of_ble_eq_true rfl, Nat.le_of_ble_eq_true rfl⟩) hS (fun q _ h => hFc q h) hFc (fun r_10 u_11 t H1 locs ht hvm hw hB hz1 hk1 hS => ?_)
  try dsimp only at hw
  have hP1 : va_P (dC, dI) vwCl [] H1 := fun k q h => by simp at h
  have hD1 : va_D (va_A [(mq, .inr (12, [.ref mtp, .int 0, .int 0, .ref mywords, .int 0, .int (-1), .int 0, .int 0, .int 0, .int 0, .int 0, .int 0, .int 0, .int 0, .int 0, .int 0, .int 0, .int 0, .int 0, .int 0, .int 0, .int 0, .int 0, .int 0, .ref msk, .int 0, .int 0, .int 0, .ref mln, .ref mlh, .ref mfn, .ref mfi, .ref mla, .ref mpn, .ref mbo, .ref mdi, .ref mdn, .ref mdo, .ref mdh, .ref mnn, .ref mnh, .ref mkn, .ref mpt, .ref mot, .long 0, .ref mywait, .ref myheld, .int 0, .int 0, .int 0, .int 0, .int 0, .int 0, .long 0, .long 0, .ref mynames, .ref myvalue, .int 0, .int 0, .int 0, .ref mun, .ref mycan, .int 0, .int 0, .int 0, .ref myroot, .ref myoff, .int 0, .ref mtn, .ref mtc, .int 0, .int 0, .int 0, .ref mkh, .ref mkt, .ref mkc]))] H.size) [] := ⟨fun i j p q h => by simp at h, fun k q h => by simp at h⟩
  obtain ⟨hP, hD⟩ := va_join (wr := [(x, .inr (11, [.ref xpa, .ref b, .ref xsp, .ref xdy, .ref xle, .ref xst, .int 0, .ref xim, .ref xil, .int 0, .ref xmo, .ref xom, .ref xwi])), (b, .inr (0, [.ref bto, .ref bnm, .ref bla, .ref bsk, .ref bru, .ref bbo, .ref bdi, .ref bda, .ref bdk, .ref bdt, .ref bdp, .ref bno])), (bno, .inr (6, [.int 0, .ref bnos, .ref bnof, .ref bnoz]))]) (w1 := []) hP hD [3] [0, 1, 2] rfl rfl (by decide) (by decide) hk1 hFc hP1 hD1
  generalize H1 = H at hP hS ⊢
  have hP : va_P (dC, dI) vwCl [(x, .inr (11, [.ref xpa, .ref b, .ref xsp, .ref xdy, .ref xle, .ref xst, .int 0, .ref xim, .ref xil, .int 0, .ref xmo, .ref xom, .ref xwi])), (b, .inr (0, [.ref bto, .ref bnm, .ref bla, .ref bsk, .ref bru, .ref bbo, .ref bdi, .ref bda, .ref bdk, .ref bdt, .ref bdp, .ref bno])), (bno, .inr (6, [.int 0, .ref bnos, .ref bnof, .ref bnoz]))] H := hP
  have hD : va_D A [(x, .inr (11, [.ref xpa, .ref b, .ref xsp, .ref xdy, .ref xle, .ref xst, .int 0, .ref xim, .ref xil, .int 0, .ref xmo, .ref xom, .ref xwi])), (b, .inr (0, [.ref bto, .ref bnm, .ref bla, .ref bsk, .ref bru, .ref bbo, .ref bdi, .ref bda, .ref bdk, .ref bdt, .ref bdp, .ref bno])), (bno, .inr (6, [.int 0, .ref bnos, .ref bnof, .ref bnoz]))] := hD
  refine W.widen (k := 129) (n := 248806) (by omega) (by omega) ?_
  obtain rfl : r_10 = (-1) := hw
  refine lv_icmp_eq (tgt := 2053) hx hb dL_law_1884 (by decide) (fun _ => ?_) (fun c => absurd c (by decide))
  refine lv_iinc (v := 6) (lv' := [(4, .int 6), (3, .ref o3), (2, .ref mq), (1, .ref x), (0, .ref bs)]) hx hb dL_law_2053 hl (k := 0) rfl (by decide) (by decide) rfl (fun ls hl => ?_)
  refine lv_goto (tgt := 23) hx hb dL_law_2056 (by decide) ?_
  refine lv_iload hx hb dL_law_23 (lv_at hl 0 rfl) ?_
  refine lv_aload_n hx hb dL_law_25 rfl (lv_at hl 4 rfl) ?_
  refine va_slen hx hb hX hbl hbA hS dL_law_26 ?_
  refine lv_topi (fun z_12 ez_12 => ?_)
  obtain rfl : z_12 = 6 := ez_12.trans (by decide)
  refine lv_bipush (v := 6) hx hb dL_law_27 (by decide) ?_
  refine lv_isub hx hb dL_law_29 ?_
  refine lv_topi (fun z_13 ez_13 => ?_)
  obtain rfl : z_13 = 0 := ez_13.trans (by decide)
  refine lv_icmp_gt (tgt := 2059) hx hb dL_law_30 (by decide) (fun _ => ?_) (fun c => absurd c (by decide))
  refine lv_iconst (v := 1) hx hb dL_law_2059 (by decide) ?_
  refine va_forget (fun q hq => (hAe _).mp (hS.2.2 q hq)) ?_
  refine W.widen (k := 600002) (n := 7302232) (by omega) (by omega) ?_
  exact lw_ret hx hb hr hlocks dL_law_2060

theorem dL_law_1889 : decode cL_law 1889 = .ok (.aload_n 1, 1) := by decide +kernel
theorem dL_law_1890 : decode cL_law 1890 = .ok (.aload_n 0, 1) := by decide +kernel
theorem dL_law_1891 : decode cL_law 1891 = .ok (.iload 4, 2) := by decide +kernel
theorem dL_law_1893 : decode cL_law 1893 = .ok (.iconst 1, 1) := by decide +kernel
theorem dL_law_1894 : decode cL_law 1894 = .ok (.iadd, 1) := by decide +kernel
theorem dL_law_1895 : decode cL_law 1895 = .ok (.iaload, 1) := by decide +kernel
theorem dL_law_1896 : decode cL_law 1896 = .ok (.aload_n 0, 1) := by decide +kernel
theorem dL_law_1897 : decode cL_law 1897 = .ok (.iload 4, 2) := by decide +kernel
theorem dL_law_1899 : decode cL_law 1899 = .ok (.iconst 2, 1) := by decide +kernel
theorem dL_law_1900 : decode cL_law 1900 = .ok (.iadd, 1) := by decide +kernel
theorem dL_law_1901 : decode cL_law 1901 = .ok (.iaload, 1) := by decide +kernel
theorem dL_law_1902 : decode cL_law 1902 = .ok (.invokevirtual 161, 3) := by decide +kernel
theorem dL_law_1905 : decode cL_law 1905 = .ok (.aload_n 2, 1) := by decide +kernel
theorem dL_law_1906 : decode cL_law 1906 = .ok (.aload_n 0, 1) := by decide +kernel
theorem dL_law_1907 : decode cL_law 1907 = .ok (.iload 4, 2) := by decide +kernel
theorem dL_law_1909 : decode cL_law 1909 = .ok (.iconst 1, 1) := by decide +kernel
theorem dL_law_1910 : decode cL_law 1910 = .ok (.iadd, 1) := by decide +kernel
theorem dL_law_1911 : decode cL_law 1911 = .ok (.iaload, 1) := by decide +kernel
theorem dL_law_1912 : decode cL_law 1912 = .ok (.aload_n 0, 1) := by decide +kernel
theorem dL_law_1913 : decode cL_law 1913 = .ok (.iload 4, 2) := by decide +kernel
theorem dL_law_1915 : decode cL_law 1915 = .ok (.iconst 2, 1) := by decide +kernel
theorem dL_law_1916 : decode cL_law 1916 = .ok (.iadd, 1) := by decide +kernel
theorem dL_law_1917 : decode cL_law 1917 = .ok (.iaload, 1) := by decide +kernel
theorem dL_law_1918 : decode cL_law 1918 = .ok (.invokevirtual 164, 3) := by decide +kernel
theorem dL_law_1921 : decode cL_law 1921 = .ok (.if_icmp .eq 132, 3) := by decide +kernel
set_option maxHeartbeats 4000000 in
set_option maxRecDepth 100000 in
theorem law_fits (l : Launch) (hst : l.stackTraces = false) {p : Program} {e : Env} {s : State} {m : MethodId} {below : List Frame} {meth : Method} {c : Code} {bs : Nat} {xs : Nat → Int32} (C0 : lw_At p s m meth c bs 6 xs) (dC : Nat → ClassId) (dI : Nat → Nat → Nat) (A : Nat → Prop) (hAe : ∀ q, A q ↔ s.heap.size ≤ q) (xpa : Nat) (b : Nat) (xsp : Nat) (xdy : Nat) (xle : Nat) (xst : Nat) (xim : Nat) (xil : Nat) (xmo : Nat) (xom : Nat) (xwi : Nat) (bto : Nat) (bnm : Nat) (bla : Nat) (bsk : Nat) (bru : Nat) (bbo : Nat) (bdi : Nat) (bda : Nat) (bdk : Nat) (bdt : Nat) (bdp : Nat) (bno : Nat) (bnos : Nat) (bnof : Nat) (bnoz : Nat) (mtp : Nat) (mywords : Nat) (msk : Nat) (mln : Nat) (mlh : Nat) (mfn : Nat) (mfi : Nat) (mla : Nat) (mpn : Nat) (mbo : Nat) (mdi : Nat) (mdn : Nat) (mdo : Nat) (mdh : Nat) (mnn : Nat) (mnh : Nat) (mkn : Nat) (mpt : Nat) (mot : Nat) (mywait : Nat) (myheld : Nat) (mynames : Nat) (myvalue : Nat) (mun : Nat) (mycan : Nat) (myroot : Nat) (myoff : Nat) (mtn : Nat) (mtc : Nat) (mkh : Nat) (mkt : Nat) (mkc : Nat) (x : Nat) (mq : Nat) (o3 : Nat)  (H : Heap) (locs : List Loc) (ls : Array Slot) (hK : va_K (dC, dI) vwCl [] s) (hP : va_P (dC, dI) vwCl [(x, .inr (11, [.ref xpa, .ref b, .ref xsp, .ref xdy, .ref xle, .ref xst, .int 0, .ref xim, .ref xil, .int 0, .ref xmo, .ref xom, .ref xwi])), (b, .inr (0, [.ref bto, .ref bnm, .ref bla, .ref bsk, .ref bru, .ref bbo, .ref bdi, .ref bda, .ref bdk, .ref bdt, .ref bdp, .ref bno])), (bno, .inr (6, [.int 0, .ref bnos, .ref bnof, .ref bnoz])), (mq, .inr (12, [.ref mtp, .int 0, .int 0, .ref mywords, .int 0, .int (-1), .int 0, .int 0, .int 0, .int 0, .int 0, .int 0, .int 0, .int 0, .int 0, .int 0, .int 0, .int 0, .int 0, .int 0, .int 0, .int 0, .int 0, .int 0, .ref msk, .int 0, .int 0, .int 0, .ref mln, .ref mlh, .ref mfn, .ref mfi, .ref mla, .ref mpn, .ref mbo, .ref mdi, .ref mdn, .ref mdo, .ref mdh, .ref mnn, .ref mnh, .ref mkn, .ref mpt, .ref mot, .long 0, .ref mywait, .ref myheld, .int 0, .int 0, .int 0, .int 0, .int 0, .int 0, .long 0, .long 0, .ref mynames, .ref myvalue, .int 0, .int 0, .int 0, .ref mun, .ref mycan, .int 0, .int 0, .int 0, .ref myroot, .ref myoff, .int 0, .ref mtn, .ref mtc, .int 0, .int 0, .int 0, .ref mkh, .ref mkt, .ref mkc]))] H) (hD : va_D A [(x, .inr (11, [.ref xpa, .ref b, .ref xsp, .ref xdy, .ref xle, .ref xst, .int 0, .ref xim, .ref xil, .int 0, .ref xmo, .ref xom, .ref xwi])), (b, .inr (0, [.ref bto, .ref bnm, .ref bla, .ref bsk, .ref bru, .ref bbo, .ref bdi, .ref bda, .ref bdk, .ref bdt, .ref bdp, .ref bno])), (bno, .inr (6, [.int 0, .ref bnos, .ref bnof, .ref bnoz])), (mq, .inr (12, [.ref mtp, .int 0, .int 0, .ref mywords, .int 0, .int (-1), .int 0, .int 0, .int 0, .int 0, .int 0, .int 0, .int 0, .int 0, .int 0, .int 0, .int 0, .int 0, .int 0, .int 0, .int 0, .int 0, .int 0, .int 0, .ref msk, .int 0, .int 0, .int 0, .ref mln, .ref mlh, .ref mfn, .ref mfi, .ref mla, .ref mpn, .ref mbo, .ref mdi, .ref mdn, .ref mdo, .ref mdh, .ref mnn, .ref mnh, .ref mkn, .ref mpt, .ref mot, .long 0, .ref mywait, .ref myheld, .int 0, .int 0, .int 0, .int 0, .int 0, .int 0, .long 0, .long 0, .ref mynames, .ref myvalue, .int 0, .int 0, .int 0, .ref mun, .ref mycan, .int 0, .int 0, .int 0, .ref myroot, .ref myoff, .int 0, .ref mtn, .ref mtc, .int 0, .int 0, .int 0, .ref mkh, .ref mkt, .ref mkc]))]) (hS : va_S A s.heap H locs) (hl : lv_has ls 7 [(4, .int 0), (3, .ref o3), (2, .ref mq), (1, .ref x), (0, .ref bs)]) : W p l e room_1 s m #[Value.ref bs] below meth c H locs 129 248806 (lw_Z below #[Value.ref bs] s) (F0 m 1889 ls []) := by
  obtain ⟨hx, hb, hr, hml, hown, hts, hX, hbl, hlocks, hgv⟩ := id C0
  have htw : ∀ w ∈ wsL_law, w.before _ s = true := fun w h => hts w (wsL_law_in w h)
  have hown : s.vm.findClass RL = some m.cls := hown
  have hA : ∀ q : Nat, s.heap.size ≤ q → A q := fun q h => (hAe q).mpr h
  have hbA : ¬ A bs := fun h => absurd ((hAe bs).mp h) (Nat.not_le.mpr hbl)
  refine lv_aload_n hx hb dL_law_1889 rfl (lv_at hl 3 rfl) ?_
  refine lv_aload_n hx hb dL_law_1890 rfl (lv_at hl 4 rfl) ?_
  refine lv_iload hx hb dL_law_1891 (lv_at hl 0 rfl) ?_
  refine lv_iconst (v := 1) hx hb dL_law_1893 (by decide) ?_
  refine lv_iadd hx hb dL_law_1894 ?_
  refine lv_topi (fun z_1 ez_1 => ?_)
  obtain rfl : z_1 = 1 := ez_1.trans (by decide)
  refine va_sld hx hb hX hbl hbA hS (by unfold vp_in; decide) dL_law_1895 ?_
  refine lv_topi (fun z_2 ez_2 => ?_)
  obtain rfl : z_2 = xs 1 := ez_2
  refine lv_aload_n hx hb dL_law_1896 rfl (lv_at hl 4 rfl) ?_
  refine lv_iload hx hb dL_law_1897 (lv_at hl 0 rfl) ?_
  refine lv_iconst (v := 2) hx hb dL_law_1899 (by decide) ?_
  refine lv_iadd hx hb dL_law_1900 ?_
  refine lv_topi (fun z_3 ez_3 => ?_)
  obtain rfl : z_3 = 2 := ez_3.trans (by decide)
  refine va_sld hx hb hX hbl hbA hS (by unfold vp_in; decide) dL_law_1901 ?_
  refine lv_topi (fun z_4 ez_4 => ?_)
  obtain rfl : z_4 = xs 2 := ez_4
  have hPc := hP.sub (ws' := [(x, .inr (11, [.ref xpa, .ref b, .ref xsp, .ref xdy, .ref xle, .ref xst, .int 0, .ref xim, .ref xil, .int 0, .ref xmo, .ref xom, .ref xwi])), (b, .inr (0, [.ref bto, .ref bnm, .ref bla, .ref bsk, .ref bru, .ref bbo, .ref bdi, .ref bda, .ref bdk, .ref bdt, .ref bdp, .ref bno])), (bno, .inr (6, [.int 0, .ref bnos, .ref bnof, .ref bnoz]))]) [0, 1, 2] rfl
  have hKc := hK.sub (tys' := []) [] rfl
  refine vp_callSi (W.runV (As := [.int (xs 1), .int (xs 2)]) (rest := []) ⟨hx, hb, hml, hown, htw⟩ (mx_fits l dC dI x xpa xsp xdy xle xst xim xil xmo xom xwi b bto bnm bla bsk bru bbo bdi bda bdk bdt bdp bno bnos bnof bnoz (xs 1) (xs 2)) (cwV 2 htw (xg_V (ck_59 _ (List.mem_of_getElem? (i := 23) rfl)) (ck_60 _ (List.mem_of_getElem? (i := 0) rfl)) (ck_60 _ (List.mem_of_getElem? (i := 1) rfl)) (ck_1 _ (List.mem_of_getElem? (i := 2) rfl)) (ck_60 _ (List.mem_of_getElem? (i := 2) rfl))) rfl rfl rfl (by decide +kernel) ⟨Nat.le_of_ble_eq_true rfl, Nat.le_of_ble_eq_true rfl⟩) ⟨fun a U g mk q => by obtain ⟨q0, qP, qK⟩ := q; exact ⟨q0, qP, va_K.moved (u := U) (U := U.calling g mk a) (Vm.Alike.refl U.vm) qK⟩, va_recv hKc hPc (ci := 11) (q0 := 0) rfl rfl, fun U hU hW => ⟨rfl, by rw [hU]; exact hPc, va_K.moved hW.alike hKc⟩⟩ rfl rfl hl.1 rfl (lv_room (Nat.le_of_ble_eq_true rfl)) dL_law_1902 ⟨Nat.le_of_ble_eq_true rfl, Nat.le_of_ble_eq_true rfl⟩) (fun r_5 hw => ?_)
  try dsimp only at hw
  obtain rfl : r_5 = (-1) := hw
  refine lv_aload_n hx hb dL_law_1905 rfl (lv_at hl 2 rfl) ?_
  refine lv_aload_n hx hb dL_law_1906 rfl (lv_at hl 4 rfl) ?_
  refine lv_iload hx hb dL_law_1907 (lv_at hl 0 rfl) ?_
  refine lv_iconst (v := 1) hx hb dL_law_1909 (by decide) ?_
  refine lv_iadd hx hb dL_law_1910 ?_
  refine lv_topi (fun z_6 ez_6 => ?_)
  obtain rfl : z_6 = 1 := ez_6.trans (by decide)
  refine va_sld hx hb hX hbl hbA hS (by unfold vp_in; decide) dL_law_1911 ?_
  refine lv_topi (fun z_7 ez_7 => ?_)
  obtain rfl : z_7 = xs 1 := ez_7
  refine lv_aload_n hx hb dL_law_1912 rfl (lv_at hl 4 rfl) ?_
  refine lv_iload hx hb dL_law_1913 (lv_at hl 0 rfl) ?_
  refine lv_iconst (v := 2) hx hb dL_law_1915 (by decide) ?_
  refine lv_iadd hx hb dL_law_1916 ?_
  refine lv_topi (fun z_8 ez_8 => ?_)
  obtain rfl : z_8 = 2 := ez_8.trans (by decide)
  refine va_sld hx hb hX hbl hbA hS (by unfold vp_in; decide) dL_law_1917 ?_
  refine lv_topi (fun z_9 ez_9 => ?_)
  obtain rfl : z_9 = xs 2 := ez_9
  have hPc := hP.sub (ws' := [(mq, .inr (12, [.ref mtp, .int 0, .int 0, .ref mywords, .int 0, .int (-1), .int 0, .int 0, .int 0, .int 0, .int 0, .int 0, .int 0, .int 0, .int 0, .int 0, .int 0, .int 0, .int 0, .int 0, .int 0, .int 0, .int 0, .int 0, .ref msk, .int 0, .int 0, .int 0, .ref mln, .ref mlh, .ref mfn, .ref mfi, .ref mla, .ref mpn, .ref mbo, .ref mdi, .ref mdn, .ref mdo, .ref mdh, .ref mnn, .ref mnh, .ref mkn, .ref mpt, .ref mot, .long 0, .ref mywait, .ref myheld, .int 0, .int 0, .int 0, .int 0, .int 0, .int 0, .long 0, .long 0, .ref mynames, .ref myvalue, .int 0, .int 0, .int 0, .ref mun, .ref mycan, .int 0, .int 0, .int 0, .ref myroot, .ref myoff, .int 0, .ref mtn, .ref mtc, .int 0, .int 0, .int 0, .ref mkh, .ref mkt, .ref mkc]))]) [3] rfl
  have hKc := hK.sub (tys' := []) [] rfl
  have hDc := hD.sub (ws' := [(mq, .inr (12, [.ref mtp, .int 0, .int 0, .ref mywords, .int 0, .int (-1), .int 0, .int 0, .int 0, .int 0, .int 0, .int 0, .int 0, .int 0, .int 0, .int 0, .int 0, .int 0, .int 0, .int 0, .int 0, .int 0, .int 0, .int 0, .ref msk, .int 0, .int 0, .int 0, .ref mln, .ref mlh, .ref mfn, .ref mfi, .ref mla, .ref mpn, .ref mbo, .ref mdi, .ref mdn, .ref mdo, .ref mdh, .ref mnn, .ref mnh, .ref mkn, .ref mpt, .ref mot, .long 0, .ref mywait, .ref myheld, .int 0, .int 0, .int 0, .int 0, .int 0, .int 0, .long 0, .long 0, .ref mynames, .ref myvalue, .int 0, .int 0, .int 0, .ref mun, .ref mycan, .int 0, .int 0, .int 0, .ref myroot, .ref myoff, .int 0, .ref mtn, .ref mtc, .int 0, .int 0, .int 0, .ref mkh, .ref mkt, .ref mkc]))]) [3] (by decide) rfl
  have hFc := va_free (wc := [(mq, .inr (12, [.ref mtp, .int 0, .int 0, .ref mywords, .int 0, .int (-1), .int 0, .int 0, .int 0, .int 0, .int 0, .int 0, .int 0, .int 0, .int 0, .int 0, .int 0, .int 0, .int 0, .int 0, .int 0, .int 0, .int 0, .int 0, .ref msk, .int 0, .int 0, .int 0, .ref mln, .ref mlh, .ref mfn, .ref mfi, .ref mla, .ref mpn, .ref mbo, .ref mdi, .ref mdn, .ref mdo, .ref mdh, .ref mnn, .ref mnh, .ref mkn, .ref mpt, .ref mot, .long 0, .ref mywait, .ref myheld, .int 0, .int 0, .int 0, .int 0, .int 0, .int 0, .long 0, .long 0, .ref mynames, .ref myvalue, .int 0, .int 0, .int 0, .ref mun, .ref mycan, .int 0, .int 0, .int 0, .ref myroot, .ref myoff, .int 0, .ref mtn, .ref mtc, .int 0, .int 0, .int 0, .ref mkh, .ref mkt, .ref mkc]))]) hD hS hA [3] rfl
  refine va_calli (va_runV (As := [.int (xs 1), .int (xs 2)]) (rest := [.int (-1)]) ⟨hx, hb, hml, hown, htw⟩ (mm_fits l dC dI mq ([.ref mtp, .int 0, .int 0, .ref mywords, .int 0, .int (-1), .int 0, .int 0, .int 0, .int 0, .int 0, .int 0, .int 0, .int 0, .int 0, .int 0, .int 0, .int 0, .int 0, .int 0, .int 0, .int 0, .int 0, .int 0, .ref msk, .int 0, .int 0, .int 0, .ref mln, .ref mlh, .ref mfn, .ref mfi, .ref mla, .ref mpn, .ref mbo, .ref mdi, .ref mdn, .ref mdo, .ref mdh, .ref mnn, .ref mnh, .ref mkn, .ref mpt, .ref mot, .long 0, .ref mywait, .ref myheld, .int 0, .int 0, .int 0, .int 0, .int 0, .int 0, .long 0, .long 0, .ref mynames, .ref myvalue, .int 0, .int 0, .int 0, .ref mun, .ref mycan, .int 0, .int 0, .int 0, .ref myroot, .ref myoff, .int 0, .ref mtn, .ref mtc, .int 0, .int 0, .int 0, .ref mkh, .ref mkt, .ref mkc]) (xs 1) (xs 2) H.size rfl rfl) (cwV 2 htw (xg_V (ck_60 _ (List.mem_of_getElem? (i := 19) rfl)) (ck_60 _ (List.mem_of_getElem? (i := 20) rfl)) (ck_60 _ (List.mem_of_getElem? (i := 21) rfl)) (ck_1 _ (List.mem_of_getElem? (i := 5) rfl)) (ck_60 _ (List.mem_of_getElem? (i := 22) rfl))) rfl rfl rfl (by decide +kernel) ⟨Nat.le_of_ble_eq_true rfl, Nat.le_of_ble_eq_true rfl⟩) ⟨fun a U g mk q => by obtain ⟨q0, q1, qP, qK, qD⟩ := q; exact ⟨q0, q1, qP, va_K.moved (u := U) (U := U.calling g mk a) (Vm.Alike.refl U.vm) qK, qD⟩, va_recv hKc hPc (ci := 12) (q0 := 0) rfl rfl, fun U hU hW => ⟨rfl, by rw [hU], by rw [hU]; exact hPc, va_K.moved hW.alike hKc, hDc.weaken (fun _ _ _ _ => trivial)⟩⟩ rfl rfl hl.1 rfl (lv_room (Nat.le_of_ble_eq_true rfl)) dL_law_1918 ⟨Nat.le_of_ble_eq_true rfl, Nat.le_of_ble_eq_true rfl⟩) hS (fun q _ h => hFc q h) hFc (fun r_10 u_11 t H1 locs ht hvm hw hB hz1 hk1 hS => ?_)
  try dsimp only at hw
  have hP1 : va_P (dC, dI) vwCl [] H1 := fun k q h => by simp at h
  have hD1 : va_D (va_A [(mq, .inr (12, [.ref mtp, .int 0, .int 0, .ref mywords, .int 0, .int (-1), .int 0, .int 0, .int 0, .int 0, .int 0, .int 0, .int 0, .int 0, .int 0, .int 0, .int 0, .int 0, .int 0, .int 0, .int 0, .int 0, .int 0, .int 0, .ref msk, .int 0, .int 0, .int 0, .ref mln, .ref mlh, .ref mfn, .ref mfi, .ref mla, .ref mpn, .ref mbo, .ref mdi, .ref mdn, .ref mdo, .ref mdh, .ref mnn, .ref mnh, .ref mkn, .ref mpt, .ref mot, .long 0, .ref mywait, .ref myheld, .int 0, .int 0, .int 0, .int 0, .int 0, .int 0, .long 0, .long 0, .ref mynames, .ref myvalue, .int 0, .int 0, .int 0, .ref mun, .ref mycan, .int 0, .int 0, .int 0, .ref myroot, .ref myoff, .int 0, .ref mtn, .ref mtc, .int 0, .int 0, .int 0, .ref mkh, .ref mkt, .ref mkc]))] H.size) [] := ⟨fun i j p q h => by simp at h, fun k q h => by simp at h⟩
  obtain ⟨hP, hD⟩ := va_join (wr := [(x, .inr (11, [.ref xpa, .ref b, .ref xsp, .ref xdy, .ref xle, .ref xst, .int 0, .ref xim, .ref xil, .int 0, .ref xmo, .ref xom, .ref xwi])), (b, .inr (0, [.ref bto, .ref bnm, .ref bla, .ref bsk, .ref bru, .ref bbo, .ref bdi, .ref bda, .ref bdk, .ref bdt, .ref bdp, .ref bno])), (bno, .inr (6, [.int 0, .ref bnos, .ref bnof, .ref bnoz]))]) (w1 := []) hP hD [3] [0, 1, 2] rfl rfl (by decide) (by decide) hk1 hFc hP1 hD1
  generalize H1 = H at hP hS ⊢
  have hP : va_P (dC, dI) vwCl [(x, .inr (11, [.ref xpa, .ref b, .ref xsp, .ref xdy, .ref xle, .ref xst, .int 0, .ref xim, .ref xil, .int 0, .ref xmo, .ref xom, .ref xwi])), (b, .inr (0, [.ref bto, .ref bnm, .ref bla, .ref bsk, .ref bru, .ref bbo, .ref bdi, .ref bda, .ref bdk, .ref bdt, .ref bdp, .ref bno])), (bno, .inr (6, [.int 0, .ref bnos, .ref bnof, .ref bnoz]))] H := hP
  have hD : va_D A [(x, .inr (11, [.ref xpa, .ref b, .ref xsp, .ref xdy, .ref xle, .ref xst, .int 0, .ref xim, .ref xil, .int 0, .ref xmo, .ref xom, .ref xwi])), (b, .inr (0, [.ref bto, .ref bnm, .ref bla, .ref bsk, .ref bru, .ref bbo, .ref bdi, .ref bda, .ref bdk, .ref bdt, .ref bdp, .ref bno])), (bno, .inr (6, [.int 0, .ref bnos, .ref bnof, .ref bnoz]))] := hD
  refine W.widen (k := 129) (n := 248806) (by omega) (by omega) ?_
  obtain rfl : r_10 = (-1) := hw
  refine lv_icmp_eq (tgt := 2053) hx hb dL_law_1921 (by decide) (fun _ => ?_) (fun c => absurd c (by decide))
  refine lv_iinc (v := 6) (lv' := [(4, .int 6), (3, .ref o3), (2, .ref mq), (1, .ref x), (0, .ref bs)]) hx hb dL_law_2053 hl (k := 0) rfl (by decide) (by decide) rfl (fun ls hl => ?_)
  refine lv_goto (tgt := 23) hx hb dL_law_2056 (by decide) ?_
  refine lv_iload hx hb dL_law_23 (lv_at hl 0 rfl) ?_
  refine lv_aload_n hx hb dL_law_25 rfl (lv_at hl 4 rfl) ?_
  refine va_slen hx hb hX hbl hbA hS dL_law_26 ?_
  refine lv_topi (fun z_12 ez_12 => ?_)
  obtain rfl : z_12 = 6 := ez_12.trans (by decide)
  refine lv_bipush (v := 6) hx hb dL_law_27 (by decide) ?_
  refine lv_isub hx hb dL_law_29 ?_
  refine lv_topi (fun z_13 ez_13 => ?_)
  obtain rfl : z_13 = 0 := ez_13.trans (by decide)
  refine lv_icmp_gt (tgt := 2059) hx hb dL_law_30 (by decide) (fun _ => ?_) (fun c => absurd c (by decide))
  refine lv_iconst (v := 1) hx hb dL_law_2059 (by decide) ?_
  refine va_forget (fun q hq => (hAe _).mp (hS.2.2 q hq)) ?_
  refine W.widen (k := 600002) (n := 7302232) (by omega) (by omega) ?_
  exact lw_ret hx hb hr hlocks dL_law_2060
