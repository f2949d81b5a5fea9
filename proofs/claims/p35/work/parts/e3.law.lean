theorem dL_law_441 : decode cL_law 441 = .ok (.aload_n 1, 1) := zk_43 (by decide +kernel)
theorem dL_law_442 : decode cL_law 442 = .ok (.aload_n 0, 1) := zk_42 (by decide +kernel)
theorem dL_law_443 : decode cL_law 443 = .ok (.iload 4, 2) := zk_21 (by decide +kernel)
theorem dL_law_445 : decode cL_law 445 = .ok (.iconst 1, 1) := zk_4 (by decide +kernel)
theorem dL_law_446 : decode cL_law 446 = .ok (.iadd, 1) := zk_96 (by decide +kernel)
theorem dL_law_447 : decode cL_law 447 = .ok (.iaload, 1) := zk_46 (by decide +kernel)
theorem dL_law_448 : decode cL_law 448 = .ok (.aload_n 0, 1) := zk_42 (by decide +kernel)
theorem dL_law_449 : decode cL_law 449 = .ok (.iload 4, 2) := zk_21 (by decide +kernel)
theorem dL_law_451 : decode cL_law 451 = .ok (.iconst 2, 1) := zk_5 (by decide +kernel)
theorem dL_law_452 : decode cL_law 452 = .ok (.iadd, 1) := zk_96 (by decide +kernel)
theorem dL_law_453 : decode cL_law 453 = .ok (.iaload, 1) := zk_46 (by decide +kernel)
theorem dL_law_454 : decode cL_law 454 = .ok (.i2l, 1) := zk_133 (by decide +kernel)
theorem dL_law_455 : decode cL_law 455 = .ok (.bipush 32, 2) := zk_16 (by decide +kernel)
theorem dL_law_457 : decode cL_law 457 = .ok (.lshl, 1) := zk_121 (by decide +kernel)
theorem dL_law_458 : decode cL_law 458 = .ok (.aload_n 0, 1) := zk_42 (by decide +kernel)
theorem dL_law_459 : decode cL_law 459 = .ok (.iload 4, 2) := zk_21 (by decide +kernel)
theorem dL_law_461 : decode cL_law 461 = .ok (.iconst 3, 1) := zk_6 (by decide +kernel)
theorem dL_law_462 : decode cL_law 462 = .ok (.iadd, 1) := zk_96 (by decide +kernel)
theorem dL_law_463 : decode cL_law 463 = .ok (.iaload, 1) := zk_46 (by decide +kernel)
theorem dL_law_464 : decode cL_law 464 = .ok (.i2l, 1) := zk_133 (by decide +kernel)
theorem dL_law_465 : decode cL_law 465 = .ok (.ldc2_w 50, 3) := zk_20 (by decide +kernel)
theorem dL_law_468 : decode cL_law 468 = .ok (.land, 1) := zk_127 (by decide +kernel)
theorem dL_law_469 : decode cL_law 469 = .ok (.lor, 1) := zk_129 (by decide +kernel)
theorem dL_law_470 : decode cL_law 470 = .ok (.aload_n 0, 1) := zk_42 (by decide +kernel)
theorem dL_law_471 : decode cL_law 471 = .ok (.iload 4, 2) := zk_21 (by decide +kernel)
theorem dL_law_473 : decode cL_law 473 = .ok (.iconst 4, 1) := zk_7 (by decide +kernel)
theorem dL_law_474 : decode cL_law 474 = .ok (.iadd, 1) := zk_96 (by decide +kernel)
theorem dL_law_475 : decode cL_law 475 = .ok (.iaload, 1) := zk_46 (by decide +kernel)
theorem dL_law_476 : decode cL_law 476 = .ok (.invokevirtual 52, 3) := zk_182 (by decide +kernel)
theorem dL_law_479 : decode cL_law 479 = .ok (.pop2, 1) := zk_88 (by decide +kernel)
theorem dL_law_480 : decode cL_law 480 = .ok (.aload_n 2, 1) := zk_44 (by decide +kernel)
theorem dL_law_481 : decode cL_law 481 = .ok (.aload_n 0, 1) := zk_42 (by decide +kernel)
theorem dL_law_482 : decode cL_law 482 = .ok (.iload 4, 2) := zk_21 (by decide +kernel)
theorem dL_law_484 : decode cL_law 484 = .ok (.iconst 1, 1) := zk_4 (by decide +kernel)
theorem dL_law_485 : decode cL_law 485 = .ok (.iadd, 1) := zk_96 (by decide +kernel)
theorem dL_law_486 : decode cL_law 486 = .ok (.iaload, 1) := zk_46 (by decide +kernel)
theorem dL_law_487 : decode cL_law 487 = .ok (.aload_n 0, 1) := zk_42 (by decide +kernel)
theorem dL_law_488 : decode cL_law 488 = .ok (.iload 4, 2) := zk_21 (by decide +kernel)
theorem dL_law_490 : decode cL_law 490 = .ok (.iconst 2, 1) := zk_5 (by decide +kernel)
theorem dL_law_491 : decode cL_law 491 = .ok (.iadd, 1) := zk_96 (by decide +kernel)
theorem dL_law_492 : decode cL_law 492 = .ok (.iaload, 1) := zk_46 (by decide +kernel)
theorem dL_law_493 : decode cL_law 493 = .ok (.i2l, 1) := zk_133 (by decide +kernel)
theorem dL_law_494 : decode cL_law 494 = .ok (.bipush 32, 2) := zk_16 (by decide +kernel)
theorem dL_law_496 : decode cL_law 496 = .ok (.lshl, 1) := zk_121 (by decide +kernel)
theorem dL_law_497 : decode cL_law 497 = .ok (.aload_n 0, 1) := zk_42 (by decide +kernel)
theorem dL_law_498 : decode cL_law 498 = .ok (.iload 4, 2) := zk_21 (by decide +kernel)
theorem dL_law_500 : decode cL_law 500 = .ok (.iconst 3, 1) := zk_6 (by decide +kernel)
theorem dL_law_501 : decode cL_law 501 = .ok (.iadd, 1) := zk_96 (by decide +kernel)
theorem dL_law_502 : decode cL_law 502 = .ok (.iaload, 1) := zk_46 (by decide +kernel)
theorem dL_law_503 : decode cL_law 503 = .ok (.i2l, 1) := zk_133 (by decide +kernel)
theorem dL_law_504 : decode cL_law 504 = .ok (.ldc2_w 50, 3) := zk_20 (by decide +kernel)
theorem dL_law_507 : decode cL_law 507 = .ok (.land, 1) := zk_127 (by decide +kernel)
theorem dL_law_508 : decode cL_law 508 = .ok (.lor, 1) := zk_129 (by decide +kernel)
theorem dL_law_509 : decode cL_law 509 = .ok (.aload_n 0, 1) := zk_42 (by decide +kernel)
theorem dL_law_510 : decode cL_law 510 = .ok (.iload 4, 2) := zk_21 (by decide +kernel)
theorem dL_law_512 : decode cL_law 512 = .ok (.iconst 4, 1) := zk_7 (by decide +kernel)
theorem dL_law_513 : decode cL_law 513 = .ok (.iadd, 1) := zk_96 (by decide +kernel)
theorem dL_law_514 : decode cL_law 514 = .ok (.iaload, 1) := zk_46 (by decide +kernel)
theorem dL_law_515 : decode cL_law 515 = .ok (.invokevirtual 56, 3) := zk_182 (by decide +kernel)
theorem dL_law_518 : decode cL_law 518 = .ok (.pop2, 1) := zk_88 (by decide +kernel)
theorem dL_law_519 : decode cL_law 519 = .ok (.goto 1493, 3) := zk_167 (by decide +kernel)
set_option maxHeartbeats 4000000 in
set_option maxRecDepth 100000 in
theorem law_date (l : Launch) (hst : l.stackTraces = false) {p : Program} {e : Env} {s : State} {m : MethodId} {below : List Frame} {meth : Method} {c : Code} {bs L : Nat} {xs : Nat → Int32} (C0 : lw_At p s m meth c bs L xs) (dC : Nat → ClassId) (dI : Nat → Nat → Nat) (A : Nat → Prop) (hAe : ∀ q, A q ↔ s.heap.size ≤ q) (x : Nat) (pa : Nat) (bk : Nat) (xsp : Nat) (xdy : Nat) (le : Nat) (xst : Nat) (xsc : Int32) (xim : Nat) (xil : Nat) (xik : Int32) (xmo : Nat) (xom : Nat) (wi : Nat) (bto : Nat) (bnm : Nat) (bla : Nat) (bsk : Nat) (bru : Nat) (bbo : Nat) (bdi : Nat) (bda : Nat) (bdk : Nat) (bdt : Nat) (bdp : Nat) (bno : Nat) (cTo : ClassId) (fTo : Nat → Int32) (cLa : ClassId) (La : Nat → Nat) (FI : Nat → Int32) (GR : Nat → Int32) (FR : Nat → Int32) (mq : Nat) (g : Nat → Int32) (gl : Nat → Int64) (rf : Nat → Nat) (ck : Nat → ClassId) (f_landHas : Nat → Int32) (o3 : Nat) (hln0 : ¬ (g 12) < 0) (hln4 : (g 12) ≤ 4) (hLZ : ∀ k : Int32, ¬ k < 0 → k < (g 12) → ¬ (f_landHas ((3 * k).toNatClampNeg)) = 0) (sL : Nat → Nat) (hNx : xN s) (i y1 y2 y3 y4 : Int32) (hi1 : vp_in (i + 1) L) (hy1 : xs (i + 1).toNatClampNeg = y1) (hi2 : vp_in (i + 2) L) (hy2 : xs (i + 2).toNatClampNeg = y2) (hi3 : vp_in (i + 3) L) (hy3 : xs (i + 3).toNatClampNeg = y3) (hi4 : vp_in (i + 4) L) (hy4 : xs (i + 4).toNatClampNeg = y4)  (Bp : Nat → Prop) (H0 : Heap) (locs : List Loc) (ls : Array Slot) (ce sl : Nat) (hce : ce + 1 ≤ 601024) (hsl : sl + 6 ≤ 7293034) (hK : va_K (dC, dI) vwCl [(cTo, .int), (cLa, .object RX1), ((ck 29), .int)] s) (hP : va_P (dC, dI) vwCl [(eO11a x pa bk xsp xdy le xst xsc xim xil xik xmo xom wi), (eO0a bk bto bnm bla bsk bru bbo bdi bda bdk bdt bdp bno), (eA0 bto cTo 5 fTo), (eA4 bla cLa 4 (fun k => some (La k))), (eO1a (La 0) (FI 0) (GR 0) (FR 0)), (eO1a (La 1) (FI 1) (GR 1) (FR 1)), (eO1a (La 2) (FI 2) (GR 2) (FR 2)), (eO1a (La 3) (FI 3) (GR 3) (FR 3)), (mq, .inr (12, mF g gl rf)), (eA0 (rf 29) (ck 29) 24 f_landHas)] H0) (hD : va_D A [(eO11a x pa bk xsp xdy le xst xsc xim xil xik xmo xom wi), (eO0a bk bto bnm bla bsk bru bbo bdi bda bdk bdt bdp bno), (eA0 bto cTo 5 fTo), (eA4 bla cLa 4 (fun k => some (La k))), (eO1a (La 0) (FI 0) (GR 0) (FR 0)), (eO1a (La 1) (FI 1) (GR 1) (FR 1)), (eO1a (La 2) (FI 2) (GR 2) (FR 2)), (eO1a (La 3) (FI 3) (GR 3) (FR 3)), (mq, .inr (12, mF g gl rf)), (eA0 (rf 29) (ck 29) 24 f_landHas)]) (hBs : yB Bp [(eO11a x pa bk xsp xdy le xst xsc xim xil xik xmo xom wi), (eO0a bk bto bnm bla bsk bru bbo bdi bda bdk bdt bdp bno), (eA0 bto cTo 5 fTo), (eA4 bla cLa 4 (fun k => some (La k))), (eO1a (La 0) (FI 0) (GR 0) (FR 0)), (eO1a (La 1) (FI 1) (GR 1) (FR 1)), (eO1a (La 2) (FI 2) (GR 2) (FR 2)), (eO1a (La 3) (FI 3) (GR 3) (FR 3)), (mq, .inr (12, mF g gl rf)), (eA0 (rf 29) (ck 29) 24 f_landHas)]) (hS : va_S A s.heap H0 locs) (hl : lv_has ls 7 [(4, .int i), (3, .ref o3), (2, .ref mq), (1, .ref x), (0, .ref bs)]) (kk1 : ∀ (r_5 : Int64), r_5 = (fx_date fTo FI GR FR y1 ((y2.toInt64 <<< ((32 : Int32).toInt64 &&& 63)) ||| (y3.toInt64 &&& 4294967295)) y4) → ∀ (X_15 : Int64 × (Int32) × (Int64) × (Int64)), X_15 = (fq_date f_landHas y1 ((y2.toInt64 <<< ((32 : Int32).toInt64 &&& 63)) ||| (y3.toInt64 &&& 4294967295)) y4 (g 12) (gl 53) (gl 54)) → ∀ (r_10 : Int64), r_10 = X_15.1 → ∀ (u_11 : (Int32) × (Int64) × (Int64)), u_11 = X_15.2 → ∀ (H : Heap) (locs : List Loc) (ls : Array Slot), va_P (dC, dI) vwCl [(eO11a x pa bk xsp xdy le xst xsc xim xil xik xmo xom wi), (eO0a bk bto bnm bla bsk bru bbo bdi bda bdk bdt bdp bno), (eA0 bto cTo 5 fTo), (eA4 bla cLa 4 (fun k => some (La k))), (eO1a (La 0) (FI 0) (GR 0) (FR 0)), (eO1a (La 1) (FI 1) (GR 1) (FR 1)), (eO1a (La 2) (FI 2) (GR 2) (FR 2)), (eO1a (La 3) (FI 3) (GR 3) (FR 3)), (mq, .inr (12, mF (upd g 2 u_11.1) (vp_updL (vp_updL gl 53 u_11.2.1) 54 u_11.2.2) rf)), (eA0 (rf 29) (ck 29) 24 f_landHas)] H → va_S A s.heap H locs → lv_has ls 7 [(4, .int i), (3, .ref o3), (2, .ref mq), (1, .ref x), (0, .ref bs)] → H0.size ≤ H.size → (∀ q : Nat, q < H0.size → ¬ Bp q → H[q]? = H0[q]?) → W p l e room_1 s m #[Value.ref bs] below meth c H locs (ce + 1) (sl + 6) (lw_Z below #[Value.ref bs] s) (F0 m 2012 ls [])) : W p l e room_1 s m #[Value.ref bs] below meth c H0 locs ce sl (lw_Z below #[Value.ref bs] s) (F0 m 441 ls []) := by
  obtain ⟨hx, hb, hr, hml, hown, hts, hX, hbl, hlocks, hgv⟩ := id C0
  have htw : ∀ w ∈ wsL_law, w.before _ s = true := fun w h => hts w (wsL_law_in w h)
  have hown : s.vm.findClass RL = some m.cls := hown
  have hA : ∀ q : Nat, s.heap.size ≤ q → A q := fun q h => (hAe q).mpr h
  have hbA : ¬ A bs := fun h => absurd ((hAe bs).mp h) (Nat.not_le.mpr hbl)
  obtain ⟨H, rH⟩ : ∃ z : Heap, z = H0 := ⟨_, rfl⟩
  have hfr : ∀ q : Nat, q < H0.size → ¬ Bp q → H[q]? = H0[q]? := fun q _ _ => by rw [rH]
  have hz0 : H0.size ≤ H.size := by rw [rH]; exact Nat.le_refl _
  rw [← rH] at hP hS ⊢
  refine lv_aload_n hx hb dL_law_441 rfl (lv_at hl 3 rfl) ?_
  refine lv_aload_n hx hb dL_law_442 rfl (lv_at hl 4 rfl) ?_
  refine lv_iload hx hb dL_law_443 (lv_at hl 0 rfl) ?_
  refine lv_iconst (v := 1) hx hb dL_law_445 (by decide) ?_
  refine lv_iadd hx hb dL_law_446 ?_
  refine va_sld hx hb hX hbl hbA hS hi1 dL_law_447 ?_
  rw [hy1]
  refine lv_aload_n hx hb dL_law_448 rfl (lv_at hl 4 rfl) ?_
  refine lv_iload hx hb dL_law_449 (lv_at hl 0 rfl) ?_
  refine lv_iconst (v := 2) hx hb dL_law_451 (by decide) ?_
  refine lv_iadd hx hb dL_law_452 ?_
  refine va_sld hx hb hX hbl hbA hS hi2 dL_law_453 ?_
  rw [hy2]
  refine lv_i2l (v := y2.toInt64) hx hb dL_law_454 rfl ?_
  refine lv_bipush (v := 32) hx hb dL_law_455 (by decide) ?_
  refine lv_lshl (v := (y2.toInt64 <<< ((32 : Int32).toInt64 &&& 63))) hx hb dL_law_457 rfl ?_
  refine lv_aload_n hx hb dL_law_458 rfl (lv_at hl 4 rfl) ?_
  refine lv_iload hx hb dL_law_459 (lv_at hl 0 rfl) ?_
  refine lv_iconst (v := 3) hx hb dL_law_461 (by decide) ?_
  refine lv_iadd hx hb dL_law_462 ?_
  refine va_sld hx hb hX hbl hbA hS hi3 dL_law_463 ?_
  rw [hy3]
  refine lv_i2l (v := y3.toInt64) hx hb dL_law_464 rfl ?_
  refine lv_ldc2 (v := 4294967295) hx hb hown (htw _ (ck_1 _ (List.mem_of_getElem? (i := 7) rfl))) dL_law_465 ?_
  refine lv_land hx hb dL_law_468 ?_
  refine lv_lor hx hb dL_law_469 ?_
  refine lv_aload_n hx hb dL_law_470 rfl (lv_at hl 4 rfl) ?_
  refine lv_iload hx hb dL_law_471 (lv_at hl 0 rfl) ?_
  refine lv_iconst (v := 4) hx hb dL_law_473 (by decide) ?_
  refine lv_iadd hx hb dL_law_474 ?_
  refine va_sld hx hb hX hbl hbA hS hi4 dL_law_475 ?_
  rw [hy4]
  have hPc := hP.sub (ws' := [(eO11a x pa bk xsp xdy le xst xsc xim xil xik xmo xom wi), (eO0a bk bto bnm bla bsk bru bbo bdi bda bdk bdt bdp bno), (eA0 bto cTo 5 fTo), (eA4 bla cLa 4 (fun k => some (La k))), (eO1a (La 0) (FI 0) (GR 0) (FR 0)), (eO1a (La 1) (FI 1) (GR 1) (FR 1)), (eO1a (La 2) (FI 2) (GR 2) (FR 2)), (eO1a (La 3) (FI 3) (GR 3) (FR 3))]) [0, 1, 2, 3, 4, 5, 6, 7] rfl
  have hKc := hK.sub (tys' := [(cTo, .int), (cLa, .object RX1)]) [0, 1] rfl
  refine vp_callSl (W.runV (As := [.int y1, .long ((y2.toInt64 <<< ((32 : Int32).toInt64 &&& 63)) ||| (y3.toInt64 &&& 4294967295)), .int y4]) (rest := []) ⟨hx, hb, hml, hown, htw⟩ (gx_date l dC dI x pa bk xsp xdy le xst xsc xim xil xik xmo xom wi bto bnm bla bsk bru bbo bdi bda bdk bdt bdp bno cTo fTo cLa La FI GR FR y1 ((y2.toInt64 <<< ((32 : Int32).toInt64 &&& 63)) ||| (y3.toInt64 &&& 4294967295)) y4) (cwV 3 htw (xg_V (ck_35 _ (List.mem_of_getElem? (i := 7) rfl)) (ck_35 _ (List.mem_of_getElem? (i := 8) rfl)) (ck_35 _ (List.mem_of_getElem? (i := 9) rfl)) (ck_1 _ (List.mem_of_getElem? (i := 2) rfl)) (ck_35 _ (List.mem_of_getElem? (i := 10) rfl))) rfl rfl rfl (by exact ⟨rfl, hdc_8.1, hdc_8.2, hdd_58⟩) ⟨Nat.le_of_ble_eq_true rfl, Nat.le_of_ble_eq_true rfl⟩) ⟨fun a U g mk q => by obtain ⟨q0, qP, qK, qx⟩ := q; exact ⟨q0, qP, va_K.moved (u := U) (U := U.calling g mk a) (Vm.Alike.refl U.vm) qK, xN.calling qx⟩, va_recv hKc hPc (ci := 11) (q0 := 0) rfl rfl, fun U hU hW => ⟨rfl, by rw [hU]; exact hPc, va_K.moved hW.alike hKc, xN.warm hW hNx⟩⟩ rfl rfl hl.1 rfl (lv_room (Nat.le_of_ble_eq_true rfl)) dL_law_476 ⟨by first | exact Nat.le_of_ble_eq_true rfl | exact yR (n := 0) (by omega) rfl, by first | exact Nat.le_of_ble_eq_true rfl | exact yR2 (n := 0) (by omega) rfl⟩) (fun r_5 hw => ?_)
  try dsimp only at hw
  have hq_r_5 : r_5 = (fx_date fTo FI GR FR y1 ((y2.toInt64 <<< ((32 : Int32).toInt64 &&& 63)) ||| (y3.toInt64 &&& 4294967295)) y4) := hw
  refine lv_pop2_2 hx hb dL_law_479 rfl ?_
  refine lv_aload_n hx hb dL_law_480 rfl (lv_at hl 2 rfl) ?_
  refine lv_aload_n hx hb dL_law_481 rfl (lv_at hl 4 rfl) ?_
  refine lv_iload hx hb dL_law_482 (lv_at hl 0 rfl) ?_
  refine lv_iconst (v := 1) hx hb dL_law_484 (by decide) ?_
  refine lv_iadd hx hb dL_law_485 ?_
  refine va_sld hx hb hX hbl hbA hS hi1 dL_law_486 ?_
  rw [hy1]
  refine lv_aload_n hx hb dL_law_487 rfl (lv_at hl 4 rfl) ?_
  refine lv_iload hx hb dL_law_488 (lv_at hl 0 rfl) ?_
  refine lv_iconst (v := 2) hx hb dL_law_490 (by decide) ?_
  refine lv_iadd hx hb dL_law_491 ?_
  refine va_sld hx hb hX hbl hbA hS hi2 dL_law_492 ?_
  rw [hy2]
  refine lv_i2l (v := y2.toInt64) hx hb dL_law_493 rfl ?_
  refine lv_bipush (v := 32) hx hb dL_law_494 (by decide) ?_
  refine lv_lshl (v := (y2.toInt64 <<< ((32 : Int32).toInt64 &&& 63))) hx hb dL_law_496 rfl ?_
  refine lv_aload_n hx hb dL_law_497 rfl (lv_at hl 4 rfl) ?_
  refine lv_iload hx hb dL_law_498 (lv_at hl 0 rfl) ?_
  refine lv_iconst (v := 3) hx hb dL_law_500 (by decide) ?_
  refine lv_iadd hx hb dL_law_501 ?_
  refine va_sld hx hb hX hbl hbA hS hi3 dL_law_502 ?_
  rw [hy3]
  refine lv_i2l (v := y3.toInt64) hx hb dL_law_503 rfl ?_
  refine lv_ldc2 (v := 4294967295) hx hb hown (htw _ (ck_1 _ (List.mem_of_getElem? (i := 7) rfl))) dL_law_504 ?_
  refine lv_land hx hb dL_law_507 ?_
  refine lv_lor hx hb dL_law_508 ?_
  refine lv_aload_n hx hb dL_law_509 rfl (lv_at hl 4 rfl) ?_
  refine lv_iload hx hb dL_law_510 (lv_at hl 0 rfl) ?_
  refine lv_iconst (v := 4) hx hb dL_law_512 (by decide) ?_
  refine lv_iadd hx hb dL_law_513 ?_
  refine va_sld hx hb hX hbl hbA hS hi4 dL_law_514 ?_
  rw [hy4]
  obtain ⟨hPc, hDc, hFc, hCc⟩ := zsub3 (ws' := [(mq, .inr (12, mF g gl rf)), (eA0 (rf 29) (ck 29) 24 f_landHas)]) hP hD hS hA [8, 9] (by decide) rfl
  have hKc := hK.sub (tys' := [((ck 29), .int)]) [2] rfl
  refine va_calll (va_runV (As := [.int y1, .long ((y2.toInt64 <<< ((32 : Int32).toInt64 &&& 63)) ||| (y3.toInt64 &&& 4294967295)), .int y4]) (rest := []) ⟨hx, hb, hml, hown, htw⟩ (gq_date l dC dI mq g gl rf ck f_landHas y1 ((y2.toInt64 <<< ((32 : Int32).toInt64 &&& 63)) ||| (y3.toInt64 &&& 4294967295)) y4 H.size hln0 hln4 hLZ) (cwV 3 htw (xg_V (ck_36 _ (List.mem_of_getElem? (i := 2) rfl)) (ck_36 _ (List.mem_of_getElem? (i := 3) rfl)) (ck_36 _ (List.mem_of_getElem? (i := 4) rfl)) (ck_1 _ (List.mem_of_getElem? (i := 5) rfl)) (ck_36 _ (List.mem_of_getElem? (i := 5) rfl))) rfl rfl rfl (by exact ⟨rfl, hdc_14.1, hdc_14.2, hdd_58⟩) ⟨Nat.le_of_ble_eq_true rfl, Nat.le_of_ble_eq_true rfl⟩) ⟨fun a U g mk q => by obtain ⟨q0, q1, qP, qK, qD⟩ := q; exact ⟨q0, q1, qP, va_K.moved (u := U) (U := U.calling g mk a) (Vm.Alike.refl U.vm) qK, qD⟩, va_recv hKc hPc (ci := 12) (q0 := 0) rfl rfl, fun U hU hW => ⟨rfl, by rw [hU], by rw [hU]; exact hPc, va_K.moved hW.alike hKc, hDc.weaken (fun _ _ _ _ => trivial)⟩⟩ rfl rfl hl.1 rfl (lv_room (Nat.le_of_ble_eq_true rfl)) dL_law_515 ⟨by first | exact Nat.le_of_ble_eq_true rfl | exact yR (n := 0) (by omega) rfl, by first | exact Nat.le_of_ble_eq_true rfl | exact yR2 (n := 0) (by omega) rfl⟩) hS (fun q _ h => hFc q h) hFc (fun r_10 u_11 t H1 locs ht hvm hw hB hz1 hk1 hS => ?_)
  try dsimp only at hw
  obtain ⟨hP1, hK1, hD1⟩ := hB
  rw [ht] at hP1
  have hK1 := va_K.moved hvm.symm hK1
  have hK1 : va_K (dC, dI) vwCl [] s := hK1
  obtain ⟨hP, hD⟩ := va_join (wr := [(eO11a x pa bk xsp xdy le xst xsc xim xil xik xmo xom wi), (eO0a bk bto bnm bla bsk bru bbo bdi bda bdk bdt bdp bno), (eA0 bto cTo 5 fTo), (eA4 bla cLa 4 (fun k => some (La k))), (eO1a (La 0) (FI 0) (GR 0) (FR 0)), (eO1a (La 1) (FI 1) (GR 1) (FR 1)), (eO1a (La 2) (FI 2) (GR 2) (FR 2)), (eO1a (La 3) (FI 3) (GR 3) (FR 3))]) (w1 := [(mq, .inr (12, mF (upd g 2 u_11.1) (vp_updL (vp_updL gl 53 u_11.2.1) 54 u_11.2.2) rf)), (eA0 (rf 29) (ck 29) 24 f_landHas)]) hP hD [8, 9] [0, 1, 2, 3, 4, 5, 6, 7] hCc rfl (by decide +kernel) (by decide +kernel) hk1 hFc hP1 hD1
  have hfr := yF (wc := [(mq, .inr (12, mF g gl rf)), (eA0 (rf 29) (ck 29) 24 f_landHas)]) hBs [8, 9] rfl hz0 hfr hk1
  have hz0 := Nat.le_trans hz0 hz1
  generalize H1 = H at hP hS hfr hz0 ⊢
  obtain ⟨hP, hD⟩ := zre [(eO11a x pa bk xsp xdy le xst xsc xim xil xik xmo xom wi), (eO0a bk bto bnm bla bsk bru bbo bdi bda bdk bdt bdp bno), (eA0 bto cTo 5 fTo), (eA4 bla cLa 4 (fun k => some (La k))), (eO1a (La 0) (FI 0) (GR 0) (FR 0)), (eO1a (La 1) (FI 1) (GR 1) (FR 1)), (eO1a (La 2) (FI 2) (GR 2) (FR 2)), (eO1a (La 3) (FI 3) (GR 3) (FR 3)), (mq, .inr (12, mF (upd g 2 u_11.1) (vp_updL (vp_updL gl 53 u_11.2.1) 54 u_11.2.2) rf)), (eA0 (rf 29) (ck 29) 24 f_landHas)] hP hD rfl
  refine W.widen (k := ce + 0) (n := sl + 0) (by omega) (by omega) ?_
  obtain ⟨X_15, hX_15⟩ : ∃ X9 : Int64 × (Int32) × (Int64) × (Int64), X9 = (fq_date f_landHas y1 ((y2.toInt64 <<< ((32 : Int32).toInt64 &&& 63)) ||| (y3.toInt64 &&& 4294967295)) y4 (g 12) (gl 53) (gl 54)) := ⟨_, rfl⟩
  have hq_r_10 : r_10 = X_15.1 := by rw [hX_15]; exact hw.1
  have hq_u_11 : u_11 = X_15.2 := by rw [hX_15]; exact hw.2
  refine lv_pop2_2 hx hb dL_law_518 rfl ?_
  refine lv_goto (tgt := 2012) hx hb dL_law_519 (by decide) ?_
  refine W.widen (k := ce + 1) (n := sl + 6) (by omega) (by omega) ?_
  exact kk1 r_5 hq_r_5 X_15 hX_15 r_10 hq_r_10 u_11 hq_u_11 H locs ls (hP.sub (ws' := [(eO11a x pa bk xsp xdy le xst xsc xim xil xik xmo xom wi), (eO0a bk bto bnm bla bsk bru bbo bdi bda bdk bdt bdp bno), (eA0 bto cTo 5 fTo), (eA4 bla cLa 4 (fun k => some (La k))), (eO1a (La 0) (FI 0) (GR 0) (FR 0)), (eO1a (La 1) (FI 1) (GR 1) (FR 1)), (eO1a (La 2) (FI 2) (GR 2) (FR 2)), (eO1a (La 3) (FI 3) (GR 3) (FR 3)), (mq, .inr (12, mF (upd g 2 u_11.1) (vp_updL (vp_updL gl 53 u_11.2.1) 54 u_11.2.2) rf)), (eA0 (rf 29) (ck 29) 24 f_landHas)]) [0, 1, 2, 3, 4, 5, 6, 7, 8, 9] rfl) hS (lv_sub hl [0, 1, 2, 3, 4] rfl) hz0 hfr

theorem dL_law_522 : decode cL_law 522 = .ok (.aload_n 1, 1) := zk_43 (by decide +kernel)
theorem dL_law_523 : decode cL_law 523 = .ok (.aload_n 0, 1) := zk_42 (by decide +kernel)
theorem dL_law_524 : decode cL_law 524 = .ok (.iload 4, 2) := zk_21 (by decide +kernel)
theorem dL_law_526 : decode cL_law 526 = .ok (.iconst 1, 1) := zk_4 (by decide +kernel)
theorem dL_law_527 : decode cL_law 527 = .ok (.iadd, 1) := zk_96 (by decide +kernel)
theorem dL_law_528 : decode cL_law 528 = .ok (.iaload, 1) := zk_46 (by decide +kernel)
theorem dL_law_529 : decode cL_law 529 = .ok (.aload_n 0, 1) := zk_42 (by decide +kernel)
theorem dL_law_530 : decode cL_law 530 = .ok (.iload 4, 2) := zk_21 (by decide +kernel)
theorem dL_law_532 : decode cL_law 532 = .ok (.iconst 2, 1) := zk_5 (by decide +kernel)
theorem dL_law_533 : decode cL_law 533 = .ok (.iadd, 1) := zk_96 (by decide +kernel)
theorem dL_law_534 : decode cL_law 534 = .ok (.iaload, 1) := zk_46 (by decide +kernel)
theorem dL_law_535 : decode cL_law 535 = .ok (.aload_n 0, 1) := zk_42 (by decide +kernel)
theorem dL_law_536 : decode cL_law 536 = .ok (.iload 4, 2) := zk_21 (by decide +kernel)
theorem dL_law_538 : decode cL_law 538 = .ok (.iconst 3, 1) := zk_6 (by decide +kernel)
theorem dL_law_539 : decode cL_law 539 = .ok (.iadd, 1) := zk_96 (by decide +kernel)
theorem dL_law_540 : decode cL_law 540 = .ok (.iaload, 1) := zk_46 (by decide +kernel)
theorem dL_law_541 : decode cL_law 541 = .ok (.i2l, 1) := zk_133 (by decide +kernel)
theorem dL_law_542 : decode cL_law 542 = .ok (.bipush 32, 2) := zk_16 (by decide +kernel)
theorem dL_law_544 : decode cL_law 544 = .ok (.lshl, 1) := zk_121 (by decide +kernel)
theorem dL_law_545 : decode cL_law 545 = .ok (.aload_n 0, 1) := zk_42 (by decide +kernel)
theorem dL_law_546 : decode cL_law 546 = .ok (.iload 4, 2) := zk_21 (by decide +kernel)
theorem dL_law_548 : decode cL_law 548 = .ok (.iconst 4, 1) := zk_7 (by decide +kernel)
theorem dL_law_549 : decode cL_law 549 = .ok (.iadd, 1) := zk_96 (by decide +kernel)
theorem dL_law_550 : decode cL_law 550 = .ok (.iaload, 1) := zk_46 (by decide +kernel)
theorem dL_law_551 : decode cL_law 551 = .ok (.i2l, 1) := zk_133 (by decide +kernel)
theorem dL_law_552 : decode cL_law 552 = .ok (.ldc2_w 50, 3) := zk_20 (by decide +kernel)
theorem dL_law_555 : decode cL_law 555 = .ok (.land, 1) := zk_127 (by decide +kernel)
theorem dL_law_556 : decode cL_law 556 = .ok (.lor, 1) := zk_129 (by decide +kernel)
theorem dL_law_557 : decode cL_law 557 = .ok (.invokevirtual 57, 3) := zk_182 (by decide +kernel)
theorem dL_law_560 : decode cL_law 560 = .ok (.pop2, 1) := zk_88 (by decide +kernel)
theorem dL_law_561 : decode cL_law 561 = .ok (.aload_n 2, 1) := zk_44 (by decide +kernel)
theorem dL_law_562 : decode cL_law 562 = .ok (.aload_n 0, 1) := zk_42 (by decide +kernel)
theorem dL_law_563 : decode cL_law 563 = .ok (.iload 4, 2) := zk_21 (by decide +kernel)
theorem dL_law_565 : decode cL_law 565 = .ok (.iconst 1, 1) := zk_4 (by decide +kernel)
theorem dL_law_566 : decode cL_law 566 = .ok (.iadd, 1) := zk_96 (by decide +kernel)
theorem dL_law_567 : decode cL_law 567 = .ok (.iaload, 1) := zk_46 (by decide +kernel)
theorem dL_law_568 : decode cL_law 568 = .ok (.aload_n 0, 1) := zk_42 (by decide +kernel)
theorem dL_law_569 : decode cL_law 569 = .ok (.iload 4, 2) := zk_21 (by decide +kernel)
theorem dL_law_571 : decode cL_law 571 = .ok (.iconst 2, 1) := zk_5 (by decide +kernel)
theorem dL_law_572 : decode cL_law 572 = .ok (.iadd, 1) := zk_96 (by decide +kernel)
theorem dL_law_573 : decode cL_law 573 = .ok (.iaload, 1) := zk_46 (by decide +kernel)
theorem dL_law_574 : decode cL_law 574 = .ok (.aload_n 0, 1) := zk_42 (by decide +kernel)
theorem dL_law_575 : decode cL_law 575 = .ok (.iload 4, 2) := zk_21 (by decide +kernel)
theorem dL_law_577 : decode cL_law 577 = .ok (.iconst 3, 1) := zk_6 (by decide +kernel)
theorem dL_law_578 : decode cL_law 578 = .ok (.iadd, 1) := zk_96 (by decide +kernel)
theorem dL_law_579 : decode cL_law 579 = .ok (.iaload, 1) := zk_46 (by decide +kernel)
theorem dL_law_580 : decode cL_law 580 = .ok (.i2l, 1) := zk_133 (by decide +kernel)
theorem dL_law_581 : decode cL_law 581 = .ok (.bipush 32, 2) := zk_16 (by decide +kernel)
theorem dL_law_583 : decode cL_law 583 = .ok (.lshl, 1) := zk_121 (by decide +kernel)
theorem dL_law_584 : decode cL_law 584 = .ok (.aload_n 0, 1) := zk_42 (by decide +kernel)
theorem dL_law_585 : decode cL_law 585 = .ok (.iload 4, 2) := zk_21 (by decide +kernel)
theorem dL_law_587 : decode cL_law 587 = .ok (.iconst 4, 1) := zk_7 (by decide +kernel)
theorem dL_law_588 : decode cL_law 588 = .ok (.iadd, 1) := zk_96 (by decide +kernel)
theorem dL_law_589 : decode cL_law 589 = .ok (.iaload, 1) := zk_46 (by decide +kernel)
theorem dL_law_590 : decode cL_law 590 = .ok (.i2l, 1) := zk_133 (by decide +kernel)
theorem dL_law_591 : decode cL_law 591 = .ok (.ldc2_w 50, 3) := zk_20 (by decide +kernel)
theorem dL_law_594 : decode cL_law 594 = .ok (.land, 1) := zk_127 (by decide +kernel)
theorem dL_law_595 : decode cL_law 595 = .ok (.lor, 1) := zk_129 (by decide +kernel)
theorem dL_law_596 : decode cL_law 596 = .ok (.invokevirtual 61, 3) := zk_182 (by decide +kernel)
theorem dL_law_599 : decode cL_law 599 = .ok (.pop2, 1) := zk_88 (by decide +kernel)
theorem dL_law_600 : decode cL_law 600 = .ok (.goto 1412, 3) := zk_167 (by decide +kernel)
set_option maxHeartbeats 4000000 in
set_option maxRecDepth 100000 in
theorem law_count (l : Launch) (hst : l.stackTraces = false) {p : Program} {e : Env} {s : State} {m : MethodId} {below : List Frame} {meth : Method} {c : Code} {bs L : Nat} {xs : Nat → Int32} (C0 : lw_At p s m meth c bs L xs) (dC : Nat → ClassId) (dI : Nat → Nat → Nat) (A : Nat → Prop) (hAe : ∀ q, A q ↔ s.heap.size ≤ q) (x : Nat) (pa : Nat) (bk : Nat) (xsp : Nat) (xdy : Nat) (le : Nat) (xst : Nat) (xsc : Int32) (xim : Nat) (xil : Nat) (xik : Int32) (xmo : Nat) (xom : Nat) (wi : Nat) (bto : Nat) (bnm : Nat) (bla : Nat) (bsk : Nat) (bru : Nat) (bbo : Nat) (bdi : Nat) (bda : Nat) (bdk : Nat) (bdt : Nat) (bdp : Nat) (bno : Nat) (cTo : ClassId) (fTo : Nat → Int32) (cLa : ClassId) (La : Nat → Nat) (FI : Nat → Int32) (GR : Nat → Int32) (FR : Nat → Int32) (mq : Nat) (g : Nat → Int32) (gl : Nat → Int64) (rf : Nat → Nat) (ck : Nat → ClassId) (f_landHas : Nat → Int32) (o3 : Nat) (hln0 : ¬ (g 12) < 0) (hln4 : (g 12) ≤ 4) (sL : Nat → Nat)  (i y1 y2 y3 y4 : Int32) (hi1 : vp_in (i + 1) L) (hy1 : xs (i + 1).toNatClampNeg = y1) (hi2 : vp_in (i + 2) L) (hy2 : xs (i + 2).toNatClampNeg = y2) (hi3 : vp_in (i + 3) L) (hy3 : xs (i + 3).toNatClampNeg = y3) (hi4 : vp_in (i + 4) L) (hy4 : xs (i + 4).toNatClampNeg = y4)  (Bp : Nat → Prop) (H0 : Heap) (locs : List Loc) (ls : Array Slot) (ce sl : Nat) (hce : ce + 1 ≤ 601024) (hsl : sl + 6 ≤ 7293034) (hK : va_K (dC, dI) vwCl [(cTo, .int), (cLa, .object RX1), ((ck 29), .int)] s) (hP : va_P (dC, dI) vwCl [(eO11a x pa bk xsp xdy le xst xsc xim xil xik xmo xom wi), (eO0a bk bto bnm bla bsk bru bbo bdi bda bdk bdt bdp bno), (eA0 bto cTo 5 fTo), (eA4 bla cLa 4 (fun k => some (La k))), (eO1a (La 0) (FI 0) (GR 0) (FR 0)), (eO1a (La 1) (FI 1) (GR 1) (FR 1)), (eO1a (La 2) (FI 2) (GR 2) (FR 2)), (eO1a (La 3) (FI 3) (GR 3) (FR 3)), (mq, .inr (12, mF g gl rf)), (eA0 (rf 29) (ck 29) 24 f_landHas)] H0) (hD : va_D A [(eO11a x pa bk xsp xdy le xst xsc xim xil xik xmo xom wi), (eO0a bk bto bnm bla bsk bru bbo bdi bda bdk bdt bdp bno), (eA0 bto cTo 5 fTo), (eA4 bla cLa 4 (fun k => some (La k))), (eO1a (La 0) (FI 0) (GR 0) (FR 0)), (eO1a (La 1) (FI 1) (GR 1) (FR 1)), (eO1a (La 2) (FI 2) (GR 2) (FR 2)), (eO1a (La 3) (FI 3) (GR 3) (FR 3)), (mq, .inr (12, mF g gl rf)), (eA0 (rf 29) (ck 29) 24 f_landHas)]) (hBs : yB Bp [(eO11a x pa bk xsp xdy le xst xsc xim xil xik xmo xom wi), (eO0a bk bto bnm bla bsk bru bbo bdi bda bdk bdt bdp bno), (eA0 bto cTo 5 fTo), (eA4 bla cLa 4 (fun k => some (La k))), (eO1a (La 0) (FI 0) (GR 0) (FR 0)), (eO1a (La 1) (FI 1) (GR 1) (FR 1)), (eO1a (La 2) (FI 2) (GR 2) (FR 2)), (eO1a (La 3) (FI 3) (GR 3) (FR 3)), (mq, .inr (12, mF g gl rf)), (eA0 (rf 29) (ck 29) 24 f_landHas)]) (hS : va_S A s.heap H0 locs) (hl : lv_has ls 7 [(4, .int i), (3, .ref o3), (2, .ref mq), (1, .ref x), (0, .ref bs)]) (kk1 : ∀ (r_5 : Int64), r_5 = (fx_count fTo FI GR FR y1 y2 ((y3.toInt64 <<< ((32 : Int32).toInt64 &&& 63)) ||| (y4.toInt64 &&& 4294967295))) → ∀ (X_13 : Int64 × (Int32)), X_13 = (fq_count f_landHas y1 y2 ((y3.toInt64 <<< ((32 : Int32).toInt64 &&& 63)) ||| (y4.toInt64 &&& 4294967295)) (g 12)) → ∀ (r_10 : Int64), r_10 = X_13.1 → ∀ (u_11 : (Int32)), u_11 = X_13.2 → ∀ (H : Heap) (locs : List Loc) (ls : Array Slot), va_P (dC, dI) vwCl [(eO11a x pa bk xsp xdy le xst xsc xim xil xik xmo xom wi), (eO0a bk bto bnm bla bsk bru bbo bdi bda bdk bdt bdp bno), (eA0 bto cTo 5 fTo), (eA4 bla cLa 4 (fun k => some (La k))), (eO1a (La 0) (FI 0) (GR 0) (FR 0)), (eO1a (La 1) (FI 1) (GR 1) (FR 1)), (eO1a (La 2) (FI 2) (GR 2) (FR 2)), (eO1a (La 3) (FI 3) (GR 3) (FR 3)), (mq, .inr (12, mF (upd g 2 u_11) gl rf)), (eA0 (rf 29) (ck 29) 24 f_landHas)] H → va_S A s.heap H locs → lv_has ls 7 [(4, .int i), (3, .ref o3), (2, .ref mq), (1, .ref x), (0, .ref bs)] → H0.size ≤ H.size → (∀ q : Nat, q < H0.size → ¬ Bp q → H[q]? = H0[q]?) → W p l e room_1 s m #[Value.ref bs] below meth c H locs (ce + 1) (sl + 6) (lw_Z below #[Value.ref bs] s) (F0 m 2012 ls [])) : W p l e room_1 s m #[Value.ref bs] below meth c H0 locs ce sl (lw_Z below #[Value.ref bs] s) (F0 m 522 ls []) := by
  obtain ⟨hx, hb, hr, hml, hown, hts, hX, hbl, hlocks, hgv⟩ := id C0
  have htw : ∀ w ∈ wsL_law, w.before _ s = true := fun w h => hts w (wsL_law_in w h)
  have hown : s.vm.findClass RL = some m.cls := hown
  have hA : ∀ q : Nat, s.heap.size ≤ q → A q := fun q h => (hAe q).mpr h
  have hbA : ¬ A bs := fun h => absurd ((hAe bs).mp h) (Nat.not_le.mpr hbl)
  obtain ⟨H, rH⟩ : ∃ z : Heap, z = H0 := ⟨_, rfl⟩
  have hfr : ∀ q : Nat, q < H0.size → ¬ Bp q → H[q]? = H0[q]? := fun q _ _ => by rw [rH]
  have hz0 : H0.size ≤ H.size := by rw [rH]; exact Nat.le_refl _
  rw [← rH] at hP hS ⊢
  refine lv_aload_n hx hb dL_law_522 rfl (lv_at hl 3 rfl) ?_
  refine lv_aload_n hx hb dL_law_523 rfl (lv_at hl 4 rfl) ?_
  refine lv_iload hx hb dL_law_524 (lv_at hl 0 rfl) ?_
  refine lv_iconst (v := 1) hx hb dL_law_526 (by decide) ?_
  refine lv_iadd hx hb dL_law_527 ?_
  refine va_sld hx hb hX hbl hbA hS hi1 dL_law_528 ?_
  rw [hy1]
  refine lv_aload_n hx hb dL_law_529 rfl (lv_at hl 4 rfl) ?_
  refine lv_iload hx hb dL_law_530 (lv_at hl 0 rfl) ?_
  refine lv_iconst (v := 2) hx hb dL_law_532 (by decide) ?_
  refine lv_iadd hx hb dL_law_533 ?_
  refine va_sld hx hb hX hbl hbA hS hi2 dL_law_534 ?_
  rw [hy2]
  refine lv_aload_n hx hb dL_law_535 rfl (lv_at hl 4 rfl) ?_
  refine lv_iload hx hb dL_law_536 (lv_at hl 0 rfl) ?_
  refine lv_iconst (v := 3) hx hb dL_law_538 (by decide) ?_
  refine lv_iadd hx hb dL_law_539 ?_
  refine va_sld hx hb hX hbl hbA hS hi3 dL_law_540 ?_
  rw [hy3]
  refine lv_i2l (v := y3.toInt64) hx hb dL_law_541 rfl ?_
  refine lv_bipush (v := 32) hx hb dL_law_542 (by decide) ?_
  refine lv_lshl (v := (y3.toInt64 <<< ((32 : Int32).toInt64 &&& 63))) hx hb dL_law_544 rfl ?_
  refine lv_aload_n hx hb dL_law_545 rfl (lv_at hl 4 rfl) ?_
  refine lv_iload hx hb dL_law_546 (lv_at hl 0 rfl) ?_
  refine lv_iconst (v := 4) hx hb dL_law_548 (by decide) ?_
  refine lv_iadd hx hb dL_law_549 ?_
  refine va_sld hx hb hX hbl hbA hS hi4 dL_law_550 ?_
  rw [hy4]
  refine lv_i2l (v := y4.toInt64) hx hb dL_law_551 rfl ?_
  refine lv_ldc2 (v := 4294967295) hx hb hown (htw _ (ck_1 _ (List.mem_of_getElem? (i := 7) rfl))) dL_law_552 ?_
  refine lv_land hx hb dL_law_555 ?_
  refine lv_lor hx hb dL_law_556 ?_
  have hPc := hP.sub (ws' := [(eO11a x pa bk xsp xdy le xst xsc xim xil xik xmo xom wi), (eO0a bk bto bnm bla bsk bru bbo bdi bda bdk bdt bdp bno), (eA0 bto cTo 5 fTo), (eA4 bla cLa 4 (fun k => some (La k))), (eO1a (La 0) (FI 0) (GR 0) (FR 0)), (eO1a (La 1) (FI 1) (GR 1) (FR 1)), (eO1a (La 2) (FI 2) (GR 2) (FR 2)), (eO1a (La 3) (FI 3) (GR 3) (FR 3))]) [0, 1, 2, 3, 4, 5, 6, 7] rfl
  have hKc := hK.sub (tys' := [(cTo, .int), (cLa, .object RX1)]) [0, 1] rfl
  refine vp_callSl (W.runV (As := [.int y1, .int y2, .long ((y3.toInt64 <<< ((32 : Int32).toInt64 &&& 63)) ||| (y4.toInt64 &&& 4294967295))]) (rest := []) ⟨hx, hb, hml, hown, htw⟩ (gx_count l dC dI x pa bk xsp xdy le xst xsc xim xil xik xmo xom wi bto bnm bla bsk bru bbo bdi bda bdk bdt bdp bno cTo fTo cLa La FI GR FR y1 y2 ((y3.toInt64 <<< ((32 : Int32).toInt64 &&& 63)) ||| (y4.toInt64 &&& 4294967295))) (cwV 3 htw (xg_V (ck_36 _ (List.mem_of_getElem? (i := 19) rfl)) (ck_36 _ (List.mem_of_getElem? (i := 20) rfl)) (ck_36 _ (List.mem_of_getElem? (i := 21) rfl)) (ck_1 _ (List.mem_of_getElem? (i := 2) rfl)) (ck_36 _ (List.mem_of_getElem? (i := 22) rfl))) rfl rfl rfl (by exact ⟨rfl, hdc_8.1, hdc_8.2, hdd_59⟩) ⟨Nat.le_of_ble_eq_true rfl, Nat.le_of_ble_eq_true rfl⟩) ⟨fun a U g mk q => by obtain ⟨q0, qP, qK⟩ := q; exact ⟨q0, qP, va_K.moved (u := U) (U := U.calling g mk a) (Vm.Alike.refl U.vm) qK⟩, va_recv hKc hPc (ci := 11) (q0 := 0) rfl rfl, fun U hU hW => ⟨rfl, by rw [hU]; exact hPc, va_K.moved hW.alike hKc⟩⟩ rfl rfl hl.1 rfl (lv_room (Nat.le_of_ble_eq_true rfl)) dL_law_557 ⟨by first | exact Nat.le_of_ble_eq_true rfl | exact yR (n := 0) (by omega) rfl, by first | exact Nat.le_of_ble_eq_true rfl | exact yR2 (n := 0) (by omega) rfl⟩) (fun r_5 hw => ?_)
  try dsimp only at hw
  have hq_r_5 : r_5 = (fx_count fTo FI GR FR y1 y2 ((y3.toInt64 <<< ((32 : Int32).toInt64 &&& 63)) ||| (y4.toInt64 &&& 4294967295))) := hw
  refine lv_pop2_2 hx hb dL_law_560 rfl ?_
  refine lv_aload_n hx hb dL_law_561 rfl (lv_at hl 2 rfl) ?_
  refine lv_aload_n hx hb dL_law_562 rfl (lv_at hl 4 rfl) ?_
  refine lv_iload hx hb dL_law_563 (lv_at hl 0 rfl) ?_
  refine lv_iconst (v := 1) hx hb dL_law_565 (by decide) ?_
  refine lv_iadd hx hb dL_law_566 ?_
  refine va_sld hx hb hX hbl hbA hS hi1 dL_law_567 ?_
  rw [hy1]
  refine lv_aload_n hx hb dL_law_568 rfl (lv_at hl 4 rfl) ?_
  refine lv_iload hx hb dL_law_569 (lv_at hl 0 rfl) ?_
  refine lv_iconst (v := 2) hx hb dL_law_571 (by decide) ?_
  refine lv_iadd hx hb dL_law_572 ?_
  refine va_sld hx hb hX hbl hbA hS hi2 dL_law_573 ?_
  rw [hy2]
  refine lv_aload_n hx hb dL_law_574 rfl (lv_at hl 4 rfl) ?_
  refine lv_iload hx hb dL_law_575 (lv_at hl 0 rfl) ?_
  refine lv_iconst (v := 3) hx hb dL_law_577 (by decide) ?_
  refine lv_iadd hx hb dL_law_578 ?_
  refine va_sld hx hb hX hbl hbA hS hi3 dL_law_579 ?_
  rw [hy3]
  refine lv_i2l (v := y3.toInt64) hx hb dL_law_580 rfl ?_
  refine lv_bipush (v := 32) hx hb dL_law_581 (by decide) ?_
  refine lv_lshl (v := (y3.toInt64 <<< ((32 : Int32).toInt64 &&& 63))) hx hb dL_law_583 rfl ?_
  refine lv_aload_n hx hb dL_law_584 rfl (lv_at hl 4 rfl) ?_
  refine lv_iload hx hb dL_law_585 (lv_at hl 0 rfl) ?_
  refine lv_iconst (v := 4) hx hb dL_law_587 (by decide) ?_
  refine lv_iadd hx hb dL_law_588 ?_
  refine va_sld hx hb hX hbl hbA hS hi4 dL_law_589 ?_
  rw [hy4]
  refine lv_i2l (v := y4.toInt64) hx hb dL_law_590 rfl ?_
  refine lv_ldc2 (v := 4294967295) hx hb hown (htw _ (ck_1 _ (List.mem_of_getElem? (i := 7) rfl))) dL_law_591 ?_
  refine lv_land hx hb dL_law_594 ?_
  refine lv_lor hx hb dL_law_595 ?_
  obtain ⟨hPc, hDc, hFc, hCc⟩ := zsub3 (ws' := [(mq, .inr (12, mF g gl rf)), (eA0 (rf 29) (ck 29) 24 f_landHas)]) hP hD hS hA [8, 9] (by decide) rfl
  have hKc := hK.sub (tys' := [((ck 29), .int)]) [2] rfl
  refine va_calll (va_runV (As := [.int y1, .int y2, .long ((y3.toInt64 <<< ((32 : Int32).toInt64 &&& 63)) ||| (y4.toInt64 &&& 4294967295))]) (rest := []) ⟨hx, hb, hml, hown, htw⟩ (gq_count l dC dI mq g gl rf ck f_landHas y1 y2 ((y3.toInt64 <<< ((32 : Int32).toInt64 &&& 63)) ||| (y4.toInt64 &&& 4294967295)) H.size hln0 hln4) (cwV 3 htw (xg_V (ck_37 _ (List.mem_of_getElem? (i := 0) rfl)) (ck_37 _ (List.mem_of_getElem? (i := 1) rfl)) (ck_37 _ (List.mem_of_getElem? (i := 2) rfl)) (ck_1 _ (List.mem_of_getElem? (i := 5) rfl)) (ck_37 _ (List.mem_of_getElem? (i := 3) rfl))) rfl rfl rfl (by exact ⟨rfl, hdc_14.1, hdc_14.2, hdd_59⟩) ⟨Nat.le_of_ble_eq_true rfl, Nat.le_of_ble_eq_true rfl⟩) ⟨fun a U g mk q => by obtain ⟨q0, q1, qP, qK, qD⟩ := q; exact ⟨q0, q1, qP, va_K.moved (u := U) (U := U.calling g mk a) (Vm.Alike.refl U.vm) qK, qD⟩, va_recv hKc hPc (ci := 12) (q0 := 0) rfl rfl, fun U hU hW => ⟨rfl, by rw [hU], by rw [hU]; exact hPc, va_K.moved hW.alike hKc, hDc.weaken (fun _ _ _ _ => trivial)⟩⟩ rfl rfl hl.1 rfl (lv_room (Nat.le_of_ble_eq_true rfl)) dL_law_596 ⟨by first | exact Nat.le_of_ble_eq_true rfl | exact yR (n := 0) (by omega) rfl, by first | exact Nat.le_of_ble_eq_true rfl | exact yR2 (n := 0) (by omega) rfl⟩) hS (fun q _ h => hFc q h) hFc (fun r_10 u_11 t H1 locs ht hvm hw hB hz1 hk1 hS => ?_)
  try dsimp only at hw
  obtain ⟨hP1, hK1, hD1⟩ := hB
  rw [ht] at hP1
  have hK1 := va_K.moved hvm.symm hK1
  have hK1 : va_K (dC, dI) vwCl [] s := hK1
  obtain ⟨hP, hD⟩ := va_join (wr := [(eO11a x pa bk xsp xdy le xst xsc xim xil xik xmo xom wi), (eO0a bk bto bnm bla bsk bru bbo bdi bda bdk bdt bdp bno), (eA0 bto cTo 5 fTo), (eA4 bla cLa 4 (fun k => some (La k))), (eO1a (La 0) (FI 0) (GR 0) (FR 0)), (eO1a (La 1) (FI 1) (GR 1) (FR 1)), (eO1a (La 2) (FI 2) (GR 2) (FR 2)), (eO1a (La 3) (FI 3) (GR 3) (FR 3))]) (w1 := [(mq, .inr (12, mF (upd g 2 u_11) gl rf)), (eA0 (rf 29) (ck 29) 24 f_landHas)]) hP hD [8, 9] [0, 1, 2, 3, 4, 5, 6, 7] hCc rfl (by decide +kernel) (by decide +kernel) hk1 hFc hP1 hD1
  have hfr := yF (wc := [(mq, .inr (12, mF g gl rf)), (eA0 (rf 29) (ck 29) 24 f_landHas)]) hBs [8, 9] rfl hz0 hfr hk1
  have hz0 := Nat.le_trans hz0 hz1
  generalize H1 = H at hP hS hfr hz0 ⊢
  obtain ⟨hP, hD⟩ := zre [(eO11a x pa bk xsp xdy le xst xsc xim xil xik xmo xom wi), (eO0a bk bto bnm bla bsk bru bbo bdi bda bdk bdt bdp bno), (eA0 bto cTo 5 fTo), (eA4 bla cLa 4 (fun k => some (La k))), (eO1a (La 0) (FI 0) (GR 0) (FR 0)), (eO1a (La 1) (FI 1) (GR 1) (FR 1)), (eO1a (La 2) (FI 2) (GR 2) (FR 2)), (eO1a (La 3) (FI 3) (GR 3) (FR 3)), (mq, .inr (12, mF (upd g 2 u_11) gl rf)), (eA0 (rf 29) (ck 29) 24 f_landHas)] hP hD rfl
  refine W.widen (k := ce + 0) (n := sl + 0) (by omega) (by omega) ?_
  obtain ⟨X_13, hX_13⟩ : ∃ X9 : Int64 × (Int32), X9 = (fq_count f_landHas y1 y2 ((y3.toInt64 <<< ((32 : Int32).toInt64 &&& 63)) ||| (y4.toInt64 &&& 4294967295)) (g 12)) := ⟨_, rfl⟩
  have hq_r_10 : r_10 = X_13.1 := by rw [hX_13]; exact hw.1
  have hq_u_11 : u_11 = X_13.2 := by rw [hX_13]; exact hw.2
  refine lv_pop2_2 hx hb dL_law_599 rfl ?_
  refine lv_goto (tgt := 2012) hx hb dL_law_600 (by decide) ?_
  refine W.widen (k := ce + 1) (n := sl + 6) (by omega) (by omega) ?_
  exact kk1 r_5 hq_r_5 X_13 hX_13 r_10 hq_r_10 u_11 hq_u_11 H locs ls (hP.sub (ws' := [(eO11a x pa bk xsp xdy le xst xsc xim xil xik xmo xom wi), (eO0a bk bto bnm bla bsk bru bbo bdi bda bdk bdt bdp bno), (eA0 bto cTo 5 fTo), (eA4 bla cLa 4 (fun k => some (La k))), (eO1a (La 0) (FI 0) (GR 0) (FR 0)), (eO1a (La 1) (FI 1) (GR 1) (FR 1)), (eO1a (La 2) (FI 2) (GR 2) (FR 2)), (eO1a (La 3) (FI 3) (GR 3) (FR 3)), (mq, .inr (12, mF (upd g 2 u_11) gl rf)), (eA0 (rf 29) (ck 29) 24 f_landHas)]) [0, 1, 2, 3, 4, 5, 6, 7, 8, 9] rfl) hS (lv_sub hl [0, 1, 2, 3, 4] rfl) hz0 hfr

theorem dL_law_603 : decode cL_law 603 = .ok (.aload_n 1, 1) := zk_43 (by decide +kernel)
theorem dL_law_604 : decode cL_law 604 = .ok (.aload_n 0, 1) := zk_42 (by decide +kernel)
theorem dL_law_605 : decode cL_law 605 = .ok (.iload 4, 2) := zk_21 (by decide +kernel)
theorem dL_law_607 : decode cL_law 607 = .ok (.iconst 1, 1) := zk_4 (by decide +kernel)
theorem dL_law_608 : decode cL_law 608 = .ok (.iadd, 1) := zk_96 (by decide +kernel)
theorem dL_law_609 : decode cL_law 609 = .ok (.iaload, 1) := zk_46 (by decide +kernel)
theorem dL_law_610 : decode cL_law 610 = .ok (.i2l, 1) := zk_133 (by decide +kernel)
theorem dL_law_611 : decode cL_law 611 = .ok (.bipush 32, 2) := zk_16 (by decide +kernel)
theorem dL_law_613 : decode cL_law 613 = .ok (.lshl, 1) := zk_121 (by decide +kernel)
theorem dL_law_614 : decode cL_law 614 = .ok (.aload_n 0, 1) := zk_42 (by decide +kernel)
theorem dL_law_615 : decode cL_law 615 = .ok (.iload 4, 2) := zk_21 (by decide +kernel)
theorem dL_law_617 : decode cL_law 617 = .ok (.iconst 2, 1) := zk_5 (by decide +kernel)
theorem dL_law_618 : decode cL_law 618 = .ok (.iadd, 1) := zk_96 (by decide +kernel)
theorem dL_law_619 : decode cL_law 619 = .ok (.iaload, 1) := zk_46 (by decide +kernel)
theorem dL_law_620 : decode cL_law 620 = .ok (.i2l, 1) := zk_133 (by decide +kernel)
theorem dL_law_621 : decode cL_law 621 = .ok (.ldc2_w 50, 3) := zk_20 (by decide +kernel)
theorem dL_law_624 : decode cL_law 624 = .ok (.land, 1) := zk_127 (by decide +kernel)
theorem dL_law_625 : decode cL_law 625 = .ok (.lor, 1) := zk_129 (by decide +kernel)
theorem dL_law_626 : decode cL_law 626 = .ok (.aload_n 0, 1) := zk_42 (by decide +kernel)
theorem dL_law_627 : decode cL_law 627 = .ok (.iload 4, 2) := zk_21 (by decide +kernel)
theorem dL_law_629 : decode cL_law 629 = .ok (.iconst 3, 1) := zk_6 (by decide +kernel)
theorem dL_law_630 : decode cL_law 630 = .ok (.iadd, 1) := zk_96 (by decide +kernel)
theorem dL_law_631 : decode cL_law 631 = .ok (.iaload, 1) := zk_46 (by decide +kernel)
theorem dL_law_632 : decode cL_law 632 = .ok (.invokevirtual 62, 3) := zk_182 (by decide +kernel)
theorem dL_law_635 : decode cL_law 635 = .ok (.pop, 1) := zk_87 (by decide +kernel)
theorem dL_law_636 : decode cL_law 636 = .ok (.aload_n 2, 1) := zk_44 (by decide +kernel)
theorem dL_law_637 : decode cL_law 637 = .ok (.aload_n 0, 1) := zk_42 (by decide +kernel)
theorem dL_law_638 : decode cL_law 638 = .ok (.iload 4, 2) := zk_21 (by decide +kernel)
theorem dL_law_640 : decode cL_law 640 = .ok (.iconst 1, 1) := zk_4 (by decide +kernel)
theorem dL_law_641 : decode cL_law 641 = .ok (.iadd, 1) := zk_96 (by decide +kernel)
theorem dL_law_642 : decode cL_law 642 = .ok (.iaload, 1) := zk_46 (by decide +kernel)
theorem dL_law_643 : decode cL_law 643 = .ok (.i2l, 1) := zk_133 (by decide +kernel)
theorem dL_law_644 : decode cL_law 644 = .ok (.bipush 32, 2) := zk_16 (by decide +kernel)
theorem dL_law_646 : decode cL_law 646 = .ok (.lshl, 1) := zk_121 (by decide +kernel)
theorem dL_law_647 : decode cL_law 647 = .ok (.aload_n 0, 1) := zk_42 (by decide +kernel)
theorem dL_law_648 : decode cL_law 648 = .ok (.iload 4, 2) := zk_21 (by decide +kernel)
theorem dL_law_650 : decode cL_law 650 = .ok (.iconst 2, 1) := zk_5 (by decide +kernel)
theorem dL_law_651 : decode cL_law 651 = .ok (.iadd, 1) := zk_96 (by decide +kernel)
theorem dL_law_652 : decode cL_law 652 = .ok (.iaload, 1) := zk_46 (by decide +kernel)
theorem dL_law_653 : decode cL_law 653 = .ok (.i2l, 1) := zk_133 (by decide +kernel)
theorem dL_law_654 : decode cL_law 654 = .ok (.ldc2_w 50, 3) := zk_20 (by decide +kernel)
theorem dL_law_657 : decode cL_law 657 = .ok (.land, 1) := zk_127 (by decide +kernel)
theorem dL_law_658 : decode cL_law 658 = .ok (.lor, 1) := zk_129 (by decide +kernel)
theorem dL_law_659 : decode cL_law 659 = .ok (.aload_n 0, 1) := zk_42 (by decide +kernel)
theorem dL_law_660 : decode cL_law 660 = .ok (.iload 4, 2) := zk_21 (by decide +kernel)
theorem dL_law_662 : decode cL_law 662 = .ok (.iconst 3, 1) := zk_6 (by decide +kernel)
theorem dL_law_663 : decode cL_law 663 = .ok (.iadd, 1) := zk_96 (by decide +kernel)
theorem dL_law_664 : decode cL_law 664 = .ok (.iaload, 1) := zk_46 (by decide +kernel)
theorem dL_law_665 : decode cL_law 665 = .ok (.invokevirtual 66, 3) := zk_182 (by decide +kernel)
theorem dL_law_668 : decode cL_law 668 = .ok (.pop, 1) := zk_87 (by decide +kernel)
theorem dL_law_669 : decode cL_law 669 = .ok (.goto 1343, 3) := zk_167 (by decide +kernel)
set_option maxHeartbeats 4000000 in
set_option maxRecDepth 100000 in
theorem law_round (l : Launch) (hst : l.stackTraces = false) {p : Program} {e : Env} {s : State} {m : MethodId} {below : List Frame} {meth : Method} {c : Code} {bs L : Nat} {xs : Nat → Int32} (C0 : lw_At p s m meth c bs L xs) (dC : Nat → ClassId) (dI : Nat → Nat → Nat) (A : Nat → Prop) (hAe : ∀ q, A q ↔ s.heap.size ≤ q) (x : Nat) (pa : Nat) (bk : Nat) (xsp : Nat) (xdy : Nat) (le : Nat) (xst : Nat) (xsc : Int32) (xim : Nat) (xil : Nat) (xik : Int32) (xmo : Nat) (xom : Nat) (wi : Nat) (bto : Nat) (bnm : Nat) (bla : Nat) (bsk : Nat) (bru : Nat) (bbo : Nat) (bdi : Nat) (bda : Nat) (bdk : Nat) (bdt : Nat) (bdp : Nat) (bno : Nat) (wd : Int32) (wf : Int32) (mp : Int32) (mb : Int32) (mo : Int32) (sp : Int32) (sb : Int32) (mq : Nat) (g : Nat → Int32) (gl : Nat → Int64) (rf : Nat → Nat) (ck : Nat → ClassId) (f_sky : Nat → Int32) (o3 : Nat) (hs0 : ¬ (f_sky 0) < 1) (hs2 : ¬ (f_sky 2) < 1) (hs5 : ¬ (f_sky 5) < 1) (sL : Nat → Nat)  (i y1 y2 y3 : Int32) (hi1 : vp_in (i + 1) L) (hy1 : xs (i + 1).toNatClampNeg = y1) (hi2 : vp_in (i + 2) L) (hy2 : xs (i + 2).toNatClampNeg = y2) (hi3 : vp_in (i + 3) L) (hy3 : xs (i + 3).toNatClampNeg = y3)  (Bp : Nat → Prop) (H0 : Heap) (locs : List Loc) (ls : Array Slot) (ce sl : Nat) (hce : ce + 1 ≤ 601024) (hsl : sl + 6 ≤ 7293034) (hK : va_K (dC, dI) vwCl [((ck 24), .int)] s) (hP : va_P (dC, dI) vwCl [(eO11a x pa bk xsp xdy le xst xsc xim xil xik xmo xom wi), (eO0a bk bto bnm bla bsk bru bbo bdi bda bdk bdt bdp bno), (eO9a bsk wd wf mp mb mo sp sb), (mq, .inr (12, mF g gl rf)), (eA0 (rf 24) (ck 24) 14 f_sky)] H0) (hD : va_D A [(eO11a x pa bk xsp xdy le xst xsc xim xil xik xmo xom wi), (eO0a bk bto bnm bla bsk bru bbo bdi bda bdk bdt bdp bno), (eO9a bsk wd wf mp mb mo sp sb), (mq, .inr (12, mF g gl rf)), (eA0 (rf 24) (ck 24) 14 f_sky)]) (hBs : yB Bp [(eO11a x pa bk xsp xdy le xst xsc xim xil xik xmo xom wi), (eO0a bk bto bnm bla bsk bru bbo bdi bda bdk bdt bdp bno), (eO9a bsk wd wf mp mb mo sp sb), (mq, .inr (12, mF g gl rf)), (eA0 (rf 24) (ck 24) 14 f_sky)]) (hS : va_S A s.heap H0 locs) (hl : lv_has ls 7 [(4, .int i), (3, .ref o3), (2, .ref mq), (1, .ref x), (0, .ref bs)]) (kk1 : ∀ (r_4 : Int32), r_4 = (fx_round wd wf mp mb mo sp sb ((y1.toInt64 <<< ((32 : Int32).toInt64 &&& 63)) ||| (y2.toInt64 &&& 4294967295)) y3) → ∀ (X_11 : Int32 × (Int32)), X_11 = (fq_round f_sky ((y1.toInt64 <<< ((32 : Int32).toInt64 &&& 63)) ||| (y2.toInt64 &&& 4294967295)) y3) → ∀ (r_8 : Int32), r_8 = X_11.1 → ∀ (u_9 : (Int32)), u_9 = X_11.2 → ∀ (H : Heap) (locs : List Loc) (ls : Array Slot), va_P (dC, dI) vwCl [(eO11a x pa bk xsp xdy le xst xsc xim xil xik xmo xom wi), (eO0a bk bto bnm bla bsk bru bbo bdi bda bdk bdt bdp bno), (eO9a bsk wd wf mp mb mo sp sb), (mq, .inr (12, mF (upd g 2 u_9) gl rf)), (eA0 (rf 24) (ck 24) 14 f_sky)] H → va_S A s.heap H locs → lv_has ls 7 [(4, .int i), (3, .ref o3), (2, .ref mq), (1, .ref x), (0, .ref bs)] → H0.size ≤ H.size → (∀ q : Nat, q < H0.size → ¬ Bp q → H[q]? = H0[q]?) → W p l e room_1 s m #[Value.ref bs] below meth c H locs (ce + 1) (sl + 6) (lw_Z below #[Value.ref bs] s) (F0 m 2012 ls [])) : W p l e room_1 s m #[Value.ref bs] below meth c H0 locs ce sl (lw_Z below #[Value.ref bs] s) (F0 m 603 ls []) := by
  obtain ⟨hx, hb, hr, hml, hown, hts, hX, hbl, hlocks, hgv⟩ := id C0
  have htw : ∀ w ∈ wsL_law, w.before _ s = true := fun w h => hts w (wsL_law_in w h)
  have hown : s.vm.findClass RL = some m.cls := hown
  have hA : ∀ q : Nat, s.heap.size ≤ q → A q := fun q h => (hAe q).mpr h
  have hbA : ¬ A bs := fun h => absurd ((hAe bs).mp h) (Nat.not_le.mpr hbl)
  obtain ⟨H, rH⟩ : ∃ z : Heap, z = H0 := ⟨_, rfl⟩
  have hfr : ∀ q : Nat, q < H0.size → ¬ Bp q → H[q]? = H0[q]? := fun q _ _ => by rw [rH]
  have hz0 : H0.size ≤ H.size := by rw [rH]; exact Nat.le_refl _
  rw [← rH] at hP hS ⊢
  refine lv_aload_n hx hb dL_law_603 rfl (lv_at hl 3 rfl) ?_
  refine lv_aload_n hx hb dL_law_604 rfl (lv_at hl 4 rfl) ?_
  refine lv_iload hx hb dL_law_605 (lv_at hl 0 rfl) ?_
  refine lv_iconst (v := 1) hx hb dL_law_607 (by decide) ?_
  refine lv_iadd hx hb dL_law_608 ?_
  refine va_sld hx hb hX hbl hbA hS hi1 dL_law_609 ?_
  rw [hy1]
  refine lv_i2l (v := y1.toInt64) hx hb dL_law_610 rfl ?_
  refine lv_bipush (v := 32) hx hb dL_law_611 (by decide) ?_
  refine lv_lshl (v := (y1.toInt64 <<< ((32 : Int32).toInt64 &&& 63))) hx hb dL_law_613 rfl ?_
  refine lv_aload_n hx hb dL_law_614 rfl (lv_at hl 4 rfl) ?_
  refine lv_iload hx hb dL_law_615 (lv_at hl 0 rfl) ?_
  refine lv_iconst (v := 2) hx hb dL_law_617 (by decide) ?_
  refine lv_iadd hx hb dL_law_618 ?_
  refine va_sld hx hb hX hbl hbA hS hi2 dL_law_619 ?_
  rw [hy2]
  refine lv_i2l (v := y2.toInt64) hx hb dL_law_620 rfl ?_
  refine lv_ldc2 (v := 4294967295) hx hb hown (htw _ (ck_1 _ (List.mem_of_getElem? (i := 7) rfl))) dL_law_621 ?_
  refine lv_land hx hb dL_law_624 ?_
  refine lv_lor hx hb dL_law_625 ?_
  refine lv_aload_n hx hb dL_law_626 rfl (lv_at hl 4 rfl) ?_
  refine lv_iload hx hb dL_law_627 (lv_at hl 0 rfl) ?_
  refine lv_iconst (v := 3) hx hb dL_law_629 (by decide) ?_
  refine lv_iadd hx hb dL_law_630 ?_
  refine va_sld hx hb hX hbl hbA hS hi3 dL_law_631 ?_
  rw [hy3]
  have hPc := hP.sub (ws' := [(eO11a x pa bk xsp xdy le xst xsc xim xil xik xmo xom wi), (eO0a bk bto bnm bla bsk bru bbo bdi bda bdk bdt bdp bno), (eO9a bsk wd wf mp mb mo sp sb)]) [0, 1, 2] rfl
  have hKc := hK.sub (tys' := []) [] rfl
  refine vp_callSi (W.runV (As := [.long ((y1.toInt64 <<< ((32 : Int32).toInt64 &&& 63)) ||| (y2.toInt64 &&& 4294967295)), .int y3]) (rest := []) ⟨hx, hb, hml, hown, htw⟩ (gx_round l dC dI x pa bk xsp xdy le xst xsc xim xil xik xmo xom wi bto bnm bla bsk bru bbo bdi bda bdk bdt bdp bno wd wf mp mb mo sp sb ((y1.toInt64 <<< ((32 : Int32).toInt64 &&& 63)) ||| (y2.toInt64 &&& 4294967295)) y3) (cwV 2 htw (xg_V (ck_37 _ (List.mem_of_getElem? (i := 5) rfl)) (ck_37 _ (List.mem_of_getElem? (i := 6) rfl)) (ck_37 _ (List.mem_of_getElem? (i := 7) rfl)) (ck_1 _ (List.mem_of_getElem? (i := 2) rfl)) (ck_37 _ (List.mem_of_getElem? (i := 8) rfl))) rfl rfl rfl (by exact ⟨rfl, hdc_8.1, hdc_8.2, hdd_43⟩) ⟨Nat.le_of_ble_eq_true rfl, Nat.le_of_ble_eq_true rfl⟩) ⟨fun a U g mk q => by obtain ⟨q0, qP, qK⟩ := q; exact ⟨q0, qP, va_K.moved (u := U) (U := U.calling g mk a) (Vm.Alike.refl U.vm) qK⟩, va_recv hKc hPc (ci := 11) (q0 := 0) rfl rfl, fun U hU hW => ⟨rfl, by rw [hU]; exact hPc, va_K.moved hW.alike hKc⟩⟩ rfl rfl hl.1 rfl (lv_room (Nat.le_of_ble_eq_true rfl)) dL_law_632 ⟨by first | exact Nat.le_of_ble_eq_true rfl | exact yR (n := 0) (by omega) rfl, by first | exact Nat.le_of_ble_eq_true rfl | exact yR2 (n := 0) (by omega) rfl⟩) (fun r_4 hw => ?_)
  try dsimp only at hw
  have hq_r_4 : r_4 = (fx_round wd wf mp mb mo sp sb ((y1.toInt64 <<< ((32 : Int32).toInt64 &&& 63)) ||| (y2.toInt64 &&& 4294967295)) y3) := hw
  refine lv_pop hx hb dL_law_635 rfl ?_
  refine lv_aload_n hx hb dL_law_636 rfl (lv_at hl 2 rfl) ?_
  refine lv_aload_n hx hb dL_law_637 rfl (lv_at hl 4 rfl) ?_
  refine lv_iload hx hb dL_law_638 (lv_at hl 0 rfl) ?_
  refine lv_iconst (v := 1) hx hb dL_law_640 (by decide) ?_
  refine lv_iadd hx hb dL_law_641 ?_
  refine va_sld hx hb hX hbl hbA hS hi1 dL_law_642 ?_
  rw [hy1]
  refine lv_i2l (v := y1.toInt64) hx hb dL_law_643 rfl ?_
  refine lv_bipush (v := 32) hx hb dL_law_644 (by decide) ?_
  refine lv_lshl (v := (y1.toInt64 <<< ((32 : Int32).toInt64 &&& 63))) hx hb dL_law_646 rfl ?_
  refine lv_aload_n hx hb dL_law_647 rfl (lv_at hl 4 rfl) ?_
  refine lv_iload hx hb dL_law_648 (lv_at hl 0 rfl) ?_
  refine lv_iconst (v := 2) hx hb dL_law_650 (by decide) ?_
  refine lv_iadd hx hb dL_law_651 ?_
  refine va_sld hx hb hX hbl hbA hS hi2 dL_law_652 ?_
  rw [hy2]
  refine lv_i2l (v := y2.toInt64) hx hb dL_law_653 rfl ?_
  refine lv_ldc2 (v := 4294967295) hx hb hown (htw _ (ck_1 _ (List.mem_of_getElem? (i := 7) rfl))) dL_law_654 ?_
  refine lv_land hx hb dL_law_657 ?_
  refine lv_lor hx hb dL_law_658 ?_
  refine lv_aload_n hx hb dL_law_659 rfl (lv_at hl 4 rfl) ?_
  refine lv_iload hx hb dL_law_660 (lv_at hl 0 rfl) ?_
  refine lv_iconst (v := 3) hx hb dL_law_662 (by decide) ?_
  refine lv_iadd hx hb dL_law_663 ?_
  refine va_sld hx hb hX hbl hbA hS hi3 dL_law_664 ?_
  rw [hy3]
  obtain ⟨hPc, hDc, hFc, hCc⟩ := zsub3 (ws' := [(mq, .inr (12, mF g gl rf)), (eA0 (rf 24) (ck 24) 14 f_sky)]) hP hD hS hA [3, 4] (by decide) rfl
  have hKc := hK.sub (tys' := [((ck 24), .int)]) [0] rfl
  refine va_calli (va_runV (As := [.long ((y1.toInt64 <<< ((32 : Int32).toInt64 &&& 63)) ||| (y2.toInt64 &&& 4294967295)), .int y3]) (rest := []) ⟨hx, hb, hml, hown, htw⟩ (gq_round l dC dI mq g gl rf ck f_sky ((y1.toInt64 <<< ((32 : Int32).toInt64 &&& 63)) ||| (y2.toInt64 &&& 4294967295)) y3 H.size hs0 hs2 hs5) (cwV 2 htw (xg_V (ck_38 _ (List.mem_of_getElem? (i := 0) rfl)) (ck_38 _ (List.mem_of_getElem? (i := 1) rfl)) (ck_38 _ (List.mem_of_getElem? (i := 2) rfl)) (ck_1 _ (List.mem_of_getElem? (i := 5) rfl)) (ck_38 _ (List.mem_of_getElem? (i := 3) rfl))) rfl rfl rfl (by exact ⟨rfl, hdc_14.1, hdc_14.2, hdd_43⟩) ⟨Nat.le_of_ble_eq_true rfl, Nat.le_of_ble_eq_true rfl⟩) ⟨fun a U g mk q => by obtain ⟨q0, q1, qP, qK, qD⟩ := q; exact ⟨q0, q1, qP, va_K.moved (u := U) (U := U.calling g mk a) (Vm.Alike.refl U.vm) qK, qD⟩, va_recv hKc hPc (ci := 12) (q0 := 0) rfl rfl, fun U hU hW => ⟨rfl, by rw [hU], by rw [hU]; exact hPc, va_K.moved hW.alike hKc, hDc.weaken (fun _ _ _ _ => trivial)⟩⟩ rfl rfl hl.1 rfl (lv_room (Nat.le_of_ble_eq_true rfl)) dL_law_665 ⟨by first | exact Nat.le_of_ble_eq_true rfl | exact yR (n := 0) (by omega) rfl, by first | exact Nat.le_of_ble_eq_true rfl | exact yR2 (n := 0) (by omega) rfl⟩) hS (fun q _ h => hFc q h) hFc (fun r_8 u_9 t H1 locs ht hvm hw hB hz1 hk1 hS => ?_)
  try dsimp only at hw
  obtain ⟨hP1, hK1, hD1⟩ := hB
  rw [ht] at hP1
  have hK1 := va_K.moved hvm.symm hK1
  have hK1 : va_K (dC, dI) vwCl [] s := hK1
  obtain ⟨hP, hD⟩ := va_join (wr := [(eO11a x pa bk xsp xdy le xst xsc xim xil xik xmo xom wi), (eO0a bk bto bnm bla bsk bru bbo bdi bda bdk bdt bdp bno), (eO9a bsk wd wf mp mb mo sp sb)]) (w1 := [(mq, .inr (12, mF (upd g 2 u_9) gl rf)), (eA0 (rf 24) (ck 24) 14 f_sky)]) hP hD [3, 4] [0, 1, 2] hCc rfl (by decide) (by decide) hk1 hFc hP1 hD1
  have hfr := yF (wc := [(mq, .inr (12, mF g gl rf)), (eA0 (rf 24) (ck 24) 14 f_sky)]) hBs [3, 4] rfl hz0 hfr hk1
  have hz0 := Nat.le_trans hz0 hz1
  generalize H1 = H at hP hS hfr hz0 ⊢
  obtain ⟨hP, hD⟩ := zre [(eO11a x pa bk xsp xdy le xst xsc xim xil xik xmo xom wi), (eO0a bk bto bnm bla bsk bru bbo bdi bda bdk bdt bdp bno), (eO9a bsk wd wf mp mb mo sp sb), (mq, .inr (12, mF (upd g 2 u_9) gl rf)), (eA0 (rf 24) (ck 24) 14 f_sky)] hP hD rfl
  refine W.widen (k := ce + 0) (n := sl + 0) (by omega) (by omega) ?_
  obtain ⟨X_11, hX_11⟩ : ∃ X9 : Int32 × (Int32), X9 = (fq_round f_sky ((y1.toInt64 <<< ((32 : Int32).toInt64 &&& 63)) ||| (y2.toInt64 &&& 4294967295)) y3) := ⟨_, rfl⟩
  have hq_r_8 : r_8 = X_11.1 := by rw [hX_11]; exact hw.1
  have hq_u_9 : u_9 = X_11.2 := by rw [hX_11]; exact hw.2
  refine lv_pop hx hb dL_law_668 rfl ?_
  refine lv_goto (tgt := 2012) hx hb dL_law_669 (by decide) ?_
  refine W.widen (k := ce + 1) (n := sl + 6) (by omega) (by omega) ?_
  exact kk1 r_4 hq_r_4 X_11 hX_11 r_8 hq_r_8 u_9 hq_u_9 H locs ls (hP.sub (ws' := [(eO11a x pa bk xsp xdy le xst xsc xim xil xik xmo xom wi), (eO0a bk bto bnm bla bsk bru bbo bdi bda bdk bdt bdp bno), (eO9a bsk wd wf mp mb mo sp sb), (mq, .inr (12, mF (upd g 2 u_9) gl rf)), (eA0 (rf 24) (ck 24) 14 f_sky)]) [0, 1, 2, 3, 4] rfl) hS (lv_sub hl [0, 1, 2, 3, 4] rfl) hz0 hfr

theorem dL_law_672 : decode cL_law 672 = .ok (.aload_n 1, 1) := zk_43 (by decide +kernel)
theorem dL_law_673 : decode cL_law 673 = .ok (.aload_n 0, 1) := zk_42 (by decide +kernel)
theorem dL_law_674 : decode cL_law 674 = .ok (.iload 4, 2) := zk_21 (by decide +kernel)
theorem dL_law_676 : decode cL_law 676 = .ok (.iconst 1, 1) := zk_4 (by decide +kernel)
theorem dL_law_677 : decode cL_law 677 = .ok (.iadd, 1) := zk_96 (by decide +kernel)
theorem dL_law_678 : decode cL_law 678 = .ok (.iaload, 1) := zk_46 (by decide +kernel)
theorem dL_law_679 : decode cL_law 679 = .ok (.aload_n 0, 1) := zk_42 (by decide +kernel)
theorem dL_law_680 : decode cL_law 680 = .ok (.iload 4, 2) := zk_21 (by decide +kernel)
theorem dL_law_682 : decode cL_law 682 = .ok (.iconst 2, 1) := zk_5 (by decide +kernel)
theorem dL_law_683 : decode cL_law 683 = .ok (.iadd, 1) := zk_96 (by decide +kernel)
theorem dL_law_684 : decode cL_law 684 = .ok (.iaload, 1) := zk_46 (by decide +kernel)
theorem dL_law_685 : decode cL_law 685 = .ok (.i2l, 1) := zk_133 (by decide +kernel)
theorem dL_law_686 : decode cL_law 686 = .ok (.bipush 32, 2) := zk_16 (by decide +kernel)
theorem dL_law_688 : decode cL_law 688 = .ok (.lshl, 1) := zk_121 (by decide +kernel)
theorem dL_law_689 : decode cL_law 689 = .ok (.aload_n 0, 1) := zk_42 (by decide +kernel)
theorem dL_law_690 : decode cL_law 690 = .ok (.iload 4, 2) := zk_21 (by decide +kernel)
theorem dL_law_692 : decode cL_law 692 = .ok (.iconst 3, 1) := zk_6 (by decide +kernel)
theorem dL_law_693 : decode cL_law 693 = .ok (.iadd, 1) := zk_96 (by decide +kernel)
theorem dL_law_694 : decode cL_law 694 = .ok (.iaload, 1) := zk_46 (by decide +kernel)
theorem dL_law_695 : decode cL_law 695 = .ok (.i2l, 1) := zk_133 (by decide +kernel)
theorem dL_law_696 : decode cL_law 696 = .ok (.ldc2_w 50, 3) := zk_20 (by decide +kernel)
theorem dL_law_699 : decode cL_law 699 = .ok (.land, 1) := zk_127 (by decide +kernel)
theorem dL_law_700 : decode cL_law 700 = .ok (.lor, 1) := zk_129 (by decide +kernel)
theorem dL_law_701 : decode cL_law 701 = .ok (.invokevirtual 67, 3) := zk_182 (by decide +kernel)
theorem dL_law_704 : decode cL_law 704 = .ok (.pop, 1) := zk_87 (by decide +kernel)
theorem dL_law_705 : decode cL_law 705 = .ok (.aload_n 2, 1) := zk_44 (by decide +kernel)
theorem dL_law_706 : decode cL_law 706 = .ok (.aload_n 0, 1) := zk_42 (by decide +kernel)
theorem dL_law_707 : decode cL_law 707 = .ok (.iload 4, 2) := zk_21 (by decide +kernel)
theorem dL_law_709 : decode cL_law 709 = .ok (.iconst 1, 1) := zk_4 (by decide +kernel)
theorem dL_law_710 : decode cL_law 710 = .ok (.iadd, 1) := zk_96 (by decide +kernel)
theorem dL_law_711 : decode cL_law 711 = .ok (.iaload, 1) := zk_46 (by decide +kernel)
theorem dL_law_712 : decode cL_law 712 = .ok (.aload_n 0, 1) := zk_42 (by decide +kernel)
theorem dL_law_713 : decode cL_law 713 = .ok (.iload 4, 2) := zk_21 (by decide +kernel)
theorem dL_law_715 : decode cL_law 715 = .ok (.iconst 2, 1) := zk_5 (by decide +kernel)
theorem dL_law_716 : decode cL_law 716 = .ok (.iadd, 1) := zk_96 (by decide +kernel)
theorem dL_law_717 : decode cL_law 717 = .ok (.iaload, 1) := zk_46 (by decide +kernel)
theorem dL_law_718 : decode cL_law 718 = .ok (.i2l, 1) := zk_133 (by decide +kernel)
theorem dL_law_719 : decode cL_law 719 = .ok (.bipush 32, 2) := zk_16 (by decide +kernel)
theorem dL_law_721 : decode cL_law 721 = .ok (.lshl, 1) := zk_121 (by decide +kernel)
theorem dL_law_722 : decode cL_law 722 = .ok (.aload_n 0, 1) := zk_42 (by decide +kernel)
theorem dL_law_723 : decode cL_law 723 = .ok (.iload 4, 2) := zk_21 (by decide +kernel)
theorem dL_law_725 : decode cL_law 725 = .ok (.iconst 3, 1) := zk_6 (by decide +kernel)
theorem dL_law_726 : decode cL_law 726 = .ok (.iadd, 1) := zk_96 (by decide +kernel)
theorem dL_law_727 : decode cL_law 727 = .ok (.iaload, 1) := zk_46 (by decide +kernel)
theorem dL_law_728 : decode cL_law 728 = .ok (.i2l, 1) := zk_133 (by decide +kernel)
theorem dL_law_729 : decode cL_law 729 = .ok (.ldc2_w 50, 3) := zk_20 (by decide +kernel)
theorem dL_law_732 : decode cL_law 732 = .ok (.land, 1) := zk_127 (by decide +kernel)
theorem dL_law_733 : decode cL_law 733 = .ok (.lor, 1) := zk_129 (by decide +kernel)
theorem dL_law_734 : decode cL_law 734 = .ok (.invokevirtual 71, 3) := zk_182 (by decide +kernel)
theorem dL_law_737 : decode cL_law 737 = .ok (.pop, 1) := zk_87 (by decide +kernel)
theorem dL_law_738 : decode cL_law 738 = .ok (.goto 1274, 3) := zk_167 (by decide +kernel)
set_option maxHeartbeats 4000000 in
set_option maxRecDepth 100000 in
theorem law_feast (l : Launch) (hst : l.stackTraces = false) {p : Program} {e : Env} {s : State} {m : MethodId} {below : List Frame} {meth : Method} {c : Code} {bs L : Nat} {xs : Nat → Int32} (C0 : lw_At p s m meth c bs L xs) (dC : Nat → ClassId) (dI : Nat → Nat → Nat) (A : Nat → Prop) (hAe : ∀ q, A q ↔ s.heap.size ≤ q) (x : Nat) (pa : Nat) (bk : Nat) (xsp : Nat) (xdy : Nat) (le : Nat) (xst : Nat) (xsc : Int32) (xim : Nat) (xil : Nat) (xik : Int32) (xmo : Nat) (xom : Nat) (wi : Nat) (mla : Value) (mct : Int64) (myr : Int64) (mdy : Int64) (mlg : Int64) (bto : Nat) (bnm : Nat) (bla : Nat) (bsk : Nat) (bru : Nat) (bbo : Nat) (bdi : Nat) (bda : Nat) (bdk : Nat) (bdt : Nat) (bdp : Nat) (bno : Nat) (cTo : ClassId) (fTo : Nat → Int32) (cLa : ClassId) (La : Nat → Nat) (FI : Nat → Int32) (GR : Nat → Int32) (FR : Nat → Int32) (wd : Int32) (wf : Int32) (mp : Int32) (mb : Int32) (mo : Int32) (sp : Int32) (sb : Int32) (rco : Nat) (rsz : Int32) (ren : Nat) (rst : Nat) (rkn : Int32) (cRc : ClassId) (fRc : Nat → Int32) (cRe : ClassId) (fRe : Nat → Int32) (cRs : ClassId) (fRs : Nat → Int64) (mq : Nat) (g : Nat → Int32) (gl : Nat → Int64) (rf : Nat → Nat) (ck : Nat → ClassId) (f_sky : Nat → Int32) (f_landHas : Nat → Int32) (f_first : Nat → Int32) (f_last : Nat → Int32) (f_knot : Nat → Int32) (f_part : Nat → Int32) (f_other : Nat → Int32) (f_names : Nat → Int64) (f_value : Nat → Int64) (o3 : Nat) (hE : ∀ k, ¬ fRe k < 0) (hfe0 : ¬ (g 13) < 0) (hfe4 : (g 13) ≤ 4) (hFA : ∀ k : Int32, ¬ k < 0 → k < (g 13) → ¬ (f_first k.toNatClampNeg) < 0 ∧ (f_last k.toNatClampNeg) ≤ 64 ∧ ¬ (f_last k.toNatClampNeg) < 1) (hKA : ∀ k : Nat, k < 64 → xKV f_knot f_part f_other k) (hln0 : ¬ (g 12) < 0) (hln4 : (g 12) ≤ 4) (hLZ : ∀ k : Int32, ¬ k < 0 → k < (g 12) → ¬ (f_landHas ((3 * k).toNatClampNeg)) = 0) (hs0 : ¬ (f_sky 0) < 1) (hs2 : ¬ (f_sky 2) < 1) (hs5 : ¬ (f_sky 5) < 1) (sL : Nat → Nat) (hNx : xN s) (i y1 y2 y3 : Int32) (hi1 : vp_in (i + 1) L) (hy1 : xs (i + 1).toNatClampNeg = y1) (hi2 : vp_in (i + 2) L) (hy2 : xs (i + 2).toNatClampNeg = y2) (hi3 : vp_in (i + 3) L) (hy3 : xs (i + 3).toNatClampNeg = y3)  (Bp : Nat → Prop) (H0 : Heap) (locs : List Loc) (ls : Array Slot) (ce sl : Nat) (hce : ce + 1 ≤ 601024) (hsl : sl + 6 ≤ 7293034) (hK : va_K (dC, dI) vwCl [(cTo, .int), (cLa, .object RX1), (cRc, .int), (cRe, .int), (cRs, .long), ((ck 24), .int), ((ck 29), .int), ((ck 31), .int), ((ck 32), .int), ((ck 41), .int), ((ck 42), .int), ((ck 43), .int), ((ck 55), .long), ((ck 56), .long)] s) (hP : va_P (dC, dI) vwCl [(eO11a x pa bk xsp xdy le xst xsc xim xil xik xmo xom wi), (xmo, .inr (4, [mla, .long mct, .long myr, .long mdy, .long mlg])), (eO0a bk bto bnm bla bsk bru bbo bdi bda bdk bdt bdp bno), (eA0 bto cTo 5 fTo), (eA4 bla cLa 4 (fun k => some (La k))), (eO1a (La 0) (FI 0) (GR 0) (FR 0)), (eO9a bsk wd wf mp mb mo sp sb), (eO8a bru rco rsz ren rst rkn), (eA0 rco cRc 64 fRc), (eA0 ren cRe 4 fRe), (eA1 rst cRs 64 fRs), (mq, .inr (12, mF g gl rf)), (eA0 (rf 24) (ck 24) 14 f_sky), (eA0 (rf 29) (ck 29) 24 f_landHas), (eA0 (rf 31) (ck 31) 8 f_first), (eA0 (rf 32) (ck 32) 8 f_last), (eA0 (rf 41) (ck 41) 128 f_knot), (eA0 (rf 42) (ck 42) 128 f_part), (eA0 (rf 43) (ck 43) 128 f_other), (eA1 (rf 55) (ck 55) 6 f_names), (eA1 (rf 56) (ck 56) 64 f_value)] H0) (hD : va_D A [(eO11a x pa bk xsp xdy le xst xsc xim xil xik xmo xom wi), (xmo, .inr (4, [mla, .long mct, .long myr, .long mdy, .long mlg])), (eO0a bk bto bnm bla bsk bru bbo bdi bda bdk bdt bdp bno), (eA0 bto cTo 5 fTo), (eA4 bla cLa 4 (fun k => some (La k))), (eO1a (La 0) (FI 0) (GR 0) (FR 0)), (eO9a bsk wd wf mp mb mo sp sb), (eO8a bru rco rsz ren rst rkn), (eA0 rco cRc 64 fRc), (eA0 ren cRe 4 fRe), (eA1 rst cRs 64 fRs), (mq, .inr (12, mF g gl rf)), (eA0 (rf 24) (ck 24) 14 f_sky), (eA0 (rf 29) (ck 29) 24 f_landHas), (eA0 (rf 31) (ck 31) 8 f_first), (eA0 (rf 32) (ck 32) 8 f_last), (eA0 (rf 41) (ck 41) 128 f_knot), (eA0 (rf 42) (ck 42) 128 f_part), (eA0 (rf 43) (ck 43) 128 f_other), (eA1 (rf 55) (ck 55) 6 f_names), (eA1 (rf 56) (ck 56) 64 f_value)]) (hBs : yB Bp [(eO11a x pa bk xsp xdy le xst xsc xim xil xik xmo xom wi), (xmo, .inr (4, [mla, .long mct, .long myr, .long mdy, .long mlg])), (eO0a bk bto bnm bla bsk bru bbo bdi bda bdk bdt bdp bno), (eA0 bto cTo 5 fTo), (eA4 bla cLa 4 (fun k => some (La k))), (eO1a (La 0) (FI 0) (GR 0) (FR 0)), (eO9a bsk wd wf mp mb mo sp sb), (eO8a bru rco rsz ren rst rkn), (eA0 rco cRc 64 fRc), (eA0 ren cRe 4 fRe), (eA1 rst cRs 64 fRs), (mq, .inr (12, mF g gl rf)), (eA0 (rf 24) (ck 24) 14 f_sky), (eA0 (rf 29) (ck 29) 24 f_landHas), (eA0 (rf 31) (ck 31) 8 f_first), (eA0 (rf 32) (ck 32) 8 f_last), (eA0 (rf 41) (ck 41) 128 f_knot), (eA0 (rf 42) (ck 42) 128 f_part), (eA0 (rf 43) (ck 43) 128 f_other), (eA1 (rf 55) (ck 55) 6 f_names), (eA1 (rf 56) (ck 56) 64 f_value)]) (hS : va_S A s.heap H0 locs) (hl : lv_has ls 7 [(4, .int i), (3, .ref o3), (2, .ref mq), (1, .ref x), (0, .ref bs)]) (kk1 : ∀ (X_12 : Int32 × (Nat → Int64) × (Value) × (Int64) × (Int64) × (Int64) × (Int64)), X_12 = (fx_feast mla mct myr mdy mlg fTo La FI GR FR wd wf mp mb mo sp sb fRc fRe fRs y1 ((y2.toInt64 <<< ((32 : Int32).toInt64 &&& 63)) ||| (y3.toInt64 &&& 4294967295))) → ∀ (r_4 : Int32), r_4 = X_12.1 → ∀ (u_5 : (Nat → Int64) × (Value) × (Int64) × (Int64) × (Int64) × (Int64)), u_5 = X_12.2 → ∀ (X_24 : Int32 × (Int32) × (Int64) × (Int64) × (Int32) × (Nat → Int64) × (Nat → Int64)), X_24 = (fq_feast f_sky f_landHas f_first f_last f_knot f_part f_other f_names f_value y1 ((y2.toInt64 <<< ((32 : Int32).toInt64 &&& 63)) ||| (y3.toInt64 &&& 4294967295)) (g 12) (g 13) (gl 53) (gl 54) (g 57)) → ∀ (r_16 : Int32), r_16 = X_24.1 → ∀ (u_17 : (Int32) × (Int64) × (Int64) × (Int32) × (Nat → Int64) × (Nat → Int64)), u_17 = X_24.2 → ∀ (H : Heap) (locs : List Loc) (ls : Array Slot), va_P (dC, dI) vwCl [(eO11a x pa bk xsp xdy le xst xsc xim xil xik xmo xom wi), (xmo, .inr (4, [u_5.2.1, .long u_5.2.2.1, .long u_5.2.2.2.1, .long u_5.2.2.2.2.1, .long u_5.2.2.2.2.2])), (eO0a bk bto bnm bla bsk bru bbo bdi bda bdk bdt bdp bno), (eA0 bto cTo 5 fTo), (eA4 bla cLa 4 (fun k => some (La k))), (eO1a (La 0) (FI 0) (GR 0) (FR 0)), (eO9a bsk wd wf mp mb mo sp sb), (eO8a bru rco rsz ren rst rkn), (eA0 rco cRc 64 fRc), (eA0 ren cRe 4 fRe), (eA1 rst cRs 64 u_5.1), (mq, .inr (12, mF (upd (upd g 2 u_17.1) 57 u_17.2.2.2.1) (vp_updL (vp_updL gl 53 u_17.2.1) 54 u_17.2.2.1) rf)), (eA0 (rf 24) (ck 24) 14 f_sky), (eA0 (rf 29) (ck 29) 24 f_landHas), (eA0 (rf 31) (ck 31) 8 f_first), (eA0 (rf 32) (ck 32) 8 f_last), (eA0 (rf 41) (ck 41) 128 f_knot), (eA0 (rf 42) (ck 42) 128 f_part), (eA0 (rf 43) (ck 43) 128 f_other), (eA1 (rf 55) (ck 55) 6 u_17.2.2.2.2.1), (eA1 (rf 56) (ck 56) 64 u_17.2.2.2.2.2)] H → va_S A s.heap H locs → lv_has ls 7 [(4, .int i), (3, .ref o3), (2, .ref mq), (1, .ref x), (0, .ref bs)] → H0.size ≤ H.size → (∀ q : Nat, q < H0.size → ¬ Bp q → H[q]? = H0[q]?) → W p l e room_1 s m #[Value.ref bs] below meth c H locs (ce + 1) (sl + 6) (lw_Z below #[Value.ref bs] s) (F0 m 2012 ls [])) : W p l e room_1 s m #[Value.ref bs] below meth c H0 locs ce sl (lw_Z below #[Value.ref bs] s) (F0 m 672 ls []) := by
  obtain ⟨hx, hb, hr, hml, hown, hts, hX, hbl, hlocks, hgv⟩ := id C0
  have htw : ∀ w ∈ wsL_law, w.before _ s = true := fun w h => hts w (wsL_law_in w h)
  have hown : s.vm.findClass RL = some m.cls := hown
  have hA : ∀ q : Nat, s.heap.size ≤ q → A q := fun q h => (hAe q).mpr h
  have hbA : ¬ A bs := fun h => absurd ((hAe bs).mp h) (Nat.not_le.mpr hbl)
  obtain ⟨H, rH⟩ : ∃ z : Heap, z = H0 := ⟨_, rfl⟩
  have hfr : ∀ q : Nat, q < H0.size → ¬ Bp q → H[q]? = H0[q]? := fun q _ _ => by rw [rH]
  have hz0 : H0.size ≤ H.size := by rw [rH]; exact Nat.le_refl _
  rw [← rH] at hP hS ⊢
  refine lv_aload_n hx hb dL_law_672 rfl (lv_at hl 3 rfl) ?_
  refine lv_aload_n hx hb dL_law_673 rfl (lv_at hl 4 rfl) ?_
  refine lv_iload hx hb dL_law_674 (lv_at hl 0 rfl) ?_
  refine lv_iconst (v := 1) hx hb dL_law_676 (by decide) ?_
  refine lv_iadd hx hb dL_law_677 ?_
  refine va_sld hx hb hX hbl hbA hS hi1 dL_law_678 ?_
  rw [hy1]
  refine lv_aload_n hx hb dL_law_679 rfl (lv_at hl 4 rfl) ?_
  refine lv_iload hx hb dL_law_680 (lv_at hl 0 rfl) ?_
  refine lv_iconst (v := 2) hx hb dL_law_682 (by decide) ?_
  refine lv_iadd hx hb dL_law_683 ?_
  refine va_sld hx hb hX hbl hbA hS hi2 dL_law_684 ?_
  rw [hy2]
  refine lv_i2l (v := y2.toInt64) hx hb dL_law_685 rfl ?_
  refine lv_bipush (v := 32) hx hb dL_law_686 (by decide) ?_
  refine lv_lshl (v := (y2.toInt64 <<< ((32 : Int32).toInt64 &&& 63))) hx hb dL_law_688 rfl ?_
  refine lv_aload_n hx hb dL_law_689 rfl (lv_at hl 4 rfl) ?_
  refine lv_iload hx hb dL_law_690 (lv_at hl 0 rfl) ?_
  refine lv_iconst (v := 3) hx hb dL_law_692 (by decide) ?_
  refine lv_iadd hx hb dL_law_693 ?_
  refine va_sld hx hb hX hbl hbA hS hi3 dL_law_694 ?_
  rw [hy3]
  refine lv_i2l (v := y3.toInt64) hx hb dL_law_695 rfl ?_
  refine lv_ldc2 (v := 4294967295) hx hb hown (htw _ (ck_1 _ (List.mem_of_getElem? (i := 7) rfl))) dL_law_696 ?_
  refine lv_land hx hb dL_law_699 ?_
  refine lv_lor hx hb dL_law_700 ?_
  obtain ⟨hPc, hDc, hFc, hCc⟩ := zsub3 (ws' := [(eO11a x pa bk xsp xdy le xst xsc xim xil xik xmo xom wi), (xmo, .inr (4, [mla, .long mct, .long myr, .long mdy, .long mlg])), (eO0a bk bto bnm bla bsk bru bbo bdi bda bdk bdt bdp bno), (eA0 bto cTo 5 fTo), (eA4 bla cLa 4 (fun k => some (La k))), (eO1a (La 0) (FI 0) (GR 0) (FR 0)), (eO9a bsk wd wf mp mb mo sp sb), (eO8a bru rco rsz ren rst rkn), (eA0 rco cRc 64 fRc), (eA0 ren cRe 4 fRe), (eA1 rst cRs 64 fRs)]) hP hD hS hA [0, 1, 2, 3, 4, 5, 6, 7, 8, 9, 10] (by decide +kernel) rfl
  have hKc := hK.sub (tys' := [(cTo, .int), (cLa, .object RX1), (cRc, .int), (cRe, .int), (cRs, .long)]) [0, 1, 2, 3, 4] rfl
  refine va_calli (va_runV (As := [.int y1, .long ((y2.toInt64 <<< ((32 : Int32).toInt64 &&& 63)) ||| (y3.toInt64 &&& 4294967295))]) (rest := []) ⟨hx, hb, hml, hown, htw⟩ (gx_feast l dC dI x pa bk xsp xdy le xst xsc xim xil xik xmo xom wi mla mct myr mdy mlg bto bnm bla bsk bru bbo bdi bda bdk bdt bdp bno cTo fTo cLa La FI GR FR wd wf mp mb mo sp sb rco rsz ren rst rkn cRc fRc cRe fRe cRs fRs y1 ((y2.toInt64 <<< ((32 : Int32).toInt64 &&& 63)) ||| (y3.toInt64 &&& 4294967295)) H.size hE) (cwV 2 htw (xg_V (ck_38 _ (List.mem_of_getElem? (i := 10) rfl)) (ck_38 _ (List.mem_of_getElem? (i := 11) rfl)) (ck_38 _ (List.mem_of_getElem? (i := 12) rfl)) (ck_1 _ (List.mem_of_getElem? (i := 2) rfl)) (ck_38 _ (List.mem_of_getElem? (i := 13) rfl))) rfl rfl rfl (by exact ⟨rfl, hdc_8.1, hdc_8.2, hdd_60⟩) ⟨Nat.le_of_ble_eq_true rfl, Nat.le_of_ble_eq_true rfl⟩) ⟨fun a U g mk q => by obtain ⟨q0, q1, qP, qK, qD, qx0⟩ := q; exact ⟨q0, q1, qP, va_K.moved (u := U) (U := U.calling g mk a) (Vm.Alike.refl U.vm) qK, qD, xN.calling qx0⟩, va_recv hKc hPc (ci := 11) (q0 := 0) rfl rfl, fun U hU hW => ⟨rfl, by rw [hU], by rw [hU]; exact hPc, va_K.moved hW.alike hKc, hDc.weaken (fun _ _ _ _ => trivial), xN.warm hW hNx⟩⟩ rfl rfl hl.1 rfl (lv_room (Nat.le_of_ble_eq_true rfl)) dL_law_701 ⟨by first | exact Nat.le_of_ble_eq_true rfl | exact yR (n := 0) (by omega) rfl, by first | exact Nat.le_of_ble_eq_true rfl | exact yR2 (n := 0) (by omega) rfl⟩) hS (fun q _ h => hFc q h) hFc (fun r_4 u_5 t H1 locs ht hvm hw hB hz1 hk1 hS => ?_)
  try dsimp only at hw
  obtain ⟨hP1, hK1, hD1⟩ := hB
  rw [ht] at hP1
  have hK1 := va_K.moved hvm.symm hK1
  have hK1 : va_K (dC, dI) vwCl [] s := hK1
  obtain ⟨hP, hD⟩ := va_join (wr := [(mq, .inr (12, mF g gl rf)), (eA0 (rf 24) (ck 24) 14 f_sky), (eA0 (rf 29) (ck 29) 24 f_landHas), (eA0 (rf 31) (ck 31) 8 f_first), (eA0 (rf 32) (ck 32) 8 f_last), (eA0 (rf 41) (ck 41) 128 f_knot), (eA0 (rf 42) (ck 42) 128 f_part), (eA0 (rf 43) (ck 43) 128 f_other), (eA1 (rf 55) (ck 55) 6 f_names), (eA1 (rf 56) (ck 56) 64 f_value)]) (w1 := [(eO11a x pa bk xsp xdy le xst xsc xim xil xik xmo xom wi), (xmo, .inr (4, [u_5.2.1, .long u_5.2.2.1, .long u_5.2.2.2.1, .long u_5.2.2.2.2.1, .long u_5.2.2.2.2.2])), (eO0a bk bto bnm bla bsk bru bbo bdi bda bdk bdt bdp bno), (eA0 bto cTo 5 fTo), (eA4 bla cLa 4 (fun k => some (La k))), (eO1a (La 0) (FI 0) (GR 0) (FR 0)), (eO9a bsk wd wf mp mb mo sp sb), (eO8a bru rco rsz ren rst rkn), (eA0 rco cRc 64 fRc), (eA0 ren cRe 4 fRe), (eA1 rst cRs 64 u_5.1)]) hP hD [0, 1, 2, 3, 4, 5, 6, 7, 8, 9, 10] [11, 12, 13, 14, 15, 16, 17, 18, 19, 20] hCc rfl (by decide +kernel) (by decide +kernel) hk1 hFc hP1 hD1
  have hfr := yF (wc := [(eO11a x pa bk xsp xdy le xst xsc xim xil xik xmo xom wi), (xmo, .inr (4, [mla, .long mct, .long myr, .long mdy, .long mlg])), (eO0a bk bto bnm bla bsk bru bbo bdi bda bdk bdt bdp bno), (eA0 bto cTo 5 fTo), (eA4 bla cLa 4 (fun k => some (La k))), (eO1a (La 0) (FI 0) (GR 0) (FR 0)), (eO9a bsk wd wf mp mb mo sp sb), (eO8a bru rco rsz ren rst rkn), (eA0 rco cRc 64 fRc), (eA0 ren cRe 4 fRe), (eA1 rst cRs 64 fRs)]) hBs [0, 1, 2, 3, 4, 5, 6, 7, 8, 9, 10] rfl hz0 hfr hk1
  have hz0 := Nat.le_trans hz0 hz1
  generalize H1 = H at hP hS hfr hz0 ⊢
  obtain ⟨hP, hD⟩ := zre [(mq, .inr (12, mF g gl rf)), (eA0 (rf 24) (ck 24) 14 f_sky), (eA0 (rf 29) (ck 29) 24 f_landHas), (eA0 (rf 31) (ck 31) 8 f_first), (eA0 (rf 32) (ck 32) 8 f_last), (eA0 (rf 41) (ck 41) 128 f_knot), (eA0 (rf 42) (ck 42) 128 f_part), (eA0 (rf 43) (ck 43) 128 f_other), (eA1 (rf 55) (ck 55) 6 f_names), (eA1 (rf 56) (ck 56) 64 f_value), (eO11a x pa bk xsp xdy le xst xsc xim xil xik xmo xom wi), (xmo, .inr (4, [u_5.2.1, .long u_5.2.2.1, .long u_5.2.2.2.1, .long u_5.2.2.2.2.1, .long u_5.2.2.2.2.2])), (eO0a bk bto bnm bla bsk bru bbo bdi bda bdk bdt bdp bno), (eA0 bto cTo 5 fTo), (eA4 bla cLa 4 (fun k => some (La k))), (eO1a (La 0) (FI 0) (GR 0) (FR 0)), (eO9a bsk wd wf mp mb mo sp sb), (eO8a bru rco rsz ren rst rkn), (eA0 rco cRc 64 fRc), (eA0 ren cRe 4 fRe), (eA1 rst cRs 64 u_5.1)] hP hD rfl
  refine W.widen (k := ce + 0) (n := sl + 0) (by omega) (by omega) ?_
  obtain ⟨X_12, hX_12⟩ : ∃ X9 : Int32 × (Nat → Int64) × (Value) × (Int64) × (Int64) × (Int64) × (Int64), X9 = (fx_feast mla mct myr mdy mlg fTo La FI GR FR wd wf mp mb mo sp sb fRc fRe fRs y1 ((y2.toInt64 <<< ((32 : Int32).toInt64 &&& 63)) ||| (y3.toInt64 &&& 4294967295))) := ⟨_, rfl⟩
  have hq_r_4 : r_4 = X_12.1 := by rw [hX_12]; exact hw.1
  have hq_u_5 : u_5 = X_12.2 := by rw [hX_12]; exact hw.2
  refine lv_pop hx hb dL_law_704 rfl ?_
  refine lv_aload_n hx hb dL_law_705 rfl (lv_at hl 2 rfl) ?_
  refine lv_aload_n hx hb dL_law_706 rfl (lv_at hl 4 rfl) ?_
  refine lv_iload hx hb dL_law_707 (lv_at hl 0 rfl) ?_
  refine lv_iconst (v := 1) hx hb dL_law_709 (by decide) ?_
  refine lv_iadd hx hb dL_law_710 ?_
  refine va_sld hx hb hX hbl hbA hS hi1 dL_law_711 ?_
  rw [hy1]
  refine lv_aload_n hx hb dL_law_712 rfl (lv_at hl 4 rfl) ?_
  refine lv_iload hx hb dL_law_713 (lv_at hl 0 rfl) ?_
  refine lv_iconst (v := 2) hx hb dL_law_715 (by decide) ?_
  refine lv_iadd hx hb dL_law_716 ?_
  refine va_sld hx hb hX hbl hbA hS hi2 dL_law_717 ?_
  rw [hy2]
  refine lv_i2l (v := y2.toInt64) hx hb dL_law_718 rfl ?_
  refine lv_bipush (v := 32) hx hb dL_law_719 (by decide) ?_
  refine lv_lshl (v := (y2.toInt64 <<< ((32 : Int32).toInt64 &&& 63))) hx hb dL_law_721 rfl ?_
  refine lv_aload_n hx hb dL_law_722 rfl (lv_at hl 4 rfl) ?_
  refine lv_iload hx hb dL_law_723 (lv_at hl 0 rfl) ?_
  refine lv_iconst (v := 3) hx hb dL_law_725 (by decide) ?_
  refine lv_iadd hx hb dL_law_726 ?_
  refine va_sld hx hb hX hbl hbA hS hi3 dL_law_727 ?_
  rw [hy3]
  refine lv_i2l (v := y3.toInt64) hx hb dL_law_728 rfl ?_
  refine lv_ldc2 (v := 4294967295) hx hb hown (htw _ (ck_1 _ (List.mem_of_getElem? (i := 7) rfl))) dL_law_729 ?_
  refine lv_land hx hb dL_law_732 ?_
  refine lv_lor hx hb dL_law_733 ?_
  obtain ⟨hPc, hDc, hFc, hCc⟩ := zsub3 (ws' := [(mq, .inr (12, mF g gl rf)), (eA0 (rf 24) (ck 24) 14 f_sky), (eA0 (rf 29) (ck 29) 24 f_landHas), (eA0 (rf 31) (ck 31) 8 f_first), (eA0 (rf 32) (ck 32) 8 f_last), (eA0 (rf 41) (ck 41) 128 f_knot), (eA0 (rf 42) (ck 42) 128 f_part), (eA0 (rf 43) (ck 43) 128 f_other), (eA1 (rf 55) (ck 55) 6 f_names), (eA1 (rf 56) (ck 56) 64 f_value)]) hP hD hS hA [0, 1, 2, 3, 4, 5, 6, 7, 8, 9] (by decide +kernel) rfl
  have hKc := hK.sub (tys' := [((ck 24), .int), ((ck 29), .int), ((ck 31), .int), ((ck 32), .int), ((ck 41), .int), ((ck 42), .int), ((ck 43), .int), ((ck 55), .long), ((ck 56), .long)]) [5, 6, 7, 8, 9, 10, 11, 12, 13] rfl
  refine va_calli (va_runV (As := [.int y1, .long ((y2.toInt64 <<< ((32 : Int32).toInt64 &&& 63)) ||| (y3.toInt64 &&& 4294967295))]) (rest := []) ⟨hx, hb, hml, hown, htw⟩ (gq_feast l dC dI mq g gl rf ck f_sky f_landHas f_first f_last f_knot f_part f_other f_names f_value y1 ((y2.toInt64 <<< ((32 : Int32).toInt64 &&& 63)) ||| (y3.toInt64 &&& 4294967295)) H.size hfe0 hfe4 hFA hKA hln0 hln4 hLZ hs0 hs2 hs5) (cwV 2 htw (xg_V (ck_40 _ (List.mem_of_getElem? (i := 14) rfl)) (ck_40 _ (List.mem_of_getElem? (i := 15) rfl)) (ck_40 _ (List.mem_of_getElem? (i := 16) rfl)) (ck_1 _ (List.mem_of_getElem? (i := 5) rfl)) (ck_40 _ (List.mem_of_getElem? (i := 17) rfl))) rfl rfl rfl (by exact ⟨rfl, hdc_14.1, hdc_14.2, hdd_60⟩) ⟨Nat.le_of_ble_eq_true rfl, Nat.le_of_ble_eq_true rfl⟩) ⟨fun a U g mk q => by obtain ⟨q0, q1, qP, qK, qD⟩ := q; exact ⟨q0, q1, qP, va_K.moved (u := U) (U := U.calling g mk a) (Vm.Alike.refl U.vm) qK, qD⟩, va_recv hKc hPc (ci := 12) (q0 := 0) rfl rfl, fun U hU hW => ⟨rfl, by rw [hU], by rw [hU]; exact hPc, va_K.moved hW.alike hKc, hDc.weaken (fun _ _ _ _ => trivial)⟩⟩ rfl rfl hl.1 rfl (lv_room (Nat.le_of_ble_eq_true rfl)) dL_law_734 ⟨by first | exact Nat.le_of_ble_eq_true rfl | exact yR (n := 0) (by omega) rfl, by first | exact Nat.le_of_ble_eq_true rfl | exact yR2 (n := 0) (by omega) rfl⟩) hS (fun q _ h => hFc q h) hFc (fun r_16 u_17 t H1 locs ht hvm hw hB hz1 hk1 hS => ?_)
  try dsimp only at hw
  obtain ⟨hP1, hK1, hD1⟩ := hB
  rw [ht] at hP1
  have hK1 := va_K.moved hvm.symm hK1
  have hK1 : va_K (dC, dI) vwCl [] s := hK1
  obtain ⟨hP, hD⟩ := va_join (wr := [(eO11a x pa bk xsp xdy le xst xsc xim xil xik xmo xom wi), (xmo, .inr (4, [u_5.2.1, .long u_5.2.2.1, .long u_5.2.2.2.1, .long u_5.2.2.2.2.1, .long u_5.2.2.2.2.2])), (eO0a bk bto bnm bla bsk bru bbo bdi bda bdk bdt bdp bno), (eA0 bto cTo 5 fTo), (eA4 bla cLa 4 (fun k => some (La k))), (eO1a (La 0) (FI 0) (GR 0) (FR 0)), (eO9a bsk wd wf mp mb mo sp sb), (eO8a bru rco rsz ren rst rkn), (eA0 rco cRc 64 fRc), (eA0 ren cRe 4 fRe), (eA1 rst cRs 64 u_5.1)]) (w1 := [(mq, .inr (12, mF (upd (upd g 2 u_17.1) 57 u_17.2.2.2.1) (vp_updL (vp_updL gl 53 u_17.2.1) 54 u_17.2.2.1) rf)), (eA0 (rf 24) (ck 24) 14 f_sky), (eA0 (rf 29) (ck 29) 24 f_landHas), (eA0 (rf 31) (ck 31) 8 f_first), (eA0 (rf 32) (ck 32) 8 f_last), (eA0 (rf 41) (ck 41) 128 f_knot), (eA0 (rf 42) (ck 42) 128 f_part), (eA0 (rf 43) (ck 43) 128 f_other), (eA1 (rf 55) (ck 55) 6 u_17.2.2.2.2.1), (eA1 (rf 56) (ck 56) 64 u_17.2.2.2.2.2)]) hP hD [0, 1, 2, 3, 4, 5, 6, 7, 8, 9] [10, 11, 12, 13, 14, 15, 16, 17, 18, 19, 20] hCc rfl (by decide +kernel) (by decide +kernel) hk1 hFc hP1 hD1
  have hfr := yF (wc := [(mq, .inr (12, mF g gl rf)), (eA0 (rf 24) (ck 24) 14 f_sky), (eA0 (rf 29) (ck 29) 24 f_landHas), (eA0 (rf 31) (ck 31) 8 f_first), (eA0 (rf 32) (ck 32) 8 f_last), (eA0 (rf 41) (ck 41) 128 f_knot), (eA0 (rf 42) (ck 42) 128 f_part), (eA0 (rf 43) (ck 43) 128 f_other), (eA1 (rf 55) (ck 55) 6 f_names), (eA1 (rf 56) (ck 56) 64 f_value)]) hBs [11, 12, 13, 14, 15, 16, 17, 18, 19, 20] rfl hz0 hfr hk1
  have hz0 := Nat.le_trans hz0 hz1
  generalize H1 = H at hP hS hfr hz0 ⊢
  have hP : va_P (dC, dI) vwCl [(eO11a x pa bk xsp xdy le xst xsc xim xil xik xmo xom wi), (xmo, .inr (4, [u_5.2.1, .long u_5.2.2.1, .long u_5.2.2.2.1, .long u_5.2.2.2.2.1, .long u_5.2.2.2.2.2])), (eO0a bk bto bnm bla bsk bru bbo bdi bda bdk bdt bdp bno), (eA0 bto cTo 5 fTo), (eA4 bla cLa 4 (fun k => some (La k))), (eO1a (La 0) (FI 0) (GR 0) (FR 0)), (eO9a bsk wd wf mp mb mo sp sb), (eO8a bru rco rsz ren rst rkn), (eA0 rco cRc 64 fRc), (eA0 ren cRe 4 fRe), (eA1 rst cRs 64 u_5.1), (mq, .inr (12, mF (upd (upd g 2 u_17.1) 57 u_17.2.2.2.1) (vp_updL (vp_updL gl 53 u_17.2.1) 54 u_17.2.2.1) rf)), (eA0 (rf 24) (ck 24) 14 f_sky), (eA0 (rf 29) (ck 29) 24 f_landHas), (eA0 (rf 31) (ck 31) 8 f_first), (eA0 (rf 32) (ck 32) 8 f_last), (eA0 (rf 41) (ck 41) 128 f_knot), (eA0 (rf 42) (ck 42) 128 f_part), (eA0 (rf 43) (ck 43) 128 f_other), (eA1 (rf 55) (ck 55) 6 u_17.2.2.2.2.1), (eA1 (rf 56) (ck 56) 64 u_17.2.2.2.2.2)] H := hP
  have hD : va_D A [(eO11a x pa bk xsp xdy le xst xsc xim xil xik xmo xom wi), (xmo, .inr (4, [u_5.2.1, .long u_5.2.2.1, .long u_5.2.2.2.1, .long u_5.2.2.2.2.1, .long u_5.2.2.2.2.2])), (eO0a bk bto bnm bla bsk bru bbo bdi bda bdk bdt bdp bno), (eA0 bto cTo 5 fTo), (eA4 bla cLa 4 (fun k => some (La k))), (eO1a (La 0) (FI 0) (GR 0) (FR 0)), (eO9a bsk wd wf mp mb mo sp sb), (eO8a bru rco rsz ren rst rkn), (eA0 rco cRc 64 fRc), (eA0 ren cRe 4 fRe), (eA1 rst cRs 64 u_5.1), (mq, .inr (12, mF (upd (upd g 2 u_17.1) 57 u_17.2.2.2.1) (vp_updL (vp_updL gl 53 u_17.2.1) 54 u_17.2.2.1) rf)), (eA0 (rf 24) (ck 24) 14 f_sky), (eA0 (rf 29) (ck 29) 24 f_landHas), (eA0 (rf 31) (ck 31) 8 f_first), (eA0 (rf 32) (ck 32) 8 f_last), (eA0 (rf 41) (ck 41) 128 f_knot), (eA0 (rf 42) (ck 42) 128 f_part), (eA0 (rf 43) (ck 43) 128 f_other), (eA1 (rf 55) (ck 55) 6 u_17.2.2.2.2.1), (eA1 (rf 56) (ck 56) 64 u_17.2.2.2.2.2)] := hD
  refine W.widen (k := ce + 0) (n := sl + 0) (by omega) (by omega) ?_
  obtain ⟨X_24, hX_24⟩ : ∃ X9 : Int32 × (Int32) × (Int64) × (Int64) × (Int32) × (Nat → Int64) × (Nat → Int64), X9 = (fq_feast f_sky f_landHas f_first f_last f_knot f_part f_other f_names f_value y1 ((y2.toInt64 <<< ((32 : Int32).toInt64 &&& 63)) ||| (y3.toInt64 &&& 4294967295)) (g 12) (g 13) (gl 53) (gl 54) (g 57)) := ⟨_, rfl⟩
  have hq_r_16 : r_16 = X_24.1 := by rw [hX_24]; exact hw.1
  have hq_u_17 : u_17 = X_24.2 := by rw [hX_24]; exact hw.2
  refine lv_pop hx hb dL_law_737 rfl ?_
  refine lv_goto (tgt := 2012) hx hb dL_law_738 (by decide) ?_
  refine W.widen (k := ce + 1) (n := sl + 6) (by omega) (by omega) ?_
  exact kk1 X_12 hX_12 r_4 hq_r_4 u_5 hq_u_5 X_24 hX_24 r_16 hq_r_16 u_17 hq_u_17 H locs ls (hP.sub (ws' := [(eO11a x pa bk xsp xdy le xst xsc xim xil xik xmo xom wi), (xmo, .inr (4, [u_5.2.1, .long u_5.2.2.1, .long u_5.2.2.2.1, .long u_5.2.2.2.2.1, .long u_5.2.2.2.2.2])), (eO0a bk bto bnm bla bsk bru bbo bdi bda bdk bdt bdp bno), (eA0 bto cTo 5 fTo), (eA4 bla cLa 4 (fun k => some (La k))), (eO1a (La 0) (FI 0) (GR 0) (FR 0)), (eO9a bsk wd wf mp mb mo sp sb), (eO8a bru rco rsz ren rst rkn), (eA0 rco cRc 64 fRc), (eA0 ren cRe 4 fRe), (eA1 rst cRs 64 u_5.1), (mq, .inr (12, mF (upd (upd g 2 u_17.1) 57 u_17.2.2.2.1) (vp_updL (vp_updL gl 53 u_17.2.1) 54 u_17.2.2.1) rf)), (eA0 (rf 24) (ck 24) 14 f_sky), (eA0 (rf 29) (ck 29) 24 f_landHas), (eA0 (rf 31) (ck 31) 8 f_first), (eA0 (rf 32) (ck 32) 8 f_last), (eA0 (rf 41) (ck 41) 128 f_knot), (eA0 (rf 42) (ck 42) 128 f_part), (eA0 (rf 43) (ck 43) 128 f_other), (eA1 (rf 55) (ck 55) 6 u_17.2.2.2.2.1), (eA1 (rf 56) (ck 56) 64 u_17.2.2.2.2.2)]) [0, 1, 2, 3, 4, 5, 6, 7, 8, 9, 10, 11, 12, 13, 14, 15, 16, 17, 18, 19, 20] rfl) hS (lv_sub hl [0, 1, 2, 3, 4] rfl) hz0 hfr

theorem dL_law_741 : decode cL_law 741 = .ok (.aload_n 1, 1) := zk_43 (by decide +kernel)
theorem dL_law_742 : decode cL_law 742 = .ok (.aload_n 0, 1) := zk_42 (by decide +kernel)
theorem dL_law_743 : decode cL_law 743 = .ok (.iload 4, 2) := zk_21 (by decide +kernel)
theorem dL_law_745 : decode cL_law 745 = .ok (.iconst 1, 1) := zk_4 (by decide +kernel)
theorem dL_law_746 : decode cL_law 746 = .ok (.iadd, 1) := zk_96 (by decide +kernel)
theorem dL_law_747 : decode cL_law 747 = .ok (.iaload, 1) := zk_46 (by decide +kernel)
theorem dL_law_748 : decode cL_law 748 = .ok (.aload_n 0, 1) := zk_42 (by decide +kernel)
theorem dL_law_749 : decode cL_law 749 = .ok (.iload 4, 2) := zk_21 (by decide +kernel)
theorem dL_law_751 : decode cL_law 751 = .ok (.iconst 2, 1) := zk_5 (by decide +kernel)
theorem dL_law_752 : decode cL_law 752 = .ok (.iadd, 1) := zk_96 (by decide +kernel)
theorem dL_law_753 : decode cL_law 753 = .ok (.iaload, 1) := zk_46 (by decide +kernel)
theorem dL_law_754 : decode cL_law 754 = .ok (.i2l, 1) := zk_133 (by decide +kernel)
theorem dL_law_755 : decode cL_law 755 = .ok (.bipush 32, 2) := zk_16 (by decide +kernel)
theorem dL_law_757 : decode cL_law 757 = .ok (.lshl, 1) := zk_121 (by decide +kernel)
theorem dL_law_758 : decode cL_law 758 = .ok (.aload_n 0, 1) := zk_42 (by decide +kernel)
theorem dL_law_759 : decode cL_law 759 = .ok (.iload 4, 2) := zk_21 (by decide +kernel)
theorem dL_law_761 : decode cL_law 761 = .ok (.iconst 3, 1) := zk_6 (by decide +kernel)
theorem dL_law_762 : decode cL_law 762 = .ok (.iadd, 1) := zk_96 (by decide +kernel)
theorem dL_law_763 : decode cL_law 763 = .ok (.iaload, 1) := zk_46 (by decide +kernel)
theorem dL_law_764 : decode cL_law 764 = .ok (.i2l, 1) := zk_133 (by decide +kernel)
theorem dL_law_765 : decode cL_law 765 = .ok (.ldc2_w 50, 3) := zk_20 (by decide +kernel)
theorem dL_law_768 : decode cL_law 768 = .ok (.land, 1) := zk_127 (by decide +kernel)
theorem dL_law_769 : decode cL_law 769 = .ok (.lor, 1) := zk_129 (by decide +kernel)
theorem dL_law_770 : decode cL_law 770 = .ok (.invokevirtual 72, 3) := zk_182 (by decide +kernel)
theorem dL_law_773 : decode cL_law 773 = .ok (.pop2, 1) := zk_88 (by decide +kernel)
theorem dL_law_774 : decode cL_law 774 = .ok (.aload_n 2, 1) := zk_44 (by decide +kernel)
theorem dL_law_775 : decode cL_law 775 = .ok (.aload_n 0, 1) := zk_42 (by decide +kernel)
theorem dL_law_776 : decode cL_law 776 = .ok (.iload 4, 2) := zk_21 (by decide +kernel)
theorem dL_law_778 : decode cL_law 778 = .ok (.iconst 1, 1) := zk_4 (by decide +kernel)
theorem dL_law_779 : decode cL_law 779 = .ok (.iadd, 1) := zk_96 (by decide +kernel)
theorem dL_law_780 : decode cL_law 780 = .ok (.iaload, 1) := zk_46 (by decide +kernel)
theorem dL_law_781 : decode cL_law 781 = .ok (.aload_n 0, 1) := zk_42 (by decide +kernel)
theorem dL_law_782 : decode cL_law 782 = .ok (.iload 4, 2) := zk_21 (by decide +kernel)
theorem dL_law_784 : decode cL_law 784 = .ok (.iconst 2, 1) := zk_5 (by decide +kernel)
theorem dL_law_785 : decode cL_law 785 = .ok (.iadd, 1) := zk_96 (by decide +kernel)
theorem dL_law_786 : decode cL_law 786 = .ok (.iaload, 1) := zk_46 (by decide +kernel)
theorem dL_law_787 : decode cL_law 787 = .ok (.i2l, 1) := zk_133 (by decide +kernel)
theorem dL_law_788 : decode cL_law 788 = .ok (.bipush 32, 2) := zk_16 (by decide +kernel)
theorem dL_law_790 : decode cL_law 790 = .ok (.lshl, 1) := zk_121 (by decide +kernel)
theorem dL_law_791 : decode cL_law 791 = .ok (.aload_n 0, 1) := zk_42 (by decide +kernel)
theorem dL_law_792 : decode cL_law 792 = .ok (.iload 4, 2) := zk_21 (by decide +kernel)
theorem dL_law_794 : decode cL_law 794 = .ok (.iconst 3, 1) := zk_6 (by decide +kernel)
theorem dL_law_795 : decode cL_law 795 = .ok (.iadd, 1) := zk_96 (by decide +kernel)
theorem dL_law_796 : decode cL_law 796 = .ok (.iaload, 1) := zk_46 (by decide +kernel)
theorem dL_law_797 : decode cL_law 797 = .ok (.i2l, 1) := zk_133 (by decide +kernel)
theorem dL_law_798 : decode cL_law 798 = .ok (.ldc2_w 50, 3) := zk_20 (by decide +kernel)
theorem dL_law_801 : decode cL_law 801 = .ok (.land, 1) := zk_127 (by decide +kernel)
theorem dL_law_802 : decode cL_law 802 = .ok (.lor, 1) := zk_129 (by decide +kernel)
theorem dL_law_803 : decode cL_law 803 = .ok (.invokevirtual 76, 3) := zk_182 (by decide +kernel)
theorem dL_law_806 : decode cL_law 806 = .ok (.pop2, 1) := zk_88 (by decide +kernel)
theorem dL_law_807 : decode cL_law 807 = .ok (.goto 1205, 3) := zk_167 (by decide +kernel)
set_option maxHeartbeats 4000000 in
set_option maxRecDepth 100000 in
theorem law_festive (l : Launch) (hst : l.stackTraces = false) {p : Program} {e : Env} {s : State} {m : MethodId} {below : List Frame} {meth : Method} {c : Code} {bs L : Nat} {xs : Nat → Int32} (C0 : lw_At p s m meth c bs L xs) (dC : Nat → ClassId) (dI : Nat → Nat → Nat) (A : Nat → Prop) (hAe : ∀ q, A q ↔ s.heap.size ≤ q) (x : Nat) (pa : Nat) (bk : Nat) (xsp : Nat) (xdy : Nat) (le : Nat) (xst : Nat) (xsc : Int32) (xim : Nat) (xil : Nat) (xik : Int32) (xmo : Nat) (xom : Nat) (wi : Nat) (mla : Value) (mct : Int64) (myr : Int64) (mdy : Int64) (mlg : Int64) (w0 : Int32) (w1 : Int32) (w2 : Int32) (w3 : Int32) (w4 : Int32) (bto : Nat) (bnm : Nat) (bla : Nat) (bsk : Nat) (bru : Nat) (bbo : Nat) (bdi : Nat) (bda : Nat) (bdk : Nat) (bdt : Nat) (bdp : Nat) (bno : Nat) (cTo : ClassId) (fTo : Nat → Int32) (cLa : ClassId) (La : Nat → Nat) (FI : Nat → Int32) (GR : Nat → Int32) (FR : Nat → Int32) (wd : Int32) (wf : Int32) (mp : Int32) (mb : Int32) (mo : Int32) (sp : Int32) (sb : Int32) (rco : Nat) (rsz : Int32) (ren : Nat) (rst : Nat) (rkn : Int32) (cRc : ClassId) (fRc : Nat → Int32) (cRe : ClassId) (fRe : Nat → Int32) (cRs : ClassId) (fRs : Nat → Int64) (mq : Nat) (g : Nat → Int32) (gl : Nat → Int64) (rf : Nat → Nat) (ck : Nat → ClassId) (f_sky : Nat → Int32) (f_landHas : Nat → Int32) (f_first : Nat → Int32) (f_last : Nat → Int32) (f_knot : Nat → Int32) (f_part : Nat → Int32) (f_other : Nat → Int32) (f_names : Nat → Int64) (f_value : Nat → Int64) (o3 : Nat) (hE : ∀ k, ¬ fRe k < 0) (hfe0 : ¬ (g 13) < 0) (hfe4 : (g 13) ≤ 4) (hFA : ∀ k : Int32, ¬ k < 0 → k < (g 13) → ¬ (f_first k.toNatClampNeg) < 0 ∧ (f_last k.toNatClampNeg) ≤ 64 ∧ ¬ (f_last k.toNatClampNeg) < 1) (hKA : ∀ k : Nat, k < 64 → xKV f_knot f_part f_other k) (hln0 : ¬ (g 12) < 0) (hln4 : (g 12) ≤ 4) (hLZ : ∀ k : Int32, ¬ k < 0 → k < (g 12) → ¬ (f_landHas ((3 * k).toNatClampNeg)) = 0) (hs0 : ¬ (f_sky 0) < 1) (hs2 : ¬ (f_sky 2) < 1) (hs5 : ¬ (f_sky 5) < 1) (sL : Nat → Nat) (hNx : xN s) (i y1 y2 y3 : Int32) (hi1 : vp_in (i + 1) L) (hy1 : xs (i + 1).toNatClampNeg = y1) (hi2 : vp_in (i + 2) L) (hy2 : xs (i + 2).toNatClampNeg = y2) (hi3 : vp_in (i + 3) L) (hy3 : xs (i + 3).toNatClampNeg = y3)  (Bp : Nat → Prop) (H0 : Heap) (locs : List Loc) (ls : Array Slot) (ce sl : Nat) (hce : ce + 1 ≤ 601024) (hsl : sl + 6 ≤ 7293034) (hK : va_K (dC, dI) vwCl [(cTo, .int), (cLa, .object RX1), (cRc, .int), (cRe, .int), (cRs, .long), ((ck 24), .int), ((ck 29), .int), ((ck 31), .int), ((ck 32), .int), ((ck 41), .int), ((ck 42), .int), ((ck 43), .int), ((ck 55), .long), ((ck 56), .long)] s) (hP : va_P (dC, dI) vwCl [(eO11a x pa bk xsp xdy le xst xsc xim xil xik xmo xom wi), (xmo, .inr (4, [mla, .long mct, .long myr, .long mdy, .long mlg])), (eO10a wi w0 w1 w2 w3 w4), (eO0a bk bto bnm bla bsk bru bbo bdi bda bdk bdt bdp bno), (eA0 bto cTo 5 fTo), (eA4 bla cLa 4 (fun k => some (La k))), (eO1a (La 0) (FI 0) (GR 0) (FR 0)), (eO9a bsk wd wf mp mb mo sp sb), (eO8a bru rco rsz ren rst rkn), (eA0 rco cRc 64 fRc), (eA0 ren cRe 4 fRe), (eA1 rst cRs 64 fRs), (mq, .inr (12, mF g gl rf)), (eA0 (rf 24) (ck 24) 14 f_sky), (eA0 (rf 29) (ck 29) 24 f_landHas), (eA0 (rf 31) (ck 31) 8 f_first), (eA0 (rf 32) (ck 32) 8 f_last), (eA0 (rf 41) (ck 41) 128 f_knot), (eA0 (rf 42) (ck 42) 128 f_part), (eA0 (rf 43) (ck 43) 128 f_other), (eA1 (rf 55) (ck 55) 6 f_names), (eA1 (rf 56) (ck 56) 64 f_value)] H0) (hD : va_D A [(eO11a x pa bk xsp xdy le xst xsc xim xil xik xmo xom wi), (xmo, .inr (4, [mla, .long mct, .long myr, .long mdy, .long mlg])), (eO10a wi w0 w1 w2 w3 w4), (eO0a bk bto bnm bla bsk bru bbo bdi bda bdk bdt bdp bno), (eA0 bto cTo 5 fTo), (eA4 bla cLa 4 (fun k => some (La k))), (eO1a (La 0) (FI 0) (GR 0) (FR 0)), (eO9a bsk wd wf mp mb mo sp sb), (eO8a bru rco rsz ren rst rkn), (eA0 rco cRc 64 fRc), (eA0 ren cRe 4 fRe), (eA1 rst cRs 64 fRs), (mq, .inr (12, mF g gl rf)), (eA0 (rf 24) (ck 24) 14 f_sky), (eA0 (rf 29) (ck 29) 24 f_landHas), (eA0 (rf 31) (ck 31) 8 f_first), (eA0 (rf 32) (ck 32) 8 f_last), (eA0 (rf 41) (ck 41) 128 f_knot), (eA0 (rf 42) (ck 42) 128 f_part), (eA0 (rf 43) (ck 43) 128 f_other), (eA1 (rf 55) (ck 55) 6 f_names), (eA1 (rf 56) (ck 56) 64 f_value)]) (hBs : yB Bp [(eO11a x pa bk xsp xdy le xst xsc xim xil xik xmo xom wi), (xmo, .inr (4, [mla, .long mct, .long myr, .long mdy, .long mlg])), (eO10a wi w0 w1 w2 w3 w4), (eO0a bk bto bnm bla bsk bru bbo bdi bda bdk bdt bdp bno), (eA0 bto cTo 5 fTo), (eA4 bla cLa 4 (fun k => some (La k))), (eO1a (La 0) (FI 0) (GR 0) (FR 0)), (eO9a bsk wd wf mp mb mo sp sb), (eO8a bru rco rsz ren rst rkn), (eA0 rco cRc 64 fRc), (eA0 ren cRe 4 fRe), (eA1 rst cRs 64 fRs), (mq, .inr (12, mF g gl rf)), (eA0 (rf 24) (ck 24) 14 f_sky), (eA0 (rf 29) (ck 29) 24 f_landHas), (eA0 (rf 31) (ck 31) 8 f_first), (eA0 (rf 32) (ck 32) 8 f_last), (eA0 (rf 41) (ck 41) 128 f_knot), (eA0 (rf 42) (ck 42) 128 f_part), (eA0 (rf 43) (ck 43) 128 f_other), (eA1 (rf 55) (ck 55) 6 f_names), (eA1 (rf 56) (ck 56) 64 f_value)]) (hS : va_S A s.heap H0 locs) (hl : lv_has ls 7 [(4, .int i), (3, .ref o3), (2, .ref mq), (1, .ref x), (0, .ref bs)]) (kk1 : ∀ (X_17 : Int64 × (Value) × (Int64) × (Int64) × (Int64) × (Int64) × (Int32) × (Int32) × (Int32) × (Int32) × (Int32) × (Nat → Int64)), X_17 = (fx_festive mla mct myr mdy mlg w0 w1 w2 w3 w4 fTo La FI GR FR wd wf mp mb mo sp sb fRc fRe fRs y1 ((y2.toInt64 <<< ((32 : Int32).toInt64 &&& 63)) ||| (y3.toInt64 &&& 4294967295))) → ∀ (r_4 : Int64), r_4 = X_17.1 → ∀ (u_5 : (Value) × (Int64) × (Int64) × (Int64) × (Int64) × (Int32) × (Int32) × (Int32) × (Int32) × (Int32) × (Nat → Int64)), u_5 = X_17.2 → ∀ (X_29 : Int64 × (Int32) × (Int64) × (Int64) × (Int32) × (Nat → Int64) × (Nat → Int64)), X_29 = (fq_festive f_sky f_landHas f_first f_last f_knot f_part f_other f_names f_value y1 ((y2.toInt64 <<< ((32 : Int32).toInt64 &&& 63)) ||| (y3.toInt64 &&& 4294967295)) (g 12) (g 13) (gl 53) (gl 54) (g 57)) → ∀ (r_21 : Int64), r_21 = X_29.1 → ∀ (u_22 : (Int32) × (Int64) × (Int64) × (Int32) × (Nat → Int64) × (Nat → Int64)), u_22 = X_29.2 → ∀ (H : Heap) (locs : List Loc) (ls : Array Slot), va_P (dC, dI) vwCl [(eO11a x pa bk xsp xdy le xst xsc xim xil xik xmo xom wi), (xmo, .inr (4, [u_5.1, .long u_5.2.1, .long u_5.2.2.1, .long u_5.2.2.2.1, .long u_5.2.2.2.2.1])), (eO10a wi u_5.2.2.2.2.2.1 u_5.2.2.2.2.2.2.1 u_5.2.2.2.2.2.2.2.1 u_5.2.2.2.2.2.2.2.2.1 u_5.2.2.2.2.2.2.2.2.2.1), (eO0a bk bto bnm bla bsk bru bbo bdi bda bdk bdt bdp bno), (eA0 bto cTo 5 fTo), (eA4 bla cLa 4 (fun k => some (La k))), (eO1a (La 0) (FI 0) (GR 0) (FR 0)), (eO9a bsk wd wf mp mb mo sp sb), (eO8a bru rco rsz ren rst rkn), (eA0 rco cRc 64 fRc), (eA0 ren cRe 4 fRe), (eA1 rst cRs 64 u_5.2.2.2.2.2.2.2.2.2.2), (mq, .inr (12, mF (upd (upd g 2 u_22.1) 57 u_22.2.2.2.1) (vp_updL (vp_updL gl 53 u_22.2.1) 54 u_22.2.2.1) rf)), (eA0 (rf 24) (ck 24) 14 f_sky), (eA0 (rf 29) (ck 29) 24 f_landHas), (eA0 (rf 31) (ck 31) 8 f_first), (eA0 (rf 32) (ck 32) 8 f_last), (eA0 (rf 41) (ck 41) 128 f_knot), (eA0 (rf 42) (ck 42) 128 f_part), (eA0 (rf 43) (ck 43) 128 f_other), (eA1 (rf 55) (ck 55) 6 u_22.2.2.2.2.1), (eA1 (rf 56) (ck 56) 64 u_22.2.2.2.2.2)] H → va_S A s.heap H locs → lv_has ls 7 [(4, .int i), (3, .ref o3), (2, .ref mq), (1, .ref x), (0, .ref bs)] → H0.size ≤ H.size → (∀ q : Nat, q < H0.size → ¬ Bp q → H[q]? = H0[q]?) → W p l e room_1 s m #[Value.ref bs] below meth c H locs (ce + 1) (sl + 6) (lw_Z below #[Value.ref bs] s) (F0 m 2012 ls [])) : W p l e room_1 s m #[Value.ref bs] below meth c H0 locs ce sl (lw_Z below #[Value.ref bs] s) (F0 m 741 ls []) := by
  obtain ⟨hx, hb, hr, hml, hown, hts, hX, hbl, hlocks, hgv⟩ := id C0
  have htw : ∀ w ∈ wsL_law, w.before _ s = true := fun w h => hts w (wsL_law_in w h)
  have hown : s.vm.findClass RL = some m.cls := hown
  have hA : ∀ q : Nat, s.heap.size ≤ q → A q := fun q h => (hAe q).mpr h
  have hbA : ¬ A bs := fun h => absurd ((hAe bs).mp h) (Nat.not_le.mpr hbl)
  obtain ⟨H, rH⟩ : ∃ z : Heap, z = H0 := ⟨_, rfl⟩
  have hfr : ∀ q : Nat, q < H0.size → ¬ Bp q → H[q]? = H0[q]? := fun q _ _ => by rw [rH]
  have hz0 : H0.size ≤ H.size := by rw [rH]; exact Nat.le_refl _
  rw [← rH] at hP hS ⊢
  refine lv_aload_n hx hb dL_law_741 rfl (lv_at hl 3 rfl) ?_
  refine lv_aload_n hx hb dL_law_742 rfl (lv_at hl 4 rfl) ?_
  refine lv_iload hx hb dL_law_743 (lv_at hl 0 rfl) ?_
  refine lv_iconst (v := 1) hx hb dL_law_745 (by decide) ?_
  refine lv_iadd hx hb dL_law_746 ?_
  refine va_sld hx hb hX hbl hbA hS hi1 dL_law_747 ?_
  rw [hy1]
  refine lv_aload_n hx hb dL_law_748 rfl (lv_at hl 4 rfl) ?_
  refine lv_iload hx hb dL_law_749 (lv_at hl 0 rfl) ?_
  refine lv_iconst (v := 2) hx hb dL_law_751 (by decide) ?_
  refine lv_iadd hx hb dL_law_752 ?_
  refine va_sld hx hb hX hbl hbA hS hi2 dL_law_753 ?_
  rw [hy2]
  refine lv_i2l (v := y2.toInt64) hx hb dL_law_754 rfl ?_
  refine lv_bipush (v := 32) hx hb dL_law_755 (by decide) ?_
  refine lv_lshl (v := (y2.toInt64 <<< ((32 : Int32).toInt64 &&& 63))) hx hb dL_law_757 rfl ?_
  refine lv_aload_n hx hb dL_law_758 rfl (lv_at hl 4 rfl) ?_
  refine lv_iload hx hb dL_law_759 (lv_at hl 0 rfl) ?_
  refine lv_iconst (v := 3) hx hb dL_law_761 (by decide) ?_
  refine lv_iadd hx hb dL_law_762 ?_
  refine va_sld hx hb hX hbl hbA hS hi3 dL_law_763 ?_
  rw [hy3]
  refine lv_i2l (v := y3.toInt64) hx hb dL_law_764 rfl ?_
  refine lv_ldc2 (v := 4294967295) hx hb hown (htw _ (ck_1 _ (List.mem_of_getElem? (i := 7) rfl))) dL_law_765 ?_
  refine lv_land hx hb dL_law_768 ?_
  refine lv_lor hx hb dL_law_769 ?_
  obtain ⟨hPc, hDc, hFc, hCc⟩ := zsub3 (ws' := [(eO11a x pa bk xsp xdy le xst xsc xim xil xik xmo xom wi), (xmo, .inr (4, [mla, .long mct, .long myr, .long mdy, .long mlg])), (eO10a wi w0 w1 w2 w3 w4), (eO0a bk bto bnm bla bsk bru bbo bdi bda bdk bdt bdp bno), (eA0 bto cTo 5 fTo), (eA4 bla cLa 4 (fun k => some (La k))), (eO1a (La 0) (FI 0) (GR 0) (FR 0)), (eO9a bsk wd wf mp mb mo sp sb), (eO8a bru rco rsz ren rst rkn), (eA0 rco cRc 64 fRc), (eA0 ren cRe 4 fRe), (eA1 rst cRs 64 fRs)]) hP hD hS hA [0, 1, 2, 3, 4, 5, 6, 7, 8, 9, 10, 11] (by decide +kernel) rfl
  have hKc := hK.sub (tys' := [(cTo, .int), (cLa, .object RX1), (cRc, .int), (cRe, .int), (cRs, .long)]) [0, 1, 2, 3, 4] rfl
  refine va_calll (va_runV (As := [.int y1, .long ((y2.toInt64 <<< ((32 : Int32).toInt64 &&& 63)) ||| (y3.toInt64 &&& 4294967295))]) (rest := []) ⟨hx, hb, hml, hown, htw⟩ (gx_festive l dC dI x pa bk xsp xdy le xst xsc xim xil xik xmo xom wi mla mct myr mdy mlg w0 w1 w2 w3 w4 bto bnm bla bsk bru bbo bdi bda bdk bdt bdp bno cTo fTo cLa La FI GR FR wd wf mp mb mo sp sb rco rsz ren rst rkn cRc fRc cRe fRe cRs fRs y1 ((y2.toInt64 <<< ((32 : Int32).toInt64 &&& 63)) ||| (y3.toInt64 &&& 4294967295)) H.size hE) (cwV 2 htw (xg_V (ck_41 _ (List.mem_of_getElem? (i := 19) rfl)) (ck_41 _ (List.mem_of_getElem? (i := 20) rfl)) (ck_41 _ (List.mem_of_getElem? (i := 21) rfl)) (ck_1 _ (List.mem_of_getElem? (i := 2) rfl)) (ck_41 _ (List.mem_of_getElem? (i := 22) rfl))) rfl rfl rfl (by exact ⟨rfl, hdc_8.1, hdc_8.2, hdd_41⟩) ⟨Nat.le_of_ble_eq_true rfl, Nat.le_of_ble_eq_true rfl⟩) ⟨fun a U g mk q => by obtain ⟨q0, q1, qP, qK, qD, qx0⟩ := q; exact ⟨q0, q1, qP, va_K.moved (u := U) (U := U.calling g mk a) (Vm.Alike.refl U.vm) qK, qD, xN.calling qx0⟩, va_recv hKc hPc (ci := 11) (q0 := 0) rfl rfl, fun U hU hW => ⟨rfl, by rw [hU], by rw [hU]; exact hPc, va_K.moved hW.alike hKc, hDc.weaken (fun _ _ _ _ => trivial), xN.warm hW hNx⟩⟩ rfl rfl hl.1 rfl (lv_room (Nat.le_of_ble_eq_true rfl)) dL_law_770 ⟨by first | exact Nat.le_of_ble_eq_true rfl | exact yR (n := 0) (by omega) rfl, by first | exact Nat.le_of_ble_eq_true rfl | exact yR2 (n := 0) (by omega) rfl⟩) hS (fun q _ h => hFc q h) hFc (fun r_4 u_5 t H1 locs ht hvm hw hB hz1 hk1 hS => ?_)
  try dsimp only at hw
  obtain ⟨hP1, hK1, hD1⟩ := hB
  rw [ht] at hP1
  have hK1 := va_K.moved hvm.symm hK1
  have hK1 : va_K (dC, dI) vwCl [] s := hK1
  obtain ⟨hP, hD⟩ := va_join (wr := [(mq, .inr (12, mF g gl rf)), (eA0 (rf 24) (ck 24) 14 f_sky), (eA0 (rf 29) (ck 29) 24 f_landHas), (eA0 (rf 31) (ck 31) 8 f_first), (eA0 (rf 32) (ck 32) 8 f_last), (eA0 (rf 41) (ck 41) 128 f_knot), (eA0 (rf 42) (ck 42) 128 f_part), (eA0 (rf 43) (ck 43) 128 f_other), (eA1 (rf 55) (ck 55) 6 f_names), (eA1 (rf 56) (ck 56) 64 f_value)]) (w1 := [(eO11a x pa bk xsp xdy le xst xsc xim xil xik xmo xom wi), (xmo, .inr (4, [u_5.1, .long u_5.2.1, .long u_5.2.2.1, .long u_5.2.2.2.1, .long u_5.2.2.2.2.1])), (eO10a wi u_5.2.2.2.2.2.1 u_5.2.2.2.2.2.2.1 u_5.2.2.2.2.2.2.2.1 u_5.2.2.2.2.2.2.2.2.1 u_5.2.2.2.2.2.2.2.2.2.1), (eO0a bk bto bnm bla bsk bru bbo bdi bda bdk bdt bdp bno), (eA0 bto cTo 5 fTo), (eA4 bla cLa 4 (fun k => some (La k))), (eO1a (La 0) (FI 0) (GR 0) (FR 0)), (eO9a bsk wd wf mp mb mo sp sb), (eO8a bru rco rsz ren rst rkn), (eA0 rco cRc 64 fRc), (eA0 ren cRe 4 fRe), (eA1 rst cRs 64 u_5.2.2.2.2.2.2.2.2.2.2)]) hP hD [0, 1, 2, 3, 4, 5, 6, 7, 8, 9, 10, 11] [12, 13, 14, 15, 16, 17, 18, 19, 20, 21] hCc rfl (by decide +kernel) (by decide +kernel) hk1 hFc hP1 hD1
  have hfr := yF (wc := [(eO11a x pa bk xsp xdy le xst xsc xim xil xik xmo xom wi), (xmo, .inr (4, [mla, .long mct, .long myr, .long mdy, .long mlg])), (eO10a wi w0 w1 w2 w3 w4), (eO0a bk bto bnm bla bsk bru bbo bdi bda bdk bdt bdp bno), (eA0 bto cTo 5 fTo), (eA4 bla cLa 4 (fun k => some (La k))), (eO1a (La 0) (FI 0) (GR 0) (FR 0)), (eO9a bsk wd wf mp mb mo sp sb), (eO8a bru rco rsz ren rst rkn), (eA0 rco cRc 64 fRc), (eA0 ren cRe 4 fRe), (eA1 rst cRs 64 fRs)]) hBs [0, 1, 2, 3, 4, 5, 6, 7, 8, 9, 10, 11] rfl hz0 hfr hk1
  have hz0 := Nat.le_trans hz0 hz1
  generalize H1 = H at hP hS hfr hz0 ⊢
  obtain ⟨hP, hD⟩ := zre [(mq, .inr (12, mF g gl rf)), (eA0 (rf 24) (ck 24) 14 f_sky), (eA0 (rf 29) (ck 29) 24 f_landHas), (eA0 (rf 31) (ck 31) 8 f_first), (eA0 (rf 32) (ck 32) 8 f_last), (eA0 (rf 41) (ck 41) 128 f_knot), (eA0 (rf 42) (ck 42) 128 f_part), (eA0 (rf 43) (ck 43) 128 f_other), (eA1 (rf 55) (ck 55) 6 f_names), (eA1 (rf 56) (ck 56) 64 f_value), (eO11a x pa bk xsp xdy le xst xsc xim xil xik xmo xom wi), (xmo, .inr (4, [u_5.1, .long u_5.2.1, .long u_5.2.2.1, .long u_5.2.2.2.1, .long u_5.2.2.2.2.1])), (eO10a wi u_5.2.2.2.2.2.1 u_5.2.2.2.2.2.2.1 u_5.2.2.2.2.2.2.2.1 u_5.2.2.2.2.2.2.2.2.1 u_5.2.2.2.2.2.2.2.2.2.1), (eO0a bk bto bnm bla bsk bru bbo bdi bda bdk bdt bdp bno), (eA0 bto cTo 5 fTo), (eA4 bla cLa 4 (fun k => some (La k))), (eO1a (La 0) (FI 0) (GR 0) (FR 0)), (eO9a bsk wd wf mp mb mo sp sb), (eO8a bru rco rsz ren rst rkn), (eA0 rco cRc 64 fRc), (eA0 ren cRe 4 fRe), (eA1 rst cRs 64 u_5.2.2.2.2.2.2.2.2.2.2)] hP hD rfl
  refine W.widen (k := ce + 0) (n := sl + 0) (by omega) (by omega) ?_
  obtain ⟨X_17, hX_17⟩ : ∃ X9 : Int64 × (Value) × (Int64) × (Int64) × (Int64) × (Int64) × (Int32) × (Int32) × (Int32) × (Int32) × (Int32) × (Nat → Int64), X9 = (fx_festive mla mct myr mdy mlg w0 w1 w2 w3 w4 fTo La FI GR FR wd wf mp mb mo sp sb fRc fRe fRs y1 ((y2.toInt64 <<< ((32 : Int32).toInt64 &&& 63)) ||| (y3.toInt64 &&& 4294967295))) := ⟨_, rfl⟩
  have hq_r_4 : r_4 = X_17.1 := by rw [hX_17]; exact hw.1
  have hq_u_5 : u_5 = X_17.2 := by rw [hX_17]; exact hw.2
  refine lv_pop2_2 hx hb dL_law_773 rfl ?_
  refine lv_aload_n hx hb dL_law_774 rfl (lv_at hl 2 rfl) ?_
  refine lv_aload_n hx hb dL_law_775 rfl (lv_at hl 4 rfl) ?_
  refine lv_iload hx hb dL_law_776 (lv_at hl 0 rfl) ?_
  refine lv_iconst (v := 1) hx hb dL_law_778 (by decide) ?_
  refine lv_iadd hx hb dL_law_779 ?_
  refine va_sld hx hb hX hbl hbA hS hi1 dL_law_780 ?_
  rw [hy1]
  refine lv_aload_n hx hb dL_law_781 rfl (lv_at hl 4 rfl) ?_
  refine lv_iload hx hb dL_law_782 (lv_at hl 0 rfl) ?_
  refine lv_iconst (v := 2) hx hb dL_law_784 (by decide) ?_
  refine lv_iadd hx hb dL_law_785 ?_
  refine va_sld hx hb hX hbl hbA hS hi2 dL_law_786 ?_
  rw [hy2]
  refine lv_i2l (v := y2.toInt64) hx hb dL_law_787 rfl ?_
  refine lv_bipush (v := 32) hx hb dL_law_788 (by decide) ?_
  refine lv_lshl (v := (y2.toInt64 <<< ((32 : Int32).toInt64 &&& 63))) hx hb dL_law_790 rfl ?_
  refine lv_aload_n hx hb dL_law_791 rfl (lv_at hl 4 rfl) ?_
  refine lv_iload hx hb dL_law_792 (lv_at hl 0 rfl) ?_
  refine lv_iconst (v := 3) hx hb dL_law_794 (by decide) ?_
  refine lv_iadd hx hb dL_law_795 ?_
  refine va_sld hx hb hX hbl hbA hS hi3 dL_law_796 ?_
  rw [hy3]
  refine lv_i2l (v := y3.toInt64) hx hb dL_law_797 rfl ?_
  refine lv_ldc2 (v := 4294967295) hx hb hown (htw _ (ck_1 _ (List.mem_of_getElem? (i := 7) rfl))) dL_law_798 ?_
  refine lv_land hx hb dL_law_801 ?_
  refine lv_lor hx hb dL_law_802 ?_
  obtain ⟨hPc, hDc, hFc, hCc⟩ := zsub3 (ws' := [(mq, .inr (12, mF g gl rf)), (eA0 (rf 24) (ck 24) 14 f_sky), (eA0 (rf 29) (ck 29) 24 f_landHas), (eA0 (rf 31) (ck 31) 8 f_first), (eA0 (rf 32) (ck 32) 8 f_last), (eA0 (rf 41) (ck 41) 128 f_knot), (eA0 (rf 42) (ck 42) 128 f_part), (eA0 (rf 43) (ck 43) 128 f_other), (eA1 (rf 55) (ck 55) 6 f_names), (eA1 (rf 56) (ck 56) 64 f_value)]) hP hD hS hA [0, 1, 2, 3, 4, 5, 6, 7, 8, 9] (by decide +kernel) rfl
  have hKc := hK.sub (tys' := [((ck 24), .int), ((ck 29), .int), ((ck 31), .int), ((ck 32), .int), ((ck 41), .int), ((ck 42), .int), ((ck 43), .int), ((ck 55), .long), ((ck 56), .long)]) [5, 6, 7, 8, 9, 10, 11, 12, 13] rfl
  refine va_calll (va_runV (As := [.int y1, .long ((y2.toInt64 <<< ((32 : Int32).toInt64 &&& 63)) ||| (y3.toInt64 &&& 4294967295))]) (rest := []) ⟨hx, hb, hml, hown, htw⟩ (gq_festive l dC dI mq g gl rf ck f_sky f_landHas f_first f_last f_knot f_part f_other f_names f_value y1 ((y2.toInt64 <<< ((32 : Int32).toInt64 &&& 63)) ||| (y3.toInt64 &&& 4294967295)) H.size hfe0 hfe4 hFA hKA hln0 hln4 hLZ hs0 hs2 hs5) (cwV 2 htw (xg_V (ck_43 _ (List.mem_of_getElem? (i := 13) rfl)) (ck_43 _ (List.mem_of_getElem? (i := 14) rfl)) (ck_43 _ (List.mem_of_getElem? (i := 15) rfl)) (ck_1 _ (List.mem_of_getElem? (i := 5) rfl)) (ck_43 _ (List.mem_of_getElem? (i := 16) rfl))) rfl rfl rfl (by exact ⟨rfl, hdc_14.1, hdc_14.2, hdd_41⟩) ⟨Nat.le_of_ble_eq_true rfl, Nat.le_of_ble_eq_true rfl⟩) ⟨fun a U g mk q => by obtain ⟨q0, q1, qP, qK, qD⟩ := q; exact ⟨q0, q1, qP, va_K.moved (u := U) (U := U.calling g mk a) (Vm.Alike.refl U.vm) qK, qD⟩, va_recv hKc hPc (ci := 12) (q0 := 0) rfl rfl, fun U hU hW => ⟨rfl, by rw [hU], by rw [hU]; exact hPc, va_K.moved hW.alike hKc, hDc.weaken (fun _ _ _ _ => trivial)⟩⟩ rfl rfl hl.1 rfl (lv_room (Nat.le_of_ble_eq_true rfl)) dL_law_803 ⟨by first | exact Nat.le_of_ble_eq_true rfl | exact yR (n := 0) (by omega) rfl, by first | exact Nat.le_of_ble_eq_true rfl | exact yR2 (n := 0) (by omega) rfl⟩) hS (fun q _ h => hFc q h) hFc (fun r_21 u_22 t H1 locs ht hvm hw hB hz1 hk1 hS => ?_)
  try dsimp only at hw
  obtain ⟨hP1, hK1, hD1⟩ := hB
  rw [ht] at hP1
  have hK1 := va_K.moved hvm.symm hK1
  have hK1 : va_K (dC, dI) vwCl [] s := hK1
  obtain ⟨hP, hD⟩ := va_join (wr := [(eO11a x pa bk xsp xdy le xst xsc xim xil xik xmo xom wi), (xmo, .inr (4, [u_5.1, .long u_5.2.1, .long u_5.2.2.1, .long u_5.2.2.2.1, .long u_5.2.2.2.2.1])), (eO10a wi u_5.2.2.2.2.2.1 u_5.2.2.2.2.2.2.1 u_5.2.2.2.2.2.2.2.1 u_5.2.2.2.2.2.2.2.2.1 u_5.2.2.2.2.2.2.2.2.2.1), (eO0a bk bto bnm bla bsk bru bbo bdi bda bdk bdt bdp bno), (eA0 bto cTo 5 fTo), (eA4 bla cLa 4 (fun k => some (La k))), (eO1a (La 0) (FI 0) (GR 0) (FR 0)), (eO9a bsk wd wf mp mb mo sp sb), (eO8a bru rco rsz ren rst rkn), (eA0 rco cRc 64 fRc), (eA0 ren cRe 4 fRe), (eA1 rst cRs 64 u_5.2.2.2.2.2.2.2.2.2.2)]) (w1 := [(mq, .inr (12, mF (upd (upd g 2 u_22.1) 57 u_22.2.2.2.1) (vp_updL (vp_updL gl 53 u_22.2.1) 54 u_22.2.2.1) rf)), (eA0 (rf 24) (ck 24) 14 f_sky), (eA0 (rf 29) (ck 29) 24 f_landHas), (eA0 (rf 31) (ck 31) 8 f_first), (eA0 (rf 32) (ck 32) 8 f_last), (eA0 (rf 41) (ck 41) 128 f_knot), (eA0 (rf 42) (ck 42) 128 f_part), (eA0 (rf 43) (ck 43) 128 f_other), (eA1 (rf 55) (ck 55) 6 u_22.2.2.2.2.1), (eA1 (rf 56) (ck 56) 64 u_22.2.2.2.2.2)]) hP hD [0, 1, 2, 3, 4, 5, 6, 7, 8, 9] [10, 11, 12, 13, 14, 15, 16, 17, 18, 19, 20, 21] hCc rfl (by decide +kernel) (by decide +kernel) hk1 hFc hP1 hD1
  have hfr := yF (wc := [(mq, .inr (12, mF g gl rf)), (eA0 (rf 24) (ck 24) 14 f_sky), (eA0 (rf 29) (ck 29) 24 f_landHas), (eA0 (rf 31) (ck 31) 8 f_first), (eA0 (rf 32) (ck 32) 8 f_last), (eA0 (rf 41) (ck 41) 128 f_knot), (eA0 (rf 42) (ck 42) 128 f_part), (eA0 (rf 43) (ck 43) 128 f_other), (eA1 (rf 55) (ck 55) 6 f_names), (eA1 (rf 56) (ck 56) 64 f_value)]) hBs [12, 13, 14, 15, 16, 17, 18, 19, 20, 21] rfl hz0 hfr hk1
  have hz0 := Nat.le_trans hz0 hz1
  generalize H1 = H at hP hS hfr hz0 ⊢
  have hP : va_P (dC, dI) vwCl [(eO11a x pa bk xsp xdy le xst xsc xim xil xik xmo xom wi), (xmo, .inr (4, [u_5.1, .long u_5.2.1, .long u_5.2.2.1, .long u_5.2.2.2.1, .long u_5.2.2.2.2.1])), (eO10a wi u_5.2.2.2.2.2.1 u_5.2.2.2.2.2.2.1 u_5.2.2.2.2.2.2.2.1 u_5.2.2.2.2.2.2.2.2.1 u_5.2.2.2.2.2.2.2.2.2.1), (eO0a bk bto bnm bla bsk bru bbo bdi bda bdk bdt bdp bno), (eA0 bto cTo 5 fTo), (eA4 bla cLa 4 (fun k => some (La k))), (eO1a (La 0) (FI 0) (GR 0) (FR 0)), (eO9a bsk wd wf mp mb mo sp sb), (eO8a bru rco rsz ren rst rkn), (eA0 rco cRc 64 fRc), (eA0 ren cRe 4 fRe), (eA1 rst cRs 64 u_5.2.2.2.2.2.2.2.2.2.2), (mq, .inr (12, mF (upd (upd g 2 u_22.1) 57 u_22.2.2.2.1) (vp_updL (vp_updL gl 53 u_22.2.1) 54 u_22.2.2.1) rf)), (eA0 (rf 24) (ck 24) 14 f_sky), (eA0 (rf 29) (ck 29) 24 f_landHas), (eA0 (rf 31) (ck 31) 8 f_first), (eA0 (rf 32) (ck 32) 8 f_last), (eA0 (rf 41) (ck 41) 128 f_knot), (eA0 (rf 42) (ck 42) 128 f_part), (eA0 (rf 43) (ck 43) 128 f_other), (eA1 (rf 55) (ck 55) 6 u_22.2.2.2.2.1), (eA1 (rf 56) (ck 56) 64 u_22.2.2.2.2.2)] H := hP
  have hD : va_D A [(eO11a x pa bk xsp xdy le xst xsc xim xil xik xmo xom wi), (xmo, .inr (4, [u_5.1, .long u_5.2.1, .long u_5.2.2.1, .long u_5.2.2.2.1, .long u_5.2.2.2.2.1])), (eO10a wi u_5.2.2.2.2.2.1 u_5.2.2.2.2.2.2.1 u_5.2.2.2.2.2.2.2.1 u_5.2.2.2.2.2.2.2.2.1 u_5.2.2.2.2.2.2.2.2.2.1), (eO0a bk bto bnm bla bsk bru bbo bdi bda bdk bdt bdp bno), (eA0 bto cTo 5 fTo), (eA4 bla cLa 4 (fun k => some (La k))), (eO1a (La 0) (FI 0) (GR 0) (FR 0)), (eO9a bsk wd wf mp mb mo sp sb), (eO8a bru rco rsz ren rst rkn), (eA0 rco cRc 64 fRc), (eA0 ren cRe 4 fRe), (eA1 rst cRs 64 u_5.2.2.2.2.2.2.2.2.2.2), (mq, .inr (12, mF (upd (upd g 2 u_22.1) 57 u_22.2.2.2.1) (vp_updL (vp_updL gl 53 u_22.2.1) 54 u_22.2.2.1) rf)), (eA0 (rf 24) (ck 24) 14 f_sky), (eA0 (rf 29) (ck 29) 24 f_landHas), (eA0 (rf 31) (ck 31) 8 f_first), (eA0 (rf 32) (ck 32) 8 f_last), (eA0 (rf 41) (ck 41) 128 f_knot), (eA0 (rf 42) (ck 42) 128 f_part), (eA0 (rf 43) (ck 43) 128 f_other), (eA1 (rf 55) (ck 55) 6 u_22.2.2.2.2.1), (eA1 (rf 56) (ck 56) 64 u_22.2.2.2.2.2)] := hD
  refine W.widen (k := ce + 0) (n := sl + 0) (by omega) (by omega) ?_
  obtain ⟨X_29, hX_29⟩ : ∃ X9 : Int64 × (Int32) × (Int64) × (Int64) × (Int32) × (Nat → Int64) × (Nat → Int64), X9 = (fq_festive f_sky f_landHas f_first f_last f_knot f_part f_other f_names f_value y1 ((y2.toInt64 <<< ((32 : Int32).toInt64 &&& 63)) ||| (y3.toInt64 &&& 4294967295)) (g 12) (g 13) (gl 53) (gl 54) (g 57)) := ⟨_, rfl⟩
  have hq_r_21 : r_21 = X_29.1 := by rw [hX_29]; exact hw.1
  have hq_u_22 : u_22 = X_29.2 := by rw [hX_29]; exact hw.2
  refine lv_pop2_2 hx hb dL_law_806 rfl ?_
  refine lv_goto (tgt := 2012) hx hb dL_law_807 (by decide) ?_
  refine W.widen (k := ce + 1) (n := sl + 6) (by omega) (by omega) ?_
  exact kk1 X_17 hX_17 r_4 hq_r_4 u_5 hq_u_5 X_29 hX_29 r_21 hq_r_21 u_22 hq_u_22 H locs ls (hP.sub (ws' := [(eO11a x pa bk xsp xdy le xst xsc xim xil xik xmo xom wi), (xmo, .inr (4, [u_5.1, .long u_5.2.1, .long u_5.2.2.1, .long u_5.2.2.2.1, .long u_5.2.2.2.2.1])), (eO10a wi u_5.2.2.2.2.2.1 u_5.2.2.2.2.2.2.1 u_5.2.2.2.2.2.2.2.1 u_5.2.2.2.2.2.2.2.2.1 u_5.2.2.2.2.2.2.2.2.2.1), (eO0a bk bto bnm bla bsk bru bbo bdi bda bdk bdt bdp bno), (eA0 bto cTo 5 fTo), (eA4 bla cLa 4 (fun k => some (La k))), (eO1a (La 0) (FI 0) (GR 0) (FR 0)), (eO9a bsk wd wf mp mb mo sp sb), (eO8a bru rco rsz ren rst rkn), (eA0 rco cRc 64 fRc), (eA0 ren cRe 4 fRe), (eA1 rst cRs 64 u_5.2.2.2.2.2.2.2.2.2.2), (mq, .inr (12, mF (upd (upd g 2 u_22.1) 57 u_22.2.2.2.1) (vp_updL (vp_updL gl 53 u_22.2.1) 54 u_22.2.2.1) rf)), (eA0 (rf 24) (ck 24) 14 f_sky), (eA0 (rf 29) (ck 29) 24 f_landHas), (eA0 (rf 31) (ck 31) 8 f_first), (eA0 (rf 32) (ck 32) 8 f_last), (eA0 (rf 41) (ck 41) 128 f_knot), (eA0 (rf 42) (ck 42) 128 f_part), (eA0 (rf 43) (ck 43) 128 f_other), (eA1 (rf 55) (ck 55) 6 u_22.2.2.2.2.1), (eA1 (rf 56) (ck 56) 64 u_22.2.2.2.2.2)]) [0, 1, 2, 3, 4, 5, 6, 7, 8, 9, 10, 11, 12, 13, 14, 15, 16, 17, 18, 19, 20, 21] rfl) hS (lv_sub hl [0, 1, 2, 3, 4] rfl) hz0 hfr
