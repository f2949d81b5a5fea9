theorem dL_law_1545 : decode cL_law 1545 = .ok (.aload_n 1, 1) := zk_43 (by decide +kernel)
theorem dL_law_1546 : decode cL_law 1546 = .ok (.aload_n 0, 1) := zk_42 (by decide +kernel)
theorem dL_law_1547 : decode cL_law 1547 = .ok (.iload 4, 2) := zk_21 (by decide +kernel)
theorem dL_law_1549 : decode cL_law 1549 = .ok (.iconst 1, 1) := zk_4 (by decide +kernel)
theorem dL_law_1550 : decode cL_law 1550 = .ok (.iadd, 1) := zk_96 (by decide +kernel)
theorem dL_law_1551 : decode cL_law 1551 = .ok (.iaload, 1) := zk_46 (by decide +kernel)
theorem dL_law_1552 : decode cL_law 1552 = .ok (.aload_n 0, 1) := zk_42 (by decide +kernel)
theorem dL_law_1553 : decode cL_law 1553 = .ok (.iload 4, 2) := zk_21 (by decide +kernel)
theorem dL_law_1555 : decode cL_law 1555 = .ok (.iconst 2, 1) := zk_5 (by decide +kernel)
theorem dL_law_1556 : decode cL_law 1556 = .ok (.iadd, 1) := zk_96 (by decide +kernel)
theorem dL_law_1557 : decode cL_law 1557 = .ok (.iaload, 1) := zk_46 (by decide +kernel)
theorem dL_law_1558 : decode cL_law 1558 = .ok (.i2l, 1) := zk_133 (by decide +kernel)
theorem dL_law_1559 : decode cL_law 1559 = .ok (.bipush 32, 2) := zk_16 (by decide +kernel)
theorem dL_law_1561 : decode cL_law 1561 = .ok (.lshl, 1) := zk_121 (by decide +kernel)
theorem dL_law_1562 : decode cL_law 1562 = .ok (.aload_n 0, 1) := zk_42 (by decide +kernel)
theorem dL_law_1563 : decode cL_law 1563 = .ok (.iload 4, 2) := zk_21 (by decide +kernel)
theorem dL_law_1565 : decode cL_law 1565 = .ok (.iconst 3, 1) := zk_6 (by decide +kernel)
theorem dL_law_1566 : decode cL_law 1566 = .ok (.iadd, 1) := zk_96 (by decide +kernel)
theorem dL_law_1567 : decode cL_law 1567 = .ok (.iaload, 1) := zk_46 (by decide +kernel)
theorem dL_law_1568 : decode cL_law 1568 = .ok (.i2l, 1) := zk_133 (by decide +kernel)
theorem dL_law_1569 : decode cL_law 1569 = .ok (.ldc2_w 50, 3) := zk_20 (by decide +kernel)
theorem dL_law_1572 : decode cL_law 1572 = .ok (.land, 1) := zk_127 (by decide +kernel)
theorem dL_law_1573 : decode cL_law 1573 = .ok (.lor, 1) := zk_129 (by decide +kernel)
theorem dL_law_1574 : decode cL_law 1574 = .ok (.aload_n 0, 1) := zk_42 (by decide +kernel)
theorem dL_law_1575 : decode cL_law 1575 = .ok (.iload 4, 2) := zk_21 (by decide +kernel)
theorem dL_law_1577 : decode cL_law 1577 = .ok (.iconst 4, 1) := zk_7 (by decide +kernel)
theorem dL_law_1578 : decode cL_law 1578 = .ok (.iadd, 1) := zk_96 (by decide +kernel)
theorem dL_law_1579 : decode cL_law 1579 = .ok (.iaload, 1) := zk_46 (by decide +kernel)
theorem dL_law_1580 : decode cL_law 1580 = .ok (.aload_n 0, 1) := zk_42 (by decide +kernel)
theorem dL_law_1581 : decode cL_law 1581 = .ok (.iload 4, 2) := zk_21 (by decide +kernel)
theorem dL_law_1583 : decode cL_law 1583 = .ok (.iconst 5, 1) := zk_8 (by decide +kernel)
theorem dL_law_1584 : decode cL_law 1584 = .ok (.iadd, 1) := zk_96 (by decide +kernel)
theorem dL_law_1585 : decode cL_law 1585 = .ok (.iaload, 1) := zk_46 (by decide +kernel)
theorem dL_law_1586 : decode cL_law 1586 = .ok (.invokevirtual 127, 3) := zk_182 (by decide +kernel)
theorem dL_law_1589 : decode cL_law 1589 = .ok (.pop2, 1) := zk_88 (by decide +kernel)
theorem dL_law_1590 : decode cL_law 1590 = .ok (.aload_n 2, 1) := zk_44 (by decide +kernel)
theorem dL_law_1591 : decode cL_law 1591 = .ok (.aload_n 0, 1) := zk_42 (by decide +kernel)
theorem dL_law_1592 : decode cL_law 1592 = .ok (.iload 4, 2) := zk_21 (by decide +kernel)
theorem dL_law_1594 : decode cL_law 1594 = .ok (.iconst 1, 1) := zk_4 (by decide +kernel)
theorem dL_law_1595 : decode cL_law 1595 = .ok (.iadd, 1) := zk_96 (by decide +kernel)
theorem dL_law_1596 : decode cL_law 1596 = .ok (.iaload, 1) := zk_46 (by decide +kernel)
theorem dL_law_1597 : decode cL_law 1597 = .ok (.aload_n 0, 1) := zk_42 (by decide +kernel)
theorem dL_law_1598 : decode cL_law 1598 = .ok (.iload 4, 2) := zk_21 (by decide +kernel)
theorem dL_law_1600 : decode cL_law 1600 = .ok (.iconst 2, 1) := zk_5 (by decide +kernel)
theorem dL_law_1601 : decode cL_law 1601 = .ok (.iadd, 1) := zk_96 (by decide +kernel)
theorem dL_law_1602 : decode cL_law 1602 = .ok (.iaload, 1) := zk_46 (by decide +kernel)
theorem dL_law_1603 : decode cL_law 1603 = .ok (.i2l, 1) := zk_133 (by decide +kernel)
theorem dL_law_1604 : decode cL_law 1604 = .ok (.bipush 32, 2) := zk_16 (by decide +kernel)
theorem dL_law_1606 : decode cL_law 1606 = .ok (.lshl, 1) := zk_121 (by decide +kernel)
theorem dL_law_1607 : decode cL_law 1607 = .ok (.aload_n 0, 1) := zk_42 (by decide +kernel)
theorem dL_law_1608 : decode cL_law 1608 = .ok (.iload 4, 2) := zk_21 (by decide +kernel)
theorem dL_law_1610 : decode cL_law 1610 = .ok (.iconst 3, 1) := zk_6 (by decide +kernel)
theorem dL_law_1611 : decode cL_law 1611 = .ok (.iadd, 1) := zk_96 (by decide +kernel)
theorem dL_law_1612 : decode cL_law 1612 = .ok (.iaload, 1) := zk_46 (by decide +kernel)
theorem dL_law_1613 : decode cL_law 1613 = .ok (.i2l, 1) := zk_133 (by decide +kernel)
theorem dL_law_1614 : decode cL_law 1614 = .ok (.ldc2_w 50, 3) := zk_20 (by decide +kernel)
theorem dL_law_1617 : decode cL_law 1617 = .ok (.land, 1) := zk_127 (by decide +kernel)
theorem dL_law_1618 : decode cL_law 1618 = .ok (.lor, 1) := zk_129 (by decide +kernel)
theorem dL_law_1619 : decode cL_law 1619 = .ok (.aload_n 0, 1) := zk_42 (by decide +kernel)
theorem dL_law_1620 : decode cL_law 1620 = .ok (.iload 4, 2) := zk_21 (by decide +kernel)
theorem dL_law_1622 : decode cL_law 1622 = .ok (.iconst 4, 1) := zk_7 (by decide +kernel)
theorem dL_law_1623 : decode cL_law 1623 = .ok (.iadd, 1) := zk_96 (by decide +kernel)
theorem dL_law_1624 : decode cL_law 1624 = .ok (.iaload, 1) := zk_46 (by decide +kernel)
theorem dL_law_1625 : decode cL_law 1625 = .ok (.aload_n 0, 1) := zk_42 (by decide +kernel)
theorem dL_law_1626 : decode cL_law 1626 = .ok (.iload 4, 2) := zk_21 (by decide +kernel)
theorem dL_law_1628 : decode cL_law 1628 = .ok (.iconst 5, 1) := zk_8 (by decide +kernel)
theorem dL_law_1629 : decode cL_law 1629 = .ok (.iadd, 1) := zk_96 (by decide +kernel)
theorem dL_law_1630 : decode cL_law 1630 = .ok (.iaload, 1) := zk_46 (by decide +kernel)
theorem dL_law_1631 : decode cL_law 1631 = .ok (.invokevirtual 131, 3) := zk_182 (by decide +kernel)
theorem dL_law_1634 : decode cL_law 1634 = .ok (.pop2, 1) := zk_88 (by decide +kernel)
theorem dL_law_1635 : decode cL_law 1635 = .ok (.goto 377, 3) := zk_167 (by decide +kernel)
set_option maxHeartbeats 4000000 in
set_option maxRecDepth 100000 in
theorem law_hire (l : Launch) (hst : l.stackTraces = false) {p : Program} {e : Env} {s : State} {m : MethodId} {below : List Frame} {meth : Method} {c : Code} {bs L : Nat} {xs : Nat → Int32} (C0 : lw_At p s m meth c bs L xs) (dC : Nat → ClassId) (dI : Nat → Nat → Nat) (A : Nat → Prop) (hAe : ∀ q, A q ↔ s.heap.size ≤ q) (x : Nat) (pa : Nat) (bk : Nat) (xsp : Nat) (xdy : Nat) (le : Nat) (xst : Nat) (xsc : Int32) (xim : Nat) (xil : Nat) (xik : Int32) (xmo : Nat) (xom : Nat) (wi : Nat) (bto : Nat) (bnm : Nat) (bla : Nat) (bsk : Nat) (bru : Nat) (bbo : Nat) (bdi : Nat) (bda : Nat) (bdk : Nat) (bdt : Nat) (bdp : Nat) (bno : Nat) (cTo : ClassId) (fTo : Nat → Int32) (cLa : ClassId) (La : Nat → Nat) (FI : Nat → Int32) (GR : Nat → Int32) (FR : Nat → Int32) (mq : Nat) (g : Nat → Int32) (gl : Nat → Int64) (rf : Nat → Nat) (ck : Nat → ClassId) (f_landHas : Nat → Int32) (o3 : Nat) (hln0 : ¬ (g 12) < 0) (hln4 : (g 12) ≤ 4) (hLZ1 : ∀ k : Int32, ¬ k < 0 → k < (g 12) → ¬ (f_landHas ((3 * k).toNatClampNeg)) < 1) (sL : Nat → Nat) (hNx : xN s) (i y1 y2 y3 y4 y5 : Int32) (hi1 : vp_in (i + 1) L) (hy1 : xs (i + 1).toNatClampNeg = y1) (hi2 : vp_in (i + 2) L) (hy2 : xs (i + 2).toNatClampNeg = y2) (hi3 : vp_in (i + 3) L) (hy3 : xs (i + 3).toNatClampNeg = y3) (hi4 : vp_in (i + 4) L) (hy4 : xs (i + 4).toNatClampNeg = y4) (hi5 : vp_in (i + 5) L) (hy5 : xs (i + 5).toNatClampNeg = y5)  (Bp : Nat → Prop) (H0 : Heap) (locs : List Loc) (ls : Array Slot) (ce sl : Nat) (hce : ce + 1 ≤ 601024) (hsl : sl + 6 ≤ 7293034) (hK : va_K (dC, dI) vwCl [(cTo, .int), (cLa, .object RX1), ((ck 29), .int)] s) (hP : va_P (dC, dI) vwCl [(eO11a x pa bk xsp xdy le xst xsc xim xil xik xmo xom wi), (eO0a bk bto bnm bla bsk bru bbo bdi bda bdk bdt bdp bno), (eA0 bto cTo 5 fTo), (eA4 bla cLa 4 (fun k => some (La k))), (eO1a (La 0) (FI 0) (GR 0) (FR 0)), (eO1a (La 1) (FI 1) (GR 1) (FR 1)), (eO1a (La 2) (FI 2) (GR 2) (FR 2)), (eO1a (La 3) (FI 3) (GR 3) (FR 3)), (mq, .inr (12, mF g gl rf)), (eA0 (rf 29) (ck 29) 24 f_landHas)] H0) (hD : va_D A [(eO11a x pa bk xsp xdy le xst xsc xim xil xik xmo xom wi), (eO0a bk bto bnm bla bsk bru bbo bdi bda bdk bdt bdp bno), (eA0 bto cTo 5 fTo), (eA4 bla cLa 4 (fun k => some (La k))), (eO1a (La 0) (FI 0) (GR 0) (FR 0)), (eO1a (La 1) (FI 1) (GR 1) (FR 1)), (eO1a (La 2) (FI 2) (GR 2) (FR 2)), (eO1a (La 3) (FI 3) (GR 3) (FR 3)), (mq, .inr (12, mF g gl rf)), (eA0 (rf 29) (ck 29) 24 f_landHas)]) (hBs : yB Bp [(eO11a x pa bk xsp xdy le xst xsc xim xil xik xmo xom wi), (eO0a bk bto bnm bla bsk bru bbo bdi bda bdk bdt bdp bno), (eA0 bto cTo 5 fTo), (eA4 bla cLa 4 (fun k => some (La k))), (eO1a (La 0) (FI 0) (GR 0) (FR 0)), (eO1a (La 1) (FI 1) (GR 1) (FR 1)), (eO1a (La 2) (FI 2) (GR 2) (FR 2)), (eO1a (La 3) (FI 3) (GR 3) (FR 3)), (mq, .inr (12, mF g gl rf)), (eA0 (rf 29) (ck 29) 24 f_landHas)]) (hS : va_S A s.heap H0 locs) (hl : lv_has ls 7 [(4, .int i), (3, .ref o3), (2, .ref mq), (1, .ref x), (0, .ref bs)]) (kk1 : ∀ (r_6 : Int64), r_6 = (fx_hire fTo FI GR FR y1 ((y2.toInt64 <<< ((32 : Int32).toInt64 &&& 63)) ||| (y3.toInt64 &&& 4294967295)) y4 y5) → ∀ (X_17 : Int64 × (Int32) × (Int64) × (Int64)), X_17 = (fq_hire f_landHas y1 ((y2.toInt64 <<< ((32 : Int32).toInt64 &&& 63)) ||| (y3.toInt64 &&& 4294967295)) y4 y5 (g 12) (gl 53) (gl 54)) → ∀ (r_12 : Int64), r_12 = X_17.1 → ∀ (u_13 : (Int32) × (Int64) × (Int64)), u_13 = X_17.2 → ∀ (H : Heap) (locs : List Loc) (ls : Array Slot), va_P (dC, dI) vwCl [(eO11a x pa bk xsp xdy le xst xsc xim xil xik xmo xom wi), (eO0a bk bto bnm bla bsk bru bbo bdi bda bdk bdt bdp bno), (eA0 bto cTo 5 fTo), (eA4 bla cLa 4 (fun k => some (La k))), (eO1a (La 0) (FI 0) (GR 0) (FR 0)), (eO1a (La 1) (FI 1) (GR 1) (FR 1)), (eO1a (La 2) (FI 2) (GR 2) (FR 2)), (eO1a (La 3) (FI 3) (GR 3) (FR 3)), (mq, .inr (12, mF (upd g 2 u_13.1) (vp_updL (vp_updL gl 53 u_13.2.1) 54 u_13.2.2) rf)), (eA0 (rf 29) (ck 29) 24 f_landHas)] H → va_S A s.heap H locs → lv_has ls 7 [(4, .int i), (3, .ref o3), (2, .ref mq), (1, .ref x), (0, .ref bs)] → H0.size ≤ H.size → (∀ q : Nat, q < H0.size → ¬ Bp q → H[q]? = H0[q]?) → W p l e room_1 s m #[Value.ref bs] below meth c H locs (ce + 1) (sl + 6) (lw_Z below #[Value.ref bs] s) (F0 m 2012 ls [])) : W p l e room_1 s m #[Value.ref bs] below meth c H0 locs ce sl (lw_Z below #[Value.ref bs] s) (F0 m 1545 ls []) := by
  obtain ⟨hx, hb, hr, hml, hown, hts, hX, hbl, hlocks, hgv⟩ := id C0
  have htw : ∀ w ∈ wsL_law, w.before _ s = true := fun w h => hts w (wsL_law_in w h)
  have hown : s.vm.findClass RL = some m.cls := hown
  have hA : ∀ q : Nat, s.heap.size ≤ q → A q := fun q h => (hAe q).mpr h
  have hbA : ¬ A bs := fun h => absurd ((hAe bs).mp h) (Nat.not_le.mpr hbl)
  obtain ⟨H, rH⟩ : ∃ z : Heap, z = H0 := ⟨_, rfl⟩
  have hfr : ∀ q : Nat, q < H0.size → ¬ Bp q → H[q]? = H0[q]? := fun q _ _ => by rw [rH]
  have hz0 : H0.size ≤ H.size := by rw [rH]; exact Nat.le_refl _
  rw [← rH] at hP hS ⊢
  refine lv_aload_n hx hb dL_law_1545 rfl (lv_at hl 3 rfl) ?_
  refine lv_aload_n hx hb dL_law_1546 rfl (lv_at hl 4 rfl) ?_
  refine lv_iload hx hb dL_law_1547 (lv_at hl 0 rfl) ?_
  refine lv_iconst (v := 1) hx hb dL_law_1549 (by decide) ?_
  refine lv_iadd hx hb dL_law_1550 ?_
  refine va_sld hx hb hX hbl hbA hS hi1 dL_law_1551 ?_
  rw [hy1]
  refine lv_aload_n hx hb dL_law_1552 rfl (lv_at hl 4 rfl) ?_
  refine lv_iload hx hb dL_law_1553 (lv_at hl 0 rfl) ?_
  refine lv_iconst (v := 2) hx hb dL_law_1555 (by decide) ?_
  refine lv_iadd hx hb dL_law_1556 ?_
  refine va_sld hx hb hX hbl hbA hS hi2 dL_law_1557 ?_
  rw [hy2]
  refine lv_i2l (v := y2.toInt64) hx hb dL_law_1558 rfl ?_
  refine lv_bipush (v := 32) hx hb dL_law_1559 (by decide) ?_
  refine lv_lshl (v := (y2.toInt64 <<< ((32 : Int32).toInt64 &&& 63))) hx hb dL_law_1561 rfl ?_
  refine lv_aload_n hx hb dL_law_1562 rfl (lv_at hl 4 rfl) ?_
  refine lv_iload hx hb dL_law_1563 (lv_at hl 0 rfl) ?_
  refine lv_iconst (v := 3) hx hb dL_law_1565 (by decide) ?_
  refine lv_iadd hx hb dL_law_1566 ?_
  refine va_sld hx hb hX hbl hbA hS hi3 dL_law_1567 ?_
  rw [hy3]
  refine lv_i2l (v := y3.toInt64) hx hb dL_law_1568 rfl ?_
  refine lv_ldc2 (v := 4294967295) hx hb hown (htw _ (ck_1 _ (List.mem_of_getElem? (i := 7) rfl))) dL_law_1569 ?_
  refine lv_land hx hb dL_law_1572 ?_
  refine lv_lor hx hb dL_law_1573 ?_
  refine lv_aload_n hx hb dL_law_1574 rfl (lv_at hl 4 rfl) ?_
  refine lv_iload hx hb dL_law_1575 (lv_at hl 0 rfl) ?_
  refine lv_iconst (v := 4) hx hb dL_law_1577 (by decide) ?_
  refine lv_iadd hx hb dL_law_1578 ?_
  refine va_sld hx hb hX hbl hbA hS hi4 dL_law_1579 ?_
  rw [hy4]
  refine lv_aload_n hx hb dL_law_1580 rfl (lv_at hl 4 rfl) ?_
  refine lv_iload hx hb dL_law_1581 (lv_at hl 0 rfl) ?_
  refine lv_iconst (v := 5) hx hb dL_law_1583 (by decide) ?_
  refine lv_iadd hx hb dL_law_1584 ?_
  refine va_sld hx hb hX hbl hbA hS hi5 dL_law_1585 ?_
  rw [hy5]
  have hPc := hP.sub (ws' := [(eO11a x pa bk xsp xdy le xst xsc xim xil xik xmo xom wi), (eO0a bk bto bnm bla bsk bru bbo bdi bda bdk bdt bdp bno), (eA0 bto cTo 5 fTo), (eA4 bla cLa 4 (fun k => some (La k))), (eO1a (La 0) (FI 0) (GR 0) (FR 0)), (eO1a (La 1) (FI 1) (GR 1) (FR 1)), (eO1a (La 2) (FI 2) (GR 2) (FR 2)), (eO1a (La 3) (FI 3) (GR 3) (FR 3))]) [0, 1, 2, 3, 4, 5, 6, 7] rfl
  have hKc := hK.sub (tys' := [(cTo, .int), (cLa, .object RX1)]) [0, 1] rfl
  refine vp_callSl (W.runV (As := [.int y1, .long ((y2.toInt64 <<< ((32 : Int32).toInt64 &&& 63)) ||| (y3.toInt64 &&& 4294967295)), .int y4, .int y5]) (rest := []) ⟨hx, hb, hml, hown, htw⟩ (gx_hire l dC dI x pa bk xsp xdy le xst xsc xim xil xik xmo xom wi bto bnm bla bsk bru bbo bdi bda bdk bdt bdp bno cTo fTo cLa La FI GR FR y1 ((y2.toInt64 <<< ((32 : Int32).toInt64 &&& 63)) ||| (y3.toInt64 &&& 4294967295)) y4 y5) (cwV 4 htw (xg_V (ck_51 _ (List.mem_of_getElem? (i := 3) rfl)) (ck_51 _ (List.mem_of_getElem? (i := 4) rfl)) (ck_51 _ (List.mem_of_getElem? (i := 5) rfl)) (ck_1 _ (List.mem_of_getElem? (i := 2) rfl)) (ck_51 _ (List.mem_of_getElem? (i := 6) rfl))) rfl rfl rfl (by exact ⟨rfl, hdc_8.1, hdc_8.2, hdd_65⟩) ⟨Nat.le_of_ble_eq_true rfl, Nat.le_of_ble_eq_true rfl⟩) ⟨fun a U g mk q => by obtain ⟨q0, qP, qK, qx⟩ := q; exact ⟨q0, qP, va_K.moved (u := U) (U := U.calling g mk a) (Vm.Alike.refl U.vm) qK, xN.calling qx⟩, va_recv hKc hPc (ci := 11) (q0 := 0) rfl rfl, fun U hU hW => ⟨rfl, by rw [hU]; exact hPc, va_K.moved hW.alike hKc, xN.warm hW hNx⟩⟩ rfl rfl hl.1 rfl (lv_room (Nat.le_of_ble_eq_true rfl)) dL_law_1586 ⟨by first | exact Nat.le_of_ble_eq_true rfl | exact yR (n := 0) (by omega) rfl, by first | exact Nat.le_of_ble_eq_true rfl | exact yR2 (n := 0) (by omega) rfl⟩) (fun r_6 hw => ?_)
  try dsimp only at hw
  have hq_r_6 : r_6 = (fx_hire fTo FI GR FR y1 ((y2.toInt64 <<< ((32 : Int32).toInt64 &&& 63)) ||| (y3.toInt64 &&& 4294967295)) y4 y5) := hw
  refine lv_pop2_2 hx hb dL_law_1589 rfl ?_
  refine lv_aload_n hx hb dL_law_1590 rfl (lv_at hl 2 rfl) ?_
  refine lv_aload_n hx hb dL_law_1591 rfl (lv_at hl 4 rfl) ?_
  refine lv_iload hx hb dL_law_1592 (lv_at hl 0 rfl) ?_
  refine lv_iconst (v := 1) hx hb dL_law_1594 (by decide) ?_
  refine lv_iadd hx hb dL_law_1595 ?_
  refine va_sld hx hb hX hbl hbA hS hi1 dL_law_1596 ?_
  rw [hy1]
  refine lv_aload_n hx hb dL_law_1597 rfl (lv_at hl 4 rfl) ?_
  refine lv_iload hx hb dL_law_1598 (lv_at hl 0 rfl) ?_
  refine lv_iconst (v := 2) hx hb dL_law_1600 (by decide) ?_
  refine lv_iadd hx hb dL_law_1601 ?_
  refine va_sld hx hb hX hbl hbA hS hi2 dL_law_1602 ?_
  rw [hy2]
  refine lv_i2l (v := y2.toInt64) hx hb dL_law_1603 rfl ?_
  refine lv_bipush (v := 32) hx hb dL_law_1604 (by decide) ?_
  refine lv_lshl (v := (y2.toInt64 <<< ((32 : Int32).toInt64 &&& 63))) hx hb dL_law_1606 rfl ?_
  refine lv_aload_n hx hb dL_law_1607 rfl (lv_at hl 4 rfl) ?_
  refine lv_iload hx hb dL_law_1608 (lv_at hl 0 rfl) ?_
  refine lv_iconst (v := 3) hx hb dL_law_1610 (by decide) ?_
  refine lv_iadd hx hb dL_law_1611 ?_
  refine va_sld hx hb hX hbl hbA hS hi3 dL_law_1612 ?_
  rw [hy3]
  refine lv_i2l (v := y3.toInt64) hx hb dL_law_1613 rfl ?_
  refine lv_ldc2 (v := 4294967295) hx hb hown (htw _ (ck_1 _ (List.mem_of_getElem? (i := 7) rfl))) dL_law_1614 ?_
  refine lv_land hx hb dL_law_1617 ?_
  refine lv_lor hx hb dL_law_1618 ?_
  refine lv_aload_n hx hb dL_law_1619 rfl (lv_at hl 4 rfl) ?_
  refine lv_iload hx hb dL_law_1620 (lv_at hl 0 rfl) ?_
  refine lv_iconst (v := 4) hx hb dL_law_1622 (by decide) ?_
  refine lv_iadd hx hb dL_law_1623 ?_
  refine va_sld hx hb hX hbl hbA hS hi4 dL_law_1624 ?_
  rw [hy4]
  refine lv_aload_n hx hb dL_law_1625 rfl (lv_at hl 4 rfl) ?_
  refine lv_iload hx hb dL_law_1626 (lv_at hl 0 rfl) ?_
  refine lv_iconst (v := 5) hx hb dL_law_1628 (by decide) ?_
  refine lv_iadd hx hb dL_law_1629 ?_
  refine va_sld hx hb hX hbl hbA hS hi5 dL_law_1630 ?_
  rw [hy5]
  obtain ⟨hPc, hDc, hFc, hCc⟩ := zsub3 (ws' := [(mq, .inr (12, mF g gl rf)), (eA0 (rf 29) (ck 29) 24 f_landHas)]) hP hD hS hA [8, 9] (by decide) rfl
  have hKc := hK.sub (tys' := [((ck 29), .int)]) [2] rfl
  refine va_calll (va_runV (As := [.int y1, .long ((y2.toInt64 <<< ((32 : Int32).toInt64 &&& 63)) ||| (y3.toInt64 &&& 4294967295)), .int y4, .int y5]) (rest := []) ⟨hx, hb, hml, hown, htw⟩ (gq_hire l dC dI mq g gl rf ck f_landHas y1 ((y2.toInt64 <<< ((32 : Int32).toInt64 &&& 63)) ||| (y3.toInt64 &&& 4294967295)) y4 y5 H.size hln0 hln4 hLZ1) (cwV 4 htw (xg_V (ck_51 _ (List.mem_of_getElem? (i := 7) rfl)) (ck_51 _ (List.mem_of_getElem? (i := 8) rfl)) (ck_51 _ (List.mem_of_getElem? (i := 9) rfl)) (ck_1 _ (List.mem_of_getElem? (i := 5) rfl)) (ck_51 _ (List.mem_of_getElem? (i := 10) rfl))) rfl rfl rfl (by exact ⟨rfl, hdc_14.1, hdc_14.2, hdd_65⟩) ⟨Nat.le_of_ble_eq_true rfl, Nat.le_of_ble_eq_true rfl⟩) ⟨fun a U g mk q => by obtain ⟨q0, q1, qP, qK, qD⟩ := q; exact ⟨q0, q1, qP, va_K.moved (u := U) (U := U.calling g mk a) (Vm.Alike.refl U.vm) qK, qD⟩, va_recv hKc hPc (ci := 12) (q0 := 0) rfl rfl, fun U hU hW => ⟨rfl, by rw [hU], by rw [hU]; exact hPc, va_K.moved hW.alike hKc, hDc.weaken (fun _ _ _ _ => trivial)⟩⟩ rfl rfl hl.1 rfl (lv_room (Nat.le_of_ble_eq_true rfl)) dL_law_1631 ⟨by first | exact Nat.le_of_ble_eq_true rfl | exact yR (n := 0) (by omega) rfl, by first | exact Nat.le_of_ble_eq_true rfl | exact yR2 (n := 0) (by omega) rfl⟩) hS (fun q _ h => hFc q h) hFc (fun r_12 u_13 t H1 locs ht hvm hw hB hz1 hk1 hS => ?_)
  try dsimp only at hw
  obtain ⟨hP1, hK1, hD1⟩ := hB
  rw [ht] at hP1
  have hK1 := va_K.moved hvm.symm hK1
  have hK1 : va_K (dC, dI) vwCl [] s := hK1
  obtain ⟨hP, hD⟩ := va_join (wr := [(eO11a x pa bk xsp xdy le xst xsc xim xil xik xmo xom wi), (eO0a bk bto bnm bla bsk bru bbo bdi bda bdk bdt bdp bno), (eA0 bto cTo 5 fTo), (eA4 bla cLa 4 (fun k => some (La k))), (eO1a (La 0) (FI 0) (GR 0) (FR 0)), (eO1a (La 1) (FI 1) (GR 1) (FR 1)), (eO1a (La 2) (FI 2) (GR 2) (FR 2)), (eO1a (La 3) (FI 3) (GR 3) (FR 3))]) (w1 := [(mq, .inr (12, mF (upd g 2 u_13.1) (vp_updL (vp_updL gl 53 u_13.2.1) 54 u_13.2.2) rf)), (eA0 (rf 29) (ck 29) 24 f_landHas)]) hP hD [8, 9] [0, 1, 2, 3, 4, 5, 6, 7] hCc rfl (by decide +kernel) (by decide +kernel) hk1 hFc hP1 hD1
  have hfr := yF (wc := [(mq, .inr (12, mF g gl rf)), (eA0 (rf 29) (ck 29) 24 f_landHas)]) hBs [8, 9] rfl hz0 hfr hk1
  have hz0 := Nat.le_trans hz0 hz1
  generalize H1 = H at hP hS hfr hz0 ⊢
  obtain ⟨hP, hD⟩ := zre [(eO11a x pa bk xsp xdy le xst xsc xim xil xik xmo xom wi), (eO0a bk bto bnm bla bsk bru bbo bdi bda bdk bdt bdp bno), (eA0 bto cTo 5 fTo), (eA4 bla cLa 4 (fun k => some (La k))), (eO1a (La 0) (FI 0) (GR 0) (FR 0)), (eO1a (La 1) (FI 1) (GR 1) (FR 1)), (eO1a (La 2) (FI 2) (GR 2) (FR 2)), (eO1a (La 3) (FI 3) (GR 3) (FR 3)), (mq, .inr (12, mF (upd g 2 u_13.1) (vp_updL (vp_updL gl 53 u_13.2.1) 54 u_13.2.2) rf)), (eA0 (rf 29) (ck 29) 24 f_landHas)] hP hD rfl
  refine W.widen (k := ce + 0) (n := sl + 0) (by omega) (by omega) ?_
  obtain ⟨X_17, hX_17⟩ : ∃ X9 : Int64 × (Int32) × (Int64) × (Int64), X9 = (fq_hire f_landHas y1 ((y2.toInt64 <<< ((32 : Int32).toInt64 &&& 63)) ||| (y3.toInt64 &&& 4294967295)) y4 y5 (g 12) (gl 53) (gl 54)) := ⟨_, rfl⟩
  have hq_r_12 : r_12 = X_17.1 := by rw [hX_17]; exact hw.1
  have hq_u_13 : u_13 = X_17.2 := by rw [hX_17]; exact hw.2
  refine lv_pop2_2 hx hb dL_law_1634 rfl ?_
  refine lv_goto (tgt := 2012) hx hb dL_law_1635 (by decide) ?_
  refine W.widen (k := ce + 1) (n := sl + 6) (by omega) (by omega) ?_
  exact kk1 r_6 hq_r_6 X_17 hX_17 r_12 hq_r_12 u_13 hq_u_13 H locs ls (hP.sub (ws' := [(eO11a x pa bk xsp xdy le xst xsc xim xil xik xmo xom wi), (eO0a bk bto bnm bla bsk bru bbo bdi bda bdk bdt bdp bno), (eA0 bto cTo 5 fTo), (eA4 bla cLa 4 (fun k => some (La k))), (eO1a (La 0) (FI 0) (GR 0) (FR 0)), (eO1a (La 1) (FI 1) (GR 1) (FR 1)), (eO1a (La 2) (FI 2) (GR 2) (FR 2)), (eO1a (La 3) (FI 3) (GR 3) (FR 3)), (mq, .inr (12, mF (upd g 2 u_13.1) (vp_updL (vp_updL gl 53 u_13.2.1) 54 u_13.2.2) rf)), (eA0 (rf 29) (ck 29) 24 f_landHas)]) [0, 1, 2, 3, 4, 5, 6, 7, 8, 9] rfl) hS (lv_sub hl [0, 1, 2, 3, 4] rfl) hz0 hfr

theorem dL_law_1638 : decode cL_law 1638 = .ok (.aload_n 1, 1) := zk_43 (by decide +kernel)
theorem dL_law_1639 : decode cL_law 1639 = .ok (.aload_n 0, 1) := zk_42 (by decide +kernel)
theorem dL_law_1640 : decode cL_law 1640 = .ok (.iload 4, 2) := zk_21 (by decide +kernel)
theorem dL_law_1642 : decode cL_law 1642 = .ok (.iconst 1, 1) := zk_4 (by decide +kernel)
theorem dL_law_1643 : decode cL_law 1643 = .ok (.iadd, 1) := zk_96 (by decide +kernel)
theorem dL_law_1644 : decode cL_law 1644 = .ok (.iaload, 1) := zk_46 (by decide +kernel)
theorem dL_law_1645 : decode cL_law 1645 = .ok (.aload_n 0, 1) := zk_42 (by decide +kernel)
theorem dL_law_1646 : decode cL_law 1646 = .ok (.iload 4, 2) := zk_21 (by decide +kernel)
theorem dL_law_1648 : decode cL_law 1648 = .ok (.iconst 2, 1) := zk_5 (by decide +kernel)
theorem dL_law_1649 : decode cL_law 1649 = .ok (.iadd, 1) := zk_96 (by decide +kernel)
theorem dL_law_1650 : decode cL_law 1650 = .ok (.iaload, 1) := zk_46 (by decide +kernel)
theorem dL_law_1651 : decode cL_law 1651 = .ok (.aload_n 0, 1) := zk_42 (by decide +kernel)
theorem dL_law_1652 : decode cL_law 1652 = .ok (.iload 4, 2) := zk_21 (by decide +kernel)
theorem dL_law_1654 : decode cL_law 1654 = .ok (.iconst 3, 1) := zk_6 (by decide +kernel)
theorem dL_law_1655 : decode cL_law 1655 = .ok (.iadd, 1) := zk_96 (by decide +kernel)
theorem dL_law_1656 : decode cL_law 1656 = .ok (.iaload, 1) := zk_46 (by decide +kernel)
theorem dL_law_1657 : decode cL_law 1657 = .ok (.invokevirtual 132, 3) := zk_182 (by decide +kernel)
theorem dL_law_1660 : decode cL_law 1660 = .ok (.pop, 1) := zk_87 (by decide +kernel)
theorem dL_law_1661 : decode cL_law 1661 = .ok (.aload_n 2, 1) := zk_44 (by decide +kernel)
theorem dL_law_1662 : decode cL_law 1662 = .ok (.aload_n 0, 1) := zk_42 (by decide +kernel)
theorem dL_law_1663 : decode cL_law 1663 = .ok (.iload 4, 2) := zk_21 (by decide +kernel)
theorem dL_law_1665 : decode cL_law 1665 = .ok (.iconst 1, 1) := zk_4 (by decide +kernel)
theorem dL_law_1666 : decode cL_law 1666 = .ok (.iadd, 1) := zk_96 (by decide +kernel)
theorem dL_law_1667 : decode cL_law 1667 = .ok (.iaload, 1) := zk_46 (by decide +kernel)
theorem dL_law_1668 : decode cL_law 1668 = .ok (.aload_n 0, 1) := zk_42 (by decide +kernel)
theorem dL_law_1669 : decode cL_law 1669 = .ok (.iload 4, 2) := zk_21 (by decide +kernel)
theorem dL_law_1671 : decode cL_law 1671 = .ok (.iconst 2, 1) := zk_5 (by decide +kernel)
theorem dL_law_1672 : decode cL_law 1672 = .ok (.iadd, 1) := zk_96 (by decide +kernel)
theorem dL_law_1673 : decode cL_law 1673 = .ok (.iaload, 1) := zk_46 (by decide +kernel)
theorem dL_law_1674 : decode cL_law 1674 = .ok (.aload_n 0, 1) := zk_42 (by decide +kernel)
theorem dL_law_1675 : decode cL_law 1675 = .ok (.iload 4, 2) := zk_21 (by decide +kernel)
theorem dL_law_1677 : decode cL_law 1677 = .ok (.iconst 3, 1) := zk_6 (by decide +kernel)
theorem dL_law_1678 : decode cL_law 1678 = .ok (.iadd, 1) := zk_96 (by decide +kernel)
theorem dL_law_1679 : decode cL_law 1679 = .ok (.iaload, 1) := zk_46 (by decide +kernel)
theorem dL_law_1680 : decode cL_law 1680 = .ok (.invokevirtual 135, 3) := zk_182 (by decide +kernel)
theorem dL_law_1683 : decode cL_law 1683 = .ok (.pop, 1) := zk_87 (by decide +kernel)
theorem dL_law_1684 : decode cL_law 1684 = .ok (.goto 328, 3) := zk_167 (by decide +kernel)
set_option maxHeartbeats 4000000 in
set_option maxRecDepth 100000 in
theorem law_parts (l : Launch) (hst : l.stackTraces = false) {p : Program} {e : Env} {s : State} {m : MethodId} {below : List Frame} {meth : Method} {c : Code} {bs L : Nat} {xs : Nat → Int32} (C0 : lw_At p s m meth c bs L xs) (dC : Nat → ClassId) (dI : Nat → Nat → Nat) (A : Nat → Prop) (hAe : ∀ q, A q ↔ s.heap.size ≤ q) (x : Nat) (pa : Nat) (bk : Nat) (xsp : Nat) (xdy : Nat) (le : Nat) (xst : Nat) (xsc : Int32) (xim : Nat) (xil : Nat) (xik : Int32) (xmo : Nat) (xom : Nat) (wi : Nat) (bto : Nat) (bnm : Nat) (bla : Nat) (bsk : Nat) (bru : Nat) (bbo : Nat) (bdi : Nat) (bda : Nat) (bdk : Nat) (bdt : Nat) (bdp : Nat) (bno : Nat) (cTo : ClassId) (fTo : Nat → Int32) (cLa : ClassId) (La : Nat → Nat) (FI : Nat → Int32) (GR : Nat → Int32) (FR : Nat → Int32) (mq : Nat) (g : Nat → Int32) (gl : Nat → Int64) (rf : Nat → Nat) (ck : Nat → ClassId) (f_landHas : Nat → Int32) (o3 : Nat) (hln0 : ¬ (g 12) < 0) (hln4 : (g 12) ≤ 4) (sL : Nat → Nat)  (i y1 y2 y3 : Int32) (hi1 : vp_in (i + 1) L) (hy1 : xs (i + 1).toNatClampNeg = y1) (hi2 : vp_in (i + 2) L) (hy2 : xs (i + 2).toNatClampNeg = y2) (hi3 : vp_in (i + 3) L) (hy3 : xs (i + 3).toNatClampNeg = y3)  (Bp : Nat → Prop) (H0 : Heap) (locs : List Loc) (ls : Array Slot) (ce sl : Nat) (hce : ce + 1 ≤ 601024) (hsl : sl + 6 ≤ 7293034) (hK : va_K (dC, dI) vwCl [(cTo, .int), (cLa, .object RX1), ((ck 29), .int)] s) (hP : va_P (dC, dI) vwCl [(eO11a x pa bk xsp xdy le xst xsc xim xil xik xmo xom wi), (eO0a bk bto bnm bla bsk bru bbo bdi bda bdk bdt bdp bno), (eA0 bto cTo 5 fTo), (eA4 bla cLa 4 (fun k => some (La k))), (eO1a (La 0) (FI 0) (GR 0) (FR 0)), (eO1a (La 1) (FI 1) (GR 1) (FR 1)), (eO1a (La 2) (FI 2) (GR 2) (FR 2)), (eO1a (La 3) (FI 3) (GR 3) (FR 3)), (mq, .inr (12, mF g gl rf)), (eA0 (rf 29) (ck 29) 24 f_landHas)] H0) (hD : va_D A [(eO11a x pa bk xsp xdy le xst xsc xim xil xik xmo xom wi), (eO0a bk bto bnm bla bsk bru bbo bdi bda bdk bdt bdp bno), (eA0 bto cTo 5 fTo), (eA4 bla cLa 4 (fun k => some (La k))), (eO1a (La 0) (FI 0) (GR 0) (FR 0)), (eO1a (La 1) (FI 1) (GR 1) (FR 1)), (eO1a (La 2) (FI 2) (GR 2) (FR 2)), (eO1a (La 3) (FI 3) (GR 3) (FR 3)), (mq, .inr (12, mF g gl rf)), (eA0 (rf 29) (ck 29) 24 f_landHas)]) (hBs : yB Bp [(eO11a x pa bk xsp xdy le xst xsc xim xil xik xmo xom wi), (eO0a bk bto bnm bla bsk bru bbo bdi bda bdk bdt bdp bno), (eA0 bto cTo 5 fTo), (eA4 bla cLa 4 (fun k => some (La k))), (eO1a (La 0) (FI 0) (GR 0) (FR 0)), (eO1a (La 1) (FI 1) (GR 1) (FR 1)), (eO1a (La 2) (FI 2) (GR 2) (FR 2)), (eO1a (La 3) (FI 3) (GR 3) (FR 3)), (mq, .inr (12, mF g gl rf)), (eA0 (rf 29) (ck 29) 24 f_landHas)]) (hS : va_S A s.heap H0 locs) (hl : lv_has ls 7 [(4, .int i), (3, .ref o3), (2, .ref mq), (1, .ref x), (0, .ref bs)]) (kk1 : ∀ (r_4 : Int32), r_4 = (fx_parts fTo FI GR FR y1 y2 y3) → ∀ (X_11 : Int32 × (Int32)), X_11 = (fq_parts f_landHas y1 y2 y3 (g 12)) → ∀ (r_8 : Int32), r_8 = X_11.1 → ∀ (u_9 : (Int32)), u_9 = X_11.2 → ∀ (H : Heap) (locs : List Loc) (ls : Array Slot), va_P (dC, dI) vwCl [(eO11a x pa bk xsp xdy le xst xsc xim xil xik xmo xom wi), (eO0a bk bto bnm bla bsk bru bbo bdi bda bdk bdt bdp bno), (eA0 bto cTo 5 fTo), (eA4 bla cLa 4 (fun k => some (La k))), (eO1a (La 0) (FI 0) (GR 0) (FR 0)), (eO1a (La 1) (FI 1) (GR 1) (FR 1)), (eO1a (La 2) (FI 2) (GR 2) (FR 2)), (eO1a (La 3) (FI 3) (GR 3) (FR 3)), (mq, .inr (12, mF (upd g 2 u_9) gl rf)), (eA0 (rf 29) (ck 29) 24 f_landHas)] H → va_S A s.heap H locs → lv_has ls 7 [(4, .int i), (3, .ref o3), (2, .ref mq), (1, .ref x), (0, .ref bs)] → H0.size ≤ H.size → (∀ q : Nat, q < H0.size → ¬ Bp q → H[q]? = H0[q]?) → W p l e room_1 s m #[Value.ref bs] below meth c H locs (ce + 1) (sl + 6) (lw_Z below #[Value.ref bs] s) (F0 m 2012 ls [])) : W p l e room_1 s m #[Value.ref bs] below meth c H0 locs ce sl (lw_Z below #[Value.ref bs] s) (F0 m 1638 ls []) := by
  obtain ⟨hx, hb, hr, hml, hown, hts, hX, hbl, hlocks, hgv⟩ := id C0
  have htw : ∀ w ∈ wsL_law, w.before _ s = true := fun w h => hts w (wsL_law_in w h)
  have hown : s.vm.findClass RL = some m.cls := hown
  have hA : ∀ q : Nat, s.heap.size ≤ q → A q := fun q h => (hAe q).mpr h
  have hbA : ¬ A bs := fun h => absurd ((hAe bs).mp h) (Nat.not_le.mpr hbl)
  obtain ⟨H, rH⟩ : ∃ z : Heap, z = H0 := ⟨_, rfl⟩
  have hfr : ∀ q : Nat, q < H0.size → ¬ Bp q → H[q]? = H0[q]? := fun q _ _ => by rw [rH]
  have hz0 : H0.size ≤ H.size := by rw [rH]; exact Nat.le_refl _
  rw [← rH] at hP hS ⊢
  refine lv_aload_n hx hb dL_law_1638 rfl (lv_at hl 3 rfl) ?_
  refine lv_aload_n hx hb dL_law_1639 rfl (lv_at hl 4 rfl) ?_
  refine lv_iload hx hb dL_law_1640 (lv_at hl 0 rfl) ?_
  refine lv_iconst (v := 1) hx hb dL_law_1642 (by decide) ?_
  refine lv_iadd hx hb dL_law_1643 ?_
  refine va_sld hx hb hX hbl hbA hS hi1 dL_law_1644 ?_
  rw [hy1]
  refine lv_aload_n hx hb dL_law_1645 rfl (lv_at hl 4 rfl) ?_
  refine lv_iload hx hb dL_law_1646 (lv_at hl 0 rfl) ?_
  refine lv_iconst (v := 2) hx hb dL_law_1648 (by decide) ?_
  refine lv_iadd hx hb dL_law_1649 ?_
  refine va_sld hx hb hX hbl hbA hS hi2 dL_law_1650 ?_
  rw [hy2]
  refine lv_aload_n hx hb dL_law_1651 rfl (lv_at hl 4 rfl) ?_
  refine lv_iload hx hb dL_law_1652 (lv_at hl 0 rfl) ?_
  refine lv_iconst (v := 3) hx hb dL_law_1654 (by decide) ?_
  refine lv_iadd hx hb dL_law_1655 ?_
  refine va_sld hx hb hX hbl hbA hS hi3 dL_law_1656 ?_
  rw [hy3]
  have hPc := hP.sub (ws' := [(eO11a x pa bk xsp xdy le xst xsc xim xil xik xmo xom wi), (eO0a bk bto bnm bla bsk bru bbo bdi bda bdk bdt bdp bno), (eA0 bto cTo 5 fTo), (eA4 bla cLa 4 (fun k => some (La k))), (eO1a (La 0) (FI 0) (GR 0) (FR 0)), (eO1a (La 1) (FI 1) (GR 1) (FR 1)), (eO1a (La 2) (FI 2) (GR 2) (FR 2)), (eO1a (La 3) (FI 3) (GR 3) (FR 3))]) [0, 1, 2, 3, 4, 5, 6, 7] rfl
  have hKc := hK.sub (tys' := [(cTo, .int), (cLa, .object RX1)]) [0, 1] rfl
  refine vp_callSi (W.runV (As := [.int y1, .int y2, .int y3]) (rest := []) ⟨hx, hb, hml, hown, htw⟩ (gx_parts l dC dI x pa bk xsp xdy le xst xsc xim xil xik xmo xom wi bto bnm bla bsk bru bbo bdi bda bdk bdt bdp bno cTo fTo cLa La FI GR FR y1 y2 y3) (cwV 3 htw (xg_V (ck_51 _ (List.mem_of_getElem? (i := 11) rfl)) (ck_51 _ (List.mem_of_getElem? (i := 12) rfl)) (ck_51 _ (List.mem_of_getElem? (i := 13) rfl)) (ck_1 _ (List.mem_of_getElem? (i := 2) rfl)) (ck_51 _ (List.mem_of_getElem? (i := 14) rfl))) rfl rfl rfl (by exact ⟨rfl, hdc_8.1, hdc_8.2, hdd_28⟩) ⟨Nat.le_of_ble_eq_true rfl, Nat.le_of_ble_eq_true rfl⟩) ⟨fun a U g mk q => by obtain ⟨q0, qP, qK⟩ := q; exact ⟨q0, qP, va_K.moved (u := U) (U := U.calling g mk a) (Vm.Alike.refl U.vm) qK⟩, va_recv hKc hPc (ci := 11) (q0 := 0) rfl rfl, fun U hU hW => ⟨rfl, by rw [hU]; exact hPc, va_K.moved hW.alike hKc⟩⟩ rfl rfl hl.1 rfl (lv_room (Nat.le_of_ble_eq_true rfl)) dL_law_1657 ⟨by first | exact Nat.le_of_ble_eq_true rfl | exact yR (n := 0) (by omega) rfl, by first | exact Nat.le_of_ble_eq_true rfl | exact yR2 (n := 0) (by omega) rfl⟩) (fun r_4 hw => ?_)
  try dsimp only at hw
  have hq_r_4 : r_4 = (fx_parts fTo FI GR FR y1 y2 y3) := hw
  refine lv_pop hx hb dL_law_1660 rfl ?_
  refine lv_aload_n hx hb dL_law_1661 rfl (lv_at hl 2 rfl) ?_
  refine lv_aload_n hx hb dL_law_1662 rfl (lv_at hl 4 rfl) ?_
  refine lv_iload hx hb dL_law_1663 (lv_at hl 0 rfl) ?_
  refine lv_iconst (v := 1) hx hb dL_law_1665 (by decide) ?_
  refine lv_iadd hx hb dL_law_1666 ?_
  refine va_sld hx hb hX hbl hbA hS hi1 dL_law_1667 ?_
  rw [hy1]
  refine lv_aload_n hx hb dL_law_1668 rfl (lv_at hl 4 rfl) ?_
  refine lv_iload hx hb dL_law_1669 (lv_at hl 0 rfl) ?_
  refine lv_iconst (v := 2) hx hb dL_law_1671 (by decide) ?_
  refine lv_iadd hx hb dL_law_1672 ?_
  refine va_sld hx hb hX hbl hbA hS hi2 dL_law_1673 ?_
  rw [hy2]
  refine lv_aload_n hx hb dL_law_1674 rfl (lv_at hl 4 rfl) ?_
  refine lv_iload hx hb dL_law_1675 (lv_at hl 0 rfl) ?_
  refine lv_iconst (v := 3) hx hb dL_law_1677 (by decide) ?_
  refine lv_iadd hx hb dL_law_1678 ?_
  refine va_sld hx hb hX hbl hbA hS hi3 dL_law_1679 ?_
  rw [hy3]
  obtain ⟨hPc, hDc, hFc, hCc⟩ := zsub3 (ws' := [(mq, .inr (12, mF g gl rf)), (eA0 (rf 29) (ck 29) 24 f_landHas)]) hP hD hS hA [8, 9] (by decide) rfl
  have hKc := hK.sub (tys' := [((ck 29), .int)]) [2] rfl
  refine va_calli (va_runV (As := [.int y1, .int y2, .int y3]) (rest := []) ⟨hx, hb, hml, hown, htw⟩ (gq_parts l dC dI mq g gl rf ck f_landHas y1 y2 y3 H.size hln0 hln4) (cwV 3 htw (xg_V (ck_51 _ (List.mem_of_getElem? (i := 15) rfl)) (ck_51 _ (List.mem_of_getElem? (i := 16) rfl)) (ck_51 _ (List.mem_of_getElem? (i := 17) rfl)) (ck_1 _ (List.mem_of_getElem? (i := 5) rfl)) (ck_51 _ (List.mem_of_getElem? (i := 18) rfl))) rfl rfl rfl (by exact ⟨rfl, hdc_14.1, hdc_14.2, hdd_28⟩) ⟨Nat.le_of_ble_eq_true rfl, Nat.le_of_ble_eq_true rfl⟩) ⟨fun a U g mk q => by obtain ⟨q0, q1, qP, qK, qD⟩ := q; exact ⟨q0, q1, qP, va_K.moved (u := U) (U := U.calling g mk a) (Vm.Alike.refl U.vm) qK, qD⟩, va_recv hKc hPc (ci := 12) (q0 := 0) rfl rfl, fun U hU hW => ⟨rfl, by rw [hU], by rw [hU]; exact hPc, va_K.moved hW.alike hKc, hDc.weaken (fun _ _ _ _ => trivial)⟩⟩ rfl rfl hl.1 rfl (lv_room (Nat.le_of_ble_eq_true rfl)) dL_law_1680 ⟨by first | exact Nat.le_of_ble_eq_true rfl | exact yR (n := 0) (by omega) rfl, by first | exact Nat.le_of_ble_eq_true rfl | exact yR2 (n := 0) (by omega) rfl⟩) hS (fun q _ h => hFc q h) hFc (fun r_8 u_9 t H1 locs ht hvm hw hB hz1 hk1 hS => ?_)
  try dsimp only at hw
  obtain ⟨hP1, hK1, hD1⟩ := hB
  rw [ht] at hP1
  have hK1 := va_K.moved hvm.symm hK1
  have hK1 : va_K (dC, dI) vwCl [] s := hK1
  obtain ⟨hP, hD⟩ := va_join (wr := [(eO11a x pa bk xsp xdy le xst xsc xim xil xik xmo xom wi), (eO0a bk bto bnm bla bsk bru bbo bdi bda bdk bdt bdp bno), (eA0 bto cTo 5 fTo), (eA4 bla cLa 4 (fun k => some (La k))), (eO1a (La 0) (FI 0) (GR 0) (FR 0)), (eO1a (La 1) (FI 1) (GR 1) (FR 1)), (eO1a (La 2) (FI 2) (GR 2) (FR 2)), (eO1a (La 3) (FI 3) (GR 3) (FR 3))]) (w1 := [(mq, .inr (12, mF (upd g 2 u_9) gl rf)), (eA0 (rf 29) (ck 29) 24 f_landHas)]) hP hD [8, 9] [0, 1, 2, 3, 4, 5, 6, 7] hCc rfl (by decide +kernel) (by decide +kernel) hk1 hFc hP1 hD1
  have hfr := yF (wc := [(mq, .inr (12, mF g gl rf)), (eA0 (rf 29) (ck 29) 24 f_landHas)]) hBs [8, 9] rfl hz0 hfr hk1
  have hz0 := Nat.le_trans hz0 hz1
  generalize H1 = H at hP hS hfr hz0 ⊢
  obtain ⟨hP, hD⟩ := zre [(eO11a x pa bk xsp xdy le xst xsc xim xil xik xmo xom wi), (eO0a bk bto bnm bla bsk bru bbo bdi bda bdk bdt bdp bno), (eA0 bto cTo 5 fTo), (eA4 bla cLa 4 (fun k => some (La k))), (eO1a (La 0) (FI 0) (GR 0) (FR 0)), (eO1a (La 1) (FI 1) (GR 1) (FR 1)), (eO1a (La 2) (FI 2) (GR 2) (FR 2)), (eO1a (La 3) (FI 3) (GR 3) (FR 3)), (mq, .inr (12, mF (upd g 2 u_9) gl rf)), (eA0 (rf 29) (ck 29) 24 f_landHas)] hP hD rfl
  refine W.widen (k := ce + 0) (n := sl + 0) (by omega) (by omega) ?_
  obtain ⟨X_11, hX_11⟩ : ∃ X9 : Int32 × (Int32), X9 = (fq_parts f_landHas y1 y2 y3 (g 12)) := ⟨_, rfl⟩
  have hq_r_8 : r_8 = X_11.1 := by rw [hX_11]; exact hw.1
  have hq_u_9 : u_9 = X_11.2 := by rw [hX_11]; exact hw.2
  refine lv_pop hx hb dL_law_1683 rfl ?_
  refine lv_goto (tgt := 2012) hx hb dL_law_1684 (by decide) ?_
  refine W.widen (k := ce + 1) (n := sl + 6) (by omega) (by omega) ?_
  exact kk1 r_4 hq_r_4 X_11 hX_11 r_8 hq_r_8 u_9 hq_u_9 H locs ls (hP.sub (ws' := [(eO11a x pa bk xsp xdy le xst xsc xim xil xik xmo xom wi), (eO0a bk bto bnm bla bsk bru bbo bdi bda bdk bdt bdp bno), (eA0 bto cTo 5 fTo), (eA4 bla cLa 4 (fun k => some (La k))), (eO1a (La 0) (FI 0) (GR 0) (FR 0)), (eO1a (La 1) (FI 1) (GR 1) (FR 1)), (eO1a (La 2) (FI 2) (GR 2) (FR 2)), (eO1a (La 3) (FI 3) (GR 3) (FR 3)), (mq, .inr (12, mF (upd g 2 u_9) gl rf)), (eA0 (rf 29) (ck 29) 24 f_landHas)]) [0, 1, 2, 3, 4, 5, 6, 7, 8, 9] rfl) hS (lv_sub hl [0, 1, 2, 3, 4] rfl) hz0 hfr

theorem dL_law_1687 : decode cL_law 1687 = .ok (.aload_n 1, 1) := zk_43 (by decide +kernel)
theorem dL_law_1688 : decode cL_law 1688 = .ok (.aload_n 0, 1) := zk_42 (by decide +kernel)
theorem dL_law_1689 : decode cL_law 1689 = .ok (.iload 4, 2) := zk_21 (by decide +kernel)
theorem dL_law_1691 : decode cL_law 1691 = .ok (.iconst 1, 1) := zk_4 (by decide +kernel)
theorem dL_law_1692 : decode cL_law 1692 = .ok (.iadd, 1) := zk_96 (by decide +kernel)
theorem dL_law_1693 : decode cL_law 1693 = .ok (.iaload, 1) := zk_46 (by decide +kernel)
theorem dL_law_1694 : decode cL_law 1694 = .ok (.aload_n 0, 1) := zk_42 (by decide +kernel)
theorem dL_law_1695 : decode cL_law 1695 = .ok (.iload 4, 2) := zk_21 (by decide +kernel)
theorem dL_law_1697 : decode cL_law 1697 = .ok (.iconst 2, 1) := zk_5 (by decide +kernel)
theorem dL_law_1698 : decode cL_law 1698 = .ok (.iadd, 1) := zk_96 (by decide +kernel)
theorem dL_law_1699 : decode cL_law 1699 = .ok (.iaload, 1) := zk_46 (by decide +kernel)
theorem dL_law_1700 : decode cL_law 1700 = .ok (.aload_n 0, 1) := zk_42 (by decide +kernel)
theorem dL_law_1701 : decode cL_law 1701 = .ok (.iload 4, 2) := zk_21 (by decide +kernel)
theorem dL_law_1703 : decode cL_law 1703 = .ok (.iconst 3, 1) := zk_6 (by decide +kernel)
theorem dL_law_1704 : decode cL_law 1704 = .ok (.iadd, 1) := zk_96 (by decide +kernel)
theorem dL_law_1705 : decode cL_law 1705 = .ok (.iaload, 1) := zk_46 (by decide +kernel)
theorem dL_law_1706 : decode cL_law 1706 = .ok (.invokevirtual 136, 3) := zk_182 (by decide +kernel)
theorem dL_law_1709 : decode cL_law 1709 = .ok (.pop, 1) := zk_87 (by decide +kernel)
theorem dL_law_1710 : decode cL_law 1710 = .ok (.aload_n 2, 1) := zk_44 (by decide +kernel)
theorem dL_law_1711 : decode cL_law 1711 = .ok (.aload_n 0, 1) := zk_42 (by decide +kernel)
theorem dL_law_1712 : decode cL_law 1712 = .ok (.iload 4, 2) := zk_21 (by decide +kernel)
theorem dL_law_1714 : decode cL_law 1714 = .ok (.iconst 1, 1) := zk_4 (by decide +kernel)
theorem dL_law_1715 : decode cL_law 1715 = .ok (.iadd, 1) := zk_96 (by decide +kernel)
theorem dL_law_1716 : decode cL_law 1716 = .ok (.iaload, 1) := zk_46 (by decide +kernel)
theorem dL_law_1717 : decode cL_law 1717 = .ok (.aload_n 0, 1) := zk_42 (by decide +kernel)
theorem dL_law_1718 : decode cL_law 1718 = .ok (.iload 4, 2) := zk_21 (by decide +kernel)
theorem dL_law_1720 : decode cL_law 1720 = .ok (.iconst 2, 1) := zk_5 (by decide +kernel)
theorem dL_law_1721 : decode cL_law 1721 = .ok (.iadd, 1) := zk_96 (by decide +kernel)
theorem dL_law_1722 : decode cL_law 1722 = .ok (.iaload, 1) := zk_46 (by decide +kernel)
theorem dL_law_1723 : decode cL_law 1723 = .ok (.aload_n 0, 1) := zk_42 (by decide +kernel)
theorem dL_law_1724 : decode cL_law 1724 = .ok (.iload 4, 2) := zk_21 (by decide +kernel)
theorem dL_law_1726 : decode cL_law 1726 = .ok (.iconst 3, 1) := zk_6 (by decide +kernel)
theorem dL_law_1727 : decode cL_law 1727 = .ok (.iadd, 1) := zk_96 (by decide +kernel)
theorem dL_law_1728 : decode cL_law 1728 = .ok (.iaload, 1) := zk_46 (by decide +kernel)
theorem dL_law_1729 : decode cL_law 1729 = .ok (.invokevirtual 139, 3) := zk_182 (by decide +kernel)
theorem dL_law_1732 : decode cL_law 1732 = .ok (.pop, 1) := zk_87 (by decide +kernel)
theorem dL_law_1733 : decode cL_law 1733 = .ok (.goto 279, 3) := zk_167 (by decide +kernel)
set_option maxHeartbeats 4000000 in
set_option maxRecDepth 100000 in
theorem law_months (l : Launch) (hst : l.stackTraces = false) {p : Program} {e : Env} {s : State} {m : MethodId} {below : List Frame} {meth : Method} {c : Code} {bs L : Nat} {xs : Nat → Int32} (C0 : lw_At p s m meth c bs L xs) (dC : Nat → ClassId) (dI : Nat → Nat → Nat) (A : Nat → Prop) (hAe : ∀ q, A q ↔ s.heap.size ≤ q) (x : Nat) (pa : Nat) (bk : Nat) (xsp : Nat) (xdy : Nat) (le : Nat) (xst : Nat) (xsc : Int32) (xim : Nat) (xil : Nat) (xik : Int32) (xmo : Nat) (xom : Nat) (wi : Nat) (bto : Nat) (bnm : Nat) (bla : Nat) (bsk : Nat) (bru : Nat) (bbo : Nat) (bdi : Nat) (bda : Nat) (bdk : Nat) (bdt : Nat) (bdp : Nat) (bno : Nat) (cTo : ClassId) (fTo : Nat → Int32) (cLa : ClassId) (La : Nat → Nat) (FI : Nat → Int32) (GR : Nat → Int32) (FR : Nat → Int32) (mq : Nat) (g : Nat → Int32) (gl : Nat → Int64) (rf : Nat → Nat) (ck : Nat → ClassId) (f_landHas : Nat → Int32) (o3 : Nat) (hln0 : ¬ (g 12) < 0) (hln4 : (g 12) ≤ 4) (sL : Nat → Nat)  (i y1 y2 y3 : Int32) (hi1 : vp_in (i + 1) L) (hy1 : xs (i + 1).toNatClampNeg = y1) (hi2 : vp_in (i + 2) L) (hy2 : xs (i + 2).toNatClampNeg = y2) (hi3 : vp_in (i + 3) L) (hy3 : xs (i + 3).toNatClampNeg = y3)  (Bp : Nat → Prop) (H0 : Heap) (locs : List Loc) (ls : Array Slot) (ce sl : Nat) (hce : ce + 1 ≤ 601024) (hsl : sl + 6 ≤ 7293034) (hK : va_K (dC, dI) vwCl [(cTo, .int), (cLa, .object RX1), ((ck 29), .int)] s) (hP : va_P (dC, dI) vwCl [(eO11a x pa bk xsp xdy le xst xsc xim xil xik xmo xom wi), (eO0a bk bto bnm bla bsk bru bbo bdi bda bdk bdt bdp bno), (eA0 bto cTo 5 fTo), (eA4 bla cLa 4 (fun k => some (La k))), (eO1a (La 0) (FI 0) (GR 0) (FR 0)), (eO1a (La 1) (FI 1) (GR 1) (FR 1)), (eO1a (La 2) (FI 2) (GR 2) (FR 2)), (eO1a (La 3) (FI 3) (GR 3) (FR 3)), (mq, .inr (12, mF g gl rf)), (eA0 (rf 29) (ck 29) 24 f_landHas)] H0) (hD : va_D A [(eO11a x pa bk xsp xdy le xst xsc xim xil xik xmo xom wi), (eO0a bk bto bnm bla bsk bru bbo bdi bda bdk bdt bdp bno), (eA0 bto cTo 5 fTo), (eA4 bla cLa 4 (fun k => some (La k))), (eO1a (La 0) (FI 0) (GR 0) (FR 0)), (eO1a (La 1) (FI 1) (GR 1) (FR 1)), (eO1a (La 2) (FI 2) (GR 2) (FR 2)), (eO1a (La 3) (FI 3) (GR 3) (FR 3)), (mq, .inr (12, mF g gl rf)), (eA0 (rf 29) (ck 29) 24 f_landHas)]) (hBs : yB Bp [(eO11a x pa bk xsp xdy le xst xsc xim xil xik xmo xom wi), (eO0a bk bto bnm bla bsk bru bbo bdi bda bdk bdt bdp bno), (eA0 bto cTo 5 fTo), (eA4 bla cLa 4 (fun k => some (La k))), (eO1a (La 0) (FI 0) (GR 0) (FR 0)), (eO1a (La 1) (FI 1) (GR 1) (FR 1)), (eO1a (La 2) (FI 2) (GR 2) (FR 2)), (eO1a (La 3) (FI 3) (GR 3) (FR 3)), (mq, .inr (12, mF g gl rf)), (eA0 (rf 29) (ck 29) 24 f_landHas)]) (hS : va_S A s.heap H0 locs) (hl : lv_has ls 7 [(4, .int i), (3, .ref o3), (2, .ref mq), (1, .ref x), (0, .ref bs)]) (kk1 : ∀ (r_4 : Int32), r_4 = (fx_months fTo FI GR FR y1 y2 y3) → ∀ (X_11 : Int32 × (Int32)), X_11 = (fq_months f_landHas y1 y2 y3 (g 12)) → ∀ (r_8 : Int32), r_8 = X_11.1 → ∀ (u_9 : (Int32)), u_9 = X_11.2 → ∀ (H : Heap) (locs : List Loc) (ls : Array Slot), va_P (dC, dI) vwCl [(eO11a x pa bk xsp xdy le xst xsc xim xil xik xmo xom wi), (eO0a bk bto bnm bla bsk bru bbo bdi bda bdk bdt bdp bno), (eA0 bto cTo 5 fTo), (eA4 bla cLa 4 (fun k => some (La k))), (eO1a (La 0) (FI 0) (GR 0) (FR 0)), (eO1a (La 1) (FI 1) (GR 1) (FR 1)), (eO1a (La 2) (FI 2) (GR 2) (FR 2)), (eO1a (La 3) (FI 3) (GR 3) (FR 3)), (mq, .inr (12, mF (upd g 2 u_9) gl rf)), (eA0 (rf 29) (ck 29) 24 f_landHas)] H → va_S A s.heap H locs → lv_has ls 7 [(4, .int i), (3, .ref o3), (2, .ref mq), (1, .ref x), (0, .ref bs)] → H0.size ≤ H.size → (∀ q : Nat, q < H0.size → ¬ Bp q → H[q]? = H0[q]?) → W p l e room_1 s m #[Value.ref bs] below meth c H locs (ce + 1) (sl + 6) (lw_Z below #[Value.ref bs] s) (F0 m 2012 ls [])) : W p l e room_1 s m #[Value.ref bs] below meth c H0 locs ce sl (lw_Z below #[Value.ref bs] s) (F0 m 1687 ls []) := by
  obtain ⟨hx, hb, hr, hml, hown, hts, hX, hbl, hlocks, hgv⟩ := id C0
  have htw : ∀ w ∈ wsL_law, w.before _ s = true := fun w h => hts w (wsL_law_in w h)
  have hown : s.vm.findClass RL = some m.cls := hown
  have hA : ∀ q : Nat, s.heap.size ≤ q → A q := fun q h => (hAe q).mpr h
  have hbA : ¬ A bs := fun h => absurd ((hAe bs).mp h) (Nat.not_le.mpr hbl)
  obtain ⟨H, rH⟩ : ∃ z : Heap, z = H0 := ⟨_, rfl⟩
  have hfr : ∀ q : Nat, q < H0.size → ¬ Bp q → H[q]? = H0[q]? := fun q _ _ => by rw [rH]
  have hz0 : H0.size ≤ H.size := by rw [rH]; exact Nat.le_refl _
  rw [← rH] at hP hS ⊢
  refine lv_aload_n hx hb dL_law_1687 rfl (lv_at hl 3 rfl) ?_
  refine lv_aload_n hx hb dL_law_1688 rfl (lv_at hl 4 rfl) ?_
  refine lv_iload hx hb dL_law_1689 (lv_at hl 0 rfl) ?_
  refine lv_iconst (v := 1) hx hb dL_law_1691 (by decide) ?_
  refine lv_iadd hx hb dL_law_1692 ?_
  refine va_sld hx hb hX hbl hbA hS hi1 dL_law_1693 ?_
  rw [hy1]
  refine lv_aload_n hx hb dL_law_1694 rfl (lv_at hl 4 rfl) ?_
  refine lv_iload hx hb dL_law_1695 (lv_at hl 0 rfl) ?_
  refine lv_iconst (v := 2) hx hb dL_law_1697 (by decide) ?_
  refine lv_iadd hx hb dL_law_1698 ?_
  refine va_sld hx hb hX hbl hbA hS hi2 dL_law_1699 ?_
  rw [hy2]
  refine lv_aload_n hx hb dL_law_1700 rfl (lv_at hl 4 rfl) ?_
  refine lv_iload hx hb dL_law_1701 (lv_at hl 0 rfl) ?_
  refine lv_iconst (v := 3) hx hb dL_law_1703 (by decide) ?_
  refine lv_iadd hx hb dL_law_1704 ?_
  refine va_sld hx hb hX hbl hbA hS hi3 dL_law_1705 ?_
  rw [hy3]
  have hPc := hP.sub (ws' := [(eO11a x pa bk xsp xdy le xst xsc xim xil xik xmo xom wi), (eO0a bk bto bnm bla bsk bru bbo bdi bda bdk bdt bdp bno), (eA0 bto cTo 5 fTo), (eA4 bla cLa 4 (fun k => some (La k))), (eO1a (La 0) (FI 0) (GR 0) (FR 0)), (eO1a (La 1) (FI 1) (GR 1) (FR 1)), (eO1a (La 2) (FI 2) (GR 2) (FR 2)), (eO1a (La 3) (FI 3) (GR 3) (FR 3))]) [0, 1, 2, 3, 4, 5, 6, 7] rfl
  have hKc := hK.sub (tys' := [(cTo, .int), (cLa, .object RX1)]) [0, 1] rfl
  refine vp_callSi (W.runV (As := [.int y1, .int y2, .int y3]) (rest := []) ⟨hx, hb, hml, hown, htw⟩ (gx_months l dC dI x pa bk xsp xdy le xst xsc xim xil xik xmo xom wi bto bnm bla bsk bru bbo bdi bda bdk bdt bdp bno cTo fTo cLa La FI GR FR y1 y2 y3) (cwV 3 htw (xg_V (ck_51 _ (List.mem_of_getElem? (i := 19) rfl)) (ck_51 _ (List.mem_of_getElem? (i := 20) rfl)) (ck_51 _ (List.mem_of_getElem? (i := 21) rfl)) (ck_1 _ (List.mem_of_getElem? (i := 2) rfl)) (ck_51 _ (List.mem_of_getElem? (i := 22) rfl))) rfl rfl rfl (by exact ⟨rfl, hdc_8.1, hdc_8.2, hdd_28⟩) ⟨Nat.le_of_ble_eq_true rfl, Nat.le_of_ble_eq_true rfl⟩) ⟨fun a U g mk q => by obtain ⟨q0, qP, qK⟩ := q; exact ⟨q0, qP, va_K.moved (u := U) (U := U.calling g mk a) (Vm.Alike.refl U.vm) qK⟩, va_recv hKc hPc (ci := 11) (q0 := 0) rfl rfl, fun U hU hW => ⟨rfl, by rw [hU]; exact hPc, va_K.moved hW.alike hKc⟩⟩ rfl rfl hl.1 rfl (lv_room (Nat.le_of_ble_eq_true rfl)) dL_law_1706 ⟨by first | exact Nat.le_of_ble_eq_true rfl | exact yR (n := 0) (by omega) rfl, by first | exact Nat.le_of_ble_eq_true rfl | exact yR2 (n := 0) (by omega) rfl⟩) (fun r_4 hw => ?_)
  try dsimp only at hw
  have hq_r_4 : r_4 = (fx_months fTo FI GR FR y1 y2 y3) := hw
  refine lv_pop hx hb dL_law_1709 rfl ?_
  refine lv_aload_n hx hb dL_law_1710 rfl (lv_at hl 2 rfl) ?_
  refine lv_aload_n hx hb dL_law_1711 rfl (lv_at hl 4 rfl) ?_
  refine lv_iload hx hb dL_law_1712 (lv_at hl 0 rfl) ?_
  refine lv_iconst (v := 1) hx hb dL_law_1714 (by decide) ?_
  refine lv_iadd hx hb dL_law_1715 ?_
  refine va_sld hx hb hX hbl hbA hS hi1 dL_law_1716 ?_
  rw [hy1]
  refine lv_aload_n hx hb dL_law_1717 rfl (lv_at hl 4 rfl) ?_
  refine lv_iload hx hb dL_law_1718 (lv_at hl 0 rfl) ?_
  refine lv_iconst (v := 2) hx hb dL_law_1720 (by decide) ?_
  refine lv_iadd hx hb dL_law_1721 ?_
  refine va_sld hx hb hX hbl hbA hS hi2 dL_law_1722 ?_
  rw [hy2]
  refine lv_aload_n hx hb dL_law_1723 rfl (lv_at hl 4 rfl) ?_
  refine lv_iload hx hb dL_law_1724 (lv_at hl 0 rfl) ?_
  refine lv_iconst (v := 3) hx hb dL_law_1726 (by decide) ?_
  refine lv_iadd hx hb dL_law_1727 ?_
  refine va_sld hx hb hX hbl hbA hS hi3 dL_law_1728 ?_
  rw [hy3]
  obtain ⟨hPc, hDc, hFc, hCc⟩ := zsub3 (ws' := [(mq, .inr (12, mF g gl rf)), (eA0 (rf 29) (ck 29) 24 f_landHas)]) hP hD hS hA [8, 9] (by decide) rfl
  have hKc := hK.sub (tys' := [((ck 29), .int)]) [2] rfl
  refine va_calli (va_runV (As := [.int y1, .int y2, .int y3]) (rest := []) ⟨hx, hb, hml, hown, htw⟩ (gq_months l dC dI mq g gl rf ck f_landHas y1 y2 y3 H.size hln0 hln4) (cwV 3 htw (xg_V (ck_51 _ (List.mem_of_getElem? (i := 23) rfl)) (ck_52 _ (List.mem_of_getElem? (i := 0) rfl)) (ck_52 _ (List.mem_of_getElem? (i := 1) rfl)) (ck_1 _ (List.mem_of_getElem? (i := 5) rfl)) (ck_52 _ (List.mem_of_getElem? (i := 2) rfl))) rfl rfl rfl (by exact ⟨rfl, hdc_14.1, hdc_14.2, hdd_28⟩) ⟨Nat.le_of_ble_eq_true rfl, Nat.le_of_ble_eq_true rfl⟩) ⟨fun a U g mk q => by obtain ⟨q0, q1, qP, qK, qD⟩ := q; exact ⟨q0, q1, qP, va_K.moved (u := U) (U := U.calling g mk a) (Vm.Alike.refl U.vm) qK, qD⟩, va_recv hKc hPc (ci := 12) (q0 := 0) rfl rfl, fun U hU hW => ⟨rfl, by rw [hU], by rw [hU]; exact hPc, va_K.moved hW.alike hKc, hDc.weaken (fun _ _ _ _ => trivial)⟩⟩ rfl rfl hl.1 rfl (lv_room (Nat.le_of_ble_eq_true rfl)) dL_law_1729 ⟨by first | exact Nat.le_of_ble_eq_true rfl | exact yR (n := 0) (by omega) rfl, by first | exact Nat.le_of_ble_eq_true rfl | exact yR2 (n := 0) (by omega) rfl⟩) hS (fun q _ h => hFc q h) hFc (fun r_8 u_9 t H1 locs ht hvm hw hB hz1 hk1 hS => ?_)
  try dsimp only at hw
  obtain ⟨hP1, hK1, hD1⟩ := hB
  rw [ht] at hP1
  have hK1 := va_K.moved hvm.symm hK1
  have hK1 : va_K (dC, dI) vwCl [] s := hK1
  obtain ⟨hP, hD⟩ := va_join (wr := [(eO11a x pa bk xsp xdy le xst xsc xim xil xik xmo xom wi), (eO0a bk bto bnm bla bsk bru bbo bdi bda bdk bdt bdp bno), (eA0 bto cTo 5 fTo), (eA4 bla cLa 4 (fun k => some (La k))), (eO1a (La 0) (FI 0) (GR 0) (FR 0)), (eO1a (La 1) (FI 1) (GR 1) (FR 1)), (eO1a (La 2) (FI 2) (GR 2) (FR 2)), (eO1a (La 3) (FI 3) (GR 3) (FR 3))]) (w1 := [(mq, .inr (12, mF (upd g 2 u_9) gl rf)), (eA0 (rf 29) (ck 29) 24 f_landHas)]) hP hD [8, 9] [0, 1, 2, 3, 4, 5, 6, 7] hCc rfl (by decide +kernel) (by decide +kernel) hk1 hFc hP1 hD1
  have hfr := yF (wc := [(mq, .inr (12, mF g gl rf)), (eA0 (rf 29) (ck 29) 24 f_landHas)]) hBs [8, 9] rfl hz0 hfr hk1
  have hz0 := Nat.le_trans hz0 hz1
  generalize H1 = H at hP hS hfr hz0 ⊢
  obtain ⟨hP, hD⟩ := zre [(eO11a x pa bk xsp xdy le xst xsc xim xil xik xmo xom wi), (eO0a bk bto bnm bla bsk bru bbo bdi bda bdk bdt bdp bno), (eA0 bto cTo 5 fTo), (eA4 bla cLa 4 (fun k => some (La k))), (eO1a (La 0) (FI 0) (GR 0) (FR 0)), (eO1a (La 1) (FI 1) (GR 1) (FR 1)), (eO1a (La 2) (FI 2) (GR 2) (FR 2)), (eO1a (La 3) (FI 3) (GR 3) (FR 3)), (mq, .inr (12, mF (upd g 2 u_9) gl rf)), (eA0 (rf 29) (ck 29) 24 f_landHas)] hP hD rfl
  refine W.widen (k := ce + 0) (n := sl + 0) (by omega) (by omega) ?_
  obtain ⟨X_11, hX_11⟩ : ∃ X9 : Int32 × (Int32), X9 = (fq_months f_landHas y1 y2 y3 (g 12)) := ⟨_, rfl⟩
  have hq_r_8 : r_8 = X_11.1 := by rw [hX_11]; exact hw.1
  have hq_u_9 : u_9 = X_11.2 := by rw [hX_11]; exact hw.2
  refine lv_pop hx hb dL_law_1732 rfl ?_
  refine lv_goto (tgt := 2012) hx hb dL_law_1733 (by decide) ?_
  refine W.widen (k := ce + 1) (n := sl + 6) (by omega) (by omega) ?_
  exact kk1 r_4 hq_r_4 X_11 hX_11 r_8 hq_r_8 u_9 hq_u_9 H locs ls (hP.sub (ws' := [(eO11a x pa bk xsp xdy le xst xsc xim xil xik xmo xom wi), (eO0a bk bto bnm bla bsk bru bbo bdi bda bdk bdt bdp bno), (eA0 bto cTo 5 fTo), (eA4 bla cLa 4 (fun k => some (La k))), (eO1a (La 0) (FI 0) (GR 0) (FR 0)), (eO1a (La 1) (FI 1) (GR 1) (FR 1)), (eO1a (La 2) (FI 2) (GR 2) (FR 2)), (eO1a (La 3) (FI 3) (GR 3) (FR 3)), (mq, .inr (12, mF (upd g 2 u_9) gl rf)), (eA0 (rf 29) (ck 29) 24 f_landHas)]) [0, 1, 2, 3, 4, 5, 6, 7, 8, 9] rfl) hS (lv_sub hl [0, 1, 2, 3, 4] rfl) hz0 hfr

theorem dL_law_1736 : decode cL_law 1736 = .ok (.aload_n 1, 1) := zk_43 (by decide +kernel)
theorem dL_law_1737 : decode cL_law 1737 = .ok (.invokevirtual 140, 3) := zk_182 (by decide +kernel)
theorem dL_law_1740 : decode cL_law 1740 = .ok (.pop, 1) := zk_87 (by decide +kernel)
theorem dL_law_1741 : decode cL_law 1741 = .ok (.aload_n 2, 1) := zk_44 (by decide +kernel)
theorem dL_law_1742 : decode cL_law 1742 = .ok (.invokevirtual 144, 3) := zk_182 (by decide +kernel)
theorem dL_law_1745 : decode cL_law 1745 = .ok (.pop, 1) := zk_87 (by decide +kernel)
theorem dL_law_1746 : decode cL_law 1746 = .ok (.goto 266, 3) := zk_167 (by decide +kernel)
set_option maxHeartbeats 4000000 in
set_option maxRecDepth 100000 in
theorem law_note (l : Launch) (hst : l.stackTraces = false) {p : Program} {e : Env} {s : State} {m : MethodId} {below : List Frame} {meth : Method} {c : Code} {bs L : Nat} {xs : Nat → Int32} (C0 : lw_At p s m meth c bs L xs) (dC : Nat → ClassId) (dI : Nat → Nat → Nat) (A : Nat → Prop) (hAe : ∀ q, A q ↔ s.heap.size ≤ q) (x : Nat) (pa : Nat) (bk : Nat) (xsp : Nat) (xdy : Nat) (le : Nat) (xst : Nat) (xsc : Int32) (xim : Nat) (xil : Nat) (xik : Int32) (xmo : Nat) (xom : Nat) (wi : Nat) (cSt : ClassId) (fSt : Nat → Int32) (drw : Nat) (dfr : Int32) (dsh : Nat) (dto : Nat) (dmo : Nat) (dwi : Nat) (bto : Nat) (bnm : Nat) (bla : Nat) (bsk : Nat) (bru : Nat) (bbo : Nat) (bdi : Nat) (bda : Nat) (bdk : Nat) (bdt : Nat) (bdp : Nat) (bno : Nat) (ns : Int32) (nsa : Nat) (nfa : Nat) (nza : Nat) (cNs : ClassId) (fNs : Nat → Int32) (mq : Nat) (g : Nat → Int32) (gl : Nat → Int64) (rf : Nat → Nat) (ck : Nat → ClassId) (f_noteHas : Nat → Int32) (f_undo : Nat → Int32) (o3 : Nat) (h0_sc : ¬ xsc < 0) (h8_sc : xsc ≤ 108) (hnt0 : ¬ (g 16) < 0) (hnt2 : (g 16) ≤ 12) (hun0 : ¬ (g 59) < 0) (hun8 : (g 59) < 128) (sL : Nat → Nat)  (i : Int32)  (Bp : Nat → Prop) (H0 : Heap) (locs : List Loc) (ls : Array Slot) (ce sl : Nat) (hce : ce + 1 ≤ 601024) (hsl : sl + 6 ≤ 7293034) (hK : va_K (dC, dI) vwCl [(cSt, .int), (cNs, .int), ((ck 40), .int), ((ck 60), .int)] s) (hP : va_P (dC, dI) vwCl [(eO11a x pa bk xsp xdy le xst xsc xim xil xik xmo xom wi), (eA0 xst cSt 108 fSt), (eO5a xdy drw dfr dsh dto dmo dwi), (eO0a bk bto bnm bla bsk bru bbo bdi bda bdk bdt bdp bno), (eO6a bno ns nsa nfa nza), (eA0 nsa cNs 12 fNs), (mq, .inr (12, mF g gl rf)), (eA0 (rf 40) (ck 40) 264 f_noteHas), (eA0 (rf 60) (ck 60) 128 f_undo)] H0) (hD : va_D A [(eO11a x pa bk xsp xdy le xst xsc xim xil xik xmo xom wi), (eA0 xst cSt 108 fSt), (eO5a xdy drw dfr dsh dto dmo dwi), (eO0a bk bto bnm bla bsk bru bbo bdi bda bdk bdt bdp bno), (eO6a bno ns nsa nfa nza), (eA0 nsa cNs 12 fNs), (mq, .inr (12, mF g gl rf)), (eA0 (rf 40) (ck 40) 264 f_noteHas), (eA0 (rf 60) (ck 60) 128 f_undo)]) (hBs : yB Bp [(eO11a x pa bk xsp xdy le xst xsc xim xil xik xmo xom wi), (eA0 xst cSt 108 fSt), (eO5a xdy drw dfr dsh dto dmo dwi), (eO0a bk bto bnm bla bsk bru bbo bdi bda bdk bdt bdp bno), (eO6a bno ns nsa nfa nza), (eA0 nsa cNs 12 fNs), (mq, .inr (12, mF g gl rf)), (eA0 (rf 40) (ck 40) 264 f_noteHas), (eA0 (rf 60) (ck 60) 128 f_undo)]) (hS : va_S A s.heap H0 locs) (hl : lv_has ls 7 [(4, .int i), (3, .ref o3), (2, .ref mq), (1, .ref x), (0, .ref bs)]) (kk1 : ∀ (X_10 : Int32 × (Int32) × (Nat → Int32) × (Int32) × (Nat → Int32) × (Int32)), X_10 = (fx_note xsc fSt dfr ns fNs) → ∀ (r_1 : Int32), r_1 = X_10.1 → ∀ (u_2 : (Int32) × (Nat → Int32) × (Int32) × (Nat → Int32) × (Int32)), u_2 = X_10.2 → ∀ (X_18 : Int32 × (Int32) × (Int32) × (Int32) × (Nat → Int32) × (Nat → Int32)), X_18 = (fq_note f_noteHas f_undo (g 16) (g 59)) → ∀ (r_11 : Int32), r_11 = X_18.1 → ∀ (u_12 : (Int32) × (Int32) × (Int32) × (Nat → Int32) × (Nat → Int32)), u_12 = X_18.2 → (¬ u_2.1 < 0) → (u_2.1 ≤ 108) → ∀ (H : Heap) (locs : List Loc) (ls : Array Slot), va_P (dC, dI) vwCl [(eO11a x pa bk xsp xdy le xst u_2.1 xim xil xik xmo xom wi), (eA0 xst cSt 108 u_2.2.1), (eO5a xdy drw u_2.2.2.2.2 dsh dto dmo dwi), (eO0a bk bto bnm bla bsk bru bbo bdi bda bdk bdt bdp bno), (eO6a bno u_2.2.2.1 nsa nfa nza), (eA0 nsa cNs 12 u_2.2.2.2.1), (mq, .inr (12, mF (upd (upd (upd g 2 u_12.1) 16 u_12.2.1) 59 u_12.2.2.1) gl rf)), (eA0 (rf 40) (ck 40) 264 u_12.2.2.2.1), (eA0 (rf 60) (ck 60) 128 u_12.2.2.2.2)] H → va_S A s.heap H locs → lv_has ls 7 [(4, .int i), (3, .ref o3), (2, .ref mq), (1, .ref x), (0, .ref bs)] → H0.size ≤ H.size → (∀ q : Nat, q < H0.size → ¬ Bp q → H[q]? = H0[q]?) → W p l e room_1 s m #[Value.ref bs] below meth c H locs (ce + 1) (sl + 6) (lw_Z below #[Value.ref bs] s) (F0 m 2012 ls [])) : W p l e room_1 s m #[Value.ref bs] below meth c H0 locs ce sl (lw_Z below #[Value.ref bs] s) (F0 m 1736 ls []) := by
  obtain ⟨hx, hb, hr, hml, hown, hts, hX, hbl, hlocks, hgv⟩ := id C0
  have htw : ∀ w ∈ wsL_law, w.before _ s = true := fun w h => hts w (wsL_law_in w h)
  have hown : s.vm.findClass RL = some m.cls := hown
  have hA : ∀ q : Nat, s.heap.size ≤ q → A q := fun q h => (hAe q).mpr h
  have hbA : ¬ A bs := fun h => absurd ((hAe bs).mp h) (Nat.not_le.mpr hbl)
  obtain ⟨H, rH⟩ : ∃ z : Heap, z = H0 := ⟨_, rfl⟩
  have hfr : ∀ q : Nat, q < H0.size → ¬ Bp q → H[q]? = H0[q]? := fun q _ _ => by rw [rH]
  have hz0 : H0.size ≤ H.size := by rw [rH]; exact Nat.le_refl _
  rw [← rH] at hP hS ⊢
  refine lv_aload_n hx hb dL_law_1736 rfl (lv_at hl 3 rfl) ?_
  obtain ⟨hPc, hDc, hFc, hCc⟩ := zsub3 (ws' := [(eO11a x pa bk xsp xdy le xst xsc xim xil xik xmo xom wi), (eA0 xst cSt 108 fSt), (eO5a xdy drw dfr dsh dto dmo dwi), (eO0a bk bto bnm bla bsk bru bbo bdi bda bdk bdt bdp bno), (eO6a bno ns nsa nfa nza), (eA0 nsa cNs 12 fNs)]) hP hD hS hA [0, 1, 2, 3, 4, 5] (by decide) rfl
  have hKc := hK.sub (tys' := [(cSt, .int), (cNs, .int)]) [0, 1] rfl
  refine va_calli (va_runV (As := []) (rest := []) ⟨hx, hb, hml, hown, htw⟩ (gz_note l dC dI x pa bk xsp xdy le xst xsc xim xil xik xmo xom wi cSt fSt drw dfr dsh dto dmo dwi bto bnm bla bsk bru bbo bdi bda bdk bdt bdp bno ns nsa nfa nza cNs fNs H.size h0_sc h8_sc) (cwV 0 htw (xg_V (ck_52 _ (List.mem_of_getElem? (i := 3) rfl)) (ck_52 _ (List.mem_of_getElem? (i := 4) rfl)) (ck_52 _ (List.mem_of_getElem? (i := 5) rfl)) (ck_1 _ (List.mem_of_getElem? (i := 2) rfl)) (ck_52 _ (List.mem_of_getElem? (i := 6) rfl))) rfl rfl rfl (by exact ⟨rfl, hdc_8.1, hdc_8.2, hdd_45⟩) ⟨Nat.le_of_ble_eq_true rfl, Nat.le_of_ble_eq_true rfl⟩) ⟨fun a U g mk q => by obtain ⟨q0, q1, qP, qK, qD⟩ := q; exact ⟨q0, q1, qP, va_K.moved (u := U) (U := U.calling g mk a) (Vm.Alike.refl U.vm) qK, qD⟩, va_recv hKc hPc (ci := 11) (q0 := 0) rfl rfl, fun U hU hW => ⟨rfl, by rw [hU], by rw [hU]; exact hPc, va_K.moved hW.alike hKc, hDc.weaken (fun _ _ _ _ => trivial)⟩⟩ rfl rfl hl.1 rfl (lv_room (Nat.le_of_ble_eq_true rfl)) dL_law_1737 ⟨by first | exact Nat.le_of_ble_eq_true rfl | exact yR (n := 0) (by omega) rfl, by first | exact Nat.le_of_ble_eq_true rfl | exact yR2 (n := 0) (by omega) rfl⟩) hS (fun q _ h => hFc q h) hFc (fun r_1 u_2 t H1 locs ht hvm hw hB hz1 hk1 hS => ?_)
  try dsimp only at hw
  obtain ⟨hP1, hK1, hD1⟩ := hB
  rw [ht] at hP1
  have hK1 := va_K.moved hvm.symm hK1
  have hK1 : va_K (dC, dI) vwCl [] s := hK1
  obtain ⟨hP, hD⟩ := va_join (wr := [(mq, .inr (12, mF g gl rf)), (eA0 (rf 40) (ck 40) 264 f_noteHas), (eA0 (rf 60) (ck 60) 128 f_undo)]) (w1 := [(eO11a x pa bk xsp xdy le xst u_2.1 xim xil xik xmo xom wi), (eA0 xst cSt 108 u_2.2.1), (eO5a xdy drw u_2.2.2.2.2 dsh dto dmo dwi), (eO0a bk bto bnm bla bsk bru bbo bdi bda bdk bdt bdp bno), (eO6a bno u_2.2.2.1 nsa nfa nza), (eA0 nsa cNs 12 u_2.2.2.2.1)]) hP hD [0, 1, 2, 3, 4, 5] [6, 7, 8] hCc rfl (by decide) (by decide) hk1 hFc hP1 hD1
  have hfr := yF (wc := [(eO11a x pa bk xsp xdy le xst xsc xim xil xik xmo xom wi), (eA0 xst cSt 108 fSt), (eO5a xdy drw dfr dsh dto dmo dwi), (eO0a bk bto bnm bla bsk bru bbo bdi bda bdk bdt bdp bno), (eO6a bno ns nsa nfa nza), (eA0 nsa cNs 12 fNs)]) hBs [0, 1, 2, 3, 4, 5] rfl hz0 hfr hk1
  have hz0 := Nat.le_trans hz0 hz1
  generalize H1 = H at hP hS hfr hz0 ⊢
  obtain ⟨hP, hD⟩ := zre [(mq, .inr (12, mF g gl rf)), (eA0 (rf 40) (ck 40) 264 f_noteHas), (eA0 (rf 60) (ck 60) 128 f_undo), (eO11a x pa bk xsp xdy le xst u_2.1 xim xil xik xmo xom wi), (eA0 xst cSt 108 u_2.2.1), (eO5a xdy drw u_2.2.2.2.2 dsh dto dmo dwi), (eO0a bk bto bnm bla bsk bru bbo bdi bda bdk bdt bdp bno), (eO6a bno u_2.2.2.1 nsa nfa nza), (eA0 nsa cNs 12 u_2.2.2.2.1)] hP hD rfl
  refine W.widen (k := ce + 0) (n := sl + 0) (by omega) (by omega) ?_
  obtain ⟨hw, hp_8, hp_9⟩ := hw
  obtain ⟨X_10, hX_10⟩ : ∃ X9 : Int32 × (Int32) × (Nat → Int32) × (Int32) × (Nat → Int32) × (Int32), X9 = (fx_note xsc fSt dfr ns fNs) := ⟨_, rfl⟩
  have hq_r_1 : r_1 = X_10.1 := by rw [hX_10]; exact hw.1
  have hq_u_2 : u_2 = X_10.2 := by rw [hX_10]; exact hw.2
  refine lv_pop hx hb dL_law_1740 rfl ?_
  refine lv_aload_n hx hb dL_law_1741 rfl (lv_at hl 2 rfl) ?_
  obtain ⟨hPc, hDc, hFc, hCc⟩ := zsub3 (ws' := [(mq, .inr (12, mF g gl rf)), (eA0 (rf 40) (ck 40) 264 f_noteHas), (eA0 (rf 60) (ck 60) 128 f_undo)]) hP hD hS hA [0, 1, 2] (by decide) rfl
  have hKc := hK.sub (tys' := [((ck 40), .int), ((ck 60), .int)]) [2, 3] rfl
  refine va_calli (va_runV (As := []) (rest := []) ⟨hx, hb, hml, hown, htw⟩ (gq_note l dC dI mq g gl rf ck f_noteHas f_undo H.size hnt0 hnt2 hun0 hun8) (cwV 0 htw (xg_V (ck_52 _ (List.mem_of_getElem? (i := 10) rfl)) (ck_52 _ (List.mem_of_getElem? (i := 11) rfl)) (ck_52 _ (List.mem_of_getElem? (i := 12) rfl)) (ck_1 _ (List.mem_of_getElem? (i := 5) rfl)) (ck_52 _ (List.mem_of_getElem? (i := 13) rfl))) rfl rfl rfl (by exact ⟨rfl, hdc_14.1, hdc_14.2, hdd_45⟩) ⟨Nat.le_of_ble_eq_true rfl, Nat.le_of_ble_eq_true rfl⟩) ⟨fun a U g mk q => by obtain ⟨q0, q1, qP, qK, qD⟩ := q; exact ⟨q0, q1, qP, va_K.moved (u := U) (U := U.calling g mk a) (Vm.Alike.refl U.vm) qK, qD⟩, va_recv hKc hPc (ci := 12) (q0 := 0) rfl rfl, fun U hU hW => ⟨rfl, by rw [hU], by rw [hU]; exact hPc, va_K.moved hW.alike hKc, hDc.weaken (fun _ _ _ _ => trivial)⟩⟩ rfl rfl hl.1 rfl (lv_room (Nat.le_of_ble_eq_true rfl)) dL_law_1742 ⟨by first | exact Nat.le_of_ble_eq_true rfl | exact yR (n := 0) (by omega) rfl, by first | exact Nat.le_of_ble_eq_true rfl | exact yR2 (n := 0) (by omega) rfl⟩) hS (fun q _ h => hFc q h) hFc (fun r_11 u_12 t H1 locs ht hvm hw hB hz1 hk1 hS => ?_)
  try dsimp only at hw
  obtain ⟨hP1, hK1, hD1⟩ := hB
  rw [ht] at hP1
  have hK1 := va_K.moved hvm.symm hK1
  have hK1 : va_K (dC, dI) vwCl [] s := hK1
  obtain ⟨hP, hD⟩ := va_join (wr := [(eO11a x pa bk xsp xdy le xst u_2.1 xim xil xik xmo xom wi), (eA0 xst cSt 108 u_2.2.1), (eO5a xdy drw u_2.2.2.2.2 dsh dto dmo dwi), (eO0a bk bto bnm bla bsk bru bbo bdi bda bdk bdt bdp bno), (eO6a bno u_2.2.2.1 nsa nfa nza), (eA0 nsa cNs 12 u_2.2.2.2.1)]) (w1 := [(mq, .inr (12, mF (upd (upd (upd g 2 u_12.1) 16 u_12.2.1) 59 u_12.2.2.1) gl rf)), (eA0 (rf 40) (ck 40) 264 u_12.2.2.2.1), (eA0 (rf 60) (ck 60) 128 u_12.2.2.2.2)]) hP hD [0, 1, 2] [3, 4, 5, 6, 7, 8] hCc rfl (by decide) (by decide) hk1 hFc hP1 hD1
  have hfr := yF (wc := [(mq, .inr (12, mF g gl rf)), (eA0 (rf 40) (ck 40) 264 f_noteHas), (eA0 (rf 60) (ck 60) 128 f_undo)]) hBs [6, 7, 8] rfl hz0 hfr hk1
  have hz0 := Nat.le_trans hz0 hz1
  generalize H1 = H at hP hS hfr hz0 ⊢
  have hP : va_P (dC, dI) vwCl [(eO11a x pa bk xsp xdy le xst u_2.1 xim xil xik xmo xom wi), (eA0 xst cSt 108 u_2.2.1), (eO5a xdy drw u_2.2.2.2.2 dsh dto dmo dwi), (eO0a bk bto bnm bla bsk bru bbo bdi bda bdk bdt bdp bno), (eO6a bno u_2.2.2.1 nsa nfa nza), (eA0 nsa cNs 12 u_2.2.2.2.1), (mq, .inr (12, mF (upd (upd (upd g 2 u_12.1) 16 u_12.2.1) 59 u_12.2.2.1) gl rf)), (eA0 (rf 40) (ck 40) 264 u_12.2.2.2.1), (eA0 (rf 60) (ck 60) 128 u_12.2.2.2.2)] H := hP
  have hD : va_D A [(eO11a x pa bk xsp xdy le xst u_2.1 xim xil xik xmo xom wi), (eA0 xst cSt 108 u_2.2.1), (eO5a xdy drw u_2.2.2.2.2 dsh dto dmo dwi), (eO0a bk bto bnm bla bsk bru bbo bdi bda bdk bdt bdp bno), (eO6a bno u_2.2.2.1 nsa nfa nza), (eA0 nsa cNs 12 u_2.2.2.2.1), (mq, .inr (12, mF (upd (upd (upd g 2 u_12.1) 16 u_12.2.1) 59 u_12.2.2.1) gl rf)), (eA0 (rf 40) (ck 40) 264 u_12.2.2.2.1), (eA0 (rf 60) (ck 60) 128 u_12.2.2.2.2)] := hD
  refine W.widen (k := ce + 0) (n := sl + 0) (by omega) (by omega) ?_
  obtain ⟨X_18, hX_18⟩ : ∃ X9 : Int32 × (Int32) × (Int32) × (Int32) × (Nat → Int32) × (Nat → Int32), X9 = (fq_note f_noteHas f_undo (g 16) (g 59)) := ⟨_, rfl⟩
  have hq_r_11 : r_11 = X_18.1 := by rw [hX_18]; exact hw.1
  have hq_u_12 : u_12 = X_18.2 := by rw [hX_18]; exact hw.2
  refine lv_pop hx hb dL_law_1745 rfl ?_
  refine lv_goto (tgt := 2012) hx hb dL_law_1746 (by decide) ?_
  refine W.widen (k := ce + 1) (n := sl + 6) (by omega) (by omega) ?_
  exact kk1 X_10 hX_10 r_1 hq_r_1 u_2 hq_u_2 X_18 hX_18 r_11 hq_r_11 u_12 hq_u_12 hp_8 hp_9 H locs ls (hP.sub (ws' := [(eO11a x pa bk xsp xdy le xst u_2.1 xim xil xik xmo xom wi), (eA0 xst cSt 108 u_2.2.1), (eO5a xdy drw u_2.2.2.2.2 dsh dto dmo dwi), (eO0a bk bto bnm bla bsk bru bbo bdi bda bdk bdt bdp bno), (eO6a bno u_2.2.2.1 nsa nfa nza), (eA0 nsa cNs 12 u_2.2.2.2.1), (mq, .inr (12, mF (upd (upd (upd g 2 u_12.1) 16 u_12.2.1) 59 u_12.2.2.1) gl rf)), (eA0 (rf 40) (ck 40) 264 u_12.2.2.2.1), (eA0 (rf 60) (ck 60) 128 u_12.2.2.2.2)]) [0, 1, 2, 3, 4, 5, 6, 7, 8] rfl) hS (lv_sub hl [0, 1, 2, 3, 4] rfl) hz0 hfr

theorem dL_law_1749 : decode cL_law 1749 = .ok (.aload_n 1, 1) := zk_43 (by decide +kernel)
theorem dL_law_1750 : decode cL_law 1750 = .ok (.aload_n 0, 1) := zk_42 (by decide +kernel)
theorem dL_law_1751 : decode cL_law 1751 = .ok (.iload 4, 2) := zk_21 (by decide +kernel)
theorem dL_law_1753 : decode cL_law 1753 = .ok (.iconst 1, 1) := zk_4 (by decide +kernel)
theorem dL_law_1754 : decode cL_law 1754 = .ok (.iadd, 1) := zk_96 (by decide +kernel)
theorem dL_law_1755 : decode cL_law 1755 = .ok (.iaload, 1) := zk_46 (by decide +kernel)
theorem dL_law_1756 : decode cL_law 1756 = .ok (.aload_n 0, 1) := zk_42 (by decide +kernel)
theorem dL_law_1757 : decode cL_law 1757 = .ok (.iload 4, 2) := zk_21 (by decide +kernel)
theorem dL_law_1759 : decode cL_law 1759 = .ok (.iconst 2, 1) := zk_5 (by decide +kernel)
theorem dL_law_1760 : decode cL_law 1760 = .ok (.iadd, 1) := zk_96 (by decide +kernel)
theorem dL_law_1761 : decode cL_law 1761 = .ok (.iaload, 1) := zk_46 (by decide +kernel)
theorem dL_law_1762 : decode cL_law 1762 = .ok (.aload_n 0, 1) := zk_42 (by decide +kernel)
theorem dL_law_1763 : decode cL_law 1763 = .ok (.iload 4, 2) := zk_21 (by decide +kernel)
theorem dL_law_1765 : decode cL_law 1765 = .ok (.iconst 3, 1) := zk_6 (by decide +kernel)
theorem dL_law_1766 : decode cL_law 1766 = .ok (.iadd, 1) := zk_96 (by decide +kernel)
theorem dL_law_1767 : decode cL_law 1767 = .ok (.iaload, 1) := zk_46 (by decide +kernel)
theorem dL_law_1768 : decode cL_law 1768 = .ok (.invokevirtual 145, 3) := zk_182 (by decide +kernel)
theorem dL_law_1771 : decode cL_law 1771 = .ok (.pop, 1) := zk_87 (by decide +kernel)
theorem dL_law_1772 : decode cL_law 1772 = .ok (.aload_n 2, 1) := zk_44 (by decide +kernel)
theorem dL_law_1773 : decode cL_law 1773 = .ok (.aload_n 0, 1) := zk_42 (by decide +kernel)
theorem dL_law_1774 : decode cL_law 1774 = .ok (.iload 4, 2) := zk_21 (by decide +kernel)
theorem dL_law_1776 : decode cL_law 1776 = .ok (.iconst 1, 1) := zk_4 (by decide +kernel)
theorem dL_law_1777 : decode cL_law 1777 = .ok (.iadd, 1) := zk_96 (by decide +kernel)
theorem dL_law_1778 : decode cL_law 1778 = .ok (.iaload, 1) := zk_46 (by decide +kernel)
theorem dL_law_1779 : decode cL_law 1779 = .ok (.aload_n 0, 1) := zk_42 (by decide +kernel)
theorem dL_law_1780 : decode cL_law 1780 = .ok (.iload 4, 2) := zk_21 (by decide +kernel)
theorem dL_law_1782 : decode cL_law 1782 = .ok (.iconst 2, 1) := zk_5 (by decide +kernel)
theorem dL_law_1783 : decode cL_law 1783 = .ok (.iadd, 1) := zk_96 (by decide +kernel)
theorem dL_law_1784 : decode cL_law 1784 = .ok (.iaload, 1) := zk_46 (by decide +kernel)
theorem dL_law_1785 : decode cL_law 1785 = .ok (.aload_n 0, 1) := zk_42 (by decide +kernel)
theorem dL_law_1786 : decode cL_law 1786 = .ok (.iload 4, 2) := zk_21 (by decide +kernel)
theorem dL_law_1788 : decode cL_law 1788 = .ok (.iconst 3, 1) := zk_6 (by decide +kernel)
theorem dL_law_1789 : decode cL_law 1789 = .ok (.iadd, 1) := zk_96 (by decide +kernel)
theorem dL_law_1790 : decode cL_law 1790 = .ok (.iaload, 1) := zk_46 (by decide +kernel)
theorem dL_law_1791 : decode cL_law 1791 = .ok (.invokevirtual 149, 3) := zk_182 (by decide +kernel)
theorem dL_law_1794 : decode cL_law 1794 = .ok (.pop, 1) := zk_87 (by decide +kernel)
theorem dL_law_1795 : decode cL_law 1795 = .ok (.goto 217, 3) := zk_167 (by decide +kernel)
set_option maxHeartbeats 4000000 in
set_option maxRecDepth 100000 in
theorem law_says (l : Launch) (hst : l.stackTraces = false) {p : Program} {e : Env} {s : State} {m : MethodId} {below : List Frame} {meth : Method} {c : Code} {bs L : Nat} {xs : Nat → Int32} (C0 : lw_At p s m meth c bs L xs) (dC : Nat → ClassId) (dI : Nat → Nat → Nat) (A : Nat → Prop) (hAe : ∀ q, A q ↔ s.heap.size ≤ q) (x : Nat) (pa : Nat) (bk : Nat) (xsp : Nat) (xdy : Nat) (le : Nat) (xst : Nat) (xsc : Int32) (xim : Nat) (xil : Nat) (xik : Int32) (xmo : Nat) (xom : Nat) (wi : Nat) (cSt : ClassId) (fSt : Nat → Int32) (drw : Nat) (dfr : Int32) (dsh : Nat) (dto : Nat) (dmo : Nat) (dwi : Nat) (bto : Nat) (bnm : Nat) (bla : Nat) (bsk : Nat) (bru : Nat) (bbo : Nat) (bdi : Nat) (bda : Nat) (bdk : Nat) (bdt : Nat) (bdp : Nat) (bno : Nat) (cTo : ClassId) (fTo : Nat → Int32) (ns : Int32) (nsa : Nat) (nfa : Nat) (nza : Nat) (cNs : ClassId) (fNs : Nat → Int32) (cNf : ClassId) (fNf : Nat → Int32) (cNz : ClassId) (fNz : Nat → Int32) (mq : Nat) (g : Nat → Int32) (gl : Nat → Int64) (rf : Nat → Nat) (ck : Nat → ClassId) (f_noteHas : Nat → Int32) (f_undo : Nat → Int32) (o3 : Nat) (h0_sc : ¬ xsc < 0) (h8_sc : xsc ≤ 108) (hnt0 : ¬ (g 16) < 0) (hnt2 : (g 16) ≤ 12) (hun0 : ¬ (g 59) < 0) (hun8 : (g 59) < 128) (sL : Nat → Nat) (hXL : xl sL A s s.heap) (i y1 y2 y3 : Int32) (hi1 : vp_in (i + 1) L) (hy1 : xs (i + 1).toNatClampNeg = y1) (hi2 : vp_in (i + 2) L) (hy2 : xs (i + 2).toNatClampNeg = y2) (hi3 : vp_in (i + 3) L) (hy3 : xs (i + 3).toNatClampNeg = y3)  (Bp : Nat → Prop) (H0 : Heap) (locs : List Loc) (ls : Array Slot) (ce sl : Nat) (hce : ce + 1 ≤ 601024) (hsl : sl + 6 ≤ 7293034) (hK : va_K (dC, dI) vwCl [(cSt, .int), (cTo, .int), (cNs, .int), (cNf, .int), (cNz, .int), ((ck 40), .int), ((ck 60), .int)] s) (hP : va_P (dC, dI) vwCl [(eO11a x pa bk xsp xdy le xst xsc xim xil xik xmo xom wi), (eA0 xst cSt 108 fSt), (eO5a xdy drw dfr dsh dto dmo dwi), (eO0a bk bto bnm bla bsk bru bbo bdi bda bdk bdt bdp bno), (eA0 bto cTo 5 fTo), (eO6a bno ns nsa nfa nza), (eA0 nsa cNs 12 fNs), (eA0 nfa cNf 96 fNf), (eA0 nza cNz 96 fNz), (mq, .inr (12, mF g gl rf)), (eA0 (rf 40) (ck 40) 264 f_noteHas), (eA0 (rf 60) (ck 60) 128 f_undo)] H0) (hD : va_D A [(eO11a x pa bk xsp xdy le xst xsc xim xil xik xmo xom wi), (eA0 xst cSt 108 fSt), (eO5a xdy drw dfr dsh dto dmo dwi), (eO0a bk bto bnm bla bsk bru bbo bdi bda bdk bdt bdp bno), (eA0 bto cTo 5 fTo), (eO6a bno ns nsa nfa nza), (eA0 nsa cNs 12 fNs), (eA0 nfa cNf 96 fNf), (eA0 nza cNz 96 fNz), (mq, .inr (12, mF g gl rf)), (eA0 (rf 40) (ck 40) 264 f_noteHas), (eA0 (rf 60) (ck 60) 128 f_undo)]) (hBs : yB Bp [(eO11a x pa bk xsp xdy le xst xsc xim xil xik xmo xom wi), (eA0 xst cSt 108 fSt), (eO5a xdy drw dfr dsh dto dmo dwi), (eO0a bk bto bnm bla bsk bru bbo bdi bda bdk bdt bdp bno), (eA0 bto cTo 5 fTo), (eO6a bno ns nsa nfa nza), (eA0 nsa cNs 12 fNs), (eA0 nfa cNf 96 fNf), (eA0 nza cNz 96 fNz), (mq, .inr (12, mF g gl rf)), (eA0 (rf 40) (ck 40) 264 f_noteHas), (eA0 (rf 60) (ck 60) 128 f_undo)]) (hS : va_S A s.heap H0 locs) (hl : lv_has ls 7 [(4, .int i), (3, .ref o3), (2, .ref mq), (1, .ref x), (0, .ref bs)]) (kk1 : ∀ (X_14 : Int32 × (Int32) × (Nat → Int32) × (Int32) × (Nat → Int32) × (Nat → Int32) × (Nat → Int32)), X_14 = (fx_says xsc fSt dfr fTo ns fNs fNf fNz y1 y2 y3) → ∀ (r_4 : Int32), r_4 = X_14.1 → ∀ (u_5 : (Int32) × (Nat → Int32) × (Int32) × (Nat → Int32) × (Nat → Int32) × (Nat → Int32)), u_5 = X_14.2 → ∀ (X_24 : Int32 × (Int32) × (Int32) × (Nat → Int32) × (Nat → Int32)), X_24 = (fq_says f_noteHas f_undo y1 y2 y3 (g 13) (g 14) (g 16) (g 59)) → ∀ (r_18 : Int32), r_18 = X_24.1 → ∀ (u_19 : (Int32) × (Int32) × (Nat → Int32) × (Nat → Int32)), u_19 = X_24.2 → (¬ u_5.1 < 0) → (u_5.1 ≤ 108) → ∀ (H : Heap) (locs : List Loc) (ls : Array Slot), va_P (dC, dI) vwCl [(eO11a x pa bk xsp xdy le xst u_5.1 xim xil xik xmo xom wi), (eA0 xst cSt 108 u_5.2.1), (eO5a xdy drw u_5.2.2.1 dsh dto dmo dwi), (eO0a bk bto bnm bla bsk bru bbo bdi bda bdk bdt bdp bno), (eA0 bto cTo 5 fTo), (eO6a bno ns nsa nfa nza), (eA0 nsa cNs 12 u_5.2.2.2.1), (eA0 nfa cNf 96 u_5.2.2.2.2.1), (eA0 nza cNz 96 u_5.2.2.2.2.2), (mq, .inr (12, mF (upd (upd g 2 u_19.1) 59 u_19.2.1) gl rf)), (eA0 (rf 40) (ck 40) 264 u_19.2.2.1), (eA0 (rf 60) (ck 60) 128 u_19.2.2.2)] H → va_S A s.heap H locs → lv_has ls 7 [(4, .int i), (3, .ref o3), (2, .ref mq), (1, .ref x), (0, .ref bs)] → H0.size ≤ H.size → (∀ q : Nat, q < H0.size → ¬ Bp q → H[q]? = H0[q]?) → W p l e room_1 s m #[Value.ref bs] below meth c H locs (ce + 1) (sl + 6) (lw_Z below #[Value.ref bs] s) (F0 m 2012 ls [])) : W p l e room_1 s m #[Value.ref bs] below meth c H0 locs ce sl (lw_Z below #[Value.ref bs] s) (F0 m 1749 ls []) := by
  obtain ⟨hx, hb, hr, hml, hown, hts, hX, hbl, hlocks, hgv⟩ := id C0
  have htw : ∀ w ∈ wsL_law, w.before _ s = true := fun w h => hts w (wsL_law_in w h)
  have hown : s.vm.findClass RL = some m.cls := hown
  have hA : ∀ q : Nat, s.heap.size ≤ q → A q := fun q h => (hAe q).mpr h
  have hbA : ¬ A bs := fun h => absurd ((hAe bs).mp h) (Nat.not_le.mpr hbl)
  obtain ⟨H, rH⟩ : ∃ z : Heap, z = H0 := ⟨_, rfl⟩
  have hfr : ∀ q : Nat, q < H0.size → ¬ Bp q → H[q]? = H0[q]? := fun q _ _ => by rw [rH]
  have hz0 : H0.size ≤ H.size := by rw [rH]; exact Nat.le_refl _
  rw [← rH] at hP hS ⊢
  refine lv_aload_n hx hb dL_law_1749 rfl (lv_at hl 3 rfl) ?_
  refine lv_aload_n hx hb dL_law_1750 rfl (lv_at hl 4 rfl) ?_
  refine lv_iload hx hb dL_law_1751 (lv_at hl 0 rfl) ?_
  refine lv_iconst (v := 1) hx hb dL_law_1753 (by decide) ?_
  refine lv_iadd hx hb dL_law_1754 ?_
  refine va_sld hx hb hX hbl hbA hS hi1 dL_law_1755 ?_
  rw [hy1]
  refine lv_aload_n hx hb dL_law_1756 rfl (lv_at hl 4 rfl) ?_
  refine lv_iload hx hb dL_law_1757 (lv_at hl 0 rfl) ?_
  refine lv_iconst (v := 2) hx hb dL_law_1759 (by decide) ?_
  refine lv_iadd hx hb dL_law_1760 ?_
  refine va_sld hx hb hX hbl hbA hS hi2 dL_law_1761 ?_
  rw [hy2]
  refine lv_aload_n hx hb dL_law_1762 rfl (lv_at hl 4 rfl) ?_
  refine lv_iload hx hb dL_law_1763 (lv_at hl 0 rfl) ?_
  refine lv_iconst (v := 3) hx hb dL_law_1765 (by decide) ?_
  refine lv_iadd hx hb dL_law_1766 ?_
  refine va_sld hx hb hX hbl hbA hS hi3 dL_law_1767 ?_
  rw [hy3]
  obtain ⟨hPc, hDc, hFc, hCc⟩ := zsub3 (ws' := [(eO11a x pa bk xsp xdy le xst xsc xim xil xik xmo xom wi), (eA0 xst cSt 108 fSt), (eO5a xdy drw dfr dsh dto dmo dwi), (eO0a bk bto bnm bla bsk bru bbo bdi bda bdk bdt bdp bno), (eA0 bto cTo 5 fTo), (eO6a bno ns nsa nfa nza), (eA0 nsa cNs 12 fNs), (eA0 nfa cNf 96 fNf), (eA0 nza cNz 96 fNz)]) hP hD hS hA [0, 1, 2, 3, 4, 5, 6, 7, 8] (by decide +kernel) rfl
  have hKc := hK.sub (tys' := [(cSt, .int), (cTo, .int), (cNs, .int), (cNf, .int), (cNz, .int)]) [0, 1, 2, 3, 4] rfl
  refine va_calli (va_runV (As := [.int y1, .int y2, .int y3]) (rest := []) ⟨hx, hb, hml, hown, htw⟩ (gx_says l hst dC dI x pa bk xsp xdy le xst xsc xim xil xik xmo xom wi cSt fSt drw dfr dsh dto dmo dwi bto bnm bla bsk bru bbo bdi bda bdk bdt bdp bno cTo fTo ns nsa nfa nza cNs fNs cNf fNf cNz fNz y1 y2 y3 sL H.size h0_sc h8_sc) (cwV 3 htw (xg_V (ck_52 _ (List.mem_of_getElem? (i := 14) rfl)) (ck_52 _ (List.mem_of_getElem? (i := 15) rfl)) (ck_52 _ (List.mem_of_getElem? (i := 16) rfl)) (ck_1 _ (List.mem_of_getElem? (i := 2) rfl)) (ck_52 _ (List.mem_of_getElem? (i := 17) rfl))) rfl rfl rfl (by exact ⟨rfl, hdc_8.1, hdc_8.2, hdd_38⟩) ⟨Nat.le_of_ble_eq_true rfl, Nat.le_of_ble_eq_true rfl⟩) ⟨fun a U g mk q => by obtain ⟨q0, q1, qP, qK, qD, qx0⟩ := q; exact ⟨q0, q1, qP, va_K.moved (u := U) (U := U.calling g mk a) (Vm.Alike.refl U.vm) qK, qD, xl.calling qx0⟩, va_recv hKc hPc (ci := 11) (q0 := 0) rfl rfl, fun U hU hW => ⟨rfl, by rw [hU], by rw [hU]; exact hPc, va_K.moved hW.alike hKc, hDc.weaken (fun _ _ _ _ => trivial), by rw [hU]; exact xl.warm hW ((xl.kept hXL hS.2.1).narrow hFc)⟩⟩ rfl rfl hl.1 rfl (lv_room (Nat.le_of_ble_eq_true rfl)) dL_law_1768 ⟨by first | exact Nat.le_of_ble_eq_true rfl | exact yR (n := 0) (by omega) rfl, by first | exact Nat.le_of_ble_eq_true rfl | exact yR2 (n := 0) (by omega) rfl⟩) hS (fun q _ h => hFc q h) hFc (fun r_4 u_5 t H1 locs ht hvm hw hB hz1 hk1 hS => ?_)
  try dsimp only at hw
  obtain ⟨hP1, hK1, hD1⟩ := hB
  rw [ht] at hP1
  have hK1 := va_K.moved hvm.symm hK1
  have hK1 : va_K (dC, dI) vwCl [] s := hK1
  obtain ⟨hP, hD⟩ := va_join (wr := [(mq, .inr (12, mF g gl rf)), (eA0 (rf 40) (ck 40) 264 f_noteHas), (eA0 (rf 60) (ck 60) 128 f_undo)]) (w1 := [(eO11a x pa bk xsp xdy le xst u_5.1 xim xil xik xmo xom wi), (eA0 xst cSt 108 u_5.2.1), (eO5a xdy drw u_5.2.2.1 dsh dto dmo dwi), (eO0a bk bto bnm bla bsk bru bbo bdi bda bdk bdt bdp bno), (eA0 bto cTo 5 fTo), (eO6a bno ns nsa nfa nza), (eA0 nsa cNs 12 u_5.2.2.2.1), (eA0 nfa cNf 96 u_5.2.2.2.2.1), (eA0 nza cNz 96 u_5.2.2.2.2.2)]) hP hD [0, 1, 2, 3, 4, 5, 6, 7, 8] [9, 10, 11] hCc rfl (by decide +kernel) (by decide +kernel) hk1 hFc hP1 hD1
  have hfr := yF (wc := [(eO11a x pa bk xsp xdy le xst xsc xim xil xik xmo xom wi), (eA0 xst cSt 108 fSt), (eO5a xdy drw dfr dsh dto dmo dwi), (eO0a bk bto bnm bla bsk bru bbo bdi bda bdk bdt bdp bno), (eA0 bto cTo 5 fTo), (eO6a bno ns nsa nfa nza), (eA0 nsa cNs 12 fNs), (eA0 nfa cNf 96 fNf), (eA0 nza cNz 96 fNz)]) hBs [0, 1, 2, 3, 4, 5, 6, 7, 8] rfl hz0 hfr hk1
  have hz0 := Nat.le_trans hz0 hz1
  generalize H1 = H at hP hS hfr hz0 ⊢
  obtain ⟨hP, hD⟩ := zre [(mq, .inr (12, mF g gl rf)), (eA0 (rf 40) (ck 40) 264 f_noteHas), (eA0 (rf 60) (ck 60) 128 f_undo), (eO11a x pa bk xsp xdy le xst u_5.1 xim xil xik xmo xom wi), (eA0 xst cSt 108 u_5.2.1), (eO5a xdy drw u_5.2.2.1 dsh dto dmo dwi), (eO0a bk bto bnm bla bsk bru bbo bdi bda bdk bdt bdp bno), (eA0 bto cTo 5 fTo), (eO6a bno ns nsa nfa nza), (eA0 nsa cNs 12 u_5.2.2.2.1), (eA0 nfa cNf 96 u_5.2.2.2.2.1), (eA0 nza cNz 96 u_5.2.2.2.2.2)] hP hD rfl
  refine W.widen (k := ce + 0) (n := sl + 0) (by omega) (by omega) ?_
  obtain ⟨hw, hb_r_4, hp_12, hp_13⟩ := hw
  obtain ⟨X_14, hX_14⟩ : ∃ X9 : Int32 × (Int32) × (Nat → Int32) × (Int32) × (Nat → Int32) × (Nat → Int32) × (Nat → Int32), X9 = (fx_says xsc fSt dfr fTo ns fNs fNf fNz y1 y2 y3) := ⟨_, rfl⟩
  have hq_r_4 : r_4 = X_14.1 := by rw [hX_14]; exact hw.1
  have hq_u_5 : u_5 = X_14.2 := by rw [hX_14]; exact hw.2
  refine lv_pop hx hb dL_law_1771 rfl ?_
  refine lv_aload_n hx hb dL_law_1772 rfl (lv_at hl 2 rfl) ?_
  refine lv_aload_n hx hb dL_law_1773 rfl (lv_at hl 4 rfl) ?_
  refine lv_iload hx hb dL_law_1774 (lv_at hl 0 rfl) ?_
  refine lv_iconst (v := 1) hx hb dL_law_1776 (by decide) ?_
  refine lv_iadd hx hb dL_law_1777 ?_
  refine va_sld hx hb hX hbl hbA hS hi1 dL_law_1778 ?_
  rw [hy1]
  refine lv_aload_n hx hb dL_law_1779 rfl (lv_at hl 4 rfl) ?_
  refine lv_iload hx hb dL_law_1780 (lv_at hl 0 rfl) ?_
  refine lv_iconst (v := 2) hx hb dL_law_1782 (by decide) ?_
  refine lv_iadd hx hb dL_law_1783 ?_
  refine va_sld hx hb hX hbl hbA hS hi2 dL_law_1784 ?_
  rw [hy2]
  refine lv_aload_n hx hb dL_law_1785 rfl (lv_at hl 4 rfl) ?_
  refine lv_iload hx hb dL_law_1786 (lv_at hl 0 rfl) ?_
  refine lv_iconst (v := 3) hx hb dL_law_1788 (by decide) ?_
  refine lv_iadd hx hb dL_law_1789 ?_
  refine va_sld hx hb hX hbl hbA hS hi3 dL_law_1790 ?_
  rw [hy3]
  obtain ⟨hPc, hDc, hFc, hCc⟩ := zsub3 (ws' := [(mq, .inr (12, mF g gl rf)), (eA0 (rf 40) (ck 40) 264 f_noteHas), (eA0 (rf 60) (ck 60) 128 f_undo)]) hP hD hS hA [0, 1, 2] (by decide) rfl
  have hKc := hK.sub (tys' := [((ck 40), .int), ((ck 60), .int)]) [5, 6] rfl
  refine va_calli (va_runV (As := [.int y1, .int y2, .int y3]) (rest := []) ⟨hx, hb, hml, hown, htw⟩ (gq_says l dC dI mq g gl rf ck f_noteHas f_undo y1 y2 y3 H.size hnt0 hnt2 hun0 hun8) (cwV 3 htw (xg_V (ck_53 _ (List.mem_of_getElem? (i := 2) rfl)) (ck_53 _ (List.mem_of_getElem? (i := 3) rfl)) (ck_53 _ (List.mem_of_getElem? (i := 4) rfl)) (ck_1 _ (List.mem_of_getElem? (i := 5) rfl)) (ck_53 _ (List.mem_of_getElem? (i := 5) rfl))) rfl rfl rfl (by exact ⟨rfl, hdc_14.1, hdc_14.2, hdd_38⟩) ⟨Nat.le_of_ble_eq_true rfl, Nat.le_of_ble_eq_true rfl⟩) ⟨fun a U g mk q => by obtain ⟨q0, q1, qP, qK, qD⟩ := q; exact ⟨q0, q1, qP, va_K.moved (u := U) (U := U.calling g mk a) (Vm.Alike.refl U.vm) qK, qD⟩, va_recv hKc hPc (ci := 12) (q0 := 0) rfl rfl, fun U hU hW => ⟨rfl, by rw [hU], by rw [hU]; exact hPc, va_K.moved hW.alike hKc, hDc.weaken (fun _ _ _ _ => trivial)⟩⟩ rfl rfl hl.1 rfl (lv_room (Nat.le_of_ble_eq_true rfl)) dL_law_1791 ⟨by first | exact Nat.le_of_ble_eq_true rfl | exact yR (n := 0) (by omega) rfl, by first | exact Nat.le_of_ble_eq_true rfl | exact yR2 (n := 0) (by omega) rfl⟩) hS (fun q _ h => hFc q h) hFc (fun r_18 u_19 t H1 locs ht hvm hw hB hz1 hk1 hS => ?_)
  try dsimp only at hw
  obtain ⟨hP1, hK1, hD1⟩ := hB
  rw [ht] at hP1
  have hK1 := va_K.moved hvm.symm hK1
  have hK1 : va_K (dC, dI) vwCl [] s := hK1
  obtain ⟨hP, hD⟩ := va_join (wr := [(eO11a x pa bk xsp xdy le xst u_5.1 xim xil xik xmo xom wi), (eA0 xst cSt 108 u_5.2.1), (eO5a xdy drw u_5.2.2.1 dsh dto dmo dwi), (eO0a bk bto bnm bla bsk bru bbo bdi bda bdk bdt bdp bno), (eA0 bto cTo 5 fTo), (eO6a bno ns nsa nfa nza), (eA0 nsa cNs 12 u_5.2.2.2.1), (eA0 nfa cNf 96 u_5.2.2.2.2.1), (eA0 nza cNz 96 u_5.2.2.2.2.2)]) (w1 := [(mq, .inr (12, mF (upd (upd g 2 u_19.1) 59 u_19.2.1) gl rf)), (eA0 (rf 40) (ck 40) 264 u_19.2.2.1), (eA0 (rf 60) (ck 60) 128 u_19.2.2.2)]) hP hD [0, 1, 2] [3, 4, 5, 6, 7, 8, 9, 10, 11] hCc rfl (by decide +kernel) (by decide +kernel) hk1 hFc hP1 hD1
  have hfr := yF (wc := [(mq, .inr (12, mF g gl rf)), (eA0 (rf 40) (ck 40) 264 f_noteHas), (eA0 (rf 60) (ck 60) 128 f_undo)]) hBs [9, 10, 11] rfl hz0 hfr hk1
  have hz0 := Nat.le_trans hz0 hz1
  generalize H1 = H at hP hS hfr hz0 ⊢
  have hP : va_P (dC, dI) vwCl [(eO11a x pa bk xsp xdy le xst u_5.1 xim xil xik xmo xom wi), (eA0 xst cSt 108 u_5.2.1), (eO5a xdy drw u_5.2.2.1 dsh dto dmo dwi), (eO0a bk bto bnm bla bsk bru bbo bdi bda bdk bdt bdp bno), (eA0 bto cTo 5 fTo), (eO6a bno ns nsa nfa nza), (eA0 nsa cNs 12 u_5.2.2.2.1), (eA0 nfa cNf 96 u_5.2.2.2.2.1), (eA0 nza cNz 96 u_5.2.2.2.2.2), (mq, .inr (12, mF (upd (upd g 2 u_19.1) 59 u_19.2.1) gl rf)), (eA0 (rf 40) (ck 40) 264 u_19.2.2.1), (eA0 (rf 60) (ck 60) 128 u_19.2.2.2)] H := hP
  have hD : va_D A [(eO11a x pa bk xsp xdy le xst u_5.1 xim xil xik xmo xom wi), (eA0 xst cSt 108 u_5.2.1), (eO5a xdy drw u_5.2.2.1 dsh dto dmo dwi), (eO0a bk bto bnm bla bsk bru bbo bdi bda bdk bdt bdp bno), (eA0 bto cTo 5 fTo), (eO6a bno ns nsa nfa nza), (eA0 nsa cNs 12 u_5.2.2.2.1), (eA0 nfa cNf 96 u_5.2.2.2.2.1), (eA0 nza cNz 96 u_5.2.2.2.2.2), (mq, .inr (12, mF (upd (upd g 2 u_19.1) 59 u_19.2.1) gl rf)), (eA0 (rf 40) (ck 40) 264 u_19.2.2.1), (eA0 (rf 60) (ck 60) 128 u_19.2.2.2)] := hD
  refine W.widen (k := ce + 0) (n := sl + 0) (by omega) (by omega) ?_
  obtain ⟨hw, hb_r_18⟩ := hw
  obtain ⟨X_24, hX_24⟩ : ∃ X9 : Int32 × (Int32) × (Int32) × (Nat → Int32) × (Nat → Int32), X9 = (fq_says f_noteHas f_undo y1 y2 y3 (g 13) (g 14) (g 16) (g 59)) := ⟨_, rfl⟩
  have hq_r_18 : r_18 = X_24.1 := by rw [hX_24]; exact hw.1
  have hq_u_19 : u_19 = X_24.2 := by rw [hX_24]; exact hw.2
  refine lv_pop hx hb dL_law_1794 rfl ?_
  refine lv_goto (tgt := 2012) hx hb dL_law_1795 (by decide) ?_
  refine W.widen (k := ce + 1) (n := sl + 6) (by omega) (by omega) ?_
  exact kk1 X_14 hX_14 r_4 hq_r_4 u_5 hq_u_5 X_24 hX_24 r_18 hq_r_18 u_19 hq_u_19 hp_12 hp_13 H locs ls (hP.sub (ws' := [(eO11a x pa bk xsp xdy le xst u_5.1 xim xil xik xmo xom wi), (eA0 xst cSt 108 u_5.2.1), (eO5a xdy drw u_5.2.2.1 dsh dto dmo dwi), (eO0a bk bto bnm bla bsk bru bbo bdi bda bdk bdt bdp bno), (eA0 bto cTo 5 fTo), (eO6a bno ns nsa nfa nza), (eA0 nsa cNs 12 u_5.2.2.2.1), (eA0 nfa cNf 96 u_5.2.2.2.2.1), (eA0 nza cNz 96 u_5.2.2.2.2.2), (mq, .inr (12, mF (upd (upd g 2 u_19.1) 59 u_19.2.1) gl rf)), (eA0 (rf 40) (ck 40) 264 u_19.2.2.1), (eA0 (rf 60) (ck 60) 128 u_19.2.2.2)]) [0, 1, 2, 3, 4, 5, 6, 7, 8, 9, 10, 11] rfl) hS (lv_sub hl [0, 1, 2, 3, 4] rfl) hz0 hfr
