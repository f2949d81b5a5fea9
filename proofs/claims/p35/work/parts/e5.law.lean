theorem dL_law_1127 : decode cL_law 1127 = .ok (.aload_n 1, 1) := zk_43 (by decide +kernel)
theorem dL_law_1128 : decode cL_law 1128 = .ok (.aload_n 0, 1) := zk_42 (by decide +kernel)
theorem dL_law_1129 : decode cL_law 1129 = .ok (.iload 4, 2) := zk_21 (by decide +kernel)
theorem dL_law_1131 : decode cL_law 1131 = .ok (.iconst 1, 1) := zk_4 (by decide +kernel)
theorem dL_law_1132 : decode cL_law 1132 = .ok (.iadd, 1) := zk_96 (by decide +kernel)
theorem dL_law_1133 : decode cL_law 1133 = .ok (.iaload, 1) := zk_46 (by decide +kernel)
theorem dL_law_1134 : decode cL_law 1134 = .ok (.aload_n 0, 1) := zk_42 (by decide +kernel)
theorem dL_law_1135 : decode cL_law 1135 = .ok (.iload 4, 2) := zk_21 (by decide +kernel)
theorem dL_law_1137 : decode cL_law 1137 = .ok (.iconst 2, 1) := zk_5 (by decide +kernel)
theorem dL_law_1138 : decode cL_law 1138 = .ok (.iadd, 1) := zk_96 (by decide +kernel)
theorem dL_law_1139 : decode cL_law 1139 = .ok (.iaload, 1) := zk_46 (by decide +kernel)
theorem dL_law_1140 : decode cL_law 1140 = .ok (.invokevirtual 98, 3) := zk_182 (by decide +kernel)
theorem dL_law_1143 : decode cL_law 1143 = .ok (.pop2, 1) := zk_88 (by decide +kernel)
theorem dL_law_1144 : decode cL_law 1144 = .ok (.aload_n 2, 1) := zk_44 (by decide +kernel)
theorem dL_law_1145 : decode cL_law 1145 = .ok (.aload_n 0, 1) := zk_42 (by decide +kernel)
theorem dL_law_1146 : decode cL_law 1146 = .ok (.iload 4, 2) := zk_21 (by decide +kernel)
theorem dL_law_1148 : decode cL_law 1148 = .ok (.iconst 1, 1) := zk_4 (by decide +kernel)
theorem dL_law_1149 : decode cL_law 1149 = .ok (.iadd, 1) := zk_96 (by decide +kernel)
theorem dL_law_1150 : decode cL_law 1150 = .ok (.iaload, 1) := zk_46 (by decide +kernel)
theorem dL_law_1151 : decode cL_law 1151 = .ok (.aload_n 0, 1) := zk_42 (by decide +kernel)
theorem dL_law_1152 : decode cL_law 1152 = .ok (.iload 4, 2) := zk_21 (by decide +kernel)
theorem dL_law_1154 : decode cL_law 1154 = .ok (.iconst 2, 1) := zk_5 (by decide +kernel)
theorem dL_law_1155 : decode cL_law 1155 = .ok (.iadd, 1) := zk_96 (by decide +kernel)
theorem dL_law_1156 : decode cL_law 1156 = .ok (.iaload, 1) := zk_46 (by decide +kernel)
theorem dL_law_1157 : decode cL_law 1157 = .ok (.invokevirtual 101, 3) := zk_182 (by decide +kernel)
theorem dL_law_1160 : decode cL_law 1160 = .ok (.pop2, 1) := zk_88 (by decide +kernel)
theorem dL_law_1161 : decode cL_law 1161 = .ok (.goto 851, 3) := zk_167 (by decide +kernel)
set_option maxHeartbeats 4000000 in
set_option maxRecDepth 100000 in
theorem law_springs (l : Launch) (hst : l.stackTraces = false) {p : Program} {e : Env} {s : State} {m : MethodId} {below : List Frame} {meth : Method} {c : Code} {bs L : Nat} {xs : Nat → Int32} (C0 : lw_At p s m meth c bs L xs) (dC : Nat → ClassId) (dI : Nat → Nat → Nat) (A : Nat → Prop) (hAe : ∀ q, A q ↔ s.heap.size ≤ q) (x : Nat) (pa : Nat) (bk : Nat) (xsp : Nat) (xdy : Nat) (le : Nat) (xst : Nat) (xsc : Int32) (xim : Nat) (xil : Nat) (xik : Int32) (xmo : Nat) (xom : Nat) (wi : Nat) (bto : Nat) (bnm : Nat) (bla : Nat) (bsk : Nat) (bru : Nat) (bbo : Nat) (bdi : Nat) (bda : Nat) (bdk : Nat) (bdt : Nat) (bdp : Nat) (bno : Nat) (cTo : ClassId) (fTo : Nat → Int32) (cLa : ClassId) (La : Nat → Nat) (FI : Nat → Int32) (GR : Nat → Int32) (FR : Nat → Int32) (wd : Int32) (wf : Int32) (mp : Int32) (mb : Int32) (mo : Int32) (sp : Int32) (sb : Int32) (mq : Nat) (g : Nat → Int32) (gl : Nat → Int64) (rf : Nat → Nat) (ck : Nat → ClassId) (f_sky : Nat → Int32) (f_landHas : Nat → Int32) (o3 : Nat) (hln0 : ¬ (g 12) < 0) (hln4 : (g 12) ≤ 4) (hs5 : ¬ (f_sky 5) < 1) (sL : Nat → Nat) (hNx : xN s) (i y1 y2 : Int32) (hi1 : vp_in (i + 1) L) (hy1 : xs (i + 1).toNatClampNeg = y1) (hi2 : vp_in (i + 2) L) (hy2 : xs (i + 2).toNatClampNeg = y2)  (Bp : Nat → Prop) (H0 : Heap) (locs : List Loc) (ls : Array Slot) (ce sl : Nat) (hce : ce + 1 ≤ 601024) (hsl : sl + 6 ≤ 7293034) (hK : va_K (dC, dI) vwCl [(cTo, .int), (cLa, .object RX1), ((ck 24), .int), ((ck 29), .int)] s) (hP : va_P (dC, dI) vwCl [(eO11a x pa bk xsp xdy le xst xsc xim xil xik xmo xom wi), (eO0a bk bto bnm bla bsk bru bbo bdi bda bdk bdt bdp bno), (eA0 bto cTo 5 fTo), (eA4 bla cLa 4 (fun k => some (La k))), (eO1a (La 0) (FI 0) (GR 0) (FR 0)), (eO1a (La 1) (FI 1) (GR 1) (FR 1)), (eO1a (La 2) (FI 2) (GR 2) (FR 2)), (eO1a (La 3) (FI 3) (GR 3) (FR 3)), (eO9a bsk wd wf mp mb mo sp sb), (mq, .inr (12, mF g gl rf)), (eA0 (rf 24) (ck 24) 14 f_sky), (eA0 (rf 29) (ck 29) 24 f_landHas)] H0) (hD : va_D A [(eO11a x pa bk xsp xdy le xst xsc xim xil xik xmo xom wi), (eO0a bk bto bnm bla bsk bru bbo bdi bda bdk bdt bdp bno), (eA0 bto cTo 5 fTo), (eA4 bla cLa 4 (fun k => some (La k))), (eO1a (La 0) (FI 0) (GR 0) (FR 0)), (eO1a (La 1) (FI 1) (GR 1) (FR 1)), (eO1a (La 2) (FI 2) (GR 2) (FR 2)), (eO1a (La 3) (FI 3) (GR 3) (FR 3)), (eO9a bsk wd wf mp mb mo sp sb), (mq, .inr (12, mF g gl rf)), (eA0 (rf 24) (ck 24) 14 f_sky), (eA0 (rf 29) (ck 29) 24 f_landHas)]) (hBs : yB Bp [(eO11a x pa bk xsp xdy le xst xsc xim xil xik xmo xom wi), (eO0a bk bto bnm bla bsk bru bbo bdi bda bdk bdt bdp bno), (eA0 bto cTo 5 fTo), (eA4 bla cLa 4 (fun k => some (La k))), (eO1a (La 0) (FI 0) (GR 0) (FR 0)), (eO1a (La 1) (FI 1) (GR 1) (FR 1)), (eO1a (La 2) (FI 2) (GR 2) (FR 2)), (eO1a (La 3) (FI 3) (GR 3) (FR 3)), (eO9a bsk wd wf mp mb mo sp sb), (mq, .inr (12, mF g gl rf)), (eA0 (rf 24) (ck 24) 14 f_sky), (eA0 (rf 29) (ck 29) 24 f_landHas)]) (hS : va_S A s.heap H0 locs) (hl : lv_has ls 7 [(4, .int i), (3, .ref o3), (2, .ref mq), (1, .ref x), (0, .ref bs)]) (kk1 : ∀ (r_3 : Int64), r_3 = (fx_springs fTo FI GR FR wd wf mp mb mo sp sb y1 y2) → ∀ (X_9 : Int64 × (Int32)), X_9 = (fq_springs f_sky f_landHas y1 y2 (g 12)) → ∀ (r_6 : Int64), r_6 = X_9.1 → ∀ (u_7 : (Int32)), u_7 = X_9.2 → ∀ (H : Heap) (locs : List Loc) (ls : Array Slot), va_P (dC, dI) vwCl [(eO11a x pa bk xsp xdy le xst xsc xim xil xik xmo xom wi), (eO0a bk bto bnm bla bsk bru bbo bdi bda bdk bdt bdp bno), (eA0 bto cTo 5 fTo), (eA4 bla cLa 4 (fun k => some (La k))), (eO1a (La 0) (FI 0) (GR 0) (FR 0)), (eO1a (La 1) (FI 1) (GR 1) (FR 1)), (eO1a (La 2) (FI 2) (GR 2) (FR 2)), (eO1a (La 3) (FI 3) (GR 3) (FR 3)), (eO9a bsk wd wf mp mb mo sp sb), (mq, .inr (12, mF (upd g 2 u_7) gl rf)), (eA0 (rf 24) (ck 24) 14 f_sky), (eA0 (rf 29) (ck 29) 24 f_landHas)] H → va_S A s.heap H locs → lv_has ls 7 [(4, .int i), (3, .ref o3), (2, .ref mq), (1, .ref x), (0, .ref bs)] → H0.size ≤ H.size → (∀ q : Nat, q < H0.size → ¬ Bp q → H[q]? = H0[q]?) → W p l e room_1 s m #[Value.ref bs] below meth c H locs (ce + 1) (sl + 6) (lw_Z below #[Value.ref bs] s) (F0 m 2012 ls [])) : W p l e room_1 s m #[Value.ref bs] below meth c H0 locs ce sl (lw_Z below #[Value.ref bs] s) (F0 m 1127 ls []) := by
  obtain ⟨hx, hb, hr, hml, hown, hts, hX, hbl, hlocks, hgv⟩ := id C0
  have htw : ∀ w ∈ wsL_law, w.before _ s = true := fun w h => hts w (wsL_law_in w h)
  have hown : s.vm.findClass RL = some m.cls := hown
  have hA : ∀ q : Nat, s.heap.size ≤ q → A q := fun q h => (hAe q).mpr h
  have hbA : ¬ A bs := fun h => absurd ((hAe bs).mp h) (Nat.not_le.mpr hbl)
  obtain ⟨H, rH⟩ : ∃ z : Heap, z = H0 := ⟨_, rfl⟩
  have hfr : ∀ q : Nat, q < H0.size → ¬ Bp q → H[q]? = H0[q]? := fun q _ _ => by rw [rH]
  have hz0 : H0.size ≤ H.size := by rw [rH]; exact Nat.le_refl _
  rw [← rH] at hP hS ⊢
  refine lv_aload_n hx hb dL_law_1127 rfl (lv_at hl 3 rfl) ?_
  refine lv_aload_n hx hb dL_law_1128 rfl (lv_at hl 4 rfl) ?_
  refine lv_iload hx hb dL_law_1129 (lv_at hl 0 rfl) ?_
  refine lv_iconst (v := 1) hx hb dL_law_1131 (by decide) ?_
  refine lv_iadd hx hb dL_law_1132 ?_
  refine va_sld hx hb hX hbl hbA hS hi1 dL_law_1133 ?_
  rw [hy1]
  refine lv_aload_n hx hb dL_law_1134 rfl (lv_at hl 4 rfl) ?_
  refine lv_iload hx hb dL_law_1135 (lv_at hl 0 rfl) ?_
  refine lv_iconst (v := 2) hx hb dL_law_1137 (by decide) ?_
  refine lv_iadd hx hb dL_law_1138 ?_
  refine va_sld hx hb hX hbl hbA hS hi2 dL_law_1139 ?_
  rw [hy2]
  have hPc := hP.sub (ws' := [(eO11a x pa bk xsp xdy le xst xsc xim xil xik xmo xom wi), (eO0a bk bto bnm bla bsk bru bbo bdi bda bdk bdt bdp bno), (eA0 bto cTo 5 fTo), (eA4 bla cLa 4 (fun k => some (La k))), (eO1a (La 0) (FI 0) (GR 0) (FR 0)), (eO1a (La 1) (FI 1) (GR 1) (FR 1)), (eO1a (La 2) (FI 2) (GR 2) (FR 2)), (eO1a (La 3) (FI 3) (GR 3) (FR 3)), (eO9a bsk wd wf mp mb mo sp sb)]) [0, 1, 2, 3, 4, 5, 6, 7, 8] rfl
  have hKc := hK.sub (tys' := [(cTo, .int), (cLa, .object RX1)]) [0, 1] rfl
  refine vp_callSl (W.runV (As := [.int y1, .int y2]) (rest := []) ⟨hx, hb, hml, hown, htw⟩ (gx_springs l dC dI x pa bk xsp xdy le xst xsc xim xil xik xmo xom wi bto bnm bla bsk bru bbo bdi bda bdk bdt bdp bno cTo fTo cLa La FI GR FR wd wf mp mb mo sp sb y1 y2) (cwV 2 htw (xg_V (ck_46 _ (List.mem_of_getElem? (i := 16) rfl)) (ck_46 _ (List.mem_of_getElem? (i := 17) rfl)) (ck_46 _ (List.mem_of_getElem? (i := 18) rfl)) (ck_1 _ (List.mem_of_getElem? (i := 2) rfl)) (ck_46 _ (List.mem_of_getElem? (i := 19) rfl))) rfl rfl rfl (by exact ⟨rfl, hdc_8.1, hdc_8.2, hdd_25⟩) ⟨Nat.le_of_ble_eq_true rfl, Nat.le_of_ble_eq_true rfl⟩) ⟨fun a U g mk q => by obtain ⟨q0, qP, qK, qx⟩ := q; exact ⟨q0, qP, va_K.moved (u := U) (U := U.calling g mk a) (Vm.Alike.refl U.vm) qK, xN.calling qx⟩, va_recv hKc hPc (ci := 11) (q0 := 0) rfl rfl, fun U hU hW => ⟨rfl, by rw [hU]; exact hPc, va_K.moved hW.alike hKc, xN.warm hW hNx⟩⟩ rfl rfl hl.1 rfl (lv_room (Nat.le_of_ble_eq_true rfl)) dL_law_1140 ⟨by first | exact Nat.le_of_ble_eq_true rfl | exact yR (n := 0) (by omega) rfl, by first | exact Nat.le_of_ble_eq_true rfl | exact yR2 (n := 0) (by omega) rfl⟩) (fun r_3 hw => ?_)
  try dsimp only at hw
  have hq_r_3 : r_3 = (fx_springs fTo FI GR FR wd wf mp mb mo sp sb y1 y2) := hw
  refine lv_pop2_2 hx hb dL_law_1143 rfl ?_
  refine lv_aload_n hx hb dL_law_1144 rfl (lv_at hl 2 rfl) ?_
  refine lv_aload_n hx hb dL_law_1145 rfl (lv_at hl 4 rfl) ?_
  refine lv_iload hx hb dL_law_1146 (lv_at hl 0 rfl) ?_
  refine lv_iconst (v := 1) hx hb dL_law_1148 (by decide) ?_
  refine lv_iadd hx hb dL_law_1149 ?_
  refine va_sld hx hb hX hbl hbA hS hi1 dL_law_1150 ?_
  rw [hy1]
  refine lv_aload_n hx hb dL_law_1151 rfl (lv_at hl 4 rfl) ?_
  refine lv_iload hx hb dL_law_1152 (lv_at hl 0 rfl) ?_
  refine lv_iconst (v := 2) hx hb dL_law_1154 (by decide) ?_
  refine lv_iadd hx hb dL_law_1155 ?_
  refine va_sld hx hb hX hbl hbA hS hi2 dL_law_1156 ?_
  rw [hy2]
  obtain ⟨hPc, hDc, hFc, hCc⟩ := zsub3 (ws' := [(mq, .inr (12, mF g gl rf)), (eA0 (rf 24) (ck 24) 14 f_sky), (eA0 (rf 29) (ck 29) 24 f_landHas)]) hP hD hS hA [9, 10, 11] (by decide) rfl
  have hKc := hK.sub (tys' := [((ck 24), .int), ((ck 29), .int)]) [2, 3] rfl
  refine va_calll (va_runV (As := [.int y1, .int y2]) (rest := []) ⟨hx, hb, hml, hown, htw⟩ (gq_springs l dC dI mq g gl rf ck f_sky f_landHas y1 y2 H.size hln0 hln4 hs5) (cwV 2 htw (xg_V (ck_47 _ (List.mem_of_getElem? (i := 4) rfl)) (ck_47 _ (List.mem_of_getElem? (i := 5) rfl)) (ck_47 _ (List.mem_of_getElem? (i := 6) rfl)) (ck_1 _ (List.mem_of_getElem? (i := 5) rfl)) (ck_47 _ (List.mem_of_getElem? (i := 7) rfl))) rfl rfl rfl (by exact ⟨rfl, hdc_14.1, hdc_14.2, hdd_25⟩) ⟨Nat.le_of_ble_eq_true rfl, Nat.le_of_ble_eq_true rfl⟩) ⟨fun a U g mk q => by obtain ⟨q0, q1, qP, qK, qD⟩ := q; exact ⟨q0, q1, qP, va_K.moved (u := U) (U := U.calling g mk a) (Vm.Alike.refl U.vm) qK, qD⟩, va_recv hKc hPc (ci := 12) (q0 := 0) rfl rfl, fun U hU hW => ⟨rfl, by rw [hU], by rw [hU]; exact hPc, va_K.moved hW.alike hKc, hDc.weaken (fun _ _ _ _ => trivial)⟩⟩ rfl rfl hl.1 rfl (lv_room (Nat.le_of_ble_eq_true rfl)) dL_law_1157 ⟨by first | exact Nat.le_of_ble_eq_true rfl | exact yR (n := 0) (by omega) rfl, by first | exact Nat.le_of_ble_eq_true rfl | exact yR2 (n := 0) (by omega) rfl⟩) hS (fun q _ h => hFc q h) hFc (fun r_6 u_7 t H1 locs ht hvm hw hB hz1 hk1 hS => ?_)
  try dsimp only at hw
  obtain ⟨hP1, hK1, hD1⟩ := hB
  rw [ht] at hP1
  have hK1 := va_K.moved hvm.symm hK1
  have hK1 : va_K (dC, dI) vwCl [] s := hK1
  obtain ⟨hP, hD⟩ := va_join (wr := [(eO11a x pa bk xsp xdy le xst xsc xim xil xik xmo xom wi), (eO0a bk bto bnm bla bsk bru bbo bdi bda bdk bdt bdp bno), (eA0 bto cTo 5 fTo), (eA4 bla cLa 4 (fun k => some (La k))), (eO1a (La 0) (FI 0) (GR 0) (FR 0)), (eO1a (La 1) (FI 1) (GR 1) (FR 1)), (eO1a (La 2) (FI 2) (GR 2) (FR 2)), (eO1a (La 3) (FI 3) (GR 3) (FR 3)), (eO9a bsk wd wf mp mb mo sp sb)]) (w1 := [(mq, .inr (12, mF (upd g 2 u_7) gl rf)), (eA0 (rf 24) (ck 24) 14 f_sky), (eA0 (rf 29) (ck 29) 24 f_landHas)]) hP hD [9, 10, 11] [0, 1, 2, 3, 4, 5, 6, 7, 8] hCc rfl (by decide +kernel) (by decide +kernel) hk1 hFc hP1 hD1
  have hfr := yF (wc := [(mq, .inr (12, mF g gl rf)), (eA0 (rf 24) (ck 24) 14 f_sky), (eA0 (rf 29) (ck 29) 24 f_landHas)]) hBs [9, 10, 11] rfl hz0 hfr hk1
  have hz0 := Nat.le_trans hz0 hz1
  generalize H1 = H at hP hS hfr hz0 ⊢
  obtain ⟨hP, hD⟩ := zre [(eO11a x pa bk xsp xdy le xst xsc xim xil xik xmo xom wi), (eO0a bk bto bnm bla bsk bru bbo bdi bda bdk bdt bdp bno), (eA0 bto cTo 5 fTo), (eA4 bla cLa 4 (fun k => some (La k))), (eO1a (La 0) (FI 0) (GR 0) (FR 0)), (eO1a (La 1) (FI 1) (GR 1) (FR 1)), (eO1a (La 2) (FI 2) (GR 2) (FR 2)), (eO1a (La 3) (FI 3) (GR 3) (FR 3)), (eO9a bsk wd wf mp mb mo sp sb), (mq, .inr (12, mF (upd g 2 u_7) gl rf)), (eA0 (rf 24) (ck 24) 14 f_sky), (eA0 (rf 29) (ck 29) 24 f_landHas)] hP hD rfl
  refine W.widen (k := ce + 0) (n := sl + 0) (by omega) (by omega) ?_
  obtain ⟨X_9, hX_9⟩ : ∃ X9 : Int64 × (Int32), X9 = (fq_springs f_sky f_landHas y1 y2 (g 12)) := ⟨_, rfl⟩
  have hq_r_6 : r_6 = X_9.1 := by rw [hX_9]; exact hw.1
  have hq_u_7 : u_7 = X_9.2 := by rw [hX_9]; exact hw.2
  refine lv_pop2_2 hx hb dL_law_1160 rfl ?_
  refine lv_goto (tgt := 2012) hx hb dL_law_1161 (by decide) ?_
  refine W.widen (k := ce + 1) (n := sl + 6) (by omega) (by omega) ?_
  exact kk1 r_3 hq_r_3 X_9 hX_9 r_6 hq_r_6 u_7 hq_u_7 H locs ls (hP.sub (ws' := [(eO11a x pa bk xsp xdy le xst xsc xim xil xik xmo xom wi), (eO0a bk bto bnm bla bsk bru bbo bdi bda bdk bdt bdp bno), (eA0 bto cTo 5 fTo), (eA4 bla cLa 4 (fun k => some (La k))), (eO1a (La 0) (FI 0) (GR 0) (FR 0)), (eO1a (La 1) (FI 1) (GR 1) (FR 1)), (eO1a (La 2) (FI 2) (GR 2) (FR 2)), (eO1a (La 3) (FI 3) (GR 3) (FR 3)), (eO9a bsk wd wf mp mb mo sp sb), (mq, .inr (12, mF (upd g 2 u_7) gl rf)), (eA0 (rf 24) (ck 24) 14 f_sky), (eA0 (rf 29) (ck 29) 24 f_landHas)]) [0, 1, 2, 3, 4, 5, 6, 7, 8, 9, 10, 11] rfl) hS (lv_sub hl [0, 1, 2, 3, 4] rfl) hz0 hfr

theorem dL_law_1164 : decode cL_law 1164 = .ok (.aload_n 1, 1) := zk_43 (by decide +kernel)
theorem dL_law_1165 : decode cL_law 1165 = .ok (.aload_n 0, 1) := zk_42 (by decide +kernel)
theorem dL_law_1166 : decode cL_law 1166 = .ok (.iload 4, 2) := zk_21 (by decide +kernel)
theorem dL_law_1168 : decode cL_law 1168 = .ok (.iconst 1, 1) := zk_4 (by decide +kernel)
theorem dL_law_1169 : decode cL_law 1169 = .ok (.iadd, 1) := zk_96 (by decide +kernel)
theorem dL_law_1170 : decode cL_law 1170 = .ok (.iaload, 1) := zk_46 (by decide +kernel)
theorem dL_law_1171 : decode cL_law 1171 = .ok (.aload_n 0, 1) := zk_42 (by decide +kernel)
theorem dL_law_1172 : decode cL_law 1172 = .ok (.iload 4, 2) := zk_21 (by decide +kernel)
theorem dL_law_1174 : decode cL_law 1174 = .ok (.iconst 2, 1) := zk_5 (by decide +kernel)
theorem dL_law_1175 : decode cL_law 1175 = .ok (.iadd, 1) := zk_96 (by decide +kernel)
theorem dL_law_1176 : decode cL_law 1176 = .ok (.iaload, 1) := zk_46 (by decide +kernel)
theorem dL_law_1177 : decode cL_law 1177 = .ok (.aload_n 0, 1) := zk_42 (by decide +kernel)
theorem dL_law_1178 : decode cL_law 1178 = .ok (.iload 4, 2) := zk_21 (by decide +kernel)
theorem dL_law_1180 : decode cL_law 1180 = .ok (.iconst 3, 1) := zk_6 (by decide +kernel)
theorem dL_law_1181 : decode cL_law 1181 = .ok (.iadd, 1) := zk_96 (by decide +kernel)
theorem dL_law_1182 : decode cL_law 1182 = .ok (.iaload, 1) := zk_46 (by decide +kernel)
theorem dL_law_1183 : decode cL_law 1183 = .ok (.invokevirtual 102, 3) := zk_182 (by decide +kernel)
theorem dL_law_1186 : decode cL_law 1186 = .ok (.pop, 1) := zk_87 (by decide +kernel)
theorem dL_law_1187 : decode cL_law 1187 = .ok (.aload_n 2, 1) := zk_44 (by decide +kernel)
theorem dL_law_1188 : decode cL_law 1188 = .ok (.aload_n 0, 1) := zk_42 (by decide +kernel)
theorem dL_law_1189 : decode cL_law 1189 = .ok (.iload 4, 2) := zk_21 (by decide +kernel)
theorem dL_law_1191 : decode cL_law 1191 = .ok (.iconst 1, 1) := zk_4 (by decide +kernel)
theorem dL_law_1192 : decode cL_law 1192 = .ok (.iadd, 1) := zk_96 (by decide +kernel)
theorem dL_law_1193 : decode cL_law 1193 = .ok (.iaload, 1) := zk_46 (by decide +kernel)
theorem dL_law_1194 : decode cL_law 1194 = .ok (.aload_n 0, 1) := zk_42 (by decide +kernel)
theorem dL_law_1195 : decode cL_law 1195 = .ok (.iload 4, 2) := zk_21 (by decide +kernel)
theorem dL_law_1197 : decode cL_law 1197 = .ok (.iconst 2, 1) := zk_5 (by decide +kernel)
theorem dL_law_1198 : decode cL_law 1198 = .ok (.iadd, 1) := zk_96 (by decide +kernel)
theorem dL_law_1199 : decode cL_law 1199 = .ok (.iaload, 1) := zk_46 (by decide +kernel)
theorem dL_law_1200 : decode cL_law 1200 = .ok (.aload_n 0, 1) := zk_42 (by decide +kernel)
theorem dL_law_1201 : decode cL_law 1201 = .ok (.iload 4, 2) := zk_21 (by decide +kernel)
theorem dL_law_1203 : decode cL_law 1203 = .ok (.iconst 3, 1) := zk_6 (by decide +kernel)
theorem dL_law_1204 : decode cL_law 1204 = .ok (.iadd, 1) := zk_96 (by decide +kernel)
theorem dL_law_1205 : decode cL_law 1205 = .ok (.iaload, 1) := zk_46 (by decide +kernel)
theorem dL_law_1206 : decode cL_law 1206 = .ok (.invokevirtual 106, 3) := zk_182 (by decide +kernel)
theorem dL_law_1209 : decode cL_law 1209 = .ok (.pop, 1) := zk_87 (by decide +kernel)
theorem dL_law_1210 : decode cL_law 1210 = .ok (.goto 802, 3) := zk_167 (by decide +kernel)
set_option maxHeartbeats 4000000 in
set_option maxRecDepth 100000 in
theorem law_many (l : Launch) (hst : l.stackTraces = false) {p : Program} {e : Env} {s : State} {m : MethodId} {below : List Frame} {meth : Method} {c : Code} {bs L : Nat} {xs : Nat → Int32} (C0 : lw_At p s m meth c bs L xs) (dC : Nat → ClassId) (dI : Nat → Nat → Nat) (A : Nat → Prop) (hAe : ∀ q, A q ↔ s.heap.size ≤ q) (x : Nat) (pa : Nat) (bk : Nat) (xsp : Nat) (xdy : Nat) (le : Nat) (xst : Nat) (xsc : Int32) (xim : Nat) (xil : Nat) (xik : Int32) (xmo : Nat) (xom : Nat) (wi : Nat) (bto : Nat) (bnm : Nat) (bla : Nat) (bsk : Nat) (bru : Nat) (bbo : Nat) (bdi : Nat) (bda : Nat) (bdk : Nat) (bdt : Nat) (bdp : Nat) (bno : Nat) (cTo : ClassId) (fTo : Nat → Int32) (cLa : ClassId) (La : Nat → Nat) (FI : Nat → Int32) (GR : Nat → Int32) (FR : Nat → Int32) (wd : Int32) (wf : Int32) (mp : Int32) (mb : Int32) (mo : Int32) (sp : Int32) (sb : Int32) (mq : Nat) (g : Nat → Int32) (gl : Nat → Int64) (rf : Nat → Nat) (ck : Nat → ClassId) (f_sky : Nat → Int32) (f_landHas : Nat → Int32) (o3 : Nat) (hln0 : ¬ (g 12) < 0) (hln4 : (g 12) ≤ 4) (hs5 : ¬ (f_sky 5) < 1) (sL : Nat → Nat) (hNx : xN s) (i y1 y2 y3 : Int32) (hi1 : vp_in (i + 1) L) (hy1 : xs (i + 1).toNatClampNeg = y1) (hi2 : vp_in (i + 2) L) (hy2 : xs (i + 2).toNatClampNeg = y2) (hi3 : vp_in (i + 3) L) (hy3 : xs (i + 3).toNatClampNeg = y3)  (Bp : Nat → Prop) (H0 : Heap) (locs : List Loc) (ls : Array Slot) (ce sl : Nat) (hce : ce + 1 ≤ 601024) (hsl : sl + 6 ≤ 7293034) (hK : va_K (dC, dI) vwCl [(cTo, .int), (cLa, .object RX1), ((ck 24), .int), ((ck 29), .int)] s) (hP : va_P (dC, dI) vwCl [(eO11a x pa bk xsp xdy le xst xsc xim xil xik xmo xom wi), (eO0a bk bto bnm bla bsk bru bbo bdi bda bdk bdt bdp bno), (eA0 bto cTo 5 fTo), (eA4 bla cLa 4 (fun k => some (La k))), (eO1a (La 0) (FI 0) (GR 0) (FR 0)), (eO1a (La 1) (FI 1) (GR 1) (FR 1)), (eO1a (La 2) (FI 2) (GR 2) (FR 2)), (eO1a (La 3) (FI 3) (GR 3) (FR 3)), (eO9a bsk wd wf mp mb mo sp sb), (mq, .inr (12, mF g gl rf)), (eA0 (rf 24) (ck 24) 14 f_sky), (eA0 (rf 29) (ck 29) 24 f_landHas)] H0) (hD : va_D A [(eO11a x pa bk xsp xdy le xst xsc xim xil xik xmo xom wi), (eO0a bk bto bnm bla bsk bru bbo bdi bda bdk bdt bdp bno), (eA0 bto cTo 5 fTo), (eA4 bla cLa 4 (fun k => some (La k))), (eO1a (La 0) (FI 0) (GR 0) (FR 0)), (eO1a (La 1) (FI 1) (GR 1) (FR 1)), (eO1a (La 2) (FI 2) (GR 2) (FR 2)), (eO1a (La 3) (FI 3) (GR 3) (FR 3)), (eO9a bsk wd wf mp mb mo sp sb), (mq, .inr (12, mF g gl rf)), (eA0 (rf 24) (ck 24) 14 f_sky), (eA0 (rf 29) (ck 29) 24 f_landHas)]) (hBs : yB Bp [(eO11a x pa bk xsp xdy le xst xsc xim xil xik xmo xom wi), (eO0a bk bto bnm bla bsk bru bbo bdi bda bdk bdt bdp bno), (eA0 bto cTo 5 fTo), (eA4 bla cLa 4 (fun k => some (La k))), (eO1a (La 0) (FI 0) (GR 0) (FR 0)), (eO1a (La 1) (FI 1) (GR 1) (FR 1)), (eO1a (La 2) (FI 2) (GR 2) (FR 2)), (eO1a (La 3) (FI 3) (GR 3) (FR 3)), (eO9a bsk wd wf mp mb mo sp sb), (mq, .inr (12, mF g gl rf)), (eA0 (rf 24) (ck 24) 14 f_sky), (eA0 (rf 29) (ck 29) 24 f_landHas)]) (hS : va_S A s.heap H0 locs) (hl : lv_has ls 7 [(4, .int i), (3, .ref o3), (2, .ref mq), (1, .ref x), (0, .ref bs)]) (kk1 : ∀ (r_4 : Int32), r_4 = (fx_many fTo FI GR FR wd wf mp mb mo sp sb y1 y2 y3) → ∀ (X_11 : Int32 × (Int32)), X_11 = (fq_many f_sky f_landHas y1 y2 y3 (g 12)) → ∀ (r_8 : Int32), r_8 = X_11.1 → ∀ (u_9 : (Int32)), u_9 = X_11.2 → ∀ (H : Heap) (locs : List Loc) (ls : Array Slot), va_P (dC, dI) vwCl [(eO11a x pa bk xsp xdy le xst xsc xim xil xik xmo xom wi), (eO0a bk bto bnm bla bsk bru bbo bdi bda bdk bdt bdp bno), (eA0 bto cTo 5 fTo), (eA4 bla cLa 4 (fun k => some (La k))), (eO1a (La 0) (FI 0) (GR 0) (FR 0)), (eO1a (La 1) (FI 1) (GR 1) (FR 1)), (eO1a (La 2) (FI 2) (GR 2) (FR 2)), (eO1a (La 3) (FI 3) (GR 3) (FR 3)), (eO9a bsk wd wf mp mb mo sp sb), (mq, .inr (12, mF (upd g 2 u_9) gl rf)), (eA0 (rf 24) (ck 24) 14 f_sky), (eA0 (rf 29) (ck 29) 24 f_landHas)] H → va_S A s.heap H locs → lv_has ls 7 [(4, .int i), (3, .ref o3), (2, .ref mq), (1, .ref x), (0, .ref bs)] → H0.size ≤ H.size → (∀ q : Nat, q < H0.size → ¬ Bp q → H[q]? = H0[q]?) → W p l e room_1 s m #[Value.ref bs] below meth c H locs (ce + 1) (sl + 6) (lw_Z below #[Value.ref bs] s) (F0 m 2012 ls [])) : W p l e room_1 s m #[Value.ref bs] below meth c H0 locs ce sl (lw_Z below #[Value.ref bs] s) (F0 m 1164 ls []) := by
  obtain ⟨hx, hb, hr, hml, hown, hts, hX, hbl, hlocks, hgv⟩ := id C0
  have htw : ∀ w ∈ wsL_law, w.before _ s = true := fun w h => hts w (wsL_law_in w h)
  have hown : s.vm.findClass RL = some m.cls := hown
  have hA : ∀ q : Nat, s.heap.size ≤ q → A q := fun q h => (hAe q).mpr h
  have hbA : ¬ A bs := fun h => absurd ((hAe bs).mp h) (Nat.not_le.mpr hbl)
  obtain ⟨H, rH⟩ : ∃ z : Heap, z = H0 := ⟨_, rfl⟩
  have hfr : ∀ q : Nat, q < H0.size → ¬ Bp q → H[q]? = H0[q]? := fun q _ _ => by rw [rH]
  have hz0 : H0.size ≤ H.size := by rw [rH]; exact Nat.le_refl _
  rw [← rH] at hP hS ⊢
  refine lv_aload_n hx hb dL_law_1164 rfl (lv_at hl 3 rfl) ?_
  refine lv_aload_n hx hb dL_law_1165 rfl (lv_at hl 4 rfl) ?_
  refine lv_iload hx hb dL_law_1166 (lv_at hl 0 rfl) ?_
  refine lv_iconst (v := 1) hx hb dL_law_1168 (by decide) ?_
  refine lv_iadd hx hb dL_law_1169 ?_
  refine va_sld hx hb hX hbl hbA hS hi1 dL_law_1170 ?_
  rw [hy1]
  refine lv_aload_n hx hb dL_law_1171 rfl (lv_at hl 4 rfl) ?_
  refine lv_iload hx hb dL_law_1172 (lv_at hl 0 rfl) ?_
  refine lv_iconst (v := 2) hx hb dL_law_1174 (by decide) ?_
  refine lv_iadd hx hb dL_law_1175 ?_
  refine va_sld hx hb hX hbl hbA hS hi2 dL_law_1176 ?_
  rw [hy2]
  refine lv_aload_n hx hb dL_law_1177 rfl (lv_at hl 4 rfl) ?_
  refine lv_iload hx hb dL_law_1178 (lv_at hl 0 rfl) ?_
  refine lv_iconst (v := 3) hx hb dL_law_1180 (by decide) ?_
  refine lv_iadd hx hb dL_law_1181 ?_
  refine va_sld hx hb hX hbl hbA hS hi3 dL_law_1182 ?_
  rw [hy3]
  have hPc := hP.sub (ws' := [(eO11a x pa bk xsp xdy le xst xsc xim xil xik xmo xom wi), (eO0a bk bto bnm bla bsk bru bbo bdi bda bdk bdt bdp bno), (eA0 bto cTo 5 fTo), (eA4 bla cLa 4 (fun k => some (La k))), (eO1a (La 0) (FI 0) (GR 0) (FR 0)), (eO1a (La 1) (FI 1) (GR 1) (FR 1)), (eO1a (La 2) (FI 2) (GR 2) (FR 2)), (eO1a (La 3) (FI 3) (GR 3) (FR 3)), (eO9a bsk wd wf mp mb mo sp sb)]) [0, 1, 2, 3, 4, 5, 6, 7, 8] rfl
  have hKc := hK.sub (tys' := [(cTo, .int), (cLa, .object RX1)]) [0, 1] rfl
  refine vp_callSi (W.runV (As := [.int y1, .int y2, .int y3]) (rest := []) ⟨hx, hb, hml, hown, htw⟩ (gx_many l dC dI x pa bk xsp xdy le xst xsc xim xil xik xmo xom wi bto bnm bla bsk bru bbo bdi bda bdk bdt bdp bno cTo fTo cLa La FI GR FR wd wf mp mb mo sp sb y1 y2 y3) (cwV 3 htw (xg_V (ck_47 _ (List.mem_of_getElem? (i := 19) rfl)) (ck_47 _ (List.mem_of_getElem? (i := 20) rfl)) (ck_47 _ (List.mem_of_getElem? (i := 21) rfl)) (ck_1 _ (List.mem_of_getElem? (i := 2) rfl)) (ck_47 _ (List.mem_of_getElem? (i := 22) rfl))) rfl rfl rfl (by exact ⟨rfl, hdc_8.1, hdc_8.2, hdd_28⟩) ⟨Nat.le_of_ble_eq_true rfl, Nat.le_of_ble_eq_true rfl⟩) ⟨fun a U g mk q => by obtain ⟨q0, qP, qK, qx⟩ := q; exact ⟨q0, qP, va_K.moved (u := U) (U := U.calling g mk a) (Vm.Alike.refl U.vm) qK, xN.calling qx⟩, va_recv hKc hPc (ci := 11) (q0 := 0) rfl rfl, fun U hU hW => ⟨rfl, by rw [hU]; exact hPc, va_K.moved hW.alike hKc, xN.warm hW hNx⟩⟩ rfl rfl hl.1 rfl (lv_room (Nat.le_of_ble_eq_true rfl)) dL_law_1183 ⟨by first | exact Nat.le_of_ble_eq_true rfl | exact yR (n := 0) (by omega) rfl, by first | exact Nat.le_of_ble_eq_true rfl | exact yR2 (n := 0) (by omega) rfl⟩) (fun r_4 hw => ?_)
  try dsimp only at hw
  have hq_r_4 : r_4 = (fx_many fTo FI GR FR wd wf mp mb mo sp sb y1 y2 y3) := hw
  refine lv_pop hx hb dL_law_1186 rfl ?_
  refine lv_aload_n hx hb dL_law_1187 rfl (lv_at hl 2 rfl) ?_
  refine lv_aload_n hx hb dL_law_1188 rfl (lv_at hl 4 rfl) ?_
  refine lv_iload hx hb dL_law_1189 (lv_at hl 0 rfl) ?_
  refine lv_iconst (v := 1) hx hb dL_law_1191 (by decide) ?_
  refine lv_iadd hx hb dL_law_1192 ?_
  refine va_sld hx hb hX hbl hbA hS hi1 dL_law_1193 ?_
  rw [hy1]
  refine lv_aload_n hx hb dL_law_1194 rfl (lv_at hl 4 rfl) ?_
  refine lv_iload hx hb dL_law_1195 (lv_at hl 0 rfl) ?_
  refine lv_iconst (v := 2) hx hb dL_law_1197 (by decide) ?_
  refine lv_iadd hx hb dL_law_1198 ?_
  refine va_sld hx hb hX hbl hbA hS hi2 dL_law_1199 ?_
  rw [hy2]
  refine lv_aload_n hx hb dL_law_1200 rfl (lv_at hl 4 rfl) ?_
  refine lv_iload hx hb dL_law_1201 (lv_at hl 0 rfl) ?_
  refine lv_iconst (v := 3) hx hb dL_law_1203 (by decide) ?_
  refine lv_iadd hx hb dL_law_1204 ?_
  refine va_sld hx hb hX hbl hbA hS hi3 dL_law_1205 ?_
  rw [hy3]
  obtain ⟨hPc, hDc, hFc, hCc⟩ := zsub3 (ws' := [(mq, .inr (12, mF g gl rf)), (eA0 (rf 24) (ck 24) 14 f_sky), (eA0 (rf 29) (ck 29) 24 f_landHas)]) hP hD hS hA [9, 10, 11] (by decide) rfl
  have hKc := hK.sub (tys' := [((ck 24), .int), ((ck 29), .int)]) [2, 3] rfl
  refine va_calli (va_runV (As := [.int y1, .int y2, .int y3]) (rest := []) ⟨hx, hb, hml, hown, htw⟩ (gq_many l dC dI mq g gl rf ck f_sky f_landHas y1 y2 y3 H.size hln0 hln4 hs5) (cwV 3 htw (xg_V (ck_47 _ (List.mem_of_getElem? (i := 23) rfl)) (ck_48 _ (List.mem_of_getElem? (i := 0) rfl)) (ck_48 _ (List.mem_of_getElem? (i := 1) rfl)) (ck_1 _ (List.mem_of_getElem? (i := 5) rfl)) (ck_48 _ (List.mem_of_getElem? (i := 2) rfl))) rfl rfl rfl (by exact ⟨rfl, hdc_14.1, hdc_14.2, hdd_28⟩) ⟨Nat.le_of_ble_eq_true rfl, Nat.le_of_ble_eq_true rfl⟩) ⟨fun a U g mk q => by obtain ⟨q0, q1, qP, qK, qD⟩ := q; exact ⟨q0, q1, qP, va_K.moved (u := U) (U := U.calling g mk a) (Vm.Alike.refl U.vm) qK, qD⟩, va_recv hKc hPc (ci := 12) (q0 := 0) rfl rfl, fun U hU hW => ⟨rfl, by rw [hU], by rw [hU]; exact hPc, va_K.moved hW.alike hKc, hDc.weaken (fun _ _ _ _ => trivial)⟩⟩ rfl rfl hl.1 rfl (lv_room (Nat.le_of_ble_eq_true rfl)) dL_law_1206 ⟨by first | exact Nat.le_of_ble_eq_true rfl | exact yR (n := 0) (by omega) rfl, by first | exact Nat.le_of_ble_eq_true rfl | exact yR2 (n := 0) (by omega) rfl⟩) hS (fun q _ h => hFc q h) hFc (fun r_8 u_9 t H1 locs ht hvm hw hB hz1 hk1 hS => ?_)
  try dsimp only at hw
  obtain ⟨hP1, hK1, hD1⟩ := hB
  rw [ht] at hP1
  have hK1 := va_K.moved hvm.symm hK1
  have hK1 : va_K (dC, dI) vwCl [] s := hK1
  obtain ⟨hP, hD⟩ := va_join (wr := [(eO11a x pa bk xsp xdy le xst xsc xim xil xik xmo xom wi), (eO0a bk bto bnm bla bsk bru bbo bdi bda bdk bdt bdp bno), (eA0 bto cTo 5 fTo), (eA4 bla cLa 4 (fun k => some (La k))), (eO1a (La 0) (FI 0) (GR 0) (FR 0)), (eO1a (La 1) (FI 1) (GR 1) (FR 1)), (eO1a (La 2) (FI 2) (GR 2) (FR 2)), (eO1a (La 3) (FI 3) (GR 3) (FR 3)), (eO9a bsk wd wf mp mb mo sp sb)]) (w1 := [(mq, .inr (12, mF (upd g 2 u_9) gl rf)), (eA0 (rf 24) (ck 24) 14 f_sky), (eA0 (rf 29) (ck 29) 24 f_landHas)]) hP hD [9, 10, 11] [0, 1, 2, 3, 4, 5, 6, 7, 8] hCc rfl (by decide +kernel) (by decide +kernel) hk1 hFc hP1 hD1
  have hfr := yF (wc := [(mq, .inr (12, mF g gl rf)), (eA0 (rf 24) (ck 24) 14 f_sky), (eA0 (rf 29) (ck 29) 24 f_landHas)]) hBs [9, 10, 11] rfl hz0 hfr hk1
  have hz0 := Nat.le_trans hz0 hz1
  generalize H1 = H at hP hS hfr hz0 ⊢
  obtain ⟨hP, hD⟩ := zre [(eO11a x pa bk xsp xdy le xst xsc xim xil xik xmo xom wi), (eO0a bk bto bnm bla bsk bru bbo bdi bda bdk bdt bdp bno), (eA0 bto cTo 5 fTo), (eA4 bla cLa 4 (fun k => some (La k))), (eO1a (La 0) (FI 0) (GR 0) (FR 0)), (eO1a (La 1) (FI 1) (GR 1) (FR 1)), (eO1a (La 2) (FI 2) (GR 2) (FR 2)), (eO1a (La 3) (FI 3) (GR 3) (FR 3)), (eO9a bsk wd wf mp mb mo sp sb), (mq, .inr (12, mF (upd g 2 u_9) gl rf)), (eA0 (rf 24) (ck 24) 14 f_sky), (eA0 (rf 29) (ck 29) 24 f_landHas)] hP hD rfl
  refine W.widen (k := ce + 0) (n := sl + 0) (by omega) (by omega) ?_
  obtain ⟨X_11, hX_11⟩ : ∃ X9 : Int32 × (Int32), X9 = (fq_many f_sky f_landHas y1 y2 y3 (g 12)) := ⟨_, rfl⟩
  have hq_r_8 : r_8 = X_11.1 := by rw [hX_11]; exact hw.1
  have hq_u_9 : u_9 = X_11.2 := by rw [hX_11]; exact hw.2
  refine lv_pop hx hb dL_law_1209 rfl ?_
  refine lv_goto (tgt := 2012) hx hb dL_law_1210 (by decide) ?_
  refine W.widen (k := ce + 1) (n := sl + 6) (by omega) (by omega) ?_
  exact kk1 r_4 hq_r_4 X_11 hX_11 r_8 hq_r_8 u_9 hq_u_9 H locs ls (hP.sub (ws' := [(eO11a x pa bk xsp xdy le xst xsc xim xil xik xmo xom wi), (eO0a bk bto bnm bla bsk bru bbo bdi bda bdk bdt bdp bno), (eA0 bto cTo 5 fTo), (eA4 bla cLa 4 (fun k => some (La k))), (eO1a (La 0) (FI 0) (GR 0) (FR 0)), (eO1a (La 1) (FI 1) (GR 1) (FR 1)), (eO1a (La 2) (FI 2) (GR 2) (FR 2)), (eO1a (La 3) (FI 3) (GR 3) (FR 3)), (eO9a bsk wd wf mp mb mo sp sb), (mq, .inr (12, mF (upd g 2 u_9) gl rf)), (eA0 (rf 24) (ck 24) 14 f_sky), (eA0 (rf 29) (ck 29) 24 f_landHas)]) [0, 1, 2, 3, 4, 5, 6, 7, 8, 9, 10, 11] rfl) hS (lv_sub hl [0, 1, 2, 3, 4] rfl) hz0 hfr

theorem dL_law_1213 : decode cL_law 1213 = .ok (.aload_n 1, 1) := zk_43 (by decide +kernel)
theorem dL_law_1214 : decode cL_law 1214 = .ok (.aload_n 0, 1) := zk_42 (by decide +kernel)
theorem dL_law_1215 : decode cL_law 1215 = .ok (.iload 4, 2) := zk_21 (by decide +kernel)
theorem dL_law_1217 : decode cL_law 1217 = .ok (.iconst 1, 1) := zk_4 (by decide +kernel)
theorem dL_law_1218 : decode cL_law 1218 = .ok (.iadd, 1) := zk_96 (by decide +kernel)
theorem dL_law_1219 : decode cL_law 1219 = .ok (.iaload, 1) := zk_46 (by decide +kernel)
theorem dL_law_1220 : decode cL_law 1220 = .ok (.i2l, 1) := zk_133 (by decide +kernel)
theorem dL_law_1221 : decode cL_law 1221 = .ok (.bipush 32, 2) := zk_16 (by decide +kernel)
theorem dL_law_1223 : decode cL_law 1223 = .ok (.lshl, 1) := zk_121 (by decide +kernel)
theorem dL_law_1224 : decode cL_law 1224 = .ok (.aload_n 0, 1) := zk_42 (by decide +kernel)
theorem dL_law_1225 : decode cL_law 1225 = .ok (.iload 4, 2) := zk_21 (by decide +kernel)
theorem dL_law_1227 : decode cL_law 1227 = .ok (.iconst 2, 1) := zk_5 (by decide +kernel)
theorem dL_law_1228 : decode cL_law 1228 = .ok (.iadd, 1) := zk_96 (by decide +kernel)
theorem dL_law_1229 : decode cL_law 1229 = .ok (.iaload, 1) := zk_46 (by decide +kernel)
theorem dL_law_1230 : decode cL_law 1230 = .ok (.i2l, 1) := zk_133 (by decide +kernel)
theorem dL_law_1231 : decode cL_law 1231 = .ok (.ldc2_w 50, 3) := zk_20 (by decide +kernel)
theorem dL_law_1234 : decode cL_law 1234 = .ok (.land, 1) := zk_127 (by decide +kernel)
theorem dL_law_1235 : decode cL_law 1235 = .ok (.lor, 1) := zk_129 (by decide +kernel)
theorem dL_law_1236 : decode cL_law 1236 = .ok (.aload_n 0, 1) := zk_42 (by decide +kernel)
theorem dL_law_1237 : decode cL_law 1237 = .ok (.iload 4, 2) := zk_21 (by decide +kernel)
theorem dL_law_1239 : decode cL_law 1239 = .ok (.iconst 3, 1) := zk_6 (by decide +kernel)
theorem dL_law_1240 : decode cL_law 1240 = .ok (.iadd, 1) := zk_96 (by decide +kernel)
theorem dL_law_1241 : decode cL_law 1241 = .ok (.iaload, 1) := zk_46 (by decide +kernel)
theorem dL_law_1242 : decode cL_law 1242 = .ok (.aload_n 0, 1) := zk_42 (by decide +kernel)
theorem dL_law_1243 : decode cL_law 1243 = .ok (.iload 4, 2) := zk_21 (by decide +kernel)
theorem dL_law_1245 : decode cL_law 1245 = .ok (.iconst 4, 1) := zk_7 (by decide +kernel)
theorem dL_law_1246 : decode cL_law 1246 = .ok (.iadd, 1) := zk_96 (by decide +kernel)
theorem dL_law_1247 : decode cL_law 1247 = .ok (.iaload, 1) := zk_46 (by decide +kernel)
theorem dL_law_1248 : decode cL_law 1248 = .ok (.aload_n 0, 1) := zk_42 (by decide +kernel)
theorem dL_law_1249 : decode cL_law 1249 = .ok (.iload 4, 2) := zk_21 (by decide +kernel)
theorem dL_law_1251 : decode cL_law 1251 = .ok (.iconst 5, 1) := zk_8 (by decide +kernel)
theorem dL_law_1252 : decode cL_law 1252 = .ok (.iadd, 1) := zk_96 (by decide +kernel)
theorem dL_law_1253 : decode cL_law 1253 = .ok (.iaload, 1) := zk_46 (by decide +kernel)
theorem dL_law_1254 : decode cL_law 1254 = .ok (.invokevirtual 107, 3) := zk_182 (by decide +kernel)
theorem dL_law_1257 : decode cL_law 1257 = .ok (.pop2, 1) := zk_88 (by decide +kernel)
theorem dL_law_1258 : decode cL_law 1258 = .ok (.aload_n 2, 1) := zk_44 (by decide +kernel)
theorem dL_law_1259 : decode cL_law 1259 = .ok (.aload_n 0, 1) := zk_42 (by decide +kernel)
theorem dL_law_1260 : decode cL_law 1260 = .ok (.iload 4, 2) := zk_21 (by decide +kernel)
theorem dL_law_1262 : decode cL_law 1262 = .ok (.iconst 1, 1) := zk_4 (by decide +kernel)
theorem dL_law_1263 : decode cL_law 1263 = .ok (.iadd, 1) := zk_96 (by decide +kernel)
theorem dL_law_1264 : decode cL_law 1264 = .ok (.iaload, 1) := zk_46 (by decide +kernel)
theorem dL_law_1265 : decode cL_law 1265 = .ok (.i2l, 1) := zk_133 (by decide +kernel)
theorem dL_law_1266 : decode cL_law 1266 = .ok (.bipush 32, 2) := zk_16 (by decide +kernel)
theorem dL_law_1268 : decode cL_law 1268 = .ok (.lshl, 1) := zk_121 (by decide +kernel)
theorem dL_law_1269 : decode cL_law 1269 = .ok (.aload_n 0, 1) := zk_42 (by decide +kernel)
theorem dL_law_1270 : decode cL_law 1270 = .ok (.iload 4, 2) := zk_21 (by decide +kernel)
theorem dL_law_1272 : decode cL_law 1272 = .ok (.iconst 2, 1) := zk_5 (by decide +kernel)
theorem dL_law_1273 : decode cL_law 1273 = .ok (.iadd, 1) := zk_96 (by decide +kernel)
theorem dL_law_1274 : decode cL_law 1274 = .ok (.iaload, 1) := zk_46 (by decide +kernel)
theorem dL_law_1275 : decode cL_law 1275 = .ok (.i2l, 1) := zk_133 (by decide +kernel)
theorem dL_law_1276 : decode cL_law 1276 = .ok (.ldc2_w 50, 3) := zk_20 (by decide +kernel)
theorem dL_law_1279 : decode cL_law 1279 = .ok (.land, 1) := zk_127 (by decide +kernel)
theorem dL_law_1280 : decode cL_law 1280 = .ok (.lor, 1) := zk_129 (by decide +kernel)
theorem dL_law_1281 : decode cL_law 1281 = .ok (.aload_n 0, 1) := zk_42 (by decide +kernel)
theorem dL_law_1282 : decode cL_law 1282 = .ok (.iload 4, 2) := zk_21 (by decide +kernel)
theorem dL_law_1284 : decode cL_law 1284 = .ok (.iconst 3, 1) := zk_6 (by decide +kernel)
theorem dL_law_1285 : decode cL_law 1285 = .ok (.iadd, 1) := zk_96 (by decide +kernel)
theorem dL_law_1286 : decode cL_law 1286 = .ok (.iaload, 1) := zk_46 (by decide +kernel)
theorem dL_law_1287 : decode cL_law 1287 = .ok (.aload_n 0, 1) := zk_42 (by decide +kernel)
theorem dL_law_1288 : decode cL_law 1288 = .ok (.iload 4, 2) := zk_21 (by decide +kernel)
theorem dL_law_1290 : decode cL_law 1290 = .ok (.iconst 4, 1) := zk_7 (by decide +kernel)
theorem dL_law_1291 : decode cL_law 1291 = .ok (.iadd, 1) := zk_96 (by decide +kernel)
theorem dL_law_1292 : decode cL_law 1292 = .ok (.iaload, 1) := zk_46 (by decide +kernel)
theorem dL_law_1293 : decode cL_law 1293 = .ok (.aload_n 0, 1) := zk_42 (by decide +kernel)
theorem dL_law_1294 : decode cL_law 1294 = .ok (.iload 4, 2) := zk_21 (by decide +kernel)
theorem dL_law_1296 : decode cL_law 1296 = .ok (.iconst 5, 1) := zk_8 (by decide +kernel)
theorem dL_law_1297 : decode cL_law 1297 = .ok (.iadd, 1) := zk_96 (by decide +kernel)
theorem dL_law_1298 : decode cL_law 1298 = .ok (.iaload, 1) := zk_46 (by decide +kernel)
theorem dL_law_1299 : decode cL_law 1299 = .ok (.invokevirtual 111, 3) := zk_182 (by decide +kernel)
theorem dL_law_1302 : decode cL_law 1302 = .ok (.pop2, 1) := zk_88 (by decide +kernel)
theorem dL_law_1303 : decode cL_law 1303 = .ok (.goto 709, 3) := zk_167 (by decide +kernel)
set_option maxHeartbeats 4000000 in
set_option maxRecDepth 100000 in
theorem law_next (l : Launch) (hst : l.stackTraces = false) {p : Program} {e : Env} {s : State} {m : MethodId} {below : List Frame} {meth : Method} {c : Code} {bs L : Nat} {xs : Nat → Int32} (C0 : lw_At p s m meth c bs L xs) (dC : Nat → ClassId) (dI : Nat → Nat → Nat) (A : Nat → Prop) (hAe : ∀ q, A q ↔ s.heap.size ≤ q) (x : Nat) (pa : Nat) (bk : Nat) (xsp : Nat) (xdy : Nat) (le : Nat) (xst : Nat) (xsc : Int32) (xim : Nat) (xil : Nat) (xik : Int32) (xmo : Nat) (xom : Nat) (wi : Nat) (mla : Value) (mct : Int64) (myr : Int64) (mdy : Int64) (mlg : Int64) (w0 : Int32) (w1 : Int32) (w2 : Int32) (w3 : Int32) (w4 : Int32) (bto : Nat) (bnm : Nat) (bla : Nat) (bsk : Nat) (bru : Nat) (bbo : Nat) (bdi : Nat) (bda : Nat) (bdk : Nat) (bdt : Nat) (bdp : Nat) (bno : Nat) (cTo : ClassId) (fTo : Nat → Int32) (cLa : ClassId) (La : Nat → Nat) (FI : Nat → Int32) (GR : Nat → Int32) (FR : Nat → Int32) (wd : Int32) (wf : Int32) (mp : Int32) (mb : Int32) (mo : Int32) (sp : Int32) (sb : Int32) (rco : Nat) (rsz : Int32) (ren : Nat) (rst : Nat) (rkn : Int32) (cRc : ClassId) (fRc : Nat → Int32) (cRe : ClassId) (fRe : Nat → Int32) (cRs : ClassId) (fRs : Nat → Int64) (mq : Nat) (g : Nat → Int32) (gl : Nat → Int64) (rf : Nat → Nat) (ck : Nat → ClassId) (f_sky : Nat → Int32) (f_landHas : Nat → Int32) (o3 : Nat) (hE : ∀ k, ¬ fRe k < 0) (hln0 : ¬ (g 12) < 0) (hln4 : (g 12) ≤ 4) (hLZ : ∀ k : Int32, ¬ k < 0 → k < (g 12) → ¬ (f_landHas ((3 * k).toNatClampNeg)) = 0) (hs0 : ¬ (f_sky 0) < 1) (hs2 : ¬ (f_sky 2) < 1) (hs5 : ¬ (f_sky 5) < 1) (sL : Nat → Nat) (hNx : xN s) (i y1 y2 y3 y4 y5 : Int32) (hi1 : vp_in (i + 1) L) (hy1 : xs (i + 1).toNatClampNeg = y1) (hi2 : vp_in (i + 2) L) (hy2 : xs (i + 2).toNatClampNeg = y2) (hi3 : vp_in (i + 3) L) (hy3 : xs (i + 3).toNatClampNeg = y3) (hi4 : vp_in (i + 4) L) (hy4 : xs (i + 4).toNatClampNeg = y4) (hi5 : vp_in (i + 5) L) (hy5 : xs (i + 5).toNatClampNeg = y5)  (Bp : Nat → Prop) (H0 : Heap) (locs : List Loc) (ls : Array Slot) (ce sl : Nat) (hce : ce + 1 ≤ 601024) (hsl : sl + 6 ≤ 7293034) (hK : va_K (dC, dI) vwCl [(cTo, .int), (cLa, .object RX1), (cRc, .int), (cRe, .int), (cRs, .long), ((ck 24), .int), ((ck 29), .int)] s) (hP : va_P (dC, dI) vwCl [(eO11a x pa bk xsp xdy le xst xsc xim xil xik xmo xom wi), (xmo, .inr (4, [mla, .long mct, .long myr, .long mdy, .long mlg])), (eO10a wi w0 w1 w2 w3 w4), (eO0a bk bto bnm bla bsk bru bbo bdi bda bdk bdt bdp bno), (eA0 bto cTo 5 fTo), (eA4 bla cLa 4 (fun k => some (La k))), (eO1a (La 0) (FI 0) (GR 0) (FR 0)), (eO9a bsk wd wf mp mb mo sp sb), (eO8a bru rco rsz ren rst rkn), (eA0 rco cRc 64 fRc), (eA0 ren cRe 4 fRe), (eA1 rst cRs 64 fRs), (mq, .inr (12, mF g gl rf)), (eA0 (rf 24) (ck 24) 14 f_sky), (eA0 (rf 29) (ck 29) 24 f_landHas)] H0) (hD : va_D A [(eO11a x pa bk xsp xdy le xst xsc xim xil xik xmo xom wi), (xmo, .inr (4, [mla, .long mct, .long myr, .long mdy, .long mlg])), (eO10a wi w0 w1 w2 w3 w4), (eO0a bk bto bnm bla bsk bru bbo bdi bda bdk bdt bdp bno), (eA0 bto cTo 5 fTo), (eA4 bla cLa 4 (fun k => some (La k))), (eO1a (La 0) (FI 0) (GR 0) (FR 0)), (eO9a bsk wd wf mp mb mo sp sb), (eO8a bru rco rsz ren rst rkn), (eA0 rco cRc 64 fRc), (eA0 ren cRe 4 fRe), (eA1 rst cRs 64 fRs), (mq, .inr (12, mF g gl rf)), (eA0 (rf 24) (ck 24) 14 f_sky), (eA0 (rf 29) (ck 29) 24 f_landHas)]) (hBs : yB Bp [(eO11a x pa bk xsp xdy le xst xsc xim xil xik xmo xom wi), (xmo, .inr (4, [mla, .long mct, .long myr, .long mdy, .long mlg])), (eO10a wi w0 w1 w2 w3 w4), (eO0a bk bto bnm bla bsk bru bbo bdi bda bdk bdt bdp bno), (eA0 bto cTo 5 fTo), (eA4 bla cLa 4 (fun k => some (La k))), (eO1a (La 0) (FI 0) (GR 0) (FR 0)), (eO9a bsk wd wf mp mb mo sp sb), (eO8a bru rco rsz ren rst rkn), (eA0 rco cRc 64 fRc), (eA0 ren cRe 4 fRe), (eA1 rst cRs 64 fRs), (mq, .inr (12, mF g gl rf)), (eA0 (rf 24) (ck 24) 14 f_sky), (eA0 (rf 29) (ck 29) 24 f_landHas)]) (hS : va_S A s.heap H0 locs) (hl : lv_has ls 7 [(4, .int i), (3, .ref o3), (2, .ref mq), (1, .ref x), (0, .ref bs)]) (kk1 : ∀ (X_19 : Int64 × (Value) × (Int64) × (Int64) × (Int64) × (Int64) × (Int32) × (Int32) × (Int32) × (Int32) × (Int32) × (Nat → Int64)), X_19 = (fx_next mla mct myr mdy mlg w0 w1 w2 w3 w4 fTo La FI GR FR wd wf mp mb mo sp sb fRc fRe fRs ((y1.toInt64 <<< ((32 : Int32).toInt64 &&& 63)) ||| (y2.toInt64 &&& 4294967295)) y3 y4 y5) → ∀ (r_6 : Int64), r_6 = X_19.1 → ∀ (u_7 : (Value) × (Int64) × (Int64) × (Int64) × (Int64) × (Int32) × (Int32) × (Int32) × (Int32) × (Int32) × (Nat → Int64)), u_7 = X_19.2 → ∀ (X_30 : Int64 × (Int32) × (Int64) × (Int64)), X_30 = (fq_next f_sky f_landHas ((y1.toInt64 <<< ((32 : Int32).toInt64 &&& 63)) ||| (y2.toInt64 &&& 4294967295)) y3 y4 y5 (g 12) (gl 53) (gl 54)) → ∀ (r_25 : Int64), r_25 = X_30.1 → ∀ (u_26 : (Int32) × (Int64) × (Int64)), u_26 = X_30.2 → ∀ (H : Heap) (locs : List Loc) (ls : Array Slot), va_P (dC, dI) vwCl [(eO11a x pa bk xsp xdy le xst xsc xim xil xik xmo xom wi), (xmo, .inr (4, [u_7.1, .long u_7.2.1, .long u_7.2.2.1, .long u_7.2.2.2.1, .long u_7.2.2.2.2.1])), (eO10a wi u_7.2.2.2.2.2.1 u_7.2.2.2.2.2.2.1 u_7.2.2.2.2.2.2.2.1 u_7.2.2.2.2.2.2.2.2.1 u_7.2.2.2.2.2.2.2.2.2.1), (eO0a bk bto bnm bla bsk bru bbo bdi bda bdk bdt bdp bno), (eA0 bto cTo 5 fTo), (eA4 bla cLa 4 (fun k => some (La k))), (eO1a (La 0) (FI 0) (GR 0) (FR 0)), (eO9a bsk wd wf mp mb mo sp sb), (eO8a bru rco rsz ren rst rkn), (eA0 rco cRc 64 fRc), (eA0 ren cRe 4 fRe), (eA1 rst cRs 64 u_7.2.2.2.2.2.2.2.2.2.2), (mq, .inr (12, mF (upd g 2 u_26.1) (vp_updL (vp_updL gl 53 u_26.2.1) 54 u_26.2.2) rf)), (eA0 (rf 24) (ck 24) 14 f_sky), (eA0 (rf 29) (ck 29) 24 f_landHas)] H → va_S A s.heap H locs → lv_has ls 7 [(4, .int i), (3, .ref o3), (2, .ref mq), (1, .ref x), (0, .ref bs)] → H0.size ≤ H.size → (∀ q : Nat, q < H0.size → ¬ Bp q → H[q]? = H0[q]?) → W p l e room_1 s m #[Value.ref bs] below meth c H locs (ce + 1) (sl + 6) (lw_Z below #[Value.ref bs] s) (F0 m 2012 ls [])) : W p l e room_1 s m #[Value.ref bs] below meth c H0 locs ce sl (lw_Z below #[Value.ref bs] s) (F0 m 1213 ls []) := by
  obtain ⟨hx, hb, hr, hml, hown, hts, hX, hbl, hlocks, hgv⟩ := id C0
  have htw : ∀ w ∈ wsL_law, w.before _ s = true := fun w h => hts w (wsL_law_in w h)
  have hown : s.vm.findClass RL = some m.cls := hown
  have hA : ∀ q : Nat, s.heap.size ≤ q → A q := fun q h => (hAe q).mpr h
  have hbA : ¬ A bs := fun h => absurd ((hAe bs).mp h) (Nat.not_le.mpr hbl)
  obtain ⟨H, rH⟩ : ∃ z : Heap, z = H0 := ⟨_, rfl⟩
  have hfr : ∀ q : Nat, q < H0.size → ¬ Bp q → H[q]? = H0[q]? := fun q _ _ => by rw [rH]
  have hz0 : H0.size ≤ H.size := by rw [rH]; exact Nat.le_refl _
  rw [← rH] at hP hS ⊢
  refine lv_aload_n hx hb dL_law_1213 rfl (lv_at hl 3 rfl) ?_
  refine lv_aload_n hx hb dL_law_1214 rfl (lv_at hl 4 rfl) ?_
  refine lv_iload hx hb dL_law_1215 (lv_at hl 0 rfl) ?_
  refine lv_iconst (v := 1) hx hb dL_law_1217 (by decide) ?_
  refine lv_iadd hx hb dL_law_1218 ?_
  refine va_sld hx hb hX hbl hbA hS hi1 dL_law_1219 ?_
  rw [hy1]
  refine lv_i2l (v := y1.toInt64) hx hb dL_law_1220 rfl ?_
  refine lv_bipush (v := 32) hx hb dL_law_1221 (by decide) ?_
  refine lv_lshl (v := (y1.toInt64 <<< ((32 : Int32).toInt64 &&& 63))) hx hb dL_law_1223 rfl ?_
  refine lv_aload_n hx hb dL_law_1224 rfl (lv_at hl 4 rfl) ?_
  refine lv_iload hx hb dL_law_1225 (lv_at hl 0 rfl) ?_
  refine lv_iconst (v := 2) hx hb dL_law_1227 (by decide) ?_
  refine lv_iadd hx hb dL_law_1228 ?_
  refine va_sld hx hb hX hbl hbA hS hi2 dL_law_1229 ?_
  rw [hy2]
  refine lv_i2l (v := y2.toInt64) hx hb dL_law_1230 rfl ?_
  refine lv_ldc2 (v := 4294967295) hx hb hown (htw _ (ck_1 _ (List.mem_of_getElem? (i := 7) rfl))) dL_law_1231 ?_
  refine lv_land hx hb dL_law_1234 ?_
  refine lv_lor hx hb dL_law_1235 ?_
  refine lv_aload_n hx hb dL_law_1236 rfl (lv_at hl 4 rfl) ?_
  refine lv_iload hx hb dL_law_1237 (lv_at hl 0 rfl) ?_
  refine lv_iconst (v := 3) hx hb dL_law_1239 (by decide) ?_
  refine lv_iadd hx hb dL_law_1240 ?_
  refine va_sld hx hb hX hbl hbA hS hi3 dL_law_1241 ?_
  rw [hy3]
  refine lv_aload_n hx hb dL_law_1242 rfl (lv_at hl 4 rfl) ?_
  refine lv_iload hx hb dL_law_1243 (lv_at hl 0 rfl) ?_
  refine lv_iconst (v := 4) hx hb dL_law_1245 (by decide) ?_
  refine lv_iadd hx hb dL_law_1246 ?_
  refine va_sld hx hb hX hbl hbA hS hi4 dL_law_1247 ?_
  rw [hy4]
  refine lv_aload_n hx hb dL_law_1248 rfl (lv_at hl 4 rfl) ?_
  refine lv_iload hx hb dL_law_1249 (lv_at hl 0 rfl) ?_
  refine lv_iconst (v := 5) hx hb dL_law_1251 (by decide) ?_
  refine lv_iadd hx hb dL_law_1252 ?_
  refine va_sld hx hb hX hbl hbA hS hi5 dL_law_1253 ?_
  rw [hy5]
  obtain ⟨hPc, hDc, hFc, hCc⟩ := zsub3 (ws' := [(eO11a x pa bk xsp xdy le xst xsc xim xil xik xmo xom wi), (xmo, .inr (4, [mla, .long mct, .long myr, .long mdy, .long mlg])), (eO10a wi w0 w1 w2 w3 w4), (eO0a bk bto bnm bla bsk bru bbo bdi bda bdk bdt bdp bno), (eA0 bto cTo 5 fTo), (eA4 bla cLa 4 (fun k => some (La k))), (eO1a (La 0) (FI 0) (GR 0) (FR 0)), (eO9a bsk wd wf mp mb mo sp sb), (eO8a bru rco rsz ren rst rkn), (eA0 rco cRc 64 fRc), (eA0 ren cRe 4 fRe), (eA1 rst cRs 64 fRs)]) hP hD hS hA [0, 1, 2, 3, 4, 5, 6, 7, 8, 9, 10, 11] (by decide +kernel) rfl
  have hKc := hK.sub (tys' := [(cTo, .int), (cLa, .object RX1), (cRc, .int), (cRe, .int), (cRs, .long)]) [0, 1, 2, 3, 4] rfl
  refine va_calll (va_runV (As := [.long ((y1.toInt64 <<< ((32 : Int32).toInt64 &&& 63)) ||| (y2.toInt64 &&& 4294967295)), .int y3, .int y4, .int y5]) (rest := []) ⟨hx, hb, hml, hown, htw⟩ (gx_next l dC dI x pa bk xsp xdy le xst xsc xim xil xik xmo xom wi mla mct myr mdy mlg w0 w1 w2 w3 w4 bto bnm bla bsk bru bbo bdi bda bdk bdt bdp bno cTo fTo cLa La FI GR FR wd wf mp mb mo sp sb rco rsz ren rst rkn cRc fRc cRe fRe cRs fRs ((y1.toInt64 <<< ((32 : Int32).toInt64 &&& 63)) ||| (y2.toInt64 &&& 4294967295)) y3 y4 y5 H.size hE) (cwV 4 htw (xg_V (ck_48 _ (List.mem_of_getElem? (i := 4) rfl)) (ck_48 _ (List.mem_of_getElem? (i := 5) rfl)) (ck_48 _ (List.mem_of_getElem? (i := 6) rfl)) (ck_1 _ (List.mem_of_getElem? (i := 2) rfl)) (ck_48 _ (List.mem_of_getElem? (i := 7) rfl))) rfl rfl rfl (by exact ⟨rfl, hdc_8.1, hdc_8.2, hdd_62⟩) ⟨Nat.le_of_ble_eq_true rfl, Nat.le_of_ble_eq_true rfl⟩) ⟨fun a U g mk q => by obtain ⟨q0, q1, qP, qK, qD, qx0⟩ := q; exact ⟨q0, q1, qP, va_K.moved (u := U) (U := U.calling g mk a) (Vm.Alike.refl U.vm) qK, qD, xN.calling qx0⟩, va_recv hKc hPc (ci := 11) (q0 := 0) rfl rfl, fun U hU hW => ⟨rfl, by rw [hU], by rw [hU]; exact hPc, va_K.moved hW.alike hKc, hDc.weaken (fun _ _ _ _ => trivial), xN.warm hW hNx⟩⟩ rfl rfl hl.1 rfl (lv_room (Nat.le_of_ble_eq_true rfl)) dL_law_1254 ⟨by first | exact Nat.le_of_ble_eq_true rfl | exact yR (n := 0) (by omega) rfl, by first | exact Nat.le_of_ble_eq_true rfl | exact yR2 (n := 0) (by omega) rfl⟩) hS (fun q _ h => hFc q h) hFc (fun r_6 u_7 t H1 locs ht hvm hw hB hz1 hk1 hS => ?_)
  try dsimp only at hw
  obtain ⟨hP1, hK1, hD1⟩ := hB
  rw [ht] at hP1
  have hK1 := va_K.moved hvm.symm hK1
  have hK1 : va_K (dC, dI) vwCl [] s := hK1
  obtain ⟨hP, hD⟩ := va_join (wr := [(mq, .inr (12, mF g gl rf)), (eA0 (rf 24) (ck 24) 14 f_sky), (eA0 (rf 29) (ck 29) 24 f_landHas)]) (w1 := [(eO11a x pa bk xsp xdy le xst xsc xim xil xik xmo xom wi), (xmo, .inr (4, [u_7.1, .long u_7.2.1, .long u_7.2.2.1, .long u_7.2.2.2.1, .long u_7.2.2.2.2.1])), (eO10a wi u_7.2.2.2.2.2.1 u_7.2.2.2.2.2.2.1 u_7.2.2.2.2.2.2.2.1 u_7.2.2.2.2.2.2.2.2.1 u_7.2.2.2.2.2.2.2.2.2.1), (eO0a bk bto bnm bla bsk bru bbo bdi bda bdk bdt bdp bno), (eA0 bto cTo 5 fTo), (eA4 bla cLa 4 (fun k => some (La k))), (eO1a (La 0) (FI 0) (GR 0) (FR 0)), (eO9a bsk wd wf mp mb mo sp sb), (eO8a bru rco rsz ren rst rkn), (eA0 rco cRc 64 fRc), (eA0 ren cRe 4 fRe), (eA1 rst cRs 64 u_7.2.2.2.2.2.2.2.2.2.2)]) hP hD [0, 1, 2, 3, 4, 5, 6, 7, 8, 9, 10, 11] [12, 13, 14] hCc rfl (by decide +kernel) (by decide +kernel) hk1 hFc hP1 hD1
  have hfr := yF (wc := [(eO11a x pa bk xsp xdy le xst xsc xim xil xik xmo xom wi), (xmo, .inr (4, [mla, .long mct, .long myr, .long mdy, .long mlg])), (eO10a wi w0 w1 w2 w3 w4), (eO0a bk bto bnm bla bsk bru bbo bdi bda bdk bdt bdp bno), (eA0 bto cTo 5 fTo), (eA4 bla cLa 4 (fun k => some (La k))), (eO1a (La 0) (FI 0) (GR 0) (FR 0)), (eO9a bsk wd wf mp mb mo sp sb), (eO8a bru rco rsz ren rst rkn), (eA0 rco cRc 64 fRc), (eA0 ren cRe 4 fRe), (eA1 rst cRs 64 fRs)]) hBs [0, 1, 2, 3, 4, 5, 6, 7, 8, 9, 10, 11] rfl hz0 hfr hk1
  have hz0 := Nat.le_trans hz0 hz1
  generalize H1 = H at hP hS hfr hz0 ⊢
  obtain ⟨hP, hD⟩ := zre [(mq, .inr (12, mF g gl rf)), (eA0 (rf 24) (ck 24) 14 f_sky), (eA0 (rf 29) (ck 29) 24 f_landHas), (eO11a x pa bk xsp xdy le xst xsc xim xil xik xmo xom wi), (xmo, .inr (4, [u_7.1, .long u_7.2.1, .long u_7.2.2.1, .long u_7.2.2.2.1, .long u_7.2.2.2.2.1])), (eO10a wi u_7.2.2.2.2.2.1 u_7.2.2.2.2.2.2.1 u_7.2.2.2.2.2.2.2.1 u_7.2.2.2.2.2.2.2.2.1 u_7.2.2.2.2.2.2.2.2.2.1), (eO0a bk bto bnm bla bsk bru bbo bdi bda bdk bdt bdp bno), (eA0 bto cTo 5 fTo), (eA4 bla cLa 4 (fun k => some (La k))), (eO1a (La 0) (FI 0) (GR 0) (FR 0)), (eO9a bsk wd wf mp mb mo sp sb), (eO8a bru rco rsz ren rst rkn), (eA0 rco cRc 64 fRc), (eA0 ren cRe 4 fRe), (eA1 rst cRs 64 u_7.2.2.2.2.2.2.2.2.2.2)] hP hD rfl
  refine W.widen (k := ce + 0) (n := sl + 0) (by omega) (by omega) ?_
  obtain ⟨X_19, hX_19⟩ : ∃ X9 : Int64 × (Value) × (Int64) × (Int64) × (Int64) × (Int64) × (Int32) × (Int32) × (Int32) × (Int32) × (Int32) × (Nat → Int64), X9 = (fx_next mla mct myr mdy mlg w0 w1 w2 w3 w4 fTo La FI GR FR wd wf mp mb mo sp sb fRc fRe fRs ((y1.toInt64 <<< ((32 : Int32).toInt64 &&& 63)) ||| (y2.toInt64 &&& 4294967295)) y3 y4 y5) := ⟨_, rfl⟩
  have hq_r_6 : r_6 = X_19.1 := by rw [hX_19]; exact hw.1
  have hq_u_7 : u_7 = X_19.2 := by rw [hX_19]; exact hw.2
  refine lv_pop2_2 hx hb dL_law_1257 rfl ?_
  refine lv_aload_n hx hb dL_law_1258 rfl (lv_at hl 2 rfl) ?_
  refine lv_aload_n hx hb dL_law_1259 rfl (lv_at hl 4 rfl) ?_
  refine lv_iload hx hb dL_law_1260 (lv_at hl 0 rfl) ?_
  refine lv_iconst (v := 1) hx hb dL_law_1262 (by decide) ?_
  refine lv_iadd hx hb dL_law_1263 ?_
  refine va_sld hx hb hX hbl hbA hS hi1 dL_law_1264 ?_
  rw [hy1]
  refine lv_i2l (v := y1.toInt64) hx hb dL_law_1265 rfl ?_
  refine lv_bipush (v := 32) hx hb dL_law_1266 (by decide) ?_
  refine lv_lshl (v := (y1.toInt64 <<< ((32 : Int32).toInt64 &&& 63))) hx hb dL_law_1268 rfl ?_
  refine lv_aload_n hx hb dL_law_1269 rfl (lv_at hl 4 rfl) ?_
  refine lv_iload hx hb dL_law_1270 (lv_at hl 0 rfl) ?_
  refine lv_iconst (v := 2) hx hb dL_law_1272 (by decide) ?_
  refine lv_iadd hx hb dL_law_1273 ?_
  refine va_sld hx hb hX hbl hbA hS hi2 dL_law_1274 ?_
  rw [hy2]
  refine lv_i2l (v := y2.toInt64) hx hb dL_law_1275 rfl ?_
  refine lv_ldc2 (v := 4294967295) hx hb hown (htw _ (ck_1 _ (List.mem_of_getElem? (i := 7) rfl))) dL_law_1276 ?_
  refine lv_land hx hb dL_law_1279 ?_
  refine lv_lor hx hb dL_law_1280 ?_
  refine lv_aload_n hx hb dL_law_1281 rfl (lv_at hl 4 rfl) ?_
  refine lv_iload hx hb dL_law_1282 (lv_at hl 0 rfl) ?_
  refine lv_iconst (v := 3) hx hb dL_law_1284 (by decide) ?_
  refine lv_iadd hx hb dL_law_1285 ?_
  refine va_sld hx hb hX hbl hbA hS hi3 dL_law_1286 ?_
  rw [hy3]
  refine lv_aload_n hx hb dL_law_1287 rfl (lv_at hl 4 rfl) ?_
  refine lv_iload hx hb dL_law_1288 (lv_at hl 0 rfl) ?_
  refine lv_iconst (v := 4) hx hb dL_law_1290 (by decide) ?_
  refine lv_iadd hx hb dL_law_1291 ?_
  refine va_sld hx hb hX hbl hbA hS hi4 dL_law_1292 ?_
  rw [hy4]
  refine lv_aload_n hx hb dL_law_1293 rfl (lv_at hl 4 rfl) ?_
  refine lv_iload hx hb dL_law_1294 (lv_at hl 0 rfl) ?_
  refine lv_iconst (v := 5) hx hb dL_law_1296 (by decide) ?_
  refine lv_iadd hx hb dL_law_1297 ?_
  refine va_sld hx hb hX hbl hbA hS hi5 dL_law_1298 ?_
  rw [hy5]
  obtain ⟨hPc, hDc, hFc, hCc⟩ := zsub3 (ws' := [(mq, .inr (12, mF g gl rf)), (eA0 (rf 24) (ck 24) 14 f_sky), (eA0 (rf 29) (ck 29) 24 f_landHas)]) hP hD hS hA [0, 1, 2] (by decide) rfl
  have hKc := hK.sub (tys' := [((ck 24), .int), ((ck 29), .int)]) [5, 6] rfl
  refine va_calll (va_runV (As := [.long ((y1.toInt64 <<< ((32 : Int32).toInt64 &&& 63)) ||| (y2.toInt64 &&& 4294967295)), .int y3, .int y4, .int y5]) (rest := []) ⟨hx, hb, hml, hown, htw⟩ (gq_next l dC dI mq g gl rf ck f_sky f_landHas ((y1.toInt64 <<< ((32 : Int32).toInt64 &&& 63)) ||| (y2.toInt64 &&& 4294967295)) y3 y4 y5 H.size hln0 hln4 hLZ hs0 hs2 hs5) (cwV 4 htw (xg_V (ck_48 _ (List.mem_of_getElem? (i := 13) rfl)) (ck_48 _ (List.mem_of_getElem? (i := 14) rfl)) (ck_48 _ (List.mem_of_getElem? (i := 15) rfl)) (ck_1 _ (List.mem_of_getElem? (i := 5) rfl)) (ck_48 _ (List.mem_of_getElem? (i := 16) rfl))) rfl rfl rfl (by exact ⟨rfl, hdc_14.1, hdc_14.2, hdd_62⟩) ⟨Nat.le_of_ble_eq_true rfl, Nat.le_of_ble_eq_true rfl⟩) ⟨fun a U g mk q => by obtain ⟨q0, q1, qP, qK, qD⟩ := q; exact ⟨q0, q1, qP, va_K.moved (u := U) (U := U.calling g mk a) (Vm.Alike.refl U.vm) qK, qD⟩, va_recv hKc hPc (ci := 12) (q0 := 0) rfl rfl, fun U hU hW => ⟨rfl, by rw [hU], by rw [hU]; exact hPc, va_K.moved hW.alike hKc, hDc.weaken (fun _ _ _ _ => trivial)⟩⟩ rfl rfl hl.1 rfl (lv_room (Nat.le_of_ble_eq_true rfl)) dL_law_1299 ⟨by first | exact Nat.le_of_ble_eq_true rfl | exact yR (n := 0) (by omega) rfl, by first | exact Nat.le_of_ble_eq_true rfl | exact yR2 (n := 0) (by omega) rfl⟩) hS (fun q _ h => hFc q h) hFc (fun r_25 u_26 t H1 locs ht hvm hw hB hz1 hk1 hS => ?_)
  try dsimp only at hw
  obtain ⟨hP1, hK1, hD1⟩ := hB
  rw [ht] at hP1
  have hK1 := va_K.moved hvm.symm hK1
  have hK1 : va_K (dC, dI) vwCl [] s := hK1
  obtain ⟨hP, hD⟩ := va_join (wr := [(eO11a x pa bk xsp xdy le xst xsc xim xil xik xmo xom wi), (xmo, .inr (4, [u_7.1, .long u_7.2.1, .long u_7.2.2.1, .long u_7.2.2.2.1, .long u_7.2.2.2.2.1])), (eO10a wi u_7.2.2.2.2.2.1 u_7.2.2.2.2.2.2.1 u_7.2.2.2.2.2.2.2.1 u_7.2.2.2.2.2.2.2.2.1 u_7.2.2.2.2.2.2.2.2.2.1), (eO0a bk bto bnm bla bsk bru bbo bdi bda bdk bdt bdp bno), (eA0 bto cTo 5 fTo), (eA4 bla cLa 4 (fun k => some (La k))), (eO1a (La 0) (FI 0) (GR 0) (FR 0)), (eO9a bsk wd wf mp mb mo sp sb), (eO8a bru rco rsz ren rst rkn), (eA0 rco cRc 64 fRc), (eA0 ren cRe 4 fRe), (eA1 rst cRs 64 u_7.2.2.2.2.2.2.2.2.2.2)]) (w1 := [(mq, .inr (12, mF (upd g 2 u_26.1) (vp_updL (vp_updL gl 53 u_26.2.1) 54 u_26.2.2) rf)), (eA0 (rf 24) (ck 24) 14 f_sky), (eA0 (rf 29) (ck 29) 24 f_landHas)]) hP hD [0, 1, 2] [3, 4, 5, 6, 7, 8, 9, 10, 11, 12, 13, 14] hCc rfl (by decide +kernel) (by decide +kernel) hk1 hFc hP1 hD1
  have hfr := yF (wc := [(mq, .inr (12, mF g gl rf)), (eA0 (rf 24) (ck 24) 14 f_sky), (eA0 (rf 29) (ck 29) 24 f_landHas)]) hBs [12, 13, 14] rfl hz0 hfr hk1
  have hz0 := Nat.le_trans hz0 hz1
  generalize H1 = H at hP hS hfr hz0 ⊢
  obtain ⟨hP, hD⟩ := zre [(eO11a x pa bk xsp xdy le xst xsc xim xil xik xmo xom wi), (xmo, .inr (4, [u_7.1, .long u_7.2.1, .long u_7.2.2.1, .long u_7.2.2.2.1, .long u_7.2.2.2.2.1])), (eO10a wi u_7.2.2.2.2.2.1 u_7.2.2.2.2.2.2.1 u_7.2.2.2.2.2.2.2.1 u_7.2.2.2.2.2.2.2.2.1 u_7.2.2.2.2.2.2.2.2.2.1), (eO0a bk bto bnm bla bsk bru bbo bdi bda bdk bdt bdp bno), (eA0 bto cTo 5 fTo), (eA4 bla cLa 4 (fun k => some (La k))), (eO1a (La 0) (FI 0) (GR 0) (FR 0)), (eO9a bsk wd wf mp mb mo sp sb), (eO8a bru rco rsz ren rst rkn), (eA0 rco cRc 64 fRc), (eA0 ren cRe 4 fRe), (eA1 rst cRs 64 u_7.2.2.2.2.2.2.2.2.2.2), (mq, .inr (12, mF (upd g 2 u_26.1) (vp_updL (vp_updL gl 53 u_26.2.1) 54 u_26.2.2) rf)), (eA0 (rf 24) (ck 24) 14 f_sky), (eA0 (rf 29) (ck 29) 24 f_landHas)] hP hD rfl
  refine W.widen (k := ce + 0) (n := sl + 0) (by omega) (by omega) ?_
  obtain ⟨X_30, hX_30⟩ : ∃ X9 : Int64 × (Int32) × (Int64) × (Int64), X9 = (fq_next f_sky f_landHas ((y1.toInt64 <<< ((32 : Int32).toInt64 &&& 63)) ||| (y2.toInt64 &&& 4294967295)) y3 y4 y5 (g 12) (gl 53) (gl 54)) := ⟨_, rfl⟩
  have hq_r_25 : r_25 = X_30.1 := by rw [hX_30]; exact hw.1
  have hq_u_26 : u_26 = X_30.2 := by rw [hX_30]; exact hw.2
  refine lv_pop2_2 hx hb dL_law_1302 rfl ?_
  refine lv_goto (tgt := 2012) hx hb dL_law_1303 (by decide) ?_
  refine W.widen (k := ce + 1) (n := sl + 6) (by omega) (by omega) ?_
  exact kk1 X_19 hX_19 r_6 hq_r_6 u_7 hq_u_7 X_30 hX_30 r_25 hq_r_25 u_26 hq_u_26 H locs ls (hP.sub (ws' := [(eO11a x pa bk xsp xdy le xst xsc xim xil xik xmo xom wi), (xmo, .inr (4, [u_7.1, .long u_7.2.1, .long u_7.2.2.1, .long u_7.2.2.2.1, .long u_7.2.2.2.2.1])), (eO10a wi u_7.2.2.2.2.2.1 u_7.2.2.2.2.2.2.1 u_7.2.2.2.2.2.2.2.1 u_7.2.2.2.2.2.2.2.2.1 u_7.2.2.2.2.2.2.2.2.2.1), (eO0a bk bto bnm bla bsk bru bbo bdi bda bdk bdt bdp bno), (eA0 bto cTo 5 fTo), (eA4 bla cLa 4 (fun k => some (La k))), (eO1a (La 0) (FI 0) (GR 0) (FR 0)), (eO9a bsk wd wf mp mb mo sp sb), (eO8a bru rco rsz ren rst rkn), (eA0 rco cRc 64 fRc), (eA0 ren cRe 4 fRe), (eA1 rst cRs 64 u_7.2.2.2.2.2.2.2.2.2.2), (mq, .inr (12, mF (upd g 2 u_26.1) (vp_updL (vp_updL gl 53 u_26.2.1) 54 u_26.2.2) rf)), (eA0 (rf 24) (ck 24) 14 f_sky), (eA0 (rf 29) (ck 29) 24 f_landHas)]) [0, 1, 2, 3, 4, 5, 6, 7, 8, 9, 10, 11, 12, 13, 14] rfl) hS (lv_sub hl [0, 1, 2, 3, 4] rfl) hz0 hfr

theorem dL_law_1415 : decode cL_law 1415 = .ok (.aload_n 1, 1) := zk_43 (by decide +kernel)
theorem dL_law_1416 : decode cL_law 1416 = .ok (.aload_n 0, 1) := zk_42 (by decide +kernel)
theorem dL_law_1417 : decode cL_law 1417 = .ok (.iload 4, 2) := zk_21 (by decide +kernel)
theorem dL_law_1419 : decode cL_law 1419 = .ok (.iconst 1, 1) := zk_4 (by decide +kernel)
theorem dL_law_1420 : decode cL_law 1420 = .ok (.iadd, 1) := zk_96 (by decide +kernel)
theorem dL_law_1421 : decode cL_law 1421 = .ok (.iaload, 1) := zk_46 (by decide +kernel)
theorem dL_law_1422 : decode cL_law 1422 = .ok (.aload_n 0, 1) := zk_42 (by decide +kernel)
theorem dL_law_1423 : decode cL_law 1423 = .ok (.iload 4, 2) := zk_21 (by decide +kernel)
theorem dL_law_1425 : decode cL_law 1425 = .ok (.iconst 2, 1) := zk_5 (by decide +kernel)
theorem dL_law_1426 : decode cL_law 1426 = .ok (.iadd, 1) := zk_96 (by decide +kernel)
theorem dL_law_1427 : decode cL_law 1427 = .ok (.iaload, 1) := zk_46 (by decide +kernel)
theorem dL_law_1428 : decode cL_law 1428 = .ok (.aload_n 0, 1) := zk_42 (by decide +kernel)
theorem dL_law_1429 : decode cL_law 1429 = .ok (.iload 4, 2) := zk_21 (by decide +kernel)
theorem dL_law_1431 : decode cL_law 1431 = .ok (.iconst 3, 1) := zk_6 (by decide +kernel)
theorem dL_law_1432 : decode cL_law 1432 = .ok (.iadd, 1) := zk_96 (by decide +kernel)
theorem dL_law_1433 : decode cL_law 1433 = .ok (.iaload, 1) := zk_46 (by decide +kernel)
theorem dL_law_1434 : decode cL_law 1434 = .ok (.invokevirtual 117, 3) := zk_182 (by decide +kernel)
theorem dL_law_1437 : decode cL_law 1437 = .ok (.pop2, 1) := zk_88 (by decide +kernel)
theorem dL_law_1438 : decode cL_law 1438 = .ok (.aload_n 2, 1) := zk_44 (by decide +kernel)
theorem dL_law_1439 : decode cL_law 1439 = .ok (.aload_n 0, 1) := zk_42 (by decide +kernel)
theorem dL_law_1440 : decode cL_law 1440 = .ok (.iload 4, 2) := zk_21 (by decide +kernel)
theorem dL_law_1442 : decode cL_law 1442 = .ok (.iconst 1, 1) := zk_4 (by decide +kernel)
theorem dL_law_1443 : decode cL_law 1443 = .ok (.iadd, 1) := zk_96 (by decide +kernel)
theorem dL_law_1444 : decode cL_law 1444 = .ok (.iaload, 1) := zk_46 (by decide +kernel)
theorem dL_law_1445 : decode cL_law 1445 = .ok (.aload_n 0, 1) := zk_42 (by decide +kernel)
theorem dL_law_1446 : decode cL_law 1446 = .ok (.iload 4, 2) := zk_21 (by decide +kernel)
theorem dL_law_1448 : decode cL_law 1448 = .ok (.iconst 2, 1) := zk_5 (by decide +kernel)
theorem dL_law_1449 : decode cL_law 1449 = .ok (.iadd, 1) := zk_96 (by decide +kernel)
theorem dL_law_1450 : decode cL_law 1450 = .ok (.iaload, 1) := zk_46 (by decide +kernel)
theorem dL_law_1451 : decode cL_law 1451 = .ok (.aload_n 0, 1) := zk_42 (by decide +kernel)
theorem dL_law_1452 : decode cL_law 1452 = .ok (.iload 4, 2) := zk_21 (by decide +kernel)
theorem dL_law_1454 : decode cL_law 1454 = .ok (.iconst 3, 1) := zk_6 (by decide +kernel)
theorem dL_law_1455 : decode cL_law 1455 = .ok (.iadd, 1) := zk_96 (by decide +kernel)
theorem dL_law_1456 : decode cL_law 1456 = .ok (.iaload, 1) := zk_46 (by decide +kernel)
theorem dL_law_1457 : decode cL_law 1457 = .ok (.invokevirtual 121, 3) := zk_182 (by decide +kernel)
theorem dL_law_1460 : decode cL_law 1460 = .ok (.pop2, 1) := zk_88 (by decide +kernel)
theorem dL_law_1461 : decode cL_law 1461 = .ok (.goto 551, 3) := zk_167 (by decide +kernel)
set_option maxHeartbeats 4000000 in
set_option maxRecDepth 100000 in
theorem law_deed (l : Launch) (hst : l.stackTraces = false) {p : Program} {e : Env} {s : State} {m : MethodId} {below : List Frame} {meth : Method} {c : Code} {bs L : Nat} {xs : Nat → Int32} (C0 : lw_At p s m meth c bs L xs) (dC : Nat → ClassId) (dI : Nat → Nat → Nat) (A : Nat → Prop) (hAe : ∀ q, A q ↔ s.heap.size ≤ q) (x : Nat) (pa : Nat) (bk : Nat) (xsp : Nat) (xdy : Nat) (le : Nat) (xst : Nat) (xsc : Int32) (xim : Nat) (xil : Nat) (xik : Int32) (xmo : Nat) (xom : Nat) (wi : Nat) (mla : Value) (mct : Int64) (myr : Int64) (mdy : Int64) (mlg : Int64) (w0 : Int32) (w1 : Int32) (w2 : Int32) (w3 : Int32) (w4 : Int32) (bto : Nat) (bnm : Nat) (bla : Nat) (bsk : Nat) (bru : Nat) (bbo : Nat) (bdi : Nat) (bda : Nat) (bdk : Nat) (bdt : Nat) (bdp : Nat) (bno : Nat) (cTo : ClassId) (fTo : Nat → Int32) (cLa : ClassId) (La : Nat → Nat) (FI : Nat → Int32) (GR : Nat → Int32) (FR : Nat → Int32) (wd : Int32) (wf : Int32) (mp : Int32) (mb : Int32) (mo : Int32) (sp : Int32) (sb : Int32) (rco : Nat) (rsz : Int32) (ren : Nat) (rst : Nat) (rkn : Int32) (cRc : ClassId) (fRc : Nat → Int32) (cRe : ClassId) (fRe : Nat → Int32) (cRs : ClassId) (fRs : Nat → Int64) (cDa : ClassId) (fDa : Nat → Int64) (cDk : ClassId) (fDk : Nat → Int32) (cDt : ClassId) (fDt : Nat → Int32) (cDp : ClassId) (fDp : Nat → Int32) (mq : Nat) (g : Nat → Int32) (gl : Nat → Int64) (rf : Nat → Nat) (ck : Nat → ClassId) (f_sky : Nat → Int32) (f_landHas : Nat → Int32) (f_first : Nat → Int32) (f_last : Nat → Int32) (f_deedOn : Nat → Int64) (f_deedHas : Nat → Int32) (f_knot : Nat → Int32) (f_part : Nat → Int32) (f_other : Nat → Int32) (f_names : Nat → Int64) (f_value : Nat → Int64) (o3 : Nat) (hE : ∀ k, ¬ fRe k < 0) (ht3 : (fTo 3) ≤ 4) (hfe0 : ¬ (g 13) < 0) (hfe4 : (g 13) ≤ 4) (hFA : ∀ k : Int32, ¬ k < 0 → k < (g 13) → ¬ (f_first k.toNatClampNeg) < 0 ∧ (f_last k.toNatClampNeg) ≤ 64 ∧ ¬ (f_last k.toNatClampNeg) < 1) (hKA : ∀ k : Nat, k < 64 → xKV f_knot f_part f_other k) (hln0 : ¬ (g 12) < 0) (hln4 : (g 12) ≤ 4) (hLZ : ∀ k : Int32, ¬ k < 0 → k < (g 12) → ¬ (f_landHas ((3 * k).toNatClampNeg)) = 0) (hs0 : ¬ (f_sky 0) < 1) (hs2 : ¬ (f_sky 2) < 1) (hs5 : ¬ (f_sky 5) < 1) (hde0 : ¬ (g 15) < 0) (hde4 : (g 15) ≤ 4) (hLZ1 : ∀ k : Int32, ¬ k < 0 → k < (g 12) → ¬ (f_landHas ((3 * k).toNatClampNeg)) < 1) (hDE : ∀ k : Int32, ¬ k < 0 → k < (g 15) → ¬ (f_deedOn k.toNatClampNeg) < 0 ∧ (f_deedOn k.toNatClampNeg) ≤ 1000000000000 ∧ ((f_deedHas ((3 * k).toNatClampNeg)) = 2 → ¬ (f_deedHas (((3 * k) + 1).toNatClampNeg)) < 0 ∧ (f_deedHas (((3 * k) + 1).toNatClampNeg)) < (g 13))) (sL : Nat → Nat) (hNx : xN s) (i y1 y2 y3 : Int32) (hi1 : vp_in (i + 1) L) (hy1 : xs (i + 1).toNatClampNeg = y1) (hi2 : vp_in (i + 2) L) (hy2 : xs (i + 2).toNatClampNeg = y2) (hi3 : vp_in (i + 3) L) (hy3 : xs (i + 3).toNatClampNeg = y3)  (Bp : Nat → Prop) (H0 : Heap) (locs : List Loc) (ls : Array Slot) (ce sl : Nat) (hce : ce + 1 ≤ 601024) (hsl : sl + 6 ≤ 7293034) (hK : va_K (dC, dI) vwCl [(cTo, .int), (cLa, .object RX1), (cRc, .int), (cRe, .int), (cRs, .long), (cDa, .long), (cDk, .int), (cDt, .int), (cDp, .int), ((ck 24), .int), ((ck 29), .int), ((ck 31), .int), ((ck 32), .int), ((ck 37), .long), ((ck 38), .int), ((ck 41), .int), ((ck 42), .int), ((ck 43), .int), ((ck 55), .long), ((ck 56), .long)] s) (hP : va_P (dC, dI) vwCl [(eO11a x pa bk xsp xdy le xst xsc xim xil xik xmo xom wi), (xmo, .inr (4, [mla, .long mct, .long myr, .long mdy, .long mlg])), (eO10a wi w0 w1 w2 w3 w4), (eO0a bk bto bnm bla bsk bru bbo bdi bda bdk bdt bdp bno), (eA0 bto cTo 5 fTo), (eA4 bla cLa 4 (fun k => some (La k))), (eO1a (La 0) (FI 0) (GR 0) (FR 0)), (eO1a (La 1) (FI 1) (GR 1) (FR 1)), (eO1a (La 2) (FI 2) (GR 2) (FR 2)), (eO1a (La 3) (FI 3) (GR 3) (FR 3)), (eO9a bsk wd wf mp mb mo sp sb), (eO8a bru rco rsz ren rst rkn), (eA0 rco cRc 64 fRc), (eA0 ren cRe 4 fRe), (eA1 rst cRs 64 fRs), (eA1 bda cDa 4 fDa), (eA0 bdk cDk 4 fDk), (eA0 bdt cDt 4 fDt), (eA0 bdp cDp 4 fDp), (mq, .inr (12, mF g gl rf)), (eA0 (rf 24) (ck 24) 14 f_sky), (eA0 (rf 29) (ck 29) 24 f_landHas), (eA0 (rf 31) (ck 31) 8 f_first), (eA0 (rf 32) (ck 32) 8 f_last), (eA1 (rf 37) (ck 37) 8 f_deedOn), (eA0 (rf 38) (ck 38) 24 f_deedHas), (eA0 (rf 41) (ck 41) 128 f_knot), (eA0 (rf 42) (ck 42) 128 f_part), (eA0 (rf 43) (ck 43) 128 f_other), (eA1 (rf 55) (ck 55) 6 f_names), (eA1 (rf 56) (ck 56) 64 f_value)] H0) (hD : va_D A [(eO11a x pa bk xsp xdy le xst xsc xim xil xik xmo xom wi), (xmo, .inr (4, [mla, .long mct, .long myr, .long mdy, .long mlg])), (eO10a wi w0 w1 w2 w3 w4), (eO0a bk bto bnm bla bsk bru bbo bdi bda bdk bdt bdp bno), (eA0 bto cTo 5 fTo), (eA4 bla cLa 4 (fun k => some (La k))), (eO1a (La 0) (FI 0) (GR 0) (FR 0)), (eO1a (La 1) (FI 1) (GR 1) (FR 1)), (eO1a (La 2) (FI 2) (GR 2) (FR 2)), (eO1a (La 3) (FI 3) (GR 3) (FR 3)), (eO9a bsk wd wf mp mb mo sp sb), (eO8a bru rco rsz ren rst rkn), (eA0 rco cRc 64 fRc), (eA0 ren cRe 4 fRe), (eA1 rst cRs 64 fRs), (eA1 bda cDa 4 fDa), (eA0 bdk cDk 4 fDk), (eA0 bdt cDt 4 fDt), (eA0 bdp cDp 4 fDp), (mq, .inr (12, mF g gl rf)), (eA0 (rf 24) (ck 24) 14 f_sky), (eA0 (rf 29) (ck 29) 24 f_landHas), (eA0 (rf 31) (ck 31) 8 f_first), (eA0 (rf 32) (ck 32) 8 f_last), (eA1 (rf 37) (ck 37) 8 f_deedOn), (eA0 (rf 38) (ck 38) 24 f_deedHas), (eA0 (rf 41) (ck 41) 128 f_knot), (eA0 (rf 42) (ck 42) 128 f_part), (eA0 (rf 43) (ck 43) 128 f_other), (eA1 (rf 55) (ck 55) 6 f_names), (eA1 (rf 56) (ck 56) 64 f_value)]) (hBs : yB Bp [(eO11a x pa bk xsp xdy le xst xsc xim xil xik xmo xom wi), (xmo, .inr (4, [mla, .long mct, .long myr, .long mdy, .long mlg])), (eO10a wi w0 w1 w2 w3 w4), (eO0a bk bto bnm bla bsk bru bbo bdi bda bdk bdt bdp bno), (eA0 bto cTo 5 fTo), (eA4 bla cLa 4 (fun k => some (La k))), (eO1a (La 0) (FI 0) (GR 0) (FR 0)), (eO1a (La 1) (FI 1) (GR 1) (FR 1)), (eO1a (La 2) (FI 2) (GR 2) (FR 2)), (eO1a (La 3) (FI 3) (GR 3) (FR 3)), (eO9a bsk wd wf mp mb mo sp sb), (eO8a bru rco rsz ren rst rkn), (eA0 rco cRc 64 fRc), (eA0 ren cRe 4 fRe), (eA1 rst cRs 64 fRs), (eA1 bda cDa 4 fDa), (eA0 bdk cDk 4 fDk), (eA0 bdt cDt 4 fDt), (eA0 bdp cDp 4 fDp), (mq, .inr (12, mF g gl rf)), (eA0 (rf 24) (ck 24) 14 f_sky), (eA0 (rf 29) (ck 29) 24 f_landHas), (eA0 (rf 31) (ck 31) 8 f_first), (eA0 (rf 32) (ck 32) 8 f_last), (eA1 (rf 37) (ck 37) 8 f_deedOn), (eA0 (rf 38) (ck 38) 24 f_deedHas), (eA0 (rf 41) (ck 41) 128 f_knot), (eA0 (rf 42) (ck 42) 128 f_part), (eA0 (rf 43) (ck 43) 128 f_other), (eA1 (rf 55) (ck 55) 6 f_names), (eA1 (rf 56) (ck 56) 64 f_value)]) (hS : va_S A s.heap H0 locs) (hl : lv_has ls 7 [(4, .int i), (3, .ref o3), (2, .ref mq), (1, .ref x), (0, .ref bs)]) (kk1 : ∀ (X_17 : Int64 × (Value) × (Int64) × (Int64) × (Int64) × (Int64) × (Int32) × (Int32) × (Int32) × (Int32) × (Int32) × (Nat → Int64)), X_17 = (fx_deed mla mct myr mdy mlg w0 w1 w2 w3 w4 fTo La FI GR FR wd wf mp mb mo sp sb fRc fRe fRs fDa fDk fDt fDp y1 y2 y3) → ∀ (r_4 : Int64), r_4 = X_17.1 → ∀ (u_5 : (Value) × (Int64) × (Int64) × (Int64) × (Int64) × (Int32) × (Int32) × (Int32) × (Int32) × (Int32) × (Nat → Int64)), u_5 = X_17.2 → ∀ (X_29 : Int64 × (Int32) × (Int64) × (Int64) × (Int32) × (Nat → Int64) × (Nat → Int64)), X_29 = (fq_deed f_sky f_landHas f_first f_last f_deedOn f_deedHas f_knot f_part f_other f_names f_value y1 y2 y3 (g 12) (g 15) (gl 53) (gl 54) (g 57)) → ∀ (r_21 : Int64), r_21 = X_29.1 → ∀ (u_22 : (Int32) × (Int64) × (Int64) × (Int32) × (Nat → Int64) × (Nat → Int64)), u_22 = X_29.2 → ∀ (H : Heap) (locs : List Loc) (ls : Array Slot), va_P (dC, dI) vwCl [(eO11a x pa bk xsp xdy le xst xsc xim xil xik xmo xom wi), (xmo, .inr (4, [u_5.1, .long u_5.2.1, .long u_5.2.2.1, .long u_5.2.2.2.1, .long u_5.2.2.2.2.1])), (eO10a wi u_5.2.2.2.2.2.1 u_5.2.2.2.2.2.2.1 u_5.2.2.2.2.2.2.2.1 u_5.2.2.2.2.2.2.2.2.1 u_5.2.2.2.2.2.2.2.2.2.1), (eO0a bk bto bnm bla bsk bru bbo bdi bda bdk bdt bdp bno), (eA0 bto cTo 5 fTo), (eA4 bla cLa 4 (fun k => some (La k))), (eO1a (La 0) (FI 0) (GR 0) (FR 0)), (eO1a (La 1) (FI 1) (GR 1) (FR 1)), (eO1a (La 2) (FI 2) (GR 2) (FR 2)), (eO1a (La 3) (FI 3) (GR 3) (FR 3)), (eO9a bsk wd wf mp mb mo sp sb), (eO8a bru rco rsz ren rst rkn), (eA0 rco cRc 64 fRc), (eA0 ren cRe 4 fRe), (eA1 rst cRs 64 u_5.2.2.2.2.2.2.2.2.2.2), (eA1 bda cDa 4 fDa), (eA0 bdk cDk 4 fDk), (eA0 bdt cDt 4 fDt), (eA0 bdp cDp 4 fDp), (mq, .inr (12, mF (upd (upd g 2 u_22.1) 57 u_22.2.2.2.1) (vp_updL (vp_updL gl 53 u_22.2.1) 54 u_22.2.2.1) rf)), (eA0 (rf 24) (ck 24) 14 f_sky), (eA0 (rf 29) (ck 29) 24 f_landHas), (eA0 (rf 31) (ck 31) 8 f_first), (eA0 (rf 32) (ck 32) 8 f_last), (eA1 (rf 37) (ck 37) 8 f_deedOn), (eA0 (rf 38) (ck 38) 24 f_deedHas), (eA0 (rf 41) (ck 41) 128 f_knot), (eA0 (rf 42) (ck 42) 128 f_part), (eA0 (rf 43) (ck 43) 128 f_other), (eA1 (rf 55) (ck 55) 6 u_22.2.2.2.2.1), (eA1 (rf 56) (ck 56) 64 u_22.2.2.2.2.2)] H → va_S A s.heap H locs → lv_has ls 7 [(4, .int i), (3, .ref o3), (2, .ref mq), (1, .ref x), (0, .ref bs)] → H0.size ≤ H.size → (∀ q : Nat, q < H0.size → ¬ Bp q → H[q]? = H0[q]?) → W p l e room_1 s m #[Value.ref bs] below meth c H locs (ce + 1) (sl + 6) (lw_Z below #[Value.ref bs] s) (F0 m 2012 ls [])) : W p l e room_1 s m #[Value.ref bs] below meth c H0 locs ce sl (lw_Z below #[Value.ref bs] s) (F0 m 1415 ls []) := by
  obtain ⟨hx, hb, hr, hml, hown, hts, hX, hbl, hlocks, hgv⟩ := id C0
  have htw : ∀ w ∈ wsL_law, w.before _ s = true := fun w h => hts w (wsL_law_in w h)
  have hown : s.vm.findClass RL = some m.cls := hown
  have hA : ∀ q : Nat, s.heap.size ≤ q → A q := fun q h => (hAe q).mpr h
  have hbA : ¬ A bs := fun h => absurd ((hAe bs).mp h) (Nat.not_le.mpr hbl)
  obtain ⟨H, rH⟩ : ∃ z : Heap, z = H0 := ⟨_, rfl⟩
  have hfr : ∀ q : Nat, q < H0.size → ¬ Bp q → H[q]? = H0[q]? := fun q _ _ => by rw [rH]
  have hz0 : H0.size ≤ H.size := by rw [rH]; exact Nat.le_refl _
  rw [← rH] at hP hS ⊢
  refine lv_aload_n hx hb dL_law_1415 rfl (lv_at hl 3 rfl) ?_
  refine lv_aload_n hx hb dL_law_1416 rfl (lv_at hl 4 rfl) ?_
  refine lv_iload hx hb dL_law_1417 (lv_at hl 0 rfl) ?_
  refine lv_iconst (v := 1) hx hb dL_law_1419 (by decide) ?_
  refine lv_iadd hx hb dL_law_1420 ?_
  refine va_sld hx hb hX hbl hbA hS hi1 dL_law_1421 ?_
  rw [hy1]
  refine lv_aload_n hx hb dL_law_1422 rfl (lv_at hl 4 rfl) ?_
  refine lv_iload hx hb dL_law_1423 (lv_at hl 0 rfl) ?_
  refine lv_iconst (v := 2) hx hb dL_law_1425 (by decide) ?_
  refine lv_iadd hx hb dL_law_1426 ?_
  refine va_sld hx hb hX hbl hbA hS hi2 dL_law_1427 ?_
  rw [hy2]
  refine lv_aload_n hx hb dL_law_1428 rfl (lv_at hl 4 rfl) ?_
  refine lv_iload hx hb dL_law_1429 (lv_at hl 0 rfl) ?_
  refine lv_iconst (v := 3) hx hb dL_law_1431 (by decide) ?_
  refine lv_iadd hx hb dL_law_1432 ?_
  refine va_sld hx hb hX hbl hbA hS hi3 dL_law_1433 ?_
  rw [hy3]
  obtain ⟨hPc, hDc, hFc, hCc⟩ := zsub3 (ws' := [(eO11a x pa bk xsp xdy le xst xsc xim xil xik xmo xom wi), (xmo, .inr (4, [mla, .long mct, .long myr, .long mdy, .long mlg])), (eO10a wi w0 w1 w2 w3 w4), (eO0a bk bto bnm bla bsk bru bbo bdi bda bdk bdt bdp bno), (eA0 bto cTo 5 fTo), (eA4 bla cLa 4 (fun k => some (La k))), (eO1a (La 0) (FI 0) (GR 0) (FR 0)), (eO1a (La 1) (FI 1) (GR 1) (FR 1)), (eO1a (La 2) (FI 2) (GR 2) (FR 2)), (eO1a (La 3) (FI 3) (GR 3) (FR 3)), (eO9a bsk wd wf mp mb mo sp sb), (eO8a bru rco rsz ren rst rkn), (eA0 rco cRc 64 fRc), (eA0 ren cRe 4 fRe), (eA1 rst cRs 64 fRs), (eA1 bda cDa 4 fDa), (eA0 bdk cDk 4 fDk), (eA0 bdt cDt 4 fDt), (eA0 bdp cDp 4 fDp)]) hP hD hS hA [0, 1, 2, 3, 4, 5, 6, 7, 8, 9, 10, 11, 12, 13, 14, 15, 16, 17, 18] (by decide +kernel) rfl
  have hKc := hK.sub (tys' := [(cTo, .int), (cLa, .object RX1), (cRc, .int), (cRe, .int), (cRs, .long), (cDa, .long), (cDk, .int), (cDt, .int), (cDp, .int)]) [0, 1, 2, 3, 4, 5, 6, 7, 8] rfl
  refine va_calll (va_runV (As := [.int y1, .int y2, .int y3]) (rest := []) ⟨hx, hb, hml, hown, htw⟩ (gx_deed l dC dI x pa bk xsp xdy le xst xsc xim xil xik xmo xom wi mla mct myr mdy mlg w0 w1 w2 w3 w4 bto bnm bla bsk bru bbo bdi bda bdk bdt bdp bno cTo fTo cLa La FI GR FR wd wf mp mb mo sp sb rco rsz ren rst rkn cRc fRc cRe fRe cRs fRs cDa fDa cDk fDk cDt fDt cDp fDp y1 y2 y3 H.size hE ht3) (cwV 3 htw (xg_V (ck_49 _ (List.mem_of_getElem? (i := 3) rfl)) (ck_49 _ (List.mem_of_getElem? (i := 4) rfl)) (ck_49 _ (List.mem_of_getElem? (i := 5) rfl)) (ck_1 _ (List.mem_of_getElem? (i := 2) rfl)) (ck_49 _ (List.mem_of_getElem? (i := 6) rfl))) rfl rfl rfl (by exact ⟨rfl, hdc_8.1, hdc_8.2, hdd_63⟩) ⟨Nat.le_of_ble_eq_true rfl, Nat.le_of_ble_eq_true rfl⟩) ⟨fun a U g mk q => by obtain ⟨q0, q1, qP, qK, qD, qx0⟩ := q; exact ⟨q0, q1, qP, va_K.moved (u := U) (U := U.calling g mk a) (Vm.Alike.refl U.vm) qK, qD, xN.calling qx0⟩, va_recv hKc hPc (ci := 11) (q0 := 0) rfl rfl, fun U hU hW => ⟨rfl, by rw [hU], by rw [hU]; exact hPc, va_K.moved hW.alike hKc, hDc.weaken (fun _ _ _ _ => trivial), xN.warm hW hNx⟩⟩ rfl rfl hl.1 rfl (lv_room (Nat.le_of_ble_eq_true rfl)) dL_law_1434 ⟨by first | exact Nat.le_of_ble_eq_true rfl | exact yR (n := 0) (by omega) rfl, by first | exact Nat.le_of_ble_eq_true rfl | exact yR2 (n := 0) (by omega) rfl⟩) hS (fun q _ h => hFc q h) hFc (fun r_4 u_5 t H1 locs ht hvm hw hB hz1 hk1 hS => ?_)
  try dsimp only at hw
  obtain ⟨hP1, hK1, hD1⟩ := hB
  rw [ht] at hP1
  have hK1 := va_K.moved hvm.symm hK1
  have hK1 : va_K (dC, dI) vwCl [] s := hK1
  obtain ⟨hP, hD⟩ := va_join (wr := [(mq, .inr (12, mF g gl rf)), (eA0 (rf 24) (ck 24) 14 f_sky), (eA0 (rf 29) (ck 29) 24 f_landHas), (eA0 (rf 31) (ck 31) 8 f_first), (eA0 (rf 32) (ck 32) 8 f_last), (eA1 (rf 37) (ck 37) 8 f_deedOn), (eA0 (rf 38) (ck 38) 24 f_deedHas), (eA0 (rf 41) (ck 41) 128 f_knot), (eA0 (rf 42) (ck 42) 128 f_part), (eA0 (rf 43) (ck 43) 128 f_other), (eA1 (rf 55) (ck 55) 6 f_names), (eA1 (rf 56) (ck 56) 64 f_value)]) (w1 := [(eO11a x pa bk xsp xdy le xst xsc xim xil xik xmo xom wi), (xmo, .inr (4, [u_5.1, .long u_5.2.1, .long u_5.2.2.1, .long u_5.2.2.2.1, .long u_5.2.2.2.2.1])), (eO10a wi u_5.2.2.2.2.2.1 u_5.2.2.2.2.2.2.1 u_5.2.2.2.2.2.2.2.1 u_5.2.2.2.2.2.2.2.2.1 u_5.2.2.2.2.2.2.2.2.2.1), (eO0a bk bto bnm bla bsk bru bbo bdi bda bdk bdt bdp bno), (eA0 bto cTo 5 fTo), (eA4 bla cLa 4 (fun k => some (La k))), (eO1a (La 0) (FI 0) (GR 0) (FR 0)), (eO1a (La 1) (FI 1) (GR 1) (FR 1)), (eO1a (La 2) (FI 2) (GR 2) (FR 2)), (eO1a (La 3) (FI 3) (GR 3) (FR 3)), (eO9a bsk wd wf mp mb mo sp sb), (eO8a bru rco rsz ren rst rkn), (eA0 rco cRc 64 fRc), (eA0 ren cRe 4 fRe), (eA1 rst cRs 64 u_5.2.2.2.2.2.2.2.2.2.2), (eA1 bda cDa 4 fDa), (eA0 bdk cDk 4 fDk), (eA0 bdt cDt 4 fDt), (eA0 bdp cDp 4 fDp)]) hP hD [0, 1, 2, 3, 4, 5, 6, 7, 8, 9, 10, 11, 12, 13, 14, 15, 16, 17, 18] [19, 20, 21, 22, 23, 24, 25, 26, 27, 28, 29, 30] hCc rfl (by decide +kernel) (by decide +kernel) hk1 hFc hP1 hD1
  have hfr := yF (wc := [(eO11a x pa bk xsp xdy le xst xsc xim xil xik xmo xom wi), (xmo, .inr (4, [mla, .long mct, .long myr, .long mdy, .long mlg])), (eO10a wi w0 w1 w2 w3 w4), (eO0a bk bto bnm bla bsk bru bbo bdi bda bdk bdt bdp bno), (eA0 bto cTo 5 fTo), (eA4 bla cLa 4 (fun k => some (La k))), (eO1a (La 0) (FI 0) (GR 0) (FR 0)), (eO1a (La 1) (FI 1) (GR 1) (FR 1)), (eO1a (La 2) (FI 2) (GR 2) (FR 2)), (eO1a (La 3) (FI 3) (GR 3) (FR 3)), (eO9a bsk wd wf mp mb mo sp sb), (eO8a bru rco rsz ren rst rkn), (eA0 rco cRc 64 fRc), (eA0 ren cRe 4 fRe), (eA1 rst cRs 64 fRs), (eA1 bda cDa 4 fDa), (eA0 bdk cDk 4 fDk), (eA0 bdt cDt 4 fDt), (eA0 bdp cDp 4 fDp)]) hBs [0, 1, 2, 3, 4, 5, 6, 7, 8, 9, 10, 11, 12, 13, 14, 15, 16, 17, 18] rfl hz0 hfr hk1
  have hz0 := Nat.le_trans hz0 hz1
  generalize H1 = H at hP hS hfr hz0 ⊢
  obtain ⟨hP, hD⟩ := zre [(mq, .inr (12, mF g gl rf)), (eA0 (rf 24) (ck 24) 14 f_sky), (eA0 (rf 29) (ck 29) 24 f_landHas), (eA0 (rf 31) (ck 31) 8 f_first), (eA0 (rf 32) (ck 32) 8 f_last), (eA1 (rf 37) (ck 37) 8 f_deedOn), (eA0 (rf 38) (ck 38) 24 f_deedHas), (eA0 (rf 41) (ck 41) 128 f_knot), (eA0 (rf 42) (ck 42) 128 f_part), (eA0 (rf 43) (ck 43) 128 f_other), (eA1 (rf 55) (ck 55) 6 f_names), (eA1 (rf 56) (ck 56) 64 f_value), (eO11a x pa bk xsp xdy le xst xsc xim xil xik xmo xom wi), (xmo, .inr (4, [u_5.1, .long u_5.2.1, .long u_5.2.2.1, .long u_5.2.2.2.1, .long u_5.2.2.2.2.1])), (eO10a wi u_5.2.2.2.2.2.1 u_5.2.2.2.2.2.2.1 u_5.2.2.2.2.2.2.2.1 u_5.2.2.2.2.2.2.2.2.1 u_5.2.2.2.2.2.2.2.2.2.1), (eO0a bk bto bnm bla bsk bru bbo bdi bda bdk bdt bdp bno), (eA0 bto cTo 5 fTo), (eA4 bla cLa 4 (fun k => some (La k))), (eO1a (La 0) (FI 0) (GR 0) (FR 0)), (eO1a (La 1) (FI 1) (GR 1) (FR 1)), (eO1a (La 2) (FI 2) (GR 2) (FR 2)), (eO1a (La 3) (FI 3) (GR 3) (FR 3)), (eO9a bsk wd wf mp mb mo sp sb), (eO8a bru rco rsz ren rst rkn), (eA0 rco cRc 64 fRc), (eA0 ren cRe 4 fRe), (eA1 rst cRs 64 u_5.2.2.2.2.2.2.2.2.2.2), (eA1 bda cDa 4 fDa), (eA0 bdk cDk 4 fDk), (eA0 bdt cDt 4 fDt), (eA0 bdp cDp 4 fDp)] hP hD rfl
  refine W.widen (k := ce + 0) (n := sl + 0) (by omega) (by omega) ?_
  obtain ⟨X_17, hX_17⟩ : ∃ X9 : Int64 × (Value) × (Int64) × (Int64) × (Int64) × (Int64) × (Int32) × (Int32) × (Int32) × (Int32) × (Int32) × (Nat → Int64), X9 = (fx_deed mla mct myr mdy mlg w0 w1 w2 w3 w4 fTo La FI GR FR wd wf mp mb mo sp sb fRc fRe fRs fDa fDk fDt fDp y1 y2 y3) := ⟨_, rfl⟩
  have hq_r_4 : r_4 = X_17.1 := by rw [hX_17]; exact hw.1
  have hq_u_5 : u_5 = X_17.2 := by rw [hX_17]; exact hw.2
  refine lv_pop2_2 hx hb dL_law_1437 rfl ?_
  refine lv_aload_n hx hb dL_law_1438 rfl (lv_at hl 2 rfl) ?_
  refine lv_aload_n hx hb dL_law_1439 rfl (lv_at hl 4 rfl) ?_
  refine lv_iload hx hb dL_law_1440 (lv_at hl 0 rfl) ?_
  refine lv_iconst (v := 1) hx hb dL_law_1442 (by decide) ?_
  refine lv_iadd hx hb dL_law_1443 ?_
  refine va_sld hx hb hX hbl hbA hS hi1 dL_law_1444 ?_
  rw [hy1]
  refine lv_aload_n hx hb dL_law_1445 rfl (lv_at hl 4 rfl) ?_
  refine lv_iload hx hb dL_law_1446 (lv_at hl 0 rfl) ?_
  refine lv_iconst (v := 2) hx hb dL_law_1448 (by decide) ?_
  refine lv_iadd hx hb dL_law_1449 ?_
  refine va_sld hx hb hX hbl hbA hS hi2 dL_law_1450 ?_
  rw [hy2]
  refine lv_aload_n hx hb dL_law_1451 rfl (lv_at hl 4 rfl) ?_
  refine lv_iload hx hb dL_law_1452 (lv_at hl 0 rfl) ?_
  refine lv_iconst (v := 3) hx hb dL_law_1454 (by decide) ?_
  refine lv_iadd hx hb dL_law_1455 ?_
  refine va_sld hx hb hX hbl hbA hS hi3 dL_law_1456 ?_
  rw [hy3]
  obtain ⟨hPc, hDc, hFc, hCc⟩ := zsub3 (ws' := [(mq, .inr (12, mF g gl rf)), (eA0 (rf 24) (ck 24) 14 f_sky), (eA0 (rf 29) (ck 29) 24 f_landHas), (eA0 (rf 31) (ck 31) 8 f_first), (eA0 (rf 32) (ck 32) 8 f_last), (eA1 (rf 37) (ck 37) 8 f_deedOn), (eA0 (rf 38) (ck 38) 24 f_deedHas), (eA0 (rf 41) (ck 41) 128 f_knot), (eA0 (rf 42) (ck 42) 128 f_part), (eA0 (rf 43) (ck 43) 128 f_other), (eA1 (rf 55) (ck 55) 6 f_names), (eA1 (rf 56) (ck 56) 64 f_value)]) hP hD hS hA [0, 1, 2, 3, 4, 5, 6, 7, 8, 9, 10, 11] (by decide +kernel) rfl
  have hKc := hK.sub (tys' := [((ck 24), .int), ((ck 29), .int), ((ck 31), .int), ((ck 32), .int), ((ck 37), .long), ((ck 38), .int), ((ck 41), .int), ((ck 42), .int), ((ck 43), .int), ((ck 55), .long), ((ck 56), .long)]) [9, 10, 11, 12, 13, 14, 15, 16, 17, 18, 19] rfl
  refine va_calll (va_runV (As := [.int y1, .int y2, .int y3]) (rest := []) ⟨hx, hb, hml, hown, htw⟩ (gq_deed l dC dI mq g gl rf ck f_sky f_landHas f_first f_last f_deedOn f_deedHas f_knot f_part f_other f_names f_value y1 y2 y3 H.size hfe0 hfe4 hFA hKA hln0 hln4 hLZ hs0 hs2 hs5 hde0 hde4 hLZ1 hDE) (cwV 3 htw (xg_V (ck_50 _ (List.mem_of_getElem? (i := 0) rfl)) (ck_50 _ (List.mem_of_getElem? (i := 1) rfl)) (ck_50 _ (List.mem_of_getElem? (i := 2) rfl)) (ck_1 _ (List.mem_of_getElem? (i := 5) rfl)) (ck_50 _ (List.mem_of_getElem? (i := 3) rfl))) rfl rfl rfl (by exact ⟨rfl, hdc_14.1, hdc_14.2, hdd_63⟩) ⟨Nat.le_of_ble_eq_true rfl, Nat.le_of_ble_eq_true rfl⟩) ⟨fun a U g mk q => by obtain ⟨q0, q1, qP, qK, qD⟩ := q; exact ⟨q0, q1, qP, va_K.moved (u := U) (U := U.calling g mk a) (Vm.Alike.refl U.vm) qK, qD⟩, va_recv hKc hPc (ci := 12) (q0 := 0) rfl rfl, fun U hU hW => ⟨rfl, by rw [hU], by rw [hU]; exact hPc, va_K.moved hW.alike hKc, hDc.weaken (fun _ _ _ _ => trivial)⟩⟩ rfl rfl hl.1 rfl (lv_room (Nat.le_of_ble_eq_true rfl)) dL_law_1457 ⟨by first | exact Nat.le_of_ble_eq_true rfl | exact yR (n := 0) (by omega) rfl, by first | exact Nat.le_of_ble_eq_true rfl | exact yR2 (n := 0) (by omega) rfl⟩) hS (fun q _ h => hFc q h) hFc (fun r_21 u_22 t H1 locs ht hvm hw hB hz1 hk1 hS => ?_)
  try dsimp only at hw
  obtain ⟨hP1, hK1, hD1⟩ := hB
  rw [ht] at hP1
  have hK1 := va_K.moved hvm.symm hK1
  have hK1 : va_K (dC, dI) vwCl [] s := hK1
  obtain ⟨hP, hD⟩ := va_join (wr := [(eO11a x pa bk xsp xdy le xst xsc xim xil xik xmo xom wi), (xmo, .inr (4, [u_5.1, .long u_5.2.1, .long u_5.2.2.1, .long u_5.2.2.2.1, .long u_5.2.2.2.2.1])), (eO10a wi u_5.2.2.2.2.2.1 u_5.2.2.2.2.2.2.1 u_5.2.2.2.2.2.2.2.1 u_5.2.2.2.2.2.2.2.2.1 u_5.2.2.2.2.2.2.2.2.2.1), (eO0a bk bto bnm bla bsk bru bbo bdi bda bdk bdt bdp bno), (eA0 bto cTo 5 fTo), (eA4 bla cLa 4 (fun k => some (La k))), (eO1a (La 0) (FI 0) (GR 0) (FR 0)), (eO1a (La 1) (FI 1) (GR 1) (FR 1)), (eO1a (La 2) (FI 2) (GR 2) (FR 2)), (eO1a (La 3) (FI 3) (GR 3) (FR 3)), (eO9a bsk wd wf mp mb mo sp sb), (eO8a bru rco rsz ren rst rkn), (eA0 rco cRc 64 fRc), (eA0 ren cRe 4 fRe), (eA1 rst cRs 64 u_5.2.2.2.2.2.2.2.2.2.2), (eA1 bda cDa 4 fDa), (eA0 bdk cDk 4 fDk), (eA0 bdt cDt 4 fDt), (eA0 bdp cDp 4 fDp)]) (w1 := [(mq, .inr (12, mF (upd (upd g 2 u_22.1) 57 u_22.2.2.2.1) (vp_updL (vp_updL gl 53 u_22.2.1) 54 u_22.2.2.1) rf)), (eA0 (rf 24) (ck 24) 14 f_sky), (eA0 (rf 29) (ck 29) 24 f_landHas), (eA0 (rf 31) (ck 31) 8 f_first), (eA0 (rf 32) (ck 32) 8 f_last), (eA1 (rf 37) (ck 37) 8 f_deedOn), (eA0 (rf 38) (ck 38) 24 f_deedHas), (eA0 (rf 41) (ck 41) 128 f_knot), (eA0 (rf 42) (ck 42) 128 f_part), (eA0 (rf 43) (ck 43) 128 f_other), (eA1 (rf 55) (ck 55) 6 u_22.2.2.2.2.1), (eA1 (rf 56) (ck 56) 64 u_22.2.2.2.2.2)]) hP hD [0, 1, 2, 3, 4, 5, 6, 7, 8, 9, 10, 11] [12, 13, 14, 15, 16, 17, 18, 19, 20, 21, 22, 23, 24, 25, 26, 27, 28, 29, 30] hCc rfl (by decide +kernel) (by decide +kernel) hk1 hFc hP1 hD1
  have hfr := yF (wc := [(mq, .inr (12, mF g gl rf)), (eA0 (rf 24) (ck 24) 14 f_sky), (eA0 (rf 29) (ck 29) 24 f_landHas), (eA0 (rf 31) (ck 31) 8 f_first), (eA0 (rf 32) (ck 32) 8 f_last), (eA1 (rf 37) (ck 37) 8 f_deedOn), (eA0 (rf 38) (ck 38) 24 f_deedHas), (eA0 (rf 41) (ck 41) 128 f_knot), (eA0 (rf 42) (ck 42) 128 f_part), (eA0 (rf 43) (ck 43) 128 f_other), (eA1 (rf 55) (ck 55) 6 f_names), (eA1 (rf 56) (ck 56) 64 f_value)]) hBs [19, 20, 21, 22, 23, 24, 25, 26, 27, 28, 29, 30] rfl hz0 hfr hk1
  have hz0 := Nat.le_trans hz0 hz1
  generalize H1 = H at hP hS hfr hz0 ⊢
  have hP : va_P (dC, dI) vwCl [(eO11a x pa bk xsp xdy le xst xsc xim xil xik xmo xom wi), (xmo, .inr (4, [u_5.1, .long u_5.2.1, .long u_5.2.2.1, .long u_5.2.2.2.1, .long u_5.2.2.2.2.1])), (eO10a wi u_5.2.2.2.2.2.1 u_5.2.2.2.2.2.2.1 u_5.2.2.2.2.2.2.2.1 u_5.2.2.2.2.2.2.2.2.1 u_5.2.2.2.2.2.2.2.2.2.1), (eO0a bk bto bnm bla bsk bru bbo bdi bda bdk bdt bdp bno), (eA0 bto cTo 5 fTo), (eA4 bla cLa 4 (fun k => some (La k))), (eO1a (La 0) (FI 0) (GR 0) (FR 0)), (eO1a (La 1) (FI 1) (GR 1) (FR 1)), (eO1a (La 2) (FI 2) (GR 2) (FR 2)), (eO1a (La 3) (FI 3) (GR 3) (FR 3)), (eO9a bsk wd wf mp mb mo sp sb), (eO8a bru rco rsz ren rst rkn), (eA0 rco cRc 64 fRc), (eA0 ren cRe 4 fRe), (eA1 rst cRs 64 u_5.2.2.2.2.2.2.2.2.2.2), (eA1 bda cDa 4 fDa), (eA0 bdk cDk 4 fDk), (eA0 bdt cDt 4 fDt), (eA0 bdp cDp 4 fDp), (mq, .inr (12, mF (upd (upd g 2 u_22.1) 57 u_22.2.2.2.1) (vp_updL (vp_updL gl 53 u_22.2.1) 54 u_22.2.2.1) rf)), (eA0 (rf 24) (ck 24) 14 f_sky), (eA0 (rf 29) (ck 29) 24 f_landHas), (eA0 (rf 31) (ck 31) 8 f_first), (eA0 (rf 32) (ck 32) 8 f_last), (eA1 (rf 37) (ck 37) 8 f_deedOn), (eA0 (rf 38) (ck 38) 24 f_deedHas), (eA0 (rf 41) (ck 41) 128 f_knot), (eA0 (rf 42) (ck 42) 128 f_part), (eA0 (rf 43) (ck 43) 128 f_other), (eA1 (rf 55) (ck 55) 6 u_22.2.2.2.2.1), (eA1 (rf 56) (ck 56) 64 u_22.2.2.2.2.2)] H := hP
  have hD : va_D A [(eO11a x pa bk xsp xdy le xst xsc xim xil xik xmo xom wi), (xmo, .inr (4, [u_5.1, .long u_5.2.1, .long u_5.2.2.1, .long u_5.2.2.2.1, .long u_5.2.2.2.2.1])), (eO10a wi u_5.2.2.2.2.2.1 u_5.2.2.2.2.2.2.1 u_5.2.2.2.2.2.2.2.1 u_5.2.2.2.2.2.2.2.2.1 u_5.2.2.2.2.2.2.2.2.2.1), (eO0a bk bto bnm bla bsk bru bbo bdi bda bdk bdt bdp bno), (eA0 bto cTo 5 fTo), (eA4 bla cLa 4 (fun k => some (La k))), (eO1a (La 0) (FI 0) (GR 0) (FR 0)), (eO1a (La 1) (FI 1) (GR 1) (FR 1)), (eO1a (La 2) (FI 2) (GR 2) (FR 2)), (eO1a (La 3) (FI 3) (GR 3) (FR 3)), (eO9a bsk wd wf mp mb mo sp sb), (eO8a bru rco rsz ren rst rkn), (eA0 rco cRc 64 fRc), (eA0 ren cRe 4 fRe), (eA1 rst cRs 64 u_5.2.2.2.2.2.2.2.2.2.2), (eA1 bda cDa 4 fDa), (eA0 bdk cDk 4 fDk), (eA0 bdt cDt 4 fDt), (eA0 bdp cDp 4 fDp), (mq, .inr (12, mF (upd (upd g 2 u_22.1) 57 u_22.2.2.2.1) (vp_updL (vp_updL gl 53 u_22.2.1) 54 u_22.2.2.1) rf)), (eA0 (rf 24) (ck 24) 14 f_sky), (eA0 (rf 29) (ck 29) 24 f_landHas), (eA0 (rf 31) (ck 31) 8 f_first), (eA0 (rf 32) (ck 32) 8 f_last), (eA1 (rf 37) (ck 37) 8 f_deedOn), (eA0 (rf 38) (ck 38) 24 f_deedHas), (eA0 (rf 41) (ck 41) 128 f_knot), (eA0 (rf 42) (ck 42) 128 f_part), (eA0 (rf 43) (ck 43) 128 f_other), (eA1 (rf 55) (ck 55) 6 u_22.2.2.2.2.1), (eA1 (rf 56) (ck 56) 64 u_22.2.2.2.2.2)] := hD
  refine W.widen (k := ce + 0) (n := sl + 0) (by omega) (by omega) ?_
  obtain ⟨X_29, hX_29⟩ : ∃ X9 : Int64 × (Int32) × (Int64) × (Int64) × (Int32) × (Nat → Int64) × (Nat → Int64), X9 = (fq_deed f_sky f_landHas f_first f_last f_deedOn f_deedHas f_knot f_part f_other f_names f_value y1 y2 y3 (g 12) (g 15) (gl 53) (gl 54) (g 57)) := ⟨_, rfl⟩
  have hq_r_21 : r_21 = X_29.1 := by rw [hX_29]; exact hw.1
  have hq_u_22 : u_22 = X_29.2 := by rw [hX_29]; exact hw.2
  refine lv_pop2_2 hx hb dL_law_1460 rfl ?_
  refine lv_goto (tgt := 2012) hx hb dL_law_1461 (by decide) ?_
  refine W.widen (k := ce + 1) (n := sl + 6) (by omega) (by omega) ?_
  exact kk1 X_17 hX_17 r_4 hq_r_4 u_5 hq_u_5 X_29 hX_29 r_21 hq_r_21 u_22 hq_u_22 H locs ls (hP.sub (ws' := [(eO11a x pa bk xsp xdy le xst xsc xim xil xik xmo xom wi), (xmo, .inr (4, [u_5.1, .long u_5.2.1, .long u_5.2.2.1, .long u_5.2.2.2.1, .long u_5.2.2.2.2.1])), (eO10a wi u_5.2.2.2.2.2.1 u_5.2.2.2.2.2.2.1 u_5.2.2.2.2.2.2.2.1 u_5.2.2.2.2.2.2.2.2.1 u_5.2.2.2.2.2.2.2.2.2.1), (eO0a bk bto bnm bla bsk bru bbo bdi bda bdk bdt bdp bno), (eA0 bto cTo 5 fTo), (eA4 bla cLa 4 (fun k => some (La k))), (eO1a (La 0) (FI 0) (GR 0) (FR 0)), (eO1a (La 1) (FI 1) (GR 1) (FR 1)), (eO1a (La 2) (FI 2) (GR 2) (FR 2)), (eO1a (La 3) (FI 3) (GR 3) (FR 3)), (eO9a bsk wd wf mp mb mo sp sb), (eO8a bru rco rsz ren rst rkn), (eA0 rco cRc 64 fRc), (eA0 ren cRe 4 fRe), (eA1 rst cRs 64 u_5.2.2.2.2.2.2.2.2.2.2), (eA1 bda cDa 4 fDa), (eA0 bdk cDk 4 fDk), (eA0 bdt cDt 4 fDt), (eA0 bdp cDp 4 fDp), (mq, .inr (12, mF (upd (upd g 2 u_22.1) 57 u_22.2.2.2.1) (vp_updL (vp_updL gl 53 u_22.2.1) 54 u_22.2.2.1) rf)), (eA0 (rf 24) (ck 24) 14 f_sky), (eA0 (rf 29) (ck 29) 24 f_landHas), (eA0 (rf 31) (ck 31) 8 f_first), (eA0 (rf 32) (ck 32) 8 f_last), (eA1 (rf 37) (ck 37) 8 f_deedOn), (eA0 (rf 38) (ck 38) 24 f_deedHas), (eA0 (rf 41) (ck 41) 128 f_knot), (eA0 (rf 42) (ck 42) 128 f_part), (eA0 (rf 43) (ck 43) 128 f_other), (eA1 (rf 55) (ck 55) 6 u_22.2.2.2.2.1), (eA1 (rf 56) (ck 56) 64 u_22.2.2.2.2.2)]) [0, 1, 2, 3, 4, 5, 6, 7, 8, 9, 10, 11, 12, 13, 14, 15, 16, 17, 18, 19, 20, 21, 22, 23, 24, 25, 26, 27, 28, 29, 30] rfl) hS (lv_sub hl [0, 1, 2, 3, 4] rfl) hz0 hfr

theorem dL_law_1464 : decode cL_law 1464 = .ok (.aload_n 1, 1) := zk_43 (by decide +kernel)
theorem dL_law_1465 : decode cL_law 1465 = .ok (.aload_n 0, 1) := zk_42 (by decide +kernel)
theorem dL_law_1466 : decode cL_law 1466 = .ok (.iload 4, 2) := zk_21 (by decide +kernel)
theorem dL_law_1468 : decode cL_law 1468 = .ok (.iconst 1, 1) := zk_4 (by decide +kernel)
theorem dL_law_1469 : decode cL_law 1469 = .ok (.iadd, 1) := zk_96 (by decide +kernel)
theorem dL_law_1470 : decode cL_law 1470 = .ok (.iaload, 1) := zk_46 (by decide +kernel)
theorem dL_law_1471 : decode cL_law 1471 = .ok (.aload_n 0, 1) := zk_42 (by decide +kernel)
theorem dL_law_1472 : decode cL_law 1472 = .ok (.iload 4, 2) := zk_21 (by decide +kernel)
theorem dL_law_1474 : decode cL_law 1474 = .ok (.iconst 2, 1) := zk_5 (by decide +kernel)
theorem dL_law_1475 : decode cL_law 1475 = .ok (.iadd, 1) := zk_96 (by decide +kernel)
theorem dL_law_1476 : decode cL_law 1476 = .ok (.iaload, 1) := zk_46 (by decide +kernel)
theorem dL_law_1477 : decode cL_law 1477 = .ok (.i2l, 1) := zk_133 (by decide +kernel)
theorem dL_law_1478 : decode cL_law 1478 = .ok (.bipush 32, 2) := zk_16 (by decide +kernel)
theorem dL_law_1480 : decode cL_law 1480 = .ok (.lshl, 1) := zk_121 (by decide +kernel)
theorem dL_law_1481 : decode cL_law 1481 = .ok (.aload_n 0, 1) := zk_42 (by decide +kernel)
theorem dL_law_1482 : decode cL_law 1482 = .ok (.iload 4, 2) := zk_21 (by decide +kernel)
theorem dL_law_1484 : decode cL_law 1484 = .ok (.iconst 3, 1) := zk_6 (by decide +kernel)
theorem dL_law_1485 : decode cL_law 1485 = .ok (.iadd, 1) := zk_96 (by decide +kernel)
theorem dL_law_1486 : decode cL_law 1486 = .ok (.iaload, 1) := zk_46 (by decide +kernel)
theorem dL_law_1487 : decode cL_law 1487 = .ok (.i2l, 1) := zk_133 (by decide +kernel)
theorem dL_law_1488 : decode cL_law 1488 = .ok (.ldc2_w 50, 3) := zk_20 (by decide +kernel)
theorem dL_law_1491 : decode cL_law 1491 = .ok (.land, 1) := zk_127 (by decide +kernel)
theorem dL_law_1492 : decode cL_law 1492 = .ok (.lor, 1) := zk_129 (by decide +kernel)
theorem dL_law_1493 : decode cL_law 1493 = .ok (.aload_n 0, 1) := zk_42 (by decide +kernel)
theorem dL_law_1494 : decode cL_law 1494 = .ok (.iload 4, 2) := zk_21 (by decide +kernel)
theorem dL_law_1496 : decode cL_law 1496 = .ok (.iconst 4, 1) := zk_7 (by decide +kernel)
theorem dL_law_1497 : decode cL_law 1497 = .ok (.iadd, 1) := zk_96 (by decide +kernel)
theorem dL_law_1498 : decode cL_law 1498 = .ok (.iaload, 1) := zk_46 (by decide +kernel)
theorem dL_law_1499 : decode cL_law 1499 = .ok (.invokevirtual 122, 3) := zk_182 (by decide +kernel)
theorem dL_law_1502 : decode cL_law 1502 = .ok (.pop, 1) := zk_87 (by decide +kernel)
theorem dL_law_1503 : decode cL_law 1503 = .ok (.aload_n 2, 1) := zk_44 (by decide +kernel)
theorem dL_law_1504 : decode cL_law 1504 = .ok (.aload_n 0, 1) := zk_42 (by decide +kernel)
theorem dL_law_1505 : decode cL_law 1505 = .ok (.iload 4, 2) := zk_21 (by decide +kernel)
theorem dL_law_1507 : decode cL_law 1507 = .ok (.iconst 1, 1) := zk_4 (by decide +kernel)
theorem dL_law_1508 : decode cL_law 1508 = .ok (.iadd, 1) := zk_96 (by decide +kernel)
theorem dL_law_1509 : decode cL_law 1509 = .ok (.iaload, 1) := zk_46 (by decide +kernel)
theorem dL_law_1510 : decode cL_law 1510 = .ok (.aload_n 0, 1) := zk_42 (by decide +kernel)
theorem dL_law_1511 : decode cL_law 1511 = .ok (.iload 4, 2) := zk_21 (by decide +kernel)
theorem dL_law_1513 : decode cL_law 1513 = .ok (.iconst 2, 1) := zk_5 (by decide +kernel)
theorem dL_law_1514 : decode cL_law 1514 = .ok (.iadd, 1) := zk_96 (by decide +kernel)
theorem dL_law_1515 : decode cL_law 1515 = .ok (.iaload, 1) := zk_46 (by decide +kernel)
theorem dL_law_1516 : decode cL_law 1516 = .ok (.i2l, 1) := zk_133 (by decide +kernel)
theorem dL_law_1517 : decode cL_law 1517 = .ok (.bipush 32, 2) := zk_16 (by decide +kernel)
theorem dL_law_1519 : decode cL_law 1519 = .ok (.lshl, 1) := zk_121 (by decide +kernel)
theorem dL_law_1520 : decode cL_law 1520 = .ok (.aload_n 0, 1) := zk_42 (by decide +kernel)
theorem dL_law_1521 : decode cL_law 1521 = .ok (.iload 4, 2) := zk_21 (by decide +kernel)
theorem dL_law_1523 : decode cL_law 1523 = .ok (.iconst 3, 1) := zk_6 (by decide +kernel)
theorem dL_law_1524 : decode cL_law 1524 = .ok (.iadd, 1) := zk_96 (by decide +kernel)
theorem dL_law_1525 : decode cL_law 1525 = .ok (.iaload, 1) := zk_46 (by decide +kernel)
theorem dL_law_1526 : decode cL_law 1526 = .ok (.i2l, 1) := zk_133 (by decide +kernel)
theorem dL_law_1527 : decode cL_law 1527 = .ok (.ldc2_w 50, 3) := zk_20 (by decide +kernel)
theorem dL_law_1530 : decode cL_law 1530 = .ok (.land, 1) := zk_127 (by decide +kernel)
theorem dL_law_1531 : decode cL_law 1531 = .ok (.lor, 1) := zk_129 (by decide +kernel)
theorem dL_law_1532 : decode cL_law 1532 = .ok (.aload_n 0, 1) := zk_42 (by decide +kernel)
theorem dL_law_1533 : decode cL_law 1533 = .ok (.iload 4, 2) := zk_21 (by decide +kernel)
theorem dL_law_1535 : decode cL_law 1535 = .ok (.iconst 4, 1) := zk_7 (by decide +kernel)
theorem dL_law_1536 : decode cL_law 1536 = .ok (.iadd, 1) := zk_96 (by decide +kernel)
theorem dL_law_1537 : decode cL_law 1537 = .ok (.iaload, 1) := zk_46 (by decide +kernel)
theorem dL_law_1538 : decode cL_law 1538 = .ok (.invokevirtual 126, 3) := zk_182 (by decide +kernel)
theorem dL_law_1541 : decode cL_law 1541 = .ok (.pop, 1) := zk_87 (by decide +kernel)
theorem dL_law_1542 : decode cL_law 1542 = .ok (.goto 470, 3) := zk_167 (by decide +kernel)
set_option maxHeartbeats 4000000 in
set_option maxRecDepth 100000 in
theorem law_ends (l : Launch) (hst : l.stackTraces = false) {p : Program} {e : Env} {s : State} {m : MethodId} {below : List Frame} {meth : Method} {c : Code} {bs L : Nat} {xs : Nat → Int32} (C0 : lw_At p s m meth c bs L xs) (dC : Nat → ClassId) (dI : Nat → Nat → Nat) (A : Nat → Prop) (hAe : ∀ q, A q ↔ s.heap.size ≤ q) (x : Nat) (pa : Nat) (bk : Nat) (xsp : Nat) (xdy : Nat) (le : Nat) (xst : Nat) (xsc : Int32) (xim : Nat) (xil : Nat) (xik : Int32) (xmo : Nat) (xom : Nat) (wi : Nat) (bto : Nat) (bnm : Nat) (bla : Nat) (bsk : Nat) (bru : Nat) (bbo : Nat) (bdi : Nat) (bda : Nat) (bdk : Nat) (bdt : Nat) (bdp : Nat) (bno : Nat) (cTo : ClassId) (fTo : Nat → Int32) (cLa : ClassId) (La : Nat → Nat) (FI : Nat → Int32) (GR : Nat → Int32) (FR : Nat → Int32) (mq : Nat) (g : Nat → Int32) (gl : Nat → Int64) (rf : Nat → Nat) (ck : Nat → ClassId) (f_landHas : Nat → Int32) (o3 : Nat) (hln0 : ¬ (g 12) < 0) (hln4 : (g 12) ≤ 4) (hLZ1 : ∀ k : Int32, ¬ k < 0 → k < (g 12) → ¬ (f_landHas ((3 * k).toNatClampNeg)) < 1) (sL : Nat → Nat) (hNx : xN s) (i y1 y2 y3 y4 : Int32) (hi1 : vp_in (i + 1) L) (hy1 : xs (i + 1).toNatClampNeg = y1) (hi2 : vp_in (i + 2) L) (hy2 : xs (i + 2).toNatClampNeg = y2) (hi3 : vp_in (i + 3) L) (hy3 : xs (i + 3).toNatClampNeg = y3) (hi4 : vp_in (i + 4) L) (hy4 : xs (i + 4).toNatClampNeg = y4)  (Bp : Nat → Prop) (H0 : Heap) (locs : List Loc) (ls : Array Slot) (ce sl : Nat) (hce : ce + 1 ≤ 601024) (hsl : sl + 6 ≤ 7293034) (hK : va_K (dC, dI) vwCl [(cTo, .int), (cLa, .object RX1), ((ck 29), .int)] s) (hP : va_P (dC, dI) vwCl [(eO11a x pa bk xsp xdy le xst xsc xim xil xik xmo xom wi), (eO0a bk bto bnm bla bsk bru bbo bdi bda bdk bdt bdp bno), (eA0 bto cTo 5 fTo), (eA4 bla cLa 4 (fun k => some (La k))), (eO1a (La 0) (FI 0) (GR 0) (FR 0)), (eO1a (La 1) (FI 1) (GR 1) (FR 1)), (eO1a (La 2) (FI 2) (GR 2) (FR 2)), (eO1a (La 3) (FI 3) (GR 3) (FR 3)), (mq, .inr (12, mF g gl rf)), (eA0 (rf 29) (ck 29) 24 f_landHas)] H0) (hD : va_D A [(eO11a x pa bk xsp xdy le xst xsc xim xil xik xmo xom wi), (eO0a bk bto bnm bla bsk bru bbo bdi bda bdk bdt bdp bno), (eA0 bto cTo 5 fTo), (eA4 bla cLa 4 (fun k => some (La k))), (eO1a (La 0) (FI 0) (GR 0) (FR 0)), (eO1a (La 1) (FI 1) (GR 1) (FR 1)), (eO1a (La 2) (FI 2) (GR 2) (FR 2)), (eO1a (La 3) (FI 3) (GR 3) (FR 3)), (mq, .inr (12, mF g gl rf)), (eA0 (rf 29) (ck 29) 24 f_landHas)]) (hBs : yB Bp [(eO11a x pa bk xsp xdy le xst xsc xim xil xik xmo xom wi), (eO0a bk bto bnm bla bsk bru bbo bdi bda bdk bdt bdp bno), (eA0 bto cTo 5 fTo), (eA4 bla cLa 4 (fun k => some (La k))), (eO1a (La 0) (FI 0) (GR 0) (FR 0)), (eO1a (La 1) (FI 1) (GR 1) (FR 1)), (eO1a (La 2) (FI 2) (GR 2) (FR 2)), (eO1a (La 3) (FI 3) (GR 3) (FR 3)), (mq, .inr (12, mF g gl rf)), (eA0 (rf 29) (ck 29) 24 f_landHas)]) (hS : va_S A s.heap H0 locs) (hl : lv_has ls 7 [(4, .int i), (3, .ref o3), (2, .ref mq), (1, .ref x), (0, .ref bs)]) (kk1 : ∀ (r_5 : Int32), r_5 = (fx_ends fTo FI GR FR y1 ((y2.toInt64 <<< ((32 : Int32).toInt64 &&& 63)) ||| (y3.toInt64 &&& 4294967295)) y4) → ∀ (X_15 : Int32 × (Int32) × (Int64) × (Int64)), X_15 = (fq_ends f_landHas y1 ((y2.toInt64 <<< ((32 : Int32).toInt64 &&& 63)) ||| (y3.toInt64 &&& 4294967295)) y4 (g 12) (gl 53) (gl 54)) → ∀ (r_10 : Int32), r_10 = X_15.1 → ∀ (u_11 : (Int32) × (Int64) × (Int64)), u_11 = X_15.2 → ∀ (H : Heap) (locs : List Loc) (ls : Array Slot), va_P (dC, dI) vwCl [(eO11a x pa bk xsp xdy le xst xsc xim xil xik xmo xom wi), (eO0a bk bto bnm bla bsk bru bbo bdi bda bdk bdt bdp bno), (eA0 bto cTo 5 fTo), (eA4 bla cLa 4 (fun k => some (La k))), (eO1a (La 0) (FI 0) (GR 0) (FR 0)), (eO1a (La 1) (FI 1) (GR 1) (FR 1)), (eO1a (La 2) (FI 2) (GR 2) (FR 2)), (eO1a (La 3) (FI 3) (GR 3) (FR 3)), (mq, .inr (12, mF (upd g 2 u_11.1) (vp_updL (vp_updL gl 53 u_11.2.1) 54 u_11.2.2) rf)), (eA0 (rf 29) (ck 29) 24 f_landHas)] H → va_S A s.heap H locs → lv_has ls 7 [(4, .int i), (3, .ref o3), (2, .ref mq), (1, .ref x), (0, .ref bs)] → H0.size ≤ H.size → (∀ q : Nat, q < H0.size → ¬ Bp q → H[q]? = H0[q]?) → W p l e room_1 s m #[Value.ref bs] below meth c H locs (ce + 1) (sl + 6) (lw_Z below #[Value.ref bs] s) (F0 m 2012 ls [])) : W p l e room_1 s m #[Value.ref bs] below meth c H0 locs ce sl (lw_Z below #[Value.ref bs] s) (F0 m 1464 ls []) := by
  obtain ⟨hx, hb, hr, hml, hown, hts, hX, hbl, hlocks, hgv⟩ := id C0
  have htw : ∀ w ∈ wsL_law, w.before _ s = true := fun w h => hts w (wsL_law_in w h)
  have hown : s.vm.findClass RL = some m.cls := hown
  have hA : ∀ q : Nat, s.heap.size ≤ q → A q := fun q h => (hAe q).mpr h
  have hbA : ¬ A bs := fun h => absurd ((hAe bs).mp h) (Nat.not_le.mpr hbl)
  obtain ⟨H, rH⟩ : ∃ z : Heap, z = H0 := ⟨_, rfl⟩
  have hfr : ∀ q : Nat, q < H0.size → ¬ Bp q → H[q]? = H0[q]? := fun q _ _ => by rw [rH]
  have hz0 : H0.size ≤ H.size := by rw [rH]; exact Nat.le_refl _
  rw [← rH] at hP hS ⊢
  refine lv_aload_n hx hb dL_law_1464 rfl (lv_at hl 3 rfl) ?_
  refine lv_aload_n hx hb dL_law_1465 rfl (lv_at hl 4 rfl) ?_
  refine lv_iload hx hb dL_law_1466 (lv_at hl 0 rfl) ?_
  refine lv_iconst (v := 1) hx hb dL_law_1468 (by decide) ?_
  refine lv_iadd hx hb dL_law_1469 ?_
  refine va_sld hx hb hX hbl hbA hS hi1 dL_law_1470 ?_
  rw [hy1]
  refine lv_aload_n hx hb dL_law_1471 rfl (lv_at hl 4 rfl) ?_
  refine lv_iload hx hb dL_law_1472 (lv_at hl 0 rfl) ?_
  refine lv_iconst (v := 2) hx hb dL_law_1474 (by decide) ?_
  refine lv_iadd hx hb dL_law_1475 ?_
  refine va_sld hx hb hX hbl hbA hS hi2 dL_law_1476 ?_
  rw [hy2]
  refine lv_i2l (v := y2.toInt64) hx hb dL_law_1477 rfl ?_
  refine lv_bipush (v := 32) hx hb dL_law_1478 (by decide) ?_
  refine lv_lshl (v := (y2.toInt64 <<< ((32 : Int32).toInt64 &&& 63))) hx hb dL_law_1480 rfl ?_
  refine lv_aload_n hx hb dL_law_1481 rfl (lv_at hl 4 rfl) ?_
  refine lv_iload hx hb dL_law_1482 (lv_at hl 0 rfl) ?_
  refine lv_iconst (v := 3) hx hb dL_law_1484 (by decide) ?_
  refine lv_iadd hx hb dL_law_1485 ?_
  refine va_sld hx hb hX hbl hbA hS hi3 dL_law_1486 ?_
  rw [hy3]
  refine lv_i2l (v := y3.toInt64) hx hb dL_law_1487 rfl ?_
  refine lv_ldc2 (v := 4294967295) hx hb hown (htw _ (ck_1 _ (List.mem_of_getElem? (i := 7) rfl))) dL_law_1488 ?_
  refine lv_land hx hb dL_law_1491 ?_
  refine lv_lor hx hb dL_law_1492 ?_
  refine lv_aload_n hx hb dL_law_1493 rfl (lv_at hl 4 rfl) ?_
  refine lv_iload hx hb dL_law_1494 (lv_at hl 0 rfl) ?_
  refine lv_iconst (v := 4) hx hb dL_law_1496 (by decide) ?_
  refine lv_iadd hx hb dL_law_1497 ?_
  refine va_sld hx hb hX hbl hbA hS hi4 dL_law_1498 ?_
  rw [hy4]
  have hPc := hP.sub (ws' := [(eO11a x pa bk xsp xdy le xst xsc xim xil xik xmo xom wi), (eO0a bk bto bnm bla bsk bru bbo bdi bda bdk bdt bdp bno), (eA0 bto cTo 5 fTo), (eA4 bla cLa 4 (fun k => some (La k))), (eO1a (La 0) (FI 0) (GR 0) (FR 0)), (eO1a (La 1) (FI 1) (GR 1) (FR 1)), (eO1a (La 2) (FI 2) (GR 2) (FR 2)), (eO1a (La 3) (FI 3) (GR 3) (FR 3))]) [0, 1, 2, 3, 4, 5, 6, 7] rfl
  have hKc := hK.sub (tys' := [(cTo, .int), (cLa, .object RX1)]) [0, 1] rfl
  refine vp_callSi (W.runV (As := [.int y1, .long ((y2.toInt64 <<< ((32 : Int32).toInt64 &&& 63)) ||| (y3.toInt64 &&& 4294967295)), .int y4]) (rest := []) ⟨hx, hb, hml, hown, htw⟩ (gx_ends l dC dI x pa bk xsp xdy le xst xsc xim xil xik xmo xom wi bto bnm bla bsk bru bbo bdi bda bdk bdt bdp bno cTo fTo cLa La FI GR FR y1 ((y2.toInt64 <<< ((32 : Int32).toInt64 &&& 63)) ||| (y3.toInt64 &&& 4294967295)) y4) (cwV 3 htw (xg_V (ck_50 _ (List.mem_of_getElem? (i := 16) rfl)) (ck_50 _ (List.mem_of_getElem? (i := 17) rfl)) (ck_50 _ (List.mem_of_getElem? (i := 18) rfl)) (ck_1 _ (List.mem_of_getElem? (i := 2) rfl)) (ck_50 _ (List.mem_of_getElem? (i := 19) rfl))) rfl rfl rfl (by exact ⟨rfl, hdc_8.1, hdc_8.2, hdd_64⟩) ⟨Nat.le_of_ble_eq_true rfl, Nat.le_of_ble_eq_true rfl⟩) ⟨fun a U g mk q => by obtain ⟨q0, qP, qK, qx⟩ := q; exact ⟨q0, qP, va_K.moved (u := U) (U := U.calling g mk a) (Vm.Alike.refl U.vm) qK, xN.calling qx⟩, va_recv hKc hPc (ci := 11) (q0 := 0) rfl rfl, fun U hU hW => ⟨rfl, by rw [hU]; exact hPc, va_K.moved hW.alike hKc, xN.warm hW hNx⟩⟩ rfl rfl hl.1 rfl (lv_room (Nat.le_of_ble_eq_true rfl)) dL_law_1499 ⟨by first | exact Nat.le_of_ble_eq_true rfl | exact yR (n := 0) (by omega) rfl, by first | exact Nat.le_of_ble_eq_true rfl | exact yR2 (n := 0) (by omega) rfl⟩) (fun r_5 hw => ?_)
  try dsimp only at hw
  have hq_r_5 : r_5 = (fx_ends fTo FI GR FR y1 ((y2.toInt64 <<< ((32 : Int32).toInt64 &&& 63)) ||| (y3.toInt64 &&& 4294967295)) y4) := hw
  refine lv_pop hx hb dL_law_1502 rfl ?_
  refine lv_aload_n hx hb dL_law_1503 rfl (lv_at hl 2 rfl) ?_
  refine lv_aload_n hx hb dL_law_1504 rfl (lv_at hl 4 rfl) ?_
  refine lv_iload hx hb dL_law_1505 (lv_at hl 0 rfl) ?_
  refine lv_iconst (v := 1) hx hb dL_law_1507 (by decide) ?_
  refine lv_iadd hx hb dL_law_1508 ?_
  refine va_sld hx hb hX hbl hbA hS hi1 dL_law_1509 ?_
  rw [hy1]
  refine lv_aload_n hx hb dL_law_1510 rfl (lv_at hl 4 rfl) ?_
  refine lv_iload hx hb dL_law_1511 (lv_at hl 0 rfl) ?_
  refine lv_iconst (v := 2) hx hb dL_law_1513 (by decide) ?_
  refine lv_iadd hx hb dL_law_1514 ?_
  refine va_sld hx hb hX hbl hbA hS hi2 dL_law_1515 ?_
  rw [hy2]
  refine lv_i2l (v := y2.toInt64) hx hb dL_law_1516 rfl ?_
  refine lv_bipush (v := 32) hx hb dL_law_1517 (by decide) ?_
  refine lv_lshl (v := (y2.toInt64 <<< ((32 : Int32).toInt64 &&& 63))) hx hb dL_law_1519 rfl ?_
  refine lv_aload_n hx hb dL_law_1520 rfl (lv_at hl 4 rfl) ?_
  refine lv_iload hx hb dL_law_1521 (lv_at hl 0 rfl) ?_
  refine lv_iconst (v := 3) hx hb dL_law_1523 (by decide) ?_
  refine lv_iadd hx hb dL_law_1524 ?_
  refine va_sld hx hb hX hbl hbA hS hi3 dL_law_1525 ?_
  rw [hy3]
  refine lv_i2l (v := y3.toInt64) hx hb dL_law_1526 rfl ?_
  refine lv_ldc2 (v := 4294967295) hx hb hown (htw _ (ck_1 _ (List.mem_of_getElem? (i := 7) rfl))) dL_law_1527 ?_
  refine lv_land hx hb dL_law_1530 ?_
  refine lv_lor hx hb dL_law_1531 ?_
  refine lv_aload_n hx hb dL_law_1532 rfl (lv_at hl 4 rfl) ?_
  refine lv_iload hx hb dL_law_1533 (lv_at hl 0 rfl) ?_
  refine lv_iconst (v := 4) hx hb dL_law_1535 (by decide) ?_
  refine lv_iadd hx hb dL_law_1536 ?_
  refine va_sld hx hb hX hbl hbA hS hi4 dL_law_1537 ?_
  rw [hy4]
  obtain ⟨hPc, hDc, hFc, hCc⟩ := zsub3 (ws' := [(mq, .inr (12, mF g gl rf)), (eA0 (rf 29) (ck 29) 24 f_landHas)]) hP hD hS hA [8, 9] (by decide) rfl
  have hKc := hK.sub (tys' := [((ck 29), .int)]) [2] rfl
  refine va_calli (va_runV (As := [.int y1, .long ((y2.toInt64 <<< ((32 : Int32).toInt64 &&& 63)) ||| (y3.toInt64 &&& 4294967295)), .int y4]) (rest := []) ⟨hx, hb, hml, hown, htw⟩ (gq_ends l dC dI mq g gl rf ck f_landHas y1 ((y2.toInt64 <<< ((32 : Int32).toInt64 &&& 63)) ||| (y3.toInt64 &&& 4294967295)) y4 H.size hln0 hln4 hLZ1) (cwV 3 htw (xg_V (ck_50 _ (List.mem_of_getElem? (i := 20) rfl)) (ck_50 _ (List.mem_of_getElem? (i := 21) rfl)) (ck_50 _ (List.mem_of_getElem? (i := 22) rfl)) (ck_1 _ (List.mem_of_getElem? (i := 5) rfl)) (ck_50 _ (List.mem_of_getElem? (i := 23) rfl))) rfl rfl rfl (by exact ⟨rfl, hdc_14.1, hdc_14.2, hdd_64⟩) ⟨Nat.le_of_ble_eq_true rfl, Nat.le_of_ble_eq_true rfl⟩) ⟨fun a U g mk q => by obtain ⟨q0, q1, qP, qK, qD⟩ := q; exact ⟨q0, q1, qP, va_K.moved (u := U) (U := U.calling g mk a) (Vm.Alike.refl U.vm) qK, qD⟩, va_recv hKc hPc (ci := 12) (q0 := 0) rfl rfl, fun U hU hW => ⟨rfl, by rw [hU], by rw [hU]; exact hPc, va_K.moved hW.alike hKc, hDc.weaken (fun _ _ _ _ => trivial)⟩⟩ rfl rfl hl.1 rfl (lv_room (Nat.le_of_ble_eq_true rfl)) dL_law_1538 ⟨by first | exact Nat.le_of_ble_eq_true rfl | exact yR (n := 0) (by omega) rfl, by first | exact Nat.le_of_ble_eq_true rfl | exact yR2 (n := 0) (by omega) rfl⟩) hS (fun q _ h => hFc q h) hFc (fun r_10 u_11 t H1 locs ht hvm hw hB hz1 hk1 hS => ?_)
  try dsimp only at hw
  obtain ⟨hP1, hK1, hD1⟩ := hB
  rw [ht] at hP1
  have hK1 := va_K.moved hvm.symm hK1
  have hK1 : va_K (dC, dI) vwCl [] s := hK1
  obtain ⟨hP, hD⟩ := va_join (wr := [(eO11a x pa bk xsp xdy le xst xsc xim xil xik xmo xom wi), (eO0a bk bto bnm bla bsk bru bbo bdi bda bdk bdt bdp bno), (eA0 bto cTo 5 fTo), (eA4 bla cLa 4 (fun k => some (La k))), (eO1a (La 0) (FI 0) (GR 0) (FR 0)), (eO1a (La 1) (FI 1) (GR 1) (FR 1)), (eO1a (La 2) (FI 2) (GR 2) (FR 2)), (eO1a (La 3) (FI 3) (GR 3) (FR 3))]) (w1 := [(mq, .inr (12, mF (upd g 2 u_11.1) (vp_updL (vp_updL gl 53 u_11.2.1) 54 u_11.2.2) rf)), (eA0 (rf 29) (ck 29) 24 f_landHas)]) hP hD [8, 9] [0, 1, 2, 3, 4, 5, 6, 7] hCc rfl (by decide +kernel) (by decide +kernel) hk1 hFc hP1 hD1
  have hfr := yF (wc := [(mq, .inr (12, mF g gl rf)), (eA0 (rf 29) (ck 29) 24 f_landHas)]) hBs [8, 9] rfl hz0 hfr hk1
  have hz0 := Nat.le_trans hz0 hz1
  generalize H1 = H at hP hS hfr hz0 ⊢
  obtain ⟨hP, hD⟩ := zre [(eO11a x pa bk xsp xdy le xst xsc xim xil xik xmo xom wi), (eO0a bk bto bnm bla bsk bru bbo bdi bda bdk bdt bdp bno), (eA0 bto cTo 5 fTo), (eA4 bla cLa 4 (fun k => some (La k))), (eO1a (La 0) (FI 0) (GR 0) (FR 0)), (eO1a (La 1) (FI 1) (GR 1) (FR 1)), (eO1a (La 2) (FI 2) (GR 2) (FR 2)), (eO1a (La 3) (FI 3) (GR 3) (FR 3)), (mq, .inr (12, mF (upd g 2 u_11.1) (vp_updL (vp_updL gl 53 u_11.2.1) 54 u_11.2.2) rf)), (eA0 (rf 29) (ck 29) 24 f_landHas)] hP hD rfl
  refine W.widen (k := ce + 0) (n := sl + 0) (by omega) (by omega) ?_
  obtain ⟨X_15, hX_15⟩ : ∃ X9 : Int32 × (Int32) × (Int64) × (Int64), X9 = (fq_ends f_landHas y1 ((y2.toInt64 <<< ((32 : Int32).toInt64 &&& 63)) ||| (y3.toInt64 &&& 4294967295)) y4 (g 12) (gl 53) (gl 54)) := ⟨_, rfl⟩
  have hq_r_10 : r_10 = X_15.1 := by rw [hX_15]; exact hw.1
  have hq_u_11 : u_11 = X_15.2 := by rw [hX_15]; exact hw.2
  refine lv_pop hx hb dL_law_1541 rfl ?_
  refine lv_goto (tgt := 2012) hx hb dL_law_1542 (by decide) ?_
  refine W.widen (k := ce + 1) (n := sl + 6) (by omega) (by omega) ?_
  exact kk1 r_5 hq_r_5 X_15 hX_15 r_10 hq_r_10 u_11 hq_u_11 H locs ls (hP.sub (ws' := [(eO11a x pa bk xsp xdy le xst xsc xim xil xik xmo xom wi), (eO0a bk bto bnm bla bsk bru bbo bdi bda bdk bdt bdp bno), (eA0 bto cTo 5 fTo), (eA4 bla cLa 4 (fun k => some (La k))), (eO1a (La 0) (FI 0) (GR 0) (FR 0)), (eO1a (La 1) (FI 1) (GR 1) (FR 1)), (eO1a (La 2) (FI 2) (GR 2) (FR 2)), (eO1a (La 3) (FI 3) (GR 3) (FR 3)), (mq, .inr (12, mF (upd g 2 u_11.1) (vp_updL (vp_updL gl 53 u_11.2.1) 54 u_11.2.2) rf)), (eA0 (rf 29) (ck 29) 24 f_landHas)]) [0, 1, 2, 3, 4, 5, 6, 7, 8, 9] rfl) hS (lv_sub hl [0, 1, 2, 3, 4] rfl) hz0 hfr
