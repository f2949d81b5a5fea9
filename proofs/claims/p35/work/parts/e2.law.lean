theorem dL_law_204 : decode cL_law 204 = .ok (.aload_n 1, 1) := zk_43 (by decide +kernel)
theorem dL_law_205 : decode cL_law 205 = .ok (.aload_n 0, 1) := zk_42 (by decide +kernel)
theorem dL_law_206 : decode cL_law 206 = .ok (.iload 4, 2) := zk_21 (by decide +kernel)
theorem dL_law_208 : decode cL_law 208 = .ok (.iconst 1, 1) := zk_4 (by decide +kernel)
theorem dL_law_209 : decode cL_law 209 = .ok (.iadd, 1) := zk_96 (by decide +kernel)
theorem dL_law_210 : decode cL_law 210 = .ok (.iaload, 1) := zk_46 (by decide +kernel)
theorem dL_law_211 : decode cL_law 211 = .ok (.aload_n 0, 1) := zk_42 (by decide +kernel)
theorem dL_law_212 : decode cL_law 212 = .ok (.iload 4, 2) := zk_21 (by decide +kernel)
theorem dL_law_214 : decode cL_law 214 = .ok (.iconst 2, 1) := zk_5 (by decide +kernel)
theorem dL_law_215 : decode cL_law 215 = .ok (.iadd, 1) := zk_96 (by decide +kernel)
theorem dL_law_216 : decode cL_law 216 = .ok (.iaload, 1) := zk_46 (by decide +kernel)
theorem dL_law_217 : decode cL_law 217 = .ok (.aload_n 0, 1) := zk_42 (by decide +kernel)
theorem dL_law_218 : decode cL_law 218 = .ok (.iload 4, 2) := zk_21 (by decide +kernel)
theorem dL_law_220 : decode cL_law 220 = .ok (.iconst 3, 1) := zk_6 (by decide +kernel)
theorem dL_law_221 : decode cL_law 221 = .ok (.iadd, 1) := zk_96 (by decide +kernel)
theorem dL_law_222 : decode cL_law 222 = .ok (.iaload, 1) := zk_46 (by decide +kernel)
theorem dL_law_223 : decode cL_law 223 = .ok (.aload_n 0, 1) := zk_42 (by decide +kernel)
theorem dL_law_224 : decode cL_law 224 = .ok (.iload 4, 2) := zk_21 (by decide +kernel)
theorem dL_law_226 : decode cL_law 226 = .ok (.iconst 4, 1) := zk_7 (by decide +kernel)
theorem dL_law_227 : decode cL_law 227 = .ok (.iadd, 1) := zk_96 (by decide +kernel)
theorem dL_law_228 : decode cL_law 228 = .ok (.iaload, 1) := zk_46 (by decide +kernel)
theorem dL_law_229 : decode cL_law 229 = .ok (.aload_n 0, 1) := zk_42 (by decide +kernel)
theorem dL_law_230 : decode cL_law 230 = .ok (.iload 4, 2) := zk_21 (by decide +kernel)
theorem dL_law_232 : decode cL_law 232 = .ok (.iconst 5, 1) := zk_8 (by decide +kernel)
theorem dL_law_233 : decode cL_law 233 = .ok (.iadd, 1) := zk_96 (by decide +kernel)
theorem dL_law_234 : decode cL_law 234 = .ok (.iaload, 1) := zk_46 (by decide +kernel)
theorem dL_law_235 : decode cL_law 235 = .ok (.invokevirtual 21, 3) := zk_182 (by decide +kernel)
theorem dL_law_238 : decode cL_law 238 = .ok (.pop, 1) := zk_87 (by decide +kernel)
theorem dL_law_239 : decode cL_law 239 = .ok (.aload_n 2, 1) := zk_44 (by decide +kernel)
theorem dL_law_240 : decode cL_law 240 = .ok (.aload_n 0, 1) := zk_42 (by decide +kernel)
theorem dL_law_241 : decode cL_law 241 = .ok (.iload 4, 2) := zk_21 (by decide +kernel)
theorem dL_law_243 : decode cL_law 243 = .ok (.iconst 1, 1) := zk_4 (by decide +kernel)
theorem dL_law_244 : decode cL_law 244 = .ok (.iadd, 1) := zk_96 (by decide +kernel)
theorem dL_law_245 : decode cL_law 245 = .ok (.iaload, 1) := zk_46 (by decide +kernel)
theorem dL_law_246 : decode cL_law 246 = .ok (.aload_n 0, 1) := zk_42 (by decide +kernel)
theorem dL_law_247 : decode cL_law 247 = .ok (.iload 4, 2) := zk_21 (by decide +kernel)
theorem dL_law_249 : decode cL_law 249 = .ok (.iconst 2, 1) := zk_5 (by decide +kernel)
theorem dL_law_250 : decode cL_law 250 = .ok (.iadd, 1) := zk_96 (by decide +kernel)
theorem dL_law_251 : decode cL_law 251 = .ok (.iaload, 1) := zk_46 (by decide +kernel)
theorem dL_law_252 : decode cL_law 252 = .ok (.aload_n 0, 1) := zk_42 (by decide +kernel)
theorem dL_law_253 : decode cL_law 253 = .ok (.iload 4, 2) := zk_21 (by decide +kernel)
theorem dL_law_255 : decode cL_law 255 = .ok (.iconst 3, 1) := zk_6 (by decide +kernel)
theorem dL_law_256 : decode cL_law 256 = .ok (.iadd, 1) := zk_96 (by decide +kernel)
theorem dL_law_257 : decode cL_law 257 = .ok (.iaload, 1) := zk_46 (by decide +kernel)
theorem dL_law_258 : decode cL_law 258 = .ok (.aload_n 0, 1) := zk_42 (by decide +kernel)
theorem dL_law_259 : decode cL_law 259 = .ok (.iload 4, 2) := zk_21 (by decide +kernel)
theorem dL_law_261 : decode cL_law 261 = .ok (.iconst 4, 1) := zk_7 (by decide +kernel)
theorem dL_law_262 : decode cL_law 262 = .ok (.iadd, 1) := zk_96 (by decide +kernel)
theorem dL_law_263 : decode cL_law 263 = .ok (.iaload, 1) := zk_46 (by decide +kernel)
theorem dL_law_264 : decode cL_law 264 = .ok (.aload_n 0, 1) := zk_42 (by decide +kernel)
theorem dL_law_265 : decode cL_law 265 = .ok (.iload 4, 2) := zk_21 (by decide +kernel)
theorem dL_law_267 : decode cL_law 267 = .ok (.iconst 5, 1) := zk_8 (by decide +kernel)
theorem dL_law_268 : decode cL_law 268 = .ok (.iadd, 1) := zk_96 (by decide +kernel)
theorem dL_law_269 : decode cL_law 269 = .ok (.iaload, 1) := zk_46 (by decide +kernel)
theorem dL_law_270 : decode cL_law 270 = .ok (.invokevirtual 25, 3) := zk_182 (by decide +kernel)
theorem dL_law_273 : decode cL_law 273 = .ok (.pop, 1) := zk_87 (by decide +kernel)
theorem dL_law_274 : decode cL_law 274 = .ok (.goto 1738, 3) := zk_167 (by decide +kernel)
set_option maxHeartbeats 4000000 in
set_option maxRecDepth 100000 in
theorem law_feed (l : Launch) (hst : l.stackTraces = false) {p : Program} {e : Env} {s : State} {m : MethodId} {below : List Frame} {meth : Method} {c : Code} {bs L : Nat} {xs : Nat → Int32} (C0 : lw_At p s m meth c bs L xs) (dC : Nat → ClassId) (dI : Nat → Nat → Nat) (A : Nat → Prop) (hAe : ∀ q, A q ↔ s.heap.size ≤ q) (x : Nat) (pa : Nat) (bk : Nat) (xsp : Nat) (xdy : Nat) (le : Nat) (xst : Nat) (xsc : Int32) (xim : Nat) (xil : Nat) (xik : Int32) (xmo : Nat) (xom : Nat) (wi : Nat) (lx : Nat) (pbk : Value) (pfa : Int32) (pfp : Int32) (psk : Int32) (phe : Nat) (phr : Nat) (phs : Int32) (pop : Int32) (lby : Nat) (lfi : Int32) (lco : Nat) (lxe : Int32) (lxa : Int32) (lxt : Int32) (lxp : Int32) (lxn : Int32) (lxl : Int32) (cBy : ClassId) (fBy : Nat → Int32) (mq : Nat) (g : Nat → Int32) (gl : Nat → Int64) (rf : Nat → Nat) (ck : Nat → ClassId) (f_tape : Nat → Int32) (o3 : Nat) (h0_lfi : ¬ lfi < 0) (hts0 : ¬ (g 1) < 0) (hts9 : (g 1) ≤ 900) (sL : Nat → Nat)  (i y1 y2 y3 y4 y5 : Int32) (hi1 : vp_in (i + 1) L) (hy1 : xs (i + 1).toNatClampNeg = y1) (hi2 : vp_in (i + 2) L) (hy2 : xs (i + 2).toNatClampNeg = y2) (hi3 : vp_in (i + 3) L) (hy3 : xs (i + 3).toNatClampNeg = y3) (hi4 : vp_in (i + 4) L) (hy4 : xs (i + 4).toNatClampNeg = y4) (hi5 : vp_in (i + 5) L) (hy5 : xs (i + 5).toNatClampNeg = y5)  (Bp : Nat → Prop) (H0 : Heap) (locs : List Loc) (ls : Array Slot) (ce sl : Nat) (hce : ce + 1 ≤ 601024) (hsl : sl + 6 ≤ 7293034) (hK : va_K (dC, dI) vwCl [(cBy, .byte), ((ck 0), .int)] s) (hP : va_P (dC, dI) vwCl [(eO11a x pa bk xsp xdy le xst xsc xim xil xik xmo xom wi), (pa, .inr (7, [.ref lx, pbk, .int pfa, .int pfp, .int psk, .ref phe, .ref phr, .int phs, .int pop])), (eO3a lx lby lfi lco lxe lxa lxt lxp lxn lxl), (eA0 lby cBy 900 fBy), (mq, .inr (12, mF g gl rf)), (eA0 (rf 0) (ck 0) 900 f_tape)] H0) (hD : va_D A [(eO11a x pa bk xsp xdy le xst xsc xim xil xik xmo xom wi), (pa, .inr (7, [.ref lx, pbk, .int pfa, .int pfp, .int psk, .ref phe, .ref phr, .int phs, .int pop])), (eO3a lx lby lfi lco lxe lxa lxt lxp lxn lxl), (eA0 lby cBy 900 fBy), (mq, .inr (12, mF g gl rf)), (eA0 (rf 0) (ck 0) 900 f_tape)]) (hBs : yB Bp [(eO11a x pa bk xsp xdy le xst xsc xim xil xik xmo xom wi), (pa, .inr (7, [.ref lx, pbk, .int pfa, .int pfp, .int psk, .ref phe, .ref phr, .int phs, .int pop])), (eO3a lx lby lfi lco lxe lxa lxt lxp lxn lxl), (eA0 lby cBy 900 fBy), (mq, .inr (12, mF g gl rf)), (eA0 (rf 0) (ck 0) 900 f_tape)]) (hS : va_S A s.heap H0 locs) (hl : lv_has ls 7 [(4, .int i), (3, .ref o3), (2, .ref mq), (1, .ref x), (0, .ref bs)]) (kk1 : ∀ (r_6 : Int32), r_6 = (fx_feed lfi fBy y1 y2 y3 y4 y5).1 → ∀ (u_7 : (Int32) × (Nat → Int32)), u_7 = (fx_feed lfi fBy y1 y2 y3 y4 y5).2 → ∀ (X_20 : Int32 × (Int32) × (Int32) × (Nat → Int32)), X_20 = (fq_feed f_tape y1 y2 y3 y4 y5 (g 1)) → ∀ (r_15 : Int32), r_15 = X_20.1 → ∀ (u_16 : (Int32) × (Int32) × (Nat → Int32)), u_16 = X_20.2 → ∀ (H : Heap) (locs : List Loc) (ls : Array Slot), va_P (dC, dI) vwCl [(eO11a x pa bk xsp xdy le xst xsc xim xil xik xmo xom wi), (pa, .inr (7, [.ref lx, pbk, .int pfa, .int pfp, .int psk, .ref phe, .ref phr, .int phs, .int pop])), (eO3a lx lby u_7.1 lco lxe lxa lxt lxp lxn lxl), (eA0 lby cBy 900 u_7.2), (mq, .inr (12, mF (upd (upd g 1 u_16.2.1) 2 u_16.1) gl rf)), (eA0 (rf 0) (ck 0) 900 u_16.2.2)] H → va_S A s.heap H locs → lv_has ls 7 [(4, .int i), (3, .ref o3), (2, .ref mq), (1, .ref x), (0, .ref bs)] → H0.size ≤ H.size → (∀ q : Nat, q < H0.size → ¬ Bp q → H[q]? = H0[q]?) → W p l e room_1 s m #[Value.ref bs] below meth c H locs (ce + 1) (sl + 6) (lw_Z below #[Value.ref bs] s) (F0 m 2012 ls [])) : W p l e room_1 s m #[Value.ref bs] below meth c H0 locs ce sl (lw_Z below #[Value.ref bs] s) (F0 m 204 ls []) := by
  obtain ⟨hx, hb, hr, hml, hown, hts, hX, hbl, hlocks, hgv⟩ := id C0
  have htw : ∀ w ∈ wsL_law, w.before _ s = true := fun w h => hts w (wsL_law_in w h)
  have hown : s.vm.findClass RL = some m.cls := hown
  have hA : ∀ q : Nat, s.heap.size ≤ q → A q := fun q h => (hAe q).mpr h
  have hbA : ¬ A bs := fun h => absurd ((hAe bs).mp h) (Nat.not_le.mpr hbl)
  obtain ⟨H, rH⟩ : ∃ z : Heap, z = H0 := ⟨_, rfl⟩
  have hfr : ∀ q : Nat, q < H0.size → ¬ Bp q → H[q]? = H0[q]? := fun q _ _ => by rw [rH]
  have hz0 : H0.size ≤ H.size := by rw [rH]; exact Nat.le_refl _
  rw [← rH] at hP hS ⊢
  refine lv_aload_n hx hb dL_law_204 rfl (lv_at hl 3 rfl) ?_
  refine lv_aload_n hx hb dL_law_205 rfl (lv_at hl 4 rfl) ?_
  refine lv_iload hx hb dL_law_206 (lv_at hl 0 rfl) ?_
  refine lv_iconst (v := 1) hx hb dL_law_208 (by decide) ?_
  refine lv_iadd hx hb dL_law_209 ?_
  refine va_sld hx hb hX hbl hbA hS hi1 dL_law_210 ?_
  rw [hy1]
  refine lv_aload_n hx hb dL_law_211 rfl (lv_at hl 4 rfl) ?_
  refine lv_iload hx hb dL_law_212 (lv_at hl 0 rfl) ?_
  refine lv_iconst (v := 2) hx hb dL_law_214 (by decide) ?_
  refine lv_iadd hx hb dL_law_215 ?_
  refine va_sld hx hb hX hbl hbA hS hi2 dL_law_216 ?_
  rw [hy2]
  refine lv_aload_n hx hb dL_law_217 rfl (lv_at hl 4 rfl) ?_
  refine lv_iload hx hb dL_law_218 (lv_at hl 0 rfl) ?_
  refine lv_iconst (v := 3) hx hb dL_law_220 (by decide) ?_
  refine lv_iadd hx hb dL_law_221 ?_
  refine va_sld hx hb hX hbl hbA hS hi3 dL_law_222 ?_
  rw [hy3]
  refine lv_aload_n hx hb dL_law_223 rfl (lv_at hl 4 rfl) ?_
  refine lv_iload hx hb dL_law_224 (lv_at hl 0 rfl) ?_
  refine lv_iconst (v := 4) hx hb dL_law_226 (by decide) ?_
  refine lv_iadd hx hb dL_law_227 ?_
  refine va_sld hx hb hX hbl hbA hS hi4 dL_law_228 ?_
  rw [hy4]
  refine lv_aload_n hx hb dL_law_229 rfl (lv_at hl 4 rfl) ?_
  refine lv_iload hx hb dL_law_230 (lv_at hl 0 rfl) ?_
  refine lv_iconst (v := 5) hx hb dL_law_232 (by decide) ?_
  refine lv_iadd hx hb dL_law_233 ?_
  refine va_sld hx hb hX hbl hbA hS hi5 dL_law_234 ?_
  rw [hy5]
  obtain ⟨hPc, hDc, hFc, hCc⟩ := zsub3 (ws' := [(eO11a x pa bk xsp xdy le xst xsc xim xil xik xmo xom wi), (pa, .inr (7, [.ref lx, pbk, .int pfa, .int pfp, .int psk, .ref phe, .ref phr, .int phs, .int pop])), (eO3a lx lby lfi lco lxe lxa lxt lxp lxn lxl), (eA0 lby cBy 900 fBy)]) hP hD hS hA [0, 1, 2, 3] (by decide) rfl
  have hKc := hK.sub (tys' := [(cBy, .byte)]) [0] rfl
  refine va_calli (va_runV (As := [.int y1, .int y2, .int y3, .int y4, .int y5]) (rest := []) ⟨hx, hb, hml, hown, htw⟩ (gx_feed l dC dI x bk xsp xdy le xst xim xil xmo xom wi xsc xik pa pbk pfa pfp psk phe phr phs pop lx lby lfi lco lxe lxa lxt lxp lxn lxl cBy fBy y1 y2 y3 y4 y5 H.size h0_lfi) (cwV 5 htw (xg_V (ck_12 _ (List.mem_of_getElem? (i := 1) rfl)) (ck_12 _ (List.mem_of_getElem? (i := 2) rfl)) (ck_12 _ (List.mem_of_getElem? (i := 3) rfl)) (ck_1 _ (List.mem_of_getElem? (i := 2) rfl)) (ck_12 _ (List.mem_of_getElem? (i := 4) rfl))) rfl rfl rfl (by exact ⟨rfl, hdc_8.1, hdc_8.2, hdd_57⟩) ⟨Nat.le_of_ble_eq_true rfl, Nat.le_of_ble_eq_true rfl⟩) ⟨fun a U g mk q => by obtain ⟨q0, q1, qP, qK, qD⟩ := q; exact ⟨q0, q1, qP, va_K.moved (u := U) (U := U.calling g mk a) (Vm.Alike.refl U.vm) qK, qD⟩, va_recv hKc hPc (ci := 11) (q0 := 0) rfl rfl, fun U hU hW => ⟨rfl, by rw [hU], by rw [hU]; exact hPc, va_K.moved hW.alike hKc, hDc.weaken (fun _ _ _ _ => trivial)⟩⟩ rfl rfl hl.1 rfl (lv_room (Nat.le_of_ble_eq_true rfl)) dL_law_235 ⟨by first | exact Nat.le_of_ble_eq_true rfl | exact yR (n := 0) (by omega) rfl, by first | exact Nat.le_of_ble_eq_true rfl | exact yR2 (n := 0) (by omega) rfl⟩) hS (fun q _ h => hFc q h) hFc (fun r_6 u_7 t H1 locs ht hvm hw hB hz1 hk1 hS => ?_)
  try dsimp only at hw
  obtain ⟨hP1, hK1, hD1⟩ := hB
  rw [ht] at hP1
  have hK1 := va_K.moved hvm.symm hK1
  have hK1 : va_K (dC, dI) vwCl [] s := hK1
  obtain ⟨hP, hD⟩ := va_join (wr := [(mq, .inr (12, mF g gl rf)), (eA0 (rf 0) (ck 0) 900 f_tape)]) (w1 := [(eO11a x pa bk xsp xdy le xst xsc xim xil xik xmo xom wi), (pa, .inr (7, [.ref lx, pbk, .int pfa, .int pfp, .int psk, .ref phe, .ref phr, .int phs, .int pop])), (eO3a lx lby u_7.1 lco lxe lxa lxt lxp lxn lxl), (eA0 lby cBy 900 u_7.2)]) hP hD [0, 1, 2, 3] [4, 5] hCc rfl (by decide) (by decide) hk1 hFc hP1 hD1
  have hfr := yF (wc := [(eO11a x pa bk xsp xdy le xst xsc xim xil xik xmo xom wi), (pa, .inr (7, [.ref lx, pbk, .int pfa, .int pfp, .int psk, .ref phe, .ref phr, .int phs, .int pop])), (eO3a lx lby lfi lco lxe lxa lxt lxp lxn lxl), (eA0 lby cBy 900 fBy)]) hBs [0, 1, 2, 3] rfl hz0 hfr hk1
  have hz0 := Nat.le_trans hz0 hz1
  generalize H1 = H at hP hS hfr hz0 ⊢
  obtain ⟨hP, hD⟩ := zre [(mq, .inr (12, mF g gl rf)), (eA0 (rf 0) (ck 0) 900 f_tape), (eO11a x pa bk xsp xdy le xst xsc xim xil xik xmo xom wi), (pa, .inr (7, [.ref lx, pbk, .int pfa, .int pfp, .int psk, .ref phe, .ref phr, .int phs, .int pop])), (eO3a lx lby u_7.1 lco lxe lxa lxt lxp lxn lxl), (eA0 lby cBy 900 u_7.2)] hP hD rfl
  refine W.widen (k := ce + 0) (n := sl + 0) (by omega) (by omega) ?_
  have hq_r_6 : r_6 = (fx_feed lfi fBy y1 y2 y3 y4 y5).1 := hw.1
  have hq_u_7 : u_7 = (fx_feed lfi fBy y1 y2 y3 y4 y5).2 := hw.2
  refine lv_pop hx hb dL_law_238 rfl ?_
  refine lv_aload_n hx hb dL_law_239 rfl (lv_at hl 2 rfl) ?_
  refine lv_aload_n hx hb dL_law_240 rfl (lv_at hl 4 rfl) ?_
  refine lv_iload hx hb dL_law_241 (lv_at hl 0 rfl) ?_
  refine lv_iconst (v := 1) hx hb dL_law_243 (by decide) ?_
  refine lv_iadd hx hb dL_law_244 ?_
  refine va_sld hx hb hX hbl hbA hS hi1 dL_law_245 ?_
  rw [hy1]
  refine lv_aload_n hx hb dL_law_246 rfl (lv_at hl 4 rfl) ?_
  refine lv_iload hx hb dL_law_247 (lv_at hl 0 rfl) ?_
  refine lv_iconst (v := 2) hx hb dL_law_249 (by decide) ?_
  refine lv_iadd hx hb dL_law_250 ?_
  refine va_sld hx hb hX hbl hbA hS hi2 dL_law_251 ?_
  rw [hy2]
  refine lv_aload_n hx hb dL_law_252 rfl (lv_at hl 4 rfl) ?_
  refine lv_iload hx hb dL_law_253 (lv_at hl 0 rfl) ?_
  refine lv_iconst (v := 3) hx hb dL_law_255 (by decide) ?_
  refine lv_iadd hx hb dL_law_256 ?_
  refine va_sld hx hb hX hbl hbA hS hi3 dL_law_257 ?_
  rw [hy3]
  refine lv_aload_n hx hb dL_law_258 rfl (lv_at hl 4 rfl) ?_
  refine lv_iload hx hb dL_law_259 (lv_at hl 0 rfl) ?_
  refine lv_iconst (v := 4) hx hb dL_law_261 (by decide) ?_
  refine lv_iadd hx hb dL_law_262 ?_
  refine va_sld hx hb hX hbl hbA hS hi4 dL_law_263 ?_
  rw [hy4]
  refine lv_aload_n hx hb dL_law_264 rfl (lv_at hl 4 rfl) ?_
  refine lv_iload hx hb dL_law_265 (lv_at hl 0 rfl) ?_
  refine lv_iconst (v := 5) hx hb dL_law_267 (by decide) ?_
  refine lv_iadd hx hb dL_law_268 ?_
  refine va_sld hx hb hX hbl hbA hS hi5 dL_law_269 ?_
  rw [hy5]
  obtain ⟨hPc, hDc, hFc, hCc⟩ := zsub3 (ws' := [(mq, .inr (12, mF g gl rf)), (eA0 (rf 0) (ck 0) 900 f_tape)]) hP hD hS hA [0, 1] (by decide) rfl
  have hKc := hK.sub (tys' := [((ck 0), .int)]) [1] rfl
  refine va_calli (va_runV (As := [.int y1, .int y2, .int y3, .int y4, .int y5]) (rest := []) ⟨hx, hb, hml, hown, htw⟩ (gq_feed l dC dI mq g gl rf ck f_tape y1 y2 y3 y4 y5 H.size hts0 hts9) (cwV 5 htw (xg_V (ck_12 _ (List.mem_of_getElem? (i := 12) rfl)) (ck_12 _ (List.mem_of_getElem? (i := 13) rfl)) (ck_12 _ (List.mem_of_getElem? (i := 14) rfl)) (ck_1 _ (List.mem_of_getElem? (i := 5) rfl)) (ck_12 _ (List.mem_of_getElem? (i := 15) rfl))) rfl rfl rfl (by exact ⟨rfl, hdc_14.1, hdc_14.2, hdd_57⟩) ⟨Nat.le_of_ble_eq_true rfl, Nat.le_of_ble_eq_true rfl⟩) ⟨fun a U g mk q => by obtain ⟨q0, q1, qP, qK, qD⟩ := q; exact ⟨q0, q1, qP, va_K.moved (u := U) (U := U.calling g mk a) (Vm.Alike.refl U.vm) qK, qD⟩, va_recv hKc hPc (ci := 12) (q0 := 0) rfl rfl, fun U hU hW => ⟨rfl, by rw [hU], by rw [hU]; exact hPc, va_K.moved hW.alike hKc, hDc.weaken (fun _ _ _ _ => trivial)⟩⟩ rfl rfl hl.1 rfl (lv_room (Nat.le_of_ble_eq_true rfl)) dL_law_270 ⟨by first | exact Nat.le_of_ble_eq_true rfl | exact yR (n := 0) (by omega) rfl, by first | exact Nat.le_of_ble_eq_true rfl | exact yR2 (n := 0) (by omega) rfl⟩) hS (fun q _ h => hFc q h) hFc (fun r_15 u_16 t H1 locs ht hvm hw hB hz1 hk1 hS => ?_)
  try dsimp only at hw
  obtain ⟨hP1, hK1, hD1⟩ := hB
  rw [ht] at hP1
  have hK1 := va_K.moved hvm.symm hK1
  have hK1 : va_K (dC, dI) vwCl [] s := hK1
  obtain ⟨hP, hD⟩ := va_join (wr := [(eO11a x pa bk xsp xdy le xst xsc xim xil xik xmo xom wi), (pa, .inr (7, [.ref lx, pbk, .int pfa, .int pfp, .int psk, .ref phe, .ref phr, .int phs, .int pop])), (eO3a lx lby u_7.1 lco lxe lxa lxt lxp lxn lxl), (eA0 lby cBy 900 u_7.2)]) (w1 := [(mq, .inr (12, mF (upd (upd g 1 u_16.2.1) 2 u_16.1) gl rf)), (eA0 (rf 0) (ck 0) 900 u_16.2.2)]) hP hD [0, 1] [2, 3, 4, 5] hCc rfl (by decide) (by decide) hk1 hFc hP1 hD1
  have hfr := yF (wc := [(mq, .inr (12, mF g gl rf)), (eA0 (rf 0) (ck 0) 900 f_tape)]) hBs [4, 5] rfl hz0 hfr hk1
  have hz0 := Nat.le_trans hz0 hz1
  generalize H1 = H at hP hS hfr hz0 ⊢
  have hP : va_P (dC, dI) vwCl [(eO11a x pa bk xsp xdy le xst xsc xim xil xik xmo xom wi), (pa, .inr (7, [.ref lx, pbk, .int pfa, .int pfp, .int psk, .ref phe, .ref phr, .int phs, .int pop])), (eO3a lx lby u_7.1 lco lxe lxa lxt lxp lxn lxl), (eA0 lby cBy 900 u_7.2), (mq, .inr (12, mF (upd (upd g 1 u_16.2.1) 2 u_16.1) gl rf)), (eA0 (rf 0) (ck 0) 900 u_16.2.2)] H := hP
  have hD : va_D A [(eO11a x pa bk xsp xdy le xst xsc xim xil xik xmo xom wi), (pa, .inr (7, [.ref lx, pbk, .int pfa, .int pfp, .int psk, .ref phe, .ref phr, .int phs, .int pop])), (eO3a lx lby u_7.1 lco lxe lxa lxt lxp lxn lxl), (eA0 lby cBy 900 u_7.2), (mq, .inr (12, mF (upd (upd g 1 u_16.2.1) 2 u_16.1) gl rf)), (eA0 (rf 0) (ck 0) 900 u_16.2.2)] := hD
  refine W.widen (k := ce + 0) (n := sl + 0) (by omega) (by omega) ?_
  obtain ⟨X_20, hX_20⟩ : ∃ X9 : Int32 × (Int32) × (Int32) × (Nat → Int32), X9 = (fq_feed f_tape y1 y2 y3 y4 y5 (g 1)) := ⟨_, rfl⟩
  have hq_r_15 : r_15 = X_20.1 := by rw [hX_20]; exact hw.1
  have hq_u_16 : u_16 = X_20.2 := by rw [hX_20]; exact hw.2
  refine lv_pop hx hb dL_law_273 rfl ?_
  refine lv_goto (tgt := 2012) hx hb dL_law_274 (by decide) ?_
  refine W.widen (k := ce + 1) (n := sl + 6) (by omega) (by omega) ?_
  exact kk1 r_6 hq_r_6 u_7 hq_u_7 X_20 hX_20 r_15 hq_r_15 u_16 hq_u_16 H locs ls (hP.sub (ws' := [(eO11a x pa bk xsp xdy le xst xsc xim xil xik xmo xom wi), (pa, .inr (7, [.ref lx, pbk, .int pfa, .int pfp, .int psk, .ref phe, .ref phr, .int phs, .int pop])), (eO3a lx lby u_7.1 lco lxe lxa lxt lxp lxn lxl), (eA0 lby cBy 900 u_7.2), (mq, .inr (12, mF (upd (upd g 1 u_16.2.1) 2 u_16.1) gl rf)), (eA0 (rf 0) (ck 0) 900 u_16.2.2)]) [0, 1, 2, 3, 4, 5] rfl) hS (lv_sub hl [0, 1, 2, 3, 4] rfl) hz0 hfr

theorem dL_law_302 : decode cL_law 302 = .ok (.aload_n 1, 1) := zk_43 (by decide +kernel)
theorem dL_law_303 : decode cL_law 303 = .ok (.aload_n 0, 1) := zk_42 (by decide +kernel)
theorem dL_law_304 : decode cL_law 304 = .ok (.iload 4, 2) := zk_21 (by decide +kernel)
theorem dL_law_306 : decode cL_law 306 = .ok (.iconst 1, 1) := zk_4 (by decide +kernel)
theorem dL_law_307 : decode cL_law 307 = .ok (.iadd, 1) := zk_96 (by decide +kernel)
theorem dL_law_308 : decode cL_law 308 = .ok (.iaload, 1) := zk_46 (by decide +kernel)
theorem dL_law_309 : decode cL_law 309 = .ok (.invokevirtual 31, 3) := zk_182 (by decide +kernel)
theorem dL_law_312 : decode cL_law 312 = .ok (.pop, 1) := zk_87 (by decide +kernel)
theorem dL_law_313 : decode cL_law 313 = .ok (.aload_n 2, 1) := zk_44 (by decide +kernel)
theorem dL_law_314 : decode cL_law 314 = .ok (.aload_n 0, 1) := zk_42 (by decide +kernel)
theorem dL_law_315 : decode cL_law 315 = .ok (.iload 4, 2) := zk_21 (by decide +kernel)
theorem dL_law_317 : decode cL_law 317 = .ok (.iconst 1, 1) := zk_4 (by decide +kernel)
theorem dL_law_318 : decode cL_law 318 = .ok (.iadd, 1) := zk_96 (by decide +kernel)
theorem dL_law_319 : decode cL_law 319 = .ok (.iaload, 1) := zk_46 (by decide +kernel)
theorem dL_law_320 : decode cL_law 320 = .ok (.invokevirtual 34, 3) := zk_182 (by decide +kernel)
theorem dL_law_323 : decode cL_law 323 = .ok (.pop, 1) := zk_87 (by decide +kernel)
theorem dL_law_324 : decode cL_law 324 = .ok (.goto 1688, 3) := zk_167 (by decide +kernel)
set_option maxHeartbeats 4000000 in
set_option maxRecDepth 100000 in
theorem law_fault (l : Launch) (hst : l.stackTraces = false) {p : Program} {e : Env} {s : State} {m : MethodId} {below : List Frame} {meth : Method} {c : Code} {bs L : Nat} {xs : Nat → Int32} (C0 : lw_At p s m meth c bs L xs) (dC : Nat → ClassId) (dI : Nat → Nat → Nat) (A : Nat → Prop) (hAe : ∀ q, A q ↔ s.heap.size ≤ q) (x : Nat) (pa : Nat) (bk : Nat) (xsp : Nat) (xdy : Nat) (le : Nat) (xst : Nat) (xsc : Int32) (xim : Nat) (xil : Nat) (xik : Int32) (xmo : Nat) (xom : Nat) (wi : Nat) (lx : Nat) (pbk : Value) (pfa : Int32) (pfp : Int32) (psk : Int32) (phe : Nat) (phr : Nat) (phs : Int32) (pop : Int32) (mq : Nat) (g : Nat → Int32) (gl : Nat → Int64) (rf : Nat → Nat) (o3 : Nat) (sL : Nat → Nat)  (i y1 : Int32) (hi1 : vp_in (i + 1) L) (hy1 : xs (i + 1).toNatClampNeg = y1)  (Bp : Nat → Prop) (H0 : Heap) (locs : List Loc) (ls : Array Slot) (ce sl : Nat) (hce : ce + 1 ≤ 601024) (hsl : sl + 6 ≤ 7293034) (hK : va_K (dC, dI) vwCl [] s) (hP : va_P (dC, dI) vwCl [(eO11a x pa bk xsp xdy le xst xsc xim xil xik xmo xom wi), (pa, .inr (7, [.ref lx, pbk, .int pfa, .int pfp, .int psk, .ref phe, .ref phr, .int phs, .int pop])), (mq, .inr (12, mF g gl rf))] H0) (hD : va_D A [(eO11a x pa bk xsp xdy le xst xsc xim xil xik xmo xom wi), (pa, .inr (7, [.ref lx, pbk, .int pfa, .int pfp, .int psk, .ref phe, .ref phr, .int phs, .int pop])), (mq, .inr (12, mF g gl rf))]) (hBs : yB Bp [(eO11a x pa bk xsp xdy le xst xsc xim xil xik xmo xom wi), (pa, .inr (7, [.ref lx, pbk, .int pfa, .int pfp, .int psk, .ref phe, .ref phr, .int phs, .int pop])), (mq, .inr (12, mF g gl rf))]) (hS : va_S A s.heap H0 locs) (hl : lv_has ls 7 [(4, .int i), (3, .ref o3), (2, .ref mq), (1, .ref x), (0, .ref bs)]) (kk1 : ∀ (r_2 : Int32), r_2 = (fx_fault pfa pfp y1) → ∀ (X_7 : Int32 × (Int32)), X_7 = (fq_fault y1 (g 4) (g 5)) → ∀ (r_4 : Int32), r_4 = X_7.1 → ∀ (u_5 : (Int32)), u_5 = X_7.2 → ∀ (H : Heap) (locs : List Loc) (ls : Array Slot), va_P (dC, dI) vwCl [(eO11a x pa bk xsp xdy le xst xsc xim xil xik xmo xom wi), (pa, .inr (7, [.ref lx, pbk, .int pfa, .int pfp, .int psk, .ref phe, .ref phr, .int phs, .int pop])), (mq, .inr (12, mF (upd g 2 u_5) gl rf))] H → va_S A s.heap H locs → lv_has ls 7 [(4, .int i), (3, .ref o3), (2, .ref mq), (1, .ref x), (0, .ref bs)] → H0.size ≤ H.size → (∀ q : Nat, q < H0.size → ¬ Bp q → H[q]? = H0[q]?) → W p l e room_1 s m #[Value.ref bs] below meth c H locs (ce + 1) (sl + 6) (lw_Z below #[Value.ref bs] s) (F0 m 2012 ls [])) : W p l e room_1 s m #[Value.ref bs] below meth c H0 locs ce sl (lw_Z below #[Value.ref bs] s) (F0 m 302 ls []) := by
  obtain ⟨hx, hb, hr, hml, hown, hts, hX, hbl, hlocks, hgv⟩ := id C0
  have htw : ∀ w ∈ wsL_law, w.before _ s = true := fun w h => hts w (wsL_law_in w h)
  have hown : s.vm.findClass RL = some m.cls := hown
  have hA : ∀ q : Nat, s.heap.size ≤ q → A q := fun q h => (hAe q).mpr h
  have hbA : ¬ A bs := fun h => absurd ((hAe bs).mp h) (Nat.not_le.mpr hbl)
  obtain ⟨H, rH⟩ : ∃ z : Heap, z = H0 := ⟨_, rfl⟩
  have hfr : ∀ q : Nat, q < H0.size → ¬ Bp q → H[q]? = H0[q]? := fun q _ _ => by rw [rH]
  have hz0 : H0.size ≤ H.size := by rw [rH]; exact Nat.le_refl _
  rw [← rH] at hP hS ⊢
  refine lv_aload_n hx hb dL_law_302 rfl (lv_at hl 3 rfl) ?_
  refine lv_aload_n hx hb dL_law_303 rfl (lv_at hl 4 rfl) ?_
  refine lv_iload hx hb dL_law_304 (lv_at hl 0 rfl) ?_
  refine lv_iconst (v := 1) hx hb dL_law_306 (by decide) ?_
  refine lv_iadd hx hb dL_law_307 ?_
  refine va_sld hx hb hX hbl hbA hS hi1 dL_law_308 ?_
  rw [hy1]
  have hPc := hP.sub (ws' := [(eO11a x pa bk xsp xdy le xst xsc xim xil xik xmo xom wi), (pa, .inr (7, [.ref lx, pbk, .int pfa, .int pfp, .int psk, .ref phe, .ref phr, .int phs, .int pop]))]) [0, 1] rfl
  have hKc := hK.sub (tys' := []) [] rfl
  refine vp_callSi (W.runV (As := [.int y1]) (rest := []) ⟨hx, hb, hml, hown, htw⟩ (gx_fault l dC dI x pa bk xsp xdy le xst xsc xim xil xik xmo xom wi lx pbk pfa pfp psk phe phr phs pop y1) (cwV 1 htw (xg_V (ck_32 _ (List.mem_of_getElem? (i := 9) rfl)) (ck_32 _ (List.mem_of_getElem? (i := 10) rfl)) (ck_32 _ (List.mem_of_getElem? (i := 11) rfl)) (ck_1 _ (List.mem_of_getElem? (i := 2) rfl)) (ck_32 _ (List.mem_of_getElem? (i := 12) rfl))) rfl rfl rfl (by exact ⟨rfl, hdc_8.1, hdc_8.2, hdd_2⟩) ⟨Nat.le_of_ble_eq_true rfl, Nat.le_of_ble_eq_true rfl⟩) ⟨fun a U g mk q => by obtain ⟨q0, qP, qK⟩ := q; exact ⟨q0, qP, va_K.moved (u := U) (U := U.calling g mk a) (Vm.Alike.refl U.vm) qK⟩, va_recv hKc hPc (ci := 11) (q0 := 0) rfl rfl, fun U hU hW => ⟨rfl, by rw [hU]; exact hPc, va_K.moved hW.alike hKc⟩⟩ rfl rfl hl.1 rfl (lv_room (Nat.le_of_ble_eq_true rfl)) dL_law_309 ⟨by first | exact Nat.le_of_ble_eq_true rfl | exact yR (n := 0) (by omega) rfl, by first | exact Nat.le_of_ble_eq_true rfl | exact yR2 (n := 0) (by omega) rfl⟩) (fun r_2 hw => ?_)
  try dsimp only at hw
  have hq_r_2 : r_2 = (fx_fault pfa pfp y1) := hw
  refine lv_pop hx hb dL_law_312 rfl ?_
  refine lv_aload_n hx hb dL_law_313 rfl (lv_at hl 2 rfl) ?_
  refine lv_aload_n hx hb dL_law_314 rfl (lv_at hl 4 rfl) ?_
  refine lv_iload hx hb dL_law_315 (lv_at hl 0 rfl) ?_
  refine lv_iconst (v := 1) hx hb dL_law_317 (by decide) ?_
  refine lv_iadd hx hb dL_law_318 ?_
  refine va_sld hx hb hX hbl hbA hS hi1 dL_law_319 ?_
  rw [hy1]
  obtain ⟨hPc, hDc, hFc, hCc⟩ := zsub3 (ws' := [(mq, .inr (12, mF g gl rf))]) hP hD hS hA [2] (by decide) rfl
  have hKc := hK.sub (tys' := []) [] rfl
  refine va_calli (va_runV (As := [.int y1]) (rest := []) ⟨hx, hb, hml, hown, htw⟩ (gq_fault l dC dI mq g gl rf y1 H.size) (cwV 1 htw (xg_V (ck_32 _ (List.mem_of_getElem? (i := 15) rfl)) (ck_32 _ (List.mem_of_getElem? (i := 16) rfl)) (ck_32 _ (List.mem_of_getElem? (i := 17) rfl)) (ck_1 _ (List.mem_of_getElem? (i := 5) rfl)) (ck_32 _ (List.mem_of_getElem? (i := 18) rfl))) rfl rfl rfl (by exact ⟨rfl, hdc_14.1, hdc_14.2, hdd_2⟩) ⟨Nat.le_of_ble_eq_true rfl, Nat.le_of_ble_eq_true rfl⟩) ⟨fun a U g mk q => by obtain ⟨q0, q1, qP, qK, qD⟩ := q; exact ⟨q0, q1, qP, va_K.moved (u := U) (U := U.calling g mk a) (Vm.Alike.refl U.vm) qK, qD⟩, va_recv hKc hPc (ci := 12) (q0 := 0) rfl rfl, fun U hU hW => ⟨rfl, by rw [hU], by rw [hU]; exact hPc, va_K.moved hW.alike hKc, hDc.weaken (fun _ _ _ _ => trivial)⟩⟩ rfl rfl hl.1 rfl (lv_room (Nat.le_of_ble_eq_true rfl)) dL_law_320 ⟨by first | exact Nat.le_of_ble_eq_true rfl | exact yR (n := 0) (by omega) rfl, by first | exact Nat.le_of_ble_eq_true rfl | exact yR2 (n := 0) (by omega) rfl⟩) hS (fun q _ h => hFc q h) hFc (fun r_4 u_5 t H1 locs ht hvm hw hB hz1 hk1 hS => ?_)
  try dsimp only at hw
  obtain ⟨hP1, hK1, hD1⟩ := hB
  rw [ht] at hP1
  have hK1 := va_K.moved hvm.symm hK1
  have hK1 : va_K (dC, dI) vwCl [] s := hK1
  obtain ⟨hP, hD⟩ := va_join (wr := [(eO11a x pa bk xsp xdy le xst xsc xim xil xik xmo xom wi), (pa, .inr (7, [.ref lx, pbk, .int pfa, .int pfp, .int psk, .ref phe, .ref phr, .int phs, .int pop]))]) (w1 := [(mq, .inr (12, mF (upd g 2 u_5) gl rf))]) hP hD [2] [0, 1] hCc rfl (by decide) (by decide) hk1 hFc hP1 hD1
  have hfr := yF (wc := [(mq, .inr (12, mF g gl rf))]) hBs [2] rfl hz0 hfr hk1
  have hz0 := Nat.le_trans hz0 hz1
  generalize H1 = H at hP hS hfr hz0 ⊢
  obtain ⟨hP, hD⟩ := zre [(eO11a x pa bk xsp xdy le xst xsc xim xil xik xmo xom wi), (pa, .inr (7, [.ref lx, pbk, .int pfa, .int pfp, .int psk, .ref phe, .ref phr, .int phs, .int pop])), (mq, .inr (12, mF (upd g 2 u_5) gl rf))] hP hD rfl
  refine W.widen (k := ce + 0) (n := sl + 0) (by omega) (by omega) ?_
  obtain ⟨X_7, hX_7⟩ : ∃ X9 : Int32 × (Int32), X9 = (fq_fault y1 (g 4) (g 5)) := ⟨_, rfl⟩
  have hq_r_4 : r_4 = X_7.1 := by rw [hX_7]; exact hw.1
  have hq_u_5 : u_5 = X_7.2 := by rw [hX_7]; exact hw.2
  refine lv_pop hx hb dL_law_323 rfl ?_
  refine lv_goto (tgt := 2012) hx hb dL_law_324 (by decide) ?_
  refine W.widen (k := ce + 1) (n := sl + 6) (by omega) (by omega) ?_
  exact kk1 r_2 hq_r_2 X_7 hX_7 r_4 hq_r_4 u_5 hq_u_5 H locs ls (hP.sub (ws' := [(eO11a x pa bk xsp xdy le xst xsc xim xil xik xmo xom wi), (pa, .inr (7, [.ref lx, pbk, .int pfa, .int pfp, .int psk, .ref phe, .ref phr, .int phs, .int pop])), (mq, .inr (12, mF (upd g 2 u_5) gl rf))]) [0, 1, 2] rfl) hS (lv_sub hl [0, 1, 2, 3, 4] rfl) hz0 hfr

theorem dL_law_327 : decode cL_law 327 = .ok (.aload_n 1, 1) := zk_43 (by decide +kernel)
theorem dL_law_328 : decode cL_law 328 = .ok (.aload_n 0, 1) := zk_42 (by decide +kernel)
theorem dL_law_329 : decode cL_law 329 = .ok (.iload 4, 2) := zk_21 (by decide +kernel)
theorem dL_law_331 : decode cL_law 331 = .ok (.iconst 1, 1) := zk_4 (by decide +kernel)
theorem dL_law_332 : decode cL_law 332 = .ok (.iadd, 1) := zk_96 (by decide +kernel)
theorem dL_law_333 : decode cL_law 333 = .ok (.iaload, 1) := zk_46 (by decide +kernel)
theorem dL_law_334 : decode cL_law 334 = .ok (.aload_n 0, 1) := zk_42 (by decide +kernel)
theorem dL_law_335 : decode cL_law 335 = .ok (.iload 4, 2) := zk_21 (by decide +kernel)
theorem dL_law_337 : decode cL_law 337 = .ok (.iconst 2, 1) := zk_5 (by decide +kernel)
theorem dL_law_338 : decode cL_law 338 = .ok (.iadd, 1) := zk_96 (by decide +kernel)
theorem dL_law_339 : decode cL_law 339 = .ok (.iaload, 1) := zk_46 (by decide +kernel)
theorem dL_law_340 : decode cL_law 340 = .ok (.invokevirtual 35, 3) := zk_182 (by decide +kernel)
theorem dL_law_343 : decode cL_law 343 = .ok (.pop, 1) := zk_87 (by decide +kernel)
theorem dL_law_344 : decode cL_law 344 = .ok (.aload_n 2, 1) := zk_44 (by decide +kernel)
theorem dL_law_345 : decode cL_law 345 = .ok (.aload_n 0, 1) := zk_42 (by decide +kernel)
theorem dL_law_346 : decode cL_law 346 = .ok (.iload 4, 2) := zk_21 (by decide +kernel)
theorem dL_law_348 : decode cL_law 348 = .ok (.iconst 1, 1) := zk_4 (by decide +kernel)
theorem dL_law_349 : decode cL_law 349 = .ok (.iadd, 1) := zk_96 (by decide +kernel)
theorem dL_law_350 : decode cL_law 350 = .ok (.iaload, 1) := zk_46 (by decide +kernel)
theorem dL_law_351 : decode cL_law 351 = .ok (.aload_n 0, 1) := zk_42 (by decide +kernel)
theorem dL_law_352 : decode cL_law 352 = .ok (.iload 4, 2) := zk_21 (by decide +kernel)
theorem dL_law_354 : decode cL_law 354 = .ok (.iconst 2, 1) := zk_5 (by decide +kernel)
theorem dL_law_355 : decode cL_law 355 = .ok (.iadd, 1) := zk_96 (by decide +kernel)
theorem dL_law_356 : decode cL_law 356 = .ok (.iaload, 1) := zk_46 (by decide +kernel)
theorem dL_law_357 : decode cL_law 357 = .ok (.invokevirtual 38, 3) := zk_182 (by decide +kernel)
theorem dL_law_360 : decode cL_law 360 = .ok (.pop, 1) := zk_87 (by decide +kernel)
theorem dL_law_361 : decode cL_law 361 = .ok (.goto 1651, 3) := zk_167 (by decide +kernel)
set_option maxHeartbeats 4000000 in
set_option maxRecDepth 100000 in
theorem law_named (l : Launch) (hst : l.stackTraces = false) {p : Program} {e : Env} {s : State} {m : MethodId} {below : List Frame} {meth : Method} {c : Code} {bs L : Nat} {xs : Nat → Int32} (C0 : lw_At p s m meth c bs L xs) (dC : Nat → ClassId) (dI : Nat → Nat → Nat) (A : Nat → Prop) (hAe : ∀ q, A q ↔ s.heap.size ≤ q) (x : Nat) (pa : Nat) (bk : Nat) (xsp : Nat) (xdy : Nat) (le : Nat) (xst : Nat) (xsc : Int32) (xim : Nat) (xil : Nat) (xik : Int32) (xmo : Nat) (xom : Nat) (wi : Nat) (bto : Nat) (bnm : Nat) (bla : Nat) (bsk : Nat) (bru : Nat) (bbo : Nat) (bdi : Nat) (bda : Nat) (bdk : Nat) (bdt : Nat) (bdp : Nat) (bno : Nat) (cTo : ClassId) (fTo : Nat → Int32) (cNm : ClassId) (Nm : Nat → Nat) (cNr : ClassId) (fNm : Nat → Nat → Int32) (mq : Nat) (g : Nat → Int32) (gl : Nat → Int64) (rf : Nat → Nat) (ck : Nat → ClassId) (f_landName : Nat → Int32) (f_feastName : Nat → Int32) (f_personName : Nat → Int32) (f_deedName : Nat → Int32) (f_noteName : Nat → Int32) (o3 : Nat) (hln0 : ¬ (g 12) < 0) (hln4 : (g 12) ≤ 4) (hfe0 : ¬ (g 13) < 0) (hfe4 : (g 13) ≤ 4) (hp0 : ¬ (g 14) < 0) (hp6 : (g 14) ≤ 6) (hde0 : ¬ (g 15) < 0) (hde4 : (g 15) ≤ 4) (hn10 : ¬ (g 58) < 0) (hn16 : (g 58) ≤ 6) (sL : Nat → Nat)  (i y1 y2 : Int32) (hi1 : vp_in (i + 1) L) (hy1 : xs (i + 1).toNatClampNeg = y1) (hi2 : vp_in (i + 2) L) (hy2 : xs (i + 2).toNatClampNeg = y2)  (Bp : Nat → Prop) (H0 : Heap) (locs : List Loc) (ls : Array Slot) (ce sl : Nat) (hce : ce + 1 ≤ 601024) (hsl : sl + 6 ≤ 7293034) (hK : va_K (dC, dI) vwCl [(cTo, .int), (cNm, .array .int), (cNr, .int), ((ck 28), .int), ((ck 30), .int), ((ck 33), .int), ((ck 36), .int), ((ck 39), .int)] s) (hP : va_P (dC, dI) vwCl [(eO11a x pa bk xsp xdy le xst xsc xim xil xik xmo xom wi), (eO0a bk bto bnm bla bsk bru bbo bdi bda bdk bdt bdp bno), (eA0 bto cTo 5 fTo), (eA4 bnm cNm 5 (fun k => some (Nm k))), (eA0 (Nm 0) cNr 12 (fNm 0)), (eA0 (Nm 1) cNr 12 (fNm 1)), (eA0 (Nm 2) cNr 12 (fNm 2)), (eA0 (Nm 3) cNr 12 (fNm 3)), (eA0 (Nm 4) cNr 12 (fNm 4)), (mq, .inr (12, mF g gl rf)), (eA0 (rf 28) (ck 28) 8 f_landName), (eA0 (rf 30) (ck 30) 8 f_feastName), (eA0 (rf 33) (ck 33) 12 f_personName), (eA0 (rf 36) (ck 36) 8 f_deedName), (eA0 (rf 39) (ck 39) 12 f_noteName)] H0) (hD : va_D A [(eO11a x pa bk xsp xdy le xst xsc xim xil xik xmo xom wi), (eO0a bk bto bnm bla bsk bru bbo bdi bda bdk bdt bdp bno), (eA0 bto cTo 5 fTo), (eA4 bnm cNm 5 (fun k => some (Nm k))), (eA0 (Nm 0) cNr 12 (fNm 0)), (eA0 (Nm 1) cNr 12 (fNm 1)), (eA0 (Nm 2) cNr 12 (fNm 2)), (eA0 (Nm 3) cNr 12 (fNm 3)), (eA0 (Nm 4) cNr 12 (fNm 4)), (mq, .inr (12, mF g gl rf)), (eA0 (rf 28) (ck 28) 8 f_landName), (eA0 (rf 30) (ck 30) 8 f_feastName), (eA0 (rf 33) (ck 33) 12 f_personName), (eA0 (rf 36) (ck 36) 8 f_deedName), (eA0 (rf 39) (ck 39) 12 f_noteName)]) (hBs : yB Bp [(eO11a x pa bk xsp xdy le xst xsc xim xil xik xmo xom wi), (eO0a bk bto bnm bla bsk bru bbo bdi bda bdk bdt bdp bno), (eA0 bto cTo 5 fTo), (eA4 bnm cNm 5 (fun k => some (Nm k))), (eA0 (Nm 0) cNr 12 (fNm 0)), (eA0 (Nm 1) cNr 12 (fNm 1)), (eA0 (Nm 2) cNr 12 (fNm 2)), (eA0 (Nm 3) cNr 12 (fNm 3)), (eA0 (Nm 4) cNr 12 (fNm 4)), (mq, .inr (12, mF g gl rf)), (eA0 (rf 28) (ck 28) 8 f_landName), (eA0 (rf 30) (ck 30) 8 f_feastName), (eA0 (rf 33) (ck 33) 12 f_personName), (eA0 (rf 36) (ck 36) 8 f_deedName), (eA0 (rf 39) (ck 39) 12 f_noteName)]) (hS : va_S A s.heap H0 locs) (hl : lv_has ls 7 [(4, .int i), (3, .ref o3), (2, .ref mq), (1, .ref x), (0, .ref bs)]) (kk1 : ∀ (r_3 : Int32), r_3 = (fx_named fTo fNm y1 y2) → ∀ (X_9 : Int32 × (Int32)), X_9 = (fq_named f_landName f_feastName f_personName f_deedName f_noteName y1 y2 (g 12) (g 13) (g 14) (g 15) (g 58)) → ∀ (r_6 : Int32), r_6 = X_9.1 → ∀ (u_7 : (Int32)), u_7 = X_9.2 → ∀ (H : Heap) (locs : List Loc) (ls : Array Slot), va_P (dC, dI) vwCl [(eO11a x pa bk xsp xdy le xst xsc xim xil xik xmo xom wi), (eO0a bk bto bnm bla bsk bru bbo bdi bda bdk bdt bdp bno), (eA0 bto cTo 5 fTo), (eA4 bnm cNm 5 (fun k => some (Nm k))), (eA0 (Nm 0) cNr 12 (fNm 0)), (eA0 (Nm 1) cNr 12 (fNm 1)), (eA0 (Nm 2) cNr 12 (fNm 2)), (eA0 (Nm 3) cNr 12 (fNm 3)), (eA0 (Nm 4) cNr 12 (fNm 4)), (mq, .inr (12, mF (upd g 2 u_7) gl rf)), (eA0 (rf 28) (ck 28) 8 f_landName), (eA0 (rf 30) (ck 30) 8 f_feastName), (eA0 (rf 33) (ck 33) 12 f_personName), (eA0 (rf 36) (ck 36) 8 f_deedName), (eA0 (rf 39) (ck 39) 12 f_noteName)] H → va_S A s.heap H locs → lv_has ls 7 [(4, .int i), (3, .ref o3), (2, .ref mq), (1, .ref x), (0, .ref bs)] → H0.size ≤ H.size → (∀ q : Nat, q < H0.size → ¬ Bp q → H[q]? = H0[q]?) → W p l e room_1 s m #[Value.ref bs] below meth c H locs (ce + 1) (sl + 6) (lw_Z below #[Value.ref bs] s) (F0 m 2012 ls [])) : W p l e room_1 s m #[Value.ref bs] below meth c H0 locs ce sl (lw_Z below #[Value.ref bs] s) (F0 m 327 ls []) := by
  obtain ⟨hx, hb, hr, hml, hown, hts, hX, hbl, hlocks, hgv⟩ := id C0
  have htw : ∀ w ∈ wsL_law, w.before _ s = true := fun w h => hts w (wsL_law_in w h)
  have hown : s.vm.findClass RL = some m.cls := hown
  have hA : ∀ q : Nat, s.heap.size ≤ q → A q := fun q h => (hAe q).mpr h
  have hbA : ¬ A bs := fun h => absurd ((hAe bs).mp h) (Nat.not_le.mpr hbl)
  obtain ⟨H, rH⟩ : ∃ z : Heap, z = H0 := ⟨_, rfl⟩
  have hfr : ∀ q : Nat, q < H0.size → ¬ Bp q → H[q]? = H0[q]? := fun q _ _ => by rw [rH]
  have hz0 : H0.size ≤ H.size := by rw [rH]; exact Nat.le_refl _
  rw [← rH] at hP hS ⊢
  refine lv_aload_n hx hb dL_law_327 rfl (lv_at hl 3 rfl) ?_
  refine lv_aload_n hx hb dL_law_328 rfl (lv_at hl 4 rfl) ?_
  refine lv_iload hx hb dL_law_329 (lv_at hl 0 rfl) ?_
  refine lv_iconst (v := 1) hx hb dL_law_331 (by decide) ?_
  refine lv_iadd hx hb dL_law_332 ?_
  refine va_sld hx hb hX hbl hbA hS hi1 dL_law_333 ?_
  rw [hy1]
  refine lv_aload_n hx hb dL_law_334 rfl (lv_at hl 4 rfl) ?_
  refine lv_iload hx hb dL_law_335 (lv_at hl 0 rfl) ?_
  refine lv_iconst (v := 2) hx hb dL_law_337 (by decide) ?_
  refine lv_iadd hx hb dL_law_338 ?_
  refine va_sld hx hb hX hbl hbA hS hi2 dL_law_339 ?_
  rw [hy2]
  have hPc := hP.sub (ws' := [(eO11a x pa bk xsp xdy le xst xsc xim xil xik xmo xom wi), (eO0a bk bto bnm bla bsk bru bbo bdi bda bdk bdt bdp bno), (eA0 bto cTo 5 fTo), (eA4 bnm cNm 5 (fun k => some (Nm k))), (eA0 (Nm 0) cNr 12 (fNm 0)), (eA0 (Nm 1) cNr 12 (fNm 1)), (eA0 (Nm 2) cNr 12 (fNm 2)), (eA0 (Nm 3) cNr 12 (fNm 3)), (eA0 (Nm 4) cNr 12 (fNm 4))]) [0, 1, 2, 3, 4, 5, 6, 7, 8] rfl
  have hKc := hK.sub (tys' := [(cTo, .int), (cNm, .array .int), (cNr, .int), (cNr, .int), (cNr, .int), (cNr, .int), (cNr, .int)]) [0, 1, 2, 2, 2, 2, 2] rfl
  refine vp_callSi (W.runV (As := [.int y1, .int y2]) (rest := []) ⟨hx, hb, hml, hown, htw⟩ (gx_named l dC dI x pa bk xsp xdy le xst xsc xim xil xik xmo xom wi bto bnm bla bsk bru bbo bdi bda bdk bdt bdp bno cTo fTo cNm Nm cNr fNm y1 y2) (cwV 2 htw (xg_V (ck_32 _ (List.mem_of_getElem? (i := 19) rfl)) (ck_32 _ (List.mem_of_getElem? (i := 20) rfl)) (ck_32 _ (List.mem_of_getElem? (i := 21) rfl)) (ck_1 _ (List.mem_of_getElem? (i := 2) rfl)) (ck_32 _ (List.mem_of_getElem? (i := 22) rfl))) rfl rfl rfl (by exact ⟨rfl, hdc_8.1, hdc_8.2, hdd_7⟩) ⟨Nat.le_of_ble_eq_true rfl, Nat.le_of_ble_eq_true rfl⟩) ⟨fun a U g mk q => by obtain ⟨q0, qP, qK⟩ := q; exact ⟨q0, qP, va_K.moved (u := U) (U := U.calling g mk a) (Vm.Alike.refl U.vm) qK⟩, va_recv hKc hPc (ci := 11) (q0 := 0) rfl rfl, fun U hU hW => ⟨rfl, by rw [hU]; exact hPc, va_K.moved hW.alike hKc⟩⟩ rfl rfl hl.1 rfl (lv_room (Nat.le_of_ble_eq_true rfl)) dL_law_340 ⟨by first | exact Nat.le_of_ble_eq_true rfl | exact yR (n := 0) (by omega) rfl, by first | exact Nat.le_of_ble_eq_true rfl | exact yR2 (n := 0) (by omega) rfl⟩) (fun r_3 hw => ?_)
  try dsimp only at hw
  have hq_r_3 : r_3 = (fx_named fTo fNm y1 y2) := hw
  refine lv_pop hx hb dL_law_343 rfl ?_
  refine lv_aload_n hx hb dL_law_344 rfl (lv_at hl 2 rfl) ?_
  refine lv_aload_n hx hb dL_law_345 rfl (lv_at hl 4 rfl) ?_
  refine lv_iload hx hb dL_law_346 (lv_at hl 0 rfl) ?_
  refine lv_iconst (v := 1) hx hb dL_law_348 (by decide) ?_
  refine lv_iadd hx hb dL_law_349 ?_
  refine va_sld hx hb hX hbl hbA hS hi1 dL_law_350 ?_
  rw [hy1]
  refine lv_aload_n hx hb dL_law_351 rfl (lv_at hl 4 rfl) ?_
  refine lv_iload hx hb dL_law_352 (lv_at hl 0 rfl) ?_
  refine lv_iconst (v := 2) hx hb dL_law_354 (by decide) ?_
  refine lv_iadd hx hb dL_law_355 ?_
  refine va_sld hx hb hX hbl hbA hS hi2 dL_law_356 ?_
  rw [hy2]
  obtain ⟨hPc, hDc, hFc, hCc⟩ := zsub3 (ws' := [(mq, .inr (12, mF g gl rf)), (eA0 (rf 28) (ck 28) 8 f_landName), (eA0 (rf 30) (ck 30) 8 f_feastName), (eA0 (rf 33) (ck 33) 12 f_personName), (eA0 (rf 36) (ck 36) 8 f_deedName), (eA0 (rf 39) (ck 39) 12 f_noteName)]) hP hD hS hA [9, 10, 11, 12, 13, 14] (by decide) rfl
  have hKc := hK.sub (tys' := [((ck 28), .int), ((ck 30), .int), ((ck 33), .int), ((ck 36), .int), ((ck 39), .int)]) [3, 4, 5, 6, 7] rfl
  refine va_calli (va_runV (As := [.int y1, .int y2]) (rest := []) ⟨hx, hb, hml, hown, htw⟩ (gq_named l dC dI mq g gl rf ck f_landName f_feastName f_personName f_deedName f_noteName y1 y2 H.size hln0 hln4 hfe0 hfe4 hp0 hp6 hde0 hde4 hn10 hn16) (cwV 2 htw (xg_V (ck_33 _ (List.mem_of_getElem? (i := 0) rfl)) (ck_33 _ (List.mem_of_getElem? (i := 1) rfl)) (ck_33 _ (List.mem_of_getElem? (i := 2) rfl)) (ck_1 _ (List.mem_of_getElem? (i := 5) rfl)) (ck_33 _ (List.mem_of_getElem? (i := 3) rfl))) rfl rfl rfl (by exact ⟨rfl, hdc_14.1, hdc_14.2, hdd_7⟩) ⟨Nat.le_of_ble_eq_true rfl, Nat.le_of_ble_eq_true rfl⟩) ⟨fun a U g mk q => by obtain ⟨q0, q1, qP, qK, qD⟩ := q; exact ⟨q0, q1, qP, va_K.moved (u := U) (U := U.calling g mk a) (Vm.Alike.refl U.vm) qK, qD⟩, va_recv hKc hPc (ci := 12) (q0 := 0) rfl rfl, fun U hU hW => ⟨rfl, by rw [hU], by rw [hU]; exact hPc, va_K.moved hW.alike hKc, hDc.weaken (fun _ _ _ _ => trivial)⟩⟩ rfl rfl hl.1 rfl (lv_room (Nat.le_of_ble_eq_true rfl)) dL_law_357 ⟨by first | exact Nat.le_of_ble_eq_true rfl | exact yR (n := 0) (by omega) rfl, by first | exact Nat.le_of_ble_eq_true rfl | exact yR2 (n := 0) (by omega) rfl⟩) hS (fun q _ h => hFc q h) hFc (fun r_6 u_7 t H1 locs ht hvm hw hB hz1 hk1 hS => ?_)
  try dsimp only at hw
  obtain ⟨hP1, hK1, hD1⟩ := hB
  rw [ht] at hP1
  have hK1 := va_K.moved hvm.symm hK1
  have hK1 : va_K (dC, dI) vwCl [] s := hK1
  obtain ⟨hP, hD⟩ := va_join (wr := [(eO11a x pa bk xsp xdy le xst xsc xim xil xik xmo xom wi), (eO0a bk bto bnm bla bsk bru bbo bdi bda bdk bdt bdp bno), (eA0 bto cTo 5 fTo), (eA4 bnm cNm 5 (fun k => some (Nm k))), (eA0 (Nm 0) cNr 12 (fNm 0)), (eA0 (Nm 1) cNr 12 (fNm 1)), (eA0 (Nm 2) cNr 12 (fNm 2)), (eA0 (Nm 3) cNr 12 (fNm 3)), (eA0 (Nm 4) cNr 12 (fNm 4))]) (w1 := [(mq, .inr (12, mF (upd g 2 u_7) gl rf)), (eA0 (rf 28) (ck 28) 8 f_landName), (eA0 (rf 30) (ck 30) 8 f_feastName), (eA0 (rf 33) (ck 33) 12 f_personName), (eA0 (rf 36) (ck 36) 8 f_deedName), (eA0 (rf 39) (ck 39) 12 f_noteName)]) hP hD [9, 10, 11, 12, 13, 14] [0, 1, 2, 3, 4, 5, 6, 7, 8] hCc rfl (by decide +kernel) (by decide +kernel) hk1 hFc hP1 hD1
  have hfr := yF (wc := [(mq, .inr (12, mF g gl rf)), (eA0 (rf 28) (ck 28) 8 f_landName), (eA0 (rf 30) (ck 30) 8 f_feastName), (eA0 (rf 33) (ck 33) 12 f_personName), (eA0 (rf 36) (ck 36) 8 f_deedName), (eA0 (rf 39) (ck 39) 12 f_noteName)]) hBs [9, 10, 11, 12, 13, 14] rfl hz0 hfr hk1
  have hz0 := Nat.le_trans hz0 hz1
  generalize H1 = H at hP hS hfr hz0 ⊢
  obtain ⟨hP, hD⟩ := zre [(eO11a x pa bk xsp xdy le xst xsc xim xil xik xmo xom wi), (eO0a bk bto bnm bla bsk bru bbo bdi bda bdk bdt bdp bno), (eA0 bto cTo 5 fTo), (eA4 bnm cNm 5 (fun k => some (Nm k))), (eA0 (Nm 0) cNr 12 (fNm 0)), (eA0 (Nm 1) cNr 12 (fNm 1)), (eA0 (Nm 2) cNr 12 (fNm 2)), (eA0 (Nm 3) cNr 12 (fNm 3)), (eA0 (Nm 4) cNr 12 (fNm 4)), (mq, .inr (12, mF (upd g 2 u_7) gl rf)), (eA0 (rf 28) (ck 28) 8 f_landName), (eA0 (rf 30) (ck 30) 8 f_feastName), (eA0 (rf 33) (ck 33) 12 f_personName), (eA0 (rf 36) (ck 36) 8 f_deedName), (eA0 (rf 39) (ck 39) 12 f_noteName)] hP hD rfl
  refine W.widen (k := ce + 0) (n := sl + 0) (by omega) (by omega) ?_
  obtain ⟨X_9, hX_9⟩ : ∃ X9 : Int32 × (Int32), X9 = (fq_named f_landName f_feastName f_personName f_deedName f_noteName y1 y2 (g 12) (g 13) (g 14) (g 15) (g 58)) := ⟨_, rfl⟩
  have hq_r_6 : r_6 = X_9.1 := by rw [hX_9]; exact hw.1
  have hq_u_7 : u_7 = X_9.2 := by rw [hX_9]; exact hw.2
  refine lv_pop hx hb dL_law_360 rfl ?_
  refine lv_goto (tgt := 2012) hx hb dL_law_361 (by decide) ?_
  refine W.widen (k := ce + 1) (n := sl + 6) (by omega) (by omega) ?_
  exact kk1 r_3 hq_r_3 X_9 hX_9 r_6 hq_r_6 u_7 hq_u_7 H locs ls (hP.sub (ws' := [(eO11a x pa bk xsp xdy le xst xsc xim xil xik xmo xom wi), (eO0a bk bto bnm bla bsk bru bbo bdi bda bdk bdt bdp bno), (eA0 bto cTo 5 fTo), (eA4 bnm cNm 5 (fun k => some (Nm k))), (eA0 (Nm 0) cNr 12 (fNm 0)), (eA0 (Nm 1) cNr 12 (fNm 1)), (eA0 (Nm 2) cNr 12 (fNm 2)), (eA0 (Nm 3) cNr 12 (fNm 3)), (eA0 (Nm 4) cNr 12 (fNm 4)), (mq, .inr (12, mF (upd g 2 u_7) gl rf)), (eA0 (rf 28) (ck 28) 8 f_landName), (eA0 (rf 30) (ck 30) 8 f_feastName), (eA0 (rf 33) (ck 33) 12 f_personName), (eA0 (rf 36) (ck 36) 8 f_deedName), (eA0 (rf 39) (ck 39) 12 f_noteName)]) [0, 1, 2, 3, 4, 5, 6, 7, 8, 9, 10, 11, 12, 13, 14] rfl) hS (lv_sub hl [0, 1, 2, 3, 4] rfl) hz0 hfr

theorem dL_law_364 : decode cL_law 364 = .ok (.aload_n 1, 1) := zk_43 (by decide +kernel)
theorem dL_law_365 : decode cL_law 365 = .ok (.aload_n 0, 1) := zk_42 (by decide +kernel)
theorem dL_law_366 : decode cL_law 366 = .ok (.iload 4, 2) := zk_21 (by decide +kernel)
theorem dL_law_368 : decode cL_law 368 = .ok (.iconst 1, 1) := zk_4 (by decide +kernel)
theorem dL_law_369 : decode cL_law 369 = .ok (.iadd, 1) := zk_96 (by decide +kernel)
theorem dL_law_370 : decode cL_law 370 = .ok (.iaload, 1) := zk_46 (by decide +kernel)
theorem dL_law_371 : decode cL_law 371 = .ok (.aload_n 0, 1) := zk_42 (by decide +kernel)
theorem dL_law_372 : decode cL_law 372 = .ok (.iload 4, 2) := zk_21 (by decide +kernel)
theorem dL_law_374 : decode cL_law 374 = .ok (.iconst 2, 1) := zk_5 (by decide +kernel)
theorem dL_law_375 : decode cL_law 375 = .ok (.iadd, 1) := zk_96 (by decide +kernel)
theorem dL_law_376 : decode cL_law 376 = .ok (.iaload, 1) := zk_46 (by decide +kernel)
theorem dL_law_377 : decode cL_law 377 = .ok (.aload_n 3, 1) := zk_45 (by decide +kernel)
theorem dL_law_378 : decode cL_law 378 = .ok (.invokestatic 39, 3) := zk_184 (by decide +kernel)
theorem dL_law_381 : decode cL_law 381 = .ok (.istore 5, 2) := zk_54 (by decide +kernel)
theorem dL_law_383 : decode cL_law 383 = .ok (.aload_n 2, 1) := zk_44 (by decide +kernel)
theorem dL_law_384 : decode cL_law 384 = .ok (.aload_n 0, 1) := zk_42 (by decide +kernel)
theorem dL_law_385 : decode cL_law 385 = .ok (.iload 4, 2) := zk_21 (by decide +kernel)
theorem dL_law_387 : decode cL_law 387 = .ok (.iconst 1, 1) := zk_4 (by decide +kernel)
theorem dL_law_388 : decode cL_law 388 = .ok (.iadd, 1) := zk_96 (by decide +kernel)
theorem dL_law_389 : decode cL_law 389 = .ok (.iaload, 1) := zk_46 (by decide +kernel)
theorem dL_law_390 : decode cL_law 390 = .ok (.aload_n 0, 1) := zk_42 (by decide +kernel)
theorem dL_law_391 : decode cL_law 391 = .ok (.iload 4, 2) := zk_21 (by decide +kernel)
theorem dL_law_393 : decode cL_law 393 = .ok (.iconst 2, 1) := zk_5 (by decide +kernel)
theorem dL_law_394 : decode cL_law 394 = .ok (.iadd, 1) := zk_96 (by decide +kernel)
theorem dL_law_395 : decode cL_law 395 = .ok (.iaload, 1) := zk_46 (by decide +kernel)
theorem dL_law_396 : decode cL_law 396 = .ok (.invokevirtual 44, 3) := zk_182 (by decide +kernel)
theorem dL_law_399 : decode cL_law 399 = .ok (.istore 6, 2) := zk_54 (by decide +kernel)
theorem dL_law_401 : decode cL_law 401 = .ok (.goto 1611, 3) := zk_167 (by decide +kernel)
set_option maxHeartbeats 4000000 in
set_option maxRecDepth 100000 in
theorem law_look (l : Launch) (hst : l.stackTraces = false) {p : Program} {e : Env} {s : State} {m : MethodId} {below : List Frame} {meth : Method} {c : Code} {bs L : Nat} {xs : Nat → Int32} (C0 : lw_At p s m meth c bs L xs) (dC : Nat → ClassId) (dI : Nat → Nat → Nat) (A : Nat → Prop) (hAe : ∀ q, A q ↔ s.heap.size ≤ q) (o3 : Nat) (c3 : ClassId) (f3 : Nat → Int64) (x : Nat) (pa : Nat) (bk : Nat) (xsp : Nat) (xdy : Nat) (le : Nat) (xst : Nat) (xsc : Int32) (xim : Nat) (xil : Nat) (xik : Int32) (xmo : Nat) (xom : Nat) (wi : Nat) (bto : Nat) (bnm : Nat) (bla : Nat) (bsk : Nat) (bru : Nat) (bbo : Nat) (bdi : Nat) (bda : Nat) (bdk : Nat) (bdt : Nat) (bdp : Nat) (bno : Nat) (cTo : ClassId) (fTo : Nat → Int32) (cLa : ClassId) (La : Nat → Nat) (FI : Nat → Int32) (GR : Nat → Int32) (FR : Nat → Int32) (mq : Nat) (g : Nat → Int32) (gl : Nat → Int64) (rf : Nat → Nat) (ck : Nat → ClassId) (f_landHas : Nat → Int32) (hln0 : ¬ (g 12) < 0) (hln4 : (g 12) ≤ 4) (sL : Nat → Nat) (hXL : xoL sL A s s.heap) (i y1 y2 : Int32) (hi1 : vp_in (i + 1) L) (hy1 : xs (i + 1).toNatClampNeg = y1) (hi2 : vp_in (i + 2) L) (hy2 : xs (i + 2).toNatClampNeg = y2)  (Bp : Nat → Prop) (H0 : Heap) (locs : List Loc) (ls : Array Slot) (ce sl : Nat) (hce : ce + 1 ≤ 601024) (hsl : sl + 6 ≤ 7293034) (hK : va_K (dC, dI) vwCl [(c3, .long), (cTo, .int), (cLa, .object RX1), ((ck 29), .int)] s) (hP : va_P (dC, dI) vwCl [(eA1 o3 c3 1 f3), (eO11a x pa bk xsp xdy le xst xsc xim xil xik xmo xom wi), (eO0a bk bto bnm bla bsk bru bbo bdi bda bdk bdt bdp bno), (eA0 bto cTo 5 fTo), (eA4 bla cLa 4 (fun k => some (La k))), (eO1a (La 0) (FI 0) (GR 0) (FR 0)), (eO1a (La 1) (FI 1) (GR 1) (FR 1)), (eO1a (La 2) (FI 2) (GR 2) (FR 2)), (eO1a (La 3) (FI 3) (GR 3) (FR 3)), (mq, .inr (12, mF g gl rf)), (eA0 (rf 29) (ck 29) 24 f_landHas)] H0) (hD : va_D A [(eA1 o3 c3 1 f3), (eO11a x pa bk xsp xdy le xst xsc xim xil xik xmo xom wi), (eO0a bk bto bnm bla bsk bru bbo bdi bda bdk bdt bdp bno), (eA0 bto cTo 5 fTo), (eA4 bla cLa 4 (fun k => some (La k))), (eO1a (La 0) (FI 0) (GR 0) (FR 0)), (eO1a (La 1) (FI 1) (GR 1) (FR 1)), (eO1a (La 2) (FI 2) (GR 2) (FR 2)), (eO1a (La 3) (FI 3) (GR 3) (FR 3)), (mq, .inr (12, mF g gl rf)), (eA0 (rf 29) (ck 29) 24 f_landHas)]) (hBs : yB Bp [(eA1 o3 c3 1 f3), (eO11a x pa bk xsp xdy le xst xsc xim xil xik xmo xom wi), (eO0a bk bto bnm bla bsk bru bbo bdi bda bdk bdt bdp bno), (eA0 bto cTo 5 fTo), (eA4 bla cLa 4 (fun k => some (La k))), (eO1a (La 0) (FI 0) (GR 0) (FR 0)), (eO1a (La 1) (FI 1) (GR 1) (FR 1)), (eO1a (La 2) (FI 2) (GR 2) (FR 2)), (eO1a (La 3) (FI 3) (GR 3) (FR 3)), (mq, .inr (12, mF g gl rf)), (eA0 (rf 29) (ck 29) 24 f_landHas)]) (hS : va_S A s.heap H0 locs) (hl : lv_has ls 7 [(4, .int i), (3, .ref o3), (2, .ref mq), (1, .ref x), (0, .ref bs)]) (kk1 : ∀ (X_6 : Int32 × (Nat → Int64)), X_6 = (fL_look f3 fTo FI GR FR y1 y2) → ∀ (r_3 : Int32), r_3 = X_6.1 → ∀ (u_4 : (Nat → Int64)), u_4 = X_6.2 → ∀ (X_12 : Int32 × (Int32)), X_12 = (fq_look f_landHas y1 y2 (g 12)) → ∀ (r_9 : Int32), r_9 = X_12.1 → ∀ (u_10 : (Int32)), u_10 = X_12.2 → ∀ (H : Heap) (locs : List Loc) (ls : Array Slot), va_P (dC, dI) vwCl [(eA1 o3 c3 1 u_4), (eO11a x pa bk xsp xdy le xst xsc xim xil xik xmo xom wi), (eO0a bk bto bnm bla bsk bru bbo bdi bda bdk bdt bdp bno), (eA0 bto cTo 5 fTo), (eA4 bla cLa 4 (fun k => some (La k))), (eO1a (La 0) (FI 0) (GR 0) (FR 0)), (eO1a (La 1) (FI 1) (GR 1) (FR 1)), (eO1a (La 2) (FI 2) (GR 2) (FR 2)), (eO1a (La 3) (FI 3) (GR 3) (FR 3)), (mq, .inr (12, mF (upd g 2 u_10) gl rf)), (eA0 (rf 29) (ck 29) 24 f_landHas)] H → va_S A s.heap H locs → lv_has ls 7 [(4, .int i), (3, .ref o3), (2, .ref mq), (1, .ref x), (0, .ref bs)] → H0.size ≤ H.size → (∀ q : Nat, q < H0.size → ¬ Bp q → H[q]? = H0[q]?) → W p l e room_1 s m #[Value.ref bs] below meth c H locs (ce + 1) (sl + 6) (lw_Z below #[Value.ref bs] s) (F0 m 2012 ls [])) : W p l e room_1 s m #[Value.ref bs] below meth c H0 locs ce sl (lw_Z below #[Value.ref bs] s) (F0 m 364 ls []) := by
  obtain ⟨hx, hb, hr, hml, hown, hts, hX, hbl, hlocks, hgv⟩ := id C0
  have htw : ∀ w ∈ wsL_law, w.before _ s = true := fun w h => hts w (wsL_law_in w h)
  have hown : s.vm.findClass RL = some m.cls := hown
  have hA : ∀ q : Nat, s.heap.size ≤ q → A q := fun q h => (hAe q).mpr h
  have hbA : ¬ A bs := fun h => absurd ((hAe bs).mp h) (Nat.not_le.mpr hbl)
  obtain ⟨H, rH⟩ : ∃ z : Heap, z = H0 := ⟨_, rfl⟩
  have hfr : ∀ q : Nat, q < H0.size → ¬ Bp q → H[q]? = H0[q]? := fun q _ _ => by rw [rH]
  have hz0 : H0.size ≤ H.size := by rw [rH]; exact Nat.le_refl _
  rw [← rH] at hP hS ⊢
  refine lv_aload_n hx hb dL_law_364 rfl (lv_at hl 3 rfl) ?_
  refine lv_aload_n hx hb dL_law_365 rfl (lv_at hl 4 rfl) ?_
  refine lv_iload hx hb dL_law_366 (lv_at hl 0 rfl) ?_
  refine lv_iconst (v := 1) hx hb dL_law_368 (by decide) ?_
  refine lv_iadd hx hb dL_law_369 ?_
  refine va_sld hx hb hX hbl hbA hS hi1 dL_law_370 ?_
  rw [hy1]
  refine lv_aload_n hx hb dL_law_371 rfl (lv_at hl 4 rfl) ?_
  refine lv_iload hx hb dL_law_372 (lv_at hl 0 rfl) ?_
  refine lv_iconst (v := 2) hx hb dL_law_374 (by decide) ?_
  refine lv_iadd hx hb dL_law_375 ?_
  refine va_sld hx hb hX hbl hbA hS hi2 dL_law_376 ?_
  rw [hy2]
  refine lv_aload_n hx hb dL_law_377 rfl (lv_at hl 1 rfl) ?_
  obtain ⟨hPc, hDc, hFc, hCc⟩ := zsub3 (ws' := [(eA1 o3 c3 1 f3), (eO11a x pa bk xsp xdy le xst xsc xim xil xik xmo xom wi), (eO0a bk bto bnm bla bsk bru bbo bdi bda bdk bdt bdp bno), (eA0 bto cTo 5 fTo), (eA4 bla cLa 4 (fun k => some (La k))), (eO1a (La 0) (FI 0) (GR 0) (FR 0)), (eO1a (La 1) (FI 1) (GR 1) (FR 1)), (eO1a (La 2) (FI 2) (GR 2) (FR 2)), (eO1a (La 3) (FI 3) (GR 3) (FR 3))]) hP hD hS hA [0, 1, 2, 3, 4, 5, 6, 7, 8] (by decide +kernel) rfl
  have hKc := hK.sub (tys' := [(c3, .long), (cTo, .int), (cLa, .object RX1)]) [0, 1, 2] rfl
  refine va_calli (vx_runSW (As := [.ref x, .int y1, .int y2, .ref o3]) (rest := []) ⟨hx, hb, hml, hown, htw⟩ (gL_look l hst dC dI o3 c3 f3 x pa bk xsp xdy le xst xsc xim xil xik xmo xom wi bto bnm bla bsk bru bbo bdi bda bdk bdt bdp bno cTo fTo cLa La FI GR FR y1 y2 sL H.size) (vx_cwSW 4 htw (xg_S (ck_33 _ (List.mem_of_getElem? (i := 4) rfl)) (ck_33 _ (List.mem_of_getElem? (i := 5) rfl)) (ck_33 _ (List.mem_of_getElem? (i := 6) rfl)) (ck_33 _ (List.mem_of_getElem? (i := 7) rfl))) rfl rfl rfl (by decide +kernel) ⟨Nat.le_of_ble_eq_true rfl, Nat.le_of_ble_eq_true rfl⟩) ⟨fun a U g mk q => by obtain ⟨q0, q1, qP, qK, qD, qx0⟩ := q; exact ⟨q0, q1, qP, va_K.moved (u := U) (U := U.calling g mk a) (Vm.Alike.refl U.vm) qK, qD, xoL.calling qx0⟩, fun U hU hW => ⟨rfl, by rw [hU], by rw [hU]; exact hPc, va_K.moved hW.alike hKc, hDc.weaken (fun _ _ _ _ => trivial), by rw [hU]; exact xoL.warm hW ((xoL.kept hXL hS.2.1).narrow hFc)⟩⟩ rfl rfl hl.1 rfl (lv_room (Nat.le_of_ble_eq_true rfl)) dL_law_378 ⟨by first | exact Nat.le_of_ble_eq_true rfl | exact yR (n := 0) (by omega) rfl, by first | exact Nat.le_of_ble_eq_true rfl | exact yR2 (n := 0) (by omega) rfl⟩) hS (fun q _ h => hFc q h) hFc (fun r_3 u_4 t H1 locs ht hvm hw hB hz1 hk1 hS => ?_)
  try dsimp only at hw
  obtain ⟨hP1, hK1, hD1⟩ := hB
  rw [ht] at hP1
  have hK1 := va_K.moved hvm.symm hK1
  have hK1 : va_K (dC, dI) vwCl [] s := hK1
  obtain ⟨hP, hD⟩ := va_join (wr := [(mq, .inr (12, mF g gl rf)), (eA0 (rf 29) (ck 29) 24 f_landHas)]) (w1 := [(eA1 o3 c3 1 u_4), (eO11a x pa bk xsp xdy le xst xsc xim xil xik xmo xom wi), (eO0a bk bto bnm bla bsk bru bbo bdi bda bdk bdt bdp bno), (eA0 bto cTo 5 fTo), (eA4 bla cLa 4 (fun k => some (La k))), (eO1a (La 0) (FI 0) (GR 0) (FR 0)), (eO1a (La 1) (FI 1) (GR 1) (FR 1)), (eO1a (La 2) (FI 2) (GR 2) (FR 2)), (eO1a (La 3) (FI 3) (GR 3) (FR 3))]) hP hD [0, 1, 2, 3, 4, 5, 6, 7, 8] [9, 10] hCc rfl (by decide +kernel) (by decide +kernel) hk1 hFc hP1 hD1
  have hfr := yF (wc := [(eA1 o3 c3 1 f3), (eO11a x pa bk xsp xdy le xst xsc xim xil xik xmo xom wi), (eO0a bk bto bnm bla bsk bru bbo bdi bda bdk bdt bdp bno), (eA0 bto cTo 5 fTo), (eA4 bla cLa 4 (fun k => some (La k))), (eO1a (La 0) (FI 0) (GR 0) (FR 0)), (eO1a (La 1) (FI 1) (GR 1) (FR 1)), (eO1a (La 2) (FI 2) (GR 2) (FR 2)), (eO1a (La 3) (FI 3) (GR 3) (FR 3))]) hBs [0, 1, 2, 3, 4, 5, 6, 7, 8] rfl hz0 hfr hk1
  have hz0 := Nat.le_trans hz0 hz1
  generalize H1 = H at hP hS hfr hz0 ⊢
  obtain ⟨hP, hD⟩ := zre [(mq, .inr (12, mF g gl rf)), (eA0 (rf 29) (ck 29) 24 f_landHas), (eA1 o3 c3 1 u_4), (eO11a x pa bk xsp xdy le xst xsc xim xil xik xmo xom wi), (eO0a bk bto bnm bla bsk bru bbo bdi bda bdk bdt bdp bno), (eA0 bto cTo 5 fTo), (eA4 bla cLa 4 (fun k => some (La k))), (eO1a (La 0) (FI 0) (GR 0) (FR 0)), (eO1a (La 1) (FI 1) (GR 1) (FR 1)), (eO1a (La 2) (FI 2) (GR 2) (FR 2)), (eO1a (La 3) (FI 3) (GR 3) (FR 3))] hP hD rfl
  refine W.widen (k := ce + 1) (n := sl + 6) (by omega) (by omega) ?_
  obtain ⟨X_6, hX_6⟩ : ∃ X9 : Int32 × (Nat → Int64), X9 = (fL_look f3 fTo FI GR FR y1 y2) := ⟨_, rfl⟩
  have hq_r_3 : r_3 = X_6.1 := by rw [hX_6]; exact hw.1
  have hq_u_4 : u_4 = X_6.2 := by rw [hX_6]; exact hw.2
  refine lv_istore (lv' := [(5, .int r_3), (4, .int i), (3, .ref o3), (2, .ref mq), (1, .ref x), (0, .ref bs)]) hx hb dL_law_381 hl (by decide) rfl (fun ls hl => ?_)
  refine lv_aload_n hx hb dL_law_383 rfl (lv_at hl 3 rfl) ?_
  refine lv_aload_n hx hb dL_law_384 rfl (lv_at hl 5 rfl) ?_
  refine lv_iload hx hb dL_law_385 (lv_at hl 1 rfl) ?_
  refine lv_iconst (v := 1) hx hb dL_law_387 (by decide) ?_
  refine lv_iadd hx hb dL_law_388 ?_
  refine va_sld hx hb hX hbl hbA hS hi1 dL_law_389 ?_
  rw [hy1]
  refine lv_aload_n hx hb dL_law_390 rfl (lv_at hl 5 rfl) ?_
  refine lv_iload hx hb dL_law_391 (lv_at hl 1 rfl) ?_
  refine lv_iconst (v := 2) hx hb dL_law_393 (by decide) ?_
  refine lv_iadd hx hb dL_law_394 ?_
  refine va_sld hx hb hX hbl hbA hS hi2 dL_law_395 ?_
  rw [hy2]
  obtain ⟨hPc, hDc, hFc, hCc⟩ := zsub3 (ws' := [(mq, .inr (12, mF g gl rf)), (eA0 (rf 29) (ck 29) 24 f_landHas)]) hP hD hS hA [0, 1] (by decide) rfl
  have hKc := hK.sub (tys' := [((ck 29), .int)]) [3] rfl
  refine va_calli (va_runV (As := [.int y1, .int y2]) (rest := []) ⟨hx, hb, hml, hown, htw⟩ (gq_look l dC dI mq g gl rf ck f_landHas y1 y2 H.size hln0 hln4) (cwV 2 htw (xg_V (ck_33 _ (List.mem_of_getElem? (i := 22) rfl)) (ck_33 _ (List.mem_of_getElem? (i := 23) rfl)) (ck_34 _ (List.mem_of_getElem? (i := 0) rfl)) (ck_1 _ (List.mem_of_getElem? (i := 5) rfl)) (ck_34 _ (List.mem_of_getElem? (i := 1) rfl))) rfl rfl rfl (by exact ⟨rfl, hdc_14.1, hdc_14.2, hdd_7⟩) ⟨Nat.le_of_ble_eq_true rfl, Nat.le_of_ble_eq_true rfl⟩) ⟨fun a U g mk q => by obtain ⟨q0, q1, qP, qK, qD⟩ := q; exact ⟨q0, q1, qP, va_K.moved (u := U) (U := U.calling g mk a) (Vm.Alike.refl U.vm) qK, qD⟩, va_recv hKc hPc (ci := 12) (q0 := 0) rfl rfl, fun U hU hW => ⟨rfl, by rw [hU], by rw [hU]; exact hPc, va_K.moved hW.alike hKc, hDc.weaken (fun _ _ _ _ => trivial)⟩⟩ rfl rfl hl.1 rfl (lv_room (Nat.le_of_ble_eq_true rfl)) dL_law_396 ⟨by first | exact Nat.le_of_ble_eq_true rfl | exact yR (n := 0) (by omega) rfl, by first | exact Nat.le_of_ble_eq_true rfl | exact yR2 (n := 0) (by omega) rfl⟩) hS (fun q _ h => hFc q h) hFc (fun r_9 u_10 t H1 locs ht hvm hw hB hz1 hk1 hS => ?_)
  try dsimp only at hw
  obtain ⟨hP1, hK1, hD1⟩ := hB
  rw [ht] at hP1
  have hK1 := va_K.moved hvm.symm hK1
  have hK1 : va_K (dC, dI) vwCl [] s := hK1
  obtain ⟨hP, hD⟩ := va_join (wr := [(eA1 o3 c3 1 u_4), (eO11a x pa bk xsp xdy le xst xsc xim xil xik xmo xom wi), (eO0a bk bto bnm bla bsk bru bbo bdi bda bdk bdt bdp bno), (eA0 bto cTo 5 fTo), (eA4 bla cLa 4 (fun k => some (La k))), (eO1a (La 0) (FI 0) (GR 0) (FR 0)), (eO1a (La 1) (FI 1) (GR 1) (FR 1)), (eO1a (La 2) (FI 2) (GR 2) (FR 2)), (eO1a (La 3) (FI 3) (GR 3) (FR 3))]) (w1 := [(mq, .inr (12, mF (upd g 2 u_10) gl rf)), (eA0 (rf 29) (ck 29) 24 f_landHas)]) hP hD [0, 1] [2, 3, 4, 5, 6, 7, 8, 9, 10] hCc rfl (by decide +kernel) (by decide +kernel) hk1 hFc hP1 hD1
  have hfr := yF (wc := [(mq, .inr (12, mF g gl rf)), (eA0 (rf 29) (ck 29) 24 f_landHas)]) hBs [9, 10] rfl hz0 hfr hk1
  have hz0 := Nat.le_trans hz0 hz1
  generalize H1 = H at hP hS hfr hz0 ⊢
  obtain ⟨hP, hD⟩ := zre [(eA1 o3 c3 1 u_4), (eO11a x pa bk xsp xdy le xst xsc xim xil xik xmo xom wi), (eO0a bk bto bnm bla bsk bru bbo bdi bda bdk bdt bdp bno), (eA0 bto cTo 5 fTo), (eA4 bla cLa 4 (fun k => some (La k))), (eO1a (La 0) (FI 0) (GR 0) (FR 0)), (eO1a (La 1) (FI 1) (GR 1) (FR 1)), (eO1a (La 2) (FI 2) (GR 2) (FR 2)), (eO1a (La 3) (FI 3) (GR 3) (FR 3)), (mq, .inr (12, mF (upd g 2 u_10) gl rf)), (eA0 (rf 29) (ck 29) 24 f_landHas)] hP hD rfl
  refine W.widen (k := ce + 1) (n := sl + 6) (by omega) (by omega) ?_
  obtain ⟨X_12, hX_12⟩ : ∃ X9 : Int32 × (Int32), X9 = (fq_look f_landHas y1 y2 (g 12)) := ⟨_, rfl⟩
  have hq_r_9 : r_9 = X_12.1 := by rw [hX_12]; exact hw.1
  have hq_u_10 : u_10 = X_12.2 := by rw [hX_12]; exact hw.2
  refine lv_istore (lv' := [(6, .int r_9), (5, .int r_3), (4, .int i), (3, .ref o3), (2, .ref mq), (1, .ref x), (0, .ref bs)]) hx hb dL_law_399 hl (by decide) rfl (fun ls hl => ?_)
  refine lv_goto (tgt := 2012) hx hb dL_law_401 (by decide) ?_
  refine W.widen (k := ce + 1) (n := sl + 6) (by omega) (by omega) ?_
  exact kk1 X_6 hX_6 r_3 hq_r_3 u_4 hq_u_4 X_12 hX_12 r_9 hq_r_9 u_10 hq_u_10 H locs ls (hP.sub (ws' := [(eA1 o3 c3 1 u_4), (eO11a x pa bk xsp xdy le xst xsc xim xil xik xmo xom wi), (eO0a bk bto bnm bla bsk bru bbo bdi bda bdk bdt bdp bno), (eA0 bto cTo 5 fTo), (eA4 bla cLa 4 (fun k => some (La k))), (eO1a (La 0) (FI 0) (GR 0) (FR 0)), (eO1a (La 1) (FI 1) (GR 1) (FR 1)), (eO1a (La 2) (FI 2) (GR 2) (FR 2)), (eO1a (La 3) (FI 3) (GR 3) (FR 3)), (mq, .inr (12, mF (upd g 2 u_10) gl rf)), (eA0 (rf 29) (ck 29) 24 f_landHas)]) [0, 1, 2, 3, 4, 5, 6, 7, 8, 9, 10] rfl) hS (lv_sub hl [2, 3, 4, 5, 6] rfl) hz0 hfr

theorem dL_law_404 : decode cL_law 404 = .ok (.aload_n 1, 1) := zk_43 (by decide +kernel)
theorem dL_law_405 : decode cL_law 405 = .ok (.aload_n 0, 1) := zk_42 (by decide +kernel)
theorem dL_law_406 : decode cL_law 406 = .ok (.iload 4, 2) := zk_21 (by decide +kernel)
theorem dL_law_408 : decode cL_law 408 = .ok (.iconst 1, 1) := zk_4 (by decide +kernel)
theorem dL_law_409 : decode cL_law 409 = .ok (.iadd, 1) := zk_96 (by decide +kernel)
theorem dL_law_410 : decode cL_law 410 = .ok (.iaload, 1) := zk_46 (by decide +kernel)
theorem dL_law_411 : decode cL_law 411 = .ok (.aload_n 0, 1) := zk_42 (by decide +kernel)
theorem dL_law_412 : decode cL_law 412 = .ok (.iload 4, 2) := zk_21 (by decide +kernel)
theorem dL_law_414 : decode cL_law 414 = .ok (.iconst 2, 1) := zk_5 (by decide +kernel)
theorem dL_law_415 : decode cL_law 415 = .ok (.iadd, 1) := zk_96 (by decide +kernel)
theorem dL_law_416 : decode cL_law 416 = .ok (.iaload, 1) := zk_46 (by decide +kernel)
theorem dL_law_417 : decode cL_law 417 = .ok (.invokevirtual 45, 3) := zk_182 (by decide +kernel)
theorem dL_law_420 : decode cL_law 420 = .ok (.pop2, 1) := zk_88 (by decide +kernel)
theorem dL_law_421 : decode cL_law 421 = .ok (.aload_n 2, 1) := zk_44 (by decide +kernel)
theorem dL_law_422 : decode cL_law 422 = .ok (.aload_n 0, 1) := zk_42 (by decide +kernel)
theorem dL_law_423 : decode cL_law 423 = .ok (.iload 4, 2) := zk_21 (by decide +kernel)
theorem dL_law_425 : decode cL_law 425 = .ok (.iconst 1, 1) := zk_4 (by decide +kernel)
theorem dL_law_426 : decode cL_law 426 = .ok (.iadd, 1) := zk_96 (by decide +kernel)
theorem dL_law_427 : decode cL_law 427 = .ok (.iaload, 1) := zk_46 (by decide +kernel)
theorem dL_law_428 : decode cL_law 428 = .ok (.aload_n 0, 1) := zk_42 (by decide +kernel)
theorem dL_law_429 : decode cL_law 429 = .ok (.iload 4, 2) := zk_21 (by decide +kernel)
theorem dL_law_431 : decode cL_law 431 = .ok (.iconst 2, 1) := zk_5 (by decide +kernel)
theorem dL_law_432 : decode cL_law 432 = .ok (.iadd, 1) := zk_96 (by decide +kernel)
theorem dL_law_433 : decode cL_law 433 = .ok (.iaload, 1) := zk_46 (by decide +kernel)
theorem dL_law_434 : decode cL_law 434 = .ok (.invokevirtual 49, 3) := zk_182 (by decide +kernel)
theorem dL_law_437 : decode cL_law 437 = .ok (.pop2, 1) := zk_88 (by decide +kernel)
theorem dL_law_438 : decode cL_law 438 = .ok (.goto 1574, 3) := zk_167 (by decide +kernel)
set_option maxHeartbeats 4000000 in
set_option maxRecDepth 100000 in
theorem law_length (l : Launch) (hst : l.stackTraces = false) {p : Program} {e : Env} {s : State} {m : MethodId} {below : List Frame} {meth : Method} {c : Code} {bs L : Nat} {xs : Nat → Int32} (C0 : lw_At p s m meth c bs L xs) (dC : Nat → ClassId) (dI : Nat → Nat → Nat) (A : Nat → Prop) (hAe : ∀ q, A q ↔ s.heap.size ≤ q) (x : Nat) (pa : Nat) (bk : Nat) (xsp : Nat) (xdy : Nat) (le : Nat) (xst : Nat) (xsc : Int32) (xim : Nat) (xil : Nat) (xik : Int32) (xmo : Nat) (xom : Nat) (wi : Nat) (bto : Nat) (bnm : Nat) (bla : Nat) (bsk : Nat) (bru : Nat) (bbo : Nat) (bdi : Nat) (bda : Nat) (bdk : Nat) (bdt : Nat) (bdp : Nat) (bno : Nat) (cTo : ClassId) (fTo : Nat → Int32) (cLa : ClassId) (La : Nat → Nat) (FI : Nat → Int32) (GR : Nat → Int32) (FR : Nat → Int32) (mq : Nat) (g : Nat → Int32) (gl : Nat → Int64) (rf : Nat → Nat) (ck : Nat → ClassId) (f_landHas : Nat → Int32) (o3 : Nat) (hln0 : ¬ (g 12) < 0) (hln4 : (g 12) ≤ 4) (sL : Nat → Nat)  (i y1 y2 : Int32) (hi1 : vp_in (i + 1) L) (hy1 : xs (i + 1).toNatClampNeg = y1) (hi2 : vp_in (i + 2) L) (hy2 : xs (i + 2).toNatClampNeg = y2)  (Bp : Nat → Prop) (H0 : Heap) (locs : List Loc) (ls : Array Slot) (ce sl : Nat) (hce : ce + 1 ≤ 601024) (hsl : sl + 6 ≤ 7293034) (hK : va_K (dC, dI) vwCl [(cTo, .int), (cLa, .object RX1), ((ck 29), .int)] s) (hP : va_P (dC, dI) vwCl [(eO11a x pa bk xsp xdy le xst xsc xim xil xik xmo xom wi), (eO0a bk bto bnm bla bsk bru bbo bdi bda bdk bdt bdp bno), (eA0 bto cTo 5 fTo), (eA4 bla cLa 4 (fun k => some (La k))), (eO1a (La 0) (FI 0) (GR 0) (FR 0)), (eO1a (La 1) (FI 1) (GR 1) (FR 1)), (eO1a (La 2) (FI 2) (GR 2) (FR 2)), (eO1a (La 3) (FI 3) (GR 3) (FR 3)), (mq, .inr (12, mF g gl rf)), (eA0 (rf 29) (ck 29) 24 f_landHas)] H0) (hD : va_D A [(eO11a x pa bk xsp xdy le xst xsc xim xil xik xmo xom wi), (eO0a bk bto bnm bla bsk bru bbo bdi bda bdk bdt bdp bno), (eA0 bto cTo 5 fTo), (eA4 bla cLa 4 (fun k => some (La k))), (eO1a (La 0) (FI 0) (GR 0) (FR 0)), (eO1a (La 1) (FI 1) (GR 1) (FR 1)), (eO1a (La 2) (FI 2) (GR 2) (FR 2)), (eO1a (La 3) (FI 3) (GR 3) (FR 3)), (mq, .inr (12, mF g gl rf)), (eA0 (rf 29) (ck 29) 24 f_landHas)]) (hBs : yB Bp [(eO11a x pa bk xsp xdy le xst xsc xim xil xik xmo xom wi), (eO0a bk bto bnm bla bsk bru bbo bdi bda bdk bdt bdp bno), (eA0 bto cTo 5 fTo), (eA4 bla cLa 4 (fun k => some (La k))), (eO1a (La 0) (FI 0) (GR 0) (FR 0)), (eO1a (La 1) (FI 1) (GR 1) (FR 1)), (eO1a (La 2) (FI 2) (GR 2) (FR 2)), (eO1a (La 3) (FI 3) (GR 3) (FR 3)), (mq, .inr (12, mF g gl rf)), (eA0 (rf 29) (ck 29) 24 f_landHas)]) (hS : va_S A s.heap H0 locs) (hl : lv_has ls 7 [(4, .int i), (3, .ref o3), (2, .ref mq), (1, .ref x), (0, .ref bs)]) (kk1 : ∀ (r_3 : Int64), r_3 = (fx_length fTo FI GR FR y1 y2) → ∀ (X_9 : Int64 × (Int32)), X_9 = (fq_length f_landHas y1 y2 (g 12)) → ∀ (r_6 : Int64), r_6 = X_9.1 → ∀ (u_7 : (Int32)), u_7 = X_9.2 → ∀ (H : Heap) (locs : List Loc) (ls : Array Slot), va_P (dC, dI) vwCl [(eO11a x pa bk xsp xdy le xst xsc xim xil xik xmo xom wi), (eO0a bk bto bnm bla bsk bru bbo bdi bda bdk bdt bdp bno), (eA0 bto cTo 5 fTo), (eA4 bla cLa 4 (fun k => some (La k))), (eO1a (La 0) (FI 0) (GR 0) (FR 0)), (eO1a (La 1) (FI 1) (GR 1) (FR 1)), (eO1a (La 2) (FI 2) (GR 2) (FR 2)), (eO1a (La 3) (FI 3) (GR 3) (FR 3)), (mq, .inr (12, mF (upd g 2 u_7) gl rf)), (eA0 (rf 29) (ck 29) 24 f_landHas)] H → va_S A s.heap H locs → lv_has ls 7 [(4, .int i), (3, .ref o3), (2, .ref mq), (1, .ref x), (0, .ref bs)] → H0.size ≤ H.size → (∀ q : Nat, q < H0.size → ¬ Bp q → H[q]? = H0[q]?) → W p l e room_1 s m #[Value.ref bs] below meth c H locs (ce + 1) (sl + 6) (lw_Z below #[Value.ref bs] s) (F0 m 2012 ls [])) : W p l e room_1 s m #[Value.ref bs] below meth c H0 locs ce sl (lw_Z below #[Value.ref bs] s) (F0 m 404 ls []) := by
  obtain ⟨hx, hb, hr, hml, hown, hts, hX, hbl, hlocks, hgv⟩ := id C0
  have htw : ∀ w ∈ wsL_law, w.before _ s = true := fun w h => hts w (wsL_law_in w h)
  have hown : s.vm.findClass RL = some m.cls := hown
  have hA : ∀ q : Nat, s.heap.size ≤ q → A q := fun q h => (hAe q).mpr h
  have hbA : ¬ A bs := fun h => absurd ((hAe bs).mp h) (Nat.not_le.mpr hbl)
  obtain ⟨H, rH⟩ : ∃ z : Heap, z = H0 := ⟨_, rfl⟩
  have hfr : ∀ q : Nat, q < H0.size → ¬ Bp q → H[q]? = H0[q]? := fun q _ _ => by rw [rH]
  have hz0 : H0.size ≤ H.size := by rw [rH]; exact Nat.le_refl _
  rw [← rH] at hP hS ⊢
  refine lv_aload_n hx hb dL_law_404 rfl (lv_at hl 3 rfl) ?_
  refine lv_aload_n hx hb dL_law_405 rfl (lv_at hl 4 rfl) ?_
  refine lv_iload hx hb dL_law_406 (lv_at hl 0 rfl) ?_
  refine lv_iconst (v := 1) hx hb dL_law_408 (by decide) ?_
  refine lv_iadd hx hb dL_law_409 ?_
  refine va_sld hx hb hX hbl hbA hS hi1 dL_law_410 ?_
  rw [hy1]
  refine lv_aload_n hx hb dL_law_411 rfl (lv_at hl 4 rfl) ?_
  refine lv_iload hx hb dL_law_412 (lv_at hl 0 rfl) ?_
  refine lv_iconst (v := 2) hx hb dL_law_414 (by decide) ?_
  refine lv_iadd hx hb dL_law_415 ?_
  refine va_sld hx hb hX hbl hbA hS hi2 dL_law_416 ?_
  rw [hy2]
  have hPc := hP.sub (ws' := [(eO11a x pa bk xsp xdy le xst xsc xim xil xik xmo xom wi), (eO0a bk bto bnm bla bsk bru bbo bdi bda bdk bdt bdp bno), (eA0 bto cTo 5 fTo), (eA4 bla cLa 4 (fun k => some (La k))), (eO1a (La 0) (FI 0) (GR 0) (FR 0)), (eO1a (La 1) (FI 1) (GR 1) (FR 1)), (eO1a (La 2) (FI 2) (GR 2) (FR 2)), (eO1a (La 3) (FI 3) (GR 3) (FR 3))]) [0, 1, 2, 3, 4, 5, 6, 7] rfl
  have hKc := hK.sub (tys' := [(cTo, .int), (cLa, .object RX1)]) [0, 1] rfl
  refine vp_callSl (W.runV (As := [.int y1, .int y2]) (rest := []) ⟨hx, hb, hml, hown, htw⟩ (gx_length l dC dI x pa bk xsp xdy le xst xsc xim xil xik xmo xom wi bto bnm bla bsk bru bbo bdi bda bdk bdt bdp bno cTo fTo cLa La FI GR FR y1 y2) (cwV 2 htw (xg_V (ck_34 _ (List.mem_of_getElem? (i := 10) rfl)) (ck_34 _ (List.mem_of_getElem? (i := 11) rfl)) (ck_34 _ (List.mem_of_getElem? (i := 12) rfl)) (ck_1 _ (List.mem_of_getElem? (i := 2) rfl)) (ck_34 _ (List.mem_of_getElem? (i := 13) rfl))) rfl rfl rfl (by exact ⟨rfl, hdc_8.1, hdc_8.2, hdd_25⟩) ⟨Nat.le_of_ble_eq_true rfl, Nat.le_of_ble_eq_true rfl⟩) ⟨fun a U g mk q => by obtain ⟨q0, qP, qK⟩ := q; exact ⟨q0, qP, va_K.moved (u := U) (U := U.calling g mk a) (Vm.Alike.refl U.vm) qK⟩, va_recv hKc hPc (ci := 11) (q0 := 0) rfl rfl, fun U hU hW => ⟨rfl, by rw [hU]; exact hPc, va_K.moved hW.alike hKc⟩⟩ rfl rfl hl.1 rfl (lv_room (Nat.le_of_ble_eq_true rfl)) dL_law_417 ⟨by first | exact Nat.le_of_ble_eq_true rfl | exact yR (n := 0) (by omega) rfl, by first | exact Nat.le_of_ble_eq_true rfl | exact yR2 (n := 0) (by omega) rfl⟩) (fun r_3 hw => ?_)
  try dsimp only at hw
  have hq_r_3 : r_3 = (fx_length fTo FI GR FR y1 y2) := hw
  refine lv_pop2_2 hx hb dL_law_420 rfl ?_
  refine lv_aload_n hx hb dL_law_421 rfl (lv_at hl 2 rfl) ?_
  refine lv_aload_n hx hb dL_law_422 rfl (lv_at hl 4 rfl) ?_
  refine lv_iload hx hb dL_law_423 (lv_at hl 0 rfl) ?_
  refine lv_iconst (v := 1) hx hb dL_law_425 (by decide) ?_
  refine lv_iadd hx hb dL_law_426 ?_
  refine va_sld hx hb hX hbl hbA hS hi1 dL_law_427 ?_
  rw [hy1]
  refine lv_aload_n hx hb dL_law_428 rfl (lv_at hl 4 rfl) ?_
  refine lv_iload hx hb dL_law_429 (lv_at hl 0 rfl) ?_
  refine lv_iconst (v := 2) hx hb dL_law_431 (by decide) ?_
  refine lv_iadd hx hb dL_law_432 ?_
  refine va_sld hx hb hX hbl hbA hS hi2 dL_law_433 ?_
  rw [hy2]
  obtain ⟨hPc, hDc, hFc, hCc⟩ := zsub3 (ws' := [(mq, .inr (12, mF g gl rf)), (eA0 (rf 29) (ck 29) 24 f_landHas)]) hP hD hS hA [8, 9] (by decide) rfl
  have hKc := hK.sub (tys' := [((ck 29), .int)]) [2] rfl
  refine va_calll (va_runV (As := [.int y1, .int y2]) (rest := []) ⟨hx, hb, hml, hown, htw⟩ (gq_length l dC dI mq g gl rf ck f_landHas y1 y2 H.size hln0 hln4) (cwV 2 htw (xg_V (ck_34 _ (List.mem_of_getElem? (i := 22) rfl)) (ck_34 _ (List.mem_of_getElem? (i := 23) rfl)) (ck_35 _ (List.mem_of_getElem? (i := 0) rfl)) (ck_1 _ (List.mem_of_getElem? (i := 5) rfl)) (ck_35 _ (List.mem_of_getElem? (i := 1) rfl))) rfl rfl rfl (by exact ⟨rfl, hdc_14.1, hdc_14.2, hdd_25⟩) ⟨Nat.le_of_ble_eq_true rfl, Nat.le_of_ble_eq_true rfl⟩) ⟨fun a U g mk q => by obtain ⟨q0, q1, qP, qK, qD⟩ := q; exact ⟨q0, q1, qP, va_K.moved (u := U) (U := U.calling g mk a) (Vm.Alike.refl U.vm) qK, qD⟩, va_recv hKc hPc (ci := 12) (q0 := 0) rfl rfl, fun U hU hW => ⟨rfl, by rw [hU], by rw [hU]; exact hPc, va_K.moved hW.alike hKc, hDc.weaken (fun _ _ _ _ => trivial)⟩⟩ rfl rfl hl.1 rfl (lv_room (Nat.le_of_ble_eq_true rfl)) dL_law_434 ⟨by first | exact Nat.le_of_ble_eq_true rfl | exact yR (n := 0) (by omega) rfl, by first | exact Nat.le_of_ble_eq_true rfl | exact yR2 (n := 0) (by omega) rfl⟩) hS (fun q _ h => hFc q h) hFc (fun r_6 u_7 t H1 locs ht hvm hw hB hz1 hk1 hS => ?_)
  try dsimp only at hw
  obtain ⟨hP1, hK1, hD1⟩ := hB
  rw [ht] at hP1
  have hK1 := va_K.moved hvm.symm hK1
  have hK1 : va_K (dC, dI) vwCl [] s := hK1
  obtain ⟨hP, hD⟩ := va_join (wr := [(eO11a x pa bk xsp xdy le xst xsc xim xil xik xmo xom wi), (eO0a bk bto bnm bla bsk bru bbo bdi bda bdk bdt bdp bno), (eA0 bto cTo 5 fTo), (eA4 bla cLa 4 (fun k => some (La k))), (eO1a (La 0) (FI 0) (GR 0) (FR 0)), (eO1a (La 1) (FI 1) (GR 1) (FR 1)), (eO1a (La 2) (FI 2) (GR 2) (FR 2)), (eO1a (La 3) (FI 3) (GR 3) (FR 3))]) (w1 := [(mq, .inr (12, mF (upd g 2 u_7) gl rf)), (eA0 (rf 29) (ck 29) 24 f_landHas)]) hP hD [8, 9] [0, 1, 2, 3, 4, 5, 6, 7] hCc rfl (by decide +kernel) (by decide +kernel) hk1 hFc hP1 hD1
  have hfr := yF (wc := [(mq, .inr (12, mF g gl rf)), (eA0 (rf 29) (ck 29) 24 f_landHas)]) hBs [8, 9] rfl hz0 hfr hk1
  have hz0 := Nat.le_trans hz0 hz1
  generalize H1 = H at hP hS hfr hz0 ⊢
  obtain ⟨hP, hD⟩ := zre [(eO11a x pa bk xsp xdy le xst xsc xim xil xik xmo xom wi), (eO0a bk bto bnm bla bsk bru bbo bdi bda bdk bdt bdp bno), (eA0 bto cTo 5 fTo), (eA4 bla cLa 4 (fun k => some (La k))), (eO1a (La 0) (FI 0) (GR 0) (FR 0)), (eO1a (La 1) (FI 1) (GR 1) (FR 1)), (eO1a (La 2) (FI 2) (GR 2) (FR 2)), (eO1a (La 3) (FI 3) (GR 3) (FR 3)), (mq, .inr (12, mF (upd g 2 u_7) gl rf)), (eA0 (rf 29) (ck 29) 24 f_landHas)] hP hD rfl
  refine W.widen (k := ce + 0) (n := sl + 0) (by omega) (by omega) ?_
  obtain ⟨X_9, hX_9⟩ : ∃ X9 : Int64 × (Int32), X9 = (fq_length f_landHas y1 y2 (g 12)) := ⟨_, rfl⟩
  have hq_r_6 : r_6 = X_9.1 := by rw [hX_9]; exact hw.1
  have hq_u_7 : u_7 = X_9.2 := by rw [hX_9]; exact hw.2
  refine lv_pop2_2 hx hb dL_law_437 rfl ?_
  refine lv_goto (tgt := 2012) hx hb dL_law_438 (by decide) ?_
  refine W.widen (k := ce + 1) (n := sl + 6) (by omega) (by omega) ?_
  exact kk1 r_3 hq_r_3 X_9 hX_9 r_6 hq_r_6 u_7 hq_u_7 H locs ls (hP.sub (ws' := [(eO11a x pa bk xsp xdy le xst xsc xim xil xik xmo xom wi), (eO0a bk bto bnm bla bsk bru bbo bdi bda bdk bdt bdp bno), (eA0 bto cTo 5 fTo), (eA4 bla cLa 4 (fun k => some (La k))), (eO1a (La 0) (FI 0) (GR 0) (FR 0)), (eO1a (La 1) (FI 1) (GR 1) (FR 1)), (eO1a (La 2) (FI 2) (GR 2) (FR 2)), (eO1a (La 3) (FI 3) (GR 3) (FR 3)), (mq, .inr (12, mF (upd g 2 u_7) gl rf)), (eA0 (rf 29) (ck 29) 24 f_landHas)]) [0, 1, 2, 3, 4, 5, 6, 7, 8, 9] rfl) hS (lv_sub hl [0, 1, 2, 3, 4] rfl) hz0 hfr
