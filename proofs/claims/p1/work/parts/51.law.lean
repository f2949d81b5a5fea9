theorem dL_law_204 : decode cL_law 204 = .ok (.aload_n 1, 1) := by decide +kernel
theorem dL_law_205 : decode cL_law 205 = .ok (.aload_n 0, 1) := by decide +kernel
theorem dL_law_206 : decode cL_law 206 = .ok (.iload 4, 2) := by decide +kernel
theorem dL_law_208 : decode cL_law 208 = .ok (.iconst 1, 1) := by decide +kernel
theorem dL_law_209 : decode cL_law 209 = .ok (.iadd, 1) := by decide +kernel
theorem dL_law_210 : decode cL_law 210 = .ok (.iaload, 1) := by decide +kernel
theorem dL_law_211 : decode cL_law 211 = .ok (.aload_n 0, 1) := by decide +kernel
theorem dL_law_212 : decode cL_law 212 = .ok (.iload 4, 2) := by decide +kernel
theorem dL_law_214 : decode cL_law 214 = .ok (.iconst 2, 1) := by decide +kernel
theorem dL_law_215 : decode cL_law 215 = .ok (.iadd, 1) := by decide +kernel
theorem dL_law_216 : decode cL_law 216 = .ok (.iaload, 1) := by decide +kernel
theorem dL_law_217 : decode cL_law 217 = .ok (.aload_n 0, 1) := by decide +kernel
theorem dL_law_218 : decode cL_law 218 = .ok (.iload 4, 2) := by decide +kernel
theorem dL_law_220 : decode cL_law 220 = .ok (.iconst 3, 1) := by decide +kernel
theorem dL_law_221 : decode cL_law 221 = .ok (.iadd, 1) := by decide +kernel
theorem dL_law_222 : decode cL_law 222 = .ok (.iaload, 1) := by decide +kernel
theorem dL_law_223 : decode cL_law 223 = .ok (.aload_n 0, 1) := by decide +kernel
theorem dL_law_224 : decode cL_law 224 = .ok (.iload 4, 2) := by decide +kernel
theorem dL_law_226 : decode cL_law 226 = .ok (.iconst 4, 1) := by decide +kernel
theorem dL_law_227 : decode cL_law 227 = .ok (.iadd, 1) := by decide +kernel
theorem dL_law_228 : decode cL_law 228 = .ok (.iaload, 1) := by decide +kernel
theorem dL_law_229 : decode cL_law 229 = .ok (.aload_n 0, 1) := by decide +kernel
theorem dL_law_230 : decode cL_law 230 = .ok (.iload 4, 2) := by decide +kernel
theorem dL_law_232 : decode cL_law 232 = .ok (.iconst 5, 1) := by decide +kernel
theorem dL_law_233 : decode cL_law 233 = .ok (.iadd, 1) := by decide +kernel
theorem dL_law_234 : decode cL_law 234 = .ok (.iaload, 1) := by decide +kernel
theorem dL_law_235 : decode cL_law 235 = .ok (.invokevirtual 21, 3) := by decide +kernel
theorem dL_law_238 : decode cL_law 238 = .ok (.aload_n 2, 1) := by decide +kernel
theorem dL_law_239 : decode cL_law 239 = .ok (.aload_n 0, 1) := by decide +kernel
theorem dL_law_240 : decode cL_law 240 = .ok (.iload 4, 2) := by decide +kernel
theorem dL_law_242 : decode cL_law 242 = .ok (.iconst 1, 1) := by decide +kernel
theorem dL_law_243 : decode cL_law 243 = .ok (.iadd, 1) := by decide +kernel
theorem dL_law_244 : decode cL_law 244 = .ok (.iaload, 1) := by decide +kernel
theorem dL_law_245 : decode cL_law 245 = .ok (.aload_n 0, 1) := by decide +kernel
theorem dL_law_246 : decode cL_law 246 = .ok (.iload 4, 2) := by decide +kernel
theorem dL_law_248 : decode cL_law 248 = .ok (.iconst 2, 1) := by decide +kernel
theorem dL_law_249 : decode cL_law 249 = .ok (.iadd, 1) := by decide +kernel
theorem dL_law_250 : decode cL_law 250 = .ok (.iaload, 1) := by decide +kernel
theorem dL_law_251 : decode cL_law 251 = .ok (.aload_n 0, 1) := by decide +kernel
theorem dL_law_252 : decode cL_law 252 = .ok (.iload 4, 2) := by decide +kernel
theorem dL_law_254 : decode cL_law 254 = .ok (.iconst 3, 1) := by decide +kernel
theorem dL_law_255 : decode cL_law 255 = .ok (.iadd, 1) := by decide +kernel
theorem dL_law_256 : decode cL_law 256 = .ok (.iaload, 1) := by decide +kernel
theorem dL_law_257 : decode cL_law 257 = .ok (.aload_n 0, 1) := by decide +kernel
theorem dL_law_258 : decode cL_law 258 = .ok (.iload 4, 2) := by decide +kernel
theorem dL_law_260 : decode cL_law 260 = .ok (.iconst 4, 1) := by decide +kernel
theorem dL_law_261 : decode cL_law 261 = .ok (.iadd, 1) := by decide +kernel
theorem dL_law_262 : decode cL_law 262 = .ok (.iaload, 1) := by decide +kernel
theorem dL_law_263 : decode cL_law 263 = .ok (.aload_n 0, 1) := by decide +kernel
theorem dL_law_264 : decode cL_law 264 = .ok (.iload 4, 2) := by decide +kernel
theorem dL_law_266 : decode cL_law 266 = .ok (.iconst 5, 1) := by decide +kernel
theorem dL_law_267 : decode cL_law 267 = .ok (.iadd, 1) := by decide +kernel
theorem dL_law_268 : decode cL_law 268 = .ok (.iaload, 1) := by decide +kernel
theorem dL_law_269 : decode cL_law 269 = .ok (.invokevirtual 25, 3) := by decide +kernel
theorem dL_law_272 : decode cL_law 272 = .ok (.if_icmp .eq 1781, 3) := by decide +kernel
theorem dL_law_2053 : decode cL_law 2053 = .ok (.iinc 4 6, 3) := by decide +kernel
theorem dL_law_2056 : decode cL_law 2056 = .ok (.goto (-2033), 3) := by decide +kernel
theorem dL_law_23 : decode cL_law 23 = .ok (.iload 4, 2) := by decide +kernel
theorem dL_law_25 : decode cL_law 25 = .ok (.aload_n 0, 1) := by decide +kernel
theorem dL_law_26 : decode cL_law 26 = .ok (.arraylength, 1) := by decide +kernel
theorem dL_law_27 : decode cL_law 27 = .ok (.bipush 6, 2) := by decide +kernel
theorem dL_law_29 : decode cL_law 29 = .ok (.isub, 1) := by decide +kernel
theorem dL_law_30 : decode cL_law 30 = .ok (.if_icmp .gt 2029, 3) := by decide +kernel
theorem dL_law_2059 : decode cL_law 2059 = .ok (.iconst 1, 1) := by decide +kernel
theorem dL_law_2060 : decode cL_law 2060 = .ok (.ireturn, 1) := by decide +kernel
set_option maxHeartbeats 4000000 in
set_option maxRecDepth 100000 in
theorem law_feed (l : Launch) (hst : l.stackTraces = false) {p : Program} {e : Env} {s : State} {m : MethodId} {below : List Frame} {meth : Method} {c : Code} {bs : Nat} {xs : Nat → Int32} (C0 : lw_At p s m meth c bs 6 xs) (dC : Nat → ClassId) (dI : Nat → Nat → Nat) (A : Nat → Prop) (hAe : ∀ q, A q ↔ s.heap.size ≤ q) (xpa : Nat) (b : Nat) (xsp : Nat) (xdy : Nat) (xle : Nat) (xst : Nat) (xim : Nat) (xil : Nat) (xmo : Nat) (xom : Nat) (xwi : Nat) (plx : Nat) (phd : Nat) (phr : Nat) (lby : Nat) (lco : Nat) (cB : ClassId) (mtp : Nat) (mywords : Nat) (msk : Nat) (mln : Nat) (mlh : Nat) (mfn : Nat) (mfi : Nat) (mla : Nat) (mpn : Nat) (mbo : Nat) (mdi : Nat) (mdn : Nat) (mdo : Nat) (mdh : Nat) (mnn : Nat) (mnh : Nat) (mkn : Nat) (mpt : Nat) (mot : Nat) (mywait : Nat) (myheld : Nat) (mynames : Nat) (myvalue : Nat) (mun : Nat) (mycan : Nat) (myroot : Nat) (myoff : Nat) (mtn : Nat) (mtc : Nat) (mkh : Nat) (mkt : Nat) (mkc : Nat) (cmtp : ClassId) (x : Nat) (mq : Nat) (o3 : Nat)  (H : Heap) (locs : List Loc) (ls : Array Slot) (hK : va_K (dC, dI) vwCl [(cB, .byte), (cmtp, .int)] s) (hP : va_P (dC, dI) vwCl [(x, .inr (11, [.ref xpa, .ref b, .ref xsp, .ref xdy, .ref xle, .ref xst, .int 0, .ref xim, .ref xil, .int 0, .ref xmo, .ref xom, .ref xwi])), (xpa, .inr (7, [.ref plx, .null, .int 0, .int (-1), .int 0, .ref phd, .ref phr, .int 0, .int 0])), (plx, .inr (3, [.ref lby, .int 0, .ref lco, .int 0, .int 0, .int 0, .int 0, .int 0, .int 0])), (lby, .inl (cB, 900, .inl (fun _ => 0))), (mq, .inr (12, [.ref mtp, .int 0, .int 0, .ref mywords, .int 0, .int (-1), .int 0, .int 0, .int 0, .int 0, .int 0, .int 0, .int 0, .int 0, .int 0, .int 0, .int 0, .int 0, .int 0, .int 0, .int 0, .int 0, .int 0, .int 0, .ref msk, .int 0, .int 0, .int 0, .ref mln, .ref mlh, .ref mfn, .ref mfi, .ref mla, .ref mpn, .ref mbo, .ref mdi, .ref mdn, .ref mdo, .ref mdh, .ref mnn, .ref mnh, .ref mkn, .ref mpt, .ref mot, .long 0, .ref mywait, .ref myheld, .int 0, .int 0, .int 0, .int 0, .int 0, .int 0, .long 0, .long 0, .ref mynames, .ref myvalue, .int 0, .int 0, .int 0, .ref mun, .ref mycan, .int 0, .int 0, .int 0, .ref myroot, .ref myoff, .int 0, .ref mtn, .ref mtc, .int 0, .int 0, .int 0, .ref mkh, .ref mkt, .ref mkc])), (mtp, .inl (cmtp, 900, .inl (fun _ => 0)))] H) (hD : va_D A [(x, .inr (11, [.ref xpa, .ref b, .ref xsp, .ref xdy, .ref xle, .ref xst, .int 0, .ref xim, .ref xil, .int 0, .ref xmo, .ref xom, .ref xwi])), (xpa, .inr (7, [.ref plx, .null, .int 0, .int (-1), .int 0, .ref phd, .ref phr, .int 0, .int 0])), (plx, .inr (3, [.ref lby, .int 0, .ref lco, .int 0, .int 0, .int 0, .int 0, .int 0, .int 0])), (lby, .inl (cB, 900, .inl (fun _ => 0))), (mq, .inr (12, [.ref mtp, .int 0, .int 0, .ref mywords, .int 0, .int (-1), .int 0, .int 0, .int 0, .int 0, .int 0, .int 0, .int 0, .int 0, .int 0, .int 0, .int 0, .int 0, .int 0, .int 0, .int 0, .int 0, .int 0, .int 0, .ref msk, .int 0, .int 0, .int 0, .ref mln, .ref mlh, .ref mfn, .ref mfi, .ref mla, .ref mpn, .ref mbo, .ref mdi, .ref mdn, .ref mdo, .ref mdh, .ref mnn, .ref mnh, .ref mkn, .ref mpt, .ref mot, .long 0, .ref mywait, .ref myheld, .int 0, .int 0, .int 0, .int 0, .int 0, .int 0, .long 0, .long 0, .ref mynames, .ref myvalue, .int 0, .int 0, .int 0, .ref mun, .ref mycan, .int 0, .int 0, .int 0, .ref myroot, .ref myoff, .int 0, .ref mtn, .ref mtc, .int 0, .int 0, .int 0, .ref mkh, .ref mkt, .ref mkc])), (mtp, .inl (cmtp, 900, .inl (fun _ => 0)))]) (hS : va_S A s.heap H locs) (hl : lv_has ls 7 [(4, .int 0), (3, .ref o3), (2, .ref mq), (1, .ref x), (0, .ref bs)]) : W p l e room_1 s m #[Value.ref bs] below meth c H locs 129 248806 (lw_Z below #[Value.ref bs] s) (F0 m 204 ls []) := by
  obtain ⟨hx, hb, hr, hml, hown, hts, hX, hbl, hlocks, hgv⟩ := id C0
  have htw : ∀ w ∈ wsL_law, w.before _ s = true := fun w h => hts w (wsL_law_in w h)
  have hown : s.vm.findClass RL = some m.cls := hown
  have hA : ∀ q : Nat, s.heap.size ≤ q → A q := fun q h => (hAe q).mpr h
  have hbA : ¬ A bs := fun h => absurd ((hAe bs).mp h) (Nat.not_le.mpr hbl)
  refine lv_aload_n hx hb dL_law_204 rfl (lv_at hl 3 rfl) ?_
  refine lv_aload_n hx hb dL_law_205 rfl (lv_at hl 4 rfl) ?_
  refine lv_iload hx hb dL_law_206 (lv_at hl 0 rfl) ?_
  refine lv_iconst (v := 1) hx hb dL_law_208 (by decide) ?_
  refine lv_iadd hx hb dL_law_209 ?_
  refine lv_topi (fun z_1 ez_1 => ?_)
  obtain rfl : z_1 = 1 := ez_1.trans (by decide)
  refine va_sld hx hb hX hbl hbA hS (by unfold vp_in; decide) dL_law_210 ?_
  refine lv_topi (fun z_2 ez_2 => ?_)
  obtain rfl : z_2 = xs 1 := ez_2
  refine lv_aload_n hx hb dL_law_211 rfl (lv_at hl 4 rfl) ?_
  refine lv_iload hx hb dL_law_212 (lv_at hl 0 rfl) ?_
  refine lv_iconst (v := 2) hx hb dL_law_214 (by decide) ?_
  refine lv_iadd hx hb dL_law_215 ?_
  refine lv_topi (fun z_3 ez_3 => ?_)
  obtain rfl : z_3 = 2 := ez_3.trans (by decide)
  refine va_sld hx hb hX hbl hbA hS (by unfold vp_in; decide) dL_law_216 ?_
  refine lv_topi (fun z_4 ez_4 => ?_)
  obtain rfl : z_4 = xs 2 := ez_4
  refine lv_aload_n hx hb dL_law_217 rfl (lv_at hl 4 rfl) ?_
  refine lv_iload hx hb dL_law_218 (lv_at hl 0 rfl) ?_
  refine lv_iconst (v := 3) hx hb dL_law_220 (by decide) ?_
  refine lv_iadd hx hb dL_law_221 ?_
  refine lv_topi (fun z_5 ez_5 => ?_)
  obtain rfl : z_5 = 3 := ez_5.trans (by decide)
  refine va_sld hx hb hX hbl hbA hS (by unfold vp_in; decide) dL_law_222 ?_
  refine lv_topi (fun z_6 ez_6 => ?_)
  obtain rfl : z_6 = xs 3 := ez_6
  refine lv_aload_n hx hb dL_law_223 rfl (lv_at hl 4 rfl) ?_
  refine lv_iload hx hb dL_law_224 (lv_at hl 0 rfl) ?_
  refine lv_iconst (v := 4) hx hb dL_law_226 (by decide) ?_
  refine lv_iadd hx hb dL_law_227 ?_
  refine lv_topi (fun z_7 ez_7 => ?_)
  obtain rfl : z_7 = 4 := ez_7.trans (by decide)
  refine va_sld hx hb hX hbl hbA hS (by unfold vp_in; decide) dL_law_228 ?_
  refine lv_topi (fun z_8 ez_8 => ?_)
  obtain rfl : z_8 = xs 4 := ez_8
  refine lv_aload_n hx hb dL_law_229 rfl (lv_at hl 4 rfl) ?_
  refine lv_iload hx hb dL_law_230 (lv_at hl 0 rfl) ?_
  refine lv_iconst (v := 5) hx hb dL_law_232 (by decide) ?_
  refine lv_iadd hx hb dL_law_233 ?_
  refine lv_topi (fun z_9 ez_9 => ?_)
  obtain rfl : z_9 = 5 := ez_9.trans (by decide)
  refine va_sld hx hb hX hbl hbA hS (by unfold vp_in; decide) dL_law_234 ?_
  refine lv_topi (fun z_10 ez_10 => ?_)
  obtain rfl : z_10 = xs 5 := ez_10
  have hPc := hP.sub (ws' := [(x, .inr (11, [.ref xpa, .ref b, .ref xsp, .ref xdy, .ref xle, .ref xst, .int 0, .ref xim, .ref xil, .int 0, .ref xmo, .ref xom, .ref xwi])), (xpa, .inr (7, [.ref plx, .null, .int 0, .int (-1), .int 0, .ref phd, .ref phr, .int 0, .int 0])), (plx, .inr (3, [.ref lby, .int 0, .ref lco, .int 0, .int 0, .int 0, .int 0, .int 0, .int 0])), (lby, .inl (cB, 900, .inl (fun _ => 0)))]) [0, 1, 2, 3] rfl
  have hKc := hK.sub (tys' := [(cB, .byte)]) [0] rfl
  have hDc := hD.sub (ws' := [(x, .inr (11, [.ref xpa, .ref b, .ref xsp, .ref xdy, .ref xle, .ref xst, .int 0, .ref xim, .ref xil, .int 0, .ref xmo, .ref xom, .ref xwi])), (xpa, .inr (7, [.ref plx, .null, .int 0, .int (-1), .int 0, .ref phd, .ref phr, .int 0, .int 0])), (plx, .inr (3, [.ref lby, .int 0, .ref lco, .int 0, .int 0, .int 0, .int 0, .int 0, .int 0])), (lby, .inl (cB, 900, .inl (fun _ => 0)))]) [0, 1, 2, 3] (by decide) rfl
  have hFc := va_free (wc := [(x, .inr (11, [.ref xpa, .ref b, .ref xsp, .ref xdy, .ref xle, .ref xst, .int 0, .ref xim, .ref xil, .int 0, .ref xmo, .ref xom, .ref xwi])), (xpa, .inr (7, [.ref plx, .null, .int 0, .int (-1), .int 0, .ref phd, .ref phr, .int 0, .int 0])), (plx, .inr (3, [.ref lby, .int 0, .ref lco, .int 0, .int 0, .int 0, .int 0, .int 0, .int 0])), (lby, .inl (cB, 900, .inl (fun _ => 0)))]) hD hS hA [0, 1, 2, 3] rfl
  refine va_calli (va_runV (As := [.int (xs 1), .int (xs 2), .int (xs 3), .int (xs 4), .int (xs 5)]) (rest := []) ⟨hx, hb, hml, hown, htw⟩ (mx_feed l dC dI x xpa xsp xdy xle xst xim xil xmo xom xwi b plx phd phr lby lco cB (fun _ => 0) (xs 1) (xs 2) (xs 3) (xs 4) (xs 5) H.size) (cwV 5 htw (xg_V (ck_12 _ (List.mem_of_getElem? (i := 1) rfl)) (ck_12 _ (List.mem_of_getElem? (i := 2) rfl)) (ck_12 _ (List.mem_of_getElem? (i := 3) rfl)) (ck_1 _ (List.mem_of_getElem? (i := 2) rfl)) (ck_12 _ (List.mem_of_getElem? (i := 4) rfl))) rfl rfl rfl (by decide +kernel) ⟨Nat.le_of_ble_eq_true rfl, Nat.le_of_ble_eq_true rfl⟩) ⟨fun a U g mk q => by obtain ⟨q0, q1, qP, qK, qD⟩ := q; exact ⟨q0, q1, qP, va_K.moved (u := U) (U := U.calling g mk a) (Vm.Alike.refl U.vm) qK, qD⟩, va_recv hKc hPc (ci := 11) (q0 := 0) rfl rfl, fun U hU hW => ⟨rfl, by rw [hU], by rw [hU]; exact hPc, va_K.moved hW.alike hKc, hDc.weaken (fun _ _ _ _ => trivial)⟩⟩ rfl rfl hl.1 rfl (lv_room (Nat.le_of_ble_eq_true rfl)) dL_law_235 ⟨Nat.le_of_ble_eq_true rfl, Nat.le_of_ble_eq_true rfl⟩) hS (fun q _ h => hFc q h) hFc (fun r_11 u_12 t H1 locs ht hvm hw hB hz1 hk1 hS => ?_)
  try dsimp only at hw
  have hP1 : va_P (dC, dI) vwCl [] H1 := fun k q h => by simp at h
  have hD1 : va_D (va_A [(x, .inr (11, [.ref xpa, .ref b, .ref xsp, .ref xdy, .ref xle, .ref xst, .int 0, .ref xim, .ref xil, .int 0, .ref xmo, .ref xom, .ref xwi])), (xpa, .inr (7, [.ref plx, .null, .int 0, .int (-1), .int 0, .ref phd, .ref phr, .int 0, .int 0])), (plx, .inr (3, [.ref lby, .int 0, .ref lco, .int 0, .int 0, .int 0, .int 0, .int 0, .int 0])), (lby, .inl (cB, 900, .inl (fun _ => 0)))] H.size) [] := ⟨fun i j p q h => by simp at h, fun k q h => by simp at h⟩
  obtain ⟨hP, hD⟩ := va_join (wr := [(mq, .inr (12, [.ref mtp, .int 0, .int 0, .ref mywords, .int 0, .int (-1), .int 0, .int 0, .int 0, .int 0, .int 0, .int 0, .int 0, .int 0, .int 0, .int 0, .int 0, .int 0, .int 0, .int 0, .int 0, .int 0, .int 0, .int 0, .ref msk, .int 0, .int 0, .int 0, .ref mln, .ref mlh, .ref mfn, .ref mfi, .ref mla, .ref mpn, .ref mbo, .ref mdi, .ref mdn, .ref mdo, .ref mdh, .ref mnn, .ref mnh, .ref mkn, .ref mpt, .ref mot, .long 0, .ref mywait, .ref myheld, .int 0, .int 0, .int 0, .int 0, .int 0, .int 0, .long 0, .long 0, .ref mynames, .ref myvalue, .int 0, .int 0, .int 0, .ref mun, .ref mycan, .int 0, .int 0, .int 0, .ref myroot, .ref myoff, .int 0, .ref mtn, .ref mtc, .int 0, .int 0, .int 0, .ref mkh, .ref mkt, .ref mkc])), (mtp, .inl (cmtp, 900, .inl (fun _ => 0)))]) (w1 := []) hP hD [0, 1, 2, 3] [4, 5] rfl rfl (by decide) (by decide) hk1 hFc hP1 hD1
  generalize H1 = H at hP hS ⊢
  have hP : va_P (dC, dI) vwCl [(mq, .inr (12, [.ref mtp, .int 0, .int 0, .ref mywords, .int 0, .int (-1), .int 0, .int 0, .int 0, .int 0, .int 0, .int 0, .int 0, .int 0, .int 0, .int 0, .int 0, .int 0, .int 0, .int 0, .int 0, .int 0, .int 0, .int 0, .ref msk, .int 0, .int 0, .int 0, .ref mln, .ref mlh, .ref mfn, .ref mfi, .ref mla, .ref mpn, .ref mbo, .ref mdi, .ref mdn, .ref mdo, .ref mdh, .ref mnn, .ref mnh, .ref mkn, .ref mpt, .ref mot, .long 0, .ref mywait, .ref myheld, .int 0, .int 0, .int 0, .int 0, .int 0, .int 0, .long 0, .long 0, .ref mynames, .ref myvalue, .int 0, .int 0, .int 0, .ref mun, .ref mycan, .int 0, .int 0, .int 0, .ref myroot, .ref myoff, .int 0, .ref mtn, .ref mtc, .int 0, .int 0, .int 0, .ref mkh, .ref mkt, .ref mkc])), (mtp, .inl (cmtp, 900, .inl (fun _ => 0)))] H := hP
  have hD : va_D A [(mq, .inr (12, [.ref mtp, .int 0, .int 0, .ref mywords, .int 0, .int (-1), .int 0, .int 0, .int 0, .int 0, .int 0, .int 0, .int 0, .int 0, .int 0, .int 0, .int 0, .int 0, .int 0, .int 0, .int 0, .int 0, .int 0, .int 0, .ref msk, .int 0, .int 0, .int 0, .ref mln, .ref mlh, .ref mfn, .ref mfi, .ref mla, .ref mpn, .ref mbo, .ref mdi, .ref mdn, .ref mdo, .ref mdh, .ref mnn, .ref mnh, .ref mkn, .ref mpt, .ref mot, .long 0, .ref mywait, .ref myheld, .int 0, .int 0, .int 0, .int 0, .int 0, .int 0, .long 0, .long 0, .ref mynames, .ref myvalue, .int 0, .int 0, .int 0, .ref mun, .ref mycan, .int 0, .int 0, .int 0, .ref myroot, .ref myoff, .int 0, .ref mtn, .ref mtc, .int 0, .int 0, .int 0, .ref mkh, .ref mkt, .ref mkc])), (mtp, .inl (cmtp, 900, .inl (fun _ => 0)))] := hD
  refine W.widen (k := 129) (n := 248806) (by omega) (by omega) ?_
  obtain rfl : r_11 = 20 := hw
  refine lv_aload_n hx hb dL_law_238 rfl (lv_at hl 2 rfl) ?_
  refine lv_aload_n hx hb dL_law_239 rfl (lv_at hl 4 rfl) ?_
  refine lv_iload hx hb dL_law_240 (lv_at hl 0 rfl) ?_
  refine lv_iconst (v := 1) hx hb dL_law_242 (by decide) ?_
  refine lv_iadd hx hb dL_law_243 ?_
  refine lv_topi (fun z_13 ez_13 => ?_)
  obtain rfl : z_13 = 1 := ez_13.trans (by decide)
  refine va_sld hx hb hX hbl hbA hS (by unfold vp_in; decide) dL_law_244 ?_
  refine lv_topi (fun z_14 ez_14 => ?_)
  obtain rfl : z_14 = xs 1 := ez_14
  refine lv_aload_n hx hb dL_law_245 rfl (lv_at hl 4 rfl) ?_
  refine lv_iload hx hb dL_law_246 (lv_at hl 0 rfl) ?_
  refine lv_iconst (v := 2) hx hb dL_law_248 (by decide) ?_
  refine lv_iadd hx hb dL_law_249 ?_
  refine lv_topi (fun z_15 ez_15 => ?_)
  obtain rfl : z_15 = 2 := ez_15.trans (by decide)
  refine va_sld hx hb hX hbl hbA hS (by unfold vp_in; decide) dL_law_250 ?_
  refine lv_topi (fun z_16 ez_16 => ?_)
  obtain rfl : z_16 = xs 2 := ez_16
  refine lv_aload_n hx hb dL_law_251 rfl (lv_at hl 4 rfl) ?_
  refine lv_iload hx hb dL_law_252 (lv_at hl 0 rfl) ?_
  refine lv_iconst (v := 3) hx hb dL_law_254 (by decide) ?_
  refine lv_iadd hx hb dL_law_255 ?_
  refine lv_topi (fun z_17 ez_17 => ?_)
  obtain rfl : z_17 = 3 := ez_17.trans (by decide)
  refine va_sld hx hb hX hbl hbA hS (by unfold vp_in; decide) dL_law_256 ?_
  refine lv_topi (fun z_18 ez_18 => ?_)
  obtain rfl : z_18 = xs 3 := ez_18
  refine lv_aload_n hx hb dL_law_257 rfl (lv_at hl 4 rfl) ?_
  refine lv_iload hx hb dL_law_258 (lv_at hl 0 rfl) ?_
  refine lv_iconst (v := 4) hx hb dL_law_260 (by decide) ?_
  refine lv_iadd hx hb dL_law_261 ?_
  refine lv_topi (fun z_19 ez_19 => ?_)
  obtain rfl : z_19 = 4 := ez_19.trans (by decide)
  refine va_sld hx hb hX hbl hbA hS (by unfold vp_in; decide) dL_law_262 ?_
  refine lv_topi (fun z_20 ez_20 => ?_)
  obtain rfl : z_20 = xs 4 := ez_20
  refine lv_aload_n hx hb dL_law_263 rfl (lv_at hl 4 rfl) ?_
  refine lv_iload hx hb dL_law_264 (lv_at hl 0 rfl) ?_
  refine lv_iconst (v := 5) hx hb dL_law_266 (by decide) ?_
  refine lv_iadd hx hb dL_law_267 ?_
  refine lv_topi (fun z_21 ez_21 => ?_)
  obtain rfl : z_21 = 5 := ez_21.trans (by decide)
  refine va_sld hx hb hX hbl hbA hS (by unfold vp_in; decide) dL_law_268 ?_
  refine lv_topi (fun z_22 ez_22 => ?_)
  obtain rfl : z_22 = xs 5 := ez_22
  have hPc := hP.sub (ws' := [(mq, .inr (12, [.ref mtp, .int 0, .int 0, .ref mywords, .int 0, .int (-1), .int 0, .int 0, .int 0, .int 0, .int 0, .int 0, .int 0, .int 0, .int 0, .int 0, .int 0, .int 0, .int 0, .int 0, .int 0, .int 0, .int 0, .int 0, .ref msk, .int 0, .int 0, .int 0, .ref mln, .ref mlh, .ref mfn, .ref mfi, .ref mla, .ref mpn, .ref mbo, .ref mdi, .ref mdn, .ref mdo, .ref mdh, .ref mnn, .ref mnh, .ref mkn, .ref mpt, .ref mot, .long 0, .ref mywait, .ref myheld, .int 0, .int 0, .int 0, .int 0, .int 0, .int 0, .long 0, .long 0, .ref mynames, .ref myvalue, .int 0, .int 0, .int 0, .ref mun, .ref mycan, .int 0, .int 0, .int 0, .ref myroot, .ref myoff, .int 0, .ref mtn, .ref mtc, .int 0, .int 0, .int 0, .ref mkh, .ref mkt, .ref mkc])), (mtp, .inl (cmtp, 900, .inl (fun _ => 0)))]) [0, 1] rfl
  have hKc := hK.sub (tys' := [(cmtp, .int)]) [1] rfl
  have hDc := hD.sub (ws' := [(mq, .inr (12, [.ref mtp, .int 0, .int 0, .ref mywords, .int 0, .int (-1), .int 0, .int 0, .int 0, .int 0, .int 0, .int 0, .int 0, .int 0, .int 0, .int 0, .int 0, .int 0, .int 0, .int 0, .int 0, .int 0, .int 0, .int 0, .ref msk, .int 0, .int 0, .int 0, .ref mln, .ref mlh, .ref mfn, .ref mfi, .ref mla, .ref mpn, .ref mbo, .ref mdi, .ref mdn, .ref mdo, .ref mdh, .ref mnn, .ref mnh, .ref mkn, .ref mpt, .ref mot, .long 0, .ref mywait, .ref myheld, .int 0, .int 0, .int 0, .int 0, .int 0, .int 0, .long 0, .long 0, .ref mynames, .ref myvalue, .int 0, .int 0, .int 0, .ref mun, .ref mycan, .int 0, .int 0, .int 0, .ref myroot, .ref myoff, .int 0, .ref mtn, .ref mtc, .int 0, .int 0, .int 0, .ref mkh, .ref mkt, .ref mkc])), (mtp, .inl (cmtp, 900, .inl (fun _ => 0)))]) [0, 1] (by decide) rfl
  have hFc := va_free (wc := [(mq, .inr (12, [.ref mtp, .int 0, .int 0, .ref mywords, .int 0, .int (-1), .int 0, .int 0, .int 0, .int 0, .int 0, .int 0, .int 0, .int 0, .int 0, .int 0, .int 0, .int 0, .int 0, .int 0, .int 0, .int 0, .int 0, .int 0, .ref msk, .int 0, .int 0, .int 0, .ref mln, .ref mlh, .ref mfn, .ref mfi, .ref mla, .ref mpn, .ref mbo, .ref mdi, .ref mdn, .ref mdo, .ref mdh, .ref mnn, .ref mnh, .ref mkn, .ref mpt, .ref mot, .long 0, .ref mywait, .ref myheld, .int 0, .int 0, .int 0, .int 0, .int 0, .int 0, .long 0, .long 0, .ref mynames, .ref myvalue, .int 0, .int 0, .int 0, .ref mun, .ref mycan, .int 0, .int 0, .int 0, .ref myroot, .ref myoff, .int 0, .ref mtn, .ref mtc, .int 0, .int 0, .int 0, .ref mkh, .ref mkt, .ref mkc])), (mtp, .inl (cmtp, 900, .inl (fun _ => 0)))]) hD hS hA [0, 1] rfl
  refine va_calli (va_runV (As := [.int (xs 1), .int (xs 2), .int (xs 3), .int (xs 4), .int (xs 5)]) (rest := [.int 20]) ⟨hx, hb, hml, hown, htw⟩ (mm_feed l dC dI mq ([.ref mtp, .int 0, .int 0, .ref mywords, .int 0, .int (-1), .int 0, .int 0, .int 0, .int 0, .int 0, .int 0, .int 0, .int 0, .int 0, .int 0, .int 0, .int 0, .int 0, .int 0, .int 0, .int 0, .int 0, .int 0, .ref msk, .int 0, .int 0, .int 0, .ref mln, .ref mlh, .ref mfn, .ref mfi, .ref mla, .ref mpn, .ref mbo, .ref mdi, .ref mdn, .ref mdo, .ref mdh, .ref mnn, .ref mnh, .ref mkn, .ref mpt, .ref mot, .long 0, .ref mywait, .ref myheld, .int 0, .int 0, .int 0, .int 0, .int 0, .int 0, .long 0, .long 0, .ref mynames, .ref myvalue, .int 0, .int 0, .int 0, .ref mun, .ref mycan, .int 0, .int 0, .int 0, .ref myroot, .ref myoff, .int 0, .ref mtn, .ref mtc, .int 0, .int 0, .int 0, .ref mkh, .ref mkt, .ref mkc]) mtp cmtp (fun _ => 0) (xs 1) (xs 2) (xs 3) (xs 4) (xs 5) H.size rfl rfl rfl) (cwV 5 htw (xg_V (ck_12 _ (List.mem_of_getElem? (i := 12) rfl)) (ck_12 _ (List.mem_of_getElem? (i := 13) rfl)) (ck_12 _ (List.mem_of_getElem? (i := 14) rfl)) (ck_1 _ (List.mem_of_getElem? (i := 5) rfl)) (ck_12 _ (List.mem_of_getElem? (i := 15) rfl))) rfl rfl rfl (by decide +kernel) ⟨Nat.le_of_ble_eq_true rfl, Nat.le_of_ble_eq_true rfl⟩) ⟨fun a U g mk q => by obtain ⟨q0, q1, qP, qK, qD⟩ := q; exact ⟨q0, q1, qP, va_K.moved (u := U) (U := U.calling g mk a) (Vm.Alike.refl U.vm) qK, qD⟩, va_recv hKc hPc (ci := 12) (q0 := 0) rfl rfl, fun U hU hW => ⟨rfl, by rw [hU], by rw [hU]; exact hPc, va_K.moved hW.alike hKc, hDc.weaken (fun _ _ _ _ => trivial)⟩⟩ rfl rfl hl.1 rfl (lv_room (Nat.le_of_ble_eq_true rfl)) dL_law_269 ⟨Nat.le_of_ble_eq_true rfl, Nat.le_of_ble_eq_true rfl⟩) hS (fun q _ h => hFc q h) hFc (fun r_23 u_24 t H1 locs ht hvm hw hB hz1 hk1 hS => ?_)
  try dsimp only at hw
  have hP1 : va_P (dC, dI) vwCl [] H1 := fun k q h => by simp at h
  have hD1 : va_D (va_A [(mq, .inr (12, [.ref mtp, .int 0, .int 0, .ref mywords, .int 0, .int (-1), .int 0, .int 0, .int 0, .int 0, .int 0, .int 0, .int 0, .int 0, .int 0, .int 0, .int 0, .int 0, .int 0, .int 0, .int 0, .int 0, .int 0, .int 0, .ref msk, .int 0, .int 0, .int 0, .ref mln, .ref mlh, .ref mfn, .ref mfi, .ref mla, .ref mpn, .ref mbo, .ref mdi, .ref mdn, .ref mdo, .ref mdh, .ref mnn, .ref mnh, .ref mkn, .ref mpt, .ref mot, .long 0, .ref mywait, .ref myheld, .int 0, .int 0, .int 0, .int 0, .int 0, .int 0, .long 0, .long 0, .ref mynames, .ref myvalue, .int 0, .int 0, .int 0, .ref mun, .ref mycan, .int 0, .int 0, .int 0, .ref myroot, .ref myoff, .int 0, .ref mtn, .ref mtc, .int 0, .int 0, .int 0, .ref mkh, .ref mkt, .ref mkc])), (mtp, .inl (cmtp, 900, .inl (fun _ => 0)))] H.size) [] := ⟨fun i j p q h => by simp at h, fun k q h => by simp at h⟩
  obtain ⟨hP, hD⟩ := va_join (wr := []) (w1 := []) hP hD [0, 1] [] rfl rfl (by decide) (by decide) hk1 hFc hP1 hD1
  generalize H1 = H at hP hS ⊢
  have hP : va_P (dC, dI) vwCl [] H := hP
  have hD : va_D A [] := hD
  refine W.widen (k := 129) (n := 248806) (by omega) (by omega) ?_
  obtain rfl : r_23 = 20 := hw
  refine lv_icmp_eq (tgt := 2053) hx hb dL_law_272 (by decide) (fun _ => ?_) (fun c => absurd c (by decide))
  refine lv_iinc (v := 6) (lv' := [(4, .int 6), (3, .ref o3), (2, .ref mq), (1, .ref x), (0, .ref bs)]) hx hb dL_law_2053 hl (k := 0) rfl (by decide) (by decide) rfl (fun ls hl => ?_)
  refine lv_goto (tgt := 23) hx hb dL_law_2056 (by decide) ?_
  refine lv_iload hx hb dL_law_23 (lv_at hl 0 rfl) ?_
  refine lv_aload_n hx hb dL_law_25 rfl (lv_at hl 4 rfl) ?_
  refine va_slen hx hb hX hbl hbA hS dL_law_26 ?_
  refine lv_topi (fun z_25 ez_25 => ?_)
  obtain rfl : z_25 = 6 := ez_25.trans (by decide)
  refine lv_bipush (v := 6) hx hb dL_law_27 (by decide) ?_
  refine lv_isub hx hb dL_law_29 ?_
  refine lv_topi (fun z_26 ez_26 => ?_)
  obtain rfl : z_26 = 0 := ez_26.trans (by decide)
  refine lv_icmp_gt (tgt := 2059) hx hb dL_law_30 (by decide) (fun _ => ?_) (fun c => absurd c (by decide))
  refine lv_iconst (v := 1) hx hb dL_law_2059 (by decide) ?_
  refine va_forget (fun q hq => (hAe _).mp (hS.2.2 q hq)) ?_
  refine W.widen (k := 600002) (n := 7302232) (by omega) (by omega) ?_
  exact lw_ret hx hb hr hlocks dL_law_2060

theorem dL_law_277 : decode cL_law 277 = .ok (.aload_n 1, 1) := by decide +kernel
theorem dL_law_278 : decode cL_law 278 = .ok (.aload_n 0, 1) := by decide +kernel
theorem dL_law_279 : decode cL_law 279 = .ok (.iload 4, 2) := by decide +kernel
theorem dL_law_281 : decode cL_law 281 = .ok (.iconst 1, 1) := by decide +kernel
theorem dL_law_282 : decode cL_law 282 = .ok (.iadd, 1) := by decide +kernel
theorem dL_law_283 : decode cL_law 283 = .ok (.iaload, 1) := by decide +kernel
theorem dL_law_284 : decode cL_law 284 = .ok (.invokevirtual 26, 3) := by decide +kernel
theorem dL_law_287 : decode cL_law 287 = .ok (.aload_n 2, 1) := by decide +kernel
theorem dL_law_288 : decode cL_law 288 = .ok (.aload_n 0, 1) := by decide +kernel
theorem dL_law_289 : decode cL_law 289 = .ok (.iload 4, 2) := by decide +kernel
theorem dL_law_291 : decode cL_law 291 = .ok (.iconst 1, 1) := by decide +kernel
theorem dL_law_292 : decode cL_law 292 = .ok (.iadd, 1) := by decide +kernel
theorem dL_law_293 : decode cL_law 293 = .ok (.iaload, 1) := by decide +kernel
theorem dL_law_294 : decode cL_law 294 = .ok (.invokevirtual 30, 3) := by decide +kernel
theorem dL_law_297 : decode cL_law 297 = .ok (.if_icmp .eq 1756, 3) := by decide +kernel
set_option maxHeartbeats 4000000 in
set_option maxRecDepth 100000 in
theorem law_text (l : Launch) (hst : l.stackTraces = false) {p : Program} {e : Env} {s : State} {m : MethodId} {below : List Frame} {meth : Method} {c : Code} {bs : Nat} {xs : Nat → Int32} (C0 : lw_At p s m meth c bs 6 xs) (dC : Nat → ClassId) (dI : Nat → Nat → Nat) (A : Nat → Prop) (hAe : ∀ q, A q ↔ s.heap.size ≤ q) (xpa : Nat) (b : Nat) (xsp : Nat) (xdy : Nat) (xle : Nat) (xst : Nat) (xim : Nat) (xil : Nat) (xmo : Nat) (xom : Nat) (xwi : Nat) (plx : Nat) (phd : Nat) (phr : Nat) (lby : Nat) (lco : Nat) (xspto : Nat) (xspnm : Nat) (xspla : Nat) (xspsk : Nat) (xspru : Nat) (xspbo : Nat) (xspdi : Nat) (xspda : Nat) (xspdk : Nat) (xspdt : Nat) (xspdp : Nat) (xspno : Nat) (xspruc : Nat) (xsprue : Nat) (xspruk : Nat) (xspnos : Nat) (xspnof : Nat) (xspnoz : Nat) (scT : ClassId) (scE : ClassId) (dro : Nat) (dsh : Nat) (dto : Nat) (dmo : Nat) (dwi : Nat) (xlen : Nat) (xlec : Nat) (mtp : Nat) (mywords : Nat) (msk : Nat) (mln : Nat) (mlh : Nat) (mfn : Nat) (mfi : Nat) (mla : Nat) (mpn : Nat) (mbo : Nat) (mdi : Nat) (mdn : Nat) (mdo : Nat) (mdh : Nat) (mnn : Nat) (mnh : Nat) (mkn : Nat) (mpt : Nat) (mot : Nat) (mywait : Nat) (myheld : Nat) (mynames : Nat) (myvalue : Nat) (mun : Nat) (mycan : Nat) (myroot : Nat) (myoff : Nat) (mtn : Nat) (mtc : Nat) (mkh : Nat) (mkt : Nat) (mkc : Nat) (cmsk : ClassId) (cmln : ClassId) (cmlh : ClassId) (cmfn : ClassId) (cmfi : ClassId) (cmla : ClassId) (cmpn : ClassId) (cmbo : ClassId) (cmdi : ClassId) (cmdn : ClassId) (cmdo : ClassId) (cmdh : ClassId) (cmnn : ClassId) (cmnh : ClassId) (cmkn : ClassId) (cmpt : ClassId) (cmot : ClassId) (gmsk : Nat → Int32) (gmln : Nat → Int32) (gmlh : Nat → Int32) (gmfn : Nat → Int32) (gmfi : Nat → Int32) (gmla : Nat → Int32) (gmpn : Nat → Int32) (gmbo : Nat → Int64) (gmdi : Nat → Int64) (gmdn : Nat → Int32) (gmdo : Nat → Int64) (gmdh : Nat → Int32) (gmnn : Nat → Int32) (gmnh : Nat → Int32) (gmkn : Nat → Int32) (gmpt : Nat → Int32) (gmot : Nat → Int32) (x : Nat) (mq : Nat) (o3 : Nat) (hs0 : gmsk 0 = 7) (hs1 : gmsk 1 = 0) (hs2 : gmsk 2 = 59) (hs3 : gmsk 3 = 2) (hs4 : gmsk 4 = 0) (hs5 : gmsk 5 = 1461) (hs6 : gmsk 6 = 4) (H : Heap) (locs : List Loc) (ls : Array Slot) (hK : va_K (dC, dI) vwCl [(scT, .int), (scE, .int), (cmsk, .int), (cmln, .int), (cmlh, .int), (cmfn, .int), (cmfi, .int), (cmla, .int), (cmpn, .int), (cmbo, .long), (cmdi, .long), (cmdn, .int), (cmdo, .long), (cmdh, .int), (cmnn, .int), (cmnh, .int), (cmkn, .int), (cmpt, .int), (cmot, .int)] s) (hP : va_P (dC, dI) vwCl [(x, .inr (11, [.ref xpa, .ref b, .ref xsp, .ref xdy, .ref xle, .ref xst, .int 0, .ref xim, .ref xil, .int 0, .ref xmo, .ref xom, .ref xwi])), (xpa, .inr (7, [.ref plx, .null, .int 0, .int (-1), .int 0, .ref phd, .ref phr, .int 0, .int 0])), (plx, .inr (3, [.ref lby, .int 0, .ref lco, .int 0, .int 0, .int 0, .int 0, .int 0, .int 0])), (xsp, .inr (0, [.ref xspto, .ref xspnm, .ref xspla, .ref xspsk, .ref xspru, .ref xspbo, .ref xspdi, .ref xspda, .ref xspdk, .ref xspdt, .ref xspdp, .ref xspno])), (xspto, .inl (scT, 5, .inl (fun _ => 0))), (xspsk, .inr (9, [.int 7, .int 0, .int 59, .int 2, .int 0, .int 1461, .int 4])), (xspru, .inr (8, [.ref xspruc, .int 0, .ref xsprue, .ref xspruk, .int 0])), (xsprue, .inl (scE, 4, .inl (fun _ => 0))), (xspno, .inr (6, [.int 0, .ref xspnos, .ref xspnof, .ref xspnoz])), (xdy, .inr (5, [.ref dro, .int 0, .ref dsh, .ref dto, .ref dmo, .ref dwi])), (xle, .inr (2, [.int 0, .ref xlen, .ref xlec])), (mq, .inr (12, [.ref mtp, .int 0, .int 0, .ref mywords, .int 0, .int (-1), .int 0, .int 0, .int 0, .int 0, .int 0, .int 0, .int 0, .int 0, .int 0, .int 0, .int 0, .int 0, .int 0, .int 0, .int 0, .int 0, .int 0, .int 0, .ref msk, .int 0, .int 0, .int 0, .ref mln, .ref mlh, .ref mfn, .ref mfi, .ref mla, .ref mpn, .ref mbo, .ref mdi, .ref mdn, .ref mdo, .ref mdh, .ref mnn, .ref mnh, .ref mkn, .ref mpt, .ref mot, .long 0, .ref mywait, .ref myheld, .int 0, .int 0, .int 0, .int 0, .int 0, .int 0, .long 0, .long 0, .ref mynames, .ref myvalue, .int 0, .int 0, .int 0, .ref mun, .ref mycan, .int 0, .int 0, .int 0, .ref myroot, .ref myoff, .int 0, .ref mtn, .ref mtc, .int 0, .int 0, .int 0, .ref mkh, .ref mkt, .ref mkc])), (msk, .inl (cmsk, 14, .inl gmsk)), (mln, .inl (cmln, 8, .inl gmln)), (mlh, .inl (cmlh, 24, .inl gmlh)), (mfn, .inl (cmfn, 8, .inl gmfn)), (mfi, .inl (cmfi, 8, .inl gmfi)), (mla, .inl (cmla, 8, .inl gmla)), (mpn, .inl (cmpn, 12, .inl gmpn)), (mbo, .inl (cmbo, 12, .inr (.inl gmbo))), (mdi, .inl (cmdi, 12, .inr (.inl gmdi))), (mdn, .inl (cmdn, 8, .inl gmdn)), (mdo, .inl (cmdo, 8, .inr (.inl gmdo))), (mdh, .inl (cmdh, 24, .inl gmdh)), (mnn, .inl (cmnn, 12, .inl gmnn)), (mnh, .inl (cmnh, 264, .inl gmnh)), (mkn, .inl (cmkn, 128, .inl gmkn)), (mpt, .inl (cmpt, 128, .inl gmpt)), (mot, .inl (cmot, 128, .inl gmot))] H) (hD : va_D A [(x, .inr (11, [.ref xpa, .ref b, .ref xsp, .ref xdy, .ref xle, .ref xst, .int 0, .ref xim, .ref xil, .int 0, .ref xmo, .ref xom, .ref xwi])), (xpa, .inr (7, [.ref plx, .null, .int 0, .int (-1), .int 0, .ref phd, .ref phr, .int 0, .int 0])), (plx, .inr (3, [.ref lby, .int 0, .ref lco, .int 0, .int 0, .int 0, .int 0, .int 0, .int 0])), (xsp, .inr (0, [.ref xspto, .ref xspnm, .ref xspla, .ref xspsk, .ref xspru, .ref xspbo, .ref xspdi, .ref xspda, .ref xspdk, .ref xspdt, .ref xspdp, .ref xspno])), (xspto, .inl (scT, 5, .inl (fun _ => 0))), (xspsk, .inr (9, [.int 7, .int 0, .int 59, .int 2, .int 0, .int 1461, .int 4])), (xspru, .inr (8, [.ref xspruc, .int 0, .ref xsprue, .ref xspruk, .int 0])), (xsprue, .inl (scE, 4, .inl (fun _ => 0))), (xspno, .inr (6, [.int 0, .ref xspnos, .ref xspnof, .ref xspnoz])), (xdy, .inr (5, [.ref dro, .int 0, .ref dsh, .ref dto, .ref dmo, .ref dwi])), (xle, .inr (2, [.int 0, .ref xlen, .ref xlec])), (mq, .inr (12, [.ref mtp, .int 0, .int 0, .ref mywords, .int 0, .int (-1), .int 0, .int 0, .int 0, .int 0, .int 0, .int 0, .int 0, .int 0, .int 0, .int 0, .int 0, .int 0, .int 0, .int 0, .int 0, .int 0, .int 0, .int 0, .ref msk, .int 0, .int 0, .int 0, .ref mln, .ref mlh, .ref mfn, .ref mfi, .ref mla, .ref mpn, .ref mbo, .ref mdi, .ref mdn, .ref mdo, .ref mdh, .ref mnn, .ref mnh, .ref mkn, .ref mpt, .ref mot, .long 0, .ref mywait, .ref myheld, .int 0, .int 0, .int 0, .int 0, .int 0, .int 0, .long 0, .long 0, .ref mynames, .ref myvalue, .int 0, .int 0, .int 0, .ref mun, .ref mycan, .int 0, .int 0, .int 0, .ref myroot, .ref myoff, .int 0, .ref mtn, .ref mtc, .int 0, .int 0, .int 0, .ref mkh, .ref mkt, .ref mkc])), (msk, .inl (cmsk, 14, .inl gmsk)), (mln, .inl (cmln, 8, .inl gmln)), (mlh, .inl (cmlh, 24, .inl gmlh)), (mfn, .inl (cmfn, 8, .inl gmfn)), (mfi, .inl (cmfi, 8, .inl gmfi)), (mla, .inl (cmla, 8, .inl gmla)), (mpn, .inl (cmpn, 12, .inl gmpn)), (mbo, .inl (cmbo, 12, .inr (.inl gmbo))), (mdi, .inl (cmdi, 12, .inr (.inl gmdi))), (mdn, .inl (cmdn, 8, .inl gmdn)), (mdo, .inl (cmdo, 8, .inr (.inl gmdo))), (mdh, .inl (cmdh, 24, .inl gmdh)), (mnn, .inl (cmnn, 12, .inl gmnn)), (mnh, .inl (cmnh, 264, .inl gmnh)), (mkn, .inl (cmkn, 128, .inl gmkn)), (mpt, .inl (cmpt, 128, .inl gmpt)), (mot, .inl (cmot, 128, .inl gmot))]) (hS : va_S A s.heap H locs) (hl : lv_has ls 7 [(4, .int 0), (3, .ref o3), (2, .ref mq), (1, .ref x), (0, .ref bs)]) : W p l e room_1 s m #[Value.ref bs] below meth c H locs 129 248806 (lw_Z below #[Value.ref bs] s) (F0 m 277 ls []) := by
  obtain ⟨hx, hb, hr, hml, hown, hts, hX, hbl, hlocks, hgv⟩ := id C0
  have htw : ∀ w ∈ wsL_law, w.before _ s = true := fun w h => hts w (wsL_law_in w h)
  have hown : s.vm.findClass RL = some m.cls := hown
  have hA : ∀ q : Nat, s.heap.size ≤ q → A q := fun q h => (hAe q).mpr h
  have hbA : ¬ A bs := fun h => absurd ((hAe bs).mp h) (Nat.not_le.mpr hbl)
  refine lv_aload_n hx hb dL_law_277 rfl (lv_at hl 3 rfl) ?_
  refine lv_aload_n hx hb dL_law_278 rfl (lv_at hl 4 rfl) ?_
  refine lv_iload hx hb dL_law_279 (lv_at hl 0 rfl) ?_
  refine lv_iconst (v := 1) hx hb dL_law_281 (by decide) ?_
  refine lv_iadd hx hb dL_law_282 ?_
  refine lv_topi (fun z_1 ez_1 => ?_)
  obtain rfl : z_1 = 1 := ez_1.trans (by decide)
  refine va_sld hx hb hX hbl hbA hS (by unfold vp_in; decide) dL_law_283 ?_
  refine lv_topi (fun z_2 ez_2 => ?_)
  obtain rfl : z_2 = xs 1 := ez_2
  have hPc := hP.sub (ws' := [(x, .inr (11, [.ref xpa, .ref b, .ref xsp, .ref xdy, .ref xle, .ref xst, .int 0, .ref xim, .ref xil, .int 0, .ref xmo, .ref xom, .ref xwi])), (xpa, .inr (7, [.ref plx, .null, .int 0, .int (-1), .int 0, .ref phd, .ref phr, .int 0, .int 0])), (plx, .inr (3, [.ref lby, .int 0, .ref lco, .int 0, .int 0, .int 0, .int 0, .int 0, .int 0])), (xsp, .inr (0, [.ref xspto, .ref xspnm, .ref xspla, .ref xspsk, .ref xspru, .ref xspbo, .ref xspdi, .ref xspda, .ref xspdk, .ref xspdt, .ref xspdp, .ref xspno])), (xspto, .inl (scT, 5, .inl (fun _ => 0))), (xspsk, .inr (9, [.int 7, .int 0, .int 59, .int 2, .int 0, .int 1461, .int 4])), (xspru, .inr (8, [.ref xspruc, .int 0, .ref xsprue, .ref xspruk, .int 0])), (xsprue, .inl (scE, 4, .inl (fun _ => 0))), (xspno, .inr (6, [.int 0, .ref xspnos, .ref xspnof, .ref xspnoz])), (xdy, .inr (5, [.ref dro, .int 0, .ref dsh, .ref dto, .ref dmo, .ref dwi])), (xle, .inr (2, [.int 0, .ref xlen, .ref xlec]))]) [0, 1, 2, 3, 4, 5, 6, 7, 8, 9, 10] rfl
  have hKc := hK.sub (tys' := [(scT, .int), (scE, .int)]) [0, 1] rfl
  have hDc := hD.sub (ws' := [(x, .inr (11, [.ref xpa, .ref b, .ref xsp, .ref xdy, .ref xle, .ref xst, .int 0, .ref xim, .ref xil, .int 0, .ref xmo, .ref xom, .ref xwi])), (xpa, .inr (7, [.ref plx, .null, .int 0, .int (-1), .int 0, .ref phd, .ref phr, .int 0, .int 0])), (plx, .inr (3, [.ref lby, .int 0, .ref lco, .int 0, .int 0, .int 0, .int 0, .int 0, .int 0])), (xsp, .inr (0, [.ref xspto, .ref xspnm, .ref xspla, .ref xspsk, .ref xspru, .ref xspbo, .ref xspdi, .ref xspda, .ref xspdk, .ref xspdt, .ref xspdp, .ref xspno])), (xspto, .inl (scT, 5, .inl (fun _ => 0))), (xspsk, .inr (9, [.int 7, .int 0, .int 59, .int 2, .int 0, .int 1461, .int 4])), (xspru, .inr (8, [.ref xspruc, .int 0, .ref xsprue, .ref xspruk, .int 0])), (xsprue, .inl (scE, 4, .inl (fun _ => 0))), (xspno, .inr (6, [.int 0, .ref xspnos, .ref xspnof, .ref xspnoz])), (xdy, .inr (5, [.ref dro, .int 0, .ref dsh, .ref dto, .ref dmo, .ref dwi])), (xle, .inr (2, [.int 0, .ref xlen, .ref xlec]))]) [0, 1, 2, 3, 4, 5, 6, 7, 8, 9, 10] (by decide) rfl
  have hFc := va_free (wc := [(x, .inr (11, [.ref xpa, .ref b, .ref xsp, .ref xdy, .ref xle, .ref xst, .int 0, .ref xim, .ref xil, .int 0, .ref xmo, .ref xom, .ref xwi])), (xpa, .inr (7, [.ref plx, .null, .int 0, .int (-1), .int 0, .ref phd, .ref phr, .int 0, .int 0])), (plx, .inr (3, [.ref lby, .int 0, .ref lco, .int 0, .int 0, .int 0, .int 0, .int 0, .int 0])), (xsp, .inr (0, [.ref xspto, .ref xspnm, .ref xspla, .ref xspsk, .ref xspru, .ref xspbo, .ref xspdi, .ref xspda, .ref xspdk, .ref xspdt, .ref xspdp, .ref xspno])), (xspto, .inl (scT, 5, .inl (fun _ => 0))), (xspsk, .inr (9, [.int 7, .int 0, .int 59, .int 2, .int 0, .int 1461, .int 4])), (xspru, .inr (8, [.ref xspruc, .int 0, .ref xsprue, .ref xspruk, .int 0])), (xsprue, .inl (scE, 4, .inl (fun _ => 0))), (xspno, .inr (6, [.int 0, .ref xspnos, .ref xspnof, .ref xspnoz])), (xdy, .inr (5, [.ref dro, .int 0, .ref dsh, .ref dto, .ref dmo, .ref dwi])), (xle, .inr (2, [.int 0, .ref xlen, .ref xlec]))]) hD hS hA [0, 1, 2, 3, 4, 5, 6, 7, 8, 9, 10] rfl
  refine va_calli (va_runV (As := [.int (xs 1)]) (rest := []) ⟨hx, hb, hml, hown, htw⟩ (mx_text l dC dI x xpa xsp xdy xle xst xim xil xmo xom xwi b plx phd phr lby lco xspto xspnm xspla xspsk xspru xspbo xspdi xspda xspdk xspdt xspdp xspno xspruc xsprue xspruk xspnos xspnof xspnoz scT scE (fun _ => 0) (fun _ => 0) dro dsh dto dmo dwi xlen xlec (xs 1) H.size) (cwV 1 htw (xg_V (ck_12 _ (List.mem_of_getElem? (i := 18) rfl)) (ck_12 _ (List.mem_of_getElem? (i := 19) rfl)) (ck_12 _ (List.mem_of_getElem? (i := 20) rfl)) (ck_1 _ (List.mem_of_getElem? (i := 2) rfl)) (ck_12 _ (List.mem_of_getElem? (i := 21) rfl))) rfl rfl rfl (by decide +kernel) ⟨Nat.le_of_ble_eq_true rfl, Nat.le_of_ble_eq_true rfl⟩) ⟨fun a U g mk q => by obtain ⟨q0, q1, qP, qK, qD⟩ := q; exact ⟨q0, q1, qP, va_K.moved (u := U) (U := U.calling g mk a) (Vm.Alike.refl U.vm) qK, qD⟩, va_recv hKc hPc (ci := 11) (q0 := 0) rfl rfl, fun U hU hW => ⟨rfl, by rw [hU], by rw [hU]; exact hPc, va_K.moved hW.alike hKc, hDc.weaken (fun _ _ _ _ => trivial)⟩⟩ rfl rfl hl.1 rfl (lv_room (Nat.le_of_ble_eq_true rfl)) dL_law_284 ⟨Nat.le_of_ble_eq_true rfl, Nat.le_of_ble_eq_true rfl⟩) hS (fun q _ h => hFc q h) hFc (fun r_3 u_4 t H1 locs ht hvm hw hB hz1 hk1 hS => ?_)
  try dsimp only at hw
  have hP1 : va_P (dC, dI) vwCl [] H1 := fun k q h => by simp at h
  have hD1 : va_D (va_A [(x, .inr (11, [.ref xpa, .ref b, .ref xsp, .ref xdy, .ref xle, .ref xst, .int 0, .ref xim, .ref xil, .int 0, .ref xmo, .ref xom, .ref xwi])), (xpa, .inr (7, [.ref plx, .null, .int 0, .int (-1), .int 0, .ref phd, .ref phr, .int 0, .int 0])), (plx, .inr (3, [.ref lby, .int 0, .ref lco, .int 0, .int 0, .int 0, .int 0, .int 0, .int 0])), (xsp, .inr (0, [.ref xspto, .ref xspnm, .ref xspla, .ref xspsk, .ref xspru, .ref xspbo, .ref xspdi, .ref xspda, .ref xspdk, .ref xspdt, .ref xspdp, .ref xspno])), (xspto, .inl (scT, 5, .inl (fun _ => 0))), (xspsk, .inr (9, [.int 7, .int 0, .int 59, .int 2, .int 0, .int 1461, .int 4])), (xspru, .inr (8, [.ref xspruc, .int 0, .ref xsprue, .ref xspruk, .int 0])), (xsprue, .inl (scE, 4, .inl (fun _ => 0))), (xspno, .inr (6, [.int 0, .ref xspnos, .ref xspnof, .ref xspnoz])), (xdy, .inr (5, [.ref dro, .int 0, .ref dsh, .ref dto, .ref dmo, .ref dwi])), (xle, .inr (2, [.int 0, .ref xlen, .ref xlec]))] H.size) [] := ⟨fun i j p q h => by simp at h, fun k q h => by simp at h⟩
  obtain ⟨hP, hD⟩ := va_join (wr := [(mq, .inr (12, [.ref mtp, .int 0, .int 0, .ref mywords, .int 0, .int (-1), .int 0, .int 0, .int 0, .int 0, .int 0, .int 0, .int 0, .int 0, .int 0, .int 0, .int 0, .int 0, .int 0, .int 0, .int 0, .int 0, .int 0, .int 0, .ref msk, .int 0, .int 0, .int 0, .ref mln, .ref mlh, .ref mfn, .ref mfi, .ref mla, .ref mpn, .ref mbo, .ref mdi, .ref mdn, .ref mdo, .ref mdh, .ref mnn, .ref mnh, .ref mkn, .ref mpt, .ref mot, .long 0, .ref mywait, .ref myheld, .int 0, .int 0, .int 0, .int 0, .int 0, .int 0, .long 0, .long 0, .ref mynames, .ref myvalue, .int 0, .int 0, .int 0, .ref mun, .ref mycan, .int 0, .int 0, .int 0, .ref myroot, .ref myoff, .int 0, .ref mtn, .ref mtc, .int 0, .int 0, .int 0, .ref mkh, .ref mkt, .ref mkc])), (msk, .inl (cmsk, 14, .inl gmsk)), (mln, .inl (cmln, 8, .inl gmln)), (mlh, .inl (cmlh, 24, .inl gmlh)), (mfn, .inl (cmfn, 8, .inl gmfn)), (mfi, .inl (cmfi, 8, .inl gmfi)), (mla, .inl (cmla, 8, .inl gmla)), (mpn, .inl (cmpn, 12, .inl gmpn)), (mbo, .inl (cmbo, 12, .inr (.inl gmbo))), (mdi, .inl (cmdi, 12, .inr (.inl gmdi))), (mdn, .inl (cmdn, 8, .inl gmdn)), (mdo, .inl (cmdo, 8, .inr (.inl gmdo))), (mdh, .inl (cmdh, 24, .inl gmdh)), (mnn, .inl (cmnn, 12, .inl gmnn)), (mnh, .inl (cmnh, 264, .inl gmnh)), (mkn, .inl (cmkn, 128, .inl gmkn)), (mpt, .inl (cmpt, 128, .inl gmpt)), (mot, .inl (cmot, 128, .inl gmot))]) (w1 := []) hP hD [0, 1, 2, 3, 4, 5, 6, 7, 8, 9, 10] [11, 12, 13, 14, 15, 16, 17, 18, 19, 20, 21, 22, 23, 24, 25, 26, 27, 28] rfl rfl (by decide) (by decide) hk1 hFc hP1 hD1
  generalize H1 = H at hP hS ⊢
  have hP : va_P (dC, dI) vwCl [(mq, .inr (12, [.ref mtp, .int 0, .int 0, .ref mywords, .int 0, .int (-1), .int 0, .int 0, .int 0, .int 0, .int 0, .int 0, .int 0, .int 0, .int 0, .int 0, .int 0, .int 0, .int 0, .int 0, .int 0, .int 0, .int 0, .int 0, .ref msk, .int 0, .int 0, .int 0, .ref mln, .ref mlh, .ref mfn, .ref mfi, .ref mla, .ref mpn, .ref mbo, .ref mdi, .ref mdn, .ref mdo, .ref mdh, .ref mnn, .ref mnh, .ref mkn, .ref mpt, .ref mot, .long 0, .ref mywait, .ref myheld, .int 0, .int 0, .int 0, .int 0, .int 0, .int 0, .long 0, .long 0, .ref mynames, .ref myvalue, .int 0, .int 0, .int 0, .ref mun, .ref mycan, .int 0, .int 0, .int 0, .ref myroot, .ref myoff, .int 0, .ref mtn, .ref mtc, .int 0, .int 0, .int 0, .ref mkh, .ref mkt, .ref mkc])), (msk, .inl (cmsk, 14, .inl gmsk)), (mln, .inl (cmln, 8, .inl gmln)), (mlh, .inl (cmlh, 24, .inl gmlh)), (mfn, .inl (cmfn, 8, .inl gmfn)), (mfi, .inl (cmfi, 8, .inl gmfi)), (mla, .inl (cmla, 8, .inl gmla)), (mpn, .inl (cmpn, 12, .inl gmpn)), (mbo, .inl (cmbo, 12, .inr (.inl gmbo))), (mdi, .inl (cmdi, 12, .inr (.inl gmdi))), (mdn, .inl (cmdn, 8, .inl gmdn)), (mdo, .inl (cmdo, 8, .inr (.inl gmdo))), (mdh, .inl (cmdh, 24, .inl gmdh)), (mnn, .inl (cmnn, 12, .inl gmnn)), (mnh, .inl (cmnh, 264, .inl gmnh)), (mkn, .inl (cmkn, 128, .inl gmkn)), (mpt, .inl (cmpt, 128, .inl gmpt)), (mot, .inl (cmot, 128, .inl gmot))] H := hP
  have hD : va_D A [(mq, .inr (12, [.ref mtp, .int 0, .int 0, .ref mywords, .int 0, .int (-1), .int 0, .int 0, .int 0, .int 0, .int 0, .int 0, .int 0, .int 0, .int 0, .int 0, .int 0, .int 0, .int 0, .int 0, .int 0, .int 0, .int 0, .int 0, .ref msk, .int 0, .int 0, .int 0, .ref mln, .ref mlh, .ref mfn, .ref mfi, .ref mla, .ref mpn, .ref mbo, .ref mdi, .ref mdn, .ref mdo, .ref mdh, .ref mnn, .ref mnh, .ref mkn, .ref mpt, .ref mot, .long 0, .ref mywait, .ref myheld, .int 0, .int 0, .int 0, .int 0, .int 0, .int 0, .long 0, .long 0, .ref mynames, .ref myvalue, .int 0, .int 0, .int 0, .ref mun, .ref mycan, .int 0, .int 0, .int 0, .ref myroot, .ref myoff, .int 0, .ref mtn, .ref mtc, .int 0, .int 0, .int 0, .ref mkh, .ref mkt, .ref mkc])), (msk, .inl (cmsk, 14, .inl gmsk)), (mln, .inl (cmln, 8, .inl gmln)), (mlh, .inl (cmlh, 24, .inl gmlh)), (mfn, .inl (cmfn, 8, .inl gmfn)), (mfi, .inl (cmfi, 8, .inl gmfi)), (mla, .inl (cmla, 8, .inl gmla)), (mpn, .inl (cmpn, 12, .inl gmpn)), (mbo, .inl (cmbo, 12, .inr (.inl gmbo))), (mdi, .inl (cmdi, 12, .inr (.inl gmdi))), (mdn, .inl (cmdn, 8, .inl gmdn)), (mdo, .inl (cmdo, 8, .inr (.inl gmdo))), (mdh, .inl (cmdh, 24, .inl gmdh)), (mnn, .inl (cmnn, 12, .inl gmnn)), (mnh, .inl (cmnh, 264, .inl gmnh)), (mkn, .inl (cmkn, 128, .inl gmkn)), (mpt, .inl (cmpt, 128, .inl gmpt)), (mot, .inl (cmot, 128, .inl gmot))] := hD
  refine W.widen (k := 129) (n := 248806) (by omega) (by omega) ?_
  obtain rfl : r_3 = xr_text (xs 1) := hw
  refine lv_aload_n hx hb dL_law_287 rfl (lv_at hl 2 rfl) ?_
  refine lv_aload_n hx hb dL_law_288 rfl (lv_at hl 4 rfl) ?_
  refine lv_iload hx hb dL_law_289 (lv_at hl 0 rfl) ?_
  refine lv_iconst (v := 1) hx hb dL_law_291 (by decide) ?_
  refine lv_iadd hx hb dL_law_292 ?_
  refine lv_topi (fun z_5 ez_5 => ?_)
  obtain rfl : z_5 = 1 := ez_5.trans (by decide)
  refine va_sld hx hb hX hbl hbA hS (by unfold vp_in; decide) dL_law_293 ?_
  refine lv_topi (fun z_6 ez_6 => ?_)
  obtain rfl : z_6 = xs 1 := ez_6
  have hPc := hP.sub (ws' := [(mq, .inr (12, [.ref mtp, .int 0, .int 0, .ref mywords, .int 0, .int (-1), .int 0, .int 0, .int 0, .int 0, .int 0, .int 0, .int 0, .int 0, .int 0, .int 0, .int 0, .int 0, .int 0, .int 0, .int 0, .int 0, .int 0, .int 0, .ref msk, .int 0, .int 0, .int 0, .ref mln, .ref mlh, .ref mfn, .ref mfi, .ref mla, .ref mpn, .ref mbo, .ref mdi, .ref mdn, .ref mdo, .ref mdh, .ref mnn, .ref mnh, .ref mkn, .ref mpt, .ref mot, .long 0, .ref mywait, .ref myheld, .int 0, .int 0, .int 0, .int 0, .int 0, .int 0, .long 0, .long 0, .ref mynames, .ref myvalue, .int 0, .int 0, .int 0, .ref mun, .ref mycan, .int 0, .int 0, .int 0, .ref myroot, .ref myoff, .int 0, .ref mtn, .ref mtc, .int 0, .int 0, .int 0, .ref mkh, .ref mkt, .ref mkc])), (msk, .inl (cmsk, 14, .inl gmsk)), (mln, .inl (cmln, 8, .inl gmln)), (mlh, .inl (cmlh, 24, .inl gmlh)), (mfn, .inl (cmfn, 8, .inl gmfn)), (mfi, .inl (cmfi, 8, .inl gmfi)), (mla, .inl (cmla, 8, .inl gmla)), (mpn, .inl (cmpn, 12, .inl gmpn)), (mbo, .inl (cmbo, 12, .inr (.inl gmbo))), (mdi, .inl (cmdi, 12, .inr (.inl gmdi))), (mdn, .inl (cmdn, 8, .inl gmdn)), (mdo, .inl (cmdo, 8, .inr (.inl gmdo))), (mdh, .inl (cmdh, 24, .inl gmdh)), (mnn, .inl (cmnn, 12, .inl gmnn)), (mnh, .inl (cmnh, 264, .inl gmnh)), (mkn, .inl (cmkn, 128, .inl gmkn)), (mpt, .inl (cmpt, 128, .inl gmpt)), (mot, .inl (cmot, 128, .inl gmot))]) [0, 1, 2, 3, 4, 5, 6, 7, 8, 9, 10, 11, 12, 13, 14, 15, 16, 17] rfl
  have hKc := hK.sub (tys' := [(cmsk, .int), (cmln, .int), (cmlh, .int), (cmfn, .int), (cmfi, .int), (cmla, .int), (cmpn, .int), (cmbo, .long), (cmdi, .long), (cmdn, .int), (cmdo, .long), (cmdh, .int), (cmnn, .int), (cmnh, .int), (cmkn, .int), (cmpt, .int), (cmot, .int)]) [2, 3, 4, 5, 6, 7, 8, 9, 10, 11, 12, 13, 14, 15, 16, 17, 18] rfl
  have hDc := hD.sub (ws' := [(mq, .inr (12, [.ref mtp, .int 0, .int 0, .ref mywords, .int 0, .int (-1), .int 0, .int 0, .int 0, .int 0, .int 0, .int 0, .int 0, .int 0, .int 0, .int 0, .int 0, .int 0, .int 0, .int 0, .int 0, .int 0, .int 0, .int 0, .ref msk, .int 0, .int 0, .int 0, .ref mln, .ref mlh, .ref mfn, .ref mfi, .ref mla, .ref mpn, .ref mbo, .ref mdi, .ref mdn, .ref mdo, .ref mdh, .ref mnn, .ref mnh, .ref mkn, .ref mpt, .ref mot, .long 0, .ref mywait, .ref myheld, .int 0, .int 0, .int 0, .int 0, .int 0, .int 0, .long 0, .long 0, .ref mynames, .ref myvalue, .int 0, .int 0, .int 0, .ref mun, .ref mycan, .int 0, .int 0, .int 0, .ref myroot, .ref myoff, .int 0, .ref mtn, .ref mtc, .int 0, .int 0, .int 0, .ref mkh, .ref mkt, .ref mkc])), (msk, .inl (cmsk, 14, .inl gmsk)), (mln, .inl (cmln, 8, .inl gmln)), (mlh, .inl (cmlh, 24, .inl gmlh)), (mfn, .inl (cmfn, 8, .inl gmfn)), (mfi, .inl (cmfi, 8, .inl gmfi)), (mla, .inl (cmla, 8, .inl gmla)), (mpn, .inl (cmpn, 12, .inl gmpn)), (mbo, .inl (cmbo, 12, .inr (.inl gmbo))), (mdi, .inl (cmdi, 12, .inr (.inl gmdi))), (mdn, .inl (cmdn, 8, .inl gmdn)), (mdo, .inl (cmdo, 8, .inr (.inl gmdo))), (mdh, .inl (cmdh, 24, .inl gmdh)), (mnn, .inl (cmnn, 12, .inl gmnn)), (mnh, .inl (cmnh, 264, .inl gmnh)), (mkn, .inl (cmkn, 128, .inl gmkn)), (mpt, .inl (cmpt, 128, .inl gmpt)), (mot, .inl (cmot, 128, .inl gmot))]) [0, 1, 2, 3, 4, 5, 6, 7, 8, 9, 10, 11, 12, 13, 14, 15, 16, 17] (by decide) rfl
  have hFc := va_free (wc := [(mq, .inr (12, [.ref mtp, .int 0, .int 0, .ref mywords, .int 0, .int (-1), .int 0, .int 0, .int 0, .int 0, .int 0, .int 0, .int 0, .int 0, .int 0, .int 0, .int 0, .int 0, .int 0, .int 0, .int 0, .int 0, .int 0, .int 0, .ref msk, .int 0, .int 0, .int 0, .ref mln, .ref mlh, .ref mfn, .ref mfi, .ref mla, .ref mpn, .ref mbo, .ref mdi, .ref mdn, .ref mdo, .ref mdh, .ref mnn, .ref mnh, .ref mkn, .ref mpt, .ref mot, .long 0, .ref mywait, .ref myheld, .int 0, .int 0, .int 0, .int 0, .int 0, .int 0, .long 0, .long 0, .ref mynames, .ref myvalue, .int 0, .int 0, .int 0, .ref mun, .ref mycan, .int 0, .int 0, .int 0, .ref myroot, .ref myoff, .int 0, .ref mtn, .ref mtc, .int 0, .int 0, .int 0, .ref mkh, .ref mkt, .ref mkc])), (msk, .inl (cmsk, 14, .inl gmsk)), (mln, .inl (cmln, 8, .inl gmln)), (mlh, .inl (cmlh, 24, .inl gmlh)), (mfn, .inl (cmfn, 8, .inl gmfn)), (mfi, .inl (cmfi, 8, .inl gmfi)), (mla, .inl (cmla, 8, .inl gmla)), (mpn, .inl (cmpn, 12, .inl gmpn)), (mbo, .inl (cmbo, 12, .inr (.inl gmbo))), (mdi, .inl (cmdi, 12, .inr (.inl gmdi))), (mdn, .inl (cmdn, 8, .inl gmdn)), (mdo, .inl (cmdo, 8, .inr (.inl gmdo))), (mdh, .inl (cmdh, 24, .inl gmdh)), (mnn, .inl (cmnn, 12, .inl gmnn)), (mnh, .inl (cmnh, 264, .inl gmnh)), (mkn, .inl (cmkn, 128, .inl gmkn)), (mpt, .inl (cmpt, 128, .inl gmpt)), (mot, .inl (cmot, 128, .inl gmot))]) hD hS hA [0, 1, 2, 3, 4, 5, 6, 7, 8, 9, 10, 11, 12, 13, 14, 15, 16, 17] rfl
  refine va_calli (va_runV (As := [.int (xs 1)]) (rest := [.int (xr_text (xs 1))]) ⟨hx, hb, hml, hown, htw⟩ (mm_text l dC dI mq ([.ref mtp, .int 0, .int 0, .ref mywords, .int 0, .int (-1), .int 0, .int 0, .int 0, .int 0, .int 0, .int 0, .int 0, .int 0, .int 0, .int 0, .int 0, .int 0, .int 0, .int 0, .int 0, .int 0, .int 0, .int 0, .ref msk, .int 0, .int 0, .int 0, .ref mln, .ref mlh, .ref mfn, .ref mfi, .ref mla, .ref mpn, .ref mbo, .ref mdi, .ref mdn, .ref mdo, .ref mdh, .ref mnn, .ref mnh, .ref mkn, .ref mpt, .ref mot, .long 0, .ref mywait, .ref myheld, .int 0, .int 0, .int 0, .int 0, .int 0, .int 0, .long 0, .long 0, .ref mynames, .ref myvalue, .int 0, .int 0, .int 0, .ref mun, .ref mycan, .int 0, .int 0, .int 0, .ref myroot, .ref myoff, .int 0, .ref mtn, .ref mtc, .int 0, .int 0, .int 0, .ref mkh, .ref mkt, .ref mkc]) msk mln mlh mfn mfi mla mpn mbo mdi mdn mdo mdh mnn mnh mkn mpt mot cmsk cmln cmlh cmfn cmfi cmla cmpn cmbo cmdi cmdn cmdo cmdh cmnn cmnh cmkn cmpt cmot gmsk gmln gmlh gmfn gmfi gmla gmpn gmbo gmdi gmdn gmdo gmdh gmnn gmnh gmkn gmpt gmot (xs 1) H.size rfl rfl rfl rfl rfl rfl rfl rfl rfl rfl rfl rfl rfl rfl rfl rfl rfl rfl rfl) (cwV 1 htw (xg_V (ck_24 _ (List.mem_of_getElem? (i := 6) rfl)) (ck_24 _ (List.mem_of_getElem? (i := 7) rfl)) (ck_24 _ (List.mem_of_getElem? (i := 8) rfl)) (ck_1 _ (List.mem_of_getElem? (i := 5) rfl)) (ck_24 _ (List.mem_of_getElem? (i := 9) rfl))) rfl rfl rfl (by decide +kernel) ⟨Nat.le_of_ble_eq_true rfl, Nat.le_of_ble_eq_true rfl⟩) ⟨fun a U g mk q => by obtain ⟨q0, q1, qP, qK, qD⟩ := q; exact ⟨q0, q1, qP, va_K.moved (u := U) (U := U.calling g mk a) (Vm.Alike.refl U.vm) qK, qD⟩, va_recv hKc hPc (ci := 12) (q0 := 0) rfl rfl, fun U hU hW => ⟨rfl, by rw [hU], by rw [hU]; exact hPc, va_K.moved hW.alike hKc, hDc.weaken (fun _ _ _ _ => trivial)⟩⟩ rfl rfl hl.1 rfl (lv_room (Nat.le_of_ble_eq_true rfl)) dL_law_294 ⟨Nat.le_of_ble_eq_true rfl, Nat.le_of_ble_eq_true rfl⟩) hS (fun q _ h => hFc q h) hFc (fun r_7 u_8 t H1 locs ht hvm hw hB hz1 hk1 hS => ?_)
  try dsimp only at hw
  have hP1 : va_P (dC, dI) vwCl [] H1 := fun k q h => by simp at h
  have hD1 : va_D (va_A [(mq, .inr (12, [.ref mtp, .int 0, .int 0, .ref mywords, .int 0, .int (-1), .int 0, .int 0, .int 0, .int 0, .int 0, .int 0, .int 0, .int 0, .int 0, .int 0, .int 0, .int 0, .int 0, .int 0, .int 0, .int 0, .int 0, .int 0, .ref msk, .int 0, .int 0, .int 0, .ref mln, .ref mlh, .ref mfn, .ref mfi, .ref mla, .ref mpn, .ref mbo, .ref mdi, .ref mdn, .ref mdo, .ref mdh, .ref mnn, .ref mnh, .ref mkn, .ref mpt, .ref mot, .long 0, .ref mywait, .ref myheld, .int 0, .int 0, .int 0, .int 0, .int 0, .int 0, .long 0, .long 0, .ref mynames, .ref myvalue, .int 0, .int 0, .int 0, .ref mun, .ref mycan, .int 0, .int 0, .int 0, .ref myroot, .ref myoff, .int 0, .ref mtn, .ref mtc, .int 0, .int 0, .int 0, .ref mkh, .ref mkt, .ref mkc])), (msk, .inl (cmsk, 14, .inl gmsk)), (mln, .inl (cmln, 8, .inl gmln)), (mlh, .inl (cmlh, 24, .inl gmlh)), (mfn, .inl (cmfn, 8, .inl gmfn)), (mfi, .inl (cmfi, 8, .inl gmfi)), (mla, .inl (cmla, 8, .inl gmla)), (mpn, .inl (cmpn, 12, .inl gmpn)), (mbo, .inl (cmbo, 12, .inr (.inl gmbo))), (mdi, .inl (cmdi, 12, .inr (.inl gmdi))), (mdn, .inl (cmdn, 8, .inl gmdn)), (mdo, .inl (cmdo, 8, .inr (.inl gmdo))), (mdh, .inl (cmdh, 24, .inl gmdh)), (mnn, .inl (cmnn, 12, .inl gmnn)), (mnh, .inl (cmnh, 264, .inl gmnh)), (mkn, .inl (cmkn, 128, .inl gmkn)), (mpt, .inl (cmpt, 128, .inl gmpt)), (mot, .inl (cmot, 128, .inl gmot))] H.size) [] := ⟨fun i j p q h => by simp at h, fun k q h => by simp at h⟩
  obtain ⟨hP, hD⟩ := va_join (wr := []) (w1 := []) hP hD [0, 1, 2, 3, 4, 5, 6, 7, 8, 9, 10, 11, 12, 13, 14, 15, 16, 17] [] rfl rfl (by decide) (by decide) hk1 hFc hP1 hD1
  generalize H1 = H at hP hS ⊢
  have hP : va_P (dC, dI) vwCl [] H := hP
  have hD : va_D A [] := hD
  refine W.widen (k := 129) (n := 248806) (by omega) (by omega) ?_
  obtain rfl : r_7 = xr_text (xs 1) := hw
  refine lv_icmp_eq (tgt := 2053) hx hb dL_law_297 (by decide) (fun c_9 => ?_) (fun c_9 => absurd c_9 (fun h => h rfl))
  refine lv_iinc (v := 6) (lv' := [(4, .int 6), (3, .ref o3), (2, .ref mq), (1, .ref x), (0, .ref bs)]) hx hb dL_law_2053 hl (k := 0) rfl (by decide) (by decide) rfl (fun ls hl => ?_)
  refine lv_goto (tgt := 23) hx hb dL_law_2056 (by decide) ?_
  refine lv_iload hx hb dL_law_23 (lv_at hl 0 rfl) ?_
  refine lv_aload_n hx hb dL_law_25 rfl (lv_at hl 4 rfl) ?_
  refine va_slen hx hb hX hbl hbA hS dL_law_26 ?_
  refine lv_topi (fun z_10 ez_10 => ?_)
  obtain rfl : z_10 = 6 := ez_10.trans (by decide)
  refine lv_bipush (v := 6) hx hb dL_law_27 (by decide) ?_
  refine lv_isub hx hb dL_law_29 ?_
  refine lv_topi (fun z_11 ez_11 => ?_)
  obtain rfl : z_11 = 0 := ez_11.trans (by decide)
  refine lv_icmp_gt (tgt := 2059) hx hb dL_law_30 (by decide) (fun _ => ?_) (fun c => absurd c (by decide))
  refine lv_iconst (v := 1) hx hb dL_law_2059 (by decide) ?_
  refine va_forget (fun q hq => (hAe _).mp (hS.2.2 q hq)) ?_
  refine W.widen (k := 600002) (n := 7302232) (by omega) (by omega) ?_
  exact lw_ret hx hb hr hlocks dL_law_2060

theorem dL_law_302 : decode cL_law 302 = .ok (.aload_n 1, 1) := by decide +kernel
theorem dL_law_303 : decode cL_law 303 = .ok (.aload_n 0, 1) := by decide +kernel
theorem dL_law_304 : decode cL_law 304 = .ok (.iload 4, 2) := by decide +kernel
theorem dL_law_306 : decode cL_law 306 = .ok (.iconst 1, 1) := by decide +kernel
theorem dL_law_307 : decode cL_law 307 = .ok (.iadd, 1) := by decide +kernel
theorem dL_law_308 : decode cL_law 308 = .ok (.iaload, 1) := by decide +kernel
theorem dL_law_309 : decode cL_law 309 = .ok (.invokevirtual 31, 3) := by decide +kernel
theorem dL_law_312 : decode cL_law 312 = .ok (.aload_n 2, 1) := by decide +kernel
theorem dL_law_313 : decode cL_law 313 = .ok (.aload_n 0, 1) := by decide +kernel
theorem dL_law_314 : decode cL_law 314 = .ok (.iload 4, 2) := by decide +kernel
theorem dL_law_316 : decode cL_law 316 = .ok (.iconst 1, 1) := by decide +kernel
theorem dL_law_317 : decode cL_law 317 = .ok (.iadd, 1) := by decide +kernel
theorem dL_law_318 : decode cL_law 318 = .ok (.iaload, 1) := by decide +kernel
theorem dL_law_319 : decode cL_law 319 = .ok (.invokevirtual 34, 3) := by decide +kernel
theorem dL_law_322 : decode cL_law 322 = .ok (.if_icmp .eq 1731, 3) := by decide +kernel
set_option maxHeartbeats 4000000 in
set_option maxRecDepth 100000 in
theorem law_fault (l : Launch) (hst : l.stackTraces = false) {p : Program} {e : Env} {s : State} {m : MethodId} {below : List Frame} {meth : Method} {c : Code} {bs : Nat} {xs : Nat → Int32} (C0 : lw_At p s m meth c bs 6 xs) (dC : Nat → ClassId) (dI : Nat → Nat → Nat) (A : Nat → Prop) (hAe : ∀ q, A q ↔ s.heap.size ≤ q) (xpa : Nat) (b : Nat) (xsp : Nat) (xdy : Nat) (xle : Nat) (xst : Nat) (xim : Nat) (xil : Nat) (xmo : Nat) (xom : Nat) (xwi : Nat) (plx : Nat) (phd : Nat) (phr : Nat) (mtp : Nat) (mywords : Nat) (msk : Nat) (mln : Nat) (mlh : Nat) (mfn : Nat) (mfi : Nat) (mla : Nat) (mpn : Nat) (mbo : Nat) (mdi : Nat) (mdn : Nat) (mdo : Nat) (mdh : Nat) (mnn : Nat) (mnh : Nat) (mkn : Nat) (mpt : Nat) (mot : Nat) (mywait : Nat) (myheld : Nat) (mynames : Nat) (myvalue : Nat) (mun : Nat) (mycan : Nat) (myroot : Nat) (myoff : Nat) (mtn : Nat) (mtc : Nat) (mkh : Nat) (mkt : Nat) (mkc : Nat) (x : Nat) (mq : Nat) (o3 : Nat)  (H : Heap) (locs : List Loc) (ls : Array Slot) (hK : va_K (dC, dI) vwCl [] s) (hP : va_P (dC, dI) vwCl [(x, .inr (11, [.ref xpa, .ref b, .ref xsp, .ref xdy, .ref xle, .ref xst, .int 0, .ref xim, .ref xil, .int 0, .ref xmo, .ref xom, .ref xwi])), (xpa, .inr (7, [.ref plx, .null, .int 0, .int (-1), .int 0, .ref phd, .ref phr, .int 0, .int 0])), (mq, .inr (12, [.ref mtp, .int 0, .int 0, .ref mywords, .int 0, .int (-1), .int 0, .int 0, .int 0, .int 0, .int 0, .int 0, .int 0, .int 0, .int 0, .int 0, .int 0, .int 0, .int 0, .int 0, .int 0, .int 0, .int 0, .int 0, .ref msk, .int 0, .int 0, .int 0, .ref mln, .ref mlh, .ref mfn, .ref mfi, .ref mla, .ref mpn, .ref mbo, .ref mdi, .ref mdn, .ref mdo, .ref mdh, .ref mnn, .ref mnh, .ref mkn, .ref mpt, .ref mot, .long 0, .ref mywait, .ref myheld, .int 0, .int 0, .int 0, .int 0, .int 0, .int 0, .long 0, .long 0, .ref mynames, .ref myvalue, .int 0, .int 0, .int 0, .ref mun, .ref mycan, .int 0, .int 0, .int 0, .ref myroot, .ref myoff, .int 0, .ref mtn, .ref mtc, .int 0, .int 0, .int 0, .ref mkh, .ref mkt, .ref mkc]))] H) (hD : va_D A [(x, .inr (11, [.ref xpa, .ref b, .ref xsp, .ref xdy, .ref xle, .ref xst, .int 0, .ref xim, .ref xil, .int 0, .ref xmo, .ref xom, .ref xwi])), (xpa, .inr (7, [.ref plx, .null, .int 0, .int (-1), .int 0, .ref phd, .ref phr, .int 0, .int 0])), (mq, .inr (12, [.ref mtp, .int 0, .int 0, .ref mywords, .int 0, .int (-1), .int 0, .int 0, .int 0, .int 0, .int 0, .int 0, .int 0, .int 0, .int 0, .int 0, .int 0, .int 0, .int 0, .int 0, .int 0, .int 0, .int 0, .int 0, .ref msk, .int 0, .int 0, .int 0, .ref mln, .ref mlh, .ref mfn, .ref mfi, .ref mla, .ref mpn, .ref mbo, .ref mdi, .ref mdn, .ref mdo, .ref mdh, .ref mnn, .ref mnh, .ref mkn, .ref mpt, .ref mot, .long 0, .ref mywait, .ref myheld, .int 0, .int 0, .int 0, .int 0, .int 0, .int 0, .long 0, .long 0, .ref mynames, .ref myvalue, .int 0, .int 0, .int 0, .ref mun, .ref mycan, .int 0, .int 0, .int 0, .ref myroot, .ref myoff, .int 0, .ref mtn, .ref mtc, .int 0, .int 0, .int 0, .ref mkh, .ref mkt, .ref mkc]))]) (hS : va_S A s.heap H locs) (hl : lv_has ls 7 [(4, .int 0), (3, .ref o3), (2, .ref mq), (1, .ref x), (0, .ref bs)]) : W p l e room_1 s m #[Value.ref bs] below meth c H locs 129 248806 (lw_Z below #[Value.ref bs] s) (F0 m 302 ls []) := by
  obtain ⟨hx, hb, hr, hml, hown, hts, hX, hbl, hlocks, hgv⟩ := id C0
  have htw : ∀ w ∈ wsL_law, w.before _ s = true := fun w h => hts w (wsL_law_in w h)
  have hown : s.vm.findClass RL = some m.cls := hown
  have hA : ∀ q : Nat, s.heap.size ≤ q → A q := fun q h => (hAe q).mpr h
  have hbA : ¬ A bs := fun h => absurd ((hAe bs).mp h) (Nat.not_le.mpr hbl)
  refine lv_aload_n hx hb dL_law_302 rfl (lv_at hl 3 rfl) ?_
  refine lv_aload_n hx hb dL_law_303 rfl (lv_at hl 4 rfl) ?_
  refine lv_iload hx hb dL_law_304 (lv_at hl 0 rfl) ?_
  refine lv_iconst (v := 1) hx hb dL_law_306 (by decide) ?_
  refine lv_iadd hx hb dL_law_307 ?_
  refine lv_topi (fun z_1 ez_1 => ?_)
  obtain rfl : z_1 = 1 := ez_1.trans (by decide)
  refine va_sld hx hb hX hbl hbA hS (by unfold vp_in; decide) dL_law_308 ?_
  refine lv_topi (fun z_2 ez_2 => ?_)
  obtain rfl : z_2 = xs 1 := ez_2
  have hPc := hP.sub (ws' := [(x, .inr (11, [.ref xpa, .ref b, .ref xsp, .ref xdy, .ref xle, .ref xst, .int 0, .ref xim, .ref xil, .int 0, .ref xmo, .ref xom, .ref xwi])), (xpa, .inr (7, [.ref plx, .null, .int 0, .int (-1), .int 0, .ref phd, .ref phr, .int 0, .int 0]))]) [0, 1] rfl
  have hKc := hK.sub (tys' := []) [] rfl
  refine vp_callSi (W.runV (As := [.int (xs 1)]) (rest := []) ⟨hx, hb, hml, hown, htw⟩ (mx_fault l dC dI x xpa xsp xdy xle xst xim xil xmo xom xwi b plx phd phr (xs 1)) (cwV 1 htw (xg_V (ck_32 _ (List.mem_of_getElem? (i := 9) rfl)) (ck_32 _ (List.mem_of_getElem? (i := 10) rfl)) (ck_32 _ (List.mem_of_getElem? (i := 11) rfl)) (ck_1 _ (List.mem_of_getElem? (i := 2) rfl)) (ck_32 _ (List.mem_of_getElem? (i := 12) rfl))) rfl rfl rfl (by decide +kernel) ⟨Nat.le_of_ble_eq_true rfl, Nat.le_of_ble_eq_true rfl⟩) ⟨fun a U g mk q => by obtain ⟨q0, qP, qK⟩ := q; exact ⟨q0, qP, va_K.moved (u := U) (U := U.calling g mk a) (Vm.Alike.refl U.vm) qK⟩, va_recv hKc hPc (ci := 11) (q0 := 0) rfl rfl, fun U hU hW => ⟨rfl, by rw [hU]; exact hPc, va_K.moved hW.alike hKc⟩⟩ rfl rfl hl.1 rfl (lv_room (Nat.le_of_ble_eq_true rfl)) dL_law_309 ⟨Nat.le_of_ble_eq_true rfl, Nat.le_of_ble_eq_true rfl⟩) (fun r_3 hw => ?_)
  try dsimp only at hw
  obtain rfl : r_3 = xr_fault (xs 1) := hw
  refine lv_aload_n hx hb dL_law_312 rfl (lv_at hl 2 rfl) ?_
  refine lv_aload_n hx hb dL_law_313 rfl (lv_at hl 4 rfl) ?_
  refine lv_iload hx hb dL_law_314 (lv_at hl 0 rfl) ?_
  refine lv_iconst (v := 1) hx hb dL_law_316 (by decide) ?_
  refine lv_iadd hx hb dL_law_317 ?_
  refine lv_topi (fun z_4 ez_4 => ?_)
  obtain rfl : z_4 = 1 := ez_4.trans (by decide)
  refine va_sld hx hb hX hbl hbA hS (by unfold vp_in; decide) dL_law_318 ?_
  refine lv_topi (fun z_5 ez_5 => ?_)
  obtain rfl : z_5 = xs 1 := ez_5
  have hPc := hP.sub (ws' := [(mq, .inr (12, [.ref mtp, .int 0, .int 0, .ref mywords, .int 0, .int (-1), .int 0, .int 0, .int 0, .int 0, .int 0, .int 0, .int 0, .int 0, .int 0, .int 0, .int 0, .int 0, .int 0, .int 0, .int 0, .int 0, .int 0, .int 0, .ref msk, .int 0, .int 0, .int 0, .ref mln, .ref mlh, .ref mfn, .ref mfi, .ref mla, .ref mpn, .ref mbo, .ref mdi, .ref mdn, .ref mdo, .ref mdh, .ref mnn, .ref mnh, .ref mkn, .ref mpt, .ref mot, .long 0, .ref mywait, .ref myheld, .int 0, .int 0, .int 0, .int 0, .int 0, .int 0, .long 0, .long 0, .ref mynames, .ref myvalue, .int 0, .int 0, .int 0, .ref mun, .ref mycan, .int 0, .int 0, .int 0, .ref myroot, .ref myoff, .int 0, .ref mtn, .ref mtc, .int 0, .int 0, .int 0, .ref mkh, .ref mkt, .ref mkc]))]) [2] rfl
  have hKc := hK.sub (tys' := []) [] rfl
  have hDc := hD.sub (ws' := [(mq, .inr (12, [.ref mtp, .int 0, .int 0, .ref mywords, .int 0, .int (-1), .int 0, .int 0, .int 0, .int 0, .int 0, .int 0, .int 0, .int 0, .int 0, .int 0, .int 0, .int 0, .int 0, .int 0, .int 0, .int 0, .int 0, .int 0, .ref msk, .int 0, .int 0, .int 0, .ref mln, .ref mlh, .ref mfn, .ref mfi, .ref mla, .ref mpn, .ref mbo, .ref mdi, .ref mdn, .ref mdo, .ref mdh, .ref mnn, .ref mnh, .ref mkn, .ref mpt, .ref mot, .long 0, .ref mywait, .ref myheld, .int 0, .int 0, .int 0, .int 0, .int 0, .int 0, .long 0, .long 0, .ref mynames, .ref myvalue, .int 0, .int 0, .int 0, .ref mun, .ref mycan, .int 0, .int 0, .int 0, .ref myroot, .ref myoff, .int 0, .ref mtn, .ref mtc, .int 0, .int 0, .int 0, .ref mkh, .ref mkt, .ref mkc]))]) [2] (by decide) rfl
  have hFc := va_free (wc := [(mq, .inr (12, [.ref mtp, .int 0, .int 0, .ref mywords, .int 0, .int (-1), .int 0, .int 0, .int 0, .int 0, .int 0, .int 0, .int 0, .int 0, .int 0, .int 0, .int 0, .int 0, .int 0, .int 0, .int 0, .int 0, .int 0, .int 0, .ref msk, .int 0, .int 0, .int 0, .ref mln, .ref mlh, .ref mfn, .ref mfi, .ref mla, .ref mpn, .ref mbo, .ref mdi, .ref mdn, .ref mdo, .ref mdh, .ref mnn, .ref mnh, .ref mkn, .ref mpt, .ref mot, .long 0, .ref mywait, .ref myheld, .int 0, .int 0, .int 0, .int 0, .int 0, .int 0, .long 0, .long 0, .ref mynames, .ref myvalue, .int 0, .int 0, .int 0, .ref mun, .ref mycan, .int 0, .int 0, .int 0, .ref myroot, .ref myoff, .int 0, .ref mtn, .ref mtc, .int 0, .int 0, .int 0, .ref mkh, .ref mkt, .ref mkc]))]) hD hS hA [2] rfl
  refine va_calli (va_runV (As := [.int (xs 1)]) (rest := [.int (xr_fault (xs 1))]) ⟨hx, hb, hml, hown, htw⟩ (mm_fault l dC dI mq ([.ref mtp, .int 0, .int 0, .ref mywords, .int 0, .int (-1), .int 0, .int 0, .int 0, .int 0, .int 0, .int 0, .int 0, .int 0, .int 0, .int 0, .int 0, .int 0, .int 0, .int 0, .int 0, .int 0, .int 0, .int 0, .ref msk, .int 0, .int 0, .int 0, .ref mln, .ref mlh, .ref mfn, .ref mfi, .ref mla, .ref mpn, .ref mbo, .ref mdi, .ref mdn, .ref mdo, .ref mdh, .ref mnn, .ref mnh, .ref mkn, .ref mpt, .ref mot, .long 0, .ref mywait, .ref myheld, .int 0, .int 0, .int 0, .int 0, .int 0, .int 0, .long 0, .long 0, .ref mynames, .ref myvalue, .int 0, .int 0, .int 0, .ref mun, .ref mycan, .int 0, .int 0, .int 0, .ref myroot, .ref myoff, .int 0, .ref mtn, .ref mtc, .int 0, .int 0, .int 0, .ref mkh, .ref mkt, .ref mkc]) (xs 1) H.size rfl rfl rfl) (cwV 1 htw (xg_V (ck_32 _ (List.mem_of_getElem? (i := 15) rfl)) (ck_32 _ (List.mem_of_getElem? (i := 16) rfl)) (ck_32 _ (List.mem_of_getElem? (i := 17) rfl)) (ck_1 _ (List.mem_of_getElem? (i := 5) rfl)) (ck_32 _ (List.mem_of_getElem? (i := 18) rfl))) rfl rfl rfl (by decide +kernel) ⟨Nat.le_of_ble_eq_true rfl, Nat.le_of_ble_eq_true rfl⟩) ⟨fun a U g mk q => by obtain ⟨q0, q1, qP, qK, qD⟩ := q; exact ⟨q0, q1, qP, va_K.moved (u := U) (U := U.calling g mk a) (Vm.Alike.refl U.vm) qK, qD⟩, va_recv hKc hPc (ci := 12) (q0 := 0) rfl rfl, fun U hU hW => ⟨rfl, by rw [hU], by rw [hU]; exact hPc, va_K.moved hW.alike hKc, hDc.weaken (fun _ _ _ _ => trivial)⟩⟩ rfl rfl hl.1 rfl (lv_room (Nat.le_of_ble_eq_true rfl)) dL_law_319 ⟨Nat.le_of_ble_eq_true rfl, Nat.le_of_ble_eq_true rfl⟩) hS (fun q _ h => hFc q h) hFc (fun r_6 u_7 t H1 locs ht hvm hw hB hz1 hk1 hS => ?_)
  try dsimp only at hw
  have hP1 : va_P (dC, dI) vwCl [] H1 := fun k q h => by simp at h
  have hD1 : va_D (va_A [(mq, .inr (12, [.ref mtp, .int 0, .int 0, .ref mywords, .int 0, .int (-1), .int 0, .int 0, .int 0, .int 0, .int 0, .int 0, .int 0, .int 0, .int 0, .int 0, .int 0, .int 0, .int 0, .int 0, .int 0, .int 0, .int 0, .int 0, .ref msk, .int 0, .int 0, .int 0, .ref mln, .ref mlh, .ref mfn, .ref mfi, .ref mla, .ref mpn, .ref mbo, .ref mdi, .ref mdn, .ref mdo, .ref mdh, .ref mnn, .ref mnh, .ref mkn, .ref mpt, .ref mot, .long 0, .ref mywait, .ref myheld, .int 0, .int 0, .int 0, .int 0, .int 0, .int 0, .long 0, .long 0, .ref mynames, .ref myvalue, .int 0, .int 0, .int 0, .ref mun, .ref mycan, .int 0, .int 0, .int 0, .ref myroot, .ref myoff, .int 0, .ref mtn, .ref mtc, .int 0, .int 0, .int 0, .ref mkh, .ref mkt, .ref mkc]))] H.size) [] := ⟨fun i j p q h => by simp at h, fun k q h => by simp at h⟩
  obtain ⟨hP, hD⟩ := va_join (wr := [(x, .inr (11, [.ref xpa, .ref b, .ref xsp, .ref xdy, .ref xle, .ref xst, .int 0, .ref xim, .ref xil, .int 0, .ref xmo, .ref xom, .ref xwi])), (xpa, .inr (7, [.ref plx, .null, .int 0, .int (-1), .int 0, .ref phd, .ref phr, .int 0, .int 0]))]) (w1 := []) hP hD [2] [0, 1] rfl rfl (by decide) (by decide) hk1 hFc hP1 hD1
  generalize H1 = H at hP hS ⊢
  have hP : va_P (dC, dI) vwCl [(x, .inr (11, [.ref xpa, .ref b, .ref xsp, .ref xdy, .ref xle, .ref xst, .int 0, .ref xim, .ref xil, .int 0, .ref xmo, .ref xom, .ref xwi])), (xpa, .inr (7, [.ref plx, .null, .int 0, .int (-1), .int 0, .ref phd, .ref phr, .int 0, .int 0]))] H := hP
  have hD : va_D A [(x, .inr (11, [.ref xpa, .ref b, .ref xsp, .ref xdy, .ref xle, .ref xst, .int 0, .ref xim, .ref xil, .int 0, .ref xmo, .ref xom, .ref xwi])), (xpa, .inr (7, [.ref plx, .null, .int 0, .int (-1), .int 0, .ref phd, .ref phr, .int 0, .int 0]))] := hD
  refine W.widen (k := 129) (n := 248806) (by omega) (by omega) ?_
  obtain rfl : r_6 = xr_fault (xs 1) := hw
  refine lv_icmp_eq (tgt := 2053) hx hb dL_law_322 (by decide) (fun c_8 => ?_) (fun c_8 => absurd c_8 (fun h => h rfl))
  refine lv_iinc (v := 6) (lv' := [(4, .int 6), (3, .ref o3), (2, .ref mq), (1, .ref x), (0, .ref bs)]) hx hb dL_law_2053 hl (k := 0) rfl (by decide) (by decide) rfl (fun ls hl => ?_)
  refine lv_goto (tgt := 23) hx hb dL_law_2056 (by decide) ?_
  refine lv_iload hx hb dL_law_23 (lv_at hl 0 rfl) ?_
  refine lv_aload_n hx hb dL_law_25 rfl (lv_at hl 4 rfl) ?_
  refine va_slen hx hb hX hbl hbA hS dL_law_26 ?_
  refine lv_topi (fun z_9 ez_9 => ?_)
  obtain rfl : z_9 = 6 := ez_9.trans (by decide)
  refine lv_bipush (v := 6) hx hb dL_law_27 (by decide) ?_
  refine lv_isub hx hb dL_law_29 ?_
  refine lv_topi (fun z_10 ez_10 => ?_)
  obtain rfl : z_10 = 0 := ez_10.trans (by decide)
  refine lv_icmp_gt (tgt := 2059) hx hb dL_law_30 (by decide) (fun _ => ?_) (fun c => absurd c (by decide))
  refine lv_iconst (v := 1) hx hb dL_law_2059 (by decide) ?_
  refine va_forget (fun q hq => (hAe _).mp (hS.2.2 q hq)) ?_
  refine W.widen (k := 600002) (n := 7302232) (by omega) (by omega) ?_
  exact lw_ret hx hb hr hlocks dL_law_2060

theorem dL_law_327 : decode cL_law 327 = .ok (.aload_n 1, 1) := by decide +kernel
theorem dL_law_328 : decode cL_law 328 = .ok (.aload_n 0, 1) := by decide +kernel
theorem dL_law_329 : decode cL_law 329 = .ok (.iload 4, 2) := by decide +kernel
theorem dL_law_331 : decode cL_law 331 = .ok (.iconst 1, 1) := by decide +kernel
theorem dL_law_332 : decode cL_law 332 = .ok (.iadd, 1) := by decide +kernel
theorem dL_law_333 : decode cL_law 333 = .ok (.iaload, 1) := by decide +kernel
theorem dL_law_334 : decode cL_law 334 = .ok (.aload_n 0, 1) := by decide +kernel
theorem dL_law_335 : decode cL_law 335 = .ok (.iload 4, 2) := by decide +kernel
theorem dL_law_337 : decode cL_law 337 = .ok (.iconst 2, 1) := by decide +kernel
theorem dL_law_338 : decode cL_law 338 = .ok (.iadd, 1) := by decide +kernel
theorem dL_law_339 : decode cL_law 339 = .ok (.iaload, 1) := by decide +kernel
theorem dL_law_340 : decode cL_law 340 = .ok (.invokevirtual 35, 3) := by decide +kernel
theorem dL_law_343 : decode cL_law 343 = .ok (.aload_n 2, 1) := by decide +kernel
theorem dL_law_344 : decode cL_law 344 = .ok (.aload_n 0, 1) := by decide +kernel
theorem dL_law_345 : decode cL_law 345 = .ok (.iload 4, 2) := by decide +kernel
theorem dL_law_347 : decode cL_law 347 = .ok (.iconst 1, 1) := by decide +kernel
theorem dL_law_348 : decode cL_law 348 = .ok (.iadd, 1) := by decide +kernel
theorem dL_law_349 : decode cL_law 349 = .ok (.iaload, 1) := by decide +kernel
theorem dL_law_350 : decode cL_law 350 = .ok (.aload_n 0, 1) := by decide +kernel
theorem dL_law_351 : decode cL_law 351 = .ok (.iload 4, 2) := by decide +kernel
theorem dL_law_353 : decode cL_law 353 = .ok (.iconst 2, 1) := by decide +kernel
theorem dL_law_354 : decode cL_law 354 = .ok (.iadd, 1) := by decide +kernel
theorem dL_law_355 : decode cL_law 355 = .ok (.iaload, 1) := by decide +kernel
theorem dL_law_356 : decode cL_law 356 = .ok (.invokevirtual 38, 3) := by decide +kernel
theorem dL_law_359 : decode cL_law 359 = .ok (.if_icmp .eq 1694, 3) := by decide +kernel
set_option maxHeartbeats 4000000 in
set_option maxRecDepth 100000 in
theorem law_named (l : Launch) (hst : l.stackTraces = false) {p : Program} {e : Env} {s : State} {m : MethodId} {below : List Frame} {meth : Method} {c : Code} {bs : Nat} {xs : Nat → Int32} (C0 : lw_At p s m meth c bs 6 xs) (dC : Nat → ClassId) (dI : Nat → Nat → Nat) (A : Nat → Prop) (hAe : ∀ q, A q ↔ s.heap.size ≤ q) (xpa : Nat) (b : Nat) (xsp : Nat) (xdy : Nat) (xle : Nat) (xst : Nat) (xim : Nat) (xil : Nat) (xmo : Nat) (xom : Nat) (xwi : Nat) (bto : Nat) (bnm : Nat) (bla : Nat) (bsk : Nat) (bru : Nat) (bbo : Nat) (bdi : Nat) (bda : Nat) (bdk : Nat) (bdt : Nat) (bdp : Nat) (bno : Nat) (bcT : ClassId) (mtp : Nat) (mywords : Nat) (msk : Nat) (mln : Nat) (mlh : Nat) (mfn : Nat) (mfi : Nat) (mla : Nat) (mpn : Nat) (mbo : Nat) (mdi : Nat) (mdn : Nat) (mdo : Nat) (mdh : Nat) (mnn : Nat) (mnh : Nat) (mkn : Nat) (mpt : Nat) (mot : Nat) (mywait : Nat) (myheld : Nat) (mynames : Nat) (myvalue : Nat) (mun : Nat) (mycan : Nat) (myroot : Nat) (myoff : Nat) (mtn : Nat) (mtc : Nat) (mkh : Nat) (mkt : Nat) (mkc : Nat) (x : Nat) (mq : Nat) (o3 : Nat)  (H : Heap) (locs : List Loc) (ls : Array Slot) (hK : va_K (dC, dI) vwCl [(bcT, .int)] s) (hP : va_P (dC, dI) vwCl [(x, .inr (11, [.ref xpa, .ref b, .ref xsp, .ref xdy, .ref xle, .ref xst, .int 0, .ref xim, .ref xil, .int 0, .ref xmo, .ref xom, .ref xwi])), (b, .inr (0, [.ref bto, .ref bnm, .ref bla, .ref bsk, .ref bru, .ref bbo, .ref bdi, .ref bda, .ref bdk, .ref bdt, .ref bdp, .ref bno])), (bto, .inl (bcT, 5, .inl (fun _ => 0))), (mq, .inr (12, [.ref mtp, .int 0, .int 0, .ref mywords, .int 0, .int (-1), .int 0, .int 0, .int 0, .int 0, .int 0, .int 0, .int 0, .int 0, .int 0, .int 0, .int 0, .int 0, .int 0, .int 0, .int 0, .int 0, .int 0, .int 0, .ref msk, .int 0, .int 0, .int 0, .ref mln, .ref mlh, .ref mfn, .ref mfi, .ref mla, .ref mpn, .ref mbo, .ref mdi, .ref mdn, .ref mdo, .ref mdh, .ref mnn, .ref mnh, .ref mkn, .ref mpt, .ref mot, .long 0, .ref mywait, .ref myheld, .int 0, .int 0, .int 0, .int 0, .int 0, .int 0, .long 0, .long 0, .ref mynames, .ref myvalue, .int 0, .int 0, .int 0, .ref mun, .ref mycan, .int 0, .int 0, .int 0, .ref myroot, .ref myoff, .int 0, .ref mtn, .ref mtc, .int 0, .int 0, .int 0, .ref mkh, .ref mkt, .ref mkc]))] H) (hD : va_D A [(x, .inr (11, [.ref xpa, .ref b, .ref xsp, .ref xdy, .ref xle, .ref xst, .int 0, .ref xim, .ref xil, .int 0, .ref xmo, .ref xom, .ref xwi])), (b, .inr (0, [.ref bto, .ref bnm, .ref bla, .ref bsk, .ref bru, .ref bbo, .ref bdi, .ref bda, .ref bdk, .ref bdt, .ref bdp, .ref bno])), (bto, .inl (bcT, 5, .inl (fun _ => 0))), (mq, .inr (12, [.ref mtp, .int 0, .int 0, .ref mywords, .int 0, .int (-1), .int 0, .int 0, .int 0, .int 0, .int 0, .int 0, .int 0, .int 0, .int 0, .int 0, .int 0, .int 0, .int 0, .int 0, .int 0, .int 0, .int 0, .int 0, .ref msk, .int 0, .int 0, .int 0, .ref mln, .ref mlh, .ref mfn, .ref mfi, .ref mla, .ref mpn, .ref mbo, .ref mdi, .ref mdn, .ref mdo, .ref mdh, .ref mnn, .ref mnh, .ref mkn, .ref mpt, .ref mot, .long 0, .ref mywait, .ref myheld, .int 0, .int 0, .int 0, .int 0, .int 0, .int 0, .long 0, .long 0, .ref mynames, .ref myvalue, .int 0, .int 0, .int 0, .ref mun, .ref mycan, .int 0, .int 0, .int 0, .ref myroot, .ref myoff, .int 0, .ref mtn, .ref mtc, .int 0, .int 0, .int 0, .ref mkh, .ref mkt, .ref mkc]))]) (hS : va_S A s.heap H locs) (hl : lv_has ls 7 [(4, .int 0), (3, .ref o3), (2, .ref mq), (1, .ref x), (0, .ref bs)]) : W p l e room_1 s m #[Value.ref bs] below meth c H locs 129 248806 (lw_Z below #[Value.ref bs] s) (F0 m 327 ls []) := by
  obtain ⟨hx, hb, hr, hml, hown, hts, hX, hbl, hlocks, hgv⟩ := id C0
  have htw : ∀ w ∈ wsL_law, w.before _ s = true := fun w h => hts w (wsL_law_in w h)
  have hown : s.vm.findClass RL = some m.cls := hown
  have hA : ∀ q : Nat, s.heap.size ≤ q → A q := fun q h => (hAe q).mpr h
  have hbA : ¬ A bs := fun h => absurd ((hAe bs).mp h) (Nat.not_le.mpr hbl)
  refine lv_aload_n hx hb dL_law_327 rfl (lv_at hl 3 rfl) ?_
  refine lv_aload_n hx hb dL_law_328 rfl (lv_at hl 4 rfl) ?_
  refine lv_iload hx hb dL_law_329 (lv_at hl 0 rfl) ?_
  refine lv_iconst (v := 1) hx hb dL_law_331 (by decide) ?_
  refine lv_iadd hx hb dL_law_332 ?_
  refine lv_topi (fun z_1 ez_1 => ?_)
  obtain rfl : z_1 = 1 := ez_1.trans (by decide)
  refine va_sld hx hb hX hbl hbA hS (by unfold vp_in; decide) dL_law_333 ?_
  refine lv_topi (fun z_2 ez_2 => ?_)
  obtain rfl : z_2 = xs 1 := ez_2
  refine lv_aload_n hx hb dL_law_334 rfl (lv_at hl 4 rfl) ?_
  refine lv_iload hx hb dL_law_335 (lv_at hl 0 rfl) ?_
  refine lv_iconst (v := 2) hx hb dL_law_337 (by decide) ?_
  refine lv_iadd hx hb dL_law_338 ?_
  refine lv_topi (fun z_3 ez_3 => ?_)
  obtain rfl : z_3 = 2 := ez_3.trans (by decide)
  refine va_sld hx hb hX hbl hbA hS (by unfold vp_in; decide) dL_law_339 ?_
  refine lv_topi (fun z_4 ez_4 => ?_)
  obtain rfl : z_4 = xs 2 := ez_4
  have hPc := hP.sub (ws' := [(x, .inr (11, [.ref xpa, .ref b, .ref xsp, .ref xdy, .ref xle, .ref xst, .int 0, .ref xim, .ref xil, .int 0, .ref xmo, .ref xom, .ref xwi])), (b, .inr (0, [.ref bto, .ref bnm, .ref bla, .ref bsk, .ref bru, .ref bbo, .ref bdi, .ref bda, .ref bdk, .ref bdt, .ref bdp, .ref bno])), (bto, .inl (bcT, 5, .inl (fun _ => 0)))]) [0, 1, 2] rfl
  have hKc := hK.sub (tys' := [(bcT, .int)]) [0] rfl
  refine vp_callSi (W.runV (As := [.int (xs 1), .int (xs 2)]) (rest := []) ⟨hx, hb, hml, hown, htw⟩ (mx_named l dC dI x xpa xsp xdy xle xst xim xil xmo xom xwi b bto bnm bla bsk bru bbo bdi bda bdk bdt bdp bno bcT (xs 1) (xs 2)) (cwV 2 htw (xg_V (ck_32 _ (List.mem_of_getElem? (i := 19) rfl)) (ck_32 _ (List.mem_of_getElem? (i := 20) rfl)) (ck_32 _ (List.mem_of_getElem? (i := 21) rfl)) (ck_1 _ (List.mem_of_getElem? (i := 2) rfl)) (ck_32 _ (List.mem_of_getElem? (i := 22) rfl))) rfl rfl rfl (by decide +kernel) ⟨Nat.le_of_ble_eq_true rfl, Nat.le_of_ble_eq_true rfl⟩) ⟨fun a U g mk q => by obtain ⟨q0, qP, qK⟩ := q; exact ⟨q0, qP, va_K.moved (u := U) (U := U.calling g mk a) (Vm.Alike.refl U.vm) qK⟩, va_recv hKc hPc (ci := 11) (q0 := 0) rfl rfl, fun U hU hW => ⟨rfl, by rw [hU]; exact hPc, va_K.moved hW.alike hKc⟩⟩ rfl rfl hl.1 rfl (lv_room (Nat.le_of_ble_eq_true rfl)) dL_law_340 ⟨Nat.le_of_ble_eq_true rfl, Nat.le_of_ble_eq_true rfl⟩) (fun r_5 hw => ?_)
  try dsimp only at hw
  obtain rfl : r_5 = (-1) := hw
  refine lv_aload_n hx hb dL_law_343 rfl (lv_at hl 2 rfl) ?_
  refine lv_aload_n hx hb dL_law_344 rfl (lv_at hl 4 rfl) ?_
  refine lv_iload hx hb dL_law_345 (lv_at hl 0 rfl) ?_
  refine lv_iconst (v := 1) hx hb dL_law_347 (by decide) ?_
  refine lv_iadd hx hb dL_law_348 ?_
  refine lv_topi (fun z_6 ez_6 => ?_)
  obtain rfl : z_6 = 1 := ez_6.trans (by decide)
  refine va_sld hx hb hX hbl hbA hS (by unfold vp_in; decide) dL_law_349 ?_
  refine lv_topi (fun z_7 ez_7 => ?_)
  obtain rfl : z_7 = xs 1 := ez_7
  refine lv_aload_n hx hb dL_law_350 rfl (lv_at hl 4 rfl) ?_
  refine lv_iload hx hb dL_law_351 (lv_at hl 0 rfl) ?_
  refine lv_iconst (v := 2) hx hb dL_law_353 (by decide) ?_
  refine lv_iadd hx hb dL_law_354 ?_
  refine lv_topi (fun z_8 ez_8 => ?_)
  obtain rfl : z_8 = 2 := ez_8.trans (by decide)
  refine va_sld hx hb hX hbl hbA hS (by unfold vp_in; decide) dL_law_355 ?_
  refine lv_topi (fun z_9 ez_9 => ?_)
  obtain rfl : z_9 = xs 2 := ez_9
  have hPc := hP.sub (ws' := [(mq, .inr (12, [.ref mtp, .int 0, .int 0, .ref mywords, .int 0, .int (-1), .int 0, .int 0, .int 0, .int 0, .int 0, .int 0, .int 0, .int 0, .int 0, .int 0, .int 0, .int 0, .int 0, .int 0, .int 0, .int 0, .int 0, .int 0, .ref msk, .int 0, .int 0, .int 0, .ref mln, .ref mlh, .ref mfn, .ref mfi, .ref mla, .ref mpn, .ref mbo, .ref mdi, .ref mdn, .ref mdo, .ref mdh, .ref mnn, .ref mnh, .ref mkn, .ref mpt, .ref mot, .long 0, .ref mywait, .ref myheld, .int 0, .int 0, .int 0, .int 0, .int 0, .int 0, .long 0, .long 0, .ref mynames, .ref myvalue, .int 0, .int 0, .int 0, .ref mun, .ref mycan, .int 0, .int 0, .int 0, .ref myroot, .ref myoff, .int 0, .ref mtn, .ref mtc, .int 0, .int 0, .int 0, .ref mkh, .ref mkt, .ref mkc]))]) [3] rfl
  have hKc := hK.sub (tys' := []) [] rfl
  have hDc := hD.sub (ws' := [(mq, .inr (12, [.ref mtp, .int 0, .int 0, .ref mywords, .int 0, .int (-1), .int 0, .int 0, .int 0, .int 0, .int 0, .int 0, .int 0, .int 0, .int 0, .int 0, .int 0, .int 0, .int 0, .int 0, .int 0, .int 0, .int 0, .int 0, .ref msk, .int 0, .int 0, .int 0, .ref mln, .ref mlh, .ref mfn, .ref mfi, .ref mla, .ref mpn, .ref mbo, .ref mdi, .ref mdn, .ref mdo, .ref mdh, .ref mnn, .ref mnh, .ref mkn, .ref mpt, .ref mot, .long 0, .ref mywait, .ref myheld, .int 0, .int 0, .int 0, .int 0, .int 0, .int 0, .long 0, .long 0, .ref mynames, .ref myvalue, .int 0, .int 0, .int 0, .ref mun, .ref mycan, .int 0, .int 0, .int 0, .ref myroot, .ref myoff, .int 0, .ref mtn, .ref mtc, .int 0, .int 0, .int 0, .ref mkh, .ref mkt, .ref mkc]))]) [3] (by decide) rfl
  have hFc := va_free (wc := [(mq, .inr (12, [.ref mtp, .int 0, .int 0, .ref mywords, .int 0, .int (-1), .int 0, .int 0, .int 0, .int 0, .int 0, .int 0, .int 0, .int 0, .int 0, .int 0, .int 0, .int 0, .int 0, .int 0, .int 0, .int 0, .int 0, .int 0, .ref msk, .int 0, .int 0, .int 0, .ref mln, .ref mlh, .ref mfn, .ref mfi, .ref mla, .ref mpn, .ref mbo, .ref mdi, .ref mdn, .ref mdo, .ref mdh, .ref mnn, .ref mnh, .ref mkn, .ref mpt, .ref mot, .long 0, .ref mywait, .ref myheld, .int 0, .int 0, .int 0, .int 0, .int 0, .int 0, .long 0, .long 0, .ref mynames, .ref myvalue, .int 0, .int 0, .int 0, .ref mun, .ref mycan, .int 0, .int 0, .int 0, .ref myroot, .ref myoff, .int 0, .ref mtn, .ref mtc, .int 0, .int 0, .int 0, .ref mkh, .ref mkt, .ref mkc]))]) hD hS hA [3] rfl
  refine va_calli (va_runV (As := [.int (xs 1), .int (xs 2)]) (rest := [.int (-1)]) ⟨hx, hb, hml, hown, htw⟩ (mm_named l dC dI mq ([.ref mtp, .int 0, .int 0, .ref mywords, .int 0, .int (-1), .int 0, .int 0, .int 0, .int 0, .int 0, .int 0, .int 0, .int 0, .int 0, .int 0, .int 0, .int 0, .int 0, .int 0, .int 0, .int 0, .int 0, .int 0, .ref msk, .int 0, .int 0, .int 0, .ref mln, .ref mlh, .ref mfn, .ref mfi, .ref mla, .ref mpn, .ref mbo, .ref mdi, .ref mdn, .ref mdo, .ref mdh, .ref mnn, .ref mnh, .ref mkn, .ref mpt, .ref mot, .long 0, .ref mywait, .ref myheld, .int 0, .int 0, .int 0, .int 0, .int 0, .int 0, .long 0, .long 0, .ref mynames, .ref myvalue, .int 0, .int 0, .int 0, .ref mun, .ref mycan, .int 0, .int 0, .int 0, .ref myroot, .ref myoff, .int 0, .ref mtn, .ref mtc, .int 0, .int 0, .int 0, .ref mkh, .ref mkt, .ref mkc]) mln mfn mpn mdn mnn (xs 1) (xs 2) H.size rfl rfl rfl rfl rfl rfl rfl rfl rfl rfl rfl) (cwV 2 htw (xg_V (ck_33 _ (List.mem_of_getElem? (i := 0) rfl)) (ck_33 _ (List.mem_of_getElem? (i := 1) rfl)) (ck_33 _ (List.mem_of_getElem? (i := 2) rfl)) (ck_1 _ (List.mem_of_getElem? (i := 5) rfl)) (ck_33 _ (List.mem_of_getElem? (i := 3) rfl))) rfl rfl rfl (by decide +kernel) ⟨Nat.le_of_ble_eq_true rfl, Nat.le_of_ble_eq_true rfl⟩) ⟨fun a U g mk q => by obtain ⟨q0, q1, qP, qK, qD⟩ := q; exact ⟨q0, q1, qP, va_K.moved (u := U) (U := U.calling g mk a) (Vm.Alike.refl U.vm) qK, qD⟩, va_recv hKc hPc (ci := 12) (q0 := 0) rfl rfl, fun U hU hW => ⟨rfl, by rw [hU], by rw [hU]; exact hPc, va_K.moved hW.alike hKc, hDc.weaken (fun _ _ _ _ => trivial)⟩⟩ rfl rfl hl.1 rfl (lv_room (Nat.le_of_ble_eq_true rfl)) dL_law_356 ⟨Nat.le_of_ble_eq_true rfl, Nat.le_of_ble_eq_true rfl⟩) hS (fun q _ h => hFc q h) hFc (fun r_10 u_11 t H1 locs ht hvm hw hB hz1 hk1 hS => ?_)
  try dsimp only at hw
  have hP1 : va_P (dC, dI) vwCl [] H1 := fun k q h => by simp at h
  have hD1 : va_D (va_A [(mq, .inr (12, [.ref mtp, .int 0, .int 0, .ref mywords, .int 0, .int (-1), .int 0, .int 0, .int 0, .int 0, .int 0, .int 0, .int 0, .int 0, .int 0, .int 0, .int 0, .int 0, .int 0, .int 0, .int 0, .int 0, .int 0, .int 0, .ref msk, .int 0, .int 0, .int 0, .ref mln, .ref mlh, .ref mfn, .ref mfi, .ref mla, .ref mpn, .ref mbo, .ref mdi, .ref mdn, .ref mdo, .ref mdh, .ref mnn, .ref mnh, .ref mkn, .ref mpt, .ref mot, .long 0, .ref mywait, .ref myheld, .int 0, .int 0, .int 0, .int 0, .int 0, .int 0, .long 0, .long 0, .ref mynames, .ref myvalue, .int 0, .int 0, .int 0, .ref mun, .ref mycan, .int 0, .int 0, .int 0, .ref myroot, .ref myoff, .int 0, .ref mtn, .ref mtc, .int 0, .int 0, .int 0, .ref mkh, .ref mkt, .ref mkc]))] H.size) [] := ⟨fun i j p q h => by simp at h, fun k q h => by simp at h⟩
  obtain ⟨hP, hD⟩ := va_join (wr := [(x, .inr (11, [.ref xpa, .ref b, .ref xsp, .ref xdy, .ref xle, .ref xst, .int 0, .ref xim, .ref xil, .int 0, .ref xmo, .ref xom, .ref xwi])), (b, .inr (0, [.ref bto, .ref bnm, .ref bla, .ref bsk, .ref bru, .ref bbo, .ref bdi, .ref bda, .ref bdk, .ref bdt, .ref bdp, .ref bno])), (bto, .inl (bcT, 5, .inl (fun _ => 0)))]) (w1 := []) hP hD [3] [0, 1, 2] rfl rfl (by decide) (by decide) hk1 hFc hP1 hD1
  generalize H1 = H at hP hS ⊢
  have hP : va_P (dC, dI) vwCl [(x, .inr (11, [.ref xpa, .ref b, .ref xsp, .ref xdy, .ref xle, .ref xst, .int 0, .ref xim, .ref xil, .int 0, .ref xmo, .ref xom, .ref xwi])), (b, .inr (0, [.ref bto, .ref bnm, .ref bla, .ref bsk, .ref bru, .ref bbo, .ref bdi, .ref bda, .ref bdk, .ref bdt, .ref bdp, .ref bno])), (bto, .inl (bcT, 5, .inl (fun _ => 0)))] H := hP
  have hD : va_D A [(x, .inr (11, [.ref xpa, .ref b, .ref xsp, .ref xdy, .ref xle, .ref xst, .int 0, .ref xim, .ref xil, .int 0, .ref xmo, .ref xom, .ref xwi])), (b, .inr (0, [.ref bto, .ref bnm, .ref bla, .ref bsk, .ref bru, .ref bbo, .ref bdi, .ref bda, .ref bdk, .ref bdt, .ref bdp, .ref bno])), (bto, .inl (bcT, 5, .inl (fun _ => 0)))] := hD
  refine W.widen (k := 129) (n := 248806) (by omega) (by omega) ?_
  obtain rfl : r_10 = (-1) := hw
  refine lv_icmp_eq (tgt := 2053) hx hb dL_law_359 (by decide) (fun _ => ?_) (fun c => absurd c (by decide))
  refine lv_iinc (v := 6) (lv' := [(4, .int 6), (3, .ref o3), (2, .ref mq), (1, .ref x), (0, .ref bs)]) hx hb dL_law_2053 hl (k := 0) rfl (by decide) (by decide) rfl (fun ls hl => ?_)
  refine lv_goto (tgt := 23) hx hb dL_law_2056 (by decide) ?_
  refine lv_iload hx hb dL_law_23 (lv_at hl 0 rfl) ?_
  refine lv_aload_n hx hb dL_law_25 rfl (lv_at hl 4 rfl) ?_
  refine va_slen hx hb hX hbl hbA hS dL_law_26 ?_
  refine lv_topi (fun z_12 ez_12 => ?_)
  obtain rfl : z_12 = 6 := ez_12.trans (by decide)
  refine lv_bipush (v := 6) hx hb dL_law_27 (by decide) ?_
  refine lv_isub hx hb dL_law_29 ?_
  refine lv_topi (fun z_13 ez_13 => ?_)
  obtain rfl : z_13 = 0 := ez_13.trans (by decide)
  refine lv_icmp_gt (tgt := 2059) hx hb dL_law_30 (by decide) (fun _ => ?_) (fun c => absurd c (by decide))
  refine lv_iconst (v := 1) hx hb dL_law_2059 (by decide) ?_
  refine va_forget (fun q hq => (hAe _).mp (hS.2.2 q hq)) ?_
  refine W.widen (k := 600002) (n := 7302232) (by omega) (by omega) ?_
  exact lw_ret hx hb hr hlocks dL_law_2060

theorem dL_law_432 : decode cL_law 432 = .ok (.aload_n 1, 1) := by decide +kernel
theorem dL_law_433 : decode cL_law 433 = .ok (.aload_n 0, 1) := by decide +kernel
theorem dL_law_434 : decode cL_law 434 = .ok (.iload 4, 2) := by decide +kernel
theorem dL_law_436 : decode cL_law 436 = .ok (.iconst 1, 1) := by decide +kernel
theorem dL_law_437 : decode cL_law 437 = .ok (.iadd, 1) := by decide +kernel
theorem dL_law_438 : decode cL_law 438 = .ok (.iaload, 1) := by decide +kernel
theorem dL_law_439 : decode cL_law 439 = .ok (.aload_n 0, 1) := by decide +kernel
theorem dL_law_440 : decode cL_law 440 = .ok (.iload 4, 2) := by decide +kernel
theorem dL_law_442 : decode cL_law 442 = .ok (.iconst 2, 1) := by decide +kernel
theorem dL_law_443 : decode cL_law 443 = .ok (.iadd, 1) := by decide +kernel
theorem dL_law_444 : decode cL_law 444 = .ok (.iaload, 1) := by decide +kernel
theorem dL_law_445 : decode cL_law 445 = .ok (.invokevirtual 49, 3) := by decide +kernel
theorem dL_law_448 : decode cL_law 448 = .ok (.aload_n 2, 1) := by decide +kernel
theorem dL_law_449 : decode cL_law 449 = .ok (.aload_n 0, 1) := by decide +kernel
theorem dL_law_450 : decode cL_law 450 = .ok (.iload 4, 2) := by decide +kernel
theorem dL_law_452 : decode cL_law 452 = .ok (.iconst 1, 1) := by decide +kernel
theorem dL_law_453 : decode cL_law 453 = .ok (.iadd, 1) := by decide +kernel
theorem dL_law_454 : decode cL_law 454 = .ok (.iaload, 1) := by decide +kernel
theorem dL_law_455 : decode cL_law 455 = .ok (.aload_n 0, 1) := by decide +kernel
theorem dL_law_456 : decode cL_law 456 = .ok (.iload 4, 2) := by decide +kernel
theorem dL_law_458 : decode cL_law 458 = .ok (.iconst 2, 1) := by decide +kernel
theorem dL_law_459 : decode cL_law 459 = .ok (.iadd, 1) := by decide +kernel
theorem dL_law_460 : decode cL_law 460 = .ok (.iaload, 1) := by decide +kernel
theorem dL_law_461 : decode cL_law 461 = .ok (.invokevirtual 53, 3) := by decide +kernel
theorem dL_law_464 : decode cL_law 464 = .ok (.lcmp, 1) := by decide +kernel
theorem dL_law_465 : decode cL_law 465 = .ok (.ifCond .eq 1588, 3) := by decide +kernel
set_option maxHeartbeats 4000000 in
set_option maxRecDepth 100000 in
theorem law_length (l : Launch) (hst : l.stackTraces = false) {p : Program} {e : Env} {s : State} {m : MethodId} {below : List Frame} {meth : Method} {c : Code} {bs : Nat} {xs : Nat → Int32} (C0 : lw_At p s m meth c bs 6 xs) (dC : Nat → ClassId) (dI : Nat → Nat → Nat) (A : Nat → Prop) (hAe : ∀ q, A q ↔ s.heap.size ≤ q) (xpa : Nat) (b : Nat) (xsp : Nat) (xdy : Nat) (xle : Nat) (xst : Nat) (xim : Nat) (xil : Nat) (xmo : Nat) (xom : Nat) (xwi : Nat) (bto : Nat) (bnm : Nat) (bla : Nat) (bsk : Nat) (bru : Nat) (bbo : Nat) (bdi : Nat) (bda : Nat) (bdk : Nat) (bdt : Nat) (bdp : Nat) (bno : Nat) (bcT : ClassId) (mtp : Nat) (mywords : Nat) (msk : Nat) (mln : Nat) (mlh : Nat) (mfn : Nat) (mfi : Nat) (mla : Nat) (mpn : Nat) (mbo : Nat) (mdi : Nat) (mdn : Nat) (mdo : Nat) (mdh : Nat) (mnn : Nat) (mnh : Nat) (mkn : Nat) (mpt : Nat) (mot : Nat) (mywait : Nat) (myheld : Nat) (mynames : Nat) (myvalue : Nat) (mun : Nat) (mycan : Nat) (myroot : Nat) (myoff : Nat) (mtn : Nat) (mtc : Nat) (mkh : Nat) (mkt : Nat) (mkc : Nat) (x : Nat) (mq : Nat) (o3 : Nat)  (H : Heap) (locs : List Loc) (ls : Array Slot) (hK : va_K (dC, dI) vwCl [(bcT, .int)] s) (hP : va_P (dC, dI) vwCl [(x, .inr (11, [.ref xpa, .ref b, .ref xsp, .ref xdy, .ref xle, .ref xst, .int 0, .ref xim, .ref xil, .int 0, .ref xmo, .ref xom, .ref xwi])), (b, .inr (0, [.ref bto, .ref bnm, .ref bla, .ref bsk, .ref bru, .ref bbo, .ref bdi, .ref bda, .ref bdk, .ref bdt, .ref bdp, .ref bno])), (bto, .inl (bcT, 5, .inl (fun _ => 0))), (mq, .inr (12, [.ref mtp, .int 0, .int 0, .ref mywords, .int 0, .int (-1), .int 0, .int 0, .int 0, .int 0, .int 0, .int 0, .int 0, .int 0, .int 0, .int 0, .int 0, .int 0, .int 0, .int 0, .int 0, .int 0, .int 0, .int 0, .ref msk, .int 0, .int 0, .int 0, .ref mln, .ref mlh, .ref mfn, .ref mfi, .ref mla, .ref mpn, .ref mbo, .ref mdi, .ref mdn, .ref mdo, .ref mdh, .ref mnn, .ref mnh, .ref mkn, .ref mpt, .ref mot, .long 0, .ref mywait, .ref myheld, .int 0, .int 0, .int 0, .int 0, .int 0, .int 0, .long 0, .long 0, .ref mynames, .ref myvalue, .int 0, .int 0, .int 0, .ref mun, .ref mycan, .int 0, .int 0, .int 0, .ref myroot, .ref myoff, .int 0, .ref mtn, .ref mtc, .int 0, .int 0, .int 0, .ref mkh, .ref mkt, .ref mkc]))] H) (hD : va_D A [(x, .inr (11, [.ref xpa, .ref b, .ref xsp, .ref xdy, .ref xle, .ref xst, .int 0, .ref xim, .ref xil, .int 0, .ref xmo, .ref xom, .ref xwi])), (b, .inr (0, [.ref bto, .ref bnm, .ref bla, .ref bsk, .ref bru, .ref bbo, .ref bdi, .ref bda, .ref bdk, .ref bdt, .ref bdp, .ref bno])), (bto, .inl (bcT, 5, .inl (fun _ => 0))), (mq, .inr (12, [.ref mtp, .int 0, .int 0, .ref mywords, .int 0, .int (-1), .int 0, .int 0, .int 0, .int 0, .int 0, .int 0, .int 0, .int 0, .int 0, .int 0, .int 0, .int 0, .int 0, .int 0, .int 0, .int 0, .int 0, .int 0, .ref msk, .int 0, .int 0, .int 0, .ref mln, .ref mlh, .ref mfn, .ref mfi, .ref mla, .ref mpn, .ref mbo, .ref mdi, .ref mdn, .ref mdo, .ref mdh, .ref mnn, .ref mnh, .ref mkn, .ref mpt, .ref mot, .long 0, .ref mywait, .ref myheld, .int 0, .int 0, .int 0, .int 0, .int 0, .int 0, .long 0, .long 0, .ref mynames, .ref myvalue, .int 0, .int 0, .int 0, .ref mun, .ref mycan, .int 0, .int 0, .int 0, .ref myroot, .ref myoff, .int 0, .ref mtn, .ref mtc, .int 0, .int 0, .int 0, .ref mkh, .ref mkt, .ref mkc]))]) (hS : va_S A s.heap H locs) (hl : lv_has ls 7 [(4, .int 0), (3, .ref o3), (2, .ref mq), (1, .ref x), (0, .ref bs)]) : W p l e room_1 s m #[Value.ref bs] below meth c H locs 129 248806 (lw_Z below #[Value.ref bs] s) (F0 m 432 ls []) := by
  obtain ⟨hx, hb, hr, hml, hown, hts, hX, hbl, hlocks, hgv⟩ := id C0
  have htw : ∀ w ∈ wsL_law, w.before _ s = true := fun w h => hts w (wsL_law_in w h)
  have hown : s.vm.findClass RL = some m.cls := hown
  have hA : ∀ q : Nat, s.heap.size ≤ q → A q := fun q h => (hAe q).mpr h
  have hbA : ¬ A bs := fun h => absurd ((hAe bs).mp h) (Nat.not_le.mpr hbl)
  refine lv_aload_n hx hb dL_law_432 rfl (lv_at hl 3 rfl) ?_
  refine lv_aload_n hx hb dL_law_433 rfl (lv_at hl 4 rfl) ?_
  refine lv_iload hx hb dL_law_434 (lv_at hl 0 rfl) ?_
  refine lv_iconst (v := 1) hx hb dL_law_436 (by decide) ?_
  refine lv_iadd hx hb dL_law_437 ?_
  refine lv_topi (fun z_1 ez_1 => ?_)
  obtain rfl : z_1 = 1 := ez_1.trans (by decide)
  refine va_sld hx hb hX hbl hbA hS (by unfold vp_in; decide) dL_law_438 ?_
  refine lv_topi (fun z_2 ez_2 => ?_)
  obtain rfl : z_2 = xs 1 := ez_2
  refine lv_aload_n hx hb dL_law_439 rfl (lv_at hl 4 rfl) ?_
  refine lv_iload hx hb dL_law_440 (lv_at hl 0 rfl) ?_
  refine lv_iconst (v := 2) hx hb dL_law_442 (by decide) ?_
  refine lv_iadd hx hb dL_law_443 ?_
  refine lv_topi (fun z_3 ez_3 => ?_)
  obtain rfl : z_3 = 2 := ez_3.trans (by decide)
  refine va_sld hx hb hX hbl hbA hS (by unfold vp_in; decide) dL_law_444 ?_
  refine lv_topi (fun z_4 ez_4 => ?_)
  obtain rfl : z_4 = xs 2 := ez_4
  have hPc := hP.sub (ws' := [(x, .inr (11, [.ref xpa, .ref b, .ref xsp, .ref xdy, .ref xle, .ref xst, .int 0, .ref xim, .ref xil, .int 0, .ref xmo, .ref xom, .ref xwi])), (b, .inr (0, [.ref bto, .ref bnm, .ref bla, .ref bsk, .ref bru, .ref bbo, .ref bdi, .ref bda, .ref bdk, .ref bdt, .ref bdp, .ref bno])), (bto, .inl (bcT, 5, .inl (fun _ => 0)))]) [0, 1, 2] rfl
  have hKc := hK.sub (tys' := [(bcT, .int)]) [0] rfl
  refine vp_callSl (W.runV (As := [.int (xs 1), .int (xs 2)]) (rest := []) ⟨hx, hb, hml, hown, htw⟩ (mx_length l dC dI x xpa xsp xdy xle xst xim xil xmo xom xwi b bto bnm bla bsk bru bbo bdi bda bdk bdt bdp bno bcT (xs 1) (xs 2)) (cwV 2 htw (xg_V (ck_34 _ (List.mem_of_getElem? (i := 14) rfl)) (ck_34 _ (List.mem_of_getElem? (i := 15) rfl)) (ck_34 _ (List.mem_of_getElem? (i := 16) rfl)) (ck_1 _ (List.mem_of_getElem? (i := 2) rfl)) (ck_34 _ (List.mem_of_getElem? (i := 17) rfl))) rfl rfl rfl (by decide +kernel) ⟨Nat.le_of_ble_eq_true rfl, Nat.le_of_ble_eq_true rfl⟩) ⟨fun a U g mk q => by obtain ⟨q0, qP, qK⟩ := q; exact ⟨q0, qP, va_K.moved (u := U) (U := U.calling g mk a) (Vm.Alike.refl U.vm) qK⟩, va_recv hKc hPc (ci := 11) (q0 := 0) rfl rfl, fun U hU hW => ⟨rfl, by rw [hU]; exact hPc, va_K.moved hW.alike hKc⟩⟩ rfl rfl hl.1 rfl (lv_room (Nat.le_of_ble_eq_true rfl)) dL_law_445 ⟨Nat.le_of_ble_eq_true rfl, Nat.le_of_ble_eq_true rfl⟩) (fun r_5 hw => ?_)
  try dsimp only at hw
  obtain rfl : r_5 = (-1) := hw
  refine lv_aload_n hx hb dL_law_448 rfl (lv_at hl 2 rfl) ?_
  refine lv_aload_n hx hb dL_law_449 rfl (lv_at hl 4 rfl) ?_
  refine lv_iload hx hb dL_law_450 (lv_at hl 0 rfl) ?_
  refine lv_iconst (v := 1) hx hb dL_law_452 (by decide) ?_
  refine lv_iadd hx hb dL_law_453 ?_
  refine lv_topi (fun z_6 ez_6 => ?_)
  obtain rfl : z_6 = 1 := ez_6.trans (by decide)
  refine va_sld hx hb hX hbl hbA hS (by unfold vp_in; decide) dL_law_454 ?_
  refine lv_topi (fun z_7 ez_7 => ?_)
  obtain rfl : z_7 = xs 1 := ez_7
  refine lv_aload_n hx hb dL_law_455 rfl (lv_at hl 4 rfl) ?_
  refine lv_iload hx hb dL_law_456 (lv_at hl 0 rfl) ?_
  refine lv_iconst (v := 2) hx hb dL_law_458 (by decide) ?_
  refine lv_iadd hx hb dL_law_459 ?_
  refine lv_topi (fun z_8 ez_8 => ?_)
  obtain rfl : z_8 = 2 := ez_8.trans (by decide)
  refine va_sld hx hb hX hbl hbA hS (by unfold vp_in; decide) dL_law_460 ?_
  refine lv_topi (fun z_9 ez_9 => ?_)
  obtain rfl : z_9 = xs 2 := ez_9
  have hPc := hP.sub (ws' := [(mq, .inr (12, [.ref mtp, .int 0, .int 0, .ref mywords, .int 0, .int (-1), .int 0, .int 0, .int 0, .int 0, .int 0, .int 0, .int 0, .int 0, .int 0, .int 0, .int 0, .int 0, .int 0, .int 0, .int 0, .int 0, .int 0, .int 0, .ref msk, .int 0, .int 0, .int 0, .ref mln, .ref mlh, .ref mfn, .ref mfi, .ref mla, .ref mpn, .ref mbo, .ref mdi, .ref mdn, .ref mdo, .ref mdh, .ref mnn, .ref mnh, .ref mkn, .ref mpt, .ref mot, .long 0, .ref mywait, .ref myheld, .int 0, .int 0, .int 0, .int 0, .int 0, .int 0, .long 0, .long 0, .ref mynames, .ref myvalue, .int 0, .int 0, .int 0, .ref mun, .ref mycan, .int 0, .int 0, .int 0, .ref myroot, .ref myoff, .int 0, .ref mtn, .ref mtc, .int 0, .int 0, .int 0, .ref mkh, .ref mkt, .ref mkc]))]) [3] rfl
  have hKc := hK.sub (tys' := []) [] rfl
  have hDc := hD.sub (ws' := [(mq, .inr (12, [.ref mtp, .int 0, .int 0, .ref mywords, .int 0, .int (-1), .int 0, .int 0, .int 0, .int 0, .int 0, .int 0, .int 0, .int 0, .int 0, .int 0, .int 0, .int 0, .int 0, .int 0, .int 0, .int 0, .int 0, .int 0, .ref msk, .int 0, .int 0, .int 0, .ref mln, .ref mlh, .ref mfn, .ref mfi, .ref mla, .ref mpn, .ref mbo, .ref mdi, .ref mdn, .ref mdo, .ref mdh, .ref mnn, .ref mnh, .ref mkn, .ref mpt, .ref mot, .long 0, .ref mywait, .ref myheld, .int 0, .int 0, .int 0, .int 0, .int 0, .int 0, .long 0, .long 0, .ref mynames, .ref myvalue, .int 0, .int 0, .int 0, .ref mun, .ref mycan, .int 0, .int 0, .int 0, .ref myroot, .ref myoff, .int 0, .ref mtn, .ref mtc, .int 0, .int 0, .int 0, .ref mkh, .ref mkt, .ref mkc]))]) [3] (by decide) rfl
  have hFc := va_free (wc := [(mq, .inr (12, [.ref mtp, .int 0, .int 0, .ref mywords, .int 0, .int (-1), .int 0, .int 0, .int 0, .int 0, .int 0, .int 0, .int 0, .int 0, .int 0, .int 0, .int 0, .int 0, .int 0, .int 0, .int 0, .int 0, .int 0, .int 0, .ref msk, .int 0, .int 0, .int 0, .ref mln, .ref mlh, .ref mfn, .ref mfi, .ref mla, .ref mpn, .ref mbo, .ref mdi, .ref mdn, .ref mdo, .ref mdh, .ref mnn, .ref mnh, .ref mkn, .ref mpt, .ref mot, .long 0, .ref mywait, .ref myheld, .int 0, .int 0, .int 0, .int 0, .int 0, .int 0, .long 0, .long 0, .ref mynames, .ref myvalue, .int 0, .int 0, .int 0, .ref mun, .ref mycan, .int 0, .int 0, .int 0, .ref myroot, .ref myoff, .int 0, .ref mtn, .ref mtc, .int 0, .int 0, .int 0, .ref mkh, .ref mkt, .ref mkc]))]) hD hS hA [3] rfl
  refine va_calll (va_runV (As := [.int (xs 1), .int (xs 2)]) (rest := [.long (-1)]) ⟨hx, hb, hml, hown, htw⟩ (mm_length l dC dI mq ([.ref mtp, .int 0, .int 0, .ref mywords, .int 0, .int (-1), .int 0, .int 0, .int 0, .int 0, .int 0, .int 0, .int 0, .int 0, .int 0, .int 0, .int 0, .int 0, .int 0, .int 0, .int 0, .int 0, .int 0, .int 0, .ref msk, .int 0, .int 0, .int 0, .ref mln, .ref mlh, .ref mfn, .ref mfi, .ref mla, .ref mpn, .ref mbo, .ref mdi, .ref mdn, .ref mdo, .ref mdh, .ref mnn, .ref mnh, .ref mkn, .ref mpt, .ref mot, .long 0, .ref mywait, .ref myheld, .int 0, .int 0, .int 0, .int 0, .int 0, .int 0, .long 0, .long 0, .ref mynames, .ref myvalue, .int 0, .int 0, .int 0, .ref mun, .ref mycan, .int 0, .int 0, .int 0, .ref myroot, .ref myoff, .int 0, .ref mtn, .ref mtc, .int 0, .int 0, .int 0, .ref mkh, .ref mkt, .ref mkc]) (xs 1) (xs 2) H.size rfl rfl) (cwV 2 htw (xg_V (ck_35 _ (List.mem_of_getElem? (i := 2) rfl)) (ck_35 _ (List.mem_of_getElem? (i := 3) rfl)) (ck_35 _ (List.mem_of_getElem? (i := 4) rfl)) (ck_1 _ (List.mem_of_getElem? (i := 5) rfl)) (ck_35 _ (List.mem_of_getElem? (i := 5) rfl))) rfl rfl rfl (by decide +kernel) ⟨Nat.le_of_ble_eq_true rfl, Nat.le_of_ble_eq_true rfl⟩) ⟨fun a U g mk q => by obtain ⟨q0, q1, qP, qK, qD⟩ := q; exact ⟨q0, q1, qP, va_K.moved (u := U) (U := U.calling g mk a) (Vm.Alike.refl U.vm) qK, qD⟩, va_recv hKc hPc (ci := 12) (q0 := 0) rfl rfl, fun U hU hW => ⟨rfl, by rw [hU], by rw [hU]; exact hPc, va_K.moved hW.alike hKc, hDc.weaken (fun _ _ _ _ => trivial)⟩⟩ rfl rfl hl.1 rfl (lv_room (Nat.le_of_ble_eq_true rfl)) dL_law_461 ⟨Nat.le_of_ble_eq_true rfl, Nat.le_of_ble_eq_true rfl⟩) hS (fun q _ h => hFc q h) hFc (fun r_10 u_11 t H1 locs ht hvm hw hB hz1 hk1 hS => ?_)
  try dsimp only at hw
  have hP1 : va_P (dC, dI) vwCl [] H1 := fun k q h => by simp at h
  have hD1 : va_D (va_A [(mq, .inr (12, [.ref mtp, .int 0, .int 0, .ref mywords, .int 0, .int (-1), .int 0, .int 0, .int 0, .int 0, .int 0, .int 0, .int 0, .int 0, .int 0, .int 0, .int 0, .int 0, .int 0, .int 0, .int 0, .int 0, .int 0, .int 0, .ref msk, .int 0, .int 0, .int 0, .ref mln, .ref mlh, .ref mfn, .ref mfi, .ref mla, .ref mpn, .ref mbo, .ref mdi, .ref mdn, .ref mdo, .ref mdh, .ref mnn, .ref mnh, .ref mkn, .ref mpt, .ref mot, .long 0, .ref mywait, .ref myheld, .int 0, .int 0, .int 0, .int 0, .int 0, .int 0, .long 0, .long 0, .ref mynames, .ref myvalue, .int 0, .int 0, .int 0, .ref mun, .ref mycan, .int 0, .int 0, .int 0, .ref myroot, .ref myoff, .int 0, .ref mtn, .ref mtc, .int 0, .int 0, .int 0, .ref mkh, .ref mkt, .ref mkc]))] H.size) [] := ⟨fun i j p q h => by simp at h, fun k q h => by simp at h⟩
  obtain ⟨hP, hD⟩ := va_join (wr := [(x, .inr (11, [.ref xpa, .ref b, .ref xsp, .ref xdy, .ref xle, .ref xst, .int 0, .ref xim, .ref xil, .int 0, .ref xmo, .ref xom, .ref xwi])), (b, .inr (0, [.ref bto, .ref bnm, .ref bla, .ref bsk, .ref bru, .ref bbo, .ref bdi, .ref bda, .ref bdk, .ref bdt, .ref bdp, .ref bno])), (bto, .inl (bcT, 5, .inl (fun _ => 0)))]) (w1 := []) hP hD [3] [0, 1, 2] rfl rfl (by decide) (by decide) hk1 hFc hP1 hD1
  generalize H1 = H at hP hS ⊢
  have hP : va_P (dC, dI) vwCl [(x, .inr (11, [.ref xpa, .ref b, .ref xsp, .ref xdy, .ref xle, .ref xst, .int 0, .ref xim, .ref xil, .int 0, .ref xmo, .ref xom, .ref xwi])), (b, .inr (0, [.ref bto, .ref bnm, .ref bla, .ref bsk, .ref bru, .ref bbo, .ref bdi, .ref bda, .ref bdk, .ref bdt, .ref bdp, .ref bno])), (bto, .inl (bcT, 5, .inl (fun _ => 0)))] H := hP
  have hD : va_D A [(x, .inr (11, [.ref xpa, .ref b, .ref xsp, .ref xdy, .ref xle, .ref xst, .int 0, .ref xim, .ref xil, .int 0, .ref xmo, .ref xom, .ref xwi])), (b, .inr (0, [.ref bto, .ref bnm, .ref bla, .ref bsk, .ref bru, .ref bbo, .ref bdi, .ref bda, .ref bdk, .ref bdt, .ref bdp, .ref bno])), (bto, .inl (bcT, 5, .inl (fun _ => 0)))] := hD
  refine W.widen (k := 129) (n := 248806) (by omega) (by omega) ?_
  obtain rfl : r_10 = (-1) := hw
  refine W.lcmp hx hb dL_law_464 ?_
  refine lv_if_eq (tgt := 2053) hx hb dL_law_465 (by decide) (fun _ => ?_) (fun c => absurd c (by decide))
  refine lv_iinc (v := 6) (lv' := [(4, .int 6), (3, .ref o3), (2, .ref mq), (1, .ref x), (0, .ref bs)]) hx hb dL_law_2053 hl (k := 0) rfl (by decide) (by decide) rfl (fun ls hl => ?_)
  refine lv_goto (tgt := 23) hx hb dL_law_2056 (by decide) ?_
  refine lv_iload hx hb dL_law_23 (lv_at hl 0 rfl) ?_
  refine lv_aload_n hx hb dL_law_25 rfl (lv_at hl 4 rfl) ?_
  refine va_slen hx hb hX hbl hbA hS dL_law_26 ?_
  refine lv_topi (fun z_12 ez_12 => ?_)
  obtain rfl : z_12 = 6 := ez_12.trans (by decide)
  refine lv_bipush (v := 6) hx hb dL_law_27 (by decide) ?_
  refine lv_isub hx hb dL_law_29 ?_
  refine lv_topi (fun z_13 ez_13 => ?_)
  obtain rfl : z_13 = 0 := ez_13.trans (by decide)
  refine lv_icmp_gt (tgt := 2059) hx hb dL_law_30 (by decide) (fun _ => ?_) (fun c => absurd c (by decide))
  refine lv_iconst (v := 1) hx hb dL_law_2059 (by decide) ?_
  refine va_forget (fun q hq => (hAe _).mp (hS.2.2 q hq)) ?_
  refine W.widen (k := 600002) (n := 7302232) (by omega) (by omega) ?_
  exact lw_ret hx hb hr hlocks dL_law_2060

theorem dL_law_470 : decode cL_law 470 = .ok (.aload_n 1, 1) := by decide +kernel
theorem dL_law_471 : decode cL_law 471 = .ok (.aload_n 0, 1) := by decide +kernel
theorem dL_law_472 : decode cL_law 472 = .ok (.iload 4, 2) := by decide +kernel
theorem dL_law_474 : decode cL_law 474 = .ok (.iconst 1, 1) := by decide +kernel
theorem dL_law_475 : decode cL_law 475 = .ok (.iadd, 1) := by decide +kernel
theorem dL_law_476 : decode cL_law 476 = .ok (.iaload, 1) := by decide +kernel
theorem dL_law_477 : decode cL_law 477 = .ok (.aload_n 0, 1) := by decide +kernel
theorem dL_law_478 : decode cL_law 478 = .ok (.iload 4, 2) := by decide +kernel
theorem dL_law_480 : decode cL_law 480 = .ok (.iconst 2, 1) := by decide +kernel
theorem dL_law_481 : decode cL_law 481 = .ok (.iadd, 1) := by decide +kernel
theorem dL_law_482 : decode cL_law 482 = .ok (.iaload, 1) := by decide +kernel
theorem dL_law_483 : decode cL_law 483 = .ok (.i2l, 1) := by decide +kernel
theorem dL_law_484 : decode cL_law 484 = .ok (.bipush 32, 2) := by decide +kernel
theorem dL_law_486 : decode cL_law 486 = .ok (.lshl, 1) := by decide +kernel
theorem dL_law_487 : decode cL_law 487 = .ok (.aload_n 0, 1) := by decide +kernel
theorem dL_law_488 : decode cL_law 488 = .ok (.iload 4, 2) := by decide +kernel
theorem dL_law_490 : decode cL_law 490 = .ok (.iconst 3, 1) := by decide +kernel
theorem dL_law_491 : decode cL_law 491 = .ok (.iadd, 1) := by decide +kernel
theorem dL_law_492 : decode cL_law 492 = .ok (.iaload, 1) := by decide +kernel
theorem dL_law_493 : decode cL_law 493 = .ok (.i2l, 1) := by decide +kernel
theorem dL_law_494 : decode cL_law 494 = .ok (.ldc2_w 54, 3) := by decide +kernel
theorem dL_law_497 : decode cL_law 497 = .ok (.land, 1) := by decide +kernel
theorem dL_law_498 : decode cL_law 498 = .ok (.lor, 1) := by decide +kernel
theorem dL_law_499 : decode cL_law 499 = .ok (.aload_n 0, 1) := by decide +kernel
theorem dL_law_500 : decode cL_law 500 = .ok (.iload 4, 2) := by decide +kernel
theorem dL_law_502 : decode cL_law 502 = .ok (.iconst 4, 1) := by decide +kernel
theorem dL_law_503 : decode cL_law 503 = .ok (.iadd, 1) := by decide +kernel
theorem dL_law_504 : decode cL_law 504 = .ok (.iaload, 1) := by decide +kernel
theorem dL_law_505 : decode cL_law 505 = .ok (.invokevirtual 56, 3) := by decide +kernel
theorem dL_law_508 : decode cL_law 508 = .ok (.aload_n 2, 1) := by decide +kernel
theorem dL_law_509 : decode cL_law 509 = .ok (.aload_n 0, 1) := by decide +kernel
theorem dL_law_510 : decode cL_law 510 = .ok (.iload 4, 2) := by decide +kernel
theorem dL_law_512 : decode cL_law 512 = .ok (.iconst 1, 1) := by decide +kernel
theorem dL_law_513 : decode cL_law 513 = .ok (.iadd, 1) := by decide +kernel
theorem dL_law_514 : decode cL_law 514 = .ok (.iaload, 1) := by decide +kernel
theorem dL_law_515 : decode cL_law 515 = .ok (.aload_n 0, 1) := by decide +kernel
theorem dL_law_516 : decode cL_law 516 = .ok (.iload 4, 2) := by decide +kernel
theorem dL_law_518 : decode cL_law 518 = .ok (.iconst 2, 1) := by decide +kernel
theorem dL_law_519 : decode cL_law 519 = .ok (.iadd, 1) := by decide +kernel
theorem dL_law_520 : decode cL_law 520 = .ok (.iaload, 1) := by decide +kernel
theorem dL_law_521 : decode cL_law 521 = .ok (.i2l, 1) := by decide +kernel
theorem dL_law_522 : decode cL_law 522 = .ok (.bipush 32, 2) := by decide +kernel
theorem dL_law_524 : decode cL_law 524 = .ok (.lshl, 1) := by decide +kernel
theorem dL_law_525 : decode cL_law 525 = .ok (.aload_n 0, 1) := by decide +kernel
theorem dL_law_526 : decode cL_law 526 = .ok (.iload 4, 2) := by decide +kernel
theorem dL_law_528 : decode cL_law 528 = .ok (.iconst 3, 1) := by decide +kernel
theorem dL_law_529 : decode cL_law 529 = .ok (.iadd, 1) := by decide +kernel
theorem dL_law_530 : decode cL_law 530 = .ok (.iaload, 1) := by decide +kernel
theorem dL_law_531 : decode cL_law 531 = .ok (.i2l, 1) := by decide +kernel
theorem dL_law_532 : decode cL_law 532 = .ok (.ldc2_w 54, 3) := by decide +kernel
theorem dL_law_535 : decode cL_law 535 = .ok (.land, 1) := by decide +kernel
theorem dL_law_536 : decode cL_law 536 = .ok (.lor, 1) := by decide +kernel
theorem dL_law_537 : decode cL_law 537 = .ok (.aload_n 0, 1) := by decide +kernel
theorem dL_law_538 : decode cL_law 538 = .ok (.iload 4, 2) := by decide +kernel
theorem dL_law_540 : decode cL_law 540 = .ok (.iconst 4, 1) := by decide +kernel
theorem dL_law_541 : decode cL_law 541 = .ok (.iadd, 1) := by decide +kernel
theorem dL_law_542 : decode cL_law 542 = .ok (.iaload, 1) := by decide +kernel
theorem dL_law_543 : decode cL_law 543 = .ok (.invokevirtual 60, 3) := by decide +kernel
theorem dL_law_546 : decode cL_law 546 = .ok (.lcmp, 1) := by decide +kernel
theorem dL_law_547 : decode cL_law 547 = .ok (.ifCond .eq 1506, 3) := by decide +kernel
set_option maxHeartbeats 4000000 in
set_option maxRecDepth 100000 in
theorem law_date (l : Launch) (hst : l.stackTraces = false) {p : Program} {e : Env} {s : State} {m : MethodId} {below : List Frame} {meth : Method} {c : Code} {bs : Nat} {xs : Nat → Int32} (C0 : lw_At p s m meth c bs 6 xs) (dC : Nat → ClassId) (dI : Nat → Nat → Nat) (A : Nat → Prop) (hAe : ∀ q, A q ↔ s.heap.size ≤ q) (xpa : Nat) (b : Nat) (xsp : Nat) (xdy : Nat) (xle : Nat) (xst : Nat) (xim : Nat) (xil : Nat) (xmo : Nat) (xom : Nat) (xwi : Nat) (bto : Nat) (bnm : Nat) (bla : Nat) (bsk : Nat) (bru : Nat) (bbo : Nat) (bdi : Nat) (bda : Nat) (bdk : Nat) (bdt : Nat) (bdp : Nat) (bno : Nat) (bcT : ClassId) (mtp : Nat) (mywords : Nat) (msk : Nat) (mln : Nat) (mlh : Nat) (mfn : Nat) (mfi : Nat) (mla : Nat) (mpn : Nat) (mbo : Nat) (mdi : Nat) (mdn : Nat) (mdo : Nat) (mdh : Nat) (mnn : Nat) (mnh : Nat) (mkn : Nat) (mpt : Nat) (mot : Nat) (mywait : Nat) (myheld : Nat) (mynames : Nat) (myvalue : Nat) (mun : Nat) (mycan : Nat) (myroot : Nat) (myoff : Nat) (mtn : Nat) (mtc : Nat) (mkh : Nat) (mkt : Nat) (mkc : Nat) (x : Nat) (mq : Nat) (o3 : Nat)  (H : Heap) (locs : List Loc) (ls : Array Slot) (hK : va_K (dC, dI) vwCl [(bcT, .int)] s) (hP : va_P (dC, dI) vwCl [(x, .inr (11, [.ref xpa, .ref b, .ref xsp, .ref xdy, .ref xle, .ref xst, .int 0, .ref xim, .ref xil, .int 0, .ref xmo, .ref xom, .ref xwi])), (b, .inr (0, [.ref bto, .ref bnm, .ref bla, .ref bsk, .ref bru, .ref bbo, .ref bdi, .ref bda, .ref bdk, .ref bdt, .ref bdp, .ref bno])), (bto, .inl (bcT, 5, .inl (fun _ => 0))), (mq, .inr (12, [.ref mtp, .int 0, .int 0, .ref mywords, .int 0, .int (-1), .int 0, .int 0, .int 0, .int 0, .int 0, .int 0, .int 0, .int 0, .int 0, .int 0, .int 0, .int 0, .int 0, .int 0, .int 0, .int 0, .int 0, .int 0, .ref msk, .int 0, .int 0, .int 0, .ref mln, .ref mlh, .ref mfn, .ref mfi, .ref mla, .ref mpn, .ref mbo, .ref mdi, .ref mdn, .ref mdo, .ref mdh, .ref mnn, .ref mnh, .ref mkn, .ref mpt, .ref mot, .long 0, .ref mywait, .ref myheld, .int 0, .int 0, .int 0, .int 0, .int 0, .int 0, .long 0, .long 0, .ref mynames, .ref myvalue, .int 0, .int 0, .int 0, .ref mun, .ref mycan, .int 0, .int 0, .int 0, .ref myroot, .ref myoff, .int 0, .ref mtn, .ref mtc, .int 0, .int 0, .int 0, .ref mkh, .ref mkt, .ref mkc]))] H) (hD : va_D A [(x, .inr (11, [.ref xpa, .ref b, .ref xsp, .ref xdy, .ref xle, .ref xst, .int 0, .ref xim, .ref xil, .int 0, .ref xmo, .ref xom, .ref xwi])), (b, .inr (0, [.ref bto, .ref bnm, .ref bla, .ref bsk, .ref bru, .ref bbo, .ref bdi, .ref bda, .ref bdk, .ref bdt, .ref bdp, .ref bno])), (bto, .inl (bcT, 5, .inl (fun _ => 0))), (mq, .inr (12, [.ref mtp, .int 0, .int 0, .ref mywords, .int 0, .int (-1), .int 0, .int 0, .int 0, .int 0, .int 0, .int 0, .int 0, .int 0, .int 0, .int 0, .int 0, .int 0, .int 0, .int 0, .int 0, .int 0, .int 0, .int 0, .ref msk, .int 0, .int 0, .int 0, .ref mln, .ref mlh, .ref mfn, .ref mfi, .ref mla, .ref mpn, .ref mbo, .ref mdi, .ref mdn, .ref mdo, .ref mdh, .ref mnn, .ref mnh, .ref mkn, .ref mpt, .ref mot, .long 0, .ref mywait, .ref myheld, .int 0, .int 0, .int 0, .int 0, .int 0, .int 0, .long 0, .long 0, .ref mynames, .ref myvalue, .int 0, .int 0, .int 0, .ref mun, .ref mycan, .int 0, .int 0, .int 0, .ref myroot, .ref myoff, .int 0, .ref mtn, .ref mtc, .int 0, .int 0, .int 0, .ref mkh, .ref mkt, .ref mkc]))]) (hS : va_S A s.heap H locs) (hl : lv_has ls 7 [(4, .int 0), (3, .ref o3), (2, .ref mq), (1, .ref x), (0, .ref bs)]) : W p l e room_1 s m #[Value.ref bs] below meth c H locs 129 248806 (lw_Z below #[Value.ref bs] s) (F0 m 470 ls []) := by
  obtain ⟨hx, hb, hr, hml, hown, hts, hX, hbl, hlocks, hgv⟩ := id C0
  have htw : ∀ w ∈ wsL_law, w.before _ s = true := fun w h => hts w (wsL_law_in w h)
  have hown : s.vm.findClass RL = some m.cls := hown
  have hA : ∀ q : Nat, s.heap.size ≤ q → A q := fun q h => (hAe q).mpr h
  have hbA : ¬ A bs := fun h => absurd ((hAe bs).mp h) (Nat.not_le.mpr hbl)
  refine lv_aload_n hx hb dL_law_470 rfl (lv_at hl 3 rfl) ?_
  refine lv_aload_n hx hb dL_law_471 rfl (lv_at hl 4 rfl) ?_
  refine lv_iload hx hb dL_law_472 (lv_at hl 0 rfl) ?_
  refine lv_iconst (v := 1) hx hb dL_law_474 (by decide) ?_
  refine lv_iadd hx hb dL_law_475 ?_
  refine lv_topi (fun z_1 ez_1 => ?_)
  obtain rfl : z_1 = 1 := ez_1.trans (by decide)
  refine va_sld hx hb hX hbl hbA hS (by unfold vp_in; decide) dL_law_476 ?_
  refine lv_topi (fun z_2 ez_2 => ?_)
  obtain rfl : z_2 = xs 1 := ez_2
  refine lv_aload_n hx hb dL_law_477 rfl (lv_at hl 4 rfl) ?_
  refine lv_iload hx hb dL_law_478 (lv_at hl 0 rfl) ?_
  refine lv_iconst (v := 2) hx hb dL_law_480 (by decide) ?_
  refine lv_iadd hx hb dL_law_481 ?_
  refine lv_topi (fun z_3 ez_3 => ?_)
  obtain rfl : z_3 = 2 := ez_3.trans (by decide)
  refine va_sld hx hb hX hbl hbA hS (by unfold vp_in; decide) dL_law_482 ?_
  refine lv_topi (fun z_4 ez_4 => ?_)
  obtain rfl : z_4 = xs 2 := ez_4
  refine lv_i2l (v := (xs 2).toInt64) hx hb dL_law_483 rfl ?_
  refine lv_bipush (v := 32) hx hb dL_law_484 (by decide) ?_
  refine lv_lshl (v := (((xs 2).toInt64) <<< ((32 : Int32).toInt64 &&& 63))) hx hb dL_law_486 rfl ?_
  refine lv_aload_n hx hb dL_law_487 rfl (lv_at hl 4 rfl) ?_
  refine lv_iload hx hb dL_law_488 (lv_at hl 0 rfl) ?_
  refine lv_iconst (v := 3) hx hb dL_law_490 (by decide) ?_
  refine lv_iadd hx hb dL_law_491 ?_
  refine lv_topi (fun z_5 ez_5 => ?_)
  obtain rfl : z_5 = 3 := ez_5.trans (by decide)
  refine va_sld hx hb hX hbl hbA hS (by unfold vp_in; decide) dL_law_492 ?_
  refine lv_topi (fun z_6 ez_6 => ?_)
  obtain rfl : z_6 = xs 3 := ez_6
  refine lv_i2l (v := (xs 3).toInt64) hx hb dL_law_493 rfl ?_
  refine lv_ldc2 (v := 4294967295) hx hb hown (htw _ (ck_1 _ (List.mem_of_getElem? (i := 7) rfl))) dL_law_494 ?_
  refine lv_land hx hb dL_law_497 ?_
  refine lv_lor hx hb dL_law_498 ?_
  refine lv_aload_n hx hb dL_law_499 rfl (lv_at hl 4 rfl) ?_
  refine lv_iload hx hb dL_law_500 (lv_at hl 0 rfl) ?_
  refine lv_iconst (v := 4) hx hb dL_law_502 (by decide) ?_
  refine lv_iadd hx hb dL_law_503 ?_
  refine lv_topi (fun z_7 ez_7 => ?_)
  obtain rfl : z_7 = 4 := ez_7.trans (by decide)
  refine va_sld hx hb hX hbl hbA hS (by unfold vp_in; decide) dL_law_504 ?_
  refine lv_topi (fun z_8 ez_8 => ?_)
  obtain rfl : z_8 = xs 4 := ez_8
  have hPc := hP.sub (ws' := [(x, .inr (11, [.ref xpa, .ref b, .ref xsp, .ref xdy, .ref xle, .ref xst, .int 0, .ref xim, .ref xil, .int 0, .ref xmo, .ref xom, .ref xwi])), (b, .inr (0, [.ref bto, .ref bnm, .ref bla, .ref bsk, .ref bru, .ref bbo, .ref bdi, .ref bda, .ref bdk, .ref bdt, .ref bdp, .ref bno])), (bto, .inl (bcT, 5, .inl (fun _ => 0)))]) [0, 1, 2] rfl
  have hKc := hK.sub (tys' := [(bcT, .int)]) [0] rfl
  refine vp_callSl (W.runV (As := [.int (xs 1), .long ((((xs 2).toInt64) <<< ((32 : Int32).toInt64 &&& 63)) ||| (((xs 3).toInt64) &&& 4294967295)), .int (xs 4)]) (rest := []) ⟨hx, hb, hml, hown, htw⟩ (mx_date l dC dI x xpa xsp xdy xle xst xim xil xmo xom xwi b bto bnm bla bsk bru bbo bdi bda bdk bdt bdp bno bcT (xs 1) ((((xs 2).toInt64) <<< ((32 : Int32).toInt64 &&& 63)) ||| (((xs 3).toInt64) &&& 4294967295)) (xs 4)) (cwV 3 htw (xg_V (ck_35 _ (List.mem_of_getElem? (i := 11) rfl)) (ck_35 _ (List.mem_of_getElem? (i := 12) rfl)) (ck_35 _ (List.mem_of_getElem? (i := 13) rfl)) (ck_1 _ (List.mem_of_getElem? (i := 2) rfl)) (ck_35 _ (List.mem_of_getElem? (i := 14) rfl))) rfl rfl rfl (by decide +kernel) ⟨Nat.le_of_ble_eq_true rfl, Nat.le_of_ble_eq_true rfl⟩) ⟨fun a U g mk q => by obtain ⟨q0, qP, qK⟩ := q; exact ⟨q0, qP, va_K.moved (u := U) (U := U.calling g mk a) (Vm.Alike.refl U.vm) qK⟩, va_recv hKc hPc (ci := 11) (q0 := 0) rfl rfl, fun U hU hW => ⟨rfl, by rw [hU]; exact hPc, va_K.moved hW.alike hKc⟩⟩ rfl rfl hl.1 rfl (lv_room (Nat.le_of_ble_eq_true rfl)) dL_law_505 ⟨Nat.le_of_ble_eq_true rfl, Nat.le_of_ble_eq_true rfl⟩) (fun r_9 hw => ?_)
  try dsimp only at hw
  obtain rfl : r_9 = (-1) := hw
  refine lv_aload_n hx hb dL_law_508 rfl (lv_at hl 2 rfl) ?_
  refine lv_aload_n hx hb dL_law_509 rfl (lv_at hl 4 rfl) ?_
  refine lv_iload hx hb dL_law_510 (lv_at hl 0 rfl) ?_
  refine lv_iconst (v := 1) hx hb dL_law_512 (by decide) ?_
  refine lv_iadd hx hb dL_law_513 ?_
  refine lv_topi (fun z_10 ez_10 => ?_)
  obtain rfl : z_10 = 1 := ez_10.trans (by decide)
  refine va_sld hx hb hX hbl hbA hS (by unfold vp_in; decide) dL_law_514 ?_
  refine lv_topi (fun z_11 ez_11 => ?_)
  obtain rfl : z_11 = xs 1 := ez_11
  refine lv_aload_n hx hb dL_law_515 rfl (lv_at hl 4 rfl) ?_
  refine lv_iload hx hb dL_law_516 (lv_at hl 0 rfl) ?_
  refine lv_iconst (v := 2) hx hb dL_law_518 (by decide) ?_
  refine lv_iadd hx hb dL_law_519 ?_
  refine lv_topi (fun z_12 ez_12 => ?_)
  obtain rfl : z_12 = 2 := ez_12.trans (by decide)
  refine va_sld hx hb hX hbl hbA hS (by unfold vp_in; decide) dL_law_520 ?_
  refine lv_topi (fun z_13 ez_13 => ?_)
  obtain rfl : z_13 = xs 2 := ez_13
  refine lv_i2l (v := (xs 2).toInt64) hx hb dL_law_521 rfl ?_
  refine lv_bipush (v := 32) hx hb dL_law_522 (by decide) ?_
  refine lv_lshl (v := (((xs 2).toInt64) <<< ((32 : Int32).toInt64 &&& 63))) hx hb dL_law_524 rfl ?_
  refine lv_aload_n hx hb dL_law_525 rfl (lv_at hl 4 rfl) ?_
  refine lv_iload hx hb dL_law_526 (lv_at hl 0 rfl) ?_
  refine lv_iconst (v := 3) hx hb dL_law_528 (by decide) ?_
  refine lv_iadd hx hb dL_law_529 ?_
  refine lv_topi (fun z_14 ez_14 => ?_)
  obtain rfl : z_14 = 3 := ez_14.trans (by decide)
  refine va_sld hx hb hX hbl hbA hS (by unfold vp_in; decide) dL_law_530 ?_
  refine lv_topi (fun z_15 ez_15 => ?_)
  obtain rfl : z_15 = xs 3 := ez_15
  refine lv_i2l (v := (xs 3).toInt64) hx hb dL_law_531 rfl ?_
  refine lv_ldc2 (v := 4294967295) hx hb hown (htw _ (ck_1 _ (List.mem_of_getElem? (i := 7) rfl))) dL_law_532 ?_
  refine lv_land hx hb dL_law_535 ?_
  refine lv_lor hx hb dL_law_536 ?_
  refine lv_aload_n hx hb dL_law_537 rfl (lv_at hl 4 rfl) ?_
  refine lv_iload hx hb dL_law_538 (lv_at hl 0 rfl) ?_
  refine lv_iconst (v := 4) hx hb dL_law_540 (by decide) ?_
  refine lv_iadd hx hb dL_law_541 ?_
  refine lv_topi (fun z_16 ez_16 => ?_)
  obtain rfl : z_16 = 4 := ez_16.trans (by decide)
  refine va_sld hx hb hX hbl hbA hS (by unfold vp_in; decide) dL_law_542 ?_
  refine lv_topi (fun z_17 ez_17 => ?_)
  obtain rfl : z_17 = xs 4 := ez_17
  have hPc := hP.sub (ws' := [(mq, .inr (12, [.ref mtp, .int 0, .int 0, .ref mywords, .int 0, .int (-1), .int 0, .int 0, .int 0, .int 0, .int 0, .int 0, .int 0, .int 0, .int 0, .int 0, .int 0, .int 0, .int 0, .int 0, .int 0, .int 0, .int 0, .int 0, .ref msk, .int 0, .int 0, .int 0, .ref mln, .ref mlh, .ref mfn, .ref mfi, .ref mla, .ref mpn, .ref mbo, .ref mdi, .ref mdn, .ref mdo, .ref mdh, .ref mnn, .ref mnh, .ref mkn, .ref mpt, .ref mot, .long 0, .ref mywait, .ref myheld, .int 0, .int 0, .int 0, .int 0, .int 0, .int 0, .long 0, .long 0, .ref mynames, .ref myvalue, .int 0, .int 0, .int 0, .ref mun, .ref mycan, .int 0, .int 0, .int 0, .ref myroot, .ref myoff, .int 0, .ref mtn, .ref mtc, .int 0, .int 0, .int 0, .ref mkh, .ref mkt, .ref mkc]))]) [3] rfl
  have hKc := hK.sub (tys' := []) [] rfl
  have hDc := hD.sub (ws' := [(mq, .inr (12, [.ref mtp, .int 0, .int 0, .ref mywords, .int 0, .int (-1), .int 0, .int 0, .int 0, .int 0, .int 0, .int 0, .int 0, .int 0, .int 0, .int 0, .int 0, .int 0, .int 0, .int 0, .int 0, .int 0, .int 0, .int 0, .ref msk, .int 0, .int 0, .int 0, .ref mln, .ref mlh, .ref mfn, .ref mfi, .ref mla, .ref mpn, .ref mbo, .ref mdi, .ref mdn, .ref mdo, .ref mdh, .ref mnn, .ref mnh, .ref mkn, .ref mpt, .ref mot, .long 0, .ref mywait, .ref myheld, .int 0, .int 0, .int 0, .int 0, .int 0, .int 0, .long 0, .long 0, .ref mynames, .ref myvalue, .int 0, .int 0, .int 0, .ref mun, .ref mycan, .int 0, .int 0, .int 0, .ref myroot, .ref myoff, .int 0, .ref mtn, .ref mtc, .int 0, .int 0, .int 0, .ref mkh, .ref mkt, .ref mkc]))]) [3] (by decide) rfl
  have hFc := va_free (wc := [(mq, .inr (12, [.ref mtp, .int 0, .int 0, .ref mywords, .int 0, .int (-1), .int 0, .int 0, .int 0, .int 0, .int 0, .int 0, .int 0, .int 0, .int 0, .int 0, .int 0, .int 0, .int 0, .int 0, .int 0, .int 0, .int 0, .int 0, .ref msk, .int 0, .int 0, .int 0, .ref mln, .ref mlh, .ref mfn, .ref mfi, .ref mla, .ref mpn, .ref mbo, .ref mdi, .ref mdn, .ref mdo, .ref mdh, .ref mnn, .ref mnh, .ref mkn, .ref mpt, .ref mot, .long 0, .ref mywait, .ref myheld, .int 0, .int 0, .int 0, .int 0, .int 0, .int 0, .long 0, .long 0, .ref mynames, .ref myvalue, .int 0, .int 0, .int 0, .ref mun, .ref mycan, .int 0, .int 0, .int 0, .ref myroot, .ref myoff, .int 0, .ref mtn, .ref mtc, .int 0, .int 0, .int 0, .ref mkh, .ref mkt, .ref mkc]))]) hD hS hA [3] rfl
  refine va_calll (va_runV (As := [.int (xs 1), .long ((((xs 2).toInt64) <<< ((32 : Int32).toInt64 &&& 63)) ||| (((xs 3).toInt64) &&& 4294967295)), .int (xs 4)]) (rest := [.long (-1)]) ⟨hx, hb, hml, hown, htw⟩ (mm_date l dC dI mq ([.ref mtp, .int 0, .int 0, .ref mywords, .int 0, .int (-1), .int 0, .int 0, .int 0, .int 0, .int 0, .int 0, .int 0, .int 0, .int 0, .int 0, .int 0, .int 0, .int 0, .int 0, .int 0, .int 0, .int 0, .int 0, .ref msk, .int 0, .int 0, .int 0, .ref mln, .ref mlh, .ref mfn, .ref mfi, .ref mla, .ref mpn, .ref mbo, .ref mdi, .ref mdn, .ref mdo, .ref mdh, .ref mnn, .ref mnh, .ref mkn, .ref mpt, .ref mot, .long 0, .ref mywait, .ref myheld, .int 0, .int 0, .int 0, .int 0, .int 0, .int 0, .long 0, .long 0, .ref mynames, .ref myvalue, .int 0, .int 0, .int 0, .ref mun, .ref mycan, .int 0, .int 0, .int 0, .ref myroot, .ref myoff, .int 0, .ref mtn, .ref mtc, .int 0, .int 0, .int 0, .ref mkh, .ref mkt, .ref mkc]) (xs 1) ((((xs 2).toInt64) <<< ((32 : Int32).toInt64 &&& 63)) ||| (((xs 3).toInt64) &&& 4294967295)) (xs 4) H.size rfl rfl) (cwV 3 htw (xg_V (ck_36 _ (List.mem_of_getElem? (i := 6) rfl)) (ck_36 _ (List.mem_of_getElem? (i := 7) rfl)) (ck_36 _ (List.mem_of_getElem? (i := 8) rfl)) (ck_1 _ (List.mem_of_getElem? (i := 5) rfl)) (ck_36 _ (List.mem_of_getElem? (i := 9) rfl))) rfl rfl rfl (by decide +kernel) ⟨Nat.le_of_ble_eq_true rfl, Nat.le_of_ble_eq_true rfl⟩) ⟨fun a U g mk q => by obtain ⟨q0, q1, qP, qK, qD⟩ := q; exact ⟨q0, q1, qP, va_K.moved (u := U) (U := U.calling g mk a) (Vm.Alike.refl U.vm) qK, qD⟩, va_recv hKc hPc (ci := 12) (q0 := 0) rfl rfl, fun U hU hW => ⟨rfl, by rw [hU], by rw [hU]; exact hPc, va_K.moved hW.alike hKc, hDc.weaken (fun _ _ _ _ => trivial)⟩⟩ rfl rfl hl.1 rfl (lv_room (Nat.le_of_ble_eq_true rfl)) dL_law_543 ⟨Nat.le_of_ble_eq_true rfl, Nat.le_of_ble_eq_true rfl⟩) hS (fun q _ h => hFc q h) hFc (fun r_18 u_19 t H1 locs ht hvm hw hB hz1 hk1 hS => ?_)
  try dsimp only at hw
  have hP1 : va_P (dC, dI) vwCl [] H1 := fun k q h => by simp at h
  have hD1 : va_D (va_A [(mq, .inr (12, [.ref mtp, .int 0, .int 0, .ref mywords, .int 0, .int (-1), .int 0, .int 0, .int 0, .int 0, .int 0, .int 0, .int 0, .int 0, .int 0, .int 0, .int 0, .int 0, .int 0, .int 0, .int 0, .int 0, .int 0, .int 0, .ref msk, .int 0, .int 0, .int 0, .ref mln, .ref mlh, .ref mfn, .ref mfi, .ref mla, .ref mpn, .ref mbo, .ref mdi, .ref mdn, .ref mdo, .ref mdh, .ref mnn, .ref mnh, .ref mkn, .ref mpt, .ref mot, .long 0, .ref mywait, .ref myheld, .int 0, .int 0, .int 0, .int 0, .int 0, .int 0, .long 0, .long 0, .ref mynames, .ref myvalue, .int 0, .int 0, .int 0, .ref mun, .ref mycan, .int 0, .int 0, .int 0, .ref myroot, .ref myoff, .int 0, .ref mtn, .ref mtc, .int 0, .int 0, .int 0, .ref mkh, .ref mkt, .ref mkc]))] H.size) [] := ⟨fun i j p q h => by simp at h, fun k q h => by simp at h⟩
  obtain ⟨hP, hD⟩ := va_join (wr := [(x, .inr (11, [.ref xpa, .ref b, .ref xsp, .ref xdy, .ref xle, .ref xst, .int 0, .ref xim, .ref xil, .int 0, .ref xmo, .ref xom, .ref xwi])), (b, .inr (0, [.ref bto, .ref bnm, .ref bla, .ref bsk, .ref bru, .ref bbo, .ref bdi, .ref bda, .ref bdk, .ref bdt, .ref bdp, .ref bno])), (bto, .inl (bcT, 5, .inl (fun _ => 0)))]) (w1 := []) hP hD [3] [0, 1, 2] rfl rfl (by decide) (by decide) hk1 hFc hP1 hD1
  generalize H1 = H at hP hS ⊢
  have hP : va_P (dC, dI) vwCl [(x, .inr (11, [.ref xpa, .ref b, .ref xsp, .ref xdy, .ref xle, .ref xst, .int 0, .ref xim, .ref xil, .int 0, .ref xmo, .ref xom, .ref xwi])), (b, .inr (0, [.ref bto, .ref bnm, .ref bla, .ref bsk, .ref bru, .ref bbo, .ref bdi, .ref bda, .ref bdk, .ref bdt, .ref bdp, .ref bno])), (bto, .inl (bcT, 5, .inl (fun _ => 0)))] H := hP
  have hD : va_D A [(x, .inr (11, [.ref xpa, .ref b, .ref xsp, .ref xdy, .ref xle, .ref xst, .int 0, .ref xim, .ref xil, .int 0, .ref xmo, .ref xom, .ref xwi])), (b, .inr (0, [.ref bto, .ref bnm, .ref bla, .ref bsk, .ref bru, .ref bbo, .ref bdi, .ref bda, .ref bdk, .ref bdt, .ref bdp, .ref bno])), (bto, .inl (bcT, 5, .inl (fun _ => 0)))] := hD
  refine W.widen (k := 129) (n := 248806) (by omega) (by omega) ?_
  obtain rfl : r_18 = (-1) := hw
  refine W.lcmp hx hb dL_law_546 ?_
  refine lv_if_eq (tgt := 2053) hx hb dL_law_547 (by decide) (fun _ => ?_) (fun c => absurd c (by decide))
  refine lv_iinc (v := 6) (lv' := [(4, .int 6), (3, .ref o3), (2, .ref mq), (1, .ref x), (0, .ref bs)]) hx hb dL_law_2053 hl (k := 0) rfl (by decide) (by decide) rfl (fun ls hl => ?_)
  refine lv_goto (tgt := 23) hx hb dL_law_2056 (by decide) ?_
  refine lv_iload hx hb dL_law_23 (lv_at hl 0 rfl) ?_
  refine lv_aload_n hx hb dL_law_25 rfl (lv_at hl 4 rfl) ?_
  refine va_slen hx hb hX hbl hbA hS dL_law_26 ?_
  refine lv_topi (fun z_20 ez_20 => ?_)
  obtain rfl : z_20 = 6 := ez_20.trans (by decide)
  refine lv_bipush (v := 6) hx hb dL_law_27 (by decide) ?_
  refine lv_isub hx hb dL_law_29 ?_
  refine lv_topi (fun z_21 ez_21 => ?_)
  obtain rfl : z_21 = 0 := ez_21.trans (by decide)
  refine lv_icmp_gt (tgt := 2059) hx hb dL_law_30 (by decide) (fun _ => ?_) (fun c => absurd c (by decide))
  refine lv_iconst (v := 1) hx hb dL_law_2059 (by decide) ?_
  refine va_forget (fun q hq => (hAe _).mp (hS.2.2 q hq)) ?_
  refine W.widen (k := 600002) (n := 7302232) (by omega) (by omega) ?_
  exact lw_ret hx hb hr hlocks dL_law_2060

theorem dL_law_552 : decode cL_law 552 = .ok (.aload_n 1, 1) := by decide +kernel
theorem dL_law_553 : decode cL_law 553 = .ok (.aload_n 0, 1) := by decide +kernel
theorem dL_law_554 : decode cL_law 554 = .ok (.iload 4, 2) := by decide +kernel
theorem dL_law_556 : decode cL_law 556 = .ok (.iconst 1, 1) := by decide +kernel
theorem dL_law_557 : decode cL_law 557 = .ok (.iadd, 1) := by decide +kernel
theorem dL_law_558 : decode cL_law 558 = .ok (.iaload, 1) := by decide +kernel
theorem dL_law_559 : decode cL_law 559 = .ok (.aload_n 0, 1) := by decide +kernel
theorem dL_law_560 : decode cL_law 560 = .ok (.iload 4, 2) := by decide +kernel
theorem dL_law_562 : decode cL_law 562 = .ok (.iconst 2, 1) := by decide +kernel
theorem dL_law_563 : decode cL_law 563 = .ok (.iadd, 1) := by decide +kernel
theorem dL_law_564 : decode cL_law 564 = .ok (.iaload, 1) := by decide +kernel
theorem dL_law_565 : decode cL_law 565 = .ok (.aload_n 0, 1) := by decide +kernel
theorem dL_law_566 : decode cL_law 566 = .ok (.iload 4, 2) := by decide +kernel
theorem dL_law_568 : decode cL_law 568 = .ok (.iconst 3, 1) := by decide +kernel
theorem dL_law_569 : decode cL_law 569 = .ok (.iadd, 1) := by decide +kernel
theorem dL_law_570 : decode cL_law 570 = .ok (.iaload, 1) := by decide +kernel
theorem dL_law_571 : decode cL_law 571 = .ok (.i2l, 1) := by decide +kernel
theorem dL_law_572 : decode cL_law 572 = .ok (.bipush 32, 2) := by decide +kernel
theorem dL_law_574 : decode cL_law 574 = .ok (.lshl, 1) := by decide +kernel
theorem dL_law_575 : decode cL_law 575 = .ok (.aload_n 0, 1) := by decide +kernel
theorem dL_law_576 : decode cL_law 576 = .ok (.iload 4, 2) := by decide +kernel
theorem dL_law_578 : decode cL_law 578 = .ok (.iconst 4, 1) := by decide +kernel
theorem dL_law_579 : decode cL_law 579 = .ok (.iadd, 1) := by decide +kernel
theorem dL_law_580 : decode cL_law 580 = .ok (.iaload, 1) := by decide +kernel
theorem dL_law_581 : decode cL_law 581 = .ok (.i2l, 1) := by decide +kernel
theorem dL_law_582 : decode cL_law 582 = .ok (.ldc2_w 54, 3) := by decide +kernel
theorem dL_law_585 : decode cL_law 585 = .ok (.land, 1) := by decide +kernel
theorem dL_law_586 : decode cL_law 586 = .ok (.lor, 1) := by decide +kernel
theorem dL_law_587 : decode cL_law 587 = .ok (.invokevirtual 61, 3) := by decide +kernel
theorem dL_law_590 : decode cL_law 590 = .ok (.aload_n 2, 1) := by decide +kernel
theorem dL_law_591 : decode cL_law 591 = .ok (.aload_n 0, 1) := by decide +kernel
theorem dL_law_592 : decode cL_law 592 = .ok (.iload 4, 2) := by decide +kernel
theorem dL_law_594 : decode cL_law 594 = .ok (.iconst 1, 1) := by decide +kernel
theorem dL_law_595 : decode cL_law 595 = .ok (.iadd, 1) := by decide +kernel
theorem dL_law_596 : decode cL_law 596 = .ok (.iaload, 1) := by decide +kernel
theorem dL_law_597 : decode cL_law 597 = .ok (.aload_n 0, 1) := by decide +kernel
theorem dL_law_598 : decode cL_law 598 = .ok (.iload 4, 2) := by decide +kernel
theorem dL_law_600 : decode cL_law 600 = .ok (.iconst 2, 1) := by decide +kernel
theorem dL_law_601 : decode cL_law 601 = .ok (.iadd, 1) := by decide +kernel
theorem dL_law_602 : decode cL_law 602 = .ok (.iaload, 1) := by decide +kernel
theorem dL_law_603 : decode cL_law 603 = .ok (.aload_n 0, 1) := by decide +kernel
theorem dL_law_604 : decode cL_law 604 = .ok (.iload 4, 2) := by decide +kernel
theorem dL_law_606 : decode cL_law 606 = .ok (.iconst 3, 1) := by decide +kernel
theorem dL_law_607 : decode cL_law 607 = .ok (.iadd, 1) := by decide +kernel
theorem dL_law_608 : decode cL_law 608 = .ok (.iaload, 1) := by decide +kernel
theorem dL_law_609 : decode cL_law 609 = .ok (.i2l, 1) := by decide +kernel
theorem dL_law_610 : decode cL_law 610 = .ok (.bipush 32, 2) := by decide +kernel
theorem dL_law_612 : decode cL_law 612 = .ok (.lshl, 1) := by decide +kernel
theorem dL_law_613 : decode cL_law 613 = .ok (.aload_n 0, 1) := by decide +kernel
theorem dL_law_614 : decode cL_law 614 = .ok (.iload 4, 2) := by decide +kernel
theorem dL_law_616 : decode cL_law 616 = .ok (.iconst 4, 1) := by decide +kernel
theorem dL_law_617 : decode cL_law 617 = .ok (.iadd, 1) := by decide +kernel
theorem dL_law_618 : decode cL_law 618 = .ok (.iaload, 1) := by decide +kernel
theorem dL_law_619 : decode cL_law 619 = .ok (.i2l, 1) := by decide +kernel
theorem dL_law_620 : decode cL_law 620 = .ok (.ldc2_w 54, 3) := by decide +kernel
theorem dL_law_623 : decode cL_law 623 = .ok (.land, 1) := by decide +kernel
theorem dL_law_624 : decode cL_law 624 = .ok (.lor, 1) := by decide +kernel
theorem dL_law_625 : decode cL_law 625 = .ok (.invokevirtual 65, 3) := by decide +kernel
theorem dL_law_628 : decode cL_law 628 = .ok (.lcmp, 1) := by decide +kernel
theorem dL_law_629 : decode cL_law 629 = .ok (.ifCond .eq 1424, 3) := by decide +kernel
set_option maxHeartbeats 4000000 in
set_option maxRecDepth 100000 in
theorem law_count (l : Launch) (hst : l.stackTraces = false) {p : Program} {e : Env} {s : State} {m : MethodId} {below : List Frame} {meth : Method} {c : Code} {bs : Nat} {xs : Nat → Int32} (C0 : lw_At p s m meth c bs 6 xs) (dC : Nat → ClassId) (dI : Nat → Nat → Nat) (A : Nat → Prop) (hAe : ∀ q, A q ↔ s.heap.size ≤ q) (xpa : Nat) (b : Nat) (xsp : Nat) (xdy : Nat) (xle : Nat) (xst : Nat) (xim : Nat) (xil : Nat) (xmo : Nat) (xom : Nat) (xwi : Nat) (bto : Nat) (bnm : Nat) (bla : Nat) (bsk : Nat) (bru : Nat) (bbo : Nat) (bdi : Nat) (bda : Nat) (bdk : Nat) (bdt : Nat) (bdp : Nat) (bno : Nat) (bcT : ClassId) (mtp : Nat) (mywords : Nat) (msk : Nat) (mln : Nat) (mlh : Nat) (mfn : Nat) (mfi : Nat) (mla : Nat) (mpn : Nat) (mbo : Nat) (mdi : Nat) (mdn : Nat) (mdo : Nat) (mdh : Nat) (mnn : Nat) (mnh : Nat) (mkn : Nat) (mpt : Nat) (mot : Nat) (mywait : Nat) (myheld : Nat) (mynames : Nat) (myvalue : Nat) (mun : Nat) (mycan : Nat) (myroot : Nat) (myoff : Nat) (mtn : Nat) (mtc : Nat) (mkh : Nat) (mkt : Nat) (mkc : Nat) (x : Nat) (mq : Nat) (o3 : Nat)  (H : Heap) (locs : List Loc) (ls : Array Slot) (hK : va_K (dC, dI) vwCl [(bcT, .int)] s) (hP : va_P (dC, dI) vwCl [(x, .inr (11, [.ref xpa, .ref b, .ref xsp, .ref xdy, .ref xle, .ref xst, .int 0, .ref xim, .ref xil, .int 0, .ref xmo, .ref xom, .ref xwi])), (b, .inr (0, [.ref bto, .ref bnm, .ref bla, .ref bsk, .ref bru, .ref bbo, .ref bdi, .ref bda, .ref bdk, .ref bdt, .ref bdp, .ref bno])), (bto, .inl (bcT, 5, .inl (fun _ => 0))), (mq, .inr (12, [.ref mtp, .int 0, .int 0, .ref mywords, .int 0, .int (-1), .int 0, .int 0, .int 0, .int 0, .int 0, .int 0, .int 0, .int 0, .int 0, .int 0, .int 0, .int 0, .int 0, .int 0, .int 0, .int 0, .int 0, .int 0, .ref msk, .int 0, .int 0, .int 0, .ref mln, .ref mlh, .ref mfn, .ref mfi, .ref mla, .ref mpn, .ref mbo, .ref mdi, .ref mdn, .ref mdo, .ref mdh, .ref mnn, .ref mnh, .ref mkn, .ref mpt, .ref mot, .long 0, .ref mywait, .ref myheld, .int 0, .int 0, .int 0, .int 0, .int 0, .int 0, .long 0, .long 0, .ref mynames, .ref myvalue, .int 0, .int 0, .int 0, .ref mun, .ref mycan, .int 0, .int 0, .int 0, .ref myroot, .ref myoff, .int 0, .ref mtn, .ref mtc, .int 0, .int 0, .int 0, .ref mkh, .ref mkt, .ref mkc]))] H) (hD : va_D A [(x, .inr (11, [.ref xpa, .ref b, .ref xsp, .ref xdy, .ref xle, .ref xst, .int 0, .ref xim, .ref xil, .int 0, .ref xmo, .ref xom, .ref xwi])), (b, .inr (0, [.ref bto, .ref bnm, .ref bla, .ref bsk, .ref bru, .ref bbo, .ref bdi, .ref bda, .ref bdk, .ref bdt, .ref bdp, .ref bno])), (bto, .inl (bcT, 5, .inl (fun _ => 0))), (mq, .inr (12, [.ref mtp, .int 0, .int 0, .ref mywords, .int 0, .int (-1), .int 0, .int 0, .int 0, .int 0, .int 0, .int 0, .int 0, .int 0, .int 0, .int 0, .int 0, .int 0, .int 0, .int 0, .int 0, .int 0, .int 0, .int 0, .ref msk, .int 0, .int 0, .int 0, .ref mln, .ref mlh, .ref mfn, .ref mfi, .ref mla, .ref mpn, .ref mbo, .ref mdi, .ref mdn, .ref mdo, .ref mdh, .ref mnn, .ref mnh, .ref mkn, .ref mpt, .ref mot, .long 0, .ref mywait, .ref myheld, .int 0, .int 0, .int 0, .int 0, .int 0, .int 0, .long 0, .long 0, .ref mynames, .ref myvalue, .int 0, .int 0, .int 0, .ref mun, .ref mycan, .int 0, .int 0, .int 0, .ref myroot, .ref myoff, .int 0, .ref mtn, .ref mtc, .int 0, .int 0, .int 0, .ref mkh, .ref mkt, .ref mkc]))]) (hS : va_S A s.heap H locs) (hl : lv_has ls 7 [(4, .int 0), (3, .ref o3), (2, .ref mq), (1, .ref x), (0, .ref bs)]) : W p l e room_1 s m #[Value.ref bs] below meth c H locs 129 248806 (lw_Z below #[Value.ref bs] s) (F0 m 552 ls []) := by
  obtain ⟨hx, hb, hr, hml, hown, hts, hX, hbl, hlocks, hgv⟩ := id C0
  have htw : ∀ w ∈ wsL_law, w.before _ s = true := fun w h => hts w (wsL_law_in w h)
  have hown : s.vm.findClass RL = some m.cls := hown
  have hA : ∀ q : Nat, s.heap.size ≤ q → A q := fun q h => (hAe q).mpr h
  have hbA : ¬ A bs := fun h => absurd ((hAe bs).mp h) (Nat.not_le.mpr hbl)
  refine lv_aload_n hx hb dL_law_552 rfl (lv_at hl 3 rfl) ?_
  refine lv_aload_n hx hb dL_law_553 rfl (lv_at hl 4 rfl) ?_
  refine lv_iload hx hb dL_law_554 (lv_at hl 0 rfl) ?_
  refine lv_iconst (v := 1) hx hb dL_law_556 (by decide) ?_
  refine lv_iadd hx hb dL_law_557 ?_
  refine lv_topi (fun z_1 ez_1 => ?_)
  obtain rfl : z_1 = 1 := ez_1.trans (by decide)
  refine va_sld hx hb hX hbl hbA hS (by unfold vp_in; decide) dL_law_558 ?_
  refine lv_topi (fun z_2 ez_2 => ?_)
  obtain rfl : z_2 = xs 1 := ez_2
  refine lv_aload_n hx hb dL_law_559 rfl (lv_at hl 4 rfl) ?_
  refine lv_iload hx hb dL_law_560 (lv_at hl 0 rfl) ?_
  refine lv_iconst (v := 2) hx hb dL_law_562 (by decide) ?_
  refine lv_iadd hx hb dL_law_563 ?_
  refine lv_topi (fun z_3 ez_3 => ?_)
  obtain rfl : z_3 = 2 := ez_3.trans (by decide)
  refine va_sld hx hb hX hbl hbA hS (by unfold vp_in; decide) dL_law_564 ?_
  refine lv_topi (fun z_4 ez_4 => ?_)
  obtain rfl : z_4 = xs 2 := ez_4
  refine lv_aload_n hx hb dL_law_565 rfl (lv_at hl 4 rfl) ?_
  refine lv_iload hx hb dL_law_566 (lv_at hl 0 rfl) ?_
  refine lv_iconst (v := 3) hx hb dL_law_568 (by decide) ?_
  refine lv_iadd hx hb dL_law_569 ?_
  refine lv_topi (fun z_5 ez_5 => ?_)
  obtain rfl : z_5 = 3 := ez_5.trans (by decide)
  refine va_sld hx hb hX hbl hbA hS (by unfold vp_in; decide) dL_law_570 ?_
  refine lv_topi (fun z_6 ez_6 => ?_)
  obtain rfl : z_6 = xs 3 := ez_6
  refine lv_i2l (v := (xs 3).toInt64) hx hb dL_law_571 rfl ?_
  refine lv_bipush (v := 32) hx hb dL_law_572 (by decide) ?_
  refine lv_lshl (v := (((xs 3).toInt64) <<< ((32 : Int32).toInt64 &&& 63))) hx hb dL_law_574 rfl ?_
  refine lv_aload_n hx hb dL_law_575 rfl (lv_at hl 4 rfl) ?_
  refine lv_iload hx hb dL_law_576 (lv_at hl 0 rfl) ?_
  refine lv_iconst (v := 4) hx hb dL_law_578 (by decide) ?_
  refine lv_iadd hx hb dL_law_579 ?_
  refine lv_topi (fun z_7 ez_7 => ?_)
  obtain rfl : z_7 = 4 := ez_7.trans (by decide)
  refine va_sld hx hb hX hbl hbA hS (by unfold vp_in; decide) dL_law_580 ?_
  refine lv_topi (fun z_8 ez_8 => ?_)
  obtain rfl : z_8 = xs 4 := ez_8
  refine lv_i2l (v := (xs 4).toInt64) hx hb dL_law_581 rfl ?_
  refine lv_ldc2 (v := 4294967295) hx hb hown (htw _ (ck_1 _ (List.mem_of_getElem? (i := 7) rfl))) dL_law_582 ?_
  refine lv_land hx hb dL_law_585 ?_
  refine lv_lor hx hb dL_law_586 ?_
  have hPc := hP.sub (ws' := [(x, .inr (11, [.ref xpa, .ref b, .ref xsp, .ref xdy, .ref xle, .ref xst, .int 0, .ref xim, .ref xil, .int 0, .ref xmo, .ref xom, .ref xwi])), (b, .inr (0, [.ref bto, .ref bnm, .ref bla, .ref bsk, .ref bru, .ref bbo, .ref bdi, .ref bda, .ref bdk, .ref bdt, .ref bdp, .ref bno])), (bto, .inl (bcT, 5, .inl (fun _ => 0)))]) [0, 1, 2] rfl
  have hKc := hK.sub (tys' := [(bcT, .int)]) [0] rfl
  refine vp_callSl (W.runV (As := [.int (xs 1), .int (xs 2), .long ((((xs 3).toInt64) <<< ((32 : Int32).toInt64 &&& 63)) ||| (((xs 4).toInt64) &&& 4294967295))]) (rest := []) ⟨hx, hb, hml, hown, htw⟩ (mx_count l dC dI x xpa xsp xdy xle xst xim xil xmo xom xwi b bto bnm bla bsk bru bbo bdi bda bdk bdt bdp bno bcT (xs 1) (xs 2) ((((xs 3).toInt64) <<< ((32 : Int32).toInt64 &&& 63)) ||| (((xs 4).toInt64) &&& 4294967295))) (cwV 3 htw (xg_V (ck_36 _ (List.mem_of_getElem? (i := 23) rfl)) (ck_37 _ (List.mem_of_getElem? (i := 0) rfl)) (ck_37 _ (List.mem_of_getElem? (i := 1) rfl)) (ck_1 _ (List.mem_of_getElem? (i := 2) rfl)) (ck_37 _ (List.mem_of_getElem? (i := 2) rfl))) rfl rfl rfl (by decide +kernel) ⟨Nat.le_of_ble_eq_true rfl, Nat.le_of_ble_eq_true rfl⟩) ⟨fun a U g mk q => by obtain ⟨q0, qP, qK⟩ := q; exact ⟨q0, qP, va_K.moved (u := U) (U := U.calling g mk a) (Vm.Alike.refl U.vm) qK⟩, va_recv hKc hPc (ci := 11) (q0 := 0) rfl rfl, fun U hU hW => ⟨rfl, by rw [hU]; exact hPc, va_K.moved hW.alike hKc⟩⟩ rfl rfl hl.1 rfl (lv_room (Nat.le_of_ble_eq_true rfl)) dL_law_587 ⟨Nat.le_of_ble_eq_true rfl, Nat.le_of_ble_eq_true rfl⟩) (fun r_9 hw => ?_)
  try dsimp only at hw
  obtain rfl : r_9 = (-1) := hw
  refine lv_aload_n hx hb dL_law_590 rfl (lv_at hl 2 rfl) ?_
  refine lv_aload_n hx hb dL_law_591 rfl (lv_at hl 4 rfl) ?_
  refine lv_iload hx hb dL_law_592 (lv_at hl 0 rfl) ?_
  refine lv_iconst (v := 1) hx hb dL_law_594 (by decide) ?_
  refine lv_iadd hx hb dL_law_595 ?_
  refine lv_topi (fun z_10 ez_10 => ?_)
  obtain rfl : z_10 = 1 := ez_10.trans (by decide)
  refine va_sld hx hb hX hbl hbA hS (by unfold vp_in; decide) dL_law_596 ?_
  refine lv_topi (fun z_11 ez_11 => ?_)
  obtain rfl : z_11 = xs 1 := ez_11
  refine lv_aload_n hx hb dL_law_597 rfl (lv_at hl 4 rfl) ?_
  refine lv_iload hx hb dL_law_598 (lv_at hl 0 rfl) ?_
  refine lv_iconst (v := 2) hx hb dL_law_600 (by decide) ?_
  refine lv_iadd hx hb dL_law_601 ?_
  refine lv_topi (fun z_12 ez_12 => ?_)
  obtain rfl : z_12 = 2 := ez_12.trans (by decide)
  refine va_sld hx hb hX hbl hbA hS (by unfold vp_in; decide) dL_law_602 ?_
  refine lv_topi (fun z_13 ez_13 => ?_)
  obtain rfl : z_13 = xs 2 := ez_13
  refine lv_aload_n hx hb dL_law_603 rfl (lv_at hl 4 rfl) ?_
  refine lv_iload hx hb dL_law_604 (lv_at hl 0 rfl) ?_
  refine lv_iconst (v := 3) hx hb dL_law_606 (by decide) ?_
  refine lv_iadd hx hb dL_law_607 ?_
  refine lv_topi (fun z_14 ez_14 => ?_)
  obtain rfl : z_14 = 3 := ez_14.trans (by decide)
  refine va_sld hx hb hX hbl hbA hS (by unfold vp_in; decide) dL_law_608 ?_
  refine lv_topi (fun z_15 ez_15 => ?_)
  obtain rfl : z_15 = xs 3 := ez_15
  refine lv_i2l (v := (xs 3).toInt64) hx hb dL_law_609 rfl ?_
  refine lv_bipush (v := 32) hx hb dL_law_610 (by decide) ?_
  refine lv_lshl (v := (((xs 3).toInt64) <<< ((32 : Int32).toInt64 &&& 63))) hx hb dL_law_612 rfl ?_
  refine lv_aload_n hx hb dL_law_613 rfl (lv_at hl 4 rfl) ?_
  refine lv_iload hx hb dL_law_614 (lv_at hl 0 rfl) ?_
  refine lv_iconst (v := 4) hx hb dL_law_616 (by decide) ?_
  refine lv_iadd hx hb dL_law_617 ?_
  refine lv_topi (fun z_16 ez_16 => ?_)
  obtain rfl : z_16 = 4 := ez_16.trans (by decide)
  refine va_sld hx hb hX hbl hbA hS (by unfold vp_in; decide) dL_law_618 ?_
  refine lv_topi (fun z_17 ez_17 => ?_)
  obtain rfl : z_17 = xs 4 := ez_17
  refine lv_i2l (v := (xs 4).toInt64) hx hb dL_law_619 rfl ?_
  refine lv_ldc2 (v := 4294967295) hx hb hown (htw _ (ck_1 _ (List.mem_of_getElem? (i := 7) rfl))) dL_law_620 ?_
  refine lv_land hx hb dL_law_623 ?_
  refine lv_lor hx hb dL_law_624 ?_
  have hPc := hP.sub (ws' := [(mq, .inr (12, [.ref mtp, .int 0, .int 0, .ref mywords, .int 0, .int (-1), .int 0, .int 0, .int 0, .int 0, .int 0, .int 0, .int 0, .int 0, .int 0, .int 0, .int 0, .int 0, .int 0, .int 0, .int 0, .int 0, .int 0, .int 0, .ref msk, .int 0, .int 0, .int 0, .ref mln, .ref mlh, .ref mfn, .ref mfi, .ref mla, .ref mpn, .ref mbo, .ref mdi, .ref mdn, .ref mdo, .ref mdh, .ref mnn, .ref mnh, .ref mkn, .ref mpt, .ref mot, .long 0, .ref mywait, .ref myheld, .int 0, .int 0, .int 0, .int 0, .int 0, .int 0, .long 0, .long 0, .ref mynames, .ref myvalue, .int 0, .int 0, .int 0, .ref mun, .ref mycan, .int 0, .int 0, .int 0, .ref myroot, .ref myoff, .int 0, .ref mtn, .ref mtc, .int 0, .int 0, .int 0, .ref mkh, .ref mkt, .ref mkc]))]) [3] rfl
  have hKc := hK.sub (tys' := []) [] rfl
  have hDc := hD.sub (ws' := [(mq, .inr (12, [.ref mtp, .int 0, .int 0, .ref mywords, .int 0, .int (-1), .int 0, .int 0, .int 0, .int 0, .int 0, .int 0, .int 0, .int 0, .int 0, .int 0, .int 0, .int 0, .int 0, .int 0, .int 0, .int 0, .int 0, .int 0, .ref msk, .int 0, .int 0, .int 0, .ref mln, .ref mlh, .ref mfn, .ref mfi, .ref mla, .ref mpn, .ref mbo, .ref mdi, .ref mdn, .ref mdo, .ref mdh, .ref mnn, .ref mnh, .ref mkn, .ref mpt, .ref mot, .long 0, .ref mywait, .ref myheld, .int 0, .int 0, .int 0, .int 0, .int 0, .int 0, .long 0, .long 0, .ref mynames, .ref myvalue, .int 0, .int 0, .int 0, .ref mun, .ref mycan, .int 0, .int 0, .int 0, .ref myroot, .ref myoff, .int 0, .ref mtn, .ref mtc, .int 0, .int 0, .int 0, .ref mkh, .ref mkt, .ref mkc]))]) [3] (by decide) rfl
  have hFc := va_free (wc := [(mq, .inr (12, [.ref mtp, .int 0, .int 0, .ref mywords, .int 0, .int (-1), .int 0, .int 0, .int 0, .int 0, .int 0, .int 0, .int 0, .int 0, .int 0, .int 0, .int 0, .int 0, .int 0, .int 0, .int 0, .int 0, .int 0, .int 0, .ref msk, .int 0, .int 0, .int 0, .ref mln, .ref mlh, .ref mfn, .ref mfi, .ref mla, .ref mpn, .ref mbo, .ref mdi, .ref mdn, .ref mdo, .ref mdh, .ref mnn, .ref mnh, .ref mkn, .ref mpt, .ref mot, .long 0, .ref mywait, .ref myheld, .int 0, .int 0, .int 0, .int 0, .int 0, .int 0, .long 0, .long 0, .ref mynames, .ref myvalue, .int 0, .int 0, .int 0, .ref mun, .ref mycan, .int 0, .int 0, .int 0, .ref myroot, .ref myoff, .int 0, .ref mtn, .ref mtc, .int 0, .int 0, .int 0, .ref mkh, .ref mkt, .ref mkc]))]) hD hS hA [3] rfl
  refine va_calll (va_runV (As := [.int (xs 1), .int (xs 2), .long ((((xs 3).toInt64) <<< ((32 : Int32).toInt64 &&& 63)) ||| (((xs 4).toInt64) &&& 4294967295))]) (rest := [.long (-1)]) ⟨hx, hb, hml, hown, htw⟩ (mm_count l dC dI mq ([.ref mtp, .int 0, .int 0, .ref mywords, .int 0, .int (-1), .int 0, .int 0, .int 0, .int 0, .int 0, .int 0, .int 0, .int 0, .int 0, .int 0, .int 0, .int 0, .int 0, .int 0, .int 0, .int 0, .int 0, .int 0, .ref msk, .int 0, .int 0, .int 0, .ref mln, .ref mlh, .ref mfn, .ref mfi, .ref mla, .ref mpn, .ref mbo, .ref mdi, .ref mdn, .ref mdo, .ref mdh, .ref mnn, .ref mnh, .ref mkn, .ref mpt, .ref mot, .long 0, .ref mywait, .ref myheld, .int 0, .int 0, .int 0, .int 0, .int 0, .int 0, .long 0, .long 0, .ref mynames, .ref myvalue, .int 0, .int 0, .int 0, .ref mun, .ref mycan, .int 0, .int 0, .int 0, .ref myroot, .ref myoff, .int 0, .ref mtn, .ref mtc, .int 0, .int 0, .int 0, .ref mkh, .ref mkt, .ref mkc]) (xs 1) (xs 2) ((((xs 3).toInt64) <<< ((32 : Int32).toInt64 &&& 63)) ||| (((xs 4).toInt64) &&& 4294967295)) H.size rfl rfl) (cwV 3 htw (xg_V (ck_37 _ (List.mem_of_getElem? (i := 4) rfl)) (ck_37 _ (List.mem_of_getElem? (i := 5) rfl)) (ck_37 _ (List.mem_of_getElem? (i := 6) rfl)) (ck_1 _ (List.mem_of_getElem? (i := 5) rfl)) (ck_37 _ (List.mem_of_getElem? (i := 7) rfl))) rfl rfl rfl (by decide +kernel) ⟨Nat.le_of_ble_eq_true rfl, Nat.le_of_ble_eq_true rfl⟩) ⟨fun a U g mk q => by obtain ⟨q0, q1, qP, qK, qD⟩ := q; exact ⟨q0, q1, qP, va_K.moved (u := U) (U := U.calling g mk a) (Vm.Alike.refl U.vm) qK, qD⟩, va_recv hKc hPc (ci := 12) (q0 := 0) rfl rfl, fun U hU hW => ⟨rfl, by rw [hU], by rw [hU]; exact hPc, va_K.moved hW.alike hKc, hDc.weaken (fun _ _ _ _ => trivial)⟩⟩ rfl rfl hl.1 rfl (lv_room (Nat.le_of_ble_eq_true rfl)) dL_law_625 ⟨Nat.le_of_ble_eq_true rfl, Nat.le_of_ble_eq_true rfl⟩) hS (fun q _ h => hFc q h) hFc (fun r_18 u_19 t H1 locs ht hvm hw hB hz1 hk1 hS => ?_)
  try dsimp only at hw
  have hP1 : va_P (dC, dI) vwCl [] H1 := fun k q h => by simp at h
  have hD1 : va_D (va_A [(mq, .inr (12, [.ref mtp, .int 0, .int 0, .ref mywords, .int 0, .int (-1), .int 0, .int 0, .int 0, .int 0, .int 0, .int 0, .int 0, .int 0, .int 0, .int 0, .int 0, .int 0, .int 0, .int 0, .int 0, .int 0, .int 0, .int 0, .ref msk, .int 0, .int 0, .int 0, .ref mln, .ref mlh, .ref mfn, .ref mfi, .ref mla, .ref mpn, .ref mbo, .ref mdi, .ref mdn, .ref mdo, .ref mdh, .ref mnn, .ref mnh, .ref mkn, .ref mpt, .ref mot, .long 0, .ref mywait, .ref myheld, .int 0, .int 0, .int 0, .int 0, .int 0, .int 0, .long 0, .long 0, .ref mynames, .ref myvalue, .int 0, .int 0, .int 0, .ref mun, .ref mycan, .int 0, .int 0, .int 0, .ref myroot, .ref myoff, .int 0, .ref mtn, .ref mtc, .int 0, .int 0, .int 0, .ref mkh, .ref mkt, .ref mkc]))] H.size) [] := ⟨fun i j p q h => by simp at h, fun k q h => by simp at h⟩
  obtain ⟨hP, hD⟩ := va_join (wr := [(x, .inr (11, [.ref xpa, .ref b, .ref xsp, .ref xdy, .ref xle, .ref xst, .int 0, .ref xim, .ref xil, .int 0, .ref xmo, .ref xom, .ref xwi])), (b, .inr (0, [.ref bto, .ref bnm, .ref bla, .ref bsk, .ref bru, .ref bbo, .ref bdi, .ref bda, .ref bdk, .ref bdt, .ref bdp, .ref bno])), (bto, .inl (bcT, 5, .inl (fun _ => 0)))]) (w1 := []) hP hD [3] [0, 1, 2] rfl rfl (by decide) (by decide) hk1 hFc hP1 hD1
  generalize H1 = H at hP hS ⊢
  have hP : va_P (dC, dI) vwCl [(x, .inr (11, [.ref xpa, .ref b, .ref xsp, .ref xdy, .ref xle, .ref xst, .int 0, .ref xim, .ref xil, .int 0, .ref xmo, .ref xom, .ref xwi])), (b, .inr (0, [.ref bto, .ref bnm, .ref bla, .ref bsk, .ref bru, .ref bbo, .ref bdi, .ref bda, .ref bdk, .ref bdt, .ref bdp, .ref bno])), (bto, .inl (bcT, 5, .inl (fun _ => 0)))] H := hP
  have hD : va_D A [(x, .inr (11, [.ref xpa, .ref b, .ref xsp, .ref xdy, .ref xle, .ref xst, .int 0, .ref xim, .ref xil, .int 0, .ref xmo, .ref xom, .ref xwi])), (b, .inr (0, [.ref bto, .ref bnm, .ref bla, .ref bsk, .ref bru, .ref bbo, .ref bdi, .ref bda, .ref bdk, .ref bdt, .ref bdp, .ref bno])), (bto, .inl (bcT, 5, .inl (fun _ => 0)))] := hD
  refine W.widen (k := 129) (n := 248806) (by omega) (by omega) ?_
  obtain rfl : r_18 = (-1) := hw
  refine W.lcmp hx hb dL_law_628 ?_
  refine lv_if_eq (tgt := 2053) hx hb dL_law_629 (by decide) (fun _ => ?_) (fun c => absurd c (by decide))
  refine lv_iinc (v := 6) (lv' := [(4, .int 6), (3, .ref o3), (2, .ref mq), (1, .ref x), (0, .ref bs)]) hx hb dL_law_2053 hl (k := 0) rfl (by decide) (by decide) rfl (fun ls hl => ?_)
  refine lv_goto (tgt := 23) hx hb dL_law_2056 (by decide) ?_
  refine lv_iload hx hb dL_law_23 (lv_at hl 0 rfl) ?_
  refine lv_aload_n hx hb dL_law_25 rfl (lv_at hl 4 rfl) ?_
  refine va_slen hx hb hX hbl hbA hS dL_law_26 ?_
  refine lv_topi (fun z_20 ez_20 => ?_)
  obtain rfl : z_20 = 6 := ez_20.trans (by decide)
  refine lv_bipush (v := 6) hx hb dL_law_27 (by decide) ?_
  refine lv_isub hx hb dL_law_29 ?_
  refine lv_topi (fun z_21 ez_21 => ?_)
  obtain rfl : z_21 = 0 := ez_21.trans (by decide)
  refine lv_icmp_gt (tgt := 2059) hx hb dL_law_30 (by decide) (fun _ => ?_) (fun c => absurd c (by decide))
  refine lv_iconst (v := 1) hx hb dL_law_2059 (by decide) ?_
  refine va_forget (fun q hq => (hAe _).mp (hS.2.2 q hq)) ?_
  refine W.widen (k := 600002) (n := 7302232) (by omega) (by omega) ?_
  exact lw_ret hx hb hr hlocks dL_law_2060

theorem dL_law_634 : decode cL_law 634 = .ok (.aload_n 1, 1) := by decide +kernel
theorem dL_law_635 : decode cL_law 635 = .ok (.aload_n 0, 1) := by decide +kernel
theorem dL_law_636 : decode cL_law 636 = .ok (.iload 4, 2) := by decide +kernel
theorem dL_law_638 : decode cL_law 638 = .ok (.iconst 1, 1) := by decide +kernel
theorem dL_law_639 : decode cL_law 639 = .ok (.iadd, 1) := by decide +kernel
theorem dL_law_640 : decode cL_law 640 = .ok (.iaload, 1) := by decide +kernel
theorem dL_law_641 : decode cL_law 641 = .ok (.i2l, 1) := by decide +kernel
theorem dL_law_642 : decode cL_law 642 = .ok (.bipush 32, 2) := by decide +kernel
theorem dL_law_644 : decode cL_law 644 = .ok (.lshl, 1) := by decide +kernel
theorem dL_law_645 : decode cL_law 645 = .ok (.aload_n 0, 1) := by decide +kernel
theorem dL_law_646 : decode cL_law 646 = .ok (.iload 4, 2) := by decide +kernel
theorem dL_law_648 : decode cL_law 648 = .ok (.iconst 2, 1) := by decide +kernel
theorem dL_law_649 : decode cL_law 649 = .ok (.iadd, 1) := by decide +kernel
theorem dL_law_650 : decode cL_law 650 = .ok (.iaload, 1) := by decide +kernel
theorem dL_law_651 : decode cL_law 651 = .ok (.i2l, 1) := by decide +kernel
theorem dL_law_652 : decode cL_law 652 = .ok (.ldc2_w 54, 3) := by decide +kernel
theorem dL_law_655 : decode cL_law 655 = .ok (.land, 1) := by decide +kernel
theorem dL_law_656 : decode cL_law 656 = .ok (.lor, 1) := by decide +kernel
theorem dL_law_657 : decode cL_law 657 = .ok (.aload_n 0, 1) := by decide +kernel
theorem dL_law_658 : decode cL_law 658 = .ok (.iload 4, 2) := by decide +kernel
theorem dL_law_660 : decode cL_law 660 = .ok (.iconst 3, 1) := by decide +kernel
theorem dL_law_661 : decode cL_law 661 = .ok (.iadd, 1) := by decide +kernel
theorem dL_law_662 : decode cL_law 662 = .ok (.iaload, 1) := by decide +kernel
theorem dL_law_663 : decode cL_law 663 = .ok (.invokevirtual 66, 3) := by decide +kernel
theorem dL_law_666 : decode cL_law 666 = .ok (.aload_n 2, 1) := by decide +kernel
theorem dL_law_667 : decode cL_law 667 = .ok (.aload_n 0, 1) := by decide +kernel
theorem dL_law_668 : decode cL_law 668 = .ok (.iload 4, 2) := by decide +kernel
theorem dL_law_670 : decode cL_law 670 = .ok (.iconst 1, 1) := by decide +kernel
theorem dL_law_671 : decode cL_law 671 = .ok (.iadd, 1) := by decide +kernel
theorem dL_law_672 : decode cL_law 672 = .ok (.iaload, 1) := by decide +kernel
theorem dL_law_673 : decode cL_law 673 = .ok (.i2l, 1) := by decide +kernel
theorem dL_law_674 : decode cL_law 674 = .ok (.bipush 32, 2) := by decide +kernel
theorem dL_law_676 : decode cL_law 676 = .ok (.lshl, 1) := by decide +kernel
theorem dL_law_677 : decode cL_law 677 = .ok (.aload_n 0, 1) := by decide +kernel
theorem dL_law_678 : decode cL_law 678 = .ok (.iload 4, 2) := by decide +kernel
theorem dL_law_680 : decode cL_law 680 = .ok (.iconst 2, 1) := by decide +kernel
theorem dL_law_681 : decode cL_law 681 = .ok (.iadd, 1) := by decide +kernel
theorem dL_law_682 : decode cL_law 682 = .ok (.iaload, 1) := by decide +kernel
theorem dL_law_683 : decode cL_law 683 = .ok (.i2l, 1) := by decide +kernel
theorem dL_law_684 : decode cL_law 684 = .ok (.ldc2_w 54, 3) := by decide +kernel
theorem dL_law_687 : decode cL_law 687 = .ok (.land, 1) := by decide +kernel
theorem dL_law_688 : decode cL_law 688 = .ok (.lor, 1) := by decide +kernel
theorem dL_law_689 : decode cL_law 689 = .ok (.aload_n 0, 1) := by decide +kernel
theorem dL_law_690 : decode cL_law 690 = .ok (.iload 4, 2) := by decide +kernel
theorem dL_law_692 : decode cL_law 692 = .ok (.iconst 3, 1) := by decide +kernel
theorem dL_law_693 : decode cL_law 693 = .ok (.iadd, 1) := by decide +kernel
theorem dL_law_694 : decode cL_law 694 = .ok (.iaload, 1) := by decide +kernel
theorem dL_law_695 : decode cL_law 695 = .ok (.invokevirtual 70, 3) := by decide +kernel
theorem dL_law_698 : decode cL_law 698 = .ok (.if_icmp .eq 1355, 3) := by decide +kernel
set_option maxHeartbeats 4000000 in
set_option maxRecDepth 100000 in
theorem law_round (l : Launch) (hst : l.stackTraces = false) {p : Program} {e : Env} {s : State} {m : MethodId} {below : List Frame} {meth : Method} {c : Code} {bs : Nat} {xs : Nat → Int32} (C0 : lw_At p s m meth c bs 6 xs) (dC : Nat → ClassId) (dI : Nat → Nat → Nat) (A : Nat → Prop) (hAe : ∀ q, A q ↔ s.heap.size ≤ q) (xpa : Nat) (b : Nat) (xsp : Nat) (xdy : Nat) (xle : Nat) (xst : Nat) (xim : Nat) (xil : Nat) (xmo : Nat) (xom : Nat) (xwi : Nat) (bto : Nat) (bnm : Nat) (bla : Nat) (bsk : Nat) (bru : Nat) (bbo : Nat) (bdi : Nat) (bda : Nat) (bdk : Nat) (bdt : Nat) (bdp : Nat) (bno : Nat) (mtp : Nat) (mywords : Nat) (msk : Nat) (mln : Nat) (mlh : Nat) (mfn : Nat) (mfi : Nat) (mla : Nat) (mpn : Nat) (mbo : Nat) (mdi : Nat) (mdn : Nat) (mdo : Nat) (mdh : Nat) (mnn : Nat) (mnh : Nat) (mkn : Nat) (mpt : Nat) (mot : Nat) (mywait : Nat) (myheld : Nat) (mynames : Nat) (myvalue : Nat) (mun : Nat) (mycan : Nat) (myroot : Nat) (myoff : Nat) (mtn : Nat) (mtc : Nat) (mkh : Nat) (mkt : Nat) (mkc : Nat) (cmsk : ClassId) (gmsk : Nat → Int32) (x : Nat) (mq : Nat) (o3 : Nat) (hs0 : gmsk 0 = 7) (hs1 : gmsk 1 = 0) (hs2 : gmsk 2 = 59) (hs3 : gmsk 3 = 2) (hs4 : gmsk 4 = 0) (hs5 : gmsk 5 = 1461) (hs6 : gmsk 6 = 4) (H : Heap) (locs : List Loc) (ls : Array Slot) (hK : va_K (dC, dI) vwCl [(cmsk, .int)] s) (hP : va_P (dC, dI) vwCl [(x, .inr (11, [.ref xpa, .ref b, .ref xsp, .ref xdy, .ref xle, .ref xst, .int 0, .ref xim, .ref xil, .int 0, .ref xmo, .ref xom, .ref xwi])), (b, .inr (0, [.ref bto, .ref bnm, .ref bla, .ref bsk, .ref bru, .ref bbo, .ref bdi, .ref bda, .ref bdk, .ref bdt, .ref bdp, .ref bno])), (bsk, .inr (9, [.int 7, .int 0, .int 59, .int 2, .int 0, .int 1461, .int 4])), (mq, .inr (12, [.ref mtp, .int 0, .int 0, .ref mywords, .int 0, .int (-1), .int 0, .int 0, .int 0, .int 0, .int 0, .int 0, .int 0, .int 0, .int 0, .int 0, .int 0, .int 0, .int 0, .int 0, .int 0, .int 0, .int 0, .int 0, .ref msk, .int 0, .int 0, .int 0, .ref mln, .ref mlh, .ref mfn, .ref mfi, .ref mla, .ref mpn, .ref mbo, .ref mdi, .ref mdn, .ref mdo, .ref mdh, .ref mnn, .ref mnh, .ref mkn, .ref mpt, .ref mot, .long 0, .ref mywait, .ref myheld, .int 0, .int 0, .int 0, .int 0, .int 0, .int 0, .long 0, .long 0, .ref mynames, .ref myvalue, .int 0, .int 0, .int 0, .ref mun, .ref mycan, .int 0, .int 0, .int 0, .ref myroot, .ref myoff, .int 0, .ref mtn, .ref mtc, .int 0, .int 0, .int 0, .ref mkh, .ref mkt, .ref mkc])), (msk, .inl (cmsk, 14, .inl gmsk))] H) (hD : va_D A [(x, .inr (11, [.ref xpa, .ref b, .ref xsp, .ref xdy, .ref xle, .ref xst, .int 0, .ref xim, .ref xil, .int 0, .ref xmo, .ref xom, .ref xwi])), (b, .inr (0, [.ref bto, .ref bnm, .ref bla, .ref bsk, .ref bru, .ref bbo, .ref bdi, .ref bda, .ref bdk, .ref bdt, .ref bdp, .ref bno])), (bsk, .inr (9, [.int 7, .int 0, .int 59, .int 2, .int 0, .int 1461, .int 4])), (mq, .inr (12, [.ref mtp, .int 0, .int 0, .ref mywords, .int 0, .int (-1), .int 0, .int 0, .int 0, .int 0, .int 0, .int 0, .int 0, .int 0, .int 0, .int 0, .int 0, .int 0, .int 0, .int 0, .int 0, .int 0, .int 0, .int 0, .ref msk, .int 0, .int 0, .int 0, .ref mln, .ref mlh, .ref mfn, .ref mfi, .ref mla, .ref mpn, .ref mbo, .ref mdi, .ref mdn, .ref mdo, .ref mdh, .ref mnn, .ref mnh, .ref mkn, .ref mpt, .ref mot, .long 0, .ref mywait, .ref myheld, .int 0, .int 0, .int 0, .int 0, .int 0, .int 0, .long 0, .long 0, .ref mynames, .ref myvalue, .int 0, .int 0, .int 0, .ref mun, .ref mycan, .int 0, .int 0, .int 0, .ref myroot, .ref myoff, .int 0, .ref mtn, .ref mtc, .int 0, .int 0, .int 0, .ref mkh, .ref mkt, .ref mkc])), (msk, .inl (cmsk, 14, .inl gmsk))]) (hS : va_S A s.heap H locs) (hl : lv_has ls 7 [(4, .int 0), (3, .ref o3), (2, .ref mq), (1, .ref x), (0, .ref bs)]) : W p l e room_1 s m #[Value.ref bs] below meth c H locs 129 248806 (lw_Z below #[Value.ref bs] s) (F0 m 634 ls []) := by
  obtain ⟨hx, hb, hr, hml, hown, hts, hX, hbl, hlocks, hgv⟩ := id C0
  have htw : ∀ w ∈ wsL_law, w.before _ s = true := fun w h => hts w (wsL_law_in w h)
  have hown : s.vm.findClass RL = some m.cls := hown
  have hA : ∀ q : Nat, s.heap.size ≤ q → A q := fun q h => (hAe q).mpr h
  have hbA : ¬ A bs := fun h => absurd ((hAe bs).mp h) (Nat.not_le.mpr hbl)
  refine lv_aload_n hx hb dL_law_634 rfl (lv_at hl 3 rfl) ?_
  refine lv_aload_n hx hb dL_law_635 rfl (lv_at hl 4 rfl) ?_
  refine lv_iload hx hb dL_law_636 (lv_at hl 0 rfl) ?_
  refine lv_iconst (v := 1) hx hb dL_law_638 (by decide) ?_
  refine lv_iadd hx hb dL_law_639 ?_
  refine lv_topi (fun z_1 ez_1 => ?_)
  obtain rfl : z_1 = 1 := ez_1.trans (by decide)
  refine va_sld hx hb hX hbl hbA hS (by unfold vp_in; decide) dL_law_640 ?_
  refine lv_topi (fun z_2 ez_2 => ?_)
  obtain rfl : z_2 = xs 1 := ez_2
  refine lv_i2l (v := (xs 1).toInt64) hx hb dL_law_641 rfl ?_
  refine lv_bipush (v := 32) hx hb dL_law_642 (by decide) ?_
  refine lv_lshl (v := (((xs 1).toInt64) <<< ((32 : Int32).toInt64 &&& 63))) hx hb dL_law_644 rfl ?_
  refine lv_aload_n hx hb dL_law_645 rfl (lv_at hl 4 rfl) ?_
  refine lv_iload hx hb dL_law_646 (lv_at hl 0 rfl) ?_
  refine lv_iconst (v := 2) hx hb dL_law_648 (by decide) ?_
  refine lv_iadd hx hb dL_law_649 ?_
  refine lv_topi (fun z_3 ez_3 => ?_)
  obtain rfl : z_3 = 2 := ez_3.trans (by decide)
  refine va_sld hx hb hX hbl hbA hS (by unfold vp_in; decide) dL_law_650 ?_
  refine lv_topi (fun z_4 ez_4 => ?_)
  obtain rfl : z_4 = xs 2 := ez_4
  refine lv_i2l (v := (xs 2).toInt64) hx hb dL_law_651 rfl ?_
  refine lv_ldc2 (v := 4294967295) hx hb hown (htw _ (ck_1 _ (List.mem_of_getElem? (i := 7) rfl))) dL_law_652 ?_
  refine lv_land hx hb dL_law_655 ?_
  refine lv_lor hx hb dL_law_656 ?_
  refine lv_aload_n hx hb dL_law_657 rfl (lv_at hl 4 rfl) ?_
  refine lv_iload hx hb dL_law_658 (lv_at hl 0 rfl) ?_
  refine lv_iconst (v := 3) hx hb dL_law_660 (by decide) ?_
  refine lv_iadd hx hb dL_law_661 ?_
  refine lv_topi (fun z_5 ez_5 => ?_)
  obtain rfl : z_5 = 3 := ez_5.trans (by decide)
  refine va_sld hx hb hX hbl hbA hS (by unfold vp_in; decide) dL_law_662 ?_
  refine lv_topi (fun z_6 ez_6 => ?_)
  obtain rfl : z_6 = xs 3 := ez_6
  have hPc := hP.sub (ws' := [(x, .inr (11, [.ref xpa, .ref b, .ref xsp, .ref xdy, .ref xle, .ref xst, .int 0, .ref xim, .ref xil, .int 0, .ref xmo, .ref xom, .ref xwi])), (b, .inr (0, [.ref bto, .ref bnm, .ref bla, .ref bsk, .ref bru, .ref bbo, .ref bdi, .ref bda, .ref bdk, .ref bdt, .ref bdp, .ref bno])), (bsk, .inr (9, [.int 7, .int 0, .int 59, .int 2, .int 0, .int 1461, .int 4]))]) [0, 1, 2] rfl
  have hKc := hK.sub (tys' := []) [] rfl
  refine vp_callSi (W.runV (As := [.long ((((xs 1).toInt64) <<< ((32 : Int32).toInt64 &&& 63)) ||| (((xs 2).toInt64) &&& 4294967295)), .int (xs 3)]) (rest := []) ⟨hx, hb, hml, hown, htw⟩ (mx_round l dC dI x xpa xsp xdy xle xst xim xil xmo xom xwi b bto bnm bla bsk bru bbo bdi bda bdk bdt bdp bno ((((xs 1).toInt64) <<< ((32 : Int32).toInt64 &&& 63)) ||| (((xs 2).toInt64) &&& 4294967295)) (xs 3)) (cwV 2 htw (xg_V (ck_37 _ (List.mem_of_getElem? (i := 9) rfl)) (ck_37 _ (List.mem_of_getElem? (i := 10) rfl)) (ck_37 _ (List.mem_of_getElem? (i := 11) rfl)) (ck_1 _ (List.mem_of_getElem? (i := 2) rfl)) (ck_37 _ (List.mem_of_getElem? (i := 12) rfl))) rfl rfl rfl (by decide +kernel) ⟨Nat.le_of_ble_eq_true rfl, Nat.le_of_ble_eq_true rfl⟩) ⟨fun a U g mk q => by obtain ⟨q0, qP, qK⟩ := q; exact ⟨q0, qP, va_K.moved (u := U) (U := U.calling g mk a) (Vm.Alike.refl U.vm) qK⟩, va_recv hKc hPc (ci := 11) (q0 := 0) rfl rfl, fun U hU hW => ⟨rfl, by rw [hU]; exact hPc, va_K.moved hW.alike hKc⟩⟩ rfl rfl hl.1 rfl (lv_room (Nat.le_of_ble_eq_true rfl)) dL_law_663 ⟨Nat.le_of_ble_eq_true rfl, Nat.le_of_ble_eq_true rfl⟩) (fun r_7 hw => ?_)
  try dsimp only at hw
  obtain rfl : r_7 = xr_round ((((xs 1).toInt64) <<< ((32 : Int32).toInt64 &&& 63)) ||| (((xs 2).toInt64) &&& 4294967295)) (xs 3) := hw
  refine lv_aload_n hx hb dL_law_666 rfl (lv_at hl 2 rfl) ?_
  refine lv_aload_n hx hb dL_law_667 rfl (lv_at hl 4 rfl) ?_
  refine lv_iload hx hb dL_law_668 (lv_at hl 0 rfl) ?_
  refine lv_iconst (v := 1) hx hb dL_law_670 (by decide) ?_
  refine lv_iadd hx hb dL_law_671 ?_
  refine lv_topi (fun z_8 ez_8 => ?_)
  obtain rfl : z_8 = 1 := ez_8.trans (by decide)
  refine va_sld hx hb hX hbl hbA hS (by unfold vp_in; decide) dL_law_672 ?_
  refine lv_topi (fun z_9 ez_9 => ?_)
  obtain rfl : z_9 = xs 1 := ez_9
  refine lv_i2l (v := (xs 1).toInt64) hx hb dL_law_673 rfl ?_
  refine lv_bipush (v := 32) hx hb dL_law_674 (by decide) ?_
  refine lv_lshl (v := (((xs 1).toInt64) <<< ((32 : Int32).toInt64 &&& 63))) hx hb dL_law_676 rfl ?_
  refine lv_aload_n hx hb dL_law_677 rfl (lv_at hl 4 rfl) ?_
  refine lv_iload hx hb dL_law_678 (lv_at hl 0 rfl) ?_
  refine lv_iconst (v := 2) hx hb dL_law_680 (by decide) ?_
  refine lv_iadd hx hb dL_law_681 ?_
  refine lv_topi (fun z_10 ez_10 => ?_)
  obtain rfl : z_10 = 2 := ez_10.trans (by decide)
  refine va_sld hx hb hX hbl hbA hS (by unfold vp_in; decide) dL_law_682 ?_
  refine lv_topi (fun z_11 ez_11 => ?_)
  obtain rfl : z_11 = xs 2 := ez_11
  refine lv_i2l (v := (xs 2).toInt64) hx hb dL_law_683 rfl ?_
  refine lv_ldc2 (v := 4294967295) hx hb hown (htw _ (ck_1 _ (List.mem_of_getElem? (i := 7) rfl))) dL_law_684 ?_
  refine lv_land hx hb dL_law_687 ?_
  refine lv_lor hx hb dL_law_688 ?_
  refine lv_aload_n hx hb dL_law_689 rfl (lv_at hl 4 rfl) ?_
  refine lv_iload hx hb dL_law_690 (lv_at hl 0 rfl) ?_
  refine lv_iconst (v := 3) hx hb dL_law_692 (by decide) ?_
  refine lv_iadd hx hb dL_law_693 ?_
  refine lv_topi (fun z_12 ez_12 => ?_)
  obtain rfl : z_12 = 3 := ez_12.trans (by decide)
  refine va_sld hx hb hX hbl hbA hS (by unfold vp_in; decide) dL_law_694 ?_
  refine lv_topi (fun z_13 ez_13 => ?_)
  obtain rfl : z_13 = xs 3 := ez_13
  have hPc := hP.sub (ws' := [(mq, .inr (12, [.ref mtp, .int 0, .int 0, .ref mywords, .int 0, .int (-1), .int 0, .int 0, .int 0, .int 0, .int 0, .int 0, .int 0, .int 0, .int 0, .int 0, .int 0, .int 0, .int 0, .int 0, .int 0, .int 0, .int 0, .int 0, .ref msk, .int 0, .int 0, .int 0, .ref mln, .ref mlh, .ref mfn, .ref mfi, .ref mla, .ref mpn, .ref mbo, .ref mdi, .ref mdn, .ref mdo, .ref mdh, .ref mnn, .ref mnh, .ref mkn, .ref mpt, .ref mot, .long 0, .ref mywait, .ref myheld, .int 0, .int 0, .int 0, .int 0, .int 0, .int 0, .long 0, .long 0, .ref mynames, .ref myvalue, .int 0, .int 0, .int 0, .ref mun, .ref mycan, .int 0, .int 0, .int 0, .ref myroot, .ref myoff, .int 0, .ref mtn, .ref mtc, .int 0, .int 0, .int 0, .ref mkh, .ref mkt, .ref mkc])), (msk, .inl (cmsk, 14, .inl gmsk))]) [3, 4] rfl
  have hKc := hK.sub (tys' := [(cmsk, .int)]) [0] rfl
  have hDc := hD.sub (ws' := [(mq, .inr (12, [.ref mtp, .int 0, .int 0, .ref mywords, .int 0, .int (-1), .int 0, .int 0, .int 0, .int 0, .int 0, .int 0, .int 0, .int 0, .int 0, .int 0, .int 0, .int 0, .int 0, .int 0, .int 0, .int 0, .int 0, .int 0, .ref msk, .int 0, .int 0, .int 0, .ref mln, .ref mlh, .ref mfn, .ref mfi, .ref mla, .ref mpn, .ref mbo, .ref mdi, .ref mdn, .ref mdo, .ref mdh, .ref mnn, .ref mnh, .ref mkn, .ref mpt, .ref mot, .long 0, .ref mywait, .ref myheld, .int 0, .int 0, .int 0, .int 0, .int 0, .int 0, .long 0, .long 0, .ref mynames, .ref myvalue, .int 0, .int 0, .int 0, .ref mun, .ref mycan, .int 0, .int 0, .int 0, .ref myroot, .ref myoff, .int 0, .ref mtn, .ref mtc, .int 0, .int 0, .int 0, .ref mkh, .ref mkt, .ref mkc])), (msk, .inl (cmsk, 14, .inl gmsk))]) [3, 4] (by decide) rfl
  have hFc := va_free (wc := [(mq, .inr (12, [.ref mtp, .int 0, .int 0, .ref mywords, .int 0, .int (-1), .int 0, .int 0, .int 0, .int 0, .int 0, .int 0, .int 0, .int 0, .int 0, .int 0, .int 0, .int 0, .int 0, .int 0, .int 0, .int 0, .int 0, .int 0, .ref msk, .int 0, .int 0, .int 0, .ref mln, .ref mlh, .ref mfn, .ref mfi, .ref mla, .ref mpn, .ref mbo, .ref mdi, .ref mdn, .ref mdo, .ref mdh, .ref mnn, .ref mnh, .ref mkn, .ref mpt, .ref mot, .long 0, .ref mywait, .ref myheld, .int 0, .int 0, .int 0, .int 0, .int 0, .int 0, .long 0, .long 0, .ref mynames, .ref myvalue, .int 0, .int 0, .int 0, .ref mun, .ref mycan, .int 0, .int 0, .int 0, .ref myroot, .ref myoff, .int 0, .ref mtn, .ref mtc, .int 0, .int 0, .int 0, .ref mkh, .ref mkt, .ref mkc])), (msk, .inl (cmsk, 14, .inl gmsk))]) hD hS hA [3, 4] rfl
  refine va_calli (va_runV (As := [.long ((((xs 1).toInt64) <<< ((32 : Int32).toInt64 &&& 63)) ||| (((xs 2).toInt64) &&& 4294967295)), .int (xs 3)]) (rest := [.int (xr_round ((((xs 1).toInt64) <<< ((32 : Int32).toInt64 &&& 63)) ||| (((xs 2).toInt64) &&& 4294967295)) (xs 3))]) ⟨hx, hb, hml, hown, htw⟩ (mm_round l dC dI mq ([.ref mtp, .int 0, .int 0, .ref mywords, .int 0, .int (-1), .int 0, .int 0, .int 0, .int 0, .int 0, .int 0, .int 0, .int 0, .int 0, .int 0, .int 0, .int 0, .int 0, .int 0, .int 0, .int 0, .int 0, .int 0, .ref msk, .int 0, .int 0, .int 0, .ref mln, .ref mlh, .ref mfn, .ref mfi, .ref mla, .ref mpn, .ref mbo, .ref mdi, .ref mdn, .ref mdo, .ref mdh, .ref mnn, .ref mnh, .ref mkn, .ref mpt, .ref mot, .long 0, .ref mywait, .ref myheld, .int 0, .int 0, .int 0, .int 0, .int 0, .int 0, .long 0, .long 0, .ref mynames, .ref myvalue, .int 0, .int 0, .int 0, .ref mun, .ref mycan, .int 0, .int 0, .int 0, .ref myroot, .ref myoff, .int 0, .ref mtn, .ref mtc, .int 0, .int 0, .int 0, .ref mkh, .ref mkt, .ref mkc]) msk cmsk gmsk ((((xs 1).toInt64) <<< ((32 : Int32).toInt64 &&& 63)) ||| (((xs 2).toInt64) &&& 4294967295)) (xs 3) H.size rfl rfl hs0 hs1 hs2 hs3 hs4 hs5 hs6) (cwV 2 htw (xg_V (ck_38 _ (List.mem_of_getElem? (i := 4) rfl)) (ck_38 _ (List.mem_of_getElem? (i := 5) rfl)) (ck_38 _ (List.mem_of_getElem? (i := 6) rfl)) (ck_1 _ (List.mem_of_getElem? (i := 5) rfl)) (ck_38 _ (List.mem_of_getElem? (i := 7) rfl))) rfl rfl rfl (by decide +kernel) ⟨Nat.le_of_ble_eq_true rfl, Nat.le_of_ble_eq_true rfl⟩) ⟨fun a U g mk q => by obtain ⟨q0, q1, qP, qK, qD⟩ := q; exact ⟨q0, q1, qP, va_K.moved (u := U) (U := U.calling g mk a) (Vm.Alike.refl U.vm) qK, qD⟩, va_recv hKc hPc (ci := 12) (q0 := 0) rfl rfl, fun U hU hW => ⟨rfl, by rw [hU], by rw [hU]; exact hPc, va_K.moved hW.alike hKc, hDc.weaken (fun _ _ _ _ => trivial)⟩⟩ rfl rfl hl.1 rfl (lv_room (Nat.le_of_ble_eq_true rfl)) dL_law_695 ⟨Nat.le_of_ble_eq_true rfl, Nat.le_of_ble_eq_true rfl⟩) hS (fun q _ h => hFc q h) hFc (fun r_14 u_15 t H1 locs ht hvm hw hB hz1 hk1 hS => ?_)
  try dsimp only at hw
  have hP1 : va_P (dC, dI) vwCl [] H1 := fun k q h => by simp at h
  have hD1 : va_D (va_A [(mq, .inr (12, [.ref mtp, .int 0, .int 0, .ref mywords, .int 0, .int (-1), .int 0, .int 0, .int 0, .int 0, .int 0, .int 0, .int 0, .int 0, .int 0, .int 0, .int 0, .int 0, .int 0, .int 0, .int 0, .int 0, .int 0, .int 0, .ref msk, .int 0, .int 0, .int 0, .ref mln, .ref mlh, .ref mfn, .ref mfi, .ref mla, .ref mpn, .ref mbo, .ref mdi, .ref mdn, .ref mdo, .ref mdh, .ref mnn, .ref mnh, .ref mkn, .ref mpt, .ref mot, .long 0, .ref mywait, .ref myheld, .int 0, .int 0, .int 0, .int 0, .int 0, .int 0, .long 0, .long 0, .ref mynames, .ref myvalue, .int 0, .int 0, .int 0, .ref mun, .ref mycan, .int 0, .int 0, .int 0, .ref myroot, .ref myoff, .int 0, .ref mtn, .ref mtc, .int 0, .int 0, .int 0, .ref mkh, .ref mkt, .ref mkc])), (msk, .inl (cmsk, 14, .inl gmsk))] H.size) [] := ⟨fun i j p q h => by simp at h, fun k q h => by simp at h⟩
  obtain ⟨hP, hD⟩ := va_join (wr := [(x, .inr (11, [.ref xpa, .ref b, .ref xsp, .ref xdy, .ref xle, .ref xst, .int 0, .ref xim, .ref xil, .int 0, .ref xmo, .ref xom, .ref xwi])), (b, .inr (0, [.ref bto, .ref bnm, .ref bla, .ref bsk, .ref bru, .ref bbo, .ref bdi, .ref bda, .ref bdk, .ref bdt, .ref bdp, .ref bno])), (bsk, .inr (9, [.int 7, .int 0, .int 59, .int 2, .int 0, .int 1461, .int 4]))]) (w1 := []) hP hD [3, 4] [0, 1, 2] rfl rfl (by decide) (by decide) hk1 hFc hP1 hD1
  generalize H1 = H at hP hS ⊢
  have hP : va_P (dC, dI) vwCl [(x, .inr (11, [.ref xpa, .ref b, .ref xsp, .ref xdy, .ref xle, .ref xst, .int 0, .ref xim, .ref xil, .int 0, .ref xmo, .ref xom, .ref xwi])), (b, .inr (0, [.ref bto, .ref bnm, .ref bla, .ref bsk, .ref bru, .ref bbo, .ref bdi, .ref bda, .ref bdk, .ref bdt, .ref bdp, .ref bno])), (bsk, .inr (9, [.int 7, .int 0, .int 59, .int 2, .int 0, .int 1461, .int 4]))] H := hP
  have hD : va_D A [(x, .inr (11, [.ref xpa, .ref b, .ref xsp, .ref xdy, .ref xle, .ref xst, .int 0, .ref xim, .ref xil, .int 0, .ref xmo, .ref xom, .ref xwi])), (b, .inr (0, [.ref bto, .ref bnm, .ref bla, .ref bsk, .ref bru, .ref bbo, .ref bdi, .ref bda, .ref bdk, .ref bdt, .ref bdp, .ref bno])), (bsk, .inr (9, [.int 7, .int 0, .int 59, .int 2, .int 0, .int 1461, .int 4]))] := hD
  refine W.widen (k := 129) (n := 248806) (by omega) (by omega) ?_
  obtain rfl : r_14 = xr_round ((((xs 1).toInt64) <<< ((32 : Int32).toInt64 &&& 63)) ||| (((xs 2).toInt64) &&& 4294967295)) (xs 3) := hw
  refine lv_icmp_eq (tgt := 2053) hx hb dL_law_698 (by decide) (fun c_16 => ?_) (fun c_16 => absurd c_16 (fun h => h rfl))
  refine lv_iinc (v := 6) (lv' := [(4, .int 6), (3, .ref o3), (2, .ref mq), (1, .ref x), (0, .ref bs)]) hx hb dL_law_2053 hl (k := 0) rfl (by decide) (by decide) rfl (fun ls hl => ?_)
  refine lv_goto (tgt := 23) hx hb dL_law_2056 (by decide) ?_
  refine lv_iload hx hb dL_law_23 (lv_at hl 0 rfl) ?_
  refine lv_aload_n hx hb dL_law_25 rfl (lv_at hl 4 rfl) ?_
  refine va_slen hx hb hX hbl hbA hS dL_law_26 ?_
  refine lv_topi (fun z_17 ez_17 => ?_)
  obtain rfl : z_17 = 6 := ez_17.trans (by decide)
  refine lv_bipush (v := 6) hx hb dL_law_27 (by decide) ?_
  refine lv_isub hx hb dL_law_29 ?_
  refine lv_topi (fun z_18 ez_18 => ?_)
  obtain rfl : z_18 = 0 := ez_18.trans (by decide)
  refine lv_icmp_gt (tgt := 2059) hx hb dL_law_30 (by decide) (fun _ => ?_) (fun c => absurd c (by decide))
  refine lv_iconst (v := 1) hx hb dL_law_2059 (by decide) ?_
  refine va_forget (fun q hq => (hAe _).mp (hS.2.2 q hq)) ?_
  refine W.widen (k := 600002) (n := 7302232) (by omega) (by omega) ?_
  exact lw_ret hx hb hr hlocks dL_law_2060

theorem dL_law_703 : decode cL_law 703 = .ok (.aload_n 1, 1) := by decide +kernel
theorem dL_law_704 : decode cL_law 704 = .ok (.aload_n 0, 1) := by decide +kernel
theorem dL_law_705 : decode cL_law 705 = .ok (.iload 4, 2) := by decide +kernel
theorem dL_law_707 : decode cL_law 707 = .ok (.iconst 1, 1) := by decide +kernel
theorem dL_law_708 : decode cL_law 708 = .ok (.iadd, 1) := by decide +kernel
theorem dL_law_709 : decode cL_law 709 = .ok (.iaload, 1) := by decide +kernel
theorem dL_law_710 : decode cL_law 710 = .ok (.aload_n 0, 1) := by decide +kernel
theorem dL_law_711 : decode cL_law 711 = .ok (.iload 4, 2) := by decide +kernel
theorem dL_law_713 : decode cL_law 713 = .ok (.iconst 2, 1) := by decide +kernel
theorem dL_law_714 : decode cL_law 714 = .ok (.iadd, 1) := by decide +kernel
theorem dL_law_715 : decode cL_law 715 = .ok (.iaload, 1) := by decide +kernel
theorem dL_law_716 : decode cL_law 716 = .ok (.i2l, 1) := by decide +kernel
theorem dL_law_717 : decode cL_law 717 = .ok (.bipush 32, 2) := by decide +kernel
theorem dL_law_719 : decode cL_law 719 = .ok (.lshl, 1) := by decide +kernel
theorem dL_law_720 : decode cL_law 720 = .ok (.aload_n 0, 1) := by decide +kernel
theorem dL_law_721 : decode cL_law 721 = .ok (.iload 4, 2) := by decide +kernel
theorem dL_law_723 : decode cL_law 723 = .ok (.iconst 3, 1) := by decide +kernel
theorem dL_law_724 : decode cL_law 724 = .ok (.iadd, 1) := by decide +kernel
theorem dL_law_725 : decode cL_law 725 = .ok (.iaload, 1) := by decide +kernel
theorem dL_law_726 : decode cL_law 726 = .ok (.i2l, 1) := by decide +kernel
theorem dL_law_727 : decode cL_law 727 = .ok (.ldc2_w 54, 3) := by decide +kernel
theorem dL_law_730 : decode cL_law 730 = .ok (.land, 1) := by decide +kernel
theorem dL_law_731 : decode cL_law 731 = .ok (.lor, 1) := by decide +kernel
theorem dL_law_732 : decode cL_law 732 = .ok (.invokevirtual 71, 3) := by decide +kernel
theorem dL_law_735 : decode cL_law 735 = .ok (.aload_n 2, 1) := by decide +kernel
theorem dL_law_736 : decode cL_law 736 = .ok (.aload_n 0, 1) := by decide +kernel
theorem dL_law_737 : decode cL_law 737 = .ok (.iload 4, 2) := by decide +kernel
theorem dL_law_739 : decode cL_law 739 = .ok (.iconst 1, 1) := by decide +kernel
theorem dL_law_740 : decode cL_law 740 = .ok (.iadd, 1) := by decide +kernel
theorem dL_law_741 : decode cL_law 741 = .ok (.iaload, 1) := by decide +kernel
theorem dL_law_742 : decode cL_law 742 = .ok (.aload_n 0, 1) := by decide +kernel
theorem dL_law_743 : decode cL_law 743 = .ok (.iload 4, 2) := by decide +kernel
theorem dL_law_745 : decode cL_law 745 = .ok (.iconst 2, 1) := by decide +kernel
theorem dL_law_746 : decode cL_law 746 = .ok (.iadd, 1) := by decide +kernel
theorem dL_law_747 : decode cL_law 747 = .ok (.iaload, 1) := by decide +kernel
theorem dL_law_748 : decode cL_law 748 = .ok (.i2l, 1) := by decide +kernel
theorem dL_law_749 : decode cL_law 749 = .ok (.bipush 32, 2) := by decide +kernel
theorem dL_law_751 : decode cL_law 751 = .ok (.lshl, 1) := by decide +kernel
theorem dL_law_752 : decode cL_law 752 = .ok (.aload_n 0, 1) := by decide +kernel
theorem dL_law_753 : decode cL_law 753 = .ok (.iload 4, 2) := by decide +kernel
theorem dL_law_755 : decode cL_law 755 = .ok (.iconst 3, 1) := by decide +kernel
theorem dL_law_756 : decode cL_law 756 = .ok (.iadd, 1) := by decide +kernel
theorem dL_law_757 : decode cL_law 757 = .ok (.iaload, 1) := by decide +kernel
theorem dL_law_758 : decode cL_law 758 = .ok (.i2l, 1) := by decide +kernel
theorem dL_law_759 : decode cL_law 759 = .ok (.ldc2_w 54, 3) := by decide +kernel
theorem dL_law_762 : decode cL_law 762 = .ok (.land, 1) := by decide +kernel
theorem dL_law_763 : decode cL_law 763 = .ok (.lor, 1) := by decide +kernel
theorem dL_law_764 : decode cL_law 764 = .ok (.invokevirtual 75, 3) := by decide +kernel
theorem dL_law_767 : decode cL_law 767 = .ok (.if_icmp .eq 1286, 3) := by decide +kernel
set_option maxHeartbeats 4000000 in
set_option maxRecDepth 100000 in
theorem law_feast (l : Launch) (hst : l.stackTraces = false) {p : Program} {e : Env} {s : State} {m : MethodId} {below : List Frame} {meth : Method} {c : Code} {bs : Nat} {xs : Nat → Int32} (C0 : lw_At p s m meth c bs 6 xs) (dC : Nat → ClassId) (dI : Nat → Nat → Nat) (A : Nat → Prop) (hAe : ∀ q, A q ↔ s.heap.size ≤ q) (xpa : Nat) (b : Nat) (xsp : Nat) (xdy : Nat) (xle : Nat) (xst : Nat) (xim : Nat) (xil : Nat) (xmo : Nat) (xom : Nat) (xwi : Nat) (bto : Nat) (bnm : Nat) (bla : Nat) (bsk : Nat) (bru : Nat) (bbo : Nat) (bdi : Nat) (bda : Nat) (bdk : Nat) (bdt : Nat) (bdp : Nat) (bno : Nat) (bcT : ClassId) (mtp : Nat) (mywords : Nat) (msk : Nat) (mln : Nat) (mlh : Nat) (mfn : Nat) (mfi : Nat) (mla : Nat) (mpn : Nat) (mbo : Nat) (mdi : Nat) (mdn : Nat) (mdo : Nat) (mdh : Nat) (mnn : Nat) (mnh : Nat) (mkn : Nat) (mpt : Nat) (mot : Nat) (mywait : Nat) (myheld : Nat) (mynames : Nat) (myvalue : Nat) (mun : Nat) (mycan : Nat) (myroot : Nat) (myoff : Nat) (mtn : Nat) (mtc : Nat) (mkh : Nat) (mkt : Nat) (mkc : Nat) (x : Nat) (mq : Nat) (o3 : Nat)  (H : Heap) (locs : List Loc) (ls : Array Slot) (hK : va_K (dC, dI) vwCl [(bcT, .int)] s) (hP : va_P (dC, dI) vwCl [(x, .inr (11, [.ref xpa, .ref b, .ref xsp, .ref xdy, .ref xle, .ref xst, .int 0, .ref xim, .ref xil, .int 0, .ref xmo, .ref xom, .ref xwi])), (b, .inr (0, [.ref bto, .ref bnm, .ref bla, .ref bsk, .ref bru, .ref bbo, .ref bdi, .ref bda, .ref bdk, .ref bdt, .ref bdp, .ref bno])), (bto, .inl (bcT, 5, .inl (fun _ => 0))), (mq, .inr (12, [.ref mtp, .int 0, .int 0, .ref mywords, .int 0, .int (-1), .int 0, .int 0, .int 0, .int 0, .int 0, .int 0, .int 0, .int 0, .int 0, .int 0, .int 0, .int 0, .int 0, .int 0, .int 0, .int 0, .int 0, .int 0, .ref msk, .int 0, .int 0, .int 0, .ref mln, .ref mlh, .ref mfn, .ref mfi, .ref mla, .ref mpn, .ref mbo, .ref mdi, .ref mdn, .ref mdo, .ref mdh, .ref mnn, .ref mnh, .ref mkn, .ref mpt, .ref mot, .long 0, .ref mywait, .ref myheld, .int 0, .int 0, .int 0, .int 0, .int 0, .int 0, .long 0, .long 0, .ref mynames, .ref myvalue, .int 0, .int 0, .int 0, .ref mun, .ref mycan, .int 0, .int 0, .int 0, .ref myroot, .ref myoff, .int 0, .ref mtn, .ref mtc, .int 0, .int 0, .int 0, .ref mkh, .ref mkt, .ref mkc]))] H) (hD : va_D A [(x, .inr (11, [.ref xpa, .ref b, .ref xsp, .ref xdy, .ref xle, .ref xst, .int 0, .ref xim, .ref xil, .int 0, .ref xmo, .ref xom, .ref xwi])), (b, .inr (0, [.ref bto, .ref bnm, .ref bla, .ref bsk, .ref bru, .ref bbo, .ref bdi, .ref bda, .ref bdk, .ref bdt, .ref bdp, .ref bno])), (bto, .inl (bcT, 5, .inl (fun _ => 0))), (mq, .inr (12, [.ref mtp, .int 0, .int 0, .ref mywords, .int 0, .int (-1), .int 0, .int 0, .int 0, .int 0, .int 0, .int 0, .int 0, .int 0, .int 0, .int 0, .int 0, .int 0, .int 0, .int 0, .int 0, .int 0, .int 0, .int 0, .ref msk, .int 0, .int 0, .int 0, .ref mln, .ref mlh, .ref mfn, .ref mfi, .ref mla, .ref mpn, .ref mbo, .ref mdi, .ref mdn, .ref mdo, .ref mdh, .ref mnn, .ref mnh, .ref mkn, .ref mpt, .ref mot, .long 0, .ref mywait, .ref myheld, .int 0, .int 0, .int 0, .int 0, .int 0, .int 0, .long 0, .long 0, .ref mynames, .ref myvalue, .int 0, .int 0, .int 0, .ref mun, .ref mycan, .int 0, .int 0, .int 0, .ref myroot, .ref myoff, .int 0, .ref mtn, .ref mtc, .int 0, .int 0, .int 0, .ref mkh, .ref mkt, .ref mkc]))]) (hS : va_S A s.heap H locs) (hl : lv_has ls 7 [(4, .int 0), (3, .ref o3), (2, .ref mq), (1, .ref x), (0, .ref bs)]) : W p l e room_1 s m #[Value.ref bs] below meth c H locs 129 248806 (lw_Z below #[Value.ref bs] s) (F0 m 703 ls []) := by
  obtain ⟨hx, hb, hr, hml, hown, hts, hX, hbl, hlocks, hgv⟩ := id C0
  have htw : ∀ w ∈ wsL_law, w.before _ s = true := fun w h => hts w (wsL_law_in w h)
  have hown : s.vm.findClass RL = some m.cls := hown
  have hA : ∀ q : Nat, s.heap.size ≤ q → A q := fun q h => (hAe q).mpr h
  have hbA : ¬ A bs := fun h => absurd ((hAe bs).mp h) (Nat.not_le.mpr hbl)
  refine lv_aload_n hx hb dL_law_703 rfl (lv_at hl 3 rfl) ?_
  refine lv_aload_n hx hb dL_law_704 rfl (lv_at hl 4 rfl) ?_
  refine lv_iload hx hb dL_law_705 (lv_at hl 0 rfl) ?_
  refine lv_iconst (v := 1) hx hb dL_law_707 (by decide) ?_
  refine lv_iadd hx hb dL_law_708 ?_
  refine lv_topi (fun z_1 ez_1 => ?_)
  obtain rfl : z_1 = 1 := ez_1.trans (by decide)
  refine va_sld hx hb hX hbl hbA hS (by unfold vp_in; decide) dL_law_709 ?_
  refine lv_topi (fun z_2 ez_2 => ?_)
  obtain rfl : z_2 = xs 1 := ez_2
  refine lv_aload_n hx hb dL_law_710 rfl (lv_at hl 4 rfl) ?_
  refine lv_iload hx hb dL_law_711 (lv_at hl 0 rfl) ?_
  refine lv_iconst (v := 2) hx hb dL_law_713 (by decide) ?_
  refine lv_iadd hx hb dL_law_714 ?_
  refine lv_topi (fun z_3 ez_3 => ?_)
  obtain rfl : z_3 = 2 := ez_3.trans (by decide)
  refine va_sld hx hb hX hbl hbA hS (by unfold vp_in; decide) dL_law_715 ?_
  refine lv_topi (fun z_4 ez_4 => ?_)
  obtain rfl : z_4 = xs 2 := ez_4
  refine lv_i2l (v := (xs 2).toInt64) hx hb dL_law_716 rfl ?_
  refine lv_bipush (v := 32) hx hb dL_law_717 (by decide) ?_
  refine lv_lshl (v := (((xs 2).toInt64) <<< ((32 : Int32).toInt64 &&& 63))) hx hb dL_law_719 rfl ?_
  refine lv_aload_n hx hb dL_law_720 rfl (lv_at hl 4 rfl) ?_
  refine lv_iload hx hb dL_law_721 (lv_at hl 0 rfl) ?_
  refine lv_iconst (v := 3) hx hb dL_law_723 (by decide) ?_
  refine lv_iadd hx hb dL_law_724 ?_
  refine lv_topi (fun z_5 ez_5 => ?_)
  obtain rfl : z_5 = 3 := ez_5.trans (by decide)
  refine va_sld hx hb hX hbl hbA hS (by unfold vp_in; decide) dL_law_725 ?_
  refine lv_topi (fun z_6 ez_6 => ?_)
  obtain rfl : z_6 = xs 3 := ez_6
  refine lv_i2l (v := (xs 3).toInt64) hx hb dL_law_726 rfl ?_
  refine lv_ldc2 (v := 4294967295) hx hb hown (htw _ (ck_1 _ (List.mem_of_getElem? (i := 7) rfl))) dL_law_727 ?_
  refine lv_land hx hb dL_law_730 ?_
  refine lv_lor hx hb dL_law_731 ?_
  have hPc := hP.sub (ws' := [(x, .inr (11, [.ref xpa, .ref b, .ref xsp, .ref xdy, .ref xle, .ref xst, .int 0, .ref xim, .ref xil, .int 0, .ref xmo, .ref xom, .ref xwi])), (b, .inr (0, [.ref bto, .ref bnm, .ref bla, .ref bsk, .ref bru, .ref bbo, .ref bdi, .ref bda, .ref bdk, .ref bdt, .ref bdp, .ref bno])), (bto, .inl (bcT, 5, .inl (fun _ => 0)))]) [0, 1, 2] rfl
  have hKc := hK.sub (tys' := [(bcT, .int)]) [0] rfl
  refine vp_callSi (W.runV (As := [.int (xs 1), .long ((((xs 2).toInt64) <<< ((32 : Int32).toInt64 &&& 63)) ||| (((xs 3).toInt64) &&& 4294967295))]) (rest := []) ⟨hx, hb, hml, hown, htw⟩ (mx_feast l dC dI x xpa xsp xdy xle xst xim xil xmo xom xwi b bto bnm bla bsk bru bbo bdi bda bdk bdt bdp bno bcT (xs 1) ((((xs 2).toInt64) <<< ((32 : Int32).toInt64 &&& 63)) ||| (((xs 3).toInt64) &&& 4294967295))) (cwV 2 htw (xg_V (ck_38 _ (List.mem_of_getElem? (i := 14) rfl)) (ck_38 _ (List.mem_of_getElem? (i := 15) rfl)) (ck_38 _ (List.mem_of_getElem? (i := 16) rfl)) (ck_1 _ (List.mem_of_getElem? (i := 2) rfl)) (ck_38 _ (List.mem_of_getElem? (i := 17) rfl))) rfl rfl rfl (by decide +kernel) ⟨Nat.le_of_ble_eq_true rfl, Nat.le_of_ble_eq_true rfl⟩) ⟨fun a U g mk q => by obtain ⟨q0, qP, qK⟩ := q; exact ⟨q0, qP, va_K.moved (u := U) (U := U.calling g mk a) (Vm.Alike.refl U.vm) qK⟩, va_recv hKc hPc (ci := 11) (q0 := 0) rfl rfl, fun U hU hW => ⟨rfl, by rw [hU]; exact hPc, va_K.moved hW.alike hKc⟩⟩ rfl rfl hl.1 rfl (lv_room (Nat.le_of_ble_eq_true rfl)) dL_law_732 ⟨Nat.le_of_ble_eq_true rfl, Nat.le_of_ble_eq_true rfl⟩) (fun r_7 hw => ?_)
  try dsimp only at hw
  obtain rfl : r_7 = (-1) := hw
  refine lv_aload_n hx hb dL_law_735 rfl (lv_at hl 2 rfl) ?_
  refine lv_aload_n hx hb dL_law_736 rfl (lv_at hl 4 rfl) ?_
  refine lv_iload hx hb dL_law_737 (lv_at hl 0 rfl) ?_
  refine lv_iconst (v := 1) hx hb dL_law_739 (by decide) ?_
  refine lv_iadd hx hb dL_law_740 ?_
  refine lv_topi (fun z_8 ez_8 => ?_)
  obtain rfl : z_8 = 1 := ez_8.trans (by decide)
  refine va_sld hx hb hX hbl hbA hS (by unfold vp_in; decide) dL_law_741 ?_
  refine lv_topi (fun z_9 ez_9 => ?_)
  obtain rfl : z_9 = xs 1 := ez_9
  refine lv_aload_n hx hb dL_law_742 rfl (lv_at hl 4 rfl) ?_
  refine lv_iload hx hb dL_law_743 (lv_at hl 0 rfl) ?_
  refine lv_iconst (v := 2) hx hb dL_law_745 (by decide) ?_
  refine lv_iadd hx hb dL_law_746 ?_
  refine lv_topi (fun z_10 ez_10 => ?_)
  obtain rfl : z_10 = 2 := ez_10.trans (by decide)
  refine va_sld hx hb hX hbl hbA hS (by unfold vp_in; decide) dL_law_747 ?_
  refine lv_topi (fun z_11 ez_11 => ?_)
  obtain rfl : z_11 = xs 2 := ez_11
  refine lv_i2l (v := (xs 2).toInt64) hx hb dL_law_748 rfl ?_
  refine lv_bipush (v := 32) hx hb dL_law_749 (by decide) ?_
  refine lv_lshl (v := (((xs 2).toInt64) <<< ((32 : Int32).toInt64 &&& 63))) hx hb dL_law_751 rfl ?_
  refine lv_aload_n hx hb dL_law_752 rfl (lv_at hl 4 rfl) ?_
  refine lv_iload hx hb dL_law_753 (lv_at hl 0 rfl) ?_
  refine lv_iconst (v := 3) hx hb dL_law_755 (by decide) ?_
  refine lv_iadd hx hb dL_law_756 ?_
  refine lv_topi (fun z_12 ez_12 => ?_)
  obtain rfl : z_12 = 3 := ez_12.trans (by decide)
  refine va_sld hx hb hX hbl hbA hS (by unfold vp_in; decide) dL_law_757 ?_
  refine lv_topi (fun z_13 ez_13 => ?_)
  obtain rfl : z_13 = xs 3 := ez_13
  refine lv_i2l (v := (xs 3).toInt64) hx hb dL_law_758 rfl ?_
  refine lv_ldc2 (v := 4294967295) hx hb hown (htw _ (ck_1 _ (List.mem_of_getElem? (i := 7) rfl))) dL_law_759 ?_
  refine lv_land hx hb dL_law_762 ?_
  refine lv_lor hx hb dL_law_763 ?_
  have hPc := hP.sub (ws' := [(mq, .inr (12, [.ref mtp, .int 0, .int 0, .ref mywords, .int 0, .int (-1), .int 0, .int 0, .int 0, .int 0, .int 0, .int 0, .int 0, .int 0, .int 0, .int 0, .int 0, .int 0, .int 0, .int 0, .int 0, .int 0, .int 0, .int 0, .ref msk, .int 0, .int 0, .int 0, .ref mln, .ref mlh, .ref mfn, .ref mfi, .ref mla, .ref mpn, .ref mbo, .ref mdi, .ref mdn, .ref mdo, .ref mdh, .ref mnn, .ref mnh, .ref mkn, .ref mpt, .ref mot, .long 0, .ref mywait, .ref myheld, .int 0, .int 0, .int 0, .int 0, .int 0, .int 0, .long 0, .long 0, .ref mynames, .ref myvalue, .int 0, .int 0, .int 0, .ref mun, .ref mycan, .int 0, .int 0, .int 0, .ref myroot, .ref myoff, .int 0, .ref mtn, .ref mtc, .int 0, .int 0, .int 0, .ref mkh, .ref mkt, .ref mkc]))]) [3] rfl
  have hKc := hK.sub (tys' := []) [] rfl
  have hDc := hD.sub (ws' := [(mq, .inr (12, [.ref mtp, .int 0, .int 0, .ref mywords, .int 0, .int (-1), .int 0, .int 0, .int 0, .int 0, .int 0, .int 0, .int 0, .int 0, .int 0, .int 0, .int 0, .int 0, .int 0, .int 0, .int 0, .int 0, .int 0, .int 0, .ref msk, .int 0, .int 0, .int 0, .ref mln, .ref mlh, .ref mfn, .ref mfi, .ref mla, .ref mpn, .ref mbo, .ref mdi, .ref mdn, .ref mdo, .ref mdh, .ref mnn, .ref mnh, .ref mkn, .ref mpt, .ref mot, .long 0, .ref mywait, .ref myheld, .int 0, .int 0, .int 0, .int 0, .int 0, .int 0, .long 0, .long 0, .ref mynames, .ref myvalue, .int 0, .int 0, .int 0, .ref mun, .ref mycan, .int 0, .int 0, .int 0, .ref myroot, .ref myoff, .int 0, .ref mtn, .ref mtc, .int 0, .int 0, .int 0, .ref mkh, .ref mkt, .ref mkc]))]) [3] (by decide) rfl
  have hFc := va_free (wc := [(mq, .inr (12, [.ref mtp, .int 0, .int 0, .ref mywords, .int 0, .int (-1), .int 0, .int 0, .int 0, .int 0, .int 0, .int 0, .int 0, .int 0, .int 0, .int 0, .int 0, .int 0, .int 0, .int 0, .int 0, .int 0, .int 0, .int 0, .ref msk, .int 0, .int 0, .int 0, .ref mln, .ref mlh, .ref mfn, .ref mfi, .ref mla, .ref mpn, .ref mbo, .ref mdi, .ref mdn, .ref mdo, .ref mdh, .ref mnn, .ref mnh, .ref mkn, .ref mpt, .ref mot, .long 0, .ref mywait, .ref myheld, .int 0, .int 0, .int 0, .int 0, .int 0, .int 0, .long 0, .long 0, .ref mynames, .ref myvalue, .int 0, .int 0, .int 0, .ref mun, .ref mycan, .int 0, .int 0, .int 0, .ref myroot, .ref myoff, .int 0, .ref mtn, .ref mtc, .int 0, .int 0, .int 0, .ref mkh, .ref mkt, .ref mkc]))]) hD hS hA [3] rfl
  refine va_calli (va_runV (As := [.int (xs 1), .long ((((xs 2).toInt64) <<< ((32 : Int32).toInt64 &&& 63)) ||| (((xs 3).toInt64) &&& 4294967295))]) (rest := [.int (-1)]) ⟨hx, hb, hml, hown, htw⟩ (mm_feast l dC dI mq ([.ref mtp, .int 0, .int 0, .ref mywords, .int 0, .int (-1), .int 0, .int 0, .int 0, .int 0, .int 0, .int 0, .int 0, .int 0, .int 0, .int 0, .int 0, .int 0, .int 0, .int 0, .int 0, .int 0, .int 0, .int 0, .ref msk, .int 0, .int 0, .int 0, .ref mln, .ref mlh, .ref mfn, .ref mfi, .ref mla, .ref mpn, .ref mbo, .ref mdi, .ref mdn, .ref mdo, .ref mdh, .ref mnn, .ref mnh, .ref mkn, .ref mpt, .ref mot, .long 0, .ref mywait, .ref myheld, .int 0, .int 0, .int 0, .int 0, .int 0, .int 0, .long 0, .long 0, .ref mynames, .ref myvalue, .int 0, .int 0, .int 0, .ref mun, .ref mycan, .int 0, .int 0, .int 0, .ref myroot, .ref myoff, .int 0, .ref mtn, .ref mtc, .int 0, .int 0, .int 0, .ref mkh, .ref mkt, .ref mkc]) (xs 1) ((((xs 2).toInt64) <<< ((32 : Int32).toInt64 &&& 63)) ||| (((xs 3).toInt64) &&& 4294967295)) H.size rfl rfl) (cwV 2 htw (xg_V (ck_40 _ (List.mem_of_getElem? (i := 18) rfl)) (ck_40 _ (List.mem_of_getElem? (i := 19) rfl)) (ck_40 _ (List.mem_of_getElem? (i := 20) rfl)) (ck_1 _ (List.mem_of_getElem? (i := 5) rfl)) (ck_40 _ (List.mem_of_getElem? (i := 21) rfl))) rfl rfl rfl (by decide +kernel) ⟨Nat.le_of_ble_eq_true rfl, Nat.le_of_ble_eq_true rfl⟩) ⟨fun a U g mk q => by obtain ⟨q0, q1, qP, qK, qD⟩ := q; exact ⟨q0, q1, qP, va_K.moved (u := U) (U := U.calling g mk a) (Vm.Alike.refl U.vm) qK, qD⟩, va_recv hKc hPc (ci := 12) (q0 := 0) rfl rfl, fun U hU hW => ⟨rfl, by rw [hU], by rw [hU]; exact hPc, va_K.moved hW.alike hKc, hDc.weaken (fun _ _ _ _ => trivial)⟩⟩ rfl rfl hl.1 rfl (lv_room (Nat.le_of_ble_eq_true rfl)) dL_law_764 ⟨Nat.le_of_ble_eq_true rfl, Nat.le_of_ble_eq_true rfl⟩) hS (fun q _ h => hFc q h) hFc (fun r_14 u_15 t H1 locs ht hvm hw hB hz1 hk1 hS => ?_)
  try dsimp only at hw
  have hP1 : va_P (dC, dI) vwCl [] H1 := fun k q h => by simp at h
  have hD1 : va_D (va_A [(mq, .inr (12, [.ref mtp, .int 0, .int 0, .ref mywords, .int 0, .int (-1), .int 0, .int 0, .int 0, .int 0, .int 0, .int 0, .int 0, .int 0, .int 0, .int 0, .int 0, .int 0, .int 0, .int 0, .int 0, .int 0, .int 0, .int 0, .ref msk, .int 0, .int 0, .int 0, .ref mln, .ref mlh, .ref mfn, .ref mfi, .ref mla, .ref mpn, .ref mbo, .ref mdi, .ref mdn, .ref mdo, .ref mdh, .ref mnn, .ref mnh, .ref mkn, .ref mpt, .ref mot, .long 0, .ref mywait, .ref myheld, .int 0, .int 0, .int 0, .int 0, .int 0, .int 0, .long 0, .long 0, .ref mynames, .ref myvalue, .int 0, .int 0, .int 0, .ref mun, .ref mycan, .int 0, .int 0, .int 0, .ref myroot, .ref myoff, .int 0, .ref mtn, .ref mtc, .int 0, .int 0, .int 0, .ref mkh, .ref mkt, .ref mkc]))] H.size) [] := ⟨fun i j p q h => by simp at h, fun k q h => by simp at h⟩
  obtain ⟨hP, hD⟩ := va_join (wr := [(x, .inr (11, [.ref xpa, .ref b, .ref xsp, .ref xdy, .ref xle, .ref xst, .int 0, .ref xim, .ref xil, .int 0, .ref xmo, .ref xom, .ref xwi])), (b, .inr (0, [.ref bto, .ref bnm, .ref bla, .ref bsk, .ref bru, .ref bbo, .ref bdi, .ref bda, .ref bdk, .ref bdt, .ref bdp, .ref bno])), (bto, .inl (bcT, 5, .inl (fun _ => 0)))]) (w1 := []) hP hD [3] [0, 1, 2] rfl rfl (by decide) (by decide) hk1 hFc hP1 hD1
  generalize H1 = H at hP hS ⊢
  have hP : va_P (dC, dI) vwCl [(x, .inr (11, [.ref xpa, .ref b, .ref xsp, .ref xdy, .ref xle, .ref xst, .int 0, .ref xim, .ref xil, .int 0, .ref xmo, .ref xom, .ref xwi])), (b, .inr (0, [.ref bto, .ref bnm, .ref bla, .ref bsk, .ref bru, .ref bbo, .ref bdi, .ref bda, .ref bdk, .ref bdt, .ref bdp, .ref bno])), (bto, .inl (bcT, 5, .inl (fun _ => 0)))] H := hP
  have hD : va_D A [(x, .inr (11, [.ref xpa, .ref b, .ref xsp, .ref xdy, .ref xle, .ref xst, .int 0, .ref xim, .ref xil, .int 0, .ref xmo, .ref xom, .ref xwi])), (b, .inr (0, [.ref bto, .ref bnm, .ref bla, .ref bsk, .ref bru, .ref bbo, .ref bdi, .ref bda, .ref bdk, .ref bdt, .ref bdp, .ref bno])), (bto, .inl (bcT, 5, .inl (fun _ => 0)))] := hD
  refine W.widen (k := 129) (n := 248806) (by omega) (by omega) ?_
  obtain rfl : r_14 = (-1) := hw
  refine lv_icmp_eq (tgt := 2053) hx hb dL_law_767 (by decide) (fun _ => ?_) (fun c => absurd c (by decide))
  refine lv_iinc (v := 6) (lv' := [(4, .int 6), (3, .ref o3), (2, .ref mq), (1, .ref x), (0, .ref bs)]) hx hb dL_law_2053 hl (k := 0) rfl (by decide) (by decide) rfl (fun ls hl => ?_)
  refine lv_goto (tgt := 23) hx hb dL_law_2056 (by decide) ?_
  refine lv_iload hx hb dL_law_23 (lv_at hl 0 rfl) ?_
  refine lv_aload_n hx hb dL_law_25 rfl (lv_at hl 4 rfl) ?_
  refine va_slen hx hb hX hbl hbA hS dL_law_26 ?_
  refine lv_topi (fun z_16 ez_16 => ?_)
  obtain rfl : z_16 = 6 := ez_16.trans (by decide)
  refine lv_bipush (v := 6) hx hb dL_law_27 (by decide) ?_
  refine lv_isub hx hb dL_law_29 ?_
  refine lv_topi (fun z_17 ez_17 => ?_)
  obtain rfl : z_17 = 0 := ez_17.trans (by decide)
  refine lv_icmp_gt (tgt := 2059) hx hb dL_law_30 (by decide) (fun _ => ?_) (fun c => absurd c (by decide))
  refine lv_iconst (v := 1) hx hb dL_law_2059 (by decide) ?_
  refine va_forget (fun q hq => (hAe _).mp (hS.2.2 q hq)) ?_
  refine W.widen (k := 600002) (n := 7302232) (by omega) (by omega) ?_
  exact lw_ret hx hb hr hlocks dL_law_2060
