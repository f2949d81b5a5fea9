def fe_readSign (fBy : Nat → Int32) (lxe : Int32) (lxa : Int32) (a0 : Int32) : (Int32) × (Int32) := (if lxe ≤ (lxa + 1) then (if a0 = 37 then ((lxa + 1), (32 : Int32)) else (if a0 = 38 then ((lxa + 1), (39 : Int32)) else (if a0 = 39 then ((lxa + 1), (39 : Int32)) else (if a0 = 40 then ((lxa + 1), (26 : Int32)) else (if a0 = 41 then ((lxa + 1), (27 : Int32)) else (if a0 = 42 then ((lxa + 1), (30 : Int32)) else (if a0 = 43 then ((lxa + 1), (28 : Int32)) else (if a0 = 44 then ((lxa + 1), (39 : Int32)) else (if a0 = 45 then ((lxa + 1), (29 : Int32)) else (if a0 = 46 then ((lxa + 1), (39 : Int32)) else (if a0 = 47 then ((lxa + 1), (31 : Int32)) else (if a0 = 48 then ((lxa + 1), (39 : Int32)) else (if a0 = 49 then ((lxa + 1), (39 : Int32)) else (if a0 = 50 then ((lxa + 1), (39 : Int32)) else (if a0 = 51 then ((lxa + 1), (39 : Int32)) else (if a0 = 52 then ((lxa + 1), (39 : Int32)) else (if a0 = 53 then ((lxa + 1), (39 : Int32)) else (if a0 = 54 then ((lxa + 1), (39 : Int32)) else (if a0 = 55 then ((lxa + 1), (39 : Int32)) else (if a0 = 56 then ((lxa + 1), (39 : Int32)) else (if a0 = 57 then ((lxa + 1), (39 : Int32)) else (if a0 = 58 then ((lxa + 1), (39 : Int32)) else (if a0 = 59 then ((lxa + 1), (25 : Int32)) else (if a0 = 60 then ((lxa + 1), (33 : Int32)) else (if a0 = 61 then ((lxa + 1), (35 : Int32)) else (if a0 = 62 then ((lxa + 1), (38 : Int32)) else ((lxa + 1), (39 : Int32)))))))))))))))))))))))))))) else (if a0 = 37 then ((lxa + 1), (32 : Int32)) else (if a0 = 38 then ((lxa + 1), (39 : Int32)) else (if a0 = 39 then ((lxa + 1), (39 : Int32)) else (if a0 = 40 then ((lxa + 1), (26 : Int32)) else (if a0 = 41 then ((lxa + 1), (27 : Int32)) else (if a0 = 42 then ((lxa + 1), (30 : Int32)) else (if a0 = 43 then ((lxa + 1), (28 : Int32)) else (if a0 = 44 then ((lxa + 1), (39 : Int32)) else (if a0 = 45 then ((lxa + 1), (29 : Int32)) else (if a0 = 46 then ((lxa + 1), (39 : Int32)) else (if a0 = 47 then ((lxa + 1), (31 : Int32)) else (if a0 = 48 then ((lxa + 1), (39 : Int32)) else (if a0 = 49 then ((lxa + 1), (39 : Int32)) else (if a0 = 50 then ((lxa + 1), (39 : Int32)) else (if a0 = 51 then ((lxa + 1), (39 : Int32)) else (if a0 = 52 then ((lxa + 1), (39 : Int32)) else (if a0 = 53 then ((lxa + 1), (39 : Int32)) else (if a0 = 54 then ((lxa + 1), (39 : Int32)) else (if a0 = 55 then ((lxa + 1), (39 : Int32)) else (if a0 = 56 then ((lxa + 1), (39 : Int32)) else (if a0 = 57 then ((lxa + 1), (39 : Int32)) else (if a0 = 58 then ((lxa + 1), (39 : Int32)) else (if a0 = 59 then ((lxa + 1), (25 : Int32)) else (if a0 = 60 then (if fBy ((lxa + 1).toNatClampNeg) = 61 then (((lxa + 1) + 1), (34 : Int32)) else (if fBy ((lxa + 1).toNatClampNeg) = 62 then (((lxa + 1) + 1), (36 : Int32)) else ((lxa + 1), (33 : Int32)))) else (if a0 = 61 then ((lxa + 1), (35 : Int32)) else (if a0 = 62 then (if fBy ((lxa + 1).toNatClampNeg) = 61 then (((lxa + 1) + 1), (37 : Int32)) else ((lxa + 1), (38 : Int32))) else ((lxa + 1), (39 : Int32)))))))))))))))))))))))))))))
theorem dX3_readSign_0 : decode cX3_readSign 0 = .ok (.aload_n 0, 1) := by decide +kernel
theorem dX3_readSign_1 : decode cX3_readSign 1 = .ok (.dup, 1) := by decide +kernel
theorem dX3_readSign_2 : decode cX3_readSign 2 = .ok (.getfield 44, 3) := by decide +kernel
theorem dX3_readSign_5 : decode cX3_readSign 5 = .ok (.iconst 1, 1) := by decide +kernel
theorem dX3_readSign_6 : decode cX3_readSign 6 = .ok (.iadd, 1) := by decide +kernel
theorem dX3_readSign_7 : decode cX3_readSign 7 = .ok (.putfield 44, 3) := by decide +kernel
theorem dX3_readSign_10 : decode cX3_readSign 10 = .ok (.aload_n 0, 1) := by decide +kernel
theorem dX3_readSign_11 : decode cX3_readSign 11 = .ok (.getfield 44, 3) := by decide +kernel
theorem dX3_readSign_14 : decode cX3_readSign 14 = .ok (.aload_n 0, 1) := by decide +kernel
theorem dX3_readSign_15 : decode cX3_readSign 15 = .ok (.getfield 41, 3) := by decide +kernel
theorem dX3_readSign_18 : decode cX3_readSign 18 = .ok (.if_icmp .ge 15, 3) := by decide +kernel
theorem dX3_readSign_33 : decode cX3_readSign 33 = .ok (.iconst 0, 1) := by decide +kernel
theorem dX3_readSign_34 : decode cX3_readSign 34 = .ok (.istore_n 2, 1) := by decide +kernel
theorem dX3_readSign_35 : decode cX3_readSign 35 = .ok (.iload_n 1, 1) := by decide +kernel
theorem dX3_readSign_36 : decode cX3_readSign 36 = .ok (.tableswitch 252 37 62 #[183, 252, 252, 129, 138, 165, 147, 252, 156, 252, 174, 252, 252, 252, 252, 252, 252, 252, 252, 252, 252, 252, 120, 201, 192, 232], 120) := by decide +kernel
theorem dX3_readSign_219 : decode cX3_readSign 219 = .ok (.aload_n 0, 1) := by decide +kernel
theorem dX3_readSign_220 : decode cX3_readSign 220 = .ok (.bipush 32, 2) := by decide +kernel
theorem dX3_readSign_222 : decode cX3_readSign 222 = .ok (.putfield 53, 3) := by decide +kernel
theorem dX3_readSign_225 : decode cX3_readSign 225 = .ok (.goto 69, 3) := by decide +kernel
theorem dX3_readSign_294 : decode cX3_readSign 294 = .ok (.aload_n 0, 1) := by decide +kernel
theorem dX3_readSign_295 : decode cX3_readSign 295 = .ok (.getfield 53, 3) := by decide +kernel
theorem dX3_readSign_298 : decode cX3_readSign 298 = .ok (.bipush 34, 2) := by decide +kernel
theorem dX3_readSign_300 : decode cX3_readSign 300 = .ok (.if_icmp .eq 21, 3) := by decide +kernel
theorem dX3_readSign_303 : decode cX3_readSign 303 = .ok (.aload_n 0, 1) := by decide +kernel
theorem dX3_readSign_304 : decode cX3_readSign 304 = .ok (.getfield 53, 3) := by decide +kernel
theorem dX3_readSign_307 : decode cX3_readSign 307 = .ok (.bipush 36, 2) := by decide +kernel
theorem dX3_readSign_309 : decode cX3_readSign 309 = .ok (.if_icmp .eq 12, 3) := by decide +kernel
theorem dX3_readSign_312 : decode cX3_readSign 312 = .ok (.aload_n 0, 1) := by decide +kernel
theorem dX3_readSign_313 : decode cX3_readSign 313 = .ok (.getfield 53, 3) := by decide +kernel
theorem dX3_readSign_316 : decode cX3_readSign 316 = .ok (.bipush 37, 2) := by decide +kernel
theorem dX3_readSign_318 : decode cX3_readSign 318 = .ok (.if_icmp .ne 13, 3) := by decide +kernel
theorem dX3_readSign_331 : decode cX3_readSign 331 = .ok (.return_, 1) := by decide +kernel
theorem dX3_readSign_288 : decode cX3_readSign 288 = .ok (.aload_n 0, 1) := by decide +kernel
theorem dX3_readSign_289 : decode cX3_readSign 289 = .ok (.bipush 39, 2) := by decide +kernel
theorem dX3_readSign_291 : decode cX3_readSign 291 = .ok (.putfield 53, 3) := by decide +kernel
theorem dX3_readSign_165 : decode cX3_readSign 165 = .ok (.aload_n 0, 1) := by decide +kernel
theorem dX3_readSign_166 : decode cX3_readSign 166 = .ok (.bipush 26, 2) := by decide +kernel
theorem dX3_readSign_168 : decode cX3_readSign 168 = .ok (.putfield 53, 3) := by decide +kernel
theorem dX3_readSign_171 : decode cX3_readSign 171 = .ok (.goto 123, 3) := by decide +kernel
theorem dX3_readSign_174 : decode cX3_readSign 174 = .ok (.aload_n 0, 1) := by decide +kernel
theorem dX3_readSign_175 : decode cX3_readSign 175 = .ok (.bipush 27, 2) := by decide +kernel
theorem dX3_readSign_177 : decode cX3_readSign 177 = .ok (.putfield 53, 3) := by decide +kernel
theorem dX3_readSign_180 : decode cX3_readSign 180 = .ok (.goto 114, 3) := by decide +kernel
theorem dX3_readSign_201 : decode cX3_readSign 201 = .ok (.aload_n 0, 1) := by decide +kernel
theorem dX3_readSign_202 : decode cX3_readSign 202 = .ok (.bipush 30, 2) := by decide +kernel
theorem dX3_readSign_204 : decode cX3_readSign 204 = .ok (.putfield 53, 3) := by decide +kernel
theorem dX3_readSign_207 : decode cX3_readSign 207 = .ok (.goto 87, 3) := by decide +kernel
theorem dX3_readSign_183 : decode cX3_readSign 183 = .ok (.aload_n 0, 1) := by decide +kernel
theorem dX3_readSign_184 : decode cX3_readSign 184 = .ok (.bipush 28, 2) := by decide +kernel
theorem dX3_readSign_186 : decode cX3_readSign 186 = .ok (.putfield 53, 3) := by decide +kernel
theorem dX3_readSign_189 : decode cX3_readSign 189 = .ok (.goto 105, 3) := by decide +kernel
theorem dX3_readSign_192 : decode cX3_readSign 192 = .ok (.aload_n 0, 1) := by decide +kernel
theorem dX3_readSign_193 : decode cX3_readSign 193 = .ok (.bipush 29, 2) := by decide +kernel
theorem dX3_readSign_195 : decode cX3_readSign 195 = .ok (.putfield 53, 3) := by decide +kernel
theorem dX3_readSign_198 : decode cX3_readSign 198 = .ok (.goto 96, 3) := by decide +kernel
theorem dX3_readSign_210 : decode cX3_readSign 210 = .ok (.aload_n 0, 1) := by decide +kernel
theorem dX3_readSign_211 : decode cX3_readSign 211 = .ok (.bipush 31, 2) := by decide +kernel
theorem dX3_readSign_213 : decode cX3_readSign 213 = .ok (.putfield 53, 3) := by decide +kernel
theorem dX3_readSign_216 : decode cX3_readSign 216 = .ok (.goto 78, 3) := by decide +kernel
theorem dX3_readSign_156 : decode cX3_readSign 156 = .ok (.aload_n 0, 1) := by decide +kernel
theorem dX3_readSign_157 : decode cX3_readSign 157 = .ok (.bipush 25, 2) := by decide +kernel
theorem dX3_readSign_159 : decode cX3_readSign 159 = .ok (.putfield 53, 3) := by decide +kernel
theorem dX3_readSign_162 : decode cX3_readSign 162 = .ok (.goto 132, 3) := by decide +kernel
theorem dX3_readSign_237 : decode cX3_readSign 237 = .ok (.aload_n 0, 1) := by decide +kernel
theorem dX3_readSign_238 : decode cX3_readSign 238 = .ok (.iload_n 2, 1) := by decide +kernel
theorem dX3_readSign_239 : decode cX3_readSign 239 = .ok (.bipush 61, 2) := by decide +kernel
theorem dX3_readSign_241 : decode cX3_readSign 241 = .ok (.if_icmp .ne 8, 3) := by decide +kernel
theorem dX3_readSign_249 : decode cX3_readSign 249 = .ok (.iload_n 2, 1) := by decide +kernel
theorem dX3_readSign_250 : decode cX3_readSign 250 = .ok (.bipush 62, 2) := by decide +kernel
theorem dX3_readSign_252 : decode cX3_readSign 252 = .ok (.if_icmp .ne 8, 3) := by decide +kernel
theorem dX3_readSign_260 : decode cX3_readSign 260 = .ok (.bipush 33, 2) := by decide +kernel
theorem dX3_readSign_262 : decode cX3_readSign 262 = .ok (.putfield 53, 3) := by decide +kernel
theorem dX3_readSign_265 : decode cX3_readSign 265 = .ok (.goto 29, 3) := by decide +kernel
theorem dX3_readSign_228 : decode cX3_readSign 228 = .ok (.aload_n 0, 1) := by decide +kernel
theorem dX3_readSign_229 : decode cX3_readSign 229 = .ok (.bipush 35, 2) := by decide +kernel
theorem dX3_readSign_231 : decode cX3_readSign 231 = .ok (.putfield 53, 3) := by decide +kernel
theorem dX3_readSign_234 : decode cX3_readSign 234 = .ok (.goto 60, 3) := by decide +kernel
theorem dX3_readSign_268 : decode cX3_readSign 268 = .ok (.aload_n 0, 1) := by decide +kernel
theorem dX3_readSign_269 : decode cX3_readSign 269 = .ok (.iload_n 2, 1) := by decide +kernel
theorem dX3_readSign_270 : decode cX3_readSign 270 = .ok (.bipush 61, 2) := by decide +kernel
theorem dX3_readSign_272 : decode cX3_readSign 272 = .ok (.if_icmp .ne 8, 3) := by decide +kernel
theorem dX3_readSign_280 : decode cX3_readSign 280 = .ok (.bipush 38, 2) := by decide +kernel
theorem dX3_readSign_282 : decode cX3_readSign 282 = .ok (.putfield 53, 3) := by decide +kernel
theorem dX3_readSign_285 : decode cX3_readSign 285 = .ok (.goto 9, 3) := by decide +kernel
theorem dX3_readSign_21 : decode cX3_readSign 21 = .ok (.aload_n 0, 1) := by decide +kernel
theorem dX3_readSign_22 : decode cX3_readSign 22 = .ok (.getfield 9, 3) := by decide +kernel
theorem dX3_readSign_25 : decode cX3_readSign 25 = .ok (.aload_n 0, 1) := by decide +kernel
theorem dX3_readSign_26 : decode cX3_readSign 26 = .ok (.getfield 44, 3) := by decide +kernel
theorem dX3_readSign_29 : decode cX3_readSign 29 = .ok (.baload, 1) := by decide +kernel
theorem dX3_readSign_30 : decode cX3_readSign 30 = .ok (.goto 4, 3) := by decide +kernel
theorem dX3_readSign_255 : decode cX3_readSign 255 = .ok (.bipush 36, 2) := by decide +kernel
theorem dX3_readSign_257 : decode cX3_readSign 257 = .ok (.goto 5, 3) := by decide +kernel
theorem dX3_readSign_321 : decode cX3_readSign 321 = .ok (.aload_n 0, 1) := by decide +kernel
theorem dX3_readSign_322 : decode cX3_readSign 322 = .ok (.dup, 1) := by decide +kernel
theorem dX3_readSign_323 : decode cX3_readSign 323 = .ok (.getfield 44, 3) := by decide +kernel
theorem dX3_readSign_326 : decode cX3_readSign 326 = .ok (.iconst 1, 1) := by decide +kernel
theorem dX3_readSign_327 : decode cX3_readSign 327 = .ok (.iadd, 1) := by decide +kernel
theorem dX3_readSign_328 : decode cX3_readSign 328 = .ok (.putfield 44, 3) := by decide +kernel
theorem dX3_readSign_244 : decode cX3_readSign 244 = .ok (.bipush 34, 2) := by decide +kernel
theorem dX3_readSign_246 : decode cX3_readSign 246 = .ok (.goto 16, 3) := by decide +kernel
theorem dX3_readSign_275 : decode cX3_readSign 275 = .ok (.bipush 37, 2) := by decide +kernel
theorem dX3_readSign_277 : decode cX3_readSign 277 = .ok (.goto 5, 3) := by decide +kernel
set_option maxHeartbeats 4000000 in
set_option maxRecDepth 100000 in
theorem ge_readSign (l : Launch) (dC : Nat → ClassId) (dI : Nat → Nat → Nat) (lx : Nat) (lby : Nat) (lfi : Int32) (lco : Nat) (lxe : Int32) (lxa : Int32) (lxt : Int32) (lxp : Int32) (lxn : Int32) (lxl : Int32) (cBy : ClassId) (fBy : Nat → Int32) (a0 : Int32) (sz : Nat) (h0_lxa : 0 ≤ lxa.toInt) (h9_lxe : lxe.toInt ≤ 900) (hlt : ¬ lxe ≤ lxa) : Met l yX3_readSign (Cond.code yX3_readSign cX3_readSign 3 none :: wsL_law) ({ frames := 0, cells := 0, slots := 0, locals := 0 }) (va_Pc [.ref lx, .int a0] (fun U => U.heap.size = sz ∧ va_P (dC, dI) vwCl [(lx, .inr (3, [.ref lby, .int lfi, .ref lco, .int lxe, .int lxa, .int lxt, .int lxp, .int lxn, .int lxl])), (lby, .inl (cBy, 900, .inl fBy))] U.heap ∧ va_K (dC, dI) vwCl [(cBy, .byte)] U ∧ va_D (fun _ => True) [(lx, .inr (3, [.ref lby, .int lfi, .ref lco, .int lxe, .int lxa, .int lxt, .int lxp, .int lxn, .int lxl])), (lby, .inl (cBy, 900, .inl fBy))])) (va_Qv (fun (u : (Int32) × (Int32)) => u = fe_readSign fBy lxe lxa a0) (fun (u : (Int32) × (Int32)) t => va_P (dC, dI) vwCl [(lx, .inr (3, [.ref lby, .int lfi, .ref lco, .int lxe, .int u.1, .int u.2, .int lxp, .int lxn, .int lxl])), (lby, .inl (cBy, 900, .inl fBy))] t.heap ∧ va_K (dC, dI) vwCl [] t ∧ va_D (va_A [(lx, .inr (3, [.ref lby, .int lfi, .ref lco, .int lxe, .int lxa, .int lxt, .int lxp, .int lxn, .int lxl])), (lby, .inl (cBy, 900, .inl fBy))] sz) [(lx, .inr (3, [.ref lby, .int lfi, .ref lco, .int lxe, .int u.1, .int u.2, .int lxp, .int lxn, .int lxl])), (lby, .inl (cBy, 900, .inl fBy))]) (va_A [(lx, .inr (3, [.ref lby, .int lfi, .ref lco, .int lxe, .int lxa, .int lxt, .int lxp, .int lxn, .int lxl])), (lby, .inl (cBy, 900, .inl fBy))] sz)) 0 0 (va_A [(lx, .inr (3, [.ref lby, .int lfi, .ref lco, .int lxe, .int lxa, .int lxt, .int lxp, .int lxn, .int lxl])), (lby, .inl (cBy, 900, .inl fBy))] sz) := by
  refine Met.ofW (cc := cX3_readSign) (maxL := 3) (ret := none) (by decide) rfl ?_
  intro p e s m args below meth c s₁ B hml hv
  obtain ⟨rfl, hsz, hP, hK, hD0⟩ := hv
  have hx := B.exec
  have hb := B.bytes
  have hr := B.returns
  have hts := atoms_spec (ws := Cond.code yX3_readSign cX3_readSign 3 none :: wsL_law) B.pre
  have htw : ∀ w ∈ wsL_law, w.before _ s = true := fun w h => hts w (List.mem_cons_of_mem _ h)
  have hown : s.vm.findClass RX3 = some m.cls := findClass_of_methodNamed B.named
  have hlocks := B.notSynchronized
  subst hsz
  have hD := hD0.self (sz := s.heap.size)
  generalize hAe : va_A [(lx, .inr (3, [.ref lby, .int lfi, .ref lco, .int lxe, .int lxa, .int lxt, .int lxp, .int lxn, .int lxl])), (lby, .inl (cBy, 900, .inl fBy))] s.heap.size = A at hD ⊢
  have hA : ∀ q : Nat, s.heap.size ≤ q → A q := fun q h => by rw [← hAe]; exact Or.inr h
  obtain ⟨H, rH⟩ : ∃ z : Heap, z = s.heap := ⟨_, rfl⟩
  have hS : va_S A s.heap H [] := by rw [rH]; exact va_S.rf
  have hP : va_P (dC, dI) vwCl [(lx, .inr (3, [.ref lby, .int lfi, .ref lco, .int lxe, .int lxa, .int lxt, .int lxp, .int lxn, .int lxl])), (lby, .inl (cBy, 900, .inl fBy))] H := by rw [rH]; exact hP
  rw [← rH]
  have hl := lv_entry ([.ref lx, .int a0]) (n := 3) (Nat.le_of_ble_eq_true rfl)
  rw [lg_entry_eq]
  generalize (lg_sl ([.ref lx, .int a0]) ++ List.replicate (3 - (lg_sl ([.ref lx, .int a0])).length) Slot.unset).toArray = ls at hl ⊢
  have hl : lv_has ls 3 [(0, .ref lx), (1, .int a0)] := hl
  refine lv_aload_n hx hb dX3_readSign_0 rfl (lv_at hl 0 rfl) ?_
  refine lv_dup hx hb dX3_readSign_1 rfl ?_
  refine va_get (D := (dC, dI)) (ci := 3) (v := .int lxa) (C := RX3) (T := TX3) (N := 9) hx hb htw inlX3 hown hK hP 0 rfl rfl 4 (by decide) (htw _ (ck_14 _ (List.mem_of_getElem? (i := 11) rfl))) (fun _ h9 => h9) rfl dX3_readSign_2 ?_
  refine lv_iconst (v := 1) hx hb dX3_readSign_5 (by decide) ?_
  refine lv_iadd hx hb dX3_readSign_6 ?_
  refine va_put (D := (dC, dI)) (ci := 3) (v := .int (lxa + 1)) (ty := tyX3 4) (C := RX3) (T := TX3) (N := 9) hx hb htw inlX3 tyX3 tyX3_ok nmX3 hown hK hP hD hS 0 rfl rfl 4 (by decide) (htw _ (ck_14 _ (List.mem_of_getElem? (i := 11) rfl))) (fun _ h9 => h9) rfl (by decide +kernel) rfl rfl (Nat.le_of_ble_eq_true rfl) dX3_readSign_7 (fun H locs hP hD hS => ?_)
  have hP : va_P (dC, dI) vwCl [(lx, .inr (3, [.ref lby, .int lfi, .ref lco, .int lxe, .int (lxa + 1), .int lxt, .int lxp, .int lxn, .int lxl])), (lby, .inl (cBy, 900, .inl fBy))] H := hP
  have hD : va_D A [(lx, .inr (3, [.ref lby, .int lfi, .ref lco, .int lxe, .int (lxa + 1), .int lxt, .int lxp, .int lxn, .int lxl])), (lby, .inl (cBy, 900, .inl fBy))] := hD
  refine lv_aload_n hx hb dX3_readSign_10 rfl (lv_at hl 0 rfl) ?_
  refine va_get (D := (dC, dI)) (ci := 3) (v := .int (lxa + 1)) (C := RX3) (T := TX3) (N := 9) hx hb htw inlX3 hown hK hP 0 rfl rfl 4 (by decide) (htw _ (ck_14 _ (List.mem_of_getElem? (i := 11) rfl))) (fun _ h9 => h9) rfl dX3_readSign_11 ?_
  refine lv_aload_n hx hb dX3_readSign_14 rfl (lv_at hl 0 rfl) ?_
  refine va_get (D := (dC, dI)) (ci := 3) (v := .int lxe) (C := RX3) (T := TX3) (N := 9) hx hb htw inlX3 hown hK hP 0 rfl rfl 3 (by decide) (htw _ (ck_14 _ (List.mem_of_getElem? (i := 10) rfl))) (fun _ h9 => h9) rfl dX3_readSign_15 ?_
  refine lv_icmp_ge (tgt := 33) hx hb dX3_readSign_18 (by decide) (fun c_1 => ?_) (fun c_1 => ?_)
  · refine lv_iconst (v := 0) hx hb dX3_readSign_33 (by decide) ?_
    refine lv_istore_n (lv' := [(2, .int 0), (0, .ref lx), (1, .int a0)]) hx hb dX3_readSign_34 rfl hl (by decide) rfl (fun ls hl => ?_)
    refine lv_iload_n hx hb dX3_readSign_35 rfl (lv_at hl 2 rfl) ?_
    by_cases h_2 : a0 = 37
    · subst h_2
      refine lv_tableIn (off := 183) (tgt := 219) hx hb dX3_readSign_36 (by decide) (by decide) (by decide) (by decide) ?_
      refine lv_aload_n hx hb dX3_readSign_219 rfl (lv_at hl 1 rfl) ?_
      refine lv_bipush (v := 32) hx hb dX3_readSign_220 (by decide) ?_
      refine va_put (D := (dC, dI)) (ci := 3) (v := .int 32) (ty := tyX3 5) (C := RX3) (T := TX3) (N := 9) hx hb htw inlX3 tyX3 tyX3_ok nmX3 hown hK hP hD hS 0 rfl rfl 5 (by decide) (htw _ (ck_14 _ (List.mem_of_getElem? (i := 17) rfl))) (fun _ h9 => h9) rfl (by decide +kernel) rfl rfl (Nat.le_of_ble_eq_true rfl) dX3_readSign_222 (fun H locs hP hD hS => ?_)
      have hP : va_P (dC, dI) vwCl [(lx, .inr (3, [.ref lby, .int lfi, .ref lco, .int lxe, .int (lxa + 1), .int 32, .int lxp, .int lxn, .int lxl])), (lby, .inl (cBy, 900, .inl fBy))] H := hP
      have hD : va_D A [(lx, .inr (3, [.ref lby, .int lfi, .ref lco, .int lxe, .int (lxa + 1), .int 32, .int lxp, .int lxn, .int lxl])), (lby, .inl (cBy, 900, .inl fBy))] := hD
      refine lv_goto (tgt := 294) hx hb dX3_readSign_225 (by decide) ?_
      refine lv_aload_n hx hb dX3_readSign_294 rfl (lv_at hl 1 rfl) ?_
      refine va_get (D := (dC, dI)) (ci := 3) (v := .int 32) (C := RX3) (T := TX3) (N := 9) hx hb htw inlX3 hown hK hP 0 rfl rfl 5 (by decide) (htw _ (ck_14 _ (List.mem_of_getElem? (i := 17) rfl))) (fun _ h9 => h9) rfl dX3_readSign_295 ?_
      refine lv_bipush (v := 34) hx hb dX3_readSign_298 (by decide) ?_
      refine lv_icmp_eq (tgt := 321) hx hb dX3_readSign_300 (by decide) (fun c => absurd c (by decide)) (fun _ => ?_)
      refine lv_aload_n hx hb dX3_readSign_303 rfl (lv_at hl 1 rfl) ?_
      refine va_get (D := (dC, dI)) (ci := 3) (v := .int 32) (C := RX3) (T := TX3) (N := 9) hx hb htw inlX3 hown hK hP 0 rfl rfl 5 (by decide) (htw _ (ck_14 _ (List.mem_of_getElem? (i := 17) rfl))) (fun _ h9 => h9) rfl dX3_readSign_304 ?_
      refine lv_bipush (v := 36) hx hb dX3_readSign_307 (by decide) ?_
      refine lv_icmp_eq (tgt := 321) hx hb dX3_readSign_309 (by decide) (fun c => absurd c (by decide)) (fun _ => ?_)
      refine lv_aload_n hx hb dX3_readSign_312 rfl (lv_at hl 1 rfl) ?_
      refine va_get (D := (dC, dI)) (ci := 3) (v := .int 32) (C := RX3) (T := TX3) (N := 9) hx hb htw inlX3 hown hK hP 0 rfl rfl 5 (by decide) (htw _ (ck_14 _ (List.mem_of_getElem? (i := 17) rfl))) (fun _ h9 => h9) rfl dX3_readSign_313 ?_
      refine lv_bipush (v := 37) hx hb dX3_readSign_316 (by decide) ?_
      refine lv_icmp_ne (tgt := 331) hx hb dX3_readSign_318 (by decide) (fun _ => ?_) (fun c => absurd c (by decide))
      refine W.widen (k := 0) (n := 0) (by omega) (by omega) ?_
      have hP9 := hP.sub (ws' := [(lx, .inr (3, [.ref lby, .int lfi, .ref lco, .int lxe, .int (lxa + 1), .int 32, .int lxp, .int lxn, .int lxl])), (lby, .inl (cBy, 900, .inl fBy))]) [0, 1] rfl
      have hD9 := hD.sub (ws' := [(lx, .inr (3, [.ref lby, .int lfi, .ref lco, .int lxe, .int (lxa + 1), .int 32, .int lxp, .int lxn, .int lxl])), (lby, .inl (cBy, 900, .inl fBy))]) [0, 1] (by decide) rfl
      have hK9 := hK.sub (tys' := []) [] rfl
      exact W.vret hx hb hr (fun t ht hW => ⟨⟨((lxa + 1), 32), rfl, (by rw [fe_readSign]; (try rw [if_pos c_1]); (try rw [if_pos rfl]); try rfl), by rw [ht]; exact hP9, va_K.moved hW.alike hK9, hD9⟩, hS.F ht⟩) hS.2.2 dX3_readSign_331
    by_cases h_3 : a0 = 38
    · subst h_3
      refine lv_tableIn (off := 252) (tgt := 288) hx hb dX3_readSign_36 (by decide) (by decide) (by decide) (by decide) ?_
      refine lv_aload_n hx hb dX3_readSign_288 rfl (lv_at hl 1 rfl) ?_
      refine lv_bipush (v := 39) hx hb dX3_readSign_289 (by decide) ?_
      refine va_put (D := (dC, dI)) (ci := 3) (v := .int 39) (ty := tyX3 5) (C := RX3) (T := TX3) (N := 9) hx hb htw inlX3 tyX3 tyX3_ok nmX3 hown hK hP hD hS 0 rfl rfl 5 (by decide) (htw _ (ck_14 _ (List.mem_of_getElem? (i := 17) rfl))) (fun _ h9 => h9) rfl (by decide +kernel) rfl rfl (Nat.le_of_ble_eq_true rfl) dX3_readSign_291 (fun H locs hP hD hS => ?_)
      have hP : va_P (dC, dI) vwCl [(lx, .inr (3, [.ref lby, .int lfi, .ref lco, .int lxe, .int (lxa + 1), .int 39, .int lxp, .int lxn, .int lxl])), (lby, .inl (cBy, 900, .inl fBy))] H := hP
      have hD : va_D A [(lx, .inr (3, [.ref lby, .int lfi, .ref lco, .int lxe, .int (lxa + 1), .int 39, .int lxp, .int lxn, .int lxl])), (lby, .inl (cBy, 900, .inl fBy))] := hD
      refine lv_aload_n hx hb dX3_readSign_294 rfl (lv_at hl 1 rfl) ?_
      refine va_get (D := (dC, dI)) (ci := 3) (v := .int 39) (C := RX3) (T := TX3) (N := 9) hx hb htw inlX3 hown hK hP 0 rfl rfl 5 (by decide) (htw _ (ck_14 _ (List.mem_of_getElem? (i := 17) rfl))) (fun _ h9 => h9) rfl dX3_readSign_295 ?_
      refine lv_bipush (v := 34) hx hb dX3_readSign_298 (by decide) ?_
      refine lv_icmp_eq (tgt := 321) hx hb dX3_readSign_300 (by decide) (fun c => absurd c (by decide)) (fun _ => ?_)
      refine lv_aload_n hx hb dX3_readSign_303 rfl (lv_at hl 1 rfl) ?_
      refine va_get (D := (dC, dI)) (ci := 3) (v := .int 39) (C := RX3) (T := TX3) (N := 9) hx hb htw inlX3 hown hK hP 0 rfl rfl 5 (by decide) (htw _ (ck_14 _ (List.mem_of_getElem? (i := 17) rfl))) (fun _ h9 => h9) rfl dX3_readSign_304 ?_
      refine lv_bipush (v := 36) hx hb dX3_readSign_307 (by decide) ?_
      refine lv_icmp_eq (tgt := 321) hx hb dX3_readSign_309 (by decide) (fun c => absurd c (by decide)) (fun _ => ?_)
      refine lv_aload_n hx hb dX3_readSign_312 rfl (lv_at hl 1 rfl) ?_
      refine va_get (D := (dC, dI)) (ci := 3) (v := .int 39) (C := RX3) (T := TX3) (N := 9) hx hb htw inlX3 hown hK hP 0 rfl rfl 5 (by decide) (htw _ (ck_14 _ (List.mem_of_getElem? (i := 17) rfl))) (fun _ h9 => h9) rfl dX3_readSign_313 ?_
      refine lv_bipush (v := 37) hx hb dX3_readSign_316 (by decide) ?_
      refine lv_icmp_ne (tgt := 331) hx hb dX3_readSign_318 (by decide) (fun _ => ?_) (fun c => absurd c (by decide))
      refine W.widen (k := 0) (n := 0) (by omega) (by omega) ?_
      have hP9 := hP.sub (ws' := [(lx, .inr (3, [.ref lby, .int lfi, .ref lco, .int lxe, .int (lxa + 1), .int 39, .int lxp, .int lxn, .int lxl])), (lby, .inl (cBy, 900, .inl fBy))]) [0, 1] rfl
      have hD9 := hD.sub (ws' := [(lx, .inr (3, [.ref lby, .int lfi, .ref lco, .int lxe, .int (lxa + 1), .int 39, .int lxp, .int lxn, .int lxl])), (lby, .inl (cBy, 900, .inl fBy))]) [0, 1] (by decide) rfl
      have hK9 := hK.sub (tys' := []) [] rfl
      exact W.vret hx hb hr (fun t ht hW => ⟨⟨((lxa + 1), 39), rfl, (by rw [fe_readSign]; (try rw [if_pos c_1]); (try rw [if_neg h_2]); (try rw [if_pos rfl]); try rfl), by rw [ht]; exact hP9, va_K.moved hW.alike hK9, hD9⟩, hS.F ht⟩) hS.2.2 dX3_readSign_331
    by_cases h_4 : a0 = 39
    · subst h_4
      refine lv_tableIn (off := 252) (tgt := 288) hx hb dX3_readSign_36 (by decide) (by decide) (by decide) (by decide) ?_
      refine lv_aload_n hx hb dX3_readSign_288 rfl (lv_at hl 1 rfl) ?_
      refine lv_bipush (v := 39) hx hb dX3_readSign_289 (by decide) ?_
      refine va_put (D := (dC, dI)) (ci := 3) (v := .int 39) (ty := tyX3 5) (C := RX3) (T := TX3) (N := 9) hx hb htw inlX3 tyX3 tyX3_ok nmX3 hown hK hP hD hS 0 rfl rfl 5 (by decide) (htw _ (ck_14 _ (List.mem_of_getElem? (i := 17) rfl))) (fun _ h9 => h9) rfl (by decide +kernel) rfl rfl (Nat.le_of_ble_eq_true rfl) dX3_readSign_291 (fun H locs hP hD hS => ?_)
      have hP : va_P (dC, dI) vwCl [(lx, .inr (3, [.ref lby, .int lfi, .ref lco, .int lxe, .int (lxa + 1), .int 39, .int lxp, .int lxn, .int lxl])), (lby, .inl (cBy, 900, .inl fBy))] H := hP
      have hD : va_D A [(lx, .inr (3, [.ref lby, .int lfi, .ref lco, .int lxe, .int (lxa + 1), .int 39, .int lxp, .int lxn, .int lxl])), (lby, .inl (cBy, 900, .inl fBy))] := hD
      refine lv_aload_n hx hb dX3_readSign_294 rfl (lv_at hl 1 rfl) ?_
      refine va_get (D := (dC, dI)) (ci := 3) (v := .int 39) (C := RX3) (T := TX3) (N := 9) hx hb htw inlX3 hown hK hP 0 rfl rfl 5 (by decide) (htw _ (ck_14 _ (List.mem_of_getElem? (i := 17) rfl))) (fun _ h9 => h9) rfl dX3_readSign_295 ?_
      refine lv_bipush (v := 34) hx hb dX3_readSign_298 (by decide) ?_
      refine lv_icmp_eq (tgt := 321) hx hb dX3_readSign_300 (by decide) (fun c => absurd c (by decide)) (fun _ => ?_)
      refine lv_aload_n hx hb dX3_readSign_303 rfl (lv_at hl 1 rfl) ?_
      refine va_get (D := (dC, dI)) (ci := 3) (v := .int 39) (C := RX3) (T := TX3) (N := 9) hx hb htw inlX3 hown hK hP 0 rfl rfl 5 (by decide) (htw _ (ck_14 _ (List.mem_of_getElem? (i := 17) rfl))) (fun _ h9 => h9) rfl dX3_readSign_304 ?_
      refine lv_bipush (v := 36) hx hb dX3_readSign_307 (by decide) ?_
      refine lv_icmp_eq (tgt := 321) hx hb dX3_readSign_309 (by decide) (fun c => absurd c (by decide)) (fun _ => ?_)
      refine lv_aload_n hx hb dX3_readSign_312 rfl (lv_at hl 1 rfl) ?_
      refine va_get (D := (dC, dI)) (ci := 3) (v := .int 39) (C := RX3) (T := TX3) (N := 9) hx hb htw inlX3 hown hK hP 0 rfl rfl 5 (by decide) (htw _ (ck_14 _ (List.mem_of_getElem? (i := 17) rfl))) (fun _ h9 => h9) rfl dX3_readSign_313 ?_
      refine lv_bipush (v := 37) hx hb dX3_readSign_316 (by decide) ?_
      refine lv_icmp_ne (tgt := 331) hx hb dX3_readSign_318 (by decide) (fun _ => ?_) (fun c => absurd c (by decide))
      refine W.widen (k := 0) (n := 0) (by omega) (by omega) ?_
      have hP9 := hP.sub (ws' := [(lx, .inr (3, [.ref lby, .int lfi, .ref lco, .int lxe, .int (lxa + 1), .int 39, .int lxp, .int lxn, .int lxl])), (lby, .inl (cBy, 900, .inl fBy))]) [0, 1] rfl
      have hD9 := hD.sub (ws' := [(lx, .inr (3, [.ref lby, .int lfi, .ref lco, .int lxe, .int (lxa + 1), .int 39, .int lxp, .int lxn, .int lxl])), (lby, .inl (cBy, 900, .inl fBy))]) [0, 1] (by decide) rfl
      have hK9 := hK.sub (tys' := []) [] rfl
      exact W.vret hx hb hr (fun t ht hW => ⟨⟨((lxa + 1), 39), rfl, (by rw [fe_readSign]; (try rw [if_pos c_1]); (try rw [if_neg h_2]); (try rw [if_neg h_3]); (try rw [if_pos rfl]); try rfl), by rw [ht]; exact hP9, va_K.moved hW.alike hK9, hD9⟩, hS.F ht⟩) hS.2.2 dX3_readSign_331
    by_cases h_5 : a0 = 40
    · subst h_5
      refine lv_tableIn (off := 129) (tgt := 165) hx hb dX3_readSign_36 (by decide) (by decide) (by decide) (by decide) ?_
      refine lv_aload_n hx hb dX3_readSign_165 rfl (lv_at hl 1 rfl) ?_
      refine lv_bipush (v := 26) hx hb dX3_readSign_166 (by decide) ?_
      refine va_put (D := (dC, dI)) (ci := 3) (v := .int 26) (ty := tyX3 5) (C := RX3) (T := TX3) (N := 9) hx hb htw inlX3 tyX3 tyX3_ok nmX3 hown hK hP hD hS 0 rfl rfl 5 (by decide) (htw _ (ck_14 _ (List.mem_of_getElem? (i := 17) rfl))) (fun _ h9 => h9) rfl (by decide +kernel) rfl rfl (Nat.le_of_ble_eq_true rfl) dX3_readSign_168 (fun H locs hP hD hS => ?_)
      have hP : va_P (dC, dI) vwCl [(lx, .inr (3, [.ref lby, .int lfi, .ref lco, .int lxe, .int (lxa + 1), .int 26, .int lxp, .int lxn, .int lxl])), (lby, .inl (cBy, 900, .inl fBy))] H := hP
      have hD : va_D A [(lx, .inr (3, [.ref lby, .int lfi, .ref lco, .int lxe, .int (lxa + 1), .int 26, .int lxp, .int lxn, .int lxl])), (lby, .inl (cBy, 900, .inl fBy))] := hD
      refine lv_goto (tgt := 294) hx hb dX3_readSign_171 (by decide) ?_
      refine lv_aload_n hx hb dX3_readSign_294 rfl (lv_at hl 1 rfl) ?_
      refine va_get (D := (dC, dI)) (ci := 3) (v := .int 26) (C := RX3) (T := TX3) (N := 9) hx hb htw inlX3 hown hK hP 0 rfl rfl 5 (by decide) (htw _ (ck_14 _ (List.mem_of_getElem? (i := 17) rfl))) (fun _ h9 => h9) rfl dX3_readSign_295 ?_
      refine lv_bipush (v := 34) hx hb dX3_readSign_298 (by decide) ?_
      refine lv_icmp_eq (tgt := 321) hx hb dX3_readSign_300 (by decide) (fun c => absurd c (by decide)) (fun _ => ?_)
      refine lv_aload_n hx hb dX3_readSign_303 rfl (lv_at hl 1 rfl) ?_
      refine va_get (D := (dC, dI)) (ci := 3) (v := .int 26) (C := RX3) (T := TX3) (N := 9) hx hb htw inlX3 hown hK hP 0 rfl rfl 5 (by decide) (htw _ (ck_14 _ (List.mem_of_getElem? (i := 17) rfl))) (fun _ h9 => h9) rfl dX3_readSign_304 ?_
      refine lv_bipush (v := 36) hx hb dX3_readSign_307 (by decide) ?_
      refine lv_icmp_eq (tgt := 321) hx hb dX3_readSign_309 (by decide) (fun c => absurd c (by decide)) (fun _ => ?_)
      refine lv_aload_n hx hb dX3_readSign_312 rfl (lv_at hl 1 rfl) ?_
      refine va_get (D := (dC, dI)) (ci := 3) (v := .int 26) (C := RX3) (T := TX3) (N := 9) hx hb htw inlX3 hown hK hP 0 rfl rfl 5 (by decide) (htw _ (ck_14 _ (List.mem_of_getElem? (i := 17) rfl))) (fun _ h9 => h9) rfl dX3_readSign_313 ?_
      refine lv_bipush (v := 37) hx hb dX3_readSign_316 (by decide) ?_
      refine lv_icmp_ne (tgt := 331) hx hb dX3_readSign_318 (by decide) (fun _ => ?_) (fun c => absurd c (by decide))
      refine W.widen (k := 0) (n := 0) (by omega) (by omega) ?_
      have hP9 := hP.sub (ws' := [(lx, .inr (3, [.ref lby, .int lfi, .ref lco, .int lxe, .int (lxa + 1), .int 26, .int lxp, .int lxn, .int lxl])), (lby, .inl (cBy, 900, .inl fBy))]) [0, 1] rfl
      have hD9 := hD.sub (ws' := [(lx, .inr (3, [.ref lby, .int lfi, .ref lco, .int lxe, .int (lxa + 1), .int 26, .int lxp, .int lxn, .int lxl])), (lby, .inl (cBy, 900, .inl fBy))]) [0, 1] (by decide) rfl
      have hK9 := hK.sub (tys' := []) [] rfl
      exact W.vret hx hb hr (fun t ht hW => ⟨⟨((lxa + 1), 26), rfl, (by rw [fe_readSign]; (try rw [if_pos c_1]); (try rw [if_neg h_2]); (try rw [if_neg h_3]); (try rw [if_neg h_4]); (try rw [if_pos rfl]); try rfl), by rw [ht]; exact hP9, va_K.moved hW.alike hK9, hD9⟩, hS.F ht⟩) hS.2.2 dX3_readSign_331
    by_cases h_6 : a0 = 41
    · subst h_6
      refine lv_tableIn (off := 138) (tgt := 174) hx hb dX3_readSign_36 (by decide) (by decide) (by decide) (by decide) ?_
      refine lv_aload_n hx hb dX3_readSign_174 rfl (lv_at hl 1 rfl) ?_
      refine lv_bipush (v := 27) hx hb dX3_readSign_175 (by decide) ?_
      refine va_put (D := (dC, dI)) (ci := 3) (v := .int 27) (ty := tyX3 5) (C := RX3) (T := TX3) (N := 9) hx hb htw inlX3 tyX3 tyX3_ok nmX3 hown hK hP hD hS 0 rfl rfl 5 (by decide) (htw _ (ck_14 _ (List.mem_of_getElem? (i := 17) rfl))) (fun _ h9 => h9) rfl (by decide +kernel) rfl rfl (Nat.le_of_ble_eq_true rfl) dX3_readSign_177 (fun H locs hP hD hS => ?_)
      have hP : va_P (dC, dI) vwCl [(lx, .inr (3, [.ref lby, .int lfi, .ref lco, .int lxe, .int (lxa + 1), .int 27, .int lxp, .int lxn, .int lxl])), (lby, .inl (cBy, 900, .inl fBy))] H := hP
      have hD : va_D A [(lx, .inr (3, [.ref lby, .int lfi, .ref lco, .int lxe, .int (lxa + 1), .int 27, .int lxp, .int lxn, .int lxl])), (lby, .inl (cBy, 900, .inl fBy))] := hD
      refine lv_goto (tgt := 294) hx hb dX3_readSign_180 (by decide) ?_
      refine lv_aload_n hx hb dX3_readSign_294 rfl (lv_at hl 1 rfl) ?_
      refine va_get (D := (dC, dI)) (ci := 3) (v := .int 27) (C := RX3) (T := TX3) (N := 9) hx hb htw inlX3 hown hK hP 0 rfl rfl 5 (by decide) (htw _ (ck_14 _ (List.mem_of_getElem? (i := 17) rfl))) (fun _ h9 => h9) rfl dX3_readSign_295 ?_
      refine lv_bipush (v := 34) hx hb dX3_readSign_298 (by decide) ?_
      refine lv_icmp_eq (tgt := 321) hx hb dX3_readSign_300 (by decide) (fun c => absurd c (by decide)) (fun _ => ?_)
      refine lv_aload_n hx hb dX3_readSign_303 rfl (lv_at hl 1 rfl) ?_
      refine va_get (D := (dC, dI)) (ci := 3) (v := .int 27) (C := RX3) (T := TX3) (N := 9) hx hb htw inlX3 hown hK hP 0 rfl rfl 5 (by decide) (htw _ (ck_14 _ (List.mem_of_getElem? (i := 17) rfl))) (fun _ h9 => h9) rfl dX3_readSign_304 ?_
      refine lv_bipush (v := 36) hx hb dX3_readSign_307 (by decide) ?_
      refine lv_icmp_eq (tgt := 321) hx hb dX3_readSign_309 (by decide) (fun c => absurd c (by decide)) (fun _ => ?_)
      refine lv_aload_n hx hb dX3_readSign_312 rfl (lv_at hl 1 rfl) ?_
      refine va_get (D := (dC, dI)) (ci := 3) (v := .int 27) (C := RX3) (T := TX3) (N := 9) hx hb htw inlX3 hown hK hP 0 rfl rfl 5 (by decide) (htw _ (ck_14 _ (List.mem_of_getElem? (i := 17) rfl))) (fun _ h9 => h9) rfl dX3_readSign_313 ?_
      refine lv_bipush (v := 37) hx hb dX3_readSign_316 (by decide) ?_
      refine lv_icmp_ne (tgt := 331) hx hb dX3_readSign_318 (by decide) (fun _ => ?_) (fun c => absurd c (by decide))
      refine W.widen (k := 0) (n := 0) (by omega) (by omega) ?_
      have hP9 := hP.sub (ws' := [(lx, .inr (3, [.ref lby, .int lfi, .ref lco, .int lxe, .int (lxa + 1), .int 27, .int lxp, .int lxn, .int lxl])), (lby, .inl (cBy, 900, .inl fBy))]) [0, 1] rfl
      have hD9 := hD.sub (ws' := [(lx, .inr (3, [.ref lby, .int lfi, .ref lco, .int lxe, .int (lxa + 1), .int 27, .int lxp, .int lxn, .int lxl])), (lby, .inl (cBy, 900, .inl fBy))]) [0, 1] (by decide) rfl
      have hK9 := hK.sub (tys' := []) [] rfl
      exact W.vret hx hb hr (fun t ht hW => ⟨⟨((lxa + 1), 27), rfl, (by rw [fe_readSign]; (try rw [if_pos c_1]); (try rw [if_neg h_2]); (try rw [if_neg h_3]); (try rw [if_neg h_4]); (try rw [if_neg h_5]); (try rw [if_pos rfl]); try rfl), by rw [ht]; exact hP9, va_K.moved hW.alike hK9, hD9⟩, hS.F ht⟩) hS.2.2 dX3_readSign_331
    by_cases h_7 : a0 = 42
    · subst h_7
      refine lv_tableIn (off := 165) (tgt := 201) hx hb dX3_readSign_36 (by decide) (by decide) (by decide) (by decide) ?_
      refine lv_aload_n hx hb dX3_readSign_201 rfl (lv_at hl 1 rfl) ?_
      refine lv_bipush (v := 30) hx hb dX3_readSign_202 (by decide) ?_
      refine va_put (D := (dC, dI)) (ci := 3) (v := .int 30) (ty := tyX3 5) (C := RX3) (T := TX3) (N := 9) hx hb htw inlX3 tyX3 tyX3_ok nmX3 hown hK hP hD hS 0 rfl rfl 5 (by decide) (htw _ (ck_14 _ (List.mem_of_getElem? (i := 17) rfl))) (fun _ h9 => h9) rfl (by decide +kernel) rfl rfl (Nat.le_of_ble_eq_true rfl) dX3_readSign_204 (fun H locs hP hD hS => ?_)
      have hP : va_P (dC, dI) vwCl [(lx, .inr (3, [.ref lby, .int lfi, .ref lco, .int lxe, .int (lxa + 1), .int 30, .int lxp, .int lxn, .int lxl])), (lby, .inl (cBy, 900, .inl fBy))] H := hP
      have hD : va_D A [(lx, .inr (3, [.ref lby, .int lfi, .ref lco, .int lxe, .int (lxa + 1), .int 30, .int lxp, .int lxn, .int lxl])), (lby, .inl (cBy, 900, .inl fBy))] := hD
      refine lv_goto (tgt := 294) hx hb dX3_readSign_207 (by decide) ?_
      refine lv_aload_n hx hb dX3_readSign_294 rfl (lv_at hl 1 rfl) ?_
      refine va_get (D := (dC, dI)) (ci := 3) (v := .int 30) (C := RX3) (T := TX3) (N := 9) hx hb htw inlX3 hown hK hP 0 rfl rfl 5 (by decide) (htw _ (ck_14 _ (List.mem_of_getElem? (i := 17) rfl))) (fun _ h9 => h9) rfl dX3_readSign_295 ?_
      refine lv_bipush (v := 34) hx hb dX3_readSign_298 (by decide) ?_
      refine lv_icmp_eq (tgt := 321) hx hb dX3_readSign_300 (by decide) (fun c => absurd c (by decide)) (fun _ => ?_)
      refine lv_aload_n hx hb dX3_readSign_303 rfl (lv_at hl 1 rfl) ?_
      refine va_get (D := (dC, dI)) (ci := 3) (v := .int 30) (C := RX3) (T := TX3) (N := 9) hx hb htw inlX3 hown hK hP 0 rfl rfl 5 (by decide) (htw _ (ck_14 _ (List.mem_of_getElem? (i := 17) rfl))) (fun _ h9 => h9) rfl dX3_readSign_304 ?_
      refine lv_bipush (v := 36) hx hb dX3_readSign_307 (by decide) ?_
      refine lv_icmp_eq (tgt := 321) hx hb dX3_readSign_309 (by decide) (fun c => absurd c (by decide)) (fun _ => ?_)
      refine lv_aload_n hx hb dX3_readSign_312 rfl (lv_at hl 1 rfl) ?_
      refine va_get (D := (dC, dI)) (ci := 3) (v := .int 30) (C := RX3) (T := TX3) (N := 9) hx hb htw inlX3 hown hK hP 0 rfl rfl 5 (by decide) (htw _ (ck_14 _ (List.mem_of_getElem? (i := 17) rfl))) (fun _ h9 => h9) rfl dX3_readSign_313 ?_
      refine lv_bipush (v := 37) hx hb dX3_readSign_316 (by decide) ?_
      refine lv_icmp_ne (tgt := 331) hx hb dX3_readSign_318 (by decide) (fun _ => ?_) (fun c => absurd c (by decide))
      refine W.widen (k := 0) (n := 0) (by omega) (by omega) ?_
      have hP9 := hP.sub (ws' := [(lx, .inr (3, [.ref lby, .int lfi, .ref lco, .int lxe, .int (lxa + 1), .int 30, .int lxp, .int lxn, .int lxl])), (lby, .inl (cBy, 900, .inl fBy))]) [0, 1] rfl
      have hD9 := hD.sub (ws' := [(lx, .inr (3, [.ref lby, .int lfi, .ref lco, .int lxe, .int (lxa + 1), .int 30, .int lxp, .int lxn, .int lxl])), (lby, .inl (cBy, 900, .inl fBy))]) [0, 1] (by decide) rfl
      have hK9 := hK.sub (tys' := []) [] rfl
      exact W.vret hx hb hr (fun t ht hW => ⟨⟨((lxa + 1), 30), rfl, (by rw [fe_readSign]; (try rw [if_pos c_1]); (try rw [if_neg h_2]); (try rw [if_neg h_3]); (try rw [if_neg h_4]); (try rw [if_neg h_5]); (try rw [if_neg h_6]); (try rw [if_pos rfl]); try rfl), by rw [ht]; exact hP9, va_K.moved hW.alike hK9, hD9⟩, hS.F ht⟩) hS.2.2 dX3_readSign_331
    by_cases h_8 : a0 = 43
    · subst h_8
      refine lv_tableIn (off := 147) (tgt := 183) hx hb dX3_readSign_36 (by decide) (by decide) (by decide) (by decide) ?_
      refine lv_aload_n hx hb dX3_readSign_183 rfl (lv_at hl 1 rfl) ?_
      refine lv_bipush (v := 28) hx hb dX3_readSign_184 (by decide) ?_
      refine va_put (D := (dC, dI)) (ci := 3) (v := .int 28) (ty := tyX3 5) (C := RX3) (T := TX3) (N := 9) hx hb htw inlX3 tyX3 tyX3_ok nmX3 hown hK hP hD hS 0 rfl rfl 5 (by decide) (htw _ (ck_14 _ (List.mem_of_getElem? (i := 17) rfl))) (fun _ h9 => h9) rfl (by decide +kernel) rfl rfl (Nat.le_of_ble_eq_true rfl) dX3_readSign_186 (fun H locs hP hD hS => ?_)
      have hP : va_P (dC, dI) vwCl [(lx, .inr (3, [.ref lby, .int lfi, .ref lco, .int lxe, .int (lxa + 1), .int 28, .int lxp, .int lxn, .int lxl])), (lby, .inl (cBy, 900, .inl fBy))] H := hP
      have hD : va_D A [(lx, .inr (3, [.ref lby, .int lfi, .ref lco, .int lxe, .int (lxa + 1), .int 28, .int lxp, .int lxn, .int lxl])), (lby, .inl (cBy, 900, .inl fBy))] := hD
      refine lv_goto (tgt := 294) hx hb dX3_readSign_189 (by decide) ?_
      refine lv_aload_n hx hb dX3_readSign_294 rfl (lv_at hl 1 rfl) ?_
      refine va_get (D := (dC, dI)) (ci := 3) (v := .int 28) (C := RX3) (T := TX3) (N := 9) hx hb htw inlX3 hown hK hP 0 rfl rfl 5 (by decide) (htw _ (ck_14 _ (List.mem_of_getElem? (i := 17) rfl))) (fun _ h9 => h9) rfl dX3_readSign_295 ?_
      refine lv_bipush (v := 34) hx hb dX3_readSign_298 (by decide) ?_
      refine lv_icmp_eq (tgt := 321) hx hb dX3_readSign_300 (by decide) (fun c => absurd c (by decide)) (fun _ => ?_)
      refine lv_aload_n hx hb dX3_readSign_303 rfl (lv_at hl 1 rfl) ?_
      refine va_get (D := (dC, dI)) (ci := 3) (v := .int 28) (C := RX3) (T := TX3) (N := 9) hx hb htw inlX3 hown hK hP 0 rfl rfl 5 (by decide) (htw _ (ck_14 _ (List.mem_of_getElem? (i := 17) rfl))) (fun _ h9 => h9) rfl dX3_readSign_304 ?_
      refine lv_bipush (v := 36) hx hb dX3_readSign_307 (by decide) ?_
      refine lv_icmp_eq (tgt := 321) hx hb dX3_readSign_309 (by decide) (fun c => absurd c (by decide)) (fun _ => ?_)
      refine lv_aload_n hx hb dX3_readSign_312 rfl (lv_at hl 1 rfl) ?_
      refine va_get (D := (dC, dI)) (ci := 3) (v := .int 28) (C := RX3) (T := TX3) (N := 9) hx hb htw inlX3 hown hK hP 0 rfl rfl 5 (by decide) (htw _ (ck_14 _ (List.mem_of_getElem? (i := 17) rfl))) (fun _ h9 => h9) rfl dX3_readSign_313 ?_
      refine lv_bipush (v := 37) hx hb dX3_readSign_316 (by decide) ?_
      refine lv_icmp_ne (tgt := 331) hx hb dX3_readSign_318 (by decide) (fun _ => ?_) (fun c => absurd c (by decide))
      refine W.widen (k := 0) (n := 0) (by omega) (by omega) ?_
      have hP9 := hP.sub (ws' := [(lx, .inr (3, [.ref lby, .int lfi, .ref lco, .int lxe, .int (lxa + 1), .int 28, .int lxp, .int lxn, .int lxl])), (lby, .inl (cBy, 900, .inl fBy))]) [0, 1] rfl
      have hD9 := hD.sub (ws' := [(lx, .inr (3, [.ref lby, .int lfi, .ref lco, .int lxe, .int (lxa + 1), .int 28, .int lxp, .int lxn, .int lxl])), (lby, .inl (cBy, 900, .inl fBy))]) [0, 1] (by decide) rfl
      have hK9 := hK.sub (tys' := []) [] rfl
      exact W.vret hx hb hr (fun t ht hW => ⟨⟨((lxa + 1), 28), rfl, (by rw [fe_readSign]; (try rw [if_pos c_1]); (try rw [if_neg h_2]); (try rw [if_neg h_3]); (try rw [if_neg h_4]); (try rw [if_neg h_5]); (try rw [if_neg h_6]); (try rw [if_neg h_7]); (try rw [if_pos rfl]); try rfl), by rw [ht]; exact hP9, va_K.moved hW.alike hK9, hD9⟩, hS.F ht⟩) hS.2.2 dX3_readSign_331
    by_cases h_9 : a0 = 44
    · subst h_9
      refine lv_tableIn (off := 252) (tgt := 288) hx hb dX3_readSign_36 (by decide) (by decide) (by decide) (by decide) ?_
      refine lv_aload_n hx hb dX3_readSign_288 rfl (lv_at hl 1 rfl) ?_
      refine lv_bipush (v := 39) hx hb dX3_readSign_289 (by decide) ?_
      refine va_put (D := (dC, dI)) (ci := 3) (v := .int 39) (ty := tyX3 5) (C := RX3) (T := TX3) (N := 9) hx hb htw inlX3 tyX3 tyX3_ok nmX3 hown hK hP hD hS 0 rfl rfl 5 (by decide) (htw _ (ck_14 _ (List.mem_of_getElem? (i := 17) rfl))) (fun _ h9 => h9) rfl (by decide +kernel) rfl rfl (Nat.le_of_ble_eq_true rfl) dX3_readSign_291 (fun H locs hP hD hS => ?_)
      have hP : va_P (dC, dI) vwCl [(lx, .inr (3, [.ref lby, .int lfi, .ref lco, .int lxe, .int (lxa + 1), .int 39, .int lxp, .int lxn, .int lxl])), (lby, .inl (cBy, 900, .inl fBy))] H := hP
      have hD : va_D A [(lx, .inr (3, [.ref lby, .int lfi, .ref lco, .int lxe, .int (lxa + 1), .int 39, .int lxp, .int lxn, .int lxl])), (lby, .inl (cBy, 900, .inl fBy))] := hD
      refine lv_aload_n hx hb dX3_readSign_294 rfl (lv_at hl 1 rfl) ?_
      refine va_get (D := (dC, dI)) (ci := 3) (v := .int 39) (C := RX3) (T := TX3) (N := 9) hx hb htw inlX3 hown hK hP 0 rfl rfl 5 (by decide) (htw _ (ck_14 _ (List.mem_of_getElem? (i := 17) rfl))) (fun _ h9 => h9) rfl dX3_readSign_295 ?_
      refine lv_bipush (v := 34) hx hb dX3_readSign_298 (by decide) ?_
      refine lv_icmp_eq (tgt := 321) hx hb dX3_readSign_300 (by decide) (fun c => absurd c (by decide)) (fun _ => ?_)
      refine lv_aload_n hx hb dX3_readSign_303 rfl (lv_at hl 1 rfl) ?_
      refine va_get (D := (dC, dI)) (ci := 3) (v := .int 39) (C := RX3) (T := TX3) (N := 9) hx hb htw inlX3 hown hK hP 0 rfl rfl 5 (by decide) (htw _ (ck_14 _ (List.mem_of_getElem? (i := 17) rfl))) (fun _ h9 => h9) rfl dX3_readSign_304 ?_
      refine lv_bipush (v := 36) hx hb dX3_readSign_307 (by decide) ?_
      refine lv_icmp_eq (tgt := 321) hx hb dX3_readSign_309 (by decide) (fun c => absurd c (by decide)) (fun _ => ?_)
      refine lv_aload_n hx hb dX3_readSign_312 rfl (lv_at hl 1 rfl) ?_
      refine va_get (D := (dC, dI)) (ci := 3) (v := .int 39) (C := RX3) (T := TX3) (N := 9) hx hb htw inlX3 hown hK hP 0 rfl rfl 5 (by decide) (htw _ (ck_14 _ (List.mem_of_getElem? (i := 17) rfl))) (fun _ h9 => h9) rfl dX3_readSign_313 ?_
      refine lv_bipush (v := 37) hx hb dX3_readSign_316 (by decide) ?_
      refine lv_icmp_ne (tgt := 331) hx hb dX3_readSign_318 (by decide) (fun _ => ?_) (fun c => absurd c (by decide))
      refine W.widen (k := 0) (n := 0) (by omega) (by omega) ?_
      have hP9 := hP.sub (ws' := [(lx, .inr (3, [.ref lby, .int lfi, .ref lco, .int lxe, .int (lxa + 1), .int 39, .int lxp, .int lxn, .int lxl])), (lby, .inl (cBy, 900, .inl fBy))]) [0, 1] rfl
      have hD9 := hD.sub (ws' := [(lx, .inr (3, [.ref lby, .int lfi, .ref lco, .int lxe, .int (lxa + 1), .int 39, .int lxp, .int lxn, .int lxl])), (lby, .inl (cBy, 900, .inl fBy))]) [0, 1] (by decide) rfl
      have hK9 := hK.sub (tys' := []) [] rfl
      exact W.vret hx hb hr (fun t ht hW => ⟨⟨((lxa + 1), 39), rfl, (by rw [fe_readSign]; (try rw [if_pos c_1]); (try rw [if_neg h_2]); (try rw [if_neg h_3]); (try rw [if_neg h_4]); (try rw [if_neg h_5]); (try rw [if_neg h_6]); (try rw [if_neg h_7]); (try rw [if_neg h_8]); (try rw [if_pos rfl]); try rfl), by rw [ht]; exact hP9, va_K.moved hW.alike hK9, hD9⟩, hS.F ht⟩) hS.2.2 dX3_readSign_331
    by_cases h_10 : a0 = 45
    · subst h_10
      refine lv_tableIn (off := 156) (tgt := 192) hx hb dX3_readSign_36 (by decide) (by decide) (by decide) (by decide) ?_
      refine lv_aload_n hx hb dX3_readSign_192 rfl (lv_at hl 1 rfl) ?_
      refine lv_bipush (v := 29) hx hb dX3_readSign_193 (by decide) ?_
      refine va_put (D := (dC, dI)) (ci := 3) (v := .int 29) (ty := tyX3 5) (C := RX3) (T := TX3) (N := 9) hx hb htw inlX3 tyX3 tyX3_ok nmX3 hown hK hP hD hS 0 rfl rfl 5 (by decide) (htw _ (ck_14 _ (List.mem_of_getElem? (i := 17) rfl))) (fun _ h9 => h9) rfl (by decide +kernel) rfl rfl (Nat.le_of_ble_eq_true rfl) dX3_readSign_195 (fun H locs hP hD hS => ?_)
      have hP : va_P (dC, dI) vwCl [(lx, .inr (3, [.ref lby, .int lfi, .ref lco, .int lxe, .int (lxa + 1), .int 29, .int lxp, .int lxn, .int lxl])), (lby, .inl (cBy, 900, .inl fBy))] H := hP
      have hD : va_D A [(lx, .inr (3, [.ref lby, .int lfi, .ref lco, .int lxe, .int (lxa + 1), .int 29, .int lxp, .int lxn, .int lxl])), (lby, .inl (cBy, 900, .inl fBy))] := hD
      refine lv_goto (tgt := 294) hx hb dX3_readSign_198 (by decide) ?_
      refine lv_aload_n hx hb dX3_readSign_294 rfl (lv_at hl 1 rfl) ?_
      refine va_get (D := (dC, dI)) (ci := 3) (v := .int 29) (C := RX3) (T := TX3) (N := 9) hx hb htw inlX3 hown hK hP 0 rfl rfl 5 (by decide) (htw _ (ck_14 _ (List.mem_of_getElem? (i := 17) rfl))) (fun _ h9 => h9) rfl dX3_readSign_295 ?_
      refine lv_bipush (v := 34) hx hb dX3_readSign_298 (by decide) ?_
      refine lv_icmp_eq (tgt := 321) hx hb dX3_readSign_300 (by decide) (fun c => absurd c (by decide)) (fun _ => ?_)
      refine lv_aload_n hx hb dX3_readSign_303 rfl (lv_at hl 1 rfl) ?_
      refine va_get (D := (dC, dI)) (ci := 3) (v := .int 29) (C := RX3) (T := TX3) (N := 9) hx hb htw inlX3 hown hK hP 0 rfl rfl 5 (by decide) (htw _ (ck_14 _ (List.mem_of_getElem? (i := 17) rfl))) (fun _ h9 => h9) rfl dX3_readSign_304 ?_
      refine lv_bipush (v := 36) hx hb dX3_readSign_307 (by decide) ?_
      refine lv_icmp_eq (tgt := 321) hx hb dX3_readSign_309 (by decide) (fun c => absurd c (by decide)) (fun _ => ?_)
      refine lv_aload_n hx hb dX3_readSign_312 rfl (lv_at hl 1 rfl) ?_
      refine va_get (D := (dC, dI)) (ci := 3) (v := .int 29) (C := RX3) (T := TX3) (N := 9) hx hb htw inlX3 hown hK hP 0 rfl rfl 5 (by decide) (htw _ (ck_14 _ (List.mem_of_getElem? (i := 17) rfl))) (fun _ h9 => h9) rfl dX3_readSign_313 ?_
      refine lv_bipush (v := 37) hx hb dX3_readSign_316 (by decide) ?_
      refine lv_icmp_ne (tgt := 331) hx hb dX3_readSign_318 (by decide) (fun _ => ?_) (fun c => absurd c (by decide))
      refine W.widen (k := 0) (n := 0) (by omega) (by omega) ?_
      have hP9 := hP.sub (ws' := [(lx, .inr (3, [.ref lby, .int lfi, .ref lco, .int lxe, .int (lxa + 1), .int 29, .int lxp, .int lxn, .int lxl])), (lby, .inl (cBy, 900, .inl fBy))]) [0, 1] rfl
      have hD9 := hD.sub (ws' := [(lx, .inr (3, [.ref lby, .int lfi, .ref lco, .int lxe, .int (lxa + 1), .int 29, .int lxp, .int lxn, .int lxl])), (lby, .inl (cBy, 900, .inl fBy))]) [0, 1] (by decide) rfl
      have hK9 := hK.sub (tys' := []) [] rfl
      exact W.vret hx hb hr (fun t ht hW => ⟨⟨((lxa + 1), 29), rfl, (by rw [fe_readSign]; (try rw [if_pos c_1]); (try rw [if_neg h_2]); (try rw [if_neg h_3]); (try rw [if_neg h_4]); (try rw [if_neg h_5]); (try rw [if_neg h_6]); (try rw [if_neg h_7]); (try rw [if_neg h_8]); (try rw [if_neg h_9]); (try rw [if_pos rfl]); try rfl), by rw [ht]; exact hP9, va_K.moved hW.alike hK9, hD9⟩, hS.F ht⟩) hS.2.2 dX3_readSign_331
    by_cases h_11 : a0 = 46
    · subst h_11
      refine lv_tableIn (off := 252) (tgt := 288) hx hb dX3_readSign_36 (by decide) (by decide) (by decide) (by decide) ?_
      refine lv_aload_n hx hb dX3_readSign_288 rfl (lv_at hl 1 rfl) ?_
      refine lv_bipush (v := 39) hx hb dX3_readSign_289 (by decide) ?_
      refine va_put (D := (dC, dI)) (ci := 3) (v := .int 39) (ty := tyX3 5) (C := RX3) (T := TX3) (N := 9) hx hb htw inlX3 tyX3 tyX3_ok nmX3 hown hK hP hD hS 0 rfl rfl 5 (by decide) (htw _ (ck_14 _ (List.mem_of_getElem? (i := 17) rfl))) (fun _ h9 => h9) rfl (by decide +kernel) rfl rfl (Nat.le_of_ble_eq_true rfl) dX3_readSign_291 (fun H locs hP hD hS => ?_)
      have hP : va_P (dC, dI) vwCl [(lx, .inr (3, [.ref lby, .int lfi, .ref lco, .int lxe, .int (lxa + 1), .int 39, .int lxp, .int lxn, .int lxl])), (lby, .inl (cBy, 900, .inl fBy))] H := hP
      have hD : va_D A [(lx, .inr (3, [.ref lby, .int lfi, .ref lco, .int lxe, .int (lxa + 1), .int 39, .int lxp, .int lxn, .int lxl])), (lby, .inl (cBy, 900, .inl fBy))] := hD
      refine lv_aload_n hx hb dX3_readSign_294 rfl (lv_at hl 1 rfl) ?_
      refine va_get (D := (dC, dI)) (ci := 3) (v := .int 39) (C := RX3) (T := TX3) (N := 9) hx hb htw inlX3 hown hK hP 0 rfl rfl 5 (by decide) (htw _ (ck_14 _ (List.mem_of_getElem? (i := 17) rfl))) (fun _ h9 => h9) rfl dX3_readSign_295 ?_
      refine lv_bipush (v := 34) hx hb dX3_readSign_298 (by decide) ?_
      refine lv_icmp_eq (tgt := 321) hx hb dX3_readSign_300 (by decide) (fun c => absurd c (by decide)) (fun _ => ?_)
      refine lv_aload_n hx hb dX3_readSign_303 rfl (lv_at hl 1 rfl) ?_
      refine va_get (D := (dC, dI)) (ci := 3) (v := .int 39) (C := RX3) (T := TX3) (N := 9) hx hb htw inlX3 hown hK hP 0 rfl rfl 5 (by decide) (htw _ (ck_14 _ (List.mem_of_getElem? (i := 17) rfl))) (fun _ h9 => h9) rfl dX3_readSign_304 ?_
      refine lv_bipush (v := 36) hx hb dX3_readSign_307 (by decide) ?_
      refine lv_icmp_eq (tgt := 321) hx hb dX3_readSign_309 (by decide) (fun c => absurd c (by decide)) (fun _ => ?_)
      refine lv_aload_n hx hb dX3_readSign_312 rfl (lv_at hl 1 rfl) ?_
      refine va_get (D := (dC, dI)) (ci := 3) (v := .int 39) (C := RX3) (T := TX3) (N := 9) hx hb htw inlX3 hown hK hP 0 rfl rfl 5 (by decide) (htw _ (ck_14 _ (List.mem_of_getElem? (i := 17) rfl))) (fun _ h9 => h9) rfl dX3_readSign_313 ?_
      refine lv_bipush (v := 37) hx hb dX3_readSign_316 (by decide) ?_
      refine lv_icmp_ne (tgt := 331) hx hb dX3_readSign_318 (by decide) (fun _ => ?_) (fun c => absurd c (by decide))
      refine W.widen (k := 0) (n := 0) (by omega) (by omega) ?_
      have hP9 := hP.sub (ws' := [(lx, .inr (3, [.ref lby, .int lfi, .ref lco, .int lxe, .int (lxa + 1), .int 39, .int lxp, .int lxn, .int lxl])), (lby, .inl (cBy, 900, .inl fBy))]) [0, 1] rfl
      have hD9 := hD.sub (ws' := [(lx, .inr (3, [.ref lby, .int lfi, .ref lco, .int lxe, .int (lxa + 1), .int 39, .int lxp, .int lxn, .int lxl])), (lby, .inl (cBy, 900, .inl fBy))]) [0, 1] (by decide) rfl
      have hK9 := hK.sub (tys' := []) [] rfl
      exact W.vret hx hb hr (fun t ht hW => ⟨⟨((lxa + 1), 39), rfl, (by rw [fe_readSign]; (try rw [if_pos c_1]); (try rw [if_neg h_2]); (try rw [if_neg h_3]); (try rw [if_neg h_4]); (try rw [if_neg h_5]); (try rw [if_neg h_6]); (try rw [if_neg h_7]); (try rw [if_neg h_8]); (try rw [if_neg h_9]); (try rw [if_neg h_10]); (try rw [if_pos rfl]); try rfl), by rw [ht]; exact hP9, va_K.moved hW.alike hK9, hD9⟩, hS.F ht⟩) hS.2.2 dX3_readSign_331
    by_cases h_12 : a0 = 47
    · subst h_12
      refine lv_tableIn (off := 174) (tgt := 210) hx hb dX3_readSign_36 (by decide) (by decide) (by decide) (by decide) ?_
      refine lv_aload_n hx hb dX3_readSign_210 rfl (lv_at hl 1 rfl) ?_
      refine lv_bipush (v := 31) hx hb dX3_readSign_211 (by decide) ?_
      refine va_put (D := (dC, dI)) (ci := 3) (v := .int 31) (ty := tyX3 5) (C := RX3) (T := TX3) (N := 9) hx hb htw inlX3 tyX3 tyX3_ok nmX3 hown hK hP hD hS 0 rfl rfl 5 (by decide) (htw _ (ck_14 _ (List.mem_of_getElem? (i := 17) rfl))) (fun _ h9 => h9) rfl (by decide +kernel) rfl rfl (Nat.le_of_ble_eq_true rfl) dX3_readSign_213 (fun H locs hP hD hS => ?_)
      have hP : va_P (dC, dI) vwCl [(lx, .inr (3, [.ref lby, .int lfi, .ref lco, .int lxe, .int (lxa + 1), .int 31, .int lxp, .int lxn, .int lxl])), (lby, .inl (cBy, 900, .inl fBy))] H := hP
      have hD : va_D A [(lx, .inr (3, [.ref lby, .int lfi, .ref lco, .int lxe, .int (lxa + 1), .int 31, .int lxp, .int lxn, .int lxl])), (lby, .inl (cBy, 900, .inl fBy))] := hD
      refine lv_goto (tgt := 294) hx hb dX3_readSign_216 (by decide) ?_
      refine lv_aload_n hx hb dX3_readSign_294 rfl (lv_at hl 1 rfl) ?_
      refine va_get (D := (dC, dI)) (ci := 3) (v := .int 31) (C := RX3) (T := TX3) (N := 9) hx hb htw inlX3 hown hK hP 0 rfl rfl 5 (by decide) (htw _ (ck_14 _ (List.mem_of_getElem? (i := 17) rfl))) (fun _ h9 => h9) rfl dX3_readSign_295 ?_
      refine lv_bipush (v := 34) hx hb dX3_readSign_298 (by decide) ?_
      refine lv_icmp_eq (tgt := 321) hx hb dX3_readSign_300 (by decide) (fun c => absurd c (by decide)) (fun _ => ?_)
      refine lv_aload_n hx hb dX3_readSign_303 rfl (lv_at hl 1 rfl) ?_
      refine va_get (D := (dC, dI)) (ci := 3) (v := .int 31) (C := RX3) (T := TX3) (N := 9) hx hb htw inlX3 hown hK hP 0 rfl rfl 5 (by decide) (htw _ (ck_14 _ (List.mem_of_getElem? (i := 17) rfl))) (fun _ h9 => h9) rfl dX3_readSign_304 ?_
      refine lv_bipush (v := 36) hx hb dX3_readSign_307 (by decide) ?_
      refine lv_icmp_eq (tgt := 321) hx hb dX3_readSign_309 (by decide) (fun c => absurd c (by decide)) (fun _ => ?_)
      refine lv_aload_n hx hb dX3_readSign_312 rfl (lv_at hl 1 rfl) ?_
      refine va_get (D := (dC, dI)) (ci := 3) (v := .int 31) (C := RX3) (T := TX3) (N := 9) hx hb htw inlX3 hown hK hP 0 rfl rfl 5 (by decide) (htw _ (ck_14 _ (List.mem_of_getElem? (i := 17) rfl))) (fun _ h9 => h9) rfl dX3_readSign_313 ?_
      refine lv_bipush (v := 37) hx hb dX3_readSign_316 (by decide) ?_
      refine lv_icmp_ne (tgt := 331) hx hb dX3_readSign_318 (by decide) (fun _ => ?_) (fun c => absurd c (by decide))
      refine W.widen (k := 0) (n := 0) (by omega) (by omega) ?_
      have hP9 := hP.sub (ws' := [(lx, .inr (3, [.ref lby, .int lfi, .ref lco, .int lxe, .int (lxa + 1), .int 31, .int lxp, .int lxn, .int lxl])), (lby, .inl (cBy, 900, .inl fBy))]) [0, 1] rfl
      have hD9 := hD.sub (ws' := [(lx, .inr (3, [.ref lby, .int lfi, .ref lco, .int lxe, .int (lxa + 1), .int 31, .int lxp, .int lxn, .int lxl])), (lby, .inl (cBy, 900, .inl fBy))]) [0, 1] (by decide) rfl
      have hK9 := hK.sub (tys' := []) [] rfl
      exact W.vret hx hb hr (fun t ht hW => ⟨⟨((lxa + 1), 31), rfl, (by rw [fe_readSign]; (try rw [if_pos c_1]); (try rw [if_neg h_2]); (try rw [if_neg h_3]); (try rw [if_neg h_4]); (try rw [if_neg h_5]); (try rw [if_neg h_6]); (try rw [if_neg h_7]); (try rw [if_neg h_8]); (try rw [if_neg h_9]); (try rw [if_neg h_10]); (try rw [if_neg h_11]); (try rw [if_pos rfl]); try rfl), by rw [ht]; exact hP9, va_K.moved hW.alike hK9, hD9⟩, hS.F ht⟩) hS.2.2 dX3_readSign_331
    by_cases h_13 : a0 = 48
    · subst h_13
      refine lv_tableIn (off := 252) (tgt := 288) hx hb dX3_readSign_36 (by decide) (by decide) (by decide) (by decide) ?_
      refine lv_aload_n hx hb dX3_readSign_288 rfl (lv_at hl 1 rfl) ?_
      refine lv_bipush (v := 39) hx hb dX3_readSign_289 (by decide) ?_
      refine va_put (D := (dC, dI)) (ci := 3) (v := .int 39) (ty := tyX3 5) (C := RX3) (T := TX3) (N := 9) hx hb htw inlX3 tyX3 tyX3_ok nmX3 hown hK hP hD hS 0 rfl rfl 5 (by decide) (htw _ (ck_14 _ (List.mem_of_getElem? (i := 17) rfl))) (fun _ h9 => h9) rfl (by decide +kernel) rfl rfl (Nat.le_of_ble_eq_true rfl) dX3_readSign_291 (fun H locs hP hD hS => ?_)
      have hP : va_P (dC, dI) vwCl [(lx, .inr (3, [.ref lby, .int lfi, .ref lco, .int lxe, .int (lxa + 1), .int 39, .int lxp, .int lxn, .int lxl])), (lby, .inl (cBy, 900, .inl fBy))] H := hP
      have hD : va_D A [(lx, .inr (3, [.ref lby, .int lfi, .ref lco, .int lxe, .int (lxa + 1), .int 39, .int lxp, .int lxn, .int lxl])), (lby, .inl (cBy, 900, .inl fBy))] := hD
      refine lv_aload_n hx hb dX3_readSign_294 rfl (lv_at hl 1 rfl) ?_
      refine va_get (D := (dC, dI)) (ci := 3) (v := .int 39) (C := RX3) (T := TX3) (N := 9) hx hb htw inlX3 hown hK hP 0 rfl rfl 5 (by decide) (htw _ (ck_14 _ (List.mem_of_getElem? (i := 17) rfl))) (fun _ h9 => h9) rfl dX3_readSign_295 ?_
      refine lv_bipush (v := 34) hx hb dX3_readSign_298 (by decide) ?_
      refine lv_icmp_eq (tgt := 321) hx hb dX3_readSign_300 (by decide) (fun c => absurd c (by decide)) (fun _ => ?_)
      refine lv_aload_n hx hb dX3_readSign_303 rfl (lv_at hl 1 rfl) ?_
      refine va_get (D := (dC, dI)) (ci := 3) (v := .int 39) (C := RX3) (T := TX3) (N := 9) hx hb htw inlX3 hown hK hP 0 rfl rfl 5 (by decide) (htw _ (ck_14 _ (List.mem_of_getElem? (i := 17) rfl))) (fun _ h9 => h9) rfl dX3_readSign_304 ?_
      refine lv_bipush (v := 36) hx hb dX3_readSign_307 (by decide) ?_
      refine lv_icmp_eq (tgt := 321) hx hb dX3_readSign_309 (by decide) (fun c => absurd c (by decide)) (fun _ => ?_)
      refine lv_aload_n hx hb dX3_readSign_312 rfl (lv_at hl 1 rfl) ?_
      refine va_get (D := (dC, dI)) (ci := 3) (v := .int 39) (C := RX3) (T := TX3) (N := 9) hx hb htw inlX3 hown hK hP 0 rfl rfl 5 (by decide) (htw _ (ck_14 _ (List.mem_of_getElem? (i := 17) rfl))) (fun _ h9 => h9) rfl dX3_readSign_313 ?_
      refine lv_bipush (v := 37) hx hb dX3_readSign_316 (by decide) ?_
      refine lv_icmp_ne (tgt := 331) hx hb dX3_readSign_318 (by decide) (fun _ => ?_) (fun c => absurd c (by decide))
      refine W.widen (k := 0) (n := 0) (by omega) (by omega) ?_
      have hP9 := hP.sub (ws' := [(lx, .inr (3, [.ref lby, .int lfi, .ref lco, .int lxe, .int (lxa + 1), .int 39, .int lxp, .int lxn, .int lxl])), (lby, .inl (cBy, 900, .inl fBy))]) [0, 1] rfl
      have hD9 := hD.sub (ws' := [(lx, .inr (3, [.ref lby, .int lfi, .ref lco, .int lxe, .int (lxa + 1), .int 39, .int lxp, .int lxn, .int lxl])), (lby, .inl (cBy, 900, .inl fBy))]) [0, 1] (by decide) rfl
      have hK9 := hK.sub (tys' := []) [] rfl
      exact W.vret hx hb hr (fun t ht hW => ⟨⟨((lxa + 1), 39), rfl, (by rw [fe_readSign]; (try rw [if_pos c_1]); (try rw [if_neg h_2]); (try rw [if_neg h_3]); (try rw [if_neg h_4]); (try rw [if_neg h_5]); (try rw [if_neg h_6]); (try rw [if_neg h_7]); (try rw [if_neg h_8]); (try rw [if_neg h_9]); (try rw [if_neg h_10]); (try rw [if_neg h_11]); (try rw [if_neg h_12]); (try rw [if_pos rfl]); try rfl), by rw [ht]; exact hP9, va_K.moved hW.alike hK9, hD9⟩, hS.F ht⟩) hS.2.2 dX3_readSign_331
    by_cases h_14 : a0 = 49
    · subst h_14
      refine lv_tableIn (off := 252) (tgt := 288) hx hb dX3_readSign_36 (by decide) (by decide) (by decide) (by decide) ?_
      refine lv_aload_n hx hb dX3_readSign_288 rfl (lv_at hl 1 rfl) ?_
      refine lv_bipush (v := 39) hx hb dX3_readSign_289 (by decide) ?_
      refine va_put (D := (dC, dI)) (ci := 3) (v := .int 39) (ty := tyX3 5) (C := RX3) (T := TX3) (N := 9) hx hb htw inlX3 tyX3 tyX3_ok nmX3 hown hK hP hD hS 0 rfl rfl 5 (by decide) (htw _ (ck_14 _ (List.mem_of_getElem? (i := 17) rfl))) (fun _ h9 => h9) rfl (by decide +kernel) rfl rfl (Nat.le_of_ble_eq_true rfl) dX3_readSign_291 (fun H locs hP hD hS => ?_)
      have hP : va_P (dC, dI) vwCl [(lx, .inr (3, [.ref lby, .int lfi, .ref lco, .int lxe, .int (lxa + 1), .int 39, .int lxp, .int lxn, .int lxl])), (lby, .inl (cBy, 900, .inl fBy))] H := hP
      have hD : va_D A [(lx, .inr (3, [.ref lby, .int lfi, .ref lco, .int lxe, .int (lxa + 1), .int 39, .int lxp, .int lxn, .int lxl])), (lby, .inl (cBy, 900, .inl fBy))] := hD
      refine lv_aload_n hx hb dX3_readSign_294 rfl (lv_at hl 1 rfl) ?_
      refine va_get (D := (dC, dI)) (ci := 3) (v := .int 39) (C := RX3) (T := TX3) (N := 9) hx hb htw inlX3 hown hK hP 0 rfl rfl 5 (by decide) (htw _ (ck_14 _ (List.mem_of_getElem? (i := 17) rfl))) (fun _ h9 => h9) rfl dX3_readSign_295 ?_
      refine lv_bipush (v := 34) hx hb dX3_readSign_298 (by decide) ?_
      refine lv_icmp_eq (tgt := 321) hx hb dX3_readSign_300 (by decide) (fun c => absurd c (by decide)) (fun _ => ?_)
      refine lv_aload_n hx hb dX3_readSign_303 rfl (lv_at hl 1 rfl) ?_
      refine va_get (D := (dC, dI)) (ci := 3) (v := .int 39) (C := RX3) (T := TX3) (N := 9) hx hb htw inlX3 hown hK hP 0 rfl rfl 5 (by decide) (htw _ (ck_14 _ (List.mem_of_getElem? (i := 17) rfl))) (fun _ h9 => h9) rfl dX3_readSign_304 ?_
      refine lv_bipush (v := 36) hx hb dX3_readSign_307 (by decide) ?_
      refine lv_icmp_eq (tgt := 321) hx hb dX3_readSign_309 (by decide) (fun c => absurd c (by decide)) (fun _ => ?_)
      refine lv_aload_n hx hb dX3_readSign_312 rfl (lv_at hl 1 rfl) ?_
      refine va_get (D := (dC, dI)) (ci := 3) (v := .int 39) (C := RX3) (T := TX3) (N := 9) hx hb htw inlX3 hown hK hP 0 rfl rfl 5 (by decide) (htw _ (ck_14 _ (List.mem_of_getElem? (i := 17) rfl))) (fun _ h9 => h9) rfl dX3_readSign_313 ?_
      refine lv_bipush (v := 37) hx hb dX3_readSign_316 (by decide) ?_
      refine lv_icmp_ne (tgt := 331) hx hb dX3_readSign_318 (by decide) (fun _ => ?_) (fun c => absurd c (by decide))
      refine W.widen (k := 0) (n := 0) (by omega) (by omega) ?_
      have hP9 := hP.sub (ws' := [(lx, .inr (3, [.ref lby, .int lfi, .ref lco, .int lxe, .int (lxa + 1), .int 39, .int lxp, .int lxn, .int lxl])), (lby, .inl (cBy, 900, .inl fBy))]) [0, 1] rfl
      have hD9 := hD.sub (ws' := [(lx, .inr (3, [.ref lby, .int lfi, .ref lco, .int lxe, .int (lxa + 1), .int 39, .int lxp, .int lxn, .int lxl])), (lby, .inl (cBy, 900, .inl fBy))]) [0, 1] (by decide) rfl
      have hK9 := hK.sub (tys' := []) [] rfl
      exact W.vret hx hb hr (fun t ht hW => ⟨⟨((lxa + 1), 39), rfl, (by rw [fe_readSign]; (try rw [if_pos c_1]); (try rw [if_neg h_2]); (try rw [if_neg h_3]); (try rw [if_neg h_4]); (try rw [if_neg h_5]); (try rw [if_neg h_6]); (try rw [if_neg h_7]); (try rw [if_neg h_8]); (try rw [if_neg h_9]); (try rw [if_neg h_10]); (try rw [if_neg h_11]); (try rw [if_neg h_12]); (try rw [if_neg h_13]); (try rw [if_pos rfl]); try rfl), by rw [ht]; exact hP9, va_K.moved hW.alike hK9, hD9⟩, hS.F ht⟩) hS.2.2 dX3_readSign_331
    by_cases h_15 : a0 = 50
    · subst h_15
      refine lv_tableIn (off := 252) (tgt := 288) hx hb dX3_readSign_36 (by decide) (by decide) (by decide) (by decide) ?_
      refine lv_aload_n hx hb dX3_readSign_288 rfl (lv_at hl 1 rfl) ?_
      refine lv_bipush (v := 39) hx hb dX3_readSign_289 (by decide) ?_
      refine va_put (D := (dC, dI)) (ci := 3) (v := .int 39) (ty := tyX3 5) (C := RX3) (T := TX3) (N := 9) hx hb htw inlX3 tyX3 tyX3_ok nmX3 hown hK hP hD hS 0 rfl rfl 5 (by decide) (htw _ (ck_14 _ (List.mem_of_getElem? (i := 17) rfl))) (fun _ h9 => h9) rfl (by decide +kernel) rfl rfl (Nat.le_of_ble_eq_true rfl) dX3_readSign_291 (fun H locs hP hD hS => ?_)
      have hP : va_P (dC, dI) vwCl [(lx, .inr (3, [.ref lby, .int lfi, .ref lco, .int lxe, .int (lxa + 1), .int 39, .int lxp, .int lxn, .int lxl])), (lby, .inl (cBy, 900, .inl fBy))] H := hP
      have hD : va_D A [(lx, .inr (3, [.ref lby, .int lfi, .ref lco, .int lxe, .int (lxa + 1), .int 39, .int lxp, .int lxn, .int lxl])), (lby, .inl (cBy, 900, .inl fBy))] := hD
      refine lv_aload_n hx hb dX3_readSign_294 rfl (lv_at hl 1 rfl) ?_
      refine va_get (D := (dC, dI)) (ci := 3) (v := .int 39) (C := RX3) (T := TX3) (N := 9) hx hb htw inlX3 hown hK hP 0 rfl rfl 5 (by decide) (htw _ (ck_14 _ (List.mem_of_getElem? (i := 17) rfl))) (fun _ h9 => h9) rfl dX3_readSign_295 ?_
      refine lv_bipush (v := 34) hx hb dX3_readSign_298 (by decide) ?_
      refine lv_icmp_eq (tgt := 321) hx hb dX3_readSign_300 (by decide) (fun c => absurd c (by decide)) (fun _ => ?_)
      refine lv_aload_n hx hb dX3_readSign_303 rfl (lv_at hl 1 rfl) ?_
      refine va_get (D := (dC, dI)) (ci := 3) (v := .int 39) (C := RX3) (T := TX3) (N := 9) hx hb htw inlX3 hown hK hP 0 rfl rfl 5 (by decide) (htw _ (ck_14 _ (List.mem_of_getElem? (i := 17) rfl))) (fun _ h9 => h9) rfl dX3_readSign_304 ?_
      refine lv_bipush (v := 36) hx hb dX3_readSign_307 (by decide) ?_
      refine lv_icmp_eq (tgt := 321) hx hb dX3_readSign_309 (by decide) (fun c => absurd c (by decide)) (fun _ => ?_)
      refine lv_aload_n hx hb dX3_readSign_312 rfl (lv_at hl 1 rfl) ?_
      refine va_get (D := (dC, dI)) (ci := 3) (v := .int 39) (C := RX3) (T := TX3) (N := 9) hx hb htw inlX3 hown hK hP 0 rfl rfl 5 (by decide) (htw _ (ck_14 _ (List.mem_of_getElem? (i := 17) rfl))) (fun _ h9 => h9) rfl dX3_readSign_313 ?_
      refine lv_bipush (v := 37) hx hb dX3_readSign_316 (by decide) ?_
      refine lv_icmp_ne (tgt := 331) hx hb dX3_readSign_318 (by decide) (fun _ => ?_) (fun c => absurd c (by decide))
      refine W.widen (k := 0) (n := 0) (by omega) (by omega) ?_
      have hP9 := hP.sub (ws' := [(lx, .inr (3, [.ref lby, .int lfi, .ref lco, .int lxe, .int (lxa + 1), .int 39, .int lxp, .int lxn, .int lxl])), (lby, .inl (cBy, 900, .inl fBy))]) [0, 1] rfl
      have hD9 := hD.sub (ws' := [(lx, .inr (3, [.ref lby, .int lfi, .ref lco, .int lxe, .int (lxa + 1), .int 39, .int lxp, .int lxn, .int lxl])), (lby, .inl (cBy, 900, .inl fBy))]) [0, 1] (by decide) rfl
      have hK9 := hK.sub (tys' := []) [] rfl
      exact W.vret hx hb hr (fun t ht hW => ⟨⟨((lxa + 1), 39), rfl, (by rw [fe_readSign]; (try rw [if_pos c_1]); (try rw [if_neg h_2]); (try rw [if_neg h_3]); (try rw [if_neg h_4]); (try rw [if_neg h_5]); (try rw [if_neg h_6]); (try rw [if_neg h_7]); (try rw [if_neg h_8]); (try rw [if_neg h_9]); (try rw [if_neg h_10]); (try rw [if_neg h_11]); (try rw [if_neg h_12]); (try rw [if_neg h_13]); (try rw [if_neg h_14]); (try rw [if_pos rfl]); try rfl), by rw [ht]; exact hP9, va_K.moved hW.alike hK9, hD9⟩, hS.F ht⟩) hS.2.2 dX3_readSign_331
    by_cases h_16 : a0 = 51
    · subst h_16
      refine lv_tableIn (off := 252) (tgt := 288) hx hb dX3_readSign_36 (by decide) (by decide) (by decide) (by decide) ?_
      refine lv_aload_n hx hb dX3_readSign_288 rfl (lv_at hl 1 rfl) ?_
      refine lv_bipush (v := 39) hx hb dX3_readSign_289 (by decide) ?_
      refine va_put (D := (dC, dI)) (ci := 3) (v := .int 39) (ty := tyX3 5) (C := RX3) (T := TX3) (N := 9) hx hb htw inlX3 tyX3 tyX3_ok nmX3 hown hK hP hD hS 0 rfl rfl 5 (by decide) (htw _ (ck_14 _ (List.mem_of_getElem? (i := 17) rfl))) (fun _ h9 => h9) rfl (by decide +kernel) rfl rfl (Nat.le_of_ble_eq_true rfl) dX3_readSign_291 (fun H locs hP hD hS => ?_)
      have hP : va_P (dC, dI) vwCl [(lx, .inr (3, [.ref lby, .int lfi, .ref lco, .int lxe, .int (lxa + 1), .int 39, .int lxp, .int lxn, .int lxl])), (lby, .inl (cBy, 900, .inl fBy))] H := hP
      have hD : va_D A [(lx, .inr (3, [.ref lby, .int lfi, .ref lco, .int lxe, .int (lxa + 1), .int 39, .int lxp, .int lxn, .int lxl])), (lby, .inl (cBy, 900, .inl fBy))] := hD
      refine lv_aload_n hx hb dX3_readSign_294 rfl (lv_at hl 1 rfl) ?_
      refine va_get (D := (dC, dI)) (ci := 3) (v := .int 39) (C := RX3) (T := TX3) (N := 9) hx hb htw inlX3 hown hK hP 0 rfl rfl 5 (by decide) (htw _ (ck_14 _ (List.mem_of_getElem? (i := 17) rfl))) (fun _ h9 => h9) rfl dX3_readSign_295 ?_
      refine lv_bipush (v := 34) hx hb dX3_readSign_298 (by decide) ?_
      refine lv_icmp_eq (tgt := 321) hx hb dX3_readSign_300 (by decide) (fun c => absurd c (by decide)) (fun _ => ?_)
      refine lv_aload_n hx hb dX3_readSign_303 rfl (lv_at hl 1 rfl) ?_
      refine va_get (D := (dC, dI)) (ci := 3) (v := .int 39) (C := RX3) (T := TX3) (N := 9) hx hb htw inlX3 hown hK hP 0 rfl rfl 5 (by decide) (htw _ (ck_14 _ (List.mem_of_getElem? (i := 17) rfl))) (fun _ h9 => h9) rfl dX3_readSign_304 ?_
      refine lv_bipush (v := 36) hx hb dX3_readSign_307 (by decide) ?_
      refine lv_icmp_eq (tgt := 321) hx hb dX3_readSign_309 (by decide) (fun c => absurd c (by decide)) (fun _ => ?_)
      refine lv_aload_n hx hb dX3_readSign_312 rfl (lv_at hl 1 rfl) ?_
      refine va_get (D := (dC, dI)) (ci := 3) (v := .int 39) (C := RX3) (T := TX3) (N := 9) hx hb htw inlX3 hown hK hP 0 rfl rfl 5 (by decide) (htw _ (ck_14 _ (List.mem_of_getElem? (i := 17) rfl))) (fun _ h9 => h9) rfl dX3_readSign_313 ?_
      refine lv_bipush (v := 37) hx hb dX3_readSign_316 (by decide) ?_
      refine lv_icmp_ne (tgt := 331) hx hb dX3_readSign_318 (by decide) (fun _ => ?_) (fun c => absurd c (by decide))
      refine W.widen (k := 0) (n := 0) (by omega) (by omega) ?_
      have hP9 := hP.sub (ws' := [(lx, .inr (3, [.ref lby, .int lfi, .ref lco, .int lxe, .int (lxa + 1), .int 39, .int lxp, .int lxn, .int lxl])), (lby, .inl (cBy, 900, .inl fBy))]) [0, 1] rfl
      have hD9 := hD.sub (ws' := [(lx, .inr (3, [.ref lby, .int lfi, .ref lco, .int lxe, .int (lxa + 1), .int 39, .int lxp, .int lxn, .int lxl])), (lby, .inl (cBy, 900, .inl fBy))]) [0, 1] (by decide) rfl
      have hK9 := hK.sub (tys' := []) [] rfl
      exact W.vret hx hb hr (fun t ht hW => ⟨⟨((lxa + 1), 39), rfl, (by rw [fe_readSign]; (try rw [if_pos c_1]); (try rw [if_neg h_2]); (try rw [if_neg h_3]); (try rw [if_neg h_4]); (try rw [if_neg h_5]); (try rw [if_neg h_6]); (try rw [if_neg h_7]); (try rw [if_neg h_8]); (try rw [if_neg h_9]); (try rw [if_neg h_10]); (try rw [if_neg h_11]); (try rw [if_neg h_12]); (try rw [if_neg h_13]); (try rw [if_neg h_14]); (try rw [if_neg h_15]); (try rw [if_pos rfl]); try rfl), by rw [ht]; exact hP9, va_K.moved hW.alike hK9, hD9⟩, hS.F ht⟩) hS.2.2 dX3_readSign_331
    by_cases h_17 : a0 = 52
    · subst h_17
      refine lv_tableIn (off := 252) (tgt := 288) hx hb dX3_readSign_36 (by decide) (by decide) (by decide) (by decide) ?_
      refine lv_aload_n hx hb dX3_readSign_288 rfl (lv_at hl 1 rfl) ?_
      refine lv_bipush (v := 39) hx hb dX3_readSign_289 (by decide) ?_
      refine va_put (D := (dC, dI)) (ci := 3) (v := .int 39) (ty := tyX3 5) (C := RX3) (T := TX3) (N := 9) hx hb htw inlX3 tyX3 tyX3_ok nmX3 hown hK hP hD hS 0 rfl rfl 5 (by decide) (htw _ (ck_14 _ (List.mem_of_getElem? (i := 17) rfl))) (fun _ h9 => h9) rfl (by decide +kernel) rfl rfl (Nat.le_of_ble_eq_true rfl) dX3_readSign_291 (fun H locs hP hD hS => ?_)
      have hP : va_P (dC, dI) vwCl [(lx, .inr (3, [.ref lby, .int lfi, .ref lco, .int lxe, .int (lxa + 1), .int 39, .int lxp, .int lxn, .int lxl])), (lby, .inl (cBy, 900, .inl fBy))] H := hP
      have hD : va_D A [(lx, .inr (3, [.ref lby, .int lfi, .ref lco, .int lxe, .int (lxa + 1), .int 39, .int lxp, .int lxn, .int lxl])), (lby, .inl (cBy, 900, .inl fBy))] := hD
      refine lv_aload_n hx hb dX3_readSign_294 rfl (lv_at hl 1 rfl) ?_
      refine va_get (D := (dC, dI)) (ci := 3) (v := .int 39) (C := RX3) (T := TX3) (N := 9) hx hb htw inlX3 hown hK hP 0 rfl rfl 5 (by decide) (htw _ (ck_14 _ (List.mem_of_getElem? (i := 17) rfl))) (fun _ h9 => h9) rfl dX3_readSign_295 ?_
      refine lv_bipush (v := 34) hx hb dX3_readSign_298 (by decide) ?_
      refine lv_icmp_eq (tgt := 321) hx hb dX3_readSign_300 (by decide) (fun c => absurd c (by decide)) (fun _ => ?_)
      refine lv_aload_n hx hb dX3_readSign_303 rfl (lv_at hl 1 rfl) ?_
      refine va_get (D := (dC, dI)) (ci := 3) (v := .int 39) (C := RX3) (T := TX3) (N := 9) hx hb htw inlX3 hown hK hP 0 rfl rfl 5 (by decide) (htw _ (ck_14 _ (List.mem_of_getElem? (i := 17) rfl))) (fun _ h9 => h9) rfl dX3_readSign_304 ?_
      refine lv_bipush (v := 36) hx hb dX3_readSign_307 (by decide) ?_
      refine lv_icmp_eq (tgt := 321) hx hb dX3_readSign_309 (by decide) (fun c => absurd c (by decide)) (fun _ => ?_)
      refine lv_aload_n hx hb dX3_readSign_312 rfl (lv_at hl 1 rfl) ?_
      refine va_get (D := (dC, dI)) (ci := 3) (v := .int 39) (C := RX3) (T := TX3) (N := 9) hx hb htw inlX3 hown hK hP 0 rfl rfl 5 (by decide) (htw _ (ck_14 _ (List.mem_of_getElem? (i := 17) rfl))) (fun _ h9 => h9) rfl dX3_readSign_313 ?_
      refine lv_bipush (v := 37) hx hb dX3_readSign_316 (by decide) ?_
      refine lv_icmp_ne (tgt := 331) hx hb dX3_readSign_318 (by decide) (fun _ => ?_) (fun c => absurd c (by decide))
      refine W.widen (k := 0) (n := 0) (by omega) (by omega) ?_
      have hP9 := hP.sub (ws' := [(lx, .inr (3, [.ref lby, .int lfi, .ref lco, .int lxe, .int (lxa + 1), .int 39, .int lxp, .int lxn, .int lxl])), (lby, .inl (cBy, 900, .inl fBy))]) [0, 1] rfl
      have hD9 := hD.sub (ws' := [(lx, .inr (3, [.ref lby, .int lfi, .ref lco, .int lxe, .int (lxa + 1), .int 39, .int lxp, .int lxn, .int lxl])), (lby, .inl (cBy, 900, .inl fBy))]) [0, 1] (by decide) rfl
      have hK9 := hK.sub (tys' := []) [] rfl
      exact W.vret hx hb hr (fun t ht hW => ⟨⟨((lxa + 1), 39), rfl, (by rw [fe_readSign]; (try rw [if_pos c_1]); (try rw [if_neg h_2]); (try rw [if_neg h_3]); (try rw [if_neg h_4]); (try rw [if_neg h_5]); (try rw [if_neg h_6]); (try rw [if_neg h_7]); (try rw [if_neg h_8]); (try rw [if_neg h_9]); (try rw [if_neg h_10]); (try rw [if_neg h_11]); (try rw [if_neg h_12]); (try rw [if_neg h_13]); (try rw [if_neg h_14]); (try rw [if_neg h_15]); (try rw [if_neg h_16]); (try rw [if_pos rfl]); try rfl), by rw [ht]; exact hP9, va_K.moved hW.alike hK9, hD9⟩, hS.F ht⟩) hS.2.2 dX3_readSign_331
    by_cases h_18 : a0 = 53
    · subst h_18
      refine lv_tableIn (off := 252) (tgt := 288) hx hb dX3_readSign_36 (by decide) (by decide) (by decide) (by decide) ?_
      refine lv_aload_n hx hb dX3_readSign_288 rfl (lv_at hl 1 rfl) ?_
      refine lv_bipush (v := 39) hx hb dX3_readSign_289 (by decide) ?_
      refine va_put (D := (dC, dI)) (ci := 3) (v := .int 39) (ty := tyX3 5) (C := RX3) (T := TX3) (N := 9) hx hb htw inlX3 tyX3 tyX3_ok nmX3 hown hK hP hD hS 0 rfl rfl 5 (by decide) (htw _ (ck_14 _ (List.mem_of_getElem? (i := 17) rfl))) (fun _ h9 => h9) rfl (by decide +kernel) rfl rfl (Nat.le_of_ble_eq_true rfl) dX3_readSign_291 (fun H locs hP hD hS => ?_)
      have hP : va_P (dC, dI) vwCl [(lx, .inr (3, [.ref lby, .int lfi, .ref lco, .int lxe, .int (lxa + 1), .int 39, .int lxp, .int lxn, .int lxl])), (lby, .inl (cBy, 900, .inl fBy))] H := hP
      have hD : va_D A [(lx, .inr (3, [.ref lby, .int lfi, .ref lco, .int lxe, .int (lxa + 1), .int 39, .int lxp, .int lxn, .int lxl])), (lby, .inl (cBy, 900, .inl fBy))] := hD
      refine lv_aload_n hx hb dX3_readSign_294 rfl (lv_at hl 1 rfl) ?_
      refine va_get (D := (dC, dI)) (ci := 3) (v := .int 39) (C := RX3) (T := TX3) (N := 9) hx hb htw inlX3 hown hK hP 0 rfl rfl 5 (by decide) (htw _ (ck_14 _ (List.mem_of_getElem? (i := 17) rfl))) (fun _ h9 => h9) rfl dX3_readSign_295 ?_
      refine lv_bipush (v := 34) hx hb dX3_readSign_298 (by decide) ?_
      refine lv_icmp_eq (tgt := 321) hx hb dX3_readSign_300 (by decide) (fun c => absurd c (by decide)) (fun _ => ?_)
      refine lv_aload_n hx hb dX3_readSign_303 rfl (lv_at hl 1 rfl) ?_
      refine va_get (D := (dC, dI)) (ci := 3) (v := .int 39) (C := RX3) (T := TX3) (N := 9) hx hb htw inlX3 hown hK hP 0 rfl rfl 5 (by decide) (htw _ (ck_14 _ (List.mem_of_getElem? (i := 17) rfl))) (fun _ h9 => h9) rfl dX3_readSign_304 ?_
      refine lv_bipush (v := 36) hx hb dX3_readSign_307 (by decide) ?_
      refine lv_icmp_eq (tgt := 321) hx hb dX3_readSign_309 (by decide) (fun c => absurd c (by decide)) (fun _ => ?_)
      refine lv_aload_n hx hb dX3_readSign_312 rfl (lv_at hl 1 rfl) ?_
      refine va_get (D := (dC, dI)) (ci := 3) (v := .int 39) (C := RX3) (T := TX3) (N := 9) hx hb htw inlX3 hown hK hP 0 rfl rfl 5 (by decide) (htw _ (ck_14 _ (List.mem_of_getElem? (i := 17) rfl))) (fun _ h9 => h9) rfl dX3_readSign_313 ?_
      refine lv_bipush (v := 37) hx hb dX3_readSign_316 (by decide) ?_
      refine lv_icmp_ne (tgt := 331) hx hb dX3_readSign_318 (by decide) (fun _ => ?_) (fun c => absurd c (by decide))
      refine W.widen (k := 0) (n := 0) (by omega) (by omega) ?_
      have hP9 := hP.sub (ws' := [(lx, .inr (3, [.ref lby, .int lfi, .ref lco, .int lxe, .int (lxa + 1), .int 39, .int lxp, .int lxn, .int lxl])), (lby, .inl (cBy, 900, .inl fBy))]) [0, 1] rfl
      have hD9 := hD.sub (ws' := [(lx, .inr (3, [.ref lby, .int lfi, .ref lco, .int lxe, .int (lxa + 1), .int 39, .int lxp, .int lxn, .int lxl])), (lby, .inl (cBy, 900, .inl fBy))]) [0, 1] (by decide) rfl
      have hK9 := hK.sub (tys' := []) [] rfl
      exact W.vret hx hb hr (fun t ht hW => ⟨⟨((lxa + 1), 39), rfl, (by rw [fe_readSign]; (try rw [if_pos c_1]); (try rw [if_neg h_2]); (try rw [if_neg h_3]); (try rw [if_neg h_4]); (try rw [if_neg h_5]); (try rw [if_neg h_6]); (try rw [if_neg h_7]); (try rw [if_neg h_8]); (try rw [if_neg h_9]); (try rw [if_neg h_10]); (try rw [if_neg h_11]); (try rw [if_neg h_12]); (try rw [if_neg h_13]); (try rw [if_neg h_14]); (try rw [if_neg h_15]); (try rw [if_neg h_16]); (try rw [if_neg h_17]); (try rw [if_pos rfl]); try rfl), by rw [ht]; exact hP9, va_K.moved hW.alike hK9, hD9⟩, hS.F ht⟩) hS.2.2 dX3_readSign_331
    by_cases h_19 : a0 = 54
    · subst h_19
      refine lv_tableIn (off := 252) (tgt := 288) hx hb dX3_readSign_36 (by decide) (by decide) (by decide) (by decide) ?_
      refine lv_aload_n hx hb dX3_readSign_288 rfl (lv_at hl 1 rfl) ?_
      refine lv_bipush (v := 39) hx hb dX3_readSign_289 (by decide) ?_
      refine va_put (D := (dC, dI)) (ci := 3) (v := .int 39) (ty := tyX3 5) (C := RX3) (T := TX3) (N := 9) hx hb htw inlX3 tyX3 tyX3_ok nmX3 hown hK hP hD hS 0 rfl rfl 5 (by decide) (htw _ (ck_14 _ (List.mem_of_getElem? (i := 17) rfl))) (fun _ h9 => h9) rfl (by decide +kernel) rfl rfl (Nat.le_of_ble_eq_true rfl) dX3_readSign_291 (fun H locs hP hD hS => ?_)
      have hP : va_P (dC, dI) vwCl [(lx, .inr (3, [.ref lby, .int lfi, .ref lco, .int lxe, .int (lxa + 1), .int 39, .int lxp, .int lxn, .int lxl])), (lby, .inl (cBy, 900, .inl fBy))] H := hP
      have hD : va_D A [(lx, .inr (3, [.ref lby, .int lfi, .ref lco, .int lxe, .int (lxa + 1), .int 39, .int lxp, .int lxn, .int lxl])), (lby, .inl (cBy, 900, .inl fBy))] := hD
      refine lv_aload_n hx hb dX3_readSign_294 rfl (lv_at hl 1 rfl) ?_
      refine va_get (D := (dC, dI)) (ci := 3) (v := .int 39) (C := RX3) (T := TX3) (N := 9) hx hb htw inlX3 hown hK hP 0 rfl rfl 5 (by decide) (htw _ (ck_14 _ (List.mem_of_getElem? (i := 17) rfl))) (fun _ h9 => h9) rfl dX3_readSign_295 ?_
      refine lv_bipush (v := 34) hx hb dX3_readSign_298 (by decide) ?_
      refine lv_icmp_eq (tgt := 321) hx hb dX3_readSign_300 (by decide) (fun c => absurd c (by decide)) (fun _ => ?_)
      refine lv_aload_n hx hb dX3_readSign_303 rfl (lv_at hl 1 rfl) ?_
      refine va_get (D := (dC, dI)) (ci := 3) (v := .int 39) (C := RX3) (T := TX3) (N := 9) hx hb htw inlX3 hown hK hP 0 rfl rfl 5 (by decide) (htw _ (ck_14 _ (List.mem_of_getElem? (i := 17) rfl))) (fun _ h9 => h9) rfl dX3_readSign_304 ?_
      refine lv_bipush (v := 36) hx hb dX3_readSign_307 (by decide) ?_
      refine lv_icmp_eq (tgt := 321) hx hb dX3_readSign_309 (by decide) (fun c => absurd c (by decide)) (fun _ => ?_)
      refine lv_aload_n hx hb dX3_readSign_312 rfl (lv_at hl 1 rfl) ?_
      refine va_get (D := (dC, dI)) (ci := 3) (v := .int 39) (C := RX3) (T := TX3) (N := 9) hx hb htw inlX3 hown hK hP 0 rfl rfl 5 (by decide) (htw _ (ck_14 _ (List.mem_of_getElem? (i := 17) rfl))) (fun _ h9 => h9) rfl dX3_readSign_313 ?_
      refine lv_bipush (v := 37) hx hb dX3_readSign_316 (by decide) ?_
      refine lv_icmp_ne (tgt := 331) hx hb dX3_readSign_318 (by decide) (fun _ => ?_) (fun c => absurd c (by decide))
      refine W.widen (k := 0) (n := 0) (by omega) (by omega) ?_
      have hP9 := hP.sub (ws' := [(lx, .inr (3, [.ref lby, .int lfi, .ref lco, .int lxe, .int (lxa + 1), .int 39, .int lxp, .int lxn, .int lxl])), (lby, .inl (cBy, 900, .inl fBy))]) [0, 1] rfl
      have hD9 := hD.sub (ws' := [(lx, .inr (3, [.ref lby, .int lfi, .ref lco, .int lxe, .int (lxa + 1), .int 39, .int lxp, .int lxn, .int lxl])), (lby, .inl (cBy, 900, .inl fBy))]) [0, 1] (by decide) rfl
      have hK9 := hK.sub (tys' := []) [] rfl
      exact W.vret hx hb hr (fun t ht hW => ⟨⟨((lxa + 1), 39), rfl, (by rw [fe_readSign]; (try rw [if_pos c_1]); (try rw [if_neg h_2]); (try rw [if_neg h_3]); (try rw [if_neg h_4]); (try rw [if_neg h_5]); (try rw [if_neg h_6]); (try rw [if_neg h_7]); (try rw [if_neg h_8]); (try rw [if_neg h_9]); (try rw [if_neg h_10]); (try rw [if_neg h_11]); (try rw [if_neg h_12]); (try rw [if_neg h_13]); (try rw [if_neg h_14]); (try rw [if_neg h_15]); (try rw [if_neg h_16]); (try rw [if_neg h_17]); (try rw [if_neg h_18]); (try rw [if_pos rfl]); try rfl), by rw [ht]; exact hP9, va_K.moved hW.alike hK9, hD9⟩, hS.F ht⟩) hS.2.2 dX3_readSign_331
    by_cases h_20 : a0 = 55
    · subst h_20
      refine lv_tableIn (off := 252) (tgt := 288) hx hb dX3_readSign_36 (by decide) (by decide) (by decide) (by decide) ?_
      refine lv_aload_n hx hb dX3_readSign_288 rfl (lv_at hl 1 rfl) ?_
      refine lv_bipush (v := 39) hx hb dX3_readSign_289 (by decide) ?_
      refine va_put (D := (dC, dI)) (ci := 3) (v := .int 39) (ty := tyX3 5) (C := RX3) (T := TX3) (N := 9) hx hb htw inlX3 tyX3 tyX3_ok nmX3 hown hK hP hD hS 0 rfl rfl 5 (by decide) (htw _ (ck_14 _ (List.mem_of_getElem? (i := 17) rfl))) (fun _ h9 => h9) rfl (by decide +kernel) rfl rfl (Nat.le_of_ble_eq_true rfl) dX3_readSign_291 (fun H locs hP hD hS => ?_)
      have hP : va_P (dC, dI) vwCl [(lx, .inr (3, [.ref lby, .int lfi, .ref lco, .int lxe, .int (lxa + 1), .int 39, .int lxp, .int lxn, .int lxl])), (lby, .inl (cBy, 900, .inl fBy))] H := hP
      have hD : va_D A [(lx, .inr (3, [.ref lby, .int lfi, .ref lco, .int lxe, .int (lxa + 1), .int 39, .int lxp, .int lxn, .int lxl])), (lby, .inl (cBy, 900, .inl fBy))] := hD
      refine lv_aload_n hx hb dX3_readSign_294 rfl (lv_at hl 1 rfl) ?_
      refine va_get (D := (dC, dI)) (ci := 3) (v := .int 39) (C := RX3) (T := TX3) (N := 9) hx hb htw inlX3 hown hK hP 0 rfl rfl 5 (by decide) (htw _ (ck_14 _ (List.mem_of_getElem? (i := 17) rfl))) (fun _ h9 => h9) rfl dX3_readSign_295 ?_
      refine lv_bipush (v := 34) hx hb dX3_readSign_298 (by decide) ?_
      refine lv_icmp_eq (tgt := 321) hx hb dX3_readSign_300 (by decide) (fun c => absurd c (by decide)) (fun _ => ?_)
      refine lv_aload_n hx hb dX3_readSign_303 rfl (lv_at hl 1 rfl) ?_
      refine va_get (D := (dC, dI)) (ci := 3) (v := .int 39) (C := RX3) (T := TX3) (N := 9) hx hb htw inlX3 hown hK hP 0 rfl rfl 5 (by decide) (htw _ (ck_14 _ (List.mem_of_getElem? (i := 17) rfl))) (fun _ h9 => h9) rfl dX3_readSign_304 ?_
      refine lv_bipush (v := 36) hx hb dX3_readSign_307 (by decide) ?_
      refine lv_icmp_eq (tgt := 321) hx hb dX3_readSign_309 (by decide) (fun c => absurd c (by decide)) (fun _ => ?_)
      refine lv_aload_n hx hb dX3_readSign_312 rfl (lv_at hl 1 rfl) ?_
      refine va_get (D := (dC, dI)) (ci := 3) (v := .int 39) (C := RX3) (T := TX3) (N := 9) hx hb htw inlX3 hown hK hP 0 rfl rfl 5 (by decide) (htw _ (ck_14 _ (List.mem_of_getElem? (i := 17) rfl))) (fun _ h9 => h9) rfl dX3_readSign_313 ?_
      refine lv_bipush (v := 37) hx hb dX3_readSign_316 (by decide) ?_
      refine lv_icmp_ne (tgt := 331) hx hb dX3_readSign_318 (by decide) (fun _ => ?_) (fun c => absurd c (by decide))
      refine W.widen (k := 0) (n := 0) (by omega) (by omega) ?_
      have hP9 := hP.sub (ws' := [(lx, .inr (3, [.ref lby, .int lfi, .ref lco, .int lxe, .int (lxa + 1), .int 39, .int lxp, .int lxn, .int lxl])), (lby, .inl (cBy, 900, .inl fBy))]) [0, 1] rfl
      have hD9 := hD.sub (ws' := [(lx, .inr (3, [.ref lby, .int lfi, .ref lco, .int lxe, .int (lxa + 1), .int 39, .int lxp, .int lxn, .int lxl])), (lby, .inl (cBy, 900, .inl fBy))]) [0, 1] (by decide) rfl
      have hK9 := hK.sub (tys' := []) [] rfl
      exact W.vret hx hb hr (fun t ht hW => ⟨⟨((lxa + 1), 39), rfl, (by rw [fe_readSign]; (try rw [if_pos c_1]); (try rw [if_neg h_2]); (try rw [if_neg h_3]); (try rw [if_neg h_4]); (try rw [if_neg h_5]); (try rw [if_neg h_6]); (try rw [if_neg h_7]); (try rw [if_neg h_8]); (try rw [if_neg h_9]); (try rw [if_neg h_10]); (try rw [if_neg h_11]); (try rw [if_neg h_12]); (try rw [if_neg h_13]); (try rw [if_neg h_14]); (try rw [if_neg h_15]); (try rw [if_neg h_16]); (try rw [if_neg h_17]); (try rw [if_neg h_18]); (try rw [if_neg h_19]); (try rw [if_pos rfl]); try rfl), by rw [ht]; exact hP9, va_K.moved hW.alike hK9, hD9⟩, hS.F ht⟩) hS.2.2 dX3_readSign_331
    by_cases h_21 : a0 = 56
    · subst h_21
      refine lv_tableIn (off := 252) (tgt := 288) hx hb dX3_readSign_36 (by decide) (by decide) (by decide) (by decide) ?_
      refine lv_aload_n hx hb dX3_readSign_288 rfl (lv_at hl 1 rfl) ?_
      refine lv_bipush (v := 39) hx hb dX3_readSign_289 (by decide) ?_
      refine va_put (D := (dC, dI)) (ci := 3) (v := .int 39) (ty := tyX3 5) (C := RX3) (T := TX3) (N := 9) hx hb htw inlX3 tyX3 tyX3_ok nmX3 hown hK hP hD hS 0 rfl rfl 5 (by decide) (htw _ (ck_14 _ (List.mem_of_getElem? (i := 17) rfl))) (fun _ h9 => h9) rfl (by decide +kernel) rfl rfl (Nat.le_of_ble_eq_true rfl) dX3_readSign_291 (fun H locs hP hD hS => ?_)
      have hP : va_P (dC, dI) vwCl [(lx, .inr (3, [.ref lby, .int lfi, .ref lco, .int lxe, .int (lxa + 1), .int 39, .int lxp, .int lxn, .int lxl])), (lby, .inl (cBy, 900, .inl fBy))] H := hP
      have hD : va_D A [(lx, .inr (3, [.ref lby, .int lfi, .ref lco, .int lxe, .int (lxa + 1), .int 39, .int lxp, .int lxn, .int lxl])), (lby, .inl (cBy, 900, .inl fBy))] := hD
      refine lv_aload_n hx hb dX3_readSign_294 rfl (lv_at hl 1 rfl) ?_
      refine va_get (D := (dC, dI)) (ci := 3) (v := .int 39) (C := RX3) (T := TX3) (N := 9) hx hb htw inlX3 hown hK hP 0 rfl rfl 5 (by decide) (htw _ (ck_14 _ (List.mem_of_getElem? (i := 17) rfl))) (fun _ h9 => h9) rfl dX3_readSign_295 ?_
      refine lv_bipush (v := 34) hx hb dX3_readSign_298 (by decide) ?_
      refine lv_icmp_eq (tgt := 321) hx hb dX3_readSign_300 (by decide) (fun c => absurd c (by decide)) (fun _ => ?_)
      refine lv_aload_n hx hb dX3_readSign_303 rfl (lv_at hl 1 rfl) ?_
      refine va_get (D := (dC, dI)) (ci := 3) (v := .int 39) (C := RX3) (T := TX3) (N := 9) hx hb htw inlX3 hown hK hP 0 rfl rfl 5 (by decide) (htw _ (ck_14 _ (List.mem_of_getElem? (i := 17) rfl))) (fun _ h9 => h9) rfl dX3_readSign_304 ?_
      refine lv_bipush (v := 36) hx hb dX3_readSign_307 (by decide) ?_
      refine lv_icmp_eq (tgt := 321) hx hb dX3_readSign_309 (by decide) (fun c => absurd c (by decide)) (fun _ => ?_)
      refine lv_aload_n hx hb dX3_readSign_312 rfl (lv_at hl 1 rfl) ?_
      refine va_get (D := (dC, dI)) (ci := 3) (v := .int 39) (C := RX3) (T := TX3) (N := 9) hx hb htw inlX3 hown hK hP 0 rfl rfl 5 (by decide) (htw _ (ck_14 _ (List.mem_of_getElem? (i := 17) rfl))) (fun _ h9 => h9) rfl dX3_readSign_313 ?_
      refine lv_bipush (v := 37) hx hb dX3_readSign_316 (by decide) ?_
      refine lv_icmp_ne (tgt := 331) hx hb dX3_readSign_318 (by decide) (fun _ => ?_) (fun c => absurd c (by decide))
      refine W.widen (k := 0) (n := 0) (by omega) (by omega) ?_
      have hP9 := hP.sub (ws' := [(lx, .inr (3, [.ref lby, .int lfi, .ref lco, .int lxe, .int (lxa + 1), .int 39, .int lxp, .int lxn, .int lxl])), (lby, .inl (cBy, 900, .inl fBy))]) [0, 1] rfl
      have hD9 := hD.sub (ws' := [(lx, .inr (3, [.ref lby, .int lfi, .ref lco, .int lxe, .int (lxa + 1), .int 39, .int lxp, .int lxn, .int lxl])), (lby, .inl (cBy, 900, .inl fBy))]) [0, 1] (by decide) rfl
      have hK9 := hK.sub (tys' := []) [] rfl
      exact W.vret hx hb hr (fun t ht hW => ⟨⟨((lxa + 1), 39), rfl, (by rw [fe_readSign]; (try rw [if_pos c_1]); (try rw [if_neg h_2]); (try rw [if_neg h_3]); (try rw [if_neg h_4]); (try rw [if_neg h_5]); (try rw [if_neg h_6]); (try rw [if_neg h_7]); (try rw [if_neg h_8]); (try rw [if_neg h_9]); (try rw [if_neg h_10]); (try rw [if_neg h_11]); (try rw [if_neg h_12]); (try rw [if_neg h_13]); (try rw [if_neg h_14]); (try rw [if_neg h_15]); (try rw [if_neg h_16]); (try rw [if_neg h_17]); (try rw [if_neg h_18]); (try rw [if_neg h_19]); (try rw [if_neg h_20]); (try rw [if_pos rfl]); try rfl), by rw [ht]; exact hP9, va_K.moved hW.alike hK9, hD9⟩, hS.F ht⟩) hS.2.2 dX3_readSign_331
    by_cases h_22 : a0 = 57
    · subst h_22
      refine lv_tableIn (off := 252) (tgt := 288) hx hb dX3_readSign_36 (by decide) (by decide) (by decide) (by decide) ?_
      refine lv_aload_n hx hb dX3_readSign_288 rfl (lv_at hl 1 rfl) ?_
      refine lv_bipush (v := 39) hx hb dX3_readSign_289 (by decide) ?_
      refine va_put (D := (dC, dI)) (ci := 3) (v := .int 39) (ty := tyX3 5) (C := RX3) (T := TX3) (N := 9) hx hb htw inlX3 tyX3 tyX3_ok nmX3 hown hK hP hD hS 0 rfl rfl 5 (by decide) (htw _ (ck_14 _ (List.mem_of_getElem? (i := 17) rfl))) (fun _ h9 => h9) rfl (by decide +kernel) rfl rfl (Nat.le_of_ble_eq_true rfl) dX3_readSign_291 (fun H locs hP hD hS => ?_)
      have hP : va_P (dC, dI) vwCl [(lx, .inr (3, [.ref lby, .int lfi, .ref lco, .int lxe, .int (lxa + 1), .int 39, .int lxp, .int lxn, .int lxl])), (lby, .inl (cBy, 900, .inl fBy))] H := hP
      have hD : va_D A [(lx, .inr (3, [.ref lby, .int lfi, .ref lco, .int lxe, .int (lxa + 1), .int 39, .int lxp, .int lxn, .int lxl])), (lby, .inl (cBy, 900, .inl fBy))] := hD
      refine lv_aload_n hx hb dX3_readSign_294 rfl (lv_at hl 1 rfl) ?_
      refine va_get (D := (dC, dI)) (ci := 3) (v := .int 39) (C := RX3) (T := TX3) (N := 9) hx hb htw inlX3 hown hK hP 0 rfl rfl 5 (by decide) (htw _ (ck_14 _ (List.mem_of_getElem? (i := 17) rfl))) (fun _ h9 => h9) rfl dX3_readSign_295 ?_
      refine lv_bipush (v := 34) hx hb dX3_readSign_298 (by decide) ?_
      refine lv_icmp_eq (tgt := 321) hx hb dX3_readSign_300 (by decide) (fun c => absurd c (by decide)) (fun _ => ?_)
      refine lv_aload_n hx hb dX3_readSign_303 rfl (lv_at hl 1 rfl) ?_
      refine va_get (D := (dC, dI)) (ci := 3) (v := .int 39) (C := RX3) (T := TX3) (N := 9) hx hb htw inlX3 hown hK hP 0 rfl rfl 5 (by decide) (htw _ (ck_14 _ (List.mem_of_getElem? (i := 17) rfl))) (fun _ h9 => h9) rfl dX3_readSign_304 ?_
      refine lv_bipush (v := 36) hx hb dX3_readSign_307 (by decide) ?_
      refine lv_icmp_eq (tgt := 321) hx hb dX3_readSign_309 (by decide) (fun c => absurd c (by decide)) (fun _ => ?_)
      refine lv_aload_n hx hb dX3_readSign_312 rfl (lv_at hl 1 rfl) ?_
      refine va_get (D := (dC, dI)) (ci := 3) (v := .int 39) (C := RX3) (T := TX3) (N := 9) hx hb htw inlX3 hown hK hP 0 rfl rfl 5 (by decide) (htw _ (ck_14 _ (List.mem_of_getElem? (i := 17) rfl))) (fun _ h9 => h9) rfl dX3_readSign_313 ?_
      refine lv_bipush (v := 37) hx hb dX3_readSign_316 (by decide) ?_
      refine lv_icmp_ne (tgt := 331) hx hb dX3_readSign_318 (by decide) (fun _ => ?_) (fun c => absurd c (by decide))
      refine W.widen (k := 0) (n := 0) (by omega) (by omega) ?_
      have hP9 := hP.sub (ws' := [(lx, .inr (3, [.ref lby, .int lfi, .ref lco, .int lxe, .int (lxa + 1), .int 39, .int lxp, .int lxn, .int lxl])), (lby, .inl (cBy, 900, .inl fBy))]) [0, 1] rfl
      have hD9 := hD.sub (ws' := [(lx, .inr (3, [.ref lby, .int lfi, .ref lco, .int lxe, .int (lxa + 1), .int 39, .int lxp, .int lxn, .int lxl])), (lby, .inl (cBy, 900, .inl fBy))]) [0, 1] (by decide) rfl
      have hK9 := hK.sub (tys' := []) [] rfl
      exact W.vret hx hb hr (fun t ht hW => ⟨⟨((lxa + 1), 39), rfl, (by rw [fe_readSign]; (try rw [if_pos c_1]); (try rw [if_neg h_2]); (try rw [if_neg h_3]); (try rw [if_neg h_4]); (try rw [if_neg h_5]); (try rw [if_neg h_6]); (try rw [if_neg h_7]); (try rw [if_neg h_8]); (try rw [if_neg h_9]); (try rw [if_neg h_10]); (try rw [if_neg h_11]); (try rw [if_neg h_12]); (try rw [if_neg h_13]); (try rw [if_neg h_14]); (try rw [if_neg h_15]); (try rw [if_neg h_16]); (try rw [if_neg h_17]); (try rw [if_neg h_18]); (try rw [if_neg h_19]); (try rw [if_neg h_20]); (try rw [if_neg h_21]); (try rw [if_pos rfl]); try rfl), by rw [ht]; exact hP9, va_K.moved hW.alike hK9, hD9⟩, hS.F ht⟩) hS.2.2 dX3_readSign_331
    by_cases h_23 : a0 = 58
    · subst h_23
      refine lv_tableIn (off := 252) (tgt := 288) hx hb dX3_readSign_36 (by decide) (by decide) (by decide) (by decide) ?_
      refine lv_aload_n hx hb dX3_readSign_288 rfl (lv_at hl 1 rfl) ?_
      refine lv_bipush (v := 39) hx hb dX3_readSign_289 (by decide) ?_
      refine va_put (D := (dC, dI)) (ci := 3) (v := .int 39) (ty := tyX3 5) (C := RX3) (T := TX3) (N := 9) hx hb htw inlX3 tyX3 tyX3_ok nmX3 hown hK hP hD hS 0 rfl rfl 5 (by decide) (htw _ (ck_14 _ (List.mem_of_getElem? (i := 17) rfl))) (fun _ h9 => h9) rfl (by decide +kernel) rfl rfl (Nat.le_of_ble_eq_true rfl) dX3_readSign_291 (fun H locs hP hD hS => ?_)
      have hP : va_P (dC, dI) vwCl [(lx, .inr (3, [.ref lby, .int lfi, .ref lco, .int lxe, .int (lxa + 1), .int 39, .int lxp, .int lxn, .int lxl])), (lby, .inl (cBy, 900, .inl fBy))] H := hP
      have hD : va_D A [(lx, .inr (3, [.ref lby, .int lfi, .ref lco, .int lxe, .int (lxa + 1), .int 39, .int lxp, .int lxn, .int lxl])), (lby, .inl (cBy, 900, .inl fBy))] := hD
      refine lv_aload_n hx hb dX3_readSign_294 rfl (lv_at hl 1 rfl) ?_
      refine va_get (D := (dC, dI)) (ci := 3) (v := .int 39) (C := RX3) (T := TX3) (N := 9) hx hb htw inlX3 hown hK hP 0 rfl rfl 5 (by decide) (htw _ (ck_14 _ (List.mem_of_getElem? (i := 17) rfl))) (fun _ h9 => h9) rfl dX3_readSign_295 ?_
      refine lv_bipush (v := 34) hx hb dX3_readSign_298 (by decide) ?_
      refine lv_icmp_eq (tgt := 321) hx hb dX3_readSign_300 (by decide) (fun c => absurd c (by decide)) (fun _ => ?_)
      refine lv_aload_n hx hb dX3_readSign_303 rfl (lv_at hl 1 rfl) ?_
      refine va_get (D := (dC, dI)) (ci := 3) (v := .int 39) (C := RX3) (T := TX3) (N := 9) hx hb htw inlX3 hown hK hP 0 rfl rfl 5 (by decide) (htw _ (ck_14 _ (List.mem_of_getElem? (i := 17) rfl))) (fun _ h9 => h9) rfl dX3_readSign_304 ?_
      refine lv_bipush (v := 36) hx hb dX3_readSign_307 (by decide) ?_
      refine lv_icmp_eq (tgt := 321) hx hb dX3_readSign_309 (by decide) (fun c => absurd c (by decide)) (fun _ => ?_)
      refine lv_aload_n hx hb dX3_readSign_312 rfl (lv_at hl 1 rfl) ?_
      refine va_get (D := (dC, dI)) (ci := 3) (v := .int 39) (C := RX3) (T := TX3) (N := 9) hx hb htw inlX3 hown hK hP 0 rfl rfl 5 (by decide) (htw _ (ck_14 _ (List.mem_of_getElem? (i := 17) rfl))) (fun _ h9 => h9) rfl dX3_readSign_313 ?_
      refine lv_bipush (v := 37) hx hb dX3_readSign_316 (by decide) ?_
      refine lv_icmp_ne (tgt := 331) hx hb dX3_readSign_318 (by decide) (fun _ => ?_) (fun c => absurd c (by decide))
      refine W.widen (k := 0) (n := 0) (by omega) (by omega) ?_
      have hP9 := hP.sub (ws' := [(lx, .inr (3, [.ref lby, .int lfi, .ref lco, .int lxe, .int (lxa + 1), .int 39, .int lxp, .int lxn, .int lxl])), (lby, .inl (cBy, 900, .inl fBy))]) [0, 1] rfl
      have hD9 := hD.sub (ws' := [(lx, .inr (3, [.ref lby, .int lfi, .ref lco, .int lxe, .int (lxa + 1), .int 39, .int lxp, .int lxn, .int lxl])), (lby, .inl (cBy, 900, .inl fBy))]) [0, 1] (by decide) rfl
      have hK9 := hK.sub (tys' := []) [] rfl
      exact W.vret hx hb hr (fun t ht hW => ⟨⟨((lxa + 1), 39), rfl, (by rw [fe_readSign]; (try rw [if_pos c_1]); (try rw [if_neg h_2]); (try rw [if_neg h_3]); (try rw [if_neg h_4]); (try rw [if_neg h_5]); (try rw [if_neg h_6]); (try rw [if_neg h_7]); (try rw [if_neg h_8]); (try rw [if_neg h_9]); (try rw [if_neg h_10]); (try rw [if_neg h_11]); (try rw [if_neg h_12]); (try rw [if_neg h_13]); (try rw [if_neg h_14]); (try rw [if_neg h_15]); (try rw [if_neg h_16]); (try rw [if_neg h_17]); (try rw [if_neg h_18]); (try rw [if_neg h_19]); (try rw [if_neg h_20]); (try rw [if_neg h_21]); (try rw [if_neg h_22]); (try rw [if_pos rfl]); try rfl), by rw [ht]; exact hP9, va_K.moved hW.alike hK9, hD9⟩, hS.F ht⟩) hS.2.2 dX3_readSign_331
    by_cases h_24 : a0 = 59
    · subst h_24
      refine lv_tableIn (off := 120) (tgt := 156) hx hb dX3_readSign_36 (by decide) (by decide) (by decide) (by decide) ?_
      refine lv_aload_n hx hb dX3_readSign_156 rfl (lv_at hl 1 rfl) ?_
      refine lv_bipush (v := 25) hx hb dX3_readSign_157 (by decide) ?_
      refine va_put (D := (dC, dI)) (ci := 3) (v := .int 25) (ty := tyX3 5) (C := RX3) (T := TX3) (N := 9) hx hb htw inlX3 tyX3 tyX3_ok nmX3 hown hK hP hD hS 0 rfl rfl 5 (by decide) (htw _ (ck_14 _ (List.mem_of_getElem? (i := 17) rfl))) (fun _ h9 => h9) rfl (by decide +kernel) rfl rfl (Nat.le_of_ble_eq_true rfl) dX3_readSign_159 (fun H locs hP hD hS => ?_)
      have hP : va_P (dC, dI) vwCl [(lx, .inr (3, [.ref lby, .int lfi, .ref lco, .int lxe, .int (lxa + 1), .int 25, .int lxp, .int lxn, .int lxl])), (lby, .inl (cBy, 900, .inl fBy))] H := hP
      have hD : va_D A [(lx, .inr (3, [.ref lby, .int lfi, .ref lco, .int lxe, .int (lxa + 1), .int 25, .int lxp, .int lxn, .int lxl])), (lby, .inl (cBy, 900, .inl fBy))] := hD
      refine lv_goto (tgt := 294) hx hb dX3_readSign_162 (by decide) ?_
      refine lv_aload_n hx hb dX3_readSign_294 rfl (lv_at hl 1 rfl) ?_
      refine va_get (D := (dC, dI)) (ci := 3) (v := .int 25) (C := RX3) (T := TX3) (N := 9) hx hb htw inlX3 hown hK hP 0 rfl rfl 5 (by decide) (htw _ (ck_14 _ (List.mem_of_getElem? (i := 17) rfl))) (fun _ h9 => h9) rfl dX3_readSign_295 ?_
      refine lv_bipush (v := 34) hx hb dX3_readSign_298 (by decide) ?_
      refine lv_icmp_eq (tgt := 321) hx hb dX3_readSign_300 (by decide) (fun c => absurd c (by decide)) (fun _ => ?_)
      refine lv_aload_n hx hb dX3_readSign_303 rfl (lv_at hl 1 rfl) ?_
      refine va_get (D := (dC, dI)) (ci := 3) (v := .int 25) (C := RX3) (T := TX3) (N := 9) hx hb htw inlX3 hown hK hP 0 rfl rfl 5 (by decide) (htw _ (ck_14 _ (List.mem_of_getElem? (i := 17) rfl))) (fun _ h9 => h9) rfl dX3_readSign_304 ?_
      refine lv_bipush (v := 36) hx hb dX3_readSign_307 (by decide) ?_
      refine lv_icmp_eq (tgt := 321) hx hb dX3_readSign_309 (by decide) (fun c => absurd c (by decide)) (fun _ => ?_)
      refine lv_aload_n hx hb dX3_readSign_312 rfl (lv_at hl 1 rfl) ?_
      refine va_get (D := (dC, dI)) (ci := 3) (v := .int 25) (C := RX3) (T := TX3) (N := 9) hx hb htw inlX3 hown hK hP 0 rfl rfl 5 (by decide) (htw _ (ck_14 _ (List.mem_of_getElem? (i := 17) rfl))) (fun _ h9 => h9) rfl dX3_readSign_313 ?_
      refine lv_bipush (v := 37) hx hb dX3_readSign_316 (by decide) ?_
      refine lv_icmp_ne (tgt := 331) hx hb dX3_readSign_318 (by decide) (fun _ => ?_) (fun c => absurd c (by decide))
      refine W.widen (k := 0) (n := 0) (by omega) (by omega) ?_
      have hP9 := hP.sub (ws' := [(lx, .inr (3, [.ref lby, .int lfi, .ref lco, .int lxe, .int (lxa + 1), .int 25, .int lxp, .int lxn, .int lxl])), (lby, .inl (cBy, 900, .inl fBy))]) [0, 1] rfl
      have hD9 := hD.sub (ws' := [(lx, .inr (3, [.ref lby, .int lfi, .ref lco, .int lxe, .int (lxa + 1), .int 25, .int lxp, .int lxn, .int lxl])), (lby, .inl (cBy, 900, .inl fBy))]) [0, 1] (by decide) rfl
      have hK9 := hK.sub (tys' := []) [] rfl
      exact W.vret hx hb hr (fun t ht hW => ⟨⟨((lxa + 1), 25), rfl, (by rw [fe_readSign]; (try rw [if_pos c_1]); (try rw [if_neg h_2]); (try rw [if_neg h_3]); (try rw [if_neg h_4]); (try rw [if_neg h_5]); (try rw [if_neg h_6]); (try rw [if_neg h_7]); (try rw [if_neg h_8]); (try rw [if_neg h_9]); (try rw [if_neg h_10]); (try rw [if_neg h_11]); (try rw [if_neg h_12]); (try rw [if_neg h_13]); (try rw [if_neg h_14]); (try rw [if_neg h_15]); (try rw [if_neg h_16]); (try rw [if_neg h_17]); (try rw [if_neg h_18]); (try rw [if_neg h_19]); (try rw [if_neg h_20]); (try rw [if_neg h_21]); (try rw [if_neg h_22]); (try rw [if_neg h_23]); (try rw [if_pos rfl]); try rfl), by rw [ht]; exact hP9, va_K.moved hW.alike hK9, hD9⟩, hS.F ht⟩) hS.2.2 dX3_readSign_331
    by_cases h_25 : a0 = 60
    · subst h_25
      refine lv_tableIn (off := 201) (tgt := 237) hx hb dX3_readSign_36 (by decide) (by decide) (by decide) (by decide) ?_
      refine lv_aload_n hx hb dX3_readSign_237 rfl (lv_at hl 1 rfl) ?_
      refine lv_iload_n hx hb dX3_readSign_238 rfl (lv_at hl 0 rfl) ?_
      refine lv_bipush (v := 61) hx hb dX3_readSign_239 (by decide) ?_
      refine lv_icmp_ne (tgt := 249) hx hb dX3_readSign_241 (by decide) (fun _ => ?_) (fun c => absurd c (by decide))
      refine lv_iload_n hx hb dX3_readSign_249 rfl (lv_at hl 0 rfl) ?_
      refine lv_bipush (v := 62) hx hb dX3_readSign_250 (by decide) ?_
      refine lv_icmp_ne (tgt := 260) hx hb dX3_readSign_252 (by decide) (fun _ => ?_) (fun c => absurd c (by decide))
      refine lv_bipush (v := 33) hx hb dX3_readSign_260 (by decide) ?_
      refine va_put (D := (dC, dI)) (ci := 3) (v := .int 33) (ty := tyX3 5) (C := RX3) (T := TX3) (N := 9) hx hb htw inlX3 tyX3 tyX3_ok nmX3 hown hK hP hD hS 0 rfl rfl 5 (by decide) (htw _ (ck_14 _ (List.mem_of_getElem? (i := 17) rfl))) (fun _ h9 => h9) rfl (by decide +kernel) rfl rfl (Nat.le_of_ble_eq_true rfl) dX3_readSign_262 (fun H locs hP hD hS => ?_)
      have hP : va_P (dC, dI) vwCl [(lx, .inr (3, [.ref lby, .int lfi, .ref lco, .int lxe, .int (lxa + 1), .int 33, .int lxp, .int lxn, .int lxl])), (lby, .inl (cBy, 900, .inl fBy))] H := hP
      have hD : va_D A [(lx, .inr (3, [.ref lby, .int lfi, .ref lco, .int lxe, .int (lxa + 1), .int 33, .int lxp, .int lxn, .int lxl])), (lby, .inl (cBy, 900, .inl fBy))] := hD
      refine lv_goto (tgt := 294) hx hb dX3_readSign_265 (by decide) ?_
      refine lv_aload_n hx hb dX3_readSign_294 rfl (lv_at hl 1 rfl) ?_
      refine va_get (D := (dC, dI)) (ci := 3) (v := .int 33) (C := RX3) (T := TX3) (N := 9) hx hb htw inlX3 hown hK hP 0 rfl rfl 5 (by decide) (htw _ (ck_14 _ (List.mem_of_getElem? (i := 17) rfl))) (fun _ h9 => h9) rfl dX3_readSign_295 ?_
      refine lv_bipush (v := 34) hx hb dX3_readSign_298 (by decide) ?_
      refine lv_icmp_eq (tgt := 321) hx hb dX3_readSign_300 (by decide) (fun c => absurd c (by decide)) (fun _ => ?_)
      refine lv_aload_n hx hb dX3_readSign_303 rfl (lv_at hl 1 rfl) ?_
      refine va_get (D := (dC, dI)) (ci := 3) (v := .int 33) (C := RX3) (T := TX3) (N := 9) hx hb htw inlX3 hown hK hP 0 rfl rfl 5 (by decide) (htw _ (ck_14 _ (List.mem_of_getElem? (i := 17) rfl))) (fun _ h9 => h9) rfl dX3_readSign_304 ?_
      refine lv_bipush (v := 36) hx hb dX3_readSign_307 (by decide) ?_
      refine lv_icmp_eq (tgt := 321) hx hb dX3_readSign_309 (by decide) (fun c => absurd c (by decide)) (fun _ => ?_)
      refine lv_aload_n hx hb dX3_readSign_312 rfl (lv_at hl 1 rfl) ?_
      refine va_get (D := (dC, dI)) (ci := 3) (v := .int 33) (C := RX3) (T := TX3) (N := 9) hx hb htw inlX3 hown hK hP 0 rfl rfl 5 (by decide) (htw _ (ck_14 _ (List.mem_of_getElem? (i := 17) rfl))) (fun _ h9 => h9) rfl dX3_readSign_313 ?_
      refine lv_bipush (v := 37) hx hb dX3_readSign_316 (by decide) ?_
      refine lv_icmp_ne (tgt := 331) hx hb dX3_readSign_318 (by decide) (fun _ => ?_) (fun c => absurd c (by decide))
      refine W.widen (k := 0) (n := 0) (by omega) (by omega) ?_
      have hP9 := hP.sub (ws' := [(lx, .inr (3, [.ref lby, .int lfi, .ref lco, .int lxe, .int (lxa + 1), .int 33, .int lxp, .int lxn, .int lxl])), (lby, .inl (cBy, 900, .inl fBy))]) [0, 1] rfl
      have hD9 := hD.sub (ws' := [(lx, .inr (3, [.ref lby, .int lfi, .ref lco, .int lxe, .int (lxa + 1), .int 33, .int lxp, .int lxn, .int lxl])), (lby, .inl (cBy, 900, .inl fBy))]) [0, 1] (by decide) rfl
      have hK9 := hK.sub (tys' := []) [] rfl
      exact W.vret hx hb hr (fun t ht hW => ⟨⟨((lxa + 1), 33), rfl, (by rw [fe_readSign]; (try rw [if_pos c_1]); (try rw [if_neg h_2]); (try rw [if_neg h_3]); (try rw [if_neg h_4]); (try rw [if_neg h_5]); (try rw [if_neg h_6]); (try rw [if_neg h_7]); (try rw [if_neg h_8]); (try rw [if_neg h_9]); (try rw [if_neg h_10]); (try rw [if_neg h_11]); (try rw [if_neg h_12]); (try rw [if_neg h_13]); (try rw [if_neg h_14]); (try rw [if_neg h_15]); (try rw [if_neg h_16]); (try rw [if_neg h_17]); (try rw [if_neg h_18]); (try rw [if_neg h_19]); (try rw [if_neg h_20]); (try rw [if_neg h_21]); (try rw [if_neg h_22]); (try rw [if_neg h_23]); (try rw [if_neg h_24]); (try rw [if_pos rfl]); try rfl), by rw [ht]; exact hP9, va_K.moved hW.alike hK9, hD9⟩, hS.F ht⟩) hS.2.2 dX3_readSign_331
    by_cases h_26 : a0 = 61
    · subst h_26
      refine lv_tableIn (off := 192) (tgt := 228) hx hb dX3_readSign_36 (by decide) (by decide) (by decide) (by decide) ?_
      refine lv_aload_n hx hb dX3_readSign_228 rfl (lv_at hl 1 rfl) ?_
      refine lv_bipush (v := 35) hx hb dX3_readSign_229 (by decide) ?_
      refine va_put (D := (dC, dI)) (ci := 3) (v := .int 35) (ty := tyX3 5) (C := RX3) (T := TX3) (N := 9) hx hb htw inlX3 tyX3 tyX3_ok nmX3 hown hK hP hD hS 0 rfl rfl 5 (by decide) (htw _ (ck_14 _ (List.mem_of_getElem? (i := 17) rfl))) (fun _ h9 => h9) rfl (by decide +kernel) rfl rfl (Nat.le_of_ble_eq_true rfl) dX3_readSign_231 (fun H locs hP hD hS => ?_)
      have hP : va_P (dC, dI) vwCl [(lx, .inr (3, [.ref lby, .int lfi, .ref lco, .int lxe, .int (lxa + 1), .int 35, .int lxp, .int lxn, .int lxl])), (lby, .inl (cBy, 900, .inl fBy))] H := hP
      have hD : va_D A [(lx, .inr (3, [.ref lby, .int lfi, .ref lco, .int lxe, .int (lxa + 1), .int 35, .int lxp, .int lxn, .int lxl])), (lby, .inl (cBy, 900, .inl fBy))] := hD
      refine lv_goto (tgt := 294) hx hb dX3_readSign_234 (by decide) ?_
      refine lv_aload_n hx hb dX3_readSign_294 rfl (lv_at hl 1 rfl) ?_
      refine va_get (D := (dC, dI)) (ci := 3) (v := .int 35) (C := RX3) (T := TX3) (N := 9) hx hb htw inlX3 hown hK hP 0 rfl rfl 5 (by decide) (htw _ (ck_14 _ (List.mem_of_getElem? (i := 17) rfl))) (fun _ h9 => h9) rfl dX3_readSign_295 ?_
      refine lv_bipush (v := 34) hx hb dX3_readSign_298 (by decide) ?_
      refine lv_icmp_eq (tgt := 321) hx hb dX3_readSign_300 (by decide) (fun c => absurd c (by decide)) (fun _ => ?_)
      refine lv_aload_n hx hb dX3_readSign_303 rfl (lv_at hl 1 rfl) ?_
      refine va_get (D := (dC, dI)) (ci := 3) (v := .int 35) (C := RX3) (T := TX3) (N := 9) hx hb htw inlX3 hown hK hP 0 rfl rfl 5 (by decide) (htw _ (ck_14 _ (List.mem_of_getElem? (i := 17) rfl))) (fun _ h9 => h9) rfl dX3_readSign_304 ?_
      refine lv_bipush (v := 36) hx hb dX3_readSign_307 (by decide) ?_
      refine lv_icmp_eq (tgt := 321) hx hb dX3_readSign_309 (by decide) (fun c => absurd c (by decide)) (fun _ => ?_)
      refine lv_aload_n hx hb dX3_readSign_312 rfl (lv_at hl 1 rfl) ?_
      refine va_get (D := (dC, dI)) (ci := 3) (v := .int 35) (C := RX3) (T := TX3) (N := 9) hx hb htw inlX3 hown hK hP 0 rfl rfl 5 (by decide) (htw _ (ck_14 _ (List.mem_of_getElem? (i := 17) rfl))) (fun _ h9 => h9) rfl dX3_readSign_313 ?_
      refine lv_bipush (v := 37) hx hb dX3_readSign_316 (by decide) ?_
      refine lv_icmp_ne (tgt := 331) hx hb dX3_readSign_318 (by decide) (fun _ => ?_) (fun c => absurd c (by decide))
      refine W.widen (k := 0) (n := 0) (by omega) (by omega) ?_
      have hP9 := hP.sub (ws' := [(lx, .inr (3, [.ref lby, .int lfi, .ref lco, .int lxe, .int (lxa + 1), .int 35, .int lxp, .int lxn, .int lxl])), (lby, .inl (cBy, 900, .inl fBy))]) [0, 1] rfl
      have hD9 := hD.sub (ws' := [(lx, .inr (3, [.ref lby, .int lfi, .ref lco, .int lxe, .int (lxa + 1), .int 35, .int lxp, .int lxn, .int lxl])), (lby, .inl (cBy, 900, .inl fBy))]) [0, 1] (by decide) rfl
      have hK9 := hK.sub (tys' := []) [] rfl
      exact W.vret hx hb hr (fun t ht hW => ⟨⟨((lxa + 1), 35), rfl, (by rw [fe_readSign]; (try rw [if_pos c_1]); (try rw [if_neg h_2]); (try rw [if_neg h_3]); (try rw [if_neg h_4]); (try rw [if_neg h_5]); (try rw [if_neg h_6]); (try rw [if_neg h_7]); (try rw [if_neg h_8]); (try rw [if_neg h_9]); (try rw [if_neg h_10]); (try rw [if_neg h_11]); (try rw [if_neg h_12]); (try rw [if_neg h_13]); (try rw [if_neg h_14]); (try rw [if_neg h_15]); (try rw [if_neg h_16]); (try rw [if_neg h_17]); (try rw [if_neg h_18]); (try rw [if_neg h_19]); (try rw [if_neg h_20]); (try rw [if_neg h_21]); (try rw [if_neg h_22]); (try rw [if_neg h_23]); (try rw [if_neg h_24]); (try rw [if_neg h_25]); (try rw [if_pos rfl]); try rfl), by rw [ht]; exact hP9, va_K.moved hW.alike hK9, hD9⟩, hS.F ht⟩) hS.2.2 dX3_readSign_331
    by_cases h_27 : a0 = 62
    · subst h_27
      refine lv_tableIn (off := 232) (tgt := 268) hx hb dX3_readSign_36 (by decide) (by decide) (by decide) (by decide) ?_
      refine lv_aload_n hx hb dX3_readSign_268 rfl (lv_at hl 1 rfl) ?_
      refine lv_iload_n hx hb dX3_readSign_269 rfl (lv_at hl 0 rfl) ?_
      refine lv_bipush (v := 61) hx hb dX3_readSign_270 (by decide) ?_
      refine lv_icmp_ne (tgt := 280) hx hb dX3_readSign_272 (by decide) (fun _ => ?_) (fun c => absurd c (by decide))
      refine lv_bipush (v := 38) hx hb dX3_readSign_280 (by decide) ?_
      refine va_put (D := (dC, dI)) (ci := 3) (v := .int 38) (ty := tyX3 5) (C := RX3) (T := TX3) (N := 9) hx hb htw inlX3 tyX3 tyX3_ok nmX3 hown hK hP hD hS 0 rfl rfl 5 (by decide) (htw _ (ck_14 _ (List.mem_of_getElem? (i := 17) rfl))) (fun _ h9 => h9) rfl (by decide +kernel) rfl rfl (Nat.le_of_ble_eq_true rfl) dX3_readSign_282 (fun H locs hP hD hS => ?_)
      have hP : va_P (dC, dI) vwCl [(lx, .inr (3, [.ref lby, .int lfi, .ref lco, .int lxe, .int (lxa + 1), .int 38, .int lxp, .int lxn, .int lxl])), (lby, .inl (cBy, 900, .inl fBy))] H := hP
      have hD : va_D A [(lx, .inr (3, [.ref lby, .int lfi, .ref lco, .int lxe, .int (lxa + 1), .int 38, .int lxp, .int lxn, .int lxl])), (lby, .inl (cBy, 900, .inl fBy))] := hD
      refine lv_goto (tgt := 294) hx hb dX3_readSign_285 (by decide) ?_
      refine lv_aload_n hx hb dX3_readSign_294 rfl (lv_at hl 1 rfl) ?_
      refine va_get (D := (dC, dI)) (ci := 3) (v := .int 38) (C := RX3) (T := TX3) (N := 9) hx hb htw inlX3 hown hK hP 0 rfl rfl 5 (by decide) (htw _ (ck_14 _ (List.mem_of_getElem? (i := 17) rfl))) (fun _ h9 => h9) rfl dX3_readSign_295 ?_
      refine lv_bipush (v := 34) hx hb dX3_readSign_298 (by decide) ?_
      refine lv_icmp_eq (tgt := 321) hx hb dX3_readSign_300 (by decide) (fun c => absurd c (by decide)) (fun _ => ?_)
      refine lv_aload_n hx hb dX3_readSign_303 rfl (lv_at hl 1 rfl) ?_
      refine va_get (D := (dC, dI)) (ci := 3) (v := .int 38) (C := RX3) (T := TX3) (N := 9) hx hb htw inlX3 hown hK hP 0 rfl rfl 5 (by decide) (htw _ (ck_14 _ (List.mem_of_getElem? (i := 17) rfl))) (fun _ h9 => h9) rfl dX3_readSign_304 ?_
      refine lv_bipush (v := 36) hx hb dX3_readSign_307 (by decide) ?_
      refine lv_icmp_eq (tgt := 321) hx hb dX3_readSign_309 (by decide) (fun c => absurd c (by decide)) (fun _ => ?_)
      refine lv_aload_n hx hb dX3_readSign_312 rfl (lv_at hl 1 rfl) ?_
      refine va_get (D := (dC, dI)) (ci := 3) (v := .int 38) (C := RX3) (T := TX3) (N := 9) hx hb htw inlX3 hown hK hP 0 rfl rfl 5 (by decide) (htw _ (ck_14 _ (List.mem_of_getElem? (i := 17) rfl))) (fun _ h9 => h9) rfl dX3_readSign_313 ?_
      refine lv_bipush (v := 37) hx hb dX3_readSign_316 (by decide) ?_
      refine lv_icmp_ne (tgt := 331) hx hb dX3_readSign_318 (by decide) (fun _ => ?_) (fun c => absurd c (by decide))
      refine W.widen (k := 0) (n := 0) (by omega) (by omega) ?_
      have hP9 := hP.sub (ws' := [(lx, .inr (3, [.ref lby, .int lfi, .ref lco, .int lxe, .int (lxa + 1), .int 38, .int lxp, .int lxn, .int lxl])), (lby, .inl (cBy, 900, .inl fBy))]) [0, 1] rfl
      have hD9 := hD.sub (ws' := [(lx, .inr (3, [.ref lby, .int lfi, .ref lco, .int lxe, .int (lxa + 1), .int 38, .int lxp, .int lxn, .int lxl])), (lby, .inl (cBy, 900, .inl fBy))]) [0, 1] (by decide) rfl
      have hK9 := hK.sub (tys' := []) [] rfl
      exact W.vret hx hb hr (fun t ht hW => ⟨⟨((lxa + 1), 38), rfl, (by rw [fe_readSign]; (try rw [if_pos c_1]); (try rw [if_neg h_2]); (try rw [if_neg h_3]); (try rw [if_neg h_4]); (try rw [if_neg h_5]); (try rw [if_neg h_6]); (try rw [if_neg h_7]); (try rw [if_neg h_8]); (try rw [if_neg h_9]); (try rw [if_neg h_10]); (try rw [if_neg h_11]); (try rw [if_neg h_12]); (try rw [if_neg h_13]); (try rw [if_neg h_14]); (try rw [if_neg h_15]); (try rw [if_neg h_16]); (try rw [if_neg h_17]); (try rw [if_neg h_18]); (try rw [if_neg h_19]); (try rw [if_neg h_20]); (try rw [if_neg h_21]); (try rw [if_neg h_22]); (try rw [if_neg h_23]); (try rw [if_neg h_24]); (try rw [if_neg h_25]); (try rw [if_neg h_26]); (try rw [if_pos rfl]); try rfl), by rw [ht]; exact hP9, va_K.moved hW.alike hK9, hD9⟩, hS.F ht⟩) hS.2.2 dX3_readSign_331
    refine lv_tableOut (tgt := 288) hx hb dX3_readSign_36 (by have a0 := xg_ne h_2; have a1 := xg_ne h_3; have a2 := xg_ne h_4; have a3 := xg_ne h_5; have a4 := xg_ne h_6; have a5 := xg_ne h_7; have a6 := xg_ne h_8; have a7 := xg_ne h_9; have a8 := xg_ne h_10; have a9 := xg_ne h_11; have a10 := xg_ne h_12; have a11 := xg_ne h_13; have a12 := xg_ne h_14; have a13 := xg_ne h_15; have a14 := xg_ne h_16; have a15 := xg_ne h_17; have a16 := xg_ne h_18; have a17 := xg_ne h_19; have a18 := xg_ne h_20; have a19 := xg_ne h_21; have a20 := xg_ne h_22; have a21 := xg_ne h_23; have a22 := xg_ne h_24; have a23 := xg_ne h_25; have a24 := xg_ne h_26; have a25 := xg_ne h_27; have b0 : (37 : Int32).toInt = 37 := rfl; have b1 : (38 : Int32).toInt = 38 := rfl; have b2 : (39 : Int32).toInt = 39 := rfl; have b3 : (40 : Int32).toInt = 40 := rfl; have b4 : (41 : Int32).toInt = 41 := rfl; have b5 : (42 : Int32).toInt = 42 := rfl; have b6 : (43 : Int32).toInt = 43 := rfl; have b7 : (44 : Int32).toInt = 44 := rfl; have b8 : (45 : Int32).toInt = 45 := rfl; have b9 : (46 : Int32).toInt = 46 := rfl; have b10 : (47 : Int32).toInt = 47 := rfl; have b11 : (48 : Int32).toInt = 48 := rfl; have b12 : (49 : Int32).toInt = 49 := rfl; have b13 : (50 : Int32).toInt = 50 := rfl; have b14 : (51 : Int32).toInt = 51 := rfl; have b15 : (52 : Int32).toInt = 52 := rfl; have b16 : (53 : Int32).toInt = 53 := rfl; have b17 : (54 : Int32).toInt = 54 := rfl; have b18 : (55 : Int32).toInt = 55 := rfl; have b19 : (56 : Int32).toInt = 56 := rfl; have b20 : (57 : Int32).toInt = 57 := rfl; have b21 : (58 : Int32).toInt = 58 := rfl; have b22 : (59 : Int32).toInt = 59 := rfl; have b23 : (60 : Int32).toInt = 60 := rfl; have b24 : (61 : Int32).toInt = 61 := rfl; have b25 : (62 : Int32).toInt = 62 := rfl; omega) (by decide) ?_
    refine lv_aload_n hx hb dX3_readSign_288 rfl (lv_at hl 1 rfl) ?_
    refine lv_bipush (v := 39) hx hb dX3_readSign_289 (by decide) ?_
    refine va_put (D := (dC, dI)) (ci := 3) (v := .int 39) (ty := tyX3 5) (C := RX3) (T := TX3) (N := 9) hx hb htw inlX3 tyX3 tyX3_ok nmX3 hown hK hP hD hS 0 rfl rfl 5 (by decide) (htw _ (ck_14 _ (List.mem_of_getElem? (i := 17) rfl))) (fun _ h9 => h9) rfl (by decide +kernel) rfl rfl (Nat.le_of_ble_eq_true rfl) dX3_readSign_291 (fun H locs hP hD hS => ?_)
    have hP : va_P (dC, dI) vwCl [(lx, .inr (3, [.ref lby, .int lfi, .ref lco, .int lxe, .int (lxa + 1), .int 39, .int lxp, .int lxn, .int lxl])), (lby, .inl (cBy, 900, .inl fBy))] H := hP
    have hD : va_D A [(lx, .inr (3, [.ref lby, .int lfi, .ref lco, .int lxe, .int (lxa + 1), .int 39, .int lxp, .int lxn, .int lxl])), (lby, .inl (cBy, 900, .inl fBy))] := hD
    refine lv_aload_n hx hb dX3_readSign_294 rfl (lv_at hl 1 rfl) ?_
    refine va_get (D := (dC, dI)) (ci := 3) (v := .int 39) (C := RX3) (T := TX3) (N := 9) hx hb htw inlX3 hown hK hP 0 rfl rfl 5 (by decide) (htw _ (ck_14 _ (List.mem_of_getElem? (i := 17) rfl))) (fun _ h9 => h9) rfl dX3_readSign_295 ?_
    refine lv_bipush (v := 34) hx hb dX3_readSign_298 (by decide) ?_
    refine lv_icmp_eq (tgt := 321) hx hb dX3_readSign_300 (by decide) (fun c => absurd c (by decide)) (fun _ => ?_)
    refine lv_aload_n hx hb dX3_readSign_303 rfl (lv_at hl 1 rfl) ?_
    refine va_get (D := (dC, dI)) (ci := 3) (v := .int 39) (C := RX3) (T := TX3) (N := 9) hx hb htw inlX3 hown hK hP 0 rfl rfl 5 (by decide) (htw _ (ck_14 _ (List.mem_of_getElem? (i := 17) rfl))) (fun _ h9 => h9) rfl dX3_readSign_304 ?_
    refine lv_bipush (v := 36) hx hb dX3_readSign_307 (by decide) ?_
    refine lv_icmp_eq (tgt := 321) hx hb dX3_readSign_309 (by decide) (fun c => absurd c (by decide)) (fun _ => ?_)
    refine lv_aload_n hx hb dX3_readSign_312 rfl (lv_at hl 1 rfl) ?_
    refine va_get (D := (dC, dI)) (ci := 3) (v := .int 39) (C := RX3) (T := TX3) (N := 9) hx hb htw inlX3 hown hK hP 0 rfl rfl 5 (by decide) (htw _ (ck_14 _ (List.mem_of_getElem? (i := 17) rfl))) (fun _ h9 => h9) rfl dX3_readSign_313 ?_
    refine lv_bipush (v := 37) hx hb dX3_readSign_316 (by decide) ?_
    refine lv_icmp_ne (tgt := 331) hx hb dX3_readSign_318 (by decide) (fun _ => ?_) (fun c => absurd c (by decide))
    refine W.widen (k := 0) (n := 0) (by omega) (by omega) ?_
    have hP9 := hP.sub (ws' := [(lx, .inr (3, [.ref lby, .int lfi, .ref lco, .int lxe, .int (lxa + 1), .int 39, .int lxp, .int lxn, .int lxl])), (lby, .inl (cBy, 900, .inl fBy))]) [0, 1] rfl
    have hD9 := hD.sub (ws' := [(lx, .inr (3, [.ref lby, .int lfi, .ref lco, .int lxe, .int (lxa + 1), .int 39, .int lxp, .int lxn, .int lxl])), (lby, .inl (cBy, 900, .inl fBy))]) [0, 1] (by decide) rfl
    have hK9 := hK.sub (tys' := []) [] rfl
    exact W.vret hx hb hr (fun t ht hW => ⟨⟨((lxa + 1), 39), rfl, (by rw [fe_readSign]; (try rw [if_pos c_1]); (try rw [if_neg h_2]); (try rw [if_neg h_3]); (try rw [if_neg h_4]); (try rw [if_neg h_5]); (try rw [if_neg h_6]); (try rw [if_neg h_7]); (try rw [if_neg h_8]); (try rw [if_neg h_9]); (try rw [if_neg h_10]); (try rw [if_neg h_11]); (try rw [if_neg h_12]); (try rw [if_neg h_13]); (try rw [if_neg h_14]); (try rw [if_neg h_15]); (try rw [if_neg h_16]); (try rw [if_neg h_17]); (try rw [if_neg h_18]); (try rw [if_neg h_19]); (try rw [if_neg h_20]); (try rw [if_neg h_21]); (try rw [if_neg h_22]); (try rw [if_neg h_23]); (try rw [if_neg h_24]); (try rw [if_neg h_25]); (try rw [if_neg h_26]); (try rw [if_neg h_27]); try rfl), by rw [ht]; exact hP9, va_K.moved hW.alike hK9, hD9⟩, hS.F ht⟩) hS.2.2 dX3_readSign_331
  · refine lv_aload_n hx hb dX3_readSign_21 rfl (lv_at hl 0 rfl) ?_
    refine va_get (D := (dC, dI)) (ci := 3) (v := .ref lby) (C := RX3) (T := TX3) (N := 9) hx hb htw inlX3 hown hK hP 0 rfl rfl 0 (by decide) (htw _ (ck_3 _ (List.mem_of_getElem? (i := 14) rfl))) (fun _ h9 => h9) rfl dX3_readSign_22 ?_
    refine lv_aload_n hx hb dX3_readSign_25 rfl (lv_at hl 0 rfl) ?_
    refine va_get (D := (dC, dI)) (ci := 3) (v := .int (lxa + 1)) (C := RX3) (T := TX3) (N := 9) hx hb htw inlX3 hown hK hP 0 rfl rfl 4 (by decide) (htw _ (ck_14 _ (List.mem_of_getElem? (i := 11) rfl))) (fun _ h9 => h9) rfl dX3_readSign_26 ?_
    refine va_bald hx hb hK hP 1 0 rfl rfl (xl_in (by rw [xl_up h0_lxa h9_lxe hlt]; omega) h9_lxe c_1) dX3_readSign_29 ?_
    refine lv_goto (tgt := 34) hx hb dX3_readSign_30 (by decide) ?_
    refine lv_istore_n (lv' := [(2, .int (fBy ((lxa + 1).toNatClampNeg))), (0, .ref lx), (1, .int a0)]) hx hb dX3_readSign_34 rfl hl (by decide) rfl (fun ls hl => ?_)
    refine lv_iload_n hx hb dX3_readSign_35 rfl (lv_at hl 2 rfl) ?_
    by_cases h_28 : a0 = 37
    · subst h_28
      refine lv_tableIn (off := 183) (tgt := 219) hx hb dX3_readSign_36 (by decide) (by decide) (by decide) (by decide) ?_
      refine lv_aload_n hx hb dX3_readSign_219 rfl (lv_at hl 1 rfl) ?_
      refine lv_bipush (v := 32) hx hb dX3_readSign_220 (by decide) ?_
      refine va_put (D := (dC, dI)) (ci := 3) (v := .int 32) (ty := tyX3 5) (C := RX3) (T := TX3) (N := 9) hx hb htw inlX3 tyX3 tyX3_ok nmX3 hown hK hP hD hS 0 rfl rfl 5 (by decide) (htw _ (ck_14 _ (List.mem_of_getElem? (i := 17) rfl))) (fun _ h9 => h9) rfl (by decide +kernel) rfl rfl (Nat.le_of_ble_eq_true rfl) dX3_readSign_222 (fun H locs hP hD hS => ?_)
      have hP : va_P (dC, dI) vwCl [(lx, .inr (3, [.ref lby, .int lfi, .ref lco, .int lxe, .int (lxa + 1), .int 32, .int lxp, .int lxn, .int lxl])), (lby, .inl (cBy, 900, .inl fBy))] H := hP
      have hD : va_D A [(lx, .inr (3, [.ref lby, .int lfi, .ref lco, .int lxe, .int (lxa + 1), .int 32, .int lxp, .int lxn, .int lxl])), (lby, .inl (cBy, 900, .inl fBy))] := hD
      refine lv_goto (tgt := 294) hx hb dX3_readSign_225 (by decide) ?_
      refine lv_aload_n hx hb dX3_readSign_294 rfl (lv_at hl 1 rfl) ?_
      refine va_get (D := (dC, dI)) (ci := 3) (v := .int 32) (C := RX3) (T := TX3) (N := 9) hx hb htw inlX3 hown hK hP 0 rfl rfl 5 (by decide) (htw _ (ck_14 _ (List.mem_of_getElem? (i := 17) rfl))) (fun _ h9 => h9) rfl dX3_readSign_295 ?_
      refine lv_bipush (v := 34) hx hb dX3_readSign_298 (by decide) ?_
      refine lv_icmp_eq (tgt := 321) hx hb dX3_readSign_300 (by decide) (fun c => absurd c (by decide)) (fun _ => ?_)
      refine lv_aload_n hx hb dX3_readSign_303 rfl (lv_at hl 1 rfl) ?_
      refine va_get (D := (dC, dI)) (ci := 3) (v := .int 32) (C := RX3) (T := TX3) (N := 9) hx hb htw inlX3 hown hK hP 0 rfl rfl 5 (by decide) (htw _ (ck_14 _ (List.mem_of_getElem? (i := 17) rfl))) (fun _ h9 => h9) rfl dX3_readSign_304 ?_
      refine lv_bipush (v := 36) hx hb dX3_readSign_307 (by decide) ?_
      refine lv_icmp_eq (tgt := 321) hx hb dX3_readSign_309 (by decide) (fun c => absurd c (by decide)) (fun _ => ?_)
      refine lv_aload_n hx hb dX3_readSign_312 rfl (lv_at hl 1 rfl) ?_
      refine va_get (D := (dC, dI)) (ci := 3) (v := .int 32) (C := RX3) (T := TX3) (N := 9) hx hb htw inlX3 hown hK hP 0 rfl rfl 5 (by decide) (htw _ (ck_14 _ (List.mem_of_getElem? (i := 17) rfl))) (fun _ h9 => h9) rfl dX3_readSign_313 ?_
      refine lv_bipush (v := 37) hx hb dX3_readSign_316 (by decide) ?_
      refine lv_icmp_ne (tgt := 331) hx hb dX3_readSign_318 (by decide) (fun _ => ?_) (fun c => absurd c (by decide))
      refine W.widen (k := 0) (n := 0) (by omega) (by omega) ?_
      have hP9 := hP.sub (ws' := [(lx, .inr (3, [.ref lby, .int lfi, .ref lco, .int lxe, .int (lxa + 1), .int 32, .int lxp, .int lxn, .int lxl])), (lby, .inl (cBy, 900, .inl fBy))]) [0, 1] rfl
      have hD9 := hD.sub (ws' := [(lx, .inr (3, [.ref lby, .int lfi, .ref lco, .int lxe, .int (lxa + 1), .int 32, .int lxp, .int lxn, .int lxl])), (lby, .inl (cBy, 900, .inl fBy))]) [0, 1] (by decide) rfl
      have hK9 := hK.sub (tys' := []) [] rfl
      exact W.vret hx hb hr (fun t ht hW => ⟨⟨((lxa + 1), 32), rfl, (by rw [fe_readSign]; (try rw [if_neg c_1]); (try rw [if_pos rfl]); try rfl), by rw [ht]; exact hP9, va_K.moved hW.alike hK9, hD9⟩, hS.F ht⟩) hS.2.2 dX3_readSign_331
    by_cases h_29 : a0 = 38
    · subst h_29
      refine lv_tableIn (off := 252) (tgt := 288) hx hb dX3_readSign_36 (by decide) (by decide) (by decide) (by decide) ?_
      refine lv_aload_n hx hb dX3_readSign_288 rfl (lv_at hl 1 rfl) ?_
      refine lv_bipush (v := 39) hx hb dX3_readSign_289 (by decide) ?_
      refine va_put (D := (dC, dI)) (ci := 3) (v := .int 39) (ty := tyX3 5) (C := RX3) (T := TX3) (N := 9) hx hb htw inlX3 tyX3 tyX3_ok nmX3 hown hK hP hD hS 0 rfl rfl 5 (by decide) (htw _ (ck_14 _ (List.mem_of_getElem? (i := 17) rfl))) (fun _ h9 => h9) rfl (by decide +kernel) rfl rfl (Nat.le_of_ble_eq_true rfl) dX3_readSign_291 (fun H locs hP hD hS => ?_)
      have hP : va_P (dC, dI) vwCl [(lx, .inr (3, [.ref lby, .int lfi, .ref lco, .int lxe, .int (lxa + 1), .int 39, .int lxp, .int lxn, .int lxl])), (lby, .inl (cBy, 900, .inl fBy))] H := hP
      have hD : va_D A [(lx, .inr (3, [.ref lby, .int lfi, .ref lco, .int lxe, .int (lxa + 1), .int 39, .int lxp, .int lxn, .int lxl])), (lby, .inl (cBy, 900, .inl fBy))] := hD
      refine lv_aload_n hx hb dX3_readSign_294 rfl (lv_at hl 1 rfl) ?_
      refine va_get (D := (dC, dI)) (ci := 3) (v := .int 39) (C := RX3) (T := TX3) (N := 9) hx hb htw inlX3 hown hK hP 0 rfl rfl 5 (by decide) (htw _ (ck_14 _ (List.mem_of_getElem? (i := 17) rfl))) (fun _ h9 => h9) rfl dX3_readSign_295 ?_
      refine lv_bipush (v := 34) hx hb dX3_readSign_298 (by decide) ?_
      refine lv_icmp_eq (tgt := 321) hx hb dX3_readSign_300 (by decide) (fun c => absurd c (by decide)) (fun _ => ?_)
      refine lv_aload_n hx hb dX3_readSign_303 rfl (lv_at hl 1 rfl) ?_
      refine va_get (D := (dC, dI)) (ci := 3) (v := .int 39) (C := RX3) (T := TX3) (N := 9) hx hb htw inlX3 hown hK hP 0 rfl rfl 5 (by decide) (htw _ (ck_14 _ (List.mem_of_getElem? (i := 17) rfl))) (fun _ h9 => h9) rfl dX3_readSign_304 ?_
      refine lv_bipush (v := 36) hx hb dX3_readSign_307 (by decide) ?_
      refine lv_icmp_eq (tgt := 321) hx hb dX3_readSign_309 (by decide) (fun c => absurd c (by decide)) (fun _ => ?_)
      refine lv_aload_n hx hb dX3_readSign_312 rfl (lv_at hl 1 rfl) ?_
      refine va_get (D := (dC, dI)) (ci := 3) (v := .int 39) (C := RX3) (T := TX3) (N := 9) hx hb htw inlX3 hown hK hP 0 rfl rfl 5 (by decide) (htw _ (ck_14 _ (List.mem_of_getElem? (i := 17) rfl))) (fun _ h9 => h9) rfl dX3_readSign_313 ?_
      refine lv_bipush (v := 37) hx hb dX3_readSign_316 (by decide) ?_
      refine lv_icmp_ne (tgt := 331) hx hb dX3_readSign_318 (by decide) (fun _ => ?_) (fun c => absurd c (by decide))
      refine W.widen (k := 0) (n := 0) (by omega) (by omega) ?_
      have hP9 := hP.sub (ws' := [(lx, .inr (3, [.ref lby, .int lfi, .ref lco, .int lxe, .int (lxa + 1), .int 39, .int lxp, .int lxn, .int lxl])), (lby, .inl (cBy, 900, .inl fBy))]) [0, 1] rfl
      have hD9 := hD.sub (ws' := [(lx, .inr (3, [.ref lby, .int lfi, .ref lco, .int lxe, .int (lxa + 1), .int 39, .int lxp, .int lxn, .int lxl])), (lby, .inl (cBy, 900, .inl fBy))]) [0, 1] (by decide) rfl
      have hK9 := hK.sub (tys' := []) [] rfl
      exact W.vret hx hb hr (fun t ht hW => ⟨⟨((lxa + 1), 39), rfl, (by rw [fe_readSign]; (try rw [if_neg c_1]); (try rw [if_neg h_28]); (try rw [if_pos rfl]); try rfl), by rw [ht]; exact hP9, va_K.moved hW.alike hK9, hD9⟩, hS.F ht⟩) hS.2.2 dX3_readSign_331
    by_cases h_30 : a0 = 39
    · subst h_30
      refine lv_tableIn (off := 252) (tgt := 288) hx hb dX3_readSign_36 (by decide) (by decide) (by decide) (by decide) ?_
      refine lv_aload_n hx hb dX3_readSign_288 rfl (lv_at hl 1 rfl) ?_
      refine lv_bipush (v := 39) hx hb dX3_readSign_289 (by decide) ?_
      refine va_put (D := (dC, dI)) (ci := 3) (v := .int 39) (ty := tyX3 5) (C := RX3) (T := TX3) (N := 9) hx hb htw inlX3 tyX3 tyX3_ok nmX3 hown hK hP hD hS 0 rfl rfl 5 (by decide) (htw _ (ck_14 _ (List.mem_of_getElem? (i := 17) rfl))) (fun _ h9 => h9) rfl (by decide +kernel) rfl rfl (Nat.le_of_ble_eq_true rfl) dX3_readSign_291 (fun H locs hP hD hS => ?_)
      have hP : va_P (dC, dI) vwCl [(lx, .inr (3, [.ref lby, .int lfi, .ref lco, .int lxe, .int (lxa + 1), .int 39, .int lxp, .int lxn, .int lxl])), (lby, .inl (cBy, 900, .inl fBy))] H := hP
      have hD : va_D A [(lx, .inr (3, [.ref lby, .int lfi, .ref lco, .int lxe, .int (lxa + 1), .int 39, .int lxp, .int lxn, .int lxl])), (lby, .inl (cBy, 900, .inl fBy))] := hD
      refine lv_aload_n hx hb dX3_readSign_294 rfl (lv_at hl 1 rfl) ?_
      refine va_get (D := (dC, dI)) (ci := 3) (v := .int 39) (C := RX3) (T := TX3) (N := 9) hx hb htw inlX3 hown hK hP 0 rfl rfl 5 (by decide) (htw _ (ck_14 _ (List.mem_of_getElem? (i := 17) rfl))) (fun _ h9 => h9) rfl dX3_readSign_295 ?_
      refine lv_bipush (v := 34) hx hb dX3_readSign_298 (by decide) ?_
      refine lv_icmp_eq (tgt := 321) hx hb dX3_readSign_300 (by decide) (fun c => absurd c (by decide)) (fun _ => ?_)
      refine lv_aload_n hx hb dX3_readSign_303 rfl (lv_at hl 1 rfl) ?_
      refine va_get (D := (dC, dI)) (ci := 3) (v := .int 39) (C := RX3) (T := TX3) (N := 9) hx hb htw inlX3 hown hK hP 0 rfl rfl 5 (by decide) (htw _ (ck_14 _ (List.mem_of_getElem? (i := 17) rfl))) (fun _ h9 => h9) rfl dX3_readSign_304 ?_
      refine lv_bipush (v := 36) hx hb dX3_readSign_307 (by decide) ?_
      refine lv_icmp_eq (tgt := 321) hx hb dX3_readSign_309 (by decide) (fun c => absurd c (by decide)) (fun _ => ?_)
      refine lv_aload_n hx hb dX3_readSign_312 rfl (lv_at hl 1 rfl) ?_
      refine va_get (D := (dC, dI)) (ci := 3) (v := .int 39) (C := RX3) (T := TX3) (N := 9) hx hb htw inlX3 hown hK hP 0 rfl rfl 5 (by decide) (htw _ (ck_14 _ (List.mem_of_getElem? (i := 17) rfl))) (fun _ h9 => h9) rfl dX3_readSign_313 ?_
      refine lv_bipush (v := 37) hx hb dX3_readSign_316 (by decide) ?_
      refine lv_icmp_ne (tgt := 331) hx hb dX3_readSign_318 (by decide) (fun _ => ?_) (fun c => absurd c (by decide))
      refine W.widen (k := 0) (n := 0) (by omega) (by omega) ?_
      have hP9 := hP.sub (ws' := [(lx, .inr (3, [.ref lby, .int lfi, .ref lco, .int lxe, .int (lxa + 1), .int 39, .int lxp, .int lxn, .int lxl])), (lby, .inl (cBy, 900, .inl fBy))]) [0, 1] rfl
      have hD9 := hD.sub (ws' := [(lx, .inr (3, [.ref lby, .int lfi, .ref lco, .int lxe, .int (lxa + 1), .int 39, .int lxp, .int lxn, .int lxl])), (lby, .inl (cBy, 900, .inl fBy))]) [0, 1] (by decide) rfl
      have hK9 := hK.sub (tys' := []) [] rfl
      exact W.vret hx hb hr (fun t ht hW => ⟨⟨((lxa + 1), 39), rfl, (by rw [fe_readSign]; (try rw [if_neg c_1]); (try rw [if_neg h_28]); (try rw [if_neg h_29]); (try rw [if_pos rfl]); try rfl), by rw [ht]; exact hP9, va_K.moved hW.alike hK9, hD9⟩, hS.F ht⟩) hS.2.2 dX3_readSign_331
    by_cases h_31 : a0 = 40
    · subst h_31
      refine lv_tableIn (off := 129) (tgt := 165) hx hb dX3_readSign_36 (by decide) (by decide) (by decide) (by decide) ?_
      refine lv_aload_n hx hb dX3_readSign_165 rfl (lv_at hl 1 rfl) ?_
      refine lv_bipush (v := 26) hx hb dX3_readSign_166 (by decide) ?_
      refine va_put (D := (dC, dI)) (ci := 3) (v := .int 26) (ty := tyX3 5) (C := RX3) (T := TX3) (N := 9) hx hb htw inlX3 tyX3 tyX3_ok nmX3 hown hK hP hD hS 0 rfl rfl 5 (by decide) (htw _ (ck_14 _ (List.mem_of_getElem? (i := 17) rfl))) (fun _ h9 => h9) rfl (by decide +kernel) rfl rfl (Nat.le_of_ble_eq_true rfl) dX3_readSign_168 (fun H locs hP hD hS => ?_)
      have hP : va_P (dC, dI) vwCl [(lx, .inr (3, [.ref lby, .int lfi, .ref lco, .int lxe, .int (lxa + 1), .int 26, .int lxp, .int lxn, .int lxl])), (lby, .inl (cBy, 900, .inl fBy))] H := hP
      have hD : va_D A [(lx, .inr (3, [.ref lby, .int lfi, .ref lco, .int lxe, .int (lxa + 1), .int 26, .int lxp, .int lxn, .int lxl])), (lby, .inl (cBy, 900, .inl fBy))] := hD
      refine lv_goto (tgt := 294) hx hb dX3_readSign_171 (by decide) ?_
      refine lv_aload_n hx hb dX3_readSign_294 rfl (lv_at hl 1 rfl) ?_
      refine va_get (D := (dC, dI)) (ci := 3) (v := .int 26) (C := RX3) (T := TX3) (N := 9) hx hb htw inlX3 hown hK hP 0 rfl rfl 5 (by decide) (htw _ (ck_14 _ (List.mem_of_getElem? (i := 17) rfl))) (fun _ h9 => h9) rfl dX3_readSign_295 ?_
      refine lv_bipush (v := 34) hx hb dX3_readSign_298 (by decide) ?_
      refine lv_icmp_eq (tgt := 321) hx hb dX3_readSign_300 (by decide) (fun c => absurd c (by decide)) (fun _ => ?_)
      refine lv_aload_n hx hb dX3_readSign_303 rfl (lv_at hl 1 rfl) ?_
      refine va_get (D := (dC, dI)) (ci := 3) (v := .int 26) (C := RX3) (T := TX3) (N := 9) hx hb htw inlX3 hown hK hP 0 rfl rfl 5 (by decide) (htw _ (ck_14 _ (List.mem_of_getElem? (i := 17) rfl))) (fun _ h9 => h9) rfl dX3_readSign_304 ?_
      refine lv_bipush (v := 36) hx hb dX3_readSign_307 (by decide) ?_
      refine lv_icmp_eq (tgt := 321) hx hb dX3_readSign_309 (by decide) (fun c => absurd c (by decide)) (fun _ => ?_)
      refine lv_aload_n hx hb dX3_readSign_312 rfl (lv_at hl 1 rfl) ?_
      refine va_get (D := (dC, dI)) (ci := 3) (v := .int 26) (C := RX3) (T := TX3) (N := 9) hx hb htw inlX3 hown hK hP 0 rfl rfl 5 (by decide) (htw _ (ck_14 _ (List.mem_of_getElem? (i := 17) rfl))) (fun _ h9 => h9) rfl dX3_readSign_313 ?_
      refine lv_bipush (v := 37) hx hb dX3_readSign_316 (by decide) ?_
      refine lv_icmp_ne (tgt := 331) hx hb dX3_readSign_318 (by decide) (fun _ => ?_) (fun c => absurd c (by decide))
      refine W.widen (k := 0) (n := 0) (by omega) (by omega) ?_
      have hP9 := hP.sub (ws' := [(lx, .inr (3, [.ref lby, .int lfi, .ref lco, .int lxe, .int (lxa + 1), .int 26, .int lxp, .int lxn, .int lxl])), (lby, .inl (cBy, 900, .inl fBy))]) [0, 1] rfl
      have hD9 := hD.sub (ws' := [(lx, .inr (3, [.ref lby, .int lfi, .ref lco, .int lxe, .int (lxa + 1), .int 26, .int lxp, .int lxn, .int lxl])), (lby, .inl (cBy, 900, .inl fBy))]) [0, 1] (by decide) rfl
      have hK9 := hK.sub (tys' := []) [] rfl
      exact W.vret hx hb hr (fun t ht hW => ⟨⟨((lxa + 1), 26), rfl, (by rw [fe_readSign]; (try rw [if_neg c_1]); (try rw [if_neg h_28]); (try rw [if_neg h_29]); (try rw [if_neg h_30]); (try rw [if_pos rfl]); try rfl), by rw [ht]; exact hP9, va_K.moved hW.alike hK9, hD9⟩, hS.F ht⟩) hS.2.2 dX3_readSign_331
    by_cases h_32 : a0 = 41
    · subst h_32
      refine lv_tableIn (off := 138) (tgt := 174) hx hb dX3_readSign_36 (by decide) (by decide) (by decide) (by decide) ?_
      refine lv_aload_n hx hb dX3_readSign_174 rfl (lv_at hl 1 rfl) ?_
      refine lv_bipush (v := 27) hx hb dX3_readSign_175 (by decide) ?_
      refine va_put (D := (dC, dI)) (ci := 3) (v := .int 27) (ty := tyX3 5) (C := RX3) (T := TX3) (N := 9) hx hb htw inlX3 tyX3 tyX3_ok nmX3 hown hK hP hD hS 0 rfl rfl 5 (by decide) (htw _ (ck_14 _ (List.mem_of_getElem? (i := 17) rfl))) (fun _ h9 => h9) rfl (by decide +kernel) rfl rfl (Nat.le_of_ble_eq_true rfl) dX3_readSign_177 (fun H locs hP hD hS => ?_)
      have hP : va_P (dC, dI) vwCl [(lx, .inr (3, [.ref lby, .int lfi, .ref lco, .int lxe, .int (lxa + 1), .int 27, .int lxp, .int lxn, .int lxl])), (lby, .inl (cBy, 900, .inl fBy))] H := hP
      have hD : va_D A [(lx, .inr (3, [.ref lby, .int lfi, .ref lco, .int lxe, .int (lxa + 1), .int 27, .int lxp, .int lxn, .int lxl])), (lby, .inl (cBy, 900, .inl fBy))] := hD
      refine lv_goto (tgt := 294) hx hb dX3_readSign_180 (by decide) ?_
      refine lv_aload_n hx hb dX3_readSign_294 rfl (lv_at hl 1 rfl) ?_
      refine va_get (D := (dC, dI)) (ci := 3) (v := .int 27) (C := RX3) (T := TX3) (N := 9) hx hb htw inlX3 hown hK hP 0 rfl rfl 5 (by decide) (htw _ (ck_14 _ (List.mem_of_getElem? (i := 17) rfl))) (fun _ h9 => h9) rfl dX3_readSign_295 ?_
      refine lv_bipush (v := 34) hx hb dX3_readSign_298 (by decide) ?_
      refine lv_icmp_eq (tgt := 321) hx hb dX3_readSign_300 (by decide) (fun c => absurd c (by decide)) (fun _ => ?_)
      refine lv_aload_n hx hb dX3_readSign_303 rfl (lv_at hl 1 rfl) ?_
      refine va_get (D := (dC, dI)) (ci := 3) (v := .int 27) (C := RX3) (T := TX3) (N := 9) hx hb htw inlX3 hown hK hP 0 rfl rfl 5 (by decide) (htw _ (ck_14 _ (List.mem_of_getElem? (i := 17) rfl))) (fun _ h9 => h9) rfl dX3_readSign_304 ?_
      refine lv_bipush (v := 36) hx hb dX3_readSign_307 (by decide) ?_
      refine lv_icmp_eq (tgt := 321) hx hb dX3_readSign_309 (by decide) (fun c => absurd c (by decide)) (fun _ => ?_)
      refine lv_aload_n hx hb dX3_readSign_312 rfl (lv_at hl 1 rfl) ?_
      refine va_get (D := (dC, dI)) (ci := 3) (v := .int 27) (C := RX3) (T := TX3) (N := 9) hx hb htw inlX3 hown hK hP 0 rfl rfl 5 (by decide) (htw _ (ck_14 _ (List.mem_of_getElem? (i := 17) rfl))) (fun _ h9 => h9) rfl dX3_readSign_313 ?_
      refine lv_bipush (v := 37) hx hb dX3_readSign_316 (by decide) ?_
      refine lv_icmp_ne (tgt := 331) hx hb dX3_readSign_318 (by decide) (fun _ => ?_) (fun c => absurd c (by decide))
      refine W.widen (k := 0) (n := 0) (by omega) (by omega) ?_
      have hP9 := hP.sub (ws' := [(lx, .inr (3, [.ref lby, .int lfi, .ref lco, .int lxe, .int (lxa + 1), .int 27, .int lxp, .int lxn, .int lxl])), (lby, .inl (cBy, 900, .inl fBy))]) [0, 1] rfl
      have hD9 := hD.sub (ws' := [(lx, .inr (3, [.ref lby, .int lfi, .ref lco, .int lxe, .int (lxa + 1), .int 27, .int lxp, .int lxn, .int lxl])), (lby, .inl (cBy, 900, .inl fBy))]) [0, 1] (by decide) rfl
      have hK9 := hK.sub (tys' := []) [] rfl
      exact W.vret hx hb hr (fun t ht hW => ⟨⟨((lxa + 1), 27), rfl, (by rw [fe_readSign]; (try rw [if_neg c_1]); (try rw [if_neg h_28]); (try rw [if_neg h_29]); (try rw [if_neg h_30]); (try rw [if_neg h_31]); (try rw [if_pos rfl]); try rfl), by rw [ht]; exact hP9, va_K.moved hW.alike hK9, hD9⟩, hS.F ht⟩) hS.2.2 dX3_readSign_331
    by_cases h_33 : a0 = 42
    · subst h_33
      refine lv_tableIn (off := 165) (tgt := 201) hx hb dX3_readSign_36 (by decide) (by decide) (by decide) (by decide) ?_
      refine lv_aload_n hx hb dX3_readSign_201 rfl (lv_at hl 1 rfl) ?_
      refine lv_bipush (v := 30) hx hb dX3_readSign_202 (by decide) ?_
      refine va_put (D := (dC, dI)) (ci := 3) (v := .int 30) (ty := tyX3 5) (C := RX3) (T := TX3) (N := 9) hx hb htw inlX3 tyX3 tyX3_ok nmX3 hown hK hP hD hS 0 rfl rfl 5 (by decide) (htw _ (ck_14 _ (List.mem_of_getElem? (i := 17) rfl))) (fun _ h9 => h9) rfl (by decide +kernel) rfl rfl (Nat.le_of_ble_eq_true rfl) dX3_readSign_204 (fun H locs hP hD hS => ?_)
      have hP : va_P (dC, dI) vwCl [(lx, .inr (3, [.ref lby, .int lfi, .ref lco, .int lxe, .int (lxa + 1), .int 30, .int lxp, .int lxn, .int lxl])), (lby, .inl (cBy, 900, .inl fBy))] H := hP
      have hD : va_D A [(lx, .inr (3, [.ref lby, .int lfi, .ref lco, .int lxe, .int (lxa + 1), .int 30, .int lxp, .int lxn, .int lxl])), (lby, .inl (cBy, 900, .inl fBy))] := hD
      refine lv_goto (tgt := 294) hx hb dX3_readSign_207 (by decide) ?_
      refine lv_aload_n hx hb dX3_readSign_294 rfl (lv_at hl 1 rfl) ?_
      refine va_get (D := (dC, dI)) (ci := 3) (v := .int 30) (C := RX3) (T := TX3) (N := 9) hx hb htw inlX3 hown hK hP 0 rfl rfl 5 (by decide) (htw _ (ck_14 _ (List.mem_of_getElem? (i := 17) rfl))) (fun _ h9 => h9) rfl dX3_readSign_295 ?_
      refine lv_bipush (v := 34) hx hb dX3_readSign_298 (by decide) ?_
      refine lv_icmp_eq (tgt := 321) hx hb dX3_readSign_300 (by decide) (fun c => absurd c (by decide)) (fun _ => ?_)
      refine lv_aload_n hx hb dX3_readSign_303 rfl (lv_at hl 1 rfl) ?_
      refine va_get (D := (dC, dI)) (ci := 3) (v := .int 30) (C := RX3) (T := TX3) (N := 9) hx hb htw inlX3 hown hK hP 0 rfl rfl 5 (by decide) (htw _ (ck_14 _ (List.mem_of_getElem? (i := 17) rfl))) (fun _ h9 => h9) rfl dX3_readSign_304 ?_
      refine lv_bipush (v := 36) hx hb dX3_readSign_307 (by decide) ?_
      refine lv_icmp_eq (tgt := 321) hx hb dX3_readSign_309 (by decide) (fun c => absurd c (by decide)) (fun _ => ?_)
      refine lv_aload_n hx hb dX3_readSign_312 rfl (lv_at hl 1 rfl) ?_
      refine va_get (D := (dC, dI)) (ci := 3) (v := .int 30) (C := RX3) (T := TX3) (N := 9) hx hb htw inlX3 hown hK hP 0 rfl rfl 5 (by decide) (htw _ (ck_14 _ (List.mem_of_getElem? (i := 17) rfl))) (fun _ h9 => h9) rfl dX3_readSign_313 ?_
      refine lv_bipush (v := 37) hx hb dX3_readSign_316 (by decide) ?_
      refine lv_icmp_ne (tgt := 331) hx hb dX3_readSign_318 (by decide) (fun _ => ?_) (fun c => absurd c (by decide))
      refine W.widen (k := 0) (n := 0) (by omega) (by omega) ?_
      have hP9 := hP.sub (ws' := [(lx, .inr (3, [.ref lby, .int lfi, .ref lco, .int lxe, .int (lxa + 1), .int 30, .int lxp, .int lxn, .int lxl])), (lby, .inl (cBy, 900, .inl fBy))]) [0, 1] rfl
      have hD9 := hD.sub (ws' := [(lx, .inr (3, [.ref lby, .int lfi, .ref lco, .int lxe, .int (lxa + 1), .int 30, .int lxp, .int lxn, .int lxl])), (lby, .inl (cBy, 900, .inl fBy))]) [0, 1] (by decide) rfl
      have hK9 := hK.sub (tys' := []) [] rfl
      exact W.vret hx hb hr (fun t ht hW => ⟨⟨((lxa + 1), 30), rfl, (by rw [fe_readSign]; (try rw [if_neg c_1]); (try rw [if_neg h_28]); (try rw [if_neg h_29]); (try rw [if_neg h_30]); (try rw [if_neg h_31]); (try rw [if_neg h_32]); (try rw [if_pos rfl]); try rfl), by rw [ht]; exact hP9, va_K.moved hW.alike hK9, hD9⟩, hS.F ht⟩) hS.2.2 dX3_readSign_331
    by_cases h_34 : a0 = 43
    · subst h_34
      refine lv_tableIn (off := 147) (tgt := 183) hx hb dX3_readSign_36 (by decide) (by decide) (by decide) (by decide) ?_
      refine lv_aload_n hx hb dX3_readSign_183 rfl (lv_at hl 1 rfl) ?_
      refine lv_bipush (v := 28) hx hb dX3_readSign_184 (by decide) ?_
      refine va_put (D := (dC, dI)) (ci := 3) (v := .int 28) (ty := tyX3 5) (C := RX3) (T := TX3) (N := 9) hx hb htw inlX3 tyX3 tyX3_ok nmX3 hown hK hP hD hS 0 rfl rfl 5 (by decide) (htw _ (ck_14 _ (List.mem_of_getElem? (i := 17) rfl))) (fun _ h9 => h9) rfl (by decide +kernel) rfl rfl (Nat.le_of_ble_eq_true rfl) dX3_readSign_186 (fun H locs hP hD hS => ?_)
      have hP : va_P (dC, dI) vwCl [(lx, .inr (3, [.ref lby, .int lfi, .ref lco, .int lxe, .int (lxa + 1), .int 28, .int lxp, .int lxn, .int lxl])), (lby, .inl (cBy, 900, .inl fBy))] H := hP
      have hD : va_D A [(lx, .inr (3, [.ref lby, .int lfi, .ref lco, .int lxe, .int (lxa + 1), .int 28, .int lxp, .int lxn, .int lxl])), (lby, .inl (cBy, 900, .inl fBy))] := hD
      refine lv_goto (tgt := 294) hx hb dX3_readSign_189 (by decide) ?_
      refine lv_aload_n hx hb dX3_readSign_294 rfl (lv_at hl 1 rfl) ?_
      refine va_get (D := (dC, dI)) (ci := 3) (v := .int 28) (C := RX3) (T := TX3) (N := 9) hx hb htw inlX3 hown hK hP 0 rfl rfl 5 (by decide) (htw _ (ck_14 _ (List.mem_of_getElem? (i := 17) rfl))) (fun _ h9 => h9) rfl dX3_readSign_295 ?_
      refine lv_bipush (v := 34) hx hb dX3_readSign_298 (by decide) ?_
      refine lv_icmp_eq (tgt := 321) hx hb dX3_readSign_300 (by decide) (fun c => absurd c (by decide)) (fun _ => ?_)
      refine lv_aload_n hx hb dX3_readSign_303 rfl (lv_at hl 1 rfl) ?_
      refine va_get (D := (dC, dI)) (ci := 3) (v := .int 28) (C := RX3) (T := TX3) (N := 9) hx hb htw inlX3 hown hK hP 0 rfl rfl 5 (by decide) (htw _ (ck_14 _ (List.mem_of_getElem? (i := 17) rfl))) (fun _ h9 => h9) rfl dX3_readSign_304 ?_
      refine lv_bipush (v := 36) hx hb dX3_readSign_307 (by decide) ?_
      refine lv_icmp_eq (tgt := 321) hx hb dX3_readSign_309 (by decide) (fun c => absurd c (by decide)) (fun _ => ?_)
      refine lv_aload_n hx hb dX3_readSign_312 rfl (lv_at hl 1 rfl) ?_
      refine va_get (D := (dC, dI)) (ci := 3) (v := .int 28) (C := RX3) (T := TX3) (N := 9) hx hb htw inlX3 hown hK hP 0 rfl rfl 5 (by decide) (htw _ (ck_14 _ (List.mem_of_getElem? (i := 17) rfl))) (fun _ h9 => h9) rfl dX3_readSign_313 ?_
      refine lv_bipush (v := 37) hx hb dX3_readSign_316 (by decide) ?_
      refine lv_icmp_ne (tgt := 331) hx hb dX3_readSign_318 (by decide) (fun _ => ?_) (fun c => absurd c (by decide))
      refine W.widen (k := 0) (n := 0) (by omega) (by omega) ?_
      have hP9 := hP.sub (ws' := [(lx, .inr (3, [.ref lby, .int lfi, .ref lco, .int lxe, .int (lxa + 1), .int 28, .int lxp, .int lxn, .int lxl])), (lby, .inl (cBy, 900, .inl fBy))]) [0, 1] rfl
      have hD9 := hD.sub (ws' := [(lx, .inr (3, [.ref lby, .int lfi, .ref lco, .int lxe, .int (lxa + 1), .int 28, .int lxp, .int lxn, .int lxl])), (lby, .inl (cBy, 900, .inl fBy))]) [0, 1] (by decide) rfl
      have hK9 := hK.sub (tys' := []) [] rfl
      exact W.vret hx hb hr (fun t ht hW => ⟨⟨((lxa + 1), 28), rfl, (by rw [fe_readSign]; (try rw [if_neg c_1]); (try rw [if_neg h_28]); (try rw [if_neg h_29]); (try rw [if_neg h_30]); (try rw [if_neg h_31]); (try rw [if_neg h_32]); (try rw [if_neg h_33]); (try rw [if_pos rfl]); try rfl), by rw [ht]; exact hP9, va_K.moved hW.alike hK9, hD9⟩, hS.F ht⟩) hS.2.2 dX3_readSign_331
    by_cases h_35 : a0 = 44
    · subst h_35
      refine lv_tableIn (off := 252) (tgt := 288) hx hb dX3_readSign_36 (by decide) (by decide) (by decide) (by decide) ?_
      refine lv_aload_n hx hb dX3_readSign_288 rfl (lv_at hl 1 rfl) ?_
      refine lv_bipush (v := 39) hx hb dX3_readSign_289 (by decide) ?_
      refine va_put (D := (dC, dI)) (ci := 3) (v := .int 39) (ty := tyX3 5) (C := RX3) (T := TX3) (N := 9) hx hb htw inlX3 tyX3 tyX3_ok nmX3 hown hK hP hD hS 0 rfl rfl 5 (by decide) (htw _ (ck_14 _ (List.mem_of_getElem? (i := 17) rfl))) (fun _ h9 => h9) rfl (by decide +kernel) rfl rfl (Nat.le_of_ble_eq_true rfl) dX3_readSign_291 (fun H locs hP hD hS => ?_)
      have hP : va_P (dC, dI) vwCl [(lx, .inr (3, [.ref lby, .int lfi, .ref lco, .int lxe, .int (lxa + 1), .int 39, .int lxp, .int lxn, .int lxl])), (lby, .inl (cBy, 900, .inl fBy))] H := hP
      have hD : va_D A [(lx, .inr (3, [.ref lby, .int lfi, .ref lco, .int lxe, .int (lxa + 1), .int 39, .int lxp, .int lxn, .int lxl])), (lby, .inl (cBy, 900, .inl fBy))] := hD
      refine lv_aload_n hx hb dX3_readSign_294 rfl (lv_at hl 1 rfl) ?_
      refine va_get (D := (dC, dI)) (ci := 3) (v := .int 39) (C := RX3) (T := TX3) (N := 9) hx hb htw inlX3 hown hK hP 0 rfl rfl 5 (by decide) (htw _ (ck_14 _ (List.mem_of_getElem? (i := 17) rfl))) (fun _ h9 => h9) rfl dX3_readSign_295 ?_
      refine lv_bipush (v := 34) hx hb dX3_readSign_298 (by decide) ?_
      refine lv_icmp_eq (tgt := 321) hx hb dX3_readSign_300 (by decide) (fun c => absurd c (by decide)) (fun _ => ?_)
      refine lv_aload_n hx hb dX3_readSign_303 rfl (lv_at hl 1 rfl) ?_
      refine va_get (D := (dC, dI)) (ci := 3) (v := .int 39) (C := RX3) (T := TX3) (N := 9) hx hb htw inlX3 hown hK hP 0 rfl rfl 5 (by decide) (htw _ (ck_14 _ (List.mem_of_getElem? (i := 17) rfl))) (fun _ h9 => h9) rfl dX3_readSign_304 ?_
      refine lv_bipush (v := 36) hx hb dX3_readSign_307 (by decide) ?_
      refine lv_icmp_eq (tgt := 321) hx hb dX3_readSign_309 (by decide) (fun c => absurd c (by decide)) (fun _ => ?_)
      refine lv_aload_n hx hb dX3_readSign_312 rfl (lv_at hl 1 rfl) ?_
      refine va_get (D := (dC, dI)) (ci := 3) (v := .int 39) (C := RX3) (T := TX3) (N := 9) hx hb htw inlX3 hown hK hP 0 rfl rfl 5 (by decide) (htw _ (ck_14 _ (List.mem_of_getElem? (i := 17) rfl))) (fun _ h9 => h9) rfl dX3_readSign_313 ?_
      refine lv_bipush (v := 37) hx hb dX3_readSign_316 (by decide) ?_
      refine lv_icmp_ne (tgt := 331) hx hb dX3_readSign_318 (by decide) (fun _ => ?_) (fun c => absurd c (by decide))
      refine W.widen (k := 0) (n := 0) (by omega) (by omega) ?_
      have hP9 := hP.sub (ws' := [(lx, .inr (3, [.ref lby, .int lfi, .ref lco, .int lxe, .int (lxa + 1), .int 39, .int lxp, .int lxn, .int lxl])), (lby, .inl (cBy, 900, .inl fBy))]) [0, 1] rfl
      have hD9 := hD.sub (ws' := [(lx, .inr (3, [.ref lby, .int lfi, .ref lco, .int lxe, .int (lxa + 1), .int 39, .int lxp, .int lxn, .int lxl])), (lby, .inl (cBy, 900, .inl fBy))]) [0, 1] (by decide) rfl
      have hK9 := hK.sub (tys' := []) [] rfl
      exact W.vret hx hb hr (fun t ht hW => ⟨⟨((lxa + 1), 39), rfl, (by rw [fe_readSign]; (try rw [if_neg c_1]); (try rw [if_neg h_28]); (try rw [if_neg h_29]); (try rw [if_neg h_30]); (try rw [if_neg h_31]); (try rw [if_neg h_32]); (try rw [if_neg h_33]); (try rw [if_neg h_34]); (try rw [if_pos rfl]); try rfl), by rw [ht]; exact hP9, va_K.moved hW.alike hK9, hD9⟩, hS.F ht⟩) hS.2.2 dX3_readSign_331
    by_cases h_36 : a0 = 45
    · subst h_36
      refine lv_tableIn (off := 156) (tgt := 192) hx hb dX3_readSign_36 (by decide) (by decide) (by decide) (by decide) ?_
      refine lv_aload_n hx hb dX3_readSign_192 rfl (lv_at hl 1 rfl) ?_
      refine lv_bipush (v := 29) hx hb dX3_readSign_193 (by decide) ?_
      refine va_put (D := (dC, dI)) (ci := 3) (v := .int 29) (ty := tyX3 5) (C := RX3) (T := TX3) (N := 9) hx hb htw inlX3 tyX3 tyX3_ok nmX3 hown hK hP hD hS 0 rfl rfl 5 (by decide) (htw _ (ck_14 _ (List.mem_of_getElem? (i := 17) rfl))) (fun _ h9 => h9) rfl (by decide +kernel) rfl rfl (Nat.le_of_ble_eq_true rfl) dX3_readSign_195 (fun H locs hP hD hS => ?_)
      have hP : va_P (dC, dI) vwCl [(lx, .inr (3, [.ref lby, .int lfi, .ref lco, .int lxe, .int (lxa + 1), .int 29, .int lxp, .int lxn, .int lxl])), (lby, .inl (cBy, 900, .inl fBy))] H := hP
      have hD : va_D A [(lx, .inr (3, [.ref lby, .int lfi, .ref lco, .int lxe, .int (lxa + 1), .int 29, .int lxp, .int lxn, .int lxl])), (lby, .inl (cBy, 900, .inl fBy))] := hD
      refine lv_goto (tgt := 294) hx hb dX3_readSign_198 (by decide) ?_
      refine lv_aload_n hx hb dX3_readSign_294 rfl (lv_at hl 1 rfl) ?_
      refine va_get (D := (dC, dI)) (ci := 3) (v := .int 29) (C := RX3) (T := TX3) (N := 9) hx hb htw inlX3 hown hK hP 0 rfl rfl 5 (by decide) (htw _ (ck_14 _ (List.mem_of_getElem? (i := 17) rfl))) (fun _ h9 => h9) rfl dX3_readSign_295 ?_
      refine lv_bipush (v := 34) hx hb dX3_readSign_298 (by decide) ?_
      refine lv_icmp_eq (tgt := 321) hx hb dX3_readSign_300 (by decide) (fun c => absurd c (by decide)) (fun _ => ?_)
      refine lv_aload_n hx hb dX3_readSign_303 rfl (lv_at hl 1 rfl) ?_
      refine va_get (D := (dC, dI)) (ci := 3) (v := .int 29) (C := RX3) (T := TX3) (N := 9) hx hb htw inlX3 hown hK hP 0 rfl rfl 5 (by decide) (htw _ (ck_14 _ (List.mem_of_getElem? (i := 17) rfl))) (fun _ h9 => h9) rfl dX3_readSign_304 ?_
      refine lv_bipush (v := 36) hx hb dX3_readSign_307 (by decide) ?_
      refine lv_icmp_eq (tgt := 321) hx hb dX3_readSign_309 (by decide) (fun c => absurd c (by decide)) (fun _ => ?_)
      refine lv_aload_n hx hb dX3_readSign_312 rfl (lv_at hl 1 rfl) ?_
      refine va_get (D := (dC, dI)) (ci := 3) (v := .int 29) (C := RX3) (T := TX3) (N := 9) hx hb htw inlX3 hown hK hP 0 rfl rfl 5 (by decide) (htw _ (ck_14 _ (List.mem_of_getElem? (i := 17) rfl))) (fun _ h9 => h9) rfl dX3_readSign_313 ?_
      refine lv_bipush (v := 37) hx hb dX3_readSign_316 (by decide) ?_
      refine lv_icmp_ne (tgt := 331) hx hb dX3_readSign_318 (by decide) (fun _ => ?_) (fun c => absurd c (by decide))
      refine W.widen (k := 0) (n := 0) (by omega) (by omega) ?_
      have hP9 := hP.sub (ws' := [(lx, .inr (3, [.ref lby, .int lfi, .ref lco, .int lxe, .int (lxa + 1), .int 29, .int lxp, .int lxn, .int lxl])), (lby, .inl (cBy, 900, .inl fBy))]) [0, 1] rfl
      have hD9 := hD.sub (ws' := [(lx, .inr (3, [.ref lby, .int lfi, .ref lco, .int lxe, .int (lxa + 1), .int 29, .int lxp, .int lxn, .int lxl])), (lby, .inl (cBy, 900, .inl fBy))]) [0, 1] (by decide) rfl
      have hK9 := hK.sub (tys' := []) [] rfl
      exact W.vret hx hb hr (fun t ht hW => ⟨⟨((lxa + 1), 29), rfl, (by rw [fe_readSign]; (try rw [if_neg c_1]); (try rw [if_neg h_28]); (try rw [if_neg h_29]); (try rw [if_neg h_30]); (try rw [if_neg h_31]); (try rw [if_neg h_32]); (try rw [if_neg h_33]); (try rw [if_neg h_34]); (try rw [if_neg h_35]); (try rw [if_pos rfl]); try rfl), by rw [ht]; exact hP9, va_K.moved hW.alike hK9, hD9⟩, hS.F ht⟩) hS.2.2 dX3_readSign_331
    by_cases h_37 : a0 = 46
    · subst h_37
      refine lv_tableIn (off := 252) (tgt := 288) hx hb dX3_readSign_36 (by decide) (by decide) (by decide) (by decide) ?_
      refine lv_aload_n hx hb dX3_readSign_288 rfl (lv_at hl 1 rfl) ?_
      refine lv_bipush (v := 39) hx hb dX3_readSign_289 (by decide) ?_
      refine va_put (D := (dC, dI)) (ci := 3) (v := .int 39) (ty := tyX3 5) (C := RX3) (T := TX3) (N := 9) hx hb htw inlX3 tyX3 tyX3_ok nmX3 hown hK hP hD hS 0 rfl rfl 5 (by decide) (htw _ (ck_14 _ (List.mem_of_getElem? (i := 17) rfl))) (fun _ h9 => h9) rfl (by decide +kernel) rfl rfl (Nat.le_of_ble_eq_true rfl) dX3_readSign_291 (fun H locs hP hD hS => ?_)
      have hP : va_P (dC, dI) vwCl [(lx, .inr (3, [.ref lby, .int lfi, .ref lco, .int lxe, .int (lxa + 1), .int 39, .int lxp, .int lxn, .int lxl])), (lby, .inl (cBy, 900, .inl fBy))] H := hP
      have hD : va_D A [(lx, .inr (3, [.ref lby, .int lfi, .ref lco, .int lxe, .int (lxa + 1), .int 39, .int lxp, .int lxn, .int lxl])), (lby, .inl (cBy, 900, .inl fBy))] := hD
      refine lv_aload_n hx hb dX3_readSign_294 rfl (lv_at hl 1 rfl) ?_
      refine va_get (D := (dC, dI)) (ci := 3) (v := .int 39) (C := RX3) (T := TX3) (N := 9) hx hb htw inlX3 hown hK hP 0 rfl rfl 5 (by decide) (htw _ (ck_14 _ (List.mem_of_getElem? (i := 17) rfl))) (fun _ h9 => h9) rfl dX3_readSign_295 ?_
      refine lv_bipush (v := 34) hx hb dX3_readSign_298 (by decide) ?_
      refine lv_icmp_eq (tgt := 321) hx hb dX3_readSign_300 (by decide) (fun c => absurd c (by decide)) (fun _ => ?_)
      refine lv_aload_n hx hb dX3_readSign_303 rfl (lv_at hl 1 rfl) ?_
      refine va_get (D := (dC, dI)) (ci := 3) (v := .int 39) (C := RX3) (T := TX3) (N := 9) hx hb htw inlX3 hown hK hP 0 rfl rfl 5 (by decide) (htw _ (ck_14 _ (List.mem_of_getElem? (i := 17) rfl))) (fun _ h9 => h9) rfl dX3_readSign_304 ?_
      refine lv_bipush (v := 36) hx hb dX3_readSign_307 (by decide) ?_
      refine lv_icmp_eq (tgt := 321) hx hb dX3_readSign_309 (by decide) (fun c => absurd c (by decide)) (fun _ => ?_)
      refine lv_aload_n hx hb dX3_readSign_312 rfl (lv_at hl 1 rfl) ?_
      refine va_get (D := (dC, dI)) (ci := 3) (v := .int 39) (C := RX3) (T := TX3) (N := 9) hx hb htw inlX3 hown hK hP 0 rfl rfl 5 (by decide) (htw _ (ck_14 _ (List.mem_of_getElem? (i := 17) rfl))) (fun _ h9 => h9) rfl dX3_readSign_313 ?_
      refine lv_bipush (v := 37) hx hb dX3_readSign_316 (by decide) ?_
      refine lv_icmp_ne (tgt := 331) hx hb dX3_readSign_318 (by decide) (fun _ => ?_) (fun c => absurd c (by decide))
      refine W.widen (k := 0) (n := 0) (by omega) (by omega) ?_
      have hP9 := hP.sub (ws' := [(lx, .inr (3, [.ref lby, .int lfi, .ref lco, .int lxe, .int (lxa + 1), .int 39, .int lxp, .int lxn, .int lxl])), (lby, .inl (cBy, 900, .inl fBy))]) [0, 1] rfl
      have hD9 := hD.sub (ws' := [(lx, .inr (3, [.ref lby, .int lfi, .ref lco, .int lxe, .int (lxa + 1), .int 39, .int lxp, .int lxn, .int lxl])), (lby, .inl (cBy, 900, .inl fBy))]) [0, 1] (by decide) rfl
      have hK9 := hK.sub (tys' := []) [] rfl
      exact W.vret hx hb hr (fun t ht hW => ⟨⟨((lxa + 1), 39), rfl, (by rw [fe_readSign]; (try rw [if_neg c_1]); (try rw [if_neg h_28]); (try rw [if_neg h_29]); (try rw [if_neg h_30]); (try rw [if_neg h_31]); (try rw [if_neg h_32]); (try rw [if_neg h_33]); (try rw [if_neg h_34]); (try rw [if_neg h_35]); (try rw [if_neg h_36]); (try rw [if_pos rfl]); try rfl), by rw [ht]; exact hP9, va_K.moved hW.alike hK9, hD9⟩, hS.F ht⟩) hS.2.2 dX3_readSign_331
    by_cases h_38 : a0 = 47
    · subst h_38
      refine lv_tableIn (off := 174) (tgt := 210) hx hb dX3_readSign_36 (by decide) (by decide) (by decide) (by decide) ?_
      refine lv_aload_n hx hb dX3_readSign_210 rfl (lv_at hl 1 rfl) ?_
      refine lv_bipush (v := 31) hx hb dX3_readSign_211 (by decide) ?_
      refine va_put (D := (dC, dI)) (ci := 3) (v := .int 31) (ty := tyX3 5) (C := RX3) (T := TX3) (N := 9) hx hb htw inlX3 tyX3 tyX3_ok nmX3 hown hK hP hD hS 0 rfl rfl 5 (by decide) (htw _ (ck_14 _ (List.mem_of_getElem? (i := 17) rfl))) (fun _ h9 => h9) rfl (by decide +kernel) rfl rfl (Nat.le_of_ble_eq_true rfl) dX3_readSign_213 (fun H locs hP hD hS => ?_)
      have hP : va_P (dC, dI) vwCl [(lx, .inr (3, [.ref lby, .int lfi, .ref lco, .int lxe, .int (lxa + 1), .int 31, .int lxp, .int lxn, .int lxl])), (lby, .inl (cBy, 900, .inl fBy))] H := hP
      have hD : va_D A [(lx, .inr (3, [.ref lby, .int lfi, .ref lco, .int lxe, .int (lxa + 1), .int 31, .int lxp, .int lxn, .int lxl])), (lby, .inl (cBy, 900, .inl fBy))] := hD
      refine lv_goto (tgt := 294) hx hb dX3_readSign_216 (by decide) ?_
      refine lv_aload_n hx hb dX3_readSign_294 rfl (lv_at hl 1 rfl) ?_
      refine va_get (D := (dC, dI)) (ci := 3) (v := .int 31) (C := RX3) (T := TX3) (N := 9) hx hb htw inlX3 hown hK hP 0 rfl rfl 5 (by decide) (htw _ (ck_14 _ (List.mem_of_getElem? (i := 17) rfl))) (fun _ h9 => h9) rfl dX3_readSign_295 ?_
      refine lv_bipush (v := 34) hx hb dX3_readSign_298 (by decide) ?_
      refine lv_icmp_eq (tgt := 321) hx hb dX3_readSign_300 (by decide) (fun c => absurd c (by decide)) (fun _ => ?_)
      refine lv_aload_n hx hb dX3_readSign_303 rfl (lv_at hl 1 rfl) ?_
      refine va_get (D := (dC, dI)) (ci := 3) (v := .int 31) (C := RX3) (T := TX3) (N := 9) hx hb htw inlX3 hown hK hP 0 rfl rfl 5 (by decide) (htw _ (ck_14 _ (List.mem_of_getElem? (i := 17) rfl))) (fun _ h9 => h9) rfl dX3_readSign_304 ?_
      refine lv_bipush (v := 36) hx hb dX3_readSign_307 (by decide) ?_
      refine lv_icmp_eq (tgt := 321) hx hb dX3_readSign_309 (by decide) (fun c => absurd c (by decide)) (fun _ => ?_)
      refine lv_aload_n hx hb dX3_readSign_312 rfl (lv_at hl 1 rfl) ?_
      refine va_get (D := (dC, dI)) (ci := 3) (v := .int 31) (C := RX3) (T := TX3) (N := 9) hx hb htw inlX3 hown hK hP 0 rfl rfl 5 (by decide) (htw _ (ck_14 _ (List.mem_of_getElem? (i := 17) rfl))) (fun _ h9 => h9) rfl dX3_readSign_313 ?_
      refine lv_bipush (v := 37) hx hb dX3_readSign_316 (by decide) ?_
      refine lv_icmp_ne (tgt := 331) hx hb dX3_readSign_318 (by decide) (fun _ => ?_) (fun c => absurd c (by decide))
      refine W.widen (k := 0) (n := 0) (by omega) (by omega) ?_
      have hP9 := hP.sub (ws' := [(lx, .inr (3, [.ref lby, .int lfi, .ref lco, .int lxe, .int (lxa + 1), .int 31, .int lxp, .int lxn, .int lxl])), (lby, .inl (cBy, 900, .inl fBy))]) [0, 1] rfl
      have hD9 := hD.sub (ws' := [(lx, .inr (3, [.ref lby, .int lfi, .ref lco, .int lxe, .int (lxa + 1), .int 31, .int lxp, .int lxn, .int lxl])), (lby, .inl (cBy, 900, .inl fBy))]) [0, 1] (by decide) rfl
      have hK9 := hK.sub (tys' := []) [] rfl
      exact W.vret hx hb hr (fun t ht hW => ⟨⟨((lxa + 1), 31), rfl, (by rw [fe_readSign]; (try rw [if_neg c_1]); (try rw [if_neg h_28]); (try rw [if_neg h_29]); (try rw [if_neg h_30]); (try rw [if_neg h_31]); (try rw [if_neg h_32]); (try rw [if_neg h_33]); (try rw [if_neg h_34]); (try rw [if_neg h_35]); (try rw [if_neg h_36]); (try rw [if_neg h_37]); (try rw [if_pos rfl]); try rfl), by rw [ht]; exact hP9, va_K.moved hW.alike hK9, hD9⟩, hS.F ht⟩) hS.2.2 dX3_readSign_331
    by_cases h_39 : a0 = 48
    · subst h_39
      refine lv_tableIn (off := 252) (tgt := 288) hx hb dX3_readSign_36 (by decide) (by decide) (by decide) (by decide) ?_
      refine lv_aload_n hx hb dX3_readSign_288 rfl (lv_at hl 1 rfl) ?_
      refine lv_bipush (v := 39) hx hb dX3_readSign_289 (by decide) ?_
      refine va_put (D := (dC, dI)) (ci := 3) (v := .int 39) (ty := tyX3 5) (C := RX3) (T := TX3) (N := 9) hx hb htw inlX3 tyX3 tyX3_ok nmX3 hown hK hP hD hS 0 rfl rfl 5 (by decide) (htw _ (ck_14 _ (List.mem_of_getElem? (i := 17) rfl))) (fun _ h9 => h9) rfl (by decide +kernel) rfl rfl (Nat.le_of_ble_eq_true rfl) dX3_readSign_291 (fun H locs hP hD hS => ?_)
      have hP : va_P (dC, dI) vwCl [(lx, .inr (3, [.ref lby, .int lfi, .ref lco, .int lxe, .int (lxa + 1), .int 39, .int lxp, .int lxn, .int lxl])), (lby, .inl (cBy, 900, .inl fBy))] H := hP
      have hD : va_D A [(lx, .inr (3, [.ref lby, .int lfi, .ref lco, .int lxe, .int (lxa + 1), .int 39, .int lxp, .int lxn, .int lxl])), (lby, .inl (cBy, 900, .inl fBy))] := hD
      refine lv_aload_n hx hb dX3_readSign_294 rfl (lv_at hl 1 rfl) ?_
      refine va_get (D := (dC, dI)) (ci := 3) (v := .int 39) (C := RX3) (T := TX3) (N := 9) hx hb htw inlX3 hown hK hP 0 rfl rfl 5 (by decide) (htw _ (ck_14 _ (List.mem_of_getElem? (i := 17) rfl))) (fun _ h9 => h9) rfl dX3_readSign_295 ?_
      refine lv_bipush (v := 34) hx hb dX3_readSign_298 (by decide) ?_
      refine lv_icmp_eq (tgt := 321) hx hb dX3_readSign_300 (by decide) (fun c => absurd c (by decide)) (fun _ => ?_)
      refine lv_aload_n hx hb dX3_readSign_303 rfl (lv_at hl 1 rfl) ?_
      refine va_get (D := (dC, dI)) (ci := 3) (v := .int 39) (C := RX3) (T := TX3) (N := 9) hx hb htw inlX3 hown hK hP 0 rfl rfl 5 (by decide) (htw _ (ck_14 _ (List.mem_of_getElem? (i := 17) rfl))) (fun _ h9 => h9) rfl dX3_readSign_304 ?_
      refine lv_bipush (v := 36) hx hb dX3_readSign_307 (by decide) ?_
      refine lv_icmp_eq (tgt := 321) hx hb dX3_readSign_309 (by decide) (fun c => absurd c (by decide)) (fun _ => ?_)
      refine lv_aload_n hx hb dX3_readSign_312 rfl (lv_at hl 1 rfl) ?_
      refine va_get (D := (dC, dI)) (ci := 3) (v := .int 39) (C := RX3) (T := TX3) (N := 9) hx hb htw inlX3 hown hK hP 0 rfl rfl 5 (by decide) (htw _ (ck_14 _ (List.mem_of_getElem? (i := 17) rfl))) (fun _ h9 => h9) rfl dX3_readSign_313 ?_
      refine lv_bipush (v := 37) hx hb dX3_readSign_316 (by decide) ?_
      refine lv_icmp_ne (tgt := 331) hx hb dX3_readSign_318 (by decide) (fun _ => ?_) (fun c => absurd c (by decide))
      refine W.widen (k := 0) (n := 0) (by omega) (by omega) ?_
      have hP9 := hP.sub (ws' := [(lx, .inr (3, [.ref lby, .int lfi, .ref lco, .int lxe, .int (lxa + 1), .int 39, .int lxp, .int lxn, .int lxl])), (lby, .inl (cBy, 900, .inl fBy))]) [0, 1] rfl
      have hD9 := hD.sub (ws' := [(lx, .inr (3, [.ref lby, .int lfi, .ref lco, .int lxe, .int (lxa + 1), .int 39, .int lxp, .int lxn, .int lxl])), (lby, .inl (cBy, 900, .inl fBy))]) [0, 1] (by decide) rfl
      have hK9 := hK.sub (tys' := []) [] rfl
      exact W.vret hx hb hr (fun t ht hW => ⟨⟨((lxa + 1), 39), rfl, (by rw [fe_readSign]; (try rw [if_neg c_1]); (try rw [if_neg h_28]); (try rw [if_neg h_29]); (try rw [if_neg h_30]); (try rw [if_neg h_31]); (try rw [if_neg h_32]); (try rw [if_neg h_33]); (try rw [if_neg h_34]); (try rw [if_neg h_35]); (try rw [if_neg h_36]); (try rw [if_neg h_37]); (try rw [if_neg h_38]); (try rw [if_pos rfl]); try rfl), by rw [ht]; exact hP9, va_K.moved hW.alike hK9, hD9⟩, hS.F ht⟩) hS.2.2 dX3_readSign_331
    by_cases h_40 : a0 = 49
    · subst h_40
      refine lv_tableIn (off := 252) (tgt := 288) hx hb dX3_readSign_36 (by decide) (by decide) (by decide) (by decide) ?_
      refine lv_aload_n hx hb dX3_readSign_288 rfl (lv_at hl 1 rfl) ?_
      refine lv_bipush (v := 39) hx hb dX3_readSign_289 (by decide) ?_
      refine va_put (D := (dC, dI)) (ci := 3) (v := .int 39) (ty := tyX3 5) (C := RX3) (T := TX3) (N := 9) hx hb htw inlX3 tyX3 tyX3_ok nmX3 hown hK hP hD hS 0 rfl rfl 5 (by decide) (htw _ (ck_14 _ (List.mem_of_getElem? (i := 17) rfl))) (fun _ h9 => h9) rfl (by decide +kernel) rfl rfl (Nat.le_of_ble_eq_true rfl) dX3_readSign_291 (fun H locs hP hD hS => ?_)
      have hP : va_P (dC, dI) vwCl [(lx, .inr (3, [.ref lby, .int lfi, .ref lco, .int lxe, .int (lxa + 1), .int 39, .int lxp, .int lxn, .int lxl])), (lby, .inl (cBy, 900, .inl fBy))] H := hP
      have hD : va_D A [(lx, .inr (3, [.ref lby, .int lfi, .ref lco, .int lxe, .int (lxa + 1), .int 39, .int lxp, .int lxn, .int lxl])), (lby, .inl (cBy, 900, .inl fBy))] := hD
      refine lv_aload_n hx hb dX3_readSign_294 rfl (lv_at hl 1 rfl) ?_
      refine va_get (D := (dC, dI)) (ci := 3) (v := .int 39) (C := RX3) (T := TX3) (N := 9) hx hb htw inlX3 hown hK hP 0 rfl rfl 5 (by decide) (htw _ (ck_14 _ (List.mem_of_getElem? (i := 17) rfl))) (fun _ h9 => h9) rfl dX3_readSign_295 ?_
      refine lv_bipush (v := 34) hx hb dX3_readSign_298 (by decide) ?_
      refine lv_icmp_eq (tgt := 321) hx hb dX3_readSign_300 (by decide) (fun c => absurd c (by decide)) (fun _ => ?_)
      refine lv_aload_n hx hb dX3_readSign_303 rfl (lv_at hl 1 rfl) ?_
      refine va_get (D := (dC, dI)) (ci := 3) (v := .int 39) (C := RX3) (T := TX3) (N := 9) hx hb htw inlX3 hown hK hP 0 rfl rfl 5 (by decide) (htw _ (ck_14 _ (List.mem_of_getElem? (i := 17) rfl))) (fun _ h9 => h9) rfl dX3_readSign_304 ?_
      refine lv_bipush (v := 36) hx hb dX3_readSign_307 (by decide) ?_
      refine lv_icmp_eq (tgt := 321) hx hb dX3_readSign_309 (by decide) (fun c => absurd c (by decide)) (fun _ => ?_)
      refine lv_aload_n hx hb dX3_readSign_312 rfl (lv_at hl 1 rfl) ?_
      refine va_get (D := (dC, dI)) (ci := 3) (v := .int 39) (C := RX3) (T := TX3) (N := 9) hx hb htw inlX3 hown hK hP 0 rfl rfl 5 (by decide) (htw _ (ck_14 _ (List.mem_of_getElem? (i := 17) rfl))) (fun _ h9 => h9) rfl dX3_readSign_313 ?_
      refine lv_bipush (v := 37) hx hb dX3_readSign_316 (by decide) ?_
      refine lv_icmp_ne (tgt := 331) hx hb dX3_readSign_318 (by decide) (fun _ => ?_) (fun c => absurd c (by decide))
      refine W.widen (k := 0) (n := 0) (by omega) (by omega) ?_
      have hP9 := hP.sub (ws' := [(lx, .inr (3, [.ref lby, .int lfi, .ref lco, .int lxe, .int (lxa + 1), .int 39, .int lxp, .int lxn, .int lxl])), (lby, .inl (cBy, 900, .inl fBy))]) [0, 1] rfl
      have hD9 := hD.sub (ws' := [(lx, .inr (3, [.ref lby, .int lfi, .ref lco, .int lxe, .int (lxa + 1), .int 39, .int lxp, .int lxn, .int lxl])), (lby, .inl (cBy, 900, .inl fBy))]) [0, 1] (by decide) rfl
      have hK9 := hK.sub (tys' := []) [] rfl
      exact W.vret hx hb hr (fun t ht hW => ⟨⟨((lxa + 1), 39), rfl, (by rw [fe_readSign]; (try rw [if_neg c_1]); (try rw [if_neg h_28]); (try rw [if_neg h_29]); (try rw [if_neg h_30]); (try rw [if_neg h_31]); (try rw [if_neg h_32]); (try rw [if_neg h_33]); (try rw [if_neg h_34]); (try rw [if_neg h_35]); (try rw [if_neg h_36]); (try rw [if_neg h_37]); (try rw [if_neg h_38]); (try rw [if_neg h_39]); (try rw [if_pos rfl]); try rfl), by rw [ht]; exact hP9, va_K.moved hW.alike hK9, hD9⟩, hS.F ht⟩) hS.2.2 dX3_readSign_331
    by_cases h_41 : a0 = 50
    · subst h_41
      refine lv_tableIn (off := 252) (tgt := 288) hx hb dX3_readSign_36 (by decide) (by decide) (by decide) (by decide) ?_
      refine lv_aload_n hx hb dX3_readSign_288 rfl (lv_at hl 1 rfl) ?_
      refine lv_bipush (v := 39) hx hb dX3_readSign_289 (by decide) ?_
      refine va_put (D := (dC, dI)) (ci := 3) (v := .int 39) (ty := tyX3 5) (C := RX3) (T := TX3) (N := 9) hx hb htw inlX3 tyX3 tyX3_ok nmX3 hown hK hP hD hS 0 rfl rfl 5 (by decide) (htw _ (ck_14 _ (List.mem_of_getElem? (i := 17) rfl))) (fun _ h9 => h9) rfl (by decide +kernel) rfl rfl (Nat.le_of_ble_eq_true rfl) dX3_readSign_291 (fun H locs hP hD hS => ?_)
      have hP : va_P (dC, dI) vwCl [(lx, .inr (3, [.ref lby, .int lfi, .ref lco, .int lxe, .int (lxa + 1), .int 39, .int lxp, .int lxn, .int lxl])), (lby, .inl (cBy, 900, .inl fBy))] H := hP
      have hD : va_D A [(lx, .inr (3, [.ref lby, .int lfi, .ref lco, .int lxe, .int (lxa + 1), .int 39, .int lxp, .int lxn, .int lxl])), (lby, .inl (cBy, 900, .inl fBy))] := hD
      refine lv_aload_n hx hb dX3_readSign_294 rfl (lv_at hl 1 rfl) ?_
      refine va_get (D := (dC, dI)) (ci := 3) (v := .int 39) (C := RX3) (T := TX3) (N := 9) hx hb htw inlX3 hown hK hP 0 rfl rfl 5 (by decide) (htw _ (ck_14 _ (List.mem_of_getElem? (i := 17) rfl))) (fun _ h9 => h9) rfl dX3_readSign_295 ?_
      refine lv_bipush (v := 34) hx hb dX3_readSign_298 (by decide) ?_
      refine lv_icmp_eq (tgt := 321) hx hb dX3_readSign_300 (by decide) (fun c => absurd c (by decide)) (fun _ => ?_)
      refine lv_aload_n hx hb dX3_readSign_303 rfl (lv_at hl 1 rfl) ?_
      refine va_get (D := (dC, dI)) (ci := 3) (v := .int 39) (C := RX3) (T := TX3) (N := 9) hx hb htw inlX3 hown hK hP 0 rfl rfl 5 (by decide) (htw _ (ck_14 _ (List.mem_of_getElem? (i := 17) rfl))) (fun _ h9 => h9) rfl dX3_readSign_304 ?_
      refine lv_bipush (v := 36) hx hb dX3_readSign_307 (by decide) ?_
      refine lv_icmp_eq (tgt := 321) hx hb dX3_readSign_309 (by decide) (fun c => absurd c (by decide)) (fun _ => ?_)
      refine lv_aload_n hx hb dX3_readSign_312 rfl (lv_at hl 1 rfl) ?_
      refine va_get (D := (dC, dI)) (ci := 3) (v := .int 39) (C := RX3) (T := TX3) (N := 9) hx hb htw inlX3 hown hK hP 0 rfl rfl 5 (by decide) (htw _ (ck_14 _ (List.mem_of_getElem? (i := 17) rfl))) (fun _ h9 => h9) rfl dX3_readSign_313 ?_
      refine lv_bipush (v := 37) hx hb dX3_readSign_316 (by decide) ?_
      refine lv_icmp_ne (tgt := 331) hx hb dX3_readSign_318 (by decide) (fun _ => ?_) (fun c => absurd c (by decide))
      refine W.widen (k := 0) (n := 0) (by omega) (by omega) ?_
      have hP9 := hP.sub (ws' := [(lx, .inr (3, [.ref lby, .int lfi, .ref lco, .int lxe, .int (lxa + 1), .int 39, .int lxp, .int lxn, .int lxl])), (lby, .inl (cBy, 900, .inl fBy))]) [0, 1] rfl
      have hD9 := hD.sub (ws' := [(lx, .inr (3, [.ref lby, .int lfi, .ref lco, .int lxe, .int (lxa + 1), .int 39, .int lxp, .int lxn, .int lxl])), (lby, .inl (cBy, 900, .inl fBy))]) [0, 1] (by decide) rfl
      have hK9 := hK.sub (tys' := []) [] rfl
      exact W.vret hx hb hr (fun t ht hW => ⟨⟨((lxa + 1), 39), rfl, (by rw [fe_readSign]; (try rw [if_neg c_1]); (try rw [if_neg h_28]); (try rw [if_neg h_29]); (try rw [if_neg h_30]); (try rw [if_neg h_31]); (try rw [if_neg h_32]); (try rw [if_neg h_33]); (try rw [if_neg h_34]); (try rw [if_neg h_35]); (try rw [if_neg h_36]); (try rw [if_neg h_37]); (try rw [if_neg h_38]); (try rw [if_neg h_39]); (try rw [if_neg h_40]); (try rw [if_pos rfl]); try rfl), by rw [ht]; exact hP9, va_K.moved hW.alike hK9, hD9⟩, hS.F ht⟩) hS.2.2 dX3_readSign_331
    by_cases h_42 : a0 = 51
    · subst h_42
      refine lv_tableIn (off := 252) (tgt := 288) hx hb dX3_readSign_36 (by decide) (by decide) (by decide) (by decide) ?_
      refine lv_aload_n hx hb dX3_readSign_288 rfl (lv_at hl 1 rfl) ?_
      refine lv_bipush (v := 39) hx hb dX3_readSign_289 (by decide) ?_
      refine va_put (D := (dC, dI)) (ci := 3) (v := .int 39) (ty := tyX3 5) (C := RX3) (T := TX3) (N := 9) hx hb htw inlX3 tyX3 tyX3_ok nmX3 hown hK hP hD hS 0 rfl rfl 5 (by decide) (htw _ (ck_14 _ (List.mem_of_getElem? (i := 17) rfl))) (fun _ h9 => h9) rfl (by decide +kernel) rfl rfl (Nat.le_of_ble_eq_true rfl) dX3_readSign_291 (fun H locs hP hD hS => ?_)
      have hP : va_P (dC, dI) vwCl [(lx, .inr (3, [.ref lby, .int lfi, .ref lco, .int lxe, .int (lxa + 1), .int 39, .int lxp, .int lxn, .int lxl])), (lby, .inl (cBy, 900, .inl fBy))] H := hP
      have hD : va_D A [(lx, .inr (3, [.ref lby, .int lfi, .ref lco, .int lxe, .int (lxa + 1), .int 39, .int lxp, .int lxn, .int lxl])), (lby, .inl (cBy, 900, .inl fBy))] := hD
      refine lv_aload_n hx hb dX3_readSign_294 rfl (lv_at hl 1 rfl) ?_
      refine va_get (D := (dC, dI)) (ci := 3) (v := .int 39) (C := RX3) (T := TX3) (N := 9) hx hb htw inlX3 hown hK hP 0 rfl rfl 5 (by decide) (htw _ (ck_14 _ (List.mem_of_getElem? (i := 17) rfl))) (fun _ h9 => h9) rfl dX3_readSign_295 ?_
      refine lv_bipush (v := 34) hx hb dX3_readSign_298 (by decide) ?_
      refine lv_icmp_eq (tgt := 321) hx hb dX3_readSign_300 (by decide) (fun c => absurd c (by decide)) (fun _ => ?_)
      refine lv_aload_n hx hb dX3_readSign_303 rfl (lv_at hl 1 rfl) ?_
      refine va_get (D := (dC, dI)) (ci := 3) (v := .int 39) (C := RX3) (T := TX3) (N := 9) hx hb htw inlX3 hown hK hP 0 rfl rfl 5 (by decide) (htw _ (ck_14 _ (List.mem_of_getElem? (i := 17) rfl))) (fun _ h9 => h9) rfl dX3_readSign_304 ?_
      refine lv_bipush (v := 36) hx hb dX3_readSign_307 (by decide) ?_
      refine lv_icmp_eq (tgt := 321) hx hb dX3_readSign_309 (by decide) (fun c => absurd c (by decide)) (fun _ => ?_)
      refine lv_aload_n hx hb dX3_readSign_312 rfl (lv_at hl 1 rfl) ?_
      refine va_get (D := (dC, dI)) (ci := 3) (v := .int 39) (C := RX3) (T := TX3) (N := 9) hx hb htw inlX3 hown hK hP 0 rfl rfl 5 (by decide) (htw _ (ck_14 _ (List.mem_of_getElem? (i := 17) rfl))) (fun _ h9 => h9) rfl dX3_readSign_313 ?_
      refine lv_bipush (v := 37) hx hb dX3_readSign_316 (by decide) ?_
      refine lv_icmp_ne (tgt := 331) hx hb dX3_readSign_318 (by decide) (fun _ => ?_) (fun c => absurd c (by decide))
      refine W.widen (k := 0) (n := 0) (by omega) (by omega) ?_
      have hP9 := hP.sub (ws' := [(lx, .inr (3, [.ref lby, .int lfi, .ref lco, .int lxe, .int (lxa + 1), .int 39, .int lxp, .int lxn, .int lxl])), (lby, .inl (cBy, 900, .inl fBy))]) [0, 1] rfl
      have hD9 := hD.sub (ws' := [(lx, .inr (3, [.ref lby, .int lfi, .ref lco, .int lxe, .int (lxa + 1), .int 39, .int lxp, .int lxn, .int lxl])), (lby, .inl (cBy, 900, .inl fBy))]) [0, 1] (by decide) rfl
      have hK9 := hK.sub (tys' := []) [] rfl
      exact W.vret hx hb hr (fun t ht hW => ⟨⟨((lxa + 1), 39), rfl, (by rw [fe_readSign]; (try rw [if_neg c_1]); (try rw [if_neg h_28]); (try rw [if_neg h_29]); (try rw [if_neg h_30]); (try rw [if_neg h_31]); (try rw [if_neg h_32]); (try rw [if_neg h_33]); (try rw [if_neg h_34]); (try rw [if_neg h_35]); (try rw [if_neg h_36]); (try rw [if_neg h_37]); (try rw [if_neg h_38]); (try rw [if_neg h_39]); (try rw [if_neg h_40]); (try rw [if_neg h_41]); (try rw [if_pos rfl]); try rfl), by rw [ht]; exact hP9, va_K.moved hW.alike hK9, hD9⟩, hS.F ht⟩) hS.2.2 dX3_readSign_331
    by_cases h_43 : a0 = 52
    · subst h_43
      refine lv_tableIn (off := 252) (tgt := 288) hx hb dX3_readSign_36 (by decide) (by decide) (by decide) (by decide) ?_
      refine lv_aload_n hx hb dX3_readSign_288 rfl (lv_at hl 1 rfl) ?_
      refine lv_bipush (v := 39) hx hb dX3_readSign_289 (by decide) ?_
      refine va_put (D := (dC, dI)) (ci := 3) (v := .int 39) (ty := tyX3 5) (C := RX3) (T := TX3) (N := 9) hx hb htw inlX3 tyX3 tyX3_ok nmX3 hown hK hP hD hS 0 rfl rfl 5 (by decide) (htw _ (ck_14 _ (List.mem_of_getElem? (i := 17) rfl))) (fun _ h9 => h9) rfl (by decide +kernel) rfl rfl (Nat.le_of_ble_eq_true rfl) dX3_readSign_291 (fun H locs hP hD hS => ?_)
      have hP : va_P (dC, dI) vwCl [(lx, .inr (3, [.ref lby, .int lfi, .ref lco, .int lxe, .int (lxa + 1), .int 39, .int lxp, .int lxn, .int lxl])), (lby, .inl (cBy, 900, .inl fBy))] H := hP
      have hD : va_D A [(lx, .inr (3, [.ref lby, .int lfi, .ref lco, .int lxe, .int (lxa + 1), .int 39, .int lxp, .int lxn, .int lxl])), (lby, .inl (cBy, 900, .inl fBy))] := hD
      refine lv_aload_n hx hb dX3_readSign_294 rfl (lv_at hl 1 rfl) ?_
      refine va_get (D := (dC, dI)) (ci := 3) (v := .int 39) (C := RX3) (T := TX3) (N := 9) hx hb htw inlX3 hown hK hP 0 rfl rfl 5 (by decide) (htw _ (ck_14 _ (List.mem_of_getElem? (i := 17) rfl))) (fun _ h9 => h9) rfl dX3_readSign_295 ?_
      refine lv_bipush (v := 34) hx hb dX3_readSign_298 (by decide) ?_
      refine lv_icmp_eq (tgt := 321) hx hb dX3_readSign_300 (by decide) (fun c => absurd c (by decide)) (fun _ => ?_)
      refine lv_aload_n hx hb dX3_readSign_303 rfl (lv_at hl 1 rfl) ?_
      refine va_get (D := (dC, dI)) (ci := 3) (v := .int 39) (C := RX3) (T := TX3) (N := 9) hx hb htw inlX3 hown hK hP 0 rfl rfl 5 (by decide) (htw _ (ck_14 _ (List.mem_of_getElem? (i := 17) rfl))) (fun _ h9 => h9) rfl dX3_readSign_304 ?_
      refine lv_bipush (v := 36) hx hb dX3_readSign_307 (by decide) ?_
      refine lv_icmp_eq (tgt := 321) hx hb dX3_readSign_309 (by decide) (fun c => absurd c (by decide)) (fun _ => ?_)
      refine lv_aload_n hx hb dX3_readSign_312 rfl (lv_at hl 1 rfl) ?_
      refine va_get (D := (dC, dI)) (ci := 3) (v := .int 39) (C := RX3) (T := TX3) (N := 9) hx hb htw inlX3 hown hK hP 0 rfl rfl 5 (by decide) (htw _ (ck_14 _ (List.mem_of_getElem? (i := 17) rfl))) (fun _ h9 => h9) rfl dX3_readSign_313 ?_
      refine lv_bipush (v := 37) hx hb dX3_readSign_316 (by decide) ?_
      refine lv_icmp_ne (tgt := 331) hx hb dX3_readSign_318 (by decide) (fun _ => ?_) (fun c => absurd c (by decide))
      refine W.widen (k := 0) (n := 0) (by omega) (by omega) ?_
      have hP9 := hP.sub (ws' := [(lx, .inr (3, [.ref lby, .int lfi, .ref lco, .int lxe, .int (lxa + 1), .int 39, .int lxp, .int lxn, .int lxl])), (lby, .inl (cBy, 900, .inl fBy))]) [0, 1] rfl
      have hD9 := hD.sub (ws' := [(lx, .inr (3, [.ref lby, .int lfi, .ref lco, .int lxe, .int (lxa + 1), .int 39, .int lxp, .int lxn, .int lxl])), (lby, .inl (cBy, 900, .inl fBy))]) [0, 1] (by decide) rfl
      have hK9 := hK.sub (tys' := []) [] rfl
      exact W.vret hx hb hr (fun t ht hW => ⟨⟨((lxa + 1), 39), rfl, (by rw [fe_readSign]; (try rw [if_neg c_1]); (try rw [if_neg h_28]); (try rw [if_neg h_29]); (try rw [if_neg h_30]); (try rw [if_neg h_31]); (try rw [if_neg h_32]); (try rw [if_neg h_33]); (try rw [if_neg h_34]); (try rw [if_neg h_35]); (try rw [if_neg h_36]); (try rw [if_neg h_37]); (try rw [if_neg h_38]); (try rw [if_neg h_39]); (try rw [if_neg h_40]); (try rw [if_neg h_41]); (try rw [if_neg h_42]); (try rw [if_pos rfl]); try rfl), by rw [ht]; exact hP9, va_K.moved hW.alike hK9, hD9⟩, hS.F ht⟩) hS.2.2 dX3_readSign_331
    by_cases h_44 : a0 = 53
    · subst h_44
      refine lv_tableIn (off := 252) (tgt := 288) hx hb dX3_readSign_36 (by decide) (by decide) (by decide) (by decide) ?_
      refine lv_aload_n hx hb dX3_readSign_288 rfl (lv_at hl 1 rfl) ?_
      refine lv_bipush (v := 39) hx hb dX3_readSign_289 (by decide) ?_
      refine va_put (D := (dC, dI)) (ci := 3) (v := .int 39) (ty := tyX3 5) (C := RX3) (T := TX3) (N := 9) hx hb htw inlX3 tyX3 tyX3_ok nmX3 hown hK hP hD hS 0 rfl rfl 5 (by decide) (htw _ (ck_14 _ (List.mem_of_getElem? (i := 17) rfl))) (fun _ h9 => h9) rfl (by decide +kernel) rfl rfl (Nat.le_of_ble_eq_true rfl) dX3_readSign_291 (fun H locs hP hD hS => ?_)
      have hP : va_P (dC, dI) vwCl [(lx, .inr (3, [.ref lby, .int lfi, .ref lco, .int lxe, .int (lxa + 1), .int 39, .int lxp, .int lxn, .int lxl])), (lby, .inl (cBy, 900, .inl fBy))] H := hP
      have hD : va_D A [(lx, .inr (3, [.ref lby, .int lfi, .ref lco, .int lxe, .int (lxa + 1), .int 39, .int lxp, .int lxn, .int lxl])), (lby, .inl (cBy, 900, .inl fBy))] := hD
      refine lv_aload_n hx hb dX3_readSign_294 rfl (lv_at hl 1 rfl) ?_
      refine va_get (D := (dC, dI)) (ci := 3) (v := .int 39) (C := RX3) (T := TX3) (N := 9) hx hb htw inlX3 hown hK hP 0 rfl rfl 5 (by decide) (htw _ (ck_14 _ (List.mem_of_getElem? (i := 17) rfl))) (fun _ h9 => h9) rfl dX3_readSign_295 ?_
      refine lv_bipush (v := 34) hx hb dX3_readSign_298 (by decide) ?_
      refine lv_icmp_eq (tgt := 321) hx hb dX3_readSign_300 (by decide) (fun c => absurd c (by decide)) (fun _ => ?_)
      refine lv_aload_n hx hb dX3_readSign_303 rfl (lv_at hl 1 rfl) ?_
      refine va_get (D := (dC, dI)) (ci := 3) (v := .int 39) (C := RX3) (T := TX3) (N := 9) hx hb htw inlX3 hown hK hP 0 rfl rfl 5 (by decide) (htw _ (ck_14 _ (List.mem_of_getElem? (i := 17) rfl))) (fun _ h9 => h9) rfl dX3_readSign_304 ?_
      refine lv_bipush (v := 36) hx hb dX3_readSign_307 (by decide) ?_
      refine lv_icmp_eq (tgt := 321) hx hb dX3_readSign_309 (by decide) (fun c => absurd c (by decide)) (fun _ => ?_)
      refine lv_aload_n hx hb dX3_readSign_312 rfl (lv_at hl 1 rfl) ?_
      refine va_get (D := (dC, dI)) (ci := 3) (v := .int 39) (C := RX3) (T := TX3) (N := 9) hx hb htw inlX3 hown hK hP 0 rfl rfl 5 (by decide) (htw _ (ck_14 _ (List.mem_of_getElem? (i := 17) rfl))) (fun _ h9 => h9) rfl dX3_readSign_313 ?_
      refine lv_bipush (v := 37) hx hb dX3_readSign_316 (by decide) ?_
      refine lv_icmp_ne (tgt := 331) hx hb dX3_readSign_318 (by decide) (fun _ => ?_) (fun c => absurd c (by decide))
      refine W.widen (k := 0) (n := 0) (by omega) (by omega) ?_
      have hP9 := hP.sub (ws' := [(lx, .inr (3, [.ref lby, .int lfi, .ref lco, .int lxe, .int (lxa + 1), .int 39, .int lxp, .int lxn, .int lxl])), (lby, .inl (cBy, 900, .inl fBy))]) [0, 1] rfl
      have hD9 := hD.sub (ws' := [(lx, .inr (3, [.ref lby, .int lfi, .ref lco, .int lxe, .int (lxa + 1), .int 39, .int lxp, .int lxn, .int lxl])), (lby, .inl (cBy, 900, .inl fBy))]) [0, 1] (by decide) rfl
      have hK9 := hK.sub (tys' := []) [] rfl
      exact W.vret hx hb hr (fun t ht hW => ⟨⟨((lxa + 1), 39), rfl, (by rw [fe_readSign]; (try rw [if_neg c_1]); (try rw [if_neg h_28]); (try rw [if_neg h_29]); (try rw [if_neg h_30]); (try rw [if_neg h_31]); (try rw [if_neg h_32]); (try rw [if_neg h_33]); (try rw [if_neg h_34]); (try rw [if_neg h_35]); (try rw [if_neg h_36]); (try rw [if_neg h_37]); (try rw [if_neg h_38]); (try rw [if_neg h_39]); (try rw [if_neg h_40]); (try rw [if_neg h_41]); (try rw [if_neg h_42]); (try rw [if_neg h_43]); (try rw [if_pos rfl]); try rfl), by rw [ht]; exact hP9, va_K.moved hW.alike hK9, hD9⟩, hS.F ht⟩) hS.2.2 dX3_readSign_331
    by_cases h_45 : a0 = 54
    · subst h_45
      refine lv_tableIn (off := 252) (tgt := 288) hx hb dX3_readSign_36 (by decide) (by decide) (by decide) (by decide) ?_
      refine lv_aload_n hx hb dX3_readSign_288 rfl (lv_at hl 1 rfl) ?_
      refine lv_bipush (v := 39) hx hb dX3_readSign_289 (by decide) ?_
      refine va_put (D := (dC, dI)) (ci := 3) (v := .int 39) (ty := tyX3 5) (C := RX3) (T := TX3) (N := 9) hx hb htw inlX3 tyX3 tyX3_ok nmX3 hown hK hP hD hS 0 rfl rfl 5 (by decide) (htw _ (ck_14 _ (List.mem_of_getElem? (i := 17) rfl))) (fun _ h9 => h9) rfl (by decide +kernel) rfl rfl (Nat.le_of_ble_eq_true rfl) dX3_readSign_291 (fun H locs hP hD hS => ?_)
      have hP : va_P (dC, dI) vwCl [(lx, .inr (3, [.ref lby, .int lfi, .ref lco, .int lxe, .int (lxa + 1), .int 39, .int lxp, .int lxn, .int lxl])), (lby, .inl (cBy, 900, .inl fBy))] H := hP
      have hD : va_D A [(lx, .inr (3, [.ref lby, .int lfi, .ref lco, .int lxe, .int (lxa + 1), .int 39, .int lxp, .int lxn, .int lxl])), (lby, .inl (cBy, 900, .inl fBy))] := hD
      refine lv_aload_n hx hb dX3_readSign_294 rfl (lv_at hl 1 rfl) ?_
      refine va_get (D := (dC, dI)) (ci := 3) (v := .int 39) (C := RX3) (T := TX3) (N := 9) hx hb htw inlX3 hown hK hP 0 rfl rfl 5 (by decide) (htw _ (ck_14 _ (List.mem_of_getElem? (i := 17) rfl))) (fun _ h9 => h9) rfl dX3_readSign_295 ?_
      refine lv_bipush (v := 34) hx hb dX3_readSign_298 (by decide) ?_
      refine lv_icmp_eq (tgt := 321) hx hb dX3_readSign_300 (by decide) (fun c => absurd c (by decide)) (fun _ => ?_)
      refine lv_aload_n hx hb dX3_readSign_303 rfl (lv_at hl 1 rfl) ?_
      refine va_get (D := (dC, dI)) (ci := 3) (v := .int 39) (C := RX3) (T := TX3) (N := 9) hx hb htw inlX3 hown hK hP 0 rfl rfl 5 (by decide) (htw _ (ck_14 _ (List.mem_of_getElem? (i := 17) rfl))) (fun _ h9 => h9) rfl dX3_readSign_304 ?_
      refine lv_bipush (v := 36) hx hb dX3_readSign_307 (by decide) ?_
      refine lv_icmp_eq (tgt := 321) hx hb dX3_readSign_309 (by decide) (fun c => absurd c (by decide)) (fun _ => ?_)
      refine lv_aload_n hx hb dX3_readSign_312 rfl (lv_at hl 1 rfl) ?_
      refine va_get (D := (dC, dI)) (ci := 3) (v := .int 39) (C := RX3) (T := TX3) (N := 9) hx hb htw inlX3 hown hK hP 0 rfl rfl 5 (by decide) (htw _ (ck_14 _ (List.mem_of_getElem? (i := 17) rfl))) (fun _ h9 => h9) rfl dX3_readSign_313 ?_
      refine lv_bipush (v := 37) hx hb dX3_readSign_316 (by decide) ?_
      refine lv_icmp_ne (tgt := 331) hx hb dX3_readSign_318 (by decide) (fun _ => ?_) (fun c => absurd c (by decide))
      refine W.widen (k := 0) (n := 0) (by omega) (by omega) ?_
      have hP9 := hP.sub (ws' := [(lx, .inr (3, [.ref lby, .int lfi, .ref lco, .int lxe, .int (lxa + 1), .int 39, .int lxp, .int lxn, .int lxl])), (lby, .inl (cBy, 900, .inl fBy))]) [0, 1] rfl
      have hD9 := hD.sub (ws' := [(lx, .inr (3, [.ref lby, .int lfi, .ref lco, .int lxe, .int (lxa + 1), .int 39, .int lxp, .int lxn, .int lxl])), (lby, .inl (cBy, 900, .inl fBy))]) [0, 1] (by decide) rfl
      have hK9 := hK.sub (tys' := []) [] rfl
      exact W.vret hx hb hr (fun t ht hW => ⟨⟨((lxa + 1), 39), rfl, (by rw [fe_readSign]; (try rw [if_neg c_1]); (try rw [if_neg h_28]); (try rw [if_neg h_29]); (try rw [if_neg h_30]); (try rw [if_neg h_31]); (try rw [if_neg h_32]); (try rw [if_neg h_33]); (try rw [if_neg h_34]); (try rw [if_neg h_35]); (try rw [if_neg h_36]); (try rw [if_neg h_37]); (try rw [if_neg h_38]); (try rw [if_neg h_39]); (try rw [if_neg h_40]); (try rw [if_neg h_41]); (try rw [if_neg h_42]); (try rw [if_neg h_43]); (try rw [if_neg h_44]); (try rw [if_pos rfl]); try rfl), by rw [ht]; exact hP9, va_K.moved hW.alike hK9, hD9⟩, hS.F ht⟩) hS.2.2 dX3_readSign_331
    by_cases h_46 : a0 = 55
    · subst h_46
      refine lv_tableIn (off := 252) (tgt := 288) hx hb dX3_readSign_36 (by decide) (by decide) (by decide) (by decide) ?_
      refine lv_aload_n hx hb dX3_readSign_288 rfl (lv_at hl 1 rfl) ?_
      refine lv_bipush (v := 39) hx hb dX3_readSign_289 (by decide) ?_
      refine va_put (D := (dC, dI)) (ci := 3) (v := .int 39) (ty := tyX3 5) (C := RX3) (T := TX3) (N := 9) hx hb htw inlX3 tyX3 tyX3_ok nmX3 hown hK hP hD hS 0 rfl rfl 5 (by decide) (htw _ (ck_14 _ (List.mem_of_getElem? (i := 17) rfl))) (fun _ h9 => h9) rfl (by decide +kernel) rfl rfl (Nat.le_of_ble_eq_true rfl) dX3_readSign_291 (fun H locs hP hD hS => ?_)
      have hP : va_P (dC, dI) vwCl [(lx, .inr (3, [.ref lby, .int lfi, .ref lco, .int lxe, .int (lxa + 1), .int 39, .int lxp, .int lxn, .int lxl])), (lby, .inl (cBy, 900, .inl fBy))] H := hP
      have hD : va_D A [(lx, .inr (3, [.ref lby, .int lfi, .ref lco, .int lxe, .int (lxa + 1), .int 39, .int lxp, .int lxn, .int lxl])), (lby, .inl (cBy, 900, .inl fBy))] := hD
      refine lv_aload_n hx hb dX3_readSign_294 rfl (lv_at hl 1 rfl) ?_
      refine va_get (D := (dC, dI)) (ci := 3) (v := .int 39) (C := RX3) (T := TX3) (N := 9) hx hb htw inlX3 hown hK hP 0 rfl rfl 5 (by decide) (htw _ (ck_14 _ (List.mem_of_getElem? (i := 17) rfl))) (fun _ h9 => h9) rfl dX3_readSign_295 ?_
      refine lv_bipush (v := 34) hx hb dX3_readSign_298 (by decide) ?_
      refine lv_icmp_eq (tgt := 321) hx hb dX3_readSign_300 (by decide) (fun c => absurd c (by decide)) (fun _ => ?_)
      refine lv_aload_n hx hb dX3_readSign_303 rfl (lv_at hl 1 rfl) ?_
      refine va_get (D := (dC, dI)) (ci := 3) (v := .int 39) (C := RX3) (T := TX3) (N := 9) hx hb htw inlX3 hown hK hP 0 rfl rfl 5 (by decide) (htw _ (ck_14 _ (List.mem_of_getElem? (i := 17) rfl))) (fun _ h9 => h9) rfl dX3_readSign_304 ?_
      refine lv_bipush (v := 36) hx hb dX3_readSign_307 (by decide) ?_
      refine lv_icmp_eq (tgt := 321) hx hb dX3_readSign_309 (by decide) (fun c => absurd c (by decide)) (fun _ => ?_)
      refine lv_aload_n hx hb dX3_readSign_312 rfl (lv_at hl 1 rfl) ?_
      refine va_get (D := (dC, dI)) (ci := 3) (v := .int 39) (C := RX3) (T := TX3) (N := 9) hx hb htw inlX3 hown hK hP 0 rfl rfl 5 (by decide) (htw _ (ck_14 _ (List.mem_of_getElem? (i := 17) rfl))) (fun _ h9 => h9) rfl dX3_readSign_313 ?_
      refine lv_bipush (v := 37) hx hb dX3_readSign_316 (by decide) ?_
      refine lv_icmp_ne (tgt := 331) hx hb dX3_readSign_318 (by decide) (fun _ => ?_) (fun c => absurd c (by decide))
      refine W.widen (k := 0) (n := 0) (by omega) (by omega) ?_
      have hP9 := hP.sub (ws' := [(lx, .inr (3, [.ref lby, .int lfi, .ref lco, .int lxe, .int (lxa + 1), .int 39, .int lxp, .int lxn, .int lxl])), (lby, .inl (cBy, 900, .inl fBy))]) [0, 1] rfl
      have hD9 := hD.sub (ws' := [(lx, .inr (3, [.ref lby, .int lfi, .ref lco, .int lxe, .int (lxa + 1), .int 39, .int lxp, .int lxn, .int lxl])), (lby, .inl (cBy, 900, .inl fBy))]) [0, 1] (by decide) rfl
      have hK9 := hK.sub (tys' := []) [] rfl
      exact W.vret hx hb hr (fun t ht hW => ⟨⟨((lxa + 1), 39), rfl, (by rw [fe_readSign]; (try rw [if_neg c_1]); (try rw [if_neg h_28]); (try rw [if_neg h_29]); (try rw [if_neg h_30]); (try rw [if_neg h_31]); (try rw [if_neg h_32]); (try rw [if_neg h_33]); (try rw [if_neg h_34]); (try rw [if_neg h_35]); (try rw [if_neg h_36]); (try rw [if_neg h_37]); (try rw [if_neg h_38]); (try rw [if_neg h_39]); (try rw [if_neg h_40]); (try rw [if_neg h_41]); (try rw [if_neg h_42]); (try rw [if_neg h_43]); (try rw [if_neg h_44]); (try rw [if_neg h_45]); (try rw [if_pos rfl]); try rfl), by rw [ht]; exact hP9, va_K.moved hW.alike hK9, hD9⟩, hS.F ht⟩) hS.2.2 dX3_readSign_331
    by_cases h_47 : a0 = 56
    · subst h_47
      refine lv_tableIn (off := 252) (tgt := 288) hx hb dX3_readSign_36 (by decide) (by decide) (by decide) (by decide) ?_
      refine lv_aload_n hx hb dX3_readSign_288 rfl (lv_at hl 1 rfl) ?_
      refine lv_bipush (v := 39) hx hb dX3_readSign_289 (by decide) ?_
      refine va_put (D := (dC, dI)) (ci := 3) (v := .int 39) (ty := tyX3 5) (C := RX3) (T := TX3) (N := 9) hx hb htw inlX3 tyX3 tyX3_ok nmX3 hown hK hP hD hS 0 rfl rfl 5 (by decide) (htw _ (ck_14 _ (List.mem_of_getElem? (i := 17) rfl))) (fun _ h9 => h9) rfl (by decide +kernel) rfl rfl (Nat.le_of_ble_eq_true rfl) dX3_readSign_291 (fun H locs hP hD hS => ?_)
      have hP : va_P (dC, dI) vwCl [(lx, .inr (3, [.ref lby, .int lfi, .ref lco, .int lxe, .int (lxa + 1), .int 39, .int lxp, .int lxn, .int lxl])), (lby, .inl (cBy, 900, .inl fBy))] H := hP
      have hD : va_D A [(lx, .inr (3, [.ref lby, .int lfi, .ref lco, .int lxe, .int (lxa + 1), .int 39, .int lxp, .int lxn, .int lxl])), (lby, .inl (cBy, 900, .inl fBy))] := hD
      refine lv_aload_n hx hb dX3_readSign_294 rfl (lv_at hl 1 rfl) ?_
      refine va_get (D := (dC, dI)) (ci := 3) (v := .int 39) (C := RX3) (T := TX3) (N := 9) hx hb htw inlX3 hown hK hP 0 rfl rfl 5 (by decide) (htw _ (ck_14 _ (List.mem_of_getElem? (i := 17) rfl))) (fun _ h9 => h9) rfl dX3_readSign_295 ?_
      refine lv_bipush (v := 34) hx hb dX3_readSign_298 (by decide) ?_
      refine lv_icmp_eq (tgt := 321) hx hb dX3_readSign_300 (by decide) (fun c => absurd c (by decide)) (fun _ => ?_)
      refine lv_aload_n hx hb dX3_readSign_303 rfl (lv_at hl 1 rfl) ?_
      refine va_get (D := (dC, dI)) (ci := 3) (v := .int 39) (C := RX3) (T := TX3) (N := 9) hx hb htw inlX3 hown hK hP 0 rfl rfl 5 (by decide) (htw _ (ck_14 _ (List.mem_of_getElem? (i := 17) rfl))) (fun _ h9 => h9) rfl dX3_readSign_304 ?_
      refine lv_bipush (v := 36) hx hb dX3_readSign_307 (by decide) ?_
      refine lv_icmp_eq (tgt := 321) hx hb dX3_readSign_309 (by decide) (fun c => absurd c (by decide)) (fun _ => ?_)
      refine lv_aload_n hx hb dX3_readSign_312 rfl (lv_at hl 1 rfl) ?_
      refine va_get (D := (dC, dI)) (ci := 3) (v := .int 39) (C := RX3) (T := TX3) (N := 9) hx hb htw inlX3 hown hK hP 0 rfl rfl 5 (by decide) (htw _ (ck_14 _ (List.mem_of_getElem? (i := 17) rfl))) (fun _ h9 => h9) rfl dX3_readSign_313 ?_
      refine lv_bipush (v := 37) hx hb dX3_readSign_316 (by decide) ?_
      refine lv_icmp_ne (tgt := 331) hx hb dX3_readSign_318 (by decide) (fun _ => ?_) (fun c => absurd c (by decide))
      refine W.widen (k := 0) (n := 0) (by omega) (by omega) ?_
      have hP9 := hP.sub (ws' := [(lx, .inr (3, [.ref lby, .int lfi, .ref lco, .int lxe, .int (lxa + 1), .int 39, .int lxp, .int lxn, .int lxl])), (lby, .inl (cBy, 900, .inl fBy))]) [0, 1] rfl
      have hD9 := hD.sub (ws' := [(lx, .inr (3, [.ref lby, .int lfi, .ref lco, .int lxe, .int (lxa + 1), .int 39, .int lxp, .int lxn, .int lxl])), (lby, .inl (cBy, 900, .inl fBy))]) [0, 1] (by decide) rfl
      have hK9 := hK.sub (tys' := []) [] rfl
      exact W.vret hx hb hr (fun t ht hW => ⟨⟨((lxa + 1), 39), rfl, (by rw [fe_readSign]; (try rw [if_neg c_1]); (try rw [if_neg h_28]); (try rw [if_neg h_29]); (try rw [if_neg h_30]); (try rw [if_neg h_31]); (try rw [if_neg h_32]); (try rw [if_neg h_33]); (try rw [if_neg h_34]); (try rw [if_neg h_35]); (try rw [if_neg h_36]); (try rw [if_neg h_37]); (try rw [if_neg h_38]); (try rw [if_neg h_39]); (try rw [if_neg h_40]); (try rw [if_neg h_41]); (try rw [if_neg h_42]); (try rw [if_neg h_43]); (try rw [if_neg h_44]); (try rw [if_neg h_45]); (try rw [if_neg h_46]); (try rw [if_pos rfl]); try rfl), by rw [ht]; exact hP9, va_K.moved hW.alike hK9, hD9⟩, hS.F ht⟩) hS.2.2 dX3_readSign_331
    by_cases h_48 : a0 = 57
    · subst h_48
      refine lv_tableIn (off := 252) (tgt := 288) hx hb dX3_readSign_36 (by decide) (by decide) (by decide) (by decide) ?_
      refine lv_aload_n hx hb dX3_readSign_288 rfl (lv_at hl 1 rfl) ?_
      refine lv_bipush (v := 39) hx hb dX3_readSign_289 (by decide) ?_
      refine va_put (D := (dC, dI)) (ci := 3) (v := .int 39) (ty := tyX3 5) (C := RX3) (T := TX3) (N := 9) hx hb htw inlX3 tyX3 tyX3_ok nmX3 hown hK hP hD hS 0 rfl rfl 5 (by decide) (htw _ (ck_14 _ (List.mem_of_getElem? (i := 17) rfl))) (fun _ h9 => h9) rfl (by decide +kernel) rfl rfl (Nat.le_of_ble_eq_true rfl) dX3_readSign_291 (fun H locs hP hD hS => ?_)
      have hP : va_P (dC, dI) vwCl [(lx, .inr (3, [.ref lby, .int lfi, .ref lco, .int lxe, .int (lxa + 1), .int 39, .int lxp, .int lxn, .int lxl])), (lby, .inl (cBy, 900, .inl fBy))] H := hP
      have hD : va_D A [(lx, .inr (3, [.ref lby, .int lfi, .ref lco, .int lxe, .int (lxa + 1), .int 39, .int lxp, .int lxn, .int lxl])), (lby, .inl (cBy, 900, .inl fBy))] := hD
      refine lv_aload_n hx hb dX3_readSign_294 rfl (lv_at hl 1 rfl) ?_
      refine va_get (D := (dC, dI)) (ci := 3) (v := .int 39) (C := RX3) (T := TX3) (N := 9) hx hb htw inlX3 hown hK hP 0 rfl rfl 5 (by decide) (htw _ (ck_14 _ (List.mem_of_getElem? (i := 17) rfl))) (fun _ h9 => h9) rfl dX3_readSign_295 ?_
      refine lv_bipush (v := 34) hx hb dX3_readSign_298 (by decide) ?_
      refine lv_icmp_eq (tgt := 321) hx hb dX3_readSign_300 (by decide) (fun c => absurd c (by decide)) (fun _ => ?_)
      refine lv_aload_n hx hb dX3_readSign_303 rfl (lv_at hl 1 rfl) ?_
      refine va_get (D := (dC, dI)) (ci := 3) (v := .int 39) (C := RX3) (T := TX3) (N := 9) hx hb htw inlX3 hown hK hP 0 rfl rfl 5 (by decide) (htw _ (ck_14 _ (List.mem_of_getElem? (i := 17) rfl))) (fun _ h9 => h9) rfl dX3_readSign_304 ?_
      refine lv_bipush (v := 36) hx hb dX3_readSign_307 (by decide) ?_
      refine lv_icmp_eq (tgt := 321) hx hb dX3_readSign_309 (by decide) (fun c => absurd c (by decide)) (fun _ => ?_)
      refine lv_aload_n hx hb dX3_readSign_312 rfl (lv_at hl 1 rfl) ?_
      refine va_get (D := (dC, dI)) (ci := 3) (v := .int 39) (C := RX3) (T := TX3) (N := 9) hx hb htw inlX3 hown hK hP 0 rfl rfl 5 (by decide) (htw _ (ck_14 _ (List.mem_of_getElem? (i := 17) rfl))) (fun _ h9 => h9) rfl dX3_readSign_313 ?_
      refine lv_bipush (v := 37) hx hb dX3_readSign_316 (by decide) ?_
      refine lv_icmp_ne (tgt := 331) hx hb dX3_readSign_318 (by decide) (fun _ => ?_) (fun c => absurd c (by decide))
      refine W.widen (k := 0) (n := 0) (by omega) (by omega) ?_
      have hP9 := hP.sub (ws' := [(lx, .inr (3, [.ref lby, .int lfi, .ref lco, .int lxe, .int (lxa + 1), .int 39, .int lxp, .int lxn, .int lxl])), (lby, .inl (cBy, 900, .inl fBy))]) [0, 1] rfl
      have hD9 := hD.sub (ws' := [(lx, .inr (3, [.ref lby, .int lfi, .ref lco, .int lxe, .int (lxa + 1), .int 39, .int lxp, .int lxn, .int lxl])), (lby, .inl (cBy, 900, .inl fBy))]) [0, 1] (by decide) rfl
      have hK9 := hK.sub (tys' := []) [] rfl
      exact W.vret hx hb hr (fun t ht hW => ⟨⟨((lxa + 1), 39), rfl, (by rw [fe_readSign]; (try rw [if_neg c_1]); (try rw [if_neg h_28]); (try rw [if_neg h_29]); (try rw [if_neg h_30]); (try rw [if_neg h_31]); (try rw [if_neg h_32]); (try rw [if_neg h_33]); (try rw [if_neg h_34]); (try rw [if_neg h_35]); (try rw [if_neg h_36]); (try rw [if_neg h_37]); (try rw [if_neg h_38]); (try rw [if_neg h_39]); (try rw [if_neg h_40]); (try rw [if_neg h_41]); (try rw [if_neg h_42]); (try rw [if_neg h_43]); (try rw [if_neg h_44]); (try rw [if_neg h_45]); (try rw [if_neg h_46]); (try rw [if_neg h_47]); (try rw [if_pos rfl]); try rfl), by rw [ht]; exact hP9, va_K.moved hW.alike hK9, hD9⟩, hS.F ht⟩) hS.2.2 dX3_readSign_331
    by_cases h_49 : a0 = 58
    · subst h_49
      refine lv_tableIn (off := 252) (tgt := 288) hx hb dX3_readSign_36 (by decide) (by decide) (by decide) (by decide) ?_
      refine lv_aload_n hx hb dX3_readSign_288 rfl (lv_at hl 1 rfl) ?_
      refine lv_bipush (v := 39) hx hb dX3_readSign_289 (by decide) ?_
      refine va_put (D := (dC, dI)) (ci := 3) (v := .int 39) (ty := tyX3 5) (C := RX3) (T := TX3) (N := 9) hx hb htw inlX3 tyX3 tyX3_ok nmX3 hown hK hP hD hS 0 rfl rfl 5 (by decide) (htw _ (ck_14 _ (List.mem_of_getElem? (i := 17) rfl))) (fun _ h9 => h9) rfl (by decide +kernel) rfl rfl (Nat.le_of_ble_eq_true rfl) dX3_readSign_291 (fun H locs hP hD hS => ?_)
      have hP : va_P (dC, dI) vwCl [(lx, .inr (3, [.ref lby, .int lfi, .ref lco, .int lxe, .int (lxa + 1), .int 39, .int lxp, .int lxn, .int lxl])), (lby, .inl (cBy, 900, .inl fBy))] H := hP
      have hD : va_D A [(lx, .inr (3, [.ref lby, .int lfi, .ref lco, .int lxe, .int (lxa + 1), .int 39, .int lxp, .int lxn, .int lxl])), (lby, .inl (cBy, 900, .inl fBy))] := hD
      refine lv_aload_n hx hb dX3_readSign_294 rfl (lv_at hl 1 rfl) ?_
      refine va_get (D := (dC, dI)) (ci := 3) (v := .int 39) (C := RX3) (T := TX3) (N := 9) hx hb htw inlX3 hown hK hP 0 rfl rfl 5 (by decide) (htw _ (ck_14 _ (List.mem_of_getElem? (i := 17) rfl))) (fun _ h9 => h9) rfl dX3_readSign_295 ?_
      refine lv_bipush (v := 34) hx hb dX3_readSign_298 (by decide) ?_
      refine lv_icmp_eq (tgt := 321) hx hb dX3_readSign_300 (by decide) (fun c => absurd c (by decide)) (fun _ => ?_)
      refine lv_aload_n hx hb dX3_readSign_303 rfl (lv_at hl 1 rfl) ?_
      refine va_get (D := (dC, dI)) (ci := 3) (v := .int 39) (C := RX3) (T := TX3) (N := 9) hx hb htw inlX3 hown hK hP 0 rfl rfl 5 (by decide) (htw _ (ck_14 _ (List.mem_of_getElem? (i := 17) rfl))) (fun _ h9 => h9) rfl dX3_readSign_304 ?_
      refine lv_bipush (v := 36) hx hb dX3_readSign_307 (by decide) ?_
      refine lv_icmp_eq (tgt := 321) hx hb dX3_readSign_309 (by decide) (fun c => absurd c (by decide)) (fun _ => ?_)
      refine lv_aload_n hx hb dX3_readSign_312 rfl (lv_at hl 1 rfl) ?_
      refine va_get (D := (dC, dI)) (ci := 3) (v := .int 39) (C := RX3) (T := TX3) (N := 9) hx hb htw inlX3 hown hK hP 0 rfl rfl 5 (by decide) (htw _ (ck_14 _ (List.mem_of_getElem? (i := 17) rfl))) (fun _ h9 => h9) rfl dX3_readSign_313 ?_
      refine lv_bipush (v := 37) hx hb dX3_readSign_316 (by decide) ?_
      refine lv_icmp_ne (tgt := 331) hx hb dX3_readSign_318 (by decide) (fun _ => ?_) (fun c => absurd c (by decide))
      refine W.widen (k := 0) (n := 0) (by omega) (by omega) ?_
      have hP9 := hP.sub (ws' := [(lx, .inr (3, [.ref lby, .int lfi, .ref lco, .int lxe, .int (lxa + 1), .int 39, .int lxp, .int lxn, .int lxl])), (lby, .inl (cBy, 900, .inl fBy))]) [0, 1] rfl
      have hD9 := hD.sub (ws' := [(lx, .inr (3, [.ref lby, .int lfi, .ref lco, .int lxe, .int (lxa + 1), .int 39, .int lxp, .int lxn, .int lxl])), (lby, .inl (cBy, 900, .inl fBy))]) [0, 1] (by decide) rfl
      have hK9 := hK.sub (tys' := []) [] rfl
      exact W.vret hx hb hr (fun t ht hW => ⟨⟨((lxa + 1), 39), rfl, (by rw [fe_readSign]; (try rw [if_neg c_1]); (try rw [if_neg h_28]); (try rw [if_neg h_29]); (try rw [if_neg h_30]); (try rw [if_neg h_31]); (try rw [if_neg h_32]); (try rw [if_neg h_33]); (try rw [if_neg h_34]); (try rw [if_neg h_35]); (try rw [if_neg h_36]); (try rw [if_neg h_37]); (try rw [if_neg h_38]); (try rw [if_neg h_39]); (try rw [if_neg h_40]); (try rw [if_neg h_41]); (try rw [if_neg h_42]); (try rw [if_neg h_43]); (try rw [if_neg h_44]); (try rw [if_neg h_45]); (try rw [if_neg h_46]); (try rw [if_neg h_47]); (try rw [if_neg h_48]); (try rw [if_pos rfl]); try rfl), by rw [ht]; exact hP9, va_K.moved hW.alike hK9, hD9⟩, hS.F ht⟩) hS.2.2 dX3_readSign_331
    by_cases h_50 : a0 = 59
    · subst h_50
      refine lv_tableIn (off := 120) (tgt := 156) hx hb dX3_readSign_36 (by decide) (by decide) (by decide) (by decide) ?_
      refine lv_aload_n hx hb dX3_readSign_156 rfl (lv_at hl 1 rfl) ?_
      refine lv_bipush (v := 25) hx hb dX3_readSign_157 (by decide) ?_
      refine va_put (D := (dC, dI)) (ci := 3) (v := .int 25) (ty := tyX3 5) (C := RX3) (T := TX3) (N := 9) hx hb htw inlX3 tyX3 tyX3_ok nmX3 hown hK hP hD hS 0 rfl rfl 5 (by decide) (htw _ (ck_14 _ (List.mem_of_getElem? (i := 17) rfl))) (fun _ h9 => h9) rfl (by decide +kernel) rfl rfl (Nat.le_of_ble_eq_true rfl) dX3_readSign_159 (fun H locs hP hD hS => ?_)
      have hP : va_P (dC, dI) vwCl [(lx, .inr (3, [.ref lby, .int lfi, .ref lco, .int lxe, .int (lxa + 1), .int 25, .int lxp, .int lxn, .int lxl])), (lby, .inl (cBy, 900, .inl fBy))] H := hP
      have hD : va_D A [(lx, .inr (3, [.ref lby, .int lfi, .ref lco, .int lxe, .int (lxa + 1), .int 25, .int lxp, .int lxn, .int lxl])), (lby, .inl (cBy, 900, .inl fBy))] := hD
      refine lv_goto (tgt := 294) hx hb dX3_readSign_162 (by decide) ?_
      refine lv_aload_n hx hb dX3_readSign_294 rfl (lv_at hl 1 rfl) ?_
      refine va_get (D := (dC, dI)) (ci := 3) (v := .int 25) (C := RX3) (T := TX3) (N := 9) hx hb htw inlX3 hown hK hP 0 rfl rfl 5 (by decide) (htw _ (ck_14 _ (List.mem_of_getElem? (i := 17) rfl))) (fun _ h9 => h9) rfl dX3_readSign_295 ?_
      refine lv_bipush (v := 34) hx hb dX3_readSign_298 (by decide) ?_
      refine lv_icmp_eq (tgt := 321) hx hb dX3_readSign_300 (by decide) (fun c => absurd c (by decide)) (fun _ => ?_)
      refine lv_aload_n hx hb dX3_readSign_303 rfl (lv_at hl 1 rfl) ?_
      refine va_get (D := (dC, dI)) (ci := 3) (v := .int 25) (C := RX3) (T := TX3) (N := 9) hx hb htw inlX3 hown hK hP 0 rfl rfl 5 (by decide) (htw _ (ck_14 _ (List.mem_of_getElem? (i := 17) rfl))) (fun _ h9 => h9) rfl dX3_readSign_304 ?_
      refine lv_bipush (v := 36) hx hb dX3_readSign_307 (by decide) ?_
      refine lv_icmp_eq (tgt := 321) hx hb dX3_readSign_309 (by decide) (fun c => absurd c (by decide)) (fun _ => ?_)
      refine lv_aload_n hx hb dX3_readSign_312 rfl (lv_at hl 1 rfl) ?_
      refine va_get (D := (dC, dI)) (ci := 3) (v := .int 25) (C := RX3) (T := TX3) (N := 9) hx hb htw inlX3 hown hK hP 0 rfl rfl 5 (by decide) (htw _ (ck_14 _ (List.mem_of_getElem? (i := 17) rfl))) (fun _ h9 => h9) rfl dX3_readSign_313 ?_
      refine lv_bipush (v := 37) hx hb dX3_readSign_316 (by decide) ?_
      refine lv_icmp_ne (tgt := 331) hx hb dX3_readSign_318 (by decide) (fun _ => ?_) (fun c => absurd c (by decide))
      refine W.widen (k := 0) (n := 0) (by omega) (by omega) ?_
      have hP9 := hP.sub (ws' := [(lx, .inr (3, [.ref lby, .int lfi, .ref lco, .int lxe, .int (lxa + 1), .int 25, .int lxp, .int lxn, .int lxl])), (lby, .inl (cBy, 900, .inl fBy))]) [0, 1] rfl
      have hD9 := hD.sub (ws' := [(lx, .inr (3, [.ref lby, .int lfi, .ref lco, .int lxe, .int (lxa + 1), .int 25, .int lxp, .int lxn, .int lxl])), (lby, .inl (cBy, 900, .inl fBy))]) [0, 1] (by decide) rfl
      have hK9 := hK.sub (tys' := []) [] rfl
      exact W.vret hx hb hr (fun t ht hW => ⟨⟨((lxa + 1), 25), rfl, (by rw [fe_readSign]; (try rw [if_neg c_1]); (try rw [if_neg h_28]); (try rw [if_neg h_29]); (try rw [if_neg h_30]); (try rw [if_neg h_31]); (try rw [if_neg h_32]); (try rw [if_neg h_33]); (try rw [if_neg h_34]); (try rw [if_neg h_35]); (try rw [if_neg h_36]); (try rw [if_neg h_37]); (try rw [if_neg h_38]); (try rw [if_neg h_39]); (try rw [if_neg h_40]); (try rw [if_neg h_41]); (try rw [if_neg h_42]); (try rw [if_neg h_43]); (try rw [if_neg h_44]); (try rw [if_neg h_45]); (try rw [if_neg h_46]); (try rw [if_neg h_47]); (try rw [if_neg h_48]); (try rw [if_neg h_49]); (try rw [if_pos rfl]); try rfl), by rw [ht]; exact hP9, va_K.moved hW.alike hK9, hD9⟩, hS.F ht⟩) hS.2.2 dX3_readSign_331
    by_cases h_51 : a0 = 60
    · subst h_51
      refine lv_tableIn (off := 201) (tgt := 237) hx hb dX3_readSign_36 (by decide) (by decide) (by decide) (by decide) ?_
      refine lv_aload_n hx hb dX3_readSign_237 rfl (lv_at hl 1 rfl) ?_
      refine lv_iload_n hx hb dX3_readSign_238 rfl (lv_at hl 0 rfl) ?_
      refine lv_bipush (v := 61) hx hb dX3_readSign_239 (by decide) ?_
      refine lv_icmp_ne (tgt := 249) hx hb dX3_readSign_241 (by decide) (fun c_52 => ?_) (fun c_52 => ?_)
      · refine lv_iload_n hx hb dX3_readSign_249 rfl (lv_at hl 0 rfl) ?_
        refine lv_bipush (v := 62) hx hb dX3_readSign_250 (by decide) ?_
        refine lv_icmp_ne (tgt := 260) hx hb dX3_readSign_252 (by decide) (fun c_53 => ?_) (fun c_53 => ?_)
        · refine lv_bipush (v := 33) hx hb dX3_readSign_260 (by decide) ?_
          refine va_put (D := (dC, dI)) (ci := 3) (v := .int 33) (ty := tyX3 5) (C := RX3) (T := TX3) (N := 9) hx hb htw inlX3 tyX3 tyX3_ok nmX3 hown hK hP hD hS 0 rfl rfl 5 (by decide) (htw _ (ck_14 _ (List.mem_of_getElem? (i := 17) rfl))) (fun _ h9 => h9) rfl (by decide +kernel) rfl rfl (Nat.le_of_ble_eq_true rfl) dX3_readSign_262 (fun H locs hP hD hS => ?_)
          have hP : va_P (dC, dI) vwCl [(lx, .inr (3, [.ref lby, .int lfi, .ref lco, .int lxe, .int (lxa + 1), .int 33, .int lxp, .int lxn, .int lxl])), (lby, .inl (cBy, 900, .inl fBy))] H := hP
          have hD : va_D A [(lx, .inr (3, [.ref lby, .int lfi, .ref lco, .int lxe, .int (lxa + 1), .int 33, .int lxp, .int lxn, .int lxl])), (lby, .inl (cBy, 900, .inl fBy))] := hD
          refine lv_goto (tgt := 294) hx hb dX3_readSign_265 (by decide) ?_
          refine lv_aload_n hx hb dX3_readSign_294 rfl (lv_at hl 1 rfl) ?_
          refine va_get (D := (dC, dI)) (ci := 3) (v := .int 33) (C := RX3) (T := TX3) (N := 9) hx hb htw inlX3 hown hK hP 0 rfl rfl 5 (by decide) (htw _ (ck_14 _ (List.mem_of_getElem? (i := 17) rfl))) (fun _ h9 => h9) rfl dX3_readSign_295 ?_
          refine lv_bipush (v := 34) hx hb dX3_readSign_298 (by decide) ?_
          refine lv_icmp_eq (tgt := 321) hx hb dX3_readSign_300 (by decide) (fun c => absurd c (by decide)) (fun _ => ?_)
          refine lv_aload_n hx hb dX3_readSign_303 rfl (lv_at hl 1 rfl) ?_
          refine va_get (D := (dC, dI)) (ci := 3) (v := .int 33) (C := RX3) (T := TX3) (N := 9) hx hb htw inlX3 hown hK hP 0 rfl rfl 5 (by decide) (htw _ (ck_14 _ (List.mem_of_getElem? (i := 17) rfl))) (fun _ h9 => h9) rfl dX3_readSign_304 ?_
          refine lv_bipush (v := 36) hx hb dX3_readSign_307 (by decide) ?_
          refine lv_icmp_eq (tgt := 321) hx hb dX3_readSign_309 (by decide) (fun c => absurd c (by decide)) (fun _ => ?_)
          refine lv_aload_n hx hb dX3_readSign_312 rfl (lv_at hl 1 rfl) ?_
          refine va_get (D := (dC, dI)) (ci := 3) (v := .int 33) (C := RX3) (T := TX3) (N := 9) hx hb htw inlX3 hown hK hP 0 rfl rfl 5 (by decide) (htw _ (ck_14 _ (List.mem_of_getElem? (i := 17) rfl))) (fun _ h9 => h9) rfl dX3_readSign_313 ?_
          refine lv_bipush (v := 37) hx hb dX3_readSign_316 (by decide) ?_
          refine lv_icmp_ne (tgt := 331) hx hb dX3_readSign_318 (by decide) (fun _ => ?_) (fun c => absurd c (by decide))
          refine W.widen (k := 0) (n := 0) (by omega) (by omega) ?_
          have hP9 := hP.sub (ws' := [(lx, .inr (3, [.ref lby, .int lfi, .ref lco, .int lxe, .int (lxa + 1), .int 33, .int lxp, .int lxn, .int lxl])), (lby, .inl (cBy, 900, .inl fBy))]) [0, 1] rfl
          have hD9 := hD.sub (ws' := [(lx, .inr (3, [.ref lby, .int lfi, .ref lco, .int lxe, .int (lxa + 1), .int 33, .int lxp, .int lxn, .int lxl])), (lby, .inl (cBy, 900, .inl fBy))]) [0, 1] (by decide) rfl
          have hK9 := hK.sub (tys' := []) [] rfl
          exact W.vret hx hb hr (fun t ht hW => ⟨⟨((lxa + 1), 33), rfl, (by rw [fe_readSign]; (try rw [if_neg c_1]); (try rw [if_neg h_28]); (try rw [if_neg h_29]); (try rw [if_neg h_30]); (try rw [if_neg h_31]); (try rw [if_neg h_32]); (try rw [if_neg h_33]); (try rw [if_neg h_34]); (try rw [if_neg h_35]); (try rw [if_neg h_36]); (try rw [if_neg h_37]); (try rw [if_neg h_38]); (try rw [if_neg h_39]); (try rw [if_neg h_40]); (try rw [if_neg h_41]); (try rw [if_neg h_42]); (try rw [if_neg h_43]); (try rw [if_neg h_44]); (try rw [if_neg h_45]); (try rw [if_neg h_46]); (try rw [if_neg h_47]); (try rw [if_neg h_48]); (try rw [if_neg h_49]); (try rw [if_neg h_50]); (try rw [if_pos rfl]); (try rw [if_neg c_52]); (try rw [if_neg c_53]); try rfl), by rw [ht]; exact hP9, va_K.moved hW.alike hK9, hD9⟩, hS.F ht⟩) hS.2.2 dX3_readSign_331
        · refine lv_bipush (v := 36) hx hb dX3_readSign_255 (by decide) ?_
          refine lv_goto (tgt := 262) hx hb dX3_readSign_257 (by decide) ?_
          refine va_put (D := (dC, dI)) (ci := 3) (v := .int 36) (ty := tyX3 5) (C := RX3) (T := TX3) (N := 9) hx hb htw inlX3 tyX3 tyX3_ok nmX3 hown hK hP hD hS 0 rfl rfl 5 (by decide) (htw _ (ck_14 _ (List.mem_of_getElem? (i := 17) rfl))) (fun _ h9 => h9) rfl (by decide +kernel) rfl rfl (Nat.le_of_ble_eq_true rfl) dX3_readSign_262 (fun H locs hP hD hS => ?_)
          have hP : va_P (dC, dI) vwCl [(lx, .inr (3, [.ref lby, .int lfi, .ref lco, .int lxe, .int (lxa + 1), .int 36, .int lxp, .int lxn, .int lxl])), (lby, .inl (cBy, 900, .inl fBy))] H := hP
          have hD : va_D A [(lx, .inr (3, [.ref lby, .int lfi, .ref lco, .int lxe, .int (lxa + 1), .int 36, .int lxp, .int lxn, .int lxl])), (lby, .inl (cBy, 900, .inl fBy))] := hD
          refine lv_goto (tgt := 294) hx hb dX3_readSign_265 (by decide) ?_
          refine lv_aload_n hx hb dX3_readSign_294 rfl (lv_at hl 1 rfl) ?_
          refine va_get (D := (dC, dI)) (ci := 3) (v := .int 36) (C := RX3) (T := TX3) (N := 9) hx hb htw inlX3 hown hK hP 0 rfl rfl 5 (by decide) (htw _ (ck_14 _ (List.mem_of_getElem? (i := 17) rfl))) (fun _ h9 => h9) rfl dX3_readSign_295 ?_
          refine lv_bipush (v := 34) hx hb dX3_readSign_298 (by decide) ?_
          refine lv_icmp_eq (tgt := 321) hx hb dX3_readSign_300 (by decide) (fun c => absurd c (by decide)) (fun _ => ?_)
          refine lv_aload_n hx hb dX3_readSign_303 rfl (lv_at hl 1 rfl) ?_
          refine va_get (D := (dC, dI)) (ci := 3) (v := .int 36) (C := RX3) (T := TX3) (N := 9) hx hb htw inlX3 hown hK hP 0 rfl rfl 5 (by decide) (htw _ (ck_14 _ (List.mem_of_getElem? (i := 17) rfl))) (fun _ h9 => h9) rfl dX3_readSign_304 ?_
          refine lv_bipush (v := 36) hx hb dX3_readSign_307 (by decide) ?_
          refine lv_icmp_eq (tgt := 321) hx hb dX3_readSign_309 (by decide) (fun _ => ?_) (fun c => absurd c (by decide))
          refine lv_aload_n hx hb dX3_readSign_321 rfl (lv_at hl 1 rfl) ?_
          refine lv_dup hx hb dX3_readSign_322 rfl ?_
          refine va_get (D := (dC, dI)) (ci := 3) (v := .int (lxa + 1)) (C := RX3) (T := TX3) (N := 9) hx hb htw inlX3 hown hK hP 0 rfl rfl 4 (by decide) (htw _ (ck_14 _ (List.mem_of_getElem? (i := 11) rfl))) (fun _ h9 => h9) rfl dX3_readSign_323 ?_
          refine lv_iconst (v := 1) hx hb dX3_readSign_326 (by decide) ?_
          refine lv_iadd hx hb dX3_readSign_327 ?_
          refine va_put (D := (dC, dI)) (ci := 3) (v := .int ((lxa + 1) + 1)) (ty := tyX3 4) (C := RX3) (T := TX3) (N := 9) hx hb htw inlX3 tyX3 tyX3_ok nmX3 hown hK hP hD hS 0 rfl rfl 4 (by decide) (htw _ (ck_14 _ (List.mem_of_getElem? (i := 11) rfl))) (fun _ h9 => h9) rfl (by decide +kernel) rfl rfl (Nat.le_of_ble_eq_true rfl) dX3_readSign_328 (fun H locs hP hD hS => ?_)
          have hP : va_P (dC, dI) vwCl [(lx, .inr (3, [.ref lby, .int lfi, .ref lco, .int lxe, .int ((lxa + 1) + 1), .int 36, .int lxp, .int lxn, .int lxl])), (lby, .inl (cBy, 900, .inl fBy))] H := hP
          have hD : va_D A [(lx, .inr (3, [.ref lby, .int lfi, .ref lco, .int lxe, .int ((lxa + 1) + 1), .int 36, .int lxp, .int lxn, .int lxl])), (lby, .inl (cBy, 900, .inl fBy))] := hD
          refine W.widen (k := 0) (n := 0) (by omega) (by omega) ?_
          have hP9 := hP.sub (ws' := [(lx, .inr (3, [.ref lby, .int lfi, .ref lco, .int lxe, .int ((lxa + 1) + 1), .int 36, .int lxp, .int lxn, .int lxl])), (lby, .inl (cBy, 900, .inl fBy))]) [0, 1] rfl
          have hD9 := hD.sub (ws' := [(lx, .inr (3, [.ref lby, .int lfi, .ref lco, .int lxe, .int ((lxa + 1) + 1), .int 36, .int lxp, .int lxn, .int lxl])), (lby, .inl (cBy, 900, .inl fBy))]) [0, 1] (by decide) rfl
          have hK9 := hK.sub (tys' := []) [] rfl
          exact W.vret hx hb hr (fun t ht hW => ⟨⟨(((lxa + 1) + 1), 36), rfl, (by rw [fe_readSign]; (try rw [if_neg c_1]); (try rw [if_neg h_28]); (try rw [if_neg h_29]); (try rw [if_neg h_30]); (try rw [if_neg h_31]); (try rw [if_neg h_32]); (try rw [if_neg h_33]); (try rw [if_neg h_34]); (try rw [if_neg h_35]); (try rw [if_neg h_36]); (try rw [if_neg h_37]); (try rw [if_neg h_38]); (try rw [if_neg h_39]); (try rw [if_neg h_40]); (try rw [if_neg h_41]); (try rw [if_neg h_42]); (try rw [if_neg h_43]); (try rw [if_neg h_44]); (try rw [if_neg h_45]); (try rw [if_neg h_46]); (try rw [if_neg h_47]); (try rw [if_neg h_48]); (try rw [if_neg h_49]); (try rw [if_neg h_50]); (try rw [if_pos rfl]); (try rw [if_neg c_52]); (try rw [if_pos c_53]); try rfl), by rw [ht]; exact hP9, va_K.moved hW.alike hK9, hD9⟩, hS.F ht⟩) hS.2.2 dX3_readSign_331
      · refine lv_bipush (v := 34) hx hb dX3_readSign_244 (by decide) ?_
        refine lv_goto (tgt := 262) hx hb dX3_readSign_246 (by decide) ?_
        refine va_put (D := (dC, dI)) (ci := 3) (v := .int 34) (ty := tyX3 5) (C := RX3) (T := TX3) (N := 9) hx hb htw inlX3 tyX3 tyX3_ok nmX3 hown hK hP hD hS 0 rfl rfl 5 (by decide) (htw _ (ck_14 _ (List.mem_of_getElem? (i := 17) rfl))) (fun _ h9 => h9) rfl (by decide +kernel) rfl rfl (Nat.le_of_ble_eq_true rfl) dX3_readSign_262 (fun H locs hP hD hS => ?_)
        have hP : va_P (dC, dI) vwCl [(lx, .inr (3, [.ref lby, .int lfi, .ref lco, .int lxe, .int (lxa + 1), .int 34, .int lxp, .int lxn, .int lxl])), (lby, .inl (cBy, 900, .inl fBy))] H := hP
        have hD : va_D A [(lx, .inr (3, [.ref lby, .int lfi, .ref lco, .int lxe, .int (lxa + 1), .int 34, .int lxp, .int lxn, .int lxl])), (lby, .inl (cBy, 900, .inl fBy))] := hD
        refine lv_goto (tgt := 294) hx hb dX3_readSign_265 (by decide) ?_
        refine lv_aload_n hx hb dX3_readSign_294 rfl (lv_at hl 1 rfl) ?_
        refine va_get (D := (dC, dI)) (ci := 3) (v := .int 34) (C := RX3) (T := TX3) (N := 9) hx hb htw inlX3 hown hK hP 0 rfl rfl 5 (by decide) (htw _ (ck_14 _ (List.mem_of_getElem? (i := 17) rfl))) (fun _ h9 => h9) rfl dX3_readSign_295 ?_
        refine lv_bipush (v := 34) hx hb dX3_readSign_298 (by decide) ?_
        refine lv_icmp_eq (tgt := 321) hx hb dX3_readSign_300 (by decide) (fun _ => ?_) (fun c => absurd c (by decide))
        refine lv_aload_n hx hb dX3_readSign_321 rfl (lv_at hl 1 rfl) ?_
        refine lv_dup hx hb dX3_readSign_322 rfl ?_
        refine va_get (D := (dC, dI)) (ci := 3) (v := .int (lxa + 1)) (C := RX3) (T := TX3) (N := 9) hx hb htw inlX3 hown hK hP 0 rfl rfl 4 (by decide) (htw _ (ck_14 _ (List.mem_of_getElem? (i := 11) rfl))) (fun _ h9 => h9) rfl dX3_readSign_323 ?_
        refine lv_iconst (v := 1) hx hb dX3_readSign_326 (by decide) ?_
        refine lv_iadd hx hb dX3_readSign_327 ?_
        refine va_put (D := (dC, dI)) (ci := 3) (v := .int ((lxa + 1) + 1)) (ty := tyX3 4) (C := RX3) (T := TX3) (N := 9) hx hb htw inlX3 tyX3 tyX3_ok nmX3 hown hK hP hD hS 0 rfl rfl 4 (by decide) (htw _ (ck_14 _ (List.mem_of_getElem? (i := 11) rfl))) (fun _ h9 => h9) rfl (by decide +kernel) rfl rfl (Nat.le_of_ble_eq_true rfl) dX3_readSign_328 (fun H locs hP hD hS => ?_)
        have hP : va_P (dC, dI) vwCl [(lx, .inr (3, [.ref lby, .int lfi, .ref lco, .int lxe, .int ((lxa + 1) + 1), .int 34, .int lxp, .int lxn, .int lxl])), (lby, .inl (cBy, 900, .inl fBy))] H := hP
        have hD : va_D A [(lx, .inr (3, [.ref lby, .int lfi, .ref lco, .int lxe, .int ((lxa + 1) + 1), .int 34, .int lxp, .int lxn, .int lxl])), (lby, .inl (cBy, 900, .inl fBy))] := hD
        refine W.widen (k := 0) (n := 0) (by omega) (by omega) ?_
        have hP9 := hP.sub (ws' := [(lx, .inr (3, [.ref lby, .int lfi, .ref lco, .int lxe, .int ((lxa + 1) + 1), .int 34, .int lxp, .int lxn, .int lxl])), (lby, .inl (cBy, 900, .inl fBy))]) [0, 1] rfl
        have hD9 := hD.sub (ws' := [(lx, .inr (3, [.ref lby, .int lfi, .ref lco, .int lxe, .int ((lxa + 1) + 1), .int 34, .int lxp, .int lxn, .int lxl])), (lby, .inl (cBy, 900, .inl fBy))]) [0, 1] (by decide) rfl
        have hK9 := hK.sub (tys' := []) [] rfl
        exact W.vret hx hb hr (fun t ht hW => ⟨⟨(((lxa + 1) + 1), 34), rfl, (by rw [fe_readSign]; (try rw [if_neg c_1]); (try rw [if_neg h_28]); (try rw [if_neg h_29]); (try rw [if_neg h_30]); (try rw [if_neg h_31]); (try rw [if_neg h_32]); (try rw [if_neg h_33]); (try rw [if_neg h_34]); (try rw [if_neg h_35]); (try rw [if_neg h_36]); (try rw [if_neg h_37]); (try rw [if_neg h_38]); (try rw [if_neg h_39]); (try rw [if_neg h_40]); (try rw [if_neg h_41]); (try rw [if_neg h_42]); (try rw [if_neg h_43]); (try rw [if_neg h_44]); (try rw [if_neg h_45]); (try rw [if_neg h_46]); (try rw [if_neg h_47]); (try rw [if_neg h_48]); (try rw [if_neg h_49]); (try rw [if_neg h_50]); (try rw [if_pos rfl]); (try rw [if_pos c_52]); try rfl), by rw [ht]; exact hP9, va_K.moved hW.alike hK9, hD9⟩, hS.F ht⟩) hS.2.2 dX3_readSign_331
    by_cases h_54 : a0 = 61
    · subst h_54
      refine lv_tableIn (off := 192) (tgt := 228) hx hb dX3_readSign_36 (by decide) (by decide) (by decide) (by decide) ?_
      refine lv_aload_n hx hb dX3_readSign_228 rfl (lv_at hl 1 rfl) ?_
      refine lv_bipush (v := 35) hx hb dX3_readSign_229 (by decide) ?_
      refine va_put (D := (dC, dI)) (ci := 3) (v := .int 35) (ty := tyX3 5) (C := RX3) (T := TX3) (N := 9) hx hb htw inlX3 tyX3 tyX3_ok nmX3 hown hK hP hD hS 0 rfl rfl 5 (by decide) (htw _ (ck_14 _ (List.mem_of_getElem? (i := 17) rfl))) (fun _ h9 => h9) rfl (by decide +kernel) rfl rfl (Nat.le_of_ble_eq_true rfl) dX3_readSign_231 (fun H locs hP hD hS => ?_)
      have hP : va_P (dC, dI) vwCl [(lx, .inr (3, [.ref lby, .int lfi, .ref lco, .int lxe, .int (lxa + 1), .int 35, .int lxp, .int lxn, .int lxl])), (lby, .inl (cBy, 900, .inl fBy))] H := hP
      have hD : va_D A [(lx, .inr (3, [.ref lby, .int lfi, .ref lco, .int lxe, .int (lxa + 1), .int 35, .int lxp, .int lxn, .int lxl])), (lby, .inl (cBy, 900, .inl fBy))] := hD
      refine lv_goto (tgt := 294) hx hb dX3_readSign_234 (by decide) ?_
      refine lv_aload_n hx hb dX3_readSign_294 rfl (lv_at hl 1 rfl) ?_
      refine va_get (D := (dC, dI)) (ci := 3) (v := .int 35) (C := RX3) (T := TX3) (N := 9) hx hb htw inlX3 hown hK hP 0 rfl rfl 5 (by decide) (htw _ (ck_14 _ (List.mem_of_getElem? (i := 17) rfl))) (fun _ h9 => h9) rfl dX3_readSign_295 ?_
      refine lv_bipush (v := 34) hx hb dX3_readSign_298 (by decide) ?_
      refine lv_icmp_eq (tgt := 321) hx hb dX3_readSign_300 (by decide) (fun c => absurd c (by decide)) (fun _ => ?_)
      refine lv_aload_n hx hb dX3_readSign_303 rfl (lv_at hl 1 rfl) ?_
      refine va_get (D := (dC, dI)) (ci := 3) (v := .int 35) (C := RX3) (T := TX3) (N := 9) hx hb htw inlX3 hown hK hP 0 rfl rfl 5 (by decide) (htw _ (ck_14 _ (List.mem_of_getElem? (i := 17) rfl))) (fun _ h9 => h9) rfl dX3_readSign_304 ?_
      refine lv_bipush (v := 36) hx hb dX3_readSign_307 (by decide) ?_
      refine lv_icmp_eq (tgt := 321) hx hb dX3_readSign_309 (by decide) (fun c => absurd c (by decide)) (fun _ => ?_)
      refine lv_aload_n hx hb dX3_readSign_312 rfl (lv_at hl 1 rfl) ?_
      refine va_get (D := (dC, dI)) (ci := 3) (v := .int 35) (C := RX3) (T := TX3) (N := 9) hx hb htw inlX3 hown hK hP 0 rfl rfl 5 (by decide) (htw _ (ck_14 _ (List.mem_of_getElem? (i := 17) rfl))) (fun _ h9 => h9) rfl dX3_readSign_313 ?_
      refine lv_bipush (v := 37) hx hb dX3_readSign_316 (by decide) ?_
      refine lv_icmp_ne (tgt := 331) hx hb dX3_readSign_318 (by decide) (fun _ => ?_) (fun c => absurd c (by decide))
      refine W.widen (k := 0) (n := 0) (by omega) (by omega) ?_
      have hP9 := hP.sub (ws' := [(lx, .inr (3, [.ref lby, .int lfi, .ref lco, .int lxe, .int (lxa + 1), .int 35, .int lxp, .int lxn, .int lxl])), (lby, .inl (cBy, 900, .inl fBy))]) [0, 1] rfl
      have hD9 := hD.sub (ws' := [(lx, .inr (3, [.ref lby, .int lfi, .ref lco, .int lxe, .int (lxa + 1), .int 35, .int lxp, .int lxn, .int lxl])), (lby, .inl (cBy, 900, .inl fBy))]) [0, 1] (by decide) rfl
      have hK9 := hK.sub (tys' := []) [] rfl
      exact W.vret hx hb hr (fun t ht hW => ⟨⟨((lxa + 1), 35), rfl, (by rw [fe_readSign]; (try rw [if_neg c_1]); (try rw [if_neg h_28]); (try rw [if_neg h_29]); (try rw [if_neg h_30]); (try rw [if_neg h_31]); (try rw [if_neg h_32]); (try rw [if_neg h_33]); (try rw [if_neg h_34]); (try rw [if_neg h_35]); (try rw [if_neg h_36]); (try rw [if_neg h_37]); (try rw [if_neg h_38]); (try rw [if_neg h_39]); (try rw [if_neg h_40]); (try rw [if_neg h_41]); (try rw [if_neg h_42]); (try rw [if_neg h_43]); (try rw [if_neg h_44]); (try rw [if_neg h_45]); (try rw [if_neg h_46]); (try rw [if_neg h_47]); (try rw [if_neg h_48]); (try rw [if_neg h_49]); (try rw [if_neg h_50]); (try rw [if_neg h_51]); (try rw [if_pos rfl]); try rfl), by rw [ht]; exact hP9, va_K.moved hW.alike hK9, hD9⟩, hS.F ht⟩) hS.2.2 dX3_readSign_331
    by_cases h_55 : a0 = 62
    · subst h_55
      refine lv_tableIn (off := 232) (tgt := 268) hx hb dX3_readSign_36 (by decide) (by decide) (by decide) (by decide) ?_
      refine lv_aload_n hx hb dX3_readSign_268 rfl (lv_at hl 1 rfl) ?_
      refine lv_iload_n hx hb dX3_readSign_269 rfl (lv_at hl 0 rfl) ?_
      refine lv_bipush (v := 61) hx hb dX3_readSign_270 (by decide) ?_
      refine lv_icmp_ne (tgt := 280) hx hb dX3_readSign_272 (by decide) (fun c_56 => ?_) (fun c_56 => ?_)
      · refine lv_bipush (v := 38) hx hb dX3_readSign_280 (by decide) ?_
        refine va_put (D := (dC, dI)) (ci := 3) (v := .int 38) (ty := tyX3 5) (C := RX3) (T := TX3) (N := 9) hx hb htw inlX3 tyX3 tyX3_ok nmX3 hown hK hP hD hS 0 rfl rfl 5 (by decide) (htw _ (ck_14 _ (List.mem_of_getElem? (i := 17) rfl))) (fun _ h9 => h9) rfl (by decide +kernel) rfl rfl (Nat.le_of_ble_eq_true rfl) dX3_readSign_282 (fun H locs hP hD hS => ?_)
        have hP : va_P (dC, dI) vwCl [(lx, .inr (3, [.ref lby, .int lfi, .ref lco, .int lxe, .int (lxa + 1), .int 38, .int lxp, .int lxn, .int lxl])), (lby, .inl (cBy, 900, .inl fBy))] H := hP
        have hD : va_D A [(lx, .inr (3, [.ref lby, .int lfi, .ref lco, .int lxe, .int (lxa + 1), .int 38, .int lxp, .int lxn, .int lxl])), (lby, .inl (cBy, 900, .inl fBy))] := hD
        refine lv_goto (tgt := 294) hx hb dX3_readSign_285 (by decide) ?_
        refine lv_aload_n hx hb dX3_readSign_294 rfl (lv_at hl 1 rfl) ?_
        refine va_get (D := (dC, dI)) (ci := 3) (v := .int 38) (C := RX3) (T := TX3) (N := 9) hx hb htw inlX3 hown hK hP 0 rfl rfl 5 (by decide) (htw _ (ck_14 _ (List.mem_of_getElem? (i := 17) rfl))) (fun _ h9 => h9) rfl dX3_readSign_295 ?_
        refine lv_bipush (v := 34) hx hb dX3_readSign_298 (by decide) ?_
        refine lv_icmp_eq (tgt := 321) hx hb dX3_readSign_300 (by decide) (fun c => absurd c (by decide)) (fun _ => ?_)
        refine lv_aload_n hx hb dX3_readSign_303 rfl (lv_at hl 1 rfl) ?_
        refine va_get (D := (dC, dI)) (ci := 3) (v := .int 38) (C := RX3) (T := TX3) (N := 9) hx hb htw inlX3 hown hK hP 0 rfl rfl 5 (by decide) (htw _ (ck_14 _ (List.mem_of_getElem? (i := 17) rfl))) (fun _ h9 => h9) rfl dX3_readSign_304 ?_
        refine lv_bipush (v := 36) hx hb dX3_readSign_307 (by decide) ?_
        refine lv_icmp_eq (tgt := 321) hx hb dX3_readSign_309 (by decide) (fun c => absurd c (by decide)) (fun _ => ?_)
        refine lv_aload_n hx hb dX3_readSign_312 rfl (lv_at hl 1 rfl) ?_
        refine va_get (D := (dC, dI)) (ci := 3) (v := .int 38) (C := RX3) (T := TX3) (N := 9) hx hb htw inlX3 hown hK hP 0 rfl rfl 5 (by decide) (htw _ (ck_14 _ (List.mem_of_getElem? (i := 17) rfl))) (fun _ h9 => h9) rfl dX3_readSign_313 ?_
        refine lv_bipush (v := 37) hx hb dX3_readSign_316 (by decide) ?_
        refine lv_icmp_ne (tgt := 331) hx hb dX3_readSign_318 (by decide) (fun _ => ?_) (fun c => absurd c (by decide))
        refine W.widen (k := 0) (n := 0) (by omega) (by omega) ?_
        have hP9 := hP.sub (ws' := [(lx, .inr (3, [.ref lby, .int lfi, .ref lco, .int lxe, .int (lxa + 1), .int 38, .int lxp, .int lxn, .int lxl])), (lby, .inl (cBy, 900, .inl fBy))]) [0, 1] rfl
        have hD9 := hD.sub (ws' := [(lx, .inr (3, [.ref lby, .int lfi, .ref lco, .int lxe, .int (lxa + 1), .int 38, .int lxp, .int lxn, .int lxl])), (lby, .inl (cBy, 900, .inl fBy))]) [0, 1] (by decide) rfl
        have hK9 := hK.sub (tys' := []) [] rfl
        exact W.vret hx hb hr (fun t ht hW => ⟨⟨((lxa + 1), 38), rfl, (by rw [fe_readSign]; (try rw [if_neg c_1]); (try rw [if_neg h_28]); (try rw [if_neg h_29]); (try rw [if_neg h_30]); (try rw [if_neg h_31]); (try rw [if_neg h_32]); (try rw [if_neg h_33]); (try rw [if_neg h_34]); (try rw [if_neg h_35]); (try rw [if_neg h_36]); (try rw [if_neg h_37]); (try rw [if_neg h_38]); (try rw [if_neg h_39]); (try rw [if_neg h_40]); (try rw [if_neg h_41]); (try rw [if_neg h_42]); (try rw [if_neg h_43]); (try rw [if_neg h_44]); (try rw [if_neg h_45]); (try rw [if_neg h_46]); (try rw [if_neg h_47]); (try rw [if_neg h_48]); (try rw [if_neg h_49]); (try rw [if_neg h_50]); (try rw [if_neg h_51]); (try rw [if_neg h_54]); (try rw [if_pos rfl]); (try rw [if_neg c_56]); try rfl), by rw [ht]; exact hP9, va_K.moved hW.alike hK9, hD9⟩, hS.F ht⟩) hS.2.2 dX3_readSign_331
      · refine lv_bipush (v := 37) hx hb dX3_readSign_275 (by decide) ?_
        refine lv_goto (tgt := 282) hx hb dX3_readSign_277 (by decide) ?_
        refine va_put (D := (dC, dI)) (ci := 3) (v := .int 37) (ty := tyX3 5) (C := RX3) (T := TX3) (N := 9) hx hb htw inlX3 tyX3 tyX3_ok nmX3 hown hK hP hD hS 0 rfl rfl 5 (by decide) (htw _ (ck_14 _ (List.mem_of_getElem? (i := 17) rfl))) (fun _ h9 => h9) rfl (by decide +kernel) rfl rfl (Nat.le_of_ble_eq_true rfl) dX3_readSign_282 (fun H locs hP hD hS => ?_)
        have hP : va_P (dC, dI) vwCl [(lx, .inr (3, [.ref lby, .int lfi, .ref lco, .int lxe, .int (lxa + 1), .int 37, .int lxp, .int lxn, .int lxl])), (lby, .inl (cBy, 900, .inl fBy))] H := hP
        have hD : va_D A [(lx, .inr (3, [.ref lby, .int lfi, .ref lco, .int lxe, .int (lxa + 1), .int 37, .int lxp, .int lxn, .int lxl])), (lby, .inl (cBy, 900, .inl fBy))] := hD
        refine lv_goto (tgt := 294) hx hb dX3_readSign_285 (by decide) ?_
        refine lv_aload_n hx hb dX3_readSign_294 rfl (lv_at hl 1 rfl) ?_
        refine va_get (D := (dC, dI)) (ci := 3) (v := .int 37) (C := RX3) (T := TX3) (N := 9) hx hb htw inlX3 hown hK hP 0 rfl rfl 5 (by decide) (htw _ (ck_14 _ (List.mem_of_getElem? (i := 17) rfl))) (fun _ h9 => h9) rfl dX3_readSign_295 ?_
        refine lv_bipush (v := 34) hx hb dX3_readSign_298 (by decide) ?_
        refine lv_icmp_eq (tgt := 321) hx hb dX3_readSign_300 (by decide) (fun c => absurd c (by decide)) (fun _ => ?_)
        refine lv_aload_n hx hb dX3_readSign_303 rfl (lv_at hl 1 rfl) ?_
        refine va_get (D := (dC, dI)) (ci := 3) (v := .int 37) (C := RX3) (T := TX3) (N := 9) hx hb htw inlX3 hown hK hP 0 rfl rfl 5 (by decide) (htw _ (ck_14 _ (List.mem_of_getElem? (i := 17) rfl))) (fun _ h9 => h9) rfl dX3_readSign_304 ?_
        refine lv_bipush (v := 36) hx hb dX3_readSign_307 (by decide) ?_
        refine lv_icmp_eq (tgt := 321) hx hb dX3_readSign_309 (by decide) (fun c => absurd c (by decide)) (fun _ => ?_)
        refine lv_aload_n hx hb dX3_readSign_312 rfl (lv_at hl 1 rfl) ?_
        refine va_get (D := (dC, dI)) (ci := 3) (v := .int 37) (C := RX3) (T := TX3) (N := 9) hx hb htw inlX3 hown hK hP 0 rfl rfl 5 (by decide) (htw _ (ck_14 _ (List.mem_of_getElem? (i := 17) rfl))) (fun _ h9 => h9) rfl dX3_readSign_313 ?_
        refine lv_bipush (v := 37) hx hb dX3_readSign_316 (by decide) ?_
        refine lv_icmp_ne (tgt := 331) hx hb dX3_readSign_318 (by decide) (fun c => absurd c (by decide)) (fun _ => ?_)
        refine lv_aload_n hx hb dX3_readSign_321 rfl (lv_at hl 1 rfl) ?_
        refine lv_dup hx hb dX3_readSign_322 rfl ?_
        refine va_get (D := (dC, dI)) (ci := 3) (v := .int (lxa + 1)) (C := RX3) (T := TX3) (N := 9) hx hb htw inlX3 hown hK hP 0 rfl rfl 4 (by decide) (htw _ (ck_14 _ (List.mem_of_getElem? (i := 11) rfl))) (fun _ h9 => h9) rfl dX3_readSign_323 ?_
        refine lv_iconst (v := 1) hx hb dX3_readSign_326 (by decide) ?_
        refine lv_iadd hx hb dX3_readSign_327 ?_
        refine va_put (D := (dC, dI)) (ci := 3) (v := .int ((lxa + 1) + 1)) (ty := tyX3 4) (C := RX3) (T := TX3) (N := 9) hx hb htw inlX3 tyX3 tyX3_ok nmX3 hown hK hP hD hS 0 rfl rfl 4 (by decide) (htw _ (ck_14 _ (List.mem_of_getElem? (i := 11) rfl))) (fun _ h9 => h9) rfl (by decide +kernel) rfl rfl (Nat.le_of_ble_eq_true rfl) dX3_readSign_328 (fun H locs hP hD hS => ?_)
        have hP : va_P (dC, dI) vwCl [(lx, .inr (3, [.ref lby, .int lfi, .ref lco, .int lxe, .int ((lxa + 1) + 1), .int 37, .int lxp, .int lxn, .int lxl])), (lby, .inl (cBy, 900, .inl fBy))] H := hP
        have hD : va_D A [(lx, .inr (3, [.ref lby, .int lfi, .ref lco, .int lxe, .int ((lxa + 1) + 1), .int 37, .int lxp, .int lxn, .int lxl])), (lby, .inl (cBy, 900, .inl fBy))] := hD
        refine W.widen (k := 0) (n := 0) (by omega) (by omega) ?_
        have hP9 := hP.sub (ws' := [(lx, .inr (3, [.ref lby, .int lfi, .ref lco, .int lxe, .int ((lxa + 1) + 1), .int 37, .int lxp, .int lxn, .int lxl])), (lby, .inl (cBy, 900, .inl fBy))]) [0, 1] rfl
        have hD9 := hD.sub (ws' := [(lx, .inr (3, [.ref lby, .int lfi, .ref lco, .int lxe, .int ((lxa + 1) + 1), .int 37, .int lxp, .int lxn, .int lxl])), (lby, .inl (cBy, 900, .inl fBy))]) [0, 1] (by decide) rfl
        have hK9 := hK.sub (tys' := []) [] rfl
        exact W.vret hx hb hr (fun t ht hW => ⟨⟨(((lxa + 1) + 1), 37), rfl, (by rw [fe_readSign]; (try rw [if_neg c_1]); (try rw [if_neg h_28]); (try rw [if_neg h_29]); (try rw [if_neg h_30]); (try rw [if_neg h_31]); (try rw [if_neg h_32]); (try rw [if_neg h_33]); (try rw [if_neg h_34]); (try rw [if_neg h_35]); (try rw [if_neg h_36]); (try rw [if_neg h_37]); (try rw [if_neg h_38]); (try rw [if_neg h_39]); (try rw [if_neg h_40]); (try rw [if_neg h_41]); (try rw [if_neg h_42]); (try rw [if_neg h_43]); (try rw [if_neg h_44]); (try rw [if_neg h_45]); (try rw [if_neg h_46]); (try rw [if_neg h_47]); (try rw [if_neg h_48]); (try rw [if_neg h_49]); (try rw [if_neg h_50]); (try rw [if_neg h_51]); (try rw [if_neg h_54]); (try rw [if_pos rfl]); (try rw [if_pos c_56]); try rfl), by rw [ht]; exact hP9, va_K.moved hW.alike hK9, hD9⟩, hS.F ht⟩) hS.2.2 dX3_readSign_331
    refine lv_tableOut (tgt := 288) hx hb dX3_readSign_36 (by have a0 := xg_ne h_28; have a1 := xg_ne h_29; have a2 := xg_ne h_30; have a3 := xg_ne h_31; have a4 := xg_ne h_32; have a5 := xg_ne h_33; have a6 := xg_ne h_34; have a7 := xg_ne h_35; have a8 := xg_ne h_36; have a9 := xg_ne h_37; have a10 := xg_ne h_38; have a11 := xg_ne h_39; have a12 := xg_ne h_40; have a13 := xg_ne h_41; have a14 := xg_ne h_42; have a15 := xg_ne h_43; have a16 := xg_ne h_44; have a17 := xg_ne h_45; have a18 := xg_ne h_46; have a19 := xg_ne h_47; have a20 := xg_ne h_48; have a21 := xg_ne h_49; have a22 := xg_ne h_50; have a23 := xg_ne h_51; have a24 := xg_ne h_54; have a25 := xg_ne h_55; have b0 : (37 : Int32).toInt = 37 := rfl; have b1 : (38 : Int32).toInt = 38 := rfl; have b2 : (39 : Int32).toInt = 39 := rfl; have b3 : (40 : Int32).toInt = 40 := rfl; have b4 : (41 : Int32).toInt = 41 := rfl; have b5 : (42 : Int32).toInt = 42 := rfl; have b6 : (43 : Int32).toInt = 43 := rfl; have b7 : (44 : Int32).toInt = 44 := rfl; have b8 : (45 : Int32).toInt = 45 := rfl; have b9 : (46 : Int32).toInt = 46 := rfl; have b10 : (47 : Int32).toInt = 47 := rfl; have b11 : (48 : Int32).toInt = 48 := rfl; have b12 : (49 : Int32).toInt = 49 := rfl; have b13 : (50 : Int32).toInt = 50 := rfl; have b14 : (51 : Int32).toInt = 51 := rfl; have b15 : (52 : Int32).toInt = 52 := rfl; have b16 : (53 : Int32).toInt = 53 := rfl; have b17 : (54 : Int32).toInt = 54 := rfl; have b18 : (55 : Int32).toInt = 55 := rfl; have b19 : (56 : Int32).toInt = 56 := rfl; have b20 : (57 : Int32).toInt = 57 := rfl; have b21 : (58 : Int32).toInt = 58 := rfl; have b22 : (59 : Int32).toInt = 59 := rfl; have b23 : (60 : Int32).toInt = 60 := rfl; have b24 : (61 : Int32).toInt = 61 := rfl; have b25 : (62 : Int32).toInt = 62 := rfl; omega) (by decide) ?_
    refine lv_aload_n hx hb dX3_readSign_288 rfl (lv_at hl 1 rfl) ?_
    refine lv_bipush (v := 39) hx hb dX3_readSign_289 (by decide) ?_
    refine va_put (D := (dC, dI)) (ci := 3) (v := .int 39) (ty := tyX3 5) (C := RX3) (T := TX3) (N := 9) hx hb htw inlX3 tyX3 tyX3_ok nmX3 hown hK hP hD hS 0 rfl rfl 5 (by decide) (htw _ (ck_14 _ (List.mem_of_getElem? (i := 17) rfl))) (fun _ h9 => h9) rfl (by decide +kernel) rfl rfl (Nat.le_of_ble_eq_true rfl) dX3_readSign_291 (fun H locs hP hD hS => ?_)
    have hP : va_P (dC, dI) vwCl [(lx, .inr (3, [.ref lby, .int lfi, .ref lco, .int lxe, .int (lxa + 1), .int 39, .int lxp, .int lxn, .int lxl])), (lby, .inl (cBy, 900, .inl fBy))] H := hP
    have hD : va_D A [(lx, .inr (3, [.ref lby, .int lfi, .ref lco, .int lxe, .int (lxa + 1), .int 39, .int lxp, .int lxn, .int lxl])), (lby, .inl (cBy, 900, .inl fBy))] := hD
    refine lv_aload_n hx hb dX3_readSign_294 rfl (lv_at hl 1 rfl) ?_
    refine va_get (D := (dC, dI)) (ci := 3) (v := .int 39) (C := RX3) (T := TX3) (N := 9) hx hb htw inlX3 hown hK hP 0 rfl rfl 5 (by decide) (htw _ (ck_14 _ (List.mem_of_getElem? (i := 17) rfl))) (fun _ h9 => h9) rfl dX3_readSign_295 ?_
    refine lv_bipush (v := 34) hx hb dX3_readSign_298 (by decide) ?_
    refine lv_icmp_eq (tgt := 321) hx hb dX3_readSign_300 (by decide) (fun c => absurd c (by decide)) (fun _ => ?_)
    refine lv_aload_n hx hb dX3_readSign_303 rfl (lv_at hl 1 rfl) ?_
    refine va_get (D := (dC, dI)) (ci := 3) (v := .int 39) (C := RX3) (T := TX3) (N := 9) hx hb htw inlX3 hown hK hP 0 rfl rfl 5 (by decide) (htw _ (ck_14 _ (List.mem_of_getElem? (i := 17) rfl))) (fun _ h9 => h9) rfl dX3_readSign_304 ?_
    refine lv_bipush (v := 36) hx hb dX3_readSign_307 (by decide) ?_
    refine lv_icmp_eq (tgt := 321) hx hb dX3_readSign_309 (by decide) (fun c => absurd c (by decide)) (fun _ => ?_)
    refine lv_aload_n hx hb dX3_readSign_312 rfl (lv_at hl 1 rfl) ?_
    refine va_get (D := (dC, dI)) (ci := 3) (v := .int 39) (C := RX3) (T := TX3) (N := 9) hx hb htw inlX3 hown hK hP 0 rfl rfl 5 (by decide) (htw _ (ck_14 _ (List.mem_of_getElem? (i := 17) rfl))) (fun _ h9 => h9) rfl dX3_readSign_313 ?_
    refine lv_bipush (v := 37) hx hb dX3_readSign_316 (by decide) ?_
    refine lv_icmp_ne (tgt := 331) hx hb dX3_readSign_318 (by decide) (fun _ => ?_) (fun c => absurd c (by decide))
    refine W.widen (k := 0) (n := 0) (by omega) (by omega) ?_
    have hP9 := hP.sub (ws' := [(lx, .inr (3, [.ref lby, .int lfi, .ref lco, .int lxe, .int (lxa + 1), .int 39, .int lxp, .int lxn, .int lxl])), (lby, .inl (cBy, 900, .inl fBy))]) [0, 1] rfl
    have hD9 := hD.sub (ws' := [(lx, .inr (3, [.ref lby, .int lfi, .ref lco, .int lxe, .int (lxa + 1), .int 39, .int lxp, .int lxn, .int lxl])), (lby, .inl (cBy, 900, .inl fBy))]) [0, 1] (by decide) rfl
    have hK9 := hK.sub (tys' := []) [] rfl
    exact W.vret hx hb hr (fun t ht hW => ⟨⟨((lxa + 1), 39), rfl, (by rw [fe_readSign]; (try rw [if_neg c_1]); (try rw [if_neg h_28]); (try rw [if_neg h_29]); (try rw [if_neg h_30]); (try rw [if_neg h_31]); (try rw [if_neg h_32]); (try rw [if_neg h_33]); (try rw [if_neg h_34]); (try rw [if_neg h_35]); (try rw [if_neg h_36]); (try rw [if_neg h_37]); (try rw [if_neg h_38]); (try rw [if_neg h_39]); (try rw [if_neg h_40]); (try rw [if_neg h_41]); (try rw [if_neg h_42]); (try rw [if_neg h_43]); (try rw [if_neg h_44]); (try rw [if_neg h_45]); (try rw [if_neg h_46]); (try rw [if_neg h_47]); (try rw [if_neg h_48]); (try rw [if_neg h_49]); (try rw [if_neg h_50]); (try rw [if_neg h_51]); (try rw [if_neg h_54]); (try rw [if_neg h_55]); try rfl), by rw [ht]; exact hP9, va_K.moved hW.alike hK9, hD9⟩, hS.F ht⟩) hS.2.2 dX3_readSign_331
