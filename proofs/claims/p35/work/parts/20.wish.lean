def fr_isFeast (fRc : Nat → Int32) (fRe : Nat → Int32) (fRs : Nat → Int64) (ct : Int64) (yr : Int64) (dy : Int64) (lg : Int64) (wd : Int32) (wf : Int32) (mp : Int32) (mb : Int32) (mo : Int32) (sp : Int32) (sb : Int32) (a0 : Int32) : Int32 × (Nat → Int64) := (if lg_cmp ((fr_valueOf fRc fRe fRs ct yr dy lg wd wf mp mb mo sp sb a0).1) 0 = 0 then ((0 : Int32), ((fr_valueOf fRc fRe fRs ct yr dy lg wd wf mp mb mo sp sb a0).2)) else (if lg_cmp ((fr_valueOf fRc fRe fRs ct yr dy lg wd wf mp mb mo sp sb a0).1) (-9223372036854775808) = 0 then ((0 : Int32), ((fr_valueOf fRc fRe fRs ct yr dy lg wd wf mp mb mo sp sb a0).2)) else ((1 : Int32), ((fr_valueOf fRc fRe fRs ct yr dy lg wd wf mp mb mo sp sb a0).2))))
theorem dX8_isFeast_0 : decode cX8_isFeast 0 = .ok (.aload_n 0, 1) := zk_42 (by decide +kernel)
theorem dX8_isFeast_1 : decode cX8_isFeast 1 = .ok (.iload_n 1, 1) := zk_27 (by decide +kernel)
theorem dX8_isFeast_2 : decode cX8_isFeast 2 = .ok (.aload_n 2, 1) := zk_44 (by decide +kernel)
theorem dX8_isFeast_3 : decode cX8_isFeast 3 = .ok (.aload_n 3, 1) := zk_45 (by decide +kernel)
theorem dX8_isFeast_4 : decode cX8_isFeast 4 = .ok (.invokevirtual 40, 3) := zk_182 (by decide +kernel)
theorem dX8_isFeast_7 : decode cX8_isFeast 7 = .ok (.lstore 4, 2) := zk_55 (by decide +kernel)
theorem dX8_isFeast_9 : decode cX8_isFeast 9 = .ok (.lload 4, 2) := zk_22 (by decide +kernel)
theorem dX8_isFeast_11 : decode cX8_isFeast 11 = .ok (.lconst 0, 1) := zk_9 (by decide +kernel)
theorem dX8_isFeast_12 : decode cX8_isFeast 12 = .ok (.lcmp, 1) := zk_148 (by decide +kernel)
theorem dX8_isFeast_13 : decode cX8_isFeast 13 = .ok (.ifCond .eq 16, 3) := zk_153 (by decide +kernel)
theorem dX8_isFeast_29 : decode cX8_isFeast 29 = .ok (.iconst 0, 1) := zk_3 (by decide +kernel)
theorem dX8_isFeast_30 : decode cX8_isFeast 30 = .ok (.ireturn, 1) := zk_172 (by decide +kernel)
theorem dX8_isFeast_16 : decode cX8_isFeast 16 = .ok (.lload 4, 2) := zk_22 (by decide +kernel)
theorem dX8_isFeast_18 : decode cX8_isFeast 18 = .ok (.ldc2_w 44, 3) := zk_20 (by decide +kernel)
theorem dX8_isFeast_21 : decode cX8_isFeast 21 = .ok (.lcmp, 1) := zk_148 (by decide +kernel)
theorem dX8_isFeast_22 : decode cX8_isFeast 22 = .ok (.ifCond .eq 7, 3) := zk_153 (by decide +kernel)
theorem dX8_isFeast_25 : decode cX8_isFeast 25 = .ok (.iconst 1, 1) := zk_4 (by decide +kernel)
theorem dX8_isFeast_26 : decode cX8_isFeast 26 = .ok (.goto 4, 3) := zk_167 (by decide +kernel)
set_option maxHeartbeats 4000000 in
set_option maxRecDepth 100000 in
theorem gr_isFeast (l : Launch) (dC : Nat → ClassId) (dI : Nat → Nat → Nat) (ru : Nat) (rco : Nat) (rsz : Int32) (ren : Nat) (rst : Nat) (rkn : Int32) (cRc : ClassId) (fRc : Nat → Int32) (cRe : ClassId) (fRe : Nat → Int32) (cRs : ClassId) (fRs : Nat → Int64) (mm : Nat) (mla : Value) (ct : Int64) (yr : Int64) (dy : Int64) (lg : Int64) (sk : Nat) (wd : Int32) (wf : Int32) (mp : Int32) (mb : Int32) (mo : Int32) (sp : Int32) (sb : Int32) (a0 : Int32) (sz : Nat) (hE : ∀ k, ¬ fRe k < 0) : Met l yX8_isFeast (Cond.code yX8_isFeast cX8_isFeast 6 (some .boolean) :: wsL_law) ({ frames := 3, cells := 0, slots := 0, locals := 81 }) (va_Pc [.ref ru, .int a0, .ref mm, .ref sk] (fun U => U.heap.size = sz ∧ va_P (dC, dI) vwCl [(eO8a ru rco rsz ren rst rkn), (eA0 rco cRc 64 fRc), (eA0 ren cRe 4 fRe), (eA1 rst cRs 64 fRs), (mm, .inr (4, [mla, .long ct, .long yr, .long dy, .long lg])), (eO9a sk wd wf mp mb mo sp sb)] U.heap ∧ va_K (dC, dI) vwCl [(cRc, .int), (cRe, .int), (cRs, .long)] U ∧ va_D (fun _ => True) [(eO8a ru rco rsz ren rst rkn), (eA0 rco cRc 64 fRc), (eA0 ren cRe 4 fRe), (eA1 rst cRs 64 fRs), (mm, .inr (4, [mla, .long ct, .long yr, .long dy, .long lg])), (eO9a sk wd wf mp mb mo sp sb)])) (va_Qi (fun (r : Int32) (u : (Nat → Int64)) => r = (fr_isFeast fRc fRe fRs ct yr dy lg wd wf mp mb mo sp sb a0).1 ∧ u = (fr_isFeast fRc fRe fRs ct yr dy lg wd wf mp mb mo sp sb a0).2) (fun (u : (Nat → Int64)) t => va_P (dC, dI) vwCl [(eO8a ru rco rsz ren rst rkn), (eA0 rco cRc 64 fRc), (eA0 ren cRe 4 fRe), (eA1 rst cRs 64 u), (mm, .inr (4, [mla, .long ct, .long yr, .long dy, .long lg])), (eO9a sk wd wf mp mb mo sp sb)] t.heap ∧ va_K (dC, dI) vwCl [] t ∧ va_D (va_A [(eO8a ru rco rsz ren rst rkn), (eA0 rco cRc 64 fRc), (eA0 ren cRe 4 fRe), (eA1 rst cRs 64 fRs), (mm, .inr (4, [mla, .long ct, .long yr, .long dy, .long lg])), (eO9a sk wd wf mp mb mo sp sb)] sz) [(eO8a ru rco rsz ren rst rkn), (eA0 rco cRc 64 fRc), (eA0 ren cRe 4 fRe), (eA1 rst cRs 64 u), (mm, .inr (4, [mla, .long ct, .long yr, .long dy, .long lg])), (eO9a sk wd wf mp mb mo sp sb)]) (va_A [(eO8a ru rco rsz ren rst rkn), (eA0 rco cRc 64 fRc), (eA0 ren cRe 4 fRe), (eA1 rst cRs 64 fRs), (mm, .inr (4, [mla, .long ct, .long yr, .long dy, .long lg])), (eO9a sk wd wf mp mb mo sp sb)] sz)) 0 0 (va_A [(eO8a ru rco rsz ren rst rkn), (eA0 rco cRc 64 fRc), (eA0 ren cRe 4 fRe), (eA1 rst cRs 64 fRs), (mm, .inr (4, [mla, .long ct, .long yr, .long dy, .long lg])), (eO9a sk wd wf mp mb mo sp sb)] sz) := by
  refine Met.ofW (cc := cX8_isFeast) (maxL := 6) (ret := (some .boolean)) (by decide) rfl ?_
  intro p e s m args below meth c s₁ B hml hv
  obtain ⟨rfl, hsz, hP, hK, hD0⟩ := hv
  have hx := B.exec
  have hb := B.bytes
  have hr := B.returns
  have hts := atoms_spec (ws := Cond.code yX8_isFeast cX8_isFeast 6 (some .boolean) :: wsL_law) B.pre
  have htw : ∀ w ∈ wsL_law, w.before _ s = true := fun w h => hts w (List.mem_cons_of_mem _ h)
  have hown : s.vm.findClass RX8 = some m.cls := findClass_of_methodNamed B.named
  have hlocks := B.notSynchronized
  subst hsz
  have hD := hD0.self (sz := s.heap.size)
  generalize hAe : va_A [(eO8a ru rco rsz ren rst rkn), (eA0 rco cRc 64 fRc), (eA0 ren cRe 4 fRe), (eA1 rst cRs 64 fRs), (mm, .inr (4, [mla, .long ct, .long yr, .long dy, .long lg])), (eO9a sk wd wf mp mb mo sp sb)] s.heap.size = A at hD ⊢
  have hA : ∀ q : Nat, s.heap.size ≤ q → A q := fun q h => by rw [← hAe]; exact Or.inr h
  obtain ⟨H, rH⟩ : ∃ z : Heap, z = s.heap := ⟨_, rfl⟩
  have hS : va_S A s.heap H [] := by rw [rH]; exact va_S.rf
  have hP : va_P (dC, dI) vwCl [(eO8a ru rco rsz ren rst rkn), (eA0 rco cRc 64 fRc), (eA0 ren cRe 4 fRe), (eA1 rst cRs 64 fRs), (mm, .inr (4, [mla, .long ct, .long yr, .long dy, .long lg])), (eO9a sk wd wf mp mb mo sp sb)] H := by rw [rH]; exact hP
  rw [← rH]
  have hl := lv_entry ([.ref ru, .int a0, .ref mm, .ref sk]) (n := 6) (Nat.le_of_ble_eq_true rfl)
  rw [lg_entry_eq]
  generalize (lg_sl ([.ref ru, .int a0, .ref mm, .ref sk]) ++ List.replicate (6 - (lg_sl ([.ref ru, .int a0, .ref mm, .ref sk])).length) Slot.unset).toArray = ls at hl ⊢
  have hl : lv_has ls 6 [(0, .ref ru), (1, .int a0), (2, .ref mm), (3, .ref sk)] := hl
  refine lv_aload_n hx hb dX8_isFeast_0 rfl (lv_at hl 0 rfl) ?_
  refine lv_iload_n hx hb dX8_isFeast_1 rfl (lv_at hl 1 rfl) ?_
  refine lv_aload_n hx hb dX8_isFeast_2 rfl (lv_at hl 2 rfl) ?_
  refine lv_aload_n hx hb dX8_isFeast_3 rfl (lv_at hl 3 rfl) ?_
  obtain ⟨hPc, hDc, hFc, hCc⟩ := zsub3 (ws' := [(eO8a ru rco rsz ren rst rkn), (eA0 rco cRc 64 fRc), (eA0 ren cRe 4 fRe), (eA1 rst cRs 64 fRs), (mm, .inr (4, [mla, .long ct, .long yr, .long dy, .long lg])), (eO9a sk wd wf mp mb mo sp sb)]) hP hD hS hA [0, 1, 2, 3, 4, 5] (by decide) rfl
  have hKc := hK.sub (tys' := [(cRc, .int), (cRe, .int), (cRs, .long)]) [0, 1, 2] rfl
  refine va_calll (va_runV (As := [.int a0, .ref mm, .ref sk]) (rest := []) ⟨hx, hb, hml, hown, htw⟩ (gr_valueOf l dC dI ru rco rsz ren rst rkn cRc fRc cRe fRe cRs fRs mm mla ct yr dy lg sk wd wf mp mb mo sp sb a0 H.size hE) (cwV 3 htw (xg_V (ck_39 _ (List.mem_of_getElem? (i := 9) rfl)) (ck_39 _ (List.mem_of_getElem? (i := 10) rfl)) (ck_39 _ (List.mem_of_getElem? (i := 11) rfl)) (ck_6 _ (List.mem_of_getElem? (i := 8) rfl)) (ck_39 _ (List.mem_of_getElem? (i := 12) rfl))) rfl rfl rfl (by exact ⟨rfl, hdc_1.1, hdc_1.2, hdd_10⟩) ⟨Nat.le_of_ble_eq_true rfl, Nat.le_of_ble_eq_true rfl⟩) ⟨fun a U g mk q => by obtain ⟨q0, q1, qP, qK, qD⟩ := q; exact ⟨q0, q1, qP, va_K.moved (u := U) (U := U.calling g mk a) (Vm.Alike.refl U.vm) qK, qD⟩, va_recv hKc hPc (ci := 8) (q0 := 0) rfl rfl, fun U hU hW => ⟨rfl, by rw [hU], by rw [hU]; exact hPc, va_K.moved hW.alike hKc, hDc.weaken (fun _ _ _ _ => trivial)⟩⟩ rfl rfl hl.1 rfl (lv_room (Nat.le_of_ble_eq_true rfl)) dX8_isFeast_4 ⟨Nat.le_of_ble_eq_true rfl, Nat.le_of_ble_eq_true rfl⟩) hS (fun q _ h => hFc q h) hFc (fun r_1 u_2 t H1 locs ht hvm hw hB hz1 hk1 hS => ?_)
  try dsimp only at hw
  obtain ⟨hP1, hK1, hD1⟩ := hB
  rw [ht] at hP1
  have hK1 := va_K.moved hvm.symm hK1
  have hK1 : va_K (dC, dI) vwCl [] s := hK1
  obtain ⟨hP, hD⟩ := va_join (wr := []) (w1 := [(eO8a ru rco rsz ren rst rkn), (eA0 rco cRc 64 fRc), (eA0 ren cRe 4 fRe), (eA1 rst cRs 64 u_2), (mm, .inr (4, [mla, .long ct, .long yr, .long dy, .long lg])), (eO9a sk wd wf mp mb mo sp sb)]) hP hD [0, 1, 2, 3, 4, 5] [] hCc rfl (by decide) (by decide) hk1 hFc hP1 hD1
  generalize H1 = H at hP hS ⊢
  obtain ⟨hP, hD⟩ := zre [(eO8a ru rco rsz ren rst rkn), (eA0 rco cRc 64 fRc), (eA0 ren cRe 4 fRe), (eA1 rst cRs 64 u_2), (mm, .inr (4, [mla, .long ct, .long yr, .long dy, .long lg])), (eO9a sk wd wf mp mb mo sp sb)] hP hD rfl
  refine W.widen (k := 0) (n := 0) (by omega) (by omega) ?_
  have hq_r_1 : r_1 = (fr_valueOf fRc fRe fRs ct yr dy lg wd wf mp mb mo sp sb a0).1 := hw.1
  have hq_u_2 : u_2 = (fr_valueOf fRc fRe fRs ct yr dy lg wd wf mp mb mo sp sb a0).2 := hw.2
  refine lv_lstore (lv' := [(4, .long r_1), (0, .ref ru), (1, .int a0), (2, .ref mm), (3, .ref sk)]) hx hb dX8_isFeast_7 hl (by decide) rfl (fun ls hl => ?_)
  refine lv_lload hx hb dX8_isFeast_9 (lv_at hl 0 rfl) ?_
  refine lv_lconst (v := 0) hx hb dX8_isFeast_11 (by decide) ?_
  refine W.lcmp hx hb dX8_isFeast_12 ?_
  refine lv_if_eq (tgt := 29) hx hb dX8_isFeast_13 (by decide) (fun c_4 => ?_) (fun c_4 => ?_)
  · refine lv_iconst (v := 0) hx hb dX8_isFeast_29 (by decide) ?_
    refine W.widen (k := 0) (n := 0) (by omega) (by omega) ?_
    have hP9 := hP
    have hD9 := hD
    have hK9 := hK.sub (tys' := []) [] rfl
    exact W.zret (v := 0) hx hb hr (by first | rfl | decide) (fun t ht hW => ⟨⟨0, u_2, rfl, ((fun e9 => ⟨by rw [e9], by rw [e9]⟩ : fr_isFeast fRc fRe fRs ct yr dy lg wd wf mp mb mo sp sb a0 = ((0 : Int32), u_2) → _) (by rw [fr_isFeast]; (try rw [← hq_r_1]); (try rw [← hq_u_2]); (try rw [if_pos c_4]); try rfl)), by rw [ht]; exact hP9, va_K.moved hW.alike hK9, hD9⟩, hS.F ht⟩) hS.2.2 dX8_isFeast_30
  · refine lv_lload hx hb dX8_isFeast_16 (lv_at hl 0 rfl) ?_
    refine lv_ldc2 (v := (-9223372036854775808)) hx hb hown (htw _ (ck_39 _ (List.mem_of_getElem? (i := 8) rfl))) dX8_isFeast_18 ?_
    refine W.lcmp hx hb dX8_isFeast_21 ?_
    refine lv_if_eq (tgt := 29) hx hb dX8_isFeast_22 (by decide) (fun c_5 => ?_) (fun c_5 => ?_)
    · refine lv_iconst (v := 0) hx hb dX8_isFeast_29 (by decide) ?_
      refine W.widen (k := 0) (n := 0) (by omega) (by omega) ?_
      have hP9 := hP
      have hD9 := hD
      have hK9 := hK.sub (tys' := []) [] rfl
      exact W.zret (v := 0) hx hb hr (by first | rfl | decide) (fun t ht hW => ⟨⟨0, u_2, rfl, ((fun e9 => ⟨by rw [e9], by rw [e9]⟩ : fr_isFeast fRc fRe fRs ct yr dy lg wd wf mp mb mo sp sb a0 = ((0 : Int32), u_2) → _) (by rw [fr_isFeast]; (try rw [← hq_r_1]); (try rw [← hq_u_2]); (try rw [if_neg c_4]); (try rw [if_pos c_5]); try rfl)), by rw [ht]; exact hP9, va_K.moved hW.alike hK9, hD9⟩, hS.F ht⟩) hS.2.2 dX8_isFeast_30
    · refine lv_iconst (v := 1) hx hb dX8_isFeast_25 (by decide) ?_
      refine lv_goto (tgt := 30) hx hb dX8_isFeast_26 (by decide) ?_
      refine W.widen (k := 0) (n := 0) (by omega) (by omega) ?_
      have hP9 := hP
      have hD9 := hD
      have hK9 := hK.sub (tys' := []) [] rfl
      exact W.zret (v := 1) hx hb hr (by first | rfl | decide) (fun t ht hW => ⟨⟨1, u_2, rfl, ((fun e9 => ⟨by rw [e9], by rw [e9]⟩ : fr_isFeast fRc fRe fRs ct yr dy lg wd wf mp mb mo sp sb a0 = ((1 : Int32), u_2) → _) (by rw [fr_isFeast]; (try rw [← hq_r_1]); (try rw [← hq_u_2]); (try rw [if_neg c_4]); (try rw [if_neg c_5]); try rfl)), by rw [ht]; exact hP9, va_K.moved hW.alike hK9, hD9⟩, hS.F ht⟩) hS.2.2 dX8_isFeast_30

def fw_isMet (w0 : Int32) (w1 : Int32) (w2 : Int32) (w3 : Int32) (w4 : Int32) (fRc : Nat → Int32) (fRe : Nat → Int32) (fRs : Nat → Int64) (ct : Int64) (yr : Int64) (dy : Int64) (lg : Int64) (wd : Int32) (wf : Int32) (mp : Int32) (mb : Int32) (mo : Int32) (sp : Int32) (sb : Int32) : Int32 × (Nat → Int64) := (if w0 = (-1) then (if w1 = (-1) then (if w2 = (-1) then (if w3 = (-1) then (if w4 = (-1) then ((1 : Int32), fRs) else (if ((fr_isFeast fRc fRe fRs ct yr dy lg wd wf mp mb mo sp sb w4).1) = 0 then ((0 : Int32), ((fr_isFeast fRc fRe fRs ct yr dy lg wd wf mp mb mo sp sb w4).2)) else ((1 : Int32), ((fr_isFeast fRc fRe fRs ct yr dy lg wd wf mp mb mo sp sb w4).2)))) else (if (fs_seasonOf wd wf mp mb mo sp sb ct) = w3 then (if w4 = (-1) then ((1 : Int32), fRs) else (if ((fr_isFeast fRc fRe fRs ct yr dy lg wd wf mp mb mo sp sb w4).1) = 0 then ((0 : Int32), ((fr_isFeast fRc fRe fRs ct yr dy lg wd wf mp mb mo sp sb w4).2)) else ((1 : Int32), ((fr_isFeast fRc fRe fRs ct yr dy lg wd wf mp mb mo sp sb w4).2)))) else ((0 : Int32), fRs))) else (if (fs_moonOf wd wf mp mb mo sp sb ct) = w2 then (if w3 = (-1) then (if w4 = (-1) then ((1 : Int32), fRs) else (if ((fr_isFeast fRc fRe fRs ct yr dy lg wd wf mp mb mo sp sb w4).1) = 0 then ((0 : Int32), ((fr_isFeast fRc fRe fRs ct yr dy lg wd wf mp mb mo sp sb w4).2)) else ((1 : Int32), ((fr_isFeast fRc fRe fRs ct yr dy lg wd wf mp mb mo sp sb w4).2)))) else (if (fs_seasonOf wd wf mp mb mo sp sb ct) = w3 then (if w4 = (-1) then ((1 : Int32), fRs) else (if ((fr_isFeast fRc fRe fRs ct yr dy lg wd wf mp mb mo sp sb w4).1) = 0 then ((0 : Int32), ((fr_isFeast fRc fRe fRs ct yr dy lg wd wf mp mb mo sp sb w4).2)) else ((1 : Int32), ((fr_isFeast fRc fRe fRs ct yr dy lg wd wf mp mb mo sp sb w4).2)))) else ((0 : Int32), fRs))) else ((0 : Int32), fRs))) else (if (fs_weekDayOf wd wf mp mb mo sp sb ct) = w1 then (if w2 = (-1) then (if w3 = (-1) then (if w4 = (-1) then ((1 : Int32), fRs) else (if ((fr_isFeast fRc fRe fRs ct yr dy lg wd wf mp mb mo sp sb w4).1) = 0 then ((0 : Int32), ((fr_isFeast fRc fRe fRs ct yr dy lg wd wf mp mb mo sp sb w4).2)) else ((1 : Int32), ((fr_isFeast fRc fRe fRs ct yr dy lg wd wf mp mb mo sp sb w4).2)))) else (if (fs_seasonOf wd wf mp mb mo sp sb ct) = w3 then (if w4 = (-1) then ((1 : Int32), fRs) else (if ((fr_isFeast fRc fRe fRs ct yr dy lg wd wf mp mb mo sp sb w4).1) = 0 then ((0 : Int32), ((fr_isFeast fRc fRe fRs ct yr dy lg wd wf mp mb mo sp sb w4).2)) else ((1 : Int32), ((fr_isFeast fRc fRe fRs ct yr dy lg wd wf mp mb mo sp sb w4).2)))) else ((0 : Int32), fRs))) else (if (fs_moonOf wd wf mp mb mo sp sb ct) = w2 then (if w3 = (-1) then (if w4 = (-1) then ((1 : Int32), fRs) else (if ((fr_isFeast fRc fRe fRs ct yr dy lg wd wf mp mb mo sp sb w4).1) = 0 then ((0 : Int32), ((fr_isFeast fRc fRe fRs ct yr dy lg wd wf mp mb mo sp sb w4).2)) else ((1 : Int32), ((fr_isFeast fRc fRe fRs ct yr dy lg wd wf mp mb mo sp sb w4).2)))) else (if (fs_seasonOf wd wf mp mb mo sp sb ct) = w3 then (if w4 = (-1) then ((1 : Int32), fRs) else (if ((fr_isFeast fRc fRe fRs ct yr dy lg wd wf mp mb mo sp sb w4).1) = 0 then ((0 : Int32), ((fr_isFeast fRc fRe fRs ct yr dy lg wd wf mp mb mo sp sb w4).2)) else ((1 : Int32), ((fr_isFeast fRc fRe fRs ct yr dy lg wd wf mp mb mo sp sb w4).2)))) else ((0 : Int32), fRs))) else ((0 : Int32), fRs))) else ((0 : Int32), fRs))) else (if lg_cmp dy w0.toInt64 = 0 then (if w1 = (-1) then (if w2 = (-1) then (if w3 = (-1) then (if w4 = (-1) then ((1 : Int32), fRs) else (if ((fr_isFeast fRc fRe fRs ct yr dy lg wd wf mp mb mo sp sb w4).1) = 0 then ((0 : Int32), ((fr_isFeast fRc fRe fRs ct yr dy lg wd wf mp mb mo sp sb w4).2)) else ((1 : Int32), ((fr_isFeast fRc fRe fRs ct yr dy lg wd wf mp mb mo sp sb w4).2)))) else (if (fs_seasonOf wd wf mp mb mo sp sb ct) = w3 then (if w4 = (-1) then ((1 : Int32), fRs) else (if ((fr_isFeast fRc fRe fRs ct yr dy lg wd wf mp mb mo sp sb w4).1) = 0 then ((0 : Int32), ((fr_isFeast fRc fRe fRs ct yr dy lg wd wf mp mb mo sp sb w4).2)) else ((1 : Int32), ((fr_isFeast fRc fRe fRs ct yr dy lg wd wf mp mb mo sp sb w4).2)))) else ((0 : Int32), fRs))) else (if (fs_moonOf wd wf mp mb mo sp sb ct) = w2 then (if w3 = (-1) then (if w4 = (-1) then ((1 : Int32), fRs) else (if ((fr_isFeast fRc fRe fRs ct yr dy lg wd wf mp mb mo sp sb w4).1) = 0 then ((0 : Int32), ((fr_isFeast fRc fRe fRs ct yr dy lg wd wf mp mb mo sp sb w4).2)) else ((1 : Int32), ((fr_isFeast fRc fRe fRs ct yr dy lg wd wf mp mb mo sp sb w4).2)))) else (if (fs_seasonOf wd wf mp mb mo sp sb ct) = w3 then (if w4 = (-1) then ((1 : Int32), fRs) else (if ((fr_isFeast fRc fRe fRs ct yr dy lg wd wf mp mb mo sp sb w4).1) = 0 then ((0 : Int32), ((fr_isFeast fRc fRe fRs ct yr dy lg wd wf mp mb mo sp sb w4).2)) else ((1 : Int32), ((fr_isFeast fRc fRe fRs ct yr dy lg wd wf mp mb mo sp sb w4).2)))) else ((0 : Int32), fRs))) else ((0 : Int32), fRs))) else (if (fs_weekDayOf wd wf mp mb mo sp sb ct) = w1 then (if w2 = (-1) then (if w3 = (-1) then (if w4 = (-1) then ((1 : Int32), fRs) else (if ((fr_isFeast fRc fRe fRs ct yr dy lg wd wf mp mb mo sp sb w4).1) = 0 then ((0 : Int32), ((fr_isFeast fRc fRe fRs ct yr dy lg wd wf mp mb mo sp sb w4).2)) else ((1 : Int32), ((fr_isFeast fRc fRe fRs ct yr dy lg wd wf mp mb mo sp sb w4).2)))) else (if (fs_seasonOf wd wf mp mb mo sp sb ct) = w3 then (if w4 = (-1) then ((1 : Int32), fRs) else (if ((fr_isFeast fRc fRe fRs ct yr dy lg wd wf mp mb mo sp sb w4).1) = 0 then ((0 : Int32), ((fr_isFeast fRc fRe fRs ct yr dy lg wd wf mp mb mo sp sb w4).2)) else ((1 : Int32), ((fr_isFeast fRc fRe fRs ct yr dy lg wd wf mp mb mo sp sb w4).2)))) else ((0 : Int32), fRs))) else (if (fs_moonOf wd wf mp mb mo sp sb ct) = w2 then (if w3 = (-1) then (if w4 = (-1) then ((1 : Int32), fRs) else (if ((fr_isFeast fRc fRe fRs ct yr dy lg wd wf mp mb mo sp sb w4).1) = 0 then ((0 : Int32), ((fr_isFeast fRc fRe fRs ct yr dy lg wd wf mp mb mo sp sb w4).2)) else ((1 : Int32), ((fr_isFeast fRc fRe fRs ct yr dy lg wd wf mp mb mo sp sb w4).2)))) else (if (fs_seasonOf wd wf mp mb mo sp sb ct) = w3 then (if w4 = (-1) then ((1 : Int32), fRs) else (if ((fr_isFeast fRc fRe fRs ct yr dy lg wd wf mp mb mo sp sb w4).1) = 0 then ((0 : Int32), ((fr_isFeast fRc fRe fRs ct yr dy lg wd wf mp mb mo sp sb w4).2)) else ((1 : Int32), ((fr_isFeast fRc fRe fRs ct yr dy lg wd wf mp mb mo sp sb w4).2)))) else ((0 : Int32), fRs))) else ((0 : Int32), fRs))) else ((0 : Int32), fRs))) else ((0 : Int32), fRs)))
theorem dX10_isMet_0 : decode cX10_isMet 0 = .ok (.aload_n 0, 1) := zk_42 (by decide +kernel)
theorem dX10_isMet_1 : decode cX10_isMet 1 = .ok (.getfield 9, 3) := zk_180 (by decide +kernel)
theorem dX10_isMet_4 : decode cX10_isMet 4 = .ok (.iconst (-1), 1) := zk_2 (by decide +kernel)
theorem dX10_isMet_5 : decode cX10_isMet 5 = .ok (.if_icmp .eq 16, 3) := zk_159 (by decide +kernel)
theorem dX10_isMet_21 : decode cX10_isMet 21 = .ok (.aload_n 0, 1) := zk_42 (by decide +kernel)
theorem dX10_isMet_22 : decode cX10_isMet 22 = .ok (.getfield 15, 3) := zk_180 (by decide +kernel)
theorem dX10_isMet_25 : decode cX10_isMet 25 = .ok (.iconst (-1), 1) := zk_2 (by decide +kernel)
theorem dX10_isMet_26 : decode cX10_isMet 26 = .ok (.if_icmp .eq 21, 3) := zk_159 (by decide +kernel)
theorem dX10_isMet_47 : decode cX10_isMet 47 = .ok (.aload_n 0, 1) := zk_42 (by decide +kernel)
theorem dX10_isMet_48 : decode cX10_isMet 48 = .ok (.getfield 18, 3) := zk_180 (by decide +kernel)
theorem dX10_isMet_51 : decode cX10_isMet 51 = .ok (.iconst (-1), 1) := zk_2 (by decide +kernel)
theorem dX10_isMet_52 : decode cX10_isMet 52 = .ok (.if_icmp .eq 21, 3) := zk_159 (by decide +kernel)
theorem dX10_isMet_73 : decode cX10_isMet 73 = .ok (.aload_n 0, 1) := zk_42 (by decide +kernel)
theorem dX10_isMet_74 : decode cX10_isMet 74 = .ok (.getfield 21, 3) := zk_180 (by decide +kernel)
theorem dX10_isMet_77 : decode cX10_isMet 77 = .ok (.iconst (-1), 1) := zk_2 (by decide +kernel)
theorem dX10_isMet_78 : decode cX10_isMet 78 = .ok (.if_icmp .eq 21, 3) := zk_159 (by decide +kernel)
theorem dX10_isMet_99 : decode cX10_isMet 99 = .ok (.aload_n 0, 1) := zk_42 (by decide +kernel)
theorem dX10_isMet_100 : decode cX10_isMet 100 = .ok (.getfield 24, 3) := zk_180 (by decide +kernel)
theorem dX10_isMet_103 : decode cX10_isMet 103 = .ok (.iconst (-1), 1) := zk_2 (by decide +kernel)
theorem dX10_isMet_104 : decode cX10_isMet 104 = .ok (.if_icmp .eq 22, 3) := zk_159 (by decide +kernel)
theorem dX10_isMet_126 : decode cX10_isMet 126 = .ok (.iconst 1, 1) := zk_4 (by decide +kernel)
theorem dX10_isMet_127 : decode cX10_isMet 127 = .ok (.goto 4, 3) := zk_167 (by decide +kernel)
theorem dX10_isMet_131 : decode cX10_isMet 131 = .ok (.ireturn, 1) := zk_172 (by decide +kernel)
theorem dX10_isMet_107 : decode cX10_isMet 107 = .ok (.aload_n 2, 1) := zk_44 (by decide +kernel)
theorem dX10_isMet_108 : decode cX10_isMet 108 = .ok (.getfield 53, 3) := zk_180 (by decide +kernel)
theorem dX10_isMet_111 : decode cX10_isMet 111 = .ok (.aload_n 0, 1) := zk_42 (by decide +kernel)
theorem dX10_isMet_112 : decode cX10_isMet 112 = .ok (.getfield 24, 3) := zk_180 (by decide +kernel)
theorem dX10_isMet_115 : decode cX10_isMet 115 = .ok (.aload_n 1, 1) := zk_43 (by decide +kernel)
theorem dX10_isMet_116 : decode cX10_isMet 116 = .ok (.aload_n 2, 1) := zk_44 (by decide +kernel)
theorem dX10_isMet_117 : decode cX10_isMet 117 = .ok (.getfield 32, 3) := zk_180 (by decide +kernel)
theorem dX10_isMet_120 : decode cX10_isMet 120 = .ok (.invokevirtual 57, 3) := zk_182 (by decide +kernel)
theorem dX10_isMet_123 : decode cX10_isMet 123 = .ok (.ifCond .eq 7, 3) := zk_153 (by decide +kernel)
theorem dX10_isMet_130 : decode cX10_isMet 130 = .ok (.iconst 0, 1) := zk_3 (by decide +kernel)
theorem dX10_isMet_81 : decode cX10_isMet 81 = .ok (.aload_n 2, 1) := zk_44 (by decide +kernel)
theorem dX10_isMet_82 : decode cX10_isMet 82 = .ok (.getfield 32, 3) := zk_180 (by decide +kernel)
theorem dX10_isMet_85 : decode cX10_isMet 85 = .ok (.aload_n 1, 1) := zk_43 (by decide +kernel)
theorem dX10_isMet_86 : decode cX10_isMet 86 = .ok (.getfield 38, 3) := zk_180 (by decide +kernel)
theorem dX10_isMet_89 : decode cX10_isMet 89 = .ok (.invokevirtual 50, 3) := zk_182 (by decide +kernel)
theorem dX10_isMet_92 : decode cX10_isMet 92 = .ok (.aload_n 0, 1) := zk_42 (by decide +kernel)
theorem dX10_isMet_93 : decode cX10_isMet 93 = .ok (.getfield 21, 3) := zk_180 (by decide +kernel)
theorem dX10_isMet_96 : decode cX10_isMet 96 = .ok (.if_icmp .ne 34, 3) := zk_160 (by decide +kernel)
theorem dX10_isMet_55 : decode cX10_isMet 55 = .ok (.aload_n 2, 1) := zk_44 (by decide +kernel)
theorem dX10_isMet_56 : decode cX10_isMet 56 = .ok (.getfield 32, 3) := zk_180 (by decide +kernel)
theorem dX10_isMet_59 : decode cX10_isMet 59 = .ok (.aload_n 1, 1) := zk_43 (by decide +kernel)
theorem dX10_isMet_60 : decode cX10_isMet 60 = .ok (.getfield 38, 3) := zk_180 (by decide +kernel)
theorem dX10_isMet_63 : decode cX10_isMet 63 = .ok (.invokevirtual 47, 3) := zk_182 (by decide +kernel)
theorem dX10_isMet_66 : decode cX10_isMet 66 = .ok (.aload_n 0, 1) := zk_42 (by decide +kernel)
theorem dX10_isMet_67 : decode cX10_isMet 67 = .ok (.getfield 18, 3) := zk_180 (by decide +kernel)
theorem dX10_isMet_70 : decode cX10_isMet 70 = .ok (.if_icmp .ne 60, 3) := zk_160 (by decide +kernel)
theorem dX10_isMet_29 : decode cX10_isMet 29 = .ok (.aload_n 2, 1) := zk_44 (by decide +kernel)
theorem dX10_isMet_30 : decode cX10_isMet 30 = .ok (.getfield 32, 3) := zk_180 (by decide +kernel)
theorem dX10_isMet_33 : decode cX10_isMet 33 = .ok (.aload_n 1, 1) := zk_43 (by decide +kernel)
theorem dX10_isMet_34 : decode cX10_isMet 34 = .ok (.getfield 38, 3) := zk_180 (by decide +kernel)
theorem dX10_isMet_37 : decode cX10_isMet 37 = .ok (.invokevirtual 41, 3) := zk_182 (by decide +kernel)
theorem dX10_isMet_40 : decode cX10_isMet 40 = .ok (.aload_n 0, 1) := zk_42 (by decide +kernel)
theorem dX10_isMet_41 : decode cX10_isMet 41 = .ok (.getfield 15, 3) := zk_180 (by decide +kernel)
theorem dX10_isMet_44 : decode cX10_isMet 44 = .ok (.if_icmp .ne 86, 3) := zk_160 (by decide +kernel)
theorem dX10_isMet_8 : decode cX10_isMet 8 = .ok (.aload_n 1, 1) := zk_43 (by decide +kernel)
theorem dX10_isMet_9 : decode cX10_isMet 9 = .ok (.getfield 27, 3) := zk_180 (by decide +kernel)
theorem dX10_isMet_12 : decode cX10_isMet 12 = .ok (.aload_n 0, 1) := zk_42 (by decide +kernel)
theorem dX10_isMet_13 : decode cX10_isMet 13 = .ok (.getfield 9, 3) := zk_180 (by decide +kernel)
theorem dX10_isMet_16 : decode cX10_isMet 16 = .ok (.i2l, 1) := zk_133 (by decide +kernel)
theorem dX10_isMet_17 : decode cX10_isMet 17 = .ok (.lcmp, 1) := zk_148 (by decide +kernel)
theorem dX10_isMet_18 : decode cX10_isMet 18 = .ok (.ifCond .ne 112, 3) := zk_154 (by decide +kernel)
set_option maxHeartbeats 4000000 in
set_option maxRecDepth 100000 in
theorem gw_isMet (l : Launch) (dC : Nat → ClassId) (dI : Nat → Nat → Nat) (wi : Nat) (w0 : Int32) (w1 : Int32) (w2 : Int32) (w3 : Int32) (w4 : Int32) (mm : Nat) (mla : Value) (ct : Int64) (yr : Int64) (dy : Int64) (lg : Int64) (bk : Nat) (bto : Nat) (bnm : Nat) (bla : Nat) (bsk : Nat) (bru : Nat) (bbo : Nat) (bdi : Nat) (bda : Nat) (bdk : Nat) (bdt : Nat) (bdp : Nat) (bno : Nat) (rco : Nat) (rsz : Int32) (ren : Nat) (rst : Nat) (rkn : Int32) (cRc : ClassId) (fRc : Nat → Int32) (cRe : ClassId) (fRe : Nat → Int32) (cRs : ClassId) (fRs : Nat → Int64) (wd : Int32) (wf : Int32) (mp : Int32) (mb : Int32) (mo : Int32) (sp : Int32) (sb : Int32) (sz : Nat) (hE : ∀ k, ¬ fRe k < 0) : Met l yX10_isMet (Cond.code yX10_isMet cX10_isMet 3 (some .boolean) :: wsL_law) ({ frames := 4, cells := 0, slots := 0, locals := 106 }) (va_Pc [.ref wi, .ref mm, .ref bk] (fun U => U.heap.size = sz ∧ va_P (dC, dI) vwCl [(eO10a wi w0 w1 w2 w3 w4), (mm, .inr (4, [mla, .long ct, .long yr, .long dy, .long lg])), (eO0a bk bto bnm bla bsk bru bbo bdi bda bdk bdt bdp bno), (eO9a bsk wd wf mp mb mo sp sb), (eO8a bru rco rsz ren rst rkn), (eA0 rco cRc 64 fRc), (eA0 ren cRe 4 fRe), (eA1 rst cRs 64 fRs)] U.heap ∧ va_K (dC, dI) vwCl [(cRc, .int), (cRe, .int), (cRs, .long)] U ∧ va_D (fun _ => True) [(eO10a wi w0 w1 w2 w3 w4), (mm, .inr (4, [mla, .long ct, .long yr, .long dy, .long lg])), (eO0a bk bto bnm bla bsk bru bbo bdi bda bdk bdt bdp bno), (eO9a bsk wd wf mp mb mo sp sb), (eO8a bru rco rsz ren rst rkn), (eA0 rco cRc 64 fRc), (eA0 ren cRe 4 fRe), (eA1 rst cRs 64 fRs)])) (va_Qi (fun (r : Int32) (u : (Nat → Int64)) => r = (fw_isMet w0 w1 w2 w3 w4 fRc fRe fRs ct yr dy lg wd wf mp mb mo sp sb).1 ∧ u = (fw_isMet w0 w1 w2 w3 w4 fRc fRe fRs ct yr dy lg wd wf mp mb mo sp sb).2) (fun (u : (Nat → Int64)) t => va_P (dC, dI) vwCl [(eO10a wi w0 w1 w2 w3 w4), (mm, .inr (4, [mla, .long ct, .long yr, .long dy, .long lg])), (eO0a bk bto bnm bla bsk bru bbo bdi bda bdk bdt bdp bno), (eO9a bsk wd wf mp mb mo sp sb), (eO8a bru rco rsz ren rst rkn), (eA0 rco cRc 64 fRc), (eA0 ren cRe 4 fRe), (eA1 rst cRs 64 u)] t.heap ∧ va_K (dC, dI) vwCl [] t ∧ va_D (va_A [(eO10a wi w0 w1 w2 w3 w4), (mm, .inr (4, [mla, .long ct, .long yr, .long dy, .long lg])), (eO0a bk bto bnm bla bsk bru bbo bdi bda bdk bdt bdp bno), (eO9a bsk wd wf mp mb mo sp sb), (eO8a bru rco rsz ren rst rkn), (eA0 rco cRc 64 fRc), (eA0 ren cRe 4 fRe), (eA1 rst cRs 64 fRs)] sz) [(eO10a wi w0 w1 w2 w3 w4), (mm, .inr (4, [mla, .long ct, .long yr, .long dy, .long lg])), (eO0a bk bto bnm bla bsk bru bbo bdi bda bdk bdt bdp bno), (eO9a bsk wd wf mp mb mo sp sb), (eO8a bru rco rsz ren rst rkn), (eA0 rco cRc 64 fRc), (eA0 ren cRe 4 fRe), (eA1 rst cRs 64 u)]) (va_A [(eO10a wi w0 w1 w2 w3 w4), (mm, .inr (4, [mla, .long ct, .long yr, .long dy, .long lg])), (eO0a bk bto bnm bla bsk bru bbo bdi bda bdk bdt bdp bno), (eO9a bsk wd wf mp mb mo sp sb), (eO8a bru rco rsz ren rst rkn), (eA0 rco cRc 64 fRc), (eA0 ren cRe 4 fRe), (eA1 rst cRs 64 fRs)] sz)) 0 0 (va_A [(eO10a wi w0 w1 w2 w3 w4), (mm, .inr (4, [mla, .long ct, .long yr, .long dy, .long lg])), (eO0a bk bto bnm bla bsk bru bbo bdi bda bdk bdt bdp bno), (eO9a bsk wd wf mp mb mo sp sb), (eO8a bru rco rsz ren rst rkn), (eA0 rco cRc 64 fRc), (eA0 ren cRe 4 fRe), (eA1 rst cRs 64 fRs)] sz) := by
  refine Met.ofW (cc := cX10_isMet) (maxL := 3) (ret := (some .boolean)) (by decide) rfl ?_
  intro p e s m args below meth c s₁ B hml hv
  obtain ⟨rfl, hsz, hP, hK, hD0⟩ := hv
  have hx := B.exec
  have hb := B.bytes
  have hr := B.returns
  have hts := atoms_spec (ws := Cond.code yX10_isMet cX10_isMet 3 (some .boolean) :: wsL_law) B.pre
  have htw : ∀ w ∈ wsL_law, w.before _ s = true := fun w h => hts w (List.mem_cons_of_mem _ h)
  have hown : s.vm.findClass RX10 = some m.cls := findClass_of_methodNamed B.named
  have hlocks := B.notSynchronized
  subst hsz
  have hD := hD0.self (sz := s.heap.size)
  generalize hAe : va_A [(eO10a wi w0 w1 w2 w3 w4), (mm, .inr (4, [mla, .long ct, .long yr, .long dy, .long lg])), (eO0a bk bto bnm bla bsk bru bbo bdi bda bdk bdt bdp bno), (eO9a bsk wd wf mp mb mo sp sb), (eO8a bru rco rsz ren rst rkn), (eA0 rco cRc 64 fRc), (eA0 ren cRe 4 fRe), (eA1 rst cRs 64 fRs)] s.heap.size = A at hD ⊢
  have hA : ∀ q : Nat, s.heap.size ≤ q → A q := fun q h => by rw [← hAe]; exact Or.inr h
  obtain ⟨H, rH⟩ : ∃ z : Heap, z = s.heap := ⟨_, rfl⟩
  have hS : va_S A s.heap H [] := by rw [rH]; exact va_S.rf
  have hP : va_P (dC, dI) vwCl [(eO10a wi w0 w1 w2 w3 w4), (mm, .inr (4, [mla, .long ct, .long yr, .long dy, .long lg])), (eO0a bk bto bnm bla bsk bru bbo bdi bda bdk bdt bdp bno), (eO9a bsk wd wf mp mb mo sp sb), (eO8a bru rco rsz ren rst rkn), (eA0 rco cRc 64 fRc), (eA0 ren cRe 4 fRe), (eA1 rst cRs 64 fRs)] H := by rw [rH]; exact hP
  rw [← rH]
  have hl := lv_entry ([.ref wi, .ref mm, .ref bk]) (n := 3) (Nat.le_of_ble_eq_true rfl)
  rw [lg_entry_eq]
  generalize (lg_sl ([.ref wi, .ref mm, .ref bk]) ++ List.replicate (3 - (lg_sl ([.ref wi, .ref mm, .ref bk])).length) Slot.unset).toArray = ls at hl ⊢
  have hl : lv_has ls 3 [(0, .ref wi), (1, .ref mm), (2, .ref bk)] := hl
  refine lv_aload_n hx hb dX10_isMet_0 rfl (lv_at hl 0 rfl) ?_
  refine va_get (D := (dC, dI)) (ci := 10) (v := .int w0) (C := RX10) (T := TX10) (N := 5) hx hb htw inlX10 hown hK hP 0 rfl rfl 0 (by decide) (htw _ (ck_42 _ (List.mem_of_getElem? (i := 4) rfl))) (fun _ h9 => h9) rfl dX10_isMet_1 ?_
  refine lv_iconst (v := (-1)) hx hb dX10_isMet_4 (by decide) ?_
  refine lv_icmp_eq (tgt := 21) hx hb dX10_isMet_5 (by decide) (fun c_1 => ?_) (fun c_1 => ?_)
  · refine lv_aload_n hx hb dX10_isMet_21 rfl (lv_at hl 0 rfl) ?_
    refine va_get (D := (dC, dI)) (ci := 10) (v := .int w1) (C := RX10) (T := TX10) (N := 5) hx hb htw inlX10 hown hK hP 0 rfl rfl 1 (by decide) (htw _ (ck_42 _ (List.mem_of_getElem? (i := 5) rfl))) (fun _ h9 => h9) rfl dX10_isMet_22 ?_
    refine lv_iconst (v := (-1)) hx hb dX10_isMet_25 (by decide) ?_
    refine lv_icmp_eq (tgt := 47) hx hb dX10_isMet_26 (by decide) (fun c_2 => ?_) (fun c_2 => ?_)
    · refine lv_aload_n hx hb dX10_isMet_47 rfl (lv_at hl 0 rfl) ?_
      refine va_get (D := (dC, dI)) (ci := 10) (v := .int w2) (C := RX10) (T := TX10) (N := 5) hx hb htw inlX10 hown hK hP 0 rfl rfl 2 (by decide) (htw _ (ck_42 _ (List.mem_of_getElem? (i := 6) rfl))) (fun _ h9 => h9) rfl dX10_isMet_48 ?_
      refine lv_iconst (v := (-1)) hx hb dX10_isMet_51 (by decide) ?_
      refine lv_icmp_eq (tgt := 73) hx hb dX10_isMet_52 (by decide) (fun c_3 => ?_) (fun c_3 => ?_)
      · refine lv_aload_n hx hb dX10_isMet_73 rfl (lv_at hl 0 rfl) ?_
        refine va_get (D := (dC, dI)) (ci := 10) (v := .int w3) (C := RX10) (T := TX10) (N := 5) hx hb htw inlX10 hown hK hP 0 rfl rfl 3 (by decide) (htw _ (ck_42 _ (List.mem_of_getElem? (i := 7) rfl))) (fun _ h9 => h9) rfl dX10_isMet_74 ?_
        refine lv_iconst (v := (-1)) hx hb dX10_isMet_77 (by decide) ?_
        refine lv_icmp_eq (tgt := 99) hx hb dX10_isMet_78 (by decide) (fun c_4 => ?_) (fun c_4 => ?_)
        · refine lv_aload_n hx hb dX10_isMet_99 rfl (lv_at hl 0 rfl) ?_
          refine va_get (D := (dC, dI)) (ci := 10) (v := .int w4) (C := RX10) (T := TX10) (N := 5) hx hb htw inlX10 hown hK hP 0 rfl rfl 4 (by decide) (htw _ (ck_42 _ (List.mem_of_getElem? (i := 8) rfl))) (fun _ h9 => h9) rfl dX10_isMet_100 ?_
          refine lv_iconst (v := (-1)) hx hb dX10_isMet_103 (by decide) ?_
          refine lv_icmp_eq (tgt := 126) hx hb dX10_isMet_104 (by decide) (fun c_5 => ?_) (fun c_5 => ?_)
          · refine lv_iconst (v := 1) hx hb dX10_isMet_126 (by decide) ?_
            refine lv_goto (tgt := 131) hx hb dX10_isMet_127 (by decide) ?_
            refine W.widen (k := 0) (n := 0) (by omega) (by omega) ?_
            have hP9 := hP
            have hD9 := hD
            have hK9 := hK.sub (tys' := []) [] rfl
            exact W.zret (v := 1) hx hb hr (by first | rfl | decide) (fun t ht hW => ⟨⟨1, fRs, rfl, ((fun e9 => ⟨by rw [e9], by rw [e9]⟩ : fw_isMet w0 w1 w2 w3 w4 fRc fRe fRs ct yr dy lg wd wf mp mb mo sp sb = ((1 : Int32), fRs) → _) (by rw [fw_isMet]; (try rw [if_pos c_1]); (try rw [if_pos c_2]); (try rw [if_pos c_3]); (try rw [if_pos c_4]); (try rw [if_pos c_5]); try rfl)), by rw [ht]; exact hP9, va_K.moved hW.alike hK9, hD9⟩, hS.F ht⟩) hS.2.2 dX10_isMet_131
          · refine lv_aload_n hx hb dX10_isMet_107 rfl (lv_at hl 2 rfl) ?_
            refine va_get (D := (dC, dI)) (ci := 0) (v := .ref bru) (C := RX0) (T := TX0) (N := 12) hx hb htw inlX0 hown hK hP 2 rfl rfl 4 (by decide) (htw _ (ck_42 _ (List.mem_of_getElem? (i := 22) rfl))) (fun _ h9 => h9) rfl dX10_isMet_108 ?_
            refine lv_aload_n hx hb dX10_isMet_111 rfl (lv_at hl 0 rfl) ?_
            refine va_get (D := (dC, dI)) (ci := 10) (v := .int w4) (C := RX10) (T := TX10) (N := 5) hx hb htw inlX10 hown hK hP 0 rfl rfl 4 (by decide) (htw _ (ck_42 _ (List.mem_of_getElem? (i := 8) rfl))) (fun _ h9 => h9) rfl dX10_isMet_112 ?_
            refine lv_aload_n hx hb dX10_isMet_115 rfl (lv_at hl 1 rfl) ?_
            refine lv_aload_n hx hb dX10_isMet_116 rfl (lv_at hl 2 rfl) ?_
            refine va_get (D := (dC, dI)) (ci := 0) (v := .ref bsk) (C := RX0) (T := TX0) (N := 12) hx hb htw inlX0 hown hK hP 2 rfl rfl 3 (by decide) (htw _ (ck_42 _ (List.mem_of_getElem? (i := 20) rfl))) (fun _ h9 => h9) rfl dX10_isMet_117 ?_
            obtain ⟨hPc, hDc, hFc, hCc⟩ := zsub3 (ws' := [(eO8a bru rco rsz ren rst rkn), (eA0 rco cRc 64 fRc), (eA0 ren cRe 4 fRe), (eA1 rst cRs 64 fRs), (mm, .inr (4, [mla, .long ct, .long yr, .long dy, .long lg])), (eO9a bsk wd wf mp mb mo sp sb)]) hP hD hS hA [4, 5, 6, 7, 1, 3] (by decide) rfl
            have hKc := hK.sub (tys' := [(cRc, .int), (cRe, .int), (cRs, .long)]) [0, 1, 2] rfl
            refine va_calli (va_runV (As := [.int w4, .ref mm, .ref bsk]) (rest := []) ⟨hx, hb, hml, hown, htw⟩ (gr_isFeast l dC dI bru rco rsz ren rst rkn cRc fRc cRe fRe cRs fRs mm mla ct yr dy lg bsk wd wf mp mb mo sp sb w4 H.size hE) (cwV 3 htw (xg_V (ck_43 _ (List.mem_of_getElem? (i := 2) rfl)) (ck_39 _ (List.mem_of_getElem? (i := 5) rfl)) (ck_39 _ (List.mem_of_getElem? (i := 6) rfl)) (ck_6 _ (List.mem_of_getElem? (i := 8) rfl)) (ck_39 _ (List.mem_of_getElem? (i := 7) rfl))) rfl rfl rfl (by exact ⟨rfl, hdc_1.1, hdc_1.2, hdd_12⟩) ⟨Nat.le_of_ble_eq_true rfl, Nat.le_of_ble_eq_true rfl⟩) ⟨fun a U g mk q => by obtain ⟨q0, q1, qP, qK, qD⟩ := q; exact ⟨q0, q1, qP, va_K.moved (u := U) (U := U.calling g mk a) (Vm.Alike.refl U.vm) qK, qD⟩, va_recv hKc hPc (ci := 8) (q0 := 0) rfl rfl, fun U hU hW => ⟨rfl, by rw [hU], by rw [hU]; exact hPc, va_K.moved hW.alike hKc, hDc.weaken (fun _ _ _ _ => trivial)⟩⟩ rfl rfl hl.1 rfl (lv_room (Nat.le_of_ble_eq_true rfl)) dX10_isMet_120 ⟨Nat.le_of_ble_eq_true rfl, Nat.le_of_ble_eq_true rfl⟩) hS (fun q _ h => hFc q h) hFc (fun r_6 u_7 t H1 locs ht hvm hw hB hz1 hk1 hS => ?_)
            try dsimp only at hw
            obtain ⟨hP1, hK1, hD1⟩ := hB
            rw [ht] at hP1
            have hK1 := va_K.moved hvm.symm hK1
            have hK1 : va_K (dC, dI) vwCl [] s := hK1
            obtain ⟨hP, hD⟩ := va_join (wr := [(eO10a wi w0 w1 w2 w3 w4), (eO0a bk bto bnm bla bsk bru bbo bdi bda bdk bdt bdp bno)]) (w1 := [(eO8a bru rco rsz ren rst rkn), (eA0 rco cRc 64 fRc), (eA0 ren cRe 4 fRe), (eA1 rst cRs 64 u_7), (mm, .inr (4, [mla, .long ct, .long yr, .long dy, .long lg])), (eO9a bsk wd wf mp mb mo sp sb)]) hP hD [4, 5, 6, 7, 1, 3] [0, 2] hCc rfl (by decide) (by decide) hk1 hFc hP1 hD1
            generalize H1 = H at hP hS ⊢
            obtain ⟨hP, hD⟩ := zre [(eO10a wi w0 w1 w2 w3 w4), (eO0a bk bto bnm bla bsk bru bbo bdi bda bdk bdt bdp bno), (eO8a bru rco rsz ren rst rkn), (eA0 rco cRc 64 fRc), (eA0 ren cRe 4 fRe), (eA1 rst cRs 64 u_7), (mm, .inr (4, [mla, .long ct, .long yr, .long dy, .long lg])), (eO9a bsk wd wf mp mb mo sp sb)] hP hD rfl
            refine W.widen (k := 0) (n := 0) (by omega) (by omega) ?_
            have hq_r_6 : r_6 = (fr_isFeast fRc fRe fRs ct yr dy lg wd wf mp mb mo sp sb w4).1 := hw.1
            have hq_u_7 : u_7 = (fr_isFeast fRc fRe fRs ct yr dy lg wd wf mp mb mo sp sb w4).2 := hw.2
            refine lv_if_eq (tgt := 130) hx hb dX10_isMet_123 (by decide) (fun c_9 => ?_) (fun c_9 => ?_)
            · refine lv_iconst (v := 0) hx hb dX10_isMet_130 (by decide) ?_
              refine W.widen (k := 0) (n := 0) (by omega) (by omega) ?_
              obtain ⟨hP9, hD9⟩ := zsub2 (ws' := [(eO10a wi w0 w1 w2 w3 w4), (mm, .inr (4, [mla, .long ct, .long yr, .long dy, .long lg])), (eO0a bk bto bnm bla bsk bru bbo bdi bda bdk bdt bdp bno), (eO9a bsk wd wf mp mb mo sp sb), (eO8a bru rco rsz ren rst rkn), (eA0 rco cRc 64 fRc), (eA0 ren cRe 4 fRe), (eA1 rst cRs 64 u_7)]) hP hD [0, 6, 1, 7, 2, 3, 4, 5] (by decide +kernel) rfl
              have hK9 := hK.sub (tys' := []) [] rfl
              exact W.zret (v := 0) hx hb hr (by first | rfl | decide) (fun t ht hW => ⟨⟨0, u_7, rfl, ((fun e9 => ⟨by rw [e9], by rw [e9]⟩ : fw_isMet w0 w1 w2 w3 w4 fRc fRe fRs ct yr dy lg wd wf mp mb mo sp sb = ((0 : Int32), u_7) → _) (by rw [fw_isMet]; (try rw [← hq_r_6]); (try rw [← hq_u_7]); (try rw [if_pos c_1]); (try rw [if_pos c_2]); (try rw [if_pos c_3]); (try rw [if_pos c_4]); (try rw [if_neg c_5]); (try rw [if_pos c_9]); try rfl)), by rw [ht]; exact hP9, va_K.moved hW.alike hK9, hD9⟩, hS.F ht⟩) hS.2.2 dX10_isMet_131
            · refine lv_iconst (v := 1) hx hb dX10_isMet_126 (by decide) ?_
              refine lv_goto (tgt := 131) hx hb dX10_isMet_127 (by decide) ?_
              refine W.widen (k := 0) (n := 0) (by omega) (by omega) ?_
              obtain ⟨hP9, hD9⟩ := zsub2 (ws' := [(eO10a wi w0 w1 w2 w3 w4), (mm, .inr (4, [mla, .long ct, .long yr, .long dy, .long lg])), (eO0a bk bto bnm bla bsk bru bbo bdi bda bdk bdt bdp bno), (eO9a bsk wd wf mp mb mo sp sb), (eO8a bru rco rsz ren rst rkn), (eA0 rco cRc 64 fRc), (eA0 ren cRe 4 fRe), (eA1 rst cRs 64 u_7)]) hP hD [0, 6, 1, 7, 2, 3, 4, 5] (by decide +kernel) rfl
              have hK9 := hK.sub (tys' := []) [] rfl
              exact W.zret (v := 1) hx hb hr (by first | rfl | decide) (fun t ht hW => ⟨⟨1, u_7, rfl, ((fun e9 => ⟨by rw [e9], by rw [e9]⟩ : fw_isMet w0 w1 w2 w3 w4 fRc fRe fRs ct yr dy lg wd wf mp mb mo sp sb = ((1 : Int32), u_7) → _) (by rw [fw_isMet]; (try rw [← hq_r_6]); (try rw [← hq_u_7]); (try rw [if_pos c_1]); (try rw [if_pos c_2]); (try rw [if_pos c_3]); (try rw [if_pos c_4]); (try rw [if_neg c_5]); (try rw [if_neg c_9]); try rfl)), by rw [ht]; exact hP9, va_K.moved hW.alike hK9, hD9⟩, hS.F ht⟩) hS.2.2 dX10_isMet_131
        · refine lv_aload_n hx hb dX10_isMet_81 rfl (lv_at hl 2 rfl) ?_
          refine va_get (D := (dC, dI)) (ci := 0) (v := .ref bsk) (C := RX0) (T := TX0) (N := 12) hx hb htw inlX0 hown hK hP 2 rfl rfl 3 (by decide) (htw _ (ck_42 _ (List.mem_of_getElem? (i := 20) rfl))) (fun _ h9 => h9) rfl dX10_isMet_82 ?_
          refine lv_aload_n hx hb dX10_isMet_85 rfl (lv_at hl 1 rfl) ?_
          refine va_get (D := (dC, dI)) (ci := 4) (v := .long ct) (C := RX4) (T := TX4) (N := 5) hx hb htw inlX4 hown hK hP 1 rfl rfl 1 (by decide) (htw _ (ck_42 _ (List.mem_of_getElem? (i := 21) rfl))) (fun _ h9 => h9) rfl dX10_isMet_86 ?_
          have hPc := hP.sub (ws' := [(eO9a bsk wd wf mp mb mo sp sb)]) [3] rfl
          have hKc := hK.sub (tys' := []) [] rfl
          refine vp_callSi (W.runV (As := [.long ct]) (rest := []) ⟨hx, hb, hml, hown, htw⟩ (gs_seasonOf l dC dI bsk wd wf mp mb mo sp sb ct) (cwV 1 htw (xg_V (ck_43 _ (List.mem_of_getElem? (i := 1) rfl)) (ck_37 _ (List.mem_of_getElem? (i := 20) rfl)) (ck_37 _ (List.mem_of_getElem? (i := 21) rfl)) (ck_6 _ (List.mem_of_getElem? (i := 4) rfl)) (ck_37 _ (List.mem_of_getElem? (i := 22) rfl))) rfl rfl rfl (by exact ⟨rfl, hdc_2.1, hdc_2.2, hdd_6⟩) ⟨Nat.le_of_ble_eq_true rfl, Nat.le_of_ble_eq_true rfl⟩) ⟨fun a U g mk q => by obtain ⟨q0, qP, qK⟩ := q; exact ⟨q0, qP, va_K.moved (u := U) (U := U.calling g mk a) (Vm.Alike.refl U.vm) qK⟩, va_recv hKc hPc (ci := 9) (q0 := 0) rfl rfl, fun U hU hW => ⟨rfl, by rw [hU]; exact hPc, va_K.moved hW.alike hKc⟩⟩ rfl rfl hl.1 rfl (lv_room (Nat.le_of_ble_eq_true rfl)) dX10_isMet_89 ⟨Nat.le_of_ble_eq_true rfl, Nat.le_of_ble_eq_true rfl⟩) (fun r_10 hw => ?_)
          try dsimp only at hw
          have hq_r_10 : r_10 = fs_seasonOf wd wf mp mb mo sp sb ct := hw
          refine lv_aload_n hx hb dX10_isMet_92 rfl (lv_at hl 0 rfl) ?_
          refine va_get (D := (dC, dI)) (ci := 10) (v := .int w3) (C := RX10) (T := TX10) (N := 5) hx hb htw inlX10 hown hK hP 0 rfl rfl 3 (by decide) (htw _ (ck_42 _ (List.mem_of_getElem? (i := 7) rfl))) (fun _ h9 => h9) rfl dX10_isMet_93 ?_
          refine lv_icmp_ne (tgt := 130) hx hb dX10_isMet_96 (by decide) (fun c_11 => ?_) (fun c_11 => ?_)
          · refine lv_iconst (v := 0) hx hb dX10_isMet_130 (by decide) ?_
            refine W.widen (k := 0) (n := 0) (by omega) (by omega) ?_
            have hP9 := hP
            have hD9 := hD
            have hK9 := hK.sub (tys' := []) [] rfl
            exact W.zret (v := 0) hx hb hr (by first | rfl | decide) (fun t ht hW => ⟨⟨0, fRs, rfl, ((fun e9 => ⟨by rw [e9], by rw [e9]⟩ : fw_isMet w0 w1 w2 w3 w4 fRc fRe fRs ct yr dy lg wd wf mp mb mo sp sb = ((0 : Int32), fRs) → _) (by rw [fw_isMet]; (try rw [← hq_r_10]); (try rw [if_pos c_1]); (try rw [if_pos c_2]); (try rw [if_pos c_3]); (try rw [if_neg c_4]); (try rw [if_neg c_11]); try rfl)), by rw [ht]; exact hP9, va_K.moved hW.alike hK9, hD9⟩, hS.F ht⟩) hS.2.2 dX10_isMet_131
          · refine lv_aload_n hx hb dX10_isMet_99 rfl (lv_at hl 0 rfl) ?_
            refine va_get (D := (dC, dI)) (ci := 10) (v := .int w4) (C := RX10) (T := TX10) (N := 5) hx hb htw inlX10 hown hK hP 0 rfl rfl 4 (by decide) (htw _ (ck_42 _ (List.mem_of_getElem? (i := 8) rfl))) (fun _ h9 => h9) rfl dX10_isMet_100 ?_
            refine lv_iconst (v := (-1)) hx hb dX10_isMet_103 (by decide) ?_
            refine lv_icmp_eq (tgt := 126) hx hb dX10_isMet_104 (by decide) (fun c_12 => ?_) (fun c_12 => ?_)
            · refine lv_iconst (v := 1) hx hb dX10_isMet_126 (by decide) ?_
              refine lv_goto (tgt := 131) hx hb dX10_isMet_127 (by decide) ?_
              refine W.widen (k := 0) (n := 0) (by omega) (by omega) ?_
              have hP9 := hP
              have hD9 := hD
              have hK9 := hK.sub (tys' := []) [] rfl
              exact W.zret (v := 1) hx hb hr (by first | rfl | decide) (fun t ht hW => ⟨⟨1, fRs, rfl, ((fun e9 => ⟨by rw [e9], by rw [e9]⟩ : fw_isMet w0 w1 w2 w3 w4 fRc fRe fRs ct yr dy lg wd wf mp mb mo sp sb = ((1 : Int32), fRs) → _) (by rw [fw_isMet]; (try rw [← hq_r_10]); (try rw [if_pos c_1]); (try rw [if_pos c_2]); (try rw [if_pos c_3]); (try rw [if_neg c_4]); (try rw [if_pos c_11]); (try rw [if_pos c_12]); try rfl)), by rw [ht]; exact hP9, va_K.moved hW.alike hK9, hD9⟩, hS.F ht⟩) hS.2.2 dX10_isMet_131
            · refine lv_aload_n hx hb dX10_isMet_107 rfl (lv_at hl 2 rfl) ?_
              refine va_get (D := (dC, dI)) (ci := 0) (v := .ref bru) (C := RX0) (T := TX0) (N := 12) hx hb htw inlX0 hown hK hP 2 rfl rfl 4 (by decide) (htw _ (ck_42 _ (List.mem_of_getElem? (i := 22) rfl))) (fun _ h9 => h9) rfl dX10_isMet_108 ?_
              refine lv_aload_n hx hb dX10_isMet_111 rfl (lv_at hl 0 rfl) ?_
              refine va_get (D := (dC, dI)) (ci := 10) (v := .int w4) (C := RX10) (T := TX10) (N := 5) hx hb htw inlX10 hown hK hP 0 rfl rfl 4 (by decide) (htw _ (ck_42 _ (List.mem_of_getElem? (i := 8) rfl))) (fun _ h9 => h9) rfl dX10_isMet_112 ?_
              refine lv_aload_n hx hb dX10_isMet_115 rfl (lv_at hl 1 rfl) ?_
              refine lv_aload_n hx hb dX10_isMet_116 rfl (lv_at hl 2 rfl) ?_
              refine va_get (D := (dC, dI)) (ci := 0) (v := .ref bsk) (C := RX0) (T := TX0) (N := 12) hx hb htw inlX0 hown hK hP 2 rfl rfl 3 (by decide) (htw _ (ck_42 _ (List.mem_of_getElem? (i := 20) rfl))) (fun _ h9 => h9) rfl dX10_isMet_117 ?_
              obtain ⟨hPc, hDc, hFc, hCc⟩ := zsub3 (ws' := [(eO8a bru rco rsz ren rst rkn), (eA0 rco cRc 64 fRc), (eA0 ren cRe 4 fRe), (eA1 rst cRs 64 fRs), (mm, .inr (4, [mla, .long ct, .long yr, .long dy, .long lg])), (eO9a bsk wd wf mp mb mo sp sb)]) hP hD hS hA [4, 5, 6, 7, 1, 3] (by decide) rfl
              have hKc := hK.sub (tys' := [(cRc, .int), (cRe, .int), (cRs, .long)]) [0, 1, 2] rfl
              refine va_calli (va_runV (As := [.int w4, .ref mm, .ref bsk]) (rest := []) ⟨hx, hb, hml, hown, htw⟩ (gr_isFeast l dC dI bru rco rsz ren rst rkn cRc fRc cRe fRe cRs fRs mm mla ct yr dy lg bsk wd wf mp mb mo sp sb w4 H.size hE) (cwV 3 htw (xg_V (ck_43 _ (List.mem_of_getElem? (i := 2) rfl)) (ck_39 _ (List.mem_of_getElem? (i := 5) rfl)) (ck_39 _ (List.mem_of_getElem? (i := 6) rfl)) (ck_6 _ (List.mem_of_getElem? (i := 8) rfl)) (ck_39 _ (List.mem_of_getElem? (i := 7) rfl))) rfl rfl rfl (by exact ⟨rfl, hdc_1.1, hdc_1.2, hdd_12⟩) ⟨Nat.le_of_ble_eq_true rfl, Nat.le_of_ble_eq_true rfl⟩) ⟨fun a U g mk q => by obtain ⟨q0, q1, qP, qK, qD⟩ := q; exact ⟨q0, q1, qP, va_K.moved (u := U) (U := U.calling g mk a) (Vm.Alike.refl U.vm) qK, qD⟩, va_recv hKc hPc (ci := 8) (q0 := 0) rfl rfl, fun U hU hW => ⟨rfl, by rw [hU], by rw [hU]; exact hPc, va_K.moved hW.alike hKc, hDc.weaken (fun _ _ _ _ => trivial)⟩⟩ rfl rfl hl.1 rfl (lv_room (Nat.le_of_ble_eq_true rfl)) dX10_isMet_120 ⟨Nat.le_of_ble_eq_true rfl, Nat.le_of_ble_eq_true rfl⟩) hS (fun q _ h => hFc q h) hFc (fun r_13 u_14 t H1 locs ht hvm hw hB hz1 hk1 hS => ?_)
              try dsimp only at hw
              obtain ⟨hP1, hK1, hD1⟩ := hB
              rw [ht] at hP1
              have hK1 := va_K.moved hvm.symm hK1
              have hK1 : va_K (dC, dI) vwCl [] s := hK1
              obtain ⟨hP, hD⟩ := va_join (wr := [(eO10a wi w0 w1 w2 w3 w4), (eO0a bk bto bnm bla bsk bru bbo bdi bda bdk bdt bdp bno)]) (w1 := [(eO8a bru rco rsz ren rst rkn), (eA0 rco cRc 64 fRc), (eA0 ren cRe 4 fRe), (eA1 rst cRs 64 u_14), (mm, .inr (4, [mla, .long ct, .long yr, .long dy, .long lg])), (eO9a bsk wd wf mp mb mo sp sb)]) hP hD [4, 5, 6, 7, 1, 3] [0, 2] hCc rfl (by decide) (by decide) hk1 hFc hP1 hD1
              generalize H1 = H at hP hS ⊢
              obtain ⟨hP, hD⟩ := zre [(eO10a wi w0 w1 w2 w3 w4), (eO0a bk bto bnm bla bsk bru bbo bdi bda bdk bdt bdp bno), (eO8a bru rco rsz ren rst rkn), (eA0 rco cRc 64 fRc), (eA0 ren cRe 4 fRe), (eA1 rst cRs 64 u_14), (mm, .inr (4, [mla, .long ct, .long yr, .long dy, .long lg])), (eO9a bsk wd wf mp mb mo sp sb)] hP hD rfl
              refine W.widen (k := 0) (n := 0) (by omega) (by omega) ?_
              have hq_r_13 : r_13 = (fr_isFeast fRc fRe fRs ct yr dy lg wd wf mp mb mo sp sb w4).1 := hw.1
              have hq_u_14 : u_14 = (fr_isFeast fRc fRe fRs ct yr dy lg wd wf mp mb mo sp sb w4).2 := hw.2
              refine lv_if_eq (tgt := 130) hx hb dX10_isMet_123 (by decide) (fun c_16 => ?_) (fun c_16 => ?_)
              · refine lv_iconst (v := 0) hx hb dX10_isMet_130 (by decide) ?_
                refine W.widen (k := 0) (n := 0) (by omega) (by omega) ?_
                obtain ⟨hP9, hD9⟩ := zsub2 (ws' := [(eO10a wi w0 w1 w2 w3 w4), (mm, .inr (4, [mla, .long ct, .long yr, .long dy, .long lg])), (eO0a bk bto bnm bla bsk bru bbo bdi bda bdk bdt bdp bno), (eO9a bsk wd wf mp mb mo sp sb), (eO8a bru rco rsz ren rst rkn), (eA0 rco cRc 64 fRc), (eA0 ren cRe 4 fRe), (eA1 rst cRs 64 u_14)]) hP hD [0, 6, 1, 7, 2, 3, 4, 5] (by decide +kernel) rfl
                have hK9 := hK.sub (tys' := []) [] rfl
                exact W.zret (v := 0) hx hb hr (by first | rfl | decide) (fun t ht hW => ⟨⟨0, u_14, rfl, ((fun e9 => ⟨by rw [e9], by rw [e9]⟩ : fw_isMet w0 w1 w2 w3 w4 fRc fRe fRs ct yr dy lg wd wf mp mb mo sp sb = ((0 : Int32), u_14) → _) (by rw [fw_isMet]; (try rw [← hq_r_10]); (try rw [← hq_r_13]); (try rw [← hq_u_14]); (try rw [if_pos c_1]); (try rw [if_pos c_2]); (try rw [if_pos c_3]); (try rw [if_neg c_4]); (try rw [if_pos c_11]); (try rw [if_neg c_12]); (try rw [if_pos c_16]); try rfl)), by rw [ht]; exact hP9, va_K.moved hW.alike hK9, hD9⟩, hS.F ht⟩) hS.2.2 dX10_isMet_131
              · refine lv_iconst (v := 1) hx hb dX10_isMet_126 (by decide) ?_
                refine lv_goto (tgt := 131) hx hb dX10_isMet_127 (by decide) ?_
                refine W.widen (k := 0) (n := 0) (by omega) (by omega) ?_
                obtain ⟨hP9, hD9⟩ := zsub2 (ws' := [(eO10a wi w0 w1 w2 w3 w4), (mm, .inr (4, [mla, .long ct, .long yr, .long dy, .long lg])), (eO0a bk bto bnm bla bsk bru bbo bdi bda bdk bdt bdp bno), (eO9a bsk wd wf mp mb mo sp sb), (eO8a bru rco rsz ren rst rkn), (eA0 rco cRc 64 fRc), (eA0 ren cRe 4 fRe), (eA1 rst cRs 64 u_14)]) hP hD [0, 6, 1, 7, 2, 3, 4, 5] (by decide +kernel) rfl
                have hK9 := hK.sub (tys' := []) [] rfl
                exact W.zret (v := 1) hx hb hr (by first | rfl | decide) (fun t ht hW => ⟨⟨1, u_14, rfl, ((fun e9 => ⟨by rw [e9], by rw [e9]⟩ : fw_isMet w0 w1 w2 w3 w4 fRc fRe fRs ct yr dy lg wd wf mp mb mo sp sb = ((1 : Int32), u_14) → _) (by rw [fw_isMet]; (try rw [← hq_r_10]); (try rw [← hq_r_13]); (try rw [← hq_u_14]); (try rw [if_pos c_1]); (try rw [if_pos c_2]); (try rw [if_pos c_3]); (try rw [if_neg c_4]); (try rw [if_pos c_11]); (try rw [if_neg c_12]); (try rw [if_neg c_16]); try rfl)), by rw [ht]; exact hP9, va_K.moved hW.alike hK9, hD9⟩, hS.F ht⟩) hS.2.2 dX10_isMet_131
      · refine lv_aload_n hx hb dX10_isMet_55 rfl (lv_at hl 2 rfl) ?_
        refine va_get (D := (dC, dI)) (ci := 0) (v := .ref bsk) (C := RX0) (T := TX0) (N := 12) hx hb htw inlX0 hown hK hP 2 rfl rfl 3 (by decide) (htw _ (ck_42 _ (List.mem_of_getElem? (i := 20) rfl))) (fun _ h9 => h9) rfl dX10_isMet_56 ?_
        refine lv_aload_n hx hb dX10_isMet_59 rfl (lv_at hl 1 rfl) ?_
        refine va_get (D := (dC, dI)) (ci := 4) (v := .long ct) (C := RX4) (T := TX4) (N := 5) hx hb htw inlX4 hown hK hP 1 rfl rfl 1 (by decide) (htw _ (ck_42 _ (List.mem_of_getElem? (i := 21) rfl))) (fun _ h9 => h9) rfl dX10_isMet_60 ?_
        have hPc := hP.sub (ws' := [(eO9a bsk wd wf mp mb mo sp sb)]) [3] rfl
        have hKc := hK.sub (tys' := []) [] rfl
        refine vp_callSi (W.runV (As := [.long ct]) (rest := []) ⟨hx, hb, hml, hown, htw⟩ (gs_moonOf l dC dI bsk wd wf mp mb mo sp sb ct) (cwV 1 htw (xg_V (ck_43 _ (List.mem_of_getElem? (i := 0) rfl)) (ck_37 _ (List.mem_of_getElem? (i := 15) rfl)) (ck_37 _ (List.mem_of_getElem? (i := 16) rfl)) (ck_6 _ (List.mem_of_getElem? (i := 4) rfl)) (ck_37 _ (List.mem_of_getElem? (i := 17) rfl))) rfl rfl rfl (by exact ⟨rfl, hdc_2.1, hdc_2.2, hdd_6⟩) ⟨Nat.le_of_ble_eq_true rfl, Nat.le_of_ble_eq_true rfl⟩) ⟨fun a U g mk q => by obtain ⟨q0, qP, qK⟩ := q; exact ⟨q0, qP, va_K.moved (u := U) (U := U.calling g mk a) (Vm.Alike.refl U.vm) qK⟩, va_recv hKc hPc (ci := 9) (q0 := 0) rfl rfl, fun U hU hW => ⟨rfl, by rw [hU]; exact hPc, va_K.moved hW.alike hKc⟩⟩ rfl rfl hl.1 rfl (lv_room (Nat.le_of_ble_eq_true rfl)) dX10_isMet_63 ⟨Nat.le_of_ble_eq_true rfl, Nat.le_of_ble_eq_true rfl⟩) (fun r_17 hw => ?_)
        try dsimp only at hw
        have hq_r_17 : r_17 = fs_moonOf wd wf mp mb mo sp sb ct := hw
        refine lv_aload_n hx hb dX10_isMet_66 rfl (lv_at hl 0 rfl) ?_
        refine va_get (D := (dC, dI)) (ci := 10) (v := .int w2) (C := RX10) (T := TX10) (N := 5) hx hb htw inlX10 hown hK hP 0 rfl rfl 2 (by decide) (htw _ (ck_42 _ (List.mem_of_getElem? (i := 6) rfl))) (fun _ h9 => h9) rfl dX10_isMet_67 ?_
        refine lv_icmp_ne (tgt := 130) hx hb dX10_isMet_70 (by decide) (fun c_18 => ?_) (fun c_18 => ?_)
        · refine lv_iconst (v := 0) hx hb dX10_isMet_130 (by decide) ?_
          refine W.widen (k := 0) (n := 0) (by omega) (by omega) ?_
          have hP9 := hP
          have hD9 := hD
          have hK9 := hK.sub (tys' := []) [] rfl
          exact W.zret (v := 0) hx hb hr (by first | rfl | decide) (fun t ht hW => ⟨⟨0, fRs, rfl, ((fun e9 => ⟨by rw [e9], by rw [e9]⟩ : fw_isMet w0 w1 w2 w3 w4 fRc fRe fRs ct yr dy lg wd wf mp mb mo sp sb = ((0 : Int32), fRs) → _) (by rw [fw_isMet]; (try rw [← hq_r_17]); (try rw [if_pos c_1]); (try rw [if_pos c_2]); (try rw [if_neg c_3]); (try rw [if_neg c_18]); try rfl)), by rw [ht]; exact hP9, va_K.moved hW.alike hK9, hD9⟩, hS.F ht⟩) hS.2.2 dX10_isMet_131
        · refine lv_aload_n hx hb dX10_isMet_73 rfl (lv_at hl 0 rfl) ?_
          refine va_get (D := (dC, dI)) (ci := 10) (v := .int w3) (C := RX10) (T := TX10) (N := 5) hx hb htw inlX10 hown hK hP 0 rfl rfl 3 (by decide) (htw _ (ck_42 _ (List.mem_of_getElem? (i := 7) rfl))) (fun _ h9 => h9) rfl dX10_isMet_74 ?_
          refine lv_iconst (v := (-1)) hx hb dX10_isMet_77 (by decide) ?_
          refine lv_icmp_eq (tgt := 99) hx hb dX10_isMet_78 (by decide) (fun c_19 => ?_) (fun c_19 => ?_)
          · refine lv_aload_n hx hb dX10_isMet_99 rfl (lv_at hl 0 rfl) ?_
            refine va_get (D := (dC, dI)) (ci := 10) (v := .int w4) (C := RX10) (T := TX10) (N := 5) hx hb htw inlX10 hown hK hP 0 rfl rfl 4 (by decide) (htw _ (ck_42 _ (List.mem_of_getElem? (i := 8) rfl))) (fun _ h9 => h9) rfl dX10_isMet_100 ?_
            refine lv_iconst (v := (-1)) hx hb dX10_isMet_103 (by decide) ?_
            refine lv_icmp_eq (tgt := 126) hx hb dX10_isMet_104 (by decide) (fun c_20 => ?_) (fun c_20 => ?_)
            · refine lv_iconst (v := 1) hx hb dX10_isMet_126 (by decide) ?_
              refine lv_goto (tgt := 131) hx hb dX10_isMet_127 (by decide) ?_
              refine W.widen (k := 0) (n := 0) (by omega) (by omega) ?_
              have hP9 := hP
              have hD9 := hD
              have hK9 := hK.sub (tys' := []) [] rfl
              exact W.zret (v := 1) hx hb hr (by first | rfl | decide) (fun t ht hW => ⟨⟨1, fRs, rfl, ((fun e9 => ⟨by rw [e9], by rw [e9]⟩ : fw_isMet w0 w1 w2 w3 w4 fRc fRe fRs ct yr dy lg wd wf mp mb mo sp sb = ((1 : Int32), fRs) → _) (by rw [fw_isMet]; (try rw [← hq_r_17]); (try rw [if_pos c_1]); (try rw [if_pos c_2]); (try rw [if_neg c_3]); (try rw [if_pos c_18]); (try rw [if_pos c_19]); (try rw [if_pos c_20]); try rfl)), by rw [ht]; exact hP9, va_K.moved hW.alike hK9, hD9⟩, hS.F ht⟩) hS.2.2 dX10_isMet_131
            · refine lv_aload_n hx hb dX10_isMet_107 rfl (lv_at hl 2 rfl) ?_
              refine va_get (D := (dC, dI)) (ci := 0) (v := .ref bru) (C := RX0) (T := TX0) (N := 12) hx hb htw inlX0 hown hK hP 2 rfl rfl 4 (by decide) (htw _ (ck_42 _ (List.mem_of_getElem? (i := 22) rfl))) (fun _ h9 => h9) rfl dX10_isMet_108 ?_
              refine lv_aload_n hx hb dX10_isMet_111 rfl (lv_at hl 0 rfl) ?_
              refine va_get (D := (dC, dI)) (ci := 10) (v := .int w4) (C := RX10) (T := TX10) (N := 5) hx hb htw inlX10 hown hK hP 0 rfl rfl 4 (by decide) (htw _ (ck_42 _ (List.mem_of_getElem? (i := 8) rfl))) (fun _ h9 => h9) rfl dX10_isMet_112 ?_
              refine lv_aload_n hx hb dX10_isMet_115 rfl (lv_at hl 1 rfl) ?_
              refine lv_aload_n hx hb dX10_isMet_116 rfl (lv_at hl 2 rfl) ?_
              refine va_get (D := (dC, dI)) (ci := 0) (v := .ref bsk) (C := RX0) (T := TX0) (N := 12) hx hb htw inlX0 hown hK hP 2 rfl rfl 3 (by decide) (htw _ (ck_42 _ (List.mem_of_getElem? (i := 20) rfl))) (fun _ h9 => h9) rfl dX10_isMet_117 ?_
              obtain ⟨hPc, hDc, hFc, hCc⟩ := zsub3 (ws' := [(eO8a bru rco rsz ren rst rkn), (eA0 rco cRc 64 fRc), (eA0 ren cRe 4 fRe), (eA1 rst cRs 64 fRs), (mm, .inr (4, [mla, .long ct, .long yr, .long dy, .long lg])), (eO9a bsk wd wf mp mb mo sp sb)]) hP hD hS hA [4, 5, 6, 7, 1, 3] (by decide) rfl
              have hKc := hK.sub (tys' := [(cRc, .int), (cRe, .int), (cRs, .long)]) [0, 1, 2] rfl
              refine va_calli (va_runV (As := [.int w4, .ref mm, .ref bsk]) (rest := []) ⟨hx, hb, hml, hown, htw⟩ (gr_isFeast l dC dI bru rco rsz ren rst rkn cRc fRc cRe fRe cRs fRs mm mla ct yr dy lg bsk wd wf mp mb mo sp sb w4 H.size hE) (cwV 3 htw (xg_V (ck_43 _ (List.mem_of_getElem? (i := 2) rfl)) (ck_39 _ (List.mem_of_getElem? (i := 5) rfl)) (ck_39 _ (List.mem_of_getElem? (i := 6) rfl)) (ck_6 _ (List.mem_of_getElem? (i := 8) rfl)) (ck_39 _ (List.mem_of_getElem? (i := 7) rfl))) rfl rfl rfl (by exact ⟨rfl, hdc_1.1, hdc_1.2, hdd_12⟩) ⟨Nat.le_of_ble_eq_true rfl, Nat.le_of_ble_eq_true rfl⟩) ⟨fun a U g mk q => by obtain ⟨q0, q1, qP, qK, qD⟩ := q; exact ⟨q0, q1, qP, va_K.moved (u := U) (U := U.calling g mk a) (Vm.Alike.refl U.vm) qK, qD⟩, va_recv hKc hPc (ci := 8) (q0 := 0) rfl rfl, fun U hU hW => ⟨rfl, by rw [hU], by rw [hU]; exact hPc, va_K.moved hW.alike hKc, hDc.weaken (fun _ _ _ _ => trivial)⟩⟩ rfl rfl hl.1 rfl (lv_room (Nat.le_of_ble_eq_true rfl)) dX10_isMet_120 ⟨Nat.le_of_ble_eq_true rfl, Nat.le_of_ble_eq_true rfl⟩) hS (fun q _ h => hFc q h) hFc (fun r_21 u_22 t H1 locs ht hvm hw hB hz1 hk1 hS => ?_)
              try dsimp only at hw
              obtain ⟨hP1, hK1, hD1⟩ := hB
              rw [ht] at hP1
              have hK1 := va_K.moved hvm.symm hK1
              have hK1 : va_K (dC, dI) vwCl [] s := hK1
              obtain ⟨hP, hD⟩ := va_join (wr := [(eO10a wi w0 w1 w2 w3 w4), (eO0a bk bto bnm bla bsk bru bbo bdi bda bdk bdt bdp bno)]) (w1 := [(eO8a bru rco rsz ren rst rkn), (eA0 rco cRc 64 fRc), (eA0 ren cRe 4 fRe), (eA1 rst cRs 64 u_22), (mm, .inr (4, [mla, .long ct, .long yr, .long dy, .long lg])), (eO9a bsk wd wf mp mb mo sp sb)]) hP hD [4, 5, 6, 7, 1, 3] [0, 2] hCc rfl (by decide) (by decide) hk1 hFc hP1 hD1
              generalize H1 = H at hP hS ⊢
              obtain ⟨hP, hD⟩ := zre [(eO10a wi w0 w1 w2 w3 w4), (eO0a bk bto bnm bla bsk bru bbo bdi bda bdk bdt bdp bno), (eO8a bru rco rsz ren rst rkn), (eA0 rco cRc 64 fRc), (eA0 ren cRe 4 fRe), (eA1 rst cRs 64 u_22), (mm, .inr (4, [mla, .long ct, .long yr, .long dy, .long lg])), (eO9a bsk wd wf mp mb mo sp sb)] hP hD rfl
              refine W.widen (k := 0) (n := 0) (by omega) (by omega) ?_
              have hq_r_21 : r_21 = (fr_isFeast fRc fRe fRs ct yr dy lg wd wf mp mb mo sp sb w4).1 := hw.1
              have hq_u_22 : u_22 = (fr_isFeast fRc fRe fRs ct yr dy lg wd wf mp mb mo sp sb w4).2 := hw.2
              refine lv_if_eq (tgt := 130) hx hb dX10_isMet_123 (by decide) (fun c_24 => ?_) (fun c_24 => ?_)
              · refine lv_iconst (v := 0) hx hb dX10_isMet_130 (by decide) ?_
                refine W.widen (k := 0) (n := 0) (by omega) (by omega) ?_
                obtain ⟨hP9, hD9⟩ := zsub2 (ws' := [(eO10a wi w0 w1 w2 w3 w4), (mm, .inr (4, [mla, .long ct, .long yr, .long dy, .long lg])), (eO0a bk bto bnm bla bsk bru bbo bdi bda bdk bdt bdp bno), (eO9a bsk wd wf mp mb mo sp sb), (eO8a bru rco rsz ren rst rkn), (eA0 rco cRc 64 fRc), (eA0 ren cRe 4 fRe), (eA1 rst cRs 64 u_22)]) hP hD [0, 6, 1, 7, 2, 3, 4, 5] (by decide +kernel) rfl
                have hK9 := hK.sub (tys' := []) [] rfl
                exact W.zret (v := 0) hx hb hr (by first | rfl | decide) (fun t ht hW => ⟨⟨0, u_22, rfl, ((fun e9 => ⟨by rw [e9], by rw [e9]⟩ : fw_isMet w0 w1 w2 w3 w4 fRc fRe fRs ct yr dy lg wd wf mp mb mo sp sb = ((0 : Int32), u_22) → _) (by rw [fw_isMet]; (try rw [← hq_r_17]); (try rw [← hq_r_21]); (try rw [← hq_u_22]); (try rw [if_pos c_1]); (try rw [if_pos c_2]); (try rw [if_neg c_3]); (try rw [if_pos c_18]); (try rw [if_pos c_19]); (try rw [if_neg c_20]); (try rw [if_pos c_24]); try rfl)), by rw [ht]; exact hP9, va_K.moved hW.alike hK9, hD9⟩, hS.F ht⟩) hS.2.2 dX10_isMet_131
              · refine lv_iconst (v := 1) hx hb dX10_isMet_126 (by decide) ?_
                refine lv_goto (tgt := 131) hx hb dX10_isMet_127 (by decide) ?_
                refine W.widen (k := 0) (n := 0) (by omega) (by omega) ?_
                obtain ⟨hP9, hD9⟩ := zsub2 (ws' := [(eO10a wi w0 w1 w2 w3 w4), (mm, .inr (4, [mla, .long ct, .long yr, .long dy, .long lg])), (eO0a bk bto bnm bla bsk bru bbo bdi bda bdk bdt bdp bno), (eO9a bsk wd wf mp mb mo sp sb), (eO8a bru rco rsz ren rst rkn), (eA0 rco cRc 64 fRc), (eA0 ren cRe 4 fRe), (eA1 rst cRs 64 u_22)]) hP hD [0, 6, 1, 7, 2, 3, 4, 5] (by decide +kernel) rfl
                have hK9 := hK.sub (tys' := []) [] rfl
                exact W.zret (v := 1) hx hb hr (by first | rfl | decide) (fun t ht hW => ⟨⟨1, u_22, rfl, ((fun e9 => ⟨by rw [e9], by rw [e9]⟩ : fw_isMet w0 w1 w2 w3 w4 fRc fRe fRs ct yr dy lg wd wf mp mb mo sp sb = ((1 : Int32), u_22) → _) (by rw [fw_isMet]; (try rw [← hq_r_17]); (try rw [← hq_r_21]); (try rw [← hq_u_22]); (try rw [if_pos c_1]); (try rw [if_pos c_2]); (try rw [if_neg c_3]); (try rw [if_pos c_18]); (try rw [if_pos c_19]); (try rw [if_neg c_20]); (try rw [if_neg c_24]); try rfl)), by rw [ht]; exact hP9, va_K.moved hW.alike hK9, hD9⟩, hS.F ht⟩) hS.2.2 dX10_isMet_131
          · refine lv_aload_n hx hb dX10_isMet_81 rfl (lv_at hl 2 rfl) ?_
            refine va_get (D := (dC, dI)) (ci := 0) (v := .ref bsk) (C := RX0) (T := TX0) (N := 12) hx hb htw inlX0 hown hK hP 2 rfl rfl 3 (by decide) (htw _ (ck_42 _ (List.mem_of_getElem? (i := 20) rfl))) (fun _ h9 => h9) rfl dX10_isMet_82 ?_
            refine lv_aload_n hx hb dX10_isMet_85 rfl (lv_at hl 1 rfl) ?_
            refine va_get (D := (dC, dI)) (ci := 4) (v := .long ct) (C := RX4) (T := TX4) (N := 5) hx hb htw inlX4 hown hK hP 1 rfl rfl 1 (by decide) (htw _ (ck_42 _ (List.mem_of_getElem? (i := 21) rfl))) (fun _ h9 => h9) rfl dX10_isMet_86 ?_
            have hPc := hP.sub (ws' := [(eO9a bsk wd wf mp mb mo sp sb)]) [3] rfl
            have hKc := hK.sub (tys' := []) [] rfl
            refine vp_callSi (W.runV (As := [.long ct]) (rest := []) ⟨hx, hb, hml, hown, htw⟩ (gs_seasonOf l dC dI bsk wd wf mp mb mo sp sb ct) (cwV 1 htw (xg_V (ck_43 _ (List.mem_of_getElem? (i := 1) rfl)) (ck_37 _ (List.mem_of_getElem? (i := 20) rfl)) (ck_37 _ (List.mem_of_getElem? (i := 21) rfl)) (ck_6 _ (List.mem_of_getElem? (i := 4) rfl)) (ck_37 _ (List.mem_of_getElem? (i := 22) rfl))) rfl rfl rfl (by exact ⟨rfl, hdc_2.1, hdc_2.2, hdd_6⟩) ⟨Nat.le_of_ble_eq_true rfl, Nat.le_of_ble_eq_true rfl⟩) ⟨fun a U g mk q => by obtain ⟨q0, qP, qK⟩ := q; exact ⟨q0, qP, va_K.moved (u := U) (U := U.calling g mk a) (Vm.Alike.refl U.vm) qK⟩, va_recv hKc hPc (ci := 9) (q0 := 0) rfl rfl, fun U hU hW => ⟨rfl, by rw [hU]; exact hPc, va_K.moved hW.alike hKc⟩⟩ rfl rfl hl.1 rfl (lv_room (Nat.le_of_ble_eq_true rfl)) dX10_isMet_89 ⟨Nat.le_of_ble_eq_true rfl, Nat.le_of_ble_eq_true rfl⟩) (fun r_25 hw => ?_)
            try dsimp only at hw
            have hq_r_25 : r_25 = fs_seasonOf wd wf mp mb mo sp sb ct := hw
            refine lv_aload_n hx hb dX10_isMet_92 rfl (lv_at hl 0 rfl) ?_
            refine va_get (D := (dC, dI)) (ci := 10) (v := .int w3) (C := RX10) (T := TX10) (N := 5) hx hb htw inlX10 hown hK hP 0 rfl rfl 3 (by decide) (htw _ (ck_42 _ (List.mem_of_getElem? (i := 7) rfl))) (fun _ h9 => h9) rfl dX10_isMet_93 ?_
            refine lv_icmp_ne (tgt := 130) hx hb dX10_isMet_96 (by decide) (fun c_26 => ?_) (fun c_26 => ?_)
            · refine lv_iconst (v := 0) hx hb dX10_isMet_130 (by decide) ?_
              refine W.widen (k := 0) (n := 0) (by omega) (by omega) ?_
              have hP9 := hP
              have hD9 := hD
              have hK9 := hK.sub (tys' := []) [] rfl
              exact W.zret (v := 0) hx hb hr (by first | rfl | decide) (fun t ht hW => ⟨⟨0, fRs, rfl, ((fun e9 => ⟨by rw [e9], by rw [e9]⟩ : fw_isMet w0 w1 w2 w3 w4 fRc fRe fRs ct yr dy lg wd wf mp mb mo sp sb = ((0 : Int32), fRs) → _) (by rw [fw_isMet]; (try rw [← hq_r_17]); (try rw [← hq_r_25]); (try rw [if_pos c_1]); (try rw [if_pos c_2]); (try rw [if_neg c_3]); (try rw [if_pos c_18]); (try rw [if_neg c_19]); (try rw [if_neg c_26]); try rfl)), by rw [ht]; exact hP9, va_K.moved hW.alike hK9, hD9⟩, hS.F ht⟩) hS.2.2 dX10_isMet_131
            · refine lv_aload_n hx hb dX10_isMet_99 rfl (lv_at hl 0 rfl) ?_
              refine va_get (D := (dC, dI)) (ci := 10) (v := .int w4) (C := RX10) (T := TX10) (N := 5) hx hb htw inlX10 hown hK hP 0 rfl rfl 4 (by decide) (htw _ (ck_42 _ (List.mem_of_getElem? (i := 8) rfl))) (fun _ h9 => h9) rfl dX10_isMet_100 ?_
              refine lv_iconst (v := (-1)) hx hb dX10_isMet_103 (by decide) ?_
              refine lv_icmp_eq (tgt := 126) hx hb dX10_isMet_104 (by decide) (fun c_27 => ?_) (fun c_27 => ?_)
              · refine lv_iconst (v := 1) hx hb dX10_isMet_126 (by decide) ?_
                refine lv_goto (tgt := 131) hx hb dX10_isMet_127 (by decide) ?_
                refine W.widen (k := 0) (n := 0) (by omega) (by omega) ?_
                have hP9 := hP
                have hD9 := hD
                have hK9 := hK.sub (tys' := []) [] rfl
                exact W.zret (v := 1) hx hb hr (by first | rfl | decide) (fun t ht hW => ⟨⟨1, fRs, rfl, ((fun e9 => ⟨by rw [e9], by rw [e9]⟩ : fw_isMet w0 w1 w2 w3 w4 fRc fRe fRs ct yr dy lg wd wf mp mb mo sp sb = ((1 : Int32), fRs) → _) (by rw [fw_isMet]; (try rw [← hq_r_17]); (try rw [← hq_r_25]); (try rw [if_pos c_1]); (try rw [if_pos c_2]); (try rw [if_neg c_3]); (try rw [if_pos c_18]); (try rw [if_neg c_19]); (try rw [if_pos c_26]); (try rw [if_pos c_27]); try rfl)), by rw [ht]; exact hP9, va_K.moved hW.alike hK9, hD9⟩, hS.F ht⟩) hS.2.2 dX10_isMet_131
              · refine lv_aload_n hx hb dX10_isMet_107 rfl (lv_at hl 2 rfl) ?_
                refine va_get (D := (dC, dI)) (ci := 0) (v := .ref bru) (C := RX0) (T := TX0) (N := 12) hx hb htw inlX0 hown hK hP 2 rfl rfl 4 (by decide) (htw _ (ck_42 _ (List.mem_of_getElem? (i := 22) rfl))) (fun _ h9 => h9) rfl dX10_isMet_108 ?_
                refine lv_aload_n hx hb dX10_isMet_111 rfl (lv_at hl 0 rfl) ?_
                refine va_get (D := (dC, dI)) (ci := 10) (v := .int w4) (C := RX10) (T := TX10) (N := 5) hx hb htw inlX10 hown hK hP 0 rfl rfl 4 (by decide) (htw _ (ck_42 _ (List.mem_of_getElem? (i := 8) rfl))) (fun _ h9 => h9) rfl dX10_isMet_112 ?_
                refine lv_aload_n hx hb dX10_isMet_115 rfl (lv_at hl 1 rfl) ?_
                refine lv_aload_n hx hb dX10_isMet_116 rfl (lv_at hl 2 rfl) ?_
                refine va_get (D := (dC, dI)) (ci := 0) (v := .ref bsk) (C := RX0) (T := TX0) (N := 12) hx hb htw inlX0 hown hK hP 2 rfl rfl 3 (by decide) (htw _ (ck_42 _ (List.mem_of_getElem? (i := 20) rfl))) (fun _ h9 => h9) rfl dX10_isMet_117 ?_
                obtain ⟨hPc, hDc, hFc, hCc⟩ := zsub3 (ws' := [(eO8a bru rco rsz ren rst rkn), (eA0 rco cRc 64 fRc), (eA0 ren cRe 4 fRe), (eA1 rst cRs 64 fRs), (mm, .inr (4, [mla, .long ct, .long yr, .long dy, .long lg])), (eO9a bsk wd wf mp mb mo sp sb)]) hP hD hS hA [4, 5, 6, 7, 1, 3] (by decide) rfl
                have hKc := hK.sub (tys' := [(cRc, .int), (cRe, .int), (cRs, .long)]) [0, 1, 2] rfl
                refine va_calli (va_runV (As := [.int w4, .ref mm, .ref bsk]) (rest := []) ⟨hx, hb, hml, hown, htw⟩ (gr_isFeast l dC dI bru rco rsz ren rst rkn cRc fRc cRe fRe cRs fRs mm mla ct yr dy lg bsk wd wf mp mb mo sp sb w4 H.size hE) (cwV 3 htw (xg_V (ck_43 _ (List.mem_of_getElem? (i := 2) rfl)) (ck_39 _ (List.mem_of_getElem? (i := 5) rfl)) (ck_39 _ (List.mem_of_getElem? (i := 6) rfl)) (ck_6 _ (List.mem_of_getElem? (i := 8) rfl)) (ck_39 _ (List.mem_of_getElem? (i := 7) rfl))) rfl rfl rfl (by exact ⟨rfl, hdc_1.1, hdc_1.2, hdd_12⟩) ⟨Nat.le_of_ble_eq_true rfl, Nat.le_of_ble_eq_true rfl⟩) ⟨fun a U g mk q => by obtain ⟨q0, q1, qP, qK, qD⟩ := q; exact ⟨q0, q1, qP, va_K.moved (u := U) (U := U.calling g mk a) (Vm.Alike.refl U.vm) qK, qD⟩, va_recv hKc hPc (ci := 8) (q0 := 0) rfl rfl, fun U hU hW => ⟨rfl, by rw [hU], by rw [hU]; exact hPc, va_K.moved hW.alike hKc, hDc.weaken (fun _ _ _ _ => trivial)⟩⟩ rfl rfl hl.1 rfl (lv_room (Nat.le_of_ble_eq_true rfl)) dX10_isMet_120 ⟨Nat.le_of_ble_eq_true rfl, Nat.le_of_ble_eq_true rfl⟩) hS (fun q _ h => hFc q h) hFc (fun r_28 u_29 t H1 locs ht hvm hw hB hz1 hk1 hS => ?_)
                try dsimp only at hw
                obtain ⟨hP1, hK1, hD1⟩ := hB
                rw [ht] at hP1
                have hK1 := va_K.moved hvm.symm hK1
                have hK1 : va_K (dC, dI) vwCl [] s := hK1
                obtain ⟨hP, hD⟩ := va_join (wr := [(eO10a wi w0 w1 w2 w3 w4), (eO0a bk bto bnm bla bsk bru bbo bdi bda bdk bdt bdp bno)]) (w1 := [(eO8a bru rco rsz ren rst rkn), (eA0 rco cRc 64 fRc), (eA0 ren cRe 4 fRe), (eA1 rst cRs 64 u_29), (mm, .inr (4, [mla, .long ct, .long yr, .long dy, .long lg])), (eO9a bsk wd wf mp mb mo sp sb)]) hP hD [4, 5, 6, 7, 1, 3] [0, 2] hCc rfl (by decide) (by decide) hk1 hFc hP1 hD1
                generalize H1 = H at hP hS ⊢
                obtain ⟨hP, hD⟩ := zre [(eO10a wi w0 w1 w2 w3 w4), (eO0a bk bto bnm bla bsk bru bbo bdi bda bdk bdt bdp bno), (eO8a bru rco rsz ren rst rkn), (eA0 rco cRc 64 fRc), (eA0 ren cRe 4 fRe), (eA1 rst cRs 64 u_29), (mm, .inr (4, [mla, .long ct, .long yr, .long dy, .long lg])), (eO9a bsk wd wf mp mb mo sp sb)] hP hD rfl
                refine W.widen (k := 0) (n := 0) (by omega) (by omega) ?_
                have hq_r_28 : r_28 = (fr_isFeast fRc fRe fRs ct yr dy lg wd wf mp mb mo sp sb w4).1 := hw.1
                have hq_u_29 : u_29 = (fr_isFeast fRc fRe fRs ct yr dy lg wd wf mp mb mo sp sb w4).2 := hw.2
                refine lv_if_eq (tgt := 130) hx hb dX10_isMet_123 (by decide) (fun c_31 => ?_) (fun c_31 => ?_)
                · refine lv_iconst (v := 0) hx hb dX10_isMet_130 (by decide) ?_
                  refine W.widen (k := 0) (n := 0) (by omega) (by omega) ?_
                  obtain ⟨hP9, hD9⟩ := zsub2 (ws' := [(eO10a wi w0 w1 w2 w3 w4), (mm, .inr (4, [mla, .long ct, .long yr, .long dy, .long lg])), (eO0a bk bto bnm bla bsk bru bbo bdi bda bdk bdt bdp bno), (eO9a bsk wd wf mp mb mo sp sb), (eO8a bru rco rsz ren rst rkn), (eA0 rco cRc 64 fRc), (eA0 ren cRe 4 fRe), (eA1 rst cRs 64 u_29)]) hP hD [0, 6, 1, 7, 2, 3, 4, 5] (by decide +kernel) rfl
                  have hK9 := hK.sub (tys' := []) [] rfl
                  exact W.zret (v := 0) hx hb hr (by first | rfl | decide) (fun t ht hW => ⟨⟨0, u_29, rfl, ((fun e9 => ⟨by rw [e9], by rw [e9]⟩ : fw_isMet w0 w1 w2 w3 w4 fRc fRe fRs ct yr dy lg wd wf mp mb mo sp sb = ((0 : Int32), u_29) → _) (by rw [fw_isMet]; (try rw [← hq_r_17]); (try rw [← hq_r_25]); (try rw [← hq_r_28]); (try rw [← hq_u_29]); (try rw [if_pos c_1]); (try rw [if_pos c_2]); (try rw [if_neg c_3]); (try rw [if_pos c_18]); (try rw [if_neg c_19]); (try rw [if_pos c_26]); (try rw [if_neg c_27]); (try rw [if_pos c_31]); try rfl)), by rw [ht]; exact hP9, va_K.moved hW.alike hK9, hD9⟩, hS.F ht⟩) hS.2.2 dX10_isMet_131
                · refine lv_iconst (v := 1) hx hb dX10_isMet_126 (by decide) ?_
                  refine lv_goto (tgt := 131) hx hb dX10_isMet_127 (by decide) ?_
                  refine W.widen (k := 0) (n := 0) (by omega) (by omega) ?_
                  obtain ⟨hP9, hD9⟩ := zsub2 (ws' := [(eO10a wi w0 w1 w2 w3 w4), (mm, .inr (4, [mla, .long ct, .long yr, .long dy, .long lg])), (eO0a bk bto bnm bla bsk bru bbo bdi bda bdk bdt bdp bno), (eO9a bsk wd wf mp mb mo sp sb), (eO8a bru rco rsz ren rst rkn), (eA0 rco cRc 64 fRc), (eA0 ren cRe 4 fRe), (eA1 rst cRs 64 u_29)]) hP hD [0, 6, 1, 7, 2, 3, 4, 5] (by decide +kernel) rfl
                  have hK9 := hK.sub (tys' := []) [] rfl
                  exact W.zret (v := 1) hx hb hr (by first | rfl | decide) (fun t ht hW => ⟨⟨1, u_29, rfl, ((fun e9 => ⟨by rw [e9], by rw [e9]⟩ : fw_isMet w0 w1 w2 w3 w4 fRc fRe fRs ct yr dy lg wd wf mp mb mo sp sb = ((1 : Int32), u_29) → _) (by rw [fw_isMet]; (try rw [← hq_r_17]); (try rw [← hq_r_25]); (try rw [← hq_r_28]); (try rw [← hq_u_29]); (try rw [if_pos c_1]); (try rw [if_pos c_2]); (try rw [if_neg c_3]); (try rw [if_pos c_18]); (try rw [if_neg c_19]); (try rw [if_pos c_26]); (try rw [if_neg c_27]); (try rw [if_neg c_31]); try rfl)), by rw [ht]; exact hP9, va_K.moved hW.alike hK9, hD9⟩, hS.F ht⟩) hS.2.2 dX10_isMet_131
    · refine lv_aload_n hx hb dX10_isMet_29 rfl (lv_at hl 2 rfl) ?_
      refine va_get (D := (dC, dI)) (ci := 0) (v := .ref bsk) (C := RX0) (T := TX0) (N := 12) hx hb htw inlX0 hown hK hP 2 rfl rfl 3 (by decide) (htw _ (ck_42 _ (List.mem_of_getElem? (i := 20) rfl))) (fun _ h9 => h9) rfl dX10_isMet_30 ?_
      refine lv_aload_n hx hb dX10_isMet_33 rfl (lv_at hl 1 rfl) ?_
      refine va_get (D := (dC, dI)) (ci := 4) (v := .long ct) (C := RX4) (T := TX4) (N := 5) hx hb htw inlX4 hown hK hP 1 rfl rfl 1 (by decide) (htw _ (ck_42 _ (List.mem_of_getElem? (i := 21) rfl))) (fun _ h9 => h9) rfl dX10_isMet_34 ?_
      have hPc := hP.sub (ws' := [(eO9a bsk wd wf mp mb mo sp sb)]) [3] rfl
      have hKc := hK.sub (tys' := []) [] rfl
      refine vp_callSi (W.runV (As := [.long ct]) (rest := []) ⟨hx, hb, hml, hown, htw⟩ (gs_weekDayOf l dC dI bsk wd wf mp mb mo sp sb ct) (cwV 1 htw (xg_V (ck_42 _ (List.mem_of_getElem? (i := 23) rfl)) (ck_37 _ (List.mem_of_getElem? (i := 11) rfl)) (ck_37 _ (List.mem_of_getElem? (i := 12) rfl)) (ck_6 _ (List.mem_of_getElem? (i := 4) rfl)) (ck_37 _ (List.mem_of_getElem? (i := 13) rfl))) rfl rfl rfl (by exact ⟨rfl, hdc_2.1, hdc_2.2, hdd_6⟩) ⟨Nat.le_of_ble_eq_true rfl, Nat.le_of_ble_eq_true rfl⟩) ⟨fun a U g mk q => by obtain ⟨q0, qP, qK⟩ := q; exact ⟨q0, qP, va_K.moved (u := U) (U := U.calling g mk a) (Vm.Alike.refl U.vm) qK⟩, va_recv hKc hPc (ci := 9) (q0 := 0) rfl rfl, fun U hU hW => ⟨rfl, by rw [hU]; exact hPc, va_K.moved hW.alike hKc⟩⟩ rfl rfl hl.1 rfl (lv_room (Nat.le_of_ble_eq_true rfl)) dX10_isMet_37 ⟨Nat.le_of_ble_eq_true rfl, Nat.le_of_ble_eq_true rfl⟩) (fun r_32 hw => ?_)
      try dsimp only at hw
      have hq_r_32 : r_32 = fs_weekDayOf wd wf mp mb mo sp sb ct := hw
      refine lv_aload_n hx hb dX10_isMet_40 rfl (lv_at hl 0 rfl) ?_
      refine va_get (D := (dC, dI)) (ci := 10) (v := .int w1) (C := RX10) (T := TX10) (N := 5) hx hb htw inlX10 hown hK hP 0 rfl rfl 1 (by decide) (htw _ (ck_42 _ (List.mem_of_getElem? (i := 5) rfl))) (fun _ h9 => h9) rfl dX10_isMet_41 ?_
      refine lv_icmp_ne (tgt := 130) hx hb dX10_isMet_44 (by decide) (fun c_33 => ?_) (fun c_33 => ?_)
      · refine lv_iconst (v := 0) hx hb dX10_isMet_130 (by decide) ?_
        refine W.widen (k := 0) (n := 0) (by omega) (by omega) ?_
        have hP9 := hP
        have hD9 := hD
        have hK9 := hK.sub (tys' := []) [] rfl
        exact W.zret (v := 0) hx hb hr (by first | rfl | decide) (fun t ht hW => ⟨⟨0, fRs, rfl, ((fun e9 => ⟨by rw [e9], by rw [e9]⟩ : fw_isMet w0 w1 w2 w3 w4 fRc fRe fRs ct yr dy lg wd wf mp mb mo sp sb = ((0 : Int32), fRs) → _) (by rw [fw_isMet]; (try rw [← hq_r_32]); (try rw [if_pos c_1]); (try rw [if_neg c_2]); (try rw [if_neg c_33]); try rfl)), by rw [ht]; exact hP9, va_K.moved hW.alike hK9, hD9⟩, hS.F ht⟩) hS.2.2 dX10_isMet_131
      · refine lv_aload_n hx hb dX10_isMet_47 rfl (lv_at hl 0 rfl) ?_
        refine va_get (D := (dC, dI)) (ci := 10) (v := .int w2) (C := RX10) (T := TX10) (N := 5) hx hb htw inlX10 hown hK hP 0 rfl rfl 2 (by decide) (htw _ (ck_42 _ (List.mem_of_getElem? (i := 6) rfl))) (fun _ h9 => h9) rfl dX10_isMet_48 ?_
        refine lv_iconst (v := (-1)) hx hb dX10_isMet_51 (by decide) ?_
        refine lv_icmp_eq (tgt := 73) hx hb dX10_isMet_52 (by decide) (fun c_34 => ?_) (fun c_34 => ?_)
        · refine lv_aload_n hx hb dX10_isMet_73 rfl (lv_at hl 0 rfl) ?_
          refine va_get (D := (dC, dI)) (ci := 10) (v := .int w3) (C := RX10) (T := TX10) (N := 5) hx hb htw inlX10 hown hK hP 0 rfl rfl 3 (by decide) (htw _ (ck_42 _ (List.mem_of_getElem? (i := 7) rfl))) (fun _ h9 => h9) rfl dX10_isMet_74 ?_
          refine lv_iconst (v := (-1)) hx hb dX10_isMet_77 (by decide) ?_
          refine lv_icmp_eq (tgt := 99) hx hb dX10_isMet_78 (by decide) (fun c_35 => ?_) (fun c_35 => ?_)
          · refine lv_aload_n hx hb dX10_isMet_99 rfl (lv_at hl 0 rfl) ?_
            refine va_get (D := (dC, dI)) (ci := 10) (v := .int w4) (C := RX10) (T := TX10) (N := 5) hx hb htw inlX10 hown hK hP 0 rfl rfl 4 (by decide) (htw _ (ck_42 _ (List.mem_of_getElem? (i := 8) rfl))) (fun _ h9 => h9) rfl dX10_isMet_100 ?_
            refine lv_iconst (v := (-1)) hx hb dX10_isMet_103 (by decide) ?_
            refine lv_icmp_eq (tgt := 126) hx hb dX10_isMet_104 (by decide) (fun c_36 => ?_) (fun c_36 => ?_)
            · refine lv_iconst (v := 1) hx hb dX10_isMet_126 (by decide) ?_
              refine lv_goto (tgt := 131) hx hb dX10_isMet_127 (by decide) ?_
              refine W.widen (k := 0) (n := 0) (by omega) (by omega) ?_
              have hP9 := hP
              have hD9 := hD
              have hK9 := hK.sub (tys' := []) [] rfl
              exact W.zret (v := 1) hx hb hr (by first | rfl | decide) (fun t ht hW => ⟨⟨1, fRs, rfl, ((fun e9 => ⟨by rw [e9], by rw [e9]⟩ : fw_isMet w0 w1 w2 w3 w4 fRc fRe fRs ct yr dy lg wd wf mp mb mo sp sb = ((1 : Int32), fRs) → _) (by rw [fw_isMet]; (try rw [← hq_r_32]); (try rw [if_pos c_1]); (try rw [if_neg c_2]); (try rw [if_pos c_33]); (try rw [if_pos c_34]); (try rw [if_pos c_35]); (try rw [if_pos c_36]); try rfl)), by rw [ht]; exact hP9, va_K.moved hW.alike hK9, hD9⟩, hS.F ht⟩) hS.2.2 dX10_isMet_131
            · refine lv_aload_n hx hb dX10_isMet_107 rfl (lv_at hl 2 rfl) ?_
              refine va_get (D := (dC, dI)) (ci := 0) (v := .ref bru) (C := RX0) (T := TX0) (N := 12) hx hb htw inlX0 hown hK hP 2 rfl rfl 4 (by decide) (htw _ (ck_42 _ (List.mem_of_getElem? (i := 22) rfl))) (fun _ h9 => h9) rfl dX10_isMet_108 ?_
              refine lv_aload_n hx hb dX10_isMet_111 rfl (lv_at hl 0 rfl) ?_
              refine va_get (D := (dC, dI)) (ci := 10) (v := .int w4) (C := RX10) (T := TX10) (N := 5) hx hb htw inlX10 hown hK hP 0 rfl rfl 4 (by decide) (htw _ (ck_42 _ (List.mem_of_getElem? (i := 8) rfl))) (fun _ h9 => h9) rfl dX10_isMet_112 ?_
              refine lv_aload_n hx hb dX10_isMet_115 rfl (lv_at hl 1 rfl) ?_
              refine lv_aload_n hx hb dX10_isMet_116 rfl (lv_at hl 2 rfl) ?_
              refine va_get (D := (dC, dI)) (ci := 0) (v := .ref bsk) (C := RX0) (T := TX0) (N := 12) hx hb htw inlX0 hown hK hP 2 rfl rfl 3 (by decide) (htw _ (ck_42 _ (List.mem_of_getElem? (i := 20) rfl))) (fun _ h9 => h9) rfl dX10_isMet_117 ?_
              obtain ⟨hPc, hDc, hFc, hCc⟩ := zsub3 (ws' := [(eO8a bru rco rsz ren rst rkn), (eA0 rco cRc 64 fRc), (eA0 ren cRe 4 fRe), (eA1 rst cRs 64 fRs), (mm, .inr (4, [mla, .long ct, .long yr, .long dy, .long lg])), (eO9a bsk wd wf mp mb mo sp sb)]) hP hD hS hA [4, 5, 6, 7, 1, 3] (by decide) rfl
              have hKc := hK.sub (tys' := [(cRc, .int), (cRe, .int), (cRs, .long)]) [0, 1, 2] rfl
              refine va_calli (va_runV (As := [.int w4, .ref mm, .ref bsk]) (rest := []) ⟨hx, hb, hml, hown, htw⟩ (gr_isFeast l dC dI bru rco rsz ren rst rkn cRc fRc cRe fRe cRs fRs mm mla ct yr dy lg bsk wd wf mp mb mo sp sb w4 H.size hE) (cwV 3 htw (xg_V (ck_43 _ (List.mem_of_getElem? (i := 2) rfl)) (ck_39 _ (List.mem_of_getElem? (i := 5) rfl)) (ck_39 _ (List.mem_of_getElem? (i := 6) rfl)) (ck_6 _ (List.mem_of_getElem? (i := 8) rfl)) (ck_39 _ (List.mem_of_getElem? (i := 7) rfl))) rfl rfl rfl (by exact ⟨rfl, hdc_1.1, hdc_1.2, hdd_12⟩) ⟨Nat.le_of_ble_eq_true rfl, Nat.le_of_ble_eq_true rfl⟩) ⟨fun a U g mk q => by obtain ⟨q0, q1, qP, qK, qD⟩ := q; exact ⟨q0, q1, qP, va_K.moved (u := U) (U := U.calling g mk a) (Vm.Alike.refl U.vm) qK, qD⟩, va_recv hKc hPc (ci := 8) (q0 := 0) rfl rfl, fun U hU hW => ⟨rfl, by rw [hU], by rw [hU]; exact hPc, va_K.moved hW.alike hKc, hDc.weaken (fun _ _ _ _ => trivial)⟩⟩ rfl rfl hl.1 rfl (lv_room (Nat.le_of_ble_eq_true rfl)) dX10_isMet_120 ⟨Nat.le_of_ble_eq_true rfl, Nat.le_of_ble_eq_true rfl⟩) hS (fun q _ h => hFc q h) hFc (fun r_37 u_38 t H1 locs ht hvm hw hB hz1 hk1 hS => ?_)
              try dsimp only at hw
              obtain ⟨hP1, hK1, hD1⟩ := hB
              rw [ht] at hP1
              have hK1 := va_K.moved hvm.symm hK1
              have hK1 : va_K (dC, dI) vwCl [] s := hK1
              obtain ⟨hP, hD⟩ := va_join (wr := [(eO10a wi w0 w1 w2 w3 w4), (eO0a bk bto bnm bla bsk bru bbo bdi bda bdk bdt bdp bno)]) (w1 := [(eO8a bru rco rsz ren rst rkn), (eA0 rco cRc 64 fRc), (eA0 ren cRe 4 fRe), (eA1 rst cRs 64 u_38), (mm, .inr (4, [mla, .long ct, .long yr, .long dy, .long lg])), (eO9a bsk wd wf mp mb mo sp sb)]) hP hD [4, 5, 6, 7, 1, 3] [0, 2] hCc rfl (by decide) (by decide) hk1 hFc hP1 hD1
              generalize H1 = H at hP hS ⊢
              obtain ⟨hP, hD⟩ := zre [(eO10a wi w0 w1 w2 w3 w4), (eO0a bk bto bnm bla bsk bru bbo bdi bda bdk bdt bdp bno), (eO8a bru rco rsz ren rst rkn), (eA0 rco cRc 64 fRc), (eA0 ren cRe 4 fRe), (eA1 rst cRs 64 u_38), (mm, .inr (4, [mla, .long ct, .long yr, .long dy, .long lg])), (eO9a bsk wd wf mp mb mo sp sb)] hP hD rfl
              refine W.widen (k := 0) (n := 0) (by omega) (by omega) ?_
              have hq_r_37 : r_37 = (fr_isFeast fRc fRe fRs ct yr dy lg wd wf mp mb mo sp sb w4).1 := hw.1
              have hq_u_38 : u_38 = (fr_isFeast fRc fRe fRs ct yr dy lg wd wf mp mb mo sp sb w4).2 := hw.2
              refine lv_if_eq (tgt := 130) hx hb dX10_isMet_123 (by decide) (fun c_40 => ?_) (fun c_40 => ?_)
              · refine lv_iconst (v := 0) hx hb dX10_isMet_130 (by decide) ?_
                refine W.widen (k := 0) (n := 0) (by omega) (by omega) ?_
                obtain ⟨hP9, hD9⟩ := zsub2 (ws' := [(eO10a wi w0 w1 w2 w3 w4), (mm, .inr (4, [mla, .long ct, .long yr, .long dy, .long lg])), (eO0a bk bto bnm bla bsk bru bbo bdi bda bdk bdt bdp bno), (eO9a bsk wd wf mp mb mo sp sb), (eO8a bru rco rsz ren rst rkn), (eA0 rco cRc 64 fRc), (eA0 ren cRe 4 fRe), (eA1 rst cRs 64 u_38)]) hP hD [0, 6, 1, 7, 2, 3, 4, 5] (by decide +kernel) rfl
                have hK9 := hK.sub (tys' := []) [] rfl
                exact W.zret (v := 0) hx hb hr (by first | rfl | decide) (fun t ht hW => ⟨⟨0, u_38, rfl, ((fun e9 => ⟨by rw [e9], by rw [e9]⟩ : fw_isMet w0 w1 w2 w3 w4 fRc fRe fRs ct yr dy lg wd wf mp mb mo sp sb = ((0 : Int32), u_38) → _) (by rw [fw_isMet]; (try rw [← hq_r_32]); (try rw [← hq_r_37]); (try rw [← hq_u_38]); (try rw [if_pos c_1]); (try rw [if_neg c_2]); (try rw [if_pos c_33]); (try rw [if_pos c_34]); (try rw [if_pos c_35]); (try rw [if_neg c_36]); (try rw [if_pos c_40]); try rfl)), by rw [ht]; exact hP9, va_K.moved hW.alike hK9, hD9⟩, hS.F ht⟩) hS.2.2 dX10_isMet_131
              · refine lv_iconst (v := 1) hx hb dX10_isMet_126 (by decide) ?_
                refine lv_goto (tgt := 131) hx hb dX10_isMet_127 (by decide) ?_
                refine W.widen (k := 0) (n := 0) (by omega) (by omega) ?_
                obtain ⟨hP9, hD9⟩ := zsub2 (ws' := [(eO10a wi w0 w1 w2 w3 w4), (mm, .inr (4, [mla, .long ct, .long yr, .long dy, .long lg])), (eO0a bk bto bnm bla bsk bru bbo bdi bda bdk bdt bdp bno), (eO9a bsk wd wf mp mb mo sp sb), (eO8a bru rco rsz ren rst rkn), (eA0 rco cRc 64 fRc), (eA0 ren cRe 4 fRe), (eA1 rst cRs 64 u_38)]) hP hD [0, 6, 1, 7, 2, 3, 4, 5] (by decide +kernel) rfl
                have hK9 := hK.sub (tys' := []) [] rfl
                exact W.zret (v := 1) hx hb hr (by first | rfl | decide) (fun t ht hW => ⟨⟨1, u_38, rfl, ((fun e9 => ⟨by rw [e9], by rw [e9]⟩ : fw_isMet w0 w1 w2 w3 w4 fRc fRe fRs ct yr dy lg wd wf mp mb mo sp sb = ((1 : Int32), u_38) → _) (by rw [fw_isMet]; (try rw [← hq_r_32]); (try rw [← hq_r_37]); (try rw [← hq_u_38]); (try rw [if_pos c_1]); (try rw [if_neg c_2]); (try rw [if_pos c_33]); (try rw [if_pos c_34]); (try rw [if_pos c_35]); (try rw [if_neg c_36]); (try rw [if_neg c_40]); try rfl)), by rw [ht]; exact hP9, va_K.moved hW.alike hK9, hD9⟩, hS.F ht⟩) hS.2.2 dX10_isMet_131
          · refine lv_aload_n hx hb dX10_isMet_81 rfl (lv_at hl 2 rfl) ?_
            refine va_get (D := (dC, dI)) (ci := 0) (v := .ref bsk) (C := RX0) (T := TX0) (N := 12) hx hb htw inlX0 hown hK hP 2 rfl rfl 3 (by decide) (htw _ (ck_42 _ (List.mem_of_getElem? (i := 20) rfl))) (fun _ h9 => h9) rfl dX10_isMet_82 ?_
            refine lv_aload_n hx hb dX10_isMet_85 rfl (lv_at hl 1 rfl) ?_
            refine va_get (D := (dC, dI)) (ci := 4) (v := .long ct) (C := RX4) (T := TX4) (N := 5) hx hb htw inlX4 hown hK hP 1 rfl rfl 1 (by decide) (htw _ (ck_42 _ (List.mem_of_getElem? (i := 21) rfl))) (fun _ h9 => h9) rfl dX10_isMet_86 ?_
            have hPc := hP.sub (ws' := [(eO9a bsk wd wf mp mb mo sp sb)]) [3] rfl
            have hKc := hK.sub (tys' := []) [] rfl
            refine vp_callSi (W.runV (As := [.long ct]) (rest := []) ⟨hx, hb, hml, hown, htw⟩ (gs_seasonOf l dC dI bsk wd wf mp mb mo sp sb ct) (cwV 1 htw (xg_V (ck_43 _ (List.mem_of_getElem? (i := 1) rfl)) (ck_37 _ (List.mem_of_getElem? (i := 20) rfl)) (ck_37 _ (List.mem_of_getElem? (i := 21) rfl)) (ck_6 _ (List.mem_of_getElem? (i := 4) rfl)) (ck_37 _ (List.mem_of_getElem? (i := 22) rfl))) rfl rfl rfl (by exact ⟨rfl, hdc_2.1, hdc_2.2, hdd_6⟩) ⟨Nat.le_of_ble_eq_true rfl, Nat.le_of_ble_eq_true rfl⟩) ⟨fun a U g mk q => by obtain ⟨q0, qP, qK⟩ := q; exact ⟨q0, qP, va_K.moved (u := U) (U := U.calling g mk a) (Vm.Alike.refl U.vm) qK⟩, va_recv hKc hPc (ci := 9) (q0 := 0) rfl rfl, fun U hU hW => ⟨rfl, by rw [hU]; exact hPc, va_K.moved hW.alike hKc⟩⟩ rfl rfl hl.1 rfl (lv_room (Nat.le_of_ble_eq_true rfl)) dX10_isMet_89 ⟨Nat.le_of_ble_eq_true rfl, Nat.le_of_ble_eq_true rfl⟩) (fun r_41 hw => ?_)
            try dsimp only at hw
            have hq_r_41 : r_41 = fs_seasonOf wd wf mp mb mo sp sb ct := hw
            refine lv_aload_n hx hb dX10_isMet_92 rfl (lv_at hl 0 rfl) ?_
            refine va_get (D := (dC, dI)) (ci := 10) (v := .int w3) (C := RX10) (T := TX10) (N := 5) hx hb htw inlX10 hown hK hP 0 rfl rfl 3 (by decide) (htw _ (ck_42 _ (List.mem_of_getElem? (i := 7) rfl))) (fun _ h9 => h9) rfl dX10_isMet_93 ?_
            refine lv_icmp_ne (tgt := 130) hx hb dX10_isMet_96 (by decide) (fun c_42 => ?_) (fun c_42 => ?_)
            · refine lv_iconst (v := 0) hx hb dX10_isMet_130 (by decide) ?_
              refine W.widen (k := 0) (n := 0) (by omega) (by omega) ?_
              have hP9 := hP
              have hD9 := hD
              have hK9 := hK.sub (tys' := []) [] rfl
              exact W.zret (v := 0) hx hb hr (by first | rfl | decide) (fun t ht hW => ⟨⟨0, fRs, rfl, ((fun e9 => ⟨by rw [e9], by rw [e9]⟩ : fw_isMet w0 w1 w2 w3 w4 fRc fRe fRs ct yr dy lg wd wf mp mb mo sp sb = ((0 : Int32), fRs) → _) (by rw [fw_isMet]; (try rw [← hq_r_32]); (try rw [← hq_r_41]); (try rw [if_pos c_1]); (try rw [if_neg c_2]); (try rw [if_pos c_33]); (try rw [if_pos c_34]); (try rw [if_neg c_35]); (try rw [if_neg c_42]); try rfl)), by rw [ht]; exact hP9, va_K.moved hW.alike hK9, hD9⟩, hS.F ht⟩) hS.2.2 dX10_isMet_131
            · refine lv_aload_n hx hb dX10_isMet_99 rfl (lv_at hl 0 rfl) ?_
              refine va_get (D := (dC, dI)) (ci := 10) (v := .int w4) (C := RX10) (T := TX10) (N := 5) hx hb htw inlX10 hown hK hP 0 rfl rfl 4 (by decide) (htw _ (ck_42 _ (List.mem_of_getElem? (i := 8) rfl))) (fun _ h9 => h9) rfl dX10_isMet_100 ?_
              refine lv_iconst (v := (-1)) hx hb dX10_isMet_103 (by decide) ?_
              refine lv_icmp_eq (tgt := 126) hx hb dX10_isMet_104 (by decide) (fun c_43 => ?_) (fun c_43 => ?_)
              · refine lv_iconst (v := 1) hx hb dX10_isMet_126 (by decide) ?_
                refine lv_goto (tgt := 131) hx hb dX10_isMet_127 (by decide) ?_
                refine W.widen (k := 0) (n := 0) (by omega) (by omega) ?_
                have hP9 := hP
                have hD9 := hD
                have hK9 := hK.sub (tys' := []) [] rfl
                exact W.zret (v := 1) hx hb hr (by first | rfl | decide) (fun t ht hW => ⟨⟨1, fRs, rfl, ((fun e9 => ⟨by rw [e9], by rw [e9]⟩ : fw_isMet w0 w1 w2 w3 w4 fRc fRe fRs ct yr dy lg wd wf mp mb mo sp sb = ((1 : Int32), fRs) → _) (by rw [fw_isMet]; (try rw [← hq_r_32]); (try rw [← hq_r_41]); (try rw [if_pos c_1]); (try rw [if_neg c_2]); (try rw [if_pos c_33]); (try rw [if_pos c_34]); (try rw [if_neg c_35]); (try rw [if_pos c_42]); (try rw [if_pos c_43]); try rfl)), by rw [ht]; exact hP9, va_K.moved hW.alike hK9, hD9⟩, hS.F ht⟩) hS.2.2 dX10_isMet_131
              · refine lv_aload_n hx hb dX10_isMet_107 rfl (lv_at hl 2 rfl) ?_
                refine va_get (D := (dC, dI)) (ci := 0) (v := .ref bru) (C := RX0) (T := TX0) (N := 12) hx hb htw inlX0 hown hK hP 2 rfl rfl 4 (by decide) (htw _ (ck_42 _ (List.mem_of_getElem? (i := 22) rfl))) (fun _ h9 => h9) rfl dX10_isMet_108 ?_
                refine lv_aload_n hx hb dX10_isMet_111 rfl (lv_at hl 0 rfl) ?_
                refine va_get (D := (dC, dI)) (ci := 10) (v := .int w4) (C := RX10) (T := TX10) (N := 5) hx hb htw inlX10 hown hK hP 0 rfl rfl 4 (by decide) (htw _ (ck_42 _ (List.mem_of_getElem? (i := 8) rfl))) (fun _ h9 => h9) rfl dX10_isMet_112 ?_
                refine lv_aload_n hx hb dX10_isMet_115 rfl (lv_at hl 1 rfl) ?_
                refine lv_aload_n hx hb dX10_isMet_116 rfl (lv_at hl 2 rfl) ?_
                refine va_get (D := (dC, dI)) (ci := 0) (v := .ref bsk) (C := RX0) (T := TX0) (N := 12) hx hb htw inlX0 hown hK hP 2 rfl rfl 3 (by decide) (htw _ (ck_42 _ (List.mem_of_getElem? (i := 20) rfl))) (fun _ h9 => h9) rfl dX10_isMet_117 ?_
                obtain ⟨hPc, hDc, hFc, hCc⟩ := zsub3 (ws' := [(eO8a bru rco rsz ren rst rkn), (eA0 rco cRc 64 fRc), (eA0 ren cRe 4 fRe), (eA1 rst cRs 64 fRs), (mm, .inr (4, [mla, .long ct, .long yr, .long dy, .long lg])), (eO9a bsk wd wf mp mb mo sp sb)]) hP hD hS hA [4, 5, 6, 7, 1, 3] (by decide) rfl
                have hKc := hK.sub (tys' := [(cRc, .int), (cRe, .int), (cRs, .long)]) [0, 1, 2] rfl
                refine va_calli (va_runV (As := [.int w4, .ref mm, .ref bsk]) (rest := []) ⟨hx, hb, hml, hown, htw⟩ (gr_isFeast l dC dI bru rco rsz ren rst rkn cRc fRc cRe fRe cRs fRs mm mla ct yr dy lg bsk wd wf mp mb mo sp sb w4 H.size hE) (cwV 3 htw (xg_V (ck_43 _ (List.mem_of_getElem? (i := 2) rfl)) (ck_39 _ (List.mem_of_getElem? (i := 5) rfl)) (ck_39 _ (List.mem_of_getElem? (i := 6) rfl)) (ck_6 _ (List.mem_of_getElem? (i := 8) rfl)) (ck_39 _ (List.mem_of_getElem? (i := 7) rfl))) rfl rfl rfl (by exact ⟨rfl, hdc_1.1, hdc_1.2, hdd_12⟩) ⟨Nat.le_of_ble_eq_true rfl, Nat.le_of_ble_eq_true rfl⟩) ⟨fun a U g mk q => by obtain ⟨q0, q1, qP, qK, qD⟩ := q; exact ⟨q0, q1, qP, va_K.moved (u := U) (U := U.calling g mk a) (Vm.Alike.refl U.vm) qK, qD⟩, va_recv hKc hPc (ci := 8) (q0 := 0) rfl rfl, fun U hU hW => ⟨rfl, by rw [hU], by rw [hU]; exact hPc, va_K.moved hW.alike hKc, hDc.weaken (fun _ _ _ _ => trivial)⟩⟩ rfl rfl hl.1 rfl (lv_room (Nat.le_of_ble_eq_true rfl)) dX10_isMet_120 ⟨Nat.le_of_ble_eq_true rfl, Nat.le_of_ble_eq_true rfl⟩) hS (fun q _ h => hFc q h) hFc (fun r_44 u_45 t H1 locs ht hvm hw hB hz1 hk1 hS => ?_)
                try dsimp only at hw
                obtain ⟨hP1, hK1, hD1⟩ := hB
                rw [ht] at hP1
                have hK1 := va_K.moved hvm.symm hK1
                have hK1 : va_K (dC, dI) vwCl [] s := hK1
                obtain ⟨hP, hD⟩ := va_join (wr := [(eO10a wi w0 w1 w2 w3 w4), (eO0a bk bto bnm bla bsk bru bbo bdi bda bdk bdt bdp bno)]) (w1 := [(eO8a bru rco rsz ren rst rkn), (eA0 rco cRc 64 fRc), (eA0 ren cRe 4 fRe), (eA1 rst cRs 64 u_45), (mm, .inr (4, [mla, .long ct, .long yr, .long dy, .long lg])), (eO9a bsk wd wf mp mb mo sp sb)]) hP hD [4, 5, 6, 7, 1, 3] [0, 2] hCc rfl (by decide) (by decide) hk1 hFc hP1 hD1
                generalize H1 = H at hP hS ⊢
                obtain ⟨hP, hD⟩ := zre [(eO10a wi w0 w1 w2 w3 w4), (eO0a bk bto bnm bla bsk bru bbo bdi bda bdk bdt bdp bno), (eO8a bru rco rsz ren rst rkn), (eA0 rco cRc 64 fRc), (eA0 ren cRe 4 fRe), (eA1 rst cRs 64 u_45), (mm, .inr (4, [mla, .long ct, .long yr, .long dy, .long lg])), (eO9a bsk wd wf mp mb mo sp sb)] hP hD rfl
                refine W.widen (k := 0) (n := 0) (by omega) (by omega) ?_
                have hq_r_44 : r_44 = (fr_isFeast fRc fRe fRs ct yr dy lg wd wf mp mb mo sp sb w4).1 := hw.1
                have hq_u_45 : u_45 = (fr_isFeast fRc fRe fRs ct yr dy lg wd wf mp mb mo sp sb w4).2 := hw.2
                refine lv_if_eq (tgt := 130) hx hb dX10_isMet_123 (by decide) (fun c_47 => ?_) (fun c_47 => ?_)
                · refine lv_iconst (v := 0) hx hb dX10_isMet_130 (by decide) ?_
                  refine W.widen (k := 0) (n := 0) (by omega) (by omega) ?_
                  obtain ⟨hP9, hD9⟩ := zsub2 (ws' := [(eO10a wi w0 w1 w2 w3 w4), (mm, .inr (4, [mla, .long ct, .long yr, .long dy, .long lg])), (eO0a bk bto bnm bla bsk bru bbo bdi bda bdk bdt bdp bno), (eO9a bsk wd wf mp mb mo sp sb), (eO8a bru rco rsz ren rst rkn), (eA0 rco cRc 64 fRc), (eA0 ren cRe 4 fRe), (eA1 rst cRs 64 u_45)]) hP hD [0, 6, 1, 7, 2, 3, 4, 5] (by decide +kernel) rfl
                  have hK9 := hK.sub (tys' := []) [] rfl
                  exact W.zret (v := 0) hx hb hr (by first | rfl | decide) (fun t ht hW => ⟨⟨0, u_45, rfl, ((fun e9 => ⟨by rw [e9], by rw [e9]⟩ : fw_isMet w0 w1 w2 w3 w4 fRc fRe fRs ct yr dy lg wd wf mp mb mo sp sb = ((0 : Int32), u_45) → _) (by rw [fw_isMet]; (try rw [← hq_r_32]); (try rw [← hq_r_41]); (try rw [← hq_r_44]); (try rw [← hq_u_45]); (try rw [if_pos c_1]); (try rw [if_neg c_2]); (try rw [if_pos c_33]); (try rw [if_pos c_34]); (try rw [if_neg c_35]); (try rw [if_pos c_42]); (try rw [if_neg c_43]); (try rw [if_pos c_47]); try rfl)), by rw [ht]; exact hP9, va_K.moved hW.alike hK9, hD9⟩, hS.F ht⟩) hS.2.2 dX10_isMet_131
                · refine lv_iconst (v := 1) hx hb dX10_isMet_126 (by decide) ?_
                  refine lv_goto (tgt := 131) hx hb dX10_isMet_127 (by decide) ?_
                  refine W.widen (k := 0) (n := 0) (by omega) (by omega) ?_
                  obtain ⟨hP9, hD9⟩ := zsub2 (ws' := [(eO10a wi w0 w1 w2 w3 w4), (mm, .inr (4, [mla, .long ct, .long yr, .long dy, .long lg])), (eO0a bk bto bnm bla bsk bru bbo bdi bda bdk bdt bdp bno), (eO9a bsk wd wf mp mb mo sp sb), (eO8a bru rco rsz ren rst rkn), (eA0 rco cRc 64 fRc), (eA0 ren cRe 4 fRe), (eA1 rst cRs 64 u_45)]) hP hD [0, 6, 1, 7, 2, 3, 4, 5] (by decide +kernel) rfl
                  have hK9 := hK.sub (tys' := []) [] rfl
                  exact W.zret (v := 1) hx hb hr (by first | rfl | decide) (fun t ht hW => ⟨⟨1, u_45, rfl, ((fun e9 => ⟨by rw [e9], by rw [e9]⟩ : fw_isMet w0 w1 w2 w3 w4 fRc fRe fRs ct yr dy lg wd wf mp mb mo sp sb = ((1 : Int32), u_45) → _) (by rw [fw_isMet]; (try rw [← hq_r_32]); (try rw [← hq_r_41]); (try rw [← hq_r_44]); (try rw [← hq_u_45]); (try rw [if_pos c_1]); (try rw [if_neg c_2]); (try rw [if_pos c_33]); (try rw [if_pos c_34]); (try rw [if_neg c_35]); (try rw [if_pos c_42]); (try rw [if_neg c_43]); (try rw [if_neg c_47]); try rfl)), by rw [ht]; exact hP9, va_K.moved hW.alike hK9, hD9⟩, hS.F ht⟩) hS.2.2 dX10_isMet_131
        · refine lv_aload_n hx hb dX10_isMet_55 rfl (lv_at hl 2 rfl) ?_
          refine va_get (D := (dC, dI)) (ci := 0) (v := .ref bsk) (C := RX0) (T := TX0) (N := 12) hx hb htw inlX0 hown hK hP 2 rfl rfl 3 (by decide) (htw _ (ck_42 _ (List.mem_of_getElem? (i := 20) rfl))) (fun _ h9 => h9) rfl dX10_isMet_56 ?_
          refine lv_aload_n hx hb dX10_isMet_59 rfl (lv_at hl 1 rfl) ?_
          refine va_get (D := (dC, dI)) (ci := 4) (v := .long ct) (C := RX4) (T := TX4) (N := 5) hx hb htw inlX4 hown hK hP 1 rfl rfl 1 (by decide) (htw _ (ck_42 _ (List.mem_of_getElem? (i := 21) rfl))) (fun _ h9 => h9) rfl dX10_isMet_60 ?_
          have hPc := hP.sub (ws' := [(eO9a bsk wd wf mp mb mo sp sb)]) [3] rfl
          have hKc := hK.sub (tys' := []) [] rfl
          refine vp_callSi (W.runV (As := [.long ct]) (rest := []) ⟨hx, hb, hml, hown, htw⟩ (gs_moonOf l dC dI bsk wd wf mp mb mo sp sb ct) (cwV 1 htw (xg_V (ck_43 _ (List.mem_of_getElem? (i := 0) rfl)) (ck_37 _ (List.mem_of_getElem? (i := 15) rfl)) (ck_37 _ (List.mem_of_getElem? (i := 16) rfl)) (ck_6 _ (List.mem_of_getElem? (i := 4) rfl)) (ck_37 _ (List.mem_of_getElem? (i := 17) rfl))) rfl rfl rfl (by exact ⟨rfl, hdc_2.1, hdc_2.2, hdd_6⟩) ⟨Nat.le_of_ble_eq_true rfl, Nat.le_of_ble_eq_true rfl⟩) ⟨fun a U g mk q => by obtain ⟨q0, qP, qK⟩ := q; exact ⟨q0, qP, va_K.moved (u := U) (U := U.calling g mk a) (Vm.Alike.refl U.vm) qK⟩, va_recv hKc hPc (ci := 9) (q0 := 0) rfl rfl, fun U hU hW => ⟨rfl, by rw [hU]; exact hPc, va_K.moved hW.alike hKc⟩⟩ rfl rfl hl.1 rfl (lv_room (Nat.le_of_ble_eq_true rfl)) dX10_isMet_63 ⟨Nat.le_of_ble_eq_true rfl, Nat.le_of_ble_eq_true rfl⟩) (fun r_48 hw => ?_)
          try dsimp only at hw
          have hq_r_48 : r_48 = fs_moonOf wd wf mp mb mo sp sb ct := hw
          refine lv_aload_n hx hb dX10_isMet_66 rfl (lv_at hl 0 rfl) ?_
          refine va_get (D := (dC, dI)) (ci := 10) (v := .int w2) (C := RX10) (T := TX10) (N := 5) hx hb htw inlX10 hown hK hP 0 rfl rfl 2 (by decide) (htw _ (ck_42 _ (List.mem_of_getElem? (i := 6) rfl))) (fun _ h9 => h9) rfl dX10_isMet_67 ?_
          refine lv_icmp_ne (tgt := 130) hx hb dX10_isMet_70 (by decide) (fun c_49 => ?_) (fun c_49 => ?_)
          · refine lv_iconst (v := 0) hx hb dX10_isMet_130 (by decide) ?_
            refine W.widen (k := 0) (n := 0) (by omega) (by omega) ?_
            have hP9 := hP
            have hD9 := hD
            have hK9 := hK.sub (tys' := []) [] rfl
            exact W.zret (v := 0) hx hb hr (by first | rfl | decide) (fun t ht hW => ⟨⟨0, fRs, rfl, ((fun e9 => ⟨by rw [e9], by rw [e9]⟩ : fw_isMet w0 w1 w2 w3 w4 fRc fRe fRs ct yr dy lg wd wf mp mb mo sp sb = ((0 : Int32), fRs) → _) (by rw [fw_isMet]; (try rw [← hq_r_32]); (try rw [← hq_r_48]); (try rw [if_pos c_1]); (try rw [if_neg c_2]); (try rw [if_pos c_33]); (try rw [if_neg c_34]); (try rw [if_neg c_49]); try rfl)), by rw [ht]; exact hP9, va_K.moved hW.alike hK9, hD9⟩, hS.F ht⟩) hS.2.2 dX10_isMet_131
          · refine lv_aload_n hx hb dX10_isMet_73 rfl (lv_at hl 0 rfl) ?_
            refine va_get (D := (dC, dI)) (ci := 10) (v := .int w3) (C := RX10) (T := TX10) (N := 5) hx hb htw inlX10 hown hK hP 0 rfl rfl 3 (by decide) (htw _ (ck_42 _ (List.mem_of_getElem? (i := 7) rfl))) (fun _ h9 => h9) rfl dX10_isMet_74 ?_
            refine lv_iconst (v := (-1)) hx hb dX10_isMet_77 (by decide) ?_
            refine lv_icmp_eq (tgt := 99) hx hb dX10_isMet_78 (by decide) (fun c_50 => ?_) (fun c_50 => ?_)
            · refine lv_aload_n hx hb dX10_isMet_99 rfl (lv_at hl 0 rfl) ?_
              refine va_get (D := (dC, dI)) (ci := 10) (v := .int w4) (C := RX10) (T := TX10) (N := 5) hx hb htw inlX10 hown hK hP 0 rfl rfl 4 (by decide) (htw _ (ck_42 _ (List.mem_of_getElem? (i := 8) rfl))) (fun _ h9 => h9) rfl dX10_isMet_100 ?_
              refine lv_iconst (v := (-1)) hx hb dX10_isMet_103 (by decide) ?_
              refine lv_icmp_eq (tgt := 126) hx hb dX10_isMet_104 (by decide) (fun c_51 => ?_) (fun c_51 => ?_)
              · refine lv_iconst (v := 1) hx hb dX10_isMet_126 (by decide) ?_
                refine lv_goto (tgt := 131) hx hb dX10_isMet_127 (by decide) ?_
                refine W.widen (k := 0) (n := 0) (by omega) (by omega) ?_
                have hP9 := hP
                have hD9 := hD
                have hK9 := hK.sub (tys' := []) [] rfl
                exact W.zret (v := 1) hx hb hr (by first | rfl | decide) (fun t ht hW => ⟨⟨1, fRs, rfl, ((fun e9 => ⟨by rw [e9], by rw [e9]⟩ : fw_isMet w0 w1 w2 w3 w4 fRc fRe fRs ct yr dy lg wd wf mp mb mo sp sb = ((1 : Int32), fRs) → _) (by rw [fw_isMet]; (try rw [← hq_r_32]); (try rw [← hq_r_48]); (try rw [if_pos c_1]); (try rw [if_neg c_2]); (try rw [if_pos c_33]); (try rw [if_neg c_34]); (try rw [if_pos c_49]); (try rw [if_pos c_50]); (try rw [if_pos c_51]); try rfl)), by rw [ht]; exact hP9, va_K.moved hW.alike hK9, hD9⟩, hS.F ht⟩) hS.2.2 dX10_isMet_131
              · refine lv_aload_n hx hb dX10_isMet_107 rfl (lv_at hl 2 rfl) ?_
                refine va_get (D := (dC, dI)) (ci := 0) (v := .ref bru) (C := RX0) (T := TX0) (N := 12) hx hb htw inlX0 hown hK hP 2 rfl rfl 4 (by decide) (htw _ (ck_42 _ (List.mem_of_getElem? (i := 22) rfl))) (fun _ h9 => h9) rfl dX10_isMet_108 ?_
                refine lv_aload_n hx hb dX10_isMet_111 rfl (lv_at hl 0 rfl) ?_
                refine va_get (D := (dC, dI)) (ci := 10) (v := .int w4) (C := RX10) (T := TX10) (N := 5) hx hb htw inlX10 hown hK hP 0 rfl rfl 4 (by decide) (htw _ (ck_42 _ (List.mem_of_getElem? (i := 8) rfl))) (fun _ h9 => h9) rfl dX10_isMet_112 ?_
                refine lv_aload_n hx hb dX10_isMet_115 rfl (lv_at hl 1 rfl) ?_
                refine lv_aload_n hx hb dX10_isMet_116 rfl (lv_at hl 2 rfl) ?_
                refine va_get (D := (dC, dI)) (ci := 0) (v := .ref bsk) (C := RX0) (T := TX0) (N := 12) hx hb htw inlX0 hown hK hP 2 rfl rfl 3 (by decide) (htw _ (ck_42 _ (List.mem_of_getElem? (i := 20) rfl))) (fun _ h9 => h9) rfl dX10_isMet_117 ?_
                obtain ⟨hPc, hDc, hFc, hCc⟩ := zsub3 (ws' := [(eO8a bru rco rsz ren rst rkn), (eA0 rco cRc 64 fRc), (eA0 ren cRe 4 fRe), (eA1 rst cRs 64 fRs), (mm, .inr (4, [mla, .long ct, .long yr, .long dy, .long lg])), (eO9a bsk wd wf mp mb mo sp sb)]) hP hD hS hA [4, 5, 6, 7, 1, 3] (by decide) rfl
                have hKc := hK.sub (tys' := [(cRc, .int), (cRe, .int), (cRs, .long)]) [0, 1, 2] rfl
                refine va_calli (va_runV (As := [.int w4, .ref mm, .ref bsk]) (rest := []) ⟨hx, hb, hml, hown, htw⟩ (gr_isFeast l dC dI bru rco rsz ren rst rkn cRc fRc cRe fRe cRs fRs mm mla ct yr dy lg bsk wd wf mp mb mo sp sb w4 H.size hE) (cwV 3 htw (xg_V (ck_43 _ (List.mem_of_getElem? (i := 2) rfl)) (ck_39 _ (List.mem_of_getElem? (i := 5) rfl)) (ck_39 _ (List.mem_of_getElem? (i := 6) rfl)) (ck_6 _ (List.mem_of_getElem? (i := 8) rfl)) (ck_39 _ (List.mem_of_getElem? (i := 7) rfl))) rfl rfl rfl (by exact ⟨rfl, hdc_1.1, hdc_1.2, hdd_12⟩) ⟨Nat.le_of_ble_eq_true rfl, Nat.le_of_ble_eq_true rfl⟩) ⟨fun a U g mk q => by obtain ⟨q0, q1, qP, qK, qD⟩ := q; exact ⟨q0, q1, qP, va_K.moved (u := U) (U := U.calling g mk a) (Vm.Alike.refl U.vm) qK, qD⟩, va_recv hKc hPc (ci := 8) (q0 := 0) rfl rfl, fun U hU hW => ⟨rfl, by rw [hU], by rw [hU]; exact hPc, va_K.moved hW.alike hKc, hDc.weaken (fun _ _ _ _ => trivial)⟩⟩ rfl rfl hl.1 rfl (lv_room (Nat.le_of_ble_eq_true rfl)) dX10_isMet_120 ⟨Nat.le_of_ble_eq_true rfl, Nat.le_of_ble_eq_true rfl⟩) hS (fun q _ h => hFc q h) hFc (fun r_52 u_53 t H1 locs ht hvm hw hB hz1 hk1 hS => ?_)
                try dsimp only at hw
                obtain ⟨hP1, hK1, hD1⟩ := hB
                rw [ht] at hP1
                have hK1 := va_K.moved hvm.symm hK1
                have hK1 : va_K (dC, dI) vwCl [] s := hK1
                obtain ⟨hP, hD⟩ := va_join (wr := [(eO10a wi w0 w1 w2 w3 w4), (eO0a bk bto bnm bla bsk bru bbo bdi bda bdk bdt bdp bno)]) (w1 := [(eO8a bru rco rsz ren rst rkn), (eA0 rco cRc 64 fRc), (eA0 ren cRe 4 fRe), (eA1 rst cRs 64 u_53), (mm, .inr (4, [mla, .long ct, .long yr, .long dy, .long lg])), (eO9a bsk wd wf mp mb mo sp sb)]) hP hD [4, 5, 6, 7, 1, 3] [0, 2] hCc rfl (by decide) (by decide) hk1 hFc hP1 hD1
                generalize H1 = H at hP hS ⊢
                obtain ⟨hP, hD⟩ := zre [(eO10a wi w0 w1 w2 w3 w4), (eO0a bk bto bnm bla bsk bru bbo bdi bda bdk bdt bdp bno), (eO8a bru rco rsz ren rst rkn), (eA0 rco cRc 64 fRc), (eA0 ren cRe 4 fRe), (eA1 rst cRs 64 u_53), (mm, .inr (4, [mla, .long ct, .long yr, .long dy, .long lg])), (eO9a bsk wd wf mp mb mo sp sb)] hP hD rfl
                refine W.widen (k := 0) (n := 0) (by omega) (by omega) ?_
                have hq_r_52 : r_52 = (fr_isFeast fRc fRe fRs ct yr dy lg wd wf mp mb mo sp sb w4).1 := hw.1
                have hq_u_53 : u_53 = (fr_isFeast fRc fRe fRs ct yr dy lg wd wf mp mb mo sp sb w4).2 := hw.2
                refine lv_if_eq (tgt := 130) hx hb dX10_isMet_123 (by decide) (fun c_55 => ?_) (fun c_55 => ?_)
                · refine lv_iconst (v := 0) hx hb dX10_isMet_130 (by decide) ?_
                  refine W.widen (k := 0) (n := 0) (by omega) (by omega) ?_
                  obtain ⟨hP9, hD9⟩ := zsub2 (ws' := [(eO10a wi w0 w1 w2 w3 w4), (mm, .inr (4, [mla, .long ct, .long yr, .long dy, .long lg])), (eO0a bk bto bnm bla bsk bru bbo bdi bda bdk bdt bdp bno), (eO9a bsk wd wf mp mb mo sp sb), (eO8a bru rco rsz ren rst rkn), (eA0 rco cRc 64 fRc), (eA0 ren cRe 4 fRe), (eA1 rst cRs 64 u_53)]) hP hD [0, 6, 1, 7, 2, 3, 4, 5] (by decide +kernel) rfl
                  have hK9 := hK.sub (tys' := []) [] rfl
                  exact W.zret (v := 0) hx hb hr (by first | rfl | decide) (fun t ht hW => ⟨⟨0, u_53, rfl, ((fun e9 => ⟨by rw [e9], by rw [e9]⟩ : fw_isMet w0 w1 w2 w3 w4 fRc fRe fRs ct yr dy lg wd wf mp mb mo sp sb = ((0 : Int32), u_53) → _) (by rw [fw_isMet]; (try rw [← hq_r_32]); (try rw [← hq_r_48]); (try rw [← hq_r_52]); (try rw [← hq_u_53]); (try rw [if_pos c_1]); (try rw [if_neg c_2]); (try rw [if_pos c_33]); (try rw [if_neg c_34]); (try rw [if_pos c_49]); (try rw [if_pos c_50]); (try rw [if_neg c_51]); (try rw [if_pos c_55]); try rfl)), by rw [ht]; exact hP9, va_K.moved hW.alike hK9, hD9⟩, hS.F ht⟩) hS.2.2 dX10_isMet_131
                · refine lv_iconst (v := 1) hx hb dX10_isMet_126 (by decide) ?_
                  refine lv_goto (tgt := 131) hx hb dX10_isMet_127 (by decide) ?_
                  refine W.widen (k := 0) (n := 0) (by omega) (by omega) ?_
                  obtain ⟨hP9, hD9⟩ := zsub2 (ws' := [(eO10a wi w0 w1 w2 w3 w4), (mm, .inr (4, [mla, .long ct, .long yr, .long dy, .long lg])), (eO0a bk bto bnm bla bsk bru bbo bdi bda bdk bdt bdp bno), (eO9a bsk wd wf mp mb mo sp sb), (eO8a bru rco rsz ren rst rkn), (eA0 rco cRc 64 fRc), (eA0 ren cRe 4 fRe), (eA1 rst cRs 64 u_53)]) hP hD [0, 6, 1, 7, 2, 3, 4, 5] (by decide +kernel) rfl
                  have hK9 := hK.sub (tys' := []) [] rfl
                  exact W.zret (v := 1) hx hb hr (by first | rfl | decide) (fun t ht hW => ⟨⟨1, u_53, rfl, ((fun e9 => ⟨by rw [e9], by rw [e9]⟩ : fw_isMet w0 w1 w2 w3 w4 fRc fRe fRs ct yr dy lg wd wf mp mb mo sp sb = ((1 : Int32), u_53) → _) (by rw [fw_isMet]; (try rw [← hq_r_32]); (try rw [← hq_r_48]); (try rw [← hq_r_52]); (try rw [← hq_u_53]); (try rw [if_pos c_1]); (try rw [if_neg c_2]); (try rw [if_pos c_33]); (try rw [if_neg c_34]); (try rw [if_pos c_49]); (try rw [if_pos c_50]); (try rw [if_neg c_51]); (try rw [if_neg c_55]); try rfl)), by rw [ht]; exact hP9, va_K.moved hW.alike hK9, hD9⟩, hS.F ht⟩) hS.2.2 dX10_isMet_131
            · refine lv_aload_n hx hb dX10_isMet_81 rfl (lv_at hl 2 rfl) ?_
              refine va_get (D := (dC, dI)) (ci := 0) (v := .ref bsk) (C := RX0) (T := TX0) (N := 12) hx hb htw inlX0 hown hK hP 2 rfl rfl 3 (by decide) (htw _ (ck_42 _ (List.mem_of_getElem? (i := 20) rfl))) (fun _ h9 => h9) rfl dX10_isMet_82 ?_
              refine lv_aload_n hx hb dX10_isMet_85 rfl (lv_at hl 1 rfl) ?_
              refine va_get (D := (dC, dI)) (ci := 4) (v := .long ct) (C := RX4) (T := TX4) (N := 5) hx hb htw inlX4 hown hK hP 1 rfl rfl 1 (by decide) (htw _ (ck_42 _ (List.mem_of_getElem? (i := 21) rfl))) (fun _ h9 => h9) rfl dX10_isMet_86 ?_
              have hPc := hP.sub (ws' := [(eO9a bsk wd wf mp mb mo sp sb)]) [3] rfl
              have hKc := hK.sub (tys' := []) [] rfl
              refine vp_callSi (W.runV (As := [.long ct]) (rest := []) ⟨hx, hb, hml, hown, htw⟩ (gs_seasonOf l dC dI bsk wd wf mp mb mo sp sb ct) (cwV 1 htw (xg_V (ck_43 _ (List.mem_of_getElem? (i := 1) rfl)) (ck_37 _ (List.mem_of_getElem? (i := 20) rfl)) (ck_37 _ (List.mem_of_getElem? (i := 21) rfl)) (ck_6 _ (List.mem_of_getElem? (i := 4) rfl)) (ck_37 _ (List.mem_of_getElem? (i := 22) rfl))) rfl rfl rfl (by exact ⟨rfl, hdc_2.1, hdc_2.2, hdd_6⟩) ⟨Nat.le_of_ble_eq_true rfl, Nat.le_of_ble_eq_true rfl⟩) ⟨fun a U g mk q => by obtain ⟨q0, qP, qK⟩ := q; exact ⟨q0, qP, va_K.moved (u := U) (U := U.calling g mk a) (Vm.Alike.refl U.vm) qK⟩, va_recv hKc hPc (ci := 9) (q0 := 0) rfl rfl, fun U hU hW => ⟨rfl, by rw [hU]; exact hPc, va_K.moved hW.alike hKc⟩⟩ rfl rfl hl.1 rfl (lv_room (Nat.le_of_ble_eq_true rfl)) dX10_isMet_89 ⟨Nat.le_of_ble_eq_true rfl, Nat.le_of_ble_eq_true rfl⟩) (fun r_56 hw => ?_)
              try dsimp only at hw
              have hq_r_56 : r_56 = fs_seasonOf wd wf mp mb mo sp sb ct := hw
              refine lv_aload_n hx hb dX10_isMet_92 rfl (lv_at hl 0 rfl) ?_
              refine va_get (D := (dC, dI)) (ci := 10) (v := .int w3) (C := RX10) (T := TX10) (N := 5) hx hb htw inlX10 hown hK hP 0 rfl rfl 3 (by decide) (htw _ (ck_42 _ (List.mem_of_getElem? (i := 7) rfl))) (fun _ h9 => h9) rfl dX10_isMet_93 ?_
              refine lv_icmp_ne (tgt := 130) hx hb dX10_isMet_96 (by decide) (fun c_57 => ?_) (fun c_57 => ?_)
              · refine lv_iconst (v := 0) hx hb dX10_isMet_130 (by decide) ?_
                refine W.widen (k := 0) (n := 0) (by omega) (by omega) ?_
                have hP9 := hP
                have hD9 := hD
                have hK9 := hK.sub (tys' := []) [] rfl
                exact W.zret (v := 0) hx hb hr (by first | rfl | decide) (fun t ht hW => ⟨⟨0, fRs, rfl, ((fun e9 => ⟨by rw [e9], by rw [e9]⟩ : fw_isMet w0 w1 w2 w3 w4 fRc fRe fRs ct yr dy lg wd wf mp mb mo sp sb = ((0 : Int32), fRs) → _) (by rw [fw_isMet]; (try rw [← hq_r_32]); (try rw [← hq_r_48]); (try rw [← hq_r_56]); (try rw [if_pos c_1]); (try rw [if_neg c_2]); (try rw [if_pos c_33]); (try rw [if_neg c_34]); (try rw [if_pos c_49]); (try rw [if_neg c_50]); (try rw [if_neg c_57]); try rfl)), by rw [ht]; exact hP9, va_K.moved hW.alike hK9, hD9⟩, hS.F ht⟩) hS.2.2 dX10_isMet_131
              · refine lv_aload_n hx hb dX10_isMet_99 rfl (lv_at hl 0 rfl) ?_
                refine va_get (D := (dC, dI)) (ci := 10) (v := .int w4) (C := RX10) (T := TX10) (N := 5) hx hb htw inlX10 hown hK hP 0 rfl rfl 4 (by decide) (htw _ (ck_42 _ (List.mem_of_getElem? (i := 8) rfl))) (fun _ h9 => h9) rfl dX10_isMet_100 ?_
                refine lv_iconst (v := (-1)) hx hb dX10_isMet_103 (by decide) ?_
                refine lv_icmp_eq (tgt := 126) hx hb dX10_isMet_104 (by decide) (fun c_58 => ?_) (fun c_58 => ?_)
                · refine lv_iconst (v := 1) hx hb dX10_isMet_126 (by decide) ?_
                  refine lv_goto (tgt := 131) hx hb dX10_isMet_127 (by decide) ?_
                  refine W.widen (k := 0) (n := 0) (by omega) (by omega) ?_
                  have hP9 := hP
                  have hD9 := hD
                  have hK9 := hK.sub (tys' := []) [] rfl
                  exact W.zret (v := 1) hx hb hr (by first | rfl | decide) (fun t ht hW => ⟨⟨1, fRs, rfl, ((fun e9 => ⟨by rw [e9], by rw [e9]⟩ : fw_isMet w0 w1 w2 w3 w4 fRc fRe fRs ct yr dy lg wd wf mp mb mo sp sb = ((1 : Int32), fRs) → _) (by rw [fw_isMet]; (try rw [← hq_r_32]); (try rw [← hq_r_48]); (try rw [← hq_r_56]); (try rw [if_pos c_1]); (try rw [if_neg c_2]); (try rw [if_pos c_33]); (try rw [if_neg c_34]); (try rw [if_pos c_49]); (try rw [if_neg c_50]); (try rw [if_pos c_57]); (try rw [if_pos c_58]); try rfl)), by rw [ht]; exact hP9, va_K.moved hW.alike hK9, hD9⟩, hS.F ht⟩) hS.2.2 dX10_isMet_131
                · refine lv_aload_n hx hb dX10_isMet_107 rfl (lv_at hl 2 rfl) ?_
                  refine va_get (D := (dC, dI)) (ci := 0) (v := .ref bru) (C := RX0) (T := TX0) (N := 12) hx hb htw inlX0 hown hK hP 2 rfl rfl 4 (by decide) (htw _ (ck_42 _ (List.mem_of_getElem? (i := 22) rfl))) (fun _ h9 => h9) rfl dX10_isMet_108 ?_
                  refine lv_aload_n hx hb dX10_isMet_111 rfl (lv_at hl 0 rfl) ?_
                  refine va_get (D := (dC, dI)) (ci := 10) (v := .int w4) (C := RX10) (T := TX10) (N := 5) hx hb htw inlX10 hown hK hP 0 rfl rfl 4 (by decide) (htw _ (ck_42 _ (List.mem_of_getElem? (i := 8) rfl))) (fun _ h9 => h9) rfl dX10_isMet_112 ?_
                  refine lv_aload_n hx hb dX10_isMet_115 rfl (lv_at hl 1 rfl) ?_
                  refine lv_aload_n hx hb dX10_isMet_116 rfl (lv_at hl 2 rfl) ?_
                  refine va_get (D := (dC, dI)) (ci := 0) (v := .ref bsk) (C := RX0) (T := TX0) (N := 12) hx hb htw inlX0 hown hK hP 2 rfl rfl 3 (by decide) (htw _ (ck_42 _ (List.mem_of_getElem? (i := 20) rfl))) (fun _ h9 => h9) rfl dX10_isMet_117 ?_
                  obtain ⟨hPc, hDc, hFc, hCc⟩ := zsub3 (ws' := [(eO8a bru rco rsz ren rst rkn), (eA0 rco cRc 64 fRc), (eA0 ren cRe 4 fRe), (eA1 rst cRs 64 fRs), (mm, .inr (4, [mla, .long ct, .long yr, .long dy, .long lg])), (eO9a bsk wd wf mp mb mo sp sb)]) hP hD hS hA [4, 5, 6, 7, 1, 3] (by decide) rfl
                  have hKc := hK.sub (tys' := [(cRc, .int), (cRe, .int), (cRs, .long)]) [0, 1, 2] rfl
                  refine va_calli (va_runV (As := [.int w4, .ref mm, .ref bsk]) (rest := []) ⟨hx, hb, hml, hown, htw⟩ (gr_isFeast l dC dI bru rco rsz ren rst rkn cRc fRc cRe fRe cRs fRs mm mla ct yr dy lg bsk wd wf mp mb mo sp sb w4 H.size hE) (cwV 3 htw (xg_V (ck_43 _ (List.mem_of_getElem? (i := 2) rfl)) (ck_39 _ (List.mem_of_getElem? (i := 5) rfl)) (ck_39 _ (List.mem_of_getElem? (i := 6) rfl)) (ck_6 _ (List.mem_of_getElem? (i := 8) rfl)) (ck_39 _ (List.mem_of_getElem? (i := 7) rfl))) rfl rfl rfl (by exact ⟨rfl, hdc_1.1, hdc_1.2, hdd_12⟩) ⟨Nat.le_of_ble_eq_true rfl, Nat.le_of_ble_eq_true rfl⟩) ⟨fun a U g mk q => by obtain ⟨q0, q1, qP, qK, qD⟩ := q; exact ⟨q0, q1, qP, va_K.moved (u := U) (U := U.calling g mk a) (Vm.Alike.refl U.vm) qK, qD⟩, va_recv hKc hPc (ci := 8) (q0 := 0) rfl rfl, fun U hU hW => ⟨rfl, by rw [hU], by rw [hU]; exact hPc, va_K.moved hW.alike hKc, hDc.weaken (fun _ _ _ _ => trivial)⟩⟩ rfl rfl hl.1 rfl (lv_room (Nat.le_of_ble_eq_true rfl)) dX10_isMet_120 ⟨Nat.le_of_ble_eq_true rfl, Nat.le_of_ble_eq_true rfl⟩) hS (fun q _ h => hFc q h) hFc (fun r_59 u_60 t H1 locs ht hvm hw hB hz1 hk1 hS => ?_)
                  try dsimp only at hw
                  obtain ⟨hP1, hK1, hD1⟩ := hB
                  rw [ht] at hP1
                  have hK1 := va_K.moved hvm.symm hK1
                  have hK1 : va_K (dC, dI) vwCl [] s := hK1
                  obtain ⟨hP, hD⟩ := va_join (wr := [(eO10a wi w0 w1 w2 w3 w4), (eO0a bk bto bnm bla bsk bru bbo bdi bda bdk bdt bdp bno)]) (w1 := [(eO8a bru rco rsz ren rst rkn), (eA0 rco cRc 64 fRc), (eA0 ren cRe 4 fRe), (eA1 rst cRs 64 u_60), (mm, .inr (4, [mla, .long ct, .long yr, .long dy, .long lg])), (eO9a bsk wd wf mp mb mo sp sb)]) hP hD [4, 5, 6, 7, 1, 3] [0, 2] hCc rfl (by decide) (by decide) hk1 hFc hP1 hD1
                  generalize H1 = H at hP hS ⊢
                  obtain ⟨hP, hD⟩ := zre [(eO10a wi w0 w1 w2 w3 w4), (eO0a bk bto bnm bla bsk bru bbo bdi bda bdk bdt bdp bno), (eO8a bru rco rsz ren rst rkn), (eA0 rco cRc 64 fRc), (eA0 ren cRe 4 fRe), (eA1 rst cRs 64 u_60), (mm, .inr (4, [mla, .long ct, .long yr, .long dy, .long lg])), (eO9a bsk wd wf mp mb mo sp sb)] hP hD rfl
                  refine W.widen (k := 0) (n := 0) (by omega) (by omega) ?_
                  have hq_r_59 : r_59 = (fr_isFeast fRc fRe fRs ct yr dy lg wd wf mp mb mo sp sb w4).1 := hw.1
                  have hq_u_60 : u_60 = (fr_isFeast fRc fRe fRs ct yr dy lg wd wf mp mb mo sp sb w4).2 := hw.2
                  refine lv_if_eq (tgt := 130) hx hb dX10_isMet_123 (by decide) (fun c_62 => ?_) (fun c_62 => ?_)
                  · refine lv_iconst (v := 0) hx hb dX10_isMet_130 (by decide) ?_
                    refine W.widen (k := 0) (n := 0) (by omega) (by omega) ?_
                    obtain ⟨hP9, hD9⟩ := zsub2 (ws' := [(eO10a wi w0 w1 w2 w3 w4), (mm, .inr (4, [mla, .long ct, .long yr, .long dy, .long lg])), (eO0a bk bto bnm bla bsk bru bbo bdi bda bdk bdt bdp bno), (eO9a bsk wd wf mp mb mo sp sb), (eO8a bru rco rsz ren rst rkn), (eA0 rco cRc 64 fRc), (eA0 ren cRe 4 fRe), (eA1 rst cRs 64 u_60)]) hP hD [0, 6, 1, 7, 2, 3, 4, 5] (by decide +kernel) rfl
                    have hK9 := hK.sub (tys' := []) [] rfl
                    exact W.zret (v := 0) hx hb hr (by first | rfl | decide) (fun t ht hW => ⟨⟨0, u_60, rfl, ((fun e9 => ⟨by rw [e9], by rw [e9]⟩ : fw_isMet w0 w1 w2 w3 w4 fRc fRe fRs ct yr dy lg wd wf mp mb mo sp sb = ((0 : Int32), u_60) → _) (by rw [fw_isMet]; (try rw [← hq_r_32]); (try rw [← hq_r_48]); (try rw [← hq_r_56]); (try rw [← hq_r_59]); (try rw [← hq_u_60]); (try rw [if_pos c_1]); (try rw [if_neg c_2]); (try rw [if_pos c_33]); (try rw [if_neg c_34]); (try rw [if_pos c_49]); (try rw [if_neg c_50]); (try rw [if_pos c_57]); (try rw [if_neg c_58]); (try rw [if_pos c_62]); try rfl)), by rw [ht]; exact hP9, va_K.moved hW.alike hK9, hD9⟩, hS.F ht⟩) hS.2.2 dX10_isMet_131
                  · refine lv_iconst (v := 1) hx hb dX10_isMet_126 (by decide) ?_
                    refine lv_goto (tgt := 131) hx hb dX10_isMet_127 (by decide) ?_
                    refine W.widen (k := 0) (n := 0) (by omega) (by omega) ?_
                    obtain ⟨hP9, hD9⟩ := zsub2 (ws' := [(eO10a wi w0 w1 w2 w3 w4), (mm, .inr (4, [mla, .long ct, .long yr, .long dy, .long lg])), (eO0a bk bto bnm bla bsk bru bbo bdi bda bdk bdt bdp bno), (eO9a bsk wd wf mp mb mo sp sb), (eO8a bru rco rsz ren rst rkn), (eA0 rco cRc 64 fRc), (eA0 ren cRe 4 fRe), (eA1 rst cRs 64 u_60)]) hP hD [0, 6, 1, 7, 2, 3, 4, 5] (by decide +kernel) rfl
                    have hK9 := hK.sub (tys' := []) [] rfl
                    exact W.zret (v := 1) hx hb hr (by first | rfl | decide) (fun t ht hW => ⟨⟨1, u_60, rfl, ((fun e9 => ⟨by rw [e9], by rw [e9]⟩ : fw_isMet w0 w1 w2 w3 w4 fRc fRe fRs ct yr dy lg wd wf mp mb mo sp sb = ((1 : Int32), u_60) → _) (by rw [fw_isMet]; (try rw [← hq_r_32]); (try rw [← hq_r_48]); (try rw [← hq_r_56]); (try rw [← hq_r_59]); (try rw [← hq_u_60]); (try rw [if_pos c_1]); (try rw [if_neg c_2]); (try rw [if_pos c_33]); (try rw [if_neg c_34]); (try rw [if_pos c_49]); (try rw [if_neg c_50]); (try rw [if_pos c_57]); (try rw [if_neg c_58]); (try rw [if_neg c_62]); try rfl)), by rw [ht]; exact hP9, va_K.moved hW.alike hK9, hD9⟩, hS.F ht⟩) hS.2.2 dX10_isMet_131
  · refine lv_aload_n hx hb dX10_isMet_8 rfl (lv_at hl 1 rfl) ?_
    refine va_get (D := (dC, dI)) (ci := 4) (v := .long dy) (C := RX4) (T := TX4) (N := 5) hx hb htw inlX4 hown hK hP 1 rfl rfl 3 (by decide) (htw _ (ck_42 _ (List.mem_of_getElem? (i := 19) rfl))) (fun _ h9 => h9) rfl dX10_isMet_9 ?_
    refine lv_aload_n hx hb dX10_isMet_12 rfl (lv_at hl 0 rfl) ?_
    refine va_get (D := (dC, dI)) (ci := 10) (v := .int w0) (C := RX10) (T := TX10) (N := 5) hx hb htw inlX10 hown hK hP 0 rfl rfl 0 (by decide) (htw _ (ck_42 _ (List.mem_of_getElem? (i := 4) rfl))) (fun _ h9 => h9) rfl dX10_isMet_13 ?_
    refine lv_i2l (v := w0.toInt64) hx hb dX10_isMet_16 rfl ?_
    refine W.lcmp hx hb dX10_isMet_17 ?_
    refine lv_if_ne (tgt := 130) hx hb dX10_isMet_18 (by decide) (fun c_63 => ?_) (fun c_63 => ?_)
    · refine lv_iconst (v := 0) hx hb dX10_isMet_130 (by decide) ?_
      refine W.widen (k := 0) (n := 0) (by omega) (by omega) ?_
      have hP9 := hP
      have hD9 := hD
      have hK9 := hK.sub (tys' := []) [] rfl
      exact W.zret (v := 0) hx hb hr (by first | rfl | decide) (fun t ht hW => ⟨⟨0, fRs, rfl, ((fun e9 => ⟨by rw [e9], by rw [e9]⟩ : fw_isMet w0 w1 w2 w3 w4 fRc fRe fRs ct yr dy lg wd wf mp mb mo sp sb = ((0 : Int32), fRs) → _) (by rw [fw_isMet]; (try rw [if_neg c_1]); (try rw [if_neg c_63]); try rfl)), by rw [ht]; exact hP9, va_K.moved hW.alike hK9, hD9⟩, hS.F ht⟩) hS.2.2 dX10_isMet_131
    · refine lv_aload_n hx hb dX10_isMet_21 rfl (lv_at hl 0 rfl) ?_
      refine va_get (D := (dC, dI)) (ci := 10) (v := .int w1) (C := RX10) (T := TX10) (N := 5) hx hb htw inlX10 hown hK hP 0 rfl rfl 1 (by decide) (htw _ (ck_42 _ (List.mem_of_getElem? (i := 5) rfl))) (fun _ h9 => h9) rfl dX10_isMet_22 ?_
      refine lv_iconst (v := (-1)) hx hb dX10_isMet_25 (by decide) ?_
      refine lv_icmp_eq (tgt := 47) hx hb dX10_isMet_26 (by decide) (fun c_64 => ?_) (fun c_64 => ?_)
      · refine lv_aload_n hx hb dX10_isMet_47 rfl (lv_at hl 0 rfl) ?_
        refine va_get (D := (dC, dI)) (ci := 10) (v := .int w2) (C := RX10) (T := TX10) (N := 5) hx hb htw inlX10 hown hK hP 0 rfl rfl 2 (by decide) (htw _ (ck_42 _ (List.mem_of_getElem? (i := 6) rfl))) (fun _ h9 => h9) rfl dX10_isMet_48 ?_
        refine lv_iconst (v := (-1)) hx hb dX10_isMet_51 (by decide) ?_
        refine lv_icmp_eq (tgt := 73) hx hb dX10_isMet_52 (by decide) (fun c_65 => ?_) (fun c_65 => ?_)
        · refine lv_aload_n hx hb dX10_isMet_73 rfl (lv_at hl 0 rfl) ?_
          refine va_get (D := (dC, dI)) (ci := 10) (v := .int w3) (C := RX10) (T := TX10) (N := 5) hx hb htw inlX10 hown hK hP 0 rfl rfl 3 (by decide) (htw _ (ck_42 _ (List.mem_of_getElem? (i := 7) rfl))) (fun _ h9 => h9) rfl dX10_isMet_74 ?_
          refine lv_iconst (v := (-1)) hx hb dX10_isMet_77 (by decide) ?_
          refine lv_icmp_eq (tgt := 99) hx hb dX10_isMet_78 (by decide) (fun c_66 => ?_) (fun c_66 => ?_)
          · refine lv_aload_n hx hb dX10_isMet_99 rfl (lv_at hl 0 rfl) ?_
            refine va_get (D := (dC, dI)) (ci := 10) (v := .int w4) (C := RX10) (T := TX10) (N := 5) hx hb htw inlX10 hown hK hP 0 rfl rfl 4 (by decide) (htw _ (ck_42 _ (List.mem_of_getElem? (i := 8) rfl))) (fun _ h9 => h9) rfl dX10_isMet_100 ?_
            refine lv_iconst (v := (-1)) hx hb dX10_isMet_103 (by decide) ?_
            refine lv_icmp_eq (tgt := 126) hx hb dX10_isMet_104 (by decide) (fun c_67 => ?_) (fun c_67 => ?_)
            · refine lv_iconst (v := 1) hx hb dX10_isMet_126 (by decide) ?_
              refine lv_goto (tgt := 131) hx hb dX10_isMet_127 (by decide) ?_
              refine W.widen (k := 0) (n := 0) (by omega) (by omega) ?_
              have hP9 := hP
              have hD9 := hD
              have hK9 := hK.sub (tys' := []) [] rfl
              exact W.zret (v := 1) hx hb hr (by first | rfl | decide) (fun t ht hW => ⟨⟨1, fRs, rfl, ((fun e9 => ⟨by rw [e9], by rw [e9]⟩ : fw_isMet w0 w1 w2 w3 w4 fRc fRe fRs ct yr dy lg wd wf mp mb mo sp sb = ((1 : Int32), fRs) → _) (by rw [fw_isMet]; (try rw [if_neg c_1]); (try rw [if_pos c_63]); (try rw [if_pos c_64]); (try rw [if_pos c_65]); (try rw [if_pos c_66]); (try rw [if_pos c_67]); try rfl)), by rw [ht]; exact hP9, va_K.moved hW.alike hK9, hD9⟩, hS.F ht⟩) hS.2.2 dX10_isMet_131
            · refine lv_aload_n hx hb dX10_isMet_107 rfl (lv_at hl 2 rfl) ?_
              refine va_get (D := (dC, dI)) (ci := 0) (v := .ref bru) (C := RX0) (T := TX0) (N := 12) hx hb htw inlX0 hown hK hP 2 rfl rfl 4 (by decide) (htw _ (ck_42 _ (List.mem_of_getElem? (i := 22) rfl))) (fun _ h9 => h9) rfl dX10_isMet_108 ?_
              refine lv_aload_n hx hb dX10_isMet_111 rfl (lv_at hl 0 rfl) ?_
              refine va_get (D := (dC, dI)) (ci := 10) (v := .int w4) (C := RX10) (T := TX10) (N := 5) hx hb htw inlX10 hown hK hP 0 rfl rfl 4 (by decide) (htw _ (ck_42 _ (List.mem_of_getElem? (i := 8) rfl))) (fun _ h9 => h9) rfl dX10_isMet_112 ?_
              refine lv_aload_n hx hb dX10_isMet_115 rfl (lv_at hl 1 rfl) ?_
              refine lv_aload_n hx hb dX10_isMet_116 rfl (lv_at hl 2 rfl) ?_
              refine va_get (D := (dC, dI)) (ci := 0) (v := .ref bsk) (C := RX0) (T := TX0) (N := 12) hx hb htw inlX0 hown hK hP 2 rfl rfl 3 (by decide) (htw _ (ck_42 _ (List.mem_of_getElem? (i := 20) rfl))) (fun _ h9 => h9) rfl dX10_isMet_117 ?_
              obtain ⟨hPc, hDc, hFc, hCc⟩ := zsub3 (ws' := [(eO8a bru rco rsz ren rst rkn), (eA0 rco cRc 64 fRc), (eA0 ren cRe 4 fRe), (eA1 rst cRs 64 fRs), (mm, .inr (4, [mla, .long ct, .long yr, .long dy, .long lg])), (eO9a bsk wd wf mp mb mo sp sb)]) hP hD hS hA [4, 5, 6, 7, 1, 3] (by decide) rfl
              have hKc := hK.sub (tys' := [(cRc, .int), (cRe, .int), (cRs, .long)]) [0, 1, 2] rfl
              refine va_calli (va_runV (As := [.int w4, .ref mm, .ref bsk]) (rest := []) ⟨hx, hb, hml, hown, htw⟩ (gr_isFeast l dC dI bru rco rsz ren rst rkn cRc fRc cRe fRe cRs fRs mm mla ct yr dy lg bsk wd wf mp mb mo sp sb w4 H.size hE) (cwV 3 htw (xg_V (ck_43 _ (List.mem_of_getElem? (i := 2) rfl)) (ck_39 _ (List.mem_of_getElem? (i := 5) rfl)) (ck_39 _ (List.mem_of_getElem? (i := 6) rfl)) (ck_6 _ (List.mem_of_getElem? (i := 8) rfl)) (ck_39 _ (List.mem_of_getElem? (i := 7) rfl))) rfl rfl rfl (by exact ⟨rfl, hdc_1.1, hdc_1.2, hdd_12⟩) ⟨Nat.le_of_ble_eq_true rfl, Nat.le_of_ble_eq_true rfl⟩) ⟨fun a U g mk q => by obtain ⟨q0, q1, qP, qK, qD⟩ := q; exact ⟨q0, q1, qP, va_K.moved (u := U) (U := U.calling g mk a) (Vm.Alike.refl U.vm) qK, qD⟩, va_recv hKc hPc (ci := 8) (q0 := 0) rfl rfl, fun U hU hW => ⟨rfl, by rw [hU], by rw [hU]; exact hPc, va_K.moved hW.alike hKc, hDc.weaken (fun _ _ _ _ => trivial)⟩⟩ rfl rfl hl.1 rfl (lv_room (Nat.le_of_ble_eq_true rfl)) dX10_isMet_120 ⟨Nat.le_of_ble_eq_true rfl, Nat.le_of_ble_eq_true rfl⟩) hS (fun q _ h => hFc q h) hFc (fun r_68 u_69 t H1 locs ht hvm hw hB hz1 hk1 hS => ?_)
              try dsimp only at hw
              obtain ⟨hP1, hK1, hD1⟩ := hB
              rw [ht] at hP1
              have hK1 := va_K.moved hvm.symm hK1
              have hK1 : va_K (dC, dI) vwCl [] s := hK1
              obtain ⟨hP, hD⟩ := va_join (wr := [(eO10a wi w0 w1 w2 w3 w4), (eO0a bk bto bnm bla bsk bru bbo bdi bda bdk bdt bdp bno)]) (w1 := [(eO8a bru rco rsz ren rst rkn), (eA0 rco cRc 64 fRc), (eA0 ren cRe 4 fRe), (eA1 rst cRs 64 u_69), (mm, .inr (4, [mla, .long ct, .long yr, .long dy, .long lg])), (eO9a bsk wd wf mp mb mo sp sb)]) hP hD [4, 5, 6, 7, 1, 3] [0, 2] hCc rfl (by decide) (by decide) hk1 hFc hP1 hD1
              generalize H1 = H at hP hS ⊢
              obtain ⟨hP, hD⟩ := zre [(eO10a wi w0 w1 w2 w3 w4), (eO0a bk bto bnm bla bsk bru bbo bdi bda bdk bdt bdp bno), (eO8a bru rco rsz ren rst rkn), (eA0 rco cRc 64 fRc), (eA0 ren cRe 4 fRe), (eA1 rst cRs 64 u_69), (mm, .inr (4, [mla, .long ct, .long yr, .long dy, .long lg])), (eO9a bsk wd wf mp mb mo sp sb)] hP hD rfl
              refine W.widen (k := 0) (n := 0) (by omega) (by omega) ?_
              have hq_r_68 : r_68 = (fr_isFeast fRc fRe fRs ct yr dy lg wd wf mp mb mo sp sb w4).1 := hw.1
              have hq_u_69 : u_69 = (fr_isFeast fRc fRe fRs ct yr dy lg wd wf mp mb mo sp sb w4).2 := hw.2
              refine lv_if_eq (tgt := 130) hx hb dX10_isMet_123 (by decide) (fun c_71 => ?_) (fun c_71 => ?_)
              · refine lv_iconst (v := 0) hx hb dX10_isMet_130 (by decide) ?_
                refine W.widen (k := 0) (n := 0) (by omega) (by omega) ?_
                obtain ⟨hP9, hD9⟩ := zsub2 (ws' := [(eO10a wi w0 w1 w2 w3 w4), (mm, .inr (4, [mla, .long ct, .long yr, .long dy, .long lg])), (eO0a bk bto bnm bla bsk bru bbo bdi bda bdk bdt bdp bno), (eO9a bsk wd wf mp mb mo sp sb), (eO8a bru rco rsz ren rst rkn), (eA0 rco cRc 64 fRc), (eA0 ren cRe 4 fRe), (eA1 rst cRs 64 u_69)]) hP hD [0, 6, 1, 7, 2, 3, 4, 5] (by decide +kernel) rfl
                have hK9 := hK.sub (tys' := []) [] rfl
                exact W.zret (v := 0) hx hb hr (by first | rfl | decide) (fun t ht hW => ⟨⟨0, u_69, rfl, ((fun e9 => ⟨by rw [e9], by rw [e9]⟩ : fw_isMet w0 w1 w2 w3 w4 fRc fRe fRs ct yr dy lg wd wf mp mb mo sp sb = ((0 : Int32), u_69) → _) (by rw [fw_isMet]; (try rw [← hq_r_68]); (try rw [← hq_u_69]); (try rw [if_neg c_1]); (try rw [if_pos c_63]); (try rw [if_pos c_64]); (try rw [if_pos c_65]); (try rw [if_pos c_66]); (try rw [if_neg c_67]); (try rw [if_pos c_71]); try rfl)), by rw [ht]; exact hP9, va_K.moved hW.alike hK9, hD9⟩, hS.F ht⟩) hS.2.2 dX10_isMet_131
              · refine lv_iconst (v := 1) hx hb dX10_isMet_126 (by decide) ?_
                refine lv_goto (tgt := 131) hx hb dX10_isMet_127 (by decide) ?_
                refine W.widen (k := 0) (n := 0) (by omega) (by omega) ?_
                obtain ⟨hP9, hD9⟩ := zsub2 (ws' := [(eO10a wi w0 w1 w2 w3 w4), (mm, .inr (4, [mla, .long ct, .long yr, .long dy, .long lg])), (eO0a bk bto bnm bla bsk bru bbo bdi bda bdk bdt bdp bno), (eO9a bsk wd wf mp mb mo sp sb), (eO8a bru rco rsz ren rst rkn), (eA0 rco cRc 64 fRc), (eA0 ren cRe 4 fRe), (eA1 rst cRs 64 u_69)]) hP hD [0, 6, 1, 7, 2, 3, 4, 5] (by decide +kernel) rfl
                have hK9 := hK.sub (tys' := []) [] rfl
                exact W.zret (v := 1) hx hb hr (by first | rfl | decide) (fun t ht hW => ⟨⟨1, u_69, rfl, ((fun e9 => ⟨by rw [e9], by rw [e9]⟩ : fw_isMet w0 w1 w2 w3 w4 fRc fRe fRs ct yr dy lg wd wf mp mb mo sp sb = ((1 : Int32), u_69) → _) (by rw [fw_isMet]; (try rw [← hq_r_68]); (try rw [← hq_u_69]); (try rw [if_neg c_1]); (try rw [if_pos c_63]); (try rw [if_pos c_64]); (try rw [if_pos c_65]); (try rw [if_pos c_66]); (try rw [if_neg c_67]); (try rw [if_neg c_71]); try rfl)), by rw [ht]; exact hP9, va_K.moved hW.alike hK9, hD9⟩, hS.F ht⟩) hS.2.2 dX10_isMet_131
          · refine lv_aload_n hx hb dX10_isMet_81 rfl (lv_at hl 2 rfl) ?_
            refine va_get (D := (dC, dI)) (ci := 0) (v := .ref bsk) (C := RX0) (T := TX0) (N := 12) hx hb htw inlX0 hown hK hP 2 rfl rfl 3 (by decide) (htw _ (ck_42 _ (List.mem_of_getElem? (i := 20) rfl))) (fun _ h9 => h9) rfl dX10_isMet_82 ?_
            refine lv_aload_n hx hb dX10_isMet_85 rfl (lv_at hl 1 rfl) ?_
            refine va_get (D := (dC, dI)) (ci := 4) (v := .long ct) (C := RX4) (T := TX4) (N := 5) hx hb htw inlX4 hown hK hP 1 rfl rfl 1 (by decide) (htw _ (ck_42 _ (List.mem_of_getElem? (i := 21) rfl))) (fun _ h9 => h9) rfl dX10_isMet_86 ?_
            have hPc := hP.sub (ws' := [(eO9a bsk wd wf mp mb mo sp sb)]) [3] rfl
            have hKc := hK.sub (tys' := []) [] rfl
            refine vp_callSi (W.runV (As := [.long ct]) (rest := []) ⟨hx, hb, hml, hown, htw⟩ (gs_seasonOf l dC dI bsk wd wf mp mb mo sp sb ct) (cwV 1 htw (xg_V (ck_43 _ (List.mem_of_getElem? (i := 1) rfl)) (ck_37 _ (List.mem_of_getElem? (i := 20) rfl)) (ck_37 _ (List.mem_of_getElem? (i := 21) rfl)) (ck_6 _ (List.mem_of_getElem? (i := 4) rfl)) (ck_37 _ (List.mem_of_getElem? (i := 22) rfl))) rfl rfl rfl (by exact ⟨rfl, hdc_2.1, hdc_2.2, hdd_6⟩) ⟨Nat.le_of_ble_eq_true rfl, Nat.le_of_ble_eq_true rfl⟩) ⟨fun a U g mk q => by obtain ⟨q0, qP, qK⟩ := q; exact ⟨q0, qP, va_K.moved (u := U) (U := U.calling g mk a) (Vm.Alike.refl U.vm) qK⟩, va_recv hKc hPc (ci := 9) (q0 := 0) rfl rfl, fun U hU hW => ⟨rfl, by rw [hU]; exact hPc, va_K.moved hW.alike hKc⟩⟩ rfl rfl hl.1 rfl (lv_room (Nat.le_of_ble_eq_true rfl)) dX10_isMet_89 ⟨Nat.le_of_ble_eq_true rfl, Nat.le_of_ble_eq_true rfl⟩) (fun r_72 hw => ?_)
            try dsimp only at hw
            have hq_r_72 : r_72 = fs_seasonOf wd wf mp mb mo sp sb ct := hw
            refine lv_aload_n hx hb dX10_isMet_92 rfl (lv_at hl 0 rfl) ?_
            refine va_get (D := (dC, dI)) (ci := 10) (v := .int w3) (C := RX10) (T := TX10) (N := 5) hx hb htw inlX10 hown hK hP 0 rfl rfl 3 (by decide) (htw _ (ck_42 _ (List.mem_of_getElem? (i := 7) rfl))) (fun _ h9 => h9) rfl dX10_isMet_93 ?_
            refine lv_icmp_ne (tgt := 130) hx hb dX10_isMet_96 (by decide) (fun c_73 => ?_) (fun c_73 => ?_)
            · refine lv_iconst (v := 0) hx hb dX10_isMet_130 (by decide) ?_
              refine W.widen (k := 0) (n := 0) (by omega) (by omega) ?_
              have hP9 := hP
              have hD9 := hD
              have hK9 := hK.sub (tys' := []) [] rfl
              exact W.zret (v := 0) hx hb hr (by first | rfl | decide) (fun t ht hW => ⟨⟨0, fRs, rfl, ((fun e9 => ⟨by rw [e9], by rw [e9]⟩ : fw_isMet w0 w1 w2 w3 w4 fRc fRe fRs ct yr dy lg wd wf mp mb mo sp sb = ((0 : Int32), fRs) → _) (by rw [fw_isMet]; (try rw [← hq_r_72]); (try rw [if_neg c_1]); (try rw [if_pos c_63]); (try rw [if_pos c_64]); (try rw [if_pos c_65]); (try rw [if_neg c_66]); (try rw [if_neg c_73]); try rfl)), by rw [ht]; exact hP9, va_K.moved hW.alike hK9, hD9⟩, hS.F ht⟩) hS.2.2 dX10_isMet_131
            · refine lv_aload_n hx hb dX10_isMet_99 rfl (lv_at hl 0 rfl) ?_
              refine va_get (D := (dC, dI)) (ci := 10) (v := .int w4) (C := RX10) (T := TX10) (N := 5) hx hb htw inlX10 hown hK hP 0 rfl rfl 4 (by decide) (htw _ (ck_42 _ (List.mem_of_getElem? (i := 8) rfl))) (fun _ h9 => h9) rfl dX10_isMet_100 ?_
              refine lv_iconst (v := (-1)) hx hb dX10_isMet_103 (by decide) ?_
              refine lv_icmp_eq (tgt := 126) hx hb dX10_isMet_104 (by decide) (fun c_74 => ?_) (fun c_74 => ?_)
              · refine lv_iconst (v := 1) hx hb dX10_isMet_126 (by decide) ?_
                refine lv_goto (tgt := 131) hx hb dX10_isMet_127 (by decide) ?_
                refine W.widen (k := 0) (n := 0) (by omega) (by omega) ?_
                have hP9 := hP
                have hD9 := hD
                have hK9 := hK.sub (tys' := []) [] rfl
                exact W.zret (v := 1) hx hb hr (by first | rfl | decide) (fun t ht hW => ⟨⟨1, fRs, rfl, ((fun e9 => ⟨by rw [e9], by rw [e9]⟩ : fw_isMet w0 w1 w2 w3 w4 fRc fRe fRs ct yr dy lg wd wf mp mb mo sp sb = ((1 : Int32), fRs) → _) (by rw [fw_isMet]; (try rw [← hq_r_72]); (try rw [if_neg c_1]); (try rw [if_pos c_63]); (try rw [if_pos c_64]); (try rw [if_pos c_65]); (try rw [if_neg c_66]); (try rw [if_pos c_73]); (try rw [if_pos c_74]); try rfl)), by rw [ht]; exact hP9, va_K.moved hW.alike hK9, hD9⟩, hS.F ht⟩) hS.2.2 dX10_isMet_131
              · refine lv_aload_n hx hb dX10_isMet_107 rfl (lv_at hl 2 rfl) ?_
                refine va_get (D := (dC, dI)) (ci := 0) (v := .ref bru) (C := RX0) (T := TX0) (N := 12) hx hb htw inlX0 hown hK hP 2 rfl rfl 4 (by decide) (htw _ (ck_42 _ (List.mem_of_getElem? (i := 22) rfl))) (fun _ h9 => h9) rfl dX10_isMet_108 ?_
                refine lv_aload_n hx hb dX10_isMet_111 rfl (lv_at hl 0 rfl) ?_
                refine va_get (D := (dC, dI)) (ci := 10) (v := .int w4) (C := RX10) (T := TX10) (N := 5) hx hb htw inlX10 hown hK hP 0 rfl rfl 4 (by decide) (htw _ (ck_42 _ (List.mem_of_getElem? (i := 8) rfl))) (fun _ h9 => h9) rfl dX10_isMet_112 ?_
                refine lv_aload_n hx hb dX10_isMet_115 rfl (lv_at hl 1 rfl) ?_
                refine lv_aload_n hx hb dX10_isMet_116 rfl (lv_at hl 2 rfl) ?_
                refine va_get (D := (dC, dI)) (ci := 0) (v := .ref bsk) (C := RX0) (T := TX0) (N := 12) hx hb htw inlX0 hown hK hP 2 rfl rfl 3 (by decide) (htw _ (ck_42 _ (List.mem_of_getElem? (i := 20) rfl))) (fun _ h9 => h9) rfl dX10_isMet_117 ?_
                obtain ⟨hPc, hDc, hFc, hCc⟩ := zsub3 (ws' := [(eO8a bru rco rsz ren rst rkn), (eA0 rco cRc 64 fRc), (eA0 ren cRe 4 fRe), (eA1 rst cRs 64 fRs), (mm, .inr (4, [mla, .long ct, .long yr, .long dy, .long lg])), (eO9a bsk wd wf mp mb mo sp sb)]) hP hD hS hA [4, 5, 6, 7, 1, 3] (by decide) rfl
                have hKc := hK.sub (tys' := [(cRc, .int), (cRe, .int), (cRs, .long)]) [0, 1, 2] rfl
                refine va_calli (va_runV (As := [.int w4, .ref mm, .ref bsk]) (rest := []) ⟨hx, hb, hml, hown, htw⟩ (gr_isFeast l dC dI bru rco rsz ren rst rkn cRc fRc cRe fRe cRs fRs mm mla ct yr dy lg bsk wd wf mp mb mo sp sb w4 H.size hE) (cwV 3 htw (xg_V (ck_43 _ (List.mem_of_getElem? (i := 2) rfl)) (ck_39 _ (List.mem_of_getElem? (i := 5) rfl)) (ck_39 _ (List.mem_of_getElem? (i := 6) rfl)) (ck_6 _ (List.mem_of_getElem? (i := 8) rfl)) (ck_39 _ (List.mem_of_getElem? (i := 7) rfl))) rfl rfl rfl (by exact ⟨rfl, hdc_1.1, hdc_1.2, hdd_12⟩) ⟨Nat.le_of_ble_eq_true rfl, Nat.le_of_ble_eq_true rfl⟩) ⟨fun a U g mk q => by obtain ⟨q0, q1, qP, qK, qD⟩ := q; exact ⟨q0, q1, qP, va_K.moved (u := U) (U := U.calling g mk a) (Vm.Alike.refl U.vm) qK, qD⟩, va_recv hKc hPc (ci := 8) (q0 := 0) rfl rfl, fun U hU hW => ⟨rfl, by rw [hU], by rw [hU]; exact hPc, va_K.moved hW.alike hKc, hDc.weaken (fun _ _ _ _ => trivial)⟩⟩ rfl rfl hl.1 rfl (lv_room (Nat.le_of_ble_eq_true rfl)) dX10_isMet_120 ⟨Nat.le_of_ble_eq_true rfl, Nat.le_of_ble_eq_true rfl⟩) hS (fun q _ h => hFc q h) hFc (fun r_75 u_76 t H1 locs ht hvm hw hB hz1 hk1 hS => ?_)
                try dsimp only at hw
                obtain ⟨hP1, hK1, hD1⟩ := hB
                rw [ht] at hP1
                have hK1 := va_K.moved hvm.symm hK1
                have hK1 : va_K (dC, dI) vwCl [] s := hK1
                obtain ⟨hP, hD⟩ := va_join (wr := [(eO10a wi w0 w1 w2 w3 w4), (eO0a bk bto bnm bla bsk bru bbo bdi bda bdk bdt bdp bno)]) (w1 := [(eO8a bru rco rsz ren rst rkn), (eA0 rco cRc 64 fRc), (eA0 ren cRe 4 fRe), (eA1 rst cRs 64 u_76), (mm, .inr (4, [mla, .long ct, .long yr, .long dy, .long lg])), (eO9a bsk wd wf mp mb mo sp sb)]) hP hD [4, 5, 6, 7, 1, 3] [0, 2] hCc rfl (by decide) (by decide) hk1 hFc hP1 hD1
                generalize H1 = H at hP hS ⊢
                obtain ⟨hP, hD⟩ := zre [(eO10a wi w0 w1 w2 w3 w4), (eO0a bk bto bnm bla bsk bru bbo bdi bda bdk bdt bdp bno), (eO8a bru rco rsz ren rst rkn), (eA0 rco cRc 64 fRc), (eA0 ren cRe 4 fRe), (eA1 rst cRs 64 u_76), (mm, .inr (4, [mla, .long ct, .long yr, .long dy, .long lg])), (eO9a bsk wd wf mp mb mo sp sb)] hP hD rfl
                refine W.widen (k := 0) (n := 0) (by omega) (by omega) ?_
                have hq_r_75 : r_75 = (fr_isFeast fRc fRe fRs ct yr dy lg wd wf mp mb mo sp sb w4).1 := hw.1
                have hq_u_76 : u_76 = (fr_isFeast fRc fRe fRs ct yr dy lg wd wf mp mb mo sp sb w4).2 := hw.2
                refine lv_if_eq (tgt := 130) hx hb dX10_isMet_123 (by decide) (fun c_78 => ?_) (fun c_78 => ?_)
                · refine lv_iconst (v := 0) hx hb dX10_isMet_130 (by decide) ?_
                  refine W.widen (k := 0) (n := 0) (by omega) (by omega) ?_
                  obtain ⟨hP9, hD9⟩ := zsub2 (ws' := [(eO10a wi w0 w1 w2 w3 w4), (mm, .inr (4, [mla, .long ct, .long yr, .long dy, .long lg])), (eO0a bk bto bnm bla bsk bru bbo bdi bda bdk bdt bdp bno), (eO9a bsk wd wf mp mb mo sp sb), (eO8a bru rco rsz ren rst rkn), (eA0 rco cRc 64 fRc), (eA0 ren cRe 4 fRe), (eA1 rst cRs 64 u_76)]) hP hD [0, 6, 1, 7, 2, 3, 4, 5] (by decide +kernel) rfl
                  have hK9 := hK.sub (tys' := []) [] rfl
                  exact W.zret (v := 0) hx hb hr (by first | rfl | decide) (fun t ht hW => ⟨⟨0, u_76, rfl, ((fun e9 => ⟨by rw [e9], by rw [e9]⟩ : fw_isMet w0 w1 w2 w3 w4 fRc fRe fRs ct yr dy lg wd wf mp mb mo sp sb = ((0 : Int32), u_76) → _) (by rw [fw_isMet]; (try rw [← hq_r_72]); (try rw [← hq_r_75]); (try rw [← hq_u_76]); (try rw [if_neg c_1]); (try rw [if_pos c_63]); (try rw [if_pos c_64]); (try rw [if_pos c_65]); (try rw [if_neg c_66]); (try rw [if_pos c_73]); (try rw [if_neg c_74]); (try rw [if_pos c_78]); try rfl)), by rw [ht]; exact hP9, va_K.moved hW.alike hK9, hD9⟩, hS.F ht⟩) hS.2.2 dX10_isMet_131
                · refine lv_iconst (v := 1) hx hb dX10_isMet_126 (by decide) ?_
                  refine lv_goto (tgt := 131) hx hb dX10_isMet_127 (by decide) ?_
                  refine W.widen (k := 0) (n := 0) (by omega) (by omega) ?_
                  obtain ⟨hP9, hD9⟩ := zsub2 (ws' := [(eO10a wi w0 w1 w2 w3 w4), (mm, .inr (4, [mla, .long ct, .long yr, .long dy, .long lg])), (eO0a bk bto bnm bla bsk bru bbo bdi bda bdk bdt bdp bno), (eO9a bsk wd wf mp mb mo sp sb), (eO8a bru rco rsz ren rst rkn), (eA0 rco cRc 64 fRc), (eA0 ren cRe 4 fRe), (eA1 rst cRs 64 u_76)]) hP hD [0, 6, 1, 7, 2, 3, 4, 5] (by decide +kernel) rfl
                  have hK9 := hK.sub (tys' := []) [] rfl
                  exact W.zret (v := 1) hx hb hr (by first | rfl | decide) (fun t ht hW => ⟨⟨1, u_76, rfl, ((fun e9 => ⟨by rw [e9], by rw [e9]⟩ : fw_isMet w0 w1 w2 w3 w4 fRc fRe fRs ct yr dy lg wd wf mp mb mo sp sb = ((1 : Int32), u_76) → _) (by rw [fw_isMet]; (try rw [← hq_r_72]); (try rw [← hq_r_75]); (try rw [← hq_u_76]); (try rw [if_neg c_1]); (try rw [if_pos c_63]); (try rw [if_pos c_64]); (try rw [if_pos c_65]); (try rw [if_neg c_66]); (try rw [if_pos c_73]); (try rw [if_neg c_74]); (try rw [if_neg c_78]); try rfl)), by rw [ht]; exact hP9, va_K.moved hW.alike hK9, hD9⟩, hS.F ht⟩) hS.2.2 dX10_isMet_131
        · refine lv_aload_n hx hb dX10_isMet_55 rfl (lv_at hl 2 rfl) ?_
          refine va_get (D := (dC, dI)) (ci := 0) (v := .ref bsk) (C := RX0) (T := TX0) (N := 12) hx hb htw inlX0 hown hK hP 2 rfl rfl 3 (by decide) (htw _ (ck_42 _ (List.mem_of_getElem? (i := 20) rfl))) (fun _ h9 => h9) rfl dX10_isMet_56 ?_
          refine lv_aload_n hx hb dX10_isMet_59 rfl (lv_at hl 1 rfl) ?_
          refine va_get (D := (dC, dI)) (ci := 4) (v := .long ct) (C := RX4) (T := TX4) (N := 5) hx hb htw inlX4 hown hK hP 1 rfl rfl 1 (by decide) (htw _ (ck_42 _ (List.mem_of_getElem? (i := 21) rfl))) (fun _ h9 => h9) rfl dX10_isMet_60 ?_
          have hPc := hP.sub (ws' := [(eO9a bsk wd wf mp mb mo sp sb)]) [3] rfl
          have hKc := hK.sub (tys' := []) [] rfl
          refine vp_callSi (W.runV (As := [.long ct]) (rest := []) ⟨hx, hb, hml, hown, htw⟩ (gs_moonOf l dC dI bsk wd wf mp mb mo sp sb ct) (cwV 1 htw (xg_V (ck_43 _ (List.mem_of_getElem? (i := 0) rfl)) (ck_37 _ (List.mem_of_getElem? (i := 15) rfl)) (ck_37 _ (List.mem_of_getElem? (i := 16) rfl)) (ck_6 _ (List.mem_of_getElem? (i := 4) rfl)) (ck_37 _ (List.mem_of_getElem? (i := 17) rfl))) rfl rfl rfl (by exact ⟨rfl, hdc_2.1, hdc_2.2, hdd_6⟩) ⟨Nat.le_of_ble_eq_true rfl, Nat.le_of_ble_eq_true rfl⟩) ⟨fun a U g mk q => by obtain ⟨q0, qP, qK⟩ := q; exact ⟨q0, qP, va_K.moved (u := U) (U := U.calling g mk a) (Vm.Alike.refl U.vm) qK⟩, va_recv hKc hPc (ci := 9) (q0 := 0) rfl rfl, fun U hU hW => ⟨rfl, by rw [hU]; exact hPc, va_K.moved hW.alike hKc⟩⟩ rfl rfl hl.1 rfl (lv_room (Nat.le_of_ble_eq_true rfl)) dX10_isMet_63 ⟨Nat.le_of_ble_eq_true rfl, Nat.le_of_ble_eq_true rfl⟩) (fun r_79 hw => ?_)
          try dsimp only at hw
          have hq_r_79 : r_79 = fs_moonOf wd wf mp mb mo sp sb ct := hw
          refine lv_aload_n hx hb dX10_isMet_66 rfl (lv_at hl 0 rfl) ?_
          refine va_get (D := (dC, dI)) (ci := 10) (v := .int w2) (C := RX10) (T := TX10) (N := 5) hx hb htw inlX10 hown hK hP 0 rfl rfl 2 (by decide) (htw _ (ck_42 _ (List.mem_of_getElem? (i := 6) rfl))) (fun _ h9 => h9) rfl dX10_isMet_67 ?_
          refine lv_icmp_ne (tgt := 130) hx hb dX10_isMet_70 (by decide) (fun c_80 => ?_) (fun c_80 => ?_)
          · refine lv_iconst (v := 0) hx hb dX10_isMet_130 (by decide) ?_
            refine W.widen (k := 0) (n := 0) (by omega) (by omega) ?_
            have hP9 := hP
            have hD9 := hD
            have hK9 := hK.sub (tys' := []) [] rfl
            exact W.zret (v := 0) hx hb hr (by first | rfl | decide) (fun t ht hW => ⟨⟨0, fRs, rfl, ((fun e9 => ⟨by rw [e9], by rw [e9]⟩ : fw_isMet w0 w1 w2 w3 w4 fRc fRe fRs ct yr dy lg wd wf mp mb mo sp sb = ((0 : Int32), fRs) → _) (by rw [fw_isMet]; (try rw [← hq_r_79]); (try rw [if_neg c_1]); (try rw [if_pos c_63]); (try rw [if_pos c_64]); (try rw [if_neg c_65]); (try rw [if_neg c_80]); try rfl)), by rw [ht]; exact hP9, va_K.moved hW.alike hK9, hD9⟩, hS.F ht⟩) hS.2.2 dX10_isMet_131
          · refine lv_aload_n hx hb dX10_isMet_73 rfl (lv_at hl 0 rfl) ?_
            refine va_get (D := (dC, dI)) (ci := 10) (v := .int w3) (C := RX10) (T := TX10) (N := 5) hx hb htw inlX10 hown hK hP 0 rfl rfl 3 (by decide) (htw _ (ck_42 _ (List.mem_of_getElem? (i := 7) rfl))) (fun _ h9 => h9) rfl dX10_isMet_74 ?_
            refine lv_iconst (v := (-1)) hx hb dX10_isMet_77 (by decide) ?_
            refine lv_icmp_eq (tgt := 99) hx hb dX10_isMet_78 (by decide) (fun c_81 => ?_) (fun c_81 => ?_)
            · refine lv_aload_n hx hb dX10_isMet_99 rfl (lv_at hl 0 rfl) ?_
              refine va_get (D := (dC, dI)) (ci := 10) (v := .int w4) (C := RX10) (T := TX10) (N := 5) hx hb htw inlX10 hown hK hP 0 rfl rfl 4 (by decide) (htw _ (ck_42 _ (List.mem_of_getElem? (i := 8) rfl))) (fun _ h9 => h9) rfl dX10_isMet_100 ?_
              refine lv_iconst (v := (-1)) hx hb dX10_isMet_103 (by decide) ?_
              refine lv_icmp_eq (tgt := 126) hx hb dX10_isMet_104 (by decide) (fun c_82 => ?_) (fun c_82 => ?_)
              · refine lv_iconst (v := 1) hx hb dX10_isMet_126 (by decide) ?_
                refine lv_goto (tgt := 131) hx hb dX10_isMet_127 (by decide) ?_
                refine W.widen (k := 0) (n := 0) (by omega) (by omega) ?_
                have hP9 := hP
                have hD9 := hD
                have hK9 := hK.sub (tys' := []) [] rfl
                exact W.zret (v := 1) hx hb hr (by first | rfl | decide) (fun t ht hW => ⟨⟨1, fRs, rfl, ((fun e9 => ⟨by rw [e9], by rw [e9]⟩ : fw_isMet w0 w1 w2 w3 w4 fRc fRe fRs ct yr dy lg wd wf mp mb mo sp sb = ((1 : Int32), fRs) → _) (by rw [fw_isMet]; (try rw [← hq_r_79]); (try rw [if_neg c_1]); (try rw [if_pos c_63]); (try rw [if_pos c_64]); (try rw [if_neg c_65]); (try rw [if_pos c_80]); (try rw [if_pos c_81]); (try rw [if_pos c_82]); try rfl)), by rw [ht]; exact hP9, va_K.moved hW.alike hK9, hD9⟩, hS.F ht⟩) hS.2.2 dX10_isMet_131
              · refine lv_aload_n hx hb dX10_isMet_107 rfl (lv_at hl 2 rfl) ?_
                refine va_get (D := (dC, dI)) (ci := 0) (v := .ref bru) (C := RX0) (T := TX0) (N := 12) hx hb htw inlX0 hown hK hP 2 rfl rfl 4 (by decide) (htw _ (ck_42 _ (List.mem_of_getElem? (i := 22) rfl))) (fun _ h9 => h9) rfl dX10_isMet_108 ?_
                refine lv_aload_n hx hb dX10_isMet_111 rfl (lv_at hl 0 rfl) ?_
                refine va_get (D := (dC, dI)) (ci := 10) (v := .int w4) (C := RX10) (T := TX10) (N := 5) hx hb htw inlX10 hown hK hP 0 rfl rfl 4 (by decide) (htw _ (ck_42 _ (List.mem_of_getElem? (i := 8) rfl))) (fun _ h9 => h9) rfl dX10_isMet_112 ?_
                refine lv_aload_n hx hb dX10_isMet_115 rfl (lv_at hl 1 rfl) ?_
                refine lv_aload_n hx hb dX10_isMet_116 rfl (lv_at hl 2 rfl) ?_
                refine va_get (D := (dC, dI)) (ci := 0) (v := .ref bsk) (C := RX0) (T := TX0) (N := 12) hx hb htw inlX0 hown hK hP 2 rfl rfl 3 (by decide) (htw _ (ck_42 _ (List.mem_of_getElem? (i := 20) rfl))) (fun _ h9 => h9) rfl dX10_isMet_117 ?_
                obtain ⟨hPc, hDc, hFc, hCc⟩ := zsub3 (ws' := [(eO8a bru rco rsz ren rst rkn), (eA0 rco cRc 64 fRc), (eA0 ren cRe 4 fRe), (eA1 rst cRs 64 fRs), (mm, .inr (4, [mla, .long ct, .long yr, .long dy, .long lg])), (eO9a bsk wd wf mp mb mo sp sb)]) hP hD hS hA [4, 5, 6, 7, 1, 3] (by decide) rfl
                have hKc := hK.sub (tys' := [(cRc, .int), (cRe, .int), (cRs, .long)]) [0, 1, 2] rfl
                refine va_calli (va_runV (As := [.int w4, .ref mm, .ref bsk]) (rest := []) ⟨hx, hb, hml, hown, htw⟩ (gr_isFeast l dC dI bru rco rsz ren rst rkn cRc fRc cRe fRe cRs fRs mm mla ct yr dy lg bsk wd wf mp mb mo sp sb w4 H.size hE) (cwV 3 htw (xg_V (ck_43 _ (List.mem_of_getElem? (i := 2) rfl)) (ck_39 _ (List.mem_of_getElem? (i := 5) rfl)) (ck_39 _ (List.mem_of_getElem? (i := 6) rfl)) (ck_6 _ (List.mem_of_getElem? (i := 8) rfl)) (ck_39 _ (List.mem_of_getElem? (i := 7) rfl))) rfl rfl rfl (by exact ⟨rfl, hdc_1.1, hdc_1.2, hdd_12⟩) ⟨Nat.le_of_ble_eq_true rfl, Nat.le_of_ble_eq_true rfl⟩) ⟨fun a U g mk q => by obtain ⟨q0, q1, qP, qK, qD⟩ := q; exact ⟨q0, q1, qP, va_K.moved (u := U) (U := U.calling g mk a) (Vm.Alike.refl U.vm) qK, qD⟩, va_recv hKc hPc (ci := 8) (q0 := 0) rfl rfl, fun U hU hW => ⟨rfl, by rw [hU], by rw [hU]; exact hPc, va_K.moved hW.alike hKc, hDc.weaken (fun _ _ _ _ => trivial)⟩⟩ rfl rfl hl.1 rfl (lv_room (Nat.le_of_ble_eq_true rfl)) dX10_isMet_120 ⟨Nat.le_of_ble_eq_true rfl, Nat.le_of_ble_eq_true rfl⟩) hS (fun q _ h => hFc q h) hFc (fun r_83 u_84 t H1 locs ht hvm hw hB hz1 hk1 hS => ?_)
                try dsimp only at hw
                obtain ⟨hP1, hK1, hD1⟩ := hB
                rw [ht] at hP1
                have hK1 := va_K.moved hvm.symm hK1
                have hK1 : va_K (dC, dI) vwCl [] s := hK1
                obtain ⟨hP, hD⟩ := va_join (wr := [(eO10a wi w0 w1 w2 w3 w4), (eO0a bk bto bnm bla bsk bru bbo bdi bda bdk bdt bdp bno)]) (w1 := [(eO8a bru rco rsz ren rst rkn), (eA0 rco cRc 64 fRc), (eA0 ren cRe 4 fRe), (eA1 rst cRs 64 u_84), (mm, .inr (4, [mla, .long ct, .long yr, .long dy, .long lg])), (eO9a bsk wd wf mp mb mo sp sb)]) hP hD [4, 5, 6, 7, 1, 3] [0, 2] hCc rfl (by decide) (by decide) hk1 hFc hP1 hD1
                generalize H1 = H at hP hS ⊢
                obtain ⟨hP, hD⟩ := zre [(eO10a wi w0 w1 w2 w3 w4), (eO0a bk bto bnm bla bsk bru bbo bdi bda bdk bdt bdp bno), (eO8a bru rco rsz ren rst rkn), (eA0 rco cRc 64 fRc), (eA0 ren cRe 4 fRe), (eA1 rst cRs 64 u_84), (mm, .inr (4, [mla, .long ct, .long yr, .long dy, .long lg])), (eO9a bsk wd wf mp mb mo sp sb)] hP hD rfl
                refine W.widen (k := 0) (n := 0) (by omega) (by omega) ?_
                have hq_r_83 : r_83 = (fr_isFeast fRc fRe fRs ct yr dy lg wd wf mp mb mo sp sb w4).1 := hw.1
                have hq_u_84 : u_84 = (fr_isFeast fRc fRe fRs ct yr dy lg wd wf mp mb mo sp sb w4).2 := hw.2
                refine lv_if_eq (tgt := 130) hx hb dX10_isMet_123 (by decide) (fun c_86 => ?_) (fun c_86 => ?_)
                · refine lv_iconst (v := 0) hx hb dX10_isMet_130 (by decide) ?_
                  refine W.widen (k := 0) (n := 0) (by omega) (by omega) ?_
                  obtain ⟨hP9, hD9⟩ := zsub2 (ws' := [(eO10a wi w0 w1 w2 w3 w4), (mm, .inr (4, [mla, .long ct, .long yr, .long dy, .long lg])), (eO0a bk bto bnm bla bsk bru bbo bdi bda bdk bdt bdp bno), (eO9a bsk wd wf mp mb mo sp sb), (eO8a bru rco rsz ren rst rkn), (eA0 rco cRc 64 fRc), (eA0 ren cRe 4 fRe), (eA1 rst cRs 64 u_84)]) hP hD [0, 6, 1, 7, 2, 3, 4, 5] (by decide +kernel) rfl
                  have hK9 := hK.sub (tys' := []) [] rfl
                  exact W.zret (v := 0) hx hb hr (by first | rfl | decide) (fun t ht hW => ⟨⟨0, u_84, rfl, ((fun e9 => ⟨by rw [e9], by rw [e9]⟩ : fw_isMet w0 w1 w2 w3 w4 fRc fRe fRs ct yr dy lg wd wf mp mb mo sp sb = ((0 : Int32), u_84) → _) (by rw [fw_isMet]; (try rw [← hq_r_79]); (try rw [← hq_r_83]); (try rw [← hq_u_84]); (try rw [if_neg c_1]); (try rw [if_pos c_63]); (try rw [if_pos c_64]); (try rw [if_neg c_65]); (try rw [if_pos c_80]); (try rw [if_pos c_81]); (try rw [if_neg c_82]); (try rw [if_pos c_86]); try rfl)), by rw [ht]; exact hP9, va_K.moved hW.alike hK9, hD9⟩, hS.F ht⟩) hS.2.2 dX10_isMet_131
                · refine lv_iconst (v := 1) hx hb dX10_isMet_126 (by decide) ?_
                  refine lv_goto (tgt := 131) hx hb dX10_isMet_127 (by decide) ?_
                  refine W.widen (k := 0) (n := 0) (by omega) (by omega) ?_
                  obtain ⟨hP9, hD9⟩ := zsub2 (ws' := [(eO10a wi w0 w1 w2 w3 w4), (mm, .inr (4, [mla, .long ct, .long yr, .long dy, .long lg])), (eO0a bk bto bnm bla bsk bru bbo bdi bda bdk bdt bdp bno), (eO9a bsk wd wf mp mb mo sp sb), (eO8a bru rco rsz ren rst rkn), (eA0 rco cRc 64 fRc), (eA0 ren cRe 4 fRe), (eA1 rst cRs 64 u_84)]) hP hD [0, 6, 1, 7, 2, 3, 4, 5] (by decide +kernel) rfl
                  have hK9 := hK.sub (tys' := []) [] rfl
                  exact W.zret (v := 1) hx hb hr (by first | rfl | decide) (fun t ht hW => ⟨⟨1, u_84, rfl, ((fun e9 => ⟨by rw [e9], by rw [e9]⟩ : fw_isMet w0 w1 w2 w3 w4 fRc fRe fRs ct yr dy lg wd wf mp mb mo sp sb = ((1 : Int32), u_84) → _) (by rw [fw_isMet]; (try rw [← hq_r_79]); (try rw [← hq_r_83]); (try rw [← hq_u_84]); (try rw [if_neg c_1]); (try rw [if_pos c_63]); (try rw [if_pos c_64]); (try rw [if_neg c_65]); (try rw [if_pos c_80]); (try rw [if_pos c_81]); (try rw [if_neg c_82]); (try rw [if_neg c_86]); try rfl)), by rw [ht]; exact hP9, va_K.moved hW.alike hK9, hD9⟩, hS.F ht⟩) hS.2.2 dX10_isMet_131
            · refine lv_aload_n hx hb dX10_isMet_81 rfl (lv_at hl 2 rfl) ?_
              refine va_get (D := (dC, dI)) (ci := 0) (v := .ref bsk) (C := RX0) (T := TX0) (N := 12) hx hb htw inlX0 hown hK hP 2 rfl rfl 3 (by decide) (htw _ (ck_42 _ (List.mem_of_getElem? (i := 20) rfl))) (fun _ h9 => h9) rfl dX10_isMet_82 ?_
              refine lv_aload_n hx hb dX10_isMet_85 rfl (lv_at hl 1 rfl) ?_
              refine va_get (D := (dC, dI)) (ci := 4) (v := .long ct) (C := RX4) (T := TX4) (N := 5) hx hb htw inlX4 hown hK hP 1 rfl rfl 1 (by decide) (htw _ (ck_42 _ (List.mem_of_getElem? (i := 21) rfl))) (fun _ h9 => h9) rfl dX10_isMet_86 ?_
              have hPc := hP.sub (ws' := [(eO9a bsk wd wf mp mb mo sp sb)]) [3] rfl
              have hKc := hK.sub (tys' := []) [] rfl
              refine vp_callSi (W.runV (As := [.long ct]) (rest := []) ⟨hx, hb, hml, hown, htw⟩ (gs_seasonOf l dC dI bsk wd wf mp mb mo sp sb ct) (cwV 1 htw (xg_V (ck_43 _ (List.mem_of_getElem? (i := 1) rfl)) (ck_37 _ (List.mem_of_getElem? (i := 20) rfl)) (ck_37 _ (List.mem_of_getElem? (i := 21) rfl)) (ck_6 _ (List.mem_of_getElem? (i := 4) rfl)) (ck_37 _ (List.mem_of_getElem? (i := 22) rfl))) rfl rfl rfl (by exact ⟨rfl, hdc_2.1, hdc_2.2, hdd_6⟩) ⟨Nat.le_of_ble_eq_true rfl, Nat.le_of_ble_eq_true rfl⟩) ⟨fun a U g mk q => by obtain ⟨q0, qP, qK⟩ := q; exact ⟨q0, qP, va_K.moved (u := U) (U := U.calling g mk a) (Vm.Alike.refl U.vm) qK⟩, va_recv hKc hPc (ci := 9) (q0 := 0) rfl rfl, fun U hU hW => ⟨rfl, by rw [hU]; exact hPc, va_K.moved hW.alike hKc⟩⟩ rfl rfl hl.1 rfl (lv_room (Nat.le_of_ble_eq_true rfl)) dX10_isMet_89 ⟨Nat.le_of_ble_eq_true rfl, Nat.le_of_ble_eq_true rfl⟩) (fun r_87 hw => ?_)
              try dsimp only at hw
              have hq_r_87 : r_87 = fs_seasonOf wd wf mp mb mo sp sb ct := hw
              refine lv_aload_n hx hb dX10_isMet_92 rfl (lv_at hl 0 rfl) ?_
              refine va_get (D := (dC, dI)) (ci := 10) (v := .int w3) (C := RX10) (T := TX10) (N := 5) hx hb htw inlX10 hown hK hP 0 rfl rfl 3 (by decide) (htw _ (ck_42 _ (List.mem_of_getElem? (i := 7) rfl))) (fun _ h9 => h9) rfl dX10_isMet_93 ?_
              refine lv_icmp_ne (tgt := 130) hx hb dX10_isMet_96 (by decide) (fun c_88 => ?_) (fun c_88 => ?_)
              · refine lv_iconst (v := 0) hx hb dX10_isMet_130 (by decide) ?_
                refine W.widen (k := 0) (n := 0) (by omega) (by omega) ?_
                have hP9 := hP
                have hD9 := hD
                have hK9 := hK.sub (tys' := []) [] rfl
                exact W.zret (v := 0) hx hb hr (by first | rfl | decide) (fun t ht hW => ⟨⟨0, fRs, rfl, ((fun e9 => ⟨by rw [e9], by rw [e9]⟩ : fw_isMet w0 w1 w2 w3 w4 fRc fRe fRs ct yr dy lg wd wf mp mb mo sp sb = ((0 : Int32), fRs) → _) (by rw [fw_isMet]; (try rw [← hq_r_79]); (try rw [← hq_r_87]); (try rw [if_neg c_1]); (try rw [if_pos c_63]); (try rw [if_pos c_64]); (try rw [if_neg c_65]); (try rw [if_pos c_80]); (try rw [if_neg c_81]); (try rw [if_neg c_88]); try rfl)), by rw [ht]; exact hP9, va_K.moved hW.alike hK9, hD9⟩, hS.F ht⟩) hS.2.2 dX10_isMet_131
              · refine lv_aload_n hx hb dX10_isMet_99 rfl (lv_at hl 0 rfl) ?_
                refine va_get (D := (dC, dI)) (ci := 10) (v := .int w4) (C := RX10) (T := TX10) (N := 5) hx hb htw inlX10 hown hK hP 0 rfl rfl 4 (by decide) (htw _ (ck_42 _ (List.mem_of_getElem? (i := 8) rfl))) (fun _ h9 => h9) rfl dX10_isMet_100 ?_
                refine lv_iconst (v := (-1)) hx hb dX10_isMet_103 (by decide) ?_
                refine lv_icmp_eq (tgt := 126) hx hb dX10_isMet_104 (by decide) (fun c_89 => ?_) (fun c_89 => ?_)
                · refine lv_iconst (v := 1) hx hb dX10_isMet_126 (by decide) ?_
                  refine lv_goto (tgt := 131) hx hb dX10_isMet_127 (by decide) ?_
                  refine W.widen (k := 0) (n := 0) (by omega) (by omega) ?_
                  have hP9 := hP
                  have hD9 := hD
                  have hK9 := hK.sub (tys' := []) [] rfl
                  exact W.zret (v := 1) hx hb hr (by first | rfl | decide) (fun t ht hW => ⟨⟨1, fRs, rfl, ((fun e9 => ⟨by rw [e9], by rw [e9]⟩ : fw_isMet w0 w1 w2 w3 w4 fRc fRe fRs ct yr dy lg wd wf mp mb mo sp sb = ((1 : Int32), fRs) → _) (by rw [fw_isMet]; (try rw [← hq_r_79]); (try rw [← hq_r_87]); (try rw [if_neg c_1]); (try rw [if_pos c_63]); (try rw [if_pos c_64]); (try rw [if_neg c_65]); (try rw [if_pos c_80]); (try rw [if_neg c_81]); (try rw [if_pos c_88]); (try rw [if_pos c_89]); try rfl)), by rw [ht]; exact hP9, va_K.moved hW.alike hK9, hD9⟩, hS.F ht⟩) hS.2.2 dX10_isMet_131
                · refine lv_aload_n hx hb dX10_isMet_107 rfl (lv_at hl 2 rfl) ?_
                  refine va_get (D := (dC, dI)) (ci := 0) (v := .ref bru) (C := RX0) (T := TX0) (N := 12) hx hb htw inlX0 hown hK hP 2 rfl rfl 4 (by decide) (htw _ (ck_42 _ (List.mem_of_getElem? (i := 22) rfl))) (fun _ h9 => h9) rfl dX10_isMet_108 ?_
                  refine lv_aload_n hx hb dX10_isMet_111 rfl (lv_at hl 0 rfl) ?_
                  refine va_get (D := (dC, dI)) (ci := 10) (v := .int w4) (C := RX10) (T := TX10) (N := 5) hx hb htw inlX10 hown hK hP 0 rfl rfl 4 (by decide) (htw _ (ck_42 _ (List.mem_of_getElem? (i := 8) rfl))) (fun _ h9 => h9) rfl dX10_isMet_112 ?_
                  refine lv_aload_n hx hb dX10_isMet_115 rfl (lv_at hl 1 rfl) ?_
                  refine lv_aload_n hx hb dX10_isMet_116 rfl (lv_at hl 2 rfl) ?_
                  refine va_get (D := (dC, dI)) (ci := 0) (v := .ref bsk) (C := RX0) (T := TX0) (N := 12) hx hb htw inlX0 hown hK hP 2 rfl rfl 3 (by decide) (htw _ (ck_42 _ (List.mem_of_getElem? (i := 20) rfl))) (fun _ h9 => h9) rfl dX10_isMet_117 ?_
                  obtain ⟨hPc, hDc, hFc, hCc⟩ := zsub3 (ws' := [(eO8a bru rco rsz ren rst rkn), (eA0 rco cRc 64 fRc), (eA0 ren cRe 4 fRe), (eA1 rst cRs 64 fRs), (mm, .inr (4, [mla, .long ct, .long yr, .long dy, .long lg])), (eO9a bsk wd wf mp mb mo sp sb)]) hP hD hS hA [4, 5, 6, 7, 1, 3] (by decide) rfl
                  have hKc := hK.sub (tys' := [(cRc, .int), (cRe, .int), (cRs, .long)]) [0, 1, 2] rfl
                  refine va_calli (va_runV (As := [.int w4, .ref mm, .ref bsk]) (rest := []) ⟨hx, hb, hml, hown, htw⟩ (gr_isFeast l dC dI bru rco rsz ren rst rkn cRc fRc cRe fRe cRs fRs mm mla ct yr dy lg bsk wd wf mp mb mo sp sb w4 H.size hE) (cwV 3 htw (xg_V (ck_43 _ (List.mem_of_getElem? (i := 2) rfl)) (ck_39 _ (List.mem_of_getElem? (i := 5) rfl)) (ck_39 _ (List.mem_of_getElem? (i := 6) rfl)) (ck_6 _ (List.mem_of_getElem? (i := 8) rfl)) (ck_39 _ (List.mem_of_getElem? (i := 7) rfl))) rfl rfl rfl (by exact ⟨rfl, hdc_1.1, hdc_1.2, hdd_12⟩) ⟨Nat.le_of_ble_eq_true rfl, Nat.le_of_ble_eq_true rfl⟩) ⟨fun a U g mk q => by obtain ⟨q0, q1, qP, qK, qD⟩ := q; exact ⟨q0, q1, qP, va_K.moved (u := U) (U := U.calling g mk a) (Vm.Alike.refl U.vm) qK, qD⟩, va_recv hKc hPc (ci := 8) (q0 := 0) rfl rfl, fun U hU hW => ⟨rfl, by rw [hU], by rw [hU]; exact hPc, va_K.moved hW.alike hKc, hDc.weaken (fun _ _ _ _ => trivial)⟩⟩ rfl rfl hl.1 rfl (lv_room (Nat.le_of_ble_eq_true rfl)) dX10_isMet_120 ⟨Nat.le_of_ble_eq_true rfl, Nat.le_of_ble_eq_true rfl⟩) hS (fun q _ h => hFc q h) hFc (fun r_90 u_91 t H1 locs ht hvm hw hB hz1 hk1 hS => ?_)
                  try dsimp only at hw
                  obtain ⟨hP1, hK1, hD1⟩ := hB
                  rw [ht] at hP1
                  have hK1 := va_K.moved hvm.symm hK1
                  have hK1 : va_K (dC, dI) vwCl [] s := hK1
                  obtain ⟨hP, hD⟩ := va_join (wr := [(eO10a wi w0 w1 w2 w3 w4), (eO0a bk bto bnm bla bsk bru bbo bdi bda bdk bdt bdp bno)]) (w1 := [(eO8a bru rco rsz ren rst rkn), (eA0 rco cRc 64 fRc), (eA0 ren cRe 4 fRe), (eA1 rst cRs 64 u_91), (mm, .inr (4, [mla, .long ct, .long yr, .long dy, .long lg])), (eO9a bsk wd wf mp mb mo sp sb)]) hP hD [4, 5, 6, 7, 1, 3] [0, 2] hCc rfl (by decide) (by decide) hk1 hFc hP1 hD1
                  generalize H1 = H at hP hS ⊢
                  obtain ⟨hP, hD⟩ := zre [(eO10a wi w0 w1 w2 w3 w4), (eO0a bk bto bnm bla bsk bru bbo bdi bda bdk bdt bdp bno), (eO8a bru rco rsz ren rst rkn), (eA0 rco cRc 64 fRc), (eA0 ren cRe 4 fRe), (eA1 rst cRs 64 u_91), (mm, .inr (4, [mla, .long ct, .long yr, .long dy, .long lg])), (eO9a bsk wd wf mp mb mo sp sb)] hP hD rfl
                  refine W.widen (k := 0) (n := 0) (by omega) (by omega) ?_
                  have hq_r_90 : r_90 = (fr_isFeast fRc fRe fRs ct yr dy lg wd wf mp mb mo sp sb w4).1 := hw.1
                  have hq_u_91 : u_91 = (fr_isFeast fRc fRe fRs ct yr dy lg wd wf mp mb mo sp sb w4).2 := hw.2
                  refine lv_if_eq (tgt := 130) hx hb dX10_isMet_123 (by decide) (fun c_93 => ?_) (fun c_93 => ?_)
                  · refine lv_iconst (v := 0) hx hb dX10_isMet_130 (by decide) ?_
                    refine W.widen (k := 0) (n := 0) (by omega) (by omega) ?_
                    obtain ⟨hP9, hD9⟩ := zsub2 (ws' := [(eO10a wi w0 w1 w2 w3 w4), (mm, .inr (4, [mla, .long ct, .long yr, .long dy, .long lg])), (eO0a bk bto bnm bla bsk bru bbo bdi bda bdk bdt bdp bno), (eO9a bsk wd wf mp mb mo sp sb), (eO8a bru rco rsz ren rst rkn), (eA0 rco cRc 64 fRc), (eA0 ren cRe 4 fRe), (eA1 rst cRs 64 u_91)]) hP hD [0, 6, 1, 7, 2, 3, 4, 5] (by decide +kernel) rfl
                    have hK9 := hK.sub (tys' := []) [] rfl
                    exact W.zret (v := 0) hx hb hr (by first | rfl | decide) (fun t ht hW => ⟨⟨0, u_91, rfl, ((fun e9 => ⟨by rw [e9], by rw [e9]⟩ : fw_isMet w0 w1 w2 w3 w4 fRc fRe fRs ct yr dy lg wd wf mp mb mo sp sb = ((0 : Int32), u_91) → _) (by rw [fw_isMet]; (try rw [← hq_r_79]); (try rw [← hq_r_87]); (try rw [← hq_r_90]); (try rw [← hq_u_91]); (try rw [if_neg c_1]); (try rw [if_pos c_63]); (try rw [if_pos c_64]); (try rw [if_neg c_65]); (try rw [if_pos c_80]); (try rw [if_neg c_81]); (try rw [if_pos c_88]); (try rw [if_neg c_89]); (try rw [if_pos c_93]); try rfl)), by rw [ht]; exact hP9, va_K.moved hW.alike hK9, hD9⟩, hS.F ht⟩) hS.2.2 dX10_isMet_131
                  · refine lv_iconst (v := 1) hx hb dX10_isMet_126 (by decide) ?_
                    refine lv_goto (tgt := 131) hx hb dX10_isMet_127 (by decide) ?_
                    refine W.widen (k := 0) (n := 0) (by omega) (by omega) ?_
                    obtain ⟨hP9, hD9⟩ := zsub2 (ws' := [(eO10a wi w0 w1 w2 w3 w4), (mm, .inr (4, [mla, .long ct, .long yr, .long dy, .long lg])), (eO0a bk bto bnm bla bsk bru bbo bdi bda bdk bdt bdp bno), (eO9a bsk wd wf mp mb mo sp sb), (eO8a bru rco rsz ren rst rkn), (eA0 rco cRc 64 fRc), (eA0 ren cRe 4 fRe), (eA1 rst cRs 64 u_91)]) hP hD [0, 6, 1, 7, 2, 3, 4, 5] (by decide +kernel) rfl
                    have hK9 := hK.sub (tys' := []) [] rfl
                    exact W.zret (v := 1) hx hb hr (by first | rfl | decide) (fun t ht hW => ⟨⟨1, u_91, rfl, ((fun e9 => ⟨by rw [e9], by rw [e9]⟩ : fw_isMet w0 w1 w2 w3 w4 fRc fRe fRs ct yr dy lg wd wf mp mb mo sp sb = ((1 : Int32), u_91) → _) (by rw [fw_isMet]; (try rw [← hq_r_79]); (try rw [← hq_r_87]); (try rw [← hq_r_90]); (try rw [← hq_u_91]); (try rw [if_neg c_1]); (try rw [if_pos c_63]); (try rw [if_pos c_64]); (try rw [if_neg c_65]); (try rw [if_pos c_80]); (try rw [if_neg c_81]); (try rw [if_pos c_88]); (try rw [if_neg c_89]); (try rw [if_neg c_93]); try rfl)), by rw [ht]; exact hP9, va_K.moved hW.alike hK9, hD9⟩, hS.F ht⟩) hS.2.2 dX10_isMet_131
      · refine lv_aload_n hx hb dX10_isMet_29 rfl (lv_at hl 2 rfl) ?_
        refine va_get (D := (dC, dI)) (ci := 0) (v := .ref bsk) (C := RX0) (T := TX0) (N := 12) hx hb htw inlX0 hown hK hP 2 rfl rfl 3 (by decide) (htw _ (ck_42 _ (List.mem_of_getElem? (i := 20) rfl))) (fun _ h9 => h9) rfl dX10_isMet_30 ?_
        refine lv_aload_n hx hb dX10_isMet_33 rfl (lv_at hl 1 rfl) ?_
        refine va_get (D := (dC, dI)) (ci := 4) (v := .long ct) (C := RX4) (T := TX4) (N := 5) hx hb htw inlX4 hown hK hP 1 rfl rfl 1 (by decide) (htw _ (ck_42 _ (List.mem_of_getElem? (i := 21) rfl))) (fun _ h9 => h9) rfl dX10_isMet_34 ?_
        have hPc := hP.sub (ws' := [(eO9a bsk wd wf mp mb mo sp sb)]) [3] rfl
        have hKc := hK.sub (tys' := []) [] rfl
        refine vp_callSi (W.runV (As := [.long ct]) (rest := []) ⟨hx, hb, hml, hown, htw⟩ (gs_weekDayOf l dC dI bsk wd wf mp mb mo sp sb ct) (cwV 1 htw (xg_V (ck_42 _ (List.mem_of_getElem? (i := 23) rfl)) (ck_37 _ (List.mem_of_getElem? (i := 11) rfl)) (ck_37 _ (List.mem_of_getElem? (i := 12) rfl)) (ck_6 _ (List.mem_of_getElem? (i := 4) rfl)) (ck_37 _ (List.mem_of_getElem? (i := 13) rfl))) rfl rfl rfl (by exact ⟨rfl, hdc_2.1, hdc_2.2, hdd_6⟩) ⟨Nat.le_of_ble_eq_true rfl, Nat.le_of_ble_eq_true rfl⟩) ⟨fun a U g mk q => by obtain ⟨q0, qP, qK⟩ := q; exact ⟨q0, qP, va_K.moved (u := U) (U := U.calling g mk a) (Vm.Alike.refl U.vm) qK⟩, va_recv hKc hPc (ci := 9) (q0 := 0) rfl rfl, fun U hU hW => ⟨rfl, by rw [hU]; exact hPc, va_K.moved hW.alike hKc⟩⟩ rfl rfl hl.1 rfl (lv_room (Nat.le_of_ble_eq_true rfl)) dX10_isMet_37 ⟨Nat.le_of_ble_eq_true rfl, Nat.le_of_ble_eq_true rfl⟩) (fun r_94 hw => ?_)
        try dsimp only at hw
        have hq_r_94 : r_94 = fs_weekDayOf wd wf mp mb mo sp sb ct := hw
        refine lv_aload_n hx hb dX10_isMet_40 rfl (lv_at hl 0 rfl) ?_
        refine va_get (D := (dC, dI)) (ci := 10) (v := .int w1) (C := RX10) (T := TX10) (N := 5) hx hb htw inlX10 hown hK hP 0 rfl rfl 1 (by decide) (htw _ (ck_42 _ (List.mem_of_getElem? (i := 5) rfl))) (fun _ h9 => h9) rfl dX10_isMet_41 ?_
        refine lv_icmp_ne (tgt := 130) hx hb dX10_isMet_44 (by decide) (fun c_95 => ?_) (fun c_95 => ?_)
        · refine lv_iconst (v := 0) hx hb dX10_isMet_130 (by decide) ?_
          refine W.widen (k := 0) (n := 0) (by omega) (by omega) ?_
          have hP9 := hP
          have hD9 := hD
          have hK9 := hK.sub (tys' := []) [] rfl
          exact W.zret (v := 0) hx hb hr (by first | rfl | decide) (fun t ht hW => ⟨⟨0, fRs, rfl, ((fun e9 => ⟨by rw [e9], by rw [e9]⟩ : fw_isMet w0 w1 w2 w3 w4 fRc fRe fRs ct yr dy lg wd wf mp mb mo sp sb = ((0 : Int32), fRs) → _) (by rw [fw_isMet]; (try rw [← hq_r_94]); (try rw [if_neg c_1]); (try rw [if_pos c_63]); (try rw [if_neg c_64]); (try rw [if_neg c_95]); try rfl)), by rw [ht]; exact hP9, va_K.moved hW.alike hK9, hD9⟩, hS.F ht⟩) hS.2.2 dX10_isMet_131
        · refine lv_aload_n hx hb dX10_isMet_47 rfl (lv_at hl 0 rfl) ?_
          refine va_get (D := (dC, dI)) (ci := 10) (v := .int w2) (C := RX10) (T := TX10) (N := 5) hx hb htw inlX10 hown hK hP 0 rfl rfl 2 (by decide) (htw _ (ck_42 _ (List.mem_of_getElem? (i := 6) rfl))) (fun _ h9 => h9) rfl dX10_isMet_48 ?_
          refine lv_iconst (v := (-1)) hx hb dX10_isMet_51 (by decide) ?_
          refine lv_icmp_eq (tgt := 73) hx hb dX10_isMet_52 (by decide) (fun c_96 => ?_) (fun c_96 => ?_)
          · refine lv_aload_n hx hb dX10_isMet_73 rfl (lv_at hl 0 rfl) ?_
            refine va_get (D := (dC, dI)) (ci := 10) (v := .int w3) (C := RX10) (T := TX10) (N := 5) hx hb htw inlX10 hown hK hP 0 rfl rfl 3 (by decide) (htw _ (ck_42 _ (List.mem_of_getElem? (i := 7) rfl))) (fun _ h9 => h9) rfl dX10_isMet_74 ?_
            refine lv_iconst (v := (-1)) hx hb dX10_isMet_77 (by decide) ?_
            refine lv_icmp_eq (tgt := 99) hx hb dX10_isMet_78 (by decide) (fun c_97 => ?_) (fun c_97 => ?_)
            · refine lv_aload_n hx hb dX10_isMet_99 rfl (lv_at hl 0 rfl) ?_
              refine va_get (D := (dC, dI)) (ci := 10) (v := .int w4) (C := RX10) (T := TX10) (N := 5) hx hb htw inlX10 hown hK hP 0 rfl rfl 4 (by decide) (htw _ (ck_42 _ (List.mem_of_getElem? (i := 8) rfl))) (fun _ h9 => h9) rfl dX10_isMet_100 ?_
              refine lv_iconst (v := (-1)) hx hb dX10_isMet_103 (by decide) ?_
              refine lv_icmp_eq (tgt := 126) hx hb dX10_isMet_104 (by decide) (fun c_98 => ?_) (fun c_98 => ?_)
              · refine lv_iconst (v := 1) hx hb dX10_isMet_126 (by decide) ?_
                refine lv_goto (tgt := 131) hx hb dX10_isMet_127 (by decide) ?_
                refine W.widen (k := 0) (n := 0) (by omega) (by omega) ?_
                have hP9 := hP
                have hD9 := hD
                have hK9 := hK.sub (tys' := []) [] rfl
                exact W.zret (v := 1) hx hb hr (by first | rfl | decide) (fun t ht hW => ⟨⟨1, fRs, rfl, ((fun e9 => ⟨by rw [e9], by rw [e9]⟩ : fw_isMet w0 w1 w2 w3 w4 fRc fRe fRs ct yr dy lg wd wf mp mb mo sp sb = ((1 : Int32), fRs) → _) (by rw [fw_isMet]; (try rw [← hq_r_94]); (try rw [if_neg c_1]); (try rw [if_pos c_63]); (try rw [if_neg c_64]); (try rw [if_pos c_95]); (try rw [if_pos c_96]); (try rw [if_pos c_97]); (try rw [if_pos c_98]); try rfl)), by rw [ht]; exact hP9, va_K.moved hW.alike hK9, hD9⟩, hS.F ht⟩) hS.2.2 dX10_isMet_131
              · refine lv_aload_n hx hb dX10_isMet_107 rfl (lv_at hl 2 rfl) ?_
                refine va_get (D := (dC, dI)) (ci := 0) (v := .ref bru) (C := RX0) (T := TX0) (N := 12) hx hb htw inlX0 hown hK hP 2 rfl rfl 4 (by decide) (htw _ (ck_42 _ (List.mem_of_getElem? (i := 22) rfl))) (fun _ h9 => h9) rfl dX10_isMet_108 ?_
                refine lv_aload_n hx hb dX10_isMet_111 rfl (lv_at hl 0 rfl) ?_
                refine va_get (D := (dC, dI)) (ci := 10) (v := .int w4) (C := RX10) (T := TX10) (N := 5) hx hb htw inlX10 hown hK hP 0 rfl rfl 4 (by decide) (htw _ (ck_42 _ (List.mem_of_getElem? (i := 8) rfl))) (fun _ h9 => h9) rfl dX10_isMet_112 ?_
                refine lv_aload_n hx hb dX10_isMet_115 rfl (lv_at hl 1 rfl) ?_
                refine lv_aload_n hx hb dX10_isMet_116 rfl (lv_at hl 2 rfl) ?_
                refine va_get (D := (dC, dI)) (ci := 0) (v := .ref bsk) (C := RX0) (T := TX0) (N := 12) hx hb htw inlX0 hown hK hP 2 rfl rfl 3 (by decide) (htw _ (ck_42 _ (List.mem_of_getElem? (i := 20) rfl))) (fun _ h9 => h9) rfl dX10_isMet_117 ?_
                obtain ⟨hPc, hDc, hFc, hCc⟩ := zsub3 (ws' := [(eO8a bru rco rsz ren rst rkn), (eA0 rco cRc 64 fRc), (eA0 ren cRe 4 fRe), (eA1 rst cRs 64 fRs), (mm, .inr (4, [mla, .long ct, .long yr, .long dy, .long lg])), (eO9a bsk wd wf mp mb mo sp sb)]) hP hD hS hA [4, 5, 6, 7, 1, 3] (by decide) rfl
                have hKc := hK.sub (tys' := [(cRc, .int), (cRe, .int), (cRs, .long)]) [0, 1, 2] rfl
                refine va_calli (va_runV (As := [.int w4, .ref mm, .ref bsk]) (rest := []) ⟨hx, hb, hml, hown, htw⟩ (gr_isFeast l dC dI bru rco rsz ren rst rkn cRc fRc cRe fRe cRs fRs mm mla ct yr dy lg bsk wd wf mp mb mo sp sb w4 H.size hE) (cwV 3 htw (xg_V (ck_43 _ (List.mem_of_getElem? (i := 2) rfl)) (ck_39 _ (List.mem_of_getElem? (i := 5) rfl)) (ck_39 _ (List.mem_of_getElem? (i := 6) rfl)) (ck_6 _ (List.mem_of_getElem? (i := 8) rfl)) (ck_39 _ (List.mem_of_getElem? (i := 7) rfl))) rfl rfl rfl (by exact ⟨rfl, hdc_1.1, hdc_1.2, hdd_12⟩) ⟨Nat.le_of_ble_eq_true rfl, Nat.le_of_ble_eq_true rfl⟩) ⟨fun a U g mk q => by obtain ⟨q0, q1, qP, qK, qD⟩ := q; exact ⟨q0, q1, qP, va_K.moved (u := U) (U := U.calling g mk a) (Vm.Alike.refl U.vm) qK, qD⟩, va_recv hKc hPc (ci := 8) (q0 := 0) rfl rfl, fun U hU hW => ⟨rfl, by rw [hU], by rw [hU]; exact hPc, va_K.moved hW.alike hKc, hDc.weaken (fun _ _ _ _ => trivial)⟩⟩ rfl rfl hl.1 rfl (lv_room (Nat.le_of_ble_eq_true rfl)) dX10_isMet_120 ⟨Nat.le_of_ble_eq_true rfl, Nat.le_of_ble_eq_true rfl⟩) hS (fun q _ h => hFc q h) hFc (fun r_99 u_100 t H1 locs ht hvm hw hB hz1 hk1 hS => ?_)
                try dsimp only at hw
                obtain ⟨hP1, hK1, hD1⟩ := hB
                rw [ht] at hP1
                have hK1 := va_K.moved hvm.symm hK1
                have hK1 : va_K (dC, dI) vwCl [] s := hK1
                obtain ⟨hP, hD⟩ := va_join (wr := [(eO10a wi w0 w1 w2 w3 w4), (eO0a bk bto bnm bla bsk bru bbo bdi bda bdk bdt bdp bno)]) (w1 := [(eO8a bru rco rsz ren rst rkn), (eA0 rco cRc 64 fRc), (eA0 ren cRe 4 fRe), (eA1 rst cRs 64 u_100), (mm, .inr (4, [mla, .long ct, .long yr, .long dy, .long lg])), (eO9a bsk wd wf mp mb mo sp sb)]) hP hD [4, 5, 6, 7, 1, 3] [0, 2] hCc rfl (by decide) (by decide) hk1 hFc hP1 hD1
                generalize H1 = H at hP hS ⊢
                obtain ⟨hP, hD⟩ := zre [(eO10a wi w0 w1 w2 w3 w4), (eO0a bk bto bnm bla bsk bru bbo bdi bda bdk bdt bdp bno), (eO8a bru rco rsz ren rst rkn), (eA0 rco cRc 64 fRc), (eA0 ren cRe 4 fRe), (eA1 rst cRs 64 u_100), (mm, .inr (4, [mla, .long ct, .long yr, .long dy, .long lg])), (eO9a bsk wd wf mp mb mo sp sb)] hP hD rfl
                refine W.widen (k := 0) (n := 0) (by omega) (by omega) ?_
                have hq_r_99 : r_99 = (fr_isFeast fRc fRe fRs ct yr dy lg wd wf mp mb mo sp sb w4).1 := hw.1
                have hq_u_100 : u_100 = (fr_isFeast fRc fRe fRs ct yr dy lg wd wf mp mb mo sp sb w4).2 := hw.2
                refine lv_if_eq (tgt := 130) hx hb dX10_isMet_123 (by decide) (fun c_102 => ?_) (fun c_102 => ?_)
                · refine lv_iconst (v := 0) hx hb dX10_isMet_130 (by decide) ?_
                  refine W.widen (k := 0) (n := 0) (by omega) (by omega) ?_
                  obtain ⟨hP9, hD9⟩ := zsub2 (ws' := [(eO10a wi w0 w1 w2 w3 w4), (mm, .inr (4, [mla, .long ct, .long yr, .long dy, .long lg])), (eO0a bk bto bnm bla bsk bru bbo bdi bda bdk bdt bdp bno), (eO9a bsk wd wf mp mb mo sp sb), (eO8a bru rco rsz ren rst rkn), (eA0 rco cRc 64 fRc), (eA0 ren cRe 4 fRe), (eA1 rst cRs 64 u_100)]) hP hD [0, 6, 1, 7, 2, 3, 4, 5] (by decide +kernel) rfl
                  have hK9 := hK.sub (tys' := []) [] rfl
                  exact W.zret (v := 0) hx hb hr (by first | rfl | decide) (fun t ht hW => ⟨⟨0, u_100, rfl, ((fun e9 => ⟨by rw [e9], by rw [e9]⟩ : fw_isMet w0 w1 w2 w3 w4 fRc fRe fRs ct yr dy lg wd wf mp mb mo sp sb = ((0 : Int32), u_100) → _) (by rw [fw_isMet]; (try rw [← hq_r_94]); (try rw [← hq_r_99]); (try rw [← hq_u_100]); (try rw [if_neg c_1]); (try rw [if_pos c_63]); (try rw [if_neg c_64]); (try rw [if_pos c_95]); (try rw [if_pos c_96]); (try rw [if_pos c_97]); (try rw [if_neg c_98]); (try rw [if_pos c_102]); try rfl)), by rw [ht]; exact hP9, va_K.moved hW.alike hK9, hD9⟩, hS.F ht⟩) hS.2.2 dX10_isMet_131
                · refine lv_iconst (v := 1) hx hb dX10_isMet_126 (by decide) ?_
                  refine lv_goto (tgt := 131) hx hb dX10_isMet_127 (by decide) ?_
                  refine W.widen (k := 0) (n := 0) (by omega) (by omega) ?_
                  obtain ⟨hP9, hD9⟩ := zsub2 (ws' := [(eO10a wi w0 w1 w2 w3 w4), (mm, .inr (4, [mla, .long ct, .long yr, .long dy, .long lg])), (eO0a bk bto bnm bla bsk bru bbo bdi bda bdk bdt bdp bno), (eO9a bsk wd wf mp mb mo sp sb), (eO8a bru rco rsz ren rst rkn), (eA0 rco cRc 64 fRc), (eA0 ren cRe 4 fRe), (eA1 rst cRs 64 u_100)]) hP hD [0, 6, 1, 7, 2, 3, 4, 5] (by decide +kernel) rfl
                  have hK9 := hK.sub (tys' := []) [] rfl
                  exact W.zret (v := 1) hx hb hr (by first | rfl | decide) (fun t ht hW => ⟨⟨1, u_100, rfl, ((fun e9 => ⟨by rw [e9], by rw [e9]⟩ : fw_isMet w0 w1 w2 w3 w4 fRc fRe fRs ct yr dy lg wd wf mp mb mo sp sb = ((1 : Int32), u_100) → _) (by rw [fw_isMet]; (try rw [← hq_r_94]); (try rw [← hq_r_99]); (try rw [← hq_u_100]); (try rw [if_neg c_1]); (try rw [if_pos c_63]); (try rw [if_neg c_64]); (try rw [if_pos c_95]); (try rw [if_pos c_96]); (try rw [if_pos c_97]); (try rw [if_neg c_98]); (try rw [if_neg c_102]); try rfl)), by rw [ht]; exact hP9, va_K.moved hW.alike hK9, hD9⟩, hS.F ht⟩) hS.2.2 dX10_isMet_131
            · refine lv_aload_n hx hb dX10_isMet_81 rfl (lv_at hl 2 rfl) ?_
              refine va_get (D := (dC, dI)) (ci := 0) (v := .ref bsk) (C := RX0) (T := TX0) (N := 12) hx hb htw inlX0 hown hK hP 2 rfl rfl 3 (by decide) (htw _ (ck_42 _ (List.mem_of_getElem? (i := 20) rfl))) (fun _ h9 => h9) rfl dX10_isMet_82 ?_
              refine lv_aload_n hx hb dX10_isMet_85 rfl (lv_at hl 1 rfl) ?_
              refine va_get (D := (dC, dI)) (ci := 4) (v := .long ct) (C := RX4) (T := TX4) (N := 5) hx hb htw inlX4 hown hK hP 1 rfl rfl 1 (by decide) (htw _ (ck_42 _ (List.mem_of_getElem? (i := 21) rfl))) (fun _ h9 => h9) rfl dX10_isMet_86 ?_
              have hPc := hP.sub (ws' := [(eO9a bsk wd wf mp mb mo sp sb)]) [3] rfl
              have hKc := hK.sub (tys' := []) [] rfl
              refine vp_callSi (W.runV (As := [.long ct]) (rest := []) ⟨hx, hb, hml, hown, htw⟩ (gs_seasonOf l dC dI bsk wd wf mp mb mo sp sb ct) (cwV 1 htw (xg_V (ck_43 _ (List.mem_of_getElem? (i := 1) rfl)) (ck_37 _ (List.mem_of_getElem? (i := 20) rfl)) (ck_37 _ (List.mem_of_getElem? (i := 21) rfl)) (ck_6 _ (List.mem_of_getElem? (i := 4) rfl)) (ck_37 _ (List.mem_of_getElem? (i := 22) rfl))) rfl rfl rfl (by exact ⟨rfl, hdc_2.1, hdc_2.2, hdd_6⟩) ⟨Nat.le_of_ble_eq_true rfl, Nat.le_of_ble_eq_true rfl⟩) ⟨fun a U g mk q => by obtain ⟨q0, qP, qK⟩ := q; exact ⟨q0, qP, va_K.moved (u := U) (U := U.calling g mk a) (Vm.Alike.refl U.vm) qK⟩, va_recv hKc hPc (ci := 9) (q0 := 0) rfl rfl, fun U hU hW => ⟨rfl, by rw [hU]; exact hPc, va_K.moved hW.alike hKc⟩⟩ rfl rfl hl.1 rfl (lv_room (Nat.le_of_ble_eq_true rfl)) dX10_isMet_89 ⟨Nat.le_of_ble_eq_true rfl, Nat.le_of_ble_eq_true rfl⟩) (fun r_103 hw => ?_)
              try dsimp only at hw
              have hq_r_103 : r_103 = fs_seasonOf wd wf mp mb mo sp sb ct := hw
              refine lv_aload_n hx hb dX10_isMet_92 rfl (lv_at hl 0 rfl) ?_
              refine va_get (D := (dC, dI)) (ci := 10) (v := .int w3) (C := RX10) (T := TX10) (N := 5) hx hb htw inlX10 hown hK hP 0 rfl rfl 3 (by decide) (htw _ (ck_42 _ (List.mem_of_getElem? (i := 7) rfl))) (fun _ h9 => h9) rfl dX10_isMet_93 ?_
              refine lv_icmp_ne (tgt := 130) hx hb dX10_isMet_96 (by decide) (fun c_104 => ?_) (fun c_104 => ?_)
              · refine lv_iconst (v := 0) hx hb dX10_isMet_130 (by decide) ?_
                refine W.widen (k := 0) (n := 0) (by omega) (by omega) ?_
                have hP9 := hP
                have hD9 := hD
                have hK9 := hK.sub (tys' := []) [] rfl
                exact W.zret (v := 0) hx hb hr (by first | rfl | decide) (fun t ht hW => ⟨⟨0, fRs, rfl, ((fun e9 => ⟨by rw [e9], by rw [e9]⟩ : fw_isMet w0 w1 w2 w3 w4 fRc fRe fRs ct yr dy lg wd wf mp mb mo sp sb = ((0 : Int32), fRs) → _) (by rw [fw_isMet]; (try rw [← hq_r_94]); (try rw [← hq_r_103]); (try rw [if_neg c_1]); (try rw [if_pos c_63]); (try rw [if_neg c_64]); (try rw [if_pos c_95]); (try rw [if_pos c_96]); (try rw [if_neg c_97]); (try rw [if_neg c_104]); try rfl)), by rw [ht]; exact hP9, va_K.moved hW.alike hK9, hD9⟩, hS.F ht⟩) hS.2.2 dX10_isMet_131
              · refine lv_aload_n hx hb dX10_isMet_99 rfl (lv_at hl 0 rfl) ?_
                refine va_get (D := (dC, dI)) (ci := 10) (v := .int w4) (C := RX10) (T := TX10) (N := 5) hx hb htw inlX10 hown hK hP 0 rfl rfl 4 (by decide) (htw _ (ck_42 _ (List.mem_of_getElem? (i := 8) rfl))) (fun _ h9 => h9) rfl dX10_isMet_100 ?_
                refine lv_iconst (v := (-1)) hx hb dX10_isMet_103 (by decide) ?_
                refine lv_icmp_eq (tgt := 126) hx hb dX10_isMet_104 (by decide) (fun c_105 => ?_) (fun c_105 => ?_)
                · refine lv_iconst (v := 1) hx hb dX10_isMet_126 (by decide) ?_
                  refine lv_goto (tgt := 131) hx hb dX10_isMet_127 (by decide) ?_
                  refine W.widen (k := 0) (n := 0) (by omega) (by omega) ?_
                  have hP9 := hP
                  have hD9 := hD
                  have hK9 := hK.sub (tys' := []) [] rfl
                  exact W.zret (v := 1) hx hb hr (by first | rfl | decide) (fun t ht hW => ⟨⟨1, fRs, rfl, ((fun e9 => ⟨by rw [e9], by rw [e9]⟩ : fw_isMet w0 w1 w2 w3 w4 fRc fRe fRs ct yr dy lg wd wf mp mb mo sp sb = ((1 : Int32), fRs) → _) (by rw [fw_isMet]; (try rw [← hq_r_94]); (try rw [← hq_r_103]); (try rw [if_neg c_1]); (try rw [if_pos c_63]); (try rw [if_neg c_64]); (try rw [if_pos c_95]); (try rw [if_pos c_96]); (try rw [if_neg c_97]); (try rw [if_pos c_104]); (try rw [if_pos c_105]); try rfl)), by rw [ht]; exact hP9, va_K.moved hW.alike hK9, hD9⟩, hS.F ht⟩) hS.2.2 dX10_isMet_131
                · refine lv_aload_n hx hb dX10_isMet_107 rfl (lv_at hl 2 rfl) ?_
                  refine va_get (D := (dC, dI)) (ci := 0) (v := .ref bru) (C := RX0) (T := TX0) (N := 12) hx hb htw inlX0 hown hK hP 2 rfl rfl 4 (by decide) (htw _ (ck_42 _ (List.mem_of_getElem? (i := 22) rfl))) (fun _ h9 => h9) rfl dX10_isMet_108 ?_
                  refine lv_aload_n hx hb dX10_isMet_111 rfl (lv_at hl 0 rfl) ?_
                  refine va_get (D := (dC, dI)) (ci := 10) (v := .int w4) (C := RX10) (T := TX10) (N := 5) hx hb htw inlX10 hown hK hP 0 rfl rfl 4 (by decide) (htw _ (ck_42 _ (List.mem_of_getElem? (i := 8) rfl))) (fun _ h9 => h9) rfl dX10_isMet_112 ?_
                  refine lv_aload_n hx hb dX10_isMet_115 rfl (lv_at hl 1 rfl) ?_
                  refine lv_aload_n hx hb dX10_isMet_116 rfl (lv_at hl 2 rfl) ?_
                  refine va_get (D := (dC, dI)) (ci := 0) (v := .ref bsk) (C := RX0) (T := TX0) (N := 12) hx hb htw inlX0 hown hK hP 2 rfl rfl 3 (by decide) (htw _ (ck_42 _ (List.mem_of_getElem? (i := 20) rfl))) (fun _ h9 => h9) rfl dX10_isMet_117 ?_
                  obtain ⟨hPc, hDc, hFc, hCc⟩ := zsub3 (ws' := [(eO8a bru rco rsz ren rst rkn), (eA0 rco cRc 64 fRc), (eA0 ren cRe 4 fRe), (eA1 rst cRs 64 fRs), (mm, .inr (4, [mla, .long ct, .long yr, .long dy, .long lg])), (eO9a bsk wd wf mp mb mo sp sb)]) hP hD hS hA [4, 5, 6, 7, 1, 3] (by decide) rfl
                  have hKc := hK.sub (tys' := [(cRc, .int), (cRe, .int), (cRs, .long)]) [0, 1, 2] rfl
                  refine va_calli (va_runV (As := [.int w4, .ref mm, .ref bsk]) (rest := []) ⟨hx, hb, hml, hown, htw⟩ (gr_isFeast l dC dI bru rco rsz ren rst rkn cRc fRc cRe fRe cRs fRs mm mla ct yr dy lg bsk wd wf mp mb mo sp sb w4 H.size hE) (cwV 3 htw (xg_V (ck_43 _ (List.mem_of_getElem? (i := 2) rfl)) (ck_39 _ (List.mem_of_getElem? (i := 5) rfl)) (ck_39 _ (List.mem_of_getElem? (i := 6) rfl)) (ck_6 _ (List.mem_of_getElem? (i := 8) rfl)) (ck_39 _ (List.mem_of_getElem? (i := 7) rfl))) rfl rfl rfl (by exact ⟨rfl, hdc_1.1, hdc_1.2, hdd_12⟩) ⟨Nat.le_of_ble_eq_true rfl, Nat.le_of_ble_eq_true rfl⟩) ⟨fun a U g mk q => by obtain ⟨q0, q1, qP, qK, qD⟩ := q; exact ⟨q0, q1, qP, va_K.moved (u := U) (U := U.calling g mk a) (Vm.Alike.refl U.vm) qK, qD⟩, va_recv hKc hPc (ci := 8) (q0 := 0) rfl rfl, fun U hU hW => ⟨rfl, by rw [hU], by rw [hU]; exact hPc, va_K.moved hW.alike hKc, hDc.weaken (fun _ _ _ _ => trivial)⟩⟩ rfl rfl hl.1 rfl (lv_room (Nat.le_of_ble_eq_true rfl)) dX10_isMet_120 ⟨Nat.le_of_ble_eq_true rfl, Nat.le_of_ble_eq_true rfl⟩) hS (fun q _ h => hFc q h) hFc (fun r_106 u_107 t H1 locs ht hvm hw hB hz1 hk1 hS => ?_)
                  try dsimp only at hw
                  obtain ⟨hP1, hK1, hD1⟩ := hB
                  rw [ht] at hP1
                  have hK1 := va_K.moved hvm.symm hK1
                  have hK1 : va_K (dC, dI) vwCl [] s := hK1
                  obtain ⟨hP, hD⟩ := va_join (wr := [(eO10a wi w0 w1 w2 w3 w4), (eO0a bk bto bnm bla bsk bru bbo bdi bda bdk bdt bdp bno)]) (w1 := [(eO8a bru rco rsz ren rst rkn), (eA0 rco cRc 64 fRc), (eA0 ren cRe 4 fRe), (eA1 rst cRs 64 u_107), (mm, .inr (4, [mla, .long ct, .long yr, .long dy, .long lg])), (eO9a bsk wd wf mp mb mo sp sb)]) hP hD [4, 5, 6, 7, 1, 3] [0, 2] hCc rfl (by decide) (by decide) hk1 hFc hP1 hD1
                  generalize H1 = H at hP hS ⊢
                  obtain ⟨hP, hD⟩ := zre [(eO10a wi w0 w1 w2 w3 w4), (eO0a bk bto bnm bla bsk bru bbo bdi bda bdk bdt bdp bno), (eO8a bru rco rsz ren rst rkn), (eA0 rco cRc 64 fRc), (eA0 ren cRe 4 fRe), (eA1 rst cRs 64 u_107), (mm, .inr (4, [mla, .long ct, .long yr, .long dy, .long lg])), (eO9a bsk wd wf mp mb mo sp sb)] hP hD rfl
                  refine W.widen (k := 0) (n := 0) (by omega) (by omega) ?_
                  have hq_r_106 : r_106 = (fr_isFeast fRc fRe fRs ct yr dy lg wd wf mp mb mo sp sb w4).1 := hw.1
                  have hq_u_107 : u_107 = (fr_isFeast fRc fRe fRs ct yr dy lg wd wf mp mb mo sp sb w4).2 := hw.2
                  refine lv_if_eq (tgt := 130) hx hb dX10_isMet_123 (by decide) (fun c_109 => ?_) (fun c_109 => ?_)
                  · refine lv_iconst (v := 0) hx hb dX10_isMet_130 (by decide) ?_
                    refine W.widen (k := 0) (n := 0) (by omega) (by omega) ?_
                    obtain ⟨hP9, hD9⟩ := zsub2 (ws' := [(eO10a wi w0 w1 w2 w3 w4), (mm, .inr (4, [mla, .long ct, .long yr, .long dy, .long lg])), (eO0a bk bto bnm bla bsk bru bbo bdi bda bdk bdt bdp bno), (eO9a bsk wd wf mp mb mo sp sb), (eO8a bru rco rsz ren rst rkn), (eA0 rco cRc 64 fRc), (eA0 ren cRe 4 fRe), (eA1 rst cRs 64 u_107)]) hP hD [0, 6, 1, 7, 2, 3, 4, 5] (by decide +kernel) rfl
                    have hK9 := hK.sub (tys' := []) [] rfl
                    exact W.zret (v := 0) hx hb hr (by first | rfl | decide) (fun t ht hW => ⟨⟨0, u_107, rfl, ((fun e9 => ⟨by rw [e9], by rw [e9]⟩ : fw_isMet w0 w1 w2 w3 w4 fRc fRe fRs ct yr dy lg wd wf mp mb mo sp sb = ((0 : Int32), u_107) → _) (by rw [fw_isMet]; (try rw [← hq_r_94]); (try rw [← hq_r_103]); (try rw [← hq_r_106]); (try rw [← hq_u_107]); (try rw [if_neg c_1]); (try rw [if_pos c_63]); (try rw [if_neg c_64]); (try rw [if_pos c_95]); (try rw [if_pos c_96]); (try rw [if_neg c_97]); (try rw [if_pos c_104]); (try rw [if_neg c_105]); (try rw [if_pos c_109]); try rfl)), by rw [ht]; exact hP9, va_K.moved hW.alike hK9, hD9⟩, hS.F ht⟩) hS.2.2 dX10_isMet_131
                  · refine lv_iconst (v := 1) hx hb dX10_isMet_126 (by decide) ?_
                    refine lv_goto (tgt := 131) hx hb dX10_isMet_127 (by decide) ?_
                    refine W.widen (k := 0) (n := 0) (by omega) (by omega) ?_
                    obtain ⟨hP9, hD9⟩ := zsub2 (ws' := [(eO10a wi w0 w1 w2 w3 w4), (mm, .inr (4, [mla, .long ct, .long yr, .long dy, .long lg])), (eO0a bk bto bnm bla bsk bru bbo bdi bda bdk bdt bdp bno), (eO9a bsk wd wf mp mb mo sp sb), (eO8a bru rco rsz ren rst rkn), (eA0 rco cRc 64 fRc), (eA0 ren cRe 4 fRe), (eA1 rst cRs 64 u_107)]) hP hD [0, 6, 1, 7, 2, 3, 4, 5] (by decide +kernel) rfl
                    have hK9 := hK.sub (tys' := []) [] rfl
                    exact W.zret (v := 1) hx hb hr (by first | rfl | decide) (fun t ht hW => ⟨⟨1, u_107, rfl, ((fun e9 => ⟨by rw [e9], by rw [e9]⟩ : fw_isMet w0 w1 w2 w3 w4 fRc fRe fRs ct yr dy lg wd wf mp mb mo sp sb = ((1 : Int32), u_107) → _) (by rw [fw_isMet]; (try rw [← hq_r_94]); (try rw [← hq_r_103]); (try rw [← hq_r_106]); (try rw [← hq_u_107]); (try rw [if_neg c_1]); (try rw [if_pos c_63]); (try rw [if_neg c_64]); (try rw [if_pos c_95]); (try rw [if_pos c_96]); (try rw [if_neg c_97]); (try rw [if_pos c_104]); (try rw [if_neg c_105]); (try rw [if_neg c_109]); try rfl)), by rw [ht]; exact hP9, va_K.moved hW.alike hK9, hD9⟩, hS.F ht⟩) hS.2.2 dX10_isMet_131
          · refine lv_aload_n hx hb dX10_isMet_55 rfl (lv_at hl 2 rfl) ?_
            refine va_get (D := (dC, dI)) (ci := 0) (v := .ref bsk) (C := RX0) (T := TX0) (N := 12) hx hb htw inlX0 hown hK hP 2 rfl rfl 3 (by decide) (htw _ (ck_42 _ (List.mem_of_getElem? (i := 20) rfl))) (fun _ h9 => h9) rfl dX10_isMet_56 ?_
            refine lv_aload_n hx hb dX10_isMet_59 rfl (lv_at hl 1 rfl) ?_
            refine va_get (D := (dC, dI)) (ci := 4) (v := .long ct) (C := RX4) (T := TX4) (N := 5) hx hb htw inlX4 hown hK hP 1 rfl rfl 1 (by decide) (htw _ (ck_42 _ (List.mem_of_getElem? (i := 21) rfl))) (fun _ h9 => h9) rfl dX10_isMet_60 ?_
            have hPc := hP.sub (ws' := [(eO9a bsk wd wf mp mb mo sp sb)]) [3] rfl
            have hKc := hK.sub (tys' := []) [] rfl
            refine vp_callSi (W.runV (As := [.long ct]) (rest := []) ⟨hx, hb, hml, hown, htw⟩ (gs_moonOf l dC dI bsk wd wf mp mb mo sp sb ct) (cwV 1 htw (xg_V (ck_43 _ (List.mem_of_getElem? (i := 0) rfl)) (ck_37 _ (List.mem_of_getElem? (i := 15) rfl)) (ck_37 _ (List.mem_of_getElem? (i := 16) rfl)) (ck_6 _ (List.mem_of_getElem? (i := 4) rfl)) (ck_37 _ (List.mem_of_getElem? (i := 17) rfl))) rfl rfl rfl (by exact ⟨rfl, hdc_2.1, hdc_2.2, hdd_6⟩) ⟨Nat.le_of_ble_eq_true rfl, Nat.le_of_ble_eq_true rfl⟩) ⟨fun a U g mk q => by obtain ⟨q0, qP, qK⟩ := q; exact ⟨q0, qP, va_K.moved (u := U) (U := U.calling g mk a) (Vm.Alike.refl U.vm) qK⟩, va_recv hKc hPc (ci := 9) (q0 := 0) rfl rfl, fun U hU hW => ⟨rfl, by rw [hU]; exact hPc, va_K.moved hW.alike hKc⟩⟩ rfl rfl hl.1 rfl (lv_room (Nat.le_of_ble_eq_true rfl)) dX10_isMet_63 ⟨Nat.le_of_ble_eq_true rfl, Nat.le_of_ble_eq_true rfl⟩) (fun r_110 hw => ?_)
            try dsimp only at hw
            have hq_r_110 : r_110 = fs_moonOf wd wf mp mb mo sp sb ct := hw
            refine lv_aload_n hx hb dX10_isMet_66 rfl (lv_at hl 0 rfl) ?_
            refine va_get (D := (dC, dI)) (ci := 10) (v := .int w2) (C := RX10) (T := TX10) (N := 5) hx hb htw inlX10 hown hK hP 0 rfl rfl 2 (by decide) (htw _ (ck_42 _ (List.mem_of_getElem? (i := 6) rfl))) (fun _ h9 => h9) rfl dX10_isMet_67 ?_
            refine lv_icmp_ne (tgt := 130) hx hb dX10_isMet_70 (by decide) (fun c_111 => ?_) (fun c_111 => ?_)
            · refine lv_iconst (v := 0) hx hb dX10_isMet_130 (by decide) ?_
              refine W.widen (k := 0) (n := 0) (by omega) (by omega) ?_
              have hP9 := hP
              have hD9 := hD
              have hK9 := hK.sub (tys' := []) [] rfl
              exact W.zret (v := 0) hx hb hr (by first | rfl | decide) (fun t ht hW => ⟨⟨0, fRs, rfl, ((fun e9 => ⟨by rw [e9], by rw [e9]⟩ : fw_isMet w0 w1 w2 w3 w4 fRc fRe fRs ct yr dy lg wd wf mp mb mo sp sb = ((0 : Int32), fRs) → _) (by rw [fw_isMet]; (try rw [← hq_r_94]); (try rw [← hq_r_110]); (try rw [if_neg c_1]); (try rw [if_pos c_63]); (try rw [if_neg c_64]); (try rw [if_pos c_95]); (try rw [if_neg c_96]); (try rw [if_neg c_111]); try rfl)), by rw [ht]; exact hP9, va_K.moved hW.alike hK9, hD9⟩, hS.F ht⟩) hS.2.2 dX10_isMet_131
            · refine lv_aload_n hx hb dX10_isMet_73 rfl (lv_at hl 0 rfl) ?_
              refine va_get (D := (dC, dI)) (ci := 10) (v := .int w3) (C := RX10) (T := TX10) (N := 5) hx hb htw inlX10 hown hK hP 0 rfl rfl 3 (by decide) (htw _ (ck_42 _ (List.mem_of_getElem? (i := 7) rfl))) (fun _ h9 => h9) rfl dX10_isMet_74 ?_
              refine lv_iconst (v := (-1)) hx hb dX10_isMet_77 (by decide) ?_
              refine lv_icmp_eq (tgt := 99) hx hb dX10_isMet_78 (by decide) (fun c_112 => ?_) (fun c_112 => ?_)
              · refine lv_aload_n hx hb dX10_isMet_99 rfl (lv_at hl 0 rfl) ?_
                refine va_get (D := (dC, dI)) (ci := 10) (v := .int w4) (C := RX10) (T := TX10) (N := 5) hx hb htw inlX10 hown hK hP 0 rfl rfl 4 (by decide) (htw _ (ck_42 _ (List.mem_of_getElem? (i := 8) rfl))) (fun _ h9 => h9) rfl dX10_isMet_100 ?_
                refine lv_iconst (v := (-1)) hx hb dX10_isMet_103 (by decide) ?_
                refine lv_icmp_eq (tgt := 126) hx hb dX10_isMet_104 (by decide) (fun c_113 => ?_) (fun c_113 => ?_)
                · refine lv_iconst (v := 1) hx hb dX10_isMet_126 (by decide) ?_
                  refine lv_goto (tgt := 131) hx hb dX10_isMet_127 (by decide) ?_
                  refine W.widen (k := 0) (n := 0) (by omega) (by omega) ?_
                  have hP9 := hP
                  have hD9 := hD
                  have hK9 := hK.sub (tys' := []) [] rfl
                  exact W.zret (v := 1) hx hb hr (by first | rfl | decide) (fun t ht hW => ⟨⟨1, fRs, rfl, ((fun e9 => ⟨by rw [e9], by rw [e9]⟩ : fw_isMet w0 w1 w2 w3 w4 fRc fRe fRs ct yr dy lg wd wf mp mb mo sp sb = ((1 : Int32), fRs) → _) (by rw [fw_isMet]; (try rw [← hq_r_94]); (try rw [← hq_r_110]); (try rw [if_neg c_1]); (try rw [if_pos c_63]); (try rw [if_neg c_64]); (try rw [if_pos c_95]); (try rw [if_neg c_96]); (try rw [if_pos c_111]); (try rw [if_pos c_112]); (try rw [if_pos c_113]); try rfl)), by rw [ht]; exact hP9, va_K.moved hW.alike hK9, hD9⟩, hS.F ht⟩) hS.2.2 dX10_isMet_131
                · refine lv_aload_n hx hb dX10_isMet_107 rfl (lv_at hl 2 rfl) ?_
                  refine va_get (D := (dC, dI)) (ci := 0) (v := .ref bru) (C := RX0) (T := TX0) (N := 12) hx hb htw inlX0 hown hK hP 2 rfl rfl 4 (by decide) (htw _ (ck_42 _ (List.mem_of_getElem? (i := 22) rfl))) (fun _ h9 => h9) rfl dX10_isMet_108 ?_
                  refine lv_aload_n hx hb dX10_isMet_111 rfl (lv_at hl 0 rfl) ?_
                  refine va_get (D := (dC, dI)) (ci := 10) (v := .int w4) (C := RX10) (T := TX10) (N := 5) hx hb htw inlX10 hown hK hP 0 rfl rfl 4 (by decide) (htw _ (ck_42 _ (List.mem_of_getElem? (i := 8) rfl))) (fun _ h9 => h9) rfl dX10_isMet_112 ?_
                  refine lv_aload_n hx hb dX10_isMet_115 rfl (lv_at hl 1 rfl) ?_
                  refine lv_aload_n hx hb dX10_isMet_116 rfl (lv_at hl 2 rfl) ?_
                  refine va_get (D := (dC, dI)) (ci := 0) (v := .ref bsk) (C := RX0) (T := TX0) (N := 12) hx hb htw inlX0 hown hK hP 2 rfl rfl 3 (by decide) (htw _ (ck_42 _ (List.mem_of_getElem? (i := 20) rfl))) (fun _ h9 => h9) rfl dX10_isMet_117 ?_
                  obtain ⟨hPc, hDc, hFc, hCc⟩ := zsub3 (ws' := [(eO8a bru rco rsz ren rst rkn), (eA0 rco cRc 64 fRc), (eA0 ren cRe 4 fRe), (eA1 rst cRs 64 fRs), (mm, .inr (4, [mla, .long ct, .long yr, .long dy, .long lg])), (eO9a bsk wd wf mp mb mo sp sb)]) hP hD hS hA [4, 5, 6, 7, 1, 3] (by decide) rfl
                  have hKc := hK.sub (tys' := [(cRc, .int), (cRe, .int), (cRs, .long)]) [0, 1, 2] rfl
                  refine va_calli (va_runV (As := [.int w4, .ref mm, .ref bsk]) (rest := []) ⟨hx, hb, hml, hown, htw⟩ (gr_isFeast l dC dI bru rco rsz ren rst rkn cRc fRc cRe fRe cRs fRs mm mla ct yr dy lg bsk wd wf mp mb mo sp sb w4 H.size hE) (cwV 3 htw (xg_V (ck_43 _ (List.mem_of_getElem? (i := 2) rfl)) (ck_39 _ (List.mem_of_getElem? (i := 5) rfl)) (ck_39 _ (List.mem_of_getElem? (i := 6) rfl)) (ck_6 _ (List.mem_of_getElem? (i := 8) rfl)) (ck_39 _ (List.mem_of_getElem? (i := 7) rfl))) rfl rfl rfl (by exact ⟨rfl, hdc_1.1, hdc_1.2, hdd_12⟩) ⟨Nat.le_of_ble_eq_true rfl, Nat.le_of_ble_eq_true rfl⟩) ⟨fun a U g mk q => by obtain ⟨q0, q1, qP, qK, qD⟩ := q; exact ⟨q0, q1, qP, va_K.moved (u := U) (U := U.calling g mk a) (Vm.Alike.refl U.vm) qK, qD⟩, va_recv hKc hPc (ci := 8) (q0 := 0) rfl rfl, fun U hU hW => ⟨rfl, by rw [hU], by rw [hU]; exact hPc, va_K.moved hW.alike hKc, hDc.weaken (fun _ _ _ _ => trivial)⟩⟩ rfl rfl hl.1 rfl (lv_room (Nat.le_of_ble_eq_true rfl)) dX10_isMet_120 ⟨Nat.le_of_ble_eq_true rfl, Nat.le_of_ble_eq_true rfl⟩) hS (fun q _ h => hFc q h) hFc (fun r_114 u_115 t H1 locs ht hvm hw hB hz1 hk1 hS => ?_)
                  try dsimp only at hw
                  obtain ⟨hP1, hK1, hD1⟩ := hB
                  rw [ht] at hP1
                  have hK1 := va_K.moved hvm.symm hK1
                  have hK1 : va_K (dC, dI) vwCl [] s := hK1
                  obtain ⟨hP, hD⟩ := va_join (wr := [(eO10a wi w0 w1 w2 w3 w4), (eO0a bk bto bnm bla bsk bru bbo bdi bda bdk bdt bdp bno)]) (w1 := [(eO8a bru rco rsz ren rst rkn), (eA0 rco cRc 64 fRc), (eA0 ren cRe 4 fRe), (eA1 rst cRs 64 u_115), (mm, .inr (4, [mla, .long ct, .long yr, .long dy, .long lg])), (eO9a bsk wd wf mp mb mo sp sb)]) hP hD [4, 5, 6, 7, 1, 3] [0, 2] hCc rfl (by decide) (by decide) hk1 hFc hP1 hD1
                  generalize H1 = H at hP hS ⊢
                  obtain ⟨hP, hD⟩ := zre [(eO10a wi w0 w1 w2 w3 w4), (eO0a bk bto bnm bla bsk bru bbo bdi bda bdk bdt bdp bno), (eO8a bru rco rsz ren rst rkn), (eA0 rco cRc 64 fRc), (eA0 ren cRe 4 fRe), (eA1 rst cRs 64 u_115), (mm, .inr (4, [mla, .long ct, .long yr, .long dy, .long lg])), (eO9a bsk wd wf mp mb mo sp sb)] hP hD rfl
                  refine W.widen (k := 0) (n := 0) (by omega) (by omega) ?_
                  have hq_r_114 : r_114 = (fr_isFeast fRc fRe fRs ct yr dy lg wd wf mp mb mo sp sb w4).1 := hw.1
                  have hq_u_115 : u_115 = (fr_isFeast fRc fRe fRs ct yr dy lg wd wf mp mb mo sp sb w4).2 := hw.2
                  refine lv_if_eq (tgt := 130) hx hb dX10_isMet_123 (by decide) (fun c_117 => ?_) (fun c_117 => ?_)
                  · refine lv_iconst (v := 0) hx hb dX10_isMet_130 (by decide) ?_
                    refine W.widen (k := 0) (n := 0) (by omega) (by omega) ?_
                    obtain ⟨hP9, hD9⟩ := zsub2 (ws' := [(eO10a wi w0 w1 w2 w3 w4), (mm, .inr (4, [mla, .long ct, .long yr, .long dy, .long lg])), (eO0a bk bto bnm bla bsk bru bbo bdi bda bdk bdt bdp bno), (eO9a bsk wd wf mp mb mo sp sb), (eO8a bru rco rsz ren rst rkn), (eA0 rco cRc 64 fRc), (eA0 ren cRe 4 fRe), (eA1 rst cRs 64 u_115)]) hP hD [0, 6, 1, 7, 2, 3, 4, 5] (by decide +kernel) rfl
                    have hK9 := hK.sub (tys' := []) [] rfl
                    exact W.zret (v := 0) hx hb hr (by first | rfl | decide) (fun t ht hW => ⟨⟨0, u_115, rfl, ((fun e9 => ⟨by rw [e9], by rw [e9]⟩ : fw_isMet w0 w1 w2 w3 w4 fRc fRe fRs ct yr dy lg wd wf mp mb mo sp sb = ((0 : Int32), u_115) → _) (by rw [fw_isMet]; (try rw [← hq_r_94]); (try rw [← hq_r_110]); (try rw [← hq_r_114]); (try rw [← hq_u_115]); (try rw [if_neg c_1]); (try rw [if_pos c_63]); (try rw [if_neg c_64]); (try rw [if_pos c_95]); (try rw [if_neg c_96]); (try rw [if_pos c_111]); (try rw [if_pos c_112]); (try rw [if_neg c_113]); (try rw [if_pos c_117]); try rfl)), by rw [ht]; exact hP9, va_K.moved hW.alike hK9, hD9⟩, hS.F ht⟩) hS.2.2 dX10_isMet_131
                  · refine lv_iconst (v := 1) hx hb dX10_isMet_126 (by decide) ?_
                    refine lv_goto (tgt := 131) hx hb dX10_isMet_127 (by decide) ?_
                    refine W.widen (k := 0) (n := 0) (by omega) (by omega) ?_
                    obtain ⟨hP9, hD9⟩ := zsub2 (ws' := [(eO10a wi w0 w1 w2 w3 w4), (mm, .inr (4, [mla, .long ct, .long yr, .long dy, .long lg])), (eO0a bk bto bnm bla bsk bru bbo bdi bda bdk bdt bdp bno), (eO9a bsk wd wf mp mb mo sp sb), (eO8a bru rco rsz ren rst rkn), (eA0 rco cRc 64 fRc), (eA0 ren cRe 4 fRe), (eA1 rst cRs 64 u_115)]) hP hD [0, 6, 1, 7, 2, 3, 4, 5] (by decide +kernel) rfl
                    have hK9 := hK.sub (tys' := []) [] rfl
                    exact W.zret (v := 1) hx hb hr (by first | rfl | decide) (fun t ht hW => ⟨⟨1, u_115, rfl, ((fun e9 => ⟨by rw [e9], by rw [e9]⟩ : fw_isMet w0 w1 w2 w3 w4 fRc fRe fRs ct yr dy lg wd wf mp mb mo sp sb = ((1 : Int32), u_115) → _) (by rw [fw_isMet]; (try rw [← hq_r_94]); (try rw [← hq_r_110]); (try rw [← hq_r_114]); (try rw [← hq_u_115]); (try rw [if_neg c_1]); (try rw [if_pos c_63]); (try rw [if_neg c_64]); (try rw [if_pos c_95]); (try rw [if_neg c_96]); (try rw [if_pos c_111]); (try rw [if_pos c_112]); (try rw [if_neg c_113]); (try rw [if_neg c_117]); try rfl)), by rw [ht]; exact hP9, va_K.moved hW.alike hK9, hD9⟩, hS.F ht⟩) hS.2.2 dX10_isMet_131
              · refine lv_aload_n hx hb dX10_isMet_81 rfl (lv_at hl 2 rfl) ?_
                refine va_get (D := (dC, dI)) (ci := 0) (v := .ref bsk) (C := RX0) (T := TX0) (N := 12) hx hb htw inlX0 hown hK hP 2 rfl rfl 3 (by decide) (htw _ (ck_42 _ (List.mem_of_getElem? (i := 20) rfl))) (fun _ h9 => h9) rfl dX10_isMet_82 ?_
                refine lv_aload_n hx hb dX10_isMet_85 rfl (lv_at hl 1 rfl) ?_
                refine va_get (D := (dC, dI)) (ci := 4) (v := .long ct) (C := RX4) (T := TX4) (N := 5) hx hb htw inlX4 hown hK hP 1 rfl rfl 1 (by decide) (htw _ (ck_42 _ (List.mem_of_getElem? (i := 21) rfl))) (fun _ h9 => h9) rfl dX10_isMet_86 ?_
                have hPc := hP.sub (ws' := [(eO9a bsk wd wf mp mb mo sp sb)]) [3] rfl
                have hKc := hK.sub (tys' := []) [] rfl
                refine vp_callSi (W.runV (As := [.long ct]) (rest := []) ⟨hx, hb, hml, hown, htw⟩ (gs_seasonOf l dC dI bsk wd wf mp mb mo sp sb ct) (cwV 1 htw (xg_V (ck_43 _ (List.mem_of_getElem? (i := 1) rfl)) (ck_37 _ (List.mem_of_getElem? (i := 20) rfl)) (ck_37 _ (List.mem_of_getElem? (i := 21) rfl)) (ck_6 _ (List.mem_of_getElem? (i := 4) rfl)) (ck_37 _ (List.mem_of_getElem? (i := 22) rfl))) rfl rfl rfl (by exact ⟨rfl, hdc_2.1, hdc_2.2, hdd_6⟩) ⟨Nat.le_of_ble_eq_true rfl, Nat.le_of_ble_eq_true rfl⟩) ⟨fun a U g mk q => by obtain ⟨q0, qP, qK⟩ := q; exact ⟨q0, qP, va_K.moved (u := U) (U := U.calling g mk a) (Vm.Alike.refl U.vm) qK⟩, va_recv hKc hPc (ci := 9) (q0 := 0) rfl rfl, fun U hU hW => ⟨rfl, by rw [hU]; exact hPc, va_K.moved hW.alike hKc⟩⟩ rfl rfl hl.1 rfl (lv_room (Nat.le_of_ble_eq_true rfl)) dX10_isMet_89 ⟨Nat.le_of_ble_eq_true rfl, Nat.le_of_ble_eq_true rfl⟩) (fun r_118 hw => ?_)
                try dsimp only at hw
                have hq_r_118 : r_118 = fs_seasonOf wd wf mp mb mo sp sb ct := hw
                refine lv_aload_n hx hb dX10_isMet_92 rfl (lv_at hl 0 rfl) ?_
                refine va_get (D := (dC, dI)) (ci := 10) (v := .int w3) (C := RX10) (T := TX10) (N := 5) hx hb htw inlX10 hown hK hP 0 rfl rfl 3 (by decide) (htw _ (ck_42 _ (List.mem_of_getElem? (i := 7) rfl))) (fun _ h9 => h9) rfl dX10_isMet_93 ?_
                refine lv_icmp_ne (tgt := 130) hx hb dX10_isMet_96 (by decide) (fun c_119 => ?_) (fun c_119 => ?_)
                · refine lv_iconst (v := 0) hx hb dX10_isMet_130 (by decide) ?_
                  refine W.widen (k := 0) (n := 0) (by omega) (by omega) ?_
                  have hP9 := hP
                  have hD9 := hD
                  have hK9 := hK.sub (tys' := []) [] rfl
                  exact W.zret (v := 0) hx hb hr (by first | rfl | decide) (fun t ht hW => ⟨⟨0, fRs, rfl, ((fun e9 => ⟨by rw [e9], by rw [e9]⟩ : fw_isMet w0 w1 w2 w3 w4 fRc fRe fRs ct yr dy lg wd wf mp mb mo sp sb = ((0 : Int32), fRs) → _) (by rw [fw_isMet]; (try rw [← hq_r_94]); (try rw [← hq_r_110]); (try rw [← hq_r_118]); (try rw [if_neg c_1]); (try rw [if_pos c_63]); (try rw [if_neg c_64]); (try rw [if_pos c_95]); (try rw [if_neg c_96]); (try rw [if_pos c_111]); (try rw [if_neg c_112]); (try rw [if_neg c_119]); try rfl)), by rw [ht]; exact hP9, va_K.moved hW.alike hK9, hD9⟩, hS.F ht⟩) hS.2.2 dX10_isMet_131
                · refine lv_aload_n hx hb dX10_isMet_99 rfl (lv_at hl 0 rfl) ?_
                  refine va_get (D := (dC, dI)) (ci := 10) (v := .int w4) (C := RX10) (T := TX10) (N := 5) hx hb htw inlX10 hown hK hP 0 rfl rfl 4 (by decide) (htw _ (ck_42 _ (List.mem_of_getElem? (i := 8) rfl))) (fun _ h9 => h9) rfl dX10_isMet_100 ?_
                  refine lv_iconst (v := (-1)) hx hb dX10_isMet_103 (by decide) ?_
                  refine lv_icmp_eq (tgt := 126) hx hb dX10_isMet_104 (by decide) (fun c_120 => ?_) (fun c_120 => ?_)
                  · refine lv_iconst (v := 1) hx hb dX10_isMet_126 (by decide) ?_
                    refine lv_goto (tgt := 131) hx hb dX10_isMet_127 (by decide) ?_
                    refine W.widen (k := 0) (n := 0) (by omega) (by omega) ?_
                    have hP9 := hP
                    have hD9 := hD
                    have hK9 := hK.sub (tys' := []) [] rfl
                    exact W.zret (v := 1) hx hb hr (by first | rfl | decide) (fun t ht hW => ⟨⟨1, fRs, rfl, ((fun e9 => ⟨by rw [e9], by rw [e9]⟩ : fw_isMet w0 w1 w2 w3 w4 fRc fRe fRs ct yr dy lg wd wf mp mb mo sp sb = ((1 : Int32), fRs) → _) (by rw [fw_isMet]; (try rw [← hq_r_94]); (try rw [← hq_r_110]); (try rw [← hq_r_118]); (try rw [if_neg c_1]); (try rw [if_pos c_63]); (try rw [if_neg c_64]); (try rw [if_pos c_95]); (try rw [if_neg c_96]); (try rw [if_pos c_111]); (try rw [if_neg c_112]); (try rw [if_pos c_119]); (try rw [if_pos c_120]); try rfl)), by rw [ht]; exact hP9, va_K.moved hW.alike hK9, hD9⟩, hS.F ht⟩) hS.2.2 dX10_isMet_131
                  · refine lv_aload_n hx hb dX10_isMet_107 rfl (lv_at hl 2 rfl) ?_
                    refine va_get (D := (dC, dI)) (ci := 0) (v := .ref bru) (C := RX0) (T := TX0) (N := 12) hx hb htw inlX0 hown hK hP 2 rfl rfl 4 (by decide) (htw _ (ck_42 _ (List.mem_of_getElem? (i := 22) rfl))) (fun _ h9 => h9) rfl dX10_isMet_108 ?_
                    refine lv_aload_n hx hb dX10_isMet_111 rfl (lv_at hl 0 rfl) ?_
                    refine va_get (D := (dC, dI)) (ci := 10) (v := .int w4) (C := RX10) (T := TX10) (N := 5) hx hb htw inlX10 hown hK hP 0 rfl rfl 4 (by decide) (htw _ (ck_42 _ (List.mem_of_getElem? (i := 8) rfl))) (fun _ h9 => h9) rfl dX10_isMet_112 ?_
                    refine lv_aload_n hx hb dX10_isMet_115 rfl (lv_at hl 1 rfl) ?_
                    refine lv_aload_n hx hb dX10_isMet_116 rfl (lv_at hl 2 rfl) ?_
                    refine va_get (D := (dC, dI)) (ci := 0) (v := .ref bsk) (C := RX0) (T := TX0) (N := 12) hx hb htw inlX0 hown hK hP 2 rfl rfl 3 (by decide) (htw _ (ck_42 _ (List.mem_of_getElem? (i := 20) rfl))) (fun _ h9 => h9) rfl dX10_isMet_117 ?_
                    obtain ⟨hPc, hDc, hFc, hCc⟩ := zsub3 (ws' := [(eO8a bru rco rsz ren rst rkn), (eA0 rco cRc 64 fRc), (eA0 ren cRe 4 fRe), (eA1 rst cRs 64 fRs), (mm, .inr (4, [mla, .long ct, .long yr, .long dy, .long lg])), (eO9a bsk wd wf mp mb mo sp sb)]) hP hD hS hA [4, 5, 6, 7, 1, 3] (by decide) rfl
                    have hKc := hK.sub (tys' := [(cRc, .int), (cRe, .int), (cRs, .long)]) [0, 1, 2] rfl
                    refine va_calli (va_runV (As := [.int w4, .ref mm, .ref bsk]) (rest := []) ⟨hx, hb, hml, hown, htw⟩ (gr_isFeast l dC dI bru rco rsz ren rst rkn cRc fRc cRe fRe cRs fRs mm mla ct yr dy lg bsk wd wf mp mb mo sp sb w4 H.size hE) (cwV 3 htw (xg_V (ck_43 _ (List.mem_of_getElem? (i := 2) rfl)) (ck_39 _ (List.mem_of_getElem? (i := 5) rfl)) (ck_39 _ (List.mem_of_getElem? (i := 6) rfl)) (ck_6 _ (List.mem_of_getElem? (i := 8) rfl)) (ck_39 _ (List.mem_of_getElem? (i := 7) rfl))) rfl rfl rfl (by exact ⟨rfl, hdc_1.1, hdc_1.2, hdd_12⟩) ⟨Nat.le_of_ble_eq_true rfl, Nat.le_of_ble_eq_true rfl⟩) ⟨fun a U g mk q => by obtain ⟨q0, q1, qP, qK, qD⟩ := q; exact ⟨q0, q1, qP, va_K.moved (u := U) (U := U.calling g mk a) (Vm.Alike.refl U.vm) qK, qD⟩, va_recv hKc hPc (ci := 8) (q0 := 0) rfl rfl, fun U hU hW => ⟨rfl, by rw [hU], by rw [hU]; exact hPc, va_K.moved hW.alike hKc, hDc.weaken (fun _ _ _ _ => trivial)⟩⟩ rfl rfl hl.1 rfl (lv_room (Nat.le_of_ble_eq_true rfl)) dX10_isMet_120 ⟨Nat.le_of_ble_eq_true rfl, Nat.le_of_ble_eq_true rfl⟩) hS (fun q _ h => hFc q h) hFc (fun r_121 u_122 t H1 locs ht hvm hw hB hz1 hk1 hS => ?_)
                    try dsimp only at hw
                    obtain ⟨hP1, hK1, hD1⟩ := hB
                    rw [ht] at hP1
                    have hK1 := va_K.moved hvm.symm hK1
                    have hK1 : va_K (dC, dI) vwCl [] s := hK1
                    obtain ⟨hP, hD⟩ := va_join (wr := [(eO10a wi w0 w1 w2 w3 w4), (eO0a bk bto bnm bla bsk bru bbo bdi bda bdk bdt bdp bno)]) (w1 := [(eO8a bru rco rsz ren rst rkn), (eA0 rco cRc 64 fRc), (eA0 ren cRe 4 fRe), (eA1 rst cRs 64 u_122), (mm, .inr (4, [mla, .long ct, .long yr, .long dy, .long lg])), (eO9a bsk wd wf mp mb mo sp sb)]) hP hD [4, 5, 6, 7, 1, 3] [0, 2] hCc rfl (by decide) (by decide) hk1 hFc hP1 hD1
                    generalize H1 = H at hP hS ⊢
                    obtain ⟨hP, hD⟩ := zre [(eO10a wi w0 w1 w2 w3 w4), (eO0a bk bto bnm bla bsk bru bbo bdi bda bdk bdt bdp bno), (eO8a bru rco rsz ren rst rkn), (eA0 rco cRc 64 fRc), (eA0 ren cRe 4 fRe), (eA1 rst cRs 64 u_122), (mm, .inr (4, [mla, .long ct, .long yr, .long dy, .long lg])), (eO9a bsk wd wf mp mb mo sp sb)] hP hD rfl
                    refine W.widen (k := 0) (n := 0) (by omega) (by omega) ?_
                    have hq_r_121 : r_121 = (fr_isFeast fRc fRe fRs ct yr dy lg wd wf mp mb mo sp sb w4).1 := hw.1
                    have hq_u_122 : u_122 = (fr_isFeast fRc fRe fRs ct yr dy lg wd wf mp mb mo sp sb w4).2 := hw.2
                    refine lv_if_eq (tgt := 130) hx hb dX10_isMet_123 (by decide) (fun c_124 => ?_) (fun c_124 => ?_)
                    · refine lv_iconst (v := 0) hx hb dX10_isMet_130 (by decide) ?_
                      refine W.widen (k := 0) (n := 0) (by omega) (by omega) ?_
                      obtain ⟨hP9, hD9⟩ := zsub2 (ws' := [(eO10a wi w0 w1 w2 w3 w4), (mm, .inr (4, [mla, .long ct, .long yr, .long dy, .long lg])), (eO0a bk bto bnm bla bsk bru bbo bdi bda bdk bdt bdp bno), (eO9a bsk wd wf mp mb mo sp sb), (eO8a bru rco rsz ren rst rkn), (eA0 rco cRc 64 fRc), (eA0 ren cRe 4 fRe), (eA1 rst cRs 64 u_122)]) hP hD [0, 6, 1, 7, 2, 3, 4, 5] (by decide +kernel) rfl
                      have hK9 := hK.sub (tys' := []) [] rfl
                      exact W.zret (v := 0) hx hb hr (by first | rfl | decide) (fun t ht hW => ⟨⟨0, u_122, rfl, ((fun e9 => ⟨by rw [e9], by rw [e9]⟩ : fw_isMet w0 w1 w2 w3 w4 fRc fRe fRs ct yr dy lg wd wf mp mb mo sp sb = ((0 : Int32), u_122) → _) (by rw [fw_isMet]; (try rw [← hq_r_94]); (try rw [← hq_r_110]); (try rw [← hq_r_118]); (try rw [← hq_r_121]); (try rw [← hq_u_122]); (try rw [if_neg c_1]); (try rw [if_pos c_63]); (try rw [if_neg c_64]); (try rw [if_pos c_95]); (try rw [if_neg c_96]); (try rw [if_pos c_111]); (try rw [if_neg c_112]); (try rw [if_pos c_119]); (try rw [if_neg c_120]); (try rw [if_pos c_124]); try rfl)), by rw [ht]; exact hP9, va_K.moved hW.alike hK9, hD9⟩, hS.F ht⟩) hS.2.2 dX10_isMet_131
                    · refine lv_iconst (v := 1) hx hb dX10_isMet_126 (by decide) ?_
                      refine lv_goto (tgt := 131) hx hb dX10_isMet_127 (by decide) ?_
                      refine W.widen (k := 0) (n := 0) (by omega) (by omega) ?_
                      obtain ⟨hP9, hD9⟩ := zsub2 (ws' := [(eO10a wi w0 w1 w2 w3 w4), (mm, .inr (4, [mla, .long ct, .long yr, .long dy, .long lg])), (eO0a bk bto bnm bla bsk bru bbo bdi bda bdk bdt bdp bno), (eO9a bsk wd wf mp mb mo sp sb), (eO8a bru rco rsz ren rst rkn), (eA0 rco cRc 64 fRc), (eA0 ren cRe 4 fRe), (eA1 rst cRs 64 u_122)]) hP hD [0, 6, 1, 7, 2, 3, 4, 5] (by decide +kernel) rfl
                      have hK9 := hK.sub (tys' := []) [] rfl
                      exact W.zret (v := 1) hx hb hr (by first | rfl | decide) (fun t ht hW => ⟨⟨1, u_122, rfl, ((fun e9 => ⟨by rw [e9], by rw [e9]⟩ : fw_isMet w0 w1 w2 w3 w4 fRc fRe fRs ct yr dy lg wd wf mp mb mo sp sb = ((1 : Int32), u_122) → _) (by rw [fw_isMet]; (try rw [← hq_r_94]); (try rw [← hq_r_110]); (try rw [← hq_r_118]); (try rw [← hq_r_121]); (try rw [← hq_u_122]); (try rw [if_neg c_1]); (try rw [if_pos c_63]); (try rw [if_neg c_64]); (try rw [if_pos c_95]); (try rw [if_neg c_96]); (try rw [if_pos c_111]); (try rw [if_neg c_112]); (try rw [if_pos c_119]); (try rw [if_neg c_120]); (try rw [if_neg c_124]); try rfl)), by rw [ht]; exact hP9, va_K.moved hW.alike hK9, hD9⟩, hS.F ht⟩) hS.2.2 dX10_isMet_131
