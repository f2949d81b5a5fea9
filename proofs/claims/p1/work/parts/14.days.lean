theorem dX5_refresh_0 : decode cX5_refresh 0 = .ok (.iconst 0, 1) := by decide +kernel
theorem dX5_refresh_1 : decode cX5_refresh 1 = .ok (.aload_n 0, 1) := by decide +kernel
theorem dX5_refresh_2 : decode cX5_refresh 2 = .ok (.getfield 37, 3) := by decide +kernel
theorem dX5_refresh_5 : decode cX5_refresh 5 = .ok (.invokestatic 47, 3) := by decide +kernel
theorem dX5_refresh_8 : decode cX5_refresh 8 = .ok (.istore_n 2, 1) := by decide +kernel
theorem dX5_refresh_9 : decode cX5_refresh 9 = .ok (.iload_n 2, 1) := by decide +kernel
theorem dX5_refresh_10 : decode cX5_refresh 10 = .ok (.aload_n 1, 1) := by decide +kernel
theorem dX5_refresh_11 : decode cX5_refresh 11 = .ok (.getfield 50, 3) := by decide +kernel
theorem dX5_refresh_14 : decode cX5_refresh 14 = .ok (.getfield 56, 3) := by decide +kernel
theorem dX5_refresh_17 : decode cX5_refresh 17 = .ok (.if_icmp .ge 28, 3) := by decide +kernel
theorem dX5_refresh_45 : decode cX5_refresh 45 = .ok (.return_, 1) := by decide +kernel
set_option maxHeartbeats 4000000 in
set_option maxRecDepth 100000 in
theorem mt_refresh (l : Launch) (dC : Nat → ClassId) (dI : Nat → Nat → Nat) (xdy : Nat) (dro : Nat) (dsh : Nat) (dto : Nat) (dmo : Nat) (dwi : Nat) (b : Nat) (bto : Nat) (bnm : Nat) (bla : Nat) (bsk : Nat) (bru : Nat) (bbo : Nat) (bdi : Nat) (bda : Nat) (bdk : Nat) (bdt : Nat) (bdp : Nat) (bno : Nat) (bnos : Nat) (bnof : Nat) (bnoz : Nat) : Met l yX5_refresh (Cond.code yX5_refresh cX5_refresh 3 none :: wsL_law) ({ frames := 1, cells := 0, slots := 0, locals := 13 }) (va_Pc [.ref xdy, .ref b] (fun U => va_P (dC, dI) vwCl [(xdy, .inr (5, [.ref dro, .int 0, .ref dsh, .ref dto, .ref dmo, .ref dwi])), (b, .inr (0, [.ref bto, .ref bnm, .ref bla, .ref bsk, .ref bru, .ref bbo, .ref bdi, .ref bda, .ref bdk, .ref bdt, .ref bdp, .ref bno])), (bno, .inr (6, [.int 0, .ref bnos, .ref bnof, .ref bnoz]))] U.heap ∧ va_K (dC, dI) vwCl [] U)) (va_Sv (fun r => True)) 0 0 (fun _ => False) := by
  refine Met.ofW (cc := cX5_refresh) (maxL := 3) (ret := none) (by decide) rfl ?_
  intro p e s m args below meth c s₁ B hml hv
  obtain ⟨rfl, hP, hK⟩ := hv
  have hx := B.exec
  have hb := B.bytes
  have hr := B.returns
  have hts := atoms_spec (ws := Cond.code yX5_refresh cX5_refresh 3 none :: wsL_law) B.pre
  have htw : ∀ w ∈ wsL_law, w.before _ s = true := fun w h => hts w (List.mem_cons_of_mem _ h)
  have hown : s.vm.findClass RX5 = some m.cls := findClass_of_methodNamed B.named
  have hlocks := B.notSynchronized
  have hl := lv_entry ([.ref xdy, .ref b]) (n := 3) (Nat.le_of_ble_eq_true rfl)
  rw [lg_entry_eq]
  generalize (lg_sl ([.ref xdy, .ref b]) ++ List.replicate (3 - (lg_sl ([.ref xdy, .ref b])).length) Slot.unset).toArray = ls at hl ⊢
  have hl : lv_has ls 3 [(0, .ref xdy), (1, .ref b)] := hl
  refine lv_iconst (v := 0) hx hb dX5_refresh_0 (by decide) ?_
  refine lv_aload_n hx hb dX5_refresh_1 rfl (lv_at hl 0 rfl) ?_
  refine va_get (D := (dC, dI)) (ci := 5) (v := .int 0) (C := RX5) (T := TX5) (N := 6) hx hb htw inlX5 hown hK hP 0 rfl rfl 1 (by decide) (htw _ (ck_24 _ (List.mem_of_getElem? (i := 4) rfl))) (fun _ h9 => h9) rfl dX5_refresh_2 ?_
  refine va_mmax hx hb (by rw [hml]; exact hl.1.symm) hown (htw _ (ck_54 _ (List.mem_of_getElem? (i := 10) rfl))) (htw _ (ck_54 _ (List.mem_of_getElem? (i := 11) rfl))) (htw _ (ck_14 _ (List.mem_of_getElem? (i := 8) rfl))) (htw _ (ck_54 _ (List.mem_of_getElem? (i := 12) rfl))) (Nat.le_of_ble_eq_true rfl) (Nat.le_of_ble_eq_true rfl) (Nat.le_of_ble_eq_true rfl) (Nat.le_of_ble_eq_true rfl) dX5_refresh_5 ?_
  refine lv_topi (fun z_1 ez_1 => ?_)
  obtain rfl : z_1 = 0 := ez_1.trans (by decide)
  refine lv_istore_n (lv' := [(2, .int 0), (0, .ref xdy), (1, .ref b)]) hx hb dX5_refresh_8 rfl hl (by decide) rfl (fun ls hl => ?_)
  refine lv_iload_n hx hb dX5_refresh_9 rfl (lv_at hl 0 rfl) ?_
  refine lv_aload_n hx hb dX5_refresh_10 rfl (lv_at hl 2 rfl) ?_
  refine va_get (D := (dC, dI)) (ci := 0) (v := .ref bno) (C := RX0) (T := TX0) (N := 12) hx hb htw inlX0 hown hK hP 1 rfl rfl 11 (by decide) (htw _ (ck_54 _ (List.mem_of_getElem? (i := 13) rfl))) (fun _ h9 => h9) rfl dX5_refresh_11 ?_
  refine va_get (D := (dC, dI)) (ci := 6) (v := .int 0) (C := RX6) (T := TX6) (N := 4) hx hb htw inlX6 hown hK hP 2 rfl rfl 0 (by decide) (htw _ (ck_54 _ (List.mem_of_getElem? (i := 14) rfl))) (fun _ h9 => h9) rfl dX5_refresh_14 ?_
  refine lv_icmp_ge (tgt := 45) hx hb dX5_refresh_17 (by decide) (fun _ => ?_) (fun c => absurd c (by decide))
  exact W.vret hx hb hr (fun t ht hW => ⟨rfl, trivial, ht⟩) (fun _ h => by cases h) dX5_refresh_45

theorem dX5_layOut_0 : decode cX5_layOut 0 = .ok (.iconst 0, 1) := by decide +kernel
theorem dX5_layOut_1 : decode cX5_layOut 1 = .ok (.istore_n 3, 1) := by decide +kernel
theorem dX5_layOut_2 : decode cX5_layOut 2 = .ok (.iconst 0, 1) := by decide +kernel
theorem dX5_layOut_3 : decode cX5_layOut 3 = .ok (.istore 4, 2) := by decide +kernel
theorem dX5_layOut_5 : decode cX5_layOut 5 = .ok (.iload 4, 2) := by decide +kernel
theorem dX5_layOut_7 : decode cX5_layOut 7 = .ok (.aload_n 1, 1) := by decide +kernel
theorem dX5_layOut_8 : decode cX5_layOut 8 = .ok (.getfield 56, 3) := by decide +kernel
theorem dX5_layOut_11 : decode cX5_layOut 11 = .ok (.if_icmp .ge 120, 3) := by decide +kernel
theorem dX5_layOut_131 : decode cX5_layOut 131 = .ok (.iload_n 3, 1) := by decide +kernel
theorem dX5_layOut_132 : decode cX5_layOut 132 = .ok (.ireturn, 1) := by decide +kernel
set_option maxHeartbeats 4000000 in
set_option maxRecDepth 100000 in
theorem mt_layOut (l : Launch) (dC : Nat → ClassId) (dI : Nat → Nat → Nat) (xdy : Nat) (bno : Nat) (dro : Nat) (dsh : Nat) (dto : Nat) (dmo : Nat) (dwi : Nat) (bnos : Nat) (bnof : Nat) (bnoz : Nat) : Met l yX5_layOut (Cond.code yX5_layOut cX5_layOut 6 (some .int) :: wsL_law) ({ frames := 0, cells := 0, slots := 0, locals := 0 }) (va_Pc [.ref xdy, .ref bno, .int 0] (fun U => va_P (dC, dI) vwCl [(xdy, .inr (5, [.ref dro, .int 0, .ref dsh, .ref dto, .ref dmo, .ref dwi])), (bno, .inr (6, [.int 0, .ref bnos, .ref bnof, .ref bnoz]))] U.heap ∧ va_K (dC, dI) vwCl [] U)) (vp_Si (fun r => r = 0)) 0 0 (fun _ => False) := by
  refine Met.ofW (cc := cX5_layOut) (maxL := 6) (ret := (some .int)) (by decide) rfl ?_
  intro p e s m args below meth c s₁ B hml hv
  obtain ⟨rfl, hP, hK⟩ := hv
  have hx := B.exec
  have hb := B.bytes
  have hr := B.returns
  have hts := atoms_spec (ws := Cond.code yX5_layOut cX5_layOut 6 (some .int) :: wsL_law) B.pre
  have htw : ∀ w ∈ wsL_law, w.before _ s = true := fun w h => hts w (List.mem_cons_of_mem _ h)
  have hown : s.vm.findClass RX5 = some m.cls := findClass_of_methodNamed B.named
  have hlocks := B.notSynchronized
  have hl := lv_entry ([.ref xdy, .ref bno, .int 0]) (n := 6) (Nat.le_of_ble_eq_true rfl)
  rw [lg_entry_eq]
  generalize (lg_sl ([.ref xdy, .ref bno, .int 0]) ++ List.replicate (6 - (lg_sl ([.ref xdy, .ref bno, .int 0])).length) Slot.unset).toArray = ls at hl ⊢
  have hl : lv_has ls 6 [(0, .ref xdy), (1, .ref bno), (2, .int 0)] := hl
  refine lv_iconst (v := 0) hx hb dX5_layOut_0 (by decide) ?_
  refine lv_istore_n (lv' := [(3, .int 0), (0, .ref xdy), (1, .ref bno), (2, .int 0)]) hx hb dX5_layOut_1 rfl hl (by decide) rfl (fun ls hl => ?_)
  refine lv_iconst (v := 0) hx hb dX5_layOut_2 (by decide) ?_
  refine lv_istore (lv' := [(4, .int 0), (3, .int 0), (0, .ref xdy), (1, .ref bno), (2, .int 0)]) hx hb dX5_layOut_3 hl (by decide) rfl (fun ls hl => ?_)
  refine lv_iload hx hb dX5_layOut_5 (lv_at hl 0 rfl) ?_
  refine lv_aload_n hx hb dX5_layOut_7 rfl (lv_at hl 3 rfl) ?_
  refine va_get (D := (dC, dI)) (ci := 6) (v := .int 0) (C := RX6) (T := TX6) (N := 4) hx hb htw inlX6 hown hK hP 1 rfl rfl 0 (by decide) (htw _ (ck_54 _ (List.mem_of_getElem? (i := 14) rfl))) (fun _ h9 => h9) rfl dX5_layOut_8 ?_
  refine lv_icmp_ge (tgt := 131) hx hb dX5_layOut_11 (by decide) (fun _ => ?_) (fun c => absurd c (by decide))
  refine lv_iload_n hx hb dX5_layOut_131 rfl (lv_at hl 1 rfl) ?_
  exact W.iret (v := 0) hx hb hr (fun t ht hW => ⟨0, rfl, rfl, ht⟩) (fun _ h => by cases h) dX5_layOut_132

theorem dX5_allHold_0 : decode cX5_allHold 0 = .ok (.iconst 0, 1) := by decide +kernel
theorem dX5_allHold_1 : decode cX5_allHold 1 = .ok (.istore_n 2, 1) := by decide +kernel
theorem dX5_allHold_2 : decode cX5_allHold 2 = .ok (.iload_n 2, 1) := by decide +kernel
theorem dX5_allHold_3 : decode cX5_allHold 3 = .ok (.iload_n 1, 1) := by decide +kernel
theorem dX5_allHold_4 : decode cX5_allHold 4 = .ok (.if_icmp .ge 40, 3) := by decide +kernel
theorem dX5_allHold_44 : decode cX5_allHold 44 = .ok (.iconst 1, 1) := by decide +kernel
theorem dX5_allHold_45 : decode cX5_allHold 45 = .ok (.ireturn, 1) := by decide +kernel
set_option maxHeartbeats 4000000 in
set_option maxRecDepth 100000 in
theorem mt_allHold (l : Launch) (dC : Nat → ClassId) (dI : Nat → Nat → Nat) (xdy : Nat) (dro : Nat) (dsh : Nat) (dto : Nat) (dmo : Nat) (dwi : Nat) : Met l yX5_allHold (Cond.code yX5_allHold cX5_allHold 3 (some .boolean) :: wsL_law) ({ frames := 0, cells := 0, slots := 0, locals := 0 }) (va_Pc [.ref xdy, .int 0] (fun U => va_P (dC, dI) vwCl [(xdy, .inr (5, [.ref dro, .int 0, .ref dsh, .ref dto, .ref dmo, .ref dwi]))] U.heap ∧ va_K (dC, dI) vwCl [] U)) (vp_Si (fun r => r = 1)) 0 0 (fun _ => False) := by
  refine Met.ofW (cc := cX5_allHold) (maxL := 3) (ret := (some .boolean)) (by decide) rfl ?_
  intro p e s m args below meth c s₁ B hml hv
  obtain ⟨rfl, hP, hK⟩ := hv
  have hx := B.exec
  have hb := B.bytes
  have hr := B.returns
  have hts := atoms_spec (ws := Cond.code yX5_allHold cX5_allHold 3 (some .boolean) :: wsL_law) B.pre
  have htw : ∀ w ∈ wsL_law, w.before _ s = true := fun w h => hts w (List.mem_cons_of_mem _ h)
  have hown : s.vm.findClass RX5 = some m.cls := findClass_of_methodNamed B.named
  have hlocks := B.notSynchronized
  have hl := lv_entry ([.ref xdy, .int 0]) (n := 3) (Nat.le_of_ble_eq_true rfl)
  rw [lg_entry_eq]
  generalize (lg_sl ([.ref xdy, .int 0]) ++ List.replicate (3 - (lg_sl ([.ref xdy, .int 0])).length) Slot.unset).toArray = ls at hl ⊢
  have hl : lv_has ls 3 [(0, .ref xdy), (1, .int 0)] := hl
  refine lv_iconst (v := 0) hx hb dX5_allHold_0 (by decide) ?_
  refine lv_istore_n (lv' := [(2, .int 0), (0, .ref xdy), (1, .int 0)]) hx hb dX5_allHold_1 rfl hl (by decide) rfl (fun ls hl => ?_)
  refine lv_iload_n hx hb dX5_allHold_2 rfl (lv_at hl 0 rfl) ?_
  refine lv_iload_n hx hb dX5_allHold_3 rfl (lv_at hl 2 rfl) ?_
  refine lv_icmp_ge (tgt := 44) hx hb dX5_allHold_4 (by decide) (fun _ => ?_) (fun c => absurd c (by decide))
  refine lv_iconst (v := 1) hx hb dX5_allHold_44 (by decide) ?_
  exact W.zret (v := 1) hx hb hr (by first | rfl | decide) (fun t ht hW => ⟨1, rfl, rfl, ht⟩) (fun _ h => by cases h) dX5_allHold_45

theorem dX5_leastGap_0 : decode cX5_leastGap 0 = .ok (.iconst 1, 1) := by decide +kernel
theorem dX5_leastGap_1 : decode cX5_leastGap 1 = .ok (.aload_n 1, 1) := by decide +kernel
theorem dX5_leastGap_2 : decode cX5_leastGap 2 = .ok (.getfield 56, 3) := by decide +kernel
theorem dX5_leastGap_5 : decode cX5_leastGap 5 = .ok (.ishl, 1) := by decide +kernel
theorem dX5_leastGap_6 : decode cX5_leastGap 6 = .ok (.iconst 1, 1) := by decide +kernel
theorem dX5_leastGap_7 : decode cX5_leastGap 7 = .ok (.isub, 1) := by decide +kernel
theorem dX5_leastGap_8 : decode cX5_leastGap 8 = .ok (.istore_n 2, 1) := by decide +kernel
theorem dX5_leastGap_9 : decode cX5_leastGap 9 = .ok (.aload_n 0, 1) := by decide +kernel
theorem dX5_leastGap_10 : decode cX5_leastGap 10 = .ok (.aload_n 1, 1) := by decide +kernel
theorem dX5_leastGap_11 : decode cX5_leastGap 11 = .ok (.iload_n 2, 1) := by decide +kernel
theorem dX5_leastGap_12 : decode cX5_leastGap 12 = .ok (.invokevirtual 129, 3) := by decide +kernel
theorem dX5_leastGap_15 : decode cX5_leastGap 15 = .ok (.pop, 1) := by decide +kernel
theorem dX5_leastGap_16 : decode cX5_leastGap 16 = .ok (.aload_n 0, 1) := by decide +kernel
theorem dX5_leastGap_17 : decode cX5_leastGap 17 = .ok (.aload_n 1, 1) := by decide +kernel
theorem dX5_leastGap_18 : decode cX5_leastGap 18 = .ok (.getfield 56, 3) := by decide +kernel
theorem dX5_leastGap_21 : decode cX5_leastGap 21 = .ok (.invokevirtual 137, 3) := by decide +kernel
theorem dX5_leastGap_24 : decode cX5_leastGap 24 = .ok (.ifCond .eq 5, 3) := by decide +kernel
theorem dX5_leastGap_27 : decode cX5_leastGap 27 = .ok (.iconst 0, 1) := by decide +kernel
theorem dX5_leastGap_28 : decode cX5_leastGap 28 = .ok (.ireturn, 1) := by decide +kernel
set_option maxHeartbeats 4000000 in
set_option maxRecDepth 100000 in
theorem mt_leastGap (l : Launch) (dC : Nat → ClassId) (dI : Nat → Nat → Nat) (xdy : Nat) (bno : Nat) (dro : Nat) (dsh : Nat) (dto : Nat) (dmo : Nat) (dwi : Nat) (bnos : Nat) (bnof : Nat) (bnoz : Nat) : Met l yX5_leastGap (Cond.code yX5_leastGap cX5_leastGap 5 (some .int) :: wsL_law) ({ frames := 1, cells := 0, slots := 0, locals := 25 }) (va_Pc [.ref xdy, .ref bno] (fun U => va_P (dC, dI) vwCl [(xdy, .inr (5, [.ref dro, .int 0, .ref dsh, .ref dto, .ref dmo, .ref dwi])), (bno, .inr (6, [.int 0, .ref bnos, .ref bnof, .ref bnoz]))] U.heap ∧ va_K (dC, dI) vwCl [] U)) (vp_Si (fun r => r = 0)) 0 0 (fun _ => False) := by
  refine Met.ofW (cc := cX5_leastGap) (maxL := 5) (ret := (some .int)) (by decide) rfl ?_
  intro p e s m args below meth c s₁ B hml hv
  obtain ⟨rfl, hP, hK⟩ := hv
  have hx := B.exec
  have hb := B.bytes
  have hr := B.returns
  have hts := atoms_spec (ws := Cond.code yX5_leastGap cX5_leastGap 5 (some .int) :: wsL_law) B.pre
  have htw : ∀ w ∈ wsL_law, w.before _ s = true := fun w h => hts w (List.mem_cons_of_mem _ h)
  have hown : s.vm.findClass RX5 = some m.cls := findClass_of_methodNamed B.named
  have hlocks := B.notSynchronized
  have hl := lv_entry ([.ref xdy, .ref bno]) (n := 5) (Nat.le_of_ble_eq_true rfl)
  rw [lg_entry_eq]
  generalize (lg_sl ([.ref xdy, .ref bno]) ++ List.replicate (5 - (lg_sl ([.ref xdy, .ref bno])).length) Slot.unset).toArray = ls at hl ⊢
  have hl : lv_has ls 5 [(0, .ref xdy), (1, .ref bno)] := hl
  refine lv_iconst (v := 1) hx hb dX5_leastGap_0 (by decide) ?_
  refine lv_aload_n hx hb dX5_leastGap_1 rfl (lv_at hl 1 rfl) ?_
  refine va_get (D := (dC, dI)) (ci := 6) (v := .int 0) (C := RX6) (T := TX6) (N := 4) hx hb htw inlX6 hown hK hP 1 rfl rfl 0 (by decide) (htw _ (ck_54 _ (List.mem_of_getElem? (i := 14) rfl))) (fun _ h9 => h9) rfl dX5_leastGap_2 ?_
  refine lv_ishl hx hb dX5_leastGap_5 ?_
  refine lv_topi (fun z_1 ez_1 => ?_)
  obtain rfl : z_1 = 1 := ez_1.trans (by decide)
  refine lv_iconst (v := 1) hx hb dX5_leastGap_6 (by decide) ?_
  refine lv_isub hx hb dX5_leastGap_7 ?_
  refine lv_topi (fun z_2 ez_2 => ?_)
  obtain rfl : z_2 = 0 := ez_2.trans (by decide)
  refine lv_istore_n (lv' := [(2, .int 0), (0, .ref xdy), (1, .ref bno)]) hx hb dX5_leastGap_8 rfl hl (by decide) rfl (fun ls hl => ?_)
  refine lv_aload_n hx hb dX5_leastGap_9 rfl (lv_at hl 1 rfl) ?_
  refine lv_aload_n hx hb dX5_leastGap_10 rfl (lv_at hl 2 rfl) ?_
  refine lv_iload_n hx hb dX5_leastGap_11 rfl (lv_at hl 0 rfl) ?_
  have hPc := hP.sub (ws' := [(xdy, .inr (5, [.ref dro, .int 0, .ref dsh, .ref dto, .ref dmo, .ref dwi])), (bno, .inr (6, [.int 0, .ref bnos, .ref bnof, .ref bnoz]))]) [0, 1] rfl
  have hKc := hK.sub (tys' := []) [] rfl
  refine vp_callSi (W.runV (As := [.ref bno, .int 0]) (rest := []) ⟨hx, hb, hml, hown, htw⟩ (mt_layOut l dC dI xdy bno dro dsh dto dmo dwi bnos bnof bnoz) (cwV 2 htw (xg_V (ck_57 _ (List.mem_of_getElem? (i := 11) rfl)) (ck_57 _ (List.mem_of_getElem? (i := 12) rfl)) (ck_57 _ (List.mem_of_getElem? (i := 13) rfl)) (ck_2 _ (List.mem_of_getElem? (i := 1) rfl)) (ck_57 _ (List.mem_of_getElem? (i := 14) rfl))) rfl rfl rfl (by decide +kernel) ⟨Nat.le_of_ble_eq_true rfl, Nat.le_of_ble_eq_true rfl⟩) ⟨fun a U g mk q => by obtain ⟨q0, qP, qK⟩ := q; exact ⟨q0, qP, va_K.moved (u := U) (U := U.calling g mk a) (Vm.Alike.refl U.vm) qK⟩, va_recv hKc hPc (ci := 5) (q0 := 0) rfl rfl, fun U hU hW => ⟨rfl, by rw [hU]; exact hPc, va_K.moved hW.alike hKc⟩⟩ rfl rfl hl.1 rfl (lv_room (Nat.le_of_ble_eq_true rfl)) dX5_leastGap_12 ⟨Nat.le_of_ble_eq_true rfl, Nat.le_of_ble_eq_true rfl⟩) (fun r_3 hw => ?_)
  try dsimp only at hw
  obtain rfl : r_3 = 0 := hw
  refine lv_pop hx hb dX5_leastGap_15 rfl ?_
  refine lv_aload_n hx hb dX5_leastGap_16 rfl (lv_at hl 1 rfl) ?_
  refine lv_aload_n hx hb dX5_leastGap_17 rfl (lv_at hl 2 rfl) ?_
  refine va_get (D := (dC, dI)) (ci := 6) (v := .int 0) (C := RX6) (T := TX6) (N := 4) hx hb htw inlX6 hown hK hP 1 rfl rfl 0 (by decide) (htw _ (ck_54 _ (List.mem_of_getElem? (i := 14) rfl))) (fun _ h9 => h9) rfl dX5_leastGap_18 ?_
  have hPc := hP.sub (ws' := [(xdy, .inr (5, [.ref dro, .int 0, .ref dsh, .ref dto, .ref dmo, .ref dwi]))]) [0] rfl
  have hKc := hK.sub (tys' := []) [] rfl
  refine vp_callSi (W.runV (As := [.int 0]) (rest := []) ⟨hx, hb, hml, hown, htw⟩ (mt_allHold l dC dI xdy dro dsh dto dmo dwi) (cwV 1 htw (xg_V (ck_60 _ (List.mem_of_getElem? (i := 7) rfl)) (ck_60 _ (List.mem_of_getElem? (i := 8) rfl)) (ck_60 _ (List.mem_of_getElem? (i := 9) rfl)) (ck_2 _ (List.mem_of_getElem? (i := 1) rfl)) (ck_60 _ (List.mem_of_getElem? (i := 10) rfl))) rfl rfl rfl (by decide +kernel) ⟨Nat.le_of_ble_eq_true rfl, Nat.le_of_ble_eq_true rfl⟩) ⟨fun a U g mk q => by obtain ⟨q0, qP, qK⟩ := q; exact ⟨q0, qP, va_K.moved (u := U) (U := U.calling g mk a) (Vm.Alike.refl U.vm) qK⟩, va_recv hKc hPc (ci := 5) (q0 := 0) rfl rfl, fun U hU hW => ⟨rfl, by rw [hU]; exact hPc, va_K.moved hW.alike hKc⟩⟩ rfl rfl hl.1 rfl (lv_room (Nat.le_of_ble_eq_true rfl)) dX5_leastGap_21 ⟨Nat.le_of_ble_eq_true rfl, Nat.le_of_ble_eq_true rfl⟩) (fun r_4 hw => ?_)
  try dsimp only at hw
  obtain rfl : r_4 = 1 := hw
  refine lv_if_eq (tgt := 29) hx hb dX5_leastGap_24 (by decide) (fun c => absurd c (by decide)) (fun _ => ?_)
  refine lv_iconst (v := 0) hx hb dX5_leastGap_27 (by decide) ?_
  exact W.iret (v := 0) hx hb hr (fun t ht hW => ⟨0, rfl, rfl, ht⟩) (fun _ h => by cases h) dX5_leastGap_28

theorem dX11_gap_0 : decode cX11_gap 0 = .ok (.aload_n 0, 1) := by decide +kernel
theorem dX11_gap_1 : decode cX11_gap 1 = .ok (.getfield 29, 3) := by decide +kernel
theorem dX11_gap_4 : decode cX11_gap 4 = .ok (.aload_n 0, 1) := by decide +kernel
theorem dX11_gap_5 : decode cX11_gap 5 = .ok (.getfield 19, 3) := by decide +kernel
theorem dX11_gap_8 : decode cX11_gap 8 = .ok (.invokevirtual 318, 3) := by decide +kernel
theorem dX11_gap_11 : decode cX11_gap 11 = .ok (.aload_n 0, 1) := by decide +kernel
theorem dX11_gap_12 : decode cX11_gap 12 = .ok (.getfield 29, 3) := by decide +kernel
theorem dX11_gap_15 : decode cX11_gap 15 = .ok (.aload_n 0, 1) := by decide +kernel
theorem dX11_gap_16 : decode cX11_gap 16 = .ok (.getfield 19, 3) := by decide +kernel
theorem dX11_gap_19 : decode cX11_gap 19 = .ok (.getfield 290, 3) := by decide +kernel
theorem dX11_gap_22 : decode cX11_gap 22 = .ok (.invokevirtual 329, 3) := by decide +kernel
theorem dX11_gap_25 : decode cX11_gap 25 = .ok (.ireturn, 1) := by decide +kernel
set_option maxHeartbeats 4000000 in
set_option maxRecDepth 100000 in
theorem mx_gap (l : Launch) (dC : Nat → ClassId) (dI : Nat → Nat → Nat) (x : Nat) (xpa : Nat) (xsp : Nat) (xdy : Nat) (xle : Nat) (xst : Nat) (xim : Nat) (xil : Nat) (xmo : Nat) (xom : Nat) (xwi : Nat) (b : Nat) (bto : Nat) (bnm : Nat) (bla : Nat) (bsk : Nat) (bru : Nat) (bbo : Nat) (bdi : Nat) (bda : Nat) (bdk : Nat) (bdt : Nat) (bdp : Nat) (bno : Nat) (bnos : Nat) (bnof : Nat) (bnoz : Nat) (dro : Nat) (dsh : Nat) (dto : Nat) (dmo : Nat) (dwi : Nat) (xlen : Nat) (xlec : Nat) : Met l yX11_gap (Cond.code yX11_gap cX11_gap 1 (some .int) :: wsL_law) ({ frames := 2, cells := 0, slots := 0, locals := 49 }) (va_Pc [.ref x] (fun U => va_P (dC, dI) vwCl [(x, .inr (11, [.ref xpa, .ref b, .ref xsp, .ref xdy, .ref xle, .ref xst, .int 0, .ref xim, .ref xil, .int 0, .ref xmo, .ref xom, .ref xwi])), (b, .inr (0, [.ref bto, .ref bnm, .ref bla, .ref bsk, .ref bru, .ref bbo, .ref bdi, .ref bda, .ref bdk, .ref bdt, .ref bdp, .ref bno])), (bno, .inr (6, [.int 0, .ref bnos, .ref bnof, .ref bnoz])), (xdy, .inr (5, [.ref dro, .int 0, .ref dsh, .ref dto, .ref dmo, .ref dwi])), (xle, .inr (2, [.int 0, .ref xlen, .ref xlec]))] U.heap ∧ va_K (dC, dI) vwCl [] U)) (vp_Si (fun r => r = 0)) 0 0 (fun _ => False) := by
  refine Met.ofW (cc := cX11_gap) (maxL := 1) (ret := (some .int)) (by decide) rfl ?_
  intro p e s m args below meth c s₁ B hml hv
  obtain ⟨rfl, hP, hK⟩ := hv
  have hx := B.exec
  have hb := B.bytes
  have hr := B.returns
  have hts := atoms_spec (ws := Cond.code yX11_gap cX11_gap 1 (some .int) :: wsL_law) B.pre
  have htw : ∀ w ∈ wsL_law, w.before _ s = true := fun w h => hts w (List.mem_cons_of_mem _ h)
  have hown : s.vm.findClass RX11 = some m.cls := findClass_of_methodNamed B.named
  have hlocks := B.notSynchronized
  have hl := lv_entry ([.ref x]) (n := 1) (Nat.le_of_ble_eq_true rfl)
  rw [lg_entry_eq]
  generalize (lg_sl ([.ref x]) ++ List.replicate (1 - (lg_sl ([.ref x])).length) Slot.unset).toArray = ls at hl ⊢
  have hl : lv_has ls 1 [(0, .ref x)] := hl
  refine lv_aload_n hx hb dX11_gap_0 rfl (lv_at hl 0 rfl) ?_
  refine va_get (D := (dC, dI)) (ci := 11) (v := .ref xdy) (C := RX11) (T := TX11) (N := 13) hx hb htw inlX11 hown hK hP 0 rfl rfl 3 (by decide) (htw _ (ck_2 _ (List.mem_of_getElem? (i := 2) rfl))) (fun _ h9 => h9) rfl dX11_gap_1 ?_
  refine lv_aload_n hx hb dX11_gap_4 rfl (lv_at hl 0 rfl) ?_
  refine va_get (D := (dC, dI)) (ci := 11) (v := .ref b) (C := RX11) (T := TX11) (N := 13) hx hb htw inlX11 hown hK hP 0 rfl rfl 1 (by decide) (htw _ (ck_1 _ (List.mem_of_getElem? (i := 21) rfl))) (fun _ h9 => h9) rfl dX11_gap_5 ?_
  have hPc := hP.sub (ws' := [(xdy, .inr (5, [.ref dro, .int 0, .ref dsh, .ref dto, .ref dmo, .ref dwi])), (b, .inr (0, [.ref bto, .ref bnm, .ref bla, .ref bsk, .ref bru, .ref bbo, .ref bdi, .ref bda, .ref bdk, .ref bdt, .ref bdp, .ref bno])), (bno, .inr (6, [.int 0, .ref bnos, .ref bnof, .ref bnoz]))]) [3, 1, 2] rfl
  have hKc := hK.sub (tys' := []) [] rfl
  refine va_csv (W.runV (As := [.ref b]) (rest := []) ⟨hx, hb, hml, hown, htw⟩ (mt_refresh l dC dI xdy dro dsh dto dmo dwi b bto bnm bla bsk bru bbo bdi bda bdk bdt bdp bno bnos bnof bnoz) (cwV 1 htw (xg_V (ck_54 _ (List.mem_of_getElem? (i := 6) rfl)) (ck_54 _ (List.mem_of_getElem? (i := 7) rfl)) (ck_54 _ (List.mem_of_getElem? (i := 8) rfl)) (ck_2 _ (List.mem_of_getElem? (i := 1) rfl)) (ck_54 _ (List.mem_of_getElem? (i := 9) rfl))) rfl rfl rfl (by decide +kernel) ⟨Nat.le_of_ble_eq_true rfl, Nat.le_of_ble_eq_true rfl⟩) ⟨fun a U g mk q => by obtain ⟨q0, qP, qK⟩ := q; exact ⟨q0, qP, va_K.moved (u := U) (U := U.calling g mk a) (Vm.Alike.refl U.vm) qK⟩, va_recv hKc hPc (ci := 5) (q0 := 0) rfl rfl, fun U hU hW => ⟨rfl, by rw [hU]; exact hPc, va_K.moved hW.alike hKc⟩⟩ rfl rfl hl.1 rfl (lv_room (Nat.le_of_ble_eq_true rfl)) dX11_gap_8 ⟨Nat.le_of_ble_eq_true rfl, Nat.le_of_ble_eq_true rfl⟩) (fun hw => ?_)
  try dsimp only at hw
  refine lv_aload_n hx hb dX11_gap_11 rfl (lv_at hl 0 rfl) ?_
  refine va_get (D := (dC, dI)) (ci := 11) (v := .ref xdy) (C := RX11) (T := TX11) (N := 13) hx hb htw inlX11 hown hK hP 0 rfl rfl 3 (by decide) (htw _ (ck_2 _ (List.mem_of_getElem? (i := 2) rfl))) (fun _ h9 => h9) rfl dX11_gap_12 ?_
  refine lv_aload_n hx hb dX11_gap_15 rfl (lv_at hl 0 rfl) ?_
  refine va_get (D := (dC, dI)) (ci := 11) (v := .ref b) (C := RX11) (T := TX11) (N := 13) hx hb htw inlX11 hown hK hP 0 rfl rfl 1 (by decide) (htw _ (ck_1 _ (List.mem_of_getElem? (i := 21) rfl))) (fun _ h9 => h9) rfl dX11_gap_16 ?_
  refine va_get (D := (dC, dI)) (ci := 0) (v := .ref bno) (C := RX0) (T := TX0) (N := 12) hx hb htw inlX0 hown hK hP 1 rfl rfl 11 (by decide) (htw _ (ck_52 _ (List.mem_of_getElem? (i := 11) rfl))) (fun _ h9 => h9) rfl dX11_gap_19 ?_
  have hPc := hP.sub (ws' := [(xdy, .inr (5, [.ref dro, .int 0, .ref dsh, .ref dto, .ref dmo, .ref dwi])), (bno, .inr (6, [.int 0, .ref bnos, .ref bnof, .ref bnoz]))]) [3, 2] rfl
  have hKc := hK.sub (tys' := []) [] rfl
  refine vp_callSi (W.runV (As := [.ref bno]) (rest := []) ⟨hx, hb, hml, hown, htw⟩ (mt_leastGap l dC dI xdy bno dro dsh dto dmo dwi bnos bnof bnoz) (cwV 1 htw (xg_V (ck_61 _ (List.mem_of_getElem? (i := 23) rfl)) (ck_62 _ (List.mem_of_getElem? (i := 0) rfl)) (ck_62 _ (List.mem_of_getElem? (i := 1) rfl)) (ck_2 _ (List.mem_of_getElem? (i := 1) rfl)) (ck_62 _ (List.mem_of_getElem? (i := 2) rfl))) rfl rfl rfl (by decide +kernel) ⟨Nat.le_of_ble_eq_true rfl, Nat.le_of_ble_eq_true rfl⟩) ⟨fun a U g mk q => by obtain ⟨q0, qP, qK⟩ := q; exact ⟨q0, qP, va_K.moved (u := U) (U := U.calling g mk a) (Vm.Alike.refl U.vm) qK⟩, va_recv hKc hPc (ci := 5) (q0 := 0) rfl rfl, fun U hU hW => ⟨rfl, by rw [hU]; exact hPc, va_K.moved hW.alike hKc⟩⟩ rfl rfl hl.1 rfl (lv_room (Nat.le_of_ble_eq_true rfl)) dX11_gap_22 ⟨Nat.le_of_ble_eq_true rfl, Nat.le_of_ble_eq_true rfl⟩) (fun r_2 hw => ?_)
  try dsimp only at hw
  obtain rfl : r_2 = 0 := hw
  exact W.iret (v := 0) hx hb hr (fun t ht hW => ⟨0, rfl, rfl, ht⟩) (fun _ h => by cases h) dX11_gap_25

theorem dX11_judged_0 : decode cX11_judged 0 = .ok (.aload_n 0, 1) := by decide +kernel
theorem dX11_judged_1 : decode cX11_judged 1 = .ok (.getfield 29, 3) := by decide +kernel
theorem dX11_judged_4 : decode cX11_judged 4 = .ok (.aload_n 0, 1) := by decide +kernel
theorem dX11_judged_5 : decode cX11_judged 5 = .ok (.getfield 19, 3) := by decide +kernel
theorem dX11_judged_8 : decode cX11_judged 8 = .ok (.invokevirtual 318, 3) := by decide +kernel
theorem dX11_judged_11 : decode cX11_judged 11 = .ok (.iconst 0, 1) := by decide +kernel
theorem dX11_judged_12 : decode cX11_judged 12 = .ok (.istore_n 1, 1) := by decide +kernel
theorem dX11_judged_13 : decode cX11_judged 13 = .ok (.iload_n 1, 1) := by decide +kernel
theorem dX11_judged_14 : decode cX11_judged 14 = .ok (.aload_n 0, 1) := by decide +kernel
theorem dX11_judged_15 : decode cX11_judged 15 = .ok (.getfield 36, 3) := by decide +kernel
theorem dX11_judged_18 : decode cX11_judged 18 = .ok (.getfield 95, 3) := by decide +kernel
theorem dX11_judged_21 : decode cX11_judged 21 = .ok (.if_icmp .ge 19, 3) := by decide +kernel
theorem dX11_judged_40 : decode cX11_judged 40 = .ok (.aload_n 0, 1) := by decide +kernel
theorem dX11_judged_41 : decode cX11_judged 41 = .ok (.getfield 36, 3) := by decide +kernel
theorem dX11_judged_44 : decode cX11_judged 44 = .ok (.getfield 95, 3) := by decide +kernel
theorem dX11_judged_47 : decode cX11_judged 47 = .ok (.ireturn, 1) := by decide +kernel
set_option maxHeartbeats 4000000 in
set_option maxRecDepth 100000 in
theorem mx_judged (l : Launch) (dC : Nat → ClassId) (dI : Nat → Nat → Nat) (x : Nat) (xpa : Nat) (xsp : Nat) (xdy : Nat) (xle : Nat) (xst : Nat) (xim : Nat) (xil : Nat) (xmo : Nat) (xom : Nat) (xwi : Nat) (b : Nat) (bto : Nat) (bnm : Nat) (bla : Nat) (bsk : Nat) (bru : Nat) (bbo : Nat) (bdi : Nat) (bda : Nat) (bdk : Nat) (bdt : Nat) (bdp : Nat) (bno : Nat) (bnos : Nat) (bnof : Nat) (bnoz : Nat) (dro : Nat) (dsh : Nat) (dto : Nat) (dmo : Nat) (dwi : Nat) (xlen : Nat) (xlec : Nat) : Met l yX11_judged (Cond.code yX11_judged cX11_judged 2 (some .int) :: wsL_law) ({ frames := 2, cells := 0, slots := 0, locals := 35 }) (va_Pc [.ref x] (fun U => va_P (dC, dI) vwCl [(x, .inr (11, [.ref xpa, .ref b, .ref xsp, .ref xdy, .ref xle, .ref xst, .int 0, .ref xim, .ref xil, .int 0, .ref xmo, .ref xom, .ref xwi])), (b, .inr (0, [.ref bto, .ref bnm, .ref bla, .ref bsk, .ref bru, .ref bbo, .ref bdi, .ref bda, .ref bdk, .ref bdt, .ref bdp, .ref bno])), (bno, .inr (6, [.int 0, .ref bnos, .ref bnof, .ref bnoz])), (xdy, .inr (5, [.ref dro, .int 0, .ref dsh, .ref dto, .ref dmo, .ref dwi])), (xle, .inr (2, [.int 0, .ref xlen, .ref xlec]))] U.heap ∧ va_K (dC, dI) vwCl [] U)) (vp_Si (fun r => r = 0)) 0 0 (fun _ => False) := by
  refine Met.ofW (cc := cX11_judged) (maxL := 2) (ret := (some .int)) (by decide) rfl ?_
  intro p e s m args below meth c s₁ B hml hv
  obtain ⟨rfl, hP, hK⟩ := hv
  have hx := B.exec
  have hb := B.bytes
  have hr := B.returns
  have hts := atoms_spec (ws := Cond.code yX11_judged cX11_judged 2 (some .int) :: wsL_law) B.pre
  have htw : ∀ w ∈ wsL_law, w.before _ s = true := fun w h => hts w (List.mem_cons_of_mem _ h)
  have hown : s.vm.findClass RX11 = some m.cls := findClass_of_methodNamed B.named
  have hlocks := B.notSynchronized
  have hl := lv_entry ([.ref x]) (n := 2) (Nat.le_of_ble_eq_true rfl)
  rw [lg_entry_eq]
  generalize (lg_sl ([.ref x]) ++ List.replicate (2 - (lg_sl ([.ref x])).length) Slot.unset).toArray = ls at hl ⊢
  have hl : lv_has ls 2 [(0, .ref x)] := hl
  refine lv_aload_n hx hb dX11_judged_0 rfl (lv_at hl 0 rfl) ?_
  refine va_get (D := (dC, dI)) (ci := 11) (v := .ref xdy) (C := RX11) (T := TX11) (N := 13) hx hb htw inlX11 hown hK hP 0 rfl rfl 3 (by decide) (htw _ (ck_2 _ (List.mem_of_getElem? (i := 2) rfl))) (fun _ h9 => h9) rfl dX11_judged_1 ?_
  refine lv_aload_n hx hb dX11_judged_4 rfl (lv_at hl 0 rfl) ?_
  refine va_get (D := (dC, dI)) (ci := 11) (v := .ref b) (C := RX11) (T := TX11) (N := 13) hx hb htw inlX11 hown hK hP 0 rfl rfl 1 (by decide) (htw _ (ck_1 _ (List.mem_of_getElem? (i := 21) rfl))) (fun _ h9 => h9) rfl dX11_judged_5 ?_
  have hPc := hP.sub (ws' := [(xdy, .inr (5, [.ref dro, .int 0, .ref dsh, .ref dto, .ref dmo, .ref dwi])), (b, .inr (0, [.ref bto, .ref bnm, .ref bla, .ref bsk, .ref bru, .ref bbo, .ref bdi, .ref bda, .ref bdk, .ref bdt, .ref bdp, .ref bno])), (bno, .inr (6, [.int 0, .ref bnos, .ref bnof, .ref bnoz]))]) [3, 1, 2] rfl
  have hKc := hK.sub (tys' := []) [] rfl
  refine va_csv (W.runV (As := [.ref b]) (rest := []) ⟨hx, hb, hml, hown, htw⟩ (mt_refresh l dC dI xdy dro dsh dto dmo dwi b bto bnm bla bsk bru bbo bdi bda bdk bdt bdp bno bnos bnof bnoz) (cwV 1 htw (xg_V (ck_54 _ (List.mem_of_getElem? (i := 6) rfl)) (ck_54 _ (List.mem_of_getElem? (i := 7) rfl)) (ck_54 _ (List.mem_of_getElem? (i := 8) rfl)) (ck_2 _ (List.mem_of_getElem? (i := 1) rfl)) (ck_54 _ (List.mem_of_getElem? (i := 9) rfl))) rfl rfl rfl (by decide +kernel) ⟨Nat.le_of_ble_eq_true rfl, Nat.le_of_ble_eq_true rfl⟩) ⟨fun a U g mk q => by obtain ⟨q0, qP, qK⟩ := q; exact ⟨q0, qP, va_K.moved (u := U) (U := U.calling g mk a) (Vm.Alike.refl U.vm) qK⟩, va_recv hKc hPc (ci := 5) (q0 := 0) rfl rfl, fun U hU hW => ⟨rfl, by rw [hU]; exact hPc, va_K.moved hW.alike hKc⟩⟩ rfl rfl hl.1 rfl (lv_room (Nat.le_of_ble_eq_true rfl)) dX11_judged_8 ⟨Nat.le_of_ble_eq_true rfl, Nat.le_of_ble_eq_true rfl⟩) (fun hw => ?_)
  try dsimp only at hw
  refine lv_iconst (v := 0) hx hb dX11_judged_11 (by decide) ?_
  refine lv_istore_n (lv' := [(1, .int 0), (0, .ref x)]) hx hb dX11_judged_12 rfl hl (by decide) rfl (fun ls hl => ?_)
  refine lv_iload_n hx hb dX11_judged_13 rfl (lv_at hl 0 rfl) ?_
  refine lv_aload_n hx hb dX11_judged_14 rfl (lv_at hl 1 rfl) ?_
  refine va_get (D := (dC, dI)) (ci := 11) (v := .ref xle) (C := RX11) (T := TX11) (N := 13) hx hb htw inlX11 hown hK hP 0 rfl rfl 4 (by decide) (htw _ (ck_2 _ (List.mem_of_getElem? (i := 6) rfl))) (fun _ h9 => h9) rfl dX11_judged_15 ?_
  refine va_get (D := (dC, dI)) (ci := 2) (v := .int 0) (C := RX2) (T := TX2) (N := 3) hx hb htw inlX2 hown hK hP 4 rfl rfl 0 (by decide) (htw _ (ck_12 _ (List.mem_of_getElem? (i := 23) rfl))) (fun _ h9 => h9) rfl dX11_judged_18 ?_
  refine lv_icmp_ge (tgt := 40) hx hb dX11_judged_21 (by decide) (fun _ => ?_) (fun c => absurd c (by decide))
  refine lv_aload_n hx hb dX11_judged_40 rfl (lv_at hl 1 rfl) ?_
  refine va_get (D := (dC, dI)) (ci := 11) (v := .ref xle) (C := RX11) (T := TX11) (N := 13) hx hb htw inlX11 hown hK hP 0 rfl rfl 4 (by decide) (htw _ (ck_2 _ (List.mem_of_getElem? (i := 6) rfl))) (fun _ h9 => h9) rfl dX11_judged_41 ?_
  refine va_get (D := (dC, dI)) (ci := 2) (v := .int 0) (C := RX2) (T := TX2) (N := 3) hx hb htw inlX2 hown hK hP 4 rfl rfl 0 (by decide) (htw _ (ck_12 _ (List.mem_of_getElem? (i := 23) rfl))) (fun _ h9 => h9) rfl dX11_judged_44 ?_
  exact W.iret (v := 0) hx hb hr (fun t ht hW => ⟨0, rfl, rfl, ht⟩) (fun _ h => by cases h) dX11_judged_47
