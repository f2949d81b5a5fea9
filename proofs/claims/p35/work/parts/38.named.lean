def fb_findN (a0 : Int32) : Int32 := (if a0 < 0 then (-1 : Int32) else (-1 : Int32))
theorem gb_findN_s0 {y0 : Int32} (h0 : ¬ (y0 < 0)) (h1 : ¬ (y0 = 0)) (h2 : ¬ (y0 = 1)) (h3 : ¬ (y0 = 2)) (h4 : ¬ (y0 = 3)) (h5 : ¬ (y0 = 4)) : ¬ (y0 < 5) := by lia
theorem dX0_find_9 : decode cX0_find 9 = .ok (.iconst (-1), 1) := zk_2 (by decide +kernel)
theorem dX0_find_10 : decode cX0_find 10 = .ok (.ireturn, 1) := zk_172 (by decide +kernel)
set_option maxHeartbeats 4000000 in
set_option maxRecDepth 100000 in
theorem gb_findN (l : Launch) (dC : Nat → ClassId) (dI : Nat → Nat → Nat) (a0 : Int32) (a1 : Int32) (bk : Nat) (hk0 : ¬ a0 = 0) (hk1 : ¬ a0 = 1) (hk2 : ¬ a0 = 2) (hk3 : ¬ a0 = 3) (hk4 : ¬ a0 = 4) : Met l yX0_find (Cond.code yX0_find cX0_find 4 (some .int) :: wsL_law) ({ frames := 0, cells := 0, slots := 0, locals := 0 }) (va_Pc [.ref bk, .int a0, .int a1] (fun U => va_P (dC, dI) vwCl [] U.heap ∧ va_K (dC, dI) vwCl [] U)) (vp_Si (fun r => r = fb_findN a0)) 0 0 (fun _ => False) := by
  refine Met.ofW (cc := cX0_find) (maxL := 4) (ret := (some .int)) (by decide) rfl ?_
  intro p e s m args below meth c s₁ B hml hv
  obtain ⟨rfl, hP, hK⟩ := hv
  have hx := B.exec
  have hb := B.bytes
  have hr := B.returns
  have hts := atoms_spec (ws := Cond.code yX0_find cX0_find 4 (some .int) :: wsL_law) B.pre
  have htw : ∀ w ∈ wsL_law, w.before _ s = true := fun w h => hts w (List.mem_cons_of_mem _ h)
  have hown : s.vm.findClass RX0 = some m.cls := findClass_of_methodNamed B.named
  have hlocks := B.notSynchronized
  have hl := lv_entry ([.ref bk, .int a0, .int a1]) (n := 4) (Nat.le_of_ble_eq_true rfl)
  rw [lg_entry_eq]
  generalize (lg_sl ([.ref bk, .int a0, .int a1]) ++ List.replicate (4 - (lg_sl ([.ref bk, .int a0, .int a1])).length) Slot.unset).toArray = ls at hl ⊢
  have hl : lv_has ls 4 [(0, .ref bk), (1, .int a0), (2, .int a1)] := hl
  refine lv_iload_n hx hb dX0_find_0 rfl (lv_at hl 1 rfl) ?_
  refine lv_if_lt (tgt := 9) hx hb dX0_find_1 (by decide) (fun c_1 => ?_) (fun c_1 => ?_)
  · refine lv_iconst (v := (-1)) hx hb dX0_find_9 (by decide) ?_
    exact W.iret (v := (-1)) hx hb hr (fun t ht hW => ⟨(-1), rfl, (Eq.symm ((by rw [fb_findN]; (try rw [if_pos c_1]); try rfl))), ht⟩) (fun _ h => by cases h) dX0_find_10
  · refine lv_iload_n hx hb dX0_find_4 rfl (lv_at hl 1 rfl) ?_
    refine lv_iconst (v := 5) hx hb dX0_find_5 (by decide) ?_
    refine lv_icmp_lt (tgt := 11) hx hb dX0_find_6 (by decide) (fun c_2 => absurd c_2 ((gb_findN_s0 (y0 := a0) c_1 hk0 hk1 hk2 hk3 hk4))) (fun c_2 => ?_)
    refine lv_iconst (v := (-1)) hx hb dX0_find_9 (by decide) ?_
    exact W.iret (v := (-1)) hx hb hr (fun t ht hW => ⟨(-1), rfl, (Eq.symm ((by rw [fb_findN]; (try rw [if_neg c_1]); try rfl))), ht⟩) (fun _ h => by cases h) dX0_find_10

def fx_named (fTo : Nat → Int32) (fNm : Nat → Nat → Int32) (a0 : Int32) (a1 : Int32) : Int32 := (if a0 = 0 then (xL ((fb_find0 fTo fNm a1)) (fun r_1 => r_1)) else (if a0 = 1 then (xL ((fb_find1 fTo fNm a1)) (fun r_2 => r_2)) else (if a0 = 2 then (xL ((fb_find2 fTo fNm a1)) (fun r_3 => r_3)) else (if a0 = 3 then (xL ((fb_find3 fTo fNm a1)) (fun r_4 => r_4)) else (if a0 = 4 then (xL ((fb_find4 fTo fNm a1)) (fun r_5 => r_5)) else (xL ((fb_findN a0)) (fun r_6 => r_6)))))))
theorem gx_named_s0 {y0 : Int32} (h0 : ¬ (y0 = 0)) (h1 : ¬ (y0 = 1)) (h2 : ¬ (y0 = 2)) (h3 : ¬ (y0 = 3)) (h4 : ¬ (y0 = 4)) : ¬ (y0 = 0) := h0
theorem gx_named_s1 {y0 : Int32} (h0 : ¬ (y0 = 0)) (h1 : ¬ (y0 = 1)) (h2 : ¬ (y0 = 2)) (h3 : ¬ (y0 = 3)) (h4 : ¬ (y0 = 4)) : ¬ (y0 = 1) := h1
theorem gx_named_s2 {y0 : Int32} (h0 : ¬ (y0 = 0)) (h1 : ¬ (y0 = 1)) (h2 : ¬ (y0 = 2)) (h3 : ¬ (y0 = 3)) (h4 : ¬ (y0 = 4)) : ¬ (y0 = 2) := h2
theorem gx_named_s3 {y0 : Int32} (h0 : ¬ (y0 = 0)) (h1 : ¬ (y0 = 1)) (h2 : ¬ (y0 = 2)) (h3 : ¬ (y0 = 3)) (h4 : ¬ (y0 = 4)) : ¬ (y0 = 3) := h3
theorem gx_named_s4 {y0 : Int32} (h0 : ¬ (y0 = 0)) (h1 : ¬ (y0 = 1)) (h2 : ¬ (y0 = 2)) (h3 : ¬ (y0 = 3)) (h4 : ¬ (y0 = 4)) : ¬ (y0 = 4) := h4
theorem dX11_named_0 : decode cX11_named 0 = .ok (.aload_n 0, 1) := zk_42 (by decide +kernel)
theorem dX11_named_1 : decode cX11_named 1 = .ok (.getfield 19, 3) := zk_180 (by decide +kernel)
theorem dX11_named_4 : decode cX11_named 4 = .ok (.iload_n 1, 1) := zk_27 (by decide +kernel)
theorem dX11_named_5 : decode cX11_named 5 = .ok (.iload_n 2, 1) := zk_28 (by decide +kernel)
theorem dX11_named_6 : decode cX11_named 6 = .ok (.invokevirtual 108, 3) := zk_182 (by decide +kernel)
theorem dX11_named_9 : decode cX11_named 9 = .ok (.ireturn, 1) := zk_172 (by decide +kernel)
set_option maxHeartbeats 4000000 in
set_option maxRecDepth 100000 in
theorem gx_named (l : Launch) (dC : Nat → ClassId) (dI : Nat → Nat → Nat) (x : Nat) (pa : Nat) (bk : Nat) (xsp : Nat) (xdy : Nat) (le : Nat) (xst : Nat) (xsc : Int32) (xim : Nat) (xil : Nat) (xik : Int32) (xmo : Nat) (xom : Nat) (wi : Nat) (bto : Nat) (bnm : Nat) (bla : Nat) (bsk : Nat) (bru : Nat) (bbo : Nat) (bdi : Nat) (bda : Nat) (bdk : Nat) (bdt : Nat) (bdp : Nat) (bno : Nat) (cTo : ClassId) (fTo : Nat → Int32) (cNm : ClassId) (Nm : Nat → Nat) (cNr : ClassId) (fNm : Nat → Nat → Int32) (a0 : Int32) (a1 : Int32) : Met l yX11_named (Cond.code yX11_named cX11_named 3 (some .int) :: wsL_law) ({ frames := 1, cells := 0, slots := 0, locals := 23 }) (va_Pc [.ref x, .int a0, .int a1] (fun U => va_P (dC, dI) vwCl [(eO11a x pa bk xsp xdy le xst xsc xim xil xik xmo xom wi), (eO0a bk bto bnm bla bsk bru bbo bdi bda bdk bdt bdp bno), (eA0 bto cTo 5 fTo), (eA4 bnm cNm 5 (fun k => some (Nm k))), (eA0 (Nm 0) cNr 12 (fNm 0)), (eA0 (Nm 1) cNr 12 (fNm 1)), (eA0 (Nm 2) cNr 12 (fNm 2)), (eA0 (Nm 3) cNr 12 (fNm 3)), (eA0 (Nm 4) cNr 12 (fNm 4))] U.heap ∧ va_K (dC, dI) vwCl [(cTo, .int), (cNm, .array .int), (cNr, .int), (cNr, .int), (cNr, .int), (cNr, .int), (cNr, .int)] U)) (vp_Si (fun r => r = fx_named fTo fNm a0 a1)) 0 0 (fun _ => False) := by
  refine Met.ofW (cc := cX11_named) (maxL := 3) (ret := (some .int)) (by decide) rfl ?_
  intro p e s m args below meth c s₁ B hml hv
  obtain ⟨rfl, hP, hK⟩ := hv
  have hx := B.exec
  have hb := B.bytes
  have hr := B.returns
  have hts := atoms_spec (ws := Cond.code yX11_named cX11_named 3 (some .int) :: wsL_law) B.pre
  have htw : ∀ w ∈ wsL_law, w.before _ s = true := fun w h => hts w (List.mem_cons_of_mem _ h)
  have hown : s.vm.findClass RX11 = some m.cls := findClass_of_methodNamed B.named
  have hlocks := B.notSynchronized
  have hl := lv_entry ([.ref x, .int a0, .int a1]) (n := 3) (Nat.le_of_ble_eq_true rfl)
  rw [lg_entry_eq]
  generalize (lg_sl ([.ref x, .int a0, .int a1]) ++ List.replicate (3 - (lg_sl ([.ref x, .int a0, .int a1])).length) Slot.unset).toArray = ls at hl ⊢
  have hl : lv_has ls 3 [(0, .ref x), (1, .int a0), (2, .int a1)] := hl
  by_cases hn0 : a0 = 0
  · subst hn0
    refine lv_aload_n hx hb dX11_named_0 rfl (lv_at hl 0 rfl) ?_
    refine va_get (D := (dC, dI)) (ci := 11) (v := .ref bk) (C := RX11) (T := TX11) (N := 13) hx hb htw inlX11 hown hK hP 0 rfl rfl 1 (by decide) (htw _ (ck_1 _ (List.mem_of_getElem? (i := 21) rfl))) (fun _ h9 => h9) rfl dX11_named_1 ?_
    refine lv_iload_n hx hb dX11_named_4 rfl (lv_at hl 1 rfl) ?_
    refine lv_iload_n hx hb dX11_named_5 rfl (lv_at hl 2 rfl) ?_
    have hPc := hP.sub (ws' := [(eO0a bk bto bnm bla bsk bru bbo bdi bda bdk bdt bdp bno), (eA0 bto cTo 5 fTo), (eA4 bnm cNm 5 (fun k => some (Nm k))), (eA0 (Nm 0) cNr 12 (fNm 0))]) [1, 2, 3, 4] rfl
    have hKc := hK.sub (tys' := [(cTo, .int), (cNm, .array .int), (cNr, .int)]) [0, 1, 2] rfl
    refine vp_callSi (W.runV (As := [.int 0, .int a1]) (rest := []) ⟨hx, hb, hml, hown, htw⟩ (gb_find0 l dC dI bk bto bnm bla bsk bru bbo bdi bda bdk bdt bdp bno cTo fTo cNm Nm cNr fNm a1) (cwV 2 htw (xg_V (ck_32 _ (List.mem_of_getElem? (i := 23) rfl)) (ck_16 _ (List.mem_of_getElem? (i := 13) rfl)) (ck_16 _ (List.mem_of_getElem? (i := 14) rfl)) (ck_1 _ (List.mem_of_getElem? (i := 20) rfl)) (ck_16 _ (List.mem_of_getElem? (i := 15) rfl))) rfl rfl rfl (by exact ⟨rfl, hdc_6.1, hdc_6.2, hdd_7⟩) ⟨Nat.le_of_ble_eq_true rfl, Nat.le_of_ble_eq_true rfl⟩) ⟨fun a U g mk q => by obtain ⟨q0, qP, qK⟩ := q; exact ⟨q0, qP, va_K.moved (u := U) (U := U.calling g mk a) (Vm.Alike.refl U.vm) qK⟩, va_recv hKc hPc (ci := 0) (q0 := 0) rfl rfl, fun U hU hW => ⟨rfl, by rw [hU]; exact hPc, va_K.moved hW.alike hKc⟩⟩ rfl rfl hl.1 rfl (lv_room (Nat.le_of_ble_eq_true rfl)) dX11_named_6 ⟨Nat.le_of_ble_eq_true rfl, Nat.le_of_ble_eq_true rfl⟩) (fun r_1 hw => ?_)
    try dsimp only at hw
    have hq_r_1 : r_1 = (fb_find0 fTo fNm a1) := hw
    exact W.iret (v := r_1) hx hb hr (fun t ht hW => ⟨r_1, rfl, (Eq.symm ((by rw [fx_named]; (try rw [if_pos rfl]); (try rw [← hq_r_1]); (try rw [xL_eq]); try rfl))), ht⟩) (fun _ h => by cases h) dX11_named_9
  by_cases hn1 : a0 = 1
  · subst hn1
    refine lv_aload_n hx hb dX11_named_0 rfl (lv_at hl 0 rfl) ?_
    refine va_get (D := (dC, dI)) (ci := 11) (v := .ref bk) (C := RX11) (T := TX11) (N := 13) hx hb htw inlX11 hown hK hP 0 rfl rfl 1 (by decide) (htw _ (ck_1 _ (List.mem_of_getElem? (i := 21) rfl))) (fun _ h9 => h9) rfl dX11_named_1 ?_
    refine lv_iload_n hx hb dX11_named_4 rfl (lv_at hl 1 rfl) ?_
    refine lv_iload_n hx hb dX11_named_5 rfl (lv_at hl 2 rfl) ?_
    have hPc := hP.sub (ws' := [(eO0a bk bto bnm bla bsk bru bbo bdi bda bdk bdt bdp bno), (eA0 bto cTo 5 fTo), (eA4 bnm cNm 5 (fun k => some (Nm k))), (eA0 (Nm 1) cNr 12 (fNm 1))]) [1, 2, 3, 5] rfl
    have hKc := hK.sub (tys' := [(cTo, .int), (cNm, .array .int), (cNr, .int)]) [0, 1, 2] rfl
    refine vp_callSi (W.runV (As := [.int 1, .int a1]) (rest := []) ⟨hx, hb, hml, hown, htw⟩ (gb_find1 l dC dI bk bto bnm bla bsk bru bbo bdi bda bdk bdt bdp bno cTo fTo cNm Nm cNr fNm a1) (cwV 2 htw (xg_V (ck_32 _ (List.mem_of_getElem? (i := 23) rfl)) (ck_16 _ (List.mem_of_getElem? (i := 13) rfl)) (ck_16 _ (List.mem_of_getElem? (i := 14) rfl)) (ck_1 _ (List.mem_of_getElem? (i := 20) rfl)) (ck_16 _ (List.mem_of_getElem? (i := 15) rfl))) rfl rfl rfl (by exact ⟨rfl, hdc_6.1, hdc_6.2, hdd_7⟩) ⟨Nat.le_of_ble_eq_true rfl, Nat.le_of_ble_eq_true rfl⟩) ⟨fun a U g mk q => by obtain ⟨q0, qP, qK⟩ := q; exact ⟨q0, qP, va_K.moved (u := U) (U := U.calling g mk a) (Vm.Alike.refl U.vm) qK⟩, va_recv hKc hPc (ci := 0) (q0 := 0) rfl rfl, fun U hU hW => ⟨rfl, by rw [hU]; exact hPc, va_K.moved hW.alike hKc⟩⟩ rfl rfl hl.1 rfl (lv_room (Nat.le_of_ble_eq_true rfl)) dX11_named_6 ⟨Nat.le_of_ble_eq_true rfl, Nat.le_of_ble_eq_true rfl⟩) (fun r_2 hw => ?_)
    try dsimp only at hw
    have hq_r_2 : r_2 = (fb_find1 fTo fNm a1) := hw
    exact W.iret (v := r_2) hx hb hr (fun t ht hW => ⟨r_2, rfl, (Eq.symm ((by rw [fx_named]; (try rw [if_neg hn0]); (try rw [if_pos rfl]); (try rw [← hq_r_2]); (try rw [xL_eq]); try rfl))), ht⟩) (fun _ h => by cases h) dX11_named_9
  by_cases hn2 : a0 = 2
  · subst hn2
    refine lv_aload_n hx hb dX11_named_0 rfl (lv_at hl 0 rfl) ?_
    refine va_get (D := (dC, dI)) (ci := 11) (v := .ref bk) (C := RX11) (T := TX11) (N := 13) hx hb htw inlX11 hown hK hP 0 rfl rfl 1 (by decide) (htw _ (ck_1 _ (List.mem_of_getElem? (i := 21) rfl))) (fun _ h9 => h9) rfl dX11_named_1 ?_
    refine lv_iload_n hx hb dX11_named_4 rfl (lv_at hl 1 rfl) ?_
    refine lv_iload_n hx hb dX11_named_5 rfl (lv_at hl 2 rfl) ?_
    have hPc := hP.sub (ws' := [(eO0a bk bto bnm bla bsk bru bbo bdi bda bdk bdt bdp bno), (eA0 bto cTo 5 fTo), (eA4 bnm cNm 5 (fun k => some (Nm k))), (eA0 (Nm 2) cNr 12 (fNm 2))]) [1, 2, 3, 6] rfl
    have hKc := hK.sub (tys' := [(cTo, .int), (cNm, .array .int), (cNr, .int)]) [0, 1, 2] rfl
    refine vp_callSi (W.runV (As := [.int 2, .int a1]) (rest := []) ⟨hx, hb, hml, hown, htw⟩ (gb_find2 l dC dI bk bto bnm bla bsk bru bbo bdi bda bdk bdt bdp bno cTo fTo cNm Nm cNr fNm a1) (cwV 2 htw (xg_V (ck_32 _ (List.mem_of_getElem? (i := 23) rfl)) (ck_16 _ (List.mem_of_getElem? (i := 13) rfl)) (ck_16 _ (List.mem_of_getElem? (i := 14) rfl)) (ck_1 _ (List.mem_of_getElem? (i := 20) rfl)) (ck_16 _ (List.mem_of_getElem? (i := 15) rfl))) rfl rfl rfl (by exact ⟨rfl, hdc_6.1, hdc_6.2, hdd_7⟩) ⟨Nat.le_of_ble_eq_true rfl, Nat.le_of_ble_eq_true rfl⟩) ⟨fun a U g mk q => by obtain ⟨q0, qP, qK⟩ := q; exact ⟨q0, qP, va_K.moved (u := U) (U := U.calling g mk a) (Vm.Alike.refl U.vm) qK⟩, va_recv hKc hPc (ci := 0) (q0 := 0) rfl rfl, fun U hU hW => ⟨rfl, by rw [hU]; exact hPc, va_K.moved hW.alike hKc⟩⟩ rfl rfl hl.1 rfl (lv_room (Nat.le_of_ble_eq_true rfl)) dX11_named_6 ⟨Nat.le_of_ble_eq_true rfl, Nat.le_of_ble_eq_true rfl⟩) (fun r_3 hw => ?_)
    try dsimp only at hw
    have hq_r_3 : r_3 = (fb_find2 fTo fNm a1) := hw
    exact W.iret (v := r_3) hx hb hr (fun t ht hW => ⟨r_3, rfl, (Eq.symm ((by rw [fx_named]; (try rw [if_neg hn0]); (try rw [if_neg hn1]); (try rw [if_pos rfl]); (try rw [← hq_r_3]); (try rw [xL_eq]); try rfl))), ht⟩) (fun _ h => by cases h) dX11_named_9
  by_cases hn3 : a0 = 3
  · subst hn3
    refine lv_aload_n hx hb dX11_named_0 rfl (lv_at hl 0 rfl) ?_
    refine va_get (D := (dC, dI)) (ci := 11) (v := .ref bk) (C := RX11) (T := TX11) (N := 13) hx hb htw inlX11 hown hK hP 0 rfl rfl 1 (by decide) (htw _ (ck_1 _ (List.mem_of_getElem? (i := 21) rfl))) (fun _ h9 => h9) rfl dX11_named_1 ?_
    refine lv_iload_n hx hb dX11_named_4 rfl (lv_at hl 1 rfl) ?_
    refine lv_iload_n hx hb dX11_named_5 rfl (lv_at hl 2 rfl) ?_
    have hPc := hP.sub (ws' := [(eO0a bk bto bnm bla bsk bru bbo bdi bda bdk bdt bdp bno), (eA0 bto cTo 5 fTo), (eA4 bnm cNm 5 (fun k => some (Nm k))), (eA0 (Nm 3) cNr 12 (fNm 3))]) [1, 2, 3, 7] rfl
    have hKc := hK.sub (tys' := [(cTo, .int), (cNm, .array .int), (cNr, .int)]) [0, 1, 2] rfl
    refine vp_callSi (W.runV (As := [.int 3, .int a1]) (rest := []) ⟨hx, hb, hml, hown, htw⟩ (gb_find3 l dC dI bk bto bnm bla bsk bru bbo bdi bda bdk bdt bdp bno cTo fTo cNm Nm cNr fNm a1) (cwV 2 htw (xg_V (ck_32 _ (List.mem_of_getElem? (i := 23) rfl)) (ck_16 _ (List.mem_of_getElem? (i := 13) rfl)) (ck_16 _ (List.mem_of_getElem? (i := 14) rfl)) (ck_1 _ (List.mem_of_getElem? (i := 20) rfl)) (ck_16 _ (List.mem_of_getElem? (i := 15) rfl))) rfl rfl rfl (by exact ⟨rfl, hdc_6.1, hdc_6.2, hdd_7⟩) ⟨Nat.le_of_ble_eq_true rfl, Nat.le_of_ble_eq_true rfl⟩) ⟨fun a U g mk q => by obtain ⟨q0, qP, qK⟩ := q; exact ⟨q0, qP, va_K.moved (u := U) (U := U.calling g mk a) (Vm.Alike.refl U.vm) qK⟩, va_recv hKc hPc (ci := 0) (q0 := 0) rfl rfl, fun U hU hW => ⟨rfl, by rw [hU]; exact hPc, va_K.moved hW.alike hKc⟩⟩ rfl rfl hl.1 rfl (lv_room (Nat.le_of_ble_eq_true rfl)) dX11_named_6 ⟨Nat.le_of_ble_eq_true rfl, Nat.le_of_ble_eq_true rfl⟩) (fun r_4 hw => ?_)
    try dsimp only at hw
    have hq_r_4 : r_4 = (fb_find3 fTo fNm a1) := hw
    exact W.iret (v := r_4) hx hb hr (fun t ht hW => ⟨r_4, rfl, (Eq.symm ((by rw [fx_named]; (try rw [if_neg hn0]); (try rw [if_neg hn1]); (try rw [if_neg hn2]); (try rw [if_pos rfl]); (try rw [← hq_r_4]); (try rw [xL_eq]); try rfl))), ht⟩) (fun _ h => by cases h) dX11_named_9
  by_cases hn4 : a0 = 4
  · subst hn4
    refine lv_aload_n hx hb dX11_named_0 rfl (lv_at hl 0 rfl) ?_
    refine va_get (D := (dC, dI)) (ci := 11) (v := .ref bk) (C := RX11) (T := TX11) (N := 13) hx hb htw inlX11 hown hK hP 0 rfl rfl 1 (by decide) (htw _ (ck_1 _ (List.mem_of_getElem? (i := 21) rfl))) (fun _ h9 => h9) rfl dX11_named_1 ?_
    refine lv_iload_n hx hb dX11_named_4 rfl (lv_at hl 1 rfl) ?_
    refine lv_iload_n hx hb dX11_named_5 rfl (lv_at hl 2 rfl) ?_
    have hPc := hP.sub (ws' := [(eO0a bk bto bnm bla bsk bru bbo bdi bda bdk bdt bdp bno), (eA0 bto cTo 5 fTo), (eA4 bnm cNm 5 (fun k => some (Nm k))), (eA0 (Nm 4) cNr 12 (fNm 4))]) [1, 2, 3, 8] rfl
    have hKc := hK.sub (tys' := [(cTo, .int), (cNm, .array .int), (cNr, .int)]) [0, 1, 2] rfl
    refine vp_callSi (W.runV (As := [.int 4, .int a1]) (rest := []) ⟨hx, hb, hml, hown, htw⟩ (gb_find4 l dC dI bk bto bnm bla bsk bru bbo bdi bda bdk bdt bdp bno cTo fTo cNm Nm cNr fNm a1) (cwV 2 htw (xg_V (ck_32 _ (List.mem_of_getElem? (i := 23) rfl)) (ck_16 _ (List.mem_of_getElem? (i := 13) rfl)) (ck_16 _ (List.mem_of_getElem? (i := 14) rfl)) (ck_1 _ (List.mem_of_getElem? (i := 20) rfl)) (ck_16 _ (List.mem_of_getElem? (i := 15) rfl))) rfl rfl rfl (by exact ⟨rfl, hdc_6.1, hdc_6.2, hdd_7⟩) ⟨Nat.le_of_ble_eq_true rfl, Nat.le_of_ble_eq_true rfl⟩) ⟨fun a U g mk q => by obtain ⟨q0, qP, qK⟩ := q; exact ⟨q0, qP, va_K.moved (u := U) (U := U.calling g mk a) (Vm.Alike.refl U.vm) qK⟩, va_recv hKc hPc (ci := 0) (q0 := 0) rfl rfl, fun U hU hW => ⟨rfl, by rw [hU]; exact hPc, va_K.moved hW.alike hKc⟩⟩ rfl rfl hl.1 rfl (lv_room (Nat.le_of_ble_eq_true rfl)) dX11_named_6 ⟨Nat.le_of_ble_eq_true rfl, Nat.le_of_ble_eq_true rfl⟩) (fun r_5 hw => ?_)
    try dsimp only at hw
    have hq_r_5 : r_5 = (fb_find4 fTo fNm a1) := hw
    exact W.iret (v := r_5) hx hb hr (fun t ht hW => ⟨r_5, rfl, (Eq.symm ((by rw [fx_named]; (try rw [if_neg hn0]); (try rw [if_neg hn1]); (try rw [if_neg hn2]); (try rw [if_neg hn3]); (try rw [if_pos rfl]); (try rw [← hq_r_5]); (try rw [xL_eq]); try rfl))), ht⟩) (fun _ h => by cases h) dX11_named_9
  refine lv_aload_n hx hb dX11_named_0 rfl (lv_at hl 0 rfl) ?_
  refine va_get (D := (dC, dI)) (ci := 11) (v := .ref bk) (C := RX11) (T := TX11) (N := 13) hx hb htw inlX11 hown hK hP 0 rfl rfl 1 (by decide) (htw _ (ck_1 _ (List.mem_of_getElem? (i := 21) rfl))) (fun _ h9 => h9) rfl dX11_named_1 ?_
  refine lv_iload_n hx hb dX11_named_4 rfl (lv_at hl 1 rfl) ?_
  refine lv_iload_n hx hb dX11_named_5 rfl (lv_at hl 2 rfl) ?_
  have hPc := hP.sub (ws' := []) [] rfl
  have hKc := hK.sub (tys' := []) [] rfl
  refine vp_callSi (W.runV (As := [.int a0, .int a1]) (rest := []) ⟨hx, hb, hml, hown, htw⟩ (gb_findN l dC dI a0 a1 bk (gx_named_s0 (y0 := a0) hn0 hn1 hn2 hn3 hn4) (gx_named_s1 (y0 := a0) hn0 hn1 hn2 hn3 hn4) (gx_named_s2 (y0 := a0) hn0 hn1 hn2 hn3 hn4) (gx_named_s3 (y0 := a0) hn0 hn1 hn2 hn3 hn4) (gx_named_s4 (y0 := a0) hn0 hn1 hn2 hn3 hn4)) (cwV 2 htw (xg_V (ck_32 _ (List.mem_of_getElem? (i := 23) rfl)) (ck_16 _ (List.mem_of_getElem? (i := 13) rfl)) (ck_16 _ (List.mem_of_getElem? (i := 14) rfl)) (ck_1 _ (List.mem_of_getElem? (i := 20) rfl)) (ck_16 _ (List.mem_of_getElem? (i := 15) rfl))) rfl rfl rfl (by exact ⟨rfl, hdc_6.1, hdc_6.2, hdd_7⟩) ⟨Nat.le_of_ble_eq_true rfl, Nat.le_of_ble_eq_true rfl⟩) ⟨fun a U g mk q => by obtain ⟨q0, qP, qK⟩ := q; exact ⟨q0, qP, va_K.moved (u := U) (U := U.calling g mk a) (Vm.Alike.refl U.vm) qK⟩, va_recv hK hP (ci := 0) (q0 := 1) rfl rfl, fun U hU hW => ⟨rfl, by rw [hU]; exact hPc, va_K.moved hW.alike hKc⟩⟩ rfl rfl hl.1 rfl (lv_room (Nat.le_of_ble_eq_true rfl)) dX11_named_6 ⟨Nat.le_of_ble_eq_true rfl, Nat.le_of_ble_eq_true rfl⟩) (fun r_6 hw => ?_)
  try dsimp only at hw
  have hq_r_6 : r_6 = (fb_findN a0) := hw
  exact W.iret (v := r_6) hx hb hr (fun t ht hW => ⟨r_6, rfl, (Eq.symm ((by rw [fx_named]; (try rw [if_neg hn0]); (try rw [if_neg hn1]); (try rw [if_neg hn2]); (try rw [if_neg hn3]); (try rw [if_neg hn4]); (try rw [← hq_r_6]); (try rw [xL_eq]); try rfl))), ht⟩) (fun _ h => by cases h) dX11_named_9
