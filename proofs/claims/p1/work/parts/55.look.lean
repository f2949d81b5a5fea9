abbrev xk_at : List Cond := vx_atS RX11 120 "java/lang/IndexOutOfBoundsException" ["java/lang/RuntimeException", "java/lang/Exception"]
theorem xk_on : ∀ w ∈ xk_at, w.onTables = true := by decide +kernel
theorem xk_bad : ∀ w ∈ xk_at.filter (fun w => !goodWord w), w ∈ ([.declares ⟨"java/lang/RuntimeException", "<init>", "(Ljava/lang/String;)V"⟩, .declares ⟨"java/lang/Exception", "<init>", "(Ljava/lang/String;)V"⟩, .declares ⟨"java/lang/Throwable", "<init>", "(Ljava/lang/String;)V"⟩, .castable "java/lang/IndexOutOfBoundsException" "java/lang/IndexOutOfBoundsException"] : List Cond) := by decide +kernel
theorem xk_ot : ∀ w ∈ Cond.classLink RX11 116 "java/lang/IndexOutOfBoundsException" :: Cond.initialized "java/lang/IndexOutOfBoundsException" :: xk_at, vx_ot w = true := by decide +kernel
/-- what a throw of look() takes as given -/
def xl (sL : Nat) (A : Nat → Prop) (U : State) (H : Heap) : Prop := vk_R RX11 118 "no such land" sL U ∧ vx_Zq Jvm.Bundle.tN "UNASSIGNED_STACK" Jvm.Bundle.steD A U H ∧ vx_Zq Jvm.Bundle.tN "SUPPRESSED_SENTINEL" Jvm.Bundle.listD A U H ∧ (∀ w ∈ xk_at.filter goodWord, w.before #[] U = true) ∧ va_Nw (.declares ⟨"java/lang/RuntimeException", "<init>", "(Ljava/lang/String;)V"⟩) U ∧ va_Nw (.declares ⟨"java/lang/Exception", "<init>", "(Ljava/lang/String;)V"⟩) U ∧ va_Nw (.declares ⟨"java/lang/Throwable", "<init>", "(Ljava/lang/String;)V"⟩) U ∧ va_Nw (.castable "java/lang/IndexOutOfBoundsException" "java/lang/IndexOutOfBoundsException") U
theorem xl.warm {sL : Nat} {A : Nat → Prop} {s U : State} {H : Heap} (hW : s.WarmedH U.vm) (h : xl sL A s H) : xl sL A U H := ⟨vk_R.warm hW h.1, vx_Zq.moved hW.alike h.2.1, vx_Zq.moved hW.alike h.2.2.1, fun w hw => word_at hW (good_of_word (List.mem_filter.mp hw).2) (h.2.2.2.1 w hw), va_Nw.warmD hW h.2.2.2.2.1, va_Nw.warmD hW h.2.2.2.2.2.1, va_Nw.warmD hW h.2.2.2.2.2.2.1, va_Nw.warmC hW h.2.2.2.2.2.2.2⟩
theorem xl.kept {sL : Nat} {A : Nat → Prop} {U : State} {H H1 : Heap} (h : xl sL A U H) (hq : ∀ a : Nat, a < H.size → ¬ A a → H1[a]? = H[a]?) : xl sL A U H1 := ⟨h.1, h.2.1.kept hq, h.2.2.1.kept hq, h.2.2.2.1, h.2.2.2.2⟩
theorem xl.narrow {sL : Nat} {A B : Nat → Prop} {U : State} {H : Heap} (h : xl sL A U H) (hq : ∀ q, B q → A q) : xl sL B U H := ⟨h.1, h.2.1.narrow hq, h.2.2.1.narrow hq, h.2.2.2.1, h.2.2.2.2⟩
theorem xl.calling {sL : Nat} {A : Nat → Prop} {U : State} {H : Heap} {g : JFrame} {mk : MethodId} {a : Array Value} (h : xl sL A U H) : xl sL A (U.calling g mk a) H := ⟨vk_R.same rfl h.1, vx_Zq.moved (Vm.Alike.refl U.vm) h.2.1, vx_Zq.moved (Vm.Alike.refl U.vm) h.2.2.1, fun w hw => va_tabs (xk_on w (List.mem_filter.mp hw).1) (rfl : U.vm = (U.calling g mk a).vm) (h.2.2.2.1 w hw), va_Nw.same rfl (rfl : U.vm = (U.calling g mk a).vm) h.2.2.2.2.1, va_Nw.same rfl (rfl : U.vm = (U.calling g mk a).vm) h.2.2.2.2.2.1, va_Nw.same rfl (rfl : U.vm = (U.calling g mk a).vm) h.2.2.2.2.2.2.1, va_Nw.same rfl (rfl : U.vm = (U.calling g mk a).vm) h.2.2.2.2.2.2.2⟩
theorem xl.hat {sL : Nat} {A : Nat → Prop} {s : State} {args : Array Value} (h : xl sL A s s.heap) : ∀ w ∈ xk_at, w.before args s = true := fun w hw => va_tabs (xk_on w hw) rfl (vx_hat (args := #[]) h.2.2.2.1 xk_bad (vx_c h.2.2.2.2.1 (vx_c h.2.2.2.2.2.1 (vx_c h.2.2.2.2.2.2.1 (vx_c h.2.2.2.2.2.2.2 vx_n)))) w hw)

theorem dX11_look_0 : decode cX11_look 0 = .ok (.aload_n 0, 1) := by decide +kernel
theorem dX11_look_1 : decode cX11_look 1 = .ok (.getfield 19, 3) := by decide +kernel
theorem dX11_look_4 : decode cX11_look 4 = .ok (.iload_n 1, 1) := by decide +kernel
theorem dX11_look_5 : decode cX11_look 5 = .ok (.invokevirtual 112, 3) := by decide +kernel
theorem dX11_look_8 : decode cX11_look 8 = .ok (.astore_n 3, 1) := by decide +kernel
theorem dX11_look_9 : decode cX11_look 9 = .ok (.aload_n 3, 1) := by decide +kernel
theorem dX11_look_10 : decode cX11_look 10 = .ok (.ifnonnull 13, 3) := by decide +kernel
theorem dX11_look_13 : decode cX11_look 13 = .ok (.new 116, 3) := by decide +kernel
theorem dX11_look_16 : decode cX11_look 16 = .ok (.dup, 1) := by decide +kernel
theorem dX11_look_17 : decode cX11_look 17 = .ok (.ldc 118, 2) := by decide +kernel
theorem dX11_look_19 : decode cX11_look 19 = .ok (.invokespecial 120, 3) := by decide +kernel
theorem dX11_look_22 : decode cX11_look 22 = .ok (.athrow, 1) := by decide +kernel
set_option maxHeartbeats 4000000 in
set_option maxRecDepth 100000 in
theorem mx_look (l : Launch) (hst : l.stackTraces = false) (dC : Nat → ClassId) (dI : Nat → Nat → Nat) (x : Nat) (xpa : Nat) (xsp : Nat) (xdy : Nat) (xle : Nat) (xst : Nat) (xim : Nat) (xil : Nat) (xmo : Nat) (xom : Nat) (xwi : Nat) (b : Nat) (bto : Nat) (bnm : Nat) (bla : Nat) (bsk : Nat) (bru : Nat) (bbo : Nat) (bdi : Nat) (bda : Nat) (bdk : Nat) (bdt : Nat) (bdp : Nat) (bno : Nat) (bcT : ClassId) (sL : Nat) (a0 : Int32) (a1 : Int32) (sz : Nat) : vx_Met l yX11_look (Cond.code yX11_look cX11_look 4 (some .int) :: wsL_law) ({ frames := 6, cells := 1, slots := 6, locals := 82 }) (va_Pc [.ref x, .int a0, .int a1] (fun U => U.heap.size = sz ∧ va_P (dC, dI) vwCl [(x, .inr (11, [.ref xpa, .ref b, .ref xsp, .ref xdy, .ref xle, .ref xst, .int 0, .ref xim, .ref xil, .int 0, .ref xmo, .ref xom, .ref xwi])), (b, .inr (0, [.ref bto, .ref bnm, .ref bla, .ref bsk, .ref bru, .ref bbo, .ref bdi, .ref bda, .ref bdk, .ref bdt, .ref bdp, .ref bno])), (bto, .inl (bcT, 5, .inl (fun _ => 0)))] U.heap ∧ va_K (dC, dI) vwCl [(bcT, .int)] U ∧ va_D (fun _ => True) [(x, .inr (11, [.ref xpa, .ref b, .ref xsp, .ref xdy, .ref xle, .ref xst, .int 0, .ref xim, .ref xil, .int 0, .ref xmo, .ref xom, .ref xwi])), (b, .inr (0, [.ref bto, .ref bnm, .ref bla, .ref bsk, .ref bru, .ref bbo, .ref bdi, .ref bda, .ref bdk, .ref bdt, .ref bdp, .ref bno])), (bto, .inl (bcT, 5, .inl (fun _ => 0)))] ∧ xl sL (va_A [(x, .inr (11, [.ref xpa, .ref b, .ref xsp, .ref xdy, .ref xle, .ref xst, .int 0, .ref xim, .ref xil, .int 0, .ref xmo, .ref xom, .ref xwi])), (b, .inr (0, [.ref bto, .ref bnm, .ref bla, .ref bsk, .ref bru, .ref bbo, .ref bdi, .ref bda, .ref bdk, .ref bdt, .ref bdp, .ref bno])), (bto, .inl (bcT, 5, .inl (fun _ => 0)))] sz) U U.heap)) (va_Qi (fun (r : Int32) (u : Unit) => False) (fun _ _ => True) (va_A [(x, .inr (11, [.ref xpa, .ref b, .ref xsp, .ref xdy, .ref xle, .ref xst, .int 0, .ref xim, .ref xil, .int 0, .ref xmo, .ref xom, .ref xwi])), (b, .inr (0, [.ref bto, .ref bnm, .ref bla, .ref bsk, .ref bru, .ref bbo, .ref bdi, .ref bda, .ref bdk, .ref bdt, .ref bdp, .ref bno])), (bto, .inl (bcT, 5, .inl (fun _ => 0)))] sz)) (vx_X (fun (_ : Unit) => True) (fun E _ _ => E = "java/lang/IndexOutOfBoundsException") (va_A [(x, .inr (11, [.ref xpa, .ref b, .ref xsp, .ref xdy, .ref xle, .ref xst, .int 0, .ref xim, .ref xil, .int 0, .ref xmo, .ref xom, .ref xwi])), (b, .inr (0, [.ref bto, .ref bnm, .ref bla, .ref bsk, .ref bru, .ref bbo, .ref bdi, .ref bda, .ref bdk, .ref bdt, .ref bdp, .ref bno])), (bto, .inl (bcT, 5, .inl (fun _ => 0)))] sz)) 1 6 (va_A [(x, .inr (11, [.ref xpa, .ref b, .ref xsp, .ref xdy, .ref xle, .ref xst, .int 0, .ref xim, .ref xil, .int 0, .ref xmo, .ref xom, .ref xwi])), (b, .inr (0, [.ref bto, .ref bnm, .ref bla, .ref bsk, .ref bru, .ref bbo, .ref bdi, .ref bda, .ref bdk, .ref bdt, .ref bdp, .ref bno])), (bto, .inl (bcT, 5, .inl (fun _ => 0)))] sz) := by
  refine vx_ofW (cc := cX11_look) (maxL := 4) (ret := (some .int)) (by decide) rfl ?_
  intro p e s m args below meth c s₁ B hml hex hv
  obtain ⟨rfl, hsz, hP, hK, hD0, hXL⟩ := hv
  have hx := B.exec
  have hb := B.bytes
  have hr := B.returns
  have hts := atoms_spec (ws := Cond.code yX11_look cX11_look 4 (some .int) :: wsL_law) B.pre
  have htw : ∀ w ∈ wsL_law, w.before _ s = true := fun w h => hts w (List.mem_cons_of_mem _ h)
  have hown : s.vm.findClass RX11 = some m.cls := findClass_of_methodNamed B.named
  have hlocks := B.notSynchronized
  subst hsz
  have hD := hD0.self (sz := s.heap.size)
  generalize hAe : va_A [(x, .inr (11, [.ref xpa, .ref b, .ref xsp, .ref xdy, .ref xle, .ref xst, .int 0, .ref xim, .ref xil, .int 0, .ref xmo, .ref xom, .ref xwi])), (b, .inr (0, [.ref bto, .ref bnm, .ref bla, .ref bsk, .ref bru, .ref bbo, .ref bdi, .ref bda, .ref bdk, .ref bdt, .ref bdp, .ref bno])), (bto, .inl (bcT, 5, .inl (fun _ => 0)))] s.heap.size = A at hD hXL ⊢
  have hA : ∀ q : Nat, s.heap.size ≤ q → A q := fun q h => by rw [← hAe]; exact Or.inr h
  obtain ⟨H, rH⟩ : ∃ z : Heap, z = s.heap := ⟨_, rfl⟩
  have hS : va_S A s.heap H [] := by rw [rH]; exact va_S.rf
  have hP : va_P (dC, dI) vwCl [(x, .inr (11, [.ref xpa, .ref b, .ref xsp, .ref xdy, .ref xle, .ref xst, .int 0, .ref xim, .ref xil, .int 0, .ref xmo, .ref xom, .ref xwi])), (b, .inr (0, [.ref bto, .ref bnm, .ref bla, .ref bsk, .ref bru, .ref bbo, .ref bdi, .ref bda, .ref bdk, .ref bdt, .ref bdp, .ref bno])), (bto, .inl (bcT, 5, .inl (fun _ => 0)))] H := by rw [rH]; exact hP
  rw [← rH]
  have hl := lv_entry ([.ref x, .int a0, .int a1]) (n := 4) (Nat.le_of_ble_eq_true rfl)
  rw [lg_entry_eq]
  generalize (lg_sl ([.ref x, .int a0, .int a1]) ++ List.replicate (4 - (lg_sl ([.ref x, .int a0, .int a1])).length) Slot.unset).toArray = ls at hl ⊢
  have hl : lv_has ls 4 [(0, .ref x), (1, .int a0), (2, .int a1)] := hl
  refine lv_aload_n hx hb dX11_look_0 rfl (lv_at hl 0 rfl) ?_
  refine va_get (D := (dC, dI)) (ci := 11) (v := .ref b) (C := RX11) (T := TX11) (N := 13) hx hb htw inlX11 hown hK hP 0 rfl rfl 1 (by decide) (htw _ (ck_1 _ (List.mem_of_getElem? (i := 21) rfl))) (fun _ h9 => h9) rfl dX11_look_1 ?_
  refine lv_iload_n hx hb dX11_look_4 rfl (lv_at hl 1 rfl) ?_
  have hPc := hP.sub (ws' := [(b, .inr (0, [.ref bto, .ref bnm, .ref bla, .ref bsk, .ref bru, .ref bbo, .ref bdi, .ref bda, .ref bdk, .ref bdt, .ref bdp, .ref bno])), (bto, .inl (bcT, 5, .inl (fun _ => 0)))]) [1, 2] rfl
  have hKc := hK.sub (tys' := [(bcT, .int)]) [0] rfl
  refine va_csq (W.runV (As := [.int a0]) (rest := []) ⟨hx, hb, hml, hown, htw⟩ (mt_landAt l dC dI b bto bnm bla bsk bru bbo bdi bda bdk bdt bdp bno bcT a0) (cwV 1 htw (xg_V (ck_33 _ (List.mem_of_getElem? (i := 21) rfl)) (ck_20 _ (List.mem_of_getElem? (i := 22) rfl)) (ck_20 _ (List.mem_of_getElem? (i := 23) rfl)) (ck_1 _ (List.mem_of_getElem? (i := 20) rfl)) (ck_21 _ (List.mem_of_getElem? (i := 0) rfl))) rfl rfl rfl (by decide +kernel) ⟨Nat.le_of_ble_eq_true rfl, Nat.le_of_ble_eq_true rfl⟩) ⟨fun a U g mk q => by obtain ⟨q0, qP, qK⟩ := q; exact ⟨q0, qP, va_K.moved (u := U) (U := U.calling g mk a) (Vm.Alike.refl U.vm) qK⟩, va_recv hKc hPc (ci := 0) (q0 := 0) rfl rfl, fun U hU hW => ⟨rfl, by rw [hU]; exact hPc, va_K.moved hW.alike hKc⟩⟩ rfl rfl hl.1 rfl (lv_room (Nat.le_of_ble_eq_true rfl)) dX11_look_5 ⟨Nat.le_of_ble_eq_true rfl, Nat.le_of_ble_eq_true rfl⟩) (fun r_1 hw => ?_)
  try dsimp only at hw
  obtain rfl : r_1 = none := hw
  refine W.eq (g2 := F0 m 8 ls [.null]) rfl ?_
  refine lv_astore_nN (lv' := [(3, .null), (0, .ref x), (1, .int a0), (2, .int a1)]) hx hb dX11_look_8 rfl hl (by decide) rfl (fun ls hl => ?_)
  refine lv_aload_nN hx hb dX11_look_9 rfl (lv_at hl 0 rfl) ?_
  refine lv_ifnonnullN hx hb dX11_look_10 ?_
  exact vx_throwS (sa := sL) (text := "no such land") (names := ["java/lang/RuntimeException", "java/lang/Exception"]) (ik := 116) (is := 118) (ic := 120) (A := A) hx hb hst hown (by decide +kernel) (by decide +kernel) (htw _ (ck_33 _ (List.mem_of_getElem? (i := 14) rfl))) (htw _ (ck_33 _ (List.mem_of_getElem? (i := 15) rfl))) hXL.1 hXL.hat xk_ot hXL.2.1 hXL.2.2.1 hS (by rw [hml]; exact hl.1) dX11_look_13 dX11_look_16 dX11_look_17 dX11_look_19 dX11_look_22 (fun x hx9 => (hex x hx9).elim) (Nat.le_of_ble_eq_true rfl) (Nat.le_of_ble_eq_true rfl) (Nat.le_of_ble_eq_true rfl) (Nat.le_of_ble_eq_true rfl) hlocks (fun t hal hsz9 hk9 => ⟨(), trivial, rfl, Nat.le_trans hS.1 hsz9, fun q h1 h2 => (hk9 q (Nat.lt_of_lt_of_le h1 hS.1)).trans (hS.2.1 q h1 h2)⟩) hS.2.2 (Nat.le_of_ble_eq_true rfl) (Nat.le_of_ble_eq_true rfl)

theorem dL_look_0 : decode cL_look 0 = .ok (.aload_n 3, 1) := by decide +kernel
theorem dL_look_1 : decode cL_look 1 = .ok (.iconst 0, 1) := by decide +kernel
theorem dL_look_2 : decode cL_look 2 = .ok (.aload_n 0, 1) := by decide +kernel
theorem dL_look_3 : decode cL_look 3 = .ok (.iload_n 1, 1) := by decide +kernel
theorem dL_look_4 : decode cL_look 4 = .ok (.iload_n 2, 1) := by decide +kernel
theorem dL_look_5 : decode cL_look 5 = .ok (.invokevirtual 7, 3) := by decide +kernel
theorem dL_look_13 : decode cL_look 13 = .ok (.astore 4, 2) := by decide +kernel
theorem dL_look_15 : decode cL_look 15 = .ok (.iconst 1, 1) := by decide +kernel
theorem dL_look_16 : decode cL_look 16 = .ok (.ireturn, 1) := by decide +kernel
set_option maxHeartbeats 4000000 in
set_option maxRecDepth 100000 in
theorem mL_look (l : Launch) (hst : l.stackTraces = false) (dC : Nat → ClassId) (dI : Nat → Nat → Nat) (x : Nat) (xpa : Nat) (xsp : Nat) (xdy : Nat) (xle : Nat) (xst : Nat) (xim : Nat) (xil : Nat) (xmo : Nat) (xom : Nat) (xwi : Nat) (b : Nat) (bto : Nat) (bnm : Nat) (bla : Nat) (bsk : Nat) (bru : Nat) (bbo : Nat) (bdi : Nat) (bda : Nat) (bdk : Nat) (bdt : Nat) (bdp : Nat) (bno : Nat) (bcT : ClassId) (sL : Nat) (a0 : Int32) (a1 : Int32) (o3 : Nat) (sz : Nat) : Met l yL_look (Cond.codeWith yL_look cL_look 5 (some .int) [(0, 10, 13, 13), (0, 10, 17, 15)] :: wsL_law) ({ frames := 7, cells := 1, slots := 6, locals := 105 }) (va_Pc [.ref x, .int a0, .int a1, .ref o3] (fun U => U.heap.size = sz ∧ va_P (dC, dI) vwCl [(x, .inr (11, [.ref xpa, .ref b, .ref xsp, .ref xdy, .ref xle, .ref xst, .int 0, .ref xim, .ref xil, .int 0, .ref xmo, .ref xom, .ref xwi])), (b, .inr (0, [.ref bto, .ref bnm, .ref bla, .ref bsk, .ref bru, .ref bbo, .ref bdi, .ref bda, .ref bdk, .ref bdt, .ref bdp, .ref bno])), (bto, .inl (bcT, 5, .inl (fun _ => 0)))] U.heap ∧ va_K (dC, dI) vwCl [(bcT, .int)] U ∧ va_D (fun _ => True) [(x, .inr (11, [.ref xpa, .ref b, .ref xsp, .ref xdy, .ref xle, .ref xst, .int 0, .ref xim, .ref xil, .int 0, .ref xmo, .ref xom, .ref xwi])), (b, .inr (0, [.ref bto, .ref bnm, .ref bla, .ref bsk, .ref bru, .ref bbo, .ref bdi, .ref bda, .ref bdk, .ref bdt, .ref bdp, .ref bno])), (bto, .inl (bcT, 5, .inl (fun _ => 0)))] ∧ xl sL (va_A [(x, .inr (11, [.ref xpa, .ref b, .ref xsp, .ref xdy, .ref xle, .ref xst, .int 0, .ref xim, .ref xil, .int 0, .ref xmo, .ref xom, .ref xwi])), (b, .inr (0, [.ref bto, .ref bnm, .ref bla, .ref bsk, .ref bru, .ref bbo, .ref bdi, .ref bda, .ref bdk, .ref bdt, .ref bdp, .ref bno])), (bto, .inl (bcT, 5, .inl (fun _ => 0)))] sz) U U.heap)) (va_Qi (fun (r : Int32) (u : Unit) => r = 1) (fun _ _ => True) (va_A [(x, .inr (11, [.ref xpa, .ref b, .ref xsp, .ref xdy, .ref xle, .ref xst, .int 0, .ref xim, .ref xil, .int 0, .ref xmo, .ref xom, .ref xwi])), (b, .inr (0, [.ref bto, .ref bnm, .ref bla, .ref bsk, .ref bru, .ref bbo, .ref bdi, .ref bda, .ref bdk, .ref bdt, .ref bdp, .ref bno])), (bto, .inl (bcT, 5, .inl (fun _ => 0)))] sz)) 1 6 (va_A [(x, .inr (11, [.ref xpa, .ref b, .ref xsp, .ref xdy, .ref xle, .ref xst, .int 0, .ref xim, .ref xil, .int 0, .ref xmo, .ref xom, .ref xwi])), (b, .inr (0, [.ref bto, .ref bnm, .ref bla, .ref bsk, .ref bru, .ref bbo, .ref bdi, .ref bda, .ref bdk, .ref bdt, .ref bdp, .ref bno])), (bto, .inl (bcT, 5, .inl (fun _ => 0)))] sz) := by
  refine va_MetW (cc := cL_look) (maxL := 5) (ret := (some .int)) (hh := [(0, 10, 13, 13), (0, 10, 17, 15)]) (by decide) rfl ?_
  intro p e s m args below meth c s₁ B hml hv
  obtain ⟨rfl, hsz, hP, hK, hD0, hXL⟩ := hv
  have hx := B.exec
  have hb := B.bytes
  have hr := B.returns
  have hts := atoms_spec (ws := Cond.codeWith yL_look cL_look 5 (some .int) [(0, 10, 13, 13), (0, 10, 17, 15)] :: wsL_law) B.pre
  have htw : ∀ w ∈ wsL_law, w.before _ s = true := fun w h => hts w (List.mem_cons_of_mem _ h)
  have hown : s.vm.findClass RL = some m.cls := findClass_of_methodNamed B.named
  have hlocks := B.notSynchronized
  subst hsz
  have hD := hD0.self (sz := s.heap.size)
  generalize hAe : va_A [(x, .inr (11, [.ref xpa, .ref b, .ref xsp, .ref xdy, .ref xle, .ref xst, .int 0, .ref xim, .ref xil, .int 0, .ref xmo, .ref xom, .ref xwi])), (b, .inr (0, [.ref bto, .ref bnm, .ref bla, .ref bsk, .ref bru, .ref bbo, .ref bdi, .ref bda, .ref bdk, .ref bdt, .ref bdp, .ref bno])), (bto, .inl (bcT, 5, .inl (fun _ => 0)))] s.heap.size = A at hD hXL ⊢
  have hA : ∀ q : Nat, s.heap.size ≤ q → A q := fun q h => by rw [← hAe]; exact Or.inr h
  obtain ⟨H, rH⟩ : ∃ z : Heap, z = s.heap := ⟨_, rfl⟩
  have hS : va_S A s.heap H [] := by rw [rH]; exact va_S.rf
  have hP : va_P (dC, dI) vwCl [(x, .inr (11, [.ref xpa, .ref b, .ref xsp, .ref xdy, .ref xle, .ref xst, .int 0, .ref xim, .ref xil, .int 0, .ref xmo, .ref xom, .ref xwi])), (b, .inr (0, [.ref bto, .ref bnm, .ref bla, .ref bsk, .ref bru, .ref bbo, .ref bdi, .ref bda, .ref bdk, .ref bdt, .ref bdp, .ref bno])), (bto, .inl (bcT, 5, .inl (fun _ => 0)))] H := by rw [rH]; exact hP
  rw [← rH]
  have hl := lv_entry ([.ref x, .int a0, .int a1, .ref o3]) (n := 5) (Nat.le_of_ble_eq_true rfl)
  rw [lg_entry_eq]
  generalize (lg_sl ([.ref x, .int a0, .int a1, .ref o3]) ++ List.replicate (5 - (lg_sl ([.ref x, .int a0, .int a1, .ref o3])).length) Slot.unset).toArray = ls at hl ⊢
  have hl : lv_has ls 5 [(0, .ref x), (1, .int a0), (2, .int a1), (3, .ref o3)] := hl
  refine lv_aload_n hx hb dL_look_0 rfl (lv_at hl 3 rfl) ?_
  refine lv_iconst (v := 0) hx hb dL_look_1 (by decide) ?_
  refine lv_aload_n hx hb dL_look_2 rfl (lv_at hl 0 rfl) ?_
  refine lv_iload_n hx hb dL_look_3 rfl (lv_at hl 1 rfl) ?_
  refine lv_iload_n hx hb dL_look_4 rfl (lv_at hl 2 rfl) ?_
  have hPc := hP
  have hKc := hK
  have hDc := hD
  have hFc := va_free (wc := [(x, .inr (11, [.ref xpa, .ref b, .ref xsp, .ref xdy, .ref xle, .ref xst, .int 0, .ref xim, .ref xil, .int 0, .ref xmo, .ref xom, .ref xwi])), (b, .inr (0, [.ref bto, .ref bnm, .ref bla, .ref bsk, .ref bru, .ref bbo, .ref bdi, .ref bda, .ref bdk, .ref bdt, .ref bdp, .ref bno])), (bto, .inl (bcT, 5, .inl (fun _ => 0)))]) hD hS hA [0, 1, 2] rfl
  refine vx_calli (vx_runV (As := [.int a0, .int a1]) (rest := [.int 0, .ref o3]) ⟨hx, hb, hml, hown, htw⟩ (mx_look l hst dC dI x xpa xsp xdy xle xst xim xil xmo xom xwi b bto bnm bla bsk bru bbo bdi bda bdk bdt bdp bno bcT sL a0 a1 H.size) (cwV 2 htw (xg_V (ck_33 _ (List.mem_of_getElem? (i := 10) rfl)) (ck_33 _ (List.mem_of_getElem? (i := 11) rfl)) (ck_33 _ (List.mem_of_getElem? (i := 12) rfl)) (ck_1 _ (List.mem_of_getElem? (i := 2) rfl)) (ck_33 _ (List.mem_of_getElem? (i := 13) rfl))) rfl rfl rfl (by decide +kernel) ⟨Nat.le_of_ble_eq_true rfl, Nat.le_of_ble_eq_true rfl⟩) ⟨fun a U g mk q => by obtain ⟨q0, q1, qP, qK, qD, qx0⟩ := q; exact ⟨q0, q1, qP, va_K.moved (u := U) (U := U.calling g mk a) (Vm.Alike.refl U.vm) qK, qD, xl.calling qx0⟩, va_recv hKc hPc (ci := 11) (q0 := 0) rfl rfl, fun U hU hW => ⟨rfl, by rw [hU], by rw [hU]; exact hPc, va_K.moved hW.alike hKc, hDc.weaken (fun _ _ _ _ => trivial), by rw [hU]; exact xl.warm hW ((xl.kept hXL hS.2.1).narrow hFc)⟩⟩ rfl rfl hl.1 rfl (lv_room (Nat.le_of_ble_eq_true rfl)) dL_look_5 ⟨Nat.le_of_ble_eq_true rfl, Nat.le_of_ble_eq_true rfl⟩) hS (fun q _ h => hFc q h) hFc (fun q _ h => hFc q h) (fun E ce q9 u t H1 locs ht hvm hpx hBX hz1 hk1 hS hcell hcv hcl => ?_) (fun r u t H1 locs ht hvm hw hB hz1 hk1 hS => hw.elim)
  obtain rfl : E = "java/lang/IndexOutOfBoundsException" := hBX
  have htab := vx_table (x := yL_look) B (hts _ List.mem_cons_self)
  refine vx_catch (E := "java/lang/IndexOutOfBoundsException") (name := "java/lang/IndexOutOfBoundsException") hown [] { startPc := 0, endPc := 10, handlerPc := 13, catchType := 13 } [{ startPc := 0, endPc := 10, handlerPc := 17, catchType := 15 }] (htab.trans rfl) (fun z hz => by cases hz) (by decide) (by decide) (htw _ (ck_33 _ (List.mem_of_getElem? (i := 8) rfl))) (va_Nw.use rfl hXL.2.2.2.2.2.2.2) hcell hcv hcl ?_
  refine W.widen (k := 1) (n := 6) (by omega) (by omega) ?_
  refine W.eq (g2 := F0 m 13 ls [.ref q9]) rfl ?_
  refine lv_astore (lv' := [(4, .ref q9), (0, .ref x), (1, .int a0), (2, .int a1), (3, .ref o3)]) hx hb dL_look_13 hl (by decide) rfl (fun ls hl => ?_)
  refine lv_iconst (v := 1) hx hb dL_look_15 (by decide) ?_
  refine W.widen (k := 1) (n := 6) (by omega) (by omega) ?_
  exact W.iret (v := 1) hx hb hr (fun t ht hW => ⟨⟨1, (), rfl, rfl, trivial⟩, hS.F ht⟩) hS.2.2 dL_look_16
