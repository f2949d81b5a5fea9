/-- what LongYearsLaw.look takes as given -/
def xoL (sL : Nat → Nat) (A : Nat → Prop) (U : State) (H : Heap) : Prop := xo sL A U H ∧ va_Nc "java/util/NoSuchElementException" "java/lang/IndexOutOfBoundsException" U
theorem xoL.warm {sL : Nat → Nat} {A : Nat → Prop} {s U : State} {H : Heap} (hW : s.WarmedH U.vm) (h : xoL sL A s H) : xoL sL A U H := ⟨h.1.warm hW, h.2.moved hW.alike⟩
theorem xoL.kept {sL : Nat → Nat} {A : Nat → Prop} {U : State} {H H1 : Heap} (h : xoL sL A U H) (hq : ∀ a : Nat, a < H.size → ¬ A a → H1[a]? = H[a]?) : xoL sL A U H1 := ⟨h.1.kept hq, h.2⟩
theorem xoL.narrow {sL : Nat → Nat} {A B : Nat → Prop} {U : State} {H : Heap} (h : xoL sL A U H) (hq : ∀ q, B q → A q) : xoL sL B U H := ⟨h.1.narrow hq, h.2⟩
theorem xoL.calling {sL : Nat → Nat} {A : Nat → Prop} {U : State} {H : Heap} {g : JFrame} {mk : MethodId} {a : Array Value} (h : xoL sL A U H) : xoL sL A (U.calling g mk a) H := ⟨h.1.calling, h.2.moved (U := U.calling g mk a) (Vm.Alike.refl U.vm)⟩

def fL_look (f3 : Nat → Int64) (fTo : Nat → Int32) (FI : Nat → Int32) (GR : Nat → Int32) (FR : Nat → Int32) (a0 : Int32) (a1 : Int32) : Int32 × (Nat → Int64) := (xL ((fx_look fTo FI GR FR a0 a1)) (fun X_1 => (if X_1.1 = 1 then ((1 : Int32), f3) else (if X_1.1 = 2 then ((2 : Int32), f3) else ((0 : Int32), (vp_updL f3 ((0 : Int32).toNatClampNeg) X_1.2.toInt64))))))
theorem dL_look_0 : decode cL_look 0 = .ok (.aload_n 3, 1) := zk_45 (by decide +kernel)
theorem dL_look_1 : decode cL_look 1 = .ok (.iconst 0, 1) := zk_3 (by decide +kernel)
theorem dL_look_2 : decode cL_look 2 = .ok (.aload_n 0, 1) := zk_42 (by decide +kernel)
theorem dL_look_3 : decode cL_look 3 = .ok (.iload_n 1, 1) := zk_27 (by decide +kernel)
theorem dL_look_4 : decode cL_look 4 = .ok (.iload_n 2, 1) := zk_28 (by decide +kernel)
theorem dL_look_5 : decode cL_look 5 = .ok (.invokevirtual 7, 3) := zk_182 (by decide +kernel)
theorem dL_look_13 : decode cL_look 13 = .ok (.astore 4, 2) := zk_58 (by decide +kernel)
theorem dL_look_15 : decode cL_look 15 = .ok (.iconst 1, 1) := zk_4 (by decide +kernel)
theorem dL_look_16 : decode cL_look 16 = .ok (.ireturn, 1) := zk_172 (by decide +kernel)
theorem dL_look_17 : decode cL_look 17 = .ok (.astore 4, 2) := zk_58 (by decide +kernel)
theorem dL_look_19 : decode cL_look 19 = .ok (.iconst 2, 1) := zk_5 (by decide +kernel)
theorem dL_look_20 : decode cL_look 20 = .ok (.ireturn, 1) := zk_172 (by decide +kernel)
theorem dL_look_8 : decode cL_look 8 = .ok (.i2l, 1) := zk_133 (by decide +kernel)
theorem dL_look_9 : decode cL_look 9 = .ok (.lastore, 1) := zk_80 (by decide +kernel)
theorem dL_look_10 : decode cL_look 10 = .ok (.goto 11, 3) := zk_167 (by decide +kernel)
theorem dL_look_21 : decode cL_look 21 = .ok (.iconst 0, 1) := zk_3 (by decide +kernel)
theorem dL_look_22 : decode cL_look 22 = .ok (.ireturn, 1) := zk_172 (by decide +kernel)
set_option maxHeartbeats 4000000 in
set_option maxRecDepth 100000 in
theorem gL_look (l : Launch) (hst : l.stackTraces = false) (dC : Nat → ClassId) (dI : Nat → Nat → Nat) (o3 : Nat) (c3 : ClassId) (f3 : Nat → Int64) (x : Nat) (pa : Nat) (bk : Nat) (xsp : Nat) (xdy : Nat) (le : Nat) (xst : Nat) (xsc : Int32) (xim : Nat) (xil : Nat) (xik : Int32) (xmo : Nat) (xom : Nat) (wi : Nat) (bto : Nat) (bnm : Nat) (bla : Nat) (bsk : Nat) (bru : Nat) (bbo : Nat) (bdi : Nat) (bda : Nat) (bdk : Nat) (bdt : Nat) (bdp : Nat) (bno : Nat) (cTo : ClassId) (fTo : Nat → Int32) (cLa : ClassId) (La : Nat → Nat) (FI : Nat → Int32) (GR : Nat → Int32) (FR : Nat → Int32) (a0 : Int32) (a1 : Int32) (sL : Nat → Nat) (sz : Nat) : Met l yL_look (Cond.codeWith yL_look cL_look 5 (some .int) [(0, 10, 13, 13), (0, 10, 17, 15)] :: wsL_law) ({ frames := 7, cells := 1, slots := 6, locals := 105 }) (va_Pc [.ref x, .int a0, .int a1, .ref o3] (fun U => U.heap.size = sz ∧ va_P (dC, dI) vwCl [(eA1 o3 c3 1 f3), (eO11a x pa bk xsp xdy le xst xsc xim xil xik xmo xom wi), (eO0a bk bto bnm bla bsk bru bbo bdi bda bdk bdt bdp bno), (eA0 bto cTo 5 fTo), (eA4 bla cLa 4 (fun k => some (La k))), (eO1a (La 0) (FI 0) (GR 0) (FR 0)), (eO1a (La 1) (FI 1) (GR 1) (FR 1)), (eO1a (La 2) (FI 2) (GR 2) (FR 2)), (eO1a (La 3) (FI 3) (GR 3) (FR 3))] U.heap ∧ va_K (dC, dI) vwCl [(c3, .long), (cTo, .int), (cLa, .object RX1)] U ∧ va_D (fun _ => True) [(eA1 o3 c3 1 f3), (eO11a x pa bk xsp xdy le xst xsc xim xil xik xmo xom wi), (eO0a bk bto bnm bla bsk bru bbo bdi bda bdk bdt bdp bno), (eA0 bto cTo 5 fTo), (eA4 bla cLa 4 (fun k => some (La k))), (eO1a (La 0) (FI 0) (GR 0) (FR 0)), (eO1a (La 1) (FI 1) (GR 1) (FR 1)), (eO1a (La 2) (FI 2) (GR 2) (FR 2)), (eO1a (La 3) (FI 3) (GR 3) (FR 3))] ∧ xoL sL (va_A [(eA1 o3 c3 1 f3), (eO11a x pa bk xsp xdy le xst xsc xim xil xik xmo xom wi), (eO0a bk bto bnm bla bsk bru bbo bdi bda bdk bdt bdp bno), (eA0 bto cTo 5 fTo), (eA4 bla cLa 4 (fun k => some (La k))), (eO1a (La 0) (FI 0) (GR 0) (FR 0)), (eO1a (La 1) (FI 1) (GR 1) (FR 1)), (eO1a (La 2) (FI 2) (GR 2) (FR 2)), (eO1a (La 3) (FI 3) (GR 3) (FR 3))] sz) U U.heap)) (va_Qi (fun (r : Int32) (u : (Nat → Int64)) => r = (fL_look f3 fTo FI GR FR a0 a1).1 ∧ u = (fL_look f3 fTo FI GR FR a0 a1).2) (fun (u : (Nat → Int64)) t => va_P (dC, dI) vwCl [(eA1 o3 c3 1 u), (eO11a x pa bk xsp xdy le xst xsc xim xil xik xmo xom wi), (eO0a bk bto bnm bla bsk bru bbo bdi bda bdk bdt bdp bno), (eA0 bto cTo 5 fTo), (eA4 bla cLa 4 (fun k => some (La k))), (eO1a (La 0) (FI 0) (GR 0) (FR 0)), (eO1a (La 1) (FI 1) (GR 1) (FR 1)), (eO1a (La 2) (FI 2) (GR 2) (FR 2)), (eO1a (La 3) (FI 3) (GR 3) (FR 3))] t.heap ∧ va_K (dC, dI) vwCl [] t ∧ va_D (va_A [(eA1 o3 c3 1 f3), (eO11a x pa bk xsp xdy le xst xsc xim xil xik xmo xom wi), (eO0a bk bto bnm bla bsk bru bbo bdi bda bdk bdt bdp bno), (eA0 bto cTo 5 fTo), (eA4 bla cLa 4 (fun k => some (La k))), (eO1a (La 0) (FI 0) (GR 0) (FR 0)), (eO1a (La 1) (FI 1) (GR 1) (FR 1)), (eO1a (La 2) (FI 2) (GR 2) (FR 2)), (eO1a (La 3) (FI 3) (GR 3) (FR 3))] sz) [(eA1 o3 c3 1 u), (eO11a x pa bk xsp xdy le xst xsc xim xil xik xmo xom wi), (eO0a bk bto bnm bla bsk bru bbo bdi bda bdk bdt bdp bno), (eA0 bto cTo 5 fTo), (eA4 bla cLa 4 (fun k => some (La k))), (eO1a (La 0) (FI 0) (GR 0) (FR 0)), (eO1a (La 1) (FI 1) (GR 1) (FR 1)), (eO1a (La 2) (FI 2) (GR 2) (FR 2)), (eO1a (La 3) (FI 3) (GR 3) (FR 3))]) (va_A [(eA1 o3 c3 1 f3), (eO11a x pa bk xsp xdy le xst xsc xim xil xik xmo xom wi), (eO0a bk bto bnm bla bsk bru bbo bdi bda bdk bdt bdp bno), (eA0 bto cTo 5 fTo), (eA4 bla cLa 4 (fun k => some (La k))), (eO1a (La 0) (FI 0) (GR 0) (FR 0)), (eO1a (La 1) (FI 1) (GR 1) (FR 1)), (eO1a (La 2) (FI 2) (GR 2) (FR 2)), (eO1a (La 3) (FI 3) (GR 3) (FR 3))] sz)) 1 6 (va_A [(eA1 o3 c3 1 f3), (eO11a x pa bk xsp xdy le xst xsc xim xil xik xmo xom wi), (eO0a bk bto bnm bla bsk bru bbo bdi bda bdk bdt bdp bno), (eA0 bto cTo 5 fTo), (eA4 bla cLa 4 (fun k => some (La k))), (eO1a (La 0) (FI 0) (GR 0) (FR 0)), (eO1a (La 1) (FI 1) (GR 1) (FR 1)), (eO1a (La 2) (FI 2) (GR 2) (FR 2)), (eO1a (La 3) (FI 3) (GR 3) (FR 3))] sz) := by
  refine va_MetW (cc := cL_look) (maxL := 5) (ret := (some .int)) (hh := [(0, 10, 13, 13), (0, 10, 17, 15)]) (by decide) rfl ?_
  intro p e s m args below meth c s₁ B hml hv
  obtain ⟨rfl, hsz, hP, hK, hD0, hXL⟩ := hv
  have hx := B.exec
  have hb := B.bytes
  have hr := B.returns
  have hts := atoms_spec (ws := Cond.codeWith yL_look cL_look 5 (some .int) [(0, 10, 13, 13), (0, 10, 17, 15)] :: wsL_law) B.pre
  have htw : ∀ w ∈ wsL_law, w.before _ s = true := fun w h => hts w (List.mem_cons_of_mem _ h)
  have hown : s.vm.findClass RL = some m.cls := findClass_of_methodNamed B.named
  have hlocks := B.notSynchronized
  subst hsz
  have hD := hD0.self (sz := s.heap.size)
  generalize hAe : va_A [(eA1 o3 c3 1 f3), (eO11a x pa bk xsp xdy le xst xsc xim xil xik xmo xom wi), (eO0a bk bto bnm bla bsk bru bbo bdi bda bdk bdt bdp bno), (eA0 bto cTo 5 fTo), (eA4 bla cLa 4 (fun k => some (La k))), (eO1a (La 0) (FI 0) (GR 0) (FR 0)), (eO1a (La 1) (FI 1) (GR 1) (FR 1)), (eO1a (La 2) (FI 2) (GR 2) (FR 2)), (eO1a (La 3) (FI 3) (GR 3) (FR 3))] s.heap.size = A at hD hXL ⊢
  have hA : ∀ q : Nat, s.heap.size ≤ q → A q := fun q h => by rw [← hAe]; exact Or.inr h
  obtain ⟨H, rH⟩ : ∃ z : Heap, z = s.heap := ⟨_, rfl⟩
  have hS : va_S A s.heap H [] := by rw [rH]; exact va_S.rf
  have hP : va_P (dC, dI) vwCl [(eA1 o3 c3 1 f3), (eO11a x pa bk xsp xdy le xst xsc xim xil xik xmo xom wi), (eO0a bk bto bnm bla bsk bru bbo bdi bda bdk bdt bdp bno), (eA0 bto cTo 5 fTo), (eA4 bla cLa 4 (fun k => some (La k))), (eO1a (La 0) (FI 0) (GR 0) (FR 0)), (eO1a (La 1) (FI 1) (GR 1) (FR 1)), (eO1a (La 2) (FI 2) (GR 2) (FR 2)), (eO1a (La 3) (FI 3) (GR 3) (FR 3))] H := by rw [rH]; exact hP
  rw [← rH]
  have hl := lv_entry ([.ref x, .int a0, .int a1, .ref o3]) (n := 5) (Nat.le_of_ble_eq_true rfl)
  rw [lg_entry_eq]
  generalize (lg_sl ([.ref x, .int a0, .int a1, .ref o3]) ++ List.replicate (5 - (lg_sl ([.ref x, .int a0, .int a1, .ref o3])).length) Slot.unset).toArray = ls at hl ⊢
  have hl : lv_has ls 5 [(0, .ref x), (1, .int a0), (2, .int a1), (3, .ref o3)] := hl
  refine lv_aload_n hx hb dL_look_0 rfl (lv_at hl 3 rfl) ?_
  refine lv_iconst (v := 0) hx hb dL_look_1 (by decide) ?_
  refine lv_aload_n hx hb dL_look_2 rfl (lv_at hl 0 rfl) ?_
  refine lv_iload_n hx hb dL_look_3 rfl (lv_at hl 1 rfl) ?_
  refine lv_iload_n hx hb dL_look_4 rfl (lv_at hl 2 rfl) ?_
  obtain ⟨hPc, hDc, hFc, hCc⟩ := zsub3 (ws' := [(eO11a x pa bk xsp xdy le xst xsc xim xil xik xmo xom wi), (eO0a bk bto bnm bla bsk bru bbo bdi bda bdk bdt bdp bno), (eA0 bto cTo 5 fTo), (eA4 bla cLa 4 (fun k => some (La k))), (eO1a (La 0) (FI 0) (GR 0) (FR 0)), (eO1a (La 1) (FI 1) (GR 1) (FR 1)), (eO1a (La 2) (FI 2) (GR 2) (FR 2)), (eO1a (La 3) (FI 3) (GR 3) (FR 3))]) hP hD hS hA [1, 2, 3, 4, 5, 6, 7, 8] (by decide +kernel) rfl
  have hKc := hK.sub (tys' := [(cTo, .int), (cLa, .object RX1)]) [1, 2] rfl
  obtain ⟨X_1, hX_1⟩ : ∃ X9 : Int32 × Int32, X9 = (fx_look fTo FI GR FR a0 a1) := ⟨_, rfl⟩
  refine vx_calli (vx_runV (As := [.int a0, .int a1]) (rest := [.int 0, .ref o3]) ⟨hx, hb, hml, hown, htw⟩ (gx_look l hst dC dI x pa bk xsp xdy le xst xsc xim xil xik xmo xom wi bto bnm bla bsk bru bbo bdi bda bdk bdt bdp bno cTo fTo cLa La FI GR FR a0 a1 sL H.size) (cwV 2 htw (xg_V (ck_33 _ (List.mem_of_getElem? (i := 10) rfl)) (ck_33 _ (List.mem_of_getElem? (i := 11) rfl)) (ck_33 _ (List.mem_of_getElem? (i := 12) rfl)) (ck_1 _ (List.mem_of_getElem? (i := 2) rfl)) (ck_33 _ (List.mem_of_getElem? (i := 13) rfl))) rfl rfl rfl (by exact ⟨rfl, hdc_8.1, hdc_8.2, hdd_7⟩) ⟨Nat.le_of_ble_eq_true rfl, Nat.le_of_ble_eq_true rfl⟩) ⟨fun a U g mk q => by obtain ⟨q0, q1, qP, qK, qD, qx0⟩ := q; exact ⟨q0, q1, qP, va_K.moved (u := U) (U := U.calling g mk a) (Vm.Alike.refl U.vm) qK, qD, xo.calling qx0⟩, va_recv hKc hPc (ci := 11) (q0 := 0) rfl rfl, fun U hU hW => ⟨rfl, by rw [hU], by rw [hU]; exact hPc, va_K.moved hW.alike hKc, hDc.weaken (fun _ _ _ _ => trivial), by rw [hU]; exact xo.warm hW ((xo.kept hXL.1 hS.2.1).narrow hFc)⟩⟩ rfl rfl hl.1 rfl (lv_room (Nat.le_of_ble_eq_true rfl)) dL_look_5 ⟨Nat.le_of_ble_eq_true rfl, Nat.le_of_ble_eq_true rfl⟩) hS (fun q _ h => hFc q h) hFc (fun q _ h => hFc q h) (fun E ce q9 u_2 t H1 locs ht hvm hw hB hz1 hk1 hS hcell hcv hcl => ?_) (fun r_3 u_4 t H1 locs ht hvm hw hB hz1 hk1 hS => ?_)
  · obtain ⟨hE9, hB⟩ := hB
    obtain ⟨hP1, hK1, hD1⟩ := hB
    rw [ht] at hP1
    have hK1 := va_K.moved hvm.symm hK1
    have hK1 : va_K (dC, dI) vwCl [] s := hK1
    obtain ⟨hP, hD⟩ := va_join (wr := [(eA1 o3 c3 1 f3)]) (w1 := [(eO11a x pa bk xsp xdy le xst xsc xim xil xik xmo xom wi), (eO0a bk bto bnm bla bsk bru bbo bdi bda bdk bdt bdp bno), (eA0 bto cTo 5 fTo), (eA4 bla cLa 4 (fun k => some (La k))), (eO1a (La 0) (FI 0) (GR 0) (FR 0)), (eO1a (La 1) (FI 1) (GR 1) (FR 1)), (eO1a (La 2) (FI 2) (GR 2) (FR 2)), (eO1a (La 3) (FI 3) (GR 3) (FR 3))]) hP hD [1, 2, 3, 4, 5, 6, 7, 8] [0] hCc rfl (by decide +kernel) (by decide +kernel) hk1 hFc hP1 hD1
    generalize H1 = H at hP hS hcell ⊢
    obtain ⟨hP, hD⟩ := zre [(eA1 o3 c3 1 f3), (eO11a x pa bk xsp xdy le xst xsc xim xil xik xmo xom wi), (eO0a bk bto bnm bla bsk bru bbo bdi bda bdk bdt bdp bno), (eA0 bto cTo 5 fTo), (eA4 bla cLa 4 (fun k => some (La k))), (eO1a (La 0) (FI 0) (GR 0) (FR 0)), (eO1a (La 1) (FI 1) (GR 1) (FR 1)), (eO1a (La 2) (FI 2) (GR 2) (FR 2)), (eO1a (La 3) (FI 3) (GR 3) (FR 3))] hP hD rfl
    have htab := vx_table (x := yL_look) B (hts _ List.mem_cons_self)
    rcases hE9 with ⟨hE8, hE9⟩ | ⟨hE8, hE9⟩
    · subst hE9
      have hTX_1 : X_1.1 = 1 := by rw [hX_1]; exact hE8
      refine vx_catch (E := "java/lang/IndexOutOfBoundsException") (name := "java/lang/IndexOutOfBoundsException") hown [] { startPc := 0, endPc := 10, handlerPc := 13, catchType := 13 } [{ startPc := 0, endPc := 10, handlerPc := 17, catchType := 15 }] (htab.trans rfl) (fun z hz => by cases hz) (by decide) (by decide) (htw _ (ck_33 _ (List.mem_of_getElem? (i := 8) rfl))) (va_Nw.use rfl hXL.1.1.2.2.2.2.2.2.2) hcell hcv hcl ?_
      refine W.widen (k := 1) (n := 6) (by omega) (by omega) ?_
      refine W.eq (g2 := F0 m 13 ls [.ref q9]) rfl ?_
      refine lv_astore (lv' := [(4, .ref q9), (0, .ref x), (1, .int a0), (2, .int a1), (3, .ref o3)]) hx hb dL_look_13 hl (by decide) rfl (fun ls hl => ?_)
      refine lv_iconst (v := 1) hx hb dL_look_15 (by decide) ?_
      refine W.widen (k := 1) (n := 6) (by omega) (by omega) ?_
      have hP9 := hP
      have hD9 := hD
      have hK9 := hK.sub (tys' := []) [] rfl
      exact W.iret (v := 1) hx hb hr (fun t ht hW => ⟨⟨1, f3, rfl, ((fun e9 => ⟨by rw [e9], by rw [e9]⟩ : fL_look f3 fTo FI GR FR a0 a1 = ((1 : Int32), f3) → _) ((by rw [fL_look]; (try rw [← hX_1]); (try rw [xL_eq]); (try rw [if_pos hTX_1]); try rfl))), by rw [ht]; exact hP9, va_K.moved hW.alike hK9, hD9⟩, hS.F ht⟩) hS.2.2 dL_look_16
    · subst hE9
      have hTX_1 : X_1.1 = 2 := by rw [hX_1]; exact hE8
      have hUX_1 : ¬ X_1.1 = 1 := by rw [hTX_1]; decide
      refine vx_catch (E := "java/util/NoSuchElementException") (name := "java/util/NoSuchElementException") hown [{ startPc := 0, endPc := 10, handlerPc := 13, catchType := 13 }] { startPc := 0, endPc := 10, handlerPc := 17, catchType := 15 } [] (htab.trans rfl) (fun z hz => by rw [List.mem_singleton.mp hz]; exact Or.inr ⟨by decide, _, (htw _ (ck_33 _ (List.mem_of_getElem? (i := 8) rfl))), hXL.2⟩) (by decide) (by decide) (htw _ (ck_33 _ (List.mem_of_getElem? (i := 9) rfl))) (va_Nw.use rfl hXL.1.2.2.2.2.2.2.2.2) hcell hcv hcl ?_
      refine W.widen (k := 1) (n := 6) (by omega) (by omega) ?_
      refine W.eq (g2 := F0 m 17 ls [.ref q9]) rfl ?_
      refine lv_astore (lv' := [(4, .ref q9), (0, .ref x), (1, .int a0), (2, .int a1), (3, .ref o3)]) hx hb dL_look_17 hl (by decide) rfl (fun ls hl => ?_)
      refine lv_iconst (v := 2) hx hb dL_look_19 (by decide) ?_
      refine W.widen (k := 1) (n := 6) (by omega) (by omega) ?_
      have hP9 := hP
      have hD9 := hD
      have hK9 := hK.sub (tys' := []) [] rfl
      exact W.iret (v := 2) hx hb hr (fun t ht hW => ⟨⟨2, f3, rfl, ((fun e9 => ⟨by rw [e9], by rw [e9]⟩ : fL_look f3 fTo FI GR FR a0 a1 = ((2 : Int32), f3) → _) ((by rw [fL_look]; (try rw [← hX_1]); (try rw [xL_eq]); (try rw [if_neg hUX_1]); (try rw [if_pos hTX_1]); try rfl))), by rw [ht]; exact hP9, va_K.moved hW.alike hK9, hD9⟩, hS.F ht⟩) hS.2.2 dL_look_20
  · obtain ⟨hB, hsz9⟩ := hB
    obtain ⟨hP1, hK1, hD1⟩ := hB
    rw [ht] at hP1
    have hK1 := va_K.moved hvm.symm hK1
    have hK1 : va_K (dC, dI) vwCl [] s := hK1
    obtain ⟨hP, hD⟩ := va_join (wr := [(eA1 o3 c3 1 f3)]) (w1 := [(eO11a x pa bk xsp xdy le xst xsc xim xil xik xmo xom wi), (eO0a bk bto bnm bla bsk bru bbo bdi bda bdk bdt bdp bno), (eA0 bto cTo 5 fTo), (eA4 bla cLa 4 (fun k => some (La k))), (eO1a (La 0) (FI 0) (GR 0) (FR 0)), (eO1a (La 1) (FI 1) (GR 1) (FR 1)), (eO1a (La 2) (FI 2) (GR 2) (FR 2)), (eO1a (La 3) (FI 3) (GR 3) (FR 3))]) hP hD [1, 2, 3, 4, 5, 6, 7, 8] [0] rfl rfl (by decide +kernel) (by decide +kernel) hk1 hFc hP1 hD1
    generalize H1 = H at hP hS ⊢
    obtain ⟨hP, hD⟩ := zre [(eA1 o3 c3 1 f3), (eO11a x pa bk xsp xdy le xst xsc xim xil xik xmo xom wi), (eO0a bk bto bnm bla bsk bru bbo bdi bda bdk bdt bdp bno), (eA0 bto cTo 5 fTo), (eA4 bla cLa 4 (fun k => some (La k))), (eO1a (La 0) (FI 0) (GR 0) (FR 0)), (eO1a (La 1) (FI 1) (GR 1) (FR 1)), (eO1a (La 2) (FI 2) (GR 2) (FR 2)), (eO1a (La 3) (FI 3) (GR 3) (FR 3))] hP hD rfl
    have hTX_1 : ¬ X_1.1 = 1 := by rw [hX_1, hw.1]; decide
    have hUX_1 : ¬ X_1.1 = 2 := by rw [hX_1, hw.1]; decide
    have hq_r_3 : r_3 = X_1.2 := by rw [hX_1]; exact hw.2
    refine lv_i2l (v := r_3.toInt64) hx hb dL_look_8 rfl ?_
    refine va_last hx hb hK hP hD hS 0 0 rfl rfl (by unfold vp_in; decide) dL_look_9 (fun H locs hP hD hS => ?_)
    obtain ⟨hP, hD⟩ := zre [(eA1 o3 c3 1 (vp_updL f3 ((0 : Int32).toNatClampNeg) r_3.toInt64)), (eO11a x pa bk xsp xdy le xst xsc xim xil xik xmo xom wi), (eO0a bk bto bnm bla bsk bru bbo bdi bda bdk bdt bdp bno), (eA0 bto cTo 5 fTo), (eA4 bla cLa 4 (fun k => some (La k))), (eO1a (La 0) (FI 0) (GR 0) (FR 0)), (eO1a (La 1) (FI 1) (GR 1) (FR 1)), (eO1a (La 2) (FI 2) (GR 2) (FR 2)), (eO1a (La 3) (FI 3) (GR 3) (FR 3))] hP hD rfl
    refine lv_goto (tgt := 21) hx hb dL_look_10 (by decide) ?_
    refine lv_iconst (v := 0) hx hb dL_look_21 (by decide) ?_
    refine W.widen (k := 1) (n := 6) (by omega) (by omega) ?_
    have hP9 := hP
    have hD9 := hD
    have hK9 := hK.sub (tys' := []) [] rfl
    exact W.iret (v := 0) hx hb hr (fun t ht hW => ⟨⟨0, (vp_updL f3 ((0 : Int32).toNatClampNeg) r_3.toInt64), rfl, ((fun e9 => ⟨by rw [e9], by rw [e9]⟩ : fL_look f3 fTo FI GR FR a0 a1 = ((0 : Int32), (vp_updL f3 ((0 : Int32).toNatClampNeg) r_3.toInt64)) → _) ((by rw [fL_look]; (try rw [← hX_1]); (try rw [xL_eq]); (try rw [if_neg hTX_1]); (try rw [if_neg hUX_1]); (try rw [← hq_r_3]); try rfl))), by rw [ht]; exact hP9, va_K.moved hW.alike hK9, hD9⟩, hS.F ht⟩) hS.2.2 dL_look_22
