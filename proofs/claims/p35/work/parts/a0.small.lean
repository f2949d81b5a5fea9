theorem xd_add {lz a b : Int32} {f g : Nat → Int32} {u : (Int32) × (Nat → Int32) × (Nat → Int32)} (hu : u = fd_add lz f g a b) (h0 : ¬ lz < 0) (h2 : lz ≤ 20) : ¬ u.1 < 0 ∧ u.1 ≤ 20 := by
  subst hu
  unfold fd_add
  by_cases h : 20 ≤ lz
  · rw [if_pos h]
    exact ⟨h0, h2⟩
  · rw [if_neg h]
    exact ⟨show ¬ lz + 1 < 0 by lia, show lz + 1 ≤ 20 by lia⟩

theorem gz_dcopy_s0 {y0 : Int32} : y0 = y0 := by lia
set_option maxHeartbeats 4000000 in
set_option maxRecDepth 100000 in
theorem gz_dcopy (l : Launch) (dC : Nat → ClassId) (dI : Nat → Nat → Nat) (le : Nat) (lz : Int32) (lna : Nat) (lca : Nat) (cLn : ClassId) (fLn : Nat → Int32) (cLc : ClassId) (fLc : Nat → Int32) (l2 : Nat) (iz : Int32) (ina : Nat) (ica : Nat) (cIn : ClassId) (fIn : Nat → Int32) (cIc : ClassId) (fIc : Nat → Int32) (sz : Nat) : Met l yX2_copy (Cond.code yX2_copy cX2_copy 2 none :: wsL_law) ({ frames := 1, cells := 0, slots := 0, locals := 18 }) (va_Pc [.ref le, .ref l2] (fun U => U.heap.size = sz ∧ va_P (dC, dI) vwCl [(eO2a le lz lna lca), (eA0 lna cLn 20 fLn), (eA0 lca cLc 20 fLc), (eO2a l2 iz ina ica), (eA0 ina cIn 20 fIn), (eA0 ica cIc 20 fIc)] U.heap ∧ va_K (dC, dI) vwCl [(cLn, .int), (cLc, .int), (cIn, .int), (cIc, .int)] U ∧ va_D (fun _ => True) [(eO2a le lz lna lca), (eA0 lna cLn 20 fLn), (eA0 lca cLc 20 fLc), (eO2a l2 iz ina ica), (eA0 ina cIn 20 fIn), (eA0 ica cIc 20 fIc)])) (va_Qv (fun (u : (Int32) × (Nat → Int32) × (Nat → Int32)) => (u = fd_copy fLn fLc iz fIn fIc) ∧ (u.1 = iz)) (fun (u : (Int32) × (Nat → Int32) × (Nat → Int32)) t => va_P (dC, dI) vwCl [(eO2a le u.1 lna lca), (eA0 lna cLn 20 u.2.1), (eA0 lca cLc 20 u.2.2), (eO2a l2 iz ina ica), (eA0 ina cIn 20 fIn), (eA0 ica cIc 20 fIc)] t.heap ∧ va_K (dC, dI) vwCl [] t ∧ va_D (va_A [(eO2a le lz lna lca), (eA0 lna cLn 20 fLn), (eA0 lca cLc 20 fLc), (eO2a l2 iz ina ica), (eA0 ina cIn 20 fIn), (eA0 ica cIc 20 fIc)] sz) [(eO2a le u.1 lna lca), (eA0 lna cLn 20 u.2.1), (eA0 lca cLc 20 u.2.2), (eO2a l2 iz ina ica), (eA0 ina cIn 20 fIn), (eA0 ica cIc 20 fIc)]) (va_A [(eO2a le lz lna lca), (eA0 lna cLn 20 fLn), (eA0 lca cLc 20 fLc), (eO2a l2 iz ina ica), (eA0 ina cIn 20 fIn), (eA0 ica cIc 20 fIc)] sz)) 0 0 (va_A [(eO2a le lz lna lca), (eA0 lna cLn 20 fLn), (eA0 lca cLc 20 fLc), (eO2a l2 iz ina ica), (eA0 ina cIn 20 fIn), (eA0 ica cIc 20 fIc)] sz) := by
  refine Met.ofW (cc := cX2_copy) (maxL := 2) (ret := none) (by decide) rfl ?_
  intro p e s m args below meth c s₁ B hml hv
  obtain ⟨rfl, hsz, hP, hK, hD0⟩ := hv
  have hx := B.exec
  have hb := B.bytes
  have hr := B.returns
  have hts := atoms_spec (ws := Cond.code yX2_copy cX2_copy 2 none :: wsL_law) B.pre
  have htw : ∀ w ∈ wsL_law, w.before _ s = true := fun w h => hts w (List.mem_cons_of_mem _ h)
  have hown : s.vm.findClass RX2 = some m.cls := findClass_of_methodNamed B.named
  have hlocks := B.notSynchronized
  subst hsz
  have hD := hD0.self (sz := s.heap.size)
  generalize hAe : va_A [(eO2a le lz lna lca), (eA0 lna cLn 20 fLn), (eA0 lca cLc 20 fLc), (eO2a l2 iz ina ica), (eA0 ina cIn 20 fIn), (eA0 ica cIc 20 fIc)] s.heap.size = A at hD ⊢
  have hA : ∀ q : Nat, s.heap.size ≤ q → A q := fun q h => by rw [← hAe]; exact Or.inr h
  obtain ⟨H, rH⟩ : ∃ z : Heap, z = s.heap := ⟨_, rfl⟩
  have hS : va_S A s.heap H [] := by rw [rH]; exact va_S.rf
  have hP : va_P (dC, dI) vwCl [(eO2a le lz lna lca), (eA0 lna cLn 20 fLn), (eA0 lca cLc 20 fLc), (eO2a l2 iz ina ica), (eA0 ina cIn 20 fIn), (eA0 ica cIc 20 fIc)] H := by rw [rH]; exact hP
  rw [← rH]
  have hl := lv_entry ([.ref le, .ref l2]) (n := 2) (Nat.le_of_ble_eq_true rfl)
  rw [lg_entry_eq]
  generalize (lg_sl ([.ref le, .ref l2]) ++ List.replicate (2 - (lg_sl ([.ref le, .ref l2])).length) Slot.unset).toArray = ls at hl ⊢
  have hl : lv_has ls 2 [(0, .ref le), (1, .ref l2)] := hl
  refine lv_aload_n hx hb dX2_copy_0 rfl (lv_at hl 1 rfl) ?_
  refine lv_ifnonnull (tgt := 5) hx hb dX2_copy_1 (by decide) ?_
  refine lv_aload_n hx hb dX2_copy_5 rfl (lv_at hl 0 rfl) ?_
  refine lv_aload_n hx hb dX2_copy_6 rfl (lv_at hl 1 rfl) ?_
  refine va_get (D := (dC, dI)) (ci := 2) (v := .int iz) (C := RX2) (T := TX2) (N := 3) hx hb htw inlX2 hown hK hP 3 rfl rfl 0 (by decide) (htw _ (ck_63 _ (List.mem_of_getElem? (i := 0) rfl))) (fun _ h9 => h9) rfl dX2_copy_7 ?_
  refine va_put (D := (dC, dI)) (ci := 2) (v := .int iz) (ty := tyX2 0) (C := RX2) (T := TX2) (N := 3) hx hb htw inlX2 tyX2 tyX2_ok nmX2 hown hK hP hD hS 0 rfl rfl 0 (by decide) (htw _ (ck_63 _ (List.mem_of_getElem? (i := 0) rfl))) (fun _ h9 => h9) rfl (tyX2_ok 0 (by decide)) rfl rfl (Nat.le_of_ble_eq_true rfl) dX2_copy_10 (fun H locs hP hD hS => ?_)
  obtain ⟨hP, hD⟩ := zre [(eO2a le iz lna lca), (eA0 lna cLn 20 fLn), (eA0 lca cLc 20 fLc), (eO2a l2 iz ina ica), (eA0 ina cIn 20 fIn), (eA0 ica cIc 20 fIc)] hP hD rfl
  refine lv_aload_n hx hb dX2_copy_13 rfl (lv_at hl 1 rfl) ?_
  refine va_get (D := (dC, dI)) (ci := 2) (v := .ref ina) (C := RX2) (T := TX2) (N := 3) hx hb htw inlX2 hown hK hP 3 rfl rfl 1 (by decide) (htw _ (ck_8 _ (List.mem_of_getElem? (i := 22) rfl))) (fun _ h9 => h9) rfl dX2_copy_14 ?_
  refine lv_iconst (v := 0) hx hb dX2_copy_17 (by decide) ?_
  refine lv_aload_n hx hb dX2_copy_18 rfl (lv_at hl 0 rfl) ?_
  refine va_get (D := (dC, dI)) (ci := 2) (v := .ref lna) (C := RX2) (T := TX2) (N := 3) hx hb htw inlX2 hown hK hP 0 rfl rfl 1 (by decide) (htw _ (ck_8 _ (List.mem_of_getElem? (i := 22) rfl))) (fun _ h9 => h9) rfl dX2_copy_19 ?_
  refine lv_iconst (v := 0) hx hb dX2_copy_22 (by decide) ?_
  refine lv_bipush (v := 20) hx hb dX2_copy_23 (by decide) ?_
  refine va_copyi (ty := .int) hx hb (by rw [hml]; exact hl.1.symm) hown (htw _ (ck_65 _ (List.mem_of_getElem? (i := 11) rfl))) (htw _ (ck_65 _ (List.mem_of_getElem? (i := 4) rfl))) (htw _ (ck_65 _ (List.mem_of_getElem? (i := 5) rfl))) (htw _ (ck_65 _ (List.mem_of_getElem? (i := 6) rfl))) hK hP hD hS 4 1 2 0 rfl rfl rfl rfl rfl (by decide) (by decide) (by decide) (by decide) (by decide) (fun _ _ => rfl) (Nat.le_of_ble_eq_true rfl) (Nat.le_of_ble_eq_true rfl) dX2_copy_25 (fun H locs hP hD hS => ?_)
  obtain ⟨hP, hD⟩ := zre [(eO2a le iz lna lca), (eA0 lna cLn 20 (va_cpy fIn fLn (0 : Int32).toNatClampNeg (0 : Int32).toNatClampNeg (20 : Int32).toNatClampNeg)), (eA0 lca cLc 20 fLc), (eO2a l2 iz ina ica), (eA0 ina cIn 20 fIn), (eA0 ica cIc 20 fIc)] hP hD rfl
  refine lv_aload_n hx hb dX2_copy_28 rfl (lv_at hl 1 rfl) ?_
  refine va_get (D := (dC, dI)) (ci := 2) (v := .ref ica) (C := RX2) (T := TX2) (N := 3) hx hb htw inlX2 hown hK hP 3 rfl rfl 2 (by decide) (htw _ (ck_8 _ (List.mem_of_getElem? (i := 23) rfl))) (fun _ h9 => h9) rfl dX2_copy_29 ?_
  refine lv_iconst (v := 0) hx hb dX2_copy_32 (by decide) ?_
  refine lv_aload_n hx hb dX2_copy_33 rfl (lv_at hl 0 rfl) ?_
  refine va_get (D := (dC, dI)) (ci := 2) (v := .ref lca) (C := RX2) (T := TX2) (N := 3) hx hb htw inlX2 hown hK hP 0 rfl rfl 2 (by decide) (htw _ (ck_8 _ (List.mem_of_getElem? (i := 23) rfl))) (fun _ h9 => h9) rfl dX2_copy_34 ?_
  refine lv_iconst (v := 0) hx hb dX2_copy_37 (by decide) ?_
  refine lv_bipush (v := 20) hx hb dX2_copy_38 (by decide) ?_
  refine va_copyi (ty := .int) hx hb (by rw [hml]; exact hl.1.symm) hown (htw _ (ck_65 _ (List.mem_of_getElem? (i := 11) rfl))) (htw _ (ck_65 _ (List.mem_of_getElem? (i := 4) rfl))) (htw _ (ck_65 _ (List.mem_of_getElem? (i := 5) rfl))) (htw _ (ck_65 _ (List.mem_of_getElem? (i := 6) rfl))) hK hP hD hS 5 2 3 1 rfl rfl rfl rfl rfl (by decide) (by decide) (by decide) (by decide) (by decide) (fun _ _ => rfl) (Nat.le_of_ble_eq_true rfl) (Nat.le_of_ble_eq_true rfl) dX2_copy_40 (fun H locs hP hD hS => ?_)
  obtain ⟨hP, hD⟩ := zre [(eO2a le iz lna lca), (eA0 lna cLn 20 (va_cpy fIn fLn (0 : Int32).toNatClampNeg (0 : Int32).toNatClampNeg (20 : Int32).toNatClampNeg)), (eA0 lca cLc 20 (va_cpy fIc fLc (0 : Int32).toNatClampNeg (0 : Int32).toNatClampNeg (20 : Int32).toNatClampNeg)), (eO2a l2 iz ina ica), (eA0 ina cIn 20 fIn), (eA0 ica cIc 20 fIc)] hP hD rfl
  refine W.widen (k := 0) (n := 0) (by omega) (by omega) ?_
  have hP9 := hP
  have hD9 := hD
  have hK9 := hK.sub (tys' := []) [] rfl
  exact W.vret hx hb hr (fun t ht hW => ⟨⟨(iz, (va_cpy fIn fLn (0 : Int32).toNatClampNeg (0 : Int32).toNatClampNeg (20 : Int32).toNatClampNeg), (va_cpy fIc fLc (0 : Int32).toNatClampNeg (0 : Int32).toNatClampNeg (20 : Int32).toNatClampNeg)), rfl, ⟨(Eq.symm ((by rw [fd_copy]))), (gz_dcopy_s0 (y0 := iz))⟩, by rw [ht]; exact hP9, va_K.moved hW.alike hK9, hD9⟩, hS.F ht⟩) hS.2.2 dX2_copy_43

theorem gz_note_s0 {y0 : Int32} (h0 : ¬ (y0 < 0)) (h1 : y0 ≤ 108) : ¬ (y0 < 0) := h0
theorem gz_note_s1 {y0 : Int32} (h0 : ¬ (y0 < 0)) (h1 : y0 ≤ 108) : y0 ≤ 108 := h1
theorem gz_note_s2 {y0 : Int32} (h0 : y0 < 108) (h1 : ¬ (y0 < 0)) (h2 : y0 ≤ 108) : ¬ (y0 < 0) ∧ ¬ (108 ≤ y0) := by lia
theorem gz_note_s3 {y0 : Int32} (h0 : y0 < 108) (h1 : ¬ (y0 < 0)) (h2 : y0 ≤ 108) : ¬ ((y0 + 1) < 0) := by lia
theorem gz_note_s4 {y0 : Int32} (h0 : y0 < 108) (h1 : ¬ (y0 < 0)) (h2 : y0 ≤ 108) : (y0 + 1) ≤ 108 := by lia
theorem gz_note_s5 {y0 : Int32} (h0 : ¬ (y0 < 108)) (h1 : ¬ (y0 < 0)) (h2 : y0 ≤ 108) : ¬ (y0 < 0) := h1
theorem gz_note_s6 {y0 : Int32} (h0 : ¬ (y0 < 108)) (h1 : ¬ (y0 < 0)) (h2 : y0 ≤ 108) : y0 ≤ 108 := h2
set_option maxHeartbeats 4000000 in
set_option maxRecDepth 100000 in
theorem gz_note (l : Launch) (dC : Nat → ClassId) (dI : Nat → Nat → Nat) (x : Nat) (pa : Nat) (bk : Nat) (xsp : Nat) (xdy : Nat) (le : Nat) (xst : Nat) (xsc : Int32) (xim : Nat) (xil : Nat) (xik : Int32) (xmo : Nat) (xom : Nat) (wi : Nat) (cSt : ClassId) (fSt : Nat → Int32) (drw : Nat) (dfr : Int32) (dsh : Nat) (dto : Nat) (dmo : Nat) (dwi : Nat) (bto : Nat) (bnm : Nat) (bla : Nat) (bsk : Nat) (bru : Nat) (bbo : Nat) (bdi : Nat) (bda : Nat) (bdk : Nat) (bdt : Nat) (bdp : Nat) (bno : Nat) (ns : Int32) (nsa : Nat) (nfa : Nat) (nza : Nat) (cNs : ClassId) (fNs : Nat → Int32) (sz : Nat) (h0_sc : ¬ xsc < 0) (h8_sc : xsc ≤ 108) : Met l yX11_note (Cond.code yX11_note cX11_note 3 (some .int) :: wsL_law) ({ frames := 2, cells := 0, slots := 0, locals := 35 }) (va_Pc [.ref x] (fun U => U.heap.size = sz ∧ va_P (dC, dI) vwCl [(eO11a x pa bk xsp xdy le xst xsc xim xil xik xmo xom wi), (eA0 xst cSt 108 fSt), (eO5a xdy drw dfr dsh dto dmo dwi), (eO0a bk bto bnm bla bsk bru bbo bdi bda bdk bdt bdp bno), (eO6a bno ns nsa nfa nza), (eA0 nsa cNs 12 fNs)] U.heap ∧ va_K (dC, dI) vwCl [(cSt, .int), (cNs, .int)] U ∧ va_D (fun _ => True) [(eO11a x pa bk xsp xdy le xst xsc xim xil xik xmo xom wi), (eA0 xst cSt 108 fSt), (eO5a xdy drw dfr dsh dto dmo dwi), (eO0a bk bto bnm bla bsk bru bbo bdi bda bdk bdt bdp bno), (eO6a bno ns nsa nfa nza), (eA0 nsa cNs 12 fNs)])) (va_Qi (fun (r : Int32) (u : (Int32) × (Nat → Int32) × (Int32) × (Nat → Int32) × (Int32)) => (r = (fx_note xsc fSt dfr ns fNs).1 ∧ u = (fx_note xsc fSt dfr ns fNs).2) ∧ (¬ u.1 < 0) ∧ (u.1 ≤ 108)) (fun (u : (Int32) × (Nat → Int32) × (Int32) × (Nat → Int32) × (Int32)) t => va_P (dC, dI) vwCl [(eO11a x pa bk xsp xdy le xst u.1 xim xil xik xmo xom wi), (eA0 xst cSt 108 u.2.1), (eO5a xdy drw u.2.2.2.2 dsh dto dmo dwi), (eO0a bk bto bnm bla bsk bru bbo bdi bda bdk bdt bdp bno), (eO6a bno u.2.2.1 nsa nfa nza), (eA0 nsa cNs 12 u.2.2.2.1)] t.heap ∧ va_K (dC, dI) vwCl [] t ∧ va_D (va_A [(eO11a x pa bk xsp xdy le xst xsc xim xil xik xmo xom wi), (eA0 xst cSt 108 fSt), (eO5a xdy drw dfr dsh dto dmo dwi), (eO0a bk bto bnm bla bsk bru bbo bdi bda bdk bdt bdp bno), (eO6a bno ns nsa nfa nza), (eA0 nsa cNs 12 fNs)] sz) [(eO11a x pa bk xsp xdy le xst u.1 xim xil xik xmo xom wi), (eA0 xst cSt 108 u.2.1), (eO5a xdy drw u.2.2.2.2 dsh dto dmo dwi), (eO0a bk bto bnm bla bsk bru bbo bdi bda bdk bdt bdp bno), (eO6a bno u.2.2.1 nsa nfa nza), (eA0 nsa cNs 12 u.2.2.2.1)]) (va_A [(eO11a x pa bk xsp xdy le xst xsc xim xil xik xmo xom wi), (eA0 xst cSt 108 fSt), (eO5a xdy drw dfr dsh dto dmo dwi), (eO0a bk bto bnm bla bsk bru bbo bdi bda bdk bdt bdp bno), (eO6a bno ns nsa nfa nza), (eA0 nsa cNs 12 fNs)] sz)) 0 0 (va_A [(eO11a x pa bk xsp xdy le xst xsc xim xil xik xmo xom wi), (eA0 xst cSt 108 fSt), (eO5a xdy drw dfr dsh dto dmo dwi), (eO0a bk bto bnm bla bsk bru bbo bdi bda bdk bdt bdp bno), (eO6a bno ns nsa nfa nza), (eA0 nsa cNs 12 fNs)] sz) := by
  refine Met.ofW (cc := cX11_note) (maxL := 3) (ret := (some .int)) (by decide) rfl ?_
  intro p e s m args below meth c s₁ B hml hv
  obtain ⟨rfl, hsz, hP, hK, hD0⟩ := hv
  have hx := B.exec
  have hb := B.bytes
  have hr := B.returns
  have hts := atoms_spec (ws := Cond.code yX11_note cX11_note 3 (some .int) :: wsL_law) B.pre
  have htw : ∀ w ∈ wsL_law, w.before _ s = true := fun w h => hts w (List.mem_cons_of_mem _ h)
  have hown : s.vm.findClass RX11 = some m.cls := findClass_of_methodNamed B.named
  have hlocks := B.notSynchronized
  subst hsz
  have hD := hD0.self (sz := s.heap.size)
  generalize hAe : va_A [(eO11a x pa bk xsp xdy le xst xsc xim xil xik xmo xom wi), (eA0 xst cSt 108 fSt), (eO5a xdy drw dfr dsh dto dmo dwi), (eO0a bk bto bnm bla bsk bru bbo bdi bda bdk bdt bdp bno), (eO6a bno ns nsa nfa nza), (eA0 nsa cNs 12 fNs)] s.heap.size = A at hD ⊢
  have hA : ∀ q : Nat, s.heap.size ≤ q → A q := fun q h => by rw [← hAe]; exact Or.inr h
  obtain ⟨H, rH⟩ : ∃ z : Heap, z = s.heap := ⟨_, rfl⟩
  have hS : va_S A s.heap H [] := by rw [rH]; exact va_S.rf
  have hP : va_P (dC, dI) vwCl [(eO11a x pa bk xsp xdy le xst xsc xim xil xik xmo xom wi), (eA0 xst cSt 108 fSt), (eO5a xdy drw dfr dsh dto dmo dwi), (eO0a bk bto bnm bla bsk bru bbo bdi bda bdk bdt bdp bno), (eO6a bno ns nsa nfa nza), (eA0 nsa cNs 12 fNs)] H := by rw [rH]; exact hP
  rw [← rH]
  have hl := lv_entry ([.ref x]) (n := 3) (Nat.le_of_ble_eq_true rfl)
  rw [lg_entry_eq]
  generalize (lg_sl ([.ref x]) ++ List.replicate (3 - (lg_sl ([.ref x])).length) Slot.unset).toArray = ls at hl ⊢
  have hl : lv_has ls 3 [(0, .ref x)] := hl
  refine lv_aload_n hx hb dX11_note_0 rfl (lv_at hl 0 rfl) ?_
  refine va_get (D := (dC, dI)) (ci := 11) (v := .ref bk) (C := RX11) (T := TX11) (N := 13) hx hb htw inlX11 hown hK hP 0 rfl rfl 1 (by decide) (htw _ (ck_1 _ (List.mem_of_getElem? (i := 21) rfl))) (fun _ h9 => h9) rfl dX11_note_1 ?_
  refine va_get (D := (dC, dI)) (ci := 0) (v := .ref bno) (C := RX0) (T := TX0) (N := 12) hx hb htw inlX0 hown hK hP 3 rfl rfl 11 (by decide) (htw _ (ck_52 _ (List.mem_of_getElem? (i := 7) rfl))) (fun _ h9 => h9) rfl dX11_note_4 ?_
  refine lv_astore_n (lv' := [(1, .ref bno), (0, .ref x)]) hx hb dX11_note_7 rfl hl (by decide) rfl (fun ls hl => ?_)
  refine lv_aload_n hx hb dX11_note_8 rfl (lv_at hl 0 rfl) ?_
  refine va_get (D := (dC, dI)) (ci := 6) (v := .int ns) (C := RX6) (T := TX6) (N := 4) hx hb htw inlX6 hown hK hP 4 rfl rfl 0 (by decide) (htw _ (ck_52 _ (List.mem_of_getElem? (i := 8) rfl))) (fun _ h9 => h9) rfl dX11_note_9 ?_
  refine lv_bipush (v := 12) hx hb dX11_note_12 (by decide) ?_
  refine lv_icmp_ge (tgt := 29) hx hb dX11_note_14 (by decide) (fun c_1 => ?_) (fun c_1 => ?_)
  · refine lv_iconst (v := (-1)) hx hb dX11_note_29 (by decide) ?_
    refine W.widen (k := 0) (n := 0) (by omega) (by omega) ?_
    have hP9 := hP
    have hD9 := hD
    have hK9 := hK.sub (tys' := []) [] rfl
    exact W.iret (v := (-1)) hx hb hr (fun t ht hW => ⟨⟨(-1), (xsc, fSt, ns, fNs, dfr), rfl, ⟨((fun e9 => ⟨by rw [e9], by rw [e9]⟩ : fx_note xsc fSt dfr ns fNs = ((-1 : Int32), xsc, fSt, ns, fNs, dfr) → _) ((by rw [fx_note]; (try rw [if_pos c_1]); try rfl))), (gz_note_s0 (y0 := xsc) h0_sc h8_sc), (gz_note_s1 (y0 := xsc) h0_sc h8_sc)⟩, by rw [ht]; exact hP9, va_K.moved hW.alike hK9, hD9⟩, hS.F ht⟩) hS.2.2 dX11_note_30
  · refine lv_aload_n hx hb dX11_note_17 rfl (lv_at hl 1 rfl) ?_
    refine va_get (D := (dC, dI)) (ci := 11) (v := .int xsc) (C := RX11) (T := TX11) (N := 13) hx hb htw inlX11 hown hK hP 0 rfl rfl 6 (by decide) (htw _ (ck_12 _ (List.mem_of_getElem? (i := 22) rfl))) (fun _ h9 => h9) rfl dX11_note_18 ?_
    refine lv_aload_n hx hb dX11_note_21 rfl (lv_at hl 1 rfl) ?_
    refine va_get (D := (dC, dI)) (ci := 11) (v := .ref xst) (C := RX11) (T := TX11) (N := 13) hx hb htw inlX11 hown hK hP 0 rfl rfl 5 (by decide) (htw _ (ck_2 _ (List.mem_of_getElem? (i := 8) rfl))) (fun _ h9 => h9) rfl dX11_note_22 ?_
    refine va_alen hx hb hK hP 1 0 rfl rfl (v := 108) rfl dX11_note_25 ?_
    refine lv_icmp_lt (tgt := 31) hx hb dX11_note_26 (by decide) (fun c_2 => ?_) (fun c_2 => ?_)
    · refine lv_aload_n hx hb dX11_note_31 rfl (lv_at hl 0 rfl) ?_
      refine va_get (D := (dC, dI)) (ci := 6) (v := .int ns) (C := RX6) (T := TX6) (N := 4) hx hb htw inlX6 hown hK hP 4 rfl rfl 0 (by decide) (htw _ (ck_52 _ (List.mem_of_getElem? (i := 8) rfl))) (fun _ h9 => h9) rfl dX11_note_32 ?_
      refine lv_istore_n (lv' := [(2, .int ns), (1, .ref bno), (0, .ref x)]) hx hb dX11_note_35 rfl hl (by decide) rfl (fun ls hl => ?_)
      refine lv_aload_n hx hb dX11_note_36 rfl (lv_at hl 1 rfl) ?_
      refine lv_iload_n hx hb dX11_note_37 rfl (lv_at hl 0 rfl) ?_
      obtain ⟨hPc, hDc, hFc, hCc⟩ := zsub3 (ws' := [(eO6a bno ns nsa nfa nza), (eA0 nsa cNs 12 fNs)]) hP hD hS hA [4, 5] (by decide) rfl
      have hKc := hK.sub (tys' := [(cNs, .int)]) [1] rfl
      refine va_callv (va_runV (As := [.int ns]) (rest := []) ⟨hx, hb, hml, hown, htw⟩ (gn_begin l dC dI bno ns nsa nfa nza cNs fNs ns H.size) (cwV 1 htw (xg_V (ck_52 _ (List.mem_of_getElem? (i := 9) rfl)) (ck_23 _ (List.mem_of_getElem? (i := 3) rfl)) (ck_23 _ (List.mem_of_getElem? (i := 4) rfl)) (ck_2 _ (List.mem_of_getElem? (i := 11) rfl)) (ck_23 _ (List.mem_of_getElem? (i := 5) rfl))) rfl rfl rfl (by exact ⟨rfl, hdc_3.1, hdc_3.2, hdd_9⟩) ⟨Nat.le_of_ble_eq_true rfl, Nat.le_of_ble_eq_true rfl⟩) ⟨fun a U g mk q => by obtain ⟨q0, q1, qP, qK, qD⟩ := q; exact ⟨q0, q1, qP, va_K.moved (u := U) (U := U.calling g mk a) (Vm.Alike.refl U.vm) qK, qD⟩, va_recv hKc hPc (ci := 6) (q0 := 0) rfl rfl, fun U hU hW => ⟨rfl, by rw [hU], by rw [hU]; exact hPc, va_K.moved hW.alike hKc, hDc.weaken (fun _ _ _ _ => trivial)⟩⟩ rfl rfl hl.1 rfl (lv_room (Nat.le_of_ble_eq_true rfl)) dX11_note_38 ⟨Nat.le_of_ble_eq_true rfl, Nat.le_of_ble_eq_true rfl⟩) hS (fun q _ h => hFc q h) hFc (fun u_4 t H1 locs ht hvm hw hB hz1 hk1 hS => ?_)
      try dsimp only at hw
      obtain ⟨hP1, hK1, hD1⟩ := hB
      rw [ht] at hP1
      have hK1 := va_K.moved hvm.symm hK1
      have hK1 : va_K (dC, dI) vwCl [] s := hK1
      obtain ⟨hP, hD⟩ := va_join (wr := [(eO11a x pa bk xsp xdy le xst xsc xim xil xik xmo xom wi), (eA0 xst cSt 108 fSt), (eO5a xdy drw dfr dsh dto dmo dwi), (eO0a bk bto bnm bla bsk bru bbo bdi bda bdk bdt bdp bno)]) (w1 := [(eO6a bno ns nsa nfa nza), (eA0 nsa cNs 12 u_4)]) hP hD [4, 5] [0, 1, 2, 3] hCc rfl (by decide) (by decide) hk1 hFc hP1 hD1
      generalize H1 = H at hP hS ⊢
      obtain ⟨hP, hD⟩ := zre [(eO11a x pa bk xsp xdy le xst xsc xim xil xik xmo xom wi), (eA0 xst cSt 108 fSt), (eO5a xdy drw dfr dsh dto dmo dwi), (eO0a bk bto bnm bla bsk bru bbo bdi bda bdk bdt bdp bno), (eO6a bno ns nsa nfa nza), (eA0 nsa cNs 12 u_4)] hP hD rfl
      refine W.widen (k := 0) (n := 0) (by omega) (by omega) ?_
      have hq_u_4 : u_4 = (fn_begin fNs ns) := hw
      refine lv_aload_n hx hb dX11_note_41 rfl (lv_at hl 1 rfl) ?_
      refine lv_dup hx hb dX11_note_42 rfl ?_
      refine va_get (D := (dC, dI)) (ci := 6) (v := .int ns) (C := RX6) (T := TX6) (N := 4) hx hb htw inlX6 hown hK hP 4 rfl rfl 0 (by decide) (htw _ (ck_52 _ (List.mem_of_getElem? (i := 8) rfl))) (fun _ h9 => h9) rfl dX11_note_43 ?_
      refine lv_iconst (v := 1) hx hb dX11_note_46 (by decide) ?_
      refine lv_iadd hx hb dX11_note_47 ?_
      refine va_put (D := (dC, dI)) (ci := 6) (v := .int (ns + 1)) (ty := tyX6 0) (C := RX6) (T := TX6) (N := 4) hx hb htw inlX6 tyX6 tyX6_ok nmX6 hown hK hP hD hS 4 rfl rfl 0 (by decide) (htw _ (ck_52 _ (List.mem_of_getElem? (i := 8) rfl))) (fun _ h9 => h9) rfl (tyX6_ok 0 (by decide)) rfl rfl (Nat.le_of_ble_eq_true rfl) dX11_note_48 (fun H locs hP hD hS => ?_)
      obtain ⟨hP, hD⟩ := zre [(eO11a x pa bk xsp xdy le xst xsc xim xil xik xmo xom wi), (eA0 xst cSt 108 fSt), (eO5a xdy drw dfr dsh dto dmo dwi), (eO0a bk bto bnm bla bsk bru bbo bdi bda bdk bdt bdp bno), (eO6a bno (ns + 1) nsa nfa nza), (eA0 nsa cNs 12 u_4)] hP hD rfl
      refine lv_aload_n hx hb dX11_note_51 rfl (lv_at hl 2 rfl) ?_
      refine va_get (D := (dC, dI)) (ci := 11) (v := .ref xdy) (C := RX11) (T := TX11) (N := 13) hx hb htw inlX11 hown hK hP 0 rfl rfl 3 (by decide) (htw _ (ck_2 _ (List.mem_of_getElem? (i := 2) rfl))) (fun _ h9 => h9) rfl dX11_note_52 ?_
      refine lv_iload_n hx hb dX11_note_55 rfl (lv_at hl 0 rfl) ?_
      obtain ⟨hPc, hDc, hFc, hCc⟩ := zsub3 (ws' := [(eO5a xdy drw dfr dsh dto dmo dwi)]) hP hD hS hA [2] (by decide) rfl
      have hKc := hK.sub (tys' := []) [] rfl
      refine va_callv (va_runV (As := [.int ns]) (rest := []) ⟨hx, hb, hml, hown, htw⟩ (gd_stale l dC dI xdy drw dfr dsh dto dmo dwi ns H.size) (cwV 1 htw (xg_V (ck_24 _ (List.mem_of_getElem? (i := 0) rfl)) (ck_24 _ (List.mem_of_getElem? (i := 1) rfl)) (ck_24 _ (List.mem_of_getElem? (i := 2) rfl)) (ck_2 _ (List.mem_of_getElem? (i := 1) rfl)) (ck_24 _ (List.mem_of_getElem? (i := 3) rfl))) rfl rfl rfl (by exact ⟨rfl, hdc_10.1, hdc_10.2, hdd_9⟩) ⟨Nat.le_of_ble_eq_true rfl, Nat.le_of_ble_eq_true rfl⟩) ⟨fun a U g mk q => by obtain ⟨q0, q1, qP, qK, qD⟩ := q; exact ⟨q0, q1, qP, va_K.moved (u := U) (U := U.calling g mk a) (Vm.Alike.refl U.vm) qK, qD⟩, va_recv hKc hPc (ci := 5) (q0 := 0) rfl rfl, fun U hU hW => ⟨rfl, by rw [hU], by rw [hU]; exact hPc, va_K.moved hW.alike hKc, hDc.weaken (fun _ _ _ _ => trivial)⟩⟩ rfl rfl hl.1 rfl (lv_room (Nat.le_of_ble_eq_true rfl)) dX11_note_56 ⟨Nat.le_of_ble_eq_true rfl, Nat.le_of_ble_eq_true rfl⟩) hS (fun q _ h => hFc q h) hFc (fun u_7 t H1 locs ht hvm hw hB hz1 hk1 hS => ?_)
      try dsimp only at hw
      obtain ⟨hP1, hK1, hD1⟩ := hB
      rw [ht] at hP1
      have hK1 := va_K.moved hvm.symm hK1
      have hK1 : va_K (dC, dI) vwCl [] s := hK1
      obtain ⟨hP, hD⟩ := va_join (wr := [(eO11a x pa bk xsp xdy le xst xsc xim xil xik xmo xom wi), (eA0 xst cSt 108 fSt), (eO0a bk bto bnm bla bsk bru bbo bdi bda bdk bdt bdp bno), (eO6a bno (ns + 1) nsa nfa nza), (eA0 nsa cNs 12 u_4)]) (w1 := [(eO5a xdy drw u_7 dsh dto dmo dwi)]) hP hD [2] [0, 1, 3, 4, 5] hCc rfl (by decide) (by decide) hk1 hFc hP1 hD1
      generalize H1 = H at hP hS ⊢
      obtain ⟨hP, hD⟩ := zre [(eO11a x pa bk xsp xdy le xst xsc xim xil xik xmo xom wi), (eA0 xst cSt 108 fSt), (eO0a bk bto bnm bla bsk bru bbo bdi bda bdk bdt bdp bno), (eO6a bno (ns + 1) nsa nfa nza), (eA0 nsa cNs 12 u_4), (eO5a xdy drw u_7 dsh dto dmo dwi)] hP hD rfl
      refine W.widen (k := 0) (n := 0) (by omega) (by omega) ?_
      have hq_u_7 : u_7 = (fd_stale dfr ns) := hw
      refine lv_aload_n hx hb dX11_note_59 rfl (lv_at hl 2 rfl) ?_
      refine va_get (D := (dC, dI)) (ci := 11) (v := .ref xst) (C := RX11) (T := TX11) (N := 13) hx hb htw inlX11 hown hK hP 0 rfl rfl 5 (by decide) (htw _ (ck_2 _ (List.mem_of_getElem? (i := 8) rfl))) (fun _ h9 => h9) rfl dX11_note_60 ?_
      refine lv_aload_n hx hb dX11_note_63 rfl (lv_at hl 2 rfl) ?_
      refine va_get (D := (dC, dI)) (ci := 11) (v := .int xsc) (C := RX11) (T := TX11) (N := 13) hx hb htw inlX11 hown hK hP 0 rfl rfl 6 (by decide) (htw _ (ck_12 _ (List.mem_of_getElem? (i := 22) rfl))) (fun _ h9 => h9) rfl dX11_note_64 ?_
      refine lv_bipush (v := 8) hx hb dX11_note_67 (by decide) ?_
      refine va_iast hx hb hK hP hD hS 1 0 rfl rfl (xg_inr (N := 108) rfl (gz_note_s2 (y0 := xsc) c_2 h0_sc h8_sc).1 (gz_note_s2 (y0 := xsc) c_2 h0_sc h8_sc).2) dX11_note_69 (fun H locs hP hD hS => ?_)
      obtain ⟨hP, hD⟩ := zre [(eO11a x pa bk xsp xdy le xst xsc xim xil xik xmo xom wi), (eA0 xst cSt 108 (upd fSt xsc.toNatClampNeg 8)), (eO0a bk bto bnm bla bsk bru bbo bdi bda bdk bdt bdp bno), (eO6a bno (ns + 1) nsa nfa nza), (eA0 nsa cNs 12 u_4), (eO5a xdy drw u_7 dsh dto dmo dwi)] hP hD rfl
      refine lv_aload_n hx hb dX11_note_70 rfl (lv_at hl 2 rfl) ?_
      refine lv_dup hx hb dX11_note_71 rfl ?_
      refine va_get (D := (dC, dI)) (ci := 11) (v := .int xsc) (C := RX11) (T := TX11) (N := 13) hx hb htw inlX11 hown hK hP 0 rfl rfl 6 (by decide) (htw _ (ck_12 _ (List.mem_of_getElem? (i := 22) rfl))) (fun _ h9 => h9) rfl dX11_note_72 ?_
      refine lv_iconst (v := 1) hx hb dX11_note_75 (by decide) ?_
      refine lv_iadd hx hb dX11_note_76 ?_
      refine va_put (D := (dC, dI)) (ci := 11) (v := .int (xsc + 1)) (ty := tyX11 6) (C := RX11) (T := TX11) (N := 13) hx hb htw inlX11 tyX11 tyX11_ok nmX11 hown hK hP hD hS 0 rfl rfl 6 (by decide) (htw _ (ck_12 _ (List.mem_of_getElem? (i := 22) rfl))) (fun _ h9 => h9) rfl (tyX11_ok 6 (by decide)) rfl rfl (Nat.le_of_ble_eq_true rfl) dX11_note_77 (fun H locs hP hD hS => ?_)
      obtain ⟨hP, hD⟩ := zre [(eO11a x pa bk xsp xdy le xst (xsc + 1) xim xil xik xmo xom wi), (eA0 xst cSt 108 (upd fSt xsc.toNatClampNeg 8)), (eO0a bk bto bnm bla bsk bru bbo bdi bda bdk bdt bdp bno), (eO6a bno (ns + 1) nsa nfa nza), (eA0 nsa cNs 12 u_4), (eO5a xdy drw u_7 dsh dto dmo dwi)] hP hD rfl
      refine lv_iload_n hx hb dX11_note_80 rfl (lv_at hl 0 rfl) ?_
      refine W.widen (k := 0) (n := 0) (by omega) (by omega) ?_
      obtain ⟨hP9, hD9⟩ := zsub2 (ws' := [(eO11a x pa bk xsp xdy le xst (xsc + 1) xim xil xik xmo xom wi), (eA0 xst cSt 108 (upd fSt xsc.toNatClampNeg 8)), (eO5a xdy drw u_7 dsh dto dmo dwi), (eO0a bk bto bnm bla bsk bru bbo bdi bda bdk bdt bdp bno), (eO6a bno (ns + 1) nsa nfa nza), (eA0 nsa cNs 12 u_4)]) hP hD [0, 1, 5, 2, 3, 4] (by decide) rfl
      have hK9 := hK.sub (tys' := []) [] rfl
      exact W.iret (v := ns) hx hb hr (fun t ht hW => ⟨⟨ns, ((xsc + 1), (upd fSt xsc.toNatClampNeg 8), (ns + 1), u_4, u_7), rfl, ⟨((fun e9 => ⟨by rw [e9], by rw [e9]⟩ : fx_note xsc fSt dfr ns fNs = (ns, (xsc + 1), (upd fSt xsc.toNatClampNeg 8), (ns + 1), u_4, u_7) → _) ((by rw [fx_note]; (try rw [if_neg c_1]); (try rw [if_pos c_2]); (try rw [← hq_u_4]); (try rw [xL_eq]); (try rw [← hq_u_7]); (try rw [xL_eq]); try rfl))), (gz_note_s3 (y0 := xsc) c_2 h0_sc h8_sc), (gz_note_s4 (y0 := xsc) c_2 h0_sc h8_sc)⟩, by rw [ht]; exact hP9, va_K.moved hW.alike hK9, hD9⟩, hS.F ht⟩) hS.2.2 dX11_note_81
    · refine lv_iconst (v := (-1)) hx hb dX11_note_29 (by decide) ?_
      refine W.widen (k := 0) (n := 0) (by omega) (by omega) ?_
      obtain ⟨hP9, hD9⟩ := zsub2 (ws' := [(eO11a x pa bk xsp xdy le xst xsc xim xil xik xmo xom wi), (eA0 xst cSt 108 fSt), (eO5a xdy drw dfr dsh dto dmo dwi), (eO0a bk bto bnm bla bsk bru bbo bdi bda bdk bdt bdp bno), (eO6a bno ns nsa nfa nza), (eA0 nsa cNs 12 fNs)]) hP hD [0, 1, 2, 3, 4, 5] (by decide) rfl
      have hK9 := hK.sub (tys' := []) [] rfl
      exact W.iret (v := (-1)) hx hb hr (fun t ht hW => ⟨⟨(-1), (xsc, fSt, ns, fNs, dfr), rfl, ⟨((fun e9 => ⟨by rw [e9], by rw [e9]⟩ : fx_note xsc fSt dfr ns fNs = ((-1 : Int32), xsc, fSt, ns, fNs, dfr) → _) ((by rw [fx_note]; (try rw [if_neg c_1]); (try rw [if_neg c_2]); try rfl))), (gz_note_s5 (y0 := xsc) c_2 h0_sc h8_sc), (gz_note_s6 (y0 := xsc) c_2 h0_sc h8_sc)⟩, by rw [ht]; exact hP9, va_K.moved hW.alike hK9, hD9⟩, hS.F ht⟩) hS.2.2 dX11_note_30

theorem gz_undo_s0 {y0 : Int32} (h0 : y0 < 1) (h1 : ¬ (y0 < 0)) (h2 : y0 ≤ 108) : ¬ (y0 < 0) := h1
theorem gz_undo_s1 {y0 : Int32} (h0 : y0 < 1) (h1 : ¬ (y0 < 0)) (h2 : y0 ≤ 108) : y0 ≤ 108 := h2
theorem gz_undo_s2 {y0 : Int32} (h0 : ¬ (y0 < 1)) (h1 : ¬ (y0 < 0)) (h2 : y0 ≤ 108) : ¬ ((y0 - 1) < 0) ∧ ¬ (108 ≤ (y0 - 1)) := by lia
theorem gz_undo_s3 {y0 : Int32} (h0 : ¬ (y0 < 1)) (h1 : ¬ (y0 < 0)) (h2 : y0 ≤ 108) : ¬ ((y0 - 1) < 0) := by lia
theorem gz_undo_s4 {y0 : Int32} (h0 : ¬ (y0 < 1)) (h1 : ¬ (y0 < 0)) (h2 : y0 ≤ 108) : (y0 - 1) ≤ 108 := by lia
theorem gz_undo_s5 {y0 : Int32} (h0 : ¬ (y0 < 1)) (h1 : ¬ (y0 < 0)) (h2 : y0 ≤ 108) : ¬ ((y0 - 1) < 0) ∧ ¬ (108 ≤ (y0 - 1)) := by lia
theorem gz_undo_s6 {y0 : Int32} (h0 : ¬ (y0 < 1)) (h1 : ¬ (y0 < 0)) (h2 : y0 ≤ 108) : ¬ (y0 < 0) := h1
theorem gz_undo_s7 {y0 : Int32} (h0 : ¬ (y0 < 1)) (h1 : ¬ (y0 < 0)) (h2 : y0 ≤ 108) : y0 ≤ 108 := h2
set_option maxHeartbeats 4000000 in
set_option maxRecDepth 100000 in
theorem gz_undo (l : Launch) (dC : Nat → ClassId) (dI : Nat → Nat → Nat) (x : Nat) (pa : Nat) (bk : Nat) (xsp : Nat) (xdy : Nat) (le : Nat) (xst : Nat) (xsc : Int32) (xim : Nat) (xil : Nat) (xik : Int32) (xmo : Nat) (xom : Nat) (wi : Nat) (cSt : ClassId) (fSt : Nat → Int32) (drw : Nat) (dfr : Int32) (dsh : Nat) (dto : Nat) (dmo : Nat) (dwi : Nat) (bto : Nat) (bnm : Nat) (bla : Nat) (bsk : Nat) (bru : Nat) (bbo : Nat) (bdi : Nat) (bda : Nat) (bdk : Nat) (bdt : Nat) (bdp : Nat) (bno : Nat) (ns : Int32) (nsa : Nat) (nfa : Nat) (nza : Nat) (cNs : ClassId) (fNs : Nat → Int32) (sz : Nat) (h0_sc : ¬ xsc < 0) (h8_sc : xsc ≤ 108) : Met l yX11_undo (Cond.code yX11_undo cX11_undo 3 (some .int) :: wsL_law) ({ frames := 2, cells := 0, slots := 0, locals := 44 }) (va_Pc [.ref x] (fun U => U.heap.size = sz ∧ va_P (dC, dI) vwCl [(eO11a x pa bk xsp xdy le xst xsc xim xil xik xmo xom wi), (eA0 xst cSt 108 fSt), (eO5a xdy drw dfr dsh dto dmo dwi), (eO0a bk bto bnm bla bsk bru bbo bdi bda bdk bdt bdp bno), (eO6a bno ns nsa nfa nza), (eA0 nsa cNs 12 fNs)] U.heap ∧ va_K (dC, dI) vwCl [(cSt, .int), (cNs, .int)] U ∧ va_D (fun _ => True) [(eO11a x pa bk xsp xdy le xst xsc xim xil xik xmo xom wi), (eA0 xst cSt 108 fSt), (eO5a xdy drw dfr dsh dto dmo dwi), (eO0a bk bto bnm bla bsk bru bbo bdi bda bdk bdt bdp bno), (eO6a bno ns nsa nfa nza), (eA0 nsa cNs 12 fNs)])) (va_Qi (fun (r : Int32) (u : (Int32) × (Int32) × (Nat → Int32) × (Int32)) => (r = (fx_undo xsc fSt dfr ns fNs).1 ∧ u = (fx_undo xsc fSt dfr ns fNs).2) ∧ (¬ u.1 < 0) ∧ (u.1 ≤ 108)) (fun (u : (Int32) × (Int32) × (Nat → Int32) × (Int32)) t => va_P (dC, dI) vwCl [(eO11a x pa bk xsp xdy le xst u.1 xim xil xik xmo xom wi), (eA0 xst cSt 108 fSt), (eO5a xdy drw u.2.2.2 dsh dto dmo dwi), (eO0a bk bto bnm bla bsk bru bbo bdi bda bdk bdt bdp bno), (eO6a bno u.2.1 nsa nfa nza), (eA0 nsa cNs 12 u.2.2.1)] t.heap ∧ va_K (dC, dI) vwCl [] t ∧ va_D (va_A [(eO11a x pa bk xsp xdy le xst xsc xim xil xik xmo xom wi), (eA0 xst cSt 108 fSt), (eO5a xdy drw dfr dsh dto dmo dwi), (eO0a bk bto bnm bla bsk bru bbo bdi bda bdk bdt bdp bno), (eO6a bno ns nsa nfa nza), (eA0 nsa cNs 12 fNs)] sz) [(eO11a x pa bk xsp xdy le xst u.1 xim xil xik xmo xom wi), (eA0 xst cSt 108 fSt), (eO5a xdy drw u.2.2.2 dsh dto dmo dwi), (eO0a bk bto bnm bla bsk bru bbo bdi bda bdk bdt bdp bno), (eO6a bno u.2.1 nsa nfa nza), (eA0 nsa cNs 12 u.2.2.1)]) (va_A [(eO11a x pa bk xsp xdy le xst xsc xim xil xik xmo xom wi), (eA0 xst cSt 108 fSt), (eO5a xdy drw dfr dsh dto dmo dwi), (eO0a bk bto bnm bla bsk bru bbo bdi bda bdk bdt bdp bno), (eO6a bno ns nsa nfa nza), (eA0 nsa cNs 12 fNs)] sz)) 0 0 (va_A [(eO11a x pa bk xsp xdy le xst xsc xim xil xik xmo xom wi), (eA0 xst cSt 108 fSt), (eO5a xdy drw dfr dsh dto dmo dwi), (eO0a bk bto bnm bla bsk bru bbo bdi bda bdk bdt bdp bno), (eO6a bno ns nsa nfa nza), (eA0 nsa cNs 12 fNs)] sz) := by
  refine Met.ofW (cc := cX11_undo) (maxL := 3) (ret := (some .int)) (by decide) rfl ?_
  intro p e s m args below meth c s₁ B hml hv
  obtain ⟨rfl, hsz, hP, hK, hD0⟩ := hv
  have hx := B.exec
  have hb := B.bytes
  have hr := B.returns
  have hts := atoms_spec (ws := Cond.code yX11_undo cX11_undo 3 (some .int) :: wsL_law) B.pre
  have htw : ∀ w ∈ wsL_law, w.before _ s = true := fun w h => hts w (List.mem_cons_of_mem _ h)
  have hown : s.vm.findClass RX11 = some m.cls := findClass_of_methodNamed B.named
  have hlocks := B.notSynchronized
  subst hsz
  have hD := hD0.self (sz := s.heap.size)
  generalize hAe : va_A [(eO11a x pa bk xsp xdy le xst xsc xim xil xik xmo xom wi), (eA0 xst cSt 108 fSt), (eO5a xdy drw dfr dsh dto dmo dwi), (eO0a bk bto bnm bla bsk bru bbo bdi bda bdk bdt bdp bno), (eO6a bno ns nsa nfa nza), (eA0 nsa cNs 12 fNs)] s.heap.size = A at hD ⊢
  have hA : ∀ q : Nat, s.heap.size ≤ q → A q := fun q h => by rw [← hAe]; exact Or.inr h
  obtain ⟨H, rH⟩ : ∃ z : Heap, z = s.heap := ⟨_, rfl⟩
  have hS : va_S A s.heap H [] := by rw [rH]; exact va_S.rf
  have hP : va_P (dC, dI) vwCl [(eO11a x pa bk xsp xdy le xst xsc xim xil xik xmo xom wi), (eA0 xst cSt 108 fSt), (eO5a xdy drw dfr dsh dto dmo dwi), (eO0a bk bto bnm bla bsk bru bbo bdi bda bdk bdt bdp bno), (eO6a bno ns nsa nfa nza), (eA0 nsa cNs 12 fNs)] H := by rw [rH]; exact hP
  rw [← rH]
  have hl := lv_entry ([.ref x]) (n := 3) (Nat.le_of_ble_eq_true rfl)
  rw [lg_entry_eq]
  generalize (lg_sl ([.ref x]) ++ List.replicate (3 - (lg_sl ([.ref x])).length) Slot.unset).toArray = ls at hl ⊢
  have hl : lv_has ls 3 [(0, .ref x)] := hl
  refine lv_aload_n hx hb dX11_undo_0 rfl (lv_at hl 0 rfl) ?_
  refine va_get (D := (dC, dI)) (ci := 11) (v := .ref bk) (C := RX11) (T := TX11) (N := 13) hx hb htw inlX11 hown hK hP 0 rfl rfl 1 (by decide) (htw _ (ck_1 _ (List.mem_of_getElem? (i := 21) rfl))) (fun _ h9 => h9) rfl dX11_undo_1 ?_
  refine va_get (D := (dC, dI)) (ci := 0) (v := .ref bno) (C := RX0) (T := TX0) (N := 12) hx hb htw inlX0 hown hK hP 3 rfl rfl 11 (by decide) (htw _ (ck_52 _ (List.mem_of_getElem? (i := 7) rfl))) (fun _ h9 => h9) rfl dX11_undo_4 ?_
  refine lv_astore_n (lv' := [(1, .ref bno), (0, .ref x)]) hx hb dX11_undo_7 rfl hl (by decide) rfl (fun ls hl => ?_)
  refine lv_aload_n hx hb dX11_undo_8 rfl (lv_at hl 1 rfl) ?_
  refine va_get (D := (dC, dI)) (ci := 11) (v := .int xsc) (C := RX11) (T := TX11) (N := 13) hx hb htw inlX11 hown hK hP 0 rfl rfl 6 (by decide) (htw _ (ck_12 _ (List.mem_of_getElem? (i := 22) rfl))) (fun _ h9 => h9) rfl dX11_undo_9 ?_
  refine lv_iconst (v := 1) hx hb dX11_undo_12 (by decide) ?_
  refine lv_icmp_lt (tgt := 24) hx hb dX11_undo_13 (by decide) (fun c_1 => ?_) (fun c_1 => ?_)
  · refine lv_iconst (v := (-1)) hx hb dX11_undo_24 (by decide) ?_
    refine W.widen (k := 0) (n := 0) (by omega) (by omega) ?_
    have hP9 := hP
    have hD9 := hD
    have hK9 := hK.sub (tys' := []) [] rfl
    exact W.iret (v := (-1)) hx hb hr (fun t ht hW => ⟨⟨(-1), (xsc, ns, fNs, dfr), rfl, ⟨((fun e9 => ⟨by rw [e9], by rw [e9]⟩ : fx_undo xsc fSt dfr ns fNs = ((-1 : Int32), xsc, ns, fNs, dfr) → _) ((by rw [fx_undo]; (try rw [if_pos c_1]); try rfl))), (gz_undo_s0 (y0 := xsc) c_1 h0_sc h8_sc), (gz_undo_s1 (y0 := xsc) c_1 h0_sc h8_sc)⟩, by rw [ht]; exact hP9, va_K.moved hW.alike hK9, hD9⟩, hS.F ht⟩) hS.2.2 dX11_undo_25
  · refine lv_aload_n hx hb dX11_undo_16 rfl (lv_at hl 0 rfl) ?_
    refine va_get (D := (dC, dI)) (ci := 6) (v := .int ns) (C := RX6) (T := TX6) (N := 4) hx hb htw inlX6 hown hK hP 4 rfl rfl 0 (by decide) (htw _ (ck_52 _ (List.mem_of_getElem? (i := 8) rfl))) (fun _ h9 => h9) rfl dX11_undo_17 ?_
    refine lv_iconst (v := 1) hx hb dX11_undo_20 (by decide) ?_
    refine lv_icmp_ge (tgt := 26) hx hb dX11_undo_21 (by decide) (fun c_2 => ?_) (fun c_2 => ?_)
    · refine lv_aload_n hx hb dX11_undo_26 rfl (lv_at hl 1 rfl) ?_
      refine lv_dup hx hb dX11_undo_27 rfl ?_
      refine va_get (D := (dC, dI)) (ci := 11) (v := .int xsc) (C := RX11) (T := TX11) (N := 13) hx hb htw inlX11 hown hK hP 0 rfl rfl 6 (by decide) (htw _ (ck_12 _ (List.mem_of_getElem? (i := 22) rfl))) (fun _ h9 => h9) rfl dX11_undo_28 ?_
      refine lv_iconst (v := 1) hx hb dX11_undo_31 (by decide) ?_
      refine lv_isub hx hb dX11_undo_32 ?_
      refine va_put (D := (dC, dI)) (ci := 11) (v := .int (xsc - 1)) (ty := tyX11 6) (C := RX11) (T := TX11) (N := 13) hx hb htw inlX11 tyX11 tyX11_ok nmX11 hown hK hP hD hS 0 rfl rfl 6 (by decide) (htw _ (ck_12 _ (List.mem_of_getElem? (i := 22) rfl))) (fun _ h9 => h9) rfl (tyX11_ok 6 (by decide)) rfl rfl (Nat.le_of_ble_eq_true rfl) dX11_undo_33 (fun H locs hP hD hS => ?_)
      obtain ⟨hP, hD⟩ := zre [(eO11a x pa bk xsp xdy le xst (xsc - 1) xim xil xik xmo xom wi), (eA0 xst cSt 108 fSt), (eO5a xdy drw dfr dsh dto dmo dwi), (eO0a bk bto bnm bla bsk bru bbo bdi bda bdk bdt bdp bno), (eO6a bno ns nsa nfa nza), (eA0 nsa cNs 12 fNs)] hP hD rfl
      refine lv_aload_n hx hb dX11_undo_36 rfl (lv_at hl 0 rfl) ?_
      refine va_get (D := (dC, dI)) (ci := 6) (v := .int ns) (C := RX6) (T := TX6) (N := 4) hx hb htw inlX6 hown hK hP 4 rfl rfl 0 (by decide) (htw _ (ck_52 _ (List.mem_of_getElem? (i := 8) rfl))) (fun _ h9 => h9) rfl dX11_undo_37 ?_
      refine lv_iconst (v := 1) hx hb dX11_undo_40 (by decide) ?_
      refine lv_isub hx hb dX11_undo_41 ?_
      refine lv_istore_n (lv' := [(2, .int (ns - 1)), (1, .ref bno), (0, .ref x)]) hx hb dX11_undo_42 rfl hl (by decide) rfl (fun ls hl => ?_)
      refine lv_aload_n hx hb dX11_undo_43 rfl (lv_at hl 2 rfl) ?_
      refine va_get (D := (dC, dI)) (ci := 11) (v := .ref xst) (C := RX11) (T := TX11) (N := 13) hx hb htw inlX11 hown hK hP 0 rfl rfl 5 (by decide) (htw _ (ck_2 _ (List.mem_of_getElem? (i := 8) rfl))) (fun _ h9 => h9) rfl dX11_undo_44 ?_
      refine lv_aload_n hx hb dX11_undo_47 rfl (lv_at hl 2 rfl) ?_
      refine va_get (D := (dC, dI)) (ci := 11) (v := .int (xsc - 1)) (C := RX11) (T := TX11) (N := 13) hx hb htw inlX11 hown hK hP 0 rfl rfl 6 (by decide) (htw _ (ck_12 _ (List.mem_of_getElem? (i := 22) rfl))) (fun _ h9 => h9) rfl dX11_undo_48 ?_
      refine va_iald hx hb hK hP 1 0 rfl rfl (xg_inr (N := 108) rfl (gz_undo_s2 (y0 := xsc) c_1 h0_sc h8_sc).1 (gz_undo_s2 (y0 := xsc) c_1 h0_sc h8_sc).2) dX11_undo_51 ?_
      refine lv_bipush (v := 8) hx hb dX11_undo_52 (by decide) ?_
      obtain ⟨X_3, hX_3⟩ : ∃ X9 : (Int32) × (Nat → Int32), X9 = fx_undo_j xsc fSt ns fNs := ⟨_, rfl⟩
      have hjoin_4 : ∀ (ns_j : Int32) (fNs_j : Nat → Int32)  (hE9 : X_3 = (ns_j, fNs_j)) (H : Heap) (locs : List Loc) (ls : Array Slot) (hP : va_P (dC, dI) vwCl [(eO11a x pa bk xsp xdy le xst (xsc - 1) xim xil xik xmo xom wi), (eA0 xst cSt 108 fSt), (eO5a xdy drw dfr dsh dto dmo dwi), (eO0a bk bto bnm bla bsk bru bbo bdi bda bdk bdt bdp bno), (eO6a bno ns_j nsa nfa nza), (eA0 nsa cNs 12 fNs_j)] H) (hD : va_D A [(eO11a x pa bk xsp xdy le xst (xsc - 1) xim xil xik xmo xom wi), (eA0 xst cSt 108 fSt), (eO5a xdy drw dfr dsh dto dmo dwi), (eO0a bk bto bnm bla bsk bru bbo bdi bda bdk bdt bdp bno), (eO6a bno ns_j nsa nfa nza), (eA0 nsa cNs 12 fNs_j)]) (hS : va_S A s.heap H locs) (hl : lv_has ls 3 [(2, .int (ns - 1)), (1, .ref bno), (0, .ref x)]), W p l e (headSpec (Cond.code yX11_undo cX11_undo 3 (some .int) :: wsL_law) ({ frames := 2, cells := 0, slots := 0, locals := 44 })).room s m ([.ref x] : List Value).toArray below meth c H locs 0 0 (MQ below (va_Qi (fun (r : Int32) (u : (Int32) × (Int32) × (Nat → Int32) × (Int32)) => (r = (fx_undo xsc fSt dfr ns fNs).1 ∧ u = (fx_undo xsc fSt dfr ns fNs).2) ∧ (¬ u.1 < 0) ∧ (u.1 ≤ 108)) (fun (u : (Int32) × (Int32) × (Nat → Int32) × (Int32)) t => va_P (dC, dI) vwCl [(eO11a x pa bk xsp xdy le xst u.1 xim xil xik xmo xom wi), (eA0 xst cSt 108 fSt), (eO5a xdy drw u.2.2.2 dsh dto dmo dwi), (eO0a bk bto bnm bla bsk bru bbo bdi bda bdk bdt bdp bno), (eO6a bno u.2.1 nsa nfa nza), (eA0 nsa cNs 12 u.2.2.1)] t.heap ∧ va_K (dC, dI) vwCl [] t ∧ va_D A [(eO11a x pa bk xsp xdy le xst u.1 xim xil xik xmo xom wi), (eA0 xst cSt 108 fSt), (eO5a xdy drw u.2.2.2 dsh dto dmo dwi), (eO0a bk bto bnm bla bsk bru bbo bdi bda bdk bdt bdp bno), (eO6a bno u.2.1 nsa nfa nza), (eA0 nsa cNs 12 u.2.2.1)]) A) ([.ref x] : List Value).toArray s 0 0 A) (F0 m 79 ls []) := by
        intro ns_j fNs_j  hE9 H locs ls hP hD hS hl
        have hq_ns_j : ns_j = X_3.1 := by rw [hE9]
        have hq_fNs_j : fNs_j = X_3.2 := by rw [hE9]
        refine lv_aload_n hx hb dX11_undo_79 rfl (lv_at hl 2 rfl) ?_
        refine va_get (D := (dC, dI)) (ci := 11) (v := .ref xdy) (C := RX11) (T := TX11) (N := 13) hx hb htw inlX11 hown hK hP 0 rfl rfl 3 (by decide) (htw _ (ck_2 _ (List.mem_of_getElem? (i := 2) rfl))) (fun _ h9 => h9) rfl dX11_undo_80 ?_
        refine lv_iload_n hx hb dX11_undo_83 rfl (lv_at hl 0 rfl) ?_
        obtain ⟨hPc, hDc, hFc, hCc⟩ := zsub3 (ws' := [(eO5a xdy drw dfr dsh dto dmo dwi)]) hP hD hS hA [2] (by decide) rfl
        have hKc := hK.sub (tys' := []) [] rfl
        refine va_callv (va_runV (As := [.int (ns - 1)]) (rest := []) ⟨hx, hb, hml, hown, htw⟩ (gd_stale l dC dI xdy drw dfr dsh dto dmo dwi (ns - 1) H.size) (cwV 1 htw (xg_V (ck_24 _ (List.mem_of_getElem? (i := 0) rfl)) (ck_24 _ (List.mem_of_getElem? (i := 1) rfl)) (ck_24 _ (List.mem_of_getElem? (i := 2) rfl)) (ck_2 _ (List.mem_of_getElem? (i := 1) rfl)) (ck_24 _ (List.mem_of_getElem? (i := 3) rfl))) rfl rfl rfl (by exact ⟨rfl, hdc_10.1, hdc_10.2, hdd_9⟩) ⟨Nat.le_of_ble_eq_true rfl, Nat.le_of_ble_eq_true rfl⟩) ⟨fun a U g mk q => by obtain ⟨q0, q1, qP, qK, qD⟩ := q; exact ⟨q0, q1, qP, va_K.moved (u := U) (U := U.calling g mk a) (Vm.Alike.refl U.vm) qK, qD⟩, va_recv hKc hPc (ci := 5) (q0 := 0) rfl rfl, fun U hU hW => ⟨rfl, by rw [hU], by rw [hU]; exact hPc, va_K.moved hW.alike hKc, hDc.weaken (fun _ _ _ _ => trivial)⟩⟩ rfl rfl hl.1 rfl (lv_room (Nat.le_of_ble_eq_true rfl)) dX11_undo_84 ⟨Nat.le_of_ble_eq_true rfl, Nat.le_of_ble_eq_true rfl⟩) hS (fun q _ h => hFc q h) hFc (fun u_6 t H1 locs ht hvm hw hB hz1 hk1 hS => ?_)
        try dsimp only at hw
        obtain ⟨hP1, hK1, hD1⟩ := hB
        rw [ht] at hP1
        have hK1 := va_K.moved hvm.symm hK1
        have hK1 : va_K (dC, dI) vwCl [] s := hK1
        obtain ⟨hP, hD⟩ := va_join (wr := [(eO11a x pa bk xsp xdy le xst (xsc - 1) xim xil xik xmo xom wi), (eA0 xst cSt 108 fSt), (eO0a bk bto bnm bla bsk bru bbo bdi bda bdk bdt bdp bno), (eO6a bno ns_j nsa nfa nza), (eA0 nsa cNs 12 fNs_j)]) (w1 := [(eO5a xdy drw u_6 dsh dto dmo dwi)]) hP hD [2] [0, 1, 3, 4, 5] hCc rfl (by decide) (by decide) hk1 hFc hP1 hD1
        generalize H1 = H at hP hS ⊢
        obtain ⟨hP, hD⟩ := zre [(eO11a x pa bk xsp xdy le xst (xsc - 1) xim xil xik xmo xom wi), (eA0 xst cSt 108 fSt), (eO0a bk bto bnm bla bsk bru bbo bdi bda bdk bdt bdp bno), (eO6a bno ns_j nsa nfa nza), (eA0 nsa cNs 12 fNs_j), (eO5a xdy drw u_6 dsh dto dmo dwi)] hP hD rfl
        refine W.widen (k := 0) (n := 0) (by omega) (by omega) ?_
        have hq_u_6 : u_6 = (fd_stale dfr (ns - 1)) := hw
        refine lv_aload_n hx hb dX11_undo_87 rfl (lv_at hl 2 rfl) ?_
        refine va_get (D := (dC, dI)) (ci := 11) (v := .int (xsc - 1)) (C := RX11) (T := TX11) (N := 13) hx hb htw inlX11 hown hK hP 0 rfl rfl 6 (by decide) (htw _ (ck_12 _ (List.mem_of_getElem? (i := 22) rfl))) (fun _ h9 => h9) rfl dX11_undo_88 ?_
        refine W.widen (k := 0) (n := 0) (by omega) (by omega) ?_
        obtain ⟨hP9, hD9⟩ := zsub2 (ws' := [(eO11a x pa bk xsp xdy le xst (xsc - 1) xim xil xik xmo xom wi), (eA0 xst cSt 108 fSt), (eO5a xdy drw u_6 dsh dto dmo dwi), (eO0a bk bto bnm bla bsk bru bbo bdi bda bdk bdt bdp bno), (eO6a bno ns_j nsa nfa nza), (eA0 nsa cNs 12 fNs_j)]) hP hD [0, 1, 5, 2, 3, 4] (by decide) rfl
        have hK9 := hK.sub (tys' := []) [] rfl
        exact W.iret (v := (xsc - 1)) hx hb hr (fun t ht hW => ⟨⟨(xsc - 1), ((xsc - 1), ns_j, fNs_j, u_6), rfl, ⟨((fun e9 => ⟨by rw [e9], by rw [e9]⟩ : fx_undo xsc fSt dfr ns fNs = ((xsc - 1), (xsc - 1), ns_j, fNs_j, u_6) → _) ((by rw [fx_undo]; (try rw [if_neg c_1]); (try rw [if_pos c_2]); (try rw [← hX_3]); (try rw [xL_eq]); (try rw [← hq_ns_j]); (try rw [← hq_fNs_j]); (try rw [← hq_u_6]); (try rw [xL_eq]); try rfl))), (gz_undo_s3 (y0 := xsc) c_1 h0_sc h8_sc), (gz_undo_s4 (y0 := xsc) c_1 h0_sc h8_sc)⟩, by rw [ht]; exact hP9, va_K.moved hW.alike hK9, hD9⟩, hS.F ht⟩) hS.2.2 dX11_undo_91
      refine lv_icmp_ne (tgt := 65) hx hb dX11_undo_54 (by decide) (fun c_8 => ?_) (fun c_8 => ?_)
      · refine lv_aload_n hx hb dX11_undo_65 rfl (lv_at hl 1 rfl) ?_
        refine lv_iload_n hx hb dX11_undo_66 rfl (lv_at hl 0 rfl) ?_
        refine lv_aload_n hx hb dX11_undo_67 rfl (lv_at hl 2 rfl) ?_
        refine va_get (D := (dC, dI)) (ci := 11) (v := .ref xst) (C := RX11) (T := TX11) (N := 13) hx hb htw inlX11 hown hK hP 0 rfl rfl 5 (by decide) (htw _ (ck_2 _ (List.mem_of_getElem? (i := 8) rfl))) (fun _ h9 => h9) rfl dX11_undo_68 ?_
        refine lv_aload_n hx hb dX11_undo_71 rfl (lv_at hl 2 rfl) ?_
        refine va_get (D := (dC, dI)) (ci := 11) (v := .int (xsc - 1)) (C := RX11) (T := TX11) (N := 13) hx hb htw inlX11 hown hK hP 0 rfl rfl 6 (by decide) (htw _ (ck_12 _ (List.mem_of_getElem? (i := 22) rfl))) (fun _ h9 => h9) rfl dX11_undo_72 ?_
        refine va_iald hx hb hK hP 1 0 rfl rfl (xg_inr (N := 108) rfl (gz_undo_s5 (y0 := xsc) c_1 h0_sc h8_sc).1 (gz_undo_s5 (y0 := xsc) c_1 h0_sc h8_sc).2) dX11_undo_75 ?_
        obtain ⟨hPc, hDc, hFc, hCc⟩ := zsub3 (ws' := [(eO6a bno ns nsa nfa nza), (eA0 nsa cNs 12 fNs)]) hP hD hS hA [4, 5] (by decide) rfl
        have hKc := hK.sub (tys' := [(cNs, .int)]) [1] rfl
        refine va_callv (va_runV (As := [.int (ns - 1), .int (fSt ((xsc - 1).toNatClampNeg))]) (rest := []) ⟨hx, hb, hml, hown, htw⟩ (gn_drop l dC dI bno ns nsa nfa nza cNs fNs (ns - 1) (fSt ((xsc - 1).toNatClampNeg)) H.size) (cwV 2 htw (xg_V (ck_53 _ (List.mem_of_getElem? (i := 14) rfl)) (ck_53 _ (List.mem_of_getElem? (i := 15) rfl)) (ck_53 _ (List.mem_of_getElem? (i := 16) rfl)) (ck_2 _ (List.mem_of_getElem? (i := 11) rfl)) (ck_53 _ (List.mem_of_getElem? (i := 17) rfl))) rfl rfl rfl (by exact ⟨rfl, hdc_3.1, hdc_3.2, hdd_21⟩) ⟨Nat.le_of_ble_eq_true rfl, Nat.le_of_ble_eq_true rfl⟩) ⟨fun a U g mk q => by obtain ⟨q0, q1, qP, qK, qD⟩ := q; exact ⟨q0, q1, qP, va_K.moved (u := U) (U := U.calling g mk a) (Vm.Alike.refl U.vm) qK, qD⟩, va_recv hKc hPc (ci := 6) (q0 := 0) rfl rfl, fun U hU hW => ⟨rfl, by rw [hU], by rw [hU]; exact hPc, va_K.moved hW.alike hKc, hDc.weaken (fun _ _ _ _ => trivial)⟩⟩ rfl rfl hl.1 rfl (lv_room (Nat.le_of_ble_eq_true rfl)) dX11_undo_76 ⟨Nat.le_of_ble_eq_true rfl, Nat.le_of_ble_eq_true rfl⟩) hS (fun q _ h => hFc q h) hFc (fun u_10 t H1 locs ht hvm hw hB hz1 hk1 hS => ?_)
        try dsimp only at hw
        obtain ⟨hP1, hK1, hD1⟩ := hB
        rw [ht] at hP1
        have hK1 := va_K.moved hvm.symm hK1
        have hK1 : va_K (dC, dI) vwCl [] s := hK1
        obtain ⟨hP, hD⟩ := va_join (wr := [(eO11a x pa bk xsp xdy le xst (xsc - 1) xim xil xik xmo xom wi), (eA0 xst cSt 108 fSt), (eO5a xdy drw dfr dsh dto dmo dwi), (eO0a bk bto bnm bla bsk bru bbo bdi bda bdk bdt bdp bno)]) (w1 := [(eO6a bno ns nsa nfa nza), (eA0 nsa cNs 12 u_10)]) hP hD [4, 5] [0, 1, 2, 3] hCc rfl (by decide) (by decide) hk1 hFc hP1 hD1
        generalize H1 = H at hP hS ⊢
        obtain ⟨hP, hD⟩ := zre [(eO11a x pa bk xsp xdy le xst (xsc - 1) xim xil xik xmo xom wi), (eA0 xst cSt 108 fSt), (eO5a xdy drw dfr dsh dto dmo dwi), (eO0a bk bto bnm bla bsk bru bbo bdi bda bdk bdt bdp bno), (eO6a bno ns nsa nfa nza), (eA0 nsa cNs 12 u_10)] hP hD rfl
        refine W.widen (k := 0) (n := 0) (by omega) (by omega) ?_
        have hq_u_10 : u_10 = (fn_drop fNs (ns - 1) (fSt ((xsc - 1).toNatClampNeg))) := hw
        exact hjoin_4 ns u_10  (hX_3.trans (by rw [fx_undo_j]; (try rw [if_neg c_8]); (try rw [← hq_u_10]); (try rw [xL_eq]); try rfl)) _ _ ls hP hD hS (lv_sub hl [0, 1, 2] rfl)
      · refine lv_aload_n hx hb dX11_undo_57 rfl (lv_at hl 1 rfl) ?_
        refine lv_iload_n hx hb dX11_undo_58 rfl (lv_at hl 0 rfl) ?_
        refine va_put (D := (dC, dI)) (ci := 6) (v := .int (ns - 1)) (ty := tyX6 0) (C := RX6) (T := TX6) (N := 4) hx hb htw inlX6 tyX6 tyX6_ok nmX6 hown hK hP hD hS 4 rfl rfl 0 (by decide) (htw _ (ck_52 _ (List.mem_of_getElem? (i := 8) rfl))) (fun _ h9 => h9) rfl (tyX6_ok 0 (by decide)) rfl rfl (Nat.le_of_ble_eq_true rfl) dX11_undo_59 (fun H locs hP hD hS => ?_)
        obtain ⟨hP, hD⟩ := zre [(eO11a x pa bk xsp xdy le xst (xsc - 1) xim xil xik xmo xom wi), (eA0 xst cSt 108 fSt), (eO5a xdy drw dfr dsh dto dmo dwi), (eO0a bk bto bnm bla bsk bru bbo bdi bda bdk bdt bdp bno), (eO6a bno (ns - 1) nsa nfa nza), (eA0 nsa cNs 12 fNs)] hP hD rfl
        refine lv_goto (tgt := 79) hx hb dX11_undo_62 (by decide) ?_
        exact hjoin_4 (ns - 1) fNs  (hX_3.trans (by rw [fx_undo_j]; (try rw [if_pos c_8]); try rfl)) _ _ ls hP hD hS (lv_sub hl [0, 1, 2] rfl)
    · refine lv_iconst (v := (-1)) hx hb dX11_undo_24 (by decide) ?_
      refine W.widen (k := 0) (n := 0) (by omega) (by omega) ?_
      obtain ⟨hP9, hD9⟩ := zsub2 (ws' := [(eO11a x pa bk xsp xdy le xst xsc xim xil xik xmo xom wi), (eA0 xst cSt 108 fSt), (eO5a xdy drw dfr dsh dto dmo dwi), (eO0a bk bto bnm bla bsk bru bbo bdi bda bdk bdt bdp bno), (eO6a bno ns nsa nfa nza), (eA0 nsa cNs 12 fNs)]) hP hD [0, 1, 2, 3, 4, 5] (by decide) rfl
      have hK9 := hK.sub (tys' := []) [] rfl
      exact W.iret (v := (-1)) hx hb hr (fun t ht hW => ⟨⟨(-1), (xsc, ns, fNs, dfr), rfl, ⟨((fun e9 => ⟨by rw [e9], by rw [e9]⟩ : fx_undo xsc fSt dfr ns fNs = ((-1 : Int32), xsc, ns, fNs, dfr) → _) ((by rw [fx_undo]; (try rw [if_neg c_1]); (try rw [if_neg c_2]); try rfl))), (gz_undo_s6 (y0 := xsc) c_1 h0_sc h8_sc), (gz_undo_s7 (y0 := xsc) c_1 h0_sc h8_sc)⟩, by rw [ht]; exact hP9, va_K.moved hW.alike hK9, hD9⟩, hS.F ht⟩) hS.2.2 dX11_undo_25

theorem gz_told_s0 {y0 : Int32} (h0 : ¬ (y0 < 0)) (h1 : y0 ≤ 20) : ¬ (y0 < 0) := h0
theorem gz_told_s1 {y0 : Int32} (h0 : ¬ (y0 < 0)) (h1 : y0 ≤ 20) : y0 ≤ 20 := h1
theorem gz_told_s2 {y0 : Int32} (h0 : ¬ (y0 < 0)) (h1 : y0 ≤ 20) : ¬ (y0 < 0) := h0
theorem gz_told_s3 {y0 : Int32} (h0 : ¬ (y0 < 0)) (h1 : y0 ≤ 20) : y0 ≤ 20 := h1
theorem gz_told_s4 {y0 : Int32} (h0 : ¬ (y0 < 0)) (h1 : y0 ≤ 20) : ¬ (y0 < 0) := h0
theorem gz_told_s5 {y0 : Int32} (h0 : ¬ (y0 < 0)) (h1 : y0 ≤ 20) : y0 ≤ 20 := h1
theorem gz_told_s6 {y0 : Int32} (h0 : ¬ (y0 < 0)) (h1 : y0 ≤ 20) : ¬ (y0 < 0) := h0
theorem gz_told_s7 {y0 : Int32} (h0 : ¬ (y0 < 0)) (h1 : y0 ≤ 20) : y0 ≤ 20 := h1
theorem gz_told_s8 {y0 : Int32} (h0 : ¬ (y0 < 0)) (h1 : y0 ≤ 20) : ¬ (y0 < 0) := h0
theorem gz_told_s9 {y0 : Int32} (h0 : ¬ (y0 < 0)) (h1 : y0 ≤ 20) : y0 ≤ 20 := h1
theorem gz_told_s10 {y0 : Int32} (h0 : ¬ (y0 < 20)) (h1 : ¬ (y0 < 0)) (h2 : y0 ≤ 20) : ¬ (y0 < 0) := h1
theorem gz_told_s11 {y0 : Int32} (h0 : ¬ (y0 < 20)) (h1 : ¬ (y0 < 0)) (h2 : y0 ≤ 20) : y0 ≤ 20 := h2
set_option maxHeartbeats 4000000 in
set_option maxRecDepth 100000 in
theorem gz_told (l : Launch) (dC : Nat → ClassId) (dI : Nat → Nat → Nat) (x : Nat) (pa : Nat) (bk : Nat) (xsp : Nat) (xdy : Nat) (le : Nat) (xst : Nat) (xsc : Int32) (xim : Nat) (xil : Nat) (xik : Int32) (xmo : Nat) (xom : Nat) (wi : Nat) (lz : Int32) (lna : Nat) (lca : Nat) (cLn : ClassId) (fLn : Nat → Int32) (cLc : ClassId) (fLc : Nat → Int32) (bto : Nat) (bnm : Nat) (bla : Nat) (bsk : Nat) (bru : Nat) (bbo : Nat) (bdi : Nat) (bda : Nat) (bdk : Nat) (bdt : Nat) (bdp : Nat) (bno : Nat) (ns : Int32) (nsa : Nat) (nfa : Nat) (nza : Nat) (a0 : Int32) (a1 : Int32) (sz : Nat) (h0_lz : ¬ lz < 0) (h2_lz : lz ≤ 20) : Met l yX11_told (Cond.code yX11_told cX11_told 3 (some .int) :: wsL_law) ({ frames := 1, cells := 0, slots := 0, locals := 22 }) (va_Pc [.ref x, .int a0, .int a1] (fun U => U.heap.size = sz ∧ va_P (dC, dI) vwCl [(eO11a x pa bk xsp xdy le xst xsc xim xil xik xmo xom wi), (eO2a le lz lna lca), (eA0 lna cLn 20 fLn), (eA0 lca cLc 20 fLc), (eO0a bk bto bnm bla bsk bru bbo bdi bda bdk bdt bdp bno), (eO6a bno ns nsa nfa nza)] U.heap ∧ va_K (dC, dI) vwCl [(cLn, .int), (cLc, .int)] U ∧ va_D (fun _ => True) [(eO11a x pa bk xsp xdy le xst xsc xim xil xik xmo xom wi), (eO2a le lz lna lca), (eA0 lna cLn 20 fLn), (eA0 lca cLc 20 fLc), (eO0a bk bto bnm bla bsk bru bbo bdi bda bdk bdt bdp bno), (eO6a bno ns nsa nfa nza)])) (va_Qi (fun (r : Int32) (u : (Int32) × (Nat → Int32) × (Nat → Int32)) => (r = (fx_told lz fLn fLc ns a0 a1).1 ∧ u = (fx_told lz fLn fLc ns a0 a1).2) ∧ (¬ u.1 < 0) ∧ (u.1 ≤ 20)) (fun (u : (Int32) × (Nat → Int32) × (Nat → Int32)) t => va_P (dC, dI) vwCl [(eO11a x pa bk xsp xdy le xst xsc xim xil xik xmo xom wi), (eO2a le u.1 lna lca), (eA0 lna cLn 20 u.2.1), (eA0 lca cLc 20 u.2.2), (eO0a bk bto bnm bla bsk bru bbo bdi bda bdk bdt bdp bno), (eO6a bno ns nsa nfa nza)] t.heap ∧ va_K (dC, dI) vwCl [] t ∧ va_D (va_A [(eO11a x pa bk xsp xdy le xst xsc xim xil xik xmo xom wi), (eO2a le lz lna lca), (eA0 lna cLn 20 fLn), (eA0 lca cLc 20 fLc), (eO0a bk bto bnm bla bsk bru bbo bdi bda bdk bdt bdp bno), (eO6a bno ns nsa nfa nza)] sz) [(eO11a x pa bk xsp xdy le xst xsc xim xil xik xmo xom wi), (eO2a le u.1 lna lca), (eA0 lna cLn 20 u.2.1), (eA0 lca cLc 20 u.2.2), (eO0a bk bto bnm bla bsk bru bbo bdi bda bdk bdt bdp bno), (eO6a bno ns nsa nfa nza)]) (va_A [(eO11a x pa bk xsp xdy le xst xsc xim xil xik xmo xom wi), (eO2a le lz lna lca), (eA0 lna cLn 20 fLn), (eA0 lca cLc 20 fLc), (eO0a bk bto bnm bla bsk bru bbo bdi bda bdk bdt bdp bno), (eO6a bno ns nsa nfa nza)] sz)) 0 0 (va_A [(eO11a x pa bk xsp xdy le xst xsc xim xil xik xmo xom wi), (eO2a le lz lna lca), (eA0 lna cLn 20 fLn), (eA0 lca cLc 20 fLc), (eO0a bk bto bnm bla bsk bru bbo bdi bda bdk bdt bdp bno), (eO6a bno ns nsa nfa nza)] sz) := by
  refine Met.ofW (cc := cX11_told) (maxL := 3) (ret := (some .int)) (by decide) rfl ?_
  intro p e s m args below meth c s₁ B hml hv
  obtain ⟨rfl, hsz, hP, hK, hD0⟩ := hv
  have hx := B.exec
  have hb := B.bytes
  have hr := B.returns
  have hts := atoms_spec (ws := Cond.code yX11_told cX11_told 3 (some .int) :: wsL_law) B.pre
  have htw : ∀ w ∈ wsL_law, w.before _ s = true := fun w h => hts w (List.mem_cons_of_mem _ h)
  have hown : s.vm.findClass RX11 = some m.cls := findClass_of_methodNamed B.named
  have hlocks := B.notSynchronized
  subst hsz
  have hD := hD0.self (sz := s.heap.size)
  generalize hAe : va_A [(eO11a x pa bk xsp xdy le xst xsc xim xil xik xmo xom wi), (eO2a le lz lna lca), (eA0 lna cLn 20 fLn), (eA0 lca cLc 20 fLc), (eO0a bk bto bnm bla bsk bru bbo bdi bda bdk bdt bdp bno), (eO6a bno ns nsa nfa nza)] s.heap.size = A at hD ⊢
  have hA : ∀ q : Nat, s.heap.size ≤ q → A q := fun q h => by rw [← hAe]; exact Or.inr h
  obtain ⟨H, rH⟩ : ∃ z : Heap, z = s.heap := ⟨_, rfl⟩
  have hS : va_S A s.heap H [] := by rw [rH]; exact va_S.rf
  have hP : va_P (dC, dI) vwCl [(eO11a x pa bk xsp xdy le xst xsc xim xil xik xmo xom wi), (eO2a le lz lna lca), (eA0 lna cLn 20 fLn), (eA0 lca cLc 20 fLc), (eO0a bk bto bnm bla bsk bru bbo bdi bda bdk bdt bdp bno), (eO6a bno ns nsa nfa nza)] H := by rw [rH]; exact hP
  rw [← rH]
  have hl := lv_entry ([.ref x, .int a0, .int a1]) (n := 3) (Nat.le_of_ble_eq_true rfl)
  rw [lg_entry_eq]
  generalize (lg_sl ([.ref x, .int a0, .int a1]) ++ List.replicate (3 - (lg_sl ([.ref x, .int a0, .int a1])).length) Slot.unset).toArray = ls at hl ⊢
  have hl : lv_has ls 3 [(0, .ref x), (1, .int a0), (2, .int a1)] := hl
  refine lv_iload_n hx hb dX11_told_0 rfl (lv_at hl 1 rfl) ?_
  refine lv_if_lt (tgt := 41) hx hb dX11_told_1 (by decide) (fun c_1 => ?_) (fun c_1 => ?_)
  · refine lv_iconst (v := (-1)) hx hb dX11_told_41 (by decide) ?_
    refine W.widen (k := 0) (n := 0) (by omega) (by omega) ?_
    have hP9 := hP
    have hD9 := hD
    have hK9 := hK.sub (tys' := []) [] rfl
    exact W.iret (v := (-1)) hx hb hr (fun t ht hW => ⟨⟨(-1), (lz, fLn, fLc), rfl, ⟨((fun e9 => ⟨by rw [e9], by rw [e9]⟩ : fx_told lz fLn fLc ns a0 a1 = ((-1 : Int32), lz, fLn, fLc) → _) ((by rw [fx_told]; (try rw [if_pos c_1]); try rfl))), (gz_told_s0 (y0 := lz) h0_lz h2_lz), (gz_told_s1 (y0 := lz) h0_lz h2_lz)⟩, by rw [ht]; exact hP9, va_K.moved hW.alike hK9, hD9⟩, hS.F ht⟩) hS.2.2 dX11_told_42
  · refine lv_iload_n hx hb dX11_told_4 rfl (lv_at hl 1 rfl) ?_
    refine lv_aload_n hx hb dX11_told_5 rfl (lv_at hl 0 rfl) ?_
    refine va_get (D := (dC, dI)) (ci := 11) (v := .ref bk) (C := RX11) (T := TX11) (N := 13) hx hb htw inlX11 hown hK hP 0 rfl rfl 1 (by decide) (htw _ (ck_1 _ (List.mem_of_getElem? (i := 21) rfl))) (fun _ h9 => h9) rfl dX11_told_6 ?_
    refine va_get (D := (dC, dI)) (ci := 0) (v := .ref bno) (C := RX0) (T := TX0) (N := 12) hx hb htw inlX0 hown hK hP 4 rfl rfl 11 (by decide) (htw _ (ck_52 _ (List.mem_of_getElem? (i := 7) rfl))) (fun _ h9 => h9) rfl dX11_told_9 ?_
    refine va_get (D := (dC, dI)) (ci := 6) (v := .int ns) (C := RX6) (T := TX6) (N := 4) hx hb htw inlX6 hown hK hP 5 rfl rfl 0 (by decide) (htw _ (ck_52 _ (List.mem_of_getElem? (i := 8) rfl))) (fun _ h9 => h9) rfl dX11_told_12 ?_
    refine lv_icmp_ge (tgt := 41) hx hb dX11_told_15 (by decide) (fun c_2 => ?_) (fun c_2 => ?_)
    · refine lv_iconst (v := (-1)) hx hb dX11_told_41 (by decide) ?_
      refine W.widen (k := 0) (n := 0) (by omega) (by omega) ?_
      have hP9 := hP
      have hD9 := hD
      have hK9 := hK.sub (tys' := []) [] rfl
      exact W.iret (v := (-1)) hx hb hr (fun t ht hW => ⟨⟨(-1), (lz, fLn, fLc), rfl, ⟨((fun e9 => ⟨by rw [e9], by rw [e9]⟩ : fx_told lz fLn fLc ns a0 a1 = ((-1 : Int32), lz, fLn, fLc) → _) ((by rw [fx_told]; (try rw [if_neg c_1]); (try rw [if_pos c_2]); try rfl))), (gz_told_s2 (y0 := lz) h0_lz h2_lz), (gz_told_s3 (y0 := lz) h0_lz h2_lz)⟩, by rw [ht]; exact hP9, va_K.moved hW.alike hK9, hD9⟩, hS.F ht⟩) hS.2.2 dX11_told_42
    · refine lv_iload_n hx hb dX11_told_18 rfl (lv_at hl 2 rfl) ?_
      refine lv_if_lt (tgt := 41) hx hb dX11_told_19 (by decide) (fun c_3 => ?_) (fun c_3 => ?_)
      · refine lv_iconst (v := (-1)) hx hb dX11_told_41 (by decide) ?_
        refine W.widen (k := 0) (n := 0) (by omega) (by omega) ?_
        have hP9 := hP
        have hD9 := hD
        have hK9 := hK.sub (tys' := []) [] rfl
        exact W.iret (v := (-1)) hx hb hr (fun t ht hW => ⟨⟨(-1), (lz, fLn, fLc), rfl, ⟨((fun e9 => ⟨by rw [e9], by rw [e9]⟩ : fx_told lz fLn fLc ns a0 a1 = ((-1 : Int32), lz, fLn, fLc) → _) ((by rw [fx_told]; (try rw [if_neg c_1]); (try rw [if_neg c_2]); (try rw [if_pos c_3]); try rfl))), (gz_told_s4 (y0 := lz) h0_lz h2_lz), (gz_told_s5 (y0 := lz) h0_lz h2_lz)⟩, by rw [ht]; exact hP9, va_K.moved hW.alike hK9, hD9⟩, hS.F ht⟩) hS.2.2 dX11_told_42
      · refine lv_iload_n hx hb dX11_told_22 rfl (lv_at hl 2 rfl) ?_
        refine lv_sipush (v := 20000) hx hb dX11_told_23 (by decide) ?_
        refine lv_icmp_ge (tgt := 41) hx hb dX11_told_26 (by decide) (fun c_4 => ?_) (fun c_4 => ?_)
        · refine lv_iconst (v := (-1)) hx hb dX11_told_41 (by decide) ?_
          refine W.widen (k := 0) (n := 0) (by omega) (by omega) ?_
          have hP9 := hP
          have hD9 := hD
          have hK9 := hK.sub (tys' := []) [] rfl
          exact W.iret (v := (-1)) hx hb hr (fun t ht hW => ⟨⟨(-1), (lz, fLn, fLc), rfl, ⟨((fun e9 => ⟨by rw [e9], by rw [e9]⟩ : fx_told lz fLn fLc ns a0 a1 = ((-1 : Int32), lz, fLn, fLc) → _) ((by rw [fx_told]; (try rw [if_neg c_1]); (try rw [if_neg c_2]); (try rw [if_neg c_3]); (try rw [if_pos c_4]); try rfl))), (gz_told_s6 (y0 := lz) h0_lz h2_lz), (gz_told_s7 (y0 := lz) h0_lz h2_lz)⟩, by rw [ht]; exact hP9, va_K.moved hW.alike hK9, hD9⟩, hS.F ht⟩) hS.2.2 dX11_told_42
        · refine lv_aload_n hx hb dX11_told_29 rfl (lv_at hl 0 rfl) ?_
          refine va_get (D := (dC, dI)) (ci := 11) (v := .ref le) (C := RX11) (T := TX11) (N := 13) hx hb htw inlX11 hown hK hP 0 rfl rfl 4 (by decide) (htw _ (ck_2 _ (List.mem_of_getElem? (i := 6) rfl))) (fun _ h9 => h9) rfl dX11_told_30 ?_
          refine va_get (D := (dC, dI)) (ci := 2) (v := .int lz) (C := RX2) (T := TX2) (N := 3) hx hb htw inlX2 hown hK hP 1 rfl rfl 0 (by decide) (htw _ (ck_12 _ (List.mem_of_getElem? (i := 23) rfl))) (fun _ h9 => h9) rfl dX11_told_33 ?_
          refine lv_bipush (v := 20) hx hb dX11_told_36 (by decide) ?_
          refine lv_icmp_lt (tgt := 43) hx hb dX11_told_38 (by decide) (fun c_5 => ?_) (fun c_5 => ?_)
          · refine lv_aload_n hx hb dX11_told_43 rfl (lv_at hl 0 rfl) ?_
            refine va_get (D := (dC, dI)) (ci := 11) (v := .ref le) (C := RX11) (T := TX11) (N := 13) hx hb htw inlX11 hown hK hP 0 rfl rfl 4 (by decide) (htw _ (ck_2 _ (List.mem_of_getElem? (i := 6) rfl))) (fun _ h9 => h9) rfl dX11_told_44 ?_
            refine lv_iload_n hx hb dX11_told_47 rfl (lv_at hl 1 rfl) ?_
            refine lv_iload_n hx hb dX11_told_48 rfl (lv_at hl 2 rfl) ?_
            obtain ⟨hPc, hDc, hFc, hCc⟩ := zsub3 (ws' := [(eO2a le lz lna lca), (eA0 lna cLn 20 fLn), (eA0 lca cLc 20 fLc)]) hP hD hS hA [1, 2, 3] (by decide) rfl
            have hKc := hK.sub (tys' := [(cLn, .int), (cLc, .int)]) [0, 1] rfl
            refine va_callv (va_runV (As := [.int a0, .int a1]) (rest := []) ⟨hx, hb, hml, hown, htw⟩ (gd_add l dC dI le lz lna lca cLn fLn cLc fLc a0 a1 H.size h0_lz) (cwV 2 htw (xg_V (ck_62 _ (List.mem_of_getElem? (i := 20) rfl)) (ck_62 _ (List.mem_of_getElem? (i := 21) rfl)) (ck_62 _ (List.mem_of_getElem? (i := 22) rfl)) (ck_2 _ (List.mem_of_getElem? (i := 5) rfl)) (ck_62 _ (List.mem_of_getElem? (i := 23) rfl))) rfl rfl rfl (by exact ⟨rfl, hdc_11.1, hdc_11.2, hdd_21⟩) ⟨Nat.le_of_ble_eq_true rfl, Nat.le_of_ble_eq_true rfl⟩) ⟨fun a U g mk q => by obtain ⟨q0, q1, qP, qK, qD⟩ := q; exact ⟨q0, q1, qP, va_K.moved (u := U) (U := U.calling g mk a) (Vm.Alike.refl U.vm) qK, qD⟩, va_recv hKc hPc (ci := 2) (q0 := 0) rfl rfl, fun U hU hW => ⟨rfl, by rw [hU], by rw [hU]; exact hPc, va_K.moved hW.alike hKc, hDc.weaken (fun _ _ _ _ => trivial)⟩⟩ rfl rfl hl.1 rfl (lv_room (Nat.le_of_ble_eq_true rfl)) dX11_told_49 ⟨Nat.le_of_ble_eq_true rfl, Nat.le_of_ble_eq_true rfl⟩) hS (fun q _ h => hFc q h) hFc (fun u_7 t H1 locs ht hvm hw hB hz1 hk1 hS => ?_)
            try dsimp only at hw
            obtain ⟨hP1, hK1, hD1⟩ := hB
            rw [ht] at hP1
            have hK1 := va_K.moved hvm.symm hK1
            have hK1 : va_K (dC, dI) vwCl [] s := hK1
            obtain ⟨hP, hD⟩ := va_join (wr := [(eO11a x pa bk xsp xdy le xst xsc xim xil xik xmo xom wi), (eO0a bk bto bnm bla bsk bru bbo bdi bda bdk bdt bdp bno), (eO6a bno ns nsa nfa nza)]) (w1 := [(eO2a le u_7.1 lna lca), (eA0 lna cLn 20 u_7.2.1), (eA0 lca cLc 20 u_7.2.2)]) hP hD [1, 2, 3] [0, 4, 5] hCc rfl (by decide) (by decide) hk1 hFc hP1 hD1
            generalize H1 = H at hP hS ⊢
            obtain ⟨hP, hD⟩ := zre [(eO11a x pa bk xsp xdy le xst xsc xim xil xik xmo xom wi), (eO0a bk bto bnm bla bsk bru bbo bdi bda bdk bdt bdp bno), (eO6a bno ns nsa nfa nza), (eO2a le u_7.1 lna lca), (eA0 lna cLn 20 u_7.2.1), (eA0 lca cLc 20 u_7.2.2)] hP hD rfl
            refine W.widen (k := 0) (n := 0) (by omega) (by omega) ?_
            have hq_u_7 : u_7 = (fd_add lz fLn fLc a0 a1) := hw
            obtain ⟨hA_0, hA_2⟩ := xd_add hq_u_7 h0_lz h2_lz
            refine lv_aload_n hx hb dX11_told_52 rfl (lv_at hl 0 rfl) ?_
            refine va_get (D := (dC, dI)) (ci := 11) (v := .ref le) (C := RX11) (T := TX11) (N := 13) hx hb htw inlX11 hown hK hP 0 rfl rfl 4 (by decide) (htw _ (ck_2 _ (List.mem_of_getElem? (i := 6) rfl))) (fun _ h9 => h9) rfl dX11_told_53 ?_
            refine va_get (D := (dC, dI)) (ci := 2) (v := .int u_7.1) (C := RX2) (T := TX2) (N := 3) hx hb htw inlX2 hown hK hP 3 rfl rfl 0 (by decide) (htw _ (ck_12 _ (List.mem_of_getElem? (i := 23) rfl))) (fun _ h9 => h9) rfl dX11_told_56 ?_
            refine W.widen (k := 0) (n := 0) (by omega) (by omega) ?_
            obtain ⟨hP9, hD9⟩ := zsub2 (ws' := [(eO11a x pa bk xsp xdy le xst xsc xim xil xik xmo xom wi), (eO2a le u_7.1 lna lca), (eA0 lna cLn 20 u_7.2.1), (eA0 lca cLc 20 u_7.2.2), (eO0a bk bto bnm bla bsk bru bbo bdi bda bdk bdt bdp bno), (eO6a bno ns nsa nfa nza)]) hP hD [0, 3, 4, 5, 1, 2] (by decide) rfl
            have hK9 := hK.sub (tys' := []) [] rfl
            exact W.iret (v := u_7.1) hx hb hr (fun t ht hW => ⟨⟨u_7.1, (u_7.1, u_7.2.1, u_7.2.2), rfl, ⟨((fun e9 => ⟨by rw [e9], by rw [e9]⟩ : fx_told lz fLn fLc ns a0 a1 = (u_7.1, u_7.1, u_7.2.1, u_7.2.2) → _) ((by rw [fx_told]; (try rw [if_neg c_1]); (try rw [if_neg c_2]); (try rw [if_neg c_3]); (try rw [if_neg c_4]); (try rw [if_pos c_5]); (try rw [← hq_u_7]); (try rw [xL_eq]); try rfl))), (gz_told_s8 (y0 := u_7.1) hA_0 hA_2), (gz_told_s9 (y0 := u_7.1) hA_0 hA_2)⟩, by rw [ht]; exact hP9, va_K.moved hW.alike hK9, hD9⟩, hS.F ht⟩) hS.2.2 dX11_told_59
          · refine lv_iconst (v := (-1)) hx hb dX11_told_41 (by decide) ?_
            refine W.widen (k := 0) (n := 0) (by omega) (by omega) ?_
            obtain ⟨hP9, hD9⟩ := zsub2 (ws' := [(eO11a x pa bk xsp xdy le xst xsc xim xil xik xmo xom wi), (eO2a le lz lna lca), (eA0 lna cLn 20 fLn), (eA0 lca cLc 20 fLc), (eO0a bk bto bnm bla bsk bru bbo bdi bda bdk bdt bdp bno), (eO6a bno ns nsa nfa nza)]) hP hD [0, 1, 2, 3, 4, 5] (by decide) rfl
            have hK9 := hK.sub (tys' := []) [] rfl
            exact W.iret (v := (-1)) hx hb hr (fun t ht hW => ⟨⟨(-1), (lz, fLn, fLc), rfl, ⟨((fun e9 => ⟨by rw [e9], by rw [e9]⟩ : fx_told lz fLn fLc ns a0 a1 = ((-1 : Int32), lz, fLn, fLc) → _) ((by rw [fx_told]; (try rw [if_neg c_1]); (try rw [if_neg c_2]); (try rw [if_neg c_3]); (try rw [if_neg c_4]); (try rw [if_neg c_5]); try rfl))), (gz_told_s10 (y0 := lz) c_5 h0_lz h2_lz), (gz_told_s11 (y0 := lz) c_5 h0_lz h2_lz)⟩, by rw [ht]; exact hP9, va_K.moved hW.alike hK9, hD9⟩, hS.F ht⟩) hS.2.2 dX11_told_42

theorem gz_forget_s0  : ¬ ((0 : Int32) < 0) := (by decide)
theorem gz_forget_s1  : (0 : Int32) ≤ 20 := (by decide)
set_option maxHeartbeats 4000000 in
set_option maxRecDepth 100000 in
theorem gz_forget (l : Launch) (dC : Nat → ClassId) (dI : Nat → Nat → Nat) (x : Nat) (pa : Nat) (bk : Nat) (xsp : Nat) (xdy : Nat) (le : Nat) (xst : Nat) (xsc : Int32) (xim : Nat) (xil : Nat) (xik : Int32) (xmo : Nat) (xom : Nat) (wi : Nat) (lz : Int32) (lna : Nat) (lca : Nat) (sz : Nat) (h0_lz : ¬ lz < 0) (h2_lz : lz ≤ 20) : Met l yX11_forget (Cond.code yX11_forget cX11_forget 2 (some .int) :: wsL_law) ({ frames := 0, cells := 0, slots := 0, locals := 0 }) (va_Pc [.ref x] (fun U => U.heap.size = sz ∧ va_P (dC, dI) vwCl [(eO11a x pa bk xsp xdy le xst xsc xim xil xik xmo xom wi), (eO2a le lz lna lca)] U.heap ∧ va_K (dC, dI) vwCl [] U ∧ va_D (fun _ => True) [(eO11a x pa bk xsp xdy le xst xsc xim xil xik xmo xom wi), (eO2a le lz lna lca)])) (va_Qi (fun (r : Int32) (u : (Int32)) => (r = (fx_forget lz).1 ∧ u = (fx_forget lz).2) ∧ (¬ u < 0) ∧ (u ≤ 20)) (fun (u : (Int32)) t => va_P (dC, dI) vwCl [(eO11a x pa bk xsp xdy le xst xsc xim xil xik xmo xom wi), (eO2a le u lna lca)] t.heap ∧ va_K (dC, dI) vwCl [] t ∧ va_D (va_A [(eO11a x pa bk xsp xdy le xst xsc xim xil xik xmo xom wi), (eO2a le lz lna lca)] sz) [(eO11a x pa bk xsp xdy le xst xsc xim xil xik xmo xom wi), (eO2a le u lna lca)]) (va_A [(eO11a x pa bk xsp xdy le xst xsc xim xil xik xmo xom wi), (eO2a le lz lna lca)] sz)) 0 0 (va_A [(eO11a x pa bk xsp xdy le xst xsc xim xil xik xmo xom wi), (eO2a le lz lna lca)] sz) := by
  refine Met.ofW (cc := cX11_forget) (maxL := 2) (ret := (some .int)) (by decide) rfl ?_
  intro p e s m args below meth c s₁ B hml hv
  obtain ⟨rfl, hsz, hP, hK, hD0⟩ := hv
  have hx := B.exec
  have hb := B.bytes
  have hr := B.returns
  have hts := atoms_spec (ws := Cond.code yX11_forget cX11_forget 2 (some .int) :: wsL_law) B.pre
  have htw : ∀ w ∈ wsL_law, w.before _ s = true := fun w h => hts w (List.mem_cons_of_mem _ h)
  have hown : s.vm.findClass RX11 = some m.cls := findClass_of_methodNamed B.named
  have hlocks := B.notSynchronized
  subst hsz
  have hD := hD0.self (sz := s.heap.size)
  generalize hAe : va_A [(eO11a x pa bk xsp xdy le xst xsc xim xil xik xmo xom wi), (eO2a le lz lna lca)] s.heap.size = A at hD ⊢
  have hA : ∀ q : Nat, s.heap.size ≤ q → A q := fun q h => by rw [← hAe]; exact Or.inr h
  obtain ⟨H, rH⟩ : ∃ z : Heap, z = s.heap := ⟨_, rfl⟩
  have hS : va_S A s.heap H [] := by rw [rH]; exact va_S.rf
  have hP : va_P (dC, dI) vwCl [(eO11a x pa bk xsp xdy le xst xsc xim xil xik xmo xom wi), (eO2a le lz lna lca)] H := by rw [rH]; exact hP
  rw [← rH]
  have hl := lv_entry ([.ref x]) (n := 2) (Nat.le_of_ble_eq_true rfl)
  rw [lg_entry_eq]
  generalize (lg_sl ([.ref x]) ++ List.replicate (2 - (lg_sl ([.ref x])).length) Slot.unset).toArray = ls at hl ⊢
  have hl : lv_has ls 2 [(0, .ref x)] := hl
  refine lv_aload_n hx hb dX11_forget_0 rfl (lv_at hl 0 rfl) ?_
  refine va_get (D := (dC, dI)) (ci := 11) (v := .ref le) (C := RX11) (T := TX11) (N := 13) hx hb htw inlX11 hown hK hP 0 rfl rfl 4 (by decide) (htw _ (ck_2 _ (List.mem_of_getElem? (i := 6) rfl))) (fun _ h9 => h9) rfl dX11_forget_1 ?_
  refine va_get (D := (dC, dI)) (ci := 2) (v := .int lz) (C := RX2) (T := TX2) (N := 3) hx hb htw inlX2 hown hK hP 1 rfl rfl 0 (by decide) (htw _ (ck_12 _ (List.mem_of_getElem? (i := 23) rfl))) (fun _ h9 => h9) rfl dX11_forget_4 ?_
  refine lv_istore_n (lv' := [(1, .int lz), (0, .ref x)]) hx hb dX11_forget_7 rfl hl (by decide) rfl (fun ls hl => ?_)
  refine lv_aload_n hx hb dX11_forget_8 rfl (lv_at hl 1 rfl) ?_
  refine va_get (D := (dC, dI)) (ci := 11) (v := .ref le) (C := RX11) (T := TX11) (N := 13) hx hb htw inlX11 hown hK hP 0 rfl rfl 4 (by decide) (htw _ (ck_2 _ (List.mem_of_getElem? (i := 6) rfl))) (fun _ h9 => h9) rfl dX11_forget_9 ?_
  refine lv_iconst (v := 0) hx hb dX11_forget_12 (by decide) ?_
  refine va_put (D := (dC, dI)) (ci := 2) (v := .int 0) (ty := tyX2 0) (C := RX2) (T := TX2) (N := 3) hx hb htw inlX2 tyX2 tyX2_ok nmX2 hown hK hP hD hS 1 rfl rfl 0 (by decide) (htw _ (ck_12 _ (List.mem_of_getElem? (i := 23) rfl))) (fun _ h9 => h9) rfl (tyX2_ok 0 (by decide)) rfl rfl (Nat.le_of_ble_eq_true rfl) dX11_forget_13 (fun H locs hP hD hS => ?_)
  obtain ⟨hP, hD⟩ := zre [(eO11a x pa bk xsp xdy le xst xsc xim xil xik xmo xom wi), (eO2a le 0 lna lca)] hP hD rfl
  refine lv_iload_n hx hb dX11_forget_16 rfl (lv_at hl 0 rfl) ?_
  refine W.widen (k := 0) (n := 0) (by omega) (by omega) ?_
  have hP9 := hP
  have hD9 := hD
  have hK9 := hK.sub (tys' := []) [] rfl
  exact W.iret (v := lz) hx hb hr (fun t ht hW => ⟨⟨lz, 0, rfl, ⟨((fun e9 => ⟨by rw [e9], by rw [e9]⟩ : fx_forget lz = (lz, (0 : Int32)) → _) ((by rw [fx_forget]))), (gz_forget_s0 ), (gz_forget_s1 )⟩, by rw [ht]; exact hP9, va_K.moved hW.alike hK9, hD9⟩, hS.F ht⟩) hS.2.2 dX11_forget_17

theorem gz_keep_s0 {y0 : Int32} {y1 : Int32} (h0 : y0 = y1) (h1 : ¬ (y1 < 0)) (h2 : y1 ≤ 20) : ¬ (y0 < 0) := by lia
theorem gz_keep_s1 {y0 : Int32} {y1 : Int32} (h0 : y0 = y1) (h1 : ¬ (y1 < 0)) (h2 : y1 ≤ 20) : y0 ≤ 20 := by lia
set_option maxHeartbeats 4000000 in
set_option maxRecDepth 100000 in
theorem gz_keep (l : Launch) (dC : Nat → ClassId) (dI : Nat → Nat → Nat) (x : Nat) (pa : Nat) (bk : Nat) (xsp : Nat) (xdy : Nat) (le : Nat) (xst : Nat) (xsc : Int32) (xim : Nat) (xil : Nat) (xik : Int32) (xmo : Nat) (xom : Nat) (wi : Nat) (lz : Int32) (lna : Nat) (lca : Nat) (cLn : ClassId) (fLn : Nat → Int32) (cLc : ClassId) (fLc : Nat → Int32) (is : Int32) (isa : Nat) (ifa : Nat) (iza : Nat) (cIs : ClassId) (fIs : Nat → Int32) (cIf : ClassId) (fIf : Nat → Int32) (cIz : ClassId) (fIz : Nat → Int32) (iz : Int32) (ina : Nat) (ica : Nat) (cIn : ClassId) (fIn : Nat → Int32) (cIc : ClassId) (fIc : Nat → Int32) (bto : Nat) (bnm : Nat) (bla : Nat) (bsk : Nat) (bru : Nat) (bbo : Nat) (bdi : Nat) (bda : Nat) (bdk : Nat) (bdt : Nat) (bdp : Nat) (bno : Nat) (ns : Int32) (nsa : Nat) (nfa : Nat) (nza : Nat) (cNs : ClassId) (fNs : Nat → Int32) (cNf : ClassId) (fNf : Nat → Int32) (cNz : ClassId) (fNz : Nat → Int32) (sz : Nat) (h0_lz : ¬ lz < 0) (h2_lz : lz ≤ 20) : Met l yX11_keep (Cond.code yX11_keep cX11_keep 1 (some .int) :: wsL_law) ({ frames := 2, cells := 0, slots := 0, locals := 39 }) (va_Pc [.ref x] (fun U => U.heap.size = sz ∧ va_P (dC, dI) vwCl [(eO11a x pa bk xsp xdy le xst xsc xim xil xik xmo xom wi), (eO2a le lz lna lca), (eA0 lna cLn 20 fLn), (eA0 lca cLc 20 fLc), (eO6a xim is isa ifa iza), (eA0 isa cIs 12 fIs), (eA0 ifa cIf 96 fIf), (eA0 iza cIz 96 fIz), (eO2a xil iz ina ica), (eA0 ina cIn 20 fIn), (eA0 ica cIc 20 fIc), (eO0a bk bto bnm bla bsk bru bbo bdi bda bdk bdt bdp bno), (eO6a bno ns nsa nfa nza), (eA0 nsa cNs 12 fNs), (eA0 nfa cNf 96 fNf), (eA0 nza cNz 96 fNz)] U.heap ∧ va_K (dC, dI) vwCl [(cLn, .int), (cLc, .int), (cIs, .int), (cIf, .int), (cIz, .int), (cIn, .int), (cIc, .int), (cNs, .int), (cNf, .int), (cNz, .int)] U ∧ va_D (fun _ => True) [(eO11a x pa bk xsp xdy le xst xsc xim xil xik xmo xom wi), (eO2a le lz lna lca), (eA0 lna cLn 20 fLn), (eA0 lca cLc 20 fLc), (eO6a xim is isa ifa iza), (eA0 isa cIs 12 fIs), (eA0 ifa cIf 96 fIf), (eA0 iza cIz 96 fIz), (eO2a xil iz ina ica), (eA0 ina cIn 20 fIn), (eA0 ica cIc 20 fIc), (eO0a bk bto bnm bla bsk bru bbo bdi bda bdk bdt bdp bno), (eO6a bno ns nsa nfa nza), (eA0 nsa cNs 12 fNs), (eA0 nfa cNf 96 fNf), (eA0 nza cNz 96 fNz)])) (va_Qi (fun (r : Int32) (u : (Int32) × (Int32) × (Nat → Int32) × (Nat → Int32) × (Nat → Int32) × (Int32) × (Nat → Int32) × (Nat → Int32)) => (r = (fx_keep lz fLn fLc fIs fIf fIz fIn fIc ns fNs fNf fNz).1 ∧ u = (fx_keep lz fLn fLc fIs fIf fIz fIn fIc ns fNs fNf fNz).2) ∧ (¬ u.2.2.2.2.2.1 < 0) ∧ (u.2.2.2.2.2.1 ≤ 20)) (fun (u : (Int32) × (Int32) × (Nat → Int32) × (Nat → Int32) × (Nat → Int32) × (Int32) × (Nat → Int32) × (Nat → Int32)) t => va_P (dC, dI) vwCl [(eO11a x pa bk xsp xdy le xst xsc xim xil u.1 xmo xom wi), (eO2a le lz lna lca), (eA0 lna cLn 20 fLn), (eA0 lca cLc 20 fLc), (eO6a xim u.2.1 isa ifa iza), (eA0 isa cIs 12 u.2.2.1), (eA0 ifa cIf 96 u.2.2.2.1), (eA0 iza cIz 96 u.2.2.2.2.1), (eO2a xil u.2.2.2.2.2.1 ina ica), (eA0 ina cIn 20 u.2.2.2.2.2.2.1), (eA0 ica cIc 20 u.2.2.2.2.2.2.2), (eO0a bk bto bnm bla bsk bru bbo bdi bda bdk bdt bdp bno), (eO6a bno ns nsa nfa nza), (eA0 nsa cNs 12 fNs), (eA0 nfa cNf 96 fNf), (eA0 nza cNz 96 fNz)] t.heap ∧ va_K (dC, dI) vwCl [] t ∧ va_D (va_A [(eO11a x pa bk xsp xdy le xst xsc xim xil xik xmo xom wi), (eO2a le lz lna lca), (eA0 lna cLn 20 fLn), (eA0 lca cLc 20 fLc), (eO6a xim is isa ifa iza), (eA0 isa cIs 12 fIs), (eA0 ifa cIf 96 fIf), (eA0 iza cIz 96 fIz), (eO2a xil iz ina ica), (eA0 ina cIn 20 fIn), (eA0 ica cIc 20 fIc), (eO0a bk bto bnm bla bsk bru bbo bdi bda bdk bdt bdp bno), (eO6a bno ns nsa nfa nza), (eA0 nsa cNs 12 fNs), (eA0 nfa cNf 96 fNf), (eA0 nza cNz 96 fNz)] sz) [(eO11a x pa bk xsp xdy le xst xsc xim xil u.1 xmo xom wi), (eO2a le lz lna lca), (eA0 lna cLn 20 fLn), (eA0 lca cLc 20 fLc), (eO6a xim u.2.1 isa ifa iza), (eA0 isa cIs 12 u.2.2.1), (eA0 ifa cIf 96 u.2.2.2.1), (eA0 iza cIz 96 u.2.2.2.2.1), (eO2a xil u.2.2.2.2.2.1 ina ica), (eA0 ina cIn 20 u.2.2.2.2.2.2.1), (eA0 ica cIc 20 u.2.2.2.2.2.2.2), (eO0a bk bto bnm bla bsk bru bbo bdi bda bdk bdt bdp bno), (eO6a bno ns nsa nfa nza), (eA0 nsa cNs 12 fNs), (eA0 nfa cNf 96 fNf), (eA0 nza cNz 96 fNz)]) (va_A [(eO11a x pa bk xsp xdy le xst xsc xim xil xik xmo xom wi), (eO2a le lz lna lca), (eA0 lna cLn 20 fLn), (eA0 lca cLc 20 fLc), (eO6a xim is isa ifa iza), (eA0 isa cIs 12 fIs), (eA0 ifa cIf 96 fIf), (eA0 iza cIz 96 fIz), (eO2a xil iz ina ica), (eA0 ina cIn 20 fIn), (eA0 ica cIc 20 fIc), (eO0a bk bto bnm bla bsk bru bbo bdi bda bdk bdt bdp bno), (eO6a bno ns nsa nfa nza), (eA0 nsa cNs 12 fNs), (eA0 nfa cNf 96 fNf), (eA0 nza cNz 96 fNz)] sz)) 0 0 (va_A [(eO11a x pa bk xsp xdy le xst xsc xim xil xik xmo xom wi), (eO2a le lz lna lca), (eA0 lna cLn 20 fLn), (eA0 lca cLc 20 fLc), (eO6a xim is isa ifa iza), (eA0 isa cIs 12 fIs), (eA0 ifa cIf 96 fIf), (eA0 iza cIz 96 fIz), (eO2a xil iz ina ica), (eA0 ina cIn 20 fIn), (eA0 ica cIc 20 fIc), (eO0a bk bto bnm bla bsk bru bbo bdi bda bdk bdt bdp bno), (eO6a bno ns nsa nfa nza), (eA0 nsa cNs 12 fNs), (eA0 nfa cNf 96 fNf), (eA0 nza cNz 96 fNz)] sz) := by
  refine Met.ofW (cc := cX11_keep) (maxL := 1) (ret := (some .int)) (by decide) rfl ?_
  intro p e s m args below meth c s₁ B hml hv
  obtain ⟨rfl, hsz, hP, hK, hD0⟩ := hv
  have hx := B.exec
  have hb := B.bytes
  have hr := B.returns
  have hts := atoms_spec (ws := Cond.code yX11_keep cX11_keep 1 (some .int) :: wsL_law) B.pre
  have htw : ∀ w ∈ wsL_law, w.before _ s = true := fun w h => hts w (List.mem_cons_of_mem _ h)
  have hown : s.vm.findClass RX11 = some m.cls := findClass_of_methodNamed B.named
  have hlocks := B.notSynchronized
  subst hsz
  have hD := hD0.self (sz := s.heap.size)
  generalize hAe : va_A [(eO11a x pa bk xsp xdy le xst xsc xim xil xik xmo xom wi), (eO2a le lz lna lca), (eA0 lna cLn 20 fLn), (eA0 lca cLc 20 fLc), (eO6a xim is isa ifa iza), (eA0 isa cIs 12 fIs), (eA0 ifa cIf 96 fIf), (eA0 iza cIz 96 fIz), (eO2a xil iz ina ica), (eA0 ina cIn 20 fIn), (eA0 ica cIc 20 fIc), (eO0a bk bto bnm bla bsk bru bbo bdi bda bdk bdt bdp bno), (eO6a bno ns nsa nfa nza), (eA0 nsa cNs 12 fNs), (eA0 nfa cNf 96 fNf), (eA0 nza cNz 96 fNz)] s.heap.size = A at hD ⊢
  have hA : ∀ q : Nat, s.heap.size ≤ q → A q := fun q h => by rw [← hAe]; exact Or.inr h
  obtain ⟨H, rH⟩ : ∃ z : Heap, z = s.heap := ⟨_, rfl⟩
  have hS : va_S A s.heap H [] := by rw [rH]; exact va_S.rf
  have hP : va_P (dC, dI) vwCl [(eO11a x pa bk xsp xdy le xst xsc xim xil xik xmo xom wi), (eO2a le lz lna lca), (eA0 lna cLn 20 fLn), (eA0 lca cLc 20 fLc), (eO6a xim is isa ifa iza), (eA0 isa cIs 12 fIs), (eA0 ifa cIf 96 fIf), (eA0 iza cIz 96 fIz), (eO2a xil iz ina ica), (eA0 ina cIn 20 fIn), (eA0 ica cIc 20 fIc), (eO0a bk bto bnm bla bsk bru bbo bdi bda bdk bdt bdp bno), (eO6a bno ns nsa nfa nza), (eA0 nsa cNs 12 fNs), (eA0 nfa cNf 96 fNf), (eA0 nza cNz 96 fNz)] H := by rw [rH]; exact hP
  rw [← rH]
  have hl := lv_entry ([.ref x]) (n := 1) (Nat.le_of_ble_eq_true rfl)
  rw [lg_entry_eq]
  generalize (lg_sl ([.ref x]) ++ List.replicate (1 - (lg_sl ([.ref x])).length) Slot.unset).toArray = ls at hl ⊢
  have hl : lv_has ls 1 [(0, .ref x)] := hl
  refine lv_aload_n hx hb dX11_keep_0 rfl (lv_at hl 0 rfl) ?_
  refine va_get (D := (dC, dI)) (ci := 11) (v := .ref xim) (C := RX11) (T := TX11) (N := 13) hx hb htw inlX11 hown hK hP 0 rfl rfl 7 (by decide) (htw _ (ck_2 _ (List.mem_of_getElem? (i := 12) rfl))) (fun _ h9 => h9) rfl dX11_keep_1 ?_
  refine lv_aload_n hx hb dX11_keep_4 rfl (lv_at hl 0 rfl) ?_
  refine va_get (D := (dC, dI)) (ci := 11) (v := .ref bk) (C := RX11) (T := TX11) (N := 13) hx hb htw inlX11 hown hK hP 0 rfl rfl 1 (by decide) (htw _ (ck_1 _ (List.mem_of_getElem? (i := 21) rfl))) (fun _ h9 => h9) rfl dX11_keep_5 ?_
  refine va_get (D := (dC, dI)) (ci := 0) (v := .ref bno) (C := RX0) (T := TX0) (N := 12) hx hb htw inlX0 hown hK hP 11 rfl rfl 11 (by decide) (htw _ (ck_52 _ (List.mem_of_getElem? (i := 7) rfl))) (fun _ h9 => h9) rfl dX11_keep_8 ?_
  obtain ⟨hPc, hDc, hFc, hCc⟩ := zsub3 (ws' := [(eO6a xim is isa ifa iza), (eA0 isa cIs 12 fIs), (eA0 ifa cIf 96 fIf), (eA0 iza cIz 96 fIz), (eO6a bno ns nsa nfa nza), (eA0 nsa cNs 12 fNs), (eA0 nfa cNf 96 fNf), (eA0 nza cNz 96 fNz)]) hP hD hS hA [4, 5, 6, 7, 12, 13, 14, 15] (by decide +kernel) rfl
  have hKc := hK.sub (tys' := [(cIs, .int), (cIf, .int), (cIz, .int), (cNs, .int), (cNf, .int), (cNz, .int)]) [2, 3, 4, 7, 8, 9] rfl
  refine va_callv (va_runV (As := [.ref bno]) (rest := []) ⟨hx, hb, hml, hown, htw⟩ (gn_copy l dC dI xim is isa ifa iza cIs fIs cIf fIf cIz fIz bno ns nsa nfa nza cNs fNs cNf fNf cNz fNz H.size) (cwV 1 htw (xg_V (ck_64 _ (List.mem_of_getElem? (i := 22) rfl)) (ck_64 _ (List.mem_of_getElem? (i := 23) rfl)) (ck_65 _ (List.mem_of_getElem? (i := 0) rfl)) (ck_2 _ (List.mem_of_getElem? (i := 11) rfl)) (ck_65 _ (List.mem_of_getElem? (i := 1) rfl))) rfl rfl rfl (by exact ⟨rfl, hdc_3.1, hdc_3.2, hdd_22⟩) ⟨Nat.le_of_ble_eq_true rfl, Nat.le_of_ble_eq_true rfl⟩) ⟨fun a U g mk q => by obtain ⟨q0, q1, qP, qK, qD⟩ := q; exact ⟨q0, q1, qP, va_K.moved (u := U) (U := U.calling g mk a) (Vm.Alike.refl U.vm) qK, qD⟩, va_recv hKc hPc (ci := 6) (q0 := 0) rfl rfl, fun U hU hW => ⟨rfl, by rw [hU], by rw [hU]; exact hPc, va_K.moved hW.alike hKc, hDc.weaken (fun _ _ _ _ => trivial)⟩⟩ rfl rfl hl.1 rfl (lv_room (Nat.le_of_ble_eq_true rfl)) dX11_keep_11 ⟨Nat.le_of_ble_eq_true rfl, Nat.le_of_ble_eq_true rfl⟩) hS (fun q _ h => hFc q h) hFc (fun u_2 t H1 locs ht hvm hw hB hz1 hk1 hS => ?_)
  try dsimp only at hw
  obtain ⟨hP1, hK1, hD1⟩ := hB
  rw [ht] at hP1
  have hK1 := va_K.moved hvm.symm hK1
  have hK1 : va_K (dC, dI) vwCl [] s := hK1
  obtain ⟨hP, hD⟩ := va_join (wr := [(eO11a x pa bk xsp xdy le xst xsc xim xil xik xmo xom wi), (eO2a le lz lna lca), (eA0 lna cLn 20 fLn), (eA0 lca cLc 20 fLc), (eO2a xil iz ina ica), (eA0 ina cIn 20 fIn), (eA0 ica cIc 20 fIc), (eO0a bk bto bnm bla bsk bru bbo bdi bda bdk bdt bdp bno)]) (w1 := [(eO6a xim u_2.1 isa ifa iza), (eA0 isa cIs 12 u_2.2.1), (eA0 ifa cIf 96 u_2.2.2.1), (eA0 iza cIz 96 u_2.2.2.2), (eO6a bno ns nsa nfa nza), (eA0 nsa cNs 12 fNs), (eA0 nfa cNf 96 fNf), (eA0 nza cNz 96 fNz)]) hP hD [4, 5, 6, 7, 12, 13, 14, 15] [0, 1, 2, 3, 8, 9, 10, 11] hCc rfl (by decide +kernel) (by decide +kernel) hk1 hFc hP1 hD1
  generalize H1 = H at hP hS ⊢
  obtain ⟨hP, hD⟩ := zre [(eO11a x pa bk xsp xdy le xst xsc xim xil xik xmo xom wi), (eO2a le lz lna lca), (eA0 lna cLn 20 fLn), (eA0 lca cLc 20 fLc), (eO2a xil iz ina ica), (eA0 ina cIn 20 fIn), (eA0 ica cIc 20 fIc), (eO0a bk bto bnm bla bsk bru bbo bdi bda bdk bdt bdp bno), (eO6a xim u_2.1 isa ifa iza), (eA0 isa cIs 12 u_2.2.1), (eA0 ifa cIf 96 u_2.2.2.1), (eA0 iza cIz 96 u_2.2.2.2), (eO6a bno ns nsa nfa nza), (eA0 nsa cNs 12 fNs), (eA0 nfa cNf 96 fNf), (eA0 nza cNz 96 fNz)] hP hD rfl
  refine W.widen (k := 0) (n := 0) (by omega) (by omega) ?_
  have hq_u_2 : u_2 = (fn_copy fIs fIf fIz ns fNs fNf fNz) := hw
  refine lv_aload_n hx hb dX11_keep_14 rfl (lv_at hl 0 rfl) ?_
  refine va_get (D := (dC, dI)) (ci := 11) (v := .ref xil) (C := RX11) (T := TX11) (N := 13) hx hb htw inlX11 hown hK hP 0 rfl rfl 8 (by decide) (htw _ (ck_2 _ (List.mem_of_getElem? (i := 13) rfl))) (fun _ h9 => h9) rfl dX11_keep_15 ?_
  refine lv_aload_n hx hb dX11_keep_18 rfl (lv_at hl 0 rfl) ?_
  refine va_get (D := (dC, dI)) (ci := 11) (v := .ref le) (C := RX11) (T := TX11) (N := 13) hx hb htw inlX11 hown hK hP 0 rfl rfl 4 (by decide) (htw _ (ck_2 _ (List.mem_of_getElem? (i := 6) rfl))) (fun _ h9 => h9) rfl dX11_keep_19 ?_
  obtain ⟨hPc, hDc, hFc, hCc⟩ := zsub3 (ws' := [(eO2a xil iz ina ica), (eA0 ina cIn 20 fIn), (eA0 ica cIc 20 fIc), (eO2a le lz lna lca), (eA0 lna cLn 20 fLn), (eA0 lca cLc 20 fLc)]) hP hD hS hA [4, 5, 6, 1, 2, 3] (by decide) rfl
  have hKc := hK.sub (tys' := [(cIn, .int), (cIc, .int), (cLn, .int), (cLc, .int)]) [5, 6, 0, 1] rfl
  refine va_callv (va_runV (As := [.ref le]) (rest := []) ⟨hx, hb, hml, hown, htw⟩ (gz_dcopy l dC dI xil iz ina ica cIn fIn cIc fIc le lz lna lca cLn fLn cLc fLc H.size) (cwV 1 htw (xg_V (ck_65 _ (List.mem_of_getElem? (i := 7) rfl)) (ck_65 _ (List.mem_of_getElem? (i := 8) rfl)) (ck_65 _ (List.mem_of_getElem? (i := 9) rfl)) (ck_2 _ (List.mem_of_getElem? (i := 5) rfl)) (ck_65 _ (List.mem_of_getElem? (i := 10) rfl))) rfl rfl rfl (by exact ⟨rfl, hdc_11.1, hdc_11.2, hdd_23⟩) ⟨Nat.le_of_ble_eq_true rfl, Nat.le_of_ble_eq_true rfl⟩) ⟨fun a U g mk q => by obtain ⟨q0, q1, qP, qK, qD⟩ := q; exact ⟨q0, q1, qP, va_K.moved (u := U) (U := U.calling g mk a) (Vm.Alike.refl U.vm) qK, qD⟩, va_recv hKc hPc (ci := 2) (q0 := 0) rfl rfl, fun U hU hW => ⟨rfl, by rw [hU], by rw [hU]; exact hPc, va_K.moved hW.alike hKc, hDc.weaken (fun _ _ _ _ => trivial)⟩⟩ rfl rfl hl.1 rfl (lv_room (Nat.le_of_ble_eq_true rfl)) dX11_keep_22 ⟨Nat.le_of_ble_eq_true rfl, Nat.le_of_ble_eq_true rfl⟩) hS (fun q _ h => hFc q h) hFc (fun u_8 t H1 locs ht hvm hw hB hz1 hk1 hS => ?_)
  try dsimp only at hw
  obtain ⟨hP1, hK1, hD1⟩ := hB
  rw [ht] at hP1
  have hK1 := va_K.moved hvm.symm hK1
  have hK1 : va_K (dC, dI) vwCl [] s := hK1
  obtain ⟨hP, hD⟩ := va_join (wr := [(eO11a x pa bk xsp xdy le xst xsc xim xil xik xmo xom wi), (eO0a bk bto bnm bla bsk bru bbo bdi bda bdk bdt bdp bno), (eO6a xim u_2.1 isa ifa iza), (eA0 isa cIs 12 u_2.2.1), (eA0 ifa cIf 96 u_2.2.2.1), (eA0 iza cIz 96 u_2.2.2.2), (eO6a bno ns nsa nfa nza), (eA0 nsa cNs 12 fNs), (eA0 nfa cNf 96 fNf), (eA0 nza cNz 96 fNz)]) (w1 := [(eO2a xil u_8.1 ina ica), (eA0 ina cIn 20 u_8.2.1), (eA0 ica cIc 20 u_8.2.2), (eO2a le lz lna lca), (eA0 lna cLn 20 fLn), (eA0 lca cLc 20 fLc)]) hP hD [4, 5, 6, 1, 2, 3] [0, 7, 8, 9, 10, 11, 12, 13, 14, 15] hCc rfl (by decide +kernel) (by decide +kernel) hk1 hFc hP1 hD1
  generalize H1 = H at hP hS ⊢
  obtain ⟨hP, hD⟩ := zre [(eO11a x pa bk xsp xdy le xst xsc xim xil xik xmo xom wi), (eO0a bk bto bnm bla bsk bru bbo bdi bda bdk bdt bdp bno), (eO6a xim u_2.1 isa ifa iza), (eA0 isa cIs 12 u_2.2.1), (eA0 ifa cIf 96 u_2.2.2.1), (eA0 iza cIz 96 u_2.2.2.2), (eO6a bno ns nsa nfa nza), (eA0 nsa cNs 12 fNs), (eA0 nfa cNf 96 fNf), (eA0 nza cNz 96 fNz), (eO2a xil u_8.1 ina ica), (eA0 ina cIn 20 u_8.2.1), (eA0 ica cIc 20 u_8.2.2), (eO2a le lz lna lca), (eA0 lna cLn 20 fLn), (eA0 lca cLc 20 fLc)] hP hD rfl
  refine W.widen (k := 0) (n := 0) (by omega) (by omega) ?_
  obtain ⟨hw, hp_12⟩ := hw
  have hq_u_8 : u_8 = (fd_copy fIn fIc lz fLn fLc) := hw
  refine lv_aload_n hx hb dX11_keep_25 rfl (lv_at hl 0 rfl) ?_
  refine lv_iconst (v := 1) hx hb dX11_keep_26 (by decide) ?_
  refine va_put (D := (dC, dI)) (ci := 11) (v := .int 1) (ty := tyX11 9) (C := RX11) (T := TX11) (N := 13) hx hb htw inlX11 tyX11 tyX11_ok nmX11 hown hK hP hD hS 0 rfl rfl 9 (by decide) (htw _ (ck_13 _ (List.mem_of_getElem? (i := 0) rfl))) (fun _ h9 => h9) rfl (tyX11_ok 9 (by decide)) rfl rfl (Nat.le_of_ble_eq_true rfl) dX11_keep_27 (fun H locs hP hD hS => ?_)
  obtain ⟨hP, hD⟩ := zre [(eO11a x pa bk xsp xdy le xst xsc xim xil 1 xmo xom wi), (eO0a bk bto bnm bla bsk bru bbo bdi bda bdk bdt bdp bno), (eO6a xim u_2.1 isa ifa iza), (eA0 isa cIs 12 u_2.2.1), (eA0 ifa cIf 96 u_2.2.2.1), (eA0 iza cIz 96 u_2.2.2.2), (eO6a bno ns nsa nfa nza), (eA0 nsa cNs 12 fNs), (eA0 nfa cNf 96 fNf), (eA0 nza cNz 96 fNz), (eO2a xil u_8.1 ina ica), (eA0 ina cIn 20 u_8.2.1), (eA0 ica cIc 20 u_8.2.2), (eO2a le lz lna lca), (eA0 lna cLn 20 fLn), (eA0 lca cLc 20 fLc)] hP hD rfl
  refine lv_aload_n hx hb dX11_keep_30 rfl (lv_at hl 0 rfl) ?_
  refine va_get (D := (dC, dI)) (ci := 11) (v := .ref xim) (C := RX11) (T := TX11) (N := 13) hx hb htw inlX11 hown hK hP 0 rfl rfl 7 (by decide) (htw _ (ck_2 _ (List.mem_of_getElem? (i := 12) rfl))) (fun _ h9 => h9) rfl dX11_keep_31 ?_
  refine va_get (D := (dC, dI)) (ci := 6) (v := .int u_2.1) (C := RX6) (T := TX6) (N := 4) hx hb htw inlX6 hown hK hP 2 rfl rfl 0 (by decide) (htw _ (ck_52 _ (List.mem_of_getElem? (i := 8) rfl))) (fun _ h9 => h9) rfl dX11_keep_34 ?_
  refine W.widen (k := 0) (n := 0) (by omega) (by omega) ?_
  obtain ⟨hP9, hD9⟩ := zsub2 (ws' := [(eO11a x pa bk xsp xdy le xst xsc xim xil 1 xmo xom wi), (eO2a le lz lna lca), (eA0 lna cLn 20 fLn), (eA0 lca cLc 20 fLc), (eO6a xim u_2.1 isa ifa iza), (eA0 isa cIs 12 u_2.2.1), (eA0 ifa cIf 96 u_2.2.2.1), (eA0 iza cIz 96 u_2.2.2.2), (eO2a xil u_8.1 ina ica), (eA0 ina cIn 20 u_8.2.1), (eA0 ica cIc 20 u_8.2.2), (eO0a bk bto bnm bla bsk bru bbo bdi bda bdk bdt bdp bno), (eO6a bno ns nsa nfa nza), (eA0 nsa cNs 12 fNs), (eA0 nfa cNf 96 fNf), (eA0 nza cNz 96 fNz)]) hP hD [0, 13, 14, 15, 2, 3, 4, 5, 10, 11, 12, 1, 6, 7, 8, 9] (by decide +kernel) rfl
  have hK9 := hK.sub (tys' := []) [] rfl
  exact W.iret (v := u_2.1) hx hb hr (fun t ht hW => ⟨⟨u_2.1, (1, u_2.1, u_2.2.1, u_2.2.2.1, u_2.2.2.2, u_8.1, u_8.2.1, u_8.2.2), rfl, ⟨((fun e9 => ⟨by rw [e9], by rw [e9]⟩ : fx_keep lz fLn fLc fIs fIf fIz fIn fIc ns fNs fNf fNz = (u_2.1, (1 : Int32), u_2.1, u_2.2.1, u_2.2.2.1, u_2.2.2.2, u_8.1, u_8.2.1, u_8.2.2) → _) ((by rw [fx_keep]; (try rw [← hq_u_2]); (try rw [xL_eq]); (try rw [← hq_u_8]); (try rw [xL_eq]); try rfl))), (gz_keep_s0 (y0 := u_8.1) (y1 := lz) hp_12 h0_lz h2_lz), (gz_keep_s1 (y0 := u_8.1) (y1 := lz) hp_12 h0_lz h2_lz)⟩, by rw [ht]; exact hP9, va_K.moved hW.alike hK9, hD9⟩, hS.F ht⟩) hS.2.2 dX11_keep_37

theorem gz_back_s0  : ¬ ((0 : Int32) < 0) := (by decide)
theorem gz_back_s1  : (0 : Int32) ≤ 108 := (by decide)
theorem gz_back_s2 {y0 : Int32} {y1 : Int32} (h0 : y0 = y1) (h1 : ¬ (y1 < 0)) (h2 : y1 ≤ 20) : ¬ (y0 < 0) := by lia
theorem gz_back_s3 {y0 : Int32} {y1 : Int32} (h0 : y0 = y1) (h1 : ¬ (y1 < 0)) (h2 : y1 ≤ 20) : y0 ≤ 20 := by lia
theorem gz_back_s4 {y0 : Int32} (h0 : ¬ (y0 < 0)) (h1 : y0 ≤ 108) : ¬ (y0 < 0) := h0
theorem gz_back_s5 {y0 : Int32} (h0 : ¬ (y0 < 0)) (h1 : y0 ≤ 108) : y0 ≤ 108 := h1
theorem gz_back_s6 {y0 : Int32} (h0 : ¬ (y0 < 0)) (h1 : y0 ≤ 20) : ¬ (y0 < 0) := h0
theorem gz_back_s7 {y0 : Int32} (h0 : ¬ (y0 < 0)) (h1 : y0 ≤ 20) : y0 ≤ 20 := h1
set_option maxHeartbeats 4000000 in
set_option maxRecDepth 100000 in
theorem gz_back (l : Launch) (dC : Nat → ClassId) (dI : Nat → Nat → Nat) (x : Nat) (pa : Nat) (bk : Nat) (xsp : Nat) (xdy : Nat) (le : Nat) (xst : Nat) (xsc : Int32) (xim : Nat) (xil : Nat) (xik : Int32) (xmo : Nat) (xom : Nat) (wi : Nat) (lz : Int32) (lna : Nat) (lca : Nat) (cLn : ClassId) (fLn : Nat → Int32) (cLc : ClassId) (fLc : Nat → Int32) (is : Int32) (isa : Nat) (ifa : Nat) (iza : Nat) (cIs : ClassId) (fIs : Nat → Int32) (cIf : ClassId) (fIf : Nat → Int32) (cIz : ClassId) (fIz : Nat → Int32) (iz : Int32) (ina : Nat) (ica : Nat) (cIn : ClassId) (fIn : Nat → Int32) (cIc : ClassId) (fIc : Nat → Int32) (drw : Nat) (dfr : Int32) (dsh : Nat) (dto : Nat) (dmo : Nat) (dwi : Nat) (bto : Nat) (bnm : Nat) (bla : Nat) (bsk : Nat) (bru : Nat) (bbo : Nat) (bdi : Nat) (bda : Nat) (bdk : Nat) (bdt : Nat) (bdp : Nat) (bno : Nat) (ns : Int32) (nsa : Nat) (nfa : Nat) (nza : Nat) (cNs : ClassId) (fNs : Nat → Int32) (cNf : ClassId) (fNf : Nat → Int32) (cNz : ClassId) (fNz : Nat → Int32) (sz : Nat) (h0_sc : ¬ xsc < 0) (h8_sc : xsc ≤ 108) (h0_lz : ¬ lz < 0) (h2_lz : lz ≤ 20) (h0_iz : ¬ iz < 0) (h2_iz : iz ≤ 20) : Met l yX11_back (Cond.code yX11_back cX11_back 1 (some .int) :: wsL_law) ({ frames := 2, cells := 0, slots := 0, locals := 39 }) (va_Pc [.ref x] (fun U => U.heap.size = sz ∧ va_P (dC, dI) vwCl [(eO11a x pa bk xsp xdy le xst xsc xim xil xik xmo xom wi), (eO2a le lz lna lca), (eA0 lna cLn 20 fLn), (eA0 lca cLc 20 fLc), (eO6a xim is isa ifa iza), (eA0 isa cIs 12 fIs), (eA0 ifa cIf 96 fIf), (eA0 iza cIz 96 fIz), (eO2a xil iz ina ica), (eA0 ina cIn 20 fIn), (eA0 ica cIc 20 fIc), (eO5a xdy drw dfr dsh dto dmo dwi), (eO0a bk bto bnm bla bsk bru bbo bdi bda bdk bdt bdp bno), (eO6a bno ns nsa nfa nza), (eA0 nsa cNs 12 fNs), (eA0 nfa cNf 96 fNf), (eA0 nza cNz 96 fNz)] U.heap ∧ va_K (dC, dI) vwCl [(cLn, .int), (cLc, .int), (cIs, .int), (cIf, .int), (cIz, .int), (cIn, .int), (cIc, .int), (cNs, .int), (cNf, .int), (cNz, .int)] U ∧ va_D (fun _ => True) [(eO11a x pa bk xsp xdy le xst xsc xim xil xik xmo xom wi), (eO2a le lz lna lca), (eA0 lna cLn 20 fLn), (eA0 lca cLc 20 fLc), (eO6a xim is isa ifa iza), (eA0 isa cIs 12 fIs), (eA0 ifa cIf 96 fIf), (eA0 iza cIz 96 fIz), (eO2a xil iz ina ica), (eA0 ina cIn 20 fIn), (eA0 ica cIc 20 fIc), (eO5a xdy drw dfr dsh dto dmo dwi), (eO0a bk bto bnm bla bsk bru bbo bdi bda bdk bdt bdp bno), (eO6a bno ns nsa nfa nza), (eA0 nsa cNs 12 fNs), (eA0 nfa cNf 96 fNf), (eA0 nza cNz 96 fNz)])) (va_Qi (fun (r : Int32) (u : (Int32) × (Int32) × (Nat → Int32) × (Nat → Int32) × (Nat → Int32) × (Int32) × (Nat → Int32) × (Nat → Int32) × (Int32)) => (r = (fx_back xsc xik lz fLn fLc is fIs fIf fIz iz fIn fIc dfr ns fNs fNf fNz).1 ∧ u = (fx_back xsc xik lz fLn fLc is fIs fIf fIz iz fIn fIc dfr ns fNs fNf fNz).2) ∧ (¬ u.1 < 0) ∧ (u.1 ≤ 108) ∧ (¬ u.2.2.2.2.2.1 < 0) ∧ (u.2.2.2.2.2.1 ≤ 20)) (fun (u : (Int32) × (Int32) × (Nat → Int32) × (Nat → Int32) × (Nat → Int32) × (Int32) × (Nat → Int32) × (Nat → Int32) × (Int32)) t => va_P (dC, dI) vwCl [(eO11a x pa bk xsp xdy le xst u.1 xim xil xik xmo xom wi), (eO2a le u.2.2.2.2.2.1 lna lca), (eA0 lna cLn 20 u.2.2.2.2.2.2.1), (eA0 lca cLc 20 u.2.2.2.2.2.2.2.1), (eO6a xim is isa ifa iza), (eA0 isa cIs 12 fIs), (eA0 ifa cIf 96 fIf), (eA0 iza cIz 96 fIz), (eO2a xil iz ina ica), (eA0 ina cIn 20 fIn), (eA0 ica cIc 20 fIc), (eO5a xdy drw u.2.2.2.2.2.2.2.2 dsh dto dmo dwi), (eO0a bk bto bnm bla bsk bru bbo bdi bda bdk bdt bdp bno), (eO6a bno u.2.1 nsa nfa nza), (eA0 nsa cNs 12 u.2.2.1), (eA0 nfa cNf 96 u.2.2.2.1), (eA0 nza cNz 96 u.2.2.2.2.1)] t.heap ∧ va_K (dC, dI) vwCl [] t ∧ va_D (va_A [(eO11a x pa bk xsp xdy le xst xsc xim xil xik xmo xom wi), (eO2a le lz lna lca), (eA0 lna cLn 20 fLn), (eA0 lca cLc 20 fLc), (eO6a xim is isa ifa iza), (eA0 isa cIs 12 fIs), (eA0 ifa cIf 96 fIf), (eA0 iza cIz 96 fIz), (eO2a xil iz ina ica), (eA0 ina cIn 20 fIn), (eA0 ica cIc 20 fIc), (eO5a xdy drw dfr dsh dto dmo dwi), (eO0a bk bto bnm bla bsk bru bbo bdi bda bdk bdt bdp bno), (eO6a bno ns nsa nfa nza), (eA0 nsa cNs 12 fNs), (eA0 nfa cNf 96 fNf), (eA0 nza cNz 96 fNz)] sz) [(eO11a x pa bk xsp xdy le xst u.1 xim xil xik xmo xom wi), (eO2a le u.2.2.2.2.2.1 lna lca), (eA0 lna cLn 20 u.2.2.2.2.2.2.1), (eA0 lca cLc 20 u.2.2.2.2.2.2.2.1), (eO6a xim is isa ifa iza), (eA0 isa cIs 12 fIs), (eA0 ifa cIf 96 fIf), (eA0 iza cIz 96 fIz), (eO2a xil iz ina ica), (eA0 ina cIn 20 fIn), (eA0 ica cIc 20 fIc), (eO5a xdy drw u.2.2.2.2.2.2.2.2 dsh dto dmo dwi), (eO0a bk bto bnm bla bsk bru bbo bdi bda bdk bdt bdp bno), (eO6a bno u.2.1 nsa nfa nza), (eA0 nsa cNs 12 u.2.2.1), (eA0 nfa cNf 96 u.2.2.2.1), (eA0 nza cNz 96 u.2.2.2.2.1)]) (va_A [(eO11a x pa bk xsp xdy le xst xsc xim xil xik xmo xom wi), (eO2a le lz lna lca), (eA0 lna cLn 20 fLn), (eA0 lca cLc 20 fLc), (eO6a xim is isa ifa iza), (eA0 isa cIs 12 fIs), (eA0 ifa cIf 96 fIf), (eA0 iza cIz 96 fIz), (eO2a xil iz ina ica), (eA0 ina cIn 20 fIn), (eA0 ica cIc 20 fIc), (eO5a xdy drw dfr dsh dto dmo dwi), (eO0a bk bto bnm bla bsk bru bbo bdi bda bdk bdt bdp bno), (eO6a bno ns nsa nfa nza), (eA0 nsa cNs 12 fNs), (eA0 nfa cNf 96 fNf), (eA0 nza cNz 96 fNz)] sz)) 0 0 (va_A [(eO11a x pa bk xsp xdy le xst xsc xim xil xik xmo xom wi), (eO2a le lz lna lca), (eA0 lna cLn 20 fLn), (eA0 lca cLc 20 fLc), (eO6a xim is isa ifa iza), (eA0 isa cIs 12 fIs), (eA0 ifa cIf 96 fIf), (eA0 iza cIz 96 fIz), (eO2a xil iz ina ica), (eA0 ina cIn 20 fIn), (eA0 ica cIc 20 fIc), (eO5a xdy drw dfr dsh dto dmo dwi), (eO0a bk bto bnm bla bsk bru bbo bdi bda bdk bdt bdp bno), (eO6a bno ns nsa nfa nza), (eA0 nsa cNs 12 fNs), (eA0 nfa cNf 96 fNf), (eA0 nza cNz 96 fNz)] sz) := by
  refine Met.ofW (cc := cX11_back) (maxL := 1) (ret := (some .int)) (by decide) rfl ?_
  intro p e s m args below meth c s₁ B hml hv
  obtain ⟨rfl, hsz, hP, hK, hD0⟩ := hv
  have hx := B.exec
  have hb := B.bytes
  have hr := B.returns
  have hts := atoms_spec (ws := Cond.code yX11_back cX11_back 1 (some .int) :: wsL_law) B.pre
  have htw : ∀ w ∈ wsL_law, w.before _ s = true := fun w h => hts w (List.mem_cons_of_mem _ h)
  have hown : s.vm.findClass RX11 = some m.cls := findClass_of_methodNamed B.named
  have hlocks := B.notSynchronized
  subst hsz
  have hD := hD0.self (sz := s.heap.size)
  generalize hAe : va_A [(eO11a x pa bk xsp xdy le xst xsc xim xil xik xmo xom wi), (eO2a le lz lna lca), (eA0 lna cLn 20 fLn), (eA0 lca cLc 20 fLc), (eO6a xim is isa ifa iza), (eA0 isa cIs 12 fIs), (eA0 ifa cIf 96 fIf), (eA0 iza cIz 96 fIz), (eO2a xil iz ina ica), (eA0 ina cIn 20 fIn), (eA0 ica cIc 20 fIc), (eO5a xdy drw dfr dsh dto dmo dwi), (eO0a bk bto bnm bla bsk bru bbo bdi bda bdk bdt bdp bno), (eO6a bno ns nsa nfa nza), (eA0 nsa cNs 12 fNs), (eA0 nfa cNf 96 fNf), (eA0 nza cNz 96 fNz)] s.heap.size = A at hD ⊢
  have hA : ∀ q : Nat, s.heap.size ≤ q → A q := fun q h => by rw [← hAe]; exact Or.inr h
  obtain ⟨H, rH⟩ : ∃ z : Heap, z = s.heap := ⟨_, rfl⟩
  have hS : va_S A s.heap H [] := by rw [rH]; exact va_S.rf
  have hP : va_P (dC, dI) vwCl [(eO11a x pa bk xsp xdy le xst xsc xim xil xik xmo xom wi), (eO2a le lz lna lca), (eA0 lna cLn 20 fLn), (eA0 lca cLc 20 fLc), (eO6a xim is isa ifa iza), (eA0 isa cIs 12 fIs), (eA0 ifa cIf 96 fIf), (eA0 iza cIz 96 fIz), (eO2a xil iz ina ica), (eA0 ina cIn 20 fIn), (eA0 ica cIc 20 fIc), (eO5a xdy drw dfr dsh dto dmo dwi), (eO0a bk bto bnm bla bsk bru bbo bdi bda bdk bdt bdp bno), (eO6a bno ns nsa nfa nza), (eA0 nsa cNs 12 fNs), (eA0 nfa cNf 96 fNf), (eA0 nza cNz 96 fNz)] H := by rw [rH]; exact hP
  rw [← rH]
  have hl := lv_entry ([.ref x]) (n := 1) (Nat.le_of_ble_eq_true rfl)
  rw [lg_entry_eq]
  generalize (lg_sl ([.ref x]) ++ List.replicate (1 - (lg_sl ([.ref x])).length) Slot.unset).toArray = ls at hl ⊢
  have hl : lv_has ls 1 [(0, .ref x)] := hl
  refine lv_aload_n hx hb dX11_back_0 rfl (lv_at hl 0 rfl) ?_
  refine va_get (D := (dC, dI)) (ci := 11) (v := .int xik) (C := RX11) (T := TX11) (N := 13) hx hb htw inlX11 hown hK hP 0 rfl rfl 9 (by decide) (htw _ (ck_13 _ (List.mem_of_getElem? (i := 0) rfl))) (fun _ h9 => h9) rfl dX11_back_1 ?_
  refine lv_if_ne (tgt := 9) hx hb dX11_back_4 (by decide) (fun c_1 => ?_) (fun c_1 => ?_)
  · refine lv_aload_n hx hb dX11_back_9 rfl (lv_at hl 0 rfl) ?_
    refine va_get (D := (dC, dI)) (ci := 11) (v := .ref bk) (C := RX11) (T := TX11) (N := 13) hx hb htw inlX11 hown hK hP 0 rfl rfl 1 (by decide) (htw _ (ck_1 _ (List.mem_of_getElem? (i := 21) rfl))) (fun _ h9 => h9) rfl dX11_back_10 ?_
    refine va_get (D := (dC, dI)) (ci := 0) (v := .ref bno) (C := RX0) (T := TX0) (N := 12) hx hb htw inlX0 hown hK hP 12 rfl rfl 11 (by decide) (htw _ (ck_52 _ (List.mem_of_getElem? (i := 7) rfl))) (fun _ h9 => h9) rfl dX11_back_13 ?_
    refine lv_aload_n hx hb dX11_back_16 rfl (lv_at hl 0 rfl) ?_
    refine va_get (D := (dC, dI)) (ci := 11) (v := .ref xim) (C := RX11) (T := TX11) (N := 13) hx hb htw inlX11 hown hK hP 0 rfl rfl 7 (by decide) (htw _ (ck_2 _ (List.mem_of_getElem? (i := 12) rfl))) (fun _ h9 => h9) rfl dX11_back_17 ?_
    obtain ⟨hPc, hDc, hFc, hCc⟩ := zsub3 (ws' := [(eO6a bno ns nsa nfa nza), (eA0 nsa cNs 12 fNs), (eA0 nfa cNf 96 fNf), (eA0 nza cNz 96 fNz), (eO6a xim is isa ifa iza), (eA0 isa cIs 12 fIs), (eA0 ifa cIf 96 fIf), (eA0 iza cIz 96 fIz)]) hP hD hS hA [13, 14, 15, 16, 4, 5, 6, 7] (by decide +kernel) rfl
    have hKc := hK.sub (tys' := [(cNs, .int), (cNf, .int), (cNz, .int), (cIs, .int), (cIf, .int), (cIz, .int)]) [7, 8, 9, 2, 3, 4] rfl
    refine va_callv (va_runV (As := [.ref xim]) (rest := []) ⟨hx, hb, hml, hown, htw⟩ (gn_copy l dC dI bno ns nsa nfa nza cNs fNs cNf fNf cNz fNz xim is isa ifa iza cIs fIs cIf fIf cIz fIz H.size) (cwV 1 htw (xg_V (ck_64 _ (List.mem_of_getElem? (i := 22) rfl)) (ck_64 _ (List.mem_of_getElem? (i := 23) rfl)) (ck_65 _ (List.mem_of_getElem? (i := 0) rfl)) (ck_2 _ (List.mem_of_getElem? (i := 11) rfl)) (ck_65 _ (List.mem_of_getElem? (i := 1) rfl))) rfl rfl rfl (by exact ⟨rfl, hdc_3.1, hdc_3.2, hdd_22⟩) ⟨Nat.le_of_ble_eq_true rfl, Nat.le_of_ble_eq_true rfl⟩) ⟨fun a U g mk q => by obtain ⟨q0, q1, qP, qK, qD⟩ := q; exact ⟨q0, q1, qP, va_K.moved (u := U) (U := U.calling g mk a) (Vm.Alike.refl U.vm) qK, qD⟩, va_recv hKc hPc (ci := 6) (q0 := 0) rfl rfl, fun U hU hW => ⟨rfl, by rw [hU], by rw [hU]; exact hPc, va_K.moved hW.alike hKc, hDc.weaken (fun _ _ _ _ => trivial)⟩⟩ rfl rfl hl.1 rfl (lv_room (Nat.le_of_ble_eq_true rfl)) dX11_back_20 ⟨Nat.le_of_ble_eq_true rfl, Nat.le_of_ble_eq_true rfl⟩) hS (fun q _ h => hFc q h) hFc (fun u_3 t H1 locs ht hvm hw hB hz1 hk1 hS => ?_)
    try dsimp only at hw
    obtain ⟨hP1, hK1, hD1⟩ := hB
    rw [ht] at hP1
    have hK1 := va_K.moved hvm.symm hK1
    have hK1 : va_K (dC, dI) vwCl [] s := hK1
    obtain ⟨hP, hD⟩ := va_join (wr := [(eO11a x pa bk xsp xdy le xst xsc xim xil xik xmo xom wi), (eO2a le lz lna lca), (eA0 lna cLn 20 fLn), (eA0 lca cLc 20 fLc), (eO2a xil iz ina ica), (eA0 ina cIn 20 fIn), (eA0 ica cIc 20 fIc), (eO5a xdy drw dfr dsh dto dmo dwi), (eO0a bk bto bnm bla bsk bru bbo bdi bda bdk bdt bdp bno)]) (w1 := [(eO6a bno u_3.1 nsa nfa nza), (eA0 nsa cNs 12 u_3.2.1), (eA0 nfa cNf 96 u_3.2.2.1), (eA0 nza cNz 96 u_3.2.2.2), (eO6a xim is isa ifa iza), (eA0 isa cIs 12 fIs), (eA0 ifa cIf 96 fIf), (eA0 iza cIz 96 fIz)]) hP hD [13, 14, 15, 16, 4, 5, 6, 7] [0, 1, 2, 3, 8, 9, 10, 11, 12] hCc rfl (by decide +kernel) (by decide +kernel) hk1 hFc hP1 hD1
    generalize H1 = H at hP hS ⊢
    obtain ⟨hP, hD⟩ := zre [(eO11a x pa bk xsp xdy le xst xsc xim xil xik xmo xom wi), (eO2a le lz lna lca), (eA0 lna cLn 20 fLn), (eA0 lca cLc 20 fLc), (eO2a xil iz ina ica), (eA0 ina cIn 20 fIn), (eA0 ica cIc 20 fIc), (eO5a xdy drw dfr dsh dto dmo dwi), (eO0a bk bto bnm bla bsk bru bbo bdi bda bdk bdt bdp bno), (eO6a bno u_3.1 nsa nfa nza), (eA0 nsa cNs 12 u_3.2.1), (eA0 nfa cNf 96 u_3.2.2.1), (eA0 nza cNz 96 u_3.2.2.2), (eO6a xim is isa ifa iza), (eA0 isa cIs 12 fIs), (eA0 ifa cIf 96 fIf), (eA0 iza cIz 96 fIz)] hP hD rfl
    refine W.widen (k := 0) (n := 0) (by omega) (by omega) ?_
    have hq_u_3 : u_3 = (fn_copy fNs fNf fNz is fIs fIf fIz) := hw
    refine lv_aload_n hx hb dX11_back_23 rfl (lv_at hl 0 rfl) ?_
    refine va_get (D := (dC, dI)) (ci := 11) (v := .ref le) (C := RX11) (T := TX11) (N := 13) hx hb htw inlX11 hown hK hP 0 rfl rfl 4 (by decide) (htw _ (ck_2 _ (List.mem_of_getElem? (i := 6) rfl))) (fun _ h9 => h9) rfl dX11_back_24 ?_
    refine lv_aload_n hx hb dX11_back_27 rfl (lv_at hl 0 rfl) ?_
    refine va_get (D := (dC, dI)) (ci := 11) (v := .ref xil) (C := RX11) (T := TX11) (N := 13) hx hb htw inlX11 hown hK hP 0 rfl rfl 8 (by decide) (htw _ (ck_2 _ (List.mem_of_getElem? (i := 13) rfl))) (fun _ h9 => h9) rfl dX11_back_28 ?_
    obtain ⟨hPc, hDc, hFc, hCc⟩ := zsub3 (ws' := [(eO2a le lz lna lca), (eA0 lna cLn 20 fLn), (eA0 lca cLc 20 fLc), (eO2a xil iz ina ica), (eA0 ina cIn 20 fIn), (eA0 ica cIc 20 fIc)]) hP hD hS hA [1, 2, 3, 4, 5, 6] (by decide) rfl
    have hKc := hK.sub (tys' := [(cLn, .int), (cLc, .int), (cIn, .int), (cIc, .int)]) [0, 1, 5, 6] rfl
    refine va_callv (va_runV (As := [.ref xil]) (rest := []) ⟨hx, hb, hml, hown, htw⟩ (gz_dcopy l dC dI le lz lna lca cLn fLn cLc fLc xil iz ina ica cIn fIn cIc fIc H.size) (cwV 1 htw (xg_V (ck_65 _ (List.mem_of_getElem? (i := 7) rfl)) (ck_65 _ (List.mem_of_getElem? (i := 8) rfl)) (ck_65 _ (List.mem_of_getElem? (i := 9) rfl)) (ck_2 _ (List.mem_of_getElem? (i := 5) rfl)) (ck_65 _ (List.mem_of_getElem? (i := 10) rfl))) rfl rfl rfl (by exact ⟨rfl, hdc_11.1, hdc_11.2, hdd_23⟩) ⟨Nat.le_of_ble_eq_true rfl, Nat.le_of_ble_eq_true rfl⟩) ⟨fun a U g mk q => by obtain ⟨q0, q1, qP, qK, qD⟩ := q; exact ⟨q0, q1, qP, va_K.moved (u := U) (U := U.calling g mk a) (Vm.Alike.refl U.vm) qK, qD⟩, va_recv hKc hPc (ci := 2) (q0 := 0) rfl rfl, fun U hU hW => ⟨rfl, by rw [hU], by rw [hU]; exact hPc, va_K.moved hW.alike hKc, hDc.weaken (fun _ _ _ _ => trivial)⟩⟩ rfl rfl hl.1 rfl (lv_room (Nat.le_of_ble_eq_true rfl)) dX11_back_31 ⟨Nat.le_of_ble_eq_true rfl, Nat.le_of_ble_eq_true rfl⟩) hS (fun q _ h => hFc q h) hFc (fun u_9 t H1 locs ht hvm hw hB hz1 hk1 hS => ?_)
    try dsimp only at hw
    obtain ⟨hP1, hK1, hD1⟩ := hB
    rw [ht] at hP1
    have hK1 := va_K.moved hvm.symm hK1
    have hK1 : va_K (dC, dI) vwCl [] s := hK1
    obtain ⟨hP, hD⟩ := va_join (wr := [(eO11a x pa bk xsp xdy le xst xsc xim xil xik xmo xom wi), (eO5a xdy drw dfr dsh dto dmo dwi), (eO0a bk bto bnm bla bsk bru bbo bdi bda bdk bdt bdp bno), (eO6a bno u_3.1 nsa nfa nza), (eA0 nsa cNs 12 u_3.2.1), (eA0 nfa cNf 96 u_3.2.2.1), (eA0 nza cNz 96 u_3.2.2.2), (eO6a xim is isa ifa iza), (eA0 isa cIs 12 fIs), (eA0 ifa cIf 96 fIf), (eA0 iza cIz 96 fIz)]) (w1 := [(eO2a le u_9.1 lna lca), (eA0 lna cLn 20 u_9.2.1), (eA0 lca cLc 20 u_9.2.2), (eO2a xil iz ina ica), (eA0 ina cIn 20 fIn), (eA0 ica cIc 20 fIc)]) hP hD [1, 2, 3, 4, 5, 6] [0, 7, 8, 9, 10, 11, 12, 13, 14, 15, 16] hCc rfl (by decide +kernel) (by decide +kernel) hk1 hFc hP1 hD1
    generalize H1 = H at hP hS ⊢
    obtain ⟨hP, hD⟩ := zre [(eO11a x pa bk xsp xdy le xst xsc xim xil xik xmo xom wi), (eO5a xdy drw dfr dsh dto dmo dwi), (eO0a bk bto bnm bla bsk bru bbo bdi bda bdk bdt bdp bno), (eO6a bno u_3.1 nsa nfa nza), (eA0 nsa cNs 12 u_3.2.1), (eA0 nfa cNf 96 u_3.2.2.1), (eA0 nza cNz 96 u_3.2.2.2), (eO6a xim is isa ifa iza), (eA0 isa cIs 12 fIs), (eA0 ifa cIf 96 fIf), (eA0 iza cIz 96 fIz), (eO2a le u_9.1 lna lca), (eA0 lna cLn 20 u_9.2.1), (eA0 lca cLc 20 u_9.2.2), (eO2a xil iz ina ica), (eA0 ina cIn 20 fIn), (eA0 ica cIc 20 fIc)] hP hD rfl
    refine W.widen (k := 0) (n := 0) (by omega) (by omega) ?_
    obtain ⟨hw, hp_13⟩ := hw
    have hq_u_9 : u_9 = (fd_copy fLn fLc iz fIn fIc) := hw
    refine lv_aload_n hx hb dX11_back_34 rfl (lv_at hl 0 rfl) ?_
    refine va_get (D := (dC, dI)) (ci := 11) (v := .ref xdy) (C := RX11) (T := TX11) (N := 13) hx hb htw inlX11 hown hK hP 0 rfl rfl 3 (by decide) (htw _ (ck_2 _ (List.mem_of_getElem? (i := 2) rfl))) (fun _ h9 => h9) rfl dX11_back_35 ?_
    refine lv_iconst (v := 0) hx hb dX11_back_38 (by decide) ?_
    obtain ⟨hPc, hDc, hFc, hCc⟩ := zsub3 (ws' := [(eO5a xdy drw dfr dsh dto dmo dwi)]) hP hD hS hA [1] (by decide) rfl
    have hKc := hK.sub (tys' := []) [] rfl
    refine va_callv (va_runV (As := [.int 0]) (rest := []) ⟨hx, hb, hml, hown, htw⟩ (gd_stale l dC dI xdy drw dfr dsh dto dmo dwi (0 : Int32) H.size) (cwV 1 htw (xg_V (ck_24 _ (List.mem_of_getElem? (i := 0) rfl)) (ck_24 _ (List.mem_of_getElem? (i := 1) rfl)) (ck_24 _ (List.mem_of_getElem? (i := 2) rfl)) (ck_2 _ (List.mem_of_getElem? (i := 1) rfl)) (ck_24 _ (List.mem_of_getElem? (i := 3) rfl))) rfl rfl rfl (by exact ⟨rfl, hdc_10.1, hdc_10.2, hdd_9⟩) ⟨Nat.le_of_ble_eq_true rfl, Nat.le_of_ble_eq_true rfl⟩) ⟨fun a U g mk q => by obtain ⟨q0, q1, qP, qK, qD⟩ := q; exact ⟨q0, q1, qP, va_K.moved (u := U) (U := U.calling g mk a) (Vm.Alike.refl U.vm) qK, qD⟩, va_recv hKc hPc (ci := 5) (q0 := 0) rfl rfl, fun U hU hW => ⟨rfl, by rw [hU], by rw [hU]; exact hPc, va_K.moved hW.alike hKc, hDc.weaken (fun _ _ _ _ => trivial)⟩⟩ rfl rfl hl.1 rfl (lv_room (Nat.le_of_ble_eq_true rfl)) dX11_back_39 ⟨Nat.le_of_ble_eq_true rfl, Nat.le_of_ble_eq_true rfl⟩) hS (fun q _ h => hFc q h) hFc (fun u_15 t H1 locs ht hvm hw hB hz1 hk1 hS => ?_)
    try dsimp only at hw
    obtain ⟨hP1, hK1, hD1⟩ := hB
    rw [ht] at hP1
    have hK1 := va_K.moved hvm.symm hK1
    have hK1 : va_K (dC, dI) vwCl [] s := hK1
    obtain ⟨hP, hD⟩ := va_join (wr := [(eO11a x pa bk xsp xdy le xst xsc xim xil xik xmo xom wi), (eO0a bk bto bnm bla bsk bru bbo bdi bda bdk bdt bdp bno), (eO6a bno u_3.1 nsa nfa nza), (eA0 nsa cNs 12 u_3.2.1), (eA0 nfa cNf 96 u_3.2.2.1), (eA0 nza cNz 96 u_3.2.2.2), (eO6a xim is isa ifa iza), (eA0 isa cIs 12 fIs), (eA0 ifa cIf 96 fIf), (eA0 iza cIz 96 fIz), (eO2a le u_9.1 lna lca), (eA0 lna cLn 20 u_9.2.1), (eA0 lca cLc 20 u_9.2.2), (eO2a xil iz ina ica), (eA0 ina cIn 20 fIn), (eA0 ica cIc 20 fIc)]) (w1 := [(eO5a xdy drw u_15 dsh dto dmo dwi)]) hP hD [1] [0, 2, 3, 4, 5, 6, 7, 8, 9, 10, 11, 12, 13, 14, 15, 16] hCc rfl (by decide +kernel) (by decide +kernel) hk1 hFc hP1 hD1
    generalize H1 = H at hP hS ⊢
    obtain ⟨hP, hD⟩ := zre [(eO11a x pa bk xsp xdy le xst xsc xim xil xik xmo xom wi), (eO0a bk bto bnm bla bsk bru bbo bdi bda bdk bdt bdp bno), (eO6a bno u_3.1 nsa nfa nza), (eA0 nsa cNs 12 u_3.2.1), (eA0 nfa cNf 96 u_3.2.2.1), (eA0 nza cNz 96 u_3.2.2.2), (eO6a xim is isa ifa iza), (eA0 isa cIs 12 fIs), (eA0 ifa cIf 96 fIf), (eA0 iza cIz 96 fIz), (eO2a le u_9.1 lna lca), (eA0 lna cLn 20 u_9.2.1), (eA0 lca cLc 20 u_9.2.2), (eO2a xil iz ina ica), (eA0 ina cIn 20 fIn), (eA0 ica cIc 20 fIc), (eO5a xdy drw u_15 dsh dto dmo dwi)] hP hD rfl
    refine W.widen (k := 0) (n := 0) (by omega) (by omega) ?_
    have hq_u_15 : u_15 = (fd_stale dfr (0 : Int32)) := hw
    refine lv_aload_n hx hb dX11_back_42 rfl (lv_at hl 0 rfl) ?_
    refine lv_iconst (v := 0) hx hb dX11_back_43 (by decide) ?_
    refine va_put (D := (dC, dI)) (ci := 11) (v := .int 0) (ty := tyX11 6) (C := RX11) (T := TX11) (N := 13) hx hb htw inlX11 tyX11 tyX11_ok nmX11 hown hK hP hD hS 0 rfl rfl 6 (by decide) (htw _ (ck_12 _ (List.mem_of_getElem? (i := 22) rfl))) (fun _ h9 => h9) rfl (tyX11_ok 6 (by decide)) rfl rfl (Nat.le_of_ble_eq_true rfl) dX11_back_44 (fun H locs hP hD hS => ?_)
    obtain ⟨hP, hD⟩ := zre [(eO11a x pa bk xsp xdy le xst 0 xim xil xik xmo xom wi), (eO0a bk bto bnm bla bsk bru bbo bdi bda bdk bdt bdp bno), (eO6a bno u_3.1 nsa nfa nza), (eA0 nsa cNs 12 u_3.2.1), (eA0 nfa cNf 96 u_3.2.2.1), (eA0 nza cNz 96 u_3.2.2.2), (eO6a xim is isa ifa iza), (eA0 isa cIs 12 fIs), (eA0 ifa cIf 96 fIf), (eA0 iza cIz 96 fIz), (eO2a le u_9.1 lna lca), (eA0 lna cLn 20 u_9.2.1), (eA0 lca cLc 20 u_9.2.2), (eO2a xil iz ina ica), (eA0 ina cIn 20 fIn), (eA0 ica cIc 20 fIc), (eO5a xdy drw u_15 dsh dto dmo dwi)] hP hD rfl
    refine lv_aload_n hx hb dX11_back_47 rfl (lv_at hl 0 rfl) ?_
    refine va_get (D := (dC, dI)) (ci := 11) (v := .ref xim) (C := RX11) (T := TX11) (N := 13) hx hb htw inlX11 hown hK hP 0 rfl rfl 7 (by decide) (htw _ (ck_2 _ (List.mem_of_getElem? (i := 12) rfl))) (fun _ h9 => h9) rfl dX11_back_48 ?_
    refine va_get (D := (dC, dI)) (ci := 6) (v := .int is) (C := RX6) (T := TX6) (N := 4) hx hb htw inlX6 hown hK hP 6 rfl rfl 0 (by decide) (htw _ (ck_52 _ (List.mem_of_getElem? (i := 8) rfl))) (fun _ h9 => h9) rfl dX11_back_51 ?_
    refine W.widen (k := 0) (n := 0) (by omega) (by omega) ?_
    obtain ⟨hP9, hD9⟩ := zsub2 (ws' := [(eO11a x pa bk xsp xdy le xst 0 xim xil xik xmo xom wi), (eO2a le u_9.1 lna lca), (eA0 lna cLn 20 u_9.2.1), (eA0 lca cLc 20 u_9.2.2), (eO6a xim is isa ifa iza), (eA0 isa cIs 12 fIs), (eA0 ifa cIf 96 fIf), (eA0 iza cIz 96 fIz), (eO2a xil iz ina ica), (eA0 ina cIn 20 fIn), (eA0 ica cIc 20 fIc), (eO5a xdy drw u_15 dsh dto dmo dwi), (eO0a bk bto bnm bla bsk bru bbo bdi bda bdk bdt bdp bno), (eO6a bno u_3.1 nsa nfa nza), (eA0 nsa cNs 12 u_3.2.1), (eA0 nfa cNf 96 u_3.2.2.1), (eA0 nza cNz 96 u_3.2.2.2)]) hP hD [0, 10, 11, 12, 6, 7, 8, 9, 13, 14, 15, 16, 1, 2, 3, 4, 5] (by decide +kernel) rfl
    have hK9 := hK.sub (tys' := []) [] rfl
    exact W.iret (v := is) hx hb hr (fun t ht hW => ⟨⟨is, (0, u_3.1, u_3.2.1, u_3.2.2.1, u_3.2.2.2, u_9.1, u_9.2.1, u_9.2.2, u_15), rfl, ⟨((fun e9 => ⟨by rw [e9], by rw [e9]⟩ : fx_back xsc xik lz fLn fLc is fIs fIf fIz iz fIn fIc dfr ns fNs fNf fNz = (is, (0 : Int32), u_3.1, u_3.2.1, u_3.2.2.1, u_3.2.2.2, u_9.1, u_9.2.1, u_9.2.2, u_15) → _) ((by rw [fx_back]; (try rw [if_neg c_1]); (try rw [← hq_u_3]); (try rw [xL_eq]); (try rw [← hq_u_9]); (try rw [xL_eq]); (try rw [← hq_u_15]); (try rw [xL_eq]); try rfl))), (gz_back_s0 ), (gz_back_s1 ), (gz_back_s2 (y0 := u_9.1) (y1 := iz) hp_13 h0_iz h2_iz), (gz_back_s3 (y0 := u_9.1) (y1 := iz) hp_13 h0_iz h2_iz)⟩, by rw [ht]; exact hP9, va_K.moved hW.alike hK9, hD9⟩, hS.F ht⟩) hS.2.2 dX11_back_54
  · refine lv_iconst (v := (-1)) hx hb dX11_back_7 (by decide) ?_
    refine W.widen (k := 0) (n := 0) (by omega) (by omega) ?_
    obtain ⟨hP9, hD9⟩ := zsub2 (ws' := [(eO11a x pa bk xsp xdy le xst xsc xim xil xik xmo xom wi), (eO2a le lz lna lca), (eA0 lna cLn 20 fLn), (eA0 lca cLc 20 fLc), (eO6a xim is isa ifa iza), (eA0 isa cIs 12 fIs), (eA0 ifa cIf 96 fIf), (eA0 iza cIz 96 fIz), (eO2a xil iz ina ica), (eA0 ina cIn 20 fIn), (eA0 ica cIc 20 fIc), (eO5a xdy drw dfr dsh dto dmo dwi), (eO0a bk bto bnm bla bsk bru bbo bdi bda bdk bdt bdp bno), (eO6a bno ns nsa nfa nza), (eA0 nsa cNs 12 fNs), (eA0 nfa cNf 96 fNf), (eA0 nza cNz 96 fNz)]) hP hD [0, 1, 2, 3, 4, 5, 6, 7, 8, 9, 10, 11, 12, 13, 14, 15, 16] (by decide +kernel) rfl
    have hK9 := hK.sub (tys' := []) [] rfl
    exact W.iret (v := (-1)) hx hb hr (fun t ht hW => ⟨⟨(-1), (xsc, ns, fNs, fNf, fNz, lz, fLn, fLc, dfr), rfl, ⟨((fun e9 => ⟨by rw [e9], by rw [e9]⟩ : fx_back xsc xik lz fLn fLc is fIs fIf fIz iz fIn fIc dfr ns fNs fNf fNz = ((-1 : Int32), xsc, ns, fNs, fNf, fNz, lz, fLn, fLc, dfr) → _) ((by rw [fx_back]; (try rw [if_pos c_1]); try rfl))), (gz_back_s4 (y0 := xsc) h0_sc h8_sc), (gz_back_s5 (y0 := xsc) h0_sc h8_sc), (gz_back_s6 (y0 := lz) h0_lz h2_lz), (gz_back_s7 (y0 := lz) h0_lz h2_lz)⟩, by rw [ht]; exact hP9, va_K.moved hW.alike hK9, hD9⟩, hS.F ht⟩) hS.2.2 dX11_back_8
