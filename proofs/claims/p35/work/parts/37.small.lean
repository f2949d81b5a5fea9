def fd_stale (dfr : Int32) (a0 : Int32) : (Int32) := (if a0 < dfr then a0 else dfr)
theorem dX5_staleFrom_0 : decode cX5_staleFrom 0 = .ok (.aload_n 0, 1) := zk_42 (by decide +kernel)
theorem dX5_staleFrom_1 : decode cX5_staleFrom 1 = .ok (.aload_n 0, 1) := zk_42 (by decide +kernel)
theorem dX5_staleFrom_2 : decode cX5_staleFrom 2 = .ok (.getfield 37, 3) := zk_180 (by decide +kernel)
theorem dX5_staleFrom_5 : decode cX5_staleFrom 5 = .ok (.iload_n 1, 1) := zk_27 (by decide +kernel)
theorem dX5_staleFrom_6 : decode cX5_staleFrom 6 = .ok (.invokestatic 41, 3) := zk_184 (by decide +kernel)
theorem dX5_staleFrom_9 : decode cX5_staleFrom 9 = .ok (.putfield 37, 3) := zk_181 (by decide +kernel)
theorem dX5_staleFrom_12 : decode cX5_staleFrom 12 = .ok (.return_, 1) := zk_177 (by decide +kernel)
set_option maxHeartbeats 4000000 in
set_option maxRecDepth 100000 in
theorem gd_stale (l : Launch) (dC : Nat → ClassId) (dI : Nat → Nat → Nat) (xdy : Nat) (drw : Nat) (dfr : Int32) (dsh : Nat) (dto : Nat) (dmo : Nat) (dwi : Nat) (a0 : Int32) (sz : Nat) : Met l yX5_staleFrom (Cond.code yX5_staleFrom cX5_staleFrom 2 none :: wsL_law) ({ frames := 1, cells := 0, slots := 0, locals := 14 }) (va_Pc [.ref xdy, .int a0] (fun U => U.heap.size = sz ∧ va_P (dC, dI) vwCl [(eO5a xdy drw dfr dsh dto dmo dwi)] U.heap ∧ va_K (dC, dI) vwCl [] U ∧ va_D (fun _ => True) [(eO5a xdy drw dfr dsh dto dmo dwi)])) (va_Qv (fun (u : (Int32)) => u = fd_stale dfr a0) (fun (u : (Int32)) t => va_P (dC, dI) vwCl [(eO5a xdy drw u dsh dto dmo dwi)] t.heap ∧ va_K (dC, dI) vwCl [] t ∧ va_D (va_A [(eO5a xdy drw dfr dsh dto dmo dwi)] sz) [(eO5a xdy drw u dsh dto dmo dwi)]) (va_A [(eO5a xdy drw dfr dsh dto dmo dwi)] sz)) 0 0 (va_A [(eO5a xdy drw dfr dsh dto dmo dwi)] sz) := by
  refine Met.ofW (cc := cX5_staleFrom) (maxL := 2) (ret := none) (by decide) rfl ?_
  intro p e s m args below meth c s₁ B hml hv
  obtain ⟨rfl, hsz, hP, hK, hD0⟩ := hv
  have hx := B.exec
  have hb := B.bytes
  have hr := B.returns
  have hts := atoms_spec (ws := Cond.code yX5_staleFrom cX5_staleFrom 2 none :: wsL_law) B.pre
  have htw : ∀ w ∈ wsL_law, w.before _ s = true := fun w h => hts w (List.mem_cons_of_mem _ h)
  have hown : s.vm.findClass RX5 = some m.cls := findClass_of_methodNamed B.named
  have hlocks := B.notSynchronized
  subst hsz
  have hD := hD0.self (sz := s.heap.size)
  generalize hAe : va_A [(eO5a xdy drw dfr dsh dto dmo dwi)] s.heap.size = A at hD ⊢
  have hA : ∀ q : Nat, s.heap.size ≤ q → A q := fun q h => by rw [← hAe]; exact Or.inr h
  obtain ⟨H, rH⟩ : ∃ z : Heap, z = s.heap := ⟨_, rfl⟩
  have hS : va_S A s.heap H [] := by rw [rH]; exact va_S.rf
  have hP : va_P (dC, dI) vwCl [(eO5a xdy drw dfr dsh dto dmo dwi)] H := by rw [rH]; exact hP
  rw [← rH]
  have hl := lv_entry ([.ref xdy, .int a0]) (n := 2) (Nat.le_of_ble_eq_true rfl)
  rw [lg_entry_eq]
  generalize (lg_sl ([.ref xdy, .int a0]) ++ List.replicate (2 - (lg_sl ([.ref xdy, .int a0])).length) Slot.unset).toArray = ls at hl ⊢
  have hl : lv_has ls 2 [(0, .ref xdy), (1, .int a0)] := hl
  refine lv_aload_n hx hb dX5_staleFrom_0 rfl (lv_at hl 0 rfl) ?_
  refine lv_aload_n hx hb dX5_staleFrom_1 rfl (lv_at hl 0 rfl) ?_
  refine va_get (D := (dC, dI)) (ci := 5) (v := .int dfr) (C := RX5) (T := TX5) (N := 6) hx hb htw inlX5 hown hK hP 0 rfl rfl 1 (by decide) (htw _ (ck_24 _ (List.mem_of_getElem? (i := 4) rfl))) (fun _ h9 => h9) rfl dX5_staleFrom_2 ?_
  refine lv_iload_n hx hb dX5_staleFrom_5 rfl (lv_at hl 1 rfl) ?_
  refine va_mmin hx hb (by rw [hml]; exact hl.1.symm) hown (htw _ (ck_24 _ (List.mem_of_getElem? (i := 5) rfl))) (htw _ (ck_14 _ (List.mem_of_getElem? (i := 7) rfl))) (htw _ (ck_14 _ (List.mem_of_getElem? (i := 8) rfl))) (htw _ (ck_14 _ (List.mem_of_getElem? (i := 9) rfl))) (Nat.le_of_ble_eq_true rfl) (Nat.le_of_ble_eq_true rfl) (Nat.le_of_ble_eq_true rfl) (Nat.le_of_ble_eq_true rfl) dX5_staleFrom_6 ?_
  refine va_put (D := (dC, dI)) (ci := 5) (v := .int (if a0 < dfr then a0 else dfr)) (ty := tyX5 1) (C := RX5) (T := TX5) (N := 6) hx hb htw inlX5 tyX5 tyX5_ok nmX5 hown hK hP hD hS 0 rfl rfl 1 (by decide) (htw _ (ck_24 _ (List.mem_of_getElem? (i := 4) rfl))) (fun _ h9 => h9) rfl (tyX5_ok 1 (by decide)) rfl rfl (Nat.le_of_ble_eq_true rfl) dX5_staleFrom_9 (fun H locs hP hD hS => ?_)
  obtain ⟨hP, hD⟩ := zre [(eO5a xdy drw (if a0 < dfr then a0 else dfr) dsh dto dmo dwi)] hP hD rfl
  refine W.widen (k := 0) (n := 0) (by omega) (by omega) ?_
  have hP9 := hP
  have hD9 := hD
  have hK9 := hK.sub (tys' := []) [] rfl
  exact W.vret hx hb hr (fun t ht hW => ⟨⟨(if a0 < dfr then a0 else dfr), rfl, (Eq.symm ((by rw [fd_stale]))), by rw [ht]; exact hP9, va_K.moved hW.alike hK9, hD9⟩, hS.F ht⟩) hS.2.2 dX5_staleFrom_12

def fx_note (xsc : Int32) (fSt : Nat → Int32) (dfr : Int32) (ns : Int32) (fNs : Nat → Int32) : Int32 × (Int32) × (Nat → Int32) × (Int32) × (Nat → Int32) × (Int32) := (if 12 ≤ ns then ((-1 : Int32), xsc, fSt, ns, fNs, dfr) else (if xsc < 108 then (xL ((fn_begin fNs ns)) (fun u_4 => (xL ((fd_stale dfr ns)) (fun u_7 => (ns, (xsc + 1), (upd fSt xsc.toNatClampNeg 8), (ns + 1), u_4, u_7))))) else ((-1 : Int32), xsc, fSt, ns, fNs, dfr)))
theorem gx_note_s0 {y0 : Int32} (h0 : y0 < 108) (h1 : ¬ (y0 < 0)) : ¬ (y0 < 0) ∧ ¬ (108 ≤ y0) := by lia
theorem dX11_note_0 : decode cX11_note 0 = .ok (.aload_n 0, 1) := zk_42 (by decide +kernel)
theorem dX11_note_1 : decode cX11_note 1 = .ok (.getfield 19, 3) := zk_180 (by decide +kernel)
theorem dX11_note_4 : decode cX11_note 4 = .ok (.getfield 290, 3) := zk_180 (by decide +kernel)
theorem dX11_note_7 : decode cX11_note 7 = .ok (.astore_n 1, 1) := zk_76 (by decide +kernel)
theorem dX11_note_8 : decode cX11_note 8 = .ok (.aload_n 1, 1) := zk_43 (by decide +kernel)
theorem dX11_note_9 : decode cX11_note 9 = .ok (.getfield 293, 3) := zk_180 (by decide +kernel)
theorem dX11_note_12 : decode cX11_note 12 = .ok (.bipush 12, 2) := zk_16 (by decide +kernel)
theorem dX11_note_14 : decode cX11_note 14 = .ok (.if_icmp .ge 15, 3) := zk_162 (by decide +kernel)
theorem dX11_note_29 : decode cX11_note 29 = .ok (.iconst (-1), 1) := zk_2 (by decide +kernel)
theorem dX11_note_30 : decode cX11_note 30 = .ok (.ireturn, 1) := zk_172 (by decide +kernel)
theorem dX11_note_17 : decode cX11_note 17 = .ok (.aload_n 0, 1) := zk_42 (by decide +kernel)
theorem dX11_note_18 : decode cX11_note 18 = .ok (.getfield 92, 3) := zk_180 (by decide +kernel)
theorem dX11_note_21 : decode cX11_note 21 = .ok (.aload_n 0, 1) := zk_42 (by decide +kernel)
theorem dX11_note_22 : decode cX11_note 22 = .ok (.getfield 40, 3) := zk_180 (by decide +kernel)
theorem dX11_note_25 : decode cX11_note 25 = .ok (.arraylength, 1) := zk_190 (by decide +kernel)
theorem dX11_note_26 : decode cX11_note 26 = .ok (.if_icmp .lt 5, 3) := zk_161 (by decide +kernel)
theorem dX11_note_31 : decode cX11_note 31 = .ok (.aload_n 1, 1) := zk_43 (by decide +kernel)
theorem dX11_note_32 : decode cX11_note 32 = .ok (.getfield 293, 3) := zk_180 (by decide +kernel)
theorem dX11_note_35 : decode cX11_note 35 = .ok (.istore_n 2, 1) := zk_61 (by decide +kernel)
theorem dX11_note_36 : decode cX11_note 36 = .ok (.aload_n 1, 1) := zk_43 (by decide +kernel)
theorem dX11_note_37 : decode cX11_note 37 = .ok (.iload_n 2, 1) := zk_28 (by decide +kernel)
theorem dX11_note_38 : decode cX11_note 38 = .ok (.invokevirtual 294, 3) := zk_182 (by decide +kernel)
theorem dX11_note_41 : decode cX11_note 41 = .ok (.aload_n 1, 1) := zk_43 (by decide +kernel)
theorem dX11_note_42 : decode cX11_note 42 = .ok (.dup, 1) := zk_89 (by decide +kernel)
theorem dX11_note_43 : decode cX11_note 43 = .ok (.getfield 293, 3) := zk_180 (by decide +kernel)
theorem dX11_note_46 : decode cX11_note 46 = .ok (.iconst 1, 1) := zk_4 (by decide +kernel)
theorem dX11_note_47 : decode cX11_note 47 = .ok (.iadd, 1) := zk_96 (by decide +kernel)
theorem dX11_note_48 : decode cX11_note 48 = .ok (.putfield 293, 3) := zk_181 (by decide +kernel)
theorem dX11_note_51 : decode cX11_note 51 = .ok (.aload_n 0, 1) := zk_42 (by decide +kernel)
theorem dX11_note_52 : decode cX11_note 52 = .ok (.getfield 29, 3) := zk_180 (by decide +kernel)
theorem dX11_note_55 : decode cX11_note 55 = .ok (.iload_n 2, 1) := zk_28 (by decide +kernel)
theorem dX11_note_56 : decode cX11_note 56 = .ok (.invokevirtual 89, 3) := zk_182 (by decide +kernel)
theorem dX11_note_59 : decode cX11_note 59 = .ok (.aload_n 0, 1) := zk_42 (by decide +kernel)
theorem dX11_note_60 : decode cX11_note 60 = .ok (.getfield 40, 3) := zk_180 (by decide +kernel)
theorem dX11_note_63 : decode cX11_note 63 = .ok (.aload_n 0, 1) := zk_42 (by decide +kernel)
theorem dX11_note_64 : decode cX11_note 64 = .ok (.getfield 92, 3) := zk_180 (by decide +kernel)
theorem dX11_note_67 : decode cX11_note 67 = .ok (.bipush 8, 2) := zk_16 (by decide +kernel)
theorem dX11_note_69 : decode cX11_note 69 = .ok (.iastore, 1) := zk_79 (by decide +kernel)
theorem dX11_note_70 : decode cX11_note 70 = .ok (.aload_n 0, 1) := zk_42 (by decide +kernel)
theorem dX11_note_71 : decode cX11_note 71 = .ok (.dup, 1) := zk_89 (by decide +kernel)
theorem dX11_note_72 : decode cX11_note 72 = .ok (.getfield 92, 3) := zk_180 (by decide +kernel)
theorem dX11_note_75 : decode cX11_note 75 = .ok (.iconst 1, 1) := zk_4 (by decide +kernel)
theorem dX11_note_76 : decode cX11_note 76 = .ok (.iadd, 1) := zk_96 (by decide +kernel)
theorem dX11_note_77 : decode cX11_note 77 = .ok (.putfield 92, 3) := zk_181 (by decide +kernel)
theorem dX11_note_80 : decode cX11_note 80 = .ok (.iload_n 2, 1) := zk_28 (by decide +kernel)
theorem dX11_note_81 : decode cX11_note 81 = .ok (.ireturn, 1) := zk_172 (by decide +kernel)
set_option maxHeartbeats 4000000 in
set_option maxRecDepth 100000 in
theorem gx_note (l : Launch) (dC : Nat → ClassId) (dI : Nat → Nat → Nat) (x : Nat) (pa : Nat) (bk : Nat) (xsp : Nat) (xdy : Nat) (le : Nat) (xst : Nat) (xsc : Int32) (xim : Nat) (xil : Nat) (xik : Int32) (xmo : Nat) (xom : Nat) (wi : Nat) (cSt : ClassId) (fSt : Nat → Int32) (drw : Nat) (dfr : Int32) (dsh : Nat) (dto : Nat) (dmo : Nat) (dwi : Nat) (bto : Nat) (bnm : Nat) (bla : Nat) (bsk : Nat) (bru : Nat) (bbo : Nat) (bdi : Nat) (bda : Nat) (bdk : Nat) (bdt : Nat) (bdp : Nat) (bno : Nat) (ns : Int32) (nsa : Nat) (nfa : Nat) (nza : Nat) (cNs : ClassId) (fNs : Nat → Int32) (sz : Nat) (h0_sc : ¬ xsc < 0) : Met l yX11_note (Cond.code yX11_note cX11_note 3 (some .int) :: wsL_law) ({ frames := 2, cells := 0, slots := 0, locals := 35 }) (va_Pc [.ref x] (fun U => U.heap.size = sz ∧ va_P (dC, dI) vwCl [(eO11a x pa bk xsp xdy le xst xsc xim xil xik xmo xom wi), (eA0 xst cSt 108 fSt), (eO5a xdy drw dfr dsh dto dmo dwi), (eO0a bk bto bnm bla bsk bru bbo bdi bda bdk bdt bdp bno), (eO6a bno ns nsa nfa nza), (eA0 nsa cNs 12 fNs)] U.heap ∧ va_K (dC, dI) vwCl [(cSt, .int), (cNs, .int)] U ∧ va_D (fun _ => True) [(eO11a x pa bk xsp xdy le xst xsc xim xil xik xmo xom wi), (eA0 xst cSt 108 fSt), (eO5a xdy drw dfr dsh dto dmo dwi), (eO0a bk bto bnm bla bsk bru bbo bdi bda bdk bdt bdp bno), (eO6a bno ns nsa nfa nza), (eA0 nsa cNs 12 fNs)])) (va_Qi (fun (r : Int32) (u : (Int32) × (Nat → Int32) × (Int32) × (Nat → Int32) × (Int32)) => r = (fx_note xsc fSt dfr ns fNs).1 ∧ u = (fx_note xsc fSt dfr ns fNs).2) (fun (u : (Int32) × (Nat → Int32) × (Int32) × (Nat → Int32) × (Int32)) t => va_P (dC, dI) vwCl [(eO11a x pa bk xsp xdy le xst u.1 xim xil xik xmo xom wi), (eA0 xst cSt 108 u.2.1), (eO5a xdy drw u.2.2.2.2 dsh dto dmo dwi), (eO0a bk bto bnm bla bsk bru bbo bdi bda bdk bdt bdp bno), (eO6a bno u.2.2.1 nsa nfa nza), (eA0 nsa cNs 12 u.2.2.2.1)] t.heap ∧ va_K (dC, dI) vwCl [] t ∧ va_D (va_A [(eO11a x pa bk xsp xdy le xst xsc xim xil xik xmo xom wi), (eA0 xst cSt 108 fSt), (eO5a xdy drw dfr dsh dto dmo dwi), (eO0a bk bto bnm bla bsk bru bbo bdi bda bdk bdt bdp bno), (eO6a bno ns nsa nfa nza), (eA0 nsa cNs 12 fNs)] sz) [(eO11a x pa bk xsp xdy le xst u.1 xim xil xik xmo xom wi), (eA0 xst cSt 108 u.2.1), (eO5a xdy drw u.2.2.2.2 dsh dto dmo dwi), (eO0a bk bto bnm bla bsk bru bbo bdi bda bdk bdt bdp bno), (eO6a bno u.2.2.1 nsa nfa nza), (eA0 nsa cNs 12 u.2.2.2.1)]) (va_A [(eO11a x pa bk xsp xdy le xst xsc xim xil xik xmo xom wi), (eA0 xst cSt 108 fSt), (eO5a xdy drw dfr dsh dto dmo dwi), (eO0a bk bto bnm bla bsk bru bbo bdi bda bdk bdt bdp bno), (eO6a bno ns nsa nfa nza), (eA0 nsa cNs 12 fNs)] sz)) 0 0 (va_A [(eO11a x pa bk xsp xdy le xst xsc xim xil xik xmo xom wi), (eA0 xst cSt 108 fSt), (eO5a xdy drw dfr dsh dto dmo dwi), (eO0a bk bto bnm bla bsk bru bbo bdi bda bdk bdt bdp bno), (eO6a bno ns nsa nfa nza), (eA0 nsa cNs 12 fNs)] sz) := by
  refine Met.ofW (cc := cX11_note) (maxL := 3) (ret := (some .int)) (by decide) rfl ?_
  intro p e s m args below meth c s₁ B hml hv
  obtain ⟨rfl, hsz, hP, hK, hD0⟩ := hv
  have hx := B.exec
  have hb := B.bytes
  have hr := B.returns
  have hts := atoms_spec (ws := Cond.code yX11_note cX11_note 3 (some .int) :: wsL_law) B.pre
  have htw : ∀ w ∈ wsL_law, w.before _ s = true := fun w h => hts w (List.mem_cons_of_mem _ h)
  have hown : s.vm.findClass RX11 = some m.cls := findClass_of_methodNamed B.named
  have hlocks := B.notSynchronized
  subst hsz
  have hD := hD0.self (sz := s.heap.size)
  generalize hAe : va_A [(eO11a x pa bk xsp xdy le xst xsc xim xil xik xmo xom wi), (eA0 xst cSt 108 fSt), (eO5a xdy drw dfr dsh dto dmo dwi), (eO0a bk bto bnm bla bsk bru bbo bdi bda bdk bdt bdp bno), (eO6a bno ns nsa nfa nza), (eA0 nsa cNs 12 fNs)] s.heap.size = A at hD ⊢
  have hA : ∀ q : Nat, s.heap.size ≤ q → A q := fun q h => by rw [← hAe]; exact Or.inr h
  obtain ⟨H, rH⟩ : ∃ z : Heap, z = s.heap := ⟨_, rfl⟩
  have hS : va_S A s.heap H [] := by rw [rH]; exact va_S.rf
  have hP : va_P (dC, dI) vwCl [(eO11a x pa bk xsp xdy le xst xsc xim xil xik xmo xom wi), (eA0 xst cSt 108 fSt), (eO5a xdy drw dfr dsh dto dmo dwi), (eO0a bk bto bnm bla bsk bru bbo bdi bda bdk bdt bdp bno), (eO6a bno ns nsa nfa nza), (eA0 nsa cNs 12 fNs)] H := by rw [rH]; exact hP
  rw [← rH]
  have hl := lv_entry ([.ref x]) (n := 3) (Nat.le_of_ble_eq_true rfl)
  rw [lg_entry_eq]
  generalize (lg_sl ([.ref x]) ++ List.replicate (3 - (lg_sl ([.ref x])).length) Slot.unset).toArray = ls at hl ⊢
  have hl : lv_has ls 3 [(0, .ref x)] := hl
  refine lv_aload_n hx hb dX11_note_0 rfl (lv_at hl 0 rfl) ?_
  refine va_get (D := (dC, dI)) (ci := 11) (v := .ref bk) (C := RX11) (T := TX11) (N := 13) hx hb htw inlX11 hown hK hP 0 rfl rfl 1 (by decide) (htw _ (ck_1 _ (List.mem_of_getElem? (i := 21) rfl))) (fun _ h9 => h9) rfl dX11_note_1 ?_
  refine va_get (D := (dC, dI)) (ci := 0) (v := .ref bno) (C := RX0) (T := TX0) (N := 12) hx hb htw inlX0 hown hK hP 3 rfl rfl 11 (by decide) (htw _ (ck_52 _ (List.mem_of_getElem? (i := 7) rfl))) (fun _ h9 => h9) rfl dX11_note_4 ?_
  refine lv_astore_n (lv' := [(1, .ref bno), (0, .ref x)]) hx hb dX11_note_7 rfl hl (by decide) rfl (fun ls hl => ?_)
  refine lv_aload_n hx hb dX11_note_8 rfl (lv_at hl 0 rfl) ?_
  refine va_get (D := (dC, dI)) (ci := 6) (v := .int ns) (C := RX6) (T := TX6) (N := 4) hx hb htw inlX6 hown hK hP 4 rfl rfl 0 (by decide) (htw _ (ck_52 _ (List.mem_of_getElem? (i := 8) rfl))) (fun _ h9 => h9) rfl dX11_note_9 ?_
  refine lv_bipush (v := 12) hx hb dX11_note_12 (by decide) ?_
  refine lv_icmp_ge (tgt := 29) hx hb dX11_note_14 (by decide) (fun c_1 => ?_) (fun c_1 => ?_)
  · refine lv_iconst (v := (-1)) hx hb dX11_note_29 (by decide) ?_
    refine W.widen (k := 0) (n := 0) (by omega) (by omega) ?_
    have hP9 := hP
    have hD9 := hD
    have hK9 := hK.sub (tys' := []) [] rfl
    exact W.iret (v := (-1)) hx hb hr (fun t ht hW => ⟨⟨(-1), (xsc, fSt, ns, fNs, dfr), rfl, ((fun e9 => ⟨by rw [e9], by rw [e9]⟩ : fx_note xsc fSt dfr ns fNs = ((-1 : Int32), xsc, fSt, ns, fNs, dfr) → _) ((by rw [fx_note]; (try rw [if_pos c_1]); try rfl))), by rw [ht]; exact hP9, va_K.moved hW.alike hK9, hD9⟩, hS.F ht⟩) hS.2.2 dX11_note_30
  · refine lv_aload_n hx hb dX11_note_17 rfl (lv_at hl 1 rfl) ?_
    refine va_get (D := (dC, dI)) (ci := 11) (v := .int xsc) (C := RX11) (T := TX11) (N := 13) hx hb htw inlX11 hown hK hP 0 rfl rfl 6 (by decide) (htw _ (ck_12 _ (List.mem_of_getElem? (i := 22) rfl))) (fun _ h9 => h9) rfl dX11_note_18 ?_
    refine lv_aload_n hx hb dX11_note_21 rfl (lv_at hl 1 rfl) ?_
    refine va_get (D := (dC, dI)) (ci := 11) (v := .ref xst) (C := RX11) (T := TX11) (N := 13) hx hb htw inlX11 hown hK hP 0 rfl rfl 5 (by decide) (htw _ (ck_2 _ (List.mem_of_getElem? (i := 8) rfl))) (fun _ h9 => h9) rfl dX11_note_22 ?_
    refine va_alen hx hb hK hP 1 0 rfl rfl (v := 108) rfl dX11_note_25 ?_
    refine lv_icmp_lt (tgt := 31) hx hb dX11_note_26 (by decide) (fun c_2 => ?_) (fun c_2 => ?_)
    · refine lv_aload_n hx hb dX11_note_31 rfl (lv_at hl 0 rfl) ?_
      refine va_get (D := (dC, dI)) (ci := 6) (v := .int ns) (C := RX6) (T := TX6) (N := 4) hx hb htw inlX6 hown hK hP 4 rfl rfl 0 (by decide) (htw _ (ck_52 _ (List.mem_of_getElem? (i := 8) rfl))) (fun _ h9 => h9) rfl dX11_note_32 ?_
      refine lv_istore_n (lv' := [(2, .int ns), (1, .ref bno), (0, .ref x)]) hx hb dX11_note_35 rfl hl (by decide) rfl (fun ls hl => ?_)
      refine lv_aload_n hx hb dX11_note_36 rfl (lv_at hl 1 rfl) ?_
      refine lv_iload_n hx hb dX11_note_37 rfl (lv_at hl 0 rfl) ?_
      obtain ⟨hPc, hDc, hFc, hCc⟩ := zsub3 (ws' := [(eO6a bno ns nsa nfa nza), (eA0 nsa cNs 12 fNs)]) hP hD hS hA [4, 5] (by decide) rfl
      have hKc := hK.sub (tys' := [(cNs, .int)]) [1] rfl
      refine va_callv (va_runV (As := [.int ns]) (rest := []) ⟨hx, hb, hml, hown, htw⟩ (gn_begin l dC dI bno ns nsa nfa nza cNs fNs ns H.size) (cwV 1 htw (xg_V (ck_52 _ (List.mem_of_getElem? (i := 9) rfl)) (ck_23 _ (List.mem_of_getElem? (i := 3) rfl)) (ck_23 _ (List.mem_of_getElem? (i := 4) rfl)) (ck_2 _ (List.mem_of_getElem? (i := 11) rfl)) (ck_23 _ (List.mem_of_getElem? (i := 5) rfl))) rfl rfl rfl (by exact ⟨rfl, hdc_3.1, hdc_3.2, hdd_9⟩) ⟨Nat.le_of_ble_eq_true rfl, Nat.le_of_ble_eq_true rfl⟩) ⟨fun a U g mk q => by obtain ⟨q0, q1, qP, qK, qD⟩ := q; exact ⟨q0, q1, qP, va_K.moved (u := U) (U := U.calling g mk a) (Vm.Alike.refl U.vm) qK, qD⟩, va_recv hKc hPc (ci := 6) (q0 := 0) rfl rfl, fun U hU hW => ⟨rfl, by rw [hU], by rw [hU]; exact hPc, va_K.moved hW.alike hKc, hDc.weaken (fun _ _ _ _ => trivial)⟩⟩ rfl rfl hl.1 rfl (lv_room (Nat.le_of_ble_eq_true rfl)) dX11_note_38 ⟨Nat.le_of_ble_eq_true rfl, Nat.le_of_ble_eq_true rfl⟩) hS (fun q _ h => hFc q h) hFc (fun u_4 t H1 locs ht hvm hw hB hz1 hk1 hS => ?_)
      try dsimp only at hw
      obtain ⟨hP1, hK1, hD1⟩ := hB
      rw [ht] at hP1
      have hK1 := va_K.moved hvm.symm hK1
      have hK1 : va_K (dC, dI) vwCl [] s := hK1
      obtain ⟨hP, hD⟩ := va_join (wr := [(eO11a x pa bk xsp xdy le xst xsc xim xil xik xmo xom wi), (eA0 xst cSt 108 fSt), (eO5a xdy drw dfr dsh dto dmo dwi), (eO0a bk bto bnm bla bsk bru bbo bdi bda bdk bdt bdp bno)]) (w1 := [(eO6a bno ns nsa nfa nza), (eA0 nsa cNs 12 u_4)]) hP hD [4, 5] [0, 1, 2, 3] hCc rfl (by decide) (by decide) hk1 hFc hP1 hD1
      generalize H1 = H at hP hS ⊢
      obtain ⟨hP, hD⟩ := zre [(eO11a x pa bk xsp xdy le xst xsc xim xil xik xmo xom wi), (eA0 xst cSt 108 fSt), (eO5a xdy drw dfr dsh dto dmo dwi), (eO0a bk bto bnm bla bsk bru bbo bdi bda bdk bdt bdp bno), (eO6a bno ns nsa nfa nza), (eA0 nsa cNs 12 u_4)] hP hD rfl
      refine W.widen (k := 0) (n := 0) (by omega) (by omega) ?_
      have hq_u_4 : u_4 = (fn_begin fNs ns) := hw
      refine lv_aload_n hx hb dX11_note_41 rfl (lv_at hl 1 rfl) ?_
      refine lv_dup hx hb dX11_note_42 rfl ?_
      refine va_get (D := (dC, dI)) (ci := 6) (v := .int ns) (C := RX6) (T := TX6) (N := 4) hx hb htw inlX6 hown hK hP 4 rfl rfl 0 (by decide) (htw _ (ck_52 _ (List.mem_of_getElem? (i := 8) rfl))) (fun _ h9 => h9) rfl dX11_note_43 ?_
      refine lv_iconst (v := 1) hx hb dX11_note_46 (by decide) ?_
      refine lv_iadd hx hb dX11_note_47 ?_
      refine va_put (D := (dC, dI)) (ci := 6) (v := .int (ns + 1)) (ty := tyX6 0) (C := RX6) (T := TX6) (N := 4) hx hb htw inlX6 tyX6 tyX6_ok nmX6 hown hK hP hD hS 4 rfl rfl 0 (by decide) (htw _ (ck_52 _ (List.mem_of_getElem? (i := 8) rfl))) (fun _ h9 => h9) rfl (tyX6_ok 0 (by decide)) rfl rfl (Nat.le_of_ble_eq_true rfl) dX11_note_48 (fun H locs hP hD hS => ?_)
      obtain ⟨hP, hD⟩ := zre [(eO11a x pa bk xsp xdy le xst xsc xim xil xik xmo xom wi), (eA0 xst cSt 108 fSt), (eO5a xdy drw dfr dsh dto dmo dwi), (eO0a bk bto bnm bla bsk bru bbo bdi bda bdk bdt bdp bno), (eO6a bno (ns + 1) nsa nfa nza), (eA0 nsa cNs 12 u_4)] hP hD rfl
      refine lv_aload_n hx hb dX11_note_51 rfl (lv_at hl 2 rfl) ?_
      refine va_get (D := (dC, dI)) (ci := 11) (v := .ref xdy) (C := RX11) (T := TX11) (N := 13) hx hb htw inlX11 hown hK hP 0 rfl rfl 3 (by decide) (htw _ (ck_2 _ (List.mem_of_getElem? (i := 2) rfl))) (fun _ h9 => h9) rfl dX11_note_52 ?_
      refine lv_iload_n hx hb dX11_note_55 rfl (lv_at hl 0 rfl) ?_
      obtain ⟨hPc, hDc, hFc, hCc⟩ := zsub3 (ws' := [(eO5a xdy drw dfr dsh dto dmo dwi)]) hP hD hS hA [2] (by decide) rfl
      have hKc := hK.sub (tys' := []) [] rfl
      refine va_callv (va_runV (As := [.int ns]) (rest := []) ⟨hx, hb, hml, hown, htw⟩ (gd_stale l dC dI xdy drw dfr dsh dto dmo dwi ns H.size) (cwV 1 htw (xg_V (ck_24 _ (List.mem_of_getElem? (i := 0) rfl)) (ck_24 _ (List.mem_of_getElem? (i := 1) rfl)) (ck_24 _ (List.mem_of_getElem? (i := 2) rfl)) (ck_2 _ (List.mem_of_getElem? (i := 1) rfl)) (ck_24 _ (List.mem_of_getElem? (i := 3) rfl))) rfl rfl rfl (by exact ⟨rfl, hdc_10.1, hdc_10.2, hdd_9⟩) ⟨Nat.le_of_ble_eq_true rfl, Nat.le_of_ble_eq_true rfl⟩) ⟨fun a U g mk q => by obtain ⟨q0, q1, qP, qK, qD⟩ := q; exact ⟨q0, q1, qP, va_K.moved (u := U) (U := U.calling g mk a) (Vm.Alike.refl U.vm) qK, qD⟩, va_recv hKc hPc (ci := 5) (q0 := 0) rfl rfl, fun U hU hW => ⟨rfl, by rw [hU], by rw [hU]; exact hPc, va_K.moved hW.alike hKc, hDc.weaken (fun _ _ _ _ => trivial)⟩⟩ rfl rfl hl.1 rfl (lv_room (Nat.le_of_ble_eq_true rfl)) dX11_note_56 ⟨Nat.le_of_ble_eq_true rfl, Nat.le_of_ble_eq_true rfl⟩) hS (fun q _ h => hFc q h) hFc (fun u_7 t H1 locs ht hvm hw hB hz1 hk1 hS => ?_)
      try dsimp only at hw
      obtain ⟨hP1, hK1, hD1⟩ := hB
      rw [ht] at hP1
      have hK1 := va_K.moved hvm.symm hK1
      have hK1 : va_K (dC, dI) vwCl [] s := hK1
      obtain ⟨hP, hD⟩ := va_join (wr := [(eO11a x pa bk xsp xdy le xst xsc xim xil xik xmo xom wi), (eA0 xst cSt 108 fSt), (eO0a bk bto bnm bla bsk bru bbo bdi bda bdk bdt bdp bno), (eO6a bno (ns + 1) nsa nfa nza), (eA0 nsa cNs 12 u_4)]) (w1 := [(eO5a xdy drw u_7 dsh dto dmo dwi)]) hP hD [2] [0, 1, 3, 4, 5] hCc rfl (by decide) (by decide) hk1 hFc hP1 hD1
      generalize H1 = H at hP hS ⊢
      obtain ⟨hP, hD⟩ := zre [(eO11a x pa bk xsp xdy le xst xsc xim xil xik xmo xom wi), (eA0 xst cSt 108 fSt), (eO0a bk bto bnm bla bsk bru bbo bdi bda bdk bdt bdp bno), (eO6a bno (ns + 1) nsa nfa nza), (eA0 nsa cNs 12 u_4), (eO5a xdy drw u_7 dsh dto dmo dwi)] hP hD rfl
      refine W.widen (k := 0) (n := 0) (by omega) (by omega) ?_
      have hq_u_7 : u_7 = (fd_stale dfr ns) := hw
      refine lv_aload_n hx hb dX11_note_59 rfl (lv_at hl 2 rfl) ?_
      refine va_get (D := (dC, dI)) (ci := 11) (v := .ref xst) (C := RX11) (T := TX11) (N := 13) hx hb htw inlX11 hown hK hP 0 rfl rfl 5 (by decide) (htw _ (ck_2 _ (List.mem_of_getElem? (i := 8) rfl))) (fun _ h9 => h9) rfl dX11_note_60 ?_
      refine lv_aload_n hx hb dX11_note_63 rfl (lv_at hl 2 rfl) ?_
      refine va_get (D := (dC, dI)) (ci := 11) (v := .int xsc) (C := RX11) (T := TX11) (N := 13) hx hb htw inlX11 hown hK hP 0 rfl rfl 6 (by decide) (htw _ (ck_12 _ (List.mem_of_getElem? (i := 22) rfl))) (fun _ h9 => h9) rfl dX11_note_64 ?_
      refine lv_bipush (v := 8) hx hb dX11_note_67 (by decide) ?_
      refine va_iast hx hb hK hP hD hS 1 0 rfl rfl (xg_inr (N := 108) rfl (gx_note_s0 (y0 := xsc) c_2 h0_sc).1 (gx_note_s0 (y0 := xsc) c_2 h0_sc).2) dX11_note_69 (fun H locs hP hD hS => ?_)
      obtain ⟨hP, hD⟩ := zre [(eO11a x pa bk xsp xdy le xst xsc xim xil xik xmo xom wi), (eA0 xst cSt 108 (upd fSt xsc.toNatClampNeg 8)), (eO0a bk bto bnm bla bsk bru bbo bdi bda bdk bdt bdp bno), (eO6a bno (ns + 1) nsa nfa nza), (eA0 nsa cNs 12 u_4), (eO5a xdy drw u_7 dsh dto dmo dwi)] hP hD rfl
      refine lv_aload_n hx hb dX11_note_70 rfl (lv_at hl 2 rfl) ?_
      refine lv_dup hx hb dX11_note_71 rfl ?_
      refine va_get (D := (dC, dI)) (ci := 11) (v := .int xsc) (C := RX11) (T := TX11) (N := 13) hx hb htw inlX11 hown hK hP 0 rfl rfl 6 (by decide) (htw _ (ck_12 _ (List.mem_of_getElem? (i := 22) rfl))) (fun _ h9 => h9) rfl dX11_note_72 ?_
      refine lv_iconst (v := 1) hx hb dX11_note_75 (by decide) ?_
      refine lv_iadd hx hb dX11_note_76 ?_
      refine va_put (D := (dC, dI)) (ci := 11) (v := .int (xsc + 1)) (ty := tyX11 6) (C := RX11) (T := TX11) (N := 13) hx hb htw inlX11 tyX11 tyX11_ok nmX11 hown hK hP hD hS 0 rfl rfl 6 (by decide) (htw _ (ck_12 _ (List.mem_of_getElem? (i := 22) rfl))) (fun _ h9 => h9) rfl (tyX11_ok 6 (by decide)) rfl rfl (Nat.le_of_ble_eq_true rfl) dX11_note_77 (fun H locs hP hD hS => ?_)
      obtain ⟨hP, hD⟩ := zre [(eO11a x pa bk xsp xdy le xst (xsc + 1) xim xil xik xmo xom wi), (eA0 xst cSt 108 (upd fSt xsc.toNatClampNeg 8)), (eO0a bk bto bnm bla bsk bru bbo bdi bda bdk bdt bdp bno), (eO6a bno (ns + 1) nsa nfa nza), (eA0 nsa cNs 12 u_4), (eO5a xdy drw u_7 dsh dto dmo dwi)] hP hD rfl
      refine lv_iload_n hx hb dX11_note_80 rfl (lv_at hl 0 rfl) ?_
      refine W.widen (k := 0) (n := 0) (by omega) (by omega) ?_
      obtain ⟨hP9, hD9⟩ := zsub2 (ws' := [(eO11a x pa bk xsp xdy le xst (xsc + 1) xim xil xik xmo xom wi), (eA0 xst cSt 108 (upd fSt xsc.toNatClampNeg 8)), (eO5a xdy drw u_7 dsh dto dmo dwi), (eO0a bk bto bnm bla bsk bru bbo bdi bda bdk bdt bdp bno), (eO6a bno (ns + 1) nsa nfa nza), (eA0 nsa cNs 12 u_4)]) hP hD [0, 1, 5, 2, 3, 4] (by decide) rfl
      have hK9 := hK.sub (tys' := []) [] rfl
      exact W.iret (v := ns) hx hb hr (fun t ht hW => ⟨⟨ns, ((xsc + 1), (upd fSt xsc.toNatClampNeg 8), (ns + 1), u_4, u_7), rfl, ((fun e9 => ⟨by rw [e9], by rw [e9]⟩ : fx_note xsc fSt dfr ns fNs = (ns, (xsc + 1), (upd fSt xsc.toNatClampNeg 8), (ns + 1), u_4, u_7) → _) ((by rw [fx_note]; (try rw [if_neg c_1]); (try rw [if_pos c_2]); (try rw [← hq_u_4]); (try rw [xL_eq]); (try rw [← hq_u_7]); (try rw [xL_eq]); try rfl))), by rw [ht]; exact hP9, va_K.moved hW.alike hK9, hD9⟩, hS.F ht⟩) hS.2.2 dX11_note_81
    · refine lv_iconst (v := (-1)) hx hb dX11_note_29 (by decide) ?_
      refine W.widen (k := 0) (n := 0) (by omega) (by omega) ?_
      obtain ⟨hP9, hD9⟩ := zsub2 (ws' := [(eO11a x pa bk xsp xdy le xst xsc xim xil xik xmo xom wi), (eA0 xst cSt 108 fSt), (eO5a xdy drw dfr dsh dto dmo dwi), (eO0a bk bto bnm bla bsk bru bbo bdi bda bdk bdt bdp bno), (eO6a bno ns nsa nfa nza), (eA0 nsa cNs 12 fNs)]) hP hD [0, 1, 2, 3, 4, 5] (by decide) rfl
      have hK9 := hK.sub (tys' := []) [] rfl
      exact W.iret (v := (-1)) hx hb hr (fun t ht hW => ⟨⟨(-1), (xsc, fSt, ns, fNs, dfr), rfl, ((fun e9 => ⟨by rw [e9], by rw [e9]⟩ : fx_note xsc fSt dfr ns fNs = ((-1 : Int32), xsc, fSt, ns, fNs, dfr) → _) ((by rw [fx_note]; (try rw [if_neg c_1]); (try rw [if_neg c_2]); try rfl))), by rw [ht]; exact hP9, va_K.moved hW.alike hK9, hD9⟩, hS.F ht⟩) hS.2.2 dX11_note_30

def fx_undo_j (xsc : Int32) (fSt : Nat → Int32) (ns : Int32) (fNs : Nat → Int32) : (Int32) × (Nat → Int32) := (if fSt ((xsc - 1).toNatClampNeg) = 8 then ((ns - 1), fNs) else (xL ((fn_drop fNs (ns - 1) (fSt ((xsc - 1).toNatClampNeg)))) (fun u_10 => (ns, u_10))))
def fx_undo (xsc : Int32) (fSt : Nat → Int32) (dfr : Int32) (ns : Int32) (fNs : Nat → Int32) : Int32 × (Int32) × (Int32) × (Nat → Int32) × (Int32) := (if xsc < 1 then ((-1 : Int32), xsc, ns, fNs, dfr) else (if 1 ≤ ns then (xL (fx_undo_j xsc fSt ns fNs) (fun X_3 => (xL ((fd_stale dfr (ns - 1))) (fun u_6 => ((xsc - 1), (xsc - 1), X_3.1, X_3.2, u_6))))) else ((-1 : Int32), xsc, ns, fNs, dfr)))
theorem gx_undo_s0 {y0 : Int32} (h0 : ¬ (y0 < 1)) (h1 : ¬ (y0 < 0)) (h2 : y0 ≤ 108) : ¬ ((y0 - 1) < 0) ∧ ¬ (108 ≤ (y0 - 1)) := by lia
theorem gx_undo_s1 {y0 : Int32} (h0 : ¬ (y0 < 1)) (h1 : ¬ (y0 < 0)) (h2 : y0 ≤ 108) : ¬ ((y0 - 1) < 0) ∧ ¬ (108 ≤ (y0 - 1)) := by lia
theorem dX11_undo_0 : decode cX11_undo 0 = .ok (.aload_n 0, 1) := zk_42 (by decide +kernel)
theorem dX11_undo_1 : decode cX11_undo 1 = .ok (.getfield 19, 3) := zk_180 (by decide +kernel)
theorem dX11_undo_4 : decode cX11_undo 4 = .ok (.getfield 290, 3) := zk_180 (by decide +kernel)
theorem dX11_undo_7 : decode cX11_undo 7 = .ok (.astore_n 1, 1) := zk_76 (by decide +kernel)
theorem dX11_undo_8 : decode cX11_undo 8 = .ok (.aload_n 0, 1) := zk_42 (by decide +kernel)
theorem dX11_undo_9 : decode cX11_undo 9 = .ok (.getfield 92, 3) := zk_180 (by decide +kernel)
theorem dX11_undo_12 : decode cX11_undo 12 = .ok (.iconst 1, 1) := zk_4 (by decide +kernel)
theorem dX11_undo_13 : decode cX11_undo 13 = .ok (.if_icmp .lt 11, 3) := zk_161 (by decide +kernel)
theorem dX11_undo_24 : decode cX11_undo 24 = .ok (.iconst (-1), 1) := zk_2 (by decide +kernel)
theorem dX11_undo_25 : decode cX11_undo 25 = .ok (.ireturn, 1) := zk_172 (by decide +kernel)
theorem dX11_undo_16 : decode cX11_undo 16 = .ok (.aload_n 1, 1) := zk_43 (by decide +kernel)
theorem dX11_undo_17 : decode cX11_undo 17 = .ok (.getfield 293, 3) := zk_180 (by decide +kernel)
theorem dX11_undo_20 : decode cX11_undo 20 = .ok (.iconst 1, 1) := zk_4 (by decide +kernel)
theorem dX11_undo_21 : decode cX11_undo 21 = .ok (.if_icmp .ge 5, 3) := zk_162 (by decide +kernel)
theorem dX11_undo_26 : decode cX11_undo 26 = .ok (.aload_n 0, 1) := zk_42 (by decide +kernel)
theorem dX11_undo_27 : decode cX11_undo 27 = .ok (.dup, 1) := zk_89 (by decide +kernel)
theorem dX11_undo_28 : decode cX11_undo 28 = .ok (.getfield 92, 3) := zk_180 (by decide +kernel)
theorem dX11_undo_31 : decode cX11_undo 31 = .ok (.iconst 1, 1) := zk_4 (by decide +kernel)
theorem dX11_undo_32 : decode cX11_undo 32 = .ok (.isub, 1) := zk_100 (by decide +kernel)
theorem dX11_undo_33 : decode cX11_undo 33 = .ok (.putfield 92, 3) := zk_181 (by decide +kernel)
theorem dX11_undo_36 : decode cX11_undo 36 = .ok (.aload_n 1, 1) := zk_43 (by decide +kernel)
theorem dX11_undo_37 : decode cX11_undo 37 = .ok (.getfield 293, 3) := zk_180 (by decide +kernel)
theorem dX11_undo_40 : decode cX11_undo 40 = .ok (.iconst 1, 1) := zk_4 (by decide +kernel)
theorem dX11_undo_41 : decode cX11_undo 41 = .ok (.isub, 1) := zk_100 (by decide +kernel)
theorem dX11_undo_42 : decode cX11_undo 42 = .ok (.istore_n 2, 1) := zk_61 (by decide +kernel)
theorem dX11_undo_43 : decode cX11_undo 43 = .ok (.aload_n 0, 1) := zk_42 (by decide +kernel)
theorem dX11_undo_44 : decode cX11_undo 44 = .ok (.getfield 40, 3) := zk_180 (by decide +kernel)
theorem dX11_undo_47 : decode cX11_undo 47 = .ok (.aload_n 0, 1) := zk_42 (by decide +kernel)
theorem dX11_undo_48 : decode cX11_undo 48 = .ok (.getfield 92, 3) := zk_180 (by decide +kernel)
theorem dX11_undo_51 : decode cX11_undo 51 = .ok (.iaload, 1) := zk_46 (by decide +kernel)
theorem dX11_undo_52 : decode cX11_undo 52 = .ok (.bipush 8, 2) := zk_16 (by decide +kernel)
theorem dX11_undo_79 : decode cX11_undo 79 = .ok (.aload_n 0, 1) := zk_42 (by decide +kernel)
theorem dX11_undo_80 : decode cX11_undo 80 = .ok (.getfield 29, 3) := zk_180 (by decide +kernel)
theorem dX11_undo_83 : decode cX11_undo 83 = .ok (.iload_n 2, 1) := zk_28 (by decide +kernel)
theorem dX11_undo_84 : decode cX11_undo 84 = .ok (.invokevirtual 89, 3) := zk_182 (by decide +kernel)
theorem dX11_undo_87 : decode cX11_undo 87 = .ok (.aload_n 0, 1) := zk_42 (by decide +kernel)
theorem dX11_undo_88 : decode cX11_undo 88 = .ok (.getfield 92, 3) := zk_180 (by decide +kernel)
theorem dX11_undo_91 : decode cX11_undo 91 = .ok (.ireturn, 1) := zk_172 (by decide +kernel)
theorem dX11_undo_54 : decode cX11_undo 54 = .ok (.if_icmp .ne 11, 3) := zk_160 (by decide +kernel)
theorem dX11_undo_65 : decode cX11_undo 65 = .ok (.aload_n 1, 1) := zk_43 (by decide +kernel)
theorem dX11_undo_66 : decode cX11_undo 66 = .ok (.iload_n 2, 1) := zk_28 (by decide +kernel)
theorem dX11_undo_67 : decode cX11_undo 67 = .ok (.aload_n 0, 1) := zk_42 (by decide +kernel)
theorem dX11_undo_68 : decode cX11_undo 68 = .ok (.getfield 40, 3) := zk_180 (by decide +kernel)
theorem dX11_undo_71 : decode cX11_undo 71 = .ok (.aload_n 0, 1) := zk_42 (by decide +kernel)
theorem dX11_undo_72 : decode cX11_undo 72 = .ok (.getfield 92, 3) := zk_180 (by decide +kernel)
theorem dX11_undo_75 : decode cX11_undo 75 = .ok (.iaload, 1) := zk_46 (by decide +kernel)
theorem dX11_undo_76 : decode cX11_undo 76 = .ok (.invokevirtual 314, 3) := zk_182 (by decide +kernel)
theorem dX11_undo_57 : decode cX11_undo 57 = .ok (.aload_n 1, 1) := zk_43 (by decide +kernel)
theorem dX11_undo_58 : decode cX11_undo 58 = .ok (.iload_n 2, 1) := zk_28 (by decide +kernel)
theorem dX11_undo_59 : decode cX11_undo 59 = .ok (.putfield 293, 3) := zk_181 (by decide +kernel)
theorem dX11_undo_62 : decode cX11_undo 62 = .ok (.goto 17, 3) := zk_167 (by decide +kernel)
set_option maxHeartbeats 4000000 in
set_option maxRecDepth 100000 in
theorem gx_undo (l : Launch) (dC : Nat → ClassId) (dI : Nat → Nat → Nat) (x : Nat) (pa : Nat) (bk : Nat) (xsp : Nat) (xdy : Nat) (le : Nat) (xst : Nat) (xsc : Int32) (xim : Nat) (xil : Nat) (xik : Int32) (xmo : Nat) (xom : Nat) (wi : Nat) (cSt : ClassId) (fSt : Nat → Int32) (drw : Nat) (dfr : Int32) (dsh : Nat) (dto : Nat) (dmo : Nat) (dwi : Nat) (bto : Nat) (bnm : Nat) (bla : Nat) (bsk : Nat) (bru : Nat) (bbo : Nat) (bdi : Nat) (bda : Nat) (bdk : Nat) (bdt : Nat) (bdp : Nat) (bno : Nat) (ns : Int32) (nsa : Nat) (nfa : Nat) (nza : Nat) (cNs : ClassId) (fNs : Nat → Int32) (sz : Nat) (h0_sc : ¬ xsc < 0) (h8_sc : xsc ≤ 108) : Met l yX11_undo (Cond.code yX11_undo cX11_undo 3 (some .int) :: wsL_law) ({ frames := 2, cells := 0, slots := 0, locals := 44 }) (va_Pc [.ref x] (fun U => U.heap.size = sz ∧ va_P (dC, dI) vwCl [(eO11a x pa bk xsp xdy le xst xsc xim xil xik xmo xom wi), (eA0 xst cSt 108 fSt), (eO5a xdy drw dfr dsh dto dmo dwi), (eO0a bk bto bnm bla bsk bru bbo bdi bda bdk bdt bdp bno), (eO6a bno ns nsa nfa nza), (eA0 nsa cNs 12 fNs)] U.heap ∧ va_K (dC, dI) vwCl [(cSt, .int), (cNs, .int)] U ∧ va_D (fun _ => True) [(eO11a x pa bk xsp xdy le xst xsc xim xil xik xmo xom wi), (eA0 xst cSt 108 fSt), (eO5a xdy drw dfr dsh dto dmo dwi), (eO0a bk bto bnm bla bsk bru bbo bdi bda bdk bdt bdp bno), (eO6a bno ns nsa nfa nza), (eA0 nsa cNs 12 fNs)])) (va_Qi (fun (r : Int32) (u : (Int32) × (Int32) × (Nat → Int32) × (Int32)) => r = (fx_undo xsc fSt dfr ns fNs).1 ∧ u = (fx_undo xsc fSt dfr ns fNs).2) (fun (u : (Int32) × (Int32) × (Nat → Int32) × (Int32)) t => va_P (dC, dI) vwCl [(eO11a x pa bk xsp xdy le xst u.1 xim xil xik xmo xom wi), (eA0 xst cSt 108 fSt), (eO5a xdy drw u.2.2.2 dsh dto dmo dwi), (eO0a bk bto bnm bla bsk bru bbo bdi bda bdk bdt bdp bno), (eO6a bno u.2.1 nsa nfa nza), (eA0 nsa cNs 12 u.2.2.1)] t.heap ∧ va_K (dC, dI) vwCl [] t ∧ va_D (va_A [(eO11a x pa bk xsp xdy le xst xsc xim xil xik xmo xom wi), (eA0 xst cSt 108 fSt), (eO5a xdy drw dfr dsh dto dmo dwi), (eO0a bk bto bnm bla bsk bru bbo bdi bda bdk bdt bdp bno), (eO6a bno ns nsa nfa nza), (eA0 nsa cNs 12 fNs)] sz) [(eO11a x pa bk xsp xdy le xst u.1 xim xil xik xmo xom wi), (eA0 xst cSt 108 fSt), (eO5a xdy drw u.2.2.2 dsh dto dmo dwi), (eO0a bk bto bnm bla bsk bru bbo bdi bda bdk bdt bdp bno), (eO6a bno u.2.1 nsa nfa nza), (eA0 nsa cNs 12 u.2.2.1)]) (va_A [(eO11a x pa bk xsp xdy le xst xsc xim xil xik xmo xom wi), (eA0 xst cSt 108 fSt), (eO5a xdy drw dfr dsh dto dmo dwi), (eO0a bk bto bnm bla bsk bru bbo bdi bda bdk bdt bdp bno), (eO6a bno ns nsa nfa nza), (eA0 nsa cNs 12 fNs)] sz)) 0 0 (va_A [(eO11a x pa bk xsp xdy le xst xsc xim xil xik xmo xom wi), (eA0 xst cSt 108 fSt), (eO5a xdy drw dfr dsh dto dmo dwi), (eO0a bk bto bnm bla bsk bru bbo bdi bda bdk bdt bdp bno), (eO6a bno ns nsa nfa nza), (eA0 nsa cNs 12 fNs)] sz) := by
  refine Met.ofW (cc := cX11_undo) (maxL := 3) (ret := (some .int)) (by decide) rfl ?_
  intro p e s m args below meth c s₁ B hml hv
  obtain ⟨rfl, hsz, hP, hK, hD0⟩ := hv
  have hx := B.exec
  have hb := B.bytes
  have hr := B.returns
  have hts := atoms_spec (ws := Cond.code yX11_undo cX11_undo 3 (some .int) :: wsL_law) B.pre
  have htw : ∀ w ∈ wsL_law, w.before _ s = true := fun w h => hts w (List.mem_cons_of_mem _ h)
  have hown : s.vm.findClass RX11 = some m.cls := findClass_of_methodNamed B.named
  have hlocks := B.notSynchronized
  subst hsz
  have hD := hD0.self (sz := s.heap.size)
  generalize hAe : va_A [(eO11a x pa bk xsp xdy le xst xsc xim xil xik xmo xom wi), (eA0 xst cSt 108 fSt), (eO5a xdy drw dfr dsh dto dmo dwi), (eO0a bk bto bnm bla bsk bru bbo bdi bda bdk bdt bdp bno), (eO6a bno ns nsa nfa nza), (eA0 nsa cNs 12 fNs)] s.heap.size = A at hD ⊢
  have hA : ∀ q : Nat, s.heap.size ≤ q → A q := fun q h => by rw [← hAe]; exact Or.inr h
  obtain ⟨H, rH⟩ : ∃ z : Heap, z = s.heap := ⟨_, rfl⟩
  have hS : va_S A s.heap H [] := by rw [rH]; exact va_S.rf
  have hP : va_P (dC, dI) vwCl [(eO11a x pa bk xsp xdy le xst xsc xim xil xik xmo xom wi), (eA0 xst cSt 108 fSt), (eO5a xdy drw dfr dsh dto dmo dwi), (eO0a bk bto bnm bla bsk bru bbo bdi bda bdk bdt bdp bno), (eO6a bno ns nsa nfa nza), (eA0 nsa cNs 12 fNs)] H := by rw [rH]; exact hP
  rw [← rH]
  have hl := lv_entry ([.ref x]) (n := 3) (Nat.le_of_ble_eq_true rfl)
  rw [lg_entry_eq]
  generalize (lg_sl ([.ref x]) ++ List.replicate (3 - (lg_sl ([.ref x])).length) Slot.unset).toArray = ls at hl ⊢
  have hl : lv_has ls 3 [(0, .ref x)] := hl
  refine lv_aload_n hx hb dX11_undo_0 rfl (lv_at hl 0 rfl) ?_
  refine va_get (D := (dC, dI)) (ci := 11) (v := .ref bk) (C := RX11) (T := TX11) (N := 13) hx hb htw inlX11 hown hK hP 0 rfl rfl 1 (by decide) (htw _ (ck_1 _ (List.mem_of_getElem? (i := 21) rfl))) (fun _ h9 => h9) rfl dX11_undo_1 ?_
  refine va_get (D := (dC, dI)) (ci := 0) (v := .ref bno) (C := RX0) (T := TX0) (N := 12) hx hb htw inlX0 hown hK hP 3 rfl rfl 11 (by decide) (htw _ (ck_52 _ (List.mem_of_getElem? (i := 7) rfl))) (fun _ h9 => h9) rfl dX11_undo_4 ?_
  refine lv_astore_n (lv' := [(1, .ref bno), (0, .ref x)]) hx hb dX11_undo_7 rfl hl (by decide) rfl (fun ls hl => ?_)
  refine lv_aload_n hx hb dX11_undo_8 rfl (lv_at hl 1 rfl) ?_
  refine va_get (D := (dC, dI)) (ci := 11) (v := .int xsc) (C := RX11) (T := TX11) (N := 13) hx hb htw inlX11 hown hK hP 0 rfl rfl 6 (by decide) (htw _ (ck_12 _ (List.mem_of_getElem? (i := 22) rfl))) (fun _ h9 => h9) rfl dX11_undo_9 ?_
  refine lv_iconst (v := 1) hx hb dX11_undo_12 (by decide) ?_
  refine lv_icmp_lt (tgt := 24) hx hb dX11_undo_13 (by decide) (fun c_1 => ?_) (fun c_1 => ?_)
  · refine lv_iconst (v := (-1)) hx hb dX11_undo_24 (by decide) ?_
    refine W.widen (k := 0) (n := 0) (by omega) (by omega) ?_
    have hP9 := hP
    have hD9 := hD
    have hK9 := hK.sub (tys' := []) [] rfl
    exact W.iret (v := (-1)) hx hb hr (fun t ht hW => ⟨⟨(-1), (xsc, ns, fNs, dfr), rfl, ((fun e9 => ⟨by rw [e9], by rw [e9]⟩ : fx_undo xsc fSt dfr ns fNs = ((-1 : Int32), xsc, ns, fNs, dfr) → _) ((by rw [fx_undo]; (try rw [if_pos c_1]); try rfl))), by rw [ht]; exact hP9, va_K.moved hW.alike hK9, hD9⟩, hS.F ht⟩) hS.2.2 dX11_undo_25
  · refine lv_aload_n hx hb dX11_undo_16 rfl (lv_at hl 0 rfl) ?_
    refine va_get (D := (dC, dI)) (ci := 6) (v := .int ns) (C := RX6) (T := TX6) (N := 4) hx hb htw inlX6 hown hK hP 4 rfl rfl 0 (by decide) (htw _ (ck_52 _ (List.mem_of_getElem? (i := 8) rfl))) (fun _ h9 => h9) rfl dX11_undo_17 ?_
    refine lv_iconst (v := 1) hx hb dX11_undo_20 (by decide) ?_
    refine lv_icmp_ge (tgt := 26) hx hb dX11_undo_21 (by decide) (fun c_2 => ?_) (fun c_2 => ?_)
    · refine lv_aload_n hx hb dX11_undo_26 rfl (lv_at hl 1 rfl) ?_
      refine lv_dup hx hb dX11_undo_27 rfl ?_
      refine va_get (D := (dC, dI)) (ci := 11) (v := .int xsc) (C := RX11) (T := TX11) (N := 13) hx hb htw inlX11 hown hK hP 0 rfl rfl 6 (by decide) (htw _ (ck_12 _ (List.mem_of_getElem? (i := 22) rfl))) (fun _ h9 => h9) rfl dX11_undo_28 ?_
      refine lv_iconst (v := 1) hx hb dX11_undo_31 (by decide) ?_
      refine lv_isub hx hb dX11_undo_32 ?_
      refine va_put (D := (dC, dI)) (ci := 11) (v := .int (xsc - 1)) (ty := tyX11 6) (C := RX11) (T := TX11) (N := 13) hx hb htw inlX11 tyX11 tyX11_ok nmX11 hown hK hP hD hS 0 rfl rfl 6 (by decide) (htw _ (ck_12 _ (List.mem_of_getElem? (i := 22) rfl))) (fun _ h9 => h9) rfl (tyX11_ok 6 (by decide)) rfl rfl (Nat.le_of_ble_eq_true rfl) dX11_undo_33 (fun H locs hP hD hS => ?_)
      obtain ⟨hP, hD⟩ := zre [(eO11a x pa bk xsp xdy le xst (xsc - 1) xim xil xik xmo xom wi), (eA0 xst cSt 108 fSt), (eO5a xdy drw dfr dsh dto dmo dwi), (eO0a bk bto bnm bla bsk bru bbo bdi bda bdk bdt bdp bno), (eO6a bno ns nsa nfa nza), (eA0 nsa cNs 12 fNs)] hP hD rfl
      refine lv_aload_n hx hb dX11_undo_36 rfl (lv_at hl 0 rfl) ?_
      refine va_get (D := (dC, dI)) (ci := 6) (v := .int ns) (C := RX6) (T := TX6) (N := 4) hx hb htw inlX6 hown hK hP 4 rfl rfl 0 (by decide) (htw _ (ck_52 _ (List.mem_of_getElem? (i := 8) rfl))) (fun _ h9 => h9) rfl dX11_undo_37 ?_
      refine lv_iconst (v := 1) hx hb dX11_undo_40 (by decide) ?_
      refine lv_isub hx hb dX11_undo_41 ?_
      refine lv_istore_n (lv' := [(2, .int (ns - 1)), (1, .ref bno), (0, .ref x)]) hx hb dX11_undo_42 rfl hl (by decide) rfl (fun ls hl => ?_)
      refine lv_aload_n hx hb dX11_undo_43 rfl (lv_at hl 2 rfl) ?_
      refine va_get (D := (dC, dI)) (ci := 11) (v := .ref xst) (C := RX11) (T := TX11) (N := 13) hx hb htw inlX11 hown hK hP 0 rfl rfl 5 (by decide) (htw _ (ck_2 _ (List.mem_of_getElem? (i := 8) rfl))) (fun _ h9 => h9) rfl dX11_undo_44 ?_
      refine lv_aload_n hx hb dX11_undo_47 rfl (lv_at hl 2 rfl) ?_
      refine va_get (D := (dC, dI)) (ci := 11) (v := .int (xsc - 1)) (C := RX11) (T := TX11) (N := 13) hx hb htw inlX11 hown hK hP 0 rfl rfl 6 (by decide) (htw _ (ck_12 _ (List.mem_of_getElem? (i := 22) rfl))) (fun _ h9 => h9) rfl dX11_undo_48 ?_
      refine va_iald hx hb hK hP 1 0 rfl rfl (xg_inr (N := 108) rfl (gx_undo_s0 (y0 := xsc) c_1 h0_sc h8_sc).1 (gx_undo_s0 (y0 := xsc) c_1 h0_sc h8_sc).2) dX11_undo_51 ?_
      refine lv_bipush (v := 8) hx hb dX11_undo_52 (by decide) ?_
      obtain ⟨X_3, hX_3⟩ : ∃ X9 : (Int32) × (Nat → Int32), X9 = fx_undo_j xsc fSt ns fNs := ⟨_, rfl⟩
      have hjoin_4 : ∀ (ns_j : Int32) (fNs_j : Nat → Int32)  (hE9 : X_3 = (ns_j, fNs_j)) (H : Heap) (locs : List Loc) (ls : Array Slot) (hP : va_P (dC, dI) vwCl [(eO11a x pa bk xsp xdy le xst (xsc - 1) xim xil xik xmo xom wi), (eA0 xst cSt 108 fSt), (eO5a xdy drw dfr dsh dto dmo dwi), (eO0a bk bto bnm bla bsk bru bbo bdi bda bdk bdt bdp bno), (eO6a bno ns_j nsa nfa nza), (eA0 nsa cNs 12 fNs_j)] H) (hD : va_D A [(eO11a x pa bk xsp xdy le xst (xsc - 1) xim xil xik xmo xom wi), (eA0 xst cSt 108 fSt), (eO5a xdy drw dfr dsh dto dmo dwi), (eO0a bk bto bnm bla bsk bru bbo bdi bda bdk bdt bdp bno), (eO6a bno ns_j nsa nfa nza), (eA0 nsa cNs 12 fNs_j)]) (hS : va_S A s.heap H locs) (hl : lv_has ls 3 [(2, .int (ns - 1)), (1, .ref bno), (0, .ref x)]), W p l e (headSpec (Cond.code yX11_undo cX11_undo 3 (some .int) :: wsL_law) ({ frames := 2, cells := 0, slots := 0, locals := 44 })).room s m ([.ref x] : List Value).toArray below meth c H locs 0 0 (MQ below (va_Qi (fun (r : Int32) (u : (Int32) × (Int32) × (Nat → Int32) × (Int32)) => r = (fx_undo xsc fSt dfr ns fNs).1 ∧ u = (fx_undo xsc fSt dfr ns fNs).2) (fun (u : (Int32) × (Int32) × (Nat → Int32) × (Int32)) t => va_P (dC, dI) vwCl [(eO11a x pa bk xsp xdy le xst u.1 xim xil xik xmo xom wi), (eA0 xst cSt 108 fSt), (eO5a xdy drw u.2.2.2 dsh dto dmo dwi), (eO0a bk bto bnm bla bsk bru bbo bdi bda bdk bdt bdp bno), (eO6a bno u.2.1 nsa nfa nza), (eA0 nsa cNs 12 u.2.2.1)] t.heap ∧ va_K (dC, dI) vwCl [] t ∧ va_D A [(eO11a x pa bk xsp xdy le xst u.1 xim xil xik xmo xom wi), (eA0 xst cSt 108 fSt), (eO5a xdy drw u.2.2.2 dsh dto dmo dwi), (eO0a bk bto bnm bla bsk bru bbo bdi bda bdk bdt bdp bno), (eO6a bno u.2.1 nsa nfa nza), (eA0 nsa cNs 12 u.2.2.1)]) A) ([.ref x] : List Value).toArray s 0 0 A) (F0 m 79 ls []) := by
        intro ns_j fNs_j  hE9 H locs ls hP hD hS hl
        have hq_ns_j : ns_j = X_3.1 := by rw [hE9]
        have hq_fNs_j : fNs_j = X_3.2 := by rw [hE9]
        refine lv_aload_n hx hb dX11_undo_79 rfl (lv_at hl 2 rfl) ?_
        refine va_get (D := (dC, dI)) (ci := 11) (v := .ref xdy) (C := RX11) (T := TX11) (N := 13) hx hb htw inlX11 hown hK hP 0 rfl rfl 3 (by decide) (htw _ (ck_2 _ (List.mem_of_getElem? (i := 2) rfl))) (fun _ h9 => h9) rfl dX11_undo_80 ?_
        refine lv_iload_n hx hb dX11_undo_83 rfl (lv_at hl 0 rfl) ?_
        obtain ⟨hPc, hDc, hFc, hCc⟩ := zsub3 (ws' := [(eO5a xdy drw dfr dsh dto dmo dwi)]) hP hD hS hA [2] (by decide) rfl
        have hKc := hK.sub (tys' := []) [] rfl
        refine va_callv (va_runV (As := [.int (ns - 1)]) (rest := []) ⟨hx, hb, hml, hown, htw⟩ (gd_stale l dC dI xdy drw dfr dsh dto dmo dwi (ns - 1) H.size) (cwV 1 htw (xg_V (ck_24 _ (List.mem_of_getElem? (i := 0) rfl)) (ck_24 _ (List.mem_of_getElem? (i := 1) rfl)) (ck_24 _ (List.mem_of_getElem? (i := 2) rfl)) (ck_2 _ (List.mem_of_getElem? (i := 1) rfl)) (ck_24 _ (List.mem_of_getElem? (i := 3) rfl))) rfl rfl rfl (by exact ⟨rfl, hdc_10.1, hdc_10.2, hdd_9⟩) ⟨Nat.le_of_ble_eq_true rfl, Nat.le_of_ble_eq_true rfl⟩) ⟨fun a U g mk q => by obtain ⟨q0, q1, qP, qK, qD⟩ := q; exact ⟨q0, q1, qP, va_K.moved (u := U) (U := U.calling g mk a) (Vm.Alike.refl U.vm) qK, qD⟩, va_recv hKc hPc (ci := 5) (q0 := 0) rfl rfl, fun U hU hW => ⟨rfl, by rw [hU], by rw [hU]; exact hPc, va_K.moved hW.alike hKc, hDc.weaken (fun _ _ _ _ => trivial)⟩⟩ rfl rfl hl.1 rfl (lv_room (Nat.le_of_ble_eq_true rfl)) dX11_undo_84 ⟨Nat.le_of_ble_eq_true rfl, Nat.le_of_ble_eq_true rfl⟩) hS (fun q _ h => hFc q h) hFc (fun u_6 t H1 locs ht hvm hw hB hz1 hk1 hS => ?_)
        try dsimp only at hw
        obtain ⟨hP1, hK1, hD1⟩ := hB
        rw [ht] at hP1
        have hK1 := va_K.moved hvm.symm hK1
        have hK1 : va_K (dC, dI) vwCl [] s := hK1
        obtain ⟨hP, hD⟩ := va_join (wr := [(eO11a x pa bk xsp xdy le xst (xsc - 1) xim xil xik xmo xom wi), (eA0 xst cSt 108 fSt), (eO0a bk bto bnm bla bsk bru bbo bdi bda bdk bdt bdp bno), (eO6a bno ns_j nsa nfa nza), (eA0 nsa cNs 12 fNs_j)]) (w1 := [(eO5a xdy drw u_6 dsh dto dmo dwi)]) hP hD [2] [0, 1, 3, 4, 5] hCc rfl (by decide) (by decide) hk1 hFc hP1 hD1
        generalize H1 = H at hP hS ⊢
        obtain ⟨hP, hD⟩ := zre [(eO11a x pa bk xsp xdy le xst (xsc - 1) xim xil xik xmo xom wi), (eA0 xst cSt 108 fSt), (eO0a bk bto bnm bla bsk bru bbo bdi bda bdk bdt bdp bno), (eO6a bno ns_j nsa nfa nza), (eA0 nsa cNs 12 fNs_j), (eO5a xdy drw u_6 dsh dto dmo dwi)] hP hD rfl
        refine W.widen (k := 0) (n := 0) (by omega) (by omega) ?_
        have hq_u_6 : u_6 = (fd_stale dfr (ns - 1)) := hw
        refine lv_aload_n hx hb dX11_undo_87 rfl (lv_at hl 2 rfl) ?_
        refine va_get (D := (dC, dI)) (ci := 11) (v := .int (xsc - 1)) (C := RX11) (T := TX11) (N := 13) hx hb htw inlX11 hown hK hP 0 rfl rfl 6 (by decide) (htw _ (ck_12 _ (List.mem_of_getElem? (i := 22) rfl))) (fun _ h9 => h9) rfl dX11_undo_88 ?_
        refine W.widen (k := 0) (n := 0) (by omega) (by omega) ?_
        obtain ⟨hP9, hD9⟩ := zsub2 (ws' := [(eO11a x pa bk xsp xdy le xst (xsc - 1) xim xil xik xmo xom wi), (eA0 xst cSt 108 fSt), (eO5a xdy drw u_6 dsh dto dmo dwi), (eO0a bk bto bnm bla bsk bru bbo bdi bda bdk bdt bdp bno), (eO6a bno ns_j nsa nfa nza), (eA0 nsa cNs 12 fNs_j)]) hP hD [0, 1, 5, 2, 3, 4] (by decide) rfl
        have hK9 := hK.sub (tys' := []) [] rfl
        exact W.iret (v := (xsc - 1)) hx hb hr (fun t ht hW => ⟨⟨(xsc - 1), ((xsc - 1), ns_j, fNs_j, u_6), rfl, ((fun e9 => ⟨by rw [e9], by rw [e9]⟩ : fx_undo xsc fSt dfr ns fNs = ((xsc - 1), (xsc - 1), ns_j, fNs_j, u_6) → _) ((by rw [fx_undo]; (try rw [if_neg c_1]); (try rw [if_pos c_2]); (try rw [← hX_3]); (try rw [xL_eq]); (try rw [← hq_ns_j]); (try rw [← hq_fNs_j]); (try rw [← hq_u_6]); (try rw [xL_eq]); try rfl))), by rw [ht]; exact hP9, va_K.moved hW.alike hK9, hD9⟩, hS.F ht⟩) hS.2.2 dX11_undo_91
      refine lv_icmp_ne (tgt := 65) hx hb dX11_undo_54 (by decide) (fun c_8 => ?_) (fun c_8 => ?_)
      · refine lv_aload_n hx hb dX11_undo_65 rfl (lv_at hl 1 rfl) ?_
        refine lv_iload_n hx hb dX11_undo_66 rfl (lv_at hl 0 rfl) ?_
        refine lv_aload_n hx hb dX11_undo_67 rfl (lv_at hl 2 rfl) ?_
        refine va_get (D := (dC, dI)) (ci := 11) (v := .ref xst) (C := RX11) (T := TX11) (N := 13) hx hb htw inlX11 hown hK hP 0 rfl rfl 5 (by decide) (htw _ (ck_2 _ (List.mem_of_getElem? (i := 8) rfl))) (fun _ h9 => h9) rfl dX11_undo_68 ?_
        refine lv_aload_n hx hb dX11_undo_71 rfl (lv_at hl 2 rfl) ?_
        refine va_get (D := (dC, dI)) (ci := 11) (v := .int (xsc - 1)) (C := RX11) (T := TX11) (N := 13) hx hb htw inlX11 hown hK hP 0 rfl rfl 6 (by decide) (htw _ (ck_12 _ (List.mem_of_getElem? (i := 22) rfl))) (fun _ h9 => h9) rfl dX11_undo_72 ?_
        refine va_iald hx hb hK hP 1 0 rfl rfl (xg_inr (N := 108) rfl (gx_undo_s1 (y0 := xsc) c_1 h0_sc h8_sc).1 (gx_undo_s1 (y0 := xsc) c_1 h0_sc h8_sc).2) dX11_undo_75 ?_
        obtain ⟨hPc, hDc, hFc, hCc⟩ := zsub3 (ws' := [(eO6a bno ns nsa nfa nza), (eA0 nsa cNs 12 fNs)]) hP hD hS hA [4, 5] (by decide) rfl
        have hKc := hK.sub (tys' := [(cNs, .int)]) [1] rfl
        refine va_callv (va_runV (As := [.int (ns - 1), .int (fSt ((xsc - 1).toNatClampNeg))]) (rest := []) ⟨hx, hb, hml, hown, htw⟩ (gn_drop l dC dI bno ns nsa nfa nza cNs fNs (ns - 1) (fSt ((xsc - 1).toNatClampNeg)) H.size) (cwV 2 htw (xg_V (ck_53 _ (List.mem_of_getElem? (i := 14) rfl)) (ck_53 _ (List.mem_of_getElem? (i := 15) rfl)) (ck_53 _ (List.mem_of_getElem? (i := 16) rfl)) (ck_2 _ (List.mem_of_getElem? (i := 11) rfl)) (ck_53 _ (List.mem_of_getElem? (i := 17) rfl))) rfl rfl rfl (by exact ⟨rfl, hdc_3.1, hdc_3.2, hdd_21⟩) ⟨Nat.le_of_ble_eq_true rfl, Nat.le_of_ble_eq_true rfl⟩) ⟨fun a U g mk q => by obtain ⟨q0, q1, qP, qK, qD⟩ := q; exact ⟨q0, q1, qP, va_K.moved (u := U) (U := U.calling g mk a) (Vm.Alike.refl U.vm) qK, qD⟩, va_recv hKc hPc (ci := 6) (q0 := 0) rfl rfl, fun U hU hW => ⟨rfl, by rw [hU], by rw [hU]; exact hPc, va_K.moved hW.alike hKc, hDc.weaken (fun _ _ _ _ => trivial)⟩⟩ rfl rfl hl.1 rfl (lv_room (Nat.le_of_ble_eq_true rfl)) dX11_undo_76 ⟨Nat.le_of_ble_eq_true rfl, Nat.le_of_ble_eq_true rfl⟩) hS (fun q _ h => hFc q h) hFc (fun u_10 t H1 locs ht hvm hw hB hz1 hk1 hS => ?_)
        try dsimp only at hw
        obtain ⟨hP1, hK1, hD1⟩ := hB
        rw [ht] at hP1
        have hK1 := va_K.moved hvm.symm hK1
        have hK1 : va_K (dC, dI) vwCl [] s := hK1
        obtain ⟨hP, hD⟩ := va_join (wr := [(eO11a x pa bk xsp xdy le xst (xsc - 1) xim xil xik xmo xom wi), (eA0 xst cSt 108 fSt), (eO5a xdy drw dfr dsh dto dmo dwi), (eO0a bk bto bnm bla bsk bru bbo bdi bda bdk bdt bdp bno)]) (w1 := [(eO6a bno ns nsa nfa nza), (eA0 nsa cNs 12 u_10)]) hP hD [4, 5] [0, 1, 2, 3] hCc rfl (by decide) (by decide) hk1 hFc hP1 hD1
        generalize H1 = H at hP hS ⊢
        obtain ⟨hP, hD⟩ := zre [(eO11a x pa bk xsp xdy le xst (xsc - 1) xim xil xik xmo xom wi), (eA0 xst cSt 108 fSt), (eO5a xdy drw dfr dsh dto dmo dwi), (eO0a bk bto bnm bla bsk bru bbo bdi bda bdk bdt bdp bno), (eO6a bno ns nsa nfa nza), (eA0 nsa cNs 12 u_10)] hP hD rfl
        refine W.widen (k := 0) (n := 0) (by omega) (by omega) ?_
        have hq_u_10 : u_10 = (fn_drop fNs (ns - 1) (fSt ((xsc - 1).toNatClampNeg))) := hw
        exact hjoin_4 ns u_10  (hX_3.trans (by rw [fx_undo_j]; (try rw [if_neg c_8]); (try rw [← hq_u_10]); (try rw [xL_eq]); try rfl)) _ _ ls hP hD hS (lv_sub hl [0, 1, 2] rfl)
      · refine lv_aload_n hx hb dX11_undo_57 rfl (lv_at hl 1 rfl) ?_
        refine lv_iload_n hx hb dX11_undo_58 rfl (lv_at hl 0 rfl) ?_
        refine va_put (D := (dC, dI)) (ci := 6) (v := .int (ns - 1)) (ty := tyX6 0) (C := RX6) (T := TX6) (N := 4) hx hb htw inlX6 tyX6 tyX6_ok nmX6 hown hK hP hD hS 4 rfl rfl 0 (by decide) (htw _ (ck_52 _ (List.mem_of_getElem? (i := 8) rfl))) (fun _ h9 => h9) rfl (tyX6_ok 0 (by decide)) rfl rfl (Nat.le_of_ble_eq_true rfl) dX11_undo_59 (fun H locs hP hD hS => ?_)
        obtain ⟨hP, hD⟩ := zre [(eO11a x pa bk xsp xdy le xst (xsc - 1) xim xil xik xmo xom wi), (eA0 xst cSt 108 fSt), (eO5a xdy drw dfr dsh dto dmo dwi), (eO0a bk bto bnm bla bsk bru bbo bdi bda bdk bdt bdp bno), (eO6a bno (ns - 1) nsa nfa nza), (eA0 nsa cNs 12 fNs)] hP hD rfl
        refine lv_goto (tgt := 79) hx hb dX11_undo_62 (by decide) ?_
        exact hjoin_4 (ns - 1) fNs  (hX_3.trans (by rw [fx_undo_j]; (try rw [if_pos c_8]); try rfl)) _ _ ls hP hD hS (lv_sub hl [0, 1, 2] rfl)
    · refine lv_iconst (v := (-1)) hx hb dX11_undo_24 (by decide) ?_
      refine W.widen (k := 0) (n := 0) (by omega) (by omega) ?_
      obtain ⟨hP9, hD9⟩ := zsub2 (ws' := [(eO11a x pa bk xsp xdy le xst xsc xim xil xik xmo xom wi), (eA0 xst cSt 108 fSt), (eO5a xdy drw dfr dsh dto dmo dwi), (eO0a bk bto bnm bla bsk bru bbo bdi bda bdk bdt bdp bno), (eO6a bno ns nsa nfa nza), (eA0 nsa cNs 12 fNs)]) hP hD [0, 1, 2, 3, 4, 5] (by decide) rfl
      have hK9 := hK.sub (tys' := []) [] rfl
      exact W.iret (v := (-1)) hx hb hr (fun t ht hW => ⟨⟨(-1), (xsc, ns, fNs, dfr), rfl, ((fun e9 => ⟨by rw [e9], by rw [e9]⟩ : fx_undo xsc fSt dfr ns fNs = ((-1 : Int32), xsc, ns, fNs, dfr) → _) ((by rw [fx_undo]; (try rw [if_neg c_1]); (try rw [if_neg c_2]); try rfl))), by rw [ht]; exact hP9, va_K.moved hW.alike hK9, hD9⟩, hS.F ht⟩) hS.2.2 dX11_undo_25

def fx_told (lz : Int32) (fLn : Nat → Int32) (fLc : Nat → Int32) (ns : Int32) (a0 : Int32) (a1 : Int32) : Int32 × (Int32) × (Nat → Int32) × (Nat → Int32) := (if a0 < 0 then ((-1 : Int32), lz, fLn, fLc) else (if ns ≤ a0 then ((-1 : Int32), lz, fLn, fLc) else (if a1 < 0 then ((-1 : Int32), lz, fLn, fLc) else (if 20000 ≤ a1 then ((-1 : Int32), lz, fLn, fLc) else (if lz < 20 then (xL ((fd_add lz fLn fLc a0 a1)) (fun u_7 => (u_7.1, u_7.1, u_7.2.1, u_7.2.2))) else ((-1 : Int32), lz, fLn, fLc))))))
theorem dX11_told_0 : decode cX11_told 0 = .ok (.iload_n 1, 1) := zk_27 (by decide +kernel)
theorem dX11_told_1 : decode cX11_told 1 = .ok (.ifCond .lt 40, 3) := zk_155 (by decide +kernel)
theorem dX11_told_41 : decode cX11_told 41 = .ok (.iconst (-1), 1) := zk_2 (by decide +kernel)
theorem dX11_told_42 : decode cX11_told 42 = .ok (.ireturn, 1) := zk_172 (by decide +kernel)
theorem dX11_told_4 : decode cX11_told 4 = .ok (.iload_n 1, 1) := zk_27 (by decide +kernel)
theorem dX11_told_5 : decode cX11_told 5 = .ok (.aload_n 0, 1) := zk_42 (by decide +kernel)
theorem dX11_told_6 : decode cX11_told 6 = .ok (.getfield 19, 3) := zk_180 (by decide +kernel)
theorem dX11_told_9 : decode cX11_told 9 = .ok (.getfield 290, 3) := zk_180 (by decide +kernel)
theorem dX11_told_12 : decode cX11_told 12 = .ok (.getfield 293, 3) := zk_180 (by decide +kernel)
theorem dX11_told_15 : decode cX11_told 15 = .ok (.if_icmp .ge 26, 3) := zk_162 (by decide +kernel)
theorem dX11_told_18 : decode cX11_told 18 = .ok (.iload_n 2, 1) := zk_28 (by decide +kernel)
theorem dX11_told_19 : decode cX11_told 19 = .ok (.ifCond .lt 22, 3) := zk_155 (by decide +kernel)
theorem dX11_told_22 : decode cX11_told 22 = .ok (.iload_n 2, 1) := zk_28 (by decide +kernel)
theorem dX11_told_23 : decode cX11_told 23 = .ok (.sipush 20000, 3) := zk_17 (by decide +kernel)
theorem dX11_told_26 : decode cX11_told 26 = .ok (.if_icmp .ge 15, 3) := zk_162 (by decide +kernel)
theorem dX11_told_29 : decode cX11_told 29 = .ok (.aload_n 0, 1) := zk_42 (by decide +kernel)
theorem dX11_told_30 : decode cX11_told 30 = .ok (.getfield 36, 3) := zk_180 (by decide +kernel)
theorem dX11_told_33 : decode cX11_told 33 = .ok (.getfield 95, 3) := zk_180 (by decide +kernel)
theorem dX11_told_36 : decode cX11_told 36 = .ok (.bipush 20, 2) := zk_16 (by decide +kernel)
theorem dX11_told_38 : decode cX11_told 38 = .ok (.if_icmp .lt 5, 3) := zk_161 (by decide +kernel)
theorem dX11_told_43 : decode cX11_told 43 = .ok (.aload_n 0, 1) := zk_42 (by decide +kernel)
theorem dX11_told_44 : decode cX11_told 44 = .ok (.getfield 36, 3) := zk_180 (by decide +kernel)
theorem dX11_told_47 : decode cX11_told 47 = .ok (.iload_n 1, 1) := zk_27 (by decide +kernel)
theorem dX11_told_48 : decode cX11_told 48 = .ok (.iload_n 2, 1) := zk_28 (by decide +kernel)
theorem dX11_told_49 : decode cX11_told 49 = .ok (.invokevirtual 333, 3) := zk_182 (by decide +kernel)
theorem dX11_told_52 : decode cX11_told 52 = .ok (.aload_n 0, 1) := zk_42 (by decide +kernel)
theorem dX11_told_53 : decode cX11_told 53 = .ok (.getfield 36, 3) := zk_180 (by decide +kernel)
theorem dX11_told_56 : decode cX11_told 56 = .ok (.getfield 95, 3) := zk_180 (by decide +kernel)
theorem dX11_told_59 : decode cX11_told 59 = .ok (.ireturn, 1) := zk_172 (by decide +kernel)
set_option maxHeartbeats 4000000 in
set_option maxRecDepth 100000 in
theorem gx_told (l : Launch) (dC : Nat → ClassId) (dI : Nat → Nat → Nat) (x : Nat) (pa : Nat) (bk : Nat) (xsp : Nat) (xdy : Nat) (le : Nat) (xst : Nat) (xsc : Int32) (xim : Nat) (xil : Nat) (xik : Int32) (xmo : Nat) (xom : Nat) (wi : Nat) (lz : Int32) (lna : Nat) (lca : Nat) (cLn : ClassId) (fLn : Nat → Int32) (cLc : ClassId) (fLc : Nat → Int32) (bto : Nat) (bnm : Nat) (bla : Nat) (bsk : Nat) (bru : Nat) (bbo : Nat) (bdi : Nat) (bda : Nat) (bdk : Nat) (bdt : Nat) (bdp : Nat) (bno : Nat) (ns : Int32) (nsa : Nat) (nfa : Nat) (nza : Nat) (a0 : Int32) (a1 : Int32) (sz : Nat) (h0_lz : ¬ lz < 0) : Met l yX11_told (Cond.code yX11_told cX11_told 3 (some .int) :: wsL_law) ({ frames := 1, cells := 0, slots := 0, locals := 22 }) (va_Pc [.ref x, .int a0, .int a1] (fun U => U.heap.size = sz ∧ va_P (dC, dI) vwCl [(eO11a x pa bk xsp xdy le xst xsc xim xil xik xmo xom wi), (eO2a le lz lna lca), (eA0 lna cLn 20 fLn), (eA0 lca cLc 20 fLc), (eO0a bk bto bnm bla bsk bru bbo bdi bda bdk bdt bdp bno), (eO6a bno ns nsa nfa nza)] U.heap ∧ va_K (dC, dI) vwCl [(cLn, .int), (cLc, .int)] U ∧ va_D (fun _ => True) [(eO11a x pa bk xsp xdy le xst xsc xim xil xik xmo xom wi), (eO2a le lz lna lca), (eA0 lna cLn 20 fLn), (eA0 lca cLc 20 fLc), (eO0a bk bto bnm bla bsk bru bbo bdi bda bdk bdt bdp bno), (eO6a bno ns nsa nfa nza)])) (va_Qi (fun (r : Int32) (u : (Int32) × (Nat → Int32) × (Nat → Int32)) => r = (fx_told lz fLn fLc ns a0 a1).1 ∧ u = (fx_told lz fLn fLc ns a0 a1).2) (fun (u : (Int32) × (Nat → Int32) × (Nat → Int32)) t => va_P (dC, dI) vwCl [(eO11a x pa bk xsp xdy le xst xsc xim xil xik xmo xom wi), (eO2a le u.1 lna lca), (eA0 lna cLn 20 u.2.1), (eA0 lca cLc 20 u.2.2), (eO0a bk bto bnm bla bsk bru bbo bdi bda bdk bdt bdp bno), (eO6a bno ns nsa nfa nza)] t.heap ∧ va_K (dC, dI) vwCl [] t ∧ va_D (va_A [(eO11a x pa bk xsp xdy le xst xsc xim xil xik xmo xom wi), (eO2a le lz lna lca), (eA0 lna cLn 20 fLn), (eA0 lca cLc 20 fLc), (eO0a bk bto bnm bla bsk bru bbo bdi bda bdk bdt bdp bno), (eO6a bno ns nsa nfa nza)] sz) [(eO11a x pa bk xsp xdy le xst xsc xim xil xik xmo xom wi), (eO2a le u.1 lna lca), (eA0 lna cLn 20 u.2.1), (eA0 lca cLc 20 u.2.2), (eO0a bk bto bnm bla bsk bru bbo bdi bda bdk bdt bdp bno), (eO6a bno ns nsa nfa nza)]) (va_A [(eO11a x pa bk xsp xdy le xst xsc xim xil xik xmo xom wi), (eO2a le lz lna lca), (eA0 lna cLn 20 fLn), (eA0 lca cLc 20 fLc), (eO0a bk bto bnm bla bsk bru bbo bdi bda bdk bdt bdp bno), (eO6a bno ns nsa nfa nza)] sz)) 0 0 (va_A [(eO11a x pa bk xsp xdy le xst xsc xim xil xik xmo xom wi), (eO2a le lz lna lca), (eA0 lna cLn 20 fLn), (eA0 lca cLc 20 fLc), (eO0a bk bto bnm bla bsk bru bbo bdi bda bdk bdt bdp bno), (eO6a bno ns nsa nfa nza)] sz) := by
  refine Met.ofW (cc := cX11_told) (maxL := 3) (ret := (some .int)) (by decide) rfl ?_
  intro p e s m args below meth c s₁ B hml hv
  obtain ⟨rfl, hsz, hP, hK, hD0⟩ := hv
  have hx := B.exec
  have hb := B.bytes
  have hr := B.returns
  have hts := atoms_spec (ws := Cond.code yX11_told cX11_told 3 (some .int) :: wsL_law) B.pre
  have htw : ∀ w ∈ wsL_law, w.before _ s = true := fun w h => hts w (List.mem_cons_of_mem _ h)
  have hown : s.vm.findClass RX11 = some m.cls := findClass_of_methodNamed B.named
  have hlocks := B.notSynchronized
  subst hsz
  have hD := hD0.self (sz := s.heap.size)
  generalize hAe : va_A [(eO11a x pa bk xsp xdy le xst xsc xim xil xik xmo xom wi), (eO2a le lz lna lca), (eA0 lna cLn 20 fLn), (eA0 lca cLc 20 fLc), (eO0a bk bto bnm bla bsk bru bbo bdi bda bdk bdt bdp bno), (eO6a bno ns nsa nfa nza)] s.heap.size = A at hD ⊢
  have hA : ∀ q : Nat, s.heap.size ≤ q → A q := fun q h => by rw [← hAe]; exact Or.inr h
  obtain ⟨H, rH⟩ : ∃ z : Heap, z = s.heap := ⟨_, rfl⟩
  have hS : va_S A s.heap H [] := by rw [rH]; exact va_S.rf
  have hP : va_P (dC, dI) vwCl [(eO11a x pa bk xsp xdy le xst xsc xim xil xik xmo xom wi), (eO2a le lz lna lca), (eA0 lna cLn 20 fLn), (eA0 lca cLc 20 fLc), (eO0a bk bto bnm bla bsk bru bbo bdi bda bdk bdt bdp bno), (eO6a bno ns nsa nfa nza)] H := by rw [rH]; exact hP
  rw [← rH]
  have hl := lv_entry ([.ref x, .int a0, .int a1]) (n := 3) (Nat.le_of_ble_eq_true rfl)
  rw [lg_entry_eq]
  generalize (lg_sl ([.ref x, .int a0, .int a1]) ++ List.replicate (3 - (lg_sl ([.ref x, .int a0, .int a1])).length) Slot.unset).toArray = ls at hl ⊢
  have hl : lv_has ls 3 [(0, .ref x), (1, .int a0), (2, .int a1)] := hl
  refine lv_iload_n hx hb dX11_told_0 rfl (lv_at hl 1 rfl) ?_
  refine lv_if_lt (tgt := 41) hx hb dX11_told_1 (by decide) (fun c_1 => ?_) (fun c_1 => ?_)
  · refine lv_iconst (v := (-1)) hx hb dX11_told_41 (by decide) ?_
    refine W.widen (k := 0) (n := 0) (by omega) (by omega) ?_
    have hP9 := hP
    have hD9 := hD
    have hK9 := hK.sub (tys' := []) [] rfl
    exact W.iret (v := (-1)) hx hb hr (fun t ht hW => ⟨⟨(-1), (lz, fLn, fLc), rfl, ((fun e9 => ⟨by rw [e9], by rw [e9]⟩ : fx_told lz fLn fLc ns a0 a1 = ((-1 : Int32), lz, fLn, fLc) → _) ((by rw [fx_told]; (try rw [if_pos c_1]); try rfl))), by rw [ht]; exact hP9, va_K.moved hW.alike hK9, hD9⟩, hS.F ht⟩) hS.2.2 dX11_told_42
  · refine lv_iload_n hx hb dX11_told_4 rfl (lv_at hl 1 rfl) ?_
    refine lv_aload_n hx hb dX11_told_5 rfl (lv_at hl 0 rfl) ?_
    refine va_get (D := (dC, dI)) (ci := 11) (v := .ref bk) (C := RX11) (T := TX11) (N := 13) hx hb htw inlX11 hown hK hP 0 rfl rfl 1 (by decide) (htw _ (ck_1 _ (List.mem_of_getElem? (i := 21) rfl))) (fun _ h9 => h9) rfl dX11_told_6 ?_
    refine va_get (D := (dC, dI)) (ci := 0) (v := .ref bno) (C := RX0) (T := TX0) (N := 12) hx hb htw inlX0 hown hK hP 4 rfl rfl 11 (by decide) (htw _ (ck_52 _ (List.mem_of_getElem? (i := 7) rfl))) (fun _ h9 => h9) rfl dX11_told_9 ?_
    refine va_get (D := (dC, dI)) (ci := 6) (v := .int ns) (C := RX6) (T := TX6) (N := 4) hx hb htw inlX6 hown hK hP 5 rfl rfl 0 (by decide) (htw _ (ck_52 _ (List.mem_of_getElem? (i := 8) rfl))) (fun _ h9 => h9) rfl dX11_told_12 ?_
    refine lv_icmp_ge (tgt := 41) hx hb dX11_told_15 (by decide) (fun c_2 => ?_) (fun c_2 => ?_)
    · refine lv_iconst (v := (-1)) hx hb dX11_told_41 (by decide) ?_
      refine W.widen (k := 0) (n := 0) (by omega) (by omega) ?_
      have hP9 := hP
      have hD9 := hD
      have hK9 := hK.sub (tys' := []) [] rfl
      exact W.iret (v := (-1)) hx hb hr (fun t ht hW => ⟨⟨(-1), (lz, fLn, fLc), rfl, ((fun e9 => ⟨by rw [e9], by rw [e9]⟩ : fx_told lz fLn fLc ns a0 a1 = ((-1 : Int32), lz, fLn, fLc) → _) ((by rw [fx_told]; (try rw [if_neg c_1]); (try rw [if_pos c_2]); try rfl))), by rw [ht]; exact hP9, va_K.moved hW.alike hK9, hD9⟩, hS.F ht⟩) hS.2.2 dX11_told_42
    · refine lv_iload_n hx hb dX11_told_18 rfl (lv_at hl 2 rfl) ?_
      refine lv_if_lt (tgt := 41) hx hb dX11_told_19 (by decide) (fun c_3 => ?_) (fun c_3 => ?_)
      · refine lv_iconst (v := (-1)) hx hb dX11_told_41 (by decide) ?_
        refine W.widen (k := 0) (n := 0) (by omega) (by omega) ?_
        have hP9 := hP
        have hD9 := hD
        have hK9 := hK.sub (tys' := []) [] rfl
        exact W.iret (v := (-1)) hx hb hr (fun t ht hW => ⟨⟨(-1), (lz, fLn, fLc), rfl, ((fun e9 => ⟨by rw [e9], by rw [e9]⟩ : fx_told lz fLn fLc ns a0 a1 = ((-1 : Int32), lz, fLn, fLc) → _) ((by rw [fx_told]; (try rw [if_neg c_1]); (try rw [if_neg c_2]); (try rw [if_pos c_3]); try rfl))), by rw [ht]; exact hP9, va_K.moved hW.alike hK9, hD9⟩, hS.F ht⟩) hS.2.2 dX11_told_42
      · refine lv_iload_n hx hb dX11_told_22 rfl (lv_at hl 2 rfl) ?_
        refine lv_sipush (v := 20000) hx hb dX11_told_23 (by decide) ?_
        refine lv_icmp_ge (tgt := 41) hx hb dX11_told_26 (by decide) (fun c_4 => ?_) (fun c_4 => ?_)
        · refine lv_iconst (v := (-1)) hx hb dX11_told_41 (by decide) ?_
          refine W.widen (k := 0) (n := 0) (by omega) (by omega) ?_
          have hP9 := hP
          have hD9 := hD
          have hK9 := hK.sub (tys' := []) [] rfl
          exact W.iret (v := (-1)) hx hb hr (fun t ht hW => ⟨⟨(-1), (lz, fLn, fLc), rfl, ((fun e9 => ⟨by rw [e9], by rw [e9]⟩ : fx_told lz fLn fLc ns a0 a1 = ((-1 : Int32), lz, fLn, fLc) → _) ((by rw [fx_told]; (try rw [if_neg c_1]); (try rw [if_neg c_2]); (try rw [if_neg c_3]); (try rw [if_pos c_4]); try rfl))), by rw [ht]; exact hP9, va_K.moved hW.alike hK9, hD9⟩, hS.F ht⟩) hS.2.2 dX11_told_42
        · refine lv_aload_n hx hb dX11_told_29 rfl (lv_at hl 0 rfl) ?_
          refine va_get (D := (dC, dI)) (ci := 11) (v := .ref le) (C := RX11) (T := TX11) (N := 13) hx hb htw inlX11 hown hK hP 0 rfl rfl 4 (by decide) (htw _ (ck_2 _ (List.mem_of_getElem? (i := 6) rfl))) (fun _ h9 => h9) rfl dX11_told_30 ?_
          refine va_get (D := (dC, dI)) (ci := 2) (v := .int lz) (C := RX2) (T := TX2) (N := 3) hx hb htw inlX2 hown hK hP 1 rfl rfl 0 (by decide) (htw _ (ck_12 _ (List.mem_of_getElem? (i := 23) rfl))) (fun _ h9 => h9) rfl dX11_told_33 ?_
          refine lv_bipush (v := 20) hx hb dX11_told_36 (by decide) ?_
          refine lv_icmp_lt (tgt := 43) hx hb dX11_told_38 (by decide) (fun c_5 => ?_) (fun c_5 => ?_)
          · refine lv_aload_n hx hb dX11_told_43 rfl (lv_at hl 0 rfl) ?_
            refine va_get (D := (dC, dI)) (ci := 11) (v := .ref le) (C := RX11) (T := TX11) (N := 13) hx hb htw inlX11 hown hK hP 0 rfl rfl 4 (by decide) (htw _ (ck_2 _ (List.mem_of_getElem? (i := 6) rfl))) (fun _ h9 => h9) rfl dX11_told_44 ?_
            refine lv_iload_n hx hb dX11_told_47 rfl (lv_at hl 1 rfl) ?_
            refine lv_iload_n hx hb dX11_told_48 rfl (lv_at hl 2 rfl) ?_
            obtain ⟨hPc, hDc, hFc, hCc⟩ := zsub3 (ws' := [(eO2a le lz lna lca), (eA0 lna cLn 20 fLn), (eA0 lca cLc 20 fLc)]) hP hD hS hA [1, 2, 3] (by decide) rfl
            have hKc := hK.sub (tys' := [(cLn, .int), (cLc, .int)]) [0, 1] rfl
            refine va_callv (va_runV (As := [.int a0, .int a1]) (rest := []) ⟨hx, hb, hml, hown, htw⟩ (gd_add l dC dI le lz lna lca cLn fLn cLc fLc a0 a1 H.size h0_lz) (cwV 2 htw (xg_V (ck_62 _ (List.mem_of_getElem? (i := 20) rfl)) (ck_62 _ (List.mem_of_getElem? (i := 21) rfl)) (ck_62 _ (List.mem_of_getElem? (i := 22) rfl)) (ck_2 _ (List.mem_of_getElem? (i := 5) rfl)) (ck_62 _ (List.mem_of_getElem? (i := 23) rfl))) rfl rfl rfl (by exact ⟨rfl, hdc_11.1, hdc_11.2, hdd_21⟩) ⟨Nat.le_of_ble_eq_true rfl, Nat.le_of_ble_eq_true rfl⟩) ⟨fun a U g mk q => by obtain ⟨q0, q1, qP, qK, qD⟩ := q; exact ⟨q0, q1, qP, va_K.moved (u := U) (U := U.calling g mk a) (Vm.Alike.refl U.vm) qK, qD⟩, va_recv hKc hPc (ci := 2) (q0 := 0) rfl rfl, fun U hU hW => ⟨rfl, by rw [hU], by rw [hU]; exact hPc, va_K.moved hW.alike hKc, hDc.weaken (fun _ _ _ _ => trivial)⟩⟩ rfl rfl hl.1 rfl (lv_room (Nat.le_of_ble_eq_true rfl)) dX11_told_49 ⟨Nat.le_of_ble_eq_true rfl, Nat.le_of_ble_eq_true rfl⟩) hS (fun q _ h => hFc q h) hFc (fun u_7 t H1 locs ht hvm hw hB hz1 hk1 hS => ?_)
            try dsimp only at hw
            obtain ⟨hP1, hK1, hD1⟩ := hB
            rw [ht] at hP1
            have hK1 := va_K.moved hvm.symm hK1
            have hK1 : va_K (dC, dI) vwCl [] s := hK1
            obtain ⟨hP, hD⟩ := va_join (wr := [(eO11a x pa bk xsp xdy le xst xsc xim xil xik xmo xom wi), (eO0a bk bto bnm bla bsk bru bbo bdi bda bdk bdt bdp bno), (eO6a bno ns nsa nfa nza)]) (w1 := [(eO2a le u_7.1 lna lca), (eA0 lna cLn 20 u_7.2.1), (eA0 lca cLc 20 u_7.2.2)]) hP hD [1, 2, 3] [0, 4, 5] hCc rfl (by decide) (by decide) hk1 hFc hP1 hD1
            generalize H1 = H at hP hS ⊢
            obtain ⟨hP, hD⟩ := zre [(eO11a x pa bk xsp xdy le xst xsc xim xil xik xmo xom wi), (eO0a bk bto bnm bla bsk bru bbo bdi bda bdk bdt bdp bno), (eO6a bno ns nsa nfa nza), (eO2a le u_7.1 lna lca), (eA0 lna cLn 20 u_7.2.1), (eA0 lca cLc 20 u_7.2.2)] hP hD rfl
            refine W.widen (k := 0) (n := 0) (by omega) (by omega) ?_
            have hq_u_7 : u_7 = (fd_add lz fLn fLc a0 a1) := hw
            refine lv_aload_n hx hb dX11_told_52 rfl (lv_at hl 0 rfl) ?_
            refine va_get (D := (dC, dI)) (ci := 11) (v := .ref le) (C := RX11) (T := TX11) (N := 13) hx hb htw inlX11 hown hK hP 0 rfl rfl 4 (by decide) (htw _ (ck_2 _ (List.mem_of_getElem? (i := 6) rfl))) (fun _ h9 => h9) rfl dX11_told_53 ?_
            refine va_get (D := (dC, dI)) (ci := 2) (v := .int u_7.1) (C := RX2) (T := TX2) (N := 3) hx hb htw inlX2 hown hK hP 3 rfl rfl 0 (by decide) (htw _ (ck_12 _ (List.mem_of_getElem? (i := 23) rfl))) (fun _ h9 => h9) rfl dX11_told_56 ?_
            refine W.widen (k := 0) (n := 0) (by omega) (by omega) ?_
            obtain ⟨hP9, hD9⟩ := zsub2 (ws' := [(eO11a x pa bk xsp xdy le xst xsc xim xil xik xmo xom wi), (eO2a le u_7.1 lna lca), (eA0 lna cLn 20 u_7.2.1), (eA0 lca cLc 20 u_7.2.2), (eO0a bk bto bnm bla bsk bru bbo bdi bda bdk bdt bdp bno), (eO6a bno ns nsa nfa nza)]) hP hD [0, 3, 4, 5, 1, 2] (by decide) rfl
            have hK9 := hK.sub (tys' := []) [] rfl
            exact W.iret (v := u_7.1) hx hb hr (fun t ht hW => ⟨⟨u_7.1, (u_7.1, u_7.2.1, u_7.2.2), rfl, ((fun e9 => ⟨by rw [e9], by rw [e9]⟩ : fx_told lz fLn fLc ns a0 a1 = (u_7.1, u_7.1, u_7.2.1, u_7.2.2) → _) ((by rw [fx_told]; (try rw [if_neg c_1]); (try rw [if_neg c_2]); (try rw [if_neg c_3]); (try rw [if_neg c_4]); (try rw [if_pos c_5]); (try rw [← hq_u_7]); (try rw [xL_eq]); try rfl))), by rw [ht]; exact hP9, va_K.moved hW.alike hK9, hD9⟩, hS.F ht⟩) hS.2.2 dX11_told_59
          · refine lv_iconst (v := (-1)) hx hb dX11_told_41 (by decide) ?_
            refine W.widen (k := 0) (n := 0) (by omega) (by omega) ?_
            obtain ⟨hP9, hD9⟩ := zsub2 (ws' := [(eO11a x pa bk xsp xdy le xst xsc xim xil xik xmo xom wi), (eO2a le lz lna lca), (eA0 lna cLn 20 fLn), (eA0 lca cLc 20 fLc), (eO0a bk bto bnm bla bsk bru bbo bdi bda bdk bdt bdp bno), (eO6a bno ns nsa nfa nza)]) hP hD [0, 1, 2, 3, 4, 5] (by decide) rfl
            have hK9 := hK.sub (tys' := []) [] rfl
            exact W.iret (v := (-1)) hx hb hr (fun t ht hW => ⟨⟨(-1), (lz, fLn, fLc), rfl, ((fun e9 => ⟨by rw [e9], by rw [e9]⟩ : fx_told lz fLn fLc ns a0 a1 = ((-1 : Int32), lz, fLn, fLc) → _) ((by rw [fx_told]; (try rw [if_neg c_1]); (try rw [if_neg c_2]); (try rw [if_neg c_3]); (try rw [if_neg c_4]); (try rw [if_neg c_5]); try rfl))), by rw [ht]; exact hP9, va_K.moved hW.alike hK9, hD9⟩, hS.F ht⟩) hS.2.2 dX11_told_42

def fx_forget (lz : Int32) : Int32 × (Int32) := (lz, (0 : Int32))
theorem dX11_forget_0 : decode cX11_forget 0 = .ok (.aload_n 0, 1) := zk_42 (by decide +kernel)
theorem dX11_forget_1 : decode cX11_forget 1 = .ok (.getfield 36, 3) := zk_180 (by decide +kernel)
theorem dX11_forget_4 : decode cX11_forget 4 = .ok (.getfield 95, 3) := zk_180 (by decide +kernel)
theorem dX11_forget_7 : decode cX11_forget 7 = .ok (.istore_n 1, 1) := zk_60 (by decide +kernel)
theorem dX11_forget_8 : decode cX11_forget 8 = .ok (.aload_n 0, 1) := zk_42 (by decide +kernel)
theorem dX11_forget_9 : decode cX11_forget 9 = .ok (.getfield 36, 3) := zk_180 (by decide +kernel)
theorem dX11_forget_12 : decode cX11_forget 12 = .ok (.iconst 0, 1) := zk_3 (by decide +kernel)
theorem dX11_forget_13 : decode cX11_forget 13 = .ok (.putfield 95, 3) := zk_181 (by decide +kernel)
theorem dX11_forget_16 : decode cX11_forget 16 = .ok (.iload_n 1, 1) := zk_27 (by decide +kernel)
theorem dX11_forget_17 : decode cX11_forget 17 = .ok (.ireturn, 1) := zk_172 (by decide +kernel)
set_option maxHeartbeats 4000000 in
set_option maxRecDepth 100000 in
theorem gx_forget (l : Launch) (dC : Nat → ClassId) (dI : Nat → Nat → Nat) (x : Nat) (pa : Nat) (bk : Nat) (xsp : Nat) (xdy : Nat) (le : Nat) (xst : Nat) (xsc : Int32) (xim : Nat) (xil : Nat) (xik : Int32) (xmo : Nat) (xom : Nat) (wi : Nat) (lz : Int32) (lna : Nat) (lca : Nat) (sz : Nat) : Met l yX11_forget (Cond.code yX11_forget cX11_forget 2 (some .int) :: wsL_law) ({ frames := 0, cells := 0, slots := 0, locals := 0 }) (va_Pc [.ref x] (fun U => U.heap.size = sz ∧ va_P (dC, dI) vwCl [(eO11a x pa bk xsp xdy le xst xsc xim xil xik xmo xom wi), (eO2a le lz lna lca)] U.heap ∧ va_K (dC, dI) vwCl [] U ∧ va_D (fun _ => True) [(eO11a x pa bk xsp xdy le xst xsc xim xil xik xmo xom wi), (eO2a le lz lna lca)])) (va_Qi (fun (r : Int32) (u : (Int32)) => r = (fx_forget lz).1 ∧ u = (fx_forget lz).2) (fun (u : (Int32)) t => va_P (dC, dI) vwCl [(eO11a x pa bk xsp xdy le xst xsc xim xil xik xmo xom wi), (eO2a le u lna lca)] t.heap ∧ va_K (dC, dI) vwCl [] t ∧ va_D (va_A [(eO11a x pa bk xsp xdy le xst xsc xim xil xik xmo xom wi), (eO2a le lz lna lca)] sz) [(eO11a x pa bk xsp xdy le xst xsc xim xil xik xmo xom wi), (eO2a le u lna lca)]) (va_A [(eO11a x pa bk xsp xdy le xst xsc xim xil xik xmo xom wi), (eO2a le lz lna lca)] sz)) 0 0 (va_A [(eO11a x pa bk xsp xdy le xst xsc xim xil xik xmo xom wi), (eO2a le lz lna lca)] sz) := by
  refine Met.ofW (cc := cX11_forget) (maxL := 2) (ret := (some .int)) (by decide) rfl ?_
  intro p e s m args below meth c s₁ B hml hv
  obtain ⟨rfl, hsz, hP, hK, hD0⟩ := hv
  have hx := B.exec
  have hb := B.bytes
  have hr := B.returns
  have hts := atoms_spec (ws := Cond.code yX11_forget cX11_forget 2 (some .int) :: wsL_law) B.pre
  have htw : ∀ w ∈ wsL_law, w.before _ s = true := fun w h => hts w (List.mem_cons_of_mem _ h)
  have hown : s.vm.findClass RX11 = some m.cls := findClass_of_methodNamed B.named
  have hlocks := B.notSynchronized
  subst hsz
  have hD := hD0.self (sz := s.heap.size)
  generalize hAe : va_A [(eO11a x pa bk xsp xdy le xst xsc xim xil xik xmo xom wi), (eO2a le lz lna lca)] s.heap.size = A at hD ⊢
  have hA : ∀ q : Nat, s.heap.size ≤ q → A q := fun q h => by rw [← hAe]; exact Or.inr h
  obtain ⟨H, rH⟩ : ∃ z : Heap, z = s.heap := ⟨_, rfl⟩
  have hS : va_S A s.heap H [] := by rw [rH]; exact va_S.rf
  have hP : va_P (dC, dI) vwCl [(eO11a x pa bk xsp xdy le xst xsc xim xil xik xmo xom wi), (eO2a le lz lna lca)] H := by rw [rH]; exact hP
  rw [← rH]
  have hl := lv_entry ([.ref x]) (n := 2) (Nat.le_of_ble_eq_true rfl)
  rw [lg_entry_eq]
  generalize (lg_sl ([.ref x]) ++ List.replicate (2 - (lg_sl ([.ref x])).length) Slot.unset).toArray = ls at hl ⊢
  have hl : lv_has ls 2 [(0, .ref x)] := hl
  refine lv_aload_n hx hb dX11_forget_0 rfl (lv_at hl 0 rfl) ?_
  refine va_get (D := (dC, dI)) (ci := 11) (v := .ref le) (C := RX11) (T := TX11) (N := 13) hx hb htw inlX11 hown hK hP 0 rfl rfl 4 (by decide) (htw _ (ck_2 _ (List.mem_of_getElem? (i := 6) rfl))) (fun _ h9 => h9) rfl dX11_forget_1 ?_
  refine va_get (D := (dC, dI)) (ci := 2) (v := .int lz) (C := RX2) (T := TX2) (N := 3) hx hb htw inlX2 hown hK hP 1 rfl rfl 0 (by decide) (htw _ (ck_12 _ (List.mem_of_getElem? (i := 23) rfl))) (fun _ h9 => h9) rfl dX11_forget_4 ?_
  refine lv_istore_n (lv' := [(1, .int lz), (0, .ref x)]) hx hb dX11_forget_7 rfl hl (by decide) rfl (fun ls hl => ?_)
  refine lv_aload_n hx hb dX11_forget_8 rfl (lv_at hl 1 rfl) ?_
  refine va_get (D := (dC, dI)) (ci := 11) (v := .ref le) (C := RX11) (T := TX11) (N := 13) hx hb htw inlX11 hown hK hP 0 rfl rfl 4 (by decide) (htw _ (ck_2 _ (List.mem_of_getElem? (i := 6) rfl))) (fun _ h9 => h9) rfl dX11_forget_9 ?_
  refine lv_iconst (v := 0) hx hb dX11_forget_12 (by decide) ?_
  refine va_put (D := (dC, dI)) (ci := 2) (v := .int 0) (ty := tyX2 0) (C := RX2) (T := TX2) (N := 3) hx hb htw inlX2 tyX2 tyX2_ok nmX2 hown hK hP hD hS 1 rfl rfl 0 (by decide) (htw _ (ck_12 _ (List.mem_of_getElem? (i := 23) rfl))) (fun _ h9 => h9) rfl (tyX2_ok 0 (by decide)) rfl rfl (Nat.le_of_ble_eq_true rfl) dX11_forget_13 (fun H locs hP hD hS => ?_)
  obtain ⟨hP, hD⟩ := zre [(eO11a x pa bk xsp xdy le xst xsc xim xil xik xmo xom wi), (eO2a le 0 lna lca)] hP hD rfl
  refine lv_iload_n hx hb dX11_forget_16 rfl (lv_at hl 0 rfl) ?_
  refine W.widen (k := 0) (n := 0) (by omega) (by omega) ?_
  have hP9 := hP
  have hD9 := hD
  have hK9 := hK.sub (tys' := []) [] rfl
  exact W.iret (v := lz) hx hb hr (fun t ht hW => ⟨⟨lz, 0, rfl, ((fun e9 => ⟨by rw [e9], by rw [e9]⟩ : fx_forget lz = (lz, (0 : Int32)) → _) ((by rw [fx_forget]))), by rw [ht]; exact hP9, va_K.moved hW.alike hK9, hD9⟩, hS.F ht⟩) hS.2.2 dX11_forget_17

def fx_keep (lz : Int32) (fLn : Nat → Int32) (fLc : Nat → Int32) (fIs : Nat → Int32) (fIf : Nat → Int32) (fIz : Nat → Int32) (fIn : Nat → Int32) (fIc : Nat → Int32) (ns : Int32) (fNs : Nat → Int32) (fNf : Nat → Int32) (fNz : Nat → Int32) : Int32 × (Int32) × (Int32) × (Nat → Int32) × (Nat → Int32) × (Nat → Int32) × (Int32) × (Nat → Int32) × (Nat → Int32) := (xL ((fn_copy fIs fIf fIz ns fNs fNf fNz)) (fun u_2 => (xL ((fd_copy fIn fIc lz fLn fLc)) (fun u_8 => (u_2.1, (1 : Int32), u_2.1, u_2.2.1, u_2.2.2.1, u_2.2.2.2, u_8.1, u_8.2.1, u_8.2.2)))))
theorem dX11_keep_0 : decode cX11_keep 0 = .ok (.aload_n 0, 1) := zk_42 (by decide +kernel)
theorem dX11_keep_1 : decode cX11_keep 1 = .ok (.getfield 47, 3) := zk_180 (by decide +kernel)
theorem dX11_keep_4 : decode cX11_keep 4 = .ok (.aload_n 0, 1) := zk_42 (by decide +kernel)
theorem dX11_keep_5 : decode cX11_keep 5 = .ok (.getfield 19, 3) := zk_180 (by decide +kernel)
theorem dX11_keep_8 : decode cX11_keep 8 = .ok (.getfield 290, 3) := zk_180 (by decide +kernel)
theorem dX11_keep_11 : decode cX11_keep 11 = .ok (.invokevirtual 356, 3) := zk_182 (by decide +kernel)
theorem dX11_keep_14 : decode cX11_keep 14 = .ok (.aload_n 0, 1) := zk_42 (by decide +kernel)
theorem dX11_keep_15 : decode cX11_keep 15 = .ok (.getfield 51, 3) := zk_180 (by decide +kernel)
theorem dX11_keep_18 : decode cX11_keep 18 = .ok (.aload_n 0, 1) := zk_42 (by decide +kernel)
theorem dX11_keep_19 : decode cX11_keep 19 = .ok (.getfield 36, 3) := zk_180 (by decide +kernel)
theorem dX11_keep_22 : decode cX11_keep 22 = .ok (.invokevirtual 360, 3) := zk_182 (by decide +kernel)
theorem dX11_keep_25 : decode cX11_keep 25 = .ok (.aload_n 0, 1) := zk_42 (by decide +kernel)
theorem dX11_keep_26 : decode cX11_keep 26 = .ok (.iconst 1, 1) := zk_4 (by decide +kernel)
theorem dX11_keep_27 : decode cX11_keep 27 = .ok (.putfield 98, 3) := zk_181 (by decide +kernel)
theorem dX11_keep_30 : decode cX11_keep 30 = .ok (.aload_n 0, 1) := zk_42 (by decide +kernel)
theorem dX11_keep_31 : decode cX11_keep 31 = .ok (.getfield 47, 3) := zk_180 (by decide +kernel)
theorem dX11_keep_34 : decode cX11_keep 34 = .ok (.getfield 293, 3) := zk_180 (by decide +kernel)
theorem dX11_keep_37 : decode cX11_keep 37 = .ok (.ireturn, 1) := zk_172 (by decide +kernel)
set_option maxHeartbeats 4000000 in
set_option maxRecDepth 100000 in
theorem gx_keep (l : Launch) (dC : Nat → ClassId) (dI : Nat → Nat → Nat) (x : Nat) (pa : Nat) (bk : Nat) (xsp : Nat) (xdy : Nat) (le : Nat) (xst : Nat) (xsc : Int32) (xim : Nat) (xil : Nat) (xik : Int32) (xmo : Nat) (xom : Nat) (wi : Nat) (lz : Int32) (lna : Nat) (lca : Nat) (cLn : ClassId) (fLn : Nat → Int32) (cLc : ClassId) (fLc : Nat → Int32) (is : Int32) (isa : Nat) (ifa : Nat) (iza : Nat) (cIs : ClassId) (fIs : Nat → Int32) (cIf : ClassId) (fIf : Nat → Int32) (cIz : ClassId) (fIz : Nat → Int32) (iz : Int32) (ina : Nat) (ica : Nat) (cIn : ClassId) (fIn : Nat → Int32) (cIc : ClassId) (fIc : Nat → Int32) (bto : Nat) (bnm : Nat) (bla : Nat) (bsk : Nat) (bru : Nat) (bbo : Nat) (bdi : Nat) (bda : Nat) (bdk : Nat) (bdt : Nat) (bdp : Nat) (bno : Nat) (ns : Int32) (nsa : Nat) (nfa : Nat) (nza : Nat) (cNs : ClassId) (fNs : Nat → Int32) (cNf : ClassId) (fNf : Nat → Int32) (cNz : ClassId) (fNz : Nat → Int32) (sz : Nat) : Met l yX11_keep (Cond.code yX11_keep cX11_keep 1 (some .int) :: wsL_law) ({ frames := 2, cells := 0, slots := 0, locals := 39 }) (va_Pc [.ref x] (fun U => U.heap.size = sz ∧ va_P (dC, dI) vwCl [(eO11a x pa bk xsp xdy le xst xsc xim xil xik xmo xom wi), (eO2a le lz lna lca), (eA0 lna cLn 20 fLn), (eA0 lca cLc 20 fLc), (eO6a xim is isa ifa iza), (eA0 isa cIs 12 fIs), (eA0 ifa cIf 96 fIf), (eA0 iza cIz 96 fIz), (eO2a xil iz ina ica), (eA0 ina cIn 20 fIn), (eA0 ica cIc 20 fIc), (eO0a bk bto bnm bla bsk bru bbo bdi bda bdk bdt bdp bno), (eO6a bno ns nsa nfa nza), (eA0 nsa cNs 12 fNs), (eA0 nfa cNf 96 fNf), (eA0 nza cNz 96 fNz)] U.heap ∧ va_K (dC, dI) vwCl [(cLn, .int), (cLc, .int), (cIs, .int), (cIf, .int), (cIz, .int), (cIn, .int), (cIc, .int), (cNs, .int), (cNf, .int), (cNz, .int)] U ∧ va_D (fun _ => True) [(eO11a x pa bk xsp xdy le xst xsc xim xil xik xmo xom wi), (eO2a le lz lna lca), (eA0 lna cLn 20 fLn), (eA0 lca cLc 20 fLc), (eO6a xim is isa ifa iza), (eA0 isa cIs 12 fIs), (eA0 ifa cIf 96 fIf), (eA0 iza cIz 96 fIz), (eO2a xil iz ina ica), (eA0 ina cIn 20 fIn), (eA0 ica cIc 20 fIc), (eO0a bk bto bnm bla bsk bru bbo bdi bda bdk bdt bdp bno), (eO6a bno ns nsa nfa nza), (eA0 nsa cNs 12 fNs), (eA0 nfa cNf 96 fNf), (eA0 nza cNz 96 fNz)])) (va_Qi (fun (r : Int32) (u : (Int32) × (Int32) × (Nat → Int32) × (Nat → Int32) × (Nat → Int32) × (Int32) × (Nat → Int32) × (Nat → Int32)) => r = (fx_keep lz fLn fLc fIs fIf fIz fIn fIc ns fNs fNf fNz).1 ∧ u = (fx_keep lz fLn fLc fIs fIf fIz fIn fIc ns fNs fNf fNz).2) (fun (u : (Int32) × (Int32) × (Nat → Int32) × (Nat → Int32) × (Nat → Int32) × (Int32) × (Nat → Int32) × (Nat → Int32)) t => va_P (dC, dI) vwCl [(eO11a x pa bk xsp xdy le xst xsc xim xil u.1 xmo xom wi), (eO2a le lz lna lca), (eA0 lna cLn 20 fLn), (eA0 lca cLc 20 fLc), (eO6a xim u.2.1 isa ifa iza), (eA0 isa cIs 12 u.2.2.1), (eA0 ifa cIf 96 u.2.2.2.1), (eA0 iza cIz 96 u.2.2.2.2.1), (eO2a xil u.2.2.2.2.2.1 ina ica), (eA0 ina cIn 20 u.2.2.2.2.2.2.1), (eA0 ica cIc 20 u.2.2.2.2.2.2.2), (eO0a bk bto bnm bla bsk bru bbo bdi bda bdk bdt bdp bno), (eO6a bno ns nsa nfa nza), (eA0 nsa cNs 12 fNs), (eA0 nfa cNf 96 fNf), (eA0 nza cNz 96 fNz)] t.heap ∧ va_K (dC, dI) vwCl [] t ∧ va_D (va_A [(eO11a x pa bk xsp xdy le xst xsc xim xil xik xmo xom wi), (eO2a le lz lna lca), (eA0 lna cLn 20 fLn), (eA0 lca cLc 20 fLc), (eO6a xim is isa ifa iza), (eA0 isa cIs 12 fIs), (eA0 ifa cIf 96 fIf), (eA0 iza cIz 96 fIz), (eO2a xil iz ina ica), (eA0 ina cIn 20 fIn), (eA0 ica cIc 20 fIc), (eO0a bk bto bnm bla bsk bru bbo bdi bda bdk bdt bdp bno), (eO6a bno ns nsa nfa nza), (eA0 nsa cNs 12 fNs), (eA0 nfa cNf 96 fNf), (eA0 nza cNz 96 fNz)] sz) [(eO11a x pa bk xsp xdy le xst xsc xim xil u.1 xmo xom wi), (eO2a le lz lna lca), (eA0 lna cLn 20 fLn), (eA0 lca cLc 20 fLc), (eO6a xim u.2.1 isa ifa iza), (eA0 isa cIs 12 u.2.2.1), (eA0 ifa cIf 96 u.2.2.2.1), (eA0 iza cIz 96 u.2.2.2.2.1), (eO2a xil u.2.2.2.2.2.1 ina ica), (eA0 ina cIn 20 u.2.2.2.2.2.2.1), (eA0 ica cIc 20 u.2.2.2.2.2.2.2), (eO0a bk bto bnm bla bsk bru bbo bdi bda bdk bdt bdp bno), (eO6a bno ns nsa nfa nza), (eA0 nsa cNs 12 fNs), (eA0 nfa cNf 96 fNf), (eA0 nza cNz 96 fNz)]) (va_A [(eO11a x pa bk xsp xdy le xst xsc xim xil xik xmo xom wi), (eO2a le lz lna lca), (eA0 lna cLn 20 fLn), (eA0 lca cLc 20 fLc), (eO6a xim is isa ifa iza), (eA0 isa cIs 12 fIs), (eA0 ifa cIf 96 fIf), (eA0 iza cIz 96 fIz), (eO2a xil iz ina ica), (eA0 ina cIn 20 fIn), (eA0 ica cIc 20 fIc), (eO0a bk bto bnm bla bsk bru bbo bdi bda bdk bdt bdp bno), (eO6a bno ns nsa nfa nza), (eA0 nsa cNs 12 fNs), (eA0 nfa cNf 96 fNf), (eA0 nza cNz 96 fNz)] sz)) 0 0 (va_A [(eO11a x pa bk xsp xdy le xst xsc xim xil xik xmo xom wi), (eO2a le lz lna lca), (eA0 lna cLn 20 fLn), (eA0 lca cLc 20 fLc), (eO6a xim is isa ifa iza), (eA0 isa cIs 12 fIs), (eA0 ifa cIf 96 fIf), (eA0 iza cIz 96 fIz), (eO2a xil iz ina ica), (eA0 ina cIn 20 fIn), (eA0 ica cIc 20 fIc), (eO0a bk bto bnm bla bsk bru bbo bdi bda bdk bdt bdp bno), (eO6a bno ns nsa nfa nza), (eA0 nsa cNs 12 fNs), (eA0 nfa cNf 96 fNf), (eA0 nza cNz 96 fNz)] sz) := by
  refine Met.ofW (cc := cX11_keep) (maxL := 1) (ret := (some .int)) (by decide) rfl ?_
  intro p e s m args below meth c s₁ B hml hv
  obtain ⟨rfl, hsz, hP, hK, hD0⟩ := hv
  have hx := B.exec
  have hb := B.bytes
  have hr := B.returns
  have hts := atoms_spec (ws := Cond.code yX11_keep cX11_keep 1 (some .int) :: wsL_law) B.pre
  have htw : ∀ w ∈ wsL_law, w.before _ s = true := fun w h => hts w (List.mem_cons_of_mem _ h)
  have hown : s.vm.findClass RX11 = some m.cls := findClass_of_methodNamed B.named
  have hlocks := B.notSynchronized
  subst hsz
  have hD := hD0.self (sz := s.heap.size)
  generalize hAe : va_A [(eO11a x pa bk xsp xdy le xst xsc xim xil xik xmo xom wi), (eO2a le lz lna lca), (eA0 lna cLn 20 fLn), (eA0 lca cLc 20 fLc), (eO6a xim is isa ifa iza), (eA0 isa cIs 12 fIs), (eA0 ifa cIf 96 fIf), (eA0 iza cIz 96 fIz), (eO2a xil iz ina ica), (eA0 ina cIn 20 fIn), (eA0 ica cIc 20 fIc), (eO0a bk bto bnm bla bsk bru bbo bdi bda bdk bdt bdp bno), (eO6a bno ns nsa nfa nza), (eA0 nsa cNs 12 fNs), (eA0 nfa cNf 96 fNf), (eA0 nza cNz 96 fNz)] s.heap.size = A at hD ⊢
  have hA : ∀ q : Nat, s.heap.size ≤ q → A q := fun q h => by rw [← hAe]; exact Or.inr h
  obtain ⟨H, rH⟩ : ∃ z : Heap, z = s.heap := ⟨_, rfl⟩
  have hS : va_S A s.heap H [] := by rw [rH]; exact va_S.rf
  have hP : va_P (dC, dI) vwCl [(eO11a x pa bk xsp xdy le xst xsc xim xil xik xmo xom wi), (eO2a le lz lna lca), (eA0 lna cLn 20 fLn), (eA0 lca cLc 20 fLc), (eO6a xim is isa ifa iza), (eA0 isa cIs 12 fIs), (eA0 ifa cIf 96 fIf), (eA0 iza cIz 96 fIz), (eO2a xil iz ina ica), (eA0 ina cIn 20 fIn), (eA0 ica cIc 20 fIc), (eO0a bk bto bnm bla bsk bru bbo bdi bda bdk bdt bdp bno), (eO6a bno ns nsa nfa nza), (eA0 nsa cNs 12 fNs), (eA0 nfa cNf 96 fNf), (eA0 nza cNz 96 fNz)] H := by rw [rH]; exact hP
  rw [← rH]
  have hl := lv_entry ([.ref x]) (n := 1) (Nat.le_of_ble_eq_true rfl)
  rw [lg_entry_eq]
  generalize (lg_sl ([.ref x]) ++ List.replicate (1 - (lg_sl ([.ref x])).length) Slot.unset).toArray = ls at hl ⊢
  have hl : lv_has ls 1 [(0, .ref x)] := hl
  refine lv_aload_n hx hb dX11_keep_0 rfl (lv_at hl 0 rfl) ?_
  refine va_get (D := (dC, dI)) (ci := 11) (v := .ref xim) (C := RX11) (T := TX11) (N := 13) hx hb htw inlX11 hown hK hP 0 rfl rfl 7 (by decide) (htw _ (ck_2 _ (List.mem_of_getElem? (i := 12) rfl))) (fun _ h9 => h9) rfl dX11_keep_1 ?_
  refine lv_aload_n hx hb dX11_keep_4 rfl (lv_at hl 0 rfl) ?_
  refine va_get (D := (dC, dI)) (ci := 11) (v := .ref bk) (C := RX11) (T := TX11) (N := 13) hx hb htw inlX11 hown hK hP 0 rfl rfl 1 (by decide) (htw _ (ck_1 _ (List.mem_of_getElem? (i := 21) rfl))) (fun _ h9 => h9) rfl dX11_keep_5 ?_
  refine va_get (D := (dC, dI)) (ci := 0) (v := .ref bno) (C := RX0) (T := TX0) (N := 12) hx hb htw inlX0 hown hK hP 11 rfl rfl 11 (by decide) (htw _ (ck_52 _ (List.mem_of_getElem? (i := 7) rfl))) (fun _ h9 => h9) rfl dX11_keep_8 ?_
  obtain ⟨hPc, hDc, hFc, hCc⟩ := zsub3 (ws' := [(eO6a xim is isa ifa iza), (eA0 isa cIs 12 fIs), (eA0 ifa cIf 96 fIf), (eA0 iza cIz 96 fIz), (eO6a bno ns nsa nfa nza), (eA0 nsa cNs 12 fNs), (eA0 nfa cNf 96 fNf), (eA0 nza cNz 96 fNz)]) hP hD hS hA [4, 5, 6, 7, 12, 13, 14, 15] (by decide +kernel) rfl
  have hKc := hK.sub (tys' := [(cIs, .int), (cIf, .int), (cIz, .int), (cNs, .int), (cNf, .int), (cNz, .int)]) [2, 3, 4, 7, 8, 9] rfl
  refine va_callv (va_runV (As := [.ref bno]) (rest := []) ⟨hx, hb, hml, hown, htw⟩ (gn_copy l dC dI xim is isa ifa iza cIs fIs cIf fIf cIz fIz bno ns nsa nfa nza cNs fNs cNf fNf cNz fNz H.size) (cwV 1 htw (xg_V (ck_64 _ (List.mem_of_getElem? (i := 22) rfl)) (ck_64 _ (List.mem_of_getElem? (i := 23) rfl)) (ck_65 _ (List.mem_of_getElem? (i := 0) rfl)) (ck_2 _ (List.mem_of_getElem? (i := 11) rfl)) (ck_65 _ (List.mem_of_getElem? (i := 1) rfl))) rfl rfl rfl (by exact ⟨rfl, hdc_3.1, hdc_3.2, hdd_22⟩) ⟨Nat.le_of_ble_eq_true rfl, Nat.le_of_ble_eq_true rfl⟩) ⟨fun a U g mk q => by obtain ⟨q0, q1, qP, qK, qD⟩ := q; exact ⟨q0, q1, qP, va_K.moved (u := U) (U := U.calling g mk a) (Vm.Alike.refl U.vm) qK, qD⟩, va_recv hKc hPc (ci := 6) (q0 := 0) rfl rfl, fun U hU hW => ⟨rfl, by rw [hU], by rw [hU]; exact hPc, va_K.moved hW.alike hKc, hDc.weaken (fun _ _ _ _ => trivial)⟩⟩ rfl rfl hl.1 rfl (lv_room (Nat.le_of_ble_eq_true rfl)) dX11_keep_11 ⟨Nat.le_of_ble_eq_true rfl, Nat.le_of_ble_eq_true rfl⟩) hS (fun q _ h => hFc q h) hFc (fun u_2 t H1 locs ht hvm hw hB hz1 hk1 hS => ?_)
  try dsimp only at hw
  obtain ⟨hP1, hK1, hD1⟩ := hB
  rw [ht] at hP1
  have hK1 := va_K.moved hvm.symm hK1
  have hK1 : va_K (dC, dI) vwCl [] s := hK1
  obtain ⟨hP, hD⟩ := va_join (wr := [(eO11a x pa bk xsp xdy le xst xsc xim xil xik xmo xom wi), (eO2a le lz lna lca), (eA0 lna cLn 20 fLn), (eA0 lca cLc 20 fLc), (eO2a xil iz ina ica), (eA0 ina cIn 20 fIn), (eA0 ica cIc 20 fIc), (eO0a bk bto bnm bla bsk bru bbo bdi bda bdk bdt bdp bno)]) (w1 := [(eO6a xim u_2.1 isa ifa iza), (eA0 isa cIs 12 u_2.2.1), (eA0 ifa cIf 96 u_2.2.2.1), (eA0 iza cIz 96 u_2.2.2.2), (eO6a bno ns nsa nfa nza), (eA0 nsa cNs 12 fNs), (eA0 nfa cNf 96 fNf), (eA0 nza cNz 96 fNz)]) hP hD [4, 5, 6, 7, 12, 13, 14, 15] [0, 1, 2, 3, 8, 9, 10, 11] hCc rfl (by decide +kernel) (by decide +kernel) hk1 hFc hP1 hD1
  generalize H1 = H at hP hS ⊢
  obtain ⟨hP, hD⟩ := zre [(eO11a x pa bk xsp xdy le xst xsc xim xil xik xmo xom wi), (eO2a le lz lna lca), (eA0 lna cLn 20 fLn), (eA0 lca cLc 20 fLc), (eO2a xil iz ina ica), (eA0 ina cIn 20 fIn), (eA0 ica cIc 20 fIc), (eO0a bk bto bnm bla bsk bru bbo bdi bda bdk bdt bdp bno), (eO6a xim u_2.1 isa ifa iza), (eA0 isa cIs 12 u_2.2.1), (eA0 ifa cIf 96 u_2.2.2.1), (eA0 iza cIz 96 u_2.2.2.2), (eO6a bno ns nsa nfa nza), (eA0 nsa cNs 12 fNs), (eA0 nfa cNf 96 fNf), (eA0 nza cNz 96 fNz)] hP hD rfl
  refine W.widen (k := 0) (n := 0) (by omega) (by omega) ?_
  have hq_u_2 : u_2 = (fn_copy fIs fIf fIz ns fNs fNf fNz) := hw
  refine lv_aload_n hx hb dX11_keep_14 rfl (lv_at hl 0 rfl) ?_
  refine va_get (D := (dC, dI)) (ci := 11) (v := .ref xil) (C := RX11) (T := TX11) (N := 13) hx hb htw inlX11 hown hK hP 0 rfl rfl 8 (by decide) (htw _ (ck_2 _ (List.mem_of_getElem? (i := 13) rfl))) (fun _ h9 => h9) rfl dX11_keep_15 ?_
  refine lv_aload_n hx hb dX11_keep_18 rfl (lv_at hl 0 rfl) ?_
  refine va_get (D := (dC, dI)) (ci := 11) (v := .ref le) (C := RX11) (T := TX11) (N := 13) hx hb htw inlX11 hown hK hP 0 rfl rfl 4 (by decide) (htw _ (ck_2 _ (List.mem_of_getElem? (i := 6) rfl))) (fun _ h9 => h9) rfl dX11_keep_19 ?_
  obtain ⟨hPc, hDc, hFc, hCc⟩ := zsub3 (ws' := [(eO2a xil iz ina ica), (eA0 ina cIn 20 fIn), (eA0 ica cIc 20 fIc), (eO2a le lz lna lca), (eA0 lna cLn 20 fLn), (eA0 lca cLc 20 fLc)]) hP hD hS hA [4, 5, 6, 1, 2, 3] (by decide) rfl
  have hKc := hK.sub (tys' := [(cIn, .int), (cIc, .int), (cLn, .int), (cLc, .int)]) [5, 6, 0, 1] rfl
  refine va_callv (va_runV (As := [.ref le]) (rest := []) ⟨hx, hb, hml, hown, htw⟩ (gd_copy l dC dI xil iz ina ica cIn fIn cIc fIc le lz lna lca cLn fLn cLc fLc H.size) (cwV 1 htw (xg_V (ck_65 _ (List.mem_of_getElem? (i := 7) rfl)) (ck_65 _ (List.mem_of_getElem? (i := 8) rfl)) (ck_65 _ (List.mem_of_getElem? (i := 9) rfl)) (ck_2 _ (List.mem_of_getElem? (i := 5) rfl)) (ck_65 _ (List.mem_of_getElem? (i := 10) rfl))) rfl rfl rfl (by exact ⟨rfl, hdc_11.1, hdc_11.2, hdd_23⟩) ⟨Nat.le_of_ble_eq_true rfl, Nat.le_of_ble_eq_true rfl⟩) ⟨fun a U g mk q => by obtain ⟨q0, q1, qP, qK, qD⟩ := q; exact ⟨q0, q1, qP, va_K.moved (u := U) (U := U.calling g mk a) (Vm.Alike.refl U.vm) qK, qD⟩, va_recv hKc hPc (ci := 2) (q0 := 0) rfl rfl, fun U hU hW => ⟨rfl, by rw [hU], by rw [hU]; exact hPc, va_K.moved hW.alike hKc, hDc.weaken (fun _ _ _ _ => trivial)⟩⟩ rfl rfl hl.1 rfl (lv_room (Nat.le_of_ble_eq_true rfl)) dX11_keep_22 ⟨Nat.le_of_ble_eq_true rfl, Nat.le_of_ble_eq_true rfl⟩) hS (fun q _ h => hFc q h) hFc (fun u_8 t H1 locs ht hvm hw hB hz1 hk1 hS => ?_)
  try dsimp only at hw
  obtain ⟨hP1, hK1, hD1⟩ := hB
  rw [ht] at hP1
  have hK1 := va_K.moved hvm.symm hK1
  have hK1 : va_K (dC, dI) vwCl [] s := hK1
  obtain ⟨hP, hD⟩ := va_join (wr := [(eO11a x pa bk xsp xdy le xst xsc xim xil xik xmo xom wi), (eO0a bk bto bnm bla bsk bru bbo bdi bda bdk bdt bdp bno), (eO6a xim u_2.1 isa ifa iza), (eA0 isa cIs 12 u_2.2.1), (eA0 ifa cIf 96 u_2.2.2.1), (eA0 iza cIz 96 u_2.2.2.2), (eO6a bno ns nsa nfa nza), (eA0 nsa cNs 12 fNs), (eA0 nfa cNf 96 fNf), (eA0 nza cNz 96 fNz)]) (w1 := [(eO2a xil u_8.1 ina ica), (eA0 ina cIn 20 u_8.2.1), (eA0 ica cIc 20 u_8.2.2), (eO2a le lz lna lca), (eA0 lna cLn 20 fLn), (eA0 lca cLc 20 fLc)]) hP hD [4, 5, 6, 1, 2, 3] [0, 7, 8, 9, 10, 11, 12, 13, 14, 15] hCc rfl (by decide +kernel) (by decide +kernel) hk1 hFc hP1 hD1
  generalize H1 = H at hP hS ⊢
  obtain ⟨hP, hD⟩ := zre [(eO11a x pa bk xsp xdy le xst xsc xim xil xik xmo xom wi), (eO0a bk bto bnm bla bsk bru bbo bdi bda bdk bdt bdp bno), (eO6a xim u_2.1 isa ifa iza), (eA0 isa cIs 12 u_2.2.1), (eA0 ifa cIf 96 u_2.2.2.1), (eA0 iza cIz 96 u_2.2.2.2), (eO6a bno ns nsa nfa nza), (eA0 nsa cNs 12 fNs), (eA0 nfa cNf 96 fNf), (eA0 nza cNz 96 fNz), (eO2a xil u_8.1 ina ica), (eA0 ina cIn 20 u_8.2.1), (eA0 ica cIc 20 u_8.2.2), (eO2a le lz lna lca), (eA0 lna cLn 20 fLn), (eA0 lca cLc 20 fLc)] hP hD rfl
  refine W.widen (k := 0) (n := 0) (by omega) (by omega) ?_
  have hq_u_8 : u_8 = (fd_copy fIn fIc lz fLn fLc) := hw
  refine lv_aload_n hx hb dX11_keep_25 rfl (lv_at hl 0 rfl) ?_
  refine lv_iconst (v := 1) hx hb dX11_keep_26 (by decide) ?_
  refine va_put (D := (dC, dI)) (ci := 11) (v := .int 1) (ty := tyX11 9) (C := RX11) (T := TX11) (N := 13) hx hb htw inlX11 tyX11 tyX11_ok nmX11 hown hK hP hD hS 0 rfl rfl 9 (by decide) (htw _ (ck_13 _ (List.mem_of_getElem? (i := 0) rfl))) (fun _ h9 => h9) rfl (tyX11_ok 9 (by decide)) rfl rfl (Nat.le_of_ble_eq_true rfl) dX11_keep_27 (fun H locs hP hD hS => ?_)
  obtain ⟨hP, hD⟩ := zre [(eO11a x pa bk xsp xdy le xst xsc xim xil 1 xmo xom wi), (eO0a bk bto bnm bla bsk bru bbo bdi bda bdk bdt bdp bno), (eO6a xim u_2.1 isa ifa iza), (eA0 isa cIs 12 u_2.2.1), (eA0 ifa cIf 96 u_2.2.2.1), (eA0 iza cIz 96 u_2.2.2.2), (eO6a bno ns nsa nfa nza), (eA0 nsa cNs 12 fNs), (eA0 nfa cNf 96 fNf), (eA0 nza cNz 96 fNz), (eO2a xil u_8.1 ina ica), (eA0 ina cIn 20 u_8.2.1), (eA0 ica cIc 20 u_8.2.2), (eO2a le lz lna lca), (eA0 lna cLn 20 fLn), (eA0 lca cLc 20 fLc)] hP hD rfl
  refine lv_aload_n hx hb dX11_keep_30 rfl (lv_at hl 0 rfl) ?_
  refine va_get (D := (dC, dI)) (ci := 11) (v := .ref xim) (C := RX11) (T := TX11) (N := 13) hx hb htw inlX11 hown hK hP 0 rfl rfl 7 (by decide) (htw _ (ck_2 _ (List.mem_of_getElem? (i := 12) rfl))) (fun _ h9 => h9) rfl dX11_keep_31 ?_
  refine va_get (D := (dC, dI)) (ci := 6) (v := .int u_2.1) (C := RX6) (T := TX6) (N := 4) hx hb htw inlX6 hown hK hP 2 rfl rfl 0 (by decide) (htw _ (ck_52 _ (List.mem_of_getElem? (i := 8) rfl))) (fun _ h9 => h9) rfl dX11_keep_34 ?_
  refine W.widen (k := 0) (n := 0) (by omega) (by omega) ?_
  obtain ⟨hP9, hD9⟩ := zsub2 (ws' := [(eO11a x pa bk xsp xdy le xst xsc xim xil 1 xmo xom wi), (eO2a le lz lna lca), (eA0 lna cLn 20 fLn), (eA0 lca cLc 20 fLc), (eO6a xim u_2.1 isa ifa iza), (eA0 isa cIs 12 u_2.2.1), (eA0 ifa cIf 96 u_2.2.2.1), (eA0 iza cIz 96 u_2.2.2.2), (eO2a xil u_8.1 ina ica), (eA0 ina cIn 20 u_8.2.1), (eA0 ica cIc 20 u_8.2.2), (eO0a bk bto bnm bla bsk bru bbo bdi bda bdk bdt bdp bno), (eO6a bno ns nsa nfa nza), (eA0 nsa cNs 12 fNs), (eA0 nfa cNf 96 fNf), (eA0 nza cNz 96 fNz)]) hP hD [0, 13, 14, 15, 2, 3, 4, 5, 10, 11, 12, 1, 6, 7, 8, 9] (by decide +kernel) rfl
  have hK9 := hK.sub (tys' := []) [] rfl
  exact W.iret (v := u_2.1) hx hb hr (fun t ht hW => ⟨⟨u_2.1, (1, u_2.1, u_2.2.1, u_2.2.2.1, u_2.2.2.2, u_8.1, u_8.2.1, u_8.2.2), rfl, ((fun e9 => ⟨by rw [e9], by rw [e9]⟩ : fx_keep lz fLn fLc fIs fIf fIz fIn fIc ns fNs fNf fNz = (u_2.1, (1 : Int32), u_2.1, u_2.2.1, u_2.2.2.1, u_2.2.2.2, u_8.1, u_8.2.1, u_8.2.2) → _) ((by rw [fx_keep]; (try rw [← hq_u_2]); (try rw [xL_eq]); (try rw [← hq_u_8]); (try rw [xL_eq]); try rfl))), by rw [ht]; exact hP9, va_K.moved hW.alike hK9, hD9⟩, hS.F ht⟩) hS.2.2 dX11_keep_37

def fx_back (xsc : Int32) (xik : Int32) (lz : Int32) (fLn : Nat → Int32) (fLc : Nat → Int32) (is : Int32) (fIs : Nat → Int32) (fIf : Nat → Int32) (fIz : Nat → Int32) (iz : Int32) (fIn : Nat → Int32) (fIc : Nat → Int32) (dfr : Int32) (ns : Int32) (fNs : Nat → Int32) (fNf : Nat → Int32) (fNz : Nat → Int32) : Int32 × (Int32) × (Int32) × (Nat → Int32) × (Nat → Int32) × (Nat → Int32) × (Int32) × (Nat → Int32) × (Nat → Int32) × (Int32) := (if xik = 0 then ((-1 : Int32), xsc, ns, fNs, fNf, fNz, lz, fLn, fLc, dfr) else (xL ((fn_copy fNs fNf fNz is fIs fIf fIz)) (fun u_3 => (xL ((fd_copy fLn fLc iz fIn fIc)) (fun u_9 => (xL ((fd_stale dfr (0 : Int32))) (fun u_14 => (is, (0 : Int32), u_3.1, u_3.2.1, u_3.2.2.1, u_3.2.2.2, u_9.1, u_9.2.1, u_9.2.2, u_14))))))))
theorem dX11_back_0 : decode cX11_back 0 = .ok (.aload_n 0, 1) := zk_42 (by decide +kernel)
theorem dX11_back_1 : decode cX11_back 1 = .ok (.getfield 98, 3) := zk_180 (by decide +kernel)
theorem dX11_back_4 : decode cX11_back 4 = .ok (.ifCond .ne 5, 3) := zk_154 (by decide +kernel)
theorem dX11_back_9 : decode cX11_back 9 = .ok (.aload_n 0, 1) := zk_42 (by decide +kernel)
theorem dX11_back_10 : decode cX11_back 10 = .ok (.getfield 19, 3) := zk_180 (by decide +kernel)
theorem dX11_back_13 : decode cX11_back 13 = .ok (.getfield 290, 3) := zk_180 (by decide +kernel)
theorem dX11_back_16 : decode cX11_back 16 = .ok (.aload_n 0, 1) := zk_42 (by decide +kernel)
theorem dX11_back_17 : decode cX11_back 17 = .ok (.getfield 47, 3) := zk_180 (by decide +kernel)
theorem dX11_back_20 : decode cX11_back 20 = .ok (.invokevirtual 356, 3) := zk_182 (by decide +kernel)
theorem dX11_back_23 : decode cX11_back 23 = .ok (.aload_n 0, 1) := zk_42 (by decide +kernel)
theorem dX11_back_24 : decode cX11_back 24 = .ok (.getfield 36, 3) := zk_180 (by decide +kernel)
theorem dX11_back_27 : decode cX11_back 27 = .ok (.aload_n 0, 1) := zk_42 (by decide +kernel)
theorem dX11_back_28 : decode cX11_back 28 = .ok (.getfield 51, 3) := zk_180 (by decide +kernel)
theorem dX11_back_31 : decode cX11_back 31 = .ok (.invokevirtual 360, 3) := zk_182 (by decide +kernel)
theorem dX11_back_34 : decode cX11_back 34 = .ok (.aload_n 0, 1) := zk_42 (by decide +kernel)
theorem dX11_back_35 : decode cX11_back 35 = .ok (.getfield 29, 3) := zk_180 (by decide +kernel)
theorem dX11_back_38 : decode cX11_back 38 = .ok (.iconst 0, 1) := zk_3 (by decide +kernel)
theorem dX11_back_39 : decode cX11_back 39 = .ok (.invokevirtual 89, 3) := zk_182 (by decide +kernel)
theorem dX11_back_42 : decode cX11_back 42 = .ok (.aload_n 0, 1) := zk_42 (by decide +kernel)
theorem dX11_back_43 : decode cX11_back 43 = .ok (.iconst 0, 1) := zk_3 (by decide +kernel)
theorem dX11_back_44 : decode cX11_back 44 = .ok (.putfield 92, 3) := zk_181 (by decide +kernel)
theorem dX11_back_47 : decode cX11_back 47 = .ok (.aload_n 0, 1) := zk_42 (by decide +kernel)
theorem dX11_back_48 : decode cX11_back 48 = .ok (.getfield 47, 3) := zk_180 (by decide +kernel)
theorem dX11_back_51 : decode cX11_back 51 = .ok (.getfield 293, 3) := zk_180 (by decide +kernel)
theorem dX11_back_54 : decode cX11_back 54 = .ok (.ireturn, 1) := zk_172 (by decide +kernel)
theorem dX11_back_7 : decode cX11_back 7 = .ok (.iconst (-1), 1) := zk_2 (by decide +kernel)
theorem dX11_back_8 : decode cX11_back 8 = .ok (.ireturn, 1) := zk_172 (by decide +kernel)
set_option maxHeartbeats 4000000 in
set_option maxRecDepth 100000 in
theorem gx_back (l : Launch) (dC : Nat → ClassId) (dI : Nat → Nat → Nat) (x : Nat) (pa : Nat) (bk : Nat) (xsp : Nat) (xdy : Nat) (le : Nat) (xst : Nat) (xsc : Int32) (xim : Nat) (xil : Nat) (xik : Int32) (xmo : Nat) (xom : Nat) (wi : Nat) (lz : Int32) (lna : Nat) (lca : Nat) (cLn : ClassId) (fLn : Nat → Int32) (cLc : ClassId) (fLc : Nat → Int32) (is : Int32) (isa : Nat) (ifa : Nat) (iza : Nat) (cIs : ClassId) (fIs : Nat → Int32) (cIf : ClassId) (fIf : Nat → Int32) (cIz : ClassId) (fIz : Nat → Int32) (iz : Int32) (ina : Nat) (ica : Nat) (cIn : ClassId) (fIn : Nat → Int32) (cIc : ClassId) (fIc : Nat → Int32) (drw : Nat) (dfr : Int32) (dsh : Nat) (dto : Nat) (dmo : Nat) (dwi : Nat) (bto : Nat) (bnm : Nat) (bla : Nat) (bsk : Nat) (bru : Nat) (bbo : Nat) (bdi : Nat) (bda : Nat) (bdk : Nat) (bdt : Nat) (bdp : Nat) (bno : Nat) (ns : Int32) (nsa : Nat) (nfa : Nat) (nza : Nat) (cNs : ClassId) (fNs : Nat → Int32) (cNf : ClassId) (fNf : Nat → Int32) (cNz : ClassId) (fNz : Nat → Int32) (sz : Nat) : Met l yX11_back (Cond.code yX11_back cX11_back 1 (some .int) :: wsL_law) ({ frames := 2, cells := 0, slots := 0, locals := 39 }) (va_Pc [.ref x] (fun U => U.heap.size = sz ∧ va_P (dC, dI) vwCl [(eO11a x pa bk xsp xdy le xst xsc xim xil xik xmo xom wi), (eO2a le lz lna lca), (eA0 lna cLn 20 fLn), (eA0 lca cLc 20 fLc), (eO6a xim is isa ifa iza), (eA0 isa cIs 12 fIs), (eA0 ifa cIf 96 fIf), (eA0 iza cIz 96 fIz), (eO2a xil iz ina ica), (eA0 ina cIn 20 fIn), (eA0 ica cIc 20 fIc), (eO5a xdy drw dfr dsh dto dmo dwi), (eO0a bk bto bnm bla bsk bru bbo bdi bda bdk bdt bdp bno), (eO6a bno ns nsa nfa nza), (eA0 nsa cNs 12 fNs), (eA0 nfa cNf 96 fNf), (eA0 nza cNz 96 fNz)] U.heap ∧ va_K (dC, dI) vwCl [(cLn, .int), (cLc, .int), (cIs, .int), (cIf, .int), (cIz, .int), (cIn, .int), (cIc, .int), (cNs, .int), (cNf, .int), (cNz, .int)] U ∧ va_D (fun _ => True) [(eO11a x pa bk xsp xdy le xst xsc xim xil xik xmo xom wi), (eO2a le lz lna lca), (eA0 lna cLn 20 fLn), (eA0 lca cLc 20 fLc), (eO6a xim is isa ifa iza), (eA0 isa cIs 12 fIs), (eA0 ifa cIf 96 fIf), (eA0 iza cIz 96 fIz), (eO2a xil iz ina ica), (eA0 ina cIn 20 fIn), (eA0 ica cIc 20 fIc), (eO5a xdy drw dfr dsh dto dmo dwi), (eO0a bk bto bnm bla bsk bru bbo bdi bda bdk bdt bdp bno), (eO6a bno ns nsa nfa nza), (eA0 nsa cNs 12 fNs), (eA0 nfa cNf 96 fNf), (eA0 nza cNz 96 fNz)])) (va_Qi (fun (r : Int32) (u : (Int32) × (Int32) × (Nat → Int32) × (Nat → Int32) × (Nat → Int32) × (Int32) × (Nat → Int32) × (Nat → Int32) × (Int32)) => r = (fx_back xsc xik lz fLn fLc is fIs fIf fIz iz fIn fIc dfr ns fNs fNf fNz).1 ∧ u = (fx_back xsc xik lz fLn fLc is fIs fIf fIz iz fIn fIc dfr ns fNs fNf fNz).2) (fun (u : (Int32) × (Int32) × (Nat → Int32) × (Nat → Int32) × (Nat → Int32) × (Int32) × (Nat → Int32) × (Nat → Int32) × (Int32)) t => va_P (dC, dI) vwCl [(eO11a x pa bk xsp xdy le xst u.1 xim xil xik xmo xom wi), (eO2a le u.2.2.2.2.2.1 lna lca), (eA0 lna cLn 20 u.2.2.2.2.2.2.1), (eA0 lca cLc 20 u.2.2.2.2.2.2.2.1), (eO6a xim is isa ifa iza), (eA0 isa cIs 12 fIs), (eA0 ifa cIf 96 fIf), (eA0 iza cIz 96 fIz), (eO2a xil iz ina ica), (eA0 ina cIn 20 fIn), (eA0 ica cIc 20 fIc), (eO5a xdy drw u.2.2.2.2.2.2.2.2 dsh dto dmo dwi), (eO0a bk bto bnm bla bsk bru bbo bdi bda bdk bdt bdp bno), (eO6a bno u.2.1 nsa nfa nza), (eA0 nsa cNs 12 u.2.2.1), (eA0 nfa cNf 96 u.2.2.2.1), (eA0 nza cNz 96 u.2.2.2.2.1)] t.heap ∧ va_K (dC, dI) vwCl [] t ∧ va_D (va_A [(eO11a x pa bk xsp xdy le xst xsc xim xil xik xmo xom wi), (eO2a le lz lna lca), (eA0 lna cLn 20 fLn), (eA0 lca cLc 20 fLc), (eO6a xim is isa ifa iza), (eA0 isa cIs 12 fIs), (eA0 ifa cIf 96 fIf), (eA0 iza cIz 96 fIz), (eO2a xil iz ina ica), (eA0 ina cIn 20 fIn), (eA0 ica cIc 20 fIc), (eO5a xdy drw dfr dsh dto dmo dwi), (eO0a bk bto bnm bla bsk bru bbo bdi bda bdk bdt bdp bno), (eO6a bno ns nsa nfa nza), (eA0 nsa cNs 12 fNs), (eA0 nfa cNf 96 fNf), (eA0 nza cNz 96 fNz)] sz) [(eO11a x pa bk xsp xdy le xst u.1 xim xil xik xmo xom wi), (eO2a le u.2.2.2.2.2.1 lna lca), (eA0 lna cLn 20 u.2.2.2.2.2.2.1), (eA0 lca cLc 20 u.2.2.2.2.2.2.2.1), (eO6a xim is isa ifa iza), (eA0 isa cIs 12 fIs), (eA0 ifa cIf 96 fIf), (eA0 iza cIz 96 fIz), (eO2a xil iz ina ica), (eA0 ina cIn 20 fIn), (eA0 ica cIc 20 fIc), (eO5a xdy drw u.2.2.2.2.2.2.2.2 dsh dto dmo dwi), (eO0a bk bto bnm bla bsk bru bbo bdi bda bdk bdt bdp bno), (eO6a bno u.2.1 nsa nfa nza), (eA0 nsa cNs 12 u.2.2.1), (eA0 nfa cNf 96 u.2.2.2.1), (eA0 nza cNz 96 u.2.2.2.2.1)]) (va_A [(eO11a x pa bk xsp xdy le xst xsc xim xil xik xmo xom wi), (eO2a le lz lna lca), (eA0 lna cLn 20 fLn), (eA0 lca cLc 20 fLc), (eO6a xim is isa ifa iza), (eA0 isa cIs 12 fIs), (eA0 ifa cIf 96 fIf), (eA0 iza cIz 96 fIz), (eO2a xil iz ina ica), (eA0 ina cIn 20 fIn), (eA0 ica cIc 20 fIc), (eO5a xdy drw dfr dsh dto dmo dwi), (eO0a bk bto bnm bla bsk bru bbo bdi bda bdk bdt bdp bno), (eO6a bno ns nsa nfa nza), (eA0 nsa cNs 12 fNs), (eA0 nfa cNf 96 fNf), (eA0 nza cNz 96 fNz)] sz)) 0 0 (va_A [(eO11a x pa bk xsp xdy le xst xsc xim xil xik xmo xom wi), (eO2a le lz lna lca), (eA0 lna cLn 20 fLn), (eA0 lca cLc 20 fLc), (eO6a xim is isa ifa iza), (eA0 isa cIs 12 fIs), (eA0 ifa cIf 96 fIf), (eA0 iza cIz 96 fIz), (eO2a xil iz ina ica), (eA0 ina cIn 20 fIn), (eA0 ica cIc 20 fIc), (eO5a xdy drw dfr dsh dto dmo dwi), (eO0a bk bto bnm bla bsk bru bbo bdi bda bdk bdt bdp bno), (eO6a bno ns nsa nfa nza), (eA0 nsa cNs 12 fNs), (eA0 nfa cNf 96 fNf), (eA0 nza cNz 96 fNz)] sz) := by
  refine Met.ofW (cc := cX11_back) (maxL := 1) (ret := (some .int)) (by decide) rfl ?_
  intro p e s m args below meth c s₁ B hml hv
  obtain ⟨rfl, hsz, hP, hK, hD0⟩ := hv
  have hx := B.exec
  have hb := B.bytes
  have hr := B.returns
  have hts := atoms_spec (ws := Cond.code yX11_back cX11_back 1 (some .int) :: wsL_law) B.pre
  have htw : ∀ w ∈ wsL_law, w.before _ s = true := fun w h => hts w (List.mem_cons_of_mem _ h)
  have hown : s.vm.findClass RX11 = some m.cls := findClass_of_methodNamed B.named
  have hlocks := B.notSynchronized
  subst hsz
  have hD := hD0.self (sz := s.heap.size)
  generalize hAe : va_A [(eO11a x pa bk xsp xdy le xst xsc xim xil xik xmo xom wi), (eO2a le lz lna lca), (eA0 lna cLn 20 fLn), (eA0 lca cLc 20 fLc), (eO6a xim is isa ifa iza), (eA0 isa cIs 12 fIs), (eA0 ifa cIf 96 fIf), (eA0 iza cIz 96 fIz), (eO2a xil iz ina ica), (eA0 ina cIn 20 fIn), (eA0 ica cIc 20 fIc), (eO5a xdy drw dfr dsh dto dmo dwi), (eO0a bk bto bnm bla bsk bru bbo bdi bda bdk bdt bdp bno), (eO6a bno ns nsa nfa nza), (eA0 nsa cNs 12 fNs), (eA0 nfa cNf 96 fNf), (eA0 nza cNz 96 fNz)] s.heap.size = A at hD ⊢
  have hA : ∀ q : Nat, s.heap.size ≤ q → A q := fun q h => by rw [← hAe]; exact Or.inr h
  obtain ⟨H, rH⟩ : ∃ z : Heap, z = s.heap := ⟨_, rfl⟩
  have hS : va_S A s.heap H [] := by rw [rH]; exact va_S.rf
  have hP : va_P (dC, dI) vwCl [(eO11a x pa bk xsp xdy le xst xsc xim xil xik xmo xom wi), (eO2a le lz lna lca), (eA0 lna cLn 20 fLn), (eA0 lca cLc 20 fLc), (eO6a xim is isa ifa iza), (eA0 isa cIs 12 fIs), (eA0 ifa cIf 96 fIf), (eA0 iza cIz 96 fIz), (eO2a xil iz ina ica), (eA0 ina cIn 20 fIn), (eA0 ica cIc 20 fIc), (eO5a xdy drw dfr dsh dto dmo dwi), (eO0a bk bto bnm bla bsk bru bbo bdi bda bdk bdt bdp bno), (eO6a bno ns nsa nfa nza), (eA0 nsa cNs 12 fNs), (eA0 nfa cNf 96 fNf), (eA0 nza cNz 96 fNz)] H := by rw [rH]; exact hP
  rw [← rH]
  have hl := lv_entry ([.ref x]) (n := 1) (Nat.le_of_ble_eq_true rfl)
  rw [lg_entry_eq]
  generalize (lg_sl ([.ref x]) ++ List.replicate (1 - (lg_sl ([.ref x])).length) Slot.unset).toArray = ls at hl ⊢
  have hl : lv_has ls 1 [(0, .ref x)] := hl
  refine lv_aload_n hx hb dX11_back_0 rfl (lv_at hl 0 rfl) ?_
  refine va_get (D := (dC, dI)) (ci := 11) (v := .int xik) (C := RX11) (T := TX11) (N := 13) hx hb htw inlX11 hown hK hP 0 rfl rfl 9 (by decide) (htw _ (ck_13 _ (List.mem_of_getElem? (i := 0) rfl))) (fun _ h9 => h9) rfl dX11_back_1 ?_
  refine lv_if_ne (tgt := 9) hx hb dX11_back_4 (by decide) (fun c_1 => ?_) (fun c_1 => ?_)
  · refine lv_aload_n hx hb dX11_back_9 rfl (lv_at hl 0 rfl) ?_
    refine va_get (D := (dC, dI)) (ci := 11) (v := .ref bk) (C := RX11) (T := TX11) (N := 13) hx hb htw inlX11 hown hK hP 0 rfl rfl 1 (by decide) (htw _ (ck_1 _ (List.mem_of_getElem? (i := 21) rfl))) (fun _ h9 => h9) rfl dX11_back_10 ?_
    refine va_get (D := (dC, dI)) (ci := 0) (v := .ref bno) (C := RX0) (T := TX0) (N := 12) hx hb htw inlX0 hown hK hP 12 rfl rfl 11 (by decide) (htw _ (ck_52 _ (List.mem_of_getElem? (i := 7) rfl))) (fun _ h9 => h9) rfl dX11_back_13 ?_
    refine lv_aload_n hx hb dX11_back_16 rfl (lv_at hl 0 rfl) ?_
    refine va_get (D := (dC, dI)) (ci := 11) (v := .ref xim) (C := RX11) (T := TX11) (N := 13) hx hb htw inlX11 hown hK hP 0 rfl rfl 7 (by decide) (htw _ (ck_2 _ (List.mem_of_getElem? (i := 12) rfl))) (fun _ h9 => h9) rfl dX11_back_17 ?_
    obtain ⟨hPc, hDc, hFc, hCc⟩ := zsub3 (ws' := [(eO6a bno ns nsa nfa nza), (eA0 nsa cNs 12 fNs), (eA0 nfa cNf 96 fNf), (eA0 nza cNz 96 fNz), (eO6a xim is isa ifa iza), (eA0 isa cIs 12 fIs), (eA0 ifa cIf 96 fIf), (eA0 iza cIz 96 fIz)]) hP hD hS hA [13, 14, 15, 16, 4, 5, 6, 7] (by decide +kernel) rfl
    have hKc := hK.sub (tys' := [(cNs, .int), (cNf, .int), (cNz, .int), (cIs, .int), (cIf, .int), (cIz, .int)]) [7, 8, 9, 2, 3, 4] rfl
    refine va_callv (va_runV (As := [.ref xim]) (rest := []) ⟨hx, hb, hml, hown, htw⟩ (gn_copy l dC dI bno ns nsa nfa nza cNs fNs cNf fNf cNz fNz xim is isa ifa iza cIs fIs cIf fIf cIz fIz H.size) (cwV 1 htw (xg_V (ck_64 _ (List.mem_of_getElem? (i := 22) rfl)) (ck_64 _ (List.mem_of_getElem? (i := 23) rfl)) (ck_65 _ (List.mem_of_getElem? (i := 0) rfl)) (ck_2 _ (List.mem_of_getElem? (i := 11) rfl)) (ck_65 _ (List.mem_of_getElem? (i := 1) rfl))) rfl rfl rfl (by exact ⟨rfl, hdc_3.1, hdc_3.2, hdd_22⟩) ⟨Nat.le_of_ble_eq_true rfl, Nat.le_of_ble_eq_true rfl⟩) ⟨fun a U g mk q => by obtain ⟨q0, q1, qP, qK, qD⟩ := q; exact ⟨q0, q1, qP, va_K.moved (u := U) (U := U.calling g mk a) (Vm.Alike.refl U.vm) qK, qD⟩, va_recv hKc hPc (ci := 6) (q0 := 0) rfl rfl, fun U hU hW => ⟨rfl, by rw [hU], by rw [hU]; exact hPc, va_K.moved hW.alike hKc, hDc.weaken (fun _ _ _ _ => trivial)⟩⟩ rfl rfl hl.1 rfl (lv_room (Nat.le_of_ble_eq_true rfl)) dX11_back_20 ⟨Nat.le_of_ble_eq_true rfl, Nat.le_of_ble_eq_true rfl⟩) hS (fun q _ h => hFc q h) hFc (fun u_3 t H1 locs ht hvm hw hB hz1 hk1 hS => ?_)
    try dsimp only at hw
    obtain ⟨hP1, hK1, hD1⟩ := hB
    rw [ht] at hP1
    have hK1 := va_K.moved hvm.symm hK1
    have hK1 : va_K (dC, dI) vwCl [] s := hK1
    obtain ⟨hP, hD⟩ := va_join (wr := [(eO11a x pa bk xsp xdy le xst xsc xim xil xik xmo xom wi), (eO2a le lz lna lca), (eA0 lna cLn 20 fLn), (eA0 lca cLc 20 fLc), (eO2a xil iz ina ica), (eA0 ina cIn 20 fIn), (eA0 ica cIc 20 fIc), (eO5a xdy drw dfr dsh dto dmo dwi), (eO0a bk bto bnm bla bsk bru bbo bdi bda bdk bdt bdp bno)]) (w1 := [(eO6a bno u_3.1 nsa nfa nza), (eA0 nsa cNs 12 u_3.2.1), (eA0 nfa cNf 96 u_3.2.2.1), (eA0 nza cNz 96 u_3.2.2.2), (eO6a xim is isa ifa iza), (eA0 isa cIs 12 fIs), (eA0 ifa cIf 96 fIf), (eA0 iza cIz 96 fIz)]) hP hD [13, 14, 15, 16, 4, 5, 6, 7] [0, 1, 2, 3, 8, 9, 10, 11, 12] hCc rfl (by decide +kernel) (by decide +kernel) hk1 hFc hP1 hD1
    generalize H1 = H at hP hS ⊢
    obtain ⟨hP, hD⟩ := zre [(eO11a x pa bk xsp xdy le xst xsc xim xil xik xmo xom wi), (eO2a le lz lna lca), (eA0 lna cLn 20 fLn), (eA0 lca cLc 20 fLc), (eO2a xil iz ina ica), (eA0 ina cIn 20 fIn), (eA0 ica cIc 20 fIc), (eO5a xdy drw dfr dsh dto dmo dwi), (eO0a bk bto bnm bla bsk bru bbo bdi bda bdk bdt bdp bno), (eO6a bno u_3.1 nsa nfa nza), (eA0 nsa cNs 12 u_3.2.1), (eA0 nfa cNf 96 u_3.2.2.1), (eA0 nza cNz 96 u_3.2.2.2), (eO6a xim is isa ifa iza), (eA0 isa cIs 12 fIs), (eA0 ifa cIf 96 fIf), (eA0 iza cIz 96 fIz)] hP hD rfl
    refine W.widen (k := 0) (n := 0) (by omega) (by omega) ?_
    have hq_u_3 : u_3 = (fn_copy fNs fNf fNz is fIs fIf fIz) := hw
    refine lv_aload_n hx hb dX11_back_23 rfl (lv_at hl 0 rfl) ?_
    refine va_get (D := (dC, dI)) (ci := 11) (v := .ref le) (C := RX11) (T := TX11) (N := 13) hx hb htw inlX11 hown hK hP 0 rfl rfl 4 (by decide) (htw _ (ck_2 _ (List.mem_of_getElem? (i := 6) rfl))) (fun _ h9 => h9) rfl dX11_back_24 ?_
    refine lv_aload_n hx hb dX11_back_27 rfl (lv_at hl 0 rfl) ?_
    refine va_get (D := (dC, dI)) (ci := 11) (v := .ref xil) (C := RX11) (T := TX11) (N := 13) hx hb htw inlX11 hown hK hP 0 rfl rfl 8 (by decide) (htw _ (ck_2 _ (List.mem_of_getElem? (i := 13) rfl))) (fun _ h9 => h9) rfl dX11_back_28 ?_
    obtain ⟨hPc, hDc, hFc, hCc⟩ := zsub3 (ws' := [(eO2a le lz lna lca), (eA0 lna cLn 20 fLn), (eA0 lca cLc 20 fLc), (eO2a xil iz ina ica), (eA0 ina cIn 20 fIn), (eA0 ica cIc 20 fIc)]) hP hD hS hA [1, 2, 3, 4, 5, 6] (by decide) rfl
    have hKc := hK.sub (tys' := [(cLn, .int), (cLc, .int), (cIn, .int), (cIc, .int)]) [0, 1, 5, 6] rfl
    refine va_callv (va_runV (As := [.ref xil]) (rest := []) ⟨hx, hb, hml, hown, htw⟩ (gd_copy l dC dI le lz lna lca cLn fLn cLc fLc xil iz ina ica cIn fIn cIc fIc H.size) (cwV 1 htw (xg_V (ck_65 _ (List.mem_of_getElem? (i := 7) rfl)) (ck_65 _ (List.mem_of_getElem? (i := 8) rfl)) (ck_65 _ (List.mem_of_getElem? (i := 9) rfl)) (ck_2 _ (List.mem_of_getElem? (i := 5) rfl)) (ck_65 _ (List.mem_of_getElem? (i := 10) rfl))) rfl rfl rfl (by exact ⟨rfl, hdc_11.1, hdc_11.2, hdd_23⟩) ⟨Nat.le_of_ble_eq_true rfl, Nat.le_of_ble_eq_true rfl⟩) ⟨fun a U g mk q => by obtain ⟨q0, q1, qP, qK, qD⟩ := q; exact ⟨q0, q1, qP, va_K.moved (u := U) (U := U.calling g mk a) (Vm.Alike.refl U.vm) qK, qD⟩, va_recv hKc hPc (ci := 2) (q0 := 0) rfl rfl, fun U hU hW => ⟨rfl, by rw [hU], by rw [hU]; exact hPc, va_K.moved hW.alike hKc, hDc.weaken (fun _ _ _ _ => trivial)⟩⟩ rfl rfl hl.1 rfl (lv_room (Nat.le_of_ble_eq_true rfl)) dX11_back_31 ⟨Nat.le_of_ble_eq_true rfl, Nat.le_of_ble_eq_true rfl⟩) hS (fun q _ h => hFc q h) hFc (fun u_9 t H1 locs ht hvm hw hB hz1 hk1 hS => ?_)
    try dsimp only at hw
    obtain ⟨hP1, hK1, hD1⟩ := hB
    rw [ht] at hP1
    have hK1 := va_K.moved hvm.symm hK1
    have hK1 : va_K (dC, dI) vwCl [] s := hK1
    obtain ⟨hP, hD⟩ := va_join (wr := [(eO11a x pa bk xsp xdy le xst xsc xim xil xik xmo xom wi), (eO5a xdy drw dfr dsh dto dmo dwi), (eO0a bk bto bnm bla bsk bru bbo bdi bda bdk bdt bdp bno), (eO6a bno u_3.1 nsa nfa nza), (eA0 nsa cNs 12 u_3.2.1), (eA0 nfa cNf 96 u_3.2.2.1), (eA0 nza cNz 96 u_3.2.2.2), (eO6a xim is isa ifa iza), (eA0 isa cIs 12 fIs), (eA0 ifa cIf 96 fIf), (eA0 iza cIz 96 fIz)]) (w1 := [(eO2a le u_9.1 lna lca), (eA0 lna cLn 20 u_9.2.1), (eA0 lca cLc 20 u_9.2.2), (eO2a xil iz ina ica), (eA0 ina cIn 20 fIn), (eA0 ica cIc 20 fIc)]) hP hD [1, 2, 3, 4, 5, 6] [0, 7, 8, 9, 10, 11, 12, 13, 14, 15, 16] hCc rfl (by decide +kernel) (by decide +kernel) hk1 hFc hP1 hD1
    generalize H1 = H at hP hS ⊢
    obtain ⟨hP, hD⟩ := zre [(eO11a x pa bk xsp xdy le xst xsc xim xil xik xmo xom wi), (eO5a xdy drw dfr dsh dto dmo dwi), (eO0a bk bto bnm bla bsk bru bbo bdi bda bdk bdt bdp bno), (eO6a bno u_3.1 nsa nfa nza), (eA0 nsa cNs 12 u_3.2.1), (eA0 nfa cNf 96 u_3.2.2.1), (eA0 nza cNz 96 u_3.2.2.2), (eO6a xim is isa ifa iza), (eA0 isa cIs 12 fIs), (eA0 ifa cIf 96 fIf), (eA0 iza cIz 96 fIz), (eO2a le u_9.1 lna lca), (eA0 lna cLn 20 u_9.2.1), (eA0 lca cLc 20 u_9.2.2), (eO2a xil iz ina ica), (eA0 ina cIn 20 fIn), (eA0 ica cIc 20 fIc)] hP hD rfl
    refine W.widen (k := 0) (n := 0) (by omega) (by omega) ?_
    have hq_u_9 : u_9 = (fd_copy fLn fLc iz fIn fIc) := hw
    refine lv_aload_n hx hb dX11_back_34 rfl (lv_at hl 0 rfl) ?_
    refine va_get (D := (dC, dI)) (ci := 11) (v := .ref xdy) (C := RX11) (T := TX11) (N := 13) hx hb htw inlX11 hown hK hP 0 rfl rfl 3 (by decide) (htw _ (ck_2 _ (List.mem_of_getElem? (i := 2) rfl))) (fun _ h9 => h9) rfl dX11_back_35 ?_
    refine lv_iconst (v := 0) hx hb dX11_back_38 (by decide) ?_
    obtain ⟨hPc, hDc, hFc, hCc⟩ := zsub3 (ws' := [(eO5a xdy drw dfr dsh dto dmo dwi)]) hP hD hS hA [1] (by decide) rfl
    have hKc := hK.sub (tys' := []) [] rfl
    refine va_callv (va_runV (As := [.int 0]) (rest := []) ⟨hx, hb, hml, hown, htw⟩ (gd_stale l dC dI xdy drw dfr dsh dto dmo dwi (0 : Int32) H.size) (cwV 1 htw (xg_V (ck_24 _ (List.mem_of_getElem? (i := 0) rfl)) (ck_24 _ (List.mem_of_getElem? (i := 1) rfl)) (ck_24 _ (List.mem_of_getElem? (i := 2) rfl)) (ck_2 _ (List.mem_of_getElem? (i := 1) rfl)) (ck_24 _ (List.mem_of_getElem? (i := 3) rfl))) rfl rfl rfl (by exact ⟨rfl, hdc_10.1, hdc_10.2, hdd_9⟩) ⟨Nat.le_of_ble_eq_true rfl, Nat.le_of_ble_eq_true rfl⟩) ⟨fun a U g mk q => by obtain ⟨q0, q1, qP, qK, qD⟩ := q; exact ⟨q0, q1, qP, va_K.moved (u := U) (U := U.calling g mk a) (Vm.Alike.refl U.vm) qK, qD⟩, va_recv hKc hPc (ci := 5) (q0 := 0) rfl rfl, fun U hU hW => ⟨rfl, by rw [hU], by rw [hU]; exact hPc, va_K.moved hW.alike hKc, hDc.weaken (fun _ _ _ _ => trivial)⟩⟩ rfl rfl hl.1 rfl (lv_room (Nat.le_of_ble_eq_true rfl)) dX11_back_39 ⟨Nat.le_of_ble_eq_true rfl, Nat.le_of_ble_eq_true rfl⟩) hS (fun q _ h => hFc q h) hFc (fun u_14 t H1 locs ht hvm hw hB hz1 hk1 hS => ?_)
    try dsimp only at hw
    obtain ⟨hP1, hK1, hD1⟩ := hB
    rw [ht] at hP1
    have hK1 := va_K.moved hvm.symm hK1
    have hK1 : va_K (dC, dI) vwCl [] s := hK1
    obtain ⟨hP, hD⟩ := va_join (wr := [(eO11a x pa bk xsp xdy le xst xsc xim xil xik xmo xom wi), (eO0a bk bto bnm bla bsk bru bbo bdi bda bdk bdt bdp bno), (eO6a bno u_3.1 nsa nfa nza), (eA0 nsa cNs 12 u_3.2.1), (eA0 nfa cNf 96 u_3.2.2.1), (eA0 nza cNz 96 u_3.2.2.2), (eO6a xim is isa ifa iza), (eA0 isa cIs 12 fIs), (eA0 ifa cIf 96 fIf), (eA0 iza cIz 96 fIz), (eO2a le u_9.1 lna lca), (eA0 lna cLn 20 u_9.2.1), (eA0 lca cLc 20 u_9.2.2), (eO2a xil iz ina ica), (eA0 ina cIn 20 fIn), (eA0 ica cIc 20 fIc)]) (w1 := [(eO5a xdy drw u_14 dsh dto dmo dwi)]) hP hD [1] [0, 2, 3, 4, 5, 6, 7, 8, 9, 10, 11, 12, 13, 14, 15, 16] hCc rfl (by decide +kernel) (by decide +kernel) hk1 hFc hP1 hD1
    generalize H1 = H at hP hS ⊢
    obtain ⟨hP, hD⟩ := zre [(eO11a x pa bk xsp xdy le xst xsc xim xil xik xmo xom wi), (eO0a bk bto bnm bla bsk bru bbo bdi bda bdk bdt bdp bno), (eO6a bno u_3.1 nsa nfa nza), (eA0 nsa cNs 12 u_3.2.1), (eA0 nfa cNf 96 u_3.2.2.1), (eA0 nza cNz 96 u_3.2.2.2), (eO6a xim is isa ifa iza), (eA0 isa cIs 12 fIs), (eA0 ifa cIf 96 fIf), (eA0 iza cIz 96 fIz), (eO2a le u_9.1 lna lca), (eA0 lna cLn 20 u_9.2.1), (eA0 lca cLc 20 u_9.2.2), (eO2a xil iz ina ica), (eA0 ina cIn 20 fIn), (eA0 ica cIc 20 fIc), (eO5a xdy drw u_14 dsh dto dmo dwi)] hP hD rfl
    refine W.widen (k := 0) (n := 0) (by omega) (by omega) ?_
    have hq_u_14 : u_14 = (fd_stale dfr (0 : Int32)) := hw
    refine lv_aload_n hx hb dX11_back_42 rfl (lv_at hl 0 rfl) ?_
    refine lv_iconst (v := 0) hx hb dX11_back_43 (by decide) ?_
    refine va_put (D := (dC, dI)) (ci := 11) (v := .int 0) (ty := tyX11 6) (C := RX11) (T := TX11) (N := 13) hx hb htw inlX11 tyX11 tyX11_ok nmX11 hown hK hP hD hS 0 rfl rfl 6 (by decide) (htw _ (ck_12 _ (List.mem_of_getElem? (i := 22) rfl))) (fun _ h9 => h9) rfl (tyX11_ok 6 (by decide)) rfl rfl (Nat.le_of_ble_eq_true rfl) dX11_back_44 (fun H locs hP hD hS => ?_)
    obtain ⟨hP, hD⟩ := zre [(eO11a x pa bk xsp xdy le xst 0 xim xil xik xmo xom wi), (eO0a bk bto bnm bla bsk bru bbo bdi bda bdk bdt bdp bno), (eO6a bno u_3.1 nsa nfa nza), (eA0 nsa cNs 12 u_3.2.1), (eA0 nfa cNf 96 u_3.2.2.1), (eA0 nza cNz 96 u_3.2.2.2), (eO6a xim is isa ifa iza), (eA0 isa cIs 12 fIs), (eA0 ifa cIf 96 fIf), (eA0 iza cIz 96 fIz), (eO2a le u_9.1 lna lca), (eA0 lna cLn 20 u_9.2.1), (eA0 lca cLc 20 u_9.2.2), (eO2a xil iz ina ica), (eA0 ina cIn 20 fIn), (eA0 ica cIc 20 fIc), (eO5a xdy drw u_14 dsh dto dmo dwi)] hP hD rfl
    refine lv_aload_n hx hb dX11_back_47 rfl (lv_at hl 0 rfl) ?_
    refine va_get (D := (dC, dI)) (ci := 11) (v := .ref xim) (C := RX11) (T := TX11) (N := 13) hx hb htw inlX11 hown hK hP 0 rfl rfl 7 (by decide) (htw _ (ck_2 _ (List.mem_of_getElem? (i := 12) rfl))) (fun _ h9 => h9) rfl dX11_back_48 ?_
    refine va_get (D := (dC, dI)) (ci := 6) (v := .int is) (C := RX6) (T := TX6) (N := 4) hx hb htw inlX6 hown hK hP 6 rfl rfl 0 (by decide) (htw _ (ck_52 _ (List.mem_of_getElem? (i := 8) rfl))) (fun _ h9 => h9) rfl dX11_back_51 ?_
    refine W.widen (k := 0) (n := 0) (by omega) (by omega) ?_
    obtain ⟨hP9, hD9⟩ := zsub2 (ws' := [(eO11a x pa bk xsp xdy le xst 0 xim xil xik xmo xom wi), (eO2a le u_9.1 lna lca), (eA0 lna cLn 20 u_9.2.1), (eA0 lca cLc 20 u_9.2.2), (eO6a xim is isa ifa iza), (eA0 isa cIs 12 fIs), (eA0 ifa cIf 96 fIf), (eA0 iza cIz 96 fIz), (eO2a xil iz ina ica), (eA0 ina cIn 20 fIn), (eA0 ica cIc 20 fIc), (eO5a xdy drw u_14 dsh dto dmo dwi), (eO0a bk bto bnm bla bsk bru bbo bdi bda bdk bdt bdp bno), (eO6a bno u_3.1 nsa nfa nza), (eA0 nsa cNs 12 u_3.2.1), (eA0 nfa cNf 96 u_3.2.2.1), (eA0 nza cNz 96 u_3.2.2.2)]) hP hD [0, 10, 11, 12, 6, 7, 8, 9, 13, 14, 15, 16, 1, 2, 3, 4, 5] (by decide +kernel) rfl
    have hK9 := hK.sub (tys' := []) [] rfl
    exact W.iret (v := is) hx hb hr (fun t ht hW => ⟨⟨is, (0, u_3.1, u_3.2.1, u_3.2.2.1, u_3.2.2.2, u_9.1, u_9.2.1, u_9.2.2, u_14), rfl, ((fun e9 => ⟨by rw [e9], by rw [e9]⟩ : fx_back xsc xik lz fLn fLc is fIs fIf fIz iz fIn fIc dfr ns fNs fNf fNz = (is, (0 : Int32), u_3.1, u_3.2.1, u_3.2.2.1, u_3.2.2.2, u_9.1, u_9.2.1, u_9.2.2, u_14) → _) ((by rw [fx_back]; (try rw [if_neg c_1]); (try rw [← hq_u_3]); (try rw [xL_eq]); (try rw [← hq_u_9]); (try rw [xL_eq]); (try rw [← hq_u_14]); (try rw [xL_eq]); try rfl))), by rw [ht]; exact hP9, va_K.moved hW.alike hK9, hD9⟩, hS.F ht⟩) hS.2.2 dX11_back_54
  · refine lv_iconst (v := (-1)) hx hb dX11_back_7 (by decide) ?_
    refine W.widen (k := 0) (n := 0) (by omega) (by omega) ?_
    obtain ⟨hP9, hD9⟩ := zsub2 (ws' := [(eO11a x pa bk xsp xdy le xst xsc xim xil xik xmo xom wi), (eO2a le lz lna lca), (eA0 lna cLn 20 fLn), (eA0 lca cLc 20 fLc), (eO6a xim is isa ifa iza), (eA0 isa cIs 12 fIs), (eA0 ifa cIf 96 fIf), (eA0 iza cIz 96 fIz), (eO2a xil iz ina ica), (eA0 ina cIn 20 fIn), (eA0 ica cIc 20 fIc), (eO5a xdy drw dfr dsh dto dmo dwi), (eO0a bk bto bnm bla bsk bru bbo bdi bda bdk bdt bdp bno), (eO6a bno ns nsa nfa nza), (eA0 nsa cNs 12 fNs), (eA0 nfa cNf 96 fNf), (eA0 nza cNz 96 fNz)]) hP hD [0, 1, 2, 3, 4, 5, 6, 7, 8, 9, 10, 11, 12, 13, 14, 15, 16] (by decide +kernel) rfl
    have hK9 := hK.sub (tys' := []) [] rfl
    exact W.iret (v := (-1)) hx hb hr (fun t ht hW => ⟨⟨(-1), (xsc, ns, fNs, fNf, fNz, lz, fLn, fLc, dfr), rfl, ((fun e9 => ⟨by rw [e9], by rw [e9]⟩ : fx_back xsc xik lz fLn fLc is fIs fIf fIz iz fIn fIc dfr ns fNs fNf fNz = ((-1 : Int32), xsc, ns, fNs, fNf, fNz, lz, fLn, fLc, dfr) → _) ((by rw [fx_back]; (try rw [if_pos c_1]); try rfl))), by rw [ht]; exact hP9, va_K.moved hW.alike hK9, hD9⟩, hS.F ht⟩) hS.2.2 dX11_back_8

def fx_size (xsc : Int32) (lz : Int32) (fTo : Nat → Int32) (wd : Int32) (rkn : Int32) (ns : Int32) (a0 : Int32) : Int32 := (if a0 = 0 then fTo ((0 : Int32).toNatClampNeg) else (if a0 = 1 then fTo ((1 : Int32).toNatClampNeg) else (if a0 = 2 then fTo ((2 : Int32).toNatClampNeg) else (if a0 = 3 then fTo ((3 : Int32).toNatClampNeg) else (if a0 = 4 then ns else (if a0 = 5 then rkn else (if a0 = 6 then wd else (if a0 = 7 then lz else (if a0 = 8 then xsc else (-1 : Int32))))))))))
theorem dX11_size_0 : decode cX11_size 0 = .ok (.iload_n 1, 1) := zk_27 (by decide +kernel)
theorem dX11_size_1 : decode cX11_size 1 = .ok (.tableswitch 107 0 8 #[51, 51, 51, 51, 61, 72, 83, 94, 102], 51) := by decide +kernel
theorem dX11_size_52 : decode cX11_size 52 = .ok (.aload_n 0, 1) := zk_42 (by decide +kernel)
theorem dX11_size_53 : decode cX11_size 53 = .ok (.getfield 19, 3) := zk_180 (by decide +kernel)
theorem dX11_size_56 : decode cX11_size 56 = .ok (.getfield 363, 3) := zk_180 (by decide +kernel)
theorem dX11_size_59 : decode cX11_size 59 = .ok (.iload_n 1, 1) := zk_27 (by decide +kernel)
theorem dX11_size_60 : decode cX11_size 60 = .ok (.iaload, 1) := zk_46 (by decide +kernel)
theorem dX11_size_61 : decode cX11_size 61 = .ok (.ireturn, 1) := zk_172 (by decide +kernel)
theorem dX11_size_62 : decode cX11_size 62 = .ok (.aload_n 0, 1) := zk_42 (by decide +kernel)
theorem dX11_size_63 : decode cX11_size 63 = .ok (.getfield 19, 3) := zk_180 (by decide +kernel)
theorem dX11_size_66 : decode cX11_size 66 = .ok (.getfield 290, 3) := zk_180 (by decide +kernel)
theorem dX11_size_69 : decode cX11_size 69 = .ok (.getfield 293, 3) := zk_180 (by decide +kernel)
theorem dX11_size_72 : decode cX11_size 72 = .ok (.ireturn, 1) := zk_172 (by decide +kernel)
theorem dX11_size_73 : decode cX11_size 73 = .ok (.aload_n 0, 1) := zk_42 (by decide +kernel)
theorem dX11_size_74 : decode cX11_size 74 = .ok (.getfield 19, 3) := zk_180 (by decide +kernel)
theorem dX11_size_77 : decode cX11_size 77 = .ok (.getfield 186, 3) := zk_180 (by decide +kernel)
theorem dX11_size_80 : decode cX11_size 80 = .ok (.getfield 366, 3) := zk_180 (by decide +kernel)
theorem dX11_size_83 : decode cX11_size 83 = .ok (.ireturn, 1) := zk_172 (by decide +kernel)
theorem dX11_size_84 : decode cX11_size 84 = .ok (.aload_n 0, 1) := zk_42 (by decide +kernel)
theorem dX11_size_85 : decode cX11_size 85 = .ok (.getfield 19, 3) := zk_180 (by decide +kernel)
theorem dX11_size_88 : decode cX11_size 88 = .ok (.getfield 162, 3) := zk_180 (by decide +kernel)
theorem dX11_size_91 : decode cX11_size 91 = .ok (.getfield 250, 3) := zk_180 (by decide +kernel)
theorem dX11_size_94 : decode cX11_size 94 = .ok (.ireturn, 1) := zk_172 (by decide +kernel)
theorem dX11_size_95 : decode cX11_size 95 = .ok (.aload_n 0, 1) := zk_42 (by decide +kernel)
theorem dX11_size_96 : decode cX11_size 96 = .ok (.getfield 36, 3) := zk_180 (by decide +kernel)
theorem dX11_size_99 : decode cX11_size 99 = .ok (.getfield 95, 3) := zk_180 (by decide +kernel)
theorem dX11_size_102 : decode cX11_size 102 = .ok (.ireturn, 1) := zk_172 (by decide +kernel)
theorem dX11_size_103 : decode cX11_size 103 = .ok (.aload_n 0, 1) := zk_42 (by decide +kernel)
theorem dX11_size_104 : decode cX11_size 104 = .ok (.getfield 92, 3) := zk_180 (by decide +kernel)
theorem dX11_size_107 : decode cX11_size 107 = .ok (.ireturn, 1) := zk_172 (by decide +kernel)
theorem dX11_size_108 : decode cX11_size 108 = .ok (.iconst (-1), 1) := zk_2 (by decide +kernel)
theorem dX11_size_109 : decode cX11_size 109 = .ok (.ireturn, 1) := zk_172 (by decide +kernel)
set_option maxHeartbeats 4000000 in
set_option maxRecDepth 100000 in
theorem gx_size (l : Launch) (dC : Nat → ClassId) (dI : Nat → Nat → Nat) (x : Nat) (pa : Nat) (bk : Nat) (xsp : Nat) (xdy : Nat) (le : Nat) (xst : Nat) (xsc : Int32) (xim : Nat) (xil : Nat) (xik : Int32) (xmo : Nat) (xom : Nat) (wi : Nat) (lz : Int32) (lna : Nat) (lca : Nat) (bto : Nat) (bnm : Nat) (bla : Nat) (bsk : Nat) (bru : Nat) (bbo : Nat) (bdi : Nat) (bda : Nat) (bdk : Nat) (bdt : Nat) (bdp : Nat) (bno : Nat) (cTo : ClassId) (fTo : Nat → Int32) (wd : Int32) (wf : Int32) (mp : Int32) (mb : Int32) (mo : Int32) (sp : Int32) (sb : Int32) (rco : Nat) (rsz : Int32) (ren : Nat) (rst : Nat) (rkn : Int32) (ns : Int32) (nsa : Nat) (nfa : Nat) (nza : Nat) (a0 : Int32) : Met l yX11_size (Cond.code yX11_size cX11_size 2 (some .int) :: wsL_law) ({ frames := 0, cells := 0, slots := 0, locals := 0 }) (va_Pc [.ref x, .int a0] (fun U => va_P (dC, dI) vwCl [(eO11a x pa bk xsp xdy le xst xsc xim xil xik xmo xom wi), (eO2a le lz lna lca), (eO0a bk bto bnm bla bsk bru bbo bdi bda bdk bdt bdp bno), (eA0 bto cTo 5 fTo), (eO9a bsk wd wf mp mb mo sp sb), (eO8a bru rco rsz ren rst rkn), (eO6a bno ns nsa nfa nza)] U.heap ∧ va_K (dC, dI) vwCl [(cTo, .int)] U)) (vp_Si (fun r => r = fx_size xsc lz fTo wd rkn ns a0)) 0 0 (fun _ => False) := by
  refine Met.ofW (cc := cX11_size) (maxL := 2) (ret := (some .int)) (by decide) rfl ?_
  intro p e s m args below meth c s₁ B hml hv
  obtain ⟨rfl, hP, hK⟩ := hv
  have hx := B.exec
  have hb := B.bytes
  have hr := B.returns
  have hts := atoms_spec (ws := Cond.code yX11_size cX11_size 2 (some .int) :: wsL_law) B.pre
  have htw : ∀ w ∈ wsL_law, w.before _ s = true := fun w h => hts w (List.mem_cons_of_mem _ h)
  have hown : s.vm.findClass RX11 = some m.cls := findClass_of_methodNamed B.named
  have hlocks := B.notSynchronized
  have hl := lv_entry ([.ref x, .int a0]) (n := 2) (Nat.le_of_ble_eq_true rfl)
  rw [lg_entry_eq]
  generalize (lg_sl ([.ref x, .int a0]) ++ List.replicate (2 - (lg_sl ([.ref x, .int a0])).length) Slot.unset).toArray = ls at hl ⊢
  have hl : lv_has ls 2 [(0, .ref x), (1, .int a0)] := hl
  refine lv_iload_n hx hb dX11_size_0 rfl (lv_at hl 1 rfl) ?_
  by_cases h_1 : a0 = 0
  · subst h_1
    refine lv_tableIn (off := 51) (tgt := 52) hx hb dX11_size_1 (by decide) (by decide) (by decide) (by decide) ?_
    refine lv_aload_n hx hb dX11_size_52 rfl (lv_at hl 0 rfl) ?_
    refine va_get (D := (dC, dI)) (ci := 11) (v := .ref bk) (C := RX11) (T := TX11) (N := 13) hx hb htw inlX11 hown hK hP 0 rfl rfl 1 (by decide) (htw _ (ck_1 _ (List.mem_of_getElem? (i := 21) rfl))) (fun _ h9 => h9) rfl dX11_size_53 ?_
    refine va_get (D := (dC, dI)) (ci := 0) (v := .ref bto) (C := RX0) (T := TX0) (N := 12) hx hb htw inlX0 hown hK hP 2 rfl rfl 0 (by decide) (htw _ (ck_66 _ (List.mem_of_getElem? (i := 6) rfl))) (fun _ h9 => h9) rfl dX11_size_56 ?_
    refine lv_iload_n hx hb dX11_size_59 rfl (lv_at hl 1 rfl) ?_
    refine va_iald hx hb hK hP 3 0 rfl rfl (by unfold vp_in; decide) dX11_size_60 ?_
    exact W.iret (v := fTo ((0 : Int32).toNatClampNeg)) hx hb hr (fun t ht hW => ⟨fTo ((0 : Int32).toNatClampNeg), rfl, (Eq.symm ((by rw [fx_size]; (try rw [if_pos rfl]); try rfl))), ht⟩) (fun _ h => by cases h) dX11_size_61
  by_cases h_2 : a0 = 1
  · subst h_2
    refine lv_tableIn (off := 51) (tgt := 52) hx hb dX11_size_1 (by decide) (by decide) (by decide) (by decide) ?_
    refine lv_aload_n hx hb dX11_size_52 rfl (lv_at hl 0 rfl) ?_
    refine va_get (D := (dC, dI)) (ci := 11) (v := .ref bk) (C := RX11) (T := TX11) (N := 13) hx hb htw inlX11 hown hK hP 0 rfl rfl 1 (by decide) (htw _ (ck_1 _ (List.mem_of_getElem? (i := 21) rfl))) (fun _ h9 => h9) rfl dX11_size_53 ?_
    refine va_get (D := (dC, dI)) (ci := 0) (v := .ref bto) (C := RX0) (T := TX0) (N := 12) hx hb htw inlX0 hown hK hP 2 rfl rfl 0 (by decide) (htw _ (ck_66 _ (List.mem_of_getElem? (i := 6) rfl))) (fun _ h9 => h9) rfl dX11_size_56 ?_
    refine lv_iload_n hx hb dX11_size_59 rfl (lv_at hl 1 rfl) ?_
    refine va_iald hx hb hK hP 3 0 rfl rfl (by unfold vp_in; decide) dX11_size_60 ?_
    exact W.iret (v := fTo ((1 : Int32).toNatClampNeg)) hx hb hr (fun t ht hW => ⟨fTo ((1 : Int32).toNatClampNeg), rfl, (Eq.symm ((by rw [fx_size]; (try rw [if_neg h_1]); (try rw [if_pos rfl]); try rfl))), ht⟩) (fun _ h => by cases h) dX11_size_61
  by_cases h_3 : a0 = 2
  · subst h_3
    refine lv_tableIn (off := 51) (tgt := 52) hx hb dX11_size_1 (by decide) (by decide) (by decide) (by decide) ?_
    refine lv_aload_n hx hb dX11_size_52 rfl (lv_at hl 0 rfl) ?_
    refine va_get (D := (dC, dI)) (ci := 11) (v := .ref bk) (C := RX11) (T := TX11) (N := 13) hx hb htw inlX11 hown hK hP 0 rfl rfl 1 (by decide) (htw _ (ck_1 _ (List.mem_of_getElem? (i := 21) rfl))) (fun _ h9 => h9) rfl dX11_size_53 ?_
    refine va_get (D := (dC, dI)) (ci := 0) (v := .ref bto) (C := RX0) (T := TX0) (N := 12) hx hb htw inlX0 hown hK hP 2 rfl rfl 0 (by decide) (htw _ (ck_66 _ (List.mem_of_getElem? (i := 6) rfl))) (fun _ h9 => h9) rfl dX11_size_56 ?_
    refine lv_iload_n hx hb dX11_size_59 rfl (lv_at hl 1 rfl) ?_
    refine va_iald hx hb hK hP 3 0 rfl rfl (by unfold vp_in; decide) dX11_size_60 ?_
    exact W.iret (v := fTo ((2 : Int32).toNatClampNeg)) hx hb hr (fun t ht hW => ⟨fTo ((2 : Int32).toNatClampNeg), rfl, (Eq.symm ((by rw [fx_size]; (try rw [if_neg h_1]); (try rw [if_neg h_2]); (try rw [if_pos rfl]); try rfl))), ht⟩) (fun _ h => by cases h) dX11_size_61
  by_cases h_4 : a0 = 3
  · subst h_4
    refine lv_tableIn (off := 51) (tgt := 52) hx hb dX11_size_1 (by decide) (by decide) (by decide) (by decide) ?_
    refine lv_aload_n hx hb dX11_size_52 rfl (lv_at hl 0 rfl) ?_
    refine va_get (D := (dC, dI)) (ci := 11) (v := .ref bk) (C := RX11) (T := TX11) (N := 13) hx hb htw inlX11 hown hK hP 0 rfl rfl 1 (by decide) (htw _ (ck_1 _ (List.mem_of_getElem? (i := 21) rfl))) (fun _ h9 => h9) rfl dX11_size_53 ?_
    refine va_get (D := (dC, dI)) (ci := 0) (v := .ref bto) (C := RX0) (T := TX0) (N := 12) hx hb htw inlX0 hown hK hP 2 rfl rfl 0 (by decide) (htw _ (ck_66 _ (List.mem_of_getElem? (i := 6) rfl))) (fun _ h9 => h9) rfl dX11_size_56 ?_
    refine lv_iload_n hx hb dX11_size_59 rfl (lv_at hl 1 rfl) ?_
    refine va_iald hx hb hK hP 3 0 rfl rfl (by unfold vp_in; decide) dX11_size_60 ?_
    exact W.iret (v := fTo ((3 : Int32).toNatClampNeg)) hx hb hr (fun t ht hW => ⟨fTo ((3 : Int32).toNatClampNeg), rfl, (Eq.symm ((by rw [fx_size]; (try rw [if_neg h_1]); (try rw [if_neg h_2]); (try rw [if_neg h_3]); (try rw [if_pos rfl]); try rfl))), ht⟩) (fun _ h => by cases h) dX11_size_61
  by_cases h_5 : a0 = 4
  · subst h_5
    refine lv_tableIn (off := 61) (tgt := 62) hx hb dX11_size_1 (by decide) (by decide) (by decide) (by decide) ?_
    refine lv_aload_n hx hb dX11_size_62 rfl (lv_at hl 0 rfl) ?_
    refine va_get (D := (dC, dI)) (ci := 11) (v := .ref bk) (C := RX11) (T := TX11) (N := 13) hx hb htw inlX11 hown hK hP 0 rfl rfl 1 (by decide) (htw _ (ck_1 _ (List.mem_of_getElem? (i := 21) rfl))) (fun _ h9 => h9) rfl dX11_size_63 ?_
    refine va_get (D := (dC, dI)) (ci := 0) (v := .ref bno) (C := RX0) (T := TX0) (N := 12) hx hb htw inlX0 hown hK hP 2 rfl rfl 11 (by decide) (htw _ (ck_52 _ (List.mem_of_getElem? (i := 7) rfl))) (fun _ h9 => h9) rfl dX11_size_66 ?_
    refine va_get (D := (dC, dI)) (ci := 6) (v := .int ns) (C := RX6) (T := TX6) (N := 4) hx hb htw inlX6 hown hK hP 6 rfl rfl 0 (by decide) (htw _ (ck_52 _ (List.mem_of_getElem? (i := 8) rfl))) (fun _ h9 => h9) rfl dX11_size_69 ?_
    exact W.iret (v := ns) hx hb hr (fun t ht hW => ⟨ns, rfl, (Eq.symm ((by rw [fx_size]; (try rw [if_neg h_1]); (try rw [if_neg h_2]); (try rw [if_neg h_3]); (try rw [if_neg h_4]); (try rw [if_pos rfl]); try rfl))), ht⟩) (fun _ h => by cases h) dX11_size_72
  by_cases h_6 : a0 = 5
  · subst h_6
    refine lv_tableIn (off := 72) (tgt := 73) hx hb dX11_size_1 (by decide) (by decide) (by decide) (by decide) ?_
    refine lv_aload_n hx hb dX11_size_73 rfl (lv_at hl 0 rfl) ?_
    refine va_get (D := (dC, dI)) (ci := 11) (v := .ref bk) (C := RX11) (T := TX11) (N := 13) hx hb htw inlX11 hown hK hP 0 rfl rfl 1 (by decide) (htw _ (ck_1 _ (List.mem_of_getElem? (i := 21) rfl))) (fun _ h9 => h9) rfl dX11_size_74 ?_
    refine va_get (D := (dC, dI)) (ci := 0) (v := .ref bru) (C := RX0) (T := TX0) (N := 12) hx hb htw inlX0 hown hK hP 2 rfl rfl 4 (by decide) (htw _ (ck_38 _ (List.mem_of_getElem? (i := 14) rfl))) (fun _ h9 => h9) rfl dX11_size_77 ?_
    refine va_get (D := (dC, dI)) (ci := 8) (v := .int rkn) (C := RX8) (T := TX8) (N := 5) hx hb htw inlX8 hown hK hP 5 rfl rfl 4 (by decide) (htw _ (ck_66 _ (List.mem_of_getElem? (i := 7) rfl))) (fun _ h9 => h9) rfl dX11_size_80 ?_
    exact W.iret (v := rkn) hx hb hr (fun t ht hW => ⟨rkn, rfl, (Eq.symm ((by rw [fx_size]; (try rw [if_neg h_1]); (try rw [if_neg h_2]); (try rw [if_neg h_3]); (try rw [if_neg h_4]); (try rw [if_neg h_5]); (try rw [if_pos rfl]); try rfl))), ht⟩) (fun _ h => by cases h) dX11_size_83
  by_cases h_7 : a0 = 6
  · subst h_7
    refine lv_tableIn (off := 83) (tgt := 84) hx hb dX11_size_1 (by decide) (by decide) (by decide) (by decide) ?_
    refine lv_aload_n hx hb dX11_size_84 rfl (lv_at hl 0 rfl) ?_
    refine va_get (D := (dC, dI)) (ci := 11) (v := .ref bk) (C := RX11) (T := TX11) (N := 13) hx hb htw inlX11 hown hK hP 0 rfl rfl 1 (by decide) (htw _ (ck_1 _ (List.mem_of_getElem? (i := 21) rfl))) (fun _ h9 => h9) rfl dX11_size_85 ?_
    refine va_get (D := (dC, dI)) (ci := 0) (v := .ref bsk) (C := RX0) (T := TX0) (N := 12) hx hb htw inlX0 hown hK hP 2 rfl rfl 3 (by decide) (htw _ (ck_37 _ (List.mem_of_getElem? (i := 9) rfl))) (fun _ h9 => h9) rfl dX11_size_88 ?_
    refine va_get (D := (dC, dI)) (ci := 9) (v := .int wd) (C := RX9) (T := TX9) (N := 7) hx hb htw inlX9 hown hK hP 4 rfl rfl 0 (by decide) (htw _ (ck_48 _ (List.mem_of_getElem? (i := 9) rfl))) (fun _ h9 => h9) rfl dX11_size_91 ?_
    exact W.iret (v := wd) hx hb hr (fun t ht hW => ⟨wd, rfl, (Eq.symm ((by rw [fx_size]; (try rw [if_neg h_1]); (try rw [if_neg h_2]); (try rw [if_neg h_3]); (try rw [if_neg h_4]); (try rw [if_neg h_5]); (try rw [if_neg h_6]); (try rw [if_pos rfl]); try rfl))), ht⟩) (fun _ h => by cases h) dX11_size_94
  by_cases h_8 : a0 = 7
  · subst h_8
    refine lv_tableIn (off := 94) (tgt := 95) hx hb dX11_size_1 (by decide) (by decide) (by decide) (by decide) ?_
    refine lv_aload_n hx hb dX11_size_95 rfl (lv_at hl 0 rfl) ?_
    refine va_get (D := (dC, dI)) (ci := 11) (v := .ref le) (C := RX11) (T := TX11) (N := 13) hx hb htw inlX11 hown hK hP 0 rfl rfl 4 (by decide) (htw _ (ck_2 _ (List.mem_of_getElem? (i := 6) rfl))) (fun _ h9 => h9) rfl dX11_size_96 ?_
    refine va_get (D := (dC, dI)) (ci := 2) (v := .int lz) (C := RX2) (T := TX2) (N := 3) hx hb htw inlX2 hown hK hP 1 rfl rfl 0 (by decide) (htw _ (ck_12 _ (List.mem_of_getElem? (i := 23) rfl))) (fun _ h9 => h9) rfl dX11_size_99 ?_
    exact W.iret (v := lz) hx hb hr (fun t ht hW => ⟨lz, rfl, (Eq.symm ((by rw [fx_size]; (try rw [if_neg h_1]); (try rw [if_neg h_2]); (try rw [if_neg h_3]); (try rw [if_neg h_4]); (try rw [if_neg h_5]); (try rw [if_neg h_6]); (try rw [if_neg h_7]); (try rw [if_pos rfl]); try rfl))), ht⟩) (fun _ h => by cases h) dX11_size_102
  by_cases h_9 : a0 = 8
  · subst h_9
    refine lv_tableIn (off := 102) (tgt := 103) hx hb dX11_size_1 (by decide) (by decide) (by decide) (by decide) ?_
    refine lv_aload_n hx hb dX11_size_103 rfl (lv_at hl 0 rfl) ?_
    refine va_get (D := (dC, dI)) (ci := 11) (v := .int xsc) (C := RX11) (T := TX11) (N := 13) hx hb htw inlX11 hown hK hP 0 rfl rfl 6 (by decide) (htw _ (ck_12 _ (List.mem_of_getElem? (i := 22) rfl))) (fun _ h9 => h9) rfl dX11_size_104 ?_
    exact W.iret (v := xsc) hx hb hr (fun t ht hW => ⟨xsc, rfl, (Eq.symm ((by rw [fx_size]; (try rw [if_neg h_1]); (try rw [if_neg h_2]); (try rw [if_neg h_3]); (try rw [if_neg h_4]); (try rw [if_neg h_5]); (try rw [if_neg h_6]); (try rw [if_neg h_7]); (try rw [if_neg h_8]); (try rw [if_pos rfl]); try rfl))), ht⟩) (fun _ h => by cases h) dX11_size_107
  refine lv_tableOut (tgt := 108) hx hb dX11_size_1 (by have a0 := xg_ne h_1; have a1 := xg_ne h_2; have a2 := xg_ne h_3; have a3 := xg_ne h_4; have a4 := xg_ne h_5; have a5 := xg_ne h_6; have a6 := xg_ne h_7; have a7 := xg_ne h_8; have a8 := xg_ne h_9; have b0 : (0 : Int32).toInt = 0 := rfl; have b1 : (1 : Int32).toInt = 1 := rfl; have b2 : (2 : Int32).toInt = 2 := rfl; have b3 : (3 : Int32).toInt = 3 := rfl; have b4 : (4 : Int32).toInt = 4 := rfl; have b5 : (5 : Int32).toInt = 5 := rfl; have b6 : (6 : Int32).toInt = 6 := rfl; have b7 : (7 : Int32).toInt = 7 := rfl; have b8 : (8 : Int32).toInt = 8 := rfl; omega) (by decide) ?_
  refine lv_iconst (v := (-1)) hx hb dX11_size_108 (by decide) ?_
  exact W.iret (v := (-1)) hx hb hr (fun t ht hW => ⟨(-1), rfl, (Eq.symm ((by rw [fx_size]; (try rw [if_neg h_1]); (try rw [if_neg h_2]); (try rw [if_neg h_3]); (try rw [if_neg h_4]); (try rw [if_neg h_5]); (try rw [if_neg h_6]); (try rw [if_neg h_7]); (try rw [if_neg h_8]); (try rw [if_neg h_9]); try rfl))), ht⟩) (fun _ h => by cases h) dX11_size_109
