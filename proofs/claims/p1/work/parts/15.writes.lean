theorem dX11_forget_0 : decode cX11_forget 0 = .ok (.aload_n 0, 1) := by decide +kernel
theorem dX11_forget_1 : decode cX11_forget 1 = .ok (.getfield 36, 3) := by decide +kernel
theorem dX11_forget_4 : decode cX11_forget 4 = .ok (.getfield 95, 3) := by decide +kernel
theorem dX11_forget_7 : decode cX11_forget 7 = .ok (.istore_n 1, 1) := by decide +kernel
theorem dX11_forget_8 : decode cX11_forget 8 = .ok (.aload_n 0, 1) := by decide +kernel
theorem dX11_forget_9 : decode cX11_forget 9 = .ok (.getfield 36, 3) := by decide +kernel
theorem dX11_forget_12 : decode cX11_forget 12 = .ok (.iconst 0, 1) := by decide +kernel
theorem dX11_forget_13 : decode cX11_forget 13 = .ok (.putfield 95, 3) := by decide +kernel
theorem dX11_forget_16 : decode cX11_forget 16 = .ok (.iload_n 1, 1) := by decide +kernel
theorem dX11_forget_17 : decode cX11_forget 17 = .ok (.ireturn, 1) := by decide +kernel
set_option maxHeartbeats 4000000 in
set_option maxRecDepth 100000 in
theorem mx_forget (l : Launch) (dC : Nat → ClassId) (dI : Nat → Nat → Nat) (x : Nat) (xpa : Nat) (xsp : Nat) (xdy : Nat) (xle : Nat) (xst : Nat) (xim : Nat) (xil : Nat) (xmo : Nat) (xom : Nat) (xwi : Nat) (b : Nat) (xlen : Nat) (xlec : Nat) (sz : Nat) : Met l yX11_forget (Cond.code yX11_forget cX11_forget 2 (some .int) :: wsL_law) ({ frames := 0, cells := 0, slots := 0, locals := 0 }) (va_Pc [.ref x] (fun U => U.heap.size = sz ∧ va_P (dC, dI) vwCl [(x, .inr (11, [.ref xpa, .ref b, .ref xsp, .ref xdy, .ref xle, .ref xst, .int 0, .ref xim, .ref xil, .int 0, .ref xmo, .ref xom, .ref xwi])), (xle, .inr (2, [.int 0, .ref xlen, .ref xlec]))] U.heap ∧ va_K (dC, dI) vwCl [] U ∧ va_D (fun _ => True) [(x, .inr (11, [.ref xpa, .ref b, .ref xsp, .ref xdy, .ref xle, .ref xst, .int 0, .ref xim, .ref xil, .int 0, .ref xmo, .ref xom, .ref xwi])), (xle, .inr (2, [.int 0, .ref xlen, .ref xlec]))])) (va_Qi (fun (r : Int32) (u : Unit) => r = 0) (fun _ _ => True) (va_A [(x, .inr (11, [.ref xpa, .ref b, .ref xsp, .ref xdy, .ref xle, .ref xst, .int 0, .ref xim, .ref xil, .int 0, .ref xmo, .ref xom, .ref xwi])), (xle, .inr (2, [.int 0, .ref xlen, .ref xlec]))] sz)) 0 0 (va_A [(x, .inr (11, [.ref xpa, .ref b, .ref xsp, .ref xdy, .ref xle, .ref xst, .int 0, .ref xim, .ref xil, .int 0, .ref xmo, .ref xom, .ref xwi])), (xle, .inr (2, [.int 0, .ref xlen, .ref xlec]))] sz) := by
  refine Met.ofW (cc := cX11_forget) (maxL := 2) (ret := (some .int)) (by decide) rfl ?_
  intro p e s m args below meth c s₁ B hml hv
  obtain ⟨rfl, hsz, hP, hK, hD0⟩ := hv
  have hx := B.exec
  have hb := B.bytes
  have hr := B.returns
  have hts := atoms_spec (ws := Cond.code yX11_forget cX11_forget 2 (some .int) :: wsL_law) B.pre
  have htw : ∀ w ∈ wsL_law, w.before _ s = true := fun w h => hts w (List.mem_cons_of_mem _ h)
  have hown : s.vm.findClass RX11 = some m.cls := findClass_of_methodNamed B.named
  have hlocks := B.notSynchronized
  subst hsz
  have hD := hD0.self (sz := s.heap.size)
  generalize hAe : va_A [(x, .inr (11, [.ref xpa, .ref b, .ref xsp, .ref xdy, .ref xle, .ref xst, .int 0, .ref xim, .ref xil, .int 0, .ref xmo, .ref xom, .ref xwi])), (xle, .inr (2, [.int 0, .ref xlen, .ref xlec]))] s.heap.size = A at hD ⊢
  have hA : ∀ q : Nat, s.heap.size ≤ q → A q := fun q h => by rw [← hAe]; exact Or.inr h
  obtain ⟨H, rH⟩ : ∃ z : Heap, z = s.heap := ⟨_, rfl⟩
  have hS : va_S A s.heap H [] := by rw [rH]; exact va_S.rf
  have hP : va_P (dC, dI) vwCl [(x, .inr (11, [.ref xpa, .ref b, .ref xsp, .ref xdy, .ref xle, .ref xst, .int 0, .ref xim, .ref xil, .int 0, .ref xmo, .ref xom, .ref xwi])), (xle, .inr (2, [.int 0, .ref xlen, .ref xlec]))] H := by rw [rH]; exact hP
  rw [← rH]
  have hl := lv_entry ([.ref x]) (n := 2) (Nat.le_of_ble_eq_true rfl)
  rw [lg_entry_eq]
  generalize (lg_sl ([.ref x]) ++ List.replicate (2 - (lg_sl ([.ref x])).length) Slot.unset).toArray = ls at hl ⊢
  have hl : lv_has ls 2 [(0, .ref x)] := hl
  refine lv_aload_n hx hb dX11_forget_0 rfl (lv_at hl 0 rfl) ?_
  refine va_get (D := (dC, dI)) (ci := 11) (v := .ref xle) (C := RX11) (T := TX11) (N := 13) hx hb htw inlX11 hown hK hP 0 rfl rfl 4 (by decide) (htw _ (ck_2 _ (List.mem_of_getElem? (i := 6) rfl))) (fun _ h9 => h9) rfl dX11_forget_1 ?_
  refine va_get (D := (dC, dI)) (ci := 2) (v := .int 0) (C := RX2) (T := TX2) (N := 3) hx hb htw inlX2 hown hK hP 1 rfl rfl 0 (by decide) (htw _ (ck_12 _ (List.mem_of_getElem? (i := 23) rfl))) (fun _ h9 => h9) rfl dX11_forget_4 ?_
  refine lv_istore_n (lv' := [(1, .int 0), (0, .ref x)]) hx hb dX11_forget_7 rfl hl (by decide) rfl (fun ls hl => ?_)
  refine lv_aload_n hx hb dX11_forget_8 rfl (lv_at hl 1 rfl) ?_
  refine va_get (D := (dC, dI)) (ci := 11) (v := .ref xle) (C := RX11) (T := TX11) (N := 13) hx hb htw inlX11 hown hK hP 0 rfl rfl 4 (by decide) (htw _ (ck_2 _ (List.mem_of_getElem? (i := 6) rfl))) (fun _ h9 => h9) rfl dX11_forget_9 ?_
  refine lv_iconst (v := 0) hx hb dX11_forget_12 (by decide) ?_
  refine va_put (D := (dC, dI)) (ci := 2) (v := .int 0) (ty := tyX2 0) (C := RX2) (T := TX2) (N := 3) hx hb htw inlX2 tyX2 tyX2_ok nmX2 hown hK hP hD hS 1 rfl rfl 0 (by decide) (htw _ (ck_12 _ (List.mem_of_getElem? (i := 23) rfl))) (fun _ h9 => h9) rfl (by decide +kernel) rfl rfl (Nat.le_of_ble_eq_true rfl) dX11_forget_13 (fun H locs hP hD hS => ?_)
  have hP : va_P (dC, dI) vwCl [(x, .inr (11, [.ref xpa, .ref b, .ref xsp, .ref xdy, .ref xle, .ref xst, .int 0, .ref xim, .ref xil, .int 0, .ref xmo, .ref xom, .ref xwi])), (xle, .inr (2, [.int 0, .ref xlen, .ref xlec]))] H := hP
  have hD : va_D A [(x, .inr (11, [.ref xpa, .ref b, .ref xsp, .ref xdy, .ref xle, .ref xst, .int 0, .ref xim, .ref xil, .int 0, .ref xmo, .ref xom, .ref xwi])), (xle, .inr (2, [.int 0, .ref xlen, .ref xlec]))] := hD
  refine lv_iload_n hx hb dX11_forget_16 rfl (lv_at hl 0 rfl) ?_
  refine W.widen (k := 0) (n := 0) (by omega) (by omega) ?_
  exact W.iret (v := 0) hx hb hr (fun t ht hW => ⟨⟨0, (), rfl, rfl, trivial⟩, hS.F ht⟩) hS.2.2 dX11_forget_17

theorem dX6_begin_0 : decode cX6_begin 0 = .ok (.iload_n 1, 1) := by decide +kernel
theorem dX6_begin_1 : decode cX6_begin 1 = .ok (.ifCond .lt 19, 3) := by decide +kernel
theorem dX6_begin_4 : decode cX6_begin 4 = .ok (.iload_n 1, 1) := by decide +kernel
theorem dX6_begin_5 : decode cX6_begin 5 = .ok (.aload_n 0, 1) := by decide +kernel
theorem dX6_begin_6 : decode cX6_begin 6 = .ok (.getfield 9, 3) := by decide +kernel
theorem dX6_begin_9 : decode cX6_begin 9 = .ok (.arraylength, 1) := by decide +kernel
theorem dX6_begin_10 : decode cX6_begin 10 = .ok (.if_icmp .ge 10, 3) := by decide +kernel
theorem dX6_begin_13 : decode cX6_begin 13 = .ok (.aload_n 0, 1) := by decide +kernel
theorem dX6_begin_14 : decode cX6_begin 14 = .ok (.getfield 9, 3) := by decide +kernel
theorem dX6_begin_17 : decode cX6_begin 17 = .ok (.iload_n 1, 1) := by decide +kernel
theorem dX6_begin_18 : decode cX6_begin 18 = .ok (.iconst 0, 1) := by decide +kernel
theorem dX6_begin_19 : decode cX6_begin 19 = .ok (.iastore, 1) := by decide +kernel
theorem dX6_begin_20 : decode cX6_begin 20 = .ok (.return_, 1) := by decide +kernel
set_option maxHeartbeats 4000000 in
set_option maxRecDepth 100000 in
theorem mt_begin (l : Launch) (dC : Nat → ClassId) (dI : Nat → Nat → Nat) (bno : Nat) (bnos : Nat) (bnof : Nat) (bnoz : Nat) (cS : ClassId) (fS : Nat → Int32) (sz : Nat) : Met l yX6_begin (Cond.code yX6_begin cX6_begin 2 none :: wsL_law) ({ frames := 0, cells := 0, slots := 0, locals := 0 }) (va_Pc [.ref bno, .int 0] (fun U => U.heap.size = sz ∧ va_P (dC, dI) vwCl [(bno, .inr (6, [.int 0, .ref bnos, .ref bnof, .ref bnoz])), (bnos, .inl (cS, 12, .inl fS))] U.heap ∧ va_K (dC, dI) vwCl [(cS, .int)] U ∧ va_D (fun _ => True) [(bno, .inr (6, [.int 0, .ref bnos, .ref bnof, .ref bnoz])), (bnos, .inl (cS, 12, .inl fS))])) (va_Qv (fun (u : (Nat → Int32)) => True) (fun (u : (Nat → Int32)) t => va_P (dC, dI) vwCl [(bno, .inr (6, [.int 0, .ref bnos, .ref bnof, .ref bnoz])), (bnos, .inl (cS, 12, .inl u))] t.heap ∧ va_K (dC, dI) vwCl [] t ∧ va_D (va_A [(bno, .inr (6, [.int 0, .ref bnos, .ref bnof, .ref bnoz])), (bnos, .inl (cS, 12, .inl fS))] sz) [(bno, .inr (6, [.int 0, .ref bnos, .ref bnof, .ref bnoz])), (bnos, .inl (cS, 12, .inl u))]) (va_A [(bno, .inr (6, [.int 0, .ref bnos, .ref bnof, .ref bnoz])), (bnos, .inl (cS, 12, .inl fS))] sz)) 0 0 (va_A [(bno, .inr (6, [.int 0, .ref bnos, .ref bnof, .ref bnoz])), (bnos, .inl (cS, 12, .inl fS))] sz) := by
  refine Met.ofW (cc := cX6_begin) (maxL := 2) (ret := none) (by decide) rfl ?_
  intro p e s m args below meth c s₁ B hml hv
  obtain ⟨rfl, hsz, hP, hK, hD0⟩ := hv
  have hx := B.exec
  have hb := B.bytes
  have hr := B.returns
  have hts := atoms_spec (ws := Cond.code yX6_begin cX6_begin 2 none :: wsL_law) B.pre
  have htw : ∀ w ∈ wsL_law, w.before _ s = true := fun w h => hts w (List.mem_cons_of_mem _ h)
  have hown : s.vm.findClass RX6 = some m.cls := findClass_of_methodNamed B.named
  have hlocks := B.notSynchronized
  subst hsz
  have hD := hD0.self (sz := s.heap.size)
  generalize hAe : va_A [(bno, .inr (6, [.int 0, .ref bnos, .ref bnof, .ref bnoz])), (bnos, .inl (cS, 12, .inl fS))] s.heap.size = A at hD ⊢
  have hA : ∀ q : Nat, s.heap.size ≤ q → A q := fun q h => by rw [← hAe]; exact Or.inr h
  obtain ⟨H, rH⟩ : ∃ z : Heap, z = s.heap := ⟨_, rfl⟩
  have hS : va_S A s.heap H [] := by rw [rH]; exact va_S.rf
  have hP : va_P (dC, dI) vwCl [(bno, .inr (6, [.int 0, .ref bnos, .ref bnof, .ref bnoz])), (bnos, .inl (cS, 12, .inl fS))] H := by rw [rH]; exact hP
  rw [← rH]
  have hl := lv_entry ([.ref bno, .int 0]) (n := 2) (Nat.le_of_ble_eq_true rfl)
  rw [lg_entry_eq]
  generalize (lg_sl ([.ref bno, .int 0]) ++ List.replicate (2 - (lg_sl ([.ref bno, .int 0])).length) Slot.unset).toArray = ls at hl ⊢
  have hl : lv_has ls 2 [(0, .ref bno), (1, .int 0)] := hl
  refine lv_iload_n hx hb dX6_begin_0 rfl (lv_at hl 1 rfl) ?_
  refine lv_if_lt (tgt := 20) hx hb dX6_begin_1 (by decide) (fun c => absurd c (by decide)) (fun _ => ?_)
  refine lv_iload_n hx hb dX6_begin_4 rfl (lv_at hl 1 rfl) ?_
  refine lv_aload_n hx hb dX6_begin_5 rfl (lv_at hl 0 rfl) ?_
  refine va_get (D := (dC, dI)) (ci := 6) (v := .ref bnos) (C := RX6) (T := TX6) (N := 4) hx hb htw inlX6 hown hK hP 0 rfl rfl 1 (by decide) (htw _ (ck_7 _ (List.mem_of_getElem? (i := 8) rfl))) (fun _ h9 => h9) rfl dX6_begin_6 ?_
  refine va_alen hx hb hK hP 1 0 rfl rfl (v := 12) rfl dX6_begin_9 ?_
  refine lv_icmp_ge (tgt := 20) hx hb dX6_begin_10 (by decide) (fun c => absurd c (by decide)) (fun _ => ?_)
  refine lv_aload_n hx hb dX6_begin_13 rfl (lv_at hl 0 rfl) ?_
  refine va_get (D := (dC, dI)) (ci := 6) (v := .ref bnos) (C := RX6) (T := TX6) (N := 4) hx hb htw inlX6 hown hK hP 0 rfl rfl 1 (by decide) (htw _ (ck_7 _ (List.mem_of_getElem? (i := 8) rfl))) (fun _ h9 => h9) rfl dX6_begin_14 ?_
  refine lv_iload_n hx hb dX6_begin_17 rfl (lv_at hl 1 rfl) ?_
  refine lv_iconst (v := 0) hx hb dX6_begin_18 (by decide) ?_
  refine xg_iast hx hb hK hP hD hS 1 0 rfl rfl (by unfold vp_in; decide) dX6_begin_19 (fun f_1 H locs hP hD hS => ?_)
  have hP : va_P (dC, dI) vwCl [(bno, .inr (6, [.int 0, .ref bnos, .ref bnof, .ref bnoz])), (bnos, .inl (cS, 12, .inl f_1))] H := hP
  have hD : va_D A [(bno, .inr (6, [.int 0, .ref bnos, .ref bnof, .ref bnoz])), (bnos, .inl (cS, 12, .inl f_1))] := hD
  refine W.widen (k := 0) (n := 0) (by omega) (by omega) ?_
  have hP9 := hP.sub (ws' := [(bno, .inr (6, [.int 0, .ref bnos, .ref bnof, .ref bnoz])), (bnos, .inl (cS, 12, .inl f_1))]) [0, 1] rfl
  have hD9 := hD.sub (ws' := [(bno, .inr (6, [.int 0, .ref bnos, .ref bnof, .ref bnoz])), (bnos, .inl (cS, 12, .inl f_1))]) [0, 1] (by decide) rfl
  have hK9 := hK.sub (tys' := []) [] rfl
  exact W.vret hx hb hr (fun t ht hW => ⟨⟨f_1, rfl, trivial, by rw [ht]; exact hP9, va_K.moved hW.alike hK9, hD9⟩, hS.F ht⟩) hS.2.2 dX6_begin_20

theorem dX5_staleFrom_0 : decode cX5_staleFrom 0 = .ok (.aload_n 0, 1) := by decide +kernel
theorem dX5_staleFrom_1 : decode cX5_staleFrom 1 = .ok (.aload_n 0, 1) := by decide +kernel
theorem dX5_staleFrom_2 : decode cX5_staleFrom 2 = .ok (.getfield 37, 3) := by decide +kernel
theorem dX5_staleFrom_5 : decode cX5_staleFrom 5 = .ok (.iload_n 1, 1) := by decide +kernel
theorem dX5_staleFrom_6 : decode cX5_staleFrom 6 = .ok (.invokestatic 41, 3) := by decide +kernel
theorem dX5_staleFrom_9 : decode cX5_staleFrom 9 = .ok (.putfield 37, 3) := by decide +kernel
theorem dX5_staleFrom_12 : decode cX5_staleFrom 12 = .ok (.return_, 1) := by decide +kernel
set_option maxHeartbeats 4000000 in
set_option maxRecDepth 100000 in
theorem mt_stale (l : Launch) (dC : Nat → ClassId) (dI : Nat → Nat → Nat) (xdy : Nat) (dro : Nat) (dsh : Nat) (dto : Nat) (dmo : Nat) (dwi : Nat) (sz : Nat) : Met l yX5_staleFrom (Cond.code yX5_staleFrom cX5_staleFrom 2 none :: wsL_law) ({ frames := 1, cells := 0, slots := 0, locals := 14 }) (va_Pc [.ref xdy, .int 0] (fun U => U.heap.size = sz ∧ va_P (dC, dI) vwCl [(xdy, .inr (5, [.ref dro, .int 0, .ref dsh, .ref dto, .ref dmo, .ref dwi]))] U.heap ∧ va_K (dC, dI) vwCl [] U ∧ va_D (fun _ => True) [(xdy, .inr (5, [.ref dro, .int 0, .ref dsh, .ref dto, .ref dmo, .ref dwi]))])) (va_Qv (fun (u : Unit) => True) (fun (u : Unit) t => va_P (dC, dI) vwCl [(xdy, .inr (5, [.ref dro, .int 0, .ref dsh, .ref dto, .ref dmo, .ref dwi]))] t.heap ∧ va_K (dC, dI) vwCl [] t ∧ va_D (va_A [(xdy, .inr (5, [.ref dro, .int 0, .ref dsh, .ref dto, .ref dmo, .ref dwi]))] sz) [(xdy, .inr (5, [.ref dro, .int 0, .ref dsh, .ref dto, .ref dmo, .ref dwi]))]) (va_A [(xdy, .inr (5, [.ref dro, .int 0, .ref dsh, .ref dto, .ref dmo, .ref dwi]))] sz)) 0 0 (va_A [(xdy, .inr (5, [.ref dro, .int 0, .ref dsh, .ref dto, .ref dmo, .ref dwi]))] sz) := by
  refine Met.ofW (cc := cX5_staleFrom) (maxL := 2) (ret := none) (by decide) rfl ?_
  intro p e s m args below meth c s₁ B hml hv
  obtain ⟨rfl, hsz, hP, hK, hD0⟩ := hv
  have hx := B.exec
  have hb := B.bytes
  have hr := B.returns
  have hts := atoms_spec (ws := Cond.code yX5_staleFrom cX5_staleFrom 2 none :: wsL_law) B.pre
  have htw : ∀ w ∈ wsL_law, w.before _ s = true := fun w h => hts w (List.mem_cons_of_mem _ h)
  have hown : s.vm.findClass RX5 = some m.cls := findClass_of_methodNamed B.named
  have hlocks := B.notSynchronized
  subst hsz
  have hD := hD0.self (sz := s.heap.size)
  generalize hAe : va_A [(xdy, .inr (5, [.ref dro, .int 0, .ref dsh, .ref dto, .ref dmo, .ref dwi]))] s.heap.size = A at hD ⊢
  have hA : ∀ q : Nat, s.heap.size ≤ q → A q := fun q h => by rw [← hAe]; exact Or.inr h
  obtain ⟨H, rH⟩ : ∃ z : Heap, z = s.heap := ⟨_, rfl⟩
  have hS : va_S A s.heap H [] := by rw [rH]; exact va_S.rf
  have hP : va_P (dC, dI) vwCl [(xdy, .inr (5, [.ref dro, .int 0, .ref dsh, .ref dto, .ref dmo, .ref dwi]))] H := by rw [rH]; exact hP
  rw [← rH]
  have hl := lv_entry ([.ref xdy, .int 0]) (n := 2) (Nat.le_of_ble_eq_true rfl)
  rw [lg_entry_eq]
  generalize (lg_sl ([.ref xdy, .int 0]) ++ List.replicate (2 - (lg_sl ([.ref xdy, .int 0])).length) Slot.unset).toArray = ls at hl ⊢
  have hl : lv_has ls 2 [(0, .ref xdy), (1, .int 0)] := hl
  refine lv_aload_n hx hb dX5_staleFrom_0 rfl (lv_at hl 0 rfl) ?_
  refine lv_aload_n hx hb dX5_staleFrom_1 rfl (lv_at hl 0 rfl) ?_
  refine va_get (D := (dC, dI)) (ci := 5) (v := .int 0) (C := RX5) (T := TX5) (N := 6) hx hb htw inlX5 hown hK hP 0 rfl rfl 1 (by decide) (htw _ (ck_24 _ (List.mem_of_getElem? (i := 4) rfl))) (fun _ h9 => h9) rfl dX5_staleFrom_2 ?_
  refine lv_iload_n hx hb dX5_staleFrom_5 rfl (lv_at hl 1 rfl) ?_
  refine va_mmin hx hb (by rw [hml]; exact hl.1.symm) hown (htw _ (ck_24 _ (List.mem_of_getElem? (i := 5) rfl))) (htw _ (ck_14 _ (List.mem_of_getElem? (i := 7) rfl))) (htw _ (ck_14 _ (List.mem_of_getElem? (i := 8) rfl))) (htw _ (ck_14 _ (List.mem_of_getElem? (i := 9) rfl))) (Nat.le_of_ble_eq_true rfl) (Nat.le_of_ble_eq_true rfl) (Nat.le_of_ble_eq_true rfl) (Nat.le_of_ble_eq_true rfl) dX5_staleFrom_6 ?_
  refine lv_topi (fun z_1 ez_1 => ?_)
  obtain rfl : z_1 = 0 := ez_1.trans (by decide)
  refine va_put (D := (dC, dI)) (ci := 5) (v := .int 0) (ty := tyX5 1) (C := RX5) (T := TX5) (N := 6) hx hb htw inlX5 tyX5 tyX5_ok nmX5 hown hK hP hD hS 0 rfl rfl 1 (by decide) (htw _ (ck_24 _ (List.mem_of_getElem? (i := 4) rfl))) (fun _ h9 => h9) rfl (by decide +kernel) rfl rfl (Nat.le_of_ble_eq_true rfl) dX5_staleFrom_9 (fun H locs hP hD hS => ?_)
  have hP : va_P (dC, dI) vwCl [(xdy, .inr (5, [.ref dro, .int 0, .ref dsh, .ref dto, .ref dmo, .ref dwi]))] H := hP
  have hD : va_D A [(xdy, .inr (5, [.ref dro, .int 0, .ref dsh, .ref dto, .ref dmo, .ref dwi]))] := hD
  refine W.widen (k := 0) (n := 0) (by omega) (by omega) ?_
  have hP9 := hP.sub (ws' := [(xdy, .inr (5, [.ref dro, .int 0, .ref dsh, .ref dto, .ref dmo, .ref dwi]))]) [0] rfl
  have hD9 := hD.sub (ws' := [(xdy, .inr (5, [.ref dro, .int 0, .ref dsh, .ref dto, .ref dmo, .ref dwi]))]) [0] (by decide) rfl
  have hK9 := hK.sub (tys' := []) [] rfl
  exact W.vret hx hb hr (fun t ht hW => ⟨⟨(), rfl, trivial, by rw [ht]; exact hP9, va_K.moved hW.alike hK9, hD9⟩, hS.F ht⟩) hS.2.2 dX5_staleFrom_12

theorem dX11_note_0 : decode cX11_note 0 = .ok (.aload_n 0, 1) := by decide +kernel
theorem dX11_note_1 : decode cX11_note 1 = .ok (.getfield 19, 3) := by decide +kernel
theorem dX11_note_4 : decode cX11_note 4 = .ok (.getfield 290, 3) := by decide +kernel
theorem dX11_note_7 : decode cX11_note 7 = .ok (.astore_n 1, 1) := by decide +kernel
theorem dX11_note_8 : decode cX11_note 8 = .ok (.aload_n 1, 1) := by decide +kernel
theorem dX11_note_9 : decode cX11_note 9 = .ok (.getfield 293, 3) := by decide +kernel
theorem dX11_note_12 : decode cX11_note 12 = .ok (.bipush 12, 2) := by decide +kernel
theorem dX11_note_14 : decode cX11_note 14 = .ok (.if_icmp .ge 15, 3) := by decide +kernel
theorem dX11_note_17 : decode cX11_note 17 = .ok (.aload_n 0, 1) := by decide +kernel
theorem dX11_note_18 : decode cX11_note 18 = .ok (.getfield 92, 3) := by decide +kernel
theorem dX11_note_21 : decode cX11_note 21 = .ok (.aload_n 0, 1) := by decide +kernel
theorem dX11_note_22 : decode cX11_note 22 = .ok (.getfield 40, 3) := by decide +kernel
theorem dX11_note_25 : decode cX11_note 25 = .ok (.arraylength, 1) := by decide +kernel
theorem dX11_note_26 : decode cX11_note 26 = .ok (.if_icmp .lt 5, 3) := by decide +kernel
theorem dX11_note_31 : decode cX11_note 31 = .ok (.aload_n 1, 1) := by decide +kernel
theorem dX11_note_32 : decode cX11_note 32 = .ok (.getfield 293, 3) := by decide +kernel
theorem dX11_note_35 : decode cX11_note 35 = .ok (.istore_n 2, 1) := by decide +kernel
theorem dX11_note_36 : decode cX11_note 36 = .ok (.aload_n 1, 1) := by decide +kernel
theorem dX11_note_37 : decode cX11_note 37 = .ok (.iload_n 2, 1) := by decide +kernel
theorem dX11_note_38 : decode cX11_note 38 = .ok (.invokevirtual 294, 3) := by decide +kernel
theorem dX11_note_41 : decode cX11_note 41 = .ok (.aload_n 1, 1) := by decide +kernel
theorem dX11_note_42 : decode cX11_note 42 = .ok (.dup, 1) := by decide +kernel
theorem dX11_note_43 : decode cX11_note 43 = .ok (.getfield 293, 3) := by decide +kernel
theorem dX11_note_46 : decode cX11_note 46 = .ok (.iconst 1, 1) := by decide +kernel
theorem dX11_note_47 : decode cX11_note 47 = .ok (.iadd, 1) := by decide +kernel
theorem dX11_note_48 : decode cX11_note 48 = .ok (.putfield 293, 3) := by decide +kernel
theorem dX11_note_51 : decode cX11_note 51 = .ok (.aload_n 0, 1) := by decide +kernel
theorem dX11_note_52 : decode cX11_note 52 = .ok (.getfield 29, 3) := by decide +kernel
theorem dX11_note_55 : decode cX11_note 55 = .ok (.iload_n 2, 1) := by decide +kernel
theorem dX11_note_56 : decode cX11_note 56 = .ok (.invokevirtual 89, 3) := by decide +kernel
theorem dX11_note_59 : decode cX11_note 59 = .ok (.aload_n 0, 1) := by decide +kernel
theorem dX11_note_60 : decode cX11_note 60 = .ok (.getfield 40, 3) := by decide +kernel
theorem dX11_note_63 : decode cX11_note 63 = .ok (.aload_n 0, 1) := by decide +kernel
theorem dX11_note_64 : decode cX11_note 64 = .ok (.getfield 92, 3) := by decide +kernel
theorem dX11_note_67 : decode cX11_note 67 = .ok (.bipush 8, 2) := by decide +kernel
theorem dX11_note_69 : decode cX11_note 69 = .ok (.iastore, 1) := by decide +kernel
theorem dX11_note_70 : decode cX11_note 70 = .ok (.aload_n 0, 1) := by decide +kernel
theorem dX11_note_71 : decode cX11_note 71 = .ok (.dup, 1) := by decide +kernel
theorem dX11_note_72 : decode cX11_note 72 = .ok (.getfield 92, 3) := by decide +kernel
theorem dX11_note_75 : decode cX11_note 75 = .ok (.iconst 1, 1) := by decide +kernel
theorem dX11_note_76 : decode cX11_note 76 = .ok (.iadd, 1) := by decide +kernel
theorem dX11_note_77 : decode cX11_note 77 = .ok (.putfield 92, 3) := by decide +kernel
theorem dX11_note_80 : decode cX11_note 80 = .ok (.iload_n 2, 1) := by decide +kernel
theorem dX11_note_81 : decode cX11_note 81 = .ok (.ireturn, 1) := by decide +kernel
set_option maxHeartbeats 4000000 in
set_option maxRecDepth 100000 in
theorem mx_note (l : Launch) (dC : Nat → ClassId) (dI : Nat → Nat → Nat) (x : Nat) (xpa : Nat) (xsp : Nat) (xdy : Nat) (xle : Nat) (xst : Nat) (xim : Nat) (xil : Nat) (xmo : Nat) (xom : Nat) (xwi : Nat) (b : Nat) (bto : Nat) (bnm : Nat) (bla : Nat) (bsk : Nat) (bru : Nat) (bbo : Nat) (bdi : Nat) (bda : Nat) (bdk : Nat) (bdt : Nat) (bdp : Nat) (bno : Nat) (bnos : Nat) (bnof : Nat) (bnoz : Nat) (dro : Nat) (dsh : Nat) (dto : Nat) (dmo : Nat) (dwi : Nat) (cS : ClassId) (fS : Nat → Int32) (cP : ClassId) (fP : Nat → Int32) (sz : Nat) : Met l yX11_note (Cond.code yX11_note cX11_note 3 (some .int) :: wsL_law) ({ frames := 2, cells := 0, slots := 0, locals := 35 }) (va_Pc [.ref x] (fun U => U.heap.size = sz ∧ va_P (dC, dI) vwCl [(x, .inr (11, [.ref xpa, .ref b, .ref xsp, .ref xdy, .ref xle, .ref xst, .int 0, .ref xim, .ref xil, .int 0, .ref xmo, .ref xom, .ref xwi])), (b, .inr (0, [.ref bto, .ref bnm, .ref bla, .ref bsk, .ref bru, .ref bbo, .ref bdi, .ref bda, .ref bdk, .ref bdt, .ref bdp, .ref bno])), (bno, .inr (6, [.int 0, .ref bnos, .ref bnof, .ref bnoz])), (bnos, .inl (cS, 12, .inl fS)), (xst, .inl (cP, 108, .inl fP)), (xdy, .inr (5, [.ref dro, .int 0, .ref dsh, .ref dto, .ref dmo, .ref dwi]))] U.heap ∧ va_K (dC, dI) vwCl [(cS, .int), (cP, .int)] U ∧ va_D (fun _ => True) [(x, .inr (11, [.ref xpa, .ref b, .ref xsp, .ref xdy, .ref xle, .ref xst, .int 0, .ref xim, .ref xil, .int 0, .ref xmo, .ref xom, .ref xwi])), (b, .inr (0, [.ref bto, .ref bnm, .ref bla, .ref bsk, .ref bru, .ref bbo, .ref bdi, .ref bda, .ref bdk, .ref bdt, .ref bdp, .ref bno])), (bno, .inr (6, [.int 0, .ref bnos, .ref bnof, .ref bnoz])), (bnos, .inl (cS, 12, .inl fS)), (xst, .inl (cP, 108, .inl fP)), (xdy, .inr (5, [.ref dro, .int 0, .ref dsh, .ref dto, .ref dmo, .ref dwi]))])) (va_Qi (fun (r : Int32) (u : Unit) => r = 0) (fun _ _ => True) (va_A [(x, .inr (11, [.ref xpa, .ref b, .ref xsp, .ref xdy, .ref xle, .ref xst, .int 0, .ref xim, .ref xil, .int 0, .ref xmo, .ref xom, .ref xwi])), (b, .inr (0, [.ref bto, .ref bnm, .ref bla, .ref bsk, .ref bru, .ref bbo, .ref bdi, .ref bda, .ref bdk, .ref bdt, .ref bdp, .ref bno])), (bno, .inr (6, [.int 0, .ref bnos, .ref bnof, .ref bnoz])), (bnos, .inl (cS, 12, .inl fS)), (xst, .inl (cP, 108, .inl fP)), (xdy, .inr (5, [.ref dro, .int 0, .ref dsh, .ref dto, .ref dmo, .ref dwi]))] sz)) 0 0 (va_A [(x, .inr (11, [.ref xpa, .ref b, .ref xsp, .ref xdy, .ref xle, .ref xst, .int 0, .ref xim, .ref xil, .int 0, .ref xmo, .ref xom, .ref xwi])), (b, .inr (0, [.ref bto, .ref bnm, .ref bla, .ref bsk, .ref bru, .ref bbo, .ref bdi, .ref bda, .ref bdk, .ref bdt, .ref bdp, .ref bno])), (bno, .inr (6, [.int 0, .ref bnos, .ref bnof, .ref bnoz])), (bnos, .inl (cS, 12, .inl fS)), (xst, .inl (cP, 108, .inl fP)), (xdy, .inr (5, [.ref dro, .int 0, .ref dsh, .ref dto, .ref dmo, .ref dwi]))] sz) := by
  refine Met.ofW (cc := cX11_note) (maxL := 3) (ret := (some .int)) (by decide) rfl ?_
  intro p e s m args below meth c s₁ B hml hv
  obtain ⟨rfl, hsz, hP, hK, hD0⟩ := hv
  have hx := B.exec
  have hb := B.bytes
  have hr := B.returns
  have hts := atoms_spec (ws := Cond.code yX11_note cX11_note 3 (some .int) :: wsL_law) B.pre
  have htw : ∀ w ∈ wsL_law, w.before _ s = true := fun w h => hts w (List.mem_cons_of_mem _ h)
  have hown : s.vm.findClass RX11 = some m.cls := findClass_of_methodNamed B.named
  have hlocks := B.notSynchronized
  subst hsz
  have hD := hD0.self (sz := s.heap.size)
  generalize hAe : va_A [(x, .inr (11, [.ref xpa, .ref b, .ref xsp, .ref xdy, .ref xle, .ref xst, .int 0, .ref xim, .ref xil, .int 0, .ref xmo, .ref xom, .ref xwi])), (b, .inr (0, [.ref bto, .ref bnm, .ref bla, .ref bsk, .ref bru, .ref bbo, .ref bdi, .ref bda, .ref bdk, .ref bdt, .ref bdp, .ref bno])), (bno, .inr (6, [.int 0, .ref bnos, .ref bnof, .ref bnoz])), (bnos, .inl (cS, 12, .inl fS)), (xst, .inl (cP, 108, .inl fP)), (xdy, .inr (5, [.ref dro, .int 0, .ref dsh, .ref dto, .ref dmo, .ref dwi]))] s.heap.size = A at hD ⊢
  have hA : ∀ q : Nat, s.heap.size ≤ q → A q := fun q h => by rw [← hAe]; exact Or.inr h
  obtain ⟨H, rH⟩ : ∃ z : Heap, z = s.heap := ⟨_, rfl⟩
  have hS : va_S A s.heap H [] := by rw [rH]; exact va_S.rf
  have hP : va_P (dC, dI) vwCl [(x, .inr (11, [.ref xpa, .ref b, .ref xsp, .ref xdy, .ref xle, .ref xst, .int 0, .ref xim, .ref xil, .int 0, .ref xmo, .ref xom, .ref xwi])), (b, .inr (0, [.ref bto, .ref bnm, .ref bla, .ref bsk, .ref bru, .ref bbo, .ref bdi, .ref bda, .ref bdk, .ref bdt, .ref bdp, .ref bno])), (bno, .inr (6, [.int 0, .ref bnos, .ref bnof, .ref bnoz])), (bnos, .inl (cS, 12, .inl fS)), (xst, .inl (cP, 108, .inl fP)), (xdy, .inr (5, [.ref dro, .int 0, .ref dsh, .ref dto, .ref dmo, .ref dwi]))] H := by rw [rH]; exact hP
  rw [← rH]
  have hl := lv_entry ([.ref x]) (n := 3) (Nat.le_of_ble_eq_true rfl)
  rw [lg_entry_eq]
  generalize (lg_sl ([.ref x]) ++ List.replicate (3 - (lg_sl ([.ref x])).length) Slot.unset).toArray = ls at hl ⊢
  have hl : lv_has ls 3 [(0, .ref x)] := hl
  refine lv_aload_n hx hb dX11_note_0 rfl (lv_at hl 0 rfl) ?_
  refine va_get (D := (dC, dI)) (ci := 11) (v := .ref b) (C := RX11) (T := TX11) (N := 13) hx hb htw inlX11 hown hK hP 0 rfl rfl 1 (by decide) (htw _ (ck_1 _ (List.mem_of_getElem? (i := 21) rfl))) (fun _ h9 => h9) rfl dX11_note_1 ?_
  refine va_get (D := (dC, dI)) (ci := 0) (v := .ref bno) (C := RX0) (T := TX0) (N := 12) hx hb htw inlX0 hown hK hP 1 rfl rfl 11 (by decide) (htw _ (ck_52 _ (List.mem_of_getElem? (i := 11) rfl))) (fun _ h9 => h9) rfl dX11_note_4 ?_
  refine lv_astore_n (lv' := [(1, .ref bno), (0, .ref x)]) hx hb dX11_note_7 rfl hl (by decide) rfl (fun ls hl => ?_)
  refine lv_aload_n hx hb dX11_note_8 rfl (lv_at hl 0 rfl) ?_
  refine va_get (D := (dC, dI)) (ci := 6) (v := .int 0) (C := RX6) (T := TX6) (N := 4) hx hb htw inlX6 hown hK hP 2 rfl rfl 0 (by decide) (htw _ (ck_52 _ (List.mem_of_getElem? (i := 12) rfl))) (fun _ h9 => h9) rfl dX11_note_9 ?_
  refine lv_bipush (v := 12) hx hb dX11_note_12 (by decide) ?_
  refine lv_icmp_ge (tgt := 29) hx hb dX11_note_14 (by decide) (fun c => absurd c (by decide)) (fun _ => ?_)
  refine lv_aload_n hx hb dX11_note_17 rfl (lv_at hl 1 rfl) ?_
  refine va_get (D := (dC, dI)) (ci := 11) (v := .int 0) (C := RX11) (T := TX11) (N := 13) hx hb htw inlX11 hown hK hP 0 rfl rfl 6 (by decide) (htw _ (ck_12 _ (List.mem_of_getElem? (i := 22) rfl))) (fun _ h9 => h9) rfl dX11_note_18 ?_
  refine lv_aload_n hx hb dX11_note_21 rfl (lv_at hl 1 rfl) ?_
  refine va_get (D := (dC, dI)) (ci := 11) (v := .ref xst) (C := RX11) (T := TX11) (N := 13) hx hb htw inlX11 hown hK hP 0 rfl rfl 5 (by decide) (htw _ (ck_2 _ (List.mem_of_getElem? (i := 8) rfl))) (fun _ h9 => h9) rfl dX11_note_22 ?_
  refine va_alen hx hb hK hP 4 1 rfl rfl (v := 108) rfl dX11_note_25 ?_
  refine lv_icmp_lt (tgt := 31) hx hb dX11_note_26 (by decide) (fun _ => ?_) (fun c => absurd c (by decide))
  refine lv_aload_n hx hb dX11_note_31 rfl (lv_at hl 0 rfl) ?_
  refine va_get (D := (dC, dI)) (ci := 6) (v := .int 0) (C := RX6) (T := TX6) (N := 4) hx hb htw inlX6 hown hK hP 2 rfl rfl 0 (by decide) (htw _ (ck_52 _ (List.mem_of_getElem? (i := 12) rfl))) (fun _ h9 => h9) rfl dX11_note_32 ?_
  refine lv_istore_n (lv' := [(2, .int 0), (1, .ref bno), (0, .ref x)]) hx hb dX11_note_35 rfl hl (by decide) rfl (fun ls hl => ?_)
  refine lv_aload_n hx hb dX11_note_36 rfl (lv_at hl 1 rfl) ?_
  refine lv_iload_n hx hb dX11_note_37 rfl (lv_at hl 0 rfl) ?_
  have hPc := hP.sub (ws' := [(bno, .inr (6, [.int 0, .ref bnos, .ref bnof, .ref bnoz])), (bnos, .inl (cS, 12, .inl fS))]) [2, 3] rfl
  have hKc := hK.sub (tys' := [(cS, .int)]) [0] rfl
  have hDc := hD.sub (ws' := [(bno, .inr (6, [.int 0, .ref bnos, .ref bnof, .ref bnoz])), (bnos, .inl (cS, 12, .inl fS))]) [2, 3] (by decide) rfl
  have hFc := va_free (wc := [(bno, .inr (6, [.int 0, .ref bnos, .ref bnof, .ref bnoz])), (bnos, .inl (cS, 12, .inl fS))]) hD hS hA [2, 3] rfl
  refine va_callv (va_runV (As := [.int 0]) (rest := []) ⟨hx, hb, hml, hown, htw⟩ (mt_begin l dC dI bno bnos bnof bnoz cS fS H.size) (cwV 1 htw (xg_V (ck_52 _ (List.mem_of_getElem? (i := 13) rfl)) (ck_23 _ (List.mem_of_getElem? (i := 3) rfl)) (ck_23 _ (List.mem_of_getElem? (i := 4) rfl)) (ck_2 _ (List.mem_of_getElem? (i := 11) rfl)) (ck_23 _ (List.mem_of_getElem? (i := 5) rfl))) rfl rfl rfl (by decide +kernel) ⟨Nat.le_of_ble_eq_true rfl, Nat.le_of_ble_eq_true rfl⟩) ⟨fun a U g mk q => by obtain ⟨q0, q1, qP, qK, qD⟩ := q; exact ⟨q0, q1, qP, va_K.moved (u := U) (U := U.calling g mk a) (Vm.Alike.refl U.vm) qK, qD⟩, va_recv hKc hPc (ci := 6) (q0 := 0) rfl rfl, fun U hU hW => ⟨rfl, by rw [hU], by rw [hU]; exact hPc, va_K.moved hW.alike hKc, hDc.weaken (fun _ _ _ _ => trivial)⟩⟩ rfl rfl hl.1 rfl (lv_room (Nat.le_of_ble_eq_true rfl)) dX11_note_38 ⟨Nat.le_of_ble_eq_true rfl, Nat.le_of_ble_eq_true rfl⟩) hS (fun q _ h => hFc q h) hFc (fun u_2 t H1 locs ht hvm hw hB hz1 hk1 hS => ?_)
  try dsimp only at hw
  obtain ⟨hP1, hK1, hD1⟩ := hB
  rw [ht] at hP1
  have hK1 := va_K.moved hvm.symm hK1
  have hP1 : va_P (dC, dI) vwCl [(bno, .inr (6, [.int 0, .ref bnos, .ref bnof, .ref bnoz])), (bnos, .inl (cS, 12, .inl u_2))] H1 := hP1
  have hD1 : va_D (va_A [(bno, .inr (6, [.int 0, .ref bnos, .ref bnof, .ref bnoz])), (bnos, .inl (cS, 12, .inl fS))] H.size) [(bno, .inr (6, [.int 0, .ref bnos, .ref bnof, .ref bnoz])), (bnos, .inl (cS, 12, .inl u_2))] := hD1
  have hK1 : va_K (dC, dI) vwCl [] s := hK1
  obtain ⟨hP, hD⟩ := va_join (wr := [(x, .inr (11, [.ref xpa, .ref b, .ref xsp, .ref xdy, .ref xle, .ref xst, .int 0, .ref xim, .ref xil, .int 0, .ref xmo, .ref xom, .ref xwi])), (b, .inr (0, [.ref bto, .ref bnm, .ref bla, .ref bsk, .ref bru, .ref bbo, .ref bdi, .ref bda, .ref bdk, .ref bdt, .ref bdp, .ref bno])), (xst, .inl (cP, 108, .inl fP)), (xdy, .inr (5, [.ref dro, .int 0, .ref dsh, .ref dto, .ref dmo, .ref dwi]))]) (w1 := [(bno, .inr (6, [.int 0, .ref bnos, .ref bnof, .ref bnoz])), (bnos, .inl (cS, 12, .inl u_2))]) hP hD [2, 3] [0, 1, 4, 5] rfl rfl (by decide) (by decide) hk1 hFc hP1 hD1
  generalize H1 = H at hP hS ⊢
  have hP : va_P (dC, dI) vwCl [(x, .inr (11, [.ref xpa, .ref b, .ref xsp, .ref xdy, .ref xle, .ref xst, .int 0, .ref xim, .ref xil, .int 0, .ref xmo, .ref xom, .ref xwi])), (b, .inr (0, [.ref bto, .ref bnm, .ref bla, .ref bsk, .ref bru, .ref bbo, .ref bdi, .ref bda, .ref bdk, .ref bdt, .ref bdp, .ref bno])), (xst, .inl (cP, 108, .inl fP)), (xdy, .inr (5, [.ref dro, .int 0, .ref dsh, .ref dto, .ref dmo, .ref dwi])), (bno, .inr (6, [.int 0, .ref bnos, .ref bnof, .ref bnoz])), (bnos, .inl (cS, 12, .inl u_2))] H := hP
  have hD : va_D A [(x, .inr (11, [.ref xpa, .ref b, .ref xsp, .ref xdy, .ref xle, .ref xst, .int 0, .ref xim, .ref xil, .int 0, .ref xmo, .ref xom, .ref xwi])), (b, .inr (0, [.ref bto, .ref bnm, .ref bla, .ref bsk, .ref bru, .ref bbo, .ref bdi, .ref bda, .ref bdk, .ref bdt, .ref bdp, .ref bno])), (xst, .inl (cP, 108, .inl fP)), (xdy, .inr (5, [.ref dro, .int 0, .ref dsh, .ref dto, .ref dmo, .ref dwi])), (bno, .inr (6, [.int 0, .ref bnos, .ref bnof, .ref bnoz])), (bnos, .inl (cS, 12, .inl u_2))] := hD
  refine W.widen (k := 0) (n := 0) (by omega) (by omega) ?_
  refine lv_aload_n hx hb dX11_note_41 rfl (lv_at hl 1 rfl) ?_
  refine lv_dup hx hb dX11_note_42 rfl ?_
  refine va_get (D := (dC, dI)) (ci := 6) (v := .int 0) (C := RX6) (T := TX6) (N := 4) hx hb htw inlX6 hown hK hP 4 rfl rfl 0 (by decide) (htw _ (ck_52 _ (List.mem_of_getElem? (i := 12) rfl))) (fun _ h9 => h9) rfl dX11_note_43 ?_
  refine lv_iconst (v := 1) hx hb dX11_note_46 (by decide) ?_
  refine lv_iadd hx hb dX11_note_47 ?_
  refine lv_topi (fun z_4 ez_4 => ?_)
  obtain rfl : z_4 = 1 := ez_4.trans (by decide)
  refine va_put (D := (dC, dI)) (ci := 6) (v := .int 1) (ty := tyX6 0) (C := RX6) (T := TX6) (N := 4) hx hb htw inlX6 tyX6 tyX6_ok nmX6 hown hK hP hD hS 4 rfl rfl 0 (by decide) (htw _ (ck_52 _ (List.mem_of_getElem? (i := 12) rfl))) (fun _ h9 => h9) rfl (by decide +kernel) rfl rfl (Nat.le_of_ble_eq_true rfl) dX11_note_48 (fun H locs hP hD hS => ?_)
  have hP : va_P (dC, dI) vwCl [(x, .inr (11, [.ref xpa, .ref b, .ref xsp, .ref xdy, .ref xle, .ref xst, .int 0, .ref xim, .ref xil, .int 0, .ref xmo, .ref xom, .ref xwi])), (b, .inr (0, [.ref bto, .ref bnm, .ref bla, .ref bsk, .ref bru, .ref bbo, .ref bdi, .ref bda, .ref bdk, .ref bdt, .ref bdp, .ref bno])), (xst, .inl (cP, 108, .inl fP)), (xdy, .inr (5, [.ref dro, .int 0, .ref dsh, .ref dto, .ref dmo, .ref dwi])), (bno, .inr (6, [.int 1, .ref bnos, .ref bnof, .ref bnoz])), (bnos, .inl (cS, 12, .inl u_2))] H := hP
  have hD : va_D A [(x, .inr (11, [.ref xpa, .ref b, .ref xsp, .ref xdy, .ref xle, .ref xst, .int 0, .ref xim, .ref xil, .int 0, .ref xmo, .ref xom, .ref xwi])), (b, .inr (0, [.ref bto, .ref bnm, .ref bla, .ref bsk, .ref bru, .ref bbo, .ref bdi, .ref bda, .ref bdk, .ref bdt, .ref bdp, .ref bno])), (xst, .inl (cP, 108, .inl fP)), (xdy, .inr (5, [.ref dro, .int 0, .ref dsh, .ref dto, .ref dmo, .ref dwi])), (bno, .inr (6, [.int 1, .ref bnos, .ref bnof, .ref bnoz])), (bnos, .inl (cS, 12, .inl u_2))] := hD
  refine lv_aload_n hx hb dX11_note_51 rfl (lv_at hl 2 rfl) ?_
  refine va_get (D := (dC, dI)) (ci := 11) (v := .ref xdy) (C := RX11) (T := TX11) (N := 13) hx hb htw inlX11 hown hK hP 0 rfl rfl 3 (by decide) (htw _ (ck_2 _ (List.mem_of_getElem? (i := 2) rfl))) (fun _ h9 => h9) rfl dX11_note_52 ?_
  refine lv_iload_n hx hb dX11_note_55 rfl (lv_at hl 0 rfl) ?_
  have hPc := hP.sub (ws' := [(xdy, .inr (5, [.ref dro, .int 0, .ref dsh, .ref dto, .ref dmo, .ref dwi]))]) [3] rfl
  have hKc := hK.sub (tys' := []) [] rfl
  have hDc := hD.sub (ws' := [(xdy, .inr (5, [.ref dro, .int 0, .ref dsh, .ref dto, .ref dmo, .ref dwi]))]) [3] (by decide) rfl
  have hFc := va_free (wc := [(xdy, .inr (5, [.ref dro, .int 0, .ref dsh, .ref dto, .ref dmo, .ref dwi]))]) hD hS hA [3] rfl
  refine va_callv (va_runV (As := [.int 0]) (rest := []) ⟨hx, hb, hml, hown, htw⟩ (mt_stale l dC dI xdy dro dsh dto dmo dwi H.size) (cwV 1 htw (xg_V (ck_24 _ (List.mem_of_getElem? (i := 0) rfl)) (ck_24 _ (List.mem_of_getElem? (i := 1) rfl)) (ck_24 _ (List.mem_of_getElem? (i := 2) rfl)) (ck_2 _ (List.mem_of_getElem? (i := 1) rfl)) (ck_24 _ (List.mem_of_getElem? (i := 3) rfl))) rfl rfl rfl (by decide +kernel) ⟨Nat.le_of_ble_eq_true rfl, Nat.le_of_ble_eq_true rfl⟩) ⟨fun a U g mk q => by obtain ⟨q0, q1, qP, qK, qD⟩ := q; exact ⟨q0, q1, qP, va_K.moved (u := U) (U := U.calling g mk a) (Vm.Alike.refl U.vm) qK, qD⟩, va_recv hKc hPc (ci := 5) (q0 := 0) rfl rfl, fun U hU hW => ⟨rfl, by rw [hU], by rw [hU]; exact hPc, va_K.moved hW.alike hKc, hDc.weaken (fun _ _ _ _ => trivial)⟩⟩ rfl rfl hl.1 rfl (lv_room (Nat.le_of_ble_eq_true rfl)) dX11_note_56 ⟨Nat.le_of_ble_eq_true rfl, Nat.le_of_ble_eq_true rfl⟩) hS (fun q _ h => hFc q h) hFc (fun u_6 t H1 locs ht hvm hw hB hz1 hk1 hS => ?_)
  try dsimp only at hw
  obtain ⟨hP1, hK1, hD1⟩ := hB
  rw [ht] at hP1
  have hK1 := va_K.moved hvm.symm hK1
  have hP1 : va_P (dC, dI) vwCl [(xdy, .inr (5, [.ref dro, .int 0, .ref dsh, .ref dto, .ref dmo, .ref dwi]))] H1 := hP1
  have hD1 : va_D (va_A [(xdy, .inr (5, [.ref dro, .int 0, .ref dsh, .ref dto, .ref dmo, .ref dwi]))] H.size) [(xdy, .inr (5, [.ref dro, .int 0, .ref dsh, .ref dto, .ref dmo, .ref dwi]))] := hD1
  have hK1 : va_K (dC, dI) vwCl [] s := hK1
  obtain ⟨hP, hD⟩ := va_join (wr := [(x, .inr (11, [.ref xpa, .ref b, .ref xsp, .ref xdy, .ref xle, .ref xst, .int 0, .ref xim, .ref xil, .int 0, .ref xmo, .ref xom, .ref xwi])), (b, .inr (0, [.ref bto, .ref bnm, .ref bla, .ref bsk, .ref bru, .ref bbo, .ref bdi, .ref bda, .ref bdk, .ref bdt, .ref bdp, .ref bno])), (xst, .inl (cP, 108, .inl fP)), (bno, .inr (6, [.int 1, .ref bnos, .ref bnof, .ref bnoz])), (bnos, .inl (cS, 12, .inl u_2))]) (w1 := [(xdy, .inr (5, [.ref dro, .int 0, .ref dsh, .ref dto, .ref dmo, .ref dwi]))]) hP hD [3] [0, 1, 2, 4, 5] rfl rfl (by decide) (by decide) hk1 hFc hP1 hD1
  generalize H1 = H at hP hS ⊢
  have hP : va_P (dC, dI) vwCl [(x, .inr (11, [.ref xpa, .ref b, .ref xsp, .ref xdy, .ref xle, .ref xst, .int 0, .ref xim, .ref xil, .int 0, .ref xmo, .ref xom, .ref xwi])), (b, .inr (0, [.ref bto, .ref bnm, .ref bla, .ref bsk, .ref bru, .ref bbo, .ref bdi, .ref bda, .ref bdk, .ref bdt, .ref bdp, .ref bno])), (xst, .inl (cP, 108, .inl fP)), (bno, .inr (6, [.int 1, .ref bnos, .ref bnof, .ref bnoz])), (bnos, .inl (cS, 12, .inl u_2)), (xdy, .inr (5, [.ref dro, .int 0, .ref dsh, .ref dto, .ref dmo, .ref dwi]))] H := hP
  have hD : va_D A [(x, .inr (11, [.ref xpa, .ref b, .ref xsp, .ref xdy, .ref xle, .ref xst, .int 0, .ref xim, .ref xil, .int 0, .ref xmo, .ref xom, .ref xwi])), (b, .inr (0, [.ref bto, .ref bnm, .ref bla, .ref bsk, .ref bru, .ref bbo, .ref bdi, .ref bda, .ref bdk, .ref bdt, .ref bdp, .ref bno])), (xst, .inl (cP, 108, .inl fP)), (bno, .inr (6, [.int 1, .ref bnos, .ref bnof, .ref bnoz])), (bnos, .inl (cS, 12, .inl u_2)), (xdy, .inr (5, [.ref dro, .int 0, .ref dsh, .ref dto, .ref dmo, .ref dwi]))] := hD
  refine W.widen (k := 0) (n := 0) (by omega) (by omega) ?_
  refine lv_aload_n hx hb dX11_note_59 rfl (lv_at hl 2 rfl) ?_
  refine va_get (D := (dC, dI)) (ci := 11) (v := .ref xst) (C := RX11) (T := TX11) (N := 13) hx hb htw inlX11 hown hK hP 0 rfl rfl 5 (by decide) (htw _ (ck_2 _ (List.mem_of_getElem? (i := 8) rfl))) (fun _ h9 => h9) rfl dX11_note_60 ?_
  refine lv_aload_n hx hb dX11_note_63 rfl (lv_at hl 2 rfl) ?_
  refine va_get (D := (dC, dI)) (ci := 11) (v := .int 0) (C := RX11) (T := TX11) (N := 13) hx hb htw inlX11 hown hK hP 0 rfl rfl 6 (by decide) (htw _ (ck_12 _ (List.mem_of_getElem? (i := 22) rfl))) (fun _ h9 => h9) rfl dX11_note_64 ?_
  refine lv_bipush (v := 8) hx hb dX11_note_67 (by decide) ?_
  refine xg_iast hx hb hK hP hD hS 2 1 rfl rfl (by unfold vp_in; decide) dX11_note_69 (fun f_7 H locs hP hD hS => ?_)
  have hP : va_P (dC, dI) vwCl [(x, .inr (11, [.ref xpa, .ref b, .ref xsp, .ref xdy, .ref xle, .ref xst, .int 0, .ref xim, .ref xil, .int 0, .ref xmo, .ref xom, .ref xwi])), (b, .inr (0, [.ref bto, .ref bnm, .ref bla, .ref bsk, .ref bru, .ref bbo, .ref bdi, .ref bda, .ref bdk, .ref bdt, .ref bdp, .ref bno])), (xst, .inl (cP, 108, .inl f_7)), (bno, .inr (6, [.int 1, .ref bnos, .ref bnof, .ref bnoz])), (bnos, .inl (cS, 12, .inl u_2)), (xdy, .inr (5, [.ref dro, .int 0, .ref dsh, .ref dto, .ref dmo, .ref dwi]))] H := hP
  have hD : va_D A [(x, .inr (11, [.ref xpa, .ref b, .ref xsp, .ref xdy, .ref xle, .ref xst, .int 0, .ref xim, .ref xil, .int 0, .ref xmo, .ref xom, .ref xwi])), (b, .inr (0, [.ref bto, .ref bnm, .ref bla, .ref bsk, .ref bru, .ref bbo, .ref bdi, .ref bda, .ref bdk, .ref bdt, .ref bdp, .ref bno])), (xst, .inl (cP, 108, .inl f_7)), (bno, .inr (6, [.int 1, .ref bnos, .ref bnof, .ref bnoz])), (bnos, .inl (cS, 12, .inl u_2)), (xdy, .inr (5, [.ref dro, .int 0, .ref dsh, .ref dto, .ref dmo, .ref dwi]))] := hD
  refine lv_aload_n hx hb dX11_note_70 rfl (lv_at hl 2 rfl) ?_
  refine lv_dup hx hb dX11_note_71 rfl ?_
  refine va_get (D := (dC, dI)) (ci := 11) (v := .int 0) (C := RX11) (T := TX11) (N := 13) hx hb htw inlX11 hown hK hP 0 rfl rfl 6 (by decide) (htw _ (ck_12 _ (List.mem_of_getElem? (i := 22) rfl))) (fun _ h9 => h9) rfl dX11_note_72 ?_
  refine lv_iconst (v := 1) hx hb dX11_note_75 (by decide) ?_
  refine lv_iadd hx hb dX11_note_76 ?_
  refine lv_topi (fun z_8 ez_8 => ?_)
  obtain rfl : z_8 = 1 := ez_8.trans (by decide)
  refine va_put (D := (dC, dI)) (ci := 11) (v := .int 1) (ty := tyX11 6) (C := RX11) (T := TX11) (N := 13) hx hb htw inlX11 tyX11 tyX11_ok nmX11 hown hK hP hD hS 0 rfl rfl 6 (by decide) (htw _ (ck_12 _ (List.mem_of_getElem? (i := 22) rfl))) (fun _ h9 => h9) rfl (by decide +kernel) rfl rfl (Nat.le_of_ble_eq_true rfl) dX11_note_77 (fun H locs hP hD hS => ?_)
  have hP : va_P (dC, dI) vwCl [(x, .inr (11, [.ref xpa, .ref b, .ref xsp, .ref xdy, .ref xle, .ref xst, .int 1, .ref xim, .ref xil, .int 0, .ref xmo, .ref xom, .ref xwi])), (b, .inr (0, [.ref bto, .ref bnm, .ref bla, .ref bsk, .ref bru, .ref bbo, .ref bdi, .ref bda, .ref bdk, .ref bdt, .ref bdp, .ref bno])), (xst, .inl (cP, 108, .inl f_7)), (bno, .inr (6, [.int 1, .ref bnos, .ref bnof, .ref bnoz])), (bnos, .inl (cS, 12, .inl u_2)), (xdy, .inr (5, [.ref dro, .int 0, .ref dsh, .ref dto, .ref dmo, .ref dwi]))] H := hP
  have hD : va_D A [(x, .inr (11, [.ref xpa, .ref b, .ref xsp, .ref xdy, .ref xle, .ref xst, .int 1, .ref xim, .ref xil, .int 0, .ref xmo, .ref xom, .ref xwi])), (b, .inr (0, [.ref bto, .ref bnm, .ref bla, .ref bsk, .ref bru, .ref bbo, .ref bdi, .ref bda, .ref bdk, .ref bdt, .ref bdp, .ref bno])), (xst, .inl (cP, 108, .inl f_7)), (bno, .inr (6, [.int 1, .ref bnos, .ref bnof, .ref bnoz])), (bnos, .inl (cS, 12, .inl u_2)), (xdy, .inr (5, [.ref dro, .int 0, .ref dsh, .ref dto, .ref dmo, .ref dwi]))] := hD
  refine lv_iload_n hx hb dX11_note_80 rfl (lv_at hl 0 rfl) ?_
  refine W.widen (k := 0) (n := 0) (by omega) (by omega) ?_
  exact W.iret (v := 0) hx hb hr (fun t ht hW => ⟨⟨0, (), rfl, rfl, trivial⟩, hS.F ht⟩) hS.2.2 dX11_note_81

theorem dX3_putFour_0 : decode cX3_putFour 0 = .ok (.bipush 24, 2) := by decide +kernel
theorem dX3_putFour_2 : decode cX3_putFour 2 = .ok (.istore_n 2, 1) := by decide +kernel
theorem dX3_putFour_3 : decode cX3_putFour 3 = .ok (.iload_n 2, 1) := by decide +kernel
theorem dX3_putFour_4 : decode cX3_putFour 4 = .ok (.ifCond .lt 44, 3) := by decide +kernel
theorem dX3_putFour_7 : decode cX3_putFour 7 = .ok (.aload_n 0, 1) := by decide +kernel
theorem dX3_putFour_8 : decode cX3_putFour 8 = .ok (.getfield 31, 3) := by decide +kernel
theorem dX3_putFour_11 : decode cX3_putFour 11 = .ok (.aload_n 0, 1) := by decide +kernel
theorem dX3_putFour_12 : decode cX3_putFour 12 = .ok (.getfield 9, 3) := by decide +kernel
theorem dX3_putFour_15 : decode cX3_putFour 15 = .ok (.arraylength, 1) := by decide +kernel
theorem dX3_putFour_16 : decode cX3_putFour 16 = .ok (.if_icmp .ge 32, 3) := by decide +kernel
theorem dX3_putFour_19 : decode cX3_putFour 19 = .ok (.aload_n 0, 1) := by decide +kernel
theorem dX3_putFour_20 : decode cX3_putFour 20 = .ok (.getfield 9, 3) := by decide +kernel
theorem dX3_putFour_23 : decode cX3_putFour 23 = .ok (.aload_n 0, 1) := by decide +kernel
theorem dX3_putFour_24 : decode cX3_putFour 24 = .ok (.getfield 31, 3) := by decide +kernel
theorem dX3_putFour_27 : decode cX3_putFour 27 = .ok (.iload_n 1, 1) := by decide +kernel
theorem dX3_putFour_28 : decode cX3_putFour 28 = .ok (.iload_n 2, 1) := by decide +kernel
theorem dX3_putFour_29 : decode cX3_putFour 29 = .ok (.ishr, 1) := by decide +kernel
theorem dX3_putFour_30 : decode cX3_putFour 30 = .ok (.i2b, 1) := by decide +kernel
theorem dX3_putFour_31 : decode cX3_putFour 31 = .ok (.bastore, 1) := by decide +kernel
theorem dX3_putFour_32 : decode cX3_putFour 32 = .ok (.aload_n 0, 1) := by decide +kernel
theorem dX3_putFour_33 : decode cX3_putFour 33 = .ok (.dup, 1) := by decide +kernel
theorem dX3_putFour_34 : decode cX3_putFour 34 = .ok (.getfield 31, 3) := by decide +kernel
theorem dX3_putFour_37 : decode cX3_putFour 37 = .ok (.iconst 1, 1) := by decide +kernel
theorem dX3_putFour_38 : decode cX3_putFour 38 = .ok (.iadd, 1) := by decide +kernel
theorem dX3_putFour_39 : decode cX3_putFour 39 = .ok (.putfield 31, 3) := by decide +kernel
theorem dX3_putFour_42 : decode cX3_putFour 42 = .ok (.iinc 2 (-8), 3) := by decide +kernel
theorem dX3_putFour_45 : decode cX3_putFour 45 = .ok (.goto (-42), 3) := by decide +kernel
theorem dX3_putFour_48 : decode cX3_putFour 48 = .ok (.return_, 1) := by decide +kernel
set_option maxHeartbeats 4000000 in
set_option maxRecDepth 100000 in
/-- four bytes more, 0 are there -/
theorem mt_put0 (l : Launch) (dC : Nat → ClassId) (dI : Nat → Nat → Nat) (plx : Nat) (lby : Nat) (lco : Nat) (cB : ClassId) (fB : Nat → Int32) (a0 : Int32) (sz : Nat) : Met l yX3_putFour (Cond.code yX3_putFour cX3_putFour 3 none :: wsL_law) ({ frames := 0, cells := 0, slots := 0, locals := 0 }) (va_Pc [.ref plx, .int a0] (fun U => U.heap.size = sz ∧ va_P (dC, dI) vwCl [(plx, .inr (3, [.ref lby, .int 0, .ref lco, .int 0, .int 0, .int 0, .int 0, .int 0, .int 0])), (lby, .inl (cB, 900, .inl fB))] U.heap ∧ va_K (dC, dI) vwCl [(cB, .byte)] U ∧ va_D (fun _ => True) [(plx, .inr (3, [.ref lby, .int 0, .ref lco, .int 0, .int 0, .int 0, .int 0, .int 0, .int 0])), (lby, .inl (cB, 900, .inl fB))])) (va_Qv (fun (u : (Nat → Int32)) => True) (fun (u : (Nat → Int32)) t => va_P (dC, dI) vwCl [(plx, .inr (3, [.ref lby, .int 4, .ref lco, .int 0, .int 0, .int 0, .int 0, .int 0, .int 0])), (lby, .inl (cB, 900, .inl u))] t.heap ∧ va_K (dC, dI) vwCl [] t ∧ va_D (va_A [(plx, .inr (3, [.ref lby, .int 0, .ref lco, .int 0, .int 0, .int 0, .int 0, .int 0, .int 0])), (lby, .inl (cB, 900, .inl fB))] sz) [(plx, .inr (3, [.ref lby, .int 4, .ref lco, .int 0, .int 0, .int 0, .int 0, .int 0, .int 0])), (lby, .inl (cB, 900, .inl u))]) (va_A [(plx, .inr (3, [.ref lby, .int 0, .ref lco, .int 0, .int 0, .int 0, .int 0, .int 0, .int 0])), (lby, .inl (cB, 900, .inl fB))] sz)) 0 0 (va_A [(plx, .inr (3, [.ref lby, .int 0, .ref lco, .int 0, .int 0, .int 0, .int 0, .int 0, .int 0])), (lby, .inl (cB, 900, .inl fB))] sz) := by
  refine Met.ofW (cc := cX3_putFour) (maxL := 3) (ret := none) (by decide) rfl ?_
  intro p e s m args below meth c s₁ B hml hv
  obtain ⟨rfl, hsz, hP, hK, hD0⟩ := hv
  have hx := B.exec
  have hb := B.bytes
  have hr := B.returns
  have hts := atoms_spec (ws := Cond.code yX3_putFour cX3_putFour 3 none :: wsL_law) B.pre
  have htw : ∀ w ∈ wsL_law, w.before _ s = true := fun w h => hts w (List.mem_cons_of_mem _ h)
  have hown : s.vm.findClass RX3 = some m.cls := findClass_of_methodNamed B.named
  have hlocks := B.notSynchronized
  subst hsz
  have hD := hD0.self (sz := s.heap.size)
  generalize hAe : va_A [(plx, .inr (3, [.ref lby, .int 0, .ref lco, .int 0, .int 0, .int 0, .int 0, .int 0, .int 0])), (lby, .inl (cB, 900, .inl fB))] s.heap.size = A at hD ⊢
  have hA : ∀ q : Nat, s.heap.size ≤ q → A q := fun q h => by rw [← hAe]; exact Or.inr h
  obtain ⟨H, rH⟩ : ∃ z : Heap, z = s.heap := ⟨_, rfl⟩
  have hS : va_S A s.heap H [] := by rw [rH]; exact va_S.rf
  have hP : va_P (dC, dI) vwCl [(plx, .inr (3, [.ref lby, .int 0, .ref lco, .int 0, .int 0, .int 0, .int 0, .int 0, .int 0])), (lby, .inl (cB, 900, .inl fB))] H := by rw [rH]; exact hP
  rw [← rH]
  have hl := lv_entry ([.ref plx, .int a0]) (n := 3) (Nat.le_of_ble_eq_true rfl)
  rw [lg_entry_eq]
  generalize (lg_sl ([.ref plx, .int a0]) ++ List.replicate (3 - (lg_sl ([.ref plx, .int a0])).length) Slot.unset).toArray = ls at hl ⊢
  have hl : lv_has ls 3 [(0, .ref plx), (1, .int a0)] := hl
  refine lv_bipush (v := 24) hx hb dX3_putFour_0 (by decide) ?_
  refine lv_istore_n (lv' := [(2, .int 24), (0, .ref plx), (1, .int a0)]) hx hb dX3_putFour_2 rfl hl (by decide) rfl (fun ls hl => ?_)
  refine lv_iload_n hx hb dX3_putFour_3 rfl (lv_at hl 0 rfl) ?_
  refine lv_if_lt (tgt := 48) hx hb dX3_putFour_4 (by decide) (fun c => absurd c (by decide)) (fun _ => ?_)
  refine lv_aload_n hx hb dX3_putFour_7 rfl (lv_at hl 1 rfl) ?_
  refine va_get (D := (dC, dI)) (ci := 3) (v := .int 0) (C := RX3) (T := TX3) (N := 9) hx hb htw inlX3 hown hK hP 0 rfl rfl 1 (by decide) (htw _ (ck_12 _ (List.mem_of_getElem? (i := 11) rfl))) (fun _ h9 => h9) rfl dX3_putFour_8 ?_
  refine lv_aload_n hx hb dX3_putFour_11 rfl (lv_at hl 1 rfl) ?_
  refine va_get (D := (dC, dI)) (ci := 3) (v := .ref lby) (C := RX3) (T := TX3) (N := 9) hx hb htw inlX3 hown hK hP 0 rfl rfl 0 (by decide) (htw _ (ck_3 _ (List.mem_of_getElem? (i := 14) rfl))) (fun _ h9 => h9) rfl dX3_putFour_12 ?_
  refine va_alen hx hb hK hP 1 0 rfl rfl (v := 900) rfl dX3_putFour_15 ?_
  refine lv_icmp_ge (tgt := 48) hx hb dX3_putFour_16 (by decide) (fun c => absurd c (by decide)) (fun _ => ?_)
  refine lv_aload_n hx hb dX3_putFour_19 rfl (lv_at hl 1 rfl) ?_
  refine va_get (D := (dC, dI)) (ci := 3) (v := .ref lby) (C := RX3) (T := TX3) (N := 9) hx hb htw inlX3 hown hK hP 0 rfl rfl 0 (by decide) (htw _ (ck_3 _ (List.mem_of_getElem? (i := 14) rfl))) (fun _ h9 => h9) rfl dX3_putFour_20 ?_
  refine lv_aload_n hx hb dX3_putFour_23 rfl (lv_at hl 1 rfl) ?_
  refine va_get (D := (dC, dI)) (ci := 3) (v := .int 0) (C := RX3) (T := TX3) (N := 9) hx hb htw inlX3 hown hK hP 0 rfl rfl 1 (by decide) (htw _ (ck_12 _ (List.mem_of_getElem? (i := 11) rfl))) (fun _ h9 => h9) rfl dX3_putFour_24 ?_
  refine lv_iload_n hx hb dX3_putFour_27 rfl (lv_at hl 2 rfl) ?_
  refine lv_iload_n hx hb dX3_putFour_28 rfl (lv_at hl 0 rfl) ?_
  refine lv_ishr hx hb dX3_putFour_29 ?_
  refine lv_i2b (v := (a0 >>> (24 &&& 31)).toInt8.toInt32) hx hb dX3_putFour_30 rfl ?_
  refine xg_bast hx hb hK hP hD hS 1 0 rfl rfl (by unfold vp_in; decide) dX3_putFour_31 (fun f_1 H locs hP hD hS => ?_)
  have hP : va_P (dC, dI) vwCl [(plx, .inr (3, [.ref lby, .int 0, .ref lco, .int 0, .int 0, .int 0, .int 0, .int 0, .int 0])), (lby, .inl (cB, 900, .inl f_1))] H := hP
  have hD : va_D A [(plx, .inr (3, [.ref lby, .int 0, .ref lco, .int 0, .int 0, .int 0, .int 0, .int 0, .int 0])), (lby, .inl (cB, 900, .inl f_1))] := hD
  refine lv_aload_n hx hb dX3_putFour_32 rfl (lv_at hl 1 rfl) ?_
  refine lv_dup hx hb dX3_putFour_33 rfl ?_
  refine va_get (D := (dC, dI)) (ci := 3) (v := .int 0) (C := RX3) (T := TX3) (N := 9) hx hb htw inlX3 hown hK hP 0 rfl rfl 1 (by decide) (htw _ (ck_12 _ (List.mem_of_getElem? (i := 11) rfl))) (fun _ h9 => h9) rfl dX3_putFour_34 ?_
  refine lv_iconst (v := 1) hx hb dX3_putFour_37 (by decide) ?_
  refine lv_iadd hx hb dX3_putFour_38 ?_
  refine lv_topi (fun z_2 ez_2 => ?_)
  obtain rfl : z_2 = 1 := ez_2.trans (by decide)
  refine va_put (D := (dC, dI)) (ci := 3) (v := .int 1) (ty := tyX3 1) (C := RX3) (T := TX3) (N := 9) hx hb htw inlX3 tyX3 tyX3_ok nmX3 hown hK hP hD hS 0 rfl rfl 1 (by decide) (htw _ (ck_12 _ (List.mem_of_getElem? (i := 11) rfl))) (fun _ h9 => h9) rfl (by decide +kernel) rfl rfl (Nat.le_of_ble_eq_true rfl) dX3_putFour_39 (fun H locs hP hD hS => ?_)
  have hP : va_P (dC, dI) vwCl [(plx, .inr (3, [.ref lby, .int 1, .ref lco, .int 0, .int 0, .int 0, .int 0, .int 0, .int 0])), (lby, .inl (cB, 900, .inl f_1))] H := hP
  have hD : va_D A [(plx, .inr (3, [.ref lby, .int 1, .ref lco, .int 0, .int 0, .int 0, .int 0, .int 0, .int 0])), (lby, .inl (cB, 900, .inl f_1))] := hD
  refine lv_iinc (v := 16) (lv' := [(2, .int 16), (0, .ref plx), (1, .int a0)]) hx hb dX3_putFour_42 hl (k := 0) rfl (by decide) (by decide) rfl (fun ls hl => ?_)
  refine lv_goto (tgt := 3) hx hb dX3_putFour_45 (by decide) ?_
  refine lv_iload_n hx hb dX3_putFour_3 rfl (lv_at hl 0 rfl) ?_
  refine lv_if_lt (tgt := 48) hx hb dX3_putFour_4 (by decide) (fun c => absurd c (by decide)) (fun _ => ?_)
  refine lv_aload_n hx hb dX3_putFour_7 rfl (lv_at hl 1 rfl) ?_
  refine va_get (D := (dC, dI)) (ci := 3) (v := .int 1) (C := RX3) (T := TX3) (N := 9) hx hb htw inlX3 hown hK hP 0 rfl rfl 1 (by decide) (htw _ (ck_12 _ (List.mem_of_getElem? (i := 11) rfl))) (fun _ h9 => h9) rfl dX3_putFour_8 ?_
  refine lv_aload_n hx hb dX3_putFour_11 rfl (lv_at hl 1 rfl) ?_
  refine va_get (D := (dC, dI)) (ci := 3) (v := .ref lby) (C := RX3) (T := TX3) (N := 9) hx hb htw inlX3 hown hK hP 0 rfl rfl 0 (by decide) (htw _ (ck_3 _ (List.mem_of_getElem? (i := 14) rfl))) (fun _ h9 => h9) rfl dX3_putFour_12 ?_
  refine va_alen hx hb hK hP 1 0 rfl rfl (v := 900) rfl dX3_putFour_15 ?_
  refine lv_icmp_ge (tgt := 48) hx hb dX3_putFour_16 (by decide) (fun c => absurd c (by decide)) (fun _ => ?_)
  refine lv_aload_n hx hb dX3_putFour_19 rfl (lv_at hl 1 rfl) ?_
  refine va_get (D := (dC, dI)) (ci := 3) (v := .ref lby) (C := RX3) (T := TX3) (N := 9) hx hb htw inlX3 hown hK hP 0 rfl rfl 0 (by decide) (htw _ (ck_3 _ (List.mem_of_getElem? (i := 14) rfl))) (fun _ h9 => h9) rfl dX3_putFour_20 ?_
  refine lv_aload_n hx hb dX3_putFour_23 rfl (lv_at hl 1 rfl) ?_
  refine va_get (D := (dC, dI)) (ci := 3) (v := .int 1) (C := RX3) (T := TX3) (N := 9) hx hb htw inlX3 hown hK hP 0 rfl rfl 1 (by decide) (htw _ (ck_12 _ (List.mem_of_getElem? (i := 11) rfl))) (fun _ h9 => h9) rfl dX3_putFour_24 ?_
  refine lv_iload_n hx hb dX3_putFour_27 rfl (lv_at hl 2 rfl) ?_
  refine lv_iload_n hx hb dX3_putFour_28 rfl (lv_at hl 0 rfl) ?_
  refine lv_ishr hx hb dX3_putFour_29 ?_
  refine lv_i2b (v := (a0 >>> (16 &&& 31)).toInt8.toInt32) hx hb dX3_putFour_30 rfl ?_
  refine xg_bast hx hb hK hP hD hS 1 0 rfl rfl (by unfold vp_in; decide) dX3_putFour_31 (fun f_3 H locs hP hD hS => ?_)
  have hP : va_P (dC, dI) vwCl [(plx, .inr (3, [.ref lby, .int 1, .ref lco, .int 0, .int 0, .int 0, .int 0, .int 0, .int 0])), (lby, .inl (cB, 900, .inl f_3))] H := hP
  have hD : va_D A [(plx, .inr (3, [.ref lby, .int 1, .ref lco, .int 0, .int 0, .int 0, .int 0, .int 0, .int 0])), (lby, .inl (cB, 900, .inl f_3))] := hD
  refine lv_aload_n hx hb dX3_putFour_32 rfl (lv_at hl 1 rfl) ?_
  refine lv_dup hx hb dX3_putFour_33 rfl ?_
  refine va_get (D := (dC, dI)) (ci := 3) (v := .int 1) (C := RX3) (T := TX3) (N := 9) hx hb htw inlX3 hown hK hP 0 rfl rfl 1 (by decide) (htw _ (ck_12 _ (List.mem_of_getElem? (i := 11) rfl))) (fun _ h9 => h9) rfl dX3_putFour_34 ?_
  refine lv_iconst (v := 1) hx hb dX3_putFour_37 (by decide) ?_
  refine lv_iadd hx hb dX3_putFour_38 ?_
  refine lv_topi (fun z_4 ez_4 => ?_)
  obtain rfl : z_4 = 2 := ez_4.trans (by decide)
  refine va_put (D := (dC, dI)) (ci := 3) (v := .int 2) (ty := tyX3 1) (C := RX3) (T := TX3) (N := 9) hx hb htw inlX3 tyX3 tyX3_ok nmX3 hown hK hP hD hS 0 rfl rfl 1 (by decide) (htw _ (ck_12 _ (List.mem_of_getElem? (i := 11) rfl))) (fun _ h9 => h9) rfl (by decide +kernel) rfl rfl (Nat.le_of_ble_eq_true rfl) dX3_putFour_39 (fun H locs hP hD hS => ?_)
  have hP : va_P (dC, dI) vwCl [(plx, .inr (3, [.ref lby, .int 2, .ref lco, .int 0, .int 0, .int 0, .int 0, .int 0, .int 0])), (lby, .inl (cB, 900, .inl f_3))] H := hP
  have hD : va_D A [(plx, .inr (3, [.ref lby, .int 2, .ref lco, .int 0, .int 0, .int 0, .int 0, .int 0, .int 0])), (lby, .inl (cB, 900, .inl f_3))] := hD
  refine lv_iinc (v := 8) (lv' := [(2, .int 8), (0, .ref plx), (1, .int a0)]) hx hb dX3_putFour_42 hl (k := 0) rfl (by decide) (by decide) rfl (fun ls hl => ?_)
  refine lv_goto (tgt := 3) hx hb dX3_putFour_45 (by decide) ?_
  refine lv_iload_n hx hb dX3_putFour_3 rfl (lv_at hl 0 rfl) ?_
  refine lv_if_lt (tgt := 48) hx hb dX3_putFour_4 (by decide) (fun c => absurd c (by decide)) (fun _ => ?_)
  refine lv_aload_n hx hb dX3_putFour_7 rfl (lv_at hl 1 rfl) ?_
  refine va_get (D := (dC, dI)) (ci := 3) (v := .int 2) (C := RX3) (T := TX3) (N := 9) hx hb htw inlX3 hown hK hP 0 rfl rfl 1 (by decide) (htw _ (ck_12 _ (List.mem_of_getElem? (i := 11) rfl))) (fun _ h9 => h9) rfl dX3_putFour_8 ?_
  refine lv_aload_n hx hb dX3_putFour_11 rfl (lv_at hl 1 rfl) ?_
  refine va_get (D := (dC, dI)) (ci := 3) (v := .ref lby) (C := RX3) (T := TX3) (N := 9) hx hb htw inlX3 hown hK hP 0 rfl rfl 0 (by decide) (htw _ (ck_3 _ (List.mem_of_getElem? (i := 14) rfl))) (fun _ h9 => h9) rfl dX3_putFour_12 ?_
  refine va_alen hx hb hK hP 1 0 rfl rfl (v := 900) rfl dX3_putFour_15 ?_
  refine lv_icmp_ge (tgt := 48) hx hb dX3_putFour_16 (by decide) (fun c => absurd c (by decide)) (fun _ => ?_)
  refine lv_aload_n hx hb dX3_putFour_19 rfl (lv_at hl 1 rfl) ?_
  refine va_get (D := (dC, dI)) (ci := 3) (v := .ref lby) (C := RX3) (T := TX3) (N := 9) hx hb htw inlX3 hown hK hP 0 rfl rfl 0 (by decide) (htw _ (ck_3 _ (List.mem_of_getElem? (i := 14) rfl))) (fun _ h9 => h9) rfl dX3_putFour_20 ?_
  refine lv_aload_n hx hb dX3_putFour_23 rfl (lv_at hl 1 rfl) ?_
  refine va_get (D := (dC, dI)) (ci := 3) (v := .int 2) (C := RX3) (T := TX3) (N := 9) hx hb htw inlX3 hown hK hP 0 rfl rfl 1 (by decide) (htw _ (ck_12 _ (List.mem_of_getElem? (i := 11) rfl))) (fun _ h9 => h9) rfl dX3_putFour_24 ?_
  refine lv_iload_n hx hb dX3_putFour_27 rfl (lv_at hl 2 rfl) ?_
  refine lv_iload_n hx hb dX3_putFour_28 rfl (lv_at hl 0 rfl) ?_
  refine lv_ishr hx hb dX3_putFour_29 ?_
  refine lv_i2b (v := (a0 >>> (8 &&& 31)).toInt8.toInt32) hx hb dX3_putFour_30 rfl ?_
  refine xg_bast hx hb hK hP hD hS 1 0 rfl rfl (by unfold vp_in; decide) dX3_putFour_31 (fun f_5 H locs hP hD hS => ?_)
  have hP : va_P (dC, dI) vwCl [(plx, .inr (3, [.ref lby, .int 2, .ref lco, .int 0, .int 0, .int 0, .int 0, .int 0, .int 0])), (lby, .inl (cB, 900, .inl f_5))] H := hP
  have hD : va_D A [(plx, .inr (3, [.ref lby, .int 2, .ref lco, .int 0, .int 0, .int 0, .int 0, .int 0, .int 0])), (lby, .inl (cB, 900, .inl f_5))] := hD
  refine lv_aload_n hx hb dX3_putFour_32 rfl (lv_at hl 1 rfl) ?_
  refine lv_dup hx hb dX3_putFour_33 rfl ?_
  refine va_get (D := (dC, dI)) (ci := 3) (v := .int 2) (C := RX3) (T := TX3) (N := 9) hx hb htw inlX3 hown hK hP 0 rfl rfl 1 (by decide) (htw _ (ck_12 _ (List.mem_of_getElem? (i := 11) rfl))) (fun _ h9 => h9) rfl dX3_putFour_34 ?_
  refine lv_iconst (v := 1) hx hb dX3_putFour_37 (by decide) ?_
  refine lv_iadd hx hb dX3_putFour_38 ?_
  refine lv_topi (fun z_6 ez_6 => ?_)
  obtain rfl : z_6 = 3 := ez_6.trans (by decide)
  refine va_put (D := (dC, dI)) (ci := 3) (v := .int 3) (ty := tyX3 1) (C := RX3) (T := TX3) (N := 9) hx hb htw inlX3 tyX3 tyX3_ok nmX3 hown hK hP hD hS 0 rfl rfl 1 (by decide) (htw _ (ck_12 _ (List.mem_of_getElem? (i := 11) rfl))) (fun _ h9 => h9) rfl (by decide +kernel) rfl rfl (Nat.le_of_ble_eq_true rfl) dX3_putFour_39 (fun H locs hP hD hS => ?_)
  have hP : va_P (dC, dI) vwCl [(plx, .inr (3, [.ref lby, .int 3, .ref lco, .int 0, .int 0, .int 0, .int 0, .int 0, .int 0])), (lby, .inl (cB, 900, .inl f_5))] H := hP
  have hD : va_D A [(plx, .inr (3, [.ref lby, .int 3, .ref lco, .int 0, .int 0, .int 0, .int 0, .int 0, .int 0])), (lby, .inl (cB, 900, .inl f_5))] := hD
  refine lv_iinc (v := 0) (lv' := [(2, .int 0), (0, .ref plx), (1, .int a0)]) hx hb dX3_putFour_42 hl (k := 0) rfl (by decide) (by decide) rfl (fun ls hl => ?_)
  refine lv_goto (tgt := 3) hx hb dX3_putFour_45 (by decide) ?_
  refine lv_iload_n hx hb dX3_putFour_3 rfl (lv_at hl 0 rfl) ?_
  refine lv_if_lt (tgt := 48) hx hb dX3_putFour_4 (by decide) (fun c => absurd c (by decide)) (fun _ => ?_)
  refine lv_aload_n hx hb dX3_putFour_7 rfl (lv_at hl 1 rfl) ?_
  refine va_get (D := (dC, dI)) (ci := 3) (v := .int 3) (C := RX3) (T := TX3) (N := 9) hx hb htw inlX3 hown hK hP 0 rfl rfl 1 (by decide) (htw _ (ck_12 _ (List.mem_of_getElem? (i := 11) rfl))) (fun _ h9 => h9) rfl dX3_putFour_8 ?_
  refine lv_aload_n hx hb dX3_putFour_11 rfl (lv_at hl 1 rfl) ?_
  refine va_get (D := (dC, dI)) (ci := 3) (v := .ref lby) (C := RX3) (T := TX3) (N := 9) hx hb htw inlX3 hown hK hP 0 rfl rfl 0 (by decide) (htw _ (ck_3 _ (List.mem_of_getElem? (i := 14) rfl))) (fun _ h9 => h9) rfl dX3_putFour_12 ?_
  refine va_alen hx hb hK hP 1 0 rfl rfl (v := 900) rfl dX3_putFour_15 ?_
  refine lv_icmp_ge (tgt := 48) hx hb dX3_putFour_16 (by decide) (fun c => absurd c (by decide)) (fun _ => ?_)
  refine lv_aload_n hx hb dX3_putFour_19 rfl (lv_at hl 1 rfl) ?_
  refine va_get (D := (dC, dI)) (ci := 3) (v := .ref lby) (C := RX3) (T := TX3) (N := 9) hx hb htw inlX3 hown hK hP 0 rfl rfl 0 (by decide) (htw _ (ck_3 _ (List.mem_of_getElem? (i := 14) rfl))) (fun _ h9 => h9) rfl dX3_putFour_20 ?_
  refine lv_aload_n hx hb dX3_putFour_23 rfl (lv_at hl 1 rfl) ?_
  refine va_get (D := (dC, dI)) (ci := 3) (v := .int 3) (C := RX3) (T := TX3) (N := 9) hx hb htw inlX3 hown hK hP 0 rfl rfl 1 (by decide) (htw _ (ck_12 _ (List.mem_of_getElem? (i := 11) rfl))) (fun _ h9 => h9) rfl dX3_putFour_24 ?_
  refine lv_iload_n hx hb dX3_putFour_27 rfl (lv_at hl 2 rfl) ?_
  refine lv_iload_n hx hb dX3_putFour_28 rfl (lv_at hl 0 rfl) ?_
  refine lv_ishr hx hb dX3_putFour_29 ?_
  refine lv_i2b (v := (a0 >>> (0 &&& 31)).toInt8.toInt32) hx hb dX3_putFour_30 rfl ?_
  refine xg_bast hx hb hK hP hD hS 1 0 rfl rfl (by unfold vp_in; decide) dX3_putFour_31 (fun f_7 H locs hP hD hS => ?_)
  have hP : va_P (dC, dI) vwCl [(plx, .inr (3, [.ref lby, .int 3, .ref lco, .int 0, .int 0, .int 0, .int 0, .int 0, .int 0])), (lby, .inl (cB, 900, .inl f_7))] H := hP
  have hD : va_D A [(plx, .inr (3, [.ref lby, .int 3, .ref lco, .int 0, .int 0, .int 0, .int 0, .int 0, .int 0])), (lby, .inl (cB, 900, .inl f_7))] := hD
  refine lv_aload_n hx hb dX3_putFour_32 rfl (lv_at hl 1 rfl) ?_
  refine lv_dup hx hb dX3_putFour_33 rfl ?_
  refine va_get (D := (dC, dI)) (ci := 3) (v := .int 3) (C := RX3) (T := TX3) (N := 9) hx hb htw inlX3 hown hK hP 0 rfl rfl 1 (by decide) (htw _ (ck_12 _ (List.mem_of_getElem? (i := 11) rfl))) (fun _ h9 => h9) rfl dX3_putFour_34 ?_
  refine lv_iconst (v := 1) hx hb dX3_putFour_37 (by decide) ?_
  refine lv_iadd hx hb dX3_putFour_38 ?_
  refine lv_topi (fun z_8 ez_8 => ?_)
  obtain rfl : z_8 = 4 := ez_8.trans (by decide)
  refine va_put (D := (dC, dI)) (ci := 3) (v := .int 4) (ty := tyX3 1) (C := RX3) (T := TX3) (N := 9) hx hb htw inlX3 tyX3 tyX3_ok nmX3 hown hK hP hD hS 0 rfl rfl 1 (by decide) (htw _ (ck_12 _ (List.mem_of_getElem? (i := 11) rfl))) (fun _ h9 => h9) rfl (by decide +kernel) rfl rfl (Nat.le_of_ble_eq_true rfl) dX3_putFour_39 (fun H locs hP hD hS => ?_)
  have hP : va_P (dC, dI) vwCl [(plx, .inr (3, [.ref lby, .int 4, .ref lco, .int 0, .int 0, .int 0, .int 0, .int 0, .int 0])), (lby, .inl (cB, 900, .inl f_7))] H := hP
  have hD : va_D A [(plx, .inr (3, [.ref lby, .int 4, .ref lco, .int 0, .int 0, .int 0, .int 0, .int 0, .int 0])), (lby, .inl (cB, 900, .inl f_7))] := hD
  refine lv_iinc (v := (-8)) (lv' := [(2, .int (-8)), (0, .ref plx), (1, .int a0)]) hx hb dX3_putFour_42 hl (k := 0) rfl (by decide) (by decide) rfl (fun ls hl => ?_)
  refine lv_goto (tgt := 3) hx hb dX3_putFour_45 (by decide) ?_
  refine lv_iload_n hx hb dX3_putFour_3 rfl (lv_at hl 0 rfl) ?_
  refine lv_if_lt (tgt := 48) hx hb dX3_putFour_4 (by decide) (fun _ => ?_) (fun c => absurd c (by decide))
  refine W.widen (k := 0) (n := 0) (by omega) (by omega) ?_
  have hP9 := hP.sub (ws' := [(plx, .inr (3, [.ref lby, .int 4, .ref lco, .int 0, .int 0, .int 0, .int 0, .int 0, .int 0])), (lby, .inl (cB, 900, .inl f_7))]) [0, 1] rfl
  have hD9 := hD.sub (ws' := [(plx, .inr (3, [.ref lby, .int 4, .ref lco, .int 0, .int 0, .int 0, .int 0, .int 0, .int 0])), (lby, .inl (cB, 900, .inl f_7))]) [0, 1] (by decide) rfl
  have hK9 := hK.sub (tys' := []) [] rfl
  exact W.vret hx hb hr (fun t ht hW => ⟨⟨f_7, rfl, trivial, by rw [ht]; exact hP9, va_K.moved hW.alike hK9, hD9⟩, hS.F ht⟩) hS.2.2 dX3_putFour_48

set_option maxHeartbeats 4000000 in
set_option maxRecDepth 100000 in
/-- four bytes more, 4 are there -/
theorem mt_put4 (l : Launch) (dC : Nat → ClassId) (dI : Nat → Nat → Nat) (plx : Nat) (lby : Nat) (lco : Nat) (cB : ClassId) (fB : Nat → Int32) (a0 : Int32) (sz : Nat) : Met l yX3_putFour (Cond.code yX3_putFour cX3_putFour 3 none :: wsL_law) ({ frames := 0, cells := 0, slots := 0, locals := 0 }) (va_Pc [.ref plx, .int a0] (fun U => U.heap.size = sz ∧ va_P (dC, dI) vwCl [(plx, .inr (3, [.ref lby, .int 4, .ref lco, .int 0, .int 0, .int 0, .int 0, .int 0, .int 0])), (lby, .inl (cB, 900, .inl fB))] U.heap ∧ va_K (dC, dI) vwCl [(cB, .byte)] U ∧ va_D (fun _ => True) [(plx, .inr (3, [.ref lby, .int 4, .ref lco, .int 0, .int 0, .int 0, .int 0, .int 0, .int 0])), (lby, .inl (cB, 900, .inl fB))])) (va_Qv (fun (u : (Nat → Int32)) => True) (fun (u : (Nat → Int32)) t => va_P (dC, dI) vwCl [(plx, .inr (3, [.ref lby, .int 8, .ref lco, .int 0, .int 0, .int 0, .int 0, .int 0, .int 0])), (lby, .inl (cB, 900, .inl u))] t.heap ∧ va_K (dC, dI) vwCl [] t ∧ va_D (va_A [(plx, .inr (3, [.ref lby, .int 4, .ref lco, .int 0, .int 0, .int 0, .int 0, .int 0, .int 0])), (lby, .inl (cB, 900, .inl fB))] sz) [(plx, .inr (3, [.ref lby, .int 8, .ref lco, .int 0, .int 0, .int 0, .int 0, .int 0, .int 0])), (lby, .inl (cB, 900, .inl u))]) (va_A [(plx, .inr (3, [.ref lby, .int 4, .ref lco, .int 0, .int 0, .int 0, .int 0, .int 0, .int 0])), (lby, .inl (cB, 900, .inl fB))] sz)) 0 0 (va_A [(plx, .inr (3, [.ref lby, .int 4, .ref lco, .int 0, .int 0, .int 0, .int 0, .int 0, .int 0])), (lby, .inl (cB, 900, .inl fB))] sz) := by
  refine Met.ofW (cc := cX3_putFour) (maxL := 3) (ret := none) (by decide) rfl ?_
  intro p e s m args below meth c s₁ B hml hv
  obtain ⟨rfl, hsz, hP, hK, hD0⟩ := hv
  have hx := B.exec
  have hb := B.bytes
  have hr := B.returns
  have hts := atoms_spec (ws := Cond.code yX3_putFour cX3_putFour 3 none :: wsL_law) B.pre
  have htw : ∀ w ∈ wsL_law, w.before _ s = true := fun w h => hts w (List.mem_cons_of_mem _ h)
  have hown : s.vm.findClass RX3 = some m.cls := findClass_of_methodNamed B.named
  have hlocks := B.notSynchronized
  subst hsz
  have hD := hD0.self (sz := s.heap.size)
  generalize hAe : va_A [(plx, .inr (3, [.ref lby, .int 4, .ref lco, .int 0, .int 0, .int 0, .int 0, .int 0, .int 0])), (lby, .inl (cB, 900, .inl fB))] s.heap.size = A at hD ⊢
  have hA : ∀ q : Nat, s.heap.size ≤ q → A q := fun q h => by rw [← hAe]; exact Or.inr h
  obtain ⟨H, rH⟩ : ∃ z : Heap, z = s.heap := ⟨_, rfl⟩
  have hS : va_S A s.heap H [] := by rw [rH]; exact va_S.rf
  have hP : va_P (dC, dI) vwCl [(plx, .inr (3, [.ref lby, .int 4, .ref lco, .int 0, .int 0, .int 0, .int 0, .int 0, .int 0])), (lby, .inl (cB, 900, .inl fB))] H := by rw [rH]; exact hP
  rw [← rH]
  have hl := lv_entry ([.ref plx, .int a0]) (n := 3) (Nat.le_of_ble_eq_true rfl)
  rw [lg_entry_eq]
  generalize (lg_sl ([.ref plx, .int a0]) ++ List.replicate (3 - (lg_sl ([.ref plx, .int a0])).length) Slot.unset).toArray = ls at hl ⊢
  have hl : lv_has ls 3 [(0, .ref plx), (1, .int a0)] := hl
  refine lv_bipush (v := 24) hx hb dX3_putFour_0 (by decide) ?_
  refine lv_istore_n (lv' := [(2, .int 24), (0, .ref plx), (1, .int a0)]) hx hb dX3_putFour_2 rfl hl (by decide) rfl (fun ls hl => ?_)
  refine lv_iload_n hx hb dX3_putFour_3 rfl (lv_at hl 0 rfl) ?_
  refine lv_if_lt (tgt := 48) hx hb dX3_putFour_4 (by decide) (fun c => absurd c (by decide)) (fun _ => ?_)
  refine lv_aload_n hx hb dX3_putFour_7 rfl (lv_at hl 1 rfl) ?_
  refine va_get (D := (dC, dI)) (ci := 3) (v := .int 4) (C := RX3) (T := TX3) (N := 9) hx hb htw inlX3 hown hK hP 0 rfl rfl 1 (by decide) (htw _ (ck_12 _ (List.mem_of_getElem? (i := 11) rfl))) (fun _ h9 => h9) rfl dX3_putFour_8 ?_
  refine lv_aload_n hx hb dX3_putFour_11 rfl (lv_at hl 1 rfl) ?_
  refine va_get (D := (dC, dI)) (ci := 3) (v := .ref lby) (C := RX3) (T := TX3) (N := 9) hx hb htw inlX3 hown hK hP 0 rfl rfl 0 (by decide) (htw _ (ck_3 _ (List.mem_of_getElem? (i := 14) rfl))) (fun _ h9 => h9) rfl dX3_putFour_12 ?_
  refine va_alen hx hb hK hP 1 0 rfl rfl (v := 900) rfl dX3_putFour_15 ?_
  refine lv_icmp_ge (tgt := 48) hx hb dX3_putFour_16 (by decide) (fun c => absurd c (by decide)) (fun _ => ?_)
  refine lv_aload_n hx hb dX3_putFour_19 rfl (lv_at hl 1 rfl) ?_
  refine va_get (D := (dC, dI)) (ci := 3) (v := .ref lby) (C := RX3) (T := TX3) (N := 9) hx hb htw inlX3 hown hK hP 0 rfl rfl 0 (by decide) (htw _ (ck_3 _ (List.mem_of_getElem? (i := 14) rfl))) (fun _ h9 => h9) rfl dX3_putFour_20 ?_
  refine lv_aload_n hx hb dX3_putFour_23 rfl (lv_at hl 1 rfl) ?_
  refine va_get (D := (dC, dI)) (ci := 3) (v := .int 4) (C := RX3) (T := TX3) (N := 9) hx hb htw inlX3 hown hK hP 0 rfl rfl 1 (by decide) (htw _ (ck_12 _ (List.mem_of_getElem? (i := 11) rfl))) (fun _ h9 => h9) rfl dX3_putFour_24 ?_
  refine lv_iload_n hx hb dX3_putFour_27 rfl (lv_at hl 2 rfl) ?_
  refine lv_iload_n hx hb dX3_putFour_28 rfl (lv_at hl 0 rfl) ?_
  refine lv_ishr hx hb dX3_putFour_29 ?_
  refine lv_i2b (v := (a0 >>> (24 &&& 31)).toInt8.toInt32) hx hb dX3_putFour_30 rfl ?_
  refine xg_bast hx hb hK hP hD hS 1 0 rfl rfl (by unfold vp_in; decide) dX3_putFour_31 (fun f_1 H locs hP hD hS => ?_)
  have hP : va_P (dC, dI) vwCl [(plx, .inr (3, [.ref lby, .int 4, .ref lco, .int 0, .int 0, .int 0, .int 0, .int 0, .int 0])), (lby, .inl (cB, 900, .inl f_1))] H := hP
  have hD : va_D A [(plx, .inr (3, [.ref lby, .int 4, .ref lco, .int 0, .int 0, .int 0, .int 0, .int 0, .int 0])), (lby, .inl (cB, 900, .inl f_1))] := hD
  refine lv_aload_n hx hb dX3_putFour_32 rfl (lv_at hl 1 rfl) ?_
  refine lv_dup hx hb dX3_putFour_33 rfl ?_
  refine va_get (D := (dC, dI)) (ci := 3) (v := .int 4) (C := RX3) (T := TX3) (N := 9) hx hb htw inlX3 hown hK hP 0 rfl rfl 1 (by decide) (htw _ (ck_12 _ (List.mem_of_getElem? (i := 11) rfl))) (fun _ h9 => h9) rfl dX3_putFour_34 ?_
  refine lv_iconst (v := 1) hx hb dX3_putFour_37 (by decide) ?_
  refine lv_iadd hx hb dX3_putFour_38 ?_
  refine lv_topi (fun z_2 ez_2 => ?_)
  obtain rfl : z_2 = 5 := ez_2.trans (by decide)
  refine va_put (D := (dC, dI)) (ci := 3) (v := .int 5) (ty := tyX3 1) (C := RX3) (T := TX3) (N := 9) hx hb htw inlX3 tyX3 tyX3_ok nmX3 hown hK hP hD hS 0 rfl rfl 1 (by decide) (htw _ (ck_12 _ (List.mem_of_getElem? (i := 11) rfl))) (fun _ h9 => h9) rfl (by decide +kernel) rfl rfl (Nat.le_of_ble_eq_true rfl) dX3_putFour_39 (fun H locs hP hD hS => ?_)
  have hP : va_P (dC, dI) vwCl [(plx, .inr (3, [.ref lby, .int 5, .ref lco, .int 0, .int 0, .int 0, .int 0, .int 0, .int 0])), (lby, .inl (cB, 900, .inl f_1))] H := hP
  have hD : va_D A [(plx, .inr (3, [.ref lby, .int 5, .ref lco, .int 0, .int 0, .int 0, .int 0, .int 0, .int 0])), (lby, .inl (cB, 900, .inl f_1))] := hD
  refine lv_iinc (v := 16) (lv' := [(2, .int 16), (0, .ref plx), (1, .int a0)]) hx hb dX3_putFour_42 hl (k := 0) rfl (by decide) (by decide) rfl (fun ls hl => ?_)
  refine lv_goto (tgt := 3) hx hb dX3_putFour_45 (by decide) ?_
  refine lv_iload_n hx hb dX3_putFour_3 rfl (lv_at hl 0 rfl) ?_
  refine lv_if_lt (tgt := 48) hx hb dX3_putFour_4 (by decide) (fun c => absurd c (by decide)) (fun _ => ?_)
  refine lv_aload_n hx hb dX3_putFour_7 rfl (lv_at hl 1 rfl) ?_
  refine va_get (D := (dC, dI)) (ci := 3) (v := .int 5) (C := RX3) (T := TX3) (N := 9) hx hb htw inlX3 hown hK hP 0 rfl rfl 1 (by decide) (htw _ (ck_12 _ (List.mem_of_getElem? (i := 11) rfl))) (fun _ h9 => h9) rfl dX3_putFour_8 ?_
  refine lv_aload_n hx hb dX3_putFour_11 rfl (lv_at hl 1 rfl) ?_
  refine va_get (D := (dC, dI)) (ci := 3) (v := .ref lby) (C := RX3) (T := TX3) (N := 9) hx hb htw inlX3 hown hK hP 0 rfl rfl 0 (by decide) (htw _ (ck_3 _ (List.mem_of_getElem? (i := 14) rfl))) (fun _ h9 => h9) rfl dX3_putFour_12 ?_
  refine va_alen hx hb hK hP 1 0 rfl rfl (v := 900) rfl dX3_putFour_15 ?_
  refine lv_icmp_ge (tgt := 48) hx hb dX3_putFour_16 (by decide) (fun c => absurd c (by decide)) (fun _ => ?_)
  refine lv_aload_n hx hb dX3_putFour_19 rfl (lv_at hl 1 rfl) ?_
  refine va_get (D := (dC, dI)) (ci := 3) (v := .ref lby) (C := RX3) (T := TX3) (N := 9) hx hb htw inlX3 hown hK hP 0 rfl rfl 0 (by decide) (htw _ (ck_3 _ (List.mem_of_getElem? (i := 14) rfl))) (fun _ h9 => h9) rfl dX3_putFour_20 ?_
  refine lv_aload_n hx hb dX3_putFour_23 rfl (lv_at hl 1 rfl) ?_
  refine va_get (D := (dC, dI)) (ci := 3) (v := .int 5) (C := RX3) (T := TX3) (N := 9) hx hb htw inlX3 hown hK hP 0 rfl rfl 1 (by decide) (htw _ (ck_12 _ (List.mem_of_getElem? (i := 11) rfl))) (fun _ h9 => h9) rfl dX3_putFour_24 ?_
  refine lv_iload_n hx hb dX3_putFour_27 rfl (lv_at hl 2 rfl) ?_
  refine lv_iload_n hx hb dX3_putFour_28 rfl (lv_at hl 0 rfl) ?_
  refine lv_ishr hx hb dX3_putFour_29 ?_
  refine lv_i2b (v := (a0 >>> (16 &&& 31)).toInt8.toInt32) hx hb dX3_putFour_30 rfl ?_
  refine xg_bast hx hb hK hP hD hS 1 0 rfl rfl (by unfold vp_in; decide) dX3_putFour_31 (fun f_3 H locs hP hD hS => ?_)
  have hP : va_P (dC, dI) vwCl [(plx, .inr (3, [.ref lby, .int 5, .ref lco, .int 0, .int 0, .int 0, .int 0, .int 0, .int 0])), (lby, .inl (cB, 900, .inl f_3))] H := hP
  have hD : va_D A [(plx, .inr (3, [.ref lby, .int 5, .ref lco, .int 0, .int 0, .int 0, .int 0, .int 0, .int 0])), (lby, .inl (cB, 900, .inl f_3))] := hD
  refine lv_aload_n hx hb dX3_putFour_32 rfl (lv_at hl 1 rfl) ?_
  refine lv_dup hx hb dX3_putFour_33 rfl ?_
  refine va_get (D := (dC, dI)) (ci := 3) (v := .int 5) (C := RX3) (T := TX3) (N := 9) hx hb htw inlX3 hown hK hP 0 rfl rfl 1 (by decide) (htw _ (ck_12 _ (List.mem_of_getElem? (i := 11) rfl))) (fun _ h9 => h9) rfl dX3_putFour_34 ?_
  refine lv_iconst (v := 1) hx hb dX3_putFour_37 (by decide) ?_
  refine lv_iadd hx hb dX3_putFour_38 ?_
  refine lv_topi (fun z_4 ez_4 => ?_)
  obtain rfl : z_4 = 6 := ez_4.trans (by decide)
  refine va_put (D := (dC, dI)) (ci := 3) (v := .int 6) (ty := tyX3 1) (C := RX3) (T := TX3) (N := 9) hx hb htw inlX3 tyX3 tyX3_ok nmX3 hown hK hP hD hS 0 rfl rfl 1 (by decide) (htw _ (ck_12 _ (List.mem_of_getElem? (i := 11) rfl))) (fun _ h9 => h9) rfl (by decide +kernel) rfl rfl (Nat.le_of_ble_eq_true rfl) dX3_putFour_39 (fun H locs hP hD hS => ?_)
  have hP : va_P (dC, dI) vwCl [(plx, .inr (3, [.ref lby, .int 6, .ref lco, .int 0, .int 0, .int 0, .int 0, .int 0, .int 0])), (lby, .inl (cB, 900, .inl f_3))] H := hP
  have hD : va_D A [(plx, .inr (3, [.ref lby, .int 6, .ref lco, .int 0, .int 0, .int 0, .int 0, .int 0, .int 0])), (lby, .inl (cB, 900, .inl f_3))] := hD
  refine lv_iinc (v := 8) (lv' := [(2, .int 8), (0, .ref plx), (1, .int a0)]) hx hb dX3_putFour_42 hl (k := 0) rfl (by decide) (by decide) rfl (fun ls hl => ?_)
  refine lv_goto (tgt := 3) hx hb dX3_putFour_45 (by decide) ?_
  refine lv_iload_n hx hb dX3_putFour_3 rfl (lv_at hl 0 rfl) ?_
  refine lv_if_lt (tgt := 48) hx hb dX3_putFour_4 (by decide) (fun c => absurd c (by decide)) (fun _ => ?_)
  refine lv_aload_n hx hb dX3_putFour_7 rfl (lv_at hl 1 rfl) ?_
  refine va_get (D := (dC, dI)) (ci := 3) (v := .int 6) (C := RX3) (T := TX3) (N := 9) hx hb htw inlX3 hown hK hP 0 rfl rfl 1 (by decide) (htw _ (ck_12 _ (List.mem_of_getElem? (i := 11) rfl))) (fun _ h9 => h9) rfl dX3_putFour_8 ?_
  refine lv_aload_n hx hb dX3_putFour_11 rfl (lv_at hl 1 rfl) ?_
  refine va_get (D := (dC, dI)) (ci := 3) (v := .ref lby) (C := RX3) (T := TX3) (N := 9) hx hb htw inlX3 hown hK hP 0 rfl rfl 0 (by decide) (htw _ (ck_3 _ (List.mem_of_getElem? (i := 14) rfl))) (fun _ h9 => h9) rfl dX3_putFour_12 ?_
  refine va_alen hx hb hK hP 1 0 rfl rfl (v := 900) rfl dX3_putFour_15 ?_
  refine lv_icmp_ge (tgt := 48) hx hb dX3_putFour_16 (by decide) (fun c => absurd c (by decide)) (fun _ => ?_)
  refine lv_aload_n hx hb dX3_putFour_19 rfl (lv_at hl 1 rfl) ?_
  refine va_get (D := (dC, dI)) (ci := 3) (v := .ref lby) (C := RX3) (T := TX3) (N := 9) hx hb htw inlX3 hown hK hP 0 rfl rfl 0 (by decide) (htw _ (ck_3 _ (List.mem_of_getElem? (i := 14) rfl))) (fun _ h9 => h9) rfl dX3_putFour_20 ?_
  refine lv_aload_n hx hb dX3_putFour_23 rfl (lv_at hl 1 rfl) ?_
  refine va_get (D := (dC, dI)) (ci := 3) (v := .int 6) (C := RX3) (T := TX3) (N := 9) hx hb htw inlX3 hown hK hP 0 rfl rfl 1 (by decide) (htw _ (ck_12 _ (List.mem_of_getElem? (i := 11) rfl))) (fun _ h9 => h9) rfl dX3_putFour_24 ?_
  refine lv_iload_n hx hb dX3_putFour_27 rfl (lv_at hl 2 rfl) ?_
  refine lv_iload_n hx hb dX3_putFour_28 rfl (lv_at hl 0 rfl) ?_
  refine lv_ishr hx hb dX3_putFour_29 ?_
  refine lv_i2b (v := (a0 >>> (8 &&& 31)).toInt8.toInt32) hx hb dX3_putFour_30 rfl ?_
  refine xg_bast hx hb hK hP hD hS 1 0 rfl rfl (by unfold vp_in; decide) dX3_putFour_31 (fun f_5 H locs hP hD hS => ?_)
  have hP : va_P (dC, dI) vwCl [(plx, .inr (3, [.ref lby, .int 6, .ref lco, .int 0, .int 0, .int 0, .int 0, .int 0, .int 0])), (lby, .inl (cB, 900, .inl f_5))] H := hP
  have hD : va_D A [(plx, .inr (3, [.ref lby, .int 6, .ref lco, .int 0, .int 0, .int 0, .int 0, .int 0, .int 0])), (lby, .inl (cB, 900, .inl f_5))] := hD
  refine lv_aload_n hx hb dX3_putFour_32 rfl (lv_at hl 1 rfl) ?_
  refine lv_dup hx hb dX3_putFour_33 rfl ?_
  refine va_get (D := (dC, dI)) (ci := 3) (v := .int 6) (C := RX3) (T := TX3) (N := 9) hx hb htw inlX3 hown hK hP 0 rfl rfl 1 (by decide) (htw _ (ck_12 _ (List.mem_of_getElem? (i := 11) rfl))) (fun _ h9 => h9) rfl dX3_putFour_34 ?_
  refine lv_iconst (v := 1) hx hb dX3_putFour_37 (by decide) ?_
  refine lv_iadd hx hb dX3_putFour_38 ?_
  refine lv_topi (fun z_6 ez_6 => ?_)
  obtain rfl : z_6 = 7 := ez_6.trans (by decide)
  refine va_put (D := (dC, dI)) (ci := 3) (v := .int 7) (ty := tyX3 1) (C := RX3) (T := TX3) (N := 9) hx hb htw inlX3 tyX3 tyX3_ok nmX3 hown hK hP hD hS 0 rfl rfl 1 (by decide) (htw _ (ck_12 _ (List.mem_of_getElem? (i := 11) rfl))) (fun _ h9 => h9) rfl (by decide +kernel) rfl rfl (Nat.le_of_ble_eq_true rfl) dX3_putFour_39 (fun H locs hP hD hS => ?_)
  have hP : va_P (dC, dI) vwCl [(plx, .inr (3, [.ref lby, .int 7, .ref lco, .int 0, .int 0, .int 0, .int 0, .int 0, .int 0])), (lby, .inl (cB, 900, .inl f_5))] H := hP
  have hD : va_D A [(plx, .inr (3, [.ref lby, .int 7, .ref lco, .int 0, .int 0, .int 0, .int 0, .int 0, .int 0])), (lby, .inl (cB, 900, .inl f_5))] := hD
  refine lv_iinc (v := 0) (lv' := [(2, .int 0), (0, .ref plx), (1, .int a0)]) hx hb dX3_putFour_42 hl (k := 0) rfl (by decide) (by decide) rfl (fun ls hl => ?_)
  refine lv_goto (tgt := 3) hx hb dX3_putFour_45 (by decide) ?_
  refine lv_iload_n hx hb dX3_putFour_3 rfl (lv_at hl 0 rfl) ?_
  refine lv_if_lt (tgt := 48) hx hb dX3_putFour_4 (by decide) (fun c => absurd c (by decide)) (fun _ => ?_)
  refine lv_aload_n hx hb dX3_putFour_7 rfl (lv_at hl 1 rfl) ?_
  refine va_get (D := (dC, dI)) (ci := 3) (v := .int 7) (C := RX3) (T := TX3) (N := 9) hx hb htw inlX3 hown hK hP 0 rfl rfl 1 (by decide) (htw _ (ck_12 _ (List.mem_of_getElem? (i := 11) rfl))) (fun _ h9 => h9) rfl dX3_putFour_8 ?_
  refine lv_aload_n hx hb dX3_putFour_11 rfl (lv_at hl 1 rfl) ?_
  refine va_get (D := (dC, dI)) (ci := 3) (v := .ref lby) (C := RX3) (T := TX3) (N := 9) hx hb htw inlX3 hown hK hP 0 rfl rfl 0 (by decide) (htw _ (ck_3 _ (List.mem_of_getElem? (i := 14) rfl))) (fun _ h9 => h9) rfl dX3_putFour_12 ?_
  refine va_alen hx hb hK hP 1 0 rfl rfl (v := 900) rfl dX3_putFour_15 ?_
  refine lv_icmp_ge (tgt := 48) hx hb dX3_putFour_16 (by decide) (fun c => absurd c (by decide)) (fun _ => ?_)
  refine lv_aload_n hx hb dX3_putFour_19 rfl (lv_at hl 1 rfl) ?_
  refine va_get (D := (dC, dI)) (ci := 3) (v := .ref lby) (C := RX3) (T := TX3) (N := 9) hx hb htw inlX3 hown hK hP 0 rfl rfl 0 (by decide) (htw _ (ck_3 _ (List.mem_of_getElem? (i := 14) rfl))) (fun _ h9 => h9) rfl dX3_putFour_20 ?_
  refine lv_aload_n hx hb dX3_putFour_23 rfl (lv_at hl 1 rfl) ?_
  refine va_get (D := (dC, dI)) (ci := 3) (v := .int 7) (C := RX3) (T := TX3) (N := 9) hx hb htw inlX3 hown hK hP 0 rfl rfl 1 (by decide) (htw _ (ck_12 _ (List.mem_of_getElem? (i := 11) rfl))) (fun _ h9 => h9) rfl dX3_putFour_24 ?_
  refine lv_iload_n hx hb dX3_putFour_27 rfl (lv_at hl 2 rfl) ?_
  refine lv_iload_n hx hb dX3_putFour_28 rfl (lv_at hl 0 rfl) ?_
  refine lv_ishr hx hb dX3_putFour_29 ?_
  refine lv_i2b (v := (a0 >>> (0 &&& 31)).toInt8.toInt32) hx hb dX3_putFour_30 rfl ?_
  refine xg_bast hx hb hK hP hD hS 1 0 rfl rfl (by unfold vp_in; decide) dX3_putFour_31 (fun f_7 H locs hP hD hS => ?_)
  have hP : va_P (dC, dI) vwCl [(plx, .inr (3, [.ref lby, .int 7, .ref lco, .int 0, .int 0, .int 0, .int 0, .int 0, .int 0])), (lby, .inl (cB, 900, .inl f_7))] H := hP
  have hD : va_D A [(plx, .inr (3, [.ref lby, .int 7, .ref lco, .int 0, .int 0, .int 0, .int 0, .int 0, .int 0])), (lby, .inl (cB, 900, .inl f_7))] := hD
  refine lv_aload_n hx hb dX3_putFour_32 rfl (lv_at hl 1 rfl) ?_
  refine lv_dup hx hb dX3_putFour_33 rfl ?_
  refine va_get (D := (dC, dI)) (ci := 3) (v := .int 7) (C := RX3) (T := TX3) (N := 9) hx hb htw inlX3 hown hK hP 0 rfl rfl 1 (by decide) (htw _ (ck_12 _ (List.mem_of_getElem? (i := 11) rfl))) (fun _ h9 => h9) rfl dX3_putFour_34 ?_
  refine lv_iconst (v := 1) hx hb dX3_putFour_37 (by decide) ?_
  refine lv_iadd hx hb dX3_putFour_38 ?_
  refine lv_topi (fun z_8 ez_8 => ?_)
  obtain rfl : z_8 = 8 := ez_8.trans (by decide)
  refine va_put (D := (dC, dI)) (ci := 3) (v := .int 8) (ty := tyX3 1) (C := RX3) (T := TX3) (N := 9) hx hb htw inlX3 tyX3 tyX3_ok nmX3 hown hK hP hD hS 0 rfl rfl 1 (by decide) (htw _ (ck_12 _ (List.mem_of_getElem? (i := 11) rfl))) (fun _ h9 => h9) rfl (by decide +kernel) rfl rfl (Nat.le_of_ble_eq_true rfl) dX3_putFour_39 (fun H locs hP hD hS => ?_)
  have hP : va_P (dC, dI) vwCl [(plx, .inr (3, [.ref lby, .int 8, .ref lco, .int 0, .int 0, .int 0, .int 0, .int 0, .int 0])), (lby, .inl (cB, 900, .inl f_7))] H := hP
  have hD : va_D A [(plx, .inr (3, [.ref lby, .int 8, .ref lco, .int 0, .int 0, .int 0, .int 0, .int 0, .int 0])), (lby, .inl (cB, 900, .inl f_7))] := hD
  refine lv_iinc (v := (-8)) (lv' := [(2, .int (-8)), (0, .ref plx), (1, .int a0)]) hx hb dX3_putFour_42 hl (k := 0) rfl (by decide) (by decide) rfl (fun ls hl => ?_)
  refine lv_goto (tgt := 3) hx hb dX3_putFour_45 (by decide) ?_
  refine lv_iload_n hx hb dX3_putFour_3 rfl (lv_at hl 0 rfl) ?_
  refine lv_if_lt (tgt := 48) hx hb dX3_putFour_4 (by decide) (fun _ => ?_) (fun c => absurd c (by decide))
  refine W.widen (k := 0) (n := 0) (by omega) (by omega) ?_
  have hP9 := hP.sub (ws' := [(plx, .inr (3, [.ref lby, .int 8, .ref lco, .int 0, .int 0, .int 0, .int 0, .int 0, .int 0])), (lby, .inl (cB, 900, .inl f_7))]) [0, 1] rfl
  have hD9 := hD.sub (ws' := [(plx, .inr (3, [.ref lby, .int 8, .ref lco, .int 0, .int 0, .int 0, .int 0, .int 0, .int 0])), (lby, .inl (cB, 900, .inl f_7))]) [0, 1] (by decide) rfl
  have hK9 := hK.sub (tys' := []) [] rfl
  exact W.vret hx hb hr (fun t ht hW => ⟨⟨f_7, rfl, trivial, by rw [ht]; exact hP9, va_K.moved hW.alike hK9, hD9⟩, hS.F ht⟩) hS.2.2 dX3_putFour_48

set_option maxHeartbeats 4000000 in
set_option maxRecDepth 100000 in
/-- four bytes more, 8 are there -/
theorem mt_put8 (l : Launch) (dC : Nat → ClassId) (dI : Nat → Nat → Nat) (plx : Nat) (lby : Nat) (lco : Nat) (cB : ClassId) (fB : Nat → Int32) (a0 : Int32) (sz : Nat) : Met l yX3_putFour (Cond.code yX3_putFour cX3_putFour 3 none :: wsL_law) ({ frames := 0, cells := 0, slots := 0, locals := 0 }) (va_Pc [.ref plx, .int a0] (fun U => U.heap.size = sz ∧ va_P (dC, dI) vwCl [(plx, .inr (3, [.ref lby, .int 8, .ref lco, .int 0, .int 0, .int 0, .int 0, .int 0, .int 0])), (lby, .inl (cB, 900, .inl fB))] U.heap ∧ va_K (dC, dI) vwCl [(cB, .byte)] U ∧ va_D (fun _ => True) [(plx, .inr (3, [.ref lby, .int 8, .ref lco, .int 0, .int 0, .int 0, .int 0, .int 0, .int 0])), (lby, .inl (cB, 900, .inl fB))])) (va_Qv (fun (u : (Nat → Int32)) => True) (fun (u : (Nat → Int32)) t => va_P (dC, dI) vwCl [(plx, .inr (3, [.ref lby, .int 12, .ref lco, .int 0, .int 0, .int 0, .int 0, .int 0, .int 0])), (lby, .inl (cB, 900, .inl u))] t.heap ∧ va_K (dC, dI) vwCl [] t ∧ va_D (va_A [(plx, .inr (3, [.ref lby, .int 8, .ref lco, .int 0, .int 0, .int 0, .int 0, .int 0, .int 0])), (lby, .inl (cB, 900, .inl fB))] sz) [(plx, .inr (3, [.ref lby, .int 12, .ref lco, .int 0, .int 0, .int 0, .int 0, .int 0, .int 0])), (lby, .inl (cB, 900, .inl u))]) (va_A [(plx, .inr (3, [.ref lby, .int 8, .ref lco, .int 0, .int 0, .int 0, .int 0, .int 0, .int 0])), (lby, .inl (cB, 900, .inl fB))] sz)) 0 0 (va_A [(plx, .inr (3, [.ref lby, .int 8, .ref lco, .int 0, .int 0, .int 0, .int 0, .int 0, .int 0])), (lby, .inl (cB, 900, .inl fB))] sz) := by
  refine Met.ofW (cc := cX3_putFour) (maxL := 3) (ret := none) (by decide) rfl ?_
  intro p e s m args below meth c s₁ B hml hv
  obtain ⟨rfl, hsz, hP, hK, hD0⟩ := hv
  have hx := B.exec
  have hb := B.bytes
  have hr := B.returns
  have hts := atoms_spec (ws := Cond.code yX3_putFour cX3_putFour 3 none :: wsL_law) B.pre
  have htw : ∀ w ∈ wsL_law, w.before _ s = true := fun w h => hts w (List.mem_cons_of_mem _ h)
  have hown : s.vm.findClass RX3 = some m.cls := findClass_of_methodNamed B.named
  have hlocks := B.notSynchronized
  subst hsz
  have hD := hD0.self (sz := s.heap.size)
  generalize hAe : va_A [(plx, .inr (3, [.ref lby, .int 8, .ref lco, .int 0, .int 0, .int 0, .int 0, .int 0, .int 0])), (lby, .inl (cB, 900, .inl fB))] s.heap.size = A at hD ⊢
  have hA : ∀ q : Nat, s.heap.size ≤ q → A q := fun q h => by rw [← hAe]; exact Or.inr h
  obtain ⟨H, rH⟩ : ∃ z : Heap, z = s.heap := ⟨_, rfl⟩
  have hS : va_S A s.heap H [] := by rw [rH]; exact va_S.rf
  have hP : va_P (dC, dI) vwCl [(plx, .inr (3, [.ref lby, .int 8, .ref lco, .int 0, .int 0, .int 0, .int 0, .int 0, .int 0])), (lby, .inl (cB, 900, .inl fB))] H := by rw [rH]; exact hP
  rw [← rH]
  have hl := lv_entry ([.ref plx, .int a0]) (n := 3) (Nat.le_of_ble_eq_true rfl)
  rw [lg_entry_eq]
  generalize (lg_sl ([.ref plx, .int a0]) ++ List.replicate (3 - (lg_sl ([.ref plx, .int a0])).length) Slot.unset).toArray = ls at hl ⊢
  have hl : lv_has ls 3 [(0, .ref plx), (1, .int a0)] := hl
  refine lv_bipush (v := 24) hx hb dX3_putFour_0 (by decide) ?_
  refine lv_istore_n (lv' := [(2, .int 24), (0, .ref plx), (1, .int a0)]) hx hb dX3_putFour_2 rfl hl (by decide) rfl (fun ls hl => ?_)
  refine lv_iload_n hx hb dX3_putFour_3 rfl (lv_at hl 0 rfl) ?_
  refine lv_if_lt (tgt := 48) hx hb dX3_putFour_4 (by decide) (fun c => absurd c (by decide)) (fun _ => ?_)
  refine lv_aload_n hx hb dX3_putFour_7 rfl (lv_at hl 1 rfl) ?_
  refine va_get (D := (dC, dI)) (ci := 3) (v := .int 8) (C := RX3) (T := TX3) (N := 9) hx hb htw inlX3 hown hK hP 0 rfl rfl 1 (by decide) (htw _ (ck_12 _ (List.mem_of_getElem? (i := 11) rfl))) (fun _ h9 => h9) rfl dX3_putFour_8 ?_
  refine lv_aload_n hx hb dX3_putFour_11 rfl (lv_at hl 1 rfl) ?_
  refine va_get (D := (dC, dI)) (ci := 3) (v := .ref lby) (C := RX3) (T := TX3) (N := 9) hx hb htw inlX3 hown hK hP 0 rfl rfl 0 (by decide) (htw _ (ck_3 _ (List.mem_of_getElem? (i := 14) rfl))) (fun _ h9 => h9) rfl dX3_putFour_12 ?_
  refine va_alen hx hb hK hP 1 0 rfl rfl (v := 900) rfl dX3_putFour_15 ?_
  refine lv_icmp_ge (tgt := 48) hx hb dX3_putFour_16 (by decide) (fun c => absurd c (by decide)) (fun _ => ?_)
  refine lv_aload_n hx hb dX3_putFour_19 rfl (lv_at hl 1 rfl) ?_
  refine va_get (D := (dC, dI)) (ci := 3) (v := .ref lby) (C := RX3) (T := TX3) (N := 9) hx hb htw inlX3 hown hK hP 0 rfl rfl 0 (by decide) (htw _ (ck_3 _ (List.mem_of_getElem? (i := 14) rfl))) (fun _ h9 => h9) rfl dX3_putFour_20 ?_
  refine lv_aload_n hx hb dX3_putFour_23 rfl (lv_at hl 1 rfl) ?_
  refine va_get (D := (dC, dI)) (ci := 3) (v := .int 8) (C := RX3) (T := TX3) (N := 9) hx hb htw inlX3 hown hK hP 0 rfl rfl 1 (by decide) (htw _ (ck_12 _ (List.mem_of_getElem? (i := 11) rfl))) (fun _ h9 => h9) rfl dX3_putFour_24 ?_
  refine lv_iload_n hx hb dX3_putFour_27 rfl (lv_at hl 2 rfl) ?_
  refine lv_iload_n hx hb dX3_putFour_28 rfl (lv_at hl 0 rfl) ?_
  refine lv_ishr hx hb dX3_putFour_29 ?_
  refine lv_i2b (v := (a0 >>> (24 &&& 31)).toInt8.toInt32) hx hb dX3_putFour_30 rfl ?_
  refine xg_bast hx hb hK hP hD hS 1 0 rfl rfl (by unfold vp_in; decide) dX3_putFour_31 (fun f_1 H locs hP hD hS => ?_)
  have hP : va_P (dC, dI) vwCl [(plx, .inr (3, [.ref lby, .int 8, .ref lco, .int 0, .int 0, .int 0, .int 0, .int 0, .int 0])), (lby, .inl (cB, 900, .inl f_1))] H := hP
  have hD : va_D A [(plx, .inr (3, [.ref lby, .int 8, .ref lco, .int 0, .int 0, .int 0, .int 0, .int 0, .int 0])), (lby, .inl (cB, 900, .inl f_1))] := hD
  refine lv_aload_n hx hb dX3_putFour_32 rfl (lv_at hl 1 rfl) ?_
  refine lv_dup hx hb dX3_putFour_33 rfl ?_
  refine va_get (D := (dC, dI)) (ci := 3) (v := .int 8) (C := RX3) (T := TX3) (N := 9) hx hb htw inlX3 hown hK hP 0 rfl rfl 1 (by decide) (htw _ (ck_12 _ (List.mem_of_getElem? (i := 11) rfl))) (fun _ h9 => h9) rfl dX3_putFour_34 ?_
  refine lv_iconst (v := 1) hx hb dX3_putFour_37 (by decide) ?_
  refine lv_iadd hx hb dX3_putFour_38 ?_
  refine lv_topi (fun z_2 ez_2 => ?_)
  obtain rfl : z_2 = 9 := ez_2.trans (by decide)
  refine va_put (D := (dC, dI)) (ci := 3) (v := .int 9) (ty := tyX3 1) (C := RX3) (T := TX3) (N := 9) hx hb htw inlX3 tyX3 tyX3_ok nmX3 hown hK hP hD hS 0 rfl rfl 1 (by decide) (htw _ (ck_12 _ (List.mem_of_getElem? (i := 11) rfl))) (fun _ h9 => h9) rfl (by decide +kernel) rfl rfl (Nat.le_of_ble_eq_true rfl) dX3_putFour_39 (fun H locs hP hD hS => ?_)
  have hP : va_P (dC, dI) vwCl [(plx, .inr (3, [.ref lby, .int 9, .ref lco, .int 0, .int 0, .int 0, .int 0, .int 0, .int 0])), (lby, .inl (cB, 900, .inl f_1))] H := hP
  have hD : va_D A [(plx, .inr (3, [.ref lby, .int 9, .ref lco, .int 0, .int 0, .int 0, .int 0, .int 0, .int 0])), (lby, .inl (cB, 900, .inl f_1))] := hD
  refine lv_iinc (v := 16) (lv' := [(2, .int 16), (0, .ref plx), (1, .int a0)]) hx hb dX3_putFour_42 hl (k := 0) rfl (by decide) (by decide) rfl (fun ls hl => ?_)
  refine lv_goto (tgt := 3) hx hb dX3_putFour_45 (by decide) ?_
  refine lv_iload_n hx hb dX3_putFour_3 rfl (lv_at hl 0 rfl) ?_
  refine lv_if_lt (tgt := 48) hx hb dX3_putFour_4 (by decide) (fun c => absurd c (by decide)) (fun _ => ?_)
  refine lv_aload_n hx hb dX3_putFour_7 rfl (lv_at hl 1 rfl) ?_
  refine va_get (D := (dC, dI)) (ci := 3) (v := .int 9) (C := RX3) (T := TX3) (N := 9) hx hb htw inlX3 hown hK hP 0 rfl rfl 1 (by decide) (htw _ (ck_12 _ (List.mem_of_getElem? (i := 11) rfl))) (fun _ h9 => h9) rfl dX3_putFour_8 ?_
  refine lv_aload_n hx hb dX3_putFour_11 rfl (lv_at hl 1 rfl) ?_
  refine va_get (D := (dC, dI)) (ci := 3) (v := .ref lby) (C := RX3) (T := TX3) (N := 9) hx hb htw inlX3 hown hK hP 0 rfl rfl 0 (by decide) (htw _ (ck_3 _ (List.mem_of_getElem? (i := 14) rfl))) (fun _ h9 => h9) rfl dX3_putFour_12 ?_
  refine va_alen hx hb hK hP 1 0 rfl rfl (v := 900) rfl dX3_putFour_15 ?_
  refine lv_icmp_ge (tgt := 48) hx hb dX3_putFour_16 (by decide) (fun c => absurd c (by decide)) (fun _ => ?_)
  refine lv_aload_n hx hb dX3_putFour_19 rfl (lv_at hl 1 rfl) ?_
  refine va_get (D := (dC, dI)) (ci := 3) (v := .ref lby) (C := RX3) (T := TX3) (N := 9) hx hb htw inlX3 hown hK hP 0 rfl rfl 0 (by decide) (htw _ (ck_3 _ (List.mem_of_getElem? (i := 14) rfl))) (fun _ h9 => h9) rfl dX3_putFour_20 ?_
  refine lv_aload_n hx hb dX3_putFour_23 rfl (lv_at hl 1 rfl) ?_
  refine va_get (D := (dC, dI)) (ci := 3) (v := .int 9) (C := RX3) (T := TX3) (N := 9) hx hb htw inlX3 hown hK hP 0 rfl rfl 1 (by decide) (htw _ (ck_12 _ (List.mem_of_getElem? (i := 11) rfl))) (fun _ h9 => h9) rfl dX3_putFour_24 ?_
  refine lv_iload_n hx hb dX3_putFour_27 rfl (lv_at hl 2 rfl) ?_
  refine lv_iload_n hx hb dX3_putFour_28 rfl (lv_at hl 0 rfl) ?_
  refine lv_ishr hx hb dX3_putFour_29 ?_
  refine lv_i2b (v := (a0 >>> (16 &&& 31)).toInt8.toInt32) hx hb dX3_putFour_30 rfl ?_
  refine xg_bast hx hb hK hP hD hS 1 0 rfl rfl (by unfold vp_in; decide) dX3_putFour_31 (fun f_3 H locs hP hD hS => ?_)
  have hP : va_P (dC, dI) vwCl [(plx, .inr (3, [.ref lby, .int 9, .ref lco, .int 0, .int 0, .int 0, .int 0, .int 0, .int 0])), (lby, .inl (cB, 900, .inl f_3))] H := hP
  have hD : va_D A [(plx, .inr (3, [.ref lby, .int 9, .ref lco, .int 0, .int 0, .int 0, .int 0, .int 0, .int 0])), (lby, .inl (cB, 900, .inl f_3))] := hD
  refine lv_aload_n hx hb dX3_putFour_32 rfl (lv_at hl 1 rfl) ?_
  refine lv_dup hx hb dX3_putFour_33 rfl ?_
  refine va_get (D := (dC, dI)) (ci := 3) (v := .int 9) (C := RX3) (T := TX3) (N := 9) hx hb htw inlX3 hown hK hP 0 rfl rfl 1 (by decide) (htw _ (ck_12 _ (List.mem_of_getElem? (i := 11) rfl))) (fun _ h9 => h9) rfl dX3_putFour_34 ?_
  refine lv_iconst (v := 1) hx hb dX3_putFour_37 (by decide) ?_
  refine lv_iadd hx hb dX3_putFour_38 ?_
  refine lv_topi (fun z_4 ez_4 => ?_)
  obtain rfl : z_4 = 10 := ez_4.trans (by decide)
  refine va_put (D := (dC, dI)) (ci := 3) (v := .int 10) (ty := tyX3 1) (C := RX3) (T := TX3) (N := 9) hx hb htw inlX3 tyX3 tyX3_ok nmX3 hown hK hP hD hS 0 rfl rfl 1 (by decide) (htw _ (ck_12 _ (List.mem_of_getElem? (i := 11) rfl))) (fun _ h9 => h9) rfl (by decide +kernel) rfl rfl (Nat.le_of_ble_eq_true rfl) dX3_putFour_39 (fun H locs hP hD hS => ?_)
  have hP : va_P (dC, dI) vwCl [(plx, .inr (3, [.ref lby, .int 10, .ref lco, .int 0, .int 0, .int 0, .int 0, .int 0, .int 0])), (lby, .inl (cB, 900, .inl f_3))] H := hP
  have hD : va_D A [(plx, .inr (3, [.ref lby, .int 10, .ref lco, .int 0, .int 0, .int 0, .int 0, .int 0, .int 0])), (lby, .inl (cB, 900, .inl f_3))] := hD
  refine lv_iinc (v := 8) (lv' := [(2, .int 8), (0, .ref plx), (1, .int a0)]) hx hb dX3_putFour_42 hl (k := 0) rfl (by decide) (by decide) rfl (fun ls hl => ?_)
  refine lv_goto (tgt := 3) hx hb dX3_putFour_45 (by decide) ?_
  refine lv_iload_n hx hb dX3_putFour_3 rfl (lv_at hl 0 rfl) ?_
  refine lv_if_lt (tgt := 48) hx hb dX3_putFour_4 (by decide) (fun c => absurd c (by decide)) (fun _ => ?_)
  refine lv_aload_n hx hb dX3_putFour_7 rfl (lv_at hl 1 rfl) ?_
  refine va_get (D := (dC, dI)) (ci := 3) (v := .int 10) (C := RX3) (T := TX3) (N := 9) hx hb htw inlX3 hown hK hP 0 rfl rfl 1 (by decide) (htw _ (ck_12 _ (List.mem_of_getElem? (i := 11) rfl))) (fun _ h9 => h9) rfl dX3_putFour_8 ?_
  refine lv_aload_n hx hb dX3_putFour_11 rfl (lv_at hl 1 rfl) ?_
  refine va_get (D := (dC, dI)) (ci := 3) (v := .ref lby) (C := RX3) (T := TX3) (N := 9) hx hb htw inlX3 hown hK hP 0 rfl rfl 0 (by decide) (htw _ (ck_3 _ (List.mem_of_getElem? (i := 14) rfl))) (fun _ h9 => h9) rfl dX3_putFour_12 ?_
  refine va_alen hx hb hK hP 1 0 rfl rfl (v := 900) rfl dX3_putFour_15 ?_
  refine lv_icmp_ge (tgt := 48) hx hb dX3_putFour_16 (by decide) (fun c => absurd c (by decide)) (fun _ => ?_)
  refine lv_aload_n hx hb dX3_putFour_19 rfl (lv_at hl 1 rfl) ?_
  refine va_get (D := (dC, dI)) (ci := 3) (v := .ref lby) (C := RX3) (T := TX3) (N := 9) hx hb htw inlX3 hown hK hP 0 rfl rfl 0 (by decide) (htw _ (ck_3 _ (List.mem_of_getElem? (i := 14) rfl))) (fun _ h9 => h9) rfl dX3_putFour_20 ?_
  refine lv_aload_n hx hb dX3_putFour_23 rfl (lv_at hl 1 rfl) ?_
  refine va_get (D := (dC, dI)) (ci := 3) (v := .int 10) (C := RX3) (T := TX3) (N := 9) hx hb htw inlX3 hown hK hP 0 rfl rfl 1 (by decide) (htw _ (ck_12 _ (List.mem_of_getElem? (i := 11) rfl))) (fun _ h9 => h9) rfl dX3_putFour_24 ?_
  refine lv_iload_n hx hb dX3_putFour_27 rfl (lv_at hl 2 rfl) ?_
  refine lv_iload_n hx hb dX3_putFour_28 rfl (lv_at hl 0 rfl) ?_
  refine lv_ishr hx hb dX3_putFour_29 ?_
  refine lv_i2b (v := (a0 >>> (8 &&& 31)).toInt8.toInt32) hx hb dX3_putFour_30 rfl ?_
  refine xg_bast hx hb hK hP hD hS 1 0 rfl rfl (by unfold vp_in; decide) dX3_putFour_31 (fun f_5 H locs hP hD hS => ?_)
  have hP : va_P (dC, dI) vwCl [(plx, .inr (3, [.ref lby, .int 10, .ref lco, .int 0, .int 0, .int 0, .int 0, .int 0, .int 0])), (lby, .inl (cB, 900, .inl f_5))] H := hP
  have hD : va_D A [(plx, .inr (3, [.ref lby, .int 10, .ref lco, .int 0, .int 0, .int 0, .int 0, .int 0, .int 0])), (lby, .inl (cB, 900, .inl f_5))] := hD
  refine lv_aload_n hx hb dX3_putFour_32 rfl (lv_at hl 1 rfl) ?_
  refine lv_dup hx hb dX3_putFour_33 rfl ?_
  refine va_get (D := (dC, dI)) (ci := 3) (v := .int 10) (C := RX3) (T := TX3) (N := 9) hx hb htw inlX3 hown hK hP 0 rfl rfl 1 (by decide) (htw _ (ck_12 _ (List.mem_of_getElem? (i := 11) rfl))) (fun _ h9 => h9) rfl dX3_putFour_34 ?_
  refine lv_iconst (v := 1) hx hb dX3_putFour_37 (by decide) ?_
  refine lv_iadd hx hb dX3_putFour_38 ?_
  refine lv_topi (fun z_6 ez_6 => ?_)
  obtain rfl : z_6 = 11 := ez_6.trans (by decide)
  refine va_put (D := (dC, dI)) (ci := 3) (v := .int 11) (ty := tyX3 1) (C := RX3) (T := TX3) (N := 9) hx hb htw inlX3 tyX3 tyX3_ok nmX3 hown hK hP hD hS 0 rfl rfl 1 (by decide) (htw _ (ck_12 _ (List.mem_of_getElem? (i := 11) rfl))) (fun _ h9 => h9) rfl (by decide +kernel) rfl rfl (Nat.le_of_ble_eq_true rfl) dX3_putFour_39 (fun H locs hP hD hS => ?_)
  have hP : va_P (dC, dI) vwCl [(plx, .inr (3, [.ref lby, .int 11, .ref lco, .int 0, .int 0, .int 0, .int 0, .int 0, .int 0])), (lby, .inl (cB, 900, .inl f_5))] H := hP
  have hD : va_D A [(plx, .inr (3, [.ref lby, .int 11, .ref lco, .int 0, .int 0, .int 0, .int 0, .int 0, .int 0])), (lby, .inl (cB, 900, .inl f_5))] := hD
  refine lv_iinc (v := 0) (lv' := [(2, .int 0), (0, .ref plx), (1, .int a0)]) hx hb dX3_putFour_42 hl (k := 0) rfl (by decide) (by decide) rfl (fun ls hl => ?_)
  refine lv_goto (tgt := 3) hx hb dX3_putFour_45 (by decide) ?_
  refine lv_iload_n hx hb dX3_putFour_3 rfl (lv_at hl 0 rfl) ?_
  refine lv_if_lt (tgt := 48) hx hb dX3_putFour_4 (by decide) (fun c => absurd c (by decide)) (fun _ => ?_)
  refine lv_aload_n hx hb dX3_putFour_7 rfl (lv_at hl 1 rfl) ?_
  refine va_get (D := (dC, dI)) (ci := 3) (v := .int 11) (C := RX3) (T := TX3) (N := 9) hx hb htw inlX3 hown hK hP 0 rfl rfl 1 (by decide) (htw _ (ck_12 _ (List.mem_of_getElem? (i := 11) rfl))) (fun _ h9 => h9) rfl dX3_putFour_8 ?_
  refine lv_aload_n hx hb dX3_putFour_11 rfl (lv_at hl 1 rfl) ?_
  refine va_get (D := (dC, dI)) (ci := 3) (v := .ref lby) (C := RX3) (T := TX3) (N := 9) hx hb htw inlX3 hown hK hP 0 rfl rfl 0 (by decide) (htw _ (ck_3 _ (List.mem_of_getElem? (i := 14) rfl))) (fun _ h9 => h9) rfl dX3_putFour_12 ?_
  refine va_alen hx hb hK hP 1 0 rfl rfl (v := 900) rfl dX3_putFour_15 ?_
  refine lv_icmp_ge (tgt := 48) hx hb dX3_putFour_16 (by decide) (fun c => absurd c (by decide)) (fun _ => ?_)
  refine lv_aload_n hx hb dX3_putFour_19 rfl (lv_at hl 1 rfl) ?_
  refine va_get (D := (dC, dI)) (ci := 3) (v := .ref lby) (C := RX3) (T := TX3) (N := 9) hx hb htw inlX3 hown hK hP 0 rfl rfl 0 (by decide) (htw _ (ck_3 _ (List.mem_of_getElem? (i := 14) rfl))) (fun _ h9 => h9) rfl dX3_putFour_20 ?_
  refine lv_aload_n hx hb dX3_putFour_23 rfl (lv_at hl 1 rfl) ?_
  refine va_get (D := (dC, dI)) (ci := 3) (v := .int 11) (C := RX3) (T := TX3) (N := 9) hx hb htw inlX3 hown hK hP 0 rfl rfl 1 (by decide) (htw _ (ck_12 _ (List.mem_of_getElem? (i := 11) rfl))) (fun _ h9 => h9) rfl dX3_putFour_24 ?_
  refine lv_iload_n hx hb dX3_putFour_27 rfl (lv_at hl 2 rfl) ?_
  refine lv_iload_n hx hb dX3_putFour_28 rfl (lv_at hl 0 rfl) ?_
  refine lv_ishr hx hb dX3_putFour_29 ?_
  refine lv_i2b (v := (a0 >>> (0 &&& 31)).toInt8.toInt32) hx hb dX3_putFour_30 rfl ?_
  refine xg_bast hx hb hK hP hD hS 1 0 rfl rfl (by unfold vp_in; decide) dX3_putFour_31 (fun f_7 H locs hP hD hS => ?_)
  have hP : va_P (dC, dI) vwCl [(plx, .inr (3, [.ref lby, .int 11, .ref lco, .int 0, .int 0, .int 0, .int 0, .int 0, .int 0])), (lby, .inl (cB, 900, .inl f_7))] H := hP
  have hD : va_D A [(plx, .inr (3, [.ref lby, .int 11, .ref lco, .int 0, .int 0, .int 0, .int 0, .int 0, .int 0])), (lby, .inl (cB, 900, .inl f_7))] := hD
  refine lv_aload_n hx hb dX3_putFour_32 rfl (lv_at hl 1 rfl) ?_
  refine lv_dup hx hb dX3_putFour_33 rfl ?_
  refine va_get (D := (dC, dI)) (ci := 3) (v := .int 11) (C := RX3) (T := TX3) (N := 9) hx hb htw inlX3 hown hK hP 0 rfl rfl 1 (by decide) (htw _ (ck_12 _ (List.mem_of_getElem? (i := 11) rfl))) (fun _ h9 => h9) rfl dX3_putFour_34 ?_
  refine lv_iconst (v := 1) hx hb dX3_putFour_37 (by decide) ?_
  refine lv_iadd hx hb dX3_putFour_38 ?_
  refine lv_topi (fun z_8 ez_8 => ?_)
  obtain rfl : z_8 = 12 := ez_8.trans (by decide)
  refine va_put (D := (dC, dI)) (ci := 3) (v := .int 12) (ty := tyX3 1) (C := RX3) (T := TX3) (N := 9) hx hb htw inlX3 tyX3 tyX3_ok nmX3 hown hK hP hD hS 0 rfl rfl 1 (by decide) (htw _ (ck_12 _ (List.mem_of_getElem? (i := 11) rfl))) (fun _ h9 => h9) rfl (by decide +kernel) rfl rfl (Nat.le_of_ble_eq_true rfl) dX3_putFour_39 (fun H locs hP hD hS => ?_)
  have hP : va_P (dC, dI) vwCl [(plx, .inr (3, [.ref lby, .int 12, .ref lco, .int 0, .int 0, .int 0, .int 0, .int 0, .int 0])), (lby, .inl (cB, 900, .inl f_7))] H := hP
  have hD : va_D A [(plx, .inr (3, [.ref lby, .int 12, .ref lco, .int 0, .int 0, .int 0, .int 0, .int 0, .int 0])), (lby, .inl (cB, 900, .inl f_7))] := hD
  refine lv_iinc (v := (-8)) (lv' := [(2, .int (-8)), (0, .ref plx), (1, .int a0)]) hx hb dX3_putFour_42 hl (k := 0) rfl (by decide) (by decide) rfl (fun ls hl => ?_)
  refine lv_goto (tgt := 3) hx hb dX3_putFour_45 (by decide) ?_
  refine lv_iload_n hx hb dX3_putFour_3 rfl (lv_at hl 0 rfl) ?_
  refine lv_if_lt (tgt := 48) hx hb dX3_putFour_4 (by decide) (fun _ => ?_) (fun c => absurd c (by decide))
  refine W.widen (k := 0) (n := 0) (by omega) (by omega) ?_
  have hP9 := hP.sub (ws' := [(plx, .inr (3, [.ref lby, .int 12, .ref lco, .int 0, .int 0, .int 0, .int 0, .int 0, .int 0])), (lby, .inl (cB, 900, .inl f_7))]) [0, 1] rfl
  have hD9 := hD.sub (ws' := [(plx, .inr (3, [.ref lby, .int 12, .ref lco, .int 0, .int 0, .int 0, .int 0, .int 0, .int 0])), (lby, .inl (cB, 900, .inl f_7))]) [0, 1] (by decide) rfl
  have hK9 := hK.sub (tys' := []) [] rfl
  exact W.vret hx hb hr (fun t ht hW => ⟨⟨f_7, rfl, trivial, by rw [ht]; exact hP9, va_K.moved hW.alike hK9, hD9⟩, hS.F ht⟩) hS.2.2 dX3_putFour_48

set_option maxHeartbeats 4000000 in
set_option maxRecDepth 100000 in
/-- four bytes more, 12 are there -/
theorem mt_put12 (l : Launch) (dC : Nat → ClassId) (dI : Nat → Nat → Nat) (plx : Nat) (lby : Nat) (lco : Nat) (cB : ClassId) (fB : Nat → Int32) (a0 : Int32) (sz : Nat) : Met l yX3_putFour (Cond.code yX3_putFour cX3_putFour 3 none :: wsL_law) ({ frames := 0, cells := 0, slots := 0, locals := 0 }) (va_Pc [.ref plx, .int a0] (fun U => U.heap.size = sz ∧ va_P (dC, dI) vwCl [(plx, .inr (3, [.ref lby, .int 12, .ref lco, .int 0, .int 0, .int 0, .int 0, .int 0, .int 0])), (lby, .inl (cB, 900, .inl fB))] U.heap ∧ va_K (dC, dI) vwCl [(cB, .byte)] U ∧ va_D (fun _ => True) [(plx, .inr (3, [.ref lby, .int 12, .ref lco, .int 0, .int 0, .int 0, .int 0, .int 0, .int 0])), (lby, .inl (cB, 900, .inl fB))])) (va_Qv (fun (u : (Nat → Int32)) => True) (fun (u : (Nat → Int32)) t => va_P (dC, dI) vwCl [(plx, .inr (3, [.ref lby, .int 16, .ref lco, .int 0, .int 0, .int 0, .int 0, .int 0, .int 0])), (lby, .inl (cB, 900, .inl u))] t.heap ∧ va_K (dC, dI) vwCl [] t ∧ va_D (va_A [(plx, .inr (3, [.ref lby, .int 12, .ref lco, .int 0, .int 0, .int 0, .int 0, .int 0, .int 0])), (lby, .inl (cB, 900, .inl fB))] sz) [(plx, .inr (3, [.ref lby, .int 16, .ref lco, .int 0, .int 0, .int 0, .int 0, .int 0, .int 0])), (lby, .inl (cB, 900, .inl u))]) (va_A [(plx, .inr (3, [.ref lby, .int 12, .ref lco, .int 0, .int 0, .int 0, .int 0, .int 0, .int 0])), (lby, .inl (cB, 900, .inl fB))] sz)) 0 0 (va_A [(plx, .inr (3, [.ref lby, .int 12, .ref lco, .int 0, .int 0, .int 0, .int 0, .int 0, .int 0])), (lby, .inl (cB, 900, .inl fB))] sz) := by
  refine Met.ofW (cc := cX3_putFour) (maxL := 3) (ret := none) (by decide) rfl ?_
  intro p e s m args below meth c s₁ B hml hv
  obtain ⟨rfl, hsz, hP, hK, hD0⟩ := hv
  have hx := B.exec
  have hb := B.bytes
  have hr := B.returns
  have hts := atoms_spec (ws := Cond.code yX3_putFour cX3_putFour 3 none :: wsL_law) B.pre
  have htw : ∀ w ∈ wsL_law, w.before _ s = true := fun w h => hts w (List.mem_cons_of_mem _ h)
  have hown : s.vm.findClass RX3 = some m.cls := findClass_of_methodNamed B.named
  have hlocks := B.notSynchronized
  subst hsz
  have hD := hD0.self (sz := s.heap.size)
  generalize hAe : va_A [(plx, .inr (3, [.ref lby, .int 12, .ref lco, .int 0, .int 0, .int 0, .int 0, .int 0, .int 0])), (lby, .inl (cB, 900, .inl fB))] s.heap.size = A at hD ⊢
  have hA : ∀ q : Nat, s.heap.size ≤ q → A q := fun q h => by rw [← hAe]; exact Or.inr h
  obtain ⟨H, rH⟩ : ∃ z : Heap, z = s.heap := ⟨_, rfl⟩
  have hS : va_S A s.heap H [] := by rw [rH]; exact va_S.rf
  have hP : va_P (dC, dI) vwCl [(plx, .inr (3, [.ref lby, .int 12, .ref lco, .int 0, .int 0, .int 0, .int 0, .int 0, .int 0])), (lby, .inl (cB, 900, .inl fB))] H := by rw [rH]; exact hP
  rw [← rH]
  have hl := lv_entry ([.ref plx, .int a0]) (n := 3) (Nat.le_of_ble_eq_true rfl)
  rw [lg_entry_eq]
  generalize (lg_sl ([.ref plx, .int a0]) ++ List.replicate (3 - (lg_sl ([.ref plx, .int a0])).length) Slot.unset).toArray = ls at hl ⊢
  have hl : lv_has ls 3 [(0, .ref plx), (1, .int a0)] := hl
  refine lv_bipush (v := 24) hx hb dX3_putFour_0 (by decide) ?_
  refine lv_istore_n (lv' := [(2, .int 24), (0, .ref plx), (1, .int a0)]) hx hb dX3_putFour_2 rfl hl (by decide) rfl (fun ls hl => ?_)
  refine lv_iload_n hx hb dX3_putFour_3 rfl (lv_at hl 0 rfl) ?_
  refine lv_if_lt (tgt := 48) hx hb dX3_putFour_4 (by decide) (fun c => absurd c (by decide)) (fun _ => ?_)
  refine lv_aload_n hx hb dX3_putFour_7 rfl (lv_at hl 1 rfl) ?_
  refine va_get (D := (dC, dI)) (ci := 3) (v := .int 12) (C := RX3) (T := TX3) (N := 9) hx hb htw inlX3 hown hK hP 0 rfl rfl 1 (by decide) (htw _ (ck_12 _ (List.mem_of_getElem? (i := 11) rfl))) (fun _ h9 => h9) rfl dX3_putFour_8 ?_
  refine lv_aload_n hx hb dX3_putFour_11 rfl (lv_at hl 1 rfl) ?_
  refine va_get (D := (dC, dI)) (ci := 3) (v := .ref lby) (C := RX3) (T := TX3) (N := 9) hx hb htw inlX3 hown hK hP 0 rfl rfl 0 (by decide) (htw _ (ck_3 _ (List.mem_of_getElem? (i := 14) rfl))) (fun _ h9 => h9) rfl dX3_putFour_12 ?_
  refine va_alen hx hb hK hP 1 0 rfl rfl (v := 900) rfl dX3_putFour_15 ?_
  refine lv_icmp_ge (tgt := 48) hx hb dX3_putFour_16 (by decide) (fun c => absurd c (by decide)) (fun _ => ?_)
  refine lv_aload_n hx hb dX3_putFour_19 rfl (lv_at hl 1 rfl) ?_
  refine va_get (D := (dC, dI)) (ci := 3) (v := .ref lby) (C := RX3) (T := TX3) (N := 9) hx hb htw inlX3 hown hK hP 0 rfl rfl 0 (by decide) (htw _ (ck_3 _ (List.mem_of_getElem? (i := 14) rfl))) (fun _ h9 => h9) rfl dX3_putFour_20 ?_
  refine lv_aload_n hx hb dX3_putFour_23 rfl (lv_at hl 1 rfl) ?_
  refine va_get (D := (dC, dI)) (ci := 3) (v := .int 12) (C := RX3) (T := TX3) (N := 9) hx hb htw inlX3 hown hK hP 0 rfl rfl 1 (by decide) (htw _ (ck_12 _ (List.mem_of_getElem? (i := 11) rfl))) (fun _ h9 => h9) rfl dX3_putFour_24 ?_
  refine lv_iload_n hx hb dX3_putFour_27 rfl (lv_at hl 2 rfl) ?_
  refine lv_iload_n hx hb dX3_putFour_28 rfl (lv_at hl 0 rfl) ?_
  refine lv_ishr hx hb dX3_putFour_29 ?_
  refine lv_i2b (v := (a0 >>> (24 &&& 31)).toInt8.toInt32) hx hb dX3_putFour_30 rfl ?_
  refine xg_bast hx hb hK hP hD hS 1 0 rfl rfl (by unfold vp_in; decide) dX3_putFour_31 (fun f_1 H locs hP hD hS => ?_)
  have hP : va_P (dC, dI) vwCl [(plx, .inr (3, [.ref lby, .int 12, .ref lco, .int 0, .int 0, .int 0, .int 0, .int 0, .int 0])), (lby, .inl (cB, 900, .inl f_1))] H := hP
  have hD : va_D A [(plx, .inr (3, [.ref lby, .int 12, .ref lco, .int 0, .int 0, .int 0, .int 0, .int 0, .int 0])), (lby, .inl (cB, 900, .inl f_1))] := hD
  refine lv_aload_n hx hb dX3_putFour_32 rfl (lv_at hl 1 rfl) ?_
  refine lv_dup hx hb dX3_putFour_33 rfl ?_
  refine va_get (D := (dC, dI)) (ci := 3) (v := .int 12) (C := RX3) (T := TX3) (N := 9) hx hb htw inlX3 hown hK hP 0 rfl rfl 1 (by decide) (htw _ (ck_12 _ (List.mem_of_getElem? (i := 11) rfl))) (fun _ h9 => h9) rfl dX3_putFour_34 ?_
  refine lv_iconst (v := 1) hx hb dX3_putFour_37 (by decide) ?_
  refine lv_iadd hx hb dX3_putFour_38 ?_
  refine lv_topi (fun z_2 ez_2 => ?_)
  obtain rfl : z_2 = 13 := ez_2.trans (by decide)
  refine va_put (D := (dC, dI)) (ci := 3) (v := .int 13) (ty := tyX3 1) (C := RX3) (T := TX3) (N := 9) hx hb htw inlX3 tyX3 tyX3_ok nmX3 hown hK hP hD hS 0 rfl rfl 1 (by decide) (htw _ (ck_12 _ (List.mem_of_getElem? (i := 11) rfl))) (fun _ h9 => h9) rfl (by decide +kernel) rfl rfl (Nat.le_of_ble_eq_true rfl) dX3_putFour_39 (fun H locs hP hD hS => ?_)
  have hP : va_P (dC, dI) vwCl [(plx, .inr (3, [.ref lby, .int 13, .ref lco, .int 0, .int 0, .int 0, .int 0, .int 0, .int 0])), (lby, .inl (cB, 900, .inl f_1))] H := hP
  have hD : va_D A [(plx, .inr (3, [.ref lby, .int 13, .ref lco, .int 0, .int 0, .int 0, .int 0, .int 0, .int 0])), (lby, .inl (cB, 900, .inl f_1))] := hD
  refine lv_iinc (v := 16) (lv' := [(2, .int 16), (0, .ref plx), (1, .int a0)]) hx hb dX3_putFour_42 hl (k := 0) rfl (by decide) (by decide) rfl (fun ls hl => ?_)
  refine lv_goto (tgt := 3) hx hb dX3_putFour_45 (by decide) ?_
  refine lv_iload_n hx hb dX3_putFour_3 rfl (lv_at hl 0 rfl) ?_
  refine lv_if_lt (tgt := 48) hx hb dX3_putFour_4 (by decide) (fun c => absurd c (by decide)) (fun _ => ?_)
  refine lv_aload_n hx hb dX3_putFour_7 rfl (lv_at hl 1 rfl) ?_
  refine va_get (D := (dC, dI)) (ci := 3) (v := .int 13) (C := RX3) (T := TX3) (N := 9) hx hb htw inlX3 hown hK hP 0 rfl rfl 1 (by decide) (htw _ (ck_12 _ (List.mem_of_getElem? (i := 11) rfl))) (fun _ h9 => h9) rfl dX3_putFour_8 ?_
  refine lv_aload_n hx hb dX3_putFour_11 rfl (lv_at hl 1 rfl) ?_
  refine va_get (D := (dC, dI)) (ci := 3) (v := .ref lby) (C := RX3) (T := TX3) (N := 9) hx hb htw inlX3 hown hK hP 0 rfl rfl 0 (by decide) (htw _ (ck_3 _ (List.mem_of_getElem? (i := 14) rfl))) (fun _ h9 => h9) rfl dX3_putFour_12 ?_
  refine va_alen hx hb hK hP 1 0 rfl rfl (v := 900) rfl dX3_putFour_15 ?_
  refine lv_icmp_ge (tgt := 48) hx hb dX3_putFour_16 (by decide) (fun c => absurd c (by decide)) (fun _ => ?_)
  refine lv_aload_n hx hb dX3_putFour_19 rfl (lv_at hl 1 rfl) ?_
  refine va_get (D := (dC, dI)) (ci := 3) (v := .ref lby) (C := RX3) (T := TX3) (N := 9) hx hb htw inlX3 hown hK hP 0 rfl rfl 0 (by decide) (htw _ (ck_3 _ (List.mem_of_getElem? (i := 14) rfl))) (fun _ h9 => h9) rfl dX3_putFour_20 ?_
  refine lv_aload_n hx hb dX3_putFour_23 rfl (lv_at hl 1 rfl) ?_
  refine va_get (D := (dC, dI)) (ci := 3) (v := .int 13) (C := RX3) (T := TX3) (N := 9) hx hb htw inlX3 hown hK hP 0 rfl rfl 1 (by decide) (htw _ (ck_12 _ (List.mem_of_getElem? (i := 11) rfl))) (fun _ h9 => h9) rfl dX3_putFour_24 ?_
  refine lv_iload_n hx hb dX3_putFour_27 rfl (lv_at hl 2 rfl) ?_
  refine lv_iload_n hx hb dX3_putFour_28 rfl (lv_at hl 0 rfl) ?_
  refine lv_ishr hx hb dX3_putFour_29 ?_
  refine lv_i2b (v := (a0 >>> (16 &&& 31)).toInt8.toInt32) hx hb dX3_putFour_30 rfl ?_
  refine xg_bast hx hb hK hP hD hS 1 0 rfl rfl (by unfold vp_in; decide) dX3_putFour_31 (fun f_3 H locs hP hD hS => ?_)
  have hP : va_P (dC, dI) vwCl [(plx, .inr (3, [.ref lby, .int 13, .ref lco, .int 0, .int 0, .int 0, .int 0, .int 0, .int 0])), (lby, .inl (cB, 900, .inl f_3))] H := hP
  have hD : va_D A [(plx, .inr (3, [.ref lby, .int 13, .ref lco, .int 0, .int 0, .int 0, .int 0, .int 0, .int 0])), (lby, .inl (cB, 900, .inl f_3))] := hD
  refine lv_aload_n hx hb dX3_putFour_32 rfl (lv_at hl 1 rfl) ?_
  refine lv_dup hx hb dX3_putFour_33 rfl ?_
  refine va_get (D := (dC, dI)) (ci := 3) (v := .int 13) (C := RX3) (T := TX3) (N := 9) hx hb htw inlX3 hown hK hP 0 rfl rfl 1 (by decide) (htw _ (ck_12 _ (List.mem_of_getElem? (i := 11) rfl))) (fun _ h9 => h9) rfl dX3_putFour_34 ?_
  refine lv_iconst (v := 1) hx hb dX3_putFour_37 (by decide) ?_
  refine lv_iadd hx hb dX3_putFour_38 ?_
  refine lv_topi (fun z_4 ez_4 => ?_)
  obtain rfl : z_4 = 14 := ez_4.trans (by decide)
  refine va_put (D := (dC, dI)) (ci := 3) (v := .int 14) (ty := tyX3 1) (C := RX3) (T := TX3) (N := 9) hx hb htw inlX3 tyX3 tyX3_ok nmX3 hown hK hP hD hS 0 rfl rfl 1 (by decide) (htw _ (ck_12 _ (List.mem_of_getElem? (i := 11) rfl))) (fun _ h9 => h9) rfl (by decide +kernel) rfl rfl (Nat.le_of_ble_eq_true rfl) dX3_putFour_39 (fun H locs hP hD hS => ?_)
  have hP : va_P (dC, dI) vwCl [(plx, .inr (3, [.ref lby, .int 14, .ref lco, .int 0, .int 0, .int 0, .int 0, .int 0, .int 0])), (lby, .inl (cB, 900, .inl f_3))] H := hP
  have hD : va_D A [(plx, .inr (3, [.ref lby, .int 14, .ref lco, .int 0, .int 0, .int 0, .int 0, .int 0, .int 0])), (lby, .inl (cB, 900, .inl f_3))] := hD
  refine lv_iinc (v := 8) (lv' := [(2, .int 8), (0, .ref plx), (1, .int a0)]) hx hb dX3_putFour_42 hl (k := 0) rfl (by decide) (by decide) rfl (fun ls hl => ?_)
  refine lv_goto (tgt := 3) hx hb dX3_putFour_45 (by decide) ?_
  refine lv_iload_n hx hb dX3_putFour_3 rfl (lv_at hl 0 rfl) ?_
  refine lv_if_lt (tgt := 48) hx hb dX3_putFour_4 (by decide) (fun c => absurd c (by decide)) (fun _ => ?_)
  refine lv_aload_n hx hb dX3_putFour_7 rfl (lv_at hl 1 rfl) ?_
  refine va_get (D := (dC, dI)) (ci := 3) (v := .int 14) (C := RX3) (T := TX3) (N := 9) hx hb htw inlX3 hown hK hP 0 rfl rfl 1 (by decide) (htw _ (ck_12 _ (List.mem_of_getElem? (i := 11) rfl))) (fun _ h9 => h9) rfl dX3_putFour_8 ?_
  refine lv_aload_n hx hb dX3_putFour_11 rfl (lv_at hl 1 rfl) ?_
  refine va_get (D := (dC, dI)) (ci := 3) (v := .ref lby) (C := RX3) (T := TX3) (N := 9) hx hb htw inlX3 hown hK hP 0 rfl rfl 0 (by decide) (htw _ (ck_3 _ (List.mem_of_getElem? (i := 14) rfl))) (fun _ h9 => h9) rfl dX3_putFour_12 ?_
  refine va_alen hx hb hK hP 1 0 rfl rfl (v := 900) rfl dX3_putFour_15 ?_
  refine lv_icmp_ge (tgt := 48) hx hb dX3_putFour_16 (by decide) (fun c => absurd c (by decide)) (fun _ => ?_)
  refine lv_aload_n hx hb dX3_putFour_19 rfl (lv_at hl 1 rfl) ?_
  refine va_get (D := (dC, dI)) (ci := 3) (v := .ref lby) (C := RX3) (T := TX3) (N := 9) hx hb htw inlX3 hown hK hP 0 rfl rfl 0 (by decide) (htw _ (ck_3 _ (List.mem_of_getElem? (i := 14) rfl))) (fun _ h9 => h9) rfl dX3_putFour_20 ?_
  refine lv_aload_n hx hb dX3_putFour_23 rfl (lv_at hl 1 rfl) ?_
  refine va_get (D := (dC, dI)) (ci := 3) (v := .int 14) (C := RX3) (T := TX3) (N := 9) hx hb htw inlX3 hown hK hP 0 rfl rfl 1 (by decide) (htw _ (ck_12 _ (List.mem_of_getElem? (i := 11) rfl))) (fun _ h9 => h9) rfl dX3_putFour_24 ?_
  refine lv_iload_n hx hb dX3_putFour_27 rfl (lv_at hl 2 rfl) ?_
  refine lv_iload_n hx hb dX3_putFour_28 rfl (lv_at hl 0 rfl) ?_
  refine lv_ishr hx hb dX3_putFour_29 ?_
  refine lv_i2b (v := (a0 >>> (8 &&& 31)).toInt8.toInt32) hx hb dX3_putFour_30 rfl ?_
  refine xg_bast hx hb hK hP hD hS 1 0 rfl rfl (by unfold vp_in; decide) dX3_putFour_31 (fun f_5 H locs hP hD hS => ?_)
  have hP : va_P (dC, dI) vwCl [(plx, .inr (3, [.ref lby, .int 14, .ref lco, .int 0, .int 0, .int 0, .int 0, .int 0, .int 0])), (lby, .inl (cB, 900, .inl f_5))] H := hP
  have hD : va_D A [(plx, .inr (3, [.ref lby, .int 14, .ref lco, .int 0, .int 0, .int 0, .int 0, .int 0, .int 0])), (lby, .inl (cB, 900, .inl f_5))] := hD
  refine lv_aload_n hx hb dX3_putFour_32 rfl (lv_at hl 1 rfl) ?_
  refine lv_dup hx hb dX3_putFour_33 rfl ?_
  refine va_get (D := (dC, dI)) (ci := 3) (v := .int 14) (C := RX3) (T := TX3) (N := 9) hx hb htw inlX3 hown hK hP 0 rfl rfl 1 (by decide) (htw _ (ck_12 _ (List.mem_of_getElem? (i := 11) rfl))) (fun _ h9 => h9) rfl dX3_putFour_34 ?_
  refine lv_iconst (v := 1) hx hb dX3_putFour_37 (by decide) ?_
  refine lv_iadd hx hb dX3_putFour_38 ?_
  refine lv_topi (fun z_6 ez_6 => ?_)
  obtain rfl : z_6 = 15 := ez_6.trans (by decide)
  refine va_put (D := (dC, dI)) (ci := 3) (v := .int 15) (ty := tyX3 1) (C := RX3) (T := TX3) (N := 9) hx hb htw inlX3 tyX3 tyX3_ok nmX3 hown hK hP hD hS 0 rfl rfl 1 (by decide) (htw _ (ck_12 _ (List.mem_of_getElem? (i := 11) rfl))) (fun _ h9 => h9) rfl (by decide +kernel) rfl rfl (Nat.le_of_ble_eq_true rfl) dX3_putFour_39 (fun H locs hP hD hS => ?_)
  have hP : va_P (dC, dI) vwCl [(plx, .inr (3, [.ref lby, .int 15, .ref lco, .int 0, .int 0, .int 0, .int 0, .int 0, .int 0])), (lby, .inl (cB, 900, .inl f_5))] H := hP
  have hD : va_D A [(plx, .inr (3, [.ref lby, .int 15, .ref lco, .int 0, .int 0, .int 0, .int 0, .int 0, .int 0])), (lby, .inl (cB, 900, .inl f_5))] := hD
  refine lv_iinc (v := 0) (lv' := [(2, .int 0), (0, .ref plx), (1, .int a0)]) hx hb dX3_putFour_42 hl (k := 0) rfl (by decide) (by decide) rfl (fun ls hl => ?_)
  refine lv_goto (tgt := 3) hx hb dX3_putFour_45 (by decide) ?_
  refine lv_iload_n hx hb dX3_putFour_3 rfl (lv_at hl 0 rfl) ?_
  refine lv_if_lt (tgt := 48) hx hb dX3_putFour_4 (by decide) (fun c => absurd c (by decide)) (fun _ => ?_)
  refine lv_aload_n hx hb dX3_putFour_7 rfl (lv_at hl 1 rfl) ?_
  refine va_get (D := (dC, dI)) (ci := 3) (v := .int 15) (C := RX3) (T := TX3) (N := 9) hx hb htw inlX3 hown hK hP 0 rfl rfl 1 (by decide) (htw _ (ck_12 _ (List.mem_of_getElem? (i := 11) rfl))) (fun _ h9 => h9) rfl dX3_putFour_8 ?_
  refine lv_aload_n hx hb dX3_putFour_11 rfl (lv_at hl 1 rfl) ?_
  refine va_get (D := (dC, dI)) (ci := 3) (v := .ref lby) (C := RX3) (T := TX3) (N := 9) hx hb htw inlX3 hown hK hP 0 rfl rfl 0 (by decide) (htw _ (ck_3 _ (List.mem_of_getElem? (i := 14) rfl))) (fun _ h9 => h9) rfl dX3_putFour_12 ?_
  refine va_alen hx hb hK hP 1 0 rfl rfl (v := 900) rfl dX3_putFour_15 ?_
  refine lv_icmp_ge (tgt := 48) hx hb dX3_putFour_16 (by decide) (fun c => absurd c (by decide)) (fun _ => ?_)
  refine lv_aload_n hx hb dX3_putFour_19 rfl (lv_at hl 1 rfl) ?_
  refine va_get (D := (dC, dI)) (ci := 3) (v := .ref lby) (C := RX3) (T := TX3) (N := 9) hx hb htw inlX3 hown hK hP 0 rfl rfl 0 (by decide) (htw _ (ck_3 _ (List.mem_of_getElem? (i := 14) rfl))) (fun _ h9 => h9) rfl dX3_putFour_20 ?_
  refine lv_aload_n hx hb dX3_putFour_23 rfl (lv_at hl 1 rfl) ?_
  refine va_get (D := (dC, dI)) (ci := 3) (v := .int 15) (C := RX3) (T := TX3) (N := 9) hx hb htw inlX3 hown hK hP 0 rfl rfl 1 (by decide) (htw _ (ck_12 _ (List.mem_of_getElem? (i := 11) rfl))) (fun _ h9 => h9) rfl dX3_putFour_24 ?_
  refine lv_iload_n hx hb dX3_putFour_27 rfl (lv_at hl 2 rfl) ?_
  refine lv_iload_n hx hb dX3_putFour_28 rfl (lv_at hl 0 rfl) ?_
  refine lv_ishr hx hb dX3_putFour_29 ?_
  refine lv_i2b (v := (a0 >>> (0 &&& 31)).toInt8.toInt32) hx hb dX3_putFour_30 rfl ?_
  refine xg_bast hx hb hK hP hD hS 1 0 rfl rfl (by unfold vp_in; decide) dX3_putFour_31 (fun f_7 H locs hP hD hS => ?_)
  have hP : va_P (dC, dI) vwCl [(plx, .inr (3, [.ref lby, .int 15, .ref lco, .int 0, .int 0, .int 0, .int 0, .int 0, .int 0])), (lby, .inl (cB, 900, .inl f_7))] H := hP
  have hD : va_D A [(plx, .inr (3, [.ref lby, .int 15, .ref lco, .int 0, .int 0, .int 0, .int 0, .int 0, .int 0])), (lby, .inl (cB, 900, .inl f_7))] := hD
  refine lv_aload_n hx hb dX3_putFour_32 rfl (lv_at hl 1 rfl) ?_
  refine lv_dup hx hb dX3_putFour_33 rfl ?_
  refine va_get (D := (dC, dI)) (ci := 3) (v := .int 15) (C := RX3) (T := TX3) (N := 9) hx hb htw inlX3 hown hK hP 0 rfl rfl 1 (by decide) (htw _ (ck_12 _ (List.mem_of_getElem? (i := 11) rfl))) (fun _ h9 => h9) rfl dX3_putFour_34 ?_
  refine lv_iconst (v := 1) hx hb dX3_putFour_37 (by decide) ?_
  refine lv_iadd hx hb dX3_putFour_38 ?_
  refine lv_topi (fun z_8 ez_8 => ?_)
  obtain rfl : z_8 = 16 := ez_8.trans (by decide)
  refine va_put (D := (dC, dI)) (ci := 3) (v := .int 16) (ty := tyX3 1) (C := RX3) (T := TX3) (N := 9) hx hb htw inlX3 tyX3 tyX3_ok nmX3 hown hK hP hD hS 0 rfl rfl 1 (by decide) (htw _ (ck_12 _ (List.mem_of_getElem? (i := 11) rfl))) (fun _ h9 => h9) rfl (by decide +kernel) rfl rfl (Nat.le_of_ble_eq_true rfl) dX3_putFour_39 (fun H locs hP hD hS => ?_)
  have hP : va_P (dC, dI) vwCl [(plx, .inr (3, [.ref lby, .int 16, .ref lco, .int 0, .int 0, .int 0, .int 0, .int 0, .int 0])), (lby, .inl (cB, 900, .inl f_7))] H := hP
  have hD : va_D A [(plx, .inr (3, [.ref lby, .int 16, .ref lco, .int 0, .int 0, .int 0, .int 0, .int 0, .int 0])), (lby, .inl (cB, 900, .inl f_7))] := hD
  refine lv_iinc (v := (-8)) (lv' := [(2, .int (-8)), (0, .ref plx), (1, .int a0)]) hx hb dX3_putFour_42 hl (k := 0) rfl (by decide) (by decide) rfl (fun ls hl => ?_)
  refine lv_goto (tgt := 3) hx hb dX3_putFour_45 (by decide) ?_
  refine lv_iload_n hx hb dX3_putFour_3 rfl (lv_at hl 0 rfl) ?_
  refine lv_if_lt (tgt := 48) hx hb dX3_putFour_4 (by decide) (fun _ => ?_) (fun c => absurd c (by decide))
  refine W.widen (k := 0) (n := 0) (by omega) (by omega) ?_
  have hP9 := hP.sub (ws' := [(plx, .inr (3, [.ref lby, .int 16, .ref lco, .int 0, .int 0, .int 0, .int 0, .int 0, .int 0])), (lby, .inl (cB, 900, .inl f_7))]) [0, 1] rfl
  have hD9 := hD.sub (ws' := [(plx, .inr (3, [.ref lby, .int 16, .ref lco, .int 0, .int 0, .int 0, .int 0, .int 0, .int 0])), (lby, .inl (cB, 900, .inl f_7))]) [0, 1] (by decide) rfl
  have hK9 := hK.sub (tys' := []) [] rfl
  exact W.vret hx hb hr (fun t ht hW => ⟨⟨f_7, rfl, trivial, by rw [ht]; exact hP9, va_K.moved hW.alike hK9, hD9⟩, hS.F ht⟩) hS.2.2 dX3_putFour_48

set_option maxHeartbeats 4000000 in
set_option maxRecDepth 100000 in
/-- four bytes more, 16 are there -/
theorem mt_put16 (l : Launch) (dC : Nat → ClassId) (dI : Nat → Nat → Nat) (plx : Nat) (lby : Nat) (lco : Nat) (cB : ClassId) (fB : Nat → Int32) (a0 : Int32) (sz : Nat) : Met l yX3_putFour (Cond.code yX3_putFour cX3_putFour 3 none :: wsL_law) ({ frames := 0, cells := 0, slots := 0, locals := 0 }) (va_Pc [.ref plx, .int a0] (fun U => U.heap.size = sz ∧ va_P (dC, dI) vwCl [(plx, .inr (3, [.ref lby, .int 16, .ref lco, .int 0, .int 0, .int 0, .int 0, .int 0, .int 0])), (lby, .inl (cB, 900, .inl fB))] U.heap ∧ va_K (dC, dI) vwCl [(cB, .byte)] U ∧ va_D (fun _ => True) [(plx, .inr (3, [.ref lby, .int 16, .ref lco, .int 0, .int 0, .int 0, .int 0, .int 0, .int 0])), (lby, .inl (cB, 900, .inl fB))])) (va_Qv (fun (u : (Nat → Int32)) => True) (fun (u : (Nat → Int32)) t => va_P (dC, dI) vwCl [(plx, .inr (3, [.ref lby, .int 20, .ref lco, .int 0, .int 0, .int 0, .int 0, .int 0, .int 0])), (lby, .inl (cB, 900, .inl u))] t.heap ∧ va_K (dC, dI) vwCl [] t ∧ va_D (va_A [(plx, .inr (3, [.ref lby, .int 16, .ref lco, .int 0, .int 0, .int 0, .int 0, .int 0, .int 0])), (lby, .inl (cB, 900, .inl fB))] sz) [(plx, .inr (3, [.ref lby, .int 20, .ref lco, .int 0, .int 0, .int 0, .int 0, .int 0, .int 0])), (lby, .inl (cB, 900, .inl u))]) (va_A [(plx, .inr (3, [.ref lby, .int 16, .ref lco, .int 0, .int 0, .int 0, .int 0, .int 0, .int 0])), (lby, .inl (cB, 900, .inl fB))] sz)) 0 0 (va_A [(plx, .inr (3, [.ref lby, .int 16, .ref lco, .int 0, .int 0, .int 0, .int 0, .int 0, .int 0])), (lby, .inl (cB, 900, .inl fB))] sz) := by
  refine Met.ofW (cc := cX3_putFour) (maxL := 3) (ret := none) (by decide) rfl ?_
  intro p e s m args below meth c s₁ B hml hv
  obtain ⟨rfl, hsz, hP, hK, hD0⟩ := hv
  have hx := B.exec
  have hb := B.bytes
  have hr := B.returns
  have hts := atoms_spec (ws := Cond.code yX3_putFour cX3_putFour 3 none :: wsL_law) B.pre
  have htw : ∀ w ∈ wsL_law, w.before _ s = true := fun w h => hts w (List.mem_cons_of_mem _ h)
  have hown : s.vm.findClass RX3 = some m.cls := findClass_of_methodNamed B.named
  have hlocks := B.notSynchronized
  subst hsz
  have hD := hD0.self (sz := s.heap.size)
  generalize hAe : va_A [(plx, .inr (3, [.ref lby, .int 16, .ref lco, .int 0, .int 0, .int 0, .int 0, .int 0, .int 0])), (lby, .inl (cB, 900, .inl fB))] s.heap.size = A at hD ⊢
  have hA : ∀ q : Nat, s.heap.size ≤ q → A q := fun q h => by rw [← hAe]; exact Or.inr h
  obtain ⟨H, rH⟩ : ∃ z : Heap, z = s.heap := ⟨_, rfl⟩
  have hS : va_S A s.heap H [] := by rw [rH]; exact va_S.rf
  have hP : va_P (dC, dI) vwCl [(plx, .inr (3, [.ref lby, .int 16, .ref lco, .int 0, .int 0, .int 0, .int 0, .int 0, .int 0])), (lby, .inl (cB, 900, .inl fB))] H := by rw [rH]; exact hP
  rw [← rH]
  have hl := lv_entry ([.ref plx, .int a0]) (n := 3) (Nat.le_of_ble_eq_true rfl)
  rw [lg_entry_eq]
  generalize (lg_sl ([.ref plx, .int a0]) ++ List.replicate (3 - (lg_sl ([.ref plx, .int a0])).length) Slot.unset).toArray = ls at hl ⊢
  have hl : lv_has ls 3 [(0, .ref plx), (1, .int a0)] := hl
  refine lv_bipush (v := 24) hx hb dX3_putFour_0 (by decide) ?_
  refine lv_istore_n (lv' := [(2, .int 24), (0, .ref plx), (1, .int a0)]) hx hb dX3_putFour_2 rfl hl (by decide) rfl (fun ls hl => ?_)
  refine lv_iload_n hx hb dX3_putFour_3 rfl (lv_at hl 0 rfl) ?_
  refine lv_if_lt (tgt := 48) hx hb dX3_putFour_4 (by decide) (fun c => absurd c (by decide)) (fun _ => ?_)
  refine lv_aload_n hx hb dX3_putFour_7 rfl (lv_at hl 1 rfl) ?_
  refine va_get (D := (dC, dI)) (ci := 3) (v := .int 16) (C := RX3) (T := TX3) (N := 9) hx hb htw inlX3 hown hK hP 0 rfl rfl 1 (by decide) (htw _ (ck_12 _ (List.mem_of_getElem? (i := 11) rfl))) (fun _ h9 => h9) rfl dX3_putFour_8 ?_
  refine lv_aload_n hx hb dX3_putFour_11 rfl (lv_at hl 1 rfl) ?_
  refine va_get (D := (dC, dI)) (ci := 3) (v := .ref lby) (C := RX3) (T := TX3) (N := 9) hx hb htw inlX3 hown hK hP 0 rfl rfl 0 (by decide) (htw _ (ck_3 _ (List.mem_of_getElem? (i := 14) rfl))) (fun _ h9 => h9) rfl dX3_putFour_12 ?_
  refine va_alen hx hb hK hP 1 0 rfl rfl (v := 900) rfl dX3_putFour_15 ?_
  refine lv_icmp_ge (tgt := 48) hx hb dX3_putFour_16 (by decide) (fun c => absurd c (by decide)) (fun _ => ?_)
  refine lv_aload_n hx hb dX3_putFour_19 rfl (lv_at hl 1 rfl) ?_
  refine va_get (D := (dC, dI)) (ci := 3) (v := .ref lby) (C := RX3) (T := TX3) (N := 9) hx hb htw inlX3 hown hK hP 0 rfl rfl 0 (by decide) (htw _ (ck_3 _ (List.mem_of_getElem? (i := 14) rfl))) (fun _ h9 => h9) rfl dX3_putFour_20 ?_
  refine lv_aload_n hx hb dX3_putFour_23 rfl (lv_at hl 1 rfl) ?_
  refine va_get (D := (dC, dI)) (ci := 3) (v := .int 16) (C := RX3) (T := TX3) (N := 9) hx hb htw inlX3 hown hK hP 0 rfl rfl 1 (by decide) (htw _ (ck_12 _ (List.mem_of_getElem? (i := 11) rfl))) (fun _ h9 => h9) rfl dX3_putFour_24 ?_
  refine lv_iload_n hx hb dX3_putFour_27 rfl (lv_at hl 2 rfl) ?_
  refine lv_iload_n hx hb dX3_putFour_28 rfl (lv_at hl 0 rfl) ?_
  refine lv_ishr hx hb dX3_putFour_29 ?_
  refine lv_i2b (v := (a0 >>> (24 &&& 31)).toInt8.toInt32) hx hb dX3_putFour_30 rfl ?_
  refine xg_bast hx hb hK hP hD hS 1 0 rfl rfl (by unfold vp_in; decide) dX3_putFour_31 (fun f_1 H locs hP hD hS => ?_)
  have hP : va_P (dC, dI) vwCl [(plx, .inr (3, [.ref lby, .int 16, .ref lco, .int 0, .int 0, .int 0, .int 0, .int 0, .int 0])), (lby, .inl (cB, 900, .inl f_1))] H := hP
  have hD : va_D A [(plx, .inr (3, [.ref lby, .int 16, .ref lco, .int 0, .int 0, .int 0, .int 0, .int 0, .int 0])), (lby, .inl (cB, 900, .inl f_1))] := hD
  refine lv_aload_n hx hb dX3_putFour_32 rfl (lv_at hl 1 rfl) ?_
  refine lv_dup hx hb dX3_putFour_33 rfl ?_
  refine va_get (D := (dC, dI)) (ci := 3) (v := .int 16) (C := RX3) (T := TX3) (N := 9) hx hb htw inlX3 hown hK hP 0 rfl rfl 1 (by decide) (htw _ (ck_12 _ (List.mem_of_getElem? (i := 11) rfl))) (fun _ h9 => h9) rfl dX3_putFour_34 ?_
  refine lv_iconst (v := 1) hx hb dX3_putFour_37 (by decide) ?_
  refine lv_iadd hx hb dX3_putFour_38 ?_
  refine lv_topi (fun z_2 ez_2 => ?_)
  obtain rfl : z_2 = 17 := ez_2.trans (by decide)
  refine va_put (D := (dC, dI)) (ci := 3) (v := .int 17) (ty := tyX3 1) (C := RX3) (T := TX3) (N := 9) hx hb htw inlX3 tyX3 tyX3_ok nmX3 hown hK hP hD hS 0 rfl rfl 1 (by decide) (htw _ (ck_12 _ (List.mem_of_getElem? (i := 11) rfl))) (fun _ h9 => h9) rfl (by decide +kernel) rfl rfl (Nat.le_of_ble_eq_true rfl) dX3_putFour_39 (fun H locs hP hD hS => ?_)
  have hP : va_P (dC, dI) vwCl [(plx, .inr (3, [.ref lby, .int 17, .ref lco, .int 0, .int 0, .int 0, .int 0, .int 0, .int 0])), (lby, .inl (cB, 900, .inl f_1))] H := hP
  have hD : va_D A [(plx, .inr (3, [.ref lby, .int 17, .ref lco, .int 0, .int 0, .int 0, .int 0, .int 0, .int 0])), (lby, .inl (cB, 900, .inl f_1))] := hD
  refine lv_iinc (v := 16) (lv' := [(2, .int 16), (0, .ref plx), (1, .int a0)]) hx hb dX3_putFour_42 hl (k := 0) rfl (by decide) (by decide) rfl (fun ls hl => ?_)
  refine lv_goto (tgt := 3) hx hb dX3_putFour_45 (by decide) ?_
  refine lv_iload_n hx hb dX3_putFour_3 rfl (lv_at hl 0 rfl) ?_
  refine lv_if_lt (tgt := 48) hx hb dX3_putFour_4 (by decide) (fun c => absurd c (by decide)) (fun _ => ?_)
  refine lv_aload_n hx hb dX3_putFour_7 rfl (lv_at hl 1 rfl) ?_
  refine va_get (D := (dC, dI)) (ci := 3) (v := .int 17) (C := RX3) (T := TX3) (N := 9) hx hb htw inlX3 hown hK hP 0 rfl rfl 1 (by decide) (htw _ (ck_12 _ (List.mem_of_getElem? (i := 11) rfl))) (fun _ h9 => h9) rfl dX3_putFour_8 ?_
  refine lv_aload_n hx hb dX3_putFour_11 rfl (lv_at hl 1 rfl) ?_
  refine va_get (D := (dC, dI)) (ci := 3) (v := .ref lby) (C := RX3) (T := TX3) (N := 9) hx hb htw inlX3 hown hK hP 0 rfl rfl 0 (by decide) (htw _ (ck_3 _ (List.mem_of_getElem? (i := 14) rfl))) (fun _ h9 => h9) rfl dX3_putFour_12 ?_
  refine va_alen hx hb hK hP 1 0 rfl rfl (v := 900) rfl dX3_putFour_15 ?_
  refine lv_icmp_ge (tgt := 48) hx hb dX3_putFour_16 (by decide) (fun c => absurd c (by decide)) (fun _ => ?_)
  refine lv_aload_n hx hb dX3_putFour_19 rfl (lv_at hl 1 rfl) ?_
  refine va_get (D := (dC, dI)) (ci := 3) (v := .ref lby) (C := RX3) (T := TX3) (N := 9) hx hb htw inlX3 hown hK hP 0 rfl rfl 0 (by decide) (htw _ (ck_3 _ (List.mem_of_getElem? (i := 14) rfl))) (fun _ h9 => h9) rfl dX3_putFour_20 ?_
  refine lv_aload_n hx hb dX3_putFour_23 rfl (lv_at hl 1 rfl) ?_
  refine va_get (D := (dC, dI)) (ci := 3) (v := .int 17) (C := RX3) (T := TX3) (N := 9) hx hb htw inlX3 hown hK hP 0 rfl rfl 1 (by decide) (htw _ (ck_12 _ (List.mem_of_getElem? (i := 11) rfl))) (fun _ h9 => h9) rfl dX3_putFour_24 ?_
  refine lv_iload_n hx hb dX3_putFour_27 rfl (lv_at hl 2 rfl) ?_
  refine lv_iload_n hx hb dX3_putFour_28 rfl (lv_at hl 0 rfl) ?_
  refine lv_ishr hx hb dX3_putFour_29 ?_
  refine lv_i2b (v := (a0 >>> (16 &&& 31)).toInt8.toInt32) hx hb dX3_putFour_30 rfl ?_
  refine xg_bast hx hb hK hP hD hS 1 0 rfl rfl (by unfold vp_in; decide) dX3_putFour_31 (fun f_3 H locs hP hD hS => ?_)
  have hP : va_P (dC, dI) vwCl [(plx, .inr (3, [.ref lby, .int 17, .ref lco, .int 0, .int 0, .int 0, .int 0, .int 0, .int 0])), (lby, .inl (cB, 900, .inl f_3))] H := hP
  have hD : va_D A [(plx, .inr (3, [.ref lby, .int 17, .ref lco, .int 0, .int 0, .int 0, .int 0, .int 0, .int 0])), (lby, .inl (cB, 900, .inl f_3))] := hD
  refine lv_aload_n hx hb dX3_putFour_32 rfl (lv_at hl 1 rfl) ?_
  refine lv_dup hx hb dX3_putFour_33 rfl ?_
  refine va_get (D := (dC, dI)) (ci := 3) (v := .int 17) (C := RX3) (T := TX3) (N := 9) hx hb htw inlX3 hown hK hP 0 rfl rfl 1 (by decide) (htw _ (ck_12 _ (List.mem_of_getElem? (i := 11) rfl))) (fun _ h9 => h9) rfl dX3_putFour_34 ?_
  refine lv_iconst (v := 1) hx hb dX3_putFour_37 (by decide) ?_
  refine lv_iadd hx hb dX3_putFour_38 ?_
  refine lv_topi (fun z_4 ez_4 => ?_)
  obtain rfl : z_4 = 18 := ez_4.trans (by decide)
  refine va_put (D := (dC, dI)) (ci := 3) (v := .int 18) (ty := tyX3 1) (C := RX3) (T := TX3) (N := 9) hx hb htw inlX3 tyX3 tyX3_ok nmX3 hown hK hP hD hS 0 rfl rfl 1 (by decide) (htw _ (ck_12 _ (List.mem_of_getElem? (i := 11) rfl))) (fun _ h9 => h9) rfl (by decide +kernel) rfl rfl (Nat.le_of_ble_eq_true rfl) dX3_putFour_39 (fun H locs hP hD hS => ?_)
  have hP : va_P (dC, dI) vwCl [(plx, .inr (3, [.ref lby, .int 18, .ref lco, .int 0, .int 0, .int 0, .int 0, .int 0, .int 0])), (lby, .inl (cB, 900, .inl f_3))] H := hP
  have hD : va_D A [(plx, .inr (3, [.ref lby, .int 18, .ref lco, .int 0, .int 0, .int 0, .int 0, .int 0, .int 0])), (lby, .inl (cB, 900, .inl f_3))] := hD
  refine lv_iinc (v := 8) (lv' := [(2, .int 8), (0, .ref plx), (1, .int a0)]) hx hb dX3_putFour_42 hl (k := 0) rfl (by decide) (by decide) rfl (fun ls hl => ?_)
  refine lv_goto (tgt := 3) hx hb dX3_putFour_45 (by decide) ?_
  refine lv_iload_n hx hb dX3_putFour_3 rfl (lv_at hl 0 rfl) ?_
  refine lv_if_lt (tgt := 48) hx hb dX3_putFour_4 (by decide) (fun c => absurd c (by decide)) (fun _ => ?_)
  refine lv_aload_n hx hb dX3_putFour_7 rfl (lv_at hl 1 rfl) ?_
  refine va_get (D := (dC, dI)) (ci := 3) (v := .int 18) (C := RX3) (T := TX3) (N := 9) hx hb htw inlX3 hown hK hP 0 rfl rfl 1 (by decide) (htw _ (ck_12 _ (List.mem_of_getElem? (i := 11) rfl))) (fun _ h9 => h9) rfl dX3_putFour_8 ?_
  refine lv_aload_n hx hb dX3_putFour_11 rfl (lv_at hl 1 rfl) ?_
  refine va_get (D := (dC, dI)) (ci := 3) (v := .ref lby) (C := RX3) (T := TX3) (N := 9) hx hb htw inlX3 hown hK hP 0 rfl rfl 0 (by decide) (htw _ (ck_3 _ (List.mem_of_getElem? (i := 14) rfl))) (fun _ h9 => h9) rfl dX3_putFour_12 ?_
  refine va_alen hx hb hK hP 1 0 rfl rfl (v := 900) rfl dX3_putFour_15 ?_
  refine lv_icmp_ge (tgt := 48) hx hb dX3_putFour_16 (by decide) (fun c => absurd c (by decide)) (fun _ => ?_)
  refine lv_aload_n hx hb dX3_putFour_19 rfl (lv_at hl 1 rfl) ?_
  refine va_get (D := (dC, dI)) (ci := 3) (v := .ref lby) (C := RX3) (T := TX3) (N := 9) hx hb htw inlX3 hown hK hP 0 rfl rfl 0 (by decide) (htw _ (ck_3 _ (List.mem_of_getElem? (i := 14) rfl))) (fun _ h9 => h9) rfl dX3_putFour_20 ?_
  refine lv_aload_n hx hb dX3_putFour_23 rfl (lv_at hl 1 rfl) ?_
  refine va_get (D := (dC, dI)) (ci := 3) (v := .int 18) (C := RX3) (T := TX3) (N := 9) hx hb htw inlX3 hown hK hP 0 rfl rfl 1 (by decide) (htw _ (ck_12 _ (List.mem_of_getElem? (i := 11) rfl))) (fun _ h9 => h9) rfl dX3_putFour_24 ?_
  refine lv_iload_n hx hb dX3_putFour_27 rfl (lv_at hl 2 rfl) ?_
  refine lv_iload_n hx hb dX3_putFour_28 rfl (lv_at hl 0 rfl) ?_
  refine lv_ishr hx hb dX3_putFour_29 ?_
  refine lv_i2b (v := (a0 >>> (8 &&& 31)).toInt8.toInt32) hx hb dX3_putFour_30 rfl ?_
  refine xg_bast hx hb hK hP hD hS 1 0 rfl rfl (by unfold vp_in; decide) dX3_putFour_31 (fun f_5 H locs hP hD hS => ?_)
  have hP : va_P (dC, dI) vwCl [(plx, .inr (3, [.ref lby, .int 18, .ref lco, .int 0, .int 0, .int 0, .int 0, .int 0, .int 0])), (lby, .inl (cB, 900, .inl f_5))] H := hP
  have hD : va_D A [(plx, .inr (3, [.ref lby, .int 18, .ref lco, .int 0, .int 0, .int 0, .int 0, .int 0, .int 0])), (lby, .inl (cB, 900, .inl f_5))] := hD
  refine lv_aload_n hx hb dX3_putFour_32 rfl (lv_at hl 1 rfl) ?_
  refine lv_dup hx hb dX3_putFour_33 rfl ?_
  refine va_get (D := (dC, dI)) (ci := 3) (v := .int 18) (C := RX3) (T := TX3) (N := 9) hx hb htw inlX3 hown hK hP 0 rfl rfl 1 (by decide) (htw _ (ck_12 _ (List.mem_of_getElem? (i := 11) rfl))) (fun _ h9 => h9) rfl dX3_putFour_34 ?_
  refine lv_iconst (v := 1) hx hb dX3_putFour_37 (by decide) ?_
  refine lv_iadd hx hb dX3_putFour_38 ?_
  refine lv_topi (fun z_6 ez_6 => ?_)
  obtain rfl : z_6 = 19 := ez_6.trans (by decide)
  refine va_put (D := (dC, dI)) (ci := 3) (v := .int 19) (ty := tyX3 1) (C := RX3) (T := TX3) (N := 9) hx hb htw inlX3 tyX3 tyX3_ok nmX3 hown hK hP hD hS 0 rfl rfl 1 (by decide) (htw _ (ck_12 _ (List.mem_of_getElem? (i := 11) rfl))) (fun _ h9 => h9) rfl (by decide +kernel) rfl rfl (Nat.le_of_ble_eq_true rfl) dX3_putFour_39 (fun H locs hP hD hS => ?_)
  have hP : va_P (dC, dI) vwCl [(plx, .inr (3, [.ref lby, .int 19, .ref lco, .int 0, .int 0, .int 0, .int 0, .int 0, .int 0])), (lby, .inl (cB, 900, .inl f_5))] H := hP
  have hD : va_D A [(plx, .inr (3, [.ref lby, .int 19, .ref lco, .int 0, .int 0, .int 0, .int 0, .int 0, .int 0])), (lby, .inl (cB, 900, .inl f_5))] := hD
  refine lv_iinc (v := 0) (lv' := [(2, .int 0), (0, .ref plx), (1, .int a0)]) hx hb dX3_putFour_42 hl (k := 0) rfl (by decide) (by decide) rfl (fun ls hl => ?_)
  refine lv_goto (tgt := 3) hx hb dX3_putFour_45 (by decide) ?_
  refine lv_iload_n hx hb dX3_putFour_3 rfl (lv_at hl 0 rfl) ?_
  refine lv_if_lt (tgt := 48) hx hb dX3_putFour_4 (by decide) (fun c => absurd c (by decide)) (fun _ => ?_)
  refine lv_aload_n hx hb dX3_putFour_7 rfl (lv_at hl 1 rfl) ?_
  refine va_get (D := (dC, dI)) (ci := 3) (v := .int 19) (C := RX3) (T := TX3) (N := 9) hx hb htw inlX3 hown hK hP 0 rfl rfl 1 (by decide) (htw _ (ck_12 _ (List.mem_of_getElem? (i := 11) rfl))) (fun _ h9 => h9) rfl dX3_putFour_8 ?_
  refine lv_aload_n hx hb dX3_putFour_11 rfl (lv_at hl 1 rfl) ?_
  refine va_get (D := (dC, dI)) (ci := 3) (v := .ref lby) (C := RX3) (T := TX3) (N := 9) hx hb htw inlX3 hown hK hP 0 rfl rfl 0 (by decide) (htw _ (ck_3 _ (List.mem_of_getElem? (i := 14) rfl))) (fun _ h9 => h9) rfl dX3_putFour_12 ?_
  refine va_alen hx hb hK hP 1 0 rfl rfl (v := 900) rfl dX3_putFour_15 ?_
  refine lv_icmp_ge (tgt := 48) hx hb dX3_putFour_16 (by decide) (fun c => absurd c (by decide)) (fun _ => ?_)
  refine lv_aload_n hx hb dX3_putFour_19 rfl (lv_at hl 1 rfl) ?_
  refine va_get (D := (dC, dI)) (ci := 3) (v := .ref lby) (C := RX3) (T := TX3) (N := 9) hx hb htw inlX3 hown hK hP 0 rfl rfl 0 (by decide) (htw _ (ck_3 _ (List.mem_of_getElem? (i := 14) rfl))) (fun _ h9 => h9) rfl dX3_putFour_20 ?_
  refine lv_aload_n hx hb dX3_putFour_23 rfl (lv_at hl 1 rfl) ?_
  refine va_get (D := (dC, dI)) (ci := 3) (v := .int 19) (C := RX3) (T := TX3) (N := 9) hx hb htw inlX3 hown hK hP 0 rfl rfl 1 (by decide) (htw _ (ck_12 _ (List.mem_of_getElem? (i := 11) rfl))) (fun _ h9 => h9) rfl dX3_putFour_24 ?_
  refine lv_iload_n hx hb dX3_putFour_27 rfl (lv_at hl 2 rfl) ?_
  refine lv_iload_n hx hb dX3_putFour_28 rfl (lv_at hl 0 rfl) ?_
  refine lv_ishr hx hb dX3_putFour_29 ?_
  refine lv_i2b (v := (a0 >>> (0 &&& 31)).toInt8.toInt32) hx hb dX3_putFour_30 rfl ?_
  refine xg_bast hx hb hK hP hD hS 1 0 rfl rfl (by unfold vp_in; decide) dX3_putFour_31 (fun f_7 H locs hP hD hS => ?_)
  have hP : va_P (dC, dI) vwCl [(plx, .inr (3, [.ref lby, .int 19, .ref lco, .int 0, .int 0, .int 0, .int 0, .int 0, .int 0])), (lby, .inl (cB, 900, .inl f_7))] H := hP
  have hD : va_D A [(plx, .inr (3, [.ref lby, .int 19, .ref lco, .int 0, .int 0, .int 0, .int 0, .int 0, .int 0])), (lby, .inl (cB, 900, .inl f_7))] := hD
  refine lv_aload_n hx hb dX3_putFour_32 rfl (lv_at hl 1 rfl) ?_
  refine lv_dup hx hb dX3_putFour_33 rfl ?_
  refine va_get (D := (dC, dI)) (ci := 3) (v := .int 19) (C := RX3) (T := TX3) (N := 9) hx hb htw inlX3 hown hK hP 0 rfl rfl 1 (by decide) (htw _ (ck_12 _ (List.mem_of_getElem? (i := 11) rfl))) (fun _ h9 => h9) rfl dX3_putFour_34 ?_
  refine lv_iconst (v := 1) hx hb dX3_putFour_37 (by decide) ?_
  refine lv_iadd hx hb dX3_putFour_38 ?_
  refine lv_topi (fun z_8 ez_8 => ?_)
  obtain rfl : z_8 = 20 := ez_8.trans (by decide)
  refine va_put (D := (dC, dI)) (ci := 3) (v := .int 20) (ty := tyX3 1) (C := RX3) (T := TX3) (N := 9) hx hb htw inlX3 tyX3 tyX3_ok nmX3 hown hK hP hD hS 0 rfl rfl 1 (by decide) (htw _ (ck_12 _ (List.mem_of_getElem? (i := 11) rfl))) (fun _ h9 => h9) rfl (by decide +kernel) rfl rfl (Nat.le_of_ble_eq_true rfl) dX3_putFour_39 (fun H locs hP hD hS => ?_)
  have hP : va_P (dC, dI) vwCl [(plx, .inr (3, [.ref lby, .int 20, .ref lco, .int 0, .int 0, .int 0, .int 0, .int 0, .int 0])), (lby, .inl (cB, 900, .inl f_7))] H := hP
  have hD : va_D A [(plx, .inr (3, [.ref lby, .int 20, .ref lco, .int 0, .int 0, .int 0, .int 0, .int 0, .int 0])), (lby, .inl (cB, 900, .inl f_7))] := hD
  refine lv_iinc (v := (-8)) (lv' := [(2, .int (-8)), (0, .ref plx), (1, .int a0)]) hx hb dX3_putFour_42 hl (k := 0) rfl (by decide) (by decide) rfl (fun ls hl => ?_)
  refine lv_goto (tgt := 3) hx hb dX3_putFour_45 (by decide) ?_
  refine lv_iload_n hx hb dX3_putFour_3 rfl (lv_at hl 0 rfl) ?_
  refine lv_if_lt (tgt := 48) hx hb dX3_putFour_4 (by decide) (fun _ => ?_) (fun c => absurd c (by decide))
  refine W.widen (k := 0) (n := 0) (by omega) (by omega) ?_
  have hP9 := hP.sub (ws' := [(plx, .inr (3, [.ref lby, .int 20, .ref lco, .int 0, .int 0, .int 0, .int 0, .int 0, .int 0])), (lby, .inl (cB, 900, .inl f_7))]) [0, 1] rfl
  have hD9 := hD.sub (ws' := [(plx, .inr (3, [.ref lby, .int 20, .ref lco, .int 0, .int 0, .int 0, .int 0, .int 0, .int 0])), (lby, .inl (cB, 900, .inl f_7))]) [0, 1] (by decide) rfl
  have hK9 := hK.sub (tys' := []) [] rfl
  exact W.vret hx hb hr (fun t ht hW => ⟨⟨f_7, rfl, trivial, by rw [ht]; exact hP9, va_K.moved hW.alike hK9, hD9⟩, hS.F ht⟩) hS.2.2 dX3_putFour_48

theorem dX11_feed_0 : decode cX11_feed 0 = .ok (.aload_n 0, 1) := by decide +kernel
theorem dX11_feed_1 : decode cX11_feed 1 = .ok (.getfield 12, 3) := by decide +kernel
theorem dX11_feed_4 : decode cX11_feed 4 = .ok (.getfield 71, 3) := by decide +kernel
theorem dX11_feed_7 : decode cX11_feed 7 = .ok (.astore 6, 2) := by decide +kernel
theorem dX11_feed_9 : decode cX11_feed 9 = .ok (.aload 6, 2) := by decide +kernel
theorem dX11_feed_11 : decode cX11_feed 11 = .ok (.getfield 75, 3) := by decide +kernel
theorem dX11_feed_14 : decode cX11_feed 14 = .ok (.bipush 20, 2) := by decide +kernel
theorem dX11_feed_16 : decode cX11_feed 16 = .ok (.iadd, 1) := by decide +kernel
theorem dX11_feed_17 : decode cX11_feed 17 = .ok (.sipush 900, 3) := by decide +kernel
theorem dX11_feed_20 : decode cX11_feed 20 = .ok (.if_icmp .le 5, 3) := by decide +kernel
theorem dX11_feed_25 : decode cX11_feed 25 = .ok (.aload 6, 2) := by decide +kernel
theorem dX11_feed_27 : decode cX11_feed 27 = .ok (.iload_n 1, 1) := by decide +kernel
theorem dX11_feed_28 : decode cX11_feed 28 = .ok (.invokevirtual 81, 3) := by decide +kernel
theorem dX11_feed_31 : decode cX11_feed 31 = .ok (.aload 6, 2) := by decide +kernel
theorem dX11_feed_33 : decode cX11_feed 33 = .ok (.iload_n 2, 1) := by decide +kernel
theorem dX11_feed_34 : decode cX11_feed 34 = .ok (.invokevirtual 81, 3) := by decide +kernel
theorem dX11_feed_37 : decode cX11_feed 37 = .ok (.aload 6, 2) := by decide +kernel
theorem dX11_feed_39 : decode cX11_feed 39 = .ok (.iload_n 3, 1) := by decide +kernel
theorem dX11_feed_40 : decode cX11_feed 40 = .ok (.invokevirtual 81, 3) := by decide +kernel
theorem dX11_feed_43 : decode cX11_feed 43 = .ok (.aload 6, 2) := by decide +kernel
theorem dX11_feed_45 : decode cX11_feed 45 = .ok (.iload 4, 2) := by decide +kernel
theorem dX11_feed_47 : decode cX11_feed 47 = .ok (.invokevirtual 81, 3) := by decide +kernel
theorem dX11_feed_50 : decode cX11_feed 50 = .ok (.aload 6, 2) := by decide +kernel
theorem dX11_feed_52 : decode cX11_feed 52 = .ok (.iload 5, 2) := by decide +kernel
theorem dX11_feed_54 : decode cX11_feed 54 = .ok (.invokevirtual 81, 3) := by decide +kernel
theorem dX11_feed_57 : decode cX11_feed 57 = .ok (.aload 6, 2) := by decide +kernel
theorem dX11_feed_59 : decode cX11_feed 59 = .ok (.getfield 75, 3) := by decide +kernel
theorem dX11_feed_62 : decode cX11_feed 62 = .ok (.ireturn, 1) := by decide +kernel
set_option maxHeartbeats 4000000 in
set_option maxRecDepth 100000 in
theorem mx_feed (l : Launch) (dC : Nat → ClassId) (dI : Nat → Nat → Nat) (x : Nat) (xpa : Nat) (xsp : Nat) (xdy : Nat) (xle : Nat) (xst : Nat) (xim : Nat) (xil : Nat) (xmo : Nat) (xom : Nat) (xwi : Nat) (b : Nat) (plx : Nat) (phd : Nat) (phr : Nat) (lby : Nat) (lco : Nat) (cB : ClassId) (fB : Nat → Int32) (a0 : Int32) (a1 : Int32) (a2 : Int32) (a3 : Int32) (a4 : Int32) (sz : Nat) : Met l yX11_feed (Cond.code yX11_feed cX11_feed 7 (some .int) :: wsL_law) ({ frames := 1, cells := 0, slots := 0, locals := 22 }) (va_Pc [.ref x, .int a0, .int a1, .int a2, .int a3, .int a4] (fun U => U.heap.size = sz ∧ va_P (dC, dI) vwCl [(x, .inr (11, [.ref xpa, .ref b, .ref xsp, .ref xdy, .ref xle, .ref xst, .int 0, .ref xim, .ref xil, .int 0, .ref xmo, .ref xom, .ref xwi])), (xpa, .inr (7, [.ref plx, .null, .int 0, .int (-1), .int 0, .ref phd, .ref phr, .int 0, .int 0])), (plx, .inr (3, [.ref lby, .int 0, .ref lco, .int 0, .int 0, .int 0, .int 0, .int 0, .int 0])), (lby, .inl (cB, 900, .inl fB))] U.heap ∧ va_K (dC, dI) vwCl [(cB, .byte)] U ∧ va_D (fun _ => True) [(x, .inr (11, [.ref xpa, .ref b, .ref xsp, .ref xdy, .ref xle, .ref xst, .int 0, .ref xim, .ref xil, .int 0, .ref xmo, .ref xom, .ref xwi])), (xpa, .inr (7, [.ref plx, .null, .int 0, .int (-1), .int 0, .ref phd, .ref phr, .int 0, .int 0])), (plx, .inr (3, [.ref lby, .int 0, .ref lco, .int 0, .int 0, .int 0, .int 0, .int 0, .int 0])), (lby, .inl (cB, 900, .inl fB))])) (va_Qi (fun (r : Int32) (u : Unit) => r = 20) (fun _ _ => True) (va_A [(x, .inr (11, [.ref xpa, .ref b, .ref xsp, .ref xdy, .ref xle, .ref xst, .int 0, .ref xim, .ref xil, .int 0, .ref xmo, .ref xom, .ref xwi])), (xpa, .inr (7, [.ref plx, .null, .int 0, .int (-1), .int 0, .ref phd, .ref phr, .int 0, .int 0])), (plx, .inr (3, [.ref lby, .int 0, .ref lco, .int 0, .int 0, .int 0, .int 0, .int 0, .int 0])), (lby, .inl (cB, 900, .inl fB))] sz)) 0 0 (va_A [(x, .inr (11, [.ref xpa, .ref b, .ref xsp, .ref xdy, .ref xle, .ref xst, .int 0, .ref xim, .ref xil, .int 0, .ref xmo, .ref xom, .ref xwi])), (xpa, .inr (7, [.ref plx, .null, .int 0, .int (-1), .int 0, .ref phd, .ref phr, .int 0, .int 0])), (plx, .inr (3, [.ref lby, .int 0, .ref lco, .int 0, .int 0, .int 0, .int 0, .int 0, .int 0])), (lby, .inl (cB, 900, .inl fB))] sz) := by
  refine Met.ofW (cc := cX11_feed) (maxL := 7) (ret := (some .int)) (by decide) rfl ?_
  intro p e s m args below meth c s₁ B hml hv
  obtain ⟨rfl, hsz, hP, hK, hD0⟩ := hv
  have hx := B.exec
  have hb := B.bytes
  have hr := B.returns
  have hts := atoms_spec (ws := Cond.code yX11_feed cX11_feed 7 (some .int) :: wsL_law) B.pre
  have htw : ∀ w ∈ wsL_law, w.before _ s = true := fun w h => hts w (List.mem_cons_of_mem _ h)
  have hown : s.vm.findClass RX11 = some m.cls := findClass_of_methodNamed B.named
  have hlocks := B.notSynchronized
  subst hsz
  have hD := hD0.self (sz := s.heap.size)
  generalize hAe : va_A [(x, .inr (11, [.ref xpa, .ref b, .ref xsp, .ref xdy, .ref xle, .ref xst, .int 0, .ref xim, .ref xil, .int 0, .ref xmo, .ref xom, .ref xwi])), (xpa, .inr (7, [.ref plx, .null, .int 0, .int (-1), .int 0, .ref phd, .ref phr, .int 0, .int 0])), (plx, .inr (3, [.ref lby, .int 0, .ref lco, .int 0, .int 0, .int 0, .int 0, .int 0, .int 0])), (lby, .inl (cB, 900, .inl fB))] s.heap.size = A at hD ⊢
  have hA : ∀ q : Nat, s.heap.size ≤ q → A q := fun q h => by rw [← hAe]; exact Or.inr h
  obtain ⟨H, rH⟩ : ∃ z : Heap, z = s.heap := ⟨_, rfl⟩
  have hS : va_S A s.heap H [] := by rw [rH]; exact va_S.rf
  have hP : va_P (dC, dI) vwCl [(x, .inr (11, [.ref xpa, .ref b, .ref xsp, .ref xdy, .ref xle, .ref xst, .int 0, .ref xim, .ref xil, .int 0, .ref xmo, .ref xom, .ref xwi])), (xpa, .inr (7, [.ref plx, .null, .int 0, .int (-1), .int 0, .ref phd, .ref phr, .int 0, .int 0])), (plx, .inr (3, [.ref lby, .int 0, .ref lco, .int 0, .int 0, .int 0, .int 0, .int 0, .int 0])), (lby, .inl (cB, 900, .inl fB))] H := by rw [rH]; exact hP
  rw [← rH]
  have hl := lv_entry ([.ref x, .int a0, .int a1, .int a2, .int a3, .int a4]) (n := 7) (Nat.le_of_ble_eq_true rfl)
  rw [lg_entry_eq]
  generalize (lg_sl ([.ref x, .int a0, .int a1, .int a2, .int a3, .int a4]) ++ List.replicate (7 - (lg_sl ([.ref x, .int a0, .int a1, .int a2, .int a3, .int a4])).length) Slot.unset).toArray = ls at hl ⊢
  have hl : lv_has ls 7 [(0, .ref x), (1, .int a0), (2, .int a1), (3, .int a2), (4, .int a3), (5, .int a4)] := hl
  refine lv_aload_n hx hb dX11_feed_0 rfl (lv_at hl 0 rfl) ?_
  refine va_get (D := (dC, dI)) (ci := 11) (v := .ref xpa) (C := RX11) (T := TX11) (N := 13) hx hb htw inlX11 hown hK hP 0 rfl rfl 0 (by decide) (htw _ (ck_1 _ (List.mem_of_getElem? (i := 17) rfl))) (fun _ h9 => h9) rfl dX11_feed_1 ?_
  refine va_get (D := (dC, dI)) (ci := 7) (v := .ref plx) (C := RX7) (T := TX7) (N := 9) hx hb htw inlX7 hown hK hP 1 rfl rfl 0 (by decide) (htw _ (ck_12 _ (List.mem_of_getElem? (i := 5) rfl))) (fun _ h9 => h9) rfl dX11_feed_4 ?_
  refine lv_astore (lv' := [(6, .ref plx), (0, .ref x), (1, .int a0), (2, .int a1), (3, .int a2), (4, .int a3), (5, .int a4)]) hx hb dX11_feed_7 hl (by decide) rfl (fun ls hl => ?_)
  refine lv_aload hx hb dX11_feed_9 (lv_at hl 0 rfl) ?_
  refine va_get (D := (dC, dI)) (ci := 3) (v := .int 0) (C := RX3) (T := TX3) (N := 9) hx hb htw inlX3 hown hK hP 2 rfl rfl 1 (by decide) (htw _ (ck_12 _ (List.mem_of_getElem? (i := 6) rfl))) (fun _ h9 => h9) rfl dX11_feed_11 ?_
  refine lv_bipush (v := 20) hx hb dX11_feed_14 (by decide) ?_
  refine lv_iadd hx hb dX11_feed_16 ?_
  refine lv_topi (fun z_1 ez_1 => ?_)
  obtain rfl : z_1 = 20 := ez_1.trans (by decide)
  refine lv_sipush (v := 900) hx hb dX11_feed_17 (by decide) ?_
  refine lv_icmp_le (tgt := 25) hx hb dX11_feed_20 (by decide) (fun _ => ?_) (fun c => absurd c (by decide))
  refine lv_aload hx hb dX11_feed_25 (lv_at hl 0 rfl) ?_
  refine lv_iload_n hx hb dX11_feed_27 rfl (lv_at hl 2 rfl) ?_
  have hPc := hP.sub (ws' := [(plx, .inr (3, [.ref lby, .int 0, .ref lco, .int 0, .int 0, .int 0, .int 0, .int 0, .int 0])), (lby, .inl (cB, 900, .inl fB))]) [2, 3] rfl
  have hKc := hK.sub (tys' := [(cB, .byte)]) [0] rfl
  have hDc := hD.sub (ws' := [(plx, .inr (3, [.ref lby, .int 0, .ref lco, .int 0, .int 0, .int 0, .int 0, .int 0, .int 0])), (lby, .inl (cB, 900, .inl fB))]) [2, 3] (by decide) rfl
  have hFc := va_free (wc := [(plx, .inr (3, [.ref lby, .int 0, .ref lco, .int 0, .int 0, .int 0, .int 0, .int 0, .int 0])), (lby, .inl (cB, 900, .inl fB))]) hD hS hA [2, 3] rfl
  refine va_callv (va_runV (As := [.int a0]) (rest := []) ⟨hx, hb, hml, hown, htw⟩ (mt_put0 l dC dI plx lby lco cB fB a0 H.size) (cwV 1 htw (xg_V (ck_12 _ (List.mem_of_getElem? (i := 7) rfl)) (ck_12 _ (List.mem_of_getElem? (i := 8) rfl)) (ck_12 _ (List.mem_of_getElem? (i := 9) rfl)) (ck_3 _ (List.mem_of_getElem? (i := 4) rfl)) (ck_12 _ (List.mem_of_getElem? (i := 10) rfl))) rfl rfl rfl (by decide +kernel) ⟨Nat.le_of_ble_eq_true rfl, Nat.le_of_ble_eq_true rfl⟩) ⟨fun a U g mk q => by obtain ⟨q0, q1, qP, qK, qD⟩ := q; exact ⟨q0, q1, qP, va_K.moved (u := U) (U := U.calling g mk a) (Vm.Alike.refl U.vm) qK, qD⟩, va_recv hKc hPc (ci := 3) (q0 := 0) rfl rfl, fun U hU hW => ⟨rfl, by rw [hU], by rw [hU]; exact hPc, va_K.moved hW.alike hKc, hDc.weaken (fun _ _ _ _ => trivial)⟩⟩ rfl rfl hl.1 rfl (lv_room (Nat.le_of_ble_eq_true rfl)) dX11_feed_28 ⟨Nat.le_of_ble_eq_true rfl, Nat.le_of_ble_eq_true rfl⟩) hS (fun q _ h => hFc q h) hFc (fun u_3 t H1 locs ht hvm hw hB hz1 hk1 hS => ?_)
  try dsimp only at hw
  obtain ⟨hP1, hK1, hD1⟩ := hB
  rw [ht] at hP1
  have hK1 := va_K.moved hvm.symm hK1
  have hP1 : va_P (dC, dI) vwCl [(plx, .inr (3, [.ref lby, .int 4, .ref lco, .int 0, .int 0, .int 0, .int 0, .int 0, .int 0])), (lby, .inl (cB, 900, .inl u_3))] H1 := hP1
  have hD1 : va_D (va_A [(plx, .inr (3, [.ref lby, .int 0, .ref lco, .int 0, .int 0, .int 0, .int 0, .int 0, .int 0])), (lby, .inl (cB, 900, .inl fB))] H.size) [(plx, .inr (3, [.ref lby, .int 4, .ref lco, .int 0, .int 0, .int 0, .int 0, .int 0, .int 0])), (lby, .inl (cB, 900, .inl u_3))] := hD1
  have hK1 : va_K (dC, dI) vwCl [] s := hK1
  obtain ⟨hP, hD⟩ := va_join (wr := [(x, .inr (11, [.ref xpa, .ref b, .ref xsp, .ref xdy, .ref xle, .ref xst, .int 0, .ref xim, .ref xil, .int 0, .ref xmo, .ref xom, .ref xwi])), (xpa, .inr (7, [.ref plx, .null, .int 0, .int (-1), .int 0, .ref phd, .ref phr, .int 0, .int 0]))]) (w1 := [(plx, .inr (3, [.ref lby, .int 4, .ref lco, .int 0, .int 0, .int 0, .int 0, .int 0, .int 0])), (lby, .inl (cB, 900, .inl u_3))]) hP hD [2, 3] [0, 1] rfl rfl (by decide) (by decide) hk1 hFc hP1 hD1
  generalize H1 = H at hP hS ⊢
  have hP : va_P (dC, dI) vwCl [(x, .inr (11, [.ref xpa, .ref b, .ref xsp, .ref xdy, .ref xle, .ref xst, .int 0, .ref xim, .ref xil, .int 0, .ref xmo, .ref xom, .ref xwi])), (xpa, .inr (7, [.ref plx, .null, .int 0, .int (-1), .int 0, .ref phd, .ref phr, .int 0, .int 0])), (plx, .inr (3, [.ref lby, .int 4, .ref lco, .int 0, .int 0, .int 0, .int 0, .int 0, .int 0])), (lby, .inl (cB, 900, .inl u_3))] H := hP
  have hD : va_D A [(x, .inr (11, [.ref xpa, .ref b, .ref xsp, .ref xdy, .ref xle, .ref xst, .int 0, .ref xim, .ref xil, .int 0, .ref xmo, .ref xom, .ref xwi])), (xpa, .inr (7, [.ref plx, .null, .int 0, .int (-1), .int 0, .ref phd, .ref phr, .int 0, .int 0])), (plx, .inr (3, [.ref lby, .int 4, .ref lco, .int 0, .int 0, .int 0, .int 0, .int 0, .int 0])), (lby, .inl (cB, 900, .inl u_3))] := hD
  refine W.widen (k := 0) (n := 0) (by omega) (by omega) ?_
  refine lv_aload hx hb dX11_feed_31 (lv_at hl 0 rfl) ?_
  refine lv_iload_n hx hb dX11_feed_33 rfl (lv_at hl 3 rfl) ?_
  have hPc := hP.sub (ws' := [(plx, .inr (3, [.ref lby, .int 4, .ref lco, .int 0, .int 0, .int 0, .int 0, .int 0, .int 0])), (lby, .inl (cB, 900, .inl u_3))]) [2, 3] rfl
  have hKc := hK.sub (tys' := [(cB, .byte)]) [0] rfl
  have hDc := hD.sub (ws' := [(plx, .inr (3, [.ref lby, .int 4, .ref lco, .int 0, .int 0, .int 0, .int 0, .int 0, .int 0])), (lby, .inl (cB, 900, .inl u_3))]) [2, 3] (by decide) rfl
  have hFc := va_free (wc := [(plx, .inr (3, [.ref lby, .int 4, .ref lco, .int 0, .int 0, .int 0, .int 0, .int 0, .int 0])), (lby, .inl (cB, 900, .inl u_3))]) hD hS hA [2, 3] rfl
  refine va_callv (va_runV (As := [.int a1]) (rest := []) ⟨hx, hb, hml, hown, htw⟩ (mt_put4 l dC dI plx lby lco cB u_3 a1 H.size) (cwV 1 htw (xg_V (ck_12 _ (List.mem_of_getElem? (i := 7) rfl)) (ck_12 _ (List.mem_of_getElem? (i := 8) rfl)) (ck_12 _ (List.mem_of_getElem? (i := 9) rfl)) (ck_3 _ (List.mem_of_getElem? (i := 4) rfl)) (ck_12 _ (List.mem_of_getElem? (i := 10) rfl))) rfl rfl rfl (by decide +kernel) ⟨Nat.le_of_ble_eq_true rfl, Nat.le_of_ble_eq_true rfl⟩) ⟨fun a U g mk q => by obtain ⟨q0, q1, qP, qK, qD⟩ := q; exact ⟨q0, q1, qP, va_K.moved (u := U) (U := U.calling g mk a) (Vm.Alike.refl U.vm) qK, qD⟩, va_recv hKc hPc (ci := 3) (q0 := 0) rfl rfl, fun U hU hW => ⟨rfl, by rw [hU], by rw [hU]; exact hPc, va_K.moved hW.alike hKc, hDc.weaken (fun _ _ _ _ => trivial)⟩⟩ rfl rfl hl.1 rfl (lv_room (Nat.le_of_ble_eq_true rfl)) dX11_feed_34 ⟨Nat.le_of_ble_eq_true rfl, Nat.le_of_ble_eq_true rfl⟩) hS (fun q _ h => hFc q h) hFc (fun u_6 t H1 locs ht hvm hw hB hz1 hk1 hS => ?_)
  try dsimp only at hw
  obtain ⟨hP1, hK1, hD1⟩ := hB
  rw [ht] at hP1
  have hK1 := va_K.moved hvm.symm hK1
  have hP1 : va_P (dC, dI) vwCl [(plx, .inr (3, [.ref lby, .int 8, .ref lco, .int 0, .int 0, .int 0, .int 0, .int 0, .int 0])), (lby, .inl (cB, 900, .inl u_6))] H1 := hP1
  have hD1 : va_D (va_A [(plx, .inr (3, [.ref lby, .int 4, .ref lco, .int 0, .int 0, .int 0, .int 0, .int 0, .int 0])), (lby, .inl (cB, 900, .inl u_3))] H.size) [(plx, .inr (3, [.ref lby, .int 8, .ref lco, .int 0, .int 0, .int 0, .int 0, .int 0, .int 0])), (lby, .inl (cB, 900, .inl u_6))] := hD1
  have hK1 : va_K (dC, dI) vwCl [] s := hK1
  obtain ⟨hP, hD⟩ := va_join (wr := [(x, .inr (11, [.ref xpa, .ref b, .ref xsp, .ref xdy, .ref xle, .ref xst, .int 0, .ref xim, .ref xil, .int 0, .ref xmo, .ref xom, .ref xwi])), (xpa, .inr (7, [.ref plx, .null, .int 0, .int (-1), .int 0, .ref phd, .ref phr, .int 0, .int 0]))]) (w1 := [(plx, .inr (3, [.ref lby, .int 8, .ref lco, .int 0, .int 0, .int 0, .int 0, .int 0, .int 0])), (lby, .inl (cB, 900, .inl u_6))]) hP hD [2, 3] [0, 1] rfl rfl (by decide) (by decide) hk1 hFc hP1 hD1
  generalize H1 = H at hP hS ⊢
  have hP : va_P (dC, dI) vwCl [(x, .inr (11, [.ref xpa, .ref b, .ref xsp, .ref xdy, .ref xle, .ref xst, .int 0, .ref xim, .ref xil, .int 0, .ref xmo, .ref xom, .ref xwi])), (xpa, .inr (7, [.ref plx, .null, .int 0, .int (-1), .int 0, .ref phd, .ref phr, .int 0, .int 0])), (plx, .inr (3, [.ref lby, .int 8, .ref lco, .int 0, .int 0, .int 0, .int 0, .int 0, .int 0])), (lby, .inl (cB, 900, .inl u_6))] H := hP
  have hD : va_D A [(x, .inr (11, [.ref xpa, .ref b, .ref xsp, .ref xdy, .ref xle, .ref xst, .int 0, .ref xim, .ref xil, .int 0, .ref xmo, .ref xom, .ref xwi])), (xpa, .inr (7, [.ref plx, .null, .int 0, .int (-1), .int 0, .ref phd, .ref phr, .int 0, .int 0])), (plx, .inr (3, [.ref lby, .int 8, .ref lco, .int 0, .int 0, .int 0, .int 0, .int 0, .int 0])), (lby, .inl (cB, 900, .inl u_6))] := hD
  refine W.widen (k := 0) (n := 0) (by omega) (by omega) ?_
  refine lv_aload hx hb dX11_feed_37 (lv_at hl 0 rfl) ?_
  refine lv_iload_n hx hb dX11_feed_39 rfl (lv_at hl 4 rfl) ?_
  have hPc := hP.sub (ws' := [(plx, .inr (3, [.ref lby, .int 8, .ref lco, .int 0, .int 0, .int 0, .int 0, .int 0, .int 0])), (lby, .inl (cB, 900, .inl u_6))]) [2, 3] rfl
  have hKc := hK.sub (tys' := [(cB, .byte)]) [0] rfl
  have hDc := hD.sub (ws' := [(plx, .inr (3, [.ref lby, .int 8, .ref lco, .int 0, .int 0, .int 0, .int 0, .int 0, .int 0])), (lby, .inl (cB, 900, .inl u_6))]) [2, 3] (by decide) rfl
  have hFc := va_free (wc := [(plx, .inr (3, [.ref lby, .int 8, .ref lco, .int 0, .int 0, .int 0, .int 0, .int 0, .int 0])), (lby, .inl (cB, 900, .inl u_6))]) hD hS hA [2, 3] rfl
  refine va_callv (va_runV (As := [.int a2]) (rest := []) ⟨hx, hb, hml, hown, htw⟩ (mt_put8 l dC dI plx lby lco cB u_6 a2 H.size) (cwV 1 htw (xg_V (ck_12 _ (List.mem_of_getElem? (i := 7) rfl)) (ck_12 _ (List.mem_of_getElem? (i := 8) rfl)) (ck_12 _ (List.mem_of_getElem? (i := 9) rfl)) (ck_3 _ (List.mem_of_getElem? (i := 4) rfl)) (ck_12 _ (List.mem_of_getElem? (i := 10) rfl))) rfl rfl rfl (by decide +kernel) ⟨Nat.le_of_ble_eq_true rfl, Nat.le_of_ble_eq_true rfl⟩) ⟨fun a U g mk q => by obtain ⟨q0, q1, qP, qK, qD⟩ := q; exact ⟨q0, q1, qP, va_K.moved (u := U) (U := U.calling g mk a) (Vm.Alike.refl U.vm) qK, qD⟩, va_recv hKc hPc (ci := 3) (q0 := 0) rfl rfl, fun U hU hW => ⟨rfl, by rw [hU], by rw [hU]; exact hPc, va_K.moved hW.alike hKc, hDc.weaken (fun _ _ _ _ => trivial)⟩⟩ rfl rfl hl.1 rfl (lv_room (Nat.le_of_ble_eq_true rfl)) dX11_feed_40 ⟨Nat.le_of_ble_eq_true rfl, Nat.le_of_ble_eq_true rfl⟩) hS (fun q _ h => hFc q h) hFc (fun u_9 t H1 locs ht hvm hw hB hz1 hk1 hS => ?_)
  try dsimp only at hw
  obtain ⟨hP1, hK1, hD1⟩ := hB
  rw [ht] at hP1
  have hK1 := va_K.moved hvm.symm hK1
  have hP1 : va_P (dC, dI) vwCl [(plx, .inr (3, [.ref lby, .int 12, .ref lco, .int 0, .int 0, .int 0, .int 0, .int 0, .int 0])), (lby, .inl (cB, 900, .inl u_9))] H1 := hP1
  have hD1 : va_D (va_A [(plx, .inr (3, [.ref lby, .int 8, .ref lco, .int 0, .int 0, .int 0, .int 0, .int 0, .int 0])), (lby, .inl (cB, 900, .inl u_6))] H.size) [(plx, .inr (3, [.ref lby, .int 12, .ref lco, .int 0, .int 0, .int 0, .int 0, .int 0, .int 0])), (lby, .inl (cB, 900, .inl u_9))] := hD1
  have hK1 : va_K (dC, dI) vwCl [] s := hK1
  obtain ⟨hP, hD⟩ := va_join (wr := [(x, .inr (11, [.ref xpa, .ref b, .ref xsp, .ref xdy, .ref xle, .ref xst, .int 0, .ref xim, .ref xil, .int 0, .ref xmo, .ref xom, .ref xwi])), (xpa, .inr (7, [.ref plx, .null, .int 0, .int (-1), .int 0, .ref phd, .ref phr, .int 0, .int 0]))]) (w1 := [(plx, .inr (3, [.ref lby, .int 12, .ref lco, .int 0, .int 0, .int 0, .int 0, .int 0, .int 0])), (lby, .inl (cB, 900, .inl u_9))]) hP hD [2, 3] [0, 1] rfl rfl (by decide) (by decide) hk1 hFc hP1 hD1
  generalize H1 = H at hP hS ⊢
  have hP : va_P (dC, dI) vwCl [(x, .inr (11, [.ref xpa, .ref b, .ref xsp, .ref xdy, .ref xle, .ref xst, .int 0, .ref xim, .ref xil, .int 0, .ref xmo, .ref xom, .ref xwi])), (xpa, .inr (7, [.ref plx, .null, .int 0, .int (-1), .int 0, .ref phd, .ref phr, .int 0, .int 0])), (plx, .inr (3, [.ref lby, .int 12, .ref lco, .int 0, .int 0, .int 0, .int 0, .int 0, .int 0])), (lby, .inl (cB, 900, .inl u_9))] H := hP
  have hD : va_D A [(x, .inr (11, [.ref xpa, .ref b, .ref xsp, .ref xdy, .ref xle, .ref xst, .int 0, .ref xim, .ref xil, .int 0, .ref xmo, .ref xom, .ref xwi])), (xpa, .inr (7, [.ref plx, .null, .int 0, .int (-1), .int 0, .ref phd, .ref phr, .int 0, .int 0])), (plx, .inr (3, [.ref lby, .int 12, .ref lco, .int 0, .int 0, .int 0, .int 0, .int 0, .int 0])), (lby, .inl (cB, 900, .inl u_9))] := hD
  refine W.widen (k := 0) (n := 0) (by omega) (by omega) ?_
  refine lv_aload hx hb dX11_feed_43 (lv_at hl 0 rfl) ?_
  refine lv_iload hx hb dX11_feed_45 (lv_at hl 5 rfl) ?_
  have hPc := hP.sub (ws' := [(plx, .inr (3, [.ref lby, .int 12, .ref lco, .int 0, .int 0, .int 0, .int 0, .int 0, .int 0])), (lby, .inl (cB, 900, .inl u_9))]) [2, 3] rfl
  have hKc := hK.sub (tys' := [(cB, .byte)]) [0] rfl
  have hDc := hD.sub (ws' := [(plx, .inr (3, [.ref lby, .int 12, .ref lco, .int 0, .int 0, .int 0, .int 0, .int 0, .int 0])), (lby, .inl (cB, 900, .inl u_9))]) [2, 3] (by decide) rfl
  have hFc := va_free (wc := [(plx, .inr (3, [.ref lby, .int 12, .ref lco, .int 0, .int 0, .int 0, .int 0, .int 0, .int 0])), (lby, .inl (cB, 900, .inl u_9))]) hD hS hA [2, 3] rfl
  refine va_callv (va_runV (As := [.int a3]) (rest := []) ⟨hx, hb, hml, hown, htw⟩ (mt_put12 l dC dI plx lby lco cB u_9 a3 H.size) (cwV 1 htw (xg_V (ck_12 _ (List.mem_of_getElem? (i := 7) rfl)) (ck_12 _ (List.mem_of_getElem? (i := 8) rfl)) (ck_12 _ (List.mem_of_getElem? (i := 9) rfl)) (ck_3 _ (List.mem_of_getElem? (i := 4) rfl)) (ck_12 _ (List.mem_of_getElem? (i := 10) rfl))) rfl rfl rfl (by decide +kernel) ⟨Nat.le_of_ble_eq_true rfl, Nat.le_of_ble_eq_true rfl⟩) ⟨fun a U g mk q => by obtain ⟨q0, q1, qP, qK, qD⟩ := q; exact ⟨q0, q1, qP, va_K.moved (u := U) (U := U.calling g mk a) (Vm.Alike.refl U.vm) qK, qD⟩, va_recv hKc hPc (ci := 3) (q0 := 0) rfl rfl, fun U hU hW => ⟨rfl, by rw [hU], by rw [hU]; exact hPc, va_K.moved hW.alike hKc, hDc.weaken (fun _ _ _ _ => trivial)⟩⟩ rfl rfl hl.1 rfl (lv_room (Nat.le_of_ble_eq_true rfl)) dX11_feed_47 ⟨Nat.le_of_ble_eq_true rfl, Nat.le_of_ble_eq_true rfl⟩) hS (fun q _ h => hFc q h) hFc (fun u_12 t H1 locs ht hvm hw hB hz1 hk1 hS => ?_)
  try dsimp only at hw
  obtain ⟨hP1, hK1, hD1⟩ := hB
  rw [ht] at hP1
  have hK1 := va_K.moved hvm.symm hK1
  have hP1 : va_P (dC, dI) vwCl [(plx, .inr (3, [.ref lby, .int 16, .ref lco, .int 0, .int 0, .int 0, .int 0, .int 0, .int 0])), (lby, .inl (cB, 900, .inl u_12))] H1 := hP1
  have hD1 : va_D (va_A [(plx, .inr (3, [.ref lby, .int 12, .ref lco, .int 0, .int 0, .int 0, .int 0, .int 0, .int 0])), (lby, .inl (cB, 900, .inl u_9))] H.size) [(plx, .inr (3, [.ref lby, .int 16, .ref lco, .int 0, .int 0, .int 0, .int 0, .int 0, .int 0])), (lby, .inl (cB, 900, .inl u_12))] := hD1
  have hK1 : va_K (dC, dI) vwCl [] s := hK1
  obtain ⟨hP, hD⟩ := va_join (wr := [(x, .inr (11, [.ref xpa, .ref b, .ref xsp, .ref xdy, .ref xle, .ref xst, .int 0, .ref xim, .ref xil, .int 0, .ref xmo, .ref xom, .ref xwi])), (xpa, .inr (7, [.ref plx, .null, .int 0, .int (-1), .int 0, .ref phd, .ref phr, .int 0, .int 0]))]) (w1 := [(plx, .inr (3, [.ref lby, .int 16, .ref lco, .int 0, .int 0, .int 0, .int 0, .int 0, .int 0])), (lby, .inl (cB, 900, .inl u_12))]) hP hD [2, 3] [0, 1] rfl rfl (by decide) (by decide) hk1 hFc hP1 hD1
  generalize H1 = H at hP hS ⊢
  have hP : va_P (dC, dI) vwCl [(x, .inr (11, [.ref xpa, .ref b, .ref xsp, .ref xdy, .ref xle, .ref xst, .int 0, .ref xim, .ref xil, .int 0, .ref xmo, .ref xom, .ref xwi])), (xpa, .inr (7, [.ref plx, .null, .int 0, .int (-1), .int 0, .ref phd, .ref phr, .int 0, .int 0])), (plx, .inr (3, [.ref lby, .int 16, .ref lco, .int 0, .int 0, .int 0, .int 0, .int 0, .int 0])), (lby, .inl (cB, 900, .inl u_12))] H := hP
  have hD : va_D A [(x, .inr (11, [.ref xpa, .ref b, .ref xsp, .ref xdy, .ref xle, .ref xst, .int 0, .ref xim, .ref xil, .int 0, .ref xmo, .ref xom, .ref xwi])), (xpa, .inr (7, [.ref plx, .null, .int 0, .int (-1), .int 0, .ref phd, .ref phr, .int 0, .int 0])), (plx, .inr (3, [.ref lby, .int 16, .ref lco, .int 0, .int 0, .int 0, .int 0, .int 0, .int 0])), (lby, .inl (cB, 900, .inl u_12))] := hD
  refine W.widen (k := 0) (n := 0) (by omega) (by omega) ?_
  refine lv_aload hx hb dX11_feed_50 (lv_at hl 0 rfl) ?_
  refine lv_iload hx hb dX11_feed_52 (lv_at hl 6 rfl) ?_
  have hPc := hP.sub (ws' := [(plx, .inr (3, [.ref lby, .int 16, .ref lco, .int 0, .int 0, .int 0, .int 0, .int 0, .int 0])), (lby, .inl (cB, 900, .inl u_12))]) [2, 3] rfl
  have hKc := hK.sub (tys' := [(cB, .byte)]) [0] rfl
  have hDc := hD.sub (ws' := [(plx, .inr (3, [.ref lby, .int 16, .ref lco, .int 0, .int 0, .int 0, .int 0, .int 0, .int 0])), (lby, .inl (cB, 900, .inl u_12))]) [2, 3] (by decide) rfl
  have hFc := va_free (wc := [(plx, .inr (3, [.ref lby, .int 16, .ref lco, .int 0, .int 0, .int 0, .int 0, .int 0, .int 0])), (lby, .inl (cB, 900, .inl u_12))]) hD hS hA [2, 3] rfl
  refine va_callv (va_runV (As := [.int a4]) (rest := []) ⟨hx, hb, hml, hown, htw⟩ (mt_put16 l dC dI plx lby lco cB u_12 a4 H.size) (cwV 1 htw (xg_V (ck_12 _ (List.mem_of_getElem? (i := 7) rfl)) (ck_12 _ (List.mem_of_getElem? (i := 8) rfl)) (ck_12 _ (List.mem_of_getElem? (i := 9) rfl)) (ck_3 _ (List.mem_of_getElem? (i := 4) rfl)) (ck_12 _ (List.mem_of_getElem? (i := 10) rfl))) rfl rfl rfl (by decide +kernel) ⟨Nat.le_of_ble_eq_true rfl, Nat.le_of_ble_eq_true rfl⟩) ⟨fun a U g mk q => by obtain ⟨q0, q1, qP, qK, qD⟩ := q; exact ⟨q0, q1, qP, va_K.moved (u := U) (U := U.calling g mk a) (Vm.Alike.refl U.vm) qK, qD⟩, va_recv hKc hPc (ci := 3) (q0 := 0) rfl rfl, fun U hU hW => ⟨rfl, by rw [hU], by rw [hU]; exact hPc, va_K.moved hW.alike hKc, hDc.weaken (fun _ _ _ _ => trivial)⟩⟩ rfl rfl hl.1 rfl (lv_room (Nat.le_of_ble_eq_true rfl)) dX11_feed_54 ⟨Nat.le_of_ble_eq_true rfl, Nat.le_of_ble_eq_true rfl⟩) hS (fun q _ h => hFc q h) hFc (fun u_15 t H1 locs ht hvm hw hB hz1 hk1 hS => ?_)
  try dsimp only at hw
  obtain ⟨hP1, hK1, hD1⟩ := hB
  rw [ht] at hP1
  have hK1 := va_K.moved hvm.symm hK1
  have hP1 : va_P (dC, dI) vwCl [(plx, .inr (3, [.ref lby, .int 20, .ref lco, .int 0, .int 0, .int 0, .int 0, .int 0, .int 0])), (lby, .inl (cB, 900, .inl u_15))] H1 := hP1
  have hD1 : va_D (va_A [(plx, .inr (3, [.ref lby, .int 16, .ref lco, .int 0, .int 0, .int 0, .int 0, .int 0, .int 0])), (lby, .inl (cB, 900, .inl u_12))] H.size) [(plx, .inr (3, [.ref lby, .int 20, .ref lco, .int 0, .int 0, .int 0, .int 0, .int 0, .int 0])), (lby, .inl (cB, 900, .inl u_15))] := hD1
  have hK1 : va_K (dC, dI) vwCl [] s := hK1
  obtain ⟨hP, hD⟩ := va_join (wr := [(x, .inr (11, [.ref xpa, .ref b, .ref xsp, .ref xdy, .ref xle, .ref xst, .int 0, .ref xim, .ref xil, .int 0, .ref xmo, .ref xom, .ref xwi])), (xpa, .inr (7, [.ref plx, .null, .int 0, .int (-1), .int 0, .ref phd, .ref phr, .int 0, .int 0]))]) (w1 := [(plx, .inr (3, [.ref lby, .int 20, .ref lco, .int 0, .int 0, .int 0, .int 0, .int 0, .int 0])), (lby, .inl (cB, 900, .inl u_15))]) hP hD [2, 3] [0, 1] rfl rfl (by decide) (by decide) hk1 hFc hP1 hD1
  generalize H1 = H at hP hS ⊢
  have hP : va_P (dC, dI) vwCl [(x, .inr (11, [.ref xpa, .ref b, .ref xsp, .ref xdy, .ref xle, .ref xst, .int 0, .ref xim, .ref xil, .int 0, .ref xmo, .ref xom, .ref xwi])), (xpa, .inr (7, [.ref plx, .null, .int 0, .int (-1), .int 0, .ref phd, .ref phr, .int 0, .int 0])), (plx, .inr (3, [.ref lby, .int 20, .ref lco, .int 0, .int 0, .int 0, .int 0, .int 0, .int 0])), (lby, .inl (cB, 900, .inl u_15))] H := hP
  have hD : va_D A [(x, .inr (11, [.ref xpa, .ref b, .ref xsp, .ref xdy, .ref xle, .ref xst, .int 0, .ref xim, .ref xil, .int 0, .ref xmo, .ref xom, .ref xwi])), (xpa, .inr (7, [.ref plx, .null, .int 0, .int (-1), .int 0, .ref phd, .ref phr, .int 0, .int 0])), (plx, .inr (3, [.ref lby, .int 20, .ref lco, .int 0, .int 0, .int 0, .int 0, .int 0, .int 0])), (lby, .inl (cB, 900, .inl u_15))] := hD
  refine W.widen (k := 0) (n := 0) (by omega) (by omega) ?_
  refine lv_aload hx hb dX11_feed_57 (lv_at hl 0 rfl) ?_
  refine va_get (D := (dC, dI)) (ci := 3) (v := .int 20) (C := RX3) (T := TX3) (N := 9) hx hb htw inlX3 hown hK hP 2 rfl rfl 1 (by decide) (htw _ (ck_12 _ (List.mem_of_getElem? (i := 6) rfl))) (fun _ h9 => h9) rfl dX11_feed_59 ?_
  refine W.widen (k := 0) (n := 0) (by omega) (by omega) ?_
  exact W.iret (v := 20) hx hb hr (fun t ht hW => ⟨⟨20, (), rfl, rfl, trivial⟩, hS.F ht⟩) hS.2.2 dX11_feed_62
