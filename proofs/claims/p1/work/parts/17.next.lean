theorem dX10_clear_0 : decode cX10_clear 0 = .ok (.aload_n 0, 1) := by decide +kernel
theorem dX10_clear_1 : decode cX10_clear 1 = .ok (.iconst (-1), 1) := by decide +kernel
theorem dX10_clear_2 : decode cX10_clear 2 = .ok (.putfield 9, 3) := by decide +kernel
theorem dX10_clear_5 : decode cX10_clear 5 = .ok (.aload_n 0, 1) := by decide +kernel
theorem dX10_clear_6 : decode cX10_clear 6 = .ok (.iconst (-1), 1) := by decide +kernel
theorem dX10_clear_7 : decode cX10_clear 7 = .ok (.putfield 15, 3) := by decide +kernel
theorem dX10_clear_10 : decode cX10_clear 10 = .ok (.aload_n 0, 1) := by decide +kernel
theorem dX10_clear_11 : decode cX10_clear 11 = .ok (.iconst (-1), 1) := by decide +kernel
theorem dX10_clear_12 : decode cX10_clear 12 = .ok (.putfield 18, 3) := by decide +kernel
theorem dX10_clear_15 : decode cX10_clear 15 = .ok (.aload_n 0, 1) := by decide +kernel
theorem dX10_clear_16 : decode cX10_clear 16 = .ok (.iconst (-1), 1) := by decide +kernel
theorem dX10_clear_17 : decode cX10_clear 17 = .ok (.putfield 21, 3) := by decide +kernel
theorem dX10_clear_20 : decode cX10_clear 20 = .ok (.aload_n 0, 1) := by decide +kernel
theorem dX10_clear_21 : decode cX10_clear 21 = .ok (.iconst (-1), 1) := by decide +kernel
theorem dX10_clear_22 : decode cX10_clear 22 = .ok (.putfield 24, 3) := by decide +kernel
theorem dX10_clear_25 : decode cX10_clear 25 = .ok (.return_, 1) := by decide +kernel
set_option maxHeartbeats 4000000 in
set_option maxRecDepth 100000 in
theorem mt_wclear (l : Launch) (dC : Nat → ClassId) (dI : Nat → Nat → Nat) (xwi : Nat) (o0 : Int32) (o1 : Int32) (o2 : Int32) (o3 : Int32) (o4 : Int32) (sz : Nat) : Met l yX10_clear (Cond.code yX10_clear cX10_clear 1 none :: wsL_law) ({ frames := 0, cells := 0, slots := 0, locals := 0 }) (va_Pc [.ref xwi] (fun U => U.heap.size = sz ∧ va_P (dC, dI) vwCl [(xwi, .inr (10, [.int o0, .int o1, .int o2, .int o3, .int o4]))] U.heap ∧ va_K (dC, dI) vwCl [] U ∧ va_D (fun _ => True) [(xwi, .inr (10, [.int o0, .int o1, .int o2, .int o3, .int o4]))])) (va_Qv (fun (u : Unit) => True) (fun (u : Unit) t => va_P (dC, dI) vwCl [(xwi, .inr (10, [.int (-1), .int (-1), .int (-1), .int (-1), .int (-1)]))] t.heap ∧ va_K (dC, dI) vwCl [] t ∧ va_D (va_A [(xwi, .inr (10, [.int o0, .int o1, .int o2, .int o3, .int o4]))] sz) [(xwi, .inr (10, [.int (-1), .int (-1), .int (-1), .int (-1), .int (-1)]))]) (va_A [(xwi, .inr (10, [.int o0, .int o1, .int o2, .int o3, .int o4]))] sz)) 0 0 (va_A [(xwi, .inr (10, [.int o0, .int o1, .int o2, .int o3, .int o4]))] sz) := by
  refine Met.ofW (cc := cX10_clear) (maxL := 1) (ret := none) (by decide) rfl ?_
  intro p e s m args below meth c s₁ B hml hv
  obtain ⟨rfl, hsz, hP, hK, hD0⟩ := hv
  have hx := B.exec
  have hb := B.bytes
  have hr := B.returns
  have hts := atoms_spec (ws := Cond.code yX10_clear cX10_clear 1 none :: wsL_law) B.pre
  have htw : ∀ w ∈ wsL_law, w.before _ s = true := fun w h => hts w (List.mem_cons_of_mem _ h)
  have hown : s.vm.findClass RX10 = some m.cls := findClass_of_methodNamed B.named
  have hlocks := B.notSynchronized
  subst hsz
  have hD := hD0.self (sz := s.heap.size)
  generalize hAe : va_A [(xwi, .inr (10, [.int o0, .int o1, .int o2, .int o3, .int o4]))] s.heap.size = A at hD ⊢
  have hA : ∀ q : Nat, s.heap.size ≤ q → A q := fun q h => by rw [← hAe]; exact Or.inr h
  obtain ⟨H, rH⟩ : ∃ z : Heap, z = s.heap := ⟨_, rfl⟩
  have hS : va_S A s.heap H [] := by rw [rH]; exact va_S.rf
  have hP : va_P (dC, dI) vwCl [(xwi, .inr (10, [.int o0, .int o1, .int o2, .int o3, .int o4]))] H := by rw [rH]; exact hP
  rw [← rH]
  have hl := lv_entry ([.ref xwi]) (n := 1) (Nat.le_of_ble_eq_true rfl)
  rw [lg_entry_eq]
  generalize (lg_sl ([.ref xwi]) ++ List.replicate (1 - (lg_sl ([.ref xwi])).length) Slot.unset).toArray = ls at hl ⊢
  have hl : lv_has ls 1 [(0, .ref xwi)] := hl
  refine lv_aload_n hx hb dX10_clear_0 rfl (lv_at hl 0 rfl) ?_
  refine lv_iconst (v := (-1)) hx hb dX10_clear_1 (by decide) ?_
  refine va_put (D := (dC, dI)) (ci := 10) (v := .int (-1)) (ty := tyX10 0) (C := RX10) (T := TX10) (N := 5) hx hb htw inlX10 tyX10 tyX10_ok nmX10 hown hK hP hD hS 0 rfl rfl 0 (by decide) (htw _ (ck_42 _ (List.mem_of_getElem? (i := 8) rfl))) (fun _ h9 => h9) rfl (by decide +kernel) rfl rfl (Nat.le_of_ble_eq_true rfl) dX10_clear_2 (fun H locs hP hD hS => ?_)
  have hP : va_P (dC, dI) vwCl [(xwi, .inr (10, [.int (-1), .int o1, .int o2, .int o3, .int o4]))] H := hP
  have hD : va_D A [(xwi, .inr (10, [.int (-1), .int o1, .int o2, .int o3, .int o4]))] := hD
  refine lv_aload_n hx hb dX10_clear_5 rfl (lv_at hl 0 rfl) ?_
  refine lv_iconst (v := (-1)) hx hb dX10_clear_6 (by decide) ?_
  refine va_put (D := (dC, dI)) (ci := 10) (v := .int (-1)) (ty := tyX10 1) (C := RX10) (T := TX10) (N := 5) hx hb htw inlX10 tyX10 tyX10_ok nmX10 hown hK hP hD hS 0 rfl rfl 1 (by decide) (htw _ (ck_42 _ (List.mem_of_getElem? (i := 9) rfl))) (fun _ h9 => h9) rfl (by decide +kernel) rfl rfl (Nat.le_of_ble_eq_true rfl) dX10_clear_7 (fun H locs hP hD hS => ?_)
  have hP : va_P (dC, dI) vwCl [(xwi, .inr (10, [.int (-1), .int (-1), .int o2, .int o3, .int o4]))] H := hP
  have hD : va_D A [(xwi, .inr (10, [.int (-1), .int (-1), .int o2, .int o3, .int o4]))] := hD
  refine lv_aload_n hx hb dX10_clear_10 rfl (lv_at hl 0 rfl) ?_
  refine lv_iconst (v := (-1)) hx hb dX10_clear_11 (by decide) ?_
  refine va_put (D := (dC, dI)) (ci := 10) (v := .int (-1)) (ty := tyX10 2) (C := RX10) (T := TX10) (N := 5) hx hb htw inlX10 tyX10 tyX10_ok nmX10 hown hK hP hD hS 0 rfl rfl 2 (by decide) (htw _ (ck_42 _ (List.mem_of_getElem? (i := 10) rfl))) (fun _ h9 => h9) rfl (by decide +kernel) rfl rfl (Nat.le_of_ble_eq_true rfl) dX10_clear_12 (fun H locs hP hD hS => ?_)
  have hP : va_P (dC, dI) vwCl [(xwi, .inr (10, [.int (-1), .int (-1), .int (-1), .int o3, .int o4]))] H := hP
  have hD : va_D A [(xwi, .inr (10, [.int (-1), .int (-1), .int (-1), .int o3, .int o4]))] := hD
  refine lv_aload_n hx hb dX10_clear_15 rfl (lv_at hl 0 rfl) ?_
  refine lv_iconst (v := (-1)) hx hb dX10_clear_16 (by decide) ?_
  refine va_put (D := (dC, dI)) (ci := 10) (v := .int (-1)) (ty := tyX10 3) (C := RX10) (T := TX10) (N := 5) hx hb htw inlX10 tyX10 tyX10_ok nmX10 hown hK hP hD hS 0 rfl rfl 3 (by decide) (htw _ (ck_42 _ (List.mem_of_getElem? (i := 11) rfl))) (fun _ h9 => h9) rfl (by decide +kernel) rfl rfl (Nat.le_of_ble_eq_true rfl) dX10_clear_17 (fun H locs hP hD hS => ?_)
  have hP : va_P (dC, dI) vwCl [(xwi, .inr (10, [.int (-1), .int (-1), .int (-1), .int (-1), .int o4]))] H := hP
  have hD : va_D A [(xwi, .inr (10, [.int (-1), .int (-1), .int (-1), .int (-1), .int o4]))] := hD
  refine lv_aload_n hx hb dX10_clear_20 rfl (lv_at hl 0 rfl) ?_
  refine lv_iconst (v := (-1)) hx hb dX10_clear_21 (by decide) ?_
  refine va_put (D := (dC, dI)) (ci := 10) (v := .int (-1)) (ty := tyX10 4) (C := RX10) (T := TX10) (N := 5) hx hb htw inlX10 tyX10 tyX10_ok nmX10 hown hK hP hD hS 0 rfl rfl 4 (by decide) (htw _ (ck_42 _ (List.mem_of_getElem? (i := 12) rfl))) (fun _ h9 => h9) rfl (by decide +kernel) rfl rfl (Nat.le_of_ble_eq_true rfl) dX10_clear_22 (fun H locs hP hD hS => ?_)
  have hP : va_P (dC, dI) vwCl [(xwi, .inr (10, [.int (-1), .int (-1), .int (-1), .int (-1), .int (-1)]))] H := hP
  have hD : va_D A [(xwi, .inr (10, [.int (-1), .int (-1), .int (-1), .int (-1), .int (-1)]))] := hD
  refine W.widen (k := 0) (n := 0) (by omega) (by omega) ?_
  have hP9 := hP.sub (ws' := [(xwi, .inr (10, [.int (-1), .int (-1), .int (-1), .int (-1), .int (-1)]))]) [0] rfl
  have hD9 := hD.sub (ws' := [(xwi, .inr (10, [.int (-1), .int (-1), .int (-1), .int (-1), .int (-1)]))]) [0] (by decide) rfl
  have hK9 := hK.sub (tys' := []) [] rfl
  exact W.vret hx hb hr (fun t ht hW => ⟨⟨(), rfl, trivial, by rw [ht]; exact hP9, va_K.moved hW.alike hK9, hD9⟩, hS.F ht⟩) hS.2.2 dX10_clear_25

theorem dX4_seek_0 : decode cX4_seek 0 = .ok (.aload_n 0, 1) := by decide +kernel
theorem dX4_seek_1 : decode cX4_seek 1 = .ok (.aload_n 1, 1) := by decide +kernel
theorem dX4_seek_2 : decode cX4_seek 2 = .ok (.putfield 7, 3) := by decide +kernel
theorem dX4_seek_5 : decode cX4_seek 5 = .ok (.aload_n 0, 1) := by decide +kernel
theorem dX4_seek_6 : decode cX4_seek 6 = .ok (.lload_n 2, 1) := by decide +kernel
theorem dX4_seek_7 : decode cX4_seek 7 = .ok (.putfield 13, 3) := by decide +kernel
theorem dX4_seek_10 : decode cX4_seek 10 = .ok (.aload_n 0, 1) := by decide +kernel
theorem dX4_seek_11 : decode cX4_seek 11 = .ok (.aload_n 1, 1) := by decide +kernel
theorem dX4_seek_12 : decode cX4_seek 12 = .ok (.ifnonnull 7, 3) := by decide +kernel
theorem dX4_seek_15 : decode cX4_seek 15 = .ok (.lconst 0, 1) := by decide +kernel
theorem dX4_seek_16 : decode cX4_seek 16 = .ok (.goto 8, 3) := by decide +kernel
theorem dX4_seek_24 : decode cX4_seek 24 = .ok (.putfield 23, 3) := by decide +kernel
theorem dX4_seek_27 : decode cX4_seek 27 = .ok (.aload_n 0, 1) := by decide +kernel
theorem dX4_seek_28 : decode cX4_seek 28 = .ok (.lconst 0, 1) := by decide +kernel
theorem dX4_seek_29 : decode cX4_seek 29 = .ok (.putfield 26, 3) := by decide +kernel
theorem dX4_seek_32 : decode cX4_seek 32 = .ok (.aload_n 0, 1) := by decide +kernel
theorem dX4_seek_33 : decode cX4_seek 33 = .ok (.lconst 0, 1) := by decide +kernel
theorem dX4_seek_34 : decode cX4_seek 34 = .ok (.putfield 29, 3) := by decide +kernel
theorem dX4_seek_37 : decode cX4_seek 37 = .ok (.aload_n 1, 1) := by decide +kernel
theorem dX4_seek_38 : decode cX4_seek 38 = .ok (.ifnull 40, 3) := by decide +kernel
theorem dX4_seek_78 : decode cX4_seek 78 = .ok (.return_, 1) := by decide +kernel
set_option maxHeartbeats 4000000 in
set_option maxRecDepth 100000 in
theorem mt_seek (l : Launch) (dC : Nat → ClassId) (dI : Nat → Nat → Nat) (xmo : Nat) (c0 : Int64) (sz : Nat) : Met l yX4_seek (Cond.code yX4_seek cX4_seek 4 none :: wsL_law) ({ frames := 0, cells := 0, slots := 0, locals := 0 }) (va_Pc [.ref xmo, .null, .long c0] (fun U => U.heap.size = sz ∧ va_P (dC, dI) vwCl [(xmo, .inr (4, [.null, .long 0, .long 0, .long 0, .long 0]))] U.heap ∧ va_K (dC, dI) vwCl [] U ∧ va_D (fun _ => True) [(xmo, .inr (4, [.null, .long 0, .long 0, .long 0, .long 0]))])) (va_Qv (fun (u : Unit) => True) (fun (u : Unit) t => va_P (dC, dI) vwCl [(xmo, .inr (4, [.null, .long c0, .long 0, .long 0, .long 0]))] t.heap ∧ va_K (dC, dI) vwCl [] t ∧ va_D (va_A [(xmo, .inr (4, [.null, .long 0, .long 0, .long 0, .long 0]))] sz) [(xmo, .inr (4, [.null, .long c0, .long 0, .long 0, .long 0]))]) (va_A [(xmo, .inr (4, [.null, .long 0, .long 0, .long 0, .long 0]))] sz)) 0 0 (va_A [(xmo, .inr (4, [.null, .long 0, .long 0, .long 0, .long 0]))] sz) := by
  refine Met.ofW (cc := cX4_seek) (maxL := 4) (ret := none) (by decide) rfl ?_
  intro p e s m args below meth c s₁ B hml hv
  obtain ⟨rfl, hsz, hP, hK, hD0⟩ := hv
  have hx := B.exec
  have hb := B.bytes
  have hr := B.returns
  have hts := atoms_spec (ws := Cond.code yX4_seek cX4_seek 4 none :: wsL_law) B.pre
  have htw : ∀ w ∈ wsL_law, w.before _ s = true := fun w h => hts w (List.mem_cons_of_mem _ h)
  have hown : s.vm.findClass RX4 = some m.cls := findClass_of_methodNamed B.named
  have hlocks := B.notSynchronized
  subst hsz
  have hD := hD0.self (sz := s.heap.size)
  generalize hAe : va_A [(xmo, .inr (4, [.null, .long 0, .long 0, .long 0, .long 0]))] s.heap.size = A at hD ⊢
  have hA : ∀ q : Nat, s.heap.size ≤ q → A q := fun q h => by rw [← hAe]; exact Or.inr h
  obtain ⟨H, rH⟩ : ∃ z : Heap, z = s.heap := ⟨_, rfl⟩
  have hS : va_S A s.heap H [] := by rw [rH]; exact va_S.rf
  have hP : va_P (dC, dI) vwCl [(xmo, .inr (4, [.null, .long 0, .long 0, .long 0, .long 0]))] H := by rw [rH]; exact hP
  rw [← rH]
  have hl := lv_entry ([.ref xmo, .null, .long c0]) (n := 4) (Nat.le_of_ble_eq_true rfl)
  rw [lg_entry_eq]
  generalize (lg_sl ([.ref xmo, .null, .long c0]) ++ List.replicate (4 - (lg_sl ([.ref xmo, .null, .long c0])).length) Slot.unset).toArray = ls at hl ⊢
  have hl : lv_has ls 4 [(0, .ref xmo), (1, .null), (2, .long c0)] := hl
  refine lv_aload_n hx hb dX4_seek_0 rfl (lv_at hl 0 rfl) ?_
  refine lv_aload_nN hx hb dX4_seek_1 rfl (lv_at hl 1 rfl) ?_
  refine va_put (D := (dC, dI)) (ci := 4) (v := .null) (ty := tyX4 0) (C := RX4) (T := TX4) (N := 5) hx hb htw inlX4 tyX4 tyX4_ok nmX4 hown hK hP hD hS 0 rfl rfl 0 (by decide) (htw _ (ck_39 _ (List.mem_of_getElem? (i := 0) rfl))) (fun _ h9 => h9) rfl (by decide +kernel) rfl rfl (Nat.le_of_ble_eq_true rfl) dX4_seek_2 (fun H locs hP hD hS => ?_)
  have hP : va_P (dC, dI) vwCl [(xmo, .inr (4, [.null, .long 0, .long 0, .long 0, .long 0]))] H := hP
  have hD : va_D A [(xmo, .inr (4, [.null, .long 0, .long 0, .long 0, .long 0]))] := hD
  refine lv_aload_n hx hb dX4_seek_5 rfl (lv_at hl 0 rfl) ?_
  refine lv_lload_n hx hb dX4_seek_6 rfl (lv_at hl 2 rfl) ?_
  refine va_put (D := (dC, dI)) (ci := 4) (v := .long c0) (ty := tyX4 1) (C := RX4) (T := TX4) (N := 5) hx hb htw inlX4 tyX4 tyX4_ok nmX4 hown hK hP hD hS 0 rfl rfl 1 (by decide) (htw _ (ck_39 _ (List.mem_of_getElem? (i := 1) rfl))) (fun _ h9 => h9) rfl (by decide +kernel) rfl rfl (Nat.le_of_ble_eq_true rfl) dX4_seek_7 (fun H locs hP hD hS => ?_)
  have hP : va_P (dC, dI) vwCl [(xmo, .inr (4, [.null, .long c0, .long 0, .long 0, .long 0]))] H := hP
  have hD : va_D A [(xmo, .inr (4, [.null, .long c0, .long 0, .long 0, .long 0]))] := hD
  refine lv_aload_n hx hb dX4_seek_10 rfl (lv_at hl 0 rfl) ?_
  refine lv_aload_nN hx hb dX4_seek_11 rfl (lv_at hl 1 rfl) ?_
  refine lv_ifnonnullN hx hb dX4_seek_12 ?_
  refine lv_lconst (v := 0) hx hb dX4_seek_15 (by decide) ?_
  refine lv_goto (tgt := 24) hx hb dX4_seek_16 (by decide) ?_
  refine va_put (D := (dC, dI)) (ci := 4) (v := .long 0) (ty := tyX4 2) (C := RX4) (T := TX4) (N := 5) hx hb htw inlX4 tyX4 tyX4_ok nmX4 hown hK hP hD hS 0 rfl rfl 2 (by decide) (htw _ (ck_39 _ (List.mem_of_getElem? (i := 2) rfl))) (fun _ h9 => h9) rfl (by decide +kernel) rfl rfl (Nat.le_of_ble_eq_true rfl) dX4_seek_24 (fun H locs hP hD hS => ?_)
  have hP : va_P (dC, dI) vwCl [(xmo, .inr (4, [.null, .long c0, .long 0, .long 0, .long 0]))] H := hP
  have hD : va_D A [(xmo, .inr (4, [.null, .long c0, .long 0, .long 0, .long 0]))] := hD
  refine lv_aload_n hx hb dX4_seek_27 rfl (lv_at hl 0 rfl) ?_
  refine lv_lconst (v := 0) hx hb dX4_seek_28 (by decide) ?_
  refine va_put (D := (dC, dI)) (ci := 4) (v := .long 0) (ty := tyX4 3) (C := RX4) (T := TX4) (N := 5) hx hb htw inlX4 tyX4 tyX4_ok nmX4 hown hK hP hD hS 0 rfl rfl 3 (by decide) (htw _ (ck_39 _ (List.mem_of_getElem? (i := 3) rfl))) (fun _ h9 => h9) rfl (by decide +kernel) rfl rfl (Nat.le_of_ble_eq_true rfl) dX4_seek_29 (fun H locs hP hD hS => ?_)
  have hP : va_P (dC, dI) vwCl [(xmo, .inr (4, [.null, .long c0, .long 0, .long 0, .long 0]))] H := hP
  have hD : va_D A [(xmo, .inr (4, [.null, .long c0, .long 0, .long 0, .long 0]))] := hD
  refine lv_aload_n hx hb dX4_seek_32 rfl (lv_at hl 0 rfl) ?_
  refine lv_lconst (v := 0) hx hb dX4_seek_33 (by decide) ?_
  refine va_put (D := (dC, dI)) (ci := 4) (v := .long 0) (ty := tyX4 4) (C := RX4) (T := TX4) (N := 5) hx hb htw inlX4 tyX4 tyX4_ok nmX4 hown hK hP hD hS 0 rfl rfl 4 (by decide) (htw _ (ck_39 _ (List.mem_of_getElem? (i := 4) rfl))) (fun _ h9 => h9) rfl (by decide +kernel) rfl rfl (Nat.le_of_ble_eq_true rfl) dX4_seek_34 (fun H locs hP hD hS => ?_)
  have hP : va_P (dC, dI) vwCl [(xmo, .inr (4, [.null, .long c0, .long 0, .long 0, .long 0]))] H := hP
  have hD : va_D A [(xmo, .inr (4, [.null, .long c0, .long 0, .long 0, .long 0]))] := hD
  refine lv_aload_nN hx hb dX4_seek_37 rfl (lv_at hl 1 rfl) ?_
  refine lv_ifnullN (tgt := 78) hx hb dX4_seek_38 (by decide) ?_
  refine W.widen (k := 0) (n := 0) (by omega) (by omega) ?_
  have hP9 := hP.sub (ws' := [(xmo, .inr (4, [.null, .long c0, .long 0, .long 0, .long 0]))]) [0] rfl
  have hD9 := hD.sub (ws' := [(xmo, .inr (4, [.null, .long c0, .long 0, .long 0, .long 0]))]) [0] (by decide) rfl
  have hK9 := hK.sub (tys' := []) [] rfl
  exact W.vret hx hb hr (fun t ht hW => ⟨⟨(), rfl, trivial, by rw [ht]; exact hP9, va_K.moved hW.alike hK9, hD9⟩, hS.F ht⟩) hS.2.2 dX4_seek_78

theorem dX4_step_0 : decode cX4_step 0 = .ok (.aload_n 0, 1) := by decide +kernel
theorem dX4_step_1 : decode cX4_step 1 = .ok (.dup, 1) := by decide +kernel
theorem dX4_step_2 : decode cX4_step 2 = .ok (.getfield 13, 3) := by decide +kernel
theorem dX4_step_5 : decode cX4_step 5 = .ok (.lconst 1, 1) := by decide +kernel
theorem dX4_step_6 : decode cX4_step 6 = .ok (.ladd, 1) := by decide +kernel
theorem dX4_step_7 : decode cX4_step 7 = .ok (.putfield 13, 3) := by decide +kernel
theorem dX4_step_10 : decode cX4_step 10 = .ok (.aload_n 0, 1) := by decide +kernel
theorem dX4_step_11 : decode cX4_step 11 = .ok (.getfield 7, 3) := by decide +kernel
theorem dX4_step_14 : decode cX4_step 14 = .ok (.ifnonnull 4, 3) := by decide +kernel
theorem dX4_step_17 : decode cX4_step 17 = .ok (.return_, 1) := by decide +kernel
set_option maxHeartbeats 4000000 in
set_option maxRecDepth 100000 in
theorem mt_step (l : Launch) (dC : Nat → ClassId) (dI : Nat → Nat → Nat) (xmo : Nat) (c0 : Int64) (sz : Nat) : Met l yX4_step (Cond.code yX4_step cX4_step 1 none :: wsL_law) ({ frames := 0, cells := 0, slots := 0, locals := 0 }) (va_Pc [.ref xmo] (fun U => U.heap.size = sz ∧ va_P (dC, dI) vwCl [(xmo, .inr (4, [.null, .long c0, .long 0, .long 0, .long 0]))] U.heap ∧ va_K (dC, dI) vwCl [] U ∧ va_D (fun _ => True) [(xmo, .inr (4, [.null, .long c0, .long 0, .long 0, .long 0]))])) (va_Qv (fun (u : Unit) => True) (fun (u : Unit) t => va_P (dC, dI) vwCl [(xmo, .inr (4, [.null, .long (c0 + 1), .long 0, .long 0, .long 0]))] t.heap ∧ va_K (dC, dI) vwCl [] t ∧ va_D (va_A [(xmo, .inr (4, [.null, .long c0, .long 0, .long 0, .long 0]))] sz) [(xmo, .inr (4, [.null, .long (c0 + 1), .long 0, .long 0, .long 0]))]) (va_A [(xmo, .inr (4, [.null, .long c0, .long 0, .long 0, .long 0]))] sz)) 0 0 (va_A [(xmo, .inr (4, [.null, .long c0, .long 0, .long 0, .long 0]))] sz) := by
  refine Met.ofW (cc := cX4_step) (maxL := 1) (ret := none) (by decide) rfl ?_
  intro p e s m args below meth c s₁ B hml hv
  obtain ⟨rfl, hsz, hP, hK, hD0⟩ := hv
  have hx := B.exec
  have hb := B.bytes
  have hr := B.returns
  have hts := atoms_spec (ws := Cond.code yX4_step cX4_step 1 none :: wsL_law) B.pre
  have htw : ∀ w ∈ wsL_law, w.before _ s = true := fun w h => hts w (List.mem_cons_of_mem _ h)
  have hown : s.vm.findClass RX4 = some m.cls := findClass_of_methodNamed B.named
  have hlocks := B.notSynchronized
  subst hsz
  have hD := hD0.self (sz := s.heap.size)
  generalize hAe : va_A [(xmo, .inr (4, [.null, .long c0, .long 0, .long 0, .long 0]))] s.heap.size = A at hD ⊢
  have hA : ∀ q : Nat, s.heap.size ≤ q → A q := fun q h => by rw [← hAe]; exact Or.inr h
  obtain ⟨H, rH⟩ : ∃ z : Heap, z = s.heap := ⟨_, rfl⟩
  have hS : va_S A s.heap H [] := by rw [rH]; exact va_S.rf
  have hP : va_P (dC, dI) vwCl [(xmo, .inr (4, [.null, .long c0, .long 0, .long 0, .long 0]))] H := by rw [rH]; exact hP
  rw [← rH]
  have hl := lv_entry ([.ref xmo]) (n := 1) (Nat.le_of_ble_eq_true rfl)
  rw [lg_entry_eq]
  generalize (lg_sl ([.ref xmo]) ++ List.replicate (1 - (lg_sl ([.ref xmo])).length) Slot.unset).toArray = ls at hl ⊢
  have hl : lv_has ls 1 [(0, .ref xmo)] := hl
  refine lv_aload_n hx hb dX4_step_0 rfl (lv_at hl 0 rfl) ?_
  refine lv_dup hx hb dX4_step_1 rfl ?_
  refine va_get (D := (dC, dI)) (ci := 4) (v := .long c0) (C := RX4) (T := TX4) (N := 5) hx hb htw inlX4 hown hK hP 0 rfl rfl 1 (by decide) (htw _ (ck_39 _ (List.mem_of_getElem? (i := 1) rfl))) (fun _ h9 => h9) rfl dX4_step_2 ?_
  refine lv_lconst (v := 1) hx hb dX4_step_5 (by decide) ?_
  refine lv_ladd hx hb dX4_step_6 ?_
  refine va_put (D := (dC, dI)) (ci := 4) (v := .long (c0 + 1)) (ty := tyX4 1) (C := RX4) (T := TX4) (N := 5) hx hb htw inlX4 tyX4 tyX4_ok nmX4 hown hK hP hD hS 0 rfl rfl 1 (by decide) (htw _ (ck_39 _ (List.mem_of_getElem? (i := 1) rfl))) (fun _ h9 => h9) rfl (by decide +kernel) rfl rfl (Nat.le_of_ble_eq_true rfl) dX4_step_7 (fun H locs hP hD hS => ?_)
  have hP : va_P (dC, dI) vwCl [(xmo, .inr (4, [.null, .long (c0 + 1), .long 0, .long 0, .long 0]))] H := hP
  have hD : va_D A [(xmo, .inr (4, [.null, .long (c0 + 1), .long 0, .long 0, .long 0]))] := hD
  refine lv_aload_n hx hb dX4_step_10 rfl (lv_at hl 0 rfl) ?_
  refine va_get (D := (dC, dI)) (ci := 4) (v := .null) (C := RX4) (T := TX4) (N := 5) hx hb htw inlX4 hown hK hP 0 rfl rfl 0 (by decide) (htw _ (ck_39 _ (List.mem_of_getElem? (i := 0) rfl))) (fun _ h9 => h9) rfl dX4_step_11 ?_
  refine lv_ifnonnullN hx hb dX4_step_14 ?_
  refine W.widen (k := 0) (n := 0) (by omega) (by omega) ?_
  have hP9 := hP.sub (ws' := [(xmo, .inr (4, [.null, .long (c0 + 1), .long 0, .long 0, .long 0]))]) [0] rfl
  have hD9 := hD.sub (ws' := [(xmo, .inr (4, [.null, .long (c0 + 1), .long 0, .long 0, .long 0]))]) [0] (by decide) rfl
  have hK9 := hK.sub (tys' := []) [] rfl
  exact W.vret hx hb hr (fun t ht hW => ⟨⟨(), rfl, trivial, by rw [ht]; exact hP9, va_K.moved hW.alike hK9, hD9⟩, hS.F ht⟩) hS.2.2 dX4_step_17

theorem dX10_isMet_0 : decode cX10_isMet 0 = .ok (.aload_n 0, 1) := by decide +kernel
theorem dX10_isMet_1 : decode cX10_isMet 1 = .ok (.getfield 9, 3) := by decide +kernel
theorem dX10_isMet_4 : decode cX10_isMet 4 = .ok (.iconst (-1), 1) := by decide +kernel
theorem dX10_isMet_5 : decode cX10_isMet 5 = .ok (.if_icmp .eq 16, 3) := by decide +kernel
theorem dX10_isMet_21 : decode cX10_isMet 21 = .ok (.aload_n 0, 1) := by decide +kernel
theorem dX10_isMet_22 : decode cX10_isMet 22 = .ok (.getfield 15, 3) := by decide +kernel
theorem dX10_isMet_25 : decode cX10_isMet 25 = .ok (.iconst (-1), 1) := by decide +kernel
theorem dX10_isMet_26 : decode cX10_isMet 26 = .ok (.if_icmp .eq 21, 3) := by decide +kernel
theorem dX10_isMet_47 : decode cX10_isMet 47 = .ok (.aload_n 0, 1) := by decide +kernel
theorem dX10_isMet_48 : decode cX10_isMet 48 = .ok (.getfield 18, 3) := by decide +kernel
theorem dX10_isMet_51 : decode cX10_isMet 51 = .ok (.iconst (-1), 1) := by decide +kernel
theorem dX10_isMet_52 : decode cX10_isMet 52 = .ok (.if_icmp .eq 21, 3) := by decide +kernel
theorem dX10_isMet_73 : decode cX10_isMet 73 = .ok (.aload_n 0, 1) := by decide +kernel
theorem dX10_isMet_74 : decode cX10_isMet 74 = .ok (.getfield 21, 3) := by decide +kernel
theorem dX10_isMet_77 : decode cX10_isMet 77 = .ok (.iconst (-1), 1) := by decide +kernel
theorem dX10_isMet_78 : decode cX10_isMet 78 = .ok (.if_icmp .eq 21, 3) := by decide +kernel
theorem dX10_isMet_99 : decode cX10_isMet 99 = .ok (.aload_n 0, 1) := by decide +kernel
theorem dX10_isMet_100 : decode cX10_isMet 100 = .ok (.getfield 24, 3) := by decide +kernel
theorem dX10_isMet_103 : decode cX10_isMet 103 = .ok (.iconst (-1), 1) := by decide +kernel
theorem dX10_isMet_104 : decode cX10_isMet 104 = .ok (.if_icmp .eq 22, 3) := by decide +kernel
theorem dX10_isMet_126 : decode cX10_isMet 126 = .ok (.iconst 1, 1) := by decide +kernel
theorem dX10_isMet_127 : decode cX10_isMet 127 = .ok (.goto 4, 3) := by decide +kernel
theorem dX10_isMet_131 : decode cX10_isMet 131 = .ok (.ireturn, 1) := by decide +kernel
theorem dX10_isMet_55 : decode cX10_isMet 55 = .ok (.aload_n 2, 1) := by decide +kernel
theorem dX10_isMet_56 : decode cX10_isMet 56 = .ok (.getfield 32, 3) := by decide +kernel
theorem dX10_isMet_59 : decode cX10_isMet 59 = .ok (.aload_n 1, 1) := by decide +kernel
theorem dX10_isMet_60 : decode cX10_isMet 60 = .ok (.getfield 38, 3) := by decide +kernel
theorem dX10_isMet_63 : decode cX10_isMet 63 = .ok (.invokevirtual 47, 3) := by decide +kernel
theorem dX10_isMet_66 : decode cX10_isMet 66 = .ok (.aload_n 0, 1) := by decide +kernel
theorem dX10_isMet_67 : decode cX10_isMet 67 = .ok (.getfield 18, 3) := by decide +kernel
theorem dX10_isMet_70 : decode cX10_isMet 70 = .ok (.if_icmp .ne 60, 3) := by decide +kernel
theorem dX10_isMet_130 : decode cX10_isMet 130 = .ok (.iconst 0, 1) := by decide +kernel
theorem dX10_isMet_29 : decode cX10_isMet 29 = .ok (.aload_n 2, 1) := by decide +kernel
theorem dX10_isMet_30 : decode cX10_isMet 30 = .ok (.getfield 32, 3) := by decide +kernel
theorem dX10_isMet_33 : decode cX10_isMet 33 = .ok (.aload_n 1, 1) := by decide +kernel
theorem dX10_isMet_34 : decode cX10_isMet 34 = .ok (.getfield 38, 3) := by decide +kernel
theorem dX10_isMet_37 : decode cX10_isMet 37 = .ok (.invokevirtual 41, 3) := by decide +kernel
theorem dX10_isMet_40 : decode cX10_isMet 40 = .ok (.aload_n 0, 1) := by decide +kernel
theorem dX10_isMet_41 : decode cX10_isMet 41 = .ok (.getfield 15, 3) := by decide +kernel
theorem dX10_isMet_44 : decode cX10_isMet 44 = .ok (.if_icmp .ne 86, 3) := by decide +kernel
theorem dX10_isMet_8 : decode cX10_isMet 8 = .ok (.aload_n 1, 1) := by decide +kernel
theorem dX10_isMet_9 : decode cX10_isMet 9 = .ok (.getfield 27, 3) := by decide +kernel
theorem dX10_isMet_12 : decode cX10_isMet 12 = .ok (.aload_n 0, 1) := by decide +kernel
theorem dX10_isMet_13 : decode cX10_isMet 13 = .ok (.getfield 9, 3) := by decide +kernel
theorem dX10_isMet_16 : decode cX10_isMet 16 = .ok (.i2l, 1) := by decide +kernel
theorem dX10_isMet_17 : decode cX10_isMet 17 = .ok (.lcmp, 1) := by decide +kernel
theorem dX10_isMet_18 : decode cX10_isMet 18 = .ok (.ifCond .ne 112, 3) := by decide +kernel
set_option maxHeartbeats 4000000 in
set_option maxRecDepth 100000 in
theorem mt_met (l : Launch) (dC : Nat → ClassId) (dI : Nat → Nat → Nat) (xwi : Nat) (xmo : Nat) (b : Nat) (bto : Nat) (bnm : Nat) (bla : Nat) (bsk : Nat) (bru : Nat) (bbo : Nat) (bdi : Nat) (bda : Nat) (bdk : Nat) (bdt : Nat) (bdp : Nat) (bno : Nat) (wd : Int32) (ww : Int32) (wm : Int32) (c0 : Int64) (hok : xn_ok wd ww wm) : Met l yX10_isMet (Cond.code yX10_isMet cX10_isMet 3 (some .boolean) :: wsL_law) ({ frames := 1, cells := 0, slots := 0, locals := 22 }) (va_Pc [.ref xwi, .ref xmo, .ref b] (fun U => va_P (dC, dI) vwCl [(xwi, .inr (10, [.int wd, .int ww, .int wm, .int (-1), .int (-1)])), (xmo, .inr (4, [.null, .long c0, .long 0, .long 0, .long 0])), (b, .inr (0, [.ref bto, .ref bnm, .ref bla, .ref bsk, .ref bru, .ref bbo, .ref bdi, .ref bda, .ref bdk, .ref bdt, .ref bdp, .ref bno])), (bsk, .inr (9, [.int 7, .int 0, .int 59, .int 2, .int 0, .int 1461, .int 4]))] U.heap ∧ va_K (dC, dI) vwCl [] U)) (vp_Si (fun r => r = xn_is wd ww wm c0)) 0 0 (fun _ => False) := by
  refine Met.ofW (cc := cX10_isMet) (maxL := 3) (ret := (some .boolean)) (by decide) rfl ?_
  intro p e s m args below meth c s₁ B hml hv
  obtain ⟨rfl, hP, hK⟩ := hv
  have hx := B.exec
  have hb := B.bytes
  have hr := B.returns
  have hts := atoms_spec (ws := Cond.code yX10_isMet cX10_isMet 3 (some .boolean) :: wsL_law) B.pre
  have htw : ∀ w ∈ wsL_law, w.before _ s = true := fun w h => hts w (List.mem_cons_of_mem _ h)
  have hown : s.vm.findClass RX10 = some m.cls := findClass_of_methodNamed B.named
  have hlocks := B.notSynchronized
  have hl := lv_entry ([.ref xwi, .ref xmo, .ref b]) (n := 3) (Nat.le_of_ble_eq_true rfl)
  rw [lg_entry_eq]
  generalize (lg_sl ([.ref xwi, .ref xmo, .ref b]) ++ List.replicate (3 - (lg_sl ([.ref xwi, .ref xmo, .ref b])).length) Slot.unset).toArray = ls at hl ⊢
  have hl : lv_has ls 3 [(0, .ref xwi), (1, .ref xmo), (2, .ref b)] := hl
  refine lv_aload_n hx hb dX10_isMet_0 rfl (lv_at hl 0 rfl) ?_
  refine va_get (D := (dC, dI)) (ci := 10) (v := .int wd) (C := RX10) (T := TX10) (N := 5) hx hb htw inlX10 hown hK hP 0 rfl rfl 0 (by decide) (htw _ (ck_42 _ (List.mem_of_getElem? (i := 8) rfl))) (fun _ h9 => h9) rfl dX10_isMet_1 ?_
  refine lv_iconst (v := (-1)) hx hb dX10_isMet_4 (by decide) ?_
  refine lv_icmp_eq (tgt := 21) hx hb dX10_isMet_5 (by decide) (fun c_1 => ?_) (fun c_1 => ?_)
  · refine lv_aload_n hx hb dX10_isMet_21 rfl (lv_at hl 0 rfl) ?_
    refine va_get (D := (dC, dI)) (ci := 10) (v := .int ww) (C := RX10) (T := TX10) (N := 5) hx hb htw inlX10 hown hK hP 0 rfl rfl 1 (by decide) (htw _ (ck_42 _ (List.mem_of_getElem? (i := 9) rfl))) (fun _ h9 => h9) rfl dX10_isMet_22 ?_
    refine lv_iconst (v := (-1)) hx hb dX10_isMet_25 (by decide) ?_
    refine lv_icmp_eq (tgt := 47) hx hb dX10_isMet_26 (by decide) (fun c_2 => ?_) (fun c_2 => ?_)
    · refine lv_aload_n hx hb dX10_isMet_47 rfl (lv_at hl 0 rfl) ?_
      refine va_get (D := (dC, dI)) (ci := 10) (v := .int wm) (C := RX10) (T := TX10) (N := 5) hx hb htw inlX10 hown hK hP 0 rfl rfl 2 (by decide) (htw _ (ck_42 _ (List.mem_of_getElem? (i := 10) rfl))) (fun _ h9 => h9) rfl dX10_isMet_48 ?_
      refine lv_iconst (v := (-1)) hx hb dX10_isMet_51 (by decide) ?_
      refine lv_icmp_eq (tgt := 73) hx hb dX10_isMet_52 (by decide) (fun c_3 => ?_) (fun c_3 => ?_)
      · refine lv_aload_n hx hb dX10_isMet_73 rfl (lv_at hl 0 rfl) ?_
        refine va_get (D := (dC, dI)) (ci := 10) (v := .int (-1)) (C := RX10) (T := TX10) (N := 5) hx hb htw inlX10 hown hK hP 0 rfl rfl 3 (by decide) (htw _ (ck_42 _ (List.mem_of_getElem? (i := 11) rfl))) (fun _ h9 => h9) rfl dX10_isMet_74 ?_
        refine lv_iconst (v := (-1)) hx hb dX10_isMet_77 (by decide) ?_
        refine lv_icmp_eq (tgt := 99) hx hb dX10_isMet_78 (by decide) (fun _ => ?_) (fun c => absurd c (by decide))
        refine lv_aload_n hx hb dX10_isMet_99 rfl (lv_at hl 0 rfl) ?_
        refine va_get (D := (dC, dI)) (ci := 10) (v := .int (-1)) (C := RX10) (T := TX10) (N := 5) hx hb htw inlX10 hown hK hP 0 rfl rfl 4 (by decide) (htw _ (ck_42 _ (List.mem_of_getElem? (i := 12) rfl))) (fun _ h9 => h9) rfl dX10_isMet_100 ?_
        refine lv_iconst (v := (-1)) hx hb dX10_isMet_103 (by decide) ?_
        refine lv_icmp_eq (tgt := 126) hx hb dX10_isMet_104 (by decide) (fun _ => ?_) (fun c => absurd c (by decide))
        refine lv_iconst (v := 1) hx hb dX10_isMet_126 (by decide) ?_
        refine lv_goto (tgt := 131) hx hb dX10_isMet_127 (by decide) ?_
        exact W.zret (v := 1) hx hb hr (by first | rfl | decide) (fun t ht hW => ⟨1, rfl, (xn_is1 ⟨by rw [c_1]; decide, Or.inl (by rw [c_2]; decide), Or.inl (by rw [c_3]; decide)⟩).symm, ht⟩) (fun _ h => by cases h) dX10_isMet_131
      · refine lv_aload_n hx hb dX10_isMet_55 rfl (lv_at hl 2 rfl) ?_
        refine va_get (D := (dC, dI)) (ci := 0) (v := .ref bsk) (C := RX0) (T := TX0) (N := 12) hx hb htw inlX0 hown hK hP 2 rfl rfl 3 (by decide) (htw _ (ck_43 _ (List.mem_of_getElem? (i := 0) rfl))) (fun _ h9 => h9) rfl dX10_isMet_56 ?_
        refine lv_aload_n hx hb dX10_isMet_59 rfl (lv_at hl 1 rfl) ?_
        refine va_get (D := (dC, dI)) (ci := 4) (v := .long c0) (C := RX4) (T := TX4) (N := 5) hx hb htw inlX4 hown hK hP 1 rfl rfl 1 (by decide) (htw _ (ck_43 _ (List.mem_of_getElem? (i := 1) rfl))) (fun _ h9 => h9) rfl dX10_isMet_60 ?_
        have hPc := hP.sub (ws' := [(bsk, .inr (9, [.int 7, .int 0, .int 59, .int 2, .int 0, .int 1461, .int 4]))]) [3] rfl
        have hKc := hK.sub (tys' := []) [] rfl
        refine vp_callSi (W.runV (As := [.long c0]) (rest := []) ⟨hx, hb, hml, hown, htw⟩ (mt_moon l dC dI bsk c0) (cwV 1 htw (xg_V (ck_43 _ (List.mem_of_getElem? (i := 4) rfl)) (ck_37 _ (List.mem_of_getElem? (i := 19) rfl)) (ck_37 _ (List.mem_of_getElem? (i := 20) rfl)) (ck_6 _ (List.mem_of_getElem? (i := 4) rfl)) (ck_37 _ (List.mem_of_getElem? (i := 21) rfl))) rfl rfl rfl (by decide +kernel) ⟨Nat.le_of_ble_eq_true rfl, Nat.le_of_ble_eq_true rfl⟩) ⟨fun a U g mk q => by obtain ⟨q0, qP, qK⟩ := q; exact ⟨q0, qP, va_K.moved (u := U) (U := U.calling g mk a) (Vm.Alike.refl U.vm) qK⟩, va_recv hKc hPc (ci := 9) (q0 := 0) rfl rfl, fun U hU hW => ⟨rfl, by rw [hU]; exact hPc, va_K.moved hW.alike hKc⟩⟩ rfl rfl hl.1 rfl (lv_room (Nat.le_of_ble_eq_true rfl)) dX10_isMet_63 ⟨Nat.le_of_ble_eq_true rfl, Nat.le_of_ble_eq_true rfl⟩) (fun r_4 hw => ?_)
        try dsimp only at hw
        obtain rfl : r_4 = xr_moon c0 := hw
        refine lv_aload_n hx hb dX10_isMet_66 rfl (lv_at hl 0 rfl) ?_
        refine va_get (D := (dC, dI)) (ci := 10) (v := .int wm) (C := RX10) (T := TX10) (N := 5) hx hb htw inlX10 hown hK hP 0 rfl rfl 2 (by decide) (htw _ (ck_42 _ (List.mem_of_getElem? (i := 10) rfl))) (fun _ h9 => h9) rfl dX10_isMet_67 ?_
        refine lv_icmp_ne (tgt := 130) hx hb dX10_isMet_70 (by decide) (fun c_5 => ?_) (fun c_5 => ?_)
        · refine lv_iconst (v := 0) hx hb dX10_isMet_130 (by decide) ?_
          exact W.zret (v := 0) hx hb hr (by first | rfl | decide) (fun t ht hW => ⟨0, rfl, (xn_is0 (fun h => h.2.2.elim (fun q => absurd q (Int32.not_lt.mpr (hok.2.2.resolve_left c_3))) (fun q => c_5 q))).symm, ht⟩) (fun _ h => by cases h) dX10_isMet_131
        · refine lv_aload_n hx hb dX10_isMet_73 rfl (lv_at hl 0 rfl) ?_
          refine va_get (D := (dC, dI)) (ci := 10) (v := .int (-1)) (C := RX10) (T := TX10) (N := 5) hx hb htw inlX10 hown hK hP 0 rfl rfl 3 (by decide) (htw _ (ck_42 _ (List.mem_of_getElem? (i := 11) rfl))) (fun _ h9 => h9) rfl dX10_isMet_74 ?_
          refine lv_iconst (v := (-1)) hx hb dX10_isMet_77 (by decide) ?_
          refine lv_icmp_eq (tgt := 99) hx hb dX10_isMet_78 (by decide) (fun _ => ?_) (fun c => absurd c (by decide))
          refine lv_aload_n hx hb dX10_isMet_99 rfl (lv_at hl 0 rfl) ?_
          refine va_get (D := (dC, dI)) (ci := 10) (v := .int (-1)) (C := RX10) (T := TX10) (N := 5) hx hb htw inlX10 hown hK hP 0 rfl rfl 4 (by decide) (htw _ (ck_42 _ (List.mem_of_getElem? (i := 12) rfl))) (fun _ h9 => h9) rfl dX10_isMet_100 ?_
          refine lv_iconst (v := (-1)) hx hb dX10_isMet_103 (by decide) ?_
          refine lv_icmp_eq (tgt := 126) hx hb dX10_isMet_104 (by decide) (fun _ => ?_) (fun c => absurd c (by decide))
          refine lv_iconst (v := 1) hx hb dX10_isMet_126 (by decide) ?_
          refine lv_goto (tgt := 131) hx hb dX10_isMet_127 (by decide) ?_
          exact W.zret (v := 1) hx hb hr (by first | rfl | decide) (fun t ht hW => ⟨1, rfl, (xn_is1 ⟨by rw [c_1]; decide, Or.inl (by rw [c_2]; decide), Or.inr c_5⟩).symm, ht⟩) (fun _ h => by cases h) dX10_isMet_131
    · refine lv_aload_n hx hb dX10_isMet_29 rfl (lv_at hl 2 rfl) ?_
      refine va_get (D := (dC, dI)) (ci := 0) (v := .ref bsk) (C := RX0) (T := TX0) (N := 12) hx hb htw inlX0 hown hK hP 2 rfl rfl 3 (by decide) (htw _ (ck_43 _ (List.mem_of_getElem? (i := 0) rfl))) (fun _ h9 => h9) rfl dX10_isMet_30 ?_
      refine lv_aload_n hx hb dX10_isMet_33 rfl (lv_at hl 1 rfl) ?_
      refine va_get (D := (dC, dI)) (ci := 4) (v := .long c0) (C := RX4) (T := TX4) (N := 5) hx hb htw inlX4 hown hK hP 1 rfl rfl 1 (by decide) (htw _ (ck_43 _ (List.mem_of_getElem? (i := 1) rfl))) (fun _ h9 => h9) rfl dX10_isMet_34 ?_
      have hPc := hP.sub (ws' := [(bsk, .inr (9, [.int 7, .int 0, .int 59, .int 2, .int 0, .int 1461, .int 4]))]) [3] rfl
      have hKc := hK.sub (tys' := []) [] rfl
      refine vp_callSi (W.runV (As := [.long c0]) (rest := []) ⟨hx, hb, hml, hown, htw⟩ (mt_week l dC dI bsk c0) (cwV 1 htw (xg_V (ck_43 _ (List.mem_of_getElem? (i := 3) rfl)) (ck_37 _ (List.mem_of_getElem? (i := 15) rfl)) (ck_37 _ (List.mem_of_getElem? (i := 16) rfl)) (ck_6 _ (List.mem_of_getElem? (i := 4) rfl)) (ck_37 _ (List.mem_of_getElem? (i := 17) rfl))) rfl rfl rfl (by decide +kernel) ⟨Nat.le_of_ble_eq_true rfl, Nat.le_of_ble_eq_true rfl⟩) ⟨fun a U g mk q => by obtain ⟨q0, qP, qK⟩ := q; exact ⟨q0, qP, va_K.moved (u := U) (U := U.calling g mk a) (Vm.Alike.refl U.vm) qK⟩, va_recv hKc hPc (ci := 9) (q0 := 0) rfl rfl, fun U hU hW => ⟨rfl, by rw [hU]; exact hPc, va_K.moved hW.alike hKc⟩⟩ rfl rfl hl.1 rfl (lv_room (Nat.le_of_ble_eq_true rfl)) dX10_isMet_37 ⟨Nat.le_of_ble_eq_true rfl, Nat.le_of_ble_eq_true rfl⟩) (fun r_6 hw => ?_)
      try dsimp only at hw
      obtain rfl : r_6 = xr_week c0 := hw
      refine lv_aload_n hx hb dX10_isMet_40 rfl (lv_at hl 0 rfl) ?_
      refine va_get (D := (dC, dI)) (ci := 10) (v := .int ww) (C := RX10) (T := TX10) (N := 5) hx hb htw inlX10 hown hK hP 0 rfl rfl 1 (by decide) (htw _ (ck_42 _ (List.mem_of_getElem? (i := 9) rfl))) (fun _ h9 => h9) rfl dX10_isMet_41 ?_
      refine lv_icmp_ne (tgt := 130) hx hb dX10_isMet_44 (by decide) (fun c_7 => ?_) (fun c_7 => ?_)
      · refine lv_iconst (v := 0) hx hb dX10_isMet_130 (by decide) ?_
        exact W.zret (v := 0) hx hb hr (by first | rfl | decide) (fun t ht hW => ⟨0, rfl, (xn_is0 (fun h => h.2.1.elim (fun q => absurd q (Int32.not_lt.mpr (hok.2.1.resolve_left c_2))) (fun q => c_7 q))).symm, ht⟩) (fun _ h => by cases h) dX10_isMet_131
      · refine lv_aload_n hx hb dX10_isMet_47 rfl (lv_at hl 0 rfl) ?_
        refine va_get (D := (dC, dI)) (ci := 10) (v := .int wm) (C := RX10) (T := TX10) (N := 5) hx hb htw inlX10 hown hK hP 0 rfl rfl 2 (by decide) (htw _ (ck_42 _ (List.mem_of_getElem? (i := 10) rfl))) (fun _ h9 => h9) rfl dX10_isMet_48 ?_
        refine lv_iconst (v := (-1)) hx hb dX10_isMet_51 (by decide) ?_
        refine lv_icmp_eq (tgt := 73) hx hb dX10_isMet_52 (by decide) (fun c_8 => ?_) (fun c_8 => ?_)
        · refine lv_aload_n hx hb dX10_isMet_73 rfl (lv_at hl 0 rfl) ?_
          refine va_get (D := (dC, dI)) (ci := 10) (v := .int (-1)) (C := RX10) (T := TX10) (N := 5) hx hb htw inlX10 hown hK hP 0 rfl rfl 3 (by decide) (htw _ (ck_42 _ (List.mem_of_getElem? (i := 11) rfl))) (fun _ h9 => h9) rfl dX10_isMet_74 ?_
          refine lv_iconst (v := (-1)) hx hb dX10_isMet_77 (by decide) ?_
          refine lv_icmp_eq (tgt := 99) hx hb dX10_isMet_78 (by decide) (fun _ => ?_) (fun c => absurd c (by decide))
          refine lv_aload_n hx hb dX10_isMet_99 rfl (lv_at hl 0 rfl) ?_
          refine va_get (D := (dC, dI)) (ci := 10) (v := .int (-1)) (C := RX10) (T := TX10) (N := 5) hx hb htw inlX10 hown hK hP 0 rfl rfl 4 (by decide) (htw _ (ck_42 _ (List.mem_of_getElem? (i := 12) rfl))) (fun _ h9 => h9) rfl dX10_isMet_100 ?_
          refine lv_iconst (v := (-1)) hx hb dX10_isMet_103 (by decide) ?_
          refine lv_icmp_eq (tgt := 126) hx hb dX10_isMet_104 (by decide) (fun _ => ?_) (fun c => absurd c (by decide))
          refine lv_iconst (v := 1) hx hb dX10_isMet_126 (by decide) ?_
          refine lv_goto (tgt := 131) hx hb dX10_isMet_127 (by decide) ?_
          exact W.zret (v := 1) hx hb hr (by first | rfl | decide) (fun t ht hW => ⟨1, rfl, (xn_is1 ⟨by rw [c_1]; decide, Or.inr c_7, Or.inl (by rw [c_8]; decide)⟩).symm, ht⟩) (fun _ h => by cases h) dX10_isMet_131
        · refine lv_aload_n hx hb dX10_isMet_55 rfl (lv_at hl 2 rfl) ?_
          refine va_get (D := (dC, dI)) (ci := 0) (v := .ref bsk) (C := RX0) (T := TX0) (N := 12) hx hb htw inlX0 hown hK hP 2 rfl rfl 3 (by decide) (htw _ (ck_43 _ (List.mem_of_getElem? (i := 0) rfl))) (fun _ h9 => h9) rfl dX10_isMet_56 ?_
          refine lv_aload_n hx hb dX10_isMet_59 rfl (lv_at hl 1 rfl) ?_
          refine va_get (D := (dC, dI)) (ci := 4) (v := .long c0) (C := RX4) (T := TX4) (N := 5) hx hb htw inlX4 hown hK hP 1 rfl rfl 1 (by decide) (htw _ (ck_43 _ (List.mem_of_getElem? (i := 1) rfl))) (fun _ h9 => h9) rfl dX10_isMet_60 ?_
          have hPc := hP.sub (ws' := [(bsk, .inr (9, [.int 7, .int 0, .int 59, .int 2, .int 0, .int 1461, .int 4]))]) [3] rfl
          have hKc := hK.sub (tys' := []) [] rfl
          refine vp_callSi (W.runV (As := [.long c0]) (rest := []) ⟨hx, hb, hml, hown, htw⟩ (mt_moon l dC dI bsk c0) (cwV 1 htw (xg_V (ck_43 _ (List.mem_of_getElem? (i := 4) rfl)) (ck_37 _ (List.mem_of_getElem? (i := 19) rfl)) (ck_37 _ (List.mem_of_getElem? (i := 20) rfl)) (ck_6 _ (List.mem_of_getElem? (i := 4) rfl)) (ck_37 _ (List.mem_of_getElem? (i := 21) rfl))) rfl rfl rfl (by decide +kernel) ⟨Nat.le_of_ble_eq_true rfl, Nat.le_of_ble_eq_true rfl⟩) ⟨fun a U g mk q => by obtain ⟨q0, qP, qK⟩ := q; exact ⟨q0, qP, va_K.moved (u := U) (U := U.calling g mk a) (Vm.Alike.refl U.vm) qK⟩, va_recv hKc hPc (ci := 9) (q0 := 0) rfl rfl, fun U hU hW => ⟨rfl, by rw [hU]; exact hPc, va_K.moved hW.alike hKc⟩⟩ rfl rfl hl.1 rfl (lv_room (Nat.le_of_ble_eq_true rfl)) dX10_isMet_63 ⟨Nat.le_of_ble_eq_true rfl, Nat.le_of_ble_eq_true rfl⟩) (fun r_9 hw => ?_)
          try dsimp only at hw
          obtain rfl : r_9 = xr_moon c0 := hw
          refine lv_aload_n hx hb dX10_isMet_66 rfl (lv_at hl 0 rfl) ?_
          refine va_get (D := (dC, dI)) (ci := 10) (v := .int wm) (C := RX10) (T := TX10) (N := 5) hx hb htw inlX10 hown hK hP 0 rfl rfl 2 (by decide) (htw _ (ck_42 _ (List.mem_of_getElem? (i := 10) rfl))) (fun _ h9 => h9) rfl dX10_isMet_67 ?_
          refine lv_icmp_ne (tgt := 130) hx hb dX10_isMet_70 (by decide) (fun c_10 => ?_) (fun c_10 => ?_)
          · refine lv_iconst (v := 0) hx hb dX10_isMet_130 (by decide) ?_
            exact W.zret (v := 0) hx hb hr (by first | rfl | decide) (fun t ht hW => ⟨0, rfl, (xn_is0 (fun h => h.2.2.elim (fun q => absurd q (Int32.not_lt.mpr (hok.2.2.resolve_left c_8))) (fun q => c_10 q))).symm, ht⟩) (fun _ h => by cases h) dX10_isMet_131
          · refine lv_aload_n hx hb dX10_isMet_73 rfl (lv_at hl 0 rfl) ?_
            refine va_get (D := (dC, dI)) (ci := 10) (v := .int (-1)) (C := RX10) (T := TX10) (N := 5) hx hb htw inlX10 hown hK hP 0 rfl rfl 3 (by decide) (htw _ (ck_42 _ (List.mem_of_getElem? (i := 11) rfl))) (fun _ h9 => h9) rfl dX10_isMet_74 ?_
            refine lv_iconst (v := (-1)) hx hb dX10_isMet_77 (by decide) ?_
            refine lv_icmp_eq (tgt := 99) hx hb dX10_isMet_78 (by decide) (fun _ => ?_) (fun c => absurd c (by decide))
            refine lv_aload_n hx hb dX10_isMet_99 rfl (lv_at hl 0 rfl) ?_
            refine va_get (D := (dC, dI)) (ci := 10) (v := .int (-1)) (C := RX10) (T := TX10) (N := 5) hx hb htw inlX10 hown hK hP 0 rfl rfl 4 (by decide) (htw _ (ck_42 _ (List.mem_of_getElem? (i := 12) rfl))) (fun _ h9 => h9) rfl dX10_isMet_100 ?_
            refine lv_iconst (v := (-1)) hx hb dX10_isMet_103 (by decide) ?_
            refine lv_icmp_eq (tgt := 126) hx hb dX10_isMet_104 (by decide) (fun _ => ?_) (fun c => absurd c (by decide))
            refine lv_iconst (v := 1) hx hb dX10_isMet_126 (by decide) ?_
            refine lv_goto (tgt := 131) hx hb dX10_isMet_127 (by decide) ?_
            exact W.zret (v := 1) hx hb hr (by first | rfl | decide) (fun t ht hW => ⟨1, rfl, (xn_is1 ⟨by rw [c_1]; decide, Or.inr c_7, Or.inr c_10⟩).symm, ht⟩) (fun _ h => by cases h) dX10_isMet_131
  · refine lv_aload_n hx hb dX10_isMet_8 rfl (lv_at hl 1 rfl) ?_
    refine va_get (D := (dC, dI)) (ci := 4) (v := .long 0) (C := RX4) (T := TX4) (N := 5) hx hb htw inlX4 hown hK hP 1 rfl rfl 3 (by decide) (htw _ (ck_42 _ (List.mem_of_getElem? (i := 23) rfl))) (fun _ h9 => h9) rfl dX10_isMet_9 ?_
    refine lv_aload_n hx hb dX10_isMet_12 rfl (lv_at hl 0 rfl) ?_
    refine va_get (D := (dC, dI)) (ci := 10) (v := .int wd) (C := RX10) (T := TX10) (N := 5) hx hb htw inlX10 hown hK hP 0 rfl rfl 0 (by decide) (htw _ (ck_42 _ (List.mem_of_getElem? (i := 8) rfl))) (fun _ h9 => h9) rfl dX10_isMet_13 ?_
    refine lv_i2l (v := wd.toInt64) hx hb dX10_isMet_16 rfl ?_
    refine W.lcmp hx hb dX10_isMet_17 ?_
    refine lv_if_ne (tgt := 130) hx hb dX10_isMet_18 (by decide) (fun c_11 => ?_) (fun c_11 => absurd c_11 (fun h => xn_d0 (hok.1.resolve_left c_1) (by simpa using h)))
    refine lv_iconst (v := 0) hx hb dX10_isMet_130 (by decide) ?_
    exact W.zret (v := 0) hx hb hr (by first | rfl | decide) (fun t ht hW => ⟨0, rfl, (xn_is0 (fun h => xn_pos (hok.1.resolve_left c_1) h.1)).symm, ht⟩) (fun _ h => by cases h) dX10_isMet_131

theorem dX11_firstMet_0 : decode cX11_firstMet 0 = .ok (.aload_n 0, 1) := by decide +kernel
theorem dX11_firstMet_1 : decode cX11_firstMet 1 = .ok (.getfield 57, 3) := by decide +kernel
theorem dX11_firstMet_4 : decode cX11_firstMet 4 = .ok (.aload_n 0, 1) := by decide +kernel
theorem dX11_firstMet_5 : decode cX11_firstMet 5 = .ok (.getfield 19, 3) := by decide +kernel
theorem dX11_firstMet_8 : decode cX11_firstMet 8 = .ok (.iconst 0, 1) := by decide +kernel
theorem dX11_firstMet_9 : decode cX11_firstMet 9 = .ok (.invokevirtual 112, 3) := by decide +kernel
theorem dX11_firstMet_12 : decode cX11_firstMet 12 = .ok (.lload_n 1, 1) := by decide +kernel
theorem dX11_firstMet_13 : decode cX11_firstMet 13 = .ok (.invokevirtual 182, 3) := by decide +kernel
theorem dX11_firstMet_16 : decode cX11_firstMet 16 = .ok (.iconst 0, 1) := by decide +kernel
theorem dX11_firstMet_17 : decode cX11_firstMet 17 = .ok (.istore_n 3, 1) := by decide +kernel
theorem dX11_firstMet_18 : decode cX11_firstMet 18 = .ok (.iload_n 3, 1) := by decide +kernel
theorem dX11_firstMet_19 : decode cX11_firstMet 19 = .ok (.sipush 20000, 3) := by decide +kernel
theorem dX11_firstMet_22 : decode cX11_firstMet 22 = .ok (.if_icmp .ge 56, 3) := by decide +kernel
theorem dX11_firstMet_78 : decode cX11_firstMet 78 = .ok (.ldc2_w 218, 3) := by decide +kernel
theorem dX11_firstMet_81 : decode cX11_firstMet 81 = .ok (.lreturn, 1) := by decide +kernel
theorem dX11_firstMet_25 : decode cX11_firstMet 25 = .ok (.aload_n 0, 1) := by decide +kernel
theorem dX11_firstMet_26 : decode cX11_firstMet 26 = .ok (.getfield 57, 3) := by decide +kernel
theorem dX11_firstMet_29 : decode cX11_firstMet 29 = .ok (.getfield 205, 3) := by decide +kernel
theorem dX11_firstMet_32 : decode cX11_firstMet 32 = .ok (.ldc2_w 209, 3) := by decide +kernel
theorem dX11_firstMet_35 : decode cX11_firstMet 35 = .ok (.lcmp, 1) := by decide +kernel
theorem dX11_firstMet_36 : decode cX11_firstMet 36 = .ok (.ifCond .gt 42, 3) := by decide +kernel
theorem dX11_firstMet_39 : decode cX11_firstMet 39 = .ok (.aload_n 0, 1) := by decide +kernel
theorem dX11_firstMet_40 : decode cX11_firstMet 40 = .ok (.getfield 67, 3) := by decide +kernel
theorem dX11_firstMet_43 : decode cX11_firstMet 43 = .ok (.aload_n 0, 1) := by decide +kernel
theorem dX11_firstMet_44 : decode cX11_firstMet 44 = .ok (.getfield 57, 3) := by decide +kernel
theorem dX11_firstMet_47 : decode cX11_firstMet 47 = .ok (.aload_n 0, 1) := by decide +kernel
theorem dX11_firstMet_48 : decode cX11_firstMet 48 = .ok (.getfield 19, 3) := by decide +kernel
theorem dX11_firstMet_51 : decode cX11_firstMet 51 = .ok (.invokevirtual 211, 3) := by decide +kernel
theorem dX11_firstMet_54 : decode cX11_firstMet 54 = .ok (.ifCond .eq 11, 3) := by decide +kernel
theorem dX11_firstMet_65 : decode cX11_firstMet 65 = .ok (.aload_n 0, 1) := by decide +kernel
theorem dX11_firstMet_66 : decode cX11_firstMet 66 = .ok (.getfield 57, 3) := by decide +kernel
theorem dX11_firstMet_69 : decode cX11_firstMet 69 = .ok (.invokevirtual 215, 3) := by decide +kernel
theorem dX11_firstMet_72 : decode cX11_firstMet 72 = .ok (.iinc 3 1, 3) := by decide +kernel
theorem dX11_firstMet_75 : decode cX11_firstMet 75 = .ok (.goto (-57), 3) := by decide +kernel
theorem dX11_firstMet_57 : decode cX11_firstMet 57 = .ok (.aload_n 0, 1) := by decide +kernel
theorem dX11_firstMet_58 : decode cX11_firstMet 58 = .ok (.getfield 57, 3) := by decide +kernel
theorem dX11_firstMet_61 : decode cX11_firstMet 61 = .ok (.getfield 205, 3) := by decide +kernel
theorem dX11_firstMet_64 : decode cX11_firstMet 64 = .ok (.lreturn, 1) := by decide +kernel
set_option maxHeartbeats 4000000 in
set_option maxRecDepth 100000 in
theorem mt_first (l : Launch) (dC : Nat → ClassId) (dI : Nat → Nat → Nat) (x : Nat) (xpa : Nat) (xsp : Nat) (xdy : Nat) (xle : Nat) (xst : Nat) (xim : Nat) (xil : Nat) (xmo : Nat) (xom : Nat) (xwi : Nat) (b : Nat) (bto : Nat) (bnm : Nat) (bla : Nat) (bsk : Nat) (bru : Nat) (bbo : Nat) (bdi : Nat) (bda : Nat) (bdk : Nat) (bdt : Nat) (bdp : Nat) (bno : Nat) (bcT : ClassId) (wd : Int32) (ww : Int32) (wm : Int32) (c0 : Int64) (sz : Nat) (hok : xn_ok wd ww wm) : Met l yX11_firstMet (Cond.code yX11_firstMet cX11_firstMet 4 (some .long) :: wsL_law) ({ frames := 2, cells := 0, slots := 0, locals := 44 }) (va_Pc [.ref x, .long c0] (fun U => U.heap.size = sz ∧ va_P (dC, dI) vwCl [(x, .inr (11, [.ref xpa, .ref b, .ref xsp, .ref xdy, .ref xle, .ref xst, .int 0, .ref xim, .ref xil, .int 0, .ref xmo, .ref xom, .ref xwi])), (b, .inr (0, [.ref bto, .ref bnm, .ref bla, .ref bsk, .ref bru, .ref bbo, .ref bdi, .ref bda, .ref bdk, .ref bdt, .ref bdp, .ref bno])), (bto, .inl (bcT, 5, .inl (fun _ => 0))), (bsk, .inr (9, [.int 7, .int 0, .int 59, .int 2, .int 0, .int 1461, .int 4])), (xwi, .inr (10, [.int wd, .int ww, .int wm, .int (-1), .int (-1)])), (xmo, .inr (4, [.null, .long 0, .long 0, .long 0, .long 0]))] U.heap ∧ va_K (dC, dI) vwCl [(bcT, .int)] U ∧ va_D (fun _ => True) [(x, .inr (11, [.ref xpa, .ref b, .ref xsp, .ref xdy, .ref xle, .ref xst, .int 0, .ref xim, .ref xil, .int 0, .ref xmo, .ref xom, .ref xwi])), (b, .inr (0, [.ref bto, .ref bnm, .ref bla, .ref bsk, .ref bru, .ref bbo, .ref bdi, .ref bda, .ref bdk, .ref bdt, .ref bdp, .ref bno])), (bto, .inl (bcT, 5, .inl (fun _ => 0))), (bsk, .inr (9, [.int 7, .int 0, .int 59, .int 2, .int 0, .int 1461, .int 4])), (xwi, .inr (10, [.int wd, .int ww, .int wm, .int (-1), .int (-1)])), (xmo, .inr (4, [.null, .long 0, .long 0, .long 0, .long 0]))])) (va_Ql (fun (r : Int64) (u : Unit) => r = xn_go wd ww wm 20000 c0) (fun _ _ => True) (va_A [(x, .inr (11, [.ref xpa, .ref b, .ref xsp, .ref xdy, .ref xle, .ref xst, .int 0, .ref xim, .ref xil, .int 0, .ref xmo, .ref xom, .ref xwi])), (b, .inr (0, [.ref bto, .ref bnm, .ref bla, .ref bsk, .ref bru, .ref bbo, .ref bdi, .ref bda, .ref bdk, .ref bdt, .ref bdp, .ref bno])), (bto, .inl (bcT, 5, .inl (fun _ => 0))), (bsk, .inr (9, [.int 7, .int 0, .int 59, .int 2, .int 0, .int 1461, .int 4])), (xwi, .inr (10, [.int wd, .int ww, .int wm, .int (-1), .int (-1)])), (xmo, .inr (4, [.null, .long 0, .long 0, .long 0, .long 0]))] sz)) 0 0 (va_A [(x, .inr (11, [.ref xpa, .ref b, .ref xsp, .ref xdy, .ref xle, .ref xst, .int 0, .ref xim, .ref xil, .int 0, .ref xmo, .ref xom, .ref xwi])), (b, .inr (0, [.ref bto, .ref bnm, .ref bla, .ref bsk, .ref bru, .ref bbo, .ref bdi, .ref bda, .ref bdk, .ref bdt, .ref bdp, .ref bno])), (bto, .inl (bcT, 5, .inl (fun _ => 0))), (bsk, .inr (9, [.int 7, .int 0, .int 59, .int 2, .int 0, .int 1461, .int 4])), (xwi, .inr (10, [.int wd, .int ww, .int wm, .int (-1), .int (-1)])), (xmo, .inr (4, [.null, .long 0, .long 0, .long 0, .long 0]))] sz) := by
  refine Met.ofW (cc := cX11_firstMet) (maxL := 4) (ret := (some .long)) (by decide) rfl ?_
  intro p e s m args below meth c s₁ B hml hv
  obtain ⟨rfl, hsz, hP, hK, hD0⟩ := hv
  have hx := B.exec
  have hb := B.bytes
  have hr := B.returns
  have hts := atoms_spec (ws := Cond.code yX11_firstMet cX11_firstMet 4 (some .long) :: wsL_law) B.pre
  have htw : ∀ w ∈ wsL_law, w.before _ s = true := fun w h => hts w (List.mem_cons_of_mem _ h)
  have hown : s.vm.findClass RX11 = some m.cls := findClass_of_methodNamed B.named
  have hlocks := B.notSynchronized
  subst hsz
  have hD := hD0.self (sz := s.heap.size)
  generalize hAe : va_A [(x, .inr (11, [.ref xpa, .ref b, .ref xsp, .ref xdy, .ref xle, .ref xst, .int 0, .ref xim, .ref xil, .int 0, .ref xmo, .ref xom, .ref xwi])), (b, .inr (0, [.ref bto, .ref bnm, .ref bla, .ref bsk, .ref bru, .ref bbo, .ref bdi, .ref bda, .ref bdk, .ref bdt, .ref bdp, .ref bno])), (bto, .inl (bcT, 5, .inl (fun _ => 0))), (bsk, .inr (9, [.int 7, .int 0, .int 59, .int 2, .int 0, .int 1461, .int 4])), (xwi, .inr (10, [.int wd, .int ww, .int wm, .int (-1), .int (-1)])), (xmo, .inr (4, [.null, .long 0, .long 0, .long 0, .long 0]))] s.heap.size = A at hD ⊢
  have hA : ∀ q : Nat, s.heap.size ≤ q → A q := fun q h => by rw [← hAe]; exact Or.inr h
  obtain ⟨H, rH⟩ : ∃ z : Heap, z = s.heap := ⟨_, rfl⟩
  have hS : va_S A s.heap H [] := by rw [rH]; exact va_S.rf
  have hP : va_P (dC, dI) vwCl [(x, .inr (11, [.ref xpa, .ref b, .ref xsp, .ref xdy, .ref xle, .ref xst, .int 0, .ref xim, .ref xil, .int 0, .ref xmo, .ref xom, .ref xwi])), (b, .inr (0, [.ref bto, .ref bnm, .ref bla, .ref bsk, .ref bru, .ref bbo, .ref bdi, .ref bda, .ref bdk, .ref bdt, .ref bdp, .ref bno])), (bto, .inl (bcT, 5, .inl (fun _ => 0))), (bsk, .inr (9, [.int 7, .int 0, .int 59, .int 2, .int 0, .int 1461, .int 4])), (xwi, .inr (10, [.int wd, .int ww, .int wm, .int (-1), .int (-1)])), (xmo, .inr (4, [.null, .long 0, .long 0, .long 0, .long 0]))] H := by rw [rH]; exact hP
  rw [← rH]
  have hl := lv_entry ([.ref x, .long c0]) (n := 4) (Nat.le_of_ble_eq_true rfl)
  rw [lg_entry_eq]
  generalize (lg_sl ([.ref x, .long c0]) ++ List.replicate (4 - (lg_sl ([.ref x, .long c0])).length) Slot.unset).toArray = ls at hl ⊢
  have hl : lv_has ls 4 [(0, .ref x), (1, .long c0)] := hl
  refine lv_aload_n hx hb dX11_firstMet_0 rfl (lv_at hl 0 rfl) ?_
  refine va_get (D := (dC, dI)) (ci := 11) (v := .ref xmo) (C := RX11) (T := TX11) (N := 13) hx hb htw inlX11 hown hK hP 0 rfl rfl 10 (by decide) (htw _ (ck_2 _ (List.mem_of_getElem? (i := 17) rfl))) (fun _ h9 => h9) rfl dX11_firstMet_1 ?_
  refine lv_aload_n hx hb dX11_firstMet_4 rfl (lv_at hl 0 rfl) ?_
  refine va_get (D := (dC, dI)) (ci := 11) (v := .ref b) (C := RX11) (T := TX11) (N := 13) hx hb htw inlX11 hown hK hP 0 rfl rfl 1 (by decide) (htw _ (ck_1 _ (List.mem_of_getElem? (i := 21) rfl))) (fun _ h9 => h9) rfl dX11_firstMet_5 ?_
  refine lv_iconst (v := 0) hx hb dX11_firstMet_8 (by decide) ?_
  have hPc := hP.sub (ws' := [(b, .inr (0, [.ref bto, .ref bnm, .ref bla, .ref bsk, .ref bru, .ref bbo, .ref bdi, .ref bda, .ref bdk, .ref bdt, .ref bdp, .ref bno])), (bto, .inl (bcT, 5, .inl (fun _ => 0)))]) [1, 2] rfl
  have hKc := hK.sub (tys' := [(bcT, .int)]) [0] rfl
  refine va_csq (W.runV (As := [.int 0]) (rest := [.ref xmo]) ⟨hx, hb, hml, hown, htw⟩ (mt_landAt l dC dI b bto bnm bla bsk bru bbo bdi bda bdk bdt bdp bno bcT (0 : Int32)) (cwV 1 htw (xg_V (ck_33 _ (List.mem_of_getElem? (i := 21) rfl)) (ck_20 _ (List.mem_of_getElem? (i := 22) rfl)) (ck_20 _ (List.mem_of_getElem? (i := 23) rfl)) (ck_1 _ (List.mem_of_getElem? (i := 20) rfl)) (ck_21 _ (List.mem_of_getElem? (i := 0) rfl))) rfl rfl rfl (by decide +kernel) ⟨Nat.le_of_ble_eq_true rfl, Nat.le_of_ble_eq_true rfl⟩) ⟨fun a U g mk q => by obtain ⟨q0, qP, qK⟩ := q; exact ⟨q0, qP, va_K.moved (u := U) (U := U.calling g mk a) (Vm.Alike.refl U.vm) qK⟩, va_recv hKc hPc (ci := 0) (q0 := 0) rfl rfl, fun U hU hW => ⟨rfl, by rw [hU]; exact hPc, va_K.moved hW.alike hKc⟩⟩ rfl rfl hl.1 rfl (lv_room (Nat.le_of_ble_eq_true rfl)) dX11_firstMet_9 ⟨Nat.le_of_ble_eq_true rfl, Nat.le_of_ble_eq_true rfl⟩) (fun r_1 hw => ?_)
  try dsimp only at hw
  obtain rfl : r_1 = none := hw
  refine W.eq (g2 := F0 m 12 ls [.null, .ref xmo]) rfl ?_
  refine lv_lload_n hx hb dX11_firstMet_12 rfl (lv_at hl 1 rfl) ?_
  have hPc := hP.sub (ws' := [(xmo, .inr (4, [.null, .long 0, .long 0, .long 0, .long 0]))]) [5] rfl
  have hKc := hK.sub (tys' := []) [] rfl
  have hDc := hD.sub (ws' := [(xmo, .inr (4, [.null, .long 0, .long 0, .long 0, .long 0]))]) [5] (by decide) rfl
  have hFc := va_free (wc := [(xmo, .inr (4, [.null, .long 0, .long 0, .long 0, .long 0]))]) hD hS hA [5] rfl
  refine va_callv (va_runV (As := [.null, .long c0]) (rest := []) ⟨hx, hb, hml, hown, htw⟩ (mt_seek l dC dI xmo c0 H.size) (cwV 2 htw (xg_V (ck_38 _ (List.mem_of_getElem? (i := 20) rfl)) (ck_38 _ (List.mem_of_getElem? (i := 21) rfl)) (ck_38 _ (List.mem_of_getElem? (i := 22) rfl)) (ck_2 _ (List.mem_of_getElem? (i := 16) rfl)) (ck_38 _ (List.mem_of_getElem? (i := 23) rfl))) rfl rfl rfl (by decide +kernel) ⟨Nat.le_of_ble_eq_true rfl, Nat.le_of_ble_eq_true rfl⟩) ⟨fun a U g mk q => by obtain ⟨q0, q1, qP, qK, qD⟩ := q; exact ⟨q0, q1, qP, va_K.moved (u := U) (U := U.calling g mk a) (Vm.Alike.refl U.vm) qK, qD⟩, va_recv hKc hPc (ci := 4) (q0 := 0) rfl rfl, fun U hU hW => ⟨rfl, by rw [hU], by rw [hU]; exact hPc, va_K.moved hW.alike hKc, hDc.weaken (fun _ _ _ _ => trivial)⟩⟩ rfl rfl hl.1 rfl (lv_room (Nat.le_of_ble_eq_true rfl)) dX11_firstMet_13 ⟨Nat.le_of_ble_eq_true rfl, Nat.le_of_ble_eq_true rfl⟩) hS (fun q _ h => hFc q h) hFc (fun u_3 t H1 locs ht hvm hw hB hz1 hk1 hS => ?_)
  try dsimp only at hw
  obtain ⟨hP1, hK1, hD1⟩ := hB
  rw [ht] at hP1
  have hK1 := va_K.moved hvm.symm hK1
  have hP1 : va_P (dC, dI) vwCl [(xmo, .inr (4, [.null, .long c0, .long 0, .long 0, .long 0]))] H1 := hP1
  have hD1 : va_D (va_A [(xmo, .inr (4, [.null, .long 0, .long 0, .long 0, .long 0]))] H.size) [(xmo, .inr (4, [.null, .long c0, .long 0, .long 0, .long 0]))] := hD1
  have hK1 : va_K (dC, dI) vwCl [] s := hK1
  obtain ⟨hP, hD⟩ := va_join (wr := [(x, .inr (11, [.ref xpa, .ref b, .ref xsp, .ref xdy, .ref xle, .ref xst, .int 0, .ref xim, .ref xil, .int 0, .ref xmo, .ref xom, .ref xwi])), (b, .inr (0, [.ref bto, .ref bnm, .ref bla, .ref bsk, .ref bru, .ref bbo, .ref bdi, .ref bda, .ref bdk, .ref bdt, .ref bdp, .ref bno])), (bto, .inl (bcT, 5, .inl (fun _ => 0))), (bsk, .inr (9, [.int 7, .int 0, .int 59, .int 2, .int 0, .int 1461, .int 4])), (xwi, .inr (10, [.int wd, .int ww, .int wm, .int (-1), .int (-1)]))]) (w1 := [(xmo, .inr (4, [.null, .long c0, .long 0, .long 0, .long 0]))]) hP hD [5] [0, 1, 2, 3, 4] rfl rfl (by decide) (by decide) hk1 hFc hP1 hD1
  generalize H1 = H at hP hS ⊢
  have hP : va_P (dC, dI) vwCl [(x, .inr (11, [.ref xpa, .ref b, .ref xsp, .ref xdy, .ref xle, .ref xst, .int 0, .ref xim, .ref xil, .int 0, .ref xmo, .ref xom, .ref xwi])), (b, .inr (0, [.ref bto, .ref bnm, .ref bla, .ref bsk, .ref bru, .ref bbo, .ref bdi, .ref bda, .ref bdk, .ref bdt, .ref bdp, .ref bno])), (bto, .inl (bcT, 5, .inl (fun _ => 0))), (bsk, .inr (9, [.int 7, .int 0, .int 59, .int 2, .int 0, .int 1461, .int 4])), (xwi, .inr (10, [.int wd, .int ww, .int wm, .int (-1), .int (-1)])), (xmo, .inr (4, [.null, .long c0, .long 0, .long 0, .long 0]))] H := hP
  have hD : va_D A [(x, .inr (11, [.ref xpa, .ref b, .ref xsp, .ref xdy, .ref xle, .ref xst, .int 0, .ref xim, .ref xil, .int 0, .ref xmo, .ref xom, .ref xwi])), (b, .inr (0, [.ref bto, .ref bnm, .ref bla, .ref bsk, .ref bru, .ref bbo, .ref bdi, .ref bda, .ref bdk, .ref bdt, .ref bdp, .ref bno])), (bto, .inl (bcT, 5, .inl (fun _ => 0))), (bsk, .inr (9, [.int 7, .int 0, .int 59, .int 2, .int 0, .int 1461, .int 4])), (xwi, .inr (10, [.int wd, .int ww, .int wm, .int (-1), .int (-1)])), (xmo, .inr (4, [.null, .long c0, .long 0, .long 0, .long 0]))] := hD
  refine W.widen (k := 0) (n := 0) (by omega) (by omega) ?_
  refine lv_iconst (v := 0) hx hb dX11_firstMet_16 (by decide) ?_
  refine lv_istore_n (lv' := [(3, .int 0), (0, .ref x), (1, .long c0)]) hx hb dX11_firstMet_17 rfl hl (by decide) rfl (fun ls hl => ?_)
  have hloop_4 : ∀ (n : Nat) (i : Nat) (cnt : Int64) (hi : i + n = 20000) (hI : xn_go wd ww wm 20000 c0 = xn_go wd ww wm n cnt) (H : Heap) (locs : List Loc) (ls : Array Slot) (hP : va_P (dC, dI) vwCl [(x, .inr (11, [.ref xpa, .ref b, .ref xsp, .ref xdy, .ref xle, .ref xst, .int 0, .ref xim, .ref xil, .int 0, .ref xmo, .ref xom, .ref xwi])), (b, .inr (0, [.ref bto, .ref bnm, .ref bla, .ref bsk, .ref bru, .ref bbo, .ref bdi, .ref bda, .ref bdk, .ref bdt, .ref bdp, .ref bno])), (bto, .inl (bcT, 5, .inl (fun _ => 0))), (bsk, .inr (9, [.int 7, .int 0, .int 59, .int 2, .int 0, .int 1461, .int 4])), (xwi, .inr (10, [.int wd, .int ww, .int wm, .int (-1), .int (-1)])), (xmo, .inr (4, [.null, .long cnt, .long 0, .long 0, .long 0]))] H) (hD : va_D A [(x, .inr (11, [.ref xpa, .ref b, .ref xsp, .ref xdy, .ref xle, .ref xst, .int 0, .ref xim, .ref xil, .int 0, .ref xmo, .ref xom, .ref xwi])), (b, .inr (0, [.ref bto, .ref bnm, .ref bla, .ref bsk, .ref bru, .ref bbo, .ref bdi, .ref bda, .ref bdk, .ref bdt, .ref bdp, .ref bno])), (bto, .inl (bcT, 5, .inl (fun _ => 0))), (bsk, .inr (9, [.int 7, .int 0, .int 59, .int 2, .int 0, .int 1461, .int 4])), (xwi, .inr (10, [.int wd, .int ww, .int wm, .int (-1), .int (-1)])), (xmo, .inr (4, [.null, .long cnt, .long 0, .long 0, .long 0]))]) (hS : va_S A s.heap H locs) (hl : lv_has ls 4 [(3, .int (nI i)), (0, .ref x), (1, .long c0)]), W p l e (headSpec (Cond.code yX11_firstMet cX11_firstMet 4 (some .long) :: wsL_law) ({ frames := 2, cells := 0, slots := 0, locals := 44 })).room s m ([.ref x, .long c0] : List Value).toArray below meth c H locs 0 0 (MQ below (va_Ql (fun (r : Int64) (u : Unit) => r = xn_go wd ww wm 20000 c0) (fun _ _ => True) A) ([.ref x, .long c0] : List Value).toArray s 0 0 A) (F0 m 18 ls []) := by
    intro n
    induction n with
    | zero =>
      intro i cnt hi hI H locs ls hP hD hS hl
      obtain rfl : i = 20000 := by omega
      refine lv_iload_n hx hb dX11_firstMet_18 rfl (lv_at hl 0 rfl) ?_
      refine lv_sipush (v := 20000) hx hb dX11_firstMet_19 (by decide) ?_
      refine lv_icmp_ge (tgt := 78) hx hb dX11_firstMet_22 (by decide) (fun c_5 => ?_) (fun c_5 => absurd c_5 (fun h => h (by decide)))
      refine lv_ldc2 (v := (-2)) hx hb hown (htw _ (ck_42 _ (List.mem_of_getElem? (i := 18) rfl))) dX11_firstMet_78 ?_
      refine W.widen (k := 0) (n := 0) (by omega) (by omega) ?_
      exact W.lret (v := (-2)) hx hb hr (fun t ht hW => ⟨⟨(-2), (), rfl, hI.trans (xn_0 _ _ _ _) |>.symm, trivial⟩, hS.F ht⟩) hS.2.2 dX11_firstMet_81
    | succ n ih =>
      intro i cnt hi hI H locs ls hP hD hS hl
      refine lv_iload_n hx hb dX11_firstMet_18 rfl (lv_at hl 0 rfl) ?_
      refine lv_sipush (v := 20000) hx hb dX11_firstMet_19 (by decide) ?_
      refine lv_icmp_ge (tgt := 78) hx hb dX11_firstMet_22 (by decide) (fun c_6 => absurd c_6 (nI_ge (a := i) (b := 20000) (by omega) (by decide))) (fun c_6 => ?_)
      refine lv_aload_n hx hb dX11_firstMet_25 rfl (lv_at hl 1 rfl) ?_
      refine va_get (D := (dC, dI)) (ci := 11) (v := .ref xmo) (C := RX11) (T := TX11) (N := 13) hx hb htw inlX11 hown hK hP 0 rfl rfl 10 (by decide) (htw _ (ck_2 _ (List.mem_of_getElem? (i := 17) rfl))) (fun _ h9 => h9) rfl dX11_firstMet_26 ?_
      refine va_get (D := (dC, dI)) (ci := 4) (v := .long cnt) (C := RX4) (T := TX4) (N := 5) hx hb htw inlX4 hown hK hP 5 rfl rfl 1 (by decide) (htw _ (ck_42 _ (List.mem_of_getElem? (i := 17) rfl))) (fun _ h9 => h9) rfl dX11_firstMet_29 ?_
      refine lv_ldc2 (v := 1000000000000) hx hb hown (htw _ (ck_35 _ (List.mem_of_getElem? (i := 18) rfl))) dX11_firstMet_32 ?_
      refine W.lcmp hx hb dX11_firstMet_35 ?_
      refine lv_if_gt (tgt := 78) hx hb dX11_firstMet_36 (by decide) (fun c_7 => ?_) (fun c_7 => ?_)
      · refine lv_ldc2 (v := (-2)) hx hb hown (htw _ (ck_42 _ (List.mem_of_getElem? (i := 18) rfl))) dX11_firstMet_78 ?_
        refine W.widen (k := 0) (n := 0) (by omega) (by omega) ?_
        exact W.lret (v := (-2)) hx hb hr (fun t ht hW => ⟨⟨(-2), (), rfl, (hI.trans (xn_last ((lg_cmp_gt _ _).mp c_7))).symm, trivial⟩, hS.F ht⟩) hS.2.2 dX11_firstMet_81
      · refine lv_aload_n hx hb dX11_firstMet_39 rfl (lv_at hl 1 rfl) ?_
        refine va_get (D := (dC, dI)) (ci := 11) (v := .ref xwi) (C := RX11) (T := TX11) (N := 13) hx hb htw inlX11 hown hK hP 0 rfl rfl 12 (by decide) (htw _ (ck_2 _ (List.mem_of_getElem? (i := 22) rfl))) (fun _ h9 => h9) rfl dX11_firstMet_40 ?_
        refine lv_aload_n hx hb dX11_firstMet_43 rfl (lv_at hl 1 rfl) ?_
        refine va_get (D := (dC, dI)) (ci := 11) (v := .ref xmo) (C := RX11) (T := TX11) (N := 13) hx hb htw inlX11 hown hK hP 0 rfl rfl 10 (by decide) (htw _ (ck_2 _ (List.mem_of_getElem? (i := 17) rfl))) (fun _ h9 => h9) rfl dX11_firstMet_44 ?_
        refine lv_aload_n hx hb dX11_firstMet_47 rfl (lv_at hl 1 rfl) ?_
        refine va_get (D := (dC, dI)) (ci := 11) (v := .ref b) (C := RX11) (T := TX11) (N := 13) hx hb htw inlX11 hown hK hP 0 rfl rfl 1 (by decide) (htw _ (ck_1 _ (List.mem_of_getElem? (i := 21) rfl))) (fun _ h9 => h9) rfl dX11_firstMet_48 ?_
        have hPc := hP.sub (ws' := [(xwi, .inr (10, [.int wd, .int ww, .int wm, .int (-1), .int (-1)])), (xmo, .inr (4, [.null, .long cnt, .long 0, .long 0, .long 0])), (b, .inr (0, [.ref bto, .ref bnm, .ref bla, .ref bsk, .ref bru, .ref bbo, .ref bdi, .ref bda, .ref bdk, .ref bdt, .ref bdp, .ref bno])), (bsk, .inr (9, [.int 7, .int 0, .int 59, .int 2, .int 0, .int 1461, .int 4]))]) [4, 5, 1, 3] rfl
        have hKc := hK.sub (tys' := []) [] rfl
        refine vp_callSi (W.runV (As := [.ref xmo, .ref b]) (rest := []) ⟨hx, hb, hml, hown, htw⟩ (mt_met l dC dI xwi xmo b bto bnm bla bsk bru bbo bdi bda bdk bdt bdp bno wd ww wm cnt hok) (cwV 2 htw (xg_V (ck_42 _ (List.mem_of_getElem? (i := 19) rfl)) (ck_42 _ (List.mem_of_getElem? (i := 20) rfl)) (ck_42 _ (List.mem_of_getElem? (i := 21) rfl)) (ck_2 _ (List.mem_of_getElem? (i := 21) rfl)) (ck_42 _ (List.mem_of_getElem? (i := 22) rfl))) rfl rfl rfl (by decide +kernel) ⟨Nat.le_of_ble_eq_true rfl, Nat.le_of_ble_eq_true rfl⟩) ⟨fun a U g mk q => by obtain ⟨q0, qP, qK⟩ := q; exact ⟨q0, qP, va_K.moved (u := U) (U := U.calling g mk a) (Vm.Alike.refl U.vm) qK⟩, va_recv hKc hPc (ci := 10) (q0 := 0) rfl rfl, fun U hU hW => ⟨rfl, by rw [hU]; exact hPc, va_K.moved hW.alike hKc⟩⟩ rfl rfl hl.1 rfl (lv_room (Nat.le_of_ble_eq_true rfl)) dX11_firstMet_51 ⟨Nat.le_of_ble_eq_true rfl, Nat.le_of_ble_eq_true rfl⟩) (fun r_8 hw => ?_)
        try dsimp only at hw
        obtain rfl : r_8 = xn_is wd ww wm cnt := hw
        refine lv_if_eq (tgt := 65) hx hb dX11_firstMet_54 (by decide) (fun c_9 => ?_) (fun c_9 => ?_)
        · refine lv_aload_n hx hb dX11_firstMet_65 rfl (lv_at hl 1 rfl) ?_
          refine va_get (D := (dC, dI)) (ci := 11) (v := .ref xmo) (C := RX11) (T := TX11) (N := 13) hx hb htw inlX11 hown hK hP 0 rfl rfl 10 (by decide) (htw _ (ck_2 _ (List.mem_of_getElem? (i := 17) rfl))) (fun _ h9 => h9) rfl dX11_firstMet_66 ?_
          have hPc := hP.sub (ws' := [(xmo, .inr (4, [.null, .long cnt, .long 0, .long 0, .long 0]))]) [5] rfl
          have hKc := hK.sub (tys' := []) [] rfl
          have hDc := hD.sub (ws' := [(xmo, .inr (4, [.null, .long cnt, .long 0, .long 0, .long 0]))]) [5] (by decide) rfl
          have hFc := va_free (wc := [(xmo, .inr (4, [.null, .long cnt, .long 0, .long 0, .long 0]))]) hD hS hA [5] rfl
          refine va_callv (va_runV (As := []) (rest := []) ⟨hx, hb, hml, hown, htw⟩ (mt_step l dC dI xmo cnt H.size) (cwV 0 htw (xg_V (ck_43 _ (List.mem_of_getElem? (i := 7) rfl)) (ck_43 _ (List.mem_of_getElem? (i := 8) rfl)) (ck_43 _ (List.mem_of_getElem? (i := 9) rfl)) (ck_2 _ (List.mem_of_getElem? (i := 16) rfl)) (ck_43 _ (List.mem_of_getElem? (i := 10) rfl))) rfl rfl rfl (by decide +kernel) ⟨Nat.le_of_ble_eq_true rfl, Nat.le_of_ble_eq_true rfl⟩) ⟨fun a U g mk q => by obtain ⟨q0, q1, qP, qK, qD⟩ := q; exact ⟨q0, q1, qP, va_K.moved (u := U) (U := U.calling g mk a) (Vm.Alike.refl U.vm) qK, qD⟩, va_recv hKc hPc (ci := 4) (q0 := 0) rfl rfl, fun U hU hW => ⟨rfl, by rw [hU], by rw [hU]; exact hPc, va_K.moved hW.alike hKc, hDc.weaken (fun _ _ _ _ => trivial)⟩⟩ rfl rfl hl.1 rfl (lv_room (Nat.le_of_ble_eq_true rfl)) dX11_firstMet_69 ⟨Nat.le_of_ble_eq_true rfl, Nat.le_of_ble_eq_true rfl⟩) hS (fun q _ h => hFc q h) hFc (fun u_11 t H1 locs ht hvm hw hB hz1 hk1 hS => ?_)
          try dsimp only at hw
          obtain ⟨hP1, hK1, hD1⟩ := hB
          rw [ht] at hP1
          have hK1 := va_K.moved hvm.symm hK1
          have hP1 : va_P (dC, dI) vwCl [(xmo, .inr (4, [.null, .long (cnt + 1), .long 0, .long 0, .long 0]))] H1 := hP1
          have hD1 : va_D (va_A [(xmo, .inr (4, [.null, .long cnt, .long 0, .long 0, .long 0]))] H.size) [(xmo, .inr (4, [.null, .long (cnt + 1), .long 0, .long 0, .long 0]))] := hD1
          have hK1 : va_K (dC, dI) vwCl [] s := hK1
          obtain ⟨hP, hD⟩ := va_join (wr := [(x, .inr (11, [.ref xpa, .ref b, .ref xsp, .ref xdy, .ref xle, .ref xst, .int 0, .ref xim, .ref xil, .int 0, .ref xmo, .ref xom, .ref xwi])), (b, .inr (0, [.ref bto, .ref bnm, .ref bla, .ref bsk, .ref bru, .ref bbo, .ref bdi, .ref bda, .ref bdk, .ref bdt, .ref bdp, .ref bno])), (bto, .inl (bcT, 5, .inl (fun _ => 0))), (bsk, .inr (9, [.int 7, .int 0, .int 59, .int 2, .int 0, .int 1461, .int 4])), (xwi, .inr (10, [.int wd, .int ww, .int wm, .int (-1), .int (-1)]))]) (w1 := [(xmo, .inr (4, [.null, .long (cnt + 1), .long 0, .long 0, .long 0]))]) hP hD [5] [0, 1, 2, 3, 4] rfl rfl (by decide) (by decide) hk1 hFc hP1 hD1
          generalize H1 = H at hP hS ⊢
          have hP : va_P (dC, dI) vwCl [(x, .inr (11, [.ref xpa, .ref b, .ref xsp, .ref xdy, .ref xle, .ref xst, .int 0, .ref xim, .ref xil, .int 0, .ref xmo, .ref xom, .ref xwi])), (b, .inr (0, [.ref bto, .ref bnm, .ref bla, .ref bsk, .ref bru, .ref bbo, .ref bdi, .ref bda, .ref bdk, .ref bdt, .ref bdp, .ref bno])), (bto, .inl (bcT, 5, .inl (fun _ => 0))), (bsk, .inr (9, [.int 7, .int 0, .int 59, .int 2, .int 0, .int 1461, .int 4])), (xwi, .inr (10, [.int wd, .int ww, .int wm, .int (-1), .int (-1)])), (xmo, .inr (4, [.null, .long (cnt + 1), .long 0, .long 0, .long 0]))] H := hP
          have hD : va_D A [(x, .inr (11, [.ref xpa, .ref b, .ref xsp, .ref xdy, .ref xle, .ref xst, .int 0, .ref xim, .ref xil, .int 0, .ref xmo, .ref xom, .ref xwi])), (b, .inr (0, [.ref bto, .ref bnm, .ref bla, .ref bsk, .ref bru, .ref bbo, .ref bdi, .ref bda, .ref bdk, .ref bdt, .ref bdp, .ref bno])), (bto, .inl (bcT, 5, .inl (fun _ => 0))), (bsk, .inr (9, [.int 7, .int 0, .int 59, .int 2, .int 0, .int 1461, .int 4])), (xwi, .inr (10, [.int wd, .int ww, .int wm, .int (-1), .int (-1)])), (xmo, .inr (4, [.null, .long (cnt + 1), .long 0, .long 0, .long 0]))] := hD
          refine W.widen (k := 0) (n := 0) (by omega) (by omega) ?_
          refine lv_iinc (v := ((nI i) + 1)) (lv' := [(3, .int ((nI i) + 1)), (0, .ref x), (1, .long c0)]) hx hb dX11_firstMet_72 hl (k := 0) rfl (rfl) (by decide) rfl (fun ls hl => ?_)
          refine lv_goto (tgt := 18) hx hb dX11_firstMet_75 (by decide) ?_
          have hl : lv_has ls 4 [(3, .int (nI (i + 1))), (0, .ref x), (1, .long c0)] := by rw [← nI_1]; exact lv_sub hl [0, 1, 2] rfl
          exact ih (i + 1) (cnt + 1) (by omega) (hI.trans (xn_on (fun h => c_7 ((lg_cmp_gt _ _).mpr h)) (xn_isE c_9))) H locs ls (hP.sub [0, 1, 2, 3, 4, 5] rfl) (hD.sub [0, 1, 2, 3, 4, 5] (by decide) rfl) hS hl
        · refine lv_aload_n hx hb dX11_firstMet_57 rfl (lv_at hl 1 rfl) ?_
          refine va_get (D := (dC, dI)) (ci := 11) (v := .ref xmo) (C := RX11) (T := TX11) (N := 13) hx hb htw inlX11 hown hK hP 0 rfl rfl 10 (by decide) (htw _ (ck_2 _ (List.mem_of_getElem? (i := 17) rfl))) (fun _ h9 => h9) rfl dX11_firstMet_58 ?_
          refine va_get (D := (dC, dI)) (ci := 4) (v := .long cnt) (C := RX4) (T := TX4) (N := 5) hx hb htw inlX4 hown hK hP 5 rfl rfl 1 (by decide) (htw _ (ck_42 _ (List.mem_of_getElem? (i := 17) rfl))) (fun _ h9 => h9) rfl dX11_firstMet_61 ?_
          refine W.widen (k := 0) (n := 0) (by omega) (by omega) ?_
          exact W.lret (v := cnt) hx hb hr (fun t ht hW => ⟨⟨cnt, (), rfl, (hI.trans (xn_met (fun h => c_7 ((lg_cmp_gt _ _).mpr h)) (xn_isN c_9))).symm, trivial⟩, hS.F ht⟩) hS.2.2 dX11_firstMet_64
  exact hloop_4 20000 0 c0 rfl rfl H locs ls (hP.sub [0, 1, 2, 3, 4, 5] rfl) (hD.sub [0, 1, 2, 3, 4, 5] (by decide) rfl) hS (lv_sub hl [0, 1, 2] rfl)
