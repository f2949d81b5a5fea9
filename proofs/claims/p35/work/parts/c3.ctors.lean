theorem dX1_init_0 : decode cX1_init 0 = .ok (.aload_n 0, 1) := zk_42 (by decide +kernel)
theorem dX1_init_1 : decode cX1_init 1 = .ok (.invokespecial 3, 3) := zk_183 (by decide +kernel)
theorem dX1_init_4 : decode cX1_init 4 = .ok (.aload_n 0, 1) := zk_42 (by decide +kernel)
theorem dX1_init_5 : decode cX1_init 5 = .ok (.iconst 1, 1) := zk_4 (by decide +kernel)
theorem dX1_init_6 : decode cX1_init 6 = .ok (.putfield 9, 3) := zk_181 (by decide +kernel)
theorem dX1_init_9 : decode cX1_init 9 = .ok (.return_, 1) := zk_177 (by decide +kernel)
set_option maxHeartbeats 4000000 in
set_option maxRecDepth 100000 in
theorem mc_land (l : Launch) (dC : Nat → ClassId) (dI : Nat → Nat → Nat) (o : Nat) (sz : Nat) : Met l yX1_init (Cond.code yX1_init cX1_init 1 none :: wsL_law) ({ frames := 1, cells := 0, slots := 0, locals := 12 }) (va_Pc [.ref o] (fun U => U.heap.size = sz ∧ va_P (dC, dI) vwCl [(eO1a o 0 0 0)] U.heap ∧ va_K (dC, dI) vwCl [] U ∧ va_D (fun _ => True) [(eO1a o 0 0 0)])) (va_Qv (fun (u : Unit) => True) (fun (u : Unit) t => va_P (dC, dI) vwCl [(eO1a o 1 0 0)] t.heap ∧ va_K (dC, dI) vwCl [] t ∧ va_D (va_A [(eO1a o 0 0 0)] sz) [(eO1a o 1 0 0)]) (va_A [(eO1a o 0 0 0)] sz)) 0 0 (va_A [(eO1a o 0 0 0)] sz) := by
  refine Met.ofW (cc := cX1_init) (maxL := 1) (ret := none) (by decide) rfl ?_
  intro p e s m args below meth c s₁ B hml hv
  obtain ⟨rfl, hsz, hP, hK, hD0⟩ := hv
  have hx := B.exec
  have hb := B.bytes
  have hr := B.returns
  have hts := atoms_spec (ws := Cond.code yX1_init cX1_init 1 none :: wsL_law) B.pre
  have htw : ∀ w ∈ wsL_law, w.before _ s = true := fun w h => hts w (List.mem_cons_of_mem _ h)
  have hown : s.vm.findClass RX1 = some m.cls := findClass_of_methodNamed B.named
  have hlocks := B.notSynchronized
  have hin : meth.name = "<init>" := (name_of_methodNamed B.named B.method).1
  subst hsz
  have hD := hD0.self (sz := s.heap.size)
  generalize hAe : va_A [(eO1a o 0 0 0)] s.heap.size = A at hD ⊢
  have hA : ∀ q : Nat, s.heap.size ≤ q → A q := fun q h => by rw [← hAe]; exact Or.inr h
  obtain ⟨H, rH⟩ : ∃ z : Heap, z = s.heap := ⟨_, rfl⟩
  have hS : va_S A s.heap H [] := by rw [rH]; exact va_S.rf
  have hP : va_P (dC, dI) vwCl [(eO1a o 0 0 0)] H := by rw [rH]; exact hP
  rw [← rH]
  have hl := lv_entry ([.ref o]) (n := 1) (Nat.le_of_ble_eq_true rfl)
  rw [lg_entry_eq]
  generalize (lg_sl ([.ref o]) ++ List.replicate (1 - (lg_sl ([.ref o])).length) Slot.unset).toArray = ls at hl ⊢
  have hl : lv_has ls 1 [(0, .ref o)] := hl
  refine lv_aload_n hx hb dX1_init_0 rfl (lv_at hl 0 rfl) ?_
  refine W.objInit hx hb hown (htw _ (ck_7 _ (List.mem_of_getElem? (i := 13) rfl))) (htw _ (ck_1 _ (List.mem_of_getElem? (i := 12) rfl))) (htw _ (ck_1 _ (List.mem_of_getElem? (i := 13) rfl))) rfl (by rw [hml]; exact hl.1) rfl dX1_init_1 (Nat.le_of_ble_eq_true rfl) (Nat.le_of_ble_eq_true rfl) ?_
  refine W.eq (g2 := F0 m 4 ls []) rfl ?_
  refine lv_aload_n hx hb dX1_init_4 rfl (lv_at hl 0 rfl) ?_
  refine lv_iconst (v := 1) hx hb dX1_init_5 (by decide) ?_
  refine va_put (D := (dC, dI)) (ci := 1) (v := .int 1) (ty := tyX1 0) (C := RX1) (T := TX1) (N := 3) hx hb htw inlX1 tyX1 tyX1_ok nmX1 hown hK hP hD hS 0 rfl rfl 0 (by decide) (htw _ (ck_7 _ (List.mem_of_getElem? (i := 14) rfl))) (fun _ h9 => h9) rfl (tyX1_ok 0 (by decide)) rfl rfl (Nat.le_of_ble_eq_true rfl) dX1_init_6 (fun H locs hP hD hS => ?_)
  obtain ⟨hP, hD⟩ := zre [(eO1a o 1 0 0)] hP hD rfl
  refine W.widen (k := 0) (n := 0) (by omega) (by omega) ?_
  have hP9 := hP
  have hD9 := hD
  have hK9 := hK.sub (tys' := []) [] rfl
  exact W.vret hx hb hr (fun t ht hW => ⟨⟨(), rfl, trivial, by rw [ht]; exact hP9, va_K.moved hW.alike hK9, hD9⟩, hS.F ht⟩) hS.2.2 dX1_init_9

theorem dX2_init_0 : decode cX2_init 0 = .ok (.aload_n 0, 1) := zk_42 (by decide +kernel)
theorem dX2_init_1 : decode cX2_init 1 = .ok (.invokespecial 3, 3) := zk_183 (by decide +kernel)
theorem dX2_init_4 : decode cX2_init 4 = .ok (.aload_n 0, 1) := zk_42 (by decide +kernel)
theorem dX2_init_5 : decode cX2_init 5 = .ok (.bipush 20, 2) := zk_16 (by decide +kernel)
theorem dX2_init_7 : decode cX2_init 7 = .ok (.newarray .int, 2) := by decide +kernel
theorem dX2_init_9 : decode cX2_init 9 = .ok (.putfield 9, 3) := zk_181 (by decide +kernel)
theorem dX2_init_12 : decode cX2_init 12 = .ok (.aload_n 0, 1) := zk_42 (by decide +kernel)
theorem dX2_init_13 : decode cX2_init 13 = .ok (.bipush 20, 2) := zk_16 (by decide +kernel)
theorem dX2_init_15 : decode cX2_init 15 = .ok (.newarray .int, 2) := by decide +kernel
theorem dX2_init_17 : decode cX2_init 17 = .ok (.putfield 15, 3) := zk_181 (by decide +kernel)
theorem dX2_init_20 : decode cX2_init 20 = .ok (.return_, 1) := zk_177 (by decide +kernel)
set_option maxHeartbeats 4000000 in
set_option maxRecDepth 100000 in
theorem mc_ledger (l : Launch) (dC : Nat → ClassId) (dI : Nat → Nat → Nat) (o : Nat) (sz : Nat) : Met l yX2_init (Cond.code yX2_init cX2_init 1 none :: wsL_law) ({ frames := 1, cells := 2, slots := 40, locals := 12 }) (va_Pc [.ref o] (fun U => U.heap.size = sz ∧ va_P (dC, dI) vwCl [(eO2b o 0)] U.heap ∧ va_K (dC, dI) vwCl [] U ∧ va_D (fun _ => True) [(eO2b o 0)])) (va_Qv (fun (u : (Nat) × (Nat) × (ClassId) × (ClassId)) => True) (fun (u : (Nat) × (Nat) × (ClassId) × (ClassId)) t => va_P (dC, dI) vwCl [(eO2a o 0 u.1 u.2.1), (u.1, .inl (u.2.2.1, 20, .inl (fun _ => 0))), (u.2.1, .inl (u.2.2.2, 20, .inl (fun _ => 0)))] t.heap ∧ va_K (dC, dI) vwCl [(u.2.2.1, .int), (u.2.2.2, .int)] t ∧ va_D (va_A [(eO2b o 0)] sz) [(eO2a o 0 u.1 u.2.1), (u.1, .inl (u.2.2.1, 20, .inl (fun _ => 0))), (u.2.1, .inl (u.2.2.2, 20, .inl (fun _ => 0)))]) (va_A [(eO2b o 0)] sz)) 2 40 (va_A [(eO2b o 0)] sz) := by
  refine Met.ofW (cc := cX2_init) (maxL := 1) (ret := none) (by decide) rfl ?_
  intro p e s m args below meth c s₁ B hml hv
  obtain ⟨rfl, hsz, hP, hK, hD0⟩ := hv
  have hx := B.exec
  have hb := B.bytes
  have hr := B.returns
  have hts := atoms_spec (ws := Cond.code yX2_init cX2_init 1 none :: wsL_law) B.pre
  have htw : ∀ w ∈ wsL_law, w.before _ s = true := fun w h => hts w (List.mem_cons_of_mem _ h)
  have hown : s.vm.findClass RX2 = some m.cls := findClass_of_methodNamed B.named
  have hlocks := B.notSynchronized
  have hin : meth.name = "<init>" := (name_of_methodNamed B.named B.method).1
  subst hsz
  have hD := hD0.self (sz := s.heap.size)
  generalize hAe : va_A [(eO2b o 0)] s.heap.size = A at hD ⊢
  have hA : ∀ q : Nat, s.heap.size ≤ q → A q := fun q h => by rw [← hAe]; exact Or.inr h
  obtain ⟨H, rH⟩ : ∃ z : Heap, z = s.heap := ⟨_, rfl⟩
  have hS : va_S A s.heap H [] := by rw [rH]; exact va_S.rf
  have hP : va_P (dC, dI) vwCl [(eO2b o 0)] H := by rw [rH]; exact hP
  rw [← rH]
  have hl := lv_entry ([.ref o]) (n := 1) (Nat.le_of_ble_eq_true rfl)
  rw [lg_entry_eq]
  generalize (lg_sl ([.ref o]) ++ List.replicate (1 - (lg_sl ([.ref o])).length) Slot.unset).toArray = ls at hl ⊢
  have hl : lv_has ls 1 [(0, .ref o)] := hl
  refine lv_aload_n hx hb dX2_init_0 rfl (lv_at hl 0 rfl) ?_
  refine W.objInit hx hb hown (htw _ (ck_8 _ (List.mem_of_getElem? (i := 21) rfl))) (htw _ (ck_1 _ (List.mem_of_getElem? (i := 12) rfl))) (htw _ (ck_1 _ (List.mem_of_getElem? (i := 13) rfl))) rfl (by rw [hml]; exact hl.1) rfl dX2_init_1 (Nat.le_of_ble_eq_true rfl) (Nat.le_of_ble_eq_true rfl) ?_
  refine W.eq (g2 := F0 m 4 ls []) rfl ?_
  refine lv_aload_n hx hb dX2_init_4 rfl (lv_at hl 0 rfl) ?_
  refine lv_bipush (v := 20) hx hb dX2_init_5 (by decide) ?_
  refine va_newa (ty := .int) (a0 := (20, .inl (fun _ => 0))) hx hb (htw _ (ck_2 _ (List.mem_of_getElem? (i := 7) rfl))) rfl hK hP hD hS hA (fun _ => rfl) (by decide) (by decide) (by decide) (Nat.le_of_ble_eq_true rfl) (Nat.le_of_ble_eq_true rfl) dX2_init_7 (fun q_1 cA_2 H hK hP hD hS => ?_)
  have hK : va_K (dC, dI) vwCl [(cA_2, .int)] s := hK
  obtain ⟨hP, hD⟩ := zre [(eO2b o 0), (eA0 q_1 cA_2 20 (fun _ => 0))] hP hD rfl
  refine W.widen (k := 1) (n := 20) (by omega) (by omega) ?_
  refine va_putF (D := (dC, dI)) (ci := 2) (v := .ref q_1) (ty := tyX2 1) (C := RX2) (T := TX2) (N := 3) hx hb htw inlX2 tyX2 tyX2_ok nmX2 hown hK hP hD hS 0 rfl rfl 1 (by decide) (htw _ (ck_8 _ (List.mem_of_getElem? (i := 22) rfl))) (fun _ h9 => h9) rfl hin rfl (tyX2_ok 1 (by decide)) rfl rfl (Nat.le_of_ble_eq_true rfl) dX2_init_9 (fun H locs hP hD hS => ?_)
  obtain ⟨hP, hD⟩ := zre [(o, .inr (2, [.int 0, .ref q_1, .null])), (eA0 q_1 cA_2 20 (fun _ => 0))] hP hD rfl
  refine lv_aload_n hx hb dX2_init_12 rfl (lv_at hl 0 rfl) ?_
  refine lv_bipush (v := 20) hx hb dX2_init_13 (by decide) ?_
  refine va_newa (ty := .int) (a0 := (20, .inl (fun _ => 0))) hx hb (htw _ (ck_2 _ (List.mem_of_getElem? (i := 7) rfl))) rfl hK hP hD hS hA (fun _ => rfl) (by decide) (by decide) (by decide) (Nat.le_of_ble_eq_true rfl) (Nat.le_of_ble_eq_true rfl) dX2_init_15 (fun q_3 cA_4 H hK hP hD hS => ?_)
  have hK : va_K (dC, dI) vwCl [(cA_2, .int), (cA_4, .int)] s := hK
  obtain ⟨hP, hD⟩ := zre [(o, .inr (2, [.int 0, .ref q_1, .null])), (eA0 q_1 cA_2 20 (fun _ => 0)), (eA0 q_3 cA_4 20 (fun _ => 0))] hP hD rfl
  refine W.widen (k := 2) (n := 40) (by omega) (by omega) ?_
  refine va_putF (D := (dC, dI)) (ci := 2) (v := .ref q_3) (ty := tyX2 2) (C := RX2) (T := TX2) (N := 3) hx hb htw inlX2 tyX2 tyX2_ok nmX2 hown hK hP hD hS 0 rfl rfl 2 (by decide) (htw _ (ck_8 _ (List.mem_of_getElem? (i := 23) rfl))) (fun _ h9 => h9) rfl hin rfl (tyX2_ok 2 (by decide)) rfl rfl (Nat.le_of_ble_eq_true rfl) dX2_init_17 (fun H locs hP hD hS => ?_)
  obtain ⟨hP, hD⟩ := zre [(eO2a o 0 q_1 q_3), (eA0 q_1 cA_2 20 (fun _ => 0)), (eA0 q_3 cA_4 20 (fun _ => 0))] hP hD rfl
  refine W.widen (k := 2) (n := 40) (by omega) (by omega) ?_
  have hP9 := hP
  have hD9 := hD
  have hK9 := hK.sub (tys' := [(cA_2, .int), (cA_4, .int)]) [0, 1] rfl
  exact W.vret hx hb hr (fun t ht hW => ⟨⟨(q_1, q_3, cA_2, cA_4), rfl, trivial, by rw [ht]; exact hP9, va_K.moved hW.alike hK9, hD9⟩, hS.F ht⟩) hS.2.2 dX2_init_20

theorem dX4_init_0 : decode cX4_init 0 = .ok (.aload_n 0, 1) := zk_42 (by decide +kernel)
theorem dX4_init_1 : decode cX4_init 1 = .ok (.invokespecial 1, 3) := zk_183 (by decide +kernel)
theorem dX4_init_4 : decode cX4_init 4 = .ok (.return_, 1) := zk_177 (by decide +kernel)
set_option maxHeartbeats 4000000 in
set_option maxRecDepth 100000 in
theorem mc_moment (l : Launch) (dC : Nat → ClassId) (dI : Nat → Nat → Nat) (o : Nat) (sz : Nat) : Met l yX4_init (Cond.code yX4_init cX4_init 1 none :: wsL_law) ({ frames := 1, cells := 0, slots := 0, locals := 12 }) (va_Pc [.ref o] (fun U => U.heap.size = sz ∧ va_P (dC, dI) vwCl [(eO4a o 0 0 0 0)] U.heap ∧ va_K (dC, dI) vwCl [] U ∧ va_D (fun _ => True) [(eO4a o 0 0 0 0)])) (va_Qv (fun (u : Unit) => True) (fun (u : Unit) t => va_P (dC, dI) vwCl [(eO4a o 0 0 0 0)] t.heap ∧ va_K (dC, dI) vwCl [] t ∧ va_D (va_A [(eO4a o 0 0 0 0)] sz) [(eO4a o 0 0 0 0)]) (va_A [(eO4a o 0 0 0 0)] sz)) 0 0 (va_A [(eO4a o 0 0 0 0)] sz) := by
  refine Met.ofW (cc := cX4_init) (maxL := 1) (ret := none) (by decide) rfl ?_
  intro p e s m args below meth c s₁ B hml hv
  obtain ⟨rfl, hsz, hP, hK, hD0⟩ := hv
  have hx := B.exec
  have hb := B.bytes
  have hr := B.returns
  have hts := atoms_spec (ws := Cond.code yX4_init cX4_init 1 none :: wsL_law) B.pre
  have htw : ∀ w ∈ wsL_law, w.before _ s = true := fun w h => hts w (List.mem_cons_of_mem _ h)
  have hown : s.vm.findClass RX4 = some m.cls := findClass_of_methodNamed B.named
  have hlocks := B.notSynchronized
  have hin : meth.name = "<init>" := (name_of_methodNamed B.named B.method).1
  subst hsz
  have hD := hD0.self (sz := s.heap.size)
  generalize hAe : va_A [(eO4a o 0 0 0 0)] s.heap.size = A at hD ⊢
  have hA : ∀ q : Nat, s.heap.size ≤ q → A q := fun q h => by rw [← hAe]; exact Or.inr h
  obtain ⟨H, rH⟩ : ∃ z : Heap, z = s.heap := ⟨_, rfl⟩
  have hS : va_S A s.heap H [] := by rw [rH]; exact va_S.rf
  have hP : va_P (dC, dI) vwCl [(eO4a o 0 0 0 0)] H := by rw [rH]; exact hP
  rw [← rH]
  have hl := lv_entry ([.ref o]) (n := 1) (Nat.le_of_ble_eq_true rfl)
  rw [lg_entry_eq]
  generalize (lg_sl ([.ref o]) ++ List.replicate (1 - (lg_sl ([.ref o])).length) Slot.unset).toArray = ls at hl ⊢
  have hl : lv_has ls 1 [(0, .ref o)] := hl
  refine lv_aload_n hx hb dX4_init_0 rfl (lv_at hl 0 rfl) ?_
  refine W.objInit hx hb hown (htw _ (ck_8 _ (List.mem_of_getElem? (i := 15) rfl))) (htw _ (ck_1 _ (List.mem_of_getElem? (i := 12) rfl))) (htw _ (ck_1 _ (List.mem_of_getElem? (i := 13) rfl))) rfl (by rw [hml]; exact hl.1) rfl dX4_init_1 (Nat.le_of_ble_eq_true rfl) (Nat.le_of_ble_eq_true rfl) ?_
  refine W.eq (g2 := F0 m 4 ls []) rfl ?_
  refine W.widen (k := 0) (n := 0) (by omega) (by omega) ?_
  have hP9 := hP
  have hD9 := hD
  have hK9 := hK.sub (tys' := []) [] rfl
  exact W.vret hx hb hr (fun t ht hW => ⟨⟨(), rfl, trivial, by rw [ht]; exact hP9, va_K.moved hW.alike hK9, hD9⟩, hS.F ht⟩) hS.2.2 dX4_init_4

theorem dX10_init_0 : decode cX10_init 0 = .ok (.aload_n 0, 1) := zk_42 (by decide +kernel)
theorem dX10_init_1 : decode cX10_init 1 = .ok (.invokespecial 3, 3) := zk_183 (by decide +kernel)
theorem dX10_init_4 : decode cX10_init 4 = .ok (.return_, 1) := zk_177 (by decide +kernel)
set_option maxHeartbeats 4000000 in
set_option maxRecDepth 100000 in
theorem mc_wish (l : Launch) (dC : Nat → ClassId) (dI : Nat → Nat → Nat) (o : Nat) (sz : Nat) : Met l yX10_init (Cond.code yX10_init cX10_init 1 none :: wsL_law) ({ frames := 1, cells := 0, slots := 0, locals := 12 }) (va_Pc [.ref o] (fun U => U.heap.size = sz ∧ va_P (dC, dI) vwCl [(eO10a o 0 0 0 0 0)] U.heap ∧ va_K (dC, dI) vwCl [] U ∧ va_D (fun _ => True) [(eO10a o 0 0 0 0 0)])) (va_Qv (fun (u : Unit) => True) (fun (u : Unit) t => va_P (dC, dI) vwCl [(eO10a o 0 0 0 0 0)] t.heap ∧ va_K (dC, dI) vwCl [] t ∧ va_D (va_A [(eO10a o 0 0 0 0 0)] sz) [(eO10a o 0 0 0 0 0)]) (va_A [(eO10a o 0 0 0 0 0)] sz)) 0 0 (va_A [(eO10a o 0 0 0 0 0)] sz) := by
  refine Met.ofW (cc := cX10_init) (maxL := 1) (ret := none) (by decide) rfl ?_
  intro p e s m args below meth c s₁ B hml hv
  obtain ⟨rfl, hsz, hP, hK, hD0⟩ := hv
  have hx := B.exec
  have hb := B.bytes
  have hr := B.returns
  have hts := atoms_spec (ws := Cond.code yX10_init cX10_init 1 none :: wsL_law) B.pre
  have htw : ∀ w ∈ wsL_law, w.before _ s = true := fun w h => hts w (List.mem_cons_of_mem _ h)
  have hown : s.vm.findClass RX10 = some m.cls := findClass_of_methodNamed B.named
  have hlocks := B.notSynchronized
  have hin : meth.name = "<init>" := (name_of_methodNamed B.named B.method).1
  subst hsz
  have hD := hD0.self (sz := s.heap.size)
  generalize hAe : va_A [(eO10a o 0 0 0 0 0)] s.heap.size = A at hD ⊢
  have hA : ∀ q : Nat, s.heap.size ≤ q → A q := fun q h => by rw [← hAe]; exact Or.inr h
  obtain ⟨H, rH⟩ : ∃ z : Heap, z = s.heap := ⟨_, rfl⟩
  have hS : va_S A s.heap H [] := by rw [rH]; exact va_S.rf
  have hP : va_P (dC, dI) vwCl [(eO10a o 0 0 0 0 0)] H := by rw [rH]; exact hP
  rw [← rH]
  have hl := lv_entry ([.ref o]) (n := 1) (Nat.le_of_ble_eq_true rfl)
  rw [lg_entry_eq]
  generalize (lg_sl ([.ref o]) ++ List.replicate (1 - (lg_sl ([.ref o])).length) Slot.unset).toArray = ls at hl ⊢
  have hl : lv_has ls 1 [(0, .ref o)] := hl
  refine lv_aload_n hx hb dX10_init_0 rfl (lv_at hl 0 rfl) ?_
  refine W.objInit hx hb hown (htw _ (ck_8 _ (List.mem_of_getElem? (i := 18) rfl))) (htw _ (ck_1 _ (List.mem_of_getElem? (i := 12) rfl))) (htw _ (ck_1 _ (List.mem_of_getElem? (i := 13) rfl))) rfl (by rw [hml]; exact hl.1) rfl dX10_init_1 (Nat.le_of_ble_eq_true rfl) (Nat.le_of_ble_eq_true rfl) ?_
  refine W.eq (g2 := F0 m 4 ls []) rfl ?_
  refine W.widen (k := 0) (n := 0) (by omega) (by omega) ?_
  have hP9 := hP
  have hD9 := hD
  have hK9 := hK.sub (tys' := []) [] rfl
  exact W.vret hx hb hr (fun t ht hW => ⟨⟨(), rfl, trivial, by rw [ht]; exact hP9, va_K.moved hW.alike hK9, hD9⟩, hS.F ht⟩) hS.2.2 dX10_init_4

theorem dX9_init_0 : decode cX9_init 0 = .ok (.aload_n 0, 1) := zk_42 (by decide +kernel)
theorem dX9_init_1 : decode cX9_init 1 = .ok (.invokespecial 1, 3) := zk_183 (by decide +kernel)
theorem dX9_init_4 : decode cX9_init 4 = .ok (.return_, 1) := zk_177 (by decide +kernel)
set_option maxHeartbeats 4000000 in
set_option maxRecDepth 100000 in
theorem mc_sky (l : Launch) (dC : Nat → ClassId) (dI : Nat → Nat → Nat) (o : Nat) (sz : Nat) : Met l yX9_init (Cond.code yX9_init cX9_init 1 none :: wsL_law) ({ frames := 1, cells := 0, slots := 0, locals := 12 }) (va_Pc [.ref o] (fun U => U.heap.size = sz ∧ va_P (dC, dI) vwCl [(eO9a o 0 0 0 0 0 0 0)] U.heap ∧ va_K (dC, dI) vwCl [] U ∧ va_D (fun _ => True) [(eO9a o 0 0 0 0 0 0 0)])) (va_Qv (fun (u : Unit) => True) (fun (u : Unit) t => va_P (dC, dI) vwCl [(eO9a o 0 0 0 0 0 0 0)] t.heap ∧ va_K (dC, dI) vwCl [] t ∧ va_D (va_A [(eO9a o 0 0 0 0 0 0 0)] sz) [(eO9a o 0 0 0 0 0 0 0)]) (va_A [(eO9a o 0 0 0 0 0 0 0)] sz)) 0 0 (va_A [(eO9a o 0 0 0 0 0 0 0)] sz) := by
  refine Met.ofW (cc := cX9_init) (maxL := 1) (ret := none) (by decide) rfl ?_
  intro p e s m args below meth c s₁ B hml hv
  obtain ⟨rfl, hsz, hP, hK, hD0⟩ := hv
  have hx := B.exec
  have hb := B.bytes
  have hr := B.returns
  have hts := atoms_spec (ws := Cond.code yX9_init cX9_init 1 none :: wsL_law) B.pre
  have htw : ∀ w ∈ wsL_law, w.before _ s = true := fun w h => hts w (List.mem_cons_of_mem _ h)
  have hown : s.vm.findClass RX9 = some m.cls := findClass_of_methodNamed B.named
  have hlocks := B.notSynchronized
  have hin : meth.name = "<init>" := (name_of_methodNamed B.named B.method).1
  subst hsz
  have hD := hD0.self (sz := s.heap.size)
  generalize hAe : va_A [(eO9a o 0 0 0 0 0 0 0)] s.heap.size = A at hD ⊢
  have hA : ∀ q : Nat, s.heap.size ≤ q → A q := fun q h => by rw [← hAe]; exact Or.inr h
  obtain ⟨H, rH⟩ : ∃ z : Heap, z = s.heap := ⟨_, rfl⟩
  have hS : va_S A s.heap H [] := by rw [rH]; exact va_S.rf
  have hP : va_P (dC, dI) vwCl [(eO9a o 0 0 0 0 0 0 0)] H := by rw [rH]; exact hP
  rw [← rH]
  have hl := lv_entry ([.ref o]) (n := 1) (Nat.le_of_ble_eq_true rfl)
  rw [lg_entry_eq]
  generalize (lg_sl ([.ref o]) ++ List.replicate (1 - (lg_sl ([.ref o])).length) Slot.unset).toArray = ls at hl ⊢
  have hl : lv_has ls 1 [(0, .ref o)] := hl
  refine lv_aload_n hx hb dX9_init_0 rfl (lv_at hl 0 rfl) ?_
  refine W.objInit hx hb hown (htw _ (ck_6 _ (List.mem_of_getElem? (i := 22) rfl))) (htw _ (ck_1 _ (List.mem_of_getElem? (i := 12) rfl))) (htw _ (ck_1 _ (List.mem_of_getElem? (i := 13) rfl))) rfl (by rw [hml]; exact hl.1) rfl dX9_init_1 (Nat.le_of_ble_eq_true rfl) (Nat.le_of_ble_eq_true rfl) ?_
  refine W.eq (g2 := F0 m 4 ls []) rfl ?_
  refine W.widen (k := 0) (n := 0) (by omega) (by omega) ?_
  have hP9 := hP
  have hD9 := hD
  have hK9 := hK.sub (tys' := []) [] rfl
  exact W.vret hx hb hr (fun t ht hW => ⟨⟨(), rfl, trivial, by rw [ht]; exact hP9, va_K.moved hW.alike hK9, hD9⟩, hS.F ht⟩) hS.2.2 dX9_init_4

set_option maxHeartbeats 4000000 in
set_option maxRecDepth 100000 in
theorem mc_skyclear (l : Launch) (dC : Nat → ClassId) (dI : Nat → Nat → Nat) (o : Nat) (o0 : Int32) (o1 : Int32) (o2 : Int32) (o3 : Int32) (o4 : Int32) (o5 : Int32) (o6 : Int32) (sz : Nat) : Met l yX9_clear (Cond.code yX9_clear cX9_clear 1 none :: wsL_law) ({ frames := 0, cells := 0, slots := 0, locals := 0 }) (va_Pc [.ref o] (fun U => U.heap.size = sz ∧ va_P (dC, dI) vwCl [(eO9a o o0 o1 o2 o3 o4 o5 o6)] U.heap ∧ va_K (dC, dI) vwCl [] U ∧ va_D (fun _ => True) [(eO9a o o0 o1 o2 o3 o4 o5 o6)])) (va_Qv (fun (u : Unit) => True) (fun (u : Unit) t => va_P (dC, dI) vwCl [(eO9a o 7 0 59 2 0 1461 4)] t.heap ∧ va_K (dC, dI) vwCl [] t ∧ va_D (va_A [(eO9a o o0 o1 o2 o3 o4 o5 o6)] sz) [(eO9a o 7 0 59 2 0 1461 4)]) (va_A [(eO9a o o0 o1 o2 o3 o4 o5 o6)] sz)) 0 0 (va_A [(eO9a o o0 o1 o2 o3 o4 o5 o6)] sz) := by
  refine Met.ofW (cc := cX9_clear) (maxL := 1) (ret := none) (by decide) rfl ?_
  intro p e s m args below meth c s₁ B hml hv
  obtain ⟨rfl, hsz, hP, hK, hD0⟩ := hv
  have hx := B.exec
  have hb := B.bytes
  have hr := B.returns
  have hts := atoms_spec (ws := Cond.code yX9_clear cX9_clear 1 none :: wsL_law) B.pre
  have htw : ∀ w ∈ wsL_law, w.before _ s = true := fun w h => hts w (List.mem_cons_of_mem _ h)
  have hown : s.vm.findClass RX9 = some m.cls := findClass_of_methodNamed B.named
  have hlocks := B.notSynchronized
  subst hsz
  have hD := hD0.self (sz := s.heap.size)
  generalize hAe : va_A [(eO9a o o0 o1 o2 o3 o4 o5 o6)] s.heap.size = A at hD ⊢
  have hA : ∀ q : Nat, s.heap.size ≤ q → A q := fun q h => by rw [← hAe]; exact Or.inr h
  obtain ⟨H, rH⟩ : ∃ z : Heap, z = s.heap := ⟨_, rfl⟩
  have hS : va_S A s.heap H [] := by rw [rH]; exact va_S.rf
  have hP : va_P (dC, dI) vwCl [(eO9a o o0 o1 o2 o3 o4 o5 o6)] H := by rw [rH]; exact hP
  rw [← rH]
  have hl := lv_entry ([.ref o]) (n := 1) (Nat.le_of_ble_eq_true rfl)
  rw [lg_entry_eq]
  generalize (lg_sl ([.ref o]) ++ List.replicate (1 - (lg_sl ([.ref o])).length) Slot.unset).toArray = ls at hl ⊢
  have hl : lv_has ls 1 [(0, .ref o)] := hl
  refine lv_aload_n hx hb dX9_clear_0 rfl (lv_at hl 0 rfl) ?_
  refine lv_bipush (v := 7) hx hb dX9_clear_1 (by decide) ?_
  refine va_put (D := (dC, dI)) (ci := 9) (v := .int 7) (ty := tyX9 0) (C := RX9) (T := TX9) (N := 7) hx hb htw inlX9 tyX9 tyX9_ok nmX9 hown hK hP hD hS 0 rfl rfl 0 (by decide) (htw _ (ck_7 _ (List.mem_of_getElem? (i := 19) rfl))) (fun _ h9 => h9) rfl (tyX9_ok 0 (by decide)) rfl rfl (Nat.le_of_ble_eq_true rfl) dX9_clear_3 (fun H locs hP hD hS => ?_)
  obtain ⟨hP, hD⟩ := zre [(eO9a o 7 o1 o2 o3 o4 o5 o6)] hP hD rfl
  refine lv_aload_n hx hb dX9_clear_6 rfl (lv_at hl 0 rfl) ?_
  refine lv_iconst (v := 0) hx hb dX9_clear_7 (by decide) ?_
  refine va_put (D := (dC, dI)) (ci := 9) (v := .int 0) (ty := tyX9 1) (C := RX9) (T := TX9) (N := 7) hx hb htw inlX9 tyX9 tyX9_ok nmX9 hown hK hP hD hS 0 rfl rfl 1 (by decide) (htw _ (ck_7 _ (List.mem_of_getElem? (i := 20) rfl))) (fun _ h9 => h9) rfl (tyX9_ok 1 (by decide)) rfl rfl (Nat.le_of_ble_eq_true rfl) dX9_clear_8 (fun H locs hP hD hS => ?_)
  obtain ⟨hP, hD⟩ := zre [(eO9a o 7 0 o2 o3 o4 o5 o6)] hP hD rfl
  refine lv_aload_n hx hb dX9_clear_11 rfl (lv_at hl 0 rfl) ?_
  refine lv_bipush (v := 59) hx hb dX9_clear_12 (by decide) ?_
  refine va_put (D := (dC, dI)) (ci := 9) (v := .int 59) (ty := tyX9 2) (C := RX9) (T := TX9) (N := 7) hx hb htw inlX9 tyX9 tyX9_ok nmX9 hown hK hP hD hS 0 rfl rfl 2 (by decide) (htw _ (ck_7 _ (List.mem_of_getElem? (i := 21) rfl))) (fun _ h9 => h9) rfl (tyX9_ok 2 (by decide)) rfl rfl (Nat.le_of_ble_eq_true rfl) dX9_clear_14 (fun H locs hP hD hS => ?_)
  obtain ⟨hP, hD⟩ := zre [(eO9a o 7 0 59 o3 o4 o5 o6)] hP hD rfl
  refine lv_aload_n hx hb dX9_clear_17 rfl (lv_at hl 0 rfl) ?_
  refine lv_iconst (v := 2) hx hb dX9_clear_18 (by decide) ?_
  refine va_put (D := (dC, dI)) (ci := 9) (v := .int 2) (ty := tyX9 3) (C := RX9) (T := TX9) (N := 7) hx hb htw inlX9 tyX9 tyX9_ok nmX9 hown hK hP hD hS 0 rfl rfl 3 (by decide) (htw _ (ck_7 _ (List.mem_of_getElem? (i := 22) rfl))) (fun _ h9 => h9) rfl (tyX9_ok 3 (by decide)) rfl rfl (Nat.le_of_ble_eq_true rfl) dX9_clear_19 (fun H locs hP hD hS => ?_)
  obtain ⟨hP, hD⟩ := zre [(eO9a o 7 0 59 2 o4 o5 o6)] hP hD rfl
  refine lv_aload_n hx hb dX9_clear_22 rfl (lv_at hl 0 rfl) ?_
  refine lv_iconst (v := 0) hx hb dX9_clear_23 (by decide) ?_
  refine va_put (D := (dC, dI)) (ci := 9) (v := .int 0) (ty := tyX9 4) (C := RX9) (T := TX9) (N := 7) hx hb htw inlX9 tyX9 tyX9_ok nmX9 hown hK hP hD hS 0 rfl rfl 4 (by decide) (htw _ (ck_7 _ (List.mem_of_getElem? (i := 23) rfl))) (fun _ h9 => h9) rfl (tyX9_ok 4 (by decide)) rfl rfl (Nat.le_of_ble_eq_true rfl) dX9_clear_24 (fun H locs hP hD hS => ?_)
  obtain ⟨hP, hD⟩ := zre [(eO9a o 7 0 59 2 0 o5 o6)] hP hD rfl
  refine lv_aload_n hx hb dX9_clear_27 rfl (lv_at hl 0 rfl) ?_
  refine lv_sipush (v := 1461) hx hb dX9_clear_28 (by decide) ?_
  refine va_put (D := (dC, dI)) (ci := 9) (v := .int 1461) (ty := tyX9 5) (C := RX9) (T := TX9) (N := 7) hx hb htw inlX9 tyX9 tyX9_ok nmX9 hown hK hP hD hS 0 rfl rfl 5 (by decide) (htw _ (ck_8 _ (List.mem_of_getElem? (i := 0) rfl))) (fun _ h9 => h9) rfl (tyX9_ok 5 (by decide)) rfl rfl (Nat.le_of_ble_eq_true rfl) dX9_clear_31 (fun H locs hP hD hS => ?_)
  obtain ⟨hP, hD⟩ := zre [(eO9a o 7 0 59 2 0 1461 o6)] hP hD rfl
  refine lv_aload_n hx hb dX9_clear_34 rfl (lv_at hl 0 rfl) ?_
  refine lv_iconst (v := 4) hx hb dX9_clear_35 (by decide) ?_
  refine va_put (D := (dC, dI)) (ci := 9) (v := .int 4) (ty := tyX9 6) (C := RX9) (T := TX9) (N := 7) hx hb htw inlX9 tyX9 tyX9_ok nmX9 hown hK hP hD hS 0 rfl rfl 6 (by decide) (htw _ (ck_8 _ (List.mem_of_getElem? (i := 1) rfl))) (fun _ h9 => h9) rfl (tyX9_ok 6 (by decide)) rfl rfl (Nat.le_of_ble_eq_true rfl) dX9_clear_36 (fun H locs hP hD hS => ?_)
  obtain ⟨hP, hD⟩ := zre [(eO9a o 7 0 59 2 0 1461 4)] hP hD rfl
  refine W.widen (k := 0) (n := 0) (by omega) (by omega) ?_
  have hP9 := hP
  have hD9 := hD
  have hK9 := hK.sub (tys' := []) [] rfl
  exact W.vret hx hb hr (fun t ht hW => ⟨⟨(), rfl, trivial, by rw [ht]; exact hP9, va_K.moved hW.alike hK9, hD9⟩, hS.F ht⟩) hS.2.2 dX9_clear_39

theorem dX6_init_0 : decode cX6_init 0 = .ok (.aload_n 0, 1) := zk_42 (by decide +kernel)
theorem dX6_init_1 : decode cX6_init 1 = .ok (.invokespecial 3, 3) := zk_183 (by decide +kernel)
theorem dX6_init_4 : decode cX6_init 4 = .ok (.aload_n 0, 1) := zk_42 (by decide +kernel)
theorem dX6_init_5 : decode cX6_init 5 = .ok (.bipush 12, 2) := zk_16 (by decide +kernel)
theorem dX6_init_7 : decode cX6_init 7 = .ok (.newarray .int, 2) := by decide +kernel
theorem dX6_init_9 : decode cX6_init 9 = .ok (.putfield 9, 3) := zk_181 (by decide +kernel)
theorem dX6_init_12 : decode cX6_init 12 = .ok (.aload_n 0, 1) := zk_42 (by decide +kernel)
theorem dX6_init_13 : decode cX6_init 13 = .ok (.bipush 96, 2) := zk_16 (by decide +kernel)
theorem dX6_init_15 : decode cX6_init 15 = .ok (.newarray .int, 2) := by decide +kernel
theorem dX6_init_17 : decode cX6_init 17 = .ok (.putfield 15, 3) := zk_181 (by decide +kernel)
theorem dX6_init_20 : decode cX6_init 20 = .ok (.aload_n 0, 1) := zk_42 (by decide +kernel)
theorem dX6_init_21 : decode cX6_init 21 = .ok (.bipush 96, 2) := zk_16 (by decide +kernel)
theorem dX6_init_23 : decode cX6_init 23 = .ok (.newarray .int, 2) := by decide +kernel
theorem dX6_init_25 : decode cX6_init 25 = .ok (.putfield 18, 3) := zk_181 (by decide +kernel)
theorem dX6_init_28 : decode cX6_init 28 = .ok (.return_, 1) := zk_177 (by decide +kernel)
set_option maxHeartbeats 4000000 in
set_option maxRecDepth 100000 in
theorem mc_notes (l : Launch) (dC : Nat → ClassId) (dI : Nat → Nat → Nat) (o : Nat) (sz : Nat) : Met l yX6_init (Cond.code yX6_init cX6_init 1 none :: wsL_law) ({ frames := 1, cells := 3, slots := 204, locals := 12 }) (va_Pc [.ref o] (fun U => U.heap.size = sz ∧ va_P (dC, dI) vwCl [(eO6b o 0)] U.heap ∧ va_K (dC, dI) vwCl [] U ∧ va_D (fun _ => True) [(eO6b o 0)])) (va_Qv (fun (u : (Nat) × (Nat) × (Nat) × (ClassId) × (ClassId) × (ClassId)) => True) (fun (u : (Nat) × (Nat) × (Nat) × (ClassId) × (ClassId) × (ClassId)) t => va_P (dC, dI) vwCl [(eO6a o 0 u.1 u.2.1 u.2.2.1), (u.1, .inl (u.2.2.2.1, 12, .inl (fun _ => 0))), (u.2.1, .inl (u.2.2.2.2.1, 96, .inl (fun _ => 0))), (u.2.2.1, .inl (u.2.2.2.2.2, 96, .inl (fun _ => 0)))] t.heap ∧ va_K (dC, dI) vwCl [(u.2.2.2.1, .int), (u.2.2.2.2.1, .int), (u.2.2.2.2.2, .int)] t ∧ va_D (va_A [(eO6b o 0)] sz) [(eO6a o 0 u.1 u.2.1 u.2.2.1), (u.1, .inl (u.2.2.2.1, 12, .inl (fun _ => 0))), (u.2.1, .inl (u.2.2.2.2.1, 96, .inl (fun _ => 0))), (u.2.2.1, .inl (u.2.2.2.2.2, 96, .inl (fun _ => 0)))]) (va_A [(eO6b o 0)] sz)) 3 204 (va_A [(eO6b o 0)] sz) := by
  refine Met.ofW (cc := cX6_init) (maxL := 1) (ret := none) (by decide) rfl ?_
  intro p e s m args below meth c s₁ B hml hv
  obtain ⟨rfl, hsz, hP, hK, hD0⟩ := hv
  have hx := B.exec
  have hb := B.bytes
  have hr := B.returns
  have hts := atoms_spec (ws := Cond.code yX6_init cX6_init 1 none :: wsL_law) B.pre
  have htw : ∀ w ∈ wsL_law, w.before _ s = true := fun w h => hts w (List.mem_cons_of_mem _ h)
  have hown : s.vm.findClass RX6 = some m.cls := findClass_of_methodNamed B.named
  have hlocks := B.notSynchronized
  have hin : meth.name = "<init>" := (name_of_methodNamed B.named B.method).1
  subst hsz
  have hD := hD0.self (sz := s.heap.size)
  generalize hAe : va_A [(eO6b o 0)] s.heap.size = A at hD ⊢
  have hA : ∀ q : Nat, s.heap.size ≤ q → A q := fun q h => by rw [← hAe]; exact Or.inr h
  obtain ⟨H, rH⟩ : ∃ z : Heap, z = s.heap := ⟨_, rfl⟩
  have hS : va_S A s.heap H [] := by rw [rH]; exact va_S.rf
  have hP : va_P (dC, dI) vwCl [(eO6b o 0)] H := by rw [rH]; exact hP
  rw [← rH]
  have hl := lv_entry ([.ref o]) (n := 1) (Nat.le_of_ble_eq_true rfl)
  rw [lg_entry_eq]
  generalize (lg_sl ([.ref o]) ++ List.replicate (1 - (lg_sl ([.ref o])).length) Slot.unset).toArray = ls at hl ⊢
  have hl : lv_has ls 1 [(0, .ref o)] := hl
  refine lv_aload_n hx hb dX6_init_0 rfl (lv_at hl 0 rfl) ?_
  refine W.objInit hx hb hown (htw _ (ck_7 _ (List.mem_of_getElem? (i := 7) rfl))) (htw _ (ck_1 _ (List.mem_of_getElem? (i := 12) rfl))) (htw _ (ck_1 _ (List.mem_of_getElem? (i := 13) rfl))) rfl (by rw [hml]; exact hl.1) rfl dX6_init_1 (Nat.le_of_ble_eq_true rfl) (Nat.le_of_ble_eq_true rfl) ?_
  refine W.eq (g2 := F0 m 4 ls []) rfl ?_
  refine lv_aload_n hx hb dX6_init_4 rfl (lv_at hl 0 rfl) ?_
  refine lv_bipush (v := 12) hx hb dX6_init_5 (by decide) ?_
  refine va_newa (ty := .int) (a0 := (12, .inl (fun _ => 0))) hx hb (htw _ (ck_2 _ (List.mem_of_getElem? (i := 7) rfl))) rfl hK hP hD hS hA (fun _ => rfl) (by decide) (by decide) (by decide) (Nat.le_of_ble_eq_true rfl) (Nat.le_of_ble_eq_true rfl) dX6_init_7 (fun q_1 cA_2 H hK hP hD hS => ?_)
  have hK : va_K (dC, dI) vwCl [(cA_2, .int)] s := hK
  obtain ⟨hP, hD⟩ := zre [(eO6b o 0), (eA0 q_1 cA_2 12 (fun _ => 0))] hP hD rfl
  refine W.widen (k := 1) (n := 12) (by omega) (by omega) ?_
  refine va_putF (D := (dC, dI)) (ci := 6) (v := .ref q_1) (ty := tyX6 1) (C := RX6) (T := TX6) (N := 4) hx hb htw inlX6 tyX6 tyX6_ok nmX6 hown hK hP hD hS 0 rfl rfl 1 (by decide) (htw _ (ck_7 _ (List.mem_of_getElem? (i := 8) rfl))) (fun _ h9 => h9) rfl hin rfl (tyX6_ok 1 (by decide)) rfl rfl (Nat.le_of_ble_eq_true rfl) dX6_init_9 (fun H locs hP hD hS => ?_)
  obtain ⟨hP, hD⟩ := zre [(o, .inr (6, [.int 0, .ref q_1, .null, .null])), (eA0 q_1 cA_2 12 (fun _ => 0))] hP hD rfl
  refine lv_aload_n hx hb dX6_init_12 rfl (lv_at hl 0 rfl) ?_
  refine lv_bipush (v := 96) hx hb dX6_init_13 (by decide) ?_
  refine va_newa (ty := .int) (a0 := (96, .inl (fun _ => 0))) hx hb (htw _ (ck_2 _ (List.mem_of_getElem? (i := 7) rfl))) rfl hK hP hD hS hA (fun _ => rfl) (by decide) (by decide) (by decide) (Nat.le_of_ble_eq_true rfl) (Nat.le_of_ble_eq_true rfl) dX6_init_15 (fun q_3 cA_4 H hK hP hD hS => ?_)
  have hK : va_K (dC, dI) vwCl [(cA_2, .int), (cA_4, .int)] s := hK
  obtain ⟨hP, hD⟩ := zre [(o, .inr (6, [.int 0, .ref q_1, .null, .null])), (eA0 q_1 cA_2 12 (fun _ => 0)), (eA0 q_3 cA_4 96 (fun _ => 0))] hP hD rfl
  refine W.widen (k := 2) (n := 108) (by omega) (by omega) ?_
  refine va_putF (D := (dC, dI)) (ci := 6) (v := .ref q_3) (ty := tyX6 2) (C := RX6) (T := TX6) (N := 4) hx hb htw inlX6 tyX6 tyX6_ok nmX6 hown hK hP hD hS 0 rfl rfl 2 (by decide) (htw _ (ck_7 _ (List.mem_of_getElem? (i := 9) rfl))) (fun _ h9 => h9) rfl hin rfl (tyX6_ok 2 (by decide)) rfl rfl (Nat.le_of_ble_eq_true rfl) dX6_init_17 (fun H locs hP hD hS => ?_)
  obtain ⟨hP, hD⟩ := zre [(o, .inr (6, [.int 0, .ref q_1, .ref q_3, .null])), (eA0 q_1 cA_2 12 (fun _ => 0)), (eA0 q_3 cA_4 96 (fun _ => 0))] hP hD rfl
  refine lv_aload_n hx hb dX6_init_20 rfl (lv_at hl 0 rfl) ?_
  refine lv_bipush (v := 96) hx hb dX6_init_21 (by decide) ?_
  refine va_newa (ty := .int) (a0 := (96, .inl (fun _ => 0))) hx hb (htw _ (ck_2 _ (List.mem_of_getElem? (i := 7) rfl))) rfl hK hP hD hS hA (fun _ => rfl) (by decide) (by decide) (by decide) (Nat.le_of_ble_eq_true rfl) (Nat.le_of_ble_eq_true rfl) dX6_init_23 (fun q_5 cA_6 H hK hP hD hS => ?_)
  have hK : va_K (dC, dI) vwCl [(cA_2, .int), (cA_4, .int), (cA_6, .int)] s := hK
  obtain ⟨hP, hD⟩ := zre [(o, .inr (6, [.int 0, .ref q_1, .ref q_3, .null])), (eA0 q_1 cA_2 12 (fun _ => 0)), (eA0 q_3 cA_4 96 (fun _ => 0)), (eA0 q_5 cA_6 96 (fun _ => 0))] hP hD rfl
  refine W.widen (k := 3) (n := 204) (by omega) (by omega) ?_
  refine va_putF (D := (dC, dI)) (ci := 6) (v := .ref q_5) (ty := tyX6 3) (C := RX6) (T := TX6) (N := 4) hx hb htw inlX6 tyX6 tyX6_ok nmX6 hown hK hP hD hS 0 rfl rfl 3 (by decide) (htw _ (ck_7 _ (List.mem_of_getElem? (i := 10) rfl))) (fun _ h9 => h9) rfl hin rfl (tyX6_ok 3 (by decide)) rfl rfl (Nat.le_of_ble_eq_true rfl) dX6_init_25 (fun H locs hP hD hS => ?_)
  obtain ⟨hP, hD⟩ := zre [(eO6a o 0 q_1 q_3 q_5), (eA0 q_1 cA_2 12 (fun _ => 0)), (eA0 q_3 cA_4 96 (fun _ => 0)), (eA0 q_5 cA_6 96 (fun _ => 0))] hP hD rfl
  refine W.widen (k := 3) (n := 204) (by omega) (by omega) ?_
  have hP9 := hP
  have hD9 := hD
  have hK9 := hK.sub (tys' := [(cA_2, .int), (cA_4, .int), (cA_6, .int)]) [0, 1, 2] rfl
  exact W.vret hx hb hr (fun t ht hW => ⟨⟨(q_1, q_3, q_5, cA_2, cA_4, cA_6), rfl, trivial, by rw [ht]; exact hP9, va_K.moved hW.alike hK9, hD9⟩, hS.F ht⟩) hS.2.2 dX6_init_28

theorem dX8_init_0 : decode cX8_init 0 = .ok (.aload_n 0, 1) := zk_42 (by decide +kernel)
theorem dX8_init_1 : decode cX8_init 1 = .ok (.invokespecial 5, 3) := zk_183 (by decide +kernel)
theorem dX8_init_4 : decode cX8_init 4 = .ok (.aload_n 0, 1) := zk_42 (by decide +kernel)
theorem dX8_init_5 : decode cX8_init 5 = .ok (.bipush 64, 2) := zk_16 (by decide +kernel)
theorem dX8_init_7 : decode cX8_init 7 = .ok (.newarray .int, 2) := by decide +kernel
theorem dX8_init_9 : decode cX8_init 9 = .ok (.putfield 13, 3) := zk_181 (by decide +kernel)
theorem dX8_init_12 : decode cX8_init 12 = .ok (.aload_n 0, 1) := zk_42 (by decide +kernel)
theorem dX8_init_13 : decode cX8_init 13 = .ok (.getstatic 17, 3) := zk_178 (by decide +kernel)
theorem dX8_init_16 : decode cX8_init 16 = .ok (.iconst 1, 1) := zk_4 (by decide +kernel)
theorem dX8_init_17 : decode cX8_init 17 = .ok (.iaload, 1) := zk_46 (by decide +kernel)
theorem dX8_init_18 : decode cX8_init 18 = .ok (.newarray .int, 2) := by decide +kernel
theorem dX8_init_20 : decode cX8_init 20 = .ok (.putfield 20, 3) := zk_181 (by decide +kernel)
theorem dX8_init_23 : decode cX8_init 23 = .ok (.aload_n 0, 1) := zk_42 (by decide +kernel)
theorem dX8_init_24 : decode cX8_init 24 = .ok (.bipush 64, 2) := zk_16 (by decide +kernel)
theorem dX8_init_26 : decode cX8_init 26 = .ok (.newarray .long, 2) := by decide +kernel
theorem dX8_init_28 : decode cX8_init 28 = .ok (.putfield 23, 3) := zk_181 (by decide +kernel)
theorem dX8_init_31 : decode cX8_init 31 = .ok (.return_, 1) := zk_177 (by decide +kernel)
set_option maxHeartbeats 4000000 in
set_option maxRecDepth 100000 in
theorem mc_rules (l : Launch) (dC : Nat → ClassId) (dI : Nat → Nat → Nat) (tK : Nat) (sK : Nat) (sV : Nat) (o : Nat) (sz : Nat) : Met l yX8_init (Cond.code yX8_init cX8_init 1 none :: wsL_law) ({ frames := 1, cells := 3, slots := 132, locals := 12 }) (va_Pc [.ref o] (fun U => U.heap.size = sz ∧ va_P (dC, dI) vwCl [(eO8b o 0 0)] U.heap ∧ va_K (dC, dI) vwCl [] U ∧ va_D (fun _ => True) [(eO8b o 0 0)] ∧ xcN sK U ∧ xc tK sK sV (va_A [(eO8b o 0 0)] sz) U U.heap)) (va_Qv (fun (u : (Nat) × (Nat) × (Nat) × (ClassId) × (ClassId) × (ClassId)) => True) (fun (u : (Nat) × (Nat) × (Nat) × (ClassId) × (ClassId) × (ClassId)) t => va_P (dC, dI) vwCl [(eO8a o u.1 0 u.2.1 u.2.2.1 0), (u.1, .inl (u.2.2.2.1, 64, .inl (fun _ => 0))), (u.2.1, .inl (u.2.2.2.2.1, 4, .inl (fun _ => 0))), (u.2.2.1, .inl (u.2.2.2.2.2, 64, .inr (.inl (fun _ => 0))))] t.heap ∧ va_K (dC, dI) vwCl [(u.2.2.2.1, .int), (u.2.2.2.2.1, .int), (u.2.2.2.2.2, .long)] t ∧ va_D (va_A [(eO8b o 0 0)] sz) [(eO8a o u.1 0 u.2.1 u.2.2.1 0), (u.1, .inl (u.2.2.2.1, 64, .inl (fun _ => 0))), (u.2.1, .inl (u.2.2.2.2.1, 4, .inl (fun _ => 0))), (u.2.2.1, .inl (u.2.2.2.2.2, 64, .inr (.inl (fun _ => 0))))]) (va_A [(eO8b o 0 0)] sz)) 3 132 (va_A [(eO8b o 0 0)] sz) := by
  refine Met.ofW (cc := cX8_init) (maxL := 1) (ret := none) (by decide) rfl ?_
  intro p e s m args below meth c s₁ B hml hv
  obtain ⟨rfl, hsz, hP, hK, hD0, hN, hZ⟩ := hv
  have hx := B.exec
  have hb := B.bytes
  have hr := B.returns
  have hts := atoms_spec (ws := Cond.code yX8_init cX8_init 1 none :: wsL_law) B.pre
  have htw : ∀ w ∈ wsL_law, w.before _ s = true := fun w h => hts w (List.mem_cons_of_mem _ h)
  have hown : s.vm.findClass RX8 = some m.cls := findClass_of_methodNamed B.named
  have hlocks := B.notSynchronized
  have hin : meth.name = "<init>" := (name_of_methodNamed B.named B.method).1
  subst hsz
  have hD := hD0.self (sz := s.heap.size)
  generalize hAe : va_A [(eO8b o 0 0)] s.heap.size = A at hD hZ ⊢
  have hA : ∀ q : Nat, s.heap.size ≤ q → A q := fun q h => by rw [← hAe]; exact Or.inr h
  obtain ⟨H, rH⟩ : ∃ z : Heap, z = s.heap := ⟨_, rfl⟩
  have hS : va_S A s.heap H [] := by rw [rH]; exact va_S.rf
  have hP : va_P (dC, dI) vwCl [(eO8b o 0 0)] H := by rw [rH]; exact hP
  rw [← rH]
  have hl := lv_entry ([.ref o]) (n := 1) (Nat.le_of_ble_eq_true rfl)
  rw [lg_entry_eq]
  generalize (lg_sl ([.ref o]) ++ List.replicate (1 - (lg_sl ([.ref o])).length) Slot.unset).toArray = ls at hl ⊢
  have hl : lv_has ls 1 [(0, .ref o)] := hl
  refine lv_aload_n hx hb dX8_init_0 rfl (lv_at hl 0 rfl) ?_
  refine W.objInit hx hb hown (htw _ (ck_7 _ (List.mem_of_getElem? (i := 1) rfl))) (htw _ (ck_1 _ (List.mem_of_getElem? (i := 12) rfl))) (htw _ (ck_1 _ (List.mem_of_getElem? (i := 13) rfl))) rfl (by rw [hml]; exact hl.1) rfl dX8_init_1 (Nat.le_of_ble_eq_true rfl) (Nat.le_of_ble_eq_true rfl) ?_
  refine W.eq (g2 := F0 m 4 ls []) rfl ?_
  refine lv_aload_n hx hb dX8_init_4 rfl (lv_at hl 0 rfl) ?_
  refine lv_bipush (v := 64) hx hb dX8_init_5 (by decide) ?_
  refine va_newa (ty := .int) (a0 := (64, .inl (fun _ => 0))) hx hb (htw _ (ck_2 _ (List.mem_of_getElem? (i := 7) rfl))) rfl hK hP hD hS hA (fun _ => rfl) (by decide) (by decide) (by decide) (Nat.le_of_ble_eq_true rfl) (Nat.le_of_ble_eq_true rfl) dX8_init_7 (fun q_1 cA_2 H hK hP hD hS => ?_)
  have hK : va_K (dC, dI) vwCl [(cA_2, .int)] s := hK
  obtain ⟨hP, hD⟩ := zre [(eO8b o 0 0), (eA0 q_1 cA_2 64 (fun _ => 0))] hP hD rfl
  refine W.widen (k := 1) (n := 64) (by omega) (by omega) ?_
  refine va_putF (D := (dC, dI)) (ci := 8) (v := .ref q_1) (ty := tyX8 0) (C := RX8) (T := TX8) (N := 5) hx hb htw inlX8 tyX8 tyX8_ok nmX8 hown hK hP hD hS 0 rfl rfl 0 (by decide) (htw _ (ck_7 _ (List.mem_of_getElem? (i := 2) rfl))) (fun _ h9 => h9) rfl hin rfl (tyX8_ok 0 (by decide)) rfl rfl (Nat.le_of_ble_eq_true rfl) dX8_init_9 (fun H locs hP hD hS => ?_)
  obtain ⟨hP, hD⟩ := zre [(o, .inr (8, [.ref q_1, .int 0, .null, .null, .int 0])), (eA0 q_1 cA_2 64 (fun _ => 0))] hP hD rfl
  refine lv_aload_n hx hb dX8_init_12 rfl (lv_at hl 0 rfl) ?_
  refine va_getsN hx hb hZ.1 hS hown (va_Nw.use rfl (hN.2.2.2.2.2.2.2.2.2.2.2.2.2.1)) (fun _ h9 => h9) dX8_init_13 ?_
  refine lv_iconst (v := 1) hx hb dX8_init_16 (by decide) ?_
  refine va_ti hx hb hZ.2.1 hS (by unfold vp_in; decide) (v := .int 4) rfl dX8_init_17 ?_
  refine va_newa (ty := .int) (a0 := (4, .inl (fun _ => 0))) hx hb (htw _ (ck_2 _ (List.mem_of_getElem? (i := 7) rfl))) rfl hK hP hD hS hA (fun _ => rfl) (by decide) (by decide) (by decide) (Nat.le_of_ble_eq_true rfl) (Nat.le_of_ble_eq_true rfl) dX8_init_18 (fun q_3 cA_4 H hK hP hD hS => ?_)
  have hK : va_K (dC, dI) vwCl [(cA_2, .int), (cA_4, .int)] s := hK
  obtain ⟨hP, hD⟩ := zre [(o, .inr (8, [.ref q_1, .int 0, .null, .null, .int 0])), (eA0 q_1 cA_2 64 (fun _ => 0)), (eA0 q_3 cA_4 4 (fun _ => 0))] hP hD rfl
  refine W.widen (k := 2) (n := 68) (by omega) (by omega) ?_
  refine va_putF (D := (dC, dI)) (ci := 8) (v := .ref q_3) (ty := tyX8 2) (C := RX8) (T := TX8) (N := 5) hx hb htw inlX8 tyX8 tyX8_ok nmX8 hown hK hP hD hS 0 rfl rfl 2 (by decide) (htw _ (ck_7 _ (List.mem_of_getElem? (i := 3) rfl))) (fun _ h9 => h9) rfl hin rfl (tyX8_ok 2 (by decide)) rfl rfl (Nat.le_of_ble_eq_true rfl) dX8_init_20 (fun H locs hP hD hS => ?_)
  obtain ⟨hP, hD⟩ := zre [(o, .inr (8, [.ref q_1, .int 0, .ref q_3, .null, .int 0])), (eA0 q_1 cA_2 64 (fun _ => 0)), (eA0 q_3 cA_4 4 (fun _ => 0))] hP hD rfl
  refine lv_aload_n hx hb dX8_init_23 rfl (lv_at hl 0 rfl) ?_
  refine lv_bipush (v := 64) hx hb dX8_init_24 (by decide) ?_
  refine va_newa (ty := .long) (a0 := (64, .inr (.inl (fun _ => 0)))) hx hb (htw _ (ck_1 _ (List.mem_of_getElem? (i := 6) rfl))) rfl hK hP hD hS hA (fun _ => rfl) (by decide) (by decide) (by decide) (Nat.le_of_ble_eq_true rfl) (Nat.le_of_ble_eq_true rfl) dX8_init_26 (fun q_5 cA_6 H hK hP hD hS => ?_)
  have hK : va_K (dC, dI) vwCl [(cA_2, .int), (cA_4, .int), (cA_6, .long)] s := hK
  obtain ⟨hP, hD⟩ := zre [(o, .inr (8, [.ref q_1, .int 0, .ref q_3, .null, .int 0])), (eA0 q_1 cA_2 64 (fun _ => 0)), (eA0 q_3 cA_4 4 (fun _ => 0)), (eA1 q_5 cA_6 64 (fun _ => 0))] hP hD rfl
  refine W.widen (k := 3) (n := 132) (by omega) (by omega) ?_
  refine va_putF (D := (dC, dI)) (ci := 8) (v := .ref q_5) (ty := tyX8 3) (C := RX8) (T := TX8) (N := 5) hx hb htw inlX8 tyX8 tyX8_ok nmX8 hown hK hP hD hS 0 rfl rfl 3 (by decide) (htw _ (ck_7 _ (List.mem_of_getElem? (i := 4) rfl))) (fun _ h9 => h9) rfl hin rfl (tyX8_ok 3 (by decide)) rfl rfl (Nat.le_of_ble_eq_true rfl) dX8_init_28 (fun H locs hP hD hS => ?_)
  obtain ⟨hP, hD⟩ := zre [(eO8a o q_1 0 q_3 q_5 0), (eA0 q_1 cA_2 64 (fun _ => 0)), (eA0 q_3 cA_4 4 (fun _ => 0)), (eA1 q_5 cA_6 64 (fun _ => 0))] hP hD rfl
  refine W.widen (k := 3) (n := 132) (by omega) (by omega) ?_
  have hP9 := hP
  have hD9 := hD
  have hK9 := hK.sub (tys' := [(cA_2, .int), (cA_4, .int), (cA_6, .long)]) [0, 1, 2] rfl
  exact W.vret hx hb hr (fun t ht hW => ⟨⟨(q_1, q_3, q_5, cA_2, cA_4, cA_6), rfl, trivial, by rw [ht]; exact hP9, va_K.moved hW.alike hK9, hD9⟩, hS.F ht⟩) hS.2.2 dX8_init_31
