def fd_add (lz : Int32) (fLn : Nat → Int32) (fLc : Nat → Int32) (a0 : Int32) (a1 : Int32) : (Int32) × (Nat → Int32) × (Nat → Int32) := (if 20 ≤ lz then (lz, fLn, fLc) else ((lz + 1), (upd fLn lz.toNatClampNeg a0), (upd fLc lz.toNatClampNeg a1)))
theorem dX2_add_0 : decode cX2_add 0 = .ok (.aload_n 0, 1) := zk_42 (by decide +kernel)
theorem dX2_add_1 : decode cX2_add 1 = .ok (.getfield 18, 3) := zk_180 (by decide +kernel)
theorem dX2_add_4 : decode cX2_add 4 = .ok (.bipush 20, 2) := zk_16 (by decide +kernel)
theorem dX2_add_6 : decode cX2_add 6 = .ok (.if_icmp .ge 33, 3) := zk_162 (by decide +kernel)
theorem dX2_add_39 : decode cX2_add 39 = .ok (.return_, 1) := zk_177 (by decide +kernel)
theorem dX2_add_9 : decode cX2_add 9 = .ok (.aload_n 0, 1) := zk_42 (by decide +kernel)
theorem dX2_add_10 : decode cX2_add 10 = .ok (.getfield 9, 3) := zk_180 (by decide +kernel)
theorem dX2_add_13 : decode cX2_add 13 = .ok (.aload_n 0, 1) := zk_42 (by decide +kernel)
theorem dX2_add_14 : decode cX2_add 14 = .ok (.getfield 18, 3) := zk_180 (by decide +kernel)
theorem dX2_add_17 : decode cX2_add 17 = .ok (.iload_n 1, 1) := zk_27 (by decide +kernel)
theorem dX2_add_18 : decode cX2_add 18 = .ok (.iastore, 1) := zk_79 (by decide +kernel)
theorem dX2_add_19 : decode cX2_add 19 = .ok (.aload_n 0, 1) := zk_42 (by decide +kernel)
theorem dX2_add_20 : decode cX2_add 20 = .ok (.getfield 15, 3) := zk_180 (by decide +kernel)
theorem dX2_add_23 : decode cX2_add 23 = .ok (.aload_n 0, 1) := zk_42 (by decide +kernel)
theorem dX2_add_24 : decode cX2_add 24 = .ok (.getfield 18, 3) := zk_180 (by decide +kernel)
theorem dX2_add_27 : decode cX2_add 27 = .ok (.iload_n 2, 1) := zk_28 (by decide +kernel)
theorem dX2_add_28 : decode cX2_add 28 = .ok (.iastore, 1) := zk_79 (by decide +kernel)
theorem dX2_add_29 : decode cX2_add 29 = .ok (.aload_n 0, 1) := zk_42 (by decide +kernel)
theorem dX2_add_30 : decode cX2_add 30 = .ok (.dup, 1) := zk_89 (by decide +kernel)
theorem dX2_add_31 : decode cX2_add 31 = .ok (.getfield 18, 3) := zk_180 (by decide +kernel)
theorem dX2_add_34 : decode cX2_add 34 = .ok (.iconst 1, 1) := zk_4 (by decide +kernel)
theorem dX2_add_35 : decode cX2_add 35 = .ok (.iadd, 1) := zk_96 (by decide +kernel)
theorem dX2_add_36 : decode cX2_add 36 = .ok (.putfield 18, 3) := zk_181 (by decide +kernel)
set_option maxHeartbeats 4000000 in
set_option maxRecDepth 100000 in
theorem gd_add (l : Launch) (dC : Nat → ClassId) (dI : Nat → Nat → Nat) (le : Nat) (lz : Int32) (lna : Nat) (lca : Nat) (cLn : ClassId) (fLn : Nat → Int32) (cLc : ClassId) (fLc : Nat → Int32) (a0 : Int32) (a1 : Int32) (sz : Nat) (h0_lz : ¬ lz < 0) : Met l yX2_add (Cond.code yX2_add cX2_add 3 none :: wsL_law) ({ frames := 0, cells := 0, slots := 0, locals := 0 }) (va_Pc [.ref le, .int a0, .int a1] (fun U => U.heap.size = sz ∧ va_P (dC, dI) vwCl [(eO2a le lz lna lca), (eA0 lna cLn 20 fLn), (eA0 lca cLc 20 fLc)] U.heap ∧ va_K (dC, dI) vwCl [(cLn, .int), (cLc, .int)] U ∧ va_D (fun _ => True) [(eO2a le lz lna lca), (eA0 lna cLn 20 fLn), (eA0 lca cLc 20 fLc)])) (va_Qv (fun (u : (Int32) × (Nat → Int32) × (Nat → Int32)) => u = fd_add lz fLn fLc a0 a1) (fun (u : (Int32) × (Nat → Int32) × (Nat → Int32)) t => va_P (dC, dI) vwCl [(eO2a le u.1 lna lca), (eA0 lna cLn 20 u.2.1), (eA0 lca cLc 20 u.2.2)] t.heap ∧ va_K (dC, dI) vwCl [] t ∧ va_D (va_A [(eO2a le lz lna lca), (eA0 lna cLn 20 fLn), (eA0 lca cLc 20 fLc)] sz) [(eO2a le u.1 lna lca), (eA0 lna cLn 20 u.2.1), (eA0 lca cLc 20 u.2.2)]) (va_A [(eO2a le lz lna lca), (eA0 lna cLn 20 fLn), (eA0 lca cLc 20 fLc)] sz)) 0 0 (va_A [(eO2a le lz lna lca), (eA0 lna cLn 20 fLn), (eA0 lca cLc 20 fLc)] sz) := by
  refine Met.ofW (cc := cX2_add) (maxL := 3) (ret := none) (by decide) rfl ?_
  intro p e s m args below meth c s₁ B hml hv
  obtain ⟨rfl, hsz, hP, hK, hD0⟩ := hv
  have hx := B.exec
  have hb := B.bytes
  have hr := B.returns
  have hts := atoms_spec (ws := Cond.code yX2_add cX2_add 3 none :: wsL_law) B.pre
  have htw : ∀ w ∈ wsL_law, w.before _ s = true := fun w h => hts w (List.mem_cons_of_mem _ h)
  have hown : s.vm.findClass RX2 = some m.cls := findClass_of_methodNamed B.named
  have hlocks := B.notSynchronized
  subst hsz
  have hD := hD0.self (sz := s.heap.size)
  generalize hAe : va_A [(eO2a le lz lna lca), (eA0 lna cLn 20 fLn), (eA0 lca cLc 20 fLc)] s.heap.size = A at hD ⊢
  have hA : ∀ q : Nat, s.heap.size ≤ q → A q := fun q h => by rw [← hAe]; exact Or.inr h
  obtain ⟨H, rH⟩ : ∃ z : Heap, z = s.heap := ⟨_, rfl⟩
  have hS : va_S A s.heap H [] := by rw [rH]; exact va_S.rf
  have hP : va_P (dC, dI) vwCl [(eO2a le lz lna lca), (eA0 lna cLn 20 fLn), (eA0 lca cLc 20 fLc)] H := by rw [rH]; exact hP
  rw [← rH]
  have hl := lv_entry ([.ref le, .int a0, .int a1]) (n := 3) (Nat.le_of_ble_eq_true rfl)
  rw [lg_entry_eq]
  generalize (lg_sl ([.ref le, .int a0, .int a1]) ++ List.replicate (3 - (lg_sl ([.ref le, .int a0, .int a1])).length) Slot.unset).toArray = ls at hl ⊢
  have hl : lv_has ls 3 [(0, .ref le), (1, .int a0), (2, .int a1)] := hl
  refine lv_aload_n hx hb dX2_add_0 rfl (lv_at hl 0 rfl) ?_
  refine va_get (D := (dC, dI)) (ci := 2) (v := .int lz) (C := RX2) (T := TX2) (N := 3) hx hb htw inlX2 hown hK hP 0 rfl rfl 0 (by decide) (htw _ (ck_63 _ (List.mem_of_getElem? (i := 0) rfl))) (fun _ h9 => h9) rfl dX2_add_1 ?_
  refine lv_bipush (v := 20) hx hb dX2_add_4 (by decide) ?_
  refine lv_icmp_ge (tgt := 39) hx hb dX2_add_6 (by decide) (fun c_1 => ?_) (fun c_1 => ?_)
  · refine W.widen (k := 0) (n := 0) (by omega) (by omega) ?_
    have hP9 := hP
    have hD9 := hD
    have hK9 := hK.sub (tys' := []) [] rfl
    exact W.vret hx hb hr (fun t ht hW => ⟨⟨(lz, fLn, fLc), rfl, (by rw [fd_add]; (try rw [if_pos c_1]); try rfl), by rw [ht]; exact hP9, va_K.moved hW.alike hK9, hD9⟩, hS.F ht⟩) hS.2.2 dX2_add_39
  · refine lv_aload_n hx hb dX2_add_9 rfl (lv_at hl 0 rfl) ?_
    refine va_get (D := (dC, dI)) (ci := 2) (v := .ref lna) (C := RX2) (T := TX2) (N := 3) hx hb htw inlX2 hown hK hP 0 rfl rfl 1 (by decide) (htw _ (ck_8 _ (List.mem_of_getElem? (i := 22) rfl))) (fun _ h9 => h9) rfl dX2_add_10 ?_
    refine lv_aload_n hx hb dX2_add_13 rfl (lv_at hl 0 rfl) ?_
    refine va_get (D := (dC, dI)) (ci := 2) (v := .int lz) (C := RX2) (T := TX2) (N := 3) hx hb htw inlX2 hown hK hP 0 rfl rfl 0 (by decide) (htw _ (ck_63 _ (List.mem_of_getElem? (i := 0) rfl))) (fun _ h9 => h9) rfl dX2_add_14 ?_
    refine lv_iload_n hx hb dX2_add_17 rfl (lv_at hl 1 rfl) ?_
    refine va_iast hx hb hK hP hD hS 1 0 rfl rfl (xg_inr (N := 20) rfl h0_lz c_1) dX2_add_18 (fun H locs hP hD hS => ?_)
    obtain ⟨hP, hD⟩ := zre [(eO2a le lz lna lca), (eA0 lna cLn 20 (upd fLn lz.toNatClampNeg a0)), (eA0 lca cLc 20 fLc)] hP hD rfl
    refine lv_aload_n hx hb dX2_add_19 rfl (lv_at hl 0 rfl) ?_
    refine va_get (D := (dC, dI)) (ci := 2) (v := .ref lca) (C := RX2) (T := TX2) (N := 3) hx hb htw inlX2 hown hK hP 0 rfl rfl 2 (by decide) (htw _ (ck_8 _ (List.mem_of_getElem? (i := 23) rfl))) (fun _ h9 => h9) rfl dX2_add_20 ?_
    refine lv_aload_n hx hb dX2_add_23 rfl (lv_at hl 0 rfl) ?_
    refine va_get (D := (dC, dI)) (ci := 2) (v := .int lz) (C := RX2) (T := TX2) (N := 3) hx hb htw inlX2 hown hK hP 0 rfl rfl 0 (by decide) (htw _ (ck_63 _ (List.mem_of_getElem? (i := 0) rfl))) (fun _ h9 => h9) rfl dX2_add_24 ?_
    refine lv_iload_n hx hb dX2_add_27 rfl (lv_at hl 2 rfl) ?_
    refine va_iast hx hb hK hP hD hS 2 1 rfl rfl (xg_inr (N := 20) rfl h0_lz c_1) dX2_add_28 (fun H locs hP hD hS => ?_)
    obtain ⟨hP, hD⟩ := zre [(eO2a le lz lna lca), (eA0 lna cLn 20 (upd fLn lz.toNatClampNeg a0)), (eA0 lca cLc 20 (upd fLc lz.toNatClampNeg a1))] hP hD rfl
    refine lv_aload_n hx hb dX2_add_29 rfl (lv_at hl 0 rfl) ?_
    refine lv_dup hx hb dX2_add_30 rfl ?_
    refine va_get (D := (dC, dI)) (ci := 2) (v := .int lz) (C := RX2) (T := TX2) (N := 3) hx hb htw inlX2 hown hK hP 0 rfl rfl 0 (by decide) (htw _ (ck_63 _ (List.mem_of_getElem? (i := 0) rfl))) (fun _ h9 => h9) rfl dX2_add_31 ?_
    refine lv_iconst (v := 1) hx hb dX2_add_34 (by decide) ?_
    refine lv_iadd hx hb dX2_add_35 ?_
    refine va_put (D := (dC, dI)) (ci := 2) (v := .int (lz + 1)) (ty := tyX2 0) (C := RX2) (T := TX2) (N := 3) hx hb htw inlX2 tyX2 tyX2_ok nmX2 hown hK hP hD hS 0 rfl rfl 0 (by decide) (htw _ (ck_63 _ (List.mem_of_getElem? (i := 0) rfl))) (fun _ h9 => h9) rfl (tyX2_ok 0 (by decide)) rfl rfl (Nat.le_of_ble_eq_true rfl) dX2_add_36 (fun H locs hP hD hS => ?_)
    obtain ⟨hP, hD⟩ := zre [(eO2a le (lz + 1) lna lca), (eA0 lna cLn 20 (upd fLn lz.toNatClampNeg a0)), (eA0 lca cLc 20 (upd fLc lz.toNatClampNeg a1))] hP hD rfl
    refine W.widen (k := 0) (n := 0) (by omega) (by omega) ?_
    have hP9 := hP
    have hD9 := hD
    have hK9 := hK.sub (tys' := []) [] rfl
    exact W.vret hx hb hr (fun t ht hW => ⟨⟨((lz + 1), (upd fLn lz.toNatClampNeg a0), (upd fLc lz.toNatClampNeg a1)), rfl, (by rw [fd_add]; (try rw [if_neg c_1]); try rfl), by rw [ht]; exact hP9, va_K.moved hW.alike hK9, hD9⟩, hS.F ht⟩) hS.2.2 dX2_add_39

theorem xn_slotn {a b r : Int32} (hr : r = fn_slotOf a b) (h : ¬ r = (-1)) : vp_in a 12 := by
  subst hr
  revert h
  rw [fn_slotOf]
  split
  · intro h; exact absurd rfl h
  · split
    · intro h; exact absurd rfl h
    · rename_i h1 h2
      intro _
      exact xg_inr (N := 12) rfl h1 h2

def fn_add (fNs : Nat → Int32) (fNf : Nat → Int32) (fNz : Nat → Int32) (a0 : Int32) (a1 : Int32) (a2 : Int32) (a3 : Int32) : (Nat → Int32) × (Nat → Int32) × (Nat → Int32) := (if (fn_slotOf a0 a1) = (-1) then (fNs, fNf, fNz) else ((upd fNs a0.toNatClampNeg ((fNs a0.toNatClampNeg) ||| (1 <<< (a1 &&& 31)))), (upd fNf (fn_slotOf a0 a1).toNatClampNeg a2), (upd fNz (fn_slotOf a0 a1).toNatClampNeg a3)))
theorem dX6_add_0 : decode cX6_add 0 = .ok (.iload_n 1, 1) := zk_27 (by decide +kernel)
theorem dX6_add_1 : decode cX6_add 1 = .ok (.iload_n 2, 1) := zk_28 (by decide +kernel)
theorem dX6_add_2 : decode cX6_add 2 = .ok (.invokestatic 21, 3) := zk_184 (by decide +kernel)
theorem dX6_add_5 : decode cX6_add 5 = .ok (.istore 5, 2) := zk_54 (by decide +kernel)
theorem dX6_add_7 : decode cX6_add 7 = .ok (.iload 5, 2) := zk_21 (by decide +kernel)
theorem dX6_add_9 : decode cX6_add 9 = .ok (.iconst (-1), 1) := zk_2 (by decide +kernel)
theorem dX6_add_10 : decode cX6_add 10 = .ok (.if_icmp .eq 32, 3) := zk_159 (by decide +kernel)
theorem dX6_add_42 : decode cX6_add 42 = .ok (.return_, 1) := zk_177 (by decide +kernel)
theorem dX6_add_13 : decode cX6_add 13 = .ok (.aload_n 0, 1) := zk_42 (by decide +kernel)
theorem dX6_add_14 : decode cX6_add 14 = .ok (.getfield 9, 3) := zk_180 (by decide +kernel)
theorem dX6_add_17 : decode cX6_add 17 = .ok (.iload_n 1, 1) := zk_27 (by decide +kernel)
theorem dX6_add_18 : decode cX6_add 18 = .ok (.dup2, 1) := zk_92 (by decide +kernel)
theorem dX6_add_19 : decode cX6_add 19 = .ok (.iaload, 1) := zk_46 (by decide +kernel)
theorem dX6_add_20 : decode cX6_add 20 = .ok (.iconst 1, 1) := zk_4 (by decide +kernel)
theorem dX6_add_21 : decode cX6_add 21 = .ok (.iload_n 2, 1) := zk_28 (by decide +kernel)
theorem dX6_add_22 : decode cX6_add 22 = .ok (.ishl, 1) := zk_120 (by decide +kernel)
theorem dX6_add_23 : decode cX6_add 23 = .ok (.ior, 1) := zk_128 (by decide +kernel)
theorem dX6_add_24 : decode cX6_add 24 = .ok (.iastore, 1) := zk_79 (by decide +kernel)
theorem dX6_add_25 : decode cX6_add 25 = .ok (.aload_n 0, 1) := zk_42 (by decide +kernel)
theorem dX6_add_26 : decode cX6_add 26 = .ok (.getfield 15, 3) := zk_180 (by decide +kernel)
theorem dX6_add_29 : decode cX6_add 29 = .ok (.iload 5, 2) := zk_21 (by decide +kernel)
theorem dX6_add_31 : decode cX6_add 31 = .ok (.iload_n 3, 1) := zk_29 (by decide +kernel)
theorem dX6_add_32 : decode cX6_add 32 = .ok (.iastore, 1) := zk_79 (by decide +kernel)
theorem dX6_add_33 : decode cX6_add 33 = .ok (.aload_n 0, 1) := zk_42 (by decide +kernel)
theorem dX6_add_34 : decode cX6_add 34 = .ok (.getfield 18, 3) := zk_180 (by decide +kernel)
theorem dX6_add_37 : decode cX6_add 37 = .ok (.iload 5, 2) := zk_21 (by decide +kernel)
theorem dX6_add_39 : decode cX6_add 39 = .ok (.iload 4, 2) := zk_21 (by decide +kernel)
theorem dX6_add_41 : decode cX6_add 41 = .ok (.iastore, 1) := zk_79 (by decide +kernel)
set_option maxHeartbeats 4000000 in
set_option maxRecDepth 100000 in
theorem gn_add (l : Launch) (dC : Nat → ClassId) (dI : Nat → Nat → Nat) (no : Nat) (ns : Int32) (nsa : Nat) (nfa : Nat) (nza : Nat) (cNs : ClassId) (fNs : Nat → Int32) (cNf : ClassId) (fNf : Nat → Int32) (cNz : ClassId) (fNz : Nat → Int32) (a0 : Int32) (a1 : Int32) (a2 : Int32) (a3 : Int32) (sz : Nat) : Met l yX6_add (Cond.code yX6_add cX6_add 6 none :: wsL_law) ({ frames := 1, cells := 0, slots := 0, locals := 22 }) (va_Pc [.ref no, .int a0, .int a1, .int a2, .int a3] (fun U => U.heap.size = sz ∧ va_P (dC, dI) vwCl [(eO6a no ns nsa nfa nza), (eA0 nsa cNs 12 fNs), (eA0 nfa cNf 96 fNf), (eA0 nza cNz 96 fNz)] U.heap ∧ va_K (dC, dI) vwCl [(cNs, .int), (cNf, .int), (cNz, .int)] U ∧ va_D (fun _ => True) [(eO6a no ns nsa nfa nza), (eA0 nsa cNs 12 fNs), (eA0 nfa cNf 96 fNf), (eA0 nza cNz 96 fNz)])) (va_Qv (fun (u : (Nat → Int32) × (Nat → Int32) × (Nat → Int32)) => u = fn_add fNs fNf fNz a0 a1 a2 a3) (fun (u : (Nat → Int32) × (Nat → Int32) × (Nat → Int32)) t => va_P (dC, dI) vwCl [(eO6a no ns nsa nfa nza), (eA0 nsa cNs 12 u.1), (eA0 nfa cNf 96 u.2.1), (eA0 nza cNz 96 u.2.2)] t.heap ∧ va_K (dC, dI) vwCl [] t ∧ va_D (va_A [(eO6a no ns nsa nfa nza), (eA0 nsa cNs 12 fNs), (eA0 nfa cNf 96 fNf), (eA0 nza cNz 96 fNz)] sz) [(eO6a no ns nsa nfa nza), (eA0 nsa cNs 12 u.1), (eA0 nfa cNf 96 u.2.1), (eA0 nza cNz 96 u.2.2)]) (va_A [(eO6a no ns nsa nfa nza), (eA0 nsa cNs 12 fNs), (eA0 nfa cNf 96 fNf), (eA0 nza cNz 96 fNz)] sz)) 0 0 (va_A [(eO6a no ns nsa nfa nza), (eA0 nsa cNs 12 fNs), (eA0 nfa cNf 96 fNf), (eA0 nza cNz 96 fNz)] sz) := by
  refine Met.ofW (cc := cX6_add) (maxL := 6) (ret := none) (by decide) rfl ?_
  intro p e s m args below meth c s₁ B hml hv
  obtain ⟨rfl, hsz, hP, hK, hD0⟩ := hv
  have hx := B.exec
  have hb := B.bytes
  have hr := B.returns
  have hts := atoms_spec (ws := Cond.code yX6_add cX6_add 6 none :: wsL_law) B.pre
  have htw : ∀ w ∈ wsL_law, w.before _ s = true := fun w h => hts w (List.mem_cons_of_mem _ h)
  have hown : s.vm.findClass RX6 = some m.cls := findClass_of_methodNamed B.named
  have hlocks := B.notSynchronized
  subst hsz
  have hD := hD0.self (sz := s.heap.size)
  generalize hAe : va_A [(eO6a no ns nsa nfa nza), (eA0 nsa cNs 12 fNs), (eA0 nfa cNf 96 fNf), (eA0 nza cNz 96 fNz)] s.heap.size = A at hD ⊢
  have hA : ∀ q : Nat, s.heap.size ≤ q → A q := fun q h => by rw [← hAe]; exact Or.inr h
  obtain ⟨H, rH⟩ : ∃ z : Heap, z = s.heap := ⟨_, rfl⟩
  have hS : va_S A s.heap H [] := by rw [rH]; exact va_S.rf
  have hP : va_P (dC, dI) vwCl [(eO6a no ns nsa nfa nza), (eA0 nsa cNs 12 fNs), (eA0 nfa cNf 96 fNf), (eA0 nza cNz 96 fNz)] H := by rw [rH]; exact hP
  rw [← rH]
  have hl := lv_entry ([.ref no, .int a0, .int a1, .int a2, .int a3]) (n := 6) (Nat.le_of_ble_eq_true rfl)
  rw [lg_entry_eq]
  generalize (lg_sl ([.ref no, .int a0, .int a1, .int a2, .int a3]) ++ List.replicate (6 - (lg_sl ([.ref no, .int a0, .int a1, .int a2, .int a3])).length) Slot.unset).toArray = ls at hl ⊢
  have hl : lv_has ls 6 [(0, .ref no), (1, .int a0), (2, .int a1), (3, .int a2), (4, .int a3)] := hl
  refine lv_iload_n hx hb dX6_add_0 rfl (lv_at hl 1 rfl) ?_
  refine lv_iload_n hx hb dX6_add_1 rfl (lv_at hl 2 rfl) ?_
  have hPc := hP.sub (ws' := []) [] rfl
  have hKc := hK.sub (tys' := []) [] rfl
  refine vp_callSi (W.runS (As := [.int a0, .int a1]) (rest := []) ⟨hx, hb, hml, hown, htw⟩ (gn_slotOf l dC dI a0 a1) (va_cwS 2 htw (xg_S (ck_23 _ (List.mem_of_getElem? (i := 21) rfl)) (ck_23 _ (List.mem_of_getElem? (i := 22) rfl)) (ck_2 _ (List.mem_of_getElem? (i := 11) rfl)) (ck_23 _ (List.mem_of_getElem? (i := 23) rfl))) rfl rfl rfl (by exact ⟨hdc_3.1, hdc_3.2, hdd_7⟩) ⟨Nat.le_of_ble_eq_true rfl, Nat.le_of_ble_eq_true rfl⟩) ⟨fun a U g mk q => by obtain ⟨q0, qP, qK⟩ := q; exact ⟨q0, qP, va_K.moved (u := U) (U := U.calling g mk a) (Vm.Alike.refl U.vm) qK⟩, fun U hU hW => ⟨rfl, by rw [hU]; exact hPc, va_K.moved hW.alike hKc⟩⟩ rfl rfl hl.1 rfl (lv_room (Nat.le_of_ble_eq_true rfl)) dX6_add_2 ⟨Nat.le_of_ble_eq_true rfl, Nat.le_of_ble_eq_true rfl⟩) (fun r_1 hw => ?_)
  try dsimp only at hw
  have hq_r_1 : r_1 = fn_slotOf a0 a1 := hw
  refine lv_istore (lv' := [(5, .int r_1), (0, .ref no), (1, .int a0), (2, .int a1), (3, .int a2), (4, .int a3)]) hx hb dX6_add_5 hl (by decide) rfl (fun ls hl => ?_)
  refine lv_iload hx hb dX6_add_7 (lv_at hl 0 rfl) ?_
  refine lv_iconst (v := (-1)) hx hb dX6_add_9 (by decide) ?_
  refine lv_icmp_eq (tgt := 42) hx hb dX6_add_10 (by decide) (fun c_2 => ?_) (fun c_2 => ?_)
  · refine W.widen (k := 0) (n := 0) (by omega) (by omega) ?_
    have hP9 := hP
    have hD9 := hD
    have hK9 := hK.sub (tys' := []) [] rfl
    exact W.vret hx hb hr (fun t ht hW => ⟨⟨(fNs, fNf, fNz), rfl, (by rw [fn_add]; (try rw [← hq_r_1]); (try rw [if_pos c_2]); try rfl), by rw [ht]; exact hP9, va_K.moved hW.alike hK9, hD9⟩, hS.F ht⟩) hS.2.2 dX6_add_42
  · refine lv_aload_n hx hb dX6_add_13 rfl (lv_at hl 1 rfl) ?_
    refine va_get (D := (dC, dI)) (ci := 6) (v := .ref nsa) (C := RX6) (T := TX6) (N := 4) hx hb htw inlX6 hown hK hP 0 rfl rfl 1 (by decide) (htw _ (ck_7 _ (List.mem_of_getElem? (i := 8) rfl))) (fun _ h9 => h9) rfl dX6_add_14 ?_
    refine lv_iload_n hx hb dX6_add_17 rfl (lv_at hl 2 rfl) ?_
    refine lv_dup2_11 hx hb dX6_add_18 rfl rfl ?_
    refine va_iald hx hb hK hP 1 0 rfl rfl (xn_slotn hq_r_1 c_2) dX6_add_19 ?_
    refine lv_iconst (v := 1) hx hb dX6_add_20 (by decide) ?_
    refine lv_iload_n hx hb dX6_add_21 rfl (lv_at hl 3 rfl) ?_
    refine lv_ishl hx hb dX6_add_22 ?_
    refine lv_ior hx hb dX6_add_23 ?_
    refine va_iast hx hb hK hP hD hS 1 0 rfl rfl (xn_slotn hq_r_1 c_2) dX6_add_24 (fun H locs hP hD hS => ?_)
    obtain ⟨hP, hD⟩ := zre [(eO6a no ns nsa nfa nza), (eA0 nsa cNs 12 (upd fNs a0.toNatClampNeg ((fNs a0.toNatClampNeg) ||| (1 <<< (a1 &&& 31))))), (eA0 nfa cNf 96 fNf), (eA0 nza cNz 96 fNz)] hP hD rfl
    refine lv_aload_n hx hb dX6_add_25 rfl (lv_at hl 1 rfl) ?_
    refine va_get (D := (dC, dI)) (ci := 6) (v := .ref nfa) (C := RX6) (T := TX6) (N := 4) hx hb htw inlX6 hown hK hP 0 rfl rfl 2 (by decide) (htw _ (ck_7 _ (List.mem_of_getElem? (i := 9) rfl))) (fun _ h9 => h9) rfl dX6_add_26 ?_
    refine lv_iload hx hb dX6_add_29 (lv_at hl 0 rfl) ?_
    refine lv_iload_n hx hb dX6_add_31 rfl (lv_at hl 4 rfl) ?_
    refine va_iast hx hb hK hP hD hS 2 1 rfl rfl (xn_slot hq_r_1 c_2) dX6_add_32 (fun H locs hP hD hS => ?_)
    obtain ⟨hP, hD⟩ := zre [(eO6a no ns nsa nfa nza), (eA0 nsa cNs 12 (upd fNs a0.toNatClampNeg ((fNs a0.toNatClampNeg) ||| (1 <<< (a1 &&& 31))))), (eA0 nfa cNf 96 (upd fNf r_1.toNatClampNeg a2)), (eA0 nza cNz 96 fNz)] hP hD rfl
    refine lv_aload_n hx hb dX6_add_33 rfl (lv_at hl 1 rfl) ?_
    refine va_get (D := (dC, dI)) (ci := 6) (v := .ref nza) (C := RX6) (T := TX6) (N := 4) hx hb htw inlX6 hown hK hP 0 rfl rfl 3 (by decide) (htw _ (ck_7 _ (List.mem_of_getElem? (i := 10) rfl))) (fun _ h9 => h9) rfl dX6_add_34 ?_
    refine lv_iload hx hb dX6_add_37 (lv_at hl 0 rfl) ?_
    refine lv_iload hx hb dX6_add_39 (lv_at hl 5 rfl) ?_
    refine va_iast hx hb hK hP hD hS 3 2 rfl rfl (xn_slot hq_r_1 c_2) dX6_add_41 (fun H locs hP hD hS => ?_)
    obtain ⟨hP, hD⟩ := zre [(eO6a no ns nsa nfa nza), (eA0 nsa cNs 12 (upd fNs a0.toNatClampNeg ((fNs a0.toNatClampNeg) ||| (1 <<< (a1 &&& 31))))), (eA0 nfa cNf 96 (upd fNf r_1.toNatClampNeg a2)), (eA0 nza cNz 96 (upd fNz r_1.toNatClampNeg a3))] hP hD rfl
    refine W.widen (k := 0) (n := 0) (by omega) (by omega) ?_
    have hP9 := hP
    have hD9 := hD
    have hK9 := hK.sub (tys' := []) [] rfl
    exact W.vret hx hb hr (fun t ht hW => ⟨⟨((upd fNs a0.toNatClampNeg ((fNs a0.toNatClampNeg) ||| (1 <<< (a1 &&& 31)))), (upd fNf r_1.toNatClampNeg a2), (upd fNz r_1.toNatClampNeg a3)), rfl, (by rw [fn_add]; (try rw [← hq_r_1]); (try rw [if_neg c_2]); try rfl), by rw [ht]; exact hP9, va_K.moved hW.alike hK9, hD9⟩, hS.F ht⟩) hS.2.2 dX6_add_42

def fn_drop (fNs : Nat → Int32) (a0 : Int32) (a1 : Int32) : (Nat → Int32) := (if (fn_slotOf a0 a1) = (-1) then fNs else (upd fNs a0.toNatClampNeg ((fNs a0.toNatClampNeg) &&& ((1 <<< (a1 &&& 31)) ^^^ (-1)))))
theorem dX6_drop_0 : decode cX6_drop 0 = .ok (.iload_n 1, 1) := zk_27 (by decide +kernel)
theorem dX6_drop_1 : decode cX6_drop 1 = .ok (.iload_n 2, 1) := zk_28 (by decide +kernel)
theorem dX6_drop_2 : decode cX6_drop 2 = .ok (.invokestatic 21, 3) := zk_184 (by decide +kernel)
theorem dX6_drop_5 : decode cX6_drop 5 = .ok (.iconst (-1), 1) := zk_2 (by decide +kernel)
theorem dX6_drop_6 : decode cX6_drop 6 = .ok (.if_icmp .eq 17, 3) := zk_159 (by decide +kernel)
theorem dX6_drop_23 : decode cX6_drop 23 = .ok (.return_, 1) := zk_177 (by decide +kernel)
theorem dX6_drop_9 : decode cX6_drop 9 = .ok (.aload_n 0, 1) := zk_42 (by decide +kernel)
theorem dX6_drop_10 : decode cX6_drop 10 = .ok (.getfield 9, 3) := zk_180 (by decide +kernel)
theorem dX6_drop_13 : decode cX6_drop 13 = .ok (.iload_n 1, 1) := zk_27 (by decide +kernel)
theorem dX6_drop_14 : decode cX6_drop 14 = .ok (.dup2, 1) := zk_92 (by decide +kernel)
theorem dX6_drop_15 : decode cX6_drop 15 = .ok (.iaload, 1) := zk_46 (by decide +kernel)
theorem dX6_drop_16 : decode cX6_drop 16 = .ok (.iconst 1, 1) := zk_4 (by decide +kernel)
theorem dX6_drop_17 : decode cX6_drop 17 = .ok (.iload_n 2, 1) := zk_28 (by decide +kernel)
theorem dX6_drop_18 : decode cX6_drop 18 = .ok (.ishl, 1) := zk_120 (by decide +kernel)
theorem dX6_drop_19 : decode cX6_drop 19 = .ok (.iconst (-1), 1) := zk_2 (by decide +kernel)
theorem dX6_drop_20 : decode cX6_drop 20 = .ok (.ixor, 1) := zk_130 (by decide +kernel)
theorem dX6_drop_21 : decode cX6_drop 21 = .ok (.iand, 1) := zk_126 (by decide +kernel)
theorem dX6_drop_22 : decode cX6_drop 22 = .ok (.iastore, 1) := zk_79 (by decide +kernel)
set_option maxHeartbeats 4000000 in
set_option maxRecDepth 100000 in
theorem gn_drop (l : Launch) (dC : Nat → ClassId) (dI : Nat → Nat → Nat) (no : Nat) (ns : Int32) (nsa : Nat) (nfa : Nat) (nza : Nat) (cNs : ClassId) (fNs : Nat → Int32) (a0 : Int32) (a1 : Int32) (sz : Nat) : Met l yX6_drop (Cond.code yX6_drop cX6_drop 3 none :: wsL_law) ({ frames := 1, cells := 0, slots := 0, locals := 22 }) (va_Pc [.ref no, .int a0, .int a1] (fun U => U.heap.size = sz ∧ va_P (dC, dI) vwCl [(eO6a no ns nsa nfa nza), (eA0 nsa cNs 12 fNs)] U.heap ∧ va_K (dC, dI) vwCl [(cNs, .int)] U ∧ va_D (fun _ => True) [(eO6a no ns nsa nfa nza), (eA0 nsa cNs 12 fNs)])) (va_Qv (fun (u : (Nat → Int32)) => u = fn_drop fNs a0 a1) (fun (u : (Nat → Int32)) t => va_P (dC, dI) vwCl [(eO6a no ns nsa nfa nza), (eA0 nsa cNs 12 u)] t.heap ∧ va_K (dC, dI) vwCl [] t ∧ va_D (va_A [(eO6a no ns nsa nfa nza), (eA0 nsa cNs 12 fNs)] sz) [(eO6a no ns nsa nfa nza), (eA0 nsa cNs 12 u)]) (va_A [(eO6a no ns nsa nfa nza), (eA0 nsa cNs 12 fNs)] sz)) 0 0 (va_A [(eO6a no ns nsa nfa nza), (eA0 nsa cNs 12 fNs)] sz) := by
  refine Met.ofW (cc := cX6_drop) (maxL := 3) (ret := none) (by decide) rfl ?_
  intro p e s m args below meth c s₁ B hml hv
  obtain ⟨rfl, hsz, hP, hK, hD0⟩ := hv
  have hx := B.exec
  have hb := B.bytes
  have hr := B.returns
  have hts := atoms_spec (ws := Cond.code yX6_drop cX6_drop 3 none :: wsL_law) B.pre
  have htw : ∀ w ∈ wsL_law, w.before _ s = true := fun w h => hts w (List.mem_cons_of_mem _ h)
  have hown : s.vm.findClass RX6 = some m.cls := findClass_of_methodNamed B.named
  have hlocks := B.notSynchronized
  subst hsz
  have hD := hD0.self (sz := s.heap.size)
  generalize hAe : va_A [(eO6a no ns nsa nfa nza), (eA0 nsa cNs 12 fNs)] s.heap.size = A at hD ⊢
  have hA : ∀ q : Nat, s.heap.size ≤ q → A q := fun q h => by rw [← hAe]; exact Or.inr h
  obtain ⟨H, rH⟩ : ∃ z : Heap, z = s.heap := ⟨_, rfl⟩
  have hS : va_S A s.heap H [] := by rw [rH]; exact va_S.rf
  have hP : va_P (dC, dI) vwCl [(eO6a no ns nsa nfa nza), (eA0 nsa cNs 12 fNs)] H := by rw [rH]; exact hP
  rw [← rH]
  have hl := lv_entry ([.ref no, .int a0, .int a1]) (n := 3) (Nat.le_of_ble_eq_true rfl)
  rw [lg_entry_eq]
  generalize (lg_sl ([.ref no, .int a0, .int a1]) ++ List.replicate (3 - (lg_sl ([.ref no, .int a0, .int a1])).length) Slot.unset).toArray = ls at hl ⊢
  have hl : lv_has ls 3 [(0, .ref no), (1, .int a0), (2, .int a1)] := hl
  refine lv_iload_n hx hb dX6_drop_0 rfl (lv_at hl 1 rfl) ?_
  refine lv_iload_n hx hb dX6_drop_1 rfl (lv_at hl 2 rfl) ?_
  have hPc := hP.sub (ws' := []) [] rfl
  have hKc := hK.sub (tys' := []) [] rfl
  refine vp_callSi (W.runS (As := [.int a0, .int a1]) (rest := []) ⟨hx, hb, hml, hown, htw⟩ (gn_slotOf l dC dI a0 a1) (va_cwS 2 htw (xg_S (ck_23 _ (List.mem_of_getElem? (i := 21) rfl)) (ck_23 _ (List.mem_of_getElem? (i := 22) rfl)) (ck_2 _ (List.mem_of_getElem? (i := 11) rfl)) (ck_23 _ (List.mem_of_getElem? (i := 23) rfl))) rfl rfl rfl (by exact ⟨hdc_3.1, hdc_3.2, hdd_7⟩) ⟨Nat.le_of_ble_eq_true rfl, Nat.le_of_ble_eq_true rfl⟩) ⟨fun a U g mk q => by obtain ⟨q0, qP, qK⟩ := q; exact ⟨q0, qP, va_K.moved (u := U) (U := U.calling g mk a) (Vm.Alike.refl U.vm) qK⟩, fun U hU hW => ⟨rfl, by rw [hU]; exact hPc, va_K.moved hW.alike hKc⟩⟩ rfl rfl hl.1 rfl (lv_room (Nat.le_of_ble_eq_true rfl)) dX6_drop_2 ⟨Nat.le_of_ble_eq_true rfl, Nat.le_of_ble_eq_true rfl⟩) (fun r_1 hw => ?_)
  try dsimp only at hw
  have hq_r_1 : r_1 = fn_slotOf a0 a1 := hw
  refine lv_iconst (v := (-1)) hx hb dX6_drop_5 (by decide) ?_
  refine lv_icmp_eq (tgt := 23) hx hb dX6_drop_6 (by decide) (fun c_2 => ?_) (fun c_2 => ?_)
  · refine W.widen (k := 0) (n := 0) (by omega) (by omega) ?_
    have hP9 := hP
    have hD9 := hD
    have hK9 := hK.sub (tys' := []) [] rfl
    exact W.vret hx hb hr (fun t ht hW => ⟨⟨fNs, rfl, (by rw [fn_drop]; (try rw [← hq_r_1]); (try rw [if_pos c_2]); try rfl), by rw [ht]; exact hP9, va_K.moved hW.alike hK9, hD9⟩, hS.F ht⟩) hS.2.2 dX6_drop_23
  · refine lv_aload_n hx hb dX6_drop_9 rfl (lv_at hl 0 rfl) ?_
    refine va_get (D := (dC, dI)) (ci := 6) (v := .ref nsa) (C := RX6) (T := TX6) (N := 4) hx hb htw inlX6 hown hK hP 0 rfl rfl 1 (by decide) (htw _ (ck_7 _ (List.mem_of_getElem? (i := 8) rfl))) (fun _ h9 => h9) rfl dX6_drop_10 ?_
    refine lv_iload_n hx hb dX6_drop_13 rfl (lv_at hl 1 rfl) ?_
    refine lv_dup2_11 hx hb dX6_drop_14 rfl rfl ?_
    refine va_iald hx hb hK hP 1 0 rfl rfl (xn_slotn hq_r_1 c_2) dX6_drop_15 ?_
    refine lv_iconst (v := 1) hx hb dX6_drop_16 (by decide) ?_
    refine lv_iload_n hx hb dX6_drop_17 rfl (lv_at hl 2 rfl) ?_
    refine lv_ishl hx hb dX6_drop_18 ?_
    refine lv_iconst (v := (-1)) hx hb dX6_drop_19 (by decide) ?_
    refine lv_ixor hx hb dX6_drop_20 ?_
    refine lv_iand hx hb dX6_drop_21 ?_
    refine va_iast hx hb hK hP hD hS 1 0 rfl rfl (xn_slotn hq_r_1 c_2) dX6_drop_22 (fun H locs hP hD hS => ?_)
    obtain ⟨hP, hD⟩ := zre [(eO6a no ns nsa nfa nza), (eA0 nsa cNs 12 (upd fNs a0.toNatClampNeg ((fNs a0.toNatClampNeg) &&& ((1 <<< (a1 &&& 31)) ^^^ (-1)))))] hP hD rfl
    refine W.widen (k := 0) (n := 0) (by omega) (by omega) ?_
    have hP9 := hP
    have hD9 := hD
    have hK9 := hK.sub (tys' := []) [] rfl
    exact W.vret hx hb hr (fun t ht hW => ⟨⟨(upd fNs a0.toNatClampNeg ((fNs a0.toNatClampNeg) &&& ((1 <<< (a1 &&& 31)) ^^^ (-1)))), rfl, (by rw [fn_drop]; (try rw [← hq_r_1]); (try rw [if_neg c_2]); try rfl), by rw [ht]; exact hP9, va_K.moved hW.alike hK9, hD9⟩, hS.F ht⟩) hS.2.2 dX6_drop_23
