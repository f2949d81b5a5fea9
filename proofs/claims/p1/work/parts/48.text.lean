theorem dJ7_fill_53178_0 : decode cJ7_fill_53178 0 = .ok (.iconst 0, 1) := by decide +kernel
theorem dJ7_fill_53178_1 : decode cJ7_fill_53178 1 = .ok (.istore_n 2, 1) := by decide +kernel
theorem dJ7_fill_53178_2 : decode cJ7_fill_53178 2 = .ok (.aload_n 0, 1) := by decide +kernel
theorem dJ7_fill_53178_3 : decode cJ7_fill_53178 3 = .ok (.arraylength, 1) := by decide +kernel
theorem dJ7_fill_53178_4 : decode cJ7_fill_53178 4 = .ok (.istore_n 3, 1) := by decide +kernel
theorem dJ7_fill_53178_5 : decode cJ7_fill_53178 5 = .ok (.iload_n 2, 1) := by decide +kernel
theorem dJ7_fill_53178_6 : decode cJ7_fill_53178 6 = .ok (.iload_n 3, 1) := by decide +kernel
theorem dJ7_fill_53178_7 : decode cJ7_fill_53178 7 = .ok (.if_icmp .ge 13, 3) := by decide +kernel
theorem dJ7_fill_53178_10 : decode cJ7_fill_53178 10 = .ok (.aload_n 0, 1) := by decide +kernel
theorem dJ7_fill_53178_11 : decode cJ7_fill_53178 11 = .ok (.iload_n 2, 1) := by decide +kernel
theorem dJ7_fill_53178_12 : decode cJ7_fill_53178 12 = .ok (.iload_n 1, 1) := by decide +kernel
theorem dJ7_fill_53178_13 : decode cJ7_fill_53178 13 = .ok (.iastore, 1) := by decide +kernel
theorem dJ7_fill_53178_14 : decode cJ7_fill_53178 14 = .ok (.iinc 2 1, 3) := by decide +kernel
theorem dJ7_fill_53178_17 : decode cJ7_fill_53178 17 = .ok (.goto (-12), 3) := by decide +kernel
theorem dJ7_fill_53178_20 : decode cJ7_fill_53178 20 = .ok (.return_, 1) := by decide +kernel
set_option maxHeartbeats 4000000 in
set_option maxRecDepth 100000 in
theorem mt_fill5 (l : Launch) (dC : Nat → ClassId) (dI : Nat → Nat → Nat) (ro : Nat) (cR : ClassId) (f0 : Nat → Int32) (sz : Nat) : Met l yJ7_fill_53178 (Cond.code yJ7_fill_53178 cJ7_fill_53178 4 none :: wsL_law) ({ frames := 0, cells := 0, slots := 0, locals := 0 }) (va_Pc [.ref ro, .int 0] (fun U => U.heap.size = sz ∧ va_P (dC, dI) vwCl [(ro, .inl (cR, 5, .inl f0))] U.heap ∧ va_K (dC, dI) vwCl [(cR, .int)] U ∧ va_D (fun _ => True) [(ro, .inl (cR, 5, .inl f0))])) (va_Qv (fun (u : (Nat → Int32)) => True) (fun (u : (Nat → Int32)) t => va_P (dC, dI) vwCl [(ro, .inl (cR, 5, .inl u))] t.heap ∧ va_K (dC, dI) vwCl [] t ∧ va_D (va_A [(ro, .inl (cR, 5, .inl f0))] sz) [(ro, .inl (cR, 5, .inl u))]) (va_A [(ro, .inl (cR, 5, .inl f0))] sz)) 0 0 (va_A [(ro, .inl (cR, 5, .inl f0))] sz) := by
  refine Met.ofW (cc := cJ7_fill_53178) (maxL := 4) (ret := none) (by decide) rfl ?_
  intro p e s m args below meth c s₁ B hml hv
  obtain ⟨rfl, hsz, hP, hK, hD0⟩ := hv
  have hx := B.exec
  have hb := B.bytes
  have hr := B.returns
  have hts := atoms_spec (ws := Cond.code yJ7_fill_53178 cJ7_fill_53178 4 none :: wsL_law) B.pre
  have htw : ∀ w ∈ wsL_law, w.before _ s = true := fun w h => hts w (List.mem_cons_of_mem _ h)
  have hown : s.vm.findClass RJ7 = some m.cls := findClass_of_methodNamed B.named
  have hlocks := B.notSynchronized
  subst hsz
  have hD := hD0.self (sz := s.heap.size)
  generalize hAe : va_A [(ro, .inl (cR, 5, .inl f0))] s.heap.size = A at hD ⊢
  have hA : ∀ q : Nat, s.heap.size ≤ q → A q := fun q h => by rw [← hAe]; exact Or.inr h
  obtain ⟨H, rH⟩ : ∃ z : Heap, z = s.heap := ⟨_, rfl⟩
  have hS : va_S A s.heap H [] := by rw [rH]; exact va_S.rf
  have hP : va_P (dC, dI) vwCl [(ro, .inl (cR, 5, .inl f0))] H := by rw [rH]; exact hP
  rw [← rH]
  have hl := lv_entry ([.ref ro, .int 0]) (n := 4) (Nat.le_of_ble_eq_true rfl)
  rw [lg_entry_eq]
  generalize (lg_sl ([.ref ro, .int 0]) ++ List.replicate (4 - (lg_sl ([.ref ro, .int 0])).length) Slot.unset).toArray = ls at hl ⊢
  have hl : lv_has ls 4 [(0, .ref ro), (1, .int 0)] := hl
  refine lv_iconst (v := 0) hx hb dJ7_fill_53178_0 (by decide) ?_
  refine lv_istore_n (lv' := [(2, .int 0), (0, .ref ro), (1, .int 0)]) hx hb dJ7_fill_53178_1 rfl hl (by decide) rfl (fun ls hl => ?_)
  refine lv_aload_n hx hb dJ7_fill_53178_2 rfl (lv_at hl 1 rfl) ?_
  refine va_alen hx hb hK hP 0 0 rfl rfl (v := 5) rfl dJ7_fill_53178_3 ?_
  refine lv_istore_n (lv' := [(3, .int 5), (2, .int 0), (0, .ref ro), (1, .int 0)]) hx hb dJ7_fill_53178_4 rfl hl (by decide) rfl (fun ls hl => ?_)
  refine lv_iload_n hx hb dJ7_fill_53178_5 rfl (lv_at hl 1 rfl) ?_
  refine lv_iload_n hx hb dJ7_fill_53178_6 rfl (lv_at hl 0 rfl) ?_
  refine lv_icmp_ge (tgt := 20) hx hb dJ7_fill_53178_7 (by decide) (fun c => absurd c (by decide)) (fun _ => ?_)
  refine lv_aload_n hx hb dJ7_fill_53178_10 rfl (lv_at hl 2 rfl) ?_
  refine lv_iload_n hx hb dJ7_fill_53178_11 rfl (lv_at hl 1 rfl) ?_
  refine lv_iload_n hx hb dJ7_fill_53178_12 rfl (lv_at hl 3 rfl) ?_
  refine xg_iast hx hb hK hP hD hS 0 0 rfl rfl (by unfold vp_in; decide) dJ7_fill_53178_13 (fun f_1 H locs hP hD hS => ?_)
  have hP : va_P (dC, dI) vwCl [(ro, .inl (cR, 5, .inl f_1))] H := hP
  have hD : va_D A [(ro, .inl (cR, 5, .inl f_1))] := hD
  refine lv_iinc (v := 1) (lv' := [(2, .int 1), (3, .int 5), (0, .ref ro), (1, .int 0)]) hx hb dJ7_fill_53178_14 hl (k := 1) rfl (by decide) (by decide) rfl (fun ls hl => ?_)
  refine lv_goto (tgt := 5) hx hb dJ7_fill_53178_17 (by decide) ?_
  refine lv_iload_n hx hb dJ7_fill_53178_5 rfl (lv_at hl 0 rfl) ?_
  refine lv_iload_n hx hb dJ7_fill_53178_6 rfl (lv_at hl 1 rfl) ?_
  refine lv_icmp_ge (tgt := 20) hx hb dJ7_fill_53178_7 (by decide) (fun c => absurd c (by decide)) (fun _ => ?_)
  refine lv_aload_n hx hb dJ7_fill_53178_10 rfl (lv_at hl 2 rfl) ?_
  refine lv_iload_n hx hb dJ7_fill_53178_11 rfl (lv_at hl 0 rfl) ?_
  refine lv_iload_n hx hb dJ7_fill_53178_12 rfl (lv_at hl 3 rfl) ?_
  refine xg_iast hx hb hK hP hD hS 0 0 rfl rfl (by unfold vp_in; decide) dJ7_fill_53178_13 (fun f_2 H locs hP hD hS => ?_)
  have hP : va_P (dC, dI) vwCl [(ro, .inl (cR, 5, .inl f_2))] H := hP
  have hD : va_D A [(ro, .inl (cR, 5, .inl f_2))] := hD
  refine lv_iinc (v := 2) (lv' := [(2, .int 2), (3, .int 5), (0, .ref ro), (1, .int 0)]) hx hb dJ7_fill_53178_14 hl (k := 0) rfl (by decide) (by decide) rfl (fun ls hl => ?_)
  refine lv_goto (tgt := 5) hx hb dJ7_fill_53178_17 (by decide) ?_
  refine lv_iload_n hx hb dJ7_fill_53178_5 rfl (lv_at hl 0 rfl) ?_
  refine lv_iload_n hx hb dJ7_fill_53178_6 rfl (lv_at hl 1 rfl) ?_
  refine lv_icmp_ge (tgt := 20) hx hb dJ7_fill_53178_7 (by decide) (fun c => absurd c (by decide)) (fun _ => ?_)
  refine lv_aload_n hx hb dJ7_fill_53178_10 rfl (lv_at hl 2 rfl) ?_
  refine lv_iload_n hx hb dJ7_fill_53178_11 rfl (lv_at hl 0 rfl) ?_
  refine lv_iload_n hx hb dJ7_fill_53178_12 rfl (lv_at hl 3 rfl) ?_
  refine xg_iast hx hb hK hP hD hS 0 0 rfl rfl (by unfold vp_in; decide) dJ7_fill_53178_13 (fun f_3 H locs hP hD hS => ?_)
  have hP : va_P (dC, dI) vwCl [(ro, .inl (cR, 5, .inl f_3))] H := hP
  have hD : va_D A [(ro, .inl (cR, 5, .inl f_3))] := hD
  refine lv_iinc (v := 3) (lv' := [(2, .int 3), (3, .int 5), (0, .ref ro), (1, .int 0)]) hx hb dJ7_fill_53178_14 hl (k := 0) rfl (by decide) (by decide) rfl (fun ls hl => ?_)
  refine lv_goto (tgt := 5) hx hb dJ7_fill_53178_17 (by decide) ?_
  refine lv_iload_n hx hb dJ7_fill_53178_5 rfl (lv_at hl 0 rfl) ?_
  refine lv_iload_n hx hb dJ7_fill_53178_6 rfl (lv_at hl 1 rfl) ?_
  refine lv_icmp_ge (tgt := 20) hx hb dJ7_fill_53178_7 (by decide) (fun c => absurd c (by decide)) (fun _ => ?_)
  refine lv_aload_n hx hb dJ7_fill_53178_10 rfl (lv_at hl 2 rfl) ?_
  refine lv_iload_n hx hb dJ7_fill_53178_11 rfl (lv_at hl 0 rfl) ?_
  refine lv_iload_n hx hb dJ7_fill_53178_12 rfl (lv_at hl 3 rfl) ?_
  refine xg_iast hx hb hK hP hD hS 0 0 rfl rfl (by unfold vp_in; decide) dJ7_fill_53178_13 (fun f_4 H locs hP hD hS => ?_)
  have hP : va_P (dC, dI) vwCl [(ro, .inl (cR, 5, .inl f_4))] H := hP
  have hD : va_D A [(ro, .inl (cR, 5, .inl f_4))] := hD
  refine lv_iinc (v := 4) (lv' := [(2, .int 4), (3, .int 5), (0, .ref ro), (1, .int 0)]) hx hb dJ7_fill_53178_14 hl (k := 0) rfl (by decide) (by decide) rfl (fun ls hl => ?_)
  refine lv_goto (tgt := 5) hx hb dJ7_fill_53178_17 (by decide) ?_
  refine lv_iload_n hx hb dJ7_fill_53178_5 rfl (lv_at hl 0 rfl) ?_
  refine lv_iload_n hx hb dJ7_fill_53178_6 rfl (lv_at hl 1 rfl) ?_
  refine lv_icmp_ge (tgt := 20) hx hb dJ7_fill_53178_7 (by decide) (fun c => absurd c (by decide)) (fun _ => ?_)
  refine lv_aload_n hx hb dJ7_fill_53178_10 rfl (lv_at hl 2 rfl) ?_
  refine lv_iload_n hx hb dJ7_fill_53178_11 rfl (lv_at hl 0 rfl) ?_
  refine lv_iload_n hx hb dJ7_fill_53178_12 rfl (lv_at hl 3 rfl) ?_
  refine xg_iast hx hb hK hP hD hS 0 0 rfl rfl (by unfold vp_in; decide) dJ7_fill_53178_13 (fun f_5 H locs hP hD hS => ?_)
  have hP : va_P (dC, dI) vwCl [(ro, .inl (cR, 5, .inl f_5))] H := hP
  have hD : va_D A [(ro, .inl (cR, 5, .inl f_5))] := hD
  refine lv_iinc (v := 5) (lv' := [(2, .int 5), (3, .int 5), (0, .ref ro), (1, .int 0)]) hx hb dJ7_fill_53178_14 hl (k := 0) rfl (by decide) (by decide) rfl (fun ls hl => ?_)
  refine lv_goto (tgt := 5) hx hb dJ7_fill_53178_17 (by decide) ?_
  refine lv_iload_n hx hb dJ7_fill_53178_5 rfl (lv_at hl 0 rfl) ?_
  refine lv_iload_n hx hb dJ7_fill_53178_6 rfl (lv_at hl 1 rfl) ?_
  refine lv_icmp_ge (tgt := 20) hx hb dJ7_fill_53178_7 (by decide) (fun _ => ?_) (fun c => absurd c (by decide))
  refine W.widen (k := 0) (n := 0) (by omega) (by omega) ?_
  have hP9 := hP.sub (ws' := [(ro, .inl (cR, 5, .inl f_5))]) [0] rfl
  have hD9 := hD.sub (ws' := [(ro, .inl (cR, 5, .inl f_5))]) [0] (by decide) rfl
  have hK9 := hK.sub (tys' := []) [] rfl
  exact W.vret hx hb hr (fun t ht hW => ⟨⟨f_5, rfl, trivial, by rw [ht]; exact hP9, va_K.moved hW.alike hK9, hD9⟩, hS.F ht⟩) hS.2.2 dJ7_fill_53178_20

set_option maxHeartbeats 4000000 in
set_option maxRecDepth 100000 in
theorem mt_fill4 (l : Launch) (dC : Nat → ClassId) (dI : Nat → Nat → Nat) (ro : Nat) (cR : ClassId) (f0 : Nat → Int32) (sz : Nat) : Met l yJ7_fill_53178 (Cond.code yJ7_fill_53178 cJ7_fill_53178 4 none :: wsL_law) ({ frames := 0, cells := 0, slots := 0, locals := 0 }) (va_Pc [.ref ro, .int 0] (fun U => U.heap.size = sz ∧ va_P (dC, dI) vwCl [(ro, .inl (cR, 4, .inl f0))] U.heap ∧ va_K (dC, dI) vwCl [(cR, .int)] U ∧ va_D (fun _ => True) [(ro, .inl (cR, 4, .inl f0))])) (va_Qv (fun (u : (Nat → Int32)) => True) (fun (u : (Nat → Int32)) t => va_P (dC, dI) vwCl [(ro, .inl (cR, 4, .inl u))] t.heap ∧ va_K (dC, dI) vwCl [] t ∧ va_D (va_A [(ro, .inl (cR, 4, .inl f0))] sz) [(ro, .inl (cR, 4, .inl u))]) (va_A [(ro, .inl (cR, 4, .inl f0))] sz)) 0 0 (va_A [(ro, .inl (cR, 4, .inl f0))] sz) := by
  refine Met.ofW (cc := cJ7_fill_53178) (maxL := 4) (ret := none) (by decide) rfl ?_
  intro p e s m args below meth c s₁ B hml hv
  obtain ⟨rfl, hsz, hP, hK, hD0⟩ := hv
  have hx := B.exec
  have hb := B.bytes
  have hr := B.returns
  have hts := atoms_spec (ws := Cond.code yJ7_fill_53178 cJ7_fill_53178 4 none :: wsL_law) B.pre
  have htw : ∀ w ∈ wsL_law, w.before _ s = true := fun w h => hts w (List.mem_cons_of_mem _ h)
  have hown : s.vm.findClass RJ7 = some m.cls := findClass_of_methodNamed B.named
  have hlocks := B.notSynchronized
  subst hsz
  have hD := hD0.self (sz := s.heap.size)
  generalize hAe : va_A [(ro, .inl (cR, 4, .inl f0))] s.heap.size = A at hD ⊢
  have hA : ∀ q : Nat, s.heap.size ≤ q → A q := fun q h => by rw [← hAe]; exact Or.inr h
  obtain ⟨H, rH⟩ : ∃ z : Heap, z = s.heap := ⟨_, rfl⟩
  have hS : va_S A s.heap H [] := by rw [rH]; exact va_S.rf
  have hP : va_P (dC, dI) vwCl [(ro, .inl (cR, 4, .inl f0))] H := by rw [rH]; exact hP
  rw [← rH]
  have hl := lv_entry ([.ref ro, .int 0]) (n := 4) (Nat.le_of_ble_eq_true rfl)
  rw [lg_entry_eq]
  generalize (lg_sl ([.ref ro, .int 0]) ++ List.replicate (4 - (lg_sl ([.ref ro, .int 0])).length) Slot.unset).toArray = ls at hl ⊢
  have hl : lv_has ls 4 [(0, .ref ro), (1, .int 0)] := hl
  refine lv_iconst (v := 0) hx hb dJ7_fill_53178_0 (by decide) ?_
  refine lv_istore_n (lv' := [(2, .int 0), (0, .ref ro), (1, .int 0)]) hx hb dJ7_fill_53178_1 rfl hl (by decide) rfl (fun ls hl => ?_)
  refine lv_aload_n hx hb dJ7_fill_53178_2 rfl (lv_at hl 1 rfl) ?_
  refine va_alen hx hb hK hP 0 0 rfl rfl (v := 4) rfl dJ7_fill_53178_3 ?_
  refine lv_istore_n (lv' := [(3, .int 4), (2, .int 0), (0, .ref ro), (1, .int 0)]) hx hb dJ7_fill_53178_4 rfl hl (by decide) rfl (fun ls hl => ?_)
  refine lv_iload_n hx hb dJ7_fill_53178_5 rfl (lv_at hl 1 rfl) ?_
  refine lv_iload_n hx hb dJ7_fill_53178_6 rfl (lv_at hl 0 rfl) ?_
  refine lv_icmp_ge (tgt := 20) hx hb dJ7_fill_53178_7 (by decide) (fun c => absurd c (by decide)) (fun _ => ?_)
  refine lv_aload_n hx hb dJ7_fill_53178_10 rfl (lv_at hl 2 rfl) ?_
  refine lv_iload_n hx hb dJ7_fill_53178_11 rfl (lv_at hl 1 rfl) ?_
  refine lv_iload_n hx hb dJ7_fill_53178_12 rfl (lv_at hl 3 rfl) ?_
  refine xg_iast hx hb hK hP hD hS 0 0 rfl rfl (by unfold vp_in; decide) dJ7_fill_53178_13 (fun f_1 H locs hP hD hS => ?_)
  have hP : va_P (dC, dI) vwCl [(ro, .inl (cR, 4, .inl f_1))] H := hP
  have hD : va_D A [(ro, .inl (cR, 4, .inl f_1))] := hD
  refine lv_iinc (v := 1) (lv' := [(2, .int 1), (3, .int 4), (0, .ref ro), (1, .int 0)]) hx hb dJ7_fill_53178_14 hl (k := 1) rfl (by decide) (by decide) rfl (fun ls hl => ?_)
  refine lv_goto (tgt := 5) hx hb dJ7_fill_53178_17 (by decide) ?_
  refine lv_iload_n hx hb dJ7_fill_53178_5 rfl (lv_at hl 0 rfl) ?_
  refine lv_iload_n hx hb dJ7_fill_53178_6 rfl (lv_at hl 1 rfl) ?_
  refine lv_icmp_ge (tgt := 20) hx hb dJ7_fill_53178_7 (by decide) (fun c => absurd c (by decide)) (fun _ => ?_)
  refine lv_aload_n hx hb dJ7_fill_53178_10 rfl (lv_at hl 2 rfl) ?_
  refine lv_iload_n hx hb dJ7_fill_53178_11 rfl (lv_at hl 0 rfl) ?_
  refine lv_iload_n hx hb dJ7_fill_53178_12 rfl (lv_at hl 3 rfl) ?_
  refine xg_iast hx hb hK hP hD hS 0 0 rfl rfl (by unfold vp_in; decide) dJ7_fill_53178_13 (fun f_2 H locs hP hD hS => ?_)
  have hP : va_P (dC, dI) vwCl [(ro, .inl (cR, 4, .inl f_2))] H := hP
  have hD : va_D A [(ro, .inl (cR, 4, .inl f_2))] := hD
  refine lv_iinc (v := 2) (lv' := [(2, .int 2), (3, .int 4), (0, .ref ro), (1, .int 0)]) hx hb dJ7_fill_53178_14 hl (k := 0) rfl (by decide) (by decide) rfl (fun ls hl => ?_)
  refine lv_goto (tgt := 5) hx hb dJ7_fill_53178_17 (by decide) ?_
  refine lv_iload_n hx hb dJ7_fill_53178_5 rfl (lv_at hl 0 rfl) ?_
  refine lv_iload_n hx hb dJ7_fill_53178_6 rfl (lv_at hl 1 rfl) ?_
  refine lv_icmp_ge (tgt := 20) hx hb dJ7_fill_53178_7 (by decide) (fun c => absurd c (by decide)) (fun _ => ?_)
  refine lv_aload_n hx hb dJ7_fill_53178_10 rfl (lv_at hl 2 rfl) ?_
  refine lv_iload_n hx hb dJ7_fill_53178_11 rfl (lv_at hl 0 rfl) ?_
  refine lv_iload_n hx hb dJ7_fill_53178_12 rfl (lv_at hl 3 rfl) ?_
  refine xg_iast hx hb hK hP hD hS 0 0 rfl rfl (by unfold vp_in; decide) dJ7_fill_53178_13 (fun f_3 H locs hP hD hS => ?_)
  have hP : va_P (dC, dI) vwCl [(ro, .inl (cR, 4, .inl f_3))] H := hP
  have hD : va_D A [(ro, .inl (cR, 4, .inl f_3))] := hD
  refine lv_iinc (v := 3) (lv' := [(2, .int 3), (3, .int 4), (0, .ref ro), (1, .int 0)]) hx hb dJ7_fill_53178_14 hl (k := 0) rfl (by decide) (by decide) rfl (fun ls hl => ?_)
  refine lv_goto (tgt := 5) hx hb dJ7_fill_53178_17 (by decide) ?_
  refine lv_iload_n hx hb dJ7_fill_53178_5 rfl (lv_at hl 0 rfl) ?_
  refine lv_iload_n hx hb dJ7_fill_53178_6 rfl (lv_at hl 1 rfl) ?_
  refine lv_icmp_ge (tgt := 20) hx hb dJ7_fill_53178_7 (by decide) (fun c => absurd c (by decide)) (fun _ => ?_)
  refine lv_aload_n hx hb dJ7_fill_53178_10 rfl (lv_at hl 2 rfl) ?_
  refine lv_iload_n hx hb dJ7_fill_53178_11 rfl (lv_at hl 0 rfl) ?_
  refine lv_iload_n hx hb dJ7_fill_53178_12 rfl (lv_at hl 3 rfl) ?_
  refine xg_iast hx hb hK hP hD hS 0 0 rfl rfl (by unfold vp_in; decide) dJ7_fill_53178_13 (fun f_4 H locs hP hD hS => ?_)
  have hP : va_P (dC, dI) vwCl [(ro, .inl (cR, 4, .inl f_4))] H := hP
  have hD : va_D A [(ro, .inl (cR, 4, .inl f_4))] := hD
  refine lv_iinc (v := 4) (lv' := [(2, .int 4), (3, .int 4), (0, .ref ro), (1, .int 0)]) hx hb dJ7_fill_53178_14 hl (k := 0) rfl (by decide) (by decide) rfl (fun ls hl => ?_)
  refine lv_goto (tgt := 5) hx hb dJ7_fill_53178_17 (by decide) ?_
  refine lv_iload_n hx hb dJ7_fill_53178_5 rfl (lv_at hl 0 rfl) ?_
  refine lv_iload_n hx hb dJ7_fill_53178_6 rfl (lv_at hl 1 rfl) ?_
  refine lv_icmp_ge (tgt := 20) hx hb dJ7_fill_53178_7 (by decide) (fun _ => ?_) (fun c => absurd c (by decide))
  refine W.widen (k := 0) (n := 0) (by omega) (by omega) ?_
  have hP9 := hP.sub (ws' := [(ro, .inl (cR, 4, .inl f_4))]) [0] rfl
  have hD9 := hD.sub (ws' := [(ro, .inl (cR, 4, .inl f_4))]) [0] (by decide) rfl
  have hK9 := hK.sub (tys' := []) [] rfl
  exact W.vret hx hb hr (fun t ht hW => ⟨⟨f_4, rfl, trivial, by rw [ht]; exact hP9, va_K.moved hW.alike hK9, hD9⟩, hS.F ht⟩) hS.2.2 dJ7_fill_53178_20

theorem dX8_clear_0 : decode cX8_clear 0 = .ok (.aload_n 0, 1) := by decide +kernel
theorem dX8_clear_1 : decode cX8_clear 1 = .ok (.iconst 0, 1) := by decide +kernel
theorem dX8_clear_2 : decode cX8_clear 2 = .ok (.putfield 27, 3) := by decide +kernel
theorem dX8_clear_5 : decode cX8_clear 5 = .ok (.aload_n 0, 1) := by decide +kernel
theorem dX8_clear_6 : decode cX8_clear 6 = .ok (.iconst 0, 1) := by decide +kernel
theorem dX8_clear_7 : decode cX8_clear 7 = .ok (.putfield 31, 3) := by decide +kernel
theorem dX8_clear_10 : decode cX8_clear 10 = .ok (.aload_n 0, 1) := by decide +kernel
theorem dX8_clear_11 : decode cX8_clear 11 = .ok (.getfield 20, 3) := by decide +kernel
theorem dX8_clear_14 : decode cX8_clear 14 = .ok (.iconst 0, 1) := by decide +kernel
theorem dX8_clear_15 : decode cX8_clear 15 = .ok (.invokestatic 34, 3) := by decide +kernel
theorem dX8_clear_18 : decode cX8_clear 18 = .ok (.return_, 1) := by decide +kernel
set_option maxHeartbeats 4000000 in
set_option maxRecDepth 100000 in
theorem mt_rclear (l : Launch) (dC : Nat → ClassId) (dI : Nat → Nat → Nat) (bru : Nat) (bruc : Nat) (brue : Nat) (bruk : Nat) (cE : ClassId) (f0 : Nat → Int32) (sz : Nat) : Met l yX8_clear (Cond.code yX8_clear cX8_clear 1 none :: wsL_law) ({ frames := 1, cells := 0, slots := 0, locals := 23 }) (va_Pc [.ref bru] (fun U => U.heap.size = sz ∧ va_P (dC, dI) vwCl [(bru, .inr (8, [.ref bruc, .int 0, .ref brue, .ref bruk, .int 0])), (brue, .inl (cE, 4, .inl f0))] U.heap ∧ va_K (dC, dI) vwCl [(cE, .int)] U ∧ va_D (fun _ => True) [(bru, .inr (8, [.ref bruc, .int 0, .ref brue, .ref bruk, .int 0])), (brue, .inl (cE, 4, .inl f0))])) (va_Qv (fun (u : (Nat → Int32)) => True) (fun (u : (Nat → Int32)) t => va_P (dC, dI) vwCl [(bru, .inr (8, [.ref bruc, .int 0, .ref brue, .ref bruk, .int 0])), (brue, .inl (cE, 4, .inl u))] t.heap ∧ va_K (dC, dI) vwCl [] t ∧ va_D (va_A [(bru, .inr (8, [.ref bruc, .int 0, .ref brue, .ref bruk, .int 0])), (brue, .inl (cE, 4, .inl f0))] sz) [(bru, .inr (8, [.ref bruc, .int 0, .ref brue, .ref bruk, .int 0])), (brue, .inl (cE, 4, .inl u))]) (va_A [(bru, .inr (8, [.ref bruc, .int 0, .ref brue, .ref bruk, .int 0])), (brue, .inl (cE, 4, .inl f0))] sz)) 0 0 (va_A [(bru, .inr (8, [.ref bruc, .int 0, .ref brue, .ref bruk, .int 0])), (brue, .inl (cE, 4, .inl f0))] sz) := by
  refine Met.ofW (cc := cX8_clear) (maxL := 1) (ret := none) (by decide) rfl ?_
  intro p e s m args below meth c s₁ B hml hv
  obtain ⟨rfl, hsz, hP, hK, hD0⟩ := hv
  have hx := B.exec
  have hb := B.bytes
  have hr := B.returns
  have hts := atoms_spec (ws := Cond.code yX8_clear cX8_clear 1 none :: wsL_law) B.pre
  have htw : ∀ w ∈ wsL_law, w.before _ s = true := fun w h => hts w (List.mem_cons_of_mem _ h)
  have hown : s.vm.findClass RX8 = some m.cls := findClass_of_methodNamed B.named
  have hlocks := B.notSynchronized
  subst hsz
  have hD := hD0.self (sz := s.heap.size)
  generalize hAe : va_A [(bru, .inr (8, [.ref bruc, .int 0, .ref brue, .ref bruk, .int 0])), (brue, .inl (cE, 4, .inl f0))] s.heap.size = A at hD ⊢
  have hA : ∀ q : Nat, s.heap.size ≤ q → A q := fun q h => by rw [← hAe]; exact Or.inr h
  obtain ⟨H, rH⟩ : ∃ z : Heap, z = s.heap := ⟨_, rfl⟩
  have hS : va_S A s.heap H [] := by rw [rH]; exact va_S.rf
  have hP : va_P (dC, dI) vwCl [(bru, .inr (8, [.ref bruc, .int 0, .ref brue, .ref bruk, .int 0])), (brue, .inl (cE, 4, .inl f0))] H := by rw [rH]; exact hP
  rw [← rH]
  have hl := lv_entry ([.ref bru]) (n := 1) (Nat.le_of_ble_eq_true rfl)
  rw [lg_entry_eq]
  generalize (lg_sl ([.ref bru]) ++ List.replicate (1 - (lg_sl ([.ref bru])).length) Slot.unset).toArray = ls at hl ⊢
  have hl : lv_has ls 1 [(0, .ref bru)] := hl
  refine lv_aload_n hx hb dX8_clear_0 rfl (lv_at hl 0 rfl) ?_
  refine lv_iconst (v := 0) hx hb dX8_clear_1 (by decide) ?_
  refine va_put (D := (dC, dI)) (ci := 8) (v := .int 0) (ty := tyX8 1) (C := RX8) (T := TX8) (N := 5) hx hb htw inlX8 tyX8 tyX8_ok nmX8 hown hK hP hD hS 0 rfl rfl 1 (by decide) (htw _ (ck_13 _ (List.mem_of_getElem? (i := 23) rfl))) (fun _ h9 => h9) rfl (by decide +kernel) rfl rfl (Nat.le_of_ble_eq_true rfl) dX8_clear_2 (fun H locs hP hD hS => ?_)
  have hP : va_P (dC, dI) vwCl [(bru, .inr (8, [.ref bruc, .int 0, .ref brue, .ref bruk, .int 0])), (brue, .inl (cE, 4, .inl f0))] H := hP
  have hD : va_D A [(bru, .inr (8, [.ref bruc, .int 0, .ref brue, .ref bruk, .int 0])), (brue, .inl (cE, 4, .inl f0))] := hD
  refine lv_aload_n hx hb dX8_clear_5 rfl (lv_at hl 0 rfl) ?_
  refine lv_iconst (v := 0) hx hb dX8_clear_6 (by decide) ?_
  refine va_put (D := (dC, dI)) (ci := 8) (v := .int 0) (ty := tyX8 4) (C := RX8) (T := TX8) (N := 5) hx hb htw inlX8 tyX8 tyX8_ok nmX8 hown hK hP hD hS 0 rfl rfl 4 (by decide) (htw _ (ck_14 _ (List.mem_of_getElem? (i := 0) rfl))) (fun _ h9 => h9) rfl (by decide +kernel) rfl rfl (Nat.le_of_ble_eq_true rfl) dX8_clear_7 (fun H locs hP hD hS => ?_)
  have hP : va_P (dC, dI) vwCl [(bru, .inr (8, [.ref bruc, .int 0, .ref brue, .ref bruk, .int 0])), (brue, .inl (cE, 4, .inl f0))] H := hP
  have hD : va_D A [(bru, .inr (8, [.ref bruc, .int 0, .ref brue, .ref bruk, .int 0])), (brue, .inl (cE, 4, .inl f0))] := hD
  refine lv_aload_n hx hb dX8_clear_10 rfl (lv_at hl 0 rfl) ?_
  refine va_get (D := (dC, dI)) (ci := 8) (v := .ref brue) (C := RX8) (T := TX8) (N := 5) hx hb htw inlX8 hown hK hP 0 rfl rfl 2 (by decide) (htw _ (ck_7 _ (List.mem_of_getElem? (i := 3) rfl))) (fun _ h9 => h9) rfl dX8_clear_11 ?_
  refine lv_iconst (v := 0) hx hb dX8_clear_14 (by decide) ?_
  have hPc := hP.sub (ws' := [(brue, .inl (cE, 4, .inl f0))]) [1] rfl
  have hKc := hK.sub (tys' := [(cE, .int)]) [0] rfl
  have hDc := hD.sub (ws' := [(brue, .inl (cE, 4, .inl f0))]) [1] (by decide) rfl
  have hFc := va_free (wc := [(brue, .inl (cE, 4, .inl f0))]) hD hS hA [1] rfl
  refine va_callv (va_runS (As := [.ref brue, .int 0]) (rest := []) ⟨hx, hb, hml, hown, htw⟩ (mt_fill4 l dC dI brue cE f0 H.size) (va_cwS 2 htw (xg_S (ck_14 _ (List.mem_of_getElem? (i := 1) rfl)) (ck_13 _ (List.mem_of_getElem? (i := 16) rfl)) (ck_13 _ (List.mem_of_getElem? (i := 17) rfl)) (ck_13 _ (List.mem_of_getElem? (i := 18) rfl))) rfl rfl rfl (by decide +kernel) ⟨Nat.le_of_ble_eq_true rfl, Nat.le_of_ble_eq_true rfl⟩) ⟨fun a U g mk q => by obtain ⟨q0, q1, qP, qK, qD⟩ := q; exact ⟨q0, q1, qP, va_K.moved (u := U) (U := U.calling g mk a) (Vm.Alike.refl U.vm) qK, qD⟩, fun U hU hW => ⟨rfl, by rw [hU], by rw [hU]; exact hPc, va_K.moved hW.alike hKc, hDc.weaken (fun _ _ _ _ => trivial)⟩⟩ rfl rfl hl.1 rfl (lv_room (Nat.le_of_ble_eq_true rfl)) dX8_clear_15 ⟨Nat.le_of_ble_eq_true rfl, Nat.le_of_ble_eq_true rfl⟩) hS (fun q _ h => hFc q h) hFc (fun u_2 t H1 locs ht hvm hw hB hz1 hk1 hS => ?_)
  try dsimp only at hw
  obtain ⟨hP1, hK1, hD1⟩ := hB
  rw [ht] at hP1
  have hK1 := va_K.moved hvm.symm hK1
  have hP1 : va_P (dC, dI) vwCl [(brue, .inl (cE, 4, .inl u_2))] H1 := hP1
  have hD1 : va_D (va_A [(brue, .inl (cE, 4, .inl f0))] H.size) [(brue, .inl (cE, 4, .inl u_2))] := hD1
  have hK1 : va_K (dC, dI) vwCl [] s := hK1
  obtain ⟨hP, hD⟩ := va_join (wr := [(bru, .inr (8, [.ref bruc, .int 0, .ref brue, .ref bruk, .int 0]))]) (w1 := [(brue, .inl (cE, 4, .inl u_2))]) hP hD [1] [0] rfl rfl (by decide) (by decide) hk1 hFc hP1 hD1
  generalize H1 = H at hP hS ⊢
  have hP : va_P (dC, dI) vwCl [(bru, .inr (8, [.ref bruc, .int 0, .ref brue, .ref bruk, .int 0])), (brue, .inl (cE, 4, .inl u_2))] H := hP
  have hD : va_D A [(bru, .inr (8, [.ref bruc, .int 0, .ref brue, .ref bruk, .int 0])), (brue, .inl (cE, 4, .inl u_2))] := hD
  refine W.widen (k := 0) (n := 0) (by omega) (by omega) ?_
  refine W.widen (k := 0) (n := 0) (by omega) (by omega) ?_
  have hP9 := hP.sub (ws' := [(bru, .inr (8, [.ref bruc, .int 0, .ref brue, .ref bruk, .int 0])), (brue, .inl (cE, 4, .inl u_2))]) [0, 1] rfl
  have hD9 := hD.sub (ws' := [(bru, .inr (8, [.ref bruc, .int 0, .ref brue, .ref bruk, .int 0])), (brue, .inl (cE, 4, .inl u_2))]) [0, 1] (by decide) rfl
  have hK9 := hK.sub (tys' := []) [] rfl
  exact W.vret hx hb hr (fun t ht hW => ⟨⟨u_2, rfl, trivial, by rw [ht]; exact hP9, va_K.moved hW.alike hK9, hD9⟩, hS.F ht⟩) hS.2.2 dX8_clear_18

theorem dX0_clear_0 : decode cX0_clear 0 = .ok (.aload_n 0, 1) := by decide +kernel
theorem dX0_clear_1 : decode cX0_clear 1 = .ok (.getfield 9, 3) := by decide +kernel
theorem dX0_clear_4 : decode cX0_clear 4 = .ok (.iconst 0, 1) := by decide +kernel
theorem dX0_clear_5 : decode cX0_clear 5 = .ok (.invokestatic 73, 3) := by decide +kernel
theorem dX0_clear_8 : decode cX0_clear 8 = .ok (.aload_n 0, 1) := by decide +kernel
theorem dX0_clear_9 : decode cX0_clear 9 = .ok (.getfield 32, 3) := by decide +kernel
theorem dX0_clear_12 : decode cX0_clear 12 = .ok (.invokevirtual 70, 3) := by decide +kernel
theorem dX0_clear_15 : decode cX0_clear 15 = .ok (.aload_n 0, 1) := by decide +kernel
theorem dX0_clear_16 : decode cX0_clear 16 = .ok (.getfield 39, 3) := by decide +kernel
theorem dX0_clear_19 : decode cX0_clear 19 = .ok (.invokevirtual 79, 3) := by decide +kernel
theorem dX0_clear_22 : decode cX0_clear 22 = .ok (.aload_n 0, 1) := by decide +kernel
theorem dX0_clear_23 : decode cX0_clear 23 = .ok (.getfield 65, 3) := by decide +kernel
theorem dX0_clear_26 : decode cX0_clear 26 = .ok (.iconst 0, 1) := by decide +kernel
theorem dX0_clear_27 : decode cX0_clear 27 = .ok (.putfield 80, 3) := by decide +kernel
theorem dX0_clear_30 : decode cX0_clear 30 = .ok (.return_, 1) := by decide +kernel
set_option maxHeartbeats 4000000 in
set_option maxRecDepth 100000 in
theorem mt_bclear (l : Launch) (dC : Nat → ClassId) (dI : Nat → Nat → Nat) (b : Nat) (bto : Nat) (bnm : Nat) (bla : Nat) (bsk : Nat) (bru : Nat) (bbo : Nat) (bdi : Nat) (bda : Nat) (bdk : Nat) (bdt : Nat) (bdp : Nat) (bno : Nat) (bruc : Nat) (brue : Nat) (bruk : Nat) (bnos : Nat) (bnof : Nat) (bnoz : Nat) (cT : ClassId) (cE : ClassId) (f0 : Nat → Int32) (f1 : Nat → Int32) (sz : Nat) : Met l yX0_clear (Cond.code yX0_clear cX0_clear 1 none :: wsL_law) ({ frames := 2, cells := 0, slots := 0, locals := 43 }) (va_Pc [.ref b] (fun U => U.heap.size = sz ∧ va_P (dC, dI) vwCl [(b, .inr (0, [.ref bto, .ref bnm, .ref bla, .ref bsk, .ref bru, .ref bbo, .ref bdi, .ref bda, .ref bdk, .ref bdt, .ref bdp, .ref bno])), (bto, .inl (cT, 5, .inl f0)), (bsk, .inr (9, [.int 7, .int 0, .int 59, .int 2, .int 0, .int 1461, .int 4])), (bru, .inr (8, [.ref bruc, .int 0, .ref brue, .ref bruk, .int 0])), (brue, .inl (cE, 4, .inl f1)), (bno, .inr (6, [.int 0, .ref bnos, .ref bnof, .ref bnoz]))] U.heap ∧ va_K (dC, dI) vwCl [(cT, .int), (cE, .int)] U ∧ va_D (fun _ => True) [(b, .inr (0, [.ref bto, .ref bnm, .ref bla, .ref bsk, .ref bru, .ref bbo, .ref bdi, .ref bda, .ref bdk, .ref bdt, .ref bdp, .ref bno])), (bto, .inl (cT, 5, .inl f0)), (bsk, .inr (9, [.int 7, .int 0, .int 59, .int 2, .int 0, .int 1461, .int 4])), (bru, .inr (8, [.ref bruc, .int 0, .ref brue, .ref bruk, .int 0])), (brue, .inl (cE, 4, .inl f1)), (bno, .inr (6, [.int 0, .ref bnos, .ref bnof, .ref bnoz]))])) (va_Qv (fun (u : Unit) => True) (fun _ _ => True) (va_A [(b, .inr (0, [.ref bto, .ref bnm, .ref bla, .ref bsk, .ref bru, .ref bbo, .ref bdi, .ref bda, .ref bdk, .ref bdt, .ref bdp, .ref bno])), (bto, .inl (cT, 5, .inl f0)), (bsk, .inr (9, [.int 7, .int 0, .int 59, .int 2, .int 0, .int 1461, .int 4])), (bru, .inr (8, [.ref bruc, .int 0, .ref brue, .ref bruk, .int 0])), (brue, .inl (cE, 4, .inl f1)), (bno, .inr (6, [.int 0, .ref bnos, .ref bnof, .ref bnoz]))] sz)) 0 0 (va_A [(b, .inr (0, [.ref bto, .ref bnm, .ref bla, .ref bsk, .ref bru, .ref bbo, .ref bdi, .ref bda, .ref bdk, .ref bdt, .ref bdp, .ref bno])), (bto, .inl (cT, 5, .inl f0)), (bsk, .inr (9, [.int 7, .int 0, .int 59, .int 2, .int 0, .int 1461, .int 4])), (bru, .inr (8, [.ref bruc, .int 0, .ref brue, .ref bruk, .int 0])), (brue, .inl (cE, 4, .inl f1)), (bno, .inr (6, [.int 0, .ref bnos, .ref bnof, .ref bnoz]))] sz) := by
  refine Met.ofW (cc := cX0_clear) (maxL := 1) (ret := none) (by decide) rfl ?_
  intro p e s m args below meth c s₁ B hml hv
  obtain ⟨rfl, hsz, hP, hK, hD0⟩ := hv
  have hx := B.exec
  have hb := B.bytes
  have hr := B.returns
  have hts := atoms_spec (ws := Cond.code yX0_clear cX0_clear 1 none :: wsL_law) B.pre
  have htw : ∀ w ∈ wsL_law, w.before _ s = true := fun w h => hts w (List.mem_cons_of_mem _ h)
  have hown : s.vm.findClass RX0 = some m.cls := findClass_of_methodNamed B.named
  have hlocks := B.notSynchronized
  subst hsz
  have hD := hD0.self (sz := s.heap.size)
  generalize hAe : va_A [(b, .inr (0, [.ref bto, .ref bnm, .ref bla, .ref bsk, .ref bru, .ref bbo, .ref bdi, .ref bda, .ref bdk, .ref bdt, .ref bdp, .ref bno])), (bto, .inl (cT, 5, .inl f0)), (bsk, .inr (9, [.int 7, .int 0, .int 59, .int 2, .int 0, .int 1461, .int 4])), (bru, .inr (8, [.ref bruc, .int 0, .ref brue, .ref bruk, .int 0])), (brue, .inl (cE, 4, .inl f1)), (bno, .inr (6, [.int 0, .ref bnos, .ref bnof, .ref bnoz]))] s.heap.size = A at hD ⊢
  have hA : ∀ q : Nat, s.heap.size ≤ q → A q := fun q h => by rw [← hAe]; exact Or.inr h
  obtain ⟨H, rH⟩ : ∃ z : Heap, z = s.heap := ⟨_, rfl⟩
  have hS : va_S A s.heap H [] := by rw [rH]; exact va_S.rf
  have hP : va_P (dC, dI) vwCl [(b, .inr (0, [.ref bto, .ref bnm, .ref bla, .ref bsk, .ref bru, .ref bbo, .ref bdi, .ref bda, .ref bdk, .ref bdt, .ref bdp, .ref bno])), (bto, .inl (cT, 5, .inl f0)), (bsk, .inr (9, [.int 7, .int 0, .int 59, .int 2, .int 0, .int 1461, .int 4])), (bru, .inr (8, [.ref bruc, .int 0, .ref brue, .ref bruk, .int 0])), (brue, .inl (cE, 4, .inl f1)), (bno, .inr (6, [.int 0, .ref bnos, .ref bnof, .ref bnoz]))] H := by rw [rH]; exact hP
  rw [← rH]
  have hl := lv_entry ([.ref b]) (n := 1) (Nat.le_of_ble_eq_true rfl)
  rw [lg_entry_eq]
  generalize (lg_sl ([.ref b]) ++ List.replicate (1 - (lg_sl ([.ref b])).length) Slot.unset).toArray = ls at hl ⊢
  have hl : lv_has ls 1 [(0, .ref b)] := hl
  refine lv_aload_n hx hb dX0_clear_0 rfl (lv_at hl 0 rfl) ?_
  refine va_get (D := (dC, dI)) (ci := 0) (v := .ref bto) (C := RX0) (T := TX0) (N := 12) hx hb htw inlX0 hown hK hP 0 rfl rfl 0 (by decide) (htw _ (ck_5 _ (List.mem_of_getElem? (i := 21) rfl))) (fun _ h9 => h9) rfl dX0_clear_1 ?_
  refine lv_iconst (v := 0) hx hb dX0_clear_4 (by decide) ?_
  have hPc := hP.sub (ws' := [(bto, .inl (cT, 5, .inl f0))]) [1] rfl
  have hKc := hK.sub (tys' := [(cT, .int)]) [0] rfl
  have hDc := hD.sub (ws' := [(bto, .inl (cT, 5, .inl f0))]) [1] (by decide) rfl
  have hFc := va_free (wc := [(bto, .inl (cT, 5, .inl f0))]) hD hS hA [1] rfl
  refine va_callv (va_runS (As := [.ref bto, .int 0]) (rest := []) ⟨hx, hb, hml, hown, htw⟩ (mt_fill5 l dC dI bto cT f0 H.size) (va_cwS 2 htw (xg_S (ck_13 _ (List.mem_of_getElem? (i := 15) rfl)) (ck_13 _ (List.mem_of_getElem? (i := 16) rfl)) (ck_13 _ (List.mem_of_getElem? (i := 17) rfl)) (ck_13 _ (List.mem_of_getElem? (i := 18) rfl))) rfl rfl rfl (by decide +kernel) ⟨Nat.le_of_ble_eq_true rfl, Nat.le_of_ble_eq_true rfl⟩) ⟨fun a U g mk q => by obtain ⟨q0, q1, qP, qK, qD⟩ := q; exact ⟨q0, q1, qP, va_K.moved (u := U) (U := U.calling g mk a) (Vm.Alike.refl U.vm) qK, qD⟩, fun U hU hW => ⟨rfl, by rw [hU], by rw [hU]; exact hPc, va_K.moved hW.alike hKc, hDc.weaken (fun _ _ _ _ => trivial)⟩⟩ rfl rfl hl.1 rfl (lv_room (Nat.le_of_ble_eq_true rfl)) dX0_clear_5 ⟨Nat.le_of_ble_eq_true rfl, Nat.le_of_ble_eq_true rfl⟩) hS (fun q _ h => hFc q h) hFc (fun u_2 t H1 locs ht hvm hw hB hz1 hk1 hS => ?_)
  try dsimp only at hw
  obtain ⟨hP1, hK1, hD1⟩ := hB
  rw [ht] at hP1
  have hK1 := va_K.moved hvm.symm hK1
  have hP1 : va_P (dC, dI) vwCl [(bto, .inl (cT, 5, .inl u_2))] H1 := hP1
  have hD1 : va_D (va_A [(bto, .inl (cT, 5, .inl f0))] H.size) [(bto, .inl (cT, 5, .inl u_2))] := hD1
  have hK1 : va_K (dC, dI) vwCl [] s := hK1
  obtain ⟨hP, hD⟩ := va_join (wr := [(b, .inr (0, [.ref bto, .ref bnm, .ref bla, .ref bsk, .ref bru, .ref bbo, .ref bdi, .ref bda, .ref bdk, .ref bdt, .ref bdp, .ref bno])), (bsk, .inr (9, [.int 7, .int 0, .int 59, .int 2, .int 0, .int 1461, .int 4])), (bru, .inr (8, [.ref bruc, .int 0, .ref brue, .ref bruk, .int 0])), (brue, .inl (cE, 4, .inl f1)), (bno, .inr (6, [.int 0, .ref bnos, .ref bnof, .ref bnoz]))]) (w1 := [(bto, .inl (cT, 5, .inl u_2))]) hP hD [1] [0, 2, 3, 4, 5] rfl rfl (by decide) (by decide) hk1 hFc hP1 hD1
  generalize H1 = H at hP hS ⊢
  have hP : va_P (dC, dI) vwCl [(b, .inr (0, [.ref bto, .ref bnm, .ref bla, .ref bsk, .ref bru, .ref bbo, .ref bdi, .ref bda, .ref bdk, .ref bdt, .ref bdp, .ref bno])), (bsk, .inr (9, [.int 7, .int 0, .int 59, .int 2, .int 0, .int 1461, .int 4])), (bru, .inr (8, [.ref bruc, .int 0, .ref brue, .ref bruk, .int 0])), (brue, .inl (cE, 4, .inl f1)), (bno, .inr (6, [.int 0, .ref bnos, .ref bnof, .ref bnoz])), (bto, .inl (cT, 5, .inl u_2))] H := hP
  have hD : va_D A [(b, .inr (0, [.ref bto, .ref bnm, .ref bla, .ref bsk, .ref bru, .ref bbo, .ref bdi, .ref bda, .ref bdk, .ref bdt, .ref bdp, .ref bno])), (bsk, .inr (9, [.int 7, .int 0, .int 59, .int 2, .int 0, .int 1461, .int 4])), (bru, .inr (8, [.ref bruc, .int 0, .ref brue, .ref bruk, .int 0])), (brue, .inl (cE, 4, .inl f1)), (bno, .inr (6, [.int 0, .ref bnos, .ref bnof, .ref bnoz])), (bto, .inl (cT, 5, .inl u_2))] := hD
  refine W.widen (k := 0) (n := 0) (by omega) (by omega) ?_
  refine lv_aload_n hx hb dX0_clear_8 rfl (lv_at hl 0 rfl) ?_
  refine va_get (D := (dC, dI)) (ci := 0) (v := .ref bsk) (C := RX0) (T := TX0) (N := 12) hx hb htw inlX0 hown hK hP 0 rfl rfl 3 (by decide) (htw _ (ck_6 _ (List.mem_of_getElem? (i := 5) rfl))) (fun _ h9 => h9) rfl dX0_clear_9 ?_
  have hPc := hP.sub (ws' := [(bsk, .inr (9, [.int 7, .int 0, .int 59, .int 2, .int 0, .int 1461, .int 4]))]) [1] rfl
  have hKc := hK.sub (tys' := []) [] rfl
  have hDc := hD.sub (ws' := [(bsk, .inr (9, [.int 7, .int 0, .int 59, .int 2, .int 0, .int 1461, .int 4]))]) [1] (by decide) rfl
  have hFc := va_free (wc := [(bsk, .inr (9, [.int 7, .int 0, .int 59, .int 2, .int 0, .int 1461, .int 4]))]) hD hS hA [1] rfl
  refine va_callv (va_runV (As := []) (rest := []) ⟨hx, hb, hml, hown, htw⟩ (mc_skyclear l dC dI bsk (7 : Int32) (0 : Int32) (59 : Int32) (2 : Int32) (0 : Int32) (1461 : Int32) (4 : Int32) H.size) (cwV 0 htw (xg_V (ck_7 _ (List.mem_of_getElem? (i := 15) rfl)) (ck_7 _ (List.mem_of_getElem? (i := 16) rfl)) (ck_7 _ (List.mem_of_getElem? (i := 17) rfl)) (ck_6 _ (List.mem_of_getElem? (i := 4) rfl)) (ck_7 _ (List.mem_of_getElem? (i := 18) rfl))) rfl rfl rfl (by decide +kernel) ⟨Nat.le_of_ble_eq_true rfl, Nat.le_of_ble_eq_true rfl⟩) ⟨fun a U g mk q => by obtain ⟨q0, q1, qP, qK, qD⟩ := q; exact ⟨q0, q1, qP, va_K.moved (u := U) (U := U.calling g mk a) (Vm.Alike.refl U.vm) qK, qD⟩, va_recv hKc hPc (ci := 9) (q0 := 0) rfl rfl, fun U hU hW => ⟨rfl, by rw [hU], by rw [hU]; exact hPc, va_K.moved hW.alike hKc, hDc.weaken (fun _ _ _ _ => trivial)⟩⟩ rfl rfl hl.1 rfl (lv_room (Nat.le_of_ble_eq_true rfl)) dX0_clear_12 ⟨Nat.le_of_ble_eq_true rfl, Nat.le_of_ble_eq_true rfl⟩) hS (fun q _ h => hFc q h) hFc (fun u_5 t H1 locs ht hvm hw hB hz1 hk1 hS => ?_)
  try dsimp only at hw
  obtain ⟨hP1, hK1, hD1⟩ := hB
  rw [ht] at hP1
  have hK1 := va_K.moved hvm.symm hK1
  have hP1 : va_P (dC, dI) vwCl [(bsk, .inr (9, [.int 7, .int 0, .int 59, .int 2, .int 0, .int 1461, .int 4]))] H1 := hP1
  have hD1 : va_D (va_A [(bsk, .inr (9, [.int 7, .int 0, .int 59, .int 2, .int 0, .int 1461, .int 4]))] H.size) [(bsk, .inr (9, [.int 7, .int 0, .int 59, .int 2, .int 0, .int 1461, .int 4]))] := hD1
  have hK1 : va_K (dC, dI) vwCl [] s := hK1
  obtain ⟨hP, hD⟩ := va_join (wr := [(b, .inr (0, [.ref bto, .ref bnm, .ref bla, .ref bsk, .ref bru, .ref bbo, .ref bdi, .ref bda, .ref bdk, .ref bdt, .ref bdp, .ref bno])), (bru, .inr (8, [.ref bruc, .int 0, .ref brue, .ref bruk, .int 0])), (brue, .inl (cE, 4, .inl f1)), (bno, .inr (6, [.int 0, .ref bnos, .ref bnof, .ref bnoz])), (bto, .inl (cT, 5, .inl u_2))]) (w1 := [(bsk, .inr (9, [.int 7, .int 0, .int 59, .int 2, .int 0, .int 1461, .int 4]))]) hP hD [1] [0, 2, 3, 4, 5] rfl rfl (by decide) (by decide) hk1 hFc hP1 hD1
  generalize H1 = H at hP hS ⊢
  have hP : va_P (dC, dI) vwCl [(b, .inr (0, [.ref bto, .ref bnm, .ref bla, .ref bsk, .ref bru, .ref bbo, .ref bdi, .ref bda, .ref bdk, .ref bdt, .ref bdp, .ref bno])), (bru, .inr (8, [.ref bruc, .int 0, .ref brue, .ref bruk, .int 0])), (brue, .inl (cE, 4, .inl f1)), (bno, .inr (6, [.int 0, .ref bnos, .ref bnof, .ref bnoz])), (bto, .inl (cT, 5, .inl u_2)), (bsk, .inr (9, [.int 7, .int 0, .int 59, .int 2, .int 0, .int 1461, .int 4]))] H := hP
  have hD : va_D A [(b, .inr (0, [.ref bto, .ref bnm, .ref bla, .ref bsk, .ref bru, .ref bbo, .ref bdi, .ref bda, .ref bdk, .ref bdt, .ref bdp, .ref bno])), (bru, .inr (8, [.ref bruc, .int 0, .ref brue, .ref bruk, .int 0])), (brue, .inl (cE, 4, .inl f1)), (bno, .inr (6, [.int 0, .ref bnos, .ref bnof, .ref bnoz])), (bto, .inl (cT, 5, .inl u_2)), (bsk, .inr (9, [.int 7, .int 0, .int 59, .int 2, .int 0, .int 1461, .int 4]))] := hD
  refine W.widen (k := 0) (n := 0) (by omega) (by omega) ?_
  refine lv_aload_n hx hb dX0_clear_15 rfl (lv_at hl 0 rfl) ?_
  refine va_get (D := (dC, dI)) (ci := 0) (v := .ref bru) (C := RX0) (T := TX0) (N := 12) hx hb htw inlX0 hown hK hP 0 rfl rfl 4 (by decide) (htw _ (ck_6 _ (List.mem_of_getElem? (i := 9) rfl))) (fun _ h9 => h9) rfl dX0_clear_16 ?_
  have hPc := hP.sub (ws' := [(bru, .inr (8, [.ref bruc, .int 0, .ref brue, .ref bruk, .int 0])), (brue, .inl (cE, 4, .inl f1))]) [1, 2] rfl
  have hKc := hK.sub (tys' := [(cE, .int)]) [1] rfl
  have hDc := hD.sub (ws' := [(bru, .inr (8, [.ref bruc, .int 0, .ref brue, .ref bruk, .int 0])), (brue, .inl (cE, 4, .inl f1))]) [1, 2] (by decide) rfl
  have hFc := va_free (wc := [(bru, .inr (8, [.ref bruc, .int 0, .ref brue, .ref bruk, .int 0])), (brue, .inl (cE, 4, .inl f1))]) hD hS hA [1, 2] rfl
  refine va_callv (va_runV (As := []) (rest := []) ⟨hx, hb, hml, hown, htw⟩ (mt_rclear l dC dI bru bruc brue bruk cE f1 H.size) (cwV 0 htw (xg_V (ck_13 _ (List.mem_of_getElem? (i := 19) rfl)) (ck_13 _ (List.mem_of_getElem? (i := 20) rfl)) (ck_13 _ (List.mem_of_getElem? (i := 21) rfl)) (ck_6 _ (List.mem_of_getElem? (i := 8) rfl)) (ck_13 _ (List.mem_of_getElem? (i := 22) rfl))) rfl rfl rfl (by decide +kernel) ⟨Nat.le_of_ble_eq_true rfl, Nat.le_of_ble_eq_true rfl⟩) ⟨fun a U g mk q => by obtain ⟨q0, q1, qP, qK, qD⟩ := q; exact ⟨q0, q1, qP, va_K.moved (u := U) (U := U.calling g mk a) (Vm.Alike.refl U.vm) qK, qD⟩, va_recv hKc hPc (ci := 8) (q0 := 0) rfl rfl, fun U hU hW => ⟨rfl, by rw [hU], by rw [hU]; exact hPc, va_K.moved hW.alike hKc, hDc.weaken (fun _ _ _ _ => trivial)⟩⟩ rfl rfl hl.1 rfl (lv_room (Nat.le_of_ble_eq_true rfl)) dX0_clear_19 ⟨Nat.le_of_ble_eq_true rfl, Nat.le_of_ble_eq_true rfl⟩) hS (fun q _ h => hFc q h) hFc (fun u_7 t H1 locs ht hvm hw hB hz1 hk1 hS => ?_)
  try dsimp only at hw
  obtain ⟨hP1, hK1, hD1⟩ := hB
  rw [ht] at hP1
  have hK1 := va_K.moved hvm.symm hK1
  have hP1 : va_P (dC, dI) vwCl [(bru, .inr (8, [.ref bruc, .int 0, .ref brue, .ref bruk, .int 0])), (brue, .inl (cE, 4, .inl u_7))] H1 := hP1
  have hD1 : va_D (va_A [(bru, .inr (8, [.ref bruc, .int 0, .ref brue, .ref bruk, .int 0])), (brue, .inl (cE, 4, .inl f1))] H.size) [(bru, .inr (8, [.ref bruc, .int 0, .ref brue, .ref bruk, .int 0])), (brue, .inl (cE, 4, .inl u_7))] := hD1
  have hK1 : va_K (dC, dI) vwCl [] s := hK1
  obtain ⟨hP, hD⟩ := va_join (wr := [(b, .inr (0, [.ref bto, .ref bnm, .ref bla, .ref bsk, .ref bru, .ref bbo, .ref bdi, .ref bda, .ref bdk, .ref bdt, .ref bdp, .ref bno])), (bno, .inr (6, [.int 0, .ref bnos, .ref bnof, .ref bnoz])), (bto, .inl (cT, 5, .inl u_2)), (bsk, .inr (9, [.int 7, .int 0, .int 59, .int 2, .int 0, .int 1461, .int 4]))]) (w1 := [(bru, .inr (8, [.ref bruc, .int 0, .ref brue, .ref bruk, .int 0])), (brue, .inl (cE, 4, .inl u_7))]) hP hD [1, 2] [0, 3, 4, 5] rfl rfl (by decide) (by decide) hk1 hFc hP1 hD1
  generalize H1 = H at hP hS ⊢
  have hP : va_P (dC, dI) vwCl [(b, .inr (0, [.ref bto, .ref bnm, .ref bla, .ref bsk, .ref bru, .ref bbo, .ref bdi, .ref bda, .ref bdk, .ref bdt, .ref bdp, .ref bno])), (bno, .inr (6, [.int 0, .ref bnos, .ref bnof, .ref bnoz])), (bto, .inl (cT, 5, .inl u_2)), (bsk, .inr (9, [.int 7, .int 0, .int 59, .int 2, .int 0, .int 1461, .int 4])), (bru, .inr (8, [.ref bruc, .int 0, .ref brue, .ref bruk, .int 0])), (brue, .inl (cE, 4, .inl u_7))] H := hP
  have hD : va_D A [(b, .inr (0, [.ref bto, .ref bnm, .ref bla, .ref bsk, .ref bru, .ref bbo, .ref bdi, .ref bda, .ref bdk, .ref bdt, .ref bdp, .ref bno])), (bno, .inr (6, [.int 0, .ref bnos, .ref bnof, .ref bnoz])), (bto, .inl (cT, 5, .inl u_2)), (bsk, .inr (9, [.int 7, .int 0, .int 59, .int 2, .int 0, .int 1461, .int 4])), (bru, .inr (8, [.ref bruc, .int 0, .ref brue, .ref bruk, .int 0])), (brue, .inl (cE, 4, .inl u_7))] := hD
  refine W.widen (k := 0) (n := 0) (by omega) (by omega) ?_
  refine lv_aload_n hx hb dX0_clear_22 rfl (lv_at hl 0 rfl) ?_
  refine va_get (D := (dC, dI)) (ci := 0) (v := .ref bno) (C := RX0) (T := TX0) (N := 12) hx hb htw inlX0 hown hK hP 0 rfl rfl 11 (by decide) (htw _ (ck_6 _ (List.mem_of_getElem? (i := 17) rfl))) (fun _ h9 => h9) rfl dX0_clear_23 ?_
  refine lv_iconst (v := 0) hx hb dX0_clear_26 (by decide) ?_
  refine va_put (D := (dC, dI)) (ci := 6) (v := .int 0) (ty := tyX6 0) (C := RX6) (T := TX6) (N := 4) hx hb htw inlX6 tyX6 tyX6_ok nmX6 hown hK hP hD hS 1 rfl rfl 0 (by decide) (htw _ (ck_13 _ (List.mem_of_getElem? (i := 14) rfl))) (fun _ h9 => h9) rfl (by decide +kernel) rfl rfl (Nat.le_of_ble_eq_true rfl) dX0_clear_27 (fun H locs hP hD hS => ?_)
  have hP : va_P (dC, dI) vwCl [(b, .inr (0, [.ref bto, .ref bnm, .ref bla, .ref bsk, .ref bru, .ref bbo, .ref bdi, .ref bda, .ref bdk, .ref bdt, .ref bdp, .ref bno])), (bno, .inr (6, [.int 0, .ref bnos, .ref bnof, .ref bnoz])), (bto, .inl (cT, 5, .inl u_2)), (bsk, .inr (9, [.int 7, .int 0, .int 59, .int 2, .int 0, .int 1461, .int 4])), (bru, .inr (8, [.ref bruc, .int 0, .ref brue, .ref bruk, .int 0])), (brue, .inl (cE, 4, .inl u_7))] H := hP
  have hD : va_D A [(b, .inr (0, [.ref bto, .ref bnm, .ref bla, .ref bsk, .ref bru, .ref bbo, .ref bdi, .ref bda, .ref bdk, .ref bdt, .ref bdp, .ref bno])), (bno, .inr (6, [.int 0, .ref bnos, .ref bnof, .ref bnoz])), (bto, .inl (cT, 5, .inl u_2)), (bsk, .inr (9, [.int 7, .int 0, .int 59, .int 2, .int 0, .int 1461, .int 4])), (bru, .inr (8, [.ref bruc, .int 0, .ref brue, .ref bruk, .int 0])), (brue, .inl (cE, 4, .inl u_7))] := hD
  refine W.widen (k := 0) (n := 0) (by omega) (by omega) ?_
  exact W.vret hx hb hr (fun t ht hW => ⟨⟨(), rfl, trivial, trivial⟩, hS.F ht⟩) hS.2.2 dX0_clear_30

theorem dX3_advance_0 : decode cX3_advance 0 = .ok (.aload_n 0, 1) := by decide +kernel
theorem dX3_advance_1 : decode cX3_advance 1 = .ok (.getfield 44, 3) := by decide +kernel
theorem dX3_advance_4 : decode cX3_advance 4 = .ok (.aload_n 0, 1) := by decide +kernel
theorem dX3_advance_5 : decode cX3_advance 5 = .ok (.getfield 41, 3) := by decide +kernel
theorem dX3_advance_8 : decode cX3_advance 8 = .ok (.if_icmp .ge 44, 3) := by decide +kernel
theorem dX3_advance_52 : decode cX3_advance 52 = .ok (.aload_n 0, 1) := by decide +kernel
theorem dX3_advance_53 : decode cX3_advance 53 = .ok (.aload_n 0, 1) := by decide +kernel
theorem dX3_advance_54 : decode cX3_advance 54 = .ok (.getfield 44, 3) := by decide +kernel
theorem dX3_advance_57 : decode cX3_advance 57 = .ok (.putfield 50, 3) := by decide +kernel
theorem dX3_advance_60 : decode cX3_advance 60 = .ok (.aload_n 0, 1) := by decide +kernel
theorem dX3_advance_61 : decode cX3_advance 61 = .ok (.getfield 44, 3) := by decide +kernel
theorem dX3_advance_64 : decode cX3_advance 64 = .ok (.aload_n 0, 1) := by decide +kernel
theorem dX3_advance_65 : decode cX3_advance 65 = .ok (.getfield 41, 3) := by decide +kernel
theorem dX3_advance_68 : decode cX3_advance 68 = .ok (.if_icmp .lt 10, 3) := by decide +kernel
theorem dX3_advance_71 : decode cX3_advance 71 = .ok (.aload_n 0, 1) := by decide +kernel
theorem dX3_advance_72 : decode cX3_advance 72 = .ok (.bipush 40, 2) := by decide +kernel
theorem dX3_advance_74 : decode cX3_advance 74 = .ok (.putfield 53, 3) := by decide +kernel
theorem dX3_advance_77 : decode cX3_advance 77 = .ok (.return_, 1) := by decide +kernel
set_option maxHeartbeats 4000000 in
set_option maxRecDepth 100000 in
theorem mt_adv (l : Launch) (dC : Nat → ClassId) (dI : Nat → Nat → Nat) (plx : Nat) (lby : Nat) (lco : Nat) (sz : Nat) : Met l yX3_advance (Cond.code yX3_advance cX3_advance 2 none :: wsL_law) ({ frames := 0, cells := 0, slots := 0, locals := 0 }) (va_Pc [.ref plx] (fun U => U.heap.size = sz ∧ va_P (dC, dI) vwCl [(plx, .inr (3, [.ref lby, .int 0, .ref lco, .int 0, .int 0, .int 0, .int 0, .int 0, .int 0]))] U.heap ∧ va_K (dC, dI) vwCl [] U ∧ va_D (fun _ => True) [(plx, .inr (3, [.ref lby, .int 0, .ref lco, .int 0, .int 0, .int 0, .int 0, .int 0, .int 0]))])) (va_Qv (fun (u : Unit) => True) (fun (u : Unit) t => va_P (dC, dI) vwCl [(plx, .inr (3, [.ref lby, .int 0, .ref lco, .int 0, .int 0, .int 40, .int 0, .int 0, .int 0]))] t.heap ∧ va_K (dC, dI) vwCl [] t ∧ va_D (va_A [(plx, .inr (3, [.ref lby, .int 0, .ref lco, .int 0, .int 0, .int 0, .int 0, .int 0, .int 0]))] sz) [(plx, .inr (3, [.ref lby, .int 0, .ref lco, .int 0, .int 0, .int 40, .int 0, .int 0, .int 0]))]) (va_A [(plx, .inr (3, [.ref lby, .int 0, .ref lco, .int 0, .int 0, .int 0, .int 0, .int 0, .int 0]))] sz)) 0 0 (va_A [(plx, .inr (3, [.ref lby, .int 0, .ref lco, .int 0, .int 0, .int 0, .int 0, .int 0, .int 0]))] sz) := by
  refine Met.ofW (cc := cX3_advance) (maxL := 2) (ret := none) (by decide) rfl ?_
  intro p e s m args below meth c s₁ B hml hv
  obtain ⟨rfl, hsz, hP, hK, hD0⟩ := hv
  have hx := B.exec
  have hb := B.bytes
  have hr := B.returns
  have hts := atoms_spec (ws := Cond.code yX3_advance cX3_advance 2 none :: wsL_law) B.pre
  have htw : ∀ w ∈ wsL_law, w.before _ s = true := fun w h => hts w (List.mem_cons_of_mem _ h)
  have hown : s.vm.findClass RX3 = some m.cls := findClass_of_methodNamed B.named
  have hlocks := B.notSynchronized
  subst hsz
  have hD := hD0.self (sz := s.heap.size)
  generalize hAe : va_A [(plx, .inr (3, [.ref lby, .int 0, .ref lco, .int 0, .int 0, .int 0, .int 0, .int 0, .int 0]))] s.heap.size = A at hD ⊢
  have hA : ∀ q : Nat, s.heap.size ≤ q → A q := fun q h => by rw [← hAe]; exact Or.inr h
  obtain ⟨H, rH⟩ : ∃ z : Heap, z = s.heap := ⟨_, rfl⟩
  have hS : va_S A s.heap H [] := by rw [rH]; exact va_S.rf
  have hP : va_P (dC, dI) vwCl [(plx, .inr (3, [.ref lby, .int 0, .ref lco, .int 0, .int 0, .int 0, .int 0, .int 0, .int 0]))] H := by rw [rH]; exact hP
  rw [← rH]
  have hl := lv_entry ([.ref plx]) (n := 2) (Nat.le_of_ble_eq_true rfl)
  rw [lg_entry_eq]
  generalize (lg_sl ([.ref plx]) ++ List.replicate (2 - (lg_sl ([.ref plx])).length) Slot.unset).toArray = ls at hl ⊢
  have hl : lv_has ls 2 [(0, .ref plx)] := hl
  refine lv_aload_n hx hb dX3_advance_0 rfl (lv_at hl 0 rfl) ?_
  refine va_get (D := (dC, dI)) (ci := 3) (v := .int 0) (C := RX3) (T := TX3) (N := 9) hx hb htw inlX3 hown hK hP 0 rfl rfl 4 (by decide) (htw _ (ck_14 _ (List.mem_of_getElem? (i := 11) rfl))) (fun _ h9 => h9) rfl dX3_advance_1 ?_
  refine lv_aload_n hx hb dX3_advance_4 rfl (lv_at hl 0 rfl) ?_
  refine va_get (D := (dC, dI)) (ci := 3) (v := .int 0) (C := RX3) (T := TX3) (N := 9) hx hb htw inlX3 hown hK hP 0 rfl rfl 3 (by decide) (htw _ (ck_14 _ (List.mem_of_getElem? (i := 10) rfl))) (fun _ h9 => h9) rfl dX3_advance_5 ?_
  refine lv_icmp_ge (tgt := 52) hx hb dX3_advance_8 (by decide) (fun _ => ?_) (fun c => absurd c (by decide))
  refine lv_aload_n hx hb dX3_advance_52 rfl (lv_at hl 0 rfl) ?_
  refine lv_aload_n hx hb dX3_advance_53 rfl (lv_at hl 0 rfl) ?_
  refine va_get (D := (dC, dI)) (ci := 3) (v := .int 0) (C := RX3) (T := TX3) (N := 9) hx hb htw inlX3 hown hK hP 0 rfl rfl 4 (by decide) (htw _ (ck_14 _ (List.mem_of_getElem? (i := 11) rfl))) (fun _ h9 => h9) rfl dX3_advance_54 ?_
  refine va_put (D := (dC, dI)) (ci := 3) (v := .int 0) (ty := tyX3 6) (C := RX3) (T := TX3) (N := 9) hx hb htw inlX3 tyX3 tyX3_ok nmX3 hown hK hP hD hS 0 rfl rfl 6 (by decide) (htw _ (ck_14 _ (List.mem_of_getElem? (i := 16) rfl))) (fun _ h9 => h9) rfl (by decide +kernel) rfl rfl (Nat.le_of_ble_eq_true rfl) dX3_advance_57 (fun H locs hP hD hS => ?_)
  have hP : va_P (dC, dI) vwCl [(plx, .inr (3, [.ref lby, .int 0, .ref lco, .int 0, .int 0, .int 0, .int 0, .int 0, .int 0]))] H := hP
  have hD : va_D A [(plx, .inr (3, [.ref lby, .int 0, .ref lco, .int 0, .int 0, .int 0, .int 0, .int 0, .int 0]))] := hD
  refine lv_aload_n hx hb dX3_advance_60 rfl (lv_at hl 0 rfl) ?_
  refine va_get (D := (dC, dI)) (ci := 3) (v := .int 0) (C := RX3) (T := TX3) (N := 9) hx hb htw inlX3 hown hK hP 0 rfl rfl 4 (by decide) (htw _ (ck_14 _ (List.mem_of_getElem? (i := 11) rfl))) (fun _ h9 => h9) rfl dX3_advance_61 ?_
  refine lv_aload_n hx hb dX3_advance_64 rfl (lv_at hl 0 rfl) ?_
  refine va_get (D := (dC, dI)) (ci := 3) (v := .int 0) (C := RX3) (T := TX3) (N := 9) hx hb htw inlX3 hown hK hP 0 rfl rfl 3 (by decide) (htw _ (ck_14 _ (List.mem_of_getElem? (i := 10) rfl))) (fun _ h9 => h9) rfl dX3_advance_65 ?_
  refine lv_icmp_lt (tgt := 78) hx hb dX3_advance_68 (by decide) (fun c => absurd c (by decide)) (fun _ => ?_)
  refine lv_aload_n hx hb dX3_advance_71 rfl (lv_at hl 0 rfl) ?_
  refine lv_bipush (v := 40) hx hb dX3_advance_72 (by decide) ?_
  refine va_put (D := (dC, dI)) (ci := 3) (v := .int 40) (ty := tyX3 5) (C := RX3) (T := TX3) (N := 9) hx hb htw inlX3 tyX3 tyX3_ok nmX3 hown hK hP hD hS 0 rfl rfl 5 (by decide) (htw _ (ck_14 _ (List.mem_of_getElem? (i := 17) rfl))) (fun _ h9 => h9) rfl (by decide +kernel) rfl rfl (Nat.le_of_ble_eq_true rfl) dX3_advance_74 (fun H locs hP hD hS => ?_)
  have hP : va_P (dC, dI) vwCl [(plx, .inr (3, [.ref lby, .int 0, .ref lco, .int 0, .int 0, .int 40, .int 0, .int 0, .int 0]))] H := hP
  have hD : va_D A [(plx, .inr (3, [.ref lby, .int 0, .ref lco, .int 0, .int 0, .int 40, .int 0, .int 0, .int 0]))] := hD
  refine W.widen (k := 0) (n := 0) (by omega) (by omega) ?_
  have hP9 := hP.sub (ws' := [(plx, .inr (3, [.ref lby, .int 0, .ref lco, .int 0, .int 0, .int 40, .int 0, .int 0, .int 0]))]) [0] rfl
  have hD9 := hD.sub (ws' := [(plx, .inr (3, [.ref lby, .int 0, .ref lco, .int 0, .int 0, .int 40, .int 0, .int 0, .int 0]))]) [0] (by decide) rfl
  have hK9 := hK.sub (tys' := []) [] rfl
  exact W.vret hx hb hr (fun t ht hW => ⟨⟨(), rfl, trivial, by rw [ht]; exact hP9, va_K.moved hW.alike hK9, hD9⟩, hS.F ht⟩) hS.2.2 dX3_advance_77

theorem dX3_start_0 : decode cX3_start 0 = .ok (.aload_n 0, 1) := by decide +kernel
theorem dX3_start_1 : decode cX3_start 1 = .ok (.iload_n 1, 1) := by decide +kernel
theorem dX3_start_2 : decode cX3_start 2 = .ok (.aload_n 0, 1) := by decide +kernel
theorem dX3_start_3 : decode cX3_start 3 = .ok (.getfield 31, 3) := by decide +kernel
theorem dX3_start_6 : decode cX3_start 6 = .ok (.invokestatic 35, 3) := by decide +kernel
theorem dX3_start_9 : decode cX3_start 9 = .ok (.putfield 41, 3) := by decide +kernel
theorem dX3_start_12 : decode cX3_start 12 = .ok (.aload_n 0, 1) := by decide +kernel
theorem dX3_start_13 : decode cX3_start 13 = .ok (.iconst 0, 1) := by decide +kernel
theorem dX3_start_14 : decode cX3_start 14 = .ok (.putfield 31, 3) := by decide +kernel
theorem dX3_start_17 : decode cX3_start 17 = .ok (.aload_n 0, 1) := by decide +kernel
theorem dX3_start_18 : decode cX3_start 18 = .ok (.iconst 0, 1) := by decide +kernel
theorem dX3_start_19 : decode cX3_start 19 = .ok (.putfield 44, 3) := by decide +kernel
theorem dX3_start_22 : decode cX3_start 22 = .ok (.aload_n 0, 1) := by decide +kernel
theorem dX3_start_23 : decode cX3_start 23 = .ok (.invokevirtual 47, 3) := by decide +kernel
theorem dX3_start_26 : decode cX3_start 26 = .ok (.return_, 1) := by decide +kernel
set_option maxHeartbeats 4000000 in
set_option maxRecDepth 100000 in
theorem mt_start (l : Launch) (dC : Nat → ClassId) (dI : Nat → Nat → Nat) (plx : Nat) (lby : Nat) (lco : Nat) (sz : Nat) : Met l yX3_start (Cond.code yX3_start cX3_start 2 none :: wsL_law) ({ frames := 1, cells := 0, slots := 0, locals := 21 }) (va_Pc [.ref plx, .int 0] (fun U => U.heap.size = sz ∧ va_P (dC, dI) vwCl [(plx, .inr (3, [.ref lby, .int 0, .ref lco, .int 0, .int 0, .int 0, .int 0, .int 0, .int 0]))] U.heap ∧ va_K (dC, dI) vwCl [] U ∧ va_D (fun _ => True) [(plx, .inr (3, [.ref lby, .int 0, .ref lco, .int 0, .int 0, .int 0, .int 0, .int 0, .int 0]))])) (va_Qv (fun (u : Unit) => True) (fun (u : Unit) t => va_P (dC, dI) vwCl [(plx, .inr (3, [.ref lby, .int 0, .ref lco, .int 0, .int 0, .int 40, .int 0, .int 0, .int 0]))] t.heap ∧ va_K (dC, dI) vwCl [] t ∧ va_D (va_A [(plx, .inr (3, [.ref lby, .int 0, .ref lco, .int 0, .int 0, .int 0, .int 0, .int 0, .int 0]))] sz) [(plx, .inr (3, [.ref lby, .int 0, .ref lco, .int 0, .int 0, .int 40, .int 0, .int 0, .int 0]))]) (va_A [(plx, .inr (3, [.ref lby, .int 0, .ref lco, .int 0, .int 0, .int 0, .int 0, .int 0, .int 0]))] sz)) 0 0 (va_A [(plx, .inr (3, [.ref lby, .int 0, .ref lco, .int 0, .int 0, .int 0, .int 0, .int 0, .int 0]))] sz) := by
  refine Met.ofW (cc := cX3_start) (maxL := 2) (ret := none) (by decide) rfl ?_
  intro p e s m args below meth c s₁ B hml hv
  obtain ⟨rfl, hsz, hP, hK, hD0⟩ := hv
  have hx := B.exec
  have hb := B.bytes
  have hr := B.returns
  have hts := atoms_spec (ws := Cond.code yX3_start cX3_start 2 none :: wsL_law) B.pre
  have htw : ∀ w ∈ wsL_law, w.before _ s = true := fun w h => hts w (List.mem_cons_of_mem _ h)
  have hown : s.vm.findClass RX3 = some m.cls := findClass_of_methodNamed B.named
  have hlocks := B.notSynchronized
  subst hsz
  have hD := hD0.self (sz := s.heap.size)
  generalize hAe : va_A [(plx, .inr (3, [.ref lby, .int 0, .ref lco, .int 0, .int 0, .int 0, .int 0, .int 0, .int 0]))] s.heap.size = A at hD ⊢
  have hA : ∀ q : Nat, s.heap.size ≤ q → A q := fun q h => by rw [← hAe]; exact Or.inr h
  obtain ⟨H, rH⟩ : ∃ z : Heap, z = s.heap := ⟨_, rfl⟩
  have hS : va_S A s.heap H [] := by rw [rH]; exact va_S.rf
  have hP : va_P (dC, dI) vwCl [(plx, .inr (3, [.ref lby, .int 0, .ref lco, .int 0, .int 0, .int 0, .int 0, .int 0, .int 0]))] H := by rw [rH]; exact hP
  rw [← rH]
  have hl := lv_entry ([.ref plx, .int 0]) (n := 2) (Nat.le_of_ble_eq_true rfl)
  rw [lg_entry_eq]
  generalize (lg_sl ([.ref plx, .int 0]) ++ List.replicate (2 - (lg_sl ([.ref plx, .int 0])).length) Slot.unset).toArray = ls at hl ⊢
  have hl : lv_has ls 2 [(0, .ref plx), (1, .int 0)] := hl
  refine lv_aload_n hx hb dX3_start_0 rfl (lv_at hl 0 rfl) ?_
  refine lv_iload_n hx hb dX3_start_1 rfl (lv_at hl 1 rfl) ?_
  refine lv_aload_n hx hb dX3_start_2 rfl (lv_at hl 0 rfl) ?_
  refine va_get (D := (dC, dI)) (ci := 3) (v := .int 0) (C := RX3) (T := TX3) (N := 9) hx hb htw inlX3 hown hK hP 0 rfl rfl 1 (by decide) (htw _ (ck_12 _ (List.mem_of_getElem? (i := 11) rfl))) (fun _ h9 => h9) rfl dX3_start_3 ?_
  refine va_mmin hx hb (by rw [hml]; exact hl.1.symm) hown (htw _ (ck_14 _ (List.mem_of_getElem? (i := 6) rfl))) (htw _ (ck_14 _ (List.mem_of_getElem? (i := 7) rfl))) (htw _ (ck_14 _ (List.mem_of_getElem? (i := 8) rfl))) (htw _ (ck_14 _ (List.mem_of_getElem? (i := 9) rfl))) (Nat.le_of_ble_eq_true rfl) (Nat.le_of_ble_eq_true rfl) (Nat.le_of_ble_eq_true rfl) (Nat.le_of_ble_eq_true rfl) dX3_start_6 ?_
  refine lv_topi (fun z_1 ez_1 => ?_)
  obtain rfl : z_1 = 0 := ez_1.trans (by decide)
  refine va_put (D := (dC, dI)) (ci := 3) (v := .int 0) (ty := tyX3 3) (C := RX3) (T := TX3) (N := 9) hx hb htw inlX3 tyX3 tyX3_ok nmX3 hown hK hP hD hS 0 rfl rfl 3 (by decide) (htw _ (ck_14 _ (List.mem_of_getElem? (i := 10) rfl))) (fun _ h9 => h9) rfl (by decide +kernel) rfl rfl (Nat.le_of_ble_eq_true rfl) dX3_start_9 (fun H locs hP hD hS => ?_)
  have hP : va_P (dC, dI) vwCl [(plx, .inr (3, [.ref lby, .int 0, .ref lco, .int 0, .int 0, .int 0, .int 0, .int 0, .int 0]))] H := hP
  have hD : va_D A [(plx, .inr (3, [.ref lby, .int 0, .ref lco, .int 0, .int 0, .int 0, .int 0, .int 0, .int 0]))] := hD
  refine lv_aload_n hx hb dX3_start_12 rfl (lv_at hl 0 rfl) ?_
  refine lv_iconst (v := 0) hx hb dX3_start_13 (by decide) ?_
  refine va_put (D := (dC, dI)) (ci := 3) (v := .int 0) (ty := tyX3 1) (C := RX3) (T := TX3) (N := 9) hx hb htw inlX3 tyX3 tyX3_ok nmX3 hown hK hP hD hS 0 rfl rfl 1 (by decide) (htw _ (ck_12 _ (List.mem_of_getElem? (i := 11) rfl))) (fun _ h9 => h9) rfl (by decide +kernel) rfl rfl (Nat.le_of_ble_eq_true rfl) dX3_start_14 (fun H locs hP hD hS => ?_)
  have hP : va_P (dC, dI) vwCl [(plx, .inr (3, [.ref lby, .int 0, .ref lco, .int 0, .int 0, .int 0, .int 0, .int 0, .int 0]))] H := hP
  have hD : va_D A [(plx, .inr (3, [.ref lby, .int 0, .ref lco, .int 0, .int 0, .int 0, .int 0, .int 0, .int 0]))] := hD
  refine lv_aload_n hx hb dX3_start_17 rfl (lv_at hl 0 rfl) ?_
  refine lv_iconst (v := 0) hx hb dX3_start_18 (by decide) ?_
  refine va_put (D := (dC, dI)) (ci := 3) (v := .int 0) (ty := tyX3 4) (C := RX3) (T := TX3) (N := 9) hx hb htw inlX3 tyX3 tyX3_ok nmX3 hown hK hP hD hS 0 rfl rfl 4 (by decide) (htw _ (ck_14 _ (List.mem_of_getElem? (i := 11) rfl))) (fun _ h9 => h9) rfl (by decide +kernel) rfl rfl (Nat.le_of_ble_eq_true rfl) dX3_start_19 (fun H locs hP hD hS => ?_)
  have hP : va_P (dC, dI) vwCl [(plx, .inr (3, [.ref lby, .int 0, .ref lco, .int 0, .int 0, .int 0, .int 0, .int 0, .int 0]))] H := hP
  have hD : va_D A [(plx, .inr (3, [.ref lby, .int 0, .ref lco, .int 0, .int 0, .int 0, .int 0, .int 0, .int 0]))] := hD
  refine lv_aload_n hx hb dX3_start_22 rfl (lv_at hl 0 rfl) ?_
  have hPc := hP.sub (ws' := [(plx, .inr (3, [.ref lby, .int 0, .ref lco, .int 0, .int 0, .int 0, .int 0, .int 0, .int 0]))]) [0] rfl
  have hKc := hK.sub (tys' := []) [] rfl
  have hDc := hD.sub (ws' := [(plx, .inr (3, [.ref lby, .int 0, .ref lco, .int 0, .int 0, .int 0, .int 0, .int 0, .int 0]))]) [0] (by decide) rfl
  have hFc := va_free (wc := [(plx, .inr (3, [.ref lby, .int 0, .ref lco, .int 0, .int 0, .int 0, .int 0, .int 0, .int 0]))]) hD hS hA [0] rfl
  refine va_callv (va_runV (As := []) (rest := []) ⟨hx, hb, hml, hown, htw⟩ (mt_adv l dC dI plx lby lco H.size) (cwV 0 htw (xg_V (ck_14 _ (List.mem_of_getElem? (i := 12) rfl)) (ck_14 _ (List.mem_of_getElem? (i := 13) rfl)) (ck_14 _ (List.mem_of_getElem? (i := 14) rfl)) (ck_3 _ (List.mem_of_getElem? (i := 4) rfl)) (ck_14 _ (List.mem_of_getElem? (i := 15) rfl))) rfl rfl rfl (by decide +kernel) ⟨Nat.le_of_ble_eq_true rfl, Nat.le_of_ble_eq_true rfl⟩) ⟨fun a U g mk q => by obtain ⟨q0, q1, qP, qK, qD⟩ := q; exact ⟨q0, q1, qP, va_K.moved (u := U) (U := U.calling g mk a) (Vm.Alike.refl U.vm) qK, qD⟩, va_recv hKc hPc (ci := 3) (q0 := 0) rfl rfl, fun U hU hW => ⟨rfl, by rw [hU], by rw [hU]; exact hPc, va_K.moved hW.alike hKc, hDc.weaken (fun _ _ _ _ => trivial)⟩⟩ rfl rfl hl.1 rfl (lv_room (Nat.le_of_ble_eq_true rfl)) dX3_start_23 ⟨Nat.le_of_ble_eq_true rfl, Nat.le_of_ble_eq_true rfl⟩) hS (fun q _ h => hFc q h) hFc (fun u_3 t H1 locs ht hvm hw hB hz1 hk1 hS => ?_)
  try dsimp only at hw
  obtain ⟨hP1, hK1, hD1⟩ := hB
  rw [ht] at hP1
  have hK1 := va_K.moved hvm.symm hK1
  have hP1 : va_P (dC, dI) vwCl [(plx, .inr (3, [.ref lby, .int 0, .ref lco, .int 0, .int 0, .int 40, .int 0, .int 0, .int 0]))] H1 := hP1
  have hD1 : va_D (va_A [(plx, .inr (3, [.ref lby, .int 0, .ref lco, .int 0, .int 0, .int 0, .int 0, .int 0, .int 0]))] H.size) [(plx, .inr (3, [.ref lby, .int 0, .ref lco, .int 0, .int 0, .int 40, .int 0, .int 0, .int 0]))] := hD1
  have hK1 : va_K (dC, dI) vwCl [] s := hK1
  obtain ⟨hP, hD⟩ := va_join (wr := []) (w1 := [(plx, .inr (3, [.ref lby, .int 0, .ref lco, .int 0, .int 0, .int 40, .int 0, .int 0, .int 0]))]) hP hD [0] [] rfl rfl (by decide) (by decide) hk1 hFc hP1 hD1
  generalize H1 = H at hP hS ⊢
  have hP : va_P (dC, dI) vwCl [(plx, .inr (3, [.ref lby, .int 0, .ref lco, .int 0, .int 0, .int 40, .int 0, .int 0, .int 0]))] H := hP
  have hD : va_D A [(plx, .inr (3, [.ref lby, .int 0, .ref lco, .int 0, .int 0, .int 40, .int 0, .int 0, .int 0]))] := hD
  refine W.widen (k := 0) (n := 0) (by omega) (by omega) ?_
  refine W.widen (k := 0) (n := 0) (by omega) (by omega) ?_
  have hP9 := hP.sub (ws' := [(plx, .inr (3, [.ref lby, .int 0, .ref lco, .int 0, .int 0, .int 40, .int 0, .int 0, .int 0]))]) [0] rfl
  have hD9 := hD.sub (ws' := [(plx, .inr (3, [.ref lby, .int 0, .ref lco, .int 0, .int 0, .int 40, .int 0, .int 0, .int 0]))]) [0] (by decide) rfl
  have hK9 := hK.sub (tys' := []) [] rfl
  exact W.vret hx hb hr (fun t ht hW => ⟨⟨(), rfl, trivial, by rw [ht]; exact hP9, va_K.moved hW.alike hK9, hD9⟩, hS.F ht⟩) hS.2.2 dX3_start_26

theorem dX7_read_0 : decode cX7_read 0 = .ok (.aload_n 0, 1) := by decide +kernel
theorem dX7_read_1 : decode cX7_read 1 = .ok (.aload_n 1, 1) := by decide +kernel
theorem dX7_read_2 : decode cX7_read 2 = .ok (.putfield 31, 3) := by decide +kernel
theorem dX7_read_5 : decode cX7_read 5 = .ok (.aload_n 0, 1) := by decide +kernel
theorem dX7_read_6 : decode cX7_read 6 = .ok (.getfield 31, 3) := by decide +kernel
theorem dX7_read_9 : decode cX7_read 9 = .ok (.invokevirtual 35, 3) := by decide +kernel
theorem dX7_read_12 : decode cX7_read 12 = .ok (.aload_n 0, 1) := by decide +kernel
theorem dX7_read_13 : decode cX7_read 13 = .ok (.iconst 0, 1) := by decide +kernel
theorem dX7_read_14 : decode cX7_read 14 = .ok (.putfield 40, 3) := by decide +kernel
theorem dX7_read_17 : decode cX7_read 17 = .ok (.aload_n 0, 1) := by decide +kernel
theorem dX7_read_18 : decode cX7_read 18 = .ok (.iconst 0, 1) := by decide +kernel
theorem dX7_read_19 : decode cX7_read 19 = .ok (.putfield 43, 3) := by decide +kernel
theorem dX7_read_22 : decode cX7_read 22 = .ok (.aload_n 0, 1) := by decide +kernel
theorem dX7_read_23 : decode cX7_read 23 = .ok (.iconst (-1), 1) := by decide +kernel
theorem dX7_read_24 : decode cX7_read 24 = .ok (.putfield 18, 3) := by decide +kernel
theorem dX7_read_27 : decode cX7_read 27 = .ok (.aload_n 0, 1) := by decide +kernel
theorem dX7_read_28 : decode cX7_read 28 = .ok (.getfield 12, 3) := by decide +kernel
theorem dX7_read_31 : decode cX7_read 31 = .ok (.iload_n 2, 1) := by decide +kernel
theorem dX7_read_32 : decode cX7_read 32 = .ok (.invokevirtual 46, 3) := by decide +kernel
theorem dX7_read_35 : decode cX7_read 35 = .ok (.iconst 0, 1) := by decide +kernel
theorem dX7_read_36 : decode cX7_read 36 = .ok (.istore_n 3, 1) := by decide +kernel
theorem dX7_read_37 : decode cX7_read 37 = .ok (.iconst 0, 1) := by decide +kernel
theorem dX7_read_38 : decode cX7_read 38 = .ok (.istore 4, 2) := by decide +kernel
theorem dX7_read_40 : decode cX7_read 40 = .ok (.iload 4, 2) := by decide +kernel
theorem dX7_read_42 : decode cX7_read 42 = .ok (.sipush 900, 3) := by decide +kernel
theorem dX7_read_45 : decode cX7_read 45 = .ok (.if_icmp .ge 28, 3) := by decide +kernel
theorem dX7_read_48 : decode cX7_read 48 = .ok (.aload_n 0, 1) := by decide +kernel
theorem dX7_read_49 : decode cX7_read 49 = .ok (.getfield 12, 3) := by decide +kernel
theorem dX7_read_52 : decode cX7_read 52 = .ok (.getfield 50, 3) := by decide +kernel
theorem dX7_read_55 : decode cX7_read 55 = .ok (.bipush 40, 2) := by decide +kernel
theorem dX7_read_57 : decode cX7_read 57 = .ok (.if_icmp .eq 16, 3) := by decide +kernel
theorem dX7_read_73 : decode cX7_read 73 = .ok (.goto 7, 3) := by decide +kernel
theorem dX7_read_80 : decode cX7_read 80 = .ok (.iload_n 3, 1) := by decide +kernel
theorem dX7_read_81 : decode cX7_read 81 = .ok (.ireturn, 1) := by decide +kernel
set_option maxHeartbeats 4000000 in
set_option maxRecDepth 100000 in
theorem mt_read (l : Launch) (dC : Nat → ClassId) (dI : Nat → Nat → Nat) (xpa : Nat) (xsp : Nat) (plx : Nat) (phd : Nat) (phr : Nat) (lby : Nat) (lco : Nat) (xspto : Nat) (xspnm : Nat) (xspla : Nat) (xspsk : Nat) (xspru : Nat) (xspbo : Nat) (xspdi : Nat) (xspda : Nat) (xspdk : Nat) (xspdt : Nat) (xspdp : Nat) (xspno : Nat) (xspruc : Nat) (xsprue : Nat) (xspruk : Nat) (xspnos : Nat) (xspnof : Nat) (xspnoz : Nat) (cT : ClassId) (cE : ClassId) (f0 : Nat → Int32) (f1 : Nat → Int32) (sz : Nat) : Met l yX7_read (Cond.codeWith yX7_read cX7_read 5 (some .int) [(37, 73, 76, 56)] :: wsL_law) ({ frames := 3, cells := 0, slots := 0, locals := 63 }) (va_Pc [.ref xpa, .ref xsp, .int 0] (fun U => U.heap.size = sz ∧ va_P (dC, dI) vwCl [(xpa, .inr (7, [.ref plx, .null, .int 0, .int (-1), .int 0, .ref phd, .ref phr, .int 0, .int 0])), (plx, .inr (3, [.ref lby, .int 0, .ref lco, .int 0, .int 0, .int 0, .int 0, .int 0, .int 0])), (xsp, .inr (0, [.ref xspto, .ref xspnm, .ref xspla, .ref xspsk, .ref xspru, .ref xspbo, .ref xspdi, .ref xspda, .ref xspdk, .ref xspdt, .ref xspdp, .ref xspno])), (xspto, .inl (cT, 5, .inl f0)), (xspsk, .inr (9, [.int 7, .int 0, .int 59, .int 2, .int 0, .int 1461, .int 4])), (xspru, .inr (8, [.ref xspruc, .int 0, .ref xsprue, .ref xspruk, .int 0])), (xsprue, .inl (cE, 4, .inl f1)), (xspno, .inr (6, [.int 0, .ref xspnos, .ref xspnof, .ref xspnoz]))] U.heap ∧ va_K (dC, dI) vwCl [(cT, .int), (cE, .int)] U ∧ va_D (fun _ => True) [(xpa, .inr (7, [.ref plx, .null, .int 0, .int (-1), .int 0, .ref phd, .ref phr, .int 0, .int 0])), (plx, .inr (3, [.ref lby, .int 0, .ref lco, .int 0, .int 0, .int 0, .int 0, .int 0, .int 0])), (xsp, .inr (0, [.ref xspto, .ref xspnm, .ref xspla, .ref xspsk, .ref xspru, .ref xspbo, .ref xspdi, .ref xspda, .ref xspdk, .ref xspdt, .ref xspdp, .ref xspno])), (xspto, .inl (cT, 5, .inl f0)), (xspsk, .inr (9, [.int 7, .int 0, .int 59, .int 2, .int 0, .int 1461, .int 4])), (xspru, .inr (8, [.ref xspruc, .int 0, .ref xsprue, .ref xspruk, .int 0])), (xsprue, .inl (cE, 4, .inl f1)), (xspno, .inr (6, [.int 0, .ref xspnos, .ref xspnof, .ref xspnoz]))])) (va_Qi (fun (r : Int32) (u : Unit) => r = 0) (fun _ _ => True) (va_A [(xpa, .inr (7, [.ref plx, .null, .int 0, .int (-1), .int 0, .ref phd, .ref phr, .int 0, .int 0])), (plx, .inr (3, [.ref lby, .int 0, .ref lco, .int 0, .int 0, .int 0, .int 0, .int 0, .int 0])), (xsp, .inr (0, [.ref xspto, .ref xspnm, .ref xspla, .ref xspsk, .ref xspru, .ref xspbo, .ref xspdi, .ref xspda, .ref xspdk, .ref xspdt, .ref xspdp, .ref xspno])), (xspto, .inl (cT, 5, .inl f0)), (xspsk, .inr (9, [.int 7, .int 0, .int 59, .int 2, .int 0, .int 1461, .int 4])), (xspru, .inr (8, [.ref xspruc, .int 0, .ref xsprue, .ref xspruk, .int 0])), (xsprue, .inl (cE, 4, .inl f1)), (xspno, .inr (6, [.int 0, .ref xspnos, .ref xspnof, .ref xspnoz]))] sz)) 0 0 (va_A [(xpa, .inr (7, [.ref plx, .null, .int 0, .int (-1), .int 0, .ref phd, .ref phr, .int 0, .int 0])), (plx, .inr (3, [.ref lby, .int 0, .ref lco, .int 0, .int 0, .int 0, .int 0, .int 0, .int 0])), (xsp, .inr (0, [.ref xspto, .ref xspnm, .ref xspla, .ref xspsk, .ref xspru, .ref xspbo, .ref xspdi, .ref xspda, .ref xspdk, .ref xspdt, .ref xspdp, .ref xspno])), (xspto, .inl (cT, 5, .inl f0)), (xspsk, .inr (9, [.int 7, .int 0, .int 59, .int 2, .int 0, .int 1461, .int 4])), (xspru, .inr (8, [.ref xspruc, .int 0, .ref xsprue, .ref xspruk, .int 0])), (xsprue, .inl (cE, 4, .inl f1)), (xspno, .inr (6, [.int 0, .ref xspnos, .ref xspnof, .ref xspnoz]))] sz) := by
  refine va_MetW (cc := cX7_read) (maxL := 5) (ret := (some .int)) (hh := [(37, 73, 76, 56)]) (by decide) rfl ?_
  intro p e s m args below meth c s₁ B hml hv
  obtain ⟨rfl, hsz, hP, hK, hD0⟩ := hv
  have hx := B.exec
  have hb := B.bytes
  have hr := B.returns
  have hts := atoms_spec (ws := Cond.codeWith yX7_read cX7_read 5 (some .int) [(37, 73, 76, 56)] :: wsL_law) B.pre
  have htw : ∀ w ∈ wsL_law, w.before _ s = true := fun w h => hts w (List.mem_cons_of_mem _ h)
  have hown : s.vm.findClass RX7 = some m.cls := findClass_of_methodNamed B.named
  have hlocks := B.notSynchronized
  subst hsz
  have hD := hD0.self (sz := s.heap.size)
  generalize hAe : va_A [(xpa, .inr (7, [.ref plx, .null, .int 0, .int (-1), .int 0, .ref phd, .ref phr, .int 0, .int 0])), (plx, .inr (3, [.ref lby, .int 0, .ref lco, .int 0, .int 0, .int 0, .int 0, .int 0, .int 0])), (xsp, .inr (0, [.ref xspto, .ref xspnm, .ref xspla, .ref xspsk, .ref xspru, .ref xspbo, .ref xspdi, .ref xspda, .ref xspdk, .ref xspdt, .ref xspdp, .ref xspno])), (xspto, .inl (cT, 5, .inl f0)), (xspsk, .inr (9, [.int 7, .int 0, .int 59, .int 2, .int 0, .int 1461, .int 4])), (xspru, .inr (8, [.ref xspruc, .int 0, .ref xsprue, .ref xspruk, .int 0])), (xsprue, .inl (cE, 4, .inl f1)), (xspno, .inr (6, [.int 0, .ref xspnos, .ref xspnof, .ref xspnoz]))] s.heap.size = A at hD ⊢
  have hA : ∀ q : Nat, s.heap.size ≤ q → A q := fun q h => by rw [← hAe]; exact Or.inr h
  obtain ⟨H, rH⟩ : ∃ z : Heap, z = s.heap := ⟨_, rfl⟩
  have hS : va_S A s.heap H [] := by rw [rH]; exact va_S.rf
  have hP : va_P (dC, dI) vwCl [(xpa, .inr (7, [.ref plx, .null, .int 0, .int (-1), .int 0, .ref phd, .ref phr, .int 0, .int 0])), (plx, .inr (3, [.ref lby, .int 0, .ref lco, .int 0, .int 0, .int 0, .int 0, .int 0, .int 0])), (xsp, .inr (0, [.ref xspto, .ref xspnm, .ref xspla, .ref xspsk, .ref xspru, .ref xspbo, .ref xspdi, .ref xspda, .ref xspdk, .ref xspdt, .ref xspdp, .ref xspno])), (xspto, .inl (cT, 5, .inl f0)), (xspsk, .inr (9, [.int 7, .int 0, .int 59, .int 2, .int 0, .int 1461, .int 4])), (xspru, .inr (8, [.ref xspruc, .int 0, .ref xsprue, .ref xspruk, .int 0])), (xsprue, .inl (cE, 4, .inl f1)), (xspno, .inr (6, [.int 0, .ref xspnos, .ref xspnof, .ref xspnoz]))] H := by rw [rH]; exact hP
  rw [← rH]
  have hl := lv_entry ([.ref xpa, .ref xsp, .int 0]) (n := 5) (Nat.le_of_ble_eq_true rfl)
  rw [lg_entry_eq]
  generalize (lg_sl ([.ref xpa, .ref xsp, .int 0]) ++ List.replicate (5 - (lg_sl ([.ref xpa, .ref xsp, .int 0])).length) Slot.unset).toArray = ls at hl ⊢
  have hl : lv_has ls 5 [(0, .ref xpa), (1, .ref xsp), (2, .int 0)] := hl
  refine lv_aload_n hx hb dX7_read_0 rfl (lv_at hl 0 rfl) ?_
  refine lv_aload_n hx hb dX7_read_1 rfl (lv_at hl 1 rfl) ?_
  refine va_put (D := (dC, dI)) (ci := 7) (v := .ref xsp) (ty := tyX7 1) (C := RX7) (T := TX7) (N := 9) hx hb htw inlX7 tyX7 tyX7_ok nmX7 hown hK hP hD hS 0 rfl rfl 1 (by decide) (htw _ (ck_13 _ (List.mem_of_getElem? (i := 6) rfl))) (fun _ h9 => h9) rfl (by decide +kernel) rfl rfl (Nat.le_of_ble_eq_true rfl) dX7_read_2 (fun H locs hP hD hS => ?_)
  have hP : va_P (dC, dI) vwCl [(xpa, .inr (7, [.ref plx, .ref xsp, .int 0, .int (-1), .int 0, .ref phd, .ref phr, .int 0, .int 0])), (plx, .inr (3, [.ref lby, .int 0, .ref lco, .int 0, .int 0, .int 0, .int 0, .int 0, .int 0])), (xsp, .inr (0, [.ref xspto, .ref xspnm, .ref xspla, .ref xspsk, .ref xspru, .ref xspbo, .ref xspdi, .ref xspda, .ref xspdk, .ref xspdt, .ref xspdp, .ref xspno])), (xspto, .inl (cT, 5, .inl f0)), (xspsk, .inr (9, [.int 7, .int 0, .int 59, .int 2, .int 0, .int 1461, .int 4])), (xspru, .inr (8, [.ref xspruc, .int 0, .ref xsprue, .ref xspruk, .int 0])), (xsprue, .inl (cE, 4, .inl f1)), (xspno, .inr (6, [.int 0, .ref xspnos, .ref xspnof, .ref xspnoz]))] H := hP
  have hD : va_D A [(xpa, .inr (7, [.ref plx, .ref xsp, .int 0, .int (-1), .int 0, .ref phd, .ref phr, .int 0, .int 0])), (plx, .inr (3, [.ref lby, .int 0, .ref lco, .int 0, .int 0, .int 0, .int 0, .int 0, .int 0])), (xsp, .inr (0, [.ref xspto, .ref xspnm, .ref xspla, .ref xspsk, .ref xspru, .ref xspbo, .ref xspdi, .ref xspda, .ref xspdk, .ref xspdt, .ref xspdp, .ref xspno])), (xspto, .inl (cT, 5, .inl f0)), (xspsk, .inr (9, [.int 7, .int 0, .int 59, .int 2, .int 0, .int 1461, .int 4])), (xspru, .inr (8, [.ref xspruc, .int 0, .ref xsprue, .ref xspruk, .int 0])), (xsprue, .inl (cE, 4, .inl f1)), (xspno, .inr (6, [.int 0, .ref xspnos, .ref xspnof, .ref xspnoz]))] := hD
  refine lv_aload_n hx hb dX7_read_5 rfl (lv_at hl 0 rfl) ?_
  refine va_get (D := (dC, dI)) (ci := 7) (v := .ref xsp) (C := RX7) (T := TX7) (N := 9) hx hb htw inlX7 hown hK hP 0 rfl rfl 1 (by decide) (htw _ (ck_13 _ (List.mem_of_getElem? (i := 6) rfl))) (fun _ h9 => h9) rfl dX7_read_6 ?_
  have hPc := hP.sub (ws' := [(xsp, .inr (0, [.ref xspto, .ref xspnm, .ref xspla, .ref xspsk, .ref xspru, .ref xspbo, .ref xspdi, .ref xspda, .ref xspdk, .ref xspdt, .ref xspdp, .ref xspno])), (xspto, .inl (cT, 5, .inl f0)), (xspsk, .inr (9, [.int 7, .int 0, .int 59, .int 2, .int 0, .int 1461, .int 4])), (xspru, .inr (8, [.ref xspruc, .int 0, .ref xsprue, .ref xspruk, .int 0])), (xsprue, .inl (cE, 4, .inl f1)), (xspno, .inr (6, [.int 0, .ref xspnos, .ref xspnof, .ref xspnoz]))]) [2, 3, 4, 5, 6, 7] rfl
  have hKc := hK.sub (tys' := [(cT, .int), (cE, .int)]) [0, 1] rfl
  have hDc := hD.sub (ws' := [(xsp, .inr (0, [.ref xspto, .ref xspnm, .ref xspla, .ref xspsk, .ref xspru, .ref xspbo, .ref xspdi, .ref xspda, .ref xspdk, .ref xspdt, .ref xspdp, .ref xspno])), (xspto, .inl (cT, 5, .inl f0)), (xspsk, .inr (9, [.int 7, .int 0, .int 59, .int 2, .int 0, .int 1461, .int 4])), (xspru, .inr (8, [.ref xspruc, .int 0, .ref xsprue, .ref xspruk, .int 0])), (xsprue, .inl (cE, 4, .inl f1)), (xspno, .inr (6, [.int 0, .ref xspnos, .ref xspnof, .ref xspnoz]))]) [2, 3, 4, 5, 6, 7] (by decide) rfl
  have hFc := va_free (wc := [(xsp, .inr (0, [.ref xspto, .ref xspnm, .ref xspla, .ref xspsk, .ref xspru, .ref xspbo, .ref xspdi, .ref xspda, .ref xspdk, .ref xspdt, .ref xspdp, .ref xspno])), (xspto, .inl (cT, 5, .inl f0)), (xspsk, .inr (9, [.int 7, .int 0, .int 59, .int 2, .int 0, .int 1461, .int 4])), (xspru, .inr (8, [.ref xspruc, .int 0, .ref xsprue, .ref xspruk, .int 0])), (xsprue, .inl (cE, 4, .inl f1)), (xspno, .inr (6, [.int 0, .ref xspnos, .ref xspnof, .ref xspnoz]))]) hD hS hA [2, 3, 4, 5, 6, 7] rfl
  refine va_callv (va_runV (As := []) (rest := []) ⟨hx, hb, hml, hown, htw⟩ (mt_bclear l dC dI xsp xspto xspnm xspla xspsk xspru xspbo xspdi xspda xspdk xspdt xspdp xspno xspruc xsprue xspruk xspnos xspnof xspnoz cT cE f0 f1 H.size) (cwV 0 htw (xg_V (ck_13 _ (List.mem_of_getElem? (i := 10) rfl)) (ck_13 _ (List.mem_of_getElem? (i := 11) rfl)) (ck_13 _ (List.mem_of_getElem? (i := 12) rfl)) (ck_1 _ (List.mem_of_getElem? (i := 20) rfl)) (ck_13 _ (List.mem_of_getElem? (i := 13) rfl))) rfl rfl rfl (by decide +kernel) ⟨Nat.le_of_ble_eq_true rfl, Nat.le_of_ble_eq_true rfl⟩) ⟨fun a U g mk q => by obtain ⟨q0, q1, qP, qK, qD⟩ := q; exact ⟨q0, q1, qP, va_K.moved (u := U) (U := U.calling g mk a) (Vm.Alike.refl U.vm) qK, qD⟩, va_recv hKc hPc (ci := 0) (q0 := 0) rfl rfl, fun U hU hW => ⟨rfl, by rw [hU], by rw [hU]; exact hPc, va_K.moved hW.alike hKc, hDc.weaken (fun _ _ _ _ => trivial)⟩⟩ rfl rfl hl.1 rfl (lv_room (Nat.le_of_ble_eq_true rfl)) dX7_read_9 ⟨Nat.le_of_ble_eq_true rfl, Nat.le_of_ble_eq_true rfl⟩) hS (fun q _ h => hFc q h) hFc (fun u_2 t H1 locs ht hvm hw hB hz1 hk1 hS => ?_)
  try dsimp only at hw
  have hP1 : va_P (dC, dI) vwCl [] H1 := fun k q h => by simp at h
  have hD1 : va_D (va_A [(xsp, .inr (0, [.ref xspto, .ref xspnm, .ref xspla, .ref xspsk, .ref xspru, .ref xspbo, .ref xspdi, .ref xspda, .ref xspdk, .ref xspdt, .ref xspdp, .ref xspno])), (xspto, .inl (cT, 5, .inl f0)), (xspsk, .inr (9, [.int 7, .int 0, .int 59, .int 2, .int 0, .int 1461, .int 4])), (xspru, .inr (8, [.ref xspruc, .int 0, .ref xsprue, .ref xspruk, .int 0])), (xsprue, .inl (cE, 4, .inl f1)), (xspno, .inr (6, [.int 0, .ref xspnos, .ref xspnof, .ref xspnoz]))] H.size) [] := ⟨fun i j p q h => by simp at h, fun k q h => by simp at h⟩
  obtain ⟨hP, hD⟩ := va_join (wr := [(xpa, .inr (7, [.ref plx, .ref xsp, .int 0, .int (-1), .int 0, .ref phd, .ref phr, .int 0, .int 0])), (plx, .inr (3, [.ref lby, .int 0, .ref lco, .int 0, .int 0, .int 0, .int 0, .int 0, .int 0]))]) (w1 := []) hP hD [2, 3, 4, 5, 6, 7] [0, 1] rfl rfl (by decide) (by decide) hk1 hFc hP1 hD1
  generalize H1 = H at hP hS ⊢
  have hP : va_P (dC, dI) vwCl [(xpa, .inr (7, [.ref plx, .ref xsp, .int 0, .int (-1), .int 0, .ref phd, .ref phr, .int 0, .int 0])), (plx, .inr (3, [.ref lby, .int 0, .ref lco, .int 0, .int 0, .int 0, .int 0, .int 0, .int 0]))] H := hP
  have hD : va_D A [(xpa, .inr (7, [.ref plx, .ref xsp, .int 0, .int (-1), .int 0, .ref phd, .ref phr, .int 0, .int 0])), (plx, .inr (3, [.ref lby, .int 0, .ref lco, .int 0, .int 0, .int 0, .int 0, .int 0, .int 0]))] := hD
  refine W.widen (k := 0) (n := 0) (by omega) (by omega) ?_
  refine lv_aload_n hx hb dX7_read_12 rfl (lv_at hl 0 rfl) ?_
  refine lv_iconst (v := 0) hx hb dX7_read_13 (by decide) ?_
  refine va_put (D := (dC, dI)) (ci := 7) (v := .int 0) (ty := tyX7 4) (C := RX7) (T := TX7) (N := 9) hx hb htw inlX7 tyX7 tyX7_ok nmX7 hown hK hP hD hS 0 rfl rfl 4 (by decide) (htw _ (ck_13 _ (List.mem_of_getElem? (i := 7) rfl))) (fun _ h9 => h9) rfl (by decide +kernel) rfl rfl (Nat.le_of_ble_eq_true rfl) dX7_read_14 (fun H locs hP hD hS => ?_)
  have hP : va_P (dC, dI) vwCl [(xpa, .inr (7, [.ref plx, .ref xsp, .int 0, .int (-1), .int 0, .ref phd, .ref phr, .int 0, .int 0])), (plx, .inr (3, [.ref lby, .int 0, .ref lco, .int 0, .int 0, .int 0, .int 0, .int 0, .int 0]))] H := hP
  have hD : va_D A [(xpa, .inr (7, [.ref plx, .ref xsp, .int 0, .int (-1), .int 0, .ref phd, .ref phr, .int 0, .int 0])), (plx, .inr (3, [.ref lby, .int 0, .ref lco, .int 0, .int 0, .int 0, .int 0, .int 0, .int 0]))] := hD
  refine lv_aload_n hx hb dX7_read_17 rfl (lv_at hl 0 rfl) ?_
  refine lv_iconst (v := 0) hx hb dX7_read_18 (by decide) ?_
  refine va_put (D := (dC, dI)) (ci := 7) (v := .int 0) (ty := tyX7 2) (C := RX7) (T := TX7) (N := 9) hx hb htw inlX7 tyX7 tyX7_ok nmX7 hown hK hP hD hS 0 rfl rfl 2 (by decide) (htw _ (ck_13 _ (List.mem_of_getElem? (i := 8) rfl))) (fun _ h9 => h9) rfl (by decide +kernel) rfl rfl (Nat.le_of_ble_eq_true rfl) dX7_read_19 (fun H locs hP hD hS => ?_)
  have hP : va_P (dC, dI) vwCl [(xpa, .inr (7, [.ref plx, .ref xsp, .int 0, .int (-1), .int 0, .ref phd, .ref phr, .int 0, .int 0])), (plx, .inr (3, [.ref lby, .int 0, .ref lco, .int 0, .int 0, .int 0, .int 0, .int 0, .int 0]))] H := hP
  have hD : va_D A [(xpa, .inr (7, [.ref plx, .ref xsp, .int 0, .int (-1), .int 0, .ref phd, .ref phr, .int 0, .int 0])), (plx, .inr (3, [.ref lby, .int 0, .ref lco, .int 0, .int 0, .int 0, .int 0, .int 0, .int 0]))] := hD
  refine lv_aload_n hx hb dX7_read_22 rfl (lv_at hl 0 rfl) ?_
  refine lv_iconst (v := (-1)) hx hb dX7_read_23 (by decide) ?_
  refine va_put (D := (dC, dI)) (ci := 7) (v := .int (-1)) (ty := tyX7 3) (C := RX7) (T := TX7) (N := 9) hx hb htw inlX7 tyX7 tyX7_ok nmX7 hown hK hP hD hS 0 rfl rfl 3 (by decide) (htw _ (ck_3 _ (List.mem_of_getElem? (i := 6) rfl))) (fun _ h9 => h9) rfl (by decide +kernel) rfl rfl (Nat.le_of_ble_eq_true rfl) dX7_read_24 (fun H locs hP hD hS => ?_)
  have hP : va_P (dC, dI) vwCl [(xpa, .inr (7, [.ref plx, .ref xsp, .int 0, .int (-1), .int 0, .ref phd, .ref phr, .int 0, .int 0])), (plx, .inr (3, [.ref lby, .int 0, .ref lco, .int 0, .int 0, .int 0, .int 0, .int 0, .int 0]))] H := hP
  have hD : va_D A [(xpa, .inr (7, [.ref plx, .ref xsp, .int 0, .int (-1), .int 0, .ref phd, .ref phr, .int 0, .int 0])), (plx, .inr (3, [.ref lby, .int 0, .ref lco, .int 0, .int 0, .int 0, .int 0, .int 0, .int 0]))] := hD
  refine lv_aload_n hx hb dX7_read_27 rfl (lv_at hl 0 rfl) ?_
  refine va_get (D := (dC, dI)) (ci := 7) (v := .ref plx) (C := RX7) (T := TX7) (N := 9) hx hb htw inlX7 hown hK hP 0 rfl rfl 0 (by decide) (htw _ (ck_3 _ (List.mem_of_getElem? (i := 5) rfl))) (fun _ h9 => h9) rfl dX7_read_28 ?_
  refine lv_iload_n hx hb dX7_read_31 rfl (lv_at hl 2 rfl) ?_
  have hPc := hP.sub (ws' := [(plx, .inr (3, [.ref lby, .int 0, .ref lco, .int 0, .int 0, .int 0, .int 0, .int 0, .int 0]))]) [1] rfl
  have hKc := hK.sub (tys' := []) [] rfl
  have hDc := hD.sub (ws' := [(plx, .inr (3, [.ref lby, .int 0, .ref lco, .int 0, .int 0, .int 0, .int 0, .int 0, .int 0]))]) [1] (by decide) rfl
  have hFc := va_free (wc := [(plx, .inr (3, [.ref lby, .int 0, .ref lco, .int 0, .int 0, .int 0, .int 0, .int 0, .int 0]))]) hD hS hA [1] rfl
  refine va_callv (va_runV (As := [.int 0]) (rest := []) ⟨hx, hb, hml, hown, htw⟩ (mt_start l dC dI plx lby lco H.size) (cwV 1 htw (xg_V (ck_14 _ (List.mem_of_getElem? (i := 2) rfl)) (ck_14 _ (List.mem_of_getElem? (i := 3) rfl)) (ck_14 _ (List.mem_of_getElem? (i := 4) rfl)) (ck_3 _ (List.mem_of_getElem? (i := 4) rfl)) (ck_14 _ (List.mem_of_getElem? (i := 5) rfl))) rfl rfl rfl (by decide +kernel) ⟨Nat.le_of_ble_eq_true rfl, Nat.le_of_ble_eq_true rfl⟩) ⟨fun a U g mk q => by obtain ⟨q0, q1, qP, qK, qD⟩ := q; exact ⟨q0, q1, qP, va_K.moved (u := U) (U := U.calling g mk a) (Vm.Alike.refl U.vm) qK, qD⟩, va_recv hKc hPc (ci := 3) (q0 := 0) rfl rfl, fun U hU hW => ⟨rfl, by rw [hU], by rw [hU]; exact hPc, va_K.moved hW.alike hKc, hDc.weaken (fun _ _ _ _ => trivial)⟩⟩ rfl rfl hl.1 rfl (lv_room (Nat.le_of_ble_eq_true rfl)) dX7_read_32 ⟨Nat.le_of_ble_eq_true rfl, Nat.le_of_ble_eq_true rfl⟩) hS (fun q _ h => hFc q h) hFc (fun u_4 t H1 locs ht hvm hw hB hz1 hk1 hS => ?_)
  try dsimp only at hw
  obtain ⟨hP1, hK1, hD1⟩ := hB
  rw [ht] at hP1
  have hK1 := va_K.moved hvm.symm hK1
  have hP1 : va_P (dC, dI) vwCl [(plx, .inr (3, [.ref lby, .int 0, .ref lco, .int 0, .int 0, .int 40, .int 0, .int 0, .int 0]))] H1 := hP1
  have hD1 : va_D (va_A [(plx, .inr (3, [.ref lby, .int 0, .ref lco, .int 0, .int 0, .int 0, .int 0, .int 0, .int 0]))] H.size) [(plx, .inr (3, [.ref lby, .int 0, .ref lco, .int 0, .int 0, .int 40, .int 0, .int 0, .int 0]))] := hD1
  have hK1 : va_K (dC, dI) vwCl [] s := hK1
  obtain ⟨hP, hD⟩ := va_join (wr := [(xpa, .inr (7, [.ref plx, .ref xsp, .int 0, .int (-1), .int 0, .ref phd, .ref phr, .int 0, .int 0]))]) (w1 := [(plx, .inr (3, [.ref lby, .int 0, .ref lco, .int 0, .int 0, .int 40, .int 0, .int 0, .int 0]))]) hP hD [1] [0] rfl rfl (by decide) (by decide) hk1 hFc hP1 hD1
  generalize H1 = H at hP hS ⊢
  have hP : va_P (dC, dI) vwCl [(xpa, .inr (7, [.ref plx, .ref xsp, .int 0, .int (-1), .int 0, .ref phd, .ref phr, .int 0, .int 0])), (plx, .inr (3, [.ref lby, .int 0, .ref lco, .int 0, .int 0, .int 40, .int 0, .int 0, .int 0]))] H := hP
  have hD : va_D A [(xpa, .inr (7, [.ref plx, .ref xsp, .int 0, .int (-1), .int 0, .ref phd, .ref phr, .int 0, .int 0])), (plx, .inr (3, [.ref lby, .int 0, .ref lco, .int 0, .int 0, .int 40, .int 0, .int 0, .int 0]))] := hD
  refine W.widen (k := 0) (n := 0) (by omega) (by omega) ?_
  refine lv_iconst (v := 0) hx hb dX7_read_35 (by decide) ?_
  refine lv_istore_n (lv' := [(3, .int 0), (0, .ref xpa), (1, .ref xsp), (2, .int 0)]) hx hb dX7_read_36 rfl hl (by decide) rfl (fun ls hl => ?_)
  refine lv_iconst (v := 0) hx hb dX7_read_37 (by decide) ?_
  refine lv_istore (lv' := [(4, .int 0), (3, .int 0), (0, .ref xpa), (1, .ref xsp), (2, .int 0)]) hx hb dX7_read_38 hl (by decide) rfl (fun ls hl => ?_)
  refine lv_iload hx hb dX7_read_40 (lv_at hl 0 rfl) ?_
  refine lv_sipush (v := 900) hx hb dX7_read_42 (by decide) ?_
  refine lv_icmp_ge (tgt := 73) hx hb dX7_read_45 (by decide) (fun c => absurd c (by decide)) (fun _ => ?_)
  refine lv_aload_n hx hb dX7_read_48 rfl (lv_at hl 2 rfl) ?_
  refine va_get (D := (dC, dI)) (ci := 7) (v := .ref plx) (C := RX7) (T := TX7) (N := 9) hx hb htw inlX7 hown hK hP 0 rfl rfl 0 (by decide) (htw _ (ck_3 _ (List.mem_of_getElem? (i := 5) rfl))) (fun _ h9 => h9) rfl dX7_read_49 ?_
  refine va_get (D := (dC, dI)) (ci := 3) (v := .int 40) (C := RX3) (T := TX3) (N := 9) hx hb htw inlX3 hown hK hP 1 rfl rfl 5 (by decide) (htw _ (ck_13 _ (List.mem_of_getElem? (i := 9) rfl))) (fun _ h9 => h9) rfl dX7_read_52 ?_
  refine lv_bipush (v := 40) hx hb dX7_read_55 (by decide) ?_
  refine lv_icmp_eq (tgt := 73) hx hb dX7_read_57 (by decide) (fun _ => ?_) (fun c => absurd c (by decide))
  refine lv_goto (tgt := 80) hx hb dX7_read_73 (by decide) ?_
  refine lv_iload_n hx hb dX7_read_80 rfl (lv_at hl 1 rfl) ?_
  refine W.widen (k := 0) (n := 0) (by omega) (by omega) ?_
  exact W.iret (v := 0) hx hb hr (fun t ht hW => ⟨⟨0, (), rfl, rfl, trivial⟩, hS.F ht⟩) hS.2.2 dX7_read_81

theorem dX11_text_0 : decode cX11_text 0 = .ok (.iload_n 1, 1) := by decide +kernel
theorem dX11_text_1 : decode cX11_text 1 = .ok (.ifCond .lt 17, 3) := by decide +kernel
theorem dX11_text_18 : decode cX11_text 18 = .ok (.bipush (-2), 2) := by decide +kernel
theorem dX11_text_20 : decode cX11_text 20 = .ok (.ireturn, 1) := by decide +kernel
theorem dX11_text_4 : decode cX11_text 4 = .ok (.iload_n 1, 1) := by decide +kernel
theorem dX11_text_5 : decode cX11_text 5 = .ok (.aload_n 0, 1) := by decide +kernel
theorem dX11_text_6 : decode cX11_text 6 = .ok (.getfield 12, 3) := by decide +kernel
theorem dX11_text_9 : decode cX11_text 9 = .ok (.getfield 71, 3) := by decide +kernel
theorem dX11_text_12 : decode cX11_text 12 = .ok (.getfield 75, 3) := by decide +kernel
theorem dX11_text_15 : decode cX11_text 15 = .ok (.if_icmp .le 6, 3) := by decide +kernel
theorem dX11_text_21 : decode cX11_text 21 = .ok (.aload_n 0, 1) := by decide +kernel
theorem dX11_text_22 : decode cX11_text 22 = .ok (.getfield 12, 3) := by decide +kernel
theorem dX11_text_25 : decode cX11_text 25 = .ok (.aload_n 0, 1) := by decide +kernel
theorem dX11_text_26 : decode cX11_text 26 = .ok (.getfield 23, 3) := by decide +kernel
theorem dX11_text_29 : decode cX11_text 29 = .ok (.iload_n 1, 1) := by decide +kernel
theorem dX11_text_30 : decode cX11_text 30 = .ok (.invokevirtual 85, 3) := by decide +kernel
theorem dX11_text_33 : decode cX11_text 33 = .ok (.istore_n 2, 1) := by decide +kernel
theorem dX11_text_34 : decode cX11_text 34 = .ok (.iload_n 2, 1) := by decide +kernel
theorem dX11_text_35 : decode cX11_text 35 = .ok (.iconst (-1), 1) := by decide +kernel
theorem dX11_text_36 : decode cX11_text 36 = .ok (.if_icmp .ne 5, 3) := by decide +kernel
theorem dX11_text_41 : decode cX11_text 41 = .ok (.aload_n 0, 1) := by decide +kernel
theorem dX11_text_42 : decode cX11_text 42 = .ok (.getfield 19, 3) := by decide +kernel
theorem dX11_text_45 : decode cX11_text 45 = .ok (.astore_n 3, 1) := by decide +kernel
theorem dX11_text_46 : decode cX11_text 46 = .ok (.aload_n 0, 1) := by decide +kernel
theorem dX11_text_47 : decode cX11_text 47 = .ok (.aload_n 0, 1) := by decide +kernel
theorem dX11_text_48 : decode cX11_text 48 = .ok (.getfield 23, 3) := by decide +kernel
theorem dX11_text_51 : decode cX11_text 51 = .ok (.putfield 19, 3) := by decide +kernel
theorem dX11_text_54 : decode cX11_text 54 = .ok (.aload_n 0, 1) := by decide +kernel
theorem dX11_text_55 : decode cX11_text 55 = .ok (.aload_n 3, 1) := by decide +kernel
theorem dX11_text_56 : decode cX11_text 56 = .ok (.putfield 23, 3) := by decide +kernel
theorem dX11_text_59 : decode cX11_text 59 = .ok (.aload_n 0, 1) := by decide +kernel
theorem dX11_text_60 : decode cX11_text 60 = .ok (.getfield 29, 3) := by decide +kernel
theorem dX11_text_63 : decode cX11_text 63 = .ok (.iconst 0, 1) := by decide +kernel
theorem dX11_text_64 : decode cX11_text 64 = .ok (.invokevirtual 89, 3) := by decide +kernel
theorem dX11_text_67 : decode cX11_text 67 = .ok (.aload_n 0, 1) := by decide +kernel
theorem dX11_text_68 : decode cX11_text 68 = .ok (.iconst 0, 1) := by decide +kernel
theorem dX11_text_69 : decode cX11_text 69 = .ok (.putfield 92, 3) := by decide +kernel
theorem dX11_text_72 : decode cX11_text 72 = .ok (.aload_n 0, 1) := by decide +kernel
theorem dX11_text_73 : decode cX11_text 73 = .ok (.getfield 36, 3) := by decide +kernel
theorem dX11_text_76 : decode cX11_text 76 = .ok (.iconst 0, 1) := by decide +kernel
theorem dX11_text_77 : decode cX11_text 77 = .ok (.putfield 95, 3) := by decide +kernel
theorem dX11_text_80 : decode cX11_text 80 = .ok (.aload_n 0, 1) := by decide +kernel
theorem dX11_text_81 : decode cX11_text 81 = .ok (.iconst 0, 1) := by decide +kernel
theorem dX11_text_82 : decode cX11_text 82 = .ok (.putfield 98, 3) := by decide +kernel
theorem dX11_text_85 : decode cX11_text 85 = .ok (.iload_n 2, 1) := by decide +kernel
theorem dX11_text_86 : decode cX11_text 86 = .ok (.ireturn, 1) := by decide +kernel
set_option maxHeartbeats 4000000 in
set_option maxRecDepth 100000 in
theorem mx_text (l : Launch) (dC : Nat → ClassId) (dI : Nat → Nat → Nat) (x : Nat) (xpa : Nat) (xsp : Nat) (xdy : Nat) (xle : Nat) (xst : Nat) (xim : Nat) (xil : Nat) (xmo : Nat) (xom : Nat) (xwi : Nat) (b : Nat) (plx : Nat) (phd : Nat) (phr : Nat) (lby : Nat) (lco : Nat) (xspto : Nat) (xspnm : Nat) (xspla : Nat) (xspsk : Nat) (xspru : Nat) (xspbo : Nat) (xspdi : Nat) (xspda : Nat) (xspdk : Nat) (xspdt : Nat) (xspdp : Nat) (xspno : Nat) (xspruc : Nat) (xsprue : Nat) (xspruk : Nat) (xspnos : Nat) (xspnof : Nat) (xspnoz : Nat) (cT : ClassId) (cE : ClassId) (f0 : Nat → Int32) (f1 : Nat → Int32) (dro : Nat) (dsh : Nat) (dto : Nat) (dmo : Nat) (dwi : Nat) (xlen : Nat) (xlec : Nat) (a0 : Int32) (sz : Nat) : Met l yX11_text (Cond.code yX11_text cX11_text 4 (some .int) :: wsL_law) ({ frames := 4, cells := 0, slots := 0, locals := 87 }) (va_Pc [.ref x, .int a0] (fun U => U.heap.size = sz ∧ va_P (dC, dI) vwCl [(x, .inr (11, [.ref xpa, .ref b, .ref xsp, .ref xdy, .ref xle, .ref xst, .int 0, .ref xim, .ref xil, .int 0, .ref xmo, .ref xom, .ref xwi])), (xpa, .inr (7, [.ref plx, .null, .int 0, .int (-1), .int 0, .ref phd, .ref phr, .int 0, .int 0])), (plx, .inr (3, [.ref lby, .int 0, .ref lco, .int 0, .int 0, .int 0, .int 0, .int 0, .int 0])), (xsp, .inr (0, [.ref xspto, .ref xspnm, .ref xspla, .ref xspsk, .ref xspru, .ref xspbo, .ref xspdi, .ref xspda, .ref xspdk, .ref xspdt, .ref xspdp, .ref xspno])), (xspto, .inl (cT, 5, .inl f0)), (xspsk, .inr (9, [.int 7, .int 0, .int 59, .int 2, .int 0, .int 1461, .int 4])), (xspru, .inr (8, [.ref xspruc, .int 0, .ref xsprue, .ref xspruk, .int 0])), (xsprue, .inl (cE, 4, .inl f1)), (xspno, .inr (6, [.int 0, .ref xspnos, .ref xspnof, .ref xspnoz])), (xdy, .inr (5, [.ref dro, .int 0, .ref dsh, .ref dto, .ref dmo, .ref dwi])), (xle, .inr (2, [.int 0, .ref xlen, .ref xlec]))] U.heap ∧ va_K (dC, dI) vwCl [(cT, .int), (cE, .int)] U ∧ va_D (fun _ => True) [(x, .inr (11, [.ref xpa, .ref b, .ref xsp, .ref xdy, .ref xle, .ref xst, .int 0, .ref xim, .ref xil, .int 0, .ref xmo, .ref xom, .ref xwi])), (xpa, .inr (7, [.ref plx, .null, .int 0, .int (-1), .int 0, .ref phd, .ref phr, .int 0, .int 0])), (plx, .inr (3, [.ref lby, .int 0, .ref lco, .int 0, .int 0, .int 0, .int 0, .int 0, .int 0])), (xsp, .inr (0, [.ref xspto, .ref xspnm, .ref xspla, .ref xspsk, .ref xspru, .ref xspbo, .ref xspdi, .ref xspda, .ref xspdk, .ref xspdt, .ref xspdp, .ref xspno])), (xspto, .inl (cT, 5, .inl f0)), (xspsk, .inr (9, [.int 7, .int 0, .int 59, .int 2, .int 0, .int 1461, .int 4])), (xspru, .inr (8, [.ref xspruc, .int 0, .ref xsprue, .ref xspruk, .int 0])), (xsprue, .inl (cE, 4, .inl f1)), (xspno, .inr (6, [.int 0, .ref xspnos, .ref xspnof, .ref xspnoz])), (xdy, .inr (5, [.ref dro, .int 0, .ref dsh, .ref dto, .ref dmo, .ref dwi])), (xle, .inr (2, [.int 0, .ref xlen, .ref xlec]))])) (va_Qi (fun (r : Int32) (u : Unit) => r = xr_text a0) (fun _ _ => True) (va_A [(x, .inr (11, [.ref xpa, .ref b, .ref xsp, .ref xdy, .ref xle, .ref xst, .int 0, .ref xim, .ref xil, .int 0, .ref xmo, .ref xom, .ref xwi])), (xpa, .inr (7, [.ref plx, .null, .int 0, .int (-1), .int 0, .ref phd, .ref phr, .int 0, .int 0])), (plx, .inr (3, [.ref lby, .int 0, .ref lco, .int 0, .int 0, .int 0, .int 0, .int 0, .int 0])), (xsp, .inr (0, [.ref xspto, .ref xspnm, .ref xspla, .ref xspsk, .ref xspru, .ref xspbo, .ref xspdi, .ref xspda, .ref xspdk, .ref xspdt, .ref xspdp, .ref xspno])), (xspto, .inl (cT, 5, .inl f0)), (xspsk, .inr (9, [.int 7, .int 0, .int 59, .int 2, .int 0, .int 1461, .int 4])), (xspru, .inr (8, [.ref xspruc, .int 0, .ref xsprue, .ref xspruk, .int 0])), (xsprue, .inl (cE, 4, .inl f1)), (xspno, .inr (6, [.int 0, .ref xspnos, .ref xspnof, .ref xspnoz])), (xdy, .inr (5, [.ref dro, .int 0, .ref dsh, .ref dto, .ref dmo, .ref dwi])), (xle, .inr (2, [.int 0, .ref xlen, .ref xlec]))] sz)) 0 0 (va_A [(x, .inr (11, [.ref xpa, .ref b, .ref xsp, .ref xdy, .ref xle, .ref xst, .int 0, .ref xim, .ref xil, .int 0, .ref xmo, .ref xom, .ref xwi])), (xpa, .inr (7, [.ref plx, .null, .int 0, .int (-1), .int 0, .ref phd, .ref phr, .int 0, .int 0])), (plx, .inr (3, [.ref lby, .int 0, .ref lco, .int 0, .int 0, .int 0, .int 0, .int 0, .int 0])), (xsp, .inr (0, [.ref xspto, .ref xspnm, .ref xspla, .ref xspsk, .ref xspru, .ref xspbo, .ref xspdi, .ref xspda, .ref xspdk, .ref xspdt, .ref xspdp, .ref xspno])), (xspto, .inl (cT, 5, .inl f0)), (xspsk, .inr (9, [.int 7, .int 0, .int 59, .int 2, .int 0, .int 1461, .int 4])), (xspru, .inr (8, [.ref xspruc, .int 0, .ref xsprue, .ref xspruk, .int 0])), (xsprue, .inl (cE, 4, .inl f1)), (xspno, .inr (6, [.int 0, .ref xspnos, .ref xspnof, .ref xspnoz])), (xdy, .inr (5, [.ref dro, .int 0, .ref dsh, .ref dto, .ref dmo, .ref dwi])), (xle, .inr (2, [.int 0, .ref xlen, .ref xlec]))] sz) := by
  refine Met.ofW (cc := cX11_text) (maxL := 4) (ret := (some .int)) (by decide) rfl ?_
  intro p e s m args below meth c s₁ B hml hv
  obtain ⟨rfl, hsz, hP, hK, hD0⟩ := hv
  have hx := B.exec
  have hb := B.bytes
  have hr := B.returns
  have hts := atoms_spec (ws := Cond.code yX11_text cX11_text 4 (some .int) :: wsL_law) B.pre
  have htw : ∀ w ∈ wsL_law, w.before _ s = true := fun w h => hts w (List.mem_cons_of_mem _ h)
  have hown : s.vm.findClass RX11 = some m.cls := findClass_of_methodNamed B.named
  have hlocks := B.notSynchronized
  subst hsz
  have hD := hD0.self (sz := s.heap.size)
  generalize hAe : va_A [(x, .inr (11, [.ref xpa, .ref b, .ref xsp, .ref xdy, .ref xle, .ref xst, .int 0, .ref xim, .ref xil, .int 0, .ref xmo, .ref xom, .ref xwi])), (xpa, .inr (7, [.ref plx, .null, .int 0, .int (-1), .int 0, .ref phd, .ref phr, .int 0, .int 0])), (plx, .inr (3, [.ref lby, .int 0, .ref lco, .int 0, .int 0, .int 0, .int 0, .int 0, .int 0])), (xsp, .inr (0, [.ref xspto, .ref xspnm, .ref xspla, .ref xspsk, .ref xspru, .ref xspbo, .ref xspdi, .ref xspda, .ref xspdk, .ref xspdt, .ref xspdp, .ref xspno])), (xspto, .inl (cT, 5, .inl f0)), (xspsk, .inr (9, [.int 7, .int 0, .int 59, .int 2, .int 0, .int 1461, .int 4])), (xspru, .inr (8, [.ref xspruc, .int 0, .ref xsprue, .ref xspruk, .int 0])), (xsprue, .inl (cE, 4, .inl f1)), (xspno, .inr (6, [.int 0, .ref xspnos, .ref xspnof, .ref xspnoz])), (xdy, .inr (5, [.ref dro, .int 0, .ref dsh, .ref dto, .ref dmo, .ref dwi])), (xle, .inr (2, [.int 0, .ref xlen, .ref xlec]))] s.heap.size = A at hD ⊢
  have hA : ∀ q : Nat, s.heap.size ≤ q → A q := fun q h => by rw [← hAe]; exact Or.inr h
  obtain ⟨H, rH⟩ : ∃ z : Heap, z = s.heap := ⟨_, rfl⟩
  have hS : va_S A s.heap H [] := by rw [rH]; exact va_S.rf
  have hP : va_P (dC, dI) vwCl [(x, .inr (11, [.ref xpa, .ref b, .ref xsp, .ref xdy, .ref xle, .ref xst, .int 0, .ref xim, .ref xil, .int 0, .ref xmo, .ref xom, .ref xwi])), (xpa, .inr (7, [.ref plx, .null, .int 0, .int (-1), .int 0, .ref phd, .ref phr, .int 0, .int 0])), (plx, .inr (3, [.ref lby, .int 0, .ref lco, .int 0, .int 0, .int 0, .int 0, .int 0, .int 0])), (xsp, .inr (0, [.ref xspto, .ref xspnm, .ref xspla, .ref xspsk, .ref xspru, .ref xspbo, .ref xspdi, .ref xspda, .ref xspdk, .ref xspdt, .ref xspdp, .ref xspno])), (xspto, .inl (cT, 5, .inl f0)), (xspsk, .inr (9, [.int 7, .int 0, .int 59, .int 2, .int 0, .int 1461, .int 4])), (xspru, .inr (8, [.ref xspruc, .int 0, .ref xsprue, .ref xspruk, .int 0])), (xsprue, .inl (cE, 4, .inl f1)), (xspno, .inr (6, [.int 0, .ref xspnos, .ref xspnof, .ref xspnoz])), (xdy, .inr (5, [.ref dro, .int 0, .ref dsh, .ref dto, .ref dmo, .ref dwi])), (xle, .inr (2, [.int 0, .ref xlen, .ref xlec]))] H := by rw [rH]; exact hP
  rw [← rH]
  have hl := lv_entry ([.ref x, .int a0]) (n := 4) (Nat.le_of_ble_eq_true rfl)
  rw [lg_entry_eq]
  generalize (lg_sl ([.ref x, .int a0]) ++ List.replicate (4 - (lg_sl ([.ref x, .int a0])).length) Slot.unset).toArray = ls at hl ⊢
  have hl : lv_has ls 4 [(0, .ref x), (1, .int a0)] := hl
  refine lv_iload_n hx hb dX11_text_0 rfl (lv_at hl 1 rfl) ?_
  refine lv_if_lt (tgt := 18) hx hb dX11_text_1 (by decide) (fun c_1 => ?_) (fun c_1 => ?_)
  · refine lv_bipush (v := (-2)) hx hb dX11_text_18 (by decide) ?_
    refine W.widen (k := 0) (n := 0) (by omega) (by omega) ?_
    exact W.iret (v := (-2)) hx hb hr (fun t ht hW => ⟨⟨(-2), (), rfl, (xm_text1 c_1).symm, trivial⟩, hS.F ht⟩) hS.2.2 dX11_text_20
  · refine lv_iload_n hx hb dX11_text_4 rfl (lv_at hl 1 rfl) ?_
    refine lv_aload_n hx hb dX11_text_5 rfl (lv_at hl 0 rfl) ?_
    refine va_get (D := (dC, dI)) (ci := 11) (v := .ref xpa) (C := RX11) (T := TX11) (N := 13) hx hb htw inlX11 hown hK hP 0 rfl rfl 0 (by decide) (htw _ (ck_1 _ (List.mem_of_getElem? (i := 17) rfl))) (fun _ h9 => h9) rfl dX11_text_6 ?_
    refine va_get (D := (dC, dI)) (ci := 7) (v := .ref plx) (C := RX7) (T := TX7) (N := 9) hx hb htw inlX7 hown hK hP 1 rfl rfl 0 (by decide) (htw _ (ck_12 _ (List.mem_of_getElem? (i := 5) rfl))) (fun _ h9 => h9) rfl dX11_text_9 ?_
    refine va_get (D := (dC, dI)) (ci := 3) (v := .int 0) (C := RX3) (T := TX3) (N := 9) hx hb htw inlX3 hown hK hP 2 rfl rfl 1 (by decide) (htw _ (ck_12 _ (List.mem_of_getElem? (i := 6) rfl))) (fun _ h9 => h9) rfl dX11_text_12 ?_
    refine lv_icmp_le (tgt := 21) hx hb dX11_text_15 (by decide) (fun c_2 => ?_) (fun c_2 => ?_)
    · obtain rfl : a0 = 0 := xm_zero c_1 c_2
      refine lv_aload_n hx hb dX11_text_21 rfl (lv_at hl 0 rfl) ?_
      refine va_get (D := (dC, dI)) (ci := 11) (v := .ref xpa) (C := RX11) (T := TX11) (N := 13) hx hb htw inlX11 hown hK hP 0 rfl rfl 0 (by decide) (htw _ (ck_1 _ (List.mem_of_getElem? (i := 17) rfl))) (fun _ h9 => h9) rfl dX11_text_22 ?_
      refine lv_aload_n hx hb dX11_text_25 rfl (lv_at hl 0 rfl) ?_
      refine va_get (D := (dC, dI)) (ci := 11) (v := .ref xsp) (C := RX11) (T := TX11) (N := 13) hx hb htw inlX11 hown hK hP 0 rfl rfl 2 (by decide) (htw _ (ck_1 _ (List.mem_of_getElem? (i := 22) rfl))) (fun _ h9 => h9) rfl dX11_text_26 ?_
      refine lv_iload_n hx hb dX11_text_29 rfl (lv_at hl 1 rfl) ?_
      have hPc := hP.sub (ws' := [(xpa, .inr (7, [.ref plx, .null, .int 0, .int (-1), .int 0, .ref phd, .ref phr, .int 0, .int 0])), (plx, .inr (3, [.ref lby, .int 0, .ref lco, .int 0, .int 0, .int 0, .int 0, .int 0, .int 0])), (xsp, .inr (0, [.ref xspto, .ref xspnm, .ref xspla, .ref xspsk, .ref xspru, .ref xspbo, .ref xspdi, .ref xspda, .ref xspdk, .ref xspdt, .ref xspdp, .ref xspno])), (xspto, .inl (cT, 5, .inl f0)), (xspsk, .inr (9, [.int 7, .int 0, .int 59, .int 2, .int 0, .int 1461, .int 4])), (xspru, .inr (8, [.ref xspruc, .int 0, .ref xsprue, .ref xspruk, .int 0])), (xsprue, .inl (cE, 4, .inl f1)), (xspno, .inr (6, [.int 0, .ref xspnos, .ref xspnof, .ref xspnoz]))]) [1, 2, 3, 4, 5, 6, 7, 8] rfl
      have hKc := hK.sub (tys' := [(cT, .int), (cE, .int)]) [0, 1] rfl
      have hDc := hD.sub (ws' := [(xpa, .inr (7, [.ref plx, .null, .int 0, .int (-1), .int 0, .ref phd, .ref phr, .int 0, .int 0])), (plx, .inr (3, [.ref lby, .int 0, .ref lco, .int 0, .int 0, .int 0, .int 0, .int 0, .int 0])), (xsp, .inr (0, [.ref xspto, .ref xspnm, .ref xspla, .ref xspsk, .ref xspru, .ref xspbo, .ref xspdi, .ref xspda, .ref xspdk, .ref xspdt, .ref xspdp, .ref xspno])), (xspto, .inl (cT, 5, .inl f0)), (xspsk, .inr (9, [.int 7, .int 0, .int 59, .int 2, .int 0, .int 1461, .int 4])), (xspru, .inr (8, [.ref xspruc, .int 0, .ref xsprue, .ref xspruk, .int 0])), (xsprue, .inl (cE, 4, .inl f1)), (xspno, .inr (6, [.int 0, .ref xspnos, .ref xspnof, .ref xspnoz]))]) [1, 2, 3, 4, 5, 6, 7, 8] (by decide) rfl
      have hFc := va_free (wc := [(xpa, .inr (7, [.ref plx, .null, .int 0, .int (-1), .int 0, .ref phd, .ref phr, .int 0, .int 0])), (plx, .inr (3, [.ref lby, .int 0, .ref lco, .int 0, .int 0, .int 0, .int 0, .int 0, .int 0])), (xsp, .inr (0, [.ref xspto, .ref xspnm, .ref xspla, .ref xspsk, .ref xspru, .ref xspbo, .ref xspdi, .ref xspda, .ref xspdk, .ref xspdt, .ref xspdp, .ref xspno])), (xspto, .inl (cT, 5, .inl f0)), (xspsk, .inr (9, [.int 7, .int 0, .int 59, .int 2, .int 0, .int 1461, .int 4])), (xspru, .inr (8, [.ref xspruc, .int 0, .ref xsprue, .ref xspruk, .int 0])), (xsprue, .inl (cE, 4, .inl f1)), (xspno, .inr (6, [.int 0, .ref xspnos, .ref xspnof, .ref xspnoz]))]) hD hS hA [1, 2, 3, 4, 5, 6, 7, 8] rfl
      refine va_calli (vx_runVW (As := [.ref xsp, .int 0]) (rest := []) ⟨hx, hb, hml, hown, htw⟩ (mt_read l dC dI xpa xsp plx phd phr lby lco xspto xspnm xspla xspsk xspru xspbo xspdi xspda xspdk xspdt xspdp xspno xspruc xsprue xspruk xspnos xspnof xspnoz cT cE f0 f1 H.size) (vx_cwVW 2 htw (xg_V (ck_13 _ (List.mem_of_getElem? (i := 1) rfl)) (ck_13 _ (List.mem_of_getElem? (i := 2) rfl)) (ck_13 _ (List.mem_of_getElem? (i := 3) rfl)) (ck_1 _ (List.mem_of_getElem? (i := 16) rfl)) (ck_13 _ (List.mem_of_getElem? (i := 4) rfl))) rfl rfl rfl (by decide +kernel) ⟨Nat.le_of_ble_eq_true rfl, Nat.le_of_ble_eq_true rfl⟩) ⟨fun a U g mk q => by obtain ⟨q0, q1, qP, qK, qD⟩ := q; exact ⟨q0, q1, qP, va_K.moved (u := U) (U := U.calling g mk a) (Vm.Alike.refl U.vm) qK, qD⟩, va_recv hKc hPc (ci := 7) (q0 := 0) rfl rfl, fun U hU hW => ⟨rfl, by rw [hU], by rw [hU]; exact hPc, va_K.moved hW.alike hKc, hDc.weaken (fun _ _ _ _ => trivial)⟩⟩ rfl rfl hl.1 rfl (lv_room (Nat.le_of_ble_eq_true rfl)) dX11_text_30 ⟨Nat.le_of_ble_eq_true rfl, Nat.le_of_ble_eq_true rfl⟩) hS (fun q _ h => hFc q h) hFc (fun r_3 u_4 t H1 locs ht hvm hw hB hz1 hk1 hS => ?_)
      try dsimp only at hw
      have hP1 : va_P (dC, dI) vwCl [] H1 := fun k q h => by simp at h
      have hD1 : va_D (va_A [(xpa, .inr (7, [.ref plx, .null, .int 0, .int (-1), .int 0, .ref phd, .ref phr, .int 0, .int 0])), (plx, .inr (3, [.ref lby, .int 0, .ref lco, .int 0, .int 0, .int 0, .int 0, .int 0, .int 0])), (xsp, .inr (0, [.ref xspto, .ref xspnm, .ref xspla, .ref xspsk, .ref xspru, .ref xspbo, .ref xspdi, .ref xspda, .ref xspdk, .ref xspdt, .ref xspdp, .ref xspno])), (xspto, .inl (cT, 5, .inl f0)), (xspsk, .inr (9, [.int 7, .int 0, .int 59, .int 2, .int 0, .int 1461, .int 4])), (xspru, .inr (8, [.ref xspruc, .int 0, .ref xsprue, .ref xspruk, .int 0])), (xsprue, .inl (cE, 4, .inl f1)), (xspno, .inr (6, [.int 0, .ref xspnos, .ref xspnof, .ref xspnoz]))] H.size) [] := ⟨fun i j p q h => by simp at h, fun k q h => by simp at h⟩
      obtain ⟨hP, hD⟩ := va_join (wr := [(x, .inr (11, [.ref xpa, .ref b, .ref xsp, .ref xdy, .ref xle, .ref xst, .int 0, .ref xim, .ref xil, .int 0, .ref xmo, .ref xom, .ref xwi])), (xdy, .inr (5, [.ref dro, .int 0, .ref dsh, .ref dto, .ref dmo, .ref dwi])), (xle, .inr (2, [.int 0, .ref xlen, .ref xlec]))]) (w1 := []) hP hD [1, 2, 3, 4, 5, 6, 7, 8] [0, 9, 10] rfl rfl (by decide) (by decide) hk1 hFc hP1 hD1
      generalize H1 = H at hP hS ⊢
      have hP : va_P (dC, dI) vwCl [(x, .inr (11, [.ref xpa, .ref b, .ref xsp, .ref xdy, .ref xle, .ref xst, .int 0, .ref xim, .ref xil, .int 0, .ref xmo, .ref xom, .ref xwi])), (xdy, .inr (5, [.ref dro, .int 0, .ref dsh, .ref dto, .ref dmo, .ref dwi])), (xle, .inr (2, [.int 0, .ref xlen, .ref xlec]))] H := hP
      have hD : va_D A [(x, .inr (11, [.ref xpa, .ref b, .ref xsp, .ref xdy, .ref xle, .ref xst, .int 0, .ref xim, .ref xil, .int 0, .ref xmo, .ref xom, .ref xwi])), (xdy, .inr (5, [.ref dro, .int 0, .ref dsh, .ref dto, .ref dmo, .ref dwi])), (xle, .inr (2, [.int 0, .ref xlen, .ref xlec]))] := hD
      refine W.widen (k := 0) (n := 0) (by omega) (by omega) ?_
      obtain rfl : r_3 = 0 := hw
      refine lv_istore_n (lv' := [(2, .int 0), (0, .ref x), (1, .int 0)]) hx hb dX11_text_33 rfl hl (by decide) rfl (fun ls hl => ?_)
      refine lv_iload_n hx hb dX11_text_34 rfl (lv_at hl 0 rfl) ?_
      refine lv_iconst (v := (-1)) hx hb dX11_text_35 (by decide) ?_
      refine lv_icmp_ne (tgt := 41) hx hb dX11_text_36 (by decide) (fun _ => ?_) (fun c => absurd c (by decide))
      refine lv_aload_n hx hb dX11_text_41 rfl (lv_at hl 1 rfl) ?_
      refine va_get (D := (dC, dI)) (ci := 11) (v := .ref b) (C := RX11) (T := TX11) (N := 13) hx hb htw inlX11 hown hK hP 0 rfl rfl 1 (by decide) (htw _ (ck_1 _ (List.mem_of_getElem? (i := 21) rfl))) (fun _ h9 => h9) rfl dX11_text_42 ?_
      refine lv_astore_n (lv' := [(3, .ref b), (2, .int 0), (0, .ref x), (1, .int 0)]) hx hb dX11_text_45 rfl hl (by decide) rfl (fun ls hl => ?_)
      refine lv_aload_n hx hb dX11_text_46 rfl (lv_at hl 2 rfl) ?_
      refine lv_aload_n hx hb dX11_text_47 rfl (lv_at hl 2 rfl) ?_
      refine va_get (D := (dC, dI)) (ci := 11) (v := .ref xsp) (C := RX11) (T := TX11) (N := 13) hx hb htw inlX11 hown hK hP 0 rfl rfl 2 (by decide) (htw _ (ck_1 _ (List.mem_of_getElem? (i := 22) rfl))) (fun _ h9 => h9) rfl dX11_text_48 ?_
      refine va_put (D := (dC, dI)) (ci := 11) (v := .ref xsp) (ty := tyX11 1) (C := RX11) (T := TX11) (N := 13) hx hb htw inlX11 tyX11 tyX11_ok nmX11 hown hK hP hD hS 0 rfl rfl 1 (by decide) (htw _ (ck_1 _ (List.mem_of_getElem? (i := 21) rfl))) (fun _ h9 => h9) rfl (by decide +kernel) rfl rfl (Nat.le_of_ble_eq_true rfl) dX11_text_51 (fun H locs hP hD hS => ?_)
      have hP : va_P (dC, dI) vwCl [(x, .inr (11, [.ref xpa, .ref xsp, .ref xsp, .ref xdy, .ref xle, .ref xst, .int 0, .ref xim, .ref xil, .int 0, .ref xmo, .ref xom, .ref xwi])), (xdy, .inr (5, [.ref dro, .int 0, .ref dsh, .ref dto, .ref dmo, .ref dwi])), (xle, .inr (2, [.int 0, .ref xlen, .ref xlec]))] H := hP
      have hD : va_D A [(x, .inr (11, [.ref xpa, .ref xsp, .ref xsp, .ref xdy, .ref xle, .ref xst, .int 0, .ref xim, .ref xil, .int 0, .ref xmo, .ref xom, .ref xwi])), (xdy, .inr (5, [.ref dro, .int 0, .ref dsh, .ref dto, .ref dmo, .ref dwi])), (xle, .inr (2, [.int 0, .ref xlen, .ref xlec]))] := hD
      refine lv_aload_n hx hb dX11_text_54 rfl (lv_at hl 2 rfl) ?_
      refine lv_aload_n hx hb dX11_text_55 rfl (lv_at hl 0 rfl) ?_
      refine va_put (D := (dC, dI)) (ci := 11) (v := .ref b) (ty := tyX11 2) (C := RX11) (T := TX11) (N := 13) hx hb htw inlX11 tyX11 tyX11_ok nmX11 hown hK hP hD hS 0 rfl rfl 2 (by decide) (htw _ (ck_1 _ (List.mem_of_getElem? (i := 22) rfl))) (fun _ h9 => h9) rfl (by decide +kernel) rfl rfl (Nat.le_of_ble_eq_true rfl) dX11_text_56 (fun H locs hP hD hS => ?_)
      have hP : va_P (dC, dI) vwCl [(x, .inr (11, [.ref xpa, .ref xsp, .ref b, .ref xdy, .ref xle, .ref xst, .int 0, .ref xim, .ref xil, .int 0, .ref xmo, .ref xom, .ref xwi])), (xdy, .inr (5, [.ref dro, .int 0, .ref dsh, .ref dto, .ref dmo, .ref dwi])), (xle, .inr (2, [.int 0, .ref xlen, .ref xlec]))] H := hP
      have hD : va_D A [(x, .inr (11, [.ref xpa, .ref xsp, .ref b, .ref xdy, .ref xle, .ref xst, .int 0, .ref xim, .ref xil, .int 0, .ref xmo, .ref xom, .ref xwi])), (xdy, .inr (5, [.ref dro, .int 0, .ref dsh, .ref dto, .ref dmo, .ref dwi])), (xle, .inr (2, [.int 0, .ref xlen, .ref xlec]))] := hD
      refine lv_aload_n hx hb dX11_text_59 rfl (lv_at hl 2 rfl) ?_
      refine va_get (D := (dC, dI)) (ci := 11) (v := .ref xdy) (C := RX11) (T := TX11) (N := 13) hx hb htw inlX11 hown hK hP 0 rfl rfl 3 (by decide) (htw _ (ck_2 _ (List.mem_of_getElem? (i := 2) rfl))) (fun _ h9 => h9) rfl dX11_text_60 ?_
      refine lv_iconst (v := 0) hx hb dX11_text_63 (by decide) ?_
      have hPc := hP.sub (ws' := [(xdy, .inr (5, [.ref dro, .int 0, .ref dsh, .ref dto, .ref dmo, .ref dwi]))]) [1] rfl
      have hKc := hK.sub (tys' := []) [] rfl
      have hDc := hD.sub (ws' := [(xdy, .inr (5, [.ref dro, .int 0, .ref dsh, .ref dto, .ref dmo, .ref dwi]))]) [1] (by decide) rfl
      have hFc := va_free (wc := [(xdy, .inr (5, [.ref dro, .int 0, .ref dsh, .ref dto, .ref dmo, .ref dwi]))]) hD hS hA [1] rfl
      refine va_callv (va_runV (As := [.int 0]) (rest := []) ⟨hx, hb, hml, hown, htw⟩ (mt_stale l dC dI xdy dro dsh dto dmo dwi H.size) (cwV 1 htw (xg_V (ck_24 _ (List.mem_of_getElem? (i := 0) rfl)) (ck_24 _ (List.mem_of_getElem? (i := 1) rfl)) (ck_24 _ (List.mem_of_getElem? (i := 2) rfl)) (ck_2 _ (List.mem_of_getElem? (i := 1) rfl)) (ck_24 _ (List.mem_of_getElem? (i := 3) rfl))) rfl rfl rfl (by decide +kernel) ⟨Nat.le_of_ble_eq_true rfl, Nat.le_of_ble_eq_true rfl⟩) ⟨fun a U g mk q => by obtain ⟨q0, q1, qP, qK, qD⟩ := q; exact ⟨q0, q1, qP, va_K.moved (u := U) (U := U.calling g mk a) (Vm.Alike.refl U.vm) qK, qD⟩, va_recv hKc hPc (ci := 5) (q0 := 0) rfl rfl, fun U hU hW => ⟨rfl, by rw [hU], by rw [hU]; exact hPc, va_K.moved hW.alike hKc, hDc.weaken (fun _ _ _ _ => trivial)⟩⟩ rfl rfl hl.1 rfl (lv_room (Nat.le_of_ble_eq_true rfl)) dX11_text_64 ⟨Nat.le_of_ble_eq_true rfl, Nat.le_of_ble_eq_true rfl⟩) hS (fun q _ h => hFc q h) hFc (fun u_6 t H1 locs ht hvm hw hB hz1 hk1 hS => ?_)
      try dsimp only at hw
      obtain ⟨hP1, hK1, hD1⟩ := hB
      rw [ht] at hP1
      have hK1 := va_K.moved hvm.symm hK1
      have hP1 : va_P (dC, dI) vwCl [(xdy, .inr (5, [.ref dro, .int 0, .ref dsh, .ref dto, .ref dmo, .ref dwi]))] H1 := hP1
      have hD1 : va_D (va_A [(xdy, .inr (5, [.ref dro, .int 0, .ref dsh, .ref dto, .ref dmo, .ref dwi]))] H.size) [(xdy, .inr (5, [.ref dro, .int 0, .ref dsh, .ref dto, .ref dmo, .ref dwi]))] := hD1
      have hK1 : va_K (dC, dI) vwCl [] s := hK1
      obtain ⟨hP, hD⟩ := va_join (wr := [(x, .inr (11, [.ref xpa, .ref xsp, .ref b, .ref xdy, .ref xle, .ref xst, .int 0, .ref xim, .ref xil, .int 0, .ref xmo, .ref xom, .ref xwi])), (xle, .inr (2, [.int 0, .ref xlen, .ref xlec]))]) (w1 := [(xdy, .inr (5, [.ref dro, .int 0, .ref dsh, .ref dto, .ref dmo, .ref dwi]))]) hP hD [1] [0, 2] rfl rfl (by decide) (by decide) hk1 hFc hP1 hD1
      generalize H1 = H at hP hS ⊢
      have hP : va_P (dC, dI) vwCl [(x, .inr (11, [.ref xpa, .ref xsp, .ref b, .ref xdy, .ref xle, .ref xst, .int 0, .ref xim, .ref xil, .int 0, .ref xmo, .ref xom, .ref xwi])), (xle, .inr (2, [.int 0, .ref xlen, .ref xlec])), (xdy, .inr (5, [.ref dro, .int 0, .ref dsh, .ref dto, .ref dmo, .ref dwi]))] H := hP
      have hD : va_D A [(x, .inr (11, [.ref xpa, .ref xsp, .ref b, .ref xdy, .ref xle, .ref xst, .int 0, .ref xim, .ref xil, .int 0, .ref xmo, .ref xom, .ref xwi])), (xle, .inr (2, [.int 0, .ref xlen, .ref xlec])), (xdy, .inr (5, [.ref dro, .int 0, .ref dsh, .ref dto, .ref dmo, .ref dwi]))] := hD
      refine W.widen (k := 0) (n := 0) (by omega) (by omega) ?_
      refine lv_aload_n hx hb dX11_text_67 rfl (lv_at hl 2 rfl) ?_
      refine lv_iconst (v := 0) hx hb dX11_text_68 (by decide) ?_
      refine va_put (D := (dC, dI)) (ci := 11) (v := .int 0) (ty := tyX11 6) (C := RX11) (T := TX11) (N := 13) hx hb htw inlX11 tyX11 tyX11_ok nmX11 hown hK hP hD hS 0 rfl rfl 6 (by decide) (htw _ (ck_12 _ (List.mem_of_getElem? (i := 22) rfl))) (fun _ h9 => h9) rfl (by decide +kernel) rfl rfl (Nat.le_of_ble_eq_true rfl) dX11_text_69 (fun H locs hP hD hS => ?_)
      have hP : va_P (dC, dI) vwCl [(x, .inr (11, [.ref xpa, .ref xsp, .ref b, .ref xdy, .ref xle, .ref xst, .int 0, .ref xim, .ref xil, .int 0, .ref xmo, .ref xom, .ref xwi])), (xle, .inr (2, [.int 0, .ref xlen, .ref xlec])), (xdy, .inr (5, [.ref dro, .int 0, .ref dsh, .ref dto, .ref dmo, .ref dwi]))] H := hP
      have hD : va_D A [(x, .inr (11, [.ref xpa, .ref xsp, .ref b, .ref xdy, .ref xle, .ref xst, .int 0, .ref xim, .ref xil, .int 0, .ref xmo, .ref xom, .ref xwi])), (xle, .inr (2, [.int 0, .ref xlen, .ref xlec])), (xdy, .inr (5, [.ref dro, .int 0, .ref dsh, .ref dto, .ref dmo, .ref dwi]))] := hD
      refine lv_aload_n hx hb dX11_text_72 rfl (lv_at hl 2 rfl) ?_
      refine va_get (D := (dC, dI)) (ci := 11) (v := .ref xle) (C := RX11) (T := TX11) (N := 13) hx hb htw inlX11 hown hK hP 0 rfl rfl 4 (by decide) (htw _ (ck_2 _ (List.mem_of_getElem? (i := 6) rfl))) (fun _ h9 => h9) rfl dX11_text_73 ?_
      refine lv_iconst (v := 0) hx hb dX11_text_76 (by decide) ?_
      refine va_put (D := (dC, dI)) (ci := 2) (v := .int 0) (ty := tyX2 0) (C := RX2) (T := TX2) (N := 3) hx hb htw inlX2 tyX2 tyX2_ok nmX2 hown hK hP hD hS 1 rfl rfl 0 (by decide) (htw _ (ck_12 _ (List.mem_of_getElem? (i := 23) rfl))) (fun _ h9 => h9) rfl (by decide +kernel) rfl rfl (Nat.le_of_ble_eq_true rfl) dX11_text_77 (fun H locs hP hD hS => ?_)
      have hP : va_P (dC, dI) vwCl [(x, .inr (11, [.ref xpa, .ref xsp, .ref b, .ref xdy, .ref xle, .ref xst, .int 0, .ref xim, .ref xil, .int 0, .ref xmo, .ref xom, .ref xwi])), (xle, .inr (2, [.int 0, .ref xlen, .ref xlec])), (xdy, .inr (5, [.ref dro, .int 0, .ref dsh, .ref dto, .ref dmo, .ref dwi]))] H := hP
      have hD : va_D A [(x, .inr (11, [.ref xpa, .ref xsp, .ref b, .ref xdy, .ref xle, .ref xst, .int 0, .ref xim, .ref xil, .int 0, .ref xmo, .ref xom, .ref xwi])), (xle, .inr (2, [.int 0, .ref xlen, .ref xlec])), (xdy, .inr (5, [.ref dro, .int 0, .ref dsh, .ref dto, .ref dmo, .ref dwi]))] := hD
      refine lv_aload_n hx hb dX11_text_80 rfl (lv_at hl 2 rfl) ?_
      refine lv_iconst (v := 0) hx hb dX11_text_81 (by decide) ?_
      refine va_put (D := (dC, dI)) (ci := 11) (v := .int 0) (ty := tyX11 9) (C := RX11) (T := TX11) (N := 13) hx hb htw inlX11 tyX11 tyX11_ok nmX11 hown hK hP hD hS 0 rfl rfl 9 (by decide) (htw _ (ck_13 _ (List.mem_of_getElem? (i := 0) rfl))) (fun _ h9 => h9) rfl (by decide +kernel) rfl rfl (Nat.le_of_ble_eq_true rfl) dX11_text_82 (fun H locs hP hD hS => ?_)
      have hP : va_P (dC, dI) vwCl [(x, .inr (11, [.ref xpa, .ref xsp, .ref b, .ref xdy, .ref xle, .ref xst, .int 0, .ref xim, .ref xil, .int 0, .ref xmo, .ref xom, .ref xwi])), (xle, .inr (2, [.int 0, .ref xlen, .ref xlec])), (xdy, .inr (5, [.ref dro, .int 0, .ref dsh, .ref dto, .ref dmo, .ref dwi]))] H := hP
      have hD : va_D A [(x, .inr (11, [.ref xpa, .ref xsp, .ref b, .ref xdy, .ref xle, .ref xst, .int 0, .ref xim, .ref xil, .int 0, .ref xmo, .ref xom, .ref xwi])), (xle, .inr (2, [.int 0, .ref xlen, .ref xlec])), (xdy, .inr (5, [.ref dro, .int 0, .ref dsh, .ref dto, .ref dmo, .ref dwi]))] := hD
      refine lv_iload_n hx hb dX11_text_85 rfl (lv_at hl 1 rfl) ?_
      refine W.widen (k := 0) (n := 0) (by omega) (by omega) ?_
      exact W.iret (v := 0) hx hb hr (fun t ht hW => ⟨⟨0, (), rfl, rfl, trivial⟩, hS.F ht⟩) hS.2.2 dX11_text_86
    · refine lv_bipush (v := (-2)) hx hb dX11_text_18 (by decide) ?_
      refine W.widen (k := 0) (n := 0) (by omega) (by omega) ?_
      exact W.iret (v := (-2)) hx hb hr (fun t ht hW => ⟨⟨(-2), (), rfl, (xm_text2 c_2).symm, trivial⟩, hS.F ht⟩) hS.2.2 dX11_text_20
