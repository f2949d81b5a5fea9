theorem dX12_copies_0 : decode cX12_copies 0 = .ok (.iconst 0, 1) := by decide +kernel
theorem dX12_copies_1 : decode cX12_copies 1 = .ok (.istore_n 2, 1) := by decide +kernel
theorem dX12_copies_2 : decode cX12_copies 2 = .ok (.iload_n 2, 1) := by decide +kernel
theorem dX12_copies_3 : decode cX12_copies 3 = .ok (.iload_n 1, 1) := by decide +kernel
theorem dX12_copies_4 : decode cX12_copies 4 = .ok (.if_icmp .ge 17, 3) := by decide +kernel
theorem dX12_copies_21 : decode cX12_copies 21 = .ok (.return_, 1) := by decide +kernel
theorem dX12_copies_7 : decode cX12_copies 7 = .ok (.aload_n 0, 1) := by decide +kernel
theorem dX12_copies_8 : decode cX12_copies 8 = .ok (.iload_n 2, 1) := by decide +kernel
theorem dX12_copies_9 : decode cX12_copies 9 = .ok (.aload_n 0, 1) := by decide +kernel
theorem dX12_copies_10 : decode cX12_copies 10 = .ok (.iload_n 1, 1) := by decide +kernel
theorem dX12_copies_11 : decode cX12_copies 11 = .ok (.iload_n 2, 1) := by decide +kernel
theorem dX12_copies_12 : decode cX12_copies 12 = .ok (.iadd, 1) := by decide +kernel
theorem dX12_copies_13 : decode cX12_copies 13 = .ok (.iaload, 1) := by decide +kernel
theorem dX12_copies_14 : decode cX12_copies 14 = .ok (.iastore, 1) := by decide +kernel
theorem dX12_copies_15 : decode cX12_copies 15 = .ok (.iinc 2 1, 3) := by decide +kernel
theorem dX12_copies_18 : decode cX12_copies 18 = .ok (.goto (-16), 3) := by decide +kernel
set_option maxHeartbeats 4000000 in
set_option maxRecDepth 100000 in
theorem mm_copies (l : Launch) (dC : Nat → ClassId) (dI : Nat → Nat → Nat) (ro : Nat) (N : Nat) (L : Nat) (cR : ClassId) (f0 : Nat → Int32) (sz : Nat) (hL : N + N ≤ L) (hLs : L < 2 ^ 31) : Met l yX12_copies (Cond.code yX12_copies cX12_copies 3 none :: wsL_law) ({ frames := 0, cells := 0, slots := 0, locals := 0 }) (va_Pc [.ref ro, .int (nI N)] (fun U => U.heap.size = sz ∧ va_P (dC, dI) vwCl [(ro, .inl (cR, L, .inl f0))] U.heap ∧ va_K (dC, dI) vwCl [(cR, .int)] U ∧ va_D (fun _ => True) [(ro, .inl (cR, L, .inl f0))])) (va_Qv (fun (u : (Nat → Int32)) => ∀ j, u j = if j < N then f0 (N + j) else f0 j) (fun (u : (Nat → Int32)) t => va_P (dC, dI) vwCl [(ro, .inl (cR, L, .inl u))] t.heap ∧ va_K (dC, dI) vwCl [] t ∧ va_D (va_A [(ro, .inl (cR, L, .inl f0))] sz) [(ro, .inl (cR, L, .inl u))]) (va_A [(ro, .inl (cR, L, .inl f0))] sz)) 0 0 (va_A [(ro, .inl (cR, L, .inl f0))] sz) := by
  refine Met.ofW (cc := cX12_copies) (maxL := 3) (ret := none) (by decide) rfl ?_
  intro p e s m args below meth c s₁ B hml hv
  obtain ⟨rfl, hsz, hP, hK, hD0⟩ := hv
  have hx := B.exec
  have hb := B.bytes
  have hr := B.returns
  have hts := atoms_spec (ws := Cond.code yX12_copies cX12_copies 3 none :: wsL_law) B.pre
  have htw : ∀ w ∈ wsL_law, w.before _ s = true := fun w h => hts w (List.mem_cons_of_mem _ h)
  have hown : s.vm.findClass RX12 = some m.cls := findClass_of_methodNamed B.named
  have hlocks := B.notSynchronized
  subst hsz
  have hD := hD0.self (sz := s.heap.size)
  generalize hAe : va_A [(ro, .inl (cR, L, .inl f0))] s.heap.size = A at hD ⊢
  have hA : ∀ q : Nat, s.heap.size ≤ q → A q := fun q h => by rw [← hAe]; exact Or.inr h
  obtain ⟨H, rH⟩ : ∃ z : Heap, z = s.heap := ⟨_, rfl⟩
  have hS : va_S A s.heap H [] := by rw [rH]; exact va_S.rf
  have hP : va_P (dC, dI) vwCl [(ro, .inl (cR, L, .inl f0))] H := by rw [rH]; exact hP
  rw [← rH]
  have hl := lv_entry ([.ref ro, .int (nI N)]) (n := 3) (Nat.le_of_ble_eq_true rfl)
  rw [lg_entry_eq]
  generalize (lg_sl ([.ref ro, .int (nI N)]) ++ List.replicate (3 - (lg_sl ([.ref ro, .int (nI N)])).length) Slot.unset).toArray = ls at hl ⊢
  have hl : lv_has ls 3 [(0, .ref ro), (1, .int (nI N))] := hl
  refine lv_iconst (v := 0) hx hb dX12_copies_0 (by decide) ?_
  refine lv_istore_n (lv' := [(2, .int 0), (0, .ref ro), (1, .int (nI N))]) hx hb dX12_copies_1 rfl hl (by decide) rfl (fun ls hl => ?_)
  have hloop_1 : ∀ (n : Nat) (k : Nat) (g : Nat → Int32) (hk : k + n = N) (hg : ∀ j, g j = if j < k then f0 (N + j) else f0 j) (H : Heap) (locs : List Loc) (ls : Array Slot) (hP : va_P (dC, dI) vwCl [(ro, .inl (cR, L, .inl g))] H) (hD : va_D A [(ro, .inl (cR, L, .inl g))]) (hS : va_S A s.heap H locs) (hl : lv_has ls 3 [(2, .int (nI k)), (0, .ref ro), (1, .int (nI N))]), W p l e (headSpec (Cond.code yX12_copies cX12_copies 3 none :: wsL_law) ({ frames := 0, cells := 0, slots := 0, locals := 0 })).room s m ([.ref ro, .int (nI N)] : List Value).toArray below meth c H locs 0 0 (MQ below (va_Qv (fun (u : (Nat → Int32)) => ∀ j, u j = if j < N then f0 (N + j) else f0 j) (fun (u : (Nat → Int32)) t => va_P (dC, dI) vwCl [(ro, .inl (cR, L, .inl u))] t.heap ∧ va_K (dC, dI) vwCl [] t ∧ va_D A [(ro, .inl (cR, L, .inl u))]) A) ([.ref ro, .int (nI N)] : List Value).toArray s 0 0 A) (F0 m 2 ls []) := by
    intro n
    induction n with
    | zero =>
      intro k g hk hg H locs ls hP hD hS hl
      obtain rfl : k = N := by omega
      refine lv_iload_n hx hb dX12_copies_2 rfl (lv_at hl 0 rfl) ?_
      refine lv_iload_n hx hb dX12_copies_3 rfl (lv_at hl 2 rfl) ?_
      refine lv_icmp_ge (tgt := 21) hx hb dX12_copies_4 (by decide) (fun c_2 => ?_) (fun c_2 => absurd c_2 (fun h => h (Int32.le_refl _)))
      refine W.widen (k := 0) (n := 0) (by omega) (by omega) ?_
      have hP9 := hP.sub (ws' := [(ro, .inl (cR, L, .inl g))]) [0] rfl
      have hD9 := hD.sub (ws' := [(ro, .inl (cR, L, .inl g))]) [0] (by decide) rfl
      have hK9 := hK.sub (tys' := []) [] rfl
      exact W.vret hx hb hr (fun t ht hW => ⟨⟨g, rfl, hg, by rw [ht]; exact hP9, va_K.moved hW.alike hK9, hD9⟩, hS.F ht⟩) hS.2.2 dX12_copies_21
    | succ n ih =>
      intro k g hk hg H locs ls hP hD hS hl
      refine lv_iload_n hx hb dX12_copies_2 rfl (lv_at hl 0 rfl) ?_
      refine lv_iload_n hx hb dX12_copies_3 rfl (lv_at hl 2 rfl) ?_
      refine lv_icmp_ge (tgt := 21) hx hb dX12_copies_4 (by decide) (fun c_3 => absurd c_3 (nI_ge (a := k) (b := N) (by omega) (by omega))) (fun c_3 => ?_)
      refine lv_aload_n hx hb dX12_copies_7 rfl (lv_at hl 1 rfl) ?_
      refine lv_iload_n hx hb dX12_copies_8 rfl (lv_at hl 0 rfl) ?_
      refine lv_aload_n hx hb dX12_copies_9 rfl (lv_at hl 1 rfl) ?_
      refine lv_iload_n hx hb dX12_copies_10 rfl (lv_at hl 2 rfl) ?_
      refine lv_iload_n hx hb dX12_copies_11 rfl (lv_at hl 0 rfl) ?_
      refine lv_iadd hx hb dX12_copies_12 ?_
      refine va_iald hx hb hK hP 0 0 rfl rfl (by rw [nI_add]; exact vp_in_nI (by omega) hLs) dX12_copies_13 ?_
      refine lv_topi (fun z_4 ez_4 => ?_)
      refine va_iast hx hb hK hP hD hS 0 0 rfl rfl (vp_in_nI (by omega) hLs) dX12_copies_14 (fun H locs hP hD hS => ?_)
      obtain ⟨f_5, ef_5⟩ : ∃ g9 : Nat → Int32, g9 = upd g ((nI k).toNatClampNeg) z_4 := ⟨_, rfl⟩
      rw [← ef_5] at hP hD
      have hP : va_P (dC, dI) vwCl [(ro, .inl (cR, L, .inl f_5))] H := hP
      have hD : va_D A [(ro, .inl (cR, L, .inl f_5))] := hD
      refine lv_iinc (v := ((nI k) + 1)) (lv' := [(2, .int ((nI k) + 1)), (0, .ref ro), (1, .int (nI N))]) hx hb dX12_copies_15 hl (k := 0) rfl (rfl) (by decide) rfl (fun ls hl => ?_)
      refine lv_goto (tgt := 2) hx hb dX12_copies_18 (by decide) ?_
      have hl : lv_has ls 3 [(2, .int (nI (k + 1))), (0, .ref ro), (1, .int (nI N))] := by rw [← nI_1]; exact lv_sub hl [0, 1, 2] rfl
      exact ih (k + 1) f_5 (by omega) (xm_cp (by omega) (by omega) hg ez_4 ef_5) H locs ls hP hD hS hl
  exact hloop_1 N 0 f0 (by omega) (fun j => (if_neg (Nat.not_lt_zero j)).symm) _ _ ls hP hD hS (lv_sub hl [0, 1, 2] rfl)

theorem dX12_copiesLong_0 : decode cX12_copiesLong 0 = .ok (.iconst 0, 1) := by decide +kernel
theorem dX12_copiesLong_1 : decode cX12_copiesLong 1 = .ok (.istore_n 2, 1) := by decide +kernel
theorem dX12_copiesLong_2 : decode cX12_copiesLong 2 = .ok (.iload_n 2, 1) := by decide +kernel
theorem dX12_copiesLong_3 : decode cX12_copiesLong 3 = .ok (.iload_n 1, 1) := by decide +kernel
theorem dX12_copiesLong_4 : decode cX12_copiesLong 4 = .ok (.if_icmp .ge 17, 3) := by decide +kernel
theorem dX12_copiesLong_21 : decode cX12_copiesLong 21 = .ok (.return_, 1) := by decide +kernel
theorem dX12_copiesLong_7 : decode cX12_copiesLong 7 = .ok (.aload_n 0, 1) := by decide +kernel
theorem dX12_copiesLong_8 : decode cX12_copiesLong 8 = .ok (.iload_n 2, 1) := by decide +kernel
theorem dX12_copiesLong_9 : decode cX12_copiesLong 9 = .ok (.aload_n 0, 1) := by decide +kernel
theorem dX12_copiesLong_10 : decode cX12_copiesLong 10 = .ok (.iload_n 1, 1) := by decide +kernel
theorem dX12_copiesLong_11 : decode cX12_copiesLong 11 = .ok (.iload_n 2, 1) := by decide +kernel
theorem dX12_copiesLong_12 : decode cX12_copiesLong 12 = .ok (.iadd, 1) := by decide +kernel
theorem dX12_copiesLong_13 : decode cX12_copiesLong 13 = .ok (.laload, 1) := by decide +kernel
theorem dX12_copiesLong_14 : decode cX12_copiesLong 14 = .ok (.lastore, 1) := by decide +kernel
theorem dX12_copiesLong_15 : decode cX12_copiesLong 15 = .ok (.iinc 2 1, 3) := by decide +kernel
theorem dX12_copiesLong_18 : decode cX12_copiesLong 18 = .ok (.goto (-16), 3) := by decide +kernel
set_option maxHeartbeats 4000000 in
set_option maxRecDepth 100000 in
theorem mm_copiesL (l : Launch) (dC : Nat → ClassId) (dI : Nat → Nat → Nat) (ro : Nat) (N : Nat) (L : Nat) (cR : ClassId) (f0 : Nat → Int64) (sz : Nat) (hL : N + N ≤ L) (hLs : L < 2 ^ 31) : Met l yX12_copiesLong (Cond.code yX12_copiesLong cX12_copiesLong 3 none :: wsL_law) ({ frames := 0, cells := 0, slots := 0, locals := 0 }) (va_Pc [.ref ro, .int (nI N)] (fun U => U.heap.size = sz ∧ va_P (dC, dI) vwCl [(ro, .inl (cR, L, .inr (.inl f0)))] U.heap ∧ va_K (dC, dI) vwCl [(cR, .long)] U ∧ va_D (fun _ => True) [(ro, .inl (cR, L, .inr (.inl f0)))])) (va_Qv (fun (u : (Nat → Int64)) => True) (fun (u : (Nat → Int64)) t => va_P (dC, dI) vwCl [(ro, .inl (cR, L, .inr (.inl u)))] t.heap ∧ va_K (dC, dI) vwCl [] t ∧ va_D (va_A [(ro, .inl (cR, L, .inr (.inl f0)))] sz) [(ro, .inl (cR, L, .inr (.inl u)))]) (va_A [(ro, .inl (cR, L, .inr (.inl f0)))] sz)) 0 0 (va_A [(ro, .inl (cR, L, .inr (.inl f0)))] sz) := by
  refine Met.ofW (cc := cX12_copiesLong) (maxL := 3) (ret := none) (by decide) rfl ?_
  intro p e s m args below meth c s₁ B hml hv
  obtain ⟨rfl, hsz, hP, hK, hD0⟩ := hv
  have hx := B.exec
  have hb := B.bytes
  have hr := B.returns
  have hts := atoms_spec (ws := Cond.code yX12_copiesLong cX12_copiesLong 3 none :: wsL_law) B.pre
  have htw : ∀ w ∈ wsL_law, w.before _ s = true := fun w h => hts w (List.mem_cons_of_mem _ h)
  have hown : s.vm.findClass RX12 = some m.cls := findClass_of_methodNamed B.named
  have hlocks := B.notSynchronized
  subst hsz
  have hD := hD0.self (sz := s.heap.size)
  generalize hAe : va_A [(ro, .inl (cR, L, .inr (.inl f0)))] s.heap.size = A at hD ⊢
  have hA : ∀ q : Nat, s.heap.size ≤ q → A q := fun q h => by rw [← hAe]; exact Or.inr h
  obtain ⟨H, rH⟩ : ∃ z : Heap, z = s.heap := ⟨_, rfl⟩
  have hS : va_S A s.heap H [] := by rw [rH]; exact va_S.rf
  have hP : va_P (dC, dI) vwCl [(ro, .inl (cR, L, .inr (.inl f0)))] H := by rw [rH]; exact hP
  rw [← rH]
  have hl := lv_entry ([.ref ro, .int (nI N)]) (n := 3) (Nat.le_of_ble_eq_true rfl)
  rw [lg_entry_eq]
  generalize (lg_sl ([.ref ro, .int (nI N)]) ++ List.replicate (3 - (lg_sl ([.ref ro, .int (nI N)])).length) Slot.unset).toArray = ls at hl ⊢
  have hl : lv_has ls 3 [(0, .ref ro), (1, .int (nI N))] := hl
  refine lv_iconst (v := 0) hx hb dX12_copiesLong_0 (by decide) ?_
  refine lv_istore_n (lv' := [(2, .int 0), (0, .ref ro), (1, .int (nI N))]) hx hb dX12_copiesLong_1 rfl hl (by decide) rfl (fun ls hl => ?_)
  have hloop_1 : ∀ (n : Nat) (k : Nat) (g : Nat → Int64) (hk : k + n = N) (H : Heap) (locs : List Loc) (ls : Array Slot) (hP : va_P (dC, dI) vwCl [(ro, .inl (cR, L, .inr (.inl g)))] H) (hD : va_D A [(ro, .inl (cR, L, .inr (.inl g)))]) (hS : va_S A s.heap H locs) (hl : lv_has ls 3 [(2, .int (nI k)), (0, .ref ro), (1, .int (nI N))]), W p l e (headSpec (Cond.code yX12_copiesLong cX12_copiesLong 3 none :: wsL_law) ({ frames := 0, cells := 0, slots := 0, locals := 0 })).room s m ([.ref ro, .int (nI N)] : List Value).toArray below meth c H locs 0 0 (MQ below (va_Qv (fun (u : (Nat → Int64)) => True) (fun (u : (Nat → Int64)) t => va_P (dC, dI) vwCl [(ro, .inl (cR, L, .inr (.inl u)))] t.heap ∧ va_K (dC, dI) vwCl [] t ∧ va_D A [(ro, .inl (cR, L, .inr (.inl u)))]) A) ([.ref ro, .int (nI N)] : List Value).toArray s 0 0 A) (F0 m 2 ls []) := by
    intro n
    induction n with
    | zero =>
      intro k g hk H locs ls hP hD hS hl
      obtain rfl : k = N := by omega
      refine lv_iload_n hx hb dX12_copiesLong_2 rfl (lv_at hl 0 rfl) ?_
      refine lv_iload_n hx hb dX12_copiesLong_3 rfl (lv_at hl 2 rfl) ?_
      refine lv_icmp_ge (tgt := 21) hx hb dX12_copiesLong_4 (by decide) (fun c_2 => ?_) (fun c_2 => absurd c_2 (fun h => h (Int32.le_refl _)))
      refine W.widen (k := 0) (n := 0) (by omega) (by omega) ?_
      have hP9 := hP.sub (ws' := [(ro, .inl (cR, L, .inr (.inl g)))]) [0] rfl
      have hD9 := hD.sub (ws' := [(ro, .inl (cR, L, .inr (.inl g)))]) [0] (by decide) rfl
      have hK9 := hK.sub (tys' := []) [] rfl
      exact W.vret hx hb hr (fun t ht hW => ⟨⟨g, rfl, trivial, by rw [ht]; exact hP9, va_K.moved hW.alike hK9, hD9⟩, hS.F ht⟩) hS.2.2 dX12_copiesLong_21
    | succ n ih =>
      intro k g hk H locs ls hP hD hS hl
      refine lv_iload_n hx hb dX12_copiesLong_2 rfl (lv_at hl 0 rfl) ?_
      refine lv_iload_n hx hb dX12_copiesLong_3 rfl (lv_at hl 2 rfl) ?_
      refine lv_icmp_ge (tgt := 21) hx hb dX12_copiesLong_4 (by decide) (fun c_3 => absurd c_3 (nI_ge (a := k) (b := N) (by omega) (by omega))) (fun c_3 => ?_)
      refine lv_aload_n hx hb dX12_copiesLong_7 rfl (lv_at hl 1 rfl) ?_
      refine lv_iload_n hx hb dX12_copiesLong_8 rfl (lv_at hl 0 rfl) ?_
      refine lv_aload_n hx hb dX12_copiesLong_9 rfl (lv_at hl 1 rfl) ?_
      refine lv_iload_n hx hb dX12_copiesLong_10 rfl (lv_at hl 2 rfl) ?_
      refine lv_iload_n hx hb dX12_copiesLong_11 rfl (lv_at hl 0 rfl) ?_
      refine lv_iadd hx hb dX12_copiesLong_12 ?_
      refine va_lald hx hb hK hP 0 0 rfl rfl (by rw [nI_add]; exact vp_in_nI (by omega) hLs) dX12_copiesLong_13 ?_
      refine lv_topl (fun z_4 ez_4 => ?_)
      refine xg_last hx hb hK hP hD hS 0 0 rfl rfl (vp_in_nI (by omega) hLs) dX12_copiesLong_14 (fun f_5 H locs hP hD hS => ?_)
      have hP : va_P (dC, dI) vwCl [(ro, .inl (cR, L, .inr (.inl f_5)))] H := hP
      have hD : va_D A [(ro, .inl (cR, L, .inr (.inl f_5)))] := hD
      refine lv_iinc (v := ((nI k) + 1)) (lv' := [(2, .int ((nI k) + 1)), (0, .ref ro), (1, .int (nI N))]) hx hb dX12_copiesLong_15 hl (k := 0) rfl (rfl) (by decide) rfl (fun ls hl => ?_)
      refine lv_goto (tgt := 2) hx hb dX12_copiesLong_18 (by decide) ?_
      have hl : lv_has ls 3 [(2, .int (nI (k + 1))), (0, .ref ro), (1, .int (nI N))] := by rw [← nI_1]; exact lv_sub hl [0, 1, 2] rfl
      exact ih (k + 1) f_5 (by omega) H locs ls hP hD hS hl
  exact hloop_1 N 0 f0 (by omega) _ _ ls hP hD hS (lv_sub hl [0, 1, 2] rfl)
