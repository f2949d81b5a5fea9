def fj_fill5_d (a1 : Int32) : Nat → (Int32) → (Nat → Int32) → (Nat → Int32)
  | 0, L2d, f0_d => f0_d
  | n + 1, L2d, f0_d => (if 5 ≤ L2d then f0_d else fj_fill5_d a1 n (L2d + 1) (upd f0_d L2d.toNatClampNeg a1))
def fj_fill5 (f0 : Nat → Int32) (a1 : Int32) : (Nat → Int32) := fj_fill5_d a1 5 (0 : Int32) f0
theorem gj_fill5_s0 {y0 : Int32} (h0 : ¬ (5 ≤ y0)) (h1 : ¬ (y0 < 0)) : ¬ (y0 < 0) ∧ ¬ (5 ≤ y0) := ⟨h1, h0⟩
theorem gj_fill5_s1 {y0 : Int32} (h0 : ¬ (5 ≤ y0)) (h1 : ¬ (y0 < 0)) : ¬ ((y0 + 1) < 0) := by lia
theorem gj_fill5_s2  : ¬ ((0 : Int32) < 0) := (by decide)
theorem dJ7_fill_53178_0 : decode cJ7_fill_53178 0 = .ok (.iconst 0, 1) := zk_3 (by decide +kernel)
theorem dJ7_fill_53178_1 : decode cJ7_fill_53178 1 = .ok (.istore_n 2, 1) := zk_61 (by decide +kernel)
theorem dJ7_fill_53178_2 : decode cJ7_fill_53178 2 = .ok (.aload_n 0, 1) := zk_42 (by decide +kernel)
theorem dJ7_fill_53178_3 : decode cJ7_fill_53178 3 = .ok (.arraylength, 1) := zk_190 (by decide +kernel)
theorem dJ7_fill_53178_4 : decode cJ7_fill_53178 4 = .ok (.istore_n 3, 1) := zk_62 (by decide +kernel)
theorem dJ7_fill_53178_5 : decode cJ7_fill_53178 5 = .ok (.iload_n 2, 1) := zk_28 (by decide +kernel)
theorem dJ7_fill_53178_6 : decode cJ7_fill_53178 6 = .ok (.iload_n 3, 1) := zk_29 (by decide +kernel)
theorem dJ7_fill_53178_7 : decode cJ7_fill_53178 7 = .ok (.if_icmp .ge 13, 3) := zk_162 (by decide +kernel)
theorem dJ7_fill_53178_20 : decode cJ7_fill_53178 20 = .ok (.return_, 1) := zk_177 (by decide +kernel)
theorem dJ7_fill_53178_10 : decode cJ7_fill_53178 10 = .ok (.aload_n 0, 1) := zk_42 (by decide +kernel)
theorem dJ7_fill_53178_11 : decode cJ7_fill_53178 11 = .ok (.iload_n 2, 1) := zk_28 (by decide +kernel)
theorem dJ7_fill_53178_12 : decode cJ7_fill_53178 12 = .ok (.iload_n 1, 1) := zk_27 (by decide +kernel)
theorem dJ7_fill_53178_13 : decode cJ7_fill_53178 13 = .ok (.iastore, 1) := zk_79 (by decide +kernel)
theorem dJ7_fill_53178_14 : decode cJ7_fill_53178 14 = .ok (.iinc 2 1, 3) := zk_132 (by decide +kernel)
theorem dJ7_fill_53178_17 : decode cJ7_fill_53178 17 = .ok (.goto (-12), 3) := zk_167 (by decide +kernel)
set_option maxHeartbeats 4000000 in
set_option maxRecDepth 100000 in
theorem gj_fill5 (l : Launch) (dC : Nat → ClassId) (dI : Nat → Nat → Nat) (ro : Nat) (cRo : ClassId) (f0 : Nat → Int32) (a1 : Int32) (sz : Nat) : Met l yJ7_fill_53178 (Cond.code yJ7_fill_53178 cJ7_fill_53178 4 none :: wsL_law) ({ frames := 0, cells := 0, slots := 0, locals := 0 }) (va_Pc [.ref ro, .int a1] (fun U => U.heap.size = sz ∧ va_P (dC, dI) vwCl [(eA0 ro cRo 5 f0)] U.heap ∧ va_K (dC, dI) vwCl [(cRo, .int)] U ∧ va_D (fun _ => True) [(eA0 ro cRo 5 f0)])) (va_Qv (fun (u : (Nat → Int32)) => u = fj_fill5 f0 a1) (fun (u : (Nat → Int32)) t => va_P (dC, dI) vwCl [(eA0 ro cRo 5 u)] t.heap ∧ va_K (dC, dI) vwCl [] t ∧ va_D (va_A [(eA0 ro cRo 5 f0)] sz) [(eA0 ro cRo 5 u)]) (va_A [(eA0 ro cRo 5 f0)] sz)) 0 0 (va_A [(eA0 ro cRo 5 f0)] sz) := by
  refine Met.ofW (cc := cJ7_fill_53178) (maxL := 4) (ret := none) (by decide) rfl ?_
  intro p e s m args below meth c s₁ B hml hv
  obtain ⟨rfl, hsz, hP, hK, hD0⟩ := hv
  have hx := B.exec
  have hb := B.bytes
  have hr := B.returns
  have hts := atoms_spec (ws := Cond.code yJ7_fill_53178 cJ7_fill_53178 4 none :: wsL_law) B.pre
  have htw : ∀ w ∈ wsL_law, w.before _ s = true := fun w h => hts w (List.mem_cons_of_mem _ h)
  have hown : s.vm.findClass RJ7 = some m.cls := findClass_of_methodNamed B.named
  have hlocks := B.notSynchronized
  subst hsz
  have hD := hD0.self (sz := s.heap.size)
  generalize hAe : va_A [(eA0 ro cRo 5 f0)] s.heap.size = A at hD ⊢
  have hA : ∀ q : Nat, s.heap.size ≤ q → A q := fun q h => by rw [← hAe]; exact Or.inr h
  obtain ⟨H, rH⟩ : ∃ z : Heap, z = s.heap := ⟨_, rfl⟩
  have hS : va_S A s.heap H [] := by rw [rH]; exact va_S.rf
  have hP : va_P (dC, dI) vwCl [(eA0 ro cRo 5 f0)] H := by rw [rH]; exact hP
  rw [← rH]
  have hl := lv_entry ([.ref ro, .int a1]) (n := 4) (Nat.le_of_ble_eq_true rfl)
  rw [lg_entry_eq]
  generalize (lg_sl ([.ref ro, .int a1]) ++ List.replicate (4 - (lg_sl ([.ref ro, .int a1])).length) Slot.unset).toArray = ls at hl ⊢
  have hl : lv_has ls 4 [(0, .ref ro), (1, .int a1)] := hl
  refine lv_iconst (v := 0) hx hb dJ7_fill_53178_0 (by decide) ?_
  refine lv_istore_n (lv' := [(2, .int 0), (0, .ref ro), (1, .int a1)]) hx hb dJ7_fill_53178_1 rfl hl (by decide) rfl (fun ls hl => ?_)
  refine lv_aload_n hx hb dJ7_fill_53178_2 rfl (lv_at hl 1 rfl) ?_
  refine va_alen hx hb hK hP 0 0 rfl rfl (v := 5) rfl dJ7_fill_53178_3 ?_
  refine lv_istore_n (lv' := [(3, .int 5), (2, .int 0), (0, .ref ro), (1, .int a1)]) hx hb dJ7_fill_53178_4 rfl hl (by decide) rfl (fun ls hl => ?_)
  have hloop_1 : ∀ (n : Nat) (L2d : Int32) (f0_d : Nat → Int32) (h0_d : ¬ L2d < 0) (hf_d : (5 : Int32).toInt ≤ L2d.toInt + (n : Int)) (hI_d : fj_fill5 f0 a1 = fj_fill5_d a1 n L2d f0_d) (H : Heap) (locs : List Loc) (ls : Array Slot) (hP : va_P (dC, dI) vwCl [(eA0 ro cRo 5 f0_d)] H) (hD : va_D A [(eA0 ro cRo 5 f0_d)]) (hS : va_S A s.heap H locs) (hl : lv_has ls 4 [(3, .int 5), (2, .int L2d), (0, .ref ro), (1, .int a1)]), W p l e (headSpec (Cond.code yJ7_fill_53178 cJ7_fill_53178 4 none :: wsL_law) ({ frames := 0, cells := 0, slots := 0, locals := 0 })).room s m ([.ref ro, .int a1] : List Value).toArray below meth c H locs 0 0 (MQ below (va_Qv (fun (u : (Nat → Int32)) => u = fj_fill5 f0 a1) (fun (u : (Nat → Int32)) t => va_P (dC, dI) vwCl [(eA0 ro cRo 5 u)] t.heap ∧ va_K (dC, dI) vwCl [] t ∧ va_D A [(eA0 ro cRo 5 u)]) A) ([.ref ro, .int a1] : List Value).toArray s 0 0 A) (F0 m 5 ls []) := by
    intro n
    induction n with
    | zero =>
      intro L2d f0_d h0_d hf_d hI_d H locs ls hP hD hS hl
      refine lv_iload_n hx hb dJ7_fill_53178_5 rfl (lv_at hl 1 rfl) ?_
      refine lv_iload_n hx hb dJ7_fill_53178_6 rfl (lv_at hl 0 rfl) ?_
      refine lv_icmp_ge (tgt := 20) hx hb dJ7_fill_53178_7 (by decide) (fun c_2 => ?_) (fun c_2 => absurd c_2 (fun h => h (xi_z hf_d)))
      refine W.widen (k := 0) (n := 0) (by omega) (by omega) ?_
      obtain ⟨hP9, hD9⟩ := zsub2 (ws' := [(eA0 ro cRo 5 f0_d)]) hP hD [0] (by decide) rfl
      have hK9 := hK.sub (tys' := []) [] rfl
      exact W.vret hx hb hr (fun t ht hW => ⟨⟨f0_d, rfl, (Eq.symm (hI_d.trans (by rw [fj_fill5_d]; try rfl))), by rw [ht]; exact hP9, va_K.moved hW.alike hK9, hD9⟩, hS.F ht⟩) hS.2.2 dJ7_fill_53178_20
    | succ n ih =>
      intro L2d f0_d h0_d hf_d hI_d H locs ls hP hD hS hl
      refine lv_iload_n hx hb dJ7_fill_53178_5 rfl (lv_at hl 1 rfl) ?_
      refine lv_iload_n hx hb dJ7_fill_53178_6 rfl (lv_at hl 0 rfl) ?_
      refine lv_icmp_ge (tgt := 20) hx hb dJ7_fill_53178_7 (by decide) (fun c_3 => ?_) (fun c_3 => ?_)
      · refine W.widen (k := 0) (n := 0) (by omega) (by omega) ?_
        obtain ⟨hP9, hD9⟩ := zsub2 (ws' := [(eA0 ro cRo 5 f0_d)]) hP hD [0] (by decide) rfl
        have hK9 := hK.sub (tys' := []) [] rfl
        exact W.vret hx hb hr (fun t ht hW => ⟨⟨f0_d, rfl, (Eq.symm (hI_d.trans (by rw [fj_fill5_d]; (try rw [if_pos c_3]); try rfl))), by rw [ht]; exact hP9, va_K.moved hW.alike hK9, hD9⟩, hS.F ht⟩) hS.2.2 dJ7_fill_53178_20
      · refine lv_aload_n hx hb dJ7_fill_53178_10 rfl (lv_at hl 2 rfl) ?_
        refine lv_iload_n hx hb dJ7_fill_53178_11 rfl (lv_at hl 1 rfl) ?_
        refine lv_iload_n hx hb dJ7_fill_53178_12 rfl (lv_at hl 3 rfl) ?_
        refine va_iast hx hb hK hP hD hS 0 0 rfl rfl (xg_inr (N := 5) rfl (gj_fill5_s0 (y0 := L2d) c_3 h0_d).1 (gj_fill5_s0 (y0 := L2d) c_3 h0_d).2) dJ7_fill_53178_13 (fun H locs hP hD hS => ?_)
        obtain ⟨hP, hD⟩ := zre [(eA0 ro cRo 5 (upd f0_d L2d.toNatClampNeg a1))] hP hD rfl
        refine lv_iinc (v := (L2d + 1)) (lv' := [(2, .int (L2d + 1)), (3, .int 5), (0, .ref ro), (1, .int a1)]) hx hb dJ7_fill_53178_14 hl (k := 1) rfl (rfl) (by decide) rfl (fun ls hl => ?_)
        refine lv_goto (tgt := 5) hx hb dJ7_fill_53178_17 (by decide) ?_
        exact ih (L2d + 1) (upd f0_d L2d.toNatClampNeg a1) (gj_fill5_s1 (y0 := L2d) c_3 h0_d) (by rw [xi_s' c_3]; omega) (hI_d.trans (by rw [fj_fill5_d]; (try rw [if_neg c_3]); try rfl)) H locs ls hP hD hS (lv_sub hl [1, 0, 2, 3] rfl)
  exact hloop_1 5 (0 : Int32) f0 (gj_fill5_s2 ) (by decide) ((by rw [fj_fill5])) _ _ ls hP hD hS (lv_sub hl [0, 1, 2, 3] rfl)

def fj_fill4_d (a1 : Int32) : Nat → (Int32) → (Nat → Int32) → (Nat → Int32)
  | 0, L2d, f0_d => f0_d
  | n + 1, L2d, f0_d => (if 4 ≤ L2d then f0_d else fj_fill4_d a1 n (L2d + 1) (upd f0_d L2d.toNatClampNeg a1))
def fj_fill4 (f0 : Nat → Int32) (a1 : Int32) : (Nat → Int32) := fj_fill4_d a1 4 (0 : Int32) f0
theorem gj_fill4_s0 {y0 : Int32} (h0 : ¬ (4 ≤ y0)) (h1 : ¬ (y0 < 0)) : ¬ (y0 < 0) ∧ ¬ (4 ≤ y0) := ⟨h1, h0⟩
theorem gj_fill4_s1 {y0 : Int32} (h0 : ¬ (4 ≤ y0)) (h1 : ¬ (y0 < 0)) : ¬ ((y0 + 1) < 0) := by lia
theorem gj_fill4_s2  : ¬ ((0 : Int32) < 0) := (by decide)
set_option maxHeartbeats 4000000 in
set_option maxRecDepth 100000 in
theorem gj_fill4 (l : Launch) (dC : Nat → ClassId) (dI : Nat → Nat → Nat) (ro : Nat) (cRo : ClassId) (f0 : Nat → Int32) (a1 : Int32) (sz : Nat) : Met l yJ7_fill_53178 (Cond.code yJ7_fill_53178 cJ7_fill_53178 4 none :: wsL_law) ({ frames := 0, cells := 0, slots := 0, locals := 0 }) (va_Pc [.ref ro, .int a1] (fun U => U.heap.size = sz ∧ va_P (dC, dI) vwCl [(eA0 ro cRo 4 f0)] U.heap ∧ va_K (dC, dI) vwCl [(cRo, .int)] U ∧ va_D (fun _ => True) [(eA0 ro cRo 4 f0)])) (va_Qv (fun (u : (Nat → Int32)) => u = fj_fill4 f0 a1) (fun (u : (Nat → Int32)) t => va_P (dC, dI) vwCl [(eA0 ro cRo 4 u)] t.heap ∧ va_K (dC, dI) vwCl [] t ∧ va_D (va_A [(eA0 ro cRo 4 f0)] sz) [(eA0 ro cRo 4 u)]) (va_A [(eA0 ro cRo 4 f0)] sz)) 0 0 (va_A [(eA0 ro cRo 4 f0)] sz) := by
  refine Met.ofW (cc := cJ7_fill_53178) (maxL := 4) (ret := none) (by decide) rfl ?_
  intro p e s m args below meth c s₁ B hml hv
  obtain ⟨rfl, hsz, hP, hK, hD0⟩ := hv
  have hx := B.exec
  have hb := B.bytes
  have hr := B.returns
  have hts := atoms_spec (ws := Cond.code yJ7_fill_53178 cJ7_fill_53178 4 none :: wsL_law) B.pre
  have htw : ∀ w ∈ wsL_law, w.before _ s = true := fun w h => hts w (List.mem_cons_of_mem _ h)
  have hown : s.vm.findClass RJ7 = some m.cls := findClass_of_methodNamed B.named
  have hlocks := B.notSynchronized
  subst hsz
  have hD := hD0.self (sz := s.heap.size)
  generalize hAe : va_A [(eA0 ro cRo 4 f0)] s.heap.size = A at hD ⊢
  have hA : ∀ q : Nat, s.heap.size ≤ q → A q := fun q h => by rw [← hAe]; exact Or.inr h
  obtain ⟨H, rH⟩ : ∃ z : Heap, z = s.heap := ⟨_, rfl⟩
  have hS : va_S A s.heap H [] := by rw [rH]; exact va_S.rf
  have hP : va_P (dC, dI) vwCl [(eA0 ro cRo 4 f0)] H := by rw [rH]; exact hP
  rw [← rH]
  have hl := lv_entry ([.ref ro, .int a1]) (n := 4) (Nat.le_of_ble_eq_true rfl)
  rw [lg_entry_eq]
  generalize (lg_sl ([.ref ro, .int a1]) ++ List.replicate (4 - (lg_sl ([.ref ro, .int a1])).length) Slot.unset).toArray = ls at hl ⊢
  have hl : lv_has ls 4 [(0, .ref ro), (1, .int a1)] := hl
  refine lv_iconst (v := 0) hx hb dJ7_fill_53178_0 (by decide) ?_
  refine lv_istore_n (lv' := [(2, .int 0), (0, .ref ro), (1, .int a1)]) hx hb dJ7_fill_53178_1 rfl hl (by decide) rfl (fun ls hl => ?_)
  refine lv_aload_n hx hb dJ7_fill_53178_2 rfl (lv_at hl 1 rfl) ?_
  refine va_alen hx hb hK hP 0 0 rfl rfl (v := 4) rfl dJ7_fill_53178_3 ?_
  refine lv_istore_n (lv' := [(3, .int 4), (2, .int 0), (0, .ref ro), (1, .int a1)]) hx hb dJ7_fill_53178_4 rfl hl (by decide) rfl (fun ls hl => ?_)
  have hloop_1 : ∀ (n : Nat) (L2d : Int32) (f0_d : Nat → Int32) (h0_d : ¬ L2d < 0) (hf_d : (4 : Int32).toInt ≤ L2d.toInt + (n : Int)) (hI_d : fj_fill4 f0 a1 = fj_fill4_d a1 n L2d f0_d) (H : Heap) (locs : List Loc) (ls : Array Slot) (hP : va_P (dC, dI) vwCl [(eA0 ro cRo 4 f0_d)] H) (hD : va_D A [(eA0 ro cRo 4 f0_d)]) (hS : va_S A s.heap H locs) (hl : lv_has ls 4 [(3, .int 4), (2, .int L2d), (0, .ref ro), (1, .int a1)]), W p l e (headSpec (Cond.code yJ7_fill_53178 cJ7_fill_53178 4 none :: wsL_law) ({ frames := 0, cells := 0, slots := 0, locals := 0 })).room s m ([.ref ro, .int a1] : List Value).toArray below meth c H locs 0 0 (MQ below (va_Qv (fun (u : (Nat → Int32)) => u = fj_fill4 f0 a1) (fun (u : (Nat → Int32)) t => va_P (dC, dI) vwCl [(eA0 ro cRo 4 u)] t.heap ∧ va_K (dC, dI) vwCl [] t ∧ va_D A [(eA0 ro cRo 4 u)]) A) ([.ref ro, .int a1] : List Value).toArray s 0 0 A) (F0 m 5 ls []) := by
    intro n
    induction n with
    | zero =>
      intro L2d f0_d h0_d hf_d hI_d H locs ls hP hD hS hl
      refine lv_iload_n hx hb dJ7_fill_53178_5 rfl (lv_at hl 1 rfl) ?_
      refine lv_iload_n hx hb dJ7_fill_53178_6 rfl (lv_at hl 0 rfl) ?_
      refine lv_icmp_ge (tgt := 20) hx hb dJ7_fill_53178_7 (by decide) (fun c_2 => ?_) (fun c_2 => absurd c_2 (fun h => h (xi_z hf_d)))
      refine W.widen (k := 0) (n := 0) (by omega) (by omega) ?_
      obtain ⟨hP9, hD9⟩ := zsub2 (ws' := [(eA0 ro cRo 4 f0_d)]) hP hD [0] (by decide) rfl
      have hK9 := hK.sub (tys' := []) [] rfl
      exact W.vret hx hb hr (fun t ht hW => ⟨⟨f0_d, rfl, (Eq.symm (hI_d.trans (by rw [fj_fill4_d]; try rfl))), by rw [ht]; exact hP9, va_K.moved hW.alike hK9, hD9⟩, hS.F ht⟩) hS.2.2 dJ7_fill_53178_20
    | succ n ih =>
      intro L2d f0_d h0_d hf_d hI_d H locs ls hP hD hS hl
      refine lv_iload_n hx hb dJ7_fill_53178_5 rfl (lv_at hl 1 rfl) ?_
      refine lv_iload_n hx hb dJ7_fill_53178_6 rfl (lv_at hl 0 rfl) ?_
      refine lv_icmp_ge (tgt := 20) hx hb dJ7_fill_53178_7 (by decide) (fun c_3 => ?_) (fun c_3 => ?_)
      · refine W.widen (k := 0) (n := 0) (by omega) (by omega) ?_
        obtain ⟨hP9, hD9⟩ := zsub2 (ws' := [(eA0 ro cRo 4 f0_d)]) hP hD [0] (by decide) rfl
        have hK9 := hK.sub (tys' := []) [] rfl
        exact W.vret hx hb hr (fun t ht hW => ⟨⟨f0_d, rfl, (Eq.symm (hI_d.trans (by rw [fj_fill4_d]; (try rw [if_pos c_3]); try rfl))), by rw [ht]; exact hP9, va_K.moved hW.alike hK9, hD9⟩, hS.F ht⟩) hS.2.2 dJ7_fill_53178_20
      · refine lv_aload_n hx hb dJ7_fill_53178_10 rfl (lv_at hl 2 rfl) ?_
        refine lv_iload_n hx hb dJ7_fill_53178_11 rfl (lv_at hl 1 rfl) ?_
        refine lv_iload_n hx hb dJ7_fill_53178_12 rfl (lv_at hl 3 rfl) ?_
        refine va_iast hx hb hK hP hD hS 0 0 rfl rfl (xg_inr (N := 4) rfl (gj_fill4_s0 (y0 := L2d) c_3 h0_d).1 (gj_fill4_s0 (y0 := L2d) c_3 h0_d).2) dJ7_fill_53178_13 (fun H locs hP hD hS => ?_)
        obtain ⟨hP, hD⟩ := zre [(eA0 ro cRo 4 (upd f0_d L2d.toNatClampNeg a1))] hP hD rfl
        refine lv_iinc (v := (L2d + 1)) (lv' := [(2, .int (L2d + 1)), (3, .int 4), (0, .ref ro), (1, .int a1)]) hx hb dJ7_fill_53178_14 hl (k := 1) rfl (rfl) (by decide) rfl (fun ls hl => ?_)
        refine lv_goto (tgt := 5) hx hb dJ7_fill_53178_17 (by decide) ?_
        exact ih (L2d + 1) (upd f0_d L2d.toNatClampNeg a1) (gj_fill4_s1 (y0 := L2d) c_3 h0_d) (by rw [xi_s' c_3]; omega) (hI_d.trans (by rw [fj_fill4_d]; (try rw [if_neg c_3]); try rfl)) H locs ls hP hD hS (lv_sub hl [1, 0, 2, 3] rfl)
  exact hloop_1 4 (0 : Int32) f0 (gj_fill4_s2 ) (by decide) ((by rw [fj_fill4])) _ _ ls hP hD hS (lv_sub hl [0, 1, 2, 3] rfl)

def fs_clear : (Int32) × (Int32) × (Int32) × (Int32) × (Int32) × (Int32) × (Int32) := ((7 : Int32), (0 : Int32), (59 : Int32), (2 : Int32), (0 : Int32), (1461 : Int32), (4 : Int32))
theorem dX9_clear_0 : decode cX9_clear 0 = .ok (.aload_n 0, 1) := zk_42 (by decide +kernel)
theorem dX9_clear_1 : decode cX9_clear 1 = .ok (.bipush 7, 2) := zk_16 (by decide +kernel)
theorem dX9_clear_3 : decode cX9_clear 3 = .ok (.putfield 7, 3) := zk_181 (by decide +kernel)
theorem dX9_clear_6 : decode cX9_clear 6 = .ok (.aload_n 0, 1) := zk_42 (by decide +kernel)
theorem dX9_clear_7 : decode cX9_clear 7 = .ok (.iconst 0, 1) := zk_3 (by decide +kernel)
theorem dX9_clear_8 : decode cX9_clear 8 = .ok (.putfield 13, 3) := zk_181 (by decide +kernel)
theorem dX9_clear_11 : decode cX9_clear 11 = .ok (.aload_n 0, 1) := zk_42 (by decide +kernel)
theorem dX9_clear_12 : decode cX9_clear 12 = .ok (.bipush 59, 2) := zk_16 (by decide +kernel)
theorem dX9_clear_14 : decode cX9_clear 14 = .ok (.putfield 16, 3) := zk_181 (by decide +kernel)
theorem dX9_clear_17 : decode cX9_clear 17 = .ok (.aload_n 0, 1) := zk_42 (by decide +kernel)
theorem dX9_clear_18 : decode cX9_clear 18 = .ok (.iconst 2, 1) := zk_5 (by decide +kernel)
theorem dX9_clear_19 : decode cX9_clear 19 = .ok (.putfield 19, 3) := zk_181 (by decide +kernel)
theorem dX9_clear_22 : decode cX9_clear 22 = .ok (.aload_n 0, 1) := zk_42 (by decide +kernel)
theorem dX9_clear_23 : decode cX9_clear 23 = .ok (.iconst 0, 1) := zk_3 (by decide +kernel)
theorem dX9_clear_24 : decode cX9_clear 24 = .ok (.putfield 22, 3) := zk_181 (by decide +kernel)
theorem dX9_clear_27 : decode cX9_clear 27 = .ok (.aload_n 0, 1) := zk_42 (by decide +kernel)
theorem dX9_clear_28 : decode cX9_clear 28 = .ok (.sipush 1461, 3) := zk_17 (by decide +kernel)
theorem dX9_clear_31 : decode cX9_clear 31 = .ok (.putfield 25, 3) := zk_181 (by decide +kernel)
theorem dX9_clear_34 : decode cX9_clear 34 = .ok (.aload_n 0, 1) := zk_42 (by decide +kernel)
theorem dX9_clear_35 : decode cX9_clear 35 = .ok (.iconst 4, 1) := zk_7 (by decide +kernel)
theorem dX9_clear_36 : decode cX9_clear 36 = .ok (.putfield 28, 3) := zk_181 (by decide +kernel)
theorem dX9_clear_39 : decode cX9_clear 39 = .ok (.return_, 1) := zk_177 (by decide +kernel)
set_option maxHeartbeats 4000000 in
set_option maxRecDepth 100000 in
theorem gs_clear (l : Launch) (dC : Nat → ClassId) (dI : Nat → Nat → Nat) (bsk : Nat) (wd : Int32) (wf : Int32) (mp : Int32) (mb : Int32) (mo : Int32) (sp : Int32) (sb : Int32) (sz : Nat) : Met l yX9_clear (Cond.code yX9_clear cX9_clear 1 none :: wsL_law) ({ frames := 0, cells := 0, slots := 0, locals := 0 }) (va_Pc [.ref bsk] (fun U => U.heap.size = sz ∧ va_P (dC, dI) vwCl [(eO9a bsk wd wf mp mb mo sp sb)] U.heap ∧ va_K (dC, dI) vwCl [] U ∧ va_D (fun _ => True) [(eO9a bsk wd wf mp mb mo sp sb)])) (va_Qv (fun (u : (Int32) × (Int32) × (Int32) × (Int32) × (Int32) × (Int32) × (Int32)) => u = fs_clear) (fun (u : (Int32) × (Int32) × (Int32) × (Int32) × (Int32) × (Int32) × (Int32)) t => va_P (dC, dI) vwCl [(eO9a bsk u.1 u.2.1 u.2.2.1 u.2.2.2.1 u.2.2.2.2.1 u.2.2.2.2.2.1 u.2.2.2.2.2.2)] t.heap ∧ va_K (dC, dI) vwCl [] t ∧ va_D (va_A [(eO9a bsk wd wf mp mb mo sp sb)] sz) [(eO9a bsk u.1 u.2.1 u.2.2.1 u.2.2.2.1 u.2.2.2.2.1 u.2.2.2.2.2.1 u.2.2.2.2.2.2)]) (va_A [(eO9a bsk wd wf mp mb mo sp sb)] sz)) 0 0 (va_A [(eO9a bsk wd wf mp mb mo sp sb)] sz) := by
  refine Met.ofW (cc := cX9_clear) (maxL := 1) (ret := none) (by decide) rfl ?_
  intro p e s m args below meth c s₁ B hml hv
  obtain ⟨rfl, hsz, hP, hK, hD0⟩ := hv
  have hx := B.exec
  have hb := B.bytes
  have hr := B.returns
  have hts := atoms_spec (ws := Cond.code yX9_clear cX9_clear 1 none :: wsL_law) B.pre
  have htw : ∀ w ∈ wsL_law, w.before _ s = true := fun w h => hts w (List.mem_cons_of_mem _ h)
  have hown : s.vm.findClass RX9 = some m.cls := findClass_of_methodNamed B.named
  have hlocks := B.notSynchronized
  subst hsz
  have hD := hD0.self (sz := s.heap.size)
  generalize hAe : va_A [(eO9a bsk wd wf mp mb mo sp sb)] s.heap.size = A at hD ⊢
  have hA : ∀ q : Nat, s.heap.size ≤ q → A q := fun q h => by rw [← hAe]; exact Or.inr h
  obtain ⟨H, rH⟩ : ∃ z : Heap, z = s.heap := ⟨_, rfl⟩
  have hS : va_S A s.heap H [] := by rw [rH]; exact va_S.rf
  have hP : va_P (dC, dI) vwCl [(eO9a bsk wd wf mp mb mo sp sb)] H := by rw [rH]; exact hP
  rw [← rH]
  have hl := lv_entry ([.ref bsk]) (n := 1) (Nat.le_of_ble_eq_true rfl)
  rw [lg_entry_eq]
  generalize (lg_sl ([.ref bsk]) ++ List.replicate (1 - (lg_sl ([.ref bsk])).length) Slot.unset).toArray = ls at hl ⊢
  have hl : lv_has ls 1 [(0, .ref bsk)] := hl
  refine lv_aload_n hx hb dX9_clear_0 rfl (lv_at hl 0 rfl) ?_
  refine lv_bipush (v := 7) hx hb dX9_clear_1 (by decide) ?_
  refine va_put (D := (dC, dI)) (ci := 9) (v := .int 7) (ty := tyX9 0) (C := RX9) (T := TX9) (N := 7) hx hb htw inlX9 tyX9 tyX9_ok nmX9 hown hK hP hD hS 0 rfl rfl 0 (by decide) (htw _ (ck_7 _ (List.mem_of_getElem? (i := 19) rfl))) (fun _ h9 => h9) rfl (tyX9_ok 0 (by decide)) rfl rfl (Nat.le_of_ble_eq_true rfl) dX9_clear_3 (fun H locs hP hD hS => ?_)
  obtain ⟨hP, hD⟩ := zre [(eO9a bsk 7 wf mp mb mo sp sb)] hP hD rfl
  refine lv_aload_n hx hb dX9_clear_6 rfl (lv_at hl 0 rfl) ?_
  refine lv_iconst (v := 0) hx hb dX9_clear_7 (by decide) ?_
  refine va_put (D := (dC, dI)) (ci := 9) (v := .int 0) (ty := tyX9 1) (C := RX9) (T := TX9) (N := 7) hx hb htw inlX9 tyX9 tyX9_ok nmX9 hown hK hP hD hS 0 rfl rfl 1 (by decide) (htw _ (ck_7 _ (List.mem_of_getElem? (i := 20) rfl))) (fun _ h9 => h9) rfl (tyX9_ok 1 (by decide)) rfl rfl (Nat.le_of_ble_eq_true rfl) dX9_clear_8 (fun H locs hP hD hS => ?_)
  obtain ⟨hP, hD⟩ := zre [(eO9a bsk 7 0 mp mb mo sp sb)] hP hD rfl
  refine lv_aload_n hx hb dX9_clear_11 rfl (lv_at hl 0 rfl) ?_
  refine lv_bipush (v := 59) hx hb dX9_clear_12 (by decide) ?_
  refine va_put (D := (dC, dI)) (ci := 9) (v := .int 59) (ty := tyX9 2) (C := RX9) (T := TX9) (N := 7) hx hb htw inlX9 tyX9 tyX9_ok nmX9 hown hK hP hD hS 0 rfl rfl 2 (by decide) (htw _ (ck_7 _ (List.mem_of_getElem? (i := 21) rfl))) (fun _ h9 => h9) rfl (tyX9_ok 2 (by decide)) rfl rfl (Nat.le_of_ble_eq_true rfl) dX9_clear_14 (fun H locs hP hD hS => ?_)
  obtain ⟨hP, hD⟩ := zre [(eO9a bsk 7 0 59 mb mo sp sb)] hP hD rfl
  refine lv_aload_n hx hb dX9_clear_17 rfl (lv_at hl 0 rfl) ?_
  refine lv_iconst (v := 2) hx hb dX9_clear_18 (by decide) ?_
  refine va_put (D := (dC, dI)) (ci := 9) (v := .int 2) (ty := tyX9 3) (C := RX9) (T := TX9) (N := 7) hx hb htw inlX9 tyX9 tyX9_ok nmX9 hown hK hP hD hS 0 rfl rfl 3 (by decide) (htw _ (ck_7 _ (List.mem_of_getElem? (i := 22) rfl))) (fun _ h9 => h9) rfl (tyX9_ok 3 (by decide)) rfl rfl (Nat.le_of_ble_eq_true rfl) dX9_clear_19 (fun H locs hP hD hS => ?_)
  obtain ⟨hP, hD⟩ := zre [(eO9a bsk 7 0 59 2 mo sp sb)] hP hD rfl
  refine lv_aload_n hx hb dX9_clear_22 rfl (lv_at hl 0 rfl) ?_
  refine lv_iconst (v := 0) hx hb dX9_clear_23 (by decide) ?_
  refine va_put (D := (dC, dI)) (ci := 9) (v := .int 0) (ty := tyX9 4) (C := RX9) (T := TX9) (N := 7) hx hb htw inlX9 tyX9 tyX9_ok nmX9 hown hK hP hD hS 0 rfl rfl 4 (by decide) (htw _ (ck_7 _ (List.mem_of_getElem? (i := 23) rfl))) (fun _ h9 => h9) rfl (tyX9_ok 4 (by decide)) rfl rfl (Nat.le_of_ble_eq_true rfl) dX9_clear_24 (fun H locs hP hD hS => ?_)
  obtain ⟨hP, hD⟩ := zre [(eO9a bsk 7 0 59 2 0 sp sb)] hP hD rfl
  refine lv_aload_n hx hb dX9_clear_27 rfl (lv_at hl 0 rfl) ?_
  refine lv_sipush (v := 1461) hx hb dX9_clear_28 (by decide) ?_
  refine va_put (D := (dC, dI)) (ci := 9) (v := .int 1461) (ty := tyX9 5) (C := RX9) (T := TX9) (N := 7) hx hb htw inlX9 tyX9 tyX9_ok nmX9 hown hK hP hD hS 0 rfl rfl 5 (by decide) (htw _ (ck_8 _ (List.mem_of_getElem? (i := 0) rfl))) (fun _ h9 => h9) rfl (tyX9_ok 5 (by decide)) rfl rfl (Nat.le_of_ble_eq_true rfl) dX9_clear_31 (fun H locs hP hD hS => ?_)
  obtain ⟨hP, hD⟩ := zre [(eO9a bsk 7 0 59 2 0 1461 sb)] hP hD rfl
  refine lv_aload_n hx hb dX9_clear_34 rfl (lv_at hl 0 rfl) ?_
  refine lv_iconst (v := 4) hx hb dX9_clear_35 (by decide) ?_
  refine va_put (D := (dC, dI)) (ci := 9) (v := .int 4) (ty := tyX9 6) (C := RX9) (T := TX9) (N := 7) hx hb htw inlX9 tyX9 tyX9_ok nmX9 hown hK hP hD hS 0 rfl rfl 6 (by decide) (htw _ (ck_8 _ (List.mem_of_getElem? (i := 1) rfl))) (fun _ h9 => h9) rfl (tyX9_ok 6 (by decide)) rfl rfl (Nat.le_of_ble_eq_true rfl) dX9_clear_36 (fun H locs hP hD hS => ?_)
  obtain ⟨hP, hD⟩ := zre [(eO9a bsk 7 0 59 2 0 1461 4)] hP hD rfl
  refine W.widen (k := 0) (n := 0) (by omega) (by omega) ?_
  have hP9 := hP
  have hD9 := hD
  have hK9 := hK.sub (tys' := []) [] rfl
  exact W.vret hx hb hr (fun t ht hW => ⟨⟨(7, 0, 59, 2, 0, 1461, 4), rfl, (Eq.symm ((by rw [fs_clear]))), by rw [ht]; exact hP9, va_K.moved hW.alike hK9, hD9⟩, hS.F ht⟩) hS.2.2 dX9_clear_39

def fr_clear (fRe : Nat → Int32) : (Int32) × (Int32) × (Nat → Int32) := (xL ((fj_fill4 fRe (0 : Int32))) (fun u_2 => ((0 : Int32), (0 : Int32), u_2)))
theorem dX8_clear_0 : decode cX8_clear 0 = .ok (.aload_n 0, 1) := zk_42 (by decide +kernel)
theorem dX8_clear_1 : decode cX8_clear 1 = .ok (.iconst 0, 1) := zk_3 (by decide +kernel)
theorem dX8_clear_2 : decode cX8_clear 2 = .ok (.putfield 27, 3) := zk_181 (by decide +kernel)
theorem dX8_clear_5 : decode cX8_clear 5 = .ok (.aload_n 0, 1) := zk_42 (by decide +kernel)
theorem dX8_clear_6 : decode cX8_clear 6 = .ok (.iconst 0, 1) := zk_3 (by decide +kernel)
theorem dX8_clear_7 : decode cX8_clear 7 = .ok (.putfield 31, 3) := zk_181 (by decide +kernel)
theorem dX8_clear_10 : decode cX8_clear 10 = .ok (.aload_n 0, 1) := zk_42 (by decide +kernel)
theorem dX8_clear_11 : decode cX8_clear 11 = .ok (.getfield 20, 3) := zk_180 (by decide +kernel)
theorem dX8_clear_14 : decode cX8_clear 14 = .ok (.iconst 0, 1) := zk_3 (by decide +kernel)
theorem dX8_clear_15 : decode cX8_clear 15 = .ok (.invokestatic 34, 3) := zk_184 (by decide +kernel)
theorem dX8_clear_18 : decode cX8_clear 18 = .ok (.return_, 1) := zk_177 (by decide +kernel)
set_option maxHeartbeats 4000000 in
set_option maxRecDepth 100000 in
theorem gr_clear (l : Launch) (dC : Nat → ClassId) (dI : Nat → Nat → Nat) (bru : Nat) (rco : Nat) (rsz : Int32) (ren : Nat) (rst : Nat) (rkn : Int32) (cRe : ClassId) (fRe : Nat → Int32) (sz : Nat) : Met l yX8_clear (Cond.code yX8_clear cX8_clear 1 none :: wsL_law) ({ frames := 1, cells := 0, slots := 0, locals := 23 }) (va_Pc [.ref bru] (fun U => U.heap.size = sz ∧ va_P (dC, dI) vwCl [(eO8a bru rco rsz ren rst rkn), (eA0 ren cRe 4 fRe)] U.heap ∧ va_K (dC, dI) vwCl [(cRe, .int)] U ∧ va_D (fun _ => True) [(eO8a bru rco rsz ren rst rkn), (eA0 ren cRe 4 fRe)])) (va_Qv (fun (u : (Int32) × (Int32) × (Nat → Int32)) => u = fr_clear fRe) (fun (u : (Int32) × (Int32) × (Nat → Int32)) t => va_P (dC, dI) vwCl [(eO8a bru rco u.1 ren rst u.2.1), (eA0 ren cRe 4 u.2.2)] t.heap ∧ va_K (dC, dI) vwCl [] t ∧ va_D (va_A [(eO8a bru rco rsz ren rst rkn), (eA0 ren cRe 4 fRe)] sz) [(eO8a bru rco u.1 ren rst u.2.1), (eA0 ren cRe 4 u.2.2)]) (va_A [(eO8a bru rco rsz ren rst rkn), (eA0 ren cRe 4 fRe)] sz)) 0 0 (va_A [(eO8a bru rco rsz ren rst rkn), (eA0 ren cRe 4 fRe)] sz) := by
  refine Met.ofW (cc := cX8_clear) (maxL := 1) (ret := none) (by decide) rfl ?_
  intro p e s m args below meth c s₁ B hml hv
  obtain ⟨rfl, hsz, hP, hK, hD0⟩ := hv
  have hx := B.exec
  have hb := B.bytes
  have hr := B.returns
  have hts := atoms_spec (ws := Cond.code yX8_clear cX8_clear 1 none :: wsL_law) B.pre
  have htw : ∀ w ∈ wsL_law, w.before _ s = true := fun w h => hts w (List.mem_cons_of_mem _ h)
  have hown : s.vm.findClass RX8 = some m.cls := findClass_of_methodNamed B.named
  have hlocks := B.notSynchronized
  subst hsz
  have hD := hD0.self (sz := s.heap.size)
  generalize hAe : va_A [(eO8a bru rco rsz ren rst rkn), (eA0 ren cRe 4 fRe)] s.heap.size = A at hD ⊢
  have hA : ∀ q : Nat, s.heap.size ≤ q → A q := fun q h => by rw [← hAe]; exact Or.inr h
  obtain ⟨H, rH⟩ : ∃ z : Heap, z = s.heap := ⟨_, rfl⟩
  have hS : va_S A s.heap H [] := by rw [rH]; exact va_S.rf
  have hP : va_P (dC, dI) vwCl [(eO8a bru rco rsz ren rst rkn), (eA0 ren cRe 4 fRe)] H := by rw [rH]; exact hP
  rw [← rH]
  have hl := lv_entry ([.ref bru]) (n := 1) (Nat.le_of_ble_eq_true rfl)
  rw [lg_entry_eq]
  generalize (lg_sl ([.ref bru]) ++ List.replicate (1 - (lg_sl ([.ref bru])).length) Slot.unset).toArray = ls at hl ⊢
  have hl : lv_has ls 1 [(0, .ref bru)] := hl
  refine lv_aload_n hx hb dX8_clear_0 rfl (lv_at hl 0 rfl) ?_
  refine lv_iconst (v := 0) hx hb dX8_clear_1 (by decide) ?_
  refine va_put (D := (dC, dI)) (ci := 8) (v := .int 0) (ty := tyX8 1) (C := RX8) (T := TX8) (N := 5) hx hb htw inlX8 tyX8 tyX8_ok nmX8 hown hK hP hD hS 0 rfl rfl 1 (by decide) (htw _ (ck_13 _ (List.mem_of_getElem? (i := 23) rfl))) (fun _ h9 => h9) rfl (tyX8_ok 1 (by decide)) rfl rfl (Nat.le_of_ble_eq_true rfl) dX8_clear_2 (fun H locs hP hD hS => ?_)
  obtain ⟨hP, hD⟩ := zre [(eO8a bru rco 0 ren rst rkn), (eA0 ren cRe 4 fRe)] hP hD rfl
  refine lv_aload_n hx hb dX8_clear_5 rfl (lv_at hl 0 rfl) ?_
  refine lv_iconst (v := 0) hx hb dX8_clear_6 (by decide) ?_
  refine va_put (D := (dC, dI)) (ci := 8) (v := .int 0) (ty := tyX8 4) (C := RX8) (T := TX8) (N := 5) hx hb htw inlX8 tyX8 tyX8_ok nmX8 hown hK hP hD hS 0 rfl rfl 4 (by decide) (htw _ (ck_14 _ (List.mem_of_getElem? (i := 0) rfl))) (fun _ h9 => h9) rfl (tyX8_ok 4 (by decide)) rfl rfl (Nat.le_of_ble_eq_true rfl) dX8_clear_7 (fun H locs hP hD hS => ?_)
  obtain ⟨hP, hD⟩ := zre [(eO8a bru rco 0 ren rst 0), (eA0 ren cRe 4 fRe)] hP hD rfl
  refine lv_aload_n hx hb dX8_clear_10 rfl (lv_at hl 0 rfl) ?_
  refine va_get (D := (dC, dI)) (ci := 8) (v := .ref ren) (C := RX8) (T := TX8) (N := 5) hx hb htw inlX8 hown hK hP 0 rfl rfl 2 (by decide) (htw _ (ck_7 _ (List.mem_of_getElem? (i := 3) rfl))) (fun _ h9 => h9) rfl dX8_clear_11 ?_
  refine lv_iconst (v := 0) hx hb dX8_clear_14 (by decide) ?_
  obtain ⟨hPc, hDc, hFc, hCc⟩ := zsub3 (ws' := [(eA0 ren cRe 4 fRe)]) hP hD hS hA [1] (by decide) rfl
  have hKc := hK.sub (tys' := [(cRe, .int)]) [0] rfl
  refine va_callv (va_runS (As := [.ref ren, .int 0]) (rest := []) ⟨hx, hb, hml, hown, htw⟩ (gj_fill4 l dC dI ren cRe fRe (0 : Int32) H.size) (va_cwS 2 htw (xg_S (ck_14 _ (List.mem_of_getElem? (i := 1) rfl)) (ck_13 _ (List.mem_of_getElem? (i := 16) rfl)) (ck_13 _ (List.mem_of_getElem? (i := 17) rfl)) (ck_13 _ (List.mem_of_getElem? (i := 18) rfl))) rfl rfl rfl (by exact ⟨hdc_5.1, hdc_5.2, hdd_14⟩) ⟨Nat.le_of_ble_eq_true rfl, Nat.le_of_ble_eq_true rfl⟩) ⟨fun a U g mk q => by obtain ⟨q0, q1, qP, qK, qD⟩ := q; exact ⟨q0, q1, qP, va_K.moved (u := U) (U := U.calling g mk a) (Vm.Alike.refl U.vm) qK, qD⟩, fun U hU hW => ⟨rfl, by rw [hU], by rw [hU]; exact hPc, va_K.moved hW.alike hKc, hDc.weaken (fun _ _ _ _ => trivial)⟩⟩ rfl rfl hl.1 rfl (lv_room (Nat.le_of_ble_eq_true rfl)) dX8_clear_15 ⟨Nat.le_of_ble_eq_true rfl, Nat.le_of_ble_eq_true rfl⟩) hS (fun q _ h => hFc q h) hFc (fun u_2 t H1 locs ht hvm hw hB hz1 hk1 hS => ?_)
  try dsimp only at hw
  obtain ⟨hP1, hK1, hD1⟩ := hB
  rw [ht] at hP1
  have hK1 := va_K.moved hvm.symm hK1
  have hK1 : va_K (dC, dI) vwCl [] s := hK1
  obtain ⟨hP, hD⟩ := va_join (wr := [(eO8a bru rco 0 ren rst 0)]) (w1 := [(eA0 ren cRe 4 u_2)]) hP hD [1] [0] hCc rfl (by decide) (by decide) hk1 hFc hP1 hD1
  generalize H1 = H at hP hS ⊢
  obtain ⟨hP, hD⟩ := zre [(eO8a bru rco 0 ren rst 0), (eA0 ren cRe 4 u_2)] hP hD rfl
  refine W.widen (k := 0) (n := 0) (by omega) (by omega) ?_
  have hq_u_2 : u_2 = (fj_fill4 fRe (0 : Int32)) := hw
  refine W.widen (k := 0) (n := 0) (by omega) (by omega) ?_
  have hP9 := hP
  have hD9 := hD
  have hK9 := hK.sub (tys' := []) [] rfl
  exact W.vret hx hb hr (fun t ht hW => ⟨⟨(0, 0, u_2), rfl, (Eq.symm ((by rw [fr_clear]; (try rw [← hq_u_2]); (try rw [xL_eq]); try rfl))), by rw [ht]; exact hP9, va_K.moved hW.alike hK9, hD9⟩, hS.F ht⟩) hS.2.2 dX8_clear_18

def fb_clear (fTo : Nat → Int32) (fRe : Nat → Int32) : (Int32) × (Nat → Int32) × (Int32) × (Int32) × (Int32) × (Int32) × (Int32) × (Int32) × (Int32) × (Int32) × (Int32) × (Nat → Int32) := (xL ((fj_fill5 fTo (0 : Int32))) (fun u_2 => (xL (fs_clear) (fun u_5 => (xL ((fr_clear fRe)) (fun u_14 => ((0 : Int32), u_2, u_5.1, u_5.2.1, u_5.2.2.1, u_5.2.2.2.1, u_5.2.2.2.2.1, u_5.2.2.2.2.2.1, u_5.2.2.2.2.2.2, u_14.1, u_14.2.1, u_14.2.2)))))))
theorem dX0_clear_0 : decode cX0_clear 0 = .ok (.aload_n 0, 1) := zk_42 (by decide +kernel)
theorem dX0_clear_1 : decode cX0_clear 1 = .ok (.getfield 9, 3) := zk_180 (by decide +kernel)
theorem dX0_clear_4 : decode cX0_clear 4 = .ok (.iconst 0, 1) := zk_3 (by decide +kernel)
theorem dX0_clear_5 : decode cX0_clear 5 = .ok (.invokestatic 73, 3) := zk_184 (by decide +kernel)
theorem dX0_clear_8 : decode cX0_clear 8 = .ok (.aload_n 0, 1) := zk_42 (by decide +kernel)
theorem dX0_clear_9 : decode cX0_clear 9 = .ok (.getfield 32, 3) := zk_180 (by decide +kernel)
theorem dX0_clear_12 : decode cX0_clear 12 = .ok (.invokevirtual 70, 3) := zk_182 (by decide +kernel)
theorem dX0_clear_15 : decode cX0_clear 15 = .ok (.aload_n 0, 1) := zk_42 (by decide +kernel)
theorem dX0_clear_16 : decode cX0_clear 16 = .ok (.getfield 39, 3) := zk_180 (by decide +kernel)
theorem dX0_clear_19 : decode cX0_clear 19 = .ok (.invokevirtual 79, 3) := zk_182 (by decide +kernel)
theorem dX0_clear_22 : decode cX0_clear 22 = .ok (.aload_n 0, 1) := zk_42 (by decide +kernel)
theorem dX0_clear_23 : decode cX0_clear 23 = .ok (.getfield 65, 3) := zk_180 (by decide +kernel)
theorem dX0_clear_26 : decode cX0_clear 26 = .ok (.iconst 0, 1) := zk_3 (by decide +kernel)
theorem dX0_clear_27 : decode cX0_clear 27 = .ok (.putfield 80, 3) := zk_181 (by decide +kernel)
theorem dX0_clear_30 : decode cX0_clear 30 = .ok (.return_, 1) := zk_177 (by decide +kernel)
set_option maxHeartbeats 4000000 in
set_option maxRecDepth 100000 in
theorem gb_clear (l : Launch) (dC : Nat → ClassId) (dI : Nat → Nat → Nat) (bk : Nat) (bto : Nat) (bnm : Nat) (bla : Nat) (bsk : Nat) (bru : Nat) (bbo : Nat) (bdi : Nat) (bda : Nat) (bdk : Nat) (bdt : Nat) (bdp : Nat) (bno : Nat) (cTo : ClassId) (fTo : Nat → Int32) (wd : Int32) (wf : Int32) (mp : Int32) (mb : Int32) (mo : Int32) (sp : Int32) (sb : Int32) (rco : Nat) (rsz : Int32) (ren : Nat) (rst : Nat) (rkn : Int32) (cRe : ClassId) (fRe : Nat → Int32) (ns : Int32) (nsa : Nat) (nfa : Nat) (nza : Nat) (sz : Nat) : Met l yX0_clear (Cond.code yX0_clear cX0_clear 1 none :: wsL_law) ({ frames := 2, cells := 0, slots := 0, locals := 43 }) (va_Pc [.ref bk] (fun U => U.heap.size = sz ∧ va_P (dC, dI) vwCl [(eO0a bk bto bnm bla bsk bru bbo bdi bda bdk bdt bdp bno), (eA0 bto cTo 5 fTo), (eO9a bsk wd wf mp mb mo sp sb), (eO8a bru rco rsz ren rst rkn), (eA0 ren cRe 4 fRe), (eO6a bno ns nsa nfa nza)] U.heap ∧ va_K (dC, dI) vwCl [(cTo, .int), (cRe, .int)] U ∧ va_D (fun _ => True) [(eO0a bk bto bnm bla bsk bru bbo bdi bda bdk bdt bdp bno), (eA0 bto cTo 5 fTo), (eO9a bsk wd wf mp mb mo sp sb), (eO8a bru rco rsz ren rst rkn), (eA0 ren cRe 4 fRe), (eO6a bno ns nsa nfa nza)])) (va_Qv (fun (u : (Int32) × (Nat → Int32) × (Int32) × (Int32) × (Int32) × (Int32) × (Int32) × (Int32) × (Int32) × (Int32) × (Int32) × (Nat → Int32)) => u = fb_clear fTo fRe) (fun (u : (Int32) × (Nat → Int32) × (Int32) × (Int32) × (Int32) × (Int32) × (Int32) × (Int32) × (Int32) × (Int32) × (Int32) × (Nat → Int32)) t => va_P (dC, dI) vwCl [(eO0a bk bto bnm bla bsk bru bbo bdi bda bdk bdt bdp bno), (eA0 bto cTo 5 u.2.1), (eO9a bsk u.2.2.1 u.2.2.2.1 u.2.2.2.2.1 u.2.2.2.2.2.1 u.2.2.2.2.2.2.1 u.2.2.2.2.2.2.2.1 u.2.2.2.2.2.2.2.2.1), (eO8a bru rco u.2.2.2.2.2.2.2.2.2.1 ren rst u.2.2.2.2.2.2.2.2.2.2.1), (eA0 ren cRe 4 u.2.2.2.2.2.2.2.2.2.2.2), (eO6a bno u.1 nsa nfa nza)] t.heap ∧ va_K (dC, dI) vwCl [] t ∧ va_D (va_A [(eO0a bk bto bnm bla bsk bru bbo bdi bda bdk bdt bdp bno), (eA0 bto cTo 5 fTo), (eO9a bsk wd wf mp mb mo sp sb), (eO8a bru rco rsz ren rst rkn), (eA0 ren cRe 4 fRe), (eO6a bno ns nsa nfa nza)] sz) [(eO0a bk bto bnm bla bsk bru bbo bdi bda bdk bdt bdp bno), (eA0 bto cTo 5 u.2.1), (eO9a bsk u.2.2.1 u.2.2.2.1 u.2.2.2.2.1 u.2.2.2.2.2.1 u.2.2.2.2.2.2.1 u.2.2.2.2.2.2.2.1 u.2.2.2.2.2.2.2.2.1), (eO8a bru rco u.2.2.2.2.2.2.2.2.2.1 ren rst u.2.2.2.2.2.2.2.2.2.2.1), (eA0 ren cRe 4 u.2.2.2.2.2.2.2.2.2.2.2), (eO6a bno u.1 nsa nfa nza)]) (va_A [(eO0a bk bto bnm bla bsk bru bbo bdi bda bdk bdt bdp bno), (eA0 bto cTo 5 fTo), (eO9a bsk wd wf mp mb mo sp sb), (eO8a bru rco rsz ren rst rkn), (eA0 ren cRe 4 fRe), (eO6a bno ns nsa nfa nza)] sz)) 0 0 (va_A [(eO0a bk bto bnm bla bsk bru bbo bdi bda bdk bdt bdp bno), (eA0 bto cTo 5 fTo), (eO9a bsk wd wf mp mb mo sp sb), (eO8a bru rco rsz ren rst rkn), (eA0 ren cRe 4 fRe), (eO6a bno ns nsa nfa nza)] sz) := by
  refine Met.ofW (cc := cX0_clear) (maxL := 1) (ret := none) (by decide) rfl ?_
  intro p e s m args below meth c s₁ B hml hv
  obtain ⟨rfl, hsz, hP, hK, hD0⟩ := hv
  have hx := B.exec
  have hb := B.bytes
  have hr := B.returns
  have hts := atoms_spec (ws := Cond.code yX0_clear cX0_clear 1 none :: wsL_law) B.pre
  have htw : ∀ w ∈ wsL_law, w.before _ s = true := fun w h => hts w (List.mem_cons_of_mem _ h)
  have hown : s.vm.findClass RX0 = some m.cls := findClass_of_methodNamed B.named
  have hlocks := B.notSynchronized
  subst hsz
  have hD := hD0.self (sz := s.heap.size)
  generalize hAe : va_A [(eO0a bk bto bnm bla bsk bru bbo bdi bda bdk bdt bdp bno), (eA0 bto cTo 5 fTo), (eO9a bsk wd wf mp mb mo sp sb), (eO8a bru rco rsz ren rst rkn), (eA0 ren cRe 4 fRe), (eO6a bno ns nsa nfa nza)] s.heap.size = A at hD ⊢
  have hA : ∀ q : Nat, s.heap.size ≤ q → A q := fun q h => by rw [← hAe]; exact Or.inr h
  obtain ⟨H, rH⟩ : ∃ z : Heap, z = s.heap := ⟨_, rfl⟩
  have hS : va_S A s.heap H [] := by rw [rH]; exact va_S.rf
  have hP : va_P (dC, dI) vwCl [(eO0a bk bto bnm bla bsk bru bbo bdi bda bdk bdt bdp bno), (eA0 bto cTo 5 fTo), (eO9a bsk wd wf mp mb mo sp sb), (eO8a bru rco rsz ren rst rkn), (eA0 ren cRe 4 fRe), (eO6a bno ns nsa nfa nza)] H := by rw [rH]; exact hP
  rw [← rH]
  have hl := lv_entry ([.ref bk]) (n := 1) (Nat.le_of_ble_eq_true rfl)
  rw [lg_entry_eq]
  generalize (lg_sl ([.ref bk]) ++ List.replicate (1 - (lg_sl ([.ref bk])).length) Slot.unset).toArray = ls at hl ⊢
  have hl : lv_has ls 1 [(0, .ref bk)] := hl
  refine lv_aload_n hx hb dX0_clear_0 rfl (lv_at hl 0 rfl) ?_
  refine va_get (D := (dC, dI)) (ci := 0) (v := .ref bto) (C := RX0) (T := TX0) (N := 12) hx hb htw inlX0 hown hK hP 0 rfl rfl 0 (by decide) (htw _ (ck_5 _ (List.mem_of_getElem? (i := 21) rfl))) (fun _ h9 => h9) rfl dX0_clear_1 ?_
  refine lv_iconst (v := 0) hx hb dX0_clear_4 (by decide) ?_
  obtain ⟨hPc, hDc, hFc, hCc⟩ := zsub3 (ws' := [(eA0 bto cTo 5 fTo)]) hP hD hS hA [1] (by decide) rfl
  have hKc := hK.sub (tys' := [(cTo, .int)]) [0] rfl
  refine va_callv (va_runS (As := [.ref bto, .int 0]) (rest := []) ⟨hx, hb, hml, hown, htw⟩ (gj_fill5 l dC dI bto cTo fTo (0 : Int32) H.size) (va_cwS 2 htw (xg_S (ck_13 _ (List.mem_of_getElem? (i := 15) rfl)) (ck_13 _ (List.mem_of_getElem? (i := 16) rfl)) (ck_13 _ (List.mem_of_getElem? (i := 17) rfl)) (ck_13 _ (List.mem_of_getElem? (i := 18) rfl))) rfl rfl rfl (by exact ⟨hdc_5.1, hdc_5.2, hdd_14⟩) ⟨Nat.le_of_ble_eq_true rfl, Nat.le_of_ble_eq_true rfl⟩) ⟨fun a U g mk q => by obtain ⟨q0, q1, qP, qK, qD⟩ := q; exact ⟨q0, q1, qP, va_K.moved (u := U) (U := U.calling g mk a) (Vm.Alike.refl U.vm) qK, qD⟩, fun U hU hW => ⟨rfl, by rw [hU], by rw [hU]; exact hPc, va_K.moved hW.alike hKc, hDc.weaken (fun _ _ _ _ => trivial)⟩⟩ rfl rfl hl.1 rfl (lv_room (Nat.le_of_ble_eq_true rfl)) dX0_clear_5 ⟨Nat.le_of_ble_eq_true rfl, Nat.le_of_ble_eq_true rfl⟩) hS (fun q _ h => hFc q h) hFc (fun u_2 t H1 locs ht hvm hw hB hz1 hk1 hS => ?_)
  try dsimp only at hw
  obtain ⟨hP1, hK1, hD1⟩ := hB
  rw [ht] at hP1
  have hK1 := va_K.moved hvm.symm hK1
  have hK1 : va_K (dC, dI) vwCl [] s := hK1
  obtain ⟨hP, hD⟩ := va_join (wr := [(eO0a bk bto bnm bla bsk bru bbo bdi bda bdk bdt bdp bno), (eO9a bsk wd wf mp mb mo sp sb), (eO8a bru rco rsz ren rst rkn), (eA0 ren cRe 4 fRe), (eO6a bno ns nsa nfa nza)]) (w1 := [(eA0 bto cTo 5 u_2)]) hP hD [1] [0, 2, 3, 4, 5] hCc rfl (by decide) (by decide) hk1 hFc hP1 hD1
  generalize H1 = H at hP hS ⊢
  obtain ⟨hP, hD⟩ := zre [(eO0a bk bto bnm bla bsk bru bbo bdi bda bdk bdt bdp bno), (eO9a bsk wd wf mp mb mo sp sb), (eO8a bru rco rsz ren rst rkn), (eA0 ren cRe 4 fRe), (eO6a bno ns nsa nfa nza), (eA0 bto cTo 5 u_2)] hP hD rfl
  refine W.widen (k := 0) (n := 0) (by omega) (by omega) ?_
  have hq_u_2 : u_2 = (fj_fill5 fTo (0 : Int32)) := hw
  refine lv_aload_n hx hb dX0_clear_8 rfl (lv_at hl 0 rfl) ?_
  refine va_get (D := (dC, dI)) (ci := 0) (v := .ref bsk) (C := RX0) (T := TX0) (N := 12) hx hb htw inlX0 hown hK hP 0 rfl rfl 3 (by decide) (htw _ (ck_6 _ (List.mem_of_getElem? (i := 5) rfl))) (fun _ h9 => h9) rfl dX0_clear_9 ?_
  obtain ⟨hPc, hDc, hFc, hCc⟩ := zsub3 (ws' := [(eO9a bsk wd wf mp mb mo sp sb)]) hP hD hS hA [1] (by decide) rfl
  have hKc := hK.sub (tys' := []) [] rfl
  refine va_callv (va_runV (As := []) (rest := []) ⟨hx, hb, hml, hown, htw⟩ (gs_clear l dC dI bsk wd wf mp mb mo sp sb H.size) (cwV 0 htw (xg_V (ck_7 _ (List.mem_of_getElem? (i := 15) rfl)) (ck_7 _ (List.mem_of_getElem? (i := 16) rfl)) (ck_7 _ (List.mem_of_getElem? (i := 17) rfl)) (ck_6 _ (List.mem_of_getElem? (i := 4) rfl)) (ck_7 _ (List.mem_of_getElem? (i := 18) rfl))) rfl rfl rfl (by exact ⟨rfl, hdc_2.1, hdc_2.2, hdd_13⟩) ⟨Nat.le_of_ble_eq_true rfl, Nat.le_of_ble_eq_true rfl⟩) ⟨fun a U g mk q => by obtain ⟨q0, q1, qP, qK, qD⟩ := q; exact ⟨q0, q1, qP, va_K.moved (u := U) (U := U.calling g mk a) (Vm.Alike.refl U.vm) qK, qD⟩, va_recv hKc hPc (ci := 9) (q0 := 0) rfl rfl, fun U hU hW => ⟨rfl, by rw [hU], by rw [hU]; exact hPc, va_K.moved hW.alike hKc, hDc.weaken (fun _ _ _ _ => trivial)⟩⟩ rfl rfl hl.1 rfl (lv_room (Nat.le_of_ble_eq_true rfl)) dX0_clear_12 ⟨Nat.le_of_ble_eq_true rfl, Nat.le_of_ble_eq_true rfl⟩) hS (fun q _ h => hFc q h) hFc (fun u_5 t H1 locs ht hvm hw hB hz1 hk1 hS => ?_)
  try dsimp only at hw
  obtain ⟨hP1, hK1, hD1⟩ := hB
  rw [ht] at hP1
  have hK1 := va_K.moved hvm.symm hK1
  have hK1 : va_K (dC, dI) vwCl [] s := hK1
  obtain ⟨hP, hD⟩ := va_join (wr := [(eO0a bk bto bnm bla bsk bru bbo bdi bda bdk bdt bdp bno), (eO8a bru rco rsz ren rst rkn), (eA0 ren cRe 4 fRe), (eO6a bno ns nsa nfa nza), (eA0 bto cTo 5 u_2)]) (w1 := [(eO9a bsk u_5.1 u_5.2.1 u_5.2.2.1 u_5.2.2.2.1 u_5.2.2.2.2.1 u_5.2.2.2.2.2.1 u_5.2.2.2.2.2.2)]) hP hD [1] [0, 2, 3, 4, 5] hCc rfl (by decide) (by decide) hk1 hFc hP1 hD1
  generalize H1 = H at hP hS ⊢
  obtain ⟨hP, hD⟩ := zre [(eO0a bk bto bnm bla bsk bru bbo bdi bda bdk bdt bdp bno), (eO8a bru rco rsz ren rst rkn), (eA0 ren cRe 4 fRe), (eO6a bno ns nsa nfa nza), (eA0 bto cTo 5 u_2), (eO9a bsk u_5.1 u_5.2.1 u_5.2.2.1 u_5.2.2.2.1 u_5.2.2.2.2.1 u_5.2.2.2.2.2.1 u_5.2.2.2.2.2.2)] hP hD rfl
  refine W.widen (k := 0) (n := 0) (by omega) (by omega) ?_
  have hq_u_5 : u_5 = fs_clear := hw
  refine lv_aload_n hx hb dX0_clear_15 rfl (lv_at hl 0 rfl) ?_
  refine va_get (D := (dC, dI)) (ci := 0) (v := .ref bru) (C := RX0) (T := TX0) (N := 12) hx hb htw inlX0 hown hK hP 0 rfl rfl 4 (by decide) (htw _ (ck_6 _ (List.mem_of_getElem? (i := 9) rfl))) (fun _ h9 => h9) rfl dX0_clear_16 ?_
  obtain ⟨hPc, hDc, hFc, hCc⟩ := zsub3 (ws' := [(eO8a bru rco rsz ren rst rkn), (eA0 ren cRe 4 fRe)]) hP hD hS hA [1, 2] (by decide) rfl
  have hKc := hK.sub (tys' := [(cRe, .int)]) [1] rfl
  refine va_callv (va_runV (As := []) (rest := []) ⟨hx, hb, hml, hown, htw⟩ (gr_clear l dC dI bru rco rsz ren rst rkn cRe fRe H.size) (cwV 0 htw (xg_V (ck_13 _ (List.mem_of_getElem? (i := 19) rfl)) (ck_13 _ (List.mem_of_getElem? (i := 20) rfl)) (ck_13 _ (List.mem_of_getElem? (i := 21) rfl)) (ck_6 _ (List.mem_of_getElem? (i := 8) rfl)) (ck_13 _ (List.mem_of_getElem? (i := 22) rfl))) rfl rfl rfl (by exact ⟨rfl, hdc_1.1, hdc_1.2, hdd_13⟩) ⟨Nat.le_of_ble_eq_true rfl, Nat.le_of_ble_eq_true rfl⟩) ⟨fun a U g mk q => by obtain ⟨q0, q1, qP, qK, qD⟩ := q; exact ⟨q0, q1, qP, va_K.moved (u := U) (U := U.calling g mk a) (Vm.Alike.refl U.vm) qK, qD⟩, va_recv hKc hPc (ci := 8) (q0 := 0) rfl rfl, fun U hU hW => ⟨rfl, by rw [hU], by rw [hU]; exact hPc, va_K.moved hW.alike hKc, hDc.weaken (fun _ _ _ _ => trivial)⟩⟩ rfl rfl hl.1 rfl (lv_room (Nat.le_of_ble_eq_true rfl)) dX0_clear_19 ⟨Nat.le_of_ble_eq_true rfl, Nat.le_of_ble_eq_true rfl⟩) hS (fun q _ h => hFc q h) hFc (fun u_14 t H1 locs ht hvm hw hB hz1 hk1 hS => ?_)
  try dsimp only at hw
  obtain ⟨hP1, hK1, hD1⟩ := hB
  rw [ht] at hP1
  have hK1 := va_K.moved hvm.symm hK1
  have hK1 : va_K (dC, dI) vwCl [] s := hK1
  obtain ⟨hP, hD⟩ := va_join (wr := [(eO0a bk bto bnm bla bsk bru bbo bdi bda bdk bdt bdp bno), (eO6a bno ns nsa nfa nza), (eA0 bto cTo 5 u_2), (eO9a bsk u_5.1 u_5.2.1 u_5.2.2.1 u_5.2.2.2.1 u_5.2.2.2.2.1 u_5.2.2.2.2.2.1 u_5.2.2.2.2.2.2)]) (w1 := [(eO8a bru rco u_14.1 ren rst u_14.2.1), (eA0 ren cRe 4 u_14.2.2)]) hP hD [1, 2] [0, 3, 4, 5] hCc rfl (by decide) (by decide) hk1 hFc hP1 hD1
  generalize H1 = H at hP hS ⊢
  obtain ⟨hP, hD⟩ := zre [(eO0a bk bto bnm bla bsk bru bbo bdi bda bdk bdt bdp bno), (eO6a bno ns nsa nfa nza), (eA0 bto cTo 5 u_2), (eO9a bsk u_5.1 u_5.2.1 u_5.2.2.1 u_5.2.2.2.1 u_5.2.2.2.2.1 u_5.2.2.2.2.2.1 u_5.2.2.2.2.2.2), (eO8a bru rco u_14.1 ren rst u_14.2.1), (eA0 ren cRe 4 u_14.2.2)] hP hD rfl
  refine W.widen (k := 0) (n := 0) (by omega) (by omega) ?_
  have hq_u_14 : u_14 = (fr_clear fRe) := hw
  refine lv_aload_n hx hb dX0_clear_22 rfl (lv_at hl 0 rfl) ?_
  refine va_get (D := (dC, dI)) (ci := 0) (v := .ref bno) (C := RX0) (T := TX0) (N := 12) hx hb htw inlX0 hown hK hP 0 rfl rfl 11 (by decide) (htw _ (ck_6 _ (List.mem_of_getElem? (i := 17) rfl))) (fun _ h9 => h9) rfl dX0_clear_23 ?_
  refine lv_iconst (v := 0) hx hb dX0_clear_26 (by decide) ?_
  refine va_put (D := (dC, dI)) (ci := 6) (v := .int 0) (ty := tyX6 0) (C := RX6) (T := TX6) (N := 4) hx hb htw inlX6 tyX6 tyX6_ok nmX6 hown hK hP hD hS 1 rfl rfl 0 (by decide) (htw _ (ck_13 _ (List.mem_of_getElem? (i := 14) rfl))) (fun _ h9 => h9) rfl (tyX6_ok 0 (by decide)) rfl rfl (Nat.le_of_ble_eq_true rfl) dX0_clear_27 (fun H locs hP hD hS => ?_)
  obtain ⟨hP, hD⟩ := zre [(eO0a bk bto bnm bla bsk bru bbo bdi bda bdk bdt bdp bno), (eO6a bno 0 nsa nfa nza), (eA0 bto cTo 5 u_2), (eO9a bsk u_5.1 u_5.2.1 u_5.2.2.1 u_5.2.2.2.1 u_5.2.2.2.2.1 u_5.2.2.2.2.2.1 u_5.2.2.2.2.2.2), (eO8a bru rco u_14.1 ren rst u_14.2.1), (eA0 ren cRe 4 u_14.2.2)] hP hD rfl
  refine W.widen (k := 0) (n := 0) (by omega) (by omega) ?_
  obtain ⟨hP9, hD9⟩ := zsub2 (ws' := [(eO0a bk bto bnm bla bsk bru bbo bdi bda bdk bdt bdp bno), (eA0 bto cTo 5 u_2), (eO9a bsk u_5.1 u_5.2.1 u_5.2.2.1 u_5.2.2.2.1 u_5.2.2.2.2.1 u_5.2.2.2.2.2.1 u_5.2.2.2.2.2.2), (eO8a bru rco u_14.1 ren rst u_14.2.1), (eA0 ren cRe 4 u_14.2.2), (eO6a bno 0 nsa nfa nza)]) hP hD [0, 2, 3, 4, 5, 1] (by decide) rfl
  have hK9 := hK.sub (tys' := []) [] rfl
  exact W.vret hx hb hr (fun t ht hW => ⟨⟨(0, u_2, u_5.1, u_5.2.1, u_5.2.2.1, u_5.2.2.2.1, u_5.2.2.2.2.1, u_5.2.2.2.2.2.1, u_5.2.2.2.2.2.2, u_14.1, u_14.2.1, u_14.2.2), rfl, (Eq.symm ((by rw [fb_clear]; (try rw [← hq_u_2]); (try rw [xL_eq]); (try rw [← hq_u_5]); (try rw [xL_eq]); (try rw [← hq_u_14]); (try rw [xL_eq]); try rfl))), by rw [ht]; exact hP9, va_K.moved hW.alike hK9, hD9⟩, hS.F ht⟩) hS.2.2 dX0_clear_30
