theorem gz_readWord_s0 {y0 : Int32} {y1 : Int32} (h0 : (y0 - y1) ≤ 6) (h1 : ¬ (y0 < 0)) : ¬ (y0 < 0) := h1
theorem gz_readWord_s1 {y0 : Int32} {y1 : Int32} (h0 : (y0 - y1) ≤ 6) (h1 : ¬ (y0 < 0)) : ¬ (y0 < 0) := h1
theorem gz_readWord_s2 {y0 : Int32} (h0 : ¬ (23 ≤ y0)) (h1 : ¬ (y0 < 0)) : ¬ (y0 < 0) ∧ ¬ (23 ≤ y0) := ⟨h1, h0⟩
theorem gz_readWord_s3 {y0 : Int32} (h0 : ¬ (23 ≤ y0)) (h1 : ¬ (y0 < 0)) : ¬ ((y0 + 1) < 0) := by lia
theorem gz_readWord_s4 {y0 : Int32} (h0 : ¬ (23 ≤ y0)) (h1 : ¬ (y0 < 0)) : ¬ ((y0 + 1) < 0) := by lia
theorem gz_readWord_s5  : ¬ ((0 : Int32) < 0) := (by decide)
theorem gz_readWord_s6 {y0 : Int32} {y1 : Int32} (h0 : ¬ ((y0 - y1) ≤ 6)) (h1 : ¬ (y0 < 0)) : ¬ (y0 < 0) := h1
theorem gz_readWord_s7 {y0 : Int32} {y1 : Int32} (h0 : y1 ≤ y0) (h1 : ¬ (y0 < 0)) (h2 : y1 ≤ 900) : ¬ (y0 < 0) := h1
theorem gz_readWord_s8 {y0 : Int32} {y1 : Int32} (h0 : y1 ≤ y0) (h1 : ¬ (y0 < 0)) (h2 : y1 ≤ 900) : ¬ (y0 < 0) := h1
theorem gz_readWord_s9 {y0 : Int32} {y1 : Int32} (h0 : ¬ (y1 ≤ y0)) (h1 : ¬ (y0 < 0)) (h2 : y1 ≤ 900) : ¬ (y0 < 0) ∧ ¬ (900 ≤ y0) := by lia
theorem gz_readWord_s10 {y0 : Int32} {y1 : Int32} (h0 : ¬ (y1 ≤ y0)) (h1 : ¬ (y0 < 0)) (h2 : y1 ≤ 900) : ¬ (y0 < 0) := h1
theorem gz_readWord_s11 {y0 : Int32} {y1 : Int32} (h0 : ¬ (y1 ≤ y0)) (h1 : ¬ (y0 < 0)) (h2 : y1 ≤ 900) : ¬ (y0 < 0) ∧ ¬ (900 ≤ y0) := by lia
theorem gz_readWord_s12 {y0 : Int32} {y1 : Int32} (h0 : ¬ (y1 ≤ y0)) (h1 : ¬ (y0 < 0)) (h2 : y1 ≤ 900) : ¬ (y0 < 0) := h1
theorem gz_readWord_s13 {y0 : Int32} {y1 : Int32} {y2 : Int32} (h0 : ¬ (y1 ≤ y0)) (h1 : 6 ≤ (y0 - y2)) (h2 : ¬ (y0 < 0)) (h3 : y1 ≤ 900) : ¬ ((y0 + 1) < 0) := ge_readWord_s10 h0 h1 h2 h3
theorem gz_readWord_s14 {y0 : Int32} {y1 : Int32} {y2 : Int32} (h0 : ¬ (y1 ≤ y0)) (h1 : ¬ (6 ≤ (y0 - y2))) (h2 : ¬ (y0 < 0)) (h3 : y1 ≤ 900) : ¬ (y0 < 0) ∧ ¬ (900 ≤ y0) := ge_readWord_s11 h0 h1 h2 h3
theorem gz_readWord_s15 {y0 : Int32} {y1 : Int32} {y2 : Int32} (h0 : ¬ (y1 ≤ y0)) (h1 : ¬ (6 ≤ (y0 - y2))) (h2 : ¬ (y0 < 0)) (h3 : y1 ≤ 900) : ¬ ((y0 + 1) < 0) := ge_readWord_s12 h0 h1 h2 h3
theorem gz_readWord_s16 {y0 : Int32} (h0 : ¬ (y0 < 0)) : ¬ (y0 < 0) := h0
set_option maxHeartbeats 4000000 in
set_option maxRecDepth 100000 in
theorem gz_readWord (l : Launch) (dC : Nat → ClassId) (dI : Nat → Nat → Nat) (lx : Nat) (lby : Nat) (lfi : Int32) (lco : Nat) (lxe : Int32) (lxa : Int32) (lxt : Int32) (lxp : Int32) (lxn : Int32) (lxl : Int32) (cBy : ClassId) (fBy : Nat → Int32) (cCo : ClassId) (fCo : Nat → Int32) (sz : Nat) (h0_lxa : ¬ lxa < 0) (h9_lxe : lxe ≤ 900) : Met l yX3_readWord (Cond.code yX3_readWord cX3_readWord 3 none :: wsL_law) ({ frames := 0, cells := 0, slots := 0, locals := 0 }) (va_Pc [.ref lx] (fun U => U.heap.size = sz ∧ va_P (dC, dI) vwCl [(eO3a lx lby lfi lco lxe lxa lxt lxp lxn lxl), (eA0 lby cBy 900 fBy), (eA0 lco cCo 23 fCo)] U.heap ∧ va_K (dC, dI) vwCl [(cBy, .byte), (cCo, .int)] U ∧ va_D (fun _ => True) [(eO3a lx lby lfi lco lxe lxa lxt lxp lxn lxl), (eA0 lby cBy 900 fBy), (eA0 lco cCo 23 fCo)])) (va_Qv (fun (u : (Int32) × (Int32) × (Int32)) => (u = fe_readWord lxe lxa lxp lxl fBy fCo) ∧ (¬ u.2.1 < 0)) (fun (u : (Int32) × (Int32) × (Int32)) t => va_P (dC, dI) vwCl [(eO3a lx lby lfi lco lxe u.2.1 u.1 lxp lxn u.2.2), (eA0 lby cBy 900 fBy), (eA0 lco cCo 23 fCo)] t.heap ∧ va_K (dC, dI) vwCl [] t ∧ va_D (va_A [(eO3a lx lby lfi lco lxe lxa lxt lxp lxn lxl), (eA0 lby cBy 900 fBy), (eA0 lco cCo 23 fCo)] sz) [(eO3a lx lby lfi lco lxe u.2.1 u.1 lxp lxn u.2.2), (eA0 lby cBy 900 fBy), (eA0 lco cCo 23 fCo)]) (va_A [(eO3a lx lby lfi lco lxe lxa lxt lxp lxn lxl), (eA0 lby cBy 900 fBy), (eA0 lco cCo 23 fCo)] sz)) 0 0 (va_A [(eO3a lx lby lfi lco lxe lxa lxt lxp lxn lxl), (eA0 lby cBy 900 fBy), (eA0 lco cCo 23 fCo)] sz) := by
  refine Met.ofW (cc := cX3_readWord) (maxL := 3) (ret := none) (by decide) rfl ?_
  intro p e s m args below meth c s₁ B hml hv
  obtain ⟨rfl, hsz, hP, hK, hD0⟩ := hv
  have hx := B.exec
  have hb := B.bytes
  have hr := B.returns
  have hts := atoms_spec (ws := Cond.code yX3_readWord cX3_readWord 3 none :: wsL_law) B.pre
  have htw : ∀ w ∈ wsL_law, w.before _ s = true := fun w h => hts w (List.mem_cons_of_mem _ h)
  have hown : s.vm.findClass RX3 = some m.cls := findClass_of_methodNamed B.named
  have hlocks := B.notSynchronized
  subst hsz
  have hD := hD0.self (sz := s.heap.size)
  generalize hAe : va_A [(eO3a lx lby lfi lco lxe lxa lxt lxp lxn lxl), (eA0 lby cBy 900 fBy), (eA0 lco cCo 23 fCo)] s.heap.size = A at hD ⊢
  have hA : ∀ q : Nat, s.heap.size ≤ q → A q := fun q h => by rw [← hAe]; exact Or.inr h
  obtain ⟨H, rH⟩ : ∃ z : Heap, z = s.heap := ⟨_, rfl⟩
  have hS : va_S A s.heap H [] := by rw [rH]; exact va_S.rf
  have hP : va_P (dC, dI) vwCl [(eO3a lx lby lfi lco lxe lxa lxt lxp lxn lxl), (eA0 lby cBy 900 fBy), (eA0 lco cCo 23 fCo)] H := by rw [rH]; exact hP
  rw [← rH]
  have hl := lv_entry ([.ref lx]) (n := 3) (Nat.le_of_ble_eq_true rfl)
  rw [lg_entry_eq]
  generalize (lg_sl ([.ref lx]) ++ List.replicate (3 - (lg_sl ([.ref lx])).length) Slot.unset).toArray = ls at hl ⊢
  have hl : lv_has ls 3 [(0, .ref lx)] := hl
  refine lv_iconst (v := 0) hx hb dX3_readWord_0 (by decide) ?_
  refine lv_istore_n (lv' := [(1, .int 0), (0, .ref lx)]) hx hb dX3_readWord_1 rfl hl (by decide) rfl (fun ls hl => ?_)
  obtain ⟨X_1, hX_1⟩ : ∃ X9 : (Int32) × (Int32), X9 = fe_readWord_c lxe lxp fBy 900 (0 : Int32) lxa := ⟨_, rfl⟩
  have hexit_2 : ∀ (L1cx : Int32) (lxa_cx : Int32) (hx0 : ¬ lxa_cx < 0) (hE9 : X_1 = (L1cx, lxa_cx)) (H : Heap) (locs : List Loc) (ls : Array Slot) (hP : va_P (dC, dI) vwCl [(eO3a lx lby lfi lco lxe lxa_cx lxt lxp lxn lxl), (eA0 lby cBy 900 fBy), (eA0 lco cCo 23 fCo)] H) (hD : va_D A [(eO3a lx lby lfi lco lxe lxa_cx lxt lxp lxn lxl), (eA0 lby cBy 900 fBy), (eA0 lco cCo 23 fCo)]) (hS : va_S A s.heap H locs) (hl : lv_has ls 3 [(1, .int L1cx), (0, .ref lx)]), W p l e (headSpec (Cond.code yX3_readWord cX3_readWord 3 none :: wsL_law) ({ frames := 0, cells := 0, slots := 0, locals := 0 })).room s m ([.ref lx] : List Value).toArray below meth c H locs 0 0 (MQ below (va_Qv (fun (u : (Int32) × (Int32) × (Int32)) => (u = fe_readWord lxe lxa lxp lxl fBy fCo) ∧ (¬ u.2.1 < 0)) (fun (u : (Int32) × (Int32) × (Int32)) t => va_P (dC, dI) vwCl [(eO3a lx lby lfi lco lxe u.2.1 u.1 lxp lxn u.2.2), (eA0 lby cBy 900 fBy), (eA0 lco cCo 23 fCo)] t.heap ∧ va_K (dC, dI) vwCl [] t ∧ va_D A [(eO3a lx lby lfi lco lxe u.2.1 u.1 lxp lxn u.2.2), (eA0 lby cBy 900 fBy), (eA0 lco cCo 23 fCo)]) A) ([.ref lx] : List Value).toArray s 0 0 A) (F0 m 87 ls []) := by
    intro L1cx lxa_cx hx0 hE9 H locs ls hP hD hS hl
    have hq_L1cx : L1cx = X_1.1 := by rw [hE9]
    have hq_lxa_cx : lxa_cx = X_1.2 := by rw [hE9]
    refine lv_aload_n hx hb dX3_readWord_87 rfl (lv_at hl 1 rfl) ?_
    refine va_get (D := (dC, dI)) (ci := 3) (v := .int lxa_cx) (C := RX3) (T := TX3) (N := 9) hx hb htw inlX3 hown hK hP 0 rfl rfl 4 (by decide) (htw _ (ck_14 _ (List.mem_of_getElem? (i := 11) rfl))) (fun _ h9 => h9) rfl dX3_readWord_88 ?_
    refine lv_aload_n hx hb dX3_readWord_91 rfl (lv_at hl 1 rfl) ?_
    refine va_get (D := (dC, dI)) (ci := 3) (v := .int lxp) (C := RX3) (T := TX3) (N := 9) hx hb htw inlX3 hown hK hP 0 rfl rfl 6 (by decide) (htw _ (ck_14 _ (List.mem_of_getElem? (i := 16) rfl))) (fun _ h9 => h9) rfl dX3_readWord_92 ?_
    refine lv_isub hx hb dX3_readWord_95 ?_
    refine lv_bipush (v := 6) hx hb dX3_readWord_96 (by decide) ?_
    refine lv_icmp_le (tgt := 108) hx hb dX3_readWord_98 (by decide) (fun c_3 => ?_) (fun c_3 => ?_)
    · refine lv_aload_n hx hb dX3_readWord_108 rfl (lv_at hl 1 rfl) ?_
      refine lv_iload_n hx hb dX3_readWord_109 rfl (lv_at hl 0 rfl) ?_
      refine lv_iconst (v := 5) hx hb dX3_readWord_110 (by decide) ?_
      refine lv_bipush (v := 6) hx hb dX3_readWord_111 (by decide) ?_
      refine lv_aload_n hx hb dX3_readWord_113 rfl (lv_at hl 1 rfl) ?_
      refine va_get (D := (dC, dI)) (ci := 3) (v := .int lxa_cx) (C := RX3) (T := TX3) (N := 9) hx hb htw inlX3 hown hK hP 0 rfl rfl 4 (by decide) (htw _ (ck_14 _ (List.mem_of_getElem? (i := 11) rfl))) (fun _ h9 => h9) rfl dX3_readWord_114 ?_
      refine lv_aload_n hx hb dX3_readWord_117 rfl (lv_at hl 1 rfl) ?_
      refine va_get (D := (dC, dI)) (ci := 3) (v := .int lxp) (C := RX3) (T := TX3) (N := 9) hx hb htw inlX3 hown hK hP 0 rfl rfl 6 (by decide) (htw _ (ck_14 _ (List.mem_of_getElem? (i := 16) rfl))) (fun _ h9 => h9) rfl dX3_readWord_118 ?_
      refine lv_isub hx hb dX3_readWord_121 ?_
      refine lv_isub hx hb dX3_readWord_122 ?_
      refine lv_imul hx hb dX3_readWord_123 ?_
      refine lv_ishl hx hb dX3_readWord_124 ?_
      refine va_put (D := (dC, dI)) (ci := 3) (v := .int (L1cx <<< ((5 * (6 - (lxa_cx - lxp))) &&& 31))) (ty := tyX3 8) (C := RX3) (T := TX3) (N := 9) hx hb htw inlX3 tyX3 tyX3_ok nmX3 hown hK hP hD hS 0 rfl rfl 8 (by decide) (htw _ (ck_14 _ (List.mem_of_getElem? (i := 22) rfl))) (fun _ h9 => h9) rfl (tyX3_ok 8 (by decide)) rfl rfl (Nat.le_of_ble_eq_true rfl) dX3_readWord_125 (fun H locs hP hD hS => ?_)
      obtain ⟨hP, hD⟩ := zre [(eO3a lx lby lfi lco lxe lxa_cx lxt lxp lxn (L1cx <<< ((5 * (6 - (lxa_cx - lxp))) &&& 31))), (eA0 lby cBy 900 fBy), (eA0 lco cCo 23 fCo)] hP hD rfl
      refine lv_aload_n hx hb dX3_readWord_128 rfl (lv_at hl 1 rfl) ?_
      refine lv_bipush (v := 23) hx hb dX3_readWord_129 (by decide) ?_
      refine va_put (D := (dC, dI)) (ci := 3) (v := .int 23) (ty := tyX3 5) (C := RX3) (T := TX3) (N := 9) hx hb htw inlX3 tyX3 tyX3_ok nmX3 hown hK hP hD hS 0 rfl rfl 5 (by decide) (htw _ (ck_14 _ (List.mem_of_getElem? (i := 17) rfl))) (fun _ h9 => h9) rfl (tyX3_ok 5 (by decide)) rfl rfl (Nat.le_of_ble_eq_true rfl) dX3_readWord_131 (fun H locs hP hD hS => ?_)
      obtain ⟨hP, hD⟩ := zre [(eO3a lx lby lfi lco lxe lxa_cx 23 lxp lxn (L1cx <<< ((5 * (6 - (lxa_cx - lxp))) &&& 31))), (eA0 lby cBy 900 fBy), (eA0 lco cCo 23 fCo)] hP hD rfl
      refine lv_iconst (v := 0) hx hb dX3_readWord_134 (by decide) ?_
      refine lv_istore_n (lv' := [(2, .int 0), (1, .int L1cx), (0, .ref lx)]) hx hb dX3_readWord_135 rfl hl (by decide) rfl (fun ls hl => ?_)
      have hloop_4 : ∀ (n : Nat) (L2d : Int32) (lxt_d : Int32) (h0_d : ¬ L2d < 0) (hf_d : (23 : Int32).toInt ≤ L2d.toInt + (n : Int)) (hI_d : fe_readWord lxe lxa lxp lxl fBy fCo = fe_readWord_d lxp fCo L1cx lxa_cx n L2d lxt_d) (H : Heap) (locs : List Loc) (ls : Array Slot) (hP : va_P (dC, dI) vwCl [(eO3a lx lby lfi lco lxe lxa_cx lxt_d lxp lxn (L1cx <<< ((5 * (6 - (lxa_cx - lxp))) &&& 31))), (eA0 lby cBy 900 fBy), (eA0 lco cCo 23 fCo)] H) (hD : va_D A [(eO3a lx lby lfi lco lxe lxa_cx lxt_d lxp lxn (L1cx <<< ((5 * (6 - (lxa_cx - lxp))) &&& 31))), (eA0 lby cBy 900 fBy), (eA0 lco cCo 23 fCo)]) (hS : va_S A s.heap H locs) (hl : lv_has ls 3 [(2, .int L2d), (1, .int L1cx), (0, .ref lx)]), W p l e (headSpec (Cond.code yX3_readWord cX3_readWord 3 none :: wsL_law) ({ frames := 0, cells := 0, slots := 0, locals := 0 })).room s m ([.ref lx] : List Value).toArray below meth c H locs 0 0 (MQ below (va_Qv (fun (u : (Int32) × (Int32) × (Int32)) => (u = fe_readWord lxe lxa lxp lxl fBy fCo) ∧ (¬ u.2.1 < 0)) (fun (u : (Int32) × (Int32) × (Int32)) t => va_P (dC, dI) vwCl [(eO3a lx lby lfi lco lxe u.2.1 u.1 lxp lxn u.2.2), (eA0 lby cBy 900 fBy), (eA0 lco cCo 23 fCo)] t.heap ∧ va_K (dC, dI) vwCl [] t ∧ va_D A [(eO3a lx lby lfi lco lxe u.2.1 u.1 lxp lxn u.2.2), (eA0 lby cBy 900 fBy), (eA0 lco cCo 23 fCo)]) A) ([.ref lx] : List Value).toArray s 0 0 A) (F0 m 136 ls []) := by
        intro n
        induction n with
        | zero =>
          intro L2d lxt_d h0_d hf_d hI_d H locs ls hP hD hS hl
          refine lv_iload_n hx hb dX3_readWord_136 rfl (lv_at hl 0 rfl) ?_
          refine lv_aload_n hx hb dX3_readWord_137 rfl (lv_at hl 2 rfl) ?_
          refine va_get (D := (dC, dI)) (ci := 3) (v := .ref lco) (C := RX3) (T := TX3) (N := 9) hx hb htw inlX3 hown hK hP 0 rfl rfl 2 (by decide) (htw _ (ck_3 _ (List.mem_of_getElem? (i := 15) rfl))) (fun _ h9 => h9) rfl dX3_readWord_138 ?_
          refine va_alen hx hb hK hP 2 1 rfl rfl (v := 23) rfl dX3_readWord_141 ?_
          refine lv_icmp_ge (tgt := 169) hx hb dX3_readWord_142 (by decide) (fun c_5 => ?_) (fun c_5 => absurd c_5 (fun h => h (xi_z hf_d)))
          refine W.widen (k := 0) (n := 0) (by omega) (by omega) ?_
          obtain ⟨hP9, hD9⟩ := zsub2 (ws' := [(eO3a lx lby lfi lco lxe lxa_cx lxt_d lxp lxn (L1cx <<< ((5 * (6 - (lxa_cx - lxp))) &&& 31))), (eA0 lby cBy 900 fBy), (eA0 lco cCo 23 fCo)]) hP hD [0, 1, 2] (by decide) rfl
          have hK9 := hK.sub (tys' := []) [] rfl
          exact W.vret hx hb hr (fun t ht hW => ⟨⟨(lxt_d, lxa_cx, (L1cx <<< ((5 * (6 - (lxa_cx - lxp))) &&& 31))), rfl, ⟨(Eq.symm (hI_d.trans (by rw [fe_readWord_d]; try rfl))), (gz_readWord_s0 (y0 := lxa_cx) (y1 := lxp) c_3 hx0)⟩, by rw [ht]; exact hP9, va_K.moved hW.alike hK9, hD9⟩, hS.F ht⟩) hS.2.2 dX3_readWord_169
        | succ n ih =>
          intro L2d lxt_d h0_d hf_d hI_d H locs ls hP hD hS hl
          refine lv_iload_n hx hb dX3_readWord_136 rfl (lv_at hl 0 rfl) ?_
          refine lv_aload_n hx hb dX3_readWord_137 rfl (lv_at hl 2 rfl) ?_
          refine va_get (D := (dC, dI)) (ci := 3) (v := .ref lco) (C := RX3) (T := TX3) (N := 9) hx hb htw inlX3 hown hK hP 0 rfl rfl 2 (by decide) (htw _ (ck_3 _ (List.mem_of_getElem? (i := 15) rfl))) (fun _ h9 => h9) rfl dX3_readWord_138 ?_
          refine va_alen hx hb hK hP 2 1 rfl rfl (v := 23) rfl dX3_readWord_141 ?_
          refine lv_icmp_ge (tgt := 169) hx hb dX3_readWord_142 (by decide) (fun c_6 => ?_) (fun c_6 => ?_)
          · refine W.widen (k := 0) (n := 0) (by omega) (by omega) ?_
            obtain ⟨hP9, hD9⟩ := zsub2 (ws' := [(eO3a lx lby lfi lco lxe lxa_cx lxt_d lxp lxn (L1cx <<< ((5 * (6 - (lxa_cx - lxp))) &&& 31))), (eA0 lby cBy 900 fBy), (eA0 lco cCo 23 fCo)]) hP hD [0, 1, 2] (by decide) rfl
            have hK9 := hK.sub (tys' := []) [] rfl
            exact W.vret hx hb hr (fun t ht hW => ⟨⟨(lxt_d, lxa_cx, (L1cx <<< ((5 * (6 - (lxa_cx - lxp))) &&& 31))), rfl, ⟨(Eq.symm (hI_d.trans (by rw [fe_readWord_d]; (try rw [if_pos c_6]); try rfl))), (gz_readWord_s1 (y0 := lxa_cx) (y1 := lxp) c_3 hx0)⟩, by rw [ht]; exact hP9, va_K.moved hW.alike hK9, hD9⟩, hS.F ht⟩) hS.2.2 dX3_readWord_169
          · refine lv_aload_n hx hb dX3_readWord_145 rfl (lv_at hl 2 rfl) ?_
            refine va_get (D := (dC, dI)) (ci := 3) (v := .ref lco) (C := RX3) (T := TX3) (N := 9) hx hb htw inlX3 hown hK hP 0 rfl rfl 2 (by decide) (htw _ (ck_3 _ (List.mem_of_getElem? (i := 15) rfl))) (fun _ h9 => h9) rfl dX3_readWord_146 ?_
            refine lv_iload_n hx hb dX3_readWord_149 rfl (lv_at hl 0 rfl) ?_
            refine va_iald hx hb hK hP 2 1 rfl rfl (xg_inr (N := 23) rfl (gz_readWord_s2 (y0 := L2d) c_6 h0_d).1 (gz_readWord_s2 (y0 := L2d) c_6 h0_d).2) dX3_readWord_150 ?_
            refine lv_aload_n hx hb dX3_readWord_151 rfl (lv_at hl 2 rfl) ?_
            refine va_get (D := (dC, dI)) (ci := 3) (v := .int (L1cx <<< ((5 * (6 - (lxa_cx - lxp))) &&& 31))) (C := RX3) (T := TX3) (N := 9) hx hb htw inlX3 hown hK hP 0 rfl rfl 8 (by decide) (htw _ (ck_14 _ (List.mem_of_getElem? (i := 22) rfl))) (fun _ h9 => h9) rfl dX3_readWord_152 ?_
            refine lv_icmp_ne (tgt := 163) hx hb dX3_readWord_155 (by decide) (fun c_7 => ?_) (fun c_7 => ?_)
            · refine lv_iinc (v := (L2d + 1)) (lv' := [(2, .int (L2d + 1)), (1, .int L1cx), (0, .ref lx)]) hx hb dX3_readWord_163 hl (k := 0) rfl (rfl) (by decide) rfl (fun ls hl => ?_)
              refine lv_goto (tgt := 136) hx hb dX3_readWord_166 (by decide) ?_
              exact ih (L2d + 1) lxt_d (gz_readWord_s3 (y0 := L2d) c_6 h0_d) (by rw [xi_s' c_6]; omega) (hI_d.trans (by rw [fe_readWord_d]; (try rw [if_neg c_6]); (try rw [if_neg c_7]); try rfl)) H locs ls hP hD hS (lv_sub hl [0, 1, 2] rfl)
            · refine lv_aload_n hx hb dX3_readWord_158 rfl (lv_at hl 2 rfl) ?_
              refine lv_iload_n hx hb dX3_readWord_159 rfl (lv_at hl 0 rfl) ?_
              refine va_put (D := (dC, dI)) (ci := 3) (v := .int L2d) (ty := tyX3 5) (C := RX3) (T := TX3) (N := 9) hx hb htw inlX3 tyX3 tyX3_ok nmX3 hown hK hP hD hS 0 rfl rfl 5 (by decide) (htw _ (ck_14 _ (List.mem_of_getElem? (i := 17) rfl))) (fun _ h9 => h9) rfl (tyX3_ok 5 (by decide)) rfl rfl (Nat.le_of_ble_eq_true rfl) dX3_readWord_160 (fun H locs hP hD hS => ?_)
              obtain ⟨hP, hD⟩ := zre [(eO3a lx lby lfi lco lxe lxa_cx L2d lxp lxn (L1cx <<< ((5 * (6 - (lxa_cx - lxp))) &&& 31))), (eA0 lby cBy 900 fBy), (eA0 lco cCo 23 fCo)] hP hD rfl
              refine lv_iinc (v := (L2d + 1)) (lv' := [(2, .int (L2d + 1)), (1, .int L1cx), (0, .ref lx)]) hx hb dX3_readWord_163 hl (k := 0) rfl (rfl) (by decide) rfl (fun ls hl => ?_)
              refine lv_goto (tgt := 136) hx hb dX3_readWord_166 (by decide) ?_
              exact ih (L2d + 1) L2d (gz_readWord_s4 (y0 := L2d) c_6 h0_d) (by rw [xi_s' c_6]; omega) (hI_d.trans (by rw [fe_readWord_d]; (try rw [if_neg c_6]); (try rw [if_pos c_7]); try rfl)) H locs ls hP hD hS (lv_sub hl [0, 1, 2] rfl)
      exact hloop_4 23 (0 : Int32) (23 : Int32) (gz_readWord_s5 ) (by decide) ((by rw [fe_readWord]; (try rw [← hX_1]); (try rw [xL_eq]); (try rw [← hq_L1cx]); (try rw [← hq_lxa_cx]); (try rw [if_pos c_3]); try rfl)) _ _ ls hP hD hS (lv_sub hl [0, 1, 2] rfl)
    · refine lv_aload_n hx hb dX3_readWord_101 rfl (lv_at hl 1 rfl) ?_
      refine lv_bipush (v := 39) hx hb dX3_readWord_102 (by decide) ?_
      refine va_put (D := (dC, dI)) (ci := 3) (v := .int 39) (ty := tyX3 5) (C := RX3) (T := TX3) (N := 9) hx hb htw inlX3 tyX3 tyX3_ok nmX3 hown hK hP hD hS 0 rfl rfl 5 (by decide) (htw _ (ck_14 _ (List.mem_of_getElem? (i := 17) rfl))) (fun _ h9 => h9) rfl (tyX3_ok 5 (by decide)) rfl rfl (Nat.le_of_ble_eq_true rfl) dX3_readWord_104 (fun H locs hP hD hS => ?_)
      obtain ⟨hP, hD⟩ := zre [(eO3a lx lby lfi lco lxe lxa_cx 39 lxp lxn lxl), (eA0 lby cBy 900 fBy), (eA0 lco cCo 23 fCo)] hP hD rfl
      refine W.widen (k := 0) (n := 0) (by omega) (by omega) ?_
      have hP9 := hP
      have hD9 := hD
      have hK9 := hK.sub (tys' := []) [] rfl
      exact W.vret hx hb hr (fun t ht hW => ⟨⟨(39, lxa_cx, lxl), rfl, ⟨(Eq.symm ((by rw [fe_readWord]; (try rw [← hX_1]); (try rw [xL_eq]); (try rw [← hq_L1cx]); (try rw [← hq_lxa_cx]); (try rw [if_neg c_3]); try rfl))), (gz_readWord_s6 (y0 := lxa_cx) (y1 := lxp) c_3 hx0)⟩, by rw [ht]; exact hP9, va_K.moved hW.alike hK9, hD9⟩, hS.F ht⟩) hS.2.2 dX3_readWord_107
  have hloop_8 : ∀ (n : Nat) (L1c : Int32) (lxa_c : Int32) (ha0 : ¬ lxa_c < 0) (hfu : lxe.toInt ≤ lxa_c.toInt + (n : Int)) (hI_c : X_1 = fe_readWord_c lxe lxp fBy n L1c lxa_c) (H : Heap) (locs : List Loc) (ls : Array Slot) (hP : va_P (dC, dI) vwCl [(eO3a lx lby lfi lco lxe lxa_c lxt lxp lxn lxl), (eA0 lby cBy 900 fBy), (eA0 lco cCo 23 fCo)] H) (hD : va_D A [(eO3a lx lby lfi lco lxe lxa_c lxt lxp lxn lxl), (eA0 lby cBy 900 fBy), (eA0 lco cCo 23 fCo)]) (hS : va_S A s.heap H locs) (hl : lv_has ls 3 [(1, .int L1c), (0, .ref lx)]), W p l e (headSpec (Cond.code yX3_readWord cX3_readWord 3 none :: wsL_law) ({ frames := 0, cells := 0, slots := 0, locals := 0 })).room s m ([.ref lx] : List Value).toArray below meth c H locs 0 0 (MQ below (va_Qv (fun (u : (Int32) × (Int32) × (Int32)) => (u = fe_readWord lxe lxa lxp lxl fBy fCo) ∧ (¬ u.2.1 < 0)) (fun (u : (Int32) × (Int32) × (Int32)) t => va_P (dC, dI) vwCl [(eO3a lx lby lfi lco lxe u.2.1 u.1 lxp lxn u.2.2), (eA0 lby cBy 900 fBy), (eA0 lco cCo 23 fCo)] t.heap ∧ va_K (dC, dI) vwCl [] t ∧ va_D A [(eO3a lx lby lfi lco lxe u.2.1 u.1 lxp lxn u.2.2), (eA0 lby cBy 900 fBy), (eA0 lco cCo 23 fCo)]) A) ([.ref lx] : List Value).toArray s 0 0 A) (F0 m 2 ls []) := by
    intro n
    induction n with
    | zero =>
      intro L1c lxa_c ha0 hfu hI_c H locs ls hP hD hS hl
      refine lv_aload_n hx hb dX3_readWord_2 rfl (lv_at hl 1 rfl) ?_
      refine va_get (D := (dC, dI)) (ci := 3) (v := .int lxa_c) (C := RX3) (T := TX3) (N := 9) hx hb htw inlX3 hown hK hP 0 rfl rfl 4 (by decide) (htw _ (ck_14 _ (List.mem_of_getElem? (i := 11) rfl))) (fun _ h9 => h9) rfl dX3_readWord_3 ?_
      refine lv_aload_n hx hb dX3_readWord_6 rfl (lv_at hl 1 rfl) ?_
      refine va_get (D := (dC, dI)) (ci := 3) (v := .int lxe) (C := RX3) (T := TX3) (N := 9) hx hb htw inlX3 hown hK hP 0 rfl rfl 3 (by decide) (htw _ (ck_14 _ (List.mem_of_getElem? (i := 10) rfl))) (fun _ h9 => h9) rfl dX3_readWord_7 ?_
      refine lv_icmp_ge (tgt := 87) hx hb dX3_readWord_10 (by decide) (fun c_9 => ?_) (fun c_9 => absurd c_9 (fun h => h (xi_z hfu)))
      exact hexit_2 L1c lxa_c (gz_readWord_s7 (y0 := lxa_c) (y1 := lxe) c_9 ha0 h9_lxe) (hI_c.trans (by rw [fe_readWord_c]; try rfl)) _ _ ls hP hD hS (lv_sub hl [0, 1] rfl)
    | succ n ih =>
      intro L1c lxa_c ha0 hfu hI_c H locs ls hP hD hS hl
      refine lv_aload_n hx hb dX3_readWord_2 rfl (lv_at hl 1 rfl) ?_
      refine va_get (D := (dC, dI)) (ci := 3) (v := .int lxa_c) (C := RX3) (T := TX3) (N := 9) hx hb htw inlX3 hown hK hP 0 rfl rfl 4 (by decide) (htw _ (ck_14 _ (List.mem_of_getElem? (i := 11) rfl))) (fun _ h9 => h9) rfl dX3_readWord_3 ?_
      refine lv_aload_n hx hb dX3_readWord_6 rfl (lv_at hl 1 rfl) ?_
      refine va_get (D := (dC, dI)) (ci := 3) (v := .int lxe) (C := RX3) (T := TX3) (N := 9) hx hb htw inlX3 hown hK hP 0 rfl rfl 3 (by decide) (htw _ (ck_14 _ (List.mem_of_getElem? (i := 10) rfl))) (fun _ h9 => h9) rfl dX3_readWord_7 ?_
      refine lv_icmp_ge (tgt := 87) hx hb dX3_readWord_10 (by decide) (fun c_10 => ?_) (fun c_10 => ?_)
      · exact hexit_2 L1c lxa_c (gz_readWord_s8 (y0 := lxa_c) (y1 := lxe) c_10 ha0 h9_lxe) (hI_c.trans (by rw [fe_readWord_c]; (try rw [if_pos c_10]); try rfl)) _ _ ls hP hD hS (lv_sub hl [0, 1] rfl)
      · refine lv_aload_n hx hb dX3_readWord_13 rfl (lv_at hl 1 rfl) ?_
        refine va_get (D := (dC, dI)) (ci := 3) (v := .ref lby) (C := RX3) (T := TX3) (N := 9) hx hb htw inlX3 hown hK hP 0 rfl rfl 0 (by decide) (htw _ (ck_3 _ (List.mem_of_getElem? (i := 14) rfl))) (fun _ h9 => h9) rfl dX3_readWord_14 ?_
        refine lv_aload_n hx hb dX3_readWord_17 rfl (lv_at hl 1 rfl) ?_
        refine va_get (D := (dC, dI)) (ci := 3) (v := .int lxa_c) (C := RX3) (T := TX3) (N := 9) hx hb htw inlX3 hown hK hP 0 rfl rfl 4 (by decide) (htw _ (ck_14 _ (List.mem_of_getElem? (i := 11) rfl))) (fun _ h9 => h9) rfl dX3_readWord_18 ?_
        refine va_bald hx hb hK hP 1 0 rfl rfl (xg_inr (N := 900) rfl (gz_readWord_s9 (y0 := lxa_c) (y1 := lxe) c_10 ha0 h9_lxe).1 (gz_readWord_s9 (y0 := lxa_c) (y1 := lxe) c_10 ha0 h9_lxe).2) dX3_readWord_21 ?_
        refine lv_bipush (v := 97) hx hb dX3_readWord_22 (by decide) ?_
        refine lv_icmp_lt (tgt := 87) hx hb dX3_readWord_24 (by decide) (fun c_11 => ?_) (fun c_11 => ?_)
        · exact hexit_2 L1c lxa_c (gz_readWord_s10 (y0 := lxa_c) (y1 := lxe) c_10 ha0 h9_lxe) (hI_c.trans (by rw [fe_readWord_c]; (try rw [if_neg c_10]); (try rw [if_pos c_11]); try rfl)) _ _ ls hP hD hS (lv_sub hl [0, 1] rfl)
        · refine lv_aload_n hx hb dX3_readWord_27 rfl (lv_at hl 1 rfl) ?_
          refine va_get (D := (dC, dI)) (ci := 3) (v := .ref lby) (C := RX3) (T := TX3) (N := 9) hx hb htw inlX3 hown hK hP 0 rfl rfl 0 (by decide) (htw _ (ck_3 _ (List.mem_of_getElem? (i := 14) rfl))) (fun _ h9 => h9) rfl dX3_readWord_28 ?_
          refine lv_aload_n hx hb dX3_readWord_31 rfl (lv_at hl 1 rfl) ?_
          refine va_get (D := (dC, dI)) (ci := 3) (v := .int lxa_c) (C := RX3) (T := TX3) (N := 9) hx hb htw inlX3 hown hK hP 0 rfl rfl 4 (by decide) (htw _ (ck_14 _ (List.mem_of_getElem? (i := 11) rfl))) (fun _ h9 => h9) rfl dX3_readWord_32 ?_
          refine va_bald hx hb hK hP 1 0 rfl rfl (xg_inr (N := 900) rfl (gz_readWord_s11 (y0 := lxa_c) (y1 := lxe) c_10 ha0 h9_lxe).1 (gz_readWord_s11 (y0 := lxa_c) (y1 := lxe) c_10 ha0 h9_lxe).2) dX3_readWord_35 ?_
          refine lv_bipush (v := 122) hx hb dX3_readWord_36 (by decide) ?_
          refine lv_icmp_gt (tgt := 87) hx hb dX3_readWord_38 (by decide) (fun c_12 => ?_) (fun c_12 => ?_)
          · exact hexit_2 L1c lxa_c (gz_readWord_s12 (y0 := lxa_c) (y1 := lxe) c_10 ha0 h9_lxe) (hI_c.trans (by rw [fe_readWord_c]; (try rw [if_neg c_10]); (try rw [if_neg c_11]); (try rw [if_pos c_12]); try rfl)) _ _ ls hP hD hS (lv_sub hl [0, 1] rfl)
          · refine lv_aload_n hx hb dX3_readWord_41 rfl (lv_at hl 1 rfl) ?_
            refine va_get (D := (dC, dI)) (ci := 3) (v := .int lxa_c) (C := RX3) (T := TX3) (N := 9) hx hb htw inlX3 hown hK hP 0 rfl rfl 4 (by decide) (htw _ (ck_14 _ (List.mem_of_getElem? (i := 11) rfl))) (fun _ h9 => h9) rfl dX3_readWord_42 ?_
            refine lv_aload_n hx hb dX3_readWord_45 rfl (lv_at hl 1 rfl) ?_
            refine va_get (D := (dC, dI)) (ci := 3) (v := .int lxp) (C := RX3) (T := TX3) (N := 9) hx hb htw inlX3 hown hK hP 0 rfl rfl 6 (by decide) (htw _ (ck_14 _ (List.mem_of_getElem? (i := 16) rfl))) (fun _ h9 => h9) rfl dX3_readWord_46 ?_
            refine lv_isub hx hb dX3_readWord_49 ?_
            refine lv_bipush (v := 6) hx hb dX3_readWord_50 (by decide) ?_
            refine lv_icmp_ge (tgt := 74) hx hb dX3_readWord_52 (by decide) (fun c_13 => ?_) (fun c_13 => ?_)
            · refine lv_aload_n hx hb dX3_readWord_74 rfl (lv_at hl 1 rfl) ?_
              refine lv_dup hx hb dX3_readWord_75 rfl ?_
              refine va_get (D := (dC, dI)) (ci := 3) (v := .int lxa_c) (C := RX3) (T := TX3) (N := 9) hx hb htw inlX3 hown hK hP 0 rfl rfl 4 (by decide) (htw _ (ck_14 _ (List.mem_of_getElem? (i := 11) rfl))) (fun _ h9 => h9) rfl dX3_readWord_76 ?_
              refine lv_iconst (v := 1) hx hb dX3_readWord_79 (by decide) ?_
              refine lv_iadd hx hb dX3_readWord_80 ?_
              refine va_put (D := (dC, dI)) (ci := 3) (v := .int (lxa_c + 1)) (ty := tyX3 4) (C := RX3) (T := TX3) (N := 9) hx hb htw inlX3 tyX3 tyX3_ok nmX3 hown hK hP hD hS 0 rfl rfl 4 (by decide) (htw _ (ck_14 _ (List.mem_of_getElem? (i := 11) rfl))) (fun _ h9 => h9) rfl (tyX3_ok 4 (by decide)) rfl rfl (Nat.le_of_ble_eq_true rfl) dX3_readWord_81 (fun H locs hP hD hS => ?_)
              obtain ⟨hP, hD⟩ := zre [(eO3a lx lby lfi lco lxe (lxa_c + 1) lxt lxp lxn lxl), (eA0 lby cBy 900 fBy), (eA0 lco cCo 23 fCo)] hP hD rfl
              refine lv_goto (tgt := 2) hx hb dX3_readWord_84 (by decide) ?_
              exact ih L1c (lxa_c + 1) (gz_readWord_s13 (y0 := lxa_c) (y1 := lxe) (y2 := lxp) c_10 c_13 ha0 h9_lxe) (by rw [xi_s' c_10]; omega) (hI_c.trans (by rw [fe_readWord_c]; (try rw [if_neg c_10]); (try rw [if_neg c_11]); (try rw [if_neg c_12]); (try rw [if_pos c_13]); try rfl)) H locs ls hP hD hS (lv_sub hl [0, 1] rfl)
            · refine lv_iload_n hx hb dX3_readWord_55 rfl (lv_at hl 0 rfl) ?_
              refine lv_iconst (v := 5) hx hb dX3_readWord_56 (by decide) ?_
              refine lv_ishl hx hb dX3_readWord_57 ?_
              refine lv_aload_n hx hb dX3_readWord_58 rfl (lv_at hl 1 rfl) ?_
              refine va_get (D := (dC, dI)) (ci := 3) (v := .ref lby) (C := RX3) (T := TX3) (N := 9) hx hb htw inlX3 hown hK hP 0 rfl rfl 0 (by decide) (htw _ (ck_3 _ (List.mem_of_getElem? (i := 14) rfl))) (fun _ h9 => h9) rfl dX3_readWord_59 ?_
              refine lv_aload_n hx hb dX3_readWord_62 rfl (lv_at hl 1 rfl) ?_
              refine va_get (D := (dC, dI)) (ci := 3) (v := .int lxa_c) (C := RX3) (T := TX3) (N := 9) hx hb htw inlX3 hown hK hP 0 rfl rfl 4 (by decide) (htw _ (ck_14 _ (List.mem_of_getElem? (i := 11) rfl))) (fun _ h9 => h9) rfl dX3_readWord_63 ?_
              refine va_bald hx hb hK hP 1 0 rfl rfl (xg_inr (N := 900) rfl (gz_readWord_s14 (y0 := lxa_c) (y1 := lxe) (y2 := lxp) c_10 c_13 ha0 h9_lxe).1 (gz_readWord_s14 (y0 := lxa_c) (y1 := lxe) (y2 := lxp) c_10 c_13 ha0 h9_lxe).2) dX3_readWord_66 ?_
              refine lv_bipush (v := 97) hx hb dX3_readWord_67 (by decide) ?_
              refine lv_isub hx hb dX3_readWord_69 ?_
              refine lv_iconst (v := 1) hx hb dX3_readWord_70 (by decide) ?_
              refine lv_iadd hx hb dX3_readWord_71 ?_
              refine lv_ior hx hb dX3_readWord_72 ?_
              refine lv_istore_n (lv' := [(1, .int ((L1c <<< (5 &&& 31)) ||| (((fBy lxa_c.toNatClampNeg) - 97) + 1))), (0, .ref lx)]) hx hb dX3_readWord_73 rfl hl (by decide) rfl (fun ls hl => ?_)
              refine lv_aload_n hx hb dX3_readWord_74 rfl (lv_at hl 1 rfl) ?_
              refine lv_dup hx hb dX3_readWord_75 rfl ?_
              refine va_get (D := (dC, dI)) (ci := 3) (v := .int lxa_c) (C := RX3) (T := TX3) (N := 9) hx hb htw inlX3 hown hK hP 0 rfl rfl 4 (by decide) (htw _ (ck_14 _ (List.mem_of_getElem? (i := 11) rfl))) (fun _ h9 => h9) rfl dX3_readWord_76 ?_
              refine lv_iconst (v := 1) hx hb dX3_readWord_79 (by decide) ?_
              refine lv_iadd hx hb dX3_readWord_80 ?_
              refine va_put (D := (dC, dI)) (ci := 3) (v := .int (lxa_c + 1)) (ty := tyX3 4) (C := RX3) (T := TX3) (N := 9) hx hb htw inlX3 tyX3 tyX3_ok nmX3 hown hK hP hD hS 0 rfl rfl 4 (by decide) (htw _ (ck_14 _ (List.mem_of_getElem? (i := 11) rfl))) (fun _ h9 => h9) rfl (tyX3_ok 4 (by decide)) rfl rfl (Nat.le_of_ble_eq_true rfl) dX3_readWord_81 (fun H locs hP hD hS => ?_)
              obtain ⟨hP, hD⟩ := zre [(eO3a lx lby lfi lco lxe (lxa_c + 1) lxt lxp lxn lxl), (eA0 lby cBy 900 fBy), (eA0 lco cCo 23 fCo)] hP hD rfl
              refine lv_goto (tgt := 2) hx hb dX3_readWord_84 (by decide) ?_
              exact ih ((L1c <<< (5 &&& 31)) ||| (((fBy lxa_c.toNatClampNeg) - 97) + 1)) (lxa_c + 1) (gz_readWord_s15 (y0 := lxa_c) (y1 := lxe) (y2 := lxp) c_10 c_13 ha0 h9_lxe) (by rw [xi_s' c_10]; omega) (hI_c.trans (by rw [fe_readWord_c]; (try rw [if_neg c_10]); (try rw [if_neg c_11]); (try rw [if_neg c_12]); (try rw [if_neg c_13]); try rfl)) H locs ls hP hD hS (lv_sub hl [0, 1] rfl)
  exact hloop_8 900 (0 : Int32) lxa (gz_readWord_s16 (y0 := lxa) h0_lxa) (by have := xi_le h9_lxe; have := xi_nn h0_lxa; have e9 : (900 : Int32).toInt = 900 := rfl; omega) (hX_1) _ _ ls hP hD hS (lv_sub hl [0, 1] rfl)

theorem gz_readNumber_s0 {y0 : Int32} (h0 : ¬ (y0 < 0)) : ¬ (y0 < 0) := h0
theorem gz_readNumber_s1 {y0 : Int32} {y1 : Int32} (h0 : y1 ≤ y0) (h1 : ¬ (y0 < 0)) (h2 : y1 ≤ 900) : ¬ (y0 < 0) := h1
theorem gz_readNumber_s2 {y0 : Int32} {y1 : Int32} (h0 : y1 ≤ y0) (h1 : ¬ (y0 < 0)) (h2 : y1 ≤ 900) : ¬ (y0 < 0) := h1
theorem gz_readNumber_s3 {y0 : Int32} {y1 : Int32} (h0 : ¬ (y1 ≤ y0)) (h1 : ¬ (y0 < 0)) (h2 : y1 ≤ 900) : ¬ (y0 < 0) ∧ ¬ (900 ≤ y0) := by lia
theorem gz_readNumber_s4 {y0 : Int32} {y1 : Int32} (h0 : ¬ (y1 ≤ y0)) (h1 : ¬ (y0 < 0)) (h2 : y1 ≤ 900) : ¬ (y0 < 0) := h1
theorem gz_readNumber_s5 {y0 : Int32} {y1 : Int32} (h0 : ¬ (y1 ≤ y0)) (h1 : ¬ (y0 < 0)) (h2 : y1 ≤ 900) : ¬ (y0 < 0) ∧ ¬ (900 ≤ y0) := by lia
theorem gz_readNumber_s6 {y0 : Int32} {y1 : Int32} (h0 : ¬ (y1 ≤ y0)) (h1 : ¬ (y0 < 0)) (h2 : y1 ≤ 900) : ¬ (y0 < 0) := h1
theorem gz_readNumber_s7 {y0 : Int32} {y1 : Int32} (h0 : ¬ (y1 ≤ y0)) (h1 : ¬ (y0 < 0)) (h2 : y1 ≤ 900) : ¬ ((y0 + 1) < 0) := by lia
theorem gz_readNumber_s8 {y0 : Int32} {y1 : Int32} (h0 : ¬ (y1 ≤ y0)) (h1 : ¬ (y0 < 0)) (h2 : y1 ≤ 900) : ¬ (y0 < 0) ∧ ¬ (900 ≤ y0) := by lia
theorem gz_readNumber_s9 {y0 : Int32} {y1 : Int32} (h0 : ¬ (y1 ≤ y0)) (h1 : ¬ (y0 < 0)) (h2 : y1 ≤ 900) : ¬ ((y0 + 1) < 0) := by lia
theorem gz_readNumber_s10 {y0 : Int32} (h0 : ¬ (y0 < 0)) : ¬ (y0 < 0) := h0
set_option maxHeartbeats 4000000 in
set_option maxRecDepth 100000 in
theorem gz_readNumber (l : Launch) (dC : Nat → ClassId) (dI : Nat → Nat → Nat) (lx : Nat) (lby : Nat) (lfi : Int32) (lco : Nat) (lxe : Int32) (lxa : Int32) (lxt : Int32) (lxp : Int32) (lxn : Int32) (lxl : Int32) (cBy : ClassId) (fBy : Nat → Int32) (sz : Nat) (h0_lxa : ¬ lxa < 0) (h9_lxe : lxe ≤ 900) : Met l yX3_readNumber (Cond.code yX3_readNumber cX3_readNumber 1 none :: wsL_law) ({ frames := 0, cells := 0, slots := 0, locals := 0 }) (va_Pc [.ref lx] (fun U => U.heap.size = sz ∧ va_P (dC, dI) vwCl [(eO3a lx lby lfi lco lxe lxa lxt lxp lxn lxl), (eA0 lby cBy 900 fBy)] U.heap ∧ va_K (dC, dI) vwCl [(cBy, .byte)] U ∧ va_D (fun _ => True) [(eO3a lx lby lfi lco lxe lxa lxt lxp lxn lxl), (eA0 lby cBy 900 fBy)])) (va_Qv (fun (u : (Int32) × (Int32) × (Int32)) => (u = fe_readNumber lxe lxa fBy) ∧ (¬ u.2.2 < 0)) (fun (u : (Int32) × (Int32) × (Int32)) t => va_P (dC, dI) vwCl [(eO3a lx lby lfi lco lxe u.2.2 u.1 lxp u.2.1 lxl), (eA0 lby cBy 900 fBy)] t.heap ∧ va_K (dC, dI) vwCl [] t ∧ va_D (va_A [(eO3a lx lby lfi lco lxe lxa lxt lxp lxn lxl), (eA0 lby cBy 900 fBy)] sz) [(eO3a lx lby lfi lco lxe u.2.2 u.1 lxp u.2.1 lxl), (eA0 lby cBy 900 fBy)]) (va_A [(eO3a lx lby lfi lco lxe lxa lxt lxp lxn lxl), (eA0 lby cBy 900 fBy)] sz)) 0 0 (va_A [(eO3a lx lby lfi lco lxe lxa lxt lxp lxn lxl), (eA0 lby cBy 900 fBy)] sz) := by
  refine Met.ofW (cc := cX3_readNumber) (maxL := 1) (ret := none) (by decide) rfl ?_
  intro p e s m args below meth c s₁ B hml hv
  obtain ⟨rfl, hsz, hP, hK, hD0⟩ := hv
  have hx := B.exec
  have hb := B.bytes
  have hr := B.returns
  have hts := atoms_spec (ws := Cond.code yX3_readNumber cX3_readNumber 1 none :: wsL_law) B.pre
  have htw : ∀ w ∈ wsL_law, w.before _ s = true := fun w h => hts w (List.mem_cons_of_mem _ h)
  have hown : s.vm.findClass RX3 = some m.cls := findClass_of_methodNamed B.named
  have hlocks := B.notSynchronized
  subst hsz
  have hD := hD0.self (sz := s.heap.size)
  generalize hAe : va_A [(eO3a lx lby lfi lco lxe lxa lxt lxp lxn lxl), (eA0 lby cBy 900 fBy)] s.heap.size = A at hD ⊢
  have hA : ∀ q : Nat, s.heap.size ≤ q → A q := fun q h => by rw [← hAe]; exact Or.inr h
  obtain ⟨H, rH⟩ : ∃ z : Heap, z = s.heap := ⟨_, rfl⟩
  have hS : va_S A s.heap H [] := by rw [rH]; exact va_S.rf
  have hP : va_P (dC, dI) vwCl [(eO3a lx lby lfi lco lxe lxa lxt lxp lxn lxl), (eA0 lby cBy 900 fBy)] H := by rw [rH]; exact hP
  rw [← rH]
  have hl := lv_entry ([.ref lx]) (n := 1) (Nat.le_of_ble_eq_true rfl)
  rw [lg_entry_eq]
  generalize (lg_sl ([.ref lx]) ++ List.replicate (1 - (lg_sl ([.ref lx])).length) Slot.unset).toArray = ls at hl ⊢
  have hl : lv_has ls 1 [(0, .ref lx)] := hl
  refine lv_aload_n hx hb dX3_readNumber_0 rfl (lv_at hl 0 rfl) ?_
  refine lv_iconst (v := 0) hx hb dX3_readNumber_1 (by decide) ?_
  refine va_put (D := (dC, dI)) (ci := 3) (v := .int 0) (ty := tyX3 7) (C := RX3) (T := TX3) (N := 9) hx hb htw inlX3 tyX3 tyX3_ok nmX3 hown hK hP hD hS 0 rfl rfl 7 (by decide) (htw _ (ck_15 _ (List.mem_of_getElem? (i := 3) rfl))) (fun _ h9 => h9) rfl (tyX3_ok 7 (by decide)) rfl rfl (Nat.le_of_ble_eq_true rfl) dX3_readNumber_2 (fun H locs hP hD hS => ?_)
  obtain ⟨hP, hD⟩ := zre [(eO3a lx lby lfi lco lxe lxa lxt lxp 0 lxl), (eA0 lby cBy 900 fBy)] hP hD rfl
  obtain ⟨X_1, hX_1⟩ : ∃ X9 : (Int32) × (Int32), X9 = fe_readNumber_c lxe fBy 900 lxa (0 : Int32) := ⟨_, rfl⟩
  have hexit_2 : ∀ (lxa_cx : Int32) (lxn_cx : Int32) (hx0 : ¬ lxa_cx < 0) (hE9 : X_1 = (lxa_cx, lxn_cx)) (H : Heap) (locs : List Loc) (ls : Array Slot) (hP : va_P (dC, dI) vwCl [(eO3a lx lby lfi lco lxe lxa_cx lxt lxp lxn_cx lxl), (eA0 lby cBy 900 fBy)] H) (hD : va_D A [(eO3a lx lby lfi lco lxe lxa_cx lxt lxp lxn_cx lxl), (eA0 lby cBy 900 fBy)]) (hS : va_S A s.heap H locs) (hl : lv_has ls 1 [(0, .ref lx)]), W p l e (headSpec (Cond.code yX3_readNumber cX3_readNumber 1 none :: wsL_law) ({ frames := 0, cells := 0, slots := 0, locals := 0 })).room s m ([.ref lx] : List Value).toArray below meth c H locs 0 0 (MQ below (va_Qv (fun (u : (Int32) × (Int32) × (Int32)) => (u = fe_readNumber lxe lxa fBy) ∧ (¬ u.2.2 < 0)) (fun (u : (Int32) × (Int32) × (Int32)) t => va_P (dC, dI) vwCl [(eO3a lx lby lfi lco lxe u.2.2 u.1 lxp u.2.1 lxl), (eA0 lby cBy 900 fBy)] t.heap ∧ va_K (dC, dI) vwCl [] t ∧ va_D A [(eO3a lx lby lfi lco lxe u.2.2 u.1 lxp u.2.1 lxl), (eA0 lby cBy 900 fBy)]) A) ([.ref lx] : List Value).toArray s 0 0 A) (F0 m 90 ls []) := by
    intro lxa_cx lxn_cx hx0 hE9 H locs ls hP hD hS hl
    have hq_lxa_cx : lxa_cx = X_1.1 := by rw [hE9]
    have hq_lxn_cx : lxn_cx = X_1.2 := by rw [hE9]
    refine lv_aload_n hx hb dX3_readNumber_90 rfl (lv_at hl 0 rfl) ?_
    refine lv_bipush (v := 24) hx hb dX3_readNumber_91 (by decide) ?_
    refine va_put (D := (dC, dI)) (ci := 3) (v := .int 24) (ty := tyX3 5) (C := RX3) (T := TX3) (N := 9) hx hb htw inlX3 tyX3 tyX3_ok nmX3 hown hK hP hD hS 0 rfl rfl 5 (by decide) (htw _ (ck_14 _ (List.mem_of_getElem? (i := 17) rfl))) (fun _ h9 => h9) rfl (tyX3_ok 5 (by decide)) rfl rfl (Nat.le_of_ble_eq_true rfl) dX3_readNumber_93 (fun H locs hP hD hS => ?_)
    obtain ⟨hP, hD⟩ := zre [(eO3a lx lby lfi lco lxe lxa_cx 24 lxp lxn_cx lxl), (eA0 lby cBy 900 fBy)] hP hD rfl
    refine W.widen (k := 0) (n := 0) (by omega) (by omega) ?_
    have hP9 := hP
    have hD9 := hD
    have hK9 := hK.sub (tys' := []) [] rfl
    exact W.vret hx hb hr (fun t ht hW => ⟨⟨(24, lxn_cx, lxa_cx), rfl, ⟨(Eq.symm ((by rw [fe_readNumber]; (try rw [← hX_1]); (try rw [xL_eq]); (try rw [← hq_lxa_cx]); (try rw [← hq_lxn_cx]); try rfl))), (gz_readNumber_s0 (y0 := lxa_cx) hx0)⟩, by rw [ht]; exact hP9, va_K.moved hW.alike hK9, hD9⟩, hS.F ht⟩) hS.2.2 dX3_readNumber_96
  have hloop_3 : ∀ (n : Nat) (lxa_c : Int32) (lxn_c : Int32) (ha0 : ¬ lxa_c < 0) (hfu : lxe.toInt ≤ lxa_c.toInt + (n : Int)) (hI_c : X_1 = fe_readNumber_c lxe fBy n lxa_c lxn_c) (H : Heap) (locs : List Loc) (ls : Array Slot) (hP : va_P (dC, dI) vwCl [(eO3a lx lby lfi lco lxe lxa_c lxt lxp lxn_c lxl), (eA0 lby cBy 900 fBy)] H) (hD : va_D A [(eO3a lx lby lfi lco lxe lxa_c lxt lxp lxn_c lxl), (eA0 lby cBy 900 fBy)]) (hS : va_S A s.heap H locs) (hl : lv_has ls 1 [(0, .ref lx)]), W p l e (headSpec (Cond.code yX3_readNumber cX3_readNumber 1 none :: wsL_law) ({ frames := 0, cells := 0, slots := 0, locals := 0 })).room s m ([.ref lx] : List Value).toArray below meth c H locs 0 0 (MQ below (va_Qv (fun (u : (Int32) × (Int32) × (Int32)) => (u = fe_readNumber lxe lxa fBy) ∧ (¬ u.2.2 < 0)) (fun (u : (Int32) × (Int32) × (Int32)) t => va_P (dC, dI) vwCl [(eO3a lx lby lfi lco lxe u.2.2 u.1 lxp u.2.1 lxl), (eA0 lby cBy 900 fBy)] t.heap ∧ va_K (dC, dI) vwCl [] t ∧ va_D A [(eO3a lx lby lfi lco lxe u.2.2 u.1 lxp u.2.1 lxl), (eA0 lby cBy 900 fBy)]) A) ([.ref lx] : List Value).toArray s 0 0 A) (F0 m 5 ls []) := by
    intro n
    induction n with
    | zero =>
      intro lxa_c lxn_c ha0 hfu hI_c H locs ls hP hD hS hl
      refine lv_aload_n hx hb dX3_readNumber_5 rfl (lv_at hl 0 rfl) ?_
      refine va_get (D := (dC, dI)) (ci := 3) (v := .int lxa_c) (C := RX3) (T := TX3) (N := 9) hx hb htw inlX3 hown hK hP 0 rfl rfl 4 (by decide) (htw _ (ck_14 _ (List.mem_of_getElem? (i := 11) rfl))) (fun _ h9 => h9) rfl dX3_readNumber_6 ?_
      refine lv_aload_n hx hb dX3_readNumber_9 rfl (lv_at hl 0 rfl) ?_
      refine va_get (D := (dC, dI)) (ci := 3) (v := .int lxe) (C := RX3) (T := TX3) (N := 9) hx hb htw inlX3 hown hK hP 0 rfl rfl 3 (by decide) (htw _ (ck_14 _ (List.mem_of_getElem? (i := 10) rfl))) (fun _ h9 => h9) rfl dX3_readNumber_10 ?_
      refine lv_icmp_ge (tgt := 90) hx hb dX3_readNumber_13 (by decide) (fun c_4 => ?_) (fun c_4 => absurd c_4 (fun h => h (xi_z hfu)))
      exact hexit_2 lxa_c lxn_c (gz_readNumber_s1 (y0 := lxa_c) (y1 := lxe) c_4 ha0 h9_lxe) (hI_c.trans (by rw [fe_readNumber_c]; try rfl)) _ _ ls hP hD hS (lv_sub hl [0] rfl)
    | succ n ih =>
      intro lxa_c lxn_c ha0 hfu hI_c H locs ls hP hD hS hl
      refine lv_aload_n hx hb dX3_readNumber_5 rfl (lv_at hl 0 rfl) ?_
      refine va_get (D := (dC, dI)) (ci := 3) (v := .int lxa_c) (C := RX3) (T := TX3) (N := 9) hx hb htw inlX3 hown hK hP 0 rfl rfl 4 (by decide) (htw _ (ck_14 _ (List.mem_of_getElem? (i := 11) rfl))) (fun _ h9 => h9) rfl dX3_readNumber_6 ?_
      refine lv_aload_n hx hb dX3_readNumber_9 rfl (lv_at hl 0 rfl) ?_
      refine va_get (D := (dC, dI)) (ci := 3) (v := .int lxe) (C := RX3) (T := TX3) (N := 9) hx hb htw inlX3 hown hK hP 0 rfl rfl 3 (by decide) (htw _ (ck_14 _ (List.mem_of_getElem? (i := 10) rfl))) (fun _ h9 => h9) rfl dX3_readNumber_10 ?_
      refine lv_icmp_ge (tgt := 90) hx hb dX3_readNumber_13 (by decide) (fun c_5 => ?_) (fun c_5 => ?_)
      · exact hexit_2 lxa_c lxn_c (gz_readNumber_s2 (y0 := lxa_c) (y1 := lxe) c_5 ha0 h9_lxe) (hI_c.trans (by rw [fe_readNumber_c]; (try rw [if_pos c_5]); try rfl)) _ _ ls hP hD hS (lv_sub hl [0] rfl)
      · refine lv_aload_n hx hb dX3_readNumber_16 rfl (lv_at hl 0 rfl) ?_
        refine va_get (D := (dC, dI)) (ci := 3) (v := .ref lby) (C := RX3) (T := TX3) (N := 9) hx hb htw inlX3 hown hK hP 0 rfl rfl 0 (by decide) (htw _ (ck_3 _ (List.mem_of_getElem? (i := 14) rfl))) (fun _ h9 => h9) rfl dX3_readNumber_17 ?_
        refine lv_aload_n hx hb dX3_readNumber_20 rfl (lv_at hl 0 rfl) ?_
        refine va_get (D := (dC, dI)) (ci := 3) (v := .int lxa_c) (C := RX3) (T := TX3) (N := 9) hx hb htw inlX3 hown hK hP 0 rfl rfl 4 (by decide) (htw _ (ck_14 _ (List.mem_of_getElem? (i := 11) rfl))) (fun _ h9 => h9) rfl dX3_readNumber_21 ?_
        refine va_bald hx hb hK hP 1 0 rfl rfl (xg_inr (N := 900) rfl (gz_readNumber_s3 (y0 := lxa_c) (y1 := lxe) c_5 ha0 h9_lxe).1 (gz_readNumber_s3 (y0 := lxa_c) (y1 := lxe) c_5 ha0 h9_lxe).2) dX3_readNumber_24 ?_
        refine lv_bipush (v := 48) hx hb dX3_readNumber_25 (by decide) ?_
        refine lv_icmp_lt (tgt := 90) hx hb dX3_readNumber_27 (by decide) (fun c_6 => ?_) (fun c_6 => ?_)
        · exact hexit_2 lxa_c lxn_c (gz_readNumber_s4 (y0 := lxa_c) (y1 := lxe) c_5 ha0 h9_lxe) (hI_c.trans (by rw [fe_readNumber_c]; (try rw [if_neg c_5]); (try rw [if_pos c_6]); try rfl)) _ _ ls hP hD hS (lv_sub hl [0] rfl)
        · refine lv_aload_n hx hb dX3_readNumber_30 rfl (lv_at hl 0 rfl) ?_
          refine va_get (D := (dC, dI)) (ci := 3) (v := .ref lby) (C := RX3) (T := TX3) (N := 9) hx hb htw inlX3 hown hK hP 0 rfl rfl 0 (by decide) (htw _ (ck_3 _ (List.mem_of_getElem? (i := 14) rfl))) (fun _ h9 => h9) rfl dX3_readNumber_31 ?_
          refine lv_aload_n hx hb dX3_readNumber_34 rfl (lv_at hl 0 rfl) ?_
          refine va_get (D := (dC, dI)) (ci := 3) (v := .int lxa_c) (C := RX3) (T := TX3) (N := 9) hx hb htw inlX3 hown hK hP 0 rfl rfl 4 (by decide) (htw _ (ck_14 _ (List.mem_of_getElem? (i := 11) rfl))) (fun _ h9 => h9) rfl dX3_readNumber_35 ?_
          refine va_bald hx hb hK hP 1 0 rfl rfl (xg_inr (N := 900) rfl (gz_readNumber_s5 (y0 := lxa_c) (y1 := lxe) c_5 ha0 h9_lxe).1 (gz_readNumber_s5 (y0 := lxa_c) (y1 := lxe) c_5 ha0 h9_lxe).2) dX3_readNumber_38 ?_
          refine lv_bipush (v := 57) hx hb dX3_readNumber_39 (by decide) ?_
          refine lv_icmp_gt (tgt := 90) hx hb dX3_readNumber_41 (by decide) (fun c_7 => ?_) (fun c_7 => ?_)
          · exact hexit_2 lxa_c lxn_c (gz_readNumber_s6 (y0 := lxa_c) (y1 := lxe) c_5 ha0 h9_lxe) (hI_c.trans (by rw [fe_readNumber_c]; (try rw [if_neg c_5]); (try rw [if_neg c_6]); (try rw [if_pos c_7]); try rfl)) _ _ ls hP hD hS (lv_sub hl [0] rfl)
          · refine lv_aload_n hx hb dX3_readNumber_44 rfl (lv_at hl 0 rfl) ?_
            refine va_get (D := (dC, dI)) (ci := 3) (v := .int lxn_c) (C := RX3) (T := TX3) (N := 9) hx hb htw inlX3 hown hK hP 0 rfl rfl 7 (by decide) (htw _ (ck_15 _ (List.mem_of_getElem? (i := 3) rfl))) (fun _ h9 => h9) rfl dX3_readNumber_45 ?_
            refine lv_ldc (v := 1000000) hx hb hown (htw _ (ck_15 _ (List.mem_of_getElem? (i := 4) rfl))) dX3_readNumber_48 ?_
            refine lv_icmp_ge (tgt := 77) hx hb dX3_readNumber_50 (by decide) (fun c_8 => ?_) (fun c_8 => ?_)
            · refine lv_aload_n hx hb dX3_readNumber_77 rfl (lv_at hl 0 rfl) ?_
              refine lv_dup hx hb dX3_readNumber_78 rfl ?_
              refine va_get (D := (dC, dI)) (ci := 3) (v := .int lxa_c) (C := RX3) (T := TX3) (N := 9) hx hb htw inlX3 hown hK hP 0 rfl rfl 4 (by decide) (htw _ (ck_14 _ (List.mem_of_getElem? (i := 11) rfl))) (fun _ h9 => h9) rfl dX3_readNumber_79 ?_
              refine lv_iconst (v := 1) hx hb dX3_readNumber_82 (by decide) ?_
              refine lv_iadd hx hb dX3_readNumber_83 ?_
              refine va_put (D := (dC, dI)) (ci := 3) (v := .int (lxa_c + 1)) (ty := tyX3 4) (C := RX3) (T := TX3) (N := 9) hx hb htw inlX3 tyX3 tyX3_ok nmX3 hown hK hP hD hS 0 rfl rfl 4 (by decide) (htw _ (ck_14 _ (List.mem_of_getElem? (i := 11) rfl))) (fun _ h9 => h9) rfl (tyX3_ok 4 (by decide)) rfl rfl (Nat.le_of_ble_eq_true rfl) dX3_readNumber_84 (fun H locs hP hD hS => ?_)
              obtain ⟨hP, hD⟩ := zre [(eO3a lx lby lfi lco lxe (lxa_c + 1) lxt lxp lxn_c lxl), (eA0 lby cBy 900 fBy)] hP hD rfl
              refine lv_goto (tgt := 5) hx hb dX3_readNumber_87 (by decide) ?_
              exact ih (lxa_c + 1) lxn_c (gz_readNumber_s7 (y0 := lxa_c) (y1 := lxe) c_5 ha0 h9_lxe) (by rw [xi_s' c_5]; omega) (hI_c.trans (by rw [fe_readNumber_c]; (try rw [if_neg c_5]); (try rw [if_neg c_6]); (try rw [if_neg c_7]); (try rw [if_pos c_8]); try rfl)) H locs ls hP hD hS (lv_sub hl [0] rfl)
            · refine lv_aload_n hx hb dX3_readNumber_53 rfl (lv_at hl 0 rfl) ?_
              refine lv_aload_n hx hb dX3_readNumber_54 rfl (lv_at hl 0 rfl) ?_
              refine va_get (D := (dC, dI)) (ci := 3) (v := .int lxn_c) (C := RX3) (T := TX3) (N := 9) hx hb htw inlX3 hown hK hP 0 rfl rfl 7 (by decide) (htw _ (ck_15 _ (List.mem_of_getElem? (i := 3) rfl))) (fun _ h9 => h9) rfl dX3_readNumber_55 ?_
              refine lv_bipush (v := 10) hx hb dX3_readNumber_58 (by decide) ?_
              refine lv_imul hx hb dX3_readNumber_60 ?_
              refine lv_aload_n hx hb dX3_readNumber_61 rfl (lv_at hl 0 rfl) ?_
              refine va_get (D := (dC, dI)) (ci := 3) (v := .ref lby) (C := RX3) (T := TX3) (N := 9) hx hb htw inlX3 hown hK hP 0 rfl rfl 0 (by decide) (htw _ (ck_3 _ (List.mem_of_getElem? (i := 14) rfl))) (fun _ h9 => h9) rfl dX3_readNumber_62 ?_
              refine lv_aload_n hx hb dX3_readNumber_65 rfl (lv_at hl 0 rfl) ?_
              refine va_get (D := (dC, dI)) (ci := 3) (v := .int lxa_c) (C := RX3) (T := TX3) (N := 9) hx hb htw inlX3 hown hK hP 0 rfl rfl 4 (by decide) (htw _ (ck_14 _ (List.mem_of_getElem? (i := 11) rfl))) (fun _ h9 => h9) rfl dX3_readNumber_66 ?_
              refine va_bald hx hb hK hP 1 0 rfl rfl (xg_inr (N := 900) rfl (gz_readNumber_s8 (y0 := lxa_c) (y1 := lxe) c_5 ha0 h9_lxe).1 (gz_readNumber_s8 (y0 := lxa_c) (y1 := lxe) c_5 ha0 h9_lxe).2) dX3_readNumber_69 ?_
              refine lv_iadd hx hb dX3_readNumber_70 ?_
              refine lv_bipush (v := 48) hx hb dX3_readNumber_71 (by decide) ?_
              refine lv_isub hx hb dX3_readNumber_73 ?_
              refine va_put (D := (dC, dI)) (ci := 3) (v := .int (((lxn_c * 10) + (fBy lxa_c.toNatClampNeg)) - 48)) (ty := tyX3 7) (C := RX3) (T := TX3) (N := 9) hx hb htw inlX3 tyX3 tyX3_ok nmX3 hown hK hP hD hS 0 rfl rfl 7 (by decide) (htw _ (ck_15 _ (List.mem_of_getElem? (i := 3) rfl))) (fun _ h9 => h9) rfl (tyX3_ok 7 (by decide)) rfl rfl (Nat.le_of_ble_eq_true rfl) dX3_readNumber_74 (fun H locs hP hD hS => ?_)
              obtain ⟨hP, hD⟩ := zre [(eO3a lx lby lfi lco lxe lxa_c lxt lxp (((lxn_c * 10) + (fBy lxa_c.toNatClampNeg)) - 48) lxl), (eA0 lby cBy 900 fBy)] hP hD rfl
              refine lv_aload_n hx hb dX3_readNumber_77 rfl (lv_at hl 0 rfl) ?_
              refine lv_dup hx hb dX3_readNumber_78 rfl ?_
              refine va_get (D := (dC, dI)) (ci := 3) (v := .int lxa_c) (C := RX3) (T := TX3) (N := 9) hx hb htw inlX3 hown hK hP 0 rfl rfl 4 (by decide) (htw _ (ck_14 _ (List.mem_of_getElem? (i := 11) rfl))) (fun _ h9 => h9) rfl dX3_readNumber_79 ?_
              refine lv_iconst (v := 1) hx hb dX3_readNumber_82 (by decide) ?_
              refine lv_iadd hx hb dX3_readNumber_83 ?_
              refine va_put (D := (dC, dI)) (ci := 3) (v := .int (lxa_c + 1)) (ty := tyX3 4) (C := RX3) (T := TX3) (N := 9) hx hb htw inlX3 tyX3 tyX3_ok nmX3 hown hK hP hD hS 0 rfl rfl 4 (by decide) (htw _ (ck_14 _ (List.mem_of_getElem? (i := 11) rfl))) (fun _ h9 => h9) rfl (tyX3_ok 4 (by decide)) rfl rfl (Nat.le_of_ble_eq_true rfl) dX3_readNumber_84 (fun H locs hP hD hS => ?_)
              obtain ⟨hP, hD⟩ := zre [(eO3a lx lby lfi lco lxe (lxa_c + 1) lxt lxp (((lxn_c * 10) + (fBy lxa_c.toNatClampNeg)) - 48) lxl), (eA0 lby cBy 900 fBy)] hP hD rfl
              refine lv_goto (tgt := 5) hx hb dX3_readNumber_87 (by decide) ?_
              exact ih (lxa_c + 1) (((lxn_c * 10) + (fBy lxa_c.toNatClampNeg)) - 48) (gz_readNumber_s9 (y0 := lxa_c) (y1 := lxe) c_5 ha0 h9_lxe) (by rw [xi_s' c_5]; omega) (hI_c.trans (by rw [fe_readNumber_c]; (try rw [if_neg c_5]); (try rw [if_neg c_6]); (try rw [if_neg c_7]); (try rw [if_neg c_8]); try rfl)) H locs ls hP hD hS (lv_sub hl [0] rfl)
  exact hloop_3 900 lxa (0 : Int32) (gz_readNumber_s10 (y0 := lxa) h0_lxa) (by have := xi_le h9_lxe; have := xi_nn h0_lxa; have e9 : (900 : Int32).toInt = 900 := rfl; omega) (hX_1) _ _ ls hP hD hS (lv_sub hl [0] rfl)

theorem gz_readSign_s0 {y0 : Int32} {y1 : Int32} (h0 : ¬ (y0 < 0)) (h1 : y1 ≤ 900) (h2 : ¬ (y1 ≤ y0)) : ¬ (((y0 + 1) + 1) < 0) := by lia
theorem gz_readSign_s1 {y0 : Int32} {y1 : Int32} (h0 : ¬ (y0 < 0)) (h1 : y1 ≤ 900) (h2 : ¬ (y1 ≤ y0)) : ¬ (((y0 + 1) + 1) < 0) := by lia
theorem gz_readSign_s2 {y0 : Int32} {y1 : Int32} (h0 : ¬ (y0 < 0)) (h1 : y1 ≤ 900) (h2 : ¬ (y1 ≤ y0)) : ¬ ((y0 + 1) < 0) := by lia
theorem gz_readSign_s3 {y0 : Int32} {y1 : Int32} (h0 : ¬ (y0 < 0)) (h1 : y1 ≤ 900) (h2 : ¬ (y1 ≤ y0)) : ¬ (((y0 + 1) + 1) < 0) := by lia
theorem gz_readSign_s4 {y0 : Int32} {y1 : Int32} (h0 : ¬ (y1 ≤ (y0 + 1))) (h1 : ¬ (y0 < 0)) (h2 : y1 ≤ 900) (h3 : ¬ (y1 ≤ y0)) : ¬ ((y0 + 1) < 0) ∧ ¬ (900 ≤ (y0 + 1)) := ge_readSign_s0 h0 h1 h2 h3
set_option maxHeartbeats 4000000 in
set_option maxRecDepth 100000 in
theorem gz_readSign (l : Launch) (dC : Nat → ClassId) (dI : Nat → Nat → Nat) (lx : Nat) (lby : Nat) (lfi : Int32) (lco : Nat) (lxe : Int32) (lxa : Int32) (lxt : Int32) (lxp : Int32) (lxn : Int32) (lxl : Int32) (cBy : ClassId) (fBy : Nat → Int32) (a0 : Int32) (sz : Nat) (h0_lxa : ¬ lxa < 0) (h9_lxe : lxe ≤ 900) (hlt : ¬ lxe ≤ lxa) : Met l yX3_readSign (Cond.code yX3_readSign cX3_readSign 3 none :: wsL_law) ({ frames := 0, cells := 0, slots := 0, locals := 0 }) (va_Pc [.ref lx, .int a0] (fun U => U.heap.size = sz ∧ va_P (dC, dI) vwCl [(eO3a lx lby lfi lco lxe lxa lxt lxp lxn lxl), (eA0 lby cBy 900 fBy)] U.heap ∧ va_K (dC, dI) vwCl [(cBy, .byte)] U ∧ va_D (fun _ => True) [(eO3a lx lby lfi lco lxe lxa lxt lxp lxn lxl), (eA0 lby cBy 900 fBy)])) (va_Qv (fun (u : (Int32) × (Int32)) => (u = fe_readSign lxe lxa fBy a0) ∧ (¬ u.1 < 0)) (fun (u : (Int32) × (Int32)) t => va_P (dC, dI) vwCl [(eO3a lx lby lfi lco lxe u.1 u.2 lxp lxn lxl), (eA0 lby cBy 900 fBy)] t.heap ∧ va_K (dC, dI) vwCl [] t ∧ va_D (va_A [(eO3a lx lby lfi lco lxe lxa lxt lxp lxn lxl), (eA0 lby cBy 900 fBy)] sz) [(eO3a lx lby lfi lco lxe u.1 u.2 lxp lxn lxl), (eA0 lby cBy 900 fBy)]) (va_A [(eO3a lx lby lfi lco lxe lxa lxt lxp lxn lxl), (eA0 lby cBy 900 fBy)] sz)) 0 0 (va_A [(eO3a lx lby lfi lco lxe lxa lxt lxp lxn lxl), (eA0 lby cBy 900 fBy)] sz) := by
  refine Met.ofW (cc := cX3_readSign) (maxL := 3) (ret := none) (by decide) rfl ?_
  intro p e s m args below meth c s₁ B hml hv
  obtain ⟨rfl, hsz, hP, hK, hD0⟩ := hv
  have hx := B.exec
  have hb := B.bytes
  have hr := B.returns
  have hts := atoms_spec (ws := Cond.code yX3_readSign cX3_readSign 3 none :: wsL_law) B.pre
  have htw : ∀ w ∈ wsL_law, w.before _ s = true := fun w h => hts w (List.mem_cons_of_mem _ h)
  have hown : s.vm.findClass RX3 = some m.cls := findClass_of_methodNamed B.named
  have hlocks := B.notSynchronized
  subst hsz
  have hD := hD0.self (sz := s.heap.size)
  generalize hAe : va_A [(eO3a lx lby lfi lco lxe lxa lxt lxp lxn lxl), (eA0 lby cBy 900 fBy)] s.heap.size = A at hD ⊢
  have hA : ∀ q : Nat, s.heap.size ≤ q → A q := fun q h => by rw [← hAe]; exact Or.inr h
  obtain ⟨H, rH⟩ : ∃ z : Heap, z = s.heap := ⟨_, rfl⟩
  have hS : va_S A s.heap H [] := by rw [rH]; exact va_S.rf
  have hP : va_P (dC, dI) vwCl [(eO3a lx lby lfi lco lxe lxa lxt lxp lxn lxl), (eA0 lby cBy 900 fBy)] H := by rw [rH]; exact hP
  rw [← rH]
  have hl := lv_entry ([.ref lx, .int a0]) (n := 3) (Nat.le_of_ble_eq_true rfl)
  rw [lg_entry_eq]
  generalize (lg_sl ([.ref lx, .int a0]) ++ List.replicate (3 - (lg_sl ([.ref lx, .int a0])).length) Slot.unset).toArray = ls at hl ⊢
  have hl : lv_has ls 3 [(0, .ref lx), (1, .int a0)] := hl
  refine lv_aload_n hx hb dX3_readSign_0 rfl (lv_at hl 0 rfl) ?_
  refine lv_dup hx hb dX3_readSign_1 rfl ?_
  refine va_get (D := (dC, dI)) (ci := 3) (v := .int lxa) (C := RX3) (T := TX3) (N := 9) hx hb htw inlX3 hown hK hP 0 rfl rfl 4 (by decide) (htw _ (ck_14 _ (List.mem_of_getElem? (i := 11) rfl))) (fun _ h9 => h9) rfl dX3_readSign_2 ?_
  refine lv_iconst (v := 1) hx hb dX3_readSign_5 (by decide) ?_
  refine lv_iadd hx hb dX3_readSign_6 ?_
  refine va_put (D := (dC, dI)) (ci := 3) (v := .int (lxa + 1)) (ty := tyX3 4) (C := RX3) (T := TX3) (N := 9) hx hb htw inlX3 tyX3 tyX3_ok nmX3 hown hK hP hD hS 0 rfl rfl 4 (by decide) (htw _ (ck_14 _ (List.mem_of_getElem? (i := 11) rfl))) (fun _ h9 => h9) rfl (tyX3_ok 4 (by decide)) rfl rfl (Nat.le_of_ble_eq_true rfl) dX3_readSign_7 (fun H locs hP hD hS => ?_)
  obtain ⟨hP, hD⟩ := zre [(eO3a lx lby lfi lco lxe (lxa + 1) lxt lxp lxn lxl), (eA0 lby cBy 900 fBy)] hP hD rfl
  refine lv_aload_n hx hb dX3_readSign_10 rfl (lv_at hl 0 rfl) ?_
  refine va_get (D := (dC, dI)) (ci := 3) (v := .int (lxa + 1)) (C := RX3) (T := TX3) (N := 9) hx hb htw inlX3 hown hK hP 0 rfl rfl 4 (by decide) (htw _ (ck_14 _ (List.mem_of_getElem? (i := 11) rfl))) (fun _ h9 => h9) rfl dX3_readSign_11 ?_
  refine lv_aload_n hx hb dX3_readSign_14 rfl (lv_at hl 0 rfl) ?_
  refine va_get (D := (dC, dI)) (ci := 3) (v := .int lxe) (C := RX3) (T := TX3) (N := 9) hx hb htw inlX3 hown hK hP 0 rfl rfl 3 (by decide) (htw _ (ck_14 _ (List.mem_of_getElem? (i := 10) rfl))) (fun _ h9 => h9) rfl dX3_readSign_15 ?_
  obtain ⟨X_1, hX_1⟩ : ∃ X9 : (Int32), X9 = fe_readSign_j lxe lxa fBy := ⟨_, rfl⟩
  have hjoin_2 : ∀ (S0j : Int32)  (hE9 : X_1 = S0j) (H : Heap) (locs : List Loc) (ls : Array Slot) (hP : va_P (dC, dI) vwCl [(eO3a lx lby lfi lco lxe (lxa + 1) lxt lxp lxn lxl), (eA0 lby cBy 900 fBy)] H) (hD : va_D A [(eO3a lx lby lfi lco lxe (lxa + 1) lxt lxp lxn lxl), (eA0 lby cBy 900 fBy)]) (hS : va_S A s.heap H locs) (hl : lv_has ls 3 [(0, .ref lx), (1, .int a0)]), W p l e (headSpec (Cond.code yX3_readSign cX3_readSign 3 none :: wsL_law) ({ frames := 0, cells := 0, slots := 0, locals := 0 })).room s m ([.ref lx, .int a0] : List Value).toArray below meth c H locs 0 0 (MQ below (va_Qv (fun (u : (Int32) × (Int32)) => (u = fe_readSign lxe lxa fBy a0) ∧ (¬ u.1 < 0)) (fun (u : (Int32) × (Int32)) t => va_P (dC, dI) vwCl [(eO3a lx lby lfi lco lxe u.1 u.2 lxp lxn lxl), (eA0 lby cBy 900 fBy)] t.heap ∧ va_K (dC, dI) vwCl [] t ∧ va_D A [(eO3a lx lby lfi lco lxe u.1 u.2 lxp lxn lxl), (eA0 lby cBy 900 fBy)]) A) ([.ref lx, .int a0] : List Value).toArray s 0 0 A) (F0 m 34 ls [.int S0j]) := by
    intro S0j  hE9 H locs ls hP hD hS hl
    have hq_S0j : S0j = X_1 := by rw [hE9]
    refine lv_istore_n (lv' := [(2, .int S0j), (0, .ref lx), (1, .int a0)]) hx hb dX3_readSign_34 rfl hl (by decide) rfl (fun ls hl => ?_)
    refine lv_iload_n hx hb dX3_readSign_35 rfl (lv_at hl 2 rfl) ?_
    obtain ⟨X_3, hX_3⟩ : ∃ X9 : (Int32) × (Int32), X9 = fe_readSign_k a0 S0j := ⟨_, rfl⟩
    have hjoin_4 : ∀ (L1k : Int32) (lxt_k : Int32)  (hE9 : X_3 = (L1k, lxt_k)) (H : Heap) (locs : List Loc) (ls : Array Slot) (hP : va_P (dC, dI) vwCl [(eO3a lx lby lfi lco lxe (lxa + 1) lxt_k lxp lxn lxl), (eA0 lby cBy 900 fBy)] H) (hD : va_D A [(eO3a lx lby lfi lco lxe (lxa + 1) lxt_k lxp lxn lxl), (eA0 lby cBy 900 fBy)]) (hS : va_S A s.heap H locs) (hl : lv_has ls 3 [(2, .int S0j), (0, .ref lx), (1, .int L1k)]), W p l e (headSpec (Cond.code yX3_readSign cX3_readSign 3 none :: wsL_law) ({ frames := 0, cells := 0, slots := 0, locals := 0 })).room s m ([.ref lx, .int a0] : List Value).toArray below meth c H locs 0 0 (MQ below (va_Qv (fun (u : (Int32) × (Int32)) => (u = fe_readSign lxe lxa fBy a0) ∧ (¬ u.1 < 0)) (fun (u : (Int32) × (Int32)) t => va_P (dC, dI) vwCl [(eO3a lx lby lfi lco lxe u.1 u.2 lxp lxn lxl), (eA0 lby cBy 900 fBy)] t.heap ∧ va_K (dC, dI) vwCl [] t ∧ va_D A [(eO3a lx lby lfi lco lxe u.1 u.2 lxp lxn lxl), (eA0 lby cBy 900 fBy)]) A) ([.ref lx, .int a0] : List Value).toArray s 0 0 A) (F0 m 294 ls []) := by
      intro L1k lxt_k  hE9 H locs ls hP hD hS hl
      have hq_L1k : L1k = X_3.1 := by rw [hE9]
      have hq_lxt_k : lxt_k = X_3.2 := by rw [hE9]
      refine lv_aload_n hx hb dX3_readSign_294 rfl (lv_at hl 1 rfl) ?_
      refine va_get (D := (dC, dI)) (ci := 3) (v := .int lxt_k) (C := RX3) (T := TX3) (N := 9) hx hb htw inlX3 hown hK hP 0 rfl rfl 5 (by decide) (htw _ (ck_14 _ (List.mem_of_getElem? (i := 17) rfl))) (fun _ h9 => h9) rfl dX3_readSign_295 ?_
      refine lv_bipush (v := 34) hx hb dX3_readSign_298 (by decide) ?_
      refine lv_icmp_eq (tgt := 321) hx hb dX3_readSign_300 (by decide) (fun c_5 => ?_) (fun c_5 => ?_)
      · refine lv_aload_n hx hb dX3_readSign_321 rfl (lv_at hl 1 rfl) ?_
        refine lv_dup hx hb dX3_readSign_322 rfl ?_
        refine va_get (D := (dC, dI)) (ci := 3) (v := .int (lxa + 1)) (C := RX3) (T := TX3) (N := 9) hx hb htw inlX3 hown hK hP 0 rfl rfl 4 (by decide) (htw _ (ck_14 _ (List.mem_of_getElem? (i := 11) rfl))) (fun _ h9 => h9) rfl dX3_readSign_323 ?_
        refine lv_iconst (v := 1) hx hb dX3_readSign_326 (by decide) ?_
        refine lv_iadd hx hb dX3_readSign_327 ?_
        refine va_put (D := (dC, dI)) (ci := 3) (v := .int ((lxa + 1) + 1)) (ty := tyX3 4) (C := RX3) (T := TX3) (N := 9) hx hb htw inlX3 tyX3 tyX3_ok nmX3 hown hK hP hD hS 0 rfl rfl 4 (by decide) (htw _ (ck_14 _ (List.mem_of_getElem? (i := 11) rfl))) (fun _ h9 => h9) rfl (tyX3_ok 4 (by decide)) rfl rfl (Nat.le_of_ble_eq_true rfl) dX3_readSign_328 (fun H locs hP hD hS => ?_)
        obtain ⟨hP, hD⟩ := zre [(eO3a lx lby lfi lco lxe ((lxa + 1) + 1) lxt_k lxp lxn lxl), (eA0 lby cBy 900 fBy)] hP hD rfl
        refine W.widen (k := 0) (n := 0) (by omega) (by omega) ?_
        have hP9 := hP
        have hD9 := hD
        have hK9 := hK.sub (tys' := []) [] rfl
        exact W.vret hx hb hr (fun t ht hW => ⟨⟨(((lxa + 1) + 1), lxt_k), rfl, ⟨(Eq.symm ((by rw [fe_readSign]; (try rw [← hX_1]); (try rw [xL_eq]); (try rw [← hq_S0j]); (try rw [← hX_3]); (try rw [xL_eq]); (try rw [← hq_L1k]); (try rw [← hq_lxt_k]); (try rw [if_pos c_5]); try rfl))), (gz_readSign_s0 (y0 := lxa) (y1 := lxe) h0_lxa h9_lxe hlt)⟩, by rw [ht]; exact hP9, va_K.moved hW.alike hK9, hD9⟩, hS.F ht⟩) hS.2.2 dX3_readSign_331
      · refine lv_aload_n hx hb dX3_readSign_303 rfl (lv_at hl 1 rfl) ?_
        refine va_get (D := (dC, dI)) (ci := 3) (v := .int lxt_k) (C := RX3) (T := TX3) (N := 9) hx hb htw inlX3 hown hK hP 0 rfl rfl 5 (by decide) (htw _ (ck_14 _ (List.mem_of_getElem? (i := 17) rfl))) (fun _ h9 => h9) rfl dX3_readSign_304 ?_
        refine lv_bipush (v := 36) hx hb dX3_readSign_307 (by decide) ?_
        refine lv_icmp_eq (tgt := 321) hx hb dX3_readSign_309 (by decide) (fun c_6 => ?_) (fun c_6 => ?_)
        · refine lv_aload_n hx hb dX3_readSign_321 rfl (lv_at hl 1 rfl) ?_
          refine lv_dup hx hb dX3_readSign_322 rfl ?_
          refine va_get (D := (dC, dI)) (ci := 3) (v := .int (lxa + 1)) (C := RX3) (T := TX3) (N := 9) hx hb htw inlX3 hown hK hP 0 rfl rfl 4 (by decide) (htw _ (ck_14 _ (List.mem_of_getElem? (i := 11) rfl))) (fun _ h9 => h9) rfl dX3_readSign_323 ?_
          refine lv_iconst (v := 1) hx hb dX3_readSign_326 (by decide) ?_
          refine lv_iadd hx hb dX3_readSign_327 ?_
          refine va_put (D := (dC, dI)) (ci := 3) (v := .int ((lxa + 1) + 1)) (ty := tyX3 4) (C := RX3) (T := TX3) (N := 9) hx hb htw inlX3 tyX3 tyX3_ok nmX3 hown hK hP hD hS 0 rfl rfl 4 (by decide) (htw _ (ck_14 _ (List.mem_of_getElem? (i := 11) rfl))) (fun _ h9 => h9) rfl (tyX3_ok 4 (by decide)) rfl rfl (Nat.le_of_ble_eq_true rfl) dX3_readSign_328 (fun H locs hP hD hS => ?_)
          obtain ⟨hP, hD⟩ := zre [(eO3a lx lby lfi lco lxe ((lxa + 1) + 1) lxt_k lxp lxn lxl), (eA0 lby cBy 900 fBy)] hP hD rfl
          refine W.widen (k := 0) (n := 0) (by omega) (by omega) ?_
          have hP9 := hP
          have hD9 := hD
          have hK9 := hK.sub (tys' := []) [] rfl
          exact W.vret hx hb hr (fun t ht hW => ⟨⟨(((lxa + 1) + 1), lxt_k), rfl, ⟨(Eq.symm ((by rw [fe_readSign]; (try rw [← hX_1]); (try rw [xL_eq]); (try rw [← hq_S0j]); (try rw [← hX_3]); (try rw [xL_eq]); (try rw [← hq_L1k]); (try rw [← hq_lxt_k]); (try rw [if_neg c_5]); (try rw [if_pos c_6]); try rfl))), (gz_readSign_s1 (y0 := lxa) (y1 := lxe) h0_lxa h9_lxe hlt)⟩, by rw [ht]; exact hP9, va_K.moved hW.alike hK9, hD9⟩, hS.F ht⟩) hS.2.2 dX3_readSign_331
        · refine lv_aload_n hx hb dX3_readSign_312 rfl (lv_at hl 1 rfl) ?_
          refine va_get (D := (dC, dI)) (ci := 3) (v := .int lxt_k) (C := RX3) (T := TX3) (N := 9) hx hb htw inlX3 hown hK hP 0 rfl rfl 5 (by decide) (htw _ (ck_14 _ (List.mem_of_getElem? (i := 17) rfl))) (fun _ h9 => h9) rfl dX3_readSign_313 ?_
          refine lv_bipush (v := 37) hx hb dX3_readSign_316 (by decide) ?_
          refine lv_icmp_ne (tgt := 331) hx hb dX3_readSign_318 (by decide) (fun c_7 => ?_) (fun c_7 => ?_)
          · refine W.widen (k := 0) (n := 0) (by omega) (by omega) ?_
            obtain ⟨hP9, hD9⟩ := zsub2 (ws' := [(eO3a lx lby lfi lco lxe (lxa + 1) lxt_k lxp lxn lxl), (eA0 lby cBy 900 fBy)]) hP hD [0, 1] (by decide) rfl
            have hK9 := hK.sub (tys' := []) [] rfl
            exact W.vret hx hb hr (fun t ht hW => ⟨⟨((lxa + 1), lxt_k), rfl, ⟨(Eq.symm ((by rw [fe_readSign]; (try rw [← hX_1]); (try rw [xL_eq]); (try rw [← hq_S0j]); (try rw [← hX_3]); (try rw [xL_eq]); (try rw [← hq_L1k]); (try rw [← hq_lxt_k]); (try rw [if_neg c_5]); (try rw [if_neg c_6]); (try rw [if_neg c_7]); try rfl))), (gz_readSign_s2 (y0 := lxa) (y1 := lxe) h0_lxa h9_lxe hlt)⟩, by rw [ht]; exact hP9, va_K.moved hW.alike hK9, hD9⟩, hS.F ht⟩) hS.2.2 dX3_readSign_331
          · refine lv_aload_n hx hb dX3_readSign_321 rfl (lv_at hl 1 rfl) ?_
            refine lv_dup hx hb dX3_readSign_322 rfl ?_
            refine va_get (D := (dC, dI)) (ci := 3) (v := .int (lxa + 1)) (C := RX3) (T := TX3) (N := 9) hx hb htw inlX3 hown hK hP 0 rfl rfl 4 (by decide) (htw _ (ck_14 _ (List.mem_of_getElem? (i := 11) rfl))) (fun _ h9 => h9) rfl dX3_readSign_323 ?_
            refine lv_iconst (v := 1) hx hb dX3_readSign_326 (by decide) ?_
            refine lv_iadd hx hb dX3_readSign_327 ?_
            refine va_put (D := (dC, dI)) (ci := 3) (v := .int ((lxa + 1) + 1)) (ty := tyX3 4) (C := RX3) (T := TX3) (N := 9) hx hb htw inlX3 tyX3 tyX3_ok nmX3 hown hK hP hD hS 0 rfl rfl 4 (by decide) (htw _ (ck_14 _ (List.mem_of_getElem? (i := 11) rfl))) (fun _ h9 => h9) rfl (tyX3_ok 4 (by decide)) rfl rfl (Nat.le_of_ble_eq_true rfl) dX3_readSign_328 (fun H locs hP hD hS => ?_)
            obtain ⟨hP, hD⟩ := zre [(eO3a lx lby lfi lco lxe ((lxa + 1) + 1) lxt_k lxp lxn lxl), (eA0 lby cBy 900 fBy)] hP hD rfl
            refine W.widen (k := 0) (n := 0) (by omega) (by omega) ?_
            have hP9 := hP
            have hD9 := hD
            have hK9 := hK.sub (tys' := []) [] rfl
            exact W.vret hx hb hr (fun t ht hW => ⟨⟨(((lxa + 1) + 1), lxt_k), rfl, ⟨(Eq.symm ((by rw [fe_readSign]; (try rw [← hX_1]); (try rw [xL_eq]); (try rw [← hq_S0j]); (try rw [← hX_3]); (try rw [xL_eq]); (try rw [← hq_L1k]); (try rw [← hq_lxt_k]); (try rw [if_neg c_5]); (try rw [if_neg c_6]); (try rw [if_pos c_7]); try rfl))), (gz_readSign_s3 (y0 := lxa) (y1 := lxe) h0_lxa h9_lxe hlt)⟩, by rw [ht]; exact hP9, va_K.moved hW.alike hK9, hD9⟩, hS.F ht⟩) hS.2.2 dX3_readSign_331
    by_cases h_8 : a0 = 37
    · subst h_8
      refine lv_tableIn (off := 183) (tgt := 219) hx hb dX3_readSign_36 (by decide) (by decide) (by decide) (by decide) ?_
      refine lv_aload_n hx hb dX3_readSign_219 rfl (lv_at hl 1 rfl) ?_
      refine lv_bipush (v := 32) hx hb dX3_readSign_220 (by decide) ?_
      refine va_put (D := (dC, dI)) (ci := 3) (v := .int 32) (ty := tyX3 5) (C := RX3) (T := TX3) (N := 9) hx hb htw inlX3 tyX3 tyX3_ok nmX3 hown hK hP hD hS 0 rfl rfl 5 (by decide) (htw _ (ck_14 _ (List.mem_of_getElem? (i := 17) rfl))) (fun _ h9 => h9) rfl (tyX3_ok 5 (by decide)) rfl rfl (Nat.le_of_ble_eq_true rfl) dX3_readSign_222 (fun H locs hP hD hS => ?_)
      obtain ⟨hP, hD⟩ := zre [(eO3a lx lby lfi lco lxe (lxa + 1) 32 lxp lxn lxl), (eA0 lby cBy 900 fBy)] hP hD rfl
      refine lv_goto (tgt := 294) hx hb dX3_readSign_225 (by decide) ?_
      exact hjoin_4 (37 : Int32) (32 : Int32)  (hX_3.trans (by rw [fe_readSign_k]; (try rw [if_pos rfl]); try rfl)) _ _ ls hP hD hS (lv_sub hl [0, 1, 2] rfl)
    by_cases h_9 : a0 = 38
    · subst h_9
      refine lv_tableIn (off := 252) (tgt := 288) hx hb dX3_readSign_36 (by decide) (by decide) (by decide) (by decide) ?_
      refine lv_aload_n hx hb dX3_readSign_288 rfl (lv_at hl 1 rfl) ?_
      refine lv_bipush (v := 39) hx hb dX3_readSign_289 (by decide) ?_
      refine va_put (D := (dC, dI)) (ci := 3) (v := .int 39) (ty := tyX3 5) (C := RX3) (T := TX3) (N := 9) hx hb htw inlX3 tyX3 tyX3_ok nmX3 hown hK hP hD hS 0 rfl rfl 5 (by decide) (htw _ (ck_14 _ (List.mem_of_getElem? (i := 17) rfl))) (fun _ h9 => h9) rfl (tyX3_ok 5 (by decide)) rfl rfl (Nat.le_of_ble_eq_true rfl) dX3_readSign_291 (fun H locs hP hD hS => ?_)
      obtain ⟨hP, hD⟩ := zre [(eO3a lx lby lfi lco lxe (lxa + 1) 39 lxp lxn lxl), (eA0 lby cBy 900 fBy)] hP hD rfl
      exact hjoin_4 (38 : Int32) (39 : Int32)  (hX_3.trans (by rw [fe_readSign_k]; (try rw [if_neg h_8]); (try rw [if_pos rfl]); try rfl)) _ _ ls hP hD hS (lv_sub hl [0, 1, 2] rfl)
    by_cases h_10 : a0 = 39
    · subst h_10
      refine lv_tableIn (off := 252) (tgt := 288) hx hb dX3_readSign_36 (by decide) (by decide) (by decide) (by decide) ?_
      refine lv_aload_n hx hb dX3_readSign_288 rfl (lv_at hl 1 rfl) ?_
      refine lv_bipush (v := 39) hx hb dX3_readSign_289 (by decide) ?_
      refine va_put (D := (dC, dI)) (ci := 3) (v := .int 39) (ty := tyX3 5) (C := RX3) (T := TX3) (N := 9) hx hb htw inlX3 tyX3 tyX3_ok nmX3 hown hK hP hD hS 0 rfl rfl 5 (by decide) (htw _ (ck_14 _ (List.mem_of_getElem? (i := 17) rfl))) (fun _ h9 => h9) rfl (tyX3_ok 5 (by decide)) rfl rfl (Nat.le_of_ble_eq_true rfl) dX3_readSign_291 (fun H locs hP hD hS => ?_)
      obtain ⟨hP, hD⟩ := zre [(eO3a lx lby lfi lco lxe (lxa + 1) 39 lxp lxn lxl), (eA0 lby cBy 900 fBy)] hP hD rfl
      exact hjoin_4 (39 : Int32) (39 : Int32)  (hX_3.trans (by rw [fe_readSign_k]; (try rw [if_neg h_8]); (try rw [if_neg h_9]); (try rw [if_pos rfl]); try rfl)) _ _ ls hP hD hS (lv_sub hl [0, 1, 2] rfl)
    by_cases h_11 : a0 = 40
    · subst h_11
      refine lv_tableIn (off := 129) (tgt := 165) hx hb dX3_readSign_36 (by decide) (by decide) (by decide) (by decide) ?_
      refine lv_aload_n hx hb dX3_readSign_165 rfl (lv_at hl 1 rfl) ?_
      refine lv_bipush (v := 26) hx hb dX3_readSign_166 (by decide) ?_
      refine va_put (D := (dC, dI)) (ci := 3) (v := .int 26) (ty := tyX3 5) (C := RX3) (T := TX3) (N := 9) hx hb htw inlX3 tyX3 tyX3_ok nmX3 hown hK hP hD hS 0 rfl rfl 5 (by decide) (htw _ (ck_14 _ (List.mem_of_getElem? (i := 17) rfl))) (fun _ h9 => h9) rfl (tyX3_ok 5 (by decide)) rfl rfl (Nat.le_of_ble_eq_true rfl) dX3_readSign_168 (fun H locs hP hD hS => ?_)
      obtain ⟨hP, hD⟩ := zre [(eO3a lx lby lfi lco lxe (lxa + 1) 26 lxp lxn lxl), (eA0 lby cBy 900 fBy)] hP hD rfl
      refine lv_goto (tgt := 294) hx hb dX3_readSign_171 (by decide) ?_
      exact hjoin_4 (40 : Int32) (26 : Int32)  (hX_3.trans (by rw [fe_readSign_k]; (try rw [if_neg h_8]); (try rw [if_neg h_9]); (try rw [if_neg h_10]); (try rw [if_pos rfl]); try rfl)) _ _ ls hP hD hS (lv_sub hl [0, 1, 2] rfl)
    by_cases h_12 : a0 = 41
    · subst h_12
      refine lv_tableIn (off := 138) (tgt := 174) hx hb dX3_readSign_36 (by decide) (by decide) (by decide) (by decide) ?_
      refine lv_aload_n hx hb dX3_readSign_174 rfl (lv_at hl 1 rfl) ?_
      refine lv_bipush (v := 27) hx hb dX3_readSign_175 (by decide) ?_
      refine va_put (D := (dC, dI)) (ci := 3) (v := .int 27) (ty := tyX3 5) (C := RX3) (T := TX3) (N := 9) hx hb htw inlX3 tyX3 tyX3_ok nmX3 hown hK hP hD hS 0 rfl rfl 5 (by decide) (htw _ (ck_14 _ (List.mem_of_getElem? (i := 17) rfl))) (fun _ h9 => h9) rfl (tyX3_ok 5 (by decide)) rfl rfl (Nat.le_of_ble_eq_true rfl) dX3_readSign_177 (fun H locs hP hD hS => ?_)
      obtain ⟨hP, hD⟩ := zre [(eO3a lx lby lfi lco lxe (lxa + 1) 27 lxp lxn lxl), (eA0 lby cBy 900 fBy)] hP hD rfl
      refine lv_goto (tgt := 294) hx hb dX3_readSign_180 (by decide) ?_
      exact hjoin_4 (41 : Int32) (27 : Int32)  (hX_3.trans (by rw [fe_readSign_k]; (try rw [if_neg h_8]); (try rw [if_neg h_9]); (try rw [if_neg h_10]); (try rw [if_neg h_11]); (try rw [if_pos rfl]); try rfl)) _ _ ls hP hD hS (lv_sub hl [0, 1, 2] rfl)
    by_cases h_13 : a0 = 42
    · subst h_13
      refine lv_tableIn (off := 165) (tgt := 201) hx hb dX3_readSign_36 (by decide) (by decide) (by decide) (by decide) ?_
      refine lv_aload_n hx hb dX3_readSign_201 rfl (lv_at hl 1 rfl) ?_
      refine lv_bipush (v := 30) hx hb dX3_readSign_202 (by decide) ?_
      refine va_put (D := (dC, dI)) (ci := 3) (v := .int 30) (ty := tyX3 5) (C := RX3) (T := TX3) (N := 9) hx hb htw inlX3 tyX3 tyX3_ok nmX3 hown hK hP hD hS 0 rfl rfl 5 (by decide) (htw _ (ck_14 _ (List.mem_of_getElem? (i := 17) rfl))) (fun _ h9 => h9) rfl (tyX3_ok 5 (by decide)) rfl rfl (Nat.le_of_ble_eq_true rfl) dX3_readSign_204 (fun H locs hP hD hS => ?_)
      obtain ⟨hP, hD⟩ := zre [(eO3a lx lby lfi lco lxe (lxa + 1) 30 lxp lxn lxl), (eA0 lby cBy 900 fBy)] hP hD rfl
      refine lv_goto (tgt := 294) hx hb dX3_readSign_207 (by decide) ?_
      exact hjoin_4 (42 : Int32) (30 : Int32)  (hX_3.trans (by rw [fe_readSign_k]; (try rw [if_neg h_8]); (try rw [if_neg h_9]); (try rw [if_neg h_10]); (try rw [if_neg h_11]); (try rw [if_neg h_12]); (try rw [if_pos rfl]); try rfl)) _ _ ls hP hD hS (lv_sub hl [0, 1, 2] rfl)
    by_cases h_14 : a0 = 43
    · subst h_14
      refine lv_tableIn (off := 147) (tgt := 183) hx hb dX3_readSign_36 (by decide) (by decide) (by decide) (by decide) ?_
      refine lv_aload_n hx hb dX3_readSign_183 rfl (lv_at hl 1 rfl) ?_
      refine lv_bipush (v := 28) hx hb dX3_readSign_184 (by decide) ?_
      refine va_put (D := (dC, dI)) (ci := 3) (v := .int 28) (ty := tyX3 5) (C := RX3) (T := TX3) (N := 9) hx hb htw inlX3 tyX3 tyX3_ok nmX3 hown hK hP hD hS 0 rfl rfl 5 (by decide) (htw _ (ck_14 _ (List.mem_of_getElem? (i := 17) rfl))) (fun _ h9 => h9) rfl (tyX3_ok 5 (by decide)) rfl rfl (Nat.le_of_ble_eq_true rfl) dX3_readSign_186 (fun H locs hP hD hS => ?_)
      obtain ⟨hP, hD⟩ := zre [(eO3a lx lby lfi lco lxe (lxa + 1) 28 lxp lxn lxl), (eA0 lby cBy 900 fBy)] hP hD rfl
      refine lv_goto (tgt := 294) hx hb dX3_readSign_189 (by decide) ?_
      exact hjoin_4 (43 : Int32) (28 : Int32)  (hX_3.trans (by rw [fe_readSign_k]; (try rw [if_neg h_8]); (try rw [if_neg h_9]); (try rw [if_neg h_10]); (try rw [if_neg h_11]); (try rw [if_neg h_12]); (try rw [if_neg h_13]); (try rw [if_pos rfl]); try rfl)) _ _ ls hP hD hS (lv_sub hl [0, 1, 2] rfl)
    by_cases h_15 : a0 = 44
    · subst h_15
      refine lv_tableIn (off := 252) (tgt := 288) hx hb dX3_readSign_36 (by decide) (by decide) (by decide) (by decide) ?_
      refine lv_aload_n hx hb dX3_readSign_288 rfl (lv_at hl 1 rfl) ?_
      refine lv_bipush (v := 39) hx hb dX3_readSign_289 (by decide) ?_
      refine va_put (D := (dC, dI)) (ci := 3) (v := .int 39) (ty := tyX3 5) (C := RX3) (T := TX3) (N := 9) hx hb htw inlX3 tyX3 tyX3_ok nmX3 hown hK hP hD hS 0 rfl rfl 5 (by decide) (htw _ (ck_14 _ (List.mem_of_getElem? (i := 17) rfl))) (fun _ h9 => h9) rfl (tyX3_ok 5 (by decide)) rfl rfl (Nat.le_of_ble_eq_true rfl) dX3_readSign_291 (fun H locs hP hD hS => ?_)
      obtain ⟨hP, hD⟩ := zre [(eO3a lx lby lfi lco lxe (lxa + 1) 39 lxp lxn lxl), (eA0 lby cBy 900 fBy)] hP hD rfl
      exact hjoin_4 (44 : Int32) (39 : Int32)  (hX_3.trans (by rw [fe_readSign_k]; (try rw [if_neg h_8]); (try rw [if_neg h_9]); (try rw [if_neg h_10]); (try rw [if_neg h_11]); (try rw [if_neg h_12]); (try rw [if_neg h_13]); (try rw [if_neg h_14]); (try rw [if_pos rfl]); try rfl)) _ _ ls hP hD hS (lv_sub hl [0, 1, 2] rfl)
    by_cases h_16 : a0 = 45
    · subst h_16
      refine lv_tableIn (off := 156) (tgt := 192) hx hb dX3_readSign_36 (by decide) (by decide) (by decide) (by decide) ?_
      refine lv_aload_n hx hb dX3_readSign_192 rfl (lv_at hl 1 rfl) ?_
      refine lv_bipush (v := 29) hx hb dX3_readSign_193 (by decide) ?_
      refine va_put (D := (dC, dI)) (ci := 3) (v := .int 29) (ty := tyX3 5) (C := RX3) (T := TX3) (N := 9) hx hb htw inlX3 tyX3 tyX3_ok nmX3 hown hK hP hD hS 0 rfl rfl 5 (by decide) (htw _ (ck_14 _ (List.mem_of_getElem? (i := 17) rfl))) (fun _ h9 => h9) rfl (tyX3_ok 5 (by decide)) rfl rfl (Nat.le_of_ble_eq_true rfl) dX3_readSign_195 (fun H locs hP hD hS => ?_)
      obtain ⟨hP, hD⟩ := zre [(eO3a lx lby lfi lco lxe (lxa + 1) 29 lxp lxn lxl), (eA0 lby cBy 900 fBy)] hP hD rfl
      refine lv_goto (tgt := 294) hx hb dX3_readSign_198 (by decide) ?_
      exact hjoin_4 (45 : Int32) (29 : Int32)  (hX_3.trans (by rw [fe_readSign_k]; (try rw [if_neg h_8]); (try rw [if_neg h_9]); (try rw [if_neg h_10]); (try rw [if_neg h_11]); (try rw [if_neg h_12]); (try rw [if_neg h_13]); (try rw [if_neg h_14]); (try rw [if_neg h_15]); (try rw [if_pos rfl]); try rfl)) _ _ ls hP hD hS (lv_sub hl [0, 1, 2] rfl)
    by_cases h_17 : a0 = 46
    · subst h_17
      refine lv_tableIn (off := 252) (tgt := 288) hx hb dX3_readSign_36 (by decide) (by decide) (by decide) (by decide) ?_
      refine lv_aload_n hx hb dX3_readSign_288 rfl (lv_at hl 1 rfl) ?_
      refine lv_bipush (v := 39) hx hb dX3_readSign_289 (by decide) ?_
      refine va_put (D := (dC, dI)) (ci := 3) (v := .int 39) (ty := tyX3 5) (C := RX3) (T := TX3) (N := 9) hx hb htw inlX3 tyX3 tyX3_ok nmX3 hown hK hP hD hS 0 rfl rfl 5 (by decide) (htw _ (ck_14 _ (List.mem_of_getElem? (i := 17) rfl))) (fun _ h9 => h9) rfl (tyX3_ok 5 (by decide)) rfl rfl (Nat.le_of_ble_eq_true rfl) dX3_readSign_291 (fun H locs hP hD hS => ?_)
      obtain ⟨hP, hD⟩ := zre [(eO3a lx lby lfi lco lxe (lxa + 1) 39 lxp lxn lxl), (eA0 lby cBy 900 fBy)] hP hD rfl
      exact hjoin_4 (46 : Int32) (39 : Int32)  (hX_3.trans (by rw [fe_readSign_k]; (try rw [if_neg h_8]); (try rw [if_neg h_9]); (try rw [if_neg h_10]); (try rw [if_neg h_11]); (try rw [if_neg h_12]); (try rw [if_neg h_13]); (try rw [if_neg h_14]); (try rw [if_neg h_15]); (try rw [if_neg h_16]); (try rw [if_pos rfl]); try rfl)) _ _ ls hP hD hS (lv_sub hl [0, 1, 2] rfl)
    by_cases h_18 : a0 = 47
    · subst h_18
      refine lv_tableIn (off := 174) (tgt := 210) hx hb dX3_readSign_36 (by decide) (by decide) (by decide) (by decide) ?_
      refine lv_aload_n hx hb dX3_readSign_210 rfl (lv_at hl 1 rfl) ?_
      refine lv_bipush (v := 31) hx hb dX3_readSign_211 (by decide) ?_
      refine va_put (D := (dC, dI)) (ci := 3) (v := .int 31) (ty := tyX3 5) (C := RX3) (T := TX3) (N := 9) hx hb htw inlX3 tyX3 tyX3_ok nmX3 hown hK hP hD hS 0 rfl rfl 5 (by decide) (htw _ (ck_14 _ (List.mem_of_getElem? (i := 17) rfl))) (fun _ h9 => h9) rfl (tyX3_ok 5 (by decide)) rfl rfl (Nat.le_of_ble_eq_true rfl) dX3_readSign_213 (fun H locs hP hD hS => ?_)
      obtain ⟨hP, hD⟩ := zre [(eO3a lx lby lfi lco lxe (lxa + 1) 31 lxp lxn lxl), (eA0 lby cBy 900 fBy)] hP hD rfl
      refine lv_goto (tgt := 294) hx hb dX3_readSign_216 (by decide) ?_
      exact hjoin_4 (47 : Int32) (31 : Int32)  (hX_3.trans (by rw [fe_readSign_k]; (try rw [if_neg h_8]); (try rw [if_neg h_9]); (try rw [if_neg h_10]); (try rw [if_neg h_11]); (try rw [if_neg h_12]); (try rw [if_neg h_13]); (try rw [if_neg h_14]); (try rw [if_neg h_15]); (try rw [if_neg h_16]); (try rw [if_neg h_17]); (try rw [if_pos rfl]); try rfl)) _ _ ls hP hD hS (lv_sub hl [0, 1, 2] rfl)
    by_cases h_19 : a0 = 48
    · subst h_19
      refine lv_tableIn (off := 252) (tgt := 288) hx hb dX3_readSign_36 (by decide) (by decide) (by decide) (by decide) ?_
      refine lv_aload_n hx hb dX3_readSign_288 rfl (lv_at hl 1 rfl) ?_
      refine lv_bipush (v := 39) hx hb dX3_readSign_289 (by decide) ?_
      refine va_put (D := (dC, dI)) (ci := 3) (v := .int 39) (ty := tyX3 5) (C := RX3) (T := TX3) (N := 9) hx hb htw inlX3 tyX3 tyX3_ok nmX3 hown hK hP hD hS 0 rfl rfl 5 (by decide) (htw _ (ck_14 _ (List.mem_of_getElem? (i := 17) rfl))) (fun _ h9 => h9) rfl (tyX3_ok 5 (by decide)) rfl rfl (Nat.le_of_ble_eq_true rfl) dX3_readSign_291 (fun H locs hP hD hS => ?_)
      obtain ⟨hP, hD⟩ := zre [(eO3a lx lby lfi lco lxe (lxa + 1) 39 lxp lxn lxl), (eA0 lby cBy 900 fBy)] hP hD rfl
      exact hjoin_4 (48 : Int32) (39 : Int32)  (hX_3.trans (by rw [fe_readSign_k]; (try rw [if_neg h_8]); (try rw [if_neg h_9]); (try rw [if_neg h_10]); (try rw [if_neg h_11]); (try rw [if_neg h_12]); (try rw [if_neg h_13]); (try rw [if_neg h_14]); (try rw [if_neg h_15]); (try rw [if_neg h_16]); (try rw [if_neg h_17]); (try rw [if_neg h_18]); (try rw [if_pos rfl]); try rfl)) _ _ ls hP hD hS (lv_sub hl [0, 1, 2] rfl)
    by_cases h_20 : a0 = 49
    · subst h_20
      refine lv_tableIn (off := 252) (tgt := 288) hx hb dX3_readSign_36 (by decide) (by decide) (by decide) (by decide) ?_
      refine lv_aload_n hx hb dX3_readSign_288 rfl (lv_at hl 1 rfl) ?_
      refine lv_bipush (v := 39) hx hb dX3_readSign_289 (by decide) ?_
      refine va_put (D := (dC, dI)) (ci := 3) (v := .int 39) (ty := tyX3 5) (C := RX3) (T := TX3) (N := 9) hx hb htw inlX3 tyX3 tyX3_ok nmX3 hown hK hP hD hS 0 rfl rfl 5 (by decide) (htw _ (ck_14 _ (List.mem_of_getElem? (i := 17) rfl))) (fun _ h9 => h9) rfl (tyX3_ok 5 (by decide)) rfl rfl (Nat.le_of_ble_eq_true rfl) dX3_readSign_291 (fun H locs hP hD hS => ?_)
      obtain ⟨hP, hD⟩ := zre [(eO3a lx lby lfi lco lxe (lxa + 1) 39 lxp lxn lxl), (eA0 lby cBy 900 fBy)] hP hD rfl
      exact hjoin_4 (49 : Int32) (39 : Int32)  (hX_3.trans (by rw [fe_readSign_k]; (try rw [if_neg h_8]); (try rw [if_neg h_9]); (try rw [if_neg h_10]); (try rw [if_neg h_11]); (try rw [if_neg h_12]); (try rw [if_neg h_13]); (try rw [if_neg h_14]); (try rw [if_neg h_15]); (try rw [if_neg h_16]); (try rw [if_neg h_17]); (try rw [if_neg h_18]); (try rw [if_neg h_19]); (try rw [if_pos rfl]); try rfl)) _ _ ls hP hD hS (lv_sub hl [0, 1, 2] rfl)
    by_cases h_21 : a0 = 50
    · subst h_21
      refine lv_tableIn (off := 252) (tgt := 288) hx hb dX3_readSign_36 (by decide) (by decide) (by decide) (by decide) ?_
      refine lv_aload_n hx hb dX3_readSign_288 rfl (lv_at hl 1 rfl) ?_
      refine lv_bipush (v := 39) hx hb dX3_readSign_289 (by decide) ?_
      refine va_put (D := (dC, dI)) (ci := 3) (v := .int 39) (ty := tyX3 5) (C := RX3) (T := TX3) (N := 9) hx hb htw inlX3 tyX3 tyX3_ok nmX3 hown hK hP hD hS 0 rfl rfl 5 (by decide) (htw _ (ck_14 _ (List.mem_of_getElem? (i := 17) rfl))) (fun _ h9 => h9) rfl (tyX3_ok 5 (by decide)) rfl rfl (Nat.le_of_ble_eq_true rfl) dX3_readSign_291 (fun H locs hP hD hS => ?_)
      obtain ⟨hP, hD⟩ := zre [(eO3a lx lby lfi lco lxe (lxa + 1) 39 lxp lxn lxl), (eA0 lby cBy 900 fBy)] hP hD rfl
      exact hjoin_4 (50 : Int32) (39 : Int32)  (hX_3.trans (by rw [fe_readSign_k]; (try rw [if_neg h_8]); (try rw [if_neg h_9]); (try rw [if_neg h_10]); (try rw [if_neg h_11]); (try rw [if_neg h_12]); (try rw [if_neg h_13]); (try rw [if_neg h_14]); (try rw [if_neg h_15]); (try rw [if_neg h_16]); (try rw [if_neg h_17]); (try rw [if_neg h_18]); (try rw [if_neg h_19]); (try rw [if_neg h_20]); (try rw [if_pos rfl]); try rfl)) _ _ ls hP hD hS (lv_sub hl [0, 1, 2] rfl)
    by_cases h_22 : a0 = 51
    · subst h_22
      refine lv_tableIn (off := 252) (tgt := 288) hx hb dX3_readSign_36 (by decide) (by decide) (by decide) (by decide) ?_
      refine lv_aload_n hx hb dX3_readSign_288 rfl (lv_at hl 1 rfl) ?_
      refine lv_bipush (v := 39) hx hb dX3_readSign_289 (by decide) ?_
      refine va_put (D := (dC, dI)) (ci := 3) (v := .int 39) (ty := tyX3 5) (C := RX3) (T := TX3) (N := 9) hx hb htw inlX3 tyX3 tyX3_ok nmX3 hown hK hP hD hS 0 rfl rfl 5 (by decide) (htw _ (ck_14 _ (List.mem_of_getElem? (i := 17) rfl))) (fun _ h9 => h9) rfl (tyX3_ok 5 (by decide)) rfl rfl (Nat.le_of_ble_eq_true rfl) dX3_readSign_291 (fun H locs hP hD hS => ?_)
      obtain ⟨hP, hD⟩ := zre [(eO3a lx lby lfi lco lxe (lxa + 1) 39 lxp lxn lxl), (eA0 lby cBy 900 fBy)] hP hD rfl
      exact hjoin_4 (51 : Int32) (39 : Int32)  (hX_3.trans (by rw [fe_readSign_k]; (try rw [if_neg h_8]); (try rw [if_neg h_9]); (try rw [if_neg h_10]); (try rw [if_neg h_11]); (try rw [if_neg h_12]); (try rw [if_neg h_13]); (try rw [if_neg h_14]); (try rw [if_neg h_15]); (try rw [if_neg h_16]); (try rw [if_neg h_17]); (try rw [if_neg h_18]); (try rw [if_neg h_19]); (try rw [if_neg h_20]); (try rw [if_neg h_21]); (try rw [if_pos rfl]); try rfl)) _ _ ls hP hD hS (lv_sub hl [0, 1, 2] rfl)
    by_cases h_23 : a0 = 52
    · subst h_23
      refine lv_tableIn (off := 252) (tgt := 288) hx hb dX3_readSign_36 (by decide) (by decide) (by decide) (by decide) ?_
      refine lv_aload_n hx hb dX3_readSign_288 rfl (lv_at hl 1 rfl) ?_
      refine lv_bipush (v := 39) hx hb dX3_readSign_289 (by decide) ?_
      refine va_put (D := (dC, dI)) (ci := 3) (v := .int 39) (ty := tyX3 5) (C := RX3) (T := TX3) (N := 9) hx hb htw inlX3 tyX3 tyX3_ok nmX3 hown hK hP hD hS 0 rfl rfl 5 (by decide) (htw _ (ck_14 _ (List.mem_of_getElem? (i := 17) rfl))) (fun _ h9 => h9) rfl (tyX3_ok 5 (by decide)) rfl rfl (Nat.le_of_ble_eq_true rfl) dX3_readSign_291 (fun H locs hP hD hS => ?_)
      obtain ⟨hP, hD⟩ := zre [(eO3a lx lby lfi lco lxe (lxa + 1) 39 lxp lxn lxl), (eA0 lby cBy 900 fBy)] hP hD rfl
      exact hjoin_4 (52 : Int32) (39 : Int32)  (hX_3.trans (by rw [fe_readSign_k]; (try rw [if_neg h_8]); (try rw [if_neg h_9]); (try rw [if_neg h_10]); (try rw [if_neg h_11]); (try rw [if_neg h_12]); (try rw [if_neg h_13]); (try rw [if_neg h_14]); (try rw [if_neg h_15]); (try rw [if_neg h_16]); (try rw [if_neg h_17]); (try rw [if_neg h_18]); (try rw [if_neg h_19]); (try rw [if_neg h_20]); (try rw [if_neg h_21]); (try rw [if_neg h_22]); (try rw [if_pos rfl]); try rfl)) _ _ ls hP hD hS (lv_sub hl [0, 1, 2] rfl)
    by_cases h_24 : a0 = 53
    · subst h_24
      refine lv_tableIn (off := 252) (tgt := 288) hx hb dX3_readSign_36 (by decide) (by decide) (by decide) (by decide) ?_
      refine lv_aload_n hx hb dX3_readSign_288 rfl (lv_at hl 1 rfl) ?_
      refine lv_bipush (v := 39) hx hb dX3_readSign_289 (by decide) ?_
      refine va_put (D := (dC, dI)) (ci := 3) (v := .int 39) (ty := tyX3 5) (C := RX3) (T := TX3) (N := 9) hx hb htw inlX3 tyX3 tyX3_ok nmX3 hown hK hP hD hS 0 rfl rfl 5 (by decide) (htw _ (ck_14 _ (List.mem_of_getElem? (i := 17) rfl))) (fun _ h9 => h9) rfl (tyX3_ok 5 (by decide)) rfl rfl (Nat.le_of_ble_eq_true rfl) dX3_readSign_291 (fun H locs hP hD hS => ?_)
      obtain ⟨hP, hD⟩ := zre [(eO3a lx lby lfi lco lxe (lxa + 1) 39 lxp lxn lxl), (eA0 lby cBy 900 fBy)] hP hD rfl
      exact hjoin_4 (53 : Int32) (39 : Int32)  (hX_3.trans (by rw [fe_readSign_k]; (try rw [if_neg h_8]); (try rw [if_neg h_9]); (try rw [if_neg h_10]); (try rw [if_neg h_11]); (try rw [if_neg h_12]); (try rw [if_neg h_13]); (try rw [if_neg h_14]); (try rw [if_neg h_15]); (try rw [if_neg h_16]); (try rw [if_neg h_17]); (try rw [if_neg h_18]); (try rw [if_neg h_19]); (try rw [if_neg h_20]); (try rw [if_neg h_21]); (try rw [if_neg h_22]); (try rw [if_neg h_23]); (try rw [if_pos rfl]); try rfl)) _ _ ls hP hD hS (lv_sub hl [0, 1, 2] rfl)
    by_cases h_25 : a0 = 54
    · subst h_25
      refine lv_tableIn (off := 252) (tgt := 288) hx hb dX3_readSign_36 (by decide) (by decide) (by decide) (by decide) ?_
      refine lv_aload_n hx hb dX3_readSign_288 rfl (lv_at hl 1 rfl) ?_
      refine lv_bipush (v := 39) hx hb dX3_readSign_289 (by decide) ?_
      refine va_put (D := (dC, dI)) (ci := 3) (v := .int 39) (ty := tyX3 5) (C := RX3) (T := TX3) (N := 9) hx hb htw inlX3 tyX3 tyX3_ok nmX3 hown hK hP hD hS 0 rfl rfl 5 (by decide) (htw _ (ck_14 _ (List.mem_of_getElem? (i := 17) rfl))) (fun _ h9 => h9) rfl (tyX3_ok 5 (by decide)) rfl rfl (Nat.le_of_ble_eq_true rfl) dX3_readSign_291 (fun H locs hP hD hS => ?_)
      obtain ⟨hP, hD⟩ := zre [(eO3a lx lby lfi lco lxe (lxa + 1) 39 lxp lxn lxl), (eA0 lby cBy 900 fBy)] hP hD rfl
      exact hjoin_4 (54 : Int32) (39 : Int32)  (hX_3.trans (by rw [fe_readSign_k]; (try rw [if_neg h_8]); (try rw [if_neg h_9]); (try rw [if_neg h_10]); (try rw [if_neg h_11]); (try rw [if_neg h_12]); (try rw [if_neg h_13]); (try rw [if_neg h_14]); (try rw [if_neg h_15]); (try rw [if_neg h_16]); (try rw [if_neg h_17]); (try rw [if_neg h_18]); (try rw [if_neg h_19]); (try rw [if_neg h_20]); (try rw [if_neg h_21]); (try rw [if_neg h_22]); (try rw [if_neg h_23]); (try rw [if_neg h_24]); (try rw [if_pos rfl]); try rfl)) _ _ ls hP hD hS (lv_sub hl [0, 1, 2] rfl)
    by_cases h_26 : a0 = 55
    · subst h_26
      refine lv_tableIn (off := 252) (tgt := 288) hx hb dX3_readSign_36 (by decide) (by decide) (by decide) (by decide) ?_
      refine lv_aload_n hx hb dX3_readSign_288 rfl (lv_at hl 1 rfl) ?_
      refine lv_bipush (v := 39) hx hb dX3_readSign_289 (by decide) ?_
      refine va_put (D := (dC, dI)) (ci := 3) (v := .int 39) (ty := tyX3 5) (C := RX3) (T := TX3) (N := 9) hx hb htw inlX3 tyX3 tyX3_ok nmX3 hown hK hP hD hS 0 rfl rfl 5 (by decide) (htw _ (ck_14 _ (List.mem_of_getElem? (i := 17) rfl))) (fun _ h9 => h9) rfl (tyX3_ok 5 (by decide)) rfl rfl (Nat.le_of_ble_eq_true rfl) dX3_readSign_291 (fun H locs hP hD hS => ?_)
      obtain ⟨hP, hD⟩ := zre [(eO3a lx lby lfi lco lxe (lxa + 1) 39 lxp lxn lxl), (eA0 lby cBy 900 fBy)] hP hD rfl
      exact hjoin_4 (55 : Int32) (39 : Int32)  (hX_3.trans (by rw [fe_readSign_k]; (try rw [if_neg h_8]); (try rw [if_neg h_9]); (try rw [if_neg h_10]); (try rw [if_neg h_11]); (try rw [if_neg h_12]); (try rw [if_neg h_13]); (try rw [if_neg h_14]); (try rw [if_neg h_15]); (try rw [if_neg h_16]); (try rw [if_neg h_17]); (try rw [if_neg h_18]); (try rw [if_neg h_19]); (try rw [if_neg h_20]); (try rw [if_neg h_21]); (try rw [if_neg h_22]); (try rw [if_neg h_23]); (try rw [if_neg h_24]); (try rw [if_neg h_25]); (try rw [if_pos rfl]); try rfl)) _ _ ls hP hD hS (lv_sub hl [0, 1, 2] rfl)
    by_cases h_27 : a0 = 56
    · subst h_27
      refine lv_tableIn (off := 252) (tgt := 288) hx hb dX3_readSign_36 (by decide) (by decide) (by decide) (by decide) ?_
      refine lv_aload_n hx hb dX3_readSign_288 rfl (lv_at hl 1 rfl) ?_
      refine lv_bipush (v := 39) hx hb dX3_readSign_289 (by decide) ?_
      refine va_put (D := (dC, dI)) (ci := 3) (v := .int 39) (ty := tyX3 5) (C := RX3) (T := TX3) (N := 9) hx hb htw inlX3 tyX3 tyX3_ok nmX3 hown hK hP hD hS 0 rfl rfl 5 (by decide) (htw _ (ck_14 _ (List.mem_of_getElem? (i := 17) rfl))) (fun _ h9 => h9) rfl (tyX3_ok 5 (by decide)) rfl rfl (Nat.le_of_ble_eq_true rfl) dX3_readSign_291 (fun H locs hP hD hS => ?_)
      obtain ⟨hP, hD⟩ := zre [(eO3a lx lby lfi lco lxe (lxa + 1) 39 lxp lxn lxl), (eA0 lby cBy 900 fBy)] hP hD rfl
      exact hjoin_4 (56 : Int32) (39 : Int32)  (hX_3.trans (by rw [fe_readSign_k]; (try rw [if_neg h_8]); (try rw [if_neg h_9]); (try rw [if_neg h_10]); (try rw [if_neg h_11]); (try rw [if_neg h_12]); (try rw [if_neg h_13]); (try rw [if_neg h_14]); (try rw [if_neg h_15]); (try rw [if_neg h_16]); (try rw [if_neg h_17]); (try rw [if_neg h_18]); (try rw [if_neg h_19]); (try rw [if_neg h_20]); (try rw [if_neg h_21]); (try rw [if_neg h_22]); (try rw [if_neg h_23]); (try rw [if_neg h_24]); (try rw [if_neg h_25]); (try rw [if_neg h_26]); (try rw [if_pos rfl]); try rfl)) _ _ ls hP hD hS (lv_sub hl [0, 1, 2] rfl)
    by_cases h_28 : a0 = 57
    · subst h_28
      refine lv_tableIn (off := 252) (tgt := 288) hx hb dX3_readSign_36 (by decide) (by decide) (by decide) (by decide) ?_
      refine lv_aload_n hx hb dX3_readSign_288 rfl (lv_at hl 1 rfl) ?_
      refine lv_bipush (v := 39) hx hb dX3_readSign_289 (by decide) ?_
      refine va_put (D := (dC, dI)) (ci := 3) (v := .int 39) (ty := tyX3 5) (C := RX3) (T := TX3) (N := 9) hx hb htw inlX3 tyX3 tyX3_ok nmX3 hown hK hP hD hS 0 rfl rfl 5 (by decide) (htw _ (ck_14 _ (List.mem_of_getElem? (i := 17) rfl))) (fun _ h9 => h9) rfl (tyX3_ok 5 (by decide)) rfl rfl (Nat.le_of_ble_eq_true rfl) dX3_readSign_291 (fun H locs hP hD hS => ?_)
      obtain ⟨hP, hD⟩ := zre [(eO3a lx lby lfi lco lxe (lxa + 1) 39 lxp lxn lxl), (eA0 lby cBy 900 fBy)] hP hD rfl
      exact hjoin_4 (57 : Int32) (39 : Int32)  (hX_3.trans (by rw [fe_readSign_k]; (try rw [if_neg h_8]); (try rw [if_neg h_9]); (try rw [if_neg h_10]); (try rw [if_neg h_11]); (try rw [if_neg h_12]); (try rw [if_neg h_13]); (try rw [if_neg h_14]); (try rw [if_neg h_15]); (try rw [if_neg h_16]); (try rw [if_neg h_17]); (try rw [if_neg h_18]); (try rw [if_neg h_19]); (try rw [if_neg h_20]); (try rw [if_neg h_21]); (try rw [if_neg h_22]); (try rw [if_neg h_23]); (try rw [if_neg h_24]); (try rw [if_neg h_25]); (try rw [if_neg h_26]); (try rw [if_neg h_27]); (try rw [if_pos rfl]); try rfl)) _ _ ls hP hD hS (lv_sub hl [0, 1, 2] rfl)
    by_cases h_29 : a0 = 58
    · subst h_29
      refine lv_tableIn (off := 252) (tgt := 288) hx hb dX3_readSign_36 (by decide) (by decide) (by decide) (by decide) ?_
      refine lv_aload_n hx hb dX3_readSign_288 rfl (lv_at hl 1 rfl) ?_
      refine lv_bipush (v := 39) hx hb dX3_readSign_289 (by decide) ?_
      refine va_put (D := (dC, dI)) (ci := 3) (v := .int 39) (ty := tyX3 5) (C := RX3) (T := TX3) (N := 9) hx hb htw inlX3 tyX3 tyX3_ok nmX3 hown hK hP hD hS 0 rfl rfl 5 (by decide) (htw _ (ck_14 _ (List.mem_of_getElem? (i := 17) rfl))) (fun _ h9 => h9) rfl (tyX3_ok 5 (by decide)) rfl rfl (Nat.le_of_ble_eq_true rfl) dX3_readSign_291 (fun H locs hP hD hS => ?_)
      obtain ⟨hP, hD⟩ := zre [(eO3a lx lby lfi lco lxe (lxa + 1) 39 lxp lxn lxl), (eA0 lby cBy 900 fBy)] hP hD rfl
      exact hjoin_4 (58 : Int32) (39 : Int32)  (hX_3.trans (by rw [fe_readSign_k]; (try rw [if_neg h_8]); (try rw [if_neg h_9]); (try rw [if_neg h_10]); (try rw [if_neg h_11]); (try rw [if_neg h_12]); (try rw [if_neg h_13]); (try rw [if_neg h_14]); (try rw [if_neg h_15]); (try rw [if_neg h_16]); (try rw [if_neg h_17]); (try rw [if_neg h_18]); (try rw [if_neg h_19]); (try rw [if_neg h_20]); (try rw [if_neg h_21]); (try rw [if_neg h_22]); (try rw [if_neg h_23]); (try rw [if_neg h_24]); (try rw [if_neg h_25]); (try rw [if_neg h_26]); (try rw [if_neg h_27]); (try rw [if_neg h_28]); (try rw [if_pos rfl]); try rfl)) _ _ ls hP hD hS (lv_sub hl [0, 1, 2] rfl)
    by_cases h_30 : a0 = 59
    · subst h_30
      refine lv_tableIn (off := 120) (tgt := 156) hx hb dX3_readSign_36 (by decide) (by decide) (by decide) (by decide) ?_
      refine lv_aload_n hx hb dX3_readSign_156 rfl (lv_at hl 1 rfl) ?_
      refine lv_bipush (v := 25) hx hb dX3_readSign_157 (by decide) ?_
      refine va_put (D := (dC, dI)) (ci := 3) (v := .int 25) (ty := tyX3 5) (C := RX3) (T := TX3) (N := 9) hx hb htw inlX3 tyX3 tyX3_ok nmX3 hown hK hP hD hS 0 rfl rfl 5 (by decide) (htw _ (ck_14 _ (List.mem_of_getElem? (i := 17) rfl))) (fun _ h9 => h9) rfl (tyX3_ok 5 (by decide)) rfl rfl (Nat.le_of_ble_eq_true rfl) dX3_readSign_159 (fun H locs hP hD hS => ?_)
      obtain ⟨hP, hD⟩ := zre [(eO3a lx lby lfi lco lxe (lxa + 1) 25 lxp lxn lxl), (eA0 lby cBy 900 fBy)] hP hD rfl
      refine lv_goto (tgt := 294) hx hb dX3_readSign_162 (by decide) ?_
      exact hjoin_4 (59 : Int32) (25 : Int32)  (hX_3.trans (by rw [fe_readSign_k]; (try rw [if_neg h_8]); (try rw [if_neg h_9]); (try rw [if_neg h_10]); (try rw [if_neg h_11]); (try rw [if_neg h_12]); (try rw [if_neg h_13]); (try rw [if_neg h_14]); (try rw [if_neg h_15]); (try rw [if_neg h_16]); (try rw [if_neg h_17]); (try rw [if_neg h_18]); (try rw [if_neg h_19]); (try rw [if_neg h_20]); (try rw [if_neg h_21]); (try rw [if_neg h_22]); (try rw [if_neg h_23]); (try rw [if_neg h_24]); (try rw [if_neg h_25]); (try rw [if_neg h_26]); (try rw [if_neg h_27]); (try rw [if_neg h_28]); (try rw [if_neg h_29]); (try rw [if_pos rfl]); try rfl)) _ _ ls hP hD hS (lv_sub hl [0, 1, 2] rfl)
    by_cases h_31 : a0 = 60
    · subst h_31
      refine lv_tableIn (off := 201) (tgt := 237) hx hb dX3_readSign_36 (by decide) (by decide) (by decide) (by decide) ?_
      refine lv_aload_n hx hb dX3_readSign_237 rfl (lv_at hl 1 rfl) ?_
      refine lv_iload_n hx hb dX3_readSign_238 rfl (lv_at hl 0 rfl) ?_
      refine lv_bipush (v := 61) hx hb dX3_readSign_239 (by decide) ?_
      refine lv_icmp_ne (tgt := 249) hx hb dX3_readSign_241 (by decide) (fun c_32 => ?_) (fun c_32 => ?_)
      · refine lv_iload_n hx hb dX3_readSign_249 rfl (lv_at hl 0 rfl) ?_
        refine lv_bipush (v := 62) hx hb dX3_readSign_250 (by decide) ?_
        refine lv_icmp_ne (tgt := 260) hx hb dX3_readSign_252 (by decide) (fun c_33 => ?_) (fun c_33 => ?_)
        · refine lv_bipush (v := 33) hx hb dX3_readSign_260 (by decide) ?_
          refine va_put (D := (dC, dI)) (ci := 3) (v := .int 33) (ty := tyX3 5) (C := RX3) (T := TX3) (N := 9) hx hb htw inlX3 tyX3 tyX3_ok nmX3 hown hK hP hD hS 0 rfl rfl 5 (by decide) (htw _ (ck_14 _ (List.mem_of_getElem? (i := 17) rfl))) (fun _ h9 => h9) rfl (tyX3_ok 5 (by decide)) rfl rfl (Nat.le_of_ble_eq_true rfl) dX3_readSign_262 (fun H locs hP hD hS => ?_)
          obtain ⟨hP, hD⟩ := zre [(eO3a lx lby lfi lco lxe (lxa + 1) 33 lxp lxn lxl), (eA0 lby cBy 900 fBy)] hP hD rfl
          refine lv_goto (tgt := 294) hx hb dX3_readSign_265 (by decide) ?_
          exact hjoin_4 (60 : Int32) (33 : Int32)  (hX_3.trans (by rw [fe_readSign_k]; (try rw [if_neg h_8]); (try rw [if_neg h_9]); (try rw [if_neg h_10]); (try rw [if_neg h_11]); (try rw [if_neg h_12]); (try rw [if_neg h_13]); (try rw [if_neg h_14]); (try rw [if_neg h_15]); (try rw [if_neg h_16]); (try rw [if_neg h_17]); (try rw [if_neg h_18]); (try rw [if_neg h_19]); (try rw [if_neg h_20]); (try rw [if_neg h_21]); (try rw [if_neg h_22]); (try rw [if_neg h_23]); (try rw [if_neg h_24]); (try rw [if_neg h_25]); (try rw [if_neg h_26]); (try rw [if_neg h_27]); (try rw [if_neg h_28]); (try rw [if_neg h_29]); (try rw [if_neg h_30]); (try rw [if_pos rfl]); (try rw [if_neg c_32]); (try rw [if_neg c_33]); try rfl)) _ _ ls hP hD hS (lv_sub hl [0, 1, 2] rfl)
        · refine lv_bipush (v := 36) hx hb dX3_readSign_255 (by decide) ?_
          refine lv_goto (tgt := 262) hx hb dX3_readSign_257 (by decide) ?_
          refine va_put (D := (dC, dI)) (ci := 3) (v := .int 36) (ty := tyX3 5) (C := RX3) (T := TX3) (N := 9) hx hb htw inlX3 tyX3 tyX3_ok nmX3 hown hK hP hD hS 0 rfl rfl 5 (by decide) (htw _ (ck_14 _ (List.mem_of_getElem? (i := 17) rfl))) (fun _ h9 => h9) rfl (tyX3_ok 5 (by decide)) rfl rfl (Nat.le_of_ble_eq_true rfl) dX3_readSign_262 (fun H locs hP hD hS => ?_)
          obtain ⟨hP, hD⟩ := zre [(eO3a lx lby lfi lco lxe (lxa + 1) 36 lxp lxn lxl), (eA0 lby cBy 900 fBy)] hP hD rfl
          refine lv_goto (tgt := 294) hx hb dX3_readSign_265 (by decide) ?_
          exact hjoin_4 (60 : Int32) (36 : Int32)  (hX_3.trans (by rw [fe_readSign_k]; (try rw [if_neg h_8]); (try rw [if_neg h_9]); (try rw [if_neg h_10]); (try rw [if_neg h_11]); (try rw [if_neg h_12]); (try rw [if_neg h_13]); (try rw [if_neg h_14]); (try rw [if_neg h_15]); (try rw [if_neg h_16]); (try rw [if_neg h_17]); (try rw [if_neg h_18]); (try rw [if_neg h_19]); (try rw [if_neg h_20]); (try rw [if_neg h_21]); (try rw [if_neg h_22]); (try rw [if_neg h_23]); (try rw [if_neg h_24]); (try rw [if_neg h_25]); (try rw [if_neg h_26]); (try rw [if_neg h_27]); (try rw [if_neg h_28]); (try rw [if_neg h_29]); (try rw [if_neg h_30]); (try rw [if_pos rfl]); (try rw [if_neg c_32]); (try rw [if_pos c_33]); try rfl)) _ _ ls hP hD hS (lv_sub hl [0, 1, 2] rfl)
      · refine lv_bipush (v := 34) hx hb dX3_readSign_244 (by decide) ?_
        refine lv_goto (tgt := 262) hx hb dX3_readSign_246 (by decide) ?_
        refine va_put (D := (dC, dI)) (ci := 3) (v := .int 34) (ty := tyX3 5) (C := RX3) (T := TX3) (N := 9) hx hb htw inlX3 tyX3 tyX3_ok nmX3 hown hK hP hD hS 0 rfl rfl 5 (by decide) (htw _ (ck_14 _ (List.mem_of_getElem? (i := 17) rfl))) (fun _ h9 => h9) rfl (tyX3_ok 5 (by decide)) rfl rfl (Nat.le_of_ble_eq_true rfl) dX3_readSign_262 (fun H locs hP hD hS => ?_)
        obtain ⟨hP, hD⟩ := zre [(eO3a lx lby lfi lco lxe (lxa + 1) 34 lxp lxn lxl), (eA0 lby cBy 900 fBy)] hP hD rfl
        refine lv_goto (tgt := 294) hx hb dX3_readSign_265 (by decide) ?_
        exact hjoin_4 (60 : Int32) (34 : Int32)  (hX_3.trans (by rw [fe_readSign_k]; (try rw [if_neg h_8]); (try rw [if_neg h_9]); (try rw [if_neg h_10]); (try rw [if_neg h_11]); (try rw [if_neg h_12]); (try rw [if_neg h_13]); (try rw [if_neg h_14]); (try rw [if_neg h_15]); (try rw [if_neg h_16]); (try rw [if_neg h_17]); (try rw [if_neg h_18]); (try rw [if_neg h_19]); (try rw [if_neg h_20]); (try rw [if_neg h_21]); (try rw [if_neg h_22]); (try rw [if_neg h_23]); (try rw [if_neg h_24]); (try rw [if_neg h_25]); (try rw [if_neg h_26]); (try rw [if_neg h_27]); (try rw [if_neg h_28]); (try rw [if_neg h_29]); (try rw [if_neg h_30]); (try rw [if_pos rfl]); (try rw [if_pos c_32]); try rfl)) _ _ ls hP hD hS (lv_sub hl [0, 1, 2] rfl)
    by_cases h_34 : a0 = 61
    · subst h_34
      refine lv_tableIn (off := 192) (tgt := 228) hx hb dX3_readSign_36 (by decide) (by decide) (by decide) (by decide) ?_
      refine lv_aload_n hx hb dX3_readSign_228 rfl (lv_at hl 1 rfl) ?_
      refine lv_bipush (v := 35) hx hb dX3_readSign_229 (by decide) ?_
      refine va_put (D := (dC, dI)) (ci := 3) (v := .int 35) (ty := tyX3 5) (C := RX3) (T := TX3) (N := 9) hx hb htw inlX3 tyX3 tyX3_ok nmX3 hown hK hP hD hS 0 rfl rfl 5 (by decide) (htw _ (ck_14 _ (List.mem_of_getElem? (i := 17) rfl))) (fun _ h9 => h9) rfl (tyX3_ok 5 (by decide)) rfl rfl (Nat.le_of_ble_eq_true rfl) dX3_readSign_231 (fun H locs hP hD hS => ?_)
      obtain ⟨hP, hD⟩ := zre [(eO3a lx lby lfi lco lxe (lxa + 1) 35 lxp lxn lxl), (eA0 lby cBy 900 fBy)] hP hD rfl
      refine lv_goto (tgt := 294) hx hb dX3_readSign_234 (by decide) ?_
      exact hjoin_4 (61 : Int32) (35 : Int32)  (hX_3.trans (by rw [fe_readSign_k]; (try rw [if_neg h_8]); (try rw [if_neg h_9]); (try rw [if_neg h_10]); (try rw [if_neg h_11]); (try rw [if_neg h_12]); (try rw [if_neg h_13]); (try rw [if_neg h_14]); (try rw [if_neg h_15]); (try rw [if_neg h_16]); (try rw [if_neg h_17]); (try rw [if_neg h_18]); (try rw [if_neg h_19]); (try rw [if_neg h_20]); (try rw [if_neg h_21]); (try rw [if_neg h_22]); (try rw [if_neg h_23]); (try rw [if_neg h_24]); (try rw [if_neg h_25]); (try rw [if_neg h_26]); (try rw [if_neg h_27]); (try rw [if_neg h_28]); (try rw [if_neg h_29]); (try rw [if_neg h_30]); (try rw [if_neg h_31]); (try rw [if_pos rfl]); try rfl)) _ _ ls hP hD hS (lv_sub hl [0, 1, 2] rfl)
    by_cases h_35 : a0 = 62
    · subst h_35
      refine lv_tableIn (off := 232) (tgt := 268) hx hb dX3_readSign_36 (by decide) (by decide) (by decide) (by decide) ?_
      refine lv_aload_n hx hb dX3_readSign_268 rfl (lv_at hl 1 rfl) ?_
      refine lv_iload_n hx hb dX3_readSign_269 rfl (lv_at hl 0 rfl) ?_
      refine lv_bipush (v := 61) hx hb dX3_readSign_270 (by decide) ?_
      refine lv_icmp_ne (tgt := 280) hx hb dX3_readSign_272 (by decide) (fun c_36 => ?_) (fun c_36 => ?_)
      · refine lv_bipush (v := 38) hx hb dX3_readSign_280 (by decide) ?_
        refine va_put (D := (dC, dI)) (ci := 3) (v := .int 38) (ty := tyX3 5) (C := RX3) (T := TX3) (N := 9) hx hb htw inlX3 tyX3 tyX3_ok nmX3 hown hK hP hD hS 0 rfl rfl 5 (by decide) (htw _ (ck_14 _ (List.mem_of_getElem? (i := 17) rfl))) (fun _ h9 => h9) rfl (tyX3_ok 5 (by decide)) rfl rfl (Nat.le_of_ble_eq_true rfl) dX3_readSign_282 (fun H locs hP hD hS => ?_)
        obtain ⟨hP, hD⟩ := zre [(eO3a lx lby lfi lco lxe (lxa + 1) 38 lxp lxn lxl), (eA0 lby cBy 900 fBy)] hP hD rfl
        refine lv_goto (tgt := 294) hx hb dX3_readSign_285 (by decide) ?_
        exact hjoin_4 (62 : Int32) (38 : Int32)  (hX_3.trans (by rw [fe_readSign_k]; (try rw [if_neg h_8]); (try rw [if_neg h_9]); (try rw [if_neg h_10]); (try rw [if_neg h_11]); (try rw [if_neg h_12]); (try rw [if_neg h_13]); (try rw [if_neg h_14]); (try rw [if_neg h_15]); (try rw [if_neg h_16]); (try rw [if_neg h_17]); (try rw [if_neg h_18]); (try rw [if_neg h_19]); (try rw [if_neg h_20]); (try rw [if_neg h_21]); (try rw [if_neg h_22]); (try rw [if_neg h_23]); (try rw [if_neg h_24]); (try rw [if_neg h_25]); (try rw [if_neg h_26]); (try rw [if_neg h_27]); (try rw [if_neg h_28]); (try rw [if_neg h_29]); (try rw [if_neg h_30]); (try rw [if_neg h_31]); (try rw [if_neg h_34]); (try rw [if_pos rfl]); (try rw [if_neg c_36]); try rfl)) _ _ ls hP hD hS (lv_sub hl [0, 1, 2] rfl)
      · refine lv_bipush (v := 37) hx hb dX3_readSign_275 (by decide) ?_
        refine lv_goto (tgt := 282) hx hb dX3_readSign_277 (by decide) ?_
        refine va_put (D := (dC, dI)) (ci := 3) (v := .int 37) (ty := tyX3 5) (C := RX3) (T := TX3) (N := 9) hx hb htw inlX3 tyX3 tyX3_ok nmX3 hown hK hP hD hS 0 rfl rfl 5 (by decide) (htw _ (ck_14 _ (List.mem_of_getElem? (i := 17) rfl))) (fun _ h9 => h9) rfl (tyX3_ok 5 (by decide)) rfl rfl (Nat.le_of_ble_eq_true rfl) dX3_readSign_282 (fun H locs hP hD hS => ?_)
        obtain ⟨hP, hD⟩ := zre [(eO3a lx lby lfi lco lxe (lxa + 1) 37 lxp lxn lxl), (eA0 lby cBy 900 fBy)] hP hD rfl
        refine lv_goto (tgt := 294) hx hb dX3_readSign_285 (by decide) ?_
        exact hjoin_4 (62 : Int32) (37 : Int32)  (hX_3.trans (by rw [fe_readSign_k]; (try rw [if_neg h_8]); (try rw [if_neg h_9]); (try rw [if_neg h_10]); (try rw [if_neg h_11]); (try rw [if_neg h_12]); (try rw [if_neg h_13]); (try rw [if_neg h_14]); (try rw [if_neg h_15]); (try rw [if_neg h_16]); (try rw [if_neg h_17]); (try rw [if_neg h_18]); (try rw [if_neg h_19]); (try rw [if_neg h_20]); (try rw [if_neg h_21]); (try rw [if_neg h_22]); (try rw [if_neg h_23]); (try rw [if_neg h_24]); (try rw [if_neg h_25]); (try rw [if_neg h_26]); (try rw [if_neg h_27]); (try rw [if_neg h_28]); (try rw [if_neg h_29]); (try rw [if_neg h_30]); (try rw [if_neg h_31]); (try rw [if_neg h_34]); (try rw [if_pos rfl]); (try rw [if_pos c_36]); try rfl)) _ _ ls hP hD hS (lv_sub hl [0, 1, 2] rfl)
    refine lv_tableOut (tgt := 288) hx hb dX3_readSign_36 (by have a0 := xg_ne h_8; have a1 := xg_ne h_9; have a2 := xg_ne h_10; have a3 := xg_ne h_11; have a4 := xg_ne h_12; have a5 := xg_ne h_13; have a6 := xg_ne h_14; have a7 := xg_ne h_15; have a8 := xg_ne h_16; have a9 := xg_ne h_17; have a10 := xg_ne h_18; have a11 := xg_ne h_19; have a12 := xg_ne h_20; have a13 := xg_ne h_21; have a14 := xg_ne h_22; have a15 := xg_ne h_23; have a16 := xg_ne h_24; have a17 := xg_ne h_25; have a18 := xg_ne h_26; have a19 := xg_ne h_27; have a20 := xg_ne h_28; have a21 := xg_ne h_29; have a22 := xg_ne h_30; have a23 := xg_ne h_31; have a24 := xg_ne h_34; have a25 := xg_ne h_35; have b0 : (37 : Int32).toInt = 37 := rfl; have b1 : (38 : Int32).toInt = 38 := rfl; have b2 : (39 : Int32).toInt = 39 := rfl; have b3 : (40 : Int32).toInt = 40 := rfl; have b4 : (41 : Int32).toInt = 41 := rfl; have b5 : (42 : Int32).toInt = 42 := rfl; have b6 : (43 : Int32).toInt = 43 := rfl; have b7 : (44 : Int32).toInt = 44 := rfl; have b8 : (45 : Int32).toInt = 45 := rfl; have b9 : (46 : Int32).toInt = 46 := rfl; have b10 : (47 : Int32).toInt = 47 := rfl; have b11 : (48 : Int32).toInt = 48 := rfl; have b12 : (49 : Int32).toInt = 49 := rfl; have b13 : (50 : Int32).toInt = 50 := rfl; have b14 : (51 : Int32).toInt = 51 := rfl; have b15 : (52 : Int32).toInt = 52 := rfl; have b16 : (53 : Int32).toInt = 53 := rfl; have b17 : (54 : Int32).toInt = 54 := rfl; have b18 : (55 : Int32).toInt = 55 := rfl; have b19 : (56 : Int32).toInt = 56 := rfl; have b20 : (57 : Int32).toInt = 57 := rfl; have b21 : (58 : Int32).toInt = 58 := rfl; have b22 : (59 : Int32).toInt = 59 := rfl; have b23 : (60 : Int32).toInt = 60 := rfl; have b24 : (61 : Int32).toInt = 61 := rfl; have b25 : (62 : Int32).toInt = 62 := rfl; omega) (by decide) ?_
    refine lv_aload_n hx hb dX3_readSign_288 rfl (lv_at hl 1 rfl) ?_
    refine lv_bipush (v := 39) hx hb dX3_readSign_289 (by decide) ?_
    refine va_put (D := (dC, dI)) (ci := 3) (v := .int 39) (ty := tyX3 5) (C := RX3) (T := TX3) (N := 9) hx hb htw inlX3 tyX3 tyX3_ok nmX3 hown hK hP hD hS 0 rfl rfl 5 (by decide) (htw _ (ck_14 _ (List.mem_of_getElem? (i := 17) rfl))) (fun _ h9 => h9) rfl (tyX3_ok 5 (by decide)) rfl rfl (Nat.le_of_ble_eq_true rfl) dX3_readSign_291 (fun H locs hP hD hS => ?_)
    obtain ⟨hP, hD⟩ := zre [(eO3a lx lby lfi lco lxe (lxa + 1) 39 lxp lxn lxl), (eA0 lby cBy 900 fBy)] hP hD rfl
    exact hjoin_4 a0 (39 : Int32)  (hX_3.trans (by rw [fe_readSign_k]; (try rw [if_neg h_8]); (try rw [if_neg h_9]); (try rw [if_neg h_10]); (try rw [if_neg h_11]); (try rw [if_neg h_12]); (try rw [if_neg h_13]); (try rw [if_neg h_14]); (try rw [if_neg h_15]); (try rw [if_neg h_16]); (try rw [if_neg h_17]); (try rw [if_neg h_18]); (try rw [if_neg h_19]); (try rw [if_neg h_20]); (try rw [if_neg h_21]); (try rw [if_neg h_22]); (try rw [if_neg h_23]); (try rw [if_neg h_24]); (try rw [if_neg h_25]); (try rw [if_neg h_26]); (try rw [if_neg h_27]); (try rw [if_neg h_28]); (try rw [if_neg h_29]); (try rw [if_neg h_30]); (try rw [if_neg h_31]); (try rw [if_neg h_34]); (try rw [if_neg h_35]); try rfl)) _ _ ls hP hD hS (lv_sub hl [0, 1, 2] rfl)
  refine lv_icmp_ge (tgt := 33) hx hb dX3_readSign_18 (by decide) (fun c_37 => ?_) (fun c_37 => ?_)
  · refine lv_iconst (v := 0) hx hb dX3_readSign_33 (by decide) ?_
    exact hjoin_2 (0 : Int32)  (hX_1.trans (by rw [fe_readSign_j]; (try rw [if_pos c_37]); try rfl)) _ _ ls hP hD hS (lv_sub hl [0, 1] rfl)
  · refine lv_aload_n hx hb dX3_readSign_21 rfl (lv_at hl 0 rfl) ?_
    refine va_get (D := (dC, dI)) (ci := 3) (v := .ref lby) (C := RX3) (T := TX3) (N := 9) hx hb htw inlX3 hown hK hP 0 rfl rfl 0 (by decide) (htw _ (ck_3 _ (List.mem_of_getElem? (i := 14) rfl))) (fun _ h9 => h9) rfl dX3_readSign_22 ?_
    refine lv_aload_n hx hb dX3_readSign_25 rfl (lv_at hl 0 rfl) ?_
    refine va_get (D := (dC, dI)) (ci := 3) (v := .int (lxa + 1)) (C := RX3) (T := TX3) (N := 9) hx hb htw inlX3 hown hK hP 0 rfl rfl 4 (by decide) (htw _ (ck_14 _ (List.mem_of_getElem? (i := 11) rfl))) (fun _ h9 => h9) rfl dX3_readSign_26 ?_
    refine va_bald hx hb hK hP 1 0 rfl rfl (xg_inr (N := 900) rfl (gz_readSign_s4 (y0 := lxa) (y1 := lxe) c_37 h0_lxa h9_lxe hlt).1 (gz_readSign_s4 (y0 := lxa) (y1 := lxe) c_37 h0_lxa h9_lxe hlt).2) dX3_readSign_29 ?_
    refine lv_goto (tgt := 34) hx hb dX3_readSign_30 (by decide) ?_
    exact hjoin_2 (fBy ((lxa + 1).toNatClampNeg))  (hX_1.trans (by rw [fe_readSign_j]; (try rw [if_neg c_37]); try rfl)) _ _ ls hP hD hS (lv_sub hl [0, 1] rfl)

theorem gz_advance_s0 {y0 : Int32} {y1 : Int32} (h0 : y0 < y1) (h1 : ¬ (y0 < 0)) (h2 : y1 ≤ 900) : ¬ (y0 < 0) ∧ ¬ (900 ≤ y0) := by lia
theorem gz_advance_s1 {y0 : Int32} {y1 : Int32} (h0 : y0 < y1) (h1 : ¬ (y0 < 0)) (h2 : y1 ≤ 900) : ¬ (y0 < 0) := h1
theorem gz_advance_s2 {y0 : Int32} {y1 : Int32} (h0 : y1 < y0) (h1 : ¬ (y1 < 0)) (h2 : y0 ≤ 900) : ¬ (y0 ≤ y1) := by lia
theorem gz_advance_s3 {y0 : Int32} (h0 : ¬ (y0 < 0)) : ¬ (y0 < 0) := h0
theorem gz_advance_s4 {y0 : Int32} {y1 : Int32} (h0 : y0 < y1) (h1 : ¬ (y0 < 0)) (h2 : y1 ≤ 900) : ¬ (y0 < 0) := h1
theorem gz_advance_s5 {y0 : Int32} {y1 : Int32} (h0 : y1 < y0) (h1 : ¬ (y1 < 0)) (h2 : y0 ≤ 900) : ¬ (y0 ≤ y1) := by lia
theorem gz_advance_s6 {y0 : Int32} (h0 : ¬ (y0 < 0)) : ¬ (y0 < 0) := h0
theorem gz_advance_s7 {y0 : Int32} {y1 : Int32} (h0 : y0 < y1) (h1 : ¬ (y0 < 0)) (h2 : y1 ≤ 900) : ¬ (y0 < 0) := h1
theorem gz_advance_s8 {y0 : Int32} (h0 : ¬ (y0 < 0)) : ¬ (y0 < 0) := h0
theorem gz_advance_s9 {y0 : Int32} {y1 : Int32} (h0 : y0 < y1) (h1 : ¬ (y0 < 0)) (h2 : y1 ≤ 900) : ¬ (y0 < 0) := h1
theorem gz_advance_s10 {y0 : Int32} {y1 : Int32} (h0 : y1 < y0) (h1 : ¬ (y1 < 0)) (h2 : y0 ≤ 900) : ¬ (y0 ≤ y1) := by lia
theorem gz_advance_s11 {y0 : Int32} (h0 : ¬ (y0 < 0)) : ¬ (y0 < 0) := h0
theorem gz_advance_s12 {y0 : Int32} {y1 : Int32} (h0 : y0 < y1) (h1 : ¬ (y0 < 0)) (h2 : y1 ≤ 900) : ¬ (y0 < 0) := h1
theorem gz_advance_s13 {y0 : Int32} {y1 : Int32} (h0 : y1 < y0) (h1 : ¬ (y1 < 0)) (h2 : y0 ≤ 900) : ¬ (y0 ≤ y1) := by lia
theorem gz_advance_s14 {y0 : Int32} (h0 : ¬ (y0 < 0)) : ¬ (y0 < 0) := h0
theorem gz_advance_s15 {y0 : Int32} {y1 : Int32} (h0 : y0 < y1) (h1 : ¬ (y0 < 0)) (h2 : y1 ≤ 900) : ¬ (y0 < 0) := h1
theorem gz_advance_s16 {y0 : Int32} (h0 : ¬ (y0 < 0)) : ¬ (y0 < 0) := h0
theorem gz_advance_s17 {y0 : Int32} {y1 : Int32} (h0 : y0 < y1) (h1 : ¬ (y0 < 0)) (h2 : y1 ≤ 900) : ¬ (y0 < 0) := h1
theorem gz_advance_s18 {y0 : Int32} (h0 : ¬ (y0 < 0)) : ¬ (y0 < 0) := h0
theorem gz_advance_s19 {y0 : Int32} {y1 : Int32} (h0 : ¬ (y0 < y1)) (h1 : ¬ (y0 < 0)) (h2 : y1 ≤ 900) : ¬ (y0 < 0) := h1
theorem gz_advance_s20 {y0 : Int32} {y1 : Int32} (h0 : y1 ≤ y0) (h1 : ¬ (y0 < 0)) (h2 : y1 ≤ 900) : ¬ (y0 < 0) := h1
theorem gz_advance_s21 {y0 : Int32} {y1 : Int32} (h0 : y1 ≤ y0) (h1 : ¬ (y0 < 0)) (h2 : y1 ≤ 900) : ¬ (y0 < 0) := h1
theorem gz_advance_s22 {y0 : Int32} {y1 : Int32} (h0 : ¬ (y1 ≤ y0)) (h1 : ¬ (y0 < 0)) (h2 : y1 ≤ 900) : ¬ (y0 < 0) ∧ ¬ (900 ≤ y0) := by lia
theorem gz_advance_s23 {y0 : Int32} {y1 : Int32} (h0 : ¬ (y1 ≤ y0)) (h1 : ¬ (y0 < 0)) (h2 : y1 ≤ 900) : ¬ ((y0 + 1) < 0) := by lia
theorem gz_advance_s24 {y0 : Int32} {y1 : Int32} (h0 : ¬ (y1 ≤ y0)) (h1 : ¬ (y0 < 0)) (h2 : y1 ≤ 900) : ¬ (y0 < 0) ∧ ¬ (900 ≤ y0) := by lia
theorem gz_advance_s25 {y0 : Int32} {y1 : Int32} (h0 : ¬ (y1 ≤ y0)) (h1 : ¬ (y0 < 0)) (h2 : y1 ≤ 900) : ¬ (y0 < 0) := h1
theorem gz_advance_s26 {y0 : Int32} {y1 : Int32} (h0 : ¬ (y1 ≤ y0)) (h1 : ¬ (y0 < 0)) (h2 : y1 ≤ 900) : ¬ ((y0 + 1) < 0) := by lia
theorem gz_advance_s27 {y0 : Int32} (h0 : ¬ (y0 < 0)) : ¬ (y0 < 0) := h0
set_option maxHeartbeats 4000000 in
set_option maxRecDepth 100000 in
theorem gz_advance (l : Launch) (dC : Nat → ClassId) (dI : Nat → Nat → Nat) (lx : Nat) (lby : Nat) (lfi : Int32) (lco : Nat) (lxe : Int32) (lxa : Int32) (lxt : Int32) (lxp : Int32) (lxn : Int32) (lxl : Int32) (cBy : ClassId) (fBy : Nat → Int32) (cCo : ClassId) (fCo : Nat → Int32) (sz : Nat) (h0_lxa : ¬ lxa < 0) (h9_lxe : lxe ≤ 900) : Met l yX3_advance (Cond.code yX3_advance cX3_advance 2 none :: wsL_law) ({ frames := 1, cells := 0, slots := 0, locals := 22 }) (va_Pc [.ref lx] (fun U => U.heap.size = sz ∧ va_P (dC, dI) vwCl [(eO3a lx lby lfi lco lxe lxa lxt lxp lxn lxl), (eA0 lby cBy 900 fBy), (eA0 lco cCo 23 fCo)] U.heap ∧ va_K (dC, dI) vwCl [(cBy, .byte), (cCo, .int)] U ∧ va_D (fun _ => True) [(eO3a lx lby lfi lco lxe lxa lxt lxp lxn lxl), (eA0 lby cBy 900 fBy), (eA0 lco cCo 23 fCo)])) (va_Qv (fun (u : (Int32) × (Int32) × (Int32) × (Int32) × (Int32)) => (u = fe_advance lxe lxa lxn lxl fBy fCo) ∧ (¬ u.1 < 0)) (fun (u : (Int32) × (Int32) × (Int32) × (Int32) × (Int32)) t => va_P (dC, dI) vwCl [(eO3a lx lby lfi lco lxe u.1 u.2.1 u.2.2.1 u.2.2.2.1 u.2.2.2.2), (eA0 lby cBy 900 fBy), (eA0 lco cCo 23 fCo)] t.heap ∧ va_K (dC, dI) vwCl [] t ∧ va_D (va_A [(eO3a lx lby lfi lco lxe lxa lxt lxp lxn lxl), (eA0 lby cBy 900 fBy), (eA0 lco cCo 23 fCo)] sz) [(eO3a lx lby lfi lco lxe u.1 u.2.1 u.2.2.1 u.2.2.2.1 u.2.2.2.2), (eA0 lby cBy 900 fBy), (eA0 lco cCo 23 fCo)]) (va_A [(eO3a lx lby lfi lco lxe lxa lxt lxp lxn lxl), (eA0 lby cBy 900 fBy), (eA0 lco cCo 23 fCo)] sz)) 0 0 (va_A [(eO3a lx lby lfi lco lxe lxa lxt lxp lxn lxl), (eA0 lby cBy 900 fBy), (eA0 lco cCo 23 fCo)] sz) := by
  refine Met.ofW (cc := cX3_advance) (maxL := 2) (ret := none) (by decide) rfl ?_
  intro p e s m args below meth c s₁ B hml hv
  obtain ⟨rfl, hsz, hP, hK, hD0⟩ := hv
  have hx := B.exec
  have hb := B.bytes
  have hr := B.returns
  have hts := atoms_spec (ws := Cond.code yX3_advance cX3_advance 2 none :: wsL_law) B.pre
  have htw : ∀ w ∈ wsL_law, w.before _ s = true := fun w h => hts w (List.mem_cons_of_mem _ h)
  have hown : s.vm.findClass RX3 = some m.cls := findClass_of_methodNamed B.named
  have hlocks := B.notSynchronized
  subst hsz
  have hD := hD0.self (sz := s.heap.size)
  generalize hAe : va_A [(eO3a lx lby lfi lco lxe lxa lxt lxp lxn lxl), (eA0 lby cBy 900 fBy), (eA0 lco cCo 23 fCo)] s.heap.size = A at hD ⊢
  have hA : ∀ q : Nat, s.heap.size ≤ q → A q := fun q h => by rw [← hAe]; exact Or.inr h
  obtain ⟨H, rH⟩ : ∃ z : Heap, z = s.heap := ⟨_, rfl⟩
  have hS : va_S A s.heap H [] := by rw [rH]; exact va_S.rf
  have hP : va_P (dC, dI) vwCl [(eO3a lx lby lfi lco lxe lxa lxt lxp lxn lxl), (eA0 lby cBy 900 fBy), (eA0 lco cCo 23 fCo)] H := by rw [rH]; exact hP
  rw [← rH]
  have hl := lv_entry ([.ref lx]) (n := 2) (Nat.le_of_ble_eq_true rfl)
  rw [lg_entry_eq]
  generalize (lg_sl ([.ref lx]) ++ List.replicate (2 - (lg_sl ([.ref lx])).length) Slot.unset).toArray = ls at hl ⊢
  have hl : lv_has ls 2 [(0, .ref lx)] := hl
  obtain ⟨X_1, hX_1⟩ : ∃ X9 : (Int32), X9 = fe_advance_c lxe fBy 900 lxa := ⟨_, rfl⟩
  have hexit_2 : ∀ (lxa_cx : Int32) (hx0 : ¬ lxa_cx < 0) (hE9 : X_1 = lxa_cx) (H : Heap) (locs : List Loc) (ls : Array Slot) (hP : va_P (dC, dI) vwCl [(eO3a lx lby lfi lco lxe lxa_cx lxt lxp lxn lxl), (eA0 lby cBy 900 fBy), (eA0 lco cCo 23 fCo)] H) (hD : va_D A [(eO3a lx lby lfi lco lxe lxa_cx lxt lxp lxn lxl), (eA0 lby cBy 900 fBy), (eA0 lco cCo 23 fCo)]) (hS : va_S A s.heap H locs) (hl : lv_has ls 2 [(0, .ref lx)]), W p l e (headSpec (Cond.code yX3_advance cX3_advance 2 none :: wsL_law) ({ frames := 1, cells := 0, slots := 0, locals := 22 })).room s m ([.ref lx] : List Value).toArray below meth c H locs 0 0 (MQ below (va_Qv (fun (u : (Int32) × (Int32) × (Int32) × (Int32) × (Int32)) => (u = fe_advance lxe lxa lxn lxl fBy fCo) ∧ (¬ u.1 < 0)) (fun (u : (Int32) × (Int32) × (Int32) × (Int32) × (Int32)) t => va_P (dC, dI) vwCl [(eO3a lx lby lfi lco lxe u.1 u.2.1 u.2.2.1 u.2.2.2.1 u.2.2.2.2), (eA0 lby cBy 900 fBy), (eA0 lco cCo 23 fCo)] t.heap ∧ va_K (dC, dI) vwCl [] t ∧ va_D A [(eO3a lx lby lfi lco lxe u.1 u.2.1 u.2.2.1 u.2.2.2.1 u.2.2.2.2), (eA0 lby cBy 900 fBy), (eA0 lco cCo 23 fCo)]) A) ([.ref lx] : List Value).toArray s 0 0 A) (F0 m 52 ls []) := by
    intro lxa_cx hx0 hE9 H locs ls hP hD hS hl
    have hq_lxa_cx : lxa_cx = X_1 := by rw [hE9]
    refine lv_aload_n hx hb dX3_advance_52 rfl (lv_at hl 0 rfl) ?_
    refine lv_aload_n hx hb dX3_advance_53 rfl (lv_at hl 0 rfl) ?_
    refine va_get (D := (dC, dI)) (ci := 3) (v := .int lxa_cx) (C := RX3) (T := TX3) (N := 9) hx hb htw inlX3 hown hK hP 0 rfl rfl 4 (by decide) (htw _ (ck_14 _ (List.mem_of_getElem? (i := 11) rfl))) (fun _ h9 => h9) rfl dX3_advance_54 ?_
    refine va_put (D := (dC, dI)) (ci := 3) (v := .int lxa_cx) (ty := tyX3 6) (C := RX3) (T := TX3) (N := 9) hx hb htw inlX3 tyX3 tyX3_ok nmX3 hown hK hP hD hS 0 rfl rfl 6 (by decide) (htw _ (ck_14 _ (List.mem_of_getElem? (i := 16) rfl))) (fun _ h9 => h9) rfl (tyX3_ok 6 (by decide)) rfl rfl (Nat.le_of_ble_eq_true rfl) dX3_advance_57 (fun H locs hP hD hS => ?_)
    obtain ⟨hP, hD⟩ := zre [(eO3a lx lby lfi lco lxe lxa_cx lxt lxa_cx lxn lxl), (eA0 lby cBy 900 fBy), (eA0 lco cCo 23 fCo)] hP hD rfl
    refine lv_aload_n hx hb dX3_advance_60 rfl (lv_at hl 0 rfl) ?_
    refine va_get (D := (dC, dI)) (ci := 3) (v := .int lxa_cx) (C := RX3) (T := TX3) (N := 9) hx hb htw inlX3 hown hK hP 0 rfl rfl 4 (by decide) (htw _ (ck_14 _ (List.mem_of_getElem? (i := 11) rfl))) (fun _ h9 => h9) rfl dX3_advance_61 ?_
    refine lv_aload_n hx hb dX3_advance_64 rfl (lv_at hl 0 rfl) ?_
    refine va_get (D := (dC, dI)) (ci := 3) (v := .int lxe) (C := RX3) (T := TX3) (N := 9) hx hb htw inlX3 hown hK hP 0 rfl rfl 3 (by decide) (htw _ (ck_14 _ (List.mem_of_getElem? (i := 10) rfl))) (fun _ h9 => h9) rfl dX3_advance_65 ?_
    refine lv_icmp_lt (tgt := 78) hx hb dX3_advance_68 (by decide) (fun c_3 => ?_) (fun c_3 => ?_)
    · refine lv_aload_n hx hb dX3_advance_78 rfl (lv_at hl 0 rfl) ?_
      refine va_get (D := (dC, dI)) (ci := 3) (v := .ref lby) (C := RX3) (T := TX3) (N := 9) hx hb htw inlX3 hown hK hP 0 rfl rfl 0 (by decide) (htw _ (ck_3 _ (List.mem_of_getElem? (i := 14) rfl))) (fun _ h9 => h9) rfl dX3_advance_79 ?_
      refine lv_aload_n hx hb dX3_advance_82 rfl (lv_at hl 0 rfl) ?_
      refine va_get (D := (dC, dI)) (ci := 3) (v := .int lxa_cx) (C := RX3) (T := TX3) (N := 9) hx hb htw inlX3 hown hK hP 0 rfl rfl 4 (by decide) (htw _ (ck_14 _ (List.mem_of_getElem? (i := 11) rfl))) (fun _ h9 => h9) rfl dX3_advance_83 ?_
      refine va_bald hx hb hK hP 1 0 rfl rfl (xg_inr (N := 900) rfl (gz_advance_s0 (y0 := lxa_cx) (y1 := lxe) c_3 hx0 h9_lxe).1 (gz_advance_s0 (y0 := lxa_cx) (y1 := lxe) c_3 hx0 h9_lxe).2) dX3_advance_86 ?_
      refine lv_istore_n (lv' := [(1, .int (fBy lxa_cx.toNatClampNeg)), (0, .ref lx)]) hx hb dX3_advance_87 rfl hl (by decide) rfl (fun ls hl => ?_)
      refine lv_iload_n hx hb dX3_advance_88 rfl (lv_at hl 0 rfl) ?_
      refine lv_bipush (v := 97) hx hb dX3_advance_89 (by decide) ?_
      refine lv_icmp_lt (tgt := 107) hx hb dX3_advance_91 (by decide) (fun c_4 => ?_) (fun c_4 => ?_)
      · refine lv_iload_n hx hb dX3_advance_107 rfl (lv_at hl 0 rfl) ?_
        refine lv_bipush (v := 48) hx hb dX3_advance_108 (by decide) ?_
        refine lv_icmp_lt (tgt := 126) hx hb dX3_advance_110 (by decide) (fun c_5 => ?_) (fun c_5 => ?_)
        · refine lv_aload_n hx hb dX3_advance_126 rfl (lv_at hl 1 rfl) ?_
          refine lv_iload_n hx hb dX3_advance_127 rfl (lv_at hl 0 rfl) ?_
          obtain ⟨hPc, hDc, hFc, hCc⟩ := zsub3 (ws' := [(eO3a lx lby lfi lco lxe lxa_cx lxt lxa_cx lxn lxl), (eA0 lby cBy 900 fBy)]) hP hD hS hA [0, 1] (by decide) rfl
          have hKc := hK.sub (tys' := [(cBy, .byte)]) [0] rfl
          refine va_callv (va_runV (As := [.int (fBy lxa_cx.toNatClampNeg)]) (rest := []) ⟨hx, hb, hml, hown, htw⟩ (gz_readSign l dC dI lx lby lfi lco lxe lxa_cx lxt lxa_cx lxn lxl cBy fBy (fBy lxa_cx.toNatClampNeg) H.size (gz_advance_s1 (y0 := lxa_cx) (y1 := lxe) c_3 hx0 h9_lxe) h9_lxe (gz_advance_s2 (y0 := lxe) (y1 := lxa_cx) c_3 hx0 h9_lxe)) (cwV 1 htw (xg_V (ck_15 _ (List.mem_of_getElem? (i := 5) rfl)) (ck_15 _ (List.mem_of_getElem? (i := 6) rfl)) (ck_15 _ (List.mem_of_getElem? (i := 7) rfl)) (ck_3 _ (List.mem_of_getElem? (i := 4) rfl)) (ck_15 _ (List.mem_of_getElem? (i := 8) rfl))) rfl rfl rfl (by exact ⟨rfl, hdc_4.1, hdc_4.2, hdd_9⟩) ⟨Nat.le_of_ble_eq_true rfl, Nat.le_of_ble_eq_true rfl⟩) ⟨fun a U g mk q => by obtain ⟨q0, q1, qP, qK, qD⟩ := q; exact ⟨q0, q1, qP, va_K.moved (u := U) (U := U.calling g mk a) (Vm.Alike.refl U.vm) qK, qD⟩, va_recv hKc hPc (ci := 3) (q0 := 0) rfl rfl, fun U hU hW => ⟨rfl, by rw [hU], by rw [hU]; exact hPc, va_K.moved hW.alike hKc, hDc.weaken (fun _ _ _ _ => trivial)⟩⟩ rfl rfl hl.1 rfl (lv_room (Nat.le_of_ble_eq_true rfl)) dX3_advance_128 ⟨Nat.le_of_ble_eq_true rfl, Nat.le_of_ble_eq_true rfl⟩) hS (fun q _ h => hFc q h) hFc (fun u_7 t H1 locs ht hvm hw hB hz1 hk1 hS => ?_)
          try dsimp only at hw
          obtain ⟨hP1, hK1, hD1⟩ := hB
          rw [ht] at hP1
          have hK1 := va_K.moved hvm.symm hK1
          have hK1 : va_K (dC, dI) vwCl [] s := hK1
          obtain ⟨hP, hD⟩ := va_join (wr := [(eA0 lco cCo 23 fCo)]) (w1 := [(eO3a lx lby lfi lco lxe u_7.1 u_7.2 lxa_cx lxn lxl), (eA0 lby cBy 900 fBy)]) hP hD [0, 1] [2] hCc rfl (by decide) (by decide) hk1 hFc hP1 hD1
          generalize H1 = H at hP hS ⊢
          obtain ⟨hP, hD⟩ := zre [(eA0 lco cCo 23 fCo), (eO3a lx lby lfi lco lxe u_7.1 u_7.2 lxa_cx lxn lxl), (eA0 lby cBy 900 fBy)] hP hD rfl
          refine W.widen (k := 0) (n := 0) (by omega) (by omega) ?_
          obtain ⟨hw, hp_10⟩ := hw
          have hq_u_7 : u_7 = (fe_readSign lxe lxa_cx fBy (fBy lxa_cx.toNatClampNeg)) := hw
          refine W.widen (k := 0) (n := 0) (by omega) (by omega) ?_
          obtain ⟨hP9, hD9⟩ := zsub2 (ws' := [(eO3a lx lby lfi lco lxe u_7.1 u_7.2 lxa_cx lxn lxl), (eA0 lby cBy 900 fBy), (eA0 lco cCo 23 fCo)]) hP hD [1, 2, 0] (by decide) rfl
          have hK9 := hK.sub (tys' := []) [] rfl
          exact W.vret hx hb hr (fun t ht hW => ⟨⟨(u_7.1, u_7.2, lxa_cx, lxn, lxl), rfl, ⟨(Eq.symm ((by rw [fe_advance]; (try rw [← hX_1]); (try rw [xL_eq]); (try rw [← hq_lxa_cx]); (try rw [if_pos c_3]); (try rw [if_pos c_4]); (try rw [if_pos c_5]); (try rw [← hq_u_7]); (try rw [xL_eq]); try rfl))), (gz_advance_s3 (y0 := u_7.1) hp_10)⟩, by rw [ht]; exact hP9, va_K.moved hW.alike hK9, hD9⟩, hS.F ht⟩) hS.2.2 dX3_advance_131
        · refine lv_iload_n hx hb dX3_advance_113 rfl (lv_at hl 0 rfl) ?_
          refine lv_bipush (v := 57) hx hb dX3_advance_114 (by decide) ?_
          refine lv_icmp_gt (tgt := 126) hx hb dX3_advance_116 (by decide) (fun c_11 => ?_) (fun c_11 => ?_)
          · refine lv_aload_n hx hb dX3_advance_126 rfl (lv_at hl 1 rfl) ?_
            refine lv_iload_n hx hb dX3_advance_127 rfl (lv_at hl 0 rfl) ?_
            obtain ⟨hPc, hDc, hFc, hCc⟩ := zsub3 (ws' := [(eO3a lx lby lfi lco lxe lxa_cx lxt lxa_cx lxn lxl), (eA0 lby cBy 900 fBy)]) hP hD hS hA [0, 1] (by decide) rfl
            have hKc := hK.sub (tys' := [(cBy, .byte)]) [0] rfl
            refine va_callv (va_runV (As := [.int (fBy lxa_cx.toNatClampNeg)]) (rest := []) ⟨hx, hb, hml, hown, htw⟩ (gz_readSign l dC dI lx lby lfi lco lxe lxa_cx lxt lxa_cx lxn lxl cBy fBy (fBy lxa_cx.toNatClampNeg) H.size (gz_advance_s4 (y0 := lxa_cx) (y1 := lxe) c_3 hx0 h9_lxe) h9_lxe (gz_advance_s5 (y0 := lxe) (y1 := lxa_cx) c_3 hx0 h9_lxe)) (cwV 1 htw (xg_V (ck_15 _ (List.mem_of_getElem? (i := 5) rfl)) (ck_15 _ (List.mem_of_getElem? (i := 6) rfl)) (ck_15 _ (List.mem_of_getElem? (i := 7) rfl)) (ck_3 _ (List.mem_of_getElem? (i := 4) rfl)) (ck_15 _ (List.mem_of_getElem? (i := 8) rfl))) rfl rfl rfl (by exact ⟨rfl, hdc_4.1, hdc_4.2, hdd_9⟩) ⟨Nat.le_of_ble_eq_true rfl, Nat.le_of_ble_eq_true rfl⟩) ⟨fun a U g mk q => by obtain ⟨q0, q1, qP, qK, qD⟩ := q; exact ⟨q0, q1, qP, va_K.moved (u := U) (U := U.calling g mk a) (Vm.Alike.refl U.vm) qK, qD⟩, va_recv hKc hPc (ci := 3) (q0 := 0) rfl rfl, fun U hU hW => ⟨rfl, by rw [hU], by rw [hU]; exact hPc, va_K.moved hW.alike hKc, hDc.weaken (fun _ _ _ _ => trivial)⟩⟩ rfl rfl hl.1 rfl (lv_room (Nat.le_of_ble_eq_true rfl)) dX3_advance_128 ⟨Nat.le_of_ble_eq_true rfl, Nat.le_of_ble_eq_true rfl⟩) hS (fun q _ h => hFc q h) hFc (fun u_13 t H1 locs ht hvm hw hB hz1 hk1 hS => ?_)
            try dsimp only at hw
            obtain ⟨hP1, hK1, hD1⟩ := hB
            rw [ht] at hP1
            have hK1 := va_K.moved hvm.symm hK1
            have hK1 : va_K (dC, dI) vwCl [] s := hK1
            obtain ⟨hP, hD⟩ := va_join (wr := [(eA0 lco cCo 23 fCo)]) (w1 := [(eO3a lx lby lfi lco lxe u_13.1 u_13.2 lxa_cx lxn lxl), (eA0 lby cBy 900 fBy)]) hP hD [0, 1] [2] hCc rfl (by decide) (by decide) hk1 hFc hP1 hD1
            generalize H1 = H at hP hS ⊢
            obtain ⟨hP, hD⟩ := zre [(eA0 lco cCo 23 fCo), (eO3a lx lby lfi lco lxe u_13.1 u_13.2 lxa_cx lxn lxl), (eA0 lby cBy 900 fBy)] hP hD rfl
            refine W.widen (k := 0) (n := 0) (by omega) (by omega) ?_
            obtain ⟨hw, hp_16⟩ := hw
            have hq_u_13 : u_13 = (fe_readSign lxe lxa_cx fBy (fBy lxa_cx.toNatClampNeg)) := hw
            refine W.widen (k := 0) (n := 0) (by omega) (by omega) ?_
            obtain ⟨hP9, hD9⟩ := zsub2 (ws' := [(eO3a lx lby lfi lco lxe u_13.1 u_13.2 lxa_cx lxn lxl), (eA0 lby cBy 900 fBy), (eA0 lco cCo 23 fCo)]) hP hD [1, 2, 0] (by decide) rfl
            have hK9 := hK.sub (tys' := []) [] rfl
            exact W.vret hx hb hr (fun t ht hW => ⟨⟨(u_13.1, u_13.2, lxa_cx, lxn, lxl), rfl, ⟨(Eq.symm ((by rw [fe_advance]; (try rw [← hX_1]); (try rw [xL_eq]); (try rw [← hq_lxa_cx]); (try rw [if_pos c_3]); (try rw [if_pos c_4]); (try rw [if_neg c_5]); (try rw [if_pos c_11]); (try rw [← hq_u_13]); (try rw [xL_eq]); try rfl))), (gz_advance_s6 (y0 := u_13.1) hp_16)⟩, by rw [ht]; exact hP9, va_K.moved hW.alike hK9, hD9⟩, hS.F ht⟩) hS.2.2 dX3_advance_131
          · refine lv_aload_n hx hb dX3_advance_119 rfl (lv_at hl 1 rfl) ?_
            obtain ⟨hPc, hDc, hFc, hCc⟩ := zsub3 (ws' := [(eO3a lx lby lfi lco lxe lxa_cx lxt lxa_cx lxn lxl), (eA0 lby cBy 900 fBy)]) hP hD hS hA [0, 1] (by decide) rfl
            have hKc := hK.sub (tys' := [(cBy, .byte)]) [0] rfl
            refine va_callv (va_runV (As := []) (rest := []) ⟨hx, hb, hml, hown, htw⟩ (gz_readNumber l dC dI lx lby lfi lco lxe lxa_cx lxt lxa_cx lxn lxl cBy fBy H.size (gz_advance_s7 (y0 := lxa_cx) (y1 := lxe) c_3 hx0 h9_lxe) h9_lxe) (cwV 0 htw (xg_V (ck_14 _ (List.mem_of_getElem? (i := 23) rfl)) (ck_15 _ (List.mem_of_getElem? (i := 0) rfl)) (ck_15 _ (List.mem_of_getElem? (i := 1) rfl)) (ck_3 _ (List.mem_of_getElem? (i := 4) rfl)) (ck_15 _ (List.mem_of_getElem? (i := 2) rfl))) rfl rfl rfl (by exact ⟨rfl, hdc_4.1, hdc_4.2, hdd_13⟩) ⟨Nat.le_of_ble_eq_true rfl, Nat.le_of_ble_eq_true rfl⟩) ⟨fun a U g mk q => by obtain ⟨q0, q1, qP, qK, qD⟩ := q; exact ⟨q0, q1, qP, va_K.moved (u := U) (U := U.calling g mk a) (Vm.Alike.refl U.vm) qK, qD⟩, va_recv hKc hPc (ci := 3) (q0 := 0) rfl rfl, fun U hU hW => ⟨rfl, by rw [hU], by rw [hU]; exact hPc, va_K.moved hW.alike hKc, hDc.weaken (fun _ _ _ _ => trivial)⟩⟩ rfl rfl hl.1 rfl (lv_room (Nat.le_of_ble_eq_true rfl)) dX3_advance_120 ⟨Nat.le_of_ble_eq_true rfl, Nat.le_of_ble_eq_true rfl⟩) hS (fun q _ h => hFc q h) hFc (fun u_18 t H1 locs ht hvm hw hB hz1 hk1 hS => ?_)
            try dsimp only at hw
            obtain ⟨hP1, hK1, hD1⟩ := hB
            rw [ht] at hP1
            have hK1 := va_K.moved hvm.symm hK1
            have hK1 : va_K (dC, dI) vwCl [] s := hK1
            obtain ⟨hP, hD⟩ := va_join (wr := [(eA0 lco cCo 23 fCo)]) (w1 := [(eO3a lx lby lfi lco lxe u_18.2.2 u_18.1 lxa_cx u_18.2.1 lxl), (eA0 lby cBy 900 fBy)]) hP hD [0, 1] [2] hCc rfl (by decide) (by decide) hk1 hFc hP1 hD1
            generalize H1 = H at hP hS ⊢
            obtain ⟨hP, hD⟩ := zre [(eA0 lco cCo 23 fCo), (eO3a lx lby lfi lco lxe u_18.2.2 u_18.1 lxa_cx u_18.2.1 lxl), (eA0 lby cBy 900 fBy)] hP hD rfl
            refine W.widen (k := 0) (n := 0) (by omega) (by omega) ?_
            obtain ⟨hw, hp_22⟩ := hw
            have hq_u_18 : u_18 = (fe_readNumber lxe lxa_cx fBy) := hw
            refine lv_goto (tgt := 131) hx hb dX3_advance_123 (by decide) ?_
            refine W.widen (k := 0) (n := 0) (by omega) (by omega) ?_
            obtain ⟨hP9, hD9⟩ := zsub2 (ws' := [(eO3a lx lby lfi lco lxe u_18.2.2 u_18.1 lxa_cx u_18.2.1 lxl), (eA0 lby cBy 900 fBy), (eA0 lco cCo 23 fCo)]) hP hD [1, 2, 0] (by decide) rfl
            have hK9 := hK.sub (tys' := []) [] rfl
            exact W.vret hx hb hr (fun t ht hW => ⟨⟨(u_18.2.2, u_18.1, lxa_cx, u_18.2.1, lxl), rfl, ⟨(Eq.symm ((by rw [fe_advance]; (try rw [← hX_1]); (try rw [xL_eq]); (try rw [← hq_lxa_cx]); (try rw [if_pos c_3]); (try rw [if_pos c_4]); (try rw [if_neg c_5]); (try rw [if_neg c_11]); (try rw [← hq_u_18]); (try rw [xL_eq]); try rfl))), (gz_advance_s8 (y0 := u_18.2.2) hp_22)⟩, by rw [ht]; exact hP9, va_K.moved hW.alike hK9, hD9⟩, hS.F ht⟩) hS.2.2 dX3_advance_131
      · refine lv_iload_n hx hb dX3_advance_94 rfl (lv_at hl 0 rfl) ?_
        refine lv_bipush (v := 122) hx hb dX3_advance_95 (by decide) ?_
        refine lv_icmp_gt (tgt := 107) hx hb dX3_advance_97 (by decide) (fun c_23 => ?_) (fun c_23 => ?_)
        · refine lv_iload_n hx hb dX3_advance_107 rfl (lv_at hl 0 rfl) ?_
          refine lv_bipush (v := 48) hx hb dX3_advance_108 (by decide) ?_
          refine lv_icmp_lt (tgt := 126) hx hb dX3_advance_110 (by decide) (fun c_24 => ?_) (fun c_24 => ?_)
          · refine lv_aload_n hx hb dX3_advance_126 rfl (lv_at hl 1 rfl) ?_
            refine lv_iload_n hx hb dX3_advance_127 rfl (lv_at hl 0 rfl) ?_
            obtain ⟨hPc, hDc, hFc, hCc⟩ := zsub3 (ws' := [(eO3a lx lby lfi lco lxe lxa_cx lxt lxa_cx lxn lxl), (eA0 lby cBy 900 fBy)]) hP hD hS hA [0, 1] (by decide) rfl
            have hKc := hK.sub (tys' := [(cBy, .byte)]) [0] rfl
            refine va_callv (va_runV (As := [.int (fBy lxa_cx.toNatClampNeg)]) (rest := []) ⟨hx, hb, hml, hown, htw⟩ (gz_readSign l dC dI lx lby lfi lco lxe lxa_cx lxt lxa_cx lxn lxl cBy fBy (fBy lxa_cx.toNatClampNeg) H.size (gz_advance_s9 (y0 := lxa_cx) (y1 := lxe) c_3 hx0 h9_lxe) h9_lxe (gz_advance_s10 (y0 := lxe) (y1 := lxa_cx) c_3 hx0 h9_lxe)) (cwV 1 htw (xg_V (ck_15 _ (List.mem_of_getElem? (i := 5) rfl)) (ck_15 _ (List.mem_of_getElem? (i := 6) rfl)) (ck_15 _ (List.mem_of_getElem? (i := 7) rfl)) (ck_3 _ (List.mem_of_getElem? (i := 4) rfl)) (ck_15 _ (List.mem_of_getElem? (i := 8) rfl))) rfl rfl rfl (by exact ⟨rfl, hdc_4.1, hdc_4.2, hdd_9⟩) ⟨Nat.le_of_ble_eq_true rfl, Nat.le_of_ble_eq_true rfl⟩) ⟨fun a U g mk q => by obtain ⟨q0, q1, qP, qK, qD⟩ := q; exact ⟨q0, q1, qP, va_K.moved (u := U) (U := U.calling g mk a) (Vm.Alike.refl U.vm) qK, qD⟩, va_recv hKc hPc (ci := 3) (q0 := 0) rfl rfl, fun U hU hW => ⟨rfl, by rw [hU], by rw [hU]; exact hPc, va_K.moved hW.alike hKc, hDc.weaken (fun _ _ _ _ => trivial)⟩⟩ rfl rfl hl.1 rfl (lv_room (Nat.le_of_ble_eq_true rfl)) dX3_advance_128 ⟨Nat.le_of_ble_eq_true rfl, Nat.le_of_ble_eq_true rfl⟩) hS (fun q _ h => hFc q h) hFc (fun u_26 t H1 locs ht hvm hw hB hz1 hk1 hS => ?_)
            try dsimp only at hw
            obtain ⟨hP1, hK1, hD1⟩ := hB
            rw [ht] at hP1
            have hK1 := va_K.moved hvm.symm hK1
            have hK1 : va_K (dC, dI) vwCl [] s := hK1
            obtain ⟨hP, hD⟩ := va_join (wr := [(eA0 lco cCo 23 fCo)]) (w1 := [(eO3a lx lby lfi lco lxe u_26.1 u_26.2 lxa_cx lxn lxl), (eA0 lby cBy 900 fBy)]) hP hD [0, 1] [2] hCc rfl (by decide) (by decide) hk1 hFc hP1 hD1
            generalize H1 = H at hP hS ⊢
            obtain ⟨hP, hD⟩ := zre [(eA0 lco cCo 23 fCo), (eO3a lx lby lfi lco lxe u_26.1 u_26.2 lxa_cx lxn lxl), (eA0 lby cBy 900 fBy)] hP hD rfl
            refine W.widen (k := 0) (n := 0) (by omega) (by omega) ?_
            obtain ⟨hw, hp_29⟩ := hw
            have hq_u_26 : u_26 = (fe_readSign lxe lxa_cx fBy (fBy lxa_cx.toNatClampNeg)) := hw
            refine W.widen (k := 0) (n := 0) (by omega) (by omega) ?_
            obtain ⟨hP9, hD9⟩ := zsub2 (ws' := [(eO3a lx lby lfi lco lxe u_26.1 u_26.2 lxa_cx lxn lxl), (eA0 lby cBy 900 fBy), (eA0 lco cCo 23 fCo)]) hP hD [1, 2, 0] (by decide) rfl
            have hK9 := hK.sub (tys' := []) [] rfl
            exact W.vret hx hb hr (fun t ht hW => ⟨⟨(u_26.1, u_26.2, lxa_cx, lxn, lxl), rfl, ⟨(Eq.symm ((by rw [fe_advance]; (try rw [← hX_1]); (try rw [xL_eq]); (try rw [← hq_lxa_cx]); (try rw [if_pos c_3]); (try rw [if_neg c_4]); (try rw [if_pos c_23]); (try rw [if_pos c_24]); (try rw [← hq_u_26]); (try rw [xL_eq]); try rfl))), (gz_advance_s11 (y0 := u_26.1) hp_29)⟩, by rw [ht]; exact hP9, va_K.moved hW.alike hK9, hD9⟩, hS.F ht⟩) hS.2.2 dX3_advance_131
          · refine lv_iload_n hx hb dX3_advance_113 rfl (lv_at hl 0 rfl) ?_
            refine lv_bipush (v := 57) hx hb dX3_advance_114 (by decide) ?_
            refine lv_icmp_gt (tgt := 126) hx hb dX3_advance_116 (by decide) (fun c_30 => ?_) (fun c_30 => ?_)
            · refine lv_aload_n hx hb dX3_advance_126 rfl (lv_at hl 1 rfl) ?_
              refine lv_iload_n hx hb dX3_advance_127 rfl (lv_at hl 0 rfl) ?_
              obtain ⟨hPc, hDc, hFc, hCc⟩ := zsub3 (ws' := [(eO3a lx lby lfi lco lxe lxa_cx lxt lxa_cx lxn lxl), (eA0 lby cBy 900 fBy)]) hP hD hS hA [0, 1] (by decide) rfl
              have hKc := hK.sub (tys' := [(cBy, .byte)]) [0] rfl
              refine va_callv (va_runV (As := [.int (fBy lxa_cx.toNatClampNeg)]) (rest := []) ⟨hx, hb, hml, hown, htw⟩ (gz_readSign l dC dI lx lby lfi lco lxe lxa_cx lxt lxa_cx lxn lxl cBy fBy (fBy lxa_cx.toNatClampNeg) H.size (gz_advance_s12 (y0 := lxa_cx) (y1 := lxe) c_3 hx0 h9_lxe) h9_lxe (gz_advance_s13 (y0 := lxe) (y1 := lxa_cx) c_3 hx0 h9_lxe)) (cwV 1 htw (xg_V (ck_15 _ (List.mem_of_getElem? (i := 5) rfl)) (ck_15 _ (List.mem_of_getElem? (i := 6) rfl)) (ck_15 _ (List.mem_of_getElem? (i := 7) rfl)) (ck_3 _ (List.mem_of_getElem? (i := 4) rfl)) (ck_15 _ (List.mem_of_getElem? (i := 8) rfl))) rfl rfl rfl (by exact ⟨rfl, hdc_4.1, hdc_4.2, hdd_9⟩) ⟨Nat.le_of_ble_eq_true rfl, Nat.le_of_ble_eq_true rfl⟩) ⟨fun a U g mk q => by obtain ⟨q0, q1, qP, qK, qD⟩ := q; exact ⟨q0, q1, qP, va_K.moved (u := U) (U := U.calling g mk a) (Vm.Alike.refl U.vm) qK, qD⟩, va_recv hKc hPc (ci := 3) (q0 := 0) rfl rfl, fun U hU hW => ⟨rfl, by rw [hU], by rw [hU]; exact hPc, va_K.moved hW.alike hKc, hDc.weaken (fun _ _ _ _ => trivial)⟩⟩ rfl rfl hl.1 rfl (lv_room (Nat.le_of_ble_eq_true rfl)) dX3_advance_128 ⟨Nat.le_of_ble_eq_true rfl, Nat.le_of_ble_eq_true rfl⟩) hS (fun q _ h => hFc q h) hFc (fun u_32 t H1 locs ht hvm hw hB hz1 hk1 hS => ?_)
              try dsimp only at hw
              obtain ⟨hP1, hK1, hD1⟩ := hB
              rw [ht] at hP1
              have hK1 := va_K.moved hvm.symm hK1
              have hK1 : va_K (dC, dI) vwCl [] s := hK1
              obtain ⟨hP, hD⟩ := va_join (wr := [(eA0 lco cCo 23 fCo)]) (w1 := [(eO3a lx lby lfi lco lxe u_32.1 u_32.2 lxa_cx lxn lxl), (eA0 lby cBy 900 fBy)]) hP hD [0, 1] [2] hCc rfl (by decide) (by decide) hk1 hFc hP1 hD1
              generalize H1 = H at hP hS ⊢
              obtain ⟨hP, hD⟩ := zre [(eA0 lco cCo 23 fCo), (eO3a lx lby lfi lco lxe u_32.1 u_32.2 lxa_cx lxn lxl), (eA0 lby cBy 900 fBy)] hP hD rfl
              refine W.widen (k := 0) (n := 0) (by omega) (by omega) ?_
              obtain ⟨hw, hp_35⟩ := hw
              have hq_u_32 : u_32 = (fe_readSign lxe lxa_cx fBy (fBy lxa_cx.toNatClampNeg)) := hw
              refine W.widen (k := 0) (n := 0) (by omega) (by omega) ?_
              obtain ⟨hP9, hD9⟩ := zsub2 (ws' := [(eO3a lx lby lfi lco lxe u_32.1 u_32.2 lxa_cx lxn lxl), (eA0 lby cBy 900 fBy), (eA0 lco cCo 23 fCo)]) hP hD [1, 2, 0] (by decide) rfl
              have hK9 := hK.sub (tys' := []) [] rfl
              exact W.vret hx hb hr (fun t ht hW => ⟨⟨(u_32.1, u_32.2, lxa_cx, lxn, lxl), rfl, ⟨(Eq.symm ((by rw [fe_advance]; (try rw [← hX_1]); (try rw [xL_eq]); (try rw [← hq_lxa_cx]); (try rw [if_pos c_3]); (try rw [if_neg c_4]); (try rw [if_pos c_23]); (try rw [if_neg c_24]); (try rw [if_pos c_30]); (try rw [← hq_u_32]); (try rw [xL_eq]); try rfl))), (gz_advance_s14 (y0 := u_32.1) hp_35)⟩, by rw [ht]; exact hP9, va_K.moved hW.alike hK9, hD9⟩, hS.F ht⟩) hS.2.2 dX3_advance_131
            · refine lv_aload_n hx hb dX3_advance_119 rfl (lv_at hl 1 rfl) ?_
              obtain ⟨hPc, hDc, hFc, hCc⟩ := zsub3 (ws' := [(eO3a lx lby lfi lco lxe lxa_cx lxt lxa_cx lxn lxl), (eA0 lby cBy 900 fBy)]) hP hD hS hA [0, 1] (by decide) rfl
              have hKc := hK.sub (tys' := [(cBy, .byte)]) [0] rfl
              refine va_callv (va_runV (As := []) (rest := []) ⟨hx, hb, hml, hown, htw⟩ (gz_readNumber l dC dI lx lby lfi lco lxe lxa_cx lxt lxa_cx lxn lxl cBy fBy H.size (gz_advance_s15 (y0 := lxa_cx) (y1 := lxe) c_3 hx0 h9_lxe) h9_lxe) (cwV 0 htw (xg_V (ck_14 _ (List.mem_of_getElem? (i := 23) rfl)) (ck_15 _ (List.mem_of_getElem? (i := 0) rfl)) (ck_15 _ (List.mem_of_getElem? (i := 1) rfl)) (ck_3 _ (List.mem_of_getElem? (i := 4) rfl)) (ck_15 _ (List.mem_of_getElem? (i := 2) rfl))) rfl rfl rfl (by exact ⟨rfl, hdc_4.1, hdc_4.2, hdd_13⟩) ⟨Nat.le_of_ble_eq_true rfl, Nat.le_of_ble_eq_true rfl⟩) ⟨fun a U g mk q => by obtain ⟨q0, q1, qP, qK, qD⟩ := q; exact ⟨q0, q1, qP, va_K.moved (u := U) (U := U.calling g mk a) (Vm.Alike.refl U.vm) qK, qD⟩, va_recv hKc hPc (ci := 3) (q0 := 0) rfl rfl, fun U hU hW => ⟨rfl, by rw [hU], by rw [hU]; exact hPc, va_K.moved hW.alike hKc, hDc.weaken (fun _ _ _ _ => trivial)⟩⟩ rfl rfl hl.1 rfl (lv_room (Nat.le_of_ble_eq_true rfl)) dX3_advance_120 ⟨Nat.le_of_ble_eq_true rfl, Nat.le_of_ble_eq_true rfl⟩) hS (fun q _ h => hFc q h) hFc (fun u_37 t H1 locs ht hvm hw hB hz1 hk1 hS => ?_)
              try dsimp only at hw
              obtain ⟨hP1, hK1, hD1⟩ := hB
              rw [ht] at hP1
              have hK1 := va_K.moved hvm.symm hK1
              have hK1 : va_K (dC, dI) vwCl [] s := hK1
              obtain ⟨hP, hD⟩ := va_join (wr := [(eA0 lco cCo 23 fCo)]) (w1 := [(eO3a lx lby lfi lco lxe u_37.2.2 u_37.1 lxa_cx u_37.2.1 lxl), (eA0 lby cBy 900 fBy)]) hP hD [0, 1] [2] hCc rfl (by decide) (by decide) hk1 hFc hP1 hD1
              generalize H1 = H at hP hS ⊢
              obtain ⟨hP, hD⟩ := zre [(eA0 lco cCo 23 fCo), (eO3a lx lby lfi lco lxe u_37.2.2 u_37.1 lxa_cx u_37.2.1 lxl), (eA0 lby cBy 900 fBy)] hP hD rfl
              refine W.widen (k := 0) (n := 0) (by omega) (by omega) ?_
              obtain ⟨hw, hp_41⟩ := hw
              have hq_u_37 : u_37 = (fe_readNumber lxe lxa_cx fBy) := hw
              refine lv_goto (tgt := 131) hx hb dX3_advance_123 (by decide) ?_
              refine W.widen (k := 0) (n := 0) (by omega) (by omega) ?_
              obtain ⟨hP9, hD9⟩ := zsub2 (ws' := [(eO3a lx lby lfi lco lxe u_37.2.2 u_37.1 lxa_cx u_37.2.1 lxl), (eA0 lby cBy 900 fBy), (eA0 lco cCo 23 fCo)]) hP hD [1, 2, 0] (by decide) rfl
              have hK9 := hK.sub (tys' := []) [] rfl
              exact W.vret hx hb hr (fun t ht hW => ⟨⟨(u_37.2.2, u_37.1, lxa_cx, u_37.2.1, lxl), rfl, ⟨(Eq.symm ((by rw [fe_advance]; (try rw [← hX_1]); (try rw [xL_eq]); (try rw [← hq_lxa_cx]); (try rw [if_pos c_3]); (try rw [if_neg c_4]); (try rw [if_pos c_23]); (try rw [if_neg c_24]); (try rw [if_neg c_30]); (try rw [← hq_u_37]); (try rw [xL_eq]); try rfl))), (gz_advance_s16 (y0 := u_37.2.2) hp_41)⟩, by rw [ht]; exact hP9, va_K.moved hW.alike hK9, hD9⟩, hS.F ht⟩) hS.2.2 dX3_advance_131
        · refine lv_aload_n hx hb dX3_advance_100 rfl (lv_at hl 1 rfl) ?_
          obtain ⟨hPc, hDc, hFc, hCc⟩ := zsub3 (ws' := [(eO3a lx lby lfi lco lxe lxa_cx lxt lxa_cx lxn lxl), (eA0 lby cBy 900 fBy), (eA0 lco cCo 23 fCo)]) hP hD hS hA [0, 1, 2] (by decide) rfl
          have hKc := hK.sub (tys' := [(cBy, .byte), (cCo, .int)]) [0, 1] rfl
          refine va_callv (va_runV (As := []) (rest := []) ⟨hx, hb, hml, hown, htw⟩ (gz_readWord l dC dI lx lby lfi lco lxe lxa_cx lxt lxa_cx lxn lxl cBy fBy cCo fCo H.size (gz_advance_s17 (y0 := lxa_cx) (y1 := lxe) c_3 hx0 h9_lxe) h9_lxe) (cwV 0 htw (xg_V (ck_14 _ (List.mem_of_getElem? (i := 18) rfl)) (ck_14 _ (List.mem_of_getElem? (i := 19) rfl)) (ck_14 _ (List.mem_of_getElem? (i := 20) rfl)) (ck_3 _ (List.mem_of_getElem? (i := 4) rfl)) (ck_14 _ (List.mem_of_getElem? (i := 21) rfl))) rfl rfl rfl (by exact ⟨rfl, hdc_4.1, hdc_4.2, hdd_13⟩) ⟨Nat.le_of_ble_eq_true rfl, Nat.le_of_ble_eq_true rfl⟩) ⟨fun a U g mk q => by obtain ⟨q0, q1, qP, qK, qD⟩ := q; exact ⟨q0, q1, qP, va_K.moved (u := U) (U := U.calling g mk a) (Vm.Alike.refl U.vm) qK, qD⟩, va_recv hKc hPc (ci := 3) (q0 := 0) rfl rfl, fun U hU hW => ⟨rfl, by rw [hU], by rw [hU]; exact hPc, va_K.moved hW.alike hKc, hDc.weaken (fun _ _ _ _ => trivial)⟩⟩ rfl rfl hl.1 rfl (lv_room (Nat.le_of_ble_eq_true rfl)) dX3_advance_101 ⟨Nat.le_of_ble_eq_true rfl, Nat.le_of_ble_eq_true rfl⟩) hS (fun q _ h => hFc q h) hFc (fun u_43 t H1 locs ht hvm hw hB hz1 hk1 hS => ?_)
          try dsimp only at hw
          obtain ⟨hP1, hK1, hD1⟩ := hB
          rw [ht] at hP1
          have hK1 := va_K.moved hvm.symm hK1
          have hK1 : va_K (dC, dI) vwCl [] s := hK1
          obtain ⟨hP, hD⟩ := va_join (wr := []) (w1 := [(eO3a lx lby lfi lco lxe u_43.2.1 u_43.1 lxa_cx lxn u_43.2.2), (eA0 lby cBy 900 fBy), (eA0 lco cCo 23 fCo)]) hP hD [0, 1, 2] [] hCc rfl (by decide) (by decide) hk1 hFc hP1 hD1
          generalize H1 = H at hP hS ⊢
          obtain ⟨hP, hD⟩ := zre [(eO3a lx lby lfi lco lxe u_43.2.1 u_43.1 lxa_cx lxn u_43.2.2), (eA0 lby cBy 900 fBy), (eA0 lco cCo 23 fCo)] hP hD rfl
          refine W.widen (k := 0) (n := 0) (by omega) (by omega) ?_
          obtain ⟨hw, hp_47⟩ := hw
          have hq_u_43 : u_43 = (fe_readWord lxe lxa_cx lxa_cx lxl fBy fCo) := hw
          refine lv_goto (tgt := 131) hx hb dX3_advance_104 (by decide) ?_
          refine W.widen (k := 0) (n := 0) (by omega) (by omega) ?_
          have hP9 := hP
          have hD9 := hD
          have hK9 := hK.sub (tys' := []) [] rfl
          exact W.vret hx hb hr (fun t ht hW => ⟨⟨(u_43.2.1, u_43.1, lxa_cx, lxn, u_43.2.2), rfl, ⟨(Eq.symm ((by rw [fe_advance]; (try rw [← hX_1]); (try rw [xL_eq]); (try rw [← hq_lxa_cx]); (try rw [if_pos c_3]); (try rw [if_neg c_4]); (try rw [if_neg c_23]); (try rw [← hq_u_43]); (try rw [xL_eq]); try rfl))), (gz_advance_s18 (y0 := u_43.2.1) hp_47)⟩, by rw [ht]; exact hP9, va_K.moved hW.alike hK9, hD9⟩, hS.F ht⟩) hS.2.2 dX3_advance_131
    · refine lv_aload_n hx hb dX3_advance_71 rfl (lv_at hl 0 rfl) ?_
      refine lv_bipush (v := 40) hx hb dX3_advance_72 (by decide) ?_
      refine va_put (D := (dC, dI)) (ci := 3) (v := .int 40) (ty := tyX3 5) (C := RX3) (T := TX3) (N := 9) hx hb htw inlX3 tyX3 tyX3_ok nmX3 hown hK hP hD hS 0 rfl rfl 5 (by decide) (htw _ (ck_14 _ (List.mem_of_getElem? (i := 17) rfl))) (fun _ h9 => h9) rfl (tyX3_ok 5 (by decide)) rfl rfl (Nat.le_of_ble_eq_true rfl) dX3_advance_74 (fun H locs hP hD hS => ?_)
      obtain ⟨hP, hD⟩ := zre [(eO3a lx lby lfi lco lxe lxa_cx 40 lxa_cx lxn lxl), (eA0 lby cBy 900 fBy), (eA0 lco cCo 23 fCo)] hP hD rfl
      refine W.widen (k := 0) (n := 0) (by omega) (by omega) ?_
      have hP9 := hP
      have hD9 := hD
      have hK9 := hK.sub (tys' := []) [] rfl
      exact W.vret hx hb hr (fun t ht hW => ⟨⟨(lxa_cx, 40, lxa_cx, lxn, lxl), rfl, ⟨(Eq.symm ((by rw [fe_advance]; (try rw [← hX_1]); (try rw [xL_eq]); (try rw [← hq_lxa_cx]); (try rw [if_neg c_3]); try rfl))), (gz_advance_s19 (y0 := lxa_cx) (y1 := lxe) c_3 hx0 h9_lxe)⟩, by rw [ht]; exact hP9, va_K.moved hW.alike hK9, hD9⟩, hS.F ht⟩) hS.2.2 dX3_advance_77
  have hloop_48 : ∀ (n : Nat) (lxa_c : Int32) (ha0 : ¬ lxa_c < 0) (hfu : lxe.toInt ≤ lxa_c.toInt + (n : Int)) (hI_c : X_1 = fe_advance_c lxe fBy n lxa_c) (H : Heap) (locs : List Loc) (ls : Array Slot) (hP : va_P (dC, dI) vwCl [(eO3a lx lby lfi lco lxe lxa_c lxt lxp lxn lxl), (eA0 lby cBy 900 fBy), (eA0 lco cCo 23 fCo)] H) (hD : va_D A [(eO3a lx lby lfi lco lxe lxa_c lxt lxp lxn lxl), (eA0 lby cBy 900 fBy), (eA0 lco cCo 23 fCo)]) (hS : va_S A s.heap H locs) (hl : lv_has ls 2 [(0, .ref lx)]), W p l e (headSpec (Cond.code yX3_advance cX3_advance 2 none :: wsL_law) ({ frames := 1, cells := 0, slots := 0, locals := 22 })).room s m ([.ref lx] : List Value).toArray below meth c H locs 0 0 (MQ below (va_Qv (fun (u : (Int32) × (Int32) × (Int32) × (Int32) × (Int32)) => (u = fe_advance lxe lxa lxn lxl fBy fCo) ∧ (¬ u.1 < 0)) (fun (u : (Int32) × (Int32) × (Int32) × (Int32) × (Int32)) t => va_P (dC, dI) vwCl [(eO3a lx lby lfi lco lxe u.1 u.2.1 u.2.2.1 u.2.2.2.1 u.2.2.2.2), (eA0 lby cBy 900 fBy), (eA0 lco cCo 23 fCo)] t.heap ∧ va_K (dC, dI) vwCl [] t ∧ va_D A [(eO3a lx lby lfi lco lxe u.1 u.2.1 u.2.2.1 u.2.2.2.1 u.2.2.2.2), (eA0 lby cBy 900 fBy), (eA0 lco cCo 23 fCo)]) A) ([.ref lx] : List Value).toArray s 0 0 A) (F0 m 0 ls []) := by
    intro n
    induction n with
    | zero =>
      intro lxa_c ha0 hfu hI_c H locs ls hP hD hS hl
      refine lv_aload_n hx hb dX3_advance_0 rfl (lv_at hl 0 rfl) ?_
      refine va_get (D := (dC, dI)) (ci := 3) (v := .int lxa_c) (C := RX3) (T := TX3) (N := 9) hx hb htw inlX3 hown hK hP 0 rfl rfl 4 (by decide) (htw _ (ck_14 _ (List.mem_of_getElem? (i := 11) rfl))) (fun _ h9 => h9) rfl dX3_advance_1 ?_
      refine lv_aload_n hx hb dX3_advance_4 rfl (lv_at hl 0 rfl) ?_
      refine va_get (D := (dC, dI)) (ci := 3) (v := .int lxe) (C := RX3) (T := TX3) (N := 9) hx hb htw inlX3 hown hK hP 0 rfl rfl 3 (by decide) (htw _ (ck_14 _ (List.mem_of_getElem? (i := 10) rfl))) (fun _ h9 => h9) rfl dX3_advance_5 ?_
      refine lv_icmp_ge (tgt := 52) hx hb dX3_advance_8 (by decide) (fun c_49 => ?_) (fun c_49 => absurd c_49 (fun h => h (xi_z hfu)))
      exact hexit_2 lxa_c (gz_advance_s20 (y0 := lxa_c) (y1 := lxe) c_49 ha0 h9_lxe) (hI_c.trans (by rw [fe_advance_c]; try rfl)) _ _ ls hP hD hS (lv_sub hl [0] rfl)
    | succ n ih =>
      intro lxa_c ha0 hfu hI_c H locs ls hP hD hS hl
      refine lv_aload_n hx hb dX3_advance_0 rfl (lv_at hl 0 rfl) ?_
      refine va_get (D := (dC, dI)) (ci := 3) (v := .int lxa_c) (C := RX3) (T := TX3) (N := 9) hx hb htw inlX3 hown hK hP 0 rfl rfl 4 (by decide) (htw _ (ck_14 _ (List.mem_of_getElem? (i := 11) rfl))) (fun _ h9 => h9) rfl dX3_advance_1 ?_
      refine lv_aload_n hx hb dX3_advance_4 rfl (lv_at hl 0 rfl) ?_
      refine va_get (D := (dC, dI)) (ci := 3) (v := .int lxe) (C := RX3) (T := TX3) (N := 9) hx hb htw inlX3 hown hK hP 0 rfl rfl 3 (by decide) (htw _ (ck_14 _ (List.mem_of_getElem? (i := 10) rfl))) (fun _ h9 => h9) rfl dX3_advance_5 ?_
      refine lv_icmp_ge (tgt := 52) hx hb dX3_advance_8 (by decide) (fun c_50 => ?_) (fun c_50 => ?_)
      · exact hexit_2 lxa_c (gz_advance_s21 (y0 := lxa_c) (y1 := lxe) c_50 ha0 h9_lxe) (hI_c.trans (by rw [fe_advance_c]; (try rw [if_pos c_50]); try rfl)) _ _ ls hP hD hS (lv_sub hl [0] rfl)
      · refine lv_aload_n hx hb dX3_advance_11 rfl (lv_at hl 0 rfl) ?_
        refine va_get (D := (dC, dI)) (ci := 3) (v := .ref lby) (C := RX3) (T := TX3) (N := 9) hx hb htw inlX3 hown hK hP 0 rfl rfl 0 (by decide) (htw _ (ck_3 _ (List.mem_of_getElem? (i := 14) rfl))) (fun _ h9 => h9) rfl dX3_advance_12 ?_
        refine lv_aload_n hx hb dX3_advance_15 rfl (lv_at hl 0 rfl) ?_
        refine va_get (D := (dC, dI)) (ci := 3) (v := .int lxa_c) (C := RX3) (T := TX3) (N := 9) hx hb htw inlX3 hown hK hP 0 rfl rfl 4 (by decide) (htw _ (ck_14 _ (List.mem_of_getElem? (i := 11) rfl))) (fun _ h9 => h9) rfl dX3_advance_16 ?_
        refine va_bald hx hb hK hP 1 0 rfl rfl (xg_inr (N := 900) rfl (gz_advance_s22 (y0 := lxa_c) (y1 := lxe) c_50 ha0 h9_lxe).1 (gz_advance_s22 (y0 := lxa_c) (y1 := lxe) c_50 ha0 h9_lxe).2) dX3_advance_19 ?_
        refine lv_bipush (v := 10) hx hb dX3_advance_20 (by decide) ?_
        refine lv_icmp_eq (tgt := 39) hx hb dX3_advance_22 (by decide) (fun c_51 => ?_) (fun c_51 => ?_)
        · refine lv_aload_n hx hb dX3_advance_39 rfl (lv_at hl 0 rfl) ?_
          refine lv_dup hx hb dX3_advance_40 rfl ?_
          refine va_get (D := (dC, dI)) (ci := 3) (v := .int lxa_c) (C := RX3) (T := TX3) (N := 9) hx hb htw inlX3 hown hK hP 0 rfl rfl 4 (by decide) (htw _ (ck_14 _ (List.mem_of_getElem? (i := 11) rfl))) (fun _ h9 => h9) rfl dX3_advance_41 ?_
          refine lv_iconst (v := 1) hx hb dX3_advance_44 (by decide) ?_
          refine lv_iadd hx hb dX3_advance_45 ?_
          refine va_put (D := (dC, dI)) (ci := 3) (v := .int (lxa_c + 1)) (ty := tyX3 4) (C := RX3) (T := TX3) (N := 9) hx hb htw inlX3 tyX3 tyX3_ok nmX3 hown hK hP hD hS 0 rfl rfl 4 (by decide) (htw _ (ck_14 _ (List.mem_of_getElem? (i := 11) rfl))) (fun _ h9 => h9) rfl (tyX3_ok 4 (by decide)) rfl rfl (Nat.le_of_ble_eq_true rfl) dX3_advance_46 (fun H locs hP hD hS => ?_)
          obtain ⟨hP, hD⟩ := zre [(eO3a lx lby lfi lco lxe (lxa_c + 1) lxt lxp lxn lxl), (eA0 lby cBy 900 fBy), (eA0 lco cCo 23 fCo)] hP hD rfl
          refine lv_goto (tgt := 0) hx hb dX3_advance_49 (by decide) ?_
          exact ih (lxa_c + 1) (gz_advance_s23 (y0 := lxa_c) (y1 := lxe) c_50 ha0 h9_lxe) (by rw [xi_s' c_50]; omega) (hI_c.trans (by rw [fe_advance_c]; (try rw [if_neg c_50]); (try rw [if_pos c_51]); try rfl)) H locs ls hP hD hS (lv_sub hl [0] rfl)
        · refine lv_aload_n hx hb dX3_advance_25 rfl (lv_at hl 0 rfl) ?_
          refine va_get (D := (dC, dI)) (ci := 3) (v := .ref lby) (C := RX3) (T := TX3) (N := 9) hx hb htw inlX3 hown hK hP 0 rfl rfl 0 (by decide) (htw _ (ck_3 _ (List.mem_of_getElem? (i := 14) rfl))) (fun _ h9 => h9) rfl dX3_advance_26 ?_
          refine lv_aload_n hx hb dX3_advance_29 rfl (lv_at hl 0 rfl) ?_
          refine va_get (D := (dC, dI)) (ci := 3) (v := .int lxa_c) (C := RX3) (T := TX3) (N := 9) hx hb htw inlX3 hown hK hP 0 rfl rfl 4 (by decide) (htw _ (ck_14 _ (List.mem_of_getElem? (i := 11) rfl))) (fun _ h9 => h9) rfl dX3_advance_30 ?_
          refine va_bald hx hb hK hP 1 0 rfl rfl (xg_inr (N := 900) rfl (gz_advance_s24 (y0 := lxa_c) (y1 := lxe) c_50 ha0 h9_lxe).1 (gz_advance_s24 (y0 := lxa_c) (y1 := lxe) c_50 ha0 h9_lxe).2) dX3_advance_33 ?_
          refine lv_bipush (v := 32) hx hb dX3_advance_34 (by decide) ?_
          refine lv_icmp_ne (tgt := 52) hx hb dX3_advance_36 (by decide) (fun c_52 => ?_) (fun c_52 => ?_)
          · exact hexit_2 lxa_c (gz_advance_s25 (y0 := lxa_c) (y1 := lxe) c_50 ha0 h9_lxe) (hI_c.trans (by rw [fe_advance_c]; (try rw [if_neg c_50]); (try rw [if_neg c_51]); (try rw [if_neg c_52]); try rfl)) _ _ ls hP hD hS (lv_sub hl [0] rfl)
          · refine lv_aload_n hx hb dX3_advance_39 rfl (lv_at hl 0 rfl) ?_
            refine lv_dup hx hb dX3_advance_40 rfl ?_
            refine va_get (D := (dC, dI)) (ci := 3) (v := .int lxa_c) (C := RX3) (T := TX3) (N := 9) hx hb htw inlX3 hown hK hP 0 rfl rfl 4 (by decide) (htw _ (ck_14 _ (List.mem_of_getElem? (i := 11) rfl))) (fun _ h9 => h9) rfl dX3_advance_41 ?_
            refine lv_iconst (v := 1) hx hb dX3_advance_44 (by decide) ?_
            refine lv_iadd hx hb dX3_advance_45 ?_
            refine va_put (D := (dC, dI)) (ci := 3) (v := .int (lxa_c + 1)) (ty := tyX3 4) (C := RX3) (T := TX3) (N := 9) hx hb htw inlX3 tyX3 tyX3_ok nmX3 hown hK hP hD hS 0 rfl rfl 4 (by decide) (htw _ (ck_14 _ (List.mem_of_getElem? (i := 11) rfl))) (fun _ h9 => h9) rfl (tyX3_ok 4 (by decide)) rfl rfl (Nat.le_of_ble_eq_true rfl) dX3_advance_46 (fun H locs hP hD hS => ?_)
            obtain ⟨hP, hD⟩ := zre [(eO3a lx lby lfi lco lxe (lxa_c + 1) lxt lxp lxn lxl), (eA0 lby cBy 900 fBy), (eA0 lco cCo 23 fCo)] hP hD rfl
            refine lv_goto (tgt := 0) hx hb dX3_advance_49 (by decide) ?_
            exact ih (lxa_c + 1) (gz_advance_s26 (y0 := lxa_c) (y1 := lxe) c_50 ha0 h9_lxe) (by rw [xi_s' c_50]; omega) (hI_c.trans (by rw [fe_advance_c]; (try rw [if_neg c_50]); (try rw [if_neg c_51]); (try rw [if_pos c_52]); try rfl)) H locs ls hP hD hS (lv_sub hl [0] rfl)
  exact hloop_48 900 lxa (gz_advance_s27 (y0 := lxa) h0_lxa) (by have := xi_le h9_lxe; have := xi_nn h0_lxa; have e9 : (900 : Int32).toInt = 900 := rfl; omega) (hX_1) _ _ ls hP hD hS (lv_sub hl [0] rfl)

theorem gz_start_s0  : ¬ ((0 : Int32) < 0) := (by decide)
theorem gz_start_s1 {y0 : Int32} {y1 : Int32} (h0 : y0 ≤ 900) : (if y0 < y1 then y0 else y1) ≤ 900 := by grind
theorem gz_start_s2 {y0 : Int32} (h0 : ¬ (y0 < 0)) : ¬ (y0 < 0) := h0
theorem gz_start_s3 {y0 : Int32} {y1 : Int32} (h0 : y0 ≤ 900) : (if y0 < y1 then y0 else y1) ≤ 900 := by grind
theorem gz_start_s4  : (0 : Int32) = 0 := (by decide)
set_option maxHeartbeats 4000000 in
set_option maxRecDepth 100000 in
theorem gz_start (l : Launch) (dC : Nat → ClassId) (dI : Nat → Nat → Nat) (lx : Nat) (lby : Nat) (lfi : Int32) (lco : Nat) (lxe : Int32) (lxa : Int32) (lxt : Int32) (lxp : Int32) (lxn : Int32) (lxl : Int32) (cBy : ClassId) (fBy : Nat → Int32) (cCo : ClassId) (fCo : Nat → Int32) (a0 : Int32) (sz : Nat) (h9_fi : lfi ≤ 900) : Met l yX3_start (Cond.code yX3_start cX3_start 2 none :: wsL_law) ({ frames := 2, cells := 0, slots := 0, locals := 43 }) (va_Pc [.ref lx, .int a0] (fun U => U.heap.size = sz ∧ va_P (dC, dI) vwCl [(eO3a lx lby lfi lco lxe lxa lxt lxp lxn lxl), (eA0 lby cBy 900 fBy), (eA0 lco cCo 23 fCo)] U.heap ∧ va_K (dC, dI) vwCl [(cBy, .byte), (cCo, .int)] U ∧ va_D (fun _ => True) [(eO3a lx lby lfi lco lxe lxa lxt lxp lxn lxl), (eA0 lby cBy 900 fBy), (eA0 lco cCo 23 fCo)])) (va_Qv (fun (u : (Int32) × (Int32) × (Int32) × (Int32) × (Int32) × (Int32) × (Int32)) => (u = fe_start lfi lxn lxl fBy fCo a0) ∧ (¬ u.2.2.1 < 0) ∧ (u.2.1 ≤ 900) ∧ (u.1 = 0)) (fun (u : (Int32) × (Int32) × (Int32) × (Int32) × (Int32) × (Int32) × (Int32)) t => va_P (dC, dI) vwCl [(eO3a lx lby u.1 lco u.2.1 u.2.2.1 u.2.2.2.1 u.2.2.2.2.1 u.2.2.2.2.2.1 u.2.2.2.2.2.2), (eA0 lby cBy 900 fBy), (eA0 lco cCo 23 fCo)] t.heap ∧ va_K (dC, dI) vwCl [] t ∧ va_D (va_A [(eO3a lx lby lfi lco lxe lxa lxt lxp lxn lxl), (eA0 lby cBy 900 fBy), (eA0 lco cCo 23 fCo)] sz) [(eO3a lx lby u.1 lco u.2.1 u.2.2.1 u.2.2.2.1 u.2.2.2.2.1 u.2.2.2.2.2.1 u.2.2.2.2.2.2), (eA0 lby cBy 900 fBy), (eA0 lco cCo 23 fCo)]) (va_A [(eO3a lx lby lfi lco lxe lxa lxt lxp lxn lxl), (eA0 lby cBy 900 fBy), (eA0 lco cCo 23 fCo)] sz)) 0 0 (va_A [(eO3a lx lby lfi lco lxe lxa lxt lxp lxn lxl), (eA0 lby cBy 900 fBy), (eA0 lco cCo 23 fCo)] sz) := by
  refine Met.ofW (cc := cX3_start) (maxL := 2) (ret := none) (by decide) rfl ?_
  intro p e s m args below meth c s₁ B hml hv
  obtain ⟨rfl, hsz, hP, hK, hD0⟩ := hv
  have hx := B.exec
  have hb := B.bytes
  have hr := B.returns
  have hts := atoms_spec (ws := Cond.code yX3_start cX3_start 2 none :: wsL_law) B.pre
  have htw : ∀ w ∈ wsL_law, w.before _ s = true := fun w h => hts w (List.mem_cons_of_mem _ h)
  have hown : s.vm.findClass RX3 = some m.cls := findClass_of_methodNamed B.named
  have hlocks := B.notSynchronized
  subst hsz
  have hD := hD0.self (sz := s.heap.size)
  generalize hAe : va_A [(eO3a lx lby lfi lco lxe lxa lxt lxp lxn lxl), (eA0 lby cBy 900 fBy), (eA0 lco cCo 23 fCo)] s.heap.size = A at hD ⊢
  have hA : ∀ q : Nat, s.heap.size ≤ q → A q := fun q h => by rw [← hAe]; exact Or.inr h
  obtain ⟨H, rH⟩ : ∃ z : Heap, z = s.heap := ⟨_, rfl⟩
  have hS : va_S A s.heap H [] := by rw [rH]; exact va_S.rf
  have hP : va_P (dC, dI) vwCl [(eO3a lx lby lfi lco lxe lxa lxt lxp lxn lxl), (eA0 lby cBy 900 fBy), (eA0 lco cCo 23 fCo)] H := by rw [rH]; exact hP
  rw [← rH]
  have hl := lv_entry ([.ref lx, .int a0]) (n := 2) (Nat.le_of_ble_eq_true rfl)
  rw [lg_entry_eq]
  generalize (lg_sl ([.ref lx, .int a0]) ++ List.replicate (2 - (lg_sl ([.ref lx, .int a0])).length) Slot.unset).toArray = ls at hl ⊢
  have hl : lv_has ls 2 [(0, .ref lx), (1, .int a0)] := hl
  refine lv_aload_n hx hb dX3_start_0 rfl (lv_at hl 0 rfl) ?_
  refine lv_iload_n hx hb dX3_start_1 rfl (lv_at hl 1 rfl) ?_
  refine lv_aload_n hx hb dX3_start_2 rfl (lv_at hl 0 rfl) ?_
  refine va_get (D := (dC, dI)) (ci := 3) (v := .int lfi) (C := RX3) (T := TX3) (N := 9) hx hb htw inlX3 hown hK hP 0 rfl rfl 1 (by decide) (htw _ (ck_12 _ (List.mem_of_getElem? (i := 11) rfl))) (fun _ h9 => h9) rfl dX3_start_3 ?_
  refine va_mmin hx hb (by rw [hml]; exact hl.1.symm) hown (htw _ (ck_14 _ (List.mem_of_getElem? (i := 6) rfl))) (htw _ (ck_14 _ (List.mem_of_getElem? (i := 7) rfl))) (htw _ (ck_14 _ (List.mem_of_getElem? (i := 8) rfl))) (htw _ (ck_14 _ (List.mem_of_getElem? (i := 9) rfl))) (Nat.le_of_ble_eq_true rfl) (Nat.le_of_ble_eq_true rfl) (Nat.le_of_ble_eq_true rfl) (Nat.le_of_ble_eq_true rfl) dX3_start_6 ?_
  refine va_put (D := (dC, dI)) (ci := 3) (v := .int (if lfi < a0 then lfi else a0)) (ty := tyX3 3) (C := RX3) (T := TX3) (N := 9) hx hb htw inlX3 tyX3 tyX3_ok nmX3 hown hK hP hD hS 0 rfl rfl 3 (by decide) (htw _ (ck_14 _ (List.mem_of_getElem? (i := 10) rfl))) (fun _ h9 => h9) rfl (tyX3_ok 3 (by decide)) rfl rfl (Nat.le_of_ble_eq_true rfl) dX3_start_9 (fun H locs hP hD hS => ?_)
  obtain ⟨hP, hD⟩ := zre [(eO3a lx lby lfi lco (if lfi < a0 then lfi else a0) lxa lxt lxp lxn lxl), (eA0 lby cBy 900 fBy), (eA0 lco cCo 23 fCo)] hP hD rfl
  refine lv_aload_n hx hb dX3_start_12 rfl (lv_at hl 0 rfl) ?_
  refine lv_iconst (v := 0) hx hb dX3_start_13 (by decide) ?_
  refine va_put (D := (dC, dI)) (ci := 3) (v := .int 0) (ty := tyX3 1) (C := RX3) (T := TX3) (N := 9) hx hb htw inlX3 tyX3 tyX3_ok nmX3 hown hK hP hD hS 0 rfl rfl 1 (by decide) (htw _ (ck_12 _ (List.mem_of_getElem? (i := 11) rfl))) (fun _ h9 => h9) rfl (tyX3_ok 1 (by decide)) rfl rfl (Nat.le_of_ble_eq_true rfl) dX3_start_14 (fun H locs hP hD hS => ?_)
  obtain ⟨hP, hD⟩ := zre [(eO3a lx lby 0 lco (if lfi < a0 then lfi else a0) lxa lxt lxp lxn lxl), (eA0 lby cBy 900 fBy), (eA0 lco cCo 23 fCo)] hP hD rfl
  refine lv_aload_n hx hb dX3_start_17 rfl (lv_at hl 0 rfl) ?_
  refine lv_iconst (v := 0) hx hb dX3_start_18 (by decide) ?_
  refine va_put (D := (dC, dI)) (ci := 3) (v := .int 0) (ty := tyX3 4) (C := RX3) (T := TX3) (N := 9) hx hb htw inlX3 tyX3 tyX3_ok nmX3 hown hK hP hD hS 0 rfl rfl 4 (by decide) (htw _ (ck_14 _ (List.mem_of_getElem? (i := 11) rfl))) (fun _ h9 => h9) rfl (tyX3_ok 4 (by decide)) rfl rfl (Nat.le_of_ble_eq_true rfl) dX3_start_19 (fun H locs hP hD hS => ?_)
  obtain ⟨hP, hD⟩ := zre [(eO3a lx lby 0 lco (if lfi < a0 then lfi else a0) 0 lxt lxp lxn lxl), (eA0 lby cBy 900 fBy), (eA0 lco cCo 23 fCo)] hP hD rfl
  refine lv_aload_n hx hb dX3_start_22 rfl (lv_at hl 0 rfl) ?_
  obtain ⟨hPc, hDc, hFc, hCc⟩ := zsub3 (ws' := [(eO3a lx lby 0 lco (if lfi < a0 then lfi else a0) 0 lxt lxp lxn lxl), (eA0 lby cBy 900 fBy), (eA0 lco cCo 23 fCo)]) hP hD hS hA [0, 1, 2] (by decide) rfl
  have hKc := hK.sub (tys' := [(cBy, .byte), (cCo, .int)]) [0, 1] rfl
  refine va_callv (va_runV (As := []) (rest := []) ⟨hx, hb, hml, hown, htw⟩ (gz_advance l dC dI lx lby (0 : Int32) lco (if lfi < a0 then lfi else a0) (0 : Int32) lxt lxp lxn lxl cBy fBy cCo fCo H.size (gz_start_s0 ) (gz_start_s1 (y0 := lfi) (y1 := a0) h9_fi)) (cwV 0 htw (xg_V (ck_14 _ (List.mem_of_getElem? (i := 12) rfl)) (ck_14 _ (List.mem_of_getElem? (i := 13) rfl)) (ck_14 _ (List.mem_of_getElem? (i := 14) rfl)) (ck_3 _ (List.mem_of_getElem? (i := 4) rfl)) (ck_14 _ (List.mem_of_getElem? (i := 15) rfl))) rfl rfl rfl (by exact ⟨rfl, hdc_4.1, hdc_4.2, hdd_13⟩) ⟨Nat.le_of_ble_eq_true rfl, Nat.le_of_ble_eq_true rfl⟩) ⟨fun a U g mk q => by obtain ⟨q0, q1, qP, qK, qD⟩ := q; exact ⟨q0, q1, qP, va_K.moved (u := U) (U := U.calling g mk a) (Vm.Alike.refl U.vm) qK, qD⟩, va_recv hKc hPc (ci := 3) (q0 := 0) rfl rfl, fun U hU hW => ⟨rfl, by rw [hU], by rw [hU]; exact hPc, va_K.moved hW.alike hKc, hDc.weaken (fun _ _ _ _ => trivial)⟩⟩ rfl rfl hl.1 rfl (lv_room (Nat.le_of_ble_eq_true rfl)) dX3_start_23 ⟨Nat.le_of_ble_eq_true rfl, Nat.le_of_ble_eq_true rfl⟩) hS (fun q _ h => hFc q h) hFc (fun u_2 t H1 locs ht hvm hw hB hz1 hk1 hS => ?_)
  try dsimp only at hw
  obtain ⟨hP1, hK1, hD1⟩ := hB
  rw [ht] at hP1
  have hK1 := va_K.moved hvm.symm hK1
  have hK1 : va_K (dC, dI) vwCl [] s := hK1
  obtain ⟨hP, hD⟩ := va_join (wr := []) (w1 := [(eO3a lx lby 0 lco (if lfi < a0 then lfi else a0) u_2.1 u_2.2.1 u_2.2.2.1 u_2.2.2.2.1 u_2.2.2.2.2), (eA0 lby cBy 900 fBy), (eA0 lco cCo 23 fCo)]) hP hD [0, 1, 2] [] hCc rfl (by decide) (by decide) hk1 hFc hP1 hD1
  generalize H1 = H at hP hS ⊢
  obtain ⟨hP, hD⟩ := zre [(eO3a lx lby 0 lco (if lfi < a0 then lfi else a0) u_2.1 u_2.2.1 u_2.2.2.1 u_2.2.2.2.1 u_2.2.2.2.2), (eA0 lby cBy 900 fBy), (eA0 lco cCo 23 fCo)] hP hD rfl
  refine W.widen (k := 0) (n := 0) (by omega) (by omega) ?_
  obtain ⟨hw, hp_8⟩ := hw
  have hq_u_2 : u_2 = (fe_advance (if lfi < a0 then lfi else a0) (0 : Int32) lxn lxl fBy fCo) := hw
  refine W.widen (k := 0) (n := 0) (by omega) (by omega) ?_
  have hP9 := hP
  have hD9 := hD
  have hK9 := hK.sub (tys' := []) [] rfl
  exact W.vret hx hb hr (fun t ht hW => ⟨⟨(0, (if lfi < a0 then lfi else a0), u_2.1, u_2.2.1, u_2.2.2.1, u_2.2.2.2.1, u_2.2.2.2.2), rfl, ⟨(Eq.symm ((by rw [fe_start]; (try rw [← hq_u_2]); (try rw [xL_eq]); try rfl))), (gz_start_s2 (y0 := u_2.1) hp_8), (gz_start_s3 (y0 := lfi) (y1 := a0) h9_fi), (gz_start_s4 )⟩, by rw [ht]; exact hP9, va_K.moved hW.alike hK9, hD9⟩, hS.F ht⟩) hS.2.2 dX3_start_26
