theorem xn_up {x : Int32} (h0 : ¬ x < 0) (h : ¬ 900 ≤ x) : ¬ x + 1 < 0 := by
  have e0 : (0 : Int32).toInt = 0 := rfl
  have e1 : (1 : Int32).toInt = 1 := rfl
  have e9 : (900 : Int32).toInt = 900 := rfl
  rw [Int32.lt_iff_toInt_lt, e0] at h0
  rw [Int32.le_iff_toInt_le, e9] at h
  have q1 : (x.toInt + 1).bmod (2 ^ 32) = x.toInt + 1 := Int.bmod_eq_of_le (by omega) (by omega)
  rw [Int32.lt_iff_toInt_lt, e0, Int32.toInt_add, e1, q1]
  omega

def fx_putFour (lfi : Int32) (fBy : Nat → Int32) (a0 : Int32) : (Int32) × (Nat → Int32) := (if 900 ≤ lfi then (lfi, fBy) else (if 900 ≤ (lfi + 1) then ((lfi + 1), (upd fBy lfi.toNatClampNeg (vp_nar .byte ((a0 >>> (24 &&& 31)).toInt8.toInt32)))) else (if 900 ≤ ((lfi + 1) + 1) then (((lfi + 1) + 1), (upd (upd fBy lfi.toNatClampNeg (vp_nar .byte ((a0 >>> (24 &&& 31)).toInt8.toInt32))) ((lfi + 1).toNatClampNeg) (vp_nar .byte ((a0 >>> (16 &&& 31)).toInt8.toInt32)))) else (if 900 ≤ (((lfi + 1) + 1) + 1) then ((((lfi + 1) + 1) + 1), (upd (upd (upd fBy lfi.toNatClampNeg (vp_nar .byte ((a0 >>> (24 &&& 31)).toInt8.toInt32))) ((lfi + 1).toNatClampNeg) (vp_nar .byte ((a0 >>> (16 &&& 31)).toInt8.toInt32))) (((lfi + 1) + 1).toNatClampNeg) (vp_nar .byte ((a0 >>> (8 &&& 31)).toInt8.toInt32)))) else (((((lfi + 1) + 1) + 1) + 1), (upd (upd (upd (upd fBy lfi.toNatClampNeg (vp_nar .byte ((a0 >>> (24 &&& 31)).toInt8.toInt32))) ((lfi + 1).toNatClampNeg) (vp_nar .byte ((a0 >>> (16 &&& 31)).toInt8.toInt32))) (((lfi + 1) + 1).toNatClampNeg) (vp_nar .byte ((a0 >>> (8 &&& 31)).toInt8.toInt32))) ((((lfi + 1) + 1) + 1).toNatClampNeg) (vp_nar .byte ((a0 >>> (0 &&& 31)).toInt8.toInt32))))))))
theorem dX3_putFour_0 : decode cX3_putFour 0 = .ok (.bipush 24, 2) := zk_16 (by decide +kernel)
theorem dX3_putFour_2 : decode cX3_putFour 2 = .ok (.istore_n 2, 1) := zk_61 (by decide +kernel)
theorem dX3_putFour_3 : decode cX3_putFour 3 = .ok (.iload_n 2, 1) := zk_28 (by decide +kernel)
theorem dX3_putFour_4 : decode cX3_putFour 4 = .ok (.ifCond .lt 44, 3) := zk_155 (by decide +kernel)
theorem dX3_putFour_7 : decode cX3_putFour 7 = .ok (.aload_n 0, 1) := zk_42 (by decide +kernel)
theorem dX3_putFour_8 : decode cX3_putFour 8 = .ok (.getfield 31, 3) := zk_180 (by decide +kernel)
theorem dX3_putFour_11 : decode cX3_putFour 11 = .ok (.aload_n 0, 1) := zk_42 (by decide +kernel)
theorem dX3_putFour_12 : decode cX3_putFour 12 = .ok (.getfield 9, 3) := zk_180 (by decide +kernel)
theorem dX3_putFour_15 : decode cX3_putFour 15 = .ok (.arraylength, 1) := zk_190 (by decide +kernel)
theorem dX3_putFour_16 : decode cX3_putFour 16 = .ok (.if_icmp .ge 32, 3) := zk_162 (by decide +kernel)
theorem dX3_putFour_48 : decode cX3_putFour 48 = .ok (.return_, 1) := zk_177 (by decide +kernel)
theorem dX3_putFour_19 : decode cX3_putFour 19 = .ok (.aload_n 0, 1) := zk_42 (by decide +kernel)
theorem dX3_putFour_20 : decode cX3_putFour 20 = .ok (.getfield 9, 3) := zk_180 (by decide +kernel)
theorem dX3_putFour_23 : decode cX3_putFour 23 = .ok (.aload_n 0, 1) := zk_42 (by decide +kernel)
theorem dX3_putFour_24 : decode cX3_putFour 24 = .ok (.getfield 31, 3) := zk_180 (by decide +kernel)
theorem dX3_putFour_27 : decode cX3_putFour 27 = .ok (.iload_n 1, 1) := zk_27 (by decide +kernel)
theorem dX3_putFour_28 : decode cX3_putFour 28 = .ok (.iload_n 2, 1) := zk_28 (by decide +kernel)
theorem dX3_putFour_29 : decode cX3_putFour 29 = .ok (.ishr, 1) := zk_122 (by decide +kernel)
theorem dX3_putFour_30 : decode cX3_putFour 30 = .ok (.i2b, 1) := zk_145 (by decide +kernel)
theorem dX3_putFour_31 : decode cX3_putFour 31 = .ok (.bastore, 1) := zk_84 (by decide +kernel)
theorem dX3_putFour_32 : decode cX3_putFour 32 = .ok (.aload_n 0, 1) := zk_42 (by decide +kernel)
theorem dX3_putFour_33 : decode cX3_putFour 33 = .ok (.dup, 1) := zk_89 (by decide +kernel)
theorem dX3_putFour_34 : decode cX3_putFour 34 = .ok (.getfield 31, 3) := zk_180 (by decide +kernel)
theorem dX3_putFour_37 : decode cX3_putFour 37 = .ok (.iconst 1, 1) := zk_4 (by decide +kernel)
theorem dX3_putFour_38 : decode cX3_putFour 38 = .ok (.iadd, 1) := zk_96 (by decide +kernel)
theorem dX3_putFour_39 : decode cX3_putFour 39 = .ok (.putfield 31, 3) := zk_181 (by decide +kernel)
theorem dX3_putFour_42 : decode cX3_putFour 42 = .ok (.iinc 2 (-8), 3) := zk_132 (by decide +kernel)
theorem dX3_putFour_45 : decode cX3_putFour 45 = .ok (.goto (-42), 3) := zk_167 (by decide +kernel)
set_option maxHeartbeats 4000000 in
set_option maxRecDepth 100000 in
theorem gt_putFour (l : Launch) (dC : Nat → ClassId) (dI : Nat → Nat → Nat) (lx : Nat) (lby : Nat) (lfi : Int32) (lco : Nat) (lxe : Int32) (lxa : Int32) (lxt : Int32) (lxp : Int32) (lxn : Int32) (lxl : Int32) (cBy : ClassId) (fBy : Nat → Int32) (a0 : Int32) (sz : Nat) (h0_lfi : ¬ lfi < 0) : Met l yX3_putFour (Cond.code yX3_putFour cX3_putFour 3 none :: wsL_law) ({ frames := 0, cells := 0, slots := 0, locals := 0 }) (va_Pc [.ref lx, .int a0] (fun U => U.heap.size = sz ∧ va_P (dC, dI) vwCl [(eO3a lx lby lfi lco lxe lxa lxt lxp lxn lxl), (eA0 lby cBy 900 fBy)] U.heap ∧ va_K (dC, dI) vwCl [(cBy, .byte)] U ∧ va_D (fun _ => True) [(eO3a lx lby lfi lco lxe lxa lxt lxp lxn lxl), (eA0 lby cBy 900 fBy)])) (va_Qv (fun (u : (Int32) × (Nat → Int32)) => u = fx_putFour lfi fBy a0) (fun (u : (Int32) × (Nat → Int32)) t => va_P (dC, dI) vwCl [(eO3a lx lby u.1 lco lxe lxa lxt lxp lxn lxl), (eA0 lby cBy 900 u.2)] t.heap ∧ va_K (dC, dI) vwCl [] t ∧ va_D (va_A [(eO3a lx lby lfi lco lxe lxa lxt lxp lxn lxl), (eA0 lby cBy 900 fBy)] sz) [(eO3a lx lby u.1 lco lxe lxa lxt lxp lxn lxl), (eA0 lby cBy 900 u.2)]) (va_A [(eO3a lx lby lfi lco lxe lxa lxt lxp lxn lxl), (eA0 lby cBy 900 fBy)] sz)) 0 0 (va_A [(eO3a lx lby lfi lco lxe lxa lxt lxp lxn lxl), (eA0 lby cBy 900 fBy)] sz) := by
  refine Met.ofW (cc := cX3_putFour) (maxL := 3) (ret := none) (by decide) rfl ?_
  intro p e s m args below meth c s₁ B hml hv
  obtain ⟨rfl, hsz, hP, hK, hD0⟩ := hv
  have hx := B.exec
  have hb := B.bytes
  have hr := B.returns
  have hts := atoms_spec (ws := Cond.code yX3_putFour cX3_putFour 3 none :: wsL_law) B.pre
  have htw : ∀ w ∈ wsL_law, w.before _ s = true := fun w h => hts w (List.mem_cons_of_mem _ h)
  have hown : s.vm.findClass RX3 = some m.cls := findClass_of_methodNamed B.named
  have hlocks := B.notSynchronized
  subst hsz
  have hD := hD0.self (sz := s.heap.size)
  generalize hAe : va_A [(eO3a lx lby lfi lco lxe lxa lxt lxp lxn lxl), (eA0 lby cBy 900 fBy)] s.heap.size = A at hD ⊢
  have hA : ∀ q : Nat, s.heap.size ≤ q → A q := fun q h => by rw [← hAe]; exact Or.inr h
  obtain ⟨H, rH⟩ : ∃ z : Heap, z = s.heap := ⟨_, rfl⟩
  have hS : va_S A s.heap H [] := by rw [rH]; exact va_S.rf
  have hP : va_P (dC, dI) vwCl [(eO3a lx lby lfi lco lxe lxa lxt lxp lxn lxl), (eA0 lby cBy 900 fBy)] H := by rw [rH]; exact hP
  rw [← rH]
  have hl := lv_entry ([.ref lx, .int a0]) (n := 3) (Nat.le_of_ble_eq_true rfl)
  rw [lg_entry_eq]
  generalize (lg_sl ([.ref lx, .int a0]) ++ List.replicate (3 - (lg_sl ([.ref lx, .int a0])).length) Slot.unset).toArray = ls at hl ⊢
  have hl : lv_has ls 3 [(0, .ref lx), (1, .int a0)] := hl
  refine lv_bipush (v := 24) hx hb dX3_putFour_0 (by decide) ?_
  refine lv_istore_n (lv' := [(2, .int 24), (0, .ref lx), (1, .int a0)]) hx hb dX3_putFour_2 rfl hl (by decide) rfl (fun ls hl => ?_)
  refine lv_iload_n hx hb dX3_putFour_3 rfl (lv_at hl 0 rfl) ?_
  refine lv_if_lt (tgt := 48) hx hb dX3_putFour_4 (by decide) (fun c => absurd c (by decide)) (fun _ => ?_)
  refine lv_aload_n hx hb dX3_putFour_7 rfl (lv_at hl 1 rfl) ?_
  refine va_get (D := (dC, dI)) (ci := 3) (v := .int lfi) (C := RX3) (T := TX3) (N := 9) hx hb htw inlX3 hown hK hP 0 rfl rfl 1 (by decide) (htw _ (ck_12 _ (List.mem_of_getElem? (i := 11) rfl))) (fun _ h9 => h9) rfl dX3_putFour_8 ?_
  refine lv_aload_n hx hb dX3_putFour_11 rfl (lv_at hl 1 rfl) ?_
  refine va_get (D := (dC, dI)) (ci := 3) (v := .ref lby) (C := RX3) (T := TX3) (N := 9) hx hb htw inlX3 hown hK hP 0 rfl rfl 0 (by decide) (htw _ (ck_3 _ (List.mem_of_getElem? (i := 14) rfl))) (fun _ h9 => h9) rfl dX3_putFour_12 ?_
  refine va_alen hx hb hK hP 1 0 rfl rfl (v := 900) rfl dX3_putFour_15 ?_
  refine lv_icmp_ge (tgt := 48) hx hb dX3_putFour_16 (by decide) (fun c_1 => ?_) (fun c_1 => ?_)
  · refine W.widen (k := 0) (n := 0) (by omega) (by omega) ?_
    have hP9 := hP
    have hD9 := hD
    have hK9 := hK.sub (tys' := []) [] rfl
    exact W.vret hx hb hr (fun t ht hW => ⟨⟨(lfi, fBy), rfl, (by rw [fx_putFour]; (try rw [if_pos c_1]); try rfl), by rw [ht]; exact hP9, va_K.moved hW.alike hK9, hD9⟩, hS.F ht⟩) hS.2.2 dX3_putFour_48
  · refine lv_aload_n hx hb dX3_putFour_19 rfl (lv_at hl 1 rfl) ?_
    refine va_get (D := (dC, dI)) (ci := 3) (v := .ref lby) (C := RX3) (T := TX3) (N := 9) hx hb htw inlX3 hown hK hP 0 rfl rfl 0 (by decide) (htw _ (ck_3 _ (List.mem_of_getElem? (i := 14) rfl))) (fun _ h9 => h9) rfl dX3_putFour_20 ?_
    refine lv_aload_n hx hb dX3_putFour_23 rfl (lv_at hl 1 rfl) ?_
    refine va_get (D := (dC, dI)) (ci := 3) (v := .int lfi) (C := RX3) (T := TX3) (N := 9) hx hb htw inlX3 hown hK hP 0 rfl rfl 1 (by decide) (htw _ (ck_12 _ (List.mem_of_getElem? (i := 11) rfl))) (fun _ h9 => h9) rfl dX3_putFour_24 ?_
    refine lv_iload_n hx hb dX3_putFour_27 rfl (lv_at hl 2 rfl) ?_
    refine lv_iload_n hx hb dX3_putFour_28 rfl (lv_at hl 0 rfl) ?_
    refine lv_ishr hx hb dX3_putFour_29 ?_
    refine lv_i2b (v := (a0 >>> (24 &&& 31)).toInt8.toInt32) hx hb dX3_putFour_30 rfl ?_
    refine va_bast hx hb hK hP hD hS 1 0 rfl rfl (xg_inr (N := 900) rfl h0_lfi c_1) dX3_putFour_31 (fun H locs hP hD hS => ?_)
    obtain ⟨hP, hD⟩ := zre [(eO3a lx lby lfi lco lxe lxa lxt lxp lxn lxl), (eA0 lby cBy 900 (upd fBy lfi.toNatClampNeg (vp_nar .byte ((a0 >>> (24 &&& 31)).toInt8.toInt32))))] hP hD rfl
    refine lv_aload_n hx hb dX3_putFour_32 rfl (lv_at hl 1 rfl) ?_
    refine lv_dup hx hb dX3_putFour_33 rfl ?_
    refine va_get (D := (dC, dI)) (ci := 3) (v := .int lfi) (C := RX3) (T := TX3) (N := 9) hx hb htw inlX3 hown hK hP 0 rfl rfl 1 (by decide) (htw _ (ck_12 _ (List.mem_of_getElem? (i := 11) rfl))) (fun _ h9 => h9) rfl dX3_putFour_34 ?_
    refine lv_iconst (v := 1) hx hb dX3_putFour_37 (by decide) ?_
    refine lv_iadd hx hb dX3_putFour_38 ?_
    refine va_put (D := (dC, dI)) (ci := 3) (v := .int (lfi + 1)) (ty := tyX3 1) (C := RX3) (T := TX3) (N := 9) hx hb htw inlX3 tyX3 tyX3_ok nmX3 hown hK hP hD hS 0 rfl rfl 1 (by decide) (htw _ (ck_12 _ (List.mem_of_getElem? (i := 11) rfl))) (fun _ h9 => h9) rfl (tyX3_ok 1 (by decide)) rfl rfl (Nat.le_of_ble_eq_true rfl) dX3_putFour_39 (fun H locs hP hD hS => ?_)
    obtain ⟨hP, hD⟩ := zre [(eO3a lx lby (lfi + 1) lco lxe lxa lxt lxp lxn lxl), (eA0 lby cBy 900 (upd fBy lfi.toNatClampNeg (vp_nar .byte ((a0 >>> (24 &&& 31)).toInt8.toInt32))))] hP hD rfl
    refine lv_iinc (v := 16) (lv' := [(2, .int 16), (0, .ref lx), (1, .int a0)]) hx hb dX3_putFour_42 hl (k := 0) rfl (by decide) (by decide) rfl (fun ls hl => ?_)
    refine lv_goto (tgt := 3) hx hb dX3_putFour_45 (by decide) ?_
    refine lv_iload_n hx hb dX3_putFour_3 rfl (lv_at hl 0 rfl) ?_
    refine lv_if_lt (tgt := 48) hx hb dX3_putFour_4 (by decide) (fun c => absurd c (by decide)) (fun _ => ?_)
    refine lv_aload_n hx hb dX3_putFour_7 rfl (lv_at hl 1 rfl) ?_
    refine va_get (D := (dC, dI)) (ci := 3) (v := .int (lfi + 1)) (C := RX3) (T := TX3) (N := 9) hx hb htw inlX3 hown hK hP 0 rfl rfl 1 (by decide) (htw _ (ck_12 _ (List.mem_of_getElem? (i := 11) rfl))) (fun _ h9 => h9) rfl dX3_putFour_8 ?_
    refine lv_aload_n hx hb dX3_putFour_11 rfl (lv_at hl 1 rfl) ?_
    refine va_get (D := (dC, dI)) (ci := 3) (v := .ref lby) (C := RX3) (T := TX3) (N := 9) hx hb htw inlX3 hown hK hP 0 rfl rfl 0 (by decide) (htw _ (ck_3 _ (List.mem_of_getElem? (i := 14) rfl))) (fun _ h9 => h9) rfl dX3_putFour_12 ?_
    refine va_alen hx hb hK hP 1 0 rfl rfl (v := 900) rfl dX3_putFour_15 ?_
    refine lv_icmp_ge (tgt := 48) hx hb dX3_putFour_16 (by decide) (fun c_3 => ?_) (fun c_3 => ?_)
    · refine W.widen (k := 0) (n := 0) (by omega) (by omega) ?_
      have hP9 := hP
      have hD9 := hD
      have hK9 := hK.sub (tys' := []) [] rfl
      exact W.vret hx hb hr (fun t ht hW => ⟨⟨((lfi + 1), (upd fBy lfi.toNatClampNeg (vp_nar .byte ((a0 >>> (24 &&& 31)).toInt8.toInt32)))), rfl, (by rw [fx_putFour]; (try rw [if_neg c_1]); (try rw [if_pos c_3]); try rfl), by rw [ht]; exact hP9, va_K.moved hW.alike hK9, hD9⟩, hS.F ht⟩) hS.2.2 dX3_putFour_48
    · refine lv_aload_n hx hb dX3_putFour_19 rfl (lv_at hl 1 rfl) ?_
      refine va_get (D := (dC, dI)) (ci := 3) (v := .ref lby) (C := RX3) (T := TX3) (N := 9) hx hb htw inlX3 hown hK hP 0 rfl rfl 0 (by decide) (htw _ (ck_3 _ (List.mem_of_getElem? (i := 14) rfl))) (fun _ h9 => h9) rfl dX3_putFour_20 ?_
      refine lv_aload_n hx hb dX3_putFour_23 rfl (lv_at hl 1 rfl) ?_
      refine va_get (D := (dC, dI)) (ci := 3) (v := .int (lfi + 1)) (C := RX3) (T := TX3) (N := 9) hx hb htw inlX3 hown hK hP 0 rfl rfl 1 (by decide) (htw _ (ck_12 _ (List.mem_of_getElem? (i := 11) rfl))) (fun _ h9 => h9) rfl dX3_putFour_24 ?_
      refine lv_iload_n hx hb dX3_putFour_27 rfl (lv_at hl 2 rfl) ?_
      refine lv_iload_n hx hb dX3_putFour_28 rfl (lv_at hl 0 rfl) ?_
      refine lv_ishr hx hb dX3_putFour_29 ?_
      refine lv_i2b (v := (a0 >>> (16 &&& 31)).toInt8.toInt32) hx hb dX3_putFour_30 rfl ?_
      refine va_bast hx hb hK hP hD hS 1 0 rfl rfl (xg_inr (N := 900) rfl (xn_up h0_lfi c_1) c_3) dX3_putFour_31 (fun H locs hP hD hS => ?_)
      have hP : va_P (dC, dI) vwCl [(eO3a lx lby (lfi + 1) lco lxe lxa lxt lxp lxn lxl), (eA0 lby cBy 900 (upd (upd fBy lfi.toNatClampNeg (vp_nar .byte ((a0 >>> (24 &&& 31)).toInt8.toInt32))) ((lfi + 1).toNatClampNeg) (vp_nar .byte ((a0 >>> (16 &&& 31)).toInt8.toInt32))))] H := hP
      have hD : va_D A [(eO3a lx lby (lfi + 1) lco lxe lxa lxt lxp lxn lxl), (eA0 lby cBy 900 (upd (upd fBy lfi.toNatClampNeg (vp_nar .byte ((a0 >>> (24 &&& 31)).toInt8.toInt32))) ((lfi + 1).toNatClampNeg) (vp_nar .byte ((a0 >>> (16 &&& 31)).toInt8.toInt32))))] := hD
      refine lv_aload_n hx hb dX3_putFour_32 rfl (lv_at hl 1 rfl) ?_
      refine lv_dup hx hb dX3_putFour_33 rfl ?_
      refine va_get (D := (dC, dI)) (ci := 3) (v := .int (lfi + 1)) (C := RX3) (T := TX3) (N := 9) hx hb htw inlX3 hown hK hP 0 rfl rfl 1 (by decide) (htw _ (ck_12 _ (List.mem_of_getElem? (i := 11) rfl))) (fun _ h9 => h9) rfl dX3_putFour_34 ?_
      refine lv_iconst (v := 1) hx hb dX3_putFour_37 (by decide) ?_
      refine lv_iadd hx hb dX3_putFour_38 ?_
      refine va_put (D := (dC, dI)) (ci := 3) (v := .int ((lfi + 1) + 1)) (ty := tyX3 1) (C := RX3) (T := TX3) (N := 9) hx hb htw inlX3 tyX3 tyX3_ok nmX3 hown hK hP hD hS 0 rfl rfl 1 (by decide) (htw _ (ck_12 _ (List.mem_of_getElem? (i := 11) rfl))) (fun _ h9 => h9) rfl (tyX3_ok 1 (by decide)) rfl rfl (Nat.le_of_ble_eq_true rfl) dX3_putFour_39 (fun H locs hP hD hS => ?_)
      have hP : va_P (dC, dI) vwCl [(eO3a lx lby ((lfi + 1) + 1) lco lxe lxa lxt lxp lxn lxl), (eA0 lby cBy 900 (upd (upd fBy lfi.toNatClampNeg (vp_nar .byte ((a0 >>> (24 &&& 31)).toInt8.toInt32))) ((lfi + 1).toNatClampNeg) (vp_nar .byte ((a0 >>> (16 &&& 31)).toInt8.toInt32))))] H := hP
      have hD : va_D A [(eO3a lx lby ((lfi + 1) + 1) lco lxe lxa lxt lxp lxn lxl), (eA0 lby cBy 900 (upd (upd fBy lfi.toNatClampNeg (vp_nar .byte ((a0 >>> (24 &&& 31)).toInt8.toInt32))) ((lfi + 1).toNatClampNeg) (vp_nar .byte ((a0 >>> (16 &&& 31)).toInt8.toInt32))))] := hD
      refine lv_iinc (v := 8) (lv' := [(2, .int 8), (0, .ref lx), (1, .int a0)]) hx hb dX3_putFour_42 hl (k := 0) rfl (by decide) (by decide) rfl (fun ls hl => ?_)
      refine lv_goto (tgt := 3) hx hb dX3_putFour_45 (by decide) ?_
      refine lv_iload_n hx hb dX3_putFour_3 rfl (lv_at hl 0 rfl) ?_
      refine lv_if_lt (tgt := 48) hx hb dX3_putFour_4 (by decide) (fun c => absurd c (by decide)) (fun _ => ?_)
      refine lv_aload_n hx hb dX3_putFour_7 rfl (lv_at hl 1 rfl) ?_
      refine va_get (D := (dC, dI)) (ci := 3) (v := .int ((lfi + 1) + 1)) (C := RX3) (T := TX3) (N := 9) hx hb htw inlX3 hown hK hP 0 rfl rfl 1 (by decide) (htw _ (ck_12 _ (List.mem_of_getElem? (i := 11) rfl))) (fun _ h9 => h9) rfl dX3_putFour_8 ?_
      refine lv_aload_n hx hb dX3_putFour_11 rfl (lv_at hl 1 rfl) ?_
      refine va_get (D := (dC, dI)) (ci := 3) (v := .ref lby) (C := RX3) (T := TX3) (N := 9) hx hb htw inlX3 hown hK hP 0 rfl rfl 0 (by decide) (htw _ (ck_3 _ (List.mem_of_getElem? (i := 14) rfl))) (fun _ h9 => h9) rfl dX3_putFour_12 ?_
      refine va_alen hx hb hK hP 1 0 rfl rfl (v := 900) rfl dX3_putFour_15 ?_
      refine lv_icmp_ge (tgt := 48) hx hb dX3_putFour_16 (by decide) (fun c_5 => ?_) (fun c_5 => ?_)
      · refine W.widen (k := 0) (n := 0) (by omega) (by omega) ?_
        have hP9 := hP
        have hD9 := hD
        have hK9 := hK.sub (tys' := []) [] rfl
        exact W.vret hx hb hr (fun t ht hW => ⟨⟨(((lfi + 1) + 1), (upd (upd fBy lfi.toNatClampNeg (vp_nar .byte ((a0 >>> (24 &&& 31)).toInt8.toInt32))) ((lfi + 1).toNatClampNeg) (vp_nar .byte ((a0 >>> (16 &&& 31)).toInt8.toInt32)))), rfl, (by rw [fx_putFour]; (try rw [if_neg c_1]); (try rw [if_neg c_3]); (try rw [if_pos c_5]); try rfl), by rw [ht]; exact hP9, va_K.moved hW.alike hK9, hD9⟩, hS.F ht⟩) hS.2.2 dX3_putFour_48
      · refine lv_aload_n hx hb dX3_putFour_19 rfl (lv_at hl 1 rfl) ?_
        refine va_get (D := (dC, dI)) (ci := 3) (v := .ref lby) (C := RX3) (T := TX3) (N := 9) hx hb htw inlX3 hown hK hP 0 rfl rfl 0 (by decide) (htw _ (ck_3 _ (List.mem_of_getElem? (i := 14) rfl))) (fun _ h9 => h9) rfl dX3_putFour_20 ?_
        refine lv_aload_n hx hb dX3_putFour_23 rfl (lv_at hl 1 rfl) ?_
        refine va_get (D := (dC, dI)) (ci := 3) (v := .int ((lfi + 1) + 1)) (C := RX3) (T := TX3) (N := 9) hx hb htw inlX3 hown hK hP 0 rfl rfl 1 (by decide) (htw _ (ck_12 _ (List.mem_of_getElem? (i := 11) rfl))) (fun _ h9 => h9) rfl dX3_putFour_24 ?_
        refine lv_iload_n hx hb dX3_putFour_27 rfl (lv_at hl 2 rfl) ?_
        refine lv_iload_n hx hb dX3_putFour_28 rfl (lv_at hl 0 rfl) ?_
        refine lv_ishr hx hb dX3_putFour_29 ?_
        refine lv_i2b (v := (a0 >>> (8 &&& 31)).toInt8.toInt32) hx hb dX3_putFour_30 rfl ?_
        refine va_bast hx hb hK hP hD hS 1 0 rfl rfl (xg_inr (N := 900) rfl (xn_up (xn_up h0_lfi c_1) c_3) c_5) dX3_putFour_31 (fun H locs hP hD hS => ?_)
        have hP : va_P (dC, dI) vwCl [(eO3a lx lby ((lfi + 1) + 1) lco lxe lxa lxt lxp lxn lxl), (eA0 lby cBy 900 (upd (upd (upd fBy lfi.toNatClampNeg (vp_nar .byte ((a0 >>> (24 &&& 31)).toInt8.toInt32))) ((lfi + 1).toNatClampNeg) (vp_nar .byte ((a0 >>> (16 &&& 31)).toInt8.toInt32))) (((lfi + 1) + 1).toNatClampNeg) (vp_nar .byte ((a0 >>> (8 &&& 31)).toInt8.toInt32))))] H := hP
        have hD : va_D A [(eO3a lx lby ((lfi + 1) + 1) lco lxe lxa lxt lxp lxn lxl), (eA0 lby cBy 900 (upd (upd (upd fBy lfi.toNatClampNeg (vp_nar .byte ((a0 >>> (24 &&& 31)).toInt8.toInt32))) ((lfi + 1).toNatClampNeg) (vp_nar .byte ((a0 >>> (16 &&& 31)).toInt8.toInt32))) (((lfi + 1) + 1).toNatClampNeg) (vp_nar .byte ((a0 >>> (8 &&& 31)).toInt8.toInt32))))] := hD
        refine lv_aload_n hx hb dX3_putFour_32 rfl (lv_at hl 1 rfl) ?_
        refine lv_dup hx hb dX3_putFour_33 rfl ?_
        refine va_get (D := (dC, dI)) (ci := 3) (v := .int ((lfi + 1) + 1)) (C := RX3) (T := TX3) (N := 9) hx hb htw inlX3 hown hK hP 0 rfl rfl 1 (by decide) (htw _ (ck_12 _ (List.mem_of_getElem? (i := 11) rfl))) (fun _ h9 => h9) rfl dX3_putFour_34 ?_
        refine lv_iconst (v := 1) hx hb dX3_putFour_37 (by decide) ?_
        refine lv_iadd hx hb dX3_putFour_38 ?_
        refine va_put (D := (dC, dI)) (ci := 3) (v := .int (((lfi + 1) + 1) + 1)) (ty := tyX3 1) (C := RX3) (T := TX3) (N := 9) hx hb htw inlX3 tyX3 tyX3_ok nmX3 hown hK hP hD hS 0 rfl rfl 1 (by decide) (htw _ (ck_12 _ (List.mem_of_getElem? (i := 11) rfl))) (fun _ h9 => h9) rfl (tyX3_ok 1 (by decide)) rfl rfl (Nat.le_of_ble_eq_true rfl) dX3_putFour_39 (fun H locs hP hD hS => ?_)
        have hP : va_P (dC, dI) vwCl [(eO3a lx lby (((lfi + 1) + 1) + 1) lco lxe lxa lxt lxp lxn lxl), (eA0 lby cBy 900 (upd (upd (upd fBy lfi.toNatClampNeg (vp_nar .byte ((a0 >>> (24 &&& 31)).toInt8.toInt32))) ((lfi + 1).toNatClampNeg) (vp_nar .byte ((a0 >>> (16 &&& 31)).toInt8.toInt32))) (((lfi + 1) + 1).toNatClampNeg) (vp_nar .byte ((a0 >>> (8 &&& 31)).toInt8.toInt32))))] H := hP
        have hD : va_D A [(eO3a lx lby (((lfi + 1) + 1) + 1) lco lxe lxa lxt lxp lxn lxl), (eA0 lby cBy 900 (upd (upd (upd fBy lfi.toNatClampNeg (vp_nar .byte ((a0 >>> (24 &&& 31)).toInt8.toInt32))) ((lfi + 1).toNatClampNeg) (vp_nar .byte ((a0 >>> (16 &&& 31)).toInt8.toInt32))) (((lfi + 1) + 1).toNatClampNeg) (vp_nar .byte ((a0 >>> (8 &&& 31)).toInt8.toInt32))))] := hD
        refine lv_iinc (v := 0) (lv' := [(2, .int 0), (0, .ref lx), (1, .int a0)]) hx hb dX3_putFour_42 hl (k := 0) rfl (by decide) (by decide) rfl (fun ls hl => ?_)
        refine lv_goto (tgt := 3) hx hb dX3_putFour_45 (by decide) ?_
        refine lv_iload_n hx hb dX3_putFour_3 rfl (lv_at hl 0 rfl) ?_
        refine lv_if_lt (tgt := 48) hx hb dX3_putFour_4 (by decide) (fun c => absurd c (by decide)) (fun _ => ?_)
        refine lv_aload_n hx hb dX3_putFour_7 rfl (lv_at hl 1 rfl) ?_
        refine va_get (D := (dC, dI)) (ci := 3) (v := .int (((lfi + 1) + 1) + 1)) (C := RX3) (T := TX3) (N := 9) hx hb htw inlX3 hown hK hP 0 rfl rfl 1 (by decide) (htw _ (ck_12 _ (List.mem_of_getElem? (i := 11) rfl))) (fun _ h9 => h9) rfl dX3_putFour_8 ?_
        refine lv_aload_n hx hb dX3_putFour_11 rfl (lv_at hl 1 rfl) ?_
        refine va_get (D := (dC, dI)) (ci := 3) (v := .ref lby) (C := RX3) (T := TX3) (N := 9) hx hb htw inlX3 hown hK hP 0 rfl rfl 0 (by decide) (htw _ (ck_3 _ (List.mem_of_getElem? (i := 14) rfl))) (fun _ h9 => h9) rfl dX3_putFour_12 ?_
        refine va_alen hx hb hK hP 1 0 rfl rfl (v := 900) rfl dX3_putFour_15 ?_
        refine lv_icmp_ge (tgt := 48) hx hb dX3_putFour_16 (by decide) (fun c_7 => ?_) (fun c_7 => ?_)
        · refine W.widen (k := 0) (n := 0) (by omega) (by omega) ?_
          have hP9 := hP
          have hD9 := hD
          have hK9 := hK.sub (tys' := []) [] rfl
          exact W.vret hx hb hr (fun t ht hW => ⟨⟨((((lfi + 1) + 1) + 1), (upd (upd (upd fBy lfi.toNatClampNeg (vp_nar .byte ((a0 >>> (24 &&& 31)).toInt8.toInt32))) ((lfi + 1).toNatClampNeg) (vp_nar .byte ((a0 >>> (16 &&& 31)).toInt8.toInt32))) (((lfi + 1) + 1).toNatClampNeg) (vp_nar .byte ((a0 >>> (8 &&& 31)).toInt8.toInt32)))), rfl, (by rw [fx_putFour]; (try rw [if_neg c_1]); (try rw [if_neg c_3]); (try rw [if_neg c_5]); (try rw [if_pos c_7]); try rfl), by rw [ht]; exact hP9, va_K.moved hW.alike hK9, hD9⟩, hS.F ht⟩) hS.2.2 dX3_putFour_48
        · refine lv_aload_n hx hb dX3_putFour_19 rfl (lv_at hl 1 rfl) ?_
          refine va_get (D := (dC, dI)) (ci := 3) (v := .ref lby) (C := RX3) (T := TX3) (N := 9) hx hb htw inlX3 hown hK hP 0 rfl rfl 0 (by decide) (htw _ (ck_3 _ (List.mem_of_getElem? (i := 14) rfl))) (fun _ h9 => h9) rfl dX3_putFour_20 ?_
          refine lv_aload_n hx hb dX3_putFour_23 rfl (lv_at hl 1 rfl) ?_
          refine va_get (D := (dC, dI)) (ci := 3) (v := .int (((lfi + 1) + 1) + 1)) (C := RX3) (T := TX3) (N := 9) hx hb htw inlX3 hown hK hP 0 rfl rfl 1 (by decide) (htw _ (ck_12 _ (List.mem_of_getElem? (i := 11) rfl))) (fun _ h9 => h9) rfl dX3_putFour_24 ?_
          refine lv_iload_n hx hb dX3_putFour_27 rfl (lv_at hl 2 rfl) ?_
          refine lv_iload_n hx hb dX3_putFour_28 rfl (lv_at hl 0 rfl) ?_
          refine lv_ishr hx hb dX3_putFour_29 ?_
          refine lv_i2b (v := (a0 >>> (0 &&& 31)).toInt8.toInt32) hx hb dX3_putFour_30 rfl ?_
          refine va_bast hx hb hK hP hD hS 1 0 rfl rfl (xg_inr (N := 900) rfl (xn_up (xn_up (xn_up h0_lfi c_1) c_3) c_5) c_7) dX3_putFour_31 (fun H locs hP hD hS => ?_)
          have hP : va_P (dC, dI) vwCl [(eO3a lx lby (((lfi + 1) + 1) + 1) lco lxe lxa lxt lxp lxn lxl), (eA0 lby cBy 900 (upd (upd (upd (upd fBy lfi.toNatClampNeg (vp_nar .byte ((a0 >>> (24 &&& 31)).toInt8.toInt32))) ((lfi + 1).toNatClampNeg) (vp_nar .byte ((a0 >>> (16 &&& 31)).toInt8.toInt32))) (((lfi + 1) + 1).toNatClampNeg) (vp_nar .byte ((a0 >>> (8 &&& 31)).toInt8.toInt32))) ((((lfi + 1) + 1) + 1).toNatClampNeg) (vp_nar .byte ((a0 >>> (0 &&& 31)).toInt8.toInt32))))] H := hP
          have hD : va_D A [(eO3a lx lby (((lfi + 1) + 1) + 1) lco lxe lxa lxt lxp lxn lxl), (eA0 lby cBy 900 (upd (upd (upd (upd fBy lfi.toNatClampNeg (vp_nar .byte ((a0 >>> (24 &&& 31)).toInt8.toInt32))) ((lfi + 1).toNatClampNeg) (vp_nar .byte ((a0 >>> (16 &&& 31)).toInt8.toInt32))) (((lfi + 1) + 1).toNatClampNeg) (vp_nar .byte ((a0 >>> (8 &&& 31)).toInt8.toInt32))) ((((lfi + 1) + 1) + 1).toNatClampNeg) (vp_nar .byte ((a0 >>> (0 &&& 31)).toInt8.toInt32))))] := hD
          refine lv_aload_n hx hb dX3_putFour_32 rfl (lv_at hl 1 rfl) ?_
          refine lv_dup hx hb dX3_putFour_33 rfl ?_
          refine va_get (D := (dC, dI)) (ci := 3) (v := .int (((lfi + 1) + 1) + 1)) (C := RX3) (T := TX3) (N := 9) hx hb htw inlX3 hown hK hP 0 rfl rfl 1 (by decide) (htw _ (ck_12 _ (List.mem_of_getElem? (i := 11) rfl))) (fun _ h9 => h9) rfl dX3_putFour_34 ?_
          refine lv_iconst (v := 1) hx hb dX3_putFour_37 (by decide) ?_
          refine lv_iadd hx hb dX3_putFour_38 ?_
          refine va_put (D := (dC, dI)) (ci := 3) (v := .int ((((lfi + 1) + 1) + 1) + 1)) (ty := tyX3 1) (C := RX3) (T := TX3) (N := 9) hx hb htw inlX3 tyX3 tyX3_ok nmX3 hown hK hP hD hS 0 rfl rfl 1 (by decide) (htw _ (ck_12 _ (List.mem_of_getElem? (i := 11) rfl))) (fun _ h9 => h9) rfl (tyX3_ok 1 (by decide)) rfl rfl (Nat.le_of_ble_eq_true rfl) dX3_putFour_39 (fun H locs hP hD hS => ?_)
          have hP : va_P (dC, dI) vwCl [(eO3a lx lby ((((lfi + 1) + 1) + 1) + 1) lco lxe lxa lxt lxp lxn lxl), (eA0 lby cBy 900 (upd (upd (upd (upd fBy lfi.toNatClampNeg (vp_nar .byte ((a0 >>> (24 &&& 31)).toInt8.toInt32))) ((lfi + 1).toNatClampNeg) (vp_nar .byte ((a0 >>> (16 &&& 31)).toInt8.toInt32))) (((lfi + 1) + 1).toNatClampNeg) (vp_nar .byte ((a0 >>> (8 &&& 31)).toInt8.toInt32))) ((((lfi + 1) + 1) + 1).toNatClampNeg) (vp_nar .byte ((a0 >>> (0 &&& 31)).toInt8.toInt32))))] H := hP
          have hD : va_D A [(eO3a lx lby ((((lfi + 1) + 1) + 1) + 1) lco lxe lxa lxt lxp lxn lxl), (eA0 lby cBy 900 (upd (upd (upd (upd fBy lfi.toNatClampNeg (vp_nar .byte ((a0 >>> (24 &&& 31)).toInt8.toInt32))) ((lfi + 1).toNatClampNeg) (vp_nar .byte ((a0 >>> (16 &&& 31)).toInt8.toInt32))) (((lfi + 1) + 1).toNatClampNeg) (vp_nar .byte ((a0 >>> (8 &&& 31)).toInt8.toInt32))) ((((lfi + 1) + 1) + 1).toNatClampNeg) (vp_nar .byte ((a0 >>> (0 &&& 31)).toInt8.toInt32))))] := hD
          refine lv_iinc (v := (-8)) (lv' := [(2, .int (-8)), (0, .ref lx), (1, .int a0)]) hx hb dX3_putFour_42 hl (k := 0) rfl (by decide) (by decide) rfl (fun ls hl => ?_)
          refine lv_goto (tgt := 3) hx hb dX3_putFour_45 (by decide) ?_
          refine lv_iload_n hx hb dX3_putFour_3 rfl (lv_at hl 0 rfl) ?_
          refine lv_if_lt (tgt := 48) hx hb dX3_putFour_4 (by decide) (fun _ => ?_) (fun c => absurd c (by decide))
          refine W.widen (k := 0) (n := 0) (by omega) (by omega) ?_
          have hP9 := hP
          have hD9 := hD
          have hK9 := hK.sub (tys' := []) [] rfl
          exact W.vret hx hb hr (fun t ht hW => ⟨⟨(((((lfi + 1) + 1) + 1) + 1), (upd (upd (upd (upd fBy lfi.toNatClampNeg (vp_nar .byte ((a0 >>> (24 &&& 31)).toInt8.toInt32))) ((lfi + 1).toNatClampNeg) (vp_nar .byte ((a0 >>> (16 &&& 31)).toInt8.toInt32))) (((lfi + 1) + 1).toNatClampNeg) (vp_nar .byte ((a0 >>> (8 &&& 31)).toInt8.toInt32))) ((((lfi + 1) + 1) + 1).toNatClampNeg) (vp_nar .byte ((a0 >>> (0 &&& 31)).toInt8.toInt32)))), rfl, (by rw [fx_putFour]; (try rw [if_neg c_1]); (try rw [if_neg c_3]); (try rw [if_neg c_5]); (try rw [if_neg c_7]); try rfl), by rw [ht]; exact hP9, va_K.moved hW.alike hK9, hD9⟩, hS.F ht⟩) hS.2.2 dX3_putFour_48

theorem xf_nn {x : Int32} {f : Nat → Int32} {a : Int32} {u : Int32 × (Nat → Int32)} (hu : u = fx_putFour x f a) (h : ¬ x < 0) : ¬ u.1 < 0 := by
  subst hu
  rw [fx_putFour]
  split
  · exact h
  · rename_i h1
    have g1 := xn_up h h1
    split
    · exact g1
    · rename_i h2
      have g2 := xn_up g1 h2
      split
      · exact g2
      · rename_i h3
        have g3 := xn_up g2 h3
        split
        · exact g3
        · rename_i h4
          exact xn_up g3 h4

def fx_feed (lfi : Int32) (fBy : Nat → Int32) (a0 : Int32) (a1 : Int32) (a2 : Int32) (a3 : Int32) (a4 : Int32) : Int32 × (Int32) × (Nat → Int32) := (if (lfi + 20) ≤ 900 then ((fx_putFour (fx_putFour (fx_putFour (fx_putFour (fx_putFour lfi fBy a0).1 (fx_putFour lfi fBy a0).2 a1).1 (fx_putFour (fx_putFour lfi fBy a0).1 (fx_putFour lfi fBy a0).2 a1).2 a2).1 (fx_putFour (fx_putFour (fx_putFour lfi fBy a0).1 (fx_putFour lfi fBy a0).2 a1).1 (fx_putFour (fx_putFour lfi fBy a0).1 (fx_putFour lfi fBy a0).2 a1).2 a2).2 a3).1 (fx_putFour (fx_putFour (fx_putFour (fx_putFour lfi fBy a0).1 (fx_putFour lfi fBy a0).2 a1).1 (fx_putFour (fx_putFour lfi fBy a0).1 (fx_putFour lfi fBy a0).2 a1).2 a2).1 (fx_putFour (fx_putFour (fx_putFour lfi fBy a0).1 (fx_putFour lfi fBy a0).2 a1).1 (fx_putFour (fx_putFour lfi fBy a0).1 (fx_putFour lfi fBy a0).2 a1).2 a2).2 a3).2 a4).1, (fx_putFour (fx_putFour (fx_putFour (fx_putFour (fx_putFour lfi fBy a0).1 (fx_putFour lfi fBy a0).2 a1).1 (fx_putFour (fx_putFour lfi fBy a0).1 (fx_putFour lfi fBy a0).2 a1).2 a2).1 (fx_putFour (fx_putFour (fx_putFour lfi fBy a0).1 (fx_putFour lfi fBy a0).2 a1).1 (fx_putFour (fx_putFour lfi fBy a0).1 (fx_putFour lfi fBy a0).2 a1).2 a2).2 a3).1 (fx_putFour (fx_putFour (fx_putFour (fx_putFour lfi fBy a0).1 (fx_putFour lfi fBy a0).2 a1).1 (fx_putFour (fx_putFour lfi fBy a0).1 (fx_putFour lfi fBy a0).2 a1).2 a2).1 (fx_putFour (fx_putFour (fx_putFour lfi fBy a0).1 (fx_putFour lfi fBy a0).2 a1).1 (fx_putFour (fx_putFour lfi fBy a0).1 (fx_putFour lfi fBy a0).2 a1).2 a2).2 a3).2 a4).1, (fx_putFour (fx_putFour (fx_putFour (fx_putFour (fx_putFour lfi fBy a0).1 (fx_putFour lfi fBy a0).2 a1).1 (fx_putFour (fx_putFour lfi fBy a0).1 (fx_putFour lfi fBy a0).2 a1).2 a2).1 (fx_putFour (fx_putFour (fx_putFour lfi fBy a0).1 (fx_putFour lfi fBy a0).2 a1).1 (fx_putFour (fx_putFour lfi fBy a0).1 (fx_putFour lfi fBy a0).2 a1).2 a2).2 a3).1 (fx_putFour (fx_putFour (fx_putFour (fx_putFour lfi fBy a0).1 (fx_putFour lfi fBy a0).2 a1).1 (fx_putFour (fx_putFour lfi fBy a0).1 (fx_putFour lfi fBy a0).2 a1).2 a2).1 (fx_putFour (fx_putFour (fx_putFour lfi fBy a0).1 (fx_putFour lfi fBy a0).2 a1).1 (fx_putFour (fx_putFour lfi fBy a0).1 (fx_putFour lfi fBy a0).2 a1).2 a2).2 a3).2 a4).2) else ((-1 : Int32), lfi, fBy))
theorem dX11_feed_0 : decode cX11_feed 0 = .ok (.aload_n 0, 1) := zk_42 (by decide +kernel)
theorem dX11_feed_1 : decode cX11_feed 1 = .ok (.getfield 12, 3) := zk_180 (by decide +kernel)
theorem dX11_feed_4 : decode cX11_feed 4 = .ok (.getfield 71, 3) := zk_180 (by decide +kernel)
theorem dX11_feed_7 : decode cX11_feed 7 = .ok (.astore 6, 2) := zk_58 (by decide +kernel)
theorem dX11_feed_9 : decode cX11_feed 9 = .ok (.aload 6, 2) := zk_25 (by decide +kernel)
theorem dX11_feed_11 : decode cX11_feed 11 = .ok (.getfield 75, 3) := zk_180 (by decide +kernel)
theorem dX11_feed_14 : decode cX11_feed 14 = .ok (.bipush 20, 2) := zk_16 (by decide +kernel)
theorem dX11_feed_16 : decode cX11_feed 16 = .ok (.iadd, 1) := zk_96 (by decide +kernel)
theorem dX11_feed_17 : decode cX11_feed 17 = .ok (.sipush 900, 3) := zk_17 (by decide +kernel)
theorem dX11_feed_20 : decode cX11_feed 20 = .ok (.if_icmp .le 5, 3) := zk_164 (by decide +kernel)
theorem dX11_feed_25 : decode cX11_feed 25 = .ok (.aload 6, 2) := zk_25 (by decide +kernel)
theorem dX11_feed_27 : decode cX11_feed 27 = .ok (.iload_n 1, 1) := zk_27 (by decide +kernel)
theorem dX11_feed_28 : decode cX11_feed 28 = .ok (.invokevirtual 81, 3) := zk_182 (by decide +kernel)
theorem dX11_feed_31 : decode cX11_feed 31 = .ok (.aload 6, 2) := zk_25 (by decide +kernel)
theorem dX11_feed_33 : decode cX11_feed 33 = .ok (.iload_n 2, 1) := zk_28 (by decide +kernel)
theorem dX11_feed_34 : decode cX11_feed 34 = .ok (.invokevirtual 81, 3) := zk_182 (by decide +kernel)
theorem dX11_feed_37 : decode cX11_feed 37 = .ok (.aload 6, 2) := zk_25 (by decide +kernel)
theorem dX11_feed_39 : decode cX11_feed 39 = .ok (.iload_n 3, 1) := zk_29 (by decide +kernel)
theorem dX11_feed_40 : decode cX11_feed 40 = .ok (.invokevirtual 81, 3) := zk_182 (by decide +kernel)
theorem dX11_feed_43 : decode cX11_feed 43 = .ok (.aload 6, 2) := zk_25 (by decide +kernel)
theorem dX11_feed_45 : decode cX11_feed 45 = .ok (.iload 4, 2) := zk_21 (by decide +kernel)
theorem dX11_feed_47 : decode cX11_feed 47 = .ok (.invokevirtual 81, 3) := zk_182 (by decide +kernel)
theorem dX11_feed_50 : decode cX11_feed 50 = .ok (.aload 6, 2) := zk_25 (by decide +kernel)
theorem dX11_feed_52 : decode cX11_feed 52 = .ok (.iload 5, 2) := zk_21 (by decide +kernel)
theorem dX11_feed_54 : decode cX11_feed 54 = .ok (.invokevirtual 81, 3) := zk_182 (by decide +kernel)
theorem dX11_feed_57 : decode cX11_feed 57 = .ok (.aload 6, 2) := zk_25 (by decide +kernel)
theorem dX11_feed_59 : decode cX11_feed 59 = .ok (.getfield 75, 3) := zk_180 (by decide +kernel)
theorem dX11_feed_62 : decode cX11_feed 62 = .ok (.ireturn, 1) := zk_172 (by decide +kernel)
theorem dX11_feed_23 : decode cX11_feed 23 = .ok (.iconst (-1), 1) := zk_2 (by decide +kernel)
theorem dX11_feed_24 : decode cX11_feed 24 = .ok (.ireturn, 1) := zk_172 (by decide +kernel)
set_option maxHeartbeats 4000000 in
set_option maxRecDepth 100000 in
theorem gx_feed (l : Launch) (dC : Nat → ClassId) (dI : Nat → Nat → Nat) (x : Nat) (bk : Nat) (xsp : Nat) (xdy : Nat) (le : Nat) (xst : Nat) (xim : Nat) (xil : Nat) (xmo : Nat) (xom : Nat) (wi : Nat) (xsc : Int32) (xik : Int32) (pa : Nat) (pbk : Value) (pfa : Int32) (pfp : Int32) (psk : Int32) (phe : Nat) (phr : Nat) (phs : Int32) (pop : Int32) (lx : Nat) (lby : Nat) (lfi : Int32) (lco : Nat) (lxe : Int32) (lxa : Int32) (lxt : Int32) (lxp : Int32) (lxn : Int32) (lxl : Int32) (cBy : ClassId) (fBy : Nat → Int32) (a0 : Int32) (a1 : Int32) (a2 : Int32) (a3 : Int32) (a4 : Int32) (sz : Nat) (h0_lfi : ¬ lfi < 0) : Met l yX11_feed (Cond.code yX11_feed cX11_feed 7 (some .int) :: wsL_law) ({ frames := 1, cells := 0, slots := 0, locals := 22 }) (va_Pc [.ref x, .int a0, .int a1, .int a2, .int a3, .int a4] (fun U => U.heap.size = sz ∧ va_P (dC, dI) vwCl [(eO11a x pa bk xsp xdy le xst xsc xim xil xik xmo xom wi), (pa, .inr (7, [.ref lx, pbk, .int pfa, .int pfp, .int psk, .ref phe, .ref phr, .int phs, .int pop])), (eO3a lx lby lfi lco lxe lxa lxt lxp lxn lxl), (eA0 lby cBy 900 fBy)] U.heap ∧ va_K (dC, dI) vwCl [(cBy, .byte)] U ∧ va_D (fun _ => True) [(eO11a x pa bk xsp xdy le xst xsc xim xil xik xmo xom wi), (pa, .inr (7, [.ref lx, pbk, .int pfa, .int pfp, .int psk, .ref phe, .ref phr, .int phs, .int pop])), (eO3a lx lby lfi lco lxe lxa lxt lxp lxn lxl), (eA0 lby cBy 900 fBy)])) (va_Qi (fun (r : Int32) (u : (Int32) × (Nat → Int32)) => r = (fx_feed lfi fBy a0 a1 a2 a3 a4).1 ∧ u = (fx_feed lfi fBy a0 a1 a2 a3 a4).2) (fun (u : (Int32) × (Nat → Int32)) t => va_P (dC, dI) vwCl [(eO11a x pa bk xsp xdy le xst xsc xim xil xik xmo xom wi), (pa, .inr (7, [.ref lx, pbk, .int pfa, .int pfp, .int psk, .ref phe, .ref phr, .int phs, .int pop])), (eO3a lx lby u.1 lco lxe lxa lxt lxp lxn lxl), (eA0 lby cBy 900 u.2)] t.heap ∧ va_K (dC, dI) vwCl [] t ∧ va_D (va_A [(eO11a x pa bk xsp xdy le xst xsc xim xil xik xmo xom wi), (pa, .inr (7, [.ref lx, pbk, .int pfa, .int pfp, .int psk, .ref phe, .ref phr, .int phs, .int pop])), (eO3a lx lby lfi lco lxe lxa lxt lxp lxn lxl), (eA0 lby cBy 900 fBy)] sz) [(eO11a x pa bk xsp xdy le xst xsc xim xil xik xmo xom wi), (pa, .inr (7, [.ref lx, pbk, .int pfa, .int pfp, .int psk, .ref phe, .ref phr, .int phs, .int pop])), (eO3a lx lby u.1 lco lxe lxa lxt lxp lxn lxl), (eA0 lby cBy 900 u.2)]) (va_A [(eO11a x pa bk xsp xdy le xst xsc xim xil xik xmo xom wi), (pa, .inr (7, [.ref lx, pbk, .int pfa, .int pfp, .int psk, .ref phe, .ref phr, .int phs, .int pop])), (eO3a lx lby lfi lco lxe lxa lxt lxp lxn lxl), (eA0 lby cBy 900 fBy)] sz)) 0 0 (va_A [(eO11a x pa bk xsp xdy le xst xsc xim xil xik xmo xom wi), (pa, .inr (7, [.ref lx, pbk, .int pfa, .int pfp, .int psk, .ref phe, .ref phr, .int phs, .int pop])), (eO3a lx lby lfi lco lxe lxa lxt lxp lxn lxl), (eA0 lby cBy 900 fBy)] sz) := by
  refine Met.ofW (cc := cX11_feed) (maxL := 7) (ret := (some .int)) (by decide) rfl ?_
  intro p e s m args below meth c s₁ B hml hv
  obtain ⟨rfl, hsz, hP, hK, hD0⟩ := hv
  have hx := B.exec
  have hb := B.bytes
  have hr := B.returns
  have hts := atoms_spec (ws := Cond.code yX11_feed cX11_feed 7 (some .int) :: wsL_law) B.pre
  have htw : ∀ w ∈ wsL_law, w.before _ s = true := fun w h => hts w (List.mem_cons_of_mem _ h)
  have hown : s.vm.findClass RX11 = some m.cls := findClass_of_methodNamed B.named
  have hlocks := B.notSynchronized
  subst hsz
  have hD := hD0.self (sz := s.heap.size)
  generalize hAe : va_A [(eO11a x pa bk xsp xdy le xst xsc xim xil xik xmo xom wi), (pa, .inr (7, [.ref lx, pbk, .int pfa, .int pfp, .int psk, .ref phe, .ref phr, .int phs, .int pop])), (eO3a lx lby lfi lco lxe lxa lxt lxp lxn lxl), (eA0 lby cBy 900 fBy)] s.heap.size = A at hD ⊢
  have hA : ∀ q : Nat, s.heap.size ≤ q → A q := fun q h => by rw [← hAe]; exact Or.inr h
  obtain ⟨H, rH⟩ : ∃ z : Heap, z = s.heap := ⟨_, rfl⟩
  have hS : va_S A s.heap H [] := by rw [rH]; exact va_S.rf
  have hP : va_P (dC, dI) vwCl [(eO11a x pa bk xsp xdy le xst xsc xim xil xik xmo xom wi), (pa, .inr (7, [.ref lx, pbk, .int pfa, .int pfp, .int psk, .ref phe, .ref phr, .int phs, .int pop])), (eO3a lx lby lfi lco lxe lxa lxt lxp lxn lxl), (eA0 lby cBy 900 fBy)] H := by rw [rH]; exact hP
  rw [← rH]
  have hl := lv_entry ([.ref x, .int a0, .int a1, .int a2, .int a3, .int a4]) (n := 7) (Nat.le_of_ble_eq_true rfl)
  rw [lg_entry_eq]
  generalize (lg_sl ([.ref x, .int a0, .int a1, .int a2, .int a3, .int a4]) ++ List.replicate (7 - (lg_sl ([.ref x, .int a0, .int a1, .int a2, .int a3, .int a4])).length) Slot.unset).toArray = ls at hl ⊢
  have hl : lv_has ls 7 [(0, .ref x), (1, .int a0), (2, .int a1), (3, .int a2), (4, .int a3), (5, .int a4)] := hl
  refine lv_aload_n hx hb dX11_feed_0 rfl (lv_at hl 0 rfl) ?_
  refine va_get (D := (dC, dI)) (ci := 11) (v := .ref pa) (C := RX11) (T := TX11) (N := 13) hx hb htw inlX11 hown hK hP 0 rfl rfl 0 (by decide) (htw _ (ck_1 _ (List.mem_of_getElem? (i := 17) rfl))) (fun _ h9 => h9) rfl dX11_feed_1 ?_
  refine va_get (D := (dC, dI)) (ci := 7) (v := .ref lx) (C := RX7) (T := TX7) (N := 9) hx hb htw inlX7 hown hK hP 1 rfl rfl 0 (by decide) (htw _ (ck_12 _ (List.mem_of_getElem? (i := 5) rfl))) (fun _ h9 => h9) rfl dX11_feed_4 ?_
  refine lv_astore (lv' := [(6, .ref lx), (0, .ref x), (1, .int a0), (2, .int a1), (3, .int a2), (4, .int a3), (5, .int a4)]) hx hb dX11_feed_7 hl (by decide) rfl (fun ls hl => ?_)
  refine lv_aload hx hb dX11_feed_9 (lv_at hl 0 rfl) ?_
  refine va_get (D := (dC, dI)) (ci := 3) (v := .int lfi) (C := RX3) (T := TX3) (N := 9) hx hb htw inlX3 hown hK hP 2 rfl rfl 1 (by decide) (htw _ (ck_12 _ (List.mem_of_getElem? (i := 6) rfl))) (fun _ h9 => h9) rfl dX11_feed_11 ?_
  refine lv_bipush (v := 20) hx hb dX11_feed_14 (by decide) ?_
  refine lv_iadd hx hb dX11_feed_16 ?_
  refine lv_sipush (v := 900) hx hb dX11_feed_17 (by decide) ?_
  refine lv_icmp_le (tgt := 25) hx hb dX11_feed_20 (by decide) (fun c_1 => ?_) (fun c_1 => ?_)
  · refine lv_aload hx hb dX11_feed_25 (lv_at hl 0 rfl) ?_
    refine lv_iload_n hx hb dX11_feed_27 rfl (lv_at hl 2 rfl) ?_
    obtain ⟨hPc, hDc, hFc, hCc⟩ := zsub3 (ws' := [(eO3a lx lby lfi lco lxe lxa lxt lxp lxn lxl), (eA0 lby cBy 900 fBy)]) hP hD hS hA [2, 3] (by decide) rfl
    have hKc := hK.sub (tys' := [(cBy, .byte)]) [0] rfl
    refine va_callv (va_runV (As := [.int a0]) (rest := []) ⟨hx, hb, hml, hown, htw⟩ (gt_putFour l dC dI lx lby lfi lco lxe lxa lxt lxp lxn lxl cBy fBy a0 H.size h0_lfi) (cwV 1 htw (xg_V (ck_12 _ (List.mem_of_getElem? (i := 7) rfl)) (ck_12 _ (List.mem_of_getElem? (i := 8) rfl)) (ck_12 _ (List.mem_of_getElem? (i := 9) rfl)) (ck_3 _ (List.mem_of_getElem? (i := 4) rfl)) (ck_12 _ (List.mem_of_getElem? (i := 10) rfl))) rfl rfl rfl (by exact ⟨rfl, hdc_4.1, hdc_4.2, hdd_9⟩) ⟨Nat.le_of_ble_eq_true rfl, Nat.le_of_ble_eq_true rfl⟩) ⟨fun a U g mk q => by obtain ⟨q0, q1, qP, qK, qD⟩ := q; exact ⟨q0, q1, qP, va_K.moved (u := U) (U := U.calling g mk a) (Vm.Alike.refl U.vm) qK, qD⟩, va_recv hKc hPc (ci := 3) (q0 := 0) rfl rfl, fun U hU hW => ⟨rfl, by rw [hU], by rw [hU]; exact hPc, va_K.moved hW.alike hKc, hDc.weaken (fun _ _ _ _ => trivial)⟩⟩ rfl rfl hl.1 rfl (lv_room (Nat.le_of_ble_eq_true rfl)) dX11_feed_28 ⟨Nat.le_of_ble_eq_true rfl, Nat.le_of_ble_eq_true rfl⟩) hS (fun q _ h => hFc q h) hFc (fun u_3 t H1 locs ht hvm hw hB hz1 hk1 hS => ?_)
    try dsimp only at hw
    obtain ⟨hP1, hK1, hD1⟩ := hB
    rw [ht] at hP1
    have hK1 := va_K.moved hvm.symm hK1
    have hK1 : va_K (dC, dI) vwCl [] s := hK1
    obtain ⟨hP, hD⟩ := va_join (wr := [(eO11a x pa bk xsp xdy le xst xsc xim xil xik xmo xom wi), (pa, .inr (7, [.ref lx, pbk, .int pfa, .int pfp, .int psk, .ref phe, .ref phr, .int phs, .int pop]))]) (w1 := [(eO3a lx lby u_3.1 lco lxe lxa lxt lxp lxn lxl), (eA0 lby cBy 900 u_3.2)]) hP hD [2, 3] [0, 1] hCc rfl (by decide) (by decide) hk1 hFc hP1 hD1
    generalize H1 = H at hP hS ⊢
    obtain ⟨hP, hD⟩ := zre [(eO11a x pa bk xsp xdy le xst xsc xim xil xik xmo xom wi), (pa, .inr (7, [.ref lx, pbk, .int pfa, .int pfp, .int psk, .ref phe, .ref phr, .int phs, .int pop])), (eO3a lx lby u_3.1 lco lxe lxa lxt lxp lxn lxl), (eA0 lby cBy 900 u_3.2)] hP hD rfl
    refine W.widen (k := 0) (n := 0) (by omega) (by omega) ?_
    have hq_u_3 : u_3 = (fx_putFour lfi fBy a0) := hw
    refine lv_aload hx hb dX11_feed_31 (lv_at hl 0 rfl) ?_
    refine lv_iload_n hx hb dX11_feed_33 rfl (lv_at hl 3 rfl) ?_
    obtain ⟨hPc, hDc, hFc, hCc⟩ := zsub3 (ws' := [(eO3a lx lby u_3.1 lco lxe lxa lxt lxp lxn lxl), (eA0 lby cBy 900 u_3.2)]) hP hD hS hA [2, 3] (by decide) rfl
    have hKc := hK.sub (tys' := [(cBy, .byte)]) [0] rfl
    refine va_callv (va_runV (As := [.int a1]) (rest := []) ⟨hx, hb, hml, hown, htw⟩ (gt_putFour l dC dI lx lby u_3.1 lco lxe lxa lxt lxp lxn lxl cBy u_3.2 a1 H.size (xf_nn hq_u_3 h0_lfi)) (cwV 1 htw (xg_V (ck_12 _ (List.mem_of_getElem? (i := 7) rfl)) (ck_12 _ (List.mem_of_getElem? (i := 8) rfl)) (ck_12 _ (List.mem_of_getElem? (i := 9) rfl)) (ck_3 _ (List.mem_of_getElem? (i := 4) rfl)) (ck_12 _ (List.mem_of_getElem? (i := 10) rfl))) rfl rfl rfl (by exact ⟨rfl, hdc_4.1, hdc_4.2, hdd_9⟩) ⟨Nat.le_of_ble_eq_true rfl, Nat.le_of_ble_eq_true rfl⟩) ⟨fun a U g mk q => by obtain ⟨q0, q1, qP, qK, qD⟩ := q; exact ⟨q0, q1, qP, va_K.moved (u := U) (U := U.calling g mk a) (Vm.Alike.refl U.vm) qK, qD⟩, va_recv hKc hPc (ci := 3) (q0 := 0) rfl rfl, fun U hU hW => ⟨rfl, by rw [hU], by rw [hU]; exact hPc, va_K.moved hW.alike hKc, hDc.weaken (fun _ _ _ _ => trivial)⟩⟩ rfl rfl hl.1 rfl (lv_room (Nat.le_of_ble_eq_true rfl)) dX11_feed_34 ⟨Nat.le_of_ble_eq_true rfl, Nat.le_of_ble_eq_true rfl⟩) hS (fun q _ h => hFc q h) hFc (fun u_7 t H1 locs ht hvm hw hB hz1 hk1 hS => ?_)
    try dsimp only at hw
    obtain ⟨hP1, hK1, hD1⟩ := hB
    rw [ht] at hP1
    have hK1 := va_K.moved hvm.symm hK1
    have hK1 : va_K (dC, dI) vwCl [] s := hK1
    obtain ⟨hP, hD⟩ := va_join (wr := [(eO11a x pa bk xsp xdy le xst xsc xim xil xik xmo xom wi), (pa, .inr (7, [.ref lx, pbk, .int pfa, .int pfp, .int psk, .ref phe, .ref phr, .int phs, .int pop]))]) (w1 := [(eO3a lx lby u_7.1 lco lxe lxa lxt lxp lxn lxl), (eA0 lby cBy 900 u_7.2)]) hP hD [2, 3] [0, 1] hCc rfl (by decide) (by decide) hk1 hFc hP1 hD1
    generalize H1 = H at hP hS ⊢
    obtain ⟨hP, hD⟩ := zre [(eO11a x pa bk xsp xdy le xst xsc xim xil xik xmo xom wi), (pa, .inr (7, [.ref lx, pbk, .int pfa, .int pfp, .int psk, .ref phe, .ref phr, .int phs, .int pop])), (eO3a lx lby u_7.1 lco lxe lxa lxt lxp lxn lxl), (eA0 lby cBy 900 u_7.2)] hP hD rfl
    refine W.widen (k := 0) (n := 0) (by omega) (by omega) ?_
    have hq_u_7 : u_7 = (fx_putFour u_3.1 u_3.2 a1) := hw
    refine lv_aload hx hb dX11_feed_37 (lv_at hl 0 rfl) ?_
    refine lv_iload_n hx hb dX11_feed_39 rfl (lv_at hl 4 rfl) ?_
    obtain ⟨hPc, hDc, hFc, hCc⟩ := zsub3 (ws' := [(eO3a lx lby u_7.1 lco lxe lxa lxt lxp lxn lxl), (eA0 lby cBy 900 u_7.2)]) hP hD hS hA [2, 3] (by decide) rfl
    have hKc := hK.sub (tys' := [(cBy, .byte)]) [0] rfl
    refine va_callv (va_runV (As := [.int a2]) (rest := []) ⟨hx, hb, hml, hown, htw⟩ (gt_putFour l dC dI lx lby u_7.1 lco lxe lxa lxt lxp lxn lxl cBy u_7.2 a2 H.size (xf_nn hq_u_7 (xf_nn hq_u_3 h0_lfi))) (cwV 1 htw (xg_V (ck_12 _ (List.mem_of_getElem? (i := 7) rfl)) (ck_12 _ (List.mem_of_getElem? (i := 8) rfl)) (ck_12 _ (List.mem_of_getElem? (i := 9) rfl)) (ck_3 _ (List.mem_of_getElem? (i := 4) rfl)) (ck_12 _ (List.mem_of_getElem? (i := 10) rfl))) rfl rfl rfl (by exact ⟨rfl, hdc_4.1, hdc_4.2, hdd_9⟩) ⟨Nat.le_of_ble_eq_true rfl, Nat.le_of_ble_eq_true rfl⟩) ⟨fun a U g mk q => by obtain ⟨q0, q1, qP, qK, qD⟩ := q; exact ⟨q0, q1, qP, va_K.moved (u := U) (U := U.calling g mk a) (Vm.Alike.refl U.vm) qK, qD⟩, va_recv hKc hPc (ci := 3) (q0 := 0) rfl rfl, fun U hU hW => ⟨rfl, by rw [hU], by rw [hU]; exact hPc, va_K.moved hW.alike hKc, hDc.weaken (fun _ _ _ _ => trivial)⟩⟩ rfl rfl hl.1 rfl (lv_room (Nat.le_of_ble_eq_true rfl)) dX11_feed_40 ⟨Nat.le_of_ble_eq_true rfl, Nat.le_of_ble_eq_true rfl⟩) hS (fun q _ h => hFc q h) hFc (fun u_11 t H1 locs ht hvm hw hB hz1 hk1 hS => ?_)
    try dsimp only at hw
    obtain ⟨hP1, hK1, hD1⟩ := hB
    rw [ht] at hP1
    have hK1 := va_K.moved hvm.symm hK1
    have hK1 : va_K (dC, dI) vwCl [] s := hK1
    obtain ⟨hP, hD⟩ := va_join (wr := [(eO11a x pa bk xsp xdy le xst xsc xim xil xik xmo xom wi), (pa, .inr (7, [.ref lx, pbk, .int pfa, .int pfp, .int psk, .ref phe, .ref phr, .int phs, .int pop]))]) (w1 := [(eO3a lx lby u_11.1 lco lxe lxa lxt lxp lxn lxl), (eA0 lby cBy 900 u_11.2)]) hP hD [2, 3] [0, 1] hCc rfl (by decide) (by decide) hk1 hFc hP1 hD1
    generalize H1 = H at hP hS ⊢
    obtain ⟨hP, hD⟩ := zre [(eO11a x pa bk xsp xdy le xst xsc xim xil xik xmo xom wi), (pa, .inr (7, [.ref lx, pbk, .int pfa, .int pfp, .int psk, .ref phe, .ref phr, .int phs, .int pop])), (eO3a lx lby u_11.1 lco lxe lxa lxt lxp lxn lxl), (eA0 lby cBy 900 u_11.2)] hP hD rfl
    refine W.widen (k := 0) (n := 0) (by omega) (by omega) ?_
    have hq_u_11 : u_11 = (fx_putFour u_7.1 u_7.2 a2) := hw
    refine lv_aload hx hb dX11_feed_43 (lv_at hl 0 rfl) ?_
    refine lv_iload hx hb dX11_feed_45 (lv_at hl 5 rfl) ?_
    obtain ⟨hPc, hDc, hFc, hCc⟩ := zsub3 (ws' := [(eO3a lx lby u_11.1 lco lxe lxa lxt lxp lxn lxl), (eA0 lby cBy 900 u_11.2)]) hP hD hS hA [2, 3] (by decide) rfl
    have hKc := hK.sub (tys' := [(cBy, .byte)]) [0] rfl
    refine va_callv (va_runV (As := [.int a3]) (rest := []) ⟨hx, hb, hml, hown, htw⟩ (gt_putFour l dC dI lx lby u_11.1 lco lxe lxa lxt lxp lxn lxl cBy u_11.2 a3 H.size (xf_nn hq_u_11 (xf_nn hq_u_7 (xf_nn hq_u_3 h0_lfi)))) (cwV 1 htw (xg_V (ck_12 _ (List.mem_of_getElem? (i := 7) rfl)) (ck_12 _ (List.mem_of_getElem? (i := 8) rfl)) (ck_12 _ (List.mem_of_getElem? (i := 9) rfl)) (ck_3 _ (List.mem_of_getElem? (i := 4) rfl)) (ck_12 _ (List.mem_of_getElem? (i := 10) rfl))) rfl rfl rfl (by exact ⟨rfl, hdc_4.1, hdc_4.2, hdd_9⟩) ⟨Nat.le_of_ble_eq_true rfl, Nat.le_of_ble_eq_true rfl⟩) ⟨fun a U g mk q => by obtain ⟨q0, q1, qP, qK, qD⟩ := q; exact ⟨q0, q1, qP, va_K.moved (u := U) (U := U.calling g mk a) (Vm.Alike.refl U.vm) qK, qD⟩, va_recv hKc hPc (ci := 3) (q0 := 0) rfl rfl, fun U hU hW => ⟨rfl, by rw [hU], by rw [hU]; exact hPc, va_K.moved hW.alike hKc, hDc.weaken (fun _ _ _ _ => trivial)⟩⟩ rfl rfl hl.1 rfl (lv_room (Nat.le_of_ble_eq_true rfl)) dX11_feed_47 ⟨Nat.le_of_ble_eq_true rfl, Nat.le_of_ble_eq_true rfl⟩) hS (fun q _ h => hFc q h) hFc (fun u_15 t H1 locs ht hvm hw hB hz1 hk1 hS => ?_)
    try dsimp only at hw
    obtain ⟨hP1, hK1, hD1⟩ := hB
    rw [ht] at hP1
    have hK1 := va_K.moved hvm.symm hK1
    have hK1 : va_K (dC, dI) vwCl [] s := hK1
    obtain ⟨hP, hD⟩ := va_join (wr := [(eO11a x pa bk xsp xdy le xst xsc xim xil xik xmo xom wi), (pa, .inr (7, [.ref lx, pbk, .int pfa, .int pfp, .int psk, .ref phe, .ref phr, .int phs, .int pop]))]) (w1 := [(eO3a lx lby u_15.1 lco lxe lxa lxt lxp lxn lxl), (eA0 lby cBy 900 u_15.2)]) hP hD [2, 3] [0, 1] hCc rfl (by decide) (by decide) hk1 hFc hP1 hD1
    generalize H1 = H at hP hS ⊢
    obtain ⟨hP, hD⟩ := zre [(eO11a x pa bk xsp xdy le xst xsc xim xil xik xmo xom wi), (pa, .inr (7, [.ref lx, pbk, .int pfa, .int pfp, .int psk, .ref phe, .ref phr, .int phs, .int pop])), (eO3a lx lby u_15.1 lco lxe lxa lxt lxp lxn lxl), (eA0 lby cBy 900 u_15.2)] hP hD rfl
    refine W.widen (k := 0) (n := 0) (by omega) (by omega) ?_
    have hq_u_15 : u_15 = (fx_putFour u_11.1 u_11.2 a3) := hw
    refine lv_aload hx hb dX11_feed_50 (lv_at hl 0 rfl) ?_
    refine lv_iload hx hb dX11_feed_52 (lv_at hl 6 rfl) ?_
    obtain ⟨hPc, hDc, hFc, hCc⟩ := zsub3 (ws' := [(eO3a lx lby u_15.1 lco lxe lxa lxt lxp lxn lxl), (eA0 lby cBy 900 u_15.2)]) hP hD hS hA [2, 3] (by decide) rfl
    have hKc := hK.sub (tys' := [(cBy, .byte)]) [0] rfl
    refine va_callv (va_runV (As := [.int a4]) (rest := []) ⟨hx, hb, hml, hown, htw⟩ (gt_putFour l dC dI lx lby u_15.1 lco lxe lxa lxt lxp lxn lxl cBy u_15.2 a4 H.size (xf_nn hq_u_15 (xf_nn hq_u_11 (xf_nn hq_u_7 (xf_nn hq_u_3 h0_lfi))))) (cwV 1 htw (xg_V (ck_12 _ (List.mem_of_getElem? (i := 7) rfl)) (ck_12 _ (List.mem_of_getElem? (i := 8) rfl)) (ck_12 _ (List.mem_of_getElem? (i := 9) rfl)) (ck_3 _ (List.mem_of_getElem? (i := 4) rfl)) (ck_12 _ (List.mem_of_getElem? (i := 10) rfl))) rfl rfl rfl (by exact ⟨rfl, hdc_4.1, hdc_4.2, hdd_9⟩) ⟨Nat.le_of_ble_eq_true rfl, Nat.le_of_ble_eq_true rfl⟩) ⟨fun a U g mk q => by obtain ⟨q0, q1, qP, qK, qD⟩ := q; exact ⟨q0, q1, qP, va_K.moved (u := U) (U := U.calling g mk a) (Vm.Alike.refl U.vm) qK, qD⟩, va_recv hKc hPc (ci := 3) (q0 := 0) rfl rfl, fun U hU hW => ⟨rfl, by rw [hU], by rw [hU]; exact hPc, va_K.moved hW.alike hKc, hDc.weaken (fun _ _ _ _ => trivial)⟩⟩ rfl rfl hl.1 rfl (lv_room (Nat.le_of_ble_eq_true rfl)) dX11_feed_54 ⟨Nat.le_of_ble_eq_true rfl, Nat.le_of_ble_eq_true rfl⟩) hS (fun q _ h => hFc q h) hFc (fun u_19 t H1 locs ht hvm hw hB hz1 hk1 hS => ?_)
    try dsimp only at hw
    obtain ⟨hP1, hK1, hD1⟩ := hB
    rw [ht] at hP1
    have hK1 := va_K.moved hvm.symm hK1
    have hK1 : va_K (dC, dI) vwCl [] s := hK1
    obtain ⟨hP, hD⟩ := va_join (wr := [(eO11a x pa bk xsp xdy le xst xsc xim xil xik xmo xom wi), (pa, .inr (7, [.ref lx, pbk, .int pfa, .int pfp, .int psk, .ref phe, .ref phr, .int phs, .int pop]))]) (w1 := [(eO3a lx lby u_19.1 lco lxe lxa lxt lxp lxn lxl), (eA0 lby cBy 900 u_19.2)]) hP hD [2, 3] [0, 1] hCc rfl (by decide) (by decide) hk1 hFc hP1 hD1
    generalize H1 = H at hP hS ⊢
    obtain ⟨hP, hD⟩ := zre [(eO11a x pa bk xsp xdy le xst xsc xim xil xik xmo xom wi), (pa, .inr (7, [.ref lx, pbk, .int pfa, .int pfp, .int psk, .ref phe, .ref phr, .int phs, .int pop])), (eO3a lx lby u_19.1 lco lxe lxa lxt lxp lxn lxl), (eA0 lby cBy 900 u_19.2)] hP hD rfl
    refine W.widen (k := 0) (n := 0) (by omega) (by omega) ?_
    have hq_u_19 : u_19 = (fx_putFour u_15.1 u_15.2 a4) := hw
    refine lv_aload hx hb dX11_feed_57 (lv_at hl 0 rfl) ?_
    refine va_get (D := (dC, dI)) (ci := 3) (v := .int u_19.1) (C := RX3) (T := TX3) (N := 9) hx hb htw inlX3 hown hK hP 2 rfl rfl 1 (by decide) (htw _ (ck_12 _ (List.mem_of_getElem? (i := 6) rfl))) (fun _ h9 => h9) rfl dX11_feed_59 ?_
    refine W.widen (k := 0) (n := 0) (by omega) (by omega) ?_
    have hP9 := hP
    have hD9 := hD
    have hK9 := hK.sub (tys' := []) [] rfl
    exact W.iret (v := u_19.1) hx hb hr (fun t ht hW => ⟨⟨u_19.1, (u_19.1, u_19.2), rfl, ((fun e9 => ⟨by rw [e9], by rw [e9]⟩ : fx_feed lfi fBy a0 a1 a2 a3 a4 = (u_19.1, u_19.1, u_19.2) → _) (by rw [fx_feed]; (try rw [← hq_u_3]); (try rw [← hq_u_7]); (try rw [← hq_u_11]); (try rw [← hq_u_15]); (try rw [← hq_u_19]); (try rw [if_pos c_1]); try rfl)), by rw [ht]; exact hP9, va_K.moved hW.alike hK9, hD9⟩, hS.F ht⟩) hS.2.2 dX11_feed_62
  · refine lv_iconst (v := (-1)) hx hb dX11_feed_23 (by decide) ?_
    refine W.widen (k := 0) (n := 0) (by omega) (by omega) ?_
    obtain ⟨hP9, hD9⟩ := zsub2 (ws' := [(eO11a x pa bk xsp xdy le xst xsc xim xil xik xmo xom wi), (pa, .inr (7, [.ref lx, pbk, .int pfa, .int pfp, .int psk, .ref phe, .ref phr, .int phs, .int pop])), (eO3a lx lby lfi lco lxe lxa lxt lxp lxn lxl), (eA0 lby cBy 900 fBy)]) hP hD [0, 1, 2, 3] (by decide) rfl
    have hK9 := hK.sub (tys' := []) [] rfl
    exact W.iret (v := (-1)) hx hb hr (fun t ht hW => ⟨⟨(-1), (lfi, fBy), rfl, ((fun e9 => ⟨by rw [e9], by rw [e9]⟩ : fx_feed lfi fBy a0 a1 a2 a3 a4 = ((-1 : Int32), lfi, fBy) → _) (by rw [fx_feed]; (try rw [if_neg c_1]); try rfl)), by rw [ht]; exact hP9, va_K.moved hW.alike hK9, hD9⟩, hS.F ht⟩) hS.2.2 dX11_feed_24
