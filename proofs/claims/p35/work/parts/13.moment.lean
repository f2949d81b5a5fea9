def fm_beginYear (fi : Int32) (gr : Int32) (fr : Int32) (ct : Int64) (yr : Int64) (dy : Int64) (lg : Int64) (a0 : Int64) : (Int64) × (Int64) × (Int64) := (if (fl_isThere fi gr fr a0) = 0 then ((0 : Int64), (0 : Int64), (0 : Int64)) else (a0, (1 : Int64), (fl_lengthOf fi gr fr a0)))
theorem dX4_beginYear_0 : decode cX4_beginYear 0 = .ok (.aload_n 0, 1) := zk_42 (by decide +kernel)
theorem dX4_beginYear_1 : decode cX4_beginYear 1 = .ok (.getfield 7, 3) := zk_180 (by decide +kernel)
theorem dX4_beginYear_4 : decode cX4_beginYear 4 = .ok (.ifnull 18, 3) := zk_198 (by decide +kernel)
theorem dX4_beginYear_7 : decode cX4_beginYear 7 = .ok (.aload_n 0, 1) := zk_42 (by decide +kernel)
theorem dX4_beginYear_8 : decode cX4_beginYear 8 = .ok (.getfield 7, 3) := zk_180 (by decide +kernel)
theorem dX4_beginYear_11 : decode cX4_beginYear 11 = .ok (.lload_n 1, 1) := zk_31 (by decide +kernel)
theorem dX4_beginYear_12 : decode cX4_beginYear 12 = .ok (.invokevirtual 46, 3) := zk_182 (by decide +kernel)
theorem dX4_beginYear_15 : decode cX4_beginYear 15 = .ok (.ifCond .eq 7, 3) := zk_153 (by decide +kernel)
theorem dX4_beginYear_22 : decode cX4_beginYear 22 = .ok (.iconst 0, 1) := zk_3 (by decide +kernel)
theorem dX4_beginYear_23 : decode cX4_beginYear 23 = .ok (.istore_n 3, 1) := zk_62 (by decide +kernel)
theorem dX4_beginYear_24 : decode cX4_beginYear 24 = .ok (.aload_n 0, 1) := zk_42 (by decide +kernel)
theorem dX4_beginYear_25 : decode cX4_beginYear 25 = .ok (.iload_n 3, 1) := zk_29 (by decide +kernel)
theorem dX4_beginYear_26 : decode cX4_beginYear 26 = .ok (.ifCond .eq 7, 3) := zk_153 (by decide +kernel)
theorem dX4_beginYear_33 : decode cX4_beginYear 33 = .ok (.lconst 0, 1) := zk_9 (by decide +kernel)
theorem dX4_beginYear_34 : decode cX4_beginYear 34 = .ok (.putfield 23, 3) := zk_181 (by decide +kernel)
theorem dX4_beginYear_37 : decode cX4_beginYear 37 = .ok (.aload_n 0, 1) := zk_42 (by decide +kernel)
theorem dX4_beginYear_38 : decode cX4_beginYear 38 = .ok (.iload_n 3, 1) := zk_29 (by decide +kernel)
theorem dX4_beginYear_39 : decode cX4_beginYear 39 = .ok (.ifCond .eq 7, 3) := zk_153 (by decide +kernel)
theorem dX4_beginYear_46 : decode cX4_beginYear 46 = .ok (.lconst 0, 1) := zk_9 (by decide +kernel)
theorem dX4_beginYear_47 : decode cX4_beginYear 47 = .ok (.putfield 26, 3) := zk_181 (by decide +kernel)
theorem dX4_beginYear_50 : decode cX4_beginYear 50 = .ok (.aload_n 0, 1) := zk_42 (by decide +kernel)
theorem dX4_beginYear_51 : decode cX4_beginYear 51 = .ok (.iload_n 3, 1) := zk_29 (by decide +kernel)
theorem dX4_beginYear_52 : decode cX4_beginYear 52 = .ok (.ifCond .eq 14, 3) := zk_153 (by decide +kernel)
theorem dX4_beginYear_66 : decode cX4_beginYear 66 = .ok (.lconst 0, 1) := zk_9 (by decide +kernel)
theorem dX4_beginYear_67 : decode cX4_beginYear 67 = .ok (.putfield 29, 3) := zk_181 (by decide +kernel)
theorem dX4_beginYear_70 : decode cX4_beginYear 70 = .ok (.return_, 1) := zk_177 (by decide +kernel)
theorem dX4_beginYear_18 : decode cX4_beginYear 18 = .ok (.iconst 1, 1) := zk_4 (by decide +kernel)
theorem dX4_beginYear_19 : decode cX4_beginYear 19 = .ok (.goto 4, 3) := zk_167 (by decide +kernel)
theorem dX4_beginYear_29 : decode cX4_beginYear 29 = .ok (.lload_n 1, 1) := zk_31 (by decide +kernel)
theorem dX4_beginYear_30 : decode cX4_beginYear 30 = .ok (.goto 4, 3) := zk_167 (by decide +kernel)
theorem dX4_beginYear_42 : decode cX4_beginYear 42 = .ok (.lconst 1, 1) := zk_10 (by decide +kernel)
theorem dX4_beginYear_43 : decode cX4_beginYear 43 = .ok (.goto 4, 3) := zk_167 (by decide +kernel)
theorem dX4_beginYear_55 : decode cX4_beginYear 55 = .ok (.aload_n 0, 1) := zk_42 (by decide +kernel)
theorem dX4_beginYear_56 : decode cX4_beginYear 56 = .ok (.getfield 7, 3) := zk_180 (by decide +kernel)
theorem dX4_beginYear_59 : decode cX4_beginYear 59 = .ok (.lload_n 1, 1) := zk_31 (by decide +kernel)
theorem dX4_beginYear_60 : decode cX4_beginYear 60 = .ok (.invokevirtual 35, 3) := zk_182 (by decide +kernel)
theorem dX4_beginYear_63 : decode cX4_beginYear 63 = .ok (.goto 4, 3) := zk_167 (by decide +kernel)
set_option maxHeartbeats 4000000 in
set_option maxRecDepth 100000 in
theorem gm_beginYear (l : Launch) (dC : Nat → ClassId) (dI : Nat → Nat → Nat) (mo : Nat) (la : Nat) (fi : Int32) (gr : Int32) (fr : Int32) (ct : Int64) (yr : Int64) (dy : Int64) (lg : Int64) (a0 : Int64) (sz : Nat) : Met l yX4_beginYear (Cond.code yX4_beginYear cX4_beginYear 4 none :: wsL_law) ({ frames := 2, cells := 0, slots := 0, locals := 44 }) (va_Pc [.ref mo, .long a0] (fun U => U.heap.size = sz ∧ va_P (dC, dI) vwCl [(eO4b mo la ct yr dy lg), (eO1a la fi gr fr)] U.heap ∧ va_K (dC, dI) vwCl [] U ∧ va_D (fun _ => True) [(eO4b mo la ct yr dy lg), (eO1a la fi gr fr)])) (va_Qv (fun (u : (Int64) × (Int64) × (Int64)) => u = fm_beginYear fi gr fr ct yr dy lg a0) (fun (u : (Int64) × (Int64) × (Int64)) t => va_P (dC, dI) vwCl [(eO4b mo la ct u.1 u.2.1 u.2.2), (eO1a la fi gr fr)] t.heap ∧ va_K (dC, dI) vwCl [] t ∧ va_D (va_A [(eO4b mo la ct yr dy lg), (eO1a la fi gr fr)] sz) [(eO4b mo la ct u.1 u.2.1 u.2.2), (eO1a la fi gr fr)]) (va_A [(eO4b mo la ct yr dy lg), (eO1a la fi gr fr)] sz)) 0 0 (va_A [(eO4b mo la ct yr dy lg), (eO1a la fi gr fr)] sz) := by
  refine Met.ofW (cc := cX4_beginYear) (maxL := 4) (ret := none) (by decide) rfl ?_
  intro p e s m args below meth c s₁ B hml hv
  obtain ⟨rfl, hsz, hP, hK, hD0⟩ := hv
  have hx := B.exec
  have hb := B.bytes
  have hr := B.returns
  have hts := atoms_spec (ws := Cond.code yX4_beginYear cX4_beginYear 4 none :: wsL_law) B.pre
  have htw : ∀ w ∈ wsL_law, w.before _ s = true := fun w h => hts w (List.mem_cons_of_mem _ h)
  have hown : s.vm.findClass RX4 = some m.cls := findClass_of_methodNamed B.named
  have hlocks := B.notSynchronized
  subst hsz
  have hD := hD0.self (sz := s.heap.size)
  generalize hAe : va_A [(eO4b mo la ct yr dy lg), (eO1a la fi gr fr)] s.heap.size = A at hD ⊢
  have hA : ∀ q : Nat, s.heap.size ≤ q → A q := fun q h => by rw [← hAe]; exact Or.inr h
  obtain ⟨H, rH⟩ : ∃ z : Heap, z = s.heap := ⟨_, rfl⟩
  have hS : va_S A s.heap H [] := by rw [rH]; exact va_S.rf
  have hP : va_P (dC, dI) vwCl [(eO4b mo la ct yr dy lg), (eO1a la fi gr fr)] H := by rw [rH]; exact hP
  rw [← rH]
  have hl := lv_entry ([.ref mo, .long a0]) (n := 4) (Nat.le_of_ble_eq_true rfl)
  rw [lg_entry_eq]
  generalize (lg_sl ([.ref mo, .long a0]) ++ List.replicate (4 - (lg_sl ([.ref mo, .long a0])).length) Slot.unset).toArray = ls at hl ⊢
  have hl : lv_has ls 4 [(0, .ref mo), (1, .long a0)] := hl
  refine lv_aload_n hx hb dX4_beginYear_0 rfl (lv_at hl 0 rfl) ?_
  refine va_get (D := (dC, dI)) (ci := 4) (v := .ref la) (C := RX4) (T := TX4) (N := 5) hx hb htw inlX4 hown hK hP 0 rfl rfl 0 (by decide) (htw _ (ck_38 _ (List.mem_of_getElem? (i := 20) rfl))) (fun _ h9 => h9) rfl dX4_beginYear_1 ?_
  refine lv_ifnull hx hb dX4_beginYear_4 ?_
  refine lv_aload_n hx hb dX4_beginYear_7 rfl (lv_at hl 0 rfl) ?_
  refine va_get (D := (dC, dI)) (ci := 4) (v := .ref la) (C := RX4) (T := TX4) (N := 5) hx hb htw inlX4 hown hK hP 0 rfl rfl 0 (by decide) (htw _ (ck_38 _ (List.mem_of_getElem? (i := 20) rfl))) (fun _ h9 => h9) rfl dX4_beginYear_8 ?_
  refine lv_lload_n hx hb dX4_beginYear_11 rfl (lv_at hl 1 rfl) ?_
  have hPc := hP.sub (ws' := [(eO1a la fi gr fr)]) [1] rfl
  have hKc := hK.sub (tys' := []) [] rfl
  refine vp_callSi (W.runV (As := [.long a0]) (rest := []) ⟨hx, hb, hml, hown, htw⟩ (gl_isThere l dC dI la fi gr fr a0) (cwV 1 htw (xg_V (ck_43 _ (List.mem_of_getElem? (i := 12) rfl)) (ck_21 _ (List.mem_of_getElem? (i := 6) rfl)) (ck_21 _ (List.mem_of_getElem? (i := 7) rfl)) (ck_6 _ (List.mem_of_getElem? (i := 19) rfl)) (ck_21 _ (List.mem_of_getElem? (i := 8) rfl))) rfl rfl rfl (by exact ⟨rfl, hdc_0.1, hdc_0.2, hdd_1⟩) ⟨Nat.le_of_ble_eq_true rfl, Nat.le_of_ble_eq_true rfl⟩) ⟨fun a U g mk q => by obtain ⟨q0, qP, qK⟩ := q; exact ⟨q0, qP, va_K.moved (u := U) (U := U.calling g mk a) (Vm.Alike.refl U.vm) qK⟩, va_recv hKc hPc (ci := 1) (q0 := 0) rfl rfl, fun U hU hW => ⟨rfl, by rw [hU]; exact hPc, va_K.moved hW.alike hKc⟩⟩ rfl rfl hl.1 rfl (lv_room (Nat.le_of_ble_eq_true rfl)) dX4_beginYear_12 ⟨Nat.le_of_ble_eq_true rfl, Nat.le_of_ble_eq_true rfl⟩) (fun r_1 hw => ?_)
  try dsimp only at hw
  have hq_r_1 : r_1 = fl_isThere fi gr fr a0 := hw
  refine lv_if_eq (tgt := 22) hx hb dX4_beginYear_15 (by decide) (fun c_2 => ?_) (fun c_2 => ?_)
  · refine lv_iconst (v := 0) hx hb dX4_beginYear_22 (by decide) ?_
    refine lv_istore_n (lv' := [(3, .int 0), (0, .ref mo), (1, .long a0)]) hx hb dX4_beginYear_23 rfl hl (by decide) rfl (fun ls hl => ?_)
    refine lv_aload_n hx hb dX4_beginYear_24 rfl (lv_at hl 1 rfl) ?_
    refine lv_iload_n hx hb dX4_beginYear_25 rfl (lv_at hl 0 rfl) ?_
    refine lv_if_eq (tgt := 33) hx hb dX4_beginYear_26 (by decide) (fun _ => ?_) (fun c => absurd c (by decide))
    refine lv_lconst (v := 0) hx hb dX4_beginYear_33 (by decide) ?_
    refine va_put (D := (dC, dI)) (ci := 4) (v := .long 0) (ty := tyX4 2) (C := RX4) (T := TX4) (N := 5) hx hb htw inlX4 tyX4 tyX4_ok nmX4 hown hK hP hD hS 0 rfl rfl 2 (by decide) (htw _ (ck_38 _ (List.mem_of_getElem? (i := 22) rfl))) (fun _ h9 => h9) rfl (tyX4_ok 2 (by decide)) rfl rfl (Nat.le_of_ble_eq_true rfl) dX4_beginYear_34 (fun H locs hP hD hS => ?_)
    obtain ⟨hP, hD⟩ := zre [(eO4b mo la ct 0 dy lg), (eO1a la fi gr fr)] hP hD rfl
    refine lv_aload_n hx hb dX4_beginYear_37 rfl (lv_at hl 1 rfl) ?_
    refine lv_iload_n hx hb dX4_beginYear_38 rfl (lv_at hl 0 rfl) ?_
    refine lv_if_eq (tgt := 46) hx hb dX4_beginYear_39 (by decide) (fun _ => ?_) (fun c => absurd c (by decide))
    refine lv_lconst (v := 0) hx hb dX4_beginYear_46 (by decide) ?_
    refine va_put (D := (dC, dI)) (ci := 4) (v := .long 0) (ty := tyX4 3) (C := RX4) (T := TX4) (N := 5) hx hb htw inlX4 tyX4 tyX4_ok nmX4 hown hK hP hD hS 0 rfl rfl 3 (by decide) (htw _ (ck_38 _ (List.mem_of_getElem? (i := 23) rfl))) (fun _ h9 => h9) rfl (tyX4_ok 3 (by decide)) rfl rfl (Nat.le_of_ble_eq_true rfl) dX4_beginYear_47 (fun H locs hP hD hS => ?_)
    obtain ⟨hP, hD⟩ := zre [(eO4b mo la ct 0 0 lg), (eO1a la fi gr fr)] hP hD rfl
    refine lv_aload_n hx hb dX4_beginYear_50 rfl (lv_at hl 1 rfl) ?_
    refine lv_iload_n hx hb dX4_beginYear_51 rfl (lv_at hl 0 rfl) ?_
    refine lv_if_eq (tgt := 66) hx hb dX4_beginYear_52 (by decide) (fun _ => ?_) (fun c => absurd c (by decide))
    refine lv_lconst (v := 0) hx hb dX4_beginYear_66 (by decide) ?_
    refine va_put (D := (dC, dI)) (ci := 4) (v := .long 0) (ty := tyX4 4) (C := RX4) (T := TX4) (N := 5) hx hb htw inlX4 tyX4 tyX4_ok nmX4 hown hK hP hD hS 0 rfl rfl 4 (by decide) (htw _ (ck_39 _ (List.mem_of_getElem? (i := 0) rfl))) (fun _ h9 => h9) rfl (tyX4_ok 4 (by decide)) rfl rfl (Nat.le_of_ble_eq_true rfl) dX4_beginYear_67 (fun H locs hP hD hS => ?_)
    obtain ⟨hP, hD⟩ := zre [(eO4b mo la ct 0 0 0), (eO1a la fi gr fr)] hP hD rfl
    refine W.widen (k := 0) (n := 0) (by omega) (by omega) ?_
    have hP9 := hP
    have hD9 := hD
    have hK9 := hK.sub (tys' := []) [] rfl
    exact W.vret hx hb hr (fun t ht hW => ⟨⟨(0, 0, 0), rfl, (by rw [fm_beginYear]; (try rw [← hq_r_1]); (try rw [if_pos c_2]); try rfl), by rw [ht]; exact hP9, va_K.moved hW.alike hK9, hD9⟩, hS.F ht⟩) hS.2.2 dX4_beginYear_70
  · refine lv_iconst (v := 1) hx hb dX4_beginYear_18 (by decide) ?_
    refine lv_goto (tgt := 23) hx hb dX4_beginYear_19 (by decide) ?_
    refine lv_istore_n (lv' := [(3, .int 1), (0, .ref mo), (1, .long a0)]) hx hb dX4_beginYear_23 rfl hl (by decide) rfl (fun ls hl => ?_)
    refine lv_aload_n hx hb dX4_beginYear_24 rfl (lv_at hl 1 rfl) ?_
    refine lv_iload_n hx hb dX4_beginYear_25 rfl (lv_at hl 0 rfl) ?_
    refine lv_if_eq (tgt := 33) hx hb dX4_beginYear_26 (by decide) (fun c => absurd c (by decide)) (fun _ => ?_)
    refine lv_lload_n hx hb dX4_beginYear_29 rfl (lv_at hl 2 rfl) ?_
    refine lv_goto (tgt := 34) hx hb dX4_beginYear_30 (by decide) ?_
    refine va_put (D := (dC, dI)) (ci := 4) (v := .long a0) (ty := tyX4 2) (C := RX4) (T := TX4) (N := 5) hx hb htw inlX4 tyX4 tyX4_ok nmX4 hown hK hP hD hS 0 rfl rfl 2 (by decide) (htw _ (ck_38 _ (List.mem_of_getElem? (i := 22) rfl))) (fun _ h9 => h9) rfl (tyX4_ok 2 (by decide)) rfl rfl (Nat.le_of_ble_eq_true rfl) dX4_beginYear_34 (fun H locs hP hD hS => ?_)
    obtain ⟨hP, hD⟩ := zre [(eO4b mo la ct a0 dy lg), (eO1a la fi gr fr)] hP hD rfl
    refine lv_aload_n hx hb dX4_beginYear_37 rfl (lv_at hl 1 rfl) ?_
    refine lv_iload_n hx hb dX4_beginYear_38 rfl (lv_at hl 0 rfl) ?_
    refine lv_if_eq (tgt := 46) hx hb dX4_beginYear_39 (by decide) (fun c => absurd c (by decide)) (fun _ => ?_)
    refine lv_lconst (v := 1) hx hb dX4_beginYear_42 (by decide) ?_
    refine lv_goto (tgt := 47) hx hb dX4_beginYear_43 (by decide) ?_
    refine va_put (D := (dC, dI)) (ci := 4) (v := .long 1) (ty := tyX4 3) (C := RX4) (T := TX4) (N := 5) hx hb htw inlX4 tyX4 tyX4_ok nmX4 hown hK hP hD hS 0 rfl rfl 3 (by decide) (htw _ (ck_38 _ (List.mem_of_getElem? (i := 23) rfl))) (fun _ h9 => h9) rfl (tyX4_ok 3 (by decide)) rfl rfl (Nat.le_of_ble_eq_true rfl) dX4_beginYear_47 (fun H locs hP hD hS => ?_)
    obtain ⟨hP, hD⟩ := zre [(eO4b mo la ct a0 1 lg), (eO1a la fi gr fr)] hP hD rfl
    refine lv_aload_n hx hb dX4_beginYear_50 rfl (lv_at hl 1 rfl) ?_
    refine lv_iload_n hx hb dX4_beginYear_51 rfl (lv_at hl 0 rfl) ?_
    refine lv_if_eq (tgt := 66) hx hb dX4_beginYear_52 (by decide) (fun c => absurd c (by decide)) (fun _ => ?_)
    refine lv_aload_n hx hb dX4_beginYear_55 rfl (lv_at hl 1 rfl) ?_
    refine va_get (D := (dC, dI)) (ci := 4) (v := .ref la) (C := RX4) (T := TX4) (N := 5) hx hb htw inlX4 hown hK hP 0 rfl rfl 0 (by decide) (htw _ (ck_38 _ (List.mem_of_getElem? (i := 20) rfl))) (fun _ h9 => h9) rfl dX4_beginYear_56 ?_
    refine lv_lload_n hx hb dX4_beginYear_59 rfl (lv_at hl 2 rfl) ?_
    have hPc := hP.sub (ws' := [(eO1a la fi gr fr)]) [1] rfl
    have hKc := hK.sub (tys' := []) [] rfl
    refine vp_callSl (W.runV (As := [.long a0]) (rest := [.ref mo]) ⟨hx, hb, hml, hown, htw⟩ (gl_lengthOf l dC dI la fi gr fr a0) (cwV 1 htw (xg_V (ck_39 _ (List.mem_of_getElem? (i := 3) rfl)) (ck_21 _ (List.mem_of_getElem? (i := 10) rfl)) (ck_21 _ (List.mem_of_getElem? (i := 11) rfl)) (ck_6 _ (List.mem_of_getElem? (i := 19) rfl)) (ck_21 _ (List.mem_of_getElem? (i := 12) rfl))) rfl rfl rfl (by exact ⟨rfl, hdc_0.1, hdc_0.2, hdd_0⟩) ⟨Nat.le_of_ble_eq_true rfl, Nat.le_of_ble_eq_true rfl⟩) ⟨fun a U g mk q => by obtain ⟨q0, qP, qK⟩ := q; exact ⟨q0, qP, va_K.moved (u := U) (U := U.calling g mk a) (Vm.Alike.refl U.vm) qK⟩, va_recv hKc hPc (ci := 1) (q0 := 0) rfl rfl, fun U hU hW => ⟨rfl, by rw [hU]; exact hPc, va_K.moved hW.alike hKc⟩⟩ rfl rfl hl.1 rfl (lv_room (Nat.le_of_ble_eq_true rfl)) dX4_beginYear_60 ⟨Nat.le_of_ble_eq_true rfl, Nat.le_of_ble_eq_true rfl⟩) (fun r_3 hw => ?_)
    try dsimp only at hw
    have hq_r_3 : r_3 = fl_lengthOf fi gr fr a0 := hw
    refine lv_goto (tgt := 67) hx hb dX4_beginYear_63 (by decide) ?_
    refine va_put (D := (dC, dI)) (ci := 4) (v := .long r_3) (ty := tyX4 4) (C := RX4) (T := TX4) (N := 5) hx hb htw inlX4 tyX4 tyX4_ok nmX4 hown hK hP hD hS 0 rfl rfl 4 (by decide) (htw _ (ck_39 _ (List.mem_of_getElem? (i := 0) rfl))) (fun _ h9 => h9) rfl (tyX4_ok 4 (by decide)) rfl rfl (Nat.le_of_ble_eq_true rfl) dX4_beginYear_67 (fun H locs hP hD hS => ?_)
    obtain ⟨hP, hD⟩ := zre [(eO4b mo la ct a0 1 r_3), (eO1a la fi gr fr)] hP hD rfl
    refine W.widen (k := 0) (n := 0) (by omega) (by omega) ?_
    have hP9 := hP
    have hD9 := hD
    have hK9 := hK.sub (tys' := []) [] rfl
    exact W.vret hx hb hr (fun t ht hW => ⟨⟨(a0, 1, r_3), rfl, (by rw [fm_beginYear]; (try rw [← hq_r_1]); (try rw [← hq_r_3]); (try rw [if_neg c_2]); try rfl), by rw [ht]; exact hP9, va_K.moved hW.alike hK9, hD9⟩, hS.F ht⟩) hS.2.2 dX4_beginYear_70
