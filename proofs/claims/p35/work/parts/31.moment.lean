def fm_seekB (fi : Int32) (gr : Int32) (fr : Int32) (a0 : Int64) : (Int64) × (Int64) × (Int64) × (Int64) := (xL (fl_yearOf fi gr fr a0) (fun r_1 => (if lg_cmp r_1 0 ≤ 0 then (a0, r_1, (0 : Int64), (0 : Int64)) else (xL (fl_beginOf fi gr fr r_1) (fun r_3 => (xL (fl_lengthOf fi gr fr r_1) (fun r_4 => (a0, r_1, ((a0 - r_3) + 1), r_4))))))))
theorem dX4_seek_0 : decode cX4_seek 0 = .ok (.aload_n 0, 1) := zk_42 (by decide +kernel)
theorem dX4_seek_1 : decode cX4_seek 1 = .ok (.aload_n 1, 1) := zk_43 (by decide +kernel)
theorem dX4_seek_2 : decode cX4_seek 2 = .ok (.putfield 7, 3) := zk_181 (by decide +kernel)
theorem dX4_seek_5 : decode cX4_seek 5 = .ok (.aload_n 0, 1) := zk_42 (by decide +kernel)
theorem dX4_seek_6 : decode cX4_seek 6 = .ok (.lload_n 2, 1) := zk_32 (by decide +kernel)
theorem dX4_seek_7 : decode cX4_seek 7 = .ok (.putfield 13, 3) := zk_181 (by decide +kernel)
theorem dX4_seek_10 : decode cX4_seek 10 = .ok (.aload_n 0, 1) := zk_42 (by decide +kernel)
theorem dX4_seek_11 : decode cX4_seek 11 = .ok (.aload_n 1, 1) := zk_43 (by decide +kernel)
theorem dX4_seek_12 : decode cX4_seek 12 = .ok (.ifnonnull 7, 3) := zk_199 (by decide +kernel)
theorem dX4_seek_19 : decode cX4_seek 19 = .ok (.aload_n 1, 1) := zk_43 (by decide +kernel)
theorem dX4_seek_20 : decode cX4_seek 20 = .ok (.lload_n 2, 1) := zk_32 (by decide +kernel)
theorem dX4_seek_21 : decode cX4_seek 21 = .ok (.invokevirtual 17, 3) := zk_182 (by decide +kernel)
theorem dX4_seek_24 : decode cX4_seek 24 = .ok (.putfield 23, 3) := zk_181 (by decide +kernel)
theorem dX4_seek_27 : decode cX4_seek 27 = .ok (.aload_n 0, 1) := zk_42 (by decide +kernel)
theorem dX4_seek_28 : decode cX4_seek 28 = .ok (.lconst 0, 1) := zk_9 (by decide +kernel)
theorem dX4_seek_29 : decode cX4_seek 29 = .ok (.putfield 26, 3) := zk_181 (by decide +kernel)
theorem dX4_seek_32 : decode cX4_seek 32 = .ok (.aload_n 0, 1) := zk_42 (by decide +kernel)
theorem dX4_seek_33 : decode cX4_seek 33 = .ok (.lconst 0, 1) := zk_9 (by decide +kernel)
theorem dX4_seek_34 : decode cX4_seek 34 = .ok (.putfield 29, 3) := zk_181 (by decide +kernel)
theorem dX4_seek_37 : decode cX4_seek 37 = .ok (.aload_n 1, 1) := zk_43 (by decide +kernel)
theorem dX4_seek_38 : decode cX4_seek 38 = .ok (.ifnull 40, 3) := zk_198 (by decide +kernel)
theorem dX4_seek_41 : decode cX4_seek 41 = .ok (.aload_n 0, 1) := zk_42 (by decide +kernel)
theorem dX4_seek_42 : decode cX4_seek 42 = .ok (.getfield 23, 3) := zk_180 (by decide +kernel)
theorem dX4_seek_45 : decode cX4_seek 45 = .ok (.lconst 0, 1) := zk_9 (by decide +kernel)
theorem dX4_seek_46 : decode cX4_seek 46 = .ok (.lcmp, 1) := zk_148 (by decide +kernel)
theorem dX4_seek_47 : decode cX4_seek 47 = .ok (.ifCond .le 31, 3) := zk_158 (by decide +kernel)
theorem dX4_seek_78 : decode cX4_seek 78 = .ok (.return_, 1) := zk_177 (by decide +kernel)
theorem dX4_seek_50 : decode cX4_seek 50 = .ok (.aload_n 0, 1) := zk_42 (by decide +kernel)
theorem dX4_seek_51 : decode cX4_seek 51 = .ok (.lload_n 2, 1) := zk_32 (by decide +kernel)
theorem dX4_seek_52 : decode cX4_seek 52 = .ok (.aload_n 1, 1) := zk_43 (by decide +kernel)
theorem dX4_seek_53 : decode cX4_seek 53 = .ok (.aload_n 0, 1) := zk_42 (by decide +kernel)
theorem dX4_seek_54 : decode cX4_seek 54 = .ok (.getfield 23, 3) := zk_180 (by decide +kernel)
theorem dX4_seek_57 : decode cX4_seek 57 = .ok (.invokevirtual 32, 3) := zk_182 (by decide +kernel)
theorem dX4_seek_60 : decode cX4_seek 60 = .ok (.lsub, 1) := zk_101 (by decide +kernel)
theorem dX4_seek_61 : decode cX4_seek 61 = .ok (.lconst 1, 1) := zk_10 (by decide +kernel)
theorem dX4_seek_62 : decode cX4_seek 62 = .ok (.ladd, 1) := zk_97 (by decide +kernel)
theorem dX4_seek_63 : decode cX4_seek 63 = .ok (.putfield 26, 3) := zk_181 (by decide +kernel)
theorem dX4_seek_66 : decode cX4_seek 66 = .ok (.aload_n 0, 1) := zk_42 (by decide +kernel)
theorem dX4_seek_67 : decode cX4_seek 67 = .ok (.aload_n 1, 1) := zk_43 (by decide +kernel)
theorem dX4_seek_68 : decode cX4_seek 68 = .ok (.aload_n 0, 1) := zk_42 (by decide +kernel)
theorem dX4_seek_69 : decode cX4_seek 69 = .ok (.getfield 23, 3) := zk_180 (by decide +kernel)
theorem dX4_seek_72 : decode cX4_seek 72 = .ok (.invokevirtual 35, 3) := zk_182 (by decide +kernel)
theorem dX4_seek_75 : decode cX4_seek 75 = .ok (.putfield 29, 3) := zk_181 (by decide +kernel)
set_option maxHeartbeats 4000000 in
set_option maxRecDepth 100000 in
theorem gm_seekB (l : Launch) (dC : Nat → ClassId) (dI : Nat → Nat → Nat) (mo : Nat) (mla : Value) (ct : Int64) (yr : Int64) (dy : Int64) (lg : Int64) (la : Nat) (fi : Int32) (gr : Int32) (fr : Int32) (a0 : Int64) (sz : Nat) : Met l yX4_seek (Cond.code yX4_seek cX4_seek 4 none :: wsL_law) ({ frames := 3, cells := 0, slots := 0, locals := 72 }) (va_Pc [.ref mo, .ref la, .long a0] (fun U => U.heap.size = sz ∧ va_P (dC, dI) vwCl [(mo, .inr (4, [mla, .long ct, .long yr, .long dy, .long lg])), (eO1a la fi gr fr)] U.heap ∧ va_K (dC, dI) vwCl [] U ∧ va_D (fun _ => True) [(mo, .inr (4, [mla, .long ct, .long yr, .long dy, .long lg])), (eO1a la fi gr fr)] ∧ xN U)) (va_Qv (fun (u : (Int64) × (Int64) × (Int64) × (Int64)) => u = fm_seekB fi gr fr a0) (fun (u : (Int64) × (Int64) × (Int64) × (Int64)) t => va_P (dC, dI) vwCl [(eO4b mo la u.1 u.2.1 u.2.2.1 u.2.2.2), (eO1a la fi gr fr)] t.heap ∧ va_K (dC, dI) vwCl [] t ∧ va_D (va_A [(mo, .inr (4, [mla, .long ct, .long yr, .long dy, .long lg])), (eO1a la fi gr fr)] sz) [(eO4b mo la u.1 u.2.1 u.2.2.1 u.2.2.2), (eO1a la fi gr fr)]) (va_A [(mo, .inr (4, [mla, .long ct, .long yr, .long dy, .long lg])), (eO1a la fi gr fr)] sz)) 0 0 (va_A [(mo, .inr (4, [mla, .long ct, .long yr, .long dy, .long lg])), (eO1a la fi gr fr)] sz) := by
  refine Met.ofW (cc := cX4_seek) (maxL := 4) (ret := none) (by decide) rfl ?_
  intro p e s m args below meth c s₁ B hml hv
  obtain ⟨rfl, hsz, hP, hK, hD0, hNx⟩ := hv
  have hx := B.exec
  have hb := B.bytes
  have hr := B.returns
  have hts := atoms_spec (ws := Cond.code yX4_seek cX4_seek 4 none :: wsL_law) B.pre
  have htw : ∀ w ∈ wsL_law, w.before _ s = true := fun w h => hts w (List.mem_cons_of_mem _ h)
  have hown : s.vm.findClass RX4 = some m.cls := findClass_of_methodNamed B.named
  have hlocks := B.notSynchronized
  subst hsz
  have hD := hD0.self (sz := s.heap.size)
  generalize hAe : va_A [(mo, .inr (4, [mla, .long ct, .long yr, .long dy, .long lg])), (eO1a la fi gr fr)] s.heap.size = A at hD ⊢
  have hA : ∀ q : Nat, s.heap.size ≤ q → A q := fun q h => by rw [← hAe]; exact Or.inr h
  obtain ⟨H, rH⟩ : ∃ z : Heap, z = s.heap := ⟨_, rfl⟩
  have hS : va_S A s.heap H [] := by rw [rH]; exact va_S.rf
  have hP : va_P (dC, dI) vwCl [(mo, .inr (4, [mla, .long ct, .long yr, .long dy, .long lg])), (eO1a la fi gr fr)] H := by rw [rH]; exact hP
  rw [← rH]
  have hl := lv_entry ([.ref mo, .ref la, .long a0]) (n := 4) (Nat.le_of_ble_eq_true rfl)
  rw [lg_entry_eq]
  generalize (lg_sl ([.ref mo, .ref la, .long a0]) ++ List.replicate (4 - (lg_sl ([.ref mo, .ref la, .long a0])).length) Slot.unset).toArray = ls at hl ⊢
  have hl : lv_has ls 4 [(0, .ref mo), (1, .ref la), (2, .long a0)] := hl
  refine lv_aload_n hx hb dX4_seek_0 rfl (lv_at hl 0 rfl) ?_
  refine lv_aload_n hx hb dX4_seek_1 rfl (lv_at hl 1 rfl) ?_
  refine va_put (D := (dC, dI)) (ci := 4) (v := .ref la) (ty := tyX4 0) (C := RX4) (T := TX4) (N := 5) hx hb htw inlX4 tyX4 tyX4_ok nmX4 hown hK hP hD hS 0 rfl rfl 0 (by decide) (htw _ (ck_38 _ (List.mem_of_getElem? (i := 20) rfl))) (fun _ h9 => h9) rfl (tyX4_ok 0 (by decide)) rfl rfl (Nat.le_of_ble_eq_true rfl) dX4_seek_2 (fun H locs hP hD hS => ?_)
  obtain ⟨hP, hD⟩ := zre [(eO4b mo la ct yr dy lg), (eO1a la fi gr fr)] hP hD rfl
  refine lv_aload_n hx hb dX4_seek_5 rfl (lv_at hl 0 rfl) ?_
  refine lv_lload_n hx hb dX4_seek_6 rfl (lv_at hl 2 rfl) ?_
  refine va_put (D := (dC, dI)) (ci := 4) (v := .long a0) (ty := tyX4 1) (C := RX4) (T := TX4) (N := 5) hx hb htw inlX4 tyX4 tyX4_ok nmX4 hown hK hP hD hS 0 rfl rfl 1 (by decide) (htw _ (ck_38 _ (List.mem_of_getElem? (i := 21) rfl))) (fun _ h9 => h9) rfl (tyX4_ok 1 (by decide)) rfl rfl (Nat.le_of_ble_eq_true rfl) dX4_seek_7 (fun H locs hP hD hS => ?_)
  obtain ⟨hP, hD⟩ := zre [(eO4b mo la a0 yr dy lg), (eO1a la fi gr fr)] hP hD rfl
  refine lv_aload_n hx hb dX4_seek_10 rfl (lv_at hl 0 rfl) ?_
  refine lv_aload_n hx hb dX4_seek_11 rfl (lv_at hl 1 rfl) ?_
  refine lv_ifnonnull (tgt := 19) hx hb dX4_seek_12 (by decide) ?_
  refine lv_aload_n hx hb dX4_seek_19 rfl (lv_at hl 1 rfl) ?_
  refine lv_lload_n hx hb dX4_seek_20 rfl (lv_at hl 2 rfl) ?_
  have hPc := hP.sub (ws' := [(eO1a la fi gr fr)]) [1] rfl
  have hKc := hK.sub (tys' := []) [] rfl
  refine vp_callSl (W.runV (As := [.long a0]) (rest := [.ref mo]) ⟨hx, hb, hml, hown, htw⟩ (gl_yearOf l dC dI la fi gr fr a0) (cwV 1 htw (xg_V (ck_39 _ (List.mem_of_getElem? (i := 1) rfl)) (ck_35 _ (List.mem_of_getElem? (i := 16) rfl)) (ck_35 _ (List.mem_of_getElem? (i := 17) rfl)) (ck_6 _ (List.mem_of_getElem? (i := 19) rfl)) (ck_35 _ (List.mem_of_getElem? (i := 18) rfl))) rfl rfl rfl (by exact ⟨rfl, hdc_0.1, hdc_0.2, hdd_0⟩) ⟨Nat.le_of_ble_eq_true rfl, Nat.le_of_ble_eq_true rfl⟩) ⟨fun a U g mk q => by obtain ⟨q0, qP, qK, qx⟩ := q; exact ⟨q0, qP, va_K.moved (u := U) (U := U.calling g mk a) (Vm.Alike.refl U.vm) qK, xN.calling qx⟩, va_recv hKc hPc (ci := 1) (q0 := 0) rfl rfl, fun U hU hW => ⟨rfl, by rw [hU]; exact hPc, va_K.moved hW.alike hKc, xN.warm hW hNx⟩⟩ rfl rfl hl.1 rfl (lv_room (Nat.le_of_ble_eq_true rfl)) dX4_seek_21 ⟨Nat.le_of_ble_eq_true rfl, Nat.le_of_ble_eq_true rfl⟩) (fun r_1 hw => ?_)
  try dsimp only at hw
  have hq_r_1 : r_1 = fl_yearOf fi gr fr a0 := hw
  refine va_put (D := (dC, dI)) (ci := 4) (v := .long r_1) (ty := tyX4 2) (C := RX4) (T := TX4) (N := 5) hx hb htw inlX4 tyX4 tyX4_ok nmX4 hown hK hP hD hS 0 rfl rfl 2 (by decide) (htw _ (ck_38 _ (List.mem_of_getElem? (i := 22) rfl))) (fun _ h9 => h9) rfl (tyX4_ok 2 (by decide)) rfl rfl (Nat.le_of_ble_eq_true rfl) dX4_seek_24 (fun H locs hP hD hS => ?_)
  obtain ⟨hP, hD⟩ := zre [(eO4b mo la a0 r_1 dy lg), (eO1a la fi gr fr)] hP hD rfl
  refine lv_aload_n hx hb dX4_seek_27 rfl (lv_at hl 0 rfl) ?_
  refine lv_lconst (v := 0) hx hb dX4_seek_28 (by decide) ?_
  refine va_put (D := (dC, dI)) (ci := 4) (v := .long 0) (ty := tyX4 3) (C := RX4) (T := TX4) (N := 5) hx hb htw inlX4 tyX4 tyX4_ok nmX4 hown hK hP hD hS 0 rfl rfl 3 (by decide) (htw _ (ck_38 _ (List.mem_of_getElem? (i := 23) rfl))) (fun _ h9 => h9) rfl (tyX4_ok 3 (by decide)) rfl rfl (Nat.le_of_ble_eq_true rfl) dX4_seek_29 (fun H locs hP hD hS => ?_)
  obtain ⟨hP, hD⟩ := zre [(eO4b mo la a0 r_1 0 lg), (eO1a la fi gr fr)] hP hD rfl
  refine lv_aload_n hx hb dX4_seek_32 rfl (lv_at hl 0 rfl) ?_
  refine lv_lconst (v := 0) hx hb dX4_seek_33 (by decide) ?_
  refine va_put (D := (dC, dI)) (ci := 4) (v := .long 0) (ty := tyX4 4) (C := RX4) (T := TX4) (N := 5) hx hb htw inlX4 tyX4 tyX4_ok nmX4 hown hK hP hD hS 0 rfl rfl 4 (by decide) (htw _ (ck_39 _ (List.mem_of_getElem? (i := 0) rfl))) (fun _ h9 => h9) rfl (tyX4_ok 4 (by decide)) rfl rfl (Nat.le_of_ble_eq_true rfl) dX4_seek_34 (fun H locs hP hD hS => ?_)
  obtain ⟨hP, hD⟩ := zre [(eO4b mo la a0 r_1 0 0), (eO1a la fi gr fr)] hP hD rfl
  refine lv_aload_n hx hb dX4_seek_37 rfl (lv_at hl 1 rfl) ?_
  refine lv_ifnull hx hb dX4_seek_38 ?_
  refine lv_aload_n hx hb dX4_seek_41 rfl (lv_at hl 0 rfl) ?_
  refine va_get (D := (dC, dI)) (ci := 4) (v := .long r_1) (C := RX4) (T := TX4) (N := 5) hx hb htw inlX4 hown hK hP 0 rfl rfl 2 (by decide) (htw _ (ck_38 _ (List.mem_of_getElem? (i := 22) rfl))) (fun _ h9 => h9) rfl dX4_seek_42 ?_
  refine lv_lconst (v := 0) hx hb dX4_seek_45 (by decide) ?_
  refine W.lcmp hx hb dX4_seek_46 ?_
  refine lv_if_le (tgt := 78) hx hb dX4_seek_47 (by decide) (fun c_2 => ?_) (fun c_2 => ?_)
  · refine W.widen (k := 0) (n := 0) (by omega) (by omega) ?_
    have hP9 := hP
    have hD9 := hD
    have hK9 := hK.sub (tys' := []) [] rfl
    exact W.vret hx hb hr (fun t ht hW => ⟨⟨(a0, r_1, 0, 0), rfl, (Eq.symm ((by rw [fm_seekB]; (try rw [← hq_r_1]); (try rw [xL_eq]); (try rw [if_pos c_2]); try rfl))), by rw [ht]; exact hP9, va_K.moved hW.alike hK9, hD9⟩, hS.F ht⟩) hS.2.2 dX4_seek_78
  · refine lv_aload_n hx hb dX4_seek_50 rfl (lv_at hl 0 rfl) ?_
    refine lv_lload_n hx hb dX4_seek_51 rfl (lv_at hl 2 rfl) ?_
    refine lv_aload_n hx hb dX4_seek_52 rfl (lv_at hl 1 rfl) ?_
    refine lv_aload_n hx hb dX4_seek_53 rfl (lv_at hl 0 rfl) ?_
    refine va_get (D := (dC, dI)) (ci := 4) (v := .long r_1) (C := RX4) (T := TX4) (N := 5) hx hb htw inlX4 hown hK hP 0 rfl rfl 2 (by decide) (htw _ (ck_38 _ (List.mem_of_getElem? (i := 22) rfl))) (fun _ h9 => h9) rfl dX4_seek_54 ?_
    have hPc := hP.sub (ws' := [(eO1a la fi gr fr)]) [1] rfl
    have hKc := hK.sub (tys' := []) [] rfl
    refine vp_callSl (W.runV (As := [.long r_1]) (rest := [.long a0, .ref mo]) ⟨hx, hb, hml, hown, htw⟩ (gl_beginOf l dC dI la fi gr fr r_1) (cwV 1 htw (xg_V (ck_39 _ (List.mem_of_getElem? (i := 2) rfl)) (ck_21 _ (List.mem_of_getElem? (i := 21) rfl)) (ck_21 _ (List.mem_of_getElem? (i := 22) rfl)) (ck_6 _ (List.mem_of_getElem? (i := 19) rfl)) (ck_21 _ (List.mem_of_getElem? (i := 23) rfl))) rfl rfl rfl (by exact ⟨rfl, hdc_0.1, hdc_0.2, hdd_0⟩) ⟨Nat.le_of_ble_eq_true rfl, Nat.le_of_ble_eq_true rfl⟩) ⟨fun a U g mk q => by obtain ⟨q0, qP, qK⟩ := q; exact ⟨q0, qP, va_K.moved (u := U) (U := U.calling g mk a) (Vm.Alike.refl U.vm) qK⟩, va_recv hKc hPc (ci := 1) (q0 := 0) rfl rfl, fun U hU hW => ⟨rfl, by rw [hU]; exact hPc, va_K.moved hW.alike hKc⟩⟩ rfl rfl hl.1 rfl (lv_room (Nat.le_of_ble_eq_true rfl)) dX4_seek_57 ⟨Nat.le_of_ble_eq_true rfl, Nat.le_of_ble_eq_true rfl⟩) (fun r_3 hw => ?_)
    try dsimp only at hw
    have hq_r_3 : r_3 = fl_beginOf fi gr fr r_1 := hw
    refine lv_lsub hx hb dX4_seek_60 ?_
    refine lv_lconst (v := 1) hx hb dX4_seek_61 (by decide) ?_
    refine lv_ladd hx hb dX4_seek_62 ?_
    refine va_put (D := (dC, dI)) (ci := 4) (v := .long ((a0 - r_3) + 1)) (ty := tyX4 3) (C := RX4) (T := TX4) (N := 5) hx hb htw inlX4 tyX4 tyX4_ok nmX4 hown hK hP hD hS 0 rfl rfl 3 (by decide) (htw _ (ck_38 _ (List.mem_of_getElem? (i := 23) rfl))) (fun _ h9 => h9) rfl (tyX4_ok 3 (by decide)) rfl rfl (Nat.le_of_ble_eq_true rfl) dX4_seek_63 (fun H locs hP hD hS => ?_)
    obtain ⟨hP, hD⟩ := zre [(eO4b mo la a0 r_1 ((a0 - r_3) + 1) 0), (eO1a la fi gr fr)] hP hD rfl
    refine lv_aload_n hx hb dX4_seek_66 rfl (lv_at hl 0 rfl) ?_
    refine lv_aload_n hx hb dX4_seek_67 rfl (lv_at hl 1 rfl) ?_
    refine lv_aload_n hx hb dX4_seek_68 rfl (lv_at hl 0 rfl) ?_
    refine va_get (D := (dC, dI)) (ci := 4) (v := .long r_1) (C := RX4) (T := TX4) (N := 5) hx hb htw inlX4 hown hK hP 0 rfl rfl 2 (by decide) (htw _ (ck_38 _ (List.mem_of_getElem? (i := 22) rfl))) (fun _ h9 => h9) rfl dX4_seek_69 ?_
    have hPc := hP.sub (ws' := [(eO1a la fi gr fr)]) [1] rfl
    have hKc := hK.sub (tys' := []) [] rfl
    refine vp_callSl (W.runV (As := [.long r_1]) (rest := [.ref mo]) ⟨hx, hb, hml, hown, htw⟩ (gl_lengthOf l dC dI la fi gr fr r_1) (cwV 1 htw (xg_V (ck_39 _ (List.mem_of_getElem? (i := 3) rfl)) (ck_21 _ (List.mem_of_getElem? (i := 10) rfl)) (ck_21 _ (List.mem_of_getElem? (i := 11) rfl)) (ck_6 _ (List.mem_of_getElem? (i := 19) rfl)) (ck_21 _ (List.mem_of_getElem? (i := 12) rfl))) rfl rfl rfl (by exact ⟨rfl, hdc_0.1, hdc_0.2, hdd_0⟩) ⟨Nat.le_of_ble_eq_true rfl, Nat.le_of_ble_eq_true rfl⟩) ⟨fun a U g mk q => by obtain ⟨q0, qP, qK⟩ := q; exact ⟨q0, qP, va_K.moved (u := U) (U := U.calling g mk a) (Vm.Alike.refl U.vm) qK⟩, va_recv hKc hPc (ci := 1) (q0 := 0) rfl rfl, fun U hU hW => ⟨rfl, by rw [hU]; exact hPc, va_K.moved hW.alike hKc⟩⟩ rfl rfl hl.1 rfl (lv_room (Nat.le_of_ble_eq_true rfl)) dX4_seek_72 ⟨Nat.le_of_ble_eq_true rfl, Nat.le_of_ble_eq_true rfl⟩) (fun r_4 hw => ?_)
    try dsimp only at hw
    have hq_r_4 : r_4 = fl_lengthOf fi gr fr r_1 := hw
    refine va_put (D := (dC, dI)) (ci := 4) (v := .long r_4) (ty := tyX4 4) (C := RX4) (T := TX4) (N := 5) hx hb htw inlX4 tyX4 tyX4_ok nmX4 hown hK hP hD hS 0 rfl rfl 4 (by decide) (htw _ (ck_39 _ (List.mem_of_getElem? (i := 0) rfl))) (fun _ h9 => h9) rfl (tyX4_ok 4 (by decide)) rfl rfl (Nat.le_of_ble_eq_true rfl) dX4_seek_75 (fun H locs hP hD hS => ?_)
    obtain ⟨hP, hD⟩ := zre [(eO4b mo la a0 r_1 ((a0 - r_3) + 1) r_4), (eO1a la fi gr fr)] hP hD rfl
    refine W.widen (k := 0) (n := 0) (by omega) (by omega) ?_
    have hP9 := hP
    have hD9 := hD
    have hK9 := hK.sub (tys' := []) [] rfl
    exact W.vret hx hb hr (fun t ht hW => ⟨⟨(a0, r_1, ((a0 - r_3) + 1), r_4), rfl, (Eq.symm ((by rw [fm_seekB]; (try rw [← hq_r_1]); (try rw [xL_eq]); (try rw [if_neg c_2]); (try rw [← hq_r_3]); (try rw [xL_eq]); (try rw [← hq_r_4]); (try rw [xL_eq]); try rfl))), by rw [ht]; exact hP9, va_K.moved hW.alike hK9, hD9⟩, hS.F ht⟩) hS.2.2 dX4_seek_78

def fm_seekA (a0 : Int64) : (Int64) × (Int64) × (Int64) × (Int64) := (a0, (0 : Int64), (0 : Int64), (0 : Int64))
theorem dX4_seek_15 : decode cX4_seek 15 = .ok (.lconst 0, 1) := zk_9 (by decide +kernel)
theorem dX4_seek_16 : decode cX4_seek 16 = .ok (.goto 8, 3) := zk_167 (by decide +kernel)
set_option maxHeartbeats 4000000 in
set_option maxRecDepth 100000 in
theorem gm_seekA (l : Launch) (dC : Nat → ClassId) (dI : Nat → Nat → Nat) (mo : Nat) (mla : Value) (ct : Int64) (yr : Int64) (dy : Int64) (lg : Int64) (la : Nat) (fi : Int32) (gr : Int32) (fr : Int32) (a0 : Int64) (sz : Nat) : Met l yX4_seek (Cond.code yX4_seek cX4_seek 4 none :: wsL_law) ({ frames := 3, cells := 0, slots := 0, locals := 72 }) (va_Pc [.ref mo, .null, .long a0] (fun U => U.heap.size = sz ∧ va_P (dC, dI) vwCl [(mo, .inr (4, [mla, .long ct, .long yr, .long dy, .long lg])), (eO1a la fi gr fr)] U.heap ∧ va_K (dC, dI) vwCl [] U ∧ va_D (fun _ => True) [(mo, .inr (4, [mla, .long ct, .long yr, .long dy, .long lg])), (eO1a la fi gr fr)] ∧ xN U)) (va_Qv (fun (u : (Int64) × (Int64) × (Int64) × (Int64)) => u = fm_seekA a0) (fun (u : (Int64) × (Int64) × (Int64) × (Int64)) t => va_P (dC, dI) vwCl [(eO4a mo u.1 u.2.1 u.2.2.1 u.2.2.2), (eO1a la fi gr fr)] t.heap ∧ va_K (dC, dI) vwCl [] t ∧ va_D (va_A [(mo, .inr (4, [mla, .long ct, .long yr, .long dy, .long lg])), (eO1a la fi gr fr)] sz) [(eO4a mo u.1 u.2.1 u.2.2.1 u.2.2.2), (eO1a la fi gr fr)]) (va_A [(mo, .inr (4, [mla, .long ct, .long yr, .long dy, .long lg])), (eO1a la fi gr fr)] sz)) 0 0 (va_A [(mo, .inr (4, [mla, .long ct, .long yr, .long dy, .long lg])), (eO1a la fi gr fr)] sz) := by
  refine Met.ofW (cc := cX4_seek) (maxL := 4) (ret := none) (by decide) rfl ?_
  intro p e s m args below meth c s₁ B hml hv
  obtain ⟨rfl, hsz, hP, hK, hD0, hNx⟩ := hv
  have hx := B.exec
  have hb := B.bytes
  have hr := B.returns
  have hts := atoms_spec (ws := Cond.code yX4_seek cX4_seek 4 none :: wsL_law) B.pre
  have htw : ∀ w ∈ wsL_law, w.before _ s = true := fun w h => hts w (List.mem_cons_of_mem _ h)
  have hown : s.vm.findClass RX4 = some m.cls := findClass_of_methodNamed B.named
  have hlocks := B.notSynchronized
  subst hsz
  have hD := hD0.self (sz := s.heap.size)
  generalize hAe : va_A [(mo, .inr (4, [mla, .long ct, .long yr, .long dy, .long lg])), (eO1a la fi gr fr)] s.heap.size = A at hD ⊢
  have hA : ∀ q : Nat, s.heap.size ≤ q → A q := fun q h => by rw [← hAe]; exact Or.inr h
  obtain ⟨H, rH⟩ : ∃ z : Heap, z = s.heap := ⟨_, rfl⟩
  have hS : va_S A s.heap H [] := by rw [rH]; exact va_S.rf
  have hP : va_P (dC, dI) vwCl [(mo, .inr (4, [mla, .long ct, .long yr, .long dy, .long lg])), (eO1a la fi gr fr)] H := by rw [rH]; exact hP
  rw [← rH]
  have hl := lv_entry ([.ref mo, .null, .long a0]) (n := 4) (Nat.le_of_ble_eq_true rfl)
  rw [lg_entry_eq]
  generalize (lg_sl ([.ref mo, .null, .long a0]) ++ List.replicate (4 - (lg_sl ([.ref mo, .null, .long a0])).length) Slot.unset).toArray = ls at hl ⊢
  have hl : lv_has ls 4 [(0, .ref mo), (1, .null), (2, .long a0)] := hl
  refine lv_aload_n hx hb dX4_seek_0 rfl (lv_at hl 0 rfl) ?_
  refine lv_aload_nN hx hb dX4_seek_1 rfl (lv_at hl 1 rfl) ?_
  refine va_put (D := (dC, dI)) (ci := 4) (v := .null) (ty := tyX4 0) (C := RX4) (T := TX4) (N := 5) hx hb htw inlX4 tyX4 tyX4_ok nmX4 hown hK hP hD hS 0 rfl rfl 0 (by decide) (htw _ (ck_38 _ (List.mem_of_getElem? (i := 20) rfl))) (fun _ h9 => h9) rfl (tyX4_ok 0 (by decide)) rfl rfl (Nat.le_of_ble_eq_true rfl) dX4_seek_2 (fun H locs hP hD hS => ?_)
  obtain ⟨hP, hD⟩ := zre [(eO4a mo ct yr dy lg), (eO1a la fi gr fr)] hP hD rfl
  refine lv_aload_n hx hb dX4_seek_5 rfl (lv_at hl 0 rfl) ?_
  refine lv_lload_n hx hb dX4_seek_6 rfl (lv_at hl 2 rfl) ?_
  refine va_put (D := (dC, dI)) (ci := 4) (v := .long a0) (ty := tyX4 1) (C := RX4) (T := TX4) (N := 5) hx hb htw inlX4 tyX4 tyX4_ok nmX4 hown hK hP hD hS 0 rfl rfl 1 (by decide) (htw _ (ck_38 _ (List.mem_of_getElem? (i := 21) rfl))) (fun _ h9 => h9) rfl (tyX4_ok 1 (by decide)) rfl rfl (Nat.le_of_ble_eq_true rfl) dX4_seek_7 (fun H locs hP hD hS => ?_)
  obtain ⟨hP, hD⟩ := zre [(eO4a mo a0 yr dy lg), (eO1a la fi gr fr)] hP hD rfl
  refine lv_aload_n hx hb dX4_seek_10 rfl (lv_at hl 0 rfl) ?_
  refine lv_aload_nN hx hb dX4_seek_11 rfl (lv_at hl 1 rfl) ?_
  refine lv_ifnonnullN hx hb dX4_seek_12 ?_
  refine lv_lconst (v := 0) hx hb dX4_seek_15 (by decide) ?_
  refine lv_goto (tgt := 24) hx hb dX4_seek_16 (by decide) ?_
  refine va_put (D := (dC, dI)) (ci := 4) (v := .long 0) (ty := tyX4 2) (C := RX4) (T := TX4) (N := 5) hx hb htw inlX4 tyX4 tyX4_ok nmX4 hown hK hP hD hS 0 rfl rfl 2 (by decide) (htw _ (ck_38 _ (List.mem_of_getElem? (i := 22) rfl))) (fun _ h9 => h9) rfl (tyX4_ok 2 (by decide)) rfl rfl (Nat.le_of_ble_eq_true rfl) dX4_seek_24 (fun H locs hP hD hS => ?_)
  obtain ⟨hP, hD⟩ := zre [(eO4a mo a0 0 dy lg), (eO1a la fi gr fr)] hP hD rfl
  refine lv_aload_n hx hb dX4_seek_27 rfl (lv_at hl 0 rfl) ?_
  refine lv_lconst (v := 0) hx hb dX4_seek_28 (by decide) ?_
  refine va_put (D := (dC, dI)) (ci := 4) (v := .long 0) (ty := tyX4 3) (C := RX4) (T := TX4) (N := 5) hx hb htw inlX4 tyX4 tyX4_ok nmX4 hown hK hP hD hS 0 rfl rfl 3 (by decide) (htw _ (ck_38 _ (List.mem_of_getElem? (i := 23) rfl))) (fun _ h9 => h9) rfl (tyX4_ok 3 (by decide)) rfl rfl (Nat.le_of_ble_eq_true rfl) dX4_seek_29 (fun H locs hP hD hS => ?_)
  obtain ⟨hP, hD⟩ := zre [(eO4a mo a0 0 0 lg), (eO1a la fi gr fr)] hP hD rfl
  refine lv_aload_n hx hb dX4_seek_32 rfl (lv_at hl 0 rfl) ?_
  refine lv_lconst (v := 0) hx hb dX4_seek_33 (by decide) ?_
  refine va_put (D := (dC, dI)) (ci := 4) (v := .long 0) (ty := tyX4 4) (C := RX4) (T := TX4) (N := 5) hx hb htw inlX4 tyX4 tyX4_ok nmX4 hown hK hP hD hS 0 rfl rfl 4 (by decide) (htw _ (ck_39 _ (List.mem_of_getElem? (i := 0) rfl))) (fun _ h9 => h9) rfl (tyX4_ok 4 (by decide)) rfl rfl (Nat.le_of_ble_eq_true rfl) dX4_seek_34 (fun H locs hP hD hS => ?_)
  obtain ⟨hP, hD⟩ := zre [(eO4a mo a0 0 0 0), (eO1a la fi gr fr)] hP hD rfl
  refine lv_aload_nN hx hb dX4_seek_37 rfl (lv_at hl 1 rfl) ?_
  refine lv_ifnullN (tgt := 78) hx hb dX4_seek_38 (by decide) ?_
  refine W.widen (k := 0) (n := 0) (by omega) (by omega) ?_
  have hP9 := hP
  have hD9 := hD
  have hK9 := hK.sub (tys' := []) [] rfl
  exact W.vret hx hb hr (fun t ht hW => ⟨⟨(a0, 0, 0, 0), rfl, (Eq.symm ((by rw [fm_seekA]))), by rw [ht]; exact hP9, va_K.moved hW.alike hK9, hD9⟩, hS.F ht⟩) hS.2.2 dX4_seek_78

def fm_seekU (fi : Int32) (gr : Int32) (fr : Int32) (a0 : Int64) (fl : Int32) : (Int64) × (Int64) × (Int64) × (Int64) := if fl = 0 then fm_seekA a0 else fm_seekB fi gr fr a0
theorem gm_seekU (l : Launch) (dC : Nat → ClassId) (dI : Nat → Nat → Nat) (mo : Nat) (mla : Value) (ct : Int64) (yr : Int64) (dy : Int64) (lg : Int64) (la : Nat) (fi : Int32) (gr : Int32) (fr : Int32) (a0 : Int64) (fl : Int32) (sz : Nat) : Met l yX4_seek (Cond.code yX4_seek cX4_seek 4 none :: wsL_law) ({ frames := 3, cells := 0, slots := 0, locals := 72 }) (va_Pc [.ref mo, xm_la fl la, .long a0] (fun U => U.heap.size = sz ∧ va_P (dC, dI) vwCl [(mo, .inr (4, [mla, .long ct, .long yr, .long dy, .long lg])), (eO1a la fi gr fr)] U.heap ∧ va_K (dC, dI) vwCl [] U ∧ va_D (fun _ => True) [(mo, .inr (4, [mla, .long ct, .long yr, .long dy, .long lg])), (eO1a la fi gr fr)] ∧ xN U)) (va_Qv (fun (u : (Int64) × (Int64) × (Int64) × (Int64)) => u = fm_seekU fi gr fr a0 fl) (fun (u : (Int64) × (Int64) × (Int64) × (Int64)) t => va_P (dC, dI) vwCl [(mo, .inr (4, [xm_la fl la, .long u.1, .long u.2.1, .long u.2.2.1, .long u.2.2.2])), (eO1a la fi gr fr)] t.heap ∧ va_K (dC, dI) vwCl [] t ∧ va_D (va_A [(mo, .inr (4, [mla, .long ct, .long yr, .long dy, .long lg])), (eO1a la fi gr fr)] sz) [(mo, .inr (4, [xm_la fl la, .long u.1, .long u.2.1, .long u.2.2.1, .long u.2.2.2])), (eO1a la fi gr fr)]) (va_A [(mo, .inr (4, [mla, .long ct, .long yr, .long dy, .long lg])), (eO1a la fi gr fr)] sz)) 0 0 (va_A [(mo, .inr (4, [mla, .long ct, .long yr, .long dy, .long lg])), (eO1a la fi gr fr)] sz) := by
  by_cases hz : fl = 0
  · rw [xm_la0 hz, show fm_seekU fi gr fr a0 fl = fm_seekA a0 from if_pos hz]
    exact gm_seekA l dC dI mo mla ct yr dy lg la fi gr fr a0 sz
  · rw [xm_la1 hz, show fm_seekU fi gr fr a0 fl = fm_seekB fi gr fr a0 from if_neg hz]
    exact gm_seekB l dC dI mo mla ct yr dy lg la fi gr fr a0 sz

def fm_stepU (ct : Int64) (yr : Int64) (dy : Int64) (lg : Int64) (fi : Int32) (gr : Int32) (fr : Int32) (fl : Int32) : (Int64) × (Int64) × (Int64) × (Int64) := (if fl = 0 then ((ct + 1), yr, dy, lg) else (if lg_cmp yr 0 ≤ 0 then (if lg_cmp (ct + 1) fr.toInt64 = 0 then (xL ((fm_beginYear fi gr fr (ct + 1) yr dy lg (1 : Int64))) (fun u_4 => ((ct + 1), u_4.1, u_4.2.1, u_4.2.2))) else ((ct + 1), yr, dy, lg)) else (if lg_cmp (dy + 1) lg ≤ 0 then ((ct + 1), yr, (dy + 1), lg) else (xL ((fm_beginYear fi gr fr (ct + 1) yr (dy + 1) lg (yr + 1))) (fun u_10 => ((ct + 1), u_10.1, u_10.2.1, u_10.2.2))))))
theorem dX4_step_0 : decode cX4_step 0 = .ok (.aload_n 0, 1) := zk_42 (by decide +kernel)
theorem dX4_step_1 : decode cX4_step 1 = .ok (.dup, 1) := zk_89 (by decide +kernel)
theorem dX4_step_2 : decode cX4_step 2 = .ok (.getfield 13, 3) := zk_180 (by decide +kernel)
theorem dX4_step_5 : decode cX4_step 5 = .ok (.lconst 1, 1) := zk_10 (by decide +kernel)
theorem dX4_step_6 : decode cX4_step 6 = .ok (.ladd, 1) := zk_97 (by decide +kernel)
theorem dX4_step_7 : decode cX4_step 7 = .ok (.putfield 13, 3) := zk_181 (by decide +kernel)
theorem dX4_step_10 : decode cX4_step 10 = .ok (.aload_n 0, 1) := zk_42 (by decide +kernel)
theorem dX4_step_11 : decode cX4_step 11 = .ok (.getfield 7, 3) := zk_180 (by decide +kernel)
theorem dX4_step_14 : decode cX4_step 14 = .ok (.ifnonnull 4, 3) := zk_199 (by decide +kernel)
theorem dX4_step_17 : decode cX4_step 17 = .ok (.return_, 1) := zk_177 (by decide +kernel)
theorem dX4_step_18 : decode cX4_step 18 = .ok (.aload_n 0, 1) := zk_42 (by decide +kernel)
theorem dX4_step_19 : decode cX4_step 19 = .ok (.getfield 23, 3) := zk_180 (by decide +kernel)
theorem dX4_step_22 : decode cX4_step 22 = .ok (.lconst 0, 1) := zk_9 (by decide +kernel)
theorem dX4_step_23 : decode cX4_step 23 = .ok (.lcmp, 1) := zk_148 (by decide +kernel)
theorem dX4_step_24 : decode cX4_step 24 = .ok (.ifCond .le 38, 3) := zk_158 (by decide +kernel)
theorem dX4_step_62 : decode cX4_step 62 = .ok (.aload_n 0, 1) := zk_42 (by decide +kernel)
theorem dX4_step_63 : decode cX4_step 63 = .ok (.getfield 13, 3) := zk_180 (by decide +kernel)
theorem dX4_step_66 : decode cX4_step 66 = .ok (.aload_n 0, 1) := zk_42 (by decide +kernel)
theorem dX4_step_67 : decode cX4_step 67 = .ok (.getfield 7, 3) := zk_180 (by decide +kernel)
theorem dX4_step_70 : decode cX4_step 70 = .ok (.getfield 42, 3) := zk_180 (by decide +kernel)
theorem dX4_step_73 : decode cX4_step 73 = .ok (.i2l, 1) := zk_133 (by decide +kernel)
theorem dX4_step_74 : decode cX4_step 74 = .ok (.lcmp, 1) := zk_148 (by decide +kernel)
theorem dX4_step_75 : decode cX4_step 75 = .ok (.ifCond .ne 8, 3) := zk_154 (by decide +kernel)
theorem dX4_step_83 : decode cX4_step 83 = .ok (.return_, 1) := zk_177 (by decide +kernel)
theorem dX4_step_78 : decode cX4_step 78 = .ok (.aload_n 0, 1) := zk_42 (by decide +kernel)
theorem dX4_step_79 : decode cX4_step 79 = .ok (.lconst 1, 1) := zk_10 (by decide +kernel)
theorem dX4_step_80 : decode cX4_step 80 = .ok (.invokevirtual 38, 3) := zk_182 (by decide +kernel)
theorem dX4_step_27 : decode cX4_step 27 = .ok (.aload_n 0, 1) := zk_42 (by decide +kernel)
theorem dX4_step_28 : decode cX4_step 28 = .ok (.dup, 1) := zk_89 (by decide +kernel)
theorem dX4_step_29 : decode cX4_step 29 = .ok (.getfield 26, 3) := zk_180 (by decide +kernel)
theorem dX4_step_32 : decode cX4_step 32 = .ok (.lconst 1, 1) := zk_10 (by decide +kernel)
theorem dX4_step_33 : decode cX4_step 33 = .ok (.ladd, 1) := zk_97 (by decide +kernel)
theorem dX4_step_34 : decode cX4_step 34 = .ok (.putfield 26, 3) := zk_181 (by decide +kernel)
theorem dX4_step_37 : decode cX4_step 37 = .ok (.aload_n 0, 1) := zk_42 (by decide +kernel)
theorem dX4_step_38 : decode cX4_step 38 = .ok (.getfield 26, 3) := zk_180 (by decide +kernel)
theorem dX4_step_41 : decode cX4_step 41 = .ok (.aload_n 0, 1) := zk_42 (by decide +kernel)
theorem dX4_step_42 : decode cX4_step 42 = .ok (.getfield 29, 3) := zk_180 (by decide +kernel)
theorem dX4_step_45 : decode cX4_step 45 = .ok (.lcmp, 1) := zk_148 (by decide +kernel)
theorem dX4_step_46 : decode cX4_step 46 = .ok (.ifCond .le 37, 3) := zk_158 (by decide +kernel)
theorem dX4_step_49 : decode cX4_step 49 = .ok (.aload_n 0, 1) := zk_42 (by decide +kernel)
theorem dX4_step_50 : decode cX4_step 50 = .ok (.aload_n 0, 1) := zk_42 (by decide +kernel)
theorem dX4_step_51 : decode cX4_step 51 = .ok (.getfield 23, 3) := zk_180 (by decide +kernel)
theorem dX4_step_54 : decode cX4_step 54 = .ok (.lconst 1, 1) := zk_10 (by decide +kernel)
theorem dX4_step_55 : decode cX4_step 55 = .ok (.ladd, 1) := zk_97 (by decide +kernel)
theorem dX4_step_56 : decode cX4_step 56 = .ok (.invokevirtual 38, 3) := zk_182 (by decide +kernel)
theorem dX4_step_59 : decode cX4_step 59 = .ok (.goto 24, 3) := zk_167 (by decide +kernel)
set_option maxHeartbeats 4000000 in
set_option maxRecDepth 100000 in
theorem gm_stepU (l : Launch) (dC : Nat → ClassId) (dI : Nat → Nat → Nat) (mo : Nat) (ct : Int64) (yr : Int64) (dy : Int64) (lg : Int64) (la : Nat) (fi : Int32) (gr : Int32) (fr : Int32) (fl : Int32) (sz : Nat) : Met l yX4_step (Cond.code yX4_step cX4_step 1 none :: wsL_law) ({ frames := 3, cells := 0, slots := 0, locals := 67 }) (va_Pc [.ref mo] (fun U => U.heap.size = sz ∧ va_P (dC, dI) vwCl [(mo, .inr (4, [(xm_la fl la), .long ct, .long yr, .long dy, .long lg])), (eO1a la fi gr fr)] U.heap ∧ va_K (dC, dI) vwCl [] U ∧ va_D (fun _ => True) [(mo, .inr (4, [(xm_la fl la), .long ct, .long yr, .long dy, .long lg])), (eO1a la fi gr fr)])) (va_Qv (fun (u : (Int64) × (Int64) × (Int64) × (Int64)) => u = fm_stepU ct yr dy lg fi gr fr fl) (fun (u : (Int64) × (Int64) × (Int64) × (Int64)) t => va_P (dC, dI) vwCl [(mo, .inr (4, [(xm_la fl la), .long u.1, .long u.2.1, .long u.2.2.1, .long u.2.2.2])), (eO1a la fi gr fr)] t.heap ∧ va_K (dC, dI) vwCl [] t ∧ va_D (va_A [(mo, .inr (4, [(xm_la fl la), .long ct, .long yr, .long dy, .long lg])), (eO1a la fi gr fr)] sz) [(mo, .inr (4, [(xm_la fl la), .long u.1, .long u.2.1, .long u.2.2.1, .long u.2.2.2])), (eO1a la fi gr fr)]) (va_A [(mo, .inr (4, [(xm_la fl la), .long ct, .long yr, .long dy, .long lg])), (eO1a la fi gr fr)] sz)) 0 0 (va_A [(mo, .inr (4, [(xm_la fl la), .long ct, .long yr, .long dy, .long lg])), (eO1a la fi gr fr)] sz) := by
  refine Met.ofW (cc := cX4_step) (maxL := 1) (ret := none) (by decide) rfl ?_
  intro p e s m args below meth c s₁ B hml hv
  obtain ⟨rfl, hsz, hP, hK, hD0⟩ := hv
  have hx := B.exec
  have hb := B.bytes
  have hr := B.returns
  have hts := atoms_spec (ws := Cond.code yX4_step cX4_step 1 none :: wsL_law) B.pre
  have htw : ∀ w ∈ wsL_law, w.before _ s = true := fun w h => hts w (List.mem_cons_of_mem _ h)
  have hown : s.vm.findClass RX4 = some m.cls := findClass_of_methodNamed B.named
  have hlocks := B.notSynchronized
  subst hsz
  have hD := hD0.self (sz := s.heap.size)
  generalize hAe : va_A [(mo, .inr (4, [(xm_la fl la), .long ct, .long yr, .long dy, .long lg])), (eO1a la fi gr fr)] s.heap.size = A at hD ⊢
  have hA : ∀ q : Nat, s.heap.size ≤ q → A q := fun q h => by rw [← hAe]; exact Or.inr h
  obtain ⟨H, rH⟩ : ∃ z : Heap, z = s.heap := ⟨_, rfl⟩
  have hS : va_S A s.heap H [] := by rw [rH]; exact va_S.rf
  have hP : va_P (dC, dI) vwCl [(mo, .inr (4, [(xm_la fl la), .long ct, .long yr, .long dy, .long lg])), (eO1a la fi gr fr)] H := by rw [rH]; exact hP
  rw [← rH]
  have hl := lv_entry ([.ref mo]) (n := 1) (Nat.le_of_ble_eq_true rfl)
  rw [lg_entry_eq]
  generalize (lg_sl ([.ref mo]) ++ List.replicate (1 - (lg_sl ([.ref mo])).length) Slot.unset).toArray = ls at hl ⊢
  have hl : lv_has ls 1 [(0, .ref mo)] := hl
  by_cases hz : fl = 0
  · rw [xm_la0 hz] at hP hD
    refine lv_aload_n hx hb dX4_step_0 rfl (lv_at hl 0 rfl) ?_
    refine lv_dup hx hb dX4_step_1 rfl ?_
    refine va_get (D := (dC, dI)) (ci := 4) (v := .long ct) (C := RX4) (T := TX4) (N := 5) hx hb htw inlX4 hown hK hP 0 rfl rfl 1 (by decide) (htw _ (ck_38 _ (List.mem_of_getElem? (i := 21) rfl))) (fun _ h9 => h9) rfl dX4_step_2 ?_
    refine lv_lconst (v := 1) hx hb dX4_step_5 (by decide) ?_
    refine lv_ladd hx hb dX4_step_6 ?_
    refine va_put (D := (dC, dI)) (ci := 4) (v := .long (ct + 1)) (ty := tyX4 1) (C := RX4) (T := TX4) (N := 5) hx hb htw inlX4 tyX4 tyX4_ok nmX4 hown hK hP hD hS 0 rfl rfl 1 (by decide) (htw _ (ck_38 _ (List.mem_of_getElem? (i := 21) rfl))) (fun _ h9 => h9) rfl (tyX4_ok 1 (by decide)) rfl rfl (Nat.le_of_ble_eq_true rfl) dX4_step_7 (fun H locs hP hD hS => ?_)
    obtain ⟨hP, hD⟩ := zre [(eO4a mo (ct + 1) yr dy lg), (eO1a la fi gr fr)] hP hD rfl
    refine lv_aload_n hx hb dX4_step_10 rfl (lv_at hl 0 rfl) ?_
    refine va_get (D := (dC, dI)) (ci := 4) (v := .null) (C := RX4) (T := TX4) (N := 5) hx hb htw inlX4 hown hK hP 0 rfl rfl 0 (by decide) (htw _ (ck_38 _ (List.mem_of_getElem? (i := 20) rfl))) (fun _ h9 => h9) rfl dX4_step_11 ?_
    refine lv_ifnonnullN hx hb dX4_step_14 ?_
    have hP : va_P (dC, dI) vwCl [(mo, .inr (4, [(xm_la fl la), .long (ct + 1), .long yr, .long dy, .long lg])), (eO1a la fi gr fr)] H := by rw [xm_la0 hz]; exact hP
    have hD : va_D A [(mo, .inr (4, [(xm_la fl la), .long (ct + 1), .long yr, .long dy, .long lg])), (eO1a la fi gr fr)] := by rw [xm_la0 hz]; exact hD
    refine W.widen (k := 0) (n := 0) (by omega) (by omega) ?_
    have hP9 := hP
    have hD9 := hD
    have hK9 := hK.sub (tys' := []) [] rfl
    exact W.vret hx hb hr (fun t ht hW => ⟨⟨((ct + 1), yr, dy, lg), rfl, (Eq.symm ((by rw [fm_stepU]; (try rw [if_pos hz]); try rfl))), by rw [ht]; exact hP9, va_K.moved hW.alike hK9, hD9⟩, hS.F ht⟩) hS.2.2 dX4_step_17
  · rw [xm_la1 hz] at hP hD
    refine lv_aload_n hx hb dX4_step_0 rfl (lv_at hl 0 rfl) ?_
    refine lv_dup hx hb dX4_step_1 rfl ?_
    refine va_get (D := (dC, dI)) (ci := 4) (v := .long ct) (C := RX4) (T := TX4) (N := 5) hx hb htw inlX4 hown hK hP 0 rfl rfl 1 (by decide) (htw _ (ck_38 _ (List.mem_of_getElem? (i := 21) rfl))) (fun _ h9 => h9) rfl dX4_step_2 ?_
    refine lv_lconst (v := 1) hx hb dX4_step_5 (by decide) ?_
    refine lv_ladd hx hb dX4_step_6 ?_
    refine va_put (D := (dC, dI)) (ci := 4) (v := .long (ct + 1)) (ty := tyX4 1) (C := RX4) (T := TX4) (N := 5) hx hb htw inlX4 tyX4 tyX4_ok nmX4 hown hK hP hD hS 0 rfl rfl 1 (by decide) (htw _ (ck_38 _ (List.mem_of_getElem? (i := 21) rfl))) (fun _ h9 => h9) rfl (tyX4_ok 1 (by decide)) rfl rfl (Nat.le_of_ble_eq_true rfl) dX4_step_7 (fun H locs hP hD hS => ?_)
    obtain ⟨hP, hD⟩ := zre [(eO4b mo la (ct + 1) yr dy lg), (eO1a la fi gr fr)] hP hD rfl
    refine lv_aload_n hx hb dX4_step_10 rfl (lv_at hl 0 rfl) ?_
    refine va_get (D := (dC, dI)) (ci := 4) (v := .ref la) (C := RX4) (T := TX4) (N := 5) hx hb htw inlX4 hown hK hP 0 rfl rfl 0 (by decide) (htw _ (ck_38 _ (List.mem_of_getElem? (i := 20) rfl))) (fun _ h9 => h9) rfl dX4_step_11 ?_
    refine lv_ifnonnull (tgt := 18) hx hb dX4_step_14 (by decide) ?_
    refine lv_aload_n hx hb dX4_step_18 rfl (lv_at hl 0 rfl) ?_
    refine va_get (D := (dC, dI)) (ci := 4) (v := .long yr) (C := RX4) (T := TX4) (N := 5) hx hb htw inlX4 hown hK hP 0 rfl rfl 2 (by decide) (htw _ (ck_38 _ (List.mem_of_getElem? (i := 22) rfl))) (fun _ h9 => h9) rfl dX4_step_19 ?_
    refine lv_lconst (v := 0) hx hb dX4_step_22 (by decide) ?_
    refine W.lcmp hx hb dX4_step_23 ?_
    refine lv_if_le (tgt := 62) hx hb dX4_step_24 (by decide) (fun c_1 => ?_) (fun c_1 => ?_)
    · refine lv_aload_n hx hb dX4_step_62 rfl (lv_at hl 0 rfl) ?_
      refine va_get (D := (dC, dI)) (ci := 4) (v := .long (ct + 1)) (C := RX4) (T := TX4) (N := 5) hx hb htw inlX4 hown hK hP 0 rfl rfl 1 (by decide) (htw _ (ck_38 _ (List.mem_of_getElem? (i := 21) rfl))) (fun _ h9 => h9) rfl dX4_step_63 ?_
      refine lv_aload_n hx hb dX4_step_66 rfl (lv_at hl 0 rfl) ?_
      refine va_get (D := (dC, dI)) (ci := 4) (v := .ref la) (C := RX4) (T := TX4) (N := 5) hx hb htw inlX4 hown hK hP 0 rfl rfl 0 (by decide) (htw _ (ck_38 _ (List.mem_of_getElem? (i := 20) rfl))) (fun _ h9 => h9) rfl dX4_step_67 ?_
      refine va_get (D := (dC, dI)) (ci := 1) (v := .int fr) (C := RX1) (T := TX1) (N := 3) hx hb htw inlX1 hown hK hP 1 rfl rfl 2 (by decide) (htw _ (ck_43 _ (List.mem_of_getElem? (i := 7) rfl))) (fun _ h9 => h9) rfl dX4_step_70 ?_
      refine lv_i2l (v := fr.toInt64) hx hb dX4_step_73 rfl ?_
      refine W.lcmp hx hb dX4_step_74 ?_
      refine lv_if_ne (tgt := 83) hx hb dX4_step_75 (by decide) (fun c_2 => ?_) (fun c_2 => ?_)
      · have hP : va_P (dC, dI) vwCl [(mo, .inr (4, [(xm_la fl la), .long (ct + 1), .long yr, .long dy, .long lg])), (eO1a la fi gr fr)] H := by rw [xm_la1 hz]; exact hP
        have hD : va_D A [(mo, .inr (4, [(xm_la fl la), .long (ct + 1), .long yr, .long dy, .long lg])), (eO1a la fi gr fr)] := by rw [xm_la1 hz]; exact hD
        refine W.widen (k := 0) (n := 0) (by omega) (by omega) ?_
        have hP9 := hP
        have hD9 := hD
        have hK9 := hK.sub (tys' := []) [] rfl
        exact W.vret hx hb hr (fun t ht hW => ⟨⟨((ct + 1), yr, dy, lg), rfl, (Eq.symm ((by rw [fm_stepU]; (try rw [if_neg hz]); (try rw [if_pos c_1]); (try rw [if_neg c_2]); try rfl))), by rw [ht]; exact hP9, va_K.moved hW.alike hK9, hD9⟩, hS.F ht⟩) hS.2.2 dX4_step_83
      · refine lv_aload_n hx hb dX4_step_78 rfl (lv_at hl 0 rfl) ?_
        refine lv_lconst (v := 1) hx hb dX4_step_79 (by decide) ?_
        obtain ⟨hPc, hDc, hFc, hCc⟩ := zsub3 (ws' := [(eO4b mo la (ct + 1) yr dy lg), (eO1a la fi gr fr)]) hP hD hS hA [0, 1] (by decide) rfl
        have hKc := hK.sub (tys' := []) [] rfl
        refine va_callv (va_runV (As := [.long 1]) (rest := []) ⟨hx, hb, hml, hown, htw⟩ (gm_beginYear l dC dI mo la fi gr fr (ct + 1) yr dy lg (1 : Int64) H.size) (cwV 1 htw (xg_V (ck_43 _ (List.mem_of_getElem? (i := 8) rfl)) (ck_43 _ (List.mem_of_getElem? (i := 9) rfl)) (ck_43 _ (List.mem_of_getElem? (i := 10) rfl)) (ck_2 _ (List.mem_of_getElem? (i := 16) rfl)) (ck_43 _ (List.mem_of_getElem? (i := 11) rfl))) rfl rfl rfl (by exact ⟨rfl, hdc_7.1, hdc_7.2, hdd_16⟩) ⟨Nat.le_of_ble_eq_true rfl, Nat.le_of_ble_eq_true rfl⟩) ⟨fun a U g mk q => by obtain ⟨q0, q1, qP, qK, qD⟩ := q; exact ⟨q0, q1, qP, va_K.moved (u := U) (U := U.calling g mk a) (Vm.Alike.refl U.vm) qK, qD⟩, va_recv hKc hPc (ci := 4) (q0 := 0) rfl rfl, fun U hU hW => ⟨rfl, by rw [hU], by rw [hU]; exact hPc, va_K.moved hW.alike hKc, hDc.weaken (fun _ _ _ _ => trivial)⟩⟩ rfl rfl hl.1 rfl (lv_room (Nat.le_of_ble_eq_true rfl)) dX4_step_80 ⟨Nat.le_of_ble_eq_true rfl, Nat.le_of_ble_eq_true rfl⟩) hS (fun q _ h => hFc q h) hFc (fun u_4 t H1 locs ht hvm hw hB hz1 hk1 hS => ?_)
        try dsimp only at hw
        obtain ⟨hP1, hK1, hD1⟩ := hB
        rw [ht] at hP1
        have hK1 := va_K.moved hvm.symm hK1
        have hK1 : va_K (dC, dI) vwCl [] s := hK1
        obtain ⟨hP, hD⟩ := va_join (wr := []) (w1 := [(eO4b mo la (ct + 1) u_4.1 u_4.2.1 u_4.2.2), (eO1a la fi gr fr)]) hP hD [0, 1] [] hCc rfl (by decide) (by decide) hk1 hFc hP1 hD1
        generalize H1 = H at hP hS ⊢
        obtain ⟨hP, hD⟩ := zre [(eO4b mo la (ct + 1) u_4.1 u_4.2.1 u_4.2.2), (eO1a la fi gr fr)] hP hD rfl
        refine W.widen (k := 0) (n := 0) (by omega) (by omega) ?_
        have hq_u_4 : u_4 = (fm_beginYear fi gr fr (ct + 1) yr dy lg (1 : Int64)) := hw
        have hP : va_P (dC, dI) vwCl [(mo, .inr (4, [(xm_la fl la), .long (ct + 1), .long u_4.1, .long u_4.2.1, .long u_4.2.2])), (eO1a la fi gr fr)] H := by rw [xm_la1 hz]; exact hP
        have hD : va_D A [(mo, .inr (4, [(xm_la fl la), .long (ct + 1), .long u_4.1, .long u_4.2.1, .long u_4.2.2])), (eO1a la fi gr fr)] := by rw [xm_la1 hz]; exact hD
        refine W.widen (k := 0) (n := 0) (by omega) (by omega) ?_
        have hP9 := hP
        have hD9 := hD
        have hK9 := hK.sub (tys' := []) [] rfl
        exact W.vret hx hb hr (fun t ht hW => ⟨⟨((ct + 1), u_4.1, u_4.2.1, u_4.2.2), rfl, (Eq.symm ((by rw [fm_stepU]; (try rw [if_neg hz]); (try rw [if_pos c_1]); (try rw [if_pos c_2]); (try rw [← hq_u_4]); (try rw [xL_eq]); try rfl))), by rw [ht]; exact hP9, va_K.moved hW.alike hK9, hD9⟩, hS.F ht⟩) hS.2.2 dX4_step_83
    · refine lv_aload_n hx hb dX4_step_27 rfl (lv_at hl 0 rfl) ?_
      refine lv_dup hx hb dX4_step_28 rfl ?_
      refine va_get (D := (dC, dI)) (ci := 4) (v := .long dy) (C := RX4) (T := TX4) (N := 5) hx hb htw inlX4 hown hK hP 0 rfl rfl 3 (by decide) (htw _ (ck_38 _ (List.mem_of_getElem? (i := 23) rfl))) (fun _ h9 => h9) rfl dX4_step_29 ?_
      refine lv_lconst (v := 1) hx hb dX4_step_32 (by decide) ?_
      refine lv_ladd hx hb dX4_step_33 ?_
      refine va_put (D := (dC, dI)) (ci := 4) (v := .long (dy + 1)) (ty := tyX4 3) (C := RX4) (T := TX4) (N := 5) hx hb htw inlX4 tyX4 tyX4_ok nmX4 hown hK hP hD hS 0 rfl rfl 3 (by decide) (htw _ (ck_38 _ (List.mem_of_getElem? (i := 23) rfl))) (fun _ h9 => h9) rfl (tyX4_ok 3 (by decide)) rfl rfl (Nat.le_of_ble_eq_true rfl) dX4_step_34 (fun H locs hP hD hS => ?_)
      obtain ⟨hP, hD⟩ := zre [(eO4b mo la (ct + 1) yr (dy + 1) lg), (eO1a la fi gr fr)] hP hD rfl
      refine lv_aload_n hx hb dX4_step_37 rfl (lv_at hl 0 rfl) ?_
      refine va_get (D := (dC, dI)) (ci := 4) (v := .long (dy + 1)) (C := RX4) (T := TX4) (N := 5) hx hb htw inlX4 hown hK hP 0 rfl rfl 3 (by decide) (htw _ (ck_38 _ (List.mem_of_getElem? (i := 23) rfl))) (fun _ h9 => h9) rfl dX4_step_38 ?_
      refine lv_aload_n hx hb dX4_step_41 rfl (lv_at hl 0 rfl) ?_
      refine va_get (D := (dC, dI)) (ci := 4) (v := .long lg) (C := RX4) (T := TX4) (N := 5) hx hb htw inlX4 hown hK hP 0 rfl rfl 4 (by decide) (htw _ (ck_39 _ (List.mem_of_getElem? (i := 0) rfl))) (fun _ h9 => h9) rfl dX4_step_42 ?_
      refine W.lcmp hx hb dX4_step_45 ?_
      refine lv_if_le (tgt := 83) hx hb dX4_step_46 (by decide) (fun c_8 => ?_) (fun c_8 => ?_)
      · have hP : va_P (dC, dI) vwCl [(mo, .inr (4, [(xm_la fl la), .long (ct + 1), .long yr, .long (dy + 1), .long lg])), (eO1a la fi gr fr)] H := by rw [xm_la1 hz]; exact hP
        have hD : va_D A [(mo, .inr (4, [(xm_la fl la), .long (ct + 1), .long yr, .long (dy + 1), .long lg])), (eO1a la fi gr fr)] := by rw [xm_la1 hz]; exact hD
        refine W.widen (k := 0) (n := 0) (by omega) (by omega) ?_
        have hP9 := hP
        have hD9 := hD
        have hK9 := hK.sub (tys' := []) [] rfl
        exact W.vret hx hb hr (fun t ht hW => ⟨⟨((ct + 1), yr, (dy + 1), lg), rfl, (Eq.symm ((by rw [fm_stepU]; (try rw [if_neg hz]); (try rw [if_neg c_1]); (try rw [if_pos c_8]); try rfl))), by rw [ht]; exact hP9, va_K.moved hW.alike hK9, hD9⟩, hS.F ht⟩) hS.2.2 dX4_step_83
      · refine lv_aload_n hx hb dX4_step_49 rfl (lv_at hl 0 rfl) ?_
        refine lv_aload_n hx hb dX4_step_50 rfl (lv_at hl 0 rfl) ?_
        refine va_get (D := (dC, dI)) (ci := 4) (v := .long yr) (C := RX4) (T := TX4) (N := 5) hx hb htw inlX4 hown hK hP 0 rfl rfl 2 (by decide) (htw _ (ck_38 _ (List.mem_of_getElem? (i := 22) rfl))) (fun _ h9 => h9) rfl dX4_step_51 ?_
        refine lv_lconst (v := 1) hx hb dX4_step_54 (by decide) ?_
        refine lv_ladd hx hb dX4_step_55 ?_
        obtain ⟨hPc, hDc, hFc, hCc⟩ := zsub3 (ws' := [(eO4b mo la (ct + 1) yr (dy + 1) lg), (eO1a la fi gr fr)]) hP hD hS hA [0, 1] (by decide) rfl
        have hKc := hK.sub (tys' := []) [] rfl
        refine va_callv (va_runV (As := [.long (yr + 1)]) (rest := []) ⟨hx, hb, hml, hown, htw⟩ (gm_beginYear l dC dI mo la fi gr fr (ct + 1) yr (dy + 1) lg (yr + 1) H.size) (cwV 1 htw (xg_V (ck_43 _ (List.mem_of_getElem? (i := 8) rfl)) (ck_43 _ (List.mem_of_getElem? (i := 9) rfl)) (ck_43 _ (List.mem_of_getElem? (i := 10) rfl)) (ck_2 _ (List.mem_of_getElem? (i := 16) rfl)) (ck_43 _ (List.mem_of_getElem? (i := 11) rfl))) rfl rfl rfl (by exact ⟨rfl, hdc_7.1, hdc_7.2, hdd_16⟩) ⟨Nat.le_of_ble_eq_true rfl, Nat.le_of_ble_eq_true rfl⟩) ⟨fun a U g mk q => by obtain ⟨q0, q1, qP, qK, qD⟩ := q; exact ⟨q0, q1, qP, va_K.moved (u := U) (U := U.calling g mk a) (Vm.Alike.refl U.vm) qK, qD⟩, va_recv hKc hPc (ci := 4) (q0 := 0) rfl rfl, fun U hU hW => ⟨rfl, by rw [hU], by rw [hU]; exact hPc, va_K.moved hW.alike hKc, hDc.weaken (fun _ _ _ _ => trivial)⟩⟩ rfl rfl hl.1 rfl (lv_room (Nat.le_of_ble_eq_true rfl)) dX4_step_56 ⟨Nat.le_of_ble_eq_true rfl, Nat.le_of_ble_eq_true rfl⟩) hS (fun q _ h => hFc q h) hFc (fun u_10 t H1 locs ht hvm hw hB hz1 hk1 hS => ?_)
        try dsimp only at hw
        obtain ⟨hP1, hK1, hD1⟩ := hB
        rw [ht] at hP1
        have hK1 := va_K.moved hvm.symm hK1
        have hK1 : va_K (dC, dI) vwCl [] s := hK1
        obtain ⟨hP, hD⟩ := va_join (wr := []) (w1 := [(eO4b mo la (ct + 1) u_10.1 u_10.2.1 u_10.2.2), (eO1a la fi gr fr)]) hP hD [0, 1] [] hCc rfl (by decide) (by decide) hk1 hFc hP1 hD1
        generalize H1 = H at hP hS ⊢
        obtain ⟨hP, hD⟩ := zre [(eO4b mo la (ct + 1) u_10.1 u_10.2.1 u_10.2.2), (eO1a la fi gr fr)] hP hD rfl
        refine W.widen (k := 0) (n := 0) (by omega) (by omega) ?_
        have hq_u_10 : u_10 = (fm_beginYear fi gr fr (ct + 1) yr (dy + 1) lg (yr + 1)) := hw
        refine lv_goto (tgt := 83) hx hb dX4_step_59 (by decide) ?_
        have hP : va_P (dC, dI) vwCl [(mo, .inr (4, [(xm_la fl la), .long (ct + 1), .long u_10.1, .long u_10.2.1, .long u_10.2.2])), (eO1a la fi gr fr)] H := by rw [xm_la1 hz]; exact hP
        have hD : va_D A [(mo, .inr (4, [(xm_la fl la), .long (ct + 1), .long u_10.1, .long u_10.2.1, .long u_10.2.2])), (eO1a la fi gr fr)] := by rw [xm_la1 hz]; exact hD
        refine W.widen (k := 0) (n := 0) (by omega) (by omega) ?_
        have hP9 := hP
        have hD9 := hD
        have hK9 := hK.sub (tys' := []) [] rfl
        exact W.vret hx hb hr (fun t ht hW => ⟨⟨((ct + 1), u_10.1, u_10.2.1, u_10.2.2), rfl, (Eq.symm ((by rw [fm_stepU]; (try rw [if_neg hz]); (try rw [if_neg c_1]); (try rw [if_neg c_8]); (try rw [← hq_u_10]); (try rw [xL_eq]); try rfl))), by rw [ht]; exact hP9, va_K.moved hW.alike hK9, hD9⟩, hS.F ht⟩) hS.2.2 dX4_step_83
