def fm_seek (ct : Int64) (yr : Int64) (dy : Int64) (lg : Int64) (fi : Int32) (gr : Int32) (fr : Int32) (a0 : Int64) : (Int64) × (Int64) × (Int64) × (Int64) := (if lg_cmp (fl_yearOf fi gr fr a0) 0 ≤ 0 then (a0, (fl_yearOf fi gr fr a0), (0 : Int64), (0 : Int64)) else (a0, (fl_yearOf fi gr fr a0), ((a0 - (fl_beginOf fi gr fr (fl_yearOf fi gr fr a0))) + 1), (fl_lengthOf fi gr fr (fl_yearOf fi gr fr a0))))
theorem dX4_seek_0 : decode cX4_seek 0 = .ok (.aload_n 0, 1) := by decide +kernel
theorem dX4_seek_1 : decode cX4_seek 1 = .ok (.aload_n 1, 1) := by decide +kernel
theorem dX4_seek_2 : decode cX4_seek 2 = .ok (.putfield 7, 3) := by decide +kernel
theorem dX4_seek_5 : decode cX4_seek 5 = .ok (.aload_n 0, 1) := by decide +kernel
theorem dX4_seek_6 : decode cX4_seek 6 = .ok (.lload_n 2, 1) := by decide +kernel
theorem dX4_seek_7 : decode cX4_seek 7 = .ok (.putfield 13, 3) := by decide +kernel
theorem dX4_seek_10 : decode cX4_seek 10 = .ok (.aload_n 0, 1) := by decide +kernel
theorem dX4_seek_11 : decode cX4_seek 11 = .ok (.aload_n 1, 1) := by decide +kernel
theorem dX4_seek_12 : decode cX4_seek 12 = .ok (.ifnonnull 7, 3) := by decide +kernel
theorem dX4_seek_19 : decode cX4_seek 19 = .ok (.aload_n 1, 1) := by decide +kernel
theorem dX4_seek_20 : decode cX4_seek 20 = .ok (.lload_n 2, 1) := by decide +kernel
theorem dX4_seek_21 : decode cX4_seek 21 = .ok (.invokevirtual 17, 3) := by decide +kernel
theorem dX4_seek_24 : decode cX4_seek 24 = .ok (.putfield 23, 3) := by decide +kernel
theorem dX4_seek_27 : decode cX4_seek 27 = .ok (.aload_n 0, 1) := by decide +kernel
theorem dX4_seek_28 : decode cX4_seek 28 = .ok (.lconst 0, 1) := by decide +kernel
theorem dX4_seek_29 : decode cX4_seek 29 = .ok (.putfield 26, 3) := by decide +kernel
theorem dX4_seek_32 : decode cX4_seek 32 = .ok (.aload_n 0, 1) := by decide +kernel
theorem dX4_seek_33 : decode cX4_seek 33 = .ok (.lconst 0, 1) := by decide +kernel
theorem dX4_seek_34 : decode cX4_seek 34 = .ok (.putfield 29, 3) := by decide +kernel
theorem dX4_seek_37 : decode cX4_seek 37 = .ok (.aload_n 1, 1) := by decide +kernel
theorem dX4_seek_38 : decode cX4_seek 38 = .ok (.ifnull 40, 3) := by decide +kernel
theorem dX4_seek_41 : decode cX4_seek 41 = .ok (.aload_n 0, 1) := by decide +kernel
theorem dX4_seek_42 : decode cX4_seek 42 = .ok (.getfield 23, 3) := by decide +kernel
theorem dX4_seek_45 : decode cX4_seek 45 = .ok (.lconst 0, 1) := by decide +kernel
theorem dX4_seek_46 : decode cX4_seek 46 = .ok (.lcmp, 1) := by decide +kernel
theorem dX4_seek_47 : decode cX4_seek 47 = .ok (.ifCond .le 31, 3) := by decide +kernel
theorem dX4_seek_78 : decode cX4_seek 78 = .ok (.return_, 1) := by decide +kernel
theorem dX4_seek_50 : decode cX4_seek 50 = .ok (.aload_n 0, 1) := by decide +kernel
theorem dX4_seek_51 : decode cX4_seek 51 = .ok (.lload_n 2, 1) := by decide +kernel
theorem dX4_seek_52 : decode cX4_seek 52 = .ok (.aload_n 1, 1) := by decide +kernel
theorem dX4_seek_53 : decode cX4_seek 53 = .ok (.aload_n 0, 1) := by decide +kernel
theorem dX4_seek_54 : decode cX4_seek 54 = .ok (.getfield 23, 3) := by decide +kernel
theorem dX4_seek_57 : decode cX4_seek 57 = .ok (.invokevirtual 32, 3) := by decide +kernel
theorem dX4_seek_60 : decode cX4_seek 60 = .ok (.lsub, 1) := by decide +kernel
theorem dX4_seek_61 : decode cX4_seek 61 = .ok (.lconst 1, 1) := by decide +kernel
theorem dX4_seek_62 : decode cX4_seek 62 = .ok (.ladd, 1) := by decide +kernel
theorem dX4_seek_63 : decode cX4_seek 63 = .ok (.putfield 26, 3) := by decide +kernel
theorem dX4_seek_66 : decode cX4_seek 66 = .ok (.aload_n 0, 1) := by decide +kernel
theorem dX4_seek_67 : decode cX4_seek 67 = .ok (.aload_n 1, 1) := by decide +kernel
theorem dX4_seek_68 : decode cX4_seek 68 = .ok (.aload_n 0, 1) := by decide +kernel
theorem dX4_seek_69 : decode cX4_seek 69 = .ok (.getfield 23, 3) := by decide +kernel
theorem dX4_seek_72 : decode cX4_seek 72 = .ok (.invokevirtual 35, 3) := by decide +kernel
theorem dX4_seek_75 : decode cX4_seek 75 = .ok (.putfield 29, 3) := by decide +kernel
set_option maxHeartbeats 4000000 in
set_option maxRecDepth 100000 in
theorem gm_seek (l : Launch) (dC : Nat → ClassId) (dI : Nat → Nat → Nat) (mo : Nat) (mla : Value) (ct : Int64) (yr : Int64) (dy : Int64) (lg : Int64) (la : Nat) (fi : Int32) (gr : Int32) (fr : Int32) (a0 : Int64) (sz : Nat) : Met l yX4_seek (Cond.code yX4_seek cX4_seek 4 none :: wsL_law) ({ frames := 3, cells := 0, slots := 0, locals := 72 }) (va_Pc [.ref mo, .ref la, .long a0] (fun U => U.heap.size = sz ∧ va_P (dC, dI) vwCl [(mo, .inr (4, [mla, .long ct, .long yr, .long dy, .long lg])), (la, .inr (1, [.int fi, .int gr, .int fr]))] U.heap ∧ va_K (dC, dI) vwCl [] U ∧ va_D (fun _ => True) [(mo, .inr (4, [mla, .long ct, .long yr, .long dy, .long lg])), (la, .inr (1, [.int fi, .int gr, .int fr]))] ∧ va_Nw (.methodLinkNest RX1 37 yX11_cut "LongYears") U)) (va_Qv (fun (u : (Int64) × (Int64) × (Int64) × (Int64)) => u = fm_seek ct yr dy lg fi gr fr a0) (fun (u : (Int64) × (Int64) × (Int64) × (Int64)) t => va_P (dC, dI) vwCl [(mo, .inr (4, [.ref la, .long u.1, .long u.2.1, .long u.2.2.1, .long u.2.2.2])), (la, .inr (1, [.int fi, .int gr, .int fr]))] t.heap ∧ va_K (dC, dI) vwCl [] t ∧ va_D (va_A [(mo, .inr (4, [mla, .long ct, .long yr, .long dy, .long lg])), (la, .inr (1, [.int fi, .int gr, .int fr]))] sz) [(mo, .inr (4, [.ref la, .long u.1, .long u.2.1, .long u.2.2.1, .long u.2.2.2])), (la, .inr (1, [.int fi, .int gr, .int fr]))]) (va_A [(mo, .inr (4, [mla, .long ct, .long yr, .long dy, .long lg])), (la, .inr (1, [.int fi, .int gr, .int fr]))] sz)) 0 0 (va_A [(mo, .inr (4, [mla, .long ct, .long yr, .long dy, .long lg])), (la, .inr (1, [.int fi, .int gr, .int fr]))] sz) := by
  refine Met.ofW (cc := cX4_seek) (maxL := 4) (ret := none) (by decide) rfl ?_
  intro p e s m args below meth c s₁ B hml hv
  obtain ⟨rfl, hsz, hP, hK, hD0, hNw⟩ := hv
  have hx := B.exec
  have hb := B.bytes
  have hr := B.returns
  have hts := atoms_spec (ws := Cond.code yX4_seek cX4_seek 4 none :: wsL_law) B.pre
  have htw : ∀ w ∈ wsL_law, w.before _ s = true := fun w h => hts w (List.mem_cons_of_mem _ h)
  have hown : s.vm.findClass RX4 = some m.cls := findClass_of_methodNamed B.named
  have hlocks := B.notSynchronized
  subst hsz
  have hD := hD0.self (sz := s.heap.size)
  generalize hAe : va_A [(mo, .inr (4, [mla, .long ct, .long yr, .long dy, .long lg])), (la, .inr (1, [.int fi, .int gr, .int fr]))] s.heap.size = A at hD ⊢
  have hA : ∀ q : Nat, s.heap.size ≤ q → A q := fun q h => by rw [← hAe]; exact Or.inr h
  obtain ⟨H, rH⟩ : ∃ z : Heap, z = s.heap := ⟨_, rfl⟩
  have hS : va_S A s.heap H [] := by rw [rH]; exact va_S.rf
  have hP : va_P (dC, dI) vwCl [(mo, .inr (4, [mla, .long ct, .long yr, .long dy, .long lg])), (la, .inr (1, [.int fi, .int gr, .int fr]))] H := by rw [rH]; exact hP
  rw [← rH]
  have hl := lv_entry ([.ref mo, .ref la, .long a0]) (n := 4) (Nat.le_of_ble_eq_true rfl)
  rw [lg_entry_eq]
  generalize (lg_sl ([.ref mo, .ref la, .long a0]) ++ List.replicate (4 - (lg_sl ([.ref mo, .ref la, .long a0])).length) Slot.unset).toArray = ls at hl ⊢
  have hl : lv_has ls 4 [(0, .ref mo), (1, .ref la), (2, .long a0)] := hl
  refine lv_aload_n hx hb dX4_seek_0 rfl (lv_at hl 0 rfl) ?_
  refine lv_aload_n hx hb dX4_seek_1 rfl (lv_at hl 1 rfl) ?_
  refine va_put (D := (dC, dI)) (ci := 4) (v := .ref la) (ty := tyX4 0) (C := RX4) (T := TX4) (N := 5) hx hb htw inlX4 tyX4 tyX4_ok nmX4 hown hK hP hD hS 0 rfl rfl 0 (by decide) (htw _ (ck_38 _ (List.mem_of_getElem? (i := 20) rfl))) (fun _ h9 => h9) rfl (by decide +kernel) rfl rfl (Nat.le_of_ble_eq_true rfl) dX4_seek_2 (fun H locs hP hD hS => ?_)
  have hP : va_P (dC, dI) vwCl [(mo, .inr (4, [.ref la, .long ct, .long yr, .long dy, .long lg])), (la, .inr (1, [.int fi, .int gr, .int fr]))] H := hP
  have hD : va_D A [(mo, .inr (4, [.ref la, .long ct, .long yr, .long dy, .long lg])), (la, .inr (1, [.int fi, .int gr, .int fr]))] := hD
  refine lv_aload_n hx hb dX4_seek_5 rfl (lv_at hl 0 rfl) ?_
  refine lv_lload_n hx hb dX4_seek_6 rfl (lv_at hl 2 rfl) ?_
  refine va_put (D := (dC, dI)) (ci := 4) (v := .long a0) (ty := tyX4 1) (C := RX4) (T := TX4) (N := 5) hx hb htw inlX4 tyX4 tyX4_ok nmX4 hown hK hP hD hS 0 rfl rfl 1 (by decide) (htw _ (ck_38 _ (List.mem_of_getElem? (i := 21) rfl))) (fun _ h9 => h9) rfl (by decide +kernel) rfl rfl (Nat.le_of_ble_eq_true rfl) dX4_seek_7 (fun H locs hP hD hS => ?_)
  have hP : va_P (dC, dI) vwCl [(mo, .inr (4, [.ref la, .long a0, .long yr, .long dy, .long lg])), (la, .inr (1, [.int fi, .int gr, .int fr]))] H := hP
  have hD : va_D A [(mo, .inr (4, [.ref la, .long a0, .long yr, .long dy, .long lg])), (la, .inr (1, [.int fi, .int gr, .int fr]))] := hD
  refine lv_aload_n hx hb dX4_seek_10 rfl (lv_at hl 0 rfl) ?_
  refine lv_aload_n hx hb dX4_seek_11 rfl (lv_at hl 1 rfl) ?_
  refine lv_ifnonnull (tgt := 19) hx hb dX4_seek_12 (by decide) ?_
  refine lv_aload_n hx hb dX4_seek_19 rfl (lv_at hl 1 rfl) ?_
  refine lv_lload_n hx hb dX4_seek_20 rfl (lv_at hl 2 rfl) ?_
  have hPc := hP.sub (ws' := [(la, .inr (1, [.int fi, .int gr, .int fr]))]) [1] rfl
  have hKc := hK.sub (tys' := []) [] rfl
  refine vp_callSl (W.runV (As := [.long a0]) (rest := [.ref mo]) ⟨hx, hb, hml, hown, htw⟩ (gl_yearOf l dC dI la fi gr fr a0) (cwV 1 htw (xg_V (ck_39 _ (List.mem_of_getElem? (i := 1) rfl)) (ck_35 _ (List.mem_of_getElem? (i := 16) rfl)) (ck_35 _ (List.mem_of_getElem? (i := 17) rfl)) (ck_6 _ (List.mem_of_getElem? (i := 19) rfl)) (ck_35 _ (List.mem_of_getElem? (i := 18) rfl))) rfl rfl rfl (by decide +kernel) ⟨Nat.le_of_ble_eq_true rfl, Nat.le_of_ble_eq_true rfl⟩) ⟨fun a U g mk q => by obtain ⟨q0, qP, qK, qx⟩ := q; exact ⟨q0, qP, va_K.moved (u := U) (U := U.calling g mk a) (Vm.Alike.refl U.vm) qK, va_Nw.same rfl (rfl : U.vm = (U.calling g mk a).vm) qx⟩, va_recv hKc hPc (ci := 1) (q0 := 0) rfl rfl, fun U hU hW => ⟨rfl, by rw [hU]; exact hPc, va_K.moved hW.alike hKc, va_Nw.warmM hW hNw⟩⟩ rfl rfl hl.1 rfl (lv_room (Nat.le_of_ble_eq_true rfl)) dX4_seek_21 ⟨Nat.le_of_ble_eq_true rfl, Nat.le_of_ble_eq_true rfl⟩) (fun r_1 hw => ?_)
  try dsimp only at hw
  have hq_r_1 : r_1 = fl_yearOf fi gr fr a0 := hw
  refine va_put (D := (dC, dI)) (ci := 4) (v := .long r_1) (ty := tyX4 2) (C := RX4) (T := TX4) (N := 5) hx hb htw inlX4 tyX4 tyX4_ok nmX4 hown hK hP hD hS 0 rfl rfl 2 (by decide) (htw _ (ck_38 _ (List.mem_of_getElem? (i := 22) rfl))) (fun _ h9 => h9) rfl (by decide +kernel) rfl rfl (Nat.le_of_ble_eq_true rfl) dX4_seek_24 (fun H locs hP hD hS => ?_)
  have hP : va_P (dC, dI) vwCl [(mo, .inr (4, [.ref la, .long a0, .long r_1, .long dy, .long lg])), (la, .inr (1, [.int fi, .int gr, .int fr]))] H := hP
  have hD : va_D A [(mo, .inr (4, [.ref la, .long a0, .long r_1, .long dy, .long lg])), (la, .inr (1, [.int fi, .int gr, .int fr]))] := hD
  refine lv_aload_n hx hb dX4_seek_27 rfl (lv_at hl 0 rfl) ?_
  refine lv_lconst (v := 0) hx hb dX4_seek_28 (by decide) ?_
  refine va_put (D := (dC, dI)) (ci := 4) (v := .long 0) (ty := tyX4 3) (C := RX4) (T := TX4) (N := 5) hx hb htw inlX4 tyX4 tyX4_ok nmX4 hown hK hP hD hS 0 rfl rfl 3 (by decide) (htw _ (ck_38 _ (List.mem_of_getElem? (i := 23) rfl))) (fun _ h9 => h9) rfl (by decide +kernel) rfl rfl (Nat.le_of_ble_eq_true rfl) dX4_seek_29 (fun H locs hP hD hS => ?_)
  have hP : va_P (dC, dI) vwCl [(mo, .inr (4, [.ref la, .long a0, .long r_1, .long 0, .long lg])), (la, .inr (1, [.int fi, .int gr, .int fr]))] H := hP
  have hD : va_D A [(mo, .inr (4, [.ref la, .long a0, .long r_1, .long 0, .long lg])), (la, .inr (1, [.int fi, .int gr, .int fr]))] := hD
  refine lv_aload_n hx hb dX4_seek_32 rfl (lv_at hl 0 rfl) ?_
  refine lv_lconst (v := 0) hx hb dX4_seek_33 (by decide) ?_
  refine va_put (D := (dC, dI)) (ci := 4) (v := .long 0) (ty := tyX4 4) (C := RX4) (T := TX4) (N := 5) hx hb htw inlX4 tyX4 tyX4_ok nmX4 hown hK hP hD hS 0 rfl rfl 4 (by decide) (htw _ (ck_39 _ (List.mem_of_getElem? (i := 0) rfl))) (fun _ h9 => h9) rfl (by decide +kernel) rfl rfl (Nat.le_of_ble_eq_true rfl) dX4_seek_34 (fun H locs hP hD hS => ?_)
  have hP : va_P (dC, dI) vwCl [(mo, .inr (4, [.ref la, .long a0, .long r_1, .long 0, .long 0])), (la, .inr (1, [.int fi, .int gr, .int fr]))] H := hP
  have hD : va_D A [(mo, .inr (4, [.ref la, .long a0, .long r_1, .long 0, .long 0])), (la, .inr (1, [.int fi, .int gr, .int fr]))] := hD
  refine lv_aload_n hx hb dX4_seek_37 rfl (lv_at hl 1 rfl) ?_
  refine lv_ifnull hx hb dX4_seek_38 ?_
  refine lv_aload_n hx hb dX4_seek_41 rfl (lv_at hl 0 rfl) ?_
  refine va_get (D := (dC, dI)) (ci := 4) (v := .long r_1) (C := RX4) (T := TX4) (N := 5) hx hb htw inlX4 hown hK hP 0 rfl rfl 2 (by decide) (htw _ (ck_38 _ (List.mem_of_getElem? (i := 22) rfl))) (fun _ h9 => h9) rfl dX4_seek_42 ?_
  refine lv_lconst (v := 0) hx hb dX4_seek_45 (by decide) ?_
  refine W.lcmp hx hb dX4_seek_46 ?_
  refine lv_if_le (tgt := 78) hx hb dX4_seek_47 (by decide) (fun c_2 => ?_) (fun c_2 => ?_)
  · refine W.widen (k := 0) (n := 0) (by omega) (by omega) ?_
    have hP9 := hP.sub (ws' := [(mo, .inr (4, [.ref la, .long a0, .long r_1, .long 0, .long 0])), (la, .inr (1, [.int fi, .int gr, .int fr]))]) [0, 1] rfl
    have hD9 := hD.sub (ws' := [(mo, .inr (4, [.ref la, .long a0, .long r_1, .long 0, .long 0])), (la, .inr (1, [.int fi, .int gr, .int fr]))]) [0, 1] (by decide) rfl
    have hK9 := hK.sub (tys' := []) [] rfl
    exact W.vret hx hb hr (fun t ht hW => ⟨⟨(a0, r_1, 0, 0), rfl, (by rw [fm_seek]; (try rw [← hq_r_1]); (try rw [if_pos c_2]); try rfl), by rw [ht]; exact hP9, va_K.moved hW.alike hK9, hD9⟩, hS.F ht⟩) hS.2.2 dX4_seek_78
  · refine lv_aload_n hx hb dX4_seek_50 rfl (lv_at hl 0 rfl) ?_
    refine lv_lload_n hx hb dX4_seek_51 rfl (lv_at hl 2 rfl) ?_
    refine lv_aload_n hx hb dX4_seek_52 rfl (lv_at hl 1 rfl) ?_
    refine lv_aload_n hx hb dX4_seek_53 rfl (lv_at hl 0 rfl) ?_
    refine va_get (D := (dC, dI)) (ci := 4) (v := .long r_1) (C := RX4) (T := TX4) (N := 5) hx hb htw inlX4 hown hK hP 0 rfl rfl 2 (by decide) (htw _ (ck_38 _ (List.mem_of_getElem? (i := 22) rfl))) (fun _ h9 => h9) rfl dX4_seek_54 ?_
    have hPc := hP.sub (ws' := [(la, .inr (1, [.int fi, .int gr, .int fr]))]) [1] rfl
    have hKc := hK.sub (tys' := []) [] rfl
    refine vp_callSl (W.runV (As := [.long r_1]) (rest := [.long a0, .ref mo]) ⟨hx, hb, hml, hown, htw⟩ (gl_beginOf l dC dI la fi gr fr r_1) (cwV 1 htw (xg_V (ck_39 _ (List.mem_of_getElem? (i := 2) rfl)) (ck_21 _ (List.mem_of_getElem? (i := 21) rfl)) (ck_21 _ (List.mem_of_getElem? (i := 22) rfl)) (ck_6 _ (List.mem_of_getElem? (i := 19) rfl)) (ck_21 _ (List.mem_of_getElem? (i := 23) rfl))) rfl rfl rfl (by decide +kernel) ⟨Nat.le_of_ble_eq_true rfl, Nat.le_of_ble_eq_true rfl⟩) ⟨fun a U g mk q => by obtain ⟨q0, qP, qK⟩ := q; exact ⟨q0, qP, va_K.moved (u := U) (U := U.calling g mk a) (Vm.Alike.refl U.vm) qK⟩, va_recv hKc hPc (ci := 1) (q0 := 0) rfl rfl, fun U hU hW => ⟨rfl, by rw [hU]; exact hPc, va_K.moved hW.alike hKc⟩⟩ rfl rfl hl.1 rfl (lv_room (Nat.le_of_ble_eq_true rfl)) dX4_seek_57 ⟨Nat.le_of_ble_eq_true rfl, Nat.le_of_ble_eq_true rfl⟩) (fun r_3 hw => ?_)
    try dsimp only at hw
    have hq_r_3 : r_3 = fl_beginOf fi gr fr r_1 := hw
    refine lv_lsub hx hb dX4_seek_60 ?_
    refine lv_lconst (v := 1) hx hb dX4_seek_61 (by decide) ?_
    refine lv_ladd hx hb dX4_seek_62 ?_
    refine va_put (D := (dC, dI)) (ci := 4) (v := .long ((a0 - r_3) + 1)) (ty := tyX4 3) (C := RX4) (T := TX4) (N := 5) hx hb htw inlX4 tyX4 tyX4_ok nmX4 hown hK hP hD hS 0 rfl rfl 3 (by decide) (htw _ (ck_38 _ (List.mem_of_getElem? (i := 23) rfl))) (fun _ h9 => h9) rfl (by decide +kernel) rfl rfl (Nat.le_of_ble_eq_true rfl) dX4_seek_63 (fun H locs hP hD hS => ?_)
    have hP : va_P (dC, dI) vwCl [(mo, .inr (4, [.ref la, .long a0, .long r_1, .long ((a0 - r_3) + 1), .long 0])), (la, .inr (1, [.int fi, .int gr, .int fr]))] H := hP
    have hD : va_D A [(mo, .inr (4, [.ref la, .long a0, .long r_1, .long ((a0 - r_3) + 1), .long 0])), (la, .inr (1, [.int fi, .int gr, .int fr]))] := hD
    refine lv_aload_n hx hb dX4_seek_66 rfl (lv_at hl 0 rfl) ?_
    refine lv_aload_n hx hb dX4_seek_67 rfl (lv_at hl 1 rfl) ?_
    refine lv_aload_n hx hb dX4_seek_68 rfl (lv_at hl 0 rfl) ?_
    refine va_get (D := (dC, dI)) (ci := 4) (v := .long r_1) (C := RX4) (T := TX4) (N := 5) hx hb htw inlX4 hown hK hP 0 rfl rfl 2 (by decide) (htw _ (ck_38 _ (List.mem_of_getElem? (i := 22) rfl))) (fun _ h9 => h9) rfl dX4_seek_69 ?_
    have hPc := hP.sub (ws' := [(la, .inr (1, [.int fi, .int gr, .int fr]))]) [1] rfl
    have hKc := hK.sub (tys' := []) [] rfl
    refine vp_callSl (W.runV (As := [.long r_1]) (rest := [.ref mo]) ⟨hx, hb, hml, hown, htw⟩ (gl_lengthOf l dC dI la fi gr fr r_1) (cwV 1 htw (xg_V (ck_39 _ (List.mem_of_getElem? (i := 3) rfl)) (ck_21 _ (List.mem_of_getElem? (i := 10) rfl)) (ck_21 _ (List.mem_of_getElem? (i := 11) rfl)) (ck_6 _ (List.mem_of_getElem? (i := 19) rfl)) (ck_21 _ (List.mem_of_getElem? (i := 12) rfl))) rfl rfl rfl (by decide +kernel) ⟨Nat.le_of_ble_eq_true rfl, Nat.le_of_ble_eq_true rfl⟩) ⟨fun a U g mk q => by obtain ⟨q0, qP, qK⟩ := q; exact ⟨q0, qP, va_K.moved (u := U) (U := U.calling g mk a) (Vm.Alike.refl U.vm) qK⟩, va_recv hKc hPc (ci := 1) (q0 := 0) rfl rfl, fun U hU hW => ⟨rfl, by rw [hU]; exact hPc, va_K.moved hW.alike hKc⟩⟩ rfl rfl hl.1 rfl (lv_room (Nat.le_of_ble_eq_true rfl)) dX4_seek_72 ⟨Nat.le_of_ble_eq_true rfl, Nat.le_of_ble_eq_true rfl⟩) (fun r_4 hw => ?_)
    try dsimp only at hw
    have hq_r_4 : r_4 = fl_lengthOf fi gr fr r_1 := hw
    refine va_put (D := (dC, dI)) (ci := 4) (v := .long r_4) (ty := tyX4 4) (C := RX4) (T := TX4) (N := 5) hx hb htw inlX4 tyX4 tyX4_ok nmX4 hown hK hP hD hS 0 rfl rfl 4 (by decide) (htw _ (ck_39 _ (List.mem_of_getElem? (i := 0) rfl))) (fun _ h9 => h9) rfl (by decide +kernel) rfl rfl (Nat.le_of_ble_eq_true rfl) dX4_seek_75 (fun H locs hP hD hS => ?_)
    have hP : va_P (dC, dI) vwCl [(mo, .inr (4, [.ref la, .long a0, .long r_1, .long ((a0 - r_3) + 1), .long r_4])), (la, .inr (1, [.int fi, .int gr, .int fr]))] H := hP
    have hD : va_D A [(mo, .inr (4, [.ref la, .long a0, .long r_1, .long ((a0 - r_3) + 1), .long r_4])), (la, .inr (1, [.int fi, .int gr, .int fr]))] := hD
    refine W.widen (k := 0) (n := 0) (by omega) (by omega) ?_
    have hP9 := hP.sub (ws' := [(mo, .inr (4, [.ref la, .long a0, .long r_1, .long ((a0 - r_3) + 1), .long r_4])), (la, .inr (1, [.int fi, .int gr, .int fr]))]) [0, 1] rfl
    have hD9 := hD.sub (ws' := [(mo, .inr (4, [.ref la, .long a0, .long r_1, .long ((a0 - r_3) + 1), .long r_4])), (la, .inr (1, [.int fi, .int gr, .int fr]))]) [0, 1] (by decide) rfl
    have hK9 := hK.sub (tys' := []) [] rfl
    exact W.vret hx hb hr (fun t ht hW => ⟨⟨(a0, r_1, ((a0 - r_3) + 1), r_4), rfl, (by rw [fm_seek]; (try rw [← hq_r_1]); (try rw [← hq_r_3]); (try rw [← hq_r_4]); (try rw [if_neg c_2]); try rfl), by rw [ht]; exact hP9, va_K.moved hW.alike hK9, hD9⟩, hS.F ht⟩) hS.2.2 dX4_seek_78

def fm_seek0 (ct : Int64) (yr : Int64) (dy : Int64) (lg : Int64) (a0 : Int64) : (Int64) × (Int64) × (Int64) × (Int64) := (a0, (0 : Int64), (0 : Int64), (0 : Int64))
theorem dX4_seek_15 : decode cX4_seek 15 = .ok (.lconst 0, 1) := by decide +kernel
theorem dX4_seek_16 : decode cX4_seek 16 = .ok (.goto 8, 3) := by decide +kernel
set_option maxHeartbeats 4000000 in
set_option maxRecDepth 100000 in
theorem gm_seek0 (l : Launch) (dC : Nat → ClassId) (dI : Nat → Nat → Nat) (mo : Nat) (mla : Value) (ct : Int64) (yr : Int64) (dy : Int64) (lg : Int64) (a0 : Int64) (sz : Nat) : Met l yX4_seek (Cond.code yX4_seek cX4_seek 4 none :: wsL_law) ({ frames := 0, cells := 0, slots := 0, locals := 0 }) (va_Pc [.ref mo, .null, .long a0] (fun U => U.heap.size = sz ∧ va_P (dC, dI) vwCl [(mo, .inr (4, [mla, .long ct, .long yr, .long dy, .long lg]))] U.heap ∧ va_K (dC, dI) vwCl [] U ∧ va_D (fun _ => True) [(mo, .inr (4, [mla, .long ct, .long yr, .long dy, .long lg]))])) (va_Qv (fun (u : (Int64) × (Int64) × (Int64) × (Int64)) => u = fm_seek0 ct yr dy lg a0) (fun (u : (Int64) × (Int64) × (Int64) × (Int64)) t => va_P (dC, dI) vwCl [(mo, .inr (4, [.null, .long u.1, .long u.2.1, .long u.2.2.1, .long u.2.2.2]))] t.heap ∧ va_K (dC, dI) vwCl [] t ∧ va_D (va_A [(mo, .inr (4, [mla, .long ct, .long yr, .long dy, .long lg]))] sz) [(mo, .inr (4, [.null, .long u.1, .long u.2.1, .long u.2.2.1, .long u.2.2.2]))]) (va_A [(mo, .inr (4, [mla, .long ct, .long yr, .long dy, .long lg]))] sz)) 0 0 (va_A [(mo, .inr (4, [mla, .long ct, .long yr, .long dy, .long lg]))] sz) := by
  refine Met.ofW (cc := cX4_seek) (maxL := 4) (ret := none) (by decide) rfl ?_
  intro p e s m args below meth c s₁ B hml hv
  obtain ⟨rfl, hsz, hP, hK, hD0⟩ := hv
  have hx := B.exec
  have hb := B.bytes
  have hr := B.returns
  have hts := atoms_spec (ws := Cond.code yX4_seek cX4_seek 4 none :: wsL_law) B.pre
  have htw : ∀ w ∈ wsL_law, w.before _ s = true := fun w h => hts w (List.mem_cons_of_mem _ h)
  have hown : s.vm.findClass RX4 = some m.cls := findClass_of_methodNamed B.named
  have hlocks := B.notSynchronized
  subst hsz
  have hD := hD0.self (sz := s.heap.size)
  generalize hAe : va_A [(mo, .inr (4, [mla, .long ct, .long yr, .long dy, .long lg]))] s.heap.size = A at hD ⊢
  have hA : ∀ q : Nat, s.heap.size ≤ q → A q := fun q h => by rw [← hAe]; exact Or.inr h
  obtain ⟨H, rH⟩ : ∃ z : Heap, z = s.heap := ⟨_, rfl⟩
  have hS : va_S A s.heap H [] := by rw [rH]; exact va_S.rf
  have hP : va_P (dC, dI) vwCl [(mo, .inr (4, [mla, .long ct, .long yr, .long dy, .long lg]))] H := by rw [rH]; exact hP
  rw [← rH]
  have hl := lv_entry ([.ref mo, .null, .long a0]) (n := 4) (Nat.le_of_ble_eq_true rfl)
  rw [lg_entry_eq]
  generalize (lg_sl ([.ref mo, .null, .long a0]) ++ List.replicate (4 - (lg_sl ([.ref mo, .null, .long a0])).length) Slot.unset).toArray = ls at hl ⊢
  have hl : lv_has ls 4 [(0, .ref mo), (1, .null), (2, .long a0)] := hl
  refine lv_aload_n hx hb dX4_seek_0 rfl (lv_at hl 0 rfl) ?_
  refine lv_aload_nN hx hb dX4_seek_1 rfl (lv_at hl 1 rfl) ?_
  refine va_put (D := (dC, dI)) (ci := 4) (v := .null) (ty := tyX4 0) (C := RX4) (T := TX4) (N := 5) hx hb htw inlX4 tyX4 tyX4_ok nmX4 hown hK hP hD hS 0 rfl rfl 0 (by decide) (htw _ (ck_38 _ (List.mem_of_getElem? (i := 20) rfl))) (fun _ h9 => h9) rfl (by decide +kernel) rfl rfl (Nat.le_of_ble_eq_true rfl) dX4_seek_2 (fun H locs hP hD hS => ?_)
  have hP : va_P (dC, dI) vwCl [(mo, .inr (4, [.null, .long ct, .long yr, .long dy, .long lg]))] H := hP
  have hD : va_D A [(mo, .inr (4, [.null, .long ct, .long yr, .long dy, .long lg]))] := hD
  refine lv_aload_n hx hb dX4_seek_5 rfl (lv_at hl 0 rfl) ?_
  refine lv_lload_n hx hb dX4_seek_6 rfl (lv_at hl 2 rfl) ?_
  refine va_put (D := (dC, dI)) (ci := 4) (v := .long a0) (ty := tyX4 1) (C := RX4) (T := TX4) (N := 5) hx hb htw inlX4 tyX4 tyX4_ok nmX4 hown hK hP hD hS 0 rfl rfl 1 (by decide) (htw _ (ck_38 _ (List.mem_of_getElem? (i := 21) rfl))) (fun _ h9 => h9) rfl (by decide +kernel) rfl rfl (Nat.le_of_ble_eq_true rfl) dX4_seek_7 (fun H locs hP hD hS => ?_)
  have hP : va_P (dC, dI) vwCl [(mo, .inr (4, [.null, .long a0, .long yr, .long dy, .long lg]))] H := hP
  have hD : va_D A [(mo, .inr (4, [.null, .long a0, .long yr, .long dy, .long lg]))] := hD
  refine lv_aload_n hx hb dX4_seek_10 rfl (lv_at hl 0 rfl) ?_
  refine lv_aload_nN hx hb dX4_seek_11 rfl (lv_at hl 1 rfl) ?_
  refine lv_ifnonnullN hx hb dX4_seek_12 ?_
  refine lv_lconst (v := 0) hx hb dX4_seek_15 (by decide) ?_
  refine lv_goto (tgt := 24) hx hb dX4_seek_16 (by decide) ?_
  refine va_put (D := (dC, dI)) (ci := 4) (v := .long 0) (ty := tyX4 2) (C := RX4) (T := TX4) (N := 5) hx hb htw inlX4 tyX4 tyX4_ok nmX4 hown hK hP hD hS 0 rfl rfl 2 (by decide) (htw _ (ck_38 _ (List.mem_of_getElem? (i := 22) rfl))) (fun _ h9 => h9) rfl (by decide +kernel) rfl rfl (Nat.le_of_ble_eq_true rfl) dX4_seek_24 (fun H locs hP hD hS => ?_)
  have hP : va_P (dC, dI) vwCl [(mo, .inr (4, [.null, .long a0, .long 0, .long dy, .long lg]))] H := hP
  have hD : va_D A [(mo, .inr (4, [.null, .long a0, .long 0, .long dy, .long lg]))] := hD
  refine lv_aload_n hx hb dX4_seek_27 rfl (lv_at hl 0 rfl) ?_
  refine lv_lconst (v := 0) hx hb dX4_seek_28 (by decide) ?_
  refine va_put (D := (dC, dI)) (ci := 4) (v := .long 0) (ty := tyX4 3) (C := RX4) (T := TX4) (N := 5) hx hb htw inlX4 tyX4 tyX4_ok nmX4 hown hK hP hD hS 0 rfl rfl 3 (by decide) (htw _ (ck_38 _ (List.mem_of_getElem? (i := 23) rfl))) (fun _ h9 => h9) rfl (by decide +kernel) rfl rfl (Nat.le_of_ble_eq_true rfl) dX4_seek_29 (fun H locs hP hD hS => ?_)
  have hP : va_P (dC, dI) vwCl [(mo, .inr (4, [.null, .long a0, .long 0, .long 0, .long lg]))] H := hP
  have hD : va_D A [(mo, .inr (4, [.null, .long a0, .long 0, .long 0, .long lg]))] := hD
  refine lv_aload_n hx hb dX4_seek_32 rfl (lv_at hl 0 rfl) ?_
  refine lv_lconst (v := 0) hx hb dX4_seek_33 (by decide) ?_
  refine va_put (D := (dC, dI)) (ci := 4) (v := .long 0) (ty := tyX4 4) (C := RX4) (T := TX4) (N := 5) hx hb htw inlX4 tyX4 tyX4_ok nmX4 hown hK hP hD hS 0 rfl rfl 4 (by decide) (htw _ (ck_39 _ (List.mem_of_getElem? (i := 0) rfl))) (fun _ h9 => h9) rfl (by decide +kernel) rfl rfl (Nat.le_of_ble_eq_true rfl) dX4_seek_34 (fun H locs hP hD hS => ?_)
  have hP : va_P (dC, dI) vwCl [(mo, .inr (4, [.null, .long a0, .long 0, .long 0, .long 0]))] H := hP
  have hD : va_D A [(mo, .inr (4, [.null, .long a0, .long 0, .long 0, .long 0]))] := hD
  refine lv_aload_nN hx hb dX4_seek_37 rfl (lv_at hl 1 rfl) ?_
  refine lv_ifnullN (tgt := 78) hx hb dX4_seek_38 (by decide) ?_
  refine W.widen (k := 0) (n := 0) (by omega) (by omega) ?_
  have hP9 := hP.sub (ws' := [(mo, .inr (4, [.null, .long a0, .long 0, .long 0, .long 0]))]) [0] rfl
  have hD9 := hD.sub (ws' := [(mo, .inr (4, [.null, .long a0, .long 0, .long 0, .long 0]))]) [0] (by decide) rfl
  have hK9 := hK.sub (tys' := []) [] rfl
  exact W.vret hx hb hr (fun t ht hW => ⟨⟨(a0, 0, 0, 0), rfl, (rfl), by rw [ht]; exact hP9, va_K.moved hW.alike hK9, hD9⟩, hS.F ht⟩) hS.2.2 dX4_seek_78

def fm_step0 (ct : Int64) (yr : Int64) (dy : Int64) (lg : Int64) : (Int64) := (ct + 1)
theorem dX4_step_17 : decode cX4_step 17 = .ok (.return_, 1) := by decide +kernel
set_option maxHeartbeats 4000000 in
set_option maxRecDepth 100000 in
theorem gm_step0 (l : Launch) (dC : Nat → ClassId) (dI : Nat → Nat → Nat) (mo : Nat) (ct : Int64) (yr : Int64) (dy : Int64) (lg : Int64) (sz : Nat) : Met l yX4_step (Cond.code yX4_step cX4_step 1 none :: wsL_law) ({ frames := 0, cells := 0, slots := 0, locals := 0 }) (va_Pc [.ref mo] (fun U => U.heap.size = sz ∧ va_P (dC, dI) vwCl [(mo, .inr (4, [.null, .long ct, .long yr, .long dy, .long lg]))] U.heap ∧ va_K (dC, dI) vwCl [] U ∧ va_D (fun _ => True) [(mo, .inr (4, [.null, .long ct, .long yr, .long dy, .long lg]))])) (va_Qv (fun (u : (Int64)) => u = fm_step0 ct yr dy lg) (fun (u : (Int64)) t => va_P (dC, dI) vwCl [(mo, .inr (4, [.null, .long u, .long yr, .long dy, .long lg]))] t.heap ∧ va_K (dC, dI) vwCl [] t ∧ va_D (va_A [(mo, .inr (4, [.null, .long ct, .long yr, .long dy, .long lg]))] sz) [(mo, .inr (4, [.null, .long u, .long yr, .long dy, .long lg]))]) (va_A [(mo, .inr (4, [.null, .long ct, .long yr, .long dy, .long lg]))] sz)) 0 0 (va_A [(mo, .inr (4, [.null, .long ct, .long yr, .long dy, .long lg]))] sz) := by
  refine Met.ofW (cc := cX4_step) (maxL := 1) (ret := none) (by decide) rfl ?_
  intro p e s m args below meth c s₁ B hml hv
  obtain ⟨rfl, hsz, hP, hK, hD0⟩ := hv
  have hx := B.exec
  have hb := B.bytes
  have hr := B.returns
  have hts := atoms_spec (ws := Cond.code yX4_step cX4_step 1 none :: wsL_law) B.pre
  have htw : ∀ w ∈ wsL_law, w.before _ s = true := fun w h => hts w (List.mem_cons_of_mem _ h)
  have hown : s.vm.findClass RX4 = some m.cls := findClass_of_methodNamed B.named
  have hlocks := B.notSynchronized
  subst hsz
  have hD := hD0.self (sz := s.heap.size)
  generalize hAe : va_A [(mo, .inr (4, [.null, .long ct, .long yr, .long dy, .long lg]))] s.heap.size = A at hD ⊢
  have hA : ∀ q : Nat, s.heap.size ≤ q → A q := fun q h => by rw [← hAe]; exact Or.inr h
  obtain ⟨H, rH⟩ : ∃ z : Heap, z = s.heap := ⟨_, rfl⟩
  have hS : va_S A s.heap H [] := by rw [rH]; exact va_S.rf
  have hP : va_P (dC, dI) vwCl [(mo, .inr (4, [.null, .long ct, .long yr, .long dy, .long lg]))] H := by rw [rH]; exact hP
  rw [← rH]
  have hl := lv_entry ([.ref mo]) (n := 1) (Nat.le_of_ble_eq_true rfl)
  rw [lg_entry_eq]
  generalize (lg_sl ([.ref mo]) ++ List.replicate (1 - (lg_sl ([.ref mo])).length) Slot.unset).toArray = ls at hl ⊢
  have hl : lv_has ls 1 [(0, .ref mo)] := hl
  refine lv_aload_n hx hb dX4_step_0 rfl (lv_at hl 0 rfl) ?_
  refine lv_dup hx hb dX4_step_1 rfl ?_
  refine va_get (D := (dC, dI)) (ci := 4) (v := .long ct) (C := RX4) (T := TX4) (N := 5) hx hb htw inlX4 hown hK hP 0 rfl rfl 1 (by decide) (htw _ (ck_38 _ (List.mem_of_getElem? (i := 21) rfl))) (fun _ h9 => h9) rfl dX4_step_2 ?_
  refine lv_lconst (v := 1) hx hb dX4_step_5 (by decide) ?_
  refine lv_ladd hx hb dX4_step_6 ?_
  refine va_put (D := (dC, dI)) (ci := 4) (v := .long (ct + 1)) (ty := tyX4 1) (C := RX4) (T := TX4) (N := 5) hx hb htw inlX4 tyX4 tyX4_ok nmX4 hown hK hP hD hS 0 rfl rfl 1 (by decide) (htw _ (ck_38 _ (List.mem_of_getElem? (i := 21) rfl))) (fun _ h9 => h9) rfl (by decide +kernel) rfl rfl (Nat.le_of_ble_eq_true rfl) dX4_step_7 (fun H locs hP hD hS => ?_)
  have hP : va_P (dC, dI) vwCl [(mo, .inr (4, [.null, .long (ct + 1), .long yr, .long dy, .long lg]))] H := hP
  have hD : va_D A [(mo, .inr (4, [.null, .long (ct + 1), .long yr, .long dy, .long lg]))] := hD
  refine lv_aload_n hx hb dX4_step_10 rfl (lv_at hl 0 rfl) ?_
  refine va_get (D := (dC, dI)) (ci := 4) (v := .null) (C := RX4) (T := TX4) (N := 5) hx hb htw inlX4 hown hK hP 0 rfl rfl 0 (by decide) (htw _ (ck_38 _ (List.mem_of_getElem? (i := 20) rfl))) (fun _ h9 => h9) rfl dX4_step_11 ?_
  refine lv_ifnonnullN hx hb dX4_step_14 ?_
  refine W.widen (k := 0) (n := 0) (by omega) (by omega) ?_
  have hP9 := hP.sub (ws' := [(mo, .inr (4, [.null, .long (ct + 1), .long yr, .long dy, .long lg]))]) [0] rfl
  have hD9 := hD.sub (ws' := [(mo, .inr (4, [.null, .long (ct + 1), .long yr, .long dy, .long lg]))]) [0] (by decide) rfl
  have hK9 := hK.sub (tys' := []) [] rfl
  exact W.vret hx hb hr (fun t ht hW => ⟨⟨(ct + 1), rfl, (rfl), by rw [ht]; exact hP9, va_K.moved hW.alike hK9, hD9⟩, hS.F ht⟩) hS.2.2 dX4_step_17
