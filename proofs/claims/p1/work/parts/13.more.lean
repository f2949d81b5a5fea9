theorem dX11_round_0 : decode cX11_round 0 = .ok (.lload_n 1, 1) := by decide +kernel
theorem dX11_round_1 : decode cX11_round 1 = .ok (.invokestatic 149, 3) := by decide +kernel
theorem dX11_round_4 : decode cX11_round 4 = .ok (.ifCond .ne 5, 3) := by decide +kernel
theorem dX11_round_9 : decode cX11_round 9 = .ok (.iload_n 3, 1) := by decide +kernel
theorem dX11_round_10 : decode cX11_round 10 = .ok (.tableswitch 62 0 2 #[26, 38, 50], 26) := by decide +kernel
theorem dX11_round_36 : decode cX11_round 36 = .ok (.aload_n 0, 1) := by decide +kernel
theorem dX11_round_37 : decode cX11_round 37 = .ok (.getfield 19, 3) := by decide +kernel
theorem dX11_round_40 : decode cX11_round 40 = .ok (.getfield 162, 3) := by decide +kernel
theorem dX11_round_43 : decode cX11_round 43 = .ok (.lload_n 1, 1) := by decide +kernel
theorem dX11_round_44 : decode cX11_round 44 = .ok (.invokevirtual 166, 3) := by decide +kernel
theorem dX11_round_47 : decode cX11_round 47 = .ok (.ireturn, 1) := by decide +kernel
theorem dX11_round_48 : decode cX11_round 48 = .ok (.aload_n 0, 1) := by decide +kernel
theorem dX11_round_49 : decode cX11_round 49 = .ok (.getfield 19, 3) := by decide +kernel
theorem dX11_round_52 : decode cX11_round 52 = .ok (.getfield 162, 3) := by decide +kernel
theorem dX11_round_55 : decode cX11_round 55 = .ok (.lload_n 1, 1) := by decide +kernel
theorem dX11_round_56 : decode cX11_round 56 = .ok (.invokevirtual 172, 3) := by decide +kernel
theorem dX11_round_59 : decode cX11_round 59 = .ok (.ireturn, 1) := by decide +kernel
theorem dX11_round_60 : decode cX11_round 60 = .ok (.aload_n 0, 1) := by decide +kernel
theorem dX11_round_61 : decode cX11_round 61 = .ok (.getfield 19, 3) := by decide +kernel
theorem dX11_round_64 : decode cX11_round 64 = .ok (.getfield 162, 3) := by decide +kernel
theorem dX11_round_67 : decode cX11_round 67 = .ok (.lload_n 1, 1) := by decide +kernel
theorem dX11_round_68 : decode cX11_round 68 = .ok (.invokevirtual 175, 3) := by decide +kernel
theorem dX11_round_71 : decode cX11_round 71 = .ok (.ireturn, 1) := by decide +kernel
theorem dX11_round_72 : decode cX11_round 72 = .ok (.iconst (-1), 1) := by decide +kernel
theorem dX11_round_73 : decode cX11_round 73 = .ok (.ireturn, 1) := by decide +kernel
theorem dX11_round_7 : decode cX11_round 7 = .ok (.iconst (-1), 1) := by decide +kernel
theorem dX11_round_8 : decode cX11_round 8 = .ok (.ireturn, 1) := by decide +kernel
set_option maxHeartbeats 4000000 in
set_option maxRecDepth 100000 in
theorem mx_round (l : Launch) (dC : Nat → ClassId) (dI : Nat → Nat → Nat) (x : Nat) (xpa : Nat) (xsp : Nat) (xdy : Nat) (xle : Nat) (xst : Nat) (xim : Nat) (xil : Nat) (xmo : Nat) (xom : Nat) (xwi : Nat) (b : Nat) (bto : Nat) (bnm : Nat) (bla : Nat) (bsk : Nat) (bru : Nat) (bbo : Nat) (bdi : Nat) (bda : Nat) (bdk : Nat) (bdt : Nat) (bdp : Nat) (bno : Nat) (a0 : Int64) (a1 : Int32) : Met l yX11_round (Cond.code yX11_round cX11_round 4 (some .int) :: wsL_law) ({ frames := 1, cells := 0, slots := 0, locals := 22 }) (va_Pc [.ref x, .long a0, .int a1] (fun U => va_P (dC, dI) vwCl [(x, .inr (11, [.ref xpa, .ref b, .ref xsp, .ref xdy, .ref xle, .ref xst, .int 0, .ref xim, .ref xil, .int 0, .ref xmo, .ref xom, .ref xwi])), (b, .inr (0, [.ref bto, .ref bnm, .ref bla, .ref bsk, .ref bru, .ref bbo, .ref bdi, .ref bda, .ref bdk, .ref bdt, .ref bdp, .ref bno])), (bsk, .inr (9, [.int 7, .int 0, .int 59, .int 2, .int 0, .int 1461, .int 4]))] U.heap ∧ va_K (dC, dI) vwCl [] U)) (vp_Si (fun r => r = xr_round a0 a1)) 0 0 (fun _ => False) := by
  refine Met.ofW (cc := cX11_round) (maxL := 4) (ret := (some .int)) (by decide) rfl ?_
  intro p e s m args below meth c s₁ B hml hv
  obtain ⟨rfl, hP, hK⟩ := hv
  have hx := B.exec
  have hb := B.bytes
  have hr := B.returns
  have hts := atoms_spec (ws := Cond.code yX11_round cX11_round 4 (some .int) :: wsL_law) B.pre
  have htw : ∀ w ∈ wsL_law, w.before _ s = true := fun w h => hts w (List.mem_cons_of_mem _ h)
  have hown : s.vm.findClass RX11 = some m.cls := findClass_of_methodNamed B.named
  have hlocks := B.notSynchronized
  have hl := lv_entry ([.ref x, .long a0, .int a1]) (n := 4) (Nat.le_of_ble_eq_true rfl)
  rw [lg_entry_eq]
  generalize (lg_sl ([.ref x, .long a0, .int a1]) ++ List.replicate (4 - (lg_sl ([.ref x, .long a0, .int a1])).length) Slot.unset).toArray = ls at hl ⊢
  have hl : lv_has ls 4 [(0, .ref x), (1, .long a0), (3, .int a1)] := hl
  refine lv_lload_n hx hb dX11_round_0 rfl (lv_at hl 1 rfl) ?_
  have hPc := hP.sub (ws' := []) [] rfl
  have hKc := hK.sub (tys' := []) [] rfl
  refine vp_callSi (W.runS (As := [.long a0]) (rest := []) ⟨hx, hb, hml, hown, htw⟩ (mt_isCount l dC dI a0) (va_cwS 1 htw (xg_S (ck_35 _ (List.mem_of_getElem? (i := 15) rfl)) (ck_35 _ (List.mem_of_getElem? (i := 16) rfl)) (ck_1 _ (List.mem_of_getElem? (i := 2) rfl)) (ck_35 _ (List.mem_of_getElem? (i := 17) rfl))) rfl rfl rfl (by decide +kernel) ⟨Nat.le_of_ble_eq_true rfl, Nat.le_of_ble_eq_true rfl⟩) ⟨fun a U g mk q => by obtain ⟨q0, qP, qK⟩ := q; exact ⟨q0, qP, va_K.moved (u := U) (U := U.calling g mk a) (Vm.Alike.refl U.vm) qK⟩, fun U hU hW => ⟨rfl, by rw [hU]; exact hPc, va_K.moved hW.alike hKc⟩⟩ rfl rfl hl.1 rfl (lv_room (Nat.le_of_ble_eq_true rfl)) dX11_round_1 ⟨Nat.le_of_ble_eq_true rfl, Nat.le_of_ble_eq_true rfl⟩) (fun r_1 hw => ?_)
  try dsimp only at hw
  have hw_r_1 : r_1 = xg_cnt a0 := hw
  refine lv_if_ne (tgt := 9) hx hb dX11_round_4 (by decide) (fun c_2 => ?_) (fun c_2 => ?_)
  · refine lv_iload_n hx hb dX11_round_9 rfl (lv_at hl 2 rfl) ?_
    by_cases h_3 : a1 = 0
    · subst h_3
      refine lv_tableIn (off := 26) (tgt := 36) hx hb dX11_round_10 (by decide) (by decide) (by decide) (by decide) ?_
      refine lv_aload_n hx hb dX11_round_36 rfl (lv_at hl 0 rfl) ?_
      refine va_get (D := (dC, dI)) (ci := 11) (v := .ref b) (C := RX11) (T := TX11) (N := 13) hx hb htw inlX11 hown hK hP 0 rfl rfl 1 (by decide) (htw _ (ck_1 _ (List.mem_of_getElem? (i := 21) rfl))) (fun _ h9 => h9) rfl dX11_round_37 ?_
      refine va_get (D := (dC, dI)) (ci := 0) (v := .ref bsk) (C := RX0) (T := TX0) (N := 12) hx hb htw inlX0 hown hK hP 1 rfl rfl 3 (by decide) (htw _ (ck_37 _ (List.mem_of_getElem? (i := 13) rfl))) (fun _ h9 => h9) rfl dX11_round_40 ?_
      refine lv_lload_n hx hb dX11_round_43 rfl (lv_at hl 1 rfl) ?_
      have hPc := hP.sub (ws' := [(bsk, .inr (9, [.int 7, .int 0, .int 59, .int 2, .int 0, .int 1461, .int 4]))]) [2] rfl
      have hKc := hK.sub (tys' := []) [] rfl
      refine vp_callSi (W.runV (As := [.long a0]) (rest := []) ⟨hx, hb, hml, hown, htw⟩ (mt_week l dC dI bsk a0) (cwV 1 htw (xg_V (ck_37 _ (List.mem_of_getElem? (i := 14) rfl)) (ck_37 _ (List.mem_of_getElem? (i := 15) rfl)) (ck_37 _ (List.mem_of_getElem? (i := 16) rfl)) (ck_6 _ (List.mem_of_getElem? (i := 4) rfl)) (ck_37 _ (List.mem_of_getElem? (i := 17) rfl))) rfl rfl rfl (by decide +kernel) ⟨Nat.le_of_ble_eq_true rfl, Nat.le_of_ble_eq_true rfl⟩) ⟨fun a U g mk q => by obtain ⟨q0, qP, qK⟩ := q; exact ⟨q0, qP, va_K.moved (u := U) (U := U.calling g mk a) (Vm.Alike.refl U.vm) qK⟩, va_recv hKc hPc (ci := 9) (q0 := 0) rfl rfl, fun U hU hW => ⟨rfl, by rw [hU]; exact hPc, va_K.moved hW.alike hKc⟩⟩ rfl rfl hl.1 rfl (lv_room (Nat.le_of_ble_eq_true rfl)) dX11_round_44 ⟨Nat.le_of_ble_eq_true rfl, Nat.le_of_ble_eq_true rfl⟩) (fun r_4 hw => ?_)
      try dsimp only at hw
      obtain rfl : r_4 = xr_week a0 := hw
      exact W.iret (v := xr_week a0) hx hb hr (fun t ht hW => ⟨xr_week a0, rfl, (by rw [xr_round, if_neg (fun h => c_2 (hw_r_1.trans h)), if_pos rfl]), ht⟩) (fun _ h => by cases h) dX11_round_47
    by_cases h_5 : a1 = 1
    · subst h_5
      refine lv_tableIn (off := 38) (tgt := 48) hx hb dX11_round_10 (by decide) (by decide) (by decide) (by decide) ?_
      refine lv_aload_n hx hb dX11_round_48 rfl (lv_at hl 0 rfl) ?_
      refine va_get (D := (dC, dI)) (ci := 11) (v := .ref b) (C := RX11) (T := TX11) (N := 13) hx hb htw inlX11 hown hK hP 0 rfl rfl 1 (by decide) (htw _ (ck_1 _ (List.mem_of_getElem? (i := 21) rfl))) (fun _ h9 => h9) rfl dX11_round_49 ?_
      refine va_get (D := (dC, dI)) (ci := 0) (v := .ref bsk) (C := RX0) (T := TX0) (N := 12) hx hb htw inlX0 hown hK hP 1 rfl rfl 3 (by decide) (htw _ (ck_37 _ (List.mem_of_getElem? (i := 13) rfl))) (fun _ h9 => h9) rfl dX11_round_52 ?_
      refine lv_lload_n hx hb dX11_round_55 rfl (lv_at hl 1 rfl) ?_
      have hPc := hP.sub (ws' := [(bsk, .inr (9, [.int 7, .int 0, .int 59, .int 2, .int 0, .int 1461, .int 4]))]) [2] rfl
      have hKc := hK.sub (tys' := []) [] rfl
      refine vp_callSi (W.runV (As := [.long a0]) (rest := []) ⟨hx, hb, hml, hown, htw⟩ (mt_moon l dC dI bsk a0) (cwV 1 htw (xg_V (ck_37 _ (List.mem_of_getElem? (i := 18) rfl)) (ck_37 _ (List.mem_of_getElem? (i := 19) rfl)) (ck_37 _ (List.mem_of_getElem? (i := 20) rfl)) (ck_6 _ (List.mem_of_getElem? (i := 4) rfl)) (ck_37 _ (List.mem_of_getElem? (i := 21) rfl))) rfl rfl rfl (by decide +kernel) ⟨Nat.le_of_ble_eq_true rfl, Nat.le_of_ble_eq_true rfl⟩) ⟨fun a U g mk q => by obtain ⟨q0, qP, qK⟩ := q; exact ⟨q0, qP, va_K.moved (u := U) (U := U.calling g mk a) (Vm.Alike.refl U.vm) qK⟩, va_recv hKc hPc (ci := 9) (q0 := 0) rfl rfl, fun U hU hW => ⟨rfl, by rw [hU]; exact hPc, va_K.moved hW.alike hKc⟩⟩ rfl rfl hl.1 rfl (lv_room (Nat.le_of_ble_eq_true rfl)) dX11_round_56 ⟨Nat.le_of_ble_eq_true rfl, Nat.le_of_ble_eq_true rfl⟩) (fun r_6 hw => ?_)
      try dsimp only at hw
      obtain rfl : r_6 = xr_moon a0 := hw
      exact W.iret (v := xr_moon a0) hx hb hr (fun t ht hW => ⟨xr_moon a0, rfl, (by rw [xr_round, if_neg (fun h => c_2 (hw_r_1.trans h)), if_neg (by decide), if_pos rfl]), ht⟩) (fun _ h => by cases h) dX11_round_59
    by_cases h_7 : a1 = 2
    · subst h_7
      refine lv_tableIn (off := 50) (tgt := 60) hx hb dX11_round_10 (by decide) (by decide) (by decide) (by decide) ?_
      refine lv_aload_n hx hb dX11_round_60 rfl (lv_at hl 0 rfl) ?_
      refine va_get (D := (dC, dI)) (ci := 11) (v := .ref b) (C := RX11) (T := TX11) (N := 13) hx hb htw inlX11 hown hK hP 0 rfl rfl 1 (by decide) (htw _ (ck_1 _ (List.mem_of_getElem? (i := 21) rfl))) (fun _ h9 => h9) rfl dX11_round_61 ?_
      refine va_get (D := (dC, dI)) (ci := 0) (v := .ref bsk) (C := RX0) (T := TX0) (N := 12) hx hb htw inlX0 hown hK hP 1 rfl rfl 3 (by decide) (htw _ (ck_37 _ (List.mem_of_getElem? (i := 13) rfl))) (fun _ h9 => h9) rfl dX11_round_64 ?_
      refine lv_lload_n hx hb dX11_round_67 rfl (lv_at hl 1 rfl) ?_
      have hPc := hP.sub (ws' := [(bsk, .inr (9, [.int 7, .int 0, .int 59, .int 2, .int 0, .int 1461, .int 4]))]) [2] rfl
      have hKc := hK.sub (tys' := []) [] rfl
      refine vp_callSi (W.runV (As := [.long a0]) (rest := []) ⟨hx, hb, hml, hown, htw⟩ (mt_season l dC dI bsk a0) (cwV 1 htw (xg_V (ck_37 _ (List.mem_of_getElem? (i := 23) rfl)) (ck_38 _ (List.mem_of_getElem? (i := 0) rfl)) (ck_38 _ (List.mem_of_getElem? (i := 1) rfl)) (ck_6 _ (List.mem_of_getElem? (i := 4) rfl)) (ck_38 _ (List.mem_of_getElem? (i := 2) rfl))) rfl rfl rfl (by decide +kernel) ⟨Nat.le_of_ble_eq_true rfl, Nat.le_of_ble_eq_true rfl⟩) ⟨fun a U g mk q => by obtain ⟨q0, qP, qK⟩ := q; exact ⟨q0, qP, va_K.moved (u := U) (U := U.calling g mk a) (Vm.Alike.refl U.vm) qK⟩, va_recv hKc hPc (ci := 9) (q0 := 0) rfl rfl, fun U hU hW => ⟨rfl, by rw [hU]; exact hPc, va_K.moved hW.alike hKc⟩⟩ rfl rfl hl.1 rfl (lv_room (Nat.le_of_ble_eq_true rfl)) dX11_round_68 ⟨Nat.le_of_ble_eq_true rfl, Nat.le_of_ble_eq_true rfl⟩) (fun r_8 hw => ?_)
      try dsimp only at hw
      obtain rfl : r_8 = xr_season a0 := hw
      exact W.iret (v := xr_season a0) hx hb hr (fun t ht hW => ⟨xr_season a0, rfl, (by rw [xr_round, if_neg (fun h => c_2 (hw_r_1.trans h)), if_neg (by decide), if_neg (by decide), if_pos rfl]), ht⟩) (fun _ h => by cases h) dX11_round_71
    refine lv_tableOut (tgt := 72) hx hb dX11_round_10 (by have a0 := xg_ne h_3; have a1 := xg_ne h_5; have a2 := xg_ne h_7; have b0 : (0 : Int32).toInt = 0 := rfl; have b1 : (1 : Int32).toInt = 1 := rfl; have b2 : (2 : Int32).toInt = 2 := rfl; omega) (by decide) ?_
    refine lv_iconst (v := (-1)) hx hb dX11_round_72 (by decide) ?_
    exact W.iret (v := (-1)) hx hb hr (fun t ht hW => ⟨(-1), rfl, (by rw [xr_round, if_neg (fun h => c_2 (hw_r_1.trans h)), if_neg h_3, if_neg h_5, if_neg h_7]), ht⟩) (fun _ h => by cases h) dX11_round_73
  · refine lv_iconst (v := (-1)) hx hb dX11_round_7 (by decide) ?_
    exact W.iret (v := (-1)) hx hb hr (fun t ht hW => ⟨(-1), rfl, (by rw [xr_round, if_pos (hw_r_1.symm.trans c_2)]), ht⟩) (fun _ h => by cases h) dX11_round_8

theorem dX11_size_0 : decode cX11_size 0 = .ok (.iload_n 1, 1) := by decide +kernel
theorem dX11_size_1 : decode cX11_size 1 = .ok (.tableswitch 107 0 8 #[51, 51, 51, 51, 61, 72, 83, 94, 102], 51) := by decide +kernel
theorem dX11_size_52 : decode cX11_size 52 = .ok (.aload_n 0, 1) := by decide +kernel
theorem dX11_size_53 : decode cX11_size 53 = .ok (.getfield 19, 3) := by decide +kernel
theorem dX11_size_56 : decode cX11_size 56 = .ok (.getfield 363, 3) := by decide +kernel
theorem dX11_size_59 : decode cX11_size 59 = .ok (.iload_n 1, 1) := by decide +kernel
theorem dX11_size_60 : decode cX11_size 60 = .ok (.iaload, 1) := by decide +kernel
theorem dX11_size_61 : decode cX11_size 61 = .ok (.ireturn, 1) := by decide +kernel
theorem dX11_size_62 : decode cX11_size 62 = .ok (.aload_n 0, 1) := by decide +kernel
theorem dX11_size_63 : decode cX11_size 63 = .ok (.getfield 19, 3) := by decide +kernel
theorem dX11_size_66 : decode cX11_size 66 = .ok (.getfield 290, 3) := by decide +kernel
theorem dX11_size_69 : decode cX11_size 69 = .ok (.getfield 293, 3) := by decide +kernel
theorem dX11_size_72 : decode cX11_size 72 = .ok (.ireturn, 1) := by decide +kernel
theorem dX11_size_73 : decode cX11_size 73 = .ok (.aload_n 0, 1) := by decide +kernel
theorem dX11_size_74 : decode cX11_size 74 = .ok (.getfield 19, 3) := by decide +kernel
theorem dX11_size_77 : decode cX11_size 77 = .ok (.getfield 186, 3) := by decide +kernel
theorem dX11_size_80 : decode cX11_size 80 = .ok (.getfield 366, 3) := by decide +kernel
theorem dX11_size_83 : decode cX11_size 83 = .ok (.ireturn, 1) := by decide +kernel
theorem dX11_size_84 : decode cX11_size 84 = .ok (.aload_n 0, 1) := by decide +kernel
theorem dX11_size_85 : decode cX11_size 85 = .ok (.getfield 19, 3) := by decide +kernel
theorem dX11_size_88 : decode cX11_size 88 = .ok (.getfield 162, 3) := by decide +kernel
theorem dX11_size_91 : decode cX11_size 91 = .ok (.getfield 250, 3) := by decide +kernel
theorem dX11_size_94 : decode cX11_size 94 = .ok (.ireturn, 1) := by decide +kernel
theorem dX11_size_95 : decode cX11_size 95 = .ok (.aload_n 0, 1) := by decide +kernel
theorem dX11_size_96 : decode cX11_size 96 = .ok (.getfield 36, 3) := by decide +kernel
theorem dX11_size_99 : decode cX11_size 99 = .ok (.getfield 95, 3) := by decide +kernel
theorem dX11_size_102 : decode cX11_size 102 = .ok (.ireturn, 1) := by decide +kernel
theorem dX11_size_103 : decode cX11_size 103 = .ok (.aload_n 0, 1) := by decide +kernel
theorem dX11_size_104 : decode cX11_size 104 = .ok (.getfield 92, 3) := by decide +kernel
theorem dX11_size_107 : decode cX11_size 107 = .ok (.ireturn, 1) := by decide +kernel
theorem dX11_size_108 : decode cX11_size 108 = .ok (.iconst (-1), 1) := by decide +kernel
theorem dX11_size_109 : decode cX11_size 109 = .ok (.ireturn, 1) := by decide +kernel
set_option maxHeartbeats 4000000 in
set_option maxRecDepth 100000 in
theorem mx_size (l : Launch) (dC : Nat → ClassId) (dI : Nat → Nat → Nat) (x : Nat) (xpa : Nat) (xsp : Nat) (xdy : Nat) (xle : Nat) (xst : Nat) (xim : Nat) (xil : Nat) (xmo : Nat) (xom : Nat) (xwi : Nat) (b : Nat) (bto : Nat) (bnm : Nat) (bla : Nat) (bsk : Nat) (bru : Nat) (bbo : Nat) (bdi : Nat) (bda : Nat) (bdk : Nat) (bdt : Nat) (bdp : Nat) (bno : Nat) (bcT : ClassId) (bruc : Nat) (brue : Nat) (bruk : Nat) (bnos : Nat) (bnof : Nat) (bnoz : Nat) (xlen : Nat) (xlec : Nat) (a0 : Int32) : Met l yX11_size (Cond.code yX11_size cX11_size 2 (some .int) :: wsL_law) ({ frames := 0, cells := 0, slots := 0, locals := 0 }) (va_Pc [.ref x, .int a0] (fun U => va_P (dC, dI) vwCl [(x, .inr (11, [.ref xpa, .ref b, .ref xsp, .ref xdy, .ref xle, .ref xst, .int 0, .ref xim, .ref xil, .int 0, .ref xmo, .ref xom, .ref xwi])), (b, .inr (0, [.ref bto, .ref bnm, .ref bla, .ref bsk, .ref bru, .ref bbo, .ref bdi, .ref bda, .ref bdk, .ref bdt, .ref bdp, .ref bno])), (bto, .inl (bcT, 5, .inl (fun _ => 0))), (bsk, .inr (9, [.int 7, .int 0, .int 59, .int 2, .int 0, .int 1461, .int 4])), (bru, .inr (8, [.ref bruc, .int 0, .ref brue, .ref bruk, .int 0])), (bno, .inr (6, [.int 0, .ref bnos, .ref bnof, .ref bnoz])), (xle, .inr (2, [.int 0, .ref xlen, .ref xlec]))] U.heap ∧ va_K (dC, dI) vwCl [(bcT, .int)] U)) (vp_Si (fun r => r = xr_size a0)) 0 0 (fun _ => False) := by
  refine Met.ofW (cc := cX11_size) (maxL := 2) (ret := (some .int)) (by decide) rfl ?_
  intro p e s m args below meth c s₁ B hml hv
  obtain ⟨rfl, hP, hK⟩ := hv
  have hx := B.exec
  have hb := B.bytes
  have hr := B.returns
  have hts := atoms_spec (ws := Cond.code yX11_size cX11_size 2 (some .int) :: wsL_law) B.pre
  have htw : ∀ w ∈ wsL_law, w.before _ s = true := fun w h => hts w (List.mem_cons_of_mem _ h)
  have hown : s.vm.findClass RX11 = some m.cls := findClass_of_methodNamed B.named
  have hlocks := B.notSynchronized
  have hl := lv_entry ([.ref x, .int a0]) (n := 2) (Nat.le_of_ble_eq_true rfl)
  rw [lg_entry_eq]
  generalize (lg_sl ([.ref x, .int a0]) ++ List.replicate (2 - (lg_sl ([.ref x, .int a0])).length) Slot.unset).toArray = ls at hl ⊢
  have hl : lv_has ls 2 [(0, .ref x), (1, .int a0)] := hl
  refine lv_iload_n hx hb dX11_size_0 rfl (lv_at hl 1 rfl) ?_
  by_cases h_1 : a0 = 0
  · subst h_1
    refine lv_tableIn (off := 51) (tgt := 52) hx hb dX11_size_1 (by decide) (by decide) (by decide) (by decide) ?_
    refine lv_aload_n hx hb dX11_size_52 rfl (lv_at hl 0 rfl) ?_
    refine va_get (D := (dC, dI)) (ci := 11) (v := .ref b) (C := RX11) (T := TX11) (N := 13) hx hb htw inlX11 hown hK hP 0 rfl rfl 1 (by decide) (htw _ (ck_1 _ (List.mem_of_getElem? (i := 21) rfl))) (fun _ h9 => h9) rfl dX11_size_53 ?_
    refine va_get (D := (dC, dI)) (ci := 0) (v := .ref bto) (C := RX0) (T := TX0) (N := 12) hx hb htw inlX0 hown hK hP 1 rfl rfl 0 (by decide) (htw _ (ck_66 _ (List.mem_of_getElem? (i := 10) rfl))) (fun _ h9 => h9) rfl dX11_size_56 ?_
    refine lv_iload_n hx hb dX11_size_59 rfl (lv_at hl 1 rfl) ?_
    refine va_iald hx hb hK hP 2 0 rfl rfl (by unfold vp_in; decide) dX11_size_60 ?_
    refine lv_topi (fun z_2 ez_2 => ?_)
    obtain rfl : z_2 = 0 := ez_2.trans (rfl)
    exact W.iret (v := 0) hx hb hr (fun t ht hW => ⟨0, rfl, (by decide), ht⟩) (fun _ h => by cases h) dX11_size_61
  by_cases h_3 : a0 = 1
  · subst h_3
    refine lv_tableIn (off := 51) (tgt := 52) hx hb dX11_size_1 (by decide) (by decide) (by decide) (by decide) ?_
    refine lv_aload_n hx hb dX11_size_52 rfl (lv_at hl 0 rfl) ?_
    refine va_get (D := (dC, dI)) (ci := 11) (v := .ref b) (C := RX11) (T := TX11) (N := 13) hx hb htw inlX11 hown hK hP 0 rfl rfl 1 (by decide) (htw _ (ck_1 _ (List.mem_of_getElem? (i := 21) rfl))) (fun _ h9 => h9) rfl dX11_size_53 ?_
    refine va_get (D := (dC, dI)) (ci := 0) (v := .ref bto) (C := RX0) (T := TX0) (N := 12) hx hb htw inlX0 hown hK hP 1 rfl rfl 0 (by decide) (htw _ (ck_66 _ (List.mem_of_getElem? (i := 10) rfl))) (fun _ h9 => h9) rfl dX11_size_56 ?_
    refine lv_iload_n hx hb dX11_size_59 rfl (lv_at hl 1 rfl) ?_
    refine va_iald hx hb hK hP 2 0 rfl rfl (by unfold vp_in; decide) dX11_size_60 ?_
    refine lv_topi (fun z_4 ez_4 => ?_)
    obtain rfl : z_4 = 0 := ez_4.trans (rfl)
    exact W.iret (v := 0) hx hb hr (fun t ht hW => ⟨0, rfl, (by decide), ht⟩) (fun _ h => by cases h) dX11_size_61
  by_cases h_5 : a0 = 2
  · subst h_5
    refine lv_tableIn (off := 51) (tgt := 52) hx hb dX11_size_1 (by decide) (by decide) (by decide) (by decide) ?_
    refine lv_aload_n hx hb dX11_size_52 rfl (lv_at hl 0 rfl) ?_
    refine va_get (D := (dC, dI)) (ci := 11) (v := .ref b) (C := RX11) (T := TX11) (N := 13) hx hb htw inlX11 hown hK hP 0 rfl rfl 1 (by decide) (htw _ (ck_1 _ (List.mem_of_getElem? (i := 21) rfl))) (fun _ h9 => h9) rfl dX11_size_53 ?_
    refine va_get (D := (dC, dI)) (ci := 0) (v := .ref bto) (C := RX0) (T := TX0) (N := 12) hx hb htw inlX0 hown hK hP 1 rfl rfl 0 (by decide) (htw _ (ck_66 _ (List.mem_of_getElem? (i := 10) rfl))) (fun _ h9 => h9) rfl dX11_size_56 ?_
    refine lv_iload_n hx hb dX11_size_59 rfl (lv_at hl 1 rfl) ?_
    refine va_iald hx hb hK hP 2 0 rfl rfl (by unfold vp_in; decide) dX11_size_60 ?_
    refine lv_topi (fun z_6 ez_6 => ?_)
    obtain rfl : z_6 = 0 := ez_6.trans (rfl)
    exact W.iret (v := 0) hx hb hr (fun t ht hW => ⟨0, rfl, (by decide), ht⟩) (fun _ h => by cases h) dX11_size_61
  by_cases h_7 : a0 = 3
  · subst h_7
    refine lv_tableIn (off := 51) (tgt := 52) hx hb dX11_size_1 (by decide) (by decide) (by decide) (by decide) ?_
    refine lv_aload_n hx hb dX11_size_52 rfl (lv_at hl 0 rfl) ?_
    refine va_get (D := (dC, dI)) (ci := 11) (v := .ref b) (C := RX11) (T := TX11) (N := 13) hx hb htw inlX11 hown hK hP 0 rfl rfl 1 (by decide) (htw _ (ck_1 _ (List.mem_of_getElem? (i := 21) rfl))) (fun _ h9 => h9) rfl dX11_size_53 ?_
    refine va_get (D := (dC, dI)) (ci := 0) (v := .ref bto) (C := RX0) (T := TX0) (N := 12) hx hb htw inlX0 hown hK hP 1 rfl rfl 0 (by decide) (htw _ (ck_66 _ (List.mem_of_getElem? (i := 10) rfl))) (fun _ h9 => h9) rfl dX11_size_56 ?_
    refine lv_iload_n hx hb dX11_size_59 rfl (lv_at hl 1 rfl) ?_
    refine va_iald hx hb hK hP 2 0 rfl rfl (by unfold vp_in; decide) dX11_size_60 ?_
    refine lv_topi (fun z_8 ez_8 => ?_)
    obtain rfl : z_8 = 0 := ez_8.trans (rfl)
    exact W.iret (v := 0) hx hb hr (fun t ht hW => ⟨0, rfl, (by decide), ht⟩) (fun _ h => by cases h) dX11_size_61
  by_cases h_9 : a0 = 4
  · subst h_9
    refine lv_tableIn (off := 61) (tgt := 62) hx hb dX11_size_1 (by decide) (by decide) (by decide) (by decide) ?_
    refine lv_aload_n hx hb dX11_size_62 rfl (lv_at hl 0 rfl) ?_
    refine va_get (D := (dC, dI)) (ci := 11) (v := .ref b) (C := RX11) (T := TX11) (N := 13) hx hb htw inlX11 hown hK hP 0 rfl rfl 1 (by decide) (htw _ (ck_1 _ (List.mem_of_getElem? (i := 21) rfl))) (fun _ h9 => h9) rfl dX11_size_63 ?_
    refine va_get (D := (dC, dI)) (ci := 0) (v := .ref bno) (C := RX0) (T := TX0) (N := 12) hx hb htw inlX0 hown hK hP 1 rfl rfl 11 (by decide) (htw _ (ck_52 _ (List.mem_of_getElem? (i := 11) rfl))) (fun _ h9 => h9) rfl dX11_size_66 ?_
    refine va_get (D := (dC, dI)) (ci := 6) (v := .int 0) (C := RX6) (T := TX6) (N := 4) hx hb htw inlX6 hown hK hP 5 rfl rfl 0 (by decide) (htw _ (ck_52 _ (List.mem_of_getElem? (i := 12) rfl))) (fun _ h9 => h9) rfl dX11_size_69 ?_
    exact W.iret (v := 0) hx hb hr (fun t ht hW => ⟨0, rfl, (by decide), ht⟩) (fun _ h => by cases h) dX11_size_72
  by_cases h_10 : a0 = 5
  · subst h_10
    refine lv_tableIn (off := 72) (tgt := 73) hx hb dX11_size_1 (by decide) (by decide) (by decide) (by decide) ?_
    refine lv_aload_n hx hb dX11_size_73 rfl (lv_at hl 0 rfl) ?_
    refine va_get (D := (dC, dI)) (ci := 11) (v := .ref b) (C := RX11) (T := TX11) (N := 13) hx hb htw inlX11 hown hK hP 0 rfl rfl 1 (by decide) (htw _ (ck_1 _ (List.mem_of_getElem? (i := 21) rfl))) (fun _ h9 => h9) rfl dX11_size_74 ?_
    refine va_get (D := (dC, dI)) (ci := 0) (v := .ref bru) (C := RX0) (T := TX0) (N := 12) hx hb htw inlX0 hown hK hP 1 rfl rfl 4 (by decide) (htw _ (ck_38 _ (List.mem_of_getElem? (i := 18) rfl))) (fun _ h9 => h9) rfl dX11_size_77 ?_
    refine va_get (D := (dC, dI)) (ci := 8) (v := .int 0) (C := RX8) (T := TX8) (N := 5) hx hb htw inlX8 hown hK hP 4 rfl rfl 4 (by decide) (htw _ (ck_66 _ (List.mem_of_getElem? (i := 11) rfl))) (fun _ h9 => h9) rfl dX11_size_80 ?_
    exact W.iret (v := 0) hx hb hr (fun t ht hW => ⟨0, rfl, (by decide), ht⟩) (fun _ h => by cases h) dX11_size_83
  by_cases h_11 : a0 = 6
  · subst h_11
    refine lv_tableIn (off := 83) (tgt := 84) hx hb dX11_size_1 (by decide) (by decide) (by decide) (by decide) ?_
    refine lv_aload_n hx hb dX11_size_84 rfl (lv_at hl 0 rfl) ?_
    refine va_get (D := (dC, dI)) (ci := 11) (v := .ref b) (C := RX11) (T := TX11) (N := 13) hx hb htw inlX11 hown hK hP 0 rfl rfl 1 (by decide) (htw _ (ck_1 _ (List.mem_of_getElem? (i := 21) rfl))) (fun _ h9 => h9) rfl dX11_size_85 ?_
    refine va_get (D := (dC, dI)) (ci := 0) (v := .ref bsk) (C := RX0) (T := TX0) (N := 12) hx hb htw inlX0 hown hK hP 1 rfl rfl 3 (by decide) (htw _ (ck_37 _ (List.mem_of_getElem? (i := 13) rfl))) (fun _ h9 => h9) rfl dX11_size_88 ?_
    refine va_get (D := (dC, dI)) (ci := 9) (v := .int 7) (C := RX9) (T := TX9) (N := 7) hx hb htw inlX9 hown hK hP 3 rfl rfl 0 (by decide) (htw _ (ck_48 _ (List.mem_of_getElem? (i := 13) rfl))) (fun _ h9 => h9) rfl dX11_size_91 ?_
    exact W.iret (v := 7) hx hb hr (fun t ht hW => ⟨7, rfl, (by decide), ht⟩) (fun _ h => by cases h) dX11_size_94
  by_cases h_12 : a0 = 7
  · subst h_12
    refine lv_tableIn (off := 94) (tgt := 95) hx hb dX11_size_1 (by decide) (by decide) (by decide) (by decide) ?_
    refine lv_aload_n hx hb dX11_size_95 rfl (lv_at hl 0 rfl) ?_
    refine va_get (D := (dC, dI)) (ci := 11) (v := .ref xle) (C := RX11) (T := TX11) (N := 13) hx hb htw inlX11 hown hK hP 0 rfl rfl 4 (by decide) (htw _ (ck_2 _ (List.mem_of_getElem? (i := 6) rfl))) (fun _ h9 => h9) rfl dX11_size_96 ?_
    refine va_get (D := (dC, dI)) (ci := 2) (v := .int 0) (C := RX2) (T := TX2) (N := 3) hx hb htw inlX2 hown hK hP 6 rfl rfl 0 (by decide) (htw _ (ck_12 _ (List.mem_of_getElem? (i := 23) rfl))) (fun _ h9 => h9) rfl dX11_size_99 ?_
    exact W.iret (v := 0) hx hb hr (fun t ht hW => ⟨0, rfl, (by decide), ht⟩) (fun _ h => by cases h) dX11_size_102
  by_cases h_13 : a0 = 8
  · subst h_13
    refine lv_tableIn (off := 102) (tgt := 103) hx hb dX11_size_1 (by decide) (by decide) (by decide) (by decide) ?_
    refine lv_aload_n hx hb dX11_size_103 rfl (lv_at hl 0 rfl) ?_
    refine va_get (D := (dC, dI)) (ci := 11) (v := .int 0) (C := RX11) (T := TX11) (N := 13) hx hb htw inlX11 hown hK hP 0 rfl rfl 6 (by decide) (htw _ (ck_12 _ (List.mem_of_getElem? (i := 22) rfl))) (fun _ h9 => h9) rfl dX11_size_104 ?_
    exact W.iret (v := 0) hx hb hr (fun t ht hW => ⟨0, rfl, (by decide), ht⟩) (fun _ h => by cases h) dX11_size_107
  refine lv_tableOut (tgt := 108) hx hb dX11_size_1 (by have a0 := xg_ne h_1; have a1 := xg_ne h_3; have a2 := xg_ne h_5; have a3 := xg_ne h_7; have a4 := xg_ne h_9; have a5 := xg_ne h_10; have a6 := xg_ne h_11; have a7 := xg_ne h_12; have a8 := xg_ne h_13; have b0 : (0 : Int32).toInt = 0 := rfl; have b1 : (1 : Int32).toInt = 1 := rfl; have b2 : (2 : Int32).toInt = 2 := rfl; have b3 : (3 : Int32).toInt = 3 := rfl; have b4 : (4 : Int32).toInt = 4 := rfl; have b5 : (5 : Int32).toInt = 5 := rfl; have b6 : (6 : Int32).toInt = 6 := rfl; have b7 : (7 : Int32).toInt = 7 := rfl; have b8 : (8 : Int32).toInt = 8 := rfl; omega) (by decide) ?_
  refine lv_iconst (v := (-1)) hx hb dX11_size_108 (by decide) ?_
  exact W.iret (v := (-1)) hx hb hr (fun t ht hW => ⟨(-1), rfl, (by rw [xr_size, if_neg h_1, if_neg h_3, if_neg h_5, if_neg h_7, if_neg h_9, if_neg h_10, if_neg h_11, if_neg h_12, if_neg h_13]), ht⟩) (fun _ h => by cases h) dX11_size_109

theorem dX11_fault_0 : decode cX11_fault 0 = .ok (.iload_n 1, 1) := by decide +kernel
theorem dX11_fault_1 : decode cX11_fault 1 = .ok (.ifCond .ne 11, 3) := by decide +kernel
theorem dX11_fault_12 : decode cX11_fault 12 = .ok (.iload_n 1, 1) := by decide +kernel
theorem dX11_fault_13 : decode cX11_fault 13 = .ok (.iconst 1, 1) := by decide +kernel
theorem dX11_fault_14 : decode cX11_fault 14 = .ok (.if_icmp .ne 13, 3) := by decide +kernel
theorem dX11_fault_27 : decode cX11_fault 27 = .ok (.iconst (-1), 1) := by decide +kernel
theorem dX11_fault_28 : decode cX11_fault 28 = .ok (.ireturn, 1) := by decide +kernel
theorem dX11_fault_17 : decode cX11_fault 17 = .ok (.aload_n 0, 1) := by decide +kernel
theorem dX11_fault_18 : decode cX11_fault 18 = .ok (.getfield 12, 3) := by decide +kernel
theorem dX11_fault_21 : decode cX11_fault 21 = .ok (.getfield 105, 3) := by decide +kernel
theorem dX11_fault_24 : decode cX11_fault 24 = .ok (.goto 4, 3) := by decide +kernel
theorem dX11_fault_4 : decode cX11_fault 4 = .ok (.aload_n 0, 1) := by decide +kernel
theorem dX11_fault_5 : decode cX11_fault 5 = .ok (.getfield 12, 3) := by decide +kernel
theorem dX11_fault_8 : decode cX11_fault 8 = .ok (.getfield 102, 3) := by decide +kernel
theorem dX11_fault_11 : decode cX11_fault 11 = .ok (.ireturn, 1) := by decide +kernel
set_option maxHeartbeats 4000000 in
set_option maxRecDepth 100000 in
theorem mx_fault (l : Launch) (dC : Nat → ClassId) (dI : Nat → Nat → Nat) (x : Nat) (xpa : Nat) (xsp : Nat) (xdy : Nat) (xle : Nat) (xst : Nat) (xim : Nat) (xil : Nat) (xmo : Nat) (xom : Nat) (xwi : Nat) (b : Nat) (plx : Nat) (phd : Nat) (phr : Nat) (a0 : Int32) : Met l yX11_fault (Cond.code yX11_fault cX11_fault 2 (some .int) :: wsL_law) ({ frames := 0, cells := 0, slots := 0, locals := 0 }) (va_Pc [.ref x, .int a0] (fun U => va_P (dC, dI) vwCl [(x, .inr (11, [.ref xpa, .ref b, .ref xsp, .ref xdy, .ref xle, .ref xst, .int 0, .ref xim, .ref xil, .int 0, .ref xmo, .ref xom, .ref xwi])), (xpa, .inr (7, [.ref plx, .null, .int 0, .int (-1), .int 0, .ref phd, .ref phr, .int 0, .int 0]))] U.heap ∧ va_K (dC, dI) vwCl [] U)) (vp_Si (fun r => r = xr_fault a0)) 0 0 (fun _ => False) := by
  refine Met.ofW (cc := cX11_fault) (maxL := 2) (ret := (some .int)) (by decide) rfl ?_
  intro p e s m args below meth c s₁ B hml hv
  obtain ⟨rfl, hP, hK⟩ := hv
  have hx := B.exec
  have hb := B.bytes
  have hr := B.returns
  have hts := atoms_spec (ws := Cond.code yX11_fault cX11_fault 2 (some .int) :: wsL_law) B.pre
  have htw : ∀ w ∈ wsL_law, w.before _ s = true := fun w h => hts w (List.mem_cons_of_mem _ h)
  have hown : s.vm.findClass RX11 = some m.cls := findClass_of_methodNamed B.named
  have hlocks := B.notSynchronized
  have hl := lv_entry ([.ref x, .int a0]) (n := 2) (Nat.le_of_ble_eq_true rfl)
  rw [lg_entry_eq]
  generalize (lg_sl ([.ref x, .int a0]) ++ List.replicate (2 - (lg_sl ([.ref x, .int a0])).length) Slot.unset).toArray = ls at hl ⊢
  have hl : lv_has ls 2 [(0, .ref x), (1, .int a0)] := hl
  refine lv_iload_n hx hb dX11_fault_0 rfl (lv_at hl 1 rfl) ?_
  refine lv_if_ne (tgt := 12) hx hb dX11_fault_1 (by decide) (fun c_1 => ?_) (fun c_1 => ?_)
  · refine lv_iload_n hx hb dX11_fault_12 rfl (lv_at hl 1 rfl) ?_
    refine lv_iconst (v := 1) hx hb dX11_fault_13 (by decide) ?_
    refine lv_icmp_ne (tgt := 27) hx hb dX11_fault_14 (by decide) (fun c_2 => ?_) (fun c_2 => ?_)
    · refine lv_iconst (v := (-1)) hx hb dX11_fault_27 (by decide) ?_
      exact W.iret (v := (-1)) hx hb hr (fun t ht hW => ⟨(-1), rfl, (by rw [xr_fault, if_neg c_1]), ht⟩) (fun _ h => by cases h) dX11_fault_28
    · refine lv_aload_n hx hb dX11_fault_17 rfl (lv_at hl 0 rfl) ?_
      refine va_get (D := (dC, dI)) (ci := 11) (v := .ref xpa) (C := RX11) (T := TX11) (N := 13) hx hb htw inlX11 hown hK hP 0 rfl rfl 0 (by decide) (htw _ (ck_1 _ (List.mem_of_getElem? (i := 17) rfl))) (fun _ h9 => h9) rfl dX11_fault_18 ?_
      refine va_get (D := (dC, dI)) (ci := 7) (v := .int (-1)) (C := RX7) (T := TX7) (N := 9) hx hb htw inlX7 hown hK hP 1 rfl rfl 3 (by decide) (htw _ (ck_32 _ (List.mem_of_getElem? (i := 14) rfl))) (fun _ h9 => h9) rfl dX11_fault_21 ?_
      refine lv_goto (tgt := 28) hx hb dX11_fault_24 (by decide) ?_
      exact W.iret (v := (-1)) hx hb hr (fun t ht hW => ⟨(-1), rfl, (by rw [xr_fault, if_neg c_1]), ht⟩) (fun _ h => by cases h) dX11_fault_28
  · refine lv_aload_n hx hb dX11_fault_4 rfl (lv_at hl 0 rfl) ?_
    refine va_get (D := (dC, dI)) (ci := 11) (v := .ref xpa) (C := RX11) (T := TX11) (N := 13) hx hb htw inlX11 hown hK hP 0 rfl rfl 0 (by decide) (htw _ (ck_1 _ (List.mem_of_getElem? (i := 17) rfl))) (fun _ h9 => h9) rfl dX11_fault_5 ?_
    refine va_get (D := (dC, dI)) (ci := 7) (v := .int 0) (C := RX7) (T := TX7) (N := 9) hx hb htw inlX7 hown hK hP 1 rfl rfl 2 (by decide) (htw _ (ck_32 _ (List.mem_of_getElem? (i := 13) rfl))) (fun _ h9 => h9) rfl dX11_fault_8 ?_
    exact W.iret (v := 0) hx hb hr (fun t ht hW => ⟨0, rfl, (by rw [xr_fault, if_pos c_1]), ht⟩) (fun _ h => by cases h) dX11_fault_11

theorem dX11_says_0 : decode cX11_says 0 = .ok (.aload_n 0, 1) := by decide +kernel
theorem dX11_says_1 : decode cX11_says 1 = .ok (.getfield 19, 3) := by decide +kernel
theorem dX11_says_4 : decode cX11_says 4 = .ok (.getfield 290, 3) := by decide +kernel
theorem dX11_says_7 : decode cX11_says 7 = .ok (.astore 4, 2) := by decide +kernel
theorem dX11_says_9 : decode cX11_says 9 = .ok (.aload 4, 2) := by decide +kernel
theorem dX11_says_11 : decode cX11_says 11 = .ok (.getfield 293, 3) := by decide +kernel
theorem dX11_says_14 : decode cX11_says 14 = .ok (.iconst 1, 1) := by decide +kernel
theorem dX11_says_15 : decode cX11_says 15 = .ok (.isub, 1) := by decide +kernel
theorem dX11_says_16 : decode cX11_says 16 = .ok (.istore 5, 2) := by decide +kernel
theorem dX11_says_18 : decode cX11_says 18 = .ok (.iload_n 1, 1) := by decide +kernel
theorem dX11_says_19 : decode cX11_says 19 = .ok (.ifCond .lt 26, 3) := by decide +kernel
theorem dX11_says_45 : decode cX11_says 45 = .ok (.iconst 0, 1) := by decide +kernel
theorem dX11_says_46 : decode cX11_says 46 = .ok (.ireturn, 1) := by decide +kernel
theorem dX11_says_22 : decode cX11_says 22 = .ok (.iload_n 1, 1) := by decide +kernel
theorem dX11_says_23 : decode cX11_says 23 = .ok (.bipush 8, 2) := by decide +kernel
theorem dX11_says_25 : decode cX11_says 25 = .ok (.if_icmp .ge 20, 3) := by decide +kernel
theorem dX11_says_28 : decode cX11_says 28 = .ok (.iload 5, 2) := by decide +kernel
theorem dX11_says_30 : decode cX11_says 30 = .ok (.ifCond .lt 15, 3) := by decide +kernel
set_option maxHeartbeats 4000000 in
set_option maxRecDepth 100000 in
theorem mx_says (l : Launch) (dC : Nat → ClassId) (dI : Nat → Nat → Nat) (x : Nat) (xpa : Nat) (xsp : Nat) (xdy : Nat) (xle : Nat) (xst : Nat) (xim : Nat) (xil : Nat) (xmo : Nat) (xom : Nat) (xwi : Nat) (b : Nat) (bto : Nat) (bnm : Nat) (bla : Nat) (bsk : Nat) (bru : Nat) (bbo : Nat) (bdi : Nat) (bda : Nat) (bdk : Nat) (bdt : Nat) (bdp : Nat) (bno : Nat) (bnos : Nat) (bnof : Nat) (bnoz : Nat) (a0 : Int32) (a1 : Int32) (a2 : Int32) : Met l yX11_says (Cond.code yX11_says cX11_says 6 (some .boolean) :: wsL_law) ({ frames := 0, cells := 0, slots := 0, locals := 0 }) (va_Pc [.ref x, .int a0, .int a1, .int a2] (fun U => va_P (dC, dI) vwCl [(x, .inr (11, [.ref xpa, .ref b, .ref xsp, .ref xdy, .ref xle, .ref xst, .int 0, .ref xim, .ref xil, .int 0, .ref xmo, .ref xom, .ref xwi])), (b, .inr (0, [.ref bto, .ref bnm, .ref bla, .ref bsk, .ref bru, .ref bbo, .ref bdi, .ref bda, .ref bdk, .ref bdt, .ref bdp, .ref bno])), (bno, .inr (6, [.int 0, .ref bnos, .ref bnof, .ref bnoz]))] U.heap ∧ va_K (dC, dI) vwCl [] U)) (vp_Si (fun r => r = 0)) 0 0 (fun _ => False) := by
  refine Met.ofW (cc := cX11_says) (maxL := 6) (ret := (some .boolean)) (by decide) rfl ?_
  intro p e s m args below meth c s₁ B hml hv
  obtain ⟨rfl, hP, hK⟩ := hv
  have hx := B.exec
  have hb := B.bytes
  have hr := B.returns
  have hts := atoms_spec (ws := Cond.code yX11_says cX11_says 6 (some .boolean) :: wsL_law) B.pre
  have htw : ∀ w ∈ wsL_law, w.before _ s = true := fun w h => hts w (List.mem_cons_of_mem _ h)
  have hown : s.vm.findClass RX11 = some m.cls := findClass_of_methodNamed B.named
  have hlocks := B.notSynchronized
  have hl := lv_entry ([.ref x, .int a0, .int a1, .int a2]) (n := 6) (Nat.le_of_ble_eq_true rfl)
  rw [lg_entry_eq]
  generalize (lg_sl ([.ref x, .int a0, .int a1, .int a2]) ++ List.replicate (6 - (lg_sl ([.ref x, .int a0, .int a1, .int a2])).length) Slot.unset).toArray = ls at hl ⊢
  have hl : lv_has ls 6 [(0, .ref x), (1, .int a0), (2, .int a1), (3, .int a2)] := hl
  refine lv_aload_n hx hb dX11_says_0 rfl (lv_at hl 0 rfl) ?_
  refine va_get (D := (dC, dI)) (ci := 11) (v := .ref b) (C := RX11) (T := TX11) (N := 13) hx hb htw inlX11 hown hK hP 0 rfl rfl 1 (by decide) (htw _ (ck_1 _ (List.mem_of_getElem? (i := 21) rfl))) (fun _ h9 => h9) rfl dX11_says_1 ?_
  refine va_get (D := (dC, dI)) (ci := 0) (v := .ref bno) (C := RX0) (T := TX0) (N := 12) hx hb htw inlX0 hown hK hP 1 rfl rfl 11 (by decide) (htw _ (ck_52 _ (List.mem_of_getElem? (i := 11) rfl))) (fun _ h9 => h9) rfl dX11_says_4 ?_
  refine lv_astore (lv' := [(4, .ref bno), (0, .ref x), (1, .int a0), (2, .int a1), (3, .int a2)]) hx hb dX11_says_7 hl (by decide) rfl (fun ls hl => ?_)
  refine lv_aload hx hb dX11_says_9 (lv_at hl 0 rfl) ?_
  refine va_get (D := (dC, dI)) (ci := 6) (v := .int 0) (C := RX6) (T := TX6) (N := 4) hx hb htw inlX6 hown hK hP 2 rfl rfl 0 (by decide) (htw _ (ck_52 _ (List.mem_of_getElem? (i := 12) rfl))) (fun _ h9 => h9) rfl dX11_says_11 ?_
  refine lv_iconst (v := 1) hx hb dX11_says_14 (by decide) ?_
  refine lv_isub hx hb dX11_says_15 ?_
  refine lv_topi (fun z_1 ez_1 => ?_)
  obtain rfl : z_1 = (-1) := ez_1.trans (by decide)
  refine lv_istore (lv' := [(5, .int (-1)), (4, .ref bno), (0, .ref x), (1, .int a0), (2, .int a1), (3, .int a2)]) hx hb dX11_says_16 hl (by decide) rfl (fun ls hl => ?_)
  refine lv_iload_n hx hb dX11_says_18 rfl (lv_at hl 3 rfl) ?_
  refine lv_if_lt (tgt := 45) hx hb dX11_says_19 (by decide) (fun c_2 => ?_) (fun c_2 => ?_)
  · refine lv_iconst (v := 0) hx hb dX11_says_45 (by decide) ?_
    exact W.zret (v := 0) hx hb hr (by first | rfl | decide) (fun t ht hW => ⟨0, rfl, rfl, ht⟩) (fun _ h => by cases h) dX11_says_46
  · refine lv_iload_n hx hb dX11_says_22 rfl (lv_at hl 3 rfl) ?_
    refine lv_bipush (v := 8) hx hb dX11_says_23 (by decide) ?_
    refine lv_icmp_ge (tgt := 45) hx hb dX11_says_25 (by decide) (fun c_3 => ?_) (fun c_3 => ?_)
    · refine lv_iconst (v := 0) hx hb dX11_says_45 (by decide) ?_
      exact W.zret (v := 0) hx hb hr (by first | rfl | decide) (fun t ht hW => ⟨0, rfl, rfl, ht⟩) (fun _ h => by cases h) dX11_says_46
    · refine lv_iload hx hb dX11_says_28 (lv_at hl 0 rfl) ?_
      refine lv_if_lt (tgt := 45) hx hb dX11_says_30 (by decide) (fun _ => ?_) (fun c => absurd c (by decide))
      refine lv_iconst (v := 0) hx hb dX11_says_45 (by decide) ?_
      exact W.zret (v := 0) hx hb hr (by first | rfl | decide) (fun t ht hW => ⟨0, rfl, rfl, ht⟩) (fun _ h => by cases h) dX11_says_46

theorem dX11_undo_0 : decode cX11_undo 0 = .ok (.aload_n 0, 1) := by decide +kernel
theorem dX11_undo_1 : decode cX11_undo 1 = .ok (.getfield 19, 3) := by decide +kernel
theorem dX11_undo_4 : decode cX11_undo 4 = .ok (.getfield 290, 3) := by decide +kernel
theorem dX11_undo_7 : decode cX11_undo 7 = .ok (.astore_n 1, 1) := by decide +kernel
theorem dX11_undo_8 : decode cX11_undo 8 = .ok (.aload_n 0, 1) := by decide +kernel
theorem dX11_undo_9 : decode cX11_undo 9 = .ok (.getfield 92, 3) := by decide +kernel
theorem dX11_undo_12 : decode cX11_undo 12 = .ok (.iconst 1, 1) := by decide +kernel
theorem dX11_undo_13 : decode cX11_undo 13 = .ok (.if_icmp .lt 11, 3) := by decide +kernel
theorem dX11_undo_24 : decode cX11_undo 24 = .ok (.iconst (-1), 1) := by decide +kernel
theorem dX11_undo_25 : decode cX11_undo 25 = .ok (.ireturn, 1) := by decide +kernel
set_option maxHeartbeats 4000000 in
set_option maxRecDepth 100000 in
theorem mx_undo (l : Launch) (dC : Nat → ClassId) (dI : Nat → Nat → Nat) (x : Nat) (xpa : Nat) (xsp : Nat) (xdy : Nat) (xle : Nat) (xst : Nat) (xim : Nat) (xil : Nat) (xmo : Nat) (xom : Nat) (xwi : Nat) (b : Nat) (bto : Nat) (bnm : Nat) (bla : Nat) (bsk : Nat) (bru : Nat) (bbo : Nat) (bdi : Nat) (bda : Nat) (bdk : Nat) (bdt : Nat) (bdp : Nat) (bno : Nat) (bnos : Nat) (bnof : Nat) (bnoz : Nat) : Met l yX11_undo (Cond.code yX11_undo cX11_undo 3 (some .int) :: wsL_law) ({ frames := 0, cells := 0, slots := 0, locals := 0 }) (va_Pc [.ref x] (fun U => va_P (dC, dI) vwCl [(x, .inr (11, [.ref xpa, .ref b, .ref xsp, .ref xdy, .ref xle, .ref xst, .int 0, .ref xim, .ref xil, .int 0, .ref xmo, .ref xom, .ref xwi])), (b, .inr (0, [.ref bto, .ref bnm, .ref bla, .ref bsk, .ref bru, .ref bbo, .ref bdi, .ref bda, .ref bdk, .ref bdt, .ref bdp, .ref bno])), (bno, .inr (6, [.int 0, .ref bnos, .ref bnof, .ref bnoz]))] U.heap ∧ va_K (dC, dI) vwCl [] U)) (vp_Si (fun r => r = (-1))) 0 0 (fun _ => False) := by
  refine Met.ofW (cc := cX11_undo) (maxL := 3) (ret := (some .int)) (by decide) rfl ?_
  intro p e s m args below meth c s₁ B hml hv
  obtain ⟨rfl, hP, hK⟩ := hv
  have hx := B.exec
  have hb := B.bytes
  have hr := B.returns
  have hts := atoms_spec (ws := Cond.code yX11_undo cX11_undo 3 (some .int) :: wsL_law) B.pre
  have htw : ∀ w ∈ wsL_law, w.before _ s = true := fun w h => hts w (List.mem_cons_of_mem _ h)
  have hown : s.vm.findClass RX11 = some m.cls := findClass_of_methodNamed B.named
  have hlocks := B.notSynchronized
  have hl := lv_entry ([.ref x]) (n := 3) (Nat.le_of_ble_eq_true rfl)
  rw [lg_entry_eq]
  generalize (lg_sl ([.ref x]) ++ List.replicate (3 - (lg_sl ([.ref x])).length) Slot.unset).toArray = ls at hl ⊢
  have hl : lv_has ls 3 [(0, .ref x)] := hl
  refine lv_aload_n hx hb dX11_undo_0 rfl (lv_at hl 0 rfl) ?_
  refine va_get (D := (dC, dI)) (ci := 11) (v := .ref b) (C := RX11) (T := TX11) (N := 13) hx hb htw inlX11 hown hK hP 0 rfl rfl 1 (by decide) (htw _ (ck_1 _ (List.mem_of_getElem? (i := 21) rfl))) (fun _ h9 => h9) rfl dX11_undo_1 ?_
  refine va_get (D := (dC, dI)) (ci := 0) (v := .ref bno) (C := RX0) (T := TX0) (N := 12) hx hb htw inlX0 hown hK hP 1 rfl rfl 11 (by decide) (htw _ (ck_52 _ (List.mem_of_getElem? (i := 11) rfl))) (fun _ h9 => h9) rfl dX11_undo_4 ?_
  refine lv_astore_n (lv' := [(1, .ref bno), (0, .ref x)]) hx hb dX11_undo_7 rfl hl (by decide) rfl (fun ls hl => ?_)
  refine lv_aload_n hx hb dX11_undo_8 rfl (lv_at hl 1 rfl) ?_
  refine va_get (D := (dC, dI)) (ci := 11) (v := .int 0) (C := RX11) (T := TX11) (N := 13) hx hb htw inlX11 hown hK hP 0 rfl rfl 6 (by decide) (htw _ (ck_12 _ (List.mem_of_getElem? (i := 22) rfl))) (fun _ h9 => h9) rfl dX11_undo_9 ?_
  refine lv_iconst (v := 1) hx hb dX11_undo_12 (by decide) ?_
  refine lv_icmp_lt (tgt := 24) hx hb dX11_undo_13 (by decide) (fun _ => ?_) (fun c => absurd c (by decide))
  refine lv_iconst (v := (-1)) hx hb dX11_undo_24 (by decide) ?_
  exact W.iret (v := (-1)) hx hb hr (fun t ht hW => ⟨(-1), rfl, rfl, ht⟩) (fun _ h => by cases h) dX11_undo_25

theorem dX11_alone_0 : decode cX11_alone 0 = .ok (.iload_n 1, 1) := by decide +kernel
theorem dX11_alone_1 : decode cX11_alone 1 = .ok (.ifCond .lt 26, 3) := by decide +kernel
theorem dX11_alone_27 : decode cX11_alone 27 = .ok (.iconst (-1), 1) := by decide +kernel
theorem dX11_alone_28 : decode cX11_alone 28 = .ok (.ireturn, 1) := by decide +kernel
theorem dX11_alone_4 : decode cX11_alone 4 = .ok (.iload_n 1, 1) := by decide +kernel
theorem dX11_alone_5 : decode cX11_alone 5 = .ok (.aload_n 0, 1) := by decide +kernel
theorem dX11_alone_6 : decode cX11_alone 6 = .ok (.getfield 19, 3) := by decide +kernel
theorem dX11_alone_9 : decode cX11_alone 9 = .ok (.getfield 290, 3) := by decide +kernel
theorem dX11_alone_12 : decode cX11_alone 12 = .ok (.getfield 293, 3) := by decide +kernel
theorem dX11_alone_15 : decode cX11_alone 15 = .ok (.if_icmp .ge 12, 3) := by decide +kernel
set_option maxHeartbeats 4000000 in
set_option maxRecDepth 100000 in
theorem mx_alone (l : Launch) (dC : Nat → ClassId) (dI : Nat → Nat → Nat) (x : Nat) (xpa : Nat) (xsp : Nat) (xdy : Nat) (xle : Nat) (xst : Nat) (xim : Nat) (xil : Nat) (xmo : Nat) (xom : Nat) (xwi : Nat) (b : Nat) (bto : Nat) (bnm : Nat) (bla : Nat) (bsk : Nat) (bru : Nat) (bbo : Nat) (bdi : Nat) (bda : Nat) (bdk : Nat) (bdt : Nat) (bdp : Nat) (bno : Nat) (bnos : Nat) (bnof : Nat) (bnoz : Nat) (a0 : Int32) (a1 : Int32) : Met l yX11_alone (Cond.code yX11_alone cX11_alone 3 (some .int) :: wsL_law) ({ frames := 0, cells := 0, slots := 0, locals := 0 }) (va_Pc [.ref x, .int a0, .int a1] (fun U => va_P (dC, dI) vwCl [(x, .inr (11, [.ref xpa, .ref b, .ref xsp, .ref xdy, .ref xle, .ref xst, .int 0, .ref xim, .ref xil, .int 0, .ref xmo, .ref xom, .ref xwi])), (b, .inr (0, [.ref bto, .ref bnm, .ref bla, .ref bsk, .ref bru, .ref bbo, .ref bdi, .ref bda, .ref bdk, .ref bdt, .ref bdp, .ref bno])), (bno, .inr (6, [.int 0, .ref bnos, .ref bnof, .ref bnoz]))] U.heap ∧ va_K (dC, dI) vwCl [] U)) (vp_Si (fun r => r = (-1))) 0 0 (fun _ => False) := by
  refine Met.ofW (cc := cX11_alone) (maxL := 3) (ret := (some .int)) (by decide) rfl ?_
  intro p e s m args below meth c s₁ B hml hv
  obtain ⟨rfl, hP, hK⟩ := hv
  have hx := B.exec
  have hb := B.bytes
  have hr := B.returns
  have hts := atoms_spec (ws := Cond.code yX11_alone cX11_alone 3 (some .int) :: wsL_law) B.pre
  have htw : ∀ w ∈ wsL_law, w.before _ s = true := fun w h => hts w (List.mem_cons_of_mem _ h)
  have hown : s.vm.findClass RX11 = some m.cls := findClass_of_methodNamed B.named
  have hlocks := B.notSynchronized
  have hl := lv_entry ([.ref x, .int a0, .int a1]) (n := 3) (Nat.le_of_ble_eq_true rfl)
  rw [lg_entry_eq]
  generalize (lg_sl ([.ref x, .int a0, .int a1]) ++ List.replicate (3 - (lg_sl ([.ref x, .int a0, .int a1])).length) Slot.unset).toArray = ls at hl ⊢
  have hl : lv_has ls 3 [(0, .ref x), (1, .int a0), (2, .int a1)] := hl
  refine lv_iload_n hx hb dX11_alone_0 rfl (lv_at hl 1 rfl) ?_
  refine lv_if_lt (tgt := 27) hx hb dX11_alone_1 (by decide) (fun c_1 => ?_) (fun c_1 => ?_)
  · refine lv_iconst (v := (-1)) hx hb dX11_alone_27 (by decide) ?_
    exact W.iret (v := (-1)) hx hb hr (fun t ht hW => ⟨(-1), rfl, rfl, ht⟩) (fun _ h => by cases h) dX11_alone_28
  · refine lv_iload_n hx hb dX11_alone_4 rfl (lv_at hl 1 rfl) ?_
    refine lv_aload_n hx hb dX11_alone_5 rfl (lv_at hl 0 rfl) ?_
    refine va_get (D := (dC, dI)) (ci := 11) (v := .ref b) (C := RX11) (T := TX11) (N := 13) hx hb htw inlX11 hown hK hP 0 rfl rfl 1 (by decide) (htw _ (ck_1 _ (List.mem_of_getElem? (i := 21) rfl))) (fun _ h9 => h9) rfl dX11_alone_6 ?_
    refine va_get (D := (dC, dI)) (ci := 0) (v := .ref bno) (C := RX0) (T := TX0) (N := 12) hx hb htw inlX0 hown hK hP 1 rfl rfl 11 (by decide) (htw _ (ck_52 _ (List.mem_of_getElem? (i := 11) rfl))) (fun _ h9 => h9) rfl dX11_alone_9 ?_
    refine va_get (D := (dC, dI)) (ci := 6) (v := .int 0) (C := RX6) (T := TX6) (N := 4) hx hb htw inlX6 hown hK hP 2 rfl rfl 0 (by decide) (htw _ (ck_52 _ (List.mem_of_getElem? (i := 12) rfl))) (fun _ h9 => h9) rfl dX11_alone_12 ?_
    refine lv_icmp_ge (tgt := 27) hx hb dX11_alone_15 (by decide) (fun c_2 => ?_) (fun c_2 => absurd c_2 (fun h => h (xg_nlt c_1)))
    refine lv_iconst (v := (-1)) hx hb dX11_alone_27 (by decide) ?_
    exact W.iret (v := (-1)) hx hb hr (fun t ht hW => ⟨(-1), rfl, rfl, ht⟩) (fun _ h => by cases h) dX11_alone_28

theorem dX11_fits_0 : decode cX11_fits 0 = .ok (.iload_n 1, 1) := by decide +kernel
theorem dX11_fits_1 : decode cX11_fits 1 = .ok (.ifCond .lt 26, 3) := by decide +kernel
theorem dX11_fits_27 : decode cX11_fits 27 = .ok (.iconst (-1), 1) := by decide +kernel
theorem dX11_fits_28 : decode cX11_fits 28 = .ok (.ireturn, 1) := by decide +kernel
theorem dX11_fits_4 : decode cX11_fits 4 = .ok (.iload_n 1, 1) := by decide +kernel
theorem dX11_fits_5 : decode cX11_fits 5 = .ok (.aload_n 0, 1) := by decide +kernel
theorem dX11_fits_6 : decode cX11_fits 6 = .ok (.getfield 19, 3) := by decide +kernel
theorem dX11_fits_9 : decode cX11_fits 9 = .ok (.getfield 290, 3) := by decide +kernel
theorem dX11_fits_12 : decode cX11_fits 12 = .ok (.getfield 293, 3) := by decide +kernel
theorem dX11_fits_15 : decode cX11_fits 15 = .ok (.if_icmp .ge 12, 3) := by decide +kernel
set_option maxHeartbeats 4000000 in
set_option maxRecDepth 100000 in
theorem mx_fits (l : Launch) (dC : Nat → ClassId) (dI : Nat → Nat → Nat) (x : Nat) (xpa : Nat) (xsp : Nat) (xdy : Nat) (xle : Nat) (xst : Nat) (xim : Nat) (xil : Nat) (xmo : Nat) (xom : Nat) (xwi : Nat) (b : Nat) (bto : Nat) (bnm : Nat) (bla : Nat) (bsk : Nat) (bru : Nat) (bbo : Nat) (bdi : Nat) (bda : Nat) (bdk : Nat) (bdt : Nat) (bdp : Nat) (bno : Nat) (bnos : Nat) (bnof : Nat) (bnoz : Nat) (a0 : Int32) (a1 : Int32) : Met l yX11_fits (Cond.code yX11_fits cX11_fits 3 (some .int) :: wsL_law) ({ frames := 0, cells := 0, slots := 0, locals := 0 }) (va_Pc [.ref x, .int a0, .int a1] (fun U => va_P (dC, dI) vwCl [(x, .inr (11, [.ref xpa, .ref b, .ref xsp, .ref xdy, .ref xle, .ref xst, .int 0, .ref xim, .ref xil, .int 0, .ref xmo, .ref xom, .ref xwi])), (b, .inr (0, [.ref bto, .ref bnm, .ref bla, .ref bsk, .ref bru, .ref bbo, .ref bdi, .ref bda, .ref bdk, .ref bdt, .ref bdp, .ref bno])), (bno, .inr (6, [.int 0, .ref bnos, .ref bnof, .ref bnoz]))] U.heap ∧ va_K (dC, dI) vwCl [] U)) (vp_Si (fun r => r = (-1))) 0 0 (fun _ => False) := by
  refine Met.ofW (cc := cX11_fits) (maxL := 3) (ret := (some .int)) (by decide) rfl ?_
  intro p e s m args below meth c s₁ B hml hv
  obtain ⟨rfl, hP, hK⟩ := hv
  have hx := B.exec
  have hb := B.bytes
  have hr := B.returns
  have hts := atoms_spec (ws := Cond.code yX11_fits cX11_fits 3 (some .int) :: wsL_law) B.pre
  have htw : ∀ w ∈ wsL_law, w.before _ s = true := fun w h => hts w (List.mem_cons_of_mem _ h)
  have hown : s.vm.findClass RX11 = some m.cls := findClass_of_methodNamed B.named
  have hlocks := B.notSynchronized
  have hl := lv_entry ([.ref x, .int a0, .int a1]) (n := 3) (Nat.le_of_ble_eq_true rfl)
  rw [lg_entry_eq]
  generalize (lg_sl ([.ref x, .int a0, .int a1]) ++ List.replicate (3 - (lg_sl ([.ref x, .int a0, .int a1])).length) Slot.unset).toArray = ls at hl ⊢
  have hl : lv_has ls 3 [(0, .ref x), (1, .int a0), (2, .int a1)] := hl
  refine lv_iload_n hx hb dX11_fits_0 rfl (lv_at hl 1 rfl) ?_
  refine lv_if_lt (tgt := 27) hx hb dX11_fits_1 (by decide) (fun c_1 => ?_) (fun c_1 => ?_)
  · refine lv_iconst (v := (-1)) hx hb dX11_fits_27 (by decide) ?_
    exact W.iret (v := (-1)) hx hb hr (fun t ht hW => ⟨(-1), rfl, rfl, ht⟩) (fun _ h => by cases h) dX11_fits_28
  · refine lv_iload_n hx hb dX11_fits_4 rfl (lv_at hl 1 rfl) ?_
    refine lv_aload_n hx hb dX11_fits_5 rfl (lv_at hl 0 rfl) ?_
    refine va_get (D := (dC, dI)) (ci := 11) (v := .ref b) (C := RX11) (T := TX11) (N := 13) hx hb htw inlX11 hown hK hP 0 rfl rfl 1 (by decide) (htw _ (ck_1 _ (List.mem_of_getElem? (i := 21) rfl))) (fun _ h9 => h9) rfl dX11_fits_6 ?_
    refine va_get (D := (dC, dI)) (ci := 0) (v := .ref bno) (C := RX0) (T := TX0) (N := 12) hx hb htw inlX0 hown hK hP 1 rfl rfl 11 (by decide) (htw _ (ck_52 _ (List.mem_of_getElem? (i := 11) rfl))) (fun _ h9 => h9) rfl dX11_fits_9 ?_
    refine va_get (D := (dC, dI)) (ci := 6) (v := .int 0) (C := RX6) (T := TX6) (N := 4) hx hb htw inlX6 hown hK hP 2 rfl rfl 0 (by decide) (htw _ (ck_52 _ (List.mem_of_getElem? (i := 12) rfl))) (fun _ h9 => h9) rfl dX11_fits_12 ?_
    refine lv_icmp_ge (tgt := 27) hx hb dX11_fits_15 (by decide) (fun c_2 => ?_) (fun c_2 => absurd c_2 (fun h => h (xg_nlt c_1)))
    refine lv_iconst (v := (-1)) hx hb dX11_fits_27 (by decide) ?_
    exact W.iret (v := (-1)) hx hb hr (fun t ht hW => ⟨(-1), rfl, rfl, ht⟩) (fun _ h => by cases h) dX11_fits_28

theorem dX11_told_0 : decode cX11_told 0 = .ok (.iload_n 1, 1) := by decide +kernel
theorem dX11_told_1 : decode cX11_told 1 = .ok (.ifCond .lt 40, 3) := by decide +kernel
theorem dX11_told_41 : decode cX11_told 41 = .ok (.iconst (-1), 1) := by decide +kernel
theorem dX11_told_42 : decode cX11_told 42 = .ok (.ireturn, 1) := by decide +kernel
theorem dX11_told_4 : decode cX11_told 4 = .ok (.iload_n 1, 1) := by decide +kernel
theorem dX11_told_5 : decode cX11_told 5 = .ok (.aload_n 0, 1) := by decide +kernel
theorem dX11_told_6 : decode cX11_told 6 = .ok (.getfield 19, 3) := by decide +kernel
theorem dX11_told_9 : decode cX11_told 9 = .ok (.getfield 290, 3) := by decide +kernel
theorem dX11_told_12 : decode cX11_told 12 = .ok (.getfield 293, 3) := by decide +kernel
theorem dX11_told_15 : decode cX11_told 15 = .ok (.if_icmp .ge 26, 3) := by decide +kernel
set_option maxHeartbeats 4000000 in
set_option maxRecDepth 100000 in
theorem mx_told (l : Launch) (dC : Nat → ClassId) (dI : Nat → Nat → Nat) (x : Nat) (xpa : Nat) (xsp : Nat) (xdy : Nat) (xle : Nat) (xst : Nat) (xim : Nat) (xil : Nat) (xmo : Nat) (xom : Nat) (xwi : Nat) (b : Nat) (bto : Nat) (bnm : Nat) (bla : Nat) (bsk : Nat) (bru : Nat) (bbo : Nat) (bdi : Nat) (bda : Nat) (bdk : Nat) (bdt : Nat) (bdp : Nat) (bno : Nat) (bnos : Nat) (bnof : Nat) (bnoz : Nat) (a0 : Int32) (a1 : Int32) : Met l yX11_told (Cond.code yX11_told cX11_told 3 (some .int) :: wsL_law) ({ frames := 0, cells := 0, slots := 0, locals := 0 }) (va_Pc [.ref x, .int a0, .int a1] (fun U => va_P (dC, dI) vwCl [(x, .inr (11, [.ref xpa, .ref b, .ref xsp, .ref xdy, .ref xle, .ref xst, .int 0, .ref xim, .ref xil, .int 0, .ref xmo, .ref xom, .ref xwi])), (b, .inr (0, [.ref bto, .ref bnm, .ref bla, .ref bsk, .ref bru, .ref bbo, .ref bdi, .ref bda, .ref bdk, .ref bdt, .ref bdp, .ref bno])), (bno, .inr (6, [.int 0, .ref bnos, .ref bnof, .ref bnoz]))] U.heap ∧ va_K (dC, dI) vwCl [] U)) (vp_Si (fun r => r = (-1))) 0 0 (fun _ => False) := by
  refine Met.ofW (cc := cX11_told) (maxL := 3) (ret := (some .int)) (by decide) rfl ?_
  intro p e s m args below meth c s₁ B hml hv
  obtain ⟨rfl, hP, hK⟩ := hv
  have hx := B.exec
  have hb := B.bytes
  have hr := B.returns
  have hts := atoms_spec (ws := Cond.code yX11_told cX11_told 3 (some .int) :: wsL_law) B.pre
  have htw : ∀ w ∈ wsL_law, w.before _ s = true := fun w h => hts w (List.mem_cons_of_mem _ h)
  have hown : s.vm.findClass RX11 = some m.cls := findClass_of_methodNamed B.named
  have hlocks := B.notSynchronized
  have hl := lv_entry ([.ref x, .int a0, .int a1]) (n := 3) (Nat.le_of_ble_eq_true rfl)
  rw [lg_entry_eq]
  generalize (lg_sl ([.ref x, .int a0, .int a1]) ++ List.replicate (3 - (lg_sl ([.ref x, .int a0, .int a1])).length) Slot.unset).toArray = ls at hl ⊢
  have hl : lv_has ls 3 [(0, .ref x), (1, .int a0), (2, .int a1)] := hl
  refine lv_iload_n hx hb dX11_told_0 rfl (lv_at hl 1 rfl) ?_
  refine lv_if_lt (tgt := 41) hx hb dX11_told_1 (by decide) (fun c_1 => ?_) (fun c_1 => ?_)
  · refine lv_iconst (v := (-1)) hx hb dX11_told_41 (by decide) ?_
    exact W.iret (v := (-1)) hx hb hr (fun t ht hW => ⟨(-1), rfl, rfl, ht⟩) (fun _ h => by cases h) dX11_told_42
  · refine lv_iload_n hx hb dX11_told_4 rfl (lv_at hl 1 rfl) ?_
    refine lv_aload_n hx hb dX11_told_5 rfl (lv_at hl 0 rfl) ?_
    refine va_get (D := (dC, dI)) (ci := 11) (v := .ref b) (C := RX11) (T := TX11) (N := 13) hx hb htw inlX11 hown hK hP 0 rfl rfl 1 (by decide) (htw _ (ck_1 _ (List.mem_of_getElem? (i := 21) rfl))) (fun _ h9 => h9) rfl dX11_told_6 ?_
    refine va_get (D := (dC, dI)) (ci := 0) (v := .ref bno) (C := RX0) (T := TX0) (N := 12) hx hb htw inlX0 hown hK hP 1 rfl rfl 11 (by decide) (htw _ (ck_52 _ (List.mem_of_getElem? (i := 11) rfl))) (fun _ h9 => h9) rfl dX11_told_9 ?_
    refine va_get (D := (dC, dI)) (ci := 6) (v := .int 0) (C := RX6) (T := TX6) (N := 4) hx hb htw inlX6 hown hK hP 2 rfl rfl 0 (by decide) (htw _ (ck_52 _ (List.mem_of_getElem? (i := 12) rfl))) (fun _ h9 => h9) rfl dX11_told_12 ?_
    refine lv_icmp_ge (tgt := 41) hx hb dX11_told_15 (by decide) (fun c_2 => ?_) (fun c_2 => absurd c_2 (fun h => h (xg_nlt c_1)))
    refine lv_iconst (v := (-1)) hx hb dX11_told_41 (by decide) ?_
    exact W.iret (v := (-1)) hx hb hr (fun t ht hW => ⟨(-1), rfl, rfl, ht⟩) (fun _ h => by cases h) dX11_told_42

theorem dX11_back_0 : decode cX11_back 0 = .ok (.aload_n 0, 1) := by decide +kernel
theorem dX11_back_1 : decode cX11_back 1 = .ok (.getfield 98, 3) := by decide +kernel
theorem dX11_back_4 : decode cX11_back 4 = .ok (.ifCond .ne 5, 3) := by decide +kernel
theorem dX11_back_7 : decode cX11_back 7 = .ok (.iconst (-1), 1) := by decide +kernel
theorem dX11_back_8 : decode cX11_back 8 = .ok (.ireturn, 1) := by decide +kernel
set_option maxHeartbeats 4000000 in
set_option maxRecDepth 100000 in
theorem mx_back (l : Launch) (dC : Nat → ClassId) (dI : Nat → Nat → Nat) (x : Nat) (xpa : Nat) (xsp : Nat) (xdy : Nat) (xle : Nat) (xst : Nat) (xim : Nat) (xil : Nat) (xmo : Nat) (xom : Nat) (xwi : Nat) (b : Nat) (bto : Nat) (bnm : Nat) (bla : Nat) (bsk : Nat) (bru : Nat) (bbo : Nat) (bdi : Nat) (bda : Nat) (bdk : Nat) (bdt : Nat) (bdp : Nat) (bno : Nat) (bnos : Nat) (bnof : Nat) (bnoz : Nat) : Met l yX11_back (Cond.code yX11_back cX11_back 1 (some .int) :: wsL_law) ({ frames := 0, cells := 0, slots := 0, locals := 0 }) (va_Pc [.ref x] (fun U => va_P (dC, dI) vwCl [(x, .inr (11, [.ref xpa, .ref b, .ref xsp, .ref xdy, .ref xle, .ref xst, .int 0, .ref xim, .ref xil, .int 0, .ref xmo, .ref xom, .ref xwi])), (b, .inr (0, [.ref bto, .ref bnm, .ref bla, .ref bsk, .ref bru, .ref bbo, .ref bdi, .ref bda, .ref bdk, .ref bdt, .ref bdp, .ref bno])), (bno, .inr (6, [.int 0, .ref bnos, .ref bnof, .ref bnoz]))] U.heap ∧ va_K (dC, dI) vwCl [] U)) (vp_Si (fun r => r = (-1))) 0 0 (fun _ => False) := by
  refine Met.ofW (cc := cX11_back) (maxL := 1) (ret := (some .int)) (by decide) rfl ?_
  intro p e s m args below meth c s₁ B hml hv
  obtain ⟨rfl, hP, hK⟩ := hv
  have hx := B.exec
  have hb := B.bytes
  have hr := B.returns
  have hts := atoms_spec (ws := Cond.code yX11_back cX11_back 1 (some .int) :: wsL_law) B.pre
  have htw : ∀ w ∈ wsL_law, w.before _ s = true := fun w h => hts w (List.mem_cons_of_mem _ h)
  have hown : s.vm.findClass RX11 = some m.cls := findClass_of_methodNamed B.named
  have hlocks := B.notSynchronized
  have hl := lv_entry ([.ref x]) (n := 1) (Nat.le_of_ble_eq_true rfl)
  rw [lg_entry_eq]
  generalize (lg_sl ([.ref x]) ++ List.replicate (1 - (lg_sl ([.ref x])).length) Slot.unset).toArray = ls at hl ⊢
  have hl : lv_has ls 1 [(0, .ref x)] := hl
  refine lv_aload_n hx hb dX11_back_0 rfl (lv_at hl 0 rfl) ?_
  refine va_get (D := (dC, dI)) (ci := 11) (v := .int 0) (C := RX11) (T := TX11) (N := 13) hx hb htw inlX11 hown hK hP 0 rfl rfl 9 (by decide) (htw _ (ck_13 _ (List.mem_of_getElem? (i := 0) rfl))) (fun _ h9 => h9) rfl dX11_back_1 ?_
  refine lv_if_ne (tgt := 9) hx hb dX11_back_4 (by decide) (fun c => absurd c (by decide)) (fun _ => ?_)
  refine lv_iconst (v := (-1)) hx hb dX11_back_7 (by decide) ?_
  exact W.iret (v := (-1)) hx hb hr (fun t ht hW => ⟨(-1), rfl, rfl, ht⟩) (fun _ h => by cases h) dX11_back_8
