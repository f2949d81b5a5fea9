theorem dX12_next_0 : decode cX12_next 0 = .ok (.aload_n 0, 1) := by decide +kernel
theorem dX12_next_1 : decode cX12_next 1 = .ok (.iconst 0, 1) := by decide +kernel
theorem dX12_next_2 : decode cX12_next 2 = .ok (.putfield 119, 3) := by decide +kernel
theorem dX12_next_5 : decode cX12_next 5 = .ok (.lload_n 1, 1) := by decide +kernel
theorem dX12_next_6 : decode cX12_next 6 = .ok (.invokestatic 413, 3) := by decide +kernel
theorem dX12_next_9 : decode cX12_next 9 = .ok (.ifCond .eq 46, 3) := by decide +kernel
theorem dX12_next_55 : decode cX12_next 55 = .ok (.ldc2_w 273, 3) := by decide +kernel
theorem dX12_next_58 : decode cX12_next 58 = .ok (.lreturn, 1) := by decide +kernel
theorem dX12_next_12 : decode cX12_next 12 = .ok (.iload_n 3, 1) := by decide +kernel
theorem dX12_next_13 : decode cX12_next 13 = .ok (.iconst (-1), 1) := by decide +kernel
theorem dX12_next_14 : decode cX12_next 14 = .ok (.if_icmp .eq 13, 3) := by decide +kernel
theorem dX12_next_27 : decode cX12_next 27 = .ok (.iload 4, 2) := by decide +kernel
theorem dX12_next_29 : decode cX12_next 29 = .ok (.iconst (-1), 1) := by decide +kernel
theorem dX12_next_30 : decode cX12_next 30 = .ok (.aload_n 0, 1) := by decide +kernel
theorem dX12_next_31 : decode cX12_next 31 = .ok (.getfield 20, 3) := by decide +kernel
theorem dX12_next_34 : decode cX12_next 34 = .ok (.iconst 0, 1) := by decide +kernel
theorem dX12_next_35 : decode cX12_next 35 = .ok (.iaload, 1) := by decide +kernel
theorem dX12_next_36 : decode cX12_next 36 = .ok (.iconst 1, 1) := by decide +kernel
theorem dX12_next_37 : decode cX12_next 37 = .ok (.isub, 1) := by decide +kernel
theorem dX12_next_38 : decode cX12_next 38 = .ok (.invokestatic 166, 3) := by decide +kernel
theorem dX12_next_41 : decode cX12_next 41 = .ok (.ifCond .eq 14, 3) := by decide +kernel
theorem dX12_next_44 : decode cX12_next 44 = .ok (.iload 5, 2) := by decide +kernel
theorem dX12_next_46 : decode cX12_next 46 = .ok (.iconst (-1), 1) := by decide +kernel
theorem dX12_next_47 : decode cX12_next 47 = .ok (.bipush 7, 2) := by decide +kernel
theorem dX12_next_49 : decode cX12_next 49 = .ok (.invokestatic 166, 3) := by decide +kernel
theorem dX12_next_52 : decode cX12_next 52 = .ok (.ifCond .ne 7, 3) := by decide +kernel
theorem dX12_next_59 : decode cX12_next 59 = .ok (.lload_n 1, 1) := by decide +kernel
theorem dX12_next_60 : decode cX12_next 60 = .ok (.lstore 6, 2) := by decide +kernel
theorem dX12_next_62 : decode cX12_next 62 = .ok (.lload 6, 2) := by decide +kernel
theorem dX12_next_64 : decode cX12_next 64 = .ok (.lload_n 1, 1) := by decide +kernel
theorem dX12_next_65 : decode cX12_next 65 = .ok (.ldc2_w 454, 3) := by decide +kernel
theorem dX12_next_68 : decode cX12_next 68 = .ok (.ladd, 1) := by decide +kernel
theorem dX12_next_69 : decode cX12_next 69 = .ok (.lcmp, 1) := by decide +kernel
theorem dX12_next_70 : decode cX12_next 70 = .ok (.ifCond .ge 101, 3) := by decide +kernel
theorem dX12_next_171 : decode cX12_next 171 = .ok (.ldc2_w 456, 3) := by decide +kernel
theorem dX12_next_174 : decode cX12_next 174 = .ok (.lreturn, 1) := by decide +kernel
theorem dX12_next_73 : decode cX12_next 73 = .ok (.lload 6, 2) := by decide +kernel
theorem dX12_next_75 : decode cX12_next 75 = .ok (.ldc2_w 125, 3) := by decide +kernel
theorem dX12_next_78 : decode cX12_next 78 = .ok (.lcmp, 1) := by decide +kernel
theorem dX12_next_79 : decode cX12_next 79 = .ok (.ifCond .gt 92, 3) := by decide +kernel
theorem dX12_next_82 : decode cX12_next 82 = .ok (.iload 4, 2) := by decide +kernel
theorem dX12_next_84 : decode cX12_next 84 = .ok (.ifCond .lt 15, 3) := by decide +kernel
theorem dX12_next_99 : decode cX12_next 99 = .ok (.iload 5, 2) := by decide +kernel
theorem dX12_next_101 : decode cX12_next 101 = .ok (.ifCond .lt 15, 3) := by decide +kernel
theorem dX12_next_116 : decode cX12_next 116 = .ok (.iconst 1, 1) := by decide +kernel
theorem dX12_next_117 : decode cX12_next 117 = .ok (.goto 4, 3) := by decide +kernel
theorem dX12_next_121 : decode cX12_next 121 = .ok (.istore 8, 2) := by decide +kernel
theorem dX12_next_123 : decode cX12_next 123 = .ok (.iload 8, 2) := by decide +kernel
theorem dX12_next_125 : decode cX12_next 125 = .ok (.ifCond .eq 37, 3) := by decide +kernel
theorem dX12_next_128 : decode cX12_next 128 = .ok (.iload_n 3, 1) := by decide +kernel
theorem dX12_next_129 : decode cX12_next 129 = .ok (.ifCond .lt 30, 3) := by decide +kernel
theorem dX12_next_159 : decode cX12_next 159 = .ok (.lload 6, 2) := by decide +kernel
theorem dX12_next_161 : decode cX12_next 161 = .ok (.lreturn, 1) := by decide +kernel
theorem dX12_next_132 : decode cX12_next 132 = .ok (.aload_n 0, 1) := by decide +kernel
theorem dX12_next_133 : decode cX12_next 133 = .ok (.getfield 217, 3) := by decide +kernel
theorem dX12_next_136 : decode cX12_next 136 = .ok (.ifCond .le 26, 3) := by decide +kernel
theorem dX12_next_162 : decode cX12_next 162 = .ok (.lload 6, 2) := by decide +kernel
theorem dX12_next_164 : decode cX12_next 164 = .ok (.lconst 1, 1) := by decide +kernel
theorem dX12_next_165 : decode cX12_next 165 = .ok (.ladd, 1) := by decide +kernel
theorem dX12_next_166 : decode cX12_next 166 = .ok (.lstore 6, 2) := by decide +kernel
theorem dX12_next_168 : decode cX12_next 168 = .ok (.goto (-106), 3) := by decide +kernel
theorem dX12_next_104 : decode cX12_next 104 = .ok (.aload_n 0, 1) := by decide +kernel
theorem dX12_next_105 : decode cX12_next 105 = .ok (.lload 6, 2) := by decide +kernel
theorem dX12_next_107 : decode cX12_next 107 = .ok (.iconst 1, 1) := by decide +kernel
theorem dX12_next_108 : decode cX12_next 108 = .ok (.invokevirtual 424, 3) := by decide +kernel
theorem dX12_next_111 : decode cX12_next 111 = .ok (.iload 5, 2) := by decide +kernel
theorem dX12_next_113 : decode cX12_next 113 = .ok (.if_icmp .ne 7, 3) := by decide +kernel
theorem dX12_next_120 : decode cX12_next 120 = .ok (.iconst 0, 1) := by decide +kernel
theorem dX12_next_87 : decode cX12_next 87 = .ok (.aload_n 0, 1) := by decide +kernel
theorem dX12_next_88 : decode cX12_next 88 = .ok (.lload 6, 2) := by decide +kernel
theorem dX12_next_90 : decode cX12_next 90 = .ok (.iconst 0, 1) := by decide +kernel
theorem dX12_next_91 : decode cX12_next 91 = .ok (.invokevirtual 424, 3) := by decide +kernel
theorem dX12_next_94 : decode cX12_next 94 = .ok (.iload 4, 2) := by decide +kernel
theorem dX12_next_96 : decode cX12_next 96 = .ok (.if_icmp .ne 24, 3) := by decide +kernel
theorem dX12_next_17 : decode cX12_next 17 = .ok (.iload_n 3, 1) := by decide +kernel
theorem dX12_next_18 : decode cX12_next 18 = .ok (.iconst 1, 1) := by decide +kernel
theorem dX12_next_19 : decode cX12_next 19 = .ok (.ldc 159, 2) := by decide +kernel
theorem dX12_next_21 : decode cX12_next 21 = .ok (.invokestatic 166, 3) := by decide +kernel
theorem dX12_next_24 : decode cX12_next 24 = .ok (.ifCond .eq 31, 3) := by decide +kernel
set_option maxHeartbeats 4000000 in
set_option maxRecDepth 100000 in
theorem mm_next (l : Launch) (dC : Nat → ClassId) (dI : Nat → Nat → Nat) (mq : Nat) (fs : List Value) (msk : Nat) (cY : ClassId) (fY : Nat → Int32) (a0 : Int64) (a1 : Int32) (a2 : Int32) (a3 : Int32) (sz : Nat) (hlen : fs.length = 76) (hf24 : fs[24]? = some (.ref msk)) (hf12 : fs[12]? = some (.int 0)) (hs0 : fY 0 = 7) (hs1 : fY 1 = 0) (hs2 : fY 2 = 59) (hs3 : fY 3 = 2) (hs4 : fY 4 = 0) (hs5 : fY 5 = 1461) (hs6 : fY 6 = 4) : Met l yX12_next (Cond.code yX12_next cX12_next 9 (some .long) :: wsL_law) ({ frames := 1, cells := 0, slots := 0, locals := 23 }) (va_Pc [.ref mq, .long a0, .int a1, .int a2, .int a3] (fun U => U.heap.size = sz ∧ va_P (dC, dI) vwCl [(mq, .inr (12, fs)), (msk, .inl (cY, 14, .inl fY))] U.heap ∧ va_K (dC, dI) vwCl [(cY, .int)] U ∧ va_D (fun _ => True) [(mq, .inr (12, fs)), (msk, .inl (cY, 14, .inl fY))])) (va_Ql (fun (r : Int64) (u : Unit) => r = xr_next a0 a1 a2 a3) (fun _ _ => True) (va_A [(mq, .inr (12, fs)), (msk, .inl (cY, 14, .inl fY))] sz)) 0 0 (va_A [(mq, .inr (12, fs)), (msk, .inl (cY, 14, .inl fY))] sz) := by
  refine Met.ofW (cc := cX12_next) (maxL := 9) (ret := (some .long)) (by decide) rfl ?_
  intro p e s m args below meth c s₁ B hml hv
  obtain ⟨rfl, hsz, hP, hK, hD0⟩ := hv
  have hx := B.exec
  have hb := B.bytes
  have hr := B.returns
  have hts := atoms_spec (ws := Cond.code yX12_next cX12_next 9 (some .long) :: wsL_law) B.pre
  have htw : ∀ w ∈ wsL_law, w.before _ s = true := fun w h => hts w (List.mem_cons_of_mem _ h)
  have hown : s.vm.findClass RX12 = some m.cls := findClass_of_methodNamed B.named
  have hlocks := B.notSynchronized
  subst hsz
  have hD := hD0.self (sz := s.heap.size)
  generalize hAe : va_A [(mq, .inr (12, fs)), (msk, .inl (cY, 14, .inl fY))] s.heap.size = A at hD ⊢
  have hA : ∀ q : Nat, s.heap.size ≤ q → A q := fun q h => by rw [← hAe]; exact Or.inr h
  obtain ⟨H, rH⟩ : ∃ z : Heap, z = s.heap := ⟨_, rfl⟩
  have hS : va_S A s.heap H [] := by rw [rH]; exact va_S.rf
  have hP : va_P (dC, dI) vwCl [(mq, .inr (12, fs)), (msk, .inl (cY, 14, .inl fY))] H := by rw [rH]; exact hP
  rw [← rH]
  have hl := lv_entry ([.ref mq, .long a0, .int a1, .int a2, .int a3]) (n := 9) (Nat.le_of_ble_eq_true rfl)
  rw [lg_entry_eq]
  generalize (lg_sl ([.ref mq, .long a0, .int a1, .int a2, .int a3]) ++ List.replicate (9 - (lg_sl ([.ref mq, .long a0, .int a1, .int a2, .int a3])).length) Slot.unset).toArray = ls at hl ⊢
  have hl : lv_has ls 9 [(0, .ref mq), (1, .long a0), (3, .int a1), (4, .int a2), (5, .int a3)] := hl
  refine lv_aload_n hx hb dX12_next_0 rfl (lv_at hl 0 rfl) ?_
  refine lv_iconst (v := 0) hx hb dX12_next_1 (by decide) ?_
  refine va_put (D := (dC, dI)) (ci := 12) (v := .int 0) (ty := tyX12 2) (C := RX12) (T := TX12) (N := 76) hx hb htw inlX12 tyX12 tyX12_ok nmX12 hown hK hP hD hS 0 rfl rfl 2 (by decide) (htw _ (ck_12 _ (List.mem_of_getElem? (i := 16) rfl))) (fun _ h9 => h9) rfl (by decide +kernel) rfl rfl (by rw [hlen]; decide) dX12_next_2 (fun H locs hP hD hS => ?_)
  obtain ⟨fs_1, efs_1⟩ : ∃ g : List Value, g = (fs).set 2 (.int 0) := ⟨_, rfl⟩
  have hlen_2 : fs_1.length = 76 := by rw [efs_1, List.length_set]; exact hlen
  have hf_3 : fs_1[24]? = some (.ref msk) := by rw [efs_1, List.getElem?_set_ne (by decide)]; exact hf24
  have hf_4 : fs_1[12]? = some (.int 0) := by rw [efs_1, List.getElem?_set_ne (by decide)]; exact hf12
  have hf_5 : fs_1[2]? = some (.int 0) := by rw [efs_1]; exact List.getElem?_set_self (by rw [hlen]; decide)
  rw [← efs_1] at hP hD
  have hP : va_P (dC, dI) vwCl [(mq, .inr (12, fs_1)), (msk, .inl (cY, 14, .inl fY))] H := hP
  have hD : va_D A [(mq, .inr (12, fs_1)), (msk, .inl (cY, 14, .inl fY))] := hD
  refine lv_lload_n hx hb dX12_next_5 rfl (lv_at hl 1 rfl) ?_
  have hPc := hP.sub (ws' := []) [] rfl
  have hKc := hK.sub (tys' := []) [] rfl
  refine vp_callSi (W.runS (As := [.long a0]) (rest := []) ⟨hx, hb, hml, hown, htw⟩ (mm_isCount l dC dI a0) (va_cwS 1 htw (xg_S (ck_36 _ (List.mem_of_getElem? (i := 12) rfl)) (ck_36 _ (List.mem_of_getElem? (i := 13) rfl)) (ck_1 _ (List.mem_of_getElem? (i := 5) rfl)) (ck_36 _ (List.mem_of_getElem? (i := 14) rfl))) rfl rfl rfl (by decide +kernel) ⟨Nat.le_of_ble_eq_true rfl, Nat.le_of_ble_eq_true rfl⟩) ⟨fun a U g mk q => by obtain ⟨q0, qP, qK⟩ := q; exact ⟨q0, qP, va_K.moved (u := U) (U := U.calling g mk a) (Vm.Alike.refl U.vm) qK⟩, fun U hU hW => ⟨rfl, by rw [hU]; exact hPc, va_K.moved hW.alike hKc⟩⟩ rfl rfl hl.1 rfl (lv_room (Nat.le_of_ble_eq_true rfl)) dX12_next_6 ⟨Nat.le_of_ble_eq_true rfl, Nat.le_of_ble_eq_true rfl⟩) (fun r_6 hw => ?_)
  try dsimp only at hw
  have hw_r_6 : r_6 = xg_cnt a0 := hw
  refine lv_if_eq (tgt := 55) hx hb dX12_next_9 (by decide) (fun c_7 => ?_) (fun c_7 => ?_)
  · refine lv_ldc2 (v := (-1)) hx hb hown (htw _ (ck_29 _ (List.mem_of_getElem? (i := 13) rfl))) dX12_next_55 ?_
    refine W.widen (k := 0) (n := 0) (by omega) (by omega) ?_
    exact W.lret (v := (-1)) hx hb hr (fun t ht hW => ⟨⟨(-1), (), rfl, (xr_next0 (hw_r_6.symm.trans c_7)).symm, trivial⟩, hS.F ht⟩) hS.2.2 dX12_next_58
  · refine lv_iload_n hx hb dX12_next_12 rfl (lv_at hl 2 rfl) ?_
    refine lv_iconst (v := (-1)) hx hb dX12_next_13 (by decide) ?_
    refine lv_icmp_eq (tgt := 27) hx hb dX12_next_14 (by decide) (fun c_8 => ?_) (fun c_8 => ?_)
    · refine lv_iload hx hb dX12_next_27 (lv_at hl 3 rfl) ?_
      refine lv_iconst (v := (-1)) hx hb dX12_next_29 (by decide) ?_
      refine lv_aload_n hx hb dX12_next_30 rfl (lv_at hl 0 rfl) ?_
      refine va_get (D := (dC, dI)) (ci := 12) (v := .ref msk) (C := RX12) (T := TX12) (N := 76) hx hb htw inlX12 hown hK hP 0 rfl rfl 24 (by decide) (htw _ (ck_9 _ (List.mem_of_getElem? (i := 7) rfl))) (fun _ h9 => h9) hf_3 dX12_next_31 ?_
      refine lv_iconst (v := 0) hx hb dX12_next_34 (by decide) ?_
      refine va_iald hx hb hK hP 1 0 rfl rfl (by unfold vp_in; decide) dX12_next_35 ?_
      refine lv_topi (fun z_9 ez_9 => ?_)
      obtain rfl : z_9 = 7 := ez_9.trans (hs0)
      refine lv_iconst (v := 1) hx hb dX12_next_36 (by decide) ?_
      refine lv_isub hx hb dX12_next_37 ?_
      refine lv_topi (fun z_10 ez_10 => ?_)
      obtain rfl : z_10 = 6 := ez_10.trans (by decide)
      have hPc := hP.sub (ws' := []) [] rfl
      have hKc := hK.sub (tys' := []) [] rfl
      refine vp_callSi (W.runS (As := [.int a2, .int (-1), .int 6]) (rest := []) ⟨hx, hb, hml, hown, htw⟩ (mm_isIn l dC dI a2 (-1 : Int32) (6 : Int32)) (va_cwS 3 htw (xg_S (ck_26 _ (List.mem_of_getElem? (i := 17) rfl)) (ck_26 _ (List.mem_of_getElem? (i := 18) rfl)) (ck_1 _ (List.mem_of_getElem? (i := 5) rfl)) (ck_26 _ (List.mem_of_getElem? (i := 19) rfl))) rfl rfl rfl (by decide +kernel) ⟨Nat.le_of_ble_eq_true rfl, Nat.le_of_ble_eq_true rfl⟩) ⟨fun a U g mk q => by obtain ⟨q0, qP, qK⟩ := q; exact ⟨q0, qP, va_K.moved (u := U) (U := U.calling g mk a) (Vm.Alike.refl U.vm) qK⟩, fun U hU hW => ⟨rfl, by rw [hU]; exact hPc, va_K.moved hW.alike hKc⟩⟩ rfl rfl hl.1 rfl (lv_room (Nat.le_of_ble_eq_true rfl)) dX12_next_38 ⟨Nat.le_of_ble_eq_true rfl, Nat.le_of_ble_eq_true rfl⟩) (fun r_11 hw => ?_)
      try dsimp only at hw
      have hw_r_11 : r_11 = xg_isin a2 (-1) 6 := hw
      refine lv_if_eq (tgt := 55) hx hb dX12_next_41 (by decide) (fun c_12 => ?_) (fun c_12 => ?_)
      · refine lv_ldc2 (v := (-1)) hx hb hown (htw _ (ck_29 _ (List.mem_of_getElem? (i := 13) rfl))) dX12_next_55 ?_
        refine W.widen (k := 0) (n := 0) (by omega) (by omega) ?_
        exact W.lret (v := (-1)) hx hb hr (fun t ht hW => ⟨⟨(-1), (), rfl, (xr_next1 (xm_askW (hw_r_11.symm.trans c_12))).symm, trivial⟩, hS.F ht⟩) hS.2.2 dX12_next_58
      · refine lv_iload hx hb dX12_next_44 (lv_at hl 4 rfl) ?_
        refine lv_iconst (v := (-1)) hx hb dX12_next_46 (by decide) ?_
        refine lv_bipush (v := 7) hx hb dX12_next_47 (by decide) ?_
        have hPc := hP.sub (ws' := []) [] rfl
        have hKc := hK.sub (tys' := []) [] rfl
        refine vp_callSi (W.runS (As := [.int a3, .int (-1), .int 7]) (rest := []) ⟨hx, hb, hml, hown, htw⟩ (mm_isIn l dC dI a3 (-1 : Int32) (7 : Int32)) (va_cwS 3 htw (xg_S (ck_26 _ (List.mem_of_getElem? (i := 17) rfl)) (ck_26 _ (List.mem_of_getElem? (i := 18) rfl)) (ck_1 _ (List.mem_of_getElem? (i := 5) rfl)) (ck_26 _ (List.mem_of_getElem? (i := 19) rfl))) rfl rfl rfl (by decide +kernel) ⟨Nat.le_of_ble_eq_true rfl, Nat.le_of_ble_eq_true rfl⟩) ⟨fun a U g mk q => by obtain ⟨q0, qP, qK⟩ := q; exact ⟨q0, qP, va_K.moved (u := U) (U := U.calling g mk a) (Vm.Alike.refl U.vm) qK⟩, fun U hU hW => ⟨rfl, by rw [hU]; exact hPc, va_K.moved hW.alike hKc⟩⟩ rfl rfl hl.1 rfl (lv_room (Nat.le_of_ble_eq_true rfl)) dX12_next_49 ⟨Nat.le_of_ble_eq_true rfl, Nat.le_of_ble_eq_true rfl⟩) (fun r_13 hw => ?_)
        try dsimp only at hw
        have hw_r_13 : r_13 = xg_isin a3 (-1) 7 := hw
        refine lv_if_ne (tgt := 59) hx hb dX12_next_52 (by decide) (fun c_14 => ?_) (fun c_14 => ?_)
        · have hask : xr_ask a1 a2 a3 := ⟨Or.inl c_8, xm_askW2 (fun h => c_12 (hw_r_11.trans h)), xm_askM2 (fun h => c_14 (hw_r_13.trans h))⟩
          have hR := xr_next2 (c := a0) (fun h => c_7 (hw_r_6.trans h)) hask
          have hc0 : 0 ≤ a0.toInt := Int64.le_iff_toInt_le.mp (xm_cntY (fun h => c_7 (hw_r_6.trans h))).1
          have hc := xm_cntY (fun h => c_7 (hw_r_6.trans h))
          refine lv_lload_n hx hb dX12_next_59 rfl (lv_at hl 1 rfl) ?_
          refine lv_lstore (lv' := [(6, .long a0), (0, .ref mq), (1, .long a0), (3, .int a1), (4, .int a2), (5, .int a3)]) hx hb dX12_next_60 hl (by decide) rfl (fun ls hl => ?_)
          have hloop_15 : ∀ (n : Nat) (i : Nat) (kk : Int64) (hi : i + n = 20000) (hk : kk.toInt = a0.toInt + (i : Int)) (hI : xn_go a1 a2 a3 20000 a0 = xn_go a1 a2 a3 n kk) (H : Heap) (locs : List Loc) (ls : Array Slot) (hP : va_P (dC, dI) vwCl [(mq, .inr (12, fs_1)), (msk, .inl (cY, 14, .inl fY))] H) (hD : va_D A [(mq, .inr (12, fs_1)), (msk, .inl (cY, 14, .inl fY))]) (hS : va_S A s.heap H locs) (hl : lv_has ls 9 [(6, .long kk), (0, .ref mq), (1, .long a0), (3, .int a1), (4, .int a2), (5, .int a3)]), W p l e (headSpec (Cond.code yX12_next cX12_next 9 (some .long) :: wsL_law) ({ frames := 1, cells := 0, slots := 0, locals := 23 })).room s m ([.ref mq, .long a0, .int a1, .int a2, .int a3] : List Value).toArray below meth c H locs 0 0 (MQ below (va_Ql (fun (r : Int64) (u : Unit) => r = xr_next a0 a1 a2 a3) (fun _ _ => True) A) ([.ref mq, .long a0, .int a1, .int a2, .int a3] : List Value).toArray s 0 0 A) (F0 m 62 ls []) := by
            intro n
            induction n with
            | zero =>
              intro i kk hi hk hI H locs ls hP hD hS hl
              obtain rfl : i = 20000 := by omega
              refine lv_lload hx hb dX12_next_62 (lv_at hl 0 rfl) ?_
              refine lv_lload_n hx hb dX12_next_64 rfl (lv_at hl 2 rfl) ?_
              refine lv_ldc2 (v := 20000) hx hb hown (htw _ (ck_44 _ (List.mem_of_getElem? (i := 1) rfl))) dX12_next_65 ?_
              refine lv_ladd hx hb dX12_next_68 ?_
              refine W.lcmp hx hb dX12_next_69 ?_
              refine lv_if_ge (tgt := 171) hx hb dX12_next_70 (by decide) (fun c_16 => ?_) (fun c_16 => absurd c_16 (fun h => h ((lg_cmp_ge _ _).mpr ((xm_end hc hk).mpr (by omega)))))
              refine lv_ldc2 (v := (-2)) hx hb hown (htw _ (ck_44 _ (List.mem_of_getElem? (i := 2) rfl))) dX12_next_171 ?_
              refine W.widen (k := 0) (n := 0) (by omega) (by omega) ?_
              exact W.lret (v := (-2)) hx hb hr (fun t ht hW => ⟨⟨(-2), (), rfl, hR.trans (hI.trans (xn_0 _ _ _ _)) |>.symm, trivial⟩, hS.F ht⟩) hS.2.2 dX12_next_174
            | succ n ih =>
              intro i kk hi hk hI H locs ls hP hD hS hl
              refine lv_lload hx hb dX12_next_62 (lv_at hl 0 rfl) ?_
              refine lv_lload_n hx hb dX12_next_64 rfl (lv_at hl 2 rfl) ?_
              refine lv_ldc2 (v := 20000) hx hb hown (htw _ (ck_44 _ (List.mem_of_getElem? (i := 1) rfl))) dX12_next_65 ?_
              refine lv_ladd hx hb dX12_next_68 ?_
              refine W.lcmp hx hb dX12_next_69 ?_
              refine lv_if_ge (tgt := 171) hx hb dX12_next_70 (by decide) (fun c_17 => absurd c_17 (fun h => absurd ((xm_end hc hk).mp ((lg_cmp_ge _ _).mp h)) (by omega))) (fun c_17 => ?_)
              refine lv_lload hx hb dX12_next_73 (lv_at hl 0 rfl) ?_
              refine lv_ldc2 (v := 1000000000000) hx hb hown (htw _ (ck_29 _ (List.mem_of_getElem? (i := 22) rfl))) dX12_next_75 ?_
              refine W.lcmp hx hb dX12_next_78 ?_
              refine lv_if_gt (tgt := 171) hx hb dX12_next_79 (by decide) (fun c_18 => ?_) (fun c_18 => ?_)
              · refine lv_ldc2 (v := (-2)) hx hb hown (htw _ (ck_44 _ (List.mem_of_getElem? (i := 2) rfl))) dX12_next_171 ?_
                refine W.widen (k := 0) (n := 0) (by omega) (by omega) ?_
                exact W.lret (v := (-2)) hx hb hr (fun t ht hW => ⟨⟨(-2), (), rfl, (hR.trans (hI.trans (xn_last ((lg_cmp_gt _ _).mp c_18)))).symm, trivial⟩, hS.F ht⟩) hS.2.2 dX12_next_174
              · refine lv_iload hx hb dX12_next_82 (lv_at hl 4 rfl) ?_
                refine lv_if_lt (tgt := 99) hx hb dX12_next_84 (by decide) (fun c_19 => ?_) (fun c_19 => ?_)
                · refine lv_iload hx hb dX12_next_99 (lv_at hl 5 rfl) ?_
                  refine lv_if_lt (tgt := 116) hx hb dX12_next_101 (by decide) (fun c_20 => ?_) (fun c_20 => ?_)
                  · refine lv_iconst (v := 1) hx hb dX12_next_116 (by decide) ?_
                    refine lv_goto (tgt := 121) hx hb dX12_next_117 (by decide) ?_
                    refine lv_istore (lv' := [(8, .int 1), (6, .long kk), (0, .ref mq), (1, .long a0), (3, .int a1), (4, .int a2), (5, .int a3)]) hx hb dX12_next_121 hl (by decide) rfl (fun ls hl => ?_)
                    refine lv_iload hx hb dX12_next_123 (lv_at hl 0 rfl) ?_
                    refine lv_if_eq (tgt := 162) hx hb dX12_next_125 (by decide) (fun c => absurd c (by decide)) (fun _ => ?_)
                    refine lv_iload_n hx hb dX12_next_128 rfl (lv_at hl 4 rfl) ?_
                    refine lv_if_lt (tgt := 159) hx hb dX12_next_129 (by decide) (fun c_21 => ?_) (fun c_21 => ?_)
                    · refine lv_lload hx hb dX12_next_159 (lv_at hl 1 rfl) ?_
                      refine W.widen (k := 0) (n := 0) (by omega) (by omega) ?_
                      exact W.lret (v := kk) hx hb hr (fun t ht hW => ⟨⟨kk, (), rfl, (hR.trans (hI.trans (xn_met (fun h => c_18 ((lg_cmp_gt _ _).mpr h)) ⟨c_21, Or.inl c_19, Or.inl c_20⟩))).symm, trivial⟩, hS.F ht⟩) hS.2.2 dX12_next_161
                    · refine lv_aload_n hx hb dX12_next_132 rfl (lv_at hl 2 rfl) ?_
                      refine va_get (D := (dC, dI)) (ci := 12) (v := .int 0) (C := RX12) (T := TX12) (N := 76) hx hb htw inlX12 hown hK hP 0 rfl rfl 12 (by decide) (htw _ (ck_11 _ (List.mem_of_getElem? (i := 9) rfl))) (fun _ h9 => h9) hf_4 dX12_next_133 ?_
                      refine lv_if_le (tgt := 162) hx hb dX12_next_136 (by decide) (fun _ => ?_) (fun c => absurd c (by decide))
                      refine lv_lload hx hb dX12_next_162 (lv_at hl 1 rfl) ?_
                      refine lv_lconst (v := 1) hx hb dX12_next_164 (by decide) ?_
                      refine lv_ladd hx hb dX12_next_165 ?_
                      refine lv_lstore (lv' := [(6, .long (kk + 1)), (8, .int 1), (0, .ref mq), (1, .long a0), (3, .int a1), (4, .int a2), (5, .int a3)]) hx hb dX12_next_166 hl (by decide) rfl (fun ls hl => ?_)
                      refine lv_goto (tgt := 62) hx hb dX12_next_168 (by decide) ?_
                      exact ih (i + 1) (kk + 1) (by omega) (xm_kk hc.2 hk ⟨hc0, by omega⟩) (hI.trans (xn_on (fun h => c_18 ((lg_cmp_gt _ _).mpr h)) (fun h => c_21 h.1))) H locs ls hP hD hS (lv_sub hl [0, 2, 3, 4, 5, 6] rfl)
                  · refine lv_aload_n hx hb dX12_next_104 rfl (lv_at hl 1 rfl) ?_
                    refine lv_lload hx hb dX12_next_105 (lv_at hl 0 rfl) ?_
                    refine lv_iconst (v := 1) hx hb dX12_next_107 (by decide) ?_
                    have hPc := hP.sub (ws' := [(mq, .inr (12, fs_1)), (msk, .inl (cY, 14, .inl fY))]) [0, 1] rfl
                    have hKc := hK.sub (tys' := [(cY, .int)]) [0] rfl
                    refine vp_callSi (W.runV (As := [.long kk, .int 1]) (rest := []) ⟨hx, hb, hml, hown, htw⟩ (mm_roundOf l dC dI mq fs_1 msk cY fY kk (1 : Int32) hlen_2 hf_3 hs0 hs1 hs2 hs3 hs4 hs5 hs6) (cwV 2 htw (xg_V (ck_38 _ (List.mem_of_getElem? (i := 8) rfl)) (ck_38 _ (List.mem_of_getElem? (i := 9) rfl)) (ck_38 _ (List.mem_of_getElem? (i := 10) rfl)) (ck_1 _ (List.mem_of_getElem? (i := 5) rfl)) (ck_38 _ (List.mem_of_getElem? (i := 11) rfl))) rfl rfl rfl (by decide +kernel) ⟨Nat.le_of_ble_eq_true rfl, Nat.le_of_ble_eq_true rfl⟩) ⟨fun a U g mk q => by obtain ⟨q0, qP, qK⟩ := q; exact ⟨q0, qP, va_K.moved (u := U) (U := U.calling g mk a) (Vm.Alike.refl U.vm) qK⟩, va_recv hKc hPc (ci := 12) (q0 := 0) rfl rfl, fun U hU hW => ⟨rfl, by rw [hU]; exact hPc, va_K.moved hW.alike hKc⟩⟩ rfl rfl hl.1 rfl (lv_room (Nat.le_of_ble_eq_true rfl)) dX12_next_108 ⟨Nat.le_of_ble_eq_true rfl, Nat.le_of_ble_eq_true rfl⟩) (fun r_22 hw => ?_)
                    try dsimp only at hw
                    obtain rfl : r_22 = xr_rnd kk 1 := hw
                    refine lv_iload hx hb dX12_next_111 (lv_at hl 5 rfl) ?_
                    refine lv_icmp_ne (tgt := 120) hx hb dX12_next_113 (by decide) (fun c_23 => ?_) (fun c_23 => ?_)
                    · refine lv_iconst (v := 0) hx hb dX12_next_120 (by decide) ?_
                      refine lv_istore (lv' := [(8, .int 0), (6, .long kk), (0, .ref mq), (1, .long a0), (3, .int a1), (4, .int a2), (5, .int a3)]) hx hb dX12_next_121 hl (by decide) rfl (fun ls hl => ?_)
                      refine lv_iload hx hb dX12_next_123 (lv_at hl 0 rfl) ?_
                      refine lv_if_eq (tgt := 162) hx hb dX12_next_125 (by decide) (fun _ => ?_) (fun c => absurd c (by decide))
                      refine lv_lload hx hb dX12_next_162 (lv_at hl 1 rfl) ?_
                      refine lv_lconst (v := 1) hx hb dX12_next_164 (by decide) ?_
                      refine lv_ladd hx hb dX12_next_165 ?_
                      refine lv_lstore (lv' := [(6, .long (kk + 1)), (8, .int 0), (0, .ref mq), (1, .long a0), (3, .int a1), (4, .int a2), (5, .int a3)]) hx hb dX12_next_166 hl (by decide) rfl (fun ls hl => ?_)
                      refine lv_goto (tgt := 62) hx hb dX12_next_168 (by decide) ?_
                      exact ih (i + 1) (kk + 1) (by omega) (xm_kk hc.2 hk ⟨hc0, by omega⟩) (hI.trans (xn_on (fun h => c_18 ((lg_cmp_gt _ _).mpr h)) (fun h => h.2.2.elim c_20 c_23))) H locs ls hP hD hS (lv_sub hl [0, 2, 3, 4, 5, 6] rfl)
                    · refine lv_iconst (v := 1) hx hb dX12_next_116 (by decide) ?_
                      refine lv_goto (tgt := 121) hx hb dX12_next_117 (by decide) ?_
                      refine lv_istore (lv' := [(8, .int 1), (6, .long kk), (0, .ref mq), (1, .long a0), (3, .int a1), (4, .int a2), (5, .int a3)]) hx hb dX12_next_121 hl (by decide) rfl (fun ls hl => ?_)
                      refine lv_iload hx hb dX12_next_123 (lv_at hl 0 rfl) ?_
                      refine lv_if_eq (tgt := 162) hx hb dX12_next_125 (by decide) (fun c => absurd c (by decide)) (fun _ => ?_)
                      refine lv_iload_n hx hb dX12_next_128 rfl (lv_at hl 4 rfl) ?_
                      refine lv_if_lt (tgt := 159) hx hb dX12_next_129 (by decide) (fun c_24 => ?_) (fun c_24 => ?_)
                      · refine lv_lload hx hb dX12_next_159 (lv_at hl 1 rfl) ?_
                        refine W.widen (k := 0) (n := 0) (by omega) (by omega) ?_
                        exact W.lret (v := kk) hx hb hr (fun t ht hW => ⟨⟨kk, (), rfl, (hR.trans (hI.trans (xn_met (fun h => c_18 ((lg_cmp_gt _ _).mpr h)) ⟨c_24, Or.inl c_19, Or.inr c_23⟩))).symm, trivial⟩, hS.F ht⟩) hS.2.2 dX12_next_161
                      · refine lv_aload_n hx hb dX12_next_132 rfl (lv_at hl 2 rfl) ?_
                        refine va_get (D := (dC, dI)) (ci := 12) (v := .int 0) (C := RX12) (T := TX12) (N := 76) hx hb htw inlX12 hown hK hP 0 rfl rfl 12 (by decide) (htw _ (ck_11 _ (List.mem_of_getElem? (i := 9) rfl))) (fun _ h9 => h9) hf_4 dX12_next_133 ?_
                        refine lv_if_le (tgt := 162) hx hb dX12_next_136 (by decide) (fun _ => ?_) (fun c => absurd c (by decide))
                        refine lv_lload hx hb dX12_next_162 (lv_at hl 1 rfl) ?_
                        refine lv_lconst (v := 1) hx hb dX12_next_164 (by decide) ?_
                        refine lv_ladd hx hb dX12_next_165 ?_
                        refine lv_lstore (lv' := [(6, .long (kk + 1)), (8, .int 1), (0, .ref mq), (1, .long a0), (3, .int a1), (4, .int a2), (5, .int a3)]) hx hb dX12_next_166 hl (by decide) rfl (fun ls hl => ?_)
                        refine lv_goto (tgt := 62) hx hb dX12_next_168 (by decide) ?_
                        exact ih (i + 1) (kk + 1) (by omega) (xm_kk hc.2 hk ⟨hc0, by omega⟩) (hI.trans (xn_on (fun h => c_18 ((lg_cmp_gt _ _).mpr h)) (fun h => c_24 h.1))) H locs ls hP hD hS (lv_sub hl [0, 2, 3, 4, 5, 6] rfl)
                · refine lv_aload_n hx hb dX12_next_87 rfl (lv_at hl 1 rfl) ?_
                  refine lv_lload hx hb dX12_next_88 (lv_at hl 0 rfl) ?_
                  refine lv_iconst (v := 0) hx hb dX12_next_90 (by decide) ?_
                  have hPc := hP.sub (ws' := [(mq, .inr (12, fs_1)), (msk, .inl (cY, 14, .inl fY))]) [0, 1] rfl
                  have hKc := hK.sub (tys' := [(cY, .int)]) [0] rfl
                  refine vp_callSi (W.runV (As := [.long kk, .int 0]) (rest := []) ⟨hx, hb, hml, hown, htw⟩ (mm_roundOf l dC dI mq fs_1 msk cY fY kk (0 : Int32) hlen_2 hf_3 hs0 hs1 hs2 hs3 hs4 hs5 hs6) (cwV 2 htw (xg_V (ck_38 _ (List.mem_of_getElem? (i := 8) rfl)) (ck_38 _ (List.mem_of_getElem? (i := 9) rfl)) (ck_38 _ (List.mem_of_getElem? (i := 10) rfl)) (ck_1 _ (List.mem_of_getElem? (i := 5) rfl)) (ck_38 _ (List.mem_of_getElem? (i := 11) rfl))) rfl rfl rfl (by decide +kernel) ⟨Nat.le_of_ble_eq_true rfl, Nat.le_of_ble_eq_true rfl⟩) ⟨fun a U g mk q => by obtain ⟨q0, qP, qK⟩ := q; exact ⟨q0, qP, va_K.moved (u := U) (U := U.calling g mk a) (Vm.Alike.refl U.vm) qK⟩, va_recv hKc hPc (ci := 12) (q0 := 0) rfl rfl, fun U hU hW => ⟨rfl, by rw [hU]; exact hPc, va_K.moved hW.alike hKc⟩⟩ rfl rfl hl.1 rfl (lv_room (Nat.le_of_ble_eq_true rfl)) dX12_next_91 ⟨Nat.le_of_ble_eq_true rfl, Nat.le_of_ble_eq_true rfl⟩) (fun r_25 hw => ?_)
                  try dsimp only at hw
                  obtain rfl : r_25 = xr_rnd kk 0 := hw
                  refine lv_iload hx hb dX12_next_94 (lv_at hl 4 rfl) ?_
                  refine lv_icmp_ne (tgt := 120) hx hb dX12_next_96 (by decide) (fun c_26 => ?_) (fun c_26 => ?_)
                  · refine lv_iconst (v := 0) hx hb dX12_next_120 (by decide) ?_
                    refine lv_istore (lv' := [(8, .int 0), (6, .long kk), (0, .ref mq), (1, .long a0), (3, .int a1), (4, .int a2), (5, .int a3)]) hx hb dX12_next_121 hl (by decide) rfl (fun ls hl => ?_)
                    refine lv_iload hx hb dX12_next_123 (lv_at hl 0 rfl) ?_
                    refine lv_if_eq (tgt := 162) hx hb dX12_next_125 (by decide) (fun _ => ?_) (fun c => absurd c (by decide))
                    refine lv_lload hx hb dX12_next_162 (lv_at hl 1 rfl) ?_
                    refine lv_lconst (v := 1) hx hb dX12_next_164 (by decide) ?_
                    refine lv_ladd hx hb dX12_next_165 ?_
                    refine lv_lstore (lv' := [(6, .long (kk + 1)), (8, .int 0), (0, .ref mq), (1, .long a0), (3, .int a1), (4, .int a2), (5, .int a3)]) hx hb dX12_next_166 hl (by decide) rfl (fun ls hl => ?_)
                    refine lv_goto (tgt := 62) hx hb dX12_next_168 (by decide) ?_
                    exact ih (i + 1) (kk + 1) (by omega) (xm_kk hc.2 hk ⟨hc0, by omega⟩) (hI.trans (xn_on (fun h => c_18 ((lg_cmp_gt _ _).mpr h)) (fun h => h.2.1.elim c_19 c_26))) H locs ls hP hD hS (lv_sub hl [0, 2, 3, 4, 5, 6] rfl)
                  · refine lv_iload hx hb dX12_next_99 (lv_at hl 5 rfl) ?_
                    refine lv_if_lt (tgt := 116) hx hb dX12_next_101 (by decide) (fun c_27 => ?_) (fun c_27 => ?_)
                    · refine lv_iconst (v := 1) hx hb dX12_next_116 (by decide) ?_
                      refine lv_goto (tgt := 121) hx hb dX12_next_117 (by decide) ?_
                      refine lv_istore (lv' := [(8, .int 1), (6, .long kk), (0, .ref mq), (1, .long a0), (3, .int a1), (4, .int a2), (5, .int a3)]) hx hb dX12_next_121 hl (by decide) rfl (fun ls hl => ?_)
                      refine lv_iload hx hb dX12_next_123 (lv_at hl 0 rfl) ?_
                      refine lv_if_eq (tgt := 162) hx hb dX12_next_125 (by decide) (fun c => absurd c (by decide)) (fun _ => ?_)
                      refine lv_iload_n hx hb dX12_next_128 rfl (lv_at hl 4 rfl) ?_
                      refine lv_if_lt (tgt := 159) hx hb dX12_next_129 (by decide) (fun c_28 => ?_) (fun c_28 => ?_)
                      · refine lv_lload hx hb dX12_next_159 (lv_at hl 1 rfl) ?_
                        refine W.widen (k := 0) (n := 0) (by omega) (by omega) ?_
                        exact W.lret (v := kk) hx hb hr (fun t ht hW => ⟨⟨kk, (), rfl, (hR.trans (hI.trans (xn_met (fun h => c_18 ((lg_cmp_gt _ _).mpr h)) ⟨c_28, Or.inr c_26, Or.inl c_27⟩))).symm, trivial⟩, hS.F ht⟩) hS.2.2 dX12_next_161
                      · refine lv_aload_n hx hb dX12_next_132 rfl (lv_at hl 2 rfl) ?_
                        refine va_get (D := (dC, dI)) (ci := 12) (v := .int 0) (C := RX12) (T := TX12) (N := 76) hx hb htw inlX12 hown hK hP 0 rfl rfl 12 (by decide) (htw _ (ck_11 _ (List.mem_of_getElem? (i := 9) rfl))) (fun _ h9 => h9) hf_4 dX12_next_133 ?_
                        refine lv_if_le (tgt := 162) hx hb dX12_next_136 (by decide) (fun _ => ?_) (fun c => absurd c (by decide))
                        refine lv_lload hx hb dX12_next_162 (lv_at hl 1 rfl) ?_
                        refine lv_lconst (v := 1) hx hb dX12_next_164 (by decide) ?_
                        refine lv_ladd hx hb dX12_next_165 ?_
                        refine lv_lstore (lv' := [(6, .long (kk + 1)), (8, .int 1), (0, .ref mq), (1, .long a0), (3, .int a1), (4, .int a2), (5, .int a3)]) hx hb dX12_next_166 hl (by decide) rfl (fun ls hl => ?_)
                        refine lv_goto (tgt := 62) hx hb dX12_next_168 (by decide) ?_
                        exact ih (i + 1) (kk + 1) (by omega) (xm_kk hc.2 hk ⟨hc0, by omega⟩) (hI.trans (xn_on (fun h => c_18 ((lg_cmp_gt _ _).mpr h)) (fun h => c_28 h.1))) H locs ls hP hD hS (lv_sub hl [0, 2, 3, 4, 5, 6] rfl)
                    · refine lv_aload_n hx hb dX12_next_104 rfl (lv_at hl 1 rfl) ?_
                      refine lv_lload hx hb dX12_next_105 (lv_at hl 0 rfl) ?_
                      refine lv_iconst (v := 1) hx hb dX12_next_107 (by decide) ?_
                      have hPc := hP.sub (ws' := [(mq, .inr (12, fs_1)), (msk, .inl (cY, 14, .inl fY))]) [0, 1] rfl
                      have hKc := hK.sub (tys' := [(cY, .int)]) [0] rfl
                      refine vp_callSi (W.runV (As := [.long kk, .int 1]) (rest := []) ⟨hx, hb, hml, hown, htw⟩ (mm_roundOf l dC dI mq fs_1 msk cY fY kk (1 : Int32) hlen_2 hf_3 hs0 hs1 hs2 hs3 hs4 hs5 hs6) (cwV 2 htw (xg_V (ck_38 _ (List.mem_of_getElem? (i := 8) rfl)) (ck_38 _ (List.mem_of_getElem? (i := 9) rfl)) (ck_38 _ (List.mem_of_getElem? (i := 10) rfl)) (ck_1 _ (List.mem_of_getElem? (i := 5) rfl)) (ck_38 _ (List.mem_of_getElem? (i := 11) rfl))) rfl rfl rfl (by decide +kernel) ⟨Nat.le_of_ble_eq_true rfl, Nat.le_of_ble_eq_true rfl⟩) ⟨fun a U g mk q => by obtain ⟨q0, qP, qK⟩ := q; exact ⟨q0, qP, va_K.moved (u := U) (U := U.calling g mk a) (Vm.Alike.refl U.vm) qK⟩, va_recv hKc hPc (ci := 12) (q0 := 0) rfl rfl, fun U hU hW => ⟨rfl, by rw [hU]; exact hPc, va_K.moved hW.alike hKc⟩⟩ rfl rfl hl.1 rfl (lv_room (Nat.le_of_ble_eq_true rfl)) dX12_next_108 ⟨Nat.le_of_ble_eq_true rfl, Nat.le_of_ble_eq_true rfl⟩) (fun r_29 hw => ?_)
                      try dsimp only at hw
                      obtain rfl : r_29 = xr_rnd kk 1 := hw
                      refine lv_iload hx hb dX12_next_111 (lv_at hl 5 rfl) ?_
                      refine lv_icmp_ne (tgt := 120) hx hb dX12_next_113 (by decide) (fun c_30 => ?_) (fun c_30 => ?_)
                      · refine lv_iconst (v := 0) hx hb dX12_next_120 (by decide) ?_
                        refine lv_istore (lv' := [(8, .int 0), (6, .long kk), (0, .ref mq), (1, .long a0), (3, .int a1), (4, .int a2), (5, .int a3)]) hx hb dX12_next_121 hl (by decide) rfl (fun ls hl => ?_)
                        refine lv_iload hx hb dX12_next_123 (lv_at hl 0 rfl) ?_
                        refine lv_if_eq (tgt := 162) hx hb dX12_next_125 (by decide) (fun _ => ?_) (fun c => absurd c (by decide))
                        refine lv_lload hx hb dX12_next_162 (lv_at hl 1 rfl) ?_
                        refine lv_lconst (v := 1) hx hb dX12_next_164 (by decide) ?_
                        refine lv_ladd hx hb dX12_next_165 ?_
                        refine lv_lstore (lv' := [(6, .long (kk + 1)), (8, .int 0), (0, .ref mq), (1, .long a0), (3, .int a1), (4, .int a2), (5, .int a3)]) hx hb dX12_next_166 hl (by decide) rfl (fun ls hl => ?_)
                        refine lv_goto (tgt := 62) hx hb dX12_next_168 (by decide) ?_
                        exact ih (i + 1) (kk + 1) (by omega) (xm_kk hc.2 hk ⟨hc0, by omega⟩) (hI.trans (xn_on (fun h => c_18 ((lg_cmp_gt _ _).mpr h)) (fun h => h.2.2.elim c_27 c_30))) H locs ls hP hD hS (lv_sub hl [0, 2, 3, 4, 5, 6] rfl)
                      · refine lv_iconst (v := 1) hx hb dX12_next_116 (by decide) ?_
                        refine lv_goto (tgt := 121) hx hb dX12_next_117 (by decide) ?_
                        refine lv_istore (lv' := [(8, .int 1), (6, .long kk), (0, .ref mq), (1, .long a0), (3, .int a1), (4, .int a2), (5, .int a3)]) hx hb dX12_next_121 hl (by decide) rfl (fun ls hl => ?_)
                        refine lv_iload hx hb dX12_next_123 (lv_at hl 0 rfl) ?_
                        refine lv_if_eq (tgt := 162) hx hb dX12_next_125 (by decide) (fun c => absurd c (by decide)) (fun _ => ?_)
                        refine lv_iload_n hx hb dX12_next_128 rfl (lv_at hl 4 rfl) ?_
                        refine lv_if_lt (tgt := 159) hx hb dX12_next_129 (by decide) (fun c_31 => ?_) (fun c_31 => ?_)
                        · refine lv_lload hx hb dX12_next_159 (lv_at hl 1 rfl) ?_
                          refine W.widen (k := 0) (n := 0) (by omega) (by omega) ?_
                          exact W.lret (v := kk) hx hb hr (fun t ht hW => ⟨⟨kk, (), rfl, (hR.trans (hI.trans (xn_met (fun h => c_18 ((lg_cmp_gt _ _).mpr h)) ⟨c_31, Or.inr c_26, Or.inr c_30⟩))).symm, trivial⟩, hS.F ht⟩) hS.2.2 dX12_next_161
                        · refine lv_aload_n hx hb dX12_next_132 rfl (lv_at hl 2 rfl) ?_
                          refine va_get (D := (dC, dI)) (ci := 12) (v := .int 0) (C := RX12) (T := TX12) (N := 76) hx hb htw inlX12 hown hK hP 0 rfl rfl 12 (by decide) (htw _ (ck_11 _ (List.mem_of_getElem? (i := 9) rfl))) (fun _ h9 => h9) hf_4 dX12_next_133 ?_
                          refine lv_if_le (tgt := 162) hx hb dX12_next_136 (by decide) (fun _ => ?_) (fun c => absurd c (by decide))
                          refine lv_lload hx hb dX12_next_162 (lv_at hl 1 rfl) ?_
                          refine lv_lconst (v := 1) hx hb dX12_next_164 (by decide) ?_
                          refine lv_ladd hx hb dX12_next_165 ?_
                          refine lv_lstore (lv' := [(6, .long (kk + 1)), (8, .int 1), (0, .ref mq), (1, .long a0), (3, .int a1), (4, .int a2), (5, .int a3)]) hx hb dX12_next_166 hl (by decide) rfl (fun ls hl => ?_)
                          refine lv_goto (tgt := 62) hx hb dX12_next_168 (by decide) ?_
                          exact ih (i + 1) (kk + 1) (by omega) (xm_kk hc.2 hk ⟨hc0, by omega⟩) (hI.trans (xn_on (fun h => c_18 ((lg_cmp_gt _ _).mpr h)) (fun h => c_31 h.1))) H locs ls hP hD hS (lv_sub hl [0, 2, 3, 4, 5, 6] rfl)
          exact hloop_15 20000 0 a0 (by omega) (by simp) rfl _ _ ls hP hD hS (lv_sub hl [0, 1, 2, 3, 4, 5] rfl)
        · refine lv_ldc2 (v := (-1)) hx hb hown (htw _ (ck_29 _ (List.mem_of_getElem? (i := 13) rfl))) dX12_next_55 ?_
          refine W.widen (k := 0) (n := 0) (by omega) (by omega) ?_
          exact W.lret (v := (-1)) hx hb hr (fun t ht hW => ⟨⟨(-1), (), rfl, (xr_next1 (xm_askM (hw_r_13.symm.trans c_14))).symm, trivial⟩, hS.F ht⟩) hS.2.2 dX12_next_58
    · refine lv_iload_n hx hb dX12_next_17 rfl (lv_at hl 2 rfl) ?_
      refine lv_iconst (v := 1) hx hb dX12_next_18 (by decide) ?_
      refine lv_ldc (v := 99999) hx hb hown (htw _ (ck_24 _ (List.mem_of_getElem? (i := 20) rfl))) dX12_next_19 ?_
      have hPc := hP.sub (ws' := []) [] rfl
      have hKc := hK.sub (tys' := []) [] rfl
      refine vp_callSi (W.runS (As := [.int a1, .int 1, .int 99999]) (rest := []) ⟨hx, hb, hml, hown, htw⟩ (mm_isIn l dC dI a1 (1 : Int32) (99999 : Int32)) (va_cwS 3 htw (xg_S (ck_26 _ (List.mem_of_getElem? (i := 17) rfl)) (ck_26 _ (List.mem_of_getElem? (i := 18) rfl)) (ck_1 _ (List.mem_of_getElem? (i := 5) rfl)) (ck_26 _ (List.mem_of_getElem? (i := 19) rfl))) rfl rfl rfl (by decide +kernel) ⟨Nat.le_of_ble_eq_true rfl, Nat.le_of_ble_eq_true rfl⟩) ⟨fun a U g mk q => by obtain ⟨q0, qP, qK⟩ := q; exact ⟨q0, qP, va_K.moved (u := U) (U := U.calling g mk a) (Vm.Alike.refl U.vm) qK⟩, fun U hU hW => ⟨rfl, by rw [hU]; exact hPc, va_K.moved hW.alike hKc⟩⟩ rfl rfl hl.1 rfl (lv_room (Nat.le_of_ble_eq_true rfl)) dX12_next_21 ⟨Nat.le_of_ble_eq_true rfl, Nat.le_of_ble_eq_true rfl⟩) (fun r_32 hw => ?_)
      try dsimp only at hw
      have hw_r_32 : r_32 = xg_isin a1 1 99999 := hw
      refine lv_if_eq (tgt := 55) hx hb dX12_next_24 (by decide) (fun c_33 => ?_) (fun c_33 => ?_)
      · refine lv_ldc2 (v := (-1)) hx hb hown (htw _ (ck_29 _ (List.mem_of_getElem? (i := 13) rfl))) dX12_next_55 ?_
        refine W.widen (k := 0) (n := 0) (by omega) (by omega) ?_
        exact W.lret (v := (-1)) hx hb hr (fun t ht hW => ⟨⟨(-1), (), rfl, (xr_next1 (xm_askD c_8 (hw_r_32.symm.trans c_33))).symm, trivial⟩, hS.F ht⟩) hS.2.2 dX12_next_58
      · refine lv_iload hx hb dX12_next_27 (lv_at hl 3 rfl) ?_
        refine lv_iconst (v := (-1)) hx hb dX12_next_29 (by decide) ?_
        refine lv_aload_n hx hb dX12_next_30 rfl (lv_at hl 0 rfl) ?_
        refine va_get (D := (dC, dI)) (ci := 12) (v := .ref msk) (C := RX12) (T := TX12) (N := 76) hx hb htw inlX12 hown hK hP 0 rfl rfl 24 (by decide) (htw _ (ck_9 _ (List.mem_of_getElem? (i := 7) rfl))) (fun _ h9 => h9) hf_3 dX12_next_31 ?_
        refine lv_iconst (v := 0) hx hb dX12_next_34 (by decide) ?_
        refine va_iald hx hb hK hP 1 0 rfl rfl (by unfold vp_in; decide) dX12_next_35 ?_
        refine lv_topi (fun z_34 ez_34 => ?_)
        obtain rfl : z_34 = 7 := ez_34.trans (hs0)
        refine lv_iconst (v := 1) hx hb dX12_next_36 (by decide) ?_
        refine lv_isub hx hb dX12_next_37 ?_
        refine lv_topi (fun z_35 ez_35 => ?_)
        obtain rfl : z_35 = 6 := ez_35.trans (by decide)
        have hPc := hP.sub (ws' := []) [] rfl
        have hKc := hK.sub (tys' := []) [] rfl
        refine vp_callSi (W.runS (As := [.int a2, .int (-1), .int 6]) (rest := []) ⟨hx, hb, hml, hown, htw⟩ (mm_isIn l dC dI a2 (-1 : Int32) (6 : Int32)) (va_cwS 3 htw (xg_S (ck_26 _ (List.mem_of_getElem? (i := 17) rfl)) (ck_26 _ (List.mem_of_getElem? (i := 18) rfl)) (ck_1 _ (List.mem_of_getElem? (i := 5) rfl)) (ck_26 _ (List.mem_of_getElem? (i := 19) rfl))) rfl rfl rfl (by decide +kernel) ⟨Nat.le_of_ble_eq_true rfl, Nat.le_of_ble_eq_true rfl⟩) ⟨fun a U g mk q => by obtain ⟨q0, qP, qK⟩ := q; exact ⟨q0, qP, va_K.moved (u := U) (U := U.calling g mk a) (Vm.Alike.refl U.vm) qK⟩, fun U hU hW => ⟨rfl, by rw [hU]; exact hPc, va_K.moved hW.alike hKc⟩⟩ rfl rfl hl.1 rfl (lv_room (Nat.le_of_ble_eq_true rfl)) dX12_next_38 ⟨Nat.le_of_ble_eq_true rfl, Nat.le_of_ble_eq_true rfl⟩) (fun r_36 hw => ?_)
        try dsimp only at hw
        have hw_r_36 : r_36 = xg_isin a2 (-1) 6 := hw
        refine lv_if_eq (tgt := 55) hx hb dX12_next_41 (by decide) (fun c_37 => ?_) (fun c_37 => ?_)
        · refine lv_ldc2 (v := (-1)) hx hb hown (htw _ (ck_29 _ (List.mem_of_getElem? (i := 13) rfl))) dX12_next_55 ?_
          refine W.widen (k := 0) (n := 0) (by omega) (by omega) ?_
          exact W.lret (v := (-1)) hx hb hr (fun t ht hW => ⟨⟨(-1), (), rfl, (xr_next1 (xm_askW (hw_r_36.symm.trans c_37))).symm, trivial⟩, hS.F ht⟩) hS.2.2 dX12_next_58
        · refine lv_iload hx hb dX12_next_44 (lv_at hl 4 rfl) ?_
          refine lv_iconst (v := (-1)) hx hb dX12_next_46 (by decide) ?_
          refine lv_bipush (v := 7) hx hb dX12_next_47 (by decide) ?_
          have hPc := hP.sub (ws' := []) [] rfl
          have hKc := hK.sub (tys' := []) [] rfl
          refine vp_callSi (W.runS (As := [.int a3, .int (-1), .int 7]) (rest := []) ⟨hx, hb, hml, hown, htw⟩ (mm_isIn l dC dI a3 (-1 : Int32) (7 : Int32)) (va_cwS 3 htw (xg_S (ck_26 _ (List.mem_of_getElem? (i := 17) rfl)) (ck_26 _ (List.mem_of_getElem? (i := 18) rfl)) (ck_1 _ (List.mem_of_getElem? (i := 5) rfl)) (ck_26 _ (List.mem_of_getElem? (i := 19) rfl))) rfl rfl rfl (by decide +kernel) ⟨Nat.le_of_ble_eq_true rfl, Nat.le_of_ble_eq_true rfl⟩) ⟨fun a U g mk q => by obtain ⟨q0, qP, qK⟩ := q; exact ⟨q0, qP, va_K.moved (u := U) (U := U.calling g mk a) (Vm.Alike.refl U.vm) qK⟩, fun U hU hW => ⟨rfl, by rw [hU]; exact hPc, va_K.moved hW.alike hKc⟩⟩ rfl rfl hl.1 rfl (lv_room (Nat.le_of_ble_eq_true rfl)) dX12_next_49 ⟨Nat.le_of_ble_eq_true rfl, Nat.le_of_ble_eq_true rfl⟩) (fun r_38 hw => ?_)
          try dsimp only at hw
          have hw_r_38 : r_38 = xg_isin a3 (-1) 7 := hw
          refine lv_if_ne (tgt := 59) hx hb dX12_next_52 (by decide) (fun c_39 => ?_) (fun c_39 => ?_)
          · have hask : xr_ask a1 a2 a3 := ⟨Or.inr (xg_isinY (fun h => c_33 (hw_r_32.trans h))), xm_askW2 (fun h => c_37 (hw_r_36.trans h)), xm_askM2 (fun h => c_39 (hw_r_38.trans h))⟩
            have hR := xr_next2 (c := a0) (fun h => c_7 (hw_r_6.trans h)) hask
            have hc0 : 0 ≤ a0.toInt := Int64.le_iff_toInt_le.mp (xm_cntY (fun h => c_7 (hw_r_6.trans h))).1
            have hc := xm_cntY (fun h => c_7 (hw_r_6.trans h))
            refine lv_lload_n hx hb dX12_next_59 rfl (lv_at hl 1 rfl) ?_
            refine lv_lstore (lv' := [(6, .long a0), (0, .ref mq), (1, .long a0), (3, .int a1), (4, .int a2), (5, .int a3)]) hx hb dX12_next_60 hl (by decide) rfl (fun ls hl => ?_)
            have hloop_40 : ∀ (n : Nat) (i : Nat) (kk : Int64) (hi : i + n = 20000) (hk : kk.toInt = a0.toInt + (i : Int)) (hI : xn_go a1 a2 a3 20000 a0 = xn_go a1 a2 a3 n kk) (H : Heap) (locs : List Loc) (ls : Array Slot) (hP : va_P (dC, dI) vwCl [(mq, .inr (12, fs_1)), (msk, .inl (cY, 14, .inl fY))] H) (hD : va_D A [(mq, .inr (12, fs_1)), (msk, .inl (cY, 14, .inl fY))]) (hS : va_S A s.heap H locs) (hl : lv_has ls 9 [(6, .long kk), (0, .ref mq), (1, .long a0), (3, .int a1), (4, .int a2), (5, .int a3)]), W p l e (headSpec (Cond.code yX12_next cX12_next 9 (some .long) :: wsL_law) ({ frames := 1, cells := 0, slots := 0, locals := 23 })).room s m ([.ref mq, .long a0, .int a1, .int a2, .int a3] : List Value).toArray below meth c H locs 0 0 (MQ below (va_Ql (fun (r : Int64) (u : Unit) => r = xr_next a0 a1 a2 a3) (fun _ _ => True) A) ([.ref mq, .long a0, .int a1, .int a2, .int a3] : List Value).toArray s 0 0 A) (F0 m 62 ls []) := by
              intro n
              induction n with
              | zero =>
                intro i kk hi hk hI H locs ls hP hD hS hl
                obtain rfl : i = 20000 := by omega
                refine lv_lload hx hb dX12_next_62 (lv_at hl 0 rfl) ?_
                refine lv_lload_n hx hb dX12_next_64 rfl (lv_at hl 2 rfl) ?_
                refine lv_ldc2 (v := 20000) hx hb hown (htw _ (ck_44 _ (List.mem_of_getElem? (i := 1) rfl))) dX12_next_65 ?_
                refine lv_ladd hx hb dX12_next_68 ?_
                refine W.lcmp hx hb dX12_next_69 ?_
                refine lv_if_ge (tgt := 171) hx hb dX12_next_70 (by decide) (fun c_41 => ?_) (fun c_41 => absurd c_41 (fun h => h ((lg_cmp_ge _ _).mpr ((xm_end hc hk).mpr (by omega)))))
                refine lv_ldc2 (v := (-2)) hx hb hown (htw _ (ck_44 _ (List.mem_of_getElem? (i := 2) rfl))) dX12_next_171 ?_
                refine W.widen (k := 0) (n := 0) (by omega) (by omega) ?_
                exact W.lret (v := (-2)) hx hb hr (fun t ht hW => ⟨⟨(-2), (), rfl, hR.trans (hI.trans (xn_0 _ _ _ _)) |>.symm, trivial⟩, hS.F ht⟩) hS.2.2 dX12_next_174
              | succ n ih =>
                intro i kk hi hk hI H locs ls hP hD hS hl
                refine lv_lload hx hb dX12_next_62 (lv_at hl 0 rfl) ?_
                refine lv_lload_n hx hb dX12_next_64 rfl (lv_at hl 2 rfl) ?_
                refine lv_ldc2 (v := 20000) hx hb hown (htw _ (ck_44 _ (List.mem_of_getElem? (i := 1) rfl))) dX12_next_65 ?_
                refine lv_ladd hx hb dX12_next_68 ?_
                refine W.lcmp hx hb dX12_next_69 ?_
                refine lv_if_ge (tgt := 171) hx hb dX12_next_70 (by decide) (fun c_42 => absurd c_42 (fun h => absurd ((xm_end hc hk).mp ((lg_cmp_ge _ _).mp h)) (by omega))) (fun c_42 => ?_)
                refine lv_lload hx hb dX12_next_73 (lv_at hl 0 rfl) ?_
                refine lv_ldc2 (v := 1000000000000) hx hb hown (htw _ (ck_29 _ (List.mem_of_getElem? (i := 22) rfl))) dX12_next_75 ?_
                refine W.lcmp hx hb dX12_next_78 ?_
                refine lv_if_gt (tgt := 171) hx hb dX12_next_79 (by decide) (fun c_43 => ?_) (fun c_43 => ?_)
                · refine lv_ldc2 (v := (-2)) hx hb hown (htw _ (ck_44 _ (List.mem_of_getElem? (i := 2) rfl))) dX12_next_171 ?_
                  refine W.widen (k := 0) (n := 0) (by omega) (by omega) ?_
                  exact W.lret (v := (-2)) hx hb hr (fun t ht hW => ⟨⟨(-2), (), rfl, (hR.trans (hI.trans (xn_last ((lg_cmp_gt _ _).mp c_43)))).symm, trivial⟩, hS.F ht⟩) hS.2.2 dX12_next_174
                · refine lv_iload hx hb dX12_next_82 (lv_at hl 4 rfl) ?_
                  refine lv_if_lt (tgt := 99) hx hb dX12_next_84 (by decide) (fun c_44 => ?_) (fun c_44 => ?_)
                  · refine lv_iload hx hb dX12_next_99 (lv_at hl 5 rfl) ?_
                    refine lv_if_lt (tgt := 116) hx hb dX12_next_101 (by decide) (fun c_45 => ?_) (fun c_45 => ?_)
                    · refine lv_iconst (v := 1) hx hb dX12_next_116 (by decide) ?_
                      refine lv_goto (tgt := 121) hx hb dX12_next_117 (by decide) ?_
                      refine lv_istore (lv' := [(8, .int 1), (6, .long kk), (0, .ref mq), (1, .long a0), (3, .int a1), (4, .int a2), (5, .int a3)]) hx hb dX12_next_121 hl (by decide) rfl (fun ls hl => ?_)
                      refine lv_iload hx hb dX12_next_123 (lv_at hl 0 rfl) ?_
                      refine lv_if_eq (tgt := 162) hx hb dX12_next_125 (by decide) (fun c => absurd c (by decide)) (fun _ => ?_)
                      refine lv_iload_n hx hb dX12_next_128 rfl (lv_at hl 4 rfl) ?_
                      refine lv_if_lt (tgt := 159) hx hb dX12_next_129 (by decide) (fun c_46 => ?_) (fun c_46 => ?_)
                      · refine lv_lload hx hb dX12_next_159 (lv_at hl 1 rfl) ?_
                        refine W.widen (k := 0) (n := 0) (by omega) (by omega) ?_
                        exact W.lret (v := kk) hx hb hr (fun t ht hW => ⟨⟨kk, (), rfl, (hR.trans (hI.trans (xn_met (fun h => c_43 ((lg_cmp_gt _ _).mpr h)) ⟨c_46, Or.inl c_44, Or.inl c_45⟩))).symm, trivial⟩, hS.F ht⟩) hS.2.2 dX12_next_161
                      · refine lv_aload_n hx hb dX12_next_132 rfl (lv_at hl 2 rfl) ?_
                        refine va_get (D := (dC, dI)) (ci := 12) (v := .int 0) (C := RX12) (T := TX12) (N := 76) hx hb htw inlX12 hown hK hP 0 rfl rfl 12 (by decide) (htw _ (ck_11 _ (List.mem_of_getElem? (i := 9) rfl))) (fun _ h9 => h9) hf_4 dX12_next_133 ?_
                        refine lv_if_le (tgt := 162) hx hb dX12_next_136 (by decide) (fun _ => ?_) (fun c => absurd c (by decide))
                        refine lv_lload hx hb dX12_next_162 (lv_at hl 1 rfl) ?_
                        refine lv_lconst (v := 1) hx hb dX12_next_164 (by decide) ?_
                        refine lv_ladd hx hb dX12_next_165 ?_
                        refine lv_lstore (lv' := [(6, .long (kk + 1)), (8, .int 1), (0, .ref mq), (1, .long a0), (3, .int a1), (4, .int a2), (5, .int a3)]) hx hb dX12_next_166 hl (by decide) rfl (fun ls hl => ?_)
                        refine lv_goto (tgt := 62) hx hb dX12_next_168 (by decide) ?_
                        exact ih (i + 1) (kk + 1) (by omega) (xm_kk hc.2 hk ⟨hc0, by omega⟩) (hI.trans (xn_on (fun h => c_43 ((lg_cmp_gt _ _).mpr h)) (fun h => c_46 h.1))) H locs ls hP hD hS (lv_sub hl [0, 2, 3, 4, 5, 6] rfl)
                    · refine lv_aload_n hx hb dX12_next_104 rfl (lv_at hl 1 rfl) ?_
                      refine lv_lload hx hb dX12_next_105 (lv_at hl 0 rfl) ?_
                      refine lv_iconst (v := 1) hx hb dX12_next_107 (by decide) ?_
                      have hPc := hP.sub (ws' := [(mq, .inr (12, fs_1)), (msk, .inl (cY, 14, .inl fY))]) [0, 1] rfl
                      have hKc := hK.sub (tys' := [(cY, .int)]) [0] rfl
                      refine vp_callSi (W.runV (As := [.long kk, .int 1]) (rest := []) ⟨hx, hb, hml, hown, htw⟩ (mm_roundOf l dC dI mq fs_1 msk cY fY kk (1 : Int32) hlen_2 hf_3 hs0 hs1 hs2 hs3 hs4 hs5 hs6) (cwV 2 htw (xg_V (ck_38 _ (List.mem_of_getElem? (i := 8) rfl)) (ck_38 _ (List.mem_of_getElem? (i := 9) rfl)) (ck_38 _ (List.mem_of_getElem? (i := 10) rfl)) (ck_1 _ (List.mem_of_getElem? (i := 5) rfl)) (ck_38 _ (List.mem_of_getElem? (i := 11) rfl))) rfl rfl rfl (by decide +kernel) ⟨Nat.le_of_ble_eq_true rfl, Nat.le_of_ble_eq_true rfl⟩) ⟨fun a U g mk q => by obtain ⟨q0, qP, qK⟩ := q; exact ⟨q0, qP, va_K.moved (u := U) (U := U.calling g mk a) (Vm.Alike.refl U.vm) qK⟩, va_recv hKc hPc (ci := 12) (q0 := 0) rfl rfl, fun U hU hW => ⟨rfl, by rw [hU]; exact hPc, va_K.moved hW.alike hKc⟩⟩ rfl rfl hl.1 rfl (lv_room (Nat.le_of_ble_eq_true rfl)) dX12_next_108 ⟨Nat.le_of_ble_eq_true rfl, Nat.le_of_ble_eq_true rfl⟩) (fun r_47 hw => ?_)
                      try dsimp only at hw
                      obtain rfl : r_47 = xr_rnd kk 1 := hw
                      refine lv_iload hx hb dX12_next_111 (lv_at hl 5 rfl) ?_
                      refine lv_icmp_ne (tgt := 120) hx hb dX12_next_113 (by decide) (fun c_48 => ?_) (fun c_48 => ?_)
                      · refine lv_iconst (v := 0) hx hb dX12_next_120 (by decide) ?_
                        refine lv_istore (lv' := [(8, .int 0), (6, .long kk), (0, .ref mq), (1, .long a0), (3, .int a1), (4, .int a2), (5, .int a3)]) hx hb dX12_next_121 hl (by decide) rfl (fun ls hl => ?_)
                        refine lv_iload hx hb dX12_next_123 (lv_at hl 0 rfl) ?_
                        refine lv_if_eq (tgt := 162) hx hb dX12_next_125 (by decide) (fun _ => ?_) (fun c => absurd c (by decide))
                        refine lv_lload hx hb dX12_next_162 (lv_at hl 1 rfl) ?_
                        refine lv_lconst (v := 1) hx hb dX12_next_164 (by decide) ?_
                        refine lv_ladd hx hb dX12_next_165 ?_
                        refine lv_lstore (lv' := [(6, .long (kk + 1)), (8, .int 0), (0, .ref mq), (1, .long a0), (3, .int a1), (4, .int a2), (5, .int a3)]) hx hb dX12_next_166 hl (by decide) rfl (fun ls hl => ?_)
                        refine lv_goto (tgt := 62) hx hb dX12_next_168 (by decide) ?_
                        exact ih (i + 1) (kk + 1) (by omega) (xm_kk hc.2 hk ⟨hc0, by omega⟩) (hI.trans (xn_on (fun h => c_43 ((lg_cmp_gt _ _).mpr h)) (fun h => h.2.2.elim c_45 c_48))) H locs ls hP hD hS (lv_sub hl [0, 2, 3, 4, 5, 6] rfl)
                      · refine lv_iconst (v := 1) hx hb dX12_next_116 (by decide) ?_
                        refine lv_goto (tgt := 121) hx hb dX12_next_117 (by decide) ?_
                        refine lv_istore (lv' := [(8, .int 1), (6, .long kk), (0, .ref mq), (1, .long a0), (3, .int a1), (4, .int a2), (5, .int a3)]) hx hb dX12_next_121 hl (by decide) rfl (fun ls hl => ?_)
                        refine lv_iload hx hb dX12_next_123 (lv_at hl 0 rfl) ?_
                        refine lv_if_eq (tgt := 162) hx hb dX12_next_125 (by decide) (fun c => absurd c (by decide)) (fun _ => ?_)
                        refine lv_iload_n hx hb dX12_next_128 rfl (lv_at hl 4 rfl) ?_
                        refine lv_if_lt (tgt := 159) hx hb dX12_next_129 (by decide) (fun c_49 => ?_) (fun c_49 => ?_)
                        · refine lv_lload hx hb dX12_next_159 (lv_at hl 1 rfl) ?_
                          refine W.widen (k := 0) (n := 0) (by omega) (by omega) ?_
                          exact W.lret (v := kk) hx hb hr (fun t ht hW => ⟨⟨kk, (), rfl, (hR.trans (hI.trans (xn_met (fun h => c_43 ((lg_cmp_gt _ _).mpr h)) ⟨c_49, Or.inl c_44, Or.inr c_48⟩))).symm, trivial⟩, hS.F ht⟩) hS.2.2 dX12_next_161
                        · refine lv_aload_n hx hb dX12_next_132 rfl (lv_at hl 2 rfl) ?_
                          refine va_get (D := (dC, dI)) (ci := 12) (v := .int 0) (C := RX12) (T := TX12) (N := 76) hx hb htw inlX12 hown hK hP 0 rfl rfl 12 (by decide) (htw _ (ck_11 _ (List.mem_of_getElem? (i := 9) rfl))) (fun _ h9 => h9) hf_4 dX12_next_133 ?_
                          refine lv_if_le (tgt := 162) hx hb dX12_next_136 (by decide) (fun _ => ?_) (fun c => absurd c (by decide))
                          refine lv_lload hx hb dX12_next_162 (lv_at hl 1 rfl) ?_
                          refine lv_lconst (v := 1) hx hb dX12_next_164 (by decide) ?_
                          refine lv_ladd hx hb dX12_next_165 ?_
                          refine lv_lstore (lv' := [(6, .long (kk + 1)), (8, .int 1), (0, .ref mq), (1, .long a0), (3, .int a1), (4, .int a2), (5, .int a3)]) hx hb dX12_next_166 hl (by decide) rfl (fun ls hl => ?_)
                          refine lv_goto (tgt := 62) hx hb dX12_next_168 (by decide) ?_
                          exact ih (i + 1) (kk + 1) (by omega) (xm_kk hc.2 hk ⟨hc0, by omega⟩) (hI.trans (xn_on (fun h => c_43 ((lg_cmp_gt _ _).mpr h)) (fun h => c_49 h.1))) H locs ls hP hD hS (lv_sub hl [0, 2, 3, 4, 5, 6] rfl)
                  · refine lv_aload_n hx hb dX12_next_87 rfl (lv_at hl 1 rfl) ?_
                    refine lv_lload hx hb dX12_next_88 (lv_at hl 0 rfl) ?_
                    refine lv_iconst (v := 0) hx hb dX12_next_90 (by decide) ?_
                    have hPc := hP.sub (ws' := [(mq, .inr (12, fs_1)), (msk, .inl (cY, 14, .inl fY))]) [0, 1] rfl
                    have hKc := hK.sub (tys' := [(cY, .int)]) [0] rfl
                    refine vp_callSi (W.runV (As := [.long kk, .int 0]) (rest := []) ⟨hx, hb, hml, hown, htw⟩ (mm_roundOf l dC dI mq fs_1 msk cY fY kk (0 : Int32) hlen_2 hf_3 hs0 hs1 hs2 hs3 hs4 hs5 hs6) (cwV 2 htw (xg_V (ck_38 _ (List.mem_of_getElem? (i := 8) rfl)) (ck_38 _ (List.mem_of_getElem? (i := 9) rfl)) (ck_38 _ (List.mem_of_getElem? (i := 10) rfl)) (ck_1 _ (List.mem_of_getElem? (i := 5) rfl)) (ck_38 _ (List.mem_of_getElem? (i := 11) rfl))) rfl rfl rfl (by decide +kernel) ⟨Nat.le_of_ble_eq_true rfl, Nat.le_of_ble_eq_true rfl⟩) ⟨fun a U g mk q => by obtain ⟨q0, qP, qK⟩ := q; exact ⟨q0, qP, va_K.moved (u := U) (U := U.calling g mk a) (Vm.Alike.refl U.vm) qK⟩, va_recv hKc hPc (ci := 12) (q0 := 0) rfl rfl, fun U hU hW => ⟨rfl, by rw [hU]; exact hPc, va_K.moved hW.alike hKc⟩⟩ rfl rfl hl.1 rfl (lv_room (Nat.le_of_ble_eq_true rfl)) dX12_next_91 ⟨Nat.le_of_ble_eq_true rfl, Nat.le_of_ble_eq_true rfl⟩) (fun r_50 hw => ?_)
                    try dsimp only at hw
                    obtain rfl : r_50 = xr_rnd kk 0 := hw
                    refine lv_iload hx hb dX12_next_94 (lv_at hl 4 rfl) ?_
                    refine lv_icmp_ne (tgt := 120) hx hb dX12_next_96 (by decide) (fun c_51 => ?_) (fun c_51 => ?_)
                    · refine lv_iconst (v := 0) hx hb dX12_next_120 (by decide) ?_
                      refine lv_istore (lv' := [(8, .int 0), (6, .long kk), (0, .ref mq), (1, .long a0), (3, .int a1), (4, .int a2), (5, .int a3)]) hx hb dX12_next_121 hl (by decide) rfl (fun ls hl => ?_)
                      refine lv_iload hx hb dX12_next_123 (lv_at hl 0 rfl) ?_
                      refine lv_if_eq (tgt := 162) hx hb dX12_next_125 (by decide) (fun _ => ?_) (fun c => absurd c (by decide))
                      refine lv_lload hx hb dX12_next_162 (lv_at hl 1 rfl) ?_
                      refine lv_lconst (v := 1) hx hb dX12_next_164 (by decide) ?_
                      refine lv_ladd hx hb dX12_next_165 ?_
                      refine lv_lstore (lv' := [(6, .long (kk + 1)), (8, .int 0), (0, .ref mq), (1, .long a0), (3, .int a1), (4, .int a2), (5, .int a3)]) hx hb dX12_next_166 hl (by decide) rfl (fun ls hl => ?_)
                      refine lv_goto (tgt := 62) hx hb dX12_next_168 (by decide) ?_
                      exact ih (i + 1) (kk + 1) (by omega) (xm_kk hc.2 hk ⟨hc0, by omega⟩) (hI.trans (xn_on (fun h => c_43 ((lg_cmp_gt _ _).mpr h)) (fun h => h.2.1.elim c_44 c_51))) H locs ls hP hD hS (lv_sub hl [0, 2, 3, 4, 5, 6] rfl)
                    · refine lv_iload hx hb dX12_next_99 (lv_at hl 5 rfl) ?_
                      refine lv_if_lt (tgt := 116) hx hb dX12_next_101 (by decide) (fun c_52 => ?_) (fun c_52 => ?_)
                      · refine lv_iconst (v := 1) hx hb dX12_next_116 (by decide) ?_
                        refine lv_goto (tgt := 121) hx hb dX12_next_117 (by decide) ?_
                        refine lv_istore (lv' := [(8, .int 1), (6, .long kk), (0, .ref mq), (1, .long a0), (3, .int a1), (4, .int a2), (5, .int a3)]) hx hb dX12_next_121 hl (by decide) rfl (fun ls hl => ?_)
                        refine lv_iload hx hb dX12_next_123 (lv_at hl 0 rfl) ?_
                        refine lv_if_eq (tgt := 162) hx hb dX12_next_125 (by decide) (fun c => absurd c (by decide)) (fun _ => ?_)
                        refine lv_iload_n hx hb dX12_next_128 rfl (lv_at hl 4 rfl) ?_
                        refine lv_if_lt (tgt := 159) hx hb dX12_next_129 (by decide) (fun c_53 => ?_) (fun c_53 => ?_)
                        · refine lv_lload hx hb dX12_next_159 (lv_at hl 1 rfl) ?_
                          refine W.widen (k := 0) (n := 0) (by omega) (by omega) ?_
                          exact W.lret (v := kk) hx hb hr (fun t ht hW => ⟨⟨kk, (), rfl, (hR.trans (hI.trans (xn_met (fun h => c_43 ((lg_cmp_gt _ _).mpr h)) ⟨c_53, Or.inr c_51, Or.inl c_52⟩))).symm, trivial⟩, hS.F ht⟩) hS.2.2 dX12_next_161
                        · refine lv_aload_n hx hb dX12_next_132 rfl (lv_at hl 2 rfl) ?_
                          refine va_get (D := (dC, dI)) (ci := 12) (v := .int 0) (C := RX12) (T := TX12) (N := 76) hx hb htw inlX12 hown hK hP 0 rfl rfl 12 (by decide) (htw _ (ck_11 _ (List.mem_of_getElem? (i := 9) rfl))) (fun _ h9 => h9) hf_4 dX12_next_133 ?_
                          refine lv_if_le (tgt := 162) hx hb dX12_next_136 (by decide) (fun _ => ?_) (fun c => absurd c (by decide))
                          refine lv_lload hx hb dX12_next_162 (lv_at hl 1 rfl) ?_
                          refine lv_lconst (v := 1) hx hb dX12_next_164 (by decide) ?_
                          refine lv_ladd hx hb dX12_next_165 ?_
                          refine lv_lstore (lv' := [(6, .long (kk + 1)), (8, .int 1), (0, .ref mq), (1, .long a0), (3, .int a1), (4, .int a2), (5, .int a3)]) hx hb dX12_next_166 hl (by decide) rfl (fun ls hl => ?_)
                          refine lv_goto (tgt := 62) hx hb dX12_next_168 (by decide) ?_
                          exact ih (i + 1) (kk + 1) (by omega) (xm_kk hc.2 hk ⟨hc0, by omega⟩) (hI.trans (xn_on (fun h => c_43 ((lg_cmp_gt _ _).mpr h)) (fun h => c_53 h.1))) H locs ls hP hD hS (lv_sub hl [0, 2, 3, 4, 5, 6] rfl)
                      · refine lv_aload_n hx hb dX12_next_104 rfl (lv_at hl 1 rfl) ?_
                        refine lv_lload hx hb dX12_next_105 (lv_at hl 0 rfl) ?_
                        refine lv_iconst (v := 1) hx hb dX12_next_107 (by decide) ?_
                        have hPc := hP.sub (ws' := [(mq, .inr (12, fs_1)), (msk, .inl (cY, 14, .inl fY))]) [0, 1] rfl
                        have hKc := hK.sub (tys' := [(cY, .int)]) [0] rfl
                        refine vp_callSi (W.runV (As := [.long kk, .int 1]) (rest := []) ⟨hx, hb, hml, hown, htw⟩ (mm_roundOf l dC dI mq fs_1 msk cY fY kk (1 : Int32) hlen_2 hf_3 hs0 hs1 hs2 hs3 hs4 hs5 hs6) (cwV 2 htw (xg_V (ck_38 _ (List.mem_of_getElem? (i := 8) rfl)) (ck_38 _ (List.mem_of_getElem? (i := 9) rfl)) (ck_38 _ (List.mem_of_getElem? (i := 10) rfl)) (ck_1 _ (List.mem_of_getElem? (i := 5) rfl)) (ck_38 _ (List.mem_of_getElem? (i := 11) rfl))) rfl rfl rfl (by decide +kernel) ⟨Nat.le_of_ble_eq_true rfl, Nat.le_of_ble_eq_true rfl⟩) ⟨fun a U g mk q => by obtain ⟨q0, qP, qK⟩ := q; exact ⟨q0, qP, va_K.moved (u := U) (U := U.calling g mk a) (Vm.Alike.refl U.vm) qK⟩, va_recv hKc hPc (ci := 12) (q0 := 0) rfl rfl, fun U hU hW => ⟨rfl, by rw [hU]; exact hPc, va_K.moved hW.alike hKc⟩⟩ rfl rfl hl.1 rfl (lv_room (Nat.le_of_ble_eq_true rfl)) dX12_next_108 ⟨Nat.le_of_ble_eq_true rfl, Nat.le_of_ble_eq_true rfl⟩) (fun r_54 hw => ?_)
                        try dsimp only at hw
                        obtain rfl : r_54 = xr_rnd kk 1 := hw
                        refine lv_iload hx hb dX12_next_111 (lv_at hl 5 rfl) ?_
                        refine lv_icmp_ne (tgt := 120) hx hb dX12_next_113 (by decide) (fun c_55 => ?_) (fun c_55 => ?_)
                        · refine lv_iconst (v := 0) hx hb dX12_next_120 (by decide) ?_
                          refine lv_istore (lv' := [(8, .int 0), (6, .long kk), (0, .ref mq), (1, .long a0), (3, .int a1), (4, .int a2), (5, .int a3)]) hx hb dX12_next_121 hl (by decide) rfl (fun ls hl => ?_)
                          refine lv_iload hx hb dX12_next_123 (lv_at hl 0 rfl) ?_
                          refine lv_if_eq (tgt := 162) hx hb dX12_next_125 (by decide) (fun _ => ?_) (fun c => absurd c (by decide))
                          refine lv_lload hx hb dX12_next_162 (lv_at hl 1 rfl) ?_
                          refine lv_lconst (v := 1) hx hb dX12_next_164 (by decide) ?_
                          refine lv_ladd hx hb dX12_next_165 ?_
                          refine lv_lstore (lv' := [(6, .long (kk + 1)), (8, .int 0), (0, .ref mq), (1, .long a0), (3, .int a1), (4, .int a2), (5, .int a3)]) hx hb dX12_next_166 hl (by decide) rfl (fun ls hl => ?_)
                          refine lv_goto (tgt := 62) hx hb dX12_next_168 (by decide) ?_
                          exact ih (i + 1) (kk + 1) (by omega) (xm_kk hc.2 hk ⟨hc0, by omega⟩) (hI.trans (xn_on (fun h => c_43 ((lg_cmp_gt _ _).mpr h)) (fun h => h.2.2.elim c_52 c_55))) H locs ls hP hD hS (lv_sub hl [0, 2, 3, 4, 5, 6] rfl)
                        · refine lv_iconst (v := 1) hx hb dX12_next_116 (by decide) ?_
                          refine lv_goto (tgt := 121) hx hb dX12_next_117 (by decide) ?_
                          refine lv_istore (lv' := [(8, .int 1), (6, .long kk), (0, .ref mq), (1, .long a0), (3, .int a1), (4, .int a2), (5, .int a3)]) hx hb dX12_next_121 hl (by decide) rfl (fun ls hl => ?_)
                          refine lv_iload hx hb dX12_next_123 (lv_at hl 0 rfl) ?_
                          refine lv_if_eq (tgt := 162) hx hb dX12_next_125 (by decide) (fun c => absurd c (by decide)) (fun _ => ?_)
                          refine lv_iload_n hx hb dX12_next_128 rfl (lv_at hl 4 rfl) ?_
                          refine lv_if_lt (tgt := 159) hx hb dX12_next_129 (by decide) (fun c_56 => ?_) (fun c_56 => ?_)
                          · refine lv_lload hx hb dX12_next_159 (lv_at hl 1 rfl) ?_
                            refine W.widen (k := 0) (n := 0) (by omega) (by omega) ?_
                            exact W.lret (v := kk) hx hb hr (fun t ht hW => ⟨⟨kk, (), rfl, (hR.trans (hI.trans (xn_met (fun h => c_43 ((lg_cmp_gt _ _).mpr h)) ⟨c_56, Or.inr c_51, Or.inr c_55⟩))).symm, trivial⟩, hS.F ht⟩) hS.2.2 dX12_next_161
                          · refine lv_aload_n hx hb dX12_next_132 rfl (lv_at hl 2 rfl) ?_
                            refine va_get (D := (dC, dI)) (ci := 12) (v := .int 0) (C := RX12) (T := TX12) (N := 76) hx hb htw inlX12 hown hK hP 0 rfl rfl 12 (by decide) (htw _ (ck_11 _ (List.mem_of_getElem? (i := 9) rfl))) (fun _ h9 => h9) hf_4 dX12_next_133 ?_
                            refine lv_if_le (tgt := 162) hx hb dX12_next_136 (by decide) (fun _ => ?_) (fun c => absurd c (by decide))
                            refine lv_lload hx hb dX12_next_162 (lv_at hl 1 rfl) ?_
                            refine lv_lconst (v := 1) hx hb dX12_next_164 (by decide) ?_
                            refine lv_ladd hx hb dX12_next_165 ?_
                            refine lv_lstore (lv' := [(6, .long (kk + 1)), (8, .int 1), (0, .ref mq), (1, .long a0), (3, .int a1), (4, .int a2), (5, .int a3)]) hx hb dX12_next_166 hl (by decide) rfl (fun ls hl => ?_)
                            refine lv_goto (tgt := 62) hx hb dX12_next_168 (by decide) ?_
                            exact ih (i + 1) (kk + 1) (by omega) (xm_kk hc.2 hk ⟨hc0, by omega⟩) (hI.trans (xn_on (fun h => c_43 ((lg_cmp_gt _ _).mpr h)) (fun h => c_56 h.1))) H locs ls hP hD hS (lv_sub hl [0, 2, 3, 4, 5, 6] rfl)
            exact hloop_40 20000 0 a0 (by omega) (by simp) rfl _ _ ls hP hD hS (lv_sub hl [0, 1, 2, 3, 4, 5] rfl)
          · refine lv_ldc2 (v := (-1)) hx hb hown (htw _ (ck_29 _ (List.mem_of_getElem? (i := 13) rfl))) dX12_next_55 ?_
            refine W.widen (k := 0) (n := 0) (by omega) (by omega) ?_
            exact W.lret (v := (-1)) hx hb hr (fun t ht hW => ⟨⟨(-1), (), rfl, (xr_next1 (xm_askM (hw_r_38.symm.trans c_39))).symm, trivial⟩, hS.F ht⟩) hS.2.2 dX12_next_58
