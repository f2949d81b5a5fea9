theorem dX11_next_0 : decode cX11_next 0 = .ok (.iload_n 3, 1) := by decide +kernel
theorem dX11_next_1 : decode cX11_next 1 = .ok (.iconst (-1), 1) := by decide +kernel
theorem dX11_next_2 : decode cX11_next 2 = .ok (.if_icmp .eq 14, 3) := by decide +kernel
theorem dX11_next_16 : decode cX11_next 16 = .ok (.iconst 1, 1) := by decide +kernel
theorem dX11_next_17 : decode cX11_next 17 = .ok (.goto 4, 3) := by decide +kernel
theorem dX11_next_21 : decode cX11_next 21 = .ok (.istore 6, 2) := by decide +kernel
theorem dX11_next_23 : decode cX11_next 23 = .ok (.iload 4, 2) := by decide +kernel
theorem dX11_next_25 : decode cX11_next 25 = .ok (.iconst (-1), 1) := by decide +kernel
theorem dX11_next_26 : decode cX11_next 26 = .ok (.if_icmp .eq 23, 3) := by decide +kernel
theorem dX11_next_49 : decode cX11_next 49 = .ok (.iconst 1, 1) := by decide +kernel
theorem dX11_next_50 : decode cX11_next 50 = .ok (.goto 4, 3) := by decide +kernel
theorem dX11_next_54 : decode cX11_next 54 = .ok (.istore 7, 2) := by decide +kernel
theorem dX11_next_56 : decode cX11_next 56 = .ok (.iload 5, 2) := by decide +kernel
theorem dX11_next_58 : decode cX11_next 58 = .ok (.iconst (-1), 1) := by decide +kernel
theorem dX11_next_59 : decode cX11_next 59 = .ok (.if_icmp .eq 15, 3) := by decide +kernel
theorem dX11_next_74 : decode cX11_next 74 = .ok (.iconst 1, 1) := by decide +kernel
theorem dX11_next_75 : decode cX11_next 75 = .ok (.goto 4, 3) := by decide +kernel
theorem dX11_next_79 : decode cX11_next 79 = .ok (.istore 8, 2) := by decide +kernel
theorem dX11_next_81 : decode cX11_next 81 = .ok (.lload_n 1, 1) := by decide +kernel
theorem dX11_next_82 : decode cX11_next 82 = .ok (.invokestatic 149, 3) := by decide +kernel
theorem dX11_next_85 : decode cX11_next 85 = .ok (.ifCond .eq 18, 3) := by decide +kernel
theorem dX11_next_103 : decode cX11_next 103 = .ok (.ldc2_w 143, 3) := by decide +kernel
theorem dX11_next_106 : decode cX11_next 106 = .ok (.lreturn, 1) := by decide +kernel
theorem dX11_next_88 : decode cX11_next 88 = .ok (.iload 6, 2) := by decide +kernel
theorem dX11_next_90 : decode cX11_next 90 = .ok (.ifCond .eq 13, 3) := by decide +kernel
theorem dX11_next_93 : decode cX11_next 93 = .ok (.iload 7, 2) := by decide +kernel
theorem dX11_next_95 : decode cX11_next 95 = .ok (.ifCond .eq 8, 3) := by decide +kernel
theorem dX11_next_98 : decode cX11_next 98 = .ok (.iload 8, 2) := by decide +kernel
theorem dX11_next_100 : decode cX11_next 100 = .ok (.ifCond .ne 7, 3) := by decide +kernel
theorem dX11_next_107 : decode cX11_next 107 = .ok (.aload_n 0, 1) := by decide +kernel
theorem dX11_next_108 : decode cX11_next 108 = .ok (.getfield 67, 3) := by decide +kernel
theorem dX11_next_111 : decode cX11_next 111 = .ok (.invokevirtual 196, 3) := by decide +kernel
theorem dX11_next_114 : decode cX11_next 114 = .ok (.aload_n 0, 1) := by decide +kernel
theorem dX11_next_115 : decode cX11_next 115 = .ok (.getfield 67, 3) := by decide +kernel
theorem dX11_next_118 : decode cX11_next 118 = .ok (.iload_n 3, 1) := by decide +kernel
theorem dX11_next_119 : decode cX11_next 119 = .ok (.putfield 253, 3) := by decide +kernel
theorem dX11_next_122 : decode cX11_next 122 = .ok (.aload_n 0, 1) := by decide +kernel
theorem dX11_next_123 : decode cX11_next 123 = .ok (.getfield 67, 3) := by decide +kernel
theorem dX11_next_126 : decode cX11_next 126 = .ok (.iload 4, 2) := by decide +kernel
theorem dX11_next_128 : decode cX11_next 128 = .ok (.putfield 256, 3) := by decide +kernel
theorem dX11_next_131 : decode cX11_next 131 = .ok (.aload_n 0, 1) := by decide +kernel
theorem dX11_next_132 : decode cX11_next 132 = .ok (.getfield 67, 3) := by decide +kernel
theorem dX11_next_135 : decode cX11_next 135 = .ok (.iload 5, 2) := by decide +kernel
theorem dX11_next_137 : decode cX11_next 137 = .ok (.putfield 259, 3) := by decide +kernel
theorem dX11_next_140 : decode cX11_next 140 = .ok (.aload_n 0, 1) := by decide +kernel
theorem dX11_next_141 : decode cX11_next 141 = .ok (.lload_n 1, 1) := by decide +kernel
theorem dX11_next_142 : decode cX11_next 142 = .ok (.invokevirtual 202, 3) := by decide +kernel
theorem dX11_next_145 : decode cX11_next 145 = .ok (.lreturn, 1) := by decide +kernel
theorem dX11_next_62 : decode cX11_next 62 = .ok (.iload 5, 2) := by decide +kernel
theorem dX11_next_64 : decode cX11_next 64 = .ok (.ifCond .lt 14, 3) := by decide +kernel
theorem dX11_next_78 : decode cX11_next 78 = .ok (.iconst 0, 1) := by decide +kernel
theorem dX11_next_67 : decode cX11_next 67 = .ok (.iload 5, 2) := by decide +kernel
theorem dX11_next_69 : decode cX11_next 69 = .ok (.bipush 7, 2) := by decide +kernel
theorem dX11_next_71 : decode cX11_next 71 = .ok (.if_icmp .gt 7, 3) := by decide +kernel
theorem dX11_next_29 : decode cX11_next 29 = .ok (.iload 4, 2) := by decide +kernel
theorem dX11_next_31 : decode cX11_next 31 = .ok (.ifCond .lt 22, 3) := by decide +kernel
theorem dX11_next_53 : decode cX11_next 53 = .ok (.iconst 0, 1) := by decide +kernel
theorem dX11_next_34 : decode cX11_next 34 = .ok (.iload 4, 2) := by decide +kernel
theorem dX11_next_36 : decode cX11_next 36 = .ok (.aload_n 0, 1) := by decide +kernel
theorem dX11_next_37 : decode cX11_next 37 = .ok (.getfield 19, 3) := by decide +kernel
theorem dX11_next_40 : decode cX11_next 40 = .ok (.getfield 162, 3) := by decide +kernel
theorem dX11_next_43 : decode cX11_next 43 = .ok (.getfield 250, 3) := by decide +kernel
theorem dX11_next_46 : decode cX11_next 46 = .ok (.if_icmp .ge 7, 3) := by decide +kernel
theorem dX11_next_5 : decode cX11_next 5 = .ok (.iload_n 3, 1) := by decide +kernel
theorem dX11_next_6 : decode cX11_next 6 = .ok (.iconst 1, 1) := by decide +kernel
theorem dX11_next_7 : decode cX11_next 7 = .ok (.if_icmp .lt 13, 3) := by decide +kernel
theorem dX11_next_20 : decode cX11_next 20 = .ok (.iconst 0, 1) := by decide +kernel
theorem dX11_next_10 : decode cX11_next 10 = .ok (.iload_n 3, 1) := by decide +kernel
theorem dX11_next_11 : decode cX11_next 11 = .ok (.ldc 249, 2) := by decide +kernel
theorem dX11_next_13 : decode cX11_next 13 = .ok (.if_icmp .gt 7, 3) := by decide +kernel
set_option maxHeartbeats 4000000 in
set_option maxRecDepth 100000 in
theorem mx_next (l : Launch) (dC : Nat → ClassId) (dI : Nat → Nat → Nat) (x : Nat) (xpa : Nat) (xsp : Nat) (xdy : Nat) (xle : Nat) (xst : Nat) (xim : Nat) (xil : Nat) (xmo : Nat) (xom : Nat) (xwi : Nat) (b : Nat) (bto : Nat) (bnm : Nat) (bla : Nat) (bsk : Nat) (bru : Nat) (bbo : Nat) (bdi : Nat) (bda : Nat) (bdk : Nat) (bdt : Nat) (bdp : Nat) (bno : Nat) (bcT : ClassId) (a0 : Int64) (a1 : Int32) (a2 : Int32) (a3 : Int32) (sz : Nat) : Met l yX11_next (Cond.code yX11_next cX11_next 9 (some .long) :: wsL_law) ({ frames := 3, cells := 0, slots := 0, locals := 67 }) (va_Pc [.ref x, .long a0, .int a1, .int a2, .int a3] (fun U => U.heap.size = sz ∧ va_P (dC, dI) vwCl [(x, .inr (11, [.ref xpa, .ref b, .ref xsp, .ref xdy, .ref xle, .ref xst, .int 0, .ref xim, .ref xil, .int 0, .ref xmo, .ref xom, .ref xwi])), (b, .inr (0, [.ref bto, .ref bnm, .ref bla, .ref bsk, .ref bru, .ref bbo, .ref bdi, .ref bda, .ref bdk, .ref bdt, .ref bdp, .ref bno])), (bto, .inl (bcT, 5, .inl (fun _ => 0))), (bsk, .inr (9, [.int 7, .int 0, .int 59, .int 2, .int 0, .int 1461, .int 4])), (xwi, .inr (10, [.int 0, .int 0, .int 0, .int 0, .int 0])), (xmo, .inr (4, [.null, .long 0, .long 0, .long 0, .long 0]))] U.heap ∧ va_K (dC, dI) vwCl [(bcT, .int)] U ∧ va_D (fun _ => True) [(x, .inr (11, [.ref xpa, .ref b, .ref xsp, .ref xdy, .ref xle, .ref xst, .int 0, .ref xim, .ref xil, .int 0, .ref xmo, .ref xom, .ref xwi])), (b, .inr (0, [.ref bto, .ref bnm, .ref bla, .ref bsk, .ref bru, .ref bbo, .ref bdi, .ref bda, .ref bdk, .ref bdt, .ref bdp, .ref bno])), (bto, .inl (bcT, 5, .inl (fun _ => 0))), (bsk, .inr (9, [.int 7, .int 0, .int 59, .int 2, .int 0, .int 1461, .int 4])), (xwi, .inr (10, [.int 0, .int 0, .int 0, .int 0, .int 0])), (xmo, .inr (4, [.null, .long 0, .long 0, .long 0, .long 0]))])) (va_Ql (fun (r : Int64) (u : Unit) => r = xr_next a0 a1 a2 a3) (fun _ _ => True) (va_A [(x, .inr (11, [.ref xpa, .ref b, .ref xsp, .ref xdy, .ref xle, .ref xst, .int 0, .ref xim, .ref xil, .int 0, .ref xmo, .ref xom, .ref xwi])), (b, .inr (0, [.ref bto, .ref bnm, .ref bla, .ref bsk, .ref bru, .ref bbo, .ref bdi, .ref bda, .ref bdk, .ref bdt, .ref bdp, .ref bno])), (bto, .inl (bcT, 5, .inl (fun _ => 0))), (bsk, .inr (9, [.int 7, .int 0, .int 59, .int 2, .int 0, .int 1461, .int 4])), (xwi, .inr (10, [.int 0, .int 0, .int 0, .int 0, .int 0])), (xmo, .inr (4, [.null, .long 0, .long 0, .long 0, .long 0]))] sz)) 0 0 (va_A [(x, .inr (11, [.ref xpa, .ref b, .ref xsp, .ref xdy, .ref xle, .ref xst, .int 0, .ref xim, .ref xil, .int 0, .ref xmo, .ref xom, .ref xwi])), (b, .inr (0, [.ref bto, .ref bnm, .ref bla, .ref bsk, .ref bru, .ref bbo, .ref bdi, .ref bda, .ref bdk, .ref bdt, .ref bdp, .ref bno])), (bto, .inl (bcT, 5, .inl (fun _ => 0))), (bsk, .inr (9, [.int 7, .int 0, .int 59, .int 2, .int 0, .int 1461, .int 4])), (xwi, .inr (10, [.int 0, .int 0, .int 0, .int 0, .int 0])), (xmo, .inr (4, [.null, .long 0, .long 0, .long 0, .long 0]))] sz) := by
  refine Met.ofW (cc := cX11_next) (maxL := 9) (ret := (some .long)) (by decide) rfl ?_
  intro p e s m args below meth c s₁ B hml hv
  obtain ⟨rfl, hsz, hP, hK, hD0⟩ := hv
  have hx := B.exec
  have hb := B.bytes
  have hr := B.returns
  have hts := atoms_spec (ws := Cond.code yX11_next cX11_next 9 (some .long) :: wsL_law) B.pre
  have htw : ∀ w ∈ wsL_law, w.before _ s = true := fun w h => hts w (List.mem_cons_of_mem _ h)
  have hown : s.vm.findClass RX11 = some m.cls := findClass_of_methodNamed B.named
  have hlocks := B.notSynchronized
  subst hsz
  have hD := hD0.self (sz := s.heap.size)
  generalize hAe : va_A [(x, .inr (11, [.ref xpa, .ref b, .ref xsp, .ref xdy, .ref xle, .ref xst, .int 0, .ref xim, .ref xil, .int 0, .ref xmo, .ref xom, .ref xwi])), (b, .inr (0, [.ref bto, .ref bnm, .ref bla, .ref bsk, .ref bru, .ref bbo, .ref bdi, .ref bda, .ref bdk, .ref bdt, .ref bdp, .ref bno])), (bto, .inl (bcT, 5, .inl (fun _ => 0))), (bsk, .inr (9, [.int 7, .int 0, .int 59, .int 2, .int 0, .int 1461, .int 4])), (xwi, .inr (10, [.int 0, .int 0, .int 0, .int 0, .int 0])), (xmo, .inr (4, [.null, .long 0, .long 0, .long 0, .long 0]))] s.heap.size = A at hD ⊢
  have hA : ∀ q : Nat, s.heap.size ≤ q → A q := fun q h => by rw [← hAe]; exact Or.inr h
  obtain ⟨H, rH⟩ : ∃ z : Heap, z = s.heap := ⟨_, rfl⟩
  have hS : va_S A s.heap H [] := by rw [rH]; exact va_S.rf
  have hP : va_P (dC, dI) vwCl [(x, .inr (11, [.ref xpa, .ref b, .ref xsp, .ref xdy, .ref xle, .ref xst, .int 0, .ref xim, .ref xil, .int 0, .ref xmo, .ref xom, .ref xwi])), (b, .inr (0, [.ref bto, .ref bnm, .ref bla, .ref bsk, .ref bru, .ref bbo, .ref bdi, .ref bda, .ref bdk, .ref bdt, .ref bdp, .ref bno])), (bto, .inl (bcT, 5, .inl (fun _ => 0))), (bsk, .inr (9, [.int 7, .int 0, .int 59, .int 2, .int 0, .int 1461, .int 4])), (xwi, .inr (10, [.int 0, .int 0, .int 0, .int 0, .int 0])), (xmo, .inr (4, [.null, .long 0, .long 0, .long 0, .long 0]))] H := by rw [rH]; exact hP
  rw [← rH]
  have hl := lv_entry ([.ref x, .long a0, .int a1, .int a2, .int a3]) (n := 9) (Nat.le_of_ble_eq_true rfl)
  rw [lg_entry_eq]
  generalize (lg_sl ([.ref x, .long a0, .int a1, .int a2, .int a3]) ++ List.replicate (9 - (lg_sl ([.ref x, .long a0, .int a1, .int a2, .int a3])).length) Slot.unset).toArray = ls at hl ⊢
  have hl : lv_has ls 9 [(0, .ref x), (1, .long a0), (3, .int a1), (4, .int a2), (5, .int a3)] := hl
  refine lv_iload_n hx hb dX11_next_0 rfl (lv_at hl 2 rfl) ?_
  refine lv_iconst (v := (-1)) hx hb dX11_next_1 (by decide) ?_
  refine lv_icmp_eq (tgt := 16) hx hb dX11_next_2 (by decide) (fun c_1 => ?_) (fun c_1 => ?_)
  · refine lv_iconst (v := 1) hx hb dX11_next_16 (by decide) ?_
    refine lv_goto (tgt := 21) hx hb dX11_next_17 (by decide) ?_
    refine lv_istore (lv' := [(6, .int 1), (0, .ref x), (1, .long a0), (3, .int a1), (4, .int a2), (5, .int a3)]) hx hb dX11_next_21 hl (by decide) rfl (fun ls hl => ?_)
    refine lv_iload hx hb dX11_next_23 (lv_at hl 4 rfl) ?_
    refine lv_iconst (v := (-1)) hx hb dX11_next_25 (by decide) ?_
    refine lv_icmp_eq (tgt := 49) hx hb dX11_next_26 (by decide) (fun c_2 => ?_) (fun c_2 => ?_)
    · refine lv_iconst (v := 1) hx hb dX11_next_49 (by decide) ?_
      refine lv_goto (tgt := 54) hx hb dX11_next_50 (by decide) ?_
      refine lv_istore (lv' := [(7, .int 1), (6, .int 1), (0, .ref x), (1, .long a0), (3, .int a1), (4, .int a2), (5, .int a3)]) hx hb dX11_next_54 hl (by decide) rfl (fun ls hl => ?_)
      refine lv_iload hx hb dX11_next_56 (lv_at hl 6 rfl) ?_
      refine lv_iconst (v := (-1)) hx hb dX11_next_58 (by decide) ?_
      refine lv_icmp_eq (tgt := 74) hx hb dX11_next_59 (by decide) (fun c_3 => ?_) (fun c_3 => ?_)
      · refine lv_iconst (v := 1) hx hb dX11_next_74 (by decide) ?_
        refine lv_goto (tgt := 79) hx hb dX11_next_75 (by decide) ?_
        refine lv_istore (lv' := [(8, .int 1), (7, .int 1), (6, .int 1), (0, .ref x), (1, .long a0), (3, .int a1), (4, .int a2), (5, .int a3)]) hx hb dX11_next_79 hl (by decide) rfl (fun ls hl => ?_)
        refine lv_lload_n hx hb dX11_next_81 rfl (lv_at hl 4 rfl) ?_
        have hPc := hP.sub (ws' := []) [] rfl
        have hKc := hK.sub (tys' := []) [] rfl
        refine vp_callSi (W.runS (As := [.long a0]) (rest := []) ⟨hx, hb, hml, hown, htw⟩ (mt_isCount l dC dI a0) (va_cwS 1 htw (xg_S (ck_35 _ (List.mem_of_getElem? (i := 15) rfl)) (ck_35 _ (List.mem_of_getElem? (i := 16) rfl)) (ck_1 _ (List.mem_of_getElem? (i := 2) rfl)) (ck_35 _ (List.mem_of_getElem? (i := 17) rfl))) rfl rfl rfl (by decide +kernel) ⟨Nat.le_of_ble_eq_true rfl, Nat.le_of_ble_eq_true rfl⟩) ⟨fun a U g mk q => by obtain ⟨q0, qP, qK⟩ := q; exact ⟨q0, qP, va_K.moved (u := U) (U := U.calling g mk a) (Vm.Alike.refl U.vm) qK⟩, fun U hU hW => ⟨rfl, by rw [hU]; exact hPc, va_K.moved hW.alike hKc⟩⟩ rfl rfl hl.1 rfl (lv_room (Nat.le_of_ble_eq_true rfl)) dX11_next_82 ⟨Nat.le_of_ble_eq_true rfl, Nat.le_of_ble_eq_true rfl⟩) (fun r_4 hw => ?_)
        try dsimp only at hw
        have hw_r_4 : r_4 = xg_cnt a0 := hw
        refine lv_if_eq (tgt := 103) hx hb dX11_next_85 (by decide) (fun c_5 => ?_) (fun c_5 => ?_)
        · refine lv_ldc2 (v := (-1)) hx hb hown (htw _ (ck_34 _ (List.mem_of_getElem? (i := 18) rfl))) dX11_next_103 ?_
          refine W.widen (k := 0) (n := 0) (by omega) (by omega) ?_
          exact W.lret (v := (-1)) hx hb hr (fun t ht hW => ⟨⟨(-1), (), rfl, (xr_next0 (hw_r_4.symm.trans c_5)).symm, trivial⟩, hS.F ht⟩) hS.2.2 dX11_next_106
        · refine lv_iload hx hb dX11_next_88 (lv_at hl 2 rfl) ?_
          refine lv_if_eq (tgt := 103) hx hb dX11_next_90 (by decide) (fun c => absurd c (by decide)) (fun _ => ?_)
          refine lv_iload hx hb dX11_next_93 (lv_at hl 1 rfl) ?_
          refine lv_if_eq (tgt := 103) hx hb dX11_next_95 (by decide) (fun c => absurd c (by decide)) (fun _ => ?_)
          refine lv_iload hx hb dX11_next_98 (lv_at hl 0 rfl) ?_
          refine lv_if_ne (tgt := 107) hx hb dX11_next_100 (by decide) (fun _ => ?_) (fun c => absurd c (by decide))
          have hask : xr_ask a1 a2 a3 := ⟨Or.inl c_1, Or.inl c_2, Or.inl c_3⟩
          have hok := xr_ask_ok hask
          refine lv_aload_n hx hb dX11_next_107 rfl (lv_at hl 3 rfl) ?_
          refine va_get (D := (dC, dI)) (ci := 11) (v := .ref xwi) (C := RX11) (T := TX11) (N := 13) hx hb htw inlX11 hown hK hP 0 rfl rfl 12 (by decide) (htw _ (ck_2 _ (List.mem_of_getElem? (i := 22) rfl))) (fun _ h9 => h9) rfl dX11_next_108 ?_
          have hPc := hP.sub (ws' := [(xwi, .inr (10, [.int 0, .int 0, .int 0, .int 0, .int 0]))]) [4] rfl
          have hKc := hK.sub (tys' := []) [] rfl
          have hDc := hD.sub (ws' := [(xwi, .inr (10, [.int 0, .int 0, .int 0, .int 0, .int 0]))]) [4] (by decide) rfl
          have hFc := va_free (wc := [(xwi, .inr (10, [.int 0, .int 0, .int 0, .int 0, .int 0]))]) hD hS hA [4] rfl
          refine va_callv (va_runV (As := []) (rest := []) ⟨hx, hb, hml, hown, htw⟩ (mt_wclear l dC dI xwi (0 : Int32) (0 : Int32) (0 : Int32) (0 : Int32) (0 : Int32) H.size) (cwV 0 htw (xg_V (ck_42 _ (List.mem_of_getElem? (i := 4) rfl)) (ck_42 _ (List.mem_of_getElem? (i := 5) rfl)) (ck_42 _ (List.mem_of_getElem? (i := 6) rfl)) (ck_2 _ (List.mem_of_getElem? (i := 21) rfl)) (ck_42 _ (List.mem_of_getElem? (i := 7) rfl))) rfl rfl rfl (by decide +kernel) ⟨Nat.le_of_ble_eq_true rfl, Nat.le_of_ble_eq_true rfl⟩) ⟨fun a U g mk q => by obtain ⟨q0, q1, qP, qK, qD⟩ := q; exact ⟨q0, q1, qP, va_K.moved (u := U) (U := U.calling g mk a) (Vm.Alike.refl U.vm) qK, qD⟩, va_recv hKc hPc (ci := 10) (q0 := 0) rfl rfl, fun U hU hW => ⟨rfl, by rw [hU], by rw [hU]; exact hPc, va_K.moved hW.alike hKc, hDc.weaken (fun _ _ _ _ => trivial)⟩⟩ rfl rfl hl.1 rfl (lv_room (Nat.le_of_ble_eq_true rfl)) dX11_next_111 ⟨Nat.le_of_ble_eq_true rfl, Nat.le_of_ble_eq_true rfl⟩) hS (fun q _ h => hFc q h) hFc (fun u_7 t H1 locs ht hvm hw hB hz1 hk1 hS => ?_)
          try dsimp only at hw
          obtain ⟨hP1, hK1, hD1⟩ := hB
          rw [ht] at hP1
          have hK1 := va_K.moved hvm.symm hK1
          have hP1 : va_P (dC, dI) vwCl [(xwi, .inr (10, [.int (-1), .int (-1), .int (-1), .int (-1), .int (-1)]))] H1 := hP1
          have hD1 : va_D (va_A [(xwi, .inr (10, [.int 0, .int 0, .int 0, .int 0, .int 0]))] H.size) [(xwi, .inr (10, [.int (-1), .int (-1), .int (-1), .int (-1), .int (-1)]))] := hD1
          have hK1 : va_K (dC, dI) vwCl [] s := hK1
          obtain ⟨hP, hD⟩ := va_join (wr := [(x, .inr (11, [.ref xpa, .ref b, .ref xsp, .ref xdy, .ref xle, .ref xst, .int 0, .ref xim, .ref xil, .int 0, .ref xmo, .ref xom, .ref xwi])), (b, .inr (0, [.ref bto, .ref bnm, .ref bla, .ref bsk, .ref bru, .ref bbo, .ref bdi, .ref bda, .ref bdk, .ref bdt, .ref bdp, .ref bno])), (bto, .inl (bcT, 5, .inl (fun _ => 0))), (bsk, .inr (9, [.int 7, .int 0, .int 59, .int 2, .int 0, .int 1461, .int 4])), (xmo, .inr (4, [.null, .long 0, .long 0, .long 0, .long 0]))]) (w1 := [(xwi, .inr (10, [.int (-1), .int (-1), .int (-1), .int (-1), .int (-1)]))]) hP hD [4] [0, 1, 2, 3, 5] rfl rfl (by decide) (by decide) hk1 hFc hP1 hD1
          generalize H1 = H at hP hS ⊢
          have hP : va_P (dC, dI) vwCl [(x, .inr (11, [.ref xpa, .ref b, .ref xsp, .ref xdy, .ref xle, .ref xst, .int 0, .ref xim, .ref xil, .int 0, .ref xmo, .ref xom, .ref xwi])), (b, .inr (0, [.ref bto, .ref bnm, .ref bla, .ref bsk, .ref bru, .ref bbo, .ref bdi, .ref bda, .ref bdk, .ref bdt, .ref bdp, .ref bno])), (bto, .inl (bcT, 5, .inl (fun _ => 0))), (bsk, .inr (9, [.int 7, .int 0, .int 59, .int 2, .int 0, .int 1461, .int 4])), (xmo, .inr (4, [.null, .long 0, .long 0, .long 0, .long 0])), (xwi, .inr (10, [.int (-1), .int (-1), .int (-1), .int (-1), .int (-1)]))] H := hP
          have hD : va_D A [(x, .inr (11, [.ref xpa, .ref b, .ref xsp, .ref xdy, .ref xle, .ref xst, .int 0, .ref xim, .ref xil, .int 0, .ref xmo, .ref xom, .ref xwi])), (b, .inr (0, [.ref bto, .ref bnm, .ref bla, .ref bsk, .ref bru, .ref bbo, .ref bdi, .ref bda, .ref bdk, .ref bdt, .ref bdp, .ref bno])), (bto, .inl (bcT, 5, .inl (fun _ => 0))), (bsk, .inr (9, [.int 7, .int 0, .int 59, .int 2, .int 0, .int 1461, .int 4])), (xmo, .inr (4, [.null, .long 0, .long 0, .long 0, .long 0])), (xwi, .inr (10, [.int (-1), .int (-1), .int (-1), .int (-1), .int (-1)]))] := hD
          refine W.widen (k := 0) (n := 0) (by omega) (by omega) ?_
          refine lv_aload_n hx hb dX11_next_114 rfl (lv_at hl 3 rfl) ?_
          refine va_get (D := (dC, dI)) (ci := 11) (v := .ref xwi) (C := RX11) (T := TX11) (N := 13) hx hb htw inlX11 hown hK hP 0 rfl rfl 12 (by decide) (htw _ (ck_2 _ (List.mem_of_getElem? (i := 22) rfl))) (fun _ h9 => h9) rfl dX11_next_115 ?_
          refine lv_iload_n hx hb dX11_next_118 rfl (lv_at hl 5 rfl) ?_
          refine va_put (D := (dC, dI)) (ci := 10) (v := .int a1) (ty := tyX10 0) (C := RX10) (T := TX10) (N := 5) hx hb htw inlX10 tyX10 tyX10_ok nmX10 hown hK hP hD hS 5 rfl rfl 0 (by decide) (htw _ (ck_48 _ (List.mem_of_getElem? (i := 14) rfl))) (fun _ h9 => h9) rfl (by decide +kernel) rfl rfl (Nat.le_of_ble_eq_true rfl) dX11_next_119 (fun H locs hP hD hS => ?_)
          have hP : va_P (dC, dI) vwCl [(x, .inr (11, [.ref xpa, .ref b, .ref xsp, .ref xdy, .ref xle, .ref xst, .int 0, .ref xim, .ref xil, .int 0, .ref xmo, .ref xom, .ref xwi])), (b, .inr (0, [.ref bto, .ref bnm, .ref bla, .ref bsk, .ref bru, .ref bbo, .ref bdi, .ref bda, .ref bdk, .ref bdt, .ref bdp, .ref bno])), (bto, .inl (bcT, 5, .inl (fun _ => 0))), (bsk, .inr (9, [.int 7, .int 0, .int 59, .int 2, .int 0, .int 1461, .int 4])), (xmo, .inr (4, [.null, .long 0, .long 0, .long 0, .long 0])), (xwi, .inr (10, [.int a1, .int (-1), .int (-1), .int (-1), .int (-1)]))] H := hP
          have hD : va_D A [(x, .inr (11, [.ref xpa, .ref b, .ref xsp, .ref xdy, .ref xle, .ref xst, .int 0, .ref xim, .ref xil, .int 0, .ref xmo, .ref xom, .ref xwi])), (b, .inr (0, [.ref bto, .ref bnm, .ref bla, .ref bsk, .ref bru, .ref bbo, .ref bdi, .ref bda, .ref bdk, .ref bdt, .ref bdp, .ref bno])), (bto, .inl (bcT, 5, .inl (fun _ => 0))), (bsk, .inr (9, [.int 7, .int 0, .int 59, .int 2, .int 0, .int 1461, .int 4])), (xmo, .inr (4, [.null, .long 0, .long 0, .long 0, .long 0])), (xwi, .inr (10, [.int a1, .int (-1), .int (-1), .int (-1), .int (-1)]))] := hD
          refine lv_aload_n hx hb dX11_next_122 rfl (lv_at hl 3 rfl) ?_
          refine va_get (D := (dC, dI)) (ci := 11) (v := .ref xwi) (C := RX11) (T := TX11) (N := 13) hx hb htw inlX11 hown hK hP 0 rfl rfl 12 (by decide) (htw _ (ck_2 _ (List.mem_of_getElem? (i := 22) rfl))) (fun _ h9 => h9) rfl dX11_next_123 ?_
          refine lv_iload hx hb dX11_next_126 (lv_at hl 6 rfl) ?_
          refine va_put (D := (dC, dI)) (ci := 10) (v := .int a2) (ty := tyX10 1) (C := RX10) (T := TX10) (N := 5) hx hb htw inlX10 tyX10 tyX10_ok nmX10 hown hK hP hD hS 5 rfl rfl 1 (by decide) (htw _ (ck_48 _ (List.mem_of_getElem? (i := 15) rfl))) (fun _ h9 => h9) rfl (by decide +kernel) rfl rfl (Nat.le_of_ble_eq_true rfl) dX11_next_128 (fun H locs hP hD hS => ?_)
          have hP : va_P (dC, dI) vwCl [(x, .inr (11, [.ref xpa, .ref b, .ref xsp, .ref xdy, .ref xle, .ref xst, .int 0, .ref xim, .ref xil, .int 0, .ref xmo, .ref xom, .ref xwi])), (b, .inr (0, [.ref bto, .ref bnm, .ref bla, .ref bsk, .ref bru, .ref bbo, .ref bdi, .ref bda, .ref bdk, .ref bdt, .ref bdp, .ref bno])), (bto, .inl (bcT, 5, .inl (fun _ => 0))), (bsk, .inr (9, [.int 7, .int 0, .int 59, .int 2, .int 0, .int 1461, .int 4])), (xmo, .inr (4, [.null, .long 0, .long 0, .long 0, .long 0])), (xwi, .inr (10, [.int a1, .int a2, .int (-1), .int (-1), .int (-1)]))] H := hP
          have hD : va_D A [(x, .inr (11, [.ref xpa, .ref b, .ref xsp, .ref xdy, .ref xle, .ref xst, .int 0, .ref xim, .ref xil, .int 0, .ref xmo, .ref xom, .ref xwi])), (b, .inr (0, [.ref bto, .ref bnm, .ref bla, .ref bsk, .ref bru, .ref bbo, .ref bdi, .ref bda, .ref bdk, .ref bdt, .ref bdp, .ref bno])), (bto, .inl (bcT, 5, .inl (fun _ => 0))), (bsk, .inr (9, [.int 7, .int 0, .int 59, .int 2, .int 0, .int 1461, .int 4])), (xmo, .inr (4, [.null, .long 0, .long 0, .long 0, .long 0])), (xwi, .inr (10, [.int a1, .int a2, .int (-1), .int (-1), .int (-1)]))] := hD
          refine lv_aload_n hx hb dX11_next_131 rfl (lv_at hl 3 rfl) ?_
          refine va_get (D := (dC, dI)) (ci := 11) (v := .ref xwi) (C := RX11) (T := TX11) (N := 13) hx hb htw inlX11 hown hK hP 0 rfl rfl 12 (by decide) (htw _ (ck_2 _ (List.mem_of_getElem? (i := 22) rfl))) (fun _ h9 => h9) rfl dX11_next_132 ?_
          refine lv_iload hx hb dX11_next_135 (lv_at hl 7 rfl) ?_
          refine va_put (D := (dC, dI)) (ci := 10) (v := .int a3) (ty := tyX10 2) (C := RX10) (T := TX10) (N := 5) hx hb htw inlX10 tyX10 tyX10_ok nmX10 hown hK hP hD hS 5 rfl rfl 2 (by decide) (htw _ (ck_48 _ (List.mem_of_getElem? (i := 16) rfl))) (fun _ h9 => h9) rfl (by decide +kernel) rfl rfl (Nat.le_of_ble_eq_true rfl) dX11_next_137 (fun H locs hP hD hS => ?_)
          have hP : va_P (dC, dI) vwCl [(x, .inr (11, [.ref xpa, .ref b, .ref xsp, .ref xdy, .ref xle, .ref xst, .int 0, .ref xim, .ref xil, .int 0, .ref xmo, .ref xom, .ref xwi])), (b, .inr (0, [.ref bto, .ref bnm, .ref bla, .ref bsk, .ref bru, .ref bbo, .ref bdi, .ref bda, .ref bdk, .ref bdt, .ref bdp, .ref bno])), (bto, .inl (bcT, 5, .inl (fun _ => 0))), (bsk, .inr (9, [.int 7, .int 0, .int 59, .int 2, .int 0, .int 1461, .int 4])), (xmo, .inr (4, [.null, .long 0, .long 0, .long 0, .long 0])), (xwi, .inr (10, [.int a1, .int a2, .int a3, .int (-1), .int (-1)]))] H := hP
          have hD : va_D A [(x, .inr (11, [.ref xpa, .ref b, .ref xsp, .ref xdy, .ref xle, .ref xst, .int 0, .ref xim, .ref xil, .int 0, .ref xmo, .ref xom, .ref xwi])), (b, .inr (0, [.ref bto, .ref bnm, .ref bla, .ref bsk, .ref bru, .ref bbo, .ref bdi, .ref bda, .ref bdk, .ref bdt, .ref bdp, .ref bno])), (bto, .inl (bcT, 5, .inl (fun _ => 0))), (bsk, .inr (9, [.int 7, .int 0, .int 59, .int 2, .int 0, .int 1461, .int 4])), (xmo, .inr (4, [.null, .long 0, .long 0, .long 0, .long 0])), (xwi, .inr (10, [.int a1, .int a2, .int a3, .int (-1), .int (-1)]))] := hD
          refine lv_aload_n hx hb dX11_next_140 rfl (lv_at hl 3 rfl) ?_
          refine lv_lload_n hx hb dX11_next_141 rfl (lv_at hl 4 rfl) ?_
          have hPc := hP.sub (ws' := [(x, .inr (11, [.ref xpa, .ref b, .ref xsp, .ref xdy, .ref xle, .ref xst, .int 0, .ref xim, .ref xil, .int 0, .ref xmo, .ref xom, .ref xwi])), (b, .inr (0, [.ref bto, .ref bnm, .ref bla, .ref bsk, .ref bru, .ref bbo, .ref bdi, .ref bda, .ref bdk, .ref bdt, .ref bdp, .ref bno])), (bto, .inl (bcT, 5, .inl (fun _ => 0))), (bsk, .inr (9, [.int 7, .int 0, .int 59, .int 2, .int 0, .int 1461, .int 4])), (xwi, .inr (10, [.int a1, .int a2, .int a3, .int (-1), .int (-1)])), (xmo, .inr (4, [.null, .long 0, .long 0, .long 0, .long 0]))]) [0, 1, 2, 3, 5, 4] rfl
          have hKc := hK.sub (tys' := [(bcT, .int)]) [0] rfl
          have hDc := hD.sub (ws' := [(x, .inr (11, [.ref xpa, .ref b, .ref xsp, .ref xdy, .ref xle, .ref xst, .int 0, .ref xim, .ref xil, .int 0, .ref xmo, .ref xom, .ref xwi])), (b, .inr (0, [.ref bto, .ref bnm, .ref bla, .ref bsk, .ref bru, .ref bbo, .ref bdi, .ref bda, .ref bdk, .ref bdt, .ref bdp, .ref bno])), (bto, .inl (bcT, 5, .inl (fun _ => 0))), (bsk, .inr (9, [.int 7, .int 0, .int 59, .int 2, .int 0, .int 1461, .int 4])), (xwi, .inr (10, [.int a1, .int a2, .int a3, .int (-1), .int (-1)])), (xmo, .inr (4, [.null, .long 0, .long 0, .long 0, .long 0]))]) [0, 1, 2, 3, 5, 4] (by decide) rfl
          have hFc := va_free (wc := [(x, .inr (11, [.ref xpa, .ref b, .ref xsp, .ref xdy, .ref xle, .ref xst, .int 0, .ref xim, .ref xil, .int 0, .ref xmo, .ref xom, .ref xwi])), (b, .inr (0, [.ref bto, .ref bnm, .ref bla, .ref bsk, .ref bru, .ref bbo, .ref bdi, .ref bda, .ref bdk, .ref bdt, .ref bdp, .ref bno])), (bto, .inl (bcT, 5, .inl (fun _ => 0))), (bsk, .inr (9, [.int 7, .int 0, .int 59, .int 2, .int 0, .int 1461, .int 4])), (xwi, .inr (10, [.int a1, .int a2, .int a3, .int (-1), .int (-1)])), (xmo, .inr (4, [.null, .long 0, .long 0, .long 0, .long 0]))]) hD hS hA [0, 1, 2, 3, 5, 4] rfl
          refine va_calll (va_runV (As := [.long a0]) (rest := []) ⟨hx, hb, hml, hown, htw⟩ (mt_first l dC dI x xpa xsp xdy xle xst xim xil xmo xom xwi b bto bnm bla bsk bru bbo bdi bda bdk bdt bdp bno bcT a1 a2 a3 a0 H.size hok) (cwV 1 htw (xg_V (ck_42 _ (List.mem_of_getElem? (i := 13) rfl)) (ck_42 _ (List.mem_of_getElem? (i := 14) rfl)) (ck_42 _ (List.mem_of_getElem? (i := 15) rfl)) (ck_1 _ (List.mem_of_getElem? (i := 2) rfl)) (ck_42 _ (List.mem_of_getElem? (i := 16) rfl))) rfl rfl rfl (by decide +kernel) ⟨Nat.le_of_ble_eq_true rfl, Nat.le_of_ble_eq_true rfl⟩) ⟨fun a U g mk q => by obtain ⟨q0, q1, qP, qK, qD⟩ := q; exact ⟨q0, q1, qP, va_K.moved (u := U) (U := U.calling g mk a) (Vm.Alike.refl U.vm) qK, qD⟩, va_recv hKc hPc (ci := 11) (q0 := 0) rfl rfl, fun U hU hW => ⟨rfl, by rw [hU], by rw [hU]; exact hPc, va_K.moved hW.alike hKc, hDc.weaken (fun _ _ _ _ => trivial)⟩⟩ rfl rfl hl.1 rfl (lv_room (Nat.le_of_ble_eq_true rfl)) dX11_next_142 ⟨Nat.le_of_ble_eq_true rfl, Nat.le_of_ble_eq_true rfl⟩) hS (fun q _ h => hFc q h) hFc (fun r_8 u_9 t H1 locs ht hvm hw hB hz1 hk1 hS => ?_)
          try dsimp only at hw
          have hP1 : va_P (dC, dI) vwCl [] H1 := fun k q h => by simp at h
          have hD1 : va_D (va_A [(x, .inr (11, [.ref xpa, .ref b, .ref xsp, .ref xdy, .ref xle, .ref xst, .int 0, .ref xim, .ref xil, .int 0, .ref xmo, .ref xom, .ref xwi])), (b, .inr (0, [.ref bto, .ref bnm, .ref bla, .ref bsk, .ref bru, .ref bbo, .ref bdi, .ref bda, .ref bdk, .ref bdt, .ref bdp, .ref bno])), (bto, .inl (bcT, 5, .inl (fun _ => 0))), (bsk, .inr (9, [.int 7, .int 0, .int 59, .int 2, .int 0, .int 1461, .int 4])), (xwi, .inr (10, [.int a1, .int a2, .int a3, .int (-1), .int (-1)])), (xmo, .inr (4, [.null, .long 0, .long 0, .long 0, .long 0]))] H.size) [] := ⟨fun i j p q h => by simp at h, fun k q h => by simp at h⟩
          obtain ⟨hP, hD⟩ := va_join (wr := []) (w1 := []) hP hD [0, 1, 2, 3, 5, 4] [] rfl rfl (by decide) (by decide) hk1 hFc hP1 hD1
          generalize H1 = H at hP hS ⊢
          have hP : va_P (dC, dI) vwCl [] H := hP
          have hD : va_D A [] := hD
          refine W.widen (k := 0) (n := 0) (by omega) (by omega) ?_
          obtain rfl : r_8 = xn_go a1 a2 a3 20000 a0 := hw
          refine W.widen (k := 0) (n := 0) (by omega) (by omega) ?_
          exact W.lret (v := xn_go a1 a2 a3 20000 a0) hx hb hr (fun t ht hW => ⟨⟨xn_go a1 a2 a3 20000 a0, (), rfl, (xr_next2 (fun h => c_5 (hw_r_4.trans h)) hask).symm, trivial⟩, hS.F ht⟩) hS.2.2 dX11_next_145
      · refine lv_iload hx hb dX11_next_62 (lv_at hl 6 rfl) ?_
        refine lv_if_lt (tgt := 78) hx hb dX11_next_64 (by decide) (fun c_10 => ?_) (fun c_10 => ?_)
        · refine lv_iconst (v := 0) hx hb dX11_next_78 (by decide) ?_
          refine lv_istore (lv' := [(8, .int 0), (7, .int 1), (6, .int 1), (0, .ref x), (1, .long a0), (3, .int a1), (4, .int a2), (5, .int a3)]) hx hb dX11_next_79 hl (by decide) rfl (fun ls hl => ?_)
          refine lv_lload_n hx hb dX11_next_81 rfl (lv_at hl 4 rfl) ?_
          have hPc := hP.sub (ws' := []) [] rfl
          have hKc := hK.sub (tys' := []) [] rfl
          refine vp_callSi (W.runS (As := [.long a0]) (rest := []) ⟨hx, hb, hml, hown, htw⟩ (mt_isCount l dC dI a0) (va_cwS 1 htw (xg_S (ck_35 _ (List.mem_of_getElem? (i := 15) rfl)) (ck_35 _ (List.mem_of_getElem? (i := 16) rfl)) (ck_1 _ (List.mem_of_getElem? (i := 2) rfl)) (ck_35 _ (List.mem_of_getElem? (i := 17) rfl))) rfl rfl rfl (by decide +kernel) ⟨Nat.le_of_ble_eq_true rfl, Nat.le_of_ble_eq_true rfl⟩) ⟨fun a U g mk q => by obtain ⟨q0, qP, qK⟩ := q; exact ⟨q0, qP, va_K.moved (u := U) (U := U.calling g mk a) (Vm.Alike.refl U.vm) qK⟩, fun U hU hW => ⟨rfl, by rw [hU]; exact hPc, va_K.moved hW.alike hKc⟩⟩ rfl rfl hl.1 rfl (lv_room (Nat.le_of_ble_eq_true rfl)) dX11_next_82 ⟨Nat.le_of_ble_eq_true rfl, Nat.le_of_ble_eq_true rfl⟩) (fun r_11 hw => ?_)
          try dsimp only at hw
          have hw_r_11 : r_11 = xg_cnt a0 := hw
          refine lv_if_eq (tgt := 103) hx hb dX11_next_85 (by decide) (fun c_12 => ?_) (fun c_12 => ?_)
          · refine lv_ldc2 (v := (-1)) hx hb hown (htw _ (ck_34 _ (List.mem_of_getElem? (i := 18) rfl))) dX11_next_103 ?_
            refine W.widen (k := 0) (n := 0) (by omega) (by omega) ?_
            exact W.lret (v := (-1)) hx hb hr (fun t ht hW => ⟨⟨(-1), (), rfl, (xr_next0 (hw_r_11.symm.trans c_12)).symm, trivial⟩, hS.F ht⟩) hS.2.2 dX11_next_106
          · refine lv_iload hx hb dX11_next_88 (lv_at hl 2 rfl) ?_
            refine lv_if_eq (tgt := 103) hx hb dX11_next_90 (by decide) (fun c => absurd c (by decide)) (fun _ => ?_)
            refine lv_iload hx hb dX11_next_93 (lv_at hl 1 rfl) ?_
            refine lv_if_eq (tgt := 103) hx hb dX11_next_95 (by decide) (fun c => absurd c (by decide)) (fun _ => ?_)
            refine lv_iload hx hb dX11_next_98 (lv_at hl 0 rfl) ?_
            refine lv_if_ne (tgt := 107) hx hb dX11_next_100 (by decide) (fun c => absurd c (by decide)) (fun _ => ?_)
            refine lv_ldc2 (v := (-1)) hx hb hown (htw _ (ck_34 _ (List.mem_of_getElem? (i := 18) rfl))) dX11_next_103 ?_
            refine W.widen (k := 0) (n := 0) (by omega) (by omega) ?_
            exact W.lret (v := (-1)) hx hb hr (fun t ht hW => ⟨⟨(-1), (), rfl, (xr_next1 (fun h => (fun h => h.elim c_3 (fun z => absurd c_10 (Int32.not_lt.mpr z.1))) h.2.2)).symm, trivial⟩, hS.F ht⟩) hS.2.2 dX11_next_106
        · refine lv_iload hx hb dX11_next_67 (lv_at hl 6 rfl) ?_
          refine lv_bipush (v := 7) hx hb dX11_next_69 (by decide) ?_
          refine lv_icmp_gt (tgt := 78) hx hb dX11_next_71 (by decide) (fun c_13 => ?_) (fun c_13 => ?_)
          · refine lv_iconst (v := 0) hx hb dX11_next_78 (by decide) ?_
            refine lv_istore (lv' := [(8, .int 0), (7, .int 1), (6, .int 1), (0, .ref x), (1, .long a0), (3, .int a1), (4, .int a2), (5, .int a3)]) hx hb dX11_next_79 hl (by decide) rfl (fun ls hl => ?_)
            refine lv_lload_n hx hb dX11_next_81 rfl (lv_at hl 4 rfl) ?_
            have hPc := hP.sub (ws' := []) [] rfl
            have hKc := hK.sub (tys' := []) [] rfl
            refine vp_callSi (W.runS (As := [.long a0]) (rest := []) ⟨hx, hb, hml, hown, htw⟩ (mt_isCount l dC dI a0) (va_cwS 1 htw (xg_S (ck_35 _ (List.mem_of_getElem? (i := 15) rfl)) (ck_35 _ (List.mem_of_getElem? (i := 16) rfl)) (ck_1 _ (List.mem_of_getElem? (i := 2) rfl)) (ck_35 _ (List.mem_of_getElem? (i := 17) rfl))) rfl rfl rfl (by decide +kernel) ⟨Nat.le_of_ble_eq_true rfl, Nat.le_of_ble_eq_true rfl⟩) ⟨fun a U g mk q => by obtain ⟨q0, qP, qK⟩ := q; exact ⟨q0, qP, va_K.moved (u := U) (U := U.calling g mk a) (Vm.Alike.refl U.vm) qK⟩, fun U hU hW => ⟨rfl, by rw [hU]; exact hPc, va_K.moved hW.alike hKc⟩⟩ rfl rfl hl.1 rfl (lv_room (Nat.le_of_ble_eq_true rfl)) dX11_next_82 ⟨Nat.le_of_ble_eq_true rfl, Nat.le_of_ble_eq_true rfl⟩) (fun r_14 hw => ?_)
            try dsimp only at hw
            have hw_r_14 : r_14 = xg_cnt a0 := hw
            refine lv_if_eq (tgt := 103) hx hb dX11_next_85 (by decide) (fun c_15 => ?_) (fun c_15 => ?_)
            · refine lv_ldc2 (v := (-1)) hx hb hown (htw _ (ck_34 _ (List.mem_of_getElem? (i := 18) rfl))) dX11_next_103 ?_
              refine W.widen (k := 0) (n := 0) (by omega) (by omega) ?_
              exact W.lret (v := (-1)) hx hb hr (fun t ht hW => ⟨⟨(-1), (), rfl, (xr_next0 (hw_r_14.symm.trans c_15)).symm, trivial⟩, hS.F ht⟩) hS.2.2 dX11_next_106
            · refine lv_iload hx hb dX11_next_88 (lv_at hl 2 rfl) ?_
              refine lv_if_eq (tgt := 103) hx hb dX11_next_90 (by decide) (fun c => absurd c (by decide)) (fun _ => ?_)
              refine lv_iload hx hb dX11_next_93 (lv_at hl 1 rfl) ?_
              refine lv_if_eq (tgt := 103) hx hb dX11_next_95 (by decide) (fun c => absurd c (by decide)) (fun _ => ?_)
              refine lv_iload hx hb dX11_next_98 (lv_at hl 0 rfl) ?_
              refine lv_if_ne (tgt := 107) hx hb dX11_next_100 (by decide) (fun c => absurd c (by decide)) (fun _ => ?_)
              refine lv_ldc2 (v := (-1)) hx hb hown (htw _ (ck_34 _ (List.mem_of_getElem? (i := 18) rfl))) dX11_next_103 ?_
              refine W.widen (k := 0) (n := 0) (by omega) (by omega) ?_
              exact W.lret (v := (-1)) hx hb hr (fun t ht hW => ⟨⟨(-1), (), rfl, (xr_next1 (fun h => (fun h => h.elim c_3 (fun z => absurd c_13 (Int32.not_lt.mpr z.2))) h.2.2)).symm, trivial⟩, hS.F ht⟩) hS.2.2 dX11_next_106
          · refine lv_iconst (v := 1) hx hb dX11_next_74 (by decide) ?_
            refine lv_goto (tgt := 79) hx hb dX11_next_75 (by decide) ?_
            refine lv_istore (lv' := [(8, .int 1), (7, .int 1), (6, .int 1), (0, .ref x), (1, .long a0), (3, .int a1), (4, .int a2), (5, .int a3)]) hx hb dX11_next_79 hl (by decide) rfl (fun ls hl => ?_)
            refine lv_lload_n hx hb dX11_next_81 rfl (lv_at hl 4 rfl) ?_
            have hPc := hP.sub (ws' := []) [] rfl
            have hKc := hK.sub (tys' := []) [] rfl
            refine vp_callSi (W.runS (As := [.long a0]) (rest := []) ⟨hx, hb, hml, hown, htw⟩ (mt_isCount l dC dI a0) (va_cwS 1 htw (xg_S (ck_35 _ (List.mem_of_getElem? (i := 15) rfl)) (ck_35 _ (List.mem_of_getElem? (i := 16) rfl)) (ck_1 _ (List.mem_of_getElem? (i := 2) rfl)) (ck_35 _ (List.mem_of_getElem? (i := 17) rfl))) rfl rfl rfl (by decide +kernel) ⟨Nat.le_of_ble_eq_true rfl, Nat.le_of_ble_eq_true rfl⟩) ⟨fun a U g mk q => by obtain ⟨q0, qP, qK⟩ := q; exact ⟨q0, qP, va_K.moved (u := U) (U := U.calling g mk a) (Vm.Alike.refl U.vm) qK⟩, fun U hU hW => ⟨rfl, by rw [hU]; exact hPc, va_K.moved hW.alike hKc⟩⟩ rfl rfl hl.1 rfl (lv_room (Nat.le_of_ble_eq_true rfl)) dX11_next_82 ⟨Nat.le_of_ble_eq_true rfl, Nat.le_of_ble_eq_true rfl⟩) (fun r_16 hw => ?_)
            try dsimp only at hw
            have hw_r_16 : r_16 = xg_cnt a0 := hw
            refine lv_if_eq (tgt := 103) hx hb dX11_next_85 (by decide) (fun c_17 => ?_) (fun c_17 => ?_)
            · refine lv_ldc2 (v := (-1)) hx hb hown (htw _ (ck_34 _ (List.mem_of_getElem? (i := 18) rfl))) dX11_next_103 ?_
              refine W.widen (k := 0) (n := 0) (by omega) (by omega) ?_
              exact W.lret (v := (-1)) hx hb hr (fun t ht hW => ⟨⟨(-1), (), rfl, (xr_next0 (hw_r_16.symm.trans c_17)).symm, trivial⟩, hS.F ht⟩) hS.2.2 dX11_next_106
            · refine lv_iload hx hb dX11_next_88 (lv_at hl 2 rfl) ?_
              refine lv_if_eq (tgt := 103) hx hb dX11_next_90 (by decide) (fun c => absurd c (by decide)) (fun _ => ?_)
              refine lv_iload hx hb dX11_next_93 (lv_at hl 1 rfl) ?_
              refine lv_if_eq (tgt := 103) hx hb dX11_next_95 (by decide) (fun c => absurd c (by decide)) (fun _ => ?_)
              refine lv_iload hx hb dX11_next_98 (lv_at hl 0 rfl) ?_
              refine lv_if_ne (tgt := 107) hx hb dX11_next_100 (by decide) (fun _ => ?_) (fun c => absurd c (by decide))
              have hask : xr_ask a1 a2 a3 := ⟨Or.inl c_1, Or.inl c_2, Or.inr ⟨Int32.not_lt.mp c_10, Int32.not_lt.mp c_13⟩⟩
              have hok := xr_ask_ok hask
              refine lv_aload_n hx hb dX11_next_107 rfl (lv_at hl 3 rfl) ?_
              refine va_get (D := (dC, dI)) (ci := 11) (v := .ref xwi) (C := RX11) (T := TX11) (N := 13) hx hb htw inlX11 hown hK hP 0 rfl rfl 12 (by decide) (htw _ (ck_2 _ (List.mem_of_getElem? (i := 22) rfl))) (fun _ h9 => h9) rfl dX11_next_108 ?_
              have hPc := hP.sub (ws' := [(xwi, .inr (10, [.int 0, .int 0, .int 0, .int 0, .int 0]))]) [4] rfl
              have hKc := hK.sub (tys' := []) [] rfl
              have hDc := hD.sub (ws' := [(xwi, .inr (10, [.int 0, .int 0, .int 0, .int 0, .int 0]))]) [4] (by decide) rfl
              have hFc := va_free (wc := [(xwi, .inr (10, [.int 0, .int 0, .int 0, .int 0, .int 0]))]) hD hS hA [4] rfl
              refine va_callv (va_runV (As := []) (rest := []) ⟨hx, hb, hml, hown, htw⟩ (mt_wclear l dC dI xwi (0 : Int32) (0 : Int32) (0 : Int32) (0 : Int32) (0 : Int32) H.size) (cwV 0 htw (xg_V (ck_42 _ (List.mem_of_getElem? (i := 4) rfl)) (ck_42 _ (List.mem_of_getElem? (i := 5) rfl)) (ck_42 _ (List.mem_of_getElem? (i := 6) rfl)) (ck_2 _ (List.mem_of_getElem? (i := 21) rfl)) (ck_42 _ (List.mem_of_getElem? (i := 7) rfl))) rfl rfl rfl (by decide +kernel) ⟨Nat.le_of_ble_eq_true rfl, Nat.le_of_ble_eq_true rfl⟩) ⟨fun a U g mk q => by obtain ⟨q0, q1, qP, qK, qD⟩ := q; exact ⟨q0, q1, qP, va_K.moved (u := U) (U := U.calling g mk a) (Vm.Alike.refl U.vm) qK, qD⟩, va_recv hKc hPc (ci := 10) (q0 := 0) rfl rfl, fun U hU hW => ⟨rfl, by rw [hU], by rw [hU]; exact hPc, va_K.moved hW.alike hKc, hDc.weaken (fun _ _ _ _ => trivial)⟩⟩ rfl rfl hl.1 rfl (lv_room (Nat.le_of_ble_eq_true rfl)) dX11_next_111 ⟨Nat.le_of_ble_eq_true rfl, Nat.le_of_ble_eq_true rfl⟩) hS (fun q _ h => hFc q h) hFc (fun u_19 t H1 locs ht hvm hw hB hz1 hk1 hS => ?_)
              try dsimp only at hw
              obtain ⟨hP1, hK1, hD1⟩ := hB
              rw [ht] at hP1
              have hK1 := va_K.moved hvm.symm hK1
              have hP1 : va_P (dC, dI) vwCl [(xwi, .inr (10, [.int (-1), .int (-1), .int (-1), .int (-1), .int (-1)]))] H1 := hP1
              have hD1 : va_D (va_A [(xwi, .inr (10, [.int 0, .int 0, .int 0, .int 0, .int 0]))] H.size) [(xwi, .inr (10, [.int (-1), .int (-1), .int (-1), .int (-1), .int (-1)]))] := hD1
              have hK1 : va_K (dC, dI) vwCl [] s := hK1
              obtain ⟨hP, hD⟩ := va_join (wr := [(x, .inr (11, [.ref xpa, .ref b, .ref xsp, .ref xdy, .ref xle, .ref xst, .int 0, .ref xim, .ref xil, .int 0, .ref xmo, .ref xom, .ref xwi])), (b, .inr (0, [.ref bto, .ref bnm, .ref bla, .ref bsk, .ref bru, .ref bbo, .ref bdi, .ref bda, .ref bdk, .ref bdt, .ref bdp, .ref bno])), (bto, .inl (bcT, 5, .inl (fun _ => 0))), (bsk, .inr (9, [.int 7, .int 0, .int 59, .int 2, .int 0, .int 1461, .int 4])), (xmo, .inr (4, [.null, .long 0, .long 0, .long 0, .long 0]))]) (w1 := [(xwi, .inr (10, [.int (-1), .int (-1), .int (-1), .int (-1), .int (-1)]))]) hP hD [4] [0, 1, 2, 3, 5] rfl rfl (by decide) (by decide) hk1 hFc hP1 hD1
              generalize H1 = H at hP hS ⊢
              have hP : va_P (dC, dI) vwCl [(x, .inr (11, [.ref xpa, .ref b, .ref xsp, .ref xdy, .ref xle, .ref xst, .int 0, .ref xim, .ref xil, .int 0, .ref xmo, .ref xom, .ref xwi])), (b, .inr (0, [.ref bto, .ref bnm, .ref bla, .ref bsk, .ref bru, .ref bbo, .ref bdi, .ref bda, .ref bdk, .ref bdt, .ref bdp, .ref bno])), (bto, .inl (bcT, 5, .inl (fun _ => 0))), (bsk, .inr (9, [.int 7, .int 0, .int 59, .int 2, .int 0, .int 1461, .int 4])), (xmo, .inr (4, [.null, .long 0, .long 0, .long 0, .long 0])), (xwi, .inr (10, [.int (-1), .int (-1), .int (-1), .int (-1), .int (-1)]))] H := hP
              have hD : va_D A [(x, .inr (11, [.ref xpa, .ref b, .ref xsp, .ref xdy, .ref xle, .ref xst, .int 0, .ref xim, .ref xil, .int 0, .ref xmo, .ref xom, .ref xwi])), (b, .inr (0, [.ref bto, .ref bnm, .ref bla, .ref bsk, .ref bru, .ref bbo, .ref bdi, .ref bda, .ref bdk, .ref bdt, .ref bdp, .ref bno])), (bto, .inl (bcT, 5, .inl (fun _ => 0))), (bsk, .inr (9, [.int 7, .int 0, .int 59, .int 2, .int 0, .int 1461, .int 4])), (xmo, .inr (4, [.null, .long 0, .long 0, .long 0, .long 0])), (xwi, .inr (10, [.int (-1), .int (-1), .int (-1), .int (-1), .int (-1)]))] := hD
              refine W.widen (k := 0) (n := 0) (by omega) (by omega) ?_
              refine lv_aload_n hx hb dX11_next_114 rfl (lv_at hl 3 rfl) ?_
              refine va_get (D := (dC, dI)) (ci := 11) (v := .ref xwi) (C := RX11) (T := TX11) (N := 13) hx hb htw inlX11 hown hK hP 0 rfl rfl 12 (by decide) (htw _ (ck_2 _ (List.mem_of_getElem? (i := 22) rfl))) (fun _ h9 => h9) rfl dX11_next_115 ?_
              refine lv_iload_n hx hb dX11_next_118 rfl (lv_at hl 5 rfl) ?_
              refine va_put (D := (dC, dI)) (ci := 10) (v := .int a1) (ty := tyX10 0) (C := RX10) (T := TX10) (N := 5) hx hb htw inlX10 tyX10 tyX10_ok nmX10 hown hK hP hD hS 5 rfl rfl 0 (by decide) (htw _ (ck_48 _ (List.mem_of_getElem? (i := 14) rfl))) (fun _ h9 => h9) rfl (by decide +kernel) rfl rfl (Nat.le_of_ble_eq_true rfl) dX11_next_119 (fun H locs hP hD hS => ?_)
              have hP : va_P (dC, dI) vwCl [(x, .inr (11, [.ref xpa, .ref b, .ref xsp, .ref xdy, .ref xle, .ref xst, .int 0, .ref xim, .ref xil, .int 0, .ref xmo, .ref xom, .ref xwi])), (b, .inr (0, [.ref bto, .ref bnm, .ref bla, .ref bsk, .ref bru, .ref bbo, .ref bdi, .ref bda, .ref bdk, .ref bdt, .ref bdp, .ref bno])), (bto, .inl (bcT, 5, .inl (fun _ => 0))), (bsk, .inr (9, [.int 7, .int 0, .int 59, .int 2, .int 0, .int 1461, .int 4])), (xmo, .inr (4, [.null, .long 0, .long 0, .long 0, .long 0])), (xwi, .inr (10, [.int a1, .int (-1), .int (-1), .int (-1), .int (-1)]))] H := hP
              have hD : va_D A [(x, .inr (11, [.ref xpa, .ref b, .ref xsp, .ref xdy, .ref xle, .ref xst, .int 0, .ref xim, .ref xil, .int 0, .ref xmo, .ref xom, .ref xwi])), (b, .inr (0, [.ref bto, .ref bnm, .ref bla, .ref bsk, .ref bru, .ref bbo, .ref bdi, .ref bda, .ref bdk, .ref bdt, .ref bdp, .ref bno])), (bto, .inl (bcT, 5, .inl (fun _ => 0))), (bsk, .inr (9, [.int 7, .int 0, .int 59, .int 2, .int 0, .int 1461, .int 4])), (xmo, .inr (4, [.null, .long 0, .long 0, .long 0, .long 0])), (xwi, .inr (10, [.int a1, .int (-1), .int (-1), .int (-1), .int (-1)]))] := hD
              refine lv_aload_n hx hb dX11_next_122 rfl (lv_at hl 3 rfl) ?_
              refine va_get (D := (dC, dI)) (ci := 11) (v := .ref xwi) (C := RX11) (T := TX11) (N := 13) hx hb htw inlX11 hown hK hP 0 rfl rfl 12 (by decide) (htw _ (ck_2 _ (List.mem_of_getElem? (i := 22) rfl))) (fun _ h9 => h9) rfl dX11_next_123 ?_
              refine lv_iload hx hb dX11_next_126 (lv_at hl 6 rfl) ?_
              refine va_put (D := (dC, dI)) (ci := 10) (v := .int a2) (ty := tyX10 1) (C := RX10) (T := TX10) (N := 5) hx hb htw inlX10 tyX10 tyX10_ok nmX10 hown hK hP hD hS 5 rfl rfl 1 (by decide) (htw _ (ck_48 _ (List.mem_of_getElem? (i := 15) rfl))) (fun _ h9 => h9) rfl (by decide +kernel) rfl rfl (Nat.le_of_ble_eq_true rfl) dX11_next_128 (fun H locs hP hD hS => ?_)
              have hP : va_P (dC, dI) vwCl [(x, .inr (11, [.ref xpa, .ref b, .ref xsp, .ref xdy, .ref xle, .ref xst, .int 0, .ref xim, .ref xil, .int 0, .ref xmo, .ref xom, .ref xwi])), (b, .inr (0, [.ref bto, .ref bnm, .ref bla, .ref bsk, .ref bru, .ref bbo, .ref bdi, .ref bda, .ref bdk, .ref bdt, .ref bdp, .ref bno])), (bto, .inl (bcT, 5, .inl (fun _ => 0))), (bsk, .inr (9, [.int 7, .int 0, .int 59, .int 2, .int 0, .int 1461, .int 4])), (xmo, .inr (4, [.null, .long 0, .long 0, .long 0, .long 0])), (xwi, .inr (10, [.int a1, .int a2, .int (-1), .int (-1), .int (-1)]))] H := hP
              have hD : va_D A [(x, .inr (11, [.ref xpa, .ref b, .ref xsp, .ref xdy, .ref xle, .ref xst, .int 0, .ref xim, .ref xil, .int 0, .ref xmo, .ref xom, .ref xwi])), (b, .inr (0, [.ref bto, .ref bnm, .ref bla, .ref bsk, .ref bru, .ref bbo, .ref bdi, .ref bda, .ref bdk, .ref bdt, .ref bdp, .ref bno])), (bto, .inl (bcT, 5, .inl (fun _ => 0))), (bsk, .inr (9, [.int 7, .int 0, .int 59, .int 2, .int 0, .int 1461, .int 4])), (xmo, .inr (4, [.null, .long 0, .long 0, .long 0, .long 0])), (xwi, .inr (10, [.int a1, .int a2, .int (-1), .int (-1), .int (-1)]))] := hD
              refine lv_aload_n hx hb dX11_next_131 rfl (lv_at hl 3 rfl) ?_
              refine va_get (D := (dC, dI)) (ci := 11) (v := .ref xwi) (C := RX11) (T := TX11) (N := 13) hx hb htw inlX11 hown hK hP 0 rfl rfl 12 (by decide) (htw _ (ck_2 _ (List.mem_of_getElem? (i := 22) rfl))) (fun _ h9 => h9) rfl dX11_next_132 ?_
              refine lv_iload hx hb dX11_next_135 (lv_at hl 7 rfl) ?_
              refine va_put (D := (dC, dI)) (ci := 10) (v := .int a3) (ty := tyX10 2) (C := RX10) (T := TX10) (N := 5) hx hb htw inlX10 tyX10 tyX10_ok nmX10 hown hK hP hD hS 5 rfl rfl 2 (by decide) (htw _ (ck_48 _ (List.mem_of_getElem? (i := 16) rfl))) (fun _ h9 => h9) rfl (by decide +kernel) rfl rfl (Nat.le_of_ble_eq_true rfl) dX11_next_137 (fun H locs hP hD hS => ?_)
              have hP : va_P (dC, dI) vwCl [(x, .inr (11, [.ref xpa, .ref b, .ref xsp, .ref xdy, .ref xle, .ref xst, .int 0, .ref xim, .ref xil, .int 0, .ref xmo, .ref xom, .ref xwi])), (b, .inr (0, [.ref bto, .ref bnm, .ref bla, .ref bsk, .ref bru, .ref bbo, .ref bdi, .ref bda, .ref bdk, .ref bdt, .ref bdp, .ref bno])), (bto, .inl (bcT, 5, .inl (fun _ => 0))), (bsk, .inr (9, [.int 7, .int 0, .int 59, .int 2, .int 0, .int 1461, .int 4])), (xmo, .inr (4, [.null, .long 0, .long 0, .long 0, .long 0])), (xwi, .inr (10, [.int a1, .int a2, .int a3, .int (-1), .int (-1)]))] H := hP
              have hD : va_D A [(x, .inr (11, [.ref xpa, .ref b, .ref xsp, .ref xdy, .ref xle, .ref xst, .int 0, .ref xim, .ref xil, .int 0, .ref xmo, .ref xom, .ref xwi])), (b, .inr (0, [.ref bto, .ref bnm, .ref bla, .ref bsk, .ref bru, .ref bbo, .ref bdi, .ref bda, .ref bdk, .ref bdt, .ref bdp, .ref bno])), (bto, .inl (bcT, 5, .inl (fun _ => 0))), (bsk, .inr (9, [.int 7, .int 0, .int 59, .int 2, .int 0, .int 1461, .int 4])), (xmo, .inr (4, [.null, .long 0, .long 0, .long 0, .long 0])), (xwi, .inr (10, [.int a1, .int a2, .int a3, .int (-1), .int (-1)]))] := hD
              refine lv_aload_n hx hb dX11_next_140 rfl (lv_at hl 3 rfl) ?_
              refine lv_lload_n hx hb dX11_next_141 rfl (lv_at hl 4 rfl) ?_
              have hPc := hP.sub (ws' := [(x, .inr (11, [.ref xpa, .ref b, .ref xsp, .ref xdy, .ref xle, .ref xst, .int 0, .ref xim, .ref xil, .int 0, .ref xmo, .ref xom, .ref xwi])), (b, .inr (0, [.ref bto, .ref bnm, .ref bla, .ref bsk, .ref bru, .ref bbo, .ref bdi, .ref bda, .ref bdk, .ref bdt, .ref bdp, .ref bno])), (bto, .inl (bcT, 5, .inl (fun _ => 0))), (bsk, .inr (9, [.int 7, .int 0, .int 59, .int 2, .int 0, .int 1461, .int 4])), (xwi, .inr (10, [.int a1, .int a2, .int a3, .int (-1), .int (-1)])), (xmo, .inr (4, [.null, .long 0, .long 0, .long 0, .long 0]))]) [0, 1, 2, 3, 5, 4] rfl
              have hKc := hK.sub (tys' := [(bcT, .int)]) [0] rfl
              have hDc := hD.sub (ws' := [(x, .inr (11, [.ref xpa, .ref b, .ref xsp, .ref xdy, .ref xle, .ref xst, .int 0, .ref xim, .ref xil, .int 0, .ref xmo, .ref xom, .ref xwi])), (b, .inr (0, [.ref bto, .ref bnm, .ref bla, .ref bsk, .ref bru, .ref bbo, .ref bdi, .ref bda, .ref bdk, .ref bdt, .ref bdp, .ref bno])), (bto, .inl (bcT, 5, .inl (fun _ => 0))), (bsk, .inr (9, [.int 7, .int 0, .int 59, .int 2, .int 0, .int 1461, .int 4])), (xwi, .inr (10, [.int a1, .int a2, .int a3, .int (-1), .int (-1)])), (xmo, .inr (4, [.null, .long 0, .long 0, .long 0, .long 0]))]) [0, 1, 2, 3, 5, 4] (by decide) rfl
              have hFc := va_free (wc := [(x, .inr (11, [.ref xpa, .ref b, .ref xsp, .ref xdy, .ref xle, .ref xst, .int 0, .ref xim, .ref xil, .int 0, .ref xmo, .ref xom, .ref xwi])), (b, .inr (0, [.ref bto, .ref bnm, .ref bla, .ref bsk, .ref bru, .ref bbo, .ref bdi, .ref bda, .ref bdk, .ref bdt, .ref bdp, .ref bno])), (bto, .inl (bcT, 5, .inl (fun _ => 0))), (bsk, .inr (9, [.int 7, .int 0, .int 59, .int 2, .int 0, .int 1461, .int 4])), (xwi, .inr (10, [.int a1, .int a2, .int a3, .int (-1), .int (-1)])), (xmo, .inr (4, [.null, .long 0, .long 0, .long 0, .long 0]))]) hD hS hA [0, 1, 2, 3, 5, 4] rfl
              refine va_calll (va_runV (As := [.long a0]) (rest := []) ⟨hx, hb, hml, hown, htw⟩ (mt_first l dC dI x xpa xsp xdy xle xst xim xil xmo xom xwi b bto bnm bla bsk bru bbo bdi bda bdk bdt bdp bno bcT a1 a2 a3 a0 H.size hok) (cwV 1 htw (xg_V (ck_42 _ (List.mem_of_getElem? (i := 13) rfl)) (ck_42 _ (List.mem_of_getElem? (i := 14) rfl)) (ck_42 _ (List.mem_of_getElem? (i := 15) rfl)) (ck_1 _ (List.mem_of_getElem? (i := 2) rfl)) (ck_42 _ (List.mem_of_getElem? (i := 16) rfl))) rfl rfl rfl (by decide +kernel) ⟨Nat.le_of_ble_eq_true rfl, Nat.le_of_ble_eq_true rfl⟩) ⟨fun a U g mk q => by obtain ⟨q0, q1, qP, qK, qD⟩ := q; exact ⟨q0, q1, qP, va_K.moved (u := U) (U := U.calling g mk a) (Vm.Alike.refl U.vm) qK, qD⟩, va_recv hKc hPc (ci := 11) (q0 := 0) rfl rfl, fun U hU hW => ⟨rfl, by rw [hU], by rw [hU]; exact hPc, va_K.moved hW.alike hKc, hDc.weaken (fun _ _ _ _ => trivial)⟩⟩ rfl rfl hl.1 rfl (lv_room (Nat.le_of_ble_eq_true rfl)) dX11_next_142 ⟨Nat.le_of_ble_eq_true rfl, Nat.le_of_ble_eq_true rfl⟩) hS (fun q _ h => hFc q h) hFc (fun r_20 u_21 t H1 locs ht hvm hw hB hz1 hk1 hS => ?_)
              try dsimp only at hw
              have hP1 : va_P (dC, dI) vwCl [] H1 := fun k q h => by simp at h
              have hD1 : va_D (va_A [(x, .inr (11, [.ref xpa, .ref b, .ref xsp, .ref xdy, .ref xle, .ref xst, .int 0, .ref xim, .ref xil, .int 0, .ref xmo, .ref xom, .ref xwi])), (b, .inr (0, [.ref bto, .ref bnm, .ref bla, .ref bsk, .ref bru, .ref bbo, .ref bdi, .ref bda, .ref bdk, .ref bdt, .ref bdp, .ref bno])), (bto, .inl (bcT, 5, .inl (fun _ => 0))), (bsk, .inr (9, [.int 7, .int 0, .int 59, .int 2, .int 0, .int 1461, .int 4])), (xwi, .inr (10, [.int a1, .int a2, .int a3, .int (-1), .int (-1)])), (xmo, .inr (4, [.null, .long 0, .long 0, .long 0, .long 0]))] H.size) [] := ⟨fun i j p q h => by simp at h, fun k q h => by simp at h⟩
              obtain ⟨hP, hD⟩ := va_join (wr := []) (w1 := []) hP hD [0, 1, 2, 3, 5, 4] [] rfl rfl (by decide) (by decide) hk1 hFc hP1 hD1
              generalize H1 = H at hP hS ⊢
              have hP : va_P (dC, dI) vwCl [] H := hP
              have hD : va_D A [] := hD
              refine W.widen (k := 0) (n := 0) (by omega) (by omega) ?_
              obtain rfl : r_20 = xn_go a1 a2 a3 20000 a0 := hw
              refine W.widen (k := 0) (n := 0) (by omega) (by omega) ?_
              exact W.lret (v := xn_go a1 a2 a3 20000 a0) hx hb hr (fun t ht hW => ⟨⟨xn_go a1 a2 a3 20000 a0, (), rfl, (xr_next2 (fun h => c_17 (hw_r_16.trans h)) hask).symm, trivial⟩, hS.F ht⟩) hS.2.2 dX11_next_145
    · refine lv_iload hx hb dX11_next_29 (lv_at hl 4 rfl) ?_
      refine lv_if_lt (tgt := 53) hx hb dX11_next_31 (by decide) (fun c_22 => ?_) (fun c_22 => ?_)
      · refine lv_iconst (v := 0) hx hb dX11_next_53 (by decide) ?_
        refine lv_istore (lv' := [(7, .int 0), (6, .int 1), (0, .ref x), (1, .long a0), (3, .int a1), (4, .int a2), (5, .int a3)]) hx hb dX11_next_54 hl (by decide) rfl (fun ls hl => ?_)
        refine lv_iload hx hb dX11_next_56 (lv_at hl 6 rfl) ?_
        refine lv_iconst (v := (-1)) hx hb dX11_next_58 (by decide) ?_
        refine lv_icmp_eq (tgt := 74) hx hb dX11_next_59 (by decide) (fun c_23 => ?_) (fun c_23 => ?_)
        · refine lv_iconst (v := 1) hx hb dX11_next_74 (by decide) ?_
          refine lv_goto (tgt := 79) hx hb dX11_next_75 (by decide) ?_
          refine lv_istore (lv' := [(8, .int 1), (7, .int 0), (6, .int 1), (0, .ref x), (1, .long a0), (3, .int a1), (4, .int a2), (5, .int a3)]) hx hb dX11_next_79 hl (by decide) rfl (fun ls hl => ?_)
          refine lv_lload_n hx hb dX11_next_81 rfl (lv_at hl 4 rfl) ?_
          have hPc := hP.sub (ws' := []) [] rfl
          have hKc := hK.sub (tys' := []) [] rfl
          refine vp_callSi (W.runS (As := [.long a0]) (rest := []) ⟨hx, hb, hml, hown, htw⟩ (mt_isCount l dC dI a0) (va_cwS 1 htw (xg_S (ck_35 _ (List.mem_of_getElem? (i := 15) rfl)) (ck_35 _ (List.mem_of_getElem? (i := 16) rfl)) (ck_1 _ (List.mem_of_getElem? (i := 2) rfl)) (ck_35 _ (List.mem_of_getElem? (i := 17) rfl))) rfl rfl rfl (by decide +kernel) ⟨Nat.le_of_ble_eq_true rfl, Nat.le_of_ble_eq_true rfl⟩) ⟨fun a U g mk q => by obtain ⟨q0, qP, qK⟩ := q; exact ⟨q0, qP, va_K.moved (u := U) (U := U.calling g mk a) (Vm.Alike.refl U.vm) qK⟩, fun U hU hW => ⟨rfl, by rw [hU]; exact hPc, va_K.moved hW.alike hKc⟩⟩ rfl rfl hl.1 rfl (lv_room (Nat.le_of_ble_eq_true rfl)) dX11_next_82 ⟨Nat.le_of_ble_eq_true rfl, Nat.le_of_ble_eq_true rfl⟩) (fun r_24 hw => ?_)
          try dsimp only at hw
          have hw_r_24 : r_24 = xg_cnt a0 := hw
          refine lv_if_eq (tgt := 103) hx hb dX11_next_85 (by decide) (fun c_25 => ?_) (fun c_25 => ?_)
          · refine lv_ldc2 (v := (-1)) hx hb hown (htw _ (ck_34 _ (List.mem_of_getElem? (i := 18) rfl))) dX11_next_103 ?_
            refine W.widen (k := 0) (n := 0) (by omega) (by omega) ?_
            exact W.lret (v := (-1)) hx hb hr (fun t ht hW => ⟨⟨(-1), (), rfl, (xr_next0 (hw_r_24.symm.trans c_25)).symm, trivial⟩, hS.F ht⟩) hS.2.2 dX11_next_106
          · refine lv_iload hx hb dX11_next_88 (lv_at hl 2 rfl) ?_
            refine lv_if_eq (tgt := 103) hx hb dX11_next_90 (by decide) (fun c => absurd c (by decide)) (fun _ => ?_)
            refine lv_iload hx hb dX11_next_93 (lv_at hl 1 rfl) ?_
            refine lv_if_eq (tgt := 103) hx hb dX11_next_95 (by decide) (fun _ => ?_) (fun c => absurd c (by decide))
            refine lv_ldc2 (v := (-1)) hx hb hown (htw _ (ck_34 _ (List.mem_of_getElem? (i := 18) rfl))) dX11_next_103 ?_
            refine W.widen (k := 0) (n := 0) (by omega) (by omega) ?_
            exact W.lret (v := (-1)) hx hb hr (fun t ht hW => ⟨⟨(-1), (), rfl, (xr_next1 (fun h => (fun h => h.elim c_2 (fun z => absurd c_22 (Int32.not_lt.mpr z.1))) h.2.1)).symm, trivial⟩, hS.F ht⟩) hS.2.2 dX11_next_106
        · refine lv_iload hx hb dX11_next_62 (lv_at hl 6 rfl) ?_
          refine lv_if_lt (tgt := 78) hx hb dX11_next_64 (by decide) (fun c_26 => ?_) (fun c_26 => ?_)
          · refine lv_iconst (v := 0) hx hb dX11_next_78 (by decide) ?_
            refine lv_istore (lv' := [(8, .int 0), (7, .int 0), (6, .int 1), (0, .ref x), (1, .long a0), (3, .int a1), (4, .int a2), (5, .int a3)]) hx hb dX11_next_79 hl (by decide) rfl (fun ls hl => ?_)
            refine lv_lload_n hx hb dX11_next_81 rfl (lv_at hl 4 rfl) ?_
            have hPc := hP.sub (ws' := []) [] rfl
            have hKc := hK.sub (tys' := []) [] rfl
            refine vp_callSi (W.runS (As := [.long a0]) (rest := []) ⟨hx, hb, hml, hown, htw⟩ (mt_isCount l dC dI a0) (va_cwS 1 htw (xg_S (ck_35 _ (List.mem_of_getElem? (i := 15) rfl)) (ck_35 _ (List.mem_of_getElem? (i := 16) rfl)) (ck_1 _ (List.mem_of_getElem? (i := 2) rfl)) (ck_35 _ (List.mem_of_getElem? (i := 17) rfl))) rfl rfl rfl (by decide +kernel) ⟨Nat.le_of_ble_eq_true rfl, Nat.le_of_ble_eq_true rfl⟩) ⟨fun a U g mk q => by obtain ⟨q0, qP, qK⟩ := q; exact ⟨q0, qP, va_K.moved (u := U) (U := U.calling g mk a) (Vm.Alike.refl U.vm) qK⟩, fun U hU hW => ⟨rfl, by rw [hU]; exact hPc, va_K.moved hW.alike hKc⟩⟩ rfl rfl hl.1 rfl (lv_room (Nat.le_of_ble_eq_true rfl)) dX11_next_82 ⟨Nat.le_of_ble_eq_true rfl, Nat.le_of_ble_eq_true rfl⟩) (fun r_27 hw => ?_)
            try dsimp only at hw
            have hw_r_27 : r_27 = xg_cnt a0 := hw
            refine lv_if_eq (tgt := 103) hx hb dX11_next_85 (by decide) (fun c_28 => ?_) (fun c_28 => ?_)
            · refine lv_ldc2 (v := (-1)) hx hb hown (htw _ (ck_34 _ (List.mem_of_getElem? (i := 18) rfl))) dX11_next_103 ?_
              refine W.widen (k := 0) (n := 0) (by omega) (by omega) ?_
              exact W.lret (v := (-1)) hx hb hr (fun t ht hW => ⟨⟨(-1), (), rfl, (xr_next0 (hw_r_27.symm.trans c_28)).symm, trivial⟩, hS.F ht⟩) hS.2.2 dX11_next_106
            · refine lv_iload hx hb dX11_next_88 (lv_at hl 2 rfl) ?_
              refine lv_if_eq (tgt := 103) hx hb dX11_next_90 (by decide) (fun c => absurd c (by decide)) (fun _ => ?_)
              refine lv_iload hx hb dX11_next_93 (lv_at hl 1 rfl) ?_
              refine lv_if_eq (tgt := 103) hx hb dX11_next_95 (by decide) (fun _ => ?_) (fun c => absurd c (by decide))
              refine lv_ldc2 (v := (-1)) hx hb hown (htw _ (ck_34 _ (List.mem_of_getElem? (i := 18) rfl))) dX11_next_103 ?_
              refine W.widen (k := 0) (n := 0) (by omega) (by omega) ?_
              exact W.lret (v := (-1)) hx hb hr (fun t ht hW => ⟨⟨(-1), (), rfl, (xr_next1 (fun h => (fun h => h.elim c_2 (fun z => absurd c_22 (Int32.not_lt.mpr z.1))) h.2.1)).symm, trivial⟩, hS.F ht⟩) hS.2.2 dX11_next_106
          · refine lv_iload hx hb dX11_next_67 (lv_at hl 6 rfl) ?_
            refine lv_bipush (v := 7) hx hb dX11_next_69 (by decide) ?_
            refine lv_icmp_gt (tgt := 78) hx hb dX11_next_71 (by decide) (fun c_29 => ?_) (fun c_29 => ?_)
            · refine lv_iconst (v := 0) hx hb dX11_next_78 (by decide) ?_
              refine lv_istore (lv' := [(8, .int 0), (7, .int 0), (6, .int 1), (0, .ref x), (1, .long a0), (3, .int a1), (4, .int a2), (5, .int a3)]) hx hb dX11_next_79 hl (by decide) rfl (fun ls hl => ?_)
              refine lv_lload_n hx hb dX11_next_81 rfl (lv_at hl 4 rfl) ?_
              have hPc := hP.sub (ws' := []) [] rfl
              have hKc := hK.sub (tys' := []) [] rfl
              refine vp_callSi (W.runS (As := [.long a0]) (rest := []) ⟨hx, hb, hml, hown, htw⟩ (mt_isCount l dC dI a0) (va_cwS 1 htw (xg_S (ck_35 _ (List.mem_of_getElem? (i := 15) rfl)) (ck_35 _ (List.mem_of_getElem? (i := 16) rfl)) (ck_1 _ (List.mem_of_getElem? (i := 2) rfl)) (ck_35 _ (List.mem_of_getElem? (i := 17) rfl))) rfl rfl rfl (by decide +kernel) ⟨Nat.le_of_ble_eq_true rfl, Nat.le_of_ble_eq_true rfl⟩) ⟨fun a U g mk q => by obtain ⟨q0, qP, qK⟩ := q; exact ⟨q0, qP, va_K.moved (u := U) (U := U.calling g mk a) (Vm.Alike.refl U.vm) qK⟩, fun U hU hW => ⟨rfl, by rw [hU]; exact hPc, va_K.moved hW.alike hKc⟩⟩ rfl rfl hl.1 rfl (lv_room (Nat.le_of_ble_eq_true rfl)) dX11_next_82 ⟨Nat.le_of_ble_eq_true rfl, Nat.le_of_ble_eq_true rfl⟩) (fun r_30 hw => ?_)
              try dsimp only at hw
              have hw_r_30 : r_30 = xg_cnt a0 := hw
              refine lv_if_eq (tgt := 103) hx hb dX11_next_85 (by decide) (fun c_31 => ?_) (fun c_31 => ?_)
              · refine lv_ldc2 (v := (-1)) hx hb hown (htw _ (ck_34 _ (List.mem_of_getElem? (i := 18) rfl))) dX11_next_103 ?_
                refine W.widen (k := 0) (n := 0) (by omega) (by omega) ?_
                exact W.lret (v := (-1)) hx hb hr (fun t ht hW => ⟨⟨(-1), (), rfl, (xr_next0 (hw_r_30.symm.trans c_31)).symm, trivial⟩, hS.F ht⟩) hS.2.2 dX11_next_106
              · refine lv_iload hx hb dX11_next_88 (lv_at hl 2 rfl) ?_
                refine lv_if_eq (tgt := 103) hx hb dX11_next_90 (by decide) (fun c => absurd c (by decide)) (fun _ => ?_)
                refine lv_iload hx hb dX11_next_93 (lv_at hl 1 rfl) ?_
                refine lv_if_eq (tgt := 103) hx hb dX11_next_95 (by decide) (fun _ => ?_) (fun c => absurd c (by decide))
                refine lv_ldc2 (v := (-1)) hx hb hown (htw _ (ck_34 _ (List.mem_of_getElem? (i := 18) rfl))) dX11_next_103 ?_
                refine W.widen (k := 0) (n := 0) (by omega) (by omega) ?_
                exact W.lret (v := (-1)) hx hb hr (fun t ht hW => ⟨⟨(-1), (), rfl, (xr_next1 (fun h => (fun h => h.elim c_2 (fun z => absurd c_22 (Int32.not_lt.mpr z.1))) h.2.1)).symm, trivial⟩, hS.F ht⟩) hS.2.2 dX11_next_106
            · refine lv_iconst (v := 1) hx hb dX11_next_74 (by decide) ?_
              refine lv_goto (tgt := 79) hx hb dX11_next_75 (by decide) ?_
              refine lv_istore (lv' := [(8, .int 1), (7, .int 0), (6, .int 1), (0, .ref x), (1, .long a0), (3, .int a1), (4, .int a2), (5, .int a3)]) hx hb dX11_next_79 hl (by decide) rfl (fun ls hl => ?_)
              refine lv_lload_n hx hb dX11_next_81 rfl (lv_at hl 4 rfl) ?_
              have hPc := hP.sub (ws' := []) [] rfl
              have hKc := hK.sub (tys' := []) [] rfl
              refine vp_callSi (W.runS (As := [.long a0]) (rest := []) ⟨hx, hb, hml, hown, htw⟩ (mt_isCount l dC dI a0) (va_cwS 1 htw (xg_S (ck_35 _ (List.mem_of_getElem? (i := 15) rfl)) (ck_35 _ (List.mem_of_getElem? (i := 16) rfl)) (ck_1 _ (List.mem_of_getElem? (i := 2) rfl)) (ck_35 _ (List.mem_of_getElem? (i := 17) rfl))) rfl rfl rfl (by decide +kernel) ⟨Nat.le_of_ble_eq_true rfl, Nat.le_of_ble_eq_true rfl⟩) ⟨fun a U g mk q => by obtain ⟨q0, qP, qK⟩ := q; exact ⟨q0, qP, va_K.moved (u := U) (U := U.calling g mk a) (Vm.Alike.refl U.vm) qK⟩, fun U hU hW => ⟨rfl, by rw [hU]; exact hPc, va_K.moved hW.alike hKc⟩⟩ rfl rfl hl.1 rfl (lv_room (Nat.le_of_ble_eq_true rfl)) dX11_next_82 ⟨Nat.le_of_ble_eq_true rfl, Nat.le_of_ble_eq_true rfl⟩) (fun r_32 hw => ?_)
              try dsimp only at hw
              have hw_r_32 : r_32 = xg_cnt a0 := hw
              refine lv_if_eq (tgt := 103) hx hb dX11_next_85 (by decide) (fun c_33 => ?_) (fun c_33 => ?_)
              · refine lv_ldc2 (v := (-1)) hx hb hown (htw _ (ck_34 _ (List.mem_of_getElem? (i := 18) rfl))) dX11_next_103 ?_
                refine W.widen (k := 0) (n := 0) (by omega) (by omega) ?_
                exact W.lret (v := (-1)) hx hb hr (fun t ht hW => ⟨⟨(-1), (), rfl, (xr_next0 (hw_r_32.symm.trans c_33)).symm, trivial⟩, hS.F ht⟩) hS.2.2 dX11_next_106
              · refine lv_iload hx hb dX11_next_88 (lv_at hl 2 rfl) ?_
                refine lv_if_eq (tgt := 103) hx hb dX11_next_90 (by decide) (fun c => absurd c (by decide)) (fun _ => ?_)
                refine lv_iload hx hb dX11_next_93 (lv_at hl 1 rfl) ?_
                refine lv_if_eq (tgt := 103) hx hb dX11_next_95 (by decide) (fun _ => ?_) (fun c => absurd c (by decide))
                refine lv_ldc2 (v := (-1)) hx hb hown (htw _ (ck_34 _ (List.mem_of_getElem? (i := 18) rfl))) dX11_next_103 ?_
                refine W.widen (k := 0) (n := 0) (by omega) (by omega) ?_
                exact W.lret (v := (-1)) hx hb hr (fun t ht hW => ⟨⟨(-1), (), rfl, (xr_next1 (fun h => (fun h => h.elim c_2 (fun z => absurd c_22 (Int32.not_lt.mpr z.1))) h.2.1)).symm, trivial⟩, hS.F ht⟩) hS.2.2 dX11_next_106
      · refine lv_iload hx hb dX11_next_34 (lv_at hl 4 rfl) ?_
        refine lv_aload_n hx hb dX11_next_36 rfl (lv_at hl 1 rfl) ?_
        refine va_get (D := (dC, dI)) (ci := 11) (v := .ref b) (C := RX11) (T := TX11) (N := 13) hx hb htw inlX11 hown hK hP 0 rfl rfl 1 (by decide) (htw _ (ck_1 _ (List.mem_of_getElem? (i := 21) rfl))) (fun _ h9 => h9) rfl dX11_next_37 ?_
        refine va_get (D := (dC, dI)) (ci := 0) (v := .ref bsk) (C := RX0) (T := TX0) (N := 12) hx hb htw inlX0 hown hK hP 1 rfl rfl 3 (by decide) (htw _ (ck_37 _ (List.mem_of_getElem? (i := 13) rfl))) (fun _ h9 => h9) rfl dX11_next_40 ?_
        refine va_get (D := (dC, dI)) (ci := 9) (v := .int 7) (C := RX9) (T := TX9) (N := 7) hx hb htw inlX9 hown hK hP 3 rfl rfl 0 (by decide) (htw _ (ck_48 _ (List.mem_of_getElem? (i := 13) rfl))) (fun _ h9 => h9) rfl dX11_next_43 ?_
        refine lv_icmp_ge (tgt := 53) hx hb dX11_next_46 (by decide) (fun c_34 => ?_) (fun c_34 => ?_)
        · refine lv_iconst (v := 0) hx hb dX11_next_53 (by decide) ?_
          refine lv_istore (lv' := [(7, .int 0), (6, .int 1), (0, .ref x), (1, .long a0), (3, .int a1), (4, .int a2), (5, .int a3)]) hx hb dX11_next_54 hl (by decide) rfl (fun ls hl => ?_)
          refine lv_iload hx hb dX11_next_56 (lv_at hl 6 rfl) ?_
          refine lv_iconst (v := (-1)) hx hb dX11_next_58 (by decide) ?_
          refine lv_icmp_eq (tgt := 74) hx hb dX11_next_59 (by decide) (fun c_35 => ?_) (fun c_35 => ?_)
          · refine lv_iconst (v := 1) hx hb dX11_next_74 (by decide) ?_
            refine lv_goto (tgt := 79) hx hb dX11_next_75 (by decide) ?_
            refine lv_istore (lv' := [(8, .int 1), (7, .int 0), (6, .int 1), (0, .ref x), (1, .long a0), (3, .int a1), (4, .int a2), (5, .int a3)]) hx hb dX11_next_79 hl (by decide) rfl (fun ls hl => ?_)
            refine lv_lload_n hx hb dX11_next_81 rfl (lv_at hl 4 rfl) ?_
            have hPc := hP.sub (ws' := []) [] rfl
            have hKc := hK.sub (tys' := []) [] rfl
            refine vp_callSi (W.runS (As := [.long a0]) (rest := []) ⟨hx, hb, hml, hown, htw⟩ (mt_isCount l dC dI a0) (va_cwS 1 htw (xg_S (ck_35 _ (List.mem_of_getElem? (i := 15) rfl)) (ck_35 _ (List.mem_of_getElem? (i := 16) rfl)) (ck_1 _ (List.mem_of_getElem? (i := 2) rfl)) (ck_35 _ (List.mem_of_getElem? (i := 17) rfl))) rfl rfl rfl (by decide +kernel) ⟨Nat.le_of_ble_eq_true rfl, Nat.le_of_ble_eq_true rfl⟩) ⟨fun a U g mk q => by obtain ⟨q0, qP, qK⟩ := q; exact ⟨q0, qP, va_K.moved (u := U) (U := U.calling g mk a) (Vm.Alike.refl U.vm) qK⟩, fun U hU hW => ⟨rfl, by rw [hU]; exact hPc, va_K.moved hW.alike hKc⟩⟩ rfl rfl hl.1 rfl (lv_room (Nat.le_of_ble_eq_true rfl)) dX11_next_82 ⟨Nat.le_of_ble_eq_true rfl, Nat.le_of_ble_eq_true rfl⟩) (fun r_36 hw => ?_)
            try dsimp only at hw
            have hw_r_36 : r_36 = xg_cnt a0 := hw
            refine lv_if_eq (tgt := 103) hx hb dX11_next_85 (by decide) (fun c_37 => ?_) (fun c_37 => ?_)
            · refine lv_ldc2 (v := (-1)) hx hb hown (htw _ (ck_34 _ (List.mem_of_getElem? (i := 18) rfl))) dX11_next_103 ?_
              refine W.widen (k := 0) (n := 0) (by omega) (by omega) ?_
              exact W.lret (v := (-1)) hx hb hr (fun t ht hW => ⟨⟨(-1), (), rfl, (xr_next0 (hw_r_36.symm.trans c_37)).symm, trivial⟩, hS.F ht⟩) hS.2.2 dX11_next_106
            · refine lv_iload hx hb dX11_next_88 (lv_at hl 2 rfl) ?_
              refine lv_if_eq (tgt := 103) hx hb dX11_next_90 (by decide) (fun c => absurd c (by decide)) (fun _ => ?_)
              refine lv_iload hx hb dX11_next_93 (lv_at hl 1 rfl) ?_
              refine lv_if_eq (tgt := 103) hx hb dX11_next_95 (by decide) (fun _ => ?_) (fun c => absurd c (by decide))
              refine lv_ldc2 (v := (-1)) hx hb hown (htw _ (ck_34 _ (List.mem_of_getElem? (i := 18) rfl))) dX11_next_103 ?_
              refine W.widen (k := 0) (n := 0) (by omega) (by omega) ?_
              exact W.lret (v := (-1)) hx hb hr (fun t ht hW => ⟨⟨(-1), (), rfl, (xr_next1 (fun h => (fun h => h.elim c_2 (fun z => absurd c_34 (Int32.not_le.mpr z.2))) h.2.1)).symm, trivial⟩, hS.F ht⟩) hS.2.2 dX11_next_106
          · refine lv_iload hx hb dX11_next_62 (lv_at hl 6 rfl) ?_
            refine lv_if_lt (tgt := 78) hx hb dX11_next_64 (by decide) (fun c_38 => ?_) (fun c_38 => ?_)
            · refine lv_iconst (v := 0) hx hb dX11_next_78 (by decide) ?_
              refine lv_istore (lv' := [(8, .int 0), (7, .int 0), (6, .int 1), (0, .ref x), (1, .long a0), (3, .int a1), (4, .int a2), (5, .int a3)]) hx hb dX11_next_79 hl (by decide) rfl (fun ls hl => ?_)
              refine lv_lload_n hx hb dX11_next_81 rfl (lv_at hl 4 rfl) ?_
              have hPc := hP.sub (ws' := []) [] rfl
              have hKc := hK.sub (tys' := []) [] rfl
              refine vp_callSi (W.runS (As := [.long a0]) (rest := []) ⟨hx, hb, hml, hown, htw⟩ (mt_isCount l dC dI a0) (va_cwS 1 htw (xg_S (ck_35 _ (List.mem_of_getElem? (i := 15) rfl)) (ck_35 _ (List.mem_of_getElem? (i := 16) rfl)) (ck_1 _ (List.mem_of_getElem? (i := 2) rfl)) (ck_35 _ (List.mem_of_getElem? (i := 17) rfl))) rfl rfl rfl (by decide +kernel) ⟨Nat.le_of_ble_eq_true rfl, Nat.le_of_ble_eq_true rfl⟩) ⟨fun a U g mk q => by obtain ⟨q0, qP, qK⟩ := q; exact ⟨q0, qP, va_K.moved (u := U) (U := U.calling g mk a) (Vm.Alike.refl U.vm) qK⟩, fun U hU hW => ⟨rfl, by rw [hU]; exact hPc, va_K.moved hW.alike hKc⟩⟩ rfl rfl hl.1 rfl (lv_room (Nat.le_of_ble_eq_true rfl)) dX11_next_82 ⟨Nat.le_of_ble_eq_true rfl, Nat.le_of_ble_eq_true rfl⟩) (fun r_39 hw => ?_)
              try dsimp only at hw
              have hw_r_39 : r_39 = xg_cnt a0 := hw
              refine lv_if_eq (tgt := 103) hx hb dX11_next_85 (by decide) (fun c_40 => ?_) (fun c_40 => ?_)
              · refine lv_ldc2 (v := (-1)) hx hb hown (htw _ (ck_34 _ (List.mem_of_getElem? (i := 18) rfl))) dX11_next_103 ?_
                refine W.widen (k := 0) (n := 0) (by omega) (by omega) ?_
                exact W.lret (v := (-1)) hx hb hr (fun t ht hW => ⟨⟨(-1), (), rfl, (xr_next0 (hw_r_39.symm.trans c_40)).symm, trivial⟩, hS.F ht⟩) hS.2.2 dX11_next_106
              · refine lv_iload hx hb dX11_next_88 (lv_at hl 2 rfl) ?_
                refine lv_if_eq (tgt := 103) hx hb dX11_next_90 (by decide) (fun c => absurd c (by decide)) (fun _ => ?_)
                refine lv_iload hx hb dX11_next_93 (lv_at hl 1 rfl) ?_
                refine lv_if_eq (tgt := 103) hx hb dX11_next_95 (by decide) (fun _ => ?_) (fun c => absurd c (by decide))
                refine lv_ldc2 (v := (-1)) hx hb hown (htw _ (ck_34 _ (List.mem_of_getElem? (i := 18) rfl))) dX11_next_103 ?_
                refine W.widen (k := 0) (n := 0) (by omega) (by omega) ?_
                exact W.lret (v := (-1)) hx hb hr (fun t ht hW => ⟨⟨(-1), (), rfl, (xr_next1 (fun h => (fun h => h.elim c_2 (fun z => absurd c_34 (Int32.not_le.mpr z.2))) h.2.1)).symm, trivial⟩, hS.F ht⟩) hS.2.2 dX11_next_106
            · refine lv_iload hx hb dX11_next_67 (lv_at hl 6 rfl) ?_
              refine lv_bipush (v := 7) hx hb dX11_next_69 (by decide) ?_
              refine lv_icmp_gt (tgt := 78) hx hb dX11_next_71 (by decide) (fun c_41 => ?_) (fun c_41 => ?_)
              · refine lv_iconst (v := 0) hx hb dX11_next_78 (by decide) ?_
                refine lv_istore (lv' := [(8, .int 0), (7, .int 0), (6, .int 1), (0, .ref x), (1, .long a0), (3, .int a1), (4, .int a2), (5, .int a3)]) hx hb dX11_next_79 hl (by decide) rfl (fun ls hl => ?_)
                refine lv_lload_n hx hb dX11_next_81 rfl (lv_at hl 4 rfl) ?_
                have hPc := hP.sub (ws' := []) [] rfl
                have hKc := hK.sub (tys' := []) [] rfl
                refine vp_callSi (W.runS (As := [.long a0]) (rest := []) ⟨hx, hb, hml, hown, htw⟩ (mt_isCount l dC dI a0) (va_cwS 1 htw (xg_S (ck_35 _ (List.mem_of_getElem? (i := 15) rfl)) (ck_35 _ (List.mem_of_getElem? (i := 16) rfl)) (ck_1 _ (List.mem_of_getElem? (i := 2) rfl)) (ck_35 _ (List.mem_of_getElem? (i := 17) rfl))) rfl rfl rfl (by decide +kernel) ⟨Nat.le_of_ble_eq_true rfl, Nat.le_of_ble_eq_true rfl⟩) ⟨fun a U g mk q => by obtain ⟨q0, qP, qK⟩ := q; exact ⟨q0, qP, va_K.moved (u := U) (U := U.calling g mk a) (Vm.Alike.refl U.vm) qK⟩, fun U hU hW => ⟨rfl, by rw [hU]; exact hPc, va_K.moved hW.alike hKc⟩⟩ rfl rfl hl.1 rfl (lv_room (Nat.le_of_ble_eq_true rfl)) dX11_next_82 ⟨Nat.le_of_ble_eq_true rfl, Nat.le_of_ble_eq_true rfl⟩) (fun r_42 hw => ?_)
                try dsimp only at hw
                have hw_r_42 : r_42 = xg_cnt a0 := hw
                refine lv_if_eq (tgt := 103) hx hb dX11_next_85 (by decide) (fun c_43 => ?_) (fun c_43 => ?_)
                · refine lv_ldc2 (v := (-1)) hx hb hown (htw _ (ck_34 _ (List.mem_of_getElem? (i := 18) rfl))) dX11_next_103 ?_
                  refine W.widen (k := 0) (n := 0) (by omega) (by omega) ?_
                  exact W.lret (v := (-1)) hx hb hr (fun t ht hW => ⟨⟨(-1), (), rfl, (xr_next0 (hw_r_42.symm.trans c_43)).symm, trivial⟩, hS.F ht⟩) hS.2.2 dX11_next_106
                · refine lv_iload hx hb dX11_next_88 (lv_at hl 2 rfl) ?_
                  refine lv_if_eq (tgt := 103) hx hb dX11_next_90 (by decide) (fun c => absurd c (by decide)) (fun _ => ?_)
                  refine lv_iload hx hb dX11_next_93 (lv_at hl 1 rfl) ?_
                  refine lv_if_eq (tgt := 103) hx hb dX11_next_95 (by decide) (fun _ => ?_) (fun c => absurd c (by decide))
                  refine lv_ldc2 (v := (-1)) hx hb hown (htw _ (ck_34 _ (List.mem_of_getElem? (i := 18) rfl))) dX11_next_103 ?_
                  refine W.widen (k := 0) (n := 0) (by omega) (by omega) ?_
                  exact W.lret (v := (-1)) hx hb hr (fun t ht hW => ⟨⟨(-1), (), rfl, (xr_next1 (fun h => (fun h => h.elim c_2 (fun z => absurd c_34 (Int32.not_le.mpr z.2))) h.2.1)).symm, trivial⟩, hS.F ht⟩) hS.2.2 dX11_next_106
              · refine lv_iconst (v := 1) hx hb dX11_next_74 (by decide) ?_
                refine lv_goto (tgt := 79) hx hb dX11_next_75 (by decide) ?_
                refine lv_istore (lv' := [(8, .int 1), (7, .int 0), (6, .int 1), (0, .ref x), (1, .long a0), (3, .int a1), (4, .int a2), (5, .int a3)]) hx hb dX11_next_79 hl (by decide) rfl (fun ls hl => ?_)
                refine lv_lload_n hx hb dX11_next_81 rfl (lv_at hl 4 rfl) ?_
                have hPc := hP.sub (ws' := []) [] rfl
                have hKc := hK.sub (tys' := []) [] rfl
                refine vp_callSi (W.runS (As := [.long a0]) (rest := []) ⟨hx, hb, hml, hown, htw⟩ (mt_isCount l dC dI a0) (va_cwS 1 htw (xg_S (ck_35 _ (List.mem_of_getElem? (i := 15) rfl)) (ck_35 _ (List.mem_of_getElem? (i := 16) rfl)) (ck_1 _ (List.mem_of_getElem? (i := 2) rfl)) (ck_35 _ (List.mem_of_getElem? (i := 17) rfl))) rfl rfl rfl (by decide +kernel) ⟨Nat.le_of_ble_eq_true rfl, Nat.le_of_ble_eq_true rfl⟩) ⟨fun a U g mk q => by obtain ⟨q0, qP, qK⟩ := q; exact ⟨q0, qP, va_K.moved (u := U) (U := U.calling g mk a) (Vm.Alike.refl U.vm) qK⟩, fun U hU hW => ⟨rfl, by rw [hU]; exact hPc, va_K.moved hW.alike hKc⟩⟩ rfl rfl hl.1 rfl (lv_room (Nat.le_of_ble_eq_true rfl)) dX11_next_82 ⟨Nat.le_of_ble_eq_true rfl, Nat.le_of_ble_eq_true rfl⟩) (fun r_44 hw => ?_)
                try dsimp only at hw
                have hw_r_44 : r_44 = xg_cnt a0 := hw
                refine lv_if_eq (tgt := 103) hx hb dX11_next_85 (by decide) (fun c_45 => ?_) (fun c_45 => ?_)
                · refine lv_ldc2 (v := (-1)) hx hb hown (htw _ (ck_34 _ (List.mem_of_getElem? (i := 18) rfl))) dX11_next_103 ?_
                  refine W.widen (k := 0) (n := 0) (by omega) (by omega) ?_
                  exact W.lret (v := (-1)) hx hb hr (fun t ht hW => ⟨⟨(-1), (), rfl, (xr_next0 (hw_r_44.symm.trans c_45)).symm, trivial⟩, hS.F ht⟩) hS.2.2 dX11_next_106
                · refine lv_iload hx hb dX11_next_88 (lv_at hl 2 rfl) ?_
                  refine lv_if_eq (tgt := 103) hx hb dX11_next_90 (by decide) (fun c => absurd c (by decide)) (fun _ => ?_)
                  refine lv_iload hx hb dX11_next_93 (lv_at hl 1 rfl) ?_
                  refine lv_if_eq (tgt := 103) hx hb dX11_next_95 (by decide) (fun _ => ?_) (fun c => absurd c (by decide))
                  refine lv_ldc2 (v := (-1)) hx hb hown (htw _ (ck_34 _ (List.mem_of_getElem? (i := 18) rfl))) dX11_next_103 ?_
                  refine W.widen (k := 0) (n := 0) (by omega) (by omega) ?_
                  exact W.lret (v := (-1)) hx hb hr (fun t ht hW => ⟨⟨(-1), (), rfl, (xr_next1 (fun h => (fun h => h.elim c_2 (fun z => absurd c_34 (Int32.not_le.mpr z.2))) h.2.1)).symm, trivial⟩, hS.F ht⟩) hS.2.2 dX11_next_106
        · refine lv_iconst (v := 1) hx hb dX11_next_49 (by decide) ?_
          refine lv_goto (tgt := 54) hx hb dX11_next_50 (by decide) ?_
          refine lv_istore (lv' := [(7, .int 1), (6, .int 1), (0, .ref x), (1, .long a0), (3, .int a1), (4, .int a2), (5, .int a3)]) hx hb dX11_next_54 hl (by decide) rfl (fun ls hl => ?_)
          refine lv_iload hx hb dX11_next_56 (lv_at hl 6 rfl) ?_
          refine lv_iconst (v := (-1)) hx hb dX11_next_58 (by decide) ?_
          refine lv_icmp_eq (tgt := 74) hx hb dX11_next_59 (by decide) (fun c_46 => ?_) (fun c_46 => ?_)
          · refine lv_iconst (v := 1) hx hb dX11_next_74 (by decide) ?_
            refine lv_goto (tgt := 79) hx hb dX11_next_75 (by decide) ?_
            refine lv_istore (lv' := [(8, .int 1), (7, .int 1), (6, .int 1), (0, .ref x), (1, .long a0), (3, .int a1), (4, .int a2), (5, .int a3)]) hx hb dX11_next_79 hl (by decide) rfl (fun ls hl => ?_)
            refine lv_lload_n hx hb dX11_next_81 rfl (lv_at hl 4 rfl) ?_
            have hPc := hP.sub (ws' := []) [] rfl
            have hKc := hK.sub (tys' := []) [] rfl
            refine vp_callSi (W.runS (As := [.long a0]) (rest := []) ⟨hx, hb, hml, hown, htw⟩ (mt_isCount l dC dI a0) (va_cwS 1 htw (xg_S (ck_35 _ (List.mem_of_getElem? (i := 15) rfl)) (ck_35 _ (List.mem_of_getElem? (i := 16) rfl)) (ck_1 _ (List.mem_of_getElem? (i := 2) rfl)) (ck_35 _ (List.mem_of_getElem? (i := 17) rfl))) rfl rfl rfl (by decide +kernel) ⟨Nat.le_of_ble_eq_true rfl, Nat.le_of_ble_eq_true rfl⟩) ⟨fun a U g mk q => by obtain ⟨q0, qP, qK⟩ := q; exact ⟨q0, qP, va_K.moved (u := U) (U := U.calling g mk a) (Vm.Alike.refl U.vm) qK⟩, fun U hU hW => ⟨rfl, by rw [hU]; exact hPc, va_K.moved hW.alike hKc⟩⟩ rfl rfl hl.1 rfl (lv_room (Nat.le_of_ble_eq_true rfl)) dX11_next_82 ⟨Nat.le_of_ble_eq_true rfl, Nat.le_of_ble_eq_true rfl⟩) (fun r_47 hw => ?_)
            try dsimp only at hw
            have hw_r_47 : r_47 = xg_cnt a0 := hw
            refine lv_if_eq (tgt := 103) hx hb dX11_next_85 (by decide) (fun c_48 => ?_) (fun c_48 => ?_)
            · refine lv_ldc2 (v := (-1)) hx hb hown (htw _ (ck_34 _ (List.mem_of_getElem? (i := 18) rfl))) dX11_next_103 ?_
              refine W.widen (k := 0) (n := 0) (by omega) (by omega) ?_
              exact W.lret (v := (-1)) hx hb hr (fun t ht hW => ⟨⟨(-1), (), rfl, (xr_next0 (hw_r_47.symm.trans c_48)).symm, trivial⟩, hS.F ht⟩) hS.2.2 dX11_next_106
            · refine lv_iload hx hb dX11_next_88 (lv_at hl 2 rfl) ?_
              refine lv_if_eq (tgt := 103) hx hb dX11_next_90 (by decide) (fun c => absurd c (by decide)) (fun _ => ?_)
              refine lv_iload hx hb dX11_next_93 (lv_at hl 1 rfl) ?_
              refine lv_if_eq (tgt := 103) hx hb dX11_next_95 (by decide) (fun c => absurd c (by decide)) (fun _ => ?_)
              refine lv_iload hx hb dX11_next_98 (lv_at hl 0 rfl) ?_
              refine lv_if_ne (tgt := 107) hx hb dX11_next_100 (by decide) (fun _ => ?_) (fun c => absurd c (by decide))
              have hask : xr_ask a1 a2 a3 := ⟨Or.inl c_1, Or.inr ⟨Int32.not_lt.mp c_22, Int32.not_le.mp c_34⟩, Or.inl c_46⟩
              have hok := xr_ask_ok hask
              refine lv_aload_n hx hb dX11_next_107 rfl (lv_at hl 3 rfl) ?_
              refine va_get (D := (dC, dI)) (ci := 11) (v := .ref xwi) (C := RX11) (T := TX11) (N := 13) hx hb htw inlX11 hown hK hP 0 rfl rfl 12 (by decide) (htw _ (ck_2 _ (List.mem_of_getElem? (i := 22) rfl))) (fun _ h9 => h9) rfl dX11_next_108 ?_
              have hPc := hP.sub (ws' := [(xwi, .inr (10, [.int 0, .int 0, .int 0, .int 0, .int 0]))]) [4] rfl
              have hKc := hK.sub (tys' := []) [] rfl
              have hDc := hD.sub (ws' := [(xwi, .inr (10, [.int 0, .int 0, .int 0, .int 0, .int 0]))]) [4] (by decide) rfl
              have hFc := va_free (wc := [(xwi, .inr (10, [.int 0, .int 0, .int 0, .int 0, .int 0]))]) hD hS hA [4] rfl
              refine va_callv (va_runV (As := []) (rest := []) ⟨hx, hb, hml, hown, htw⟩ (mt_wclear l dC dI xwi (0 : Int32) (0 : Int32) (0 : Int32) (0 : Int32) (0 : Int32) H.size) (cwV 0 htw (xg_V (ck_42 _ (List.mem_of_getElem? (i := 4) rfl)) (ck_42 _ (List.mem_of_getElem? (i := 5) rfl)) (ck_42 _ (List.mem_of_getElem? (i := 6) rfl)) (ck_2 _ (List.mem_of_getElem? (i := 21) rfl)) (ck_42 _ (List.mem_of_getElem? (i := 7) rfl))) rfl rfl rfl (by decide +kernel) ⟨Nat.le_of_ble_eq_true rfl, Nat.le_of_ble_eq_true rfl⟩) ⟨fun a U g mk q => by obtain ⟨q0, q1, qP, qK, qD⟩ := q; exact ⟨q0, q1, qP, va_K.moved (u := U) (U := U.calling g mk a) (Vm.Alike.refl U.vm) qK, qD⟩, va_recv hKc hPc (ci := 10) (q0 := 0) rfl rfl, fun U hU hW => ⟨rfl, by rw [hU], by rw [hU]; exact hPc, va_K.moved hW.alike hKc, hDc.weaken (fun _ _ _ _ => trivial)⟩⟩ rfl rfl hl.1 rfl (lv_room (Nat.le_of_ble_eq_true rfl)) dX11_next_111 ⟨Nat.le_of_ble_eq_true rfl, Nat.le_of_ble_eq_true rfl⟩) hS (fun q _ h => hFc q h) hFc (fun u_50 t H1 locs ht hvm hw hB hz1 hk1 hS => ?_)
              try dsimp only at hw
              obtain ⟨hP1, hK1, hD1⟩ := hB
              rw [ht] at hP1
              have hK1 := va_K.moved hvm.symm hK1
              have hP1 : va_P (dC, dI) vwCl [(xwi, .inr (10, [.int (-1), .int (-1), .int (-1), .int (-1), .int (-1)]))] H1 := hP1
              have hD1 : va_D (va_A [(xwi, .inr (10, [.int 0, .int 0, .int 0, .int 0, .int 0]))] H.size) [(xwi, .inr (10, [.int (-1), .int (-1), .int (-1), .int (-1), .int (-1)]))] := hD1
              have hK1 : va_K (dC, dI) vwCl [] s := hK1
              obtain ⟨hP, hD⟩ := va_join (wr := [(x, .inr (11, [.ref xpa, .ref b, .ref xsp, .ref xdy, .ref xle, .ref xst, .int 0, .ref xim, .ref xil, .int 0, .ref xmo, .ref xom, .ref xwi])), (b, .inr (0, [.ref bto, .ref bnm, .ref bla, .ref bsk, .ref bru, .ref bbo, .ref bdi, .ref bda, .ref bdk, .ref bdt, .ref bdp, .ref bno])), (bto, .inl (bcT, 5, .inl (fun _ => 0))), (bsk, .inr (9, [.int 7, .int 0, .int 59, .int 2, .int 0, .int 1461, .int 4])), (xmo, .inr (4, [.null, .long 0, .long 0, .long 0, .long 0]))]) (w1 := [(xwi, .inr (10, [.int (-1), .int (-1), .int (-1), .int (-1), .int (-1)]))]) hP hD [4] [0, 1, 2, 3, 5] rfl rfl (by decide) (by decide) hk1 hFc hP1 hD1
              generalize H1 = H at hP hS ⊢
              have hP : va_P (dC, dI) vwCl [(x, .inr (11, [.ref xpa, .ref b, .ref xsp, .ref xdy, .ref xle, .ref xst, .int 0, .ref xim, .ref xil, .int 0, .ref xmo, .ref xom, .ref xwi])), (b, .inr (0, [.ref bto, .ref bnm, .ref bla, .ref bsk, .ref bru, .ref bbo, .ref bdi, .ref bda, .ref bdk, .ref bdt, .ref bdp, .ref bno])), (bto, .inl (bcT, 5, .inl (fun _ => 0))), (bsk, .inr (9, [.int 7, .int 0, .int 59, .int 2, .int 0, .int 1461, .int 4])), (xmo, .inr (4, [.null, .long 0, .long 0, .long 0, .long 0])), (xwi, .inr (10, [.int (-1), .int (-1), .int (-1), .int (-1), .int (-1)]))] H := hP
              have hD : va_D A [(x, .inr (11, [.ref xpa, .ref b, .ref xsp, .ref xdy, .ref xle, .ref xst, .int 0, .ref xim, .ref xil, .int 0, .ref xmo, .ref xom, .ref xwi])), (b, .inr (0, [.ref bto, .ref bnm, .ref bla, .ref bsk, .ref bru, .ref bbo, .ref bdi, .ref bda, .ref bdk, .ref bdt, .ref bdp, .ref bno])), (bto, .inl (bcT, 5, .inl (fun _ => 0))), (bsk, .inr (9, [.int 7, .int 0, .int 59, .int 2, .int 0, .int 1461, .int 4])), (xmo, .inr (4, [.null, .long 0, .long 0, .long 0, .long 0])), (xwi, .inr (10, [.int (-1), .int (-1), .int (-1), .int (-1), .int (-1)]))] := hD
              refine W.widen (k := 0) (n := 0) (by omega) (by omega) ?_
              refine lv_aload_n hx hb dX11_next_114 rfl (lv_at hl 3 rfl) ?_
              refine va_get (D := (dC, dI)) (ci := 11) (v := .ref xwi) (C := RX11) (T := TX11) (N := 13) hx hb htw inlX11 hown hK hP 0 rfl rfl 12 (by decide) (htw _ (ck_2 _ (List.mem_of_getElem? (i := 22) rfl))) (fun _ h9 => h9) rfl dX11_next_115 ?_
              refine lv_iload_n hx hb dX11_next_118 rfl (lv_at hl 5 rfl) ?_
              refine va_put (D := (dC, dI)) (ci := 10) (v := .int a1) (ty := tyX10 0) (C := RX10) (T := TX10) (N := 5) hx hb htw inlX10 tyX10 tyX10_ok nmX10 hown hK hP hD hS 5 rfl rfl 0 (by decide) (htw _ (ck_48 _ (List.mem_of_getElem? (i := 14) rfl))) (fun _ h9 => h9) rfl (by decide +kernel) rfl rfl (Nat.le_of_ble_eq_true rfl) dX11_next_119 (fun H locs hP hD hS => ?_)
              have hP : va_P (dC, dI) vwCl [(x, .inr (11, [.ref xpa, .ref b, .ref xsp, .ref xdy, .ref xle, .ref xst, .int 0, .ref xim, .ref xil, .int 0, .ref xmo, .ref xom, .ref xwi])), (b, .inr (0, [.ref bto, .ref bnm, .ref bla, .ref bsk, .ref bru, .ref bbo, .ref bdi, .ref bda, .ref bdk, .ref bdt, .ref bdp, .ref bno])), (bto, .inl (bcT, 5, .inl (fun _ => 0))), (bsk, .inr (9, [.int 7, .int 0, .int 59, .int 2, .int 0, .int 1461, .int 4])), (xmo, .inr (4, [.null, .long 0, .long 0, .long 0, .long 0])), (xwi, .inr (10, [.int a1, .int (-1), .int (-1), .int (-1), .int (-1)]))] H := hP
              have hD : va_D A [(x, .inr (11, [.ref xpa, .ref b, .ref xsp, .ref xdy, .ref xle, .ref xst, .int 0, .ref xim, .ref xil, .int 0, .ref xmo, .ref xom, .ref xwi])), (b, .inr (0, [.ref bto, .ref bnm, .ref bla, .ref bsk, .ref bru, .ref bbo, .ref bdi, .ref bda, .ref bdk, .ref bdt, .ref bdp, .ref bno])), (bto, .inl (bcT, 5, .inl (fun _ => 0))), (bsk, .inr (9, [.int 7, .int 0, .int 59, .int 2, .int 0, .int 1461, .int 4])), (xmo, .inr (4, [.null, .long 0, .long 0, .long 0, .long 0])), (xwi, .inr (10, [.int a1, .int (-1), .int (-1), .int (-1), .int (-1)]))] := hD
              refine lv_aload_n hx hb dX11_next_122 rfl (lv_at hl 3 rfl) ?_
              refine va_get (D := (dC, dI)) (ci := 11) (v := .ref xwi) (C := RX11) (T := TX11) (N := 13) hx hb htw inlX11 hown hK hP 0 rfl rfl 12 (by decide) (htw _ (ck_2 _ (List.mem_of_getElem? (i := 22) rfl))) (fun _ h9 => h9) rfl dX11_next_123 ?_
              refine lv_iload hx hb dX11_next_126 (lv_at hl 6 rfl) ?_
              refine va_put (D := (dC, dI)) (ci := 10) (v := .int a2) (ty := tyX10 1) (C := RX10) (T := TX10) (N := 5) hx hb htw inlX10 tyX10 tyX10_ok nmX10 hown hK hP hD hS 5 rfl rfl 1 (by decide) (htw _ (ck_48 _ (List.mem_of_getElem? (i := 15) rfl))) (fun _ h9 => h9) rfl (by decide +kernel) rfl rfl (Nat.le_of_ble_eq_true rfl) dX11_next_128 (fun H locs hP hD hS => ?_)
              have hP : va_P (dC, dI) vwCl [(x, .inr (11, [.ref xpa, .ref b, .ref xsp, .ref xdy, .ref xle, .ref xst, .int 0, .ref xim, .ref xil, .int 0, .ref xmo, .ref xom, .ref xwi])), (b, .inr (0, [.ref bto, .ref bnm, .ref bla, .ref bsk, .ref bru, .ref bbo, .ref bdi, .ref bda, .ref bdk, .ref bdt, .ref bdp, .ref bno])), (bto, .inl (bcT, 5, .inl (fun _ => 0))), (bsk, .inr (9, [.int 7, .int 0, .int 59, .int 2, .int 0, .int 1461, .int 4])), (xmo, .inr (4, [.null, .long 0, .long 0, .long 0, .long 0])), (xwi, .inr (10, [.int a1, .int a2, .int (-1), .int (-1), .int (-1)]))] H := hP
              have hD : va_D A [(x, .inr (11, [.ref xpa, .ref b, .ref xsp, .ref xdy, .ref xle, .ref xst, .int 0, .ref xim, .ref xil, .int 0, .ref xmo, .ref xom, .ref xwi])), (b, .inr (0, [.ref bto, .ref bnm, .ref bla, .ref bsk, .ref bru, .ref bbo, .ref bdi, .ref bda, .ref bdk, .ref bdt, .ref bdp, .ref bno])), (bto, .inl (bcT, 5, .inl (fun _ => 0))), (bsk, .inr (9, [.int 7, .int 0, .int 59, .int 2, .int 0, .int 1461, .int 4])), (xmo, .inr (4, [.null, .long 0, .long 0, .long 0, .long 0])), (xwi, .inr (10, [.int a1, .int a2, .int (-1), .int (-1), .int (-1)]))] := hD
              refine lv_aload_n hx hb dX11_next_131 rfl (lv_at hl 3 rfl) ?_
              refine va_get (D := (dC, dI)) (ci := 11) (v := .ref xwi) (C := RX11) (T := TX11) (N := 13) hx hb htw inlX11 hown hK hP 0 rfl rfl 12 (by decide) (htw _ (ck_2 _ (List.mem_of_getElem? (i := 22) rfl))) (fun _ h9 => h9) rfl dX11_next_132 ?_
              refine lv_iload hx hb dX11_next_135 (lv_at hl 7 rfl) ?_
              refine va_put (D := (dC, dI)) (ci := 10) (v := .int a3) (ty := tyX10 2) (C := RX10) (T := TX10) (N := 5) hx hb htw inlX10 tyX10 tyX10_ok nmX10 hown hK hP hD hS 5 rfl rfl 2 (by decide) (htw _ (ck_48 _ (List.mem_of_getElem? (i := 16) rfl))) (fun _ h9 => h9) rfl (by decide +kernel) rfl rfl (Nat.le_of_ble_eq_true rfl) dX11_next_137 (fun H locs hP hD hS => ?_)
              have hP : va_P (dC, dI) vwCl [(x, .inr (11, [.ref xpa, .ref b, .ref xsp, .ref xdy, .ref xle, .ref xst, .int 0, .ref xim, .ref xil, .int 0, .ref xmo, .ref xom, .ref xwi])), (b, .inr (0, [.ref bto, .ref bnm, .ref bla, .ref bsk, .ref bru, .ref bbo, .ref bdi, .ref bda, .ref bdk, .ref bdt, .ref bdp, .ref bno])), (bto, .inl (bcT, 5, .inl (fun _ => 0))), (bsk, .inr (9, [.int 7, .int 0, .int 59, .int 2, .int 0, .int 1461, .int 4])), (xmo, .inr (4, [.null, .long 0, .long 0, .long 0, .long 0])), (xwi, .inr (10, [.int a1, .int a2, .int a3, .int (-1), .int (-1)]))] H := hP
              have hD : va_D A [(x, .inr (11, [.ref xpa, .ref b, .ref xsp, .ref xdy, .ref xle, .ref xst, .int 0, .ref xim, .ref xil, .int 0, .ref xmo, .ref xom, .ref xwi])), (b, .inr (0, [.ref bto, .ref bnm, .ref bla, .ref bsk, .ref bru, .ref bbo, .ref bdi, .ref bda, .ref bdk, .ref bdt, .ref bdp, .ref bno])), (bto, .inl (bcT, 5, .inl (fun _ => 0))), (bsk, .inr (9, [.int 7, .int 0, .int 59, .int 2, .int 0, .int 1461, .int 4])), (xmo, .inr (4, [.null, .long 0, .long 0, .long 0, .long 0])), (xwi, .inr (10, [.int a1, .int a2, .int a3, .int (-1), .int (-1)]))] := hD
              refine lv_aload_n hx hb dX11_next_140 rfl (lv_at hl 3 rfl) ?_
              refine lv_lload_n hx hb dX11_next_141 rfl (lv_at hl 4 rfl) ?_
              have hPc := hP.sub (ws' := [(x, .inr (11, [.ref xpa, .ref b, .ref xsp, .ref xdy, .ref xle, .ref xst, .int 0, .ref xim, .ref xil, .int 0, .ref xmo, .ref xom, .ref xwi])), (b, .inr (0, [.ref bto, .ref bnm, .ref bla, .ref bsk, .ref bru, .ref bbo, .ref bdi, .ref bda, .ref bdk, .ref bdt, .ref bdp, .ref bno])), (bto, .inl (bcT, 5, .inl (fun _ => 0))), (bsk, .inr (9, [.int 7, .int 0, .int 59, .int 2, .int 0, .int 1461, .int 4])), (xwi, .inr (10, [.int a1, .int a2, .int a3, .int (-1), .int (-1)])), (xmo, .inr (4, [.null, .long 0, .long 0, .long 0, .long 0]))]) [0, 1, 2, 3, 5, 4] rfl
              have hKc := hK.sub (tys' := [(bcT, .int)]) [0] rfl
              have hDc := hD.sub (ws' := [(x, .inr (11, [.ref xpa, .ref b, .ref xsp, .ref xdy, .ref xle, .ref xst, .int 0, .ref xim, .ref xil, .int 0, .ref xmo, .ref xom, .ref xwi])), (b, .inr (0, [.ref bto, .ref bnm, .ref bla, .ref bsk, .ref bru, .ref bbo, .ref bdi, .ref bda, .ref bdk, .ref bdt, .ref bdp, .ref bno])), (bto, .inl (bcT, 5, .inl (fun _ => 0))), (bsk, .inr (9, [.int 7, .int 0, .int 59, .int 2, .int 0, .int 1461, .int 4])), (xwi, .inr (10, [.int a1, .int a2, .int a3, .int (-1), .int (-1)])), (xmo, .inr (4, [.null, .long 0, .long 0, .long 0, .long 0]))]) [0, 1, 2, 3, 5, 4] (by decide) rfl
              have hFc := va_free (wc := [(x, .inr (11, [.ref xpa, .ref b, .ref xsp, .ref xdy, .ref xle, .ref xst, .int 0, .ref xim, .ref xil, .int 0, .ref xmo, .ref xom, .ref xwi])), (b, .inr (0, [.ref bto, .ref bnm, .ref bla, .ref bsk, .ref bru, .ref bbo, .ref bdi, .ref bda, .ref bdk, .ref bdt, .ref bdp, .ref bno])), (bto, .inl (bcT, 5, .inl (fun _ => 0))), (bsk, .inr (9, [.int 7, .int 0, .int 59, .int 2, .int 0, .int 1461, .int 4])), (xwi, .inr (10, [.int a1, .int a2, .int a3, .int (-1), .int (-1)])), (xmo, .inr (4, [.null, .long 0, .long 0, .long 0, .long 0]))]) hD hS hA [0, 1, 2, 3, 5, 4] rfl
              refine va_calll (va_runV (As := [.long a0]) (rest := []) ⟨hx, hb, hml, hown, htw⟩ (mt_first l dC dI x xpa xsp xdy xle xst xim xil xmo xom xwi b bto bnm bla bsk bru bbo bdi bda bdk bdt bdp bno bcT a1 a2 a3 a0 H.size hok) (cwV 1 htw (xg_V (ck_42 _ (List.mem_of_getElem? (i := 13) rfl)) (ck_42 _ (List.mem_of_getElem? (i := 14) rfl)) (ck_42 _ (List.mem_of_getElem? (i := 15) rfl)) (ck_1 _ (List.mem_of_getElem? (i := 2) rfl)) (ck_42 _ (List.mem_of_getElem? (i := 16) rfl))) rfl rfl rfl (by decide +kernel) ⟨Nat.le_of_ble_eq_true rfl, Nat.le_of_ble_eq_true rfl⟩) ⟨fun a U g mk q => by obtain ⟨q0, q1, qP, qK, qD⟩ := q; exact ⟨q0, q1, qP, va_K.moved (u := U) (U := U.calling g mk a) (Vm.Alike.refl U.vm) qK, qD⟩, va_recv hKc hPc (ci := 11) (q0 := 0) rfl rfl, fun U hU hW => ⟨rfl, by rw [hU], by rw [hU]; exact hPc, va_K.moved hW.alike hKc, hDc.weaken (fun _ _ _ _ => trivial)⟩⟩ rfl rfl hl.1 rfl (lv_room (Nat.le_of_ble_eq_true rfl)) dX11_next_142 ⟨Nat.le_of_ble_eq_true rfl, Nat.le_of_ble_eq_true rfl⟩) hS (fun q _ h => hFc q h) hFc (fun r_51 u_52 t H1 locs ht hvm hw hB hz1 hk1 hS => ?_)
              try dsimp only at hw
              have hP1 : va_P (dC, dI) vwCl [] H1 := fun k q h => by simp at h
              have hD1 : va_D (va_A [(x, .inr (11, [.ref xpa, .ref b, .ref xsp, .ref xdy, .ref xle, .ref xst, .int 0, .ref xim, .ref xil, .int 0, .ref xmo, .ref xom, .ref xwi])), (b, .inr (0, [.ref bto, .ref bnm, .ref bla, .ref bsk, .ref bru, .ref bbo, .ref bdi, .ref bda, .ref bdk, .ref bdt, .ref bdp, .ref bno])), (bto, .inl (bcT, 5, .inl (fun _ => 0))), (bsk, .inr (9, [.int 7, .int 0, .int 59, .int 2, .int 0, .int 1461, .int 4])), (xwi, .inr (10, [.int a1, .int a2, .int a3, .int (-1), .int (-1)])), (xmo, .inr (4, [.null, .long 0, .long 0, .long 0, .long 0]))] H.size) [] := ⟨fun i j p q h => by simp at h, fun k q h => by simp at h⟩
              obtain ⟨hP, hD⟩ := va_join (wr := []) (w1 := []) hP hD [0, 1, 2, 3, 5, 4] [] rfl rfl (by decide) (by decide) hk1 hFc hP1 hD1
              generalize H1 = H at hP hS ⊢
              have hP : va_P (dC, dI) vwCl [] H := hP
              have hD : va_D A [] := hD
              refine W.widen (k := 0) (n := 0) (by omega) (by omega) ?_
              obtain rfl : r_51 = xn_go a1 a2 a3 20000 a0 := hw
              refine W.widen (k := 0) (n := 0) (by omega) (by omega) ?_
              exact W.lret (v := xn_go a1 a2 a3 20000 a0) hx hb hr (fun t ht hW => ⟨⟨xn_go a1 a2 a3 20000 a0, (), rfl, (xr_next2 (fun h => c_48 (hw_r_47.trans h)) hask).symm, trivial⟩, hS.F ht⟩) hS.2.2 dX11_next_145
          · refine lv_iload hx hb dX11_next_62 (lv_at hl 6 rfl) ?_
            refine lv_if_lt (tgt := 78) hx hb dX11_next_64 (by decide) (fun c_53 => ?_) (fun c_53 => ?_)
            · refine lv_iconst (v := 0) hx hb dX11_next_78 (by decide) ?_
              refine lv_istore (lv' := [(8, .int 0), (7, .int 1), (6, .int 1), (0, .ref x), (1, .long a0), (3, .int a1), (4, .int a2), (5, .int a3)]) hx hb dX11_next_79 hl (by decide) rfl (fun ls hl => ?_)
              refine lv_lload_n hx hb dX11_next_81 rfl (lv_at hl 4 rfl) ?_
              have hPc := hP.sub (ws' := []) [] rfl
              have hKc := hK.sub (tys' := []) [] rfl
              refine vp_callSi (W.runS (As := [.long a0]) (rest := []) ⟨hx, hb, hml, hown, htw⟩ (mt_isCount l dC dI a0) (va_cwS 1 htw (xg_S (ck_35 _ (List.mem_of_getElem? (i := 15) rfl)) (ck_35 _ (List.mem_of_getElem? (i := 16) rfl)) (ck_1 _ (List.mem_of_getElem? (i := 2) rfl)) (ck_35 _ (List.mem_of_getElem? (i := 17) rfl))) rfl rfl rfl (by decide +kernel) ⟨Nat.le_of_ble_eq_true rfl, Nat.le_of_ble_eq_true rfl⟩) ⟨fun a U g mk q => by obtain ⟨q0, qP, qK⟩ := q; exact ⟨q0, qP, va_K.moved (u := U) (U := U.calling g mk a) (Vm.Alike.refl U.vm) qK⟩, fun U hU hW => ⟨rfl, by rw [hU]; exact hPc, va_K.moved hW.alike hKc⟩⟩ rfl rfl hl.1 rfl (lv_room (Nat.le_of_ble_eq_true rfl)) dX11_next_82 ⟨Nat.le_of_ble_eq_true rfl, Nat.le_of_ble_eq_true rfl⟩) (fun r_54 hw => ?_)
              try dsimp only at hw
              have hw_r_54 : r_54 = xg_cnt a0 := hw
              refine lv_if_eq (tgt := 103) hx hb dX11_next_85 (by decide) (fun c_55 => ?_) (fun c_55 => ?_)
              · refine lv_ldc2 (v := (-1)) hx hb hown (htw _ (ck_34 _ (List.mem_of_getElem? (i := 18) rfl))) dX11_next_103 ?_
                refine W.widen (k := 0) (n := 0) (by omega) (by omega) ?_
                exact W.lret (v := (-1)) hx hb hr (fun t ht hW => ⟨⟨(-1), (), rfl, (xr_next0 (hw_r_54.symm.trans c_55)).symm, trivial⟩, hS.F ht⟩) hS.2.2 dX11_next_106
              · refine lv_iload hx hb dX11_next_88 (lv_at hl 2 rfl) ?_
                refine lv_if_eq (tgt := 103) hx hb dX11_next_90 (by decide) (fun c => absurd c (by decide)) (fun _ => ?_)
                refine lv_iload hx hb dX11_next_93 (lv_at hl 1 rfl) ?_
                refine lv_if_eq (tgt := 103) hx hb dX11_next_95 (by decide) (fun c => absurd c (by decide)) (fun _ => ?_)
                refine lv_iload hx hb dX11_next_98 (lv_at hl 0 rfl) ?_
                refine lv_if_ne (tgt := 107) hx hb dX11_next_100 (by decide) (fun c => absurd c (by decide)) (fun _ => ?_)
                refine lv_ldc2 (v := (-1)) hx hb hown (htw _ (ck_34 _ (List.mem_of_getElem? (i := 18) rfl))) dX11_next_103 ?_
                refine W.widen (k := 0) (n := 0) (by omega) (by omega) ?_
                exact W.lret (v := (-1)) hx hb hr (fun t ht hW => ⟨⟨(-1), (), rfl, (xr_next1 (fun h => (fun h => h.elim c_46 (fun z => absurd c_53 (Int32.not_lt.mpr z.1))) h.2.2)).symm, trivial⟩, hS.F ht⟩) hS.2.2 dX11_next_106
            · refine lv_iload hx hb dX11_next_67 (lv_at hl 6 rfl) ?_
              refine lv_bipush (v := 7) hx hb dX11_next_69 (by decide) ?_
              refine lv_icmp_gt (tgt := 78) hx hb dX11_next_71 (by decide) (fun c_56 => ?_) (fun c_56 => ?_)
              · refine lv_iconst (v := 0) hx hb dX11_next_78 (by decide) ?_
                refine lv_istore (lv' := [(8, .int 0), (7, .int 1), (6, .int 1), (0, .ref x), (1, .long a0), (3, .int a1), (4, .int a2), (5, .int a3)]) hx hb dX11_next_79 hl (by decide) rfl (fun ls hl => ?_)
                refine lv_lload_n hx hb dX11_next_81 rfl (lv_at hl 4 rfl) ?_
                have hPc := hP.sub (ws' := []) [] rfl
                have hKc := hK.sub (tys' := []) [] rfl
                refine vp_callSi (W.runS (As := [.long a0]) (rest := []) ⟨hx, hb, hml, hown, htw⟩ (mt_isCount l dC dI a0) (va_cwS 1 htw (xg_S (ck_35 _ (List.mem_of_getElem? (i := 15) rfl)) (ck_35 _ (List.mem_of_getElem? (i := 16) rfl)) (ck_1 _ (List.mem_of_getElem? (i := 2) rfl)) (ck_35 _ (List.mem_of_getElem? (i := 17) rfl))) rfl rfl rfl (by decide +kernel) ⟨Nat.le_of_ble_eq_true rfl, Nat.le_of_ble_eq_true rfl⟩) ⟨fun a U g mk q => by obtain ⟨q0, qP, qK⟩ := q; exact ⟨q0, qP, va_K.moved (u := U) (U := U.calling g mk a) (Vm.Alike.refl U.vm) qK⟩, fun U hU hW => ⟨rfl, by rw [hU]; exact hPc, va_K.moved hW.alike hKc⟩⟩ rfl rfl hl.1 rfl (lv_room (Nat.le_of_ble_eq_true rfl)) dX11_next_82 ⟨Nat.le_of_ble_eq_true rfl, Nat.le_of_ble_eq_true rfl⟩) (fun r_57 hw => ?_)
                try dsimp only at hw
                have hw_r_57 : r_57 = xg_cnt a0 := hw
                refine lv_if_eq (tgt := 103) hx hb dX11_next_85 (by decide) (fun c_58 => ?_) (fun c_58 => ?_)
                · refine lv_ldc2 (v := (-1)) hx hb hown (htw _ (ck_34 _ (List.mem_of_getElem? (i := 18) rfl))) dX11_next_103 ?_
                  refine W.widen (k := 0) (n := 0) (by omega) (by omega) ?_
                  exact W.lret (v := (-1)) hx hb hr (fun t ht hW => ⟨⟨(-1), (), rfl, (xr_next0 (hw_r_57.symm.trans c_58)).symm, trivial⟩, hS.F ht⟩) hS.2.2 dX11_next_106
                · refine lv_iload hx hb dX11_next_88 (lv_at hl 2 rfl) ?_
                  refine lv_if_eq (tgt := 103) hx hb dX11_next_90 (by decide) (fun c => absurd c (by decide)) (fun _ => ?_)
                  refine lv_iload hx hb dX11_next_93 (lv_at hl 1 rfl) ?_
                  refine lv_if_eq (tgt := 103) hx hb dX11_next_95 (by decide) (fun c => absurd c (by decide)) (fun _ => ?_)
                  refine lv_iload hx hb dX11_next_98 (lv_at hl 0 rfl) ?_
                  refine lv_if_ne (tgt := 107) hx hb dX11_next_100 (by decide) (fun c => absurd c (by decide)) (fun _ => ?_)
                  refine lv_ldc2 (v := (-1)) hx hb hown (htw _ (ck_34 _ (List.mem_of_getElem? (i := 18) rfl))) dX11_next_103 ?_
                  refine W.widen (k := 0) (n := 0) (by omega) (by omega) ?_
                  exact W.lret (v := (-1)) hx hb hr (fun t ht hW => ⟨⟨(-1), (), rfl, (xr_next1 (fun h => (fun h => h.elim c_46 (fun z => absurd c_56 (Int32.not_lt.mpr z.2))) h.2.2)).symm, trivial⟩, hS.F ht⟩) hS.2.2 dX11_next_106
              · refine lv_iconst (v := 1) hx hb dX11_next_74 (by decide) ?_
                refine lv_goto (tgt := 79) hx hb dX11_next_75 (by decide) ?_
                refine lv_istore (lv' := [(8, .int 1), (7, .int 1), (6, .int 1), (0, .ref x), (1, .long a0), (3, .int a1), (4, .int a2), (5, .int a3)]) hx hb dX11_next_79 hl (by decide) rfl (fun ls hl => ?_)
                refine lv_lload_n hx hb dX11_next_81 rfl (lv_at hl 4 rfl) ?_
                have hPc := hP.sub (ws' := []) [] rfl
                have hKc := hK.sub (tys' := []) [] rfl
                refine vp_callSi (W.runS (As := [.long a0]) (rest := []) ⟨hx, hb, hml, hown, htw⟩ (mt_isCount l dC dI a0) (va_cwS 1 htw (xg_S (ck_35 _ (List.mem_of_getElem? (i := 15) rfl)) (ck_35 _ (List.mem_of_getElem? (i := 16) rfl)) (ck_1 _ (List.mem_of_getElem? (i := 2) rfl)) (ck_35 _ (List.mem_of_getElem? (i := 17) rfl))) rfl rfl rfl (by decide +kernel) ⟨Nat.le_of_ble_eq_true rfl, Nat.le_of_ble_eq_true rfl⟩) ⟨fun a U g mk q => by obtain ⟨q0, qP, qK⟩ := q; exact ⟨q0, qP, va_K.moved (u := U) (U := U.calling g mk a) (Vm.Alike.refl U.vm) qK⟩, fun U hU hW => ⟨rfl, by rw [hU]; exact hPc, va_K.moved hW.alike hKc⟩⟩ rfl rfl hl.1 rfl (lv_room (Nat.le_of_ble_eq_true rfl)) dX11_next_82 ⟨Nat.le_of_ble_eq_true rfl, Nat.le_of_ble_eq_true rfl⟩) (fun r_59 hw => ?_)
                try dsimp only at hw
                have hw_r_59 : r_59 = xg_cnt a0 := hw
                refine lv_if_eq (tgt := 103) hx hb dX11_next_85 (by decide) (fun c_60 => ?_) (fun c_60 => ?_)
                · refine lv_ldc2 (v := (-1)) hx hb hown (htw _ (ck_34 _ (List.mem_of_getElem? (i := 18) rfl))) dX11_next_103 ?_
                  refine W.widen (k := 0) (n := 0) (by omega) (by omega) ?_
                  exact W.lret (v := (-1)) hx hb hr (fun t ht hW => ⟨⟨(-1), (), rfl, (xr_next0 (hw_r_59.symm.trans c_60)).symm, trivial⟩, hS.F ht⟩) hS.2.2 dX11_next_106
                · refine lv_iload hx hb dX11_next_88 (lv_at hl 2 rfl) ?_
                  refine lv_if_eq (tgt := 103) hx hb dX11_next_90 (by decide) (fun c => absurd c (by decide)) (fun _ => ?_)
                  refine lv_iload hx hb dX11_next_93 (lv_at hl 1 rfl) ?_
                  refine lv_if_eq (tgt := 103) hx hb dX11_next_95 (by decide) (fun c => absurd c (by decide)) (fun _ => ?_)
                  refine lv_iload hx hb dX11_next_98 (lv_at hl 0 rfl) ?_
                  refine lv_if_ne (tgt := 107) hx hb dX11_next_100 (by decide) (fun _ => ?_) (fun c => absurd c (by decide))
                  have hask : xr_ask a1 a2 a3 := ⟨Or.inl c_1, Or.inr ⟨Int32.not_lt.mp c_22, Int32.not_le.mp c_34⟩, Or.inr ⟨Int32.not_lt.mp c_53, Int32.not_lt.mp c_56⟩⟩
                  have hok := xr_ask_ok hask
                  refine lv_aload_n hx hb dX11_next_107 rfl (lv_at hl 3 rfl) ?_
                  refine va_get (D := (dC, dI)) (ci := 11) (v := .ref xwi) (C := RX11) (T := TX11) (N := 13) hx hb htw inlX11 hown hK hP 0 rfl rfl 12 (by decide) (htw _ (ck_2 _ (List.mem_of_getElem? (i := 22) rfl))) (fun _ h9 => h9) rfl dX11_next_108 ?_
                  have hPc := hP.sub (ws' := [(xwi, .inr (10, [.int 0, .int 0, .int 0, .int 0, .int 0]))]) [4] rfl
                  have hKc := hK.sub (tys' := []) [] rfl
                  have hDc := hD.sub (ws' := [(xwi, .inr (10, [.int 0, .int 0, .int 0, .int 0, .int 0]))]) [4] (by decide) rfl
                  have hFc := va_free (wc := [(xwi, .inr (10, [.int 0, .int 0, .int 0, .int 0, .int 0]))]) hD hS hA [4] rfl
                  refine va_callv (va_runV (As := []) (rest := []) ⟨hx, hb, hml, hown, htw⟩ (mt_wclear l dC dI xwi (0 : Int32) (0 : Int32) (0 : Int32) (0 : Int32) (0 : Int32) H.size) (cwV 0 htw (xg_V (ck_42 _ (List.mem_of_getElem? (i := 4) rfl)) (ck_42 _ (List.mem_of_getElem? (i := 5) rfl)) (ck_42 _ (List.mem_of_getElem? (i := 6) rfl)) (ck_2 _ (List.mem_of_getElem? (i := 21) rfl)) (ck_42 _ (List.mem_of_getElem? (i := 7) rfl))) rfl rfl rfl (by decide +kernel) ⟨Nat.le_of_ble_eq_true rfl, Nat.le_of_ble_eq_true rfl⟩) ⟨fun a U g mk q => by obtain ⟨q0, q1, qP, qK, qD⟩ := q; exact ⟨q0, q1, qP, va_K.moved (u := U) (U := U.calling g mk a) (Vm.Alike.refl U.vm) qK, qD⟩, va_recv hKc hPc (ci := 10) (q0 := 0) rfl rfl, fun U hU hW => ⟨rfl, by rw [hU], by rw [hU]; exact hPc, va_K.moved hW.alike hKc, hDc.weaken (fun _ _ _ _ => trivial)⟩⟩ rfl rfl hl.1 rfl (lv_room (Nat.le_of_ble_eq_true rfl)) dX11_next_111 ⟨Nat.le_of_ble_eq_true rfl, Nat.le_of_ble_eq_true rfl⟩) hS (fun q _ h => hFc q h) hFc (fun u_62 t H1 locs ht hvm hw hB hz1 hk1 hS => ?_)
                  try dsimp only at hw
                  obtain ⟨hP1, hK1, hD1⟩ := hB
                  rw [ht] at hP1
                  have hK1 := va_K.moved hvm.symm hK1
                  have hP1 : va_P (dC, dI) vwCl [(xwi, .inr (10, [.int (-1), .int (-1), .int (-1), .int (-1), .int (-1)]))] H1 := hP1
                  have hD1 : va_D (va_A [(xwi, .inr (10, [.int 0, .int 0, .int 0, .int 0, .int 0]))] H.size) [(xwi, .inr (10, [.int (-1), .int (-1), .int (-1), .int (-1), .int (-1)]))] := hD1
                  have hK1 : va_K (dC, dI) vwCl [] s := hK1
                  obtain ⟨hP, hD⟩ := va_join (wr := [(x, .inr (11, [.ref xpa, .ref b, .ref xsp, .ref xdy, .ref xle, .ref xst, .int 0, .ref xim, .ref xil, .int 0, .ref xmo, .ref xom, .ref xwi])), (b, .inr (0, [.ref bto, .ref bnm, .ref bla, .ref bsk, .ref bru, .ref bbo, .ref bdi, .ref bda, .ref bdk, .ref bdt, .ref bdp, .ref bno])), (bto, .inl (bcT, 5, .inl (fun _ => 0))), (bsk, .inr (9, [.int 7, .int 0, .int 59, .int 2, .int 0, .int 1461, .int 4])), (xmo, .inr (4, [.null, .long 0, .long 0, .long 0, .long 0]))]) (w1 := [(xwi, .inr (10, [.int (-1), .int (-1), .int (-1), .int (-1), .int (-1)]))]) hP hD [4] [0, 1, 2, 3, 5] rfl rfl (by decide) (by decide) hk1 hFc hP1 hD1
                  generalize H1 = H at hP hS ⊢
                  have hP : va_P (dC, dI) vwCl [(x, .inr (11, [.ref xpa, .ref b, .ref xsp, .ref xdy, .ref xle, .ref xst, .int 0, .ref xim, .ref xil, .int 0, .ref xmo, .ref xom, .ref xwi])), (b, .inr (0, [.ref bto, .ref bnm, .ref bla, .ref bsk, .ref bru, .ref bbo, .ref bdi, .ref bda, .ref bdk, .ref bdt, .ref bdp, .ref bno])), (bto, .inl (bcT, 5, .inl (fun _ => 0))), (bsk, .inr (9, [.int 7, .int 0, .int 59, .int 2, .int 0, .int 1461, .int 4])), (xmo, .inr (4, [.null, .long 0, .long 0, .long 0, .long 0])), (xwi, .inr (10, [.int (-1), .int (-1), .int (-1), .int (-1), .int (-1)]))] H := hP
                  have hD : va_D A [(x, .inr (11, [.ref xpa, .ref b, .ref xsp, .ref xdy, .ref xle, .ref xst, .int 0, .ref xim, .ref xil, .int 0, .ref xmo, .ref xom, .ref xwi])), (b, .inr (0, [.ref bto, .ref bnm, .ref bla, .ref bsk, .ref bru, .ref bbo, .ref bdi, .ref bda, .ref bdk, .ref bdt, .ref bdp, .ref bno])), (bto, .inl (bcT, 5, .inl (fun _ => 0))), (bsk, .inr (9, [.int 7, .int 0, .int 59, .int 2, .int 0, .int 1461, .int 4])), (xmo, .inr (4, [.null, .long 0, .long 0, .long 0, .long 0])), (xwi, .inr (10, [.int (-1), .int (-1), .int (-1), .int (-1), .int (-1)]))] := hD
                  refine W.widen (k := 0) (n := 0) (by omega) (by omega) ?_
                  refine lv_aload_n hx hb dX11_next_114 rfl (lv_at hl 3 rfl) ?_
                  refine va_get (D := (dC, dI)) (ci := 11) (v := .ref xwi) (C := RX11) (T := TX11) (N := 13) hx hb htw inlX11 hown hK hP 0 rfl rfl 12 (by decide) (htw _ (ck_2 _ (List.mem_of_getElem? (i := 22) rfl))) (fun _ h9 => h9) rfl dX11_next_115 ?_
                  refine lv_iload_n hx hb dX11_next_118 rfl (lv_at hl 5 rfl) ?_
                  refine va_put (D := (dC, dI)) (ci := 10) (v := .int a1) (ty := tyX10 0) (C := RX10) (T := TX10) (N := 5) hx hb htw inlX10 tyX10 tyX10_ok nmX10 hown hK hP hD hS 5 rfl rfl 0 (by decide) (htw _ (ck_48 _ (List.mem_of_getElem? (i := 14) rfl))) (fun _ h9 => h9) rfl (by decide +kernel) rfl rfl (Nat.le_of_ble_eq_true rfl) dX11_next_119 (fun H locs hP hD hS => ?_)
                  have hP : va_P (dC, dI) vwCl [(x, .inr (11, [.ref xpa, .ref b, .ref xsp, .ref xdy, .ref xle, .ref xst, .int 0, .ref xim, .ref xil, .int 0, .ref xmo, .ref xom, .ref xwi])), (b, .inr (0, [.ref bto, .ref bnm, .ref bla, .ref bsk, .ref bru, .ref bbo, .ref bdi, .ref bda, .ref bdk, .ref bdt, .ref bdp, .ref bno])), (bto, .inl (bcT, 5, .inl (fun _ => 0))), (bsk, .inr (9, [.int 7, .int 0, .int 59, .int 2, .int 0, .int 1461, .int 4])), (xmo, .inr (4, [.null, .long 0, .long 0, .long 0, .long 0])), (xwi, .inr (10, [.int a1, .int (-1), .int (-1), .int (-1), .int (-1)]))] H := hP
                  have hD : va_D A [(x, .inr (11, [.ref xpa, .ref b, .ref xsp, .ref xdy, .ref xle, .ref xst, .int 0, .ref xim, .ref xil, .int 0, .ref xmo, .ref xom, .ref xwi])), (b, .inr (0, [.ref bto, .ref bnm, .ref bla, .ref bsk, .ref bru, .ref bbo, .ref bdi, .ref bda, .ref bdk, .ref bdt, .ref bdp, .ref bno])), (bto, .inl (bcT, 5, .inl (fun _ => 0))), (bsk, .inr (9, [.int 7, .int 0, .int 59, .int 2, .int 0, .int 1461, .int 4])), (xmo, .inr (4, [.null, .long 0, .long 0, .long 0, .long 0])), (xwi, .inr (10, [.int a1, .int (-1), .int (-1), .int (-1), .int (-1)]))] := hD
                  refine lv_aload_n hx hb dX11_next_122 rfl (lv_at hl 3 rfl) ?_
                  refine va_get (D := (dC, dI)) (ci := 11) (v := .ref xwi) (C := RX11) (T := TX11) (N := 13) hx hb htw inlX11 hown hK hP 0 rfl rfl 12 (by decide) (htw _ (ck_2 _ (List.mem_of_getElem? (i := 22) rfl))) (fun _ h9 => h9) rfl dX11_next_123 ?_
                  refine lv_iload hx hb dX11_next_126 (lv_at hl 6 rfl) ?_
                  refine va_put (D := (dC, dI)) (ci := 10) (v := .int a2) (ty := tyX10 1) (C := RX10) (T := TX10) (N := 5) hx hb htw inlX10 tyX10 tyX10_ok nmX10 hown hK hP hD hS 5 rfl rfl 1 (by decide) (htw _ (ck_48 _ (List.mem_of_getElem? (i := 15) rfl))) (fun _ h9 => h9) rfl (by decide +kernel) rfl rfl (Nat.le_of_ble_eq_true rfl) dX11_next_128 (fun H locs hP hD hS => ?_)
                  have hP : va_P (dC, dI) vwCl [(x, .inr (11, [.ref xpa, .ref b, .ref xsp, .ref xdy, .ref xle, .ref xst, .int 0, .ref xim, .ref xil, .int 0, .ref xmo, .ref xom, .ref xwi])), (b, .inr (0, [.ref bto, .ref bnm, .ref bla, .ref bsk, .ref bru, .ref bbo, .ref bdi, .ref bda, .ref bdk, .ref bdt, .ref bdp, .ref bno])), (bto, .inl (bcT, 5, .inl (fun _ => 0))), (bsk, .inr (9, [.int 7, .int 0, .int 59, .int 2, .int 0, .int 1461, .int 4])), (xmo, .inr (4, [.null, .long 0, .long 0, .long 0, .long 0])), (xwi, .inr (10, [.int a1, .int a2, .int (-1), .int (-1), .int (-1)]))] H := hP
                  have hD : va_D A [(x, .inr (11, [.ref xpa, .ref b, .ref xsp, .ref xdy, .ref xle, .ref xst, .int 0, .ref xim, .ref xil, .int 0, .ref xmo, .ref xom, .ref xwi])), (b, .inr (0, [.ref bto, .ref bnm, .ref bla, .ref bsk, .ref bru, .ref bbo, .ref bdi, .ref bda, .ref bdk, .ref bdt, .ref bdp, .ref bno])), (bto, .inl (bcT, 5, .inl (fun _ => 0))), (bsk, .inr (9, [.int 7, .int 0, .int 59, .int 2, .int 0, .int 1461, .int 4])), (xmo, .inr (4, [.null, .long 0, .long 0, .long 0, .long 0])), (xwi, .inr (10, [.int a1, .int a2, .int (-1), .int (-1), .int (-1)]))] := hD
                  refine lv_aload_n hx hb dX11_next_131 rfl (lv_at hl 3 rfl) ?_
                  refine va_get (D := (dC, dI)) (ci := 11) (v := .ref xwi) (C := RX11) (T := TX11) (N := 13) hx hb htw inlX11 hown hK hP 0 rfl rfl 12 (by decide) (htw _ (ck_2 _ (List.mem_of_getElem? (i := 22) rfl))) (fun _ h9 => h9) rfl dX11_next_132 ?_
                  refine lv_iload hx hb dX11_next_135 (lv_at hl 7 rfl) ?_
                  refine va_put (D := (dC, dI)) (ci := 10) (v := .int a3) (ty := tyX10 2) (C := RX10) (T := TX10) (N := 5) hx hb htw inlX10 tyX10 tyX10_ok nmX10 hown hK hP hD hS 5 rfl rfl 2 (by decide) (htw _ (ck_48 _ (List.mem_of_getElem? (i := 16) rfl))) (fun _ h9 => h9) rfl (by decide +kernel) rfl rfl (Nat.le_of_ble_eq_true rfl) dX11_next_137 (fun H locs hP hD hS => ?_)
                  have hP : va_P (dC, dI) vwCl [(x, .inr (11, [.ref xpa, .ref b, .ref xsp, .ref xdy, .ref xle, .ref xst, .int 0, .ref xim, .ref xil, .int 0, .ref xmo, .ref xom, .ref xwi])), (b, .inr (0, [.ref bto, .ref bnm, .ref bla, .ref bsk, .ref bru, .ref bbo, .ref bdi, .ref bda, .ref bdk, .ref bdt, .ref bdp, .ref bno])), (bto, .inl (bcT, 5, .inl (fun _ => 0))), (bsk, .inr (9, [.int 7, .int 0, .int 59, .int 2, .int 0, .int 1461, .int 4])), (xmo, .inr (4, [.null, .long 0, .long 0, .long 0, .long 0])), (xwi, .inr (10, [.int a1, .int a2, .int a3, .int (-1), .int (-1)]))] H := hP
                  have hD : va_D A [(x, .inr (11, [.ref xpa, .ref b, .ref xsp, .ref xdy, .ref xle, .ref xst, .int 0, .ref xim, .ref xil, .int 0, .ref xmo, .ref xom, .ref xwi])), (b, .inr (0, [.ref bto, .ref bnm, .ref bla, .ref bsk, .ref bru, .ref bbo, .ref bdi, .ref bda, .ref bdk, .ref bdt, .ref bdp, .ref bno])), (bto, .inl (bcT, 5, .inl (fun _ => 0))), (bsk, .inr (9, [.int 7, .int 0, .int 59, .int 2, .int 0, .int 1461, .int 4])), (xmo, .inr (4, [.null, .long 0, .long 0, .long 0, .long 0])), (xwi, .inr (10, [.int a1, .int a2, .int a3, .int (-1), .int (-1)]))] := hD
                  refine lv_aload_n hx hb dX11_next_140 rfl (lv_at hl 3 rfl) ?_
                  refine lv_lload_n hx hb dX11_next_141 rfl (lv_at hl 4 rfl) ?_
                  have hPc := hP.sub (ws' := [(x, .inr (11, [.ref xpa, .ref b, .ref xsp, .ref xdy, .ref xle, .ref xst, .int 0, .ref xim, .ref xil, .int 0, .ref xmo, .ref xom, .ref xwi])), (b, .inr (0, [.ref bto, .ref bnm, .ref bla, .ref bsk, .ref bru, .ref bbo, .ref bdi, .ref bda, .ref bdk, .ref bdt, .ref bdp, .ref bno])), (bto, .inl (bcT, 5, .inl (fun _ => 0))), (bsk, .inr (9, [.int 7, .int 0, .int 59, .int 2, .int 0, .int 1461, .int 4])), (xwi, .inr (10, [.int a1, .int a2, .int a3, .int (-1), .int (-1)])), (xmo, .inr (4, [.null, .long 0, .long 0, .long 0, .long 0]))]) [0, 1, 2, 3, 5, 4] rfl
                  have hKc := hK.sub (tys' := [(bcT, .int)]) [0] rfl
                  have hDc := hD.sub (ws' := [(x, .inr (11, [.ref xpa, .ref b, .ref xsp, .ref xdy, .ref xle, .ref xst, .int 0, .ref xim, .ref xil, .int 0, .ref xmo, .ref xom, .ref xwi])), (b, .inr (0, [.ref bto, .ref bnm, .ref bla, .ref bsk, .ref bru, .ref bbo, .ref bdi, .ref bda, .ref bdk, .ref bdt, .ref bdp, .ref bno])), (bto, .inl (bcT, 5, .inl (fun _ => 0))), (bsk, .inr (9, [.int 7, .int 0, .int 59, .int 2, .int 0, .int 1461, .int 4])), (xwi, .inr (10, [.int a1, .int a2, .int a3, .int (-1), .int (-1)])), (xmo, .inr (4, [.null, .long 0, .long 0, .long 0, .long 0]))]) [0, 1, 2, 3, 5, 4] (by decide) rfl
                  have hFc := va_free (wc := [(x, .inr (11, [.ref xpa, .ref b, .ref xsp, .ref xdy, .ref xle, .ref xst, .int 0, .ref xim, .ref xil, .int 0, .ref xmo, .ref xom, .ref xwi])), (b, .inr (0, [.ref bto, .ref bnm, .ref bla, .ref bsk, .ref bru, .ref bbo, .ref bdi, .ref bda, .ref bdk, .ref bdt, .ref bdp, .ref bno])), (bto, .inl (bcT, 5, .inl (fun _ => 0))), (bsk, .inr (9, [.int 7, .int 0, .int 59, .int 2, .int 0, .int 1461, .int 4])), (xwi, .inr (10, [.int a1, .int a2, .int a3, .int (-1), .int (-1)])), (xmo, .inr (4, [.null, .long 0, .long 0, .long 0, .long 0]))]) hD hS hA [0, 1, 2, 3, 5, 4] rfl
                  refine va_calll (va_runV (As := [.long a0]) (rest := []) ⟨hx, hb, hml, hown, htw⟩ (mt_first l dC dI x xpa xsp xdy xle xst xim xil xmo xom xwi b bto bnm bla bsk bru bbo bdi bda bdk bdt bdp bno bcT a1 a2 a3 a0 H.size hok) (cwV 1 htw (xg_V (ck_42 _ (List.mem_of_getElem? (i := 13) rfl)) (ck_42 _ (List.mem_of_getElem? (i := 14) rfl)) (ck_42 _ (List.mem_of_getElem? (i := 15) rfl)) (ck_1 _ (List.mem_of_getElem? (i := 2) rfl)) (ck_42 _ (List.mem_of_getElem? (i := 16) rfl))) rfl rfl rfl (by decide +kernel) ⟨Nat.le_of_ble_eq_true rfl, Nat.le_of_ble_eq_true rfl⟩) ⟨fun a U g mk q => by obtain ⟨q0, q1, qP, qK, qD⟩ := q; exact ⟨q0, q1, qP, va_K.moved (u := U) (U := U.calling g mk a) (Vm.Alike.refl U.vm) qK, qD⟩, va_recv hKc hPc (ci := 11) (q0 := 0) rfl rfl, fun U hU hW => ⟨rfl, by rw [hU], by rw [hU]; exact hPc, va_K.moved hW.alike hKc, hDc.weaken (fun _ _ _ _ => trivial)⟩⟩ rfl rfl hl.1 rfl (lv_room (Nat.le_of_ble_eq_true rfl)) dX11_next_142 ⟨Nat.le_of_ble_eq_true rfl, Nat.le_of_ble_eq_true rfl⟩) hS (fun q _ h => hFc q h) hFc (fun r_63 u_64 t H1 locs ht hvm hw hB hz1 hk1 hS => ?_)
                  try dsimp only at hw
                  have hP1 : va_P (dC, dI) vwCl [] H1 := fun k q h => by simp at h
                  have hD1 : va_D (va_A [(x, .inr (11, [.ref xpa, .ref b, .ref xsp, .ref xdy, .ref xle, .ref xst, .int 0, .ref xim, .ref xil, .int 0, .ref xmo, .ref xom, .ref xwi])), (b, .inr (0, [.ref bto, .ref bnm, .ref bla, .ref bsk, .ref bru, .ref bbo, .ref bdi, .ref bda, .ref bdk, .ref bdt, .ref bdp, .ref bno])), (bto, .inl (bcT, 5, .inl (fun _ => 0))), (bsk, .inr (9, [.int 7, .int 0, .int 59, .int 2, .int 0, .int 1461, .int 4])), (xwi, .inr (10, [.int a1, .int a2, .int a3, .int (-1), .int (-1)])), (xmo, .inr (4, [.null, .long 0, .long 0, .long 0, .long 0]))] H.size) [] := ⟨fun i j p q h => by simp at h, fun k q h => by simp at h⟩
                  obtain ⟨hP, hD⟩ := va_join (wr := []) (w1 := []) hP hD [0, 1, 2, 3, 5, 4] [] rfl rfl (by decide) (by decide) hk1 hFc hP1 hD1
                  generalize H1 = H at hP hS ⊢
                  have hP : va_P (dC, dI) vwCl [] H := hP
                  have hD : va_D A [] := hD
                  refine W.widen (k := 0) (n := 0) (by omega) (by omega) ?_
                  obtain rfl : r_63 = xn_go a1 a2 a3 20000 a0 := hw
                  refine W.widen (k := 0) (n := 0) (by omega) (by omega) ?_
                  exact W.lret (v := xn_go a1 a2 a3 20000 a0) hx hb hr (fun t ht hW => ⟨⟨xn_go a1 a2 a3 20000 a0, (), rfl, (xr_next2 (fun h => c_60 (hw_r_59.trans h)) hask).symm, trivial⟩, hS.F ht⟩) hS.2.2 dX11_next_145
  · refine lv_iload_n hx hb dX11_next_5 rfl (lv_at hl 2 rfl) ?_
    refine lv_iconst (v := 1) hx hb dX11_next_6 (by decide) ?_
    refine lv_icmp_lt (tgt := 20) hx hb dX11_next_7 (by decide) (fun c_65 => ?_) (fun c_65 => ?_)
    · refine lv_iconst (v := 0) hx hb dX11_next_20 (by decide) ?_
      refine lv_istore (lv' := [(6, .int 0), (0, .ref x), (1, .long a0), (3, .int a1), (4, .int a2), (5, .int a3)]) hx hb dX11_next_21 hl (by decide) rfl (fun ls hl => ?_)
      refine lv_iload hx hb dX11_next_23 (lv_at hl 4 rfl) ?_
      refine lv_iconst (v := (-1)) hx hb dX11_next_25 (by decide) ?_
      refine lv_icmp_eq (tgt := 49) hx hb dX11_next_26 (by decide) (fun c_66 => ?_) (fun c_66 => ?_)
      · refine lv_iconst (v := 1) hx hb dX11_next_49 (by decide) ?_
        refine lv_goto (tgt := 54) hx hb dX11_next_50 (by decide) ?_
        refine lv_istore (lv' := [(7, .int 1), (6, .int 0), (0, .ref x), (1, .long a0), (3, .int a1), (4, .int a2), (5, .int a3)]) hx hb dX11_next_54 hl (by decide) rfl (fun ls hl => ?_)
        refine lv_iload hx hb dX11_next_56 (lv_at hl 6 rfl) ?_
        refine lv_iconst (v := (-1)) hx hb dX11_next_58 (by decide) ?_
        refine lv_icmp_eq (tgt := 74) hx hb dX11_next_59 (by decide) (fun c_67 => ?_) (fun c_67 => ?_)
        · refine lv_iconst (v := 1) hx hb dX11_next_74 (by decide) ?_
          refine lv_goto (tgt := 79) hx hb dX11_next_75 (by decide) ?_
          refine lv_istore (lv' := [(8, .int 1), (7, .int 1), (6, .int 0), (0, .ref x), (1, .long a0), (3, .int a1), (4, .int a2), (5, .int a3)]) hx hb dX11_next_79 hl (by decide) rfl (fun ls hl => ?_)
          refine lv_lload_n hx hb dX11_next_81 rfl (lv_at hl 4 rfl) ?_
          have hPc := hP.sub (ws' := []) [] rfl
          have hKc := hK.sub (tys' := []) [] rfl
          refine vp_callSi (W.runS (As := [.long a0]) (rest := []) ⟨hx, hb, hml, hown, htw⟩ (mt_isCount l dC dI a0) (va_cwS 1 htw (xg_S (ck_35 _ (List.mem_of_getElem? (i := 15) rfl)) (ck_35 _ (List.mem_of_getElem? (i := 16) rfl)) (ck_1 _ (List.mem_of_getElem? (i := 2) rfl)) (ck_35 _ (List.mem_of_getElem? (i := 17) rfl))) rfl rfl rfl (by decide +kernel) ⟨Nat.le_of_ble_eq_true rfl, Nat.le_of_ble_eq_true rfl⟩) ⟨fun a U g mk q => by obtain ⟨q0, qP, qK⟩ := q; exact ⟨q0, qP, va_K.moved (u := U) (U := U.calling g mk a) (Vm.Alike.refl U.vm) qK⟩, fun U hU hW => ⟨rfl, by rw [hU]; exact hPc, va_K.moved hW.alike hKc⟩⟩ rfl rfl hl.1 rfl (lv_room (Nat.le_of_ble_eq_true rfl)) dX11_next_82 ⟨Nat.le_of_ble_eq_true rfl, Nat.le_of_ble_eq_true rfl⟩) (fun r_68 hw => ?_)
          try dsimp only at hw
          have hw_r_68 : r_68 = xg_cnt a0 := hw
          refine lv_if_eq (tgt := 103) hx hb dX11_next_85 (by decide) (fun c_69 => ?_) (fun c_69 => ?_)
          · refine lv_ldc2 (v := (-1)) hx hb hown (htw _ (ck_34 _ (List.mem_of_getElem? (i := 18) rfl))) dX11_next_103 ?_
            refine W.widen (k := 0) (n := 0) (by omega) (by omega) ?_
            exact W.lret (v := (-1)) hx hb hr (fun t ht hW => ⟨⟨(-1), (), rfl, (xr_next0 (hw_r_68.symm.trans c_69)).symm, trivial⟩, hS.F ht⟩) hS.2.2 dX11_next_106
          · refine lv_iload hx hb dX11_next_88 (lv_at hl 2 rfl) ?_
            refine lv_if_eq (tgt := 103) hx hb dX11_next_90 (by decide) (fun _ => ?_) (fun c => absurd c (by decide))
            refine lv_ldc2 (v := (-1)) hx hb hown (htw _ (ck_34 _ (List.mem_of_getElem? (i := 18) rfl))) dX11_next_103 ?_
            refine W.widen (k := 0) (n := 0) (by omega) (by omega) ?_
            exact W.lret (v := (-1)) hx hb hr (fun t ht hW => ⟨⟨(-1), (), rfl, (xr_next1 (fun h => (fun h => h.elim c_1 (fun z => absurd c_65 (Int32.not_lt.mpr z.1))) h.1)).symm, trivial⟩, hS.F ht⟩) hS.2.2 dX11_next_106
        · refine lv_iload hx hb dX11_next_62 (lv_at hl 6 rfl) ?_
          refine lv_if_lt (tgt := 78) hx hb dX11_next_64 (by decide) (fun c_70 => ?_) (fun c_70 => ?_)
          · refine lv_iconst (v := 0) hx hb dX11_next_78 (by decide) ?_
            refine lv_istore (lv' := [(8, .int 0), (7, .int 1), (6, .int 0), (0, .ref x), (1, .long a0), (3, .int a1), (4, .int a2), (5, .int a3)]) hx hb dX11_next_79 hl (by decide) rfl (fun ls hl => ?_)
            refine lv_lload_n hx hb dX11_next_81 rfl (lv_at hl 4 rfl) ?_
            have hPc := hP.sub (ws' := []) [] rfl
            have hKc := hK.sub (tys' := []) [] rfl
            refine vp_callSi (W.runS (As := [.long a0]) (rest := []) ⟨hx, hb, hml, hown, htw⟩ (mt_isCount l dC dI a0) (va_cwS 1 htw (xg_S (ck_35 _ (List.mem_of_getElem? (i := 15) rfl)) (ck_35 _ (List.mem_of_getElem? (i := 16) rfl)) (ck_1 _ (List.mem_of_getElem? (i := 2) rfl)) (ck_35 _ (List.mem_of_getElem? (i := 17) rfl))) rfl rfl rfl (by decide +kernel) ⟨Nat.le_of_ble_eq_true rfl, Nat.le_of_ble_eq_true rfl⟩) ⟨fun a U g mk q => by obtain ⟨q0, qP, qK⟩ := q; exact ⟨q0, qP, va_K.moved (u := U) (U := U.calling g mk a) (Vm.Alike.refl U.vm) qK⟩, fun U hU hW => ⟨rfl, by rw [hU]; exact hPc, va_K.moved hW.alike hKc⟩⟩ rfl rfl hl.1 rfl (lv_room (Nat.le_of_ble_eq_true rfl)) dX11_next_82 ⟨Nat.le_of_ble_eq_true rfl, Nat.le_of_ble_eq_true rfl⟩) (fun r_71 hw => ?_)
            try dsimp only at hw
            have hw_r_71 : r_71 = xg_cnt a0 := hw
            refine lv_if_eq (tgt := 103) hx hb dX11_next_85 (by decide) (fun c_72 => ?_) (fun c_72 => ?_)
            · refine lv_ldc2 (v := (-1)) hx hb hown (htw _ (ck_34 _ (List.mem_of_getElem? (i := 18) rfl))) dX11_next_103 ?_
              refine W.widen (k := 0) (n := 0) (by omega) (by omega) ?_
              exact W.lret (v := (-1)) hx hb hr (fun t ht hW => ⟨⟨(-1), (), rfl, (xr_next0 (hw_r_71.symm.trans c_72)).symm, trivial⟩, hS.F ht⟩) hS.2.2 dX11_next_106
            · refine lv_iload hx hb dX11_next_88 (lv_at hl 2 rfl) ?_
              refine lv_if_eq (tgt := 103) hx hb dX11_next_90 (by decide) (fun _ => ?_) (fun c => absurd c (by decide))
              refine lv_ldc2 (v := (-1)) hx hb hown (htw _ (ck_34 _ (List.mem_of_getElem? (i := 18) rfl))) dX11_next_103 ?_
              refine W.widen (k := 0) (n := 0) (by omega) (by omega) ?_
              exact W.lret (v := (-1)) hx hb hr (fun t ht hW => ⟨⟨(-1), (), rfl, (xr_next1 (fun h => (fun h => h.elim c_1 (fun z => absurd c_65 (Int32.not_lt.mpr z.1))) h.1)).symm, trivial⟩, hS.F ht⟩) hS.2.2 dX11_next_106
          · refine lv_iload hx hb dX11_next_67 (lv_at hl 6 rfl) ?_
            refine lv_bipush (v := 7) hx hb dX11_next_69 (by decide) ?_
            refine lv_icmp_gt (tgt := 78) hx hb dX11_next_71 (by decide) (fun c_73 => ?_) (fun c_73 => ?_)
            · refine lv_iconst (v := 0) hx hb dX11_next_78 (by decide) ?_
              refine lv_istore (lv' := [(8, .int 0), (7, .int 1), (6, .int 0), (0, .ref x), (1, .long a0), (3, .int a1), (4, .int a2), (5, .int a3)]) hx hb dX11_next_79 hl (by decide) rfl (fun ls hl => ?_)
              refine lv_lload_n hx hb dX11_next_81 rfl (lv_at hl 4 rfl) ?_
              have hPc := hP.sub (ws' := []) [] rfl
              have hKc := hK.sub (tys' := []) [] rfl
              refine vp_callSi (W.runS (As := [.long a0]) (rest := []) ⟨hx, hb, hml, hown, htw⟩ (mt_isCount l dC dI a0) (va_cwS 1 htw (xg_S (ck_35 _ (List.mem_of_getElem? (i := 15) rfl)) (ck_35 _ (List.mem_of_getElem? (i := 16) rfl)) (ck_1 _ (List.mem_of_getElem? (i := 2) rfl)) (ck_35 _ (List.mem_of_getElem? (i := 17) rfl))) rfl rfl rfl (by decide +kernel) ⟨Nat.le_of_ble_eq_true rfl, Nat.le_of_ble_eq_true rfl⟩) ⟨fun a U g mk q => by obtain ⟨q0, qP, qK⟩ := q; exact ⟨q0, qP, va_K.moved (u := U) (U := U.calling g mk a) (Vm.Alike.refl U.vm) qK⟩, fun U hU hW => ⟨rfl, by rw [hU]; exact hPc, va_K.moved hW.alike hKc⟩⟩ rfl rfl hl.1 rfl (lv_room (Nat.le_of_ble_eq_true rfl)) dX11_next_82 ⟨Nat.le_of_ble_eq_true rfl, Nat.le_of_ble_eq_true rfl⟩) (fun r_74 hw => ?_)
              try dsimp only at hw
              have hw_r_74 : r_74 = xg_cnt a0 := hw
              refine lv_if_eq (tgt := 103) hx hb dX11_next_85 (by decide) (fun c_75 => ?_) (fun c_75 => ?_)
              · refine lv_ldc2 (v := (-1)) hx hb hown (htw _ (ck_34 _ (List.mem_of_getElem? (i := 18) rfl))) dX11_next_103 ?_
                refine W.widen (k := 0) (n := 0) (by omega) (by omega) ?_
                exact W.lret (v := (-1)) hx hb hr (fun t ht hW => ⟨⟨(-1), (), rfl, (xr_next0 (hw_r_74.symm.trans c_75)).symm, trivial⟩, hS.F ht⟩) hS.2.2 dX11_next_106
              · refine lv_iload hx hb dX11_next_88 (lv_at hl 2 rfl) ?_
                refine lv_if_eq (tgt := 103) hx hb dX11_next_90 (by decide) (fun _ => ?_) (fun c => absurd c (by decide))
                refine lv_ldc2 (v := (-1)) hx hb hown (htw _ (ck_34 _ (List.mem_of_getElem? (i := 18) rfl))) dX11_next_103 ?_
                refine W.widen (k := 0) (n := 0) (by omega) (by omega) ?_
                exact W.lret (v := (-1)) hx hb hr (fun t ht hW => ⟨⟨(-1), (), rfl, (xr_next1 (fun h => (fun h => h.elim c_1 (fun z => absurd c_65 (Int32.not_lt.mpr z.1))) h.1)).symm, trivial⟩, hS.F ht⟩) hS.2.2 dX11_next_106
            · refine lv_iconst (v := 1) hx hb dX11_next_74 (by decide) ?_
              refine lv_goto (tgt := 79) hx hb dX11_next_75 (by decide) ?_
              refine lv_istore (lv' := [(8, .int 1), (7, .int 1), (6, .int 0), (0, .ref x), (1, .long a0), (3, .int a1), (4, .int a2), (5, .int a3)]) hx hb dX11_next_79 hl (by decide) rfl (fun ls hl => ?_)
              refine lv_lload_n hx hb dX11_next_81 rfl (lv_at hl 4 rfl) ?_
              have hPc := hP.sub (ws' := []) [] rfl
              have hKc := hK.sub (tys' := []) [] rfl
              refine vp_callSi (W.runS (As := [.long a0]) (rest := []) ⟨hx, hb, hml, hown, htw⟩ (mt_isCount l dC dI a0) (va_cwS 1 htw (xg_S (ck_35 _ (List.mem_of_getElem? (i := 15) rfl)) (ck_35 _ (List.mem_of_getElem? (i := 16) rfl)) (ck_1 _ (List.mem_of_getElem? (i := 2) rfl)) (ck_35 _ (List.mem_of_getElem? (i := 17) rfl))) rfl rfl rfl (by decide +kernel) ⟨Nat.le_of_ble_eq_true rfl, Nat.le_of_ble_eq_true rfl⟩) ⟨fun a U g mk q => by obtain ⟨q0, qP, qK⟩ := q; exact ⟨q0, qP, va_K.moved (u := U) (U := U.calling g mk a) (Vm.Alike.refl U.vm) qK⟩, fun U hU hW => ⟨rfl, by rw [hU]; exact hPc, va_K.moved hW.alike hKc⟩⟩ rfl rfl hl.1 rfl (lv_room (Nat.le_of_ble_eq_true rfl)) dX11_next_82 ⟨Nat.le_of_ble_eq_true rfl, Nat.le_of_ble_eq_true rfl⟩) (fun r_76 hw => ?_)
              try dsimp only at hw
              have hw_r_76 : r_76 = xg_cnt a0 := hw
              refine lv_if_eq (tgt := 103) hx hb dX11_next_85 (by decide) (fun c_77 => ?_) (fun c_77 => ?_)
              · refine lv_ldc2 (v := (-1)) hx hb hown (htw _ (ck_34 _ (List.mem_of_getElem? (i := 18) rfl))) dX11_next_103 ?_
                refine W.widen (k := 0) (n := 0) (by omega) (by omega) ?_
                exact W.lret (v := (-1)) hx hb hr (fun t ht hW => ⟨⟨(-1), (), rfl, (xr_next0 (hw_r_76.symm.trans c_77)).symm, trivial⟩, hS.F ht⟩) hS.2.2 dX11_next_106
              · refine lv_iload hx hb dX11_next_88 (lv_at hl 2 rfl) ?_
                refine lv_if_eq (tgt := 103) hx hb dX11_next_90 (by decide) (fun _ => ?_) (fun c => absurd c (by decide))
                refine lv_ldc2 (v := (-1)) hx hb hown (htw _ (ck_34 _ (List.mem_of_getElem? (i := 18) rfl))) dX11_next_103 ?_
                refine W.widen (k := 0) (n := 0) (by omega) (by omega) ?_
                exact W.lret (v := (-1)) hx hb hr (fun t ht hW => ⟨⟨(-1), (), rfl, (xr_next1 (fun h => (fun h => h.elim c_1 (fun z => absurd c_65 (Int32.not_lt.mpr z.1))) h.1)).symm, trivial⟩, hS.F ht⟩) hS.2.2 dX11_next_106
      · refine lv_iload hx hb dX11_next_29 (lv_at hl 4 rfl) ?_
        refine lv_if_lt (tgt := 53) hx hb dX11_next_31 (by decide) (fun c_78 => ?_) (fun c_78 => ?_)
        · refine lv_iconst (v := 0) hx hb dX11_next_53 (by decide) ?_
          refine lv_istore (lv' := [(7, .int 0), (6, .int 0), (0, .ref x), (1, .long a0), (3, .int a1), (4, .int a2), (5, .int a3)]) hx hb dX11_next_54 hl (by decide) rfl (fun ls hl => ?_)
          refine lv_iload hx hb dX11_next_56 (lv_at hl 6 rfl) ?_
          refine lv_iconst (v := (-1)) hx hb dX11_next_58 (by decide) ?_
          refine lv_icmp_eq (tgt := 74) hx hb dX11_next_59 (by decide) (fun c_79 => ?_) (fun c_79 => ?_)
          · refine lv_iconst (v := 1) hx hb dX11_next_74 (by decide) ?_
            refine lv_goto (tgt := 79) hx hb dX11_next_75 (by decide) ?_
            refine lv_istore (lv' := [(8, .int 1), (7, .int 0), (6, .int 0), (0, .ref x), (1, .long a0), (3, .int a1), (4, .int a2), (5, .int a3)]) hx hb dX11_next_79 hl (by decide) rfl (fun ls hl => ?_)
            refine lv_lload_n hx hb dX11_next_81 rfl (lv_at hl 4 rfl) ?_
            have hPc := hP.sub (ws' := []) [] rfl
            have hKc := hK.sub (tys' := []) [] rfl
            refine vp_callSi (W.runS (As := [.long a0]) (rest := []) ⟨hx, hb, hml, hown, htw⟩ (mt_isCount l dC dI a0) (va_cwS 1 htw (xg_S (ck_35 _ (List.mem_of_getElem? (i := 15) rfl)) (ck_35 _ (List.mem_of_getElem? (i := 16) rfl)) (ck_1 _ (List.mem_of_getElem? (i := 2) rfl)) (ck_35 _ (List.mem_of_getElem? (i := 17) rfl))) rfl rfl rfl (by decide +kernel) ⟨Nat.le_of_ble_eq_true rfl, Nat.le_of_ble_eq_true rfl⟩) ⟨fun a U g mk q => by obtain ⟨q0, qP, qK⟩ := q; exact ⟨q0, qP, va_K.moved (u := U) (U := U.calling g mk a) (Vm.Alike.refl U.vm) qK⟩, fun U hU hW => ⟨rfl, by rw [hU]; exact hPc, va_K.moved hW.alike hKc⟩⟩ rfl rfl hl.1 rfl (lv_room (Nat.le_of_ble_eq_true rfl)) dX11_next_82 ⟨Nat.le_of_ble_eq_true rfl, Nat.le_of_ble_eq_true rfl⟩) (fun r_80 hw => ?_)
            try dsimp only at hw
            have hw_r_80 : r_80 = xg_cnt a0 := hw
            refine lv_if_eq (tgt := 103) hx hb dX11_next_85 (by decide) (fun c_81 => ?_) (fun c_81 => ?_)
            · refine lv_ldc2 (v := (-1)) hx hb hown (htw _ (ck_34 _ (List.mem_of_getElem? (i := 18) rfl))) dX11_next_103 ?_
              refine W.widen (k := 0) (n := 0) (by omega) (by omega) ?_
              exact W.lret (v := (-1)) hx hb hr (fun t ht hW => ⟨⟨(-1), (), rfl, (xr_next0 (hw_r_80.symm.trans c_81)).symm, trivial⟩, hS.F ht⟩) hS.2.2 dX11_next_106
            · refine lv_iload hx hb dX11_next_88 (lv_at hl 2 rfl) ?_
              refine lv_if_eq (tgt := 103) hx hb dX11_next_90 (by decide) (fun _ => ?_) (fun c => absurd c (by decide))
              refine lv_ldc2 (v := (-1)) hx hb hown (htw _ (ck_34 _ (List.mem_of_getElem? (i := 18) rfl))) dX11_next_103 ?_
              refine W.widen (k := 0) (n := 0) (by omega) (by omega) ?_
              exact W.lret (v := (-1)) hx hb hr (fun t ht hW => ⟨⟨(-1), (), rfl, (xr_next1 (fun h => (fun h => h.elim c_1 (fun z => absurd c_65 (Int32.not_lt.mpr z.1))) h.1)).symm, trivial⟩, hS.F ht⟩) hS.2.2 dX11_next_106
          · refine lv_iload hx hb dX11_next_62 (lv_at hl 6 rfl) ?_
            refine lv_if_lt (tgt := 78) hx hb dX11_next_64 (by decide) (fun c_82 => ?_) (fun c_82 => ?_)
            · refine lv_iconst (v := 0) hx hb dX11_next_78 (by decide) ?_
              refine lv_istore (lv' := [(8, .int 0), (7, .int 0), (6, .int 0), (0, .ref x), (1, .long a0), (3, .int a1), (4, .int a2), (5, .int a3)]) hx hb dX11_next_79 hl (by decide) rfl (fun ls hl => ?_)
              refine lv_lload_n hx hb dX11_next_81 rfl (lv_at hl 4 rfl) ?_
              have hPc := hP.sub (ws' := []) [] rfl
              have hKc := hK.sub (tys' := []) [] rfl
              refine vp_callSi (W.runS (As := [.long a0]) (rest := []) ⟨hx, hb, hml, hown, htw⟩ (mt_isCount l dC dI a0) (va_cwS 1 htw (xg_S (ck_35 _ (List.mem_of_getElem? (i := 15) rfl)) (ck_35 _ (List.mem_of_getElem? (i := 16) rfl)) (ck_1 _ (List.mem_of_getElem? (i := 2) rfl)) (ck_35 _ (List.mem_of_getElem? (i := 17) rfl))) rfl rfl rfl (by decide +kernel) ⟨Nat.le_of_ble_eq_true rfl, Nat.le_of_ble_eq_true rfl⟩) ⟨fun a U g mk q => by obtain ⟨q0, qP, qK⟩ := q; exact ⟨q0, qP, va_K.moved (u := U) (U := U.calling g mk a) (Vm.Alike.refl U.vm) qK⟩, fun U hU hW => ⟨rfl, by rw [hU]; exact hPc, va_K.moved hW.alike hKc⟩⟩ rfl rfl hl.1 rfl (lv_room (Nat.le_of_ble_eq_true rfl)) dX11_next_82 ⟨Nat.le_of_ble_eq_true rfl, Nat.le_of_ble_eq_true rfl⟩) (fun r_83 hw => ?_)
              try dsimp only at hw
              have hw_r_83 : r_83 = xg_cnt a0 := hw
              refine lv_if_eq (tgt := 103) hx hb dX11_next_85 (by decide) (fun c_84 => ?_) (fun c_84 => ?_)
              · refine lv_ldc2 (v := (-1)) hx hb hown (htw _ (ck_34 _ (List.mem_of_getElem? (i := 18) rfl))) dX11_next_103 ?_
                refine W.widen (k := 0) (n := 0) (by omega) (by omega) ?_
                exact W.lret (v := (-1)) hx hb hr (fun t ht hW => ⟨⟨(-1), (), rfl, (xr_next0 (hw_r_83.symm.trans c_84)).symm, trivial⟩, hS.F ht⟩) hS.2.2 dX11_next_106
              · refine lv_iload hx hb dX11_next_88 (lv_at hl 2 rfl) ?_
                refine lv_if_eq (tgt := 103) hx hb dX11_next_90 (by decide) (fun _ => ?_) (fun c => absurd c (by decide))
                refine lv_ldc2 (v := (-1)) hx hb hown (htw _ (ck_34 _ (List.mem_of_getElem? (i := 18) rfl))) dX11_next_103 ?_
                refine W.widen (k := 0) (n := 0) (by omega) (by omega) ?_
                exact W.lret (v := (-1)) hx hb hr (fun t ht hW => ⟨⟨(-1), (), rfl, (xr_next1 (fun h => (fun h => h.elim c_1 (fun z => absurd c_65 (Int32.not_lt.mpr z.1))) h.1)).symm, trivial⟩, hS.F ht⟩) hS.2.2 dX11_next_106
            · refine lv_iload hx hb dX11_next_67 (lv_at hl 6 rfl) ?_
              refine lv_bipush (v := 7) hx hb dX11_next_69 (by decide) ?_
              refine lv_icmp_gt (tgt := 78) hx hb dX11_next_71 (by decide) (fun c_85 => ?_) (fun c_85 => ?_)
              · refine lv_iconst (v := 0) hx hb dX11_next_78 (by decide) ?_
                refine lv_istore (lv' := [(8, .int 0), (7, .int 0), (6, .int 0), (0, .ref x), (1, .long a0), (3, .int a1), (4, .int a2), (5, .int a3)]) hx hb dX11_next_79 hl (by decide) rfl (fun ls hl => ?_)
                refine lv_lload_n hx hb dX11_next_81 rfl (lv_at hl 4 rfl) ?_
                have hPc := hP.sub (ws' := []) [] rfl
                have hKc := hK.sub (tys' := []) [] rfl
                refine vp_callSi (W.runS (As := [.long a0]) (rest := []) ⟨hx, hb, hml, hown, htw⟩ (mt_isCount l dC dI a0) (va_cwS 1 htw (xg_S (ck_35 _ (List.mem_of_getElem? (i := 15) rfl)) (ck_35 _ (List.mem_of_getElem? (i := 16) rfl)) (ck_1 _ (List.mem_of_getElem? (i := 2) rfl)) (ck_35 _ (List.mem_of_getElem? (i := 17) rfl))) rfl rfl rfl (by decide +kernel) ⟨Nat.le_of_ble_eq_true rfl, Nat.le_of_ble_eq_true rfl⟩) ⟨fun a U g mk q => by obtain ⟨q0, qP, qK⟩ := q; exact ⟨q0, qP, va_K.moved (u := U) (U := U.calling g mk a) (Vm.Alike.refl U.vm) qK⟩, fun U hU hW => ⟨rfl, by rw [hU]; exact hPc, va_K.moved hW.alike hKc⟩⟩ rfl rfl hl.1 rfl (lv_room (Nat.le_of_ble_eq_true rfl)) dX11_next_82 ⟨Nat.le_of_ble_eq_true rfl, Nat.le_of_ble_eq_true rfl⟩) (fun r_86 hw => ?_)
                try dsimp only at hw
                have hw_r_86 : r_86 = xg_cnt a0 := hw
                refine lv_if_eq (tgt := 103) hx hb dX11_next_85 (by decide) (fun c_87 => ?_) (fun c_87 => ?_)
                · refine lv_ldc2 (v := (-1)) hx hb hown (htw _ (ck_34 _ (List.mem_of_getElem? (i := 18) rfl))) dX11_next_103 ?_
                  refine W.widen (k := 0) (n := 0) (by omega) (by omega) ?_
                  exact W.lret (v := (-1)) hx hb hr (fun t ht hW => ⟨⟨(-1), (), rfl, (xr_next0 (hw_r_86.symm.trans c_87)).symm, trivial⟩, hS.F ht⟩) hS.2.2 dX11_next_106
                · refine lv_iload hx hb dX11_next_88 (lv_at hl 2 rfl) ?_
                  refine lv_if_eq (tgt := 103) hx hb dX11_next_90 (by decide) (fun _ => ?_) (fun c => absurd c (by decide))
                  refine lv_ldc2 (v := (-1)) hx hb hown (htw _ (ck_34 _ (List.mem_of_getElem? (i := 18) rfl))) dX11_next_103 ?_
                  refine W.widen (k := 0) (n := 0) (by omega) (by omega) ?_
                  exact W.lret (v := (-1)) hx hb hr (fun t ht hW => ⟨⟨(-1), (), rfl, (xr_next1 (fun h => (fun h => h.elim c_1 (fun z => absurd c_65 (Int32.not_lt.mpr z.1))) h.1)).symm, trivial⟩, hS.F ht⟩) hS.2.2 dX11_next_106
              · refine lv_iconst (v := 1) hx hb dX11_next_74 (by decide) ?_
                refine lv_goto (tgt := 79) hx hb dX11_next_75 (by decide) ?_
                refine lv_istore (lv' := [(8, .int 1), (7, .int 0), (6, .int 0), (0, .ref x), (1, .long a0), (3, .int a1), (4, .int a2), (5, .int a3)]) hx hb dX11_next_79 hl (by decide) rfl (fun ls hl => ?_)
                refine lv_lload_n hx hb dX11_next_81 rfl (lv_at hl 4 rfl) ?_
                have hPc := hP.sub (ws' := []) [] rfl
                have hKc := hK.sub (tys' := []) [] rfl
                refine vp_callSi (W.runS (As := [.long a0]) (rest := []) ⟨hx, hb, hml, hown, htw⟩ (mt_isCount l dC dI a0) (va_cwS 1 htw (xg_S (ck_35 _ (List.mem_of_getElem? (i := 15) rfl)) (ck_35 _ (List.mem_of_getElem? (i := 16) rfl)) (ck_1 _ (List.mem_of_getElem? (i := 2) rfl)) (ck_35 _ (List.mem_of_getElem? (i := 17) rfl))) rfl rfl rfl (by decide +kernel) ⟨Nat.le_of_ble_eq_true rfl, Nat.le_of_ble_eq_true rfl⟩) ⟨fun a U g mk q => by obtain ⟨q0, qP, qK⟩ := q; exact ⟨q0, qP, va_K.moved (u := U) (U := U.calling g mk a) (Vm.Alike.refl U.vm) qK⟩, fun U hU hW => ⟨rfl, by rw [hU]; exact hPc, va_K.moved hW.alike hKc⟩⟩ rfl rfl hl.1 rfl (lv_room (Nat.le_of_ble_eq_true rfl)) dX11_next_82 ⟨Nat.le_of_ble_eq_true rfl, Nat.le_of_ble_eq_true rfl⟩) (fun r_88 hw => ?_)
                try dsimp only at hw
                have hw_r_88 : r_88 = xg_cnt a0 := hw
                refine lv_if_eq (tgt := 103) hx hb dX11_next_85 (by decide) (fun c_89 => ?_) (fun c_89 => ?_)
                · refine lv_ldc2 (v := (-1)) hx hb hown (htw _ (ck_34 _ (List.mem_of_getElem? (i := 18) rfl))) dX11_next_103 ?_
                  refine W.widen (k := 0) (n := 0) (by omega) (by omega) ?_
                  exact W.lret (v := (-1)) hx hb hr (fun t ht hW => ⟨⟨(-1), (), rfl, (xr_next0 (hw_r_88.symm.trans c_89)).symm, trivial⟩, hS.F ht⟩) hS.2.2 dX11_next_106
                · refine lv_iload hx hb dX11_next_88 (lv_at hl 2 rfl) ?_
                  refine lv_if_eq (tgt := 103) hx hb dX11_next_90 (by decide) (fun _ => ?_) (fun c => absurd c (by decide))
                  refine lv_ldc2 (v := (-1)) hx hb hown (htw _ (ck_34 _ (List.mem_of_getElem? (i := 18) rfl))) dX11_next_103 ?_
                  refine W.widen (k := 0) (n := 0) (by omega) (by omega) ?_
                  exact W.lret (v := (-1)) hx hb hr (fun t ht hW => ⟨⟨(-1), (), rfl, (xr_next1 (fun h => (fun h => h.elim c_1 (fun z => absurd c_65 (Int32.not_lt.mpr z.1))) h.1)).symm, trivial⟩, hS.F ht⟩) hS.2.2 dX11_next_106
        · refine lv_iload hx hb dX11_next_34 (lv_at hl 4 rfl) ?_
          refine lv_aload_n hx hb dX11_next_36 rfl (lv_at hl 1 rfl) ?_
          refine va_get (D := (dC, dI)) (ci := 11) (v := .ref b) (C := RX11) (T := TX11) (N := 13) hx hb htw inlX11 hown hK hP 0 rfl rfl 1 (by decide) (htw _ (ck_1 _ (List.mem_of_getElem? (i := 21) rfl))) (fun _ h9 => h9) rfl dX11_next_37 ?_
          refine va_get (D := (dC, dI)) (ci := 0) (v := .ref bsk) (C := RX0) (T := TX0) (N := 12) hx hb htw inlX0 hown hK hP 1 rfl rfl 3 (by decide) (htw _ (ck_37 _ (List.mem_of_getElem? (i := 13) rfl))) (fun _ h9 => h9) rfl dX11_next_40 ?_
          refine va_get (D := (dC, dI)) (ci := 9) (v := .int 7) (C := RX9) (T := TX9) (N := 7) hx hb htw inlX9 hown hK hP 3 rfl rfl 0 (by decide) (htw _ (ck_48 _ (List.mem_of_getElem? (i := 13) rfl))) (fun _ h9 => h9) rfl dX11_next_43 ?_
          refine lv_icmp_ge (tgt := 53) hx hb dX11_next_46 (by decide) (fun c_90 => ?_) (fun c_90 => ?_)
          · refine lv_iconst (v := 0) hx hb dX11_next_53 (by decide) ?_
            refine lv_istore (lv' := [(7, .int 0), (6, .int 0), (0, .ref x), (1, .long a0), (3, .int a1), (4, .int a2), (5, .int a3)]) hx hb dX11_next_54 hl (by decide) rfl (fun ls hl => ?_)
            refine lv_iload hx hb dX11_next_56 (lv_at hl 6 rfl) ?_
            refine lv_iconst (v := (-1)) hx hb dX11_next_58 (by decide) ?_
            refine lv_icmp_eq (tgt := 74) hx hb dX11_next_59 (by decide) (fun c_91 => ?_) (fun c_91 => ?_)
            · refine lv_iconst (v := 1) hx hb dX11_next_74 (by decide) ?_
              refine lv_goto (tgt := 79) hx hb dX11_next_75 (by decide) ?_
              refine lv_istore (lv' := [(8, .int 1), (7, .int 0), (6, .int 0), (0, .ref x), (1, .long a0), (3, .int a1), (4, .int a2), (5, .int a3)]) hx hb dX11_next_79 hl (by decide) rfl (fun ls hl => ?_)
              refine lv_lload_n hx hb dX11_next_81 rfl (lv_at hl 4 rfl) ?_
              have hPc := hP.sub (ws' := []) [] rfl
              have hKc := hK.sub (tys' := []) [] rfl
              refine vp_callSi (W.runS (As := [.long a0]) (rest := []) ⟨hx, hb, hml, hown, htw⟩ (mt_isCount l dC dI a0) (va_cwS 1 htw (xg_S (ck_35 _ (List.mem_of_getElem? (i := 15) rfl)) (ck_35 _ (List.mem_of_getElem? (i := 16) rfl)) (ck_1 _ (List.mem_of_getElem? (i := 2) rfl)) (ck_35 _ (List.mem_of_getElem? (i := 17) rfl))) rfl rfl rfl (by decide +kernel) ⟨Nat.le_of_ble_eq_true rfl, Nat.le_of_ble_eq_true rfl⟩) ⟨fun a U g mk q => by obtain ⟨q0, qP, qK⟩ := q; exact ⟨q0, qP, va_K.moved (u := U) (U := U.calling g mk a) (Vm.Alike.refl U.vm) qK⟩, fun U hU hW => ⟨rfl, by rw [hU]; exact hPc, va_K.moved hW.alike hKc⟩⟩ rfl rfl hl.1 rfl (lv_room (Nat.le_of_ble_eq_true rfl)) dX11_next_82 ⟨Nat.le_of_ble_eq_true rfl, Nat.le_of_ble_eq_true rfl⟩) (fun r_92 hw => ?_)
              try dsimp only at hw
              have hw_r_92 : r_92 = xg_cnt a0 := hw
              refine lv_if_eq (tgt := 103) hx hb dX11_next_85 (by decide) (fun c_93 => ?_) (fun c_93 => ?_)
              · refine lv_ldc2 (v := (-1)) hx hb hown (htw _ (ck_34 _ (List.mem_of_getElem? (i := 18) rfl))) dX11_next_103 ?_
                refine W.widen (k := 0) (n := 0) (by omega) (by omega) ?_
                exact W.lret (v := (-1)) hx hb hr (fun t ht hW => ⟨⟨(-1), (), rfl, (xr_next0 (hw_r_92.symm.trans c_93)).symm, trivial⟩, hS.F ht⟩) hS.2.2 dX11_next_106
              · refine lv_iload hx hb dX11_next_88 (lv_at hl 2 rfl) ?_
                refine lv_if_eq (tgt := 103) hx hb dX11_next_90 (by decide) (fun _ => ?_) (fun c => absurd c (by decide))
                refine lv_ldc2 (v := (-1)) hx hb hown (htw _ (ck_34 _ (List.mem_of_getElem? (i := 18) rfl))) dX11_next_103 ?_
                refine W.widen (k := 0) (n := 0) (by omega) (by omega) ?_
                exact W.lret (v := (-1)) hx hb hr (fun t ht hW => ⟨⟨(-1), (), rfl, (xr_next1 (fun h => (fun h => h.elim c_1 (fun z => absurd c_65 (Int32.not_lt.mpr z.1))) h.1)).symm, trivial⟩, hS.F ht⟩) hS.2.2 dX11_next_106
            · refine lv_iload hx hb dX11_next_62 (lv_at hl 6 rfl) ?_
              refine lv_if_lt (tgt := 78) hx hb dX11_next_64 (by decide) (fun c_94 => ?_) (fun c_94 => ?_)
              · refine lv_iconst (v := 0) hx hb dX11_next_78 (by decide) ?_
                refine lv_istore (lv' := [(8, .int 0), (7, .int 0), (6, .int 0), (0, .ref x), (1, .long a0), (3, .int a1), (4, .int a2), (5, .int a3)]) hx hb dX11_next_79 hl (by decide) rfl (fun ls hl => ?_)
                refine lv_lload_n hx hb dX11_next_81 rfl (lv_at hl 4 rfl) ?_
                have hPc := hP.sub (ws' := []) [] rfl
                have hKc := hK.sub (tys' := []) [] rfl
                refine vp_callSi (W.runS (As := [.long a0]) (rest := []) ⟨hx, hb, hml, hown, htw⟩ (mt_isCount l dC dI a0) (va_cwS 1 htw (xg_S (ck_35 _ (List.mem_of_getElem? (i := 15) rfl)) (ck_35 _ (List.mem_of_getElem? (i := 16) rfl)) (ck_1 _ (List.mem_of_getElem? (i := 2) rfl)) (ck_35 _ (List.mem_of_getElem? (i := 17) rfl))) rfl rfl rfl (by decide +kernel) ⟨Nat.le_of_ble_eq_true rfl, Nat.le_of_ble_eq_true rfl⟩) ⟨fun a U g mk q => by obtain ⟨q0, qP, qK⟩ := q; exact ⟨q0, qP, va_K.moved (u := U) (U := U.calling g mk a) (Vm.Alike.refl U.vm) qK⟩, fun U hU hW => ⟨rfl, by rw [hU]; exact hPc, va_K.moved hW.alike hKc⟩⟩ rfl rfl hl.1 rfl (lv_room (Nat.le_of_ble_eq_true rfl)) dX11_next_82 ⟨Nat.le_of_ble_eq_true rfl, Nat.le_of_ble_eq_true rfl⟩) (fun r_95 hw => ?_)
                try dsimp only at hw
                have hw_r_95 : r_95 = xg_cnt a0 := hw
                refine lv_if_eq (tgt := 103) hx hb dX11_next_85 (by decide) (fun c_96 => ?_) (fun c_96 => ?_)
                · refine lv_ldc2 (v := (-1)) hx hb hown (htw _ (ck_34 _ (List.mem_of_getElem? (i := 18) rfl))) dX11_next_103 ?_
                  refine W.widen (k := 0) (n := 0) (by omega) (by omega) ?_
                  exact W.lret (v := (-1)) hx hb hr (fun t ht hW => ⟨⟨(-1), (), rfl, (xr_next0 (hw_r_95.symm.trans c_96)).symm, trivial⟩, hS.F ht⟩) hS.2.2 dX11_next_106
                · refine lv_iload hx hb dX11_next_88 (lv_at hl 2 rfl) ?_
                  refine lv_if_eq (tgt := 103) hx hb dX11_next_90 (by decide) (fun _ => ?_) (fun c => absurd c (by decide))
                  refine lv_ldc2 (v := (-1)) hx hb hown (htw _ (ck_34 _ (List.mem_of_getElem? (i := 18) rfl))) dX11_next_103 ?_
                  refine W.widen (k := 0) (n := 0) (by omega) (by omega) ?_
                  exact W.lret (v := (-1)) hx hb hr (fun t ht hW => ⟨⟨(-1), (), rfl, (xr_next1 (fun h => (fun h => h.elim c_1 (fun z => absurd c_65 (Int32.not_lt.mpr z.1))) h.1)).symm, trivial⟩, hS.F ht⟩) hS.2.2 dX11_next_106
              · refine lv_iload hx hb dX11_next_67 (lv_at hl 6 rfl) ?_
                refine lv_bipush (v := 7) hx hb dX11_next_69 (by decide) ?_
                refine lv_icmp_gt (tgt := 78) hx hb dX11_next_71 (by decide) (fun c_97 => ?_) (fun c_97 => ?_)
                · refine lv_iconst (v := 0) hx hb dX11_next_78 (by decide) ?_
                  refine lv_istore (lv' := [(8, .int 0), (7, .int 0), (6, .int 0), (0, .ref x), (1, .long a0), (3, .int a1), (4, .int a2), (5, .int a3)]) hx hb dX11_next_79 hl (by decide) rfl (fun ls hl => ?_)
                  refine lv_lload_n hx hb dX11_next_81 rfl (lv_at hl 4 rfl) ?_
                  have hPc := hP.sub (ws' := []) [] rfl
                  have hKc := hK.sub (tys' := []) [] rfl
                  refine vp_callSi (W.runS (As := [.long a0]) (rest := []) ⟨hx, hb, hml, hown, htw⟩ (mt_isCount l dC dI a0) (va_cwS 1 htw (xg_S (ck_35 _ (List.mem_of_getElem? (i := 15) rfl)) (ck_35 _ (List.mem_of_getElem? (i := 16) rfl)) (ck_1 _ (List.mem_of_getElem? (i := 2) rfl)) (ck_35 _ (List.mem_of_getElem? (i := 17) rfl))) rfl rfl rfl (by decide +kernel) ⟨Nat.le_of_ble_eq_true rfl, Nat.le_of_ble_eq_true rfl⟩) ⟨fun a U g mk q => by obtain ⟨q0, qP, qK⟩ := q; exact ⟨q0, qP, va_K.moved (u := U) (U := U.calling g mk a) (Vm.Alike.refl U.vm) qK⟩, fun U hU hW => ⟨rfl, by rw [hU]; exact hPc, va_K.moved hW.alike hKc⟩⟩ rfl rfl hl.1 rfl (lv_room (Nat.le_of_ble_eq_true rfl)) dX11_next_82 ⟨Nat.le_of_ble_eq_true rfl, Nat.le_of_ble_eq_true rfl⟩) (fun r_98 hw => ?_)
                  try dsimp only at hw
                  have hw_r_98 : r_98 = xg_cnt a0 := hw
                  refine lv_if_eq (tgt := 103) hx hb dX11_next_85 (by decide) (fun c_99 => ?_) (fun c_99 => ?_)
                  · refine lv_ldc2 (v := (-1)) hx hb hown (htw _ (ck_34 _ (List.mem_of_getElem? (i := 18) rfl))) dX11_next_103 ?_
                    refine W.widen (k := 0) (n := 0) (by omega) (by omega) ?_
                    exact W.lret (v := (-1)) hx hb hr (fun t ht hW => ⟨⟨(-1), (), rfl, (xr_next0 (hw_r_98.symm.trans c_99)).symm, trivial⟩, hS.F ht⟩) hS.2.2 dX11_next_106
                  · refine lv_iload hx hb dX11_next_88 (lv_at hl 2 rfl) ?_
                    refine lv_if_eq (tgt := 103) hx hb dX11_next_90 (by decide) (fun _ => ?_) (fun c => absurd c (by decide))
                    refine lv_ldc2 (v := (-1)) hx hb hown (htw _ (ck_34 _ (List.mem_of_getElem? (i := 18) rfl))) dX11_next_103 ?_
                    refine W.widen (k := 0) (n := 0) (by omega) (by omega) ?_
                    exact W.lret (v := (-1)) hx hb hr (fun t ht hW => ⟨⟨(-1), (), rfl, (xr_next1 (fun h => (fun h => h.elim c_1 (fun z => absurd c_65 (Int32.not_lt.mpr z.1))) h.1)).symm, trivial⟩, hS.F ht⟩) hS.2.2 dX11_next_106
                · refine lv_iconst (v := 1) hx hb dX11_next_74 (by decide) ?_
                  refine lv_goto (tgt := 79) hx hb dX11_next_75 (by decide) ?_
                  refine lv_istore (lv' := [(8, .int 1), (7, .int 0), (6, .int 0), (0, .ref x), (1, .long a0), (3, .int a1), (4, .int a2), (5, .int a3)]) hx hb dX11_next_79 hl (by decide) rfl (fun ls hl => ?_)
                  refine lv_lload_n hx hb dX11_next_81 rfl (lv_at hl 4 rfl) ?_
                  have hPc := hP.sub (ws' := []) [] rfl
                  have hKc := hK.sub (tys' := []) [] rfl
                  refine vp_callSi (W.runS (As := [.long a0]) (rest := []) ⟨hx, hb, hml, hown, htw⟩ (mt_isCount l dC dI a0) (va_cwS 1 htw (xg_S (ck_35 _ (List.mem_of_getElem? (i := 15) rfl)) (ck_35 _ (List.mem_of_getElem? (i := 16) rfl)) (ck_1 _ (List.mem_of_getElem? (i := 2) rfl)) (ck_35 _ (List.mem_of_getElem? (i := 17) rfl))) rfl rfl rfl (by decide +kernel) ⟨Nat.le_of_ble_eq_true rfl, Nat.le_of_ble_eq_true rfl⟩) ⟨fun a U g mk q => by obtain ⟨q0, qP, qK⟩ := q; exact ⟨q0, qP, va_K.moved (u := U) (U := U.calling g mk a) (Vm.Alike.refl U.vm) qK⟩, fun U hU hW => ⟨rfl, by rw [hU]; exact hPc, va_K.moved hW.alike hKc⟩⟩ rfl rfl hl.1 rfl (lv_room (Nat.le_of_ble_eq_true rfl)) dX11_next_82 ⟨Nat.le_of_ble_eq_true rfl, Nat.le_of_ble_eq_true rfl⟩) (fun r_100 hw => ?_)
                  try dsimp only at hw
                  have hw_r_100 : r_100 = xg_cnt a0 := hw
                  refine lv_if_eq (tgt := 103) hx hb dX11_next_85 (by decide) (fun c_101 => ?_) (fun c_101 => ?_)
                  · refine lv_ldc2 (v := (-1)) hx hb hown (htw _ (ck_34 _ (List.mem_of_getElem? (i := 18) rfl))) dX11_next_103 ?_
                    refine W.widen (k := 0) (n := 0) (by omega) (by omega) ?_
                    exact W.lret (v := (-1)) hx hb hr (fun t ht hW => ⟨⟨(-1), (), rfl, (xr_next0 (hw_r_100.symm.trans c_101)).symm, trivial⟩, hS.F ht⟩) hS.2.2 dX11_next_106
                  · refine lv_iload hx hb dX11_next_88 (lv_at hl 2 rfl) ?_
                    refine lv_if_eq (tgt := 103) hx hb dX11_next_90 (by decide) (fun _ => ?_) (fun c => absurd c (by decide))
                    refine lv_ldc2 (v := (-1)) hx hb hown (htw _ (ck_34 _ (List.mem_of_getElem? (i := 18) rfl))) dX11_next_103 ?_
                    refine W.widen (k := 0) (n := 0) (by omega) (by omega) ?_
                    exact W.lret (v := (-1)) hx hb hr (fun t ht hW => ⟨⟨(-1), (), rfl, (xr_next1 (fun h => (fun h => h.elim c_1 (fun z => absurd c_65 (Int32.not_lt.mpr z.1))) h.1)).symm, trivial⟩, hS.F ht⟩) hS.2.2 dX11_next_106
          · refine lv_iconst (v := 1) hx hb dX11_next_49 (by decide) ?_
            refine lv_goto (tgt := 54) hx hb dX11_next_50 (by decide) ?_
            refine lv_istore (lv' := [(7, .int 1), (6, .int 0), (0, .ref x), (1, .long a0), (3, .int a1), (4, .int a2), (5, .int a3)]) hx hb dX11_next_54 hl (by decide) rfl (fun ls hl => ?_)
            refine lv_iload hx hb dX11_next_56 (lv_at hl 6 rfl) ?_
            refine lv_iconst (v := (-1)) hx hb dX11_next_58 (by decide) ?_
            refine lv_icmp_eq (tgt := 74) hx hb dX11_next_59 (by decide) (fun c_102 => ?_) (fun c_102 => ?_)
            · refine lv_iconst (v := 1) hx hb dX11_next_74 (by decide) ?_
              refine lv_goto (tgt := 79) hx hb dX11_next_75 (by decide) ?_
              refine lv_istore (lv' := [(8, .int 1), (7, .int 1), (6, .int 0), (0, .ref x), (1, .long a0), (3, .int a1), (4, .int a2), (5, .int a3)]) hx hb dX11_next_79 hl (by decide) rfl (fun ls hl => ?_)
              refine lv_lload_n hx hb dX11_next_81 rfl (lv_at hl 4 rfl) ?_
              have hPc := hP.sub (ws' := []) [] rfl
              have hKc := hK.sub (tys' := []) [] rfl
              refine vp_callSi (W.runS (As := [.long a0]) (rest := []) ⟨hx, hb, hml, hown, htw⟩ (mt_isCount l dC dI a0) (va_cwS 1 htw (xg_S (ck_35 _ (List.mem_of_getElem? (i := 15) rfl)) (ck_35 _ (List.mem_of_getElem? (i := 16) rfl)) (ck_1 _ (List.mem_of_getElem? (i := 2) rfl)) (ck_35 _ (List.mem_of_getElem? (i := 17) rfl))) rfl rfl rfl (by decide +kernel) ⟨Nat.le_of_ble_eq_true rfl, Nat.le_of_ble_eq_true rfl⟩) ⟨fun a U g mk q => by obtain ⟨q0, qP, qK⟩ := q; exact ⟨q0, qP, va_K.moved (u := U) (U := U.calling g mk a) (Vm.Alike.refl U.vm) qK⟩, fun U hU hW => ⟨rfl, by rw [hU]; exact hPc, va_K.moved hW.alike hKc⟩⟩ rfl rfl hl.1 rfl (lv_room (Nat.le_of_ble_eq_true rfl)) dX11_next_82 ⟨Nat.le_of_ble_eq_true rfl, Nat.le_of_ble_eq_true rfl⟩) (fun r_103 hw => ?_)
              try dsimp only at hw
              have hw_r_103 : r_103 = xg_cnt a0 := hw
              refine lv_if_eq (tgt := 103) hx hb dX11_next_85 (by decide) (fun c_104 => ?_) (fun c_104 => ?_)
              · refine lv_ldc2 (v := (-1)) hx hb hown (htw _ (ck_34 _ (List.mem_of_getElem? (i := 18) rfl))) dX11_next_103 ?_
                refine W.widen (k := 0) (n := 0) (by omega) (by omega) ?_
                exact W.lret (v := (-1)) hx hb hr (fun t ht hW => ⟨⟨(-1), (), rfl, (xr_next0 (hw_r_103.symm.trans c_104)).symm, trivial⟩, hS.F ht⟩) hS.2.2 dX11_next_106
              · refine lv_iload hx hb dX11_next_88 (lv_at hl 2 rfl) ?_
                refine lv_if_eq (tgt := 103) hx hb dX11_next_90 (by decide) (fun _ => ?_) (fun c => absurd c (by decide))
                refine lv_ldc2 (v := (-1)) hx hb hown (htw _ (ck_34 _ (List.mem_of_getElem? (i := 18) rfl))) dX11_next_103 ?_
                refine W.widen (k := 0) (n := 0) (by omega) (by omega) ?_
                exact W.lret (v := (-1)) hx hb hr (fun t ht hW => ⟨⟨(-1), (), rfl, (xr_next1 (fun h => (fun h => h.elim c_1 (fun z => absurd c_65 (Int32.not_lt.mpr z.1))) h.1)).symm, trivial⟩, hS.F ht⟩) hS.2.2 dX11_next_106
            · refine lv_iload hx hb dX11_next_62 (lv_at hl 6 rfl) ?_
              refine lv_if_lt (tgt := 78) hx hb dX11_next_64 (by decide) (fun c_105 => ?_) (fun c_105 => ?_)
              · refine lv_iconst (v := 0) hx hb dX11_next_78 (by decide) ?_
                refine lv_istore (lv' := [(8, .int 0), (7, .int 1), (6, .int 0), (0, .ref x), (1, .long a0), (3, .int a1), (4, .int a2), (5, .int a3)]) hx hb dX11_next_79 hl (by decide) rfl (fun ls hl => ?_)
                refine lv_lload_n hx hb dX11_next_81 rfl (lv_at hl 4 rfl) ?_
                have hPc := hP.sub (ws' := []) [] rfl
                have hKc := hK.sub (tys' := []) [] rfl
                refine vp_callSi (W.runS (As := [.long a0]) (rest := []) ⟨hx, hb, hml, hown, htw⟩ (mt_isCount l dC dI a0) (va_cwS 1 htw (xg_S (ck_35 _ (List.mem_of_getElem? (i := 15) rfl)) (ck_35 _ (List.mem_of_getElem? (i := 16) rfl)) (ck_1 _ (List.mem_of_getElem? (i := 2) rfl)) (ck_35 _ (List.mem_of_getElem? (i := 17) rfl))) rfl rfl rfl (by decide +kernel) ⟨Nat.le_of_ble_eq_true rfl, Nat.le_of_ble_eq_true rfl⟩) ⟨fun a U g mk q => by obtain ⟨q0, qP, qK⟩ := q; exact ⟨q0, qP, va_K.moved (u := U) (U := U.calling g mk a) (Vm.Alike.refl U.vm) qK⟩, fun U hU hW => ⟨rfl, by rw [hU]; exact hPc, va_K.moved hW.alike hKc⟩⟩ rfl rfl hl.1 rfl (lv_room (Nat.le_of_ble_eq_true rfl)) dX11_next_82 ⟨Nat.le_of_ble_eq_true rfl, Nat.le_of_ble_eq_true rfl⟩) (fun r_106 hw => ?_)
                try dsimp only at hw
                have hw_r_106 : r_106 = xg_cnt a0 := hw
                refine lv_if_eq (tgt := 103) hx hb dX11_next_85 (by decide) (fun c_107 => ?_) (fun c_107 => ?_)
                · refine lv_ldc2 (v := (-1)) hx hb hown (htw _ (ck_34 _ (List.mem_of_getElem? (i := 18) rfl))) dX11_next_103 ?_
                  refine W.widen (k := 0) (n := 0) (by omega) (by omega) ?_
                  exact W.lret (v := (-1)) hx hb hr (fun t ht hW => ⟨⟨(-1), (), rfl, (xr_next0 (hw_r_106.symm.trans c_107)).symm, trivial⟩, hS.F ht⟩) hS.2.2 dX11_next_106
                · refine lv_iload hx hb dX11_next_88 (lv_at hl 2 rfl) ?_
                  refine lv_if_eq (tgt := 103) hx hb dX11_next_90 (by decide) (fun _ => ?_) (fun c => absurd c (by decide))
                  refine lv_ldc2 (v := (-1)) hx hb hown (htw _ (ck_34 _ (List.mem_of_getElem? (i := 18) rfl))) dX11_next_103 ?_
                  refine W.widen (k := 0) (n := 0) (by omega) (by omega) ?_
                  exact W.lret (v := (-1)) hx hb hr (fun t ht hW => ⟨⟨(-1), (), rfl, (xr_next1 (fun h => (fun h => h.elim c_1 (fun z => absurd c_65 (Int32.not_lt.mpr z.1))) h.1)).symm, trivial⟩, hS.F ht⟩) hS.2.2 dX11_next_106
              · refine lv_iload hx hb dX11_next_67 (lv_at hl 6 rfl) ?_
                refine lv_bipush (v := 7) hx hb dX11_next_69 (by decide) ?_
                refine lv_icmp_gt (tgt := 78) hx hb dX11_next_71 (by decide) (fun c_108 => ?_) (fun c_108 => ?_)
                · refine lv_iconst (v := 0) hx hb dX11_next_78 (by decide) ?_
                  refine lv_istore (lv' := [(8, .int 0), (7, .int 1), (6, .int 0), (0, .ref x), (1, .long a0), (3, .int a1), (4, .int a2), (5, .int a3)]) hx hb dX11_next_79 hl (by decide) rfl (fun ls hl => ?_)
                  refine lv_lload_n hx hb dX11_next_81 rfl (lv_at hl 4 rfl) ?_
                  have hPc := hP.sub (ws' := []) [] rfl
                  have hKc := hK.sub (tys' := []) [] rfl
                  refine vp_callSi (W.runS (As := [.long a0]) (rest := []) ⟨hx, hb, hml, hown, htw⟩ (mt_isCount l dC dI a0) (va_cwS 1 htw (xg_S (ck_35 _ (List.mem_of_getElem? (i := 15) rfl)) (ck_35 _ (List.mem_of_getElem? (i := 16) rfl)) (ck_1 _ (List.mem_of_getElem? (i := 2) rfl)) (ck_35 _ (List.mem_of_getElem? (i := 17) rfl))) rfl rfl rfl (by decide +kernel) ⟨Nat.le_of_ble_eq_true rfl, Nat.le_of_ble_eq_true rfl⟩) ⟨fun a U g mk q => by obtain ⟨q0, qP, qK⟩ := q; exact ⟨q0, qP, va_K.moved (u := U) (U := U.calling g mk a) (Vm.Alike.refl U.vm) qK⟩, fun U hU hW => ⟨rfl, by rw [hU]; exact hPc, va_K.moved hW.alike hKc⟩⟩ rfl rfl hl.1 rfl (lv_room (Nat.le_of_ble_eq_true rfl)) dX11_next_82 ⟨Nat.le_of_ble_eq_true rfl, Nat.le_of_ble_eq_true rfl⟩) (fun r_109 hw => ?_)
                  try dsimp only at hw
                  have hw_r_109 : r_109 = xg_cnt a0 := hw
                  refine lv_if_eq (tgt := 103) hx hb dX11_next_85 (by decide) (fun c_110 => ?_) (fun c_110 => ?_)
                  · refine lv_ldc2 (v := (-1)) hx hb hown (htw _ (ck_34 _ (List.mem_of_getElem? (i := 18) rfl))) dX11_next_103 ?_
                    refine W.widen (k := 0) (n := 0) (by omega) (by omega) ?_
                    exact W.lret (v := (-1)) hx hb hr (fun t ht hW => ⟨⟨(-1), (), rfl, (xr_next0 (hw_r_109.symm.trans c_110)).symm, trivial⟩, hS.F ht⟩) hS.2.2 dX11_next_106
                  · refine lv_iload hx hb dX11_next_88 (lv_at hl 2 rfl) ?_
                    refine lv_if_eq (tgt := 103) hx hb dX11_next_90 (by decide) (fun _ => ?_) (fun c => absurd c (by decide))
                    refine lv_ldc2 (v := (-1)) hx hb hown (htw _ (ck_34 _ (List.mem_of_getElem? (i := 18) rfl))) dX11_next_103 ?_
                    refine W.widen (k := 0) (n := 0) (by omega) (by omega) ?_
                    exact W.lret (v := (-1)) hx hb hr (fun t ht hW => ⟨⟨(-1), (), rfl, (xr_next1 (fun h => (fun h => h.elim c_1 (fun z => absurd c_65 (Int32.not_lt.mpr z.1))) h.1)).symm, trivial⟩, hS.F ht⟩) hS.2.2 dX11_next_106
                · refine lv_iconst (v := 1) hx hb dX11_next_74 (by decide) ?_
                  refine lv_goto (tgt := 79) hx hb dX11_next_75 (by decide) ?_
                  refine lv_istore (lv' := [(8, .int 1), (7, .int 1), (6, .int 0), (0, .ref x), (1, .long a0), (3, .int a1), (4, .int a2), (5, .int a3)]) hx hb dX11_next_79 hl (by decide) rfl (fun ls hl => ?_)
                  refine lv_lload_n hx hb dX11_next_81 rfl (lv_at hl 4 rfl) ?_
                  have hPc := hP.sub (ws' := []) [] rfl
                  have hKc := hK.sub (tys' := []) [] rfl
                  refine vp_callSi (W.runS (As := [.long a0]) (rest := []) ⟨hx, hb, hml, hown, htw⟩ (mt_isCount l dC dI a0) (va_cwS 1 htw (xg_S (ck_35 _ (List.mem_of_getElem? (i := 15) rfl)) (ck_35 _ (List.mem_of_getElem? (i := 16) rfl)) (ck_1 _ (List.mem_of_getElem? (i := 2) rfl)) (ck_35 _ (List.mem_of_getElem? (i := 17) rfl))) rfl rfl rfl (by decide +kernel) ⟨Nat.le_of_ble_eq_true rfl, Nat.le_of_ble_eq_true rfl⟩) ⟨fun a U g mk q => by obtain ⟨q0, qP, qK⟩ := q; exact ⟨q0, qP, va_K.moved (u := U) (U := U.calling g mk a) (Vm.Alike.refl U.vm) qK⟩, fun U hU hW => ⟨rfl, by rw [hU]; exact hPc, va_K.moved hW.alike hKc⟩⟩ rfl rfl hl.1 rfl (lv_room (Nat.le_of_ble_eq_true rfl)) dX11_next_82 ⟨Nat.le_of_ble_eq_true rfl, Nat.le_of_ble_eq_true rfl⟩) (fun r_111 hw => ?_)
                  try dsimp only at hw
                  have hw_r_111 : r_111 = xg_cnt a0 := hw
                  refine lv_if_eq (tgt := 103) hx hb dX11_next_85 (by decide) (fun c_112 => ?_) (fun c_112 => ?_)
                  · refine lv_ldc2 (v := (-1)) hx hb hown (htw _ (ck_34 _ (List.mem_of_getElem? (i := 18) rfl))) dX11_next_103 ?_
                    refine W.widen (k := 0) (n := 0) (by omega) (by omega) ?_
                    exact W.lret (v := (-1)) hx hb hr (fun t ht hW => ⟨⟨(-1), (), rfl, (xr_next0 (hw_r_111.symm.trans c_112)).symm, trivial⟩, hS.F ht⟩) hS.2.2 dX11_next_106
                  · refine lv_iload hx hb dX11_next_88 (lv_at hl 2 rfl) ?_
                    refine lv_if_eq (tgt := 103) hx hb dX11_next_90 (by decide) (fun _ => ?_) (fun c => absurd c (by decide))
                    refine lv_ldc2 (v := (-1)) hx hb hown (htw _ (ck_34 _ (List.mem_of_getElem? (i := 18) rfl))) dX11_next_103 ?_
                    refine W.widen (k := 0) (n := 0) (by omega) (by omega) ?_
                    exact W.lret (v := (-1)) hx hb hr (fun t ht hW => ⟨⟨(-1), (), rfl, (xr_next1 (fun h => (fun h => h.elim c_1 (fun z => absurd c_65 (Int32.not_lt.mpr z.1))) h.1)).symm, trivial⟩, hS.F ht⟩) hS.2.2 dX11_next_106
    · refine lv_iload_n hx hb dX11_next_10 rfl (lv_at hl 2 rfl) ?_
      refine lv_ldc (v := 99999) hx hb hown (htw _ (ck_48 _ (List.mem_of_getElem? (i := 12) rfl))) dX11_next_11 ?_
      refine lv_icmp_gt (tgt := 20) hx hb dX11_next_13 (by decide) (fun c_113 => ?_) (fun c_113 => ?_)
      · refine lv_iconst (v := 0) hx hb dX11_next_20 (by decide) ?_
        refine lv_istore (lv' := [(6, .int 0), (0, .ref x), (1, .long a0), (3, .int a1), (4, .int a2), (5, .int a3)]) hx hb dX11_next_21 hl (by decide) rfl (fun ls hl => ?_)
        refine lv_iload hx hb dX11_next_23 (lv_at hl 4 rfl) ?_
        refine lv_iconst (v := (-1)) hx hb dX11_next_25 (by decide) ?_
        refine lv_icmp_eq (tgt := 49) hx hb dX11_next_26 (by decide) (fun c_114 => ?_) (fun c_114 => ?_)
        · refine lv_iconst (v := 1) hx hb dX11_next_49 (by decide) ?_
          refine lv_goto (tgt := 54) hx hb dX11_next_50 (by decide) ?_
          refine lv_istore (lv' := [(7, .int 1), (6, .int 0), (0, .ref x), (1, .long a0), (3, .int a1), (4, .int a2), (5, .int a3)]) hx hb dX11_next_54 hl (by decide) rfl (fun ls hl => ?_)
          refine lv_iload hx hb dX11_next_56 (lv_at hl 6 rfl) ?_
          refine lv_iconst (v := (-1)) hx hb dX11_next_58 (by decide) ?_
          refine lv_icmp_eq (tgt := 74) hx hb dX11_next_59 (by decide) (fun c_115 => ?_) (fun c_115 => ?_)
          · refine lv_iconst (v := 1) hx hb dX11_next_74 (by decide) ?_
            refine lv_goto (tgt := 79) hx hb dX11_next_75 (by decide) ?_
            refine lv_istore (lv' := [(8, .int 1), (7, .int 1), (6, .int 0), (0, .ref x), (1, .long a0), (3, .int a1), (4, .int a2), (5, .int a3)]) hx hb dX11_next_79 hl (by decide) rfl (fun ls hl => ?_)
            refine lv_lload_n hx hb dX11_next_81 rfl (lv_at hl 4 rfl) ?_
            have hPc := hP.sub (ws' := []) [] rfl
            have hKc := hK.sub (tys' := []) [] rfl
            refine vp_callSi (W.runS (As := [.long a0]) (rest := []) ⟨hx, hb, hml, hown, htw⟩ (mt_isCount l dC dI a0) (va_cwS 1 htw (xg_S (ck_35 _ (List.mem_of_getElem? (i := 15) rfl)) (ck_35 _ (List.mem_of_getElem? (i := 16) rfl)) (ck_1 _ (List.mem_of_getElem? (i := 2) rfl)) (ck_35 _ (List.mem_of_getElem? (i := 17) rfl))) rfl rfl rfl (by decide +kernel) ⟨Nat.le_of_ble_eq_true rfl, Nat.le_of_ble_eq_true rfl⟩) ⟨fun a U g mk q => by obtain ⟨q0, qP, qK⟩ := q; exact ⟨q0, qP, va_K.moved (u := U) (U := U.calling g mk a) (Vm.Alike.refl U.vm) qK⟩, fun U hU hW => ⟨rfl, by rw [hU]; exact hPc, va_K.moved hW.alike hKc⟩⟩ rfl rfl hl.1 rfl (lv_room (Nat.le_of_ble_eq_true rfl)) dX11_next_82 ⟨Nat.le_of_ble_eq_true rfl, Nat.le_of_ble_eq_true rfl⟩) (fun r_116 hw => ?_)
            try dsimp only at hw
            have hw_r_116 : r_116 = xg_cnt a0 := hw
            refine lv_if_eq (tgt := 103) hx hb dX11_next_85 (by decide) (fun c_117 => ?_) (fun c_117 => ?_)
            · refine lv_ldc2 (v := (-1)) hx hb hown (htw _ (ck_34 _ (List.mem_of_getElem? (i := 18) rfl))) dX11_next_103 ?_
              refine W.widen (k := 0) (n := 0) (by omega) (by omega) ?_
              exact W.lret (v := (-1)) hx hb hr (fun t ht hW => ⟨⟨(-1), (), rfl, (xr_next0 (hw_r_116.symm.trans c_117)).symm, trivial⟩, hS.F ht⟩) hS.2.2 dX11_next_106
            · refine lv_iload hx hb dX11_next_88 (lv_at hl 2 rfl) ?_
              refine lv_if_eq (tgt := 103) hx hb dX11_next_90 (by decide) (fun _ => ?_) (fun c => absurd c (by decide))
              refine lv_ldc2 (v := (-1)) hx hb hown (htw _ (ck_34 _ (List.mem_of_getElem? (i := 18) rfl))) dX11_next_103 ?_
              refine W.widen (k := 0) (n := 0) (by omega) (by omega) ?_
              exact W.lret (v := (-1)) hx hb hr (fun t ht hW => ⟨⟨(-1), (), rfl, (xr_next1 (fun h => (fun h => h.elim c_1 (fun z => absurd c_113 (Int32.not_lt.mpr z.2))) h.1)).symm, trivial⟩, hS.F ht⟩) hS.2.2 dX11_next_106
          · refine lv_iload hx hb dX11_next_62 (lv_at hl 6 rfl) ?_
            refine lv_if_lt (tgt := 78) hx hb dX11_next_64 (by decide) (fun c_118 => ?_) (fun c_118 => ?_)
            · refine lv_iconst (v := 0) hx hb dX11_next_78 (by decide) ?_
              refine lv_istore (lv' := [(8, .int 0), (7, .int 1), (6, .int 0), (0, .ref x), (1, .long a0), (3, .int a1), (4, .int a2), (5, .int a3)]) hx hb dX11_next_79 hl (by decide) rfl (fun ls hl => ?_)
              refine lv_lload_n hx hb dX11_next_81 rfl (lv_at hl 4 rfl) ?_
              have hPc := hP.sub (ws' := []) [] rfl
              have hKc := hK.sub (tys' := []) [] rfl
              refine vp_callSi (W.runS (As := [.long a0]) (rest := []) ⟨hx, hb, hml, hown, htw⟩ (mt_isCount l dC dI a0) (va_cwS 1 htw (xg_S (ck_35 _ (List.mem_of_getElem? (i := 15) rfl)) (ck_35 _ (List.mem_of_getElem? (i := 16) rfl)) (ck_1 _ (List.mem_of_getElem? (i := 2) rfl)) (ck_35 _ (List.mem_of_getElem? (i := 17) rfl))) rfl rfl rfl (by decide +kernel) ⟨Nat.le_of_ble_eq_true rfl, Nat.le_of_ble_eq_true rfl⟩) ⟨fun a U g mk q => by obtain ⟨q0, qP, qK⟩ := q; exact ⟨q0, qP, va_K.moved (u := U) (U := U.calling g mk a) (Vm.Alike.refl U.vm) qK⟩, fun U hU hW => ⟨rfl, by rw [hU]; exact hPc, va_K.moved hW.alike hKc⟩⟩ rfl rfl hl.1 rfl (lv_room (Nat.le_of_ble_eq_true rfl)) dX11_next_82 ⟨Nat.le_of_ble_eq_true rfl, Nat.le_of_ble_eq_true rfl⟩) (fun r_119 hw => ?_)
              try dsimp only at hw
              have hw_r_119 : r_119 = xg_cnt a0 := hw
              refine lv_if_eq (tgt := 103) hx hb dX11_next_85 (by decide) (fun c_120 => ?_) (fun c_120 => ?_)
              · refine lv_ldc2 (v := (-1)) hx hb hown (htw _ (ck_34 _ (List.mem_of_getElem? (i := 18) rfl))) dX11_next_103 ?_
                refine W.widen (k := 0) (n := 0) (by omega) (by omega) ?_
                exact W.lret (v := (-1)) hx hb hr (fun t ht hW => ⟨⟨(-1), (), rfl, (xr_next0 (hw_r_119.symm.trans c_120)).symm, trivial⟩, hS.F ht⟩) hS.2.2 dX11_next_106
              · refine lv_iload hx hb dX11_next_88 (lv_at hl 2 rfl) ?_
                refine lv_if_eq (tgt := 103) hx hb dX11_next_90 (by decide) (fun _ => ?_) (fun c => absurd c (by decide))
                refine lv_ldc2 (v := (-1)) hx hb hown (htw _ (ck_34 _ (List.mem_of_getElem? (i := 18) rfl))) dX11_next_103 ?_
                refine W.widen (k := 0) (n := 0) (by omega) (by omega) ?_
                exact W.lret (v := (-1)) hx hb hr (fun t ht hW => ⟨⟨(-1), (), rfl, (xr_next1 (fun h => (fun h => h.elim c_1 (fun z => absurd c_113 (Int32.not_lt.mpr z.2))) h.1)).symm, trivial⟩, hS.F ht⟩) hS.2.2 dX11_next_106
            · refine lv_iload hx hb dX11_next_67 (lv_at hl 6 rfl) ?_
              refine lv_bipush (v := 7) hx hb dX11_next_69 (by decide) ?_
              refine lv_icmp_gt (tgt := 78) hx hb dX11_next_71 (by decide) (fun c_121 => ?_) (fun c_121 => ?_)
              · refine lv_iconst (v := 0) hx hb dX11_next_78 (by decide) ?_
                refine lv_istore (lv' := [(8, .int 0), (7, .int 1), (6, .int 0), (0, .ref x), (1, .long a0), (3, .int a1), (4, .int a2), (5, .int a3)]) hx hb dX11_next_79 hl (by decide) rfl (fun ls hl => ?_)
                refine lv_lload_n hx hb dX11_next_81 rfl (lv_at hl 4 rfl) ?_
                have hPc := hP.sub (ws' := []) [] rfl
                have hKc := hK.sub (tys' := []) [] rfl
                refine vp_callSi (W.runS (As := [.long a0]) (rest := []) ⟨hx, hb, hml, hown, htw⟩ (mt_isCount l dC dI a0) (va_cwS 1 htw (xg_S (ck_35 _ (List.mem_of_getElem? (i := 15) rfl)) (ck_35 _ (List.mem_of_getElem? (i := 16) rfl)) (ck_1 _ (List.mem_of_getElem? (i := 2) rfl)) (ck_35 _ (List.mem_of_getElem? (i := 17) rfl))) rfl rfl rfl (by decide +kernel) ⟨Nat.le_of_ble_eq_true rfl, Nat.le_of_ble_eq_true rfl⟩) ⟨fun a U g mk q => by obtain ⟨q0, qP, qK⟩ := q; exact ⟨q0, qP, va_K.moved (u := U) (U := U.calling g mk a) (Vm.Alike.refl U.vm) qK⟩, fun U hU hW => ⟨rfl, by rw [hU]; exact hPc, va_K.moved hW.alike hKc⟩⟩ rfl rfl hl.1 rfl (lv_room (Nat.le_of_ble_eq_true rfl)) dX11_next_82 ⟨Nat.le_of_ble_eq_true rfl, Nat.le_of_ble_eq_true rfl⟩) (fun r_122 hw => ?_)
                try dsimp only at hw
                have hw_r_122 : r_122 = xg_cnt a0 := hw
                refine lv_if_eq (tgt := 103) hx hb dX11_next_85 (by decide) (fun c_123 => ?_) (fun c_123 => ?_)
                · refine lv_ldc2 (v := (-1)) hx hb hown (htw _ (ck_34 _ (List.mem_of_getElem? (i := 18) rfl))) dX11_next_103 ?_
                  refine W.widen (k := 0) (n := 0) (by omega) (by omega) ?_
                  exact W.lret (v := (-1)) hx hb hr (fun t ht hW => ⟨⟨(-1), (), rfl, (xr_next0 (hw_r_122.symm.trans c_123)).symm, trivial⟩, hS.F ht⟩) hS.2.2 dX11_next_106
                · refine lv_iload hx hb dX11_next_88 (lv_at hl 2 rfl) ?_
                  refine lv_if_eq (tgt := 103) hx hb dX11_next_90 (by decide) (fun _ => ?_) (fun c => absurd c (by decide))
                  refine lv_ldc2 (v := (-1)) hx hb hown (htw _ (ck_34 _ (List.mem_of_getElem? (i := 18) rfl))) dX11_next_103 ?_
                  refine W.widen (k := 0) (n := 0) (by omega) (by omega) ?_
                  exact W.lret (v := (-1)) hx hb hr (fun t ht hW => ⟨⟨(-1), (), rfl, (xr_next1 (fun h => (fun h => h.elim c_1 (fun z => absurd c_113 (Int32.not_lt.mpr z.2))) h.1)).symm, trivial⟩, hS.F ht⟩) hS.2.2 dX11_next_106
              · refine lv_iconst (v := 1) hx hb dX11_next_74 (by decide) ?_
                refine lv_goto (tgt := 79) hx hb dX11_next_75 (by decide) ?_
                refine lv_istore (lv' := [(8, .int 1), (7, .int 1), (6, .int 0), (0, .ref x), (1, .long a0), (3, .int a1), (4, .int a2), (5, .int a3)]) hx hb dX11_next_79 hl (by decide) rfl (fun ls hl => ?_)
                refine lv_lload_n hx hb dX11_next_81 rfl (lv_at hl 4 rfl) ?_
                have hPc := hP.sub (ws' := []) [] rfl
                have hKc := hK.sub (tys' := []) [] rfl
                refine vp_callSi (W.runS (As := [.long a0]) (rest := []) ⟨hx, hb, hml, hown, htw⟩ (mt_isCount l dC dI a0) (va_cwS 1 htw (xg_S (ck_35 _ (List.mem_of_getElem? (i := 15) rfl)) (ck_35 _ (List.mem_of_getElem? (i := 16) rfl)) (ck_1 _ (List.mem_of_getElem? (i := 2) rfl)) (ck_35 _ (List.mem_of_getElem? (i := 17) rfl))) rfl rfl rfl (by decide +kernel) ⟨Nat.le_of_ble_eq_true rfl, Nat.le_of_ble_eq_true rfl⟩) ⟨fun a U g mk q => by obtain ⟨q0, qP, qK⟩ := q; exact ⟨q0, qP, va_K.moved (u := U) (U := U.calling g mk a) (Vm.Alike.refl U.vm) qK⟩, fun U hU hW => ⟨rfl, by rw [hU]; exact hPc, va_K.moved hW.alike hKc⟩⟩ rfl rfl hl.1 rfl (lv_room (Nat.le_of_ble_eq_true rfl)) dX11_next_82 ⟨Nat.le_of_ble_eq_true rfl, Nat.le_of_ble_eq_true rfl⟩) (fun r_124 hw => ?_)
                try dsimp only at hw
                have hw_r_124 : r_124 = xg_cnt a0 := hw
                refine lv_if_eq (tgt := 103) hx hb dX11_next_85 (by decide) (fun c_125 => ?_) (fun c_125 => ?_)
                · refine lv_ldc2 (v := (-1)) hx hb hown (htw _ (ck_34 _ (List.mem_of_getElem? (i := 18) rfl))) dX11_next_103 ?_
                  refine W.widen (k := 0) (n := 0) (by omega) (by omega) ?_
                  exact W.lret (v := (-1)) hx hb hr (fun t ht hW => ⟨⟨(-1), (), rfl, (xr_next0 (hw_r_124.symm.trans c_125)).symm, trivial⟩, hS.F ht⟩) hS.2.2 dX11_next_106
                · refine lv_iload hx hb dX11_next_88 (lv_at hl 2 rfl) ?_
                  refine lv_if_eq (tgt := 103) hx hb dX11_next_90 (by decide) (fun _ => ?_) (fun c => absurd c (by decide))
                  refine lv_ldc2 (v := (-1)) hx hb hown (htw _ (ck_34 _ (List.mem_of_getElem? (i := 18) rfl))) dX11_next_103 ?_
                  refine W.widen (k := 0) (n := 0) (by omega) (by omega) ?_
                  exact W.lret (v := (-1)) hx hb hr (fun t ht hW => ⟨⟨(-1), (), rfl, (xr_next1 (fun h => (fun h => h.elim c_1 (fun z => absurd c_113 (Int32.not_lt.mpr z.2))) h.1)).symm, trivial⟩, hS.F ht⟩) hS.2.2 dX11_next_106
        · refine lv_iload hx hb dX11_next_29 (lv_at hl 4 rfl) ?_
          refine lv_if_lt (tgt := 53) hx hb dX11_next_31 (by decide) (fun c_126 => ?_) (fun c_126 => ?_)
          · refine lv_iconst (v := 0) hx hb dX11_next_53 (by decide) ?_
            refine lv_istore (lv' := [(7, .int 0), (6, .int 0), (0, .ref x), (1, .long a0), (3, .int a1), (4, .int a2), (5, .int a3)]) hx hb dX11_next_54 hl (by decide) rfl (fun ls hl => ?_)
            refine lv_iload hx hb dX11_next_56 (lv_at hl 6 rfl) ?_
            refine lv_iconst (v := (-1)) hx hb dX11_next_58 (by decide) ?_
            refine lv_icmp_eq (tgt := 74) hx hb dX11_next_59 (by decide) (fun c_127 => ?_) (fun c_127 => ?_)
            · refine lv_iconst (v := 1) hx hb dX11_next_74 (by decide) ?_
              refine lv_goto (tgt := 79) hx hb dX11_next_75 (by decide) ?_
              refine lv_istore (lv' := [(8, .int 1), (7, .int 0), (6, .int 0), (0, .ref x), (1, .long a0), (3, .int a1), (4, .int a2), (5, .int a3)]) hx hb dX11_next_79 hl (by decide) rfl (fun ls hl => ?_)
              refine lv_lload_n hx hb dX11_next_81 rfl (lv_at hl 4 rfl) ?_
              have hPc := hP.sub (ws' := []) [] rfl
              have hKc := hK.sub (tys' := []) [] rfl
              refine vp_callSi (W.runS (As := [.long a0]) (rest := []) ⟨hx, hb, hml, hown, htw⟩ (mt_isCount l dC dI a0) (va_cwS 1 htw (xg_S (ck_35 _ (List.mem_of_getElem? (i := 15) rfl)) (ck_35 _ (List.mem_of_getElem? (i := 16) rfl)) (ck_1 _ (List.mem_of_getElem? (i := 2) rfl)) (ck_35 _ (List.mem_of_getElem? (i := 17) rfl))) rfl rfl rfl (by decide +kernel) ⟨Nat.le_of_ble_eq_true rfl, Nat.le_of_ble_eq_true rfl⟩) ⟨fun a U g mk q => by obtain ⟨q0, qP, qK⟩ := q; exact ⟨q0, qP, va_K.moved (u := U) (U := U.calling g mk a) (Vm.Alike.refl U.vm) qK⟩, fun U hU hW => ⟨rfl, by rw [hU]; exact hPc, va_K.moved hW.alike hKc⟩⟩ rfl rfl hl.1 rfl (lv_room (Nat.le_of_ble_eq_true rfl)) dX11_next_82 ⟨Nat.le_of_ble_eq_true rfl, Nat.le_of_ble_eq_true rfl⟩) (fun r_128 hw => ?_)
              try dsimp only at hw
              have hw_r_128 : r_128 = xg_cnt a0 := hw
              refine lv_if_eq (tgt := 103) hx hb dX11_next_85 (by decide) (fun c_129 => ?_) (fun c_129 => ?_)
              · refine lv_ldc2 (v := (-1)) hx hb hown (htw _ (ck_34 _ (List.mem_of_getElem? (i := 18) rfl))) dX11_next_103 ?_
                refine W.widen (k := 0) (n := 0) (by omega) (by omega) ?_
                exact W.lret (v := (-1)) hx hb hr (fun t ht hW => ⟨⟨(-1), (), rfl, (xr_next0 (hw_r_128.symm.trans c_129)).symm, trivial⟩, hS.F ht⟩) hS.2.2 dX11_next_106
              · refine lv_iload hx hb dX11_next_88 (lv_at hl 2 rfl) ?_
                refine lv_if_eq (tgt := 103) hx hb dX11_next_90 (by decide) (fun _ => ?_) (fun c => absurd c (by decide))
                refine lv_ldc2 (v := (-1)) hx hb hown (htw _ (ck_34 _ (List.mem_of_getElem? (i := 18) rfl))) dX11_next_103 ?_
                refine W.widen (k := 0) (n := 0) (by omega) (by omega) ?_
                exact W.lret (v := (-1)) hx hb hr (fun t ht hW => ⟨⟨(-1), (), rfl, (xr_next1 (fun h => (fun h => h.elim c_1 (fun z => absurd c_113 (Int32.not_lt.mpr z.2))) h.1)).symm, trivial⟩, hS.F ht⟩) hS.2.2 dX11_next_106
            · refine lv_iload hx hb dX11_next_62 (lv_at hl 6 rfl) ?_
              refine lv_if_lt (tgt := 78) hx hb dX11_next_64 (by decide) (fun c_130 => ?_) (fun c_130 => ?_)
              · refine lv_iconst (v := 0) hx hb dX11_next_78 (by decide) ?_
                refine lv_istore (lv' := [(8, .int 0), (7, .int 0), (6, .int 0), (0, .ref x), (1, .long a0), (3, .int a1), (4, .int a2), (5, .int a3)]) hx hb dX11_next_79 hl (by decide) rfl (fun ls hl => ?_)
                refine lv_lload_n hx hb dX11_next_81 rfl (lv_at hl 4 rfl) ?_
                have hPc := hP.sub (ws' := []) [] rfl
                have hKc := hK.sub (tys' := []) [] rfl
                refine vp_callSi (W.runS (As := [.long a0]) (rest := []) ⟨hx, hb, hml, hown, htw⟩ (mt_isCount l dC dI a0) (va_cwS 1 htw (xg_S (ck_35 _ (List.mem_of_getElem? (i := 15) rfl)) (ck_35 _ (List.mem_of_getElem? (i := 16) rfl)) (ck_1 _ (List.mem_of_getElem? (i := 2) rfl)) (ck_35 _ (List.mem_of_getElem? (i := 17) rfl))) rfl rfl rfl (by decide +kernel) ⟨Nat.le_of_ble_eq_true rfl, Nat.le_of_ble_eq_true rfl⟩) ⟨fun a U g mk q => by obtain ⟨q0, qP, qK⟩ := q; exact ⟨q0, qP, va_K.moved (u := U) (U := U.calling g mk a) (Vm.Alike.refl U.vm) qK⟩, fun U hU hW => ⟨rfl, by rw [hU]; exact hPc, va_K.moved hW.alike hKc⟩⟩ rfl rfl hl.1 rfl (lv_room (Nat.le_of_ble_eq_true rfl)) dX11_next_82 ⟨Nat.le_of_ble_eq_true rfl, Nat.le_of_ble_eq_true rfl⟩) (fun r_131 hw => ?_)
                try dsimp only at hw
                have hw_r_131 : r_131 = xg_cnt a0 := hw
                refine lv_if_eq (tgt := 103) hx hb dX11_next_85 (by decide) (fun c_132 => ?_) (fun c_132 => ?_)
                · refine lv_ldc2 (v := (-1)) hx hb hown (htw _ (ck_34 _ (List.mem_of_getElem? (i := 18) rfl))) dX11_next_103 ?_
                  refine W.widen (k := 0) (n := 0) (by omega) (by omega) ?_
                  exact W.lret (v := (-1)) hx hb hr (fun t ht hW => ⟨⟨(-1), (), rfl, (xr_next0 (hw_r_131.symm.trans c_132)).symm, trivial⟩, hS.F ht⟩) hS.2.2 dX11_next_106
                · refine lv_iload hx hb dX11_next_88 (lv_at hl 2 rfl) ?_
                  refine lv_if_eq (tgt := 103) hx hb dX11_next_90 (by decide) (fun _ => ?_) (fun c => absurd c (by decide))
                  refine lv_ldc2 (v := (-1)) hx hb hown (htw _ (ck_34 _ (List.mem_of_getElem? (i := 18) rfl))) dX11_next_103 ?_
                  refine W.widen (k := 0) (n := 0) (by omega) (by omega) ?_
                  exact W.lret (v := (-1)) hx hb hr (fun t ht hW => ⟨⟨(-1), (), rfl, (xr_next1 (fun h => (fun h => h.elim c_1 (fun z => absurd c_113 (Int32.not_lt.mpr z.2))) h.1)).symm, trivial⟩, hS.F ht⟩) hS.2.2 dX11_next_106
              · refine lv_iload hx hb dX11_next_67 (lv_at hl 6 rfl) ?_
                refine lv_bipush (v := 7) hx hb dX11_next_69 (by decide) ?_
                refine lv_icmp_gt (tgt := 78) hx hb dX11_next_71 (by decide) (fun c_133 => ?_) (fun c_133 => ?_)
                · refine lv_iconst (v := 0) hx hb dX11_next_78 (by decide) ?_
                  refine lv_istore (lv' := [(8, .int 0), (7, .int 0), (6, .int 0), (0, .ref x), (1, .long a0), (3, .int a1), (4, .int a2), (5, .int a3)]) hx hb dX11_next_79 hl (by decide) rfl (fun ls hl => ?_)
                  refine lv_lload_n hx hb dX11_next_81 rfl (lv_at hl 4 rfl) ?_
                  have hPc := hP.sub (ws' := []) [] rfl
                  have hKc := hK.sub (tys' := []) [] rfl
                  refine vp_callSi (W.runS (As := [.long a0]) (rest := []) ⟨hx, hb, hml, hown, htw⟩ (mt_isCount l dC dI a0) (va_cwS 1 htw (xg_S (ck_35 _ (List.mem_of_getElem? (i := 15) rfl)) (ck_35 _ (List.mem_of_getElem? (i := 16) rfl)) (ck_1 _ (List.mem_of_getElem? (i := 2) rfl)) (ck_35 _ (List.mem_of_getElem? (i := 17) rfl))) rfl rfl rfl (by decide +kernel) ⟨Nat.le_of_ble_eq_true rfl, Nat.le_of_ble_eq_true rfl⟩) ⟨fun a U g mk q => by obtain ⟨q0, qP, qK⟩ := q; exact ⟨q0, qP, va_K.moved (u := U) (U := U.calling g mk a) (Vm.Alike.refl U.vm) qK⟩, fun U hU hW => ⟨rfl, by rw [hU]; exact hPc, va_K.moved hW.alike hKc⟩⟩ rfl rfl hl.1 rfl (lv_room (Nat.le_of_ble_eq_true rfl)) dX11_next_82 ⟨Nat.le_of_ble_eq_true rfl, Nat.le_of_ble_eq_true rfl⟩) (fun r_134 hw => ?_)
                  try dsimp only at hw
                  have hw_r_134 : r_134 = xg_cnt a0 := hw
                  refine lv_if_eq (tgt := 103) hx hb dX11_next_85 (by decide) (fun c_135 => ?_) (fun c_135 => ?_)
                  · refine lv_ldc2 (v := (-1)) hx hb hown (htw _ (ck_34 _ (List.mem_of_getElem? (i := 18) rfl))) dX11_next_103 ?_
                    refine W.widen (k := 0) (n := 0) (by omega) (by omega) ?_
                    exact W.lret (v := (-1)) hx hb hr (fun t ht hW => ⟨⟨(-1), (), rfl, (xr_next0 (hw_r_134.symm.trans c_135)).symm, trivial⟩, hS.F ht⟩) hS.2.2 dX11_next_106
                  · refine lv_iload hx hb dX11_next_88 (lv_at hl 2 rfl) ?_
                    refine lv_if_eq (tgt := 103) hx hb dX11_next_90 (by decide) (fun _ => ?_) (fun c => absurd c (by decide))
                    refine lv_ldc2 (v := (-1)) hx hb hown (htw _ (ck_34 _ (List.mem_of_getElem? (i := 18) rfl))) dX11_next_103 ?_
                    refine W.widen (k := 0) (n := 0) (by omega) (by omega) ?_
                    exact W.lret (v := (-1)) hx hb hr (fun t ht hW => ⟨⟨(-1), (), rfl, (xr_next1 (fun h => (fun h => h.elim c_1 (fun z => absurd c_113 (Int32.not_lt.mpr z.2))) h.1)).symm, trivial⟩, hS.F ht⟩) hS.2.2 dX11_next_106
                · refine lv_iconst (v := 1) hx hb dX11_next_74 (by decide) ?_
                  refine lv_goto (tgt := 79) hx hb dX11_next_75 (by decide) ?_
                  refine lv_istore (lv' := [(8, .int 1), (7, .int 0), (6, .int 0), (0, .ref x), (1, .long a0), (3, .int a1), (4, .int a2), (5, .int a3)]) hx hb dX11_next_79 hl (by decide) rfl (fun ls hl => ?_)
                  refine lv_lload_n hx hb dX11_next_81 rfl (lv_at hl 4 rfl) ?_
                  have hPc := hP.sub (ws' := []) [] rfl
                  have hKc := hK.sub (tys' := []) [] rfl
                  refine vp_callSi (W.runS (As := [.long a0]) (rest := []) ⟨hx, hb, hml, hown, htw⟩ (mt_isCount l dC dI a0) (va_cwS 1 htw (xg_S (ck_35 _ (List.mem_of_getElem? (i := 15) rfl)) (ck_35 _ (List.mem_of_getElem? (i := 16) rfl)) (ck_1 _ (List.mem_of_getElem? (i := 2) rfl)) (ck_35 _ (List.mem_of_getElem? (i := 17) rfl))) rfl rfl rfl (by decide +kernel) ⟨Nat.le_of_ble_eq_true rfl, Nat.le_of_ble_eq_true rfl⟩) ⟨fun a U g mk q => by obtain ⟨q0, qP, qK⟩ := q; exact ⟨q0, qP, va_K.moved (u := U) (U := U.calling g mk a) (Vm.Alike.refl U.vm) qK⟩, fun U hU hW => ⟨rfl, by rw [hU]; exact hPc, va_K.moved hW.alike hKc⟩⟩ rfl rfl hl.1 rfl (lv_room (Nat.le_of_ble_eq_true rfl)) dX11_next_82 ⟨Nat.le_of_ble_eq_true rfl, Nat.le_of_ble_eq_true rfl⟩) (fun r_136 hw => ?_)
                  try dsimp only at hw
                  have hw_r_136 : r_136 = xg_cnt a0 := hw
                  refine lv_if_eq (tgt := 103) hx hb dX11_next_85 (by decide) (fun c_137 => ?_) (fun c_137 => ?_)
                  · refine lv_ldc2 (v := (-1)) hx hb hown (htw _ (ck_34 _ (List.mem_of_getElem? (i := 18) rfl))) dX11_next_103 ?_
                    refine W.widen (k := 0) (n := 0) (by omega) (by omega) ?_
                    exact W.lret (v := (-1)) hx hb hr (fun t ht hW => ⟨⟨(-1), (), rfl, (xr_next0 (hw_r_136.symm.trans c_137)).symm, trivial⟩, hS.F ht⟩) hS.2.2 dX11_next_106
                  · refine lv_iload hx hb dX11_next_88 (lv_at hl 2 rfl) ?_
                    refine lv_if_eq (tgt := 103) hx hb dX11_next_90 (by decide) (fun _ => ?_) (fun c => absurd c (by decide))
                    refine lv_ldc2 (v := (-1)) hx hb hown (htw _ (ck_34 _ (List.mem_of_getElem? (i := 18) rfl))) dX11_next_103 ?_
                    refine W.widen (k := 0) (n := 0) (by omega) (by omega) ?_
                    exact W.lret (v := (-1)) hx hb hr (fun t ht hW => ⟨⟨(-1), (), rfl, (xr_next1 (fun h => (fun h => h.elim c_1 (fun z => absurd c_113 (Int32.not_lt.mpr z.2))) h.1)).symm, trivial⟩, hS.F ht⟩) hS.2.2 dX11_next_106
          · refine lv_iload hx hb dX11_next_34 (lv_at hl 4 rfl) ?_
            refine lv_aload_n hx hb dX11_next_36 rfl (lv_at hl 1 rfl) ?_
            refine va_get (D := (dC, dI)) (ci := 11) (v := .ref b) (C := RX11) (T := TX11) (N := 13) hx hb htw inlX11 hown hK hP 0 rfl rfl 1 (by decide) (htw _ (ck_1 _ (List.mem_of_getElem? (i := 21) rfl))) (fun _ h9 => h9) rfl dX11_next_37 ?_
            refine va_get (D := (dC, dI)) (ci := 0) (v := .ref bsk) (C := RX0) (T := TX0) (N := 12) hx hb htw inlX0 hown hK hP 1 rfl rfl 3 (by decide) (htw _ (ck_37 _ (List.mem_of_getElem? (i := 13) rfl))) (fun _ h9 => h9) rfl dX11_next_40 ?_
            refine va_get (D := (dC, dI)) (ci := 9) (v := .int 7) (C := RX9) (T := TX9) (N := 7) hx hb htw inlX9 hown hK hP 3 rfl rfl 0 (by decide) (htw _ (ck_48 _ (List.mem_of_getElem? (i := 13) rfl))) (fun _ h9 => h9) rfl dX11_next_43 ?_
            refine lv_icmp_ge (tgt := 53) hx hb dX11_next_46 (by decide) (fun c_138 => ?_) (fun c_138 => ?_)
            · refine lv_iconst (v := 0) hx hb dX11_next_53 (by decide) ?_
              refine lv_istore (lv' := [(7, .int 0), (6, .int 0), (0, .ref x), (1, .long a0), (3, .int a1), (4, .int a2), (5, .int a3)]) hx hb dX11_next_54 hl (by decide) rfl (fun ls hl => ?_)
              refine lv_iload hx hb dX11_next_56 (lv_at hl 6 rfl) ?_
              refine lv_iconst (v := (-1)) hx hb dX11_next_58 (by decide) ?_
              refine lv_icmp_eq (tgt := 74) hx hb dX11_next_59 (by decide) (fun c_139 => ?_) (fun c_139 => ?_)
              · refine lv_iconst (v := 1) hx hb dX11_next_74 (by decide) ?_
                refine lv_goto (tgt := 79) hx hb dX11_next_75 (by decide) ?_
                refine lv_istore (lv' := [(8, .int 1), (7, .int 0), (6, .int 0), (0, .ref x), (1, .long a0), (3, .int a1), (4, .int a2), (5, .int a3)]) hx hb dX11_next_79 hl (by decide) rfl (fun ls hl => ?_)
                refine lv_lload_n hx hb dX11_next_81 rfl (lv_at hl 4 rfl) ?_
                have hPc := hP.sub (ws' := []) [] rfl
                have hKc := hK.sub (tys' := []) [] rfl
                refine vp_callSi (W.runS (As := [.long a0]) (rest := []) ⟨hx, hb, hml, hown, htw⟩ (mt_isCount l dC dI a0) (va_cwS 1 htw (xg_S (ck_35 _ (List.mem_of_getElem? (i := 15) rfl)) (ck_35 _ (List.mem_of_getElem? (i := 16) rfl)) (ck_1 _ (List.mem_of_getElem? (i := 2) rfl)) (ck_35 _ (List.mem_of_getElem? (i := 17) rfl))) rfl rfl rfl (by decide +kernel) ⟨Nat.le_of_ble_eq_true rfl, Nat.le_of_ble_eq_true rfl⟩) ⟨fun a U g mk q => by obtain ⟨q0, qP, qK⟩ := q; exact ⟨q0, qP, va_K.moved (u := U) (U := U.calling g mk a) (Vm.Alike.refl U.vm) qK⟩, fun U hU hW => ⟨rfl, by rw [hU]; exact hPc, va_K.moved hW.alike hKc⟩⟩ rfl rfl hl.1 rfl (lv_room (Nat.le_of_ble_eq_true rfl)) dX11_next_82 ⟨Nat.le_of_ble_eq_true rfl, Nat.le_of_ble_eq_true rfl⟩) (fun r_140 hw => ?_)
                try dsimp only at hw
                have hw_r_140 : r_140 = xg_cnt a0 := hw
                refine lv_if_eq (tgt := 103) hx hb dX11_next_85 (by decide) (fun c_141 => ?_) (fun c_141 => ?_)
                · refine lv_ldc2 (v := (-1)) hx hb hown (htw _ (ck_34 _ (List.mem_of_getElem? (i := 18) rfl))) dX11_next_103 ?_
                  refine W.widen (k := 0) (n := 0) (by omega) (by omega) ?_
                  exact W.lret (v := (-1)) hx hb hr (fun t ht hW => ⟨⟨(-1), (), rfl, (xr_next0 (hw_r_140.symm.trans c_141)).symm, trivial⟩, hS.F ht⟩) hS.2.2 dX11_next_106
                · refine lv_iload hx hb dX11_next_88 (lv_at hl 2 rfl) ?_
                  refine lv_if_eq (tgt := 103) hx hb dX11_next_90 (by decide) (fun _ => ?_) (fun c => absurd c (by decide))
                  refine lv_ldc2 (v := (-1)) hx hb hown (htw _ (ck_34 _ (List.mem_of_getElem? (i := 18) rfl))) dX11_next_103 ?_
                  refine W.widen (k := 0) (n := 0) (by omega) (by omega) ?_
                  exact W.lret (v := (-1)) hx hb hr (fun t ht hW => ⟨⟨(-1), (), rfl, (xr_next1 (fun h => (fun h => h.elim c_1 (fun z => absurd c_113 (Int32.not_lt.mpr z.2))) h.1)).symm, trivial⟩, hS.F ht⟩) hS.2.2 dX11_next_106
              · refine lv_iload hx hb dX11_next_62 (lv_at hl 6 rfl) ?_
                refine lv_if_lt (tgt := 78) hx hb dX11_next_64 (by decide) (fun c_142 => ?_) (fun c_142 => ?_)
                · refine lv_iconst (v := 0) hx hb dX11_next_78 (by decide) ?_
                  refine lv_istore (lv' := [(8, .int 0), (7, .int 0), (6, .int 0), (0, .ref x), (1, .long a0), (3, .int a1), (4, .int a2), (5, .int a3)]) hx hb dX11_next_79 hl (by decide) rfl (fun ls hl => ?_)
                  refine lv_lload_n hx hb dX11_next_81 rfl (lv_at hl 4 rfl) ?_
                  have hPc := hP.sub (ws' := []) [] rfl
                  have hKc := hK.sub (tys' := []) [] rfl
                  refine vp_callSi (W.runS (As := [.long a0]) (rest := []) ⟨hx, hb, hml, hown, htw⟩ (mt_isCount l dC dI a0) (va_cwS 1 htw (xg_S (ck_35 _ (List.mem_of_getElem? (i := 15) rfl)) (ck_35 _ (List.mem_of_getElem? (i := 16) rfl)) (ck_1 _ (List.mem_of_getElem? (i := 2) rfl)) (ck_35 _ (List.mem_of_getElem? (i := 17) rfl))) rfl rfl rfl (by decide +kernel) ⟨Nat.le_of_ble_eq_true rfl, Nat.le_of_ble_eq_true rfl⟩) ⟨fun a U g mk q => by obtain ⟨q0, qP, qK⟩ := q; exact ⟨q0, qP, va_K.moved (u := U) (U := U.calling g mk a) (Vm.Alike.refl U.vm) qK⟩, fun U hU hW => ⟨rfl, by rw [hU]; exact hPc, va_K.moved hW.alike hKc⟩⟩ rfl rfl hl.1 rfl (lv_room (Nat.le_of_ble_eq_true rfl)) dX11_next_82 ⟨Nat.le_of_ble_eq_true rfl, Nat.le_of_ble_eq_true rfl⟩) (fun r_143 hw => ?_)
                  try dsimp only at hw
                  have hw_r_143 : r_143 = xg_cnt a0 := hw
                  refine lv_if_eq (tgt := 103) hx hb dX11_next_85 (by decide) (fun c_144 => ?_) (fun c_144 => ?_)
                  · refine lv_ldc2 (v := (-1)) hx hb hown (htw _ (ck_34 _ (List.mem_of_getElem? (i := 18) rfl))) dX11_next_103 ?_
                    refine W.widen (k := 0) (n := 0) (by omega) (by omega) ?_
                    exact W.lret (v := (-1)) hx hb hr (fun t ht hW => ⟨⟨(-1), (), rfl, (xr_next0 (hw_r_143.symm.trans c_144)).symm, trivial⟩, hS.F ht⟩) hS.2.2 dX11_next_106
                  · refine lv_iload hx hb dX11_next_88 (lv_at hl 2 rfl) ?_
                    refine lv_if_eq (tgt := 103) hx hb dX11_next_90 (by decide) (fun _ => ?_) (fun c => absurd c (by decide))
                    refine lv_ldc2 (v := (-1)) hx hb hown (htw _ (ck_34 _ (List.mem_of_getElem? (i := 18) rfl))) dX11_next_103 ?_
                    refine W.widen (k := 0) (n := 0) (by omega) (by omega) ?_
                    exact W.lret (v := (-1)) hx hb hr (fun t ht hW => ⟨⟨(-1), (), rfl, (xr_next1 (fun h => (fun h => h.elim c_1 (fun z => absurd c_113 (Int32.not_lt.mpr z.2))) h.1)).symm, trivial⟩, hS.F ht⟩) hS.2.2 dX11_next_106
                · refine lv_iload hx hb dX11_next_67 (lv_at hl 6 rfl) ?_
                  refine lv_bipush (v := 7) hx hb dX11_next_69 (by decide) ?_
                  refine lv_icmp_gt (tgt := 78) hx hb dX11_next_71 (by decide) (fun c_145 => ?_) (fun c_145 => ?_)
                  · refine lv_iconst (v := 0) hx hb dX11_next_78 (by decide) ?_
                    refine lv_istore (lv' := [(8, .int 0), (7, .int 0), (6, .int 0), (0, .ref x), (1, .long a0), (3, .int a1), (4, .int a2), (5, .int a3)]) hx hb dX11_next_79 hl (by decide) rfl (fun ls hl => ?_)
                    refine lv_lload_n hx hb dX11_next_81 rfl (lv_at hl 4 rfl) ?_
                    have hPc := hP.sub (ws' := []) [] rfl
                    have hKc := hK.sub (tys' := []) [] rfl
                    refine vp_callSi (W.runS (As := [.long a0]) (rest := []) ⟨hx, hb, hml, hown, htw⟩ (mt_isCount l dC dI a0) (va_cwS 1 htw (xg_S (ck_35 _ (List.mem_of_getElem? (i := 15) rfl)) (ck_35 _ (List.mem_of_getElem? (i := 16) rfl)) (ck_1 _ (List.mem_of_getElem? (i := 2) rfl)) (ck_35 _ (List.mem_of_getElem? (i := 17) rfl))) rfl rfl rfl (by decide +kernel) ⟨Nat.le_of_ble_eq_true rfl, Nat.le_of_ble_eq_true rfl⟩) ⟨fun a U g mk q => by obtain ⟨q0, qP, qK⟩ := q; exact ⟨q0, qP, va_K.moved (u := U) (U := U.calling g mk a) (Vm.Alike.refl U.vm) qK⟩, fun U hU hW => ⟨rfl, by rw [hU]; exact hPc, va_K.moved hW.alike hKc⟩⟩ rfl rfl hl.1 rfl (lv_room (Nat.le_of_ble_eq_true rfl)) dX11_next_82 ⟨Nat.le_of_ble_eq_true rfl, Nat.le_of_ble_eq_true rfl⟩) (fun r_146 hw => ?_)
                    try dsimp only at hw
                    have hw_r_146 : r_146 = xg_cnt a0 := hw
                    refine lv_if_eq (tgt := 103) hx hb dX11_next_85 (by decide) (fun c_147 => ?_) (fun c_147 => ?_)
                    · refine lv_ldc2 (v := (-1)) hx hb hown (htw _ (ck_34 _ (List.mem_of_getElem? (i := 18) rfl))) dX11_next_103 ?_
                      refine W.widen (k := 0) (n := 0) (by omega) (by omega) ?_
                      exact W.lret (v := (-1)) hx hb hr (fun t ht hW => ⟨⟨(-1), (), rfl, (xr_next0 (hw_r_146.symm.trans c_147)).symm, trivial⟩, hS.F ht⟩) hS.2.2 dX11_next_106
                    · refine lv_iload hx hb dX11_next_88 (lv_at hl 2 rfl) ?_
                      refine lv_if_eq (tgt := 103) hx hb dX11_next_90 (by decide) (fun _ => ?_) (fun c => absurd c (by decide))
                      refine lv_ldc2 (v := (-1)) hx hb hown (htw _ (ck_34 _ (List.mem_of_getElem? (i := 18) rfl))) dX11_next_103 ?_
                      refine W.widen (k := 0) (n := 0) (by omega) (by omega) ?_
                      exact W.lret (v := (-1)) hx hb hr (fun t ht hW => ⟨⟨(-1), (), rfl, (xr_next1 (fun h => (fun h => h.elim c_1 (fun z => absurd c_113 (Int32.not_lt.mpr z.2))) h.1)).symm, trivial⟩, hS.F ht⟩) hS.2.2 dX11_next_106
                  · refine lv_iconst (v := 1) hx hb dX11_next_74 (by decide) ?_
                    refine lv_goto (tgt := 79) hx hb dX11_next_75 (by decide) ?_
                    refine lv_istore (lv' := [(8, .int 1), (7, .int 0), (6, .int 0), (0, .ref x), (1, .long a0), (3, .int a1), (4, .int a2), (5, .int a3)]) hx hb dX11_next_79 hl (by decide) rfl (fun ls hl => ?_)
                    refine lv_lload_n hx hb dX11_next_81 rfl (lv_at hl 4 rfl) ?_
                    have hPc := hP.sub (ws' := []) [] rfl
                    have hKc := hK.sub (tys' := []) [] rfl
                    refine vp_callSi (W.runS (As := [.long a0]) (rest := []) ⟨hx, hb, hml, hown, htw⟩ (mt_isCount l dC dI a0) (va_cwS 1 htw (xg_S (ck_35 _ (List.mem_of_getElem? (i := 15) rfl)) (ck_35 _ (List.mem_of_getElem? (i := 16) rfl)) (ck_1 _ (List.mem_of_getElem? (i := 2) rfl)) (ck_35 _ (List.mem_of_getElem? (i := 17) rfl))) rfl rfl rfl (by decide +kernel) ⟨Nat.le_of_ble_eq_true rfl, Nat.le_of_ble_eq_true rfl⟩) ⟨fun a U g mk q => by obtain ⟨q0, qP, qK⟩ := q; exact ⟨q0, qP, va_K.moved (u := U) (U := U.calling g mk a) (Vm.Alike.refl U.vm) qK⟩, fun U hU hW => ⟨rfl, by rw [hU]; exact hPc, va_K.moved hW.alike hKc⟩⟩ rfl rfl hl.1 rfl (lv_room (Nat.le_of_ble_eq_true rfl)) dX11_next_82 ⟨Nat.le_of_ble_eq_true rfl, Nat.le_of_ble_eq_true rfl⟩) (fun r_148 hw => ?_)
                    try dsimp only at hw
                    have hw_r_148 : r_148 = xg_cnt a0 := hw
                    refine lv_if_eq (tgt := 103) hx hb dX11_next_85 (by decide) (fun c_149 => ?_) (fun c_149 => ?_)
                    · refine lv_ldc2 (v := (-1)) hx hb hown (htw _ (ck_34 _ (List.mem_of_getElem? (i := 18) rfl))) dX11_next_103 ?_
                      refine W.widen (k := 0) (n := 0) (by omega) (by omega) ?_
                      exact W.lret (v := (-1)) hx hb hr (fun t ht hW => ⟨⟨(-1), (), rfl, (xr_next0 (hw_r_148.symm.trans c_149)).symm, trivial⟩, hS.F ht⟩) hS.2.2 dX11_next_106
                    · refine lv_iload hx hb dX11_next_88 (lv_at hl 2 rfl) ?_
                      refine lv_if_eq (tgt := 103) hx hb dX11_next_90 (by decide) (fun _ => ?_) (fun c => absurd c (by decide))
                      refine lv_ldc2 (v := (-1)) hx hb hown (htw _ (ck_34 _ (List.mem_of_getElem? (i := 18) rfl))) dX11_next_103 ?_
                      refine W.widen (k := 0) (n := 0) (by omega) (by omega) ?_
                      exact W.lret (v := (-1)) hx hb hr (fun t ht hW => ⟨⟨(-1), (), rfl, (xr_next1 (fun h => (fun h => h.elim c_1 (fun z => absurd c_113 (Int32.not_lt.mpr z.2))) h.1)).symm, trivial⟩, hS.F ht⟩) hS.2.2 dX11_next_106
            · refine lv_iconst (v := 1) hx hb dX11_next_49 (by decide) ?_
              refine lv_goto (tgt := 54) hx hb dX11_next_50 (by decide) ?_
              refine lv_istore (lv' := [(7, .int 1), (6, .int 0), (0, .ref x), (1, .long a0), (3, .int a1), (4, .int a2), (5, .int a3)]) hx hb dX11_next_54 hl (by decide) rfl (fun ls hl => ?_)
              refine lv_iload hx hb dX11_next_56 (lv_at hl 6 rfl) ?_
              refine lv_iconst (v := (-1)) hx hb dX11_next_58 (by decide) ?_
              refine lv_icmp_eq (tgt := 74) hx hb dX11_next_59 (by decide) (fun c_150 => ?_) (fun c_150 => ?_)
              · refine lv_iconst (v := 1) hx hb dX11_next_74 (by decide) ?_
                refine lv_goto (tgt := 79) hx hb dX11_next_75 (by decide) ?_
                refine lv_istore (lv' := [(8, .int 1), (7, .int 1), (6, .int 0), (0, .ref x), (1, .long a0), (3, .int a1), (4, .int a2), (5, .int a3)]) hx hb dX11_next_79 hl (by decide) rfl (fun ls hl => ?_)
                refine lv_lload_n hx hb dX11_next_81 rfl (lv_at hl 4 rfl) ?_
                have hPc := hP.sub (ws' := []) [] rfl
                have hKc := hK.sub (tys' := []) [] rfl
                refine vp_callSi (W.runS (As := [.long a0]) (rest := []) ⟨hx, hb, hml, hown, htw⟩ (mt_isCount l dC dI a0) (va_cwS 1 htw (xg_S (ck_35 _ (List.mem_of_getElem? (i := 15) rfl)) (ck_35 _ (List.mem_of_getElem? (i := 16) rfl)) (ck_1 _ (List.mem_of_getElem? (i := 2) rfl)) (ck_35 _ (List.mem_of_getElem? (i := 17) rfl))) rfl rfl rfl (by decide +kernel) ⟨Nat.le_of_ble_eq_true rfl, Nat.le_of_ble_eq_true rfl⟩) ⟨fun a U g mk q => by obtain ⟨q0, qP, qK⟩ := q; exact ⟨q0, qP, va_K.moved (u := U) (U := U.calling g mk a) (Vm.Alike.refl U.vm) qK⟩, fun U hU hW => ⟨rfl, by rw [hU]; exact hPc, va_K.moved hW.alike hKc⟩⟩ rfl rfl hl.1 rfl (lv_room (Nat.le_of_ble_eq_true rfl)) dX11_next_82 ⟨Nat.le_of_ble_eq_true rfl, Nat.le_of_ble_eq_true rfl⟩) (fun r_151 hw => ?_)
                try dsimp only at hw
                have hw_r_151 : r_151 = xg_cnt a0 := hw
                refine lv_if_eq (tgt := 103) hx hb dX11_next_85 (by decide) (fun c_152 => ?_) (fun c_152 => ?_)
                · refine lv_ldc2 (v := (-1)) hx hb hown (htw _ (ck_34 _ (List.mem_of_getElem? (i := 18) rfl))) dX11_next_103 ?_
                  refine W.widen (k := 0) (n := 0) (by omega) (by omega) ?_
                  exact W.lret (v := (-1)) hx hb hr (fun t ht hW => ⟨⟨(-1), (), rfl, (xr_next0 (hw_r_151.symm.trans c_152)).symm, trivial⟩, hS.F ht⟩) hS.2.2 dX11_next_106
                · refine lv_iload hx hb dX11_next_88 (lv_at hl 2 rfl) ?_
                  refine lv_if_eq (tgt := 103) hx hb dX11_next_90 (by decide) (fun _ => ?_) (fun c => absurd c (by decide))
                  refine lv_ldc2 (v := (-1)) hx hb hown (htw _ (ck_34 _ (List.mem_of_getElem? (i := 18) rfl))) dX11_next_103 ?_
                  refine W.widen (k := 0) (n := 0) (by omega) (by omega) ?_
                  exact W.lret (v := (-1)) hx hb hr (fun t ht hW => ⟨⟨(-1), (), rfl, (xr_next1 (fun h => (fun h => h.elim c_1 (fun z => absurd c_113 (Int32.not_lt.mpr z.2))) h.1)).symm, trivial⟩, hS.F ht⟩) hS.2.2 dX11_next_106
              · refine lv_iload hx hb dX11_next_62 (lv_at hl 6 rfl) ?_
                refine lv_if_lt (tgt := 78) hx hb dX11_next_64 (by decide) (fun c_153 => ?_) (fun c_153 => ?_)
                · refine lv_iconst (v := 0) hx hb dX11_next_78 (by decide) ?_
                  refine lv_istore (lv' := [(8, .int 0), (7, .int 1), (6, .int 0), (0, .ref x), (1, .long a0), (3, .int a1), (4, .int a2), (5, .int a3)]) hx hb dX11_next_79 hl (by decide) rfl (fun ls hl => ?_)
                  refine lv_lload_n hx hb dX11_next_81 rfl (lv_at hl 4 rfl) ?_
                  have hPc := hP.sub (ws' := []) [] rfl
                  have hKc := hK.sub (tys' := []) [] rfl
                  refine vp_callSi (W.runS (As := [.long a0]) (rest := []) ⟨hx, hb, hml, hown, htw⟩ (mt_isCount l dC dI a0) (va_cwS 1 htw (xg_S (ck_35 _ (List.mem_of_getElem? (i := 15) rfl)) (ck_35 _ (List.mem_of_getElem? (i := 16) rfl)) (ck_1 _ (List.mem_of_getElem? (i := 2) rfl)) (ck_35 _ (List.mem_of_getElem? (i := 17) rfl))) rfl rfl rfl (by decide +kernel) ⟨Nat.le_of_ble_eq_true rfl, Nat.le_of_ble_eq_true rfl⟩) ⟨fun a U g mk q => by obtain ⟨q0, qP, qK⟩ := q; exact ⟨q0, qP, va_K.moved (u := U) (U := U.calling g mk a) (Vm.Alike.refl U.vm) qK⟩, fun U hU hW => ⟨rfl, by rw [hU]; exact hPc, va_K.moved hW.alike hKc⟩⟩ rfl rfl hl.1 rfl (lv_room (Nat.le_of_ble_eq_true rfl)) dX11_next_82 ⟨Nat.le_of_ble_eq_true rfl, Nat.le_of_ble_eq_true rfl⟩) (fun r_154 hw => ?_)
                  try dsimp only at hw
                  have hw_r_154 : r_154 = xg_cnt a0 := hw
                  refine lv_if_eq (tgt := 103) hx hb dX11_next_85 (by decide) (fun c_155 => ?_) (fun c_155 => ?_)
                  · refine lv_ldc2 (v := (-1)) hx hb hown (htw _ (ck_34 _ (List.mem_of_getElem? (i := 18) rfl))) dX11_next_103 ?_
                    refine W.widen (k := 0) (n := 0) (by omega) (by omega) ?_
                    exact W.lret (v := (-1)) hx hb hr (fun t ht hW => ⟨⟨(-1), (), rfl, (xr_next0 (hw_r_154.symm.trans c_155)).symm, trivial⟩, hS.F ht⟩) hS.2.2 dX11_next_106
                  · refine lv_iload hx hb dX11_next_88 (lv_at hl 2 rfl) ?_
                    refine lv_if_eq (tgt := 103) hx hb dX11_next_90 (by decide) (fun _ => ?_) (fun c => absurd c (by decide))
                    refine lv_ldc2 (v := (-1)) hx hb hown (htw _ (ck_34 _ (List.mem_of_getElem? (i := 18) rfl))) dX11_next_103 ?_
                    refine W.widen (k := 0) (n := 0) (by omega) (by omega) ?_
                    exact W.lret (v := (-1)) hx hb hr (fun t ht hW => ⟨⟨(-1), (), rfl, (xr_next1 (fun h => (fun h => h.elim c_1 (fun z => absurd c_113 (Int32.not_lt.mpr z.2))) h.1)).symm, trivial⟩, hS.F ht⟩) hS.2.2 dX11_next_106
                · refine lv_iload hx hb dX11_next_67 (lv_at hl 6 rfl) ?_
                  refine lv_bipush (v := 7) hx hb dX11_next_69 (by decide) ?_
                  refine lv_icmp_gt (tgt := 78) hx hb dX11_next_71 (by decide) (fun c_156 => ?_) (fun c_156 => ?_)
                  · refine lv_iconst (v := 0) hx hb dX11_next_78 (by decide) ?_
                    refine lv_istore (lv' := [(8, .int 0), (7, .int 1), (6, .int 0), (0, .ref x), (1, .long a0), (3, .int a1), (4, .int a2), (5, .int a3)]) hx hb dX11_next_79 hl (by decide) rfl (fun ls hl => ?_)
                    refine lv_lload_n hx hb dX11_next_81 rfl (lv_at hl 4 rfl) ?_
                    have hPc := hP.sub (ws' := []) [] rfl
                    have hKc := hK.sub (tys' := []) [] rfl
                    refine vp_callSi (W.runS (As := [.long a0]) (rest := []) ⟨hx, hb, hml, hown, htw⟩ (mt_isCount l dC dI a0) (va_cwS 1 htw (xg_S (ck_35 _ (List.mem_of_getElem? (i := 15) rfl)) (ck_35 _ (List.mem_of_getElem? (i := 16) rfl)) (ck_1 _ (List.mem_of_getElem? (i := 2) rfl)) (ck_35 _ (List.mem_of_getElem? (i := 17) rfl))) rfl rfl rfl (by decide +kernel) ⟨Nat.le_of_ble_eq_true rfl, Nat.le_of_ble_eq_true rfl⟩) ⟨fun a U g mk q => by obtain ⟨q0, qP, qK⟩ := q; exact ⟨q0, qP, va_K.moved (u := U) (U := U.calling g mk a) (Vm.Alike.refl U.vm) qK⟩, fun U hU hW => ⟨rfl, by rw [hU]; exact hPc, va_K.moved hW.alike hKc⟩⟩ rfl rfl hl.1 rfl (lv_room (Nat.le_of_ble_eq_true rfl)) dX11_next_82 ⟨Nat.le_of_ble_eq_true rfl, Nat.le_of_ble_eq_true rfl⟩) (fun r_157 hw => ?_)
                    try dsimp only at hw
                    have hw_r_157 : r_157 = xg_cnt a0 := hw
                    refine lv_if_eq (tgt := 103) hx hb dX11_next_85 (by decide) (fun c_158 => ?_) (fun c_158 => ?_)
                    · refine lv_ldc2 (v := (-1)) hx hb hown (htw _ (ck_34 _ (List.mem_of_getElem? (i := 18) rfl))) dX11_next_103 ?_
                      refine W.widen (k := 0) (n := 0) (by omega) (by omega) ?_
                      exact W.lret (v := (-1)) hx hb hr (fun t ht hW => ⟨⟨(-1), (), rfl, (xr_next0 (hw_r_157.symm.trans c_158)).symm, trivial⟩, hS.F ht⟩) hS.2.2 dX11_next_106
                    · refine lv_iload hx hb dX11_next_88 (lv_at hl 2 rfl) ?_
                      refine lv_if_eq (tgt := 103) hx hb dX11_next_90 (by decide) (fun _ => ?_) (fun c => absurd c (by decide))
                      refine lv_ldc2 (v := (-1)) hx hb hown (htw _ (ck_34 _ (List.mem_of_getElem? (i := 18) rfl))) dX11_next_103 ?_
                      refine W.widen (k := 0) (n := 0) (by omega) (by omega) ?_
                      exact W.lret (v := (-1)) hx hb hr (fun t ht hW => ⟨⟨(-1), (), rfl, (xr_next1 (fun h => (fun h => h.elim c_1 (fun z => absurd c_113 (Int32.not_lt.mpr z.2))) h.1)).symm, trivial⟩, hS.F ht⟩) hS.2.2 dX11_next_106
                  · refine lv_iconst (v := 1) hx hb dX11_next_74 (by decide) ?_
                    refine lv_goto (tgt := 79) hx hb dX11_next_75 (by decide) ?_
                    refine lv_istore (lv' := [(8, .int 1), (7, .int 1), (6, .int 0), (0, .ref x), (1, .long a0), (3, .int a1), (4, .int a2), (5, .int a3)]) hx hb dX11_next_79 hl (by decide) rfl (fun ls hl => ?_)
                    refine lv_lload_n hx hb dX11_next_81 rfl (lv_at hl 4 rfl) ?_
                    have hPc := hP.sub (ws' := []) [] rfl
                    have hKc := hK.sub (tys' := []) [] rfl
                    refine vp_callSi (W.runS (As := [.long a0]) (rest := []) ⟨hx, hb, hml, hown, htw⟩ (mt_isCount l dC dI a0) (va_cwS 1 htw (xg_S (ck_35 _ (List.mem_of_getElem? (i := 15) rfl)) (ck_35 _ (List.mem_of_getElem? (i := 16) rfl)) (ck_1 _ (List.mem_of_getElem? (i := 2) rfl)) (ck_35 _ (List.mem_of_getElem? (i := 17) rfl))) rfl rfl rfl (by decide +kernel) ⟨Nat.le_of_ble_eq_true rfl, Nat.le_of_ble_eq_true rfl⟩) ⟨fun a U g mk q => by obtain ⟨q0, qP, qK⟩ := q; exact ⟨q0, qP, va_K.moved (u := U) (U := U.calling g mk a) (Vm.Alike.refl U.vm) qK⟩, fun U hU hW => ⟨rfl, by rw [hU]; exact hPc, va_K.moved hW.alike hKc⟩⟩ rfl rfl hl.1 rfl (lv_room (Nat.le_of_ble_eq_true rfl)) dX11_next_82 ⟨Nat.le_of_ble_eq_true rfl, Nat.le_of_ble_eq_true rfl⟩) (fun r_159 hw => ?_)
                    try dsimp only at hw
                    have hw_r_159 : r_159 = xg_cnt a0 := hw
                    refine lv_if_eq (tgt := 103) hx hb dX11_next_85 (by decide) (fun c_160 => ?_) (fun c_160 => ?_)
                    · refine lv_ldc2 (v := (-1)) hx hb hown (htw _ (ck_34 _ (List.mem_of_getElem? (i := 18) rfl))) dX11_next_103 ?_
                      refine W.widen (k := 0) (n := 0) (by omega) (by omega) ?_
                      exact W.lret (v := (-1)) hx hb hr (fun t ht hW => ⟨⟨(-1), (), rfl, (xr_next0 (hw_r_159.symm.trans c_160)).symm, trivial⟩, hS.F ht⟩) hS.2.2 dX11_next_106
                    · refine lv_iload hx hb dX11_next_88 (lv_at hl 2 rfl) ?_
                      refine lv_if_eq (tgt := 103) hx hb dX11_next_90 (by decide) (fun _ => ?_) (fun c => absurd c (by decide))
                      refine lv_ldc2 (v := (-1)) hx hb hown (htw _ (ck_34 _ (List.mem_of_getElem? (i := 18) rfl))) dX11_next_103 ?_
                      refine W.widen (k := 0) (n := 0) (by omega) (by omega) ?_
                      exact W.lret (v := (-1)) hx hb hr (fun t ht hW => ⟨⟨(-1), (), rfl, (xr_next1 (fun h => (fun h => h.elim c_1 (fun z => absurd c_113 (Int32.not_lt.mpr z.2))) h.1)).symm, trivial⟩, hS.F ht⟩) hS.2.2 dX11_next_106
      · refine lv_iconst (v := 1) hx hb dX11_next_16 (by decide) ?_
        refine lv_goto (tgt := 21) hx hb dX11_next_17 (by decide) ?_
        refine lv_istore (lv' := [(6, .int 1), (0, .ref x), (1, .long a0), (3, .int a1), (4, .int a2), (5, .int a3)]) hx hb dX11_next_21 hl (by decide) rfl (fun ls hl => ?_)
        refine lv_iload hx hb dX11_next_23 (lv_at hl 4 rfl) ?_
        refine lv_iconst (v := (-1)) hx hb dX11_next_25 (by decide) ?_
        refine lv_icmp_eq (tgt := 49) hx hb dX11_next_26 (by decide) (fun c_161 => ?_) (fun c_161 => ?_)
        · refine lv_iconst (v := 1) hx hb dX11_next_49 (by decide) ?_
          refine lv_goto (tgt := 54) hx hb dX11_next_50 (by decide) ?_
          refine lv_istore (lv' := [(7, .int 1), (6, .int 1), (0, .ref x), (1, .long a0), (3, .int a1), (4, .int a2), (5, .int a3)]) hx hb dX11_next_54 hl (by decide) rfl (fun ls hl => ?_)
          refine lv_iload hx hb dX11_next_56 (lv_at hl 6 rfl) ?_
          refine lv_iconst (v := (-1)) hx hb dX11_next_58 (by decide) ?_
          refine lv_icmp_eq (tgt := 74) hx hb dX11_next_59 (by decide) (fun c_162 => ?_) (fun c_162 => ?_)
          · refine lv_iconst (v := 1) hx hb dX11_next_74 (by decide) ?_
            refine lv_goto (tgt := 79) hx hb dX11_next_75 (by decide) ?_
            refine lv_istore (lv' := [(8, .int 1), (7, .int 1), (6, .int 1), (0, .ref x), (1, .long a0), (3, .int a1), (4, .int a2), (5, .int a3)]) hx hb dX11_next_79 hl (by decide) rfl (fun ls hl => ?_)
            refine lv_lload_n hx hb dX11_next_81 rfl (lv_at hl 4 rfl) ?_
            have hPc := hP.sub (ws' := []) [] rfl
            have hKc := hK.sub (tys' := []) [] rfl
            refine vp_callSi (W.runS (As := [.long a0]) (rest := []) ⟨hx, hb, hml, hown, htw⟩ (mt_isCount l dC dI a0) (va_cwS 1 htw (xg_S (ck_35 _ (List.mem_of_getElem? (i := 15) rfl)) (ck_35 _ (List.mem_of_getElem? (i := 16) rfl)) (ck_1 _ (List.mem_of_getElem? (i := 2) rfl)) (ck_35 _ (List.mem_of_getElem? (i := 17) rfl))) rfl rfl rfl (by decide +kernel) ⟨Nat.le_of_ble_eq_true rfl, Nat.le_of_ble_eq_true rfl⟩) ⟨fun a U g mk q => by obtain ⟨q0, qP, qK⟩ := q; exact ⟨q0, qP, va_K.moved (u := U) (U := U.calling g mk a) (Vm.Alike.refl U.vm) qK⟩, fun U hU hW => ⟨rfl, by rw [hU]; exact hPc, va_K.moved hW.alike hKc⟩⟩ rfl rfl hl.1 rfl (lv_room (Nat.le_of_ble_eq_true rfl)) dX11_next_82 ⟨Nat.le_of_ble_eq_true rfl, Nat.le_of_ble_eq_true rfl⟩) (fun r_163 hw => ?_)
            try dsimp only at hw
            have hw_r_163 : r_163 = xg_cnt a0 := hw
            refine lv_if_eq (tgt := 103) hx hb dX11_next_85 (by decide) (fun c_164 => ?_) (fun c_164 => ?_)
            · refine lv_ldc2 (v := (-1)) hx hb hown (htw _ (ck_34 _ (List.mem_of_getElem? (i := 18) rfl))) dX11_next_103 ?_
              refine W.widen (k := 0) (n := 0) (by omega) (by omega) ?_
              exact W.lret (v := (-1)) hx hb hr (fun t ht hW => ⟨⟨(-1), (), rfl, (xr_next0 (hw_r_163.symm.trans c_164)).symm, trivial⟩, hS.F ht⟩) hS.2.2 dX11_next_106
            · refine lv_iload hx hb dX11_next_88 (lv_at hl 2 rfl) ?_
              refine lv_if_eq (tgt := 103) hx hb dX11_next_90 (by decide) (fun c => absurd c (by decide)) (fun _ => ?_)
              refine lv_iload hx hb dX11_next_93 (lv_at hl 1 rfl) ?_
              refine lv_if_eq (tgt := 103) hx hb dX11_next_95 (by decide) (fun c => absurd c (by decide)) (fun _ => ?_)
              refine lv_iload hx hb dX11_next_98 (lv_at hl 0 rfl) ?_
              refine lv_if_ne (tgt := 107) hx hb dX11_next_100 (by decide) (fun _ => ?_) (fun c => absurd c (by decide))
              have hask : xr_ask a1 a2 a3 := ⟨Or.inr ⟨Int32.not_lt.mp c_65, Int32.not_lt.mp c_113⟩, Or.inl c_161, Or.inl c_162⟩
              have hok := xr_ask_ok hask
              refine lv_aload_n hx hb dX11_next_107 rfl (lv_at hl 3 rfl) ?_
              refine va_get (D := (dC, dI)) (ci := 11) (v := .ref xwi) (C := RX11) (T := TX11) (N := 13) hx hb htw inlX11 hown hK hP 0 rfl rfl 12 (by decide) (htw _ (ck_2 _ (List.mem_of_getElem? (i := 22) rfl))) (fun _ h9 => h9) rfl dX11_next_108 ?_
              have hPc := hP.sub (ws' := [(xwi, .inr (10, [.int 0, .int 0, .int 0, .int 0, .int 0]))]) [4] rfl
              have hKc := hK.sub (tys' := []) [] rfl
              have hDc := hD.sub (ws' := [(xwi, .inr (10, [.int 0, .int 0, .int 0, .int 0, .int 0]))]) [4] (by decide) rfl
              have hFc := va_free (wc := [(xwi, .inr (10, [.int 0, .int 0, .int 0, .int 0, .int 0]))]) hD hS hA [4] rfl
              refine va_callv (va_runV (As := []) (rest := []) ⟨hx, hb, hml, hown, htw⟩ (mt_wclear l dC dI xwi (0 : Int32) (0 : Int32) (0 : Int32) (0 : Int32) (0 : Int32) H.size) (cwV 0 htw (xg_V (ck_42 _ (List.mem_of_getElem? (i := 4) rfl)) (ck_42 _ (List.mem_of_getElem? (i := 5) rfl)) (ck_42 _ (List.mem_of_getElem? (i := 6) rfl)) (ck_2 _ (List.mem_of_getElem? (i := 21) rfl)) (ck_42 _ (List.mem_of_getElem? (i := 7) rfl))) rfl rfl rfl (by decide +kernel) ⟨Nat.le_of_ble_eq_true rfl, Nat.le_of_ble_eq_true rfl⟩) ⟨fun a U g mk q => by obtain ⟨q0, q1, qP, qK, qD⟩ := q; exact ⟨q0, q1, qP, va_K.moved (u := U) (U := U.calling g mk a) (Vm.Alike.refl U.vm) qK, qD⟩, va_recv hKc hPc (ci := 10) (q0 := 0) rfl rfl, fun U hU hW => ⟨rfl, by rw [hU], by rw [hU]; exact hPc, va_K.moved hW.alike hKc, hDc.weaken (fun _ _ _ _ => trivial)⟩⟩ rfl rfl hl.1 rfl (lv_room (Nat.le_of_ble_eq_true rfl)) dX11_next_111 ⟨Nat.le_of_ble_eq_true rfl, Nat.le_of_ble_eq_true rfl⟩) hS (fun q _ h => hFc q h) hFc (fun u_166 t H1 locs ht hvm hw hB hz1 hk1 hS => ?_)
              try dsimp only at hw
              obtain ⟨hP1, hK1, hD1⟩ := hB
              rw [ht] at hP1
              have hK1 := va_K.moved hvm.symm hK1
              have hP1 : va_P (dC, dI) vwCl [(xwi, .inr (10, [.int (-1), .int (-1), .int (-1), .int (-1), .int (-1)]))] H1 := hP1
              have hD1 : va_D (va_A [(xwi, .inr (10, [.int 0, .int 0, .int 0, .int 0, .int 0]))] H.size) [(xwi, .inr (10, [.int (-1), .int (-1), .int (-1), .int (-1), .int (-1)]))] := hD1
              have hK1 : va_K (dC, dI) vwCl [] s := hK1
              obtain ⟨hP, hD⟩ := va_join (wr := [(x, .inr (11, [.ref xpa, .ref b, .ref xsp, .ref xdy, .ref xle, .ref xst, .int 0, .ref xim, .ref xil, .int 0, .ref xmo, .ref xom, .ref xwi])), (b, .inr (0, [.ref bto, .ref bnm, .ref bla, .ref bsk, .ref bru, .ref bbo, .ref bdi, .ref bda, .ref bdk, .ref bdt, .ref bdp, .ref bno])), (bto, .inl (bcT, 5, .inl (fun _ => 0))), (bsk, .inr (9, [.int 7, .int 0, .int 59, .int 2, .int 0, .int 1461, .int 4])), (xmo, .inr (4, [.null, .long 0, .long 0, .long 0, .long 0]))]) (w1 := [(xwi, .inr (10, [.int (-1), .int (-1), .int (-1), .int (-1), .int (-1)]))]) hP hD [4] [0, 1, 2, 3, 5] rfl rfl (by decide) (by decide) hk1 hFc hP1 hD1
              generalize H1 = H at hP hS ⊢
              have hP : va_P (dC, dI) vwCl [(x, .inr (11, [.ref xpa, .ref b, .ref xsp, .ref xdy, .ref xle, .ref xst, .int 0, .ref xim, .ref xil, .int 0, .ref xmo, .ref xom, .ref xwi])), (b, .inr (0, [.ref bto, .ref bnm, .ref bla, .ref bsk, .ref bru, .ref bbo, .ref bdi, .ref bda, .ref bdk, .ref bdt, .ref bdp, .ref bno])), (bto, .inl (bcT, 5, .inl (fun _ => 0))), (bsk, .inr (9, [.int 7, .int 0, .int 59, .int 2, .int 0, .int 1461, .int 4])), (xmo, .inr (4, [.null, .long 0, .long 0, .long 0, .long 0])), (xwi, .inr (10, [.int (-1), .int (-1), .int (-1), .int (-1), .int (-1)]))] H := hP
              have hD : va_D A [(x, .inr (11, [.ref xpa, .ref b, .ref xsp, .ref xdy, .ref xle, .ref xst, .int 0, .ref xim, .ref xil, .int 0, .ref xmo, .ref xom, .ref xwi])), (b, .inr (0, [.ref bto, .ref bnm, .ref bla, .ref bsk, .ref bru, .ref bbo, .ref bdi, .ref bda, .ref bdk, .ref bdt, .ref bdp, .ref bno])), (bto, .inl (bcT, 5, .inl (fun _ => 0))), (bsk, .inr (9, [.int 7, .int 0, .int 59, .int 2, .int 0, .int 1461, .int 4])), (xmo, .inr (4, [.null, .long 0, .long 0, .long 0, .long 0])), (xwi, .inr (10, [.int (-1), .int (-1), .int (-1), .int (-1), .int (-1)]))] := hD
              refine W.widen (k := 0) (n := 0) (by omega) (by omega) ?_
              refine lv_aload_n hx hb dX11_next_114 rfl (lv_at hl 3 rfl) ?_
              refine va_get (D := (dC, dI)) (ci := 11) (v := .ref xwi) (C := RX11) (T := TX11) (N := 13) hx hb htw inlX11 hown hK hP 0 rfl rfl 12 (by decide) (htw _ (ck_2 _ (List.mem_of_getElem? (i := 22) rfl))) (fun _ h9 => h9) rfl dX11_next_115 ?_
              refine lv_iload_n hx hb dX11_next_118 rfl (lv_at hl 5 rfl) ?_
              refine va_put (D := (dC, dI)) (ci := 10) (v := .int a1) (ty := tyX10 0) (C := RX10) (T := TX10) (N := 5) hx hb htw inlX10 tyX10 tyX10_ok nmX10 hown hK hP hD hS 5 rfl rfl 0 (by decide) (htw _ (ck_48 _ (List.mem_of_getElem? (i := 14) rfl))) (fun _ h9 => h9) rfl (by decide +kernel) rfl rfl (Nat.le_of_ble_eq_true rfl) dX11_next_119 (fun H locs hP hD hS => ?_)
              have hP : va_P (dC, dI) vwCl [(x, .inr (11, [.ref xpa, .ref b, .ref xsp, .ref xdy, .ref xle, .ref xst, .int 0, .ref xim, .ref xil, .int 0, .ref xmo, .ref xom, .ref xwi])), (b, .inr (0, [.ref bto, .ref bnm, .ref bla, .ref bsk, .ref bru, .ref bbo, .ref bdi, .ref bda, .ref bdk, .ref bdt, .ref bdp, .ref bno])), (bto, .inl (bcT, 5, .inl (fun _ => 0))), (bsk, .inr (9, [.int 7, .int 0, .int 59, .int 2, .int 0, .int 1461, .int 4])), (xmo, .inr (4, [.null, .long 0, .long 0, .long 0, .long 0])), (xwi, .inr (10, [.int a1, .int (-1), .int (-1), .int (-1), .int (-1)]))] H := hP
              have hD : va_D A [(x, .inr (11, [.ref xpa, .ref b, .ref xsp, .ref xdy, .ref xle, .ref xst, .int 0, .ref xim, .ref xil, .int 0, .ref xmo, .ref xom, .ref xwi])), (b, .inr (0, [.ref bto, .ref bnm, .ref bla, .ref bsk, .ref bru, .ref bbo, .ref bdi, .ref bda, .ref bdk, .ref bdt, .ref bdp, .ref bno])), (bto, .inl (bcT, 5, .inl (fun _ => 0))), (bsk, .inr (9, [.int 7, .int 0, .int 59, .int 2, .int 0, .int 1461, .int 4])), (xmo, .inr (4, [.null, .long 0, .long 0, .long 0, .long 0])), (xwi, .inr (10, [.int a1, .int (-1), .int (-1), .int (-1), .int (-1)]))] := hD
              refine lv_aload_n hx hb dX11_next_122 rfl (lv_at hl 3 rfl) ?_
              refine va_get (D := (dC, dI)) (ci := 11) (v := .ref xwi) (C := RX11) (T := TX11) (N := 13) hx hb htw inlX11 hown hK hP 0 rfl rfl 12 (by decide) (htw _ (ck_2 _ (List.mem_of_getElem? (i := 22) rfl))) (fun _ h9 => h9) rfl dX11_next_123 ?_
              refine lv_iload hx hb dX11_next_126 (lv_at hl 6 rfl) ?_
              refine va_put (D := (dC, dI)) (ci := 10) (v := .int a2) (ty := tyX10 1) (C := RX10) (T := TX10) (N := 5) hx hb htw inlX10 tyX10 tyX10_ok nmX10 hown hK hP hD hS 5 rfl rfl 1 (by decide) (htw _ (ck_48 _ (List.mem_of_getElem? (i := 15) rfl))) (fun _ h9 => h9) rfl (by decide +kernel) rfl rfl (Nat.le_of_ble_eq_true rfl) dX11_next_128 (fun H locs hP hD hS => ?_)
              have hP : va_P (dC, dI) vwCl [(x, .inr (11, [.ref xpa, .ref b, .ref xsp, .ref xdy, .ref xle, .ref xst, .int 0, .ref xim, .ref xil, .int 0, .ref xmo, .ref xom, .ref xwi])), (b, .inr (0, [.ref bto, .ref bnm, .ref bla, .ref bsk, .ref bru, .ref bbo, .ref bdi, .ref bda, .ref bdk, .ref bdt, .ref bdp, .ref bno])), (bto, .inl (bcT, 5, .inl (fun _ => 0))), (bsk, .inr (9, [.int 7, .int 0, .int 59, .int 2, .int 0, .int 1461, .int 4])), (xmo, .inr (4, [.null, .long 0, .long 0, .long 0, .long 0])), (xwi, .inr (10, [.int a1, .int a2, .int (-1), .int (-1), .int (-1)]))] H := hP
              have hD : va_D A [(x, .inr (11, [.ref xpa, .ref b, .ref xsp, .ref xdy, .ref xle, .ref xst, .int 0, .ref xim, .ref xil, .int 0, .ref xmo, .ref xom, .ref xwi])), (b, .inr (0, [.ref bto, .ref bnm, .ref bla, .ref bsk, .ref bru, .ref bbo, .ref bdi, .ref bda, .ref bdk, .ref bdt, .ref bdp, .ref bno])), (bto, .inl (bcT, 5, .inl (fun _ => 0))), (bsk, .inr (9, [.int 7, .int 0, .int 59, .int 2, .int 0, .int 1461, .int 4])), (xmo, .inr (4, [.null, .long 0, .long 0, .long 0, .long 0])), (xwi, .inr (10, [.int a1, .int a2, .int (-1), .int (-1), .int (-1)]))] := hD
              refine lv_aload_n hx hb dX11_next_131 rfl (lv_at hl 3 rfl) ?_
              refine va_get (D := (dC, dI)) (ci := 11) (v := .ref xwi) (C := RX11) (T := TX11) (N := 13) hx hb htw inlX11 hown hK hP 0 rfl rfl 12 (by decide) (htw _ (ck_2 _ (List.mem_of_getElem? (i := 22) rfl))) (fun _ h9 => h9) rfl dX11_next_132 ?_
              refine lv_iload hx hb dX11_next_135 (lv_at hl 7 rfl) ?_
              refine va_put (D := (dC, dI)) (ci := 10) (v := .int a3) (ty := tyX10 2) (C := RX10) (T := TX10) (N := 5) hx hb htw inlX10 tyX10 tyX10_ok nmX10 hown hK hP hD hS 5 rfl rfl 2 (by decide) (htw _ (ck_48 _ (List.mem_of_getElem? (i := 16) rfl))) (fun _ h9 => h9) rfl (by decide +kernel) rfl rfl (Nat.le_of_ble_eq_true rfl) dX11_next_137 (fun H locs hP hD hS => ?_)
              have hP : va_P (dC, dI) vwCl [(x, .inr (11, [.ref xpa, .ref b, .ref xsp, .ref xdy, .ref xle, .ref xst, .int 0, .ref xim, .ref xil, .int 0, .ref xmo, .ref xom, .ref xwi])), (b, .inr (0, [.ref bto, .ref bnm, .ref bla, .ref bsk, .ref bru, .ref bbo, .ref bdi, .ref bda, .ref bdk, .ref bdt, .ref bdp, .ref bno])), (bto, .inl (bcT, 5, .inl (fun _ => 0))), (bsk, .inr (9, [.int 7, .int 0, .int 59, .int 2, .int 0, .int 1461, .int 4])), (xmo, .inr (4, [.null, .long 0, .long 0, .long 0, .long 0])), (xwi, .inr (10, [.int a1, .int a2, .int a3, .int (-1), .int (-1)]))] H := hP
              have hD : va_D A [(x, .inr (11, [.ref xpa, .ref b, .ref xsp, .ref xdy, .ref xle, .ref xst, .int 0, .ref xim, .ref xil, .int 0, .ref xmo, .ref xom, .ref xwi])), (b, .inr (0, [.ref bto, .ref bnm, .ref bla, .ref bsk, .ref bru, .ref bbo, .ref bdi, .ref bda, .ref bdk, .ref bdt, .ref bdp, .ref bno])), (bto, .inl (bcT, 5, .inl (fun _ => 0))), (bsk, .inr (9, [.int 7, .int 0, .int 59, .int 2, .int 0, .int 1461, .int 4])), (xmo, .inr (4, [.null, .long 0, .long 0, .long 0, .long 0])), (xwi, .inr (10, [.int a1, .int a2, .int a3, .int (-1), .int (-1)]))] := hD
              refine lv_aload_n hx hb dX11_next_140 rfl (lv_at hl 3 rfl) ?_
              refine lv_lload_n hx hb dX11_next_141 rfl (lv_at hl 4 rfl) ?_
              have hPc := hP.sub (ws' := [(x, .inr (11, [.ref xpa, .ref b, .ref xsp, .ref xdy, .ref xle, .ref xst, .int 0, .ref xim, .ref xil, .int 0, .ref xmo, .ref xom, .ref xwi])), (b, .inr (0, [.ref bto, .ref bnm, .ref bla, .ref bsk, .ref bru, .ref bbo, .ref bdi, .ref bda, .ref bdk, .ref bdt, .ref bdp, .ref bno])), (bto, .inl (bcT, 5, .inl (fun _ => 0))), (bsk, .inr (9, [.int 7, .int 0, .int 59, .int 2, .int 0, .int 1461, .int 4])), (xwi, .inr (10, [.int a1, .int a2, .int a3, .int (-1), .int (-1)])), (xmo, .inr (4, [.null, .long 0, .long 0, .long 0, .long 0]))]) [0, 1, 2, 3, 5, 4] rfl
              have hKc := hK.sub (tys' := [(bcT, .int)]) [0] rfl
              have hDc := hD.sub (ws' := [(x, .inr (11, [.ref xpa, .ref b, .ref xsp, .ref xdy, .ref xle, .ref xst, .int 0, .ref xim, .ref xil, .int 0, .ref xmo, .ref xom, .ref xwi])), (b, .inr (0, [.ref bto, .ref bnm, .ref bla, .ref bsk, .ref bru, .ref bbo, .ref bdi, .ref bda, .ref bdk, .ref bdt, .ref bdp, .ref bno])), (bto, .inl (bcT, 5, .inl (fun _ => 0))), (bsk, .inr (9, [.int 7, .int 0, .int 59, .int 2, .int 0, .int 1461, .int 4])), (xwi, .inr (10, [.int a1, .int a2, .int a3, .int (-1), .int (-1)])), (xmo, .inr (4, [.null, .long 0, .long 0, .long 0, .long 0]))]) [0, 1, 2, 3, 5, 4] (by decide) rfl
              have hFc := va_free (wc := [(x, .inr (11, [.ref xpa, .ref b, .ref xsp, .ref xdy, .ref xle, .ref xst, .int 0, .ref xim, .ref xil, .int 0, .ref xmo, .ref xom, .ref xwi])), (b, .inr (0, [.ref bto, .ref bnm, .ref bla, .ref bsk, .ref bru, .ref bbo, .ref bdi, .ref bda, .ref bdk, .ref bdt, .ref bdp, .ref bno])), (bto, .inl (bcT, 5, .inl (fun _ => 0))), (bsk, .inr (9, [.int 7, .int 0, .int 59, .int 2, .int 0, .int 1461, .int 4])), (xwi, .inr (10, [.int a1, .int a2, .int a3, .int (-1), .int (-1)])), (xmo, .inr (4, [.null, .long 0, .long 0, .long 0, .long 0]))]) hD hS hA [0, 1, 2, 3, 5, 4] rfl
              refine va_calll (va_runV (As := [.long a0]) (rest := []) ⟨hx, hb, hml, hown, htw⟩ (mt_first l dC dI x xpa xsp xdy xle xst xim xil xmo xom xwi b bto bnm bla bsk bru bbo bdi bda bdk bdt bdp bno bcT a1 a2 a3 a0 H.size hok) (cwV 1 htw (xg_V (ck_42 _ (List.mem_of_getElem? (i := 13) rfl)) (ck_42 _ (List.mem_of_getElem? (i := 14) rfl)) (ck_42 _ (List.mem_of_getElem? (i := 15) rfl)) (ck_1 _ (List.mem_of_getElem? (i := 2) rfl)) (ck_42 _ (List.mem_of_getElem? (i := 16) rfl))) rfl rfl rfl (by decide +kernel) ⟨Nat.le_of_ble_eq_true rfl, Nat.le_of_ble_eq_true rfl⟩) ⟨fun a U g mk q => by obtain ⟨q0, q1, qP, qK, qD⟩ := q; exact ⟨q0, q1, qP, va_K.moved (u := U) (U := U.calling g mk a) (Vm.Alike.refl U.vm) qK, qD⟩, va_recv hKc hPc (ci := 11) (q0 := 0) rfl rfl, fun U hU hW => ⟨rfl, by rw [hU], by rw [hU]; exact hPc, va_K.moved hW.alike hKc, hDc.weaken (fun _ _ _ _ => trivial)⟩⟩ rfl rfl hl.1 rfl (lv_room (Nat.le_of_ble_eq_true rfl)) dX11_next_142 ⟨Nat.le_of_ble_eq_true rfl, Nat.le_of_ble_eq_true rfl⟩) hS (fun q _ h => hFc q h) hFc (fun r_167 u_168 t H1 locs ht hvm hw hB hz1 hk1 hS => ?_)
              try dsimp only at hw
              have hP1 : va_P (dC, dI) vwCl [] H1 := fun k q h => by simp at h
              have hD1 : va_D (va_A [(x, .inr (11, [.ref xpa, .ref b, .ref xsp, .ref xdy, .ref xle, .ref xst, .int 0, .ref xim, .ref xil, .int 0, .ref xmo, .ref xom, .ref xwi])), (b, .inr (0, [.ref bto, .ref bnm, .ref bla, .ref bsk, .ref bru, .ref bbo, .ref bdi, .ref bda, .ref bdk, .ref bdt, .ref bdp, .ref bno])), (bto, .inl (bcT, 5, .inl (fun _ => 0))), (bsk, .inr (9, [.int 7, .int 0, .int 59, .int 2, .int 0, .int 1461, .int 4])), (xwi, .inr (10, [.int a1, .int a2, .int a3, .int (-1), .int (-1)])), (xmo, .inr (4, [.null, .long 0, .long 0, .long 0, .long 0]))] H.size) [] := ⟨fun i j p q h => by simp at h, fun k q h => by simp at h⟩
              obtain ⟨hP, hD⟩ := va_join (wr := []) (w1 := []) hP hD [0, 1, 2, 3, 5, 4] [] rfl rfl (by decide) (by decide) hk1 hFc hP1 hD1
              generalize H1 = H at hP hS ⊢
              have hP : va_P (dC, dI) vwCl [] H := hP
              have hD : va_D A [] := hD
              refine W.widen (k := 0) (n := 0) (by omega) (by omega) ?_
              obtain rfl : r_167 = xn_go a1 a2 a3 20000 a0 := hw
              refine W.widen (k := 0) (n := 0) (by omega) (by omega) ?_
              exact W.lret (v := xn_go a1 a2 a3 20000 a0) hx hb hr (fun t ht hW => ⟨⟨xn_go a1 a2 a3 20000 a0, (), rfl, (xr_next2 (fun h => c_164 (hw_r_163.trans h)) hask).symm, trivial⟩, hS.F ht⟩) hS.2.2 dX11_next_145
          · refine lv_iload hx hb dX11_next_62 (lv_at hl 6 rfl) ?_
            refine lv_if_lt (tgt := 78) hx hb dX11_next_64 (by decide) (fun c_169 => ?_) (fun c_169 => ?_)
            · refine lv_iconst (v := 0) hx hb dX11_next_78 (by decide) ?_
              refine lv_istore (lv' := [(8, .int 0), (7, .int 1), (6, .int 1), (0, .ref x), (1, .long a0), (3, .int a1), (4, .int a2), (5, .int a3)]) hx hb dX11_next_79 hl (by decide) rfl (fun ls hl => ?_)
              refine lv_lload_n hx hb dX11_next_81 rfl (lv_at hl 4 rfl) ?_
              have hPc := hP.sub (ws' := []) [] rfl
              have hKc := hK.sub (tys' := []) [] rfl
              refine vp_callSi (W.runS (As := [.long a0]) (rest := []) ⟨hx, hb, hml, hown, htw⟩ (mt_isCount l dC dI a0) (va_cwS 1 htw (xg_S (ck_35 _ (List.mem_of_getElem? (i := 15) rfl)) (ck_35 _ (List.mem_of_getElem? (i := 16) rfl)) (ck_1 _ (List.mem_of_getElem? (i := 2) rfl)) (ck_35 _ (List.mem_of_getElem? (i := 17) rfl))) rfl rfl rfl (by decide +kernel) ⟨Nat.le_of_ble_eq_true rfl, Nat.le_of_ble_eq_true rfl⟩) ⟨fun a U g mk q => by obtain ⟨q0, qP, qK⟩ := q; exact ⟨q0, qP, va_K.moved (u := U) (U := U.calling g mk a) (Vm.Alike.refl U.vm) qK⟩, fun U hU hW => ⟨rfl, by rw [hU]; exact hPc, va_K.moved hW.alike hKc⟩⟩ rfl rfl hl.1 rfl (lv_room (Nat.le_of_ble_eq_true rfl)) dX11_next_82 ⟨Nat.le_of_ble_eq_true rfl, Nat.le_of_ble_eq_true rfl⟩) (fun r_170 hw => ?_)
              try dsimp only at hw
              have hw_r_170 : r_170 = xg_cnt a0 := hw
              refine lv_if_eq (tgt := 103) hx hb dX11_next_85 (by decide) (fun c_171 => ?_) (fun c_171 => ?_)
              · refine lv_ldc2 (v := (-1)) hx hb hown (htw _ (ck_34 _ (List.mem_of_getElem? (i := 18) rfl))) dX11_next_103 ?_
                refine W.widen (k := 0) (n := 0) (by omega) (by omega) ?_
                exact W.lret (v := (-1)) hx hb hr (fun t ht hW => ⟨⟨(-1), (), rfl, (xr_next0 (hw_r_170.symm.trans c_171)).symm, trivial⟩, hS.F ht⟩) hS.2.2 dX11_next_106
              · refine lv_iload hx hb dX11_next_88 (lv_at hl 2 rfl) ?_
                refine lv_if_eq (tgt := 103) hx hb dX11_next_90 (by decide) (fun c => absurd c (by decide)) (fun _ => ?_)
                refine lv_iload hx hb dX11_next_93 (lv_at hl 1 rfl) ?_
                refine lv_if_eq (tgt := 103) hx hb dX11_next_95 (by decide) (fun c => absurd c (by decide)) (fun _ => ?_)
                refine lv_iload hx hb dX11_next_98 (lv_at hl 0 rfl) ?_
                refine lv_if_ne (tgt := 107) hx hb dX11_next_100 (by decide) (fun c => absurd c (by decide)) (fun _ => ?_)
                refine lv_ldc2 (v := (-1)) hx hb hown (htw _ (ck_34 _ (List.mem_of_getElem? (i := 18) rfl))) dX11_next_103 ?_
                refine W.widen (k := 0) (n := 0) (by omega) (by omega) ?_
                exact W.lret (v := (-1)) hx hb hr (fun t ht hW => ⟨⟨(-1), (), rfl, (xr_next1 (fun h => (fun h => h.elim c_162 (fun z => absurd c_169 (Int32.not_lt.mpr z.1))) h.2.2)).symm, trivial⟩, hS.F ht⟩) hS.2.2 dX11_next_106
            · refine lv_iload hx hb dX11_next_67 (lv_at hl 6 rfl) ?_
              refine lv_bipush (v := 7) hx hb dX11_next_69 (by decide) ?_
              refine lv_icmp_gt (tgt := 78) hx hb dX11_next_71 (by decide) (fun c_172 => ?_) (fun c_172 => ?_)
              · refine lv_iconst (v := 0) hx hb dX11_next_78 (by decide) ?_
                refine lv_istore (lv' := [(8, .int 0), (7, .int 1), (6, .int 1), (0, .ref x), (1, .long a0), (3, .int a1), (4, .int a2), (5, .int a3)]) hx hb dX11_next_79 hl (by decide) rfl (fun ls hl => ?_)
                refine lv_lload_n hx hb dX11_next_81 rfl (lv_at hl 4 rfl) ?_
                have hPc := hP.sub (ws' := []) [] rfl
                have hKc := hK.sub (tys' := []) [] rfl
                refine vp_callSi (W.runS (As := [.long a0]) (rest := []) ⟨hx, hb, hml, hown, htw⟩ (mt_isCount l dC dI a0) (va_cwS 1 htw (xg_S (ck_35 _ (List.mem_of_getElem? (i := 15) rfl)) (ck_35 _ (List.mem_of_getElem? (i := 16) rfl)) (ck_1 _ (List.mem_of_getElem? (i := 2) rfl)) (ck_35 _ (List.mem_of_getElem? (i := 17) rfl))) rfl rfl rfl (by decide +kernel) ⟨Nat.le_of_ble_eq_true rfl, Nat.le_of_ble_eq_true rfl⟩) ⟨fun a U g mk q => by obtain ⟨q0, qP, qK⟩ := q; exact ⟨q0, qP, va_K.moved (u := U) (U := U.calling g mk a) (Vm.Alike.refl U.vm) qK⟩, fun U hU hW => ⟨rfl, by rw [hU]; exact hPc, va_K.moved hW.alike hKc⟩⟩ rfl rfl hl.1 rfl (lv_room (Nat.le_of_ble_eq_true rfl)) dX11_next_82 ⟨Nat.le_of_ble_eq_true rfl, Nat.le_of_ble_eq_true rfl⟩) (fun r_173 hw => ?_)
                try dsimp only at hw
                have hw_r_173 : r_173 = xg_cnt a0 := hw
                refine lv_if_eq (tgt := 103) hx hb dX11_next_85 (by decide) (fun c_174 => ?_) (fun c_174 => ?_)
                · refine lv_ldc2 (v := (-1)) hx hb hown (htw _ (ck_34 _ (List.mem_of_getElem? (i := 18) rfl))) dX11_next_103 ?_
                  refine W.widen (k := 0) (n := 0) (by omega) (by omega) ?_
                  exact W.lret (v := (-1)) hx hb hr (fun t ht hW => ⟨⟨(-1), (), rfl, (xr_next0 (hw_r_173.symm.trans c_174)).symm, trivial⟩, hS.F ht⟩) hS.2.2 dX11_next_106
                · refine lv_iload hx hb dX11_next_88 (lv_at hl 2 rfl) ?_
                  refine lv_if_eq (tgt := 103) hx hb dX11_next_90 (by decide) (fun c => absurd c (by decide)) (fun _ => ?_)
                  refine lv_iload hx hb dX11_next_93 (lv_at hl 1 rfl) ?_
                  refine lv_if_eq (tgt := 103) hx hb dX11_next_95 (by decide) (fun c => absurd c (by decide)) (fun _ => ?_)
                  refine lv_iload hx hb dX11_next_98 (lv_at hl 0 rfl) ?_
                  refine lv_if_ne (tgt := 107) hx hb dX11_next_100 (by decide) (fun c => absurd c (by decide)) (fun _ => ?_)
                  refine lv_ldc2 (v := (-1)) hx hb hown (htw _ (ck_34 _ (List.mem_of_getElem? (i := 18) rfl))) dX11_next_103 ?_
                  refine W.widen (k := 0) (n := 0) (by omega) (by omega) ?_
                  exact W.lret (v := (-1)) hx hb hr (fun t ht hW => ⟨⟨(-1), (), rfl, (xr_next1 (fun h => (fun h => h.elim c_162 (fun z => absurd c_172 (Int32.not_lt.mpr z.2))) h.2.2)).symm, trivial⟩, hS.F ht⟩) hS.2.2 dX11_next_106
              · refine lv_iconst (v := 1) hx hb dX11_next_74 (by decide) ?_
                refine lv_goto (tgt := 79) hx hb dX11_next_75 (by decide) ?_
                refine lv_istore (lv' := [(8, .int 1), (7, .int 1), (6, .int 1), (0, .ref x), (1, .long a0), (3, .int a1), (4, .int a2), (5, .int a3)]) hx hb dX11_next_79 hl (by decide) rfl (fun ls hl => ?_)
                refine lv_lload_n hx hb dX11_next_81 rfl (lv_at hl 4 rfl) ?_
                have hPc := hP.sub (ws' := []) [] rfl
                have hKc := hK.sub (tys' := []) [] rfl
                refine vp_callSi (W.runS (As := [.long a0]) (rest := []) ⟨hx, hb, hml, hown, htw⟩ (mt_isCount l dC dI a0) (va_cwS 1 htw (xg_S (ck_35 _ (List.mem_of_getElem? (i := 15) rfl)) (ck_35 _ (List.mem_of_getElem? (i := 16) rfl)) (ck_1 _ (List.mem_of_getElem? (i := 2) rfl)) (ck_35 _ (List.mem_of_getElem? (i := 17) rfl))) rfl rfl rfl (by decide +kernel) ⟨Nat.le_of_ble_eq_true rfl, Nat.le_of_ble_eq_true rfl⟩) ⟨fun a U g mk q => by obtain ⟨q0, qP, qK⟩ := q; exact ⟨q0, qP, va_K.moved (u := U) (U := U.calling g mk a) (Vm.Alike.refl U.vm) qK⟩, fun U hU hW => ⟨rfl, by rw [hU]; exact hPc, va_K.moved hW.alike hKc⟩⟩ rfl rfl hl.1 rfl (lv_room (Nat.le_of_ble_eq_true rfl)) dX11_next_82 ⟨Nat.le_of_ble_eq_true rfl, Nat.le_of_ble_eq_true rfl⟩) (fun r_175 hw => ?_)
                try dsimp only at hw
                have hw_r_175 : r_175 = xg_cnt a0 := hw
                refine lv_if_eq (tgt := 103) hx hb dX11_next_85 (by decide) (fun c_176 => ?_) (fun c_176 => ?_)
                · refine lv_ldc2 (v := (-1)) hx hb hown (htw _ (ck_34 _ (List.mem_of_getElem? (i := 18) rfl))) dX11_next_103 ?_
                  refine W.widen (k := 0) (n := 0) (by omega) (by omega) ?_
                  exact W.lret (v := (-1)) hx hb hr (fun t ht hW => ⟨⟨(-1), (), rfl, (xr_next0 (hw_r_175.symm.trans c_176)).symm, trivial⟩, hS.F ht⟩) hS.2.2 dX11_next_106
                · refine lv_iload hx hb dX11_next_88 (lv_at hl 2 rfl) ?_
                  refine lv_if_eq (tgt := 103) hx hb dX11_next_90 (by decide) (fun c => absurd c (by decide)) (fun _ => ?_)
                  refine lv_iload hx hb dX11_next_93 (lv_at hl 1 rfl) ?_
                  refine lv_if_eq (tgt := 103) hx hb dX11_next_95 (by decide) (fun c => absurd c (by decide)) (fun _ => ?_)
                  refine lv_iload hx hb dX11_next_98 (lv_at hl 0 rfl) ?_
                  refine lv_if_ne (tgt := 107) hx hb dX11_next_100 (by decide) (fun _ => ?_) (fun c => absurd c (by decide))
                  have hask : xr_ask a1 a2 a3 := ⟨Or.inr ⟨Int32.not_lt.mp c_65, Int32.not_lt.mp c_113⟩, Or.inl c_161, Or.inr ⟨Int32.not_lt.mp c_169, Int32.not_lt.mp c_172⟩⟩
                  have hok := xr_ask_ok hask
                  refine lv_aload_n hx hb dX11_next_107 rfl (lv_at hl 3 rfl) ?_
                  refine va_get (D := (dC, dI)) (ci := 11) (v := .ref xwi) (C := RX11) (T := TX11) (N := 13) hx hb htw inlX11 hown hK hP 0 rfl rfl 12 (by decide) (htw _ (ck_2 _ (List.mem_of_getElem? (i := 22) rfl))) (fun _ h9 => h9) rfl dX11_next_108 ?_
                  have hPc := hP.sub (ws' := [(xwi, .inr (10, [.int 0, .int 0, .int 0, .int 0, .int 0]))]) [4] rfl
                  have hKc := hK.sub (tys' := []) [] rfl
                  have hDc := hD.sub (ws' := [(xwi, .inr (10, [.int 0, .int 0, .int 0, .int 0, .int 0]))]) [4] (by decide) rfl
                  have hFc := va_free (wc := [(xwi, .inr (10, [.int 0, .int 0, .int 0, .int 0, .int 0]))]) hD hS hA [4] rfl
                  refine va_callv (va_runV (As := []) (rest := []) ⟨hx, hb, hml, hown, htw⟩ (mt_wclear l dC dI xwi (0 : Int32) (0 : Int32) (0 : Int32) (0 : Int32) (0 : Int32) H.size) (cwV 0 htw (xg_V (ck_42 _ (List.mem_of_getElem? (i := 4) rfl)) (ck_42 _ (List.mem_of_getElem? (i := 5) rfl)) (ck_42 _ (List.mem_of_getElem? (i := 6) rfl)) (ck_2 _ (List.mem_of_getElem? (i := 21) rfl)) (ck_42 _ (List.mem_of_getElem? (i := 7) rfl))) rfl rfl rfl (by decide +kernel) ⟨Nat.le_of_ble_eq_true rfl, Nat.le_of_ble_eq_true rfl⟩) ⟨fun a U g mk q => by obtain ⟨q0, q1, qP, qK, qD⟩ := q; exact ⟨q0, q1, qP, va_K.moved (u := U) (U := U.calling g mk a) (Vm.Alike.refl U.vm) qK, qD⟩, va_recv hKc hPc (ci := 10) (q0 := 0) rfl rfl, fun U hU hW => ⟨rfl, by rw [hU], by rw [hU]; exact hPc, va_K.moved hW.alike hKc, hDc.weaken (fun _ _ _ _ => trivial)⟩⟩ rfl rfl hl.1 rfl (lv_room (Nat.le_of_ble_eq_true rfl)) dX11_next_111 ⟨Nat.le_of_ble_eq_true rfl, Nat.le_of_ble_eq_true rfl⟩) hS (fun q _ h => hFc q h) hFc (fun u_178 t H1 locs ht hvm hw hB hz1 hk1 hS => ?_)
                  try dsimp only at hw
                  obtain ⟨hP1, hK1, hD1⟩ := hB
                  rw [ht] at hP1
                  have hK1 := va_K.moved hvm.symm hK1
                  have hP1 : va_P (dC, dI) vwCl [(xwi, .inr (10, [.int (-1), .int (-1), .int (-1), .int (-1), .int (-1)]))] H1 := hP1
                  have hD1 : va_D (va_A [(xwi, .inr (10, [.int 0, .int 0, .int 0, .int 0, .int 0]))] H.size) [(xwi, .inr (10, [.int (-1), .int (-1), .int (-1), .int (-1), .int (-1)]))] := hD1
                  have hK1 : va_K (dC, dI) vwCl [] s := hK1
                  obtain ⟨hP, hD⟩ := va_join (wr := [(x, .inr (11, [.ref xpa, .ref b, .ref xsp, .ref xdy, .ref xle, .ref xst, .int 0, .ref xim, .ref xil, .int 0, .ref xmo, .ref xom, .ref xwi])), (b, .inr (0, [.ref bto, .ref bnm, .ref bla, .ref bsk, .ref bru, .ref bbo, .ref bdi, .ref bda, .ref bdk, .ref bdt, .ref bdp, .ref bno])), (bto, .inl (bcT, 5, .inl (fun _ => 0))), (bsk, .inr (9, [.int 7, .int 0, .int 59, .int 2, .int 0, .int 1461, .int 4])), (xmo, .inr (4, [.null, .long 0, .long 0, .long 0, .long 0]))]) (w1 := [(xwi, .inr (10, [.int (-1), .int (-1), .int (-1), .int (-1), .int (-1)]))]) hP hD [4] [0, 1, 2, 3, 5] rfl rfl (by decide) (by decide) hk1 hFc hP1 hD1
                  generalize H1 = H at hP hS ⊢
                  have hP : va_P (dC, dI) vwCl [(x, .inr (11, [.ref xpa, .ref b, .ref xsp, .ref xdy, .ref xle, .ref xst, .int 0, .ref xim, .ref xil, .int 0, .ref xmo, .ref xom, .ref xwi])), (b, .inr (0, [.ref bto, .ref bnm, .ref bla, .ref bsk, .ref bru, .ref bbo, .ref bdi, .ref bda, .ref bdk, .ref bdt, .ref bdp, .ref bno])), (bto, .inl (bcT, 5, .inl (fun _ => 0))), (bsk, .inr (9, [.int 7, .int 0, .int 59, .int 2, .int 0, .int 1461, .int 4])), (xmo, .inr (4, [.null, .long 0, .long 0, .long 0, .long 0])), (xwi, .inr (10, [.int (-1), .int (-1), .int (-1), .int (-1), .int (-1)]))] H := hP
                  have hD : va_D A [(x, .inr (11, [.ref xpa, .ref b, .ref xsp, .ref xdy, .ref xle, .ref xst, .int 0, .ref xim, .ref xil, .int 0, .ref xmo, .ref xom, .ref xwi])), (b, .inr (0, [.ref bto, .ref bnm, .ref bla, .ref bsk, .ref bru, .ref bbo, .ref bdi, .ref bda, .ref bdk, .ref bdt, .ref bdp, .ref bno])), (bto, .inl (bcT, 5, .inl (fun _ => 0))), (bsk, .inr (9, [.int 7, .int 0, .int 59, .int 2, .int 0, .int 1461, .int 4])), (xmo, .inr (4, [.null, .long 0, .long 0, .long 0, .long 0])), (xwi, .inr (10, [.int (-1), .int (-1), .int (-1), .int (-1), .int (-1)]))] := hD
                  refine W.widen (k := 0) (n := 0) (by omega) (by omega) ?_
                  refine lv_aload_n hx hb dX11_next_114 rfl (lv_at hl 3 rfl) ?_
                  refine va_get (D := (dC, dI)) (ci := 11) (v := .ref xwi) (C := RX11) (T := TX11) (N := 13) hx hb htw inlX11 hown hK hP 0 rfl rfl 12 (by decide) (htw _ (ck_2 _ (List.mem_of_getElem? (i := 22) rfl))) (fun _ h9 => h9) rfl dX11_next_115 ?_
                  refine lv_iload_n hx hb dX11_next_118 rfl (lv_at hl 5 rfl) ?_
                  refine va_put (D := (dC, dI)) (ci := 10) (v := .int a1) (ty := tyX10 0) (C := RX10) (T := TX10) (N := 5) hx hb htw inlX10 tyX10 tyX10_ok nmX10 hown hK hP hD hS 5 rfl rfl 0 (by decide) (htw _ (ck_48 _ (List.mem_of_getElem? (i := 14) rfl))) (fun _ h9 => h9) rfl (by decide +kernel) rfl rfl (Nat.le_of_ble_eq_true rfl) dX11_next_119 (fun H locs hP hD hS => ?_)
                  have hP : va_P (dC, dI) vwCl [(x, .inr (11, [.ref xpa, .ref b, .ref xsp, .ref xdy, .ref xle, .ref xst, .int 0, .ref xim, .ref xil, .int 0, .ref xmo, .ref xom, .ref xwi])), (b, .inr (0, [.ref bto, .ref bnm, .ref bla, .ref bsk, .ref bru, .ref bbo, .ref bdi, .ref bda, .ref bdk, .ref bdt, .ref bdp, .ref bno])), (bto, .inl (bcT, 5, .inl (fun _ => 0))), (bsk, .inr (9, [.int 7, .int 0, .int 59, .int 2, .int 0, .int 1461, .int 4])), (xmo, .inr (4, [.null, .long 0, .long 0, .long 0, .long 0])), (xwi, .inr (10, [.int a1, .int (-1), .int (-1), .int (-1), .int (-1)]))] H := hP
                  have hD : va_D A [(x, .inr (11, [.ref xpa, .ref b, .ref xsp, .ref xdy, .ref xle, .ref xst, .int 0, .ref xim, .ref xil, .int 0, .ref xmo, .ref xom, .ref xwi])), (b, .inr (0, [.ref bto, .ref bnm, .ref bla, .ref bsk, .ref bru, .ref bbo, .ref bdi, .ref bda, .ref bdk, .ref bdt, .ref bdp, .ref bno])), (bto, .inl (bcT, 5, .inl (fun _ => 0))), (bsk, .inr (9, [.int 7, .int 0, .int 59, .int 2, .int 0, .int 1461, .int 4])), (xmo, .inr (4, [.null, .long 0, .long 0, .long 0, .long 0])), (xwi, .inr (10, [.int a1, .int (-1), .int (-1), .int (-1), .int (-1)]))] := hD
                  refine lv_aload_n hx hb dX11_next_122 rfl (lv_at hl 3 rfl) ?_
                  refine va_get (D := (dC, dI)) (ci := 11) (v := .ref xwi) (C := RX11) (T := TX11) (N := 13) hx hb htw inlX11 hown hK hP 0 rfl rfl 12 (by decide) (htw _ (ck_2 _ (List.mem_of_getElem? (i := 22) rfl))) (fun _ h9 => h9) rfl dX11_next_123 ?_
                  refine lv_iload hx hb dX11_next_126 (lv_at hl 6 rfl) ?_
                  refine va_put (D := (dC, dI)) (ci := 10) (v := .int a2) (ty := tyX10 1) (C := RX10) (T := TX10) (N := 5) hx hb htw inlX10 tyX10 tyX10_ok nmX10 hown hK hP hD hS 5 rfl rfl 1 (by decide) (htw _ (ck_48 _ (List.mem_of_getElem? (i := 15) rfl))) (fun _ h9 => h9) rfl (by decide +kernel) rfl rfl (Nat.le_of_ble_eq_true rfl) dX11_next_128 (fun H locs hP hD hS => ?_)
                  have hP : va_P (dC, dI) vwCl [(x, .inr (11, [.ref xpa, .ref b, .ref xsp, .ref xdy, .ref xle, .ref xst, .int 0, .ref xim, .ref xil, .int 0, .ref xmo, .ref xom, .ref xwi])), (b, .inr (0, [.ref bto, .ref bnm, .ref bla, .ref bsk, .ref bru, .ref bbo, .ref bdi, .ref bda, .ref bdk, .ref bdt, .ref bdp, .ref bno])), (bto, .inl (bcT, 5, .inl (fun _ => 0))), (bsk, .inr (9, [.int 7, .int 0, .int 59, .int 2, .int 0, .int 1461, .int 4])), (xmo, .inr (4, [.null, .long 0, .long 0, .long 0, .long 0])), (xwi, .inr (10, [.int a1, .int a2, .int (-1), .int (-1), .int (-1)]))] H := hP
                  have hD : va_D A [(x, .inr (11, [.ref xpa, .ref b, .ref xsp, .ref xdy, .ref xle, .ref xst, .int 0, .ref xim, .ref xil, .int 0, .ref xmo, .ref xom, .ref xwi])), (b, .inr (0, [.ref bto, .ref bnm, .ref bla, .ref bsk, .ref bru, .ref bbo, .ref bdi, .ref bda, .ref bdk, .ref bdt, .ref bdp, .ref bno])), (bto, .inl (bcT, 5, .inl (fun _ => 0))), (bsk, .inr (9, [.int 7, .int 0, .int 59, .int 2, .int 0, .int 1461, .int 4])), (xmo, .inr (4, [.null, .long 0, .long 0, .long 0, .long 0])), (xwi, .inr (10, [.int a1, .int a2, .int (-1), .int (-1), .int (-1)]))] := hD
                  refine lv_aload_n hx hb dX11_next_131 rfl (lv_at hl 3 rfl) ?_
                  refine va_get (D := (dC, dI)) (ci := 11) (v := .ref xwi) (C := RX11) (T := TX11) (N := 13) hx hb htw inlX11 hown hK hP 0 rfl rfl 12 (by decide) (htw _ (ck_2 _ (List.mem_of_getElem? (i := 22) rfl))) (fun _ h9 => h9) rfl dX11_next_132 ?_
                  refine lv_iload hx hb dX11_next_135 (lv_at hl 7 rfl) ?_
                  refine va_put (D := (dC, dI)) (ci := 10) (v := .int a3) (ty := tyX10 2) (C := RX10) (T := TX10) (N := 5) hx hb htw inlX10 tyX10 tyX10_ok nmX10 hown hK hP hD hS 5 rfl rfl 2 (by decide) (htw _ (ck_48 _ (List.mem_of_getElem? (i := 16) rfl))) (fun _ h9 => h9) rfl (by decide +kernel) rfl rfl (Nat.le_of_ble_eq_true rfl) dX11_next_137 (fun H locs hP hD hS => ?_)
                  have hP : va_P (dC, dI) vwCl [(x, .inr (11, [.ref xpa, .ref b, .ref xsp, .ref xdy, .ref xle, .ref xst, .int 0, .ref xim, .ref xil, .int 0, .ref xmo, .ref xom, .ref xwi])), (b, .inr (0, [.ref bto, .ref bnm, .ref bla, .ref bsk, .ref bru, .ref bbo, .ref bdi, .ref bda, .ref bdk, .ref bdt, .ref bdp, .ref bno])), (bto, .inl (bcT, 5, .inl (fun _ => 0))), (bsk, .inr (9, [.int 7, .int 0, .int 59, .int 2, .int 0, .int 1461, .int 4])), (xmo, .inr (4, [.null, .long 0, .long 0, .long 0, .long 0])), (xwi, .inr (10, [.int a1, .int a2, .int a3, .int (-1), .int (-1)]))] H := hP
                  have hD : va_D A [(x, .inr (11, [.ref xpa, .ref b, .ref xsp, .ref xdy, .ref xle, .ref xst, .int 0, .ref xim, .ref xil, .int 0, .ref xmo, .ref xom, .ref xwi])), (b, .inr (0, [.ref bto, .ref bnm, .ref bla, .ref bsk, .ref bru, .ref bbo, .ref bdi, .ref bda, .ref bdk, .ref bdt, .ref bdp, .ref bno])), (bto, .inl (bcT, 5, .inl (fun _ => 0))), (bsk, .inr (9, [.int 7, .int 0, .int 59, .int 2, .int 0, .int 1461, .int 4])), (xmo, .inr (4, [.null, .long 0, .long 0, .long 0, .long 0])), (xwi, .inr (10, [.int a1, .int a2, .int a3, .int (-1), .int (-1)]))] := hD
                  refine lv_aload_n hx hb dX11_next_140 rfl (lv_at hl 3 rfl) ?_
                  refine lv_lload_n hx hb dX11_next_141 rfl (lv_at hl 4 rfl) ?_
                  have hPc := hP.sub (ws' := [(x, .inr (11, [.ref xpa, .ref b, .ref xsp, .ref xdy, .ref xle, .ref xst, .int 0, .ref xim, .ref xil, .int 0, .ref xmo, .ref xom, .ref xwi])), (b, .inr (0, [.ref bto, .ref bnm, .ref bla, .ref bsk, .ref bru, .ref bbo, .ref bdi, .ref bda, .ref bdk, .ref bdt, .ref bdp, .ref bno])), (bto, .inl (bcT, 5, .inl (fun _ => 0))), (bsk, .inr (9, [.int 7, .int 0, .int 59, .int 2, .int 0, .int 1461, .int 4])), (xwi, .inr (10, [.int a1, .int a2, .int a3, .int (-1), .int (-1)])), (xmo, .inr (4, [.null, .long 0, .long 0, .long 0, .long 0]))]) [0, 1, 2, 3, 5, 4] rfl
                  have hKc := hK.sub (tys' := [(bcT, .int)]) [0] rfl
                  have hDc := hD.sub (ws' := [(x, .inr (11, [.ref xpa, .ref b, .ref xsp, .ref xdy, .ref xle, .ref xst, .int 0, .ref xim, .ref xil, .int 0, .ref xmo, .ref xom, .ref xwi])), (b, .inr (0, [.ref bto, .ref bnm, .ref bla, .ref bsk, .ref bru, .ref bbo, .ref bdi, .ref bda, .ref bdk, .ref bdt, .ref bdp, .ref bno])), (bto, .inl (bcT, 5, .inl (fun _ => 0))), (bsk, .inr (9, [.int 7, .int 0, .int 59, .int 2, .int 0, .int 1461, .int 4])), (xwi, .inr (10, [.int a1, .int a2, .int a3, .int (-1), .int (-1)])), (xmo, .inr (4, [.null, .long 0, .long 0, .long 0, .long 0]))]) [0, 1, 2, 3, 5, 4] (by decide) rfl
                  have hFc := va_free (wc := [(x, .inr (11, [.ref xpa, .ref b, .ref xsp, .ref xdy, .ref xle, .ref xst, .int 0, .ref xim, .ref xil, .int 0, .ref xmo, .ref xom, .ref xwi])), (b, .inr (0, [.ref bto, .ref bnm, .ref bla, .ref bsk, .ref bru, .ref bbo, .ref bdi, .ref bda, .ref bdk, .ref bdt, .ref bdp, .ref bno])), (bto, .inl (bcT, 5, .inl (fun _ => 0))), (bsk, .inr (9, [.int 7, .int 0, .int 59, .int 2, .int 0, .int 1461, .int 4])), (xwi, .inr (10, [.int a1, .int a2, .int a3, .int (-1), .int (-1)])), (xmo, .inr (4, [.null, .long 0, .long 0, .long 0, .long 0]))]) hD hS hA [0, 1, 2, 3, 5, 4] rfl
                  refine va_calll (va_runV (As := [.long a0]) (rest := []) ⟨hx, hb, hml, hown, htw⟩ (mt_first l dC dI x xpa xsp xdy xle xst xim xil xmo xom xwi b bto bnm bla bsk bru bbo bdi bda bdk bdt bdp bno bcT a1 a2 a3 a0 H.size hok) (cwV 1 htw (xg_V (ck_42 _ (List.mem_of_getElem? (i := 13) rfl)) (ck_42 _ (List.mem_of_getElem? (i := 14) rfl)) (ck_42 _ (List.mem_of_getElem? (i := 15) rfl)) (ck_1 _ (List.mem_of_getElem? (i := 2) rfl)) (ck_42 _ (List.mem_of_getElem? (i := 16) rfl))) rfl rfl rfl (by decide +kernel) ⟨Nat.le_of_ble_eq_true rfl, Nat.le_of_ble_eq_true rfl⟩) ⟨fun a U g mk q => by obtain ⟨q0, q1, qP, qK, qD⟩ := q; exact ⟨q0, q1, qP, va_K.moved (u := U) (U := U.calling g mk a) (Vm.Alike.refl U.vm) qK, qD⟩, va_recv hKc hPc (ci := 11) (q0 := 0) rfl rfl, fun U hU hW => ⟨rfl, by rw [hU], by rw [hU]; exact hPc, va_K.moved hW.alike hKc, hDc.weaken (fun _ _ _ _ => trivial)⟩⟩ rfl rfl hl.1 rfl (lv_room (Nat.le_of_ble_eq_true rfl)) dX11_next_142 ⟨Nat.le_of_ble_eq_true rfl, Nat.le_of_ble_eq_true rfl⟩) hS (fun q _ h => hFc q h) hFc (fun r_179 u_180 t H1 locs ht hvm hw hB hz1 hk1 hS => ?_)
                  try dsimp only at hw
                  have hP1 : va_P (dC, dI) vwCl [] H1 := fun k q h => by simp at h
                  have hD1 : va_D (va_A [(x, .inr (11, [.ref xpa, .ref b, .ref xsp, .ref xdy, .ref xle, .ref xst, .int 0, .ref xim, .ref xil, .int 0, .ref xmo, .ref xom, .ref xwi])), (b, .inr (0, [.ref bto, .ref bnm, .ref bla, .ref bsk, .ref bru, .ref bbo, .ref bdi, .ref bda, .ref bdk, .ref bdt, .ref bdp, .ref bno])), (bto, .inl (bcT, 5, .inl (fun _ => 0))), (bsk, .inr (9, [.int 7, .int 0, .int 59, .int 2, .int 0, .int 1461, .int 4])), (xwi, .inr (10, [.int a1, .int a2, .int a3, .int (-1), .int (-1)])), (xmo, .inr (4, [.null, .long 0, .long 0, .long 0, .long 0]))] H.size) [] := ⟨fun i j p q h => by simp at h, fun k q h => by simp at h⟩
                  obtain ⟨hP, hD⟩ := va_join (wr := []) (w1 := []) hP hD [0, 1, 2, 3, 5, 4] [] rfl rfl (by decide) (by decide) hk1 hFc hP1 hD1
                  generalize H1 = H at hP hS ⊢
                  have hP : va_P (dC, dI) vwCl [] H := hP
                  have hD : va_D A [] := hD
                  refine W.widen (k := 0) (n := 0) (by omega) (by omega) ?_
                  obtain rfl : r_179 = xn_go a1 a2 a3 20000 a0 := hw
                  refine W.widen (k := 0) (n := 0) (by omega) (by omega) ?_
                  exact W.lret (v := xn_go a1 a2 a3 20000 a0) hx hb hr (fun t ht hW => ⟨⟨xn_go a1 a2 a3 20000 a0, (), rfl, (xr_next2 (fun h => c_176 (hw_r_175.trans h)) hask).symm, trivial⟩, hS.F ht⟩) hS.2.2 dX11_next_145
        · refine lv_iload hx hb dX11_next_29 (lv_at hl 4 rfl) ?_
          refine lv_if_lt (tgt := 53) hx hb dX11_next_31 (by decide) (fun c_181 => ?_) (fun c_181 => ?_)
          · refine lv_iconst (v := 0) hx hb dX11_next_53 (by decide) ?_
            refine lv_istore (lv' := [(7, .int 0), (6, .int 1), (0, .ref x), (1, .long a0), (3, .int a1), (4, .int a2), (5, .int a3)]) hx hb dX11_next_54 hl (by decide) rfl (fun ls hl => ?_)
            refine lv_iload hx hb dX11_next_56 (lv_at hl 6 rfl) ?_
            refine lv_iconst (v := (-1)) hx hb dX11_next_58 (by decide) ?_
            refine lv_icmp_eq (tgt := 74) hx hb dX11_next_59 (by decide) (fun c_182 => ?_) (fun c_182 => ?_)
            · refine lv_iconst (v := 1) hx hb dX11_next_74 (by decide) ?_
              refine lv_goto (tgt := 79) hx hb dX11_next_75 (by decide) ?_
              refine lv_istore (lv' := [(8, .int 1), (7, .int 0), (6, .int 1), (0, .ref x), (1, .long a0), (3, .int a1), (4, .int a2), (5, .int a3)]) hx hb dX11_next_79 hl (by decide) rfl (fun ls hl => ?_)
              refine lv_lload_n hx hb dX11_next_81 rfl (lv_at hl 4 rfl) ?_
              have hPc := hP.sub (ws' := []) [] rfl
              have hKc := hK.sub (tys' := []) [] rfl
              refine vp_callSi (W.runS (As := [.long a0]) (rest := []) ⟨hx, hb, hml, hown, htw⟩ (mt_isCount l dC dI a0) (va_cwS 1 htw (xg_S (ck_35 _ (List.mem_of_getElem? (i := 15) rfl)) (ck_35 _ (List.mem_of_getElem? (i := 16) rfl)) (ck_1 _ (List.mem_of_getElem? (i := 2) rfl)) (ck_35 _ (List.mem_of_getElem? (i := 17) rfl))) rfl rfl rfl (by decide +kernel) ⟨Nat.le_of_ble_eq_true rfl, Nat.le_of_ble_eq_true rfl⟩) ⟨fun a U g mk q => by obtain ⟨q0, qP, qK⟩ := q; exact ⟨q0, qP, va_K.moved (u := U) (U := U.calling g mk a) (Vm.Alike.refl U.vm) qK⟩, fun U hU hW => ⟨rfl, by rw [hU]; exact hPc, va_K.moved hW.alike hKc⟩⟩ rfl rfl hl.1 rfl (lv_room (Nat.le_of_ble_eq_true rfl)) dX11_next_82 ⟨Nat.le_of_ble_eq_true rfl, Nat.le_of_ble_eq_true rfl⟩) (fun r_183 hw => ?_)
              try dsimp only at hw
              have hw_r_183 : r_183 = xg_cnt a0 := hw
              refine lv_if_eq (tgt := 103) hx hb dX11_next_85 (by decide) (fun c_184 => ?_) (fun c_184 => ?_)
              · refine lv_ldc2 (v := (-1)) hx hb hown (htw _ (ck_34 _ (List.mem_of_getElem? (i := 18) rfl))) dX11_next_103 ?_
                refine W.widen (k := 0) (n := 0) (by omega) (by omega) ?_
                exact W.lret (v := (-1)) hx hb hr (fun t ht hW => ⟨⟨(-1), (), rfl, (xr_next0 (hw_r_183.symm.trans c_184)).symm, trivial⟩, hS.F ht⟩) hS.2.2 dX11_next_106
              · refine lv_iload hx hb dX11_next_88 (lv_at hl 2 rfl) ?_
                refine lv_if_eq (tgt := 103) hx hb dX11_next_90 (by decide) (fun c => absurd c (by decide)) (fun _ => ?_)
                refine lv_iload hx hb dX11_next_93 (lv_at hl 1 rfl) ?_
                refine lv_if_eq (tgt := 103) hx hb dX11_next_95 (by decide) (fun _ => ?_) (fun c => absurd c (by decide))
                refine lv_ldc2 (v := (-1)) hx hb hown (htw _ (ck_34 _ (List.mem_of_getElem? (i := 18) rfl))) dX11_next_103 ?_
                refine W.widen (k := 0) (n := 0) (by omega) (by omega) ?_
                exact W.lret (v := (-1)) hx hb hr (fun t ht hW => ⟨⟨(-1), (), rfl, (xr_next1 (fun h => (fun h => h.elim c_161 (fun z => absurd c_181 (Int32.not_lt.mpr z.1))) h.2.1)).symm, trivial⟩, hS.F ht⟩) hS.2.2 dX11_next_106
            · refine lv_iload hx hb dX11_next_62 (lv_at hl 6 rfl) ?_
              refine lv_if_lt (tgt := 78) hx hb dX11_next_64 (by decide) (fun c_185 => ?_) (fun c_185 => ?_)
              · refine lv_iconst (v := 0) hx hb dX11_next_78 (by decide) ?_
                refine lv_istore (lv' := [(8, .int 0), (7, .int 0), (6, .int 1), (0, .ref x), (1, .long a0), (3, .int a1), (4, .int a2), (5, .int a3)]) hx hb dX11_next_79 hl (by decide) rfl (fun ls hl => ?_)
                refine lv_lload_n hx hb dX11_next_81 rfl (lv_at hl 4 rfl) ?_
                have hPc := hP.sub (ws' := []) [] rfl
                have hKc := hK.sub (tys' := []) [] rfl
                refine vp_callSi (W.runS (As := [.long a0]) (rest := []) ⟨hx, hb, hml, hown, htw⟩ (mt_isCount l dC dI a0) (va_cwS 1 htw (xg_S (ck_35 _ (List.mem_of_getElem? (i := 15) rfl)) (ck_35 _ (List.mem_of_getElem? (i := 16) rfl)) (ck_1 _ (List.mem_of_getElem? (i := 2) rfl)) (ck_35 _ (List.mem_of_getElem? (i := 17) rfl))) rfl rfl rfl (by decide +kernel) ⟨Nat.le_of_ble_eq_true rfl, Nat.le_of_ble_eq_true rfl⟩) ⟨fun a U g mk q => by obtain ⟨q0, qP, qK⟩ := q; exact ⟨q0, qP, va_K.moved (u := U) (U := U.calling g mk a) (Vm.Alike.refl U.vm) qK⟩, fun U hU hW => ⟨rfl, by rw [hU]; exact hPc, va_K.moved hW.alike hKc⟩⟩ rfl rfl hl.1 rfl (lv_room (Nat.le_of_ble_eq_true rfl)) dX11_next_82 ⟨Nat.le_of_ble_eq_true rfl, Nat.le_of_ble_eq_true rfl⟩) (fun r_186 hw => ?_)
                try dsimp only at hw
                have hw_r_186 : r_186 = xg_cnt a0 := hw
                refine lv_if_eq (tgt := 103) hx hb dX11_next_85 (by decide) (fun c_187 => ?_) (fun c_187 => ?_)
                · refine lv_ldc2 (v := (-1)) hx hb hown (htw _ (ck_34 _ (List.mem_of_getElem? (i := 18) rfl))) dX11_next_103 ?_
                  refine W.widen (k := 0) (n := 0) (by omega) (by omega) ?_
                  exact W.lret (v := (-1)) hx hb hr (fun t ht hW => ⟨⟨(-1), (), rfl, (xr_next0 (hw_r_186.symm.trans c_187)).symm, trivial⟩, hS.F ht⟩) hS.2.2 dX11_next_106
                · refine lv_iload hx hb dX11_next_88 (lv_at hl 2 rfl) ?_
                  refine lv_if_eq (tgt := 103) hx hb dX11_next_90 (by decide) (fun c => absurd c (by decide)) (fun _ => ?_)
                  refine lv_iload hx hb dX11_next_93 (lv_at hl 1 rfl) ?_
                  refine lv_if_eq (tgt := 103) hx hb dX11_next_95 (by decide) (fun _ => ?_) (fun c => absurd c (by decide))
                  refine lv_ldc2 (v := (-1)) hx hb hown (htw _ (ck_34 _ (List.mem_of_getElem? (i := 18) rfl))) dX11_next_103 ?_
                  refine W.widen (k := 0) (n := 0) (by omega) (by omega) ?_
                  exact W.lret (v := (-1)) hx hb hr (fun t ht hW => ⟨⟨(-1), (), rfl, (xr_next1 (fun h => (fun h => h.elim c_161 (fun z => absurd c_181 (Int32.not_lt.mpr z.1))) h.2.1)).symm, trivial⟩, hS.F ht⟩) hS.2.2 dX11_next_106
              · refine lv_iload hx hb dX11_next_67 (lv_at hl 6 rfl) ?_
                refine lv_bipush (v := 7) hx hb dX11_next_69 (by decide) ?_
                refine lv_icmp_gt (tgt := 78) hx hb dX11_next_71 (by decide) (fun c_188 => ?_) (fun c_188 => ?_)
                · refine lv_iconst (v := 0) hx hb dX11_next_78 (by decide) ?_
                  refine lv_istore (lv' := [(8, .int 0), (7, .int 0), (6, .int 1), (0, .ref x), (1, .long a0), (3, .int a1), (4, .int a2), (5, .int a3)]) hx hb dX11_next_79 hl (by decide) rfl (fun ls hl => ?_)
                  refine lv_lload_n hx hb dX11_next_81 rfl (lv_at hl 4 rfl) ?_
                  have hPc := hP.sub (ws' := []) [] rfl
                  have hKc := hK.sub (tys' := []) [] rfl
                  refine vp_callSi (W.runS (As := [.long a0]) (rest := []) ⟨hx, hb, hml, hown, htw⟩ (mt_isCount l dC dI a0) (va_cwS 1 htw (xg_S (ck_35 _ (List.mem_of_getElem? (i := 15) rfl)) (ck_35 _ (List.mem_of_getElem? (i := 16) rfl)) (ck_1 _ (List.mem_of_getElem? (i := 2) rfl)) (ck_35 _ (List.mem_of_getElem? (i := 17) rfl))) rfl rfl rfl (by decide +kernel) ⟨Nat.le_of_ble_eq_true rfl, Nat.le_of_ble_eq_true rfl⟩) ⟨fun a U g mk q => by obtain ⟨q0, qP, qK⟩ := q; exact ⟨q0, qP, va_K.moved (u := U) (U := U.calling g mk a) (Vm.Alike.refl U.vm) qK⟩, fun U hU hW => ⟨rfl, by rw [hU]; exact hPc, va_K.moved hW.alike hKc⟩⟩ rfl rfl hl.1 rfl (lv_room (Nat.le_of_ble_eq_true rfl)) dX11_next_82 ⟨Nat.le_of_ble_eq_true rfl, Nat.le_of_ble_eq_true rfl⟩) (fun r_189 hw => ?_)
                  try dsimp only at hw
                  have hw_r_189 : r_189 = xg_cnt a0 := hw
                  refine lv_if_eq (tgt := 103) hx hb dX11_next_85 (by decide) (fun c_190 => ?_) (fun c_190 => ?_)
                  · refine lv_ldc2 (v := (-1)) hx hb hown (htw _ (ck_34 _ (List.mem_of_getElem? (i := 18) rfl))) dX11_next_103 ?_
                    refine W.widen (k := 0) (n := 0) (by omega) (by omega) ?_
                    exact W.lret (v := (-1)) hx hb hr (fun t ht hW => ⟨⟨(-1), (), rfl, (xr_next0 (hw_r_189.symm.trans c_190)).symm, trivial⟩, hS.F ht⟩) hS.2.2 dX11_next_106
                  · refine lv_iload hx hb dX11_next_88 (lv_at hl 2 rfl) ?_
                    refine lv_if_eq (tgt := 103) hx hb dX11_next_90 (by decide) (fun c => absurd c (by decide)) (fun _ => ?_)
                    refine lv_iload hx hb dX11_next_93 (lv_at hl 1 rfl) ?_
                    refine lv_if_eq (tgt := 103) hx hb dX11_next_95 (by decide) (fun _ => ?_) (fun c => absurd c (by decide))
                    refine lv_ldc2 (v := (-1)) hx hb hown (htw _ (ck_34 _ (List.mem_of_getElem? (i := 18) rfl))) dX11_next_103 ?_
                    refine W.widen (k := 0) (n := 0) (by omega) (by omega) ?_
                    exact W.lret (v := (-1)) hx hb hr (fun t ht hW => ⟨⟨(-1), (), rfl, (xr_next1 (fun h => (fun h => h.elim c_161 (fun z => absurd c_181 (Int32.not_lt.mpr z.1))) h.2.1)).symm, trivial⟩, hS.F ht⟩) hS.2.2 dX11_next_106
                · refine lv_iconst (v := 1) hx hb dX11_next_74 (by decide) ?_
                  refine lv_goto (tgt := 79) hx hb dX11_next_75 (by decide) ?_
                  refine lv_istore (lv' := [(8, .int 1), (7, .int 0), (6, .int 1), (0, .ref x), (1, .long a0), (3, .int a1), (4, .int a2), (5, .int a3)]) hx hb dX11_next_79 hl (by decide) rfl (fun ls hl => ?_)
                  refine lv_lload_n hx hb dX11_next_81 rfl (lv_at hl 4 rfl) ?_
                  have hPc := hP.sub (ws' := []) [] rfl
                  have hKc := hK.sub (tys' := []) [] rfl
                  refine vp_callSi (W.runS (As := [.long a0]) (rest := []) ⟨hx, hb, hml, hown, htw⟩ (mt_isCount l dC dI a0) (va_cwS 1 htw (xg_S (ck_35 _ (List.mem_of_getElem? (i := 15) rfl)) (ck_35 _ (List.mem_of_getElem? (i := 16) rfl)) (ck_1 _ (List.mem_of_getElem? (i := 2) rfl)) (ck_35 _ (List.mem_of_getElem? (i := 17) rfl))) rfl rfl rfl (by decide +kernel) ⟨Nat.le_of_ble_eq_true rfl, Nat.le_of_ble_eq_true rfl⟩) ⟨fun a U g mk q => by obtain ⟨q0, qP, qK⟩ := q; exact ⟨q0, qP, va_K.moved (u := U) (U := U.calling g mk a) (Vm.Alike.refl U.vm) qK⟩, fun U hU hW => ⟨rfl, by rw [hU]; exact hPc, va_K.moved hW.alike hKc⟩⟩ rfl rfl hl.1 rfl (lv_room (Nat.le_of_ble_eq_true rfl)) dX11_next_82 ⟨Nat.le_of_ble_eq_true rfl, Nat.le_of_ble_eq_true rfl⟩) (fun r_191 hw => ?_)
                  try dsimp only at hw
                  have hw_r_191 : r_191 = xg_cnt a0 := hw
                  refine lv_if_eq (tgt := 103) hx hb dX11_next_85 (by decide) (fun c_192 => ?_) (fun c_192 => ?_)
                  · refine lv_ldc2 (v := (-1)) hx hb hown (htw _ (ck_34 _ (List.mem_of_getElem? (i := 18) rfl))) dX11_next_103 ?_
                    refine W.widen (k := 0) (n := 0) (by omega) (by omega) ?_
                    exact W.lret (v := (-1)) hx hb hr (fun t ht hW => ⟨⟨(-1), (), rfl, (xr_next0 (hw_r_191.symm.trans c_192)).symm, trivial⟩, hS.F ht⟩) hS.2.2 dX11_next_106
                  · refine lv_iload hx hb dX11_next_88 (lv_at hl 2 rfl) ?_
                    refine lv_if_eq (tgt := 103) hx hb dX11_next_90 (by decide) (fun c => absurd c (by decide)) (fun _ => ?_)
                    refine lv_iload hx hb dX11_next_93 (lv_at hl 1 rfl) ?_
                    refine lv_if_eq (tgt := 103) hx hb dX11_next_95 (by decide) (fun _ => ?_) (fun c => absurd c (by decide))
                    refine lv_ldc2 (v := (-1)) hx hb hown (htw _ (ck_34 _ (List.mem_of_getElem? (i := 18) rfl))) dX11_next_103 ?_
                    refine W.widen (k := 0) (n := 0) (by omega) (by omega) ?_
                    exact W.lret (v := (-1)) hx hb hr (fun t ht hW => ⟨⟨(-1), (), rfl, (xr_next1 (fun h => (fun h => h.elim c_161 (fun z => absurd c_181 (Int32.not_lt.mpr z.1))) h.2.1)).symm, trivial⟩, hS.F ht⟩) hS.2.2 dX11_next_106
          · refine lv_iload hx hb dX11_next_34 (lv_at hl 4 rfl) ?_
            refine lv_aload_n hx hb dX11_next_36 rfl (lv_at hl 1 rfl) ?_
            refine va_get (D := (dC, dI)) (ci := 11) (v := .ref b) (C := RX11) (T := TX11) (N := 13) hx hb htw inlX11 hown hK hP 0 rfl rfl 1 (by decide) (htw _ (ck_1 _ (List.mem_of_getElem? (i := 21) rfl))) (fun _ h9 => h9) rfl dX11_next_37 ?_
            refine va_get (D := (dC, dI)) (ci := 0) (v := .ref bsk) (C := RX0) (T := TX0) (N := 12) hx hb htw inlX0 hown hK hP 1 rfl rfl 3 (by decide) (htw _ (ck_37 _ (List.mem_of_getElem? (i := 13) rfl))) (fun _ h9 => h9) rfl dX11_next_40 ?_
            refine va_get (D := (dC, dI)) (ci := 9) (v := .int 7) (C := RX9) (T := TX9) (N := 7) hx hb htw inlX9 hown hK hP 3 rfl rfl 0 (by decide) (htw _ (ck_48 _ (List.mem_of_getElem? (i := 13) rfl))) (fun _ h9 => h9) rfl dX11_next_43 ?_
            refine lv_icmp_ge (tgt := 53) hx hb dX11_next_46 (by decide) (fun c_193 => ?_) (fun c_193 => ?_)
            · refine lv_iconst (v := 0) hx hb dX11_next_53 (by decide) ?_
              refine lv_istore (lv' := [(7, .int 0), (6, .int 1), (0, .ref x), (1, .long a0), (3, .int a1), (4, .int a2), (5, .int a3)]) hx hb dX11_next_54 hl (by decide) rfl (fun ls hl => ?_)
              refine lv_iload hx hb dX11_next_56 (lv_at hl 6 rfl) ?_
              refine lv_iconst (v := (-1)) hx hb dX11_next_58 (by decide) ?_
              refine lv_icmp_eq (tgt := 74) hx hb dX11_next_59 (by decide) (fun c_194 => ?_) (fun c_194 => ?_)
              · refine lv_iconst (v := 1) hx hb dX11_next_74 (by decide) ?_
                refine lv_goto (tgt := 79) hx hb dX11_next_75 (by decide) ?_
                refine lv_istore (lv' := [(8, .int 1), (7, .int 0), (6, .int 1), (0, .ref x), (1, .long a0), (3, .int a1), (4, .int a2), (5, .int a3)]) hx hb dX11_next_79 hl (by decide) rfl (fun ls hl => ?_)
                refine lv_lload_n hx hb dX11_next_81 rfl (lv_at hl 4 rfl) ?_
                have hPc := hP.sub (ws' := []) [] rfl
                have hKc := hK.sub (tys' := []) [] rfl
                refine vp_callSi (W.runS (As := [.long a0]) (rest := []) ⟨hx, hb, hml, hown, htw⟩ (mt_isCount l dC dI a0) (va_cwS 1 htw (xg_S (ck_35 _ (List.mem_of_getElem? (i := 15) rfl)) (ck_35 _ (List.mem_of_getElem? (i := 16) rfl)) (ck_1 _ (List.mem_of_getElem? (i := 2) rfl)) (ck_35 _ (List.mem_of_getElem? (i := 17) rfl))) rfl rfl rfl (by decide +kernel) ⟨Nat.le_of_ble_eq_true rfl, Nat.le_of_ble_eq_true rfl⟩) ⟨fun a U g mk q => by obtain ⟨q0, qP, qK⟩ := q; exact ⟨q0, qP, va_K.moved (u := U) (U := U.calling g mk a) (Vm.Alike.refl U.vm) qK⟩, fun U hU hW => ⟨rfl, by rw [hU]; exact hPc, va_K.moved hW.alike hKc⟩⟩ rfl rfl hl.1 rfl (lv_room (Nat.le_of_ble_eq_true rfl)) dX11_next_82 ⟨Nat.le_of_ble_eq_true rfl, Nat.le_of_ble_eq_true rfl⟩) (fun r_195 hw => ?_)
                try dsimp only at hw
                have hw_r_195 : r_195 = xg_cnt a0 := hw
                refine lv_if_eq (tgt := 103) hx hb dX11_next_85 (by decide) (fun c_196 => ?_) (fun c_196 => ?_)
                · refine lv_ldc2 (v := (-1)) hx hb hown (htw _ (ck_34 _ (List.mem_of_getElem? (i := 18) rfl))) dX11_next_103 ?_
                  refine W.widen (k := 0) (n := 0) (by omega) (by omega) ?_
                  exact W.lret (v := (-1)) hx hb hr (fun t ht hW => ⟨⟨(-1), (), rfl, (xr_next0 (hw_r_195.symm.trans c_196)).symm, trivial⟩, hS.F ht⟩) hS.2.2 dX11_next_106
                · refine lv_iload hx hb dX11_next_88 (lv_at hl 2 rfl) ?_
                  refine lv_if_eq (tgt := 103) hx hb dX11_next_90 (by decide) (fun c => absurd c (by decide)) (fun _ => ?_)
                  refine lv_iload hx hb dX11_next_93 (lv_at hl 1 rfl) ?_
                  refine lv_if_eq (tgt := 103) hx hb dX11_next_95 (by decide) (fun _ => ?_) (fun c => absurd c (by decide))
                  refine lv_ldc2 (v := (-1)) hx hb hown (htw _ (ck_34 _ (List.mem_of_getElem? (i := 18) rfl))) dX11_next_103 ?_
                  refine W.widen (k := 0) (n := 0) (by omega) (by omega) ?_
                  exact W.lret (v := (-1)) hx hb hr (fun t ht hW => ⟨⟨(-1), (), rfl, (xr_next1 (fun h => (fun h => h.elim c_161 (fun z => absurd c_193 (Int32.not_le.mpr z.2))) h.2.1)).symm, trivial⟩, hS.F ht⟩) hS.2.2 dX11_next_106
              · refine lv_iload hx hb dX11_next_62 (lv_at hl 6 rfl) ?_
                refine lv_if_lt (tgt := 78) hx hb dX11_next_64 (by decide) (fun c_197 => ?_) (fun c_197 => ?_)
                · refine lv_iconst (v := 0) hx hb dX11_next_78 (by decide) ?_
                  refine lv_istore (lv' := [(8, .int 0), (7, .int 0), (6, .int 1), (0, .ref x), (1, .long a0), (3, .int a1), (4, .int a2), (5, .int a3)]) hx hb dX11_next_79 hl (by decide) rfl (fun ls hl => ?_)
                  refine lv_lload_n hx hb dX11_next_81 rfl (lv_at hl 4 rfl) ?_
                  have hPc := hP.sub (ws' := []) [] rfl
                  have hKc := hK.sub (tys' := []) [] rfl
                  refine vp_callSi (W.runS (As := [.long a0]) (rest := []) ⟨hx, hb, hml, hown, htw⟩ (mt_isCount l dC dI a0) (va_cwS 1 htw (xg_S (ck_35 _ (List.mem_of_getElem? (i := 15) rfl)) (ck_35 _ (List.mem_of_getElem? (i := 16) rfl)) (ck_1 _ (List.mem_of_getElem? (i := 2) rfl)) (ck_35 _ (List.mem_of_getElem? (i := 17) rfl))) rfl rfl rfl (by decide +kernel) ⟨Nat.le_of_ble_eq_true rfl, Nat.le_of_ble_eq_true rfl⟩) ⟨fun a U g mk q => by obtain ⟨q0, qP, qK⟩ := q; exact ⟨q0, qP, va_K.moved (u := U) (U := U.calling g mk a) (Vm.Alike.refl U.vm) qK⟩, fun U hU hW => ⟨rfl, by rw [hU]; exact hPc, va_K.moved hW.alike hKc⟩⟩ rfl rfl hl.1 rfl (lv_room (Nat.le_of_ble_eq_true rfl)) dX11_next_82 ⟨Nat.le_of_ble_eq_true rfl, Nat.le_of_ble_eq_true rfl⟩) (fun r_198 hw => ?_)
                  try dsimp only at hw
                  have hw_r_198 : r_198 = xg_cnt a0 := hw
                  refine lv_if_eq (tgt := 103) hx hb dX11_next_85 (by decide) (fun c_199 => ?_) (fun c_199 => ?_)
                  · refine lv_ldc2 (v := (-1)) hx hb hown (htw _ (ck_34 _ (List.mem_of_getElem? (i := 18) rfl))) dX11_next_103 ?_
                    refine W.widen (k := 0) (n := 0) (by omega) (by omega) ?_
                    exact W.lret (v := (-1)) hx hb hr (fun t ht hW => ⟨⟨(-1), (), rfl, (xr_next0 (hw_r_198.symm.trans c_199)).symm, trivial⟩, hS.F ht⟩) hS.2.2 dX11_next_106
                  · refine lv_iload hx hb dX11_next_88 (lv_at hl 2 rfl) ?_
                    refine lv_if_eq (tgt := 103) hx hb dX11_next_90 (by decide) (fun c => absurd c (by decide)) (fun _ => ?_)
                    refine lv_iload hx hb dX11_next_93 (lv_at hl 1 rfl) ?_
                    refine lv_if_eq (tgt := 103) hx hb dX11_next_95 (by decide) (fun _ => ?_) (fun c => absurd c (by decide))
                    refine lv_ldc2 (v := (-1)) hx hb hown (htw _ (ck_34 _ (List.mem_of_getElem? (i := 18) rfl))) dX11_next_103 ?_
                    refine W.widen (k := 0) (n := 0) (by omega) (by omega) ?_
                    exact W.lret (v := (-1)) hx hb hr (fun t ht hW => ⟨⟨(-1), (), rfl, (xr_next1 (fun h => (fun h => h.elim c_161 (fun z => absurd c_193 (Int32.not_le.mpr z.2))) h.2.1)).symm, trivial⟩, hS.F ht⟩) hS.2.2 dX11_next_106
                · refine lv_iload hx hb dX11_next_67 (lv_at hl 6 rfl) ?_
                  refine lv_bipush (v := 7) hx hb dX11_next_69 (by decide) ?_
                  refine lv_icmp_gt (tgt := 78) hx hb dX11_next_71 (by decide) (fun c_200 => ?_) (fun c_200 => ?_)
                  · refine lv_iconst (v := 0) hx hb dX11_next_78 (by decide) ?_
                    refine lv_istore (lv' := [(8, .int 0), (7, .int 0), (6, .int 1), (0, .ref x), (1, .long a0), (3, .int a1), (4, .int a2), (5, .int a3)]) hx hb dX11_next_79 hl (by decide) rfl (fun ls hl => ?_)
                    refine lv_lload_n hx hb dX11_next_81 rfl (lv_at hl 4 rfl) ?_
                    have hPc := hP.sub (ws' := []) [] rfl
                    have hKc := hK.sub (tys' := []) [] rfl
                    refine vp_callSi (W.runS (As := [.long a0]) (rest := []) ⟨hx, hb, hml, hown, htw⟩ (mt_isCount l dC dI a0) (va_cwS 1 htw (xg_S (ck_35 _ (List.mem_of_getElem? (i := 15) rfl)) (ck_35 _ (List.mem_of_getElem? (i := 16) rfl)) (ck_1 _ (List.mem_of_getElem? (i := 2) rfl)) (ck_35 _ (List.mem_of_getElem? (i := 17) rfl))) rfl rfl rfl (by decide +kernel) ⟨Nat.le_of_ble_eq_true rfl, Nat.le_of_ble_eq_true rfl⟩) ⟨fun a U g mk q => by obtain ⟨q0, qP, qK⟩ := q; exact ⟨q0, qP, va_K.moved (u := U) (U := U.calling g mk a) (Vm.Alike.refl U.vm) qK⟩, fun U hU hW => ⟨rfl, by rw [hU]; exact hPc, va_K.moved hW.alike hKc⟩⟩ rfl rfl hl.1 rfl (lv_room (Nat.le_of_ble_eq_true rfl)) dX11_next_82 ⟨Nat.le_of_ble_eq_true rfl, Nat.le_of_ble_eq_true rfl⟩) (fun r_201 hw => ?_)
                    try dsimp only at hw
                    have hw_r_201 : r_201 = xg_cnt a0 := hw
                    refine lv_if_eq (tgt := 103) hx hb dX11_next_85 (by decide) (fun c_202 => ?_) (fun c_202 => ?_)
                    · refine lv_ldc2 (v := (-1)) hx hb hown (htw _ (ck_34 _ (List.mem_of_getElem? (i := 18) rfl))) dX11_next_103 ?_
                      refine W.widen (k := 0) (n := 0) (by omega) (by omega) ?_
                      exact W.lret (v := (-1)) hx hb hr (fun t ht hW => ⟨⟨(-1), (), rfl, (xr_next0 (hw_r_201.symm.trans c_202)).symm, trivial⟩, hS.F ht⟩) hS.2.2 dX11_next_106
                    · refine lv_iload hx hb dX11_next_88 (lv_at hl 2 rfl) ?_
                      refine lv_if_eq (tgt := 103) hx hb dX11_next_90 (by decide) (fun c => absurd c (by decide)) (fun _ => ?_)
                      refine lv_iload hx hb dX11_next_93 (lv_at hl 1 rfl) ?_
                      refine lv_if_eq (tgt := 103) hx hb dX11_next_95 (by decide) (fun _ => ?_) (fun c => absurd c (by decide))
                      refine lv_ldc2 (v := (-1)) hx hb hown (htw _ (ck_34 _ (List.mem_of_getElem? (i := 18) rfl))) dX11_next_103 ?_
                      refine W.widen (k := 0) (n := 0) (by omega) (by omega) ?_
                      exact W.lret (v := (-1)) hx hb hr (fun t ht hW => ⟨⟨(-1), (), rfl, (xr_next1 (fun h => (fun h => h.elim c_161 (fun z => absurd c_193 (Int32.not_le.mpr z.2))) h.2.1)).symm, trivial⟩, hS.F ht⟩) hS.2.2 dX11_next_106
                  · refine lv_iconst (v := 1) hx hb dX11_next_74 (by decide) ?_
                    refine lv_goto (tgt := 79) hx hb dX11_next_75 (by decide) ?_
                    refine lv_istore (lv' := [(8, .int 1), (7, .int 0), (6, .int 1), (0, .ref x), (1, .long a0), (3, .int a1), (4, .int a2), (5, .int a3)]) hx hb dX11_next_79 hl (by decide) rfl (fun ls hl => ?_)
                    refine lv_lload_n hx hb dX11_next_81 rfl (lv_at hl 4 rfl) ?_
                    have hPc := hP.sub (ws' := []) [] rfl
                    have hKc := hK.sub (tys' := []) [] rfl
                    refine vp_callSi (W.runS (As := [.long a0]) (rest := []) ⟨hx, hb, hml, hown, htw⟩ (mt_isCount l dC dI a0) (va_cwS 1 htw (xg_S (ck_35 _ (List.mem_of_getElem? (i := 15) rfl)) (ck_35 _ (List.mem_of_getElem? (i := 16) rfl)) (ck_1 _ (List.mem_of_getElem? (i := 2) rfl)) (ck_35 _ (List.mem_of_getElem? (i := 17) rfl))) rfl rfl rfl (by decide +kernel) ⟨Nat.le_of_ble_eq_true rfl, Nat.le_of_ble_eq_true rfl⟩) ⟨fun a U g mk q => by obtain ⟨q0, qP, qK⟩ := q; exact ⟨q0, qP, va_K.moved (u := U) (U := U.calling g mk a) (Vm.Alike.refl U.vm) qK⟩, fun U hU hW => ⟨rfl, by rw [hU]; exact hPc, va_K.moved hW.alike hKc⟩⟩ rfl rfl hl.1 rfl (lv_room (Nat.le_of_ble_eq_true rfl)) dX11_next_82 ⟨Nat.le_of_ble_eq_true rfl, Nat.le_of_ble_eq_true rfl⟩) (fun r_203 hw => ?_)
                    try dsimp only at hw
                    have hw_r_203 : r_203 = xg_cnt a0 := hw
                    refine lv_if_eq (tgt := 103) hx hb dX11_next_85 (by decide) (fun c_204 => ?_) (fun c_204 => ?_)
                    · refine lv_ldc2 (v := (-1)) hx hb hown (htw _ (ck_34 _ (List.mem_of_getElem? (i := 18) rfl))) dX11_next_103 ?_
                      refine W.widen (k := 0) (n := 0) (by omega) (by omega) ?_
                      exact W.lret (v := (-1)) hx hb hr (fun t ht hW => ⟨⟨(-1), (), rfl, (xr_next0 (hw_r_203.symm.trans c_204)).symm, trivial⟩, hS.F ht⟩) hS.2.2 dX11_next_106
                    · refine lv_iload hx hb dX11_next_88 (lv_at hl 2 rfl) ?_
                      refine lv_if_eq (tgt := 103) hx hb dX11_next_90 (by decide) (fun c => absurd c (by decide)) (fun _ => ?_)
                      refine lv_iload hx hb dX11_next_93 (lv_at hl 1 rfl) ?_
                      refine lv_if_eq (tgt := 103) hx hb dX11_next_95 (by decide) (fun _ => ?_) (fun c => absurd c (by decide))
                      refine lv_ldc2 (v := (-1)) hx hb hown (htw _ (ck_34 _ (List.mem_of_getElem? (i := 18) rfl))) dX11_next_103 ?_
                      refine W.widen (k := 0) (n := 0) (by omega) (by omega) ?_
                      exact W.lret (v := (-1)) hx hb hr (fun t ht hW => ⟨⟨(-1), (), rfl, (xr_next1 (fun h => (fun h => h.elim c_161 (fun z => absurd c_193 (Int32.not_le.mpr z.2))) h.2.1)).symm, trivial⟩, hS.F ht⟩) hS.2.2 dX11_next_106
            · refine lv_iconst (v := 1) hx hb dX11_next_49 (by decide) ?_
              refine lv_goto (tgt := 54) hx hb dX11_next_50 (by decide) ?_
              refine lv_istore (lv' := [(7, .int 1), (6, .int 1), (0, .ref x), (1, .long a0), (3, .int a1), (4, .int a2), (5, .int a3)]) hx hb dX11_next_54 hl (by decide) rfl (fun ls hl => ?_)
              refine lv_iload hx hb dX11_next_56 (lv_at hl 6 rfl) ?_
              refine lv_iconst (v := (-1)) hx hb dX11_next_58 (by decide) ?_
              refine lv_icmp_eq (tgt := 74) hx hb dX11_next_59 (by decide) (fun c_205 => ?_) (fun c_205 => ?_)
              · refine lv_iconst (v := 1) hx hb dX11_next_74 (by decide) ?_
                refine lv_goto (tgt := 79) hx hb dX11_next_75 (by decide) ?_
                refine lv_istore (lv' := [(8, .int 1), (7, .int 1), (6, .int 1), (0, .ref x), (1, .long a0), (3, .int a1), (4, .int a2), (5, .int a3)]) hx hb dX11_next_79 hl (by decide) rfl (fun ls hl => ?_)
                refine lv_lload_n hx hb dX11_next_81 rfl (lv_at hl 4 rfl) ?_
                have hPc := hP.sub (ws' := []) [] rfl
                have hKc := hK.sub (tys' := []) [] rfl
                refine vp_callSi (W.runS (As := [.long a0]) (rest := []) ⟨hx, hb, hml, hown, htw⟩ (mt_isCount l dC dI a0) (va_cwS 1 htw (xg_S (ck_35 _ (List.mem_of_getElem? (i := 15) rfl)) (ck_35 _ (List.mem_of_getElem? (i := 16) rfl)) (ck_1 _ (List.mem_of_getElem? (i := 2) rfl)) (ck_35 _ (List.mem_of_getElem? (i := 17) rfl))) rfl rfl rfl (by decide +kernel) ⟨Nat.le_of_ble_eq_true rfl, Nat.le_of_ble_eq_true rfl⟩) ⟨fun a U g mk q => by obtain ⟨q0, qP, qK⟩ := q; exact ⟨q0, qP, va_K.moved (u := U) (U := U.calling g mk a) (Vm.Alike.refl U.vm) qK⟩, fun U hU hW => ⟨rfl, by rw [hU]; exact hPc, va_K.moved hW.alike hKc⟩⟩ rfl rfl hl.1 rfl (lv_room (Nat.le_of_ble_eq_true rfl)) dX11_next_82 ⟨Nat.le_of_ble_eq_true rfl, Nat.le_of_ble_eq_true rfl⟩) (fun r_206 hw => ?_)
                try dsimp only at hw
                have hw_r_206 : r_206 = xg_cnt a0 := hw
                refine lv_if_eq (tgt := 103) hx hb dX11_next_85 (by decide) (fun c_207 => ?_) (fun c_207 => ?_)
                · refine lv_ldc2 (v := (-1)) hx hb hown (htw _ (ck_34 _ (List.mem_of_getElem? (i := 18) rfl))) dX11_next_103 ?_
                  refine W.widen (k := 0) (n := 0) (by omega) (by omega) ?_
                  exact W.lret (v := (-1)) hx hb hr (fun t ht hW => ⟨⟨(-1), (), rfl, (xr_next0 (hw_r_206.symm.trans c_207)).symm, trivial⟩, hS.F ht⟩) hS.2.2 dX11_next_106
                · refine lv_iload hx hb dX11_next_88 (lv_at hl 2 rfl) ?_
                  refine lv_if_eq (tgt := 103) hx hb dX11_next_90 (by decide) (fun c => absurd c (by decide)) (fun _ => ?_)
                  refine lv_iload hx hb dX11_next_93 (lv_at hl 1 rfl) ?_
                  refine lv_if_eq (tgt := 103) hx hb dX11_next_95 (by decide) (fun c => absurd c (by decide)) (fun _ => ?_)
                  refine lv_iload hx hb dX11_next_98 (lv_at hl 0 rfl) ?_
                  refine lv_if_ne (tgt := 107) hx hb dX11_next_100 (by decide) (fun _ => ?_) (fun c => absurd c (by decide))
                  have hask : xr_ask a1 a2 a3 := ⟨Or.inr ⟨Int32.not_lt.mp c_65, Int32.not_lt.mp c_113⟩, Or.inr ⟨Int32.not_lt.mp c_181, Int32.not_le.mp c_193⟩, Or.inl c_205⟩
                  have hok := xr_ask_ok hask
                  refine lv_aload_n hx hb dX11_next_107 rfl (lv_at hl 3 rfl) ?_
                  refine va_get (D := (dC, dI)) (ci := 11) (v := .ref xwi) (C := RX11) (T := TX11) (N := 13) hx hb htw inlX11 hown hK hP 0 rfl rfl 12 (by decide) (htw _ (ck_2 _ (List.mem_of_getElem? (i := 22) rfl))) (fun _ h9 => h9) rfl dX11_next_108 ?_
                  have hPc := hP.sub (ws' := [(xwi, .inr (10, [.int 0, .int 0, .int 0, .int 0, .int 0]))]) [4] rfl
                  have hKc := hK.sub (tys' := []) [] rfl
                  have hDc := hD.sub (ws' := [(xwi, .inr (10, [.int 0, .int 0, .int 0, .int 0, .int 0]))]) [4] (by decide) rfl
                  have hFc := va_free (wc := [(xwi, .inr (10, [.int 0, .int 0, .int 0, .int 0, .int 0]))]) hD hS hA [4] rfl
                  refine va_callv (va_runV (As := []) (rest := []) ⟨hx, hb, hml, hown, htw⟩ (mt_wclear l dC dI xwi (0 : Int32) (0 : Int32) (0 : Int32) (0 : Int32) (0 : Int32) H.size) (cwV 0 htw (xg_V (ck_42 _ (List.mem_of_getElem? (i := 4) rfl)) (ck_42 _ (List.mem_of_getElem? (i := 5) rfl)) (ck_42 _ (List.mem_of_getElem? (i := 6) rfl)) (ck_2 _ (List.mem_of_getElem? (i := 21) rfl)) (ck_42 _ (List.mem_of_getElem? (i := 7) rfl))) rfl rfl rfl (by decide +kernel) ⟨Nat.le_of_ble_eq_true rfl, Nat.le_of_ble_eq_true rfl⟩) ⟨fun a U g mk q => by obtain ⟨q0, q1, qP, qK, qD⟩ := q; exact ⟨q0, q1, qP, va_K.moved (u := U) (U := U.calling g mk a) (Vm.Alike.refl U.vm) qK, qD⟩, va_recv hKc hPc (ci := 10) (q0 := 0) rfl rfl, fun U hU hW => ⟨rfl, by rw [hU], by rw [hU]; exact hPc, va_K.moved hW.alike hKc, hDc.weaken (fun _ _ _ _ => trivial)⟩⟩ rfl rfl hl.1 rfl (lv_room (Nat.le_of_ble_eq_true rfl)) dX11_next_111 ⟨Nat.le_of_ble_eq_true rfl, Nat.le_of_ble_eq_true rfl⟩) hS (fun q _ h => hFc q h) hFc (fun u_209 t H1 locs ht hvm hw hB hz1 hk1 hS => ?_)
                  try dsimp only at hw
                  obtain ⟨hP1, hK1, hD1⟩ := hB
                  rw [ht] at hP1
                  have hK1 := va_K.moved hvm.symm hK1
                  have hP1 : va_P (dC, dI) vwCl [(xwi, .inr (10, [.int (-1), .int (-1), .int (-1), .int (-1), .int (-1)]))] H1 := hP1
                  have hD1 : va_D (va_A [(xwi, .inr (10, [.int 0, .int 0, .int 0, .int 0, .int 0]))] H.size) [(xwi, .inr (10, [.int (-1), .int (-1), .int (-1), .int (-1), .int (-1)]))] := hD1
                  have hK1 : va_K (dC, dI) vwCl [] s := hK1
                  obtain ⟨hP, hD⟩ := va_join (wr := [(x, .inr (11, [.ref xpa, .ref b, .ref xsp, .ref xdy, .ref xle, .ref xst, .int 0, .ref xim, .ref xil, .int 0, .ref xmo, .ref xom, .ref xwi])), (b, .inr (0, [.ref bto, .ref bnm, .ref bla, .ref bsk, .ref bru, .ref bbo, .ref bdi, .ref bda, .ref bdk, .ref bdt, .ref bdp, .ref bno])), (bto, .inl (bcT, 5, .inl (fun _ => 0))), (bsk, .inr (9, [.int 7, .int 0, .int 59, .int 2, .int 0, .int 1461, .int 4])), (xmo, .inr (4, [.null, .long 0, .long 0, .long 0, .long 0]))]) (w1 := [(xwi, .inr (10, [.int (-1), .int (-1), .int (-1), .int (-1), .int (-1)]))]) hP hD [4] [0, 1, 2, 3, 5] rfl rfl (by decide) (by decide) hk1 hFc hP1 hD1
                  generalize H1 = H at hP hS ⊢
                  have hP : va_P (dC, dI) vwCl [(x, .inr (11, [.ref xpa, .ref b, .ref xsp, .ref xdy, .ref xle, .ref xst, .int 0, .ref xim, .ref xil, .int 0, .ref xmo, .ref xom, .ref xwi])), (b, .inr (0, [.ref bto, .ref bnm, .ref bla, .ref bsk, .ref bru, .ref bbo, .ref bdi, .ref bda, .ref bdk, .ref bdt, .ref bdp, .ref bno])), (bto, .inl (bcT, 5, .inl (fun _ => 0))), (bsk, .inr (9, [.int 7, .int 0, .int 59, .int 2, .int 0, .int 1461, .int 4])), (xmo, .inr (4, [.null, .long 0, .long 0, .long 0, .long 0])), (xwi, .inr (10, [.int (-1), .int (-1), .int (-1), .int (-1), .int (-1)]))] H := hP
                  have hD : va_D A [(x, .inr (11, [.ref xpa, .ref b, .ref xsp, .ref xdy, .ref xle, .ref xst, .int 0, .ref xim, .ref xil, .int 0, .ref xmo, .ref xom, .ref xwi])), (b, .inr (0, [.ref bto, .ref bnm, .ref bla, .ref bsk, .ref bru, .ref bbo, .ref bdi, .ref bda, .ref bdk, .ref bdt, .ref bdp, .ref bno])), (bto, .inl (bcT, 5, .inl (fun _ => 0))), (bsk, .inr (9, [.int 7, .int 0, .int 59, .int 2, .int 0, .int 1461, .int 4])), (xmo, .inr (4, [.null, .long 0, .long 0, .long 0, .long 0])), (xwi, .inr (10, [.int (-1), .int (-1), .int (-1), .int (-1), .int (-1)]))] := hD
                  refine W.widen (k := 0) (n := 0) (by omega) (by omega) ?_
                  refine lv_aload_n hx hb dX11_next_114 rfl (lv_at hl 3 rfl) ?_
                  refine va_get (D := (dC, dI)) (ci := 11) (v := .ref xwi) (C := RX11) (T := TX11) (N := 13) hx hb htw inlX11 hown hK hP 0 rfl rfl 12 (by decide) (htw _ (ck_2 _ (List.mem_of_getElem? (i := 22) rfl))) (fun _ h9 => h9) rfl dX11_next_115 ?_
                  refine lv_iload_n hx hb dX11_next_118 rfl (lv_at hl 5 rfl) ?_
                  refine va_put (D := (dC, dI)) (ci := 10) (v := .int a1) (ty := tyX10 0) (C := RX10) (T := TX10) (N := 5) hx hb htw inlX10 tyX10 tyX10_ok nmX10 hown hK hP hD hS 5 rfl rfl 0 (by decide) (htw _ (ck_48 _ (List.mem_of_getElem? (i := 14) rfl))) (fun _ h9 => h9) rfl (by decide +kernel) rfl rfl (Nat.le_of_ble_eq_true rfl) dX11_next_119 (fun H locs hP hD hS => ?_)
                  have hP : va_P (dC, dI) vwCl [(x, .inr (11, [.ref xpa, .ref b, .ref xsp, .ref xdy, .ref xle, .ref xst, .int 0, .ref xim, .ref xil, .int 0, .ref xmo, .ref xom, .ref xwi])), (b, .inr (0, [.ref bto, .ref bnm, .ref bla, .ref bsk, .ref bru, .ref bbo, .ref bdi, .ref bda, .ref bdk, .ref bdt, .ref bdp, .ref bno])), (bto, .inl (bcT, 5, .inl (fun _ => 0))), (bsk, .inr (9, [.int 7, .int 0, .int 59, .int 2, .int 0, .int 1461, .int 4])), (xmo, .inr (4, [.null, .long 0, .long 0, .long 0, .long 0])), (xwi, .inr (10, [.int a1, .int (-1), .int (-1), .int (-1), .int (-1)]))] H := hP
                  have hD : va_D A [(x, .inr (11, [.ref xpa, .ref b, .ref xsp, .ref xdy, .ref xle, .ref xst, .int 0, .ref xim, .ref xil, .int 0, .ref xmo, .ref xom, .ref xwi])), (b, .inr (0, [.ref bto, .ref bnm, .ref bla, .ref bsk, .ref bru, .ref bbo, .ref bdi, .ref bda, .ref bdk, .ref bdt, .ref bdp, .ref bno])), (bto, .inl (bcT, 5, .inl (fun _ => 0))), (bsk, .inr (9, [.int 7, .int 0, .int 59, .int 2, .int 0, .int 1461, .int 4])), (xmo, .inr (4, [.null, .long 0, .long 0, .long 0, .long 0])), (xwi, .inr (10, [.int a1, .int (-1), .int (-1), .int (-1), .int (-1)]))] := hD
                  refine lv_aload_n hx hb dX11_next_122 rfl (lv_at hl 3 rfl) ?_
                  refine va_get (D := (dC, dI)) (ci := 11) (v := .ref xwi) (C := RX11) (T := TX11) (N := 13) hx hb htw inlX11 hown hK hP 0 rfl rfl 12 (by decide) (htw _ (ck_2 _ (List.mem_of_getElem? (i := 22) rfl))) (fun _ h9 => h9) rfl dX11_next_123 ?_
                  refine lv_iload hx hb dX11_next_126 (lv_at hl 6 rfl) ?_
                  refine va_put (D := (dC, dI)) (ci := 10) (v := .int a2) (ty := tyX10 1) (C := RX10) (T := TX10) (N := 5) hx hb htw inlX10 tyX10 tyX10_ok nmX10 hown hK hP hD hS 5 rfl rfl 1 (by decide) (htw _ (ck_48 _ (List.mem_of_getElem? (i := 15) rfl))) (fun _ h9 => h9) rfl (by decide +kernel) rfl rfl (Nat.le_of_ble_eq_true rfl) dX11_next_128 (fun H locs hP hD hS => ?_)
                  have hP : va_P (dC, dI) vwCl [(x, .inr (11, [.ref xpa, .ref b, .ref xsp, .ref xdy, .ref xle, .ref xst, .int 0, .ref xim, .ref xil, .int 0, .ref xmo, .ref xom, .ref xwi])), (b, .inr (0, [.ref bto, .ref bnm, .ref bla, .ref bsk, .ref bru, .ref bbo, .ref bdi, .ref bda, .ref bdk, .ref bdt, .ref bdp, .ref bno])), (bto, .inl (bcT, 5, .inl (fun _ => 0))), (bsk, .inr (9, [.int 7, .int 0, .int 59, .int 2, .int 0, .int 1461, .int 4])), (xmo, .inr (4, [.null, .long 0, .long 0, .long 0, .long 0])), (xwi, .inr (10, [.int a1, .int a2, .int (-1), .int (-1), .int (-1)]))] H := hP
                  have hD : va_D A [(x, .inr (11, [.ref xpa, .ref b, .ref xsp, .ref xdy, .ref xle, .ref xst, .int 0, .ref xim, .ref xil, .int 0, .ref xmo, .ref xom, .ref xwi])), (b, .inr (0, [.ref bto, .ref bnm, .ref bla, .ref bsk, .ref bru, .ref bbo, .ref bdi, .ref bda, .ref bdk, .ref bdt, .ref bdp, .ref bno])), (bto, .inl (bcT, 5, .inl (fun _ => 0))), (bsk, .inr (9, [.int 7, .int 0, .int 59, .int 2, .int 0, .int 1461, .int 4])), (xmo, .inr (4, [.null, .long 0, .long 0, .long 0, .long 0])), (xwi, .inr (10, [.int a1, .int a2, .int (-1), .int (-1), .int (-1)]))] := hD
                  refine lv_aload_n hx hb dX11_next_131 rfl (lv_at hl 3 rfl) ?_
                  refine va_get (D := (dC, dI)) (ci := 11) (v := .ref xwi) (C := RX11) (T := TX11) (N := 13) hx hb htw inlX11 hown hK hP 0 rfl rfl 12 (by decide) (htw _ (ck_2 _ (List.mem_of_getElem? (i := 22) rfl))) (fun _ h9 => h9) rfl dX11_next_132 ?_
                  refine lv_iload hx hb dX11_next_135 (lv_at hl 7 rfl) ?_
                  refine va_put (D := (dC, dI)) (ci := 10) (v := .int a3) (ty := tyX10 2) (C := RX10) (T := TX10) (N := 5) hx hb htw inlX10 tyX10 tyX10_ok nmX10 hown hK hP hD hS 5 rfl rfl 2 (by decide) (htw _ (ck_48 _ (List.mem_of_getElem? (i := 16) rfl))) (fun _ h9 => h9) rfl (by decide +kernel) rfl rfl (Nat.le_of_ble_eq_true rfl) dX11_next_137 (fun H locs hP hD hS => ?_)
                  have hP : va_P (dC, dI) vwCl [(x, .inr (11, [.ref xpa, .ref b, .ref xsp, .ref xdy, .ref xle, .ref xst, .int 0, .ref xim, .ref xil, .int 0, .ref xmo, .ref xom, .ref xwi])), (b, .inr (0, [.ref bto, .ref bnm, .ref bla, .ref bsk, .ref bru, .ref bbo, .ref bdi, .ref bda, .ref bdk, .ref bdt, .ref bdp, .ref bno])), (bto, .inl (bcT, 5, .inl (fun _ => 0))), (bsk, .inr (9, [.int 7, .int 0, .int 59, .int 2, .int 0, .int 1461, .int 4])), (xmo, .inr (4, [.null, .long 0, .long 0, .long 0, .long 0])), (xwi, .inr (10, [.int a1, .int a2, .int a3, .int (-1), .int (-1)]))] H := hP
                  have hD : va_D A [(x, .inr (11, [.ref xpa, .ref b, .ref xsp, .ref xdy, .ref xle, .ref xst, .int 0, .ref xim, .ref xil, .int 0, .ref xmo, .ref xom, .ref xwi])), (b, .inr (0, [.ref bto, .ref bnm, .ref bla, .ref bsk, .ref bru, .ref bbo, .ref bdi, .ref bda, .ref bdk, .ref bdt, .ref bdp, .ref bno])), (bto, .inl (bcT, 5, .inl (fun _ => 0))), (bsk, .inr (9, [.int 7, .int 0, .int 59, .int 2, .int 0, .int 1461, .int 4])), (xmo, .inr (4, [.null, .long 0, .long 0, .long 0, .long 0])), (xwi, .inr (10, [.int a1, .int a2, .int a3, .int (-1), .int (-1)]))] := hD
                  refine lv_aload_n hx hb dX11_next_140 rfl (lv_at hl 3 rfl) ?_
                  refine lv_lload_n hx hb dX11_next_141 rfl (lv_at hl 4 rfl) ?_
                  have hPc := hP.sub (ws' := [(x, .inr (11, [.ref xpa, .ref b, .ref xsp, .ref xdy, .ref xle, .ref xst, .int 0, .ref xim, .ref xil, .int 0, .ref xmo, .ref xom, .ref xwi])), (b, .inr (0, [.ref bto, .ref bnm, .ref bla, .ref bsk, .ref bru, .ref bbo, .ref bdi, .ref bda, .ref bdk, .ref bdt, .ref bdp, .ref bno])), (bto, .inl (bcT, 5, .inl (fun _ => 0))), (bsk, .inr (9, [.int 7, .int 0, .int 59, .int 2, .int 0, .int 1461, .int 4])), (xwi, .inr (10, [.int a1, .int a2, .int a3, .int (-1), .int (-1)])), (xmo, .inr (4, [.null, .long 0, .long 0, .long 0, .long 0]))]) [0, 1, 2, 3, 5, 4] rfl
                  have hKc := hK.sub (tys' := [(bcT, .int)]) [0] rfl
                  have hDc := hD.sub (ws' := [(x, .inr (11, [.ref xpa, .ref b, .ref xsp, .ref xdy, .ref xle, .ref xst, .int 0, .ref xim, .ref xil, .int 0, .ref xmo, .ref xom, .ref xwi])), (b, .inr (0, [.ref bto, .ref bnm, .ref bla, .ref bsk, .ref bru, .ref bbo, .ref bdi, .ref bda, .ref bdk, .ref bdt, .ref bdp, .ref bno])), (bto, .inl (bcT, 5, .inl (fun _ => 0))), (bsk, .inr (9, [.int 7, .int 0, .int 59, .int 2, .int 0, .int 1461, .int 4])), (xwi, .inr (10, [.int a1, .int a2, .int a3, .int (-1), .int (-1)])), (xmo, .inr (4, [.null, .long 0, .long 0, .long 0, .long 0]))]) [0, 1, 2, 3, 5, 4] (by decide) rfl
                  have hFc := va_free (wc := [(x, .inr (11, [.ref xpa, .ref b, .ref xsp, .ref xdy, .ref xle, .ref xst, .int 0, .ref xim, .ref xil, .int 0, .ref xmo, .ref xom, .ref xwi])), (b, .inr (0, [.ref bto, .ref bnm, .ref bla, .ref bsk, .ref bru, .ref bbo, .ref bdi, .ref bda, .ref bdk, .ref bdt, .ref bdp, .ref bno])), (bto, .inl (bcT, 5, .inl (fun _ => 0))), (bsk, .inr (9, [.int 7, .int 0, .int 59, .int 2, .int 0, .int 1461, .int 4])), (xwi, .inr (10, [.int a1, .int a2, .int a3, .int (-1), .int (-1)])), (xmo, .inr (4, [.null, .long 0, .long 0, .long 0, .long 0]))]) hD hS hA [0, 1, 2, 3, 5, 4] rfl
                  refine va_calll (va_runV (As := [.long a0]) (rest := []) ⟨hx, hb, hml, hown, htw⟩ (mt_first l dC dI x xpa xsp xdy xle xst xim xil xmo xom xwi b bto bnm bla bsk bru bbo bdi bda bdk bdt bdp bno bcT a1 a2 a3 a0 H.size hok) (cwV 1 htw (xg_V (ck_42 _ (List.mem_of_getElem? (i := 13) rfl)) (ck_42 _ (List.mem_of_getElem? (i := 14) rfl)) (ck_42 _ (List.mem_of_getElem? (i := 15) rfl)) (ck_1 _ (List.mem_of_getElem? (i := 2) rfl)) (ck_42 _ (List.mem_of_getElem? (i := 16) rfl))) rfl rfl rfl (by decide +kernel) ⟨Nat.le_of_ble_eq_true rfl, Nat.le_of_ble_eq_true rfl⟩) ⟨fun a U g mk q => by obtain ⟨q0, q1, qP, qK, qD⟩ := q; exact ⟨q0, q1, qP, va_K.moved (u := U) (U := U.calling g mk a) (Vm.Alike.refl U.vm) qK, qD⟩, va_recv hKc hPc (ci := 11) (q0 := 0) rfl rfl, fun U hU hW => ⟨rfl, by rw [hU], by rw [hU]; exact hPc, va_K.moved hW.alike hKc, hDc.weaken (fun _ _ _ _ => trivial)⟩⟩ rfl rfl hl.1 rfl (lv_room (Nat.le_of_ble_eq_true rfl)) dX11_next_142 ⟨Nat.le_of_ble_eq_true rfl, Nat.le_of_ble_eq_true rfl⟩) hS (fun q _ h => hFc q h) hFc (fun r_210 u_211 t H1 locs ht hvm hw hB hz1 hk1 hS => ?_)
                  try dsimp only at hw
                  have hP1 : va_P (dC, dI) vwCl [] H1 := fun k q h => by simp at h
                  have hD1 : va_D (va_A [(x, .inr (11, [.ref xpa, .ref b, .ref xsp, .ref xdy, .ref xle, .ref xst, .int 0, .ref xim, .ref xil, .int 0, .ref xmo, .ref xom, .ref xwi])), (b, .inr (0, [.ref bto, .ref bnm, .ref bla, .ref bsk, .ref bru, .ref bbo, .ref bdi, .ref bda, .ref bdk, .ref bdt, .ref bdp, .ref bno])), (bto, .inl (bcT, 5, .inl (fun _ => 0))), (bsk, .inr (9, [.int 7, .int 0, .int 59, .int 2, .int 0, .int 1461, .int 4])), (xwi, .inr (10, [.int a1, .int a2, .int a3, .int (-1), .int (-1)])), (xmo, .inr (4, [.null, .long 0, .long 0, .long 0, .long 0]))] H.size) [] := ⟨fun i j p q h => by simp at h, fun k q h => by simp at h⟩
                  obtain ⟨hP, hD⟩ := va_join (wr := []) (w1 := []) hP hD [0, 1, 2, 3, 5, 4] [] rfl rfl (by decide) (by decide) hk1 hFc hP1 hD1
                  generalize H1 = H at hP hS ⊢
                  have hP : va_P (dC, dI) vwCl [] H := hP
                  have hD : va_D A [] := hD
                  refine W.widen (k := 0) (n := 0) (by omega) (by omega) ?_
                  obtain rfl : r_210 = xn_go a1 a2 a3 20000 a0 := hw
                  refine W.widen (k := 0) (n := 0) (by omega) (by omega) ?_
                  exact W.lret (v := xn_go a1 a2 a3 20000 a0) hx hb hr (fun t ht hW => ⟨⟨xn_go a1 a2 a3 20000 a0, (), rfl, (xr_next2 (fun h => c_207 (hw_r_206.trans h)) hask).symm, trivial⟩, hS.F ht⟩) hS.2.2 dX11_next_145
              · refine lv_iload hx hb dX11_next_62 (lv_at hl 6 rfl) ?_
                refine lv_if_lt (tgt := 78) hx hb dX11_next_64 (by decide) (fun c_212 => ?_) (fun c_212 => ?_)
                · refine lv_iconst (v := 0) hx hb dX11_next_78 (by decide) ?_
                  refine lv_istore (lv' := [(8, .int 0), (7, .int 1), (6, .int 1), (0, .ref x), (1, .long a0), (3, .int a1), (4, .int a2), (5, .int a3)]) hx hb dX11_next_79 hl (by decide) rfl (fun ls hl => ?_)
                  refine lv_lload_n hx hb dX11_next_81 rfl (lv_at hl 4 rfl) ?_
                  have hPc := hP.sub (ws' := []) [] rfl
                  have hKc := hK.sub (tys' := []) [] rfl
                  refine vp_callSi (W.runS (As := [.long a0]) (rest := []) ⟨hx, hb, hml, hown, htw⟩ (mt_isCount l dC dI a0) (va_cwS 1 htw (xg_S (ck_35 _ (List.mem_of_getElem? (i := 15) rfl)) (ck_35 _ (List.mem_of_getElem? (i := 16) rfl)) (ck_1 _ (List.mem_of_getElem? (i := 2) rfl)) (ck_35 _ (List.mem_of_getElem? (i := 17) rfl))) rfl rfl rfl (by decide +kernel) ⟨Nat.le_of_ble_eq_true rfl, Nat.le_of_ble_eq_true rfl⟩) ⟨fun a U g mk q => by obtain ⟨q0, qP, qK⟩ := q; exact ⟨q0, qP, va_K.moved (u := U) (U := U.calling g mk a) (Vm.Alike.refl U.vm) qK⟩, fun U hU hW => ⟨rfl, by rw [hU]; exact hPc, va_K.moved hW.alike hKc⟩⟩ rfl rfl hl.1 rfl (lv_room (Nat.le_of_ble_eq_true rfl)) dX11_next_82 ⟨Nat.le_of_ble_eq_true rfl, Nat.le_of_ble_eq_true rfl⟩) (fun r_213 hw => ?_)
                  try dsimp only at hw
                  have hw_r_213 : r_213 = xg_cnt a0 := hw
                  refine lv_if_eq (tgt := 103) hx hb dX11_next_85 (by decide) (fun c_214 => ?_) (fun c_214 => ?_)
                  · refine lv_ldc2 (v := (-1)) hx hb hown (htw _ (ck_34 _ (List.mem_of_getElem? (i := 18) rfl))) dX11_next_103 ?_
                    refine W.widen (k := 0) (n := 0) (by omega) (by omega) ?_
                    exact W.lret (v := (-1)) hx hb hr (fun t ht hW => ⟨⟨(-1), (), rfl, (xr_next0 (hw_r_213.symm.trans c_214)).symm, trivial⟩, hS.F ht⟩) hS.2.2 dX11_next_106
                  · refine lv_iload hx hb dX11_next_88 (lv_at hl 2 rfl) ?_
                    refine lv_if_eq (tgt := 103) hx hb dX11_next_90 (by decide) (fun c => absurd c (by decide)) (fun _ => ?_)
                    refine lv_iload hx hb dX11_next_93 (lv_at hl 1 rfl) ?_
                    refine lv_if_eq (tgt := 103) hx hb dX11_next_95 (by decide) (fun c => absurd c (by decide)) (fun _ => ?_)
                    refine lv_iload hx hb dX11_next_98 (lv_at hl 0 rfl) ?_
                    refine lv_if_ne (tgt := 107) hx hb dX11_next_100 (by decide) (fun c => absurd c (by decide)) (fun _ => ?_)
                    refine lv_ldc2 (v := (-1)) hx hb hown (htw _ (ck_34 _ (List.mem_of_getElem? (i := 18) rfl))) dX11_next_103 ?_
                    refine W.widen (k := 0) (n := 0) (by omega) (by omega) ?_
                    exact W.lret (v := (-1)) hx hb hr (fun t ht hW => ⟨⟨(-1), (), rfl, (xr_next1 (fun h => (fun h => h.elim c_205 (fun z => absurd c_212 (Int32.not_lt.mpr z.1))) h.2.2)).symm, trivial⟩, hS.F ht⟩) hS.2.2 dX11_next_106
                · refine lv_iload hx hb dX11_next_67 (lv_at hl 6 rfl) ?_
                  refine lv_bipush (v := 7) hx hb dX11_next_69 (by decide) ?_
                  refine lv_icmp_gt (tgt := 78) hx hb dX11_next_71 (by decide) (fun c_215 => ?_) (fun c_215 => ?_)
                  · refine lv_iconst (v := 0) hx hb dX11_next_78 (by decide) ?_
                    refine lv_istore (lv' := [(8, .int 0), (7, .int 1), (6, .int 1), (0, .ref x), (1, .long a0), (3, .int a1), (4, .int a2), (5, .int a3)]) hx hb dX11_next_79 hl (by decide) rfl (fun ls hl => ?_)
                    refine lv_lload_n hx hb dX11_next_81 rfl (lv_at hl 4 rfl) ?_
                    have hPc := hP.sub (ws' := []) [] rfl
                    have hKc := hK.sub (tys' := []) [] rfl
                    refine vp_callSi (W.runS (As := [.long a0]) (rest := []) ⟨hx, hb, hml, hown, htw⟩ (mt_isCount l dC dI a0) (va_cwS 1 htw (xg_S (ck_35 _ (List.mem_of_getElem? (i := 15) rfl)) (ck_35 _ (List.mem_of_getElem? (i := 16) rfl)) (ck_1 _ (List.mem_of_getElem? (i := 2) rfl)) (ck_35 _ (List.mem_of_getElem? (i := 17) rfl))) rfl rfl rfl (by decide +kernel) ⟨Nat.le_of_ble_eq_true rfl, Nat.le_of_ble_eq_true rfl⟩) ⟨fun a U g mk q => by obtain ⟨q0, qP, qK⟩ := q; exact ⟨q0, qP, va_K.moved (u := U) (U := U.calling g mk a) (Vm.Alike.refl U.vm) qK⟩, fun U hU hW => ⟨rfl, by rw [hU]; exact hPc, va_K.moved hW.alike hKc⟩⟩ rfl rfl hl.1 rfl (lv_room (Nat.le_of_ble_eq_true rfl)) dX11_next_82 ⟨Nat.le_of_ble_eq_true rfl, Nat.le_of_ble_eq_true rfl⟩) (fun r_216 hw => ?_)
                    try dsimp only at hw
                    have hw_r_216 : r_216 = xg_cnt a0 := hw
                    refine lv_if_eq (tgt := 103) hx hb dX11_next_85 (by decide) (fun c_217 => ?_) (fun c_217 => ?_)
                    · refine lv_ldc2 (v := (-1)) hx hb hown (htw _ (ck_34 _ (List.mem_of_getElem? (i := 18) rfl))) dX11_next_103 ?_
                      refine W.widen (k := 0) (n := 0) (by omega) (by omega) ?_
                      exact W.lret (v := (-1)) hx hb hr (fun t ht hW => ⟨⟨(-1), (), rfl, (xr_next0 (hw_r_216.symm.trans c_217)).symm, trivial⟩, hS.F ht⟩) hS.2.2 dX11_next_106
                    · refine lv_iload hx hb dX11_next_88 (lv_at hl 2 rfl) ?_
                      refine lv_if_eq (tgt := 103) hx hb dX11_next_90 (by decide) (fun c => absurd c (by decide)) (fun _ => ?_)
                      refine lv_iload hx hb dX11_next_93 (lv_at hl 1 rfl) ?_
                      refine lv_if_eq (tgt := 103) hx hb dX11_next_95 (by decide) (fun c => absurd c (by decide)) (fun _ => ?_)
                      refine lv_iload hx hb dX11_next_98 (lv_at hl 0 rfl) ?_
                      refine lv_if_ne (tgt := 107) hx hb dX11_next_100 (by decide) (fun c => absurd c (by decide)) (fun _ => ?_)
                      refine lv_ldc2 (v := (-1)) hx hb hown (htw _ (ck_34 _ (List.mem_of_getElem? (i := 18) rfl))) dX11_next_103 ?_
                      refine W.widen (k := 0) (n := 0) (by omega) (by omega) ?_
                      exact W.lret (v := (-1)) hx hb hr (fun t ht hW => ⟨⟨(-1), (), rfl, (xr_next1 (fun h => (fun h => h.elim c_205 (fun z => absurd c_215 (Int32.not_lt.mpr z.2))) h.2.2)).symm, trivial⟩, hS.F ht⟩) hS.2.2 dX11_next_106
                  · refine lv_iconst (v := 1) hx hb dX11_next_74 (by decide) ?_
                    refine lv_goto (tgt := 79) hx hb dX11_next_75 (by decide) ?_
                    refine lv_istore (lv' := [(8, .int 1), (7, .int 1), (6, .int 1), (0, .ref x), (1, .long a0), (3, .int a1), (4, .int a2), (5, .int a3)]) hx hb dX11_next_79 hl (by decide) rfl (fun ls hl => ?_)
                    refine lv_lload_n hx hb dX11_next_81 rfl (lv_at hl 4 rfl) ?_
                    have hPc := hP.sub (ws' := []) [] rfl
                    have hKc := hK.sub (tys' := []) [] rfl
                    refine vp_callSi (W.runS (As := [.long a0]) (rest := []) ⟨hx, hb, hml, hown, htw⟩ (mt_isCount l dC dI a0) (va_cwS 1 htw (xg_S (ck_35 _ (List.mem_of_getElem? (i := 15) rfl)) (ck_35 _ (List.mem_of_getElem? (i := 16) rfl)) (ck_1 _ (List.mem_of_getElem? (i := 2) rfl)) (ck_35 _ (List.mem_of_getElem? (i := 17) rfl))) rfl rfl rfl (by decide +kernel) ⟨Nat.le_of_ble_eq_true rfl, Nat.le_of_ble_eq_true rfl⟩) ⟨fun a U g mk q => by obtain ⟨q0, qP, qK⟩ := q; exact ⟨q0, qP, va_K.moved (u := U) (U := U.calling g mk a) (Vm.Alike.refl U.vm) qK⟩, fun U hU hW => ⟨rfl, by rw [hU]; exact hPc, va_K.moved hW.alike hKc⟩⟩ rfl rfl hl.1 rfl (lv_room (Nat.le_of_ble_eq_true rfl)) dX11_next_82 ⟨Nat.le_of_ble_eq_true rfl, Nat.le_of_ble_eq_true rfl⟩) (fun r_218 hw => ?_)
                    try dsimp only at hw
                    have hw_r_218 : r_218 = xg_cnt a0 := hw
                    refine lv_if_eq (tgt := 103) hx hb dX11_next_85 (by decide) (fun c_219 => ?_) (fun c_219 => ?_)
                    · refine lv_ldc2 (v := (-1)) hx hb hown (htw _ (ck_34 _ (List.mem_of_getElem? (i := 18) rfl))) dX11_next_103 ?_
                      refine W.widen (k := 0) (n := 0) (by omega) (by omega) ?_
                      exact W.lret (v := (-1)) hx hb hr (fun t ht hW => ⟨⟨(-1), (), rfl, (xr_next0 (hw_r_218.symm.trans c_219)).symm, trivial⟩, hS.F ht⟩) hS.2.2 dX11_next_106
                    · refine lv_iload hx hb dX11_next_88 (lv_at hl 2 rfl) ?_
                      refine lv_if_eq (tgt := 103) hx hb dX11_next_90 (by decide) (fun c => absurd c (by decide)) (fun _ => ?_)
                      refine lv_iload hx hb dX11_next_93 (lv_at hl 1 rfl) ?_
                      refine lv_if_eq (tgt := 103) hx hb dX11_next_95 (by decide) (fun c => absurd c (by decide)) (fun _ => ?_)
                      refine lv_iload hx hb dX11_next_98 (lv_at hl 0 rfl) ?_
                      refine lv_if_ne (tgt := 107) hx hb dX11_next_100 (by decide) (fun _ => ?_) (fun c => absurd c (by decide))
                      have hask : xr_ask a1 a2 a3 := ⟨Or.inr ⟨Int32.not_lt.mp c_65, Int32.not_lt.mp c_113⟩, Or.inr ⟨Int32.not_lt.mp c_181, Int32.not_le.mp c_193⟩, Or.inr ⟨Int32.not_lt.mp c_212, Int32.not_lt.mp c_215⟩⟩
                      have hok := xr_ask_ok hask
                      refine lv_aload_n hx hb dX11_next_107 rfl (lv_at hl 3 rfl) ?_
                      refine va_get (D := (dC, dI)) (ci := 11) (v := .ref xwi) (C := RX11) (T := TX11) (N := 13) hx hb htw inlX11 hown hK hP 0 rfl rfl 12 (by decide) (htw _ (ck_2 _ (List.mem_of_getElem? (i := 22) rfl))) (fun _ h9 => h9) rfl dX11_next_108 ?_
                      have hPc := hP.sub (ws' := [(xwi, .inr (10, [.int 0, .int 0, .int 0, .int 0, .int 0]))]) [4] rfl
                      have hKc := hK.sub (tys' := []) [] rfl
                      have hDc := hD.sub (ws' := [(xwi, .inr (10, [.int 0, .int 0, .int 0, .int 0, .int 0]))]) [4] (by decide) rfl
                      have hFc := va_free (wc := [(xwi, .inr (10, [.int 0, .int 0, .int 0, .int 0, .int 0]))]) hD hS hA [4] rfl
                      refine va_callv (va_runV (As := []) (rest := []) ⟨hx, hb, hml, hown, htw⟩ (mt_wclear l dC dI xwi (0 : Int32) (0 : Int32) (0 : Int32) (0 : Int32) (0 : Int32) H.size) (cwV 0 htw (xg_V (ck_42 _ (List.mem_of_getElem? (i := 4) rfl)) (ck_42 _ (List.mem_of_getElem? (i := 5) rfl)) (ck_42 _ (List.mem_of_getElem? (i := 6) rfl)) (ck_2 _ (List.mem_of_getElem? (i := 21) rfl)) (ck_42 _ (List.mem_of_getElem? (i := 7) rfl))) rfl rfl rfl (by decide +kernel) ⟨Nat.le_of_ble_eq_true rfl, Nat.le_of_ble_eq_true rfl⟩) ⟨fun a U g mk q => by obtain ⟨q0, q1, qP, qK, qD⟩ := q; exact ⟨q0, q1, qP, va_K.moved (u := U) (U := U.calling g mk a) (Vm.Alike.refl U.vm) qK, qD⟩, va_recv hKc hPc (ci := 10) (q0 := 0) rfl rfl, fun U hU hW => ⟨rfl, by rw [hU], by rw [hU]; exact hPc, va_K.moved hW.alike hKc, hDc.weaken (fun _ _ _ _ => trivial)⟩⟩ rfl rfl hl.1 rfl (lv_room (Nat.le_of_ble_eq_true rfl)) dX11_next_111 ⟨Nat.le_of_ble_eq_true rfl, Nat.le_of_ble_eq_true rfl⟩) hS (fun q _ h => hFc q h) hFc (fun u_221 t H1 locs ht hvm hw hB hz1 hk1 hS => ?_)
                      try dsimp only at hw
                      obtain ⟨hP1, hK1, hD1⟩ := hB
                      rw [ht] at hP1
                      have hK1 := va_K.moved hvm.symm hK1
                      have hP1 : va_P (dC, dI) vwCl [(xwi, .inr (10, [.int (-1), .int (-1), .int (-1), .int (-1), .int (-1)]))] H1 := hP1
                      have hD1 : va_D (va_A [(xwi, .inr (10, [.int 0, .int 0, .int 0, .int 0, .int 0]))] H.size) [(xwi, .inr (10, [.int (-1), .int (-1), .int (-1), .int (-1), .int (-1)]))] := hD1
                      have hK1 : va_K (dC, dI) vwCl [] s := hK1
                      obtain ⟨hP, hD⟩ := va_join (wr := [(x, .inr (11, [.ref xpa, .ref b, .ref xsp, .ref xdy, .ref xle, .ref xst, .int 0, .ref xim, .ref xil, .int 0, .ref xmo, .ref xom, .ref xwi])), (b, .inr (0, [.ref bto, .ref bnm, .ref bla, .ref bsk, .ref bru, .ref bbo, .ref bdi, .ref bda, .ref bdk, .ref bdt, .ref bdp, .ref bno])), (bto, .inl (bcT, 5, .inl (fun _ => 0))), (bsk, .inr (9, [.int 7, .int 0, .int 59, .int 2, .int 0, .int 1461, .int 4])), (xmo, .inr (4, [.null, .long 0, .long 0, .long 0, .long 0]))]) (w1 := [(xwi, .inr (10, [.int (-1), .int (-1), .int (-1), .int (-1), .int (-1)]))]) hP hD [4] [0, 1, 2, 3, 5] rfl rfl (by decide) (by decide) hk1 hFc hP1 hD1
                      generalize H1 = H at hP hS ⊢
                      have hP : va_P (dC, dI) vwCl [(x, .inr (11, [.ref xpa, .ref b, .ref xsp, .ref xdy, .ref xle, .ref xst, .int 0, .ref xim, .ref xil, .int 0, .ref xmo, .ref xom, .ref xwi])), (b, .inr (0, [.ref bto, .ref bnm, .ref bla, .ref bsk, .ref bru, .ref bbo, .ref bdi, .ref bda, .ref bdk, .ref bdt, .ref bdp, .ref bno])), (bto, .inl (bcT, 5, .inl (fun _ => 0))), (bsk, .inr (9, [.int 7, .int 0, .int 59, .int 2, .int 0, .int 1461, .int 4])), (xmo, .inr (4, [.null, .long 0, .long 0, .long 0, .long 0])), (xwi, .inr (10, [.int (-1), .int (-1), .int (-1), .int (-1), .int (-1)]))] H := hP
                      have hD : va_D A [(x, .inr (11, [.ref xpa, .ref b, .ref xsp, .ref xdy, .ref xle, .ref xst, .int 0, .ref xim, .ref xil, .int 0, .ref xmo, .ref xom, .ref xwi])), (b, .inr (0, [.ref bto, .ref bnm, .ref bla, .ref bsk, .ref bru, .ref bbo, .ref bdi, .ref bda, .ref bdk, .ref bdt, .ref bdp, .ref bno])), (bto, .inl (bcT, 5, .inl (fun _ => 0))), (bsk, .inr (9, [.int 7, .int 0, .int 59, .int 2, .int 0, .int 1461, .int 4])), (xmo, .inr (4, [.null, .long 0, .long 0, .long 0, .long 0])), (xwi, .inr (10, [.int (-1), .int (-1), .int (-1), .int (-1), .int (-1)]))] := hD
                      refine W.widen (k := 0) (n := 0) (by omega) (by omega) ?_
                      refine lv_aload_n hx hb dX11_next_114 rfl (lv_at hl 3 rfl) ?_
                      refine va_get (D := (dC, dI)) (ci := 11) (v := .ref xwi) (C := RX11) (T := TX11) (N := 13) hx hb htw inlX11 hown hK hP 0 rfl rfl 12 (by decide) (htw _ (ck_2 _ (List.mem_of_getElem? (i := 22) rfl))) (fun _ h9 => h9) rfl dX11_next_115 ?_
                      refine lv_iload_n hx hb dX11_next_118 rfl (lv_at hl 5 rfl) ?_
                      refine va_put (D := (dC, dI)) (ci := 10) (v := .int a1) (ty := tyX10 0) (C := RX10) (T := TX10) (N := 5) hx hb htw inlX10 tyX10 tyX10_ok nmX10 hown hK hP hD hS 5 rfl rfl 0 (by decide) (htw _ (ck_48 _ (List.mem_of_getElem? (i := 14) rfl))) (fun _ h9 => h9) rfl (by decide +kernel) rfl rfl (Nat.le_of_ble_eq_true rfl) dX11_next_119 (fun H locs hP hD hS => ?_)
                      have hP : va_P (dC, dI) vwCl [(x, .inr (11, [.ref xpa, .ref b, .ref xsp, .ref xdy, .ref xle, .ref xst, .int 0, .ref xim, .ref xil, .int 0, .ref xmo, .ref xom, .ref xwi])), (b, .inr (0, [.ref bto, .ref bnm, .ref bla, .ref bsk, .ref bru, .ref bbo, .ref bdi, .ref bda, .ref bdk, .ref bdt, .ref bdp, .ref bno])), (bto, .inl (bcT, 5, .inl (fun _ => 0))), (bsk, .inr (9, [.int 7, .int 0, .int 59, .int 2, .int 0, .int 1461, .int 4])), (xmo, .inr (4, [.null, .long 0, .long 0, .long 0, .long 0])), (xwi, .inr (10, [.int a1, .int (-1), .int (-1), .int (-1), .int (-1)]))] H := hP
                      have hD : va_D A [(x, .inr (11, [.ref xpa, .ref b, .ref xsp, .ref xdy, .ref xle, .ref xst, .int 0, .ref xim, .ref xil, .int 0, .ref xmo, .ref xom, .ref xwi])), (b, .inr (0, [.ref bto, .ref bnm, .ref bla, .ref bsk, .ref bru, .ref bbo, .ref bdi, .ref bda, .ref bdk, .ref bdt, .ref bdp, .ref bno])), (bto, .inl (bcT, 5, .inl (fun _ => 0))), (bsk, .inr (9, [.int 7, .int 0, .int 59, .int 2, .int 0, .int 1461, .int 4])), (xmo, .inr (4, [.null, .long 0, .long 0, .long 0, .long 0])), (xwi, .inr (10, [.int a1, .int (-1), .int (-1), .int (-1), .int (-1)]))] := hD
                      refine lv_aload_n hx hb dX11_next_122 rfl (lv_at hl 3 rfl) ?_
                      refine va_get (D := (dC, dI)) (ci := 11) (v := .ref xwi) (C := RX11) (T := TX11) (N := 13) hx hb htw inlX11 hown hK hP 0 rfl rfl 12 (by decide) (htw _ (ck_2 _ (List.mem_of_getElem? (i := 22) rfl))) (fun _ h9 => h9) rfl dX11_next_123 ?_
                      refine lv_iload hx hb dX11_next_126 (lv_at hl 6 rfl) ?_
                      refine va_put (D := (dC, dI)) (ci := 10) (v := .int a2) (ty := tyX10 1) (C := RX10) (T := TX10) (N := 5) hx hb htw inlX10 tyX10 tyX10_ok nmX10 hown hK hP hD hS 5 rfl rfl 1 (by decide) (htw _ (ck_48 _ (List.mem_of_getElem? (i := 15) rfl))) (fun _ h9 => h9) rfl (by decide +kernel) rfl rfl (Nat.le_of_ble_eq_true rfl) dX11_next_128 (fun H locs hP hD hS => ?_)
                      have hP : va_P (dC, dI) vwCl [(x, .inr (11, [.ref xpa, .ref b, .ref xsp, .ref xdy, .ref xle, .ref xst, .int 0, .ref xim, .ref xil, .int 0, .ref xmo, .ref xom, .ref xwi])), (b, .inr (0, [.ref bto, .ref bnm, .ref bla, .ref bsk, .ref bru, .ref bbo, .ref bdi, .ref bda, .ref bdk, .ref bdt, .ref bdp, .ref bno])), (bto, .inl (bcT, 5, .inl (fun _ => 0))), (bsk, .inr (9, [.int 7, .int 0, .int 59, .int 2, .int 0, .int 1461, .int 4])), (xmo, .inr (4, [.null, .long 0, .long 0, .long 0, .long 0])), (xwi, .inr (10, [.int a1, .int a2, .int (-1), .int (-1), .int (-1)]))] H := hP
                      have hD : va_D A [(x, .inr (11, [.ref xpa, .ref b, .ref xsp, .ref xdy, .ref xle, .ref xst, .int 0, .ref xim, .ref xil, .int 0, .ref xmo, .ref xom, .ref xwi])), (b, .inr (0, [.ref bto, .ref bnm, .ref bla, .ref bsk, .ref bru, .ref bbo, .ref bdi, .ref bda, .ref bdk, .ref bdt, .ref bdp, .ref bno])), (bto, .inl (bcT, 5, .inl (fun _ => 0))), (bsk, .inr (9, [.int 7, .int 0, .int 59, .int 2, .int 0, .int 1461, .int 4])), (xmo, .inr (4, [.null, .long 0, .long 0, .long 0, .long 0])), (xwi, .inr (10, [.int a1, .int a2, .int (-1), .int (-1), .int (-1)]))] := hD
                      refine lv_aload_n hx hb dX11_next_131 rfl (lv_at hl 3 rfl) ?_
                      refine va_get (D := (dC, dI)) (ci := 11) (v := .ref xwi) (C := RX11) (T := TX11) (N := 13) hx hb htw inlX11 hown hK hP 0 rfl rfl 12 (by decide) (htw _ (ck_2 _ (List.mem_of_getElem? (i := 22) rfl))) (fun _ h9 => h9) rfl dX11_next_132 ?_
                      refine lv_iload hx hb dX11_next_135 (lv_at hl 7 rfl) ?_
                      refine va_put (D := (dC, dI)) (ci := 10) (v := .int a3) (ty := tyX10 2) (C := RX10) (T := TX10) (N := 5) hx hb htw inlX10 tyX10 tyX10_ok nmX10 hown hK hP hD hS 5 rfl rfl 2 (by decide) (htw _ (ck_48 _ (List.mem_of_getElem? (i := 16) rfl))) (fun _ h9 => h9) rfl (by decide +kernel) rfl rfl (Nat.le_of_ble_eq_true rfl) dX11_next_137 (fun H locs hP hD hS => ?_)
                      have hP : va_P (dC, dI) vwCl [(x, .inr (11, [.ref xpa, .ref b, .ref xsp, .ref xdy, .ref xle, .ref xst, .int 0, .ref xim, .ref xil, .int 0, .ref xmo, .ref xom, .ref xwi])), (b, .inr (0, [.ref bto, .ref bnm, .ref bla, .ref bsk, .ref bru, .ref bbo, .ref bdi, .ref bda, .ref bdk, .ref bdt, .ref bdp, .ref bno])), (bto, .inl (bcT, 5, .inl (fun _ => 0))), (bsk, .inr (9, [.int 7, .int 0, .int 59, .int 2, .int 0, .int 1461, .int 4])), (xmo, .inr (4, [.null, .long 0, .long 0, .long 0, .long 0])), (xwi, .inr (10, [.int a1, .int a2, .int a3, .int (-1), .int (-1)]))] H := hP
                      have hD : va_D A [(x, .inr (11, [.ref xpa, .ref b, .ref xsp, .ref xdy, .ref xle, .ref xst, .int 0, .ref xim, .ref xil, .int 0, .ref xmo, .ref xom, .ref xwi])), (b, .inr (0, [.ref bto, .ref bnm, .ref bla, .ref bsk, .ref bru, .ref bbo, .ref bdi, .ref bda, .ref bdk, .ref bdt, .ref bdp, .ref bno])), (bto, .inl (bcT, 5, .inl (fun _ => 0))), (bsk, .inr (9, [.int 7, .int 0, .int 59, .int 2, .int 0, .int 1461, .int 4])), (xmo, .inr (4, [.null, .long 0, .long 0, .long 0, .long 0])), (xwi, .inr (10, [.int a1, .int a2, .int a3, .int (-1), .int (-1)]))] := hD
                      refine lv_aload_n hx hb dX11_next_140 rfl (lv_at hl 3 rfl) ?_
                      refine lv_lload_n hx hb dX11_next_141 rfl (lv_at hl 4 rfl) ?_
                      have hPc := hP.sub (ws' := [(x, .inr (11, [.ref xpa, .ref b, .ref xsp, .ref xdy, .ref xle, .ref xst, .int 0, .ref xim, .ref xil, .int 0, .ref xmo, .ref xom, .ref xwi])), (b, .inr (0, [.ref bto, .ref bnm, .ref bla, .ref bsk, .ref bru, .ref bbo, .ref bdi, .ref bda, .ref bdk, .ref bdt, .ref bdp, .ref bno])), (bto, .inl (bcT, 5, .inl (fun _ => 0))), (bsk, .inr (9, [.int 7, .int 0, .int 59, .int 2, .int 0, .int 1461, .int 4])), (xwi, .inr (10, [.int a1, .int a2, .int a3, .int (-1), .int (-1)])), (xmo, .inr (4, [.null, .long 0, .long 0, .long 0, .long 0]))]) [0, 1, 2, 3, 5, 4] rfl
                      have hKc := hK.sub (tys' := [(bcT, .int)]) [0] rfl
                      have hDc := hD.sub (ws' := [(x, .inr (11, [.ref xpa, .ref b, .ref xsp, .ref xdy, .ref xle, .ref xst, .int 0, .ref xim, .ref xil, .int 0, .ref xmo, .ref xom, .ref xwi])), (b, .inr (0, [.ref bto, .ref bnm, .ref bla, .ref bsk, .ref bru, .ref bbo, .ref bdi, .ref bda, .ref bdk, .ref bdt, .ref bdp, .ref bno])), (bto, .inl (bcT, 5, .inl (fun _ => 0))), (bsk, .inr (9, [.int 7, .int 0, .int 59, .int 2, .int 0, .int 1461, .int 4])), (xwi, .inr (10, [.int a1, .int a2, .int a3, .int (-1), .int (-1)])), (xmo, .inr (4, [.null, .long 0, .long 0, .long 0, .long 0]))]) [0, 1, 2, 3, 5, 4] (by decide) rfl
                      have hFc := va_free (wc := [(x, .inr (11, [.ref xpa, .ref b, .ref xsp, .ref xdy, .ref xle, .ref xst, .int 0, .ref xim, .ref xil, .int 0, .ref xmo, .ref xom, .ref xwi])), (b, .inr (0, [.ref bto, .ref bnm, .ref bla, .ref bsk, .ref bru, .ref bbo, .ref bdi, .ref bda, .ref bdk, .ref bdt, .ref bdp, .ref bno])), (bto, .inl (bcT, 5, .inl (fun _ => 0))), (bsk, .inr (9, [.int 7, .int 0, .int 59, .int 2, .int 0, .int 1461, .int 4])), (xwi, .inr (10, [.int a1, .int a2, .int a3, .int (-1), .int (-1)])), (xmo, .inr (4, [.null, .long 0, .long 0, .long 0, .long 0]))]) hD hS hA [0, 1, 2, 3, 5, 4] rfl
                      refine va_calll (va_runV (As := [.long a0]) (rest := []) ⟨hx, hb, hml, hown, htw⟩ (mt_first l dC dI x xpa xsp xdy xle xst xim xil xmo xom xwi b bto bnm bla bsk bru bbo bdi bda bdk bdt bdp bno bcT a1 a2 a3 a0 H.size hok) (cwV 1 htw (xg_V (ck_42 _ (List.mem_of_getElem? (i := 13) rfl)) (ck_42 _ (List.mem_of_getElem? (i := 14) rfl)) (ck_42 _ (List.mem_of_getElem? (i := 15) rfl)) (ck_1 _ (List.mem_of_getElem? (i := 2) rfl)) (ck_42 _ (List.mem_of_getElem? (i := 16) rfl))) rfl rfl rfl (by decide +kernel) ⟨Nat.le_of_ble_eq_true rfl, Nat.le_of_ble_eq_true rfl⟩) ⟨fun a U g mk q => by obtain ⟨q0, q1, qP, qK, qD⟩ := q; exact ⟨q0, q1, qP, va_K.moved (u := U) (U := U.calling g mk a) (Vm.Alike.refl U.vm) qK, qD⟩, va_recv hKc hPc (ci := 11) (q0 := 0) rfl rfl, fun U hU hW => ⟨rfl, by rw [hU], by rw [hU]; exact hPc, va_K.moved hW.alike hKc, hDc.weaken (fun _ _ _ _ => trivial)⟩⟩ rfl rfl hl.1 rfl (lv_room (Nat.le_of_ble_eq_true rfl)) dX11_next_142 ⟨Nat.le_of_ble_eq_true rfl, Nat.le_of_ble_eq_true rfl⟩) hS (fun q _ h => hFc q h) hFc (fun r_222 u_223 t H1 locs ht hvm hw hB hz1 hk1 hS => ?_)
                      try dsimp only at hw
                      have hP1 : va_P (dC, dI) vwCl [] H1 := fun k q h => by simp at h
                      have hD1 : va_D (va_A [(x, .inr (11, [.ref xpa, .ref b, .ref xsp, .ref xdy, .ref xle, .ref xst, .int 0, .ref xim, .ref xil, .int 0, .ref xmo, .ref xom, .ref xwi])), (b, .inr (0, [.ref bto, .ref bnm, .ref bla, .ref bsk, .ref bru, .ref bbo, .ref bdi, .ref bda, .ref bdk, .ref bdt, .ref bdp, .ref bno])), (bto, .inl (bcT, 5, .inl (fun _ => 0))), (bsk, .inr (9, [.int 7, .int 0, .int 59, .int 2, .int 0, .int 1461, .int 4])), (xwi, .inr (10, [.int a1, .int a2, .int a3, .int (-1), .int (-1)])), (xmo, .inr (4, [.null, .long 0, .long 0, .long 0, .long 0]))] H.size) [] := ⟨fun i j p q h => by simp at h, fun k q h => by simp at h⟩
                      obtain ⟨hP, hD⟩ := va_join (wr := []) (w1 := []) hP hD [0, 1, 2, 3, 5, 4] [] rfl rfl (by decide) (by decide) hk1 hFc hP1 hD1
                      generalize H1 = H at hP hS ⊢
                      have hP : va_P (dC, dI) vwCl [] H := hP
                      have hD : va_D A [] := hD
                      refine W.widen (k := 0) (n := 0) (by omega) (by omega) ?_
                      obtain rfl : r_222 = xn_go a1 a2 a3 20000 a0 := hw
                      refine W.widen (k := 0) (n := 0) (by omega) (by omega) ?_
                      exact W.lret (v := xn_go a1 a2 a3 20000 a0) hx hb hr (fun t ht hW => ⟨⟨xn_go a1 a2 a3 20000 a0, (), rfl, (xr_next2 (fun h => c_219 (hw_r_218.trans h)) hask).symm, trivial⟩, hS.F ht⟩) hS.2.2 dX11_next_145
