theorem dX0_has_0 : decode cX0_has 0 = .ok (.iload_n 1, 1) := by decide +kernel
theorem dX0_has_1 : decode cX0_has 1 = .ok (.ifCond .lt 26, 3) := by decide +kernel
theorem dX0_has_27 : decode cX0_has 27 = .ok (.iconst 0, 1) := by decide +kernel
theorem dX0_has_28 : decode cX0_has 28 = .ok (.ireturn, 1) := by decide +kernel
theorem dX0_has_4 : decode cX0_has 4 = .ok (.iload_n 1, 1) := by decide +kernel
theorem dX0_has_5 : decode cX0_has 5 = .ok (.iconst 5, 1) := by decide +kernel
theorem dX0_has_6 : decode cX0_has 6 = .ok (.if_icmp .ge 21, 3) := by decide +kernel
theorem dX0_has_9 : decode cX0_has 9 = .ok (.iload_n 2, 1) := by decide +kernel
theorem dX0_has_10 : decode cX0_has 10 = .ok (.ifCond .lt 17, 3) := by decide +kernel
theorem dX0_has_13 : decode cX0_has 13 = .ok (.iload_n 2, 1) := by decide +kernel
theorem dX0_has_14 : decode cX0_has 14 = .ok (.aload_n 0, 1) := by decide +kernel
theorem dX0_has_15 : decode cX0_has 15 = .ok (.getfield 9, 3) := by decide +kernel
theorem dX0_has_18 : decode cX0_has 18 = .ok (.iload_n 1, 1) := by decide +kernel
theorem dX0_has_19 : decode cX0_has 19 = .ok (.iaload, 1) := by decide +kernel
theorem dX0_has_20 : decode cX0_has 20 = .ok (.if_icmp .ge 7, 3) := by decide +kernel
set_option maxHeartbeats 4000000 in
set_option maxRecDepth 100000 in
/-- nothing is told: has() is false -/
theorem mt_has (l : Launch) (dC : Nat → ClassId) (dI : Nat → Nat → Nat) (b : Nat) (bto : Nat) (bnm : Nat) (bla : Nat) (bsk : Nat) (bru : Nat) (bbo : Nat) (bdi : Nat) (bda : Nat) (bdk : Nat) (bdt : Nat) (bdp : Nat) (bno : Nat) (bcT : ClassId) (k0 : Int32) (k1 : Int32) : Met l yX0_has (Cond.code yX0_has cX0_has 3 (some .boolean) :: wsL_law) ({ frames := 0, cells := 0, slots := 0, locals := 0 }) (va_Pc [.ref b, .int k0, .int k1] (fun U => va_P (dC, dI) vwCl [(b, .inr (0, [.ref bto, .ref bnm, .ref bla, .ref bsk, .ref bru, .ref bbo, .ref bdi, .ref bda, .ref bdk, .ref bdt, .ref bdp, .ref bno])), (bto, .inl (bcT, 5, .inl (fun _ => 0)))] U.heap ∧ va_K (dC, dI) vwCl [(bcT, .int)] U)) (vp_Si (fun r => r = 0)) 0 0 (fun _ => False) := by
  refine Met.ofW (cc := cX0_has) (maxL := 3) (ret := (some .boolean)) (by decide) rfl ?_
  intro p e s m args below meth c s₁ B hml hv
  obtain ⟨rfl, hP, hK⟩ := hv
  have hx := B.exec
  have hb := B.bytes
  have hr := B.returns
  have hts := atoms_spec (ws := Cond.code yX0_has cX0_has 3 (some .boolean) :: wsL_law) B.pre
  have htw : ∀ w ∈ wsL_law, w.before _ s = true := fun w h => hts w (List.mem_cons_of_mem _ h)
  have hown : s.vm.findClass RX0 = some m.cls := findClass_of_methodNamed B.named
  have hlocks := B.notSynchronized
  have hl := lv_entry ([.ref b, .int k0, .int k1]) (n := 3) (Nat.le_of_ble_eq_true rfl)
  rw [lg_entry_eq]
  generalize (lg_sl ([.ref b, .int k0, .int k1]) ++ List.replicate (3 - (lg_sl ([.ref b, .int k0, .int k1])).length) Slot.unset).toArray = ls at hl ⊢
  have hl : lv_has ls 3 [(0, .ref b), (1, .int k0), (2, .int k1)] := hl
  refine lv_iload_n hx hb dX0_has_0 rfl (lv_at hl 1 rfl) ?_
  refine lv_if_lt (tgt := 27) hx hb dX0_has_1 (by decide) (fun c_1 => ?_) (fun c_1 => ?_)
  · refine lv_iconst (v := 0) hx hb dX0_has_27 (by decide) ?_
    exact W.zret (v := 0) hx hb hr (by first | rfl | decide) (fun t ht hW => ⟨0, rfl, rfl, ht⟩) (fun _ h => by cases h) dX0_has_28
  · refine lv_iload_n hx hb dX0_has_4 rfl (lv_at hl 1 rfl) ?_
    refine lv_iconst (v := 5) hx hb dX0_has_5 (by decide) ?_
    refine lv_icmp_ge (tgt := 27) hx hb dX0_has_6 (by decide) (fun c_2 => ?_) (fun c_2 => ?_)
    · refine lv_iconst (v := 0) hx hb dX0_has_27 (by decide) ?_
      exact W.zret (v := 0) hx hb hr (by first | rfl | decide) (fun t ht hW => ⟨0, rfl, rfl, ht⟩) (fun _ h => by cases h) dX0_has_28
    · refine lv_iload_n hx hb dX0_has_9 rfl (lv_at hl 2 rfl) ?_
      refine lv_if_lt (tgt := 27) hx hb dX0_has_10 (by decide) (fun c_3 => ?_) (fun c_3 => ?_)
      · refine lv_iconst (v := 0) hx hb dX0_has_27 (by decide) ?_
        exact W.zret (v := 0) hx hb hr (by first | rfl | decide) (fun t ht hW => ⟨0, rfl, rfl, ht⟩) (fun _ h => by cases h) dX0_has_28
      · refine lv_iload_n hx hb dX0_has_13 rfl (lv_at hl 2 rfl) ?_
        refine lv_aload_n hx hb dX0_has_14 rfl (lv_at hl 0 rfl) ?_
        refine va_get (D := (dC, dI)) (ci := 0) (v := .ref bto) (C := RX0) (T := TX0) (N := 12) hx hb htw inlX0 hown hK hP 0 rfl rfl 0 (by decide) (htw _ (ck_5 _ (List.mem_of_getElem? (i := 21) rfl))) (fun _ h9 => h9) rfl dX0_has_15 ?_
        refine lv_iload_n hx hb dX0_has_18 rfl (lv_at hl 1 rfl) ?_
        refine va_iald hx hb hK hP 1 0 rfl rfl (xg_inr (N := 5) rfl c_1 c_2) dX0_has_19 ?_
        refine lv_topi (fun z_4 ez_4 => ?_)
        obtain rfl : z_4 = 0 := ez_4.trans (rfl)
        refine lv_icmp_ge (tgt := 27) hx hb dX0_has_20 (by decide) (fun c_5 => ?_) (fun c_5 => absurd c_5 (fun h => h (xg_nlt c_3)))
        refine lv_iconst (v := 0) hx hb dX0_has_27 (by decide) ?_
        exact W.zret (v := 0) hx hb hr (by first | rfl | decide) (fun t ht hW => ⟨0, rfl, rfl, ht⟩) (fun _ h => by cases h) dX0_has_28

theorem dX0_landAt_0 : decode cX0_landAt 0 = .ok (.aload_n 0, 1) := by decide +kernel
theorem dX0_landAt_1 : decode cX0_landAt 1 = .ok (.iconst 0, 1) := by decide +kernel
theorem dX0_landAt_2 : decode cX0_landAt 2 = .ok (.iload_n 1, 1) := by decide +kernel
theorem dX0_landAt_3 : decode cX0_landAt 3 = .ok (.invokevirtual 84, 3) := by decide +kernel
theorem dX0_landAt_6 : decode cX0_landAt 6 = .ok (.ifCond .eq 21, 3) := by decide +kernel
theorem dX0_landAt_27 : decode cX0_landAt 27 = .ok (.aconst_null, 1) := by decide +kernel
theorem dX0_landAt_28 : decode cX0_landAt 28 = .ok (.areturn, 1) := by decide +kernel
set_option maxHeartbeats 4000000 in
set_option maxRecDepth 100000 in
/-- no land is told -/
theorem mt_landAt (l : Launch) (dC : Nat → ClassId) (dI : Nat → Nat → Nat) (b : Nat) (bto : Nat) (bnm : Nat) (bla : Nat) (bsk : Nat) (bru : Nat) (bbo : Nat) (bdi : Nat) (bda : Nat) (bdk : Nat) (bdt : Nat) (bdp : Nat) (bno : Nat) (bcT : ClassId) (k0 : Int32) : Met l yX0_landAt (Cond.code yX0_landAt cX0_landAt 2 (some (.object "LongYears$Land")) :: wsL_law) ({ frames := 1, cells := 0, slots := 0, locals := 22 }) (va_Pc [.ref b, .int k0] (fun U => va_P (dC, dI) vwCl [(b, .inr (0, [.ref bto, .ref bnm, .ref bla, .ref bsk, .ref bru, .ref bbo, .ref bdi, .ref bda, .ref bdk, .ref bdt, .ref bdp, .ref bno])), (bto, .inl (bcT, 5, .inl (fun _ => 0)))] U.heap ∧ va_K (dC, dI) vwCl [(bcT, .int)] U)) (va_Sq (fun r => r = none)) 0 0 (fun _ => False) := by
  refine Met.ofW (cc := cX0_landAt) (maxL := 2) (ret := (some (.object "LongYears$Land"))) (by decide) rfl ?_
  intro p e s m args below meth c s₁ B hml hv
  obtain ⟨rfl, hP, hK⟩ := hv
  have hx := B.exec
  have hb := B.bytes
  have hr := B.returns
  have hts := atoms_spec (ws := Cond.code yX0_landAt cX0_landAt 2 (some (.object "LongYears$Land")) :: wsL_law) B.pre
  have htw : ∀ w ∈ wsL_law, w.before _ s = true := fun w h => hts w (List.mem_cons_of_mem _ h)
  have hown : s.vm.findClass RX0 = some m.cls := findClass_of_methodNamed B.named
  have hlocks := B.notSynchronized
  have hl := lv_entry ([.ref b, .int k0]) (n := 2) (Nat.le_of_ble_eq_true rfl)
  rw [lg_entry_eq]
  generalize (lg_sl ([.ref b, .int k0]) ++ List.replicate (2 - (lg_sl ([.ref b, .int k0])).length) Slot.unset).toArray = ls at hl ⊢
  have hl : lv_has ls 2 [(0, .ref b), (1, .int k0)] := hl
  refine lv_aload_n hx hb dX0_landAt_0 rfl (lv_at hl 0 rfl) ?_
  refine lv_iconst (v := 0) hx hb dX0_landAt_1 (by decide) ?_
  refine lv_iload_n hx hb dX0_landAt_2 rfl (lv_at hl 1 rfl) ?_
  have hPc := hP.sub (ws' := [(b, .inr (0, [.ref bto, .ref bnm, .ref bla, .ref bsk, .ref bru, .ref bbo, .ref bdi, .ref bda, .ref bdk, .ref bdt, .ref bdp, .ref bno])), (bto, .inl (bcT, 5, .inl (fun _ => 0)))]) [0, 1] rfl
  have hKc := hK.sub (tys' := [(bcT, .int)]) [0] rfl
  refine vp_callSi (W.runV (As := [.int 0, .int k0]) (rest := []) ⟨hx, hb, hml, hown, htw⟩ (mt_has l dC dI b bto bnm bla bsk bru bbo bdi bda bdk bdt bdp bno bcT (0 : Int32) k0) (cwV 2 htw (xg_V (ck_21 _ (List.mem_of_getElem? (i := 1) rfl)) (ck_21 _ (List.mem_of_getElem? (i := 2) rfl)) (ck_21 _ (List.mem_of_getElem? (i := 3) rfl)) (ck_1 _ (List.mem_of_getElem? (i := 20) rfl)) (ck_21 _ (List.mem_of_getElem? (i := 4) rfl))) rfl rfl rfl (by decide +kernel) ⟨Nat.le_of_ble_eq_true rfl, Nat.le_of_ble_eq_true rfl⟩) ⟨fun a U g mk q => by obtain ⟨q0, qP, qK⟩ := q; exact ⟨q0, qP, va_K.moved (u := U) (U := U.calling g mk a) (Vm.Alike.refl U.vm) qK⟩, va_recv hKc hPc (ci := 0) (q0 := 0) rfl rfl, fun U hU hW => ⟨rfl, by rw [hU]; exact hPc, va_K.moved hW.alike hKc⟩⟩ rfl rfl hl.1 rfl (lv_room (Nat.le_of_ble_eq_true rfl)) dX0_landAt_3 ⟨Nat.le_of_ble_eq_true rfl, Nat.le_of_ble_eq_true rfl⟩) (fun r_1 hw => ?_)
  try dsimp only at hw
  obtain rfl : r_1 = 0 := hw
  refine lv_if_eq (tgt := 27) hx hb dX0_landAt_6 (by decide) (fun _ => ?_) (fun c => absurd c (by decide))
  refine lv_null hx hb dX0_landAt_27 ?_
  exact W.aret (v := .null) hx hb hr (by first | exact Or.inl ⟨_, rfl⟩ | exact Or.inr ⟨_, rfl⟩) (by first | exact Or.inl rfl | exact Or.inr ⟨_, rfl⟩) (fun t ht hW => ⟨none, rfl, rfl, ht⟩) (fun _ h => by cases h) dX0_landAt_28

theorem dX0_find_0 : decode cX0_find 0 = .ok (.iload_n 1, 1) := by decide +kernel
theorem dX0_find_1 : decode cX0_find 1 = .ok (.ifCond .lt 8, 3) := by decide +kernel
theorem dX0_find_9 : decode cX0_find 9 = .ok (.iconst (-1), 1) := by decide +kernel
theorem dX0_find_10 : decode cX0_find 10 = .ok (.ireturn, 1) := by decide +kernel
theorem dX0_find_4 : decode cX0_find 4 = .ok (.iload_n 1, 1) := by decide +kernel
theorem dX0_find_5 : decode cX0_find 5 = .ok (.iconst 5, 1) := by decide +kernel
theorem dX0_find_6 : decode cX0_find 6 = .ok (.if_icmp .lt 5, 3) := by decide +kernel
theorem dX0_find_11 : decode cX0_find 11 = .ok (.iconst 0, 1) := by decide +kernel
theorem dX0_find_12 : decode cX0_find 12 = .ok (.istore_n 3, 1) := by decide +kernel
theorem dX0_find_13 : decode cX0_find 13 = .ok (.iload_n 3, 1) := by decide +kernel
theorem dX0_find_14 : decode cX0_find 14 = .ok (.aload_n 0, 1) := by decide +kernel
theorem dX0_find_15 : decode cX0_find 15 = .ok (.getfield 9, 3) := by decide +kernel
theorem dX0_find_18 : decode cX0_find 18 = .ok (.iload_n 1, 1) := by decide +kernel
theorem dX0_find_19 : decode cX0_find 19 = .ok (.iaload, 1) := by decide +kernel
theorem dX0_find_20 : decode cX0_find 20 = .ok (.if_icmp .ge 34, 3) := by decide +kernel
theorem dX0_find_54 : decode cX0_find 54 = .ok (.iconst (-1), 1) := by decide +kernel
theorem dX0_find_55 : decode cX0_find 55 = .ok (.ireturn, 1) := by decide +kernel
set_option maxHeartbeats 4000000 in
set_option maxRecDepth 100000 in
/-- no name is told -/
theorem mt_find (l : Launch) (dC : Nat → ClassId) (dI : Nat → Nat → Nat) (b : Nat) (bto : Nat) (bnm : Nat) (bla : Nat) (bsk : Nat) (bru : Nat) (bbo : Nat) (bdi : Nat) (bda : Nat) (bdk : Nat) (bdt : Nat) (bdp : Nat) (bno : Nat) (bcT : ClassId) (k0 : Int32) (k1 : Int32) : Met l yX0_find (Cond.code yX0_find cX0_find 4 (some .int) :: wsL_law) ({ frames := 0, cells := 0, slots := 0, locals := 0 }) (va_Pc [.ref b, .int k0, .int k1] (fun U => va_P (dC, dI) vwCl [(b, .inr (0, [.ref bto, .ref bnm, .ref bla, .ref bsk, .ref bru, .ref bbo, .ref bdi, .ref bda, .ref bdk, .ref bdt, .ref bdp, .ref bno])), (bto, .inl (bcT, 5, .inl (fun _ => 0)))] U.heap ∧ va_K (dC, dI) vwCl [(bcT, .int)] U)) (vp_Si (fun r => r = -1)) 0 0 (fun _ => False) := by
  refine Met.ofW (cc := cX0_find) (maxL := 4) (ret := (some .int)) (by decide) rfl ?_
  intro p e s m args below meth c s₁ B hml hv
  obtain ⟨rfl, hP, hK⟩ := hv
  have hx := B.exec
  have hb := B.bytes
  have hr := B.returns
  have hts := atoms_spec (ws := Cond.code yX0_find cX0_find 4 (some .int) :: wsL_law) B.pre
  have htw : ∀ w ∈ wsL_law, w.before _ s = true := fun w h => hts w (List.mem_cons_of_mem _ h)
  have hown : s.vm.findClass RX0 = some m.cls := findClass_of_methodNamed B.named
  have hlocks := B.notSynchronized
  have hl := lv_entry ([.ref b, .int k0, .int k1]) (n := 4) (Nat.le_of_ble_eq_true rfl)
  rw [lg_entry_eq]
  generalize (lg_sl ([.ref b, .int k0, .int k1]) ++ List.replicate (4 - (lg_sl ([.ref b, .int k0, .int k1])).length) Slot.unset).toArray = ls at hl ⊢
  have hl : lv_has ls 4 [(0, .ref b), (1, .int k0), (2, .int k1)] := hl
  refine lv_iload_n hx hb dX0_find_0 rfl (lv_at hl 1 rfl) ?_
  refine lv_if_lt (tgt := 9) hx hb dX0_find_1 (by decide) (fun c_1 => ?_) (fun c_1 => ?_)
  · refine lv_iconst (v := (-1)) hx hb dX0_find_9 (by decide) ?_
    exact W.iret (v := (-1)) hx hb hr (fun t ht hW => ⟨(-1), rfl, rfl, ht⟩) (fun _ h => by cases h) dX0_find_10
  · refine lv_iload_n hx hb dX0_find_4 rfl (lv_at hl 1 rfl) ?_
    refine lv_iconst (v := 5) hx hb dX0_find_5 (by decide) ?_
    refine lv_icmp_lt (tgt := 11) hx hb dX0_find_6 (by decide) (fun c_2 => ?_) (fun c_2 => ?_)
    · refine lv_iconst (v := 0) hx hb dX0_find_11 (by decide) ?_
      refine lv_istore_n (lv' := [(3, .int 0), (0, .ref b), (1, .int k0), (2, .int k1)]) hx hb dX0_find_12 rfl hl (by decide) rfl (fun ls hl => ?_)
      refine lv_iload_n hx hb dX0_find_13 rfl (lv_at hl 0 rfl) ?_
      refine lv_aload_n hx hb dX0_find_14 rfl (lv_at hl 1 rfl) ?_
      refine va_get (D := (dC, dI)) (ci := 0) (v := .ref bto) (C := RX0) (T := TX0) (N := 12) hx hb htw inlX0 hown hK hP 0 rfl rfl 0 (by decide) (htw _ (ck_5 _ (List.mem_of_getElem? (i := 21) rfl))) (fun _ h9 => h9) rfl dX0_find_15 ?_
      refine lv_iload_n hx hb dX0_find_18 rfl (lv_at hl 2 rfl) ?_
      refine va_iald hx hb hK hP 1 0 rfl rfl (xg_inr (N := 5) rfl c_1 (Int32.not_le.mpr c_2)) dX0_find_19 ?_
      refine lv_topi (fun z_3 ez_3 => ?_)
      obtain rfl : z_3 = 0 := ez_3.trans (rfl)
      refine lv_icmp_ge (tgt := 54) hx hb dX0_find_20 (by decide) (fun _ => ?_) (fun c => absurd c (by decide))
      refine lv_iconst (v := (-1)) hx hb dX0_find_54 (by decide) ?_
      exact W.iret (v := (-1)) hx hb hr (fun t ht hW => ⟨(-1), rfl, rfl, ht⟩) (fun _ h => by cases h) dX0_find_55
    · refine lv_iconst (v := (-1)) hx hb dX0_find_9 (by decide) ?_
      exact W.iret (v := (-1)) hx hb hr (fun t ht hW => ⟨(-1), rfl, rfl, ht⟩) (fun _ h => by cases h) dX0_find_10

theorem dX11_isCount_0 : decode cX11_isCount 0 = .ok (.lload_n 0, 1) := by decide +kernel
theorem dX11_isCount_1 : decode cX11_isCount 1 = .ok (.lconst 0, 1) := by decide +kernel
theorem dX11_isCount_2 : decode cX11_isCount 2 = .ok (.lcmp, 1) := by decide +kernel
theorem dX11_isCount_3 : decode cX11_isCount 3 = .ok (.ifCond .lt 15, 3) := by decide +kernel
theorem dX11_isCount_18 : decode cX11_isCount 18 = .ok (.iconst 0, 1) := by decide +kernel
theorem dX11_isCount_19 : decode cX11_isCount 19 = .ok (.ireturn, 1) := by decide +kernel
theorem dX11_isCount_6 : decode cX11_isCount 6 = .ok (.lload_n 0, 1) := by decide +kernel
theorem dX11_isCount_7 : decode cX11_isCount 7 = .ok (.ldc2_w 209, 3) := by decide +kernel
theorem dX11_isCount_10 : decode cX11_isCount 10 = .ok (.lcmp, 1) := by decide +kernel
theorem dX11_isCount_11 : decode cX11_isCount 11 = .ok (.ifCond .gt 7, 3) := by decide +kernel
theorem dX11_isCount_14 : decode cX11_isCount 14 = .ok (.iconst 1, 1) := by decide +kernel
theorem dX11_isCount_15 : decode cX11_isCount 15 = .ok (.goto 4, 3) := by decide +kernel
set_option maxHeartbeats 4000000 in
set_option maxRecDepth 100000 in
theorem mt_isCount (l : Launch) (dC : Nat → ClassId) (dI : Nat → Nat → Nat) (c0 : Int64) : Met l yX11_isCount (Cond.code yX11_isCount cX11_isCount 2 (some .boolean) :: wsL_law) ({ frames := 0, cells := 0, slots := 0, locals := 0 }) (va_Pc [.long c0] (fun U => va_P (dC, dI) vwCl [] U.heap ∧ va_K (dC, dI) vwCl [] U)) (vp_Si (fun r => r = xg_cnt c0)) 0 0 (fun _ => False) := by
  refine Met.ofW (cc := cX11_isCount) (maxL := 2) (ret := (some .boolean)) (by decide) rfl ?_
  intro p e s m args below meth c s₁ B hml hv
  obtain ⟨rfl, hP, hK⟩ := hv
  have hx := B.exec
  have hb := B.bytes
  have hr := B.returns
  have hts := atoms_spec (ws := Cond.code yX11_isCount cX11_isCount 2 (some .boolean) :: wsL_law) B.pre
  have htw : ∀ w ∈ wsL_law, w.before _ s = true := fun w h => hts w (List.mem_cons_of_mem _ h)
  have hown : s.vm.findClass RX11 = some m.cls := findClass_of_methodNamed B.named
  have hlocks := B.notSynchronized
  have hl := lv_entry ([.long c0]) (n := 2) (Nat.le_of_ble_eq_true rfl)
  rw [lg_entry_eq]
  generalize (lg_sl ([.long c0]) ++ List.replicate (2 - (lg_sl ([.long c0])).length) Slot.unset).toArray = ls at hl ⊢
  have hl : lv_has ls 2 [(0, .long c0)] := hl
  refine lv_lload_n hx hb dX11_isCount_0 rfl (lv_at hl 0 rfl) ?_
  refine lv_lconst (v := 0) hx hb dX11_isCount_1 (by decide) ?_
  refine W.lcmp hx hb dX11_isCount_2 ?_
  refine lv_if_lt (tgt := 18) hx hb dX11_isCount_3 (by decide) (fun c_1 => ?_) (fun c_1 => ?_)
  · refine lv_iconst (v := 0) hx hb dX11_isCount_18 (by decide) ?_
    exact W.zret (v := 0) hx hb hr (by first | rfl | decide) (fun t ht hW => ⟨0, rfl, (xg_cnt0 ((lg_cmp_lt _ _).mp c_1)).symm, ht⟩) (fun _ h => by cases h) dX11_isCount_19
  · refine lv_lload_n hx hb dX11_isCount_6 rfl (lv_at hl 0 rfl) ?_
    refine lv_ldc2 (v := 1000000000000) hx hb hown (htw _ (ck_35 _ (List.mem_of_getElem? (i := 18) rfl))) dX11_isCount_7 ?_
    refine W.lcmp hx hb dX11_isCount_10 ?_
    refine lv_if_gt (tgt := 18) hx hb dX11_isCount_11 (by decide) (fun c_2 => ?_) (fun c_2 => ?_)
    · refine lv_iconst (v := 0) hx hb dX11_isCount_18 (by decide) ?_
      exact W.zret (v := 0) hx hb hr (by first | rfl | decide) (fun t ht hW => ⟨0, rfl, (xg_cnt1 ((lg_cmp_gt _ _).mp c_2)).symm, ht⟩) (fun _ h => by cases h) dX11_isCount_19
    · refine lv_iconst (v := 1) hx hb dX11_isCount_14 (by decide) ?_
      refine lv_goto (tgt := 19) hx hb dX11_isCount_15 (by decide) ?_
      exact W.zret (v := 1) hx hb hr (by first | rfl | decide) (fun t ht hW => ⟨1, rfl, (xg_cnt2 (fun h => c_1 ((lg_cmp_lt _ _).mpr h)) (fun h => c_2 ((lg_cmp_gt _ _).mpr h))).symm, ht⟩) (fun _ h => by cases h) dX11_isCount_19
