theorem dX9_weekDayOf_0 : decode cX9_weekDayOf 0 = .ok (.aload_n 0, 1) := by decide +kernel
theorem dX9_weekDayOf_1 : decode cX9_weekDayOf 1 = .ok (.getfield 7, 3) := by decide +kernel
theorem dX9_weekDayOf_4 : decode cX9_weekDayOf 4 = .ok (.iconst 1, 1) := by decide +kernel
theorem dX9_weekDayOf_5 : decode cX9_weekDayOf 5 = .ok (.if_icmp .ge 7, 3) := by decide +kernel
theorem dX9_weekDayOf_12 : decode cX9_weekDayOf 12 = .ok (.lload_n 1, 1) := by decide +kernel
theorem dX9_weekDayOf_13 : decode cX9_weekDayOf 13 = .ok (.aload_n 0, 1) := by decide +kernel
theorem dX9_weekDayOf_14 : decode cX9_weekDayOf 14 = .ok (.getfield 13, 3) := by decide +kernel
theorem dX9_weekDayOf_17 : decode cX9_weekDayOf 17 = .ok (.i2l, 1) := by decide +kernel
theorem dX9_weekDayOf_18 : decode cX9_weekDayOf 18 = .ok (.ladd, 1) := by decide +kernel
theorem dX9_weekDayOf_19 : decode cX9_weekDayOf 19 = .ok (.aload_n 0, 1) := by decide +kernel
theorem dX9_weekDayOf_20 : decode cX9_weekDayOf 20 = .ok (.getfield 7, 3) := by decide +kernel
theorem dX9_weekDayOf_23 : decode cX9_weekDayOf 23 = .ok (.i2l, 1) := by decide +kernel
theorem dX9_weekDayOf_24 : decode cX9_weekDayOf 24 = .ok (.lrem, 1) := by decide +kernel
theorem dX9_weekDayOf_25 : decode cX9_weekDayOf 25 = .ok (.l2i, 1) := by decide +kernel
theorem dX9_weekDayOf_26 : decode cX9_weekDayOf 26 = .ok (.ireturn, 1) := by decide +kernel
set_option maxHeartbeats 4000000 in
set_option maxRecDepth 100000 in
theorem mt_week (l : Launch) (dC : Nat → ClassId) (dI : Nat → Nat → Nat) (sk : Nat) (c0 : Int64) : Met l yX9_weekDayOf (Cond.code yX9_weekDayOf cX9_weekDayOf 3 (some .int) :: wsL_law) ({ frames := 0, cells := 0, slots := 0, locals := 0 }) (va_Pc [.ref sk, .long c0] (fun U => va_P (dC, dI) vwCl [(sk, .inr (9, [.int 7, .int 0, .int 59, .int 2, .int 0, .int 1461, .int 4]))] U.heap ∧ va_K (dC, dI) vwCl [] U)) (vp_Si (fun r => r = xr_week c0)) 0 0 (fun _ => False) := by
  refine Met.ofW (cc := cX9_weekDayOf) (maxL := 3) (ret := (some .int)) (by decide) rfl ?_
  intro p e s m args below meth c s₁ B hml hv
  obtain ⟨rfl, hP, hK⟩ := hv
  have hx := B.exec
  have hb := B.bytes
  have hr := B.returns
  have hts := atoms_spec (ws := Cond.code yX9_weekDayOf cX9_weekDayOf 3 (some .int) :: wsL_law) B.pre
  have htw : ∀ w ∈ wsL_law, w.before _ s = true := fun w h => hts w (List.mem_cons_of_mem _ h)
  have hown : s.vm.findClass RX9 = some m.cls := findClass_of_methodNamed B.named
  have hlocks := B.notSynchronized
  have hl := lv_entry ([.ref sk, .long c0]) (n := 3) (Nat.le_of_ble_eq_true rfl)
  rw [lg_entry_eq]
  generalize (lg_sl ([.ref sk, .long c0]) ++ List.replicate (3 - (lg_sl ([.ref sk, .long c0])).length) Slot.unset).toArray = ls at hl ⊢
  have hl : lv_has ls 3 [(0, .ref sk), (1, .long c0)] := hl
  refine lv_aload_n hx hb dX9_weekDayOf_0 rfl (lv_at hl 0 rfl) ?_
  refine va_get (D := (dC, dI)) (ci := 9) (v := .int 7) (C := RX9) (T := TX9) (N := 7) hx hb htw inlX9 hown hK hP 0 rfl rfl 0 (by decide) (htw _ (ck_7 _ (List.mem_of_getElem? (i := 19) rfl))) (fun _ h9 => h9) rfl dX9_weekDayOf_1 ?_
  refine lv_iconst (v := 1) hx hb dX9_weekDayOf_4 (by decide) ?_
  refine lv_icmp_ge (tgt := 12) hx hb dX9_weekDayOf_5 (by decide) (fun _ => ?_) (fun c => absurd c (by decide))
  refine lv_lload_n hx hb dX9_weekDayOf_12 rfl (lv_at hl 1 rfl) ?_
  refine lv_aload_n hx hb dX9_weekDayOf_13 rfl (lv_at hl 0 rfl) ?_
  refine va_get (D := (dC, dI)) (ci := 9) (v := .int 0) (C := RX9) (T := TX9) (N := 7) hx hb htw inlX9 hown hK hP 0 rfl rfl 1 (by decide) (htw _ (ck_7 _ (List.mem_of_getElem? (i := 20) rfl))) (fun _ h9 => h9) rfl dX9_weekDayOf_14 ?_
  refine lv_i2l (v := 0) hx hb dX9_weekDayOf_17 (by decide) ?_
  refine lv_ladd hx hb dX9_weekDayOf_18 ?_
  refine lv_aload_n hx hb dX9_weekDayOf_19 rfl (lv_at hl 0 rfl) ?_
  refine va_get (D := (dC, dI)) (ci := 9) (v := .int 7) (C := RX9) (T := TX9) (N := 7) hx hb htw inlX9 hown hK hP 0 rfl rfl 0 (by decide) (htw _ (ck_7 _ (List.mem_of_getElem? (i := 19) rfl))) (fun _ h9 => h9) rfl dX9_weekDayOf_20 ?_
  refine lv_i2l (v := 7) hx hb dX9_weekDayOf_23 (by decide) ?_
  refine lv_lrem hx hb dX9_weekDayOf_24 (by decide) ?_
  refine lv_l2i (v := ((c0 + 0) - (c0 + 0) / 7 * 7).toInt32) hx hb dX9_weekDayOf_25 rfl ?_
  exact W.iret (v := ((c0 + 0) - (c0 + 0) / 7 * 7).toInt32) hx hb hr (fun t ht hW => ⟨((c0 + 0) - (c0 + 0) / 7 * 7).toInt32, rfl, rfl, ht⟩) (fun _ h => by cases h) dX9_weekDayOf_26

theorem dX9_moonOf_0 : decode cX9_moonOf 0 = .ok (.aload_n 0, 1) := by decide +kernel
theorem dX9_moonOf_1 : decode cX9_moonOf 1 = .ok (.getfield 16, 3) := by decide +kernel
theorem dX9_moonOf_4 : decode cX9_moonOf 4 = .ok (.iconst 1, 1) := by decide +kernel
theorem dX9_moonOf_5 : decode cX9_moonOf 5 = .ok (.if_icmp .ge 7, 3) := by decide +kernel
theorem dX9_moonOf_12 : decode cX9_moonOf 12 = .ok (.lload_n 1, 1) := by decide +kernel
theorem dX9_moonOf_13 : decode cX9_moonOf 13 = .ok (.aload_n 0, 1) := by decide +kernel
theorem dX9_moonOf_14 : decode cX9_moonOf 14 = .ok (.getfield 19, 3) := by decide +kernel
theorem dX9_moonOf_17 : decode cX9_moonOf 17 = .ok (.i2l, 1) := by decide +kernel
theorem dX9_moonOf_18 : decode cX9_moonOf 18 = .ok (.lmul, 1) := by decide +kernel
theorem dX9_moonOf_19 : decode cX9_moonOf 19 = .ok (.aload_n 0, 1) := by decide +kernel
theorem dX9_moonOf_20 : decode cX9_moonOf 20 = .ok (.getfield 22, 3) := by decide +kernel
theorem dX9_moonOf_23 : decode cX9_moonOf 23 = .ok (.i2l, 1) := by decide +kernel
theorem dX9_moonOf_24 : decode cX9_moonOf 24 = .ok (.ladd, 1) := by decide +kernel
theorem dX9_moonOf_25 : decode cX9_moonOf 25 = .ok (.aload_n 0, 1) := by decide +kernel
theorem dX9_moonOf_26 : decode cX9_moonOf 26 = .ok (.getfield 16, 3) := by decide +kernel
theorem dX9_moonOf_29 : decode cX9_moonOf 29 = .ok (.i2l, 1) := by decide +kernel
theorem dX9_moonOf_30 : decode cX9_moonOf 30 = .ok (.lrem, 1) := by decide +kernel
theorem dX9_moonOf_31 : decode cX9_moonOf 31 = .ok (.ldc2_w 31, 3) := by decide +kernel
theorem dX9_moonOf_34 : decode cX9_moonOf 34 = .ok (.lmul, 1) := by decide +kernel
theorem dX9_moonOf_35 : decode cX9_moonOf 35 = .ok (.aload_n 0, 1) := by decide +kernel
theorem dX9_moonOf_36 : decode cX9_moonOf 36 = .ok (.getfield 16, 3) := by decide +kernel
theorem dX9_moonOf_39 : decode cX9_moonOf 39 = .ok (.i2l, 1) := by decide +kernel
theorem dX9_moonOf_40 : decode cX9_moonOf 40 = .ok (.ldiv, 1) := by decide +kernel
theorem dX9_moonOf_41 : decode cX9_moonOf 41 = .ok (.l2i, 1) := by decide +kernel
theorem dX9_moonOf_42 : decode cX9_moonOf 42 = .ok (.ireturn, 1) := by decide +kernel
set_option maxHeartbeats 4000000 in
set_option maxRecDepth 100000 in
theorem mt_moon (l : Launch) (dC : Nat → ClassId) (dI : Nat → Nat → Nat) (sk : Nat) (c0 : Int64) : Met l yX9_moonOf (Cond.code yX9_moonOf cX9_moonOf 3 (some .int) :: wsL_law) ({ frames := 0, cells := 0, slots := 0, locals := 0 }) (va_Pc [.ref sk, .long c0] (fun U => va_P (dC, dI) vwCl [(sk, .inr (9, [.int 7, .int 0, .int 59, .int 2, .int 0, .int 1461, .int 4]))] U.heap ∧ va_K (dC, dI) vwCl [] U)) (vp_Si (fun r => r = xr_moon c0)) 0 0 (fun _ => False) := by
  refine Met.ofW (cc := cX9_moonOf) (maxL := 3) (ret := (some .int)) (by decide) rfl ?_
  intro p e s m args below meth c s₁ B hml hv
  obtain ⟨rfl, hP, hK⟩ := hv
  have hx := B.exec
  have hb := B.bytes
  have hr := B.returns
  have hts := atoms_spec (ws := Cond.code yX9_moonOf cX9_moonOf 3 (some .int) :: wsL_law) B.pre
  have htw : ∀ w ∈ wsL_law, w.before _ s = true := fun w h => hts w (List.mem_cons_of_mem _ h)
  have hown : s.vm.findClass RX9 = some m.cls := findClass_of_methodNamed B.named
  have hlocks := B.notSynchronized
  have hl := lv_entry ([.ref sk, .long c0]) (n := 3) (Nat.le_of_ble_eq_true rfl)
  rw [lg_entry_eq]
  generalize (lg_sl ([.ref sk, .long c0]) ++ List.replicate (3 - (lg_sl ([.ref sk, .long c0])).length) Slot.unset).toArray = ls at hl ⊢
  have hl : lv_has ls 3 [(0, .ref sk), (1, .long c0)] := hl
  refine lv_aload_n hx hb dX9_moonOf_0 rfl (lv_at hl 0 rfl) ?_
  refine va_get (D := (dC, dI)) (ci := 9) (v := .int 59) (C := RX9) (T := TX9) (N := 7) hx hb htw inlX9 hown hK hP 0 rfl rfl 2 (by decide) (htw _ (ck_7 _ (List.mem_of_getElem? (i := 21) rfl))) (fun _ h9 => h9) rfl dX9_moonOf_1 ?_
  refine lv_iconst (v := 1) hx hb dX9_moonOf_4 (by decide) ?_
  refine lv_icmp_ge (tgt := 12) hx hb dX9_moonOf_5 (by decide) (fun _ => ?_) (fun c => absurd c (by decide))
  refine lv_lload_n hx hb dX9_moonOf_12 rfl (lv_at hl 1 rfl) ?_
  refine lv_aload_n hx hb dX9_moonOf_13 rfl (lv_at hl 0 rfl) ?_
  refine va_get (D := (dC, dI)) (ci := 9) (v := .int 2) (C := RX9) (T := TX9) (N := 7) hx hb htw inlX9 hown hK hP 0 rfl rfl 3 (by decide) (htw _ (ck_7 _ (List.mem_of_getElem? (i := 22) rfl))) (fun _ h9 => h9) rfl dX9_moonOf_14 ?_
  refine lv_i2l (v := 2) hx hb dX9_moonOf_17 (by decide) ?_
  refine lv_lmul hx hb dX9_moonOf_18 ?_
  refine lv_aload_n hx hb dX9_moonOf_19 rfl (lv_at hl 0 rfl) ?_
  refine va_get (D := (dC, dI)) (ci := 9) (v := .int 0) (C := RX9) (T := TX9) (N := 7) hx hb htw inlX9 hown hK hP 0 rfl rfl 4 (by decide) (htw _ (ck_7 _ (List.mem_of_getElem? (i := 23) rfl))) (fun _ h9 => h9) rfl dX9_moonOf_20 ?_
  refine lv_i2l (v := 0) hx hb dX9_moonOf_23 (by decide) ?_
  refine lv_ladd hx hb dX9_moonOf_24 ?_
  refine lv_aload_n hx hb dX9_moonOf_25 rfl (lv_at hl 0 rfl) ?_
  refine va_get (D := (dC, dI)) (ci := 9) (v := .int 59) (C := RX9) (T := TX9) (N := 7) hx hb htw inlX9 hown hK hP 0 rfl rfl 2 (by decide) (htw _ (ck_7 _ (List.mem_of_getElem? (i := 21) rfl))) (fun _ h9 => h9) rfl dX9_moonOf_26 ?_
  refine lv_i2l (v := 59) hx hb dX9_moonOf_29 (by decide) ?_
  refine lv_lrem hx hb dX9_moonOf_30 (by decide) ?_
  refine lv_ldc2 (v := 8) hx hb hown (htw _ (ck_37 _ (List.mem_of_getElem? (i := 22) rfl))) dX9_moonOf_31 ?_
  refine lv_lmul hx hb dX9_moonOf_34 ?_
  refine lv_aload_n hx hb dX9_moonOf_35 rfl (lv_at hl 0 rfl) ?_
  refine va_get (D := (dC, dI)) (ci := 9) (v := .int 59) (C := RX9) (T := TX9) (N := 7) hx hb htw inlX9 hown hK hP 0 rfl rfl 2 (by decide) (htw _ (ck_7 _ (List.mem_of_getElem? (i := 21) rfl))) (fun _ h9 => h9) rfl dX9_moonOf_36 ?_
  refine lv_i2l (v := 59) hx hb dX9_moonOf_39 (by decide) ?_
  refine lv_ldiv hx hb dX9_moonOf_40 (by decide) ?_
  refine lv_l2i (v := (((((c0 * 2) + 0) - ((c0 * 2) + 0) / 59 * 59) * 8) / 59).toInt32) hx hb dX9_moonOf_41 rfl ?_
  exact W.iret (v := (((((c0 * 2) + 0) - ((c0 * 2) + 0) / 59 * 59) * 8) / 59).toInt32) hx hb hr (fun t ht hW => ⟨(((((c0 * 2) + 0) - ((c0 * 2) + 0) / 59 * 59) * 8) / 59).toInt32, rfl, rfl, ht⟩) (fun _ h => by cases h) dX9_moonOf_42

theorem dX9_seasonOf_0 : decode cX9_seasonOf 0 = .ok (.aload_n 0, 1) := by decide +kernel
theorem dX9_seasonOf_1 : decode cX9_seasonOf 1 = .ok (.getfield 25, 3) := by decide +kernel
theorem dX9_seasonOf_4 : decode cX9_seasonOf 4 = .ok (.iconst 1, 1) := by decide +kernel
theorem dX9_seasonOf_5 : decode cX9_seasonOf 5 = .ok (.if_icmp .ge 7, 3) := by decide +kernel
theorem dX9_seasonOf_12 : decode cX9_seasonOf 12 = .ok (.lload_n 1, 1) := by decide +kernel
theorem dX9_seasonOf_13 : decode cX9_seasonOf 13 = .ok (.aload_n 0, 1) := by decide +kernel
theorem dX9_seasonOf_14 : decode cX9_seasonOf 14 = .ok (.getfield 28, 3) := by decide +kernel
theorem dX9_seasonOf_17 : decode cX9_seasonOf 17 = .ok (.i2l, 1) := by decide +kernel
theorem dX9_seasonOf_18 : decode cX9_seasonOf 18 = .ok (.lmul, 1) := by decide +kernel
theorem dX9_seasonOf_19 : decode cX9_seasonOf 19 = .ok (.aload_n 0, 1) := by decide +kernel
theorem dX9_seasonOf_20 : decode cX9_seasonOf 20 = .ok (.getfield 25, 3) := by decide +kernel
theorem dX9_seasonOf_23 : decode cX9_seasonOf 23 = .ok (.i2l, 1) := by decide +kernel
theorem dX9_seasonOf_24 : decode cX9_seasonOf 24 = .ok (.lrem, 1) := by decide +kernel
theorem dX9_seasonOf_25 : decode cX9_seasonOf 25 = .ok (.ldc2_w 33, 3) := by decide +kernel
theorem dX9_seasonOf_28 : decode cX9_seasonOf 28 = .ok (.lmul, 1) := by decide +kernel
theorem dX9_seasonOf_29 : decode cX9_seasonOf 29 = .ok (.aload_n 0, 1) := by decide +kernel
theorem dX9_seasonOf_30 : decode cX9_seasonOf 30 = .ok (.getfield 25, 3) := by decide +kernel
theorem dX9_seasonOf_33 : decode cX9_seasonOf 33 = .ok (.i2l, 1) := by decide +kernel
theorem dX9_seasonOf_34 : decode cX9_seasonOf 34 = .ok (.ldiv, 1) := by decide +kernel
theorem dX9_seasonOf_35 : decode cX9_seasonOf 35 = .ok (.l2i, 1) := by decide +kernel
theorem dX9_seasonOf_36 : decode cX9_seasonOf 36 = .ok (.ireturn, 1) := by decide +kernel
set_option maxHeartbeats 4000000 in
set_option maxRecDepth 100000 in
theorem mt_season (l : Launch) (dC : Nat → ClassId) (dI : Nat → Nat → Nat) (sk : Nat) (c0 : Int64) : Met l yX9_seasonOf (Cond.code yX9_seasonOf cX9_seasonOf 3 (some .int) :: wsL_law) ({ frames := 0, cells := 0, slots := 0, locals := 0 }) (va_Pc [.ref sk, .long c0] (fun U => va_P (dC, dI) vwCl [(sk, .inr (9, [.int 7, .int 0, .int 59, .int 2, .int 0, .int 1461, .int 4]))] U.heap ∧ va_K (dC, dI) vwCl [] U)) (vp_Si (fun r => r = xr_season c0)) 0 0 (fun _ => False) := by
  refine Met.ofW (cc := cX9_seasonOf) (maxL := 3) (ret := (some .int)) (by decide) rfl ?_
  intro p e s m args below meth c s₁ B hml hv
  obtain ⟨rfl, hP, hK⟩ := hv
  have hx := B.exec
  have hb := B.bytes
  have hr := B.returns
  have hts := atoms_spec (ws := Cond.code yX9_seasonOf cX9_seasonOf 3 (some .int) :: wsL_law) B.pre
  have htw : ∀ w ∈ wsL_law, w.before _ s = true := fun w h => hts w (List.mem_cons_of_mem _ h)
  have hown : s.vm.findClass RX9 = some m.cls := findClass_of_methodNamed B.named
  have hlocks := B.notSynchronized
  have hl := lv_entry ([.ref sk, .long c0]) (n := 3) (Nat.le_of_ble_eq_true rfl)
  rw [lg_entry_eq]
  generalize (lg_sl ([.ref sk, .long c0]) ++ List.replicate (3 - (lg_sl ([.ref sk, .long c0])).length) Slot.unset).toArray = ls at hl ⊢
  have hl : lv_has ls 3 [(0, .ref sk), (1, .long c0)] := hl
  refine lv_aload_n hx hb dX9_seasonOf_0 rfl (lv_at hl 0 rfl) ?_
  refine va_get (D := (dC, dI)) (ci := 9) (v := .int 1461) (C := RX9) (T := TX9) (N := 7) hx hb htw inlX9 hown hK hP 0 rfl rfl 5 (by decide) (htw _ (ck_8 _ (List.mem_of_getElem? (i := 0) rfl))) (fun _ h9 => h9) rfl dX9_seasonOf_1 ?_
  refine lv_iconst (v := 1) hx hb dX9_seasonOf_4 (by decide) ?_
  refine lv_icmp_ge (tgt := 12) hx hb dX9_seasonOf_5 (by decide) (fun _ => ?_) (fun c => absurd c (by decide))
  refine lv_lload_n hx hb dX9_seasonOf_12 rfl (lv_at hl 1 rfl) ?_
  refine lv_aload_n hx hb dX9_seasonOf_13 rfl (lv_at hl 0 rfl) ?_
  refine va_get (D := (dC, dI)) (ci := 9) (v := .int 4) (C := RX9) (T := TX9) (N := 7) hx hb htw inlX9 hown hK hP 0 rfl rfl 6 (by decide) (htw _ (ck_8 _ (List.mem_of_getElem? (i := 1) rfl))) (fun _ h9 => h9) rfl dX9_seasonOf_14 ?_
  refine lv_i2l (v := 4) hx hb dX9_seasonOf_17 (by decide) ?_
  refine lv_lmul hx hb dX9_seasonOf_18 ?_
  refine lv_aload_n hx hb dX9_seasonOf_19 rfl (lv_at hl 0 rfl) ?_
  refine va_get (D := (dC, dI)) (ci := 9) (v := .int 1461) (C := RX9) (T := TX9) (N := 7) hx hb htw inlX9 hown hK hP 0 rfl rfl 5 (by decide) (htw _ (ck_8 _ (List.mem_of_getElem? (i := 0) rfl))) (fun _ h9 => h9) rfl dX9_seasonOf_20 ?_
  refine lv_i2l (v := 1461) hx hb dX9_seasonOf_23 (by decide) ?_
  refine lv_lrem hx hb dX9_seasonOf_24 (by decide) ?_
  refine lv_ldc2 (v := 4) hx hb hown (htw _ (ck_38 _ (List.mem_of_getElem? (i := 3) rfl))) dX9_seasonOf_25 ?_
  refine lv_lmul hx hb dX9_seasonOf_28 ?_
  refine lv_aload_n hx hb dX9_seasonOf_29 rfl (lv_at hl 0 rfl) ?_
  refine va_get (D := (dC, dI)) (ci := 9) (v := .int 1461) (C := RX9) (T := TX9) (N := 7) hx hb htw inlX9 hown hK hP 0 rfl rfl 5 (by decide) (htw _ (ck_8 _ (List.mem_of_getElem? (i := 0) rfl))) (fun _ h9 => h9) rfl dX9_seasonOf_30 ?_
  refine lv_i2l (v := 1461) hx hb dX9_seasonOf_33 (by decide) ?_
  refine lv_ldiv hx hb dX9_seasonOf_34 (by decide) ?_
  refine lv_l2i (v := ((((c0 * 4) - (c0 * 4) / 1461 * 1461) * 4) / 1461).toInt32) hx hb dX9_seasonOf_35 rfl ?_
  exact W.iret (v := ((((c0 * 4) - (c0 * 4) / 1461 * 1461) * 4) / 1461).toInt32) hx hb hr (fun t ht hW => ⟨((((c0 * 4) - (c0 * 4) / 1461 * 1461) * 4) / 1461).toInt32, rfl, rfl, ht⟩) (fun _ h => by cases h) dX9_seasonOf_36
