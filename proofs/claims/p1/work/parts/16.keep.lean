theorem dX6_copy_0 : decode cX6_copy 0 = .ok (.aload_n 1, 1) := by decide +kernel
theorem dX6_copy_1 : decode cX6_copy 1 = .ok (.ifnonnull 4, 3) := by decide +kernel
theorem dX6_copy_5 : decode cX6_copy 5 = .ok (.aload_n 0, 1) := by decide +kernel
theorem dX6_copy_6 : decode cX6_copy 6 = .ok (.aload_n 1, 1) := by decide +kernel
theorem dX6_copy_7 : decode cX6_copy 7 = .ok (.getfield 32, 3) := by decide +kernel
theorem dX6_copy_10 : decode cX6_copy 10 = .ok (.putfield 32, 3) := by decide +kernel
theorem dX6_copy_13 : decode cX6_copy 13 = .ok (.aload_n 1, 1) := by decide +kernel
theorem dX6_copy_14 : decode cX6_copy 14 = .ok (.getfield 9, 3) := by decide +kernel
theorem dX6_copy_17 : decode cX6_copy 17 = .ok (.iconst 0, 1) := by decide +kernel
theorem dX6_copy_18 : decode cX6_copy 18 = .ok (.aload_n 0, 1) := by decide +kernel
theorem dX6_copy_19 : decode cX6_copy 19 = .ok (.getfield 9, 3) := by decide +kernel
theorem dX6_copy_22 : decode cX6_copy 22 = .ok (.iconst 0, 1) := by decide +kernel
theorem dX6_copy_23 : decode cX6_copy 23 = .ok (.aload_n 0, 1) := by decide +kernel
theorem dX6_copy_24 : decode cX6_copy 24 = .ok (.getfield 9, 3) := by decide +kernel
theorem dX6_copy_27 : decode cX6_copy 27 = .ok (.arraylength, 1) := by decide +kernel
theorem dX6_copy_28 : decode cX6_copy 28 = .ok (.invokestatic 36, 3) := by decide +kernel
theorem dX6_copy_31 : decode cX6_copy 31 = .ok (.aload_n 1, 1) := by decide +kernel
theorem dX6_copy_32 : decode cX6_copy 32 = .ok (.getfield 15, 3) := by decide +kernel
theorem dX6_copy_35 : decode cX6_copy 35 = .ok (.iconst 0, 1) := by decide +kernel
theorem dX6_copy_36 : decode cX6_copy 36 = .ok (.aload_n 0, 1) := by decide +kernel
theorem dX6_copy_37 : decode cX6_copy 37 = .ok (.getfield 15, 3) := by decide +kernel
theorem dX6_copy_40 : decode cX6_copy 40 = .ok (.iconst 0, 1) := by decide +kernel
theorem dX6_copy_41 : decode cX6_copy 41 = .ok (.aload_n 0, 1) := by decide +kernel
theorem dX6_copy_42 : decode cX6_copy 42 = .ok (.getfield 15, 3) := by decide +kernel
theorem dX6_copy_45 : decode cX6_copy 45 = .ok (.arraylength, 1) := by decide +kernel
theorem dX6_copy_46 : decode cX6_copy 46 = .ok (.invokestatic 36, 3) := by decide +kernel
theorem dX6_copy_49 : decode cX6_copy 49 = .ok (.aload_n 1, 1) := by decide +kernel
theorem dX6_copy_50 : decode cX6_copy 50 = .ok (.getfield 18, 3) := by decide +kernel
theorem dX6_copy_53 : decode cX6_copy 53 = .ok (.iconst 0, 1) := by decide +kernel
theorem dX6_copy_54 : decode cX6_copy 54 = .ok (.aload_n 0, 1) := by decide +kernel
theorem dX6_copy_55 : decode cX6_copy 55 = .ok (.getfield 18, 3) := by decide +kernel
theorem dX6_copy_58 : decode cX6_copy 58 = .ok (.iconst 0, 1) := by decide +kernel
theorem dX6_copy_59 : decode cX6_copy 59 = .ok (.aload_n 0, 1) := by decide +kernel
theorem dX6_copy_60 : decode cX6_copy 60 = .ok (.getfield 18, 3) := by decide +kernel
theorem dX6_copy_63 : decode cX6_copy 63 = .ok (.arraylength, 1) := by decide +kernel
theorem dX6_copy_64 : decode cX6_copy 64 = .ok (.invokestatic 36, 3) := by decide +kernel
theorem dX6_copy_67 : decode cX6_copy 67 = .ok (.return_, 1) := by decide +kernel
set_option maxHeartbeats 4000000 in
set_option maxRecDepth 100000 in
theorem mt_ncopy (l : Launch) (dC : Nat → ClassId) (dI : Nat → Nat → Nat) (xim : Nat) (xims : Nat) (ximf : Nat) (ximz : Nat) (bno : Nat) (bnos : Nat) (bnof : Nat) (bnoz : Nat) (cM0 : ClassId) (cM1 : ClassId) (cM2 : ClassId) (fcM0 : Nat → Int32) (fcM1 : Nat → Int32) (fcM2 : Nat → Int32) (cN0 : ClassId) (cN1 : ClassId) (cN2 : ClassId) (fcN0 : Nat → Int32) (fcN1 : Nat → Int32) (fcN2 : Nat → Int32) (sz : Nat) : Met l yX6_copy (Cond.code yX6_copy cX6_copy 2 none :: wsL_law) ({ frames := 1, cells := 0, slots := 0, locals := 18 }) (va_Pc [.ref xim, .ref bno] (fun U => U.heap.size = sz ∧ va_P (dC, dI) vwCl [(xim, .inr (6, [.int 0, .ref xims, .ref ximf, .ref ximz])), (bno, .inr (6, [.int 0, .ref bnos, .ref bnof, .ref bnoz])), (xims, .inl (cM0, 12, .inl fcM0)), (ximf, .inl (cM1, 96, .inl fcM1)), (ximz, .inl (cM2, 96, .inl fcM2)), (bnos, .inl (cN0, 12, .inl fcN0)), (bnof, .inl (cN1, 96, .inl fcN1)), (bnoz, .inl (cN2, 96, .inl fcN2))] U.heap ∧ va_K (dC, dI) vwCl [(cM0, .int), (cM1, .int), (cM2, .int), (cN0, .int), (cN1, .int), (cN2, .int)] U ∧ va_D (fun _ => True) [(xim, .inr (6, [.int 0, .ref xims, .ref ximf, .ref ximz])), (bno, .inr (6, [.int 0, .ref bnos, .ref bnof, .ref bnoz])), (xims, .inl (cM0, 12, .inl fcM0)), (ximf, .inl (cM1, 96, .inl fcM1)), (ximz, .inl (cM2, 96, .inl fcM2)), (bnos, .inl (cN0, 12, .inl fcN0)), (bnof, .inl (cN1, 96, .inl fcN1)), (bnoz, .inl (cN2, 96, .inl fcN2))])) (va_Qv (fun (u : Unit) => True) (fun (u : Unit) t => va_P (dC, dI) vwCl [(xim, .inr (6, [.int 0, .ref xims, .ref ximf, .ref ximz]))] t.heap ∧ va_K (dC, dI) vwCl [] t ∧ va_D (va_A [(xim, .inr (6, [.int 0, .ref xims, .ref ximf, .ref ximz])), (bno, .inr (6, [.int 0, .ref bnos, .ref bnof, .ref bnoz])), (xims, .inl (cM0, 12, .inl fcM0)), (ximf, .inl (cM1, 96, .inl fcM1)), (ximz, .inl (cM2, 96, .inl fcM2)), (bnos, .inl (cN0, 12, .inl fcN0)), (bnof, .inl (cN1, 96, .inl fcN1)), (bnoz, .inl (cN2, 96, .inl fcN2))] sz) [(xim, .inr (6, [.int 0, .ref xims, .ref ximf, .ref ximz]))]) (va_A [(xim, .inr (6, [.int 0, .ref xims, .ref ximf, .ref ximz])), (bno, .inr (6, [.int 0, .ref bnos, .ref bnof, .ref bnoz])), (xims, .inl (cM0, 12, .inl fcM0)), (ximf, .inl (cM1, 96, .inl fcM1)), (ximz, .inl (cM2, 96, .inl fcM2)), (bnos, .inl (cN0, 12, .inl fcN0)), (bnof, .inl (cN1, 96, .inl fcN1)), (bnoz, .inl (cN2, 96, .inl fcN2))] sz)) 0 0 (va_A [(xim, .inr (6, [.int 0, .ref xims, .ref ximf, .ref ximz])), (bno, .inr (6, [.int 0, .ref bnos, .ref bnof, .ref bnoz])), (xims, .inl (cM0, 12, .inl fcM0)), (ximf, .inl (cM1, 96, .inl fcM1)), (ximz, .inl (cM2, 96, .inl fcM2)), (bnos, .inl (cN0, 12, .inl fcN0)), (bnof, .inl (cN1, 96, .inl fcN1)), (bnoz, .inl (cN2, 96, .inl fcN2))] sz) := by
  refine Met.ofW (cc := cX6_copy) (maxL := 2) (ret := none) (by decide) rfl ?_
  intro p e s m args below meth c s₁ B hml hv
  obtain ⟨rfl, hsz, hP, hK, hD0⟩ := hv
  have hx := B.exec
  have hb := B.bytes
  have hr := B.returns
  have hts := atoms_spec (ws := Cond.code yX6_copy cX6_copy 2 none :: wsL_law) B.pre
  have htw : ∀ w ∈ wsL_law, w.before _ s = true := fun w h => hts w (List.mem_cons_of_mem _ h)
  have hown : s.vm.findClass RX6 = some m.cls := findClass_of_methodNamed B.named
  have hlocks := B.notSynchronized
  subst hsz
  have hD := hD0.self (sz := s.heap.size)
  generalize hAe : va_A [(xim, .inr (6, [.int 0, .ref xims, .ref ximf, .ref ximz])), (bno, .inr (6, [.int 0, .ref bnos, .ref bnof, .ref bnoz])), (xims, .inl (cM0, 12, .inl fcM0)), (ximf, .inl (cM1, 96, .inl fcM1)), (ximz, .inl (cM2, 96, .inl fcM2)), (bnos, .inl (cN0, 12, .inl fcN0)), (bnof, .inl (cN1, 96, .inl fcN1)), (bnoz, .inl (cN2, 96, .inl fcN2))] s.heap.size = A at hD ⊢
  have hA : ∀ q : Nat, s.heap.size ≤ q → A q := fun q h => by rw [← hAe]; exact Or.inr h
  obtain ⟨H, rH⟩ : ∃ z : Heap, z = s.heap := ⟨_, rfl⟩
  have hS : va_S A s.heap H [] := by rw [rH]; exact va_S.rf
  have hP : va_P (dC, dI) vwCl [(xim, .inr (6, [.int 0, .ref xims, .ref ximf, .ref ximz])), (bno, .inr (6, [.int 0, .ref bnos, .ref bnof, .ref bnoz])), (xims, .inl (cM0, 12, .inl fcM0)), (ximf, .inl (cM1, 96, .inl fcM1)), (ximz, .inl (cM2, 96, .inl fcM2)), (bnos, .inl (cN0, 12, .inl fcN0)), (bnof, .inl (cN1, 96, .inl fcN1)), (bnoz, .inl (cN2, 96, .inl fcN2))] H := by rw [rH]; exact hP
  rw [← rH]
  have hl := lv_entry ([.ref xim, .ref bno]) (n := 2) (Nat.le_of_ble_eq_true rfl)
  rw [lg_entry_eq]
  generalize (lg_sl ([.ref xim, .ref bno]) ++ List.replicate (2 - (lg_sl ([.ref xim, .ref bno])).length) Slot.unset).toArray = ls at hl ⊢
  have hl : lv_has ls 2 [(0, .ref xim), (1, .ref bno)] := hl
  refine lv_aload_n hx hb dX6_copy_0 rfl (lv_at hl 1 rfl) ?_
  refine lv_ifnonnull (tgt := 5) hx hb dX6_copy_1 (by decide) ?_
  refine lv_aload_n hx hb dX6_copy_5 rfl (lv_at hl 0 rfl) ?_
  refine lv_aload_n hx hb dX6_copy_6 rfl (lv_at hl 1 rfl) ?_
  refine va_get (D := (dC, dI)) (ci := 6) (v := .int 0) (C := RX6) (T := TX6) (N := 4) hx hb htw inlX6 hown hK hP 1 rfl rfl 0 (by decide) (htw _ (ck_65 _ (List.mem_of_getElem? (i := 6) rfl))) (fun _ h9 => h9) rfl dX6_copy_7 ?_
  refine va_put (D := (dC, dI)) (ci := 6) (v := .int 0) (ty := tyX6 0) (C := RX6) (T := TX6) (N := 4) hx hb htw inlX6 tyX6 tyX6_ok nmX6 hown hK hP hD hS 0 rfl rfl 0 (by decide) (htw _ (ck_65 _ (List.mem_of_getElem? (i := 6) rfl))) (fun _ h9 => h9) rfl (by decide +kernel) rfl rfl (Nat.le_of_ble_eq_true rfl) dX6_copy_10 (fun H locs hP hD hS => ?_)
  have hP : va_P (dC, dI) vwCl [(xim, .inr (6, [.int 0, .ref xims, .ref ximf, .ref ximz])), (bno, .inr (6, [.int 0, .ref bnos, .ref bnof, .ref bnoz])), (xims, .inl (cM0, 12, .inl fcM0)), (ximf, .inl (cM1, 96, .inl fcM1)), (ximz, .inl (cM2, 96, .inl fcM2)), (bnos, .inl (cN0, 12, .inl fcN0)), (bnof, .inl (cN1, 96, .inl fcN1)), (bnoz, .inl (cN2, 96, .inl fcN2))] H := hP
  have hD : va_D A [(xim, .inr (6, [.int 0, .ref xims, .ref ximf, .ref ximz])), (bno, .inr (6, [.int 0, .ref bnos, .ref bnof, .ref bnoz])), (xims, .inl (cM0, 12, .inl fcM0)), (ximf, .inl (cM1, 96, .inl fcM1)), (ximz, .inl (cM2, 96, .inl fcM2)), (bnos, .inl (cN0, 12, .inl fcN0)), (bnof, .inl (cN1, 96, .inl fcN1)), (bnoz, .inl (cN2, 96, .inl fcN2))] := hD
  refine lv_aload_n hx hb dX6_copy_13 rfl (lv_at hl 1 rfl) ?_
  refine va_get (D := (dC, dI)) (ci := 6) (v := .ref bnos) (C := RX6) (T := TX6) (N := 4) hx hb htw inlX6 hown hK hP 1 rfl rfl 1 (by decide) (htw _ (ck_7 _ (List.mem_of_getElem? (i := 8) rfl))) (fun _ h9 => h9) rfl dX6_copy_14 ?_
  refine lv_iconst (v := 0) hx hb dX6_copy_17 (by decide) ?_
  refine lv_aload_n hx hb dX6_copy_18 rfl (lv_at hl 0 rfl) ?_
  refine va_get (D := (dC, dI)) (ci := 6) (v := .ref xims) (C := RX6) (T := TX6) (N := 4) hx hb htw inlX6 hown hK hP 0 rfl rfl 1 (by decide) (htw _ (ck_7 _ (List.mem_of_getElem? (i := 8) rfl))) (fun _ h9 => h9) rfl dX6_copy_19 ?_
  refine lv_iconst (v := 0) hx hb dX6_copy_22 (by decide) ?_
  refine lv_aload_n hx hb dX6_copy_23 rfl (lv_at hl 0 rfl) ?_
  refine va_get (D := (dC, dI)) (ci := 6) (v := .ref xims) (C := RX6) (T := TX6) (N := 4) hx hb htw inlX6 hown hK hP 0 rfl rfl 1 (by decide) (htw _ (ck_7 _ (List.mem_of_getElem? (i := 8) rfl))) (fun _ h9 => h9) rfl dX6_copy_24 ?_
  refine va_alen hx hb hK hP 2 0 rfl rfl (v := 12) rfl dX6_copy_27 ?_
  refine xg_copyi (ty := .int) hx hb (by rw [hml]; exact hl.1.symm) hown (htw _ (ck_65 _ (List.mem_of_getElem? (i := 7) rfl))) (htw _ (ck_65 _ (List.mem_of_getElem? (i := 8) rfl))) (htw _ (ck_65 _ (List.mem_of_getElem? (i := 9) rfl))) (htw _ (ck_65 _ (List.mem_of_getElem? (i := 10) rfl))) hK hP hD hS 5 2 3 0 rfl rfl rfl rfl rfl (by decide) (by decide) (by decide) (by decide) (by decide) (fun _ _ => rfl) (Nat.le_of_ble_eq_true rfl) (Nat.le_of_ble_eq_true rfl) dX6_copy_28 (fun f_1 H locs hP hD hS => ?_)
  have hP : va_P (dC, dI) vwCl [(xim, .inr (6, [.int 0, .ref xims, .ref ximf, .ref ximz])), (bno, .inr (6, [.int 0, .ref bnos, .ref bnof, .ref bnoz])), (xims, .inl (cM0, 12, .inl f_1)), (ximf, .inl (cM1, 96, .inl fcM1)), (ximz, .inl (cM2, 96, .inl fcM2)), (bnos, .inl (cN0, 12, .inl fcN0)), (bnof, .inl (cN1, 96, .inl fcN1)), (bnoz, .inl (cN2, 96, .inl fcN2))] H := hP
  have hD : va_D A [(xim, .inr (6, [.int 0, .ref xims, .ref ximf, .ref ximz])), (bno, .inr (6, [.int 0, .ref bnos, .ref bnof, .ref bnoz])), (xims, .inl (cM0, 12, .inl f_1)), (ximf, .inl (cM1, 96, .inl fcM1)), (ximz, .inl (cM2, 96, .inl fcM2)), (bnos, .inl (cN0, 12, .inl fcN0)), (bnof, .inl (cN1, 96, .inl fcN1)), (bnoz, .inl (cN2, 96, .inl fcN2))] := hD
  refine lv_aload_n hx hb dX6_copy_31 rfl (lv_at hl 1 rfl) ?_
  refine va_get (D := (dC, dI)) (ci := 6) (v := .ref bnof) (C := RX6) (T := TX6) (N := 4) hx hb htw inlX6 hown hK hP 1 rfl rfl 2 (by decide) (htw _ (ck_7 _ (List.mem_of_getElem? (i := 9) rfl))) (fun _ h9 => h9) rfl dX6_copy_32 ?_
  refine lv_iconst (v := 0) hx hb dX6_copy_35 (by decide) ?_
  refine lv_aload_n hx hb dX6_copy_36 rfl (lv_at hl 0 rfl) ?_
  refine va_get (D := (dC, dI)) (ci := 6) (v := .ref ximf) (C := RX6) (T := TX6) (N := 4) hx hb htw inlX6 hown hK hP 0 rfl rfl 2 (by decide) (htw _ (ck_7 _ (List.mem_of_getElem? (i := 9) rfl))) (fun _ h9 => h9) rfl dX6_copy_37 ?_
  refine lv_iconst (v := 0) hx hb dX6_copy_40 (by decide) ?_
  refine lv_aload_n hx hb dX6_copy_41 rfl (lv_at hl 0 rfl) ?_
  refine va_get (D := (dC, dI)) (ci := 6) (v := .ref ximf) (C := RX6) (T := TX6) (N := 4) hx hb htw inlX6 hown hK hP 0 rfl rfl 2 (by decide) (htw _ (ck_7 _ (List.mem_of_getElem? (i := 9) rfl))) (fun _ h9 => h9) rfl dX6_copy_42 ?_
  refine va_alen hx hb hK hP 3 1 rfl rfl (v := 96) rfl dX6_copy_45 ?_
  refine xg_copyi (ty := .int) hx hb (by rw [hml]; exact hl.1.symm) hown (htw _ (ck_65 _ (List.mem_of_getElem? (i := 7) rfl))) (htw _ (ck_65 _ (List.mem_of_getElem? (i := 8) rfl))) (htw _ (ck_65 _ (List.mem_of_getElem? (i := 9) rfl))) (htw _ (ck_65 _ (List.mem_of_getElem? (i := 10) rfl))) hK hP hD hS 6 3 4 1 rfl rfl rfl rfl rfl (by decide) (by decide) (by decide) (by decide) (by decide) (fun _ _ => rfl) (Nat.le_of_ble_eq_true rfl) (Nat.le_of_ble_eq_true rfl) dX6_copy_46 (fun f_2 H locs hP hD hS => ?_)
  have hP : va_P (dC, dI) vwCl [(xim, .inr (6, [.int 0, .ref xims, .ref ximf, .ref ximz])), (bno, .inr (6, [.int 0, .ref bnos, .ref bnof, .ref bnoz])), (xims, .inl (cM0, 12, .inl f_1)), (ximf, .inl (cM1, 96, .inl f_2)), (ximz, .inl (cM2, 96, .inl fcM2)), (bnos, .inl (cN0, 12, .inl fcN0)), (bnof, .inl (cN1, 96, .inl fcN1)), (bnoz, .inl (cN2, 96, .inl fcN2))] H := hP
  have hD : va_D A [(xim, .inr (6, [.int 0, .ref xims, .ref ximf, .ref ximz])), (bno, .inr (6, [.int 0, .ref bnos, .ref bnof, .ref bnoz])), (xims, .inl (cM0, 12, .inl f_1)), (ximf, .inl (cM1, 96, .inl f_2)), (ximz, .inl (cM2, 96, .inl fcM2)), (bnos, .inl (cN0, 12, .inl fcN0)), (bnof, .inl (cN1, 96, .inl fcN1)), (bnoz, .inl (cN2, 96, .inl fcN2))] := hD
  refine lv_aload_n hx hb dX6_copy_49 rfl (lv_at hl 1 rfl) ?_
  refine va_get (D := (dC, dI)) (ci := 6) (v := .ref bnoz) (C := RX6) (T := TX6) (N := 4) hx hb htw inlX6 hown hK hP 1 rfl rfl 3 (by decide) (htw _ (ck_7 _ (List.mem_of_getElem? (i := 10) rfl))) (fun _ h9 => h9) rfl dX6_copy_50 ?_
  refine lv_iconst (v := 0) hx hb dX6_copy_53 (by decide) ?_
  refine lv_aload_n hx hb dX6_copy_54 rfl (lv_at hl 0 rfl) ?_
  refine va_get (D := (dC, dI)) (ci := 6) (v := .ref ximz) (C := RX6) (T := TX6) (N := 4) hx hb htw inlX6 hown hK hP 0 rfl rfl 3 (by decide) (htw _ (ck_7 _ (List.mem_of_getElem? (i := 10) rfl))) (fun _ h9 => h9) rfl dX6_copy_55 ?_
  refine lv_iconst (v := 0) hx hb dX6_copy_58 (by decide) ?_
  refine lv_aload_n hx hb dX6_copy_59 rfl (lv_at hl 0 rfl) ?_
  refine va_get (D := (dC, dI)) (ci := 6) (v := .ref ximz) (C := RX6) (T := TX6) (N := 4) hx hb htw inlX6 hown hK hP 0 rfl rfl 3 (by decide) (htw _ (ck_7 _ (List.mem_of_getElem? (i := 10) rfl))) (fun _ h9 => h9) rfl dX6_copy_60 ?_
  refine va_alen hx hb hK hP 4 2 rfl rfl (v := 96) rfl dX6_copy_63 ?_
  refine xg_copyi (ty := .int) hx hb (by rw [hml]; exact hl.1.symm) hown (htw _ (ck_65 _ (List.mem_of_getElem? (i := 7) rfl))) (htw _ (ck_65 _ (List.mem_of_getElem? (i := 8) rfl))) (htw _ (ck_65 _ (List.mem_of_getElem? (i := 9) rfl))) (htw _ (ck_65 _ (List.mem_of_getElem? (i := 10) rfl))) hK hP hD hS 7 4 5 2 rfl rfl rfl rfl rfl (by decide) (by decide) (by decide) (by decide) (by decide) (fun _ _ => rfl) (Nat.le_of_ble_eq_true rfl) (Nat.le_of_ble_eq_true rfl) dX6_copy_64 (fun f_3 H locs hP hD hS => ?_)
  have hP : va_P (dC, dI) vwCl [(xim, .inr (6, [.int 0, .ref xims, .ref ximf, .ref ximz])), (bno, .inr (6, [.int 0, .ref bnos, .ref bnof, .ref bnoz])), (xims, .inl (cM0, 12, .inl f_1)), (ximf, .inl (cM1, 96, .inl f_2)), (ximz, .inl (cM2, 96, .inl f_3)), (bnos, .inl (cN0, 12, .inl fcN0)), (bnof, .inl (cN1, 96, .inl fcN1)), (bnoz, .inl (cN2, 96, .inl fcN2))] H := hP
  have hD : va_D A [(xim, .inr (6, [.int 0, .ref xims, .ref ximf, .ref ximz])), (bno, .inr (6, [.int 0, .ref bnos, .ref bnof, .ref bnoz])), (xims, .inl (cM0, 12, .inl f_1)), (ximf, .inl (cM1, 96, .inl f_2)), (ximz, .inl (cM2, 96, .inl f_3)), (bnos, .inl (cN0, 12, .inl fcN0)), (bnof, .inl (cN1, 96, .inl fcN1)), (bnoz, .inl (cN2, 96, .inl fcN2))] := hD
  refine W.widen (k := 0) (n := 0) (by omega) (by omega) ?_
  have hP9 := hP.sub (ws' := [(xim, .inr (6, [.int 0, .ref xims, .ref ximf, .ref ximz]))]) [0] rfl
  have hD9 := hD.sub (ws' := [(xim, .inr (6, [.int 0, .ref xims, .ref ximf, .ref ximz]))]) [0] (by decide) rfl
  have hK9 := hK.sub (tys' := []) [] rfl
  exact W.vret hx hb hr (fun t ht hW => ⟨⟨(), rfl, trivial, by rw [ht]; exact hP9, va_K.moved hW.alike hK9, hD9⟩, hS.F ht⟩) hS.2.2 dX6_copy_67

theorem dX2_copy_0 : decode cX2_copy 0 = .ok (.aload_n 1, 1) := by decide +kernel
theorem dX2_copy_1 : decode cX2_copy 1 = .ok (.ifnonnull 4, 3) := by decide +kernel
theorem dX2_copy_5 : decode cX2_copy 5 = .ok (.aload_n 0, 1) := by decide +kernel
theorem dX2_copy_6 : decode cX2_copy 6 = .ok (.aload_n 1, 1) := by decide +kernel
theorem dX2_copy_7 : decode cX2_copy 7 = .ok (.getfield 18, 3) := by decide +kernel
theorem dX2_copy_10 : decode cX2_copy 10 = .ok (.putfield 18, 3) := by decide +kernel
theorem dX2_copy_13 : decode cX2_copy 13 = .ok (.aload_n 1, 1) := by decide +kernel
theorem dX2_copy_14 : decode cX2_copy 14 = .ok (.getfield 9, 3) := by decide +kernel
theorem dX2_copy_17 : decode cX2_copy 17 = .ok (.iconst 0, 1) := by decide +kernel
theorem dX2_copy_18 : decode cX2_copy 18 = .ok (.aload_n 0, 1) := by decide +kernel
theorem dX2_copy_19 : decode cX2_copy 19 = .ok (.getfield 9, 3) := by decide +kernel
theorem dX2_copy_22 : decode cX2_copy 22 = .ok (.iconst 0, 1) := by decide +kernel
theorem dX2_copy_23 : decode cX2_copy 23 = .ok (.bipush 20, 2) := by decide +kernel
theorem dX2_copy_25 : decode cX2_copy 25 = .ok (.invokestatic 28, 3) := by decide +kernel
theorem dX2_copy_28 : decode cX2_copy 28 = .ok (.aload_n 1, 1) := by decide +kernel
theorem dX2_copy_29 : decode cX2_copy 29 = .ok (.getfield 15, 3) := by decide +kernel
theorem dX2_copy_32 : decode cX2_copy 32 = .ok (.iconst 0, 1) := by decide +kernel
theorem dX2_copy_33 : decode cX2_copy 33 = .ok (.aload_n 0, 1) := by decide +kernel
theorem dX2_copy_34 : decode cX2_copy 34 = .ok (.getfield 15, 3) := by decide +kernel
theorem dX2_copy_37 : decode cX2_copy 37 = .ok (.iconst 0, 1) := by decide +kernel
theorem dX2_copy_38 : decode cX2_copy 38 = .ok (.bipush 20, 2) := by decide +kernel
theorem dX2_copy_40 : decode cX2_copy 40 = .ok (.invokestatic 28, 3) := by decide +kernel
theorem dX2_copy_43 : decode cX2_copy 43 = .ok (.return_, 1) := by decide +kernel
set_option maxHeartbeats 4000000 in
set_option maxRecDepth 100000 in
theorem mt_lcopy (l : Launch) (dC : Nat → ClassId) (dI : Nat → Nat → Nat) (xil : Nat) (xiln : Nat) (xilc : Nat) (xle : Nat) (xlen : Nat) (xlec : Nat) (cL0 : ClassId) (cL1 : ClassId) (fcL0 : Nat → Int32) (fcL1 : Nat → Int32) (cE0 : ClassId) (cE1 : ClassId) (fcE0 : Nat → Int32) (fcE1 : Nat → Int32) (sz : Nat) : Met l yX2_copy (Cond.code yX2_copy cX2_copy 2 none :: wsL_law) ({ frames := 1, cells := 0, slots := 0, locals := 18 }) (va_Pc [.ref xil, .ref xle] (fun U => U.heap.size = sz ∧ va_P (dC, dI) vwCl [(xil, .inr (2, [.int 0, .ref xiln, .ref xilc])), (xle, .inr (2, [.int 0, .ref xlen, .ref xlec])), (xiln, .inl (cL0, 20, .inl fcL0)), (xilc, .inl (cL1, 20, .inl fcL1)), (xlen, .inl (cE0, 20, .inl fcE0)), (xlec, .inl (cE1, 20, .inl fcE1))] U.heap ∧ va_K (dC, dI) vwCl [(cL0, .int), (cL1, .int), (cE0, .int), (cE1, .int)] U ∧ va_D (fun _ => True) [(xil, .inr (2, [.int 0, .ref xiln, .ref xilc])), (xle, .inr (2, [.int 0, .ref xlen, .ref xlec])), (xiln, .inl (cL0, 20, .inl fcL0)), (xilc, .inl (cL1, 20, .inl fcL1)), (xlen, .inl (cE0, 20, .inl fcE0)), (xlec, .inl (cE1, 20, .inl fcE1))])) (va_Qv (fun (u : Unit) => True) (fun _ _ => True) (va_A [(xil, .inr (2, [.int 0, .ref xiln, .ref xilc])), (xle, .inr (2, [.int 0, .ref xlen, .ref xlec])), (xiln, .inl (cL0, 20, .inl fcL0)), (xilc, .inl (cL1, 20, .inl fcL1)), (xlen, .inl (cE0, 20, .inl fcE0)), (xlec, .inl (cE1, 20, .inl fcE1))] sz)) 0 0 (va_A [(xil, .inr (2, [.int 0, .ref xiln, .ref xilc])), (xle, .inr (2, [.int 0, .ref xlen, .ref xlec])), (xiln, .inl (cL0, 20, .inl fcL0)), (xilc, .inl (cL1, 20, .inl fcL1)), (xlen, .inl (cE0, 20, .inl fcE0)), (xlec, .inl (cE1, 20, .inl fcE1))] sz) := by
  refine Met.ofW (cc := cX2_copy) (maxL := 2) (ret := none) (by decide) rfl ?_
  intro p e s m args below meth c s₁ B hml hv
  obtain ⟨rfl, hsz, hP, hK, hD0⟩ := hv
  have hx := B.exec
  have hb := B.bytes
  have hr := B.returns
  have hts := atoms_spec (ws := Cond.code yX2_copy cX2_copy 2 none :: wsL_law) B.pre
  have htw : ∀ w ∈ wsL_law, w.before _ s = true := fun w h => hts w (List.mem_cons_of_mem _ h)
  have hown : s.vm.findClass RX2 = some m.cls := findClass_of_methodNamed B.named
  have hlocks := B.notSynchronized
  subst hsz
  have hD := hD0.self (sz := s.heap.size)
  generalize hAe : va_A [(xil, .inr (2, [.int 0, .ref xiln, .ref xilc])), (xle, .inr (2, [.int 0, .ref xlen, .ref xlec])), (xiln, .inl (cL0, 20, .inl fcL0)), (xilc, .inl (cL1, 20, .inl fcL1)), (xlen, .inl (cE0, 20, .inl fcE0)), (xlec, .inl (cE1, 20, .inl fcE1))] s.heap.size = A at hD ⊢
  have hA : ∀ q : Nat, s.heap.size ≤ q → A q := fun q h => by rw [← hAe]; exact Or.inr h
  obtain ⟨H, rH⟩ : ∃ z : Heap, z = s.heap := ⟨_, rfl⟩
  have hS : va_S A s.heap H [] := by rw [rH]; exact va_S.rf
  have hP : va_P (dC, dI) vwCl [(xil, .inr (2, [.int 0, .ref xiln, .ref xilc])), (xle, .inr (2, [.int 0, .ref xlen, .ref xlec])), (xiln, .inl (cL0, 20, .inl fcL0)), (xilc, .inl (cL1, 20, .inl fcL1)), (xlen, .inl (cE0, 20, .inl fcE0)), (xlec, .inl (cE1, 20, .inl fcE1))] H := by rw [rH]; exact hP
  rw [← rH]
  have hl := lv_entry ([.ref xil, .ref xle]) (n := 2) (Nat.le_of_ble_eq_true rfl)
  rw [lg_entry_eq]
  generalize (lg_sl ([.ref xil, .ref xle]) ++ List.replicate (2 - (lg_sl ([.ref xil, .ref xle])).length) Slot.unset).toArray = ls at hl ⊢
  have hl : lv_has ls 2 [(0, .ref xil), (1, .ref xle)] := hl
  refine lv_aload_n hx hb dX2_copy_0 rfl (lv_at hl 1 rfl) ?_
  refine lv_ifnonnull (tgt := 5) hx hb dX2_copy_1 (by decide) ?_
  refine lv_aload_n hx hb dX2_copy_5 rfl (lv_at hl 0 rfl) ?_
  refine lv_aload_n hx hb dX2_copy_6 rfl (lv_at hl 1 rfl) ?_
  refine va_get (D := (dC, dI)) (ci := 2) (v := .int 0) (C := RX2) (T := TX2) (N := 3) hx hb htw inlX2 hown hK hP 1 rfl rfl 0 (by decide) (htw _ (ck_63 _ (List.mem_of_getElem? (i := 4) rfl))) (fun _ h9 => h9) rfl dX2_copy_7 ?_
  refine va_put (D := (dC, dI)) (ci := 2) (v := .int 0) (ty := tyX2 0) (C := RX2) (T := TX2) (N := 3) hx hb htw inlX2 tyX2 tyX2_ok nmX2 hown hK hP hD hS 0 rfl rfl 0 (by decide) (htw _ (ck_63 _ (List.mem_of_getElem? (i := 4) rfl))) (fun _ h9 => h9) rfl (by decide +kernel) rfl rfl (Nat.le_of_ble_eq_true rfl) dX2_copy_10 (fun H locs hP hD hS => ?_)
  have hP : va_P (dC, dI) vwCl [(xil, .inr (2, [.int 0, .ref xiln, .ref xilc])), (xle, .inr (2, [.int 0, .ref xlen, .ref xlec])), (xiln, .inl (cL0, 20, .inl fcL0)), (xilc, .inl (cL1, 20, .inl fcL1)), (xlen, .inl (cE0, 20, .inl fcE0)), (xlec, .inl (cE1, 20, .inl fcE1))] H := hP
  have hD : va_D A [(xil, .inr (2, [.int 0, .ref xiln, .ref xilc])), (xle, .inr (2, [.int 0, .ref xlen, .ref xlec])), (xiln, .inl (cL0, 20, .inl fcL0)), (xilc, .inl (cL1, 20, .inl fcL1)), (xlen, .inl (cE0, 20, .inl fcE0)), (xlec, .inl (cE1, 20, .inl fcE1))] := hD
  refine lv_aload_n hx hb dX2_copy_13 rfl (lv_at hl 1 rfl) ?_
  refine va_get (D := (dC, dI)) (ci := 2) (v := .ref xlen) (C := RX2) (T := TX2) (N := 3) hx hb htw inlX2 hown hK hP 1 rfl rfl 1 (by decide) (htw _ (ck_8 _ (List.mem_of_getElem? (i := 22) rfl))) (fun _ h9 => h9) rfl dX2_copy_14 ?_
  refine lv_iconst (v := 0) hx hb dX2_copy_17 (by decide) ?_
  refine lv_aload_n hx hb dX2_copy_18 rfl (lv_at hl 0 rfl) ?_
  refine va_get (D := (dC, dI)) (ci := 2) (v := .ref xiln) (C := RX2) (T := TX2) (N := 3) hx hb htw inlX2 hown hK hP 0 rfl rfl 1 (by decide) (htw _ (ck_8 _ (List.mem_of_getElem? (i := 22) rfl))) (fun _ h9 => h9) rfl dX2_copy_19 ?_
  refine lv_iconst (v := 0) hx hb dX2_copy_22 (by decide) ?_
  refine lv_bipush (v := 20) hx hb dX2_copy_23 (by decide) ?_
  refine xg_copyi (ty := .int) hx hb (by rw [hml]; exact hl.1.symm) hown (htw _ (ck_65 _ (List.mem_of_getElem? (i := 15) rfl))) (htw _ (ck_65 _ (List.mem_of_getElem? (i := 8) rfl))) (htw _ (ck_65 _ (List.mem_of_getElem? (i := 9) rfl))) (htw _ (ck_65 _ (List.mem_of_getElem? (i := 10) rfl))) hK hP hD hS 4 2 2 0 rfl rfl rfl rfl rfl (by decide) (by decide) (by decide) (by decide) (by decide) (fun _ _ => rfl) (Nat.le_of_ble_eq_true rfl) (Nat.le_of_ble_eq_true rfl) dX2_copy_25 (fun f_1 H locs hP hD hS => ?_)
  have hP : va_P (dC, dI) vwCl [(xil, .inr (2, [.int 0, .ref xiln, .ref xilc])), (xle, .inr (2, [.int 0, .ref xlen, .ref xlec])), (xiln, .inl (cL0, 20, .inl f_1)), (xilc, .inl (cL1, 20, .inl fcL1)), (xlen, .inl (cE0, 20, .inl fcE0)), (xlec, .inl (cE1, 20, .inl fcE1))] H := hP
  have hD : va_D A [(xil, .inr (2, [.int 0, .ref xiln, .ref xilc])), (xle, .inr (2, [.int 0, .ref xlen, .ref xlec])), (xiln, .inl (cL0, 20, .inl f_1)), (xilc, .inl (cL1, 20, .inl fcL1)), (xlen, .inl (cE0, 20, .inl fcE0)), (xlec, .inl (cE1, 20, .inl fcE1))] := hD
  refine lv_aload_n hx hb dX2_copy_28 rfl (lv_at hl 1 rfl) ?_
  refine va_get (D := (dC, dI)) (ci := 2) (v := .ref xlec) (C := RX2) (T := TX2) (N := 3) hx hb htw inlX2 hown hK hP 1 rfl rfl 2 (by decide) (htw _ (ck_8 _ (List.mem_of_getElem? (i := 23) rfl))) (fun _ h9 => h9) rfl dX2_copy_29 ?_
  refine lv_iconst (v := 0) hx hb dX2_copy_32 (by decide) ?_
  refine lv_aload_n hx hb dX2_copy_33 rfl (lv_at hl 0 rfl) ?_
  refine va_get (D := (dC, dI)) (ci := 2) (v := .ref xilc) (C := RX2) (T := TX2) (N := 3) hx hb htw inlX2 hown hK hP 0 rfl rfl 2 (by decide) (htw _ (ck_8 _ (List.mem_of_getElem? (i := 23) rfl))) (fun _ h9 => h9) rfl dX2_copy_34 ?_
  refine lv_iconst (v := 0) hx hb dX2_copy_37 (by decide) ?_
  refine lv_bipush (v := 20) hx hb dX2_copy_38 (by decide) ?_
  refine xg_copyi (ty := .int) hx hb (by rw [hml]; exact hl.1.symm) hown (htw _ (ck_65 _ (List.mem_of_getElem? (i := 15) rfl))) (htw _ (ck_65 _ (List.mem_of_getElem? (i := 8) rfl))) (htw _ (ck_65 _ (List.mem_of_getElem? (i := 9) rfl))) (htw _ (ck_65 _ (List.mem_of_getElem? (i := 10) rfl))) hK hP hD hS 5 3 3 1 rfl rfl rfl rfl rfl (by decide) (by decide) (by decide) (by decide) (by decide) (fun _ _ => rfl) (Nat.le_of_ble_eq_true rfl) (Nat.le_of_ble_eq_true rfl) dX2_copy_40 (fun f_2 H locs hP hD hS => ?_)
  have hP : va_P (dC, dI) vwCl [(xil, .inr (2, [.int 0, .ref xiln, .ref xilc])), (xle, .inr (2, [.int 0, .ref xlen, .ref xlec])), (xiln, .inl (cL0, 20, .inl f_1)), (xilc, .inl (cL1, 20, .inl f_2)), (xlen, .inl (cE0, 20, .inl fcE0)), (xlec, .inl (cE1, 20, .inl fcE1))] H := hP
  have hD : va_D A [(xil, .inr (2, [.int 0, .ref xiln, .ref xilc])), (xle, .inr (2, [.int 0, .ref xlen, .ref xlec])), (xiln, .inl (cL0, 20, .inl f_1)), (xilc, .inl (cL1, 20, .inl f_2)), (xlen, .inl (cE0, 20, .inl fcE0)), (xlec, .inl (cE1, 20, .inl fcE1))] := hD
  refine W.widen (k := 0) (n := 0) (by omega) (by omega) ?_
  exact W.vret hx hb hr (fun t ht hW => ⟨⟨(), rfl, trivial, trivial⟩, hS.F ht⟩) hS.2.2 dX2_copy_43

theorem dX11_keep_0 : decode cX11_keep 0 = .ok (.aload_n 0, 1) := by decide +kernel
theorem dX11_keep_1 : decode cX11_keep 1 = .ok (.getfield 47, 3) := by decide +kernel
theorem dX11_keep_4 : decode cX11_keep 4 = .ok (.aload_n 0, 1) := by decide +kernel
theorem dX11_keep_5 : decode cX11_keep 5 = .ok (.getfield 19, 3) := by decide +kernel
theorem dX11_keep_8 : decode cX11_keep 8 = .ok (.getfield 290, 3) := by decide +kernel
theorem dX11_keep_11 : decode cX11_keep 11 = .ok (.invokevirtual 356, 3) := by decide +kernel
theorem dX11_keep_14 : decode cX11_keep 14 = .ok (.aload_n 0, 1) := by decide +kernel
theorem dX11_keep_15 : decode cX11_keep 15 = .ok (.getfield 51, 3) := by decide +kernel
theorem dX11_keep_18 : decode cX11_keep 18 = .ok (.aload_n 0, 1) := by decide +kernel
theorem dX11_keep_19 : decode cX11_keep 19 = .ok (.getfield 36, 3) := by decide +kernel
theorem dX11_keep_22 : decode cX11_keep 22 = .ok (.invokevirtual 360, 3) := by decide +kernel
theorem dX11_keep_25 : decode cX11_keep 25 = .ok (.aload_n 0, 1) := by decide +kernel
theorem dX11_keep_26 : decode cX11_keep 26 = .ok (.iconst 1, 1) := by decide +kernel
theorem dX11_keep_27 : decode cX11_keep 27 = .ok (.putfield 98, 3) := by decide +kernel
theorem dX11_keep_30 : decode cX11_keep 30 = .ok (.aload_n 0, 1) := by decide +kernel
theorem dX11_keep_31 : decode cX11_keep 31 = .ok (.getfield 47, 3) := by decide +kernel
theorem dX11_keep_34 : decode cX11_keep 34 = .ok (.getfield 293, 3) := by decide +kernel
theorem dX11_keep_37 : decode cX11_keep 37 = .ok (.ireturn, 1) := by decide +kernel
set_option maxHeartbeats 4000000 in
set_option maxRecDepth 100000 in
theorem mx_keep (l : Launch) (dC : Nat → ClassId) (dI : Nat → Nat → Nat) (x : Nat) (xpa : Nat) (xsp : Nat) (xdy : Nat) (xle : Nat) (xst : Nat) (xim : Nat) (xil : Nat) (xmo : Nat) (xom : Nat) (xwi : Nat) (b : Nat) (bto : Nat) (bnm : Nat) (bla : Nat) (bsk : Nat) (bru : Nat) (bbo : Nat) (bdi : Nat) (bda : Nat) (bdk : Nat) (bdt : Nat) (bdp : Nat) (bno : Nat) (xims : Nat) (ximf : Nat) (ximz : Nat) (bnos : Nat) (bnof : Nat) (bnoz : Nat) (xiln : Nat) (xilc : Nat) (xlen : Nat) (xlec : Nat) (cM0 : ClassId) (cM1 : ClassId) (cM2 : ClassId) (fcM0 : Nat → Int32) (fcM1 : Nat → Int32) (fcM2 : Nat → Int32) (cN0 : ClassId) (cN1 : ClassId) (cN2 : ClassId) (fcN0 : Nat → Int32) (fcN1 : Nat → Int32) (fcN2 : Nat → Int32) (cL0 : ClassId) (cL1 : ClassId) (fcL0 : Nat → Int32) (fcL1 : Nat → Int32) (cE0 : ClassId) (cE1 : ClassId) (fcE0 : Nat → Int32) (fcE1 : Nat → Int32) (sz : Nat) : Met l yX11_keep (Cond.code yX11_keep cX11_keep 1 (some .int) :: wsL_law) ({ frames := 2, cells := 0, slots := 0, locals := 39 }) (va_Pc [.ref x] (fun U => U.heap.size = sz ∧ va_P (dC, dI) vwCl [(x, .inr (11, [.ref xpa, .ref b, .ref xsp, .ref xdy, .ref xle, .ref xst, .int 0, .ref xim, .ref xil, .int 0, .ref xmo, .ref xom, .ref xwi])), (b, .inr (0, [.ref bto, .ref bnm, .ref bla, .ref bsk, .ref bru, .ref bbo, .ref bdi, .ref bda, .ref bdk, .ref bdt, .ref bdp, .ref bno])), (xim, .inr (6, [.int 0, .ref xims, .ref ximf, .ref ximz])), (bno, .inr (6, [.int 0, .ref bnos, .ref bnof, .ref bnoz])), (xil, .inr (2, [.int 0, .ref xiln, .ref xilc])), (xle, .inr (2, [.int 0, .ref xlen, .ref xlec])), (xims, .inl (cM0, 12, .inl fcM0)), (ximf, .inl (cM1, 96, .inl fcM1)), (ximz, .inl (cM2, 96, .inl fcM2)), (bnos, .inl (cN0, 12, .inl fcN0)), (bnof, .inl (cN1, 96, .inl fcN1)), (bnoz, .inl (cN2, 96, .inl fcN2)), (xiln, .inl (cL0, 20, .inl fcL0)), (xilc, .inl (cL1, 20, .inl fcL1)), (xlen, .inl (cE0, 20, .inl fcE0)), (xlec, .inl (cE1, 20, .inl fcE1))] U.heap ∧ va_K (dC, dI) vwCl [(cM0, .int), (cM1, .int), (cM2, .int), (cN0, .int), (cN1, .int), (cN2, .int), (cL0, .int), (cL1, .int), (cE0, .int), (cE1, .int)] U ∧ va_D (fun _ => True) [(x, .inr (11, [.ref xpa, .ref b, .ref xsp, .ref xdy, .ref xle, .ref xst, .int 0, .ref xim, .ref xil, .int 0, .ref xmo, .ref xom, .ref xwi])), (b, .inr (0, [.ref bto, .ref bnm, .ref bla, .ref bsk, .ref bru, .ref bbo, .ref bdi, .ref bda, .ref bdk, .ref bdt, .ref bdp, .ref bno])), (xim, .inr (6, [.int 0, .ref xims, .ref ximf, .ref ximz])), (bno, .inr (6, [.int 0, .ref bnos, .ref bnof, .ref bnoz])), (xil, .inr (2, [.int 0, .ref xiln, .ref xilc])), (xle, .inr (2, [.int 0, .ref xlen, .ref xlec])), (xims, .inl (cM0, 12, .inl fcM0)), (ximf, .inl (cM1, 96, .inl fcM1)), (ximz, .inl (cM2, 96, .inl fcM2)), (bnos, .inl (cN0, 12, .inl fcN0)), (bnof, .inl (cN1, 96, .inl fcN1)), (bnoz, .inl (cN2, 96, .inl fcN2)), (xiln, .inl (cL0, 20, .inl fcL0)), (xilc, .inl (cL1, 20, .inl fcL1)), (xlen, .inl (cE0, 20, .inl fcE0)), (xlec, .inl (cE1, 20, .inl fcE1))])) (va_Qi (fun (r : Int32) (u : Unit) => r = 0) (fun _ _ => True) (va_A [(x, .inr (11, [.ref xpa, .ref b, .ref xsp, .ref xdy, .ref xle, .ref xst, .int 0, .ref xim, .ref xil, .int 0, .ref xmo, .ref xom, .ref xwi])), (b, .inr (0, [.ref bto, .ref bnm, .ref bla, .ref bsk, .ref bru, .ref bbo, .ref bdi, .ref bda, .ref bdk, .ref bdt, .ref bdp, .ref bno])), (xim, .inr (6, [.int 0, .ref xims, .ref ximf, .ref ximz])), (bno, .inr (6, [.int 0, .ref bnos, .ref bnof, .ref bnoz])), (xil, .inr (2, [.int 0, .ref xiln, .ref xilc])), (xle, .inr (2, [.int 0, .ref xlen, .ref xlec])), (xims, .inl (cM0, 12, .inl fcM0)), (ximf, .inl (cM1, 96, .inl fcM1)), (ximz, .inl (cM2, 96, .inl fcM2)), (bnos, .inl (cN0, 12, .inl fcN0)), (bnof, .inl (cN1, 96, .inl fcN1)), (bnoz, .inl (cN2, 96, .inl fcN2)), (xiln, .inl (cL0, 20, .inl fcL0)), (xilc, .inl (cL1, 20, .inl fcL1)), (xlen, .inl (cE0, 20, .inl fcE0)), (xlec, .inl (cE1, 20, .inl fcE1))] sz)) 0 0 (va_A [(x, .inr (11, [.ref xpa, .ref b, .ref xsp, .ref xdy, .ref xle, .ref xst, .int 0, .ref xim, .ref xil, .int 0, .ref xmo, .ref xom, .ref xwi])), (b, .inr (0, [.ref bto, .ref bnm, .ref bla, .ref bsk, .ref bru, .ref bbo, .ref bdi, .ref bda, .ref bdk, .ref bdt, .ref bdp, .ref bno])), (xim, .inr (6, [.int 0, .ref xims, .ref ximf, .ref ximz])), (bno, .inr (6, [.int 0, .ref bnos, .ref bnof, .ref bnoz])), (xil, .inr (2, [.int 0, .ref xiln, .ref xilc])), (xle, .inr (2, [.int 0, .ref xlen, .ref xlec])), (xims, .inl (cM0, 12, .inl fcM0)), (ximf, .inl (cM1, 96, .inl fcM1)), (ximz, .inl (cM2, 96, .inl fcM2)), (bnos, .inl (cN0, 12, .inl fcN0)), (bnof, .inl (cN1, 96, .inl fcN1)), (bnoz, .inl (cN2, 96, .inl fcN2)), (xiln, .inl (cL0, 20, .inl fcL0)), (xilc, .inl (cL1, 20, .inl fcL1)), (xlen, .inl (cE0, 20, .inl fcE0)), (xlec, .inl (cE1, 20, .inl fcE1))] sz) := by
  refine Met.ofW (cc := cX11_keep) (maxL := 1) (ret := (some .int)) (by decide) rfl ?_
  intro p e s m args below meth c s₁ B hml hv
  obtain ⟨rfl, hsz, hP, hK, hD0⟩ := hv
  have hx := B.exec
  have hb := B.bytes
  have hr := B.returns
  have hts := atoms_spec (ws := Cond.code yX11_keep cX11_keep 1 (some .int) :: wsL_law) B.pre
  have htw : ∀ w ∈ wsL_law, w.before _ s = true := fun w h => hts w (List.mem_cons_of_mem _ h)
  have hown : s.vm.findClass RX11 = some m.cls := findClass_of_methodNamed B.named
  have hlocks := B.notSynchronized
  subst hsz
  have hD := hD0.self (sz := s.heap.size)
  generalize hAe : va_A [(x, .inr (11, [.ref xpa, .ref b, .ref xsp, .ref xdy, .ref xle, .ref xst, .int 0, .ref xim, .ref xil, .int 0, .ref xmo, .ref xom, .ref xwi])), (b, .inr (0, [.ref bto, .ref bnm, .ref bla, .ref bsk, .ref bru, .ref bbo, .ref bdi, .ref bda, .ref bdk, .ref bdt, .ref bdp, .ref bno])), (xim, .inr (6, [.int 0, .ref xims, .ref ximf, .ref ximz])), (bno, .inr (6, [.int 0, .ref bnos, .ref bnof, .ref bnoz])), (xil, .inr (2, [.int 0, .ref xiln, .ref xilc])), (xle, .inr (2, [.int 0, .ref xlen, .ref xlec])), (xims, .inl (cM0, 12, .inl fcM0)), (ximf, .inl (cM1, 96, .inl fcM1)), (ximz, .inl (cM2, 96, .inl fcM2)), (bnos, .inl (cN0, 12, .inl fcN0)), (bnof, .inl (cN1, 96, .inl fcN1)), (bnoz, .inl (cN2, 96, .inl fcN2)), (xiln, .inl (cL0, 20, .inl fcL0)), (xilc, .inl (cL1, 20, .inl fcL1)), (xlen, .inl (cE0, 20, .inl fcE0)), (xlec, .inl (cE1, 20, .inl fcE1))] s.heap.size = A at hD ⊢
  have hA : ∀ q : Nat, s.heap.size ≤ q → A q := fun q h => by rw [← hAe]; exact Or.inr h
  obtain ⟨H, rH⟩ : ∃ z : Heap, z = s.heap := ⟨_, rfl⟩
  have hS : va_S A s.heap H [] := by rw [rH]; exact va_S.rf
  have hP : va_P (dC, dI) vwCl [(x, .inr (11, [.ref xpa, .ref b, .ref xsp, .ref xdy, .ref xle, .ref xst, .int 0, .ref xim, .ref xil, .int 0, .ref xmo, .ref xom, .ref xwi])), (b, .inr (0, [.ref bto, .ref bnm, .ref bla, .ref bsk, .ref bru, .ref bbo, .ref bdi, .ref bda, .ref bdk, .ref bdt, .ref bdp, .ref bno])), (xim, .inr (6, [.int 0, .ref xims, .ref ximf, .ref ximz])), (bno, .inr (6, [.int 0, .ref bnos, .ref bnof, .ref bnoz])), (xil, .inr (2, [.int 0, .ref xiln, .ref xilc])), (xle, .inr (2, [.int 0, .ref xlen, .ref xlec])), (xims, .inl (cM0, 12, .inl fcM0)), (ximf, .inl (cM1, 96, .inl fcM1)), (ximz, .inl (cM2, 96, .inl fcM2)), (bnos, .inl (cN0, 12, .inl fcN0)), (bnof, .inl (cN1, 96, .inl fcN1)), (bnoz, .inl (cN2, 96, .inl fcN2)), (xiln, .inl (cL0, 20, .inl fcL0)), (xilc, .inl (cL1, 20, .inl fcL1)), (xlen, .inl (cE0, 20, .inl fcE0)), (xlec, .inl (cE1, 20, .inl fcE1))] H := by rw [rH]; exact hP
  rw [← rH]
  have hl := lv_entry ([.ref x]) (n := 1) (Nat.le_of_ble_eq_true rfl)
  rw [lg_entry_eq]
  generalize (lg_sl ([.ref x]) ++ List.replicate (1 - (lg_sl ([.ref x])).length) Slot.unset).toArray = ls at hl ⊢
  have hl : lv_has ls 1 [(0, .ref x)] := hl
  refine lv_aload_n hx hb dX11_keep_0 rfl (lv_at hl 0 rfl) ?_
  refine va_get (D := (dC, dI)) (ci := 11) (v := .ref xim) (C := RX11) (T := TX11) (N := 13) hx hb htw inlX11 hown hK hP 0 rfl rfl 7 (by decide) (htw _ (ck_2 _ (List.mem_of_getElem? (i := 12) rfl))) (fun _ h9 => h9) rfl dX11_keep_1 ?_
  refine lv_aload_n hx hb dX11_keep_4 rfl (lv_at hl 0 rfl) ?_
  refine va_get (D := (dC, dI)) (ci := 11) (v := .ref b) (C := RX11) (T := TX11) (N := 13) hx hb htw inlX11 hown hK hP 0 rfl rfl 1 (by decide) (htw _ (ck_1 _ (List.mem_of_getElem? (i := 21) rfl))) (fun _ h9 => h9) rfl dX11_keep_5 ?_
  refine va_get (D := (dC, dI)) (ci := 0) (v := .ref bno) (C := RX0) (T := TX0) (N := 12) hx hb htw inlX0 hown hK hP 1 rfl rfl 11 (by decide) (htw _ (ck_52 _ (List.mem_of_getElem? (i := 11) rfl))) (fun _ h9 => h9) rfl dX11_keep_8 ?_
  have hPc := hP.sub (ws' := [(xim, .inr (6, [.int 0, .ref xims, .ref ximf, .ref ximz])), (bno, .inr (6, [.int 0, .ref bnos, .ref bnof, .ref bnoz])), (xims, .inl (cM0, 12, .inl fcM0)), (ximf, .inl (cM1, 96, .inl fcM1)), (ximz, .inl (cM2, 96, .inl fcM2)), (bnos, .inl (cN0, 12, .inl fcN0)), (bnof, .inl (cN1, 96, .inl fcN1)), (bnoz, .inl (cN2, 96, .inl fcN2))]) [2, 3, 6, 7, 8, 9, 10, 11] rfl
  have hKc := hK.sub (tys' := [(cM0, .int), (cM1, .int), (cM2, .int), (cN0, .int), (cN1, .int), (cN2, .int)]) [0, 1, 2, 3, 4, 5] rfl
  have hDc := hD.sub (ws' := [(xim, .inr (6, [.int 0, .ref xims, .ref ximf, .ref ximz])), (bno, .inr (6, [.int 0, .ref bnos, .ref bnof, .ref bnoz])), (xims, .inl (cM0, 12, .inl fcM0)), (ximf, .inl (cM1, 96, .inl fcM1)), (ximz, .inl (cM2, 96, .inl fcM2)), (bnos, .inl (cN0, 12, .inl fcN0)), (bnof, .inl (cN1, 96, .inl fcN1)), (bnoz, .inl (cN2, 96, .inl fcN2))]) [2, 3, 6, 7, 8, 9, 10, 11] (by decide) rfl
  have hFc := va_free (wc := [(xim, .inr (6, [.int 0, .ref xims, .ref ximf, .ref ximz])), (bno, .inr (6, [.int 0, .ref bnos, .ref bnof, .ref bnoz])), (xims, .inl (cM0, 12, .inl fcM0)), (ximf, .inl (cM1, 96, .inl fcM1)), (ximz, .inl (cM2, 96, .inl fcM2)), (bnos, .inl (cN0, 12, .inl fcN0)), (bnof, .inl (cN1, 96, .inl fcN1)), (bnoz, .inl (cN2, 96, .inl fcN2))]) hD hS hA [2, 3, 6, 7, 8, 9, 10, 11] rfl
  refine va_callv (va_runV (As := [.ref bno]) (rest := []) ⟨hx, hb, hml, hown, htw⟩ (mt_ncopy l dC dI xim xims ximf ximz bno bnos bnof bnoz cM0 cM1 cM2 fcM0 fcM1 fcM2 cN0 cN1 cN2 fcN0 fcN1 fcN2 H.size) (cwV 1 htw (xg_V (ck_65 _ (List.mem_of_getElem? (i := 2) rfl)) (ck_65 _ (List.mem_of_getElem? (i := 3) rfl)) (ck_65 _ (List.mem_of_getElem? (i := 4) rfl)) (ck_2 _ (List.mem_of_getElem? (i := 11) rfl)) (ck_65 _ (List.mem_of_getElem? (i := 5) rfl))) rfl rfl rfl (by decide +kernel) ⟨Nat.le_of_ble_eq_true rfl, Nat.le_of_ble_eq_true rfl⟩) ⟨fun a U g mk q => by obtain ⟨q0, q1, qP, qK, qD⟩ := q; exact ⟨q0, q1, qP, va_K.moved (u := U) (U := U.calling g mk a) (Vm.Alike.refl U.vm) qK, qD⟩, va_recv hKc hPc (ci := 6) (q0 := 0) rfl rfl, fun U hU hW => ⟨rfl, by rw [hU], by rw [hU]; exact hPc, va_K.moved hW.alike hKc, hDc.weaken (fun _ _ _ _ => trivial)⟩⟩ rfl rfl hl.1 rfl (lv_room (Nat.le_of_ble_eq_true rfl)) dX11_keep_11 ⟨Nat.le_of_ble_eq_true rfl, Nat.le_of_ble_eq_true rfl⟩) hS (fun q _ h => hFc q h) hFc (fun u_2 t H1 locs ht hvm hw hB hz1 hk1 hS => ?_)
  try dsimp only at hw
  obtain ⟨hP1, hK1, hD1⟩ := hB
  rw [ht] at hP1
  have hK1 := va_K.moved hvm.symm hK1
  have hP1 : va_P (dC, dI) vwCl [(xim, .inr (6, [.int 0, .ref xims, .ref ximf, .ref ximz]))] H1 := hP1
  have hD1 : va_D (va_A [(xim, .inr (6, [.int 0, .ref xims, .ref ximf, .ref ximz])), (bno, .inr (6, [.int 0, .ref bnos, .ref bnof, .ref bnoz])), (xims, .inl (cM0, 12, .inl fcM0)), (ximf, .inl (cM1, 96, .inl fcM1)), (ximz, .inl (cM2, 96, .inl fcM2)), (bnos, .inl (cN0, 12, .inl fcN0)), (bnof, .inl (cN1, 96, .inl fcN1)), (bnoz, .inl (cN2, 96, .inl fcN2))] H.size) [(xim, .inr (6, [.int 0, .ref xims, .ref ximf, .ref ximz]))] := hD1
  have hK1 : va_K (dC, dI) vwCl [] s := hK1
  obtain ⟨hP, hD⟩ := va_join (wr := [(x, .inr (11, [.ref xpa, .ref b, .ref xsp, .ref xdy, .ref xle, .ref xst, .int 0, .ref xim, .ref xil, .int 0, .ref xmo, .ref xom, .ref xwi])), (b, .inr (0, [.ref bto, .ref bnm, .ref bla, .ref bsk, .ref bru, .ref bbo, .ref bdi, .ref bda, .ref bdk, .ref bdt, .ref bdp, .ref bno])), (xil, .inr (2, [.int 0, .ref xiln, .ref xilc])), (xle, .inr (2, [.int 0, .ref xlen, .ref xlec])), (xiln, .inl (cL0, 20, .inl fcL0)), (xilc, .inl (cL1, 20, .inl fcL1)), (xlen, .inl (cE0, 20, .inl fcE0)), (xlec, .inl (cE1, 20, .inl fcE1))]) (w1 := [(xim, .inr (6, [.int 0, .ref xims, .ref ximf, .ref ximz]))]) hP hD [2, 3, 6, 7, 8, 9, 10, 11] [0, 1, 4, 5, 12, 13, 14, 15] rfl rfl (by decide) (by decide) hk1 hFc hP1 hD1
  generalize H1 = H at hP hS ⊢
  have hP : va_P (dC, dI) vwCl [(x, .inr (11, [.ref xpa, .ref b, .ref xsp, .ref xdy, .ref xle, .ref xst, .int 0, .ref xim, .ref xil, .int 0, .ref xmo, .ref xom, .ref xwi])), (b, .inr (0, [.ref bto, .ref bnm, .ref bla, .ref bsk, .ref bru, .ref bbo, .ref bdi, .ref bda, .ref bdk, .ref bdt, .ref bdp, .ref bno])), (xil, .inr (2, [.int 0, .ref xiln, .ref xilc])), (xle, .inr (2, [.int 0, .ref xlen, .ref xlec])), (xiln, .inl (cL0, 20, .inl fcL0)), (xilc, .inl (cL1, 20, .inl fcL1)), (xlen, .inl (cE0, 20, .inl fcE0)), (xlec, .inl (cE1, 20, .inl fcE1)), (xim, .inr (6, [.int 0, .ref xims, .ref ximf, .ref ximz]))] H := hP
  have hD : va_D A [(x, .inr (11, [.ref xpa, .ref b, .ref xsp, .ref xdy, .ref xle, .ref xst, .int 0, .ref xim, .ref xil, .int 0, .ref xmo, .ref xom, .ref xwi])), (b, .inr (0, [.ref bto, .ref bnm, .ref bla, .ref bsk, .ref bru, .ref bbo, .ref bdi, .ref bda, .ref bdk, .ref bdt, .ref bdp, .ref bno])), (xil, .inr (2, [.int 0, .ref xiln, .ref xilc])), (xle, .inr (2, [.int 0, .ref xlen, .ref xlec])), (xiln, .inl (cL0, 20, .inl fcL0)), (xilc, .inl (cL1, 20, .inl fcL1)), (xlen, .inl (cE0, 20, .inl fcE0)), (xlec, .inl (cE1, 20, .inl fcE1)), (xim, .inr (6, [.int 0, .ref xims, .ref ximf, .ref ximz]))] := hD
  refine W.widen (k := 0) (n := 0) (by omega) (by omega) ?_
  refine lv_aload_n hx hb dX11_keep_14 rfl (lv_at hl 0 rfl) ?_
  refine va_get (D := (dC, dI)) (ci := 11) (v := .ref xil) (C := RX11) (T := TX11) (N := 13) hx hb htw inlX11 hown hK hP 0 rfl rfl 8 (by decide) (htw _ (ck_2 _ (List.mem_of_getElem? (i := 13) rfl))) (fun _ h9 => h9) rfl dX11_keep_15 ?_
  refine lv_aload_n hx hb dX11_keep_18 rfl (lv_at hl 0 rfl) ?_
  refine va_get (D := (dC, dI)) (ci := 11) (v := .ref xle) (C := RX11) (T := TX11) (N := 13) hx hb htw inlX11 hown hK hP 0 rfl rfl 4 (by decide) (htw _ (ck_2 _ (List.mem_of_getElem? (i := 6) rfl))) (fun _ h9 => h9) rfl dX11_keep_19 ?_
  have hPc := hP.sub (ws' := [(xil, .inr (2, [.int 0, .ref xiln, .ref xilc])), (xle, .inr (2, [.int 0, .ref xlen, .ref xlec])), (xiln, .inl (cL0, 20, .inl fcL0)), (xilc, .inl (cL1, 20, .inl fcL1)), (xlen, .inl (cE0, 20, .inl fcE0)), (xlec, .inl (cE1, 20, .inl fcE1))]) [2, 3, 4, 5, 6, 7] rfl
  have hKc := hK.sub (tys' := [(cL0, .int), (cL1, .int), (cE0, .int), (cE1, .int)]) [6, 7, 8, 9] rfl
  have hDc := hD.sub (ws' := [(xil, .inr (2, [.int 0, .ref xiln, .ref xilc])), (xle, .inr (2, [.int 0, .ref xlen, .ref xlec])), (xiln, .inl (cL0, 20, .inl fcL0)), (xilc, .inl (cL1, 20, .inl fcL1)), (xlen, .inl (cE0, 20, .inl fcE0)), (xlec, .inl (cE1, 20, .inl fcE1))]) [2, 3, 4, 5, 6, 7] (by decide) rfl
  have hFc := va_free (wc := [(xil, .inr (2, [.int 0, .ref xiln, .ref xilc])), (xle, .inr (2, [.int 0, .ref xlen, .ref xlec])), (xiln, .inl (cL0, 20, .inl fcL0)), (xilc, .inl (cL1, 20, .inl fcL1)), (xlen, .inl (cE0, 20, .inl fcE0)), (xlec, .inl (cE1, 20, .inl fcE1))]) hD hS hA [2, 3, 4, 5, 6, 7] rfl
  refine va_callv (va_runV (As := [.ref xle]) (rest := []) ⟨hx, hb, hml, hown, htw⟩ (mt_lcopy l dC dI xil xiln xilc xle xlen xlec cL0 cL1 fcL0 fcL1 cE0 cE1 fcE0 fcE1 H.size) (cwV 1 htw (xg_V (ck_65 _ (List.mem_of_getElem? (i := 11) rfl)) (ck_65 _ (List.mem_of_getElem? (i := 12) rfl)) (ck_65 _ (List.mem_of_getElem? (i := 13) rfl)) (ck_2 _ (List.mem_of_getElem? (i := 5) rfl)) (ck_65 _ (List.mem_of_getElem? (i := 14) rfl))) rfl rfl rfl (by decide +kernel) ⟨Nat.le_of_ble_eq_true rfl, Nat.le_of_ble_eq_true rfl⟩) ⟨fun a U g mk q => by obtain ⟨q0, q1, qP, qK, qD⟩ := q; exact ⟨q0, q1, qP, va_K.moved (u := U) (U := U.calling g mk a) (Vm.Alike.refl U.vm) qK, qD⟩, va_recv hKc hPc (ci := 2) (q0 := 0) rfl rfl, fun U hU hW => ⟨rfl, by rw [hU], by rw [hU]; exact hPc, va_K.moved hW.alike hKc, hDc.weaken (fun _ _ _ _ => trivial)⟩⟩ rfl rfl hl.1 rfl (lv_room (Nat.le_of_ble_eq_true rfl)) dX11_keep_22 ⟨Nat.le_of_ble_eq_true rfl, Nat.le_of_ble_eq_true rfl⟩) hS (fun q _ h => hFc q h) hFc (fun u_4 t H1 locs ht hvm hw hB hz1 hk1 hS => ?_)
  try dsimp only at hw
  have hP1 : va_P (dC, dI) vwCl [] H1 := fun k q h => by simp at h
  have hD1 : va_D (va_A [(xil, .inr (2, [.int 0, .ref xiln, .ref xilc])), (xle, .inr (2, [.int 0, .ref xlen, .ref xlec])), (xiln, .inl (cL0, 20, .inl fcL0)), (xilc, .inl (cL1, 20, .inl fcL1)), (xlen, .inl (cE0, 20, .inl fcE0)), (xlec, .inl (cE1, 20, .inl fcE1))] H.size) [] := ⟨fun i j p q h => by simp at h, fun k q h => by simp at h⟩
  obtain ⟨hP, hD⟩ := va_join (wr := [(x, .inr (11, [.ref xpa, .ref b, .ref xsp, .ref xdy, .ref xle, .ref xst, .int 0, .ref xim, .ref xil, .int 0, .ref xmo, .ref xom, .ref xwi])), (b, .inr (0, [.ref bto, .ref bnm, .ref bla, .ref bsk, .ref bru, .ref bbo, .ref bdi, .ref bda, .ref bdk, .ref bdt, .ref bdp, .ref bno])), (xim, .inr (6, [.int 0, .ref xims, .ref ximf, .ref ximz]))]) (w1 := []) hP hD [2, 3, 4, 5, 6, 7] [0, 1, 8] rfl rfl (by decide) (by decide) hk1 hFc hP1 hD1
  generalize H1 = H at hP hS ⊢
  have hP : va_P (dC, dI) vwCl [(x, .inr (11, [.ref xpa, .ref b, .ref xsp, .ref xdy, .ref xle, .ref xst, .int 0, .ref xim, .ref xil, .int 0, .ref xmo, .ref xom, .ref xwi])), (b, .inr (0, [.ref bto, .ref bnm, .ref bla, .ref bsk, .ref bru, .ref bbo, .ref bdi, .ref bda, .ref bdk, .ref bdt, .ref bdp, .ref bno])), (xim, .inr (6, [.int 0, .ref xims, .ref ximf, .ref ximz]))] H := hP
  have hD : va_D A [(x, .inr (11, [.ref xpa, .ref b, .ref xsp, .ref xdy, .ref xle, .ref xst, .int 0, .ref xim, .ref xil, .int 0, .ref xmo, .ref xom, .ref xwi])), (b, .inr (0, [.ref bto, .ref bnm, .ref bla, .ref bsk, .ref bru, .ref bbo, .ref bdi, .ref bda, .ref bdk, .ref bdt, .ref bdp, .ref bno])), (xim, .inr (6, [.int 0, .ref xims, .ref ximf, .ref ximz]))] := hD
  refine W.widen (k := 0) (n := 0) (by omega) (by omega) ?_
  refine lv_aload_n hx hb dX11_keep_25 rfl (lv_at hl 0 rfl) ?_
  refine lv_iconst (v := 1) hx hb dX11_keep_26 (by decide) ?_
  refine va_put (D := (dC, dI)) (ci := 11) (v := .int 1) (ty := tyX11 9) (C := RX11) (T := TX11) (N := 13) hx hb htw inlX11 tyX11 tyX11_ok nmX11 hown hK hP hD hS 0 rfl rfl 9 (by decide) (htw _ (ck_13 _ (List.mem_of_getElem? (i := 0) rfl))) (fun _ h9 => h9) rfl (by decide +kernel) rfl rfl (Nat.le_of_ble_eq_true rfl) dX11_keep_27 (fun H locs hP hD hS => ?_)
  have hP : va_P (dC, dI) vwCl [(x, .inr (11, [.ref xpa, .ref b, .ref xsp, .ref xdy, .ref xle, .ref xst, .int 0, .ref xim, .ref xil, .int 1, .ref xmo, .ref xom, .ref xwi])), (b, .inr (0, [.ref bto, .ref bnm, .ref bla, .ref bsk, .ref bru, .ref bbo, .ref bdi, .ref bda, .ref bdk, .ref bdt, .ref bdp, .ref bno])), (xim, .inr (6, [.int 0, .ref xims, .ref ximf, .ref ximz]))] H := hP
  have hD : va_D A [(x, .inr (11, [.ref xpa, .ref b, .ref xsp, .ref xdy, .ref xle, .ref xst, .int 0, .ref xim, .ref xil, .int 1, .ref xmo, .ref xom, .ref xwi])), (b, .inr (0, [.ref bto, .ref bnm, .ref bla, .ref bsk, .ref bru, .ref bbo, .ref bdi, .ref bda, .ref bdk, .ref bdt, .ref bdp, .ref bno])), (xim, .inr (6, [.int 0, .ref xims, .ref ximf, .ref ximz]))] := hD
  refine lv_aload_n hx hb dX11_keep_30 rfl (lv_at hl 0 rfl) ?_
  refine va_get (D := (dC, dI)) (ci := 11) (v := .ref xim) (C := RX11) (T := TX11) (N := 13) hx hb htw inlX11 hown hK hP 0 rfl rfl 7 (by decide) (htw _ (ck_2 _ (List.mem_of_getElem? (i := 12) rfl))) (fun _ h9 => h9) rfl dX11_keep_31 ?_
  refine va_get (D := (dC, dI)) (ci := 6) (v := .int 0) (C := RX6) (T := TX6) (N := 4) hx hb htw inlX6 hown hK hP 2 rfl rfl 0 (by decide) (htw _ (ck_52 _ (List.mem_of_getElem? (i := 12) rfl))) (fun _ h9 => h9) rfl dX11_keep_34 ?_
  refine W.widen (k := 0) (n := 0) (by omega) (by omega) ?_
  exact W.iret (v := 0) hx hb hr (fun t ht hW => ⟨⟨0, (), rfl, rfl, trivial⟩, hS.F ht⟩) hS.2.2 dX11_keep_37
