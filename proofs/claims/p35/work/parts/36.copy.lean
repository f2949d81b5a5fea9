def fn_copy (fNs : Nat → Int32) (fNf : Nat → Int32) (fNz : Nat → Int32) (is : Int32) (fIs : Nat → Int32) (fIf : Nat → Int32) (fIz : Nat → Int32) : (Int32) × (Nat → Int32) × (Nat → Int32) × (Nat → Int32) := (is, (va_cpy fIs fNs (0 : Int32).toNatClampNeg (0 : Int32).toNatClampNeg (12 : Int32).toNatClampNeg), (va_cpy fIf fNf (0 : Int32).toNatClampNeg (0 : Int32).toNatClampNeg (96 : Int32).toNatClampNeg), (va_cpy fIz fNz (0 : Int32).toNatClampNeg (0 : Int32).toNatClampNeg (96 : Int32).toNatClampNeg))
theorem dX6_copy_0 : decode cX6_copy 0 = .ok (.aload_n 1, 1) := zk_43 (by decide +kernel)
theorem dX6_copy_1 : decode cX6_copy 1 = .ok (.ifnonnull 4, 3) := zk_199 (by decide +kernel)
theorem dX6_copy_5 : decode cX6_copy 5 = .ok (.aload_n 0, 1) := zk_42 (by decide +kernel)
theorem dX6_copy_6 : decode cX6_copy 6 = .ok (.aload_n 1, 1) := zk_43 (by decide +kernel)
theorem dX6_copy_7 : decode cX6_copy 7 = .ok (.getfield 32, 3) := zk_180 (by decide +kernel)
theorem dX6_copy_10 : decode cX6_copy 10 = .ok (.putfield 32, 3) := zk_181 (by decide +kernel)
theorem dX6_copy_13 : decode cX6_copy 13 = .ok (.aload_n 1, 1) := zk_43 (by decide +kernel)
theorem dX6_copy_14 : decode cX6_copy 14 = .ok (.getfield 9, 3) := zk_180 (by decide +kernel)
theorem dX6_copy_17 : decode cX6_copy 17 = .ok (.iconst 0, 1) := zk_3 (by decide +kernel)
theorem dX6_copy_18 : decode cX6_copy 18 = .ok (.aload_n 0, 1) := zk_42 (by decide +kernel)
theorem dX6_copy_19 : decode cX6_copy 19 = .ok (.getfield 9, 3) := zk_180 (by decide +kernel)
theorem dX6_copy_22 : decode cX6_copy 22 = .ok (.iconst 0, 1) := zk_3 (by decide +kernel)
theorem dX6_copy_23 : decode cX6_copy 23 = .ok (.aload_n 0, 1) := zk_42 (by decide +kernel)
theorem dX6_copy_24 : decode cX6_copy 24 = .ok (.getfield 9, 3) := zk_180 (by decide +kernel)
theorem dX6_copy_27 : decode cX6_copy 27 = .ok (.arraylength, 1) := zk_190 (by decide +kernel)
theorem dX6_copy_28 : decode cX6_copy 28 = .ok (.invokestatic 36, 3) := zk_184 (by decide +kernel)
theorem dX6_copy_31 : decode cX6_copy 31 = .ok (.aload_n 1, 1) := zk_43 (by decide +kernel)
theorem dX6_copy_32 : decode cX6_copy 32 = .ok (.getfield 15, 3) := zk_180 (by decide +kernel)
theorem dX6_copy_35 : decode cX6_copy 35 = .ok (.iconst 0, 1) := zk_3 (by decide +kernel)
theorem dX6_copy_36 : decode cX6_copy 36 = .ok (.aload_n 0, 1) := zk_42 (by decide +kernel)
theorem dX6_copy_37 : decode cX6_copy 37 = .ok (.getfield 15, 3) := zk_180 (by decide +kernel)
theorem dX6_copy_40 : decode cX6_copy 40 = .ok (.iconst 0, 1) := zk_3 (by decide +kernel)
theorem dX6_copy_41 : decode cX6_copy 41 = .ok (.aload_n 0, 1) := zk_42 (by decide +kernel)
theorem dX6_copy_42 : decode cX6_copy 42 = .ok (.getfield 15, 3) := zk_180 (by decide +kernel)
theorem dX6_copy_45 : decode cX6_copy 45 = .ok (.arraylength, 1) := zk_190 (by decide +kernel)
theorem dX6_copy_46 : decode cX6_copy 46 = .ok (.invokestatic 36, 3) := zk_184 (by decide +kernel)
theorem dX6_copy_49 : decode cX6_copy 49 = .ok (.aload_n 1, 1) := zk_43 (by decide +kernel)
theorem dX6_copy_50 : decode cX6_copy 50 = .ok (.getfield 18, 3) := zk_180 (by decide +kernel)
theorem dX6_copy_53 : decode cX6_copy 53 = .ok (.iconst 0, 1) := zk_3 (by decide +kernel)
theorem dX6_copy_54 : decode cX6_copy 54 = .ok (.aload_n 0, 1) := zk_42 (by decide +kernel)
theorem dX6_copy_55 : decode cX6_copy 55 = .ok (.getfield 18, 3) := zk_180 (by decide +kernel)
theorem dX6_copy_58 : decode cX6_copy 58 = .ok (.iconst 0, 1) := zk_3 (by decide +kernel)
theorem dX6_copy_59 : decode cX6_copy 59 = .ok (.aload_n 0, 1) := zk_42 (by decide +kernel)
theorem dX6_copy_60 : decode cX6_copy 60 = .ok (.getfield 18, 3) := zk_180 (by decide +kernel)
theorem dX6_copy_63 : decode cX6_copy 63 = .ok (.arraylength, 1) := zk_190 (by decide +kernel)
theorem dX6_copy_64 : decode cX6_copy 64 = .ok (.invokestatic 36, 3) := zk_184 (by decide +kernel)
theorem dX6_copy_67 : decode cX6_copy 67 = .ok (.return_, 1) := zk_177 (by decide +kernel)
set_option maxHeartbeats 4000000 in
set_option maxRecDepth 100000 in
theorem gn_copy (l : Launch) (dC : Nat → ClassId) (dI : Nat → Nat → Nat) (no : Nat) (ns : Int32) (nsa : Nat) (nfa : Nat) (nza : Nat) (cNs : ClassId) (fNs : Nat → Int32) (cNf : ClassId) (fNf : Nat → Int32) (cNz : ClassId) (fNz : Nat → Int32) (n2 : Nat) (is : Int32) (isa : Nat) (ifa : Nat) (iza : Nat) (cIs : ClassId) (fIs : Nat → Int32) (cIf : ClassId) (fIf : Nat → Int32) (cIz : ClassId) (fIz : Nat → Int32) (sz : Nat) : Met l yX6_copy (Cond.code yX6_copy cX6_copy 2 none :: wsL_law) ({ frames := 1, cells := 0, slots := 0, locals := 18 }) (va_Pc [.ref no, .ref n2] (fun U => U.heap.size = sz ∧ va_P (dC, dI) vwCl [(eO6a no ns nsa nfa nza), (eA0 nsa cNs 12 fNs), (eA0 nfa cNf 96 fNf), (eA0 nza cNz 96 fNz), (eO6a n2 is isa ifa iza), (eA0 isa cIs 12 fIs), (eA0 ifa cIf 96 fIf), (eA0 iza cIz 96 fIz)] U.heap ∧ va_K (dC, dI) vwCl [(cNs, .int), (cNf, .int), (cNz, .int), (cIs, .int), (cIf, .int), (cIz, .int)] U ∧ va_D (fun _ => True) [(eO6a no ns nsa nfa nza), (eA0 nsa cNs 12 fNs), (eA0 nfa cNf 96 fNf), (eA0 nza cNz 96 fNz), (eO6a n2 is isa ifa iza), (eA0 isa cIs 12 fIs), (eA0 ifa cIf 96 fIf), (eA0 iza cIz 96 fIz)])) (va_Qv (fun (u : (Int32) × (Nat → Int32) × (Nat → Int32) × (Nat → Int32)) => u = fn_copy fNs fNf fNz is fIs fIf fIz) (fun (u : (Int32) × (Nat → Int32) × (Nat → Int32) × (Nat → Int32)) t => va_P (dC, dI) vwCl [(eO6a no u.1 nsa nfa nza), (eA0 nsa cNs 12 u.2.1), (eA0 nfa cNf 96 u.2.2.1), (eA0 nza cNz 96 u.2.2.2), (eO6a n2 is isa ifa iza), (eA0 isa cIs 12 fIs), (eA0 ifa cIf 96 fIf), (eA0 iza cIz 96 fIz)] t.heap ∧ va_K (dC, dI) vwCl [] t ∧ va_D (va_A [(eO6a no ns nsa nfa nza), (eA0 nsa cNs 12 fNs), (eA0 nfa cNf 96 fNf), (eA0 nza cNz 96 fNz), (eO6a n2 is isa ifa iza), (eA0 isa cIs 12 fIs), (eA0 ifa cIf 96 fIf), (eA0 iza cIz 96 fIz)] sz) [(eO6a no u.1 nsa nfa nza), (eA0 nsa cNs 12 u.2.1), (eA0 nfa cNf 96 u.2.2.1), (eA0 nza cNz 96 u.2.2.2), (eO6a n2 is isa ifa iza), (eA0 isa cIs 12 fIs), (eA0 ifa cIf 96 fIf), (eA0 iza cIz 96 fIz)]) (va_A [(eO6a no ns nsa nfa nza), (eA0 nsa cNs 12 fNs), (eA0 nfa cNf 96 fNf), (eA0 nza cNz 96 fNz), (eO6a n2 is isa ifa iza), (eA0 isa cIs 12 fIs), (eA0 ifa cIf 96 fIf), (eA0 iza cIz 96 fIz)] sz)) 0 0 (va_A [(eO6a no ns nsa nfa nza), (eA0 nsa cNs 12 fNs), (eA0 nfa cNf 96 fNf), (eA0 nza cNz 96 fNz), (eO6a n2 is isa ifa iza), (eA0 isa cIs 12 fIs), (eA0 ifa cIf 96 fIf), (eA0 iza cIz 96 fIz)] sz) := by
  refine Met.ofW (cc := cX6_copy) (maxL := 2) (ret := none) (by decide) rfl ?_
  intro p e s m args below meth c s₁ B hml hv
  obtain ⟨rfl, hsz, hP, hK, hD0⟩ := hv
  have hx := B.exec
  have hb := B.bytes
  have hr := B.returns
  have hts := atoms_spec (ws := Cond.code yX6_copy cX6_copy 2 none :: wsL_law) B.pre
  have htw : ∀ w ∈ wsL_law, w.before _ s = true := fun w h => hts w (List.mem_cons_of_mem _ h)
  have hown : s.vm.findClass RX6 = some m.cls := findClass_of_methodNamed B.named
  have hlocks := B.notSynchronized
  subst hsz
  have hD := hD0.self (sz := s.heap.size)
  generalize hAe : va_A [(eO6a no ns nsa nfa nza), (eA0 nsa cNs 12 fNs), (eA0 nfa cNf 96 fNf), (eA0 nza cNz 96 fNz), (eO6a n2 is isa ifa iza), (eA0 isa cIs 12 fIs), (eA0 ifa cIf 96 fIf), (eA0 iza cIz 96 fIz)] s.heap.size = A at hD ⊢
  have hA : ∀ q : Nat, s.heap.size ≤ q → A q := fun q h => by rw [← hAe]; exact Or.inr h
  obtain ⟨H, rH⟩ : ∃ z : Heap, z = s.heap := ⟨_, rfl⟩
  have hS : va_S A s.heap H [] := by rw [rH]; exact va_S.rf
  have hP : va_P (dC, dI) vwCl [(eO6a no ns nsa nfa nza), (eA0 nsa cNs 12 fNs), (eA0 nfa cNf 96 fNf), (eA0 nza cNz 96 fNz), (eO6a n2 is isa ifa iza), (eA0 isa cIs 12 fIs), (eA0 ifa cIf 96 fIf), (eA0 iza cIz 96 fIz)] H := by rw [rH]; exact hP
  rw [← rH]
  have hl := lv_entry ([.ref no, .ref n2]) (n := 2) (Nat.le_of_ble_eq_true rfl)
  rw [lg_entry_eq]
  generalize (lg_sl ([.ref no, .ref n2]) ++ List.replicate (2 - (lg_sl ([.ref no, .ref n2])).length) Slot.unset).toArray = ls at hl ⊢
  have hl : lv_has ls 2 [(0, .ref no), (1, .ref n2)] := hl
  refine lv_aload_n hx hb dX6_copy_0 rfl (lv_at hl 1 rfl) ?_
  refine lv_ifnonnull (tgt := 5) hx hb dX6_copy_1 (by decide) ?_
  refine lv_aload_n hx hb dX6_copy_5 rfl (lv_at hl 0 rfl) ?_
  refine lv_aload_n hx hb dX6_copy_6 rfl (lv_at hl 1 rfl) ?_
  refine va_get (D := (dC, dI)) (ci := 6) (v := .int is) (C := RX6) (T := TX6) (N := 4) hx hb htw inlX6 hown hK hP 4 rfl rfl 0 (by decide) (htw _ (ck_65 _ (List.mem_of_getElem? (i := 2) rfl))) (fun _ h9 => h9) rfl dX6_copy_7 ?_
  refine va_put (D := (dC, dI)) (ci := 6) (v := .int is) (ty := tyX6 0) (C := RX6) (T := TX6) (N := 4) hx hb htw inlX6 tyX6 tyX6_ok nmX6 hown hK hP hD hS 0 rfl rfl 0 (by decide) (htw _ (ck_65 _ (List.mem_of_getElem? (i := 2) rfl))) (fun _ h9 => h9) rfl (tyX6_ok 0 (by decide)) rfl rfl (Nat.le_of_ble_eq_true rfl) dX6_copy_10 (fun H locs hP hD hS => ?_)
  obtain ⟨hP, hD⟩ := zre [(eO6a no is nsa nfa nza), (eA0 nsa cNs 12 fNs), (eA0 nfa cNf 96 fNf), (eA0 nza cNz 96 fNz), (eO6a n2 is isa ifa iza), (eA0 isa cIs 12 fIs), (eA0 ifa cIf 96 fIf), (eA0 iza cIz 96 fIz)] hP hD rfl
  refine lv_aload_n hx hb dX6_copy_13 rfl (lv_at hl 1 rfl) ?_
  refine va_get (D := (dC, dI)) (ci := 6) (v := .ref isa) (C := RX6) (T := TX6) (N := 4) hx hb htw inlX6 hown hK hP 4 rfl rfl 1 (by decide) (htw _ (ck_7 _ (List.mem_of_getElem? (i := 8) rfl))) (fun _ h9 => h9) rfl dX6_copy_14 ?_
  refine lv_iconst (v := 0) hx hb dX6_copy_17 (by decide) ?_
  refine lv_aload_n hx hb dX6_copy_18 rfl (lv_at hl 0 rfl) ?_
  refine va_get (D := (dC, dI)) (ci := 6) (v := .ref nsa) (C := RX6) (T := TX6) (N := 4) hx hb htw inlX6 hown hK hP 0 rfl rfl 1 (by decide) (htw _ (ck_7 _ (List.mem_of_getElem? (i := 8) rfl))) (fun _ h9 => h9) rfl dX6_copy_19 ?_
  refine lv_iconst (v := 0) hx hb dX6_copy_22 (by decide) ?_
  refine lv_aload_n hx hb dX6_copy_23 rfl (lv_at hl 0 rfl) ?_
  refine va_get (D := (dC, dI)) (ci := 6) (v := .ref nsa) (C := RX6) (T := TX6) (N := 4) hx hb htw inlX6 hown hK hP 0 rfl rfl 1 (by decide) (htw _ (ck_7 _ (List.mem_of_getElem? (i := 8) rfl))) (fun _ h9 => h9) rfl dX6_copy_24 ?_
  refine va_alen hx hb hK hP 1 0 rfl rfl (v := 12) rfl dX6_copy_27 ?_
  refine va_copyi (ty := .int) hx hb (by rw [hml]; exact hl.1.symm) hown (htw _ (ck_65 _ (List.mem_of_getElem? (i := 3) rfl))) (htw _ (ck_65 _ (List.mem_of_getElem? (i := 4) rfl))) (htw _ (ck_65 _ (List.mem_of_getElem? (i := 5) rfl))) (htw _ (ck_65 _ (List.mem_of_getElem? (i := 6) rfl))) hK hP hD hS 5 1 3 0 rfl rfl rfl rfl rfl (by decide) (by decide) (by decide) (by decide) (by decide) (fun _ _ => rfl) (Nat.le_of_ble_eq_true rfl) (Nat.le_of_ble_eq_true rfl) dX6_copy_28 (fun H locs hP hD hS => ?_)
  obtain ⟨hP, hD⟩ := zre [(eO6a no is nsa nfa nza), (eA0 nsa cNs 12 (va_cpy fIs fNs (0 : Int32).toNatClampNeg (0 : Int32).toNatClampNeg (12 : Int32).toNatClampNeg)), (eA0 nfa cNf 96 fNf), (eA0 nza cNz 96 fNz), (eO6a n2 is isa ifa iza), (eA0 isa cIs 12 fIs), (eA0 ifa cIf 96 fIf), (eA0 iza cIz 96 fIz)] hP hD rfl
  refine lv_aload_n hx hb dX6_copy_31 rfl (lv_at hl 1 rfl) ?_
  refine va_get (D := (dC, dI)) (ci := 6) (v := .ref ifa) (C := RX6) (T := TX6) (N := 4) hx hb htw inlX6 hown hK hP 4 rfl rfl 2 (by decide) (htw _ (ck_7 _ (List.mem_of_getElem? (i := 9) rfl))) (fun _ h9 => h9) rfl dX6_copy_32 ?_
  refine lv_iconst (v := 0) hx hb dX6_copy_35 (by decide) ?_
  refine lv_aload_n hx hb dX6_copy_36 rfl (lv_at hl 0 rfl) ?_
  refine va_get (D := (dC, dI)) (ci := 6) (v := .ref nfa) (C := RX6) (T := TX6) (N := 4) hx hb htw inlX6 hown hK hP 0 rfl rfl 2 (by decide) (htw _ (ck_7 _ (List.mem_of_getElem? (i := 9) rfl))) (fun _ h9 => h9) rfl dX6_copy_37 ?_
  refine lv_iconst (v := 0) hx hb dX6_copy_40 (by decide) ?_
  refine lv_aload_n hx hb dX6_copy_41 rfl (lv_at hl 0 rfl) ?_
  refine va_get (D := (dC, dI)) (ci := 6) (v := .ref nfa) (C := RX6) (T := TX6) (N := 4) hx hb htw inlX6 hown hK hP 0 rfl rfl 2 (by decide) (htw _ (ck_7 _ (List.mem_of_getElem? (i := 9) rfl))) (fun _ h9 => h9) rfl dX6_copy_42 ?_
  refine va_alen hx hb hK hP 2 1 rfl rfl (v := 96) rfl dX6_copy_45 ?_
  refine va_copyi (ty := .int) hx hb (by rw [hml]; exact hl.1.symm) hown (htw _ (ck_65 _ (List.mem_of_getElem? (i := 3) rfl))) (htw _ (ck_65 _ (List.mem_of_getElem? (i := 4) rfl))) (htw _ (ck_65 _ (List.mem_of_getElem? (i := 5) rfl))) (htw _ (ck_65 _ (List.mem_of_getElem? (i := 6) rfl))) hK hP hD hS 6 2 4 1 rfl rfl rfl rfl rfl (by decide) (by decide) (by decide) (by decide) (by decide) (fun _ _ => rfl) (Nat.le_of_ble_eq_true rfl) (Nat.le_of_ble_eq_true rfl) dX6_copy_46 (fun H locs hP hD hS => ?_)
  obtain ⟨hP, hD⟩ := zre [(eO6a no is nsa nfa nza), (eA0 nsa cNs 12 (va_cpy fIs fNs (0 : Int32).toNatClampNeg (0 : Int32).toNatClampNeg (12 : Int32).toNatClampNeg)), (eA0 nfa cNf 96 (va_cpy fIf fNf (0 : Int32).toNatClampNeg (0 : Int32).toNatClampNeg (96 : Int32).toNatClampNeg)), (eA0 nza cNz 96 fNz), (eO6a n2 is isa ifa iza), (eA0 isa cIs 12 fIs), (eA0 ifa cIf 96 fIf), (eA0 iza cIz 96 fIz)] hP hD rfl
  refine lv_aload_n hx hb dX6_copy_49 rfl (lv_at hl 1 rfl) ?_
  refine va_get (D := (dC, dI)) (ci := 6) (v := .ref iza) (C := RX6) (T := TX6) (N := 4) hx hb htw inlX6 hown hK hP 4 rfl rfl 3 (by decide) (htw _ (ck_7 _ (List.mem_of_getElem? (i := 10) rfl))) (fun _ h9 => h9) rfl dX6_copy_50 ?_
  refine lv_iconst (v := 0) hx hb dX6_copy_53 (by decide) ?_
  refine lv_aload_n hx hb dX6_copy_54 rfl (lv_at hl 0 rfl) ?_
  refine va_get (D := (dC, dI)) (ci := 6) (v := .ref nza) (C := RX6) (T := TX6) (N := 4) hx hb htw inlX6 hown hK hP 0 rfl rfl 3 (by decide) (htw _ (ck_7 _ (List.mem_of_getElem? (i := 10) rfl))) (fun _ h9 => h9) rfl dX6_copy_55 ?_
  refine lv_iconst (v := 0) hx hb dX6_copy_58 (by decide) ?_
  refine lv_aload_n hx hb dX6_copy_59 rfl (lv_at hl 0 rfl) ?_
  refine va_get (D := (dC, dI)) (ci := 6) (v := .ref nza) (C := RX6) (T := TX6) (N := 4) hx hb htw inlX6 hown hK hP 0 rfl rfl 3 (by decide) (htw _ (ck_7 _ (List.mem_of_getElem? (i := 10) rfl))) (fun _ h9 => h9) rfl dX6_copy_60 ?_
  refine va_alen hx hb hK hP 3 2 rfl rfl (v := 96) rfl dX6_copy_63 ?_
  refine va_copyi (ty := .int) hx hb (by rw [hml]; exact hl.1.symm) hown (htw _ (ck_65 _ (List.mem_of_getElem? (i := 3) rfl))) (htw _ (ck_65 _ (List.mem_of_getElem? (i := 4) rfl))) (htw _ (ck_65 _ (List.mem_of_getElem? (i := 5) rfl))) (htw _ (ck_65 _ (List.mem_of_getElem? (i := 6) rfl))) hK hP hD hS 7 3 5 2 rfl rfl rfl rfl rfl (by decide) (by decide) (by decide) (by decide) (by decide) (fun _ _ => rfl) (Nat.le_of_ble_eq_true rfl) (Nat.le_of_ble_eq_true rfl) dX6_copy_64 (fun H locs hP hD hS => ?_)
  obtain ⟨hP, hD⟩ := zre [(eO6a no is nsa nfa nza), (eA0 nsa cNs 12 (va_cpy fIs fNs (0 : Int32).toNatClampNeg (0 : Int32).toNatClampNeg (12 : Int32).toNatClampNeg)), (eA0 nfa cNf 96 (va_cpy fIf fNf (0 : Int32).toNatClampNeg (0 : Int32).toNatClampNeg (96 : Int32).toNatClampNeg)), (eA0 nza cNz 96 (va_cpy fIz fNz (0 : Int32).toNatClampNeg (0 : Int32).toNatClampNeg (96 : Int32).toNatClampNeg)), (eO6a n2 is isa ifa iza), (eA0 isa cIs 12 fIs), (eA0 ifa cIf 96 fIf), (eA0 iza cIz 96 fIz)] hP hD rfl
  refine W.widen (k := 0) (n := 0) (by omega) (by omega) ?_
  have hP9 := hP
  have hD9 := hD
  have hK9 := hK.sub (tys' := []) [] rfl
  exact W.vret hx hb hr (fun t ht hW => ⟨⟨(is, (va_cpy fIs fNs (0 : Int32).toNatClampNeg (0 : Int32).toNatClampNeg (12 : Int32).toNatClampNeg), (va_cpy fIf fNf (0 : Int32).toNatClampNeg (0 : Int32).toNatClampNeg (96 : Int32).toNatClampNeg), (va_cpy fIz fNz (0 : Int32).toNatClampNeg (0 : Int32).toNatClampNeg (96 : Int32).toNatClampNeg)), rfl, (Eq.symm ((by rw [fn_copy]))), by rw [ht]; exact hP9, va_K.moved hW.alike hK9, hD9⟩, hS.F ht⟩) hS.2.2 dX6_copy_67

def fd_copy (fLn : Nat → Int32) (fLc : Nat → Int32) (iz : Int32) (fIn : Nat → Int32) (fIc : Nat → Int32) : (Int32) × (Nat → Int32) × (Nat → Int32) := (iz, (va_cpy fIn fLn (0 : Int32).toNatClampNeg (0 : Int32).toNatClampNeg (20 : Int32).toNatClampNeg), (va_cpy fIc fLc (0 : Int32).toNatClampNeg (0 : Int32).toNatClampNeg (20 : Int32).toNatClampNeg))
theorem dX2_copy_0 : decode cX2_copy 0 = .ok (.aload_n 1, 1) := zk_43 (by decide +kernel)
theorem dX2_copy_1 : decode cX2_copy 1 = .ok (.ifnonnull 4, 3) := zk_199 (by decide +kernel)
theorem dX2_copy_5 : decode cX2_copy 5 = .ok (.aload_n 0, 1) := zk_42 (by decide +kernel)
theorem dX2_copy_6 : decode cX2_copy 6 = .ok (.aload_n 1, 1) := zk_43 (by decide +kernel)
theorem dX2_copy_7 : decode cX2_copy 7 = .ok (.getfield 18, 3) := zk_180 (by decide +kernel)
theorem dX2_copy_10 : decode cX2_copy 10 = .ok (.putfield 18, 3) := zk_181 (by decide +kernel)
theorem dX2_copy_13 : decode cX2_copy 13 = .ok (.aload_n 1, 1) := zk_43 (by decide +kernel)
theorem dX2_copy_14 : decode cX2_copy 14 = .ok (.getfield 9, 3) := zk_180 (by decide +kernel)
theorem dX2_copy_17 : decode cX2_copy 17 = .ok (.iconst 0, 1) := zk_3 (by decide +kernel)
theorem dX2_copy_18 : decode cX2_copy 18 = .ok (.aload_n 0, 1) := zk_42 (by decide +kernel)
theorem dX2_copy_19 : decode cX2_copy 19 = .ok (.getfield 9, 3) := zk_180 (by decide +kernel)
theorem dX2_copy_22 : decode cX2_copy 22 = .ok (.iconst 0, 1) := zk_3 (by decide +kernel)
theorem dX2_copy_23 : decode cX2_copy 23 = .ok (.bipush 20, 2) := zk_16 (by decide +kernel)
theorem dX2_copy_25 : decode cX2_copy 25 = .ok (.invokestatic 28, 3) := zk_184 (by decide +kernel)
theorem dX2_copy_28 : decode cX2_copy 28 = .ok (.aload_n 1, 1) := zk_43 (by decide +kernel)
theorem dX2_copy_29 : decode cX2_copy 29 = .ok (.getfield 15, 3) := zk_180 (by decide +kernel)
theorem dX2_copy_32 : decode cX2_copy 32 = .ok (.iconst 0, 1) := zk_3 (by decide +kernel)
theorem dX2_copy_33 : decode cX2_copy 33 = .ok (.aload_n 0, 1) := zk_42 (by decide +kernel)
theorem dX2_copy_34 : decode cX2_copy 34 = .ok (.getfield 15, 3) := zk_180 (by decide +kernel)
theorem dX2_copy_37 : decode cX2_copy 37 = .ok (.iconst 0, 1) := zk_3 (by decide +kernel)
theorem dX2_copy_38 : decode cX2_copy 38 = .ok (.bipush 20, 2) := zk_16 (by decide +kernel)
theorem dX2_copy_40 : decode cX2_copy 40 = .ok (.invokestatic 28, 3) := zk_184 (by decide +kernel)
theorem dX2_copy_43 : decode cX2_copy 43 = .ok (.return_, 1) := zk_177 (by decide +kernel)
set_option maxHeartbeats 4000000 in
set_option maxRecDepth 100000 in
theorem gd_copy (l : Launch) (dC : Nat → ClassId) (dI : Nat → Nat → Nat) (le : Nat) (lz : Int32) (lna : Nat) (lca : Nat) (cLn : ClassId) (fLn : Nat → Int32) (cLc : ClassId) (fLc : Nat → Int32) (l2 : Nat) (iz : Int32) (ina : Nat) (ica : Nat) (cIn : ClassId) (fIn : Nat → Int32) (cIc : ClassId) (fIc : Nat → Int32) (sz : Nat) : Met l yX2_copy (Cond.code yX2_copy cX2_copy 2 none :: wsL_law) ({ frames := 1, cells := 0, slots := 0, locals := 18 }) (va_Pc [.ref le, .ref l2] (fun U => U.heap.size = sz ∧ va_P (dC, dI) vwCl [(eO2a le lz lna lca), (eA0 lna cLn 20 fLn), (eA0 lca cLc 20 fLc), (eO2a l2 iz ina ica), (eA0 ina cIn 20 fIn), (eA0 ica cIc 20 fIc)] U.heap ∧ va_K (dC, dI) vwCl [(cLn, .int), (cLc, .int), (cIn, .int), (cIc, .int)] U ∧ va_D (fun _ => True) [(eO2a le lz lna lca), (eA0 lna cLn 20 fLn), (eA0 lca cLc 20 fLc), (eO2a l2 iz ina ica), (eA0 ina cIn 20 fIn), (eA0 ica cIc 20 fIc)])) (va_Qv (fun (u : (Int32) × (Nat → Int32) × (Nat → Int32)) => u = fd_copy fLn fLc iz fIn fIc) (fun (u : (Int32) × (Nat → Int32) × (Nat → Int32)) t => va_P (dC, dI) vwCl [(eO2a le u.1 lna lca), (eA0 lna cLn 20 u.2.1), (eA0 lca cLc 20 u.2.2), (eO2a l2 iz ina ica), (eA0 ina cIn 20 fIn), (eA0 ica cIc 20 fIc)] t.heap ∧ va_K (dC, dI) vwCl [] t ∧ va_D (va_A [(eO2a le lz lna lca), (eA0 lna cLn 20 fLn), (eA0 lca cLc 20 fLc), (eO2a l2 iz ina ica), (eA0 ina cIn 20 fIn), (eA0 ica cIc 20 fIc)] sz) [(eO2a le u.1 lna lca), (eA0 lna cLn 20 u.2.1), (eA0 lca cLc 20 u.2.2), (eO2a l2 iz ina ica), (eA0 ina cIn 20 fIn), (eA0 ica cIc 20 fIc)]) (va_A [(eO2a le lz lna lca), (eA0 lna cLn 20 fLn), (eA0 lca cLc 20 fLc), (eO2a l2 iz ina ica), (eA0 ina cIn 20 fIn), (eA0 ica cIc 20 fIc)] sz)) 0 0 (va_A [(eO2a le lz lna lca), (eA0 lna cLn 20 fLn), (eA0 lca cLc 20 fLc), (eO2a l2 iz ina ica), (eA0 ina cIn 20 fIn), (eA0 ica cIc 20 fIc)] sz) := by
  refine Met.ofW (cc := cX2_copy) (maxL := 2) (ret := none) (by decide) rfl ?_
  intro p e s m args below meth c s₁ B hml hv
  obtain ⟨rfl, hsz, hP, hK, hD0⟩ := hv
  have hx := B.exec
  have hb := B.bytes
  have hr := B.returns
  have hts := atoms_spec (ws := Cond.code yX2_copy cX2_copy 2 none :: wsL_law) B.pre
  have htw : ∀ w ∈ wsL_law, w.before _ s = true := fun w h => hts w (List.mem_cons_of_mem _ h)
  have hown : s.vm.findClass RX2 = some m.cls := findClass_of_methodNamed B.named
  have hlocks := B.notSynchronized
  subst hsz
  have hD := hD0.self (sz := s.heap.size)
  generalize hAe : va_A [(eO2a le lz lna lca), (eA0 lna cLn 20 fLn), (eA0 lca cLc 20 fLc), (eO2a l2 iz ina ica), (eA0 ina cIn 20 fIn), (eA0 ica cIc 20 fIc)] s.heap.size = A at hD ⊢
  have hA : ∀ q : Nat, s.heap.size ≤ q → A q := fun q h => by rw [← hAe]; exact Or.inr h
  obtain ⟨H, rH⟩ : ∃ z : Heap, z = s.heap := ⟨_, rfl⟩
  have hS : va_S A s.heap H [] := by rw [rH]; exact va_S.rf
  have hP : va_P (dC, dI) vwCl [(eO2a le lz lna lca), (eA0 lna cLn 20 fLn), (eA0 lca cLc 20 fLc), (eO2a l2 iz ina ica), (eA0 ina cIn 20 fIn), (eA0 ica cIc 20 fIc)] H := by rw [rH]; exact hP
  rw [← rH]
  have hl := lv_entry ([.ref le, .ref l2]) (n := 2) (Nat.le_of_ble_eq_true rfl)
  rw [lg_entry_eq]
  generalize (lg_sl ([.ref le, .ref l2]) ++ List.replicate (2 - (lg_sl ([.ref le, .ref l2])).length) Slot.unset).toArray = ls at hl ⊢
  have hl : lv_has ls 2 [(0, .ref le), (1, .ref l2)] := hl
  refine lv_aload_n hx hb dX2_copy_0 rfl (lv_at hl 1 rfl) ?_
  refine lv_ifnonnull (tgt := 5) hx hb dX2_copy_1 (by decide) ?_
  refine lv_aload_n hx hb dX2_copy_5 rfl (lv_at hl 0 rfl) ?_
  refine lv_aload_n hx hb dX2_copy_6 rfl (lv_at hl 1 rfl) ?_
  refine va_get (D := (dC, dI)) (ci := 2) (v := .int iz) (C := RX2) (T := TX2) (N := 3) hx hb htw inlX2 hown hK hP 3 rfl rfl 0 (by decide) (htw _ (ck_63 _ (List.mem_of_getElem? (i := 0) rfl))) (fun _ h9 => h9) rfl dX2_copy_7 ?_
  refine va_put (D := (dC, dI)) (ci := 2) (v := .int iz) (ty := tyX2 0) (C := RX2) (T := TX2) (N := 3) hx hb htw inlX2 tyX2 tyX2_ok nmX2 hown hK hP hD hS 0 rfl rfl 0 (by decide) (htw _ (ck_63 _ (List.mem_of_getElem? (i := 0) rfl))) (fun _ h9 => h9) rfl (tyX2_ok 0 (by decide)) rfl rfl (Nat.le_of_ble_eq_true rfl) dX2_copy_10 (fun H locs hP hD hS => ?_)
  obtain ⟨hP, hD⟩ := zre [(eO2a le iz lna lca), (eA0 lna cLn 20 fLn), (eA0 lca cLc 20 fLc), (eO2a l2 iz ina ica), (eA0 ina cIn 20 fIn), (eA0 ica cIc 20 fIc)] hP hD rfl
  refine lv_aload_n hx hb dX2_copy_13 rfl (lv_at hl 1 rfl) ?_
  refine va_get (D := (dC, dI)) (ci := 2) (v := .ref ina) (C := RX2) (T := TX2) (N := 3) hx hb htw inlX2 hown hK hP 3 rfl rfl 1 (by decide) (htw _ (ck_8 _ (List.mem_of_getElem? (i := 22) rfl))) (fun _ h9 => h9) rfl dX2_copy_14 ?_
  refine lv_iconst (v := 0) hx hb dX2_copy_17 (by decide) ?_
  refine lv_aload_n hx hb dX2_copy_18 rfl (lv_at hl 0 rfl) ?_
  refine va_get (D := (dC, dI)) (ci := 2) (v := .ref lna) (C := RX2) (T := TX2) (N := 3) hx hb htw inlX2 hown hK hP 0 rfl rfl 1 (by decide) (htw _ (ck_8 _ (List.mem_of_getElem? (i := 22) rfl))) (fun _ h9 => h9) rfl dX2_copy_19 ?_
  refine lv_iconst (v := 0) hx hb dX2_copy_22 (by decide) ?_
  refine lv_bipush (v := 20) hx hb dX2_copy_23 (by decide) ?_
  refine va_copyi (ty := .int) hx hb (by rw [hml]; exact hl.1.symm) hown (htw _ (ck_65 _ (List.mem_of_getElem? (i := 11) rfl))) (htw _ (ck_65 _ (List.mem_of_getElem? (i := 4) rfl))) (htw _ (ck_65 _ (List.mem_of_getElem? (i := 5) rfl))) (htw _ (ck_65 _ (List.mem_of_getElem? (i := 6) rfl))) hK hP hD hS 4 1 2 0 rfl rfl rfl rfl rfl (by decide) (by decide) (by decide) (by decide) (by decide) (fun _ _ => rfl) (Nat.le_of_ble_eq_true rfl) (Nat.le_of_ble_eq_true rfl) dX2_copy_25 (fun H locs hP hD hS => ?_)
  obtain ⟨hP, hD⟩ := zre [(eO2a le iz lna lca), (eA0 lna cLn 20 (va_cpy fIn fLn (0 : Int32).toNatClampNeg (0 : Int32).toNatClampNeg (20 : Int32).toNatClampNeg)), (eA0 lca cLc 20 fLc), (eO2a l2 iz ina ica), (eA0 ina cIn 20 fIn), (eA0 ica cIc 20 fIc)] hP hD rfl
  refine lv_aload_n hx hb dX2_copy_28 rfl (lv_at hl 1 rfl) ?_
  refine va_get (D := (dC, dI)) (ci := 2) (v := .ref ica) (C := RX2) (T := TX2) (N := 3) hx hb htw inlX2 hown hK hP 3 rfl rfl 2 (by decide) (htw _ (ck_8 _ (List.mem_of_getElem? (i := 23) rfl))) (fun _ h9 => h9) rfl dX2_copy_29 ?_
  refine lv_iconst (v := 0) hx hb dX2_copy_32 (by decide) ?_
  refine lv_aload_n hx hb dX2_copy_33 rfl (lv_at hl 0 rfl) ?_
  refine va_get (D := (dC, dI)) (ci := 2) (v := .ref lca) (C := RX2) (T := TX2) (N := 3) hx hb htw inlX2 hown hK hP 0 rfl rfl 2 (by decide) (htw _ (ck_8 _ (List.mem_of_getElem? (i := 23) rfl))) (fun _ h9 => h9) rfl dX2_copy_34 ?_
  refine lv_iconst (v := 0) hx hb dX2_copy_37 (by decide) ?_
  refine lv_bipush (v := 20) hx hb dX2_copy_38 (by decide) ?_
  refine va_copyi (ty := .int) hx hb (by rw [hml]; exact hl.1.symm) hown (htw _ (ck_65 _ (List.mem_of_getElem? (i := 11) rfl))) (htw _ (ck_65 _ (List.mem_of_getElem? (i := 4) rfl))) (htw _ (ck_65 _ (List.mem_of_getElem? (i := 5) rfl))) (htw _ (ck_65 _ (List.mem_of_getElem? (i := 6) rfl))) hK hP hD hS 5 2 3 1 rfl rfl rfl rfl rfl (by decide) (by decide) (by decide) (by decide) (by decide) (fun _ _ => rfl) (Nat.le_of_ble_eq_true rfl) (Nat.le_of_ble_eq_true rfl) dX2_copy_40 (fun H locs hP hD hS => ?_)
  obtain ⟨hP, hD⟩ := zre [(eO2a le iz lna lca), (eA0 lna cLn 20 (va_cpy fIn fLn (0 : Int32).toNatClampNeg (0 : Int32).toNatClampNeg (20 : Int32).toNatClampNeg)), (eA0 lca cLc 20 (va_cpy fIc fLc (0 : Int32).toNatClampNeg (0 : Int32).toNatClampNeg (20 : Int32).toNatClampNeg)), (eO2a l2 iz ina ica), (eA0 ina cIn 20 fIn), (eA0 ica cIc 20 fIc)] hP hD rfl
  refine W.widen (k := 0) (n := 0) (by omega) (by omega) ?_
  have hP9 := hP
  have hD9 := hD
  have hK9 := hK.sub (tys' := []) [] rfl
  exact W.vret hx hb hr (fun t ht hW => ⟨⟨(iz, (va_cpy fIn fLn (0 : Int32).toNatClampNeg (0 : Int32).toNatClampNeg (20 : Int32).toNatClampNeg), (va_cpy fIc fLc (0 : Int32).toNatClampNeg (0 : Int32).toNatClampNeg (20 : Int32).toNatClampNeg)), rfl, (Eq.symm ((by rw [fd_copy]))), by rw [ht]; exact hP9, va_K.moved hW.alike hK9, hD9⟩, hS.F ht⟩) hS.2.2 dX2_copy_43

theorem xi_dn {i : Int32} (h : ¬ i < 0) : (i + (-1)).toInt = i.toInt - 1 := by
  have h1 : ¬ i + (-1) < -1 := by lia
  have h2 := xi_s (i := i + (-1)) (b := 2147483647) (by lia)
  rw [show i + (-1) + 1 = i by lia] at h2
  omega
theorem xi_zn {i : Int32} (h : i.toInt < ((0 : Nat) : Int)) : i < 0 := by
  rw [Int32.lt_iff_toInt_lt]
  exact h

def fd_ahead_d (fLn : Nat → Int32) (fLc : Nat → Int32) (a0 : Int32) : Nat → (Int32) → Int32
  | 0, L3d => (-1 : Int32)
  | n + 1, L3d => (if L3d < 0 then (-1 : Int32) else (if fLn L3d.toNatClampNeg = a0 then fLc L3d.toNatClampNeg else fd_ahead_d fLn fLc a0 n (L3d + (-1))))
def fd_ahead (fLn : Nat → Int32) (fLc : Nat → Int32) (a0 : Int32) (a1 : Int32) : Int32 := fd_ahead_d fLn fLc a0 20 ((if 20 < a1 then 20 else a1) - 1)
theorem gd_ahead_s0 {y0 : Int32} (h0 : ¬ (y0 < 0)) (h1 : y0 < 20) : ¬ (y0 < 0) ∧ ¬ (20 ≤ y0) := by lia
theorem gd_ahead_s1 {y0 : Int32} (h0 : ¬ (y0 < 0)) (h1 : y0 < 20) : (y0 + (-1)) < 20 := by lia
theorem gd_ahead_s2 {y0 : Int32} (h0 : ¬ (y0 < 0)) (h1 : y0 < 20) : ¬ (y0 < 0) ∧ ¬ (20 ≤ y0) := by lia
theorem gd_ahead_s3 {y0 : Int32} (h0 : ¬ (y0 < 0)) : ((if 20 < y0 then 20 else y0) - 1) < 20 := by grind
theorem gd_ahead_s4 {y0 : Int32} (h0 : ¬ (y0 < 0)) : ((if 20 < y0 then 20 else y0) - 1) < 20 := by grind
theorem dX2_latestAhead_0 : decode cX2_latestAhead 0 = .ok (.iload_n 2, 1) := zk_28 (by decide +kernel)
theorem dX2_latestAhead_1 : decode cX2_latestAhead 1 = .ok (.bipush 20, 2) := zk_16 (by decide +kernel)
theorem dX2_latestAhead_3 : decode cX2_latestAhead 3 = .ok (.invokestatic 22, 3) := zk_184 (by decide +kernel)
theorem dX2_latestAhead_6 : decode cX2_latestAhead 6 = .ok (.iconst 1, 1) := zk_4 (by decide +kernel)
theorem dX2_latestAhead_7 : decode cX2_latestAhead 7 = .ok (.isub, 1) := zk_100 (by decide +kernel)
theorem dX2_latestAhead_8 : decode cX2_latestAhead 8 = .ok (.istore_n 3, 1) := zk_62 (by decide +kernel)
theorem dX2_latestAhead_9 : decode cX2_latestAhead 9 = .ok (.iload_n 3, 1) := zk_29 (by decide +kernel)
theorem dX2_latestAhead_10 : decode cX2_latestAhead 10 = .ok (.ifCond .lt 26, 3) := zk_155 (by decide +kernel)
theorem dX2_latestAhead_36 : decode cX2_latestAhead 36 = .ok (.iconst (-1), 1) := zk_2 (by decide +kernel)
theorem dX2_latestAhead_37 : decode cX2_latestAhead 37 = .ok (.ireturn, 1) := zk_172 (by decide +kernel)
theorem dX2_latestAhead_13 : decode cX2_latestAhead 13 = .ok (.aload_n 0, 1) := zk_42 (by decide +kernel)
theorem dX2_latestAhead_14 : decode cX2_latestAhead 14 = .ok (.getfield 9, 3) := zk_180 (by decide +kernel)
theorem dX2_latestAhead_17 : decode cX2_latestAhead 17 = .ok (.iload_n 3, 1) := zk_29 (by decide +kernel)
theorem dX2_latestAhead_18 : decode cX2_latestAhead 18 = .ok (.iaload, 1) := zk_46 (by decide +kernel)
theorem dX2_latestAhead_19 : decode cX2_latestAhead 19 = .ok (.iload_n 1, 1) := zk_27 (by decide +kernel)
theorem dX2_latestAhead_20 : decode cX2_latestAhead 20 = .ok (.if_icmp .ne 10, 3) := zk_160 (by decide +kernel)
theorem dX2_latestAhead_30 : decode cX2_latestAhead 30 = .ok (.iinc 3 (-1), 3) := zk_132 (by decide +kernel)
theorem dX2_latestAhead_33 : decode cX2_latestAhead 33 = .ok (.goto (-24), 3) := zk_167 (by decide +kernel)
theorem dX2_latestAhead_23 : decode cX2_latestAhead 23 = .ok (.aload_n 0, 1) := zk_42 (by decide +kernel)
theorem dX2_latestAhead_24 : decode cX2_latestAhead 24 = .ok (.getfield 15, 3) := zk_180 (by decide +kernel)
theorem dX2_latestAhead_27 : decode cX2_latestAhead 27 = .ok (.iload_n 3, 1) := zk_29 (by decide +kernel)
theorem dX2_latestAhead_28 : decode cX2_latestAhead 28 = .ok (.iaload, 1) := zk_46 (by decide +kernel)
theorem dX2_latestAhead_29 : decode cX2_latestAhead 29 = .ok (.ireturn, 1) := zk_172 (by decide +kernel)
set_option maxHeartbeats 4000000 in
set_option maxRecDepth 100000 in
theorem gd_ahead (l : Launch) (dC : Nat → ClassId) (dI : Nat → Nat → Nat) (le : Nat) (lz : Int32) (lna : Nat) (lca : Nat) (cLn : ClassId) (fLn : Nat → Int32) (cLc : ClassId) (fLc : Nat → Int32) (a0 : Int32) (a1 : Int32) (hmn : ¬ a1 < 0) : Met l yX2_latestAhead (Cond.code yX2_latestAhead cX2_latestAhead 4 (some .int) :: wsL_law) ({ frames := 1, cells := 0, slots := 0, locals := 13 }) (va_Pc [.ref le, .int a0, .int a1] (fun U => va_P (dC, dI) vwCl [(eO2a le lz lna lca), (eA0 lna cLn 20 fLn), (eA0 lca cLc 20 fLc)] U.heap ∧ va_K (dC, dI) vwCl [(cLn, .int), (cLc, .int)] U)) (vp_Si (fun r => r = fd_ahead fLn fLc a0 a1)) 0 0 (fun _ => False) := by
  refine Met.ofW (cc := cX2_latestAhead) (maxL := 4) (ret := (some .int)) (by decide) rfl ?_
  intro p e s m args below meth c s₁ B hml hv
  obtain ⟨rfl, hP, hK⟩ := hv
  have hx := B.exec
  have hb := B.bytes
  have hr := B.returns
  have hts := atoms_spec (ws := Cond.code yX2_latestAhead cX2_latestAhead 4 (some .int) :: wsL_law) B.pre
  have htw : ∀ w ∈ wsL_law, w.before _ s = true := fun w h => hts w (List.mem_cons_of_mem _ h)
  have hown : s.vm.findClass RX2 = some m.cls := findClass_of_methodNamed B.named
  have hlocks := B.notSynchronized
  have hl := lv_entry ([.ref le, .int a0, .int a1]) (n := 4) (Nat.le_of_ble_eq_true rfl)
  rw [lg_entry_eq]
  generalize (lg_sl ([.ref le, .int a0, .int a1]) ++ List.replicate (4 - (lg_sl ([.ref le, .int a0, .int a1])).length) Slot.unset).toArray = ls at hl ⊢
  have hl : lv_has ls 4 [(0, .ref le), (1, .int a0), (2, .int a1)] := hl
  refine lv_iload_n hx hb dX2_latestAhead_0 rfl (lv_at hl 2 rfl) ?_
  refine lv_bipush (v := 20) hx hb dX2_latestAhead_1 (by decide) ?_
  refine va_mmin hx hb (by rw [hml]; exact hl.1.symm) hown (htw _ (ck_64 _ (List.mem_of_getElem? (i := 0) rfl))) (htw _ (ck_14 _ (List.mem_of_getElem? (i := 7) rfl))) (htw _ (ck_14 _ (List.mem_of_getElem? (i := 8) rfl))) (htw _ (ck_14 _ (List.mem_of_getElem? (i := 9) rfl))) (Nat.le_of_ble_eq_true rfl) (Nat.le_of_ble_eq_true rfl) (Nat.le_of_ble_eq_true rfl) (Nat.le_of_ble_eq_true rfl) dX2_latestAhead_3 ?_
  refine lv_iconst (v := 1) hx hb dX2_latestAhead_6 (by decide) ?_
  refine lv_isub hx hb dX2_latestAhead_7 ?_
  refine lv_istore_n (lv' := [(3, .int ((if 20 < a1 then 20 else a1) - 1)), (0, .ref le), (1, .int a0), (2, .int a1)]) hx hb dX2_latestAhead_8 rfl hl (by decide) rfl (fun ls hl => ?_)
  have hloop_1 : ∀ (n : Nat) (L3d : Int32) (h2_d : L3d < 20) (hf_d : L3d.toInt < (n : Int)) (hI_d : fd_ahead fLn fLc a0 a1 = fd_ahead_d fLn fLc a0 n L3d) (ls : Array Slot) (hl : lv_has ls 4 [(3, .int L3d), (0, .ref le), (1, .int a0), (2, .int a1)]), W p l e (headSpec (Cond.code yX2_latestAhead cX2_latestAhead 4 (some .int) :: wsL_law) ({ frames := 1, cells := 0, slots := 0, locals := 13 })).room s m ([.ref le, .int a0, .int a1] : List Value).toArray below meth c s.heap [] 0 0 (MQ below (vp_Si (fun r => r = fd_ahead fLn fLc a0 a1)) ([.ref le, .int a0, .int a1] : List Value).toArray s 0 0 (fun _ => False)) (F0 m 9 ls []) := by
    intro n
    induction n with
    | zero =>
      intro L3d h2_d hf_d hI_d ls hl
      refine lv_iload_n hx hb dX2_latestAhead_9 rfl (lv_at hl 0 rfl) ?_
      refine lv_if_lt (tgt := 36) hx hb dX2_latestAhead_10 (by decide) (fun c_2 => ?_) (fun c_2 => absurd c_2 (fun h => h (xi_zn hf_d)))
      refine lv_iconst (v := (-1)) hx hb dX2_latestAhead_36 (by decide) ?_
      exact W.iret (v := (-1)) hx hb hr (fun t ht hW => ⟨(-1), rfl, (Eq.symm (hI_d.trans (by rw [fd_ahead_d]; try rfl))), ht⟩) (fun _ h => by cases h) dX2_latestAhead_37
    | succ n ih =>
      intro L3d h2_d hf_d hI_d ls hl
      refine lv_iload_n hx hb dX2_latestAhead_9 rfl (lv_at hl 0 rfl) ?_
      refine lv_if_lt (tgt := 36) hx hb dX2_latestAhead_10 (by decide) (fun c_3 => ?_) (fun c_3 => ?_)
      · refine lv_iconst (v := (-1)) hx hb dX2_latestAhead_36 (by decide) ?_
        exact W.iret (v := (-1)) hx hb hr (fun t ht hW => ⟨(-1), rfl, (Eq.symm (hI_d.trans (by rw [fd_ahead_d]; (try rw [if_pos c_3]); try rfl))), ht⟩) (fun _ h => by cases h) dX2_latestAhead_37
      · refine lv_aload_n hx hb dX2_latestAhead_13 rfl (lv_at hl 1 rfl) ?_
        refine va_get (D := (dC, dI)) (ci := 2) (v := .ref lna) (C := RX2) (T := TX2) (N := 3) hx hb htw inlX2 hown hK hP 0 rfl rfl 1 (by decide) (htw _ (ck_8 _ (List.mem_of_getElem? (i := 22) rfl))) (fun _ h9 => h9) rfl dX2_latestAhead_14 ?_
        refine lv_iload_n hx hb dX2_latestAhead_17 rfl (lv_at hl 0 rfl) ?_
        refine va_iald hx hb hK hP 1 0 rfl rfl (xg_inr (N := 20) rfl (gd_ahead_s0 (y0 := L3d) c_3 h2_d).1 (gd_ahead_s0 (y0 := L3d) c_3 h2_d).2) dX2_latestAhead_18 ?_
        refine lv_iload_n hx hb dX2_latestAhead_19 rfl (lv_at hl 2 rfl) ?_
        refine lv_icmp_ne (tgt := 30) hx hb dX2_latestAhead_20 (by decide) (fun c_4 => ?_) (fun c_4 => ?_)
        · refine lv_iinc (v := (L3d + (-1))) (lv' := [(3, .int (L3d + (-1))), (0, .ref le), (1, .int a0), (2, .int a1)]) hx hb dX2_latestAhead_30 hl (k := 0) rfl (rfl) (by decide) rfl (fun ls hl => ?_)
          refine lv_goto (tgt := 9) hx hb dX2_latestAhead_33 (by decide) ?_
          exact ih (L3d + (-1)) (gd_ahead_s1 (y0 := L3d) c_3 h2_d) (by rw [xi_dn c_3]; omega) (hI_d.trans (by rw [fd_ahead_d]; (try rw [if_neg c_3]); (try rw [if_neg c_4]); try rfl)) ls (lv_sub hl [0, 1, 2, 3] rfl)
        · refine lv_aload_n hx hb dX2_latestAhead_23 rfl (lv_at hl 1 rfl) ?_
          refine va_get (D := (dC, dI)) (ci := 2) (v := .ref lca) (C := RX2) (T := TX2) (N := 3) hx hb htw inlX2 hown hK hP 0 rfl rfl 2 (by decide) (htw _ (ck_8 _ (List.mem_of_getElem? (i := 23) rfl))) (fun _ h9 => h9) rfl dX2_latestAhead_24 ?_
          refine lv_iload_n hx hb dX2_latestAhead_27 rfl (lv_at hl 0 rfl) ?_
          refine va_iald hx hb hK hP 2 1 rfl rfl (xg_inr (N := 20) rfl (gd_ahead_s2 (y0 := L3d) c_3 h2_d).1 (gd_ahead_s2 (y0 := L3d) c_3 h2_d).2) dX2_latestAhead_28 ?_
          exact W.iret (v := fLc L3d.toNatClampNeg) hx hb hr (fun t ht hW => ⟨fLc L3d.toNatClampNeg, rfl, (Eq.symm (hI_d.trans (by rw [fd_ahead_d]; (try rw [if_neg c_3]); (try rw [if_pos c_4]); try rfl))), ht⟩) (fun _ h => by cases h) dX2_latestAhead_29
  exact hloop_1 20 ((if 20 < a1 then 20 else a1) - 1) (gd_ahead_s3 (y0 := a1) hmn) (by have := Int32.lt_iff_toInt_lt.mp (gd_ahead_s4 (y0 := a1) hmn); have e : (20 : Int32).toInt = 20 := rfl; omega) ((by rw [fd_ahead])) ls (lv_sub hl [0, 1, 2, 3] rfl)
