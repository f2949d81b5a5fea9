theorem dX12_plain_0 : decode cX12_plain 0 = .ok (.aload_n 0, 1) := by decide +kernel
theorem dX12_plain_1 : decode cX12_plain 1 = .ok (.iconst 0, 1) := by decide +kernel
theorem dX12_plain_2 : decode cX12_plain 2 = .ok (.putfield 186, 3) := by decide +kernel
theorem dX12_plain_5 : decode cX12_plain 5 = .ok (.aload_n 0, 1) := by decide +kernel
theorem dX12_plain_6 : decode cX12_plain 6 = .ok (.iconst 0, 1) := by decide +kernel
theorem dX12_plain_7 : decode cX12_plain 7 = .ok (.putfield 189, 3) := by decide +kernel
theorem dX12_plain_10 : decode cX12_plain 10 = .ok (.aload_n 0, 1) := by decide +kernel
theorem dX12_plain_11 : decode cX12_plain 11 = .ok (.iconst 0, 1) := by decide +kernel
theorem dX12_plain_12 : decode cX12_plain 12 = .ok (.putfield 192, 3) := by decide +kernel
theorem dX12_plain_15 : decode cX12_plain 15 = .ok (.aload_n 0, 1) := by decide +kernel
theorem dX12_plain_16 : decode cX12_plain 16 = .ok (.iconst 0, 1) := by decide +kernel
theorem dX12_plain_17 : decode cX12_plain 17 = .ok (.putfield 195, 3) := by decide +kernel
theorem dX12_plain_20 : decode cX12_plain 20 = .ok (.aload_n 0, 1) := by decide +kernel
theorem dX12_plain_21 : decode cX12_plain 21 = .ok (.iconst 0, 1) := by decide +kernel
theorem dX12_plain_22 : decode cX12_plain 22 = .ok (.putfield 198, 3) := by decide +kernel
theorem dX12_plain_25 : decode cX12_plain 25 = .ok (.aload_n 0, 1) := by decide +kernel
theorem dX12_plain_26 : decode cX12_plain 26 = .ok (.iconst 0, 1) := by decide +kernel
theorem dX12_plain_27 : decode cX12_plain 27 = .ok (.putfield 201, 3) := by decide +kernel
theorem dX12_plain_30 : decode cX12_plain 30 = .ok (.aload_n 0, 1) := by decide +kernel
theorem dX12_plain_31 : decode cX12_plain 31 = .ok (.iconst 0, 1) := by decide +kernel
theorem dX12_plain_32 : decode cX12_plain 32 = .ok (.putfield 204, 3) := by decide +kernel
theorem dX12_plain_35 : decode cX12_plain 35 = .ok (.aload_n 0, 1) := by decide +kernel
theorem dX12_plain_36 : decode cX12_plain 36 = .ok (.iconst 0, 1) := by decide +kernel
theorem dX12_plain_37 : decode cX12_plain 37 = .ok (.putfield 207, 3) := by decide +kernel
theorem dX12_plain_40 : decode cX12_plain 40 = .ok (.aload_n 0, 1) := by decide +kernel
theorem dX12_plain_41 : decode cX12_plain 41 = .ok (.iconst 0, 1) := by decide +kernel
theorem dX12_plain_42 : decode cX12_plain 42 = .ok (.putfield 211, 3) := by decide +kernel
theorem dX12_plain_45 : decode cX12_plain 45 = .ok (.aload_n 0, 1) := by decide +kernel
theorem dX12_plain_46 : decode cX12_plain 46 = .ok (.iconst 0, 1) := by decide +kernel
theorem dX12_plain_47 : decode cX12_plain 47 = .ok (.putfield 214, 3) := by decide +kernel
theorem dX12_plain_50 : decode cX12_plain 50 = .ok (.aload_n 0, 1) := by decide +kernel
theorem dX12_plain_51 : decode cX12_plain 51 = .ok (.getfield 20, 3) := by decide +kernel
theorem dX12_plain_54 : decode cX12_plain 54 = .ok (.bipush 7, 2) := by decide +kernel
theorem dX12_plain_56 : decode cX12_plain 56 = .ok (.bipush 7, 2) := by decide +kernel
theorem dX12_plain_58 : decode cX12_plain 58 = .ok (.iastore, 1) := by decide +kernel
theorem dX12_plain_59 : decode cX12_plain 59 = .ok (.aload_n 0, 1) := by decide +kernel
theorem dX12_plain_60 : decode cX12_plain 60 = .ok (.getfield 20, 3) := by decide +kernel
theorem dX12_plain_63 : decode cX12_plain 63 = .ok (.bipush 8, 2) := by decide +kernel
theorem dX12_plain_65 : decode cX12_plain 65 = .ok (.iconst 0, 1) := by decide +kernel
theorem dX12_plain_66 : decode cX12_plain 66 = .ok (.iastore, 1) := by decide +kernel
theorem dX12_plain_67 : decode cX12_plain 67 = .ok (.aload_n 0, 1) := by decide +kernel
theorem dX12_plain_68 : decode cX12_plain 68 = .ok (.getfield 20, 3) := by decide +kernel
theorem dX12_plain_71 : decode cX12_plain 71 = .ok (.bipush 9, 2) := by decide +kernel
theorem dX12_plain_73 : decode cX12_plain 73 = .ok (.bipush 59, 2) := by decide +kernel
theorem dX12_plain_75 : decode cX12_plain 75 = .ok (.iastore, 1) := by decide +kernel
theorem dX12_plain_76 : decode cX12_plain 76 = .ok (.aload_n 0, 1) := by decide +kernel
theorem dX12_plain_77 : decode cX12_plain 77 = .ok (.getfield 20, 3) := by decide +kernel
theorem dX12_plain_80 : decode cX12_plain 80 = .ok (.bipush 10, 2) := by decide +kernel
theorem dX12_plain_82 : decode cX12_plain 82 = .ok (.iconst 2, 1) := by decide +kernel
theorem dX12_plain_83 : decode cX12_plain 83 = .ok (.iastore, 1) := by decide +kernel
theorem dX12_plain_84 : decode cX12_plain 84 = .ok (.aload_n 0, 1) := by decide +kernel
theorem dX12_plain_85 : decode cX12_plain 85 = .ok (.getfield 20, 3) := by decide +kernel
theorem dX12_plain_88 : decode cX12_plain 88 = .ok (.bipush 11, 2) := by decide +kernel
theorem dX12_plain_90 : decode cX12_plain 90 = .ok (.iconst 0, 1) := by decide +kernel
theorem dX12_plain_91 : decode cX12_plain 91 = .ok (.iastore, 1) := by decide +kernel
theorem dX12_plain_92 : decode cX12_plain 92 = .ok (.aload_n 0, 1) := by decide +kernel
theorem dX12_plain_93 : decode cX12_plain 93 = .ok (.getfield 20, 3) := by decide +kernel
theorem dX12_plain_96 : decode cX12_plain 96 = .ok (.bipush 12, 2) := by decide +kernel
theorem dX12_plain_98 : decode cX12_plain 98 = .ok (.sipush 1461, 3) := by decide +kernel
theorem dX12_plain_101 : decode cX12_plain 101 = .ok (.iastore, 1) := by decide +kernel
theorem dX12_plain_102 : decode cX12_plain 102 = .ok (.aload_n 0, 1) := by decide +kernel
theorem dX12_plain_103 : decode cX12_plain 103 = .ok (.getfield 20, 3) := by decide +kernel
theorem dX12_plain_106 : decode cX12_plain 106 = .ok (.bipush 13, 2) := by decide +kernel
theorem dX12_plain_108 : decode cX12_plain 108 = .ok (.iconst 4, 1) := by decide +kernel
theorem dX12_plain_109 : decode cX12_plain 109 = .ok (.iastore, 1) := by decide +kernel
theorem dX12_plain_110 : decode cX12_plain 110 = .ok (.return_, 1) := by decide +kernel
set_option maxHeartbeats 4000000 in
set_option maxRecDepth 100000 in
theorem mm_plain (l : Launch) (dC : Nat → ClassId) (dI : Nat → Nat → Nat) (mq : Nat) (fs : List Value) (msk : Nat) (cY : ClassId) (fY : Nat → Int32) (sz : Nat) (hlen : fs.length = 76) (hf24 : fs[24]? = some (.ref msk)) : Met l yX12_plain (Cond.code yX12_plain cX12_plain 1 none :: wsL_law) ({ frames := 0, cells := 0, slots := 0, locals := 0 }) (va_Pc [.ref mq] (fun U => U.heap.size = sz ∧ va_P (dC, dI) vwCl [(mq, .inr (12, fs)), (msk, .inl (cY, 14, .inl fY))] U.heap ∧ va_K (dC, dI) vwCl [(cY, .int)] U ∧ va_D (fun _ => True) [(mq, .inr (12, fs)), (msk, .inl (cY, 14, .inl fY))])) (va_Qv (fun (u : (List Value) × (Nat → Int32)) => u.1 = ((((((((((fs.set 18 (.int 0)).set 19 (.int 0)).set 20 (.int 0)).set 21 (.int 0)).set 22 (.int 0)).set 23 (.int 0)).set 50 (.int 0)).set 25 (.int 0)).set 26 (.int 0)).set 27 (.int 0)) ∧ u.2 7 = 7 ∧ u.2 8 = 0 ∧ u.2 9 = 59 ∧ u.2 10 = 2 ∧ u.2 11 = 0 ∧ u.2 12 = 1461 ∧ u.2 13 = 4) (fun (u : (List Value) × (Nat → Int32)) t => va_P (dC, dI) vwCl [(mq, .inr (12, u.1)), (msk, .inl (cY, 14, .inl u.2))] t.heap ∧ va_K (dC, dI) vwCl [] t ∧ va_D (va_A [(mq, .inr (12, fs)), (msk, .inl (cY, 14, .inl fY))] sz) [(mq, .inr (12, u.1)), (msk, .inl (cY, 14, .inl u.2))]) (va_A [(mq, .inr (12, fs)), (msk, .inl (cY, 14, .inl fY))] sz)) 0 0 (va_A [(mq, .inr (12, fs)), (msk, .inl (cY, 14, .inl fY))] sz) := by
  refine Met.ofW (cc := cX12_plain) (maxL := 1) (ret := none) (by decide) rfl ?_
  intro p e s m args below meth c s₁ B hml hv
  obtain ⟨rfl, hsz, hP, hK, hD0⟩ := hv
  have hx := B.exec
  have hb := B.bytes
  have hr := B.returns
  have hts := atoms_spec (ws := Cond.code yX12_plain cX12_plain 1 none :: wsL_law) B.pre
  have htw : ∀ w ∈ wsL_law, w.before _ s = true := fun w h => hts w (List.mem_cons_of_mem _ h)
  have hown : s.vm.findClass RX12 = some m.cls := findClass_of_methodNamed B.named
  have hlocks := B.notSynchronized
  subst hsz
  have hD := hD0.self (sz := s.heap.size)
  generalize hAe : va_A [(mq, .inr (12, fs)), (msk, .inl (cY, 14, .inl fY))] s.heap.size = A at hD ⊢
  have hA : ∀ q : Nat, s.heap.size ≤ q → A q := fun q h => by rw [← hAe]; exact Or.inr h
  obtain ⟨H, rH⟩ : ∃ z : Heap, z = s.heap := ⟨_, rfl⟩
  have hS : va_S A s.heap H [] := by rw [rH]; exact va_S.rf
  have hP : va_P (dC, dI) vwCl [(mq, .inr (12, fs)), (msk, .inl (cY, 14, .inl fY))] H := by rw [rH]; exact hP
  rw [← rH]
  have hl := lv_entry ([.ref mq]) (n := 1) (Nat.le_of_ble_eq_true rfl)
  rw [lg_entry_eq]
  generalize (lg_sl ([.ref mq]) ++ List.replicate (1 - (lg_sl ([.ref mq])).length) Slot.unset).toArray = ls at hl ⊢
  have hl : lv_has ls 1 [(0, .ref mq)] := hl
  refine lv_aload_n hx hb dX12_plain_0 rfl (lv_at hl 0 rfl) ?_
  refine lv_iconst (v := 0) hx hb dX12_plain_1 (by decide) ?_
  refine va_put (D := (dC, dI)) (ci := 12) (v := .int 0) (ty := tyX12 18) (C := RX12) (T := TX12) (N := 76) hx hb htw inlX12 tyX12 tyX12_ok nmX12 hown hK hP hD hS 0 rfl rfl 18 (by decide) (htw _ (ck_10 _ (List.mem_of_getElem? (i := 19) rfl))) (fun _ h9 => h9) rfl (by decide +kernel) rfl rfl (by rw [hlen]; decide) dX12_plain_2 (fun H locs hP hD hS => ?_)
  obtain ⟨fs_1, efs_1⟩ : ∃ g : List Value, g = (fs).set 18 (.int 0) := ⟨_, rfl⟩
  have hlen_2 : fs_1.length = 76 := by rw [efs_1, List.length_set]; exact hlen
  have hf_3 : fs_1[24]? = some (.ref msk) := by rw [efs_1, List.getElem?_set_ne (by decide)]; exact hf24
  have hf_4 : fs_1[18]? = some (.int 0) := by rw [efs_1]; exact List.getElem?_set_self (by rw [hlen]; decide)
  rw [← efs_1] at hP hD
  have hP : va_P (dC, dI) vwCl [(mq, .inr (12, fs_1)), (msk, .inl (cY, 14, .inl fY))] H := hP
  have hD : va_D A [(mq, .inr (12, fs_1)), (msk, .inl (cY, 14, .inl fY))] := hD
  refine lv_aload_n hx hb dX12_plain_5 rfl (lv_at hl 0 rfl) ?_
  refine lv_iconst (v := 0) hx hb dX12_plain_6 (by decide) ?_
  refine va_put (D := (dC, dI)) (ci := 12) (v := .int 0) (ty := tyX12 19) (C := RX12) (T := TX12) (N := 76) hx hb htw inlX12 tyX12 tyX12_ok nmX12 hown hK hP hD hS 0 rfl rfl 19 (by decide) (htw _ (ck_10 _ (List.mem_of_getElem? (i := 20) rfl))) (fun _ h9 => h9) rfl (by decide +kernel) rfl rfl (by rw [hlen_2]; decide) dX12_plain_7 (fun H locs hP hD hS => ?_)
  obtain ⟨fs_5, efs_5⟩ : ∃ g : List Value, g = (fs_1).set 19 (.int 0) := ⟨_, rfl⟩
  have hlen_6 : fs_5.length = 76 := by rw [efs_5, List.length_set]; exact hlen_2
  have hf_7 : fs_5[24]? = some (.ref msk) := by rw [efs_5, List.getElem?_set_ne (by decide)]; exact hf_3
  have hf_8 : fs_5[18]? = some (.int 0) := by rw [efs_5, List.getElem?_set_ne (by decide)]; exact hf_4
  have hf_9 : fs_5[19]? = some (.int 0) := by rw [efs_5]; exact List.getElem?_set_self (by rw [hlen_2]; decide)
  rw [← efs_5] at hP hD
  have hP : va_P (dC, dI) vwCl [(mq, .inr (12, fs_5)), (msk, .inl (cY, 14, .inl fY))] H := hP
  have hD : va_D A [(mq, .inr (12, fs_5)), (msk, .inl (cY, 14, .inl fY))] := hD
  refine lv_aload_n hx hb dX12_plain_10 rfl (lv_at hl 0 rfl) ?_
  refine lv_iconst (v := 0) hx hb dX12_plain_11 (by decide) ?_
  refine va_put (D := (dC, dI)) (ci := 12) (v := .int 0) (ty := tyX12 20) (C := RX12) (T := TX12) (N := 76) hx hb htw inlX12 tyX12 tyX12_ok nmX12 hown hK hP hD hS 0 rfl rfl 20 (by decide) (htw _ (ck_10 _ (List.mem_of_getElem? (i := 21) rfl))) (fun _ h9 => h9) rfl (by decide +kernel) rfl rfl (by rw [hlen_6]; decide) dX12_plain_12 (fun H locs hP hD hS => ?_)
  obtain ⟨fs_10, efs_10⟩ : ∃ g : List Value, g = (fs_5).set 20 (.int 0) := ⟨_, rfl⟩
  have hlen_11 : fs_10.length = 76 := by rw [efs_10, List.length_set]; exact hlen_6
  have hf_12 : fs_10[24]? = some (.ref msk) := by rw [efs_10, List.getElem?_set_ne (by decide)]; exact hf_7
  have hf_13 : fs_10[18]? = some (.int 0) := by rw [efs_10, List.getElem?_set_ne (by decide)]; exact hf_8
  have hf_14 : fs_10[19]? = some (.int 0) := by rw [efs_10, List.getElem?_set_ne (by decide)]; exact hf_9
  have hf_15 : fs_10[20]? = some (.int 0) := by rw [efs_10]; exact List.getElem?_set_self (by rw [hlen_6]; decide)
  rw [← efs_10] at hP hD
  have hP : va_P (dC, dI) vwCl [(mq, .inr (12, fs_10)), (msk, .inl (cY, 14, .inl fY))] H := hP
  have hD : va_D A [(mq, .inr (12, fs_10)), (msk, .inl (cY, 14, .inl fY))] := hD
  refine lv_aload_n hx hb dX12_plain_15 rfl (lv_at hl 0 rfl) ?_
  refine lv_iconst (v := 0) hx hb dX12_plain_16 (by decide) ?_
  refine va_put (D := (dC, dI)) (ci := 12) (v := .int 0) (ty := tyX12 21) (C := RX12) (T := TX12) (N := 76) hx hb htw inlX12 tyX12 tyX12_ok nmX12 hown hK hP hD hS 0 rfl rfl 21 (by decide) (htw _ (ck_10 _ (List.mem_of_getElem? (i := 22) rfl))) (fun _ h9 => h9) rfl (by decide +kernel) rfl rfl (by rw [hlen_11]; decide) dX12_plain_17 (fun H locs hP hD hS => ?_)
  obtain ⟨fs_16, efs_16⟩ : ∃ g : List Value, g = (fs_10).set 21 (.int 0) := ⟨_, rfl⟩
  have hlen_17 : fs_16.length = 76 := by rw [efs_16, List.length_set]; exact hlen_11
  have hf_18 : fs_16[24]? = some (.ref msk) := by rw [efs_16, List.getElem?_set_ne (by decide)]; exact hf_12
  have hf_19 : fs_16[18]? = some (.int 0) := by rw [efs_16, List.getElem?_set_ne (by decide)]; exact hf_13
  have hf_20 : fs_16[19]? = some (.int 0) := by rw [efs_16, List.getElem?_set_ne (by decide)]; exact hf_14
  have hf_21 : fs_16[20]? = some (.int 0) := by rw [efs_16, List.getElem?_set_ne (by decide)]; exact hf_15
  have hf_22 : fs_16[21]? = some (.int 0) := by rw [efs_16]; exact List.getElem?_set_self (by rw [hlen_11]; decide)
  rw [← efs_16] at hP hD
  have hP : va_P (dC, dI) vwCl [(mq, .inr (12, fs_16)), (msk, .inl (cY, 14, .inl fY))] H := hP
  have hD : va_D A [(mq, .inr (12, fs_16)), (msk, .inl (cY, 14, .inl fY))] := hD
  refine lv_aload_n hx hb dX12_plain_20 rfl (lv_at hl 0 rfl) ?_
  refine lv_iconst (v := 0) hx hb dX12_plain_21 (by decide) ?_
  refine va_put (D := (dC, dI)) (ci := 12) (v := .int 0) (ty := tyX12 22) (C := RX12) (T := TX12) (N := 76) hx hb htw inlX12 tyX12 tyX12_ok nmX12 hown hK hP hD hS 0 rfl rfl 22 (by decide) (htw _ (ck_10 _ (List.mem_of_getElem? (i := 23) rfl))) (fun _ h9 => h9) rfl (by decide +kernel) rfl rfl (by rw [hlen_17]; decide) dX12_plain_22 (fun H locs hP hD hS => ?_)
  obtain ⟨fs_23, efs_23⟩ : ∃ g : List Value, g = (fs_16).set 22 (.int 0) := ⟨_, rfl⟩
  have hlen_24 : fs_23.length = 76 := by rw [efs_23, List.length_set]; exact hlen_17
  have hf_25 : fs_23[24]? = some (.ref msk) := by rw [efs_23, List.getElem?_set_ne (by decide)]; exact hf_18
  have hf_26 : fs_23[18]? = some (.int 0) := by rw [efs_23, List.getElem?_set_ne (by decide)]; exact hf_19
  have hf_27 : fs_23[19]? = some (.int 0) := by rw [efs_23, List.getElem?_set_ne (by decide)]; exact hf_20
  have hf_28 : fs_23[20]? = some (.int 0) := by rw [efs_23, List.getElem?_set_ne (by decide)]; exact hf_21
  have hf_29 : fs_23[21]? = some (.int 0) := by rw [efs_23, List.getElem?_set_ne (by decide)]; exact hf_22
  have hf_30 : fs_23[22]? = some (.int 0) := by rw [efs_23]; exact List.getElem?_set_self (by rw [hlen_17]; decide)
  rw [← efs_23] at hP hD
  have hP : va_P (dC, dI) vwCl [(mq, .inr (12, fs_23)), (msk, .inl (cY, 14, .inl fY))] H := hP
  have hD : va_D A [(mq, .inr (12, fs_23)), (msk, .inl (cY, 14, .inl fY))] := hD
  refine lv_aload_n hx hb dX12_plain_25 rfl (lv_at hl 0 rfl) ?_
  refine lv_iconst (v := 0) hx hb dX12_plain_26 (by decide) ?_
  refine va_put (D := (dC, dI)) (ci := 12) (v := .int 0) (ty := tyX12 23) (C := RX12) (T := TX12) (N := 76) hx hb htw inlX12 tyX12 tyX12_ok nmX12 hown hK hP hD hS 0 rfl rfl 23 (by decide) (htw _ (ck_11 _ (List.mem_of_getElem? (i := 0) rfl))) (fun _ h9 => h9) rfl (by decide +kernel) rfl rfl (by rw [hlen_24]; decide) dX12_plain_27 (fun H locs hP hD hS => ?_)
  obtain ⟨fs_31, efs_31⟩ : ∃ g : List Value, g = (fs_23).set 23 (.int 0) := ⟨_, rfl⟩
  have hlen_32 : fs_31.length = 76 := by rw [efs_31, List.length_set]; exact hlen_24
  have hf_33 : fs_31[24]? = some (.ref msk) := by rw [efs_31, List.getElem?_set_ne (by decide)]; exact hf_25
  have hf_34 : fs_31[18]? = some (.int 0) := by rw [efs_31, List.getElem?_set_ne (by decide)]; exact hf_26
  have hf_35 : fs_31[19]? = some (.int 0) := by rw [efs_31, List.getElem?_set_ne (by decide)]; exact hf_27
  have hf_36 : fs_31[20]? = some (.int 0) := by rw [efs_31, List.getElem?_set_ne (by decide)]; exact hf_28
  have hf_37 : fs_31[21]? = some (.int 0) := by rw [efs_31, List.getElem?_set_ne (by decide)]; exact hf_29
  have hf_38 : fs_31[22]? = some (.int 0) := by rw [efs_31, List.getElem?_set_ne (by decide)]; exact hf_30
  have hf_39 : fs_31[23]? = some (.int 0) := by rw [efs_31]; exact List.getElem?_set_self (by rw [hlen_24]; decide)
  rw [← efs_31] at hP hD
  have hP : va_P (dC, dI) vwCl [(mq, .inr (12, fs_31)), (msk, .inl (cY, 14, .inl fY))] H := hP
  have hD : va_D A [(mq, .inr (12, fs_31)), (msk, .inl (cY, 14, .inl fY))] := hD
  refine lv_aload_n hx hb dX12_plain_30 rfl (lv_at hl 0 rfl) ?_
  refine lv_iconst (v := 0) hx hb dX12_plain_31 (by decide) ?_
  refine va_put (D := (dC, dI)) (ci := 12) (v := .int 0) (ty := tyX12 50) (C := RX12) (T := TX12) (N := 76) hx hb htw inlX12 tyX12 tyX12_ok nmX12 hown hK hP hD hS 0 rfl rfl 50 (by decide) (htw _ (ck_11 _ (List.mem_of_getElem? (i := 1) rfl))) (fun _ h9 => h9) rfl (by decide +kernel) rfl rfl (by rw [hlen_32]; decide) dX12_plain_32 (fun H locs hP hD hS => ?_)
  obtain ⟨fs_40, efs_40⟩ : ∃ g : List Value, g = (fs_31).set 50 (.int 0) := ⟨_, rfl⟩
  have hlen_41 : fs_40.length = 76 := by rw [efs_40, List.length_set]; exact hlen_32
  have hf_42 : fs_40[24]? = some (.ref msk) := by rw [efs_40, List.getElem?_set_ne (by decide)]; exact hf_33
  have hf_43 : fs_40[18]? = some (.int 0) := by rw [efs_40, List.getElem?_set_ne (by decide)]; exact hf_34
  have hf_44 : fs_40[19]? = some (.int 0) := by rw [efs_40, List.getElem?_set_ne (by decide)]; exact hf_35
  have hf_45 : fs_40[20]? = some (.int 0) := by rw [efs_40, List.getElem?_set_ne (by decide)]; exact hf_36
  have hf_46 : fs_40[21]? = some (.int 0) := by rw [efs_40, List.getElem?_set_ne (by decide)]; exact hf_37
  have hf_47 : fs_40[22]? = some (.int 0) := by rw [efs_40, List.getElem?_set_ne (by decide)]; exact hf_38
  have hf_48 : fs_40[23]? = some (.int 0) := by rw [efs_40, List.getElem?_set_ne (by decide)]; exact hf_39
  have hf_49 : fs_40[50]? = some (.int 0) := by rw [efs_40]; exact List.getElem?_set_self (by rw [hlen_32]; decide)
  rw [← efs_40] at hP hD
  have hP : va_P (dC, dI) vwCl [(mq, .inr (12, fs_40)), (msk, .inl (cY, 14, .inl fY))] H := hP
  have hD : va_D A [(mq, .inr (12, fs_40)), (msk, .inl (cY, 14, .inl fY))] := hD
  refine lv_aload_n hx hb dX12_plain_35 rfl (lv_at hl 0 rfl) ?_
  refine lv_iconst (v := 0) hx hb dX12_plain_36 (by decide) ?_
  refine va_put (D := (dC, dI)) (ci := 12) (v := .int 0) (ty := tyX12 25) (C := RX12) (T := TX12) (N := 76) hx hb htw inlX12 tyX12 tyX12_ok nmX12 hown hK hP hD hS 0 rfl rfl 25 (by decide) (htw _ (ck_11 _ (List.mem_of_getElem? (i := 2) rfl))) (fun _ h9 => h9) rfl (by decide +kernel) rfl rfl (by rw [hlen_41]; decide) dX12_plain_37 (fun H locs hP hD hS => ?_)
  obtain ⟨fs_50, efs_50⟩ : ∃ g : List Value, g = (fs_40).set 25 (.int 0) := ⟨_, rfl⟩
  have hlen_51 : fs_50.length = 76 := by rw [efs_50, List.length_set]; exact hlen_41
  have hf_52 : fs_50[24]? = some (.ref msk) := by rw [efs_50, List.getElem?_set_ne (by decide)]; exact hf_42
  have hf_53 : fs_50[18]? = some (.int 0) := by rw [efs_50, List.getElem?_set_ne (by decide)]; exact hf_43
  have hf_54 : fs_50[19]? = some (.int 0) := by rw [efs_50, List.getElem?_set_ne (by decide)]; exact hf_44
  have hf_55 : fs_50[20]? = some (.int 0) := by rw [efs_50, List.getElem?_set_ne (by decide)]; exact hf_45
  have hf_56 : fs_50[21]? = some (.int 0) := by rw [efs_50, List.getElem?_set_ne (by decide)]; exact hf_46
  have hf_57 : fs_50[22]? = some (.int 0) := by rw [efs_50, List.getElem?_set_ne (by decide)]; exact hf_47
  have hf_58 : fs_50[23]? = some (.int 0) := by rw [efs_50, List.getElem?_set_ne (by decide)]; exact hf_48
  have hf_59 : fs_50[50]? = some (.int 0) := by rw [efs_50, List.getElem?_set_ne (by decide)]; exact hf_49
  have hf_60 : fs_50[25]? = some (.int 0) := by rw [efs_50]; exact List.getElem?_set_self (by rw [hlen_41]; decide)
  rw [← efs_50] at hP hD
  have hP : va_P (dC, dI) vwCl [(mq, .inr (12, fs_50)), (msk, .inl (cY, 14, .inl fY))] H := hP
  have hD : va_D A [(mq, .inr (12, fs_50)), (msk, .inl (cY, 14, .inl fY))] := hD
  refine lv_aload_n hx hb dX12_plain_40 rfl (lv_at hl 0 rfl) ?_
  refine lv_iconst (v := 0) hx hb dX12_plain_41 (by decide) ?_
  refine va_put (D := (dC, dI)) (ci := 12) (v := .int 0) (ty := tyX12 26) (C := RX12) (T := TX12) (N := 76) hx hb htw inlX12 tyX12 tyX12_ok nmX12 hown hK hP hD hS 0 rfl rfl 26 (by decide) (htw _ (ck_11 _ (List.mem_of_getElem? (i := 3) rfl))) (fun _ h9 => h9) rfl (by decide +kernel) rfl rfl (by rw [hlen_51]; decide) dX12_plain_42 (fun H locs hP hD hS => ?_)
  obtain ⟨fs_61, efs_61⟩ : ∃ g : List Value, g = (fs_50).set 26 (.int 0) := ⟨_, rfl⟩
  have hlen_62 : fs_61.length = 76 := by rw [efs_61, List.length_set]; exact hlen_51
  have hf_63 : fs_61[24]? = some (.ref msk) := by rw [efs_61, List.getElem?_set_ne (by decide)]; exact hf_52
  have hf_64 : fs_61[18]? = some (.int 0) := by rw [efs_61, List.getElem?_set_ne (by decide)]; exact hf_53
  have hf_65 : fs_61[19]? = some (.int 0) := by rw [efs_61, List.getElem?_set_ne (by decide)]; exact hf_54
  have hf_66 : fs_61[20]? = some (.int 0) := by rw [efs_61, List.getElem?_set_ne (by decide)]; exact hf_55
  have hf_67 : fs_61[21]? = some (.int 0) := by rw [efs_61, List.getElem?_set_ne (by decide)]; exact hf_56
  have hf_68 : fs_61[22]? = some (.int 0) := by rw [efs_61, List.getElem?_set_ne (by decide)]; exact hf_57
  have hf_69 : fs_61[23]? = some (.int 0) := by rw [efs_61, List.getElem?_set_ne (by decide)]; exact hf_58
  have hf_70 : fs_61[50]? = some (.int 0) := by rw [efs_61, List.getElem?_set_ne (by decide)]; exact hf_59
  have hf_71 : fs_61[25]? = some (.int 0) := by rw [efs_61, List.getElem?_set_ne (by decide)]; exact hf_60
  have hf_72 : fs_61[26]? = some (.int 0) := by rw [efs_61]; exact List.getElem?_set_self (by rw [hlen_51]; decide)
  rw [← efs_61] at hP hD
  have hP : va_P (dC, dI) vwCl [(mq, .inr (12, fs_61)), (msk, .inl (cY, 14, .inl fY))] H := hP
  have hD : va_D A [(mq, .inr (12, fs_61)), (msk, .inl (cY, 14, .inl fY))] := hD
  refine lv_aload_n hx hb dX12_plain_45 rfl (lv_at hl 0 rfl) ?_
  refine lv_iconst (v := 0) hx hb dX12_plain_46 (by decide) ?_
  refine va_put (D := (dC, dI)) (ci := 12) (v := .int 0) (ty := tyX12 27) (C := RX12) (T := TX12) (N := 76) hx hb htw inlX12 tyX12 tyX12_ok nmX12 hown hK hP hD hS 0 rfl rfl 27 (by decide) (htw _ (ck_11 _ (List.mem_of_getElem? (i := 4) rfl))) (fun _ h9 => h9) rfl (by decide +kernel) rfl rfl (by rw [hlen_62]; decide) dX12_plain_47 (fun H locs hP hD hS => ?_)
  obtain ⟨fs_73, efs_73⟩ : ∃ g : List Value, g = (fs_61).set 27 (.int 0) := ⟨_, rfl⟩
  have hlen_74 : fs_73.length = 76 := by rw [efs_73, List.length_set]; exact hlen_62
  have hf_75 : fs_73[24]? = some (.ref msk) := by rw [efs_73, List.getElem?_set_ne (by decide)]; exact hf_63
  have hf_76 : fs_73[18]? = some (.int 0) := by rw [efs_73, List.getElem?_set_ne (by decide)]; exact hf_64
  have hf_77 : fs_73[19]? = some (.int 0) := by rw [efs_73, List.getElem?_set_ne (by decide)]; exact hf_65
  have hf_78 : fs_73[20]? = some (.int 0) := by rw [efs_73, List.getElem?_set_ne (by decide)]; exact hf_66
  have hf_79 : fs_73[21]? = some (.int 0) := by rw [efs_73, List.getElem?_set_ne (by decide)]; exact hf_67
  have hf_80 : fs_73[22]? = some (.int 0) := by rw [efs_73, List.getElem?_set_ne (by decide)]; exact hf_68
  have hf_81 : fs_73[23]? = some (.int 0) := by rw [efs_73, List.getElem?_set_ne (by decide)]; exact hf_69
  have hf_82 : fs_73[50]? = some (.int 0) := by rw [efs_73, List.getElem?_set_ne (by decide)]; exact hf_70
  have hf_83 : fs_73[25]? = some (.int 0) := by rw [efs_73, List.getElem?_set_ne (by decide)]; exact hf_71
  have hf_84 : fs_73[26]? = some (.int 0) := by rw [efs_73, List.getElem?_set_ne (by decide)]; exact hf_72
  have hf_85 : fs_73[27]? = some (.int 0) := by rw [efs_73]; exact List.getElem?_set_self (by rw [hlen_62]; decide)
  rw [← efs_73] at hP hD
  have hP : va_P (dC, dI) vwCl [(mq, .inr (12, fs_73)), (msk, .inl (cY, 14, .inl fY))] H := hP
  have hD : va_D A [(mq, .inr (12, fs_73)), (msk, .inl (cY, 14, .inl fY))] := hD
  refine lv_aload_n hx hb dX12_plain_50 rfl (lv_at hl 0 rfl) ?_
  refine va_get (D := (dC, dI)) (ci := 12) (v := .ref msk) (C := RX12) (T := TX12) (N := 76) hx hb htw inlX12 hown hK hP 0 rfl rfl 24 (by decide) (htw _ (ck_9 _ (List.mem_of_getElem? (i := 7) rfl))) (fun _ h9 => h9) hf_75 dX12_plain_51 ?_
  refine lv_bipush (v := 7) hx hb dX12_plain_54 (by decide) ?_
  refine lv_bipush (v := 7) hx hb dX12_plain_56 (by decide) ?_
  refine va_iast hx hb hK hP hD hS 1 0 rfl rfl (by unfold vp_in; decide) dX12_plain_58 (fun H locs hP hD hS => ?_)
  obtain ⟨f_86, ef_86⟩ : ∃ g9 : Nat → Int32, g9 = upd fY ((7 : Int32).toNatClampNeg) 7 := ⟨_, rfl⟩
  rw [← ef_86] at hP hD
  have hP : va_P (dC, dI) vwCl [(mq, .inr (12, fs_73)), (msk, .inl (cY, 14, .inl f_86))] H := hP
  have hD : va_D A [(mq, .inr (12, fs_73)), (msk, .inl (cY, 14, .inl f_86))] := hD
  refine lv_aload_n hx hb dX12_plain_59 rfl (lv_at hl 0 rfl) ?_
  refine va_get (D := (dC, dI)) (ci := 12) (v := .ref msk) (C := RX12) (T := TX12) (N := 76) hx hb htw inlX12 hown hK hP 0 rfl rfl 24 (by decide) (htw _ (ck_9 _ (List.mem_of_getElem? (i := 7) rfl))) (fun _ h9 => h9) hf_75 dX12_plain_60 ?_
  refine lv_bipush (v := 8) hx hb dX12_plain_63 (by decide) ?_
  refine lv_iconst (v := 0) hx hb dX12_plain_65 (by decide) ?_
  refine va_iast hx hb hK hP hD hS 1 0 rfl rfl (by unfold vp_in; decide) dX12_plain_66 (fun H locs hP hD hS => ?_)
  obtain ⟨f_87, ef_87⟩ : ∃ g9 : Nat → Int32, g9 = upd f_86 ((8 : Int32).toNatClampNeg) 0 := ⟨_, rfl⟩
  rw [← ef_87] at hP hD
  have hP : va_P (dC, dI) vwCl [(mq, .inr (12, fs_73)), (msk, .inl (cY, 14, .inl f_87))] H := hP
  have hD : va_D A [(mq, .inr (12, fs_73)), (msk, .inl (cY, 14, .inl f_87))] := hD
  refine lv_aload_n hx hb dX12_plain_67 rfl (lv_at hl 0 rfl) ?_
  refine va_get (D := (dC, dI)) (ci := 12) (v := .ref msk) (C := RX12) (T := TX12) (N := 76) hx hb htw inlX12 hown hK hP 0 rfl rfl 24 (by decide) (htw _ (ck_9 _ (List.mem_of_getElem? (i := 7) rfl))) (fun _ h9 => h9) hf_75 dX12_plain_68 ?_
  refine lv_bipush (v := 9) hx hb dX12_plain_71 (by decide) ?_
  refine lv_bipush (v := 59) hx hb dX12_plain_73 (by decide) ?_
  refine va_iast hx hb hK hP hD hS 1 0 rfl rfl (by unfold vp_in; decide) dX12_plain_75 (fun H locs hP hD hS => ?_)
  obtain ⟨f_88, ef_88⟩ : ∃ g9 : Nat → Int32, g9 = upd f_87 ((9 : Int32).toNatClampNeg) 59 := ⟨_, rfl⟩
  rw [← ef_88] at hP hD
  have hP : va_P (dC, dI) vwCl [(mq, .inr (12, fs_73)), (msk, .inl (cY, 14, .inl f_88))] H := hP
  have hD : va_D A [(mq, .inr (12, fs_73)), (msk, .inl (cY, 14, .inl f_88))] := hD
  refine lv_aload_n hx hb dX12_plain_76 rfl (lv_at hl 0 rfl) ?_
  refine va_get (D := (dC, dI)) (ci := 12) (v := .ref msk) (C := RX12) (T := TX12) (N := 76) hx hb htw inlX12 hown hK hP 0 rfl rfl 24 (by decide) (htw _ (ck_9 _ (List.mem_of_getElem? (i := 7) rfl))) (fun _ h9 => h9) hf_75 dX12_plain_77 ?_
  refine lv_bipush (v := 10) hx hb dX12_plain_80 (by decide) ?_
  refine lv_iconst (v := 2) hx hb dX12_plain_82 (by decide) ?_
  refine va_iast hx hb hK hP hD hS 1 0 rfl rfl (by unfold vp_in; decide) dX12_plain_83 (fun H locs hP hD hS => ?_)
  obtain ⟨f_89, ef_89⟩ : ∃ g9 : Nat → Int32, g9 = upd f_88 ((10 : Int32).toNatClampNeg) 2 := ⟨_, rfl⟩
  rw [← ef_89] at hP hD
  have hP : va_P (dC, dI) vwCl [(mq, .inr (12, fs_73)), (msk, .inl (cY, 14, .inl f_89))] H := hP
  have hD : va_D A [(mq, .inr (12, fs_73)), (msk, .inl (cY, 14, .inl f_89))] := hD
  refine lv_aload_n hx hb dX12_plain_84 rfl (lv_at hl 0 rfl) ?_
  refine va_get (D := (dC, dI)) (ci := 12) (v := .ref msk) (C := RX12) (T := TX12) (N := 76) hx hb htw inlX12 hown hK hP 0 rfl rfl 24 (by decide) (htw _ (ck_9 _ (List.mem_of_getElem? (i := 7) rfl))) (fun _ h9 => h9) hf_75 dX12_plain_85 ?_
  refine lv_bipush (v := 11) hx hb dX12_plain_88 (by decide) ?_
  refine lv_iconst (v := 0) hx hb dX12_plain_90 (by decide) ?_
  refine va_iast hx hb hK hP hD hS 1 0 rfl rfl (by unfold vp_in; decide) dX12_plain_91 (fun H locs hP hD hS => ?_)
  obtain ⟨f_90, ef_90⟩ : ∃ g9 : Nat → Int32, g9 = upd f_89 ((11 : Int32).toNatClampNeg) 0 := ⟨_, rfl⟩
  rw [← ef_90] at hP hD
  have hP : va_P (dC, dI) vwCl [(mq, .inr (12, fs_73)), (msk, .inl (cY, 14, .inl f_90))] H := hP
  have hD : va_D A [(mq, .inr (12, fs_73)), (msk, .inl (cY, 14, .inl f_90))] := hD
  refine lv_aload_n hx hb dX12_plain_92 rfl (lv_at hl 0 rfl) ?_
  refine va_get (D := (dC, dI)) (ci := 12) (v := .ref msk) (C := RX12) (T := TX12) (N := 76) hx hb htw inlX12 hown hK hP 0 rfl rfl 24 (by decide) (htw _ (ck_9 _ (List.mem_of_getElem? (i := 7) rfl))) (fun _ h9 => h9) hf_75 dX12_plain_93 ?_
  refine lv_bipush (v := 12) hx hb dX12_plain_96 (by decide) ?_
  refine lv_sipush (v := 1461) hx hb dX12_plain_98 (by decide) ?_
  refine va_iast hx hb hK hP hD hS 1 0 rfl rfl (by unfold vp_in; decide) dX12_plain_101 (fun H locs hP hD hS => ?_)
  obtain ⟨f_91, ef_91⟩ : ∃ g9 : Nat → Int32, g9 = upd f_90 ((12 : Int32).toNatClampNeg) 1461 := ⟨_, rfl⟩
  rw [← ef_91] at hP hD
  have hP : va_P (dC, dI) vwCl [(mq, .inr (12, fs_73)), (msk, .inl (cY, 14, .inl f_91))] H := hP
  have hD : va_D A [(mq, .inr (12, fs_73)), (msk, .inl (cY, 14, .inl f_91))] := hD
  refine lv_aload_n hx hb dX12_plain_102 rfl (lv_at hl 0 rfl) ?_
  refine va_get (D := (dC, dI)) (ci := 12) (v := .ref msk) (C := RX12) (T := TX12) (N := 76) hx hb htw inlX12 hown hK hP 0 rfl rfl 24 (by decide) (htw _ (ck_9 _ (List.mem_of_getElem? (i := 7) rfl))) (fun _ h9 => h9) hf_75 dX12_plain_103 ?_
  refine lv_bipush (v := 13) hx hb dX12_plain_106 (by decide) ?_
  refine lv_iconst (v := 4) hx hb dX12_plain_108 (by decide) ?_
  refine va_iast hx hb hK hP hD hS 1 0 rfl rfl (by unfold vp_in; decide) dX12_plain_109 (fun H locs hP hD hS => ?_)
  obtain ⟨f_92, ef_92⟩ : ∃ g9 : Nat → Int32, g9 = upd f_91 ((13 : Int32).toNatClampNeg) 4 := ⟨_, rfl⟩
  rw [← ef_92] at hP hD
  have hP : va_P (dC, dI) vwCl [(mq, .inr (12, fs_73)), (msk, .inl (cY, 14, .inl f_92))] H := hP
  have hD : va_D A [(mq, .inr (12, fs_73)), (msk, .inl (cY, 14, .inl f_92))] := hD
  refine W.widen (k := 0) (n := 0) (by omega) (by omega) ?_
  have hP9 := hP.sub (ws' := [(mq, .inr (12, fs_73)), (msk, .inl (cY, 14, .inl f_92))]) [0, 1] rfl
  have hD9 := hD.sub (ws' := [(mq, .inr (12, fs_73)), (msk, .inl (cY, 14, .inl f_92))]) [0, 1] (by decide) rfl
  have hK9 := hK.sub (tys' := []) [] rfl
  exact W.vret hx hb hr (fun t ht hW => ⟨⟨(fs_73, f_92), rfl, ⟨(by rw [efs_73, efs_61, efs_50, efs_40, efs_31, efs_23, efs_16, efs_10, efs_5, efs_1]), by rw [ef_92, ef_91, ef_90, ef_89, ef_88, ef_87, ef_86]; rfl, by rw [ef_92, ef_91, ef_90, ef_89, ef_88, ef_87, ef_86]; rfl, by rw [ef_92, ef_91, ef_90, ef_89, ef_88, ef_87, ef_86]; rfl, by rw [ef_92, ef_91, ef_90, ef_89, ef_88, ef_87, ef_86]; rfl, by rw [ef_92, ef_91, ef_90, ef_89, ef_88, ef_87, ef_86]; rfl, by rw [ef_92, ef_91, ef_90, ef_89, ef_88, ef_87, ef_86]; rfl, by rw [ef_92, ef_91, ef_90, ef_89, ef_88, ef_87, ef_86]; rfl⟩, by rw [ht]; exact hP9, va_K.moved hW.alike hK9, hD9⟩, hS.F ht⟩) hS.2.2 dX12_plain_110

theorem dX12_keepText_0 : decode cX12_keepText 0 = .ok (.aload_n 0, 1) := by decide +kernel
theorem dX12_keepText_1 : decode cX12_keepText 1 = .ok (.aload_n 0, 1) := by decide +kernel
theorem dX12_keepText_2 : decode cX12_keepText 2 = .ok (.getfield 186, 3) := by decide +kernel
theorem dX12_keepText_5 : decode cX12_keepText 5 = .ok (.putfield 217, 3) := by decide +kernel
theorem dX12_keepText_8 : decode cX12_keepText 8 = .ok (.aload_n 0, 1) := by decide +kernel
theorem dX12_keepText_9 : decode cX12_keepText 9 = .ok (.aload_n 0, 1) := by decide +kernel
theorem dX12_keepText_10 : decode cX12_keepText 10 = .ok (.getfield 189, 3) := by decide +kernel
theorem dX12_keepText_13 : decode cX12_keepText 13 = .ok (.putfield 220, 3) := by decide +kernel
theorem dX12_keepText_16 : decode cX12_keepText 16 = .ok (.aload_n 0, 1) := by decide +kernel
theorem dX12_keepText_17 : decode cX12_keepText 17 = .ok (.aload_n 0, 1) := by decide +kernel
theorem dX12_keepText_18 : decode cX12_keepText 18 = .ok (.getfield 192, 3) := by decide +kernel
theorem dX12_keepText_21 : decode cX12_keepText 21 = .ok (.putfield 223, 3) := by decide +kernel
theorem dX12_keepText_24 : decode cX12_keepText 24 = .ok (.aload_n 0, 1) := by decide +kernel
theorem dX12_keepText_25 : decode cX12_keepText 25 = .ok (.aload_n 0, 1) := by decide +kernel
theorem dX12_keepText_26 : decode cX12_keepText 26 = .ok (.getfield 195, 3) := by decide +kernel
theorem dX12_keepText_29 : decode cX12_keepText 29 = .ok (.putfield 226, 3) := by decide +kernel
theorem dX12_keepText_32 : decode cX12_keepText 32 = .ok (.aload_n 0, 1) := by decide +kernel
theorem dX12_keepText_33 : decode cX12_keepText 33 = .ok (.aload_n 0, 1) := by decide +kernel
theorem dX12_keepText_34 : decode cX12_keepText 34 = .ok (.getfield 198, 3) := by decide +kernel
theorem dX12_keepText_37 : decode cX12_keepText 37 = .ok (.putfield 229, 3) := by decide +kernel
theorem dX12_keepText_40 : decode cX12_keepText 40 = .ok (.aload_n 0, 1) := by decide +kernel
theorem dX12_keepText_41 : decode cX12_keepText 41 = .ok (.aload_n 0, 1) := by decide +kernel
theorem dX12_keepText_42 : decode cX12_keepText 42 = .ok (.getfield 201, 3) := by decide +kernel
theorem dX12_keepText_45 : decode cX12_keepText 45 = .ok (.putfield 232, 3) := by decide +kernel
theorem dX12_keepText_48 : decode cX12_keepText 48 = .ok (.aload_n 0, 1) := by decide +kernel
theorem dX12_keepText_49 : decode cX12_keepText 49 = .ok (.getfield 20, 3) := by decide +kernel
theorem dX12_keepText_52 : decode cX12_keepText 52 = .ok (.bipush 7, 2) := by decide +kernel
theorem dX12_keepText_54 : decode cX12_keepText 54 = .ok (.invokestatic 235, 3) := by decide +kernel
theorem dX12_keepText_57 : decode cX12_keepText 57 = .ok (.aload_n 0, 1) := by decide +kernel
theorem dX12_keepText_58 : decode cX12_keepText 58 = .ok (.getfield 23, 3) := by decide +kernel
theorem dX12_keepText_61 : decode cX12_keepText 61 = .ok (.iconst 4, 1) := by decide +kernel
theorem dX12_keepText_62 : decode cX12_keepText 62 = .ok (.invokestatic 235, 3) := by decide +kernel
theorem dX12_keepText_65 : decode cX12_keepText 65 = .ok (.aload_n 0, 1) := by decide +kernel
theorem dX12_keepText_66 : decode cX12_keepText 66 = .ok (.getfield 26, 3) := by decide +kernel
theorem dX12_keepText_69 : decode cX12_keepText 69 = .ok (.bipush 12, 2) := by decide +kernel
theorem dX12_keepText_71 : decode cX12_keepText 71 = .ok (.invokestatic 235, 3) := by decide +kernel
theorem dX12_keepText_74 : decode cX12_keepText 74 = .ok (.aload_n 0, 1) := by decide +kernel
theorem dX12_keepText_75 : decode cX12_keepText 75 = .ok (.getfield 29, 3) := by decide +kernel
theorem dX12_keepText_78 : decode cX12_keepText 78 = .ok (.iconst 4, 1) := by decide +kernel
theorem dX12_keepText_79 : decode cX12_keepText 79 = .ok (.invokestatic 235, 3) := by decide +kernel
theorem dX12_keepText_82 : decode cX12_keepText 82 = .ok (.aload_n 0, 1) := by decide +kernel
theorem dX12_keepText_83 : decode cX12_keepText 83 = .ok (.getfield 32, 3) := by decide +kernel
theorem dX12_keepText_86 : decode cX12_keepText 86 = .ok (.iconst 4, 1) := by decide +kernel
theorem dX12_keepText_87 : decode cX12_keepText 87 = .ok (.invokestatic 235, 3) := by decide +kernel
theorem dX12_keepText_90 : decode cX12_keepText 90 = .ok (.aload_n 0, 1) := by decide +kernel
theorem dX12_keepText_91 : decode cX12_keepText 91 = .ok (.getfield 35, 3) := by decide +kernel
theorem dX12_keepText_94 : decode cX12_keepText 94 = .ok (.iconst 4, 1) := by decide +kernel
theorem dX12_keepText_95 : decode cX12_keepText 95 = .ok (.invokestatic 235, 3) := by decide +kernel
theorem dX12_keepText_98 : decode cX12_keepText 98 = .ok (.aload_n 0, 1) := by decide +kernel
theorem dX12_keepText_99 : decode cX12_keepText 99 = .ok (.getfield 38, 3) := by decide +kernel
theorem dX12_keepText_102 : decode cX12_keepText 102 = .ok (.bipush 6, 2) := by decide +kernel
theorem dX12_keepText_104 : decode cX12_keepText 104 = .ok (.invokestatic 235, 3) := by decide +kernel
theorem dX12_keepText_107 : decode cX12_keepText 107 = .ok (.aload_n 0, 1) := by decide +kernel
theorem dX12_keepText_108 : decode cX12_keepText 108 = .ok (.getfield 41, 3) := by decide +kernel
theorem dX12_keepText_111 : decode cX12_keepText 111 = .ok (.bipush 6, 2) := by decide +kernel
theorem dX12_keepText_113 : decode cX12_keepText 113 = .ok (.invokestatic 239, 3) := by decide +kernel
theorem dX12_keepText_116 : decode cX12_keepText 116 = .ok (.aload_n 0, 1) := by decide +kernel
theorem dX12_keepText_117 : decode cX12_keepText 117 = .ok (.getfield 45, 3) := by decide +kernel
theorem dX12_keepText_120 : decode cX12_keepText 120 = .ok (.bipush 6, 2) := by decide +kernel
theorem dX12_keepText_122 : decode cX12_keepText 122 = .ok (.invokestatic 239, 3) := by decide +kernel
theorem dX12_keepText_125 : decode cX12_keepText 125 = .ok (.aload_n 0, 1) := by decide +kernel
theorem dX12_keepText_126 : decode cX12_keepText 126 = .ok (.getfield 48, 3) := by decide +kernel
theorem dX12_keepText_129 : decode cX12_keepText 129 = .ok (.iconst 4, 1) := by decide +kernel
theorem dX12_keepText_130 : decode cX12_keepText 130 = .ok (.invokestatic 235, 3) := by decide +kernel
theorem dX12_keepText_133 : decode cX12_keepText 133 = .ok (.aload_n 0, 1) := by decide +kernel
theorem dX12_keepText_134 : decode cX12_keepText 134 = .ok (.getfield 51, 3) := by decide +kernel
theorem dX12_keepText_137 : decode cX12_keepText 137 = .ok (.iconst 4, 1) := by decide +kernel
theorem dX12_keepText_138 : decode cX12_keepText 138 = .ok (.invokestatic 239, 3) := by decide +kernel
theorem dX12_keepText_141 : decode cX12_keepText 141 = .ok (.aload_n 0, 1) := by decide +kernel
theorem dX12_keepText_142 : decode cX12_keepText 142 = .ok (.getfield 54, 3) := by decide +kernel
theorem dX12_keepText_145 : decode cX12_keepText 145 = .ok (.bipush 12, 2) := by decide +kernel
theorem dX12_keepText_147 : decode cX12_keepText 147 = .ok (.invokestatic 235, 3) := by decide +kernel
theorem dX12_keepText_150 : decode cX12_keepText 150 = .ok (.aload_n 0, 1) := by decide +kernel
theorem dX12_keepText_151 : decode cX12_keepText 151 = .ok (.getfield 57, 3) := by decide +kernel
theorem dX12_keepText_154 : decode cX12_keepText 154 = .ok (.bipush 6, 2) := by decide +kernel
theorem dX12_keepText_156 : decode cX12_keepText 156 = .ok (.invokestatic 235, 3) := by decide +kernel
theorem dX12_keepText_159 : decode cX12_keepText 159 = .ok (.aload_n 0, 1) := by decide +kernel
theorem dX12_keepText_160 : decode cX12_keepText 160 = .ok (.getfield 60, 3) := by decide +kernel
theorem dX12_keepText_163 : decode cX12_keepText 163 = .ok (.sipush 132, 3) := by decide +kernel
theorem dX12_keepText_166 : decode cX12_keepText 166 = .ok (.invokestatic 235, 3) := by decide +kernel
theorem dX12_keepText_169 : decode cX12_keepText 169 = .ok (.aload_n 0, 1) := by decide +kernel
theorem dX12_keepText_170 : decode cX12_keepText 170 = .ok (.getfield 63, 3) := by decide +kernel
theorem dX12_keepText_173 : decode cX12_keepText 173 = .ok (.bipush 64, 2) := by decide +kernel
theorem dX12_keepText_175 : decode cX12_keepText 175 = .ok (.invokestatic 235, 3) := by decide +kernel
theorem dX12_keepText_178 : decode cX12_keepText 178 = .ok (.aload_n 0, 1) := by decide +kernel
theorem dX12_keepText_179 : decode cX12_keepText 179 = .ok (.getfield 66, 3) := by decide +kernel
theorem dX12_keepText_182 : decode cX12_keepText 182 = .ok (.bipush 64, 2) := by decide +kernel
theorem dX12_keepText_184 : decode cX12_keepText 184 = .ok (.invokestatic 235, 3) := by decide +kernel
theorem dX12_keepText_187 : decode cX12_keepText 187 = .ok (.aload_n 0, 1) := by decide +kernel
theorem dX12_keepText_188 : decode cX12_keepText 188 = .ok (.getfield 69, 3) := by decide +kernel
theorem dX12_keepText_191 : decode cX12_keepText 191 = .ok (.bipush 64, 2) := by decide +kernel
theorem dX12_keepText_193 : decode cX12_keepText 193 = .ok (.invokestatic 235, 3) := by decide +kernel
theorem dX12_keepText_196 : decode cX12_keepText 196 = .ok (.aload_n 0, 1) := by decide +kernel
theorem dX12_keepText_197 : decode cX12_keepText 197 = .ok (.aload_n 0, 1) := by decide +kernel
theorem dX12_keepText_198 : decode cX12_keepText 198 = .ok (.getfield 229, 3) := by decide +kernel
theorem dX12_keepText_201 : decode cX12_keepText 201 = .ok (.putfield 243, 3) := by decide +kernel
theorem dX12_keepText_204 : decode cX12_keepText 204 = .ok (.aload_n 0, 1) := by decide +kernel
theorem dX12_keepText_205 : decode cX12_keepText 205 = .ok (.iconst 0, 1) := by decide +kernel
theorem dX12_keepText_206 : decode cX12_keepText 206 = .ok (.putfield 246, 3) := by decide +kernel
theorem dX12_keepText_209 : decode cX12_keepText 209 = .ok (.aload_n 0, 1) := by decide +kernel
theorem dX12_keepText_210 : decode cX12_keepText 210 = .ok (.iconst 0, 1) := by decide +kernel
theorem dX12_keepText_211 : decode cX12_keepText 211 = .ok (.putfield 249, 3) := by decide +kernel
theorem dX12_keepText_214 : decode cX12_keepText 214 = .ok (.aload_n 0, 1) := by decide +kernel
theorem dX12_keepText_215 : decode cX12_keepText 215 = .ok (.iconst 0, 1) := by decide +kernel
theorem dX12_keepText_216 : decode cX12_keepText 216 = .ok (.putfield 252, 3) := by decide +kernel
theorem dX12_keepText_219 : decode cX12_keepText 219 = .ok (.return_, 1) := by decide +kernel
set_option maxHeartbeats 4000000 in
set_option maxRecDepth 100000 in
theorem mm_keepText (l : Launch) (dC : Nat → ClassId) (dI : Nat → Nat → Nat) (mq : Nat) (fs : List Value) (msk : Nat) (mln : Nat) (mlh : Nat) (mfn : Nat) (mfi : Nat) (mla : Nat) (mpn : Nat) (mbo : Nat) (mdi : Nat) (mdn : Nat) (mdo : Nat) (mdh : Nat) (mnn : Nat) (mnh : Nat) (mkn : Nat) (mpt : Nat) (mot : Nat) (cmsk : ClassId) (cmln : ClassId) (cmlh : ClassId) (cmfn : ClassId) (cmfi : ClassId) (cmla : ClassId) (cmpn : ClassId) (cmbo : ClassId) (cmdi : ClassId) (cmdn : ClassId) (cmdo : ClassId) (cmdh : ClassId) (cmnn : ClassId) (cmnh : ClassId) (cmkn : ClassId) (cmpt : ClassId) (cmot : ClassId) (fmsk : Nat → Int32) (fmln : Nat → Int32) (fmlh : Nat → Int32) (fmfn : Nat → Int32) (fmfi : Nat → Int32) (fmla : Nat → Int32) (fmpn : Nat → Int32) (fmbo : Nat → Int64) (fmdi : Nat → Int64) (fmdn : Nat → Int32) (fmdo : Nat → Int64) (fmdh : Nat → Int32) (fmnn : Nat → Int32) (fmnh : Nat → Int32) (fmkn : Nat → Int32) (fmpt : Nat → Int32) (fmot : Nat → Int32) (sz : Nat) (hlen : fs.length = 76) (hf18 : fs[18]? = some (.int 0)) (hf19 : fs[19]? = some (.int 0)) (hf20 : fs[20]? = some (.int 0)) (hf21 : fs[21]? = some (.int 0)) (hf22 : fs[22]? = some (.int 0)) (hf23 : fs[23]? = some (.int 0)) (hf24 : fs[24]? = some (.ref msk)) (hf28 : fs[28]? = some (.ref mln)) (hf29 : fs[29]? = some (.ref mlh)) (hf30 : fs[30]? = some (.ref mfn)) (hf31 : fs[31]? = some (.ref mfi)) (hf32 : fs[32]? = some (.ref mla)) (hf33 : fs[33]? = some (.ref mpn)) (hf34 : fs[34]? = some (.ref mbo)) (hf35 : fs[35]? = some (.ref mdi)) (hf36 : fs[36]? = some (.ref mdn)) (hf37 : fs[37]? = some (.ref mdo)) (hf38 : fs[38]? = some (.ref mdh)) (hf39 : fs[39]? = some (.ref mnn)) (hf40 : fs[40]? = some (.ref mnh)) (hf41 : fs[41]? = some (.ref mkn)) (hf42 : fs[42]? = some (.ref mpt)) (hf43 : fs[43]? = some (.ref mot)) : Met l yX12_keepText (Cond.code yX12_keepText cX12_keepText 1 none :: wsL_law) ({ frames := 1, cells := 0, slots := 0, locals := 22 }) (va_Pc [.ref mq] (fun U => U.heap.size = sz ∧ va_P (dC, dI) vwCl [(mq, .inr (12, fs)), (msk, .inl (cmsk, 14, .inl fmsk)), (mln, .inl (cmln, 8, .inl fmln)), (mlh, .inl (cmlh, 24, .inl fmlh)), (mfn, .inl (cmfn, 8, .inl fmfn)), (mfi, .inl (cmfi, 8, .inl fmfi)), (mla, .inl (cmla, 8, .inl fmla)), (mpn, .inl (cmpn, 12, .inl fmpn)), (mbo, .inl (cmbo, 12, .inr (.inl fmbo))), (mdi, .inl (cmdi, 12, .inr (.inl fmdi))), (mdn, .inl (cmdn, 8, .inl fmdn)), (mdo, .inl (cmdo, 8, .inr (.inl fmdo))), (mdh, .inl (cmdh, 24, .inl fmdh)), (mnn, .inl (cmnn, 12, .inl fmnn)), (mnh, .inl (cmnh, 264, .inl fmnh)), (mkn, .inl (cmkn, 128, .inl fmkn)), (mpt, .inl (cmpt, 128, .inl fmpt)), (mot, .inl (cmot, 128, .inl fmot))] U.heap ∧ va_K (dC, dI) vwCl [(cmsk, .int), (cmln, .int), (cmlh, .int), (cmfn, .int), (cmfi, .int), (cmla, .int), (cmpn, .int), (cmbo, .long), (cmdi, .long), (cmdn, .int), (cmdo, .long), (cmdh, .int), (cmnn, .int), (cmnh, .int), (cmkn, .int), (cmpt, .int), (cmot, .int)] U ∧ va_D (fun _ => True) [(mq, .inr (12, fs)), (msk, .inl (cmsk, 14, .inl fmsk)), (mln, .inl (cmln, 8, .inl fmln)), (mlh, .inl (cmlh, 24, .inl fmlh)), (mfn, .inl (cmfn, 8, .inl fmfn)), (mfi, .inl (cmfi, 8, .inl fmfi)), (mla, .inl (cmla, 8, .inl fmla)), (mpn, .inl (cmpn, 12, .inl fmpn)), (mbo, .inl (cmbo, 12, .inr (.inl fmbo))), (mdi, .inl (cmdi, 12, .inr (.inl fmdi))), (mdn, .inl (cmdn, 8, .inl fmdn)), (mdo, .inl (cmdo, 8, .inr (.inl fmdo))), (mdh, .inl (cmdh, 24, .inl fmdh)), (mnn, .inl (cmnn, 12, .inl fmnn)), (mnh, .inl (cmnh, 264, .inl fmnh)), (mkn, .inl (cmkn, 128, .inl fmkn)), (mpt, .inl (cmpt, 128, .inl fmpt)), (mot, .inl (cmot, 128, .inl fmot))])) (va_Qv (fun (u : (List Value) × (Nat → Int32) × (Nat → Int32) × (Nat → Int32) × (Nat → Int32) × (Nat → Int32) × (Nat → Int32) × (Nat → Int32) × (Nat → Int64) × (Nat → Int64) × (Nat → Int32) × (Nat → Int64) × (Nat → Int32) × (Nat → Int32) × (Nat → Int32) × (Nat → Int32) × (Nat → Int32) × (Nat → Int32)) => u.1 = ((((((((((fs.set 12 (.int 0)).set 13 (.int 0)).set 14 (.int 0)).set 15 (.int 0)).set 16 (.int 0)).set 17 (.int 0)).set 58 (.int 0)).set 67 (.int 0)).set 59 (.int 0)).set 70 (.int 0)) ∧ ∀ j, u.2.1 j = if j < 7 then fmsk (7 + j) else fmsk j) (fun (u : (List Value) × (Nat → Int32) × (Nat → Int32) × (Nat → Int32) × (Nat → Int32) × (Nat → Int32) × (Nat → Int32) × (Nat → Int32) × (Nat → Int64) × (Nat → Int64) × (Nat → Int32) × (Nat → Int64) × (Nat → Int32) × (Nat → Int32) × (Nat → Int32) × (Nat → Int32) × (Nat → Int32) × (Nat → Int32)) t => va_P (dC, dI) vwCl [(mq, .inr (12, u.1)), (msk, .inl (cmsk, 14, .inl u.2.1)), (mln, .inl (cmln, 8, .inl u.2.2.1)), (mlh, .inl (cmlh, 24, .inl u.2.2.2.1)), (mfn, .inl (cmfn, 8, .inl u.2.2.2.2.1)), (mfi, .inl (cmfi, 8, .inl u.2.2.2.2.2.1)), (mla, .inl (cmla, 8, .inl u.2.2.2.2.2.2.1)), (mpn, .inl (cmpn, 12, .inl u.2.2.2.2.2.2.2.1)), (mbo, .inl (cmbo, 12, .inr (.inl u.2.2.2.2.2.2.2.2.1))), (mdi, .inl (cmdi, 12, .inr (.inl u.2.2.2.2.2.2.2.2.2.1))), (mdn, .inl (cmdn, 8, .inl u.2.2.2.2.2.2.2.2.2.2.1)), (mdo, .inl (cmdo, 8, .inr (.inl u.2.2.2.2.2.2.2.2.2.2.2.1))), (mdh, .inl (cmdh, 24, .inl u.2.2.2.2.2.2.2.2.2.2.2.2.1)), (mnn, .inl (cmnn, 12, .inl u.2.2.2.2.2.2.2.2.2.2.2.2.2.1)), (mnh, .inl (cmnh, 264, .inl u.2.2.2.2.2.2.2.2.2.2.2.2.2.2.1)), (mkn, .inl (cmkn, 128, .inl u.2.2.2.2.2.2.2.2.2.2.2.2.2.2.2.1)), (mpt, .inl (cmpt, 128, .inl u.2.2.2.2.2.2.2.2.2.2.2.2.2.2.2.2.1)), (mot, .inl (cmot, 128, .inl u.2.2.2.2.2.2.2.2.2.2.2.2.2.2.2.2.2))] t.heap ∧ va_K (dC, dI) vwCl [] t ∧ va_D (va_A [(mq, .inr (12, fs)), (msk, .inl (cmsk, 14, .inl fmsk)), (mln, .inl (cmln, 8, .inl fmln)), (mlh, .inl (cmlh, 24, .inl fmlh)), (mfn, .inl (cmfn, 8, .inl fmfn)), (mfi, .inl (cmfi, 8, .inl fmfi)), (mla, .inl (cmla, 8, .inl fmla)), (mpn, .inl (cmpn, 12, .inl fmpn)), (mbo, .inl (cmbo, 12, .inr (.inl fmbo))), (mdi, .inl (cmdi, 12, .inr (.inl fmdi))), (mdn, .inl (cmdn, 8, .inl fmdn)), (mdo, .inl (cmdo, 8, .inr (.inl fmdo))), (mdh, .inl (cmdh, 24, .inl fmdh)), (mnn, .inl (cmnn, 12, .inl fmnn)), (mnh, .inl (cmnh, 264, .inl fmnh)), (mkn, .inl (cmkn, 128, .inl fmkn)), (mpt, .inl (cmpt, 128, .inl fmpt)), (mot, .inl (cmot, 128, .inl fmot))] sz) [(mq, .inr (12, u.1)), (msk, .inl (cmsk, 14, .inl u.2.1)), (mln, .inl (cmln, 8, .inl u.2.2.1)), (mlh, .inl (cmlh, 24, .inl u.2.2.2.1)), (mfn, .inl (cmfn, 8, .inl u.2.2.2.2.1)), (mfi, .inl (cmfi, 8, .inl u.2.2.2.2.2.1)), (mla, .inl (cmla, 8, .inl u.2.2.2.2.2.2.1)), (mpn, .inl (cmpn, 12, .inl u.2.2.2.2.2.2.2.1)), (mbo, .inl (cmbo, 12, .inr (.inl u.2.2.2.2.2.2.2.2.1))), (mdi, .inl (cmdi, 12, .inr (.inl u.2.2.2.2.2.2.2.2.2.1))), (mdn, .inl (cmdn, 8, .inl u.2.2.2.2.2.2.2.2.2.2.1)), (mdo, .inl (cmdo, 8, .inr (.inl u.2.2.2.2.2.2.2.2.2.2.2.1))), (mdh, .inl (cmdh, 24, .inl u.2.2.2.2.2.2.2.2.2.2.2.2.1)), (mnn, .inl (cmnn, 12, .inl u.2.2.2.2.2.2.2.2.2.2.2.2.2.1)), (mnh, .inl (cmnh, 264, .inl u.2.2.2.2.2.2.2.2.2.2.2.2.2.2.1)), (mkn, .inl (cmkn, 128, .inl u.2.2.2.2.2.2.2.2.2.2.2.2.2.2.2.1)), (mpt, .inl (cmpt, 128, .inl u.2.2.2.2.2.2.2.2.2.2.2.2.2.2.2.2.1)), (mot, .inl (cmot, 128, .inl u.2.2.2.2.2.2.2.2.2.2.2.2.2.2.2.2.2))]) (va_A [(mq, .inr (12, fs)), (msk, .inl (cmsk, 14, .inl fmsk)), (mln, .inl (cmln, 8, .inl fmln)), (mlh, .inl (cmlh, 24, .inl fmlh)), (mfn, .inl (cmfn, 8, .inl fmfn)), (mfi, .inl (cmfi, 8, .inl fmfi)), (mla, .inl (cmla, 8, .inl fmla)), (mpn, .inl (cmpn, 12, .inl fmpn)), (mbo, .inl (cmbo, 12, .inr (.inl fmbo))), (mdi, .inl (cmdi, 12, .inr (.inl fmdi))), (mdn, .inl (cmdn, 8, .inl fmdn)), (mdo, .inl (cmdo, 8, .inr (.inl fmdo))), (mdh, .inl (cmdh, 24, .inl fmdh)), (mnn, .inl (cmnn, 12, .inl fmnn)), (mnh, .inl (cmnh, 264, .inl fmnh)), (mkn, .inl (cmkn, 128, .inl fmkn)), (mpt, .inl (cmpt, 128, .inl fmpt)), (mot, .inl (cmot, 128, .inl fmot))] sz)) 0 0 (va_A [(mq, .inr (12, fs)), (msk, .inl (cmsk, 14, .inl fmsk)), (mln, .inl (cmln, 8, .inl fmln)), (mlh, .inl (cmlh, 24, .inl fmlh)), (mfn, .inl (cmfn, 8, .inl fmfn)), (mfi, .inl (cmfi, 8, .inl fmfi)), (mla, .inl (cmla, 8, .inl fmla)), (mpn, .inl (cmpn, 12, .inl fmpn)), (mbo, .inl (cmbo, 12, .inr (.inl fmbo))), (mdi, .inl (cmdi, 12, .inr (.inl fmdi))), (mdn, .inl (cmdn, 8, .inl fmdn)), (mdo, .inl (cmdo, 8, .inr (.inl fmdo))), (mdh, .inl (cmdh, 24, .inl fmdh)), (mnn, .inl (cmnn, 12, .inl fmnn)), (mnh, .inl (cmnh, 264, .inl fmnh)), (mkn, .inl (cmkn, 128, .inl fmkn)), (mpt, .inl (cmpt, 128, .inl fmpt)), (mot, .inl (cmot, 128, .inl fmot))] sz) := by
  refine Met.ofW (cc := cX12_keepText) (maxL := 1) (ret := none) (by decide) rfl ?_
  intro p e s m args below meth c s₁ B hml hv
  obtain ⟨rfl, hsz, hP, hK, hD0⟩ := hv
  have hx := B.exec
  have hb := B.bytes
  have hr := B.returns
  have hts := atoms_spec (ws := Cond.code yX12_keepText cX12_keepText 1 none :: wsL_law) B.pre
  have htw : ∀ w ∈ wsL_law, w.before _ s = true := fun w h => hts w (List.mem_cons_of_mem _ h)
  have hown : s.vm.findClass RX12 = some m.cls := findClass_of_methodNamed B.named
  have hlocks := B.notSynchronized
  subst hsz
  have hD := hD0.self (sz := s.heap.size)
  generalize hAe : va_A [(mq, .inr (12, fs)), (msk, .inl (cmsk, 14, .inl fmsk)), (mln, .inl (cmln, 8, .inl fmln)), (mlh, .inl (cmlh, 24, .inl fmlh)), (mfn, .inl (cmfn, 8, .inl fmfn)), (mfi, .inl (cmfi, 8, .inl fmfi)), (mla, .inl (cmla, 8, .inl fmla)), (mpn, .inl (cmpn, 12, .inl fmpn)), (mbo, .inl (cmbo, 12, .inr (.inl fmbo))), (mdi, .inl (cmdi, 12, .inr (.inl fmdi))), (mdn, .inl (cmdn, 8, .inl fmdn)), (mdo, .inl (cmdo, 8, .inr (.inl fmdo))), (mdh, .inl (cmdh, 24, .inl fmdh)), (mnn, .inl (cmnn, 12, .inl fmnn)), (mnh, .inl (cmnh, 264, .inl fmnh)), (mkn, .inl (cmkn, 128, .inl fmkn)), (mpt, .inl (cmpt, 128, .inl fmpt)), (mot, .inl (cmot, 128, .inl fmot))] s.heap.size = A at hD ⊢
  have hA : ∀ q : Nat, s.heap.size ≤ q → A q := fun q h => by rw [← hAe]; exact Or.inr h
  obtain ⟨H, rH⟩ : ∃ z : Heap, z = s.heap := ⟨_, rfl⟩
  have hS : va_S A s.heap H [] := by rw [rH]; exact va_S.rf
  have hP : va_P (dC, dI) vwCl [(mq, .inr (12, fs)), (msk, .inl (cmsk, 14, .inl fmsk)), (mln, .inl (cmln, 8, .inl fmln)), (mlh, .inl (cmlh, 24, .inl fmlh)), (mfn, .inl (cmfn, 8, .inl fmfn)), (mfi, .inl (cmfi, 8, .inl fmfi)), (mla, .inl (cmla, 8, .inl fmla)), (mpn, .inl (cmpn, 12, .inl fmpn)), (mbo, .inl (cmbo, 12, .inr (.inl fmbo))), (mdi, .inl (cmdi, 12, .inr (.inl fmdi))), (mdn, .inl (cmdn, 8, .inl fmdn)), (mdo, .inl (cmdo, 8, .inr (.inl fmdo))), (mdh, .inl (cmdh, 24, .inl fmdh)), (mnn, .inl (cmnn, 12, .inl fmnn)), (mnh, .inl (cmnh, 264, .inl fmnh)), (mkn, .inl (cmkn, 128, .inl fmkn)), (mpt, .inl (cmpt, 128, .inl fmpt)), (mot, .inl (cmot, 128, .inl fmot))] H := by rw [rH]; exact hP
  rw [← rH]
  have hl := lv_entry ([.ref mq]) (n := 1) (Nat.le_of_ble_eq_true rfl)
  rw [lg_entry_eq]
  generalize (lg_sl ([.ref mq]) ++ List.replicate (1 - (lg_sl ([.ref mq])).length) Slot.unset).toArray = ls at hl ⊢
  have hl : lv_has ls 1 [(0, .ref mq)] := hl
  refine lv_aload_n hx hb dX12_keepText_0 rfl (lv_at hl 0 rfl) ?_
  refine lv_aload_n hx hb dX12_keepText_1 rfl (lv_at hl 0 rfl) ?_
  refine va_get (D := (dC, dI)) (ci := 12) (v := .int 0) (C := RX12) (T := TX12) (N := 76) hx hb htw inlX12 hown hK hP 0 rfl rfl 18 (by decide) (htw _ (ck_10 _ (List.mem_of_getElem? (i := 19) rfl))) (fun _ h9 => h9) hf18 dX12_keepText_2 ?_
  refine va_put (D := (dC, dI)) (ci := 12) (v := .int 0) (ty := tyX12 12) (C := RX12) (T := TX12) (N := 76) hx hb htw inlX12 tyX12 tyX12_ok nmX12 hown hK hP hD hS 0 rfl rfl 12 (by decide) (htw _ (ck_11 _ (List.mem_of_getElem? (i := 9) rfl))) (fun _ h9 => h9) rfl (by decide +kernel) rfl rfl (by rw [hlen]; decide) dX12_keepText_5 (fun H locs hP hD hS => ?_)
  obtain ⟨fs_1, efs_1⟩ : ∃ g : List Value, g = (fs).set 12 (.int 0) := ⟨_, rfl⟩
  have hlen_2 : fs_1.length = 76 := by rw [efs_1, List.length_set]; exact hlen
  have hf_3 : fs_1[18]? = some (.int 0) := by rw [efs_1, List.getElem?_set_ne (by decide)]; exact hf18
  have hf_4 : fs_1[19]? = some (.int 0) := by rw [efs_1, List.getElem?_set_ne (by decide)]; exact hf19
  have hf_5 : fs_1[20]? = some (.int 0) := by rw [efs_1, List.getElem?_set_ne (by decide)]; exact hf20
  have hf_6 : fs_1[21]? = some (.int 0) := by rw [efs_1, List.getElem?_set_ne (by decide)]; exact hf21
  have hf_7 : fs_1[22]? = some (.int 0) := by rw [efs_1, List.getElem?_set_ne (by decide)]; exact hf22
  have hf_8 : fs_1[23]? = some (.int 0) := by rw [efs_1, List.getElem?_set_ne (by decide)]; exact hf23
  have hf_9 : fs_1[24]? = some (.ref msk) := by rw [efs_1, List.getElem?_set_ne (by decide)]; exact hf24
  have hf_10 : fs_1[28]? = some (.ref mln) := by rw [efs_1, List.getElem?_set_ne (by decide)]; exact hf28
  have hf_11 : fs_1[29]? = some (.ref mlh) := by rw [efs_1, List.getElem?_set_ne (by decide)]; exact hf29
  have hf_12 : fs_1[30]? = some (.ref mfn) := by rw [efs_1, List.getElem?_set_ne (by decide)]; exact hf30
  have hf_13 : fs_1[31]? = some (.ref mfi) := by rw [efs_1, List.getElem?_set_ne (by decide)]; exact hf31
  have hf_14 : fs_1[32]? = some (.ref mla) := by rw [efs_1, List.getElem?_set_ne (by decide)]; exact hf32
  have hf_15 : fs_1[33]? = some (.ref mpn) := by rw [efs_1, List.getElem?_set_ne (by decide)]; exact hf33
  have hf_16 : fs_1[34]? = some (.ref mbo) := by rw [efs_1, List.getElem?_set_ne (by decide)]; exact hf34
  have hf_17 : fs_1[35]? = some (.ref mdi) := by rw [efs_1, List.getElem?_set_ne (by decide)]; exact hf35
  have hf_18 : fs_1[36]? = some (.ref mdn) := by rw [efs_1, List.getElem?_set_ne (by decide)]; exact hf36
  have hf_19 : fs_1[37]? = some (.ref mdo) := by rw [efs_1, List.getElem?_set_ne (by decide)]; exact hf37
  have hf_20 : fs_1[38]? = some (.ref mdh) := by rw [efs_1, List.getElem?_set_ne (by decide)]; exact hf38
  have hf_21 : fs_1[39]? = some (.ref mnn) := by rw [efs_1, List.getElem?_set_ne (by decide)]; exact hf39
  have hf_22 : fs_1[40]? = some (.ref mnh) := by rw [efs_1, List.getElem?_set_ne (by decide)]; exact hf40
  have hf_23 : fs_1[41]? = some (.ref mkn) := by rw [efs_1, List.getElem?_set_ne (by decide)]; exact hf41
  have hf_24 : fs_1[42]? = some (.ref mpt) := by rw [efs_1, List.getElem?_set_ne (by decide)]; exact hf42
  have hf_25 : fs_1[43]? = some (.ref mot) := by rw [efs_1, List.getElem?_set_ne (by decide)]; exact hf43
  have hf_26 : fs_1[12]? = some (.int 0) := by rw [efs_1]; exact List.getElem?_set_self (by rw [hlen]; decide)
  rw [← efs_1] at hP hD
  have hP : va_P (dC, dI) vwCl [(mq, .inr (12, fs_1)), (msk, .inl (cmsk, 14, .inl fmsk)), (mln, .inl (cmln, 8, .inl fmln)), (mlh, .inl (cmlh, 24, .inl fmlh)), (mfn, .inl (cmfn, 8, .inl fmfn)), (mfi, .inl (cmfi, 8, .inl fmfi)), (mla, .inl (cmla, 8, .inl fmla)), (mpn, .inl (cmpn, 12, .inl fmpn)), (mbo, .inl (cmbo, 12, .inr (.inl fmbo))), (mdi, .inl (cmdi, 12, .inr (.inl fmdi))), (mdn, .inl (cmdn, 8, .inl fmdn)), (mdo, .inl (cmdo, 8, .inr (.inl fmdo))), (mdh, .inl (cmdh, 24, .inl fmdh)), (mnn, .inl (cmnn, 12, .inl fmnn)), (mnh, .inl (cmnh, 264, .inl fmnh)), (mkn, .inl (cmkn, 128, .inl fmkn)), (mpt, .inl (cmpt, 128, .inl fmpt)), (mot, .inl (cmot, 128, .inl fmot))] H := hP
  have hD : va_D A [(mq, .inr (12, fs_1)), (msk, .inl (cmsk, 14, .inl fmsk)), (mln, .inl (cmln, 8, .inl fmln)), (mlh, .inl (cmlh, 24, .inl fmlh)), (mfn, .inl (cmfn, 8, .inl fmfn)), (mfi, .inl (cmfi, 8, .inl fmfi)), (mla, .inl (cmla, 8, .inl fmla)), (mpn, .inl (cmpn, 12, .inl fmpn)), (mbo, .inl (cmbo, 12, .inr (.inl fmbo))), (mdi, .inl (cmdi, 12, .inr (.inl fmdi))), (mdn, .inl (cmdn, 8, .inl fmdn)), (mdo, .inl (cmdo, 8, .inr (.inl fmdo))), (mdh, .inl (cmdh, 24, .inl fmdh)), (mnn, .inl (cmnn, 12, .inl fmnn)), (mnh, .inl (cmnh, 264, .inl fmnh)), (mkn, .inl (cmkn, 128, .inl fmkn)), (mpt, .inl (cmpt, 128, .inl fmpt)), (mot, .inl (cmot, 128, .inl fmot))] := hD
  refine lv_aload_n hx hb dX12_keepText_8 rfl (lv_at hl 0 rfl) ?_
  refine lv_aload_n hx hb dX12_keepText_9 rfl (lv_at hl 0 rfl) ?_
  refine va_get (D := (dC, dI)) (ci := 12) (v := .int 0) (C := RX12) (T := TX12) (N := 76) hx hb htw inlX12 hown hK hP 0 rfl rfl 19 (by decide) (htw _ (ck_10 _ (List.mem_of_getElem? (i := 20) rfl))) (fun _ h9 => h9) hf_4 dX12_keepText_10 ?_
  refine va_put (D := (dC, dI)) (ci := 12) (v := .int 0) (ty := tyX12 13) (C := RX12) (T := TX12) (N := 76) hx hb htw inlX12 tyX12 tyX12_ok nmX12 hown hK hP hD hS 0 rfl rfl 13 (by decide) (htw _ (ck_11 _ (List.mem_of_getElem? (i := 10) rfl))) (fun _ h9 => h9) rfl (by decide +kernel) rfl rfl (by rw [hlen_2]; decide) dX12_keepText_13 (fun H locs hP hD hS => ?_)
  obtain ⟨fs_27, efs_27⟩ : ∃ g : List Value, g = (fs_1).set 13 (.int 0) := ⟨_, rfl⟩
  have hlen_28 : fs_27.length = 76 := by rw [efs_27, List.length_set]; exact hlen_2
  have hf_29 : fs_27[18]? = some (.int 0) := by rw [efs_27, List.getElem?_set_ne (by decide)]; exact hf_3
  have hf_30 : fs_27[19]? = some (.int 0) := by rw [efs_27, List.getElem?_set_ne (by decide)]; exact hf_4
  have hf_31 : fs_27[20]? = some (.int 0) := by rw [efs_27, List.getElem?_set_ne (by decide)]; exact hf_5
  have hf_32 : fs_27[21]? = some (.int 0) := by rw [efs_27, List.getElem?_set_ne (by decide)]; exact hf_6
  have hf_33 : fs_27[22]? = some (.int 0) := by rw [efs_27, List.getElem?_set_ne (by decide)]; exact hf_7
  have hf_34 : fs_27[23]? = some (.int 0) := by rw [efs_27, List.getElem?_set_ne (by decide)]; exact hf_8
  have hf_35 : fs_27[24]? = some (.ref msk) := by rw [efs_27, List.getElem?_set_ne (by decide)]; exact hf_9
  have hf_36 : fs_27[28]? = some (.ref mln) := by rw [efs_27, List.getElem?_set_ne (by decide)]; exact hf_10
  have hf_37 : fs_27[29]? = some (.ref mlh) := by rw [efs_27, List.getElem?_set_ne (by decide)]; exact hf_11
  have hf_38 : fs_27[30]? = some (.ref mfn) := by rw [efs_27, List.getElem?_set_ne (by decide)]; exact hf_12
  have hf_39 : fs_27[31]? = some (.ref mfi) := by rw [efs_27, List.getElem?_set_ne (by decide)]; exact hf_13
  have hf_40 : fs_27[32]? = some (.ref mla) := by rw [efs_27, List.getElem?_set_ne (by decide)]; exact hf_14
  have hf_41 : fs_27[33]? = some (.ref mpn) := by rw [efs_27, List.getElem?_set_ne (by decide)]; exact hf_15
  have hf_42 : fs_27[34]? = some (.ref mbo) := by rw [efs_27, List.getElem?_set_ne (by decide)]; exact hf_16
  have hf_43 : fs_27[35]? = some (.ref mdi) := by rw [efs_27, List.getElem?_set_ne (by decide)]; exact hf_17
  have hf_44 : fs_27[36]? = some (.ref mdn) := by rw [efs_27, List.getElem?_set_ne (by decide)]; exact hf_18
  have hf_45 : fs_27[37]? = some (.ref mdo) := by rw [efs_27, List.getElem?_set_ne (by decide)]; exact hf_19
  have hf_46 : fs_27[38]? = some (.ref mdh) := by rw [efs_27, List.getElem?_set_ne (by decide)]; exact hf_20
  have hf_47 : fs_27[39]? = some (.ref mnn) := by rw [efs_27, List.getElem?_set_ne (by decide)]; exact hf_21
  have hf_48 : fs_27[40]? = some (.ref mnh) := by rw [efs_27, List.getElem?_set_ne (by decide)]; exact hf_22
  have hf_49 : fs_27[41]? = some (.ref mkn) := by rw [efs_27, List.getElem?_set_ne (by decide)]; exact hf_23
  have hf_50 : fs_27[42]? = some (.ref mpt) := by rw [efs_27, List.getElem?_set_ne (by decide)]; exact hf_24
  have hf_51 : fs_27[43]? = some (.ref mot) := by rw [efs_27, List.getElem?_set_ne (by decide)]; exact hf_25
  have hf_52 : fs_27[12]? = some (.int 0) := by rw [efs_27, List.getElem?_set_ne (by decide)]; exact hf_26
  have hf_53 : fs_27[13]? = some (.int 0) := by rw [efs_27]; exact List.getElem?_set_self (by rw [hlen_2]; decide)
  rw [← efs_27] at hP hD
  have hP : va_P (dC, dI) vwCl [(mq, .inr (12, fs_27)), (msk, .inl (cmsk, 14, .inl fmsk)), (mln, .inl (cmln, 8, .inl fmln)), (mlh, .inl (cmlh, 24, .inl fmlh)), (mfn, .inl (cmfn, 8, .inl fmfn)), (mfi, .inl (cmfi, 8, .inl fmfi)), (mla, .inl (cmla, 8, .inl fmla)), (mpn, .inl (cmpn, 12, .inl fmpn)), (mbo, .inl (cmbo, 12, .inr (.inl fmbo))), (mdi, .inl (cmdi, 12, .inr (.inl fmdi))), (mdn, .inl (cmdn, 8, .inl fmdn)), (mdo, .inl (cmdo, 8, .inr (.inl fmdo))), (mdh, .inl (cmdh, 24, .inl fmdh)), (mnn, .inl (cmnn, 12, .inl fmnn)), (mnh, .inl (cmnh, 264, .inl fmnh)), (mkn, .inl (cmkn, 128, .inl fmkn)), (mpt, .inl (cmpt, 128, .inl fmpt)), (mot, .inl (cmot, 128, .inl fmot))] H := hP
  have hD : va_D A [(mq, .inr (12, fs_27)), (msk, .inl (cmsk, 14, .inl fmsk)), (mln, .inl (cmln, 8, .inl fmln)), (mlh, .inl (cmlh, 24, .inl fmlh)), (mfn, .inl (cmfn, 8, .inl fmfn)), (mfi, .inl (cmfi, 8, .inl fmfi)), (mla, .inl (cmla, 8, .inl fmla)), (mpn, .inl (cmpn, 12, .inl fmpn)), (mbo, .inl (cmbo, 12, .inr (.inl fmbo))), (mdi, .inl (cmdi, 12, .inr (.inl fmdi))), (mdn, .inl (cmdn, 8, .inl fmdn)), (mdo, .inl (cmdo, 8, .inr (.inl fmdo))), (mdh, .inl (cmdh, 24, .inl fmdh)), (mnn, .inl (cmnn, 12, .inl fmnn)), (mnh, .inl (cmnh, 264, .inl fmnh)), (mkn, .inl (cmkn, 128, .inl fmkn)), (mpt, .inl (cmpt, 128, .inl fmpt)), (mot, .inl (cmot, 128, .inl fmot))] := hD
  refine lv_aload_n hx hb dX12_keepText_16 rfl (lv_at hl 0 rfl) ?_
  refine lv_aload_n hx hb dX12_keepText_17 rfl (lv_at hl 0 rfl) ?_
  refine va_get (D := (dC, dI)) (ci := 12) (v := .int 0) (C := RX12) (T := TX12) (N := 76) hx hb htw inlX12 hown hK hP 0 rfl rfl 20 (by decide) (htw _ (ck_10 _ (List.mem_of_getElem? (i := 21) rfl))) (fun _ h9 => h9) hf_31 dX12_keepText_18 ?_
  refine va_put (D := (dC, dI)) (ci := 12) (v := .int 0) (ty := tyX12 14) (C := RX12) (T := TX12) (N := 76) hx hb htw inlX12 tyX12 tyX12_ok nmX12 hown hK hP hD hS 0 rfl rfl 14 (by decide) (htw _ (ck_11 _ (List.mem_of_getElem? (i := 11) rfl))) (fun _ h9 => h9) rfl (by decide +kernel) rfl rfl (by rw [hlen_28]; decide) dX12_keepText_21 (fun H locs hP hD hS => ?_)
  obtain ⟨fs_54, efs_54⟩ : ∃ g : List Value, g = (fs_27).set 14 (.int 0) := ⟨_, rfl⟩
  have hlen_55 : fs_54.length = 76 := by rw [efs_54, List.length_set]; exact hlen_28
  have hf_56 : fs_54[18]? = some (.int 0) := by rw [efs_54, List.getElem?_set_ne (by decide)]; exact hf_29
  have hf_57 : fs_54[19]? = some (.int 0) := by rw [efs_54, List.getElem?_set_ne (by decide)]; exact hf_30
  have hf_58 : fs_54[20]? = some (.int 0) := by rw [efs_54, List.getElem?_set_ne (by decide)]; exact hf_31
  have hf_59 : fs_54[21]? = some (.int 0) := by rw [efs_54, List.getElem?_set_ne (by decide)]; exact hf_32
  have hf_60 : fs_54[22]? = some (.int 0) := by rw [efs_54, List.getElem?_set_ne (by decide)]; exact hf_33
  have hf_61 : fs_54[23]? = some (.int 0) := by rw [efs_54, List.getElem?_set_ne (by decide)]; exact hf_34
  have hf_62 : fs_54[24]? = some (.ref msk) := by rw [efs_54, List.getElem?_set_ne (by decide)]; exact hf_35
  have hf_63 : fs_54[28]? = some (.ref mln) := by rw [efs_54, List.getElem?_set_ne (by decide)]; exact hf_36
  have hf_64 : fs_54[29]? = some (.ref mlh) := by rw [efs_54, List.getElem?_set_ne (by decide)]; exact hf_37
  have hf_65 : fs_54[30]? = some (.ref mfn) := by rw [efs_54, List.getElem?_set_ne (by decide)]; exact hf_38
  have hf_66 : fs_54[31]? = some (.ref mfi) := by rw [efs_54, List.getElem?_set_ne (by decide)]; exact hf_39
  have hf_67 : fs_54[32]? = some (.ref mla) := by rw [efs_54, List.getElem?_set_ne (by decide)]; exact hf_40
  have hf_68 : fs_54[33]? = some (.ref mpn) := by rw [efs_54, List.getElem?_set_ne (by decide)]; exact hf_41
  have hf_69 : fs_54[34]? = some (.ref mbo) := by rw [efs_54, List.getElem?_set_ne (by decide)]; exact hf_42
  have hf_70 : fs_54[35]? = some (.ref mdi) := by rw [efs_54, List.getElem?_set_ne (by decide)]; exact hf_43
  have hf_71 : fs_54[36]? = some (.ref mdn) := by rw [efs_54, List.getElem?_set_ne (by decide)]; exact hf_44
  have hf_72 : fs_54[37]? = some (.ref mdo) := by rw [efs_54, List.getElem?_set_ne (by decide)]; exact hf_45
  have hf_73 : fs_54[38]? = some (.ref mdh) := by rw [efs_54, List.getElem?_set_ne (by decide)]; exact hf_46
  have hf_74 : fs_54[39]? = some (.ref mnn) := by rw [efs_54, List.getElem?_set_ne (by decide)]; exact hf_47
  have hf_75 : fs_54[40]? = some (.ref mnh) := by rw [efs_54, List.getElem?_set_ne (by decide)]; exact hf_48
  have hf_76 : fs_54[41]? = some (.ref mkn) := by rw [efs_54, List.getElem?_set_ne (by decide)]; exact hf_49
  have hf_77 : fs_54[42]? = some (.ref mpt) := by rw [efs_54, List.getElem?_set_ne (by decide)]; exact hf_50
  have hf_78 : fs_54[43]? = some (.ref mot) := by rw [efs_54, List.getElem?_set_ne (by decide)]; exact hf_51
  have hf_79 : fs_54[12]? = some (.int 0) := by rw [efs_54, List.getElem?_set_ne (by decide)]; exact hf_52
  have hf_80 : fs_54[13]? = some (.int 0) := by rw [efs_54, List.getElem?_set_ne (by decide)]; exact hf_53
  have hf_81 : fs_54[14]? = some (.int 0) := by rw [efs_54]; exact List.getElem?_set_self (by rw [hlen_28]; decide)
  rw [← efs_54] at hP hD
  have hP : va_P (dC, dI) vwCl [(mq, .inr (12, fs_54)), (msk, .inl (cmsk, 14, .inl fmsk)), (mln, .inl (cmln, 8, .inl fmln)), (mlh, .inl (cmlh, 24, .inl fmlh)), (mfn, .inl (cmfn, 8, .inl fmfn)), (mfi, .inl (cmfi, 8, .inl fmfi)), (mla, .inl (cmla, 8, .inl fmla)), (mpn, .inl (cmpn, 12, .inl fmpn)), (mbo, .inl (cmbo, 12, .inr (.inl fmbo))), (mdi, .inl (cmdi, 12, .inr (.inl fmdi))), (mdn, .inl (cmdn, 8, .inl fmdn)), (mdo, .inl (cmdo, 8, .inr (.inl fmdo))), (mdh, .inl (cmdh, 24, .inl fmdh)), (mnn, .inl (cmnn, 12, .inl fmnn)), (mnh, .inl (cmnh, 264, .inl fmnh)), (mkn, .inl (cmkn, 128, .inl fmkn)), (mpt, .inl (cmpt, 128, .inl fmpt)), (mot, .inl (cmot, 128, .inl fmot))] H := hP
  have hD : va_D A [(mq, .inr (12, fs_54)), (msk, .inl (cmsk, 14, .inl fmsk)), (mln, .inl (cmln, 8, .inl fmln)), (mlh, .inl (cmlh, 24, .inl fmlh)), (mfn, .inl (cmfn, 8, .inl fmfn)), (mfi, .inl (cmfi, 8, .inl fmfi)), (mla, .inl (cmla, 8, .inl fmla)), (mpn, .inl (cmpn, 12, .inl fmpn)), (mbo, .inl (cmbo, 12, .inr (.inl fmbo))), (mdi, .inl (cmdi, 12, .inr (.inl fmdi))), (mdn, .inl (cmdn, 8, .inl fmdn)), (mdo, .inl (cmdo, 8, .inr (.inl fmdo))), (mdh, .inl (cmdh, 24, .inl fmdh)), (mnn, .inl (cmnn, 12, .inl fmnn)), (mnh, .inl (cmnh, 264, .inl fmnh)), (mkn, .inl (cmkn, 128, .inl fmkn)), (mpt, .inl (cmpt, 128, .inl fmpt)), (mot, .inl (cmot, 128, .inl fmot))] := hD
  refine lv_aload_n hx hb dX12_keepText_24 rfl (lv_at hl 0 rfl) ?_
  refine lv_aload_n hx hb dX12_keepText_25 rfl (lv_at hl 0 rfl) ?_
  refine va_get (D := (dC, dI)) (ci := 12) (v := .int 0) (C := RX12) (T := TX12) (N := 76) hx hb htw inlX12 hown hK hP 0 rfl rfl 21 (by decide) (htw _ (ck_10 _ (List.mem_of_getElem? (i := 22) rfl))) (fun _ h9 => h9) hf_59 dX12_keepText_26 ?_
  refine va_put (D := (dC, dI)) (ci := 12) (v := .int 0) (ty := tyX12 15) (C := RX12) (T := TX12) (N := 76) hx hb htw inlX12 tyX12 tyX12_ok nmX12 hown hK hP hD hS 0 rfl rfl 15 (by decide) (htw _ (ck_11 _ (List.mem_of_getElem? (i := 12) rfl))) (fun _ h9 => h9) rfl (by decide +kernel) rfl rfl (by rw [hlen_55]; decide) dX12_keepText_29 (fun H locs hP hD hS => ?_)
  obtain ⟨fs_82, efs_82⟩ : ∃ g : List Value, g = (fs_54).set 15 (.int 0) := ⟨_, rfl⟩
  have hlen_83 : fs_82.length = 76 := by rw [efs_82, List.length_set]; exact hlen_55
  have hf_84 : fs_82[18]? = some (.int 0) := by rw [efs_82, List.getElem?_set_ne (by decide)]; exact hf_56
  have hf_85 : fs_82[19]? = some (.int 0) := by rw [efs_82, List.getElem?_set_ne (by decide)]; exact hf_57
  have hf_86 : fs_82[20]? = some (.int 0) := by rw [efs_82, List.getElem?_set_ne (by decide)]; exact hf_58
  have hf_87 : fs_82[21]? = some (.int 0) := by rw [efs_82, List.getElem?_set_ne (by decide)]; exact hf_59
  have hf_88 : fs_82[22]? = some (.int 0) := by rw [efs_82, List.getElem?_set_ne (by decide)]; exact hf_60
  have hf_89 : fs_82[23]? = some (.int 0) := by rw [efs_82, List.getElem?_set_ne (by decide)]; exact hf_61
  have hf_90 : fs_82[24]? = some (.ref msk) := by rw [efs_82, List.getElem?_set_ne (by decide)]; exact hf_62
  have hf_91 : fs_82[28]? = some (.ref mln) := by rw [efs_82, List.getElem?_set_ne (by decide)]; exact hf_63
  have hf_92 : fs_82[29]? = some (.ref mlh) := by rw [efs_82, List.getElem?_set_ne (by decide)]; exact hf_64
  have hf_93 : fs_82[30]? = some (.ref mfn) := by rw [efs_82, List.getElem?_set_ne (by decide)]; exact hf_65
  have hf_94 : fs_82[31]? = some (.ref mfi) := by rw [efs_82, List.getElem?_set_ne (by decide)]; exact hf_66
  have hf_95 : fs_82[32]? = some (.ref mla) := by rw [efs_82, List.getElem?_set_ne (by decide)]; exact hf_67
  have hf_96 : fs_82[33]? = some (.ref mpn) := by rw [efs_82, List.getElem?_set_ne (by decide)]; exact hf_68
  have hf_97 : fs_82[34]? = some (.ref mbo) := by rw [efs_82, List.getElem?_set_ne (by decide)]; exact hf_69
  have hf_98 : fs_82[35]? = some (.ref mdi) := by rw [efs_82, List.getElem?_set_ne (by decide)]; exact hf_70
  have hf_99 : fs_82[36]? = some (.ref mdn) := by rw [efs_82, List.getElem?_set_ne (by decide)]; exact hf_71
  have hf_100 : fs_82[37]? = some (.ref mdo) := by rw [efs_82, List.getElem?_set_ne (by decide)]; exact hf_72
  have hf_101 : fs_82[38]? = some (.ref mdh) := by rw [efs_82, List.getElem?_set_ne (by decide)]; exact hf_73
  have hf_102 : fs_82[39]? = some (.ref mnn) := by rw [efs_82, List.getElem?_set_ne (by decide)]; exact hf_74
  have hf_103 : fs_82[40]? = some (.ref mnh) := by rw [efs_82, List.getElem?_set_ne (by decide)]; exact hf_75
  have hf_104 : fs_82[41]? = some (.ref mkn) := by rw [efs_82, List.getElem?_set_ne (by decide)]; exact hf_76
  have hf_105 : fs_82[42]? = some (.ref mpt) := by rw [efs_82, List.getElem?_set_ne (by decide)]; exact hf_77
  have hf_106 : fs_82[43]? = some (.ref mot) := by rw [efs_82, List.getElem?_set_ne (by decide)]; exact hf_78
  have hf_107 : fs_82[12]? = some (.int 0) := by rw [efs_82, List.getElem?_set_ne (by decide)]; exact hf_79
  have hf_108 : fs_82[13]? = some (.int 0) := by rw [efs_82, List.getElem?_set_ne (by decide)]; exact hf_80
  have hf_109 : fs_82[14]? = some (.int 0) := by rw [efs_82, List.getElem?_set_ne (by decide)]; exact hf_81
  have hf_110 : fs_82[15]? = some (.int 0) := by rw [efs_82]; exact List.getElem?_set_self (by rw [hlen_55]; decide)
  rw [← efs_82] at hP hD
  have hP : va_P (dC, dI) vwCl [(mq, .inr (12, fs_82)), (msk, .inl (cmsk, 14, .inl fmsk)), (mln, .inl (cmln, 8, .inl fmln)), (mlh, .inl (cmlh, 24, .inl fmlh)), (mfn, .inl (cmfn, 8, .inl fmfn)), (mfi, .inl (cmfi, 8, .inl fmfi)), (mla, .inl (cmla, 8, .inl fmla)), (mpn, .inl (cmpn, 12, .inl fmpn)), (mbo, .inl (cmbo, 12, .inr (.inl fmbo))), (mdi, .inl (cmdi, 12, .inr (.inl fmdi))), (mdn, .inl (cmdn, 8, .inl fmdn)), (mdo, .inl (cmdo, 8, .inr (.inl fmdo))), (mdh, .inl (cmdh, 24, .inl fmdh)), (mnn, .inl (cmnn, 12, .inl fmnn)), (mnh, .inl (cmnh, 264, .inl fmnh)), (mkn, .inl (cmkn, 128, .inl fmkn)), (mpt, .inl (cmpt, 128, .inl fmpt)), (mot, .inl (cmot, 128, .inl fmot))] H := hP
  have hD : va_D A [(mq, .inr (12, fs_82)), (msk, .inl (cmsk, 14, .inl fmsk)), (mln, .inl (cmln, 8, .inl fmln)), (mlh, .inl (cmlh, 24, .inl fmlh)), (mfn, .inl (cmfn, 8, .inl fmfn)), (mfi, .inl (cmfi, 8, .inl fmfi)), (mla, .inl (cmla, 8, .inl fmla)), (mpn, .inl (cmpn, 12, .inl fmpn)), (mbo, .inl (cmbo, 12, .inr (.inl fmbo))), (mdi, .inl (cmdi, 12, .inr (.inl fmdi))), (mdn, .inl (cmdn, 8, .inl fmdn)), (mdo, .inl (cmdo, 8, .inr (.inl fmdo))), (mdh, .inl (cmdh, 24, .inl fmdh)), (mnn, .inl (cmnn, 12, .inl fmnn)), (mnh, .inl (cmnh, 264, .inl fmnh)), (mkn, .inl (cmkn, 128, .inl fmkn)), (mpt, .inl (cmpt, 128, .inl fmpt)), (mot, .inl (cmot, 128, .inl fmot))] := hD
  refine lv_aload_n hx hb dX12_keepText_32 rfl (lv_at hl 0 rfl) ?_
  refine lv_aload_n hx hb dX12_keepText_33 rfl (lv_at hl 0 rfl) ?_
  refine va_get (D := (dC, dI)) (ci := 12) (v := .int 0) (C := RX12) (T := TX12) (N := 76) hx hb htw inlX12 hown hK hP 0 rfl rfl 22 (by decide) (htw _ (ck_10 _ (List.mem_of_getElem? (i := 23) rfl))) (fun _ h9 => h9) hf_88 dX12_keepText_34 ?_
  refine va_put (D := (dC, dI)) (ci := 12) (v := .int 0) (ty := tyX12 16) (C := RX12) (T := TX12) (N := 76) hx hb htw inlX12 tyX12 tyX12_ok nmX12 hown hK hP hD hS 0 rfl rfl 16 (by decide) (htw _ (ck_11 _ (List.mem_of_getElem? (i := 13) rfl))) (fun _ h9 => h9) rfl (by decide +kernel) rfl rfl (by rw [hlen_83]; decide) dX12_keepText_37 (fun H locs hP hD hS => ?_)
  obtain ⟨fs_111, efs_111⟩ : ∃ g : List Value, g = (fs_82).set 16 (.int 0) := ⟨_, rfl⟩
  have hlen_112 : fs_111.length = 76 := by rw [efs_111, List.length_set]; exact hlen_83
  have hf_113 : fs_111[18]? = some (.int 0) := by rw [efs_111, List.getElem?_set_ne (by decide)]; exact hf_84
  have hf_114 : fs_111[19]? = some (.int 0) := by rw [efs_111, List.getElem?_set_ne (by decide)]; exact hf_85
  have hf_115 : fs_111[20]? = some (.int 0) := by rw [efs_111, List.getElem?_set_ne (by decide)]; exact hf_86
  have hf_116 : fs_111[21]? = some (.int 0) := by rw [efs_111, List.getElem?_set_ne (by decide)]; exact hf_87
  have hf_117 : fs_111[22]? = some (.int 0) := by rw [efs_111, List.getElem?_set_ne (by decide)]; exact hf_88
  have hf_118 : fs_111[23]? = some (.int 0) := by rw [efs_111, List.getElem?_set_ne (by decide)]; exact hf_89
  have hf_119 : fs_111[24]? = some (.ref msk) := by rw [efs_111, List.getElem?_set_ne (by decide)]; exact hf_90
  have hf_120 : fs_111[28]? = some (.ref mln) := by rw [efs_111, List.getElem?_set_ne (by decide)]; exact hf_91
  have hf_121 : fs_111[29]? = some (.ref mlh) := by rw [efs_111, List.getElem?_set_ne (by decide)]; exact hf_92
  have hf_122 : fs_111[30]? = some (.ref mfn) := by rw [efs_111, List.getElem?_set_ne (by decide)]; exact hf_93
  have hf_123 : fs_111[31]? = some (.ref mfi) := by rw [efs_111, List.getElem?_set_ne (by decide)]; exact hf_94
  have hf_124 : fs_111[32]? = some (.ref mla) := by rw [efs_111, List.getElem?_set_ne (by decide)]; exact hf_95
  have hf_125 : fs_111[33]? = some (.ref mpn) := by rw [efs_111, List.getElem?_set_ne (by decide)]; exact hf_96
  have hf_126 : fs_111[34]? = some (.ref mbo) := by rw [efs_111, List.getElem?_set_ne (by decide)]; exact hf_97
  have hf_127 : fs_111[35]? = some (.ref mdi) := by rw [efs_111, List.getElem?_set_ne (by decide)]; exact hf_98
  have hf_128 : fs_111[36]? = some (.ref mdn) := by rw [efs_111, List.getElem?_set_ne (by decide)]; exact hf_99
  have hf_129 : fs_111[37]? = some (.ref mdo) := by rw [efs_111, List.getElem?_set_ne (by decide)]; exact hf_100
  have hf_130 : fs_111[38]? = some (.ref mdh) := by rw [efs_111, List.getElem?_set_ne (by decide)]; exact hf_101
  have hf_131 : fs_111[39]? = some (.ref mnn) := by rw [efs_111, List.getElem?_set_ne (by decide)]; exact hf_102
  have hf_132 : fs_111[40]? = some (.ref mnh) := by rw [efs_111, List.getElem?_set_ne (by decide)]; exact hf_103
  have hf_133 : fs_111[41]? = some (.ref mkn) := by rw [efs_111, List.getElem?_set_ne (by decide)]; exact hf_104
  have hf_134 : fs_111[42]? = some (.ref mpt) := by rw [efs_111, List.getElem?_set_ne (by decide)]; exact hf_105
  have hf_135 : fs_111[43]? = some (.ref mot) := by rw [efs_111, List.getElem?_set_ne (by decide)]; exact hf_106
  have hf_136 : fs_111[12]? = some (.int 0) := by rw [efs_111, List.getElem?_set_ne (by decide)]; exact hf_107
  have hf_137 : fs_111[13]? = some (.int 0) := by rw [efs_111, List.getElem?_set_ne (by decide)]; exact hf_108
  have hf_138 : fs_111[14]? = some (.int 0) := by rw [efs_111, List.getElem?_set_ne (by decide)]; exact hf_109
  have hf_139 : fs_111[15]? = some (.int 0) := by rw [efs_111, List.getElem?_set_ne (by decide)]; exact hf_110
  have hf_140 : fs_111[16]? = some (.int 0) := by rw [efs_111]; exact List.getElem?_set_self (by rw [hlen_83]; decide)
  rw [← efs_111] at hP hD
  have hP : va_P (dC, dI) vwCl [(mq, .inr (12, fs_111)), (msk, .inl (cmsk, 14, .inl fmsk)), (mln, .inl (cmln, 8, .inl fmln)), (mlh, .inl (cmlh, 24, .inl fmlh)), (mfn, .inl (cmfn, 8, .inl fmfn)), (mfi, .inl (cmfi, 8, .inl fmfi)), (mla, .inl (cmla, 8, .inl fmla)), (mpn, .inl (cmpn, 12, .inl fmpn)), (mbo, .inl (cmbo, 12, .inr (.inl fmbo))), (mdi, .inl (cmdi, 12, .inr (.inl fmdi))), (mdn, .inl (cmdn, 8, .inl fmdn)), (mdo, .inl (cmdo, 8, .inr (.inl fmdo))), (mdh, .inl (cmdh, 24, .inl fmdh)), (mnn, .inl (cmnn, 12, .inl fmnn)), (mnh, .inl (cmnh, 264, .inl fmnh)), (mkn, .inl (cmkn, 128, .inl fmkn)), (mpt, .inl (cmpt, 128, .inl fmpt)), (mot, .inl (cmot, 128, .inl fmot))] H := hP
  have hD : va_D A [(mq, .inr (12, fs_111)), (msk, .inl (cmsk, 14, .inl fmsk)), (mln, .inl (cmln, 8, .inl fmln)), (mlh, .inl (cmlh, 24, .inl fmlh)), (mfn, .inl (cmfn, 8, .inl fmfn)), (mfi, .inl (cmfi, 8, .inl fmfi)), (mla, .inl (cmla, 8, .inl fmla)), (mpn, .inl (cmpn, 12, .inl fmpn)), (mbo, .inl (cmbo, 12, .inr (.inl fmbo))), (mdi, .inl (cmdi, 12, .inr (.inl fmdi))), (mdn, .inl (cmdn, 8, .inl fmdn)), (mdo, .inl (cmdo, 8, .inr (.inl fmdo))), (mdh, .inl (cmdh, 24, .inl fmdh)), (mnn, .inl (cmnn, 12, .inl fmnn)), (mnh, .inl (cmnh, 264, .inl fmnh)), (mkn, .inl (cmkn, 128, .inl fmkn)), (mpt, .inl (cmpt, 128, .inl fmpt)), (mot, .inl (cmot, 128, .inl fmot))] := hD
  refine lv_aload_n hx hb dX12_keepText_40 rfl (lv_at hl 0 rfl) ?_
  refine lv_aload_n hx hb dX12_keepText_41 rfl (lv_at hl 0 rfl) ?_
  refine va_get (D := (dC, dI)) (ci := 12) (v := .int 0) (C := RX12) (T := TX12) (N := 76) hx hb htw inlX12 hown hK hP 0 rfl rfl 23 (by decide) (htw _ (ck_11 _ (List.mem_of_getElem? (i := 0) rfl))) (fun _ h9 => h9) hf_118 dX12_keepText_42 ?_
  refine va_put (D := (dC, dI)) (ci := 12) (v := .int 0) (ty := tyX12 17) (C := RX12) (T := TX12) (N := 76) hx hb htw inlX12 tyX12 tyX12_ok nmX12 hown hK hP hD hS 0 rfl rfl 17 (by decide) (htw _ (ck_11 _ (List.mem_of_getElem? (i := 14) rfl))) (fun _ h9 => h9) rfl (by decide +kernel) rfl rfl (by rw [hlen_112]; decide) dX12_keepText_45 (fun H locs hP hD hS => ?_)
  obtain ⟨fs_141, efs_141⟩ : ∃ g : List Value, g = (fs_111).set 17 (.int 0) := ⟨_, rfl⟩
  have hlen_142 : fs_141.length = 76 := by rw [efs_141, List.length_set]; exact hlen_112
  have hf_143 : fs_141[18]? = some (.int 0) := by rw [efs_141, List.getElem?_set_ne (by decide)]; exact hf_113
  have hf_144 : fs_141[19]? = some (.int 0) := by rw [efs_141, List.getElem?_set_ne (by decide)]; exact hf_114
  have hf_145 : fs_141[20]? = some (.int 0) := by rw [efs_141, List.getElem?_set_ne (by decide)]; exact hf_115
  have hf_146 : fs_141[21]? = some (.int 0) := by rw [efs_141, List.getElem?_set_ne (by decide)]; exact hf_116
  have hf_147 : fs_141[22]? = some (.int 0) := by rw [efs_141, List.getElem?_set_ne (by decide)]; exact hf_117
  have hf_148 : fs_141[23]? = some (.int 0) := by rw [efs_141, List.getElem?_set_ne (by decide)]; exact hf_118
  have hf_149 : fs_141[24]? = some (.ref msk) := by rw [efs_141, List.getElem?_set_ne (by decide)]; exact hf_119
  have hf_150 : fs_141[28]? = some (.ref mln) := by rw [efs_141, List.getElem?_set_ne (by decide)]; exact hf_120
  have hf_151 : fs_141[29]? = some (.ref mlh) := by rw [efs_141, List.getElem?_set_ne (by decide)]; exact hf_121
  have hf_152 : fs_141[30]? = some (.ref mfn) := by rw [efs_141, List.getElem?_set_ne (by decide)]; exact hf_122
  have hf_153 : fs_141[31]? = some (.ref mfi) := by rw [efs_141, List.getElem?_set_ne (by decide)]; exact hf_123
  have hf_154 : fs_141[32]? = some (.ref mla) := by rw [efs_141, List.getElem?_set_ne (by decide)]; exact hf_124
  have hf_155 : fs_141[33]? = some (.ref mpn) := by rw [efs_141, List.getElem?_set_ne (by decide)]; exact hf_125
  have hf_156 : fs_141[34]? = some (.ref mbo) := by rw [efs_141, List.getElem?_set_ne (by decide)]; exact hf_126
  have hf_157 : fs_141[35]? = some (.ref mdi) := by rw [efs_141, List.getElem?_set_ne (by decide)]; exact hf_127
  have hf_158 : fs_141[36]? = some (.ref mdn) := by rw [efs_141, List.getElem?_set_ne (by decide)]; exact hf_128
  have hf_159 : fs_141[37]? = some (.ref mdo) := by rw [efs_141, List.getElem?_set_ne (by decide)]; exact hf_129
  have hf_160 : fs_141[38]? = some (.ref mdh) := by rw [efs_141, List.getElem?_set_ne (by decide)]; exact hf_130
  have hf_161 : fs_141[39]? = some (.ref mnn) := by rw [efs_141, List.getElem?_set_ne (by decide)]; exact hf_131
  have hf_162 : fs_141[40]? = some (.ref mnh) := by rw [efs_141, List.getElem?_set_ne (by decide)]; exact hf_132
  have hf_163 : fs_141[41]? = some (.ref mkn) := by rw [efs_141, List.getElem?_set_ne (by decide)]; exact hf_133
  have hf_164 : fs_141[42]? = some (.ref mpt) := by rw [efs_141, List.getElem?_set_ne (by decide)]; exact hf_134
  have hf_165 : fs_141[43]? = some (.ref mot) := by rw [efs_141, List.getElem?_set_ne (by decide)]; exact hf_135
  have hf_166 : fs_141[12]? = some (.int 0) := by rw [efs_141, List.getElem?_set_ne (by decide)]; exact hf_136
  have hf_167 : fs_141[13]? = some (.int 0) := by rw [efs_141, List.getElem?_set_ne (by decide)]; exact hf_137
  have hf_168 : fs_141[14]? = some (.int 0) := by rw [efs_141, List.getElem?_set_ne (by decide)]; exact hf_138
  have hf_169 : fs_141[15]? = some (.int 0) := by rw [efs_141, List.getElem?_set_ne (by decide)]; exact hf_139
  have hf_170 : fs_141[16]? = some (.int 0) := by rw [efs_141, List.getElem?_set_ne (by decide)]; exact hf_140
  have hf_171 : fs_141[17]? = some (.int 0) := by rw [efs_141]; exact List.getElem?_set_self (by rw [hlen_112]; decide)
  rw [← efs_141] at hP hD
  have hP : va_P (dC, dI) vwCl [(mq, .inr (12, fs_141)), (msk, .inl (cmsk, 14, .inl fmsk)), (mln, .inl (cmln, 8, .inl fmln)), (mlh, .inl (cmlh, 24, .inl fmlh)), (mfn, .inl (cmfn, 8, .inl fmfn)), (mfi, .inl (cmfi, 8, .inl fmfi)), (mla, .inl (cmla, 8, .inl fmla)), (mpn, .inl (cmpn, 12, .inl fmpn)), (mbo, .inl (cmbo, 12, .inr (.inl fmbo))), (mdi, .inl (cmdi, 12, .inr (.inl fmdi))), (mdn, .inl (cmdn, 8, .inl fmdn)), (mdo, .inl (cmdo, 8, .inr (.inl fmdo))), (mdh, .inl (cmdh, 24, .inl fmdh)), (mnn, .inl (cmnn, 12, .inl fmnn)), (mnh, .inl (cmnh, 264, .inl fmnh)), (mkn, .inl (cmkn, 128, .inl fmkn)), (mpt, .inl (cmpt, 128, .inl fmpt)), (mot, .inl (cmot, 128, .inl fmot))] H := hP
  have hD : va_D A [(mq, .inr (12, fs_141)), (msk, .inl (cmsk, 14, .inl fmsk)), (mln, .inl (cmln, 8, .inl fmln)), (mlh, .inl (cmlh, 24, .inl fmlh)), (mfn, .inl (cmfn, 8, .inl fmfn)), (mfi, .inl (cmfi, 8, .inl fmfi)), (mla, .inl (cmla, 8, .inl fmla)), (mpn, .inl (cmpn, 12, .inl fmpn)), (mbo, .inl (cmbo, 12, .inr (.inl fmbo))), (mdi, .inl (cmdi, 12, .inr (.inl fmdi))), (mdn, .inl (cmdn, 8, .inl fmdn)), (mdo, .inl (cmdo, 8, .inr (.inl fmdo))), (mdh, .inl (cmdh, 24, .inl fmdh)), (mnn, .inl (cmnn, 12, .inl fmnn)), (mnh, .inl (cmnh, 264, .inl fmnh)), (mkn, .inl (cmkn, 128, .inl fmkn)), (mpt, .inl (cmpt, 128, .inl fmpt)), (mot, .inl (cmot, 128, .inl fmot))] := hD
  refine lv_aload_n hx hb dX12_keepText_48 rfl (lv_at hl 0 rfl) ?_
  refine va_get (D := (dC, dI)) (ci := 12) (v := .ref msk) (C := RX12) (T := TX12) (N := 76) hx hb htw inlX12 hown hK hP 0 rfl rfl 24 (by decide) (htw _ (ck_9 _ (List.mem_of_getElem? (i := 7) rfl))) (fun _ h9 => h9) hf_149 dX12_keepText_49 ?_
  refine lv_bipush (v := 7) hx hb dX12_keepText_52 (by decide) ?_
  have hPc := hP.sub (ws' := [(msk, .inl (cmsk, 14, .inl fmsk))]) [1] rfl
  have hKc := hK.sub (tys' := [(cmsk, .int)]) [0] rfl
  have hDc := hD.sub (ws' := [(msk, .inl (cmsk, 14, .inl fmsk))]) [1] (by decide) rfl
  have hFc := va_free (wc := [(msk, .inl (cmsk, 14, .inl fmsk))]) hD hS hA [1] rfl
  refine va_callv (va_runS (As := [.ref msk, .int 7]) (rest := []) ⟨hx, hb, hml, hown, htw⟩ (mm_copies l dC dI msk 7 14 cmsk fmsk H.size (by decide) (by decide)) (va_cwS 2 htw (xg_S (ck_11 _ (List.mem_of_getElem? (i := 19) rfl)) (ck_11 _ (List.mem_of_getElem? (i := 20) rfl)) (ck_1 _ (List.mem_of_getElem? (i := 5) rfl)) (ck_11 _ (List.mem_of_getElem? (i := 21) rfl))) rfl rfl rfl (by decide +kernel) ⟨Nat.le_of_ble_eq_true rfl, Nat.le_of_ble_eq_true rfl⟩) ⟨fun a U g mk q => by obtain ⟨q0, q1, qP, qK, qD⟩ := q; exact ⟨q0, q1, qP, va_K.moved (u := U) (U := U.calling g mk a) (Vm.Alike.refl U.vm) qK, qD⟩, fun U hU hW => ⟨rfl, by rw [hU], by rw [hU]; exact hPc, va_K.moved hW.alike hKc, hDc.weaken (fun _ _ _ _ => trivial)⟩⟩ rfl rfl hl.1 rfl (lv_room (Nat.le_of_ble_eq_true rfl)) dX12_keepText_54 ⟨Nat.le_of_ble_eq_true rfl, Nat.le_of_ble_eq_true rfl⟩) hS (fun q _ h => hFc q h) hFc (fun u_173 t H1 locs ht hvm hw hB hz1 hk1 hS => ?_)
  try dsimp only at hw
  obtain ⟨hP1, hK1, hD1⟩ := hB
  rw [ht] at hP1
  have hK1 := va_K.moved hvm.symm hK1
  have hP1 : va_P (dC, dI) vwCl [(msk, .inl (cmsk, 14, .inl u_173))] H1 := hP1
  have hD1 : va_D (va_A [(msk, .inl (cmsk, 14, .inl fmsk))] H.size) [(msk, .inl (cmsk, 14, .inl u_173))] := hD1
  have hK1 : va_K (dC, dI) vwCl [] s := hK1
  obtain ⟨hP, hD⟩ := va_join (wr := [(mq, .inr (12, fs_141)), (mln, .inl (cmln, 8, .inl fmln)), (mlh, .inl (cmlh, 24, .inl fmlh)), (mfn, .inl (cmfn, 8, .inl fmfn)), (mfi, .inl (cmfi, 8, .inl fmfi)), (mla, .inl (cmla, 8, .inl fmla)), (mpn, .inl (cmpn, 12, .inl fmpn)), (mbo, .inl (cmbo, 12, .inr (.inl fmbo))), (mdi, .inl (cmdi, 12, .inr (.inl fmdi))), (mdn, .inl (cmdn, 8, .inl fmdn)), (mdo, .inl (cmdo, 8, .inr (.inl fmdo))), (mdh, .inl (cmdh, 24, .inl fmdh)), (mnn, .inl (cmnn, 12, .inl fmnn)), (mnh, .inl (cmnh, 264, .inl fmnh)), (mkn, .inl (cmkn, 128, .inl fmkn)), (mpt, .inl (cmpt, 128, .inl fmpt)), (mot, .inl (cmot, 128, .inl fmot))]) (w1 := [(msk, .inl (cmsk, 14, .inl u_173))]) hP hD [1] [0, 2, 3, 4, 5, 6, 7, 8, 9, 10, 11, 12, 13, 14, 15, 16, 17] rfl rfl (by decide) (by decide) hk1 hFc hP1 hD1
  generalize H1 = H at hP hS ⊢
  have hP : va_P (dC, dI) vwCl [(mq, .inr (12, fs_141)), (mln, .inl (cmln, 8, .inl fmln)), (mlh, .inl (cmlh, 24, .inl fmlh)), (mfn, .inl (cmfn, 8, .inl fmfn)), (mfi, .inl (cmfi, 8, .inl fmfi)), (mla, .inl (cmla, 8, .inl fmla)), (mpn, .inl (cmpn, 12, .inl fmpn)), (mbo, .inl (cmbo, 12, .inr (.inl fmbo))), (mdi, .inl (cmdi, 12, .inr (.inl fmdi))), (mdn, .inl (cmdn, 8, .inl fmdn)), (mdo, .inl (cmdo, 8, .inr (.inl fmdo))), (mdh, .inl (cmdh, 24, .inl fmdh)), (mnn, .inl (cmnn, 12, .inl fmnn)), (mnh, .inl (cmnh, 264, .inl fmnh)), (mkn, .inl (cmkn, 128, .inl fmkn)), (mpt, .inl (cmpt, 128, .inl fmpt)), (mot, .inl (cmot, 128, .inl fmot)), (msk, .inl (cmsk, 14, .inl u_173))] H := hP
  have hD : va_D A [(mq, .inr (12, fs_141)), (mln, .inl (cmln, 8, .inl fmln)), (mlh, .inl (cmlh, 24, .inl fmlh)), (mfn, .inl (cmfn, 8, .inl fmfn)), (mfi, .inl (cmfi, 8, .inl fmfi)), (mla, .inl (cmla, 8, .inl fmla)), (mpn, .inl (cmpn, 12, .inl fmpn)), (mbo, .inl (cmbo, 12, .inr (.inl fmbo))), (mdi, .inl (cmdi, 12, .inr (.inl fmdi))), (mdn, .inl (cmdn, 8, .inl fmdn)), (mdo, .inl (cmdo, 8, .inr (.inl fmdo))), (mdh, .inl (cmdh, 24, .inl fmdh)), (mnn, .inl (cmnn, 12, .inl fmnn)), (mnh, .inl (cmnh, 264, .inl fmnh)), (mkn, .inl (cmkn, 128, .inl fmkn)), (mpt, .inl (cmpt, 128, .inl fmpt)), (mot, .inl (cmot, 128, .inl fmot)), (msk, .inl (cmsk, 14, .inl u_173))] := hD
  refine W.widen (k := 0) (n := 0) (by omega) (by omega) ?_
  have hcps := hw
  refine lv_aload_n hx hb dX12_keepText_57 rfl (lv_at hl 0 rfl) ?_
  refine va_get (D := (dC, dI)) (ci := 12) (v := .ref mln) (C := RX12) (T := TX12) (N := 76) hx hb htw inlX12 hown hK hP 0 rfl rfl 28 (by decide) (htw _ (ck_9 _ (List.mem_of_getElem? (i := 8) rfl))) (fun _ h9 => h9) hf_150 dX12_keepText_58 ?_
  refine lv_iconst (v := 4) hx hb dX12_keepText_61 (by decide) ?_
  have hPc := hP.sub (ws' := [(mln, .inl (cmln, 8, .inl fmln))]) [1] rfl
  have hKc := hK.sub (tys' := [(cmln, .int)]) [1] rfl
  have hDc := hD.sub (ws' := [(mln, .inl (cmln, 8, .inl fmln))]) [1] (by decide) rfl
  have hFc := va_free (wc := [(mln, .inl (cmln, 8, .inl fmln))]) hD hS hA [1] rfl
  refine va_callv (va_runS (As := [.ref mln, .int 4]) (rest := []) ⟨hx, hb, hml, hown, htw⟩ (mm_copies l dC dI mln 4 8 cmln fmln H.size (by decide) (by decide)) (va_cwS 2 htw (xg_S (ck_11 _ (List.mem_of_getElem? (i := 19) rfl)) (ck_11 _ (List.mem_of_getElem? (i := 20) rfl)) (ck_1 _ (List.mem_of_getElem? (i := 5) rfl)) (ck_11 _ (List.mem_of_getElem? (i := 21) rfl))) rfl rfl rfl (by decide +kernel) ⟨Nat.le_of_ble_eq_true rfl, Nat.le_of_ble_eq_true rfl⟩) ⟨fun a U g mk q => by obtain ⟨q0, q1, qP, qK, qD⟩ := q; exact ⟨q0, q1, qP, va_K.moved (u := U) (U := U.calling g mk a) (Vm.Alike.refl U.vm) qK, qD⟩, fun U hU hW => ⟨rfl, by rw [hU], by rw [hU]; exact hPc, va_K.moved hW.alike hKc, hDc.weaken (fun _ _ _ _ => trivial)⟩⟩ rfl rfl hl.1 rfl (lv_room (Nat.le_of_ble_eq_true rfl)) dX12_keepText_62 ⟨Nat.le_of_ble_eq_true rfl, Nat.le_of_ble_eq_true rfl⟩) hS (fun q _ h => hFc q h) hFc (fun u_176 t H1 locs ht hvm hw hB hz1 hk1 hS => ?_)
  try dsimp only at hw
  obtain ⟨hP1, hK1, hD1⟩ := hB
  rw [ht] at hP1
  have hK1 := va_K.moved hvm.symm hK1
  have hP1 : va_P (dC, dI) vwCl [(mln, .inl (cmln, 8, .inl u_176))] H1 := hP1
  have hD1 : va_D (va_A [(mln, .inl (cmln, 8, .inl fmln))] H.size) [(mln, .inl (cmln, 8, .inl u_176))] := hD1
  have hK1 : va_K (dC, dI) vwCl [] s := hK1
  obtain ⟨hP, hD⟩ := va_join (wr := [(mq, .inr (12, fs_141)), (mlh, .inl (cmlh, 24, .inl fmlh)), (mfn, .inl (cmfn, 8, .inl fmfn)), (mfi, .inl (cmfi, 8, .inl fmfi)), (mla, .inl (cmla, 8, .inl fmla)), (mpn, .inl (cmpn, 12, .inl fmpn)), (mbo, .inl (cmbo, 12, .inr (.inl fmbo))), (mdi, .inl (cmdi, 12, .inr (.inl fmdi))), (mdn, .inl (cmdn, 8, .inl fmdn)), (mdo, .inl (cmdo, 8, .inr (.inl fmdo))), (mdh, .inl (cmdh, 24, .inl fmdh)), (mnn, .inl (cmnn, 12, .inl fmnn)), (mnh, .inl (cmnh, 264, .inl fmnh)), (mkn, .inl (cmkn, 128, .inl fmkn)), (mpt, .inl (cmpt, 128, .inl fmpt)), (mot, .inl (cmot, 128, .inl fmot)), (msk, .inl (cmsk, 14, .inl u_173))]) (w1 := [(mln, .inl (cmln, 8, .inl u_176))]) hP hD [1] [0, 2, 3, 4, 5, 6, 7, 8, 9, 10, 11, 12, 13, 14, 15, 16, 17] rfl rfl (by decide) (by decide) hk1 hFc hP1 hD1
  generalize H1 = H at hP hS ⊢
  have hP : va_P (dC, dI) vwCl [(mq, .inr (12, fs_141)), (mlh, .inl (cmlh, 24, .inl fmlh)), (mfn, .inl (cmfn, 8, .inl fmfn)), (mfi, .inl (cmfi, 8, .inl fmfi)), (mla, .inl (cmla, 8, .inl fmla)), (mpn, .inl (cmpn, 12, .inl fmpn)), (mbo, .inl (cmbo, 12, .inr (.inl fmbo))), (mdi, .inl (cmdi, 12, .inr (.inl fmdi))), (mdn, .inl (cmdn, 8, .inl fmdn)), (mdo, .inl (cmdo, 8, .inr (.inl fmdo))), (mdh, .inl (cmdh, 24, .inl fmdh)), (mnn, .inl (cmnn, 12, .inl fmnn)), (mnh, .inl (cmnh, 264, .inl fmnh)), (mkn, .inl (cmkn, 128, .inl fmkn)), (mpt, .inl (cmpt, 128, .inl fmpt)), (mot, .inl (cmot, 128, .inl fmot)), (msk, .inl (cmsk, 14, .inl u_173)), (mln, .inl (cmln, 8, .inl u_176))] H := hP
  have hD : va_D A [(mq, .inr (12, fs_141)), (mlh, .inl (cmlh, 24, .inl fmlh)), (mfn, .inl (cmfn, 8, .inl fmfn)), (mfi, .inl (cmfi, 8, .inl fmfi)), (mla, .inl (cmla, 8, .inl fmla)), (mpn, .inl (cmpn, 12, .inl fmpn)), (mbo, .inl (cmbo, 12, .inr (.inl fmbo))), (mdi, .inl (cmdi, 12, .inr (.inl fmdi))), (mdn, .inl (cmdn, 8, .inl fmdn)), (mdo, .inl (cmdo, 8, .inr (.inl fmdo))), (mdh, .inl (cmdh, 24, .inl fmdh)), (mnn, .inl (cmnn, 12, .inl fmnn)), (mnh, .inl (cmnh, 264, .inl fmnh)), (mkn, .inl (cmkn, 128, .inl fmkn)), (mpt, .inl (cmpt, 128, .inl fmpt)), (mot, .inl (cmot, 128, .inl fmot)), (msk, .inl (cmsk, 14, .inl u_173)), (mln, .inl (cmln, 8, .inl u_176))] := hD
  refine W.widen (k := 0) (n := 0) (by omega) (by omega) ?_
  refine lv_aload_n hx hb dX12_keepText_65 rfl (lv_at hl 0 rfl) ?_
  refine va_get (D := (dC, dI)) (ci := 12) (v := .ref mlh) (C := RX12) (T := TX12) (N := 76) hx hb htw inlX12 hown hK hP 0 rfl rfl 29 (by decide) (htw _ (ck_9 _ (List.mem_of_getElem? (i := 9) rfl))) (fun _ h9 => h9) hf_151 dX12_keepText_66 ?_
  refine lv_bipush (v := 12) hx hb dX12_keepText_69 (by decide) ?_
  have hPc := hP.sub (ws' := [(mlh, .inl (cmlh, 24, .inl fmlh))]) [1] rfl
  have hKc := hK.sub (tys' := [(cmlh, .int)]) [2] rfl
  have hDc := hD.sub (ws' := [(mlh, .inl (cmlh, 24, .inl fmlh))]) [1] (by decide) rfl
  have hFc := va_free (wc := [(mlh, .inl (cmlh, 24, .inl fmlh))]) hD hS hA [1] rfl
  refine va_callv (va_runS (As := [.ref mlh, .int 12]) (rest := []) ⟨hx, hb, hml, hown, htw⟩ (mm_copies l dC dI mlh 12 24 cmlh fmlh H.size (by decide) (by decide)) (va_cwS 2 htw (xg_S (ck_11 _ (List.mem_of_getElem? (i := 19) rfl)) (ck_11 _ (List.mem_of_getElem? (i := 20) rfl)) (ck_1 _ (List.mem_of_getElem? (i := 5) rfl)) (ck_11 _ (List.mem_of_getElem? (i := 21) rfl))) rfl rfl rfl (by decide +kernel) ⟨Nat.le_of_ble_eq_true rfl, Nat.le_of_ble_eq_true rfl⟩) ⟨fun a U g mk q => by obtain ⟨q0, q1, qP, qK, qD⟩ := q; exact ⟨q0, q1, qP, va_K.moved (u := U) (U := U.calling g mk a) (Vm.Alike.refl U.vm) qK, qD⟩, fun U hU hW => ⟨rfl, by rw [hU], by rw [hU]; exact hPc, va_K.moved hW.alike hKc, hDc.weaken (fun _ _ _ _ => trivial)⟩⟩ rfl rfl hl.1 rfl (lv_room (Nat.le_of_ble_eq_true rfl)) dX12_keepText_71 ⟨Nat.le_of_ble_eq_true rfl, Nat.le_of_ble_eq_true rfl⟩) hS (fun q _ h => hFc q h) hFc (fun u_179 t H1 locs ht hvm hw hB hz1 hk1 hS => ?_)
  try dsimp only at hw
  obtain ⟨hP1, hK1, hD1⟩ := hB
  rw [ht] at hP1
  have hK1 := va_K.moved hvm.symm hK1
  have hP1 : va_P (dC, dI) vwCl [(mlh, .inl (cmlh, 24, .inl u_179))] H1 := hP1
  have hD1 : va_D (va_A [(mlh, .inl (cmlh, 24, .inl fmlh))] H.size) [(mlh, .inl (cmlh, 24, .inl u_179))] := hD1
  have hK1 : va_K (dC, dI) vwCl [] s := hK1
  obtain ⟨hP, hD⟩ := va_join (wr := [(mq, .inr (12, fs_141)), (mfn, .inl (cmfn, 8, .inl fmfn)), (mfi, .inl (cmfi, 8, .inl fmfi)), (mla, .inl (cmla, 8, .inl fmla)), (mpn, .inl (cmpn, 12, .inl fmpn)), (mbo, .inl (cmbo, 12, .inr (.inl fmbo))), (mdi, .inl (cmdi, 12, .inr (.inl fmdi))), (mdn, .inl (cmdn, 8, .inl fmdn)), (mdo, .inl (cmdo, 8, .inr (.inl fmdo))), (mdh, .inl (cmdh, 24, .inl fmdh)), (mnn, .inl (cmnn, 12, .inl fmnn)), (mnh, .inl (cmnh, 264, .inl fmnh)), (mkn, .inl (cmkn, 128, .inl fmkn)), (mpt, .inl (cmpt, 128, .inl fmpt)), (mot, .inl (cmot, 128, .inl fmot)), (msk, .inl (cmsk, 14, .inl u_173)), (mln, .inl (cmln, 8, .inl u_176))]) (w1 := [(mlh, .inl (cmlh, 24, .inl u_179))]) hP hD [1] [0, 2, 3, 4, 5, 6, 7, 8, 9, 10, 11, 12, 13, 14, 15, 16, 17] rfl rfl (by decide) (by decide) hk1 hFc hP1 hD1
  generalize H1 = H at hP hS ⊢
  have hP : va_P (dC, dI) vwCl [(mq, .inr (12, fs_141)), (mfn, .inl (cmfn, 8, .inl fmfn)), (mfi, .inl (cmfi, 8, .inl fmfi)), (mla, .inl (cmla, 8, .inl fmla)), (mpn, .inl (cmpn, 12, .inl fmpn)), (mbo, .inl (cmbo, 12, .inr (.inl fmbo))), (mdi, .inl (cmdi, 12, .inr (.inl fmdi))), (mdn, .inl (cmdn, 8, .inl fmdn)), (mdo, .inl (cmdo, 8, .inr (.inl fmdo))), (mdh, .inl (cmdh, 24, .inl fmdh)), (mnn, .inl (cmnn, 12, .inl fmnn)), (mnh, .inl (cmnh, 264, .inl fmnh)), (mkn, .inl (cmkn, 128, .inl fmkn)), (mpt, .inl (cmpt, 128, .inl fmpt)), (mot, .inl (cmot, 128, .inl fmot)), (msk, .inl (cmsk, 14, .inl u_173)), (mln, .inl (cmln, 8, .inl u_176)), (mlh, .inl (cmlh, 24, .inl u_179))] H := hP
  have hD : va_D A [(mq, .inr (12, fs_141)), (mfn, .inl (cmfn, 8, .inl fmfn)), (mfi, .inl (cmfi, 8, .inl fmfi)), (mla, .inl (cmla, 8, .inl fmla)), (mpn, .inl (cmpn, 12, .inl fmpn)), (mbo, .inl (cmbo, 12, .inr (.inl fmbo))), (mdi, .inl (cmdi, 12, .inr (.inl fmdi))), (mdn, .inl (cmdn, 8, .inl fmdn)), (mdo, .inl (cmdo, 8, .inr (.inl fmdo))), (mdh, .inl (cmdh, 24, .inl fmdh)), (mnn, .inl (cmnn, 12, .inl fmnn)), (mnh, .inl (cmnh, 264, .inl fmnh)), (mkn, .inl (cmkn, 128, .inl fmkn)), (mpt, .inl (cmpt, 128, .inl fmpt)), (mot, .inl (cmot, 128, .inl fmot)), (msk, .inl (cmsk, 14, .inl u_173)), (mln, .inl (cmln, 8, .inl u_176)), (mlh, .inl (cmlh, 24, .inl u_179))] := hD
  refine W.widen (k := 0) (n := 0) (by omega) (by omega) ?_
  refine lv_aload_n hx hb dX12_keepText_74 rfl (lv_at hl 0 rfl) ?_
  refine va_get (D := (dC, dI)) (ci := 12) (v := .ref mfn) (C := RX12) (T := TX12) (N := 76) hx hb htw inlX12 hown hK hP 0 rfl rfl 30 (by decide) (htw _ (ck_9 _ (List.mem_of_getElem? (i := 10) rfl))) (fun _ h9 => h9) hf_152 dX12_keepText_75 ?_
  refine lv_iconst (v := 4) hx hb dX12_keepText_78 (by decide) ?_
  have hPc := hP.sub (ws' := [(mfn, .inl (cmfn, 8, .inl fmfn))]) [1] rfl
  have hKc := hK.sub (tys' := [(cmfn, .int)]) [3] rfl
  have hDc := hD.sub (ws' := [(mfn, .inl (cmfn, 8, .inl fmfn))]) [1] (by decide) rfl
  have hFc := va_free (wc := [(mfn, .inl (cmfn, 8, .inl fmfn))]) hD hS hA [1] rfl
  refine va_callv (va_runS (As := [.ref mfn, .int 4]) (rest := []) ⟨hx, hb, hml, hown, htw⟩ (mm_copies l dC dI mfn 4 8 cmfn fmfn H.size (by decide) (by decide)) (va_cwS 2 htw (xg_S (ck_11 _ (List.mem_of_getElem? (i := 19) rfl)) (ck_11 _ (List.mem_of_getElem? (i := 20) rfl)) (ck_1 _ (List.mem_of_getElem? (i := 5) rfl)) (ck_11 _ (List.mem_of_getElem? (i := 21) rfl))) rfl rfl rfl (by decide +kernel) ⟨Nat.le_of_ble_eq_true rfl, Nat.le_of_ble_eq_true rfl⟩) ⟨fun a U g mk q => by obtain ⟨q0, q1, qP, qK, qD⟩ := q; exact ⟨q0, q1, qP, va_K.moved (u := U) (U := U.calling g mk a) (Vm.Alike.refl U.vm) qK, qD⟩, fun U hU hW => ⟨rfl, by rw [hU], by rw [hU]; exact hPc, va_K.moved hW.alike hKc, hDc.weaken (fun _ _ _ _ => trivial)⟩⟩ rfl rfl hl.1 rfl (lv_room (Nat.le_of_ble_eq_true rfl)) dX12_keepText_79 ⟨Nat.le_of_ble_eq_true rfl, Nat.le_of_ble_eq_true rfl⟩) hS (fun q _ h => hFc q h) hFc (fun u_182 t H1 locs ht hvm hw hB hz1 hk1 hS => ?_)
  try dsimp only at hw
  obtain ⟨hP1, hK1, hD1⟩ := hB
  rw [ht] at hP1
  have hK1 := va_K.moved hvm.symm hK1
  have hP1 : va_P (dC, dI) vwCl [(mfn, .inl (cmfn, 8, .inl u_182))] H1 := hP1
  have hD1 : va_D (va_A [(mfn, .inl (cmfn, 8, .inl fmfn))] H.size) [(mfn, .inl (cmfn, 8, .inl u_182))] := hD1
  have hK1 : va_K (dC, dI) vwCl [] s := hK1
  obtain ⟨hP, hD⟩ := va_join (wr := [(mq, .inr (12, fs_141)), (mfi, .inl (cmfi, 8, .inl fmfi)), (mla, .inl (cmla, 8, .inl fmla)), (mpn, .inl (cmpn, 12, .inl fmpn)), (mbo, .inl (cmbo, 12, .inr (.inl fmbo))), (mdi, .inl (cmdi, 12, .inr (.inl fmdi))), (mdn, .inl (cmdn, 8, .inl fmdn)), (mdo, .inl (cmdo, 8, .inr (.inl fmdo))), (mdh, .inl (cmdh, 24, .inl fmdh)), (mnn, .inl (cmnn, 12, .inl fmnn)), (mnh, .inl (cmnh, 264, .inl fmnh)), (mkn, .inl (cmkn, 128, .inl fmkn)), (mpt, .inl (cmpt, 128, .inl fmpt)), (mot, .inl (cmot, 128, .inl fmot)), (msk, .inl (cmsk, 14, .inl u_173)), (mln, .inl (cmln, 8, .inl u_176)), (mlh, .inl (cmlh, 24, .inl u_179))]) (w1 := [(mfn, .inl (cmfn, 8, .inl u_182))]) hP hD [1] [0, 2, 3, 4, 5, 6, 7, 8, 9, 10, 11, 12, 13, 14, 15, 16, 17] rfl rfl (by decide) (by decide) hk1 hFc hP1 hD1
  generalize H1 = H at hP hS ⊢
  have hP : va_P (dC, dI) vwCl [(mq, .inr (12, fs_141)), (mfi, .inl (cmfi, 8, .inl fmfi)), (mla, .inl (cmla, 8, .inl fmla)), (mpn, .inl (cmpn, 12, .inl fmpn)), (mbo, .inl (cmbo, 12, .inr (.inl fmbo))), (mdi, .inl (cmdi, 12, .inr (.inl fmdi))), (mdn, .inl (cmdn, 8, .inl fmdn)), (mdo, .inl (cmdo, 8, .inr (.inl fmdo))), (mdh, .inl (cmdh, 24, .inl fmdh)), (mnn, .inl (cmnn, 12, .inl fmnn)), (mnh, .inl (cmnh, 264, .inl fmnh)), (mkn, .inl (cmkn, 128, .inl fmkn)), (mpt, .inl (cmpt, 128, .inl fmpt)), (mot, .inl (cmot, 128, .inl fmot)), (msk, .inl (cmsk, 14, .inl u_173)), (mln, .inl (cmln, 8, .inl u_176)), (mlh, .inl (cmlh, 24, .inl u_179)), (mfn, .inl (cmfn, 8, .inl u_182))] H := hP
  have hD : va_D A [(mq, .inr (12, fs_141)), (mfi, .inl (cmfi, 8, .inl fmfi)), (mla, .inl (cmla, 8, .inl fmla)), (mpn, .inl (cmpn, 12, .inl fmpn)), (mbo, .inl (cmbo, 12, .inr (.inl fmbo))), (mdi, .inl (cmdi, 12, .inr (.inl fmdi))), (mdn, .inl (cmdn, 8, .inl fmdn)), (mdo, .inl (cmdo, 8, .inr (.inl fmdo))), (mdh, .inl (cmdh, 24, .inl fmdh)), (mnn, .inl (cmnn, 12, .inl fmnn)), (mnh, .inl (cmnh, 264, .inl fmnh)), (mkn, .inl (cmkn, 128, .inl fmkn)), (mpt, .inl (cmpt, 128, .inl fmpt)), (mot, .inl (cmot, 128, .inl fmot)), (msk, .inl (cmsk, 14, .inl u_173)), (mln, .inl (cmln, 8, .inl u_176)), (mlh, .inl (cmlh, 24, .inl u_179)), (mfn, .inl (cmfn, 8, .inl u_182))] := hD
  refine W.widen (k := 0) (n := 0) (by omega) (by omega) ?_
  refine lv_aload_n hx hb dX12_keepText_82 rfl (lv_at hl 0 rfl) ?_
  refine va_get (D := (dC, dI)) (ci := 12) (v := .ref mfi) (C := RX12) (T := TX12) (N := 76) hx hb htw inlX12 hown hK hP 0 rfl rfl 31 (by decide) (htw _ (ck_9 _ (List.mem_of_getElem? (i := 11) rfl))) (fun _ h9 => h9) hf_153 dX12_keepText_83 ?_
  refine lv_iconst (v := 4) hx hb dX12_keepText_86 (by decide) ?_
  have hPc := hP.sub (ws' := [(mfi, .inl (cmfi, 8, .inl fmfi))]) [1] rfl
  have hKc := hK.sub (tys' := [(cmfi, .int)]) [4] rfl
  have hDc := hD.sub (ws' := [(mfi, .inl (cmfi, 8, .inl fmfi))]) [1] (by decide) rfl
  have hFc := va_free (wc := [(mfi, .inl (cmfi, 8, .inl fmfi))]) hD hS hA [1] rfl
  refine va_callv (va_runS (As := [.ref mfi, .int 4]) (rest := []) ⟨hx, hb, hml, hown, htw⟩ (mm_copies l dC dI mfi 4 8 cmfi fmfi H.size (by decide) (by decide)) (va_cwS 2 htw (xg_S (ck_11 _ (List.mem_of_getElem? (i := 19) rfl)) (ck_11 _ (List.mem_of_getElem? (i := 20) rfl)) (ck_1 _ (List.mem_of_getElem? (i := 5) rfl)) (ck_11 _ (List.mem_of_getElem? (i := 21) rfl))) rfl rfl rfl (by decide +kernel) ⟨Nat.le_of_ble_eq_true rfl, Nat.le_of_ble_eq_true rfl⟩) ⟨fun a U g mk q => by obtain ⟨q0, q1, qP, qK, qD⟩ := q; exact ⟨q0, q1, qP, va_K.moved (u := U) (U := U.calling g mk a) (Vm.Alike.refl U.vm) qK, qD⟩, fun U hU hW => ⟨rfl, by rw [hU], by rw [hU]; exact hPc, va_K.moved hW.alike hKc, hDc.weaken (fun _ _ _ _ => trivial)⟩⟩ rfl rfl hl.1 rfl (lv_room (Nat.le_of_ble_eq_true rfl)) dX12_keepText_87 ⟨Nat.le_of_ble_eq_true rfl, Nat.le_of_ble_eq_true rfl⟩) hS (fun q _ h => hFc q h) hFc (fun u_185 t H1 locs ht hvm hw hB hz1 hk1 hS => ?_)
  try dsimp only at hw
  obtain ⟨hP1, hK1, hD1⟩ := hB
  rw [ht] at hP1
  have hK1 := va_K.moved hvm.symm hK1
  have hP1 : va_P (dC, dI) vwCl [(mfi, .inl (cmfi, 8, .inl u_185))] H1 := hP1
  have hD1 : va_D (va_A [(mfi, .inl (cmfi, 8, .inl fmfi))] H.size) [(mfi, .inl (cmfi, 8, .inl u_185))] := hD1
  have hK1 : va_K (dC, dI) vwCl [] s := hK1
  obtain ⟨hP, hD⟩ := va_join (wr := [(mq, .inr (12, fs_141)), (mla, .inl (cmla, 8, .inl fmla)), (mpn, .inl (cmpn, 12, .inl fmpn)), (mbo, .inl (cmbo, 12, .inr (.inl fmbo))), (mdi, .inl (cmdi, 12, .inr (.inl fmdi))), (mdn, .inl (cmdn, 8, .inl fmdn)), (mdo, .inl (cmdo, 8, .inr (.inl fmdo))), (mdh, .inl (cmdh, 24, .inl fmdh)), (mnn, .inl (cmnn, 12, .inl fmnn)), (mnh, .inl (cmnh, 264, .inl fmnh)), (mkn, .inl (cmkn, 128, .inl fmkn)), (mpt, .inl (cmpt, 128, .inl fmpt)), (mot, .inl (cmot, 128, .inl fmot)), (msk, .inl (cmsk, 14, .inl u_173)), (mln, .inl (cmln, 8, .inl u_176)), (mlh, .inl (cmlh, 24, .inl u_179)), (mfn, .inl (cmfn, 8, .inl u_182))]) (w1 := [(mfi, .inl (cmfi, 8, .inl u_185))]) hP hD [1] [0, 2, 3, 4, 5, 6, 7, 8, 9, 10, 11, 12, 13, 14, 15, 16, 17] rfl rfl (by decide) (by decide) hk1 hFc hP1 hD1
  generalize H1 = H at hP hS ⊢
  have hP : va_P (dC, dI) vwCl [(mq, .inr (12, fs_141)), (mla, .inl (cmla, 8, .inl fmla)), (mpn, .inl (cmpn, 12, .inl fmpn)), (mbo, .inl (cmbo, 12, .inr (.inl fmbo))), (mdi, .inl (cmdi, 12, .inr (.inl fmdi))), (mdn, .inl (cmdn, 8, .inl fmdn)), (mdo, .inl (cmdo, 8, .inr (.inl fmdo))), (mdh, .inl (cmdh, 24, .inl fmdh)), (mnn, .inl (cmnn, 12, .inl fmnn)), (mnh, .inl (cmnh, 264, .inl fmnh)), (mkn, .inl (cmkn, 128, .inl fmkn)), (mpt, .inl (cmpt, 128, .inl fmpt)), (mot, .inl (cmot, 128, .inl fmot)), (msk, .inl (cmsk, 14, .inl u_173)), (mln, .inl (cmln, 8, .inl u_176)), (mlh, .inl (cmlh, 24, .inl u_179)), (mfn, .inl (cmfn, 8, .inl u_182)), (mfi, .inl (cmfi, 8, .inl u_185))] H := hP
  have hD : va_D A [(mq, .inr (12, fs_141)), (mla, .inl (cmla, 8, .inl fmla)), (mpn, .inl (cmpn, 12, .inl fmpn)), (mbo, .inl (cmbo, 12, .inr (.inl fmbo))), (mdi, .inl (cmdi, 12, .inr (.inl fmdi))), (mdn, .inl (cmdn, 8, .inl fmdn)), (mdo, .inl (cmdo, 8, .inr (.inl fmdo))), (mdh, .inl (cmdh, 24, .inl fmdh)), (mnn, .inl (cmnn, 12, .inl fmnn)), (mnh, .inl (cmnh, 264, .inl fmnh)), (mkn, .inl (cmkn, 128, .inl fmkn)), (mpt, .inl (cmpt, 128, .inl fmpt)), (mot, .inl (cmot, 128, .inl fmot)), (msk, .inl (cmsk, 14, .inl u_173)), (mln, .inl (cmln, 8, .inl u_176)), (mlh, .inl (cmlh, 24, .inl u_179)), (mfn, .inl (cmfn, 8, .inl u_182)), (mfi, .inl (cmfi, 8, .inl u_185))] := hD
  refine W.widen (k := 0) (n := 0) (by omega) (by omega) ?_
  refine lv_aload_n hx hb dX12_keepText_90 rfl (lv_at hl 0 rfl) ?_
  refine va_get (D := (dC, dI)) (ci := 12) (v := .ref mla) (C := RX12) (T := TX12) (N := 76) hx hb htw inlX12 hown hK hP 0 rfl rfl 32 (by decide) (htw _ (ck_9 _ (List.mem_of_getElem? (i := 12) rfl))) (fun _ h9 => h9) hf_154 dX12_keepText_91 ?_
  refine lv_iconst (v := 4) hx hb dX12_keepText_94 (by decide) ?_
  have hPc := hP.sub (ws' := [(mla, .inl (cmla, 8, .inl fmla))]) [1] rfl
  have hKc := hK.sub (tys' := [(cmla, .int)]) [5] rfl
  have hDc := hD.sub (ws' := [(mla, .inl (cmla, 8, .inl fmla))]) [1] (by decide) rfl
  have hFc := va_free (wc := [(mla, .inl (cmla, 8, .inl fmla))]) hD hS hA [1] rfl
  refine va_callv (va_runS (As := [.ref mla, .int 4]) (rest := []) ⟨hx, hb, hml, hown, htw⟩ (mm_copies l dC dI mla 4 8 cmla fmla H.size (by decide) (by decide)) (va_cwS 2 htw (xg_S (ck_11 _ (List.mem_of_getElem? (i := 19) rfl)) (ck_11 _ (List.mem_of_getElem? (i := 20) rfl)) (ck_1 _ (List.mem_of_getElem? (i := 5) rfl)) (ck_11 _ (List.mem_of_getElem? (i := 21) rfl))) rfl rfl rfl (by decide +kernel) ⟨Nat.le_of_ble_eq_true rfl, Nat.le_of_ble_eq_true rfl⟩) ⟨fun a U g mk q => by obtain ⟨q0, q1, qP, qK, qD⟩ := q; exact ⟨q0, q1, qP, va_K.moved (u := U) (U := U.calling g mk a) (Vm.Alike.refl U.vm) qK, qD⟩, fun U hU hW => ⟨rfl, by rw [hU], by rw [hU]; exact hPc, va_K.moved hW.alike hKc, hDc.weaken (fun _ _ _ _ => trivial)⟩⟩ rfl rfl hl.1 rfl (lv_room (Nat.le_of_ble_eq_true rfl)) dX12_keepText_95 ⟨Nat.le_of_ble_eq_true rfl, Nat.le_of_ble_eq_true rfl⟩) hS (fun q _ h => hFc q h) hFc (fun u_188 t H1 locs ht hvm hw hB hz1 hk1 hS => ?_)
  try dsimp only at hw
  obtain ⟨hP1, hK1, hD1⟩ := hB
  rw [ht] at hP1
  have hK1 := va_K.moved hvm.symm hK1
  have hP1 : va_P (dC, dI) vwCl [(mla, .inl (cmla, 8, .inl u_188))] H1 := hP1
  have hD1 : va_D (va_A [(mla, .inl (cmla, 8, .inl fmla))] H.size) [(mla, .inl (cmla, 8, .inl u_188))] := hD1
  have hK1 : va_K (dC, dI) vwCl [] s := hK1
  obtain ⟨hP, hD⟩ := va_join (wr := [(mq, .inr (12, fs_141)), (mpn, .inl (cmpn, 12, .inl fmpn)), (mbo, .inl (cmbo, 12, .inr (.inl fmbo))), (mdi, .inl (cmdi, 12, .inr (.inl fmdi))), (mdn, .inl (cmdn, 8, .inl fmdn)), (mdo, .inl (cmdo, 8, .inr (.inl fmdo))), (mdh, .inl (cmdh, 24, .inl fmdh)), (mnn, .inl (cmnn, 12, .inl fmnn)), (mnh, .inl (cmnh, 264, .inl fmnh)), (mkn, .inl (cmkn, 128, .inl fmkn)), (mpt, .inl (cmpt, 128, .inl fmpt)), (mot, .inl (cmot, 128, .inl fmot)), (msk, .inl (cmsk, 14, .inl u_173)), (mln, .inl (cmln, 8, .inl u_176)), (mlh, .inl (cmlh, 24, .inl u_179)), (mfn, .inl (cmfn, 8, .inl u_182)), (mfi, .inl (cmfi, 8, .inl u_185))]) (w1 := [(mla, .inl (cmla, 8, .inl u_188))]) hP hD [1] [0, 2, 3, 4, 5, 6, 7, 8, 9, 10, 11, 12, 13, 14, 15, 16, 17] rfl rfl (by decide) (by decide) hk1 hFc hP1 hD1
  generalize H1 = H at hP hS ⊢
  have hP : va_P (dC, dI) vwCl [(mq, .inr (12, fs_141)), (mpn, .inl (cmpn, 12, .inl fmpn)), (mbo, .inl (cmbo, 12, .inr (.inl fmbo))), (mdi, .inl (cmdi, 12, .inr (.inl fmdi))), (mdn, .inl (cmdn, 8, .inl fmdn)), (mdo, .inl (cmdo, 8, .inr (.inl fmdo))), (mdh, .inl (cmdh, 24, .inl fmdh)), (mnn, .inl (cmnn, 12, .inl fmnn)), (mnh, .inl (cmnh, 264, .inl fmnh)), (mkn, .inl (cmkn, 128, .inl fmkn)), (mpt, .inl (cmpt, 128, .inl fmpt)), (mot, .inl (cmot, 128, .inl fmot)), (msk, .inl (cmsk, 14, .inl u_173)), (mln, .inl (cmln, 8, .inl u_176)), (mlh, .inl (cmlh, 24, .inl u_179)), (mfn, .inl (cmfn, 8, .inl u_182)), (mfi, .inl (cmfi, 8, .inl u_185)), (mla, .inl (cmla, 8, .inl u_188))] H := hP
  have hD : va_D A [(mq, .inr (12, fs_141)), (mpn, .inl (cmpn, 12, .inl fmpn)), (mbo, .inl (cmbo, 12, .inr (.inl fmbo))), (mdi, .inl (cmdi, 12, .inr (.inl fmdi))), (mdn, .inl (cmdn, 8, .inl fmdn)), (mdo, .inl (cmdo, 8, .inr (.inl fmdo))), (mdh, .inl (cmdh, 24, .inl fmdh)), (mnn, .inl (cmnn, 12, .inl fmnn)), (mnh, .inl (cmnh, 264, .inl fmnh)), (mkn, .inl (cmkn, 128, .inl fmkn)), (mpt, .inl (cmpt, 128, .inl fmpt)), (mot, .inl (cmot, 128, .inl fmot)), (msk, .inl (cmsk, 14, .inl u_173)), (mln, .inl (cmln, 8, .inl u_176)), (mlh, .inl (cmlh, 24, .inl u_179)), (mfn, .inl (cmfn, 8, .inl u_182)), (mfi, .inl (cmfi, 8, .inl u_185)), (mla, .inl (cmla, 8, .inl u_188))] := hD
  refine W.widen (k := 0) (n := 0) (by omega) (by omega) ?_
  refine lv_aload_n hx hb dX12_keepText_98 rfl (lv_at hl 0 rfl) ?_
  refine va_get (D := (dC, dI)) (ci := 12) (v := .ref mpn) (C := RX12) (T := TX12) (N := 76) hx hb htw inlX12 hown hK hP 0 rfl rfl 33 (by decide) (htw _ (ck_9 _ (List.mem_of_getElem? (i := 13) rfl))) (fun _ h9 => h9) hf_155 dX12_keepText_99 ?_
  refine lv_bipush (v := 6) hx hb dX12_keepText_102 (by decide) ?_
  have hPc := hP.sub (ws' := [(mpn, .inl (cmpn, 12, .inl fmpn))]) [1] rfl
  have hKc := hK.sub (tys' := [(cmpn, .int)]) [6] rfl
  have hDc := hD.sub (ws' := [(mpn, .inl (cmpn, 12, .inl fmpn))]) [1] (by decide) rfl
  have hFc := va_free (wc := [(mpn, .inl (cmpn, 12, .inl fmpn))]) hD hS hA [1] rfl
  refine va_callv (va_runS (As := [.ref mpn, .int 6]) (rest := []) ⟨hx, hb, hml, hown, htw⟩ (mm_copies l dC dI mpn 6 12 cmpn fmpn H.size (by decide) (by decide)) (va_cwS 2 htw (xg_S (ck_11 _ (List.mem_of_getElem? (i := 19) rfl)) (ck_11 _ (List.mem_of_getElem? (i := 20) rfl)) (ck_1 _ (List.mem_of_getElem? (i := 5) rfl)) (ck_11 _ (List.mem_of_getElem? (i := 21) rfl))) rfl rfl rfl (by decide +kernel) ⟨Nat.le_of_ble_eq_true rfl, Nat.le_of_ble_eq_true rfl⟩) ⟨fun a U g mk q => by obtain ⟨q0, q1, qP, qK, qD⟩ := q; exact ⟨q0, q1, qP, va_K.moved (u := U) (U := U.calling g mk a) (Vm.Alike.refl U.vm) qK, qD⟩, fun U hU hW => ⟨rfl, by rw [hU], by rw [hU]; exact hPc, va_K.moved hW.alike hKc, hDc.weaken (fun _ _ _ _ => trivial)⟩⟩ rfl rfl hl.1 rfl (lv_room (Nat.le_of_ble_eq_true rfl)) dX12_keepText_104 ⟨Nat.le_of_ble_eq_true rfl, Nat.le_of_ble_eq_true rfl⟩) hS (fun q _ h => hFc q h) hFc (fun u_191 t H1 locs ht hvm hw hB hz1 hk1 hS => ?_)
  try dsimp only at hw
  obtain ⟨hP1, hK1, hD1⟩ := hB
  rw [ht] at hP1
  have hK1 := va_K.moved hvm.symm hK1
  have hP1 : va_P (dC, dI) vwCl [(mpn, .inl (cmpn, 12, .inl u_191))] H1 := hP1
  have hD1 : va_D (va_A [(mpn, .inl (cmpn, 12, .inl fmpn))] H.size) [(mpn, .inl (cmpn, 12, .inl u_191))] := hD1
  have hK1 : va_K (dC, dI) vwCl [] s := hK1
  obtain ⟨hP, hD⟩ := va_join (wr := [(mq, .inr (12, fs_141)), (mbo, .inl (cmbo, 12, .inr (.inl fmbo))), (mdi, .inl (cmdi, 12, .inr (.inl fmdi))), (mdn, .inl (cmdn, 8, .inl fmdn)), (mdo, .inl (cmdo, 8, .inr (.inl fmdo))), (mdh, .inl (cmdh, 24, .inl fmdh)), (mnn, .inl (cmnn, 12, .inl fmnn)), (mnh, .inl (cmnh, 264, .inl fmnh)), (mkn, .inl (cmkn, 128, .inl fmkn)), (mpt, .inl (cmpt, 128, .inl fmpt)), (mot, .inl (cmot, 128, .inl fmot)), (msk, .inl (cmsk, 14, .inl u_173)), (mln, .inl (cmln, 8, .inl u_176)), (mlh, .inl (cmlh, 24, .inl u_179)), (mfn, .inl (cmfn, 8, .inl u_182)), (mfi, .inl (cmfi, 8, .inl u_185)), (mla, .inl (cmla, 8, .inl u_188))]) (w1 := [(mpn, .inl (cmpn, 12, .inl u_191))]) hP hD [1] [0, 2, 3, 4, 5, 6, 7, 8, 9, 10, 11, 12, 13, 14, 15, 16, 17] rfl rfl (by decide) (by decide) hk1 hFc hP1 hD1
  generalize H1 = H at hP hS ⊢
  have hP : va_P (dC, dI) vwCl [(mq, .inr (12, fs_141)), (mbo, .inl (cmbo, 12, .inr (.inl fmbo))), (mdi, .inl (cmdi, 12, .inr (.inl fmdi))), (mdn, .inl (cmdn, 8, .inl fmdn)), (mdo, .inl (cmdo, 8, .inr (.inl fmdo))), (mdh, .inl (cmdh, 24, .inl fmdh)), (mnn, .inl (cmnn, 12, .inl fmnn)), (mnh, .inl (cmnh, 264, .inl fmnh)), (mkn, .inl (cmkn, 128, .inl fmkn)), (mpt, .inl (cmpt, 128, .inl fmpt)), (mot, .inl (cmot, 128, .inl fmot)), (msk, .inl (cmsk, 14, .inl u_173)), (mln, .inl (cmln, 8, .inl u_176)), (mlh, .inl (cmlh, 24, .inl u_179)), (mfn, .inl (cmfn, 8, .inl u_182)), (mfi, .inl (cmfi, 8, .inl u_185)), (mla, .inl (cmla, 8, .inl u_188)), (mpn, .inl (cmpn, 12, .inl u_191))] H := hP
  have hD : va_D A [(mq, .inr (12, fs_141)), (mbo, .inl (cmbo, 12, .inr (.inl fmbo))), (mdi, .inl (cmdi, 12, .inr (.inl fmdi))), (mdn, .inl (cmdn, 8, .inl fmdn)), (mdo, .inl (cmdo, 8, .inr (.inl fmdo))), (mdh, .inl (cmdh, 24, .inl fmdh)), (mnn, .inl (cmnn, 12, .inl fmnn)), (mnh, .inl (cmnh, 264, .inl fmnh)), (mkn, .inl (cmkn, 128, .inl fmkn)), (mpt, .inl (cmpt, 128, .inl fmpt)), (mot, .inl (cmot, 128, .inl fmot)), (msk, .inl (cmsk, 14, .inl u_173)), (mln, .inl (cmln, 8, .inl u_176)), (mlh, .inl (cmlh, 24, .inl u_179)), (mfn, .inl (cmfn, 8, .inl u_182)), (mfi, .inl (cmfi, 8, .inl u_185)), (mla, .inl (cmla, 8, .inl u_188)), (mpn, .inl (cmpn, 12, .inl u_191))] := hD
  refine W.widen (k := 0) (n := 0) (by omega) (by omega) ?_
  refine lv_aload_n hx hb dX12_keepText_107 rfl (lv_at hl 0 rfl) ?_
  refine va_get (D := (dC, dI)) (ci := 12) (v := .ref mbo) (C := RX12) (T := TX12) (N := 76) hx hb htw inlX12 hown hK hP 0 rfl rfl 34 (by decide) (htw _ (ck_9 _ (List.mem_of_getElem? (i := 14) rfl))) (fun _ h9 => h9) hf_156 dX12_keepText_108 ?_
  refine lv_bipush (v := 6) hx hb dX12_keepText_111 (by decide) ?_
  have hPc := hP.sub (ws' := [(mbo, .inl (cmbo, 12, .inr (.inl fmbo)))]) [1] rfl
  have hKc := hK.sub (tys' := [(cmbo, .long)]) [7] rfl
  have hDc := hD.sub (ws' := [(mbo, .inl (cmbo, 12, .inr (.inl fmbo)))]) [1] (by decide) rfl
  have hFc := va_free (wc := [(mbo, .inl (cmbo, 12, .inr (.inl fmbo)))]) hD hS hA [1] rfl
  refine va_callv (va_runS (As := [.ref mbo, .int 6]) (rest := []) ⟨hx, hb, hml, hown, htw⟩ (mm_copiesL l dC dI mbo 6 12 cmbo fmbo H.size (by decide) (by decide)) (va_cwS 2 htw (xg_S (ck_11 _ (List.mem_of_getElem? (i := 22) rfl)) (ck_11 _ (List.mem_of_getElem? (i := 23) rfl)) (ck_1 _ (List.mem_of_getElem? (i := 5) rfl)) (ck_12 _ (List.mem_of_getElem? (i := 0) rfl))) rfl rfl rfl (by decide +kernel) ⟨Nat.le_of_ble_eq_true rfl, Nat.le_of_ble_eq_true rfl⟩) ⟨fun a U g mk q => by obtain ⟨q0, q1, qP, qK, qD⟩ := q; exact ⟨q0, q1, qP, va_K.moved (u := U) (U := U.calling g mk a) (Vm.Alike.refl U.vm) qK, qD⟩, fun U hU hW => ⟨rfl, by rw [hU], by rw [hU]; exact hPc, va_K.moved hW.alike hKc, hDc.weaken (fun _ _ _ _ => trivial)⟩⟩ rfl rfl hl.1 rfl (lv_room (Nat.le_of_ble_eq_true rfl)) dX12_keepText_113 ⟨Nat.le_of_ble_eq_true rfl, Nat.le_of_ble_eq_true rfl⟩) hS (fun q _ h => hFc q h) hFc (fun u_194 t H1 locs ht hvm hw hB hz1 hk1 hS => ?_)
  try dsimp only at hw
  obtain ⟨hP1, hK1, hD1⟩ := hB
  rw [ht] at hP1
  have hK1 := va_K.moved hvm.symm hK1
  have hP1 : va_P (dC, dI) vwCl [(mbo, .inl (cmbo, 12, .inr (.inl u_194)))] H1 := hP1
  have hD1 : va_D (va_A [(mbo, .inl (cmbo, 12, .inr (.inl fmbo)))] H.size) [(mbo, .inl (cmbo, 12, .inr (.inl u_194)))] := hD1
  have hK1 : va_K (dC, dI) vwCl [] s := hK1
  obtain ⟨hP, hD⟩ := va_join (wr := [(mq, .inr (12, fs_141)), (mdi, .inl (cmdi, 12, .inr (.inl fmdi))), (mdn, .inl (cmdn, 8, .inl fmdn)), (mdo, .inl (cmdo, 8, .inr (.inl fmdo))), (mdh, .inl (cmdh, 24, .inl fmdh)), (mnn, .inl (cmnn, 12, .inl fmnn)), (mnh, .inl (cmnh, 264, .inl fmnh)), (mkn, .inl (cmkn, 128, .inl fmkn)), (mpt, .inl (cmpt, 128, .inl fmpt)), (mot, .inl (cmot, 128, .inl fmot)), (msk, .inl (cmsk, 14, .inl u_173)), (mln, .inl (cmln, 8, .inl u_176)), (mlh, .inl (cmlh, 24, .inl u_179)), (mfn, .inl (cmfn, 8, .inl u_182)), (mfi, .inl (cmfi, 8, .inl u_185)), (mla, .inl (cmla, 8, .inl u_188)), (mpn, .inl (cmpn, 12, .inl u_191))]) (w1 := [(mbo, .inl (cmbo, 12, .inr (.inl u_194)))]) hP hD [1] [0, 2, 3, 4, 5, 6, 7, 8, 9, 10, 11, 12, 13, 14, 15, 16, 17] rfl rfl (by decide) (by decide) hk1 hFc hP1 hD1
  generalize H1 = H at hP hS ⊢
  have hP : va_P (dC, dI) vwCl [(mq, .inr (12, fs_141)), (mdi, .inl (cmdi, 12, .inr (.inl fmdi))), (mdn, .inl (cmdn, 8, .inl fmdn)), (mdo, .inl (cmdo, 8, .inr (.inl fmdo))), (mdh, .inl (cmdh, 24, .inl fmdh)), (mnn, .inl (cmnn, 12, .inl fmnn)), (mnh, .inl (cmnh, 264, .inl fmnh)), (mkn, .inl (cmkn, 128, .inl fmkn)), (mpt, .inl (cmpt, 128, .inl fmpt)), (mot, .inl (cmot, 128, .inl fmot)), (msk, .inl (cmsk, 14, .inl u_173)), (mln, .inl (cmln, 8, .inl u_176)), (mlh, .inl (cmlh, 24, .inl u_179)), (mfn, .inl (cmfn, 8, .inl u_182)), (mfi, .inl (cmfi, 8, .inl u_185)), (mla, .inl (cmla, 8, .inl u_188)), (mpn, .inl (cmpn, 12, .inl u_191)), (mbo, .inl (cmbo, 12, .inr (.inl u_194)))] H := hP
  have hD : va_D A [(mq, .inr (12, fs_141)), (mdi, .inl (cmdi, 12, .inr (.inl fmdi))), (mdn, .inl (cmdn, 8, .inl fmdn)), (mdo, .inl (cmdo, 8, .inr (.inl fmdo))), (mdh, .inl (cmdh, 24, .inl fmdh)), (mnn, .inl (cmnn, 12, .inl fmnn)), (mnh, .inl (cmnh, 264, .inl fmnh)), (mkn, .inl (cmkn, 128, .inl fmkn)), (mpt, .inl (cmpt, 128, .inl fmpt)), (mot, .inl (cmot, 128, .inl fmot)), (msk, .inl (cmsk, 14, .inl u_173)), (mln, .inl (cmln, 8, .inl u_176)), (mlh, .inl (cmlh, 24, .inl u_179)), (mfn, .inl (cmfn, 8, .inl u_182)), (mfi, .inl (cmfi, 8, .inl u_185)), (mla, .inl (cmla, 8, .inl u_188)), (mpn, .inl (cmpn, 12, .inl u_191)), (mbo, .inl (cmbo, 12, .inr (.inl u_194)))] := hD
  refine W.widen (k := 0) (n := 0) (by omega) (by omega) ?_
  refine lv_aload_n hx hb dX12_keepText_116 rfl (lv_at hl 0 rfl) ?_
  refine va_get (D := (dC, dI)) (ci := 12) (v := .ref mdi) (C := RX12) (T := TX12) (N := 76) hx hb htw inlX12 hown hK hP 0 rfl rfl 35 (by decide) (htw _ (ck_9 _ (List.mem_of_getElem? (i := 15) rfl))) (fun _ h9 => h9) hf_157 dX12_keepText_117 ?_
  refine lv_bipush (v := 6) hx hb dX12_keepText_120 (by decide) ?_
  have hPc := hP.sub (ws' := [(mdi, .inl (cmdi, 12, .inr (.inl fmdi)))]) [1] rfl
  have hKc := hK.sub (tys' := [(cmdi, .long)]) [8] rfl
  have hDc := hD.sub (ws' := [(mdi, .inl (cmdi, 12, .inr (.inl fmdi)))]) [1] (by decide) rfl
  have hFc := va_free (wc := [(mdi, .inl (cmdi, 12, .inr (.inl fmdi)))]) hD hS hA [1] rfl
  refine va_callv (va_runS (As := [.ref mdi, .int 6]) (rest := []) ⟨hx, hb, hml, hown, htw⟩ (mm_copiesL l dC dI mdi 6 12 cmdi fmdi H.size (by decide) (by decide)) (va_cwS 2 htw (xg_S (ck_11 _ (List.mem_of_getElem? (i := 22) rfl)) (ck_11 _ (List.mem_of_getElem? (i := 23) rfl)) (ck_1 _ (List.mem_of_getElem? (i := 5) rfl)) (ck_12 _ (List.mem_of_getElem? (i := 0) rfl))) rfl rfl rfl (by decide +kernel) ⟨Nat.le_of_ble_eq_true rfl, Nat.le_of_ble_eq_true rfl⟩) ⟨fun a U g mk q => by obtain ⟨q0, q1, qP, qK, qD⟩ := q; exact ⟨q0, q1, qP, va_K.moved (u := U) (U := U.calling g mk a) (Vm.Alike.refl U.vm) qK, qD⟩, fun U hU hW => ⟨rfl, by rw [hU], by rw [hU]; exact hPc, va_K.moved hW.alike hKc, hDc.weaken (fun _ _ _ _ => trivial)⟩⟩ rfl rfl hl.1 rfl (lv_room (Nat.le_of_ble_eq_true rfl)) dX12_keepText_122 ⟨Nat.le_of_ble_eq_true rfl, Nat.le_of_ble_eq_true rfl⟩) hS (fun q _ h => hFc q h) hFc (fun u_197 t H1 locs ht hvm hw hB hz1 hk1 hS => ?_)
  try dsimp only at hw
  obtain ⟨hP1, hK1, hD1⟩ := hB
  rw [ht] at hP1
  have hK1 := va_K.moved hvm.symm hK1
  have hP1 : va_P (dC, dI) vwCl [(mdi, .inl (cmdi, 12, .inr (.inl u_197)))] H1 := hP1
  have hD1 : va_D (va_A [(mdi, .inl (cmdi, 12, .inr (.inl fmdi)))] H.size) [(mdi, .inl (cmdi, 12, .inr (.inl u_197)))] := hD1
  have hK1 : va_K (dC, dI) vwCl [] s := hK1
  obtain ⟨hP, hD⟩ := va_join (wr := [(mq, .inr (12, fs_141)), (mdn, .inl (cmdn, 8, .inl fmdn)), (mdo, .inl (cmdo, 8, .inr (.inl fmdo))), (mdh, .inl (cmdh, 24, .inl fmdh)), (mnn, .inl (cmnn, 12, .inl fmnn)), (mnh, .inl (cmnh, 264, .inl fmnh)), (mkn, .inl (cmkn, 128, .inl fmkn)), (mpt, .inl (cmpt, 128, .inl fmpt)), (mot, .inl (cmot, 128, .inl fmot)), (msk, .inl (cmsk, 14, .inl u_173)), (mln, .inl (cmln, 8, .inl u_176)), (mlh, .inl (cmlh, 24, .inl u_179)), (mfn, .inl (cmfn, 8, .inl u_182)), (mfi, .inl (cmfi, 8, .inl u_185)), (mla, .inl (cmla, 8, .inl u_188)), (mpn, .inl (cmpn, 12, .inl u_191)), (mbo, .inl (cmbo, 12, .inr (.inl u_194)))]) (w1 := [(mdi, .inl (cmdi, 12, .inr (.inl u_197)))]) hP hD [1] [0, 2, 3, 4, 5, 6, 7, 8, 9, 10, 11, 12, 13, 14, 15, 16, 17] rfl rfl (by decide) (by decide) hk1 hFc hP1 hD1
  generalize H1 = H at hP hS ⊢
  have hP : va_P (dC, dI) vwCl [(mq, .inr (12, fs_141)), (mdn, .inl (cmdn, 8, .inl fmdn)), (mdo, .inl (cmdo, 8, .inr (.inl fmdo))), (mdh, .inl (cmdh, 24, .inl fmdh)), (mnn, .inl (cmnn, 12, .inl fmnn)), (mnh, .inl (cmnh, 264, .inl fmnh)), (mkn, .inl (cmkn, 128, .inl fmkn)), (mpt, .inl (cmpt, 128, .inl fmpt)), (mot, .inl (cmot, 128, .inl fmot)), (msk, .inl (cmsk, 14, .inl u_173)), (mln, .inl (cmln, 8, .inl u_176)), (mlh, .inl (cmlh, 24, .inl u_179)), (mfn, .inl (cmfn, 8, .inl u_182)), (mfi, .inl (cmfi, 8, .inl u_185)), (mla, .inl (cmla, 8, .inl u_188)), (mpn, .inl (cmpn, 12, .inl u_191)), (mbo, .inl (cmbo, 12, .inr (.inl u_194))), (mdi, .inl (cmdi, 12, .inr (.inl u_197)))] H := hP
  have hD : va_D A [(mq, .inr (12, fs_141)), (mdn, .inl (cmdn, 8, .inl fmdn)), (mdo, .inl (cmdo, 8, .inr (.inl fmdo))), (mdh, .inl (cmdh, 24, .inl fmdh)), (mnn, .inl (cmnn, 12, .inl fmnn)), (mnh, .inl (cmnh, 264, .inl fmnh)), (mkn, .inl (cmkn, 128, .inl fmkn)), (mpt, .inl (cmpt, 128, .inl fmpt)), (mot, .inl (cmot, 128, .inl fmot)), (msk, .inl (cmsk, 14, .inl u_173)), (mln, .inl (cmln, 8, .inl u_176)), (mlh, .inl (cmlh, 24, .inl u_179)), (mfn, .inl (cmfn, 8, .inl u_182)), (mfi, .inl (cmfi, 8, .inl u_185)), (mla, .inl (cmla, 8, .inl u_188)), (mpn, .inl (cmpn, 12, .inl u_191)), (mbo, .inl (cmbo, 12, .inr (.inl u_194))), (mdi, .inl (cmdi, 12, .inr (.inl u_197)))] := hD
  refine W.widen (k := 0) (n := 0) (by omega) (by omega) ?_
  refine lv_aload_n hx hb dX12_keepText_125 rfl (lv_at hl 0 rfl) ?_
  refine va_get (D := (dC, dI)) (ci := 12) (v := .ref mdn) (C := RX12) (T := TX12) (N := 76) hx hb htw inlX12 hown hK hP 0 rfl rfl 36 (by decide) (htw _ (ck_9 _ (List.mem_of_getElem? (i := 16) rfl))) (fun _ h9 => h9) hf_158 dX12_keepText_126 ?_
  refine lv_iconst (v := 4) hx hb dX12_keepText_129 (by decide) ?_
  have hPc := hP.sub (ws' := [(mdn, .inl (cmdn, 8, .inl fmdn))]) [1] rfl
  have hKc := hK.sub (tys' := [(cmdn, .int)]) [9] rfl
  have hDc := hD.sub (ws' := [(mdn, .inl (cmdn, 8, .inl fmdn))]) [1] (by decide) rfl
  have hFc := va_free (wc := [(mdn, .inl (cmdn, 8, .inl fmdn))]) hD hS hA [1] rfl
  refine va_callv (va_runS (As := [.ref mdn, .int 4]) (rest := []) ⟨hx, hb, hml, hown, htw⟩ (mm_copies l dC dI mdn 4 8 cmdn fmdn H.size (by decide) (by decide)) (va_cwS 2 htw (xg_S (ck_11 _ (List.mem_of_getElem? (i := 19) rfl)) (ck_11 _ (List.mem_of_getElem? (i := 20) rfl)) (ck_1 _ (List.mem_of_getElem? (i := 5) rfl)) (ck_11 _ (List.mem_of_getElem? (i := 21) rfl))) rfl rfl rfl (by decide +kernel) ⟨Nat.le_of_ble_eq_true rfl, Nat.le_of_ble_eq_true rfl⟩) ⟨fun a U g mk q => by obtain ⟨q0, q1, qP, qK, qD⟩ := q; exact ⟨q0, q1, qP, va_K.moved (u := U) (U := U.calling g mk a) (Vm.Alike.refl U.vm) qK, qD⟩, fun U hU hW => ⟨rfl, by rw [hU], by rw [hU]; exact hPc, va_K.moved hW.alike hKc, hDc.weaken (fun _ _ _ _ => trivial)⟩⟩ rfl rfl hl.1 rfl (lv_room (Nat.le_of_ble_eq_true rfl)) dX12_keepText_130 ⟨Nat.le_of_ble_eq_true rfl, Nat.le_of_ble_eq_true rfl⟩) hS (fun q _ h => hFc q h) hFc (fun u_200 t H1 locs ht hvm hw hB hz1 hk1 hS => ?_)
  try dsimp only at hw
  obtain ⟨hP1, hK1, hD1⟩ := hB
  rw [ht] at hP1
  have hK1 := va_K.moved hvm.symm hK1
  have hP1 : va_P (dC, dI) vwCl [(mdn, .inl (cmdn, 8, .inl u_200))] H1 := hP1
  have hD1 : va_D (va_A [(mdn, .inl (cmdn, 8, .inl fmdn))] H.size) [(mdn, .inl (cmdn, 8, .inl u_200))] := hD1
  have hK1 : va_K (dC, dI) vwCl [] s := hK1
  obtain ⟨hP, hD⟩ := va_join (wr := [(mq, .inr (12, fs_141)), (mdo, .inl (cmdo, 8, .inr (.inl fmdo))), (mdh, .inl (cmdh, 24, .inl fmdh)), (mnn, .inl (cmnn, 12, .inl fmnn)), (mnh, .inl (cmnh, 264, .inl fmnh)), (mkn, .inl (cmkn, 128, .inl fmkn)), (mpt, .inl (cmpt, 128, .inl fmpt)), (mot, .inl (cmot, 128, .inl fmot)), (msk, .inl (cmsk, 14, .inl u_173)), (mln, .inl (cmln, 8, .inl u_176)), (mlh, .inl (cmlh, 24, .inl u_179)), (mfn, .inl (cmfn, 8, .inl u_182)), (mfi, .inl (cmfi, 8, .inl u_185)), (mla, .inl (cmla, 8, .inl u_188)), (mpn, .inl (cmpn, 12, .inl u_191)), (mbo, .inl (cmbo, 12, .inr (.inl u_194))), (mdi, .inl (cmdi, 12, .inr (.inl u_197)))]) (w1 := [(mdn, .inl (cmdn, 8, .inl u_200))]) hP hD [1] [0, 2, 3, 4, 5, 6, 7, 8, 9, 10, 11, 12, 13, 14, 15, 16, 17] rfl rfl (by decide) (by decide) hk1 hFc hP1 hD1
  generalize H1 = H at hP hS ⊢
  have hP : va_P (dC, dI) vwCl [(mq, .inr (12, fs_141)), (mdo, .inl (cmdo, 8, .inr (.inl fmdo))), (mdh, .inl (cmdh, 24, .inl fmdh)), (mnn, .inl (cmnn, 12, .inl fmnn)), (mnh, .inl (cmnh, 264, .inl fmnh)), (mkn, .inl (cmkn, 128, .inl fmkn)), (mpt, .inl (cmpt, 128, .inl fmpt)), (mot, .inl (cmot, 128, .inl fmot)), (msk, .inl (cmsk, 14, .inl u_173)), (mln, .inl (cmln, 8, .inl u_176)), (mlh, .inl (cmlh, 24, .inl u_179)), (mfn, .inl (cmfn, 8, .inl u_182)), (mfi, .inl (cmfi, 8, .inl u_185)), (mla, .inl (cmla, 8, .inl u_188)), (mpn, .inl (cmpn, 12, .inl u_191)), (mbo, .inl (cmbo, 12, .inr (.inl u_194))), (mdi, .inl (cmdi, 12, .inr (.inl u_197))), (mdn, .inl (cmdn, 8, .inl u_200))] H := hP
  have hD : va_D A [(mq, .inr (12, fs_141)), (mdo, .inl (cmdo, 8, .inr (.inl fmdo))), (mdh, .inl (cmdh, 24, .inl fmdh)), (mnn, .inl (cmnn, 12, .inl fmnn)), (mnh, .inl (cmnh, 264, .inl fmnh)), (mkn, .inl (cmkn, 128, .inl fmkn)), (mpt, .inl (cmpt, 128, .inl fmpt)), (mot, .inl (cmot, 128, .inl fmot)), (msk, .inl (cmsk, 14, .inl u_173)), (mln, .inl (cmln, 8, .inl u_176)), (mlh, .inl (cmlh, 24, .inl u_179)), (mfn, .inl (cmfn, 8, .inl u_182)), (mfi, .inl (cmfi, 8, .inl u_185)), (mla, .inl (cmla, 8, .inl u_188)), (mpn, .inl (cmpn, 12, .inl u_191)), (mbo, .inl (cmbo, 12, .inr (.inl u_194))), (mdi, .inl (cmdi, 12, .inr (.inl u_197))), (mdn, .inl (cmdn, 8, .inl u_200))] := hD
  refine W.widen (k := 0) (n := 0) (by omega) (by omega) ?_
  refine lv_aload_n hx hb dX12_keepText_133 rfl (lv_at hl 0 rfl) ?_
  refine va_get (D := (dC, dI)) (ci := 12) (v := .ref mdo) (C := RX12) (T := TX12) (N := 76) hx hb htw inlX12 hown hK hP 0 rfl rfl 37 (by decide) (htw _ (ck_9 _ (List.mem_of_getElem? (i := 17) rfl))) (fun _ h9 => h9) hf_159 dX12_keepText_134 ?_
  refine lv_iconst (v := 4) hx hb dX12_keepText_137 (by decide) ?_
  have hPc := hP.sub (ws' := [(mdo, .inl (cmdo, 8, .inr (.inl fmdo)))]) [1] rfl
  have hKc := hK.sub (tys' := [(cmdo, .long)]) [10] rfl
  have hDc := hD.sub (ws' := [(mdo, .inl (cmdo, 8, .inr (.inl fmdo)))]) [1] (by decide) rfl
  have hFc := va_free (wc := [(mdo, .inl (cmdo, 8, .inr (.inl fmdo)))]) hD hS hA [1] rfl
  refine va_callv (va_runS (As := [.ref mdo, .int 4]) (rest := []) ⟨hx, hb, hml, hown, htw⟩ (mm_copiesL l dC dI mdo 4 8 cmdo fmdo H.size (by decide) (by decide)) (va_cwS 2 htw (xg_S (ck_11 _ (List.mem_of_getElem? (i := 22) rfl)) (ck_11 _ (List.mem_of_getElem? (i := 23) rfl)) (ck_1 _ (List.mem_of_getElem? (i := 5) rfl)) (ck_12 _ (List.mem_of_getElem? (i := 0) rfl))) rfl rfl rfl (by decide +kernel) ⟨Nat.le_of_ble_eq_true rfl, Nat.le_of_ble_eq_true rfl⟩) ⟨fun a U g mk q => by obtain ⟨q0, q1, qP, qK, qD⟩ := q; exact ⟨q0, q1, qP, va_K.moved (u := U) (U := U.calling g mk a) (Vm.Alike.refl U.vm) qK, qD⟩, fun U hU hW => ⟨rfl, by rw [hU], by rw [hU]; exact hPc, va_K.moved hW.alike hKc, hDc.weaken (fun _ _ _ _ => trivial)⟩⟩ rfl rfl hl.1 rfl (lv_room (Nat.le_of_ble_eq_true rfl)) dX12_keepText_138 ⟨Nat.le_of_ble_eq_true rfl, Nat.le_of_ble_eq_true rfl⟩) hS (fun q _ h => hFc q h) hFc (fun u_203 t H1 locs ht hvm hw hB hz1 hk1 hS => ?_)
  try dsimp only at hw
  obtain ⟨hP1, hK1, hD1⟩ := hB
  rw [ht] at hP1
  have hK1 := va_K.moved hvm.symm hK1
  have hP1 : va_P (dC, dI) vwCl [(mdo, .inl (cmdo, 8, .inr (.inl u_203)))] H1 := hP1
  have hD1 : va_D (va_A [(mdo, .inl (cmdo, 8, .inr (.inl fmdo)))] H.size) [(mdo, .inl (cmdo, 8, .inr (.inl u_203)))] := hD1
  have hK1 : va_K (dC, dI) vwCl [] s := hK1
  obtain ⟨hP, hD⟩ := va_join (wr := [(mq, .inr (12, fs_141)), (mdh, .inl (cmdh, 24, .inl fmdh)), (mnn, .inl (cmnn, 12, .inl fmnn)), (mnh, .inl (cmnh, 264, .inl fmnh)), (mkn, .inl (cmkn, 128, .inl fmkn)), (mpt, .inl (cmpt, 128, .inl fmpt)), (mot, .inl (cmot, 128, .inl fmot)), (msk, .inl (cmsk, 14, .inl u_173)), (mln, .inl (cmln, 8, .inl u_176)), (mlh, .inl (cmlh, 24, .inl u_179)), (mfn, .inl (cmfn, 8, .inl u_182)), (mfi, .inl (cmfi, 8, .inl u_185)), (mla, .inl (cmla, 8, .inl u_188)), (mpn, .inl (cmpn, 12, .inl u_191)), (mbo, .inl (cmbo, 12, .inr (.inl u_194))), (mdi, .inl (cmdi, 12, .inr (.inl u_197))), (mdn, .inl (cmdn, 8, .inl u_200))]) (w1 := [(mdo, .inl (cmdo, 8, .inr (.inl u_203)))]) hP hD [1] [0, 2, 3, 4, 5, 6, 7, 8, 9, 10, 11, 12, 13, 14, 15, 16, 17] rfl rfl (by decide) (by decide) hk1 hFc hP1 hD1
  generalize H1 = H at hP hS ⊢
  have hP : va_P (dC, dI) vwCl [(mq, .inr (12, fs_141)), (mdh, .inl (cmdh, 24, .inl fmdh)), (mnn, .inl (cmnn, 12, .inl fmnn)), (mnh, .inl (cmnh, 264, .inl fmnh)), (mkn, .inl (cmkn, 128, .inl fmkn)), (mpt, .inl (cmpt, 128, .inl fmpt)), (mot, .inl (cmot, 128, .inl fmot)), (msk, .inl (cmsk, 14, .inl u_173)), (mln, .inl (cmln, 8, .inl u_176)), (mlh, .inl (cmlh, 24, .inl u_179)), (mfn, .inl (cmfn, 8, .inl u_182)), (mfi, .inl (cmfi, 8, .inl u_185)), (mla, .inl (cmla, 8, .inl u_188)), (mpn, .inl (cmpn, 12, .inl u_191)), (mbo, .inl (cmbo, 12, .inr (.inl u_194))), (mdi, .inl (cmdi, 12, .inr (.inl u_197))), (mdn, .inl (cmdn, 8, .inl u_200)), (mdo, .inl (cmdo, 8, .inr (.inl u_203)))] H := hP
  have hD : va_D A [(mq, .inr (12, fs_141)), (mdh, .inl (cmdh, 24, .inl fmdh)), (mnn, .inl (cmnn, 12, .inl fmnn)), (mnh, .inl (cmnh, 264, .inl fmnh)), (mkn, .inl (cmkn, 128, .inl fmkn)), (mpt, .inl (cmpt, 128, .inl fmpt)), (mot, .inl (cmot, 128, .inl fmot)), (msk, .inl (cmsk, 14, .inl u_173)), (mln, .inl (cmln, 8, .inl u_176)), (mlh, .inl (cmlh, 24, .inl u_179)), (mfn, .inl (cmfn, 8, .inl u_182)), (mfi, .inl (cmfi, 8, .inl u_185)), (mla, .inl (cmla, 8, .inl u_188)), (mpn, .inl (cmpn, 12, .inl u_191)), (mbo, .inl (cmbo, 12, .inr (.inl u_194))), (mdi, .inl (cmdi, 12, .inr (.inl u_197))), (mdn, .inl (cmdn, 8, .inl u_200)), (mdo, .inl (cmdo, 8, .inr (.inl u_203)))] := hD
  refine W.widen (k := 0) (n := 0) (by omega) (by omega) ?_
  refine lv_aload_n hx hb dX12_keepText_141 rfl (lv_at hl 0 rfl) ?_
  refine va_get (D := (dC, dI)) (ci := 12) (v := .ref mdh) (C := RX12) (T := TX12) (N := 76) hx hb htw inlX12 hown hK hP 0 rfl rfl 38 (by decide) (htw _ (ck_9 _ (List.mem_of_getElem? (i := 18) rfl))) (fun _ h9 => h9) hf_160 dX12_keepText_142 ?_
  refine lv_bipush (v := 12) hx hb dX12_keepText_145 (by decide) ?_
  have hPc := hP.sub (ws' := [(mdh, .inl (cmdh, 24, .inl fmdh))]) [1] rfl
  have hKc := hK.sub (tys' := [(cmdh, .int)]) [11] rfl
  have hDc := hD.sub (ws' := [(mdh, .inl (cmdh, 24, .inl fmdh))]) [1] (by decide) rfl
  have hFc := va_free (wc := [(mdh, .inl (cmdh, 24, .inl fmdh))]) hD hS hA [1] rfl
  refine va_callv (va_runS (As := [.ref mdh, .int 12]) (rest := []) ⟨hx, hb, hml, hown, htw⟩ (mm_copies l dC dI mdh 12 24 cmdh fmdh H.size (by decide) (by decide)) (va_cwS 2 htw (xg_S (ck_11 _ (List.mem_of_getElem? (i := 19) rfl)) (ck_11 _ (List.mem_of_getElem? (i := 20) rfl)) (ck_1 _ (List.mem_of_getElem? (i := 5) rfl)) (ck_11 _ (List.mem_of_getElem? (i := 21) rfl))) rfl rfl rfl (by decide +kernel) ⟨Nat.le_of_ble_eq_true rfl, Nat.le_of_ble_eq_true rfl⟩) ⟨fun a U g mk q => by obtain ⟨q0, q1, qP, qK, qD⟩ := q; exact ⟨q0, q1, qP, va_K.moved (u := U) (U := U.calling g mk a) (Vm.Alike.refl U.vm) qK, qD⟩, fun U hU hW => ⟨rfl, by rw [hU], by rw [hU]; exact hPc, va_K.moved hW.alike hKc, hDc.weaken (fun _ _ _ _ => trivial)⟩⟩ rfl rfl hl.1 rfl (lv_room (Nat.le_of_ble_eq_true rfl)) dX12_keepText_147 ⟨Nat.le_of_ble_eq_true rfl, Nat.le_of_ble_eq_true rfl⟩) hS (fun q _ h => hFc q h) hFc (fun u_206 t H1 locs ht hvm hw hB hz1 hk1 hS => ?_)
  try dsimp only at hw
  obtain ⟨hP1, hK1, hD1⟩ := hB
  rw [ht] at hP1
  have hK1 := va_K.moved hvm.symm hK1
  have hP1 : va_P (dC, dI) vwCl [(mdh, .inl (cmdh, 24, .inl u_206))] H1 := hP1
  have hD1 : va_D (va_A [(mdh, .inl (cmdh, 24, .inl fmdh))] H.size) [(mdh, .inl (cmdh, 24, .inl u_206))] := hD1
  have hK1 : va_K (dC, dI) vwCl [] s := hK1
  obtain ⟨hP, hD⟩ := va_join (wr := [(mq, .inr (12, fs_141)), (mnn, .inl (cmnn, 12, .inl fmnn)), (mnh, .inl (cmnh, 264, .inl fmnh)), (mkn, .inl (cmkn, 128, .inl fmkn)), (mpt, .inl (cmpt, 128, .inl fmpt)), (mot, .inl (cmot, 128, .inl fmot)), (msk, .inl (cmsk, 14, .inl u_173)), (mln, .inl (cmln, 8, .inl u_176)), (mlh, .inl (cmlh, 24, .inl u_179)), (mfn, .inl (cmfn, 8, .inl u_182)), (mfi, .inl (cmfi, 8, .inl u_185)), (mla, .inl (cmla, 8, .inl u_188)), (mpn, .inl (cmpn, 12, .inl u_191)), (mbo, .inl (cmbo, 12, .inr (.inl u_194))), (mdi, .inl (cmdi, 12, .inr (.inl u_197))), (mdn, .inl (cmdn, 8, .inl u_200)), (mdo, .inl (cmdo, 8, .inr (.inl u_203)))]) (w1 := [(mdh, .inl (cmdh, 24, .inl u_206))]) hP hD [1] [0, 2, 3, 4, 5, 6, 7, 8, 9, 10, 11, 12, 13, 14, 15, 16, 17] rfl rfl (by decide) (by decide) hk1 hFc hP1 hD1
  generalize H1 = H at hP hS ⊢
  have hP : va_P (dC, dI) vwCl [(mq, .inr (12, fs_141)), (mnn, .inl (cmnn, 12, .inl fmnn)), (mnh, .inl (cmnh, 264, .inl fmnh)), (mkn, .inl (cmkn, 128, .inl fmkn)), (mpt, .inl (cmpt, 128, .inl fmpt)), (mot, .inl (cmot, 128, .inl fmot)), (msk, .inl (cmsk, 14, .inl u_173)), (mln, .inl (cmln, 8, .inl u_176)), (mlh, .inl (cmlh, 24, .inl u_179)), (mfn, .inl (cmfn, 8, .inl u_182)), (mfi, .inl (cmfi, 8, .inl u_185)), (mla, .inl (cmla, 8, .inl u_188)), (mpn, .inl (cmpn, 12, .inl u_191)), (mbo, .inl (cmbo, 12, .inr (.inl u_194))), (mdi, .inl (cmdi, 12, .inr (.inl u_197))), (mdn, .inl (cmdn, 8, .inl u_200)), (mdo, .inl (cmdo, 8, .inr (.inl u_203))), (mdh, .inl (cmdh, 24, .inl u_206))] H := hP
  have hD : va_D A [(mq, .inr (12, fs_141)), (mnn, .inl (cmnn, 12, .inl fmnn)), (mnh, .inl (cmnh, 264, .inl fmnh)), (mkn, .inl (cmkn, 128, .inl fmkn)), (mpt, .inl (cmpt, 128, .inl fmpt)), (mot, .inl (cmot, 128, .inl fmot)), (msk, .inl (cmsk, 14, .inl u_173)), (mln, .inl (cmln, 8, .inl u_176)), (mlh, .inl (cmlh, 24, .inl u_179)), (mfn, .inl (cmfn, 8, .inl u_182)), (mfi, .inl (cmfi, 8, .inl u_185)), (mla, .inl (cmla, 8, .inl u_188)), (mpn, .inl (cmpn, 12, .inl u_191)), (mbo, .inl (cmbo, 12, .inr (.inl u_194))), (mdi, .inl (cmdi, 12, .inr (.inl u_197))), (mdn, .inl (cmdn, 8, .inl u_200)), (mdo, .inl (cmdo, 8, .inr (.inl u_203))), (mdh, .inl (cmdh, 24, .inl u_206))] := hD
  refine W.widen (k := 0) (n := 0) (by omega) (by omega) ?_
  refine lv_aload_n hx hb dX12_keepText_150 rfl (lv_at hl 0 rfl) ?_
  refine va_get (D := (dC, dI)) (ci := 12) (v := .ref mnn) (C := RX12) (T := TX12) (N := 76) hx hb htw inlX12 hown hK hP 0 rfl rfl 39 (by decide) (htw _ (ck_9 _ (List.mem_of_getElem? (i := 19) rfl))) (fun _ h9 => h9) hf_161 dX12_keepText_151 ?_
  refine lv_bipush (v := 6) hx hb dX12_keepText_154 (by decide) ?_
  have hPc := hP.sub (ws' := [(mnn, .inl (cmnn, 12, .inl fmnn))]) [1] rfl
  have hKc := hK.sub (tys' := [(cmnn, .int)]) [12] rfl
  have hDc := hD.sub (ws' := [(mnn, .inl (cmnn, 12, .inl fmnn))]) [1] (by decide) rfl
  have hFc := va_free (wc := [(mnn, .inl (cmnn, 12, .inl fmnn))]) hD hS hA [1] rfl
  refine va_callv (va_runS (As := [.ref mnn, .int 6]) (rest := []) ⟨hx, hb, hml, hown, htw⟩ (mm_copies l dC dI mnn 6 12 cmnn fmnn H.size (by decide) (by decide)) (va_cwS 2 htw (xg_S (ck_11 _ (List.mem_of_getElem? (i := 19) rfl)) (ck_11 _ (List.mem_of_getElem? (i := 20) rfl)) (ck_1 _ (List.mem_of_getElem? (i := 5) rfl)) (ck_11 _ (List.mem_of_getElem? (i := 21) rfl))) rfl rfl rfl (by decide +kernel) ⟨Nat.le_of_ble_eq_true rfl, Nat.le_of_ble_eq_true rfl⟩) ⟨fun a U g mk q => by obtain ⟨q0, q1, qP, qK, qD⟩ := q; exact ⟨q0, q1, qP, va_K.moved (u := U) (U := U.calling g mk a) (Vm.Alike.refl U.vm) qK, qD⟩, fun U hU hW => ⟨rfl, by rw [hU], by rw [hU]; exact hPc, va_K.moved hW.alike hKc, hDc.weaken (fun _ _ _ _ => trivial)⟩⟩ rfl rfl hl.1 rfl (lv_room (Nat.le_of_ble_eq_true rfl)) dX12_keepText_156 ⟨Nat.le_of_ble_eq_true rfl, Nat.le_of_ble_eq_true rfl⟩) hS (fun q _ h => hFc q h) hFc (fun u_209 t H1 locs ht hvm hw hB hz1 hk1 hS => ?_)
  try dsimp only at hw
  obtain ⟨hP1, hK1, hD1⟩ := hB
  rw [ht] at hP1
  have hK1 := va_K.moved hvm.symm hK1
  have hP1 : va_P (dC, dI) vwCl [(mnn, .inl (cmnn, 12, .inl u_209))] H1 := hP1
  have hD1 : va_D (va_A [(mnn, .inl (cmnn, 12, .inl fmnn))] H.size) [(mnn, .inl (cmnn, 12, .inl u_209))] := hD1
  have hK1 : va_K (dC, dI) vwCl [] s := hK1
  obtain ⟨hP, hD⟩ := va_join (wr := [(mq, .inr (12, fs_141)), (mnh, .inl (cmnh, 264, .inl fmnh)), (mkn, .inl (cmkn, 128, .inl fmkn)), (mpt, .inl (cmpt, 128, .inl fmpt)), (mot, .inl (cmot, 128, .inl fmot)), (msk, .inl (cmsk, 14, .inl u_173)), (mln, .inl (cmln, 8, .inl u_176)), (mlh, .inl (cmlh, 24, .inl u_179)), (mfn, .inl (cmfn, 8, .inl u_182)), (mfi, .inl (cmfi, 8, .inl u_185)), (mla, .inl (cmla, 8, .inl u_188)), (mpn, .inl (cmpn, 12, .inl u_191)), (mbo, .inl (cmbo, 12, .inr (.inl u_194))), (mdi, .inl (cmdi, 12, .inr (.inl u_197))), (mdn, .inl (cmdn, 8, .inl u_200)), (mdo, .inl (cmdo, 8, .inr (.inl u_203))), (mdh, .inl (cmdh, 24, .inl u_206))]) (w1 := [(mnn, .inl (cmnn, 12, .inl u_209))]) hP hD [1] [0, 2, 3, 4, 5, 6, 7, 8, 9, 10, 11, 12, 13, 14, 15, 16, 17] rfl rfl (by decide) (by decide) hk1 hFc hP1 hD1
  generalize H1 = H at hP hS ⊢
  have hP : va_P (dC, dI) vwCl [(mq, .inr (12, fs_141)), (mnh, .inl (cmnh, 264, .inl fmnh)), (mkn, .inl (cmkn, 128, .inl fmkn)), (mpt, .inl (cmpt, 128, .inl fmpt)), (mot, .inl (cmot, 128, .inl fmot)), (msk, .inl (cmsk, 14, .inl u_173)), (mln, .inl (cmln, 8, .inl u_176)), (mlh, .inl (cmlh, 24, .inl u_179)), (mfn, .inl (cmfn, 8, .inl u_182)), (mfi, .inl (cmfi, 8, .inl u_185)), (mla, .inl (cmla, 8, .inl u_188)), (mpn, .inl (cmpn, 12, .inl u_191)), (mbo, .inl (cmbo, 12, .inr (.inl u_194))), (mdi, .inl (cmdi, 12, .inr (.inl u_197))), (mdn, .inl (cmdn, 8, .inl u_200)), (mdo, .inl (cmdo, 8, .inr (.inl u_203))), (mdh, .inl (cmdh, 24, .inl u_206)), (mnn, .inl (cmnn, 12, .inl u_209))] H := hP
  have hD : va_D A [(mq, .inr (12, fs_141)), (mnh, .inl (cmnh, 264, .inl fmnh)), (mkn, .inl (cmkn, 128, .inl fmkn)), (mpt, .inl (cmpt, 128, .inl fmpt)), (mot, .inl (cmot, 128, .inl fmot)), (msk, .inl (cmsk, 14, .inl u_173)), (mln, .inl (cmln, 8, .inl u_176)), (mlh, .inl (cmlh, 24, .inl u_179)), (mfn, .inl (cmfn, 8, .inl u_182)), (mfi, .inl (cmfi, 8, .inl u_185)), (mla, .inl (cmla, 8, .inl u_188)), (mpn, .inl (cmpn, 12, .inl u_191)), (mbo, .inl (cmbo, 12, .inr (.inl u_194))), (mdi, .inl (cmdi, 12, .inr (.inl u_197))), (mdn, .inl (cmdn, 8, .inl u_200)), (mdo, .inl (cmdo, 8, .inr (.inl u_203))), (mdh, .inl (cmdh, 24, .inl u_206)), (mnn, .inl (cmnn, 12, .inl u_209))] := hD
  refine W.widen (k := 0) (n := 0) (by omega) (by omega) ?_
  refine lv_aload_n hx hb dX12_keepText_159 rfl (lv_at hl 0 rfl) ?_
  refine va_get (D := (dC, dI)) (ci := 12) (v := .ref mnh) (C := RX12) (T := TX12) (N := 76) hx hb htw inlX12 hown hK hP 0 rfl rfl 40 (by decide) (htw _ (ck_9 _ (List.mem_of_getElem? (i := 20) rfl))) (fun _ h9 => h9) hf_162 dX12_keepText_160 ?_
  refine lv_sipush (v := 132) hx hb dX12_keepText_163 (by decide) ?_
  have hPc := hP.sub (ws' := [(mnh, .inl (cmnh, 264, .inl fmnh))]) [1] rfl
  have hKc := hK.sub (tys' := [(cmnh, .int)]) [13] rfl
  have hDc := hD.sub (ws' := [(mnh, .inl (cmnh, 264, .inl fmnh))]) [1] (by decide) rfl
  have hFc := va_free (wc := [(mnh, .inl (cmnh, 264, .inl fmnh))]) hD hS hA [1] rfl
  refine va_callv (va_runS (As := [.ref mnh, .int 132]) (rest := []) ⟨hx, hb, hml, hown, htw⟩ (mm_copies l dC dI mnh 132 264 cmnh fmnh H.size (by decide) (by decide)) (va_cwS 2 htw (xg_S (ck_11 _ (List.mem_of_getElem? (i := 19) rfl)) (ck_11 _ (List.mem_of_getElem? (i := 20) rfl)) (ck_1 _ (List.mem_of_getElem? (i := 5) rfl)) (ck_11 _ (List.mem_of_getElem? (i := 21) rfl))) rfl rfl rfl (by decide +kernel) ⟨Nat.le_of_ble_eq_true rfl, Nat.le_of_ble_eq_true rfl⟩) ⟨fun a U g mk q => by obtain ⟨q0, q1, qP, qK, qD⟩ := q; exact ⟨q0, q1, qP, va_K.moved (u := U) (U := U.calling g mk a) (Vm.Alike.refl U.vm) qK, qD⟩, fun U hU hW => ⟨rfl, by rw [hU], by rw [hU]; exact hPc, va_K.moved hW.alike hKc, hDc.weaken (fun _ _ _ _ => trivial)⟩⟩ rfl rfl hl.1 rfl (lv_room (Nat.le_of_ble_eq_true rfl)) dX12_keepText_166 ⟨Nat.le_of_ble_eq_true rfl, Nat.le_of_ble_eq_true rfl⟩) hS (fun q _ h => hFc q h) hFc (fun u_212 t H1 locs ht hvm hw hB hz1 hk1 hS => ?_)
  try dsimp only at hw
  obtain ⟨hP1, hK1, hD1⟩ := hB
  rw [ht] at hP1
  have hK1 := va_K.moved hvm.symm hK1
  have hP1 : va_P (dC, dI) vwCl [(mnh, .inl (cmnh, 264, .inl u_212))] H1 := hP1
  have hD1 : va_D (va_A [(mnh, .inl (cmnh, 264, .inl fmnh))] H.size) [(mnh, .inl (cmnh, 264, .inl u_212))] := hD1
  have hK1 : va_K (dC, dI) vwCl [] s := hK1
  obtain ⟨hP, hD⟩ := va_join (wr := [(mq, .inr (12, fs_141)), (mkn, .inl (cmkn, 128, .inl fmkn)), (mpt, .inl (cmpt, 128, .inl fmpt)), (mot, .inl (cmot, 128, .inl fmot)), (msk, .inl (cmsk, 14, .inl u_173)), (mln, .inl (cmln, 8, .inl u_176)), (mlh, .inl (cmlh, 24, .inl u_179)), (mfn, .inl (cmfn, 8, .inl u_182)), (mfi, .inl (cmfi, 8, .inl u_185)), (mla, .inl (cmla, 8, .inl u_188)), (mpn, .inl (cmpn, 12, .inl u_191)), (mbo, .inl (cmbo, 12, .inr (.inl u_194))), (mdi, .inl (cmdi, 12, .inr (.inl u_197))), (mdn, .inl (cmdn, 8, .inl u_200)), (mdo, .inl (cmdo, 8, .inr (.inl u_203))), (mdh, .inl (cmdh, 24, .inl u_206)), (mnn, .inl (cmnn, 12, .inl u_209))]) (w1 := [(mnh, .inl (cmnh, 264, .inl u_212))]) hP hD [1] [0, 2, 3, 4, 5, 6, 7, 8, 9, 10, 11, 12, 13, 14, 15, 16, 17] rfl rfl (by decide) (by decide) hk1 hFc hP1 hD1
  generalize H1 = H at hP hS ⊢
  have hP : va_P (dC, dI) vwCl [(mq, .inr (12, fs_141)), (mkn, .inl (cmkn, 128, .inl fmkn)), (mpt, .inl (cmpt, 128, .inl fmpt)), (mot, .inl (cmot, 128, .inl fmot)), (msk, .inl (cmsk, 14, .inl u_173)), (mln, .inl (cmln, 8, .inl u_176)), (mlh, .inl (cmlh, 24, .inl u_179)), (mfn, .inl (cmfn, 8, .inl u_182)), (mfi, .inl (cmfi, 8, .inl u_185)), (mla, .inl (cmla, 8, .inl u_188)), (mpn, .inl (cmpn, 12, .inl u_191)), (mbo, .inl (cmbo, 12, .inr (.inl u_194))), (mdi, .inl (cmdi, 12, .inr (.inl u_197))), (mdn, .inl (cmdn, 8, .inl u_200)), (mdo, .inl (cmdo, 8, .inr (.inl u_203))), (mdh, .inl (cmdh, 24, .inl u_206)), (mnn, .inl (cmnn, 12, .inl u_209)), (mnh, .inl (cmnh, 264, .inl u_212))] H := hP
  have hD : va_D A [(mq, .inr (12, fs_141)), (mkn, .inl (cmkn, 128, .inl fmkn)), (mpt, .inl (cmpt, 128, .inl fmpt)), (mot, .inl (cmot, 128, .inl fmot)), (msk, .inl (cmsk, 14, .inl u_173)), (mln, .inl (cmln, 8, .inl u_176)), (mlh, .inl (cmlh, 24, .inl u_179)), (mfn, .inl (cmfn, 8, .inl u_182)), (mfi, .inl (cmfi, 8, .inl u_185)), (mla, .inl (cmla, 8, .inl u_188)), (mpn, .inl (cmpn, 12, .inl u_191)), (mbo, .inl (cmbo, 12, .inr (.inl u_194))), (mdi, .inl (cmdi, 12, .inr (.inl u_197))), (mdn, .inl (cmdn, 8, .inl u_200)), (mdo, .inl (cmdo, 8, .inr (.inl u_203))), (mdh, .inl (cmdh, 24, .inl u_206)), (mnn, .inl (cmnn, 12, .inl u_209)), (mnh, .inl (cmnh, 264, .inl u_212))] := hD
  refine W.widen (k := 0) (n := 0) (by omega) (by omega) ?_
  refine lv_aload_n hx hb dX12_keepText_169 rfl (lv_at hl 0 rfl) ?_
  refine va_get (D := (dC, dI)) (ci := 12) (v := .ref mkn) (C := RX12) (T := TX12) (N := 76) hx hb htw inlX12 hown hK hP 0 rfl rfl 41 (by decide) (htw _ (ck_9 _ (List.mem_of_getElem? (i := 21) rfl))) (fun _ h9 => h9) hf_163 dX12_keepText_170 ?_
  refine lv_bipush (v := 64) hx hb dX12_keepText_173 (by decide) ?_
  have hPc := hP.sub (ws' := [(mkn, .inl (cmkn, 128, .inl fmkn))]) [1] rfl
  have hKc := hK.sub (tys' := [(cmkn, .int)]) [14] rfl
  have hDc := hD.sub (ws' := [(mkn, .inl (cmkn, 128, .inl fmkn))]) [1] (by decide) rfl
  have hFc := va_free (wc := [(mkn, .inl (cmkn, 128, .inl fmkn))]) hD hS hA [1] rfl
  refine va_callv (va_runS (As := [.ref mkn, .int 64]) (rest := []) ⟨hx, hb, hml, hown, htw⟩ (mm_copies l dC dI mkn 64 128 cmkn fmkn H.size (by decide) (by decide)) (va_cwS 2 htw (xg_S (ck_11 _ (List.mem_of_getElem? (i := 19) rfl)) (ck_11 _ (List.mem_of_getElem? (i := 20) rfl)) (ck_1 _ (List.mem_of_getElem? (i := 5) rfl)) (ck_11 _ (List.mem_of_getElem? (i := 21) rfl))) rfl rfl rfl (by decide +kernel) ⟨Nat.le_of_ble_eq_true rfl, Nat.le_of_ble_eq_true rfl⟩) ⟨fun a U g mk q => by obtain ⟨q0, q1, qP, qK, qD⟩ := q; exact ⟨q0, q1, qP, va_K.moved (u := U) (U := U.calling g mk a) (Vm.Alike.refl U.vm) qK, qD⟩, fun U hU hW => ⟨rfl, by rw [hU], by rw [hU]; exact hPc, va_K.moved hW.alike hKc, hDc.weaken (fun _ _ _ _ => trivial)⟩⟩ rfl rfl hl.1 rfl (lv_room (Nat.le_of_ble_eq_true rfl)) dX12_keepText_175 ⟨Nat.le_of_ble_eq_true rfl, Nat.le_of_ble_eq_true rfl⟩) hS (fun q _ h => hFc q h) hFc (fun u_215 t H1 locs ht hvm hw hB hz1 hk1 hS => ?_)
  try dsimp only at hw
  obtain ⟨hP1, hK1, hD1⟩ := hB
  rw [ht] at hP1
  have hK1 := va_K.moved hvm.symm hK1
  have hP1 : va_P (dC, dI) vwCl [(mkn, .inl (cmkn, 128, .inl u_215))] H1 := hP1
  have hD1 : va_D (va_A [(mkn, .inl (cmkn, 128, .inl fmkn))] H.size) [(mkn, .inl (cmkn, 128, .inl u_215))] := hD1
  have hK1 : va_K (dC, dI) vwCl [] s := hK1
  obtain ⟨hP, hD⟩ := va_join (wr := [(mq, .inr (12, fs_141)), (mpt, .inl (cmpt, 128, .inl fmpt)), (mot, .inl (cmot, 128, .inl fmot)), (msk, .inl (cmsk, 14, .inl u_173)), (mln, .inl (cmln, 8, .inl u_176)), (mlh, .inl (cmlh, 24, .inl u_179)), (mfn, .inl (cmfn, 8, .inl u_182)), (mfi, .inl (cmfi, 8, .inl u_185)), (mla, .inl (cmla, 8, .inl u_188)), (mpn, .inl (cmpn, 12, .inl u_191)), (mbo, .inl (cmbo, 12, .inr (.inl u_194))), (mdi, .inl (cmdi, 12, .inr (.inl u_197))), (mdn, .inl (cmdn, 8, .inl u_200)), (mdo, .inl (cmdo, 8, .inr (.inl u_203))), (mdh, .inl (cmdh, 24, .inl u_206)), (mnn, .inl (cmnn, 12, .inl u_209)), (mnh, .inl (cmnh, 264, .inl u_212))]) (w1 := [(mkn, .inl (cmkn, 128, .inl u_215))]) hP hD [1] [0, 2, 3, 4, 5, 6, 7, 8, 9, 10, 11, 12, 13, 14, 15, 16, 17] rfl rfl (by decide) (by decide) hk1 hFc hP1 hD1
  generalize H1 = H at hP hS ⊢
  have hP : va_P (dC, dI) vwCl [(mq, .inr (12, fs_141)), (mpt, .inl (cmpt, 128, .inl fmpt)), (mot, .inl (cmot, 128, .inl fmot)), (msk, .inl (cmsk, 14, .inl u_173)), (mln, .inl (cmln, 8, .inl u_176)), (mlh, .inl (cmlh, 24, .inl u_179)), (mfn, .inl (cmfn, 8, .inl u_182)), (mfi, .inl (cmfi, 8, .inl u_185)), (mla, .inl (cmla, 8, .inl u_188)), (mpn, .inl (cmpn, 12, .inl u_191)), (mbo, .inl (cmbo, 12, .inr (.inl u_194))), (mdi, .inl (cmdi, 12, .inr (.inl u_197))), (mdn, .inl (cmdn, 8, .inl u_200)), (mdo, .inl (cmdo, 8, .inr (.inl u_203))), (mdh, .inl (cmdh, 24, .inl u_206)), (mnn, .inl (cmnn, 12, .inl u_209)), (mnh, .inl (cmnh, 264, .inl u_212)), (mkn, .inl (cmkn, 128, .inl u_215))] H := hP
  have hD : va_D A [(mq, .inr (12, fs_141)), (mpt, .inl (cmpt, 128, .inl fmpt)), (mot, .inl (cmot, 128, .inl fmot)), (msk, .inl (cmsk, 14, .inl u_173)), (mln, .inl (cmln, 8, .inl u_176)), (mlh, .inl (cmlh, 24, .inl u_179)), (mfn, .inl (cmfn, 8, .inl u_182)), (mfi, .inl (cmfi, 8, .inl u_185)), (mla, .inl (cmla, 8, .inl u_188)), (mpn, .inl (cmpn, 12, .inl u_191)), (mbo, .inl (cmbo, 12, .inr (.inl u_194))), (mdi, .inl (cmdi, 12, .inr (.inl u_197))), (mdn, .inl (cmdn, 8, .inl u_200)), (mdo, .inl (cmdo, 8, .inr (.inl u_203))), (mdh, .inl (cmdh, 24, .inl u_206)), (mnn, .inl (cmnn, 12, .inl u_209)), (mnh, .inl (cmnh, 264, .inl u_212)), (mkn, .inl (cmkn, 128, .inl u_215))] := hD
  refine W.widen (k := 0) (n := 0) (by omega) (by omega) ?_
  refine lv_aload_n hx hb dX12_keepText_178 rfl (lv_at hl 0 rfl) ?_
  refine va_get (D := (dC, dI)) (ci := 12) (v := .ref mpt) (C := RX12) (T := TX12) (N := 76) hx hb htw inlX12 hown hK hP 0 rfl rfl 42 (by decide) (htw _ (ck_9 _ (List.mem_of_getElem? (i := 22) rfl))) (fun _ h9 => h9) hf_164 dX12_keepText_179 ?_
  refine lv_bipush (v := 64) hx hb dX12_keepText_182 (by decide) ?_
  have hPc := hP.sub (ws' := [(mpt, .inl (cmpt, 128, .inl fmpt))]) [1] rfl
  have hKc := hK.sub (tys' := [(cmpt, .int)]) [15] rfl
  have hDc := hD.sub (ws' := [(mpt, .inl (cmpt, 128, .inl fmpt))]) [1] (by decide) rfl
  have hFc := va_free (wc := [(mpt, .inl (cmpt, 128, .inl fmpt))]) hD hS hA [1] rfl
  refine va_callv (va_runS (As := [.ref mpt, .int 64]) (rest := []) ⟨hx, hb, hml, hown, htw⟩ (mm_copies l dC dI mpt 64 128 cmpt fmpt H.size (by decide) (by decide)) (va_cwS 2 htw (xg_S (ck_11 _ (List.mem_of_getElem? (i := 19) rfl)) (ck_11 _ (List.mem_of_getElem? (i := 20) rfl)) (ck_1 _ (List.mem_of_getElem? (i := 5) rfl)) (ck_11 _ (List.mem_of_getElem? (i := 21) rfl))) rfl rfl rfl (by decide +kernel) ⟨Nat.le_of_ble_eq_true rfl, Nat.le_of_ble_eq_true rfl⟩) ⟨fun a U g mk q => by obtain ⟨q0, q1, qP, qK, qD⟩ := q; exact ⟨q0, q1, qP, va_K.moved (u := U) (U := U.calling g mk a) (Vm.Alike.refl U.vm) qK, qD⟩, fun U hU hW => ⟨rfl, by rw [hU], by rw [hU]; exact hPc, va_K.moved hW.alike hKc, hDc.weaken (fun _ _ _ _ => trivial)⟩⟩ rfl rfl hl.1 rfl (lv_room (Nat.le_of_ble_eq_true rfl)) dX12_keepText_184 ⟨Nat.le_of_ble_eq_true rfl, Nat.le_of_ble_eq_true rfl⟩) hS (fun q _ h => hFc q h) hFc (fun u_218 t H1 locs ht hvm hw hB hz1 hk1 hS => ?_)
  try dsimp only at hw
  obtain ⟨hP1, hK1, hD1⟩ := hB
  rw [ht] at hP1
  have hK1 := va_K.moved hvm.symm hK1
  have hP1 : va_P (dC, dI) vwCl [(mpt, .inl (cmpt, 128, .inl u_218))] H1 := hP1
  have hD1 : va_D (va_A [(mpt, .inl (cmpt, 128, .inl fmpt))] H.size) [(mpt, .inl (cmpt, 128, .inl u_218))] := hD1
  have hK1 : va_K (dC, dI) vwCl [] s := hK1
  obtain ⟨hP, hD⟩ := va_join (wr := [(mq, .inr (12, fs_141)), (mot, .inl (cmot, 128, .inl fmot)), (msk, .inl (cmsk, 14, .inl u_173)), (mln, .inl (cmln, 8, .inl u_176)), (mlh, .inl (cmlh, 24, .inl u_179)), (mfn, .inl (cmfn, 8, .inl u_182)), (mfi, .inl (cmfi, 8, .inl u_185)), (mla, .inl (cmla, 8, .inl u_188)), (mpn, .inl (cmpn, 12, .inl u_191)), (mbo, .inl (cmbo, 12, .inr (.inl u_194))), (mdi, .inl (cmdi, 12, .inr (.inl u_197))), (mdn, .inl (cmdn, 8, .inl u_200)), (mdo, .inl (cmdo, 8, .inr (.inl u_203))), (mdh, .inl (cmdh, 24, .inl u_206)), (mnn, .inl (cmnn, 12, .inl u_209)), (mnh, .inl (cmnh, 264, .inl u_212)), (mkn, .inl (cmkn, 128, .inl u_215))]) (w1 := [(mpt, .inl (cmpt, 128, .inl u_218))]) hP hD [1] [0, 2, 3, 4, 5, 6, 7, 8, 9, 10, 11, 12, 13, 14, 15, 16, 17] rfl rfl (by decide) (by decide) hk1 hFc hP1 hD1
  generalize H1 = H at hP hS ⊢
  have hP : va_P (dC, dI) vwCl [(mq, .inr (12, fs_141)), (mot, .inl (cmot, 128, .inl fmot)), (msk, .inl (cmsk, 14, .inl u_173)), (mln, .inl (cmln, 8, .inl u_176)), (mlh, .inl (cmlh, 24, .inl u_179)), (mfn, .inl (cmfn, 8, .inl u_182)), (mfi, .inl (cmfi, 8, .inl u_185)), (mla, .inl (cmla, 8, .inl u_188)), (mpn, .inl (cmpn, 12, .inl u_191)), (mbo, .inl (cmbo, 12, .inr (.inl u_194))), (mdi, .inl (cmdi, 12, .inr (.inl u_197))), (mdn, .inl (cmdn, 8, .inl u_200)), (mdo, .inl (cmdo, 8, .inr (.inl u_203))), (mdh, .inl (cmdh, 24, .inl u_206)), (mnn, .inl (cmnn, 12, .inl u_209)), (mnh, .inl (cmnh, 264, .inl u_212)), (mkn, .inl (cmkn, 128, .inl u_215)), (mpt, .inl (cmpt, 128, .inl u_218))] H := hP
  have hD : va_D A [(mq, .inr (12, fs_141)), (mot, .inl (cmot, 128, .inl fmot)), (msk, .inl (cmsk, 14, .inl u_173)), (mln, .inl (cmln, 8, .inl u_176)), (mlh, .inl (cmlh, 24, .inl u_179)), (mfn, .inl (cmfn, 8, .inl u_182)), (mfi, .inl (cmfi, 8, .inl u_185)), (mla, .inl (cmla, 8, .inl u_188)), (mpn, .inl (cmpn, 12, .inl u_191)), (mbo, .inl (cmbo, 12, .inr (.inl u_194))), (mdi, .inl (cmdi, 12, .inr (.inl u_197))), (mdn, .inl (cmdn, 8, .inl u_200)), (mdo, .inl (cmdo, 8, .inr (.inl u_203))), (mdh, .inl (cmdh, 24, .inl u_206)), (mnn, .inl (cmnn, 12, .inl u_209)), (mnh, .inl (cmnh, 264, .inl u_212)), (mkn, .inl (cmkn, 128, .inl u_215)), (mpt, .inl (cmpt, 128, .inl u_218))] := hD
  refine W.widen (k := 0) (n := 0) (by omega) (by omega) ?_
  refine lv_aload_n hx hb dX12_keepText_187 rfl (lv_at hl 0 rfl) ?_
  refine va_get (D := (dC, dI)) (ci := 12) (v := .ref mot) (C := RX12) (T := TX12) (N := 76) hx hb htw inlX12 hown hK hP 0 rfl rfl 43 (by decide) (htw _ (ck_9 _ (List.mem_of_getElem? (i := 23) rfl))) (fun _ h9 => h9) hf_165 dX12_keepText_188 ?_
  refine lv_bipush (v := 64) hx hb dX12_keepText_191 (by decide) ?_
  have hPc := hP.sub (ws' := [(mot, .inl (cmot, 128, .inl fmot))]) [1] rfl
  have hKc := hK.sub (tys' := [(cmot, .int)]) [16] rfl
  have hDc := hD.sub (ws' := [(mot, .inl (cmot, 128, .inl fmot))]) [1] (by decide) rfl
  have hFc := va_free (wc := [(mot, .inl (cmot, 128, .inl fmot))]) hD hS hA [1] rfl
  refine va_callv (va_runS (As := [.ref mot, .int 64]) (rest := []) ⟨hx, hb, hml, hown, htw⟩ (mm_copies l dC dI mot 64 128 cmot fmot H.size (by decide) (by decide)) (va_cwS 2 htw (xg_S (ck_11 _ (List.mem_of_getElem? (i := 19) rfl)) (ck_11 _ (List.mem_of_getElem? (i := 20) rfl)) (ck_1 _ (List.mem_of_getElem? (i := 5) rfl)) (ck_11 _ (List.mem_of_getElem? (i := 21) rfl))) rfl rfl rfl (by decide +kernel) ⟨Nat.le_of_ble_eq_true rfl, Nat.le_of_ble_eq_true rfl⟩) ⟨fun a U g mk q => by obtain ⟨q0, q1, qP, qK, qD⟩ := q; exact ⟨q0, q1, qP, va_K.moved (u := U) (U := U.calling g mk a) (Vm.Alike.refl U.vm) qK, qD⟩, fun U hU hW => ⟨rfl, by rw [hU], by rw [hU]; exact hPc, va_K.moved hW.alike hKc, hDc.weaken (fun _ _ _ _ => trivial)⟩⟩ rfl rfl hl.1 rfl (lv_room (Nat.le_of_ble_eq_true rfl)) dX12_keepText_193 ⟨Nat.le_of_ble_eq_true rfl, Nat.le_of_ble_eq_true rfl⟩) hS (fun q _ h => hFc q h) hFc (fun u_221 t H1 locs ht hvm hw hB hz1 hk1 hS => ?_)
  try dsimp only at hw
  obtain ⟨hP1, hK1, hD1⟩ := hB
  rw [ht] at hP1
  have hK1 := va_K.moved hvm.symm hK1
  have hP1 : va_P (dC, dI) vwCl [(mot, .inl (cmot, 128, .inl u_221))] H1 := hP1
  have hD1 : va_D (va_A [(mot, .inl (cmot, 128, .inl fmot))] H.size) [(mot, .inl (cmot, 128, .inl u_221))] := hD1
  have hK1 : va_K (dC, dI) vwCl [] s := hK1
  obtain ⟨hP, hD⟩ := va_join (wr := [(mq, .inr (12, fs_141)), (msk, .inl (cmsk, 14, .inl u_173)), (mln, .inl (cmln, 8, .inl u_176)), (mlh, .inl (cmlh, 24, .inl u_179)), (mfn, .inl (cmfn, 8, .inl u_182)), (mfi, .inl (cmfi, 8, .inl u_185)), (mla, .inl (cmla, 8, .inl u_188)), (mpn, .inl (cmpn, 12, .inl u_191)), (mbo, .inl (cmbo, 12, .inr (.inl u_194))), (mdi, .inl (cmdi, 12, .inr (.inl u_197))), (mdn, .inl (cmdn, 8, .inl u_200)), (mdo, .inl (cmdo, 8, .inr (.inl u_203))), (mdh, .inl (cmdh, 24, .inl u_206)), (mnn, .inl (cmnn, 12, .inl u_209)), (mnh, .inl (cmnh, 264, .inl u_212)), (mkn, .inl (cmkn, 128, .inl u_215)), (mpt, .inl (cmpt, 128, .inl u_218))]) (w1 := [(mot, .inl (cmot, 128, .inl u_221))]) hP hD [1] [0, 2, 3, 4, 5, 6, 7, 8, 9, 10, 11, 12, 13, 14, 15, 16, 17] rfl rfl (by decide) (by decide) hk1 hFc hP1 hD1
  generalize H1 = H at hP hS ⊢
  have hP : va_P (dC, dI) vwCl [(mq, .inr (12, fs_141)), (msk, .inl (cmsk, 14, .inl u_173)), (mln, .inl (cmln, 8, .inl u_176)), (mlh, .inl (cmlh, 24, .inl u_179)), (mfn, .inl (cmfn, 8, .inl u_182)), (mfi, .inl (cmfi, 8, .inl u_185)), (mla, .inl (cmla, 8, .inl u_188)), (mpn, .inl (cmpn, 12, .inl u_191)), (mbo, .inl (cmbo, 12, .inr (.inl u_194))), (mdi, .inl (cmdi, 12, .inr (.inl u_197))), (mdn, .inl (cmdn, 8, .inl u_200)), (mdo, .inl (cmdo, 8, .inr (.inl u_203))), (mdh, .inl (cmdh, 24, .inl u_206)), (mnn, .inl (cmnn, 12, .inl u_209)), (mnh, .inl (cmnh, 264, .inl u_212)), (mkn, .inl (cmkn, 128, .inl u_215)), (mpt, .inl (cmpt, 128, .inl u_218)), (mot, .inl (cmot, 128, .inl u_221))] H := hP
  have hD : va_D A [(mq, .inr (12, fs_141)), (msk, .inl (cmsk, 14, .inl u_173)), (mln, .inl (cmln, 8, .inl u_176)), (mlh, .inl (cmlh, 24, .inl u_179)), (mfn, .inl (cmfn, 8, .inl u_182)), (mfi, .inl (cmfi, 8, .inl u_185)), (mla, .inl (cmla, 8, .inl u_188)), (mpn, .inl (cmpn, 12, .inl u_191)), (mbo, .inl (cmbo, 12, .inr (.inl u_194))), (mdi, .inl (cmdi, 12, .inr (.inl u_197))), (mdn, .inl (cmdn, 8, .inl u_200)), (mdo, .inl (cmdo, 8, .inr (.inl u_203))), (mdh, .inl (cmdh, 24, .inl u_206)), (mnn, .inl (cmnn, 12, .inl u_209)), (mnh, .inl (cmnh, 264, .inl u_212)), (mkn, .inl (cmkn, 128, .inl u_215)), (mpt, .inl (cmpt, 128, .inl u_218)), (mot, .inl (cmot, 128, .inl u_221))] := hD
  refine W.widen (k := 0) (n := 0) (by omega) (by omega) ?_
  refine lv_aload_n hx hb dX12_keepText_196 rfl (lv_at hl 0 rfl) ?_
  refine lv_aload_n hx hb dX12_keepText_197 rfl (lv_at hl 0 rfl) ?_
  refine va_get (D := (dC, dI)) (ci := 12) (v := .int 0) (C := RX12) (T := TX12) (N := 76) hx hb htw inlX12 hown hK hP 0 rfl rfl 16 (by decide) (htw _ (ck_11 _ (List.mem_of_getElem? (i := 13) rfl))) (fun _ h9 => h9) hf_170 dX12_keepText_198 ?_
  refine va_put (D := (dC, dI)) (ci := 12) (v := .int 0) (ty := tyX12 58) (C := RX12) (T := TX12) (N := 76) hx hb htw inlX12 tyX12 tyX12_ok nmX12 hown hK hP hD hS 0 rfl rfl 58 (by decide) (htw _ (ck_11 _ (List.mem_of_getElem? (i := 15) rfl))) (fun _ h9 => h9) rfl (by decide +kernel) rfl rfl (by rw [hlen_142]; decide) dX12_keepText_201 (fun H locs hP hD hS => ?_)
  obtain ⟨fs_223, efs_223⟩ : ∃ g : List Value, g = (fs_141).set 58 (.int 0) := ⟨_, rfl⟩
  have hlen_224 : fs_223.length = 76 := by rw [efs_223, List.length_set]; exact hlen_142
  have hf_225 : fs_223[18]? = some (.int 0) := by rw [efs_223, List.getElem?_set_ne (by decide)]; exact hf_143
  have hf_226 : fs_223[19]? = some (.int 0) := by rw [efs_223, List.getElem?_set_ne (by decide)]; exact hf_144
  have hf_227 : fs_223[20]? = some (.int 0) := by rw [efs_223, List.getElem?_set_ne (by decide)]; exact hf_145
  have hf_228 : fs_223[21]? = some (.int 0) := by rw [efs_223, List.getElem?_set_ne (by decide)]; exact hf_146
  have hf_229 : fs_223[22]? = some (.int 0) := by rw [efs_223, List.getElem?_set_ne (by decide)]; exact hf_147
  have hf_230 : fs_223[23]? = some (.int 0) := by rw [efs_223, List.getElem?_set_ne (by decide)]; exact hf_148
  have hf_231 : fs_223[24]? = some (.ref msk) := by rw [efs_223, List.getElem?_set_ne (by decide)]; exact hf_149
  have hf_232 : fs_223[28]? = some (.ref mln) := by rw [efs_223, List.getElem?_set_ne (by decide)]; exact hf_150
  have hf_233 : fs_223[29]? = some (.ref mlh) := by rw [efs_223, List.getElem?_set_ne (by decide)]; exact hf_151
  have hf_234 : fs_223[30]? = some (.ref mfn) := by rw [efs_223, List.getElem?_set_ne (by decide)]; exact hf_152
  have hf_235 : fs_223[31]? = some (.ref mfi) := by rw [efs_223, List.getElem?_set_ne (by decide)]; exact hf_153
  have hf_236 : fs_223[32]? = some (.ref mla) := by rw [efs_223, List.getElem?_set_ne (by decide)]; exact hf_154
  have hf_237 : fs_223[33]? = some (.ref mpn) := by rw [efs_223, List.getElem?_set_ne (by decide)]; exact hf_155
  have hf_238 : fs_223[34]? = some (.ref mbo) := by rw [efs_223, List.getElem?_set_ne (by decide)]; exact hf_156
  have hf_239 : fs_223[35]? = some (.ref mdi) := by rw [efs_223, List.getElem?_set_ne (by decide)]; exact hf_157
  have hf_240 : fs_223[36]? = some (.ref mdn) := by rw [efs_223, List.getElem?_set_ne (by decide)]; exact hf_158
  have hf_241 : fs_223[37]? = some (.ref mdo) := by rw [efs_223, List.getElem?_set_ne (by decide)]; exact hf_159
  have hf_242 : fs_223[38]? = some (.ref mdh) := by rw [efs_223, List.getElem?_set_ne (by decide)]; exact hf_160
  have hf_243 : fs_223[39]? = some (.ref mnn) := by rw [efs_223, List.getElem?_set_ne (by decide)]; exact hf_161
  have hf_244 : fs_223[40]? = some (.ref mnh) := by rw [efs_223, List.getElem?_set_ne (by decide)]; exact hf_162
  have hf_245 : fs_223[41]? = some (.ref mkn) := by rw [efs_223, List.getElem?_set_ne (by decide)]; exact hf_163
  have hf_246 : fs_223[42]? = some (.ref mpt) := by rw [efs_223, List.getElem?_set_ne (by decide)]; exact hf_164
  have hf_247 : fs_223[43]? = some (.ref mot) := by rw [efs_223, List.getElem?_set_ne (by decide)]; exact hf_165
  have hf_248 : fs_223[12]? = some (.int 0) := by rw [efs_223, List.getElem?_set_ne (by decide)]; exact hf_166
  have hf_249 : fs_223[13]? = some (.int 0) := by rw [efs_223, List.getElem?_set_ne (by decide)]; exact hf_167
  have hf_250 : fs_223[14]? = some (.int 0) := by rw [efs_223, List.getElem?_set_ne (by decide)]; exact hf_168
  have hf_251 : fs_223[15]? = some (.int 0) := by rw [efs_223, List.getElem?_set_ne (by decide)]; exact hf_169
  have hf_252 : fs_223[16]? = some (.int 0) := by rw [efs_223, List.getElem?_set_ne (by decide)]; exact hf_170
  have hf_253 : fs_223[17]? = some (.int 0) := by rw [efs_223, List.getElem?_set_ne (by decide)]; exact hf_171
  have hf_254 : fs_223[58]? = some (.int 0) := by rw [efs_223]; exact List.getElem?_set_self (by rw [hlen_142]; decide)
  rw [← efs_223] at hP hD
  have hP : va_P (dC, dI) vwCl [(mq, .inr (12, fs_223)), (msk, .inl (cmsk, 14, .inl u_173)), (mln, .inl (cmln, 8, .inl u_176)), (mlh, .inl (cmlh, 24, .inl u_179)), (mfn, .inl (cmfn, 8, .inl u_182)), (mfi, .inl (cmfi, 8, .inl u_185)), (mla, .inl (cmla, 8, .inl u_188)), (mpn, .inl (cmpn, 12, .inl u_191)), (mbo, .inl (cmbo, 12, .inr (.inl u_194))), (mdi, .inl (cmdi, 12, .inr (.inl u_197))), (mdn, .inl (cmdn, 8, .inl u_200)), (mdo, .inl (cmdo, 8, .inr (.inl u_203))), (mdh, .inl (cmdh, 24, .inl u_206)), (mnn, .inl (cmnn, 12, .inl u_209)), (mnh, .inl (cmnh, 264, .inl u_212)), (mkn, .inl (cmkn, 128, .inl u_215)), (mpt, .inl (cmpt, 128, .inl u_218)), (mot, .inl (cmot, 128, .inl u_221))] H := hP
  have hD : va_D A [(mq, .inr (12, fs_223)), (msk, .inl (cmsk, 14, .inl u_173)), (mln, .inl (cmln, 8, .inl u_176)), (mlh, .inl (cmlh, 24, .inl u_179)), (mfn, .inl (cmfn, 8, .inl u_182)), (mfi, .inl (cmfi, 8, .inl u_185)), (mla, .inl (cmla, 8, .inl u_188)), (mpn, .inl (cmpn, 12, .inl u_191)), (mbo, .inl (cmbo, 12, .inr (.inl u_194))), (mdi, .inl (cmdi, 12, .inr (.inl u_197))), (mdn, .inl (cmdn, 8, .inl u_200)), (mdo, .inl (cmdo, 8, .inr (.inl u_203))), (mdh, .inl (cmdh, 24, .inl u_206)), (mnn, .inl (cmnn, 12, .inl u_209)), (mnh, .inl (cmnh, 264, .inl u_212)), (mkn, .inl (cmkn, 128, .inl u_215)), (mpt, .inl (cmpt, 128, .inl u_218)), (mot, .inl (cmot, 128, .inl u_221))] := hD
  refine lv_aload_n hx hb dX12_keepText_204 rfl (lv_at hl 0 rfl) ?_
  refine lv_iconst (v := 0) hx hb dX12_keepText_205 (by decide) ?_
  refine va_put (D := (dC, dI)) (ci := 12) (v := .int 0) (ty := tyX12 67) (C := RX12) (T := TX12) (N := 76) hx hb htw inlX12 tyX12 tyX12_ok nmX12 hown hK hP hD hS 0 rfl rfl 67 (by decide) (htw _ (ck_11 _ (List.mem_of_getElem? (i := 16) rfl))) (fun _ h9 => h9) rfl (by decide +kernel) rfl rfl (by rw [hlen_224]; decide) dX12_keepText_206 (fun H locs hP hD hS => ?_)
  obtain ⟨fs_255, efs_255⟩ : ∃ g : List Value, g = (fs_223).set 67 (.int 0) := ⟨_, rfl⟩
  have hlen_256 : fs_255.length = 76 := by rw [efs_255, List.length_set]; exact hlen_224
  have hf_257 : fs_255[18]? = some (.int 0) := by rw [efs_255, List.getElem?_set_ne (by decide)]; exact hf_225
  have hf_258 : fs_255[19]? = some (.int 0) := by rw [efs_255, List.getElem?_set_ne (by decide)]; exact hf_226
  have hf_259 : fs_255[20]? = some (.int 0) := by rw [efs_255, List.getElem?_set_ne (by decide)]; exact hf_227
  have hf_260 : fs_255[21]? = some (.int 0) := by rw [efs_255, List.getElem?_set_ne (by decide)]; exact hf_228
  have hf_261 : fs_255[22]? = some (.int 0) := by rw [efs_255, List.getElem?_set_ne (by decide)]; exact hf_229
  have hf_262 : fs_255[23]? = some (.int 0) := by rw [efs_255, List.getElem?_set_ne (by decide)]; exact hf_230
  have hf_263 : fs_255[24]? = some (.ref msk) := by rw [efs_255, List.getElem?_set_ne (by decide)]; exact hf_231
  have hf_264 : fs_255[28]? = some (.ref mln) := by rw [efs_255, List.getElem?_set_ne (by decide)]; exact hf_232
  have hf_265 : fs_255[29]? = some (.ref mlh) := by rw [efs_255, List.getElem?_set_ne (by decide)]; exact hf_233
  have hf_266 : fs_255[30]? = some (.ref mfn) := by rw [efs_255, List.getElem?_set_ne (by decide)]; exact hf_234
  have hf_267 : fs_255[31]? = some (.ref mfi) := by rw [efs_255, List.getElem?_set_ne (by decide)]; exact hf_235
  have hf_268 : fs_255[32]? = some (.ref mla) := by rw [efs_255, List.getElem?_set_ne (by decide)]; exact hf_236
  have hf_269 : fs_255[33]? = some (.ref mpn) := by rw [efs_255, List.getElem?_set_ne (by decide)]; exact hf_237
  have hf_270 : fs_255[34]? = some (.ref mbo) := by rw [efs_255, List.getElem?_set_ne (by decide)]; exact hf_238
  have hf_271 : fs_255[35]? = some (.ref mdi) := by rw [efs_255, List.getElem?_set_ne (by decide)]; exact hf_239
  have hf_272 : fs_255[36]? = some (.ref mdn) := by rw [efs_255, List.getElem?_set_ne (by decide)]; exact hf_240
  have hf_273 : fs_255[37]? = some (.ref mdo) := by rw [efs_255, List.getElem?_set_ne (by decide)]; exact hf_241
  have hf_274 : fs_255[38]? = some (.ref mdh) := by rw [efs_255, List.getElem?_set_ne (by decide)]; exact hf_242
  have hf_275 : fs_255[39]? = some (.ref mnn) := by rw [efs_255, List.getElem?_set_ne (by decide)]; exact hf_243
  have hf_276 : fs_255[40]? = some (.ref mnh) := by rw [efs_255, List.getElem?_set_ne (by decide)]; exact hf_244
  have hf_277 : fs_255[41]? = some (.ref mkn) := by rw [efs_255, List.getElem?_set_ne (by decide)]; exact hf_245
  have hf_278 : fs_255[42]? = some (.ref mpt) := by rw [efs_255, List.getElem?_set_ne (by decide)]; exact hf_246
  have hf_279 : fs_255[43]? = some (.ref mot) := by rw [efs_255, List.getElem?_set_ne (by decide)]; exact hf_247
  have hf_280 : fs_255[12]? = some (.int 0) := by rw [efs_255, List.getElem?_set_ne (by decide)]; exact hf_248
  have hf_281 : fs_255[13]? = some (.int 0) := by rw [efs_255, List.getElem?_set_ne (by decide)]; exact hf_249
  have hf_282 : fs_255[14]? = some (.int 0) := by rw [efs_255, List.getElem?_set_ne (by decide)]; exact hf_250
  have hf_283 : fs_255[15]? = some (.int 0) := by rw [efs_255, List.getElem?_set_ne (by decide)]; exact hf_251
  have hf_284 : fs_255[16]? = some (.int 0) := by rw [efs_255, List.getElem?_set_ne (by decide)]; exact hf_252
  have hf_285 : fs_255[17]? = some (.int 0) := by rw [efs_255, List.getElem?_set_ne (by decide)]; exact hf_253
  have hf_286 : fs_255[58]? = some (.int 0) := by rw [efs_255, List.getElem?_set_ne (by decide)]; exact hf_254
  have hf_287 : fs_255[67]? = some (.int 0) := by rw [efs_255]; exact List.getElem?_set_self (by rw [hlen_224]; decide)
  rw [← efs_255] at hP hD
  have hP : va_P (dC, dI) vwCl [(mq, .inr (12, fs_255)), (msk, .inl (cmsk, 14, .inl u_173)), (mln, .inl (cmln, 8, .inl u_176)), (mlh, .inl (cmlh, 24, .inl u_179)), (mfn, .inl (cmfn, 8, .inl u_182)), (mfi, .inl (cmfi, 8, .inl u_185)), (mla, .inl (cmla, 8, .inl u_188)), (mpn, .inl (cmpn, 12, .inl u_191)), (mbo, .inl (cmbo, 12, .inr (.inl u_194))), (mdi, .inl (cmdi, 12, .inr (.inl u_197))), (mdn, .inl (cmdn, 8, .inl u_200)), (mdo, .inl (cmdo, 8, .inr (.inl u_203))), (mdh, .inl (cmdh, 24, .inl u_206)), (mnn, .inl (cmnn, 12, .inl u_209)), (mnh, .inl (cmnh, 264, .inl u_212)), (mkn, .inl (cmkn, 128, .inl u_215)), (mpt, .inl (cmpt, 128, .inl u_218)), (mot, .inl (cmot, 128, .inl u_221))] H := hP
  have hD : va_D A [(mq, .inr (12, fs_255)), (msk, .inl (cmsk, 14, .inl u_173)), (mln, .inl (cmln, 8, .inl u_176)), (mlh, .inl (cmlh, 24, .inl u_179)), (mfn, .inl (cmfn, 8, .inl u_182)), (mfi, .inl (cmfi, 8, .inl u_185)), (mla, .inl (cmla, 8, .inl u_188)), (mpn, .inl (cmpn, 12, .inl u_191)), (mbo, .inl (cmbo, 12, .inr (.inl u_194))), (mdi, .inl (cmdi, 12, .inr (.inl u_197))), (mdn, .inl (cmdn, 8, .inl u_200)), (mdo, .inl (cmdo, 8, .inr (.inl u_203))), (mdh, .inl (cmdh, 24, .inl u_206)), (mnn, .inl (cmnn, 12, .inl u_209)), (mnh, .inl (cmnh, 264, .inl u_212)), (mkn, .inl (cmkn, 128, .inl u_215)), (mpt, .inl (cmpt, 128, .inl u_218)), (mot, .inl (cmot, 128, .inl u_221))] := hD
  refine lv_aload_n hx hb dX12_keepText_209 rfl (lv_at hl 0 rfl) ?_
  refine lv_iconst (v := 0) hx hb dX12_keepText_210 (by decide) ?_
  refine va_put (D := (dC, dI)) (ci := 12) (v := .int 0) (ty := tyX12 59) (C := RX12) (T := TX12) (N := 76) hx hb htw inlX12 tyX12 tyX12_ok nmX12 hown hK hP hD hS 0 rfl rfl 59 (by decide) (htw _ (ck_11 _ (List.mem_of_getElem? (i := 17) rfl))) (fun _ h9 => h9) rfl (by decide +kernel) rfl rfl (by rw [hlen_256]; decide) dX12_keepText_211 (fun H locs hP hD hS => ?_)
  obtain ⟨fs_288, efs_288⟩ : ∃ g : List Value, g = (fs_255).set 59 (.int 0) := ⟨_, rfl⟩
  have hlen_289 : fs_288.length = 76 := by rw [efs_288, List.length_set]; exact hlen_256
  have hf_290 : fs_288[18]? = some (.int 0) := by rw [efs_288, List.getElem?_set_ne (by decide)]; exact hf_257
  have hf_291 : fs_288[19]? = some (.int 0) := by rw [efs_288, List.getElem?_set_ne (by decide)]; exact hf_258
  have hf_292 : fs_288[20]? = some (.int 0) := by rw [efs_288, List.getElem?_set_ne (by decide)]; exact hf_259
  have hf_293 : fs_288[21]? = some (.int 0) := by rw [efs_288, List.getElem?_set_ne (by decide)]; exact hf_260
  have hf_294 : fs_288[22]? = some (.int 0) := by rw [efs_288, List.getElem?_set_ne (by decide)]; exact hf_261
  have hf_295 : fs_288[23]? = some (.int 0) := by rw [efs_288, List.getElem?_set_ne (by decide)]; exact hf_262
  have hf_296 : fs_288[24]? = some (.ref msk) := by rw [efs_288, List.getElem?_set_ne (by decide)]; exact hf_263
  have hf_297 : fs_288[28]? = some (.ref mln) := by rw [efs_288, List.getElem?_set_ne (by decide)]; exact hf_264
  have hf_298 : fs_288[29]? = some (.ref mlh) := by rw [efs_288, List.getElem?_set_ne (by decide)]; exact hf_265
  have hf_299 : fs_288[30]? = some (.ref mfn) := by rw [efs_288, List.getElem?_set_ne (by decide)]; exact hf_266
  have hf_300 : fs_288[31]? = some (.ref mfi) := by rw [efs_288, List.getElem?_set_ne (by decide)]; exact hf_267
  have hf_301 : fs_288[32]? = some (.ref mla) := by rw [efs_288, List.getElem?_set_ne (by decide)]; exact hf_268
  have hf_302 : fs_288[33]? = some (.ref mpn) := by rw [efs_288, List.getElem?_set_ne (by decide)]; exact hf_269
  have hf_303 : fs_288[34]? = some (.ref mbo) := by rw [efs_288, List.getElem?_set_ne (by decide)]; exact hf_270
  have hf_304 : fs_288[35]? = some (.ref mdi) := by rw [efs_288, List.getElem?_set_ne (by decide)]; exact hf_271
  have hf_305 : fs_288[36]? = some (.ref mdn) := by rw [efs_288, List.getElem?_set_ne (by decide)]; exact hf_272
  have hf_306 : fs_288[37]? = some (.ref mdo) := by rw [efs_288, List.getElem?_set_ne (by decide)]; exact hf_273
  have hf_307 : fs_288[38]? = some (.ref mdh) := by rw [efs_288, List.getElem?_set_ne (by decide)]; exact hf_274
  have hf_308 : fs_288[39]? = some (.ref mnn) := by rw [efs_288, List.getElem?_set_ne (by decide)]; exact hf_275
  have hf_309 : fs_288[40]? = some (.ref mnh) := by rw [efs_288, List.getElem?_set_ne (by decide)]; exact hf_276
  have hf_310 : fs_288[41]? = some (.ref mkn) := by rw [efs_288, List.getElem?_set_ne (by decide)]; exact hf_277
  have hf_311 : fs_288[42]? = some (.ref mpt) := by rw [efs_288, List.getElem?_set_ne (by decide)]; exact hf_278
  have hf_312 : fs_288[43]? = some (.ref mot) := by rw [efs_288, List.getElem?_set_ne (by decide)]; exact hf_279
  have hf_313 : fs_288[12]? = some (.int 0) := by rw [efs_288, List.getElem?_set_ne (by decide)]; exact hf_280
  have hf_314 : fs_288[13]? = some (.int 0) := by rw [efs_288, List.getElem?_set_ne (by decide)]; exact hf_281
  have hf_315 : fs_288[14]? = some (.int 0) := by rw [efs_288, List.getElem?_set_ne (by decide)]; exact hf_282
  have hf_316 : fs_288[15]? = some (.int 0) := by rw [efs_288, List.getElem?_set_ne (by decide)]; exact hf_283
  have hf_317 : fs_288[16]? = some (.int 0) := by rw [efs_288, List.getElem?_set_ne (by decide)]; exact hf_284
  have hf_318 : fs_288[17]? = some (.int 0) := by rw [efs_288, List.getElem?_set_ne (by decide)]; exact hf_285
  have hf_319 : fs_288[58]? = some (.int 0) := by rw [efs_288, List.getElem?_set_ne (by decide)]; exact hf_286
  have hf_320 : fs_288[67]? = some (.int 0) := by rw [efs_288, List.getElem?_set_ne (by decide)]; exact hf_287
  have hf_321 : fs_288[59]? = some (.int 0) := by rw [efs_288]; exact List.getElem?_set_self (by rw [hlen_256]; decide)
  rw [← efs_288] at hP hD
  have hP : va_P (dC, dI) vwCl [(mq, .inr (12, fs_288)), (msk, .inl (cmsk, 14, .inl u_173)), (mln, .inl (cmln, 8, .inl u_176)), (mlh, .inl (cmlh, 24, .inl u_179)), (mfn, .inl (cmfn, 8, .inl u_182)), (mfi, .inl (cmfi, 8, .inl u_185)), (mla, .inl (cmla, 8, .inl u_188)), (mpn, .inl (cmpn, 12, .inl u_191)), (mbo, .inl (cmbo, 12, .inr (.inl u_194))), (mdi, .inl (cmdi, 12, .inr (.inl u_197))), (mdn, .inl (cmdn, 8, .inl u_200)), (mdo, .inl (cmdo, 8, .inr (.inl u_203))), (mdh, .inl (cmdh, 24, .inl u_206)), (mnn, .inl (cmnn, 12, .inl u_209)), (mnh, .inl (cmnh, 264, .inl u_212)), (mkn, .inl (cmkn, 128, .inl u_215)), (mpt, .inl (cmpt, 128, .inl u_218)), (mot, .inl (cmot, 128, .inl u_221))] H := hP
  have hD : va_D A [(mq, .inr (12, fs_288)), (msk, .inl (cmsk, 14, .inl u_173)), (mln, .inl (cmln, 8, .inl u_176)), (mlh, .inl (cmlh, 24, .inl u_179)), (mfn, .inl (cmfn, 8, .inl u_182)), (mfi, .inl (cmfi, 8, .inl u_185)), (mla, .inl (cmla, 8, .inl u_188)), (mpn, .inl (cmpn, 12, .inl u_191)), (mbo, .inl (cmbo, 12, .inr (.inl u_194))), (mdi, .inl (cmdi, 12, .inr (.inl u_197))), (mdn, .inl (cmdn, 8, .inl u_200)), (mdo, .inl (cmdo, 8, .inr (.inl u_203))), (mdh, .inl (cmdh, 24, .inl u_206)), (mnn, .inl (cmnn, 12, .inl u_209)), (mnh, .inl (cmnh, 264, .inl u_212)), (mkn, .inl (cmkn, 128, .inl u_215)), (mpt, .inl (cmpt, 128, .inl u_218)), (mot, .inl (cmot, 128, .inl u_221))] := hD
  refine lv_aload_n hx hb dX12_keepText_214 rfl (lv_at hl 0 rfl) ?_
  refine lv_iconst (v := 0) hx hb dX12_keepText_215 (by decide) ?_
  refine va_put (D := (dC, dI)) (ci := 12) (v := .int 0) (ty := tyX12 70) (C := RX12) (T := TX12) (N := 76) hx hb htw inlX12 tyX12 tyX12_ok nmX12 hown hK hP hD hS 0 rfl rfl 70 (by decide) (htw _ (ck_11 _ (List.mem_of_getElem? (i := 18) rfl))) (fun _ h9 => h9) rfl (by decide +kernel) rfl rfl (by rw [hlen_289]; decide) dX12_keepText_216 (fun H locs hP hD hS => ?_)
  obtain ⟨fs_322, efs_322⟩ : ∃ g : List Value, g = (fs_288).set 70 (.int 0) := ⟨_, rfl⟩
  have hlen_323 : fs_322.length = 76 := by rw [efs_322, List.length_set]; exact hlen_289
  have hf_324 : fs_322[18]? = some (.int 0) := by rw [efs_322, List.getElem?_set_ne (by decide)]; exact hf_290
  have hf_325 : fs_322[19]? = some (.int 0) := by rw [efs_322, List.getElem?_set_ne (by decide)]; exact hf_291
  have hf_326 : fs_322[20]? = some (.int 0) := by rw [efs_322, List.getElem?_set_ne (by decide)]; exact hf_292
  have hf_327 : fs_322[21]? = some (.int 0) := by rw [efs_322, List.getElem?_set_ne (by decide)]; exact hf_293
  have hf_328 : fs_322[22]? = some (.int 0) := by rw [efs_322, List.getElem?_set_ne (by decide)]; exact hf_294
  have hf_329 : fs_322[23]? = some (.int 0) := by rw [efs_322, List.getElem?_set_ne (by decide)]; exact hf_295
  have hf_330 : fs_322[24]? = some (.ref msk) := by rw [efs_322, List.getElem?_set_ne (by decide)]; exact hf_296
  have hf_331 : fs_322[28]? = some (.ref mln) := by rw [efs_322, List.getElem?_set_ne (by decide)]; exact hf_297
  have hf_332 : fs_322[29]? = some (.ref mlh) := by rw [efs_322, List.getElem?_set_ne (by decide)]; exact hf_298
  have hf_333 : fs_322[30]? = some (.ref mfn) := by rw [efs_322, List.getElem?_set_ne (by decide)]; exact hf_299
  have hf_334 : fs_322[31]? = some (.ref mfi) := by rw [efs_322, List.getElem?_set_ne (by decide)]; exact hf_300
  have hf_335 : fs_322[32]? = some (.ref mla) := by rw [efs_322, List.getElem?_set_ne (by decide)]; exact hf_301
  have hf_336 : fs_322[33]? = some (.ref mpn) := by rw [efs_322, List.getElem?_set_ne (by decide)]; exact hf_302
  have hf_337 : fs_322[34]? = some (.ref mbo) := by rw [efs_322, List.getElem?_set_ne (by decide)]; exact hf_303
  have hf_338 : fs_322[35]? = some (.ref mdi) := by rw [efs_322, List.getElem?_set_ne (by decide)]; exact hf_304
  have hf_339 : fs_322[36]? = some (.ref mdn) := by rw [efs_322, List.getElem?_set_ne (by decide)]; exact hf_305
  have hf_340 : fs_322[37]? = some (.ref mdo) := by rw [efs_322, List.getElem?_set_ne (by decide)]; exact hf_306
  have hf_341 : fs_322[38]? = some (.ref mdh) := by rw [efs_322, List.getElem?_set_ne (by decide)]; exact hf_307
  have hf_342 : fs_322[39]? = some (.ref mnn) := by rw [efs_322, List.getElem?_set_ne (by decide)]; exact hf_308
  have hf_343 : fs_322[40]? = some (.ref mnh) := by rw [efs_322, List.getElem?_set_ne (by decide)]; exact hf_309
  have hf_344 : fs_322[41]? = some (.ref mkn) := by rw [efs_322, List.getElem?_set_ne (by decide)]; exact hf_310
  have hf_345 : fs_322[42]? = some (.ref mpt) := by rw [efs_322, List.getElem?_set_ne (by decide)]; exact hf_311
  have hf_346 : fs_322[43]? = some (.ref mot) := by rw [efs_322, List.getElem?_set_ne (by decide)]; exact hf_312
  have hf_347 : fs_322[12]? = some (.int 0) := by rw [efs_322, List.getElem?_set_ne (by decide)]; exact hf_313
  have hf_348 : fs_322[13]? = some (.int 0) := by rw [efs_322, List.getElem?_set_ne (by decide)]; exact hf_314
  have hf_349 : fs_322[14]? = some (.int 0) := by rw [efs_322, List.getElem?_set_ne (by decide)]; exact hf_315
  have hf_350 : fs_322[15]? = some (.int 0) := by rw [efs_322, List.getElem?_set_ne (by decide)]; exact hf_316
  have hf_351 : fs_322[16]? = some (.int 0) := by rw [efs_322, List.getElem?_set_ne (by decide)]; exact hf_317
  have hf_352 : fs_322[17]? = some (.int 0) := by rw [efs_322, List.getElem?_set_ne (by decide)]; exact hf_318
  have hf_353 : fs_322[58]? = some (.int 0) := by rw [efs_322, List.getElem?_set_ne (by decide)]; exact hf_319
  have hf_354 : fs_322[67]? = some (.int 0) := by rw [efs_322, List.getElem?_set_ne (by decide)]; exact hf_320
  have hf_355 : fs_322[59]? = some (.int 0) := by rw [efs_322, List.getElem?_set_ne (by decide)]; exact hf_321
  have hf_356 : fs_322[70]? = some (.int 0) := by rw [efs_322]; exact List.getElem?_set_self (by rw [hlen_289]; decide)
  rw [← efs_322] at hP hD
  have hP : va_P (dC, dI) vwCl [(mq, .inr (12, fs_322)), (msk, .inl (cmsk, 14, .inl u_173)), (mln, .inl (cmln, 8, .inl u_176)), (mlh, .inl (cmlh, 24, .inl u_179)), (mfn, .inl (cmfn, 8, .inl u_182)), (mfi, .inl (cmfi, 8, .inl u_185)), (mla, .inl (cmla, 8, .inl u_188)), (mpn, .inl (cmpn, 12, .inl u_191)), (mbo, .inl (cmbo, 12, .inr (.inl u_194))), (mdi, .inl (cmdi, 12, .inr (.inl u_197))), (mdn, .inl (cmdn, 8, .inl u_200)), (mdo, .inl (cmdo, 8, .inr (.inl u_203))), (mdh, .inl (cmdh, 24, .inl u_206)), (mnn, .inl (cmnn, 12, .inl u_209)), (mnh, .inl (cmnh, 264, .inl u_212)), (mkn, .inl (cmkn, 128, .inl u_215)), (mpt, .inl (cmpt, 128, .inl u_218)), (mot, .inl (cmot, 128, .inl u_221))] H := hP
  have hD : va_D A [(mq, .inr (12, fs_322)), (msk, .inl (cmsk, 14, .inl u_173)), (mln, .inl (cmln, 8, .inl u_176)), (mlh, .inl (cmlh, 24, .inl u_179)), (mfn, .inl (cmfn, 8, .inl u_182)), (mfi, .inl (cmfi, 8, .inl u_185)), (mla, .inl (cmla, 8, .inl u_188)), (mpn, .inl (cmpn, 12, .inl u_191)), (mbo, .inl (cmbo, 12, .inr (.inl u_194))), (mdi, .inl (cmdi, 12, .inr (.inl u_197))), (mdn, .inl (cmdn, 8, .inl u_200)), (mdo, .inl (cmdo, 8, .inr (.inl u_203))), (mdh, .inl (cmdh, 24, .inl u_206)), (mnn, .inl (cmnn, 12, .inl u_209)), (mnh, .inl (cmnh, 264, .inl u_212)), (mkn, .inl (cmkn, 128, .inl u_215)), (mpt, .inl (cmpt, 128, .inl u_218)), (mot, .inl (cmot, 128, .inl u_221))] := hD
  refine W.widen (k := 0) (n := 0) (by omega) (by omega) ?_
  have hP9 := hP.sub (ws' := [(mq, .inr (12, fs_322)), (msk, .inl (cmsk, 14, .inl u_173)), (mln, .inl (cmln, 8, .inl u_176)), (mlh, .inl (cmlh, 24, .inl u_179)), (mfn, .inl (cmfn, 8, .inl u_182)), (mfi, .inl (cmfi, 8, .inl u_185)), (mla, .inl (cmla, 8, .inl u_188)), (mpn, .inl (cmpn, 12, .inl u_191)), (mbo, .inl (cmbo, 12, .inr (.inl u_194))), (mdi, .inl (cmdi, 12, .inr (.inl u_197))), (mdn, .inl (cmdn, 8, .inl u_200)), (mdo, .inl (cmdo, 8, .inr (.inl u_203))), (mdh, .inl (cmdh, 24, .inl u_206)), (mnn, .inl (cmnn, 12, .inl u_209)), (mnh, .inl (cmnh, 264, .inl u_212)), (mkn, .inl (cmkn, 128, .inl u_215)), (mpt, .inl (cmpt, 128, .inl u_218)), (mot, .inl (cmot, 128, .inl u_221))]) [0, 1, 2, 3, 4, 5, 6, 7, 8, 9, 10, 11, 12, 13, 14, 15, 16, 17] rfl
  have hD9 := hD.sub (ws' := [(mq, .inr (12, fs_322)), (msk, .inl (cmsk, 14, .inl u_173)), (mln, .inl (cmln, 8, .inl u_176)), (mlh, .inl (cmlh, 24, .inl u_179)), (mfn, .inl (cmfn, 8, .inl u_182)), (mfi, .inl (cmfi, 8, .inl u_185)), (mla, .inl (cmla, 8, .inl u_188)), (mpn, .inl (cmpn, 12, .inl u_191)), (mbo, .inl (cmbo, 12, .inr (.inl u_194))), (mdi, .inl (cmdi, 12, .inr (.inl u_197))), (mdn, .inl (cmdn, 8, .inl u_200)), (mdo, .inl (cmdo, 8, .inr (.inl u_203))), (mdh, .inl (cmdh, 24, .inl u_206)), (mnn, .inl (cmnn, 12, .inl u_209)), (mnh, .inl (cmnh, 264, .inl u_212)), (mkn, .inl (cmkn, 128, .inl u_215)), (mpt, .inl (cmpt, 128, .inl u_218)), (mot, .inl (cmot, 128, .inl u_221))]) [0, 1, 2, 3, 4, 5, 6, 7, 8, 9, 10, 11, 12, 13, 14, 15, 16, 17] (by decide) rfl
  have hK9 := hK.sub (tys' := []) [] rfl
  exact W.vret hx hb hr (fun t ht hW => ⟨⟨(fs_322, u_173, u_176, u_179, u_182, u_185, u_188, u_191, u_194, u_197, u_200, u_203, u_206, u_209, u_212, u_215, u_218, u_221), rfl, ⟨(by rw [efs_322, efs_288, efs_255, efs_223, efs_141, efs_111, efs_82, efs_54, efs_27, efs_1]), hcps⟩, by rw [ht]; exact hP9, va_K.moved hW.alike hK9, hD9⟩, hS.F ht⟩) hS.2.2 dX12_keepText_219

theorem dX12_token_0 : decode cX12_token 0 = .ok (.aload_n 0, 1) := by decide +kernel
theorem dX12_token_1 : decode cX12_token 1 = .ok (.getfield 136, 3) := by decide +kernel
theorem dX12_token_4 : decode cX12_token 4 = .ok (.aload_n 0, 1) := by decide +kernel
theorem dX12_token_5 : decode cX12_token 5 = .ok (.getfield 133, 3) := by decide +kernel
theorem dX12_token_8 : decode cX12_token 8 = .ok (.if_icmp .ge 44, 3) := by decide +kernel
theorem dX12_token_52 : decode cX12_token 52 = .ok (.aload_n 0, 1) := by decide +kernel
theorem dX12_token_53 : decode cX12_token 53 = .ok (.aload_n 0, 1) := by decide +kernel
theorem dX12_token_54 : decode cX12_token 54 = .ok (.getfield 136, 3) := by decide +kernel
theorem dX12_token_57 : decode cX12_token 57 = .ok (.putfield 130, 3) := by decide +kernel
theorem dX12_token_60 : decode cX12_token 60 = .ok (.aload_n 0, 1) := by decide +kernel
theorem dX12_token_61 : decode cX12_token 61 = .ok (.getfield 136, 3) := by decide +kernel
theorem dX12_token_64 : decode cX12_token 64 = .ok (.aload_n 0, 1) := by decide +kernel
theorem dX12_token_65 : decode cX12_token 65 = .ok (.getfield 133, 3) := by decide +kernel
theorem dX12_token_68 : decode cX12_token 68 = .ok (.if_icmp .ne 11, 3) := by decide +kernel
theorem dX12_token_71 : decode cX12_token 71 = .ok (.aload_n 0, 1) := by decide +kernel
theorem dX12_token_72 : decode cX12_token 72 = .ok (.iconst 0, 1) := by decide +kernel
theorem dX12_token_73 : decode cX12_token 73 = .ok (.putfield 139, 3) := by decide +kernel
theorem dX12_token_76 : decode cX12_token 76 = .ok (.goto 205, 3) := by decide +kernel
theorem dX12_token_281 : decode cX12_token 281 = .ok (.return_, 1) := by decide +kernel
set_option maxHeartbeats 4000000 in
set_option maxRecDepth 100000 in
theorem mm_token (l : Launch) (dC : Nat → ClassId) (dI : Nat → Nat → Nat) (mq : Nat) (fs : List Value) (sz : Nat) (hlen : fs.length = 76) (hf7 : fs[7]? = some (.int 0)) (hf6 : fs[6]? = some (.int 0)) : Met l yX12_token (Cond.code yX12_token cX12_token 1 none :: wsL_law) ({ frames := 0, cells := 0, slots := 0, locals := 0 }) (va_Pc [.ref mq] (fun U => U.heap.size = sz ∧ va_P (dC, dI) vwCl [(mq, .inr (12, fs))] U.heap ∧ va_K (dC, dI) vwCl [] U ∧ va_D (fun _ => True) [(mq, .inr (12, fs))])) (va_Qv (fun (u : (List Value)) => u = ((fs.set 10 (.int 0)).set 8 (.int 0))) (fun (u : (List Value)) t => va_P (dC, dI) vwCl [(mq, .inr (12, u))] t.heap ∧ va_K (dC, dI) vwCl [] t ∧ va_D (va_A [(mq, .inr (12, fs))] sz) [(mq, .inr (12, u))]) (va_A [(mq, .inr (12, fs))] sz)) 0 0 (va_A [(mq, .inr (12, fs))] sz) := by
  refine Met.ofW (cc := cX12_token) (maxL := 1) (ret := none) (by decide) rfl ?_
  intro p e s m args below meth c s₁ B hml hv
  obtain ⟨rfl, hsz, hP, hK, hD0⟩ := hv
  have hx := B.exec
  have hb := B.bytes
  have hr := B.returns
  have hts := atoms_spec (ws := Cond.code yX12_token cX12_token 1 none :: wsL_law) B.pre
  have htw : ∀ w ∈ wsL_law, w.before _ s = true := fun w h => hts w (List.mem_cons_of_mem _ h)
  have hown : s.vm.findClass RX12 = some m.cls := findClass_of_methodNamed B.named
  have hlocks := B.notSynchronized
  subst hsz
  have hD := hD0.self (sz := s.heap.size)
  generalize hAe : va_A [(mq, .inr (12, fs))] s.heap.size = A at hD ⊢
  have hA : ∀ q : Nat, s.heap.size ≤ q → A q := fun q h => by rw [← hAe]; exact Or.inr h
  obtain ⟨H, rH⟩ : ∃ z : Heap, z = s.heap := ⟨_, rfl⟩
  have hS : va_S A s.heap H [] := by rw [rH]; exact va_S.rf
  have hP : va_P (dC, dI) vwCl [(mq, .inr (12, fs))] H := by rw [rH]; exact hP
  rw [← rH]
  have hl := lv_entry ([.ref mq]) (n := 1) (Nat.le_of_ble_eq_true rfl)
  rw [lg_entry_eq]
  generalize (lg_sl ([.ref mq]) ++ List.replicate (1 - (lg_sl ([.ref mq])).length) Slot.unset).toArray = ls at hl ⊢
  have hl : lv_has ls 1 [(0, .ref mq)] := hl
  refine lv_aload_n hx hb dX12_token_0 rfl (lv_at hl 0 rfl) ?_
  refine va_get (D := (dC, dI)) (ci := 12) (v := .int 0) (C := RX12) (T := TX12) (N := 76) hx hb htw inlX12 hown hK hP 0 rfl rfl 7 (by decide) (htw _ (ck_24 _ (List.mem_of_getElem? (i := 12) rfl))) (fun _ h9 => h9) hf7 dX12_token_1 ?_
  refine lv_aload_n hx hb dX12_token_4 rfl (lv_at hl 0 rfl) ?_
  refine va_get (D := (dC, dI)) (ci := 12) (v := .int 0) (C := RX12) (T := TX12) (N := 76) hx hb htw inlX12 hown hK hP 0 rfl rfl 6 (by decide) (htw _ (ck_24 _ (List.mem_of_getElem? (i := 10) rfl))) (fun _ h9 => h9) hf6 dX12_token_5 ?_
  refine lv_icmp_ge (tgt := 52) hx hb dX12_token_8 (by decide) (fun _ => ?_) (fun c => absurd c (by decide))
  refine lv_aload_n hx hb dX12_token_52 rfl (lv_at hl 0 rfl) ?_
  refine lv_aload_n hx hb dX12_token_53 rfl (lv_at hl 0 rfl) ?_
  refine va_get (D := (dC, dI)) (ci := 12) (v := .int 0) (C := RX12) (T := TX12) (N := 76) hx hb htw inlX12 hown hK hP 0 rfl rfl 7 (by decide) (htw _ (ck_24 _ (List.mem_of_getElem? (i := 12) rfl))) (fun _ h9 => h9) hf7 dX12_token_54 ?_
  refine va_put (D := (dC, dI)) (ci := 12) (v := .int 0) (ty := tyX12 10) (C := RX12) (T := TX12) (N := 76) hx hb htw inlX12 tyX12 tyX12_ok nmX12 hown hK hP hD hS 0 rfl rfl 10 (by decide) (htw _ (ck_24 _ (List.mem_of_getElem? (i := 18) rfl))) (fun _ h9 => h9) rfl (by decide +kernel) rfl rfl (by rw [hlen]; decide) dX12_token_57 (fun H locs hP hD hS => ?_)
  obtain ⟨fs_1, efs_1⟩ : ∃ g : List Value, g = (fs).set 10 (.int 0) := ⟨_, rfl⟩
  have hlen_2 : fs_1.length = 76 := by rw [efs_1, List.length_set]; exact hlen
  have hf_3 : fs_1[7]? = some (.int 0) := by rw [efs_1, List.getElem?_set_ne (by decide)]; exact hf7
  have hf_4 : fs_1[6]? = some (.int 0) := by rw [efs_1, List.getElem?_set_ne (by decide)]; exact hf6
  have hf_5 : fs_1[10]? = some (.int 0) := by rw [efs_1]; exact List.getElem?_set_self (by rw [hlen]; decide)
  rw [← efs_1] at hP hD
  have hP : va_P (dC, dI) vwCl [(mq, .inr (12, fs_1))] H := hP
  have hD : va_D A [(mq, .inr (12, fs_1))] := hD
  refine lv_aload_n hx hb dX12_token_60 rfl (lv_at hl 0 rfl) ?_
  refine va_get (D := (dC, dI)) (ci := 12) (v := .int 0) (C := RX12) (T := TX12) (N := 76) hx hb htw inlX12 hown hK hP 0 rfl rfl 7 (by decide) (htw _ (ck_24 _ (List.mem_of_getElem? (i := 12) rfl))) (fun _ h9 => h9) hf_3 dX12_token_61 ?_
  refine lv_aload_n hx hb dX12_token_64 rfl (lv_at hl 0 rfl) ?_
  refine va_get (D := (dC, dI)) (ci := 12) (v := .int 0) (C := RX12) (T := TX12) (N := 76) hx hb htw inlX12 hown hK hP 0 rfl rfl 6 (by decide) (htw _ (ck_24 _ (List.mem_of_getElem? (i := 10) rfl))) (fun _ h9 => h9) hf_4 dX12_token_65 ?_
  refine lv_icmp_ne (tgt := 79) hx hb dX12_token_68 (by decide) (fun c => absurd c (by decide)) (fun _ => ?_)
  refine lv_aload_n hx hb dX12_token_71 rfl (lv_at hl 0 rfl) ?_
  refine lv_iconst (v := 0) hx hb dX12_token_72 (by decide) ?_
  refine va_put (D := (dC, dI)) (ci := 12) (v := .int 0) (ty := tyX12 8) (C := RX12) (T := TX12) (N := 76) hx hb htw inlX12 tyX12 tyX12_ok nmX12 hown hK hP hD hS 0 rfl rfl 8 (by decide) (htw _ (ck_24 _ (List.mem_of_getElem? (i := 13) rfl))) (fun _ h9 => h9) rfl (by decide +kernel) rfl rfl (by rw [hlen_2]; decide) dX12_token_73 (fun H locs hP hD hS => ?_)
  obtain ⟨fs_6, efs_6⟩ : ∃ g : List Value, g = (fs_1).set 8 (.int 0) := ⟨_, rfl⟩
  have hlen_7 : fs_6.length = 76 := by rw [efs_6, List.length_set]; exact hlen_2
  have hf_8 : fs_6[7]? = some (.int 0) := by rw [efs_6, List.getElem?_set_ne (by decide)]; exact hf_3
  have hf_9 : fs_6[6]? = some (.int 0) := by rw [efs_6, List.getElem?_set_ne (by decide)]; exact hf_4
  have hf_10 : fs_6[10]? = some (.int 0) := by rw [efs_6, List.getElem?_set_ne (by decide)]; exact hf_5
  have hf_11 : fs_6[8]? = some (.int 0) := by rw [efs_6]; exact List.getElem?_set_self (by rw [hlen_2]; decide)
  rw [← efs_6] at hP hD
  have hP : va_P (dC, dI) vwCl [(mq, .inr (12, fs_6))] H := hP
  have hD : va_D A [(mq, .inr (12, fs_6))] := hD
  refine lv_goto (tgt := 281) hx hb dX12_token_76 (by decide) ?_
  refine W.widen (k := 0) (n := 0) (by omega) (by omega) ?_
  have hP9 := hP.sub (ws' := [(mq, .inr (12, fs_6))]) [0] rfl
  have hD9 := hD.sub (ws' := [(mq, .inr (12, fs_6))]) [0] (by decide) rfl
  have hK9 := hK.sub (tys' := []) [] rfl
  exact W.vret hx hb hr (fun t ht hW => ⟨⟨fs_6, rfl, (by rw [efs_6, efs_1]), by rw [ht]; exact hP9, va_K.moved hW.alike hK9, hD9⟩, hS.F ht⟩) hS.2.2 dX12_token_281
