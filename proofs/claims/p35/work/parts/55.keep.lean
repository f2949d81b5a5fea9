def fq_plain (f_sky : Nat → Int32) : (Int32) × (Int32) × (Int32) × (Int32) × (Int32) × (Int32) × (Int32) × (Int32) × (Int32) × (Int32) × (Nat → Int32) := ((0 : Int32), (0 : Int32), (0 : Int32), (0 : Int32), (0 : Int32), (0 : Int32), (0 : Int32), (0 : Int32), (0 : Int32), (0 : Int32), (upd (upd (upd (upd (upd (upd (upd f_sky ((7 : Int32).toNatClampNeg) 7) ((8 : Int32).toNatClampNeg) 0) ((9 : Int32).toNatClampNeg) 59) ((10 : Int32).toNatClampNeg) 2) ((11 : Int32).toNatClampNeg) 0) ((12 : Int32).toNatClampNeg) 1461) ((13 : Int32).toNatClampNeg) 4))
theorem dX12_plain_0 : decode cX12_plain 0 = .ok (.aload_n 0, 1) := zk_42 (by decide +kernel)
theorem dX12_plain_1 : decode cX12_plain 1 = .ok (.iconst 0, 1) := zk_3 (by decide +kernel)
theorem dX12_plain_2 : decode cX12_plain 2 = .ok (.putfield 186, 3) := zk_181 (by decide +kernel)
theorem dX12_plain_5 : decode cX12_plain 5 = .ok (.aload_n 0, 1) := zk_42 (by decide +kernel)
theorem dX12_plain_6 : decode cX12_plain 6 = .ok (.iconst 0, 1) := zk_3 (by decide +kernel)
theorem dX12_plain_7 : decode cX12_plain 7 = .ok (.putfield 189, 3) := zk_181 (by decide +kernel)
theorem dX12_plain_10 : decode cX12_plain 10 = .ok (.aload_n 0, 1) := zk_42 (by decide +kernel)
theorem dX12_plain_11 : decode cX12_plain 11 = .ok (.iconst 0, 1) := zk_3 (by decide +kernel)
theorem dX12_plain_12 : decode cX12_plain 12 = .ok (.putfield 192, 3) := zk_181 (by decide +kernel)
theorem dX12_plain_15 : decode cX12_plain 15 = .ok (.aload_n 0, 1) := zk_42 (by decide +kernel)
theorem dX12_plain_16 : decode cX12_plain 16 = .ok (.iconst 0, 1) := zk_3 (by decide +kernel)
theorem dX12_plain_17 : decode cX12_plain 17 = .ok (.putfield 195, 3) := zk_181 (by decide +kernel)
theorem dX12_plain_20 : decode cX12_plain 20 = .ok (.aload_n 0, 1) := zk_42 (by decide +kernel)
theorem dX12_plain_21 : decode cX12_plain 21 = .ok (.iconst 0, 1) := zk_3 (by decide +kernel)
theorem dX12_plain_22 : decode cX12_plain 22 = .ok (.putfield 198, 3) := zk_181 (by decide +kernel)
theorem dX12_plain_25 : decode cX12_plain 25 = .ok (.aload_n 0, 1) := zk_42 (by decide +kernel)
theorem dX12_plain_26 : decode cX12_plain 26 = .ok (.iconst 0, 1) := zk_3 (by decide +kernel)
theorem dX12_plain_27 : decode cX12_plain 27 = .ok (.putfield 201, 3) := zk_181 (by decide +kernel)
theorem dX12_plain_30 : decode cX12_plain 30 = .ok (.aload_n 0, 1) := zk_42 (by decide +kernel)
theorem dX12_plain_31 : decode cX12_plain 31 = .ok (.iconst 0, 1) := zk_3 (by decide +kernel)
theorem dX12_plain_32 : decode cX12_plain 32 = .ok (.putfield 204, 3) := zk_181 (by decide +kernel)
theorem dX12_plain_35 : decode cX12_plain 35 = .ok (.aload_n 0, 1) := zk_42 (by decide +kernel)
theorem dX12_plain_36 : decode cX12_plain 36 = .ok (.iconst 0, 1) := zk_3 (by decide +kernel)
theorem dX12_plain_37 : decode cX12_plain 37 = .ok (.putfield 207, 3) := zk_181 (by decide +kernel)
theorem dX12_plain_40 : decode cX12_plain 40 = .ok (.aload_n 0, 1) := zk_42 (by decide +kernel)
theorem dX12_plain_41 : decode cX12_plain 41 = .ok (.iconst 0, 1) := zk_3 (by decide +kernel)
theorem dX12_plain_42 : decode cX12_plain 42 = .ok (.putfield 211, 3) := zk_181 (by decide +kernel)
theorem dX12_plain_45 : decode cX12_plain 45 = .ok (.aload_n 0, 1) := zk_42 (by decide +kernel)
theorem dX12_plain_46 : decode cX12_plain 46 = .ok (.iconst 0, 1) := zk_3 (by decide +kernel)
theorem dX12_plain_47 : decode cX12_plain 47 = .ok (.putfield 214, 3) := zk_181 (by decide +kernel)
theorem dX12_plain_50 : decode cX12_plain 50 = .ok (.aload_n 0, 1) := zk_42 (by decide +kernel)
theorem dX12_plain_51 : decode cX12_plain 51 = .ok (.getfield 20, 3) := zk_180 (by decide +kernel)
theorem dX12_plain_54 : decode cX12_plain 54 = .ok (.bipush 7, 2) := zk_16 (by decide +kernel)
theorem dX12_plain_56 : decode cX12_plain 56 = .ok (.bipush 7, 2) := zk_16 (by decide +kernel)
theorem dX12_plain_58 : decode cX12_plain 58 = .ok (.iastore, 1) := zk_79 (by decide +kernel)
theorem dX12_plain_59 : decode cX12_plain 59 = .ok (.aload_n 0, 1) := zk_42 (by decide +kernel)
theorem dX12_plain_60 : decode cX12_plain 60 = .ok (.getfield 20, 3) := zk_180 (by decide +kernel)
theorem dX12_plain_63 : decode cX12_plain 63 = .ok (.bipush 8, 2) := zk_16 (by decide +kernel)
theorem dX12_plain_65 : decode cX12_plain 65 = .ok (.iconst 0, 1) := zk_3 (by decide +kernel)
theorem dX12_plain_66 : decode cX12_plain 66 = .ok (.iastore, 1) := zk_79 (by decide +kernel)
theorem dX12_plain_67 : decode cX12_plain 67 = .ok (.aload_n 0, 1) := zk_42 (by decide +kernel)
theorem dX12_plain_68 : decode cX12_plain 68 = .ok (.getfield 20, 3) := zk_180 (by decide +kernel)
theorem dX12_plain_71 : decode cX12_plain 71 = .ok (.bipush 9, 2) := zk_16 (by decide +kernel)
theorem dX12_plain_73 : decode cX12_plain 73 = .ok (.bipush 59, 2) := zk_16 (by decide +kernel)
theorem dX12_plain_75 : decode cX12_plain 75 = .ok (.iastore, 1) := zk_79 (by decide +kernel)
theorem dX12_plain_76 : decode cX12_plain 76 = .ok (.aload_n 0, 1) := zk_42 (by decide +kernel)
theorem dX12_plain_77 : decode cX12_plain 77 = .ok (.getfield 20, 3) := zk_180 (by decide +kernel)
theorem dX12_plain_80 : decode cX12_plain 80 = .ok (.bipush 10, 2) := zk_16 (by decide +kernel)
theorem dX12_plain_82 : decode cX12_plain 82 = .ok (.iconst 2, 1) := zk_5 (by decide +kernel)
theorem dX12_plain_83 : decode cX12_plain 83 = .ok (.iastore, 1) := zk_79 (by decide +kernel)
theorem dX12_plain_84 : decode cX12_plain 84 = .ok (.aload_n 0, 1) := zk_42 (by decide +kernel)
theorem dX12_plain_85 : decode cX12_plain 85 = .ok (.getfield 20, 3) := zk_180 (by decide +kernel)
theorem dX12_plain_88 : decode cX12_plain 88 = .ok (.bipush 11, 2) := zk_16 (by decide +kernel)
theorem dX12_plain_90 : decode cX12_plain 90 = .ok (.iconst 0, 1) := zk_3 (by decide +kernel)
theorem dX12_plain_91 : decode cX12_plain 91 = .ok (.iastore, 1) := zk_79 (by decide +kernel)
theorem dX12_plain_92 : decode cX12_plain 92 = .ok (.aload_n 0, 1) := zk_42 (by decide +kernel)
theorem dX12_plain_93 : decode cX12_plain 93 = .ok (.getfield 20, 3) := zk_180 (by decide +kernel)
theorem dX12_plain_96 : decode cX12_plain 96 = .ok (.bipush 12, 2) := zk_16 (by decide +kernel)
theorem dX12_plain_98 : decode cX12_plain 98 = .ok (.sipush 1461, 3) := zk_17 (by decide +kernel)
theorem dX12_plain_101 : decode cX12_plain 101 = .ok (.iastore, 1) := zk_79 (by decide +kernel)
theorem dX12_plain_102 : decode cX12_plain 102 = .ok (.aload_n 0, 1) := zk_42 (by decide +kernel)
theorem dX12_plain_103 : decode cX12_plain 103 = .ok (.getfield 20, 3) := zk_180 (by decide +kernel)
theorem dX12_plain_106 : decode cX12_plain 106 = .ok (.bipush 13, 2) := zk_16 (by decide +kernel)
theorem dX12_plain_108 : decode cX12_plain 108 = .ok (.iconst 4, 1) := zk_7 (by decide +kernel)
theorem dX12_plain_109 : decode cX12_plain 109 = .ok (.iastore, 1) := zk_79 (by decide +kernel)
theorem dX12_plain_110 : decode cX12_plain 110 = .ok (.return_, 1) := zk_177 (by decide +kernel)
set_option maxHeartbeats 4000000 in
set_option maxRecDepth 100000 in
theorem gq_plain (l : Launch) (dC : Nat → ClassId) (dI : Nat → Nat → Nat) (mq : Nat) (g : Nat → Int32) (gl : Nat → Int64) (rf : Nat → Nat) (ck : Nat → ClassId) (f_sky : Nat → Int32) (sz : Nat) : Met l yX12_plain (Cond.code yX12_plain cX12_plain 1 none :: wsL_law) ({ frames := 0, cells := 0, slots := 0, locals := 0 }) (va_Pc [.ref mq] (fun U => U.heap.size = sz ∧ va_P (dC, dI) vwCl [(mq, .inr (12, mF g gl rf)), (eA0 (rf 24) (ck 24) 14 f_sky)] U.heap ∧ va_K (dC, dI) vwCl [((ck 24), .int)] U ∧ va_D (fun _ => True) [(mq, .inr (12, mF g gl rf)), (eA0 (rf 24) (ck 24) 14 f_sky)])) (va_Qv (fun (u : (Int32) × (Int32) × (Int32) × (Int32) × (Int32) × (Int32) × (Int32) × (Int32) × (Int32) × (Int32) × (Nat → Int32)) => u = fq_plain f_sky) (fun (u : (Int32) × (Int32) × (Int32) × (Int32) × (Int32) × (Int32) × (Int32) × (Int32) × (Int32) × (Int32) × (Nat → Int32)) t => va_P (dC, dI) vwCl [(mq, .inr (12, mF (upd (upd (upd (upd (upd (upd (upd (upd (upd (upd g 18 u.1) 19 u.2.1) 20 u.2.2.1) 21 u.2.2.2.1) 22 u.2.2.2.2.1) 23 u.2.2.2.2.2.1) 25 u.2.2.2.2.2.2.1) 26 u.2.2.2.2.2.2.2.1) 27 u.2.2.2.2.2.2.2.2.1) 50 u.2.2.2.2.2.2.2.2.2.1) gl rf)), (eA0 (rf 24) (ck 24) 14 u.2.2.2.2.2.2.2.2.2.2)] t.heap ∧ va_K (dC, dI) vwCl [] t ∧ va_D (va_A [(mq, .inr (12, mF g gl rf)), (eA0 (rf 24) (ck 24) 14 f_sky)] sz) [(mq, .inr (12, mF (upd (upd (upd (upd (upd (upd (upd (upd (upd (upd g 18 u.1) 19 u.2.1) 20 u.2.2.1) 21 u.2.2.2.1) 22 u.2.2.2.2.1) 23 u.2.2.2.2.2.1) 25 u.2.2.2.2.2.2.1) 26 u.2.2.2.2.2.2.2.1) 27 u.2.2.2.2.2.2.2.2.1) 50 u.2.2.2.2.2.2.2.2.2.1) gl rf)), (eA0 (rf 24) (ck 24) 14 u.2.2.2.2.2.2.2.2.2.2)]) (va_A [(mq, .inr (12, mF g gl rf)), (eA0 (rf 24) (ck 24) 14 f_sky)] sz)) 0 0 (va_A [(mq, .inr (12, mF g gl rf)), (eA0 (rf 24) (ck 24) 14 f_sky)] sz) := by
  refine Met.ofW (cc := cX12_plain) (maxL := 1) (ret := none) (by decide) rfl ?_
  intro p e s m args below meth c s₁ B hml hv
  obtain ⟨rfl, hsz, hP, hK, hD0⟩ := hv
  have hx := B.exec
  have hb := B.bytes
  have hr := B.returns
  have hts := atoms_spec (ws := Cond.code yX12_plain cX12_plain 1 none :: wsL_law) B.pre
  have htw : ∀ w ∈ wsL_law, w.before _ s = true := fun w h => hts w (List.mem_cons_of_mem _ h)
  have hown : s.vm.findClass RX12 = some m.cls := findClass_of_methodNamed B.named
  have hlocks := B.notSynchronized
  subst hsz
  have hD := hD0.self (sz := s.heap.size)
  generalize hAe : va_A [(mq, .inr (12, mF g gl rf)), (eA0 (rf 24) (ck 24) 14 f_sky)] s.heap.size = A at hD ⊢
  have hA : ∀ q : Nat, s.heap.size ≤ q → A q := fun q h => by rw [← hAe]; exact Or.inr h
  obtain ⟨H, rH⟩ : ∃ z : Heap, z = s.heap := ⟨_, rfl⟩
  have hS : va_S A s.heap H [] := by rw [rH]; exact va_S.rf
  have hP : va_P (dC, dI) vwCl [(mq, .inr (12, mF g gl rf)), (eA0 (rf 24) (ck 24) 14 f_sky)] H := by rw [rH]; exact hP
  rw [← rH]
  have hl := lv_entry ([.ref mq]) (n := 1) (Nat.le_of_ble_eq_true rfl)
  rw [lg_entry_eq]
  generalize (lg_sl ([.ref mq]) ++ List.replicate (1 - (lg_sl ([.ref mq])).length) Slot.unset).toArray = ls at hl ⊢
  have hl : lv_has ls 1 [(0, .ref mq)] := hl
  refine lv_aload_n hx hb dX12_plain_0 rfl (lv_at hl 0 rfl) ?_
  refine lv_iconst (v := 0) hx hb dX12_plain_1 (by decide) ?_
  refine va_put (D := (dC, dI)) (ci := 12) (v := .int 0) (ty := tyX12 18) (C := RX12) (T := TX12) (N := 76) hx hb htw inlX12 tyX12 tyX12_ok nmX12 hown hK hP hD hS 0 rfl rfl 18 (by decide) (htw _ (ck_10 _ (List.mem_of_getElem? (i := 19) rfl))) (fun _ h9 => h9) rfl (tyX12_ok 18 (by decide)) rfl rfl (Nat.le_of_ble_eq_true rfl) dX12_plain_2 (fun H locs hP hD hS => ?_)
  obtain ⟨hP, hD⟩ := zre [(mq, .inr (12, mF (upd g 18 0) gl rf)), (eA0 (rf 24) (ck 24) 14 f_sky)] hP hD rfl
  refine lv_aload_n hx hb dX12_plain_5 rfl (lv_at hl 0 rfl) ?_
  refine lv_iconst (v := 0) hx hb dX12_plain_6 (by decide) ?_
  refine va_put (D := (dC, dI)) (ci := 12) (v := .int 0) (ty := tyX12 19) (C := RX12) (T := TX12) (N := 76) hx hb htw inlX12 tyX12 tyX12_ok nmX12 hown hK hP hD hS 0 rfl rfl 19 (by decide) (htw _ (ck_10 _ (List.mem_of_getElem? (i := 20) rfl))) (fun _ h9 => h9) rfl (tyX12_ok 19 (by decide)) rfl rfl (Nat.le_of_ble_eq_true rfl) dX12_plain_7 (fun H locs hP hD hS => ?_)
  have hP : va_P (dC, dI) vwCl [(mq, .inr (12, mF (upd (upd g 18 0) 19 0) gl rf)), (eA0 (rf 24) (ck 24) 14 f_sky)] H := hP
  have hD : va_D A [(mq, .inr (12, mF (upd (upd g 18 0) 19 0) gl rf)), (eA0 (rf 24) (ck 24) 14 f_sky)] := hD
  refine lv_aload_n hx hb dX12_plain_10 rfl (lv_at hl 0 rfl) ?_
  refine lv_iconst (v := 0) hx hb dX12_plain_11 (by decide) ?_
  refine va_put (D := (dC, dI)) (ci := 12) (v := .int 0) (ty := tyX12 20) (C := RX12) (T := TX12) (N := 76) hx hb htw inlX12 tyX12 tyX12_ok nmX12 hown hK hP hD hS 0 rfl rfl 20 (by decide) (htw _ (ck_10 _ (List.mem_of_getElem? (i := 21) rfl))) (fun _ h9 => h9) rfl (tyX12_ok 20 (by decide)) rfl rfl (Nat.le_of_ble_eq_true rfl) dX12_plain_12 (fun H locs hP hD hS => ?_)
  have hP : va_P (dC, dI) vwCl [(mq, .inr (12, mF (upd (upd (upd g 18 0) 19 0) 20 0) gl rf)), (eA0 (rf 24) (ck 24) 14 f_sky)] H := hP
  have hD : va_D A [(mq, .inr (12, mF (upd (upd (upd g 18 0) 19 0) 20 0) gl rf)), (eA0 (rf 24) (ck 24) 14 f_sky)] := hD
  refine lv_aload_n hx hb dX12_plain_15 rfl (lv_at hl 0 rfl) ?_
  refine lv_iconst (v := 0) hx hb dX12_plain_16 (by decide) ?_
  refine va_put (D := (dC, dI)) (ci := 12) (v := .int 0) (ty := tyX12 21) (C := RX12) (T := TX12) (N := 76) hx hb htw inlX12 tyX12 tyX12_ok nmX12 hown hK hP hD hS 0 rfl rfl 21 (by decide) (htw _ (ck_10 _ (List.mem_of_getElem? (i := 22) rfl))) (fun _ h9 => h9) rfl (tyX12_ok 21 (by decide)) rfl rfl (Nat.le_of_ble_eq_true rfl) dX12_plain_17 (fun H locs hP hD hS => ?_)
  have hP : va_P (dC, dI) vwCl [(mq, .inr (12, mF (upd (upd (upd (upd g 18 0) 19 0) 20 0) 21 0) gl rf)), (eA0 (rf 24) (ck 24) 14 f_sky)] H := hP
  have hD : va_D A [(mq, .inr (12, mF (upd (upd (upd (upd g 18 0) 19 0) 20 0) 21 0) gl rf)), (eA0 (rf 24) (ck 24) 14 f_sky)] := hD
  refine lv_aload_n hx hb dX12_plain_20 rfl (lv_at hl 0 rfl) ?_
  refine lv_iconst (v := 0) hx hb dX12_plain_21 (by decide) ?_
  refine va_put (D := (dC, dI)) (ci := 12) (v := .int 0) (ty := tyX12 22) (C := RX12) (T := TX12) (N := 76) hx hb htw inlX12 tyX12 tyX12_ok nmX12 hown hK hP hD hS 0 rfl rfl 22 (by decide) (htw _ (ck_10 _ (List.mem_of_getElem? (i := 23) rfl))) (fun _ h9 => h9) rfl (tyX12_ok 22 (by decide)) rfl rfl (Nat.le_of_ble_eq_true rfl) dX12_plain_22 (fun H locs hP hD hS => ?_)
  have hP : va_P (dC, dI) vwCl [(mq, .inr (12, mF (upd (upd (upd (upd (upd g 18 0) 19 0) 20 0) 21 0) 22 0) gl rf)), (eA0 (rf 24) (ck 24) 14 f_sky)] H := hP
  have hD : va_D A [(mq, .inr (12, mF (upd (upd (upd (upd (upd g 18 0) 19 0) 20 0) 21 0) 22 0) gl rf)), (eA0 (rf 24) (ck 24) 14 f_sky)] := hD
  refine lv_aload_n hx hb dX12_plain_25 rfl (lv_at hl 0 rfl) ?_
  refine lv_iconst (v := 0) hx hb dX12_plain_26 (by decide) ?_
  refine va_put (D := (dC, dI)) (ci := 12) (v := .int 0) (ty := tyX12 23) (C := RX12) (T := TX12) (N := 76) hx hb htw inlX12 tyX12 tyX12_ok nmX12 hown hK hP hD hS 0 rfl rfl 23 (by decide) (htw _ (ck_11 _ (List.mem_of_getElem? (i := 0) rfl))) (fun _ h9 => h9) rfl (tyX12_ok 23 (by decide)) rfl rfl (Nat.le_of_ble_eq_true rfl) dX12_plain_27 (fun H locs hP hD hS => ?_)
  have hP : va_P (dC, dI) vwCl [(mq, .inr (12, mF (upd (upd (upd (upd (upd (upd g 18 0) 19 0) 20 0) 21 0) 22 0) 23 0) gl rf)), (eA0 (rf 24) (ck 24) 14 f_sky)] H := hP
  have hD : va_D A [(mq, .inr (12, mF (upd (upd (upd (upd (upd (upd g 18 0) 19 0) 20 0) 21 0) 22 0) 23 0) gl rf)), (eA0 (rf 24) (ck 24) 14 f_sky)] := hD
  refine lv_aload_n hx hb dX12_plain_30 rfl (lv_at hl 0 rfl) ?_
  refine lv_iconst (v := 0) hx hb dX12_plain_31 (by decide) ?_
  refine va_put (D := (dC, dI)) (ci := 12) (v := .int 0) (ty := tyX12 50) (C := RX12) (T := TX12) (N := 76) hx hb htw inlX12 tyX12 tyX12_ok nmX12 hown hK hP hD hS 0 rfl rfl 50 (by decide) (htw _ (ck_11 _ (List.mem_of_getElem? (i := 1) rfl))) (fun _ h9 => h9) rfl (tyX12_ok 50 (by decide)) rfl rfl (Nat.le_of_ble_eq_true rfl) dX12_plain_32 (fun H locs hP hD hS => ?_)
  have hP : va_P (dC, dI) vwCl [(mq, .inr (12, mF (upd (upd (upd (upd (upd (upd (upd g 18 0) 19 0) 20 0) 21 0) 22 0) 23 0) 50 0) gl rf)), (eA0 (rf 24) (ck 24) 14 f_sky)] H := hP
  have hD : va_D A [(mq, .inr (12, mF (upd (upd (upd (upd (upd (upd (upd g 18 0) 19 0) 20 0) 21 0) 22 0) 23 0) 50 0) gl rf)), (eA0 (rf 24) (ck 24) 14 f_sky)] := hD
  refine lv_aload_n hx hb dX12_plain_35 rfl (lv_at hl 0 rfl) ?_
  refine lv_iconst (v := 0) hx hb dX12_plain_36 (by decide) ?_
  refine va_put (D := (dC, dI)) (ci := 12) (v := .int 0) (ty := tyX12 25) (C := RX12) (T := TX12) (N := 76) hx hb htw inlX12 tyX12 tyX12_ok nmX12 hown hK hP hD hS 0 rfl rfl 25 (by decide) (htw _ (ck_11 _ (List.mem_of_getElem? (i := 2) rfl))) (fun _ h9 => h9) rfl (tyX12_ok 25 (by decide)) rfl rfl (Nat.le_of_ble_eq_true rfl) dX12_plain_37 (fun H locs hP hD hS => ?_)
  have hP : va_P (dC, dI) vwCl [(mq, .inr (12, mF (upd (upd (upd (upd (upd (upd (upd (upd g 18 0) 19 0) 20 0) 21 0) 22 0) 23 0) 25 0) 50 0) gl rf)), (eA0 (rf 24) (ck 24) 14 f_sky)] H := hP
  have hD : va_D A [(mq, .inr (12, mF (upd (upd (upd (upd (upd (upd (upd (upd g 18 0) 19 0) 20 0) 21 0) 22 0) 23 0) 25 0) 50 0) gl rf)), (eA0 (rf 24) (ck 24) 14 f_sky)] := hD
  refine lv_aload_n hx hb dX12_plain_40 rfl (lv_at hl 0 rfl) ?_
  refine lv_iconst (v := 0) hx hb dX12_plain_41 (by decide) ?_
  refine va_put (D := (dC, dI)) (ci := 12) (v := .int 0) (ty := tyX12 26) (C := RX12) (T := TX12) (N := 76) hx hb htw inlX12 tyX12 tyX12_ok nmX12 hown hK hP hD hS 0 rfl rfl 26 (by decide) (htw _ (ck_11 _ (List.mem_of_getElem? (i := 3) rfl))) (fun _ h9 => h9) rfl (tyX12_ok 26 (by decide)) rfl rfl (Nat.le_of_ble_eq_true rfl) dX12_plain_42 (fun H locs hP hD hS => ?_)
  have hP : va_P (dC, dI) vwCl [(mq, .inr (12, mF (upd (upd (upd (upd (upd (upd (upd (upd (upd g 18 0) 19 0) 20 0) 21 0) 22 0) 23 0) 25 0) 26 0) 50 0) gl rf)), (eA0 (rf 24) (ck 24) 14 f_sky)] H := hP
  have hD : va_D A [(mq, .inr (12, mF (upd (upd (upd (upd (upd (upd (upd (upd (upd g 18 0) 19 0) 20 0) 21 0) 22 0) 23 0) 25 0) 26 0) 50 0) gl rf)), (eA0 (rf 24) (ck 24) 14 f_sky)] := hD
  refine lv_aload_n hx hb dX12_plain_45 rfl (lv_at hl 0 rfl) ?_
  refine lv_iconst (v := 0) hx hb dX12_plain_46 (by decide) ?_
  refine va_put (D := (dC, dI)) (ci := 12) (v := .int 0) (ty := tyX12 27) (C := RX12) (T := TX12) (N := 76) hx hb htw inlX12 tyX12 tyX12_ok nmX12 hown hK hP hD hS 0 rfl rfl 27 (by decide) (htw _ (ck_11 _ (List.mem_of_getElem? (i := 4) rfl))) (fun _ h9 => h9) rfl (tyX12_ok 27 (by decide)) rfl rfl (Nat.le_of_ble_eq_true rfl) dX12_plain_47 (fun H locs hP hD hS => ?_)
  have hP : va_P (dC, dI) vwCl [(mq, .inr (12, mF (upd (upd (upd (upd (upd (upd (upd (upd (upd (upd g 18 0) 19 0) 20 0) 21 0) 22 0) 23 0) 25 0) 26 0) 27 0) 50 0) gl rf)), (eA0 (rf 24) (ck 24) 14 f_sky)] H := hP
  have hD : va_D A [(mq, .inr (12, mF (upd (upd (upd (upd (upd (upd (upd (upd (upd (upd g 18 0) 19 0) 20 0) 21 0) 22 0) 23 0) 25 0) 26 0) 27 0) 50 0) gl rf)), (eA0 (rf 24) (ck 24) 14 f_sky)] := hD
  refine lv_aload_n hx hb dX12_plain_50 rfl (lv_at hl 0 rfl) ?_
  refine va_get (D := (dC, dI)) (ci := 12) (v := .ref (rf 24)) (C := RX12) (T := TX12) (N := 76) hx hb htw inlX12 hown hK hP 0 rfl rfl 24 (by decide) (htw _ (ck_9 _ (List.mem_of_getElem? (i := 7) rfl))) (fun _ h9 => h9) rfl dX12_plain_51 ?_
  refine lv_bipush (v := 7) hx hb dX12_plain_54 (by decide) ?_
  refine lv_bipush (v := 7) hx hb dX12_plain_56 (by decide) ?_
  refine va_iast hx hb hK hP hD hS 1 0 rfl rfl (by unfold vp_in; decide) dX12_plain_58 (fun H locs hP hD hS => ?_)
  have hP : va_P (dC, dI) vwCl [(mq, .inr (12, mF (upd (upd (upd (upd (upd (upd (upd (upd (upd (upd g 18 0) 19 0) 20 0) 21 0) 22 0) 23 0) 25 0) 26 0) 27 0) 50 0) gl rf)), (eA0 (rf 24) (ck 24) 14 (upd f_sky ((7 : Int32).toNatClampNeg) 7))] H := hP
  have hD : va_D A [(mq, .inr (12, mF (upd (upd (upd (upd (upd (upd (upd (upd (upd (upd g 18 0) 19 0) 20 0) 21 0) 22 0) 23 0) 25 0) 26 0) 27 0) 50 0) gl rf)), (eA0 (rf 24) (ck 24) 14 (upd f_sky ((7 : Int32).toNatClampNeg) 7))] := hD
  refine lv_aload_n hx hb dX12_plain_59 rfl (lv_at hl 0 rfl) ?_
  refine va_get (D := (dC, dI)) (ci := 12) (v := .ref (rf 24)) (C := RX12) (T := TX12) (N := 76) hx hb htw inlX12 hown hK hP 0 rfl rfl 24 (by decide) (htw _ (ck_9 _ (List.mem_of_getElem? (i := 7) rfl))) (fun _ h9 => h9) rfl dX12_plain_60 ?_
  refine lv_bipush (v := 8) hx hb dX12_plain_63 (by decide) ?_
  refine lv_iconst (v := 0) hx hb dX12_plain_65 (by decide) ?_
  refine va_iast hx hb hK hP hD hS 1 0 rfl rfl (by unfold vp_in; decide) dX12_plain_66 (fun H locs hP hD hS => ?_)
  have hP : va_P (dC, dI) vwCl [(mq, .inr (12, mF (upd (upd (upd (upd (upd (upd (upd (upd (upd (upd g 18 0) 19 0) 20 0) 21 0) 22 0) 23 0) 25 0) 26 0) 27 0) 50 0) gl rf)), (eA0 (rf 24) (ck 24) 14 (upd (upd f_sky ((7 : Int32).toNatClampNeg) 7) ((8 : Int32).toNatClampNeg) 0))] H := hP
  have hD : va_D A [(mq, .inr (12, mF (upd (upd (upd (upd (upd (upd (upd (upd (upd (upd g 18 0) 19 0) 20 0) 21 0) 22 0) 23 0) 25 0) 26 0) 27 0) 50 0) gl rf)), (eA0 (rf 24) (ck 24) 14 (upd (upd f_sky ((7 : Int32).toNatClampNeg) 7) ((8 : Int32).toNatClampNeg) 0))] := hD
  refine lv_aload_n hx hb dX12_plain_67 rfl (lv_at hl 0 rfl) ?_
  refine va_get (D := (dC, dI)) (ci := 12) (v := .ref (rf 24)) (C := RX12) (T := TX12) (N := 76) hx hb htw inlX12 hown hK hP 0 rfl rfl 24 (by decide) (htw _ (ck_9 _ (List.mem_of_getElem? (i := 7) rfl))) (fun _ h9 => h9) rfl dX12_plain_68 ?_
  refine lv_bipush (v := 9) hx hb dX12_plain_71 (by decide) ?_
  refine lv_bipush (v := 59) hx hb dX12_plain_73 (by decide) ?_
  refine va_iast hx hb hK hP hD hS 1 0 rfl rfl (by unfold vp_in; decide) dX12_plain_75 (fun H locs hP hD hS => ?_)
  have hP : va_P (dC, dI) vwCl [(mq, .inr (12, mF (upd (upd (upd (upd (upd (upd (upd (upd (upd (upd g 18 0) 19 0) 20 0) 21 0) 22 0) 23 0) 25 0) 26 0) 27 0) 50 0) gl rf)), (eA0 (rf 24) (ck 24) 14 (upd (upd (upd f_sky ((7 : Int32).toNatClampNeg) 7) ((8 : Int32).toNatClampNeg) 0) ((9 : Int32).toNatClampNeg) 59))] H := hP
  have hD : va_D A [(mq, .inr (12, mF (upd (upd (upd (upd (upd (upd (upd (upd (upd (upd g 18 0) 19 0) 20 0) 21 0) 22 0) 23 0) 25 0) 26 0) 27 0) 50 0) gl rf)), (eA0 (rf 24) (ck 24) 14 (upd (upd (upd f_sky ((7 : Int32).toNatClampNeg) 7) ((8 : Int32).toNatClampNeg) 0) ((9 : Int32).toNatClampNeg) 59))] := hD
  refine lv_aload_n hx hb dX12_plain_76 rfl (lv_at hl 0 rfl) ?_
  refine va_get (D := (dC, dI)) (ci := 12) (v := .ref (rf 24)) (C := RX12) (T := TX12) (N := 76) hx hb htw inlX12 hown hK hP 0 rfl rfl 24 (by decide) (htw _ (ck_9 _ (List.mem_of_getElem? (i := 7) rfl))) (fun _ h9 => h9) rfl dX12_plain_77 ?_
  refine lv_bipush (v := 10) hx hb dX12_plain_80 (by decide) ?_
  refine lv_iconst (v := 2) hx hb dX12_plain_82 (by decide) ?_
  refine va_iast hx hb hK hP hD hS 1 0 rfl rfl (by unfold vp_in; decide) dX12_plain_83 (fun H locs hP hD hS => ?_)
  have hP : va_P (dC, dI) vwCl [(mq, .inr (12, mF (upd (upd (upd (upd (upd (upd (upd (upd (upd (upd g 18 0) 19 0) 20 0) 21 0) 22 0) 23 0) 25 0) 26 0) 27 0) 50 0) gl rf)), (eA0 (rf 24) (ck 24) 14 (upd (upd (upd (upd f_sky ((7 : Int32).toNatClampNeg) 7) ((8 : Int32).toNatClampNeg) 0) ((9 : Int32).toNatClampNeg) 59) ((10 : Int32).toNatClampNeg) 2))] H := hP
  have hD : va_D A [(mq, .inr (12, mF (upd (upd (upd (upd (upd (upd (upd (upd (upd (upd g 18 0) 19 0) 20 0) 21 0) 22 0) 23 0) 25 0) 26 0) 27 0) 50 0) gl rf)), (eA0 (rf 24) (ck 24) 14 (upd (upd (upd (upd f_sky ((7 : Int32).toNatClampNeg) 7) ((8 : Int32).toNatClampNeg) 0) ((9 : Int32).toNatClampNeg) 59) ((10 : Int32).toNatClampNeg) 2))] := hD
  refine lv_aload_n hx hb dX12_plain_84 rfl (lv_at hl 0 rfl) ?_
  refine va_get (D := (dC, dI)) (ci := 12) (v := .ref (rf 24)) (C := RX12) (T := TX12) (N := 76) hx hb htw inlX12 hown hK hP 0 rfl rfl 24 (by decide) (htw _ (ck_9 _ (List.mem_of_getElem? (i := 7) rfl))) (fun _ h9 => h9) rfl dX12_plain_85 ?_
  refine lv_bipush (v := 11) hx hb dX12_plain_88 (by decide) ?_
  refine lv_iconst (v := 0) hx hb dX12_plain_90 (by decide) ?_
  refine va_iast hx hb hK hP hD hS 1 0 rfl rfl (by unfold vp_in; decide) dX12_plain_91 (fun H locs hP hD hS => ?_)
  have hP : va_P (dC, dI) vwCl [(mq, .inr (12, mF (upd (upd (upd (upd (upd (upd (upd (upd (upd (upd g 18 0) 19 0) 20 0) 21 0) 22 0) 23 0) 25 0) 26 0) 27 0) 50 0) gl rf)), (eA0 (rf 24) (ck 24) 14 (upd (upd (upd (upd (upd f_sky ((7 : Int32).toNatClampNeg) 7) ((8 : Int32).toNatClampNeg) 0) ((9 : Int32).toNatClampNeg) 59) ((10 : Int32).toNatClampNeg) 2) ((11 : Int32).toNatClampNeg) 0))] H := hP
  have hD : va_D A [(mq, .inr (12, mF (upd (upd (upd (upd (upd (upd (upd (upd (upd (upd g 18 0) 19 0) 20 0) 21 0) 22 0) 23 0) 25 0) 26 0) 27 0) 50 0) gl rf)), (eA0 (rf 24) (ck 24) 14 (upd (upd (upd (upd (upd f_sky ((7 : Int32).toNatClampNeg) 7) ((8 : Int32).toNatClampNeg) 0) ((9 : Int32).toNatClampNeg) 59) ((10 : Int32).toNatClampNeg) 2) ((11 : Int32).toNatClampNeg) 0))] := hD
  refine lv_aload_n hx hb dX12_plain_92 rfl (lv_at hl 0 rfl) ?_
  refine va_get (D := (dC, dI)) (ci := 12) (v := .ref (rf 24)) (C := RX12) (T := TX12) (N := 76) hx hb htw inlX12 hown hK hP 0 rfl rfl 24 (by decide) (htw _ (ck_9 _ (List.mem_of_getElem? (i := 7) rfl))) (fun _ h9 => h9) rfl dX12_plain_93 ?_
  refine lv_bipush (v := 12) hx hb dX12_plain_96 (by decide) ?_
  refine lv_sipush (v := 1461) hx hb dX12_plain_98 (by decide) ?_
  refine va_iast hx hb hK hP hD hS 1 0 rfl rfl (by unfold vp_in; decide) dX12_plain_101 (fun H locs hP hD hS => ?_)
  have hP : va_P (dC, dI) vwCl [(mq, .inr (12, mF (upd (upd (upd (upd (upd (upd (upd (upd (upd (upd g 18 0) 19 0) 20 0) 21 0) 22 0) 23 0) 25 0) 26 0) 27 0) 50 0) gl rf)), (eA0 (rf 24) (ck 24) 14 (upd (upd (upd (upd (upd (upd f_sky ((7 : Int32).toNatClampNeg) 7) ((8 : Int32).toNatClampNeg) 0) ((9 : Int32).toNatClampNeg) 59) ((10 : Int32).toNatClampNeg) 2) ((11 : Int32).toNatClampNeg) 0) ((12 : Int32).toNatClampNeg) 1461))] H := hP
  have hD : va_D A [(mq, .inr (12, mF (upd (upd (upd (upd (upd (upd (upd (upd (upd (upd g 18 0) 19 0) 20 0) 21 0) 22 0) 23 0) 25 0) 26 0) 27 0) 50 0) gl rf)), (eA0 (rf 24) (ck 24) 14 (upd (upd (upd (upd (upd (upd f_sky ((7 : Int32).toNatClampNeg) 7) ((8 : Int32).toNatClampNeg) 0) ((9 : Int32).toNatClampNeg) 59) ((10 : Int32).toNatClampNeg) 2) ((11 : Int32).toNatClampNeg) 0) ((12 : Int32).toNatClampNeg) 1461))] := hD
  refine lv_aload_n hx hb dX12_plain_102 rfl (lv_at hl 0 rfl) ?_
  refine va_get (D := (dC, dI)) (ci := 12) (v := .ref (rf 24)) (C := RX12) (T := TX12) (N := 76) hx hb htw inlX12 hown hK hP 0 rfl rfl 24 (by decide) (htw _ (ck_9 _ (List.mem_of_getElem? (i := 7) rfl))) (fun _ h9 => h9) rfl dX12_plain_103 ?_
  refine lv_bipush (v := 13) hx hb dX12_plain_106 (by decide) ?_
  refine lv_iconst (v := 4) hx hb dX12_plain_108 (by decide) ?_
  refine va_iast hx hb hK hP hD hS 1 0 rfl rfl (by unfold vp_in; decide) dX12_plain_109 (fun H locs hP hD hS => ?_)
  have hP : va_P (dC, dI) vwCl [(mq, .inr (12, mF (upd (upd (upd (upd (upd (upd (upd (upd (upd (upd g 18 0) 19 0) 20 0) 21 0) 22 0) 23 0) 25 0) 26 0) 27 0) 50 0) gl rf)), (eA0 (rf 24) (ck 24) 14 (upd (upd (upd (upd (upd (upd (upd f_sky ((7 : Int32).toNatClampNeg) 7) ((8 : Int32).toNatClampNeg) 0) ((9 : Int32).toNatClampNeg) 59) ((10 : Int32).toNatClampNeg) 2) ((11 : Int32).toNatClampNeg) 0) ((12 : Int32).toNatClampNeg) 1461) ((13 : Int32).toNatClampNeg) 4))] H := hP
  have hD : va_D A [(mq, .inr (12, mF (upd (upd (upd (upd (upd (upd (upd (upd (upd (upd g 18 0) 19 0) 20 0) 21 0) 22 0) 23 0) 25 0) 26 0) 27 0) 50 0) gl rf)), (eA0 (rf 24) (ck 24) 14 (upd (upd (upd (upd (upd (upd (upd f_sky ((7 : Int32).toNatClampNeg) 7) ((8 : Int32).toNatClampNeg) 0) ((9 : Int32).toNatClampNeg) 59) ((10 : Int32).toNatClampNeg) 2) ((11 : Int32).toNatClampNeg) 0) ((12 : Int32).toNatClampNeg) 1461) ((13 : Int32).toNatClampNeg) 4))] := hD
  refine W.widen (k := 0) (n := 0) (by omega) (by omega) ?_
  have hP9 := hP
  have hD9 := hD
  have hK9 := hK.sub (tys' := []) [] rfl
  exact W.vret hx hb hr (fun t ht hW => ⟨⟨(0, 0, 0, 0, 0, 0, 0, 0, 0, 0, (upd (upd (upd (upd (upd (upd (upd f_sky ((7 : Int32).toNatClampNeg) 7) ((8 : Int32).toNatClampNeg) 0) ((9 : Int32).toNatClampNeg) 59) ((10 : Int32).toNatClampNeg) 2) ((11 : Int32).toNatClampNeg) 0) ((12 : Int32).toNatClampNeg) 1461) ((13 : Int32).toNatClampNeg) 4)), rfl, (Eq.symm ((by rw [fq_plain]))), by rw [ht]; exact hP9, va_K.moved hW.alike hK9, hD9⟩, hS.F ht⟩) hS.2.2 dX12_plain_110

def fq_copies4_d : Nat → (Int32) → (Nat → Int32) → (Nat → Int32)
  | 0, L2d, f_na_d => f_na_d
  | n + 1, L2d, f_na_d => (if 4 ≤ L2d then f_na_d else fq_copies4_d n (L2d + 1) (upd f_na_d L2d.toNatClampNeg (f_na_d ((4 + L2d).toNatClampNeg))))
def fq_copies4 (f_na : Nat → Int32) : (Nat → Int32) := fq_copies4_d 4 (0 : Int32) f_na
theorem gq_copies4_s0 {y0 : Int32} (h0 : ¬ (4 ≤ y0)) (h1 : ¬ (y0 < 0)) : ¬ ((4 + y0) < 0) ∧ ¬ (8 ≤ (4 + y0)) := by lia
theorem gq_copies4_s1 {y0 : Int32} (h0 : ¬ (4 ≤ y0)) (h1 : ¬ (y0 < 0)) : ¬ (y0 < 0) ∧ ¬ (8 ≤ y0) := by lia
theorem gq_copies4_s2 {y0 : Int32} (h0 : ¬ (4 ≤ y0)) (h1 : ¬ (y0 < 0)) : ¬ ((y0 + 1) < 0) := by lia
theorem gq_copies4_s3  : ¬ ((0 : Int32) < 0) := (by decide)
theorem dX12_copies_0 : decode cX12_copies 0 = .ok (.iconst 0, 1) := zk_3 (by decide +kernel)
theorem dX12_copies_1 : decode cX12_copies 1 = .ok (.istore_n 2, 1) := zk_61 (by decide +kernel)
theorem dX12_copies_2 : decode cX12_copies 2 = .ok (.iload_n 2, 1) := zk_28 (by decide +kernel)
theorem dX12_copies_3 : decode cX12_copies 3 = .ok (.iload_n 1, 1) := zk_27 (by decide +kernel)
theorem dX12_copies_4 : decode cX12_copies 4 = .ok (.if_icmp .ge 17, 3) := zk_162 (by decide +kernel)
theorem dX12_copies_21 : decode cX12_copies 21 = .ok (.return_, 1) := zk_177 (by decide +kernel)
theorem dX12_copies_7 : decode cX12_copies 7 = .ok (.aload_n 0, 1) := zk_42 (by decide +kernel)
theorem dX12_copies_8 : decode cX12_copies 8 = .ok (.iload_n 2, 1) := zk_28 (by decide +kernel)
theorem dX12_copies_9 : decode cX12_copies 9 = .ok (.aload_n 0, 1) := zk_42 (by decide +kernel)
theorem dX12_copies_10 : decode cX12_copies 10 = .ok (.iload_n 1, 1) := zk_27 (by decide +kernel)
theorem dX12_copies_11 : decode cX12_copies 11 = .ok (.iload_n 2, 1) := zk_28 (by decide +kernel)
theorem dX12_copies_12 : decode cX12_copies 12 = .ok (.iadd, 1) := zk_96 (by decide +kernel)
theorem dX12_copies_13 : decode cX12_copies 13 = .ok (.iaload, 1) := zk_46 (by decide +kernel)
theorem dX12_copies_14 : decode cX12_copies 14 = .ok (.iastore, 1) := zk_79 (by decide +kernel)
theorem dX12_copies_15 : decode cX12_copies 15 = .ok (.iinc 2 1, 3) := zk_132 (by decide +kernel)
theorem dX12_copies_18 : decode cX12_copies 18 = .ok (.goto (-16), 3) := zk_167 (by decide +kernel)
set_option maxHeartbeats 4000000 in
set_option maxRecDepth 100000 in
theorem gq_copies4 (l : Launch) (dC : Nat → ClassId) (dI : Nat → Nat → Nat) (na : Nat) (cNa : ClassId) (f_na : Nat → Int32) (sz : Nat) : Met l yX12_copies (Cond.code yX12_copies cX12_copies 3 none :: wsL_law) ({ frames := 0, cells := 0, slots := 0, locals := 0 }) (va_Pc [.ref na, .int 4] (fun U => U.heap.size = sz ∧ va_P (dC, dI) vwCl [(eA0 na cNa 8 f_na)] U.heap ∧ va_K (dC, dI) vwCl [(cNa, .int)] U ∧ va_D (fun _ => True) [(eA0 na cNa 8 f_na)])) (va_Qv (fun (u : (Nat → Int32)) => u = fq_copies4 f_na) (fun (u : (Nat → Int32)) t => va_P (dC, dI) vwCl [(eA0 na cNa 8 u)] t.heap ∧ va_K (dC, dI) vwCl [] t ∧ va_D (va_A [(eA0 na cNa 8 f_na)] sz) [(eA0 na cNa 8 u)]) (va_A [(eA0 na cNa 8 f_na)] sz)) 0 0 (va_A [(eA0 na cNa 8 f_na)] sz) := by
  refine Met.ofW (cc := cX12_copies) (maxL := 3) (ret := none) (by decide) rfl ?_
  intro p e s m args below meth c s₁ B hml hv
  obtain ⟨rfl, hsz, hP, hK, hD0⟩ := hv
  have hx := B.exec
  have hb := B.bytes
  have hr := B.returns
  have hts := atoms_spec (ws := Cond.code yX12_copies cX12_copies 3 none :: wsL_law) B.pre
  have htw : ∀ w ∈ wsL_law, w.before _ s = true := fun w h => hts w (List.mem_cons_of_mem _ h)
  have hown : s.vm.findClass RX12 = some m.cls := findClass_of_methodNamed B.named
  have hlocks := B.notSynchronized
  subst hsz
  have hD := hD0.self (sz := s.heap.size)
  generalize hAe : va_A [(eA0 na cNa 8 f_na)] s.heap.size = A at hD ⊢
  have hA : ∀ q : Nat, s.heap.size ≤ q → A q := fun q h => by rw [← hAe]; exact Or.inr h
  obtain ⟨H, rH⟩ : ∃ z : Heap, z = s.heap := ⟨_, rfl⟩
  have hS : va_S A s.heap H [] := by rw [rH]; exact va_S.rf
  have hP : va_P (dC, dI) vwCl [(eA0 na cNa 8 f_na)] H := by rw [rH]; exact hP
  rw [← rH]
  have hl := lv_entry ([.ref na, .int 4]) (n := 3) (Nat.le_of_ble_eq_true rfl)
  rw [lg_entry_eq]
  generalize (lg_sl ([.ref na, .int 4]) ++ List.replicate (3 - (lg_sl ([.ref na, .int 4])).length) Slot.unset).toArray = ls at hl ⊢
  have hl : lv_has ls 3 [(0, .ref na), (1, .int 4)] := hl
  refine lv_iconst (v := 0) hx hb dX12_copies_0 (by decide) ?_
  refine lv_istore_n (lv' := [(2, .int 0), (0, .ref na), (1, .int 4)]) hx hb dX12_copies_1 rfl hl (by decide) rfl (fun ls hl => ?_)
  have hloop_1 : ∀ (n : Nat) (L2d : Int32) (f_na_d : Nat → Int32) (h0_d : ¬ L2d < 0) (hf_d : (4 : Int32).toInt ≤ L2d.toInt + (n : Int)) (hI_d : fq_copies4 f_na = fq_copies4_d n L2d f_na_d) (H : Heap) (locs : List Loc) (ls : Array Slot) (hP : va_P (dC, dI) vwCl [(eA0 na cNa 8 f_na_d)] H) (hD : va_D A [(eA0 na cNa 8 f_na_d)]) (hS : va_S A s.heap H locs) (hl : lv_has ls 3 [(2, .int L2d), (0, .ref na), (1, .int 4)]), W p l e (headSpec (Cond.code yX12_copies cX12_copies 3 none :: wsL_law) ({ frames := 0, cells := 0, slots := 0, locals := 0 })).room s m ([.ref na, .int 4] : List Value).toArray below meth c H locs 0 0 (MQ below (va_Qv (fun (u : (Nat → Int32)) => u = fq_copies4 f_na) (fun (u : (Nat → Int32)) t => va_P (dC, dI) vwCl [(eA0 na cNa 8 u)] t.heap ∧ va_K (dC, dI) vwCl [] t ∧ va_D A [(eA0 na cNa 8 u)]) A) ([.ref na, .int 4] : List Value).toArray s 0 0 A) (F0 m 2 ls []) := by
    intro n
    induction n with
    | zero =>
      intro L2d f_na_d h0_d hf_d hI_d H locs ls hP hD hS hl
      refine lv_iload_n hx hb dX12_copies_2 rfl (lv_at hl 0 rfl) ?_
      refine lv_iload_n hx hb dX12_copies_3 rfl (lv_at hl 2 rfl) ?_
      refine lv_icmp_ge (tgt := 21) hx hb dX12_copies_4 (by decide) (fun c_2 => ?_) (fun c_2 => absurd c_2 (fun h => h (xi_z hf_d)))
      refine W.widen (k := 0) (n := 0) (by omega) (by omega) ?_
      obtain ⟨hP9, hD9⟩ := zsub2 (ws' := [(eA0 na cNa 8 f_na_d)]) hP hD [0] (by decide) rfl
      have hK9 := hK.sub (tys' := []) [] rfl
      exact W.vret hx hb hr (fun t ht hW => ⟨⟨f_na_d, rfl, (Eq.symm (hI_d.trans (by rw [fq_copies4_d]; try rfl))), by rw [ht]; exact hP9, va_K.moved hW.alike hK9, hD9⟩, hS.F ht⟩) hS.2.2 dX12_copies_21
    | succ n ih =>
      intro L2d f_na_d h0_d hf_d hI_d H locs ls hP hD hS hl
      refine lv_iload_n hx hb dX12_copies_2 rfl (lv_at hl 0 rfl) ?_
      refine lv_iload_n hx hb dX12_copies_3 rfl (lv_at hl 2 rfl) ?_
      refine lv_icmp_ge (tgt := 21) hx hb dX12_copies_4 (by decide) (fun c_3 => ?_) (fun c_3 => ?_)
      · refine W.widen (k := 0) (n := 0) (by omega) (by omega) ?_
        obtain ⟨hP9, hD9⟩ := zsub2 (ws' := [(eA0 na cNa 8 f_na_d)]) hP hD [0] (by decide) rfl
        have hK9 := hK.sub (tys' := []) [] rfl
        exact W.vret hx hb hr (fun t ht hW => ⟨⟨f_na_d, rfl, (Eq.symm (hI_d.trans (by rw [fq_copies4_d]; (try rw [if_pos c_3]); try rfl))), by rw [ht]; exact hP9, va_K.moved hW.alike hK9, hD9⟩, hS.F ht⟩) hS.2.2 dX12_copies_21
      · refine lv_aload_n hx hb dX12_copies_7 rfl (lv_at hl 1 rfl) ?_
        refine lv_iload_n hx hb dX12_copies_8 rfl (lv_at hl 0 rfl) ?_
        refine lv_aload_n hx hb dX12_copies_9 rfl (lv_at hl 1 rfl) ?_
        refine lv_iload_n hx hb dX12_copies_10 rfl (lv_at hl 2 rfl) ?_
        refine lv_iload_n hx hb dX12_copies_11 rfl (lv_at hl 0 rfl) ?_
        refine lv_iadd hx hb dX12_copies_12 ?_
        refine va_iald hx hb hK hP 0 0 rfl rfl (xg_inr (N := 8) rfl (gq_copies4_s0 (y0 := L2d) c_3 h0_d).1 (gq_copies4_s0 (y0 := L2d) c_3 h0_d).2) dX12_copies_13 ?_
        refine va_iast hx hb hK hP hD hS 0 0 rfl rfl (xg_inr (N := 8) rfl (gq_copies4_s1 (y0 := L2d) c_3 h0_d).1 (gq_copies4_s1 (y0 := L2d) c_3 h0_d).2) dX12_copies_14 (fun H locs hP hD hS => ?_)
        obtain ⟨hP, hD⟩ := zre [(eA0 na cNa 8 (upd f_na_d L2d.toNatClampNeg (f_na_d ((4 + L2d).toNatClampNeg))))] hP hD rfl
        refine lv_iinc (v := (L2d + 1)) (lv' := [(2, .int (L2d + 1)), (0, .ref na), (1, .int 4)]) hx hb dX12_copies_15 hl (k := 0) rfl (rfl) (by decide) rfl (fun ls hl => ?_)
        refine lv_goto (tgt := 2) hx hb dX12_copies_18 (by decide) ?_
        exact ih (L2d + 1) (upd f_na_d L2d.toNatClampNeg (f_na_d ((4 + L2d).toNatClampNeg))) (gq_copies4_s2 (y0 := L2d) c_3 h0_d) (by rw [xi_s' c_3]; omega) (hI_d.trans (by rw [fq_copies4_d]; (try rw [if_neg c_3]); try rfl)) H locs ls hP hD hS (lv_sub hl [0, 1, 2] rfl)
  exact hloop_1 4 (0 : Int32) f_na (gq_copies4_s3 ) (by decide) ((by rw [fq_copies4])) _ _ ls hP hD hS (lv_sub hl [0, 1, 2] rfl)

def fq_copies6_d : Nat → (Int32) → (Nat → Int32) → (Nat → Int32)
  | 0, L2d, f_na_d => f_na_d
  | n + 1, L2d, f_na_d => (if 6 ≤ L2d then f_na_d else fq_copies6_d n (L2d + 1) (upd f_na_d L2d.toNatClampNeg (f_na_d ((6 + L2d).toNatClampNeg))))
def fq_copies6 (f_na : Nat → Int32) : (Nat → Int32) := fq_copies6_d 6 (0 : Int32) f_na
theorem gq_copies6_s0 {y0 : Int32} (h0 : ¬ (6 ≤ y0)) (h1 : ¬ (y0 < 0)) : ¬ ((6 + y0) < 0) ∧ ¬ (12 ≤ (6 + y0)) := by lia
theorem gq_copies6_s1 {y0 : Int32} (h0 : ¬ (6 ≤ y0)) (h1 : ¬ (y0 < 0)) : ¬ (y0 < 0) ∧ ¬ (12 ≤ y0) := by lia
theorem gq_copies6_s2 {y0 : Int32} (h0 : ¬ (6 ≤ y0)) (h1 : ¬ (y0 < 0)) : ¬ ((y0 + 1) < 0) := by lia
theorem gq_copies6_s3  : ¬ ((0 : Int32) < 0) := (by decide)
set_option maxHeartbeats 4000000 in
set_option maxRecDepth 100000 in
theorem gq_copies6 (l : Launch) (dC : Nat → ClassId) (dI : Nat → Nat → Nat) (na : Nat) (cNa : ClassId) (f_na : Nat → Int32) (sz : Nat) : Met l yX12_copies (Cond.code yX12_copies cX12_copies 3 none :: wsL_law) ({ frames := 0, cells := 0, slots := 0, locals := 0 }) (va_Pc [.ref na, .int 6] (fun U => U.heap.size = sz ∧ va_P (dC, dI) vwCl [(eA0 na cNa 12 f_na)] U.heap ∧ va_K (dC, dI) vwCl [(cNa, .int)] U ∧ va_D (fun _ => True) [(eA0 na cNa 12 f_na)])) (va_Qv (fun (u : (Nat → Int32)) => u = fq_copies6 f_na) (fun (u : (Nat → Int32)) t => va_P (dC, dI) vwCl [(eA0 na cNa 12 u)] t.heap ∧ va_K (dC, dI) vwCl [] t ∧ va_D (va_A [(eA0 na cNa 12 f_na)] sz) [(eA0 na cNa 12 u)]) (va_A [(eA0 na cNa 12 f_na)] sz)) 0 0 (va_A [(eA0 na cNa 12 f_na)] sz) := by
  refine Met.ofW (cc := cX12_copies) (maxL := 3) (ret := none) (by decide) rfl ?_
  intro p e s m args below meth c s₁ B hml hv
  obtain ⟨rfl, hsz, hP, hK, hD0⟩ := hv
  have hx := B.exec
  have hb := B.bytes
  have hr := B.returns
  have hts := atoms_spec (ws := Cond.code yX12_copies cX12_copies 3 none :: wsL_law) B.pre
  have htw : ∀ w ∈ wsL_law, w.before _ s = true := fun w h => hts w (List.mem_cons_of_mem _ h)
  have hown : s.vm.findClass RX12 = some m.cls := findClass_of_methodNamed B.named
  have hlocks := B.notSynchronized
  subst hsz
  have hD := hD0.self (sz := s.heap.size)
  generalize hAe : va_A [(eA0 na cNa 12 f_na)] s.heap.size = A at hD ⊢
  have hA : ∀ q : Nat, s.heap.size ≤ q → A q := fun q h => by rw [← hAe]; exact Or.inr h
  obtain ⟨H, rH⟩ : ∃ z : Heap, z = s.heap := ⟨_, rfl⟩
  have hS : va_S A s.heap H [] := by rw [rH]; exact va_S.rf
  have hP : va_P (dC, dI) vwCl [(eA0 na cNa 12 f_na)] H := by rw [rH]; exact hP
  rw [← rH]
  have hl := lv_entry ([.ref na, .int 6]) (n := 3) (Nat.le_of_ble_eq_true rfl)
  rw [lg_entry_eq]
  generalize (lg_sl ([.ref na, .int 6]) ++ List.replicate (3 - (lg_sl ([.ref na, .int 6])).length) Slot.unset).toArray = ls at hl ⊢
  have hl : lv_has ls 3 [(0, .ref na), (1, .int 6)] := hl
  refine lv_iconst (v := 0) hx hb dX12_copies_0 (by decide) ?_
  refine lv_istore_n (lv' := [(2, .int 0), (0, .ref na), (1, .int 6)]) hx hb dX12_copies_1 rfl hl (by decide) rfl (fun ls hl => ?_)
  have hloop_1 : ∀ (n : Nat) (L2d : Int32) (f_na_d : Nat → Int32) (h0_d : ¬ L2d < 0) (hf_d : (6 : Int32).toInt ≤ L2d.toInt + (n : Int)) (hI_d : fq_copies6 f_na = fq_copies6_d n L2d f_na_d) (H : Heap) (locs : List Loc) (ls : Array Slot) (hP : va_P (dC, dI) vwCl [(eA0 na cNa 12 f_na_d)] H) (hD : va_D A [(eA0 na cNa 12 f_na_d)]) (hS : va_S A s.heap H locs) (hl : lv_has ls 3 [(2, .int L2d), (0, .ref na), (1, .int 6)]), W p l e (headSpec (Cond.code yX12_copies cX12_copies 3 none :: wsL_law) ({ frames := 0, cells := 0, slots := 0, locals := 0 })).room s m ([.ref na, .int 6] : List Value).toArray below meth c H locs 0 0 (MQ below (va_Qv (fun (u : (Nat → Int32)) => u = fq_copies6 f_na) (fun (u : (Nat → Int32)) t => va_P (dC, dI) vwCl [(eA0 na cNa 12 u)] t.heap ∧ va_K (dC, dI) vwCl [] t ∧ va_D A [(eA0 na cNa 12 u)]) A) ([.ref na, .int 6] : List Value).toArray s 0 0 A) (F0 m 2 ls []) := by
    intro n
    induction n with
    | zero =>
      intro L2d f_na_d h0_d hf_d hI_d H locs ls hP hD hS hl
      refine lv_iload_n hx hb dX12_copies_2 rfl (lv_at hl 0 rfl) ?_
      refine lv_iload_n hx hb dX12_copies_3 rfl (lv_at hl 2 rfl) ?_
      refine lv_icmp_ge (tgt := 21) hx hb dX12_copies_4 (by decide) (fun c_2 => ?_) (fun c_2 => absurd c_2 (fun h => h (xi_z hf_d)))
      refine W.widen (k := 0) (n := 0) (by omega) (by omega) ?_
      obtain ⟨hP9, hD9⟩ := zsub2 (ws' := [(eA0 na cNa 12 f_na_d)]) hP hD [0] (by decide) rfl
      have hK9 := hK.sub (tys' := []) [] rfl
      exact W.vret hx hb hr (fun t ht hW => ⟨⟨f_na_d, rfl, (Eq.symm (hI_d.trans (by rw [fq_copies6_d]; try rfl))), by rw [ht]; exact hP9, va_K.moved hW.alike hK9, hD9⟩, hS.F ht⟩) hS.2.2 dX12_copies_21
    | succ n ih =>
      intro L2d f_na_d h0_d hf_d hI_d H locs ls hP hD hS hl
      refine lv_iload_n hx hb dX12_copies_2 rfl (lv_at hl 0 rfl) ?_
      refine lv_iload_n hx hb dX12_copies_3 rfl (lv_at hl 2 rfl) ?_
      refine lv_icmp_ge (tgt := 21) hx hb dX12_copies_4 (by decide) (fun c_3 => ?_) (fun c_3 => ?_)
      · refine W.widen (k := 0) (n := 0) (by omega) (by omega) ?_
        obtain ⟨hP9, hD9⟩ := zsub2 (ws' := [(eA0 na cNa 12 f_na_d)]) hP hD [0] (by decide) rfl
        have hK9 := hK.sub (tys' := []) [] rfl
        exact W.vret hx hb hr (fun t ht hW => ⟨⟨f_na_d, rfl, (Eq.symm (hI_d.trans (by rw [fq_copies6_d]; (try rw [if_pos c_3]); try rfl))), by rw [ht]; exact hP9, va_K.moved hW.alike hK9, hD9⟩, hS.F ht⟩) hS.2.2 dX12_copies_21
      · refine lv_aload_n hx hb dX12_copies_7 rfl (lv_at hl 1 rfl) ?_
        refine lv_iload_n hx hb dX12_copies_8 rfl (lv_at hl 0 rfl) ?_
        refine lv_aload_n hx hb dX12_copies_9 rfl (lv_at hl 1 rfl) ?_
        refine lv_iload_n hx hb dX12_copies_10 rfl (lv_at hl 2 rfl) ?_
        refine lv_iload_n hx hb dX12_copies_11 rfl (lv_at hl 0 rfl) ?_
        refine lv_iadd hx hb dX12_copies_12 ?_
        refine va_iald hx hb hK hP 0 0 rfl rfl (xg_inr (N := 12) rfl (gq_copies6_s0 (y0 := L2d) c_3 h0_d).1 (gq_copies6_s0 (y0 := L2d) c_3 h0_d).2) dX12_copies_13 ?_
        refine va_iast hx hb hK hP hD hS 0 0 rfl rfl (xg_inr (N := 12) rfl (gq_copies6_s1 (y0 := L2d) c_3 h0_d).1 (gq_copies6_s1 (y0 := L2d) c_3 h0_d).2) dX12_copies_14 (fun H locs hP hD hS => ?_)
        obtain ⟨hP, hD⟩ := zre [(eA0 na cNa 12 (upd f_na_d L2d.toNatClampNeg (f_na_d ((6 + L2d).toNatClampNeg))))] hP hD rfl
        refine lv_iinc (v := (L2d + 1)) (lv' := [(2, .int (L2d + 1)), (0, .ref na), (1, .int 6)]) hx hb dX12_copies_15 hl (k := 0) rfl (rfl) (by decide) rfl (fun ls hl => ?_)
        refine lv_goto (tgt := 2) hx hb dX12_copies_18 (by decide) ?_
        exact ih (L2d + 1) (upd f_na_d L2d.toNatClampNeg (f_na_d ((6 + L2d).toNatClampNeg))) (gq_copies6_s2 (y0 := L2d) c_3 h0_d) (by rw [xi_s' c_3]; omega) (hI_d.trans (by rw [fq_copies6_d]; (try rw [if_neg c_3]); try rfl)) H locs ls hP hD hS (lv_sub hl [0, 1, 2] rfl)
  exact hloop_1 6 (0 : Int32) f_na (gq_copies6_s3 ) (by decide) ((by rw [fq_copies6])) _ _ ls hP hD hS (lv_sub hl [0, 1, 2] rfl)

def fq_copies7_d : Nat → (Int32) → (Nat → Int32) → (Nat → Int32)
  | 0, L2d, f_na_d => f_na_d
  | n + 1, L2d, f_na_d => (if 7 ≤ L2d then f_na_d else fq_copies7_d n (L2d + 1) (upd f_na_d L2d.toNatClampNeg (f_na_d ((7 + L2d).toNatClampNeg))))
def fq_copies7 (f_na : Nat → Int32) : (Nat → Int32) := fq_copies7_d 7 (0 : Int32) f_na
theorem gq_copies7_s0 {y0 : Int32} (h0 : ¬ (7 ≤ y0)) (h1 : ¬ (y0 < 0)) : ¬ ((7 + y0) < 0) ∧ ¬ (14 ≤ (7 + y0)) := by lia
theorem gq_copies7_s1 {y0 : Int32} (h0 : ¬ (7 ≤ y0)) (h1 : ¬ (y0 < 0)) : ¬ (y0 < 0) ∧ ¬ (14 ≤ y0) := by lia
theorem gq_copies7_s2 {y0 : Int32} (h0 : ¬ (7 ≤ y0)) (h1 : ¬ (y0 < 0)) : ¬ ((y0 + 1) < 0) := by lia
theorem gq_copies7_s3  : ¬ ((0 : Int32) < 0) := (by decide)
set_option maxHeartbeats 4000000 in
set_option maxRecDepth 100000 in
theorem gq_copies7 (l : Launch) (dC : Nat → ClassId) (dI : Nat → Nat → Nat) (na : Nat) (cNa : ClassId) (f_na : Nat → Int32) (sz : Nat) : Met l yX12_copies (Cond.code yX12_copies cX12_copies 3 none :: wsL_law) ({ frames := 0, cells := 0, slots := 0, locals := 0 }) (va_Pc [.ref na, .int 7] (fun U => U.heap.size = sz ∧ va_P (dC, dI) vwCl [(eA0 na cNa 14 f_na)] U.heap ∧ va_K (dC, dI) vwCl [(cNa, .int)] U ∧ va_D (fun _ => True) [(eA0 na cNa 14 f_na)])) (va_Qv (fun (u : (Nat → Int32)) => u = fq_copies7 f_na) (fun (u : (Nat → Int32)) t => va_P (dC, dI) vwCl [(eA0 na cNa 14 u)] t.heap ∧ va_K (dC, dI) vwCl [] t ∧ va_D (va_A [(eA0 na cNa 14 f_na)] sz) [(eA0 na cNa 14 u)]) (va_A [(eA0 na cNa 14 f_na)] sz)) 0 0 (va_A [(eA0 na cNa 14 f_na)] sz) := by
  refine Met.ofW (cc := cX12_copies) (maxL := 3) (ret := none) (by decide) rfl ?_
  intro p e s m args below meth c s₁ B hml hv
  obtain ⟨rfl, hsz, hP, hK, hD0⟩ := hv
  have hx := B.exec
  have hb := B.bytes
  have hr := B.returns
  have hts := atoms_spec (ws := Cond.code yX12_copies cX12_copies 3 none :: wsL_law) B.pre
  have htw : ∀ w ∈ wsL_law, w.before _ s = true := fun w h => hts w (List.mem_cons_of_mem _ h)
  have hown : s.vm.findClass RX12 = some m.cls := findClass_of_methodNamed B.named
  have hlocks := B.notSynchronized
  subst hsz
  have hD := hD0.self (sz := s.heap.size)
  generalize hAe : va_A [(eA0 na cNa 14 f_na)] s.heap.size = A at hD ⊢
  have hA : ∀ q : Nat, s.heap.size ≤ q → A q := fun q h => by rw [← hAe]; exact Or.inr h
  obtain ⟨H, rH⟩ : ∃ z : Heap, z = s.heap := ⟨_, rfl⟩
  have hS : va_S A s.heap H [] := by rw [rH]; exact va_S.rf
  have hP : va_P (dC, dI) vwCl [(eA0 na cNa 14 f_na)] H := by rw [rH]; exact hP
  rw [← rH]
  have hl := lv_entry ([.ref na, .int 7]) (n := 3) (Nat.le_of_ble_eq_true rfl)
  rw [lg_entry_eq]
  generalize (lg_sl ([.ref na, .int 7]) ++ List.replicate (3 - (lg_sl ([.ref na, .int 7])).length) Slot.unset).toArray = ls at hl ⊢
  have hl : lv_has ls 3 [(0, .ref na), (1, .int 7)] := hl
  refine lv_iconst (v := 0) hx hb dX12_copies_0 (by decide) ?_
  refine lv_istore_n (lv' := [(2, .int 0), (0, .ref na), (1, .int 7)]) hx hb dX12_copies_1 rfl hl (by decide) rfl (fun ls hl => ?_)
  have hloop_1 : ∀ (n : Nat) (L2d : Int32) (f_na_d : Nat → Int32) (h0_d : ¬ L2d < 0) (hf_d : (7 : Int32).toInt ≤ L2d.toInt + (n : Int)) (hI_d : fq_copies7 f_na = fq_copies7_d n L2d f_na_d) (H : Heap) (locs : List Loc) (ls : Array Slot) (hP : va_P (dC, dI) vwCl [(eA0 na cNa 14 f_na_d)] H) (hD : va_D A [(eA0 na cNa 14 f_na_d)]) (hS : va_S A s.heap H locs) (hl : lv_has ls 3 [(2, .int L2d), (0, .ref na), (1, .int 7)]), W p l e (headSpec (Cond.code yX12_copies cX12_copies 3 none :: wsL_law) ({ frames := 0, cells := 0, slots := 0, locals := 0 })).room s m ([.ref na, .int 7] : List Value).toArray below meth c H locs 0 0 (MQ below (va_Qv (fun (u : (Nat → Int32)) => u = fq_copies7 f_na) (fun (u : (Nat → Int32)) t => va_P (dC, dI) vwCl [(eA0 na cNa 14 u)] t.heap ∧ va_K (dC, dI) vwCl [] t ∧ va_D A [(eA0 na cNa 14 u)]) A) ([.ref na, .int 7] : List Value).toArray s 0 0 A) (F0 m 2 ls []) := by
    intro n
    induction n with
    | zero =>
      intro L2d f_na_d h0_d hf_d hI_d H locs ls hP hD hS hl
      refine lv_iload_n hx hb dX12_copies_2 rfl (lv_at hl 0 rfl) ?_
      refine lv_iload_n hx hb dX12_copies_3 rfl (lv_at hl 2 rfl) ?_
      refine lv_icmp_ge (tgt := 21) hx hb dX12_copies_4 (by decide) (fun c_2 => ?_) (fun c_2 => absurd c_2 (fun h => h (xi_z hf_d)))
      refine W.widen (k := 0) (n := 0) (by omega) (by omega) ?_
      obtain ⟨hP9, hD9⟩ := zsub2 (ws' := [(eA0 na cNa 14 f_na_d)]) hP hD [0] (by decide) rfl
      have hK9 := hK.sub (tys' := []) [] rfl
      exact W.vret hx hb hr (fun t ht hW => ⟨⟨f_na_d, rfl, (Eq.symm (hI_d.trans (by rw [fq_copies7_d]; try rfl))), by rw [ht]; exact hP9, va_K.moved hW.alike hK9, hD9⟩, hS.F ht⟩) hS.2.2 dX12_copies_21
    | succ n ih =>
      intro L2d f_na_d h0_d hf_d hI_d H locs ls hP hD hS hl
      refine lv_iload_n hx hb dX12_copies_2 rfl (lv_at hl 0 rfl) ?_
      refine lv_iload_n hx hb dX12_copies_3 rfl (lv_at hl 2 rfl) ?_
      refine lv_icmp_ge (tgt := 21) hx hb dX12_copies_4 (by decide) (fun c_3 => ?_) (fun c_3 => ?_)
      · refine W.widen (k := 0) (n := 0) (by omega) (by omega) ?_
        obtain ⟨hP9, hD9⟩ := zsub2 (ws' := [(eA0 na cNa 14 f_na_d)]) hP hD [0] (by decide) rfl
        have hK9 := hK.sub (tys' := []) [] rfl
        exact W.vret hx hb hr (fun t ht hW => ⟨⟨f_na_d, rfl, (Eq.symm (hI_d.trans (by rw [fq_copies7_d]; (try rw [if_pos c_3]); try rfl))), by rw [ht]; exact hP9, va_K.moved hW.alike hK9, hD9⟩, hS.F ht⟩) hS.2.2 dX12_copies_21
      · refine lv_aload_n hx hb dX12_copies_7 rfl (lv_at hl 1 rfl) ?_
        refine lv_iload_n hx hb dX12_copies_8 rfl (lv_at hl 0 rfl) ?_
        refine lv_aload_n hx hb dX12_copies_9 rfl (lv_at hl 1 rfl) ?_
        refine lv_iload_n hx hb dX12_copies_10 rfl (lv_at hl 2 rfl) ?_
        refine lv_iload_n hx hb dX12_copies_11 rfl (lv_at hl 0 rfl) ?_
        refine lv_iadd hx hb dX12_copies_12 ?_
        refine va_iald hx hb hK hP 0 0 rfl rfl (xg_inr (N := 14) rfl (gq_copies7_s0 (y0 := L2d) c_3 h0_d).1 (gq_copies7_s0 (y0 := L2d) c_3 h0_d).2) dX12_copies_13 ?_
        refine va_iast hx hb hK hP hD hS 0 0 rfl rfl (xg_inr (N := 14) rfl (gq_copies7_s1 (y0 := L2d) c_3 h0_d).1 (gq_copies7_s1 (y0 := L2d) c_3 h0_d).2) dX12_copies_14 (fun H locs hP hD hS => ?_)
        obtain ⟨hP, hD⟩ := zre [(eA0 na cNa 14 (upd f_na_d L2d.toNatClampNeg (f_na_d ((7 + L2d).toNatClampNeg))))] hP hD rfl
        refine lv_iinc (v := (L2d + 1)) (lv' := [(2, .int (L2d + 1)), (0, .ref na), (1, .int 7)]) hx hb dX12_copies_15 hl (k := 0) rfl (rfl) (by decide) rfl (fun ls hl => ?_)
        refine lv_goto (tgt := 2) hx hb dX12_copies_18 (by decide) ?_
        exact ih (L2d + 1) (upd f_na_d L2d.toNatClampNeg (f_na_d ((7 + L2d).toNatClampNeg))) (gq_copies7_s2 (y0 := L2d) c_3 h0_d) (by rw [xi_s' c_3]; omega) (hI_d.trans (by rw [fq_copies7_d]; (try rw [if_neg c_3]); try rfl)) H locs ls hP hD hS (lv_sub hl [0, 1, 2] rfl)
  exact hloop_1 7 (0 : Int32) f_na (gq_copies7_s3 ) (by decide) ((by rw [fq_copies7])) _ _ ls hP hD hS (lv_sub hl [0, 1, 2] rfl)

def fq_copies12_d : Nat → (Int32) → (Nat → Int32) → (Nat → Int32)
  | 0, L2d, f_na_d => f_na_d
  | n + 1, L2d, f_na_d => (if 12 ≤ L2d then f_na_d else fq_copies12_d n (L2d + 1) (upd f_na_d L2d.toNatClampNeg (f_na_d ((12 + L2d).toNatClampNeg))))
def fq_copies12 (f_na : Nat → Int32) : (Nat → Int32) := fq_copies12_d 12 (0 : Int32) f_na
theorem gq_copies12_s0 {y0 : Int32} (h0 : ¬ (12 ≤ y0)) (h1 : ¬ (y0 < 0)) : ¬ ((12 + y0) < 0) ∧ ¬ (24 ≤ (12 + y0)) := by lia
theorem gq_copies12_s1 {y0 : Int32} (h0 : ¬ (12 ≤ y0)) (h1 : ¬ (y0 < 0)) : ¬ (y0 < 0) ∧ ¬ (24 ≤ y0) := by lia
theorem gq_copies12_s2 {y0 : Int32} (h0 : ¬ (12 ≤ y0)) (h1 : ¬ (y0 < 0)) : ¬ ((y0 + 1) < 0) := by lia
theorem gq_copies12_s3  : ¬ ((0 : Int32) < 0) := (by decide)
set_option maxHeartbeats 4000000 in
set_option maxRecDepth 100000 in
theorem gq_copies12 (l : Launch) (dC : Nat → ClassId) (dI : Nat → Nat → Nat) (na : Nat) (cNa : ClassId) (f_na : Nat → Int32) (sz : Nat) : Met l yX12_copies (Cond.code yX12_copies cX12_copies 3 none :: wsL_law) ({ frames := 0, cells := 0, slots := 0, locals := 0 }) (va_Pc [.ref na, .int 12] (fun U => U.heap.size = sz ∧ va_P (dC, dI) vwCl [(eA0 na cNa 24 f_na)] U.heap ∧ va_K (dC, dI) vwCl [(cNa, .int)] U ∧ va_D (fun _ => True) [(eA0 na cNa 24 f_na)])) (va_Qv (fun (u : (Nat → Int32)) => u = fq_copies12 f_na) (fun (u : (Nat → Int32)) t => va_P (dC, dI) vwCl [(eA0 na cNa 24 u)] t.heap ∧ va_K (dC, dI) vwCl [] t ∧ va_D (va_A [(eA0 na cNa 24 f_na)] sz) [(eA0 na cNa 24 u)]) (va_A [(eA0 na cNa 24 f_na)] sz)) 0 0 (va_A [(eA0 na cNa 24 f_na)] sz) := by
  refine Met.ofW (cc := cX12_copies) (maxL := 3) (ret := none) (by decide) rfl ?_
  intro p e s m args below meth c s₁ B hml hv
  obtain ⟨rfl, hsz, hP, hK, hD0⟩ := hv
  have hx := B.exec
  have hb := B.bytes
  have hr := B.returns
  have hts := atoms_spec (ws := Cond.code yX12_copies cX12_copies 3 none :: wsL_law) B.pre
  have htw : ∀ w ∈ wsL_law, w.before _ s = true := fun w h => hts w (List.mem_cons_of_mem _ h)
  have hown : s.vm.findClass RX12 = some m.cls := findClass_of_methodNamed B.named
  have hlocks := B.notSynchronized
  subst hsz
  have hD := hD0.self (sz := s.heap.size)
  generalize hAe : va_A [(eA0 na cNa 24 f_na)] s.heap.size = A at hD ⊢
  have hA : ∀ q : Nat, s.heap.size ≤ q → A q := fun q h => by rw [← hAe]; exact Or.inr h
  obtain ⟨H, rH⟩ : ∃ z : Heap, z = s.heap := ⟨_, rfl⟩
  have hS : va_S A s.heap H [] := by rw [rH]; exact va_S.rf
  have hP : va_P (dC, dI) vwCl [(eA0 na cNa 24 f_na)] H := by rw [rH]; exact hP
  rw [← rH]
  have hl := lv_entry ([.ref na, .int 12]) (n := 3) (Nat.le_of_ble_eq_true rfl)
  rw [lg_entry_eq]
  generalize (lg_sl ([.ref na, .int 12]) ++ List.replicate (3 - (lg_sl ([.ref na, .int 12])).length) Slot.unset).toArray = ls at hl ⊢
  have hl : lv_has ls 3 [(0, .ref na), (1, .int 12)] := hl
  refine lv_iconst (v := 0) hx hb dX12_copies_0 (by decide) ?_
  refine lv_istore_n (lv' := [(2, .int 0), (0, .ref na), (1, .int 12)]) hx hb dX12_copies_1 rfl hl (by decide) rfl (fun ls hl => ?_)
  have hloop_1 : ∀ (n : Nat) (L2d : Int32) (f_na_d : Nat → Int32) (h0_d : ¬ L2d < 0) (hf_d : (12 : Int32).toInt ≤ L2d.toInt + (n : Int)) (hI_d : fq_copies12 f_na = fq_copies12_d n L2d f_na_d) (H : Heap) (locs : List Loc) (ls : Array Slot) (hP : va_P (dC, dI) vwCl [(eA0 na cNa 24 f_na_d)] H) (hD : va_D A [(eA0 na cNa 24 f_na_d)]) (hS : va_S A s.heap H locs) (hl : lv_has ls 3 [(2, .int L2d), (0, .ref na), (1, .int 12)]), W p l e (headSpec (Cond.code yX12_copies cX12_copies 3 none :: wsL_law) ({ frames := 0, cells := 0, slots := 0, locals := 0 })).room s m ([.ref na, .int 12] : List Value).toArray below meth c H locs 0 0 (MQ below (va_Qv (fun (u : (Nat → Int32)) => u = fq_copies12 f_na) (fun (u : (Nat → Int32)) t => va_P (dC, dI) vwCl [(eA0 na cNa 24 u)] t.heap ∧ va_K (dC, dI) vwCl [] t ∧ va_D A [(eA0 na cNa 24 u)]) A) ([.ref na, .int 12] : List Value).toArray s 0 0 A) (F0 m 2 ls []) := by
    intro n
    induction n with
    | zero =>
      intro L2d f_na_d h0_d hf_d hI_d H locs ls hP hD hS hl
      refine lv_iload_n hx hb dX12_copies_2 rfl (lv_at hl 0 rfl) ?_
      refine lv_iload_n hx hb dX12_copies_3 rfl (lv_at hl 2 rfl) ?_
      refine lv_icmp_ge (tgt := 21) hx hb dX12_copies_4 (by decide) (fun c_2 => ?_) (fun c_2 => absurd c_2 (fun h => h (xi_z hf_d)))
      refine W.widen (k := 0) (n := 0) (by omega) (by omega) ?_
      obtain ⟨hP9, hD9⟩ := zsub2 (ws' := [(eA0 na cNa 24 f_na_d)]) hP hD [0] (by decide) rfl
      have hK9 := hK.sub (tys' := []) [] rfl
      exact W.vret hx hb hr (fun t ht hW => ⟨⟨f_na_d, rfl, (Eq.symm (hI_d.trans (by rw [fq_copies12_d]; try rfl))), by rw [ht]; exact hP9, va_K.moved hW.alike hK9, hD9⟩, hS.F ht⟩) hS.2.2 dX12_copies_21
    | succ n ih =>
      intro L2d f_na_d h0_d hf_d hI_d H locs ls hP hD hS hl
      refine lv_iload_n hx hb dX12_copies_2 rfl (lv_at hl 0 rfl) ?_
      refine lv_iload_n hx hb dX12_copies_3 rfl (lv_at hl 2 rfl) ?_
      refine lv_icmp_ge (tgt := 21) hx hb dX12_copies_4 (by decide) (fun c_3 => ?_) (fun c_3 => ?_)
      · refine W.widen (k := 0) (n := 0) (by omega) (by omega) ?_
        obtain ⟨hP9, hD9⟩ := zsub2 (ws' := [(eA0 na cNa 24 f_na_d)]) hP hD [0] (by decide) rfl
        have hK9 := hK.sub (tys' := []) [] rfl
        exact W.vret hx hb hr (fun t ht hW => ⟨⟨f_na_d, rfl, (Eq.symm (hI_d.trans (by rw [fq_copies12_d]; (try rw [if_pos c_3]); try rfl))), by rw [ht]; exact hP9, va_K.moved hW.alike hK9, hD9⟩, hS.F ht⟩) hS.2.2 dX12_copies_21
      · refine lv_aload_n hx hb dX12_copies_7 rfl (lv_at hl 1 rfl) ?_
        refine lv_iload_n hx hb dX12_copies_8 rfl (lv_at hl 0 rfl) ?_
        refine lv_aload_n hx hb dX12_copies_9 rfl (lv_at hl 1 rfl) ?_
        refine lv_iload_n hx hb dX12_copies_10 rfl (lv_at hl 2 rfl) ?_
        refine lv_iload_n hx hb dX12_copies_11 rfl (lv_at hl 0 rfl) ?_
        refine lv_iadd hx hb dX12_copies_12 ?_
        refine va_iald hx hb hK hP 0 0 rfl rfl (xg_inr (N := 24) rfl (gq_copies12_s0 (y0 := L2d) c_3 h0_d).1 (gq_copies12_s0 (y0 := L2d) c_3 h0_d).2) dX12_copies_13 ?_
        refine va_iast hx hb hK hP hD hS 0 0 rfl rfl (xg_inr (N := 24) rfl (gq_copies12_s1 (y0 := L2d) c_3 h0_d).1 (gq_copies12_s1 (y0 := L2d) c_3 h0_d).2) dX12_copies_14 (fun H locs hP hD hS => ?_)
        obtain ⟨hP, hD⟩ := zre [(eA0 na cNa 24 (upd f_na_d L2d.toNatClampNeg (f_na_d ((12 + L2d).toNatClampNeg))))] hP hD rfl
        refine lv_iinc (v := (L2d + 1)) (lv' := [(2, .int (L2d + 1)), (0, .ref na), (1, .int 12)]) hx hb dX12_copies_15 hl (k := 0) rfl (rfl) (by decide) rfl (fun ls hl => ?_)
        refine lv_goto (tgt := 2) hx hb dX12_copies_18 (by decide) ?_
        exact ih (L2d + 1) (upd f_na_d L2d.toNatClampNeg (f_na_d ((12 + L2d).toNatClampNeg))) (gq_copies12_s2 (y0 := L2d) c_3 h0_d) (by rw [xi_s' c_3]; omega) (hI_d.trans (by rw [fq_copies12_d]; (try rw [if_neg c_3]); try rfl)) H locs ls hP hD hS (lv_sub hl [0, 1, 2] rfl)
  exact hloop_1 12 (0 : Int32) f_na (gq_copies12_s3 ) (by decide) ((by rw [fq_copies12])) _ _ ls hP hD hS (lv_sub hl [0, 1, 2] rfl)

def fq_copies64_d : Nat → (Int32) → (Nat → Int32) → (Nat → Int32)
  | 0, L2d, f_na_d => f_na_d
  | n + 1, L2d, f_na_d => (if 64 ≤ L2d then f_na_d else fq_copies64_d n (L2d + 1) (upd f_na_d L2d.toNatClampNeg (f_na_d ((64 + L2d).toNatClampNeg))))
def fq_copies64 (f_na : Nat → Int32) : (Nat → Int32) := fq_copies64_d 64 (0 : Int32) f_na
theorem gq_copies64_s0 {y0 : Int32} (h0 : ¬ (64 ≤ y0)) (h1 : ¬ (y0 < 0)) : ¬ ((64 + y0) < 0) ∧ ¬ (128 ≤ (64 + y0)) := by lia
theorem gq_copies64_s1 {y0 : Int32} (h0 : ¬ (64 ≤ y0)) (h1 : ¬ (y0 < 0)) : ¬ (y0 < 0) ∧ ¬ (128 ≤ y0) := by lia
theorem gq_copies64_s2 {y0 : Int32} (h0 : ¬ (64 ≤ y0)) (h1 : ¬ (y0 < 0)) : ¬ ((y0 + 1) < 0) := by lia
theorem gq_copies64_s3  : ¬ ((0 : Int32) < 0) := (by decide)
set_option maxHeartbeats 4000000 in
set_option maxRecDepth 100000 in
theorem gq_copies64 (l : Launch) (dC : Nat → ClassId) (dI : Nat → Nat → Nat) (na : Nat) (cNa : ClassId) (f_na : Nat → Int32) (sz : Nat) : Met l yX12_copies (Cond.code yX12_copies cX12_copies 3 none :: wsL_law) ({ frames := 0, cells := 0, slots := 0, locals := 0 }) (va_Pc [.ref na, .int 64] (fun U => U.heap.size = sz ∧ va_P (dC, dI) vwCl [(eA0 na cNa 128 f_na)] U.heap ∧ va_K (dC, dI) vwCl [(cNa, .int)] U ∧ va_D (fun _ => True) [(eA0 na cNa 128 f_na)])) (va_Qv (fun (u : (Nat → Int32)) => u = fq_copies64 f_na) (fun (u : (Nat → Int32)) t => va_P (dC, dI) vwCl [(eA0 na cNa 128 u)] t.heap ∧ va_K (dC, dI) vwCl [] t ∧ va_D (va_A [(eA0 na cNa 128 f_na)] sz) [(eA0 na cNa 128 u)]) (va_A [(eA0 na cNa 128 f_na)] sz)) 0 0 (va_A [(eA0 na cNa 128 f_na)] sz) := by
  refine Met.ofW (cc := cX12_copies) (maxL := 3) (ret := none) (by decide) rfl ?_
  intro p e s m args below meth c s₁ B hml hv
  obtain ⟨rfl, hsz, hP, hK, hD0⟩ := hv
  have hx := B.exec
  have hb := B.bytes
  have hr := B.returns
  have hts := atoms_spec (ws := Cond.code yX12_copies cX12_copies 3 none :: wsL_law) B.pre
  have htw : ∀ w ∈ wsL_law, w.before _ s = true := fun w h => hts w (List.mem_cons_of_mem _ h)
  have hown : s.vm.findClass RX12 = some m.cls := findClass_of_methodNamed B.named
  have hlocks := B.notSynchronized
  subst hsz
  have hD := hD0.self (sz := s.heap.size)
  generalize hAe : va_A [(eA0 na cNa 128 f_na)] s.heap.size = A at hD ⊢
  have hA : ∀ q : Nat, s.heap.size ≤ q → A q := fun q h => by rw [← hAe]; exact Or.inr h
  obtain ⟨H, rH⟩ : ∃ z : Heap, z = s.heap := ⟨_, rfl⟩
  have hS : va_S A s.heap H [] := by rw [rH]; exact va_S.rf
  have hP : va_P (dC, dI) vwCl [(eA0 na cNa 128 f_na)] H := by rw [rH]; exact hP
  rw [← rH]
  have hl := lv_entry ([.ref na, .int 64]) (n := 3) (Nat.le_of_ble_eq_true rfl)
  rw [lg_entry_eq]
  generalize (lg_sl ([.ref na, .int 64]) ++ List.replicate (3 - (lg_sl ([.ref na, .int 64])).length) Slot.unset).toArray = ls at hl ⊢
  have hl : lv_has ls 3 [(0, .ref na), (1, .int 64)] := hl
  refine lv_iconst (v := 0) hx hb dX12_copies_0 (by decide) ?_
  refine lv_istore_n (lv' := [(2, .int 0), (0, .ref na), (1, .int 64)]) hx hb dX12_copies_1 rfl hl (by decide) rfl (fun ls hl => ?_)
  have hloop_1 : ∀ (n : Nat) (L2d : Int32) (f_na_d : Nat → Int32) (h0_d : ¬ L2d < 0) (hf_d : (64 : Int32).toInt ≤ L2d.toInt + (n : Int)) (hI_d : fq_copies64 f_na = fq_copies64_d n L2d f_na_d) (H : Heap) (locs : List Loc) (ls : Array Slot) (hP : va_P (dC, dI) vwCl [(eA0 na cNa 128 f_na_d)] H) (hD : va_D A [(eA0 na cNa 128 f_na_d)]) (hS : va_S A s.heap H locs) (hl : lv_has ls 3 [(2, .int L2d), (0, .ref na), (1, .int 64)]), W p l e (headSpec (Cond.code yX12_copies cX12_copies 3 none :: wsL_law) ({ frames := 0, cells := 0, slots := 0, locals := 0 })).room s m ([.ref na, .int 64] : List Value).toArray below meth c H locs 0 0 (MQ below (va_Qv (fun (u : (Nat → Int32)) => u = fq_copies64 f_na) (fun (u : (Nat → Int32)) t => va_P (dC, dI) vwCl [(eA0 na cNa 128 u)] t.heap ∧ va_K (dC, dI) vwCl [] t ∧ va_D A [(eA0 na cNa 128 u)]) A) ([.ref na, .int 64] : List Value).toArray s 0 0 A) (F0 m 2 ls []) := by
    intro n
    induction n with
    | zero =>
      intro L2d f_na_d h0_d hf_d hI_d H locs ls hP hD hS hl
      refine lv_iload_n hx hb dX12_copies_2 rfl (lv_at hl 0 rfl) ?_
      refine lv_iload_n hx hb dX12_copies_3 rfl (lv_at hl 2 rfl) ?_
      refine lv_icmp_ge (tgt := 21) hx hb dX12_copies_4 (by decide) (fun c_2 => ?_) (fun c_2 => absurd c_2 (fun h => h (xi_z hf_d)))
      refine W.widen (k := 0) (n := 0) (by omega) (by omega) ?_
      obtain ⟨hP9, hD9⟩ := zsub2 (ws' := [(eA0 na cNa 128 f_na_d)]) hP hD [0] (by decide) rfl
      have hK9 := hK.sub (tys' := []) [] rfl
      exact W.vret hx hb hr (fun t ht hW => ⟨⟨f_na_d, rfl, (Eq.symm (hI_d.trans (by rw [fq_copies64_d]; try rfl))), by rw [ht]; exact hP9, va_K.moved hW.alike hK9, hD9⟩, hS.F ht⟩) hS.2.2 dX12_copies_21
    | succ n ih =>
      intro L2d f_na_d h0_d hf_d hI_d H locs ls hP hD hS hl
      refine lv_iload_n hx hb dX12_copies_2 rfl (lv_at hl 0 rfl) ?_
      refine lv_iload_n hx hb dX12_copies_3 rfl (lv_at hl 2 rfl) ?_
      refine lv_icmp_ge (tgt := 21) hx hb dX12_copies_4 (by decide) (fun c_3 => ?_) (fun c_3 => ?_)
      · refine W.widen (k := 0) (n := 0) (by omega) (by omega) ?_
        obtain ⟨hP9, hD9⟩ := zsub2 (ws' := [(eA0 na cNa 128 f_na_d)]) hP hD [0] (by decide) rfl
        have hK9 := hK.sub (tys' := []) [] rfl
        exact W.vret hx hb hr (fun t ht hW => ⟨⟨f_na_d, rfl, (Eq.symm (hI_d.trans (by rw [fq_copies64_d]; (try rw [if_pos c_3]); try rfl))), by rw [ht]; exact hP9, va_K.moved hW.alike hK9, hD9⟩, hS.F ht⟩) hS.2.2 dX12_copies_21
      · refine lv_aload_n hx hb dX12_copies_7 rfl (lv_at hl 1 rfl) ?_
        refine lv_iload_n hx hb dX12_copies_8 rfl (lv_at hl 0 rfl) ?_
        refine lv_aload_n hx hb dX12_copies_9 rfl (lv_at hl 1 rfl) ?_
        refine lv_iload_n hx hb dX12_copies_10 rfl (lv_at hl 2 rfl) ?_
        refine lv_iload_n hx hb dX12_copies_11 rfl (lv_at hl 0 rfl) ?_
        refine lv_iadd hx hb dX12_copies_12 ?_
        refine va_iald hx hb hK hP 0 0 rfl rfl (xg_inr (N := 128) rfl (gq_copies64_s0 (y0 := L2d) c_3 h0_d).1 (gq_copies64_s0 (y0 := L2d) c_3 h0_d).2) dX12_copies_13 ?_
        refine va_iast hx hb hK hP hD hS 0 0 rfl rfl (xg_inr (N := 128) rfl (gq_copies64_s1 (y0 := L2d) c_3 h0_d).1 (gq_copies64_s1 (y0 := L2d) c_3 h0_d).2) dX12_copies_14 (fun H locs hP hD hS => ?_)
        obtain ⟨hP, hD⟩ := zre [(eA0 na cNa 128 (upd f_na_d L2d.toNatClampNeg (f_na_d ((64 + L2d).toNatClampNeg))))] hP hD rfl
        refine lv_iinc (v := (L2d + 1)) (lv' := [(2, .int (L2d + 1)), (0, .ref na), (1, .int 64)]) hx hb dX12_copies_15 hl (k := 0) rfl (rfl) (by decide) rfl (fun ls hl => ?_)
        refine lv_goto (tgt := 2) hx hb dX12_copies_18 (by decide) ?_
        exact ih (L2d + 1) (upd f_na_d L2d.toNatClampNeg (f_na_d ((64 + L2d).toNatClampNeg))) (gq_copies64_s2 (y0 := L2d) c_3 h0_d) (by rw [xi_s' c_3]; omega) (hI_d.trans (by rw [fq_copies64_d]; (try rw [if_neg c_3]); try rfl)) H locs ls hP hD hS (lv_sub hl [0, 1, 2] rfl)
  exact hloop_1 64 (0 : Int32) f_na (gq_copies64_s3 ) (by decide) ((by rw [fq_copies64])) _ _ ls hP hD hS (lv_sub hl [0, 1, 2] rfl)

def fq_copies132_d : Nat → (Int32) → (Nat → Int32) → (Nat → Int32)
  | 0, L2d, f_na_d => f_na_d
  | n + 1, L2d, f_na_d => (if 132 ≤ L2d then f_na_d else fq_copies132_d n (L2d + 1) (upd f_na_d L2d.toNatClampNeg (f_na_d ((132 + L2d).toNatClampNeg))))
def fq_copies132 (f_na : Nat → Int32) : (Nat → Int32) := fq_copies132_d 132 (0 : Int32) f_na
theorem gq_copies132_s0 {y0 : Int32} (h0 : ¬ (132 ≤ y0)) (h1 : ¬ (y0 < 0)) : ¬ ((132 + y0) < 0) ∧ ¬ (264 ≤ (132 + y0)) := by lia
theorem gq_copies132_s1 {y0 : Int32} (h0 : ¬ (132 ≤ y0)) (h1 : ¬ (y0 < 0)) : ¬ (y0 < 0) ∧ ¬ (264 ≤ y0) := by lia
theorem gq_copies132_s2 {y0 : Int32} (h0 : ¬ (132 ≤ y0)) (h1 : ¬ (y0 < 0)) : ¬ ((y0 + 1) < 0) := by lia
theorem gq_copies132_s3  : ¬ ((0 : Int32) < 0) := (by decide)
set_option maxHeartbeats 4000000 in
set_option maxRecDepth 100000 in
theorem gq_copies132 (l : Launch) (dC : Nat → ClassId) (dI : Nat → Nat → Nat) (na : Nat) (cNa : ClassId) (f_na : Nat → Int32) (sz : Nat) : Met l yX12_copies (Cond.code yX12_copies cX12_copies 3 none :: wsL_law) ({ frames := 0, cells := 0, slots := 0, locals := 0 }) (va_Pc [.ref na, .int 132] (fun U => U.heap.size = sz ∧ va_P (dC, dI) vwCl [(eA0 na cNa 264 f_na)] U.heap ∧ va_K (dC, dI) vwCl [(cNa, .int)] U ∧ va_D (fun _ => True) [(eA0 na cNa 264 f_na)])) (va_Qv (fun (u : (Nat → Int32)) => u = fq_copies132 f_na) (fun (u : (Nat → Int32)) t => va_P (dC, dI) vwCl [(eA0 na cNa 264 u)] t.heap ∧ va_K (dC, dI) vwCl [] t ∧ va_D (va_A [(eA0 na cNa 264 f_na)] sz) [(eA0 na cNa 264 u)]) (va_A [(eA0 na cNa 264 f_na)] sz)) 0 0 (va_A [(eA0 na cNa 264 f_na)] sz) := by
  refine Met.ofW (cc := cX12_copies) (maxL := 3) (ret := none) (by decide) rfl ?_
  intro p e s m args below meth c s₁ B hml hv
  obtain ⟨rfl, hsz, hP, hK, hD0⟩ := hv
  have hx := B.exec
  have hb := B.bytes
  have hr := B.returns
  have hts := atoms_spec (ws := Cond.code yX12_copies cX12_copies 3 none :: wsL_law) B.pre
  have htw : ∀ w ∈ wsL_law, w.before _ s = true := fun w h => hts w (List.mem_cons_of_mem _ h)
  have hown : s.vm.findClass RX12 = some m.cls := findClass_of_methodNamed B.named
  have hlocks := B.notSynchronized
  subst hsz
  have hD := hD0.self (sz := s.heap.size)
  generalize hAe : va_A [(eA0 na cNa 264 f_na)] s.heap.size = A at hD ⊢
  have hA : ∀ q : Nat, s.heap.size ≤ q → A q := fun q h => by rw [← hAe]; exact Or.inr h
  obtain ⟨H, rH⟩ : ∃ z : Heap, z = s.heap := ⟨_, rfl⟩
  have hS : va_S A s.heap H [] := by rw [rH]; exact va_S.rf
  have hP : va_P (dC, dI) vwCl [(eA0 na cNa 264 f_na)] H := by rw [rH]; exact hP
  rw [← rH]
  have hl := lv_entry ([.ref na, .int 132]) (n := 3) (Nat.le_of_ble_eq_true rfl)
  rw [lg_entry_eq]
  generalize (lg_sl ([.ref na, .int 132]) ++ List.replicate (3 - (lg_sl ([.ref na, .int 132])).length) Slot.unset).toArray = ls at hl ⊢
  have hl : lv_has ls 3 [(0, .ref na), (1, .int 132)] := hl
  refine lv_iconst (v := 0) hx hb dX12_copies_0 (by decide) ?_
  refine lv_istore_n (lv' := [(2, .int 0), (0, .ref na), (1, .int 132)]) hx hb dX12_copies_1 rfl hl (by decide) rfl (fun ls hl => ?_)
  have hloop_1 : ∀ (n : Nat) (L2d : Int32) (f_na_d : Nat → Int32) (h0_d : ¬ L2d < 0) (hf_d : (132 : Int32).toInt ≤ L2d.toInt + (n : Int)) (hI_d : fq_copies132 f_na = fq_copies132_d n L2d f_na_d) (H : Heap) (locs : List Loc) (ls : Array Slot) (hP : va_P (dC, dI) vwCl [(eA0 na cNa 264 f_na_d)] H) (hD : va_D A [(eA0 na cNa 264 f_na_d)]) (hS : va_S A s.heap H locs) (hl : lv_has ls 3 [(2, .int L2d), (0, .ref na), (1, .int 132)]), W p l e (headSpec (Cond.code yX12_copies cX12_copies 3 none :: wsL_law) ({ frames := 0, cells := 0, slots := 0, locals := 0 })).room s m ([.ref na, .int 132] : List Value).toArray below meth c H locs 0 0 (MQ below (va_Qv (fun (u : (Nat → Int32)) => u = fq_copies132 f_na) (fun (u : (Nat → Int32)) t => va_P (dC, dI) vwCl [(eA0 na cNa 264 u)] t.heap ∧ va_K (dC, dI) vwCl [] t ∧ va_D A [(eA0 na cNa 264 u)]) A) ([.ref na, .int 132] : List Value).toArray s 0 0 A) (F0 m 2 ls []) := by
    intro n
    induction n with
    | zero =>
      intro L2d f_na_d h0_d hf_d hI_d H locs ls hP hD hS hl
      refine lv_iload_n hx hb dX12_copies_2 rfl (lv_at hl 0 rfl) ?_
      refine lv_iload_n hx hb dX12_copies_3 rfl (lv_at hl 2 rfl) ?_
      refine lv_icmp_ge (tgt := 21) hx hb dX12_copies_4 (by decide) (fun c_2 => ?_) (fun c_2 => absurd c_2 (fun h => h (xi_z hf_d)))
      refine W.widen (k := 0) (n := 0) (by omega) (by omega) ?_
      obtain ⟨hP9, hD9⟩ := zsub2 (ws' := [(eA0 na cNa 264 f_na_d)]) hP hD [0] (by decide) rfl
      have hK9 := hK.sub (tys' := []) [] rfl
      exact W.vret hx hb hr (fun t ht hW => ⟨⟨f_na_d, rfl, (Eq.symm (hI_d.trans (by rw [fq_copies132_d]; try rfl))), by rw [ht]; exact hP9, va_K.moved hW.alike hK9, hD9⟩, hS.F ht⟩) hS.2.2 dX12_copies_21
    | succ n ih =>
      intro L2d f_na_d h0_d hf_d hI_d H locs ls hP hD hS hl
      refine lv_iload_n hx hb dX12_copies_2 rfl (lv_at hl 0 rfl) ?_
      refine lv_iload_n hx hb dX12_copies_3 rfl (lv_at hl 2 rfl) ?_
      refine lv_icmp_ge (tgt := 21) hx hb dX12_copies_4 (by decide) (fun c_3 => ?_) (fun c_3 => ?_)
      · refine W.widen (k := 0) (n := 0) (by omega) (by omega) ?_
        obtain ⟨hP9, hD9⟩ := zsub2 (ws' := [(eA0 na cNa 264 f_na_d)]) hP hD [0] (by decide) rfl
        have hK9 := hK.sub (tys' := []) [] rfl
        exact W.vret hx hb hr (fun t ht hW => ⟨⟨f_na_d, rfl, (Eq.symm (hI_d.trans (by rw [fq_copies132_d]; (try rw [if_pos c_3]); try rfl))), by rw [ht]; exact hP9, va_K.moved hW.alike hK9, hD9⟩, hS.F ht⟩) hS.2.2 dX12_copies_21
      · refine lv_aload_n hx hb dX12_copies_7 rfl (lv_at hl 1 rfl) ?_
        refine lv_iload_n hx hb dX12_copies_8 rfl (lv_at hl 0 rfl) ?_
        refine lv_aload_n hx hb dX12_copies_9 rfl (lv_at hl 1 rfl) ?_
        refine lv_iload_n hx hb dX12_copies_10 rfl (lv_at hl 2 rfl) ?_
        refine lv_iload_n hx hb dX12_copies_11 rfl (lv_at hl 0 rfl) ?_
        refine lv_iadd hx hb dX12_copies_12 ?_
        refine va_iald hx hb hK hP 0 0 rfl rfl (xg_inr (N := 264) rfl (gq_copies132_s0 (y0 := L2d) c_3 h0_d).1 (gq_copies132_s0 (y0 := L2d) c_3 h0_d).2) dX12_copies_13 ?_
        refine va_iast hx hb hK hP hD hS 0 0 rfl rfl (xg_inr (N := 264) rfl (gq_copies132_s1 (y0 := L2d) c_3 h0_d).1 (gq_copies132_s1 (y0 := L2d) c_3 h0_d).2) dX12_copies_14 (fun H locs hP hD hS => ?_)
        obtain ⟨hP, hD⟩ := zre [(eA0 na cNa 264 (upd f_na_d L2d.toNatClampNeg (f_na_d ((132 + L2d).toNatClampNeg))))] hP hD rfl
        refine lv_iinc (v := (L2d + 1)) (lv' := [(2, .int (L2d + 1)), (0, .ref na), (1, .int 132)]) hx hb dX12_copies_15 hl (k := 0) rfl (rfl) (by decide) rfl (fun ls hl => ?_)
        refine lv_goto (tgt := 2) hx hb dX12_copies_18 (by decide) ?_
        exact ih (L2d + 1) (upd f_na_d L2d.toNatClampNeg (f_na_d ((132 + L2d).toNatClampNeg))) (gq_copies132_s2 (y0 := L2d) c_3 h0_d) (by rw [xi_s' c_3]; omega) (hI_d.trans (by rw [fq_copies132_d]; (try rw [if_neg c_3]); try rfl)) H locs ls hP hD hS (lv_sub hl [0, 1, 2] rfl)
  exact hloop_1 132 (0 : Int32) f_na (gq_copies132_s3 ) (by decide) ((by rw [fq_copies132])) _ _ ls hP hD hS (lv_sub hl [0, 1, 2] rfl)

def fq_copiesLong4_d : Nat → (Int32) → (Nat → Int64) → (Nat → Int64)
  | 0, L2d, f_na_d => f_na_d
  | n + 1, L2d, f_na_d => (if 4 ≤ L2d then f_na_d else fq_copiesLong4_d n (L2d + 1) (vp_updL f_na_d L2d.toNatClampNeg (f_na_d ((4 + L2d).toNatClampNeg))))
def fq_copiesLong4 (f_na : Nat → Int64) : (Nat → Int64) := fq_copiesLong4_d 4 (0 : Int32) f_na
theorem gq_copiesLong4_s0 {y0 : Int32} (h0 : ¬ (4 ≤ y0)) (h1 : ¬ (y0 < 0)) : ¬ ((4 + y0) < 0) ∧ ¬ (8 ≤ (4 + y0)) := by lia
theorem gq_copiesLong4_s1 {y0 : Int32} (h0 : ¬ (4 ≤ y0)) (h1 : ¬ (y0 < 0)) : ¬ (y0 < 0) ∧ ¬ (8 ≤ y0) := by lia
theorem gq_copiesLong4_s2 {y0 : Int32} (h0 : ¬ (4 ≤ y0)) (h1 : ¬ (y0 < 0)) : ¬ ((y0 + 1) < 0) := by lia
theorem gq_copiesLong4_s3  : ¬ ((0 : Int32) < 0) := (by decide)
theorem dX12_copiesLong_0 : decode cX12_copiesLong 0 = .ok (.iconst 0, 1) := zk_3 (by decide +kernel)
theorem dX12_copiesLong_1 : decode cX12_copiesLong 1 = .ok (.istore_n 2, 1) := zk_61 (by decide +kernel)
theorem dX12_copiesLong_2 : decode cX12_copiesLong 2 = .ok (.iload_n 2, 1) := zk_28 (by decide +kernel)
theorem dX12_copiesLong_3 : decode cX12_copiesLong 3 = .ok (.iload_n 1, 1) := zk_27 (by decide +kernel)
theorem dX12_copiesLong_4 : decode cX12_copiesLong 4 = .ok (.if_icmp .ge 17, 3) := zk_162 (by decide +kernel)
theorem dX12_copiesLong_21 : decode cX12_copiesLong 21 = .ok (.return_, 1) := zk_177 (by decide +kernel)
theorem dX12_copiesLong_7 : decode cX12_copiesLong 7 = .ok (.aload_n 0, 1) := zk_42 (by decide +kernel)
theorem dX12_copiesLong_8 : decode cX12_copiesLong 8 = .ok (.iload_n 2, 1) := zk_28 (by decide +kernel)
theorem dX12_copiesLong_9 : decode cX12_copiesLong 9 = .ok (.aload_n 0, 1) := zk_42 (by decide +kernel)
theorem dX12_copiesLong_10 : decode cX12_copiesLong 10 = .ok (.iload_n 1, 1) := zk_27 (by decide +kernel)
theorem dX12_copiesLong_11 : decode cX12_copiesLong 11 = .ok (.iload_n 2, 1) := zk_28 (by decide +kernel)
theorem dX12_copiesLong_12 : decode cX12_copiesLong 12 = .ok (.iadd, 1) := zk_96 (by decide +kernel)
theorem dX12_copiesLong_13 : decode cX12_copiesLong 13 = .ok (.laload, 1) := zk_47 (by decide +kernel)
theorem dX12_copiesLong_14 : decode cX12_copiesLong 14 = .ok (.lastore, 1) := zk_80 (by decide +kernel)
theorem dX12_copiesLong_15 : decode cX12_copiesLong 15 = .ok (.iinc 2 1, 3) := zk_132 (by decide +kernel)
theorem dX12_copiesLong_18 : decode cX12_copiesLong 18 = .ok (.goto (-16), 3) := zk_167 (by decide +kernel)
set_option maxHeartbeats 4000000 in
set_option maxRecDepth 100000 in
theorem gq_copiesLong4 (l : Launch) (dC : Nat → ClassId) (dI : Nat → Nat → Nat) (na : Nat) (cNa : ClassId) (f_na : Nat → Int64) (sz : Nat) : Met l yX12_copiesLong (Cond.code yX12_copiesLong cX12_copiesLong 3 none :: wsL_law) ({ frames := 0, cells := 0, slots := 0, locals := 0 }) (va_Pc [.ref na, .int 4] (fun U => U.heap.size = sz ∧ va_P (dC, dI) vwCl [(eA1 na cNa 8 f_na)] U.heap ∧ va_K (dC, dI) vwCl [(cNa, .long)] U ∧ va_D (fun _ => True) [(eA1 na cNa 8 f_na)])) (va_Qv (fun (u : (Nat → Int64)) => u = fq_copiesLong4 f_na) (fun (u : (Nat → Int64)) t => va_P (dC, dI) vwCl [(eA1 na cNa 8 u)] t.heap ∧ va_K (dC, dI) vwCl [] t ∧ va_D (va_A [(eA1 na cNa 8 f_na)] sz) [(eA1 na cNa 8 u)]) (va_A [(eA1 na cNa 8 f_na)] sz)) 0 0 (va_A [(eA1 na cNa 8 f_na)] sz) := by
  refine Met.ofW (cc := cX12_copiesLong) (maxL := 3) (ret := none) (by decide) rfl ?_
  intro p e s m args below meth c s₁ B hml hv
  obtain ⟨rfl, hsz, hP, hK, hD0⟩ := hv
  have hx := B.exec
  have hb := B.bytes
  have hr := B.returns
  have hts := atoms_spec (ws := Cond.code yX12_copiesLong cX12_copiesLong 3 none :: wsL_law) B.pre
  have htw : ∀ w ∈ wsL_law, w.before _ s = true := fun w h => hts w (List.mem_cons_of_mem _ h)
  have hown : s.vm.findClass RX12 = some m.cls := findClass_of_methodNamed B.named
  have hlocks := B.notSynchronized
  subst hsz
  have hD := hD0.self (sz := s.heap.size)
  generalize hAe : va_A [(eA1 na cNa 8 f_na)] s.heap.size = A at hD ⊢
  have hA : ∀ q : Nat, s.heap.size ≤ q → A q := fun q h => by rw [← hAe]; exact Or.inr h
  obtain ⟨H, rH⟩ : ∃ z : Heap, z = s.heap := ⟨_, rfl⟩
  have hS : va_S A s.heap H [] := by rw [rH]; exact va_S.rf
  have hP : va_P (dC, dI) vwCl [(eA1 na cNa 8 f_na)] H := by rw [rH]; exact hP
  rw [← rH]
  have hl := lv_entry ([.ref na, .int 4]) (n := 3) (Nat.le_of_ble_eq_true rfl)
  rw [lg_entry_eq]
  generalize (lg_sl ([.ref na, .int 4]) ++ List.replicate (3 - (lg_sl ([.ref na, .int 4])).length) Slot.unset).toArray = ls at hl ⊢
  have hl : lv_has ls 3 [(0, .ref na), (1, .int 4)] := hl
  refine lv_iconst (v := 0) hx hb dX12_copiesLong_0 (by decide) ?_
  refine lv_istore_n (lv' := [(2, .int 0), (0, .ref na), (1, .int 4)]) hx hb dX12_copiesLong_1 rfl hl (by decide) rfl (fun ls hl => ?_)
  have hloop_1 : ∀ (n : Nat) (L2d : Int32) (f_na_d : Nat → Int64) (h0_d : ¬ L2d < 0) (hf_d : (4 : Int32).toInt ≤ L2d.toInt + (n : Int)) (hI_d : fq_copiesLong4 f_na = fq_copiesLong4_d n L2d f_na_d) (H : Heap) (locs : List Loc) (ls : Array Slot) (hP : va_P (dC, dI) vwCl [(eA1 na cNa 8 f_na_d)] H) (hD : va_D A [(eA1 na cNa 8 f_na_d)]) (hS : va_S A s.heap H locs) (hl : lv_has ls 3 [(2, .int L2d), (0, .ref na), (1, .int 4)]), W p l e (headSpec (Cond.code yX12_copiesLong cX12_copiesLong 3 none :: wsL_law) ({ frames := 0, cells := 0, slots := 0, locals := 0 })).room s m ([.ref na, .int 4] : List Value).toArray below meth c H locs 0 0 (MQ below (va_Qv (fun (u : (Nat → Int64)) => u = fq_copiesLong4 f_na) (fun (u : (Nat → Int64)) t => va_P (dC, dI) vwCl [(eA1 na cNa 8 u)] t.heap ∧ va_K (dC, dI) vwCl [] t ∧ va_D A [(eA1 na cNa 8 u)]) A) ([.ref na, .int 4] : List Value).toArray s 0 0 A) (F0 m 2 ls []) := by
    intro n
    induction n with
    | zero =>
      intro L2d f_na_d h0_d hf_d hI_d H locs ls hP hD hS hl
      refine lv_iload_n hx hb dX12_copiesLong_2 rfl (lv_at hl 0 rfl) ?_
      refine lv_iload_n hx hb dX12_copiesLong_3 rfl (lv_at hl 2 rfl) ?_
      refine lv_icmp_ge (tgt := 21) hx hb dX12_copiesLong_4 (by decide) (fun c_2 => ?_) (fun c_2 => absurd c_2 (fun h => h (xi_z hf_d)))
      refine W.widen (k := 0) (n := 0) (by omega) (by omega) ?_
      obtain ⟨hP9, hD9⟩ := zsub2 (ws' := [(eA1 na cNa 8 f_na_d)]) hP hD [0] (by decide) rfl
      have hK9 := hK.sub (tys' := []) [] rfl
      exact W.vret hx hb hr (fun t ht hW => ⟨⟨f_na_d, rfl, (Eq.symm (hI_d.trans (by rw [fq_copiesLong4_d]; try rfl))), by rw [ht]; exact hP9, va_K.moved hW.alike hK9, hD9⟩, hS.F ht⟩) hS.2.2 dX12_copiesLong_21
    | succ n ih =>
      intro L2d f_na_d h0_d hf_d hI_d H locs ls hP hD hS hl
      refine lv_iload_n hx hb dX12_copiesLong_2 rfl (lv_at hl 0 rfl) ?_
      refine lv_iload_n hx hb dX12_copiesLong_3 rfl (lv_at hl 2 rfl) ?_
      refine lv_icmp_ge (tgt := 21) hx hb dX12_copiesLong_4 (by decide) (fun c_3 => ?_) (fun c_3 => ?_)
      · refine W.widen (k := 0) (n := 0) (by omega) (by omega) ?_
        obtain ⟨hP9, hD9⟩ := zsub2 (ws' := [(eA1 na cNa 8 f_na_d)]) hP hD [0] (by decide) rfl
        have hK9 := hK.sub (tys' := []) [] rfl
        exact W.vret hx hb hr (fun t ht hW => ⟨⟨f_na_d, rfl, (Eq.symm (hI_d.trans (by rw [fq_copiesLong4_d]; (try rw [if_pos c_3]); try rfl))), by rw [ht]; exact hP9, va_K.moved hW.alike hK9, hD9⟩, hS.F ht⟩) hS.2.2 dX12_copiesLong_21
      · refine lv_aload_n hx hb dX12_copiesLong_7 rfl (lv_at hl 1 rfl) ?_
        refine lv_iload_n hx hb dX12_copiesLong_8 rfl (lv_at hl 0 rfl) ?_
        refine lv_aload_n hx hb dX12_copiesLong_9 rfl (lv_at hl 1 rfl) ?_
        refine lv_iload_n hx hb dX12_copiesLong_10 rfl (lv_at hl 2 rfl) ?_
        refine lv_iload_n hx hb dX12_copiesLong_11 rfl (lv_at hl 0 rfl) ?_
        refine lv_iadd hx hb dX12_copiesLong_12 ?_
        refine va_lald hx hb hK hP 0 0 rfl rfl (xg_inr (N := 8) rfl (gq_copiesLong4_s0 (y0 := L2d) c_3 h0_d).1 (gq_copiesLong4_s0 (y0 := L2d) c_3 h0_d).2) dX12_copiesLong_13 ?_
        refine va_last hx hb hK hP hD hS 0 0 rfl rfl (xg_inr (N := 8) rfl (gq_copiesLong4_s1 (y0 := L2d) c_3 h0_d).1 (gq_copiesLong4_s1 (y0 := L2d) c_3 h0_d).2) dX12_copiesLong_14 (fun H locs hP hD hS => ?_)
        obtain ⟨hP, hD⟩ := zre [(eA1 na cNa 8 (vp_updL f_na_d L2d.toNatClampNeg (f_na_d ((4 + L2d).toNatClampNeg))))] hP hD rfl
        refine lv_iinc (v := (L2d + 1)) (lv' := [(2, .int (L2d + 1)), (0, .ref na), (1, .int 4)]) hx hb dX12_copiesLong_15 hl (k := 0) rfl (rfl) (by decide) rfl (fun ls hl => ?_)
        refine lv_goto (tgt := 2) hx hb dX12_copiesLong_18 (by decide) ?_
        exact ih (L2d + 1) (vp_updL f_na_d L2d.toNatClampNeg (f_na_d ((4 + L2d).toNatClampNeg))) (gq_copiesLong4_s2 (y0 := L2d) c_3 h0_d) (by rw [xi_s' c_3]; omega) (hI_d.trans (by rw [fq_copiesLong4_d]; (try rw [if_neg c_3]); try rfl)) H locs ls hP hD hS (lv_sub hl [0, 1, 2] rfl)
  exact hloop_1 4 (0 : Int32) f_na (gq_copiesLong4_s3 ) (by decide) ((by rw [fq_copiesLong4])) _ _ ls hP hD hS (lv_sub hl [0, 1, 2] rfl)

def fq_copiesLong6_d : Nat → (Int32) → (Nat → Int64) → (Nat → Int64)
  | 0, L2d, f_na_d => f_na_d
  | n + 1, L2d, f_na_d => (if 6 ≤ L2d then f_na_d else fq_copiesLong6_d n (L2d + 1) (vp_updL f_na_d L2d.toNatClampNeg (f_na_d ((6 + L2d).toNatClampNeg))))
def fq_copiesLong6 (f_na : Nat → Int64) : (Nat → Int64) := fq_copiesLong6_d 6 (0 : Int32) f_na
theorem gq_copiesLong6_s0 {y0 : Int32} (h0 : ¬ (6 ≤ y0)) (h1 : ¬ (y0 < 0)) : ¬ ((6 + y0) < 0) ∧ ¬ (12 ≤ (6 + y0)) := by lia
theorem gq_copiesLong6_s1 {y0 : Int32} (h0 : ¬ (6 ≤ y0)) (h1 : ¬ (y0 < 0)) : ¬ (y0 < 0) ∧ ¬ (12 ≤ y0) := by lia
theorem gq_copiesLong6_s2 {y0 : Int32} (h0 : ¬ (6 ≤ y0)) (h1 : ¬ (y0 < 0)) : ¬ ((y0 + 1) < 0) := by lia
theorem gq_copiesLong6_s3  : ¬ ((0 : Int32) < 0) := (by decide)
set_option maxHeartbeats 4000000 in
set_option maxRecDepth 100000 in
theorem gq_copiesLong6 (l : Launch) (dC : Nat → ClassId) (dI : Nat → Nat → Nat) (na : Nat) (cNa : ClassId) (f_na : Nat → Int64) (sz : Nat) : Met l yX12_copiesLong (Cond.code yX12_copiesLong cX12_copiesLong 3 none :: wsL_law) ({ frames := 0, cells := 0, slots := 0, locals := 0 }) (va_Pc [.ref na, .int 6] (fun U => U.heap.size = sz ∧ va_P (dC, dI) vwCl [(eA1 na cNa 12 f_na)] U.heap ∧ va_K (dC, dI) vwCl [(cNa, .long)] U ∧ va_D (fun _ => True) [(eA1 na cNa 12 f_na)])) (va_Qv (fun (u : (Nat → Int64)) => u = fq_copiesLong6 f_na) (fun (u : (Nat → Int64)) t => va_P (dC, dI) vwCl [(eA1 na cNa 12 u)] t.heap ∧ va_K (dC, dI) vwCl [] t ∧ va_D (va_A [(eA1 na cNa 12 f_na)] sz) [(eA1 na cNa 12 u)]) (va_A [(eA1 na cNa 12 f_na)] sz)) 0 0 (va_A [(eA1 na cNa 12 f_na)] sz) := by
  refine Met.ofW (cc := cX12_copiesLong) (maxL := 3) (ret := none) (by decide) rfl ?_
  intro p e s m args below meth c s₁ B hml hv
  obtain ⟨rfl, hsz, hP, hK, hD0⟩ := hv
  have hx := B.exec
  have hb := B.bytes
  have hr := B.returns
  have hts := atoms_spec (ws := Cond.code yX12_copiesLong cX12_copiesLong 3 none :: wsL_law) B.pre
  have htw : ∀ w ∈ wsL_law, w.before _ s = true := fun w h => hts w (List.mem_cons_of_mem _ h)
  have hown : s.vm.findClass RX12 = some m.cls := findClass_of_methodNamed B.named
  have hlocks := B.notSynchronized
  subst hsz
  have hD := hD0.self (sz := s.heap.size)
  generalize hAe : va_A [(eA1 na cNa 12 f_na)] s.heap.size = A at hD ⊢
  have hA : ∀ q : Nat, s.heap.size ≤ q → A q := fun q h => by rw [← hAe]; exact Or.inr h
  obtain ⟨H, rH⟩ : ∃ z : Heap, z = s.heap := ⟨_, rfl⟩
  have hS : va_S A s.heap H [] := by rw [rH]; exact va_S.rf
  have hP : va_P (dC, dI) vwCl [(eA1 na cNa 12 f_na)] H := by rw [rH]; exact hP
  rw [← rH]
  have hl := lv_entry ([.ref na, .int 6]) (n := 3) (Nat.le_of_ble_eq_true rfl)
  rw [lg_entry_eq]
  generalize (lg_sl ([.ref na, .int 6]) ++ List.replicate (3 - (lg_sl ([.ref na, .int 6])).length) Slot.unset).toArray = ls at hl ⊢
  have hl : lv_has ls 3 [(0, .ref na), (1, .int 6)] := hl
  refine lv_iconst (v := 0) hx hb dX12_copiesLong_0 (by decide) ?_
  refine lv_istore_n (lv' := [(2, .int 0), (0, .ref na), (1, .int 6)]) hx hb dX12_copiesLong_1 rfl hl (by decide) rfl (fun ls hl => ?_)
  have hloop_1 : ∀ (n : Nat) (L2d : Int32) (f_na_d : Nat → Int64) (h0_d : ¬ L2d < 0) (hf_d : (6 : Int32).toInt ≤ L2d.toInt + (n : Int)) (hI_d : fq_copiesLong6 f_na = fq_copiesLong6_d n L2d f_na_d) (H : Heap) (locs : List Loc) (ls : Array Slot) (hP : va_P (dC, dI) vwCl [(eA1 na cNa 12 f_na_d)] H) (hD : va_D A [(eA1 na cNa 12 f_na_d)]) (hS : va_S A s.heap H locs) (hl : lv_has ls 3 [(2, .int L2d), (0, .ref na), (1, .int 6)]), W p l e (headSpec (Cond.code yX12_copiesLong cX12_copiesLong 3 none :: wsL_law) ({ frames := 0, cells := 0, slots := 0, locals := 0 })).room s m ([.ref na, .int 6] : List Value).toArray below meth c H locs 0 0 (MQ below (va_Qv (fun (u : (Nat → Int64)) => u = fq_copiesLong6 f_na) (fun (u : (Nat → Int64)) t => va_P (dC, dI) vwCl [(eA1 na cNa 12 u)] t.heap ∧ va_K (dC, dI) vwCl [] t ∧ va_D A [(eA1 na cNa 12 u)]) A) ([.ref na, .int 6] : List Value).toArray s 0 0 A) (F0 m 2 ls []) := by
    intro n
    induction n with
    | zero =>
      intro L2d f_na_d h0_d hf_d hI_d H locs ls hP hD hS hl
      refine lv_iload_n hx hb dX12_copiesLong_2 rfl (lv_at hl 0 rfl) ?_
      refine lv_iload_n hx hb dX12_copiesLong_3 rfl (lv_at hl 2 rfl) ?_
      refine lv_icmp_ge (tgt := 21) hx hb dX12_copiesLong_4 (by decide) (fun c_2 => ?_) (fun c_2 => absurd c_2 (fun h => h (xi_z hf_d)))
      refine W.widen (k := 0) (n := 0) (by omega) (by omega) ?_
      obtain ⟨hP9, hD9⟩ := zsub2 (ws' := [(eA1 na cNa 12 f_na_d)]) hP hD [0] (by decide) rfl
      have hK9 := hK.sub (tys' := []) [] rfl
      exact W.vret hx hb hr (fun t ht hW => ⟨⟨f_na_d, rfl, (Eq.symm (hI_d.trans (by rw [fq_copiesLong6_d]; try rfl))), by rw [ht]; exact hP9, va_K.moved hW.alike hK9, hD9⟩, hS.F ht⟩) hS.2.2 dX12_copiesLong_21
    | succ n ih =>
      intro L2d f_na_d h0_d hf_d hI_d H locs ls hP hD hS hl
      refine lv_iload_n hx hb dX12_copiesLong_2 rfl (lv_at hl 0 rfl) ?_
      refine lv_iload_n hx hb dX12_copiesLong_3 rfl (lv_at hl 2 rfl) ?_
      refine lv_icmp_ge (tgt := 21) hx hb dX12_copiesLong_4 (by decide) (fun c_3 => ?_) (fun c_3 => ?_)
      · refine W.widen (k := 0) (n := 0) (by omega) (by omega) ?_
        obtain ⟨hP9, hD9⟩ := zsub2 (ws' := [(eA1 na cNa 12 f_na_d)]) hP hD [0] (by decide) rfl
        have hK9 := hK.sub (tys' := []) [] rfl
        exact W.vret hx hb hr (fun t ht hW => ⟨⟨f_na_d, rfl, (Eq.symm (hI_d.trans (by rw [fq_copiesLong6_d]; (try rw [if_pos c_3]); try rfl))), by rw [ht]; exact hP9, va_K.moved hW.alike hK9, hD9⟩, hS.F ht⟩) hS.2.2 dX12_copiesLong_21
      · refine lv_aload_n hx hb dX12_copiesLong_7 rfl (lv_at hl 1 rfl) ?_
        refine lv_iload_n hx hb dX12_copiesLong_8 rfl (lv_at hl 0 rfl) ?_
        refine lv_aload_n hx hb dX12_copiesLong_9 rfl (lv_at hl 1 rfl) ?_
        refine lv_iload_n hx hb dX12_copiesLong_10 rfl (lv_at hl 2 rfl) ?_
        refine lv_iload_n hx hb dX12_copiesLong_11 rfl (lv_at hl 0 rfl) ?_
        refine lv_iadd hx hb dX12_copiesLong_12 ?_
        refine va_lald hx hb hK hP 0 0 rfl rfl (xg_inr (N := 12) rfl (gq_copiesLong6_s0 (y0 := L2d) c_3 h0_d).1 (gq_copiesLong6_s0 (y0 := L2d) c_3 h0_d).2) dX12_copiesLong_13 ?_
        refine va_last hx hb hK hP hD hS 0 0 rfl rfl (xg_inr (N := 12) rfl (gq_copiesLong6_s1 (y0 := L2d) c_3 h0_d).1 (gq_copiesLong6_s1 (y0 := L2d) c_3 h0_d).2) dX12_copiesLong_14 (fun H locs hP hD hS => ?_)
        obtain ⟨hP, hD⟩ := zre [(eA1 na cNa 12 (vp_updL f_na_d L2d.toNatClampNeg (f_na_d ((6 + L2d).toNatClampNeg))))] hP hD rfl
        refine lv_iinc (v := (L2d + 1)) (lv' := [(2, .int (L2d + 1)), (0, .ref na), (1, .int 6)]) hx hb dX12_copiesLong_15 hl (k := 0) rfl (rfl) (by decide) rfl (fun ls hl => ?_)
        refine lv_goto (tgt := 2) hx hb dX12_copiesLong_18 (by decide) ?_
        exact ih (L2d + 1) (vp_updL f_na_d L2d.toNatClampNeg (f_na_d ((6 + L2d).toNatClampNeg))) (gq_copiesLong6_s2 (y0 := L2d) c_3 h0_d) (by rw [xi_s' c_3]; omega) (hI_d.trans (by rw [fq_copiesLong6_d]; (try rw [if_neg c_3]); try rfl)) H locs ls hP hD hS (lv_sub hl [0, 1, 2] rfl)
  exact hloop_1 6 (0 : Int32) f_na (gq_copiesLong6_s3 ) (by decide) ((by rw [fq_copiesLong6])) _ _ ls hP hD hS (lv_sub hl [0, 1, 2] rfl)

def fq_keepText (f_sky : Nat → Int32) (f_landName : Nat → Int32) (f_landHas : Nat → Int32) (f_feastName : Nat → Int32) (f_first : Nat → Int32) (f_last : Nat → Int32) (f_personName : Nat → Int32) (f_born : Nat → Int64) (f_died : Nat → Int64) (f_deedName : Nat → Int32) (f_deedOn : Nat → Int64) (f_deedHas : Nat → Int32) (f_noteName : Nat → Int32) (f_noteHas : Nat → Int32) (f_knot : Nat → Int32) (f_part : Nat → Int32) (f_other : Nat → Int32) (m_landsRead : Int32) (m_feastsRead : Int32) (m_peopleRead : Int32) (m_deedsRead : Int32) (m_notesRead : Int32) (m_knotsRead : Int32) : (Int32) × (Int32) × (Int32) × (Int32) × (Int32) × (Int32) × (Int32) × (Int32) × (Int32) × (Int32) × (Nat → Int32) × (Nat → Int32) × (Nat → Int32) × (Nat → Int32) × (Nat → Int32) × (Nat → Int32) × (Nat → Int32) × (Nat → Int64) × (Nat → Int64) × (Nat → Int32) × (Nat → Int64) × (Nat → Int32) × (Nat → Int32) × (Nat → Int32) × (Nat → Int32) × (Nat → Int32) × (Nat → Int32) := (xL ((fq_copies7 f_sky)) (fun u_2 => (xL ((fq_copies4 f_landName)) (fun u_5 => (xL ((fq_copies12 f_landHas)) (fun u_8 => (xL ((fq_copies4 f_feastName)) (fun u_11 => (xL ((fq_copies4 f_first)) (fun u_14 => (xL ((fq_copies4 f_last)) (fun u_17 => (xL ((fq_copies6 f_personName)) (fun u_20 => (xL ((fq_copiesLong6 f_born)) (fun u_23 => (xL ((fq_copiesLong6 f_died)) (fun u_26 => (xL ((fq_copies4 f_deedName)) (fun u_29 => (xL ((fq_copiesLong4 f_deedOn)) (fun u_32 => (xL ((fq_copies12 f_deedHas)) (fun u_35 => (xL ((fq_copies6 f_noteName)) (fun u_38 => (xL ((fq_copies132 f_noteHas)) (fun u_41 => (xL ((fq_copies64 f_knot)) (fun u_44 => (xL ((fq_copies64 f_part)) (fun u_47 => (xL ((fq_copies64 f_other)) (fun u_50 => (m_landsRead, m_feastsRead, m_peopleRead, m_deedsRead, m_notesRead, m_knotsRead, m_notesRead, (0 : Int32), (0 : Int32), (0 : Int32), u_2, u_5, u_8, u_11, u_14, u_17, u_20, u_23, u_26, u_29, u_32, u_35, u_38, u_41, u_44, u_47, u_50)))))))))))))))))))))))))))))))))))
theorem dX12_keepText_0 : decode cX12_keepText 0 = .ok (.aload_n 0, 1) := zk_42 (by decide +kernel)
theorem dX12_keepText_1 : decode cX12_keepText 1 = .ok (.aload_n 0, 1) := zk_42 (by decide +kernel)
theorem dX12_keepText_2 : decode cX12_keepText 2 = .ok (.getfield 186, 3) := zk_180 (by decide +kernel)
theorem dX12_keepText_5 : decode cX12_keepText 5 = .ok (.putfield 217, 3) := zk_181 (by decide +kernel)
theorem dX12_keepText_8 : decode cX12_keepText 8 = .ok (.aload_n 0, 1) := zk_42 (by decide +kernel)
theorem dX12_keepText_9 : decode cX12_keepText 9 = .ok (.aload_n 0, 1) := zk_42 (by decide +kernel)
theorem dX12_keepText_10 : decode cX12_keepText 10 = .ok (.getfield 189, 3) := zk_180 (by decide +kernel)
theorem dX12_keepText_13 : decode cX12_keepText 13 = .ok (.putfield 220, 3) := zk_181 (by decide +kernel)
theorem dX12_keepText_16 : decode cX12_keepText 16 = .ok (.aload_n 0, 1) := zk_42 (by decide +kernel)
theorem dX12_keepText_17 : decode cX12_keepText 17 = .ok (.aload_n 0, 1) := zk_42 (by decide +kernel)
theorem dX12_keepText_18 : decode cX12_keepText 18 = .ok (.getfield 192, 3) := zk_180 (by decide +kernel)
theorem dX12_keepText_21 : decode cX12_keepText 21 = .ok (.putfield 223, 3) := zk_181 (by decide +kernel)
theorem dX12_keepText_24 : decode cX12_keepText 24 = .ok (.aload_n 0, 1) := zk_42 (by decide +kernel)
theorem dX12_keepText_25 : decode cX12_keepText 25 = .ok (.aload_n 0, 1) := zk_42 (by decide +kernel)
theorem dX12_keepText_26 : decode cX12_keepText 26 = .ok (.getfield 195, 3) := zk_180 (by decide +kernel)
theorem dX12_keepText_29 : decode cX12_keepText 29 = .ok (.putfield 226, 3) := zk_181 (by decide +kernel)
theorem dX12_keepText_32 : decode cX12_keepText 32 = .ok (.aload_n 0, 1) := zk_42 (by decide +kernel)
theorem dX12_keepText_33 : decode cX12_keepText 33 = .ok (.aload_n 0, 1) := zk_42 (by decide +kernel)
theorem dX12_keepText_34 : decode cX12_keepText 34 = .ok (.getfield 198, 3) := zk_180 (by decide +kernel)
theorem dX12_keepText_37 : decode cX12_keepText 37 = .ok (.putfield 229, 3) := zk_181 (by decide +kernel)
theorem dX12_keepText_40 : decode cX12_keepText 40 = .ok (.aload_n 0, 1) := zk_42 (by decide +kernel)
theorem dX12_keepText_41 : decode cX12_keepText 41 = .ok (.aload_n 0, 1) := zk_42 (by decide +kernel)
theorem dX12_keepText_42 : decode cX12_keepText 42 = .ok (.getfield 201, 3) := zk_180 (by decide +kernel)
theorem dX12_keepText_45 : decode cX12_keepText 45 = .ok (.putfield 232, 3) := zk_181 (by decide +kernel)
theorem dX12_keepText_48 : decode cX12_keepText 48 = .ok (.aload_n 0, 1) := zk_42 (by decide +kernel)
theorem dX12_keepText_49 : decode cX12_keepText 49 = .ok (.getfield 20, 3) := zk_180 (by decide +kernel)
theorem dX12_keepText_52 : decode cX12_keepText 52 = .ok (.bipush 7, 2) := zk_16 (by decide +kernel)
theorem dX12_keepText_54 : decode cX12_keepText 54 = .ok (.invokestatic 235, 3) := zk_184 (by decide +kernel)
theorem dX12_keepText_57 : decode cX12_keepText 57 = .ok (.aload_n 0, 1) := zk_42 (by decide +kernel)
theorem dX12_keepText_58 : decode cX12_keepText 58 = .ok (.getfield 23, 3) := zk_180 (by decide +kernel)
theorem dX12_keepText_61 : decode cX12_keepText 61 = .ok (.iconst 4, 1) := zk_7 (by decide +kernel)
theorem dX12_keepText_62 : decode cX12_keepText 62 = .ok (.invokestatic 235, 3) := zk_184 (by decide +kernel)
theorem dX12_keepText_65 : decode cX12_keepText 65 = .ok (.aload_n 0, 1) := zk_42 (by decide +kernel)
theorem dX12_keepText_66 : decode cX12_keepText 66 = .ok (.getfield 26, 3) := zk_180 (by decide +kernel)
theorem dX12_keepText_69 : decode cX12_keepText 69 = .ok (.bipush 12, 2) := zk_16 (by decide +kernel)
theorem dX12_keepText_71 : decode cX12_keepText 71 = .ok (.invokestatic 235, 3) := zk_184 (by decide +kernel)
theorem dX12_keepText_74 : decode cX12_keepText 74 = .ok (.aload_n 0, 1) := zk_42 (by decide +kernel)
theorem dX12_keepText_75 : decode cX12_keepText 75 = .ok (.getfield 29, 3) := zk_180 (by decide +kernel)
theorem dX12_keepText_78 : decode cX12_keepText 78 = .ok (.iconst 4, 1) := zk_7 (by decide +kernel)
theorem dX12_keepText_79 : decode cX12_keepText 79 = .ok (.invokestatic 235, 3) := zk_184 (by decide +kernel)
theorem dX12_keepText_82 : decode cX12_keepText 82 = .ok (.aload_n 0, 1) := zk_42 (by decide +kernel)
theorem dX12_keepText_83 : decode cX12_keepText 83 = .ok (.getfield 32, 3) := zk_180 (by decide +kernel)
theorem dX12_keepText_86 : decode cX12_keepText 86 = .ok (.iconst 4, 1) := zk_7 (by decide +kernel)
theorem dX12_keepText_87 : decode cX12_keepText 87 = .ok (.invokestatic 235, 3) := zk_184 (by decide +kernel)
theorem dX12_keepText_90 : decode cX12_keepText 90 = .ok (.aload_n 0, 1) := zk_42 (by decide +kernel)
theorem dX12_keepText_91 : decode cX12_keepText 91 = .ok (.getfield 35, 3) := zk_180 (by decide +kernel)
theorem dX12_keepText_94 : decode cX12_keepText 94 = .ok (.iconst 4, 1) := zk_7 (by decide +kernel)
theorem dX12_keepText_95 : decode cX12_keepText 95 = .ok (.invokestatic 235, 3) := zk_184 (by decide +kernel)
theorem dX12_keepText_98 : decode cX12_keepText 98 = .ok (.aload_n 0, 1) := zk_42 (by decide +kernel)
theorem dX12_keepText_99 : decode cX12_keepText 99 = .ok (.getfield 38, 3) := zk_180 (by decide +kernel)
theorem dX12_keepText_102 : decode cX12_keepText 102 = .ok (.bipush 6, 2) := zk_16 (by decide +kernel)
theorem dX12_keepText_104 : decode cX12_keepText 104 = .ok (.invokestatic 235, 3) := zk_184 (by decide +kernel)
theorem dX12_keepText_107 : decode cX12_keepText 107 = .ok (.aload_n 0, 1) := zk_42 (by decide +kernel)
theorem dX12_keepText_108 : decode cX12_keepText 108 = .ok (.getfield 41, 3) := zk_180 (by decide +kernel)
theorem dX12_keepText_111 : decode cX12_keepText 111 = .ok (.bipush 6, 2) := zk_16 (by decide +kernel)
theorem dX12_keepText_113 : decode cX12_keepText 113 = .ok (.invokestatic 239, 3) := zk_184 (by decide +kernel)
theorem dX12_keepText_116 : decode cX12_keepText 116 = .ok (.aload_n 0, 1) := zk_42 (by decide +kernel)
theorem dX12_keepText_117 : decode cX12_keepText 117 = .ok (.getfield 45, 3) := zk_180 (by decide +kernel)
theorem dX12_keepText_120 : decode cX12_keepText 120 = .ok (.bipush 6, 2) := zk_16 (by decide +kernel)
theorem dX12_keepText_122 : decode cX12_keepText 122 = .ok (.invokestatic 239, 3) := zk_184 (by decide +kernel)
theorem dX12_keepText_125 : decode cX12_keepText 125 = .ok (.aload_n 0, 1) := zk_42 (by decide +kernel)
theorem dX12_keepText_126 : decode cX12_keepText 126 = .ok (.getfield 48, 3) := zk_180 (by decide +kernel)
theorem dX12_keepText_129 : decode cX12_keepText 129 = .ok (.iconst 4, 1) := zk_7 (by decide +kernel)
theorem dX12_keepText_130 : decode cX12_keepText 130 = .ok (.invokestatic 235, 3) := zk_184 (by decide +kernel)
theorem dX12_keepText_133 : decode cX12_keepText 133 = .ok (.aload_n 0, 1) := zk_42 (by decide +kernel)
theorem dX12_keepText_134 : decode cX12_keepText 134 = .ok (.getfield 51, 3) := zk_180 (by decide +kernel)
theorem dX12_keepText_137 : decode cX12_keepText 137 = .ok (.iconst 4, 1) := zk_7 (by decide +kernel)
theorem dX12_keepText_138 : decode cX12_keepText 138 = .ok (.invokestatic 239, 3) := zk_184 (by decide +kernel)
theorem dX12_keepText_141 : decode cX12_keepText 141 = .ok (.aload_n 0, 1) := zk_42 (by decide +kernel)
theorem dX12_keepText_142 : decode cX12_keepText 142 = .ok (.getfield 54, 3) := zk_180 (by decide +kernel)
theorem dX12_keepText_145 : decode cX12_keepText 145 = .ok (.bipush 12, 2) := zk_16 (by decide +kernel)
theorem dX12_keepText_147 : decode cX12_keepText 147 = .ok (.invokestatic 235, 3) := zk_184 (by decide +kernel)
theorem dX12_keepText_150 : decode cX12_keepText 150 = .ok (.aload_n 0, 1) := zk_42 (by decide +kernel)
theorem dX12_keepText_151 : decode cX12_keepText 151 = .ok (.getfield 57, 3) := zk_180 (by decide +kernel)
theorem dX12_keepText_154 : decode cX12_keepText 154 = .ok (.bipush 6, 2) := zk_16 (by decide +kernel)
theorem dX12_keepText_156 : decode cX12_keepText 156 = .ok (.invokestatic 235, 3) := zk_184 (by decide +kernel)
theorem dX12_keepText_159 : decode cX12_keepText 159 = .ok (.aload_n 0, 1) := zk_42 (by decide +kernel)
theorem dX12_keepText_160 : decode cX12_keepText 160 = .ok (.getfield 60, 3) := zk_180 (by decide +kernel)
theorem dX12_keepText_163 : decode cX12_keepText 163 = .ok (.sipush 132, 3) := zk_17 (by decide +kernel)
theorem dX12_keepText_166 : decode cX12_keepText 166 = .ok (.invokestatic 235, 3) := zk_184 (by decide +kernel)
theorem dX12_keepText_169 : decode cX12_keepText 169 = .ok (.aload_n 0, 1) := zk_42 (by decide +kernel)
theorem dX12_keepText_170 : decode cX12_keepText 170 = .ok (.getfield 63, 3) := zk_180 (by decide +kernel)
theorem dX12_keepText_173 : decode cX12_keepText 173 = .ok (.bipush 64, 2) := zk_16 (by decide +kernel)
theorem dX12_keepText_175 : decode cX12_keepText 175 = .ok (.invokestatic 235, 3) := zk_184 (by decide +kernel)
theorem dX12_keepText_178 : decode cX12_keepText 178 = .ok (.aload_n 0, 1) := zk_42 (by decide +kernel)
theorem dX12_keepText_179 : decode cX12_keepText 179 = .ok (.getfield 66, 3) := zk_180 (by decide +kernel)
theorem dX12_keepText_182 : decode cX12_keepText 182 = .ok (.bipush 64, 2) := zk_16 (by decide +kernel)
theorem dX12_keepText_184 : decode cX12_keepText 184 = .ok (.invokestatic 235, 3) := zk_184 (by decide +kernel)
theorem dX12_keepText_187 : decode cX12_keepText 187 = .ok (.aload_n 0, 1) := zk_42 (by decide +kernel)
theorem dX12_keepText_188 : decode cX12_keepText 188 = .ok (.getfield 69, 3) := zk_180 (by decide +kernel)
theorem dX12_keepText_191 : decode cX12_keepText 191 = .ok (.bipush 64, 2) := zk_16 (by decide +kernel)
theorem dX12_keepText_193 : decode cX12_keepText 193 = .ok (.invokestatic 235, 3) := zk_184 (by decide +kernel)
theorem dX12_keepText_196 : decode cX12_keepText 196 = .ok (.aload_n 0, 1) := zk_42 (by decide +kernel)
theorem dX12_keepText_197 : decode cX12_keepText 197 = .ok (.aload_n 0, 1) := zk_42 (by decide +kernel)
theorem dX12_keepText_198 : decode cX12_keepText 198 = .ok (.getfield 229, 3) := zk_180 (by decide +kernel)
theorem dX12_keepText_201 : decode cX12_keepText 201 = .ok (.putfield 243, 3) := zk_181 (by decide +kernel)
theorem dX12_keepText_204 : decode cX12_keepText 204 = .ok (.aload_n 0, 1) := zk_42 (by decide +kernel)
theorem dX12_keepText_205 : decode cX12_keepText 205 = .ok (.iconst 0, 1) := zk_3 (by decide +kernel)
theorem dX12_keepText_206 : decode cX12_keepText 206 = .ok (.putfield 246, 3) := zk_181 (by decide +kernel)
theorem dX12_keepText_209 : decode cX12_keepText 209 = .ok (.aload_n 0, 1) := zk_42 (by decide +kernel)
theorem dX12_keepText_210 : decode cX12_keepText 210 = .ok (.iconst 0, 1) := zk_3 (by decide +kernel)
theorem dX12_keepText_211 : decode cX12_keepText 211 = .ok (.putfield 249, 3) := zk_181 (by decide +kernel)
theorem dX12_keepText_214 : decode cX12_keepText 214 = .ok (.aload_n 0, 1) := zk_42 (by decide +kernel)
theorem dX12_keepText_215 : decode cX12_keepText 215 = .ok (.iconst 0, 1) := zk_3 (by decide +kernel)
theorem dX12_keepText_216 : decode cX12_keepText 216 = .ok (.putfield 252, 3) := zk_181 (by decide +kernel)
theorem dX12_keepText_219 : decode cX12_keepText 219 = .ok (.return_, 1) := zk_177 (by decide +kernel)
set_option maxHeartbeats 4000000 in
set_option maxRecDepth 100000 in
theorem gq_keepText (l : Launch) (dC : Nat → ClassId) (dI : Nat → Nat → Nat) (mq : Nat) (g : Nat → Int32) (gl : Nat → Int64) (rf : Nat → Nat) (ck : Nat → ClassId) (f_sky : Nat → Int32) (f_landName : Nat → Int32) (f_landHas : Nat → Int32) (f_feastName : Nat → Int32) (f_first : Nat → Int32) (f_last : Nat → Int32) (f_personName : Nat → Int32) (f_born : Nat → Int64) (f_died : Nat → Int64) (f_deedName : Nat → Int32) (f_deedOn : Nat → Int64) (f_deedHas : Nat → Int32) (f_noteName : Nat → Int32) (f_noteHas : Nat → Int32) (f_knot : Nat → Int32) (f_part : Nat → Int32) (f_other : Nat → Int32) (sz : Nat) : Met l yX12_keepText (Cond.code yX12_keepText cX12_keepText 1 none :: wsL_law) ({ frames := 1, cells := 0, slots := 0, locals := 22 }) (va_Pc [.ref mq] (fun U => U.heap.size = sz ∧ va_P (dC, dI) vwCl [(mq, .inr (12, mF g gl rf)), (eA0 (rf 24) (ck 24) 14 f_sky), (eA0 (rf 28) (ck 28) 8 f_landName), (eA0 (rf 29) (ck 29) 24 f_landHas), (eA0 (rf 30) (ck 30) 8 f_feastName), (eA0 (rf 31) (ck 31) 8 f_first), (eA0 (rf 32) (ck 32) 8 f_last), (eA0 (rf 33) (ck 33) 12 f_personName), (eA1 (rf 34) (ck 34) 12 f_born), (eA1 (rf 35) (ck 35) 12 f_died), (eA0 (rf 36) (ck 36) 8 f_deedName), (eA1 (rf 37) (ck 37) 8 f_deedOn), (eA0 (rf 38) (ck 38) 24 f_deedHas), (eA0 (rf 39) (ck 39) 12 f_noteName), (eA0 (rf 40) (ck 40) 264 f_noteHas), (eA0 (rf 41) (ck 41) 128 f_knot), (eA0 (rf 42) (ck 42) 128 f_part), (eA0 (rf 43) (ck 43) 128 f_other)] U.heap ∧ va_K (dC, dI) vwCl [((ck 24), .int), ((ck 28), .int), ((ck 29), .int), ((ck 30), .int), ((ck 31), .int), ((ck 32), .int), ((ck 33), .int), ((ck 34), .long), ((ck 35), .long), ((ck 36), .int), ((ck 37), .long), ((ck 38), .int), ((ck 39), .int), ((ck 40), .int), ((ck 41), .int), ((ck 42), .int), ((ck 43), .int)] U ∧ va_D (fun _ => True) [(mq, .inr (12, mF g gl rf)), (eA0 (rf 24) (ck 24) 14 f_sky), (eA0 (rf 28) (ck 28) 8 f_landName), (eA0 (rf 29) (ck 29) 24 f_landHas), (eA0 (rf 30) (ck 30) 8 f_feastName), (eA0 (rf 31) (ck 31) 8 f_first), (eA0 (rf 32) (ck 32) 8 f_last), (eA0 (rf 33) (ck 33) 12 f_personName), (eA1 (rf 34) (ck 34) 12 f_born), (eA1 (rf 35) (ck 35) 12 f_died), (eA0 (rf 36) (ck 36) 8 f_deedName), (eA1 (rf 37) (ck 37) 8 f_deedOn), (eA0 (rf 38) (ck 38) 24 f_deedHas), (eA0 (rf 39) (ck 39) 12 f_noteName), (eA0 (rf 40) (ck 40) 264 f_noteHas), (eA0 (rf 41) (ck 41) 128 f_knot), (eA0 (rf 42) (ck 42) 128 f_part), (eA0 (rf 43) (ck 43) 128 f_other)])) (va_Qv (fun (u : (Int32) × (Int32) × (Int32) × (Int32) × (Int32) × (Int32) × (Int32) × (Int32) × (Int32) × (Int32) × (Nat → Int32) × (Nat → Int32) × (Nat → Int32) × (Nat → Int32) × (Nat → Int32) × (Nat → Int32) × (Nat → Int32) × (Nat → Int64) × (Nat → Int64) × (Nat → Int32) × (Nat → Int64) × (Nat → Int32) × (Nat → Int32) × (Nat → Int32) × (Nat → Int32) × (Nat → Int32) × (Nat → Int32)) => u = fq_keepText f_sky f_landName f_landHas f_feastName f_first f_last f_personName f_born f_died f_deedName f_deedOn f_deedHas f_noteName f_noteHas f_knot f_part f_other (g 18) (g 19) (g 20) (g 21) (g 22) (g 23)) (fun (u : (Int32) × (Int32) × (Int32) × (Int32) × (Int32) × (Int32) × (Int32) × (Int32) × (Int32) × (Int32) × (Nat → Int32) × (Nat → Int32) × (Nat → Int32) × (Nat → Int32) × (Nat → Int32) × (Nat → Int32) × (Nat → Int32) × (Nat → Int64) × (Nat → Int64) × (Nat → Int32) × (Nat → Int64) × (Nat → Int32) × (Nat → Int32) × (Nat → Int32) × (Nat → Int32) × (Nat → Int32) × (Nat → Int32)) t => va_P (dC, dI) vwCl [(mq, .inr (12, mF (upd (upd (upd (upd (upd (upd (upd (upd (upd (upd g 12 u.1) 13 u.2.1) 14 u.2.2.1) 15 u.2.2.2.1) 16 u.2.2.2.2.1) 17 u.2.2.2.2.2.1) 58 u.2.2.2.2.2.2.1) 59 u.2.2.2.2.2.2.2.1) 67 u.2.2.2.2.2.2.2.2.1) 70 u.2.2.2.2.2.2.2.2.2.1) gl rf)), (eA0 (rf 24) (ck 24) 14 u.2.2.2.2.2.2.2.2.2.2.1), (eA0 (rf 28) (ck 28) 8 u.2.2.2.2.2.2.2.2.2.2.2.1), (eA0 (rf 29) (ck 29) 24 u.2.2.2.2.2.2.2.2.2.2.2.2.1), (eA0 (rf 30) (ck 30) 8 u.2.2.2.2.2.2.2.2.2.2.2.2.2.1), (eA0 (rf 31) (ck 31) 8 u.2.2.2.2.2.2.2.2.2.2.2.2.2.2.1), (eA0 (rf 32) (ck 32) 8 u.2.2.2.2.2.2.2.2.2.2.2.2.2.2.2.1), (eA0 (rf 33) (ck 33) 12 u.2.2.2.2.2.2.2.2.2.2.2.2.2.2.2.2.1), (eA1 (rf 34) (ck 34) 12 u.2.2.2.2.2.2.2.2.2.2.2.2.2.2.2.2.2.1), (eA1 (rf 35) (ck 35) 12 u.2.2.2.2.2.2.2.2.2.2.2.2.2.2.2.2.2.2.1), (eA0 (rf 36) (ck 36) 8 u.2.2.2.2.2.2.2.2.2.2.2.2.2.2.2.2.2.2.2.1), (eA1 (rf 37) (ck 37) 8 u.2.2.2.2.2.2.2.2.2.2.2.2.2.2.2.2.2.2.2.2.1), (eA0 (rf 38) (ck 38) 24 u.2.2.2.2.2.2.2.2.2.2.2.2.2.2.2.2.2.2.2.2.2.1), (eA0 (rf 39) (ck 39) 12 u.2.2.2.2.2.2.2.2.2.2.2.2.2.2.2.2.2.2.2.2.2.2.1), (eA0 (rf 40) (ck 40) 264 u.2.2.2.2.2.2.2.2.2.2.2.2.2.2.2.2.2.2.2.2.2.2.2.1), (eA0 (rf 41) (ck 41) 128 u.2.2.2.2.2.2.2.2.2.2.2.2.2.2.2.2.2.2.2.2.2.2.2.2.1), (eA0 (rf 42) (ck 42) 128 u.2.2.2.2.2.2.2.2.2.2.2.2.2.2.2.2.2.2.2.2.2.2.2.2.2.1), (eA0 (rf 43) (ck 43) 128 u.2.2.2.2.2.2.2.2.2.2.2.2.2.2.2.2.2.2.2.2.2.2.2.2.2.2)] t.heap ∧ va_K (dC, dI) vwCl [] t ∧ va_D (va_A [(mq, .inr (12, mF g gl rf)), (eA0 (rf 24) (ck 24) 14 f_sky), (eA0 (rf 28) (ck 28) 8 f_landName), (eA0 (rf 29) (ck 29) 24 f_landHas), (eA0 (rf 30) (ck 30) 8 f_feastName), (eA0 (rf 31) (ck 31) 8 f_first), (eA0 (rf 32) (ck 32) 8 f_last), (eA0 (rf 33) (ck 33) 12 f_personName), (eA1 (rf 34) (ck 34) 12 f_born), (eA1 (rf 35) (ck 35) 12 f_died), (eA0 (rf 36) (ck 36) 8 f_deedName), (eA1 (rf 37) (ck 37) 8 f_deedOn), (eA0 (rf 38) (ck 38) 24 f_deedHas), (eA0 (rf 39) (ck 39) 12 f_noteName), (eA0 (rf 40) (ck 40) 264 f_noteHas), (eA0 (rf 41) (ck 41) 128 f_knot), (eA0 (rf 42) (ck 42) 128 f_part), (eA0 (rf 43) (ck 43) 128 f_other)] sz) [(mq, .inr (12, mF (upd (upd (upd (upd (upd (upd (upd (upd (upd (upd g 12 u.1) 13 u.2.1) 14 u.2.2.1) 15 u.2.2.2.1) 16 u.2.2.2.2.1) 17 u.2.2.2.2.2.1) 58 u.2.2.2.2.2.2.1) 59 u.2.2.2.2.2.2.2.1) 67 u.2.2.2.2.2.2.2.2.1) 70 u.2.2.2.2.2.2.2.2.2.1) gl rf)), (eA0 (rf 24) (ck 24) 14 u.2.2.2.2.2.2.2.2.2.2.1), (eA0 (rf 28) (ck 28) 8 u.2.2.2.2.2.2.2.2.2.2.2.1), (eA0 (rf 29) (ck 29) 24 u.2.2.2.2.2.2.2.2.2.2.2.2.1), (eA0 (rf 30) (ck 30) 8 u.2.2.2.2.2.2.2.2.2.2.2.2.2.1), (eA0 (rf 31) (ck 31) 8 u.2.2.2.2.2.2.2.2.2.2.2.2.2.2.1), (eA0 (rf 32) (ck 32) 8 u.2.2.2.2.2.2.2.2.2.2.2.2.2.2.2.1), (eA0 (rf 33) (ck 33) 12 u.2.2.2.2.2.2.2.2.2.2.2.2.2.2.2.2.1), (eA1 (rf 34) (ck 34) 12 u.2.2.2.2.2.2.2.2.2.2.2.2.2.2.2.2.2.1), (eA1 (rf 35) (ck 35) 12 u.2.2.2.2.2.2.2.2.2.2.2.2.2.2.2.2.2.2.1), (eA0 (rf 36) (ck 36) 8 u.2.2.2.2.2.2.2.2.2.2.2.2.2.2.2.2.2.2.2.1), (eA1 (rf 37) (ck 37) 8 u.2.2.2.2.2.2.2.2.2.2.2.2.2.2.2.2.2.2.2.2.1), (eA0 (rf 38) (ck 38) 24 u.2.2.2.2.2.2.2.2.2.2.2.2.2.2.2.2.2.2.2.2.2.1), (eA0 (rf 39) (ck 39) 12 u.2.2.2.2.2.2.2.2.2.2.2.2.2.2.2.2.2.2.2.2.2.2.1), (eA0 (rf 40) (ck 40) 264 u.2.2.2.2.2.2.2.2.2.2.2.2.2.2.2.2.2.2.2.2.2.2.2.1), (eA0 (rf 41) (ck 41) 128 u.2.2.2.2.2.2.2.2.2.2.2.2.2.2.2.2.2.2.2.2.2.2.2.2.1), (eA0 (rf 42) (ck 42) 128 u.2.2.2.2.2.2.2.2.2.2.2.2.2.2.2.2.2.2.2.2.2.2.2.2.2.1), (eA0 (rf 43) (ck 43) 128 u.2.2.2.2.2.2.2.2.2.2.2.2.2.2.2.2.2.2.2.2.2.2.2.2.2.2)]) (va_A [(mq, .inr (12, mF g gl rf)), (eA0 (rf 24) (ck 24) 14 f_sky), (eA0 (rf 28) (ck 28) 8 f_landName), (eA0 (rf 29) (ck 29) 24 f_landHas), (eA0 (rf 30) (ck 30) 8 f_feastName), (eA0 (rf 31) (ck 31) 8 f_first), (eA0 (rf 32) (ck 32) 8 f_last), (eA0 (rf 33) (ck 33) 12 f_personName), (eA1 (rf 34) (ck 34) 12 f_born), (eA1 (rf 35) (ck 35) 12 f_died), (eA0 (rf 36) (ck 36) 8 f_deedName), (eA1 (rf 37) (ck 37) 8 f_deedOn), (eA0 (rf 38) (ck 38) 24 f_deedHas), (eA0 (rf 39) (ck 39) 12 f_noteName), (eA0 (rf 40) (ck 40) 264 f_noteHas), (eA0 (rf 41) (ck 41) 128 f_knot), (eA0 (rf 42) (ck 42) 128 f_part), (eA0 (rf 43) (ck 43) 128 f_other)] sz)) 0 0 (va_A [(mq, .inr (12, mF g gl rf)), (eA0 (rf 24) (ck 24) 14 f_sky), (eA0 (rf 28) (ck 28) 8 f_landName), (eA0 (rf 29) (ck 29) 24 f_landHas), (eA0 (rf 30) (ck 30) 8 f_feastName), (eA0 (rf 31) (ck 31) 8 f_first), (eA0 (rf 32) (ck 32) 8 f_last), (eA0 (rf 33) (ck 33) 12 f_personName), (eA1 (rf 34) (ck 34) 12 f_born), (eA1 (rf 35) (ck 35) 12 f_died), (eA0 (rf 36) (ck 36) 8 f_deedName), (eA1 (rf 37) (ck 37) 8 f_deedOn), (eA0 (rf 38) (ck 38) 24 f_deedHas), (eA0 (rf 39) (ck 39) 12 f_noteName), (eA0 (rf 40) (ck 40) 264 f_noteHas), (eA0 (rf 41) (ck 41) 128 f_knot), (eA0 (rf 42) (ck 42) 128 f_part), (eA0 (rf 43) (ck 43) 128 f_other)] sz) := by
  refine Met.ofW (cc := cX12_keepText) (maxL := 1) (ret := none) (by decide) rfl ?_
  intro p e s m args below meth c s₁ B hml hv
  obtain ⟨rfl, hsz, hP, hK, hD0⟩ := hv
  have hx := B.exec
  have hb := B.bytes
  have hr := B.returns
  have hts := atoms_spec (ws := Cond.code yX12_keepText cX12_keepText 1 none :: wsL_law) B.pre
  have htw : ∀ w ∈ wsL_law, w.before _ s = true := fun w h => hts w (List.mem_cons_of_mem _ h)
  have hown : s.vm.findClass RX12 = some m.cls := findClass_of_methodNamed B.named
  have hlocks := B.notSynchronized
  subst hsz
  have hD := hD0.self (sz := s.heap.size)
  generalize hAe : va_A [(mq, .inr (12, mF g gl rf)), (eA0 (rf 24) (ck 24) 14 f_sky), (eA0 (rf 28) (ck 28) 8 f_landName), (eA0 (rf 29) (ck 29) 24 f_landHas), (eA0 (rf 30) (ck 30) 8 f_feastName), (eA0 (rf 31) (ck 31) 8 f_first), (eA0 (rf 32) (ck 32) 8 f_last), (eA0 (rf 33) (ck 33) 12 f_personName), (eA1 (rf 34) (ck 34) 12 f_born), (eA1 (rf 35) (ck 35) 12 f_died), (eA0 (rf 36) (ck 36) 8 f_deedName), (eA1 (rf 37) (ck 37) 8 f_deedOn), (eA0 (rf 38) (ck 38) 24 f_deedHas), (eA0 (rf 39) (ck 39) 12 f_noteName), (eA0 (rf 40) (ck 40) 264 f_noteHas), (eA0 (rf 41) (ck 41) 128 f_knot), (eA0 (rf 42) (ck 42) 128 f_part), (eA0 (rf 43) (ck 43) 128 f_other)] s.heap.size = A at hD ⊢
  have hA : ∀ q : Nat, s.heap.size ≤ q → A q := fun q h => by rw [← hAe]; exact Or.inr h
  obtain ⟨H, rH⟩ : ∃ z : Heap, z = s.heap := ⟨_, rfl⟩
  have hS : va_S A s.heap H [] := by rw [rH]; exact va_S.rf
  have hP : va_P (dC, dI) vwCl [(mq, .inr (12, mF g gl rf)), (eA0 (rf 24) (ck 24) 14 f_sky), (eA0 (rf 28) (ck 28) 8 f_landName), (eA0 (rf 29) (ck 29) 24 f_landHas), (eA0 (rf 30) (ck 30) 8 f_feastName), (eA0 (rf 31) (ck 31) 8 f_first), (eA0 (rf 32) (ck 32) 8 f_last), (eA0 (rf 33) (ck 33) 12 f_personName), (eA1 (rf 34) (ck 34) 12 f_born), (eA1 (rf 35) (ck 35) 12 f_died), (eA0 (rf 36) (ck 36) 8 f_deedName), (eA1 (rf 37) (ck 37) 8 f_deedOn), (eA0 (rf 38) (ck 38) 24 f_deedHas), (eA0 (rf 39) (ck 39) 12 f_noteName), (eA0 (rf 40) (ck 40) 264 f_noteHas), (eA0 (rf 41) (ck 41) 128 f_knot), (eA0 (rf 42) (ck 42) 128 f_part), (eA0 (rf 43) (ck 43) 128 f_other)] H := by rw [rH]; exact hP
  rw [← rH]
  have hl := lv_entry ([.ref mq]) (n := 1) (Nat.le_of_ble_eq_true rfl)
  rw [lg_entry_eq]
  generalize (lg_sl ([.ref mq]) ++ List.replicate (1 - (lg_sl ([.ref mq])).length) Slot.unset).toArray = ls at hl ⊢
  have hl : lv_has ls 1 [(0, .ref mq)] := hl
  refine lv_aload_n hx hb dX12_keepText_0 rfl (lv_at hl 0 rfl) ?_
  refine lv_aload_n hx hb dX12_keepText_1 rfl (lv_at hl 0 rfl) ?_
  refine va_get (D := (dC, dI)) (ci := 12) (v := .int (g 18)) (C := RX12) (T := TX12) (N := 76) hx hb htw inlX12 hown hK hP 0 rfl rfl 18 (by decide) (htw _ (ck_10 _ (List.mem_of_getElem? (i := 19) rfl))) (fun _ h9 => h9) rfl dX12_keepText_2 ?_
  refine va_put (D := (dC, dI)) (ci := 12) (v := .int (g 18)) (ty := tyX12 12) (C := RX12) (T := TX12) (N := 76) hx hb htw inlX12 tyX12 tyX12_ok nmX12 hown hK hP hD hS 0 rfl rfl 12 (by decide) (htw _ (ck_11 _ (List.mem_of_getElem? (i := 9) rfl))) (fun _ h9 => h9) rfl (tyX12_ok 12 (by decide)) rfl rfl (Nat.le_of_ble_eq_true rfl) dX12_keepText_5 (fun H locs hP hD hS => ?_)
  obtain ⟨hP, hD⟩ := zre [(mq, .inr (12, mF (upd g 12 (g 18)) gl rf)), (eA0 (rf 24) (ck 24) 14 f_sky), (eA0 (rf 28) (ck 28) 8 f_landName), (eA0 (rf 29) (ck 29) 24 f_landHas), (eA0 (rf 30) (ck 30) 8 f_feastName), (eA0 (rf 31) (ck 31) 8 f_first), (eA0 (rf 32) (ck 32) 8 f_last), (eA0 (rf 33) (ck 33) 12 f_personName), (eA1 (rf 34) (ck 34) 12 f_born), (eA1 (rf 35) (ck 35) 12 f_died), (eA0 (rf 36) (ck 36) 8 f_deedName), (eA1 (rf 37) (ck 37) 8 f_deedOn), (eA0 (rf 38) (ck 38) 24 f_deedHas), (eA0 (rf 39) (ck 39) 12 f_noteName), (eA0 (rf 40) (ck 40) 264 f_noteHas), (eA0 (rf 41) (ck 41) 128 f_knot), (eA0 (rf 42) (ck 42) 128 f_part), (eA0 (rf 43) (ck 43) 128 f_other)] hP hD rfl
  refine lv_aload_n hx hb dX12_keepText_8 rfl (lv_at hl 0 rfl) ?_
  refine lv_aload_n hx hb dX12_keepText_9 rfl (lv_at hl 0 rfl) ?_
  refine va_get (D := (dC, dI)) (ci := 12) (v := .int (g 19)) (C := RX12) (T := TX12) (N := 76) hx hb htw inlX12 hown hK hP 0 rfl rfl 19 (by decide) (htw _ (ck_10 _ (List.mem_of_getElem? (i := 20) rfl))) (fun _ h9 => h9) rfl dX12_keepText_10 ?_
  refine va_put (D := (dC, dI)) (ci := 12) (v := .int (g 19)) (ty := tyX12 13) (C := RX12) (T := TX12) (N := 76) hx hb htw inlX12 tyX12 tyX12_ok nmX12 hown hK hP hD hS 0 rfl rfl 13 (by decide) (htw _ (ck_11 _ (List.mem_of_getElem? (i := 10) rfl))) (fun _ h9 => h9) rfl (tyX12_ok 13 (by decide)) rfl rfl (Nat.le_of_ble_eq_true rfl) dX12_keepText_13 (fun H locs hP hD hS => ?_)
  have hP : va_P (dC, dI) vwCl [(mq, .inr (12, mF (upd (upd g 12 (g 18)) 13 (g 19)) gl rf)), (eA0 (rf 24) (ck 24) 14 f_sky), (eA0 (rf 28) (ck 28) 8 f_landName), (eA0 (rf 29) (ck 29) 24 f_landHas), (eA0 (rf 30) (ck 30) 8 f_feastName), (eA0 (rf 31) (ck 31) 8 f_first), (eA0 (rf 32) (ck 32) 8 f_last), (eA0 (rf 33) (ck 33) 12 f_personName), (eA1 (rf 34) (ck 34) 12 f_born), (eA1 (rf 35) (ck 35) 12 f_died), (eA0 (rf 36) (ck 36) 8 f_deedName), (eA1 (rf 37) (ck 37) 8 f_deedOn), (eA0 (rf 38) (ck 38) 24 f_deedHas), (eA0 (rf 39) (ck 39) 12 f_noteName), (eA0 (rf 40) (ck 40) 264 f_noteHas), (eA0 (rf 41) (ck 41) 128 f_knot), (eA0 (rf 42) (ck 42) 128 f_part), (eA0 (rf 43) (ck 43) 128 f_other)] H := hP
  have hD : va_D A [(mq, .inr (12, mF (upd (upd g 12 (g 18)) 13 (g 19)) gl rf)), (eA0 (rf 24) (ck 24) 14 f_sky), (eA0 (rf 28) (ck 28) 8 f_landName), (eA0 (rf 29) (ck 29) 24 f_landHas), (eA0 (rf 30) (ck 30) 8 f_feastName), (eA0 (rf 31) (ck 31) 8 f_first), (eA0 (rf 32) (ck 32) 8 f_last), (eA0 (rf 33) (ck 33) 12 f_personName), (eA1 (rf 34) (ck 34) 12 f_born), (eA1 (rf 35) (ck 35) 12 f_died), (eA0 (rf 36) (ck 36) 8 f_deedName), (eA1 (rf 37) (ck 37) 8 f_deedOn), (eA0 (rf 38) (ck 38) 24 f_deedHas), (eA0 (rf 39) (ck 39) 12 f_noteName), (eA0 (rf 40) (ck 40) 264 f_noteHas), (eA0 (rf 41) (ck 41) 128 f_knot), (eA0 (rf 42) (ck 42) 128 f_part), (eA0 (rf 43) (ck 43) 128 f_other)] := hD
  refine lv_aload_n hx hb dX12_keepText_16 rfl (lv_at hl 0 rfl) ?_
  refine lv_aload_n hx hb dX12_keepText_17 rfl (lv_at hl 0 rfl) ?_
  refine va_get (D := (dC, dI)) (ci := 12) (v := .int (g 20)) (C := RX12) (T := TX12) (N := 76) hx hb htw inlX12 hown hK hP 0 rfl rfl 20 (by decide) (htw _ (ck_10 _ (List.mem_of_getElem? (i := 21) rfl))) (fun _ h9 => h9) rfl dX12_keepText_18 ?_
  refine va_put (D := (dC, dI)) (ci := 12) (v := .int (g 20)) (ty := tyX12 14) (C := RX12) (T := TX12) (N := 76) hx hb htw inlX12 tyX12 tyX12_ok nmX12 hown hK hP hD hS 0 rfl rfl 14 (by decide) (htw _ (ck_11 _ (List.mem_of_getElem? (i := 11) rfl))) (fun _ h9 => h9) rfl (tyX12_ok 14 (by decide)) rfl rfl (Nat.le_of_ble_eq_true rfl) dX12_keepText_21 (fun H locs hP hD hS => ?_)
  have hP : va_P (dC, dI) vwCl [(mq, .inr (12, mF (upd (upd (upd g 12 (g 18)) 13 (g 19)) 14 (g 20)) gl rf)), (eA0 (rf 24) (ck 24) 14 f_sky), (eA0 (rf 28) (ck 28) 8 f_landName), (eA0 (rf 29) (ck 29) 24 f_landHas), (eA0 (rf 30) (ck 30) 8 f_feastName), (eA0 (rf 31) (ck 31) 8 f_first), (eA0 (rf 32) (ck 32) 8 f_last), (eA0 (rf 33) (ck 33) 12 f_personName), (eA1 (rf 34) (ck 34) 12 f_born), (eA1 (rf 35) (ck 35) 12 f_died), (eA0 (rf 36) (ck 36) 8 f_deedName), (eA1 (rf 37) (ck 37) 8 f_deedOn), (eA0 (rf 38) (ck 38) 24 f_deedHas), (eA0 (rf 39) (ck 39) 12 f_noteName), (eA0 (rf 40) (ck 40) 264 f_noteHas), (eA0 (rf 41) (ck 41) 128 f_knot), (eA0 (rf 42) (ck 42) 128 f_part), (eA0 (rf 43) (ck 43) 128 f_other)] H := hP
  have hD : va_D A [(mq, .inr (12, mF (upd (upd (upd g 12 (g 18)) 13 (g 19)) 14 (g 20)) gl rf)), (eA0 (rf 24) (ck 24) 14 f_sky), (eA0 (rf 28) (ck 28) 8 f_landName), (eA0 (rf 29) (ck 29) 24 f_landHas), (eA0 (rf 30) (ck 30) 8 f_feastName), (eA0 (rf 31) (ck 31) 8 f_first), (eA0 (rf 32) (ck 32) 8 f_last), (eA0 (rf 33) (ck 33) 12 f_personName), (eA1 (rf 34) (ck 34) 12 f_born), (eA1 (rf 35) (ck 35) 12 f_died), (eA0 (rf 36) (ck 36) 8 f_deedName), (eA1 (rf 37) (ck 37) 8 f_deedOn), (eA0 (rf 38) (ck 38) 24 f_deedHas), (eA0 (rf 39) (ck 39) 12 f_noteName), (eA0 (rf 40) (ck 40) 264 f_noteHas), (eA0 (rf 41) (ck 41) 128 f_knot), (eA0 (rf 42) (ck 42) 128 f_part), (eA0 (rf 43) (ck 43) 128 f_other)] := hD
  refine lv_aload_n hx hb dX12_keepText_24 rfl (lv_at hl 0 rfl) ?_
  refine lv_aload_n hx hb dX12_keepText_25 rfl (lv_at hl 0 rfl) ?_
  refine va_get (D := (dC, dI)) (ci := 12) (v := .int (g 21)) (C := RX12) (T := TX12) (N := 76) hx hb htw inlX12 hown hK hP 0 rfl rfl 21 (by decide) (htw _ (ck_10 _ (List.mem_of_getElem? (i := 22) rfl))) (fun _ h9 => h9) rfl dX12_keepText_26 ?_
  refine va_put (D := (dC, dI)) (ci := 12) (v := .int (g 21)) (ty := tyX12 15) (C := RX12) (T := TX12) (N := 76) hx hb htw inlX12 tyX12 tyX12_ok nmX12 hown hK hP hD hS 0 rfl rfl 15 (by decide) (htw _ (ck_11 _ (List.mem_of_getElem? (i := 12) rfl))) (fun _ h9 => h9) rfl (tyX12_ok 15 (by decide)) rfl rfl (Nat.le_of_ble_eq_true rfl) dX12_keepText_29 (fun H locs hP hD hS => ?_)
  have hP : va_P (dC, dI) vwCl [(mq, .inr (12, mF (upd (upd (upd (upd g 12 (g 18)) 13 (g 19)) 14 (g 20)) 15 (g 21)) gl rf)), (eA0 (rf 24) (ck 24) 14 f_sky), (eA0 (rf 28) (ck 28) 8 f_landName), (eA0 (rf 29) (ck 29) 24 f_landHas), (eA0 (rf 30) (ck 30) 8 f_feastName), (eA0 (rf 31) (ck 31) 8 f_first), (eA0 (rf 32) (ck 32) 8 f_last), (eA0 (rf 33) (ck 33) 12 f_personName), (eA1 (rf 34) (ck 34) 12 f_born), (eA1 (rf 35) (ck 35) 12 f_died), (eA0 (rf 36) (ck 36) 8 f_deedName), (eA1 (rf 37) (ck 37) 8 f_deedOn), (eA0 (rf 38) (ck 38) 24 f_deedHas), (eA0 (rf 39) (ck 39) 12 f_noteName), (eA0 (rf 40) (ck 40) 264 f_noteHas), (eA0 (rf 41) (ck 41) 128 f_knot), (eA0 (rf 42) (ck 42) 128 f_part), (eA0 (rf 43) (ck 43) 128 f_other)] H := hP
  have hD : va_D A [(mq, .inr (12, mF (upd (upd (upd (upd g 12 (g 18)) 13 (g 19)) 14 (g 20)) 15 (g 21)) gl rf)), (eA0 (rf 24) (ck 24) 14 f_sky), (eA0 (rf 28) (ck 28) 8 f_landName), (eA0 (rf 29) (ck 29) 24 f_landHas), (eA0 (rf 30) (ck 30) 8 f_feastName), (eA0 (rf 31) (ck 31) 8 f_first), (eA0 (rf 32) (ck 32) 8 f_last), (eA0 (rf 33) (ck 33) 12 f_personName), (eA1 (rf 34) (ck 34) 12 f_born), (eA1 (rf 35) (ck 35) 12 f_died), (eA0 (rf 36) (ck 36) 8 f_deedName), (eA1 (rf 37) (ck 37) 8 f_deedOn), (eA0 (rf 38) (ck 38) 24 f_deedHas), (eA0 (rf 39) (ck 39) 12 f_noteName), (eA0 (rf 40) (ck 40) 264 f_noteHas), (eA0 (rf 41) (ck 41) 128 f_knot), (eA0 (rf 42) (ck 42) 128 f_part), (eA0 (rf 43) (ck 43) 128 f_other)] := hD
  refine lv_aload_n hx hb dX12_keepText_32 rfl (lv_at hl 0 rfl) ?_
  refine lv_aload_n hx hb dX12_keepText_33 rfl (lv_at hl 0 rfl) ?_
  refine va_get (D := (dC, dI)) (ci := 12) (v := .int (g 22)) (C := RX12) (T := TX12) (N := 76) hx hb htw inlX12 hown hK hP 0 rfl rfl 22 (by decide) (htw _ (ck_10 _ (List.mem_of_getElem? (i := 23) rfl))) (fun _ h9 => h9) rfl dX12_keepText_34 ?_
  refine va_put (D := (dC, dI)) (ci := 12) (v := .int (g 22)) (ty := tyX12 16) (C := RX12) (T := TX12) (N := 76) hx hb htw inlX12 tyX12 tyX12_ok nmX12 hown hK hP hD hS 0 rfl rfl 16 (by decide) (htw _ (ck_11 _ (List.mem_of_getElem? (i := 13) rfl))) (fun _ h9 => h9) rfl (tyX12_ok 16 (by decide)) rfl rfl (Nat.le_of_ble_eq_true rfl) dX12_keepText_37 (fun H locs hP hD hS => ?_)
  have hP : va_P (dC, dI) vwCl [(mq, .inr (12, mF (upd (upd (upd (upd (upd g 12 (g 18)) 13 (g 19)) 14 (g 20)) 15 (g 21)) 16 (g 22)) gl rf)), (eA0 (rf 24) (ck 24) 14 f_sky), (eA0 (rf 28) (ck 28) 8 f_landName), (eA0 (rf 29) (ck 29) 24 f_landHas), (eA0 (rf 30) (ck 30) 8 f_feastName), (eA0 (rf 31) (ck 31) 8 f_first), (eA0 (rf 32) (ck 32) 8 f_last), (eA0 (rf 33) (ck 33) 12 f_personName), (eA1 (rf 34) (ck 34) 12 f_born), (eA1 (rf 35) (ck 35) 12 f_died), (eA0 (rf 36) (ck 36) 8 f_deedName), (eA1 (rf 37) (ck 37) 8 f_deedOn), (eA0 (rf 38) (ck 38) 24 f_deedHas), (eA0 (rf 39) (ck 39) 12 f_noteName), (eA0 (rf 40) (ck 40) 264 f_noteHas), (eA0 (rf 41) (ck 41) 128 f_knot), (eA0 (rf 42) (ck 42) 128 f_part), (eA0 (rf 43) (ck 43) 128 f_other)] H := hP
  have hD : va_D A [(mq, .inr (12, mF (upd (upd (upd (upd (upd g 12 (g 18)) 13 (g 19)) 14 (g 20)) 15 (g 21)) 16 (g 22)) gl rf)), (eA0 (rf 24) (ck 24) 14 f_sky), (eA0 (rf 28) (ck 28) 8 f_landName), (eA0 (rf 29) (ck 29) 24 f_landHas), (eA0 (rf 30) (ck 30) 8 f_feastName), (eA0 (rf 31) (ck 31) 8 f_first), (eA0 (rf 32) (ck 32) 8 f_last), (eA0 (rf 33) (ck 33) 12 f_personName), (eA1 (rf 34) (ck 34) 12 f_born), (eA1 (rf 35) (ck 35) 12 f_died), (eA0 (rf 36) (ck 36) 8 f_deedName), (eA1 (rf 37) (ck 37) 8 f_deedOn), (eA0 (rf 38) (ck 38) 24 f_deedHas), (eA0 (rf 39) (ck 39) 12 f_noteName), (eA0 (rf 40) (ck 40) 264 f_noteHas), (eA0 (rf 41) (ck 41) 128 f_knot), (eA0 (rf 42) (ck 42) 128 f_part), (eA0 (rf 43) (ck 43) 128 f_other)] := hD
  refine lv_aload_n hx hb dX12_keepText_40 rfl (lv_at hl 0 rfl) ?_
  refine lv_aload_n hx hb dX12_keepText_41 rfl (lv_at hl 0 rfl) ?_
  refine va_get (D := (dC, dI)) (ci := 12) (v := .int (g 23)) (C := RX12) (T := TX12) (N := 76) hx hb htw inlX12 hown hK hP 0 rfl rfl 23 (by decide) (htw _ (ck_11 _ (List.mem_of_getElem? (i := 0) rfl))) (fun _ h9 => h9) rfl dX12_keepText_42 ?_
  refine va_put (D := (dC, dI)) (ci := 12) (v := .int (g 23)) (ty := tyX12 17) (C := RX12) (T := TX12) (N := 76) hx hb htw inlX12 tyX12 tyX12_ok nmX12 hown hK hP hD hS 0 rfl rfl 17 (by decide) (htw _ (ck_11 _ (List.mem_of_getElem? (i := 14) rfl))) (fun _ h9 => h9) rfl (tyX12_ok 17 (by decide)) rfl rfl (Nat.le_of_ble_eq_true rfl) dX12_keepText_45 (fun H locs hP hD hS => ?_)
  have hP : va_P (dC, dI) vwCl [(mq, .inr (12, mF (upd (upd (upd (upd (upd (upd g 12 (g 18)) 13 (g 19)) 14 (g 20)) 15 (g 21)) 16 (g 22)) 17 (g 23)) gl rf)), (eA0 (rf 24) (ck 24) 14 f_sky), (eA0 (rf 28) (ck 28) 8 f_landName), (eA0 (rf 29) (ck 29) 24 f_landHas), (eA0 (rf 30) (ck 30) 8 f_feastName), (eA0 (rf 31) (ck 31) 8 f_first), (eA0 (rf 32) (ck 32) 8 f_last), (eA0 (rf 33) (ck 33) 12 f_personName), (eA1 (rf 34) (ck 34) 12 f_born), (eA1 (rf 35) (ck 35) 12 f_died), (eA0 (rf 36) (ck 36) 8 f_deedName), (eA1 (rf 37) (ck 37) 8 f_deedOn), (eA0 (rf 38) (ck 38) 24 f_deedHas), (eA0 (rf 39) (ck 39) 12 f_noteName), (eA0 (rf 40) (ck 40) 264 f_noteHas), (eA0 (rf 41) (ck 41) 128 f_knot), (eA0 (rf 42) (ck 42) 128 f_part), (eA0 (rf 43) (ck 43) 128 f_other)] H := hP
  have hD : va_D A [(mq, .inr (12, mF (upd (upd (upd (upd (upd (upd g 12 (g 18)) 13 (g 19)) 14 (g 20)) 15 (g 21)) 16 (g 22)) 17 (g 23)) gl rf)), (eA0 (rf 24) (ck 24) 14 f_sky), (eA0 (rf 28) (ck 28) 8 f_landName), (eA0 (rf 29) (ck 29) 24 f_landHas), (eA0 (rf 30) (ck 30) 8 f_feastName), (eA0 (rf 31) (ck 31) 8 f_first), (eA0 (rf 32) (ck 32) 8 f_last), (eA0 (rf 33) (ck 33) 12 f_personName), (eA1 (rf 34) (ck 34) 12 f_born), (eA1 (rf 35) (ck 35) 12 f_died), (eA0 (rf 36) (ck 36) 8 f_deedName), (eA1 (rf 37) (ck 37) 8 f_deedOn), (eA0 (rf 38) (ck 38) 24 f_deedHas), (eA0 (rf 39) (ck 39) 12 f_noteName), (eA0 (rf 40) (ck 40) 264 f_noteHas), (eA0 (rf 41) (ck 41) 128 f_knot), (eA0 (rf 42) (ck 42) 128 f_part), (eA0 (rf 43) (ck 43) 128 f_other)] := hD
  refine lv_aload_n hx hb dX12_keepText_48 rfl (lv_at hl 0 rfl) ?_
  refine va_get (D := (dC, dI)) (ci := 12) (v := .ref (rf 24)) (C := RX12) (T := TX12) (N := 76) hx hb htw inlX12 hown hK hP 0 rfl rfl 24 (by decide) (htw _ (ck_9 _ (List.mem_of_getElem? (i := 7) rfl))) (fun _ h9 => h9) rfl dX12_keepText_49 ?_
  refine lv_bipush (v := 7) hx hb dX12_keepText_52 (by decide) ?_
  obtain ⟨hPc, hDc, hFc, hCc⟩ := zsub3 (ws' := [(eA0 (rf 24) (ck 24) 14 f_sky)]) hP hD hS hA [1] (by decide) rfl
  have hKc := hK.sub (tys' := [((ck 24), .int)]) [0] rfl
  refine va_callv (va_runS (As := [.ref (rf 24), .int 7]) (rest := []) ⟨hx, hb, hml, hown, htw⟩ (gq_copies7 l dC dI (rf 24) (ck 24) f_sky H.size) (va_cwS 2 htw (xg_S (ck_11 _ (List.mem_of_getElem? (i := 19) rfl)) (ck_11 _ (List.mem_of_getElem? (i := 20) rfl)) (ck_1 _ (List.mem_of_getElem? (i := 5) rfl)) (ck_11 _ (List.mem_of_getElem? (i := 21) rfl))) rfl rfl rfl (by exact ⟨hdc_14.1, hdc_14.2, hdd_14⟩) ⟨Nat.le_of_ble_eq_true rfl, Nat.le_of_ble_eq_true rfl⟩) ⟨fun a U g mk q => by obtain ⟨q0, q1, qP, qK, qD⟩ := q; exact ⟨q0, q1, qP, va_K.moved (u := U) (U := U.calling g mk a) (Vm.Alike.refl U.vm) qK, qD⟩, fun U hU hW => ⟨rfl, by rw [hU], by rw [hU]; exact hPc, va_K.moved hW.alike hKc, hDc.weaken (fun _ _ _ _ => trivial)⟩⟩ rfl rfl hl.1 rfl (lv_room (Nat.le_of_ble_eq_true rfl)) dX12_keepText_54 ⟨Nat.le_of_ble_eq_true rfl, Nat.le_of_ble_eq_true rfl⟩) hS (fun q _ h => hFc q h) hFc (fun u_2 t H1 locs ht hvm hw hB hz1 hk1 hS => ?_)
  try dsimp only at hw
  obtain ⟨hP1, hK1, hD1⟩ := hB
  rw [ht] at hP1
  have hK1 := va_K.moved hvm.symm hK1
  have hK1 : va_K (dC, dI) vwCl [] s := hK1
  obtain ⟨hP, hD⟩ := va_join (wr := [(mq, .inr (12, mF (upd (upd (upd (upd (upd (upd g 12 (g 18)) 13 (g 19)) 14 (g 20)) 15 (g 21)) 16 (g 22)) 17 (g 23)) gl rf)), (eA0 (rf 28) (ck 28) 8 f_landName), (eA0 (rf 29) (ck 29) 24 f_landHas), (eA0 (rf 30) (ck 30) 8 f_feastName), (eA0 (rf 31) (ck 31) 8 f_first), (eA0 (rf 32) (ck 32) 8 f_last), (eA0 (rf 33) (ck 33) 12 f_personName), (eA1 (rf 34) (ck 34) 12 f_born), (eA1 (rf 35) (ck 35) 12 f_died), (eA0 (rf 36) (ck 36) 8 f_deedName), (eA1 (rf 37) (ck 37) 8 f_deedOn), (eA0 (rf 38) (ck 38) 24 f_deedHas), (eA0 (rf 39) (ck 39) 12 f_noteName), (eA0 (rf 40) (ck 40) 264 f_noteHas), (eA0 (rf 41) (ck 41) 128 f_knot), (eA0 (rf 42) (ck 42) 128 f_part), (eA0 (rf 43) (ck 43) 128 f_other)]) (w1 := [(eA0 (rf 24) (ck 24) 14 u_2)]) hP hD [1] [0, 2, 3, 4, 5, 6, 7, 8, 9, 10, 11, 12, 13, 14, 15, 16, 17] hCc rfl (by decide +kernel) (by decide +kernel) hk1 hFc hP1 hD1
  generalize H1 = H at hP hS ⊢
  have hP : va_P (dC, dI) vwCl [(mq, .inr (12, mF (upd (upd (upd (upd (upd (upd g 12 (g 18)) 13 (g 19)) 14 (g 20)) 15 (g 21)) 16 (g 22)) 17 (g 23)) gl rf)), (eA0 (rf 28) (ck 28) 8 f_landName), (eA0 (rf 29) (ck 29) 24 f_landHas), (eA0 (rf 30) (ck 30) 8 f_feastName), (eA0 (rf 31) (ck 31) 8 f_first), (eA0 (rf 32) (ck 32) 8 f_last), (eA0 (rf 33) (ck 33) 12 f_personName), (eA1 (rf 34) (ck 34) 12 f_born), (eA1 (rf 35) (ck 35) 12 f_died), (eA0 (rf 36) (ck 36) 8 f_deedName), (eA1 (rf 37) (ck 37) 8 f_deedOn), (eA0 (rf 38) (ck 38) 24 f_deedHas), (eA0 (rf 39) (ck 39) 12 f_noteName), (eA0 (rf 40) (ck 40) 264 f_noteHas), (eA0 (rf 41) (ck 41) 128 f_knot), (eA0 (rf 42) (ck 42) 128 f_part), (eA0 (rf 43) (ck 43) 128 f_other), (eA0 (rf 24) (ck 24) 14 u_2)] H := hP
  have hD : va_D A [(mq, .inr (12, mF (upd (upd (upd (upd (upd (upd g 12 (g 18)) 13 (g 19)) 14 (g 20)) 15 (g 21)) 16 (g 22)) 17 (g 23)) gl rf)), (eA0 (rf 28) (ck 28) 8 f_landName), (eA0 (rf 29) (ck 29) 24 f_landHas), (eA0 (rf 30) (ck 30) 8 f_feastName), (eA0 (rf 31) (ck 31) 8 f_first), (eA0 (rf 32) (ck 32) 8 f_last), (eA0 (rf 33) (ck 33) 12 f_personName), (eA1 (rf 34) (ck 34) 12 f_born), (eA1 (rf 35) (ck 35) 12 f_died), (eA0 (rf 36) (ck 36) 8 f_deedName), (eA1 (rf 37) (ck 37) 8 f_deedOn), (eA0 (rf 38) (ck 38) 24 f_deedHas), (eA0 (rf 39) (ck 39) 12 f_noteName), (eA0 (rf 40) (ck 40) 264 f_noteHas), (eA0 (rf 41) (ck 41) 128 f_knot), (eA0 (rf 42) (ck 42) 128 f_part), (eA0 (rf 43) (ck 43) 128 f_other), (eA0 (rf 24) (ck 24) 14 u_2)] := hD
  refine W.widen (k := 0) (n := 0) (by omega) (by omega) ?_
  have hq_u_2 : u_2 = (fq_copies7 f_sky) := hw
  refine lv_aload_n hx hb dX12_keepText_57 rfl (lv_at hl 0 rfl) ?_
  refine va_get (D := (dC, dI)) (ci := 12) (v := .ref (rf 28)) (C := RX12) (T := TX12) (N := 76) hx hb htw inlX12 hown hK hP 0 rfl rfl 28 (by decide) (htw _ (ck_9 _ (List.mem_of_getElem? (i := 8) rfl))) (fun _ h9 => h9) rfl dX12_keepText_58 ?_
  refine lv_iconst (v := 4) hx hb dX12_keepText_61 (by decide) ?_
  obtain ⟨hPc, hDc, hFc, hCc⟩ := zsub3 (ws' := [(eA0 (rf 28) (ck 28) 8 f_landName)]) hP hD hS hA [1] (by decide) rfl
  have hKc := hK.sub (tys' := [((ck 28), .int)]) [1] rfl
  refine va_callv (va_runS (As := [.ref (rf 28), .int 4]) (rest := []) ⟨hx, hb, hml, hown, htw⟩ (gq_copies4 l dC dI (rf 28) (ck 28) f_landName H.size) (va_cwS 2 htw (xg_S (ck_11 _ (List.mem_of_getElem? (i := 19) rfl)) (ck_11 _ (List.mem_of_getElem? (i := 20) rfl)) (ck_1 _ (List.mem_of_getElem? (i := 5) rfl)) (ck_11 _ (List.mem_of_getElem? (i := 21) rfl))) rfl rfl rfl (by exact ⟨hdc_14.1, hdc_14.2, hdd_14⟩) ⟨Nat.le_of_ble_eq_true rfl, Nat.le_of_ble_eq_true rfl⟩) ⟨fun a U g mk q => by obtain ⟨q0, q1, qP, qK, qD⟩ := q; exact ⟨q0, q1, qP, va_K.moved (u := U) (U := U.calling g mk a) (Vm.Alike.refl U.vm) qK, qD⟩, fun U hU hW => ⟨rfl, by rw [hU], by rw [hU]; exact hPc, va_K.moved hW.alike hKc, hDc.weaken (fun _ _ _ _ => trivial)⟩⟩ rfl rfl hl.1 rfl (lv_room (Nat.le_of_ble_eq_true rfl)) dX12_keepText_62 ⟨Nat.le_of_ble_eq_true rfl, Nat.le_of_ble_eq_true rfl⟩) hS (fun q _ h => hFc q h) hFc (fun u_5 t H1 locs ht hvm hw hB hz1 hk1 hS => ?_)
  try dsimp only at hw
  obtain ⟨hP1, hK1, hD1⟩ := hB
  rw [ht] at hP1
  have hK1 := va_K.moved hvm.symm hK1
  have hK1 : va_K (dC, dI) vwCl [] s := hK1
  obtain ⟨hP, hD⟩ := va_join (wr := [(mq, .inr (12, mF (upd (upd (upd (upd (upd (upd g 12 (g 18)) 13 (g 19)) 14 (g 20)) 15 (g 21)) 16 (g 22)) 17 (g 23)) gl rf)), (eA0 (rf 29) (ck 29) 24 f_landHas), (eA0 (rf 30) (ck 30) 8 f_feastName), (eA0 (rf 31) (ck 31) 8 f_first), (eA0 (rf 32) (ck 32) 8 f_last), (eA0 (rf 33) (ck 33) 12 f_personName), (eA1 (rf 34) (ck 34) 12 f_born), (eA1 (rf 35) (ck 35) 12 f_died), (eA0 (rf 36) (ck 36) 8 f_deedName), (eA1 (rf 37) (ck 37) 8 f_deedOn), (eA0 (rf 38) (ck 38) 24 f_deedHas), (eA0 (rf 39) (ck 39) 12 f_noteName), (eA0 (rf 40) (ck 40) 264 f_noteHas), (eA0 (rf 41) (ck 41) 128 f_knot), (eA0 (rf 42) (ck 42) 128 f_part), (eA0 (rf 43) (ck 43) 128 f_other), (eA0 (rf 24) (ck 24) 14 u_2)]) (w1 := [(eA0 (rf 28) (ck 28) 8 u_5)]) hP hD [1] [0, 2, 3, 4, 5, 6, 7, 8, 9, 10, 11, 12, 13, 14, 15, 16, 17] hCc rfl (by decide +kernel) (by decide +kernel) hk1 hFc hP1 hD1
  generalize H1 = H at hP hS ⊢
  have hP : va_P (dC, dI) vwCl [(mq, .inr (12, mF (upd (upd (upd (upd (upd (upd g 12 (g 18)) 13 (g 19)) 14 (g 20)) 15 (g 21)) 16 (g 22)) 17 (g 23)) gl rf)), (eA0 (rf 29) (ck 29) 24 f_landHas), (eA0 (rf 30) (ck 30) 8 f_feastName), (eA0 (rf 31) (ck 31) 8 f_first), (eA0 (rf 32) (ck 32) 8 f_last), (eA0 (rf 33) (ck 33) 12 f_personName), (eA1 (rf 34) (ck 34) 12 f_born), (eA1 (rf 35) (ck 35) 12 f_died), (eA0 (rf 36) (ck 36) 8 f_deedName), (eA1 (rf 37) (ck 37) 8 f_deedOn), (eA0 (rf 38) (ck 38) 24 f_deedHas), (eA0 (rf 39) (ck 39) 12 f_noteName), (eA0 (rf 40) (ck 40) 264 f_noteHas), (eA0 (rf 41) (ck 41) 128 f_knot), (eA0 (rf 42) (ck 42) 128 f_part), (eA0 (rf 43) (ck 43) 128 f_other), (eA0 (rf 24) (ck 24) 14 u_2), (eA0 (rf 28) (ck 28) 8 u_5)] H := hP
  have hD : va_D A [(mq, .inr (12, mF (upd (upd (upd (upd (upd (upd g 12 (g 18)) 13 (g 19)) 14 (g 20)) 15 (g 21)) 16 (g 22)) 17 (g 23)) gl rf)), (eA0 (rf 29) (ck 29) 24 f_landHas), (eA0 (rf 30) (ck 30) 8 f_feastName), (eA0 (rf 31) (ck 31) 8 f_first), (eA0 (rf 32) (ck 32) 8 f_last), (eA0 (rf 33) (ck 33) 12 f_personName), (eA1 (rf 34) (ck 34) 12 f_born), (eA1 (rf 35) (ck 35) 12 f_died), (eA0 (rf 36) (ck 36) 8 f_deedName), (eA1 (rf 37) (ck 37) 8 f_deedOn), (eA0 (rf 38) (ck 38) 24 f_deedHas), (eA0 (rf 39) (ck 39) 12 f_noteName), (eA0 (rf 40) (ck 40) 264 f_noteHas), (eA0 (rf 41) (ck 41) 128 f_knot), (eA0 (rf 42) (ck 42) 128 f_part), (eA0 (rf 43) (ck 43) 128 f_other), (eA0 (rf 24) (ck 24) 14 u_2), (eA0 (rf 28) (ck 28) 8 u_5)] := hD
  refine W.widen (k := 0) (n := 0) (by omega) (by omega) ?_
  have hq_u_5 : u_5 = (fq_copies4 f_landName) := hw
  refine lv_aload_n hx hb dX12_keepText_65 rfl (lv_at hl 0 rfl) ?_
  refine va_get (D := (dC, dI)) (ci := 12) (v := .ref (rf 29)) (C := RX12) (T := TX12) (N := 76) hx hb htw inlX12 hown hK hP 0 rfl rfl 29 (by decide) (htw _ (ck_9 _ (List.mem_of_getElem? (i := 9) rfl))) (fun _ h9 => h9) rfl dX12_keepText_66 ?_
  refine lv_bipush (v := 12) hx hb dX12_keepText_69 (by decide) ?_
  obtain ⟨hPc, hDc, hFc, hCc⟩ := zsub3 (ws' := [(eA0 (rf 29) (ck 29) 24 f_landHas)]) hP hD hS hA [1] (by decide) rfl
  have hKc := hK.sub (tys' := [((ck 29), .int)]) [2] rfl
  refine va_callv (va_runS (As := [.ref (rf 29), .int 12]) (rest := []) ⟨hx, hb, hml, hown, htw⟩ (gq_copies12 l dC dI (rf 29) (ck 29) f_landHas H.size) (va_cwS 2 htw (xg_S (ck_11 _ (List.mem_of_getElem? (i := 19) rfl)) (ck_11 _ (List.mem_of_getElem? (i := 20) rfl)) (ck_1 _ (List.mem_of_getElem? (i := 5) rfl)) (ck_11 _ (List.mem_of_getElem? (i := 21) rfl))) rfl rfl rfl (by exact ⟨hdc_14.1, hdc_14.2, hdd_14⟩) ⟨Nat.le_of_ble_eq_true rfl, Nat.le_of_ble_eq_true rfl⟩) ⟨fun a U g mk q => by obtain ⟨q0, q1, qP, qK, qD⟩ := q; exact ⟨q0, q1, qP, va_K.moved (u := U) (U := U.calling g mk a) (Vm.Alike.refl U.vm) qK, qD⟩, fun U hU hW => ⟨rfl, by rw [hU], by rw [hU]; exact hPc, va_K.moved hW.alike hKc, hDc.weaken (fun _ _ _ _ => trivial)⟩⟩ rfl rfl hl.1 rfl (lv_room (Nat.le_of_ble_eq_true rfl)) dX12_keepText_71 ⟨Nat.le_of_ble_eq_true rfl, Nat.le_of_ble_eq_true rfl⟩) hS (fun q _ h => hFc q h) hFc (fun u_8 t H1 locs ht hvm hw hB hz1 hk1 hS => ?_)
  try dsimp only at hw
  obtain ⟨hP1, hK1, hD1⟩ := hB
  rw [ht] at hP1
  have hK1 := va_K.moved hvm.symm hK1
  have hK1 : va_K (dC, dI) vwCl [] s := hK1
  obtain ⟨hP, hD⟩ := va_join (wr := [(mq, .inr (12, mF (upd (upd (upd (upd (upd (upd g 12 (g 18)) 13 (g 19)) 14 (g 20)) 15 (g 21)) 16 (g 22)) 17 (g 23)) gl rf)), (eA0 (rf 30) (ck 30) 8 f_feastName), (eA0 (rf 31) (ck 31) 8 f_first), (eA0 (rf 32) (ck 32) 8 f_last), (eA0 (rf 33) (ck 33) 12 f_personName), (eA1 (rf 34) (ck 34) 12 f_born), (eA1 (rf 35) (ck 35) 12 f_died), (eA0 (rf 36) (ck 36) 8 f_deedName), (eA1 (rf 37) (ck 37) 8 f_deedOn), (eA0 (rf 38) (ck 38) 24 f_deedHas), (eA0 (rf 39) (ck 39) 12 f_noteName), (eA0 (rf 40) (ck 40) 264 f_noteHas), (eA0 (rf 41) (ck 41) 128 f_knot), (eA0 (rf 42) (ck 42) 128 f_part), (eA0 (rf 43) (ck 43) 128 f_other), (eA0 (rf 24) (ck 24) 14 u_2), (eA0 (rf 28) (ck 28) 8 u_5)]) (w1 := [(eA0 (rf 29) (ck 29) 24 u_8)]) hP hD [1] [0, 2, 3, 4, 5, 6, 7, 8, 9, 10, 11, 12, 13, 14, 15, 16, 17] hCc rfl (by decide +kernel) (by decide +kernel) hk1 hFc hP1 hD1
  generalize H1 = H at hP hS ⊢
  have hP : va_P (dC, dI) vwCl [(mq, .inr (12, mF (upd (upd (upd (upd (upd (upd g 12 (g 18)) 13 (g 19)) 14 (g 20)) 15 (g 21)) 16 (g 22)) 17 (g 23)) gl rf)), (eA0 (rf 30) (ck 30) 8 f_feastName), (eA0 (rf 31) (ck 31) 8 f_first), (eA0 (rf 32) (ck 32) 8 f_last), (eA0 (rf 33) (ck 33) 12 f_personName), (eA1 (rf 34) (ck 34) 12 f_born), (eA1 (rf 35) (ck 35) 12 f_died), (eA0 (rf 36) (ck 36) 8 f_deedName), (eA1 (rf 37) (ck 37) 8 f_deedOn), (eA0 (rf 38) (ck 38) 24 f_deedHas), (eA0 (rf 39) (ck 39) 12 f_noteName), (eA0 (rf 40) (ck 40) 264 f_noteHas), (eA0 (rf 41) (ck 41) 128 f_knot), (eA0 (rf 42) (ck 42) 128 f_part), (eA0 (rf 43) (ck 43) 128 f_other), (eA0 (rf 24) (ck 24) 14 u_2), (eA0 (rf 28) (ck 28) 8 u_5), (eA0 (rf 29) (ck 29) 24 u_8)] H := hP
  have hD : va_D A [(mq, .inr (12, mF (upd (upd (upd (upd (upd (upd g 12 (g 18)) 13 (g 19)) 14 (g 20)) 15 (g 21)) 16 (g 22)) 17 (g 23)) gl rf)), (eA0 (rf 30) (ck 30) 8 f_feastName), (eA0 (rf 31) (ck 31) 8 f_first), (eA0 (rf 32) (ck 32) 8 f_last), (eA0 (rf 33) (ck 33) 12 f_personName), (eA1 (rf 34) (ck 34) 12 f_born), (eA1 (rf 35) (ck 35) 12 f_died), (eA0 (rf 36) (ck 36) 8 f_deedName), (eA1 (rf 37) (ck 37) 8 f_deedOn), (eA0 (rf 38) (ck 38) 24 f_deedHas), (eA0 (rf 39) (ck 39) 12 f_noteName), (eA0 (rf 40) (ck 40) 264 f_noteHas), (eA0 (rf 41) (ck 41) 128 f_knot), (eA0 (rf 42) (ck 42) 128 f_part), (eA0 (rf 43) (ck 43) 128 f_other), (eA0 (rf 24) (ck 24) 14 u_2), (eA0 (rf 28) (ck 28) 8 u_5), (eA0 (rf 29) (ck 29) 24 u_8)] := hD
  refine W.widen (k := 0) (n := 0) (by omega) (by omega) ?_
  have hq_u_8 : u_8 = (fq_copies12 f_landHas) := hw
  refine lv_aload_n hx hb dX12_keepText_74 rfl (lv_at hl 0 rfl) ?_
  refine va_get (D := (dC, dI)) (ci := 12) (v := .ref (rf 30)) (C := RX12) (T := TX12) (N := 76) hx hb htw inlX12 hown hK hP 0 rfl rfl 30 (by decide) (htw _ (ck_9 _ (List.mem_of_getElem? (i := 10) rfl))) (fun _ h9 => h9) rfl dX12_keepText_75 ?_
  refine lv_iconst (v := 4) hx hb dX12_keepText_78 (by decide) ?_
  obtain ⟨hPc, hDc, hFc, hCc⟩ := zsub3 (ws' := [(eA0 (rf 30) (ck 30) 8 f_feastName)]) hP hD hS hA [1] (by decide) rfl
  have hKc := hK.sub (tys' := [((ck 30), .int)]) [3] rfl
  refine va_callv (va_runS (As := [.ref (rf 30), .int 4]) (rest := []) ⟨hx, hb, hml, hown, htw⟩ (gq_copies4 l dC dI (rf 30) (ck 30) f_feastName H.size) (va_cwS 2 htw (xg_S (ck_11 _ (List.mem_of_getElem? (i := 19) rfl)) (ck_11 _ (List.mem_of_getElem? (i := 20) rfl)) (ck_1 _ (List.mem_of_getElem? (i := 5) rfl)) (ck_11 _ (List.mem_of_getElem? (i := 21) rfl))) rfl rfl rfl (by exact ⟨hdc_14.1, hdc_14.2, hdd_14⟩) ⟨Nat.le_of_ble_eq_true rfl, Nat.le_of_ble_eq_true rfl⟩) ⟨fun a U g mk q => by obtain ⟨q0, q1, qP, qK, qD⟩ := q; exact ⟨q0, q1, qP, va_K.moved (u := U) (U := U.calling g mk a) (Vm.Alike.refl U.vm) qK, qD⟩, fun U hU hW => ⟨rfl, by rw [hU], by rw [hU]; exact hPc, va_K.moved hW.alike hKc, hDc.weaken (fun _ _ _ _ => trivial)⟩⟩ rfl rfl hl.1 rfl (lv_room (Nat.le_of_ble_eq_true rfl)) dX12_keepText_79 ⟨Nat.le_of_ble_eq_true rfl, Nat.le_of_ble_eq_true rfl⟩) hS (fun q _ h => hFc q h) hFc (fun u_11 t H1 locs ht hvm hw hB hz1 hk1 hS => ?_)
  try dsimp only at hw
  obtain ⟨hP1, hK1, hD1⟩ := hB
  rw [ht] at hP1
  have hK1 := va_K.moved hvm.symm hK1
  have hK1 : va_K (dC, dI) vwCl [] s := hK1
  obtain ⟨hP, hD⟩ := va_join (wr := [(mq, .inr (12, mF (upd (upd (upd (upd (upd (upd g 12 (g 18)) 13 (g 19)) 14 (g 20)) 15 (g 21)) 16 (g 22)) 17 (g 23)) gl rf)), (eA0 (rf 31) (ck 31) 8 f_first), (eA0 (rf 32) (ck 32) 8 f_last), (eA0 (rf 33) (ck 33) 12 f_personName), (eA1 (rf 34) (ck 34) 12 f_born), (eA1 (rf 35) (ck 35) 12 f_died), (eA0 (rf 36) (ck 36) 8 f_deedName), (eA1 (rf 37) (ck 37) 8 f_deedOn), (eA0 (rf 38) (ck 38) 24 f_deedHas), (eA0 (rf 39) (ck 39) 12 f_noteName), (eA0 (rf 40) (ck 40) 264 f_noteHas), (eA0 (rf 41) (ck 41) 128 f_knot), (eA0 (rf 42) (ck 42) 128 f_part), (eA0 (rf 43) (ck 43) 128 f_other), (eA0 (rf 24) (ck 24) 14 u_2), (eA0 (rf 28) (ck 28) 8 u_5), (eA0 (rf 29) (ck 29) 24 u_8)]) (w1 := [(eA0 (rf 30) (ck 30) 8 u_11)]) hP hD [1] [0, 2, 3, 4, 5, 6, 7, 8, 9, 10, 11, 12, 13, 14, 15, 16, 17] hCc rfl (by decide +kernel) (by decide +kernel) hk1 hFc hP1 hD1
  generalize H1 = H at hP hS ⊢
  have hP : va_P (dC, dI) vwCl [(mq, .inr (12, mF (upd (upd (upd (upd (upd (upd g 12 (g 18)) 13 (g 19)) 14 (g 20)) 15 (g 21)) 16 (g 22)) 17 (g 23)) gl rf)), (eA0 (rf 31) (ck 31) 8 f_first), (eA0 (rf 32) (ck 32) 8 f_last), (eA0 (rf 33) (ck 33) 12 f_personName), (eA1 (rf 34) (ck 34) 12 f_born), (eA1 (rf 35) (ck 35) 12 f_died), (eA0 (rf 36) (ck 36) 8 f_deedName), (eA1 (rf 37) (ck 37) 8 f_deedOn), (eA0 (rf 38) (ck 38) 24 f_deedHas), (eA0 (rf 39) (ck 39) 12 f_noteName), (eA0 (rf 40) (ck 40) 264 f_noteHas), (eA0 (rf 41) (ck 41) 128 f_knot), (eA0 (rf 42) (ck 42) 128 f_part), (eA0 (rf 43) (ck 43) 128 f_other), (eA0 (rf 24) (ck 24) 14 u_2), (eA0 (rf 28) (ck 28) 8 u_5), (eA0 (rf 29) (ck 29) 24 u_8), (eA0 (rf 30) (ck 30) 8 u_11)] H := hP
  have hD : va_D A [(mq, .inr (12, mF (upd (upd (upd (upd (upd (upd g 12 (g 18)) 13 (g 19)) 14 (g 20)) 15 (g 21)) 16 (g 22)) 17 (g 23)) gl rf)), (eA0 (rf 31) (ck 31) 8 f_first), (eA0 (rf 32) (ck 32) 8 f_last), (eA0 (rf 33) (ck 33) 12 f_personName), (eA1 (rf 34) (ck 34) 12 f_born), (eA1 (rf 35) (ck 35) 12 f_died), (eA0 (rf 36) (ck 36) 8 f_deedName), (eA1 (rf 37) (ck 37) 8 f_deedOn), (eA0 (rf 38) (ck 38) 24 f_deedHas), (eA0 (rf 39) (ck 39) 12 f_noteName), (eA0 (rf 40) (ck 40) 264 f_noteHas), (eA0 (rf 41) (ck 41) 128 f_knot), (eA0 (rf 42) (ck 42) 128 f_part), (eA0 (rf 43) (ck 43) 128 f_other), (eA0 (rf 24) (ck 24) 14 u_2), (eA0 (rf 28) (ck 28) 8 u_5), (eA0 (rf 29) (ck 29) 24 u_8), (eA0 (rf 30) (ck 30) 8 u_11)] := hD
  refine W.widen (k := 0) (n := 0) (by omega) (by omega) ?_
  have hq_u_11 : u_11 = (fq_copies4 f_feastName) := hw
  refine lv_aload_n hx hb dX12_keepText_82 rfl (lv_at hl 0 rfl) ?_
  refine va_get (D := (dC, dI)) (ci := 12) (v := .ref (rf 31)) (C := RX12) (T := TX12) (N := 76) hx hb htw inlX12 hown hK hP 0 rfl rfl 31 (by decide) (htw _ (ck_9 _ (List.mem_of_getElem? (i := 11) rfl))) (fun _ h9 => h9) rfl dX12_keepText_83 ?_
  refine lv_iconst (v := 4) hx hb dX12_keepText_86 (by decide) ?_
  obtain ⟨hPc, hDc, hFc, hCc⟩ := zsub3 (ws' := [(eA0 (rf 31) (ck 31) 8 f_first)]) hP hD hS hA [1] (by decide) rfl
  have hKc := hK.sub (tys' := [((ck 31), .int)]) [4] rfl
  refine va_callv (va_runS (As := [.ref (rf 31), .int 4]) (rest := []) ⟨hx, hb, hml, hown, htw⟩ (gq_copies4 l dC dI (rf 31) (ck 31) f_first H.size) (va_cwS 2 htw (xg_S (ck_11 _ (List.mem_of_getElem? (i := 19) rfl)) (ck_11 _ (List.mem_of_getElem? (i := 20) rfl)) (ck_1 _ (List.mem_of_getElem? (i := 5) rfl)) (ck_11 _ (List.mem_of_getElem? (i := 21) rfl))) rfl rfl rfl (by exact ⟨hdc_14.1, hdc_14.2, hdd_14⟩) ⟨Nat.le_of_ble_eq_true rfl, Nat.le_of_ble_eq_true rfl⟩) ⟨fun a U g mk q => by obtain ⟨q0, q1, qP, qK, qD⟩ := q; exact ⟨q0, q1, qP, va_K.moved (u := U) (U := U.calling g mk a) (Vm.Alike.refl U.vm) qK, qD⟩, fun U hU hW => ⟨rfl, by rw [hU], by rw [hU]; exact hPc, va_K.moved hW.alike hKc, hDc.weaken (fun _ _ _ _ => trivial)⟩⟩ rfl rfl hl.1 rfl (lv_room (Nat.le_of_ble_eq_true rfl)) dX12_keepText_87 ⟨Nat.le_of_ble_eq_true rfl, Nat.le_of_ble_eq_true rfl⟩) hS (fun q _ h => hFc q h) hFc (fun u_14 t H1 locs ht hvm hw hB hz1 hk1 hS => ?_)
  try dsimp only at hw
  obtain ⟨hP1, hK1, hD1⟩ := hB
  rw [ht] at hP1
  have hK1 := va_K.moved hvm.symm hK1
  have hK1 : va_K (dC, dI) vwCl [] s := hK1
  obtain ⟨hP, hD⟩ := va_join (wr := [(mq, .inr (12, mF (upd (upd (upd (upd (upd (upd g 12 (g 18)) 13 (g 19)) 14 (g 20)) 15 (g 21)) 16 (g 22)) 17 (g 23)) gl rf)), (eA0 (rf 32) (ck 32) 8 f_last), (eA0 (rf 33) (ck 33) 12 f_personName), (eA1 (rf 34) (ck 34) 12 f_born), (eA1 (rf 35) (ck 35) 12 f_died), (eA0 (rf 36) (ck 36) 8 f_deedName), (eA1 (rf 37) (ck 37) 8 f_deedOn), (eA0 (rf 38) (ck 38) 24 f_deedHas), (eA0 (rf 39) (ck 39) 12 f_noteName), (eA0 (rf 40) (ck 40) 264 f_noteHas), (eA0 (rf 41) (ck 41) 128 f_knot), (eA0 (rf 42) (ck 42) 128 f_part), (eA0 (rf 43) (ck 43) 128 f_other), (eA0 (rf 24) (ck 24) 14 u_2), (eA0 (rf 28) (ck 28) 8 u_5), (eA0 (rf 29) (ck 29) 24 u_8), (eA0 (rf 30) (ck 30) 8 u_11)]) (w1 := [(eA0 (rf 31) (ck 31) 8 u_14)]) hP hD [1] [0, 2, 3, 4, 5, 6, 7, 8, 9, 10, 11, 12, 13, 14, 15, 16, 17] hCc rfl (by decide +kernel) (by decide +kernel) hk1 hFc hP1 hD1
  generalize H1 = H at hP hS ⊢
  have hP : va_P (dC, dI) vwCl [(mq, .inr (12, mF (upd (upd (upd (upd (upd (upd g 12 (g 18)) 13 (g 19)) 14 (g 20)) 15 (g 21)) 16 (g 22)) 17 (g 23)) gl rf)), (eA0 (rf 32) (ck 32) 8 f_last), (eA0 (rf 33) (ck 33) 12 f_personName), (eA1 (rf 34) (ck 34) 12 f_born), (eA1 (rf 35) (ck 35) 12 f_died), (eA0 (rf 36) (ck 36) 8 f_deedName), (eA1 (rf 37) (ck 37) 8 f_deedOn), (eA0 (rf 38) (ck 38) 24 f_deedHas), (eA0 (rf 39) (ck 39) 12 f_noteName), (eA0 (rf 40) (ck 40) 264 f_noteHas), (eA0 (rf 41) (ck 41) 128 f_knot), (eA0 (rf 42) (ck 42) 128 f_part), (eA0 (rf 43) (ck 43) 128 f_other), (eA0 (rf 24) (ck 24) 14 u_2), (eA0 (rf 28) (ck 28) 8 u_5), (eA0 (rf 29) (ck 29) 24 u_8), (eA0 (rf 30) (ck 30) 8 u_11), (eA0 (rf 31) (ck 31) 8 u_14)] H := hP
  have hD : va_D A [(mq, .inr (12, mF (upd (upd (upd (upd (upd (upd g 12 (g 18)) 13 (g 19)) 14 (g 20)) 15 (g 21)) 16 (g 22)) 17 (g 23)) gl rf)), (eA0 (rf 32) (ck 32) 8 f_last), (eA0 (rf 33) (ck 33) 12 f_personName), (eA1 (rf 34) (ck 34) 12 f_born), (eA1 (rf 35) (ck 35) 12 f_died), (eA0 (rf 36) (ck 36) 8 f_deedName), (eA1 (rf 37) (ck 37) 8 f_deedOn), (eA0 (rf 38) (ck 38) 24 f_deedHas), (eA0 (rf 39) (ck 39) 12 f_noteName), (eA0 (rf 40) (ck 40) 264 f_noteHas), (eA0 (rf 41) (ck 41) 128 f_knot), (eA0 (rf 42) (ck 42) 128 f_part), (eA0 (rf 43) (ck 43) 128 f_other), (eA0 (rf 24) (ck 24) 14 u_2), (eA0 (rf 28) (ck 28) 8 u_5), (eA0 (rf 29) (ck 29) 24 u_8), (eA0 (rf 30) (ck 30) 8 u_11), (eA0 (rf 31) (ck 31) 8 u_14)] := hD
  refine W.widen (k := 0) (n := 0) (by omega) (by omega) ?_
  have hq_u_14 : u_14 = (fq_copies4 f_first) := hw
  refine lv_aload_n hx hb dX12_keepText_90 rfl (lv_at hl 0 rfl) ?_
  refine va_get (D := (dC, dI)) (ci := 12) (v := .ref (rf 32)) (C := RX12) (T := TX12) (N := 76) hx hb htw inlX12 hown hK hP 0 rfl rfl 32 (by decide) (htw _ (ck_9 _ (List.mem_of_getElem? (i := 12) rfl))) (fun _ h9 => h9) rfl dX12_keepText_91 ?_
  refine lv_iconst (v := 4) hx hb dX12_keepText_94 (by decide) ?_
  obtain ⟨hPc, hDc, hFc, hCc⟩ := zsub3 (ws' := [(eA0 (rf 32) (ck 32) 8 f_last)]) hP hD hS hA [1] (by decide) rfl
  have hKc := hK.sub (tys' := [((ck 32), .int)]) [5] rfl
  refine va_callv (va_runS (As := [.ref (rf 32), .int 4]) (rest := []) ⟨hx, hb, hml, hown, htw⟩ (gq_copies4 l dC dI (rf 32) (ck 32) f_last H.size) (va_cwS 2 htw (xg_S (ck_11 _ (List.mem_of_getElem? (i := 19) rfl)) (ck_11 _ (List.mem_of_getElem? (i := 20) rfl)) (ck_1 _ (List.mem_of_getElem? (i := 5) rfl)) (ck_11 _ (List.mem_of_getElem? (i := 21) rfl))) rfl rfl rfl (by exact ⟨hdc_14.1, hdc_14.2, hdd_14⟩) ⟨Nat.le_of_ble_eq_true rfl, Nat.le_of_ble_eq_true rfl⟩) ⟨fun a U g mk q => by obtain ⟨q0, q1, qP, qK, qD⟩ := q; exact ⟨q0, q1, qP, va_K.moved (u := U) (U := U.calling g mk a) (Vm.Alike.refl U.vm) qK, qD⟩, fun U hU hW => ⟨rfl, by rw [hU], by rw [hU]; exact hPc, va_K.moved hW.alike hKc, hDc.weaken (fun _ _ _ _ => trivial)⟩⟩ rfl rfl hl.1 rfl (lv_room (Nat.le_of_ble_eq_true rfl)) dX12_keepText_95 ⟨Nat.le_of_ble_eq_true rfl, Nat.le_of_ble_eq_true rfl⟩) hS (fun q _ h => hFc q h) hFc (fun u_17 t H1 locs ht hvm hw hB hz1 hk1 hS => ?_)
  try dsimp only at hw
  obtain ⟨hP1, hK1, hD1⟩ := hB
  rw [ht] at hP1
  have hK1 := va_K.moved hvm.symm hK1
  have hK1 : va_K (dC, dI) vwCl [] s := hK1
  obtain ⟨hP, hD⟩ := va_join (wr := [(mq, .inr (12, mF (upd (upd (upd (upd (upd (upd g 12 (g 18)) 13 (g 19)) 14 (g 20)) 15 (g 21)) 16 (g 22)) 17 (g 23)) gl rf)), (eA0 (rf 33) (ck 33) 12 f_personName), (eA1 (rf 34) (ck 34) 12 f_born), (eA1 (rf 35) (ck 35) 12 f_died), (eA0 (rf 36) (ck 36) 8 f_deedName), (eA1 (rf 37) (ck 37) 8 f_deedOn), (eA0 (rf 38) (ck 38) 24 f_deedHas), (eA0 (rf 39) (ck 39) 12 f_noteName), (eA0 (rf 40) (ck 40) 264 f_noteHas), (eA0 (rf 41) (ck 41) 128 f_knot), (eA0 (rf 42) (ck 42) 128 f_part), (eA0 (rf 43) (ck 43) 128 f_other), (eA0 (rf 24) (ck 24) 14 u_2), (eA0 (rf 28) (ck 28) 8 u_5), (eA0 (rf 29) (ck 29) 24 u_8), (eA0 (rf 30) (ck 30) 8 u_11), (eA0 (rf 31) (ck 31) 8 u_14)]) (w1 := [(eA0 (rf 32) (ck 32) 8 u_17)]) hP hD [1] [0, 2, 3, 4, 5, 6, 7, 8, 9, 10, 11, 12, 13, 14, 15, 16, 17] hCc rfl (by decide +kernel) (by decide +kernel) hk1 hFc hP1 hD1
  generalize H1 = H at hP hS ⊢
  have hP : va_P (dC, dI) vwCl [(mq, .inr (12, mF (upd (upd (upd (upd (upd (upd g 12 (g 18)) 13 (g 19)) 14 (g 20)) 15 (g 21)) 16 (g 22)) 17 (g 23)) gl rf)), (eA0 (rf 33) (ck 33) 12 f_personName), (eA1 (rf 34) (ck 34) 12 f_born), (eA1 (rf 35) (ck 35) 12 f_died), (eA0 (rf 36) (ck 36) 8 f_deedName), (eA1 (rf 37) (ck 37) 8 f_deedOn), (eA0 (rf 38) (ck 38) 24 f_deedHas), (eA0 (rf 39) (ck 39) 12 f_noteName), (eA0 (rf 40) (ck 40) 264 f_noteHas), (eA0 (rf 41) (ck 41) 128 f_knot), (eA0 (rf 42) (ck 42) 128 f_part), (eA0 (rf 43) (ck 43) 128 f_other), (eA0 (rf 24) (ck 24) 14 u_2), (eA0 (rf 28) (ck 28) 8 u_5), (eA0 (rf 29) (ck 29) 24 u_8), (eA0 (rf 30) (ck 30) 8 u_11), (eA0 (rf 31) (ck 31) 8 u_14), (eA0 (rf 32) (ck 32) 8 u_17)] H := hP
  have hD : va_D A [(mq, .inr (12, mF (upd (upd (upd (upd (upd (upd g 12 (g 18)) 13 (g 19)) 14 (g 20)) 15 (g 21)) 16 (g 22)) 17 (g 23)) gl rf)), (eA0 (rf 33) (ck 33) 12 f_personName), (eA1 (rf 34) (ck 34) 12 f_born), (eA1 (rf 35) (ck 35) 12 f_died), (eA0 (rf 36) (ck 36) 8 f_deedName), (eA1 (rf 37) (ck 37) 8 f_deedOn), (eA0 (rf 38) (ck 38) 24 f_deedHas), (eA0 (rf 39) (ck 39) 12 f_noteName), (eA0 (rf 40) (ck 40) 264 f_noteHas), (eA0 (rf 41) (ck 41) 128 f_knot), (eA0 (rf 42) (ck 42) 128 f_part), (eA0 (rf 43) (ck 43) 128 f_other), (eA0 (rf 24) (ck 24) 14 u_2), (eA0 (rf 28) (ck 28) 8 u_5), (eA0 (rf 29) (ck 29) 24 u_8), (eA0 (rf 30) (ck 30) 8 u_11), (eA0 (rf 31) (ck 31) 8 u_14), (eA0 (rf 32) (ck 32) 8 u_17)] := hD
  refine W.widen (k := 0) (n := 0) (by omega) (by omega) ?_
  have hq_u_17 : u_17 = (fq_copies4 f_last) := hw
  refine lv_aload_n hx hb dX12_keepText_98 rfl (lv_at hl 0 rfl) ?_
  refine va_get (D := (dC, dI)) (ci := 12) (v := .ref (rf 33)) (C := RX12) (T := TX12) (N := 76) hx hb htw inlX12 hown hK hP 0 rfl rfl 33 (by decide) (htw _ (ck_9 _ (List.mem_of_getElem? (i := 13) rfl))) (fun _ h9 => h9) rfl dX12_keepText_99 ?_
  refine lv_bipush (v := 6) hx hb dX12_keepText_102 (by decide) ?_
  obtain ⟨hPc, hDc, hFc, hCc⟩ := zsub3 (ws' := [(eA0 (rf 33) (ck 33) 12 f_personName)]) hP hD hS hA [1] (by decide) rfl
  have hKc := hK.sub (tys' := [((ck 33), .int)]) [6] rfl
  refine va_callv (va_runS (As := [.ref (rf 33), .int 6]) (rest := []) ⟨hx, hb, hml, hown, htw⟩ (gq_copies6 l dC dI (rf 33) (ck 33) f_personName H.size) (va_cwS 2 htw (xg_S (ck_11 _ (List.mem_of_getElem? (i := 19) rfl)) (ck_11 _ (List.mem_of_getElem? (i := 20) rfl)) (ck_1 _ (List.mem_of_getElem? (i := 5) rfl)) (ck_11 _ (List.mem_of_getElem? (i := 21) rfl))) rfl rfl rfl (by exact ⟨hdc_14.1, hdc_14.2, hdd_14⟩) ⟨Nat.le_of_ble_eq_true rfl, Nat.le_of_ble_eq_true rfl⟩) ⟨fun a U g mk q => by obtain ⟨q0, q1, qP, qK, qD⟩ := q; exact ⟨q0, q1, qP, va_K.moved (u := U) (U := U.calling g mk a) (Vm.Alike.refl U.vm) qK, qD⟩, fun U hU hW => ⟨rfl, by rw [hU], by rw [hU]; exact hPc, va_K.moved hW.alike hKc, hDc.weaken (fun _ _ _ _ => trivial)⟩⟩ rfl rfl hl.1 rfl (lv_room (Nat.le_of_ble_eq_true rfl)) dX12_keepText_104 ⟨Nat.le_of_ble_eq_true rfl, Nat.le_of_ble_eq_true rfl⟩) hS (fun q _ h => hFc q h) hFc (fun u_20 t H1 locs ht hvm hw hB hz1 hk1 hS => ?_)
  try dsimp only at hw
  obtain ⟨hP1, hK1, hD1⟩ := hB
  rw [ht] at hP1
  have hK1 := va_K.moved hvm.symm hK1
  have hK1 : va_K (dC, dI) vwCl [] s := hK1
  obtain ⟨hP, hD⟩ := va_join (wr := [(mq, .inr (12, mF (upd (upd (upd (upd (upd (upd g 12 (g 18)) 13 (g 19)) 14 (g 20)) 15 (g 21)) 16 (g 22)) 17 (g 23)) gl rf)), (eA1 (rf 34) (ck 34) 12 f_born), (eA1 (rf 35) (ck 35) 12 f_died), (eA0 (rf 36) (ck 36) 8 f_deedName), (eA1 (rf 37) (ck 37) 8 f_deedOn), (eA0 (rf 38) (ck 38) 24 f_deedHas), (eA0 (rf 39) (ck 39) 12 f_noteName), (eA0 (rf 40) (ck 40) 264 f_noteHas), (eA0 (rf 41) (ck 41) 128 f_knot), (eA0 (rf 42) (ck 42) 128 f_part), (eA0 (rf 43) (ck 43) 128 f_other), (eA0 (rf 24) (ck 24) 14 u_2), (eA0 (rf 28) (ck 28) 8 u_5), (eA0 (rf 29) (ck 29) 24 u_8), (eA0 (rf 30) (ck 30) 8 u_11), (eA0 (rf 31) (ck 31) 8 u_14), (eA0 (rf 32) (ck 32) 8 u_17)]) (w1 := [(eA0 (rf 33) (ck 33) 12 u_20)]) hP hD [1] [0, 2, 3, 4, 5, 6, 7, 8, 9, 10, 11, 12, 13, 14, 15, 16, 17] hCc rfl (by decide +kernel) (by decide +kernel) hk1 hFc hP1 hD1
  generalize H1 = H at hP hS ⊢
  have hP : va_P (dC, dI) vwCl [(mq, .inr (12, mF (upd (upd (upd (upd (upd (upd g 12 (g 18)) 13 (g 19)) 14 (g 20)) 15 (g 21)) 16 (g 22)) 17 (g 23)) gl rf)), (eA1 (rf 34) (ck 34) 12 f_born), (eA1 (rf 35) (ck 35) 12 f_died), (eA0 (rf 36) (ck 36) 8 f_deedName), (eA1 (rf 37) (ck 37) 8 f_deedOn), (eA0 (rf 38) (ck 38) 24 f_deedHas), (eA0 (rf 39) (ck 39) 12 f_noteName), (eA0 (rf 40) (ck 40) 264 f_noteHas), (eA0 (rf 41) (ck 41) 128 f_knot), (eA0 (rf 42) (ck 42) 128 f_part), (eA0 (rf 43) (ck 43) 128 f_other), (eA0 (rf 24) (ck 24) 14 u_2), (eA0 (rf 28) (ck 28) 8 u_5), (eA0 (rf 29) (ck 29) 24 u_8), (eA0 (rf 30) (ck 30) 8 u_11), (eA0 (rf 31) (ck 31) 8 u_14), (eA0 (rf 32) (ck 32) 8 u_17), (eA0 (rf 33) (ck 33) 12 u_20)] H := hP
  have hD : va_D A [(mq, .inr (12, mF (upd (upd (upd (upd (upd (upd g 12 (g 18)) 13 (g 19)) 14 (g 20)) 15 (g 21)) 16 (g 22)) 17 (g 23)) gl rf)), (eA1 (rf 34) (ck 34) 12 f_born), (eA1 (rf 35) (ck 35) 12 f_died), (eA0 (rf 36) (ck 36) 8 f_deedName), (eA1 (rf 37) (ck 37) 8 f_deedOn), (eA0 (rf 38) (ck 38) 24 f_deedHas), (eA0 (rf 39) (ck 39) 12 f_noteName), (eA0 (rf 40) (ck 40) 264 f_noteHas), (eA0 (rf 41) (ck 41) 128 f_knot), (eA0 (rf 42) (ck 42) 128 f_part), (eA0 (rf 43) (ck 43) 128 f_other), (eA0 (rf 24) (ck 24) 14 u_2), (eA0 (rf 28) (ck 28) 8 u_5), (eA0 (rf 29) (ck 29) 24 u_8), (eA0 (rf 30) (ck 30) 8 u_11), (eA0 (rf 31) (ck 31) 8 u_14), (eA0 (rf 32) (ck 32) 8 u_17), (eA0 (rf 33) (ck 33) 12 u_20)] := hD
  refine W.widen (k := 0) (n := 0) (by omega) (by omega) ?_
  have hq_u_20 : u_20 = (fq_copies6 f_personName) := hw
  refine lv_aload_n hx hb dX12_keepText_107 rfl (lv_at hl 0 rfl) ?_
  refine va_get (D := (dC, dI)) (ci := 12) (v := .ref (rf 34)) (C := RX12) (T := TX12) (N := 76) hx hb htw inlX12 hown hK hP 0 rfl rfl 34 (by decide) (htw _ (ck_9 _ (List.mem_of_getElem? (i := 14) rfl))) (fun _ h9 => h9) rfl dX12_keepText_108 ?_
  refine lv_bipush (v := 6) hx hb dX12_keepText_111 (by decide) ?_
  obtain ⟨hPc, hDc, hFc, hCc⟩ := zsub3 (ws' := [(eA1 (rf 34) (ck 34) 12 f_born)]) hP hD hS hA [1] (by decide) rfl
  have hKc := hK.sub (tys' := [((ck 34), .long)]) [7] rfl
  refine va_callv (va_runS (As := [.ref (rf 34), .int 6]) (rest := []) ⟨hx, hb, hml, hown, htw⟩ (gq_copiesLong6 l dC dI (rf 34) (ck 34) f_born H.size) (va_cwS 2 htw (xg_S (ck_11 _ (List.mem_of_getElem? (i := 22) rfl)) (ck_11 _ (List.mem_of_getElem? (i := 23) rfl)) (ck_1 _ (List.mem_of_getElem? (i := 5) rfl)) (ck_12 _ (List.mem_of_getElem? (i := 0) rfl))) rfl rfl rfl (by exact ⟨hdc_14.1, hdc_14.2, hdd_40⟩) ⟨Nat.le_of_ble_eq_true rfl, Nat.le_of_ble_eq_true rfl⟩) ⟨fun a U g mk q => by obtain ⟨q0, q1, qP, qK, qD⟩ := q; exact ⟨q0, q1, qP, va_K.moved (u := U) (U := U.calling g mk a) (Vm.Alike.refl U.vm) qK, qD⟩, fun U hU hW => ⟨rfl, by rw [hU], by rw [hU]; exact hPc, va_K.moved hW.alike hKc, hDc.weaken (fun _ _ _ _ => trivial)⟩⟩ rfl rfl hl.1 rfl (lv_room (Nat.le_of_ble_eq_true rfl)) dX12_keepText_113 ⟨Nat.le_of_ble_eq_true rfl, Nat.le_of_ble_eq_true rfl⟩) hS (fun q _ h => hFc q h) hFc (fun u_23 t H1 locs ht hvm hw hB hz1 hk1 hS => ?_)
  try dsimp only at hw
  obtain ⟨hP1, hK1, hD1⟩ := hB
  rw [ht] at hP1
  have hK1 := va_K.moved hvm.symm hK1
  have hK1 : va_K (dC, dI) vwCl [] s := hK1
  obtain ⟨hP, hD⟩ := va_join (wr := [(mq, .inr (12, mF (upd (upd (upd (upd (upd (upd g 12 (g 18)) 13 (g 19)) 14 (g 20)) 15 (g 21)) 16 (g 22)) 17 (g 23)) gl rf)), (eA1 (rf 35) (ck 35) 12 f_died), (eA0 (rf 36) (ck 36) 8 f_deedName), (eA1 (rf 37) (ck 37) 8 f_deedOn), (eA0 (rf 38) (ck 38) 24 f_deedHas), (eA0 (rf 39) (ck 39) 12 f_noteName), (eA0 (rf 40) (ck 40) 264 f_noteHas), (eA0 (rf 41) (ck 41) 128 f_knot), (eA0 (rf 42) (ck 42) 128 f_part), (eA0 (rf 43) (ck 43) 128 f_other), (eA0 (rf 24) (ck 24) 14 u_2), (eA0 (rf 28) (ck 28) 8 u_5), (eA0 (rf 29) (ck 29) 24 u_8), (eA0 (rf 30) (ck 30) 8 u_11), (eA0 (rf 31) (ck 31) 8 u_14), (eA0 (rf 32) (ck 32) 8 u_17), (eA0 (rf 33) (ck 33) 12 u_20)]) (w1 := [(eA1 (rf 34) (ck 34) 12 u_23)]) hP hD [1] [0, 2, 3, 4, 5, 6, 7, 8, 9, 10, 11, 12, 13, 14, 15, 16, 17] hCc rfl (by decide +kernel) (by decide +kernel) hk1 hFc hP1 hD1
  generalize H1 = H at hP hS ⊢
  have hP : va_P (dC, dI) vwCl [(mq, .inr (12, mF (upd (upd (upd (upd (upd (upd g 12 (g 18)) 13 (g 19)) 14 (g 20)) 15 (g 21)) 16 (g 22)) 17 (g 23)) gl rf)), (eA1 (rf 35) (ck 35) 12 f_died), (eA0 (rf 36) (ck 36) 8 f_deedName), (eA1 (rf 37) (ck 37) 8 f_deedOn), (eA0 (rf 38) (ck 38) 24 f_deedHas), (eA0 (rf 39) (ck 39) 12 f_noteName), (eA0 (rf 40) (ck 40) 264 f_noteHas), (eA0 (rf 41) (ck 41) 128 f_knot), (eA0 (rf 42) (ck 42) 128 f_part), (eA0 (rf 43) (ck 43) 128 f_other), (eA0 (rf 24) (ck 24) 14 u_2), (eA0 (rf 28) (ck 28) 8 u_5), (eA0 (rf 29) (ck 29) 24 u_8), (eA0 (rf 30) (ck 30) 8 u_11), (eA0 (rf 31) (ck 31) 8 u_14), (eA0 (rf 32) (ck 32) 8 u_17), (eA0 (rf 33) (ck 33) 12 u_20), (eA1 (rf 34) (ck 34) 12 u_23)] H := hP
  have hD : va_D A [(mq, .inr (12, mF (upd (upd (upd (upd (upd (upd g 12 (g 18)) 13 (g 19)) 14 (g 20)) 15 (g 21)) 16 (g 22)) 17 (g 23)) gl rf)), (eA1 (rf 35) (ck 35) 12 f_died), (eA0 (rf 36) (ck 36) 8 f_deedName), (eA1 (rf 37) (ck 37) 8 f_deedOn), (eA0 (rf 38) (ck 38) 24 f_deedHas), (eA0 (rf 39) (ck 39) 12 f_noteName), (eA0 (rf 40) (ck 40) 264 f_noteHas), (eA0 (rf 41) (ck 41) 128 f_knot), (eA0 (rf 42) (ck 42) 128 f_part), (eA0 (rf 43) (ck 43) 128 f_other), (eA0 (rf 24) (ck 24) 14 u_2), (eA0 (rf 28) (ck 28) 8 u_5), (eA0 (rf 29) (ck 29) 24 u_8), (eA0 (rf 30) (ck 30) 8 u_11), (eA0 (rf 31) (ck 31) 8 u_14), (eA0 (rf 32) (ck 32) 8 u_17), (eA0 (rf 33) (ck 33) 12 u_20), (eA1 (rf 34) (ck 34) 12 u_23)] := hD
  refine W.widen (k := 0) (n := 0) (by omega) (by omega) ?_
  have hq_u_23 : u_23 = (fq_copiesLong6 f_born) := hw
  refine lv_aload_n hx hb dX12_keepText_116 rfl (lv_at hl 0 rfl) ?_
  refine va_get (D := (dC, dI)) (ci := 12) (v := .ref (rf 35)) (C := RX12) (T := TX12) (N := 76) hx hb htw inlX12 hown hK hP 0 rfl rfl 35 (by decide) (htw _ (ck_9 _ (List.mem_of_getElem? (i := 15) rfl))) (fun _ h9 => h9) rfl dX12_keepText_117 ?_
  refine lv_bipush (v := 6) hx hb dX12_keepText_120 (by decide) ?_
  obtain ⟨hPc, hDc, hFc, hCc⟩ := zsub3 (ws' := [(eA1 (rf 35) (ck 35) 12 f_died)]) hP hD hS hA [1] (by decide) rfl
  have hKc := hK.sub (tys' := [((ck 35), .long)]) [8] rfl
  refine va_callv (va_runS (As := [.ref (rf 35), .int 6]) (rest := []) ⟨hx, hb, hml, hown, htw⟩ (gq_copiesLong6 l dC dI (rf 35) (ck 35) f_died H.size) (va_cwS 2 htw (xg_S (ck_11 _ (List.mem_of_getElem? (i := 22) rfl)) (ck_11 _ (List.mem_of_getElem? (i := 23) rfl)) (ck_1 _ (List.mem_of_getElem? (i := 5) rfl)) (ck_12 _ (List.mem_of_getElem? (i := 0) rfl))) rfl rfl rfl (by exact ⟨hdc_14.1, hdc_14.2, hdd_40⟩) ⟨Nat.le_of_ble_eq_true rfl, Nat.le_of_ble_eq_true rfl⟩) ⟨fun a U g mk q => by obtain ⟨q0, q1, qP, qK, qD⟩ := q; exact ⟨q0, q1, qP, va_K.moved (u := U) (U := U.calling g mk a) (Vm.Alike.refl U.vm) qK, qD⟩, fun U hU hW => ⟨rfl, by rw [hU], by rw [hU]; exact hPc, va_K.moved hW.alike hKc, hDc.weaken (fun _ _ _ _ => trivial)⟩⟩ rfl rfl hl.1 rfl (lv_room (Nat.le_of_ble_eq_true rfl)) dX12_keepText_122 ⟨Nat.le_of_ble_eq_true rfl, Nat.le_of_ble_eq_true rfl⟩) hS (fun q _ h => hFc q h) hFc (fun u_26 t H1 locs ht hvm hw hB hz1 hk1 hS => ?_)
  try dsimp only at hw
  obtain ⟨hP1, hK1, hD1⟩ := hB
  rw [ht] at hP1
  have hK1 := va_K.moved hvm.symm hK1
  have hK1 : va_K (dC, dI) vwCl [] s := hK1
  obtain ⟨hP, hD⟩ := va_join (wr := [(mq, .inr (12, mF (upd (upd (upd (upd (upd (upd g 12 (g 18)) 13 (g 19)) 14 (g 20)) 15 (g 21)) 16 (g 22)) 17 (g 23)) gl rf)), (eA0 (rf 36) (ck 36) 8 f_deedName), (eA1 (rf 37) (ck 37) 8 f_deedOn), (eA0 (rf 38) (ck 38) 24 f_deedHas), (eA0 (rf 39) (ck 39) 12 f_noteName), (eA0 (rf 40) (ck 40) 264 f_noteHas), (eA0 (rf 41) (ck 41) 128 f_knot), (eA0 (rf 42) (ck 42) 128 f_part), (eA0 (rf 43) (ck 43) 128 f_other), (eA0 (rf 24) (ck 24) 14 u_2), (eA0 (rf 28) (ck 28) 8 u_5), (eA0 (rf 29) (ck 29) 24 u_8), (eA0 (rf 30) (ck 30) 8 u_11), (eA0 (rf 31) (ck 31) 8 u_14), (eA0 (rf 32) (ck 32) 8 u_17), (eA0 (rf 33) (ck 33) 12 u_20), (eA1 (rf 34) (ck 34) 12 u_23)]) (w1 := [(eA1 (rf 35) (ck 35) 12 u_26)]) hP hD [1] [0, 2, 3, 4, 5, 6, 7, 8, 9, 10, 11, 12, 13, 14, 15, 16, 17] hCc rfl (by decide +kernel) (by decide +kernel) hk1 hFc hP1 hD1
  generalize H1 = H at hP hS ⊢
  have hP : va_P (dC, dI) vwCl [(mq, .inr (12, mF (upd (upd (upd (upd (upd (upd g 12 (g 18)) 13 (g 19)) 14 (g 20)) 15 (g 21)) 16 (g 22)) 17 (g 23)) gl rf)), (eA0 (rf 36) (ck 36) 8 f_deedName), (eA1 (rf 37) (ck 37) 8 f_deedOn), (eA0 (rf 38) (ck 38) 24 f_deedHas), (eA0 (rf 39) (ck 39) 12 f_noteName), (eA0 (rf 40) (ck 40) 264 f_noteHas), (eA0 (rf 41) (ck 41) 128 f_knot), (eA0 (rf 42) (ck 42) 128 f_part), (eA0 (rf 43) (ck 43) 128 f_other), (eA0 (rf 24) (ck 24) 14 u_2), (eA0 (rf 28) (ck 28) 8 u_5), (eA0 (rf 29) (ck 29) 24 u_8), (eA0 (rf 30) (ck 30) 8 u_11), (eA0 (rf 31) (ck 31) 8 u_14), (eA0 (rf 32) (ck 32) 8 u_17), (eA0 (rf 33) (ck 33) 12 u_20), (eA1 (rf 34) (ck 34) 12 u_23), (eA1 (rf 35) (ck 35) 12 u_26)] H := hP
  have hD : va_D A [(mq, .inr (12, mF (upd (upd (upd (upd (upd (upd g 12 (g 18)) 13 (g 19)) 14 (g 20)) 15 (g 21)) 16 (g 22)) 17 (g 23)) gl rf)), (eA0 (rf 36) (ck 36) 8 f_deedName), (eA1 (rf 37) (ck 37) 8 f_deedOn), (eA0 (rf 38) (ck 38) 24 f_deedHas), (eA0 (rf 39) (ck 39) 12 f_noteName), (eA0 (rf 40) (ck 40) 264 f_noteHas), (eA0 (rf 41) (ck 41) 128 f_knot), (eA0 (rf 42) (ck 42) 128 f_part), (eA0 (rf 43) (ck 43) 128 f_other), (eA0 (rf 24) (ck 24) 14 u_2), (eA0 (rf 28) (ck 28) 8 u_5), (eA0 (rf 29) (ck 29) 24 u_8), (eA0 (rf 30) (ck 30) 8 u_11), (eA0 (rf 31) (ck 31) 8 u_14), (eA0 (rf 32) (ck 32) 8 u_17), (eA0 (rf 33) (ck 33) 12 u_20), (eA1 (rf 34) (ck 34) 12 u_23), (eA1 (rf 35) (ck 35) 12 u_26)] := hD
  refine W.widen (k := 0) (n := 0) (by omega) (by omega) ?_
  have hq_u_26 : u_26 = (fq_copiesLong6 f_died) := hw
  refine lv_aload_n hx hb dX12_keepText_125 rfl (lv_at hl 0 rfl) ?_
  refine va_get (D := (dC, dI)) (ci := 12) (v := .ref (rf 36)) (C := RX12) (T := TX12) (N := 76) hx hb htw inlX12 hown hK hP 0 rfl rfl 36 (by decide) (htw _ (ck_9 _ (List.mem_of_getElem? (i := 16) rfl))) (fun _ h9 => h9) rfl dX12_keepText_126 ?_
  refine lv_iconst (v := 4) hx hb dX12_keepText_129 (by decide) ?_
  obtain ⟨hPc, hDc, hFc, hCc⟩ := zsub3 (ws' := [(eA0 (rf 36) (ck 36) 8 f_deedName)]) hP hD hS hA [1] (by decide) rfl
  have hKc := hK.sub (tys' := [((ck 36), .int)]) [9] rfl
  refine va_callv (va_runS (As := [.ref (rf 36), .int 4]) (rest := []) ⟨hx, hb, hml, hown, htw⟩ (gq_copies4 l dC dI (rf 36) (ck 36) f_deedName H.size) (va_cwS 2 htw (xg_S (ck_11 _ (List.mem_of_getElem? (i := 19) rfl)) (ck_11 _ (List.mem_of_getElem? (i := 20) rfl)) (ck_1 _ (List.mem_of_getElem? (i := 5) rfl)) (ck_11 _ (List.mem_of_getElem? (i := 21) rfl))) rfl rfl rfl (by exact ⟨hdc_14.1, hdc_14.2, hdd_14⟩) ⟨Nat.le_of_ble_eq_true rfl, Nat.le_of_ble_eq_true rfl⟩) ⟨fun a U g mk q => by obtain ⟨q0, q1, qP, qK, qD⟩ := q; exact ⟨q0, q1, qP, va_K.moved (u := U) (U := U.calling g mk a) (Vm.Alike.refl U.vm) qK, qD⟩, fun U hU hW => ⟨rfl, by rw [hU], by rw [hU]; exact hPc, va_K.moved hW.alike hKc, hDc.weaken (fun _ _ _ _ => trivial)⟩⟩ rfl rfl hl.1 rfl (lv_room (Nat.le_of_ble_eq_true rfl)) dX12_keepText_130 ⟨Nat.le_of_ble_eq_true rfl, Nat.le_of_ble_eq_true rfl⟩) hS (fun q _ h => hFc q h) hFc (fun u_29 t H1 locs ht hvm hw hB hz1 hk1 hS => ?_)
  try dsimp only at hw
  obtain ⟨hP1, hK1, hD1⟩ := hB
  rw [ht] at hP1
  have hK1 := va_K.moved hvm.symm hK1
  have hK1 : va_K (dC, dI) vwCl [] s := hK1
  obtain ⟨hP, hD⟩ := va_join (wr := [(mq, .inr (12, mF (upd (upd (upd (upd (upd (upd g 12 (g 18)) 13 (g 19)) 14 (g 20)) 15 (g 21)) 16 (g 22)) 17 (g 23)) gl rf)), (eA1 (rf 37) (ck 37) 8 f_deedOn), (eA0 (rf 38) (ck 38) 24 f_deedHas), (eA0 (rf 39) (ck 39) 12 f_noteName), (eA0 (rf 40) (ck 40) 264 f_noteHas), (eA0 (rf 41) (ck 41) 128 f_knot), (eA0 (rf 42) (ck 42) 128 f_part), (eA0 (rf 43) (ck 43) 128 f_other), (eA0 (rf 24) (ck 24) 14 u_2), (eA0 (rf 28) (ck 28) 8 u_5), (eA0 (rf 29) (ck 29) 24 u_8), (eA0 (rf 30) (ck 30) 8 u_11), (eA0 (rf 31) (ck 31) 8 u_14), (eA0 (rf 32) (ck 32) 8 u_17), (eA0 (rf 33) (ck 33) 12 u_20), (eA1 (rf 34) (ck 34) 12 u_23), (eA1 (rf 35) (ck 35) 12 u_26)]) (w1 := [(eA0 (rf 36) (ck 36) 8 u_29)]) hP hD [1] [0, 2, 3, 4, 5, 6, 7, 8, 9, 10, 11, 12, 13, 14, 15, 16, 17] hCc rfl (by decide +kernel) (by decide +kernel) hk1 hFc hP1 hD1
  generalize H1 = H at hP hS ⊢
  have hP : va_P (dC, dI) vwCl [(mq, .inr (12, mF (upd (upd (upd (upd (upd (upd g 12 (g 18)) 13 (g 19)) 14 (g 20)) 15 (g 21)) 16 (g 22)) 17 (g 23)) gl rf)), (eA1 (rf 37) (ck 37) 8 f_deedOn), (eA0 (rf 38) (ck 38) 24 f_deedHas), (eA0 (rf 39) (ck 39) 12 f_noteName), (eA0 (rf 40) (ck 40) 264 f_noteHas), (eA0 (rf 41) (ck 41) 128 f_knot), (eA0 (rf 42) (ck 42) 128 f_part), (eA0 (rf 43) (ck 43) 128 f_other), (eA0 (rf 24) (ck 24) 14 u_2), (eA0 (rf 28) (ck 28) 8 u_5), (eA0 (rf 29) (ck 29) 24 u_8), (eA0 (rf 30) (ck 30) 8 u_11), (eA0 (rf 31) (ck 31) 8 u_14), (eA0 (rf 32) (ck 32) 8 u_17), (eA0 (rf 33) (ck 33) 12 u_20), (eA1 (rf 34) (ck 34) 12 u_23), (eA1 (rf 35) (ck 35) 12 u_26), (eA0 (rf 36) (ck 36) 8 u_29)] H := hP
  have hD : va_D A [(mq, .inr (12, mF (upd (upd (upd (upd (upd (upd g 12 (g 18)) 13 (g 19)) 14 (g 20)) 15 (g 21)) 16 (g 22)) 17 (g 23)) gl rf)), (eA1 (rf 37) (ck 37) 8 f_deedOn), (eA0 (rf 38) (ck 38) 24 f_deedHas), (eA0 (rf 39) (ck 39) 12 f_noteName), (eA0 (rf 40) (ck 40) 264 f_noteHas), (eA0 (rf 41) (ck 41) 128 f_knot), (eA0 (rf 42) (ck 42) 128 f_part), (eA0 (rf 43) (ck 43) 128 f_other), (eA0 (rf 24) (ck 24) 14 u_2), (eA0 (rf 28) (ck 28) 8 u_5), (eA0 (rf 29) (ck 29) 24 u_8), (eA0 (rf 30) (ck 30) 8 u_11), (eA0 (rf 31) (ck 31) 8 u_14), (eA0 (rf 32) (ck 32) 8 u_17), (eA0 (rf 33) (ck 33) 12 u_20), (eA1 (rf 34) (ck 34) 12 u_23), (eA1 (rf 35) (ck 35) 12 u_26), (eA0 (rf 36) (ck 36) 8 u_29)] := hD
  refine W.widen (k := 0) (n := 0) (by omega) (by omega) ?_
  have hq_u_29 : u_29 = (fq_copies4 f_deedName) := hw
  refine lv_aload_n hx hb dX12_keepText_133 rfl (lv_at hl 0 rfl) ?_
  refine va_get (D := (dC, dI)) (ci := 12) (v := .ref (rf 37)) (C := RX12) (T := TX12) (N := 76) hx hb htw inlX12 hown hK hP 0 rfl rfl 37 (by decide) (htw _ (ck_9 _ (List.mem_of_getElem? (i := 17) rfl))) (fun _ h9 => h9) rfl dX12_keepText_134 ?_
  refine lv_iconst (v := 4) hx hb dX12_keepText_137 (by decide) ?_
  obtain ⟨hPc, hDc, hFc, hCc⟩ := zsub3 (ws' := [(eA1 (rf 37) (ck 37) 8 f_deedOn)]) hP hD hS hA [1] (by decide) rfl
  have hKc := hK.sub (tys' := [((ck 37), .long)]) [10] rfl
  refine va_callv (va_runS (As := [.ref (rf 37), .int 4]) (rest := []) ⟨hx, hb, hml, hown, htw⟩ (gq_copiesLong4 l dC dI (rf 37) (ck 37) f_deedOn H.size) (va_cwS 2 htw (xg_S (ck_11 _ (List.mem_of_getElem? (i := 22) rfl)) (ck_11 _ (List.mem_of_getElem? (i := 23) rfl)) (ck_1 _ (List.mem_of_getElem? (i := 5) rfl)) (ck_12 _ (List.mem_of_getElem? (i := 0) rfl))) rfl rfl rfl (by exact ⟨hdc_14.1, hdc_14.2, hdd_40⟩) ⟨Nat.le_of_ble_eq_true rfl, Nat.le_of_ble_eq_true rfl⟩) ⟨fun a U g mk q => by obtain ⟨q0, q1, qP, qK, qD⟩ := q; exact ⟨q0, q1, qP, va_K.moved (u := U) (U := U.calling g mk a) (Vm.Alike.refl U.vm) qK, qD⟩, fun U hU hW => ⟨rfl, by rw [hU], by rw [hU]; exact hPc, va_K.moved hW.alike hKc, hDc.weaken (fun _ _ _ _ => trivial)⟩⟩ rfl rfl hl.1 rfl (lv_room (Nat.le_of_ble_eq_true rfl)) dX12_keepText_138 ⟨Nat.le_of_ble_eq_true rfl, Nat.le_of_ble_eq_true rfl⟩) hS (fun q _ h => hFc q h) hFc (fun u_32 t H1 locs ht hvm hw hB hz1 hk1 hS => ?_)
  try dsimp only at hw
  obtain ⟨hP1, hK1, hD1⟩ := hB
  rw [ht] at hP1
  have hK1 := va_K.moved hvm.symm hK1
  have hK1 : va_K (dC, dI) vwCl [] s := hK1
  obtain ⟨hP, hD⟩ := va_join (wr := [(mq, .inr (12, mF (upd (upd (upd (upd (upd (upd g 12 (g 18)) 13 (g 19)) 14 (g 20)) 15 (g 21)) 16 (g 22)) 17 (g 23)) gl rf)), (eA0 (rf 38) (ck 38) 24 f_deedHas), (eA0 (rf 39) (ck 39) 12 f_noteName), (eA0 (rf 40) (ck 40) 264 f_noteHas), (eA0 (rf 41) (ck 41) 128 f_knot), (eA0 (rf 42) (ck 42) 128 f_part), (eA0 (rf 43) (ck 43) 128 f_other), (eA0 (rf 24) (ck 24) 14 u_2), (eA0 (rf 28) (ck 28) 8 u_5), (eA0 (rf 29) (ck 29) 24 u_8), (eA0 (rf 30) (ck 30) 8 u_11), (eA0 (rf 31) (ck 31) 8 u_14), (eA0 (rf 32) (ck 32) 8 u_17), (eA0 (rf 33) (ck 33) 12 u_20), (eA1 (rf 34) (ck 34) 12 u_23), (eA1 (rf 35) (ck 35) 12 u_26), (eA0 (rf 36) (ck 36) 8 u_29)]) (w1 := [(eA1 (rf 37) (ck 37) 8 u_32)]) hP hD [1] [0, 2, 3, 4, 5, 6, 7, 8, 9, 10, 11, 12, 13, 14, 15, 16, 17] hCc rfl (by decide +kernel) (by decide +kernel) hk1 hFc hP1 hD1
  generalize H1 = H at hP hS ⊢
  have hP : va_P (dC, dI) vwCl [(mq, .inr (12, mF (upd (upd (upd (upd (upd (upd g 12 (g 18)) 13 (g 19)) 14 (g 20)) 15 (g 21)) 16 (g 22)) 17 (g 23)) gl rf)), (eA0 (rf 38) (ck 38) 24 f_deedHas), (eA0 (rf 39) (ck 39) 12 f_noteName), (eA0 (rf 40) (ck 40) 264 f_noteHas), (eA0 (rf 41) (ck 41) 128 f_knot), (eA0 (rf 42) (ck 42) 128 f_part), (eA0 (rf 43) (ck 43) 128 f_other), (eA0 (rf 24) (ck 24) 14 u_2), (eA0 (rf 28) (ck 28) 8 u_5), (eA0 (rf 29) (ck 29) 24 u_8), (eA0 (rf 30) (ck 30) 8 u_11), (eA0 (rf 31) (ck 31) 8 u_14), (eA0 (rf 32) (ck 32) 8 u_17), (eA0 (rf 33) (ck 33) 12 u_20), (eA1 (rf 34) (ck 34) 12 u_23), (eA1 (rf 35) (ck 35) 12 u_26), (eA0 (rf 36) (ck 36) 8 u_29), (eA1 (rf 37) (ck 37) 8 u_32)] H := hP
  have hD : va_D A [(mq, .inr (12, mF (upd (upd (upd (upd (upd (upd g 12 (g 18)) 13 (g 19)) 14 (g 20)) 15 (g 21)) 16 (g 22)) 17 (g 23)) gl rf)), (eA0 (rf 38) (ck 38) 24 f_deedHas), (eA0 (rf 39) (ck 39) 12 f_noteName), (eA0 (rf 40) (ck 40) 264 f_noteHas), (eA0 (rf 41) (ck 41) 128 f_knot), (eA0 (rf 42) (ck 42) 128 f_part), (eA0 (rf 43) (ck 43) 128 f_other), (eA0 (rf 24) (ck 24) 14 u_2), (eA0 (rf 28) (ck 28) 8 u_5), (eA0 (rf 29) (ck 29) 24 u_8), (eA0 (rf 30) (ck 30) 8 u_11), (eA0 (rf 31) (ck 31) 8 u_14), (eA0 (rf 32) (ck 32) 8 u_17), (eA0 (rf 33) (ck 33) 12 u_20), (eA1 (rf 34) (ck 34) 12 u_23), (eA1 (rf 35) (ck 35) 12 u_26), (eA0 (rf 36) (ck 36) 8 u_29), (eA1 (rf 37) (ck 37) 8 u_32)] := hD
  refine W.widen (k := 0) (n := 0) (by omega) (by omega) ?_
  have hq_u_32 : u_32 = (fq_copiesLong4 f_deedOn) := hw
  refine lv_aload_n hx hb dX12_keepText_141 rfl (lv_at hl 0 rfl) ?_
  refine va_get (D := (dC, dI)) (ci := 12) (v := .ref (rf 38)) (C := RX12) (T := TX12) (N := 76) hx hb htw inlX12 hown hK hP 0 rfl rfl 38 (by decide) (htw _ (ck_9 _ (List.mem_of_getElem? (i := 18) rfl))) (fun _ h9 => h9) rfl dX12_keepText_142 ?_
  refine lv_bipush (v := 12) hx hb dX12_keepText_145 (by decide) ?_
  obtain ⟨hPc, hDc, hFc, hCc⟩ := zsub3 (ws' := [(eA0 (rf 38) (ck 38) 24 f_deedHas)]) hP hD hS hA [1] (by decide) rfl
  have hKc := hK.sub (tys' := [((ck 38), .int)]) [11] rfl
  refine va_callv (va_runS (As := [.ref (rf 38), .int 12]) (rest := []) ⟨hx, hb, hml, hown, htw⟩ (gq_copies12 l dC dI (rf 38) (ck 38) f_deedHas H.size) (va_cwS 2 htw (xg_S (ck_11 _ (List.mem_of_getElem? (i := 19) rfl)) (ck_11 _ (List.mem_of_getElem? (i := 20) rfl)) (ck_1 _ (List.mem_of_getElem? (i := 5) rfl)) (ck_11 _ (List.mem_of_getElem? (i := 21) rfl))) rfl rfl rfl (by exact ⟨hdc_14.1, hdc_14.2, hdd_14⟩) ⟨Nat.le_of_ble_eq_true rfl, Nat.le_of_ble_eq_true rfl⟩) ⟨fun a U g mk q => by obtain ⟨q0, q1, qP, qK, qD⟩ := q; exact ⟨q0, q1, qP, va_K.moved (u := U) (U := U.calling g mk a) (Vm.Alike.refl U.vm) qK, qD⟩, fun U hU hW => ⟨rfl, by rw [hU], by rw [hU]; exact hPc, va_K.moved hW.alike hKc, hDc.weaken (fun _ _ _ _ => trivial)⟩⟩ rfl rfl hl.1 rfl (lv_room (Nat.le_of_ble_eq_true rfl)) dX12_keepText_147 ⟨Nat.le_of_ble_eq_true rfl, Nat.le_of_ble_eq_true rfl⟩) hS (fun q _ h => hFc q h) hFc (fun u_35 t H1 locs ht hvm hw hB hz1 hk1 hS => ?_)
  try dsimp only at hw
  obtain ⟨hP1, hK1, hD1⟩ := hB
  rw [ht] at hP1
  have hK1 := va_K.moved hvm.symm hK1
  have hK1 : va_K (dC, dI) vwCl [] s := hK1
  obtain ⟨hP, hD⟩ := va_join (wr := [(mq, .inr (12, mF (upd (upd (upd (upd (upd (upd g 12 (g 18)) 13 (g 19)) 14 (g 20)) 15 (g 21)) 16 (g 22)) 17 (g 23)) gl rf)), (eA0 (rf 39) (ck 39) 12 f_noteName), (eA0 (rf 40) (ck 40) 264 f_noteHas), (eA0 (rf 41) (ck 41) 128 f_knot), (eA0 (rf 42) (ck 42) 128 f_part), (eA0 (rf 43) (ck 43) 128 f_other), (eA0 (rf 24) (ck 24) 14 u_2), (eA0 (rf 28) (ck 28) 8 u_5), (eA0 (rf 29) (ck 29) 24 u_8), (eA0 (rf 30) (ck 30) 8 u_11), (eA0 (rf 31) (ck 31) 8 u_14), (eA0 (rf 32) (ck 32) 8 u_17), (eA0 (rf 33) (ck 33) 12 u_20), (eA1 (rf 34) (ck 34) 12 u_23), (eA1 (rf 35) (ck 35) 12 u_26), (eA0 (rf 36) (ck 36) 8 u_29), (eA1 (rf 37) (ck 37) 8 u_32)]) (w1 := [(eA0 (rf 38) (ck 38) 24 u_35)]) hP hD [1] [0, 2, 3, 4, 5, 6, 7, 8, 9, 10, 11, 12, 13, 14, 15, 16, 17] hCc rfl (by decide +kernel) (by decide +kernel) hk1 hFc hP1 hD1
  generalize H1 = H at hP hS ⊢
  have hP : va_P (dC, dI) vwCl [(mq, .inr (12, mF (upd (upd (upd (upd (upd (upd g 12 (g 18)) 13 (g 19)) 14 (g 20)) 15 (g 21)) 16 (g 22)) 17 (g 23)) gl rf)), (eA0 (rf 39) (ck 39) 12 f_noteName), (eA0 (rf 40) (ck 40) 264 f_noteHas), (eA0 (rf 41) (ck 41) 128 f_knot), (eA0 (rf 42) (ck 42) 128 f_part), (eA0 (rf 43) (ck 43) 128 f_other), (eA0 (rf 24) (ck 24) 14 u_2), (eA0 (rf 28) (ck 28) 8 u_5), (eA0 (rf 29) (ck 29) 24 u_8), (eA0 (rf 30) (ck 30) 8 u_11), (eA0 (rf 31) (ck 31) 8 u_14), (eA0 (rf 32) (ck 32) 8 u_17), (eA0 (rf 33) (ck 33) 12 u_20), (eA1 (rf 34) (ck 34) 12 u_23), (eA1 (rf 35) (ck 35) 12 u_26), (eA0 (rf 36) (ck 36) 8 u_29), (eA1 (rf 37) (ck 37) 8 u_32), (eA0 (rf 38) (ck 38) 24 u_35)] H := hP
  have hD : va_D A [(mq, .inr (12, mF (upd (upd (upd (upd (upd (upd g 12 (g 18)) 13 (g 19)) 14 (g 20)) 15 (g 21)) 16 (g 22)) 17 (g 23)) gl rf)), (eA0 (rf 39) (ck 39) 12 f_noteName), (eA0 (rf 40) (ck 40) 264 f_noteHas), (eA0 (rf 41) (ck 41) 128 f_knot), (eA0 (rf 42) (ck 42) 128 f_part), (eA0 (rf 43) (ck 43) 128 f_other), (eA0 (rf 24) (ck 24) 14 u_2), (eA0 (rf 28) (ck 28) 8 u_5), (eA0 (rf 29) (ck 29) 24 u_8), (eA0 (rf 30) (ck 30) 8 u_11), (eA0 (rf 31) (ck 31) 8 u_14), (eA0 (rf 32) (ck 32) 8 u_17), (eA0 (rf 33) (ck 33) 12 u_20), (eA1 (rf 34) (ck 34) 12 u_23), (eA1 (rf 35) (ck 35) 12 u_26), (eA0 (rf 36) (ck 36) 8 u_29), (eA1 (rf 37) (ck 37) 8 u_32), (eA0 (rf 38) (ck 38) 24 u_35)] := hD
  refine W.widen (k := 0) (n := 0) (by omega) (by omega) ?_
  have hq_u_35 : u_35 = (fq_copies12 f_deedHas) := hw
  refine lv_aload_n hx hb dX12_keepText_150 rfl (lv_at hl 0 rfl) ?_
  refine va_get (D := (dC, dI)) (ci := 12) (v := .ref (rf 39)) (C := RX12) (T := TX12) (N := 76) hx hb htw inlX12 hown hK hP 0 rfl rfl 39 (by decide) (htw _ (ck_9 _ (List.mem_of_getElem? (i := 19) rfl))) (fun _ h9 => h9) rfl dX12_keepText_151 ?_
  refine lv_bipush (v := 6) hx hb dX12_keepText_154 (by decide) ?_
  obtain ⟨hPc, hDc, hFc, hCc⟩ := zsub3 (ws' := [(eA0 (rf 39) (ck 39) 12 f_noteName)]) hP hD hS hA [1] (by decide) rfl
  have hKc := hK.sub (tys' := [((ck 39), .int)]) [12] rfl
  refine va_callv (va_runS (As := [.ref (rf 39), .int 6]) (rest := []) ⟨hx, hb, hml, hown, htw⟩ (gq_copies6 l dC dI (rf 39) (ck 39) f_noteName H.size) (va_cwS 2 htw (xg_S (ck_11 _ (List.mem_of_getElem? (i := 19) rfl)) (ck_11 _ (List.mem_of_getElem? (i := 20) rfl)) (ck_1 _ (List.mem_of_getElem? (i := 5) rfl)) (ck_11 _ (List.mem_of_getElem? (i := 21) rfl))) rfl rfl rfl (by exact ⟨hdc_14.1, hdc_14.2, hdd_14⟩) ⟨Nat.le_of_ble_eq_true rfl, Nat.le_of_ble_eq_true rfl⟩) ⟨fun a U g mk q => by obtain ⟨q0, q1, qP, qK, qD⟩ := q; exact ⟨q0, q1, qP, va_K.moved (u := U) (U := U.calling g mk a) (Vm.Alike.refl U.vm) qK, qD⟩, fun U hU hW => ⟨rfl, by rw [hU], by rw [hU]; exact hPc, va_K.moved hW.alike hKc, hDc.weaken (fun _ _ _ _ => trivial)⟩⟩ rfl rfl hl.1 rfl (lv_room (Nat.le_of_ble_eq_true rfl)) dX12_keepText_156 ⟨Nat.le_of_ble_eq_true rfl, Nat.le_of_ble_eq_true rfl⟩) hS (fun q _ h => hFc q h) hFc (fun u_38 t H1 locs ht hvm hw hB hz1 hk1 hS => ?_)
  try dsimp only at hw
  obtain ⟨hP1, hK1, hD1⟩ := hB
  rw [ht] at hP1
  have hK1 := va_K.moved hvm.symm hK1
  have hK1 : va_K (dC, dI) vwCl [] s := hK1
  obtain ⟨hP, hD⟩ := va_join (wr := [(mq, .inr (12, mF (upd (upd (upd (upd (upd (upd g 12 (g 18)) 13 (g 19)) 14 (g 20)) 15 (g 21)) 16 (g 22)) 17 (g 23)) gl rf)), (eA0 (rf 40) (ck 40) 264 f_noteHas), (eA0 (rf 41) (ck 41) 128 f_knot), (eA0 (rf 42) (ck 42) 128 f_part), (eA0 (rf 43) (ck 43) 128 f_other), (eA0 (rf 24) (ck 24) 14 u_2), (eA0 (rf 28) (ck 28) 8 u_5), (eA0 (rf 29) (ck 29) 24 u_8), (eA0 (rf 30) (ck 30) 8 u_11), (eA0 (rf 31) (ck 31) 8 u_14), (eA0 (rf 32) (ck 32) 8 u_17), (eA0 (rf 33) (ck 33) 12 u_20), (eA1 (rf 34) (ck 34) 12 u_23), (eA1 (rf 35) (ck 35) 12 u_26), (eA0 (rf 36) (ck 36) 8 u_29), (eA1 (rf 37) (ck 37) 8 u_32), (eA0 (rf 38) (ck 38) 24 u_35)]) (w1 := [(eA0 (rf 39) (ck 39) 12 u_38)]) hP hD [1] [0, 2, 3, 4, 5, 6, 7, 8, 9, 10, 11, 12, 13, 14, 15, 16, 17] hCc rfl (by decide +kernel) (by decide +kernel) hk1 hFc hP1 hD1
  generalize H1 = H at hP hS ⊢
  have hP : va_P (dC, dI) vwCl [(mq, .inr (12, mF (upd (upd (upd (upd (upd (upd g 12 (g 18)) 13 (g 19)) 14 (g 20)) 15 (g 21)) 16 (g 22)) 17 (g 23)) gl rf)), (eA0 (rf 40) (ck 40) 264 f_noteHas), (eA0 (rf 41) (ck 41) 128 f_knot), (eA0 (rf 42) (ck 42) 128 f_part), (eA0 (rf 43) (ck 43) 128 f_other), (eA0 (rf 24) (ck 24) 14 u_2), (eA0 (rf 28) (ck 28) 8 u_5), (eA0 (rf 29) (ck 29) 24 u_8), (eA0 (rf 30) (ck 30) 8 u_11), (eA0 (rf 31) (ck 31) 8 u_14), (eA0 (rf 32) (ck 32) 8 u_17), (eA0 (rf 33) (ck 33) 12 u_20), (eA1 (rf 34) (ck 34) 12 u_23), (eA1 (rf 35) (ck 35) 12 u_26), (eA0 (rf 36) (ck 36) 8 u_29), (eA1 (rf 37) (ck 37) 8 u_32), (eA0 (rf 38) (ck 38) 24 u_35), (eA0 (rf 39) (ck 39) 12 u_38)] H := hP
  have hD : va_D A [(mq, .inr (12, mF (upd (upd (upd (upd (upd (upd g 12 (g 18)) 13 (g 19)) 14 (g 20)) 15 (g 21)) 16 (g 22)) 17 (g 23)) gl rf)), (eA0 (rf 40) (ck 40) 264 f_noteHas), (eA0 (rf 41) (ck 41) 128 f_knot), (eA0 (rf 42) (ck 42) 128 f_part), (eA0 (rf 43) (ck 43) 128 f_other), (eA0 (rf 24) (ck 24) 14 u_2), (eA0 (rf 28) (ck 28) 8 u_5), (eA0 (rf 29) (ck 29) 24 u_8), (eA0 (rf 30) (ck 30) 8 u_11), (eA0 (rf 31) (ck 31) 8 u_14), (eA0 (rf 32) (ck 32) 8 u_17), (eA0 (rf 33) (ck 33) 12 u_20), (eA1 (rf 34) (ck 34) 12 u_23), (eA1 (rf 35) (ck 35) 12 u_26), (eA0 (rf 36) (ck 36) 8 u_29), (eA1 (rf 37) (ck 37) 8 u_32), (eA0 (rf 38) (ck 38) 24 u_35), (eA0 (rf 39) (ck 39) 12 u_38)] := hD
  refine W.widen (k := 0) (n := 0) (by omega) (by omega) ?_
  have hq_u_38 : u_38 = (fq_copies6 f_noteName) := hw
  refine lv_aload_n hx hb dX12_keepText_159 rfl (lv_at hl 0 rfl) ?_
  refine va_get (D := (dC, dI)) (ci := 12) (v := .ref (rf 40)) (C := RX12) (T := TX12) (N := 76) hx hb htw inlX12 hown hK hP 0 rfl rfl 40 (by decide) (htw _ (ck_9 _ (List.mem_of_getElem? (i := 20) rfl))) (fun _ h9 => h9) rfl dX12_keepText_160 ?_
  refine lv_sipush (v := 132) hx hb dX12_keepText_163 (by decide) ?_
  obtain ⟨hPc, hDc, hFc, hCc⟩ := zsub3 (ws' := [(eA0 (rf 40) (ck 40) 264 f_noteHas)]) hP hD hS hA [1] (by decide) rfl
  have hKc := hK.sub (tys' := [((ck 40), .int)]) [13] rfl
  refine va_callv (va_runS (As := [.ref (rf 40), .int 132]) (rest := []) ⟨hx, hb, hml, hown, htw⟩ (gq_copies132 l dC dI (rf 40) (ck 40) f_noteHas H.size) (va_cwS 2 htw (xg_S (ck_11 _ (List.mem_of_getElem? (i := 19) rfl)) (ck_11 _ (List.mem_of_getElem? (i := 20) rfl)) (ck_1 _ (List.mem_of_getElem? (i := 5) rfl)) (ck_11 _ (List.mem_of_getElem? (i := 21) rfl))) rfl rfl rfl (by exact ⟨hdc_14.1, hdc_14.2, hdd_14⟩) ⟨Nat.le_of_ble_eq_true rfl, Nat.le_of_ble_eq_true rfl⟩) ⟨fun a U g mk q => by obtain ⟨q0, q1, qP, qK, qD⟩ := q; exact ⟨q0, q1, qP, va_K.moved (u := U) (U := U.calling g mk a) (Vm.Alike.refl U.vm) qK, qD⟩, fun U hU hW => ⟨rfl, by rw [hU], by rw [hU]; exact hPc, va_K.moved hW.alike hKc, hDc.weaken (fun _ _ _ _ => trivial)⟩⟩ rfl rfl hl.1 rfl (lv_room (Nat.le_of_ble_eq_true rfl)) dX12_keepText_166 ⟨Nat.le_of_ble_eq_true rfl, Nat.le_of_ble_eq_true rfl⟩) hS (fun q _ h => hFc q h) hFc (fun u_41 t H1 locs ht hvm hw hB hz1 hk1 hS => ?_)
  try dsimp only at hw
  obtain ⟨hP1, hK1, hD1⟩ := hB
  rw [ht] at hP1
  have hK1 := va_K.moved hvm.symm hK1
  have hK1 : va_K (dC, dI) vwCl [] s := hK1
  obtain ⟨hP, hD⟩ := va_join (wr := [(mq, .inr (12, mF (upd (upd (upd (upd (upd (upd g 12 (g 18)) 13 (g 19)) 14 (g 20)) 15 (g 21)) 16 (g 22)) 17 (g 23)) gl rf)), (eA0 (rf 41) (ck 41) 128 f_knot), (eA0 (rf 42) (ck 42) 128 f_part), (eA0 (rf 43) (ck 43) 128 f_other), (eA0 (rf 24) (ck 24) 14 u_2), (eA0 (rf 28) (ck 28) 8 u_5), (eA0 (rf 29) (ck 29) 24 u_8), (eA0 (rf 30) (ck 30) 8 u_11), (eA0 (rf 31) (ck 31) 8 u_14), (eA0 (rf 32) (ck 32) 8 u_17), (eA0 (rf 33) (ck 33) 12 u_20), (eA1 (rf 34) (ck 34) 12 u_23), (eA1 (rf 35) (ck 35) 12 u_26), (eA0 (rf 36) (ck 36) 8 u_29), (eA1 (rf 37) (ck 37) 8 u_32), (eA0 (rf 38) (ck 38) 24 u_35), (eA0 (rf 39) (ck 39) 12 u_38)]) (w1 := [(eA0 (rf 40) (ck 40) 264 u_41)]) hP hD [1] [0, 2, 3, 4, 5, 6, 7, 8, 9, 10, 11, 12, 13, 14, 15, 16, 17] hCc rfl (by decide +kernel) (by decide +kernel) hk1 hFc hP1 hD1
  generalize H1 = H at hP hS ⊢
  have hP : va_P (dC, dI) vwCl [(mq, .inr (12, mF (upd (upd (upd (upd (upd (upd g 12 (g 18)) 13 (g 19)) 14 (g 20)) 15 (g 21)) 16 (g 22)) 17 (g 23)) gl rf)), (eA0 (rf 41) (ck 41) 128 f_knot), (eA0 (rf 42) (ck 42) 128 f_part), (eA0 (rf 43) (ck 43) 128 f_other), (eA0 (rf 24) (ck 24) 14 u_2), (eA0 (rf 28) (ck 28) 8 u_5), (eA0 (rf 29) (ck 29) 24 u_8), (eA0 (rf 30) (ck 30) 8 u_11), (eA0 (rf 31) (ck 31) 8 u_14), (eA0 (rf 32) (ck 32) 8 u_17), (eA0 (rf 33) (ck 33) 12 u_20), (eA1 (rf 34) (ck 34) 12 u_23), (eA1 (rf 35) (ck 35) 12 u_26), (eA0 (rf 36) (ck 36) 8 u_29), (eA1 (rf 37) (ck 37) 8 u_32), (eA0 (rf 38) (ck 38) 24 u_35), (eA0 (rf 39) (ck 39) 12 u_38), (eA0 (rf 40) (ck 40) 264 u_41)] H := hP
  have hD : va_D A [(mq, .inr (12, mF (upd (upd (upd (upd (upd (upd g 12 (g 18)) 13 (g 19)) 14 (g 20)) 15 (g 21)) 16 (g 22)) 17 (g 23)) gl rf)), (eA0 (rf 41) (ck 41) 128 f_knot), (eA0 (rf 42) (ck 42) 128 f_part), (eA0 (rf 43) (ck 43) 128 f_other), (eA0 (rf 24) (ck 24) 14 u_2), (eA0 (rf 28) (ck 28) 8 u_5), (eA0 (rf 29) (ck 29) 24 u_8), (eA0 (rf 30) (ck 30) 8 u_11), (eA0 (rf 31) (ck 31) 8 u_14), (eA0 (rf 32) (ck 32) 8 u_17), (eA0 (rf 33) (ck 33) 12 u_20), (eA1 (rf 34) (ck 34) 12 u_23), (eA1 (rf 35) (ck 35) 12 u_26), (eA0 (rf 36) (ck 36) 8 u_29), (eA1 (rf 37) (ck 37) 8 u_32), (eA0 (rf 38) (ck 38) 24 u_35), (eA0 (rf 39) (ck 39) 12 u_38), (eA0 (rf 40) (ck 40) 264 u_41)] := hD
  refine W.widen (k := 0) (n := 0) (by omega) (by omega) ?_
  have hq_u_41 : u_41 = (fq_copies132 f_noteHas) := hw
  refine lv_aload_n hx hb dX12_keepText_169 rfl (lv_at hl 0 rfl) ?_
  refine va_get (D := (dC, dI)) (ci := 12) (v := .ref (rf 41)) (C := RX12) (T := TX12) (N := 76) hx hb htw inlX12 hown hK hP 0 rfl rfl 41 (by decide) (htw _ (ck_9 _ (List.mem_of_getElem? (i := 21) rfl))) (fun _ h9 => h9) rfl dX12_keepText_170 ?_
  refine lv_bipush (v := 64) hx hb dX12_keepText_173 (by decide) ?_
  obtain ⟨hPc, hDc, hFc, hCc⟩ := zsub3 (ws' := [(eA0 (rf 41) (ck 41) 128 f_knot)]) hP hD hS hA [1] (by decide) rfl
  have hKc := hK.sub (tys' := [((ck 41), .int)]) [14] rfl
  refine va_callv (va_runS (As := [.ref (rf 41), .int 64]) (rest := []) ⟨hx, hb, hml, hown, htw⟩ (gq_copies64 l dC dI (rf 41) (ck 41) f_knot H.size) (va_cwS 2 htw (xg_S (ck_11 _ (List.mem_of_getElem? (i := 19) rfl)) (ck_11 _ (List.mem_of_getElem? (i := 20) rfl)) (ck_1 _ (List.mem_of_getElem? (i := 5) rfl)) (ck_11 _ (List.mem_of_getElem? (i := 21) rfl))) rfl rfl rfl (by exact ⟨hdc_14.1, hdc_14.2, hdd_14⟩) ⟨Nat.le_of_ble_eq_true rfl, Nat.le_of_ble_eq_true rfl⟩) ⟨fun a U g mk q => by obtain ⟨q0, q1, qP, qK, qD⟩ := q; exact ⟨q0, q1, qP, va_K.moved (u := U) (U := U.calling g mk a) (Vm.Alike.refl U.vm) qK, qD⟩, fun U hU hW => ⟨rfl, by rw [hU], by rw [hU]; exact hPc, va_K.moved hW.alike hKc, hDc.weaken (fun _ _ _ _ => trivial)⟩⟩ rfl rfl hl.1 rfl (lv_room (Nat.le_of_ble_eq_true rfl)) dX12_keepText_175 ⟨Nat.le_of_ble_eq_true rfl, Nat.le_of_ble_eq_true rfl⟩) hS (fun q _ h => hFc q h) hFc (fun u_44 t H1 locs ht hvm hw hB hz1 hk1 hS => ?_)
  try dsimp only at hw
  obtain ⟨hP1, hK1, hD1⟩ := hB
  rw [ht] at hP1
  have hK1 := va_K.moved hvm.symm hK1
  have hK1 : va_K (dC, dI) vwCl [] s := hK1
  obtain ⟨hP, hD⟩ := va_join (wr := [(mq, .inr (12, mF (upd (upd (upd (upd (upd (upd g 12 (g 18)) 13 (g 19)) 14 (g 20)) 15 (g 21)) 16 (g 22)) 17 (g 23)) gl rf)), (eA0 (rf 42) (ck 42) 128 f_part), (eA0 (rf 43) (ck 43) 128 f_other), (eA0 (rf 24) (ck 24) 14 u_2), (eA0 (rf 28) (ck 28) 8 u_5), (eA0 (rf 29) (ck 29) 24 u_8), (eA0 (rf 30) (ck 30) 8 u_11), (eA0 (rf 31) (ck 31) 8 u_14), (eA0 (rf 32) (ck 32) 8 u_17), (eA0 (rf 33) (ck 33) 12 u_20), (eA1 (rf 34) (ck 34) 12 u_23), (eA1 (rf 35) (ck 35) 12 u_26), (eA0 (rf 36) (ck 36) 8 u_29), (eA1 (rf 37) (ck 37) 8 u_32), (eA0 (rf 38) (ck 38) 24 u_35), (eA0 (rf 39) (ck 39) 12 u_38), (eA0 (rf 40) (ck 40) 264 u_41)]) (w1 := [(eA0 (rf 41) (ck 41) 128 u_44)]) hP hD [1] [0, 2, 3, 4, 5, 6, 7, 8, 9, 10, 11, 12, 13, 14, 15, 16, 17] hCc rfl (by decide +kernel) (by decide +kernel) hk1 hFc hP1 hD1
  generalize H1 = H at hP hS ⊢
  have hP : va_P (dC, dI) vwCl [(mq, .inr (12, mF (upd (upd (upd (upd (upd (upd g 12 (g 18)) 13 (g 19)) 14 (g 20)) 15 (g 21)) 16 (g 22)) 17 (g 23)) gl rf)), (eA0 (rf 42) (ck 42) 128 f_part), (eA0 (rf 43) (ck 43) 128 f_other), (eA0 (rf 24) (ck 24) 14 u_2), (eA0 (rf 28) (ck 28) 8 u_5), (eA0 (rf 29) (ck 29) 24 u_8), (eA0 (rf 30) (ck 30) 8 u_11), (eA0 (rf 31) (ck 31) 8 u_14), (eA0 (rf 32) (ck 32) 8 u_17), (eA0 (rf 33) (ck 33) 12 u_20), (eA1 (rf 34) (ck 34) 12 u_23), (eA1 (rf 35) (ck 35) 12 u_26), (eA0 (rf 36) (ck 36) 8 u_29), (eA1 (rf 37) (ck 37) 8 u_32), (eA0 (rf 38) (ck 38) 24 u_35), (eA0 (rf 39) (ck 39) 12 u_38), (eA0 (rf 40) (ck 40) 264 u_41), (eA0 (rf 41) (ck 41) 128 u_44)] H := hP
  have hD : va_D A [(mq, .inr (12, mF (upd (upd (upd (upd (upd (upd g 12 (g 18)) 13 (g 19)) 14 (g 20)) 15 (g 21)) 16 (g 22)) 17 (g 23)) gl rf)), (eA0 (rf 42) (ck 42) 128 f_part), (eA0 (rf 43) (ck 43) 128 f_other), (eA0 (rf 24) (ck 24) 14 u_2), (eA0 (rf 28) (ck 28) 8 u_5), (eA0 (rf 29) (ck 29) 24 u_8), (eA0 (rf 30) (ck 30) 8 u_11), (eA0 (rf 31) (ck 31) 8 u_14), (eA0 (rf 32) (ck 32) 8 u_17), (eA0 (rf 33) (ck 33) 12 u_20), (eA1 (rf 34) (ck 34) 12 u_23), (eA1 (rf 35) (ck 35) 12 u_26), (eA0 (rf 36) (ck 36) 8 u_29), (eA1 (rf 37) (ck 37) 8 u_32), (eA0 (rf 38) (ck 38) 24 u_35), (eA0 (rf 39) (ck 39) 12 u_38), (eA0 (rf 40) (ck 40) 264 u_41), (eA0 (rf 41) (ck 41) 128 u_44)] := hD
  refine W.widen (k := 0) (n := 0) (by omega) (by omega) ?_
  have hq_u_44 : u_44 = (fq_copies64 f_knot) := hw
  refine lv_aload_n hx hb dX12_keepText_178 rfl (lv_at hl 0 rfl) ?_
  refine va_get (D := (dC, dI)) (ci := 12) (v := .ref (rf 42)) (C := RX12) (T := TX12) (N := 76) hx hb htw inlX12 hown hK hP 0 rfl rfl 42 (by decide) (htw _ (ck_9 _ (List.mem_of_getElem? (i := 22) rfl))) (fun _ h9 => h9) rfl dX12_keepText_179 ?_
  refine lv_bipush (v := 64) hx hb dX12_keepText_182 (by decide) ?_
  obtain ⟨hPc, hDc, hFc, hCc⟩ := zsub3 (ws' := [(eA0 (rf 42) (ck 42) 128 f_part)]) hP hD hS hA [1] (by decide) rfl
  have hKc := hK.sub (tys' := [((ck 42), .int)]) [15] rfl
  refine va_callv (va_runS (As := [.ref (rf 42), .int 64]) (rest := []) ⟨hx, hb, hml, hown, htw⟩ (gq_copies64 l dC dI (rf 42) (ck 42) f_part H.size) (va_cwS 2 htw (xg_S (ck_11 _ (List.mem_of_getElem? (i := 19) rfl)) (ck_11 _ (List.mem_of_getElem? (i := 20) rfl)) (ck_1 _ (List.mem_of_getElem? (i := 5) rfl)) (ck_11 _ (List.mem_of_getElem? (i := 21) rfl))) rfl rfl rfl (by exact ⟨hdc_14.1, hdc_14.2, hdd_14⟩) ⟨Nat.le_of_ble_eq_true rfl, Nat.le_of_ble_eq_true rfl⟩) ⟨fun a U g mk q => by obtain ⟨q0, q1, qP, qK, qD⟩ := q; exact ⟨q0, q1, qP, va_K.moved (u := U) (U := U.calling g mk a) (Vm.Alike.refl U.vm) qK, qD⟩, fun U hU hW => ⟨rfl, by rw [hU], by rw [hU]; exact hPc, va_K.moved hW.alike hKc, hDc.weaken (fun _ _ _ _ => trivial)⟩⟩ rfl rfl hl.1 rfl (lv_room (Nat.le_of_ble_eq_true rfl)) dX12_keepText_184 ⟨Nat.le_of_ble_eq_true rfl, Nat.le_of_ble_eq_true rfl⟩) hS (fun q _ h => hFc q h) hFc (fun u_47 t H1 locs ht hvm hw hB hz1 hk1 hS => ?_)
  try dsimp only at hw
  obtain ⟨hP1, hK1, hD1⟩ := hB
  rw [ht] at hP1
  have hK1 := va_K.moved hvm.symm hK1
  have hK1 : va_K (dC, dI) vwCl [] s := hK1
  obtain ⟨hP, hD⟩ := va_join (wr := [(mq, .inr (12, mF (upd (upd (upd (upd (upd (upd g 12 (g 18)) 13 (g 19)) 14 (g 20)) 15 (g 21)) 16 (g 22)) 17 (g 23)) gl rf)), (eA0 (rf 43) (ck 43) 128 f_other), (eA0 (rf 24) (ck 24) 14 u_2), (eA0 (rf 28) (ck 28) 8 u_5), (eA0 (rf 29) (ck 29) 24 u_8), (eA0 (rf 30) (ck 30) 8 u_11), (eA0 (rf 31) (ck 31) 8 u_14), (eA0 (rf 32) (ck 32) 8 u_17), (eA0 (rf 33) (ck 33) 12 u_20), (eA1 (rf 34) (ck 34) 12 u_23), (eA1 (rf 35) (ck 35) 12 u_26), (eA0 (rf 36) (ck 36) 8 u_29), (eA1 (rf 37) (ck 37) 8 u_32), (eA0 (rf 38) (ck 38) 24 u_35), (eA0 (rf 39) (ck 39) 12 u_38), (eA0 (rf 40) (ck 40) 264 u_41), (eA0 (rf 41) (ck 41) 128 u_44)]) (w1 := [(eA0 (rf 42) (ck 42) 128 u_47)]) hP hD [1] [0, 2, 3, 4, 5, 6, 7, 8, 9, 10, 11, 12, 13, 14, 15, 16, 17] hCc rfl (by decide +kernel) (by decide +kernel) hk1 hFc hP1 hD1
  generalize H1 = H at hP hS ⊢
  have hP : va_P (dC, dI) vwCl [(mq, .inr (12, mF (upd (upd (upd (upd (upd (upd g 12 (g 18)) 13 (g 19)) 14 (g 20)) 15 (g 21)) 16 (g 22)) 17 (g 23)) gl rf)), (eA0 (rf 43) (ck 43) 128 f_other), (eA0 (rf 24) (ck 24) 14 u_2), (eA0 (rf 28) (ck 28) 8 u_5), (eA0 (rf 29) (ck 29) 24 u_8), (eA0 (rf 30) (ck 30) 8 u_11), (eA0 (rf 31) (ck 31) 8 u_14), (eA0 (rf 32) (ck 32) 8 u_17), (eA0 (rf 33) (ck 33) 12 u_20), (eA1 (rf 34) (ck 34) 12 u_23), (eA1 (rf 35) (ck 35) 12 u_26), (eA0 (rf 36) (ck 36) 8 u_29), (eA1 (rf 37) (ck 37) 8 u_32), (eA0 (rf 38) (ck 38) 24 u_35), (eA0 (rf 39) (ck 39) 12 u_38), (eA0 (rf 40) (ck 40) 264 u_41), (eA0 (rf 41) (ck 41) 128 u_44), (eA0 (rf 42) (ck 42) 128 u_47)] H := hP
  have hD : va_D A [(mq, .inr (12, mF (upd (upd (upd (upd (upd (upd g 12 (g 18)) 13 (g 19)) 14 (g 20)) 15 (g 21)) 16 (g 22)) 17 (g 23)) gl rf)), (eA0 (rf 43) (ck 43) 128 f_other), (eA0 (rf 24) (ck 24) 14 u_2), (eA0 (rf 28) (ck 28) 8 u_5), (eA0 (rf 29) (ck 29) 24 u_8), (eA0 (rf 30) (ck 30) 8 u_11), (eA0 (rf 31) (ck 31) 8 u_14), (eA0 (rf 32) (ck 32) 8 u_17), (eA0 (rf 33) (ck 33) 12 u_20), (eA1 (rf 34) (ck 34) 12 u_23), (eA1 (rf 35) (ck 35) 12 u_26), (eA0 (rf 36) (ck 36) 8 u_29), (eA1 (rf 37) (ck 37) 8 u_32), (eA0 (rf 38) (ck 38) 24 u_35), (eA0 (rf 39) (ck 39) 12 u_38), (eA0 (rf 40) (ck 40) 264 u_41), (eA0 (rf 41) (ck 41) 128 u_44), (eA0 (rf 42) (ck 42) 128 u_47)] := hD
  refine W.widen (k := 0) (n := 0) (by omega) (by omega) ?_
  have hq_u_47 : u_47 = (fq_copies64 f_part) := hw
  refine lv_aload_n hx hb dX12_keepText_187 rfl (lv_at hl 0 rfl) ?_
  refine va_get (D := (dC, dI)) (ci := 12) (v := .ref (rf 43)) (C := RX12) (T := TX12) (N := 76) hx hb htw inlX12 hown hK hP 0 rfl rfl 43 (by decide) (htw _ (ck_9 _ (List.mem_of_getElem? (i := 23) rfl))) (fun _ h9 => h9) rfl dX12_keepText_188 ?_
  refine lv_bipush (v := 64) hx hb dX12_keepText_191 (by decide) ?_
  obtain ⟨hPc, hDc, hFc, hCc⟩ := zsub3 (ws' := [(eA0 (rf 43) (ck 43) 128 f_other)]) hP hD hS hA [1] (by decide) rfl
  have hKc := hK.sub (tys' := [((ck 43), .int)]) [16] rfl
  refine va_callv (va_runS (As := [.ref (rf 43), .int 64]) (rest := []) ⟨hx, hb, hml, hown, htw⟩ (gq_copies64 l dC dI (rf 43) (ck 43) f_other H.size) (va_cwS 2 htw (xg_S (ck_11 _ (List.mem_of_getElem? (i := 19) rfl)) (ck_11 _ (List.mem_of_getElem? (i := 20) rfl)) (ck_1 _ (List.mem_of_getElem? (i := 5) rfl)) (ck_11 _ (List.mem_of_getElem? (i := 21) rfl))) rfl rfl rfl (by exact ⟨hdc_14.1, hdc_14.2, hdd_14⟩) ⟨Nat.le_of_ble_eq_true rfl, Nat.le_of_ble_eq_true rfl⟩) ⟨fun a U g mk q => by obtain ⟨q0, q1, qP, qK, qD⟩ := q; exact ⟨q0, q1, qP, va_K.moved (u := U) (U := U.calling g mk a) (Vm.Alike.refl U.vm) qK, qD⟩, fun U hU hW => ⟨rfl, by rw [hU], by rw [hU]; exact hPc, va_K.moved hW.alike hKc, hDc.weaken (fun _ _ _ _ => trivial)⟩⟩ rfl rfl hl.1 rfl (lv_room (Nat.le_of_ble_eq_true rfl)) dX12_keepText_193 ⟨Nat.le_of_ble_eq_true rfl, Nat.le_of_ble_eq_true rfl⟩) hS (fun q _ h => hFc q h) hFc (fun u_50 t H1 locs ht hvm hw hB hz1 hk1 hS => ?_)
  try dsimp only at hw
  obtain ⟨hP1, hK1, hD1⟩ := hB
  rw [ht] at hP1
  have hK1 := va_K.moved hvm.symm hK1
  have hK1 : va_K (dC, dI) vwCl [] s := hK1
  obtain ⟨hP, hD⟩ := va_join (wr := [(mq, .inr (12, mF (upd (upd (upd (upd (upd (upd g 12 (g 18)) 13 (g 19)) 14 (g 20)) 15 (g 21)) 16 (g 22)) 17 (g 23)) gl rf)), (eA0 (rf 24) (ck 24) 14 u_2), (eA0 (rf 28) (ck 28) 8 u_5), (eA0 (rf 29) (ck 29) 24 u_8), (eA0 (rf 30) (ck 30) 8 u_11), (eA0 (rf 31) (ck 31) 8 u_14), (eA0 (rf 32) (ck 32) 8 u_17), (eA0 (rf 33) (ck 33) 12 u_20), (eA1 (rf 34) (ck 34) 12 u_23), (eA1 (rf 35) (ck 35) 12 u_26), (eA0 (rf 36) (ck 36) 8 u_29), (eA1 (rf 37) (ck 37) 8 u_32), (eA0 (rf 38) (ck 38) 24 u_35), (eA0 (rf 39) (ck 39) 12 u_38), (eA0 (rf 40) (ck 40) 264 u_41), (eA0 (rf 41) (ck 41) 128 u_44), (eA0 (rf 42) (ck 42) 128 u_47)]) (w1 := [(eA0 (rf 43) (ck 43) 128 u_50)]) hP hD [1] [0, 2, 3, 4, 5, 6, 7, 8, 9, 10, 11, 12, 13, 14, 15, 16, 17] hCc rfl (by decide +kernel) (by decide +kernel) hk1 hFc hP1 hD1
  generalize H1 = H at hP hS ⊢
  have hP : va_P (dC, dI) vwCl [(mq, .inr (12, mF (upd (upd (upd (upd (upd (upd g 12 (g 18)) 13 (g 19)) 14 (g 20)) 15 (g 21)) 16 (g 22)) 17 (g 23)) gl rf)), (eA0 (rf 24) (ck 24) 14 u_2), (eA0 (rf 28) (ck 28) 8 u_5), (eA0 (rf 29) (ck 29) 24 u_8), (eA0 (rf 30) (ck 30) 8 u_11), (eA0 (rf 31) (ck 31) 8 u_14), (eA0 (rf 32) (ck 32) 8 u_17), (eA0 (rf 33) (ck 33) 12 u_20), (eA1 (rf 34) (ck 34) 12 u_23), (eA1 (rf 35) (ck 35) 12 u_26), (eA0 (rf 36) (ck 36) 8 u_29), (eA1 (rf 37) (ck 37) 8 u_32), (eA0 (rf 38) (ck 38) 24 u_35), (eA0 (rf 39) (ck 39) 12 u_38), (eA0 (rf 40) (ck 40) 264 u_41), (eA0 (rf 41) (ck 41) 128 u_44), (eA0 (rf 42) (ck 42) 128 u_47), (eA0 (rf 43) (ck 43) 128 u_50)] H := hP
  have hD : va_D A [(mq, .inr (12, mF (upd (upd (upd (upd (upd (upd g 12 (g 18)) 13 (g 19)) 14 (g 20)) 15 (g 21)) 16 (g 22)) 17 (g 23)) gl rf)), (eA0 (rf 24) (ck 24) 14 u_2), (eA0 (rf 28) (ck 28) 8 u_5), (eA0 (rf 29) (ck 29) 24 u_8), (eA0 (rf 30) (ck 30) 8 u_11), (eA0 (rf 31) (ck 31) 8 u_14), (eA0 (rf 32) (ck 32) 8 u_17), (eA0 (rf 33) (ck 33) 12 u_20), (eA1 (rf 34) (ck 34) 12 u_23), (eA1 (rf 35) (ck 35) 12 u_26), (eA0 (rf 36) (ck 36) 8 u_29), (eA1 (rf 37) (ck 37) 8 u_32), (eA0 (rf 38) (ck 38) 24 u_35), (eA0 (rf 39) (ck 39) 12 u_38), (eA0 (rf 40) (ck 40) 264 u_41), (eA0 (rf 41) (ck 41) 128 u_44), (eA0 (rf 42) (ck 42) 128 u_47), (eA0 (rf 43) (ck 43) 128 u_50)] := hD
  refine W.widen (k := 0) (n := 0) (by omega) (by omega) ?_
  have hq_u_50 : u_50 = (fq_copies64 f_other) := hw
  refine lv_aload_n hx hb dX12_keepText_196 rfl (lv_at hl 0 rfl) ?_
  refine lv_aload_n hx hb dX12_keepText_197 rfl (lv_at hl 0 rfl) ?_
  refine va_get (D := (dC, dI)) (ci := 12) (v := .int (g 22)) (C := RX12) (T := TX12) (N := 76) hx hb htw inlX12 hown hK hP 0 rfl rfl 16 (by decide) (htw _ (ck_11 _ (List.mem_of_getElem? (i := 13) rfl))) (fun _ h9 => h9) rfl dX12_keepText_198 ?_
  refine va_put (D := (dC, dI)) (ci := 12) (v := .int (g 22)) (ty := tyX12 58) (C := RX12) (T := TX12) (N := 76) hx hb htw inlX12 tyX12 tyX12_ok nmX12 hown hK hP hD hS 0 rfl rfl 58 (by decide) (htw _ (ck_11 _ (List.mem_of_getElem? (i := 15) rfl))) (fun _ h9 => h9) rfl (tyX12_ok 58 (by decide)) rfl rfl (Nat.le_of_ble_eq_true rfl) dX12_keepText_201 (fun H locs hP hD hS => ?_)
  have hP : va_P (dC, dI) vwCl [(mq, .inr (12, mF (upd (upd (upd (upd (upd (upd (upd g 12 (g 18)) 13 (g 19)) 14 (g 20)) 15 (g 21)) 16 (g 22)) 17 (g 23)) 58 (g 22)) gl rf)), (eA0 (rf 24) (ck 24) 14 u_2), (eA0 (rf 28) (ck 28) 8 u_5), (eA0 (rf 29) (ck 29) 24 u_8), (eA0 (rf 30) (ck 30) 8 u_11), (eA0 (rf 31) (ck 31) 8 u_14), (eA0 (rf 32) (ck 32) 8 u_17), (eA0 (rf 33) (ck 33) 12 u_20), (eA1 (rf 34) (ck 34) 12 u_23), (eA1 (rf 35) (ck 35) 12 u_26), (eA0 (rf 36) (ck 36) 8 u_29), (eA1 (rf 37) (ck 37) 8 u_32), (eA0 (rf 38) (ck 38) 24 u_35), (eA0 (rf 39) (ck 39) 12 u_38), (eA0 (rf 40) (ck 40) 264 u_41), (eA0 (rf 41) (ck 41) 128 u_44), (eA0 (rf 42) (ck 42) 128 u_47), (eA0 (rf 43) (ck 43) 128 u_50)] H := hP
  have hD : va_D A [(mq, .inr (12, mF (upd (upd (upd (upd (upd (upd (upd g 12 (g 18)) 13 (g 19)) 14 (g 20)) 15 (g 21)) 16 (g 22)) 17 (g 23)) 58 (g 22)) gl rf)), (eA0 (rf 24) (ck 24) 14 u_2), (eA0 (rf 28) (ck 28) 8 u_5), (eA0 (rf 29) (ck 29) 24 u_8), (eA0 (rf 30) (ck 30) 8 u_11), (eA0 (rf 31) (ck 31) 8 u_14), (eA0 (rf 32) (ck 32) 8 u_17), (eA0 (rf 33) (ck 33) 12 u_20), (eA1 (rf 34) (ck 34) 12 u_23), (eA1 (rf 35) (ck 35) 12 u_26), (eA0 (rf 36) (ck 36) 8 u_29), (eA1 (rf 37) (ck 37) 8 u_32), (eA0 (rf 38) (ck 38) 24 u_35), (eA0 (rf 39) (ck 39) 12 u_38), (eA0 (rf 40) (ck 40) 264 u_41), (eA0 (rf 41) (ck 41) 128 u_44), (eA0 (rf 42) (ck 42) 128 u_47), (eA0 (rf 43) (ck 43) 128 u_50)] := hD
  refine lv_aload_n hx hb dX12_keepText_204 rfl (lv_at hl 0 rfl) ?_
  refine lv_iconst (v := 0) hx hb dX12_keepText_205 (by decide) ?_
  refine va_put (D := (dC, dI)) (ci := 12) (v := .int 0) (ty := tyX12 67) (C := RX12) (T := TX12) (N := 76) hx hb htw inlX12 tyX12 tyX12_ok nmX12 hown hK hP hD hS 0 rfl rfl 67 (by decide) (htw _ (ck_11 _ (List.mem_of_getElem? (i := 16) rfl))) (fun _ h9 => h9) rfl (tyX12_ok 67 (by decide)) rfl rfl (Nat.le_of_ble_eq_true rfl) dX12_keepText_206 (fun H locs hP hD hS => ?_)
  have hP : va_P (dC, dI) vwCl [(mq, .inr (12, mF (upd (upd (upd (upd (upd (upd (upd (upd g 12 (g 18)) 13 (g 19)) 14 (g 20)) 15 (g 21)) 16 (g 22)) 17 (g 23)) 58 (g 22)) 67 0) gl rf)), (eA0 (rf 24) (ck 24) 14 u_2), (eA0 (rf 28) (ck 28) 8 u_5), (eA0 (rf 29) (ck 29) 24 u_8), (eA0 (rf 30) (ck 30) 8 u_11), (eA0 (rf 31) (ck 31) 8 u_14), (eA0 (rf 32) (ck 32) 8 u_17), (eA0 (rf 33) (ck 33) 12 u_20), (eA1 (rf 34) (ck 34) 12 u_23), (eA1 (rf 35) (ck 35) 12 u_26), (eA0 (rf 36) (ck 36) 8 u_29), (eA1 (rf 37) (ck 37) 8 u_32), (eA0 (rf 38) (ck 38) 24 u_35), (eA0 (rf 39) (ck 39) 12 u_38), (eA0 (rf 40) (ck 40) 264 u_41), (eA0 (rf 41) (ck 41) 128 u_44), (eA0 (rf 42) (ck 42) 128 u_47), (eA0 (rf 43) (ck 43) 128 u_50)] H := hP
  have hD : va_D A [(mq, .inr (12, mF (upd (upd (upd (upd (upd (upd (upd (upd g 12 (g 18)) 13 (g 19)) 14 (g 20)) 15 (g 21)) 16 (g 22)) 17 (g 23)) 58 (g 22)) 67 0) gl rf)), (eA0 (rf 24) (ck 24) 14 u_2), (eA0 (rf 28) (ck 28) 8 u_5), (eA0 (rf 29) (ck 29) 24 u_8), (eA0 (rf 30) (ck 30) 8 u_11), (eA0 (rf 31) (ck 31) 8 u_14), (eA0 (rf 32) (ck 32) 8 u_17), (eA0 (rf 33) (ck 33) 12 u_20), (eA1 (rf 34) (ck 34) 12 u_23), (eA1 (rf 35) (ck 35) 12 u_26), (eA0 (rf 36) (ck 36) 8 u_29), (eA1 (rf 37) (ck 37) 8 u_32), (eA0 (rf 38) (ck 38) 24 u_35), (eA0 (rf 39) (ck 39) 12 u_38), (eA0 (rf 40) (ck 40) 264 u_41), (eA0 (rf 41) (ck 41) 128 u_44), (eA0 (rf 42) (ck 42) 128 u_47), (eA0 (rf 43) (ck 43) 128 u_50)] := hD
  refine lv_aload_n hx hb dX12_keepText_209 rfl (lv_at hl 0 rfl) ?_
  refine lv_iconst (v := 0) hx hb dX12_keepText_210 (by decide) ?_
  refine va_put (D := (dC, dI)) (ci := 12) (v := .int 0) (ty := tyX12 59) (C := RX12) (T := TX12) (N := 76) hx hb htw inlX12 tyX12 tyX12_ok nmX12 hown hK hP hD hS 0 rfl rfl 59 (by decide) (htw _ (ck_11 _ (List.mem_of_getElem? (i := 17) rfl))) (fun _ h9 => h9) rfl (tyX12_ok 59 (by decide)) rfl rfl (Nat.le_of_ble_eq_true rfl) dX12_keepText_211 (fun H locs hP hD hS => ?_)
  have hP : va_P (dC, dI) vwCl [(mq, .inr (12, mF (upd (upd (upd (upd (upd (upd (upd (upd (upd g 12 (g 18)) 13 (g 19)) 14 (g 20)) 15 (g 21)) 16 (g 22)) 17 (g 23)) 58 (g 22)) 59 0) 67 0) gl rf)), (eA0 (rf 24) (ck 24) 14 u_2), (eA0 (rf 28) (ck 28) 8 u_5), (eA0 (rf 29) (ck 29) 24 u_8), (eA0 (rf 30) (ck 30) 8 u_11), (eA0 (rf 31) (ck 31) 8 u_14), (eA0 (rf 32) (ck 32) 8 u_17), (eA0 (rf 33) (ck 33) 12 u_20), (eA1 (rf 34) (ck 34) 12 u_23), (eA1 (rf 35) (ck 35) 12 u_26), (eA0 (rf 36) (ck 36) 8 u_29), (eA1 (rf 37) (ck 37) 8 u_32), (eA0 (rf 38) (ck 38) 24 u_35), (eA0 (rf 39) (ck 39) 12 u_38), (eA0 (rf 40) (ck 40) 264 u_41), (eA0 (rf 41) (ck 41) 128 u_44), (eA0 (rf 42) (ck 42) 128 u_47), (eA0 (rf 43) (ck 43) 128 u_50)] H := hP
  have hD : va_D A [(mq, .inr (12, mF (upd (upd (upd (upd (upd (upd (upd (upd (upd g 12 (g 18)) 13 (g 19)) 14 (g 20)) 15 (g 21)) 16 (g 22)) 17 (g 23)) 58 (g 22)) 59 0) 67 0) gl rf)), (eA0 (rf 24) (ck 24) 14 u_2), (eA0 (rf 28) (ck 28) 8 u_5), (eA0 (rf 29) (ck 29) 24 u_8), (eA0 (rf 30) (ck 30) 8 u_11), (eA0 (rf 31) (ck 31) 8 u_14), (eA0 (rf 32) (ck 32) 8 u_17), (eA0 (rf 33) (ck 33) 12 u_20), (eA1 (rf 34) (ck 34) 12 u_23), (eA1 (rf 35) (ck 35) 12 u_26), (eA0 (rf 36) (ck 36) 8 u_29), (eA1 (rf 37) (ck 37) 8 u_32), (eA0 (rf 38) (ck 38) 24 u_35), (eA0 (rf 39) (ck 39) 12 u_38), (eA0 (rf 40) (ck 40) 264 u_41), (eA0 (rf 41) (ck 41) 128 u_44), (eA0 (rf 42) (ck 42) 128 u_47), (eA0 (rf 43) (ck 43) 128 u_50)] := hD
  refine lv_aload_n hx hb dX12_keepText_214 rfl (lv_at hl 0 rfl) ?_
  refine lv_iconst (v := 0) hx hb dX12_keepText_215 (by decide) ?_
  refine va_put (D := (dC, dI)) (ci := 12) (v := .int 0) (ty := tyX12 70) (C := RX12) (T := TX12) (N := 76) hx hb htw inlX12 tyX12 tyX12_ok nmX12 hown hK hP hD hS 0 rfl rfl 70 (by decide) (htw _ (ck_11 _ (List.mem_of_getElem? (i := 18) rfl))) (fun _ h9 => h9) rfl (tyX12_ok 70 (by decide)) rfl rfl (Nat.le_of_ble_eq_true rfl) dX12_keepText_216 (fun H locs hP hD hS => ?_)
  have hP : va_P (dC, dI) vwCl [(mq, .inr (12, mF (upd (upd (upd (upd (upd (upd (upd (upd (upd (upd g 12 (g 18)) 13 (g 19)) 14 (g 20)) 15 (g 21)) 16 (g 22)) 17 (g 23)) 58 (g 22)) 59 0) 67 0) 70 0) gl rf)), (eA0 (rf 24) (ck 24) 14 u_2), (eA0 (rf 28) (ck 28) 8 u_5), (eA0 (rf 29) (ck 29) 24 u_8), (eA0 (rf 30) (ck 30) 8 u_11), (eA0 (rf 31) (ck 31) 8 u_14), (eA0 (rf 32) (ck 32) 8 u_17), (eA0 (rf 33) (ck 33) 12 u_20), (eA1 (rf 34) (ck 34) 12 u_23), (eA1 (rf 35) (ck 35) 12 u_26), (eA0 (rf 36) (ck 36) 8 u_29), (eA1 (rf 37) (ck 37) 8 u_32), (eA0 (rf 38) (ck 38) 24 u_35), (eA0 (rf 39) (ck 39) 12 u_38), (eA0 (rf 40) (ck 40) 264 u_41), (eA0 (rf 41) (ck 41) 128 u_44), (eA0 (rf 42) (ck 42) 128 u_47), (eA0 (rf 43) (ck 43) 128 u_50)] H := hP
  have hD : va_D A [(mq, .inr (12, mF (upd (upd (upd (upd (upd (upd (upd (upd (upd (upd g 12 (g 18)) 13 (g 19)) 14 (g 20)) 15 (g 21)) 16 (g 22)) 17 (g 23)) 58 (g 22)) 59 0) 67 0) 70 0) gl rf)), (eA0 (rf 24) (ck 24) 14 u_2), (eA0 (rf 28) (ck 28) 8 u_5), (eA0 (rf 29) (ck 29) 24 u_8), (eA0 (rf 30) (ck 30) 8 u_11), (eA0 (rf 31) (ck 31) 8 u_14), (eA0 (rf 32) (ck 32) 8 u_17), (eA0 (rf 33) (ck 33) 12 u_20), (eA1 (rf 34) (ck 34) 12 u_23), (eA1 (rf 35) (ck 35) 12 u_26), (eA0 (rf 36) (ck 36) 8 u_29), (eA1 (rf 37) (ck 37) 8 u_32), (eA0 (rf 38) (ck 38) 24 u_35), (eA0 (rf 39) (ck 39) 12 u_38), (eA0 (rf 40) (ck 40) 264 u_41), (eA0 (rf 41) (ck 41) 128 u_44), (eA0 (rf 42) (ck 42) 128 u_47), (eA0 (rf 43) (ck 43) 128 u_50)] := hD
  refine W.widen (k := 0) (n := 0) (by omega) (by omega) ?_
  have hP9 := hP
  have hD9 := hD
  have hK9 := hK.sub (tys' := []) [] rfl
  exact W.vret hx hb hr (fun t ht hW => ⟨⟨((g 18), (g 19), (g 20), (g 21), (g 22), (g 23), (g 22), 0, 0, 0, u_2, u_5, u_8, u_11, u_14, u_17, u_20, u_23, u_26, u_29, u_32, u_35, u_38, u_41, u_44, u_47, u_50), rfl, (Eq.symm ((by rw [fq_keepText]; (try rw [← hq_u_2]); (try rw [xL_eq]); (try rw [← hq_u_5]); (try rw [xL_eq]); (try rw [← hq_u_8]); (try rw [xL_eq]); (try rw [← hq_u_11]); (try rw [xL_eq]); (try rw [← hq_u_14]); (try rw [xL_eq]); (try rw [← hq_u_17]); (try rw [xL_eq]); (try rw [← hq_u_20]); (try rw [xL_eq]); (try rw [← hq_u_23]); (try rw [xL_eq]); (try rw [← hq_u_26]); (try rw [xL_eq]); (try rw [← hq_u_29]); (try rw [xL_eq]); (try rw [← hq_u_32]); (try rw [xL_eq]); (try rw [← hq_u_35]); (try rw [xL_eq]); (try rw [← hq_u_38]); (try rw [xL_eq]); (try rw [← hq_u_41]); (try rw [xL_eq]); (try rw [← hq_u_44]); (try rw [xL_eq]); (try rw [← hq_u_47]); (try rw [xL_eq]); (try rw [← hq_u_50]); (try rw [xL_eq]); try rfl))), by rw [ht]; exact hP9, va_K.moved hW.alike hK9, hD9⟩, hS.F ht⟩) hS.2.2 dX12_keepText_219
