theorem dX12_feed_0 : decode cX12_feed 0 = .ok (.aload_n 0, 1) := by decide +kernel
theorem dX12_feed_1 : decode cX12_feed 1 = .ok (.iconst 0, 1) := by decide +kernel
theorem dX12_feed_2 : decode cX12_feed 2 = .ok (.putfield 119, 3) := by decide +kernel
theorem dX12_feed_5 : decode cX12_feed 5 = .ok (.aload_n 0, 1) := by decide +kernel
theorem dX12_feed_6 : decode cX12_feed 6 = .ok (.getfield 122, 3) := by decide +kernel
theorem dX12_feed_9 : decode cX12_feed 9 = .ok (.bipush 20, 2) := by decide +kernel
theorem dX12_feed_11 : decode cX12_feed 11 = .ok (.iadd, 1) := by decide +kernel
theorem dX12_feed_12 : decode cX12_feed 12 = .ok (.sipush 900, 3) := by decide +kernel
theorem dX12_feed_15 : decode cX12_feed 15 = .ok (.if_icmp .le 5, 3) := by decide +kernel
theorem dX12_feed_20 : decode cX12_feed 20 = .ok (.iconst 0, 1) := by decide +kernel
theorem dX12_feed_21 : decode cX12_feed 21 = .ok (.istore 6, 2) := by decide +kernel
theorem dX12_feed_23 : decode cX12_feed 23 = .ok (.iload 6, 2) := by decide +kernel
theorem dX12_feed_25 : decode cX12_feed 25 = .ok (.bipush 20, 2) := by decide +kernel
theorem dX12_feed_27 : decode cX12_feed 27 = .ok (.if_icmp .ge 86, 3) := by decide +kernel
theorem dX12_feed_30 : decode cX12_feed 30 = .ok (.iload 6, 2) := by decide +kernel
theorem dX12_feed_32 : decode cX12_feed 32 = .ok (.iconst 4, 1) := by decide +kernel
theorem dX12_feed_33 : decode cX12_feed 33 = .ok (.if_icmp .ge 7, 3) := by decide +kernel
theorem dX12_feed_36 : decode cX12_feed 36 = .ok (.iload_n 1, 1) := by decide +kernel
theorem dX12_feed_37 : decode cX12_feed 37 = .ok (.goto 39, 3) := by decide +kernel
theorem dX12_feed_76 : decode cX12_feed 76 = .ok (.istore 7, 2) := by decide +kernel
theorem dX12_feed_78 : decode cX12_feed 78 = .ok (.aload_n 0, 1) := by decide +kernel
theorem dX12_feed_79 : decode cX12_feed 79 = .ok (.getfield 7, 3) := by decide +kernel
theorem dX12_feed_82 : decode cX12_feed 82 = .ok (.aload_n 0, 1) := by decide +kernel
theorem dX12_feed_83 : decode cX12_feed 83 = .ok (.getfield 122, 3) := by decide +kernel
theorem dX12_feed_86 : decode cX12_feed 86 = .ok (.iload 6, 2) := by decide +kernel
theorem dX12_feed_88 : decode cX12_feed 88 = .ok (.iadd, 1) := by decide +kernel
theorem dX12_feed_89 : decode cX12_feed 89 = .ok (.iload 7, 2) := by decide +kernel
theorem dX12_feed_91 : decode cX12_feed 91 = .ok (.bipush 24, 2) := by decide +kernel
theorem dX12_feed_93 : decode cX12_feed 93 = .ok (.bipush 8, 2) := by decide +kernel
theorem dX12_feed_95 : decode cX12_feed 95 = .ok (.iload 6, 2) := by decide +kernel
theorem dX12_feed_97 : decode cX12_feed 97 = .ok (.iconst 4, 1) := by decide +kernel
theorem dX12_feed_98 : decode cX12_feed 98 = .ok (.irem, 1) := by decide +kernel
theorem dX12_feed_99 : decode cX12_feed 99 = .ok (.imul, 1) := by decide +kernel
theorem dX12_feed_100 : decode cX12_feed 100 = .ok (.isub, 1) := by decide +kernel
theorem dX12_feed_101 : decode cX12_feed 101 = .ok (.ishr, 1) := by decide +kernel
theorem dX12_feed_102 : decode cX12_feed 102 = .ok (.sipush 255, 3) := by decide +kernel
theorem dX12_feed_105 : decode cX12_feed 105 = .ok (.iand, 1) := by decide +kernel
theorem dX12_feed_106 : decode cX12_feed 106 = .ok (.iastore, 1) := by decide +kernel
theorem dX12_feed_107 : decode cX12_feed 107 = .ok (.iinc 6 1, 3) := by decide +kernel
theorem dX12_feed_110 : decode cX12_feed 110 = .ok (.goto (-87), 3) := by decide +kernel
theorem dX12_feed_40 : decode cX12_feed 40 = .ok (.iload 6, 2) := by decide +kernel
theorem dX12_feed_42 : decode cX12_feed 42 = .ok (.bipush 8, 2) := by decide +kernel
theorem dX12_feed_44 : decode cX12_feed 44 = .ok (.if_icmp .ge 7, 3) := by decide +kernel
theorem dX12_feed_47 : decode cX12_feed 47 = .ok (.iload_n 2, 1) := by decide +kernel
theorem dX12_feed_48 : decode cX12_feed 48 = .ok (.goto 28, 3) := by decide +kernel
theorem dX12_feed_51 : decode cX12_feed 51 = .ok (.iload 6, 2) := by decide +kernel
theorem dX12_feed_53 : decode cX12_feed 53 = .ok (.bipush 12, 2) := by decide +kernel
theorem dX12_feed_55 : decode cX12_feed 55 = .ok (.if_icmp .ge 7, 3) := by decide +kernel
theorem dX12_feed_58 : decode cX12_feed 58 = .ok (.iload_n 3, 1) := by decide +kernel
theorem dX12_feed_59 : decode cX12_feed 59 = .ok (.goto 17, 3) := by decide +kernel
theorem dX12_feed_62 : decode cX12_feed 62 = .ok (.iload 6, 2) := by decide +kernel
theorem dX12_feed_64 : decode cX12_feed 64 = .ok (.bipush 16, 2) := by decide +kernel
theorem dX12_feed_66 : decode cX12_feed 66 = .ok (.if_icmp .ge 8, 3) := by decide +kernel
theorem dX12_feed_69 : decode cX12_feed 69 = .ok (.iload 4, 2) := by decide +kernel
theorem dX12_feed_71 : decode cX12_feed 71 = .ok (.goto 5, 3) := by decide +kernel
theorem dX12_feed_74 : decode cX12_feed 74 = .ok (.iload 5, 2) := by decide +kernel
theorem dX12_feed_113 : decode cX12_feed 113 = .ok (.aload_n 0, 1) := by decide +kernel
theorem dX12_feed_114 : decode cX12_feed 114 = .ok (.dup, 1) := by decide +kernel
theorem dX12_feed_115 : decode cX12_feed 115 = .ok (.getfield 122, 3) := by decide +kernel
theorem dX12_feed_118 : decode cX12_feed 118 = .ok (.bipush 20, 2) := by decide +kernel
theorem dX12_feed_120 : decode cX12_feed 120 = .ok (.iadd, 1) := by decide +kernel
theorem dX12_feed_121 : decode cX12_feed 121 = .ok (.putfield 122, 3) := by decide +kernel
theorem dX12_feed_124 : decode cX12_feed 124 = .ok (.aload_n 0, 1) := by decide +kernel
theorem dX12_feed_125 : decode cX12_feed 125 = .ok (.getfield 122, 3) := by decide +kernel
theorem dX12_feed_128 : decode cX12_feed 128 = .ok (.ireturn, 1) := by decide +kernel
set_option maxHeartbeats 4000000 in
set_option maxRecDepth 100000 in
theorem mm_feed (l : Launch) (dC : Nat → ClassId) (dI : Nat → Nat → Nat) (mq : Nat) (fs : List Value) (mtp : Nat) (cT : ClassId) (fT : Nat → Int32) (a0 : Int32) (a1 : Int32) (a2 : Int32) (a3 : Int32) (a4 : Int32) (sz : Nat) (hlen : fs.length = 76) (hf1 : fs[1]? = some (.int 0)) (hf0 : fs[0]? = some (.ref mtp)) : Met l yX12_feed (Cond.code yX12_feed cX12_feed 8 (some .int) :: wsL_law) ({ frames := 0, cells := 0, slots := 0, locals := 0 }) (va_Pc [.ref mq, .int a0, .int a1, .int a2, .int a3, .int a4] (fun U => U.heap.size = sz ∧ va_P (dC, dI) vwCl [(mq, .inr (12, fs)), (mtp, .inl (cT, 900, .inl fT))] U.heap ∧ va_K (dC, dI) vwCl [(cT, .int)] U ∧ va_D (fun _ => True) [(mq, .inr (12, fs)), (mtp, .inl (cT, 900, .inl fT))])) (va_Qi (fun (r : Int32) (u : Unit) => r = 20) (fun _ _ => True) (va_A [(mq, .inr (12, fs)), (mtp, .inl (cT, 900, .inl fT))] sz)) 0 0 (va_A [(mq, .inr (12, fs)), (mtp, .inl (cT, 900, .inl fT))] sz) := by
  refine Met.ofW (cc := cX12_feed) (maxL := 8) (ret := (some .int)) (by decide) rfl ?_
  intro p e s m args below meth c s₁ B hml hv
  obtain ⟨rfl, hsz, hP, hK, hD0⟩ := hv
  have hx := B.exec
  have hb := B.bytes
  have hr := B.returns
  have hts := atoms_spec (ws := Cond.code yX12_feed cX12_feed 8 (some .int) :: wsL_law) B.pre
  have htw : ∀ w ∈ wsL_law, w.before _ s = true := fun w h => hts w (List.mem_cons_of_mem _ h)
  have hown : s.vm.findClass RX12 = some m.cls := findClass_of_methodNamed B.named
  have hlocks := B.notSynchronized
  subst hsz
  have hD := hD0.self (sz := s.heap.size)
  generalize hAe : va_A [(mq, .inr (12, fs)), (mtp, .inl (cT, 900, .inl fT))] s.heap.size = A at hD ⊢
  have hA : ∀ q : Nat, s.heap.size ≤ q → A q := fun q h => by rw [← hAe]; exact Or.inr h
  obtain ⟨H, rH⟩ : ∃ z : Heap, z = s.heap := ⟨_, rfl⟩
  have hS : va_S A s.heap H [] := by rw [rH]; exact va_S.rf
  have hP : va_P (dC, dI) vwCl [(mq, .inr (12, fs)), (mtp, .inl (cT, 900, .inl fT))] H := by rw [rH]; exact hP
  rw [← rH]
  have hl := lv_entry ([.ref mq, .int a0, .int a1, .int a2, .int a3, .int a4]) (n := 8) (Nat.le_of_ble_eq_true rfl)
  rw [lg_entry_eq]
  generalize (lg_sl ([.ref mq, .int a0, .int a1, .int a2, .int a3, .int a4]) ++ List.replicate (8 - (lg_sl ([.ref mq, .int a0, .int a1, .int a2, .int a3, .int a4])).length) Slot.unset).toArray = ls at hl ⊢
  have hl : lv_has ls 8 [(0, .ref mq), (1, .int a0), (2, .int a1), (3, .int a2), (4, .int a3), (5, .int a4)] := hl
  refine lv_aload_n hx hb dX12_feed_0 rfl (lv_at hl 0 rfl) ?_
  refine lv_iconst (v := 0) hx hb dX12_feed_1 (by decide) ?_
  refine va_put (D := (dC, dI)) (ci := 12) (v := .int 0) (ty := tyX12 2) (C := RX12) (T := TX12) (N := 76) hx hb htw inlX12 tyX12 tyX12_ok nmX12 hown hK hP hD hS 0 rfl rfl 2 (by decide) (htw _ (ck_12 _ (List.mem_of_getElem? (i := 16) rfl))) (fun _ h9 => h9) rfl (by decide +kernel) rfl rfl (by rw [hlen]; decide) dX12_feed_2 (fun H locs hP hD hS => ?_)
  obtain ⟨fs_1, efs_1⟩ : ∃ g : List Value, g = (fs).set 2 (.int 0) := ⟨_, rfl⟩
  have hlen_2 : fs_1.length = 76 := by rw [efs_1, List.length_set]; exact hlen
  have hf_3 : fs_1[1]? = some (.int 0) := by rw [efs_1, List.getElem?_set_ne (by decide)]; exact hf1
  have hf_4 : fs_1[0]? = some (.ref mtp) := by rw [efs_1, List.getElem?_set_ne (by decide)]; exact hf0
  have hf_5 : fs_1[2]? = some (.int 0) := by rw [efs_1]; exact List.getElem?_set_self (by rw [hlen]; decide)
  rw [← efs_1] at hP hD
  have hP : va_P (dC, dI) vwCl [(mq, .inr (12, fs_1)), (mtp, .inl (cT, 900, .inl fT))] H := hP
  have hD : va_D A [(mq, .inr (12, fs_1)), (mtp, .inl (cT, 900, .inl fT))] := hD
  refine lv_aload_n hx hb dX12_feed_5 rfl (lv_at hl 0 rfl) ?_
  refine va_get (D := (dC, dI)) (ci := 12) (v := .int 0) (C := RX12) (T := TX12) (N := 76) hx hb htw inlX12 hown hK hP 0 rfl rfl 1 (by decide) (htw _ (ck_12 _ (List.mem_of_getElem? (i := 17) rfl))) (fun _ h9 => h9) hf_3 dX12_feed_6 ?_
  refine lv_bipush (v := 20) hx hb dX12_feed_9 (by decide) ?_
  refine lv_iadd hx hb dX12_feed_11 ?_
  refine lv_topi (fun z_6 ez_6 => ?_)
  obtain rfl : z_6 = 20 := ez_6.trans (by decide)
  refine lv_sipush (v := 900) hx hb dX12_feed_12 (by decide) ?_
  refine lv_icmp_le (tgt := 20) hx hb dX12_feed_15 (by decide) (fun _ => ?_) (fun c => absurd c (by decide))
  refine lv_iconst (v := 0) hx hb dX12_feed_20 (by decide) ?_
  refine lv_istore (lv' := [(6, .int 0), (0, .ref mq), (1, .int a0), (2, .int a1), (3, .int a2), (4, .int a3), (5, .int a4)]) hx hb dX12_feed_21 hl (by decide) rfl (fun ls hl => ?_)
  refine lv_iload hx hb dX12_feed_23 (lv_at hl 0 rfl) ?_
  refine lv_bipush (v := 20) hx hb dX12_feed_25 (by decide) ?_
  refine lv_icmp_ge (tgt := 113) hx hb dX12_feed_27 (by decide) (fun c => absurd c (by decide)) (fun _ => ?_)
  refine lv_iload hx hb dX12_feed_30 (lv_at hl 0 rfl) ?_
  refine lv_iconst (v := 4) hx hb dX12_feed_32 (by decide) ?_
  refine lv_icmp_ge (tgt := 40) hx hb dX12_feed_33 (by decide) (fun c => absurd c (by decide)) (fun _ => ?_)
  refine lv_iload_n hx hb dX12_feed_36 rfl (lv_at hl 2 rfl) ?_
  refine lv_goto (tgt := 76) hx hb dX12_feed_37 (by decide) ?_
  refine lv_istore (lv' := [(7, .int a0), (6, .int 0), (0, .ref mq), (1, .int a0), (2, .int a1), (3, .int a2), (4, .int a3), (5, .int a4)]) hx hb dX12_feed_76 hl (by decide) rfl (fun ls hl => ?_)
  refine lv_aload_n hx hb dX12_feed_78 rfl (lv_at hl 2 rfl) ?_
  refine va_get (D := (dC, dI)) (ci := 12) (v := .ref mtp) (C := RX12) (T := TX12) (N := 76) hx hb htw inlX12 hown hK hP 0 rfl rfl 0 (by decide) (htw _ (ck_9 _ (List.mem_of_getElem? (i := 4) rfl))) (fun _ h9 => h9) hf_4 dX12_feed_79 ?_
  refine lv_aload_n hx hb dX12_feed_82 rfl (lv_at hl 2 rfl) ?_
  refine va_get (D := (dC, dI)) (ci := 12) (v := .int 0) (C := RX12) (T := TX12) (N := 76) hx hb htw inlX12 hown hK hP 0 rfl rfl 1 (by decide) (htw _ (ck_12 _ (List.mem_of_getElem? (i := 17) rfl))) (fun _ h9 => h9) hf_3 dX12_feed_83 ?_
  refine lv_iload hx hb dX12_feed_86 (lv_at hl 1 rfl) ?_
  refine lv_iadd hx hb dX12_feed_88 ?_
  refine lv_topi (fun z_7 ez_7 => ?_)
  obtain rfl : z_7 = 0 := ez_7.trans (by decide)
  refine lv_iload hx hb dX12_feed_89 (lv_at hl 0 rfl) ?_
  refine lv_bipush (v := 24) hx hb dX12_feed_91 (by decide) ?_
  refine lv_bipush (v := 8) hx hb dX12_feed_93 (by decide) ?_
  refine lv_iload hx hb dX12_feed_95 (lv_at hl 1 rfl) ?_
  refine lv_iconst (v := 4) hx hb dX12_feed_97 (by decide) ?_
  refine lv_irem hx hb dX12_feed_98 (by decide) ?_
  refine lv_topi (fun z_8 ez_8 => ?_)
  obtain rfl : z_8 = 0 := ez_8.trans (by decide)
  refine lv_imul hx hb dX12_feed_99 ?_
  refine lv_topi (fun z_9 ez_9 => ?_)
  obtain rfl : z_9 = 0 := ez_9.trans (by decide)
  refine lv_isub hx hb dX12_feed_100 ?_
  refine lv_topi (fun z_10 ez_10 => ?_)
  obtain rfl : z_10 = 24 := ez_10.trans (by decide)
  refine lv_ishr hx hb dX12_feed_101 ?_
  refine lv_sipush (v := 255) hx hb dX12_feed_102 (by decide) ?_
  refine lv_iand hx hb dX12_feed_105 ?_
  refine xg_iast hx hb hK hP hD hS 1 0 rfl rfl (by unfold vp_in; decide) dX12_feed_106 (fun f_11 H locs hP hD hS => ?_)
  have hP : va_P (dC, dI) vwCl [(mq, .inr (12, fs_1)), (mtp, .inl (cT, 900, .inl f_11))] H := hP
  have hD : va_D A [(mq, .inr (12, fs_1)), (mtp, .inl (cT, 900, .inl f_11))] := hD
  refine lv_iinc (v := 1) (lv' := [(6, .int 1), (7, .int a0), (0, .ref mq), (1, .int a0), (2, .int a1), (3, .int a2), (4, .int a3), (5, .int a4)]) hx hb dX12_feed_107 hl (k := 1) rfl (by decide) (by decide) rfl (fun ls hl => ?_)
  refine lv_goto (tgt := 23) hx hb dX12_feed_110 (by decide) ?_
  refine lv_iload hx hb dX12_feed_23 (lv_at hl 0 rfl) ?_
  refine lv_bipush (v := 20) hx hb dX12_feed_25 (by decide) ?_
  refine lv_icmp_ge (tgt := 113) hx hb dX12_feed_27 (by decide) (fun c => absurd c (by decide)) (fun _ => ?_)
  refine lv_iload hx hb dX12_feed_30 (lv_at hl 0 rfl) ?_
  refine lv_iconst (v := 4) hx hb dX12_feed_32 (by decide) ?_
  refine lv_icmp_ge (tgt := 40) hx hb dX12_feed_33 (by decide) (fun c => absurd c (by decide)) (fun _ => ?_)
  refine lv_iload_n hx hb dX12_feed_36 rfl (lv_at hl 3 rfl) ?_
  refine lv_goto (tgt := 76) hx hb dX12_feed_37 (by decide) ?_
  refine lv_istore (lv' := [(7, .int a0), (6, .int 1), (0, .ref mq), (1, .int a0), (2, .int a1), (3, .int a2), (4, .int a3), (5, .int a4)]) hx hb dX12_feed_76 hl (by decide) rfl (fun ls hl => ?_)
  refine lv_aload_n hx hb dX12_feed_78 rfl (lv_at hl 2 rfl) ?_
  refine va_get (D := (dC, dI)) (ci := 12) (v := .ref mtp) (C := RX12) (T := TX12) (N := 76) hx hb htw inlX12 hown hK hP 0 rfl rfl 0 (by decide) (htw _ (ck_9 _ (List.mem_of_getElem? (i := 4) rfl))) (fun _ h9 => h9) hf_4 dX12_feed_79 ?_
  refine lv_aload_n hx hb dX12_feed_82 rfl (lv_at hl 2 rfl) ?_
  refine va_get (D := (dC, dI)) (ci := 12) (v := .int 0) (C := RX12) (T := TX12) (N := 76) hx hb htw inlX12 hown hK hP 0 rfl rfl 1 (by decide) (htw _ (ck_12 _ (List.mem_of_getElem? (i := 17) rfl))) (fun _ h9 => h9) hf_3 dX12_feed_83 ?_
  refine lv_iload hx hb dX12_feed_86 (lv_at hl 1 rfl) ?_
  refine lv_iadd hx hb dX12_feed_88 ?_
  refine lv_topi (fun z_12 ez_12 => ?_)
  obtain rfl : z_12 = 1 := ez_12.trans (by decide)
  refine lv_iload hx hb dX12_feed_89 (lv_at hl 0 rfl) ?_
  refine lv_bipush (v := 24) hx hb dX12_feed_91 (by decide) ?_
  refine lv_bipush (v := 8) hx hb dX12_feed_93 (by decide) ?_
  refine lv_iload hx hb dX12_feed_95 (lv_at hl 1 rfl) ?_
  refine lv_iconst (v := 4) hx hb dX12_feed_97 (by decide) ?_
  refine lv_irem hx hb dX12_feed_98 (by decide) ?_
  refine lv_topi (fun z_13 ez_13 => ?_)
  obtain rfl : z_13 = 1 := ez_13.trans (by decide)
  refine lv_imul hx hb dX12_feed_99 ?_
  refine lv_topi (fun z_14 ez_14 => ?_)
  obtain rfl : z_14 = 8 := ez_14.trans (by decide)
  refine lv_isub hx hb dX12_feed_100 ?_
  refine lv_topi (fun z_15 ez_15 => ?_)
  obtain rfl : z_15 = 16 := ez_15.trans (by decide)
  refine lv_ishr hx hb dX12_feed_101 ?_
  refine lv_sipush (v := 255) hx hb dX12_feed_102 (by decide) ?_
  refine lv_iand hx hb dX12_feed_105 ?_
  refine xg_iast hx hb hK hP hD hS 1 0 rfl rfl (by unfold vp_in; decide) dX12_feed_106 (fun f_16 H locs hP hD hS => ?_)
  have hP : va_P (dC, dI) vwCl [(mq, .inr (12, fs_1)), (mtp, .inl (cT, 900, .inl f_16))] H := hP
  have hD : va_D A [(mq, .inr (12, fs_1)), (mtp, .inl (cT, 900, .inl f_16))] := hD
  refine lv_iinc (v := 2) (lv' := [(6, .int 2), (7, .int a0), (0, .ref mq), (1, .int a0), (2, .int a1), (3, .int a2), (4, .int a3), (5, .int a4)]) hx hb dX12_feed_107 hl (k := 1) rfl (by decide) (by decide) rfl (fun ls hl => ?_)
  refine lv_goto (tgt := 23) hx hb dX12_feed_110 (by decide) ?_
  refine lv_iload hx hb dX12_feed_23 (lv_at hl 0 rfl) ?_
  refine lv_bipush (v := 20) hx hb dX12_feed_25 (by decide) ?_
  refine lv_icmp_ge (tgt := 113) hx hb dX12_feed_27 (by decide) (fun c => absurd c (by decide)) (fun _ => ?_)
  refine lv_iload hx hb dX12_feed_30 (lv_at hl 0 rfl) ?_
  refine lv_iconst (v := 4) hx hb dX12_feed_32 (by decide) ?_
  refine lv_icmp_ge (tgt := 40) hx hb dX12_feed_33 (by decide) (fun c => absurd c (by decide)) (fun _ => ?_)
  refine lv_iload_n hx hb dX12_feed_36 rfl (lv_at hl 3 rfl) ?_
  refine lv_goto (tgt := 76) hx hb dX12_feed_37 (by decide) ?_
  refine lv_istore (lv' := [(7, .int a0), (6, .int 2), (0, .ref mq), (1, .int a0), (2, .int a1), (3, .int a2), (4, .int a3), (5, .int a4)]) hx hb dX12_feed_76 hl (by decide) rfl (fun ls hl => ?_)
  refine lv_aload_n hx hb dX12_feed_78 rfl (lv_at hl 2 rfl) ?_
  refine va_get (D := (dC, dI)) (ci := 12) (v := .ref mtp) (C := RX12) (T := TX12) (N := 76) hx hb htw inlX12 hown hK hP 0 rfl rfl 0 (by decide) (htw _ (ck_9 _ (List.mem_of_getElem? (i := 4) rfl))) (fun _ h9 => h9) hf_4 dX12_feed_79 ?_
  refine lv_aload_n hx hb dX12_feed_82 rfl (lv_at hl 2 rfl) ?_
  refine va_get (D := (dC, dI)) (ci := 12) (v := .int 0) (C := RX12) (T := TX12) (N := 76) hx hb htw inlX12 hown hK hP 0 rfl rfl 1 (by decide) (htw _ (ck_12 _ (List.mem_of_getElem? (i := 17) rfl))) (fun _ h9 => h9) hf_3 dX12_feed_83 ?_
  refine lv_iload hx hb dX12_feed_86 (lv_at hl 1 rfl) ?_
  refine lv_iadd hx hb dX12_feed_88 ?_
  refine lv_topi (fun z_17 ez_17 => ?_)
  obtain rfl : z_17 = 2 := ez_17.trans (by decide)
  refine lv_iload hx hb dX12_feed_89 (lv_at hl 0 rfl) ?_
  refine lv_bipush (v := 24) hx hb dX12_feed_91 (by decide) ?_
  refine lv_bipush (v := 8) hx hb dX12_feed_93 (by decide) ?_
  refine lv_iload hx hb dX12_feed_95 (lv_at hl 1 rfl) ?_
  refine lv_iconst (v := 4) hx hb dX12_feed_97 (by decide) ?_
  refine lv_irem hx hb dX12_feed_98 (by decide) ?_
  refine lv_topi (fun z_18 ez_18 => ?_)
  obtain rfl : z_18 = 2 := ez_18.trans (by decide)
  refine lv_imul hx hb dX12_feed_99 ?_
  refine lv_topi (fun z_19 ez_19 => ?_)
  obtain rfl : z_19 = 16 := ez_19.trans (by decide)
  refine lv_isub hx hb dX12_feed_100 ?_
  refine lv_topi (fun z_20 ez_20 => ?_)
  obtain rfl : z_20 = 8 := ez_20.trans (by decide)
  refine lv_ishr hx hb dX12_feed_101 ?_
  refine lv_sipush (v := 255) hx hb dX12_feed_102 (by decide) ?_
  refine lv_iand hx hb dX12_feed_105 ?_
  refine xg_iast hx hb hK hP hD hS 1 0 rfl rfl (by unfold vp_in; decide) dX12_feed_106 (fun f_21 H locs hP hD hS => ?_)
  have hP : va_P (dC, dI) vwCl [(mq, .inr (12, fs_1)), (mtp, .inl (cT, 900, .inl f_21))] H := hP
  have hD : va_D A [(mq, .inr (12, fs_1)), (mtp, .inl (cT, 900, .inl f_21))] := hD
  refine lv_iinc (v := 3) (lv' := [(6, .int 3), (7, .int a0), (0, .ref mq), (1, .int a0), (2, .int a1), (3, .int a2), (4, .int a3), (5, .int a4)]) hx hb dX12_feed_107 hl (k := 1) rfl (by decide) (by decide) rfl (fun ls hl => ?_)
  refine lv_goto (tgt := 23) hx hb dX12_feed_110 (by decide) ?_
  refine lv_iload hx hb dX12_feed_23 (lv_at hl 0 rfl) ?_
  refine lv_bipush (v := 20) hx hb dX12_feed_25 (by decide) ?_
  refine lv_icmp_ge (tgt := 113) hx hb dX12_feed_27 (by decide) (fun c => absurd c (by decide)) (fun _ => ?_)
  refine lv_iload hx hb dX12_feed_30 (lv_at hl 0 rfl) ?_
  refine lv_iconst (v := 4) hx hb dX12_feed_32 (by decide) ?_
  refine lv_icmp_ge (tgt := 40) hx hb dX12_feed_33 (by decide) (fun c => absurd c (by decide)) (fun _ => ?_)
  refine lv_iload_n hx hb dX12_feed_36 rfl (lv_at hl 3 rfl) ?_
  refine lv_goto (tgt := 76) hx hb dX12_feed_37 (by decide) ?_
  refine lv_istore (lv' := [(7, .int a0), (6, .int 3), (0, .ref mq), (1, .int a0), (2, .int a1), (3, .int a2), (4, .int a3), (5, .int a4)]) hx hb dX12_feed_76 hl (by decide) rfl (fun ls hl => ?_)
  refine lv_aload_n hx hb dX12_feed_78 rfl (lv_at hl 2 rfl) ?_
  refine va_get (D := (dC, dI)) (ci := 12) (v := .ref mtp) (C := RX12) (T := TX12) (N := 76) hx hb htw inlX12 hown hK hP 0 rfl rfl 0 (by decide) (htw _ (ck_9 _ (List.mem_of_getElem? (i := 4) rfl))) (fun _ h9 => h9) hf_4 dX12_feed_79 ?_
  refine lv_aload_n hx hb dX12_feed_82 rfl (lv_at hl 2 rfl) ?_
  refine va_get (D := (dC, dI)) (ci := 12) (v := .int 0) (C := RX12) (T := TX12) (N := 76) hx hb htw inlX12 hown hK hP 0 rfl rfl 1 (by decide) (htw _ (ck_12 _ (List.mem_of_getElem? (i := 17) rfl))) (fun _ h9 => h9) hf_3 dX12_feed_83 ?_
  refine lv_iload hx hb dX12_feed_86 (lv_at hl 1 rfl) ?_
  refine lv_iadd hx hb dX12_feed_88 ?_
  refine lv_topi (fun z_22 ez_22 => ?_)
  obtain rfl : z_22 = 3 := ez_22.trans (by decide)
  refine lv_iload hx hb dX12_feed_89 (lv_at hl 0 rfl) ?_
  refine lv_bipush (v := 24) hx hb dX12_feed_91 (by decide) ?_
  refine lv_bipush (v := 8) hx hb dX12_feed_93 (by decide) ?_
  refine lv_iload hx hb dX12_feed_95 (lv_at hl 1 rfl) ?_
  refine lv_iconst (v := 4) hx hb dX12_feed_97 (by decide) ?_
  refine lv_irem hx hb dX12_feed_98 (by decide) ?_
  refine lv_topi (fun z_23 ez_23 => ?_)
  obtain rfl : z_23 = 3 := ez_23.trans (by decide)
  refine lv_imul hx hb dX12_feed_99 ?_
  refine lv_topi (fun z_24 ez_24 => ?_)
  obtain rfl : z_24 = 24 := ez_24.trans (by decide)
  refine lv_isub hx hb dX12_feed_100 ?_
  refine lv_topi (fun z_25 ez_25 => ?_)
  obtain rfl : z_25 = 0 := ez_25.trans (by decide)
  refine lv_ishr hx hb dX12_feed_101 ?_
  refine lv_sipush (v := 255) hx hb dX12_feed_102 (by decide) ?_
  refine lv_iand hx hb dX12_feed_105 ?_
  refine xg_iast hx hb hK hP hD hS 1 0 rfl rfl (by unfold vp_in; decide) dX12_feed_106 (fun f_26 H locs hP hD hS => ?_)
  have hP : va_P (dC, dI) vwCl [(mq, .inr (12, fs_1)), (mtp, .inl (cT, 900, .inl f_26))] H := hP
  have hD : va_D A [(mq, .inr (12, fs_1)), (mtp, .inl (cT, 900, .inl f_26))] := hD
  refine lv_iinc (v := 4) (lv' := [(6, .int 4), (7, .int a0), (0, .ref mq), (1, .int a0), (2, .int a1), (3, .int a2), (4, .int a3), (5, .int a4)]) hx hb dX12_feed_107 hl (k := 1) rfl (by decide) (by decide) rfl (fun ls hl => ?_)
  refine lv_goto (tgt := 23) hx hb dX12_feed_110 (by decide) ?_
  refine lv_iload hx hb dX12_feed_23 (lv_at hl 0 rfl) ?_
  refine lv_bipush (v := 20) hx hb dX12_feed_25 (by decide) ?_
  refine lv_icmp_ge (tgt := 113) hx hb dX12_feed_27 (by decide) (fun c => absurd c (by decide)) (fun _ => ?_)
  refine lv_iload hx hb dX12_feed_30 (lv_at hl 0 rfl) ?_
  refine lv_iconst (v := 4) hx hb dX12_feed_32 (by decide) ?_
  refine lv_icmp_ge (tgt := 40) hx hb dX12_feed_33 (by decide) (fun _ => ?_) (fun c => absurd c (by decide))
  refine lv_iload hx hb dX12_feed_40 (lv_at hl 0 rfl) ?_
  refine lv_bipush (v := 8) hx hb dX12_feed_42 (by decide) ?_
  refine lv_icmp_ge (tgt := 51) hx hb dX12_feed_44 (by decide) (fun c => absurd c (by decide)) (fun _ => ?_)
  refine lv_iload_n hx hb dX12_feed_47 rfl (lv_at hl 4 rfl) ?_
  refine lv_goto (tgt := 76) hx hb dX12_feed_48 (by decide) ?_
  refine lv_istore (lv' := [(7, .int a1), (6, .int 4), (0, .ref mq), (1, .int a0), (2, .int a1), (3, .int a2), (4, .int a3), (5, .int a4)]) hx hb dX12_feed_76 hl (by decide) rfl (fun ls hl => ?_)
  refine lv_aload_n hx hb dX12_feed_78 rfl (lv_at hl 2 rfl) ?_
  refine va_get (D := (dC, dI)) (ci := 12) (v := .ref mtp) (C := RX12) (T := TX12) (N := 76) hx hb htw inlX12 hown hK hP 0 rfl rfl 0 (by decide) (htw _ (ck_9 _ (List.mem_of_getElem? (i := 4) rfl))) (fun _ h9 => h9) hf_4 dX12_feed_79 ?_
  refine lv_aload_n hx hb dX12_feed_82 rfl (lv_at hl 2 rfl) ?_
  refine va_get (D := (dC, dI)) (ci := 12) (v := .int 0) (C := RX12) (T := TX12) (N := 76) hx hb htw inlX12 hown hK hP 0 rfl rfl 1 (by decide) (htw _ (ck_12 _ (List.mem_of_getElem? (i := 17) rfl))) (fun _ h9 => h9) hf_3 dX12_feed_83 ?_
  refine lv_iload hx hb dX12_feed_86 (lv_at hl 1 rfl) ?_
  refine lv_iadd hx hb dX12_feed_88 ?_
  refine lv_topi (fun z_27 ez_27 => ?_)
  obtain rfl : z_27 = 4 := ez_27.trans (by decide)
  refine lv_iload hx hb dX12_feed_89 (lv_at hl 0 rfl) ?_
  refine lv_bipush (v := 24) hx hb dX12_feed_91 (by decide) ?_
  refine lv_bipush (v := 8) hx hb dX12_feed_93 (by decide) ?_
  refine lv_iload hx hb dX12_feed_95 (lv_at hl 1 rfl) ?_
  refine lv_iconst (v := 4) hx hb dX12_feed_97 (by decide) ?_
  refine lv_irem hx hb dX12_feed_98 (by decide) ?_
  refine lv_topi (fun z_28 ez_28 => ?_)
  obtain rfl : z_28 = 0 := ez_28.trans (by decide)
  refine lv_imul hx hb dX12_feed_99 ?_
  refine lv_topi (fun z_29 ez_29 => ?_)
  obtain rfl : z_29 = 0 := ez_29.trans (by decide)
  refine lv_isub hx hb dX12_feed_100 ?_
  refine lv_topi (fun z_30 ez_30 => ?_)
  obtain rfl : z_30 = 24 := ez_30.trans (by decide)
  refine lv_ishr hx hb dX12_feed_101 ?_
  refine lv_sipush (v := 255) hx hb dX12_feed_102 (by decide) ?_
  refine lv_iand hx hb dX12_feed_105 ?_
  refine xg_iast hx hb hK hP hD hS 1 0 rfl rfl (by unfold vp_in; decide) dX12_feed_106 (fun f_31 H locs hP hD hS => ?_)
  have hP : va_P (dC, dI) vwCl [(mq, .inr (12, fs_1)), (mtp, .inl (cT, 900, .inl f_31))] H := hP
  have hD : va_D A [(mq, .inr (12, fs_1)), (mtp, .inl (cT, 900, .inl f_31))] := hD
  refine lv_iinc (v := 5) (lv' := [(6, .int 5), (7, .int a1), (0, .ref mq), (1, .int a0), (2, .int a1), (3, .int a2), (4, .int a3), (5, .int a4)]) hx hb dX12_feed_107 hl (k := 1) rfl (by decide) (by decide) rfl (fun ls hl => ?_)
  refine lv_goto (tgt := 23) hx hb dX12_feed_110 (by decide) ?_
  refine lv_iload hx hb dX12_feed_23 (lv_at hl 0 rfl) ?_
  refine lv_bipush (v := 20) hx hb dX12_feed_25 (by decide) ?_
  refine lv_icmp_ge (tgt := 113) hx hb dX12_feed_27 (by decide) (fun c => absurd c (by decide)) (fun _ => ?_)
  refine lv_iload hx hb dX12_feed_30 (lv_at hl 0 rfl) ?_
  refine lv_iconst (v := 4) hx hb dX12_feed_32 (by decide) ?_
  refine lv_icmp_ge (tgt := 40) hx hb dX12_feed_33 (by decide) (fun _ => ?_) (fun c => absurd c (by decide))
  refine lv_iload hx hb dX12_feed_40 (lv_at hl 0 rfl) ?_
  refine lv_bipush (v := 8) hx hb dX12_feed_42 (by decide) ?_
  refine lv_icmp_ge (tgt := 51) hx hb dX12_feed_44 (by decide) (fun c => absurd c (by decide)) (fun _ => ?_)
  refine lv_iload_n hx hb dX12_feed_47 rfl (lv_at hl 4 rfl) ?_
  refine lv_goto (tgt := 76) hx hb dX12_feed_48 (by decide) ?_
  refine lv_istore (lv' := [(7, .int a1), (6, .int 5), (0, .ref mq), (1, .int a0), (2, .int a1), (3, .int a2), (4, .int a3), (5, .int a4)]) hx hb dX12_feed_76 hl (by decide) rfl (fun ls hl => ?_)
  refine lv_aload_n hx hb dX12_feed_78 rfl (lv_at hl 2 rfl) ?_
  refine va_get (D := (dC, dI)) (ci := 12) (v := .ref mtp) (C := RX12) (T := TX12) (N := 76) hx hb htw inlX12 hown hK hP 0 rfl rfl 0 (by decide) (htw _ (ck_9 _ (List.mem_of_getElem? (i := 4) rfl))) (fun _ h9 => h9) hf_4 dX12_feed_79 ?_
  refine lv_aload_n hx hb dX12_feed_82 rfl (lv_at hl 2 rfl) ?_
  refine va_get (D := (dC, dI)) (ci := 12) (v := .int 0) (C := RX12) (T := TX12) (N := 76) hx hb htw inlX12 hown hK hP 0 rfl rfl 1 (by decide) (htw _ (ck_12 _ (List.mem_of_getElem? (i := 17) rfl))) (fun _ h9 => h9) hf_3 dX12_feed_83 ?_
  refine lv_iload hx hb dX12_feed_86 (lv_at hl 1 rfl) ?_
  refine lv_iadd hx hb dX12_feed_88 ?_
  refine lv_topi (fun z_32 ez_32 => ?_)
  obtain rfl : z_32 = 5 := ez_32.trans (by decide)
  refine lv_iload hx hb dX12_feed_89 (lv_at hl 0 rfl) ?_
  refine lv_bipush (v := 24) hx hb dX12_feed_91 (by decide) ?_
  refine lv_bipush (v := 8) hx hb dX12_feed_93 (by decide) ?_
  refine lv_iload hx hb dX12_feed_95 (lv_at hl 1 rfl) ?_
  refine lv_iconst (v := 4) hx hb dX12_feed_97 (by decide) ?_
  refine lv_irem hx hb dX12_feed_98 (by decide) ?_
  refine lv_topi (fun z_33 ez_33 => ?_)
  obtain rfl : z_33 = 1 := ez_33.trans (by decide)
  refine lv_imul hx hb dX12_feed_99 ?_
  refine lv_topi (fun z_34 ez_34 => ?_)
  obtain rfl : z_34 = 8 := ez_34.trans (by decide)
  refine lv_isub hx hb dX12_feed_100 ?_
  refine lv_topi (fun z_35 ez_35 => ?_)
  obtain rfl : z_35 = 16 := ez_35.trans (by decide)
  refine lv_ishr hx hb dX12_feed_101 ?_
  refine lv_sipush (v := 255) hx hb dX12_feed_102 (by decide) ?_
  refine lv_iand hx hb dX12_feed_105 ?_
  refine xg_iast hx hb hK hP hD hS 1 0 rfl rfl (by unfold vp_in; decide) dX12_feed_106 (fun f_36 H locs hP hD hS => ?_)
  have hP : va_P (dC, dI) vwCl [(mq, .inr (12, fs_1)), (mtp, .inl (cT, 900, .inl f_36))] H := hP
  have hD : va_D A [(mq, .inr (12, fs_1)), (mtp, .inl (cT, 900, .inl f_36))] := hD
  refine lv_iinc (v := 6) (lv' := [(6, .int 6), (7, .int a1), (0, .ref mq), (1, .int a0), (2, .int a1), (3, .int a2), (4, .int a3), (5, .int a4)]) hx hb dX12_feed_107 hl (k := 1) rfl (by decide) (by decide) rfl (fun ls hl => ?_)
  refine lv_goto (tgt := 23) hx hb dX12_feed_110 (by decide) ?_
  refine lv_iload hx hb dX12_feed_23 (lv_at hl 0 rfl) ?_
  refine lv_bipush (v := 20) hx hb dX12_feed_25 (by decide) ?_
  refine lv_icmp_ge (tgt := 113) hx hb dX12_feed_27 (by decide) (fun c => absurd c (by decide)) (fun _ => ?_)
  refine lv_iload hx hb dX12_feed_30 (lv_at hl 0 rfl) ?_
  refine lv_iconst (v := 4) hx hb dX12_feed_32 (by decide) ?_
  refine lv_icmp_ge (tgt := 40) hx hb dX12_feed_33 (by decide) (fun _ => ?_) (fun c => absurd c (by decide))
  refine lv_iload hx hb dX12_feed_40 (lv_at hl 0 rfl) ?_
  refine lv_bipush (v := 8) hx hb dX12_feed_42 (by decide) ?_
  refine lv_icmp_ge (tgt := 51) hx hb dX12_feed_44 (by decide) (fun c => absurd c (by decide)) (fun _ => ?_)
  refine lv_iload_n hx hb dX12_feed_47 rfl (lv_at hl 4 rfl) ?_
  refine lv_goto (tgt := 76) hx hb dX12_feed_48 (by decide) ?_
  refine lv_istore (lv' := [(7, .int a1), (6, .int 6), (0, .ref mq), (1, .int a0), (2, .int a1), (3, .int a2), (4, .int a3), (5, .int a4)]) hx hb dX12_feed_76 hl (by decide) rfl (fun ls hl => ?_)
  refine lv_aload_n hx hb dX12_feed_78 rfl (lv_at hl 2 rfl) ?_
  refine va_get (D := (dC, dI)) (ci := 12) (v := .ref mtp) (C := RX12) (T := TX12) (N := 76) hx hb htw inlX12 hown hK hP 0 rfl rfl 0 (by decide) (htw _ (ck_9 _ (List.mem_of_getElem? (i := 4) rfl))) (fun _ h9 => h9) hf_4 dX12_feed_79 ?_
  refine lv_aload_n hx hb dX12_feed_82 rfl (lv_at hl 2 rfl) ?_
  refine va_get (D := (dC, dI)) (ci := 12) (v := .int 0) (C := RX12) (T := TX12) (N := 76) hx hb htw inlX12 hown hK hP 0 rfl rfl 1 (by decide) (htw _ (ck_12 _ (List.mem_of_getElem? (i := 17) rfl))) (fun _ h9 => h9) hf_3 dX12_feed_83 ?_
  refine lv_iload hx hb dX12_feed_86 (lv_at hl 1 rfl) ?_
  refine lv_iadd hx hb dX12_feed_88 ?_
  refine lv_topi (fun z_37 ez_37 => ?_)
  obtain rfl : z_37 = 6 := ez_37.trans (by decide)
  refine lv_iload hx hb dX12_feed_89 (lv_at hl 0 rfl) ?_
  refine lv_bipush (v := 24) hx hb dX12_feed_91 (by decide) ?_
  refine lv_bipush (v := 8) hx hb dX12_feed_93 (by decide) ?_
  refine lv_iload hx hb dX12_feed_95 (lv_at hl 1 rfl) ?_
  refine lv_iconst (v := 4) hx hb dX12_feed_97 (by decide) ?_
  refine lv_irem hx hb dX12_feed_98 (by decide) ?_
  refine lv_topi (fun z_38 ez_38 => ?_)
  obtain rfl : z_38 = 2 := ez_38.trans (by decide)
  refine lv_imul hx hb dX12_feed_99 ?_
  refine lv_topi (fun z_39 ez_39 => ?_)
  obtain rfl : z_39 = 16 := ez_39.trans (by decide)
  refine lv_isub hx hb dX12_feed_100 ?_
  refine lv_topi (fun z_40 ez_40 => ?_)
  obtain rfl : z_40 = 8 := ez_40.trans (by decide)
  refine lv_ishr hx hb dX12_feed_101 ?_
  refine lv_sipush (v := 255) hx hb dX12_feed_102 (by decide) ?_
  refine lv_iand hx hb dX12_feed_105 ?_
  refine xg_iast hx hb hK hP hD hS 1 0 rfl rfl (by unfold vp_in; decide) dX12_feed_106 (fun f_41 H locs hP hD hS => ?_)
  have hP : va_P (dC, dI) vwCl [(mq, .inr (12, fs_1)), (mtp, .inl (cT, 900, .inl f_41))] H := hP
  have hD : va_D A [(mq, .inr (12, fs_1)), (mtp, .inl (cT, 900, .inl f_41))] := hD
  refine lv_iinc (v := 7) (lv' := [(6, .int 7), (7, .int a1), (0, .ref mq), (1, .int a0), (2, .int a1), (3, .int a2), (4, .int a3), (5, .int a4)]) hx hb dX12_feed_107 hl (k := 1) rfl (by decide) (by decide) rfl (fun ls hl => ?_)
  refine lv_goto (tgt := 23) hx hb dX12_feed_110 (by decide) ?_
  refine lv_iload hx hb dX12_feed_23 (lv_at hl 0 rfl) ?_
  refine lv_bipush (v := 20) hx hb dX12_feed_25 (by decide) ?_
  refine lv_icmp_ge (tgt := 113) hx hb dX12_feed_27 (by decide) (fun c => absurd c (by decide)) (fun _ => ?_)
  refine lv_iload hx hb dX12_feed_30 (lv_at hl 0 rfl) ?_
  refine lv_iconst (v := 4) hx hb dX12_feed_32 (by decide) ?_
  refine lv_icmp_ge (tgt := 40) hx hb dX12_feed_33 (by decide) (fun _ => ?_) (fun c => absurd c (by decide))
  refine lv_iload hx hb dX12_feed_40 (lv_at hl 0 rfl) ?_
  refine lv_bipush (v := 8) hx hb dX12_feed_42 (by decide) ?_
  refine lv_icmp_ge (tgt := 51) hx hb dX12_feed_44 (by decide) (fun c => absurd c (by decide)) (fun _ => ?_)
  refine lv_iload_n hx hb dX12_feed_47 rfl (lv_at hl 4 rfl) ?_
  refine lv_goto (tgt := 76) hx hb dX12_feed_48 (by decide) ?_
  refine lv_istore (lv' := [(7, .int a1), (6, .int 7), (0, .ref mq), (1, .int a0), (2, .int a1), (3, .int a2), (4, .int a3), (5, .int a4)]) hx hb dX12_feed_76 hl (by decide) rfl (fun ls hl => ?_)
  refine lv_aload_n hx hb dX12_feed_78 rfl (lv_at hl 2 rfl) ?_
  refine va_get (D := (dC, dI)) (ci := 12) (v := .ref mtp) (C := RX12) (T := TX12) (N := 76) hx hb htw inlX12 hown hK hP 0 rfl rfl 0 (by decide) (htw _ (ck_9 _ (List.mem_of_getElem? (i := 4) rfl))) (fun _ h9 => h9) hf_4 dX12_feed_79 ?_
  refine lv_aload_n hx hb dX12_feed_82 rfl (lv_at hl 2 rfl) ?_
  refine va_get (D := (dC, dI)) (ci := 12) (v := .int 0) (C := RX12) (T := TX12) (N := 76) hx hb htw inlX12 hown hK hP 0 rfl rfl 1 (by decide) (htw _ (ck_12 _ (List.mem_of_getElem? (i := 17) rfl))) (fun _ h9 => h9) hf_3 dX12_feed_83 ?_
  refine lv_iload hx hb dX12_feed_86 (lv_at hl 1 rfl) ?_
  refine lv_iadd hx hb dX12_feed_88 ?_
  refine lv_topi (fun z_42 ez_42 => ?_)
  obtain rfl : z_42 = 7 := ez_42.trans (by decide)
  refine lv_iload hx hb dX12_feed_89 (lv_at hl 0 rfl) ?_
  refine lv_bipush (v := 24) hx hb dX12_feed_91 (by decide) ?_
  refine lv_bipush (v := 8) hx hb dX12_feed_93 (by decide) ?_
  refine lv_iload hx hb dX12_feed_95 (lv_at hl 1 rfl) ?_
  refine lv_iconst (v := 4) hx hb dX12_feed_97 (by decide) ?_
  refine lv_irem hx hb dX12_feed_98 (by decide) ?_
  refine lv_topi (fun z_43 ez_43 => ?_)
  obtain rfl : z_43 = 3 := ez_43.trans (by decide)
  refine lv_imul hx hb dX12_feed_99 ?_
  refine lv_topi (fun z_44 ez_44 => ?_)
  obtain rfl : z_44 = 24 := ez_44.trans (by decide)
  refine lv_isub hx hb dX12_feed_100 ?_
  refine lv_topi (fun z_45 ez_45 => ?_)
  obtain rfl : z_45 = 0 := ez_45.trans (by decide)
  refine lv_ishr hx hb dX12_feed_101 ?_
  refine lv_sipush (v := 255) hx hb dX12_feed_102 (by decide) ?_
  refine lv_iand hx hb dX12_feed_105 ?_
  refine xg_iast hx hb hK hP hD hS 1 0 rfl rfl (by unfold vp_in; decide) dX12_feed_106 (fun f_46 H locs hP hD hS => ?_)
  have hP : va_P (dC, dI) vwCl [(mq, .inr (12, fs_1)), (mtp, .inl (cT, 900, .inl f_46))] H := hP
  have hD : va_D A [(mq, .inr (12, fs_1)), (mtp, .inl (cT, 900, .inl f_46))] := hD
  refine lv_iinc (v := 8) (lv' := [(6, .int 8), (7, .int a1), (0, .ref mq), (1, .int a0), (2, .int a1), (3, .int a2), (4, .int a3), (5, .int a4)]) hx hb dX12_feed_107 hl (k := 1) rfl (by decide) (by decide) rfl (fun ls hl => ?_)
  refine lv_goto (tgt := 23) hx hb dX12_feed_110 (by decide) ?_
  refine lv_iload hx hb dX12_feed_23 (lv_at hl 0 rfl) ?_
  refine lv_bipush (v := 20) hx hb dX12_feed_25 (by decide) ?_
  refine lv_icmp_ge (tgt := 113) hx hb dX12_feed_27 (by decide) (fun c => absurd c (by decide)) (fun _ => ?_)
  refine lv_iload hx hb dX12_feed_30 (lv_at hl 0 rfl) ?_
  refine lv_iconst (v := 4) hx hb dX12_feed_32 (by decide) ?_
  refine lv_icmp_ge (tgt := 40) hx hb dX12_feed_33 (by decide) (fun _ => ?_) (fun c => absurd c (by decide))
  refine lv_iload hx hb dX12_feed_40 (lv_at hl 0 rfl) ?_
  refine lv_bipush (v := 8) hx hb dX12_feed_42 (by decide) ?_
  refine lv_icmp_ge (tgt := 51) hx hb dX12_feed_44 (by decide) (fun _ => ?_) (fun c => absurd c (by decide))
  refine lv_iload hx hb dX12_feed_51 (lv_at hl 0 rfl) ?_
  refine lv_bipush (v := 12) hx hb dX12_feed_53 (by decide) ?_
  refine lv_icmp_ge (tgt := 62) hx hb dX12_feed_55 (by decide) (fun c => absurd c (by decide)) (fun _ => ?_)
  refine lv_iload_n hx hb dX12_feed_58 rfl (lv_at hl 5 rfl) ?_
  refine lv_goto (tgt := 76) hx hb dX12_feed_59 (by decide) ?_
  refine lv_istore (lv' := [(7, .int a2), (6, .int 8), (0, .ref mq), (1, .int a0), (2, .int a1), (3, .int a2), (4, .int a3), (5, .int a4)]) hx hb dX12_feed_76 hl (by decide) rfl (fun ls hl => ?_)
  refine lv_aload_n hx hb dX12_feed_78 rfl (lv_at hl 2 rfl) ?_
  refine va_get (D := (dC, dI)) (ci := 12) (v := .ref mtp) (C := RX12) (T := TX12) (N := 76) hx hb htw inlX12 hown hK hP 0 rfl rfl 0 (by decide) (htw _ (ck_9 _ (List.mem_of_getElem? (i := 4) rfl))) (fun _ h9 => h9) hf_4 dX12_feed_79 ?_
  refine lv_aload_n hx hb dX12_feed_82 rfl (lv_at hl 2 rfl) ?_
  refine va_get (D := (dC, dI)) (ci := 12) (v := .int 0) (C := RX12) (T := TX12) (N := 76) hx hb htw inlX12 hown hK hP 0 rfl rfl 1 (by decide) (htw _ (ck_12 _ (List.mem_of_getElem? (i := 17) rfl))) (fun _ h9 => h9) hf_3 dX12_feed_83 ?_
  refine lv_iload hx hb dX12_feed_86 (lv_at hl 1 rfl) ?_
  refine lv_iadd hx hb dX12_feed_88 ?_
  refine lv_topi (fun z_47 ez_47 => ?_)
  obtain rfl : z_47 = 8 := ez_47.trans (by decide)
  refine lv_iload hx hb dX12_feed_89 (lv_at hl 0 rfl) ?_
  refine lv_bipush (v := 24) hx hb dX12_feed_91 (by decide) ?_
  refine lv_bipush (v := 8) hx hb dX12_feed_93 (by decide) ?_
  refine lv_iload hx hb dX12_feed_95 (lv_at hl 1 rfl) ?_
  refine lv_iconst (v := 4) hx hb dX12_feed_97 (by decide) ?_
  refine lv_irem hx hb dX12_feed_98 (by decide) ?_
  refine lv_topi (fun z_48 ez_48 => ?_)
  obtain rfl : z_48 = 0 := ez_48.trans (by decide)
  refine lv_imul hx hb dX12_feed_99 ?_
  refine lv_topi (fun z_49 ez_49 => ?_)
  obtain rfl : z_49 = 0 := ez_49.trans (by decide)
  refine lv_isub hx hb dX12_feed_100 ?_
  refine lv_topi (fun z_50 ez_50 => ?_)
  obtain rfl : z_50 = 24 := ez_50.trans (by decide)
  refine lv_ishr hx hb dX12_feed_101 ?_
  refine lv_sipush (v := 255) hx hb dX12_feed_102 (by decide) ?_
  refine lv_iand hx hb dX12_feed_105 ?_
  refine xg_iast hx hb hK hP hD hS 1 0 rfl rfl (by unfold vp_in; decide) dX12_feed_106 (fun f_51 H locs hP hD hS => ?_)
  have hP : va_P (dC, dI) vwCl [(mq, .inr (12, fs_1)), (mtp, .inl (cT, 900, .inl f_51))] H := hP
  have hD : va_D A [(mq, .inr (12, fs_1)), (mtp, .inl (cT, 900, .inl f_51))] := hD
  refine lv_iinc (v := 9) (lv' := [(6, .int 9), (7, .int a2), (0, .ref mq), (1, .int a0), (2, .int a1), (3, .int a2), (4, .int a3), (5, .int a4)]) hx hb dX12_feed_107 hl (k := 1) rfl (by decide) (by decide) rfl (fun ls hl => ?_)
  refine lv_goto (tgt := 23) hx hb dX12_feed_110 (by decide) ?_
  refine lv_iload hx hb dX12_feed_23 (lv_at hl 0 rfl) ?_
  refine lv_bipush (v := 20) hx hb dX12_feed_25 (by decide) ?_
  refine lv_icmp_ge (tgt := 113) hx hb dX12_feed_27 (by decide) (fun c => absurd c (by decide)) (fun _ => ?_)
  refine lv_iload hx hb dX12_feed_30 (lv_at hl 0 rfl) ?_
  refine lv_iconst (v := 4) hx hb dX12_feed_32 (by decide) ?_
  refine lv_icmp_ge (tgt := 40) hx hb dX12_feed_33 (by decide) (fun _ => ?_) (fun c => absurd c (by decide))
  refine lv_iload hx hb dX12_feed_40 (lv_at hl 0 rfl) ?_
  refine lv_bipush (v := 8) hx hb dX12_feed_42 (by decide) ?_
  refine lv_icmp_ge (tgt := 51) hx hb dX12_feed_44 (by decide) (fun _ => ?_) (fun c => absurd c (by decide))
  refine lv_iload hx hb dX12_feed_51 (lv_at hl 0 rfl) ?_
  refine lv_bipush (v := 12) hx hb dX12_feed_53 (by decide) ?_
  refine lv_icmp_ge (tgt := 62) hx hb dX12_feed_55 (by decide) (fun c => absurd c (by decide)) (fun _ => ?_)
  refine lv_iload_n hx hb dX12_feed_58 rfl (lv_at hl 5 rfl) ?_
  refine lv_goto (tgt := 76) hx hb dX12_feed_59 (by decide) ?_
  refine lv_istore (lv' := [(7, .int a2), (6, .int 9), (0, .ref mq), (1, .int a0), (2, .int a1), (3, .int a2), (4, .int a3), (5, .int a4)]) hx hb dX12_feed_76 hl (by decide) rfl (fun ls hl => ?_)
  refine lv_aload_n hx hb dX12_feed_78 rfl (lv_at hl 2 rfl) ?_
  refine va_get (D := (dC, dI)) (ci := 12) (v := .ref mtp) (C := RX12) (T := TX12) (N := 76) hx hb htw inlX12 hown hK hP 0 rfl rfl 0 (by decide) (htw _ (ck_9 _ (List.mem_of_getElem? (i := 4) rfl))) (fun _ h9 => h9) hf_4 dX12_feed_79 ?_
  refine lv_aload_n hx hb dX12_feed_82 rfl (lv_at hl 2 rfl) ?_
  refine va_get (D := (dC, dI)) (ci := 12) (v := .int 0) (C := RX12) (T := TX12) (N := 76) hx hb htw inlX12 hown hK hP 0 rfl rfl 1 (by decide) (htw _ (ck_12 _ (List.mem_of_getElem? (i := 17) rfl))) (fun _ h9 => h9) hf_3 dX12_feed_83 ?_
  refine lv_iload hx hb dX12_feed_86 (lv_at hl 1 rfl) ?_
  refine lv_iadd hx hb dX12_feed_88 ?_
  refine lv_topi (fun z_52 ez_52 => ?_)
  obtain rfl : z_52 = 9 := ez_52.trans (by decide)
  refine lv_iload hx hb dX12_feed_89 (lv_at hl 0 rfl) ?_
  refine lv_bipush (v := 24) hx hb dX12_feed_91 (by decide) ?_
  refine lv_bipush (v := 8) hx hb dX12_feed_93 (by decide) ?_
  refine lv_iload hx hb dX12_feed_95 (lv_at hl 1 rfl) ?_
  refine lv_iconst (v := 4) hx hb dX12_feed_97 (by decide) ?_
  refine lv_irem hx hb dX12_feed_98 (by decide) ?_
  refine lv_topi (fun z_53 ez_53 => ?_)
  obtain rfl : z_53 = 1 := ez_53.trans (by decide)
  refine lv_imul hx hb dX12_feed_99 ?_
  refine lv_topi (fun z_54 ez_54 => ?_)
  obtain rfl : z_54 = 8 := ez_54.trans (by decide)
  refine lv_isub hx hb dX12_feed_100 ?_
  refine lv_topi (fun z_55 ez_55 => ?_)
  obtain rfl : z_55 = 16 := ez_55.trans (by decide)
  refine lv_ishr hx hb dX12_feed_101 ?_
  refine lv_sipush (v := 255) hx hb dX12_feed_102 (by decide) ?_
  refine lv_iand hx hb dX12_feed_105 ?_
  refine xg_iast hx hb hK hP hD hS 1 0 rfl rfl (by unfold vp_in; decide) dX12_feed_106 (fun f_56 H locs hP hD hS => ?_)
  have hP : va_P (dC, dI) vwCl [(mq, .inr (12, fs_1)), (mtp, .inl (cT, 900, .inl f_56))] H := hP
  have hD : va_D A [(mq, .inr (12, fs_1)), (mtp, .inl (cT, 900, .inl f_56))] := hD
  refine lv_iinc (v := 10) (lv' := [(6, .int 10), (7, .int a2), (0, .ref mq), (1, .int a0), (2, .int a1), (3, .int a2), (4, .int a3), (5, .int a4)]) hx hb dX12_feed_107 hl (k := 1) rfl (by decide) (by decide) rfl (fun ls hl => ?_)
  refine lv_goto (tgt := 23) hx hb dX12_feed_110 (by decide) ?_
  refine lv_iload hx hb dX12_feed_23 (lv_at hl 0 rfl) ?_
  refine lv_bipush (v := 20) hx hb dX12_feed_25 (by decide) ?_
  refine lv_icmp_ge (tgt := 113) hx hb dX12_feed_27 (by decide) (fun c => absurd c (by decide)) (fun _ => ?_)
  refine lv_iload hx hb dX12_feed_30 (lv_at hl 0 rfl) ?_
  refine lv_iconst (v := 4) hx hb dX12_feed_32 (by decide) ?_
  refine lv_icmp_ge (tgt := 40) hx hb dX12_feed_33 (by decide) (fun _ => ?_) (fun c => absurd c (by decide))
  refine lv_iload hx hb dX12_feed_40 (lv_at hl 0 rfl) ?_
  refine lv_bipush (v := 8) hx hb dX12_feed_42 (by decide) ?_
  refine lv_icmp_ge (tgt := 51) hx hb dX12_feed_44 (by decide) (fun _ => ?_) (fun c => absurd c (by decide))
  refine lv_iload hx hb dX12_feed_51 (lv_at hl 0 rfl) ?_
  refine lv_bipush (v := 12) hx hb dX12_feed_53 (by decide) ?_
  refine lv_icmp_ge (tgt := 62) hx hb dX12_feed_55 (by decide) (fun c => absurd c (by decide)) (fun _ => ?_)
  refine lv_iload_n hx hb dX12_feed_58 rfl (lv_at hl 5 rfl) ?_
  refine lv_goto (tgt := 76) hx hb dX12_feed_59 (by decide) ?_
  refine lv_istore (lv' := [(7, .int a2), (6, .int 10), (0, .ref mq), (1, .int a0), (2, .int a1), (3, .int a2), (4, .int a3), (5, .int a4)]) hx hb dX12_feed_76 hl (by decide) rfl (fun ls hl => ?_)
  refine lv_aload_n hx hb dX12_feed_78 rfl (lv_at hl 2 rfl) ?_
  refine va_get (D := (dC, dI)) (ci := 12) (v := .ref mtp) (C := RX12) (T := TX12) (N := 76) hx hb htw inlX12 hown hK hP 0 rfl rfl 0 (by decide) (htw _ (ck_9 _ (List.mem_of_getElem? (i := 4) rfl))) (fun _ h9 => h9) hf_4 dX12_feed_79 ?_
  refine lv_aload_n hx hb dX12_feed_82 rfl (lv_at hl 2 rfl) ?_
  refine va_get (D := (dC, dI)) (ci := 12) (v := .int 0) (C := RX12) (T := TX12) (N := 76) hx hb htw inlX12 hown hK hP 0 rfl rfl 1 (by decide) (htw _ (ck_12 _ (List.mem_of_getElem? (i := 17) rfl))) (fun _ h9 => h9) hf_3 dX12_feed_83 ?_
  refine lv_iload hx hb dX12_feed_86 (lv_at hl 1 rfl) ?_
  refine lv_iadd hx hb dX12_feed_88 ?_
  refine lv_topi (fun z_57 ez_57 => ?_)
  obtain rfl : z_57 = 10 := ez_57.trans (by decide)
  refine lv_iload hx hb dX12_feed_89 (lv_at hl 0 rfl) ?_
  refine lv_bipush (v := 24) hx hb dX12_feed_91 (by decide) ?_
  refine lv_bipush (v := 8) hx hb dX12_feed_93 (by decide) ?_
  refine lv_iload hx hb dX12_feed_95 (lv_at hl 1 rfl) ?_
  refine lv_iconst (v := 4) hx hb dX12_feed_97 (by decide) ?_
  refine lv_irem hx hb dX12_feed_98 (by decide) ?_
  refine lv_topi (fun z_58 ez_58 => ?_)
  obtain rfl : z_58 = 2 := ez_58.trans (by decide)
  refine lv_imul hx hb dX12_feed_99 ?_
  refine lv_topi (fun z_59 ez_59 => ?_)
  obtain rfl : z_59 = 16 := ez_59.trans (by decide)
  refine lv_isub hx hb dX12_feed_100 ?_
  refine lv_topi (fun z_60 ez_60 => ?_)
  obtain rfl : z_60 = 8 := ez_60.trans (by decide)
  refine lv_ishr hx hb dX12_feed_101 ?_
  refine lv_sipush (v := 255) hx hb dX12_feed_102 (by decide) ?_
  refine lv_iand hx hb dX12_feed_105 ?_
  refine xg_iast hx hb hK hP hD hS 1 0 rfl rfl (by unfold vp_in; decide) dX12_feed_106 (fun f_61 H locs hP hD hS => ?_)
  have hP : va_P (dC, dI) vwCl [(mq, .inr (12, fs_1)), (mtp, .inl (cT, 900, .inl f_61))] H := hP
  have hD : va_D A [(mq, .inr (12, fs_1)), (mtp, .inl (cT, 900, .inl f_61))] := hD
  refine lv_iinc (v := 11) (lv' := [(6, .int 11), (7, .int a2), (0, .ref mq), (1, .int a0), (2, .int a1), (3, .int a2), (4, .int a3), (5, .int a4)]) hx hb dX12_feed_107 hl (k := 1) rfl (by decide) (by decide) rfl (fun ls hl => ?_)
  refine lv_goto (tgt := 23) hx hb dX12_feed_110 (by decide) ?_
  refine lv_iload hx hb dX12_feed_23 (lv_at hl 0 rfl) ?_
  refine lv_bipush (v := 20) hx hb dX12_feed_25 (by decide) ?_
  refine lv_icmp_ge (tgt := 113) hx hb dX12_feed_27 (by decide) (fun c => absurd c (by decide)) (fun _ => ?_)
  refine lv_iload hx hb dX12_feed_30 (lv_at hl 0 rfl) ?_
  refine lv_iconst (v := 4) hx hb dX12_feed_32 (by decide) ?_
  refine lv_icmp_ge (tgt := 40) hx hb dX12_feed_33 (by decide) (fun _ => ?_) (fun c => absurd c (by decide))
  refine lv_iload hx hb dX12_feed_40 (lv_at hl 0 rfl) ?_
  refine lv_bipush (v := 8) hx hb dX12_feed_42 (by decide) ?_
  refine lv_icmp_ge (tgt := 51) hx hb dX12_feed_44 (by decide) (fun _ => ?_) (fun c => absurd c (by decide))
  refine lv_iload hx hb dX12_feed_51 (lv_at hl 0 rfl) ?_
  refine lv_bipush (v := 12) hx hb dX12_feed_53 (by decide) ?_
  refine lv_icmp_ge (tgt := 62) hx hb dX12_feed_55 (by decide) (fun c => absurd c (by decide)) (fun _ => ?_)
  refine lv_iload_n hx hb dX12_feed_58 rfl (lv_at hl 5 rfl) ?_
  refine lv_goto (tgt := 76) hx hb dX12_feed_59 (by decide) ?_
  refine lv_istore (lv' := [(7, .int a2), (6, .int 11), (0, .ref mq), (1, .int a0), (2, .int a1), (3, .int a2), (4, .int a3), (5, .int a4)]) hx hb dX12_feed_76 hl (by decide) rfl (fun ls hl => ?_)
  refine lv_aload_n hx hb dX12_feed_78 rfl (lv_at hl 2 rfl) ?_
  refine va_get (D := (dC, dI)) (ci := 12) (v := .ref mtp) (C := RX12) (T := TX12) (N := 76) hx hb htw inlX12 hown hK hP 0 rfl rfl 0 (by decide) (htw _ (ck_9 _ (List.mem_of_getElem? (i := 4) rfl))) (fun _ h9 => h9) hf_4 dX12_feed_79 ?_
  refine lv_aload_n hx hb dX12_feed_82 rfl (lv_at hl 2 rfl) ?_
  refine va_get (D := (dC, dI)) (ci := 12) (v := .int 0) (C := RX12) (T := TX12) (N := 76) hx hb htw inlX12 hown hK hP 0 rfl rfl 1 (by decide) (htw _ (ck_12 _ (List.mem_of_getElem? (i := 17) rfl))) (fun _ h9 => h9) hf_3 dX12_feed_83 ?_
  refine lv_iload hx hb dX12_feed_86 (lv_at hl 1 rfl) ?_
  refine lv_iadd hx hb dX12_feed_88 ?_
  refine lv_topi (fun z_62 ez_62 => ?_)
  obtain rfl : z_62 = 11 := ez_62.trans (by decide)
  refine lv_iload hx hb dX12_feed_89 (lv_at hl 0 rfl) ?_
  refine lv_bipush (v := 24) hx hb dX12_feed_91 (by decide) ?_
  refine lv_bipush (v := 8) hx hb dX12_feed_93 (by decide) ?_
  refine lv_iload hx hb dX12_feed_95 (lv_at hl 1 rfl) ?_
  refine lv_iconst (v := 4) hx hb dX12_feed_97 (by decide) ?_
  refine lv_irem hx hb dX12_feed_98 (by decide) ?_
  refine lv_topi (fun z_63 ez_63 => ?_)
  obtain rfl : z_63 = 3 := ez_63.trans (by decide)
  refine lv_imul hx hb dX12_feed_99 ?_
  refine lv_topi (fun z_64 ez_64 => ?_)
  obtain rfl : z_64 = 24 := ez_64.trans (by decide)
  refine lv_isub hx hb dX12_feed_100 ?_
  refine lv_topi (fun z_65 ez_65 => ?_)
  obtain rfl : z_65 = 0 := ez_65.trans (by decide)
  refine lv_ishr hx hb dX12_feed_101 ?_
  refine lv_sipush (v := 255) hx hb dX12_feed_102 (by decide) ?_
  refine lv_iand hx hb dX12_feed_105 ?_
  refine xg_iast hx hb hK hP hD hS 1 0 rfl rfl (by unfold vp_in; decide) dX12_feed_106 (fun f_66 H locs hP hD hS => ?_)
  have hP : va_P (dC, dI) vwCl [(mq, .inr (12, fs_1)), (mtp, .inl (cT, 900, .inl f_66))] H := hP
  have hD : va_D A [(mq, .inr (12, fs_1)), (mtp, .inl (cT, 900, .inl f_66))] := hD
  refine lv_iinc (v := 12) (lv' := [(6, .int 12), (7, .int a2), (0, .ref mq), (1, .int a0), (2, .int a1), (3, .int a2), (4, .int a3), (5, .int a4)]) hx hb dX12_feed_107 hl (k := 1) rfl (by decide) (by decide) rfl (fun ls hl => ?_)
  refine lv_goto (tgt := 23) hx hb dX12_feed_110 (by decide) ?_
  refine lv_iload hx hb dX12_feed_23 (lv_at hl 0 rfl) ?_
  refine lv_bipush (v := 20) hx hb dX12_feed_25 (by decide) ?_
  refine lv_icmp_ge (tgt := 113) hx hb dX12_feed_27 (by decide) (fun c => absurd c (by decide)) (fun _ => ?_)
  refine lv_iload hx hb dX12_feed_30 (lv_at hl 0 rfl) ?_
  refine lv_iconst (v := 4) hx hb dX12_feed_32 (by decide) ?_
  refine lv_icmp_ge (tgt := 40) hx hb dX12_feed_33 (by decide) (fun _ => ?_) (fun c => absurd c (by decide))
  refine lv_iload hx hb dX12_feed_40 (lv_at hl 0 rfl) ?_
  refine lv_bipush (v := 8) hx hb dX12_feed_42 (by decide) ?_
  refine lv_icmp_ge (tgt := 51) hx hb dX12_feed_44 (by decide) (fun _ => ?_) (fun c => absurd c (by decide))
  refine lv_iload hx hb dX12_feed_51 (lv_at hl 0 rfl) ?_
  refine lv_bipush (v := 12) hx hb dX12_feed_53 (by decide) ?_
  refine lv_icmp_ge (tgt := 62) hx hb dX12_feed_55 (by decide) (fun _ => ?_) (fun c => absurd c (by decide))
  refine lv_iload hx hb dX12_feed_62 (lv_at hl 0 rfl) ?_
  refine lv_bipush (v := 16) hx hb dX12_feed_64 (by decide) ?_
  refine lv_icmp_ge (tgt := 74) hx hb dX12_feed_66 (by decide) (fun c => absurd c (by decide)) (fun _ => ?_)
  refine lv_iload hx hb dX12_feed_69 (lv_at hl 6 rfl) ?_
  refine lv_goto (tgt := 76) hx hb dX12_feed_71 (by decide) ?_
  refine lv_istore (lv' := [(7, .int a3), (6, .int 12), (0, .ref mq), (1, .int a0), (2, .int a1), (3, .int a2), (4, .int a3), (5, .int a4)]) hx hb dX12_feed_76 hl (by decide) rfl (fun ls hl => ?_)
  refine lv_aload_n hx hb dX12_feed_78 rfl (lv_at hl 2 rfl) ?_
  refine va_get (D := (dC, dI)) (ci := 12) (v := .ref mtp) (C := RX12) (T := TX12) (N := 76) hx hb htw inlX12 hown hK hP 0 rfl rfl 0 (by decide) (htw _ (ck_9 _ (List.mem_of_getElem? (i := 4) rfl))) (fun _ h9 => h9) hf_4 dX12_feed_79 ?_
  refine lv_aload_n hx hb dX12_feed_82 rfl (lv_at hl 2 rfl) ?_
  refine va_get (D := (dC, dI)) (ci := 12) (v := .int 0) (C := RX12) (T := TX12) (N := 76) hx hb htw inlX12 hown hK hP 0 rfl rfl 1 (by decide) (htw _ (ck_12 _ (List.mem_of_getElem? (i := 17) rfl))) (fun _ h9 => h9) hf_3 dX12_feed_83 ?_
  refine lv_iload hx hb dX12_feed_86 (lv_at hl 1 rfl) ?_
  refine lv_iadd hx hb dX12_feed_88 ?_
  refine lv_topi (fun z_67 ez_67 => ?_)
  obtain rfl : z_67 = 12 := ez_67.trans (by decide)
  refine lv_iload hx hb dX12_feed_89 (lv_at hl 0 rfl) ?_
  refine lv_bipush (v := 24) hx hb dX12_feed_91 (by decide) ?_
  refine lv_bipush (v := 8) hx hb dX12_feed_93 (by decide) ?_
  refine lv_iload hx hb dX12_feed_95 (lv_at hl 1 rfl) ?_
  refine lv_iconst (v := 4) hx hb dX12_feed_97 (by decide) ?_
  refine lv_irem hx hb dX12_feed_98 (by decide) ?_
  refine lv_topi (fun z_68 ez_68 => ?_)
  obtain rfl : z_68 = 0 := ez_68.trans (by decide)
  refine lv_imul hx hb dX12_feed_99 ?_
  refine lv_topi (fun z_69 ez_69 => ?_)
  obtain rfl : z_69 = 0 := ez_69.trans (by decide)
  refine lv_isub hx hb dX12_feed_100 ?_
  refine lv_topi (fun z_70 ez_70 => ?_)
  obtain rfl : z_70 = 24 := ez_70.trans (by decide)
  refine lv_ishr hx hb dX12_feed_101 ?_
  refine lv_sipush (v := 255) hx hb dX12_feed_102 (by decide) ?_
  refine lv_iand hx hb dX12_feed_105 ?_
  refine xg_iast hx hb hK hP hD hS 1 0 rfl rfl (by unfold vp_in; decide) dX12_feed_106 (fun f_71 H locs hP hD hS => ?_)
  have hP : va_P (dC, dI) vwCl [(mq, .inr (12, fs_1)), (mtp, .inl (cT, 900, .inl f_71))] H := hP
  have hD : va_D A [(mq, .inr (12, fs_1)), (mtp, .inl (cT, 900, .inl f_71))] := hD
  refine lv_iinc (v := 13) (lv' := [(6, .int 13), (7, .int a3), (0, .ref mq), (1, .int a0), (2, .int a1), (3, .int a2), (4, .int a3), (5, .int a4)]) hx hb dX12_feed_107 hl (k := 1) rfl (by decide) (by decide) rfl (fun ls hl => ?_)
  refine lv_goto (tgt := 23) hx hb dX12_feed_110 (by decide) ?_
  refine lv_iload hx hb dX12_feed_23 (lv_at hl 0 rfl) ?_
  refine lv_bipush (v := 20) hx hb dX12_feed_25 (by decide) ?_
  refine lv_icmp_ge (tgt := 113) hx hb dX12_feed_27 (by decide) (fun c => absurd c (by decide)) (fun _ => ?_)
  refine lv_iload hx hb dX12_feed_30 (lv_at hl 0 rfl) ?_
  refine lv_iconst (v := 4) hx hb dX12_feed_32 (by decide) ?_
  refine lv_icmp_ge (tgt := 40) hx hb dX12_feed_33 (by decide) (fun _ => ?_) (fun c => absurd c (by decide))
  refine lv_iload hx hb dX12_feed_40 (lv_at hl 0 rfl) ?_
  refine lv_bipush (v := 8) hx hb dX12_feed_42 (by decide) ?_
  refine lv_icmp_ge (tgt := 51) hx hb dX12_feed_44 (by decide) (fun _ => ?_) (fun c => absurd c (by decide))
  refine lv_iload hx hb dX12_feed_51 (lv_at hl 0 rfl) ?_
  refine lv_bipush (v := 12) hx hb dX12_feed_53 (by decide) ?_
  refine lv_icmp_ge (tgt := 62) hx hb dX12_feed_55 (by decide) (fun _ => ?_) (fun c => absurd c (by decide))
  refine lv_iload hx hb dX12_feed_62 (lv_at hl 0 rfl) ?_
  refine lv_bipush (v := 16) hx hb dX12_feed_64 (by decide) ?_
  refine lv_icmp_ge (tgt := 74) hx hb dX12_feed_66 (by decide) (fun c => absurd c (by decide)) (fun _ => ?_)
  refine lv_iload hx hb dX12_feed_69 (lv_at hl 6 rfl) ?_
  refine lv_goto (tgt := 76) hx hb dX12_feed_71 (by decide) ?_
  refine lv_istore (lv' := [(7, .int a3), (6, .int 13), (0, .ref mq), (1, .int a0), (2, .int a1), (3, .int a2), (4, .int a3), (5, .int a4)]) hx hb dX12_feed_76 hl (by decide) rfl (fun ls hl => ?_)
  refine lv_aload_n hx hb dX12_feed_78 rfl (lv_at hl 2 rfl) ?_
  refine va_get (D := (dC, dI)) (ci := 12) (v := .ref mtp) (C := RX12) (T := TX12) (N := 76) hx hb htw inlX12 hown hK hP 0 rfl rfl 0 (by decide) (htw _ (ck_9 _ (List.mem_of_getElem? (i := 4) rfl))) (fun _ h9 => h9) hf_4 dX12_feed_79 ?_
  refine lv_aload_n hx hb dX12_feed_82 rfl (lv_at hl 2 rfl) ?_
  refine va_get (D := (dC, dI)) (ci := 12) (v := .int 0) (C := RX12) (T := TX12) (N := 76) hx hb htw inlX12 hown hK hP 0 rfl rfl 1 (by decide) (htw _ (ck_12 _ (List.mem_of_getElem? (i := 17) rfl))) (fun _ h9 => h9) hf_3 dX12_feed_83 ?_
  refine lv_iload hx hb dX12_feed_86 (lv_at hl 1 rfl) ?_
  refine lv_iadd hx hb dX12_feed_88 ?_
  refine lv_topi (fun z_72 ez_72 => ?_)
  obtain rfl : z_72 = 13 := ez_72.trans (by decide)
  refine lv_iload hx hb dX12_feed_89 (lv_at hl 0 rfl) ?_
  refine lv_bipush (v := 24) hx hb dX12_feed_91 (by decide) ?_
  refine lv_bipush (v := 8) hx hb dX12_feed_93 (by decide) ?_
  refine lv_iload hx hb dX12_feed_95 (lv_at hl 1 rfl) ?_
  refine lv_iconst (v := 4) hx hb dX12_feed_97 (by decide) ?_
  refine lv_irem hx hb dX12_feed_98 (by decide) ?_
  refine lv_topi (fun z_73 ez_73 => ?_)
  obtain rfl : z_73 = 1 := ez_73.trans (by decide)
  refine lv_imul hx hb dX12_feed_99 ?_
  refine lv_topi (fun z_74 ez_74 => ?_)
  obtain rfl : z_74 = 8 := ez_74.trans (by decide)
  refine lv_isub hx hb dX12_feed_100 ?_
  refine lv_topi (fun z_75 ez_75 => ?_)
  obtain rfl : z_75 = 16 := ez_75.trans (by decide)
  refine lv_ishr hx hb dX12_feed_101 ?_
  refine lv_sipush (v := 255) hx hb dX12_feed_102 (by decide) ?_
  refine lv_iand hx hb dX12_feed_105 ?_
  refine xg_iast hx hb hK hP hD hS 1 0 rfl rfl (by unfold vp_in; decide) dX12_feed_106 (fun f_76 H locs hP hD hS => ?_)
  have hP : va_P (dC, dI) vwCl [(mq, .inr (12, fs_1)), (mtp, .inl (cT, 900, .inl f_76))] H := hP
  have hD : va_D A [(mq, .inr (12, fs_1)), (mtp, .inl (cT, 900, .inl f_76))] := hD
  refine lv_iinc (v := 14) (lv' := [(6, .int 14), (7, .int a3), (0, .ref mq), (1, .int a0), (2, .int a1), (3, .int a2), (4, .int a3), (5, .int a4)]) hx hb dX12_feed_107 hl (k := 1) rfl (by decide) (by decide) rfl (fun ls hl => ?_)
  refine lv_goto (tgt := 23) hx hb dX12_feed_110 (by decide) ?_
  refine lv_iload hx hb dX12_feed_23 (lv_at hl 0 rfl) ?_
  refine lv_bipush (v := 20) hx hb dX12_feed_25 (by decide) ?_
  refine lv_icmp_ge (tgt := 113) hx hb dX12_feed_27 (by decide) (fun c => absurd c (by decide)) (fun _ => ?_)
  refine lv_iload hx hb dX12_feed_30 (lv_at hl 0 rfl) ?_
  refine lv_iconst (v := 4) hx hb dX12_feed_32 (by decide) ?_
  refine lv_icmp_ge (tgt := 40) hx hb dX12_feed_33 (by decide) (fun _ => ?_) (fun c => absurd c (by decide))
  refine lv_iload hx hb dX12_feed_40 (lv_at hl 0 rfl) ?_
  refine lv_bipush (v := 8) hx hb dX12_feed_42 (by decide) ?_
  refine lv_icmp_ge (tgt := 51) hx hb dX12_feed_44 (by decide) (fun _ => ?_) (fun c => absurd c (by decide))
  refine lv_iload hx hb dX12_feed_51 (lv_at hl 0 rfl) ?_
  refine lv_bipush (v := 12) hx hb dX12_feed_53 (by decide) ?_
  refine lv_icmp_ge (tgt := 62) hx hb dX12_feed_55 (by decide) (fun _ => ?_) (fun c => absurd c (by decide))
  refine lv_iload hx hb dX12_feed_62 (lv_at hl 0 rfl) ?_
  refine lv_bipush (v := 16) hx hb dX12_feed_64 (by decide) ?_
  refine lv_icmp_ge (tgt := 74) hx hb dX12_feed_66 (by decide) (fun c => absurd c (by decide)) (fun _ => ?_)
  refine lv_iload hx hb dX12_feed_69 (lv_at hl 6 rfl) ?_
  refine lv_goto (tgt := 76) hx hb dX12_feed_71 (by decide) ?_
  refine lv_istore (lv' := [(7, .int a3), (6, .int 14), (0, .ref mq), (1, .int a0), (2, .int a1), (3, .int a2), (4, .int a3), (5, .int a4)]) hx hb dX12_feed_76 hl (by decide) rfl (fun ls hl => ?_)
  refine lv_aload_n hx hb dX12_feed_78 rfl (lv_at hl 2 rfl) ?_
  refine va_get (D := (dC, dI)) (ci := 12) (v := .ref mtp) (C := RX12) (T := TX12) (N := 76) hx hb htw inlX12 hown hK hP 0 rfl rfl 0 (by decide) (htw _ (ck_9 _ (List.mem_of_getElem? (i := 4) rfl))) (fun _ h9 => h9) hf_4 dX12_feed_79 ?_
  refine lv_aload_n hx hb dX12_feed_82 rfl (lv_at hl 2 rfl) ?_
  refine va_get (D := (dC, dI)) (ci := 12) (v := .int 0) (C := RX12) (T := TX12) (N := 76) hx hb htw inlX12 hown hK hP 0 rfl rfl 1 (by decide) (htw _ (ck_12 _ (List.mem_of_getElem? (i := 17) rfl))) (fun _ h9 => h9) hf_3 dX12_feed_83 ?_
  refine lv_iload hx hb dX12_feed_86 (lv_at hl 1 rfl) ?_
  refine lv_iadd hx hb dX12_feed_88 ?_
  refine lv_topi (fun z_77 ez_77 => ?_)
  obtain rfl : z_77 = 14 := ez_77.trans (by decide)
  refine lv_iload hx hb dX12_feed_89 (lv_at hl 0 rfl) ?_
  refine lv_bipush (v := 24) hx hb dX12_feed_91 (by decide) ?_
  refine lv_bipush (v := 8) hx hb dX12_feed_93 (by decide) ?_
  refine lv_iload hx hb dX12_feed_95 (lv_at hl 1 rfl) ?_
  refine lv_iconst (v := 4) hx hb dX12_feed_97 (by decide) ?_
  refine lv_irem hx hb dX12_feed_98 (by decide) ?_
  refine lv_topi (fun z_78 ez_78 => ?_)
  obtain rfl : z_78 = 2 := ez_78.trans (by decide)
  refine lv_imul hx hb dX12_feed_99 ?_
  refine lv_topi (fun z_79 ez_79 => ?_)
  obtain rfl : z_79 = 16 := ez_79.trans (by decide)
  refine lv_isub hx hb dX12_feed_100 ?_
  refine lv_topi (fun z_80 ez_80 => ?_)
  obtain rfl : z_80 = 8 := ez_80.trans (by decide)
  refine lv_ishr hx hb dX12_feed_101 ?_
  refine lv_sipush (v := 255) hx hb dX12_feed_102 (by decide) ?_
  refine lv_iand hx hb dX12_feed_105 ?_
  refine xg_iast hx hb hK hP hD hS 1 0 rfl rfl (by unfold vp_in; decide) dX12_feed_106 (fun f_81 H locs hP hD hS => ?_)
  have hP : va_P (dC, dI) vwCl [(mq, .inr (12, fs_1)), (mtp, .inl (cT, 900, .inl f_81))] H := hP
  have hD : va_D A [(mq, .inr (12, fs_1)), (mtp, .inl (cT, 900, .inl f_81))] := hD
  refine lv_iinc (v := 15) (lv' := [(6, .int 15), (7, .int a3), (0, .ref mq), (1, .int a0), (2, .int a1), (3, .int a2), (4, .int a3), (5, .int a4)]) hx hb dX12_feed_107 hl (k := 1) rfl (by decide) (by decide) rfl (fun ls hl => ?_)
  refine lv_goto (tgt := 23) hx hb dX12_feed_110 (by decide) ?_
  refine lv_iload hx hb dX12_feed_23 (lv_at hl 0 rfl) ?_
  refine lv_bipush (v := 20) hx hb dX12_feed_25 (by decide) ?_
  refine lv_icmp_ge (tgt := 113) hx hb dX12_feed_27 (by decide) (fun c => absurd c (by decide)) (fun _ => ?_)
  refine lv_iload hx hb dX12_feed_30 (lv_at hl 0 rfl) ?_
  refine lv_iconst (v := 4) hx hb dX12_feed_32 (by decide) ?_
  refine lv_icmp_ge (tgt := 40) hx hb dX12_feed_33 (by decide) (fun _ => ?_) (fun c => absurd c (by decide))
  refine lv_iload hx hb dX12_feed_40 (lv_at hl 0 rfl) ?_
  refine lv_bipush (v := 8) hx hb dX12_feed_42 (by decide) ?_
  refine lv_icmp_ge (tgt := 51) hx hb dX12_feed_44 (by decide) (fun _ => ?_) (fun c => absurd c (by decide))
  refine lv_iload hx hb dX12_feed_51 (lv_at hl 0 rfl) ?_
  refine lv_bipush (v := 12) hx hb dX12_feed_53 (by decide) ?_
  refine lv_icmp_ge (tgt := 62) hx hb dX12_feed_55 (by decide) (fun _ => ?_) (fun c => absurd c (by decide))
  refine lv_iload hx hb dX12_feed_62 (lv_at hl 0 rfl) ?_
  refine lv_bipush (v := 16) hx hb dX12_feed_64 (by decide) ?_
  refine lv_icmp_ge (tgt := 74) hx hb dX12_feed_66 (by decide) (fun c => absurd c (by decide)) (fun _ => ?_)
  refine lv_iload hx hb dX12_feed_69 (lv_at hl 6 rfl) ?_
  refine lv_goto (tgt := 76) hx hb dX12_feed_71 (by decide) ?_
  refine lv_istore (lv' := [(7, .int a3), (6, .int 15), (0, .ref mq), (1, .int a0), (2, .int a1), (3, .int a2), (4, .int a3), (5, .int a4)]) hx hb dX12_feed_76 hl (by decide) rfl (fun ls hl => ?_)
  refine lv_aload_n hx hb dX12_feed_78 rfl (lv_at hl 2 rfl) ?_
  refine va_get (D := (dC, dI)) (ci := 12) (v := .ref mtp) (C := RX12) (T := TX12) (N := 76) hx hb htw inlX12 hown hK hP 0 rfl rfl 0 (by decide) (htw _ (ck_9 _ (List.mem_of_getElem? (i := 4) rfl))) (fun _ h9 => h9) hf_4 dX12_feed_79 ?_
  refine lv_aload_n hx hb dX12_feed_82 rfl (lv_at hl 2 rfl) ?_
  refine va_get (D := (dC, dI)) (ci := 12) (v := .int 0) (C := RX12) (T := TX12) (N := 76) hx hb htw inlX12 hown hK hP 0 rfl rfl 1 (by decide) (htw _ (ck_12 _ (List.mem_of_getElem? (i := 17) rfl))) (fun _ h9 => h9) hf_3 dX12_feed_83 ?_
  refine lv_iload hx hb dX12_feed_86 (lv_at hl 1 rfl) ?_
  refine lv_iadd hx hb dX12_feed_88 ?_
  refine lv_topi (fun z_82 ez_82 => ?_)
  obtain rfl : z_82 = 15 := ez_82.trans (by decide)
  refine lv_iload hx hb dX12_feed_89 (lv_at hl 0 rfl) ?_
  refine lv_bipush (v := 24) hx hb dX12_feed_91 (by decide) ?_
  refine lv_bipush (v := 8) hx hb dX12_feed_93 (by decide) ?_
  refine lv_iload hx hb dX12_feed_95 (lv_at hl 1 rfl) ?_
  refine lv_iconst (v := 4) hx hb dX12_feed_97 (by decide) ?_
  refine lv_irem hx hb dX12_feed_98 (by decide) ?_
  refine lv_topi (fun z_83 ez_83 => ?_)
  obtain rfl : z_83 = 3 := ez_83.trans (by decide)
  refine lv_imul hx hb dX12_feed_99 ?_
  refine lv_topi (fun z_84 ez_84 => ?_)
  obtain rfl : z_84 = 24 := ez_84.trans (by decide)
  refine lv_isub hx hb dX12_feed_100 ?_
  refine lv_topi (fun z_85 ez_85 => ?_)
  obtain rfl : z_85 = 0 := ez_85.trans (by decide)
  refine lv_ishr hx hb dX12_feed_101 ?_
  refine lv_sipush (v := 255) hx hb dX12_feed_102 (by decide) ?_
  refine lv_iand hx hb dX12_feed_105 ?_
  refine xg_iast hx hb hK hP hD hS 1 0 rfl rfl (by unfold vp_in; decide) dX12_feed_106 (fun f_86 H locs hP hD hS => ?_)
  have hP : va_P (dC, dI) vwCl [(mq, .inr (12, fs_1)), (mtp, .inl (cT, 900, .inl f_86))] H := hP
  have hD : va_D A [(mq, .inr (12, fs_1)), (mtp, .inl (cT, 900, .inl f_86))] := hD
  refine lv_iinc (v := 16) (lv' := [(6, .int 16), (7, .int a3), (0, .ref mq), (1, .int a0), (2, .int a1), (3, .int a2), (4, .int a3), (5, .int a4)]) hx hb dX12_feed_107 hl (k := 1) rfl (by decide) (by decide) rfl (fun ls hl => ?_)
  refine lv_goto (tgt := 23) hx hb dX12_feed_110 (by decide) ?_
  refine lv_iload hx hb dX12_feed_23 (lv_at hl 0 rfl) ?_
  refine lv_bipush (v := 20) hx hb dX12_feed_25 (by decide) ?_
  refine lv_icmp_ge (tgt := 113) hx hb dX12_feed_27 (by decide) (fun c => absurd c (by decide)) (fun _ => ?_)
  refine lv_iload hx hb dX12_feed_30 (lv_at hl 0 rfl) ?_
  refine lv_iconst (v := 4) hx hb dX12_feed_32 (by decide) ?_
  refine lv_icmp_ge (tgt := 40) hx hb dX12_feed_33 (by decide) (fun _ => ?_) (fun c => absurd c (by decide))
  refine lv_iload hx hb dX12_feed_40 (lv_at hl 0 rfl) ?_
  refine lv_bipush (v := 8) hx hb dX12_feed_42 (by decide) ?_
  refine lv_icmp_ge (tgt := 51) hx hb dX12_feed_44 (by decide) (fun _ => ?_) (fun c => absurd c (by decide))
  refine lv_iload hx hb dX12_feed_51 (lv_at hl 0 rfl) ?_
  refine lv_bipush (v := 12) hx hb dX12_feed_53 (by decide) ?_
  refine lv_icmp_ge (tgt := 62) hx hb dX12_feed_55 (by decide) (fun _ => ?_) (fun c => absurd c (by decide))
  refine lv_iload hx hb dX12_feed_62 (lv_at hl 0 rfl) ?_
  refine lv_bipush (v := 16) hx hb dX12_feed_64 (by decide) ?_
  refine lv_icmp_ge (tgt := 74) hx hb dX12_feed_66 (by decide) (fun _ => ?_) (fun c => absurd c (by decide))
  refine lv_iload hx hb dX12_feed_74 (lv_at hl 7 rfl) ?_
  refine lv_istore (lv' := [(7, .int a4), (6, .int 16), (0, .ref mq), (1, .int a0), (2, .int a1), (3, .int a2), (4, .int a3), (5, .int a4)]) hx hb dX12_feed_76 hl (by decide) rfl (fun ls hl => ?_)
  refine lv_aload_n hx hb dX12_feed_78 rfl (lv_at hl 2 rfl) ?_
  refine va_get (D := (dC, dI)) (ci := 12) (v := .ref mtp) (C := RX12) (T := TX12) (N := 76) hx hb htw inlX12 hown hK hP 0 rfl rfl 0 (by decide) (htw _ (ck_9 _ (List.mem_of_getElem? (i := 4) rfl))) (fun _ h9 => h9) hf_4 dX12_feed_79 ?_
  refine lv_aload_n hx hb dX12_feed_82 rfl (lv_at hl 2 rfl) ?_
  refine va_get (D := (dC, dI)) (ci := 12) (v := .int 0) (C := RX12) (T := TX12) (N := 76) hx hb htw inlX12 hown hK hP 0 rfl rfl 1 (by decide) (htw _ (ck_12 _ (List.mem_of_getElem? (i := 17) rfl))) (fun _ h9 => h9) hf_3 dX12_feed_83 ?_
  refine lv_iload hx hb dX12_feed_86 (lv_at hl 1 rfl) ?_
  refine lv_iadd hx hb dX12_feed_88 ?_
  refine lv_topi (fun z_87 ez_87 => ?_)
  obtain rfl : z_87 = 16 := ez_87.trans (by decide)
  refine lv_iload hx hb dX12_feed_89 (lv_at hl 0 rfl) ?_
  refine lv_bipush (v := 24) hx hb dX12_feed_91 (by decide) ?_
  refine lv_bipush (v := 8) hx hb dX12_feed_93 (by decide) ?_
  refine lv_iload hx hb dX12_feed_95 (lv_at hl 1 rfl) ?_
  refine lv_iconst (v := 4) hx hb dX12_feed_97 (by decide) ?_
  refine lv_irem hx hb dX12_feed_98 (by decide) ?_
  refine lv_topi (fun z_88 ez_88 => ?_)
  obtain rfl : z_88 = 0 := ez_88.trans (by decide)
  refine lv_imul hx hb dX12_feed_99 ?_
  refine lv_topi (fun z_89 ez_89 => ?_)
  obtain rfl : z_89 = 0 := ez_89.trans (by decide)
  refine lv_isub hx hb dX12_feed_100 ?_
  refine lv_topi (fun z_90 ez_90 => ?_)
  obtain rfl : z_90 = 24 := ez_90.trans (by decide)
  refine lv_ishr hx hb dX12_feed_101 ?_
  refine lv_sipush (v := 255) hx hb dX12_feed_102 (by decide) ?_
  refine lv_iand hx hb dX12_feed_105 ?_
  refine xg_iast hx hb hK hP hD hS 1 0 rfl rfl (by unfold vp_in; decide) dX12_feed_106 (fun f_91 H locs hP hD hS => ?_)
  have hP : va_P (dC, dI) vwCl [(mq, .inr (12, fs_1)), (mtp, .inl (cT, 900, .inl f_91))] H := hP
  have hD : va_D A [(mq, .inr (12, fs_1)), (mtp, .inl (cT, 900, .inl f_91))] := hD
  refine lv_iinc (v := 17) (lv' := [(6, .int 17), (7, .int a4), (0, .ref mq), (1, .int a0), (2, .int a1), (3, .int a2), (4, .int a3), (5, .int a4)]) hx hb dX12_feed_107 hl (k := 1) rfl (by decide) (by decide) rfl (fun ls hl => ?_)
  refine lv_goto (tgt := 23) hx hb dX12_feed_110 (by decide) ?_
  refine lv_iload hx hb dX12_feed_23 (lv_at hl 0 rfl) ?_
  refine lv_bipush (v := 20) hx hb dX12_feed_25 (by decide) ?_
  refine lv_icmp_ge (tgt := 113) hx hb dX12_feed_27 (by decide) (fun c => absurd c (by decide)) (fun _ => ?_)
  refine lv_iload hx hb dX12_feed_30 (lv_at hl 0 rfl) ?_
  refine lv_iconst (v := 4) hx hb dX12_feed_32 (by decide) ?_
  refine lv_icmp_ge (tgt := 40) hx hb dX12_feed_33 (by decide) (fun _ => ?_) (fun c => absurd c (by decide))
  refine lv_iload hx hb dX12_feed_40 (lv_at hl 0 rfl) ?_
  refine lv_bipush (v := 8) hx hb dX12_feed_42 (by decide) ?_
  refine lv_icmp_ge (tgt := 51) hx hb dX12_feed_44 (by decide) (fun _ => ?_) (fun c => absurd c (by decide))
  refine lv_iload hx hb dX12_feed_51 (lv_at hl 0 rfl) ?_
  refine lv_bipush (v := 12) hx hb dX12_feed_53 (by decide) ?_
  refine lv_icmp_ge (tgt := 62) hx hb dX12_feed_55 (by decide) (fun _ => ?_) (fun c => absurd c (by decide))
  refine lv_iload hx hb dX12_feed_62 (lv_at hl 0 rfl) ?_
  refine lv_bipush (v := 16) hx hb dX12_feed_64 (by decide) ?_
  refine lv_icmp_ge (tgt := 74) hx hb dX12_feed_66 (by decide) (fun _ => ?_) (fun c => absurd c (by decide))
  refine lv_iload hx hb dX12_feed_74 (lv_at hl 7 rfl) ?_
  refine lv_istore (lv' := [(7, .int a4), (6, .int 17), (0, .ref mq), (1, .int a0), (2, .int a1), (3, .int a2), (4, .int a3), (5, .int a4)]) hx hb dX12_feed_76 hl (by decide) rfl (fun ls hl => ?_)
  refine lv_aload_n hx hb dX12_feed_78 rfl (lv_at hl 2 rfl) ?_
  refine va_get (D := (dC, dI)) (ci := 12) (v := .ref mtp) (C := RX12) (T := TX12) (N := 76) hx hb htw inlX12 hown hK hP 0 rfl rfl 0 (by decide) (htw _ (ck_9 _ (List.mem_of_getElem? (i := 4) rfl))) (fun _ h9 => h9) hf_4 dX12_feed_79 ?_
  refine lv_aload_n hx hb dX12_feed_82 rfl (lv_at hl 2 rfl) ?_
  refine va_get (D := (dC, dI)) (ci := 12) (v := .int 0) (C := RX12) (T := TX12) (N := 76) hx hb htw inlX12 hown hK hP 0 rfl rfl 1 (by decide) (htw _ (ck_12 _ (List.mem_of_getElem? (i := 17) rfl))) (fun _ h9 => h9) hf_3 dX12_feed_83 ?_
  refine lv_iload hx hb dX12_feed_86 (lv_at hl 1 rfl) ?_
  refine lv_iadd hx hb dX12_feed_88 ?_
  refine lv_topi (fun z_92 ez_92 => ?_)
  obtain rfl : z_92 = 17 := ez_92.trans (by decide)
  refine lv_iload hx hb dX12_feed_89 (lv_at hl 0 rfl) ?_
  refine lv_bipush (v := 24) hx hb dX12_feed_91 (by decide) ?_
  refine lv_bipush (v := 8) hx hb dX12_feed_93 (by decide) ?_
  refine lv_iload hx hb dX12_feed_95 (lv_at hl 1 rfl) ?_
  refine lv_iconst (v := 4) hx hb dX12_feed_97 (by decide) ?_
  refine lv_irem hx hb dX12_feed_98 (by decide) ?_
  refine lv_topi (fun z_93 ez_93 => ?_)
  obtain rfl : z_93 = 1 := ez_93.trans (by decide)
  refine lv_imul hx hb dX12_feed_99 ?_
  refine lv_topi (fun z_94 ez_94 => ?_)
  obtain rfl : z_94 = 8 := ez_94.trans (by decide)
  refine lv_isub hx hb dX12_feed_100 ?_
  refine lv_topi (fun z_95 ez_95 => ?_)
  obtain rfl : z_95 = 16 := ez_95.trans (by decide)
  refine lv_ishr hx hb dX12_feed_101 ?_
  refine lv_sipush (v := 255) hx hb dX12_feed_102 (by decide) ?_
  refine lv_iand hx hb dX12_feed_105 ?_
  refine xg_iast hx hb hK hP hD hS 1 0 rfl rfl (by unfold vp_in; decide) dX12_feed_106 (fun f_96 H locs hP hD hS => ?_)
  have hP : va_P (dC, dI) vwCl [(mq, .inr (12, fs_1)), (mtp, .inl (cT, 900, .inl f_96))] H := hP
  have hD : va_D A [(mq, .inr (12, fs_1)), (mtp, .inl (cT, 900, .inl f_96))] := hD
  refine lv_iinc (v := 18) (lv' := [(6, .int 18), (7, .int a4), (0, .ref mq), (1, .int a0), (2, .int a1), (3, .int a2), (4, .int a3), (5, .int a4)]) hx hb dX12_feed_107 hl (k := 1) rfl (by decide) (by decide) rfl (fun ls hl => ?_)
  refine lv_goto (tgt := 23) hx hb dX12_feed_110 (by decide) ?_
  refine lv_iload hx hb dX12_feed_23 (lv_at hl 0 rfl) ?_
  refine lv_bipush (v := 20) hx hb dX12_feed_25 (by decide) ?_
  refine lv_icmp_ge (tgt := 113) hx hb dX12_feed_27 (by decide) (fun c => absurd c (by decide)) (fun _ => ?_)
  refine lv_iload hx hb dX12_feed_30 (lv_at hl 0 rfl) ?_
  refine lv_iconst (v := 4) hx hb dX12_feed_32 (by decide) ?_
  refine lv_icmp_ge (tgt := 40) hx hb dX12_feed_33 (by decide) (fun _ => ?_) (fun c => absurd c (by decide))
  refine lv_iload hx hb dX12_feed_40 (lv_at hl 0 rfl) ?_
  refine lv_bipush (v := 8) hx hb dX12_feed_42 (by decide) ?_
  refine lv_icmp_ge (tgt := 51) hx hb dX12_feed_44 (by decide) (fun _ => ?_) (fun c => absurd c (by decide))
  refine lv_iload hx hb dX12_feed_51 (lv_at hl 0 rfl) ?_
  refine lv_bipush (v := 12) hx hb dX12_feed_53 (by decide) ?_
  refine lv_icmp_ge (tgt := 62) hx hb dX12_feed_55 (by decide) (fun _ => ?_) (fun c => absurd c (by decide))
  refine lv_iload hx hb dX12_feed_62 (lv_at hl 0 rfl) ?_
  refine lv_bipush (v := 16) hx hb dX12_feed_64 (by decide) ?_
  refine lv_icmp_ge (tgt := 74) hx hb dX12_feed_66 (by decide) (fun _ => ?_) (fun c => absurd c (by decide))
  refine lv_iload hx hb dX12_feed_74 (lv_at hl 7 rfl) ?_
  refine lv_istore (lv' := [(7, .int a4), (6, .int 18), (0, .ref mq), (1, .int a0), (2, .int a1), (3, .int a2), (4, .int a3), (5, .int a4)]) hx hb dX12_feed_76 hl (by decide) rfl (fun ls hl => ?_)
  refine lv_aload_n hx hb dX12_feed_78 rfl (lv_at hl 2 rfl) ?_
  refine va_get (D := (dC, dI)) (ci := 12) (v := .ref mtp) (C := RX12) (T := TX12) (N := 76) hx hb htw inlX12 hown hK hP 0 rfl rfl 0 (by decide) (htw _ (ck_9 _ (List.mem_of_getElem? (i := 4) rfl))) (fun _ h9 => h9) hf_4 dX12_feed_79 ?_
  refine lv_aload_n hx hb dX12_feed_82 rfl (lv_at hl 2 rfl) ?_
  refine va_get (D := (dC, dI)) (ci := 12) (v := .int 0) (C := RX12) (T := TX12) (N := 76) hx hb htw inlX12 hown hK hP 0 rfl rfl 1 (by decide) (htw _ (ck_12 _ (List.mem_of_getElem? (i := 17) rfl))) (fun _ h9 => h9) hf_3 dX12_feed_83 ?_
  refine lv_iload hx hb dX12_feed_86 (lv_at hl 1 rfl) ?_
  refine lv_iadd hx hb dX12_feed_88 ?_
  refine lv_topi (fun z_97 ez_97 => ?_)
  obtain rfl : z_97 = 18 := ez_97.trans (by decide)
  refine lv_iload hx hb dX12_feed_89 (lv_at hl 0 rfl) ?_
  refine lv_bipush (v := 24) hx hb dX12_feed_91 (by decide) ?_
  refine lv_bipush (v := 8) hx hb dX12_feed_93 (by decide) ?_
  refine lv_iload hx hb dX12_feed_95 (lv_at hl 1 rfl) ?_
  refine lv_iconst (v := 4) hx hb dX12_feed_97 (by decide) ?_
  refine lv_irem hx hb dX12_feed_98 (by decide) ?_
  refine lv_topi (fun z_98 ez_98 => ?_)
  obtain rfl : z_98 = 2 := ez_98.trans (by decide)
  refine lv_imul hx hb dX12_feed_99 ?_
  refine lv_topi (fun z_99 ez_99 => ?_)
  obtain rfl : z_99 = 16 := ez_99.trans (by decide)
  refine lv_isub hx hb dX12_feed_100 ?_
  refine lv_topi (fun z_100 ez_100 => ?_)
  obtain rfl : z_100 = 8 := ez_100.trans (by decide)
  refine lv_ishr hx hb dX12_feed_101 ?_
  refine lv_sipush (v := 255) hx hb dX12_feed_102 (by decide) ?_
  refine lv_iand hx hb dX12_feed_105 ?_
  refine xg_iast hx hb hK hP hD hS 1 0 rfl rfl (by unfold vp_in; decide) dX12_feed_106 (fun f_101 H locs hP hD hS => ?_)
  have hP : va_P (dC, dI) vwCl [(mq, .inr (12, fs_1)), (mtp, .inl (cT, 900, .inl f_101))] H := hP
  have hD : va_D A [(mq, .inr (12, fs_1)), (mtp, .inl (cT, 900, .inl f_101))] := hD
  refine lv_iinc (v := 19) (lv' := [(6, .int 19), (7, .int a4), (0, .ref mq), (1, .int a0), (2, .int a1), (3, .int a2), (4, .int a3), (5, .int a4)]) hx hb dX12_feed_107 hl (k := 1) rfl (by decide) (by decide) rfl (fun ls hl => ?_)
  refine lv_goto (tgt := 23) hx hb dX12_feed_110 (by decide) ?_
  refine lv_iload hx hb dX12_feed_23 (lv_at hl 0 rfl) ?_
  refine lv_bipush (v := 20) hx hb dX12_feed_25 (by decide) ?_
  refine lv_icmp_ge (tgt := 113) hx hb dX12_feed_27 (by decide) (fun c => absurd c (by decide)) (fun _ => ?_)
  refine lv_iload hx hb dX12_feed_30 (lv_at hl 0 rfl) ?_
  refine lv_iconst (v := 4) hx hb dX12_feed_32 (by decide) ?_
  refine lv_icmp_ge (tgt := 40) hx hb dX12_feed_33 (by decide) (fun _ => ?_) (fun c => absurd c (by decide))
  refine lv_iload hx hb dX12_feed_40 (lv_at hl 0 rfl) ?_
  refine lv_bipush (v := 8) hx hb dX12_feed_42 (by decide) ?_
  refine lv_icmp_ge (tgt := 51) hx hb dX12_feed_44 (by decide) (fun _ => ?_) (fun c => absurd c (by decide))
  refine lv_iload hx hb dX12_feed_51 (lv_at hl 0 rfl) ?_
  refine lv_bipush (v := 12) hx hb dX12_feed_53 (by decide) ?_
  refine lv_icmp_ge (tgt := 62) hx hb dX12_feed_55 (by decide) (fun _ => ?_) (fun c => absurd c (by decide))
  refine lv_iload hx hb dX12_feed_62 (lv_at hl 0 rfl) ?_
  refine lv_bipush (v := 16) hx hb dX12_feed_64 (by decide) ?_
  refine lv_icmp_ge (tgt := 74) hx hb dX12_feed_66 (by decide) (fun _ => ?_) (fun c => absurd c (by decide))
  refine lv_iload hx hb dX12_feed_74 (lv_at hl 7 rfl) ?_
  refine lv_istore (lv' := [(7, .int a4), (6, .int 19), (0, .ref mq), (1, .int a0), (2, .int a1), (3, .int a2), (4, .int a3), (5, .int a4)]) hx hb dX12_feed_76 hl (by decide) rfl (fun ls hl => ?_)
  refine lv_aload_n hx hb dX12_feed_78 rfl (lv_at hl 2 rfl) ?_
  refine va_get (D := (dC, dI)) (ci := 12) (v := .ref mtp) (C := RX12) (T := TX12) (N := 76) hx hb htw inlX12 hown hK hP 0 rfl rfl 0 (by decide) (htw _ (ck_9 _ (List.mem_of_getElem? (i := 4) rfl))) (fun _ h9 => h9) hf_4 dX12_feed_79 ?_
  refine lv_aload_n hx hb dX12_feed_82 rfl (lv_at hl 2 rfl) ?_
  refine va_get (D := (dC, dI)) (ci := 12) (v := .int 0) (C := RX12) (T := TX12) (N := 76) hx hb htw inlX12 hown hK hP 0 rfl rfl 1 (by decide) (htw _ (ck_12 _ (List.mem_of_getElem? (i := 17) rfl))) (fun _ h9 => h9) hf_3 dX12_feed_83 ?_
  refine lv_iload hx hb dX12_feed_86 (lv_at hl 1 rfl) ?_
  refine lv_iadd hx hb dX12_feed_88 ?_
  refine lv_topi (fun z_102 ez_102 => ?_)
  obtain rfl : z_102 = 19 := ez_102.trans (by decide)
  refine lv_iload hx hb dX12_feed_89 (lv_at hl 0 rfl) ?_
  refine lv_bipush (v := 24) hx hb dX12_feed_91 (by decide) ?_
  refine lv_bipush (v := 8) hx hb dX12_feed_93 (by decide) ?_
  refine lv_iload hx hb dX12_feed_95 (lv_at hl 1 rfl) ?_
  refine lv_iconst (v := 4) hx hb dX12_feed_97 (by decide) ?_
  refine lv_irem hx hb dX12_feed_98 (by decide) ?_
  refine lv_topi (fun z_103 ez_103 => ?_)
  obtain rfl : z_103 = 3 := ez_103.trans (by decide)
  refine lv_imul hx hb dX12_feed_99 ?_
  refine lv_topi (fun z_104 ez_104 => ?_)
  obtain rfl : z_104 = 24 := ez_104.trans (by decide)
  refine lv_isub hx hb dX12_feed_100 ?_
  refine lv_topi (fun z_105 ez_105 => ?_)
  obtain rfl : z_105 = 0 := ez_105.trans (by decide)
  refine lv_ishr hx hb dX12_feed_101 ?_
  refine lv_sipush (v := 255) hx hb dX12_feed_102 (by decide) ?_
  refine lv_iand hx hb dX12_feed_105 ?_
  refine xg_iast hx hb hK hP hD hS 1 0 rfl rfl (by unfold vp_in; decide) dX12_feed_106 (fun f_106 H locs hP hD hS => ?_)
  have hP : va_P (dC, dI) vwCl [(mq, .inr (12, fs_1)), (mtp, .inl (cT, 900, .inl f_106))] H := hP
  have hD : va_D A [(mq, .inr (12, fs_1)), (mtp, .inl (cT, 900, .inl f_106))] := hD
  refine lv_iinc (v := 20) (lv' := [(6, .int 20), (7, .int a4), (0, .ref mq), (1, .int a0), (2, .int a1), (3, .int a2), (4, .int a3), (5, .int a4)]) hx hb dX12_feed_107 hl (k := 1) rfl (by decide) (by decide) rfl (fun ls hl => ?_)
  refine lv_goto (tgt := 23) hx hb dX12_feed_110 (by decide) ?_
  refine lv_iload hx hb dX12_feed_23 (lv_at hl 0 rfl) ?_
  refine lv_bipush (v := 20) hx hb dX12_feed_25 (by decide) ?_
  refine lv_icmp_ge (tgt := 113) hx hb dX12_feed_27 (by decide) (fun _ => ?_) (fun c => absurd c (by decide))
  refine lv_aload_n hx hb dX12_feed_113 rfl (lv_at hl 2 rfl) ?_
  refine lv_dup hx hb dX12_feed_114 rfl ?_
  refine va_get (D := (dC, dI)) (ci := 12) (v := .int 0) (C := RX12) (T := TX12) (N := 76) hx hb htw inlX12 hown hK hP 0 rfl rfl 1 (by decide) (htw _ (ck_12 _ (List.mem_of_getElem? (i := 17) rfl))) (fun _ h9 => h9) hf_3 dX12_feed_115 ?_
  refine lv_bipush (v := 20) hx hb dX12_feed_118 (by decide) ?_
  refine lv_iadd hx hb dX12_feed_120 ?_
  refine lv_topi (fun z_107 ez_107 => ?_)
  obtain rfl : z_107 = 20 := ez_107.trans (by decide)
  refine va_put (D := (dC, dI)) (ci := 12) (v := .int 20) (ty := tyX12 1) (C := RX12) (T := TX12) (N := 76) hx hb htw inlX12 tyX12 tyX12_ok nmX12 hown hK hP hD hS 0 rfl rfl 1 (by decide) (htw _ (ck_12 _ (List.mem_of_getElem? (i := 17) rfl))) (fun _ h9 => h9) rfl (by decide +kernel) rfl rfl (by rw [hlen_2]; decide) dX12_feed_121 (fun H locs hP hD hS => ?_)
  obtain ⟨fs_108, efs_108⟩ : ∃ g : List Value, g = (fs_1).set 1 (.int 20) := ⟨_, rfl⟩
  have hlen_109 : fs_108.length = 76 := by rw [efs_108, List.length_set]; exact hlen_2
  have hf_110 : fs_108[0]? = some (.ref mtp) := by rw [efs_108, List.getElem?_set_ne (by decide)]; exact hf_4
  have hf_111 : fs_108[2]? = some (.int 0) := by rw [efs_108, List.getElem?_set_ne (by decide)]; exact hf_5
  have hf_112 : fs_108[1]? = some (.int 20) := by rw [efs_108]; exact List.getElem?_set_self (by rw [hlen_2]; decide)
  rw [← efs_108] at hP hD
  have hP : va_P (dC, dI) vwCl [(mq, .inr (12, fs_108)), (mtp, .inl (cT, 900, .inl f_106))] H := hP
  have hD : va_D A [(mq, .inr (12, fs_108)), (mtp, .inl (cT, 900, .inl f_106))] := hD
  refine lv_aload_n hx hb dX12_feed_124 rfl (lv_at hl 2 rfl) ?_
  refine va_get (D := (dC, dI)) (ci := 12) (v := .int 20) (C := RX12) (T := TX12) (N := 76) hx hb htw inlX12 hown hK hP 0 rfl rfl 1 (by decide) (htw _ (ck_12 _ (List.mem_of_getElem? (i := 17) rfl))) (fun _ h9 => h9) hf_112 dX12_feed_125 ?_
  refine W.widen (k := 0) (n := 0) (by omega) (by omega) ?_
  exact W.iret (v := 20) hx hb hr (fun t ht hW => ⟨⟨20, (), rfl, rfl, trivial⟩, hS.F ht⟩) hS.2.2 dX12_feed_128

theorem dX12_note_0 : decode cX12_note 0 = .ok (.aload_n 0, 1) := by decide +kernel
theorem dX12_note_1 : decode cX12_note 1 = .ok (.iconst 0, 1) := by decide +kernel
theorem dX12_note_2 : decode cX12_note 2 = .ok (.putfield 119, 3) := by decide +kernel
theorem dX12_note_5 : decode cX12_note 5 = .ok (.aload_n 0, 1) := by decide +kernel
theorem dX12_note_6 : decode cX12_note 6 = .ok (.getfield 229, 3) := by decide +kernel
theorem dX12_note_9 : decode cX12_note 9 = .ok (.bipush 12, 2) := by decide +kernel
theorem dX12_note_11 : decode cX12_note 11 = .ok (.if_icmp .ne 5, 3) := by decide +kernel
theorem dX12_note_16 : decode cX12_note 16 = .ok (.iconst 0, 1) := by decide +kernel
theorem dX12_note_17 : decode cX12_note 17 = .ok (.istore_n 1, 1) := by decide +kernel
theorem dX12_note_18 : decode cX12_note 18 = .ok (.iload_n 1, 1) := by decide +kernel
theorem dX12_note_19 : decode cX12_note 19 = .ok (.bipush 11, 2) := by decide +kernel
theorem dX12_note_21 : decode cX12_note 21 = .ok (.if_icmp .ge 24, 3) := by decide +kernel
theorem dX12_note_24 : decode cX12_note 24 = .ok (.aload_n 0, 1) := by decide +kernel
theorem dX12_note_25 : decode cX12_note 25 = .ok (.getfield 60, 3) := by decide +kernel
theorem dX12_note_28 : decode cX12_note 28 = .ok (.bipush 11, 2) := by decide +kernel
theorem dX12_note_30 : decode cX12_note 30 = .ok (.aload_n 0, 1) := by decide +kernel
theorem dX12_note_31 : decode cX12_note 31 = .ok (.getfield 229, 3) := by decide +kernel
theorem dX12_note_34 : decode cX12_note 34 = .ok (.imul, 1) := by decide +kernel
theorem dX12_note_35 : decode cX12_note 35 = .ok (.iload_n 1, 1) := by decide +kernel
theorem dX12_note_36 : decode cX12_note 36 = .ok (.iadd, 1) := by decide +kernel
theorem dX12_note_37 : decode cX12_note 37 = .ok (.iconst 0, 1) := by decide +kernel
theorem dX12_note_38 : decode cX12_note 38 = .ok (.iastore, 1) := by decide +kernel
theorem dX12_note_39 : decode cX12_note 39 = .ok (.iinc 1 1, 3) := by decide +kernel
theorem dX12_note_42 : decode cX12_note 42 = .ok (.goto (-24), 3) := by decide +kernel
theorem dX12_note_45 : decode cX12_note 45 = .ok (.aload_n 0, 1) := by decide +kernel
theorem dX12_note_46 : decode cX12_note 46 = .ok (.dup, 1) := by decide +kernel
theorem dX12_note_47 : decode cX12_note 47 = .ok (.getfield 229, 3) := by decide +kernel
theorem dX12_note_50 : decode cX12_note 50 = .ok (.iconst 1, 1) := by decide +kernel
theorem dX12_note_51 : decode cX12_note 51 = .ok (.iadd, 1) := by decide +kernel
theorem dX12_note_52 : decode cX12_note 52 = .ok (.putfield 229, 3) := by decide +kernel
theorem dX12_note_55 : decode cX12_note 55 = .ok (.aload_n 0, 1) := by decide +kernel
theorem dX12_note_56 : decode cX12_note 56 = .ok (.getfield 84, 3) := by decide +kernel
theorem dX12_note_59 : decode cX12_note 59 = .ok (.aload_n 0, 1) := by decide +kernel
theorem dX12_note_60 : decode cX12_note 60 = .ok (.getfield 249, 3) := by decide +kernel
theorem dX12_note_63 : decode cX12_note 63 = .ok (.iconst (-1), 1) := by decide +kernel
theorem dX12_note_64 : decode cX12_note 64 = .ok (.iastore, 1) := by decide +kernel
theorem dX12_note_65 : decode cX12_note 65 = .ok (.aload_n 0, 1) := by decide +kernel
theorem dX12_note_66 : decode cX12_note 66 = .ok (.dup, 1) := by decide +kernel
theorem dX12_note_67 : decode cX12_note 67 = .ok (.getfield 249, 3) := by decide +kernel
theorem dX12_note_70 : decode cX12_note 70 = .ok (.iconst 1, 1) := by decide +kernel
theorem dX12_note_71 : decode cX12_note 71 = .ok (.iadd, 1) := by decide +kernel
theorem dX12_note_72 : decode cX12_note 72 = .ok (.putfield 249, 3) := by decide +kernel
theorem dX12_note_75 : decode cX12_note 75 = .ok (.aload_n 0, 1) := by decide +kernel
theorem dX12_note_76 : decode cX12_note 76 = .ok (.getfield 229, 3) := by decide +kernel
theorem dX12_note_79 : decode cX12_note 79 = .ok (.iconst 1, 1) := by decide +kernel
theorem dX12_note_80 : decode cX12_note 80 = .ok (.isub, 1) := by decide +kernel
theorem dX12_note_81 : decode cX12_note 81 = .ok (.ireturn, 1) := by decide +kernel
set_option maxHeartbeats 4000000 in
set_option maxRecDepth 100000 in
theorem mm_note (l : Launch) (dC : Nat → ClassId) (dI : Nat → Nat → Nat) (mq : Nat) (fs : List Value) (mnh : Nat) (mun : Nat) (cH : ClassId) (fH : Nat → Int32) (cU : ClassId) (fU : Nat → Int32) (sz : Nat) (hlen : fs.length = 76) (hf16 : fs[16]? = some (.int 0)) (hf59 : fs[59]? = some (.int 0)) (hf40 : fs[40]? = some (.ref mnh)) (hf60 : fs[60]? = some (.ref mun)) : Met l yX12_note (Cond.code yX12_note cX12_note 2 (some .int) :: wsL_law) ({ frames := 0, cells := 0, slots := 0, locals := 0 }) (va_Pc [.ref mq] (fun U => U.heap.size = sz ∧ va_P (dC, dI) vwCl [(mq, .inr (12, fs)), (mnh, .inl (cH, 264, .inl fH)), (mun, .inl (cU, 128, .inl fU))] U.heap ∧ va_K (dC, dI) vwCl [(cH, .int), (cU, .int)] U ∧ va_D (fun _ => True) [(mq, .inr (12, fs)), (mnh, .inl (cH, 264, .inl fH)), (mun, .inl (cU, 128, .inl fU))])) (va_Qi (fun (r : Int32) (u : Unit) => r = 0) (fun _ _ => True) (va_A [(mq, .inr (12, fs)), (mnh, .inl (cH, 264, .inl fH)), (mun, .inl (cU, 128, .inl fU))] sz)) 0 0 (va_A [(mq, .inr (12, fs)), (mnh, .inl (cH, 264, .inl fH)), (mun, .inl (cU, 128, .inl fU))] sz) := by
  refine Met.ofW (cc := cX12_note) (maxL := 2) (ret := (some .int)) (by decide) rfl ?_
  intro p e s m args below meth c s₁ B hml hv
  obtain ⟨rfl, hsz, hP, hK, hD0⟩ := hv
  have hx := B.exec
  have hb := B.bytes
  have hr := B.returns
  have hts := atoms_spec (ws := Cond.code yX12_note cX12_note 2 (some .int) :: wsL_law) B.pre
  have htw : ∀ w ∈ wsL_law, w.before _ s = true := fun w h => hts w (List.mem_cons_of_mem _ h)
  have hown : s.vm.findClass RX12 = some m.cls := findClass_of_methodNamed B.named
  have hlocks := B.notSynchronized
  subst hsz
  have hD := hD0.self (sz := s.heap.size)
  generalize hAe : va_A [(mq, .inr (12, fs)), (mnh, .inl (cH, 264, .inl fH)), (mun, .inl (cU, 128, .inl fU))] s.heap.size = A at hD ⊢
  have hA : ∀ q : Nat, s.heap.size ≤ q → A q := fun q h => by rw [← hAe]; exact Or.inr h
  obtain ⟨H, rH⟩ : ∃ z : Heap, z = s.heap := ⟨_, rfl⟩
  have hS : va_S A s.heap H [] := by rw [rH]; exact va_S.rf
  have hP : va_P (dC, dI) vwCl [(mq, .inr (12, fs)), (mnh, .inl (cH, 264, .inl fH)), (mun, .inl (cU, 128, .inl fU))] H := by rw [rH]; exact hP
  rw [← rH]
  have hl := lv_entry ([.ref mq]) (n := 2) (Nat.le_of_ble_eq_true rfl)
  rw [lg_entry_eq]
  generalize (lg_sl ([.ref mq]) ++ List.replicate (2 - (lg_sl ([.ref mq])).length) Slot.unset).toArray = ls at hl ⊢
  have hl : lv_has ls 2 [(0, .ref mq)] := hl
  refine lv_aload_n hx hb dX12_note_0 rfl (lv_at hl 0 rfl) ?_
  refine lv_iconst (v := 0) hx hb dX12_note_1 (by decide) ?_
  refine va_put (D := (dC, dI)) (ci := 12) (v := .int 0) (ty := tyX12 2) (C := RX12) (T := TX12) (N := 76) hx hb htw inlX12 tyX12 tyX12_ok nmX12 hown hK hP hD hS 0 rfl rfl 2 (by decide) (htw _ (ck_12 _ (List.mem_of_getElem? (i := 16) rfl))) (fun _ h9 => h9) rfl (by decide +kernel) rfl rfl (by rw [hlen]; decide) dX12_note_2 (fun H locs hP hD hS => ?_)
  obtain ⟨fs_1, efs_1⟩ : ∃ g : List Value, g = (fs).set 2 (.int 0) := ⟨_, rfl⟩
  have hlen_2 : fs_1.length = 76 := by rw [efs_1, List.length_set]; exact hlen
  have hf_3 : fs_1[16]? = some (.int 0) := by rw [efs_1, List.getElem?_set_ne (by decide)]; exact hf16
  have hf_4 : fs_1[59]? = some (.int 0) := by rw [efs_1, List.getElem?_set_ne (by decide)]; exact hf59
  have hf_5 : fs_1[40]? = some (.ref mnh) := by rw [efs_1, List.getElem?_set_ne (by decide)]; exact hf40
  have hf_6 : fs_1[60]? = some (.ref mun) := by rw [efs_1, List.getElem?_set_ne (by decide)]; exact hf60
  have hf_7 : fs_1[2]? = some (.int 0) := by rw [efs_1]; exact List.getElem?_set_self (by rw [hlen]; decide)
  rw [← efs_1] at hP hD
  have hP : va_P (dC, dI) vwCl [(mq, .inr (12, fs_1)), (mnh, .inl (cH, 264, .inl fH)), (mun, .inl (cU, 128, .inl fU))] H := hP
  have hD : va_D A [(mq, .inr (12, fs_1)), (mnh, .inl (cH, 264, .inl fH)), (mun, .inl (cU, 128, .inl fU))] := hD
  refine lv_aload_n hx hb dX12_note_5 rfl (lv_at hl 0 rfl) ?_
  refine va_get (D := (dC, dI)) (ci := 12) (v := .int 0) (C := RX12) (T := TX12) (N := 76) hx hb htw inlX12 hown hK hP 0 rfl rfl 16 (by decide) (htw _ (ck_11 _ (List.mem_of_getElem? (i := 13) rfl))) (fun _ h9 => h9) hf_3 dX12_note_6 ?_
  refine lv_bipush (v := 12) hx hb dX12_note_9 (by decide) ?_
  refine lv_icmp_ne (tgt := 16) hx hb dX12_note_11 (by decide) (fun _ => ?_) (fun c => absurd c (by decide))
  refine lv_iconst (v := 0) hx hb dX12_note_16 (by decide) ?_
  refine lv_istore_n (lv' := [(1, .int 0), (0, .ref mq)]) hx hb dX12_note_17 rfl hl (by decide) rfl (fun ls hl => ?_)
  refine lv_iload_n hx hb dX12_note_18 rfl (lv_at hl 0 rfl) ?_
  refine lv_bipush (v := 11) hx hb dX12_note_19 (by decide) ?_
  refine lv_icmp_ge (tgt := 45) hx hb dX12_note_21 (by decide) (fun c => absurd c (by decide)) (fun _ => ?_)
  refine lv_aload_n hx hb dX12_note_24 rfl (lv_at hl 1 rfl) ?_
  refine va_get (D := (dC, dI)) (ci := 12) (v := .ref mnh) (C := RX12) (T := TX12) (N := 76) hx hb htw inlX12 hown hK hP 0 rfl rfl 40 (by decide) (htw _ (ck_9 _ (List.mem_of_getElem? (i := 20) rfl))) (fun _ h9 => h9) hf_5 dX12_note_25 ?_
  refine lv_bipush (v := 11) hx hb dX12_note_28 (by decide) ?_
  refine lv_aload_n hx hb dX12_note_30 rfl (lv_at hl 1 rfl) ?_
  refine va_get (D := (dC, dI)) (ci := 12) (v := .int 0) (C := RX12) (T := TX12) (N := 76) hx hb htw inlX12 hown hK hP 0 rfl rfl 16 (by decide) (htw _ (ck_11 _ (List.mem_of_getElem? (i := 13) rfl))) (fun _ h9 => h9) hf_3 dX12_note_31 ?_
  refine lv_imul hx hb dX12_note_34 ?_
  refine lv_topi (fun z_8 ez_8 => ?_)
  obtain rfl : z_8 = 0 := ez_8.trans (by decide)
  refine lv_iload_n hx hb dX12_note_35 rfl (lv_at hl 0 rfl) ?_
  refine lv_iadd hx hb dX12_note_36 ?_
  refine lv_topi (fun z_9 ez_9 => ?_)
  obtain rfl : z_9 = 0 := ez_9.trans (by decide)
  refine lv_iconst (v := 0) hx hb dX12_note_37 (by decide) ?_
  refine xg_iast hx hb hK hP hD hS 1 0 rfl rfl (by unfold vp_in; decide) dX12_note_38 (fun f_10 H locs hP hD hS => ?_)
  have hP : va_P (dC, dI) vwCl [(mq, .inr (12, fs_1)), (mnh, .inl (cH, 264, .inl f_10)), (mun, .inl (cU, 128, .inl fU))] H := hP
  have hD : va_D A [(mq, .inr (12, fs_1)), (mnh, .inl (cH, 264, .inl f_10)), (mun, .inl (cU, 128, .inl fU))] := hD
  refine lv_iinc (v := 1) (lv' := [(1, .int 1), (0, .ref mq)]) hx hb dX12_note_39 hl (k := 0) rfl (by decide) (by decide) rfl (fun ls hl => ?_)
  refine lv_goto (tgt := 18) hx hb dX12_note_42 (by decide) ?_
  refine lv_iload_n hx hb dX12_note_18 rfl (lv_at hl 0 rfl) ?_
  refine lv_bipush (v := 11) hx hb dX12_note_19 (by decide) ?_
  refine lv_icmp_ge (tgt := 45) hx hb dX12_note_21 (by decide) (fun c => absurd c (by decide)) (fun _ => ?_)
  refine lv_aload_n hx hb dX12_note_24 rfl (lv_at hl 1 rfl) ?_
  refine va_get (D := (dC, dI)) (ci := 12) (v := .ref mnh) (C := RX12) (T := TX12) (N := 76) hx hb htw inlX12 hown hK hP 0 rfl rfl 40 (by decide) (htw _ (ck_9 _ (List.mem_of_getElem? (i := 20) rfl))) (fun _ h9 => h9) hf_5 dX12_note_25 ?_
  refine lv_bipush (v := 11) hx hb dX12_note_28 (by decide) ?_
  refine lv_aload_n hx hb dX12_note_30 rfl (lv_at hl 1 rfl) ?_
  refine va_get (D := (dC, dI)) (ci := 12) (v := .int 0) (C := RX12) (T := TX12) (N := 76) hx hb htw inlX12 hown hK hP 0 rfl rfl 16 (by decide) (htw _ (ck_11 _ (List.mem_of_getElem? (i := 13) rfl))) (fun _ h9 => h9) hf_3 dX12_note_31 ?_
  refine lv_imul hx hb dX12_note_34 ?_
  refine lv_topi (fun z_11 ez_11 => ?_)
  obtain rfl : z_11 = 0 := ez_11.trans (by decide)
  refine lv_iload_n hx hb dX12_note_35 rfl (lv_at hl 0 rfl) ?_
  refine lv_iadd hx hb dX12_note_36 ?_
  refine lv_topi (fun z_12 ez_12 => ?_)
  obtain rfl : z_12 = 1 := ez_12.trans (by decide)
  refine lv_iconst (v := 0) hx hb dX12_note_37 (by decide) ?_
  refine xg_iast hx hb hK hP hD hS 1 0 rfl rfl (by unfold vp_in; decide) dX12_note_38 (fun f_13 H locs hP hD hS => ?_)
  have hP : va_P (dC, dI) vwCl [(mq, .inr (12, fs_1)), (mnh, .inl (cH, 264, .inl f_13)), (mun, .inl (cU, 128, .inl fU))] H := hP
  have hD : va_D A [(mq, .inr (12, fs_1)), (mnh, .inl (cH, 264, .inl f_13)), (mun, .inl (cU, 128, .inl fU))] := hD
  refine lv_iinc (v := 2) (lv' := [(1, .int 2), (0, .ref mq)]) hx hb dX12_note_39 hl (k := 0) rfl (by decide) (by decide) rfl (fun ls hl => ?_)
  refine lv_goto (tgt := 18) hx hb dX12_note_42 (by decide) ?_
  refine lv_iload_n hx hb dX12_note_18 rfl (lv_at hl 0 rfl) ?_
  refine lv_bipush (v := 11) hx hb dX12_note_19 (by decide) ?_
  refine lv_icmp_ge (tgt := 45) hx hb dX12_note_21 (by decide) (fun c => absurd c (by decide)) (fun _ => ?_)
  refine lv_aload_n hx hb dX12_note_24 rfl (lv_at hl 1 rfl) ?_
  refine va_get (D := (dC, dI)) (ci := 12) (v := .ref mnh) (C := RX12) (T := TX12) (N := 76) hx hb htw inlX12 hown hK hP 0 rfl rfl 40 (by decide) (htw _ (ck_9 _ (List.mem_of_getElem? (i := 20) rfl))) (fun _ h9 => h9) hf_5 dX12_note_25 ?_
  refine lv_bipush (v := 11) hx hb dX12_note_28 (by decide) ?_
  refine lv_aload_n hx hb dX12_note_30 rfl (lv_at hl 1 rfl) ?_
  refine va_get (D := (dC, dI)) (ci := 12) (v := .int 0) (C := RX12) (T := TX12) (N := 76) hx hb htw inlX12 hown hK hP 0 rfl rfl 16 (by decide) (htw _ (ck_11 _ (List.mem_of_getElem? (i := 13) rfl))) (fun _ h9 => h9) hf_3 dX12_note_31 ?_
  refine lv_imul hx hb dX12_note_34 ?_
  refine lv_topi (fun z_14 ez_14 => ?_)
  obtain rfl : z_14 = 0 := ez_14.trans (by decide)
  refine lv_iload_n hx hb dX12_note_35 rfl (lv_at hl 0 rfl) ?_
  refine lv_iadd hx hb dX12_note_36 ?_
  refine lv_topi (fun z_15 ez_15 => ?_)
  obtain rfl : z_15 = 2 := ez_15.trans (by decide)
  refine lv_iconst (v := 0) hx hb dX12_note_37 (by decide) ?_
  refine xg_iast hx hb hK hP hD hS 1 0 rfl rfl (by unfold vp_in; decide) dX12_note_38 (fun f_16 H locs hP hD hS => ?_)
  have hP : va_P (dC, dI) vwCl [(mq, .inr (12, fs_1)), (mnh, .inl (cH, 264, .inl f_16)), (mun, .inl (cU, 128, .inl fU))] H := hP
  have hD : va_D A [(mq, .inr (12, fs_1)), (mnh, .inl (cH, 264, .inl f_16)), (mun, .inl (cU, 128, .inl fU))] := hD
  refine lv_iinc (v := 3) (lv' := [(1, .int 3), (0, .ref mq)]) hx hb dX12_note_39 hl (k := 0) rfl (by decide) (by decide) rfl (fun ls hl => ?_)
  refine lv_goto (tgt := 18) hx hb dX12_note_42 (by decide) ?_
  refine lv_iload_n hx hb dX12_note_18 rfl (lv_at hl 0 rfl) ?_
  refine lv_bipush (v := 11) hx hb dX12_note_19 (by decide) ?_
  refine lv_icmp_ge (tgt := 45) hx hb dX12_note_21 (by decide) (fun c => absurd c (by decide)) (fun _ => ?_)
  refine lv_aload_n hx hb dX12_note_24 rfl (lv_at hl 1 rfl) ?_
  refine va_get (D := (dC, dI)) (ci := 12) (v := .ref mnh) (C := RX12) (T := TX12) (N := 76) hx hb htw inlX12 hown hK hP 0 rfl rfl 40 (by decide) (htw _ (ck_9 _ (List.mem_of_getElem? (i := 20) rfl))) (fun _ h9 => h9) hf_5 dX12_note_25 ?_
  refine lv_bipush (v := 11) hx hb dX12_note_28 (by decide) ?_
  refine lv_aload_n hx hb dX12_note_30 rfl (lv_at hl 1 rfl) ?_
  refine va_get (D := (dC, dI)) (ci := 12) (v := .int 0) (C := RX12) (T := TX12) (N := 76) hx hb htw inlX12 hown hK hP 0 rfl rfl 16 (by decide) (htw _ (ck_11 _ (List.mem_of_getElem? (i := 13) rfl))) (fun _ h9 => h9) hf_3 dX12_note_31 ?_
  refine lv_imul hx hb dX12_note_34 ?_
  refine lv_topi (fun z_17 ez_17 => ?_)
  obtain rfl : z_17 = 0 := ez_17.trans (by decide)
  refine lv_iload_n hx hb dX12_note_35 rfl (lv_at hl 0 rfl) ?_
  refine lv_iadd hx hb dX12_note_36 ?_
  refine lv_topi (fun z_18 ez_18 => ?_)
  obtain rfl : z_18 = 3 := ez_18.trans (by decide)
  refine lv_iconst (v := 0) hx hb dX12_note_37 (by decide) ?_
  refine xg_iast hx hb hK hP hD hS 1 0 rfl rfl (by unfold vp_in; decide) dX12_note_38 (fun f_19 H locs hP hD hS => ?_)
  have hP : va_P (dC, dI) vwCl [(mq, .inr (12, fs_1)), (mnh, .inl (cH, 264, .inl f_19)), (mun, .inl (cU, 128, .inl fU))] H := hP
  have hD : va_D A [(mq, .inr (12, fs_1)), (mnh, .inl (cH, 264, .inl f_19)), (mun, .inl (cU, 128, .inl fU))] := hD
  refine lv_iinc (v := 4) (lv' := [(1, .int 4), (0, .ref mq)]) hx hb dX12_note_39 hl (k := 0) rfl (by decide) (by decide) rfl (fun ls hl => ?_)
  refine lv_goto (tgt := 18) hx hb dX12_note_42 (by decide) ?_
  refine lv_iload_n hx hb dX12_note_18 rfl (lv_at hl 0 rfl) ?_
  refine lv_bipush (v := 11) hx hb dX12_note_19 (by decide) ?_
  refine lv_icmp_ge (tgt := 45) hx hb dX12_note_21 (by decide) (fun c => absurd c (by decide)) (fun _ => ?_)
  refine lv_aload_n hx hb dX12_note_24 rfl (lv_at hl 1 rfl) ?_
  refine va_get (D := (dC, dI)) (ci := 12) (v := .ref mnh) (C := RX12) (T := TX12) (N := 76) hx hb htw inlX12 hown hK hP 0 rfl rfl 40 (by decide) (htw _ (ck_9 _ (List.mem_of_getElem? (i := 20) rfl))) (fun _ h9 => h9) hf_5 dX12_note_25 ?_
  refine lv_bipush (v := 11) hx hb dX12_note_28 (by decide) ?_
  refine lv_aload_n hx hb dX12_note_30 rfl (lv_at hl 1 rfl) ?_
  refine va_get (D := (dC, dI)) (ci := 12) (v := .int 0) (C := RX12) (T := TX12) (N := 76) hx hb htw inlX12 hown hK hP 0 rfl rfl 16 (by decide) (htw _ (ck_11 _ (List.mem_of_getElem? (i := 13) rfl))) (fun _ h9 => h9) hf_3 dX12_note_31 ?_
  refine lv_imul hx hb dX12_note_34 ?_
  refine lv_topi (fun z_20 ez_20 => ?_)
  obtain rfl : z_20 = 0 := ez_20.trans (by decide)
  refine lv_iload_n hx hb dX12_note_35 rfl (lv_at hl 0 rfl) ?_
  refine lv_iadd hx hb dX12_note_36 ?_
  refine lv_topi (fun z_21 ez_21 => ?_)
  obtain rfl : z_21 = 4 := ez_21.trans (by decide)
  refine lv_iconst (v := 0) hx hb dX12_note_37 (by decide) ?_
  refine xg_iast hx hb hK hP hD hS 1 0 rfl rfl (by unfold vp_in; decide) dX12_note_38 (fun f_22 H locs hP hD hS => ?_)
  have hP : va_P (dC, dI) vwCl [(mq, .inr (12, fs_1)), (mnh, .inl (cH, 264, .inl f_22)), (mun, .inl (cU, 128, .inl fU))] H := hP
  have hD : va_D A [(mq, .inr (12, fs_1)), (mnh, .inl (cH, 264, .inl f_22)), (mun, .inl (cU, 128, .inl fU))] := hD
  refine lv_iinc (v := 5) (lv' := [(1, .int 5), (0, .ref mq)]) hx hb dX12_note_39 hl (k := 0) rfl (by decide) (by decide) rfl (fun ls hl => ?_)
  refine lv_goto (tgt := 18) hx hb dX12_note_42 (by decide) ?_
  refine lv_iload_n hx hb dX12_note_18 rfl (lv_at hl 0 rfl) ?_
  refine lv_bipush (v := 11) hx hb dX12_note_19 (by decide) ?_
  refine lv_icmp_ge (tgt := 45) hx hb dX12_note_21 (by decide) (fun c => absurd c (by decide)) (fun _ => ?_)
  refine lv_aload_n hx hb dX12_note_24 rfl (lv_at hl 1 rfl) ?_
  refine va_get (D := (dC, dI)) (ci := 12) (v := .ref mnh) (C := RX12) (T := TX12) (N := 76) hx hb htw inlX12 hown hK hP 0 rfl rfl 40 (by decide) (htw _ (ck_9 _ (List.mem_of_getElem? (i := 20) rfl))) (fun _ h9 => h9) hf_5 dX12_note_25 ?_
  refine lv_bipush (v := 11) hx hb dX12_note_28 (by decide) ?_
  refine lv_aload_n hx hb dX12_note_30 rfl (lv_at hl 1 rfl) ?_
  refine va_get (D := (dC, dI)) (ci := 12) (v := .int 0) (C := RX12) (T := TX12) (N := 76) hx hb htw inlX12 hown hK hP 0 rfl rfl 16 (by decide) (htw _ (ck_11 _ (List.mem_of_getElem? (i := 13) rfl))) (fun _ h9 => h9) hf_3 dX12_note_31 ?_
  refine lv_imul hx hb dX12_note_34 ?_
  refine lv_topi (fun z_23 ez_23 => ?_)
  obtain rfl : z_23 = 0 := ez_23.trans (by decide)
  refine lv_iload_n hx hb dX12_note_35 rfl (lv_at hl 0 rfl) ?_
  refine lv_iadd hx hb dX12_note_36 ?_
  refine lv_topi (fun z_24 ez_24 => ?_)
  obtain rfl : z_24 = 5 := ez_24.trans (by decide)
  refine lv_iconst (v := 0) hx hb dX12_note_37 (by decide) ?_
  refine xg_iast hx hb hK hP hD hS 1 0 rfl rfl (by unfold vp_in; decide) dX12_note_38 (fun f_25 H locs hP hD hS => ?_)
  have hP : va_P (dC, dI) vwCl [(mq, .inr (12, fs_1)), (mnh, .inl (cH, 264, .inl f_25)), (mun, .inl (cU, 128, .inl fU))] H := hP
  have hD : va_D A [(mq, .inr (12, fs_1)), (mnh, .inl (cH, 264, .inl f_25)), (mun, .inl (cU, 128, .inl fU))] := hD
  refine lv_iinc (v := 6) (lv' := [(1, .int 6), (0, .ref mq)]) hx hb dX12_note_39 hl (k := 0) rfl (by decide) (by decide) rfl (fun ls hl => ?_)
  refine lv_goto (tgt := 18) hx hb dX12_note_42 (by decide) ?_
  refine lv_iload_n hx hb dX12_note_18 rfl (lv_at hl 0 rfl) ?_
  refine lv_bipush (v := 11) hx hb dX12_note_19 (by decide) ?_
  refine lv_icmp_ge (tgt := 45) hx hb dX12_note_21 (by decide) (fun c => absurd c (by decide)) (fun _ => ?_)
  refine lv_aload_n hx hb dX12_note_24 rfl (lv_at hl 1 rfl) ?_
  refine va_get (D := (dC, dI)) (ci := 12) (v := .ref mnh) (C := RX12) (T := TX12) (N := 76) hx hb htw inlX12 hown hK hP 0 rfl rfl 40 (by decide) (htw _ (ck_9 _ (List.mem_of_getElem? (i := 20) rfl))) (fun _ h9 => h9) hf_5 dX12_note_25 ?_
  refine lv_bipush (v := 11) hx hb dX12_note_28 (by decide) ?_
  refine lv_aload_n hx hb dX12_note_30 rfl (lv_at hl 1 rfl) ?_
  refine va_get (D := (dC, dI)) (ci := 12) (v := .int 0) (C := RX12) (T := TX12) (N := 76) hx hb htw inlX12 hown hK hP 0 rfl rfl 16 (by decide) (htw _ (ck_11 _ (List.mem_of_getElem? (i := 13) rfl))) (fun _ h9 => h9) hf_3 dX12_note_31 ?_
  refine lv_imul hx hb dX12_note_34 ?_
  refine lv_topi (fun z_26 ez_26 => ?_)
  obtain rfl : z_26 = 0 := ez_26.trans (by decide)
  refine lv_iload_n hx hb dX12_note_35 rfl (lv_at hl 0 rfl) ?_
  refine lv_iadd hx hb dX12_note_36 ?_
  refine lv_topi (fun z_27 ez_27 => ?_)
  obtain rfl : z_27 = 6 := ez_27.trans (by decide)
  refine lv_iconst (v := 0) hx hb dX12_note_37 (by decide) ?_
  refine xg_iast hx hb hK hP hD hS 1 0 rfl rfl (by unfold vp_in; decide) dX12_note_38 (fun f_28 H locs hP hD hS => ?_)
  have hP : va_P (dC, dI) vwCl [(mq, .inr (12, fs_1)), (mnh, .inl (cH, 264, .inl f_28)), (mun, .inl (cU, 128, .inl fU))] H := hP
  have hD : va_D A [(mq, .inr (12, fs_1)), (mnh, .inl (cH, 264, .inl f_28)), (mun, .inl (cU, 128, .inl fU))] := hD
  refine lv_iinc (v := 7) (lv' := [(1, .int 7), (0, .ref mq)]) hx hb dX12_note_39 hl (k := 0) rfl (by decide) (by decide) rfl (fun ls hl => ?_)
  refine lv_goto (tgt := 18) hx hb dX12_note_42 (by decide) ?_
  refine lv_iload_n hx hb dX12_note_18 rfl (lv_at hl 0 rfl) ?_
  refine lv_bipush (v := 11) hx hb dX12_note_19 (by decide) ?_
  refine lv_icmp_ge (tgt := 45) hx hb dX12_note_21 (by decide) (fun c => absurd c (by decide)) (fun _ => ?_)
  refine lv_aload_n hx hb dX12_note_24 rfl (lv_at hl 1 rfl) ?_
  refine va_get (D := (dC, dI)) (ci := 12) (v := .ref mnh) (C := RX12) (T := TX12) (N := 76) hx hb htw inlX12 hown hK hP 0 rfl rfl 40 (by decide) (htw _ (ck_9 _ (List.mem_of_getElem? (i := 20) rfl))) (fun _ h9 => h9) hf_5 dX12_note_25 ?_
  refine lv_bipush (v := 11) hx hb dX12_note_28 (by decide) ?_
  refine lv_aload_n hx hb dX12_note_30 rfl (lv_at hl 1 rfl) ?_
  refine va_get (D := (dC, dI)) (ci := 12) (v := .int 0) (C := RX12) (T := TX12) (N := 76) hx hb htw inlX12 hown hK hP 0 rfl rfl 16 (by decide) (htw _ (ck_11 _ (List.mem_of_getElem? (i := 13) rfl))) (fun _ h9 => h9) hf_3 dX12_note_31 ?_
  refine lv_imul hx hb dX12_note_34 ?_
  refine lv_topi (fun z_29 ez_29 => ?_)
  obtain rfl : z_29 = 0 := ez_29.trans (by decide)
  refine lv_iload_n hx hb dX12_note_35 rfl (lv_at hl 0 rfl) ?_
  refine lv_iadd hx hb dX12_note_36 ?_
  refine lv_topi (fun z_30 ez_30 => ?_)
  obtain rfl : z_30 = 7 := ez_30.trans (by decide)
  refine lv_iconst (v := 0) hx hb dX12_note_37 (by decide) ?_
  refine xg_iast hx hb hK hP hD hS 1 0 rfl rfl (by unfold vp_in; decide) dX12_note_38 (fun f_31 H locs hP hD hS => ?_)
  have hP : va_P (dC, dI) vwCl [(mq, .inr (12, fs_1)), (mnh, .inl (cH, 264, .inl f_31)), (mun, .inl (cU, 128, .inl fU))] H := hP
  have hD : va_D A [(mq, .inr (12, fs_1)), (mnh, .inl (cH, 264, .inl f_31)), (mun, .inl (cU, 128, .inl fU))] := hD
  refine lv_iinc (v := 8) (lv' := [(1, .int 8), (0, .ref mq)]) hx hb dX12_note_39 hl (k := 0) rfl (by decide) (by decide) rfl (fun ls hl => ?_)
  refine lv_goto (tgt := 18) hx hb dX12_note_42 (by decide) ?_
  refine lv_iload_n hx hb dX12_note_18 rfl (lv_at hl 0 rfl) ?_
  refine lv_bipush (v := 11) hx hb dX12_note_19 (by decide) ?_
  refine lv_icmp_ge (tgt := 45) hx hb dX12_note_21 (by decide) (fun c => absurd c (by decide)) (fun _ => ?_)
  refine lv_aload_n hx hb dX12_note_24 rfl (lv_at hl 1 rfl) ?_
  refine va_get (D := (dC, dI)) (ci := 12) (v := .ref mnh) (C := RX12) (T := TX12) (N := 76) hx hb htw inlX12 hown hK hP 0 rfl rfl 40 (by decide) (htw _ (ck_9 _ (List.mem_of_getElem? (i := 20) rfl))) (fun _ h9 => h9) hf_5 dX12_note_25 ?_
  refine lv_bipush (v := 11) hx hb dX12_note_28 (by decide) ?_
  refine lv_aload_n hx hb dX12_note_30 rfl (lv_at hl 1 rfl) ?_
  refine va_get (D := (dC, dI)) (ci := 12) (v := .int 0) (C := RX12) (T := TX12) (N := 76) hx hb htw inlX12 hown hK hP 0 rfl rfl 16 (by decide) (htw _ (ck_11 _ (List.mem_of_getElem? (i := 13) rfl))) (fun _ h9 => h9) hf_3 dX12_note_31 ?_
  refine lv_imul hx hb dX12_note_34 ?_
  refine lv_topi (fun z_32 ez_32 => ?_)
  obtain rfl : z_32 = 0 := ez_32.trans (by decide)
  refine lv_iload_n hx hb dX12_note_35 rfl (lv_at hl 0 rfl) ?_
  refine lv_iadd hx hb dX12_note_36 ?_
  refine lv_topi (fun z_33 ez_33 => ?_)
  obtain rfl : z_33 = 8 := ez_33.trans (by decide)
  refine lv_iconst (v := 0) hx hb dX12_note_37 (by decide) ?_
  refine xg_iast hx hb hK hP hD hS 1 0 rfl rfl (by unfold vp_in; decide) dX12_note_38 (fun f_34 H locs hP hD hS => ?_)
  have hP : va_P (dC, dI) vwCl [(mq, .inr (12, fs_1)), (mnh, .inl (cH, 264, .inl f_34)), (mun, .inl (cU, 128, .inl fU))] H := hP
  have hD : va_D A [(mq, .inr (12, fs_1)), (mnh, .inl (cH, 264, .inl f_34)), (mun, .inl (cU, 128, .inl fU))] := hD
  refine lv_iinc (v := 9) (lv' := [(1, .int 9), (0, .ref mq)]) hx hb dX12_note_39 hl (k := 0) rfl (by decide) (by decide) rfl (fun ls hl => ?_)
  refine lv_goto (tgt := 18) hx hb dX12_note_42 (by decide) ?_
  refine lv_iload_n hx hb dX12_note_18 rfl (lv_at hl 0 rfl) ?_
  refine lv_bipush (v := 11) hx hb dX12_note_19 (by decide) ?_
  refine lv_icmp_ge (tgt := 45) hx hb dX12_note_21 (by decide) (fun c => absurd c (by decide)) (fun _ => ?_)
  refine lv_aload_n hx hb dX12_note_24 rfl (lv_at hl 1 rfl) ?_
  refine va_get (D := (dC, dI)) (ci := 12) (v := .ref mnh) (C := RX12) (T := TX12) (N := 76) hx hb htw inlX12 hown hK hP 0 rfl rfl 40 (by decide) (htw _ (ck_9 _ (List.mem_of_getElem? (i := 20) rfl))) (fun _ h9 => h9) hf_5 dX12_note_25 ?_
  refine lv_bipush (v := 11) hx hb dX12_note_28 (by decide) ?_
  refine lv_aload_n hx hb dX12_note_30 rfl (lv_at hl 1 rfl) ?_
  refine va_get (D := (dC, dI)) (ci := 12) (v := .int 0) (C := RX12) (T := TX12) (N := 76) hx hb htw inlX12 hown hK hP 0 rfl rfl 16 (by decide) (htw _ (ck_11 _ (List.mem_of_getElem? (i := 13) rfl))) (fun _ h9 => h9) hf_3 dX12_note_31 ?_
  refine lv_imul hx hb dX12_note_34 ?_
  refine lv_topi (fun z_35 ez_35 => ?_)
  obtain rfl : z_35 = 0 := ez_35.trans (by decide)
  refine lv_iload_n hx hb dX12_note_35 rfl (lv_at hl 0 rfl) ?_
  refine lv_iadd hx hb dX12_note_36 ?_
  refine lv_topi (fun z_36 ez_36 => ?_)
  obtain rfl : z_36 = 9 := ez_36.trans (by decide)
  refine lv_iconst (v := 0) hx hb dX12_note_37 (by decide) ?_
  refine xg_iast hx hb hK hP hD hS 1 0 rfl rfl (by unfold vp_in; decide) dX12_note_38 (fun f_37 H locs hP hD hS => ?_)
  have hP : va_P (dC, dI) vwCl [(mq, .inr (12, fs_1)), (mnh, .inl (cH, 264, .inl f_37)), (mun, .inl (cU, 128, .inl fU))] H := hP
  have hD : va_D A [(mq, .inr (12, fs_1)), (mnh, .inl (cH, 264, .inl f_37)), (mun, .inl (cU, 128, .inl fU))] := hD
  refine lv_iinc (v := 10) (lv' := [(1, .int 10), (0, .ref mq)]) hx hb dX12_note_39 hl (k := 0) rfl (by decide) (by decide) rfl (fun ls hl => ?_)
  refine lv_goto (tgt := 18) hx hb dX12_note_42 (by decide) ?_
  refine lv_iload_n hx hb dX12_note_18 rfl (lv_at hl 0 rfl) ?_
  refine lv_bipush (v := 11) hx hb dX12_note_19 (by decide) ?_
  refine lv_icmp_ge (tgt := 45) hx hb dX12_note_21 (by decide) (fun c => absurd c (by decide)) (fun _ => ?_)
  refine lv_aload_n hx hb dX12_note_24 rfl (lv_at hl 1 rfl) ?_
  refine va_get (D := (dC, dI)) (ci := 12) (v := .ref mnh) (C := RX12) (T := TX12) (N := 76) hx hb htw inlX12 hown hK hP 0 rfl rfl 40 (by decide) (htw _ (ck_9 _ (List.mem_of_getElem? (i := 20) rfl))) (fun _ h9 => h9) hf_5 dX12_note_25 ?_
  refine lv_bipush (v := 11) hx hb dX12_note_28 (by decide) ?_
  refine lv_aload_n hx hb dX12_note_30 rfl (lv_at hl 1 rfl) ?_
  refine va_get (D := (dC, dI)) (ci := 12) (v := .int 0) (C := RX12) (T := TX12) (N := 76) hx hb htw inlX12 hown hK hP 0 rfl rfl 16 (by decide) (htw _ (ck_11 _ (List.mem_of_getElem? (i := 13) rfl))) (fun _ h9 => h9) hf_3 dX12_note_31 ?_
  refine lv_imul hx hb dX12_note_34 ?_
  refine lv_topi (fun z_38 ez_38 => ?_)
  obtain rfl : z_38 = 0 := ez_38.trans (by decide)
  refine lv_iload_n hx hb dX12_note_35 rfl (lv_at hl 0 rfl) ?_
  refine lv_iadd hx hb dX12_note_36 ?_
  refine lv_topi (fun z_39 ez_39 => ?_)
  obtain rfl : z_39 = 10 := ez_39.trans (by decide)
  refine lv_iconst (v := 0) hx hb dX12_note_37 (by decide) ?_
  refine xg_iast hx hb hK hP hD hS 1 0 rfl rfl (by unfold vp_in; decide) dX12_note_38 (fun f_40 H locs hP hD hS => ?_)
  have hP : va_P (dC, dI) vwCl [(mq, .inr (12, fs_1)), (mnh, .inl (cH, 264, .inl f_40)), (mun, .inl (cU, 128, .inl fU))] H := hP
  have hD : va_D A [(mq, .inr (12, fs_1)), (mnh, .inl (cH, 264, .inl f_40)), (mun, .inl (cU, 128, .inl fU))] := hD
  refine lv_iinc (v := 11) (lv' := [(1, .int 11), (0, .ref mq)]) hx hb dX12_note_39 hl (k := 0) rfl (by decide) (by decide) rfl (fun ls hl => ?_)
  refine lv_goto (tgt := 18) hx hb dX12_note_42 (by decide) ?_
  refine lv_iload_n hx hb dX12_note_18 rfl (lv_at hl 0 rfl) ?_
  refine lv_bipush (v := 11) hx hb dX12_note_19 (by decide) ?_
  refine lv_icmp_ge (tgt := 45) hx hb dX12_note_21 (by decide) (fun _ => ?_) (fun c => absurd c (by decide))
  refine lv_aload_n hx hb dX12_note_45 rfl (lv_at hl 1 rfl) ?_
  refine lv_dup hx hb dX12_note_46 rfl ?_
  refine va_get (D := (dC, dI)) (ci := 12) (v := .int 0) (C := RX12) (T := TX12) (N := 76) hx hb htw inlX12 hown hK hP 0 rfl rfl 16 (by decide) (htw _ (ck_11 _ (List.mem_of_getElem? (i := 13) rfl))) (fun _ h9 => h9) hf_3 dX12_note_47 ?_
  refine lv_iconst (v := 1) hx hb dX12_note_50 (by decide) ?_
  refine lv_iadd hx hb dX12_note_51 ?_
  refine lv_topi (fun z_41 ez_41 => ?_)
  obtain rfl : z_41 = 1 := ez_41.trans (by decide)
  refine va_put (D := (dC, dI)) (ci := 12) (v := .int 1) (ty := tyX12 16) (C := RX12) (T := TX12) (N := 76) hx hb htw inlX12 tyX12 tyX12_ok nmX12 hown hK hP hD hS 0 rfl rfl 16 (by decide) (htw _ (ck_11 _ (List.mem_of_getElem? (i := 13) rfl))) (fun _ h9 => h9) rfl (by decide +kernel) rfl rfl (by rw [hlen_2]; decide) dX12_note_52 (fun H locs hP hD hS => ?_)
  obtain ⟨fs_42, efs_42⟩ : ∃ g : List Value, g = (fs_1).set 16 (.int 1) := ⟨_, rfl⟩
  have hlen_43 : fs_42.length = 76 := by rw [efs_42, List.length_set]; exact hlen_2
  have hf_44 : fs_42[59]? = some (.int 0) := by rw [efs_42, List.getElem?_set_ne (by decide)]; exact hf_4
  have hf_45 : fs_42[40]? = some (.ref mnh) := by rw [efs_42, List.getElem?_set_ne (by decide)]; exact hf_5
  have hf_46 : fs_42[60]? = some (.ref mun) := by rw [efs_42, List.getElem?_set_ne (by decide)]; exact hf_6
  have hf_47 : fs_42[2]? = some (.int 0) := by rw [efs_42, List.getElem?_set_ne (by decide)]; exact hf_7
  have hf_48 : fs_42[16]? = some (.int 1) := by rw [efs_42]; exact List.getElem?_set_self (by rw [hlen_2]; decide)
  rw [← efs_42] at hP hD
  have hP : va_P (dC, dI) vwCl [(mq, .inr (12, fs_42)), (mnh, .inl (cH, 264, .inl f_40)), (mun, .inl (cU, 128, .inl fU))] H := hP
  have hD : va_D A [(mq, .inr (12, fs_42)), (mnh, .inl (cH, 264, .inl f_40)), (mun, .inl (cU, 128, .inl fU))] := hD
  refine lv_aload_n hx hb dX12_note_55 rfl (lv_at hl 1 rfl) ?_
  refine va_get (D := (dC, dI)) (ci := 12) (v := .ref mun) (C := RX12) (T := TX12) (N := 76) hx hb htw inlX12 hown hK hP 0 rfl rfl 60 (by decide) (htw _ (ck_10 _ (List.mem_of_getElem? (i := 4) rfl))) (fun _ h9 => h9) hf_46 dX12_note_56 ?_
  refine lv_aload_n hx hb dX12_note_59 rfl (lv_at hl 1 rfl) ?_
  refine va_get (D := (dC, dI)) (ci := 12) (v := .int 0) (C := RX12) (T := TX12) (N := 76) hx hb htw inlX12 hown hK hP 0 rfl rfl 59 (by decide) (htw _ (ck_11 _ (List.mem_of_getElem? (i := 17) rfl))) (fun _ h9 => h9) hf_44 dX12_note_60 ?_
  refine lv_iconst (v := (-1)) hx hb dX12_note_63 (by decide) ?_
  refine xg_iast hx hb hK hP hD hS 2 1 rfl rfl (by unfold vp_in; decide) dX12_note_64 (fun f_49 H locs hP hD hS => ?_)
  have hP : va_P (dC, dI) vwCl [(mq, .inr (12, fs_42)), (mnh, .inl (cH, 264, .inl f_40)), (mun, .inl (cU, 128, .inl f_49))] H := hP
  have hD : va_D A [(mq, .inr (12, fs_42)), (mnh, .inl (cH, 264, .inl f_40)), (mun, .inl (cU, 128, .inl f_49))] := hD
  refine lv_aload_n hx hb dX12_note_65 rfl (lv_at hl 1 rfl) ?_
  refine lv_dup hx hb dX12_note_66 rfl ?_
  refine va_get (D := (dC, dI)) (ci := 12) (v := .int 0) (C := RX12) (T := TX12) (N := 76) hx hb htw inlX12 hown hK hP 0 rfl rfl 59 (by decide) (htw _ (ck_11 _ (List.mem_of_getElem? (i := 17) rfl))) (fun _ h9 => h9) hf_44 dX12_note_67 ?_
  refine lv_iconst (v := 1) hx hb dX12_note_70 (by decide) ?_
  refine lv_iadd hx hb dX12_note_71 ?_
  refine lv_topi (fun z_50 ez_50 => ?_)
  obtain rfl : z_50 = 1 := ez_50.trans (by decide)
  refine va_put (D := (dC, dI)) (ci := 12) (v := .int 1) (ty := tyX12 59) (C := RX12) (T := TX12) (N := 76) hx hb htw inlX12 tyX12 tyX12_ok nmX12 hown hK hP hD hS 0 rfl rfl 59 (by decide) (htw _ (ck_11 _ (List.mem_of_getElem? (i := 17) rfl))) (fun _ h9 => h9) rfl (by decide +kernel) rfl rfl (by rw [hlen_43]; decide) dX12_note_72 (fun H locs hP hD hS => ?_)
  obtain ⟨fs_51, efs_51⟩ : ∃ g : List Value, g = (fs_42).set 59 (.int 1) := ⟨_, rfl⟩
  have hlen_52 : fs_51.length = 76 := by rw [efs_51, List.length_set]; exact hlen_43
  have hf_53 : fs_51[40]? = some (.ref mnh) := by rw [efs_51, List.getElem?_set_ne (by decide)]; exact hf_45
  have hf_54 : fs_51[60]? = some (.ref mun) := by rw [efs_51, List.getElem?_set_ne (by decide)]; exact hf_46
  have hf_55 : fs_51[2]? = some (.int 0) := by rw [efs_51, List.getElem?_set_ne (by decide)]; exact hf_47
  have hf_56 : fs_51[16]? = some (.int 1) := by rw [efs_51, List.getElem?_set_ne (by decide)]; exact hf_48
  have hf_57 : fs_51[59]? = some (.int 1) := by rw [efs_51]; exact List.getElem?_set_self (by rw [hlen_43]; decide)
  rw [← efs_51] at hP hD
  have hP : va_P (dC, dI) vwCl [(mq, .inr (12, fs_51)), (mnh, .inl (cH, 264, .inl f_40)), (mun, .inl (cU, 128, .inl f_49))] H := hP
  have hD : va_D A [(mq, .inr (12, fs_51)), (mnh, .inl (cH, 264, .inl f_40)), (mun, .inl (cU, 128, .inl f_49))] := hD
  refine lv_aload_n hx hb dX12_note_75 rfl (lv_at hl 1 rfl) ?_
  refine va_get (D := (dC, dI)) (ci := 12) (v := .int 1) (C := RX12) (T := TX12) (N := 76) hx hb htw inlX12 hown hK hP 0 rfl rfl 16 (by decide) (htw _ (ck_11 _ (List.mem_of_getElem? (i := 13) rfl))) (fun _ h9 => h9) hf_56 dX12_note_76 ?_
  refine lv_iconst (v := 1) hx hb dX12_note_79 (by decide) ?_
  refine lv_isub hx hb dX12_note_80 ?_
  refine lv_topi (fun z_58 ez_58 => ?_)
  obtain rfl : z_58 = 0 := ez_58.trans (by decide)
  refine W.widen (k := 0) (n := 0) (by omega) (by omega) ?_
  exact W.iret (v := 0) hx hb hr (fun t ht hW => ⟨⟨0, (), rfl, rfl, trivial⟩, hS.F ht⟩) hS.2.2 dX12_note_81
