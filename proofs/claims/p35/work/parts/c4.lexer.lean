theorem dX3_init_0 : decode cX3_init 0 = .ok (.aload_n 0, 1) := zk_42 (by decide +kernel)
theorem dX3_init_1 : decode cX3_init 1 = .ok (.invokespecial 3, 3) := zk_183 (by decide +kernel)
theorem dX3_init_4 : decode cX3_init 4 = .ok (.aload_n 0, 1) := zk_42 (by decide +kernel)
theorem dX3_init_5 : decode cX3_init 5 = .ok (.sipush 900, 3) := zk_17 (by decide +kernel)
theorem dX3_init_8 : decode cX3_init 8 = .ok (.newarray .byte, 2) := by decide +kernel
theorem dX3_init_10 : decode cX3_init 10 = .ok (.putfield 9, 3) := zk_181 (by decide +kernel)
theorem dX3_init_13 : decode cX3_init 13 = .ok (.aload_n 0, 1) := zk_42 (by decide +kernel)
theorem dX3_init_14 : decode cX3_init 14 = .ok (.bipush 23, 2) := zk_16 (by decide +kernel)
theorem dX3_init_16 : decode cX3_init 16 = .ok (.newarray .int, 2) := by decide +kernel
theorem dX3_init_18 : decode cX3_init 18 = .ok (.putfield 15, 3) := zk_181 (by decide +kernel)
theorem dX3_init_21 : decode cX3_init 21 = .ok (.iconst 0, 1) := zk_3 (by decide +kernel)
theorem dX3_init_22 : decode cX3_init 22 = .ok (.istore_n 1, 1) := zk_60 (by decide +kernel)
theorem dX3_init_23 : decode cX3_init 23 = .ok (.iconst 0, 1) := zk_3 (by decide +kernel)
theorem dX3_init_24 : decode cX3_init 24 = .ok (.istore_n 2, 1) := zk_61 (by decide +kernel)
theorem dX3_init_25 : decode cX3_init 25 = .ok (.iconst 0, 1) := zk_3 (by decide +kernel)
theorem dX3_init_26 : decode cX3_init 26 = .ok (.istore_n 3, 1) := zk_62 (by decide +kernel)
theorem dX3_init_27 : decode cX3_init 27 = .ok (.iconst 0, 1) := zk_3 (by decide +kernel)
theorem dX3_init_28 : decode cX3_init 28 = .ok (.istore 4, 2) := zk_54 (by decide +kernel)
theorem dX3_init_30 : decode cX3_init 30 = .ok (.iload 4, 2) := zk_21 (by decide +kernel)
theorem dX3_init_32 : decode cX3_init 32 = .ok (.ldc 19, 2) := zk_18 (by decide +kernel)
theorem dX3_init_34 : decode cX3_init 34 = .ok (.invokevirtual 21, 3) := zk_182 (by decide +kernel)
theorem dX3_init_37 : decode cX3_init 37 = .ok (.if_icmp .ge 73, 3) := zk_162 (by decide +kernel)
theorem dX3_init_110 : decode cX3_init 110 = .ok (.return_, 1) := zk_177 (by decide +kernel)
theorem dX3_init_40 : decode cX3_init 40 = .ok (.iload_n 3, 1) := zk_29 (by decide +kernel)
theorem dX3_init_41 : decode cX3_init 41 = .ok (.aload_n 0, 1) := zk_42 (by decide +kernel)
theorem dX3_init_42 : decode cX3_init 42 = .ok (.getfield 15, 3) := zk_180 (by decide +kernel)
theorem dX3_init_45 : decode cX3_init 45 = .ok (.arraylength, 1) := zk_190 (by decide +kernel)
theorem dX3_init_46 : decode cX3_init 46 = .ok (.if_icmp .ge 64, 3) := zk_162 (by decide +kernel)
theorem dX3_init_49 : decode cX3_init 49 = .ok (.ldc 19, 2) := zk_18 (by decide +kernel)
theorem dX3_init_51 : decode cX3_init 51 = .ok (.iload 4, 2) := zk_21 (by decide +kernel)
theorem dX3_init_53 : decode cX3_init 53 = .ok (.invokevirtual 27, 3) := zk_182 (by decide +kernel)
theorem dX3_init_56 : decode cX3_init 56 = .ok (.istore 5, 2) := zk_54 (by decide +kernel)
theorem dX3_init_58 : decode cX3_init 58 = .ok (.iload 5, 2) := zk_21 (by decide +kernel)
theorem dX3_init_60 : decode cX3_init 60 = .ok (.bipush 32, 2) := zk_16 (by decide +kernel)
theorem dX3_init_62 : decode cX3_init 62 = .ok (.if_icmp .ne 27, 3) := zk_160 (by decide +kernel)
theorem dX3_init_89 : decode cX3_init 89 = .ok (.iload_n 1, 1) := zk_27 (by decide +kernel)
theorem dX3_init_90 : decode cX3_init 90 = .ok (.iconst 5, 1) := zk_8 (by decide +kernel)
theorem dX3_init_91 : decode cX3_init 91 = .ok (.ishl, 1) := zk_120 (by decide +kernel)
theorem dX3_init_92 : decode cX3_init 92 = .ok (.iload 5, 2) := zk_21 (by decide +kernel)
theorem dX3_init_94 : decode cX3_init 94 = .ok (.bipush 97, 2) := zk_16 (by decide +kernel)
theorem dX3_init_96 : decode cX3_init 96 = .ok (.isub, 1) := zk_100 (by decide +kernel)
theorem dX3_init_97 : decode cX3_init 97 = .ok (.iconst 1, 1) := zk_4 (by decide +kernel)
theorem dX3_init_98 : decode cX3_init 98 = .ok (.iadd, 1) := zk_96 (by decide +kernel)
theorem dX3_init_99 : decode cX3_init 99 = .ok (.ior, 1) := zk_128 (by decide +kernel)
theorem dX3_init_100 : decode cX3_init 100 = .ok (.istore_n 1, 1) := zk_60 (by decide +kernel)
theorem dX3_init_101 : decode cX3_init 101 = .ok (.iinc 2 1, 3) := zk_132 (by decide +kernel)
theorem dX3_init_104 : decode cX3_init 104 = .ok (.iinc 4 1, 3) := zk_132 (by decide +kernel)
theorem dX3_init_107 : decode cX3_init 107 = .ok (.goto (-77), 3) := zk_167 (by decide +kernel)
theorem dX3_init_65 : decode cX3_init 65 = .ok (.aload_n 0, 1) := zk_42 (by decide +kernel)
theorem dX3_init_66 : decode cX3_init 66 = .ok (.getfield 15, 3) := zk_180 (by decide +kernel)
theorem dX3_init_69 : decode cX3_init 69 = .ok (.iload_n 3, 1) := zk_29 (by decide +kernel)
theorem dX3_init_70 : decode cX3_init 70 = .ok (.iload_n 1, 1) := zk_27 (by decide +kernel)
theorem dX3_init_71 : decode cX3_init 71 = .ok (.iconst 5, 1) := zk_8 (by decide +kernel)
theorem dX3_init_72 : decode cX3_init 72 = .ok (.bipush 6, 2) := zk_16 (by decide +kernel)
theorem dX3_init_74 : decode cX3_init 74 = .ok (.iload_n 2, 1) := zk_28 (by decide +kernel)
theorem dX3_init_75 : decode cX3_init 75 = .ok (.isub, 1) := zk_100 (by decide +kernel)
theorem dX3_init_76 : decode cX3_init 76 = .ok (.imul, 1) := zk_104 (by decide +kernel)
theorem dX3_init_77 : decode cX3_init 77 = .ok (.ishl, 1) := zk_120 (by decide +kernel)
theorem dX3_init_78 : decode cX3_init 78 = .ok (.iastore, 1) := zk_79 (by decide +kernel)
theorem dX3_init_79 : decode cX3_init 79 = .ok (.iinc 3 1, 3) := zk_132 (by decide +kernel)
theorem dX3_init_82 : decode cX3_init 82 = .ok (.iconst 0, 1) := zk_3 (by decide +kernel)
theorem dX3_init_83 : decode cX3_init 83 = .ok (.istore_n 1, 1) := zk_60 (by decide +kernel)
theorem dX3_init_84 : decode cX3_init 84 = .ok (.iconst 0, 1) := zk_3 (by decide +kernel)
theorem dX3_init_85 : decode cX3_init 85 = .ok (.istore_n 2, 1) := zk_61 (by decide +kernel)
theorem dX3_init_86 : decode cX3_init 86 = .ok (.goto 18, 3) := zk_167 (by decide +kernel)
set_option maxHeartbeats 4000000 in
set_option maxRecDepth 100000 in
theorem mc_lexer (l : Launch) (dC : Nat → ClassId) (dI : Nat → Nat → Nat) (tK : Nat) (sK : Nat) (sV : Nat) (o : Nat) (sz : Nat) : Met l yX3_init (Cond.code yX3_init cX3_init 6 none :: wsL_law) ({ frames := 4, cells := 2, slots := 923, locals := 85 }) (va_Pc [.ref o] (fun U => U.heap.size = sz ∧ va_P (dC, dI) vwCl [(eO3b o 0 0 0 0 0 0 0)] U.heap ∧ va_K (dC, dI) vwCl [] U ∧ va_D (fun _ => True) [(eO3b o 0 0 0 0 0 0 0)] ∧ xcN sK U ∧ xc tK sK sV (va_A [(eO3b o 0 0 0 0 0 0 0)] sz) U U.heap)) (va_Qv (fun (u : (Nat) × (Nat) × (ClassId) × (ClassId) × (Nat → Int32)) => u.2.2.2.2 = xk_G) (fun (u : (Nat) × (Nat) × (ClassId) × (ClassId) × (Nat → Int32)) t => va_P (dC, dI) vwCl [(eO3a o u.1 0 u.2.1 0 0 0 0 0 0), (u.1, .inl (u.2.2.1, 900, .inl (fun _ => 0))), (u.2.1, .inl (u.2.2.2.1, 23, .inl u.2.2.2.2))] t.heap ∧ va_K (dC, dI) vwCl [(u.2.2.1, .byte), (u.2.2.2.1, .int)] t ∧ va_D (va_A [(eO3b o 0 0 0 0 0 0 0)] sz) [(eO3a o u.1 0 u.2.1 0 0 0 0 0 0), (u.1, .inl (u.2.2.1, 900, .inl (fun _ => 0))), (u.2.1, .inl (u.2.2.2.1, 23, .inl u.2.2.2.2))]) (va_A [(eO3b o 0 0 0 0 0 0 0)] sz)) 2 923 (va_A [(eO3b o 0 0 0 0 0 0 0)] sz) := by
  refine Met.ofW (cc := cX3_init) (maxL := 6) (ret := none) (by decide) rfl ?_
  intro p e s m args below meth c s₁ B hml hv
  obtain ⟨rfl, hsz, hP, hK, hD0, hN, hZ⟩ := hv
  have hx := B.exec
  have hb := B.bytes
  have hr := B.returns
  have hts := atoms_spec (ws := Cond.code yX3_init cX3_init 6 none :: wsL_law) B.pre
  have htw : ∀ w ∈ wsL_law, w.before _ s = true := fun w h => hts w (List.mem_cons_of_mem _ h)
  have hown : s.vm.findClass RX3 = some m.cls := findClass_of_methodNamed B.named
  have hlocks := B.notSynchronized
  have hin : meth.name = "<init>" := (name_of_methodNamed B.named B.method).1
  subst hsz
  have hD := hD0.self (sz := s.heap.size)
  generalize hAe : va_A [(eO3b o 0 0 0 0 0 0 0)] s.heap.size = A at hD hZ ⊢
  have hA : ∀ q : Nat, s.heap.size ≤ q → A q := fun q h => by rw [← hAe]; exact Or.inr h
  obtain ⟨H, rH⟩ : ∃ z : Heap, z = s.heap := ⟨_, rfl⟩
  have hS : va_S A s.heap H [] := by rw [rH]; exact va_S.rf
  have hP : va_P (dC, dI) vwCl [(eO3b o 0 0 0 0 0 0 0)] H := by rw [rH]; exact hP
  rw [← rH]
  have hl := lv_entry ([.ref o]) (n := 6) (Nat.le_of_ble_eq_true rfl)
  rw [lg_entry_eq]
  generalize (lg_sl ([.ref o]) ++ List.replicate (6 - (lg_sl ([.ref o])).length) Slot.unset).toArray = ls at hl ⊢
  have hl : lv_has ls 6 [(0, .ref o)] := hl
  refine lv_aload_n hx hb dX3_init_0 rfl (lv_at hl 0 rfl) ?_
  refine W.objInit hx hb hown (htw _ (ck_3 _ (List.mem_of_getElem? (i := 12) rfl))) (htw _ (ck_1 _ (List.mem_of_getElem? (i := 12) rfl))) (htw _ (ck_1 _ (List.mem_of_getElem? (i := 13) rfl))) rfl (by rw [hml]; exact hl.1) rfl dX3_init_1 (Nat.le_of_ble_eq_true rfl) (Nat.le_of_ble_eq_true rfl) ?_
  refine W.eq (g2 := F0 m 4 ls []) rfl ?_
  refine lv_aload_n hx hb dX3_init_4 rfl (lv_at hl 0 rfl) ?_
  refine lv_sipush (v := 900) hx hb dX3_init_5 (by decide) ?_
  refine va_newa (ty := .byte) (a0 := (900, .inl (fun _ => 0))) hx hb (htw _ (ck_3 _ (List.mem_of_getElem? (i := 13) rfl))) rfl hK hP hD hS hA (fun _ => rfl) (by decide) (by decide) (by decide) (Nat.le_of_ble_eq_true rfl) (Nat.le_of_ble_eq_true rfl) dX3_init_8 (fun q_1 cA_2 H hK hP hD hS => ?_)
  have hK : va_K (dC, dI) vwCl [(cA_2, .byte)] s := hK
  obtain ⟨hP, hD⟩ := zre [(eO3b o 0 0 0 0 0 0 0), (eA0 q_1 cA_2 900 (fun _ => 0))] hP hD rfl
  refine W.widen (k := 1) (n := 900) (by omega) (by omega) ?_
  refine va_putF (D := (dC, dI)) (ci := 3) (v := .ref q_1) (ty := tyX3 0) (C := RX3) (T := TX3) (N := 9) hx hb htw inlX3 tyX3 tyX3_ok nmX3 hown hK hP hD hS 0 rfl rfl 0 (by decide) (htw _ (ck_3 _ (List.mem_of_getElem? (i := 14) rfl))) (fun _ h9 => h9) rfl hin rfl (tyX3_ok 0 (by decide)) rfl rfl (Nat.le_of_ble_eq_true rfl) dX3_init_10 (fun H locs hP hD hS => ?_)
  obtain ⟨hP, hD⟩ := zre [(o, .inr (3, [.ref q_1, .int 0, .null, .int 0, .int 0, .int 0, .int 0, .int 0, .int 0])), (eA0 q_1 cA_2 900 (fun _ => 0))] hP hD rfl
  refine lv_aload_n hx hb dX3_init_13 rfl (lv_at hl 0 rfl) ?_
  refine lv_bipush (v := 23) hx hb dX3_init_14 (by decide) ?_
  refine va_newa (ty := .int) (a0 := (23, .inl (fun _ => 0))) hx hb (htw _ (ck_2 _ (List.mem_of_getElem? (i := 7) rfl))) rfl hK hP hD hS hA (fun _ => rfl) (by decide) (by decide) (by decide) (Nat.le_of_ble_eq_true rfl) (Nat.le_of_ble_eq_true rfl) dX3_init_16 (fun q_3 cA_4 H hK hP hD hS => ?_)
  have hK : va_K (dC, dI) vwCl [(cA_2, .byte), (cA_4, .int)] s := hK
  obtain ⟨hP, hD⟩ := zre [(o, .inr (3, [.ref q_1, .int 0, .null, .int 0, .int 0, .int 0, .int 0, .int 0, .int 0])), (eA0 q_1 cA_2 900 (fun _ => 0)), (eA0 q_3 cA_4 23 (fun _ => 0))] hP hD rfl
  refine W.widen (k := 2) (n := 923) (by omega) (by omega) ?_
  refine va_putF (D := (dC, dI)) (ci := 3) (v := .ref q_3) (ty := tyX3 2) (C := RX3) (T := TX3) (N := 9) hx hb htw inlX3 tyX3 tyX3_ok nmX3 hown hK hP hD hS 0 rfl rfl 2 (by decide) (htw _ (ck_3 _ (List.mem_of_getElem? (i := 15) rfl))) (fun _ h9 => h9) rfl hin rfl (tyX3_ok 2 (by decide)) rfl rfl (Nat.le_of_ble_eq_true rfl) dX3_init_18 (fun H locs hP hD hS => ?_)
  obtain ⟨hP, hD⟩ := zre [(eO3a o q_1 0 q_3 0 0 0 0 0 0), (eA0 q_1 cA_2 900 (fun _ => 0)), (eA0 q_3 cA_4 23 (fun _ => 0))] hP hD rfl
  refine lv_iconst (v := 0) hx hb dX3_init_21 (by decide) ?_
  refine lv_istore_n (lv' := [(1, .int 0), (0, .ref o)]) hx hb dX3_init_22 rfl hl (by decide) rfl (fun ls hl => ?_)
  refine lv_iconst (v := 0) hx hb dX3_init_23 (by decide) ?_
  refine lv_istore_n (lv' := [(2, .int 0), (1, .int 0), (0, .ref o)]) hx hb dX3_init_24 rfl hl (by decide) rfl (fun ls hl => ?_)
  refine lv_iconst (v := 0) hx hb dX3_init_25 (by decide) ?_
  refine lv_istore_n (lv' := [(3, .int 0), (2, .int 0), (1, .int 0), (0, .ref o)]) hx hb dX3_init_26 rfl hl (by decide) rfl (fun ls hl => ?_)
  refine lv_iconst (v := 0) hx hb dX3_init_27 (by decide) ?_
  refine lv_istore (lv' := [(4, .int 0), (3, .int 0), (2, .int 0), (1, .int 0), (0, .ref o)]) hx hb dX3_init_28 hl (by decide) rfl (fun ls hl => ?_)
  have hloop_5 : ∀ (n : Nat) (i : Nat) (wd : Nat) (ln : Int32) (cd : Int32) (g : Nat → Int32) (hi : i + n = 118) (hw9 : wd ≤ i) (hG : xk_run n i wd ln cd g = xk_G) (H : Heap) (locs : List Loc) (ls : Array Slot) (hP : va_P (dC, dI) vwCl [(eO3a o q_1 0 q_3 0 0 0 0 0 0), (eA0 q_1 cA_2 900 (fun _ => 0)), (eA0 q_3 cA_4 23 g)] H) (hD : va_D A [(eO3a o q_1 0 q_3 0 0 0 0 0 0), (eA0 q_1 cA_2 900 (fun _ => 0)), (eA0 q_3 cA_4 23 g)]) (hS : va_S A s.heap H locs) (hl : lv_has ls 6 [(4, .int (nI i)), (3, .int (nI wd)), (2, .int ln), (1, .int cd), (0, .ref o)]), W p l e (headSpec (Cond.code yX3_init cX3_init 6 none :: wsL_law) ({ frames := 4, cells := 2, slots := 923, locals := 85 })).room s m ([.ref o] : List Value).toArray below meth c H locs 2 923 (MQ below (va_Qv (fun (u : (Nat) × (Nat) × (ClassId) × (ClassId) × (Nat → Int32)) => u.2.2.2.2 = xk_G) (fun (u : (Nat) × (Nat) × (ClassId) × (ClassId) × (Nat → Int32)) t => va_P (dC, dI) vwCl [(eO3a o u.1 0 u.2.1 0 0 0 0 0 0), (u.1, .inl (u.2.2.1, 900, .inl (fun _ => 0))), (u.2.1, .inl (u.2.2.2.1, 23, .inl u.2.2.2.2))] t.heap ∧ va_K (dC, dI) vwCl [(u.2.2.1, .byte), (u.2.2.2.1, .int)] t ∧ va_D A [(eO3a o u.1 0 u.2.1 0 0 0 0 0 0), (u.1, .inl (u.2.2.1, 900, .inl (fun _ => 0))), (u.2.1, .inl (u.2.2.2.1, 23, .inl u.2.2.2.2))]) A) ([.ref o] : List Value).toArray s 2 923 A) (F0 m 30 ls []) := by
    intro n
    induction n with
    | zero =>
      intro i wd ln cd g hi hw9 hG H locs ls hP hD hS hl
      obtain rfl : i = 118 := by omega
      refine lv_iload hx hb dX3_init_30 (lv_at hl 0 rfl) ?_
      refine va_ldcS hx hb hown (hN.2.2.2.2.2.2.2.2.2.2.2.2.2.2.2.2.2) dX3_init_32 ?_
      have hPc := hP.sub (ws' := []) [] rfl
      have hKc := hK.sub (tys' := []) [] rfl
      refine vp_callSi (W.runV (As := []) (rest := [.int (nI 118)]) ⟨hx, hb, hml, hown, htw⟩ (mj_length l dC dI tK sK sV A) (cwV 0 htw (xg_V (ck_3 _ (List.mem_of_getElem? (i := 16) rfl)) (ck_3 _ (List.mem_of_getElem? (i := 17) rfl)) (ck_3 _ (List.mem_of_getElem? (i := 18) rfl)) (ck_3 _ (List.mem_of_getElem? (i := 19) rfl)) (ck_3 _ (List.mem_of_getElem? (i := 20) rfl))) rfl rfl rfl (by exact ⟨rfl, hdc_16.1, hdc_16.2, hdd_45⟩) ⟨Nat.le_of_ble_eq_true rfl, Nat.le_of_ble_eq_true rfl⟩) ⟨fun a U g mk q => by obtain ⟨q0, qP, qK, qx⟩ := q; exact ⟨q0, qP, va_K.moved (u := U) (U := U.calling g mk a) (Vm.Alike.refl U.vm) qK, xc.calling qx⟩, va_Orecv hZ.2.2.2.2.1 hS, fun U hU hW => ⟨rfl, by rw [hU]; exact hPc, va_K.moved hW.alike hKc, by rw [hU]; exact (xc.kept hZ hS.2.1).moved hW.alike⟩⟩ rfl rfl hl.1 rfl (lv_room (Nat.le_of_ble_eq_true rfl)) dX3_init_34 ⟨Nat.le_of_ble_eq_true rfl, Nat.le_of_ble_eq_true rfl⟩) (fun r_6 hw => ?_)
      try dsimp only at hw
      obtain rfl : r_6 = 118 := hw
      refine lv_icmp_ge (tgt := 110) hx hb dX3_init_37 (by decide) (fun c_7 => ?_) (fun c_7 => absurd c_7 (fun h => h (by decide)))
      refine W.widen (k := 2) (n := 923) (by omega) (by omega) ?_
      obtain ⟨hP9, hD9⟩ := zsub2 (ws' := [(eO3a o q_1 0 q_3 0 0 0 0 0 0), (eA0 q_1 cA_2 900 (fun _ => 0)), (eA0 q_3 cA_4 23 g)]) hP hD [0, 1, 2] (by decide) rfl
      have hK9 := hK.sub (tys' := [(cA_2, .byte), (cA_4, .int)]) [0, 1] rfl
      exact W.vret hx hb hr (fun t ht hW => ⟨⟨(q_1, q_3, cA_2, cA_4, g), rfl, hG, by rw [ht]; exact hP9, va_K.moved hW.alike hK9, hD9⟩, hS.F ht⟩) hS.2.2 dX3_init_110
    | succ n ih =>
      intro i wd ln cd g hi hw9 hG H locs ls hP hD hS hl
      refine lv_iload hx hb dX3_init_30 (lv_at hl 0 rfl) ?_
      refine va_ldcS hx hb hown (hN.2.2.2.2.2.2.2.2.2.2.2.2.2.2.2.2.2) dX3_init_32 ?_
      have hPc := hP.sub (ws' := []) [] rfl
      have hKc := hK.sub (tys' := []) [] rfl
      refine vp_callSi (W.runV (As := []) (rest := [.int (nI i)]) ⟨hx, hb, hml, hown, htw⟩ (mj_length l dC dI tK sK sV A) (cwV 0 htw (xg_V (ck_3 _ (List.mem_of_getElem? (i := 16) rfl)) (ck_3 _ (List.mem_of_getElem? (i := 17) rfl)) (ck_3 _ (List.mem_of_getElem? (i := 18) rfl)) (ck_3 _ (List.mem_of_getElem? (i := 19) rfl)) (ck_3 _ (List.mem_of_getElem? (i := 20) rfl))) rfl rfl rfl (by exact ⟨rfl, hdc_16.1, hdc_16.2, hdd_45⟩) ⟨Nat.le_of_ble_eq_true rfl, Nat.le_of_ble_eq_true rfl⟩) ⟨fun a U g mk q => by obtain ⟨q0, qP, qK, qx⟩ := q; exact ⟨q0, qP, va_K.moved (u := U) (U := U.calling g mk a) (Vm.Alike.refl U.vm) qK, xc.calling qx⟩, va_Orecv hZ.2.2.2.2.1 hS, fun U hU hW => ⟨rfl, by rw [hU]; exact hPc, va_K.moved hW.alike hKc, by rw [hU]; exact (xc.kept hZ hS.2.1).moved hW.alike⟩⟩ rfl rfl hl.1 rfl (lv_room (Nat.le_of_ble_eq_true rfl)) dX3_init_34 ⟨Nat.le_of_ble_eq_true rfl, Nat.le_of_ble_eq_true rfl⟩) (fun r_8 hw => ?_)
      try dsimp only at hw
      obtain rfl : r_8 = 118 := hw
      refine lv_icmp_ge (tgt := 110) hx hb dX3_init_37 (by decide) (fun c_9 => absurd c_9 (nI_ge (a := i) (b := 118) (by omega) (by decide))) (fun c_9 => ?_)
      refine lv_iload_n hx hb dX3_init_40 rfl (lv_at hl 1 rfl) ?_
      refine lv_aload_n hx hb dX3_init_41 rfl (lv_at hl 4 rfl) ?_
      refine va_get (D := (dC, dI)) (ci := 3) (v := .ref q_3) (C := RX3) (T := TX3) (N := 9) hx hb htw inlX3 hown hK hP 0 rfl rfl 2 (by decide) (htw _ (ck_3 _ (List.mem_of_getElem? (i := 15) rfl))) (fun _ h9 => h9) rfl dX3_init_42 ?_
      refine va_alen hx hb hK hP 2 1 rfl rfl (v := 23) rfl dX3_init_45 ?_
      refine lv_icmp_ge (tgt := 110) hx hb dX3_init_46 (by decide) (fun c_10 => ?_) (fun c_10 => ?_)
      · refine W.widen (k := 2) (n := 923) (by omega) (by omega) ?_
        obtain ⟨hP9, hD9⟩ := zsub2 (ws' := [(eO3a o q_1 0 q_3 0 0 0 0 0 0), (eA0 q_1 cA_2 900 (fun _ => 0)), (eA0 q_3 cA_4 23 g)]) hP hD [0, 1, 2] (by decide) rfl
        have hK9 := hK.sub (tys' := [(cA_2, .byte), (cA_4, .int)]) [0, 1] rfl
        exact W.vret hx hb hr (fun t ht hW => ⟨⟨(q_1, q_3, cA_2, cA_4, g), rfl, (by rw [xk_run, if_pos c_10] at hG; exact hG), by rw [ht]; exact hP9, va_K.moved hW.alike hK9, hD9⟩, hS.F ht⟩) hS.2.2 dX3_init_110
      · have h0 : ¬ nI i < 0 := nI_pos (by omega)
        have h1 : nI i < 118 := nI_lt (a := i) (b := 118) (by omega) (by decide)
        refine va_ldcS hx hb hown (hN.2.2.2.2.2.2.2.2.2.2.2.2.2.2.2.2.2) dX3_init_49 ?_
        refine lv_iload hx hb dX3_init_51 (lv_at hl 0 rfl) ?_
        have hPc := hP.sub (ws' := []) [] rfl
        have hKc := hK.sub (tys' := []) [] rfl
        refine vp_callSi (W.runV (As := [.int (nI i)]) (rest := []) ⟨hx, hb, hml, hown, htw⟩ (mj_char l dC dI tK sK sV A (nI i) h0 h1) (cwV 1 htw (xg_V (ck_4 _ (List.mem_of_getElem? (i := 4) rfl)) (ck_4 _ (List.mem_of_getElem? (i := 5) rfl)) (ck_4 _ (List.mem_of_getElem? (i := 6) rfl)) (ck_3 _ (List.mem_of_getElem? (i := 19) rfl)) (ck_4 _ (List.mem_of_getElem? (i := 7) rfl))) rfl rfl rfl (by exact ⟨rfl, hdc_16.1, hdc_16.2, hdd_56⟩) ⟨Nat.le_of_ble_eq_true rfl, Nat.le_of_ble_eq_true rfl⟩) ⟨fun a U g mk q => by obtain ⟨q0, qP, qK, qx⟩ := q; exact ⟨q0, qP, va_K.moved (u := U) (U := U.calling g mk a) (Vm.Alike.refl U.vm) qK, xc.calling qx⟩, va_Orecv hZ.2.2.2.2.1 hS, fun U hU hW => ⟨rfl, by rw [hU]; exact hPc, va_K.moved hW.alike hKc, by rw [hU]; exact (xc.kept hZ hS.2.1).moved hW.alike⟩⟩ rfl rfl hl.1 rfl (lv_room (Nat.le_of_ble_eq_true rfl)) dX3_init_53 ⟨Nat.le_of_ble_eq_true rfl, Nat.le_of_ble_eq_true rfl⟩) (fun r_11 hw => ?_)
        try dsimp only at hw
        refine lv_istore (lv' := [(5, .int r_11), (4, .int (nI i)), (3, .int (nI wd)), (2, .int ln), (1, .int cd), (0, .ref o)]) hx hb dX3_init_56 hl (by decide) rfl (fun ls hl => ?_)
        refine lv_iload hx hb dX3_init_58 (lv_at hl 0 rfl) ?_
        refine lv_bipush (v := 32) hx hb dX3_init_60 (by decide) ?_
        refine lv_icmp_ne (tgt := 89) hx hb dX3_init_62 (by decide) (fun c_12 => ?_) (fun c_12 => ?_)
        · refine lv_iload_n hx hb dX3_init_89 rfl (lv_at hl 4 rfl) ?_
          refine lv_iconst (v := 5) hx hb dX3_init_90 (by decide) ?_
          refine lv_ishl hx hb dX3_init_91 ?_
          refine lv_iload hx hb dX3_init_92 (lv_at hl 0 rfl) ?_
          refine lv_bipush (v := 97) hx hb dX3_init_94 (by decide) ?_
          refine lv_isub hx hb dX3_init_96 ?_
          refine lv_iconst (v := 1) hx hb dX3_init_97 (by decide) ?_
          refine lv_iadd hx hb dX3_init_98 ?_
          refine lv_ior hx hb dX3_init_99 ?_
          refine lv_istore_n (lv' := [(1, .int ((cd <<< (5 &&& 31)) ||| ((r_11 - 97) + 1))), (5, .int r_11), (4, .int (nI i)), (3, .int (nI wd)), (2, .int ln), (0, .ref o)]) hx hb dX3_init_100 rfl hl (by decide) rfl (fun ls hl => ?_)
          refine lv_iinc (v := (ln + 1)) (lv' := [(2, .int (ln + 1)), (1, .int ((cd <<< (5 &&& 31)) ||| ((r_11 - 97) + 1))), (5, .int r_11), (4, .int (nI i)), (3, .int (nI wd)), (0, .ref o)]) hx hb dX3_init_101 hl (k := 4) rfl (rfl) (by decide) rfl (fun ls hl => ?_)
          refine lv_iinc (v := ((nI i) + 1)) (lv' := [(4, .int ((nI i) + 1)), (2, .int (ln + 1)), (1, .int ((cd <<< (5 &&& 31)) ||| ((r_11 - 97) + 1))), (5, .int r_11), (3, .int (nI wd)), (0, .ref o)]) hx hb dX3_init_104 hl (k := 3) rfl (rfl) (by decide) rfl (fun ls hl => ?_)
          refine lv_goto (tgt := 30) hx hb dX3_init_107 (by decide) ?_
          have hl : lv_has ls 6 [(4, .int (nI (i + 1))), (3, .int (nI wd)), (2, .int (ln + 1)), (1, .int ((cd <<< (5 &&& 31)) ||| ((r_11 - 97) + 1))), (0, .ref o)] := by rw [← nI_1 i]; exact lv_sub hl [0, 4, 1, 2, 5] rfl
          exact ih (i + 1) wd (ln + 1) ((cd <<< (5 &&& 31)) ||| ((r_11 - 97) + 1)) g (by omega) (by omega) (by rw [xk_run, if_neg c_10, ← hw, if_neg c_12] at hG; exact hG) H locs ls hP hD hS hl
        · refine lv_aload_n hx hb dX3_init_65 rfl (lv_at hl 5 rfl) ?_
          refine va_get (D := (dC, dI)) (ci := 3) (v := .ref q_3) (C := RX3) (T := TX3) (N := 9) hx hb htw inlX3 hown hK hP 0 rfl rfl 2 (by decide) (htw _ (ck_3 _ (List.mem_of_getElem? (i := 15) rfl))) (fun _ h9 => h9) rfl dX3_init_66 ?_
          refine lv_iload_n hx hb dX3_init_69 rfl (lv_at hl 2 rfl) ?_
          refine lv_iload_n hx hb dX3_init_70 rfl (lv_at hl 4 rfl) ?_
          refine lv_iconst (v := 5) hx hb dX3_init_71 (by decide) ?_
          refine lv_bipush (v := 6) hx hb dX3_init_72 (by decide) ?_
          refine lv_iload_n hx hb dX3_init_74 rfl (lv_at hl 3 rfl) ?_
          refine lv_isub hx hb dX3_init_75 ?_
          refine lv_imul hx hb dX3_init_76 ?_
          refine lv_ishl hx hb dX3_init_77 ?_
          refine va_iast hx hb hK hP hD hS 2 1 rfl rfl (xg_inr (N := 23) rfl (nI_pos (by omega)) c_10) dX3_init_78 (fun H locs hP hD hS => ?_)
          obtain ⟨hP, hD⟩ := zre [(eO3a o q_1 0 q_3 0 0 0 0 0 0), (eA0 q_1 cA_2 900 (fun _ => 0)), (eA0 q_3 cA_4 23 (upd g (nI wd).toNatClampNeg (cd <<< ((5 * (6 - ln)) &&& 31))))] hP hD rfl
          refine lv_iinc (v := ((nI wd) + 1)) (lv' := [(3, .int ((nI wd) + 1)), (5, .int r_11), (4, .int (nI i)), (2, .int ln), (1, .int cd), (0, .ref o)]) hx hb dX3_init_79 hl (k := 2) rfl (rfl) (by decide) rfl (fun ls hl => ?_)
          refine lv_iconst (v := 0) hx hb dX3_init_82 (by decide) ?_
          refine lv_istore_n (lv' := [(1, .int 0), (3, .int ((nI wd) + 1)), (5, .int r_11), (4, .int (nI i)), (2, .int ln), (0, .ref o)]) hx hb dX3_init_83 rfl hl (by decide) rfl (fun ls hl => ?_)
          refine lv_iconst (v := 0) hx hb dX3_init_84 (by decide) ?_
          refine lv_istore_n (lv' := [(2, .int 0), (1, .int 0), (3, .int ((nI wd) + 1)), (5, .int r_11), (4, .int (nI i)), (0, .ref o)]) hx hb dX3_init_85 rfl hl (by decide) rfl (fun ls hl => ?_)
          refine lv_goto (tgt := 104) hx hb dX3_init_86 (by decide) ?_
          refine lv_iinc (v := ((nI i) + 1)) (lv' := [(4, .int ((nI i) + 1)), (2, .int 0), (1, .int 0), (3, .int ((nI wd) + 1)), (5, .int r_11), (0, .ref o)]) hx hb dX3_init_104 hl (k := 4) rfl (rfl) (by decide) rfl (fun ls hl => ?_)
          refine lv_goto (tgt := 30) hx hb dX3_init_107 (by decide) ?_
          have hl : lv_has ls 6 [(4, .int (nI (i + 1))), (3, .int (nI (wd + 1))), (2, .int 0), (1, .int 0), (0, .ref o)] := by rw [← nI_1 i, ← nI_1 wd]; exact lv_sub hl [0, 3, 1, 2, 5] rfl
          exact ih (i + 1) (wd + 1) 0 0 (upd g (nI wd).toNatClampNeg (cd <<< ((5 * (6 - ln)) &&& 31))) (by omega) (by omega) (by rw [xk_run, if_neg c_10, ← hw, if_pos c_12] at hG; exact hG) H locs ls hP hD hS hl
  exact hloop_5 118 0 0 0 0 (fun _ => 0) (by omega) (by omega) rfl _ _ ls (hP.sub [0, 1, 2] rfl) (hD.sub [0, 1, 2] (by decide) rfl) hS (lv_sub hl [0, 1, 2, 3, 4] rfl)

theorem dX7_init_0 : decode cX7_init 0 = .ok (.aload_n 0, 1) := zk_42 (by decide +kernel)
theorem dX7_init_1 : decode cX7_init 1 = .ok (.invokespecial 3, 3) := zk_183 (by decide +kernel)
theorem dX7_init_4 : decode cX7_init 4 = .ok (.aload_n 0, 1) := zk_42 (by decide +kernel)
theorem dX7_init_5 : decode cX7_init 5 = .ok (.new 9, 3) := zk_187 (by decide +kernel)
theorem dX7_init_8 : decode cX7_init 8 = .ok (.dup, 1) := zk_89 (by decide +kernel)
theorem dX7_init_9 : decode cX7_init 9 = .ok (.invokespecial 11, 3) := zk_183 (by decide +kernel)
theorem dX7_init_12 : decode cX7_init 12 = .ok (.putfield 12, 3) := zk_181 (by decide +kernel)
theorem dX7_init_15 : decode cX7_init 15 = .ok (.aload_n 0, 1) := zk_42 (by decide +kernel)
theorem dX7_init_16 : decode cX7_init 16 = .ok (.iconst (-1), 1) := zk_2 (by decide +kernel)
theorem dX7_init_17 : decode cX7_init 17 = .ok (.putfield 18, 3) := zk_181 (by decide +kernel)
theorem dX7_init_20 : decode cX7_init 20 = .ok (.aload_n 0, 1) := zk_42 (by decide +kernel)
theorem dX7_init_21 : decode cX7_init 21 = .ok (.bipush 72, 2) := zk_16 (by decide +kernel)
theorem dX7_init_23 : decode cX7_init 23 = .ok (.newarray .int, 2) := by decide +kernel
theorem dX7_init_25 : decode cX7_init 25 = .ok (.putfield 24, 3) := zk_181 (by decide +kernel)
theorem dX7_init_28 : decode cX7_init 28 = .ok (.aload_n 0, 1) := zk_42 (by decide +kernel)
theorem dX7_init_29 : decode cX7_init 29 = .ok (.bipush 72, 2) := zk_16 (by decide +kernel)
theorem dX7_init_31 : decode cX7_init 31 = .ok (.newarray .int, 2) := by decide +kernel
theorem dX7_init_33 : decode cX7_init 33 = .ok (.putfield 28, 3) := zk_181 (by decide +kernel)
theorem dX7_init_36 : decode cX7_init 36 = .ok (.return_, 1) := zk_177 (by decide +kernel)
set_option maxHeartbeats 4000000 in
set_option maxRecDepth 100000 in
theorem mc_parser (l : Launch) (dC : Nat → ClassId) (dI : Nat → Nat → Nat) (tK : Nat) (sK : Nat) (sV : Nat) (o : Nat) (sz : Nat) : Met l yX7_init (Cond.code yX7_init cX7_init 1 none :: wsL_law) ({ frames := 5, cells := 5, slots := 1076, locals := 110 }) (va_Pc [.ref o] (fun U => U.heap.size = sz ∧ va_P (dC, dI) vwCl [(eO7c o 0 0 0 0 0)] U.heap ∧ va_K (dC, dI) vwCl [] U ∧ va_D (fun _ => True) [(eO7c o 0 0 0 0 0)] ∧ xcN sK U ∧ xc tK sK sV (va_A [(eO7c o 0 0 0 0 0)] sz) U U.heap)) (va_Qv (fun (u : (Nat) × (Nat) × (Nat) × (Nat) × (Nat) × (ClassId) × (ClassId) × (ClassId) × (ClassId) × (Nat → Int32)) => u.2.2.2.2.2.2.2.2.2 = xk_G) (fun (u : (Nat) × (Nat) × (Nat) × (Nat) × (Nat) × (ClassId) × (ClassId) × (ClassId) × (ClassId) × (Nat → Int32)) t => va_P (dC, dI) vwCl [(eO7b o u.1 0 (-1) 0 u.2.1 u.2.2.1 0 0), (u.1, .inr (3, [.ref u.2.2.2.1, .int 0, .ref u.2.2.2.2.1, .int 0, .int 0, .int 0, .int 0, .int 0, .int 0])), (u.2.2.2.1, .inl (u.2.2.2.2.2.1, 900, .inl (fun _ => 0))), (u.2.2.2.2.1, .inl (u.2.2.2.2.2.2.1, 23, .inl u.2.2.2.2.2.2.2.2.2)), (u.2.1, .inl (u.2.2.2.2.2.2.2.1, 72, .inl (fun _ => 0))), (u.2.2.1, .inl (u.2.2.2.2.2.2.2.2.1, 72, .inl (fun _ => 0)))] t.heap ∧ va_K (dC, dI) vwCl [(u.2.2.2.2.2.1, .byte), (u.2.2.2.2.2.2.1, .int), (u.2.2.2.2.2.2.2.1, .int), (u.2.2.2.2.2.2.2.2.1, .int)] t ∧ va_D (va_A [(eO7c o 0 0 0 0 0)] sz) [(eO7b o u.1 0 (-1) 0 u.2.1 u.2.2.1 0 0), (u.1, .inr (3, [.ref u.2.2.2.1, .int 0, .ref u.2.2.2.2.1, .int 0, .int 0, .int 0, .int 0, .int 0, .int 0])), (u.2.2.2.1, .inl (u.2.2.2.2.2.1, 900, .inl (fun _ => 0))), (u.2.2.2.2.1, .inl (u.2.2.2.2.2.2.1, 23, .inl u.2.2.2.2.2.2.2.2.2)), (u.2.1, .inl (u.2.2.2.2.2.2.2.1, 72, .inl (fun _ => 0))), (u.2.2.1, .inl (u.2.2.2.2.2.2.2.2.1, 72, .inl (fun _ => 0)))]) (va_A [(eO7c o 0 0 0 0 0)] sz)) 5 1076 (va_A [(eO7c o 0 0 0 0 0)] sz) := by
  refine Met.ofW (cc := cX7_init) (maxL := 1) (ret := none) (by decide) rfl ?_
  intro p e s m args below meth c s₁ B hml hv
  obtain ⟨rfl, hsz, hP, hK, hD0, hN, hZ⟩ := hv
  have hx := B.exec
  have hb := B.bytes
  have hr := B.returns
  have hts := atoms_spec (ws := Cond.code yX7_init cX7_init 1 none :: wsL_law) B.pre
  have htw : ∀ w ∈ wsL_law, w.before _ s = true := fun w h => hts w (List.mem_cons_of_mem _ h)
  have hown : s.vm.findClass RX7 = some m.cls := findClass_of_methodNamed B.named
  have hlocks := B.notSynchronized
  have hin : meth.name = "<init>" := (name_of_methodNamed B.named B.method).1
  subst hsz
  have hD := hD0.self (sz := s.heap.size)
  generalize hAe : va_A [(eO7c o 0 0 0 0 0)] s.heap.size = A at hD hZ ⊢
  have hA : ∀ q : Nat, s.heap.size ≤ q → A q := fun q h => by rw [← hAe]; exact Or.inr h
  obtain ⟨H, rH⟩ : ∃ z : Heap, z = s.heap := ⟨_, rfl⟩
  have hS : va_S A s.heap H [] := by rw [rH]; exact va_S.rf
  have hP : va_P (dC, dI) vwCl [(eO7c o 0 0 0 0 0)] H := by rw [rH]; exact hP
  rw [← rH]
  have hl := lv_entry ([.ref o]) (n := 1) (Nat.le_of_ble_eq_true rfl)
  rw [lg_entry_eq]
  generalize (lg_sl ([.ref o]) ++ List.replicate (1 - (lg_sl ([.ref o])).length) Slot.unset).toArray = ls at hl ⊢
  have hl : lv_has ls 1 [(0, .ref o)] := hl
  refine lv_aload_n hx hb dX7_init_0 rfl (lv_at hl 0 rfl) ?_
  refine W.objInit hx hb hown (htw _ (ck_3 _ (List.mem_of_getElem? (i := 1) rfl))) (htw _ (ck_1 _ (List.mem_of_getElem? (i := 12) rfl))) (htw _ (ck_1 _ (List.mem_of_getElem? (i := 13) rfl))) rfl (by rw [hml]; exact hl.1) rfl dX7_init_1 (Nat.le_of_ble_eq_true rfl) (Nat.le_of_ble_eq_true rfl) ?_
  refine W.eq (g2 := F0 m 4 ls []) rfl ?_
  refine lv_aload_n hx hb dX7_init_4 rfl (lv_at hl 0 rfl) ?_
  refine va_new (ci := 3) (fs := [.null, .int 0, .null, .int 0, .int 0, .int 0, .int 0, .int 0, .int 0]) (C := RX3) (T := TX3) (N := 9) hx hb htw inlX3 tyX3 tyX3_ok hown (htw _ (ck_3 _ (List.mem_of_getElem? (i := 2) rfl))) (htw _ (ck_3 _ (List.mem_of_getElem? (i := 3) rfl))) (htw _ (ck_3 _ (List.mem_of_getElem? (i := 4) rfl))) hK hP hD hS hA rfl (fun j hj => by rcases (show j = 0 ∨ j = 1 ∨ j = 2 ∨ j = 3 ∨ j = 4 ∨ j = 5 ∨ j = 6 ∨ j = 7 ∨ j = 8 by omega) with rfl | rfl | rfl | rfl | rfl | rfl | rfl | rfl | rfl <;> rfl) (Nat.le_of_ble_eq_true rfl) (Nat.le_of_ble_eq_true rfl) dX7_init_5 (fun q_1 H hP hD hS => ?_)
  obtain ⟨hP, hD⟩ := zre [(eO7c o 0 0 0 0 0), (eO3b q_1 0 0 0 0 0 0 0)] hP hD rfl
  refine W.widen (k := 1) (n := 9) (by omega) (by omega) ?_
  refine lv_dup hx hb dX7_init_8 rfl ?_
  obtain ⟨hPc, hDc, hFc, hCc⟩ := zsub3 (ws' := [(eO3b q_1 0 0 0 0 0 0 0)]) hP hD hS hA [1] (by decide) rfl
  have hKc := hK.sub (tys' := []) [] rfl
  refine va_callv (va_runI (As := []) (rest := [.ref q_1, .ref o]) ⟨hx, hb, hml, hown, htw⟩ (mc_lexer l dC dI tK sK sV q_1 H.size) (cwI 0 htw (xg_code (ck_3 _ (List.mem_of_getElem? (i := 11) rfl))) rfl rfl rfl (htw _ (ck_3 _ (List.mem_of_getElem? (i := 4) rfl))) (htw _ (ck_3 _ (List.mem_of_getElem? (i := 9) rfl))) (htw _ (ck_3 _ (List.mem_of_getElem? (i := 10) rfl))) rfl (by decide +kernel) ⟨Nat.le_of_ble_eq_true rfl, Nat.le_of_ble_eq_true rfl⟩) ⟨fun a U g mk q => by obtain ⟨q0, q1, qP, qK, qD, qx0, qx1⟩ := q; exact ⟨q0, q1, qP, va_K.moved (u := U) (U := U.calling g mk a) (Vm.Alike.refl U.vm) qK, qD, xcN.calling qx0, xc.calling qx1⟩, fun U hU hW => ⟨rfl, by rw [hU], by rw [hU]; exact hPc, va_K.moved hW.alike hKc, hDc.weaken (fun _ _ _ _ => trivial), hN.warm hW, by rw [hU]; exact ((xc.kept hZ hS.2.1).narrow hFc).moved hW.alike⟩⟩ rfl rfl hl.1 rfl (lv_room (Nat.le_of_ble_eq_true rfl)) dX7_init_9 ⟨Nat.le_of_ble_eq_true rfl, Nat.le_of_ble_eq_true rfl⟩) hS (fun q _ h => hFc q h) hFc (fun u_3 t H1 locs ht hvm hw hB hz1 hk1 hS => ?_)
  try dsimp only at hw
  obtain ⟨q1_4, q2_5, cB_6, cC_7, cG_8⟩ := u_3
  have hqx : cG_8 = xk_G := hw
  obtain ⟨hP1, hK1, hD1⟩ := hB
  rw [ht] at hP1
  have hK1 := va_K.moved hvm.symm hK1
  have hP1 : va_P (dC, dI) vwCl [(eO3a q_1 q1_4 0 q2_5 0 0 0 0 0 0), (eA0 q1_4 cB_6 900 (fun _ => 0)), (eA0 q2_5 cC_7 23 cG_8)] H1 := hP1
  have hK1 : va_K (dC, dI) vwCl [(cB_6, .byte), (cC_7, .int)] s := hK1
  try dsimp only at hw
  obtain ⟨hP, hD⟩ := va_join (wr := [(eO7c o 0 0 0 0 0)]) (w1 := [(eO3a q_1 q1_4 0 q2_5 0 0 0 0 0 0), (eA0 q1_4 cB_6 900 (fun _ => 0)), (eA0 q2_5 cC_7 23 cG_8)]) hP hD [1] [0] hCc rfl (by decide) (by decide) hk1 hFc hP1 hD1
  have hK := (hK.sub (tys' := []) [] rfl).app hK1
  generalize H1 = H at hP hS ⊢
  obtain ⟨hP, hD⟩ := zre [(eO7c o 0 0 0 0 0), (eO3a q_1 q1_4 0 q2_5 0 0 0 0 0 0), (eA0 q1_4 cB_6 900 (fun _ => 0)), (eA0 q2_5 cC_7 23 cG_8)] hP hD rfl
  have hK : va_K (dC, dI) vwCl [(cB_6, .byte), (cC_7, .int)] s := hK
  refine W.widen (k := 3) (n := 932) (by omega) (by omega) ?_
  refine va_putF (D := (dC, dI)) (ci := 7) (v := .ref q_1) (ty := tyX7 0) (C := RX7) (T := TX7) (N := 9) hx hb htw inlX7 tyX7 tyX7_ok nmX7 hown hK hP hD hS 0 rfl rfl 0 (by decide) (htw _ (ck_3 _ (List.mem_of_getElem? (i := 5) rfl))) (fun _ h9 => h9) rfl hin rfl (tyX7_ok 0 (by decide)) rfl rfl (Nat.le_of_ble_eq_true rfl) dX7_init_12 (fun H locs hP hD hS => ?_)
  obtain ⟨hP, hD⟩ := zre [(o, .inr (7, [.ref q_1, .null, .int 0, .int 0, .int 0, .null, .null, .int 0, .int 0])), (eO3a q_1 q1_4 0 q2_5 0 0 0 0 0 0), (eA0 q1_4 cB_6 900 (fun _ => 0)), (eA0 q2_5 cC_7 23 cG_8)] hP hD rfl
  refine lv_aload_n hx hb dX7_init_15 rfl (lv_at hl 0 rfl) ?_
  refine lv_iconst (v := (-1)) hx hb dX7_init_16 (by decide) ?_
  refine va_put (D := (dC, dI)) (ci := 7) (v := .int (-1)) (ty := tyX7 3) (C := RX7) (T := TX7) (N := 9) hx hb htw inlX7 tyX7 tyX7_ok nmX7 hown hK hP hD hS 0 rfl rfl 3 (by decide) (htw _ (ck_3 _ (List.mem_of_getElem? (i := 6) rfl))) (fun _ h9 => h9) rfl (tyX7_ok 3 (by decide)) rfl rfl (Nat.le_of_ble_eq_true rfl) dX7_init_17 (fun H locs hP hD hS => ?_)
  obtain ⟨hP, hD⟩ := zre [(o, .inr (7, [.ref q_1, .null, .int 0, .int (-1), .int 0, .null, .null, .int 0, .int 0])), (eO3a q_1 q1_4 0 q2_5 0 0 0 0 0 0), (eA0 q1_4 cB_6 900 (fun _ => 0)), (eA0 q2_5 cC_7 23 cG_8)] hP hD rfl
  refine lv_aload_n hx hb dX7_init_20 rfl (lv_at hl 0 rfl) ?_
  refine lv_bipush (v := 72) hx hb dX7_init_21 (by decide) ?_
  refine va_newa (ty := .int) (a0 := (72, .inl (fun _ => 0))) hx hb (htw _ (ck_2 _ (List.mem_of_getElem? (i := 7) rfl))) rfl hK hP hD hS hA (fun _ => rfl) (by decide) (by decide) (by decide) (Nat.le_of_ble_eq_true rfl) (Nat.le_of_ble_eq_true rfl) dX7_init_23 (fun q_9 cA_10 H hK hP hD hS => ?_)
  have hK : va_K (dC, dI) vwCl [(cB_6, .byte), (cC_7, .int), (cA_10, .int)] s := hK
  obtain ⟨hP, hD⟩ := zre [(o, .inr (7, [.ref q_1, .null, .int 0, .int (-1), .int 0, .null, .null, .int 0, .int 0])), (eO3a q_1 q1_4 0 q2_5 0 0 0 0 0 0), (eA0 q1_4 cB_6 900 (fun _ => 0)), (eA0 q2_5 cC_7 23 cG_8), (eA0 q_9 cA_10 72 (fun _ => 0))] hP hD rfl
  refine W.widen (k := 4) (n := 1004) (by omega) (by omega) ?_
  refine va_putF (D := (dC, dI)) (ci := 7) (v := .ref q_9) (ty := tyX7 5) (C := RX7) (T := TX7) (N := 9) hx hb htw inlX7 tyX7 tyX7_ok nmX7 hown hK hP hD hS 0 rfl rfl 5 (by decide) (htw _ (ck_3 _ (List.mem_of_getElem? (i := 7) rfl))) (fun _ h9 => h9) rfl hin rfl (tyX7_ok 5 (by decide)) rfl rfl (Nat.le_of_ble_eq_true rfl) dX7_init_25 (fun H locs hP hD hS => ?_)
  obtain ⟨hP, hD⟩ := zre [(o, .inr (7, [.ref q_1, .null, .int 0, .int (-1), .int 0, .ref q_9, .null, .int 0, .int 0])), (eO3a q_1 q1_4 0 q2_5 0 0 0 0 0 0), (eA0 q1_4 cB_6 900 (fun _ => 0)), (eA0 q2_5 cC_7 23 cG_8), (eA0 q_9 cA_10 72 (fun _ => 0))] hP hD rfl
  refine lv_aload_n hx hb dX7_init_28 rfl (lv_at hl 0 rfl) ?_
  refine lv_bipush (v := 72) hx hb dX7_init_29 (by decide) ?_
  refine va_newa (ty := .int) (a0 := (72, .inl (fun _ => 0))) hx hb (htw _ (ck_2 _ (List.mem_of_getElem? (i := 7) rfl))) rfl hK hP hD hS hA (fun _ => rfl) (by decide) (by decide) (by decide) (Nat.le_of_ble_eq_true rfl) (Nat.le_of_ble_eq_true rfl) dX7_init_31 (fun q_11 cA_12 H hK hP hD hS => ?_)
  have hK : va_K (dC, dI) vwCl [(cB_6, .byte), (cC_7, .int), (cA_10, .int), (cA_12, .int)] s := hK
  obtain ⟨hP, hD⟩ := zre [(o, .inr (7, [.ref q_1, .null, .int 0, .int (-1), .int 0, .ref q_9, .null, .int 0, .int 0])), (eO3a q_1 q1_4 0 q2_5 0 0 0 0 0 0), (eA0 q1_4 cB_6 900 (fun _ => 0)), (eA0 q2_5 cC_7 23 cG_8), (eA0 q_9 cA_10 72 (fun _ => 0)), (eA0 q_11 cA_12 72 (fun _ => 0))] hP hD rfl
  refine W.widen (k := 5) (n := 1076) (by omega) (by omega) ?_
  refine va_putF (D := (dC, dI)) (ci := 7) (v := .ref q_11) (ty := tyX7 6) (C := RX7) (T := TX7) (N := 9) hx hb htw inlX7 tyX7 tyX7_ok nmX7 hown hK hP hD hS 0 rfl rfl 6 (by decide) (htw _ (ck_3 _ (List.mem_of_getElem? (i := 8) rfl))) (fun _ h9 => h9) rfl hin rfl (tyX7_ok 6 (by decide)) rfl rfl (Nat.le_of_ble_eq_true rfl) dX7_init_33 (fun H locs hP hD hS => ?_)
  obtain ⟨hP, hD⟩ := zre [(eO7b o q_1 0 (-1) 0 q_9 q_11 0 0), (eO3a q_1 q1_4 0 q2_5 0 0 0 0 0 0), (eA0 q1_4 cB_6 900 (fun _ => 0)), (eA0 q2_5 cC_7 23 cG_8), (eA0 q_9 cA_10 72 (fun _ => 0)), (eA0 q_11 cA_12 72 (fun _ => 0))] hP hD rfl
  refine W.widen (k := 5) (n := 1076) (by omega) (by omega) ?_
  have hP9 := hP
  have hD9 := hD
  have hK9 := hK.sub (tys' := [(cB_6, .byte), (cC_7, .int), (cA_10, .int), (cA_12, .int)]) [0, 1, 2, 3] rfl
  exact W.vret hx hb hr (fun t ht hW => ⟨⟨(q_1, q_9, q_11, q1_4, q2_5, cB_6, cC_7, cA_10, cA_12, cG_8), rfl, hqx, by rw [ht]; exact hP9, va_K.moved hW.alike hK9, hD9⟩, hS.F ht⟩) hS.2.2 dX7_init_36
