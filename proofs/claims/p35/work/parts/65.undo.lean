def fq_named (f_landName : Nat → Int32) (f_feastName : Nat → Int32) (f_personName : Nat → Int32) (f_deedName : Nat → Int32) (f_noteName : Nat → Int32) (a0 : Int32) (a1 : Int32) (m_lands : Int32) (m_feasts : Int32) (m_people : Int32) (m_deeds : Int32) (m_named1 : Int32) : Int32 × (Int32) := (if a0 = 0 then (xL ((fq_find8_0 f_landName m_lands a1)) (fun r_2 => (r_2, (0 : Int32)))) else (if a0 = 1 then (xL ((fq_find8_0 f_feastName m_feasts a1)) (fun r_6 => (r_6, (0 : Int32)))) else (if a0 = 2 then (xL ((fq_find12_0 f_personName m_people a1)) (fun r_10 => (r_10, (0 : Int32)))) else (if a0 = 3 then (xL ((fq_find8_0 f_deedName m_deeds a1)) (fun r_14 => (r_14, (0 : Int32)))) else (if a0 = 4 then (xL ((fq_find12_0 f_noteName m_named1 a1)) (fun r_18 => (r_18, (0 : Int32)))) else ((-1 : Int32), (0 : Int32)))))))
theorem dX12_named_0 : decode cX12_named 0 = .ok (.aload_n 0, 1) := zk_42 (by decide +kernel)
theorem dX12_named_1 : decode cX12_named 1 = .ok (.iconst 0, 1) := zk_3 (by decide +kernel)
theorem dX12_named_2 : decode cX12_named 2 = .ok (.putfield 119, 3) := zk_181 (by decide +kernel)
theorem dX12_named_5 : decode cX12_named 5 = .ok (.iload_n 1, 1) := zk_27 (by decide +kernel)
theorem dX12_named_6 : decode cX12_named 6 = .ok (.tableswitch 104 0 4 #[34, 48, 62, 76, 90], 34) := by decide +kernel
theorem dX12_named_40 : decode cX12_named 40 = .ok (.aload_n 0, 1) := zk_42 (by decide +kernel)
theorem dX12_named_41 : decode cX12_named 41 = .ok (.getfield 23, 3) := zk_180 (by decide +kernel)
theorem dX12_named_44 : decode cX12_named 44 = .ok (.iconst 0, 1) := zk_3 (by decide +kernel)
theorem dX12_named_45 : decode cX12_named 45 = .ok (.aload_n 0, 1) := zk_42 (by decide +kernel)
theorem dX12_named_46 : decode cX12_named 46 = .ok (.getfield 217, 3) := zk_180 (by decide +kernel)
theorem dX12_named_49 : decode cX12_named 49 = .ok (.iload_n 2, 1) := zk_28 (by decide +kernel)
theorem dX12_named_50 : decode cX12_named 50 = .ok (.invokestatic 255, 3) := zk_184 (by decide +kernel)
theorem dX12_named_53 : decode cX12_named 53 = .ok (.ireturn, 1) := zk_172 (by decide +kernel)
theorem dX12_named_54 : decode cX12_named 54 = .ok (.aload_n 0, 1) := zk_42 (by decide +kernel)
theorem dX12_named_55 : decode cX12_named 55 = .ok (.getfield 29, 3) := zk_180 (by decide +kernel)
theorem dX12_named_58 : decode cX12_named 58 = .ok (.iconst 0, 1) := zk_3 (by decide +kernel)
theorem dX12_named_59 : decode cX12_named 59 = .ok (.aload_n 0, 1) := zk_42 (by decide +kernel)
theorem dX12_named_60 : decode cX12_named 60 = .ok (.getfield 220, 3) := zk_180 (by decide +kernel)
theorem dX12_named_63 : decode cX12_named 63 = .ok (.iload_n 2, 1) := zk_28 (by decide +kernel)
theorem dX12_named_64 : decode cX12_named 64 = .ok (.invokestatic 255, 3) := zk_184 (by decide +kernel)
theorem dX12_named_67 : decode cX12_named 67 = .ok (.ireturn, 1) := zk_172 (by decide +kernel)
theorem dX12_named_68 : decode cX12_named 68 = .ok (.aload_n 0, 1) := zk_42 (by decide +kernel)
theorem dX12_named_69 : decode cX12_named 69 = .ok (.getfield 38, 3) := zk_180 (by decide +kernel)
theorem dX12_named_72 : decode cX12_named 72 = .ok (.iconst 0, 1) := zk_3 (by decide +kernel)
theorem dX12_named_73 : decode cX12_named 73 = .ok (.aload_n 0, 1) := zk_42 (by decide +kernel)
theorem dX12_named_74 : decode cX12_named 74 = .ok (.getfield 223, 3) := zk_180 (by decide +kernel)
theorem dX12_named_77 : decode cX12_named 77 = .ok (.iload_n 2, 1) := zk_28 (by decide +kernel)
theorem dX12_named_78 : decode cX12_named 78 = .ok (.invokestatic 255, 3) := zk_184 (by decide +kernel)
theorem dX12_named_81 : decode cX12_named 81 = .ok (.ireturn, 1) := zk_172 (by decide +kernel)
theorem dX12_named_82 : decode cX12_named 82 = .ok (.aload_n 0, 1) := zk_42 (by decide +kernel)
theorem dX12_named_83 : decode cX12_named 83 = .ok (.getfield 48, 3) := zk_180 (by decide +kernel)
theorem dX12_named_86 : decode cX12_named 86 = .ok (.iconst 0, 1) := zk_3 (by decide +kernel)
theorem dX12_named_87 : decode cX12_named 87 = .ok (.aload_n 0, 1) := zk_42 (by decide +kernel)
theorem dX12_named_88 : decode cX12_named 88 = .ok (.getfield 226, 3) := zk_180 (by decide +kernel)
theorem dX12_named_91 : decode cX12_named 91 = .ok (.iload_n 2, 1) := zk_28 (by decide +kernel)
theorem dX12_named_92 : decode cX12_named 92 = .ok (.invokestatic 255, 3) := zk_184 (by decide +kernel)
theorem dX12_named_95 : decode cX12_named 95 = .ok (.ireturn, 1) := zk_172 (by decide +kernel)
theorem dX12_named_96 : decode cX12_named 96 = .ok (.aload_n 0, 1) := zk_42 (by decide +kernel)
theorem dX12_named_97 : decode cX12_named 97 = .ok (.getfield 57, 3) := zk_180 (by decide +kernel)
theorem dX12_named_100 : decode cX12_named 100 = .ok (.iconst 0, 1) := zk_3 (by decide +kernel)
theorem dX12_named_101 : decode cX12_named 101 = .ok (.aload_n 0, 1) := zk_42 (by decide +kernel)
theorem dX12_named_102 : decode cX12_named 102 = .ok (.getfield 243, 3) := zk_180 (by decide +kernel)
theorem dX12_named_105 : decode cX12_named 105 = .ok (.iload_n 2, 1) := zk_28 (by decide +kernel)
theorem dX12_named_106 : decode cX12_named 106 = .ok (.invokestatic 255, 3) := zk_184 (by decide +kernel)
theorem dX12_named_109 : decode cX12_named 109 = .ok (.ireturn, 1) := zk_172 (by decide +kernel)
theorem dX12_named_110 : decode cX12_named 110 = .ok (.iconst (-1), 1) := zk_2 (by decide +kernel)
theorem dX12_named_111 : decode cX12_named 111 = .ok (.ireturn, 1) := zk_172 (by decide +kernel)
set_option maxHeartbeats 4000000 in
set_option maxRecDepth 100000 in
theorem gq_named (l : Launch) (dC : Nat → ClassId) (dI : Nat → Nat → Nat) (mq : Nat) (g : Nat → Int32) (gl : Nat → Int64) (rf : Nat → Nat) (ck : Nat → ClassId) (f_landName : Nat → Int32) (f_feastName : Nat → Int32) (f_personName : Nat → Int32) (f_deedName : Nat → Int32) (f_noteName : Nat → Int32) (a0 : Int32) (a1 : Int32) (sz : Nat) (hln0 : ¬ (g 12) < 0) (hln4 : (g 12) ≤ 4) (hfe0 : ¬ (g 13) < 0) (hfe4 : (g 13) ≤ 4) (hp0 : ¬ (g 14) < 0) (hp6 : (g 14) ≤ 6) (hde0 : ¬ (g 15) < 0) (hde4 : (g 15) ≤ 4) (hn10 : ¬ (g 58) < 0) (hn16 : (g 58) ≤ 6) : Met l yX12_named (Cond.code yX12_named cX12_named 3 (some .int) :: wsL_law) ({ frames := 1, cells := 0, slots := 0, locals := 24 }) (va_Pc [.ref mq, .int a0, .int a1] (fun U => U.heap.size = sz ∧ va_P (dC, dI) vwCl [(mq, .inr (12, mF g gl rf)), (eA0 (rf 28) (ck 28) 8 f_landName), (eA0 (rf 30) (ck 30) 8 f_feastName), (eA0 (rf 33) (ck 33) 12 f_personName), (eA0 (rf 36) (ck 36) 8 f_deedName), (eA0 (rf 39) (ck 39) 12 f_noteName)] U.heap ∧ va_K (dC, dI) vwCl [((ck 28), .int), ((ck 30), .int), ((ck 33), .int), ((ck 36), .int), ((ck 39), .int)] U ∧ va_D (fun _ => True) [(mq, .inr (12, mF g gl rf)), (eA0 (rf 28) (ck 28) 8 f_landName), (eA0 (rf 30) (ck 30) 8 f_feastName), (eA0 (rf 33) (ck 33) 12 f_personName), (eA0 (rf 36) (ck 36) 8 f_deedName), (eA0 (rf 39) (ck 39) 12 f_noteName)])) (va_Qi (fun (r : Int32) (u : (Int32)) => r = (fq_named f_landName f_feastName f_personName f_deedName f_noteName a0 a1 (g 12) (g 13) (g 14) (g 15) (g 58)).1 ∧ u = (fq_named f_landName f_feastName f_personName f_deedName f_noteName a0 a1 (g 12) (g 13) (g 14) (g 15) (g 58)).2) (fun (u : (Int32)) t => va_P (dC, dI) vwCl [(mq, .inr (12, mF (upd g 2 u) gl rf)), (eA0 (rf 28) (ck 28) 8 f_landName), (eA0 (rf 30) (ck 30) 8 f_feastName), (eA0 (rf 33) (ck 33) 12 f_personName), (eA0 (rf 36) (ck 36) 8 f_deedName), (eA0 (rf 39) (ck 39) 12 f_noteName)] t.heap ∧ va_K (dC, dI) vwCl [] t ∧ va_D (va_A [(mq, .inr (12, mF g gl rf)), (eA0 (rf 28) (ck 28) 8 f_landName), (eA0 (rf 30) (ck 30) 8 f_feastName), (eA0 (rf 33) (ck 33) 12 f_personName), (eA0 (rf 36) (ck 36) 8 f_deedName), (eA0 (rf 39) (ck 39) 12 f_noteName)] sz) [(mq, .inr (12, mF (upd g 2 u) gl rf)), (eA0 (rf 28) (ck 28) 8 f_landName), (eA0 (rf 30) (ck 30) 8 f_feastName), (eA0 (rf 33) (ck 33) 12 f_personName), (eA0 (rf 36) (ck 36) 8 f_deedName), (eA0 (rf 39) (ck 39) 12 f_noteName)]) (va_A [(mq, .inr (12, mF g gl rf)), (eA0 (rf 28) (ck 28) 8 f_landName), (eA0 (rf 30) (ck 30) 8 f_feastName), (eA0 (rf 33) (ck 33) 12 f_personName), (eA0 (rf 36) (ck 36) 8 f_deedName), (eA0 (rf 39) (ck 39) 12 f_noteName)] sz)) 0 0 (va_A [(mq, .inr (12, mF g gl rf)), (eA0 (rf 28) (ck 28) 8 f_landName), (eA0 (rf 30) (ck 30) 8 f_feastName), (eA0 (rf 33) (ck 33) 12 f_personName), (eA0 (rf 36) (ck 36) 8 f_deedName), (eA0 (rf 39) (ck 39) 12 f_noteName)] sz) := by
  refine Met.ofW (cc := cX12_named) (maxL := 3) (ret := (some .int)) (by decide) rfl ?_
  intro p e s m args below meth c s₁ B hml hv
  obtain ⟨rfl, hsz, hP, hK, hD0⟩ := hv
  have hx := B.exec
  have hb := B.bytes
  have hr := B.returns
  have hts := atoms_spec (ws := Cond.code yX12_named cX12_named 3 (some .int) :: wsL_law) B.pre
  have htw : ∀ w ∈ wsL_law, w.before _ s = true := fun w h => hts w (List.mem_cons_of_mem _ h)
  have hown : s.vm.findClass RX12 = some m.cls := findClass_of_methodNamed B.named
  have hlocks := B.notSynchronized
  subst hsz
  have hD := hD0.self (sz := s.heap.size)
  generalize hAe : va_A [(mq, .inr (12, mF g gl rf)), (eA0 (rf 28) (ck 28) 8 f_landName), (eA0 (rf 30) (ck 30) 8 f_feastName), (eA0 (rf 33) (ck 33) 12 f_personName), (eA0 (rf 36) (ck 36) 8 f_deedName), (eA0 (rf 39) (ck 39) 12 f_noteName)] s.heap.size = A at hD ⊢
  have hA : ∀ q : Nat, s.heap.size ≤ q → A q := fun q h => by rw [← hAe]; exact Or.inr h
  obtain ⟨H, rH⟩ : ∃ z : Heap, z = s.heap := ⟨_, rfl⟩
  have hS : va_S A s.heap H [] := by rw [rH]; exact va_S.rf
  have hP : va_P (dC, dI) vwCl [(mq, .inr (12, mF g gl rf)), (eA0 (rf 28) (ck 28) 8 f_landName), (eA0 (rf 30) (ck 30) 8 f_feastName), (eA0 (rf 33) (ck 33) 12 f_personName), (eA0 (rf 36) (ck 36) 8 f_deedName), (eA0 (rf 39) (ck 39) 12 f_noteName)] H := by rw [rH]; exact hP
  rw [← rH]
  have hl := lv_entry ([.ref mq, .int a0, .int a1]) (n := 3) (Nat.le_of_ble_eq_true rfl)
  rw [lg_entry_eq]
  generalize (lg_sl ([.ref mq, .int a0, .int a1]) ++ List.replicate (3 - (lg_sl ([.ref mq, .int a0, .int a1])).length) Slot.unset).toArray = ls at hl ⊢
  have hl : lv_has ls 3 [(0, .ref mq), (1, .int a0), (2, .int a1)] := hl
  refine lv_aload_n hx hb dX12_named_0 rfl (lv_at hl 0 rfl) ?_
  refine lv_iconst (v := 0) hx hb dX12_named_1 (by decide) ?_
  refine va_put (D := (dC, dI)) (ci := 12) (v := .int 0) (ty := tyX12 2) (C := RX12) (T := TX12) (N := 76) hx hb htw inlX12 tyX12 tyX12_ok nmX12 hown hK hP hD hS 0 rfl rfl 2 (by decide) (htw _ (ck_12 _ (List.mem_of_getElem? (i := 16) rfl))) (fun _ h9 => h9) rfl (tyX12_ok 2 (by decide)) rfl rfl (Nat.le_of_ble_eq_true rfl) dX12_named_2 (fun H locs hP hD hS => ?_)
  obtain ⟨hP, hD⟩ := zre [(mq, .inr (12, mF (upd g 2 0) gl rf)), (eA0 (rf 28) (ck 28) 8 f_landName), (eA0 (rf 30) (ck 30) 8 f_feastName), (eA0 (rf 33) (ck 33) 12 f_personName), (eA0 (rf 36) (ck 36) 8 f_deedName), (eA0 (rf 39) (ck 39) 12 f_noteName)] hP hD rfl
  refine lv_iload_n hx hb dX12_named_5 rfl (lv_at hl 1 rfl) ?_
  by_cases h_1 : a0 = 0
  · subst h_1
    refine lv_tableIn (off := 34) (tgt := 40) hx hb dX12_named_6 (by decide) (by decide) (by decide) (by decide) ?_
    refine lv_aload_n hx hb dX12_named_40 rfl (lv_at hl 0 rfl) ?_
    refine va_get (D := (dC, dI)) (ci := 12) (v := .ref (rf 28)) (C := RX12) (T := TX12) (N := 76) hx hb htw inlX12 hown hK hP 0 rfl rfl 28 (by decide) (htw _ (ck_9 _ (List.mem_of_getElem? (i := 8) rfl))) (fun _ h9 => h9) rfl dX12_named_41 ?_
    refine lv_iconst (v := 0) hx hb dX12_named_44 (by decide) ?_
    refine lv_aload_n hx hb dX12_named_45 rfl (lv_at hl 0 rfl) ?_
    refine va_get (D := (dC, dI)) (ci := 12) (v := .int (g 12)) (C := RX12) (T := TX12) (N := 76) hx hb htw inlX12 hown hK hP 0 rfl rfl 12 (by decide) (htw _ (ck_11 _ (List.mem_of_getElem? (i := 9) rfl))) (fun _ h9 => h9) rfl dX12_named_46 ?_
    refine lv_iload_n hx hb dX12_named_49 rfl (lv_at hl 2 rfl) ?_
    have hPc := hP.sub (ws' := [(eA0 (rf 28) (ck 28) 8 f_landName)]) [1] rfl
    have hKc := hK.sub (tys' := [((ck 28), .int)]) [0] rfl
    refine vp_callSi (W.runS (As := [.ref (rf 28), .int 0, .int (g 12), .int a1]) (rest := []) ⟨hx, hb, hml, hown, htw⟩ (gq_find8_0 l dC dI (rf 28) (ck 28) f_landName (g 12) a1 hln0 hln4) (va_cwS 4 htw (xg_S (ck_26 _ (List.mem_of_getElem? (i := 10) rfl)) (ck_26 _ (List.mem_of_getElem? (i := 11) rfl)) (ck_1 _ (List.mem_of_getElem? (i := 5) rfl)) (ck_26 _ (List.mem_of_getElem? (i := 12) rfl))) rfl rfl rfl (by exact ⟨hdc_14.1, hdc_14.2, hdd_39⟩) ⟨Nat.le_of_ble_eq_true rfl, Nat.le_of_ble_eq_true rfl⟩) ⟨fun a U g mk q => by obtain ⟨q0, qP, qK⟩ := q; exact ⟨q0, qP, va_K.moved (u := U) (U := U.calling g mk a) (Vm.Alike.refl U.vm) qK⟩, fun U hU hW => ⟨rfl, by rw [hU]; exact hPc, va_K.moved hW.alike hKc⟩⟩ rfl rfl hl.1 rfl (lv_room (Nat.le_of_ble_eq_true rfl)) dX12_named_50 ⟨Nat.le_of_ble_eq_true rfl, Nat.le_of_ble_eq_true rfl⟩) (fun r_2 hw => ?_)
    try dsimp only at hw
    obtain ⟨hw, hp_3, hp_4⟩ := hw
    have hq_r_2 : r_2 = (fq_find8_0 f_landName (g 12) a1) := hw
    refine W.widen (k := 0) (n := 0) (by omega) (by omega) ?_
    have hP9 := hP
    have hD9 := hD
    have hK9 := hK.sub (tys' := []) [] rfl
    exact W.iret (v := r_2) hx hb hr (fun t ht hW => ⟨⟨r_2, 0, rfl, ((fun e9 => ⟨by rw [e9], by rw [e9]⟩ : fq_named f_landName f_feastName f_personName f_deedName f_noteName (0 : Int32) a1 (g 12) (g 13) (g 14) (g 15) (g 58) = (r_2, (0 : Int32)) → _) ((by rw [fq_named]; (try rw [if_pos rfl]); (try rw [← hq_r_2]); (try rw [xL_eq]); try rfl))), by rw [ht]; exact hP9, va_K.moved hW.alike hK9, hD9⟩, hS.F ht⟩) hS.2.2 dX12_named_53
  by_cases h_5 : a0 = 1
  · subst h_5
    refine lv_tableIn (off := 48) (tgt := 54) hx hb dX12_named_6 (by decide) (by decide) (by decide) (by decide) ?_
    refine lv_aload_n hx hb dX12_named_54 rfl (lv_at hl 0 rfl) ?_
    refine va_get (D := (dC, dI)) (ci := 12) (v := .ref (rf 30)) (C := RX12) (T := TX12) (N := 76) hx hb htw inlX12 hown hK hP 0 rfl rfl 30 (by decide) (htw _ (ck_9 _ (List.mem_of_getElem? (i := 10) rfl))) (fun _ h9 => h9) rfl dX12_named_55 ?_
    refine lv_iconst (v := 0) hx hb dX12_named_58 (by decide) ?_
    refine lv_aload_n hx hb dX12_named_59 rfl (lv_at hl 0 rfl) ?_
    refine va_get (D := (dC, dI)) (ci := 12) (v := .int (g 13)) (C := RX12) (T := TX12) (N := 76) hx hb htw inlX12 hown hK hP 0 rfl rfl 13 (by decide) (htw _ (ck_11 _ (List.mem_of_getElem? (i := 10) rfl))) (fun _ h9 => h9) rfl dX12_named_60 ?_
    refine lv_iload_n hx hb dX12_named_63 rfl (lv_at hl 2 rfl) ?_
    have hPc := hP.sub (ws' := [(eA0 (rf 30) (ck 30) 8 f_feastName)]) [2] rfl
    have hKc := hK.sub (tys' := [((ck 30), .int)]) [1] rfl
    refine vp_callSi (W.runS (As := [.ref (rf 30), .int 0, .int (g 13), .int a1]) (rest := []) ⟨hx, hb, hml, hown, htw⟩ (gq_find8_0 l dC dI (rf 30) (ck 30) f_feastName (g 13) a1 hfe0 hfe4) (va_cwS 4 htw (xg_S (ck_26 _ (List.mem_of_getElem? (i := 10) rfl)) (ck_26 _ (List.mem_of_getElem? (i := 11) rfl)) (ck_1 _ (List.mem_of_getElem? (i := 5) rfl)) (ck_26 _ (List.mem_of_getElem? (i := 12) rfl))) rfl rfl rfl (by exact ⟨hdc_14.1, hdc_14.2, hdd_39⟩) ⟨Nat.le_of_ble_eq_true rfl, Nat.le_of_ble_eq_true rfl⟩) ⟨fun a U g mk q => by obtain ⟨q0, qP, qK⟩ := q; exact ⟨q0, qP, va_K.moved (u := U) (U := U.calling g mk a) (Vm.Alike.refl U.vm) qK⟩, fun U hU hW => ⟨rfl, by rw [hU]; exact hPc, va_K.moved hW.alike hKc⟩⟩ rfl rfl hl.1 rfl (lv_room (Nat.le_of_ble_eq_true rfl)) dX12_named_64 ⟨Nat.le_of_ble_eq_true rfl, Nat.le_of_ble_eq_true rfl⟩) (fun r_6 hw => ?_)
    try dsimp only at hw
    obtain ⟨hw, hp_7, hp_8⟩ := hw
    have hq_r_6 : r_6 = (fq_find8_0 f_feastName (g 13) a1) := hw
    refine W.widen (k := 0) (n := 0) (by omega) (by omega) ?_
    have hP9 := hP
    have hD9 := hD
    have hK9 := hK.sub (tys' := []) [] rfl
    exact W.iret (v := r_6) hx hb hr (fun t ht hW => ⟨⟨r_6, 0, rfl, ((fun e9 => ⟨by rw [e9], by rw [e9]⟩ : fq_named f_landName f_feastName f_personName f_deedName f_noteName (1 : Int32) a1 (g 12) (g 13) (g 14) (g 15) (g 58) = (r_6, (0 : Int32)) → _) ((by rw [fq_named]; (try rw [if_neg h_1]); (try rw [if_pos rfl]); (try rw [← hq_r_6]); (try rw [xL_eq]); try rfl))), by rw [ht]; exact hP9, va_K.moved hW.alike hK9, hD9⟩, hS.F ht⟩) hS.2.2 dX12_named_67
  by_cases h_9 : a0 = 2
  · subst h_9
    refine lv_tableIn (off := 62) (tgt := 68) hx hb dX12_named_6 (by decide) (by decide) (by decide) (by decide) ?_
    refine lv_aload_n hx hb dX12_named_68 rfl (lv_at hl 0 rfl) ?_
    refine va_get (D := (dC, dI)) (ci := 12) (v := .ref (rf 33)) (C := RX12) (T := TX12) (N := 76) hx hb htw inlX12 hown hK hP 0 rfl rfl 33 (by decide) (htw _ (ck_9 _ (List.mem_of_getElem? (i := 13) rfl))) (fun _ h9 => h9) rfl dX12_named_69 ?_
    refine lv_iconst (v := 0) hx hb dX12_named_72 (by decide) ?_
    refine lv_aload_n hx hb dX12_named_73 rfl (lv_at hl 0 rfl) ?_
    refine va_get (D := (dC, dI)) (ci := 12) (v := .int (g 14)) (C := RX12) (T := TX12) (N := 76) hx hb htw inlX12 hown hK hP 0 rfl rfl 14 (by decide) (htw _ (ck_11 _ (List.mem_of_getElem? (i := 11) rfl))) (fun _ h9 => h9) rfl dX12_named_74 ?_
    refine lv_iload_n hx hb dX12_named_77 rfl (lv_at hl 2 rfl) ?_
    have hPc := hP.sub (ws' := [(eA0 (rf 33) (ck 33) 12 f_personName)]) [3] rfl
    have hKc := hK.sub (tys' := [((ck 33), .int)]) [2] rfl
    refine vp_callSi (W.runS (As := [.ref (rf 33), .int 0, .int (g 14), .int a1]) (rest := []) ⟨hx, hb, hml, hown, htw⟩ (gq_find12_0 l dC dI (rf 33) (ck 33) f_personName (g 14) a1 hp0 hp6) (va_cwS 4 htw (xg_S (ck_26 _ (List.mem_of_getElem? (i := 10) rfl)) (ck_26 _ (List.mem_of_getElem? (i := 11) rfl)) (ck_1 _ (List.mem_of_getElem? (i := 5) rfl)) (ck_26 _ (List.mem_of_getElem? (i := 12) rfl))) rfl rfl rfl (by exact ⟨hdc_14.1, hdc_14.2, hdd_39⟩) ⟨Nat.le_of_ble_eq_true rfl, Nat.le_of_ble_eq_true rfl⟩) ⟨fun a U g mk q => by obtain ⟨q0, qP, qK⟩ := q; exact ⟨q0, qP, va_K.moved (u := U) (U := U.calling g mk a) (Vm.Alike.refl U.vm) qK⟩, fun U hU hW => ⟨rfl, by rw [hU]; exact hPc, va_K.moved hW.alike hKc⟩⟩ rfl rfl hl.1 rfl (lv_room (Nat.le_of_ble_eq_true rfl)) dX12_named_78 ⟨Nat.le_of_ble_eq_true rfl, Nat.le_of_ble_eq_true rfl⟩) (fun r_10 hw => ?_)
    try dsimp only at hw
    obtain ⟨hw, hp_11, hp_12⟩ := hw
    have hq_r_10 : r_10 = (fq_find12_0 f_personName (g 14) a1) := hw
    refine W.widen (k := 0) (n := 0) (by omega) (by omega) ?_
    have hP9 := hP
    have hD9 := hD
    have hK9 := hK.sub (tys' := []) [] rfl
    exact W.iret (v := r_10) hx hb hr (fun t ht hW => ⟨⟨r_10, 0, rfl, ((fun e9 => ⟨by rw [e9], by rw [e9]⟩ : fq_named f_landName f_feastName f_personName f_deedName f_noteName (2 : Int32) a1 (g 12) (g 13) (g 14) (g 15) (g 58) = (r_10, (0 : Int32)) → _) ((by rw [fq_named]; (try rw [if_neg h_1]); (try rw [if_neg h_5]); (try rw [if_pos rfl]); (try rw [← hq_r_10]); (try rw [xL_eq]); try rfl))), by rw [ht]; exact hP9, va_K.moved hW.alike hK9, hD9⟩, hS.F ht⟩) hS.2.2 dX12_named_81
  by_cases h_13 : a0 = 3
  · subst h_13
    refine lv_tableIn (off := 76) (tgt := 82) hx hb dX12_named_6 (by decide) (by decide) (by decide) (by decide) ?_
    refine lv_aload_n hx hb dX12_named_82 rfl (lv_at hl 0 rfl) ?_
    refine va_get (D := (dC, dI)) (ci := 12) (v := .ref (rf 36)) (C := RX12) (T := TX12) (N := 76) hx hb htw inlX12 hown hK hP 0 rfl rfl 36 (by decide) (htw _ (ck_9 _ (List.mem_of_getElem? (i := 16) rfl))) (fun _ h9 => h9) rfl dX12_named_83 ?_
    refine lv_iconst (v := 0) hx hb dX12_named_86 (by decide) ?_
    refine lv_aload_n hx hb dX12_named_87 rfl (lv_at hl 0 rfl) ?_
    refine va_get (D := (dC, dI)) (ci := 12) (v := .int (g 15)) (C := RX12) (T := TX12) (N := 76) hx hb htw inlX12 hown hK hP 0 rfl rfl 15 (by decide) (htw _ (ck_11 _ (List.mem_of_getElem? (i := 12) rfl))) (fun _ h9 => h9) rfl dX12_named_88 ?_
    refine lv_iload_n hx hb dX12_named_91 rfl (lv_at hl 2 rfl) ?_
    have hPc := hP.sub (ws' := [(eA0 (rf 36) (ck 36) 8 f_deedName)]) [4] rfl
    have hKc := hK.sub (tys' := [((ck 36), .int)]) [3] rfl
    refine vp_callSi (W.runS (As := [.ref (rf 36), .int 0, .int (g 15), .int a1]) (rest := []) ⟨hx, hb, hml, hown, htw⟩ (gq_find8_0 l dC dI (rf 36) (ck 36) f_deedName (g 15) a1 hde0 hde4) (va_cwS 4 htw (xg_S (ck_26 _ (List.mem_of_getElem? (i := 10) rfl)) (ck_26 _ (List.mem_of_getElem? (i := 11) rfl)) (ck_1 _ (List.mem_of_getElem? (i := 5) rfl)) (ck_26 _ (List.mem_of_getElem? (i := 12) rfl))) rfl rfl rfl (by exact ⟨hdc_14.1, hdc_14.2, hdd_39⟩) ⟨Nat.le_of_ble_eq_true rfl, Nat.le_of_ble_eq_true rfl⟩) ⟨fun a U g mk q => by obtain ⟨q0, qP, qK⟩ := q; exact ⟨q0, qP, va_K.moved (u := U) (U := U.calling g mk a) (Vm.Alike.refl U.vm) qK⟩, fun U hU hW => ⟨rfl, by rw [hU]; exact hPc, va_K.moved hW.alike hKc⟩⟩ rfl rfl hl.1 rfl (lv_room (Nat.le_of_ble_eq_true rfl)) dX12_named_92 ⟨Nat.le_of_ble_eq_true rfl, Nat.le_of_ble_eq_true rfl⟩) (fun r_14 hw => ?_)
    try dsimp only at hw
    obtain ⟨hw, hp_15, hp_16⟩ := hw
    have hq_r_14 : r_14 = (fq_find8_0 f_deedName (g 15) a1) := hw
    refine W.widen (k := 0) (n := 0) (by omega) (by omega) ?_
    have hP9 := hP
    have hD9 := hD
    have hK9 := hK.sub (tys' := []) [] rfl
    exact W.iret (v := r_14) hx hb hr (fun t ht hW => ⟨⟨r_14, 0, rfl, ((fun e9 => ⟨by rw [e9], by rw [e9]⟩ : fq_named f_landName f_feastName f_personName f_deedName f_noteName (3 : Int32) a1 (g 12) (g 13) (g 14) (g 15) (g 58) = (r_14, (0 : Int32)) → _) ((by rw [fq_named]; (try rw [if_neg h_1]); (try rw [if_neg h_5]); (try rw [if_neg h_9]); (try rw [if_pos rfl]); (try rw [← hq_r_14]); (try rw [xL_eq]); try rfl))), by rw [ht]; exact hP9, va_K.moved hW.alike hK9, hD9⟩, hS.F ht⟩) hS.2.2 dX12_named_95
  by_cases h_17 : a0 = 4
  · subst h_17
    refine lv_tableIn (off := 90) (tgt := 96) hx hb dX12_named_6 (by decide) (by decide) (by decide) (by decide) ?_
    refine lv_aload_n hx hb dX12_named_96 rfl (lv_at hl 0 rfl) ?_
    refine va_get (D := (dC, dI)) (ci := 12) (v := .ref (rf 39)) (C := RX12) (T := TX12) (N := 76) hx hb htw inlX12 hown hK hP 0 rfl rfl 39 (by decide) (htw _ (ck_9 _ (List.mem_of_getElem? (i := 19) rfl))) (fun _ h9 => h9) rfl dX12_named_97 ?_
    refine lv_iconst (v := 0) hx hb dX12_named_100 (by decide) ?_
    refine lv_aload_n hx hb dX12_named_101 rfl (lv_at hl 0 rfl) ?_
    refine va_get (D := (dC, dI)) (ci := 12) (v := .int (g 58)) (C := RX12) (T := TX12) (N := 76) hx hb htw inlX12 hown hK hP 0 rfl rfl 58 (by decide) (htw _ (ck_11 _ (List.mem_of_getElem? (i := 15) rfl))) (fun _ h9 => h9) rfl dX12_named_102 ?_
    refine lv_iload_n hx hb dX12_named_105 rfl (lv_at hl 2 rfl) ?_
    have hPc := hP.sub (ws' := [(eA0 (rf 39) (ck 39) 12 f_noteName)]) [5] rfl
    have hKc := hK.sub (tys' := [((ck 39), .int)]) [4] rfl
    refine vp_callSi (W.runS (As := [.ref (rf 39), .int 0, .int (g 58), .int a1]) (rest := []) ⟨hx, hb, hml, hown, htw⟩ (gq_find12_0 l dC dI (rf 39) (ck 39) f_noteName (g 58) a1 hn10 hn16) (va_cwS 4 htw (xg_S (ck_26 _ (List.mem_of_getElem? (i := 10) rfl)) (ck_26 _ (List.mem_of_getElem? (i := 11) rfl)) (ck_1 _ (List.mem_of_getElem? (i := 5) rfl)) (ck_26 _ (List.mem_of_getElem? (i := 12) rfl))) rfl rfl rfl (by exact ⟨hdc_14.1, hdc_14.2, hdd_39⟩) ⟨Nat.le_of_ble_eq_true rfl, Nat.le_of_ble_eq_true rfl⟩) ⟨fun a U g mk q => by obtain ⟨q0, qP, qK⟩ := q; exact ⟨q0, qP, va_K.moved (u := U) (U := U.calling g mk a) (Vm.Alike.refl U.vm) qK⟩, fun U hU hW => ⟨rfl, by rw [hU]; exact hPc, va_K.moved hW.alike hKc⟩⟩ rfl rfl hl.1 rfl (lv_room (Nat.le_of_ble_eq_true rfl)) dX12_named_106 ⟨Nat.le_of_ble_eq_true rfl, Nat.le_of_ble_eq_true rfl⟩) (fun r_18 hw => ?_)
    try dsimp only at hw
    obtain ⟨hw, hp_19, hp_20⟩ := hw
    have hq_r_18 : r_18 = (fq_find12_0 f_noteName (g 58) a1) := hw
    refine W.widen (k := 0) (n := 0) (by omega) (by omega) ?_
    have hP9 := hP
    have hD9 := hD
    have hK9 := hK.sub (tys' := []) [] rfl
    exact W.iret (v := r_18) hx hb hr (fun t ht hW => ⟨⟨r_18, 0, rfl, ((fun e9 => ⟨by rw [e9], by rw [e9]⟩ : fq_named f_landName f_feastName f_personName f_deedName f_noteName (4 : Int32) a1 (g 12) (g 13) (g 14) (g 15) (g 58) = (r_18, (0 : Int32)) → _) ((by rw [fq_named]; (try rw [if_neg h_1]); (try rw [if_neg h_5]); (try rw [if_neg h_9]); (try rw [if_neg h_13]); (try rw [if_pos rfl]); (try rw [← hq_r_18]); (try rw [xL_eq]); try rfl))), by rw [ht]; exact hP9, va_K.moved hW.alike hK9, hD9⟩, hS.F ht⟩) hS.2.2 dX12_named_109
  refine lv_tableOut (tgt := 110) hx hb dX12_named_6 (by have a0 := xg_ne h_1; have a1 := xg_ne h_5; have a2 := xg_ne h_9; have a3 := xg_ne h_13; have a4 := xg_ne h_17; have b0 : (0 : Int32).toInt = 0 := rfl; have b1 : (1 : Int32).toInt = 1 := rfl; have b2 : (2 : Int32).toInt = 2 := rfl; have b3 : (3 : Int32).toInt = 3 := rfl; have b4 : (4 : Int32).toInt = 4 := rfl; omega) (by decide) ?_
  refine lv_iconst (v := (-1)) hx hb dX12_named_110 (by decide) ?_
  refine W.widen (k := 0) (n := 0) (by omega) (by omega) ?_
  have hP9 := hP
  have hD9 := hD
  have hK9 := hK.sub (tys' := []) [] rfl
  exact W.iret (v := (-1)) hx hb hr (fun t ht hW => ⟨⟨(-1), 0, rfl, ((fun e9 => ⟨by rw [e9], by rw [e9]⟩ : fq_named f_landName f_feastName f_personName f_deedName f_noteName a0 a1 (g 12) (g 13) (g 14) (g 15) (g 58) = ((-1 : Int32), (0 : Int32)) → _) ((by rw [fq_named]; (try rw [if_neg h_1]); (try rw [if_neg h_5]); (try rw [if_neg h_9]); (try rw [if_neg h_13]); (try rw [if_neg h_17]); try rfl))), by rw [ht]; exact hP9, va_K.moved hW.alike hK9, hD9⟩, hS.F ht⟩) hS.2.2 dX12_named_111

def fq_undo (f_noteHas : Nat → Int32) (f_undo : Nat → Int32) (m_notes : Int32) (m_undos : Int32) : Int32 × (Int32) × (Int32) × (Nat → Int32) × (Int32) := (if m_undos = 0 then ((-1 : Int32), (0 : Int32), m_undos, f_noteHas, m_notes) else (if 0 ≤ f_undo ((m_undos - 1).toNatClampNeg) then ((m_undos - 1), (0 : Int32), (m_undos - 1), (upd f_noteHas (((11 * m_notes) - 11).toNatClampNeg) ((f_noteHas (((11 * m_notes) - 11).toNatClampNeg)) &&& ((1 <<< ((f_undo ((m_undos - 1).toNatClampNeg)) &&& 31)) ^^^ (-1)))), m_notes) else ((m_undos - 1), (0 : Int32), (m_undos - 1), f_noteHas, (m_notes - 1))))
theorem gq_undo_s0 {y0 : Int32} (h0 : ¬ (y0 = 0)) (h1 : ¬ (y0 < 0)) (h2 : y0 ≤ 128) : ¬ ((y0 - 1) < 0) ∧ ¬ (128 ≤ (y0 - 1)) := by lia
theorem gq_undo_s1 {y0 : Int32} (h0 : ¬ (y0 < 1)) (h1 : y0 ≤ 12) : ¬ (y0 < 1) ∧ y0 ≤ 12 := ⟨h0, h1⟩
theorem gq_undo_s2 {y0 : Int32} (h0 : ¬ (y0 = 0)) (h1 : ¬ (y0 < 0)) (h2 : y0 ≤ 128) : ¬ ((y0 - 1) < 0) ∧ ¬ (128 ≤ (y0 - 1)) := by lia
theorem gq_undo_s3 {y0 : Int32} (h0 : ¬ (y0 < 1)) (h1 : y0 ≤ 12) : ¬ (y0 < 1) ∧ y0 ≤ 12 := ⟨h0, h1⟩
theorem dX12_undo_0 : decode cX12_undo 0 = .ok (.aload_n 0, 1) := zk_42 (by decide +kernel)
theorem dX12_undo_1 : decode cX12_undo 1 = .ok (.iconst 0, 1) := zk_3 (by decide +kernel)
theorem dX12_undo_2 : decode cX12_undo 2 = .ok (.putfield 119, 3) := zk_181 (by decide +kernel)
theorem dX12_undo_5 : decode cX12_undo 5 = .ok (.aload_n 0, 1) := zk_42 (by decide +kernel)
theorem dX12_undo_6 : decode cX12_undo 6 = .ok (.getfield 249, 3) := zk_180 (by decide +kernel)
theorem dX12_undo_9 : decode cX12_undo 9 = .ok (.ifCond .ne 5, 3) := zk_154 (by decide +kernel)
theorem dX12_undo_14 : decode cX12_undo 14 = .ok (.aload_n 0, 1) := zk_42 (by decide +kernel)
theorem dX12_undo_15 : decode cX12_undo 15 = .ok (.dup, 1) := zk_89 (by decide +kernel)
theorem dX12_undo_16 : decode cX12_undo 16 = .ok (.getfield 249, 3) := zk_180 (by decide +kernel)
theorem dX12_undo_19 : decode cX12_undo 19 = .ok (.iconst 1, 1) := zk_4 (by decide +kernel)
theorem dX12_undo_20 : decode cX12_undo 20 = .ok (.isub, 1) := zk_100 (by decide +kernel)
theorem dX12_undo_21 : decode cX12_undo 21 = .ok (.putfield 249, 3) := zk_181 (by decide +kernel)
theorem dX12_undo_24 : decode cX12_undo 24 = .ok (.aload_n 0, 1) := zk_42 (by decide +kernel)
theorem dX12_undo_25 : decode cX12_undo 25 = .ok (.getfield 84, 3) := zk_180 (by decide +kernel)
theorem dX12_undo_28 : decode cX12_undo 28 = .ok (.aload_n 0, 1) := zk_42 (by decide +kernel)
theorem dX12_undo_29 : decode cX12_undo 29 = .ok (.getfield 249, 3) := zk_180 (by decide +kernel)
theorem dX12_undo_32 : decode cX12_undo 32 = .ok (.iaload, 1) := zk_46 (by decide +kernel)
theorem dX12_undo_33 : decode cX12_undo 33 = .ok (.ifCond .ge 16, 3) := zk_156 (by decide +kernel)
theorem dX12_undo_49 : decode cX12_undo 49 = .ok (.aload_n 0, 1) := zk_42 (by decide +kernel)
theorem dX12_undo_50 : decode cX12_undo 50 = .ok (.getfield 60, 3) := zk_180 (by decide +kernel)
theorem dX12_undo_53 : decode cX12_undo 53 = .ok (.bipush 11, 2) := zk_16 (by decide +kernel)
theorem dX12_undo_55 : decode cX12_undo 55 = .ok (.aload_n 0, 1) := zk_42 (by decide +kernel)
theorem dX12_undo_56 : decode cX12_undo 56 = .ok (.getfield 229, 3) := zk_180 (by decide +kernel)
theorem dX12_undo_59 : decode cX12_undo 59 = .ok (.imul, 1) := zk_104 (by decide +kernel)
theorem dX12_undo_60 : decode cX12_undo 60 = .ok (.bipush 11, 2) := zk_16 (by decide +kernel)
theorem dX12_undo_62 : decode cX12_undo 62 = .ok (.isub, 1) := zk_100 (by decide +kernel)
theorem dX12_undo_63 : decode cX12_undo 63 = .ok (.dup2, 1) := zk_92 (by decide +kernel)
theorem dX12_undo_64 : decode cX12_undo 64 = .ok (.iaload, 1) := zk_46 (by decide +kernel)
theorem dX12_undo_65 : decode cX12_undo 65 = .ok (.iconst 1, 1) := zk_4 (by decide +kernel)
theorem dX12_undo_66 : decode cX12_undo 66 = .ok (.aload_n 0, 1) := zk_42 (by decide +kernel)
theorem dX12_undo_67 : decode cX12_undo 67 = .ok (.getfield 84, 3) := zk_180 (by decide +kernel)
theorem dX12_undo_70 : decode cX12_undo 70 = .ok (.aload_n 0, 1) := zk_42 (by decide +kernel)
theorem dX12_undo_71 : decode cX12_undo 71 = .ok (.getfield 249, 3) := zk_180 (by decide +kernel)
theorem dX12_undo_74 : decode cX12_undo 74 = .ok (.iaload, 1) := zk_46 (by decide +kernel)
theorem dX12_undo_75 : decode cX12_undo 75 = .ok (.ishl, 1) := zk_120 (by decide +kernel)
theorem dX12_undo_76 : decode cX12_undo 76 = .ok (.iconst (-1), 1) := zk_2 (by decide +kernel)
theorem dX12_undo_77 : decode cX12_undo 77 = .ok (.ixor, 1) := zk_130 (by decide +kernel)
theorem dX12_undo_78 : decode cX12_undo 78 = .ok (.iand, 1) := zk_126 (by decide +kernel)
theorem dX12_undo_79 : decode cX12_undo 79 = .ok (.iastore, 1) := zk_79 (by decide +kernel)
theorem dX12_undo_80 : decode cX12_undo 80 = .ok (.aload_n 0, 1) := zk_42 (by decide +kernel)
theorem dX12_undo_81 : decode cX12_undo 81 = .ok (.getfield 249, 3) := zk_180 (by decide +kernel)
theorem dX12_undo_84 : decode cX12_undo 84 = .ok (.ireturn, 1) := zk_172 (by decide +kernel)
theorem dX12_undo_36 : decode cX12_undo 36 = .ok (.aload_n 0, 1) := zk_42 (by decide +kernel)
theorem dX12_undo_37 : decode cX12_undo 37 = .ok (.dup, 1) := zk_89 (by decide +kernel)
theorem dX12_undo_38 : decode cX12_undo 38 = .ok (.getfield 229, 3) := zk_180 (by decide +kernel)
theorem dX12_undo_41 : decode cX12_undo 41 = .ok (.iconst 1, 1) := zk_4 (by decide +kernel)
theorem dX12_undo_42 : decode cX12_undo 42 = .ok (.isub, 1) := zk_100 (by decide +kernel)
theorem dX12_undo_43 : decode cX12_undo 43 = .ok (.putfield 229, 3) := zk_181 (by decide +kernel)
theorem dX12_undo_46 : decode cX12_undo 46 = .ok (.goto 34, 3) := zk_167 (by decide +kernel)
theorem dX12_undo_12 : decode cX12_undo 12 = .ok (.iconst (-1), 1) := zk_2 (by decide +kernel)
theorem dX12_undo_13 : decode cX12_undo 13 = .ok (.ireturn, 1) := zk_172 (by decide +kernel)
set_option maxHeartbeats 4000000 in
set_option maxRecDepth 100000 in
theorem gq_undo (l : Launch) (dC : Nat → ClassId) (dI : Nat → Nat → Nat) (mq : Nat) (g : Nat → Int32) (gl : Nat → Int64) (rf : Nat → Nat) (ck : Nat → ClassId) (f_noteHas : Nat → Int32) (f_undo : Nat → Int32) (sz : Nat) (hun0 : ¬ (g 59) < 0) (hun8 : (g 59) ≤ 128) (hnu : (g 59) = 0 ∨ ¬ (g 16) < 1) (hnt2 : (g 16) ≤ 12) : Met l yX12_undo (Cond.code yX12_undo cX12_undo 1 (some .int) :: wsL_law) ({ frames := 0, cells := 0, slots := 0, locals := 0 }) (va_Pc [.ref mq] (fun U => U.heap.size = sz ∧ va_P (dC, dI) vwCl [(mq, .inr (12, mF g gl rf)), (eA0 (rf 40) (ck 40) 264 f_noteHas), (eA0 (rf 60) (ck 60) 128 f_undo)] U.heap ∧ va_K (dC, dI) vwCl [((ck 40), .int), ((ck 60), .int)] U ∧ va_D (fun _ => True) [(mq, .inr (12, mF g gl rf)), (eA0 (rf 40) (ck 40) 264 f_noteHas), (eA0 (rf 60) (ck 60) 128 f_undo)])) (va_Qi (fun (r : Int32) (u : (Int32) × (Int32) × (Nat → Int32) × (Int32)) => r = (fq_undo f_noteHas f_undo (g 16) (g 59)).1 ∧ u = (fq_undo f_noteHas f_undo (g 16) (g 59)).2) (fun (u : (Int32) × (Int32) × (Nat → Int32) × (Int32)) t => va_P (dC, dI) vwCl [(mq, .inr (12, mF (upd (upd (upd g 2 u.1) 16 u.2.2.2) 59 u.2.1) gl rf)), (eA0 (rf 40) (ck 40) 264 u.2.2.1), (eA0 (rf 60) (ck 60) 128 f_undo)] t.heap ∧ va_K (dC, dI) vwCl [] t ∧ va_D (va_A [(mq, .inr (12, mF g gl rf)), (eA0 (rf 40) (ck 40) 264 f_noteHas), (eA0 (rf 60) (ck 60) 128 f_undo)] sz) [(mq, .inr (12, mF (upd (upd (upd g 2 u.1) 16 u.2.2.2) 59 u.2.1) gl rf)), (eA0 (rf 40) (ck 40) 264 u.2.2.1), (eA0 (rf 60) (ck 60) 128 f_undo)]) (va_A [(mq, .inr (12, mF g gl rf)), (eA0 (rf 40) (ck 40) 264 f_noteHas), (eA0 (rf 60) (ck 60) 128 f_undo)] sz)) 0 0 (va_A [(mq, .inr (12, mF g gl rf)), (eA0 (rf 40) (ck 40) 264 f_noteHas), (eA0 (rf 60) (ck 60) 128 f_undo)] sz) := by
  refine Met.ofW (cc := cX12_undo) (maxL := 1) (ret := (some .int)) (by decide) rfl ?_
  intro p e s m args below meth c s₁ B hml hv
  obtain ⟨rfl, hsz, hP, hK, hD0⟩ := hv
  have hx := B.exec
  have hb := B.bytes
  have hr := B.returns
  have hts := atoms_spec (ws := Cond.code yX12_undo cX12_undo 1 (some .int) :: wsL_law) B.pre
  have htw : ∀ w ∈ wsL_law, w.before _ s = true := fun w h => hts w (List.mem_cons_of_mem _ h)
  have hown : s.vm.findClass RX12 = some m.cls := findClass_of_methodNamed B.named
  have hlocks := B.notSynchronized
  subst hsz
  have hD := hD0.self (sz := s.heap.size)
  generalize hAe : va_A [(mq, .inr (12, mF g gl rf)), (eA0 (rf 40) (ck 40) 264 f_noteHas), (eA0 (rf 60) (ck 60) 128 f_undo)] s.heap.size = A at hD ⊢
  have hA : ∀ q : Nat, s.heap.size ≤ q → A q := fun q h => by rw [← hAe]; exact Or.inr h
  obtain ⟨H, rH⟩ : ∃ z : Heap, z = s.heap := ⟨_, rfl⟩
  have hS : va_S A s.heap H [] := by rw [rH]; exact va_S.rf
  have hP : va_P (dC, dI) vwCl [(mq, .inr (12, mF g gl rf)), (eA0 (rf 40) (ck 40) 264 f_noteHas), (eA0 (rf 60) (ck 60) 128 f_undo)] H := by rw [rH]; exact hP
  rw [← rH]
  have hl := lv_entry ([.ref mq]) (n := 1) (Nat.le_of_ble_eq_true rfl)
  rw [lg_entry_eq]
  generalize (lg_sl ([.ref mq]) ++ List.replicate (1 - (lg_sl ([.ref mq])).length) Slot.unset).toArray = ls at hl ⊢
  have hl : lv_has ls 1 [(0, .ref mq)] := hl
  refine lv_aload_n hx hb dX12_undo_0 rfl (lv_at hl 0 rfl) ?_
  refine lv_iconst (v := 0) hx hb dX12_undo_1 (by decide) ?_
  refine va_put (D := (dC, dI)) (ci := 12) (v := .int 0) (ty := tyX12 2) (C := RX12) (T := TX12) (N := 76) hx hb htw inlX12 tyX12 tyX12_ok nmX12 hown hK hP hD hS 0 rfl rfl 2 (by decide) (htw _ (ck_12 _ (List.mem_of_getElem? (i := 16) rfl))) (fun _ h9 => h9) rfl (tyX12_ok 2 (by decide)) rfl rfl (Nat.le_of_ble_eq_true rfl) dX12_undo_2 (fun H locs hP hD hS => ?_)
  obtain ⟨hP, hD⟩ := zre [(mq, .inr (12, mF (upd g 2 0) gl rf)), (eA0 (rf 40) (ck 40) 264 f_noteHas), (eA0 (rf 60) (ck 60) 128 f_undo)] hP hD rfl
  refine lv_aload_n hx hb dX12_undo_5 rfl (lv_at hl 0 rfl) ?_
  refine va_get (D := (dC, dI)) (ci := 12) (v := .int (g 59)) (C := RX12) (T := TX12) (N := 76) hx hb htw inlX12 hown hK hP 0 rfl rfl 59 (by decide) (htw _ (ck_11 _ (List.mem_of_getElem? (i := 17) rfl))) (fun _ h9 => h9) rfl dX12_undo_6 ?_
  refine lv_if_ne (tgt := 14) hx hb dX12_undo_9 (by decide) (fun c_1 => ?_) (fun c_1 => ?_)
  · refine lv_aload_n hx hb dX12_undo_14 rfl (lv_at hl 0 rfl) ?_
    refine lv_dup hx hb dX12_undo_15 rfl ?_
    refine va_get (D := (dC, dI)) (ci := 12) (v := .int (g 59)) (C := RX12) (T := TX12) (N := 76) hx hb htw inlX12 hown hK hP 0 rfl rfl 59 (by decide) (htw _ (ck_11 _ (List.mem_of_getElem? (i := 17) rfl))) (fun _ h9 => h9) rfl dX12_undo_16 ?_
    refine lv_iconst (v := 1) hx hb dX12_undo_19 (by decide) ?_
    refine lv_isub hx hb dX12_undo_20 ?_
    refine va_put (D := (dC, dI)) (ci := 12) (v := .int ((g 59) - 1)) (ty := tyX12 59) (C := RX12) (T := TX12) (N := 76) hx hb htw inlX12 tyX12 tyX12_ok nmX12 hown hK hP hD hS 0 rfl rfl 59 (by decide) (htw _ (ck_11 _ (List.mem_of_getElem? (i := 17) rfl))) (fun _ h9 => h9) rfl (tyX12_ok 59 (by decide)) rfl rfl (Nat.le_of_ble_eq_true rfl) dX12_undo_21 (fun H locs hP hD hS => ?_)
    have hP : va_P (dC, dI) vwCl [(mq, .inr (12, mF (upd (upd g 2 0) 59 ((g 59) - 1)) gl rf)), (eA0 (rf 40) (ck 40) 264 f_noteHas), (eA0 (rf 60) (ck 60) 128 f_undo)] H := hP
    have hD : va_D A [(mq, .inr (12, mF (upd (upd g 2 0) 59 ((g 59) - 1)) gl rf)), (eA0 (rf 40) (ck 40) 264 f_noteHas), (eA0 (rf 60) (ck 60) 128 f_undo)] := hD
    refine lv_aload_n hx hb dX12_undo_24 rfl (lv_at hl 0 rfl) ?_
    refine va_get (D := (dC, dI)) (ci := 12) (v := .ref (rf 60)) (C := RX12) (T := TX12) (N := 76) hx hb htw inlX12 hown hK hP 0 rfl rfl 60 (by decide) (htw _ (ck_10 _ (List.mem_of_getElem? (i := 4) rfl))) (fun _ h9 => h9) rfl dX12_undo_25 ?_
    refine lv_aload_n hx hb dX12_undo_28 rfl (lv_at hl 0 rfl) ?_
    refine va_get (D := (dC, dI)) (ci := 12) (v := .int ((g 59) - 1)) (C := RX12) (T := TX12) (N := 76) hx hb htw inlX12 hown hK hP 0 rfl rfl 59 (by decide) (htw _ (ck_11 _ (List.mem_of_getElem? (i := 17) rfl))) (fun _ h9 => h9) rfl dX12_undo_29 ?_
    refine va_iald hx hb hK hP 2 1 rfl rfl (xg_inr (N := 128) rfl (gq_undo_s0 (y0 := g 59) c_1 hun0 hun8).1 (gq_undo_s0 (y0 := g 59) c_1 hun0 hun8).2) dX12_undo_32 ?_
    refine lv_if_ge (tgt := 49) hx hb dX12_undo_33 (by decide) (fun c_2 => ?_) (fun c_2 => ?_)
    · refine lv_aload_n hx hb dX12_undo_49 rfl (lv_at hl 0 rfl) ?_
      refine va_get (D := (dC, dI)) (ci := 12) (v := .ref (rf 40)) (C := RX12) (T := TX12) (N := 76) hx hb htw inlX12 hown hK hP 0 rfl rfl 40 (by decide) (htw _ (ck_9 _ (List.mem_of_getElem? (i := 20) rfl))) (fun _ h9 => h9) rfl dX12_undo_50 ?_
      refine lv_bipush (v := 11) hx hb dX12_undo_53 (by decide) ?_
      refine lv_aload_n hx hb dX12_undo_55 rfl (lv_at hl 0 rfl) ?_
      refine va_get (D := (dC, dI)) (ci := 12) (v := .int (g 16)) (C := RX12) (T := TX12) (N := 76) hx hb htw inlX12 hown hK hP 0 rfl rfl 16 (by decide) (htw _ (ck_11 _ (List.mem_of_getElem? (i := 13) rfl))) (fun _ h9 => h9) rfl dX12_undo_56 ?_
      refine lv_imul hx hb dX12_undo_59 ?_
      refine lv_bipush (v := 11) hx hb dX12_undo_60 (by decide) ?_
      refine lv_isub hx hb dX12_undo_62 ?_
      refine lv_dup2_11 hx hb dX12_undo_63 rfl rfl ?_
      refine va_iald hx hb hK hP 1 0 rfl rfl (xn_c (gq_undo_s1 (y0 := g 16) (hnu.resolve_left c_1) hnt2).1 (gq_undo_s1 (y0 := g 16) (hnu.resolve_left c_1) hnt2).2) dX12_undo_64 ?_
      refine lv_iconst (v := 1) hx hb dX12_undo_65 (by decide) ?_
      refine lv_aload_n hx hb dX12_undo_66 rfl (lv_at hl 0 rfl) ?_
      refine va_get (D := (dC, dI)) (ci := 12) (v := .ref (rf 60)) (C := RX12) (T := TX12) (N := 76) hx hb htw inlX12 hown hK hP 0 rfl rfl 60 (by decide) (htw _ (ck_10 _ (List.mem_of_getElem? (i := 4) rfl))) (fun _ h9 => h9) rfl dX12_undo_67 ?_
      refine lv_aload_n hx hb dX12_undo_70 rfl (lv_at hl 0 rfl) ?_
      refine va_get (D := (dC, dI)) (ci := 12) (v := .int ((g 59) - 1)) (C := RX12) (T := TX12) (N := 76) hx hb htw inlX12 hown hK hP 0 rfl rfl 59 (by decide) (htw _ (ck_11 _ (List.mem_of_getElem? (i := 17) rfl))) (fun _ h9 => h9) rfl dX12_undo_71 ?_
      refine va_iald hx hb hK hP 2 1 rfl rfl (xg_inr (N := 128) rfl (gq_undo_s2 (y0 := g 59) c_1 hun0 hun8).1 (gq_undo_s2 (y0 := g 59) c_1 hun0 hun8).2) dX12_undo_74 ?_
      refine lv_ishl hx hb dX12_undo_75 ?_
      refine lv_iconst (v := (-1)) hx hb dX12_undo_76 (by decide) ?_
      refine lv_ixor hx hb dX12_undo_77 ?_
      refine lv_iand hx hb dX12_undo_78 ?_
      refine va_iast hx hb hK hP hD hS 1 0 rfl rfl (xn_c (gq_undo_s3 (y0 := g 16) (hnu.resolve_left c_1) hnt2).1 (gq_undo_s3 (y0 := g 16) (hnu.resolve_left c_1) hnt2).2) dX12_undo_79 (fun H locs hP hD hS => ?_)
      have hP : va_P (dC, dI) vwCl [(mq, .inr (12, mF (upd (upd g 2 0) 59 ((g 59) - 1)) gl rf)), (eA0 (rf 40) (ck 40) 264 (upd f_noteHas (((11 * (g 16)) - 11).toNatClampNeg) ((f_noteHas (((11 * (g 16)) - 11).toNatClampNeg)) &&& ((1 <<< ((f_undo (((g 59) - 1).toNatClampNeg)) &&& 31)) ^^^ (-1))))), (eA0 (rf 60) (ck 60) 128 f_undo)] H := hP
      have hD : va_D A [(mq, .inr (12, mF (upd (upd g 2 0) 59 ((g 59) - 1)) gl rf)), (eA0 (rf 40) (ck 40) 264 (upd f_noteHas (((11 * (g 16)) - 11).toNatClampNeg) ((f_noteHas (((11 * (g 16)) - 11).toNatClampNeg)) &&& ((1 <<< ((f_undo (((g 59) - 1).toNatClampNeg)) &&& 31)) ^^^ (-1))))), (eA0 (rf 60) (ck 60) 128 f_undo)] := hD
      refine lv_aload_n hx hb dX12_undo_80 rfl (lv_at hl 0 rfl) ?_
      refine va_get (D := (dC, dI)) (ci := 12) (v := .int ((g 59) - 1)) (C := RX12) (T := TX12) (N := 76) hx hb htw inlX12 hown hK hP 0 rfl rfl 59 (by decide) (htw _ (ck_11 _ (List.mem_of_getElem? (i := 17) rfl))) (fun _ h9 => h9) rfl dX12_undo_81 ?_
      refine W.widen (k := 0) (n := 0) (by omega) (by omega) ?_
      have hP9 := hP
      have hD9 := hD
      have hK9 := hK.sub (tys' := []) [] rfl
      exact W.iret (v := ((g 59) - 1)) hx hb hr (fun t ht hW => ⟨⟨((g 59) - 1), (0, ((g 59) - 1), (upd f_noteHas (((11 * (g 16)) - 11).toNatClampNeg) ((f_noteHas (((11 * (g 16)) - 11).toNatClampNeg)) &&& ((1 <<< ((f_undo (((g 59) - 1).toNatClampNeg)) &&& 31)) ^^^ (-1)))), (g 16)), rfl, ((fun e9 => ⟨by rw [e9], by rw [e9]⟩ : fq_undo f_noteHas f_undo (g 16) (g 59) = (((g 59) - 1), (0 : Int32), ((g 59) - 1), (upd f_noteHas (((11 * (g 16)) - 11).toNatClampNeg) ((f_noteHas (((11 * (g 16)) - 11).toNatClampNeg)) &&& ((1 <<< ((f_undo (((g 59) - 1).toNatClampNeg)) &&& 31)) ^^^ (-1)))), (g 16)) → _) ((by rw [fq_undo]; (try rw [if_neg c_1]); (try rw [if_pos c_2]); try rfl))), by rw [ht]; exact hP9, va_K.moved hW.alike hK9, hD9⟩, hS.F ht⟩) hS.2.2 dX12_undo_84
    · refine lv_aload_n hx hb dX12_undo_36 rfl (lv_at hl 0 rfl) ?_
      refine lv_dup hx hb dX12_undo_37 rfl ?_
      refine va_get (D := (dC, dI)) (ci := 12) (v := .int (g 16)) (C := RX12) (T := TX12) (N := 76) hx hb htw inlX12 hown hK hP 0 rfl rfl 16 (by decide) (htw _ (ck_11 _ (List.mem_of_getElem? (i := 13) rfl))) (fun _ h9 => h9) rfl dX12_undo_38 ?_
      refine lv_iconst (v := 1) hx hb dX12_undo_41 (by decide) ?_
      refine lv_isub hx hb dX12_undo_42 ?_
      refine va_put (D := (dC, dI)) (ci := 12) (v := .int ((g 16) - 1)) (ty := tyX12 16) (C := RX12) (T := TX12) (N := 76) hx hb htw inlX12 tyX12 tyX12_ok nmX12 hown hK hP hD hS 0 rfl rfl 16 (by decide) (htw _ (ck_11 _ (List.mem_of_getElem? (i := 13) rfl))) (fun _ h9 => h9) rfl (tyX12_ok 16 (by decide)) rfl rfl (Nat.le_of_ble_eq_true rfl) dX12_undo_43 (fun H locs hP hD hS => ?_)
      have hP : va_P (dC, dI) vwCl [(mq, .inr (12, mF (upd (upd (upd g 2 0) 16 ((g 16) - 1)) 59 ((g 59) - 1)) gl rf)), (eA0 (rf 40) (ck 40) 264 f_noteHas), (eA0 (rf 60) (ck 60) 128 f_undo)] H := hP
      have hD : va_D A [(mq, .inr (12, mF (upd (upd (upd g 2 0) 16 ((g 16) - 1)) 59 ((g 59) - 1)) gl rf)), (eA0 (rf 40) (ck 40) 264 f_noteHas), (eA0 (rf 60) (ck 60) 128 f_undo)] := hD
      refine lv_goto (tgt := 80) hx hb dX12_undo_46 (by decide) ?_
      refine lv_aload_n hx hb dX12_undo_80 rfl (lv_at hl 0 rfl) ?_
      refine va_get (D := (dC, dI)) (ci := 12) (v := .int ((g 59) - 1)) (C := RX12) (T := TX12) (N := 76) hx hb htw inlX12 hown hK hP 0 rfl rfl 59 (by decide) (htw _ (ck_11 _ (List.mem_of_getElem? (i := 17) rfl))) (fun _ h9 => h9) rfl dX12_undo_81 ?_
      refine W.widen (k := 0) (n := 0) (by omega) (by omega) ?_
      have hP9 := hP
      have hD9 := hD
      have hK9 := hK.sub (tys' := []) [] rfl
      exact W.iret (v := ((g 59) - 1)) hx hb hr (fun t ht hW => ⟨⟨((g 59) - 1), (0, ((g 59) - 1), f_noteHas, ((g 16) - 1)), rfl, ((fun e9 => ⟨by rw [e9], by rw [e9]⟩ : fq_undo f_noteHas f_undo (g 16) (g 59) = (((g 59) - 1), (0 : Int32), ((g 59) - 1), f_noteHas, ((g 16) - 1)) → _) ((by rw [fq_undo]; (try rw [if_neg c_1]); (try rw [if_neg c_2]); try rfl))), by rw [ht]; exact hP9, va_K.moved hW.alike hK9, hD9⟩, hS.F ht⟩) hS.2.2 dX12_undo_84
  · refine lv_iconst (v := (-1)) hx hb dX12_undo_12 (by decide) ?_
    refine W.widen (k := 0) (n := 0) (by omega) (by omega) ?_
    obtain ⟨hP9, hD9⟩ := zsub2 (ws' := [(mq, .inr (12, mF (upd g 2 0) gl rf)), (eA0 (rf 40) (ck 40) 264 f_noteHas), (eA0 (rf 60) (ck 60) 128 f_undo)]) hP hD [0, 1, 2] (by decide) rfl
    have hK9 := hK.sub (tys' := []) [] rfl
    exact W.iret (v := (-1)) hx hb hr (fun t ht hW => ⟨⟨(-1), (0, (g 59), f_noteHas, (g 16)), rfl, ((fun e9 => ⟨by rw [e9], by rw [e9]⟩ : fq_undo f_noteHas f_undo (g 16) (g 59) = ((-1 : Int32), (0 : Int32), (g 59), f_noteHas, (g 16)) → _) ((by rw [fq_undo]; (try rw [if_pos c_1]); try rfl))), by rw [ht]; exact hP9, va_K.moved hW.alike hK9, hD9⟩, hS.F ht⟩) hS.2.2 dX12_undo_13
