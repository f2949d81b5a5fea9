def fq_parts_d (f_landHas : Nat → Int32) (a0 : Int32) (a1 : Int32) (a2 : Int32) : Nat → (Int32) → (Int32) → (Int32) → Int32 × (Int32)
  | 0, L4d, L5d, L6d => (if a2 = 0 then (L4d, (0 : Int32)) else (L5d, (0 : Int32)))
  | n + 1, L4d, L5d, L6d => (if 100 ≤ L6d then (if a2 = 0 then (L4d, (0 : Int32)) else (L5d, (0 : Int32))) else (xL ((fq_lengthOf f_landHas a0 a1.toInt64)) (fun r_16 => (if lg_cmp (r_16 - r_16 / L6d.toInt64 * L6d.toInt64) 0 = 0 then fq_parts_d f_landHas a0 a1 a2 n (L4d + 1) L6d (L6d + 1) else fq_parts_d f_landHas a0 a1 a2 n L4d L5d (L6d + 1)))))
def fq_parts (f_landHas : Nat → Int32) (a0 : Int32) (a1 : Int32) (a2 : Int32) (m_lands : Int32) : Int32 × (Int32) := (xL ((fq_isLand a0 m_lands)) (fun r_1 => (if r_1 = 0 then ((-1 : Int32), (0 : Int32)) else (xL ((fq_isAsked f_landHas a0 a1.toInt64)) (fun r_5 => (if r_5 = 0 then ((-1 : Int32), (0 : Int32)) else (xL ((fq_isIn a2 (0 : Int32) (1 : Int32))) (fun r_7 => (if r_7 = 0 then ((-1 : Int32), (0 : Int32)) else fq_parts_d f_landHas a0 a1 a2 99 (0 : Int32) (0 : Int32) (1 : Int32))))))))))
theorem gq_parts_s0 {y0 : Int32} {y1 : Int32} (h0 : ¬ (y0 < 0)) (h1 : y0 < y1) (h2 : ¬ (y1 < 0)) (h3 : y1 ≤ 4) : ¬ (y0 < 0) := h0
theorem gq_parts_s1 {y0 : Int32} {y1 : Int32} (h0 : ¬ (y0 < 0)) (h1 : y0 < y1) (h2 : ¬ (y1 < 0)) (h3 : y1 ≤ 4) : y0 ≤ 7 := by lia
theorem gq_parts_s2 {y0 : Int32} {y1 : Int32} (h0 : ¬ (y0 < 0)) (h1 : y0 < y1) (h2 : ¬ (y1 < 0)) (h3 : y1 ≤ 4) : ¬ (y0 < 0) := h0
theorem gq_parts_s3 {y0 : Int32} {y1 : Int32} (h0 : ¬ (y0 < 0)) (h1 : y0 < y1) (h2 : ¬ (y1 < 0)) (h3 : y1 ≤ 4) : y0 ≤ 7 := by lia
theorem gq_parts_s4 {y0 : Int32} (h0 : ¬ (100 ≤ y0)) (h1 : ¬ (y0 < 1)) : ¬ (y0 = 0) := by lia
theorem gq_parts_s5 {y0 : Int32} (h0 : ¬ (100 ≤ y0)) (h1 : ¬ (y0 < 1)) : ¬ ((y0 + 1) < 1) := by lia
theorem gq_parts_s6 {y0 : Int32} (h0 : ¬ (100 ≤ y0)) (h1 : ¬ (y0 < 1)) : ¬ ((y0 + 1) < 1) := by lia
theorem gq_parts_s7  : ¬ ((1 : Int32) < 1) := (by decide)
theorem dX12_parts_0 : decode cX12_parts 0 = .ok (.aload_n 0, 1) := zk_42 (by decide +kernel)
theorem dX12_parts_1 : decode cX12_parts 1 = .ok (.iconst 0, 1) := zk_3 (by decide +kernel)
theorem dX12_parts_2 : decode cX12_parts 2 = .ok (.putfield 119, 3) := zk_181 (by decide +kernel)
theorem dX12_parts_5 : decode cX12_parts 5 = .ok (.aload_n 0, 1) := zk_42 (by decide +kernel)
theorem dX12_parts_6 : decode cX12_parts 6 = .ok (.iload_n 1, 1) := zk_27 (by decide +kernel)
theorem dX12_parts_7 : decode cX12_parts 7 = .ok (.invokevirtual 404, 3) := zk_182 (by decide +kernel)
theorem dX12_parts_10 : decode cX12_parts 10 = .ok (.ifCond .eq 22, 3) := zk_153 (by decide +kernel)
theorem dX12_parts_32 : decode cX12_parts 32 = .ok (.iconst (-1), 1) := zk_2 (by decide +kernel)
theorem dX12_parts_33 : decode cX12_parts 33 = .ok (.ireturn, 1) := zk_172 (by decide +kernel)
theorem dX12_parts_13 : decode cX12_parts 13 = .ok (.aload_n 0, 1) := zk_42 (by decide +kernel)
theorem dX12_parts_14 : decode cX12_parts 14 = .ok (.iload_n 1, 1) := zk_27 (by decide +kernel)
theorem dX12_parts_15 : decode cX12_parts 15 = .ok (.iload_n 2, 1) := zk_28 (by decide +kernel)
theorem dX12_parts_16 : decode cX12_parts 16 = .ok (.i2l, 1) := zk_133 (by decide +kernel)
theorem dX12_parts_17 : decode cX12_parts 17 = .ok (.invokevirtual 410, 3) := zk_182 (by decide +kernel)
theorem dX12_parts_20 : decode cX12_parts 20 = .ok (.ifCond .eq 12, 3) := zk_153 (by decide +kernel)
theorem dX12_parts_23 : decode cX12_parts 23 = .ok (.iload_n 3, 1) := zk_29 (by decide +kernel)
theorem dX12_parts_24 : decode cX12_parts 24 = .ok (.iconst 0, 1) := zk_3 (by decide +kernel)
theorem dX12_parts_25 : decode cX12_parts 25 = .ok (.iconst 1, 1) := zk_4 (by decide +kernel)
theorem dX12_parts_26 : decode cX12_parts 26 = .ok (.invokestatic 166, 3) := zk_184 (by decide +kernel)
theorem dX12_parts_29 : decode cX12_parts 29 = .ok (.ifCond .ne 5, 3) := zk_154 (by decide +kernel)
theorem dX12_parts_34 : decode cX12_parts 34 = .ok (.iconst 0, 1) := zk_3 (by decide +kernel)
theorem dX12_parts_35 : decode cX12_parts 35 = .ok (.istore 4, 2) := zk_54 (by decide +kernel)
theorem dX12_parts_37 : decode cX12_parts 37 = .ok (.iconst 0, 1) := zk_3 (by decide +kernel)
theorem dX12_parts_38 : decode cX12_parts 38 = .ok (.istore 5, 2) := zk_54 (by decide +kernel)
theorem dX12_parts_40 : decode cX12_parts 40 = .ok (.iconst 1, 1) := zk_4 (by decide +kernel)
theorem dX12_parts_41 : decode cX12_parts 41 = .ok (.istore 6, 2) := zk_54 (by decide +kernel)
theorem dX12_parts_43 : decode cX12_parts 43 = .ok (.iload 6, 2) := zk_21 (by decide +kernel)
theorem dX12_parts_45 : decode cX12_parts 45 = .ok (.bipush 100, 2) := zk_16 (by decide +kernel)
theorem dX12_parts_47 : decode cX12_parts 47 = .ok (.if_icmp .ge 35, 3) := zk_162 (by decide +kernel)
theorem dX12_parts_82 : decode cX12_parts 82 = .ok (.iload_n 3, 1) := zk_29 (by decide +kernel)
theorem dX12_parts_83 : decode cX12_parts 83 = .ok (.ifCond .ne 8, 3) := zk_154 (by decide +kernel)
theorem dX12_parts_91 : decode cX12_parts 91 = .ok (.iload 5, 2) := zk_21 (by decide +kernel)
theorem dX12_parts_93 : decode cX12_parts 93 = .ok (.ireturn, 1) := zk_172 (by decide +kernel)
theorem dX12_parts_86 : decode cX12_parts 86 = .ok (.iload 4, 2) := zk_21 (by decide +kernel)
theorem dX12_parts_88 : decode cX12_parts 88 = .ok (.goto 5, 3) := zk_167 (by decide +kernel)
theorem dX12_parts_50 : decode cX12_parts 50 = .ok (.aload_n 0, 1) := zk_42 (by decide +kernel)
theorem dX12_parts_51 : decode cX12_parts 51 = .ok (.iload_n 1, 1) := zk_27 (by decide +kernel)
theorem dX12_parts_52 : decode cX12_parts 52 = .ok (.iload_n 2, 1) := zk_28 (by decide +kernel)
theorem dX12_parts_53 : decode cX12_parts 53 = .ok (.i2l, 1) := zk_133 (by decide +kernel)
theorem dX12_parts_54 : decode cX12_parts 54 = .ok (.invokevirtual 375, 3) := zk_182 (by decide +kernel)
theorem dX12_parts_57 : decode cX12_parts 57 = .ok (.iload 6, 2) := zk_21 (by decide +kernel)
theorem dX12_parts_59 : decode cX12_parts 59 = .ok (.i2l, 1) := zk_133 (by decide +kernel)
theorem dX12_parts_60 : decode cX12_parts 60 = .ok (.lrem, 1) := zk_113 (by decide +kernel)
theorem dX12_parts_61 : decode cX12_parts 61 = .ok (.lconst 0, 1) := zk_9 (by decide +kernel)
theorem dX12_parts_62 : decode cX12_parts 62 = .ok (.lcmp, 1) := zk_148 (by decide +kernel)
theorem dX12_parts_63 : decode cX12_parts 63 = .ok (.ifCond .eq 6, 3) := zk_153 (by decide +kernel)
theorem dX12_parts_69 : decode cX12_parts 69 = .ok (.iinc 4 1, 3) := zk_132 (by decide +kernel)
theorem dX12_parts_72 : decode cX12_parts 72 = .ok (.iload 6, 2) := zk_21 (by decide +kernel)
theorem dX12_parts_74 : decode cX12_parts 74 = .ok (.istore 5, 2) := zk_54 (by decide +kernel)
theorem dX12_parts_76 : decode cX12_parts 76 = .ok (.iinc 6 1, 3) := zk_132 (by decide +kernel)
theorem dX12_parts_79 : decode cX12_parts 79 = .ok (.goto (-36), 3) := zk_167 (by decide +kernel)
theorem dX12_parts_66 : decode cX12_parts 66 = .ok (.goto 10, 3) := zk_167 (by decide +kernel)
set_option maxHeartbeats 4000000 in
set_option maxRecDepth 100000 in
theorem gq_parts (l : Launch) (dC : Nat → ClassId) (dI : Nat → Nat → Nat) (mq : Nat) (g : Nat → Int32) (gl : Nat → Int64) (rf : Nat → Nat) (ck : Nat → ClassId) (f_landHas : Nat → Int32) (a0 : Int32) (a1 : Int32) (a2 : Int32) (sz : Nat) (hln0 : ¬ (g 12) < 0) (hln4 : (g 12) ≤ 4) : Met l yX12_parts (Cond.code yX12_parts cX12_parts 7 (some .int) :: wsL_law) ({ frames := 3, cells := 0, slots := 0, locals := 69 }) (va_Pc [.ref mq, .int a0, .int a1, .int a2] (fun U => U.heap.size = sz ∧ va_P (dC, dI) vwCl [(mq, .inr (12, mF g gl rf)), (eA0 (rf 29) (ck 29) 24 f_landHas)] U.heap ∧ va_K (dC, dI) vwCl [((ck 29), .int)] U ∧ va_D (fun _ => True) [(mq, .inr (12, mF g gl rf)), (eA0 (rf 29) (ck 29) 24 f_landHas)])) (va_Qi (fun (r : Int32) (u : (Int32)) => r = (fq_parts f_landHas a0 a1 a2 (g 12)).1 ∧ u = (fq_parts f_landHas a0 a1 a2 (g 12)).2) (fun (u : (Int32)) t => va_P (dC, dI) vwCl [(mq, .inr (12, mF (upd g 2 u) gl rf)), (eA0 (rf 29) (ck 29) 24 f_landHas)] t.heap ∧ va_K (dC, dI) vwCl [] t ∧ va_D (va_A [(mq, .inr (12, mF g gl rf)), (eA0 (rf 29) (ck 29) 24 f_landHas)] sz) [(mq, .inr (12, mF (upd g 2 u) gl rf)), (eA0 (rf 29) (ck 29) 24 f_landHas)]) (va_A [(mq, .inr (12, mF g gl rf)), (eA0 (rf 29) (ck 29) 24 f_landHas)] sz)) 0 0 (va_A [(mq, .inr (12, mF g gl rf)), (eA0 (rf 29) (ck 29) 24 f_landHas)] sz) := by
  refine Met.ofW (cc := cX12_parts) (maxL := 7) (ret := (some .int)) (by decide) rfl ?_
  intro p e s m args below meth c s₁ B hml hv
  obtain ⟨rfl, hsz, hP, hK, hD0⟩ := hv
  have hx := B.exec
  have hb := B.bytes
  have hr := B.returns
  have hts := atoms_spec (ws := Cond.code yX12_parts cX12_parts 7 (some .int) :: wsL_law) B.pre
  have htw : ∀ w ∈ wsL_law, w.before _ s = true := fun w h => hts w (List.mem_cons_of_mem _ h)
  have hown : s.vm.findClass RX12 = some m.cls := findClass_of_methodNamed B.named
  have hlocks := B.notSynchronized
  subst hsz
  have hD := hD0.self (sz := s.heap.size)
  generalize hAe : va_A [(mq, .inr (12, mF g gl rf)), (eA0 (rf 29) (ck 29) 24 f_landHas)] s.heap.size = A at hD ⊢
  have hA : ∀ q : Nat, s.heap.size ≤ q → A q := fun q h => by rw [← hAe]; exact Or.inr h
  obtain ⟨H, rH⟩ : ∃ z : Heap, z = s.heap := ⟨_, rfl⟩
  have hS : va_S A s.heap H [] := by rw [rH]; exact va_S.rf
  have hP : va_P (dC, dI) vwCl [(mq, .inr (12, mF g gl rf)), (eA0 (rf 29) (ck 29) 24 f_landHas)] H := by rw [rH]; exact hP
  rw [← rH]
  have hl := lv_entry ([.ref mq, .int a0, .int a1, .int a2]) (n := 7) (Nat.le_of_ble_eq_true rfl)
  rw [lg_entry_eq]
  generalize (lg_sl ([.ref mq, .int a0, .int a1, .int a2]) ++ List.replicate (7 - (lg_sl ([.ref mq, .int a0, .int a1, .int a2])).length) Slot.unset).toArray = ls at hl ⊢
  have hl : lv_has ls 7 [(0, .ref mq), (1, .int a0), (2, .int a1), (3, .int a2)] := hl
  refine lv_aload_n hx hb dX12_parts_0 rfl (lv_at hl 0 rfl) ?_
  refine lv_iconst (v := 0) hx hb dX12_parts_1 (by decide) ?_
  refine va_put (D := (dC, dI)) (ci := 12) (v := .int 0) (ty := tyX12 2) (C := RX12) (T := TX12) (N := 76) hx hb htw inlX12 tyX12 tyX12_ok nmX12 hown hK hP hD hS 0 rfl rfl 2 (by decide) (htw _ (ck_12 _ (List.mem_of_getElem? (i := 16) rfl))) (fun _ h9 => h9) rfl (tyX12_ok 2 (by decide)) rfl rfl (Nat.le_of_ble_eq_true rfl) dX12_parts_2 (fun H locs hP hD hS => ?_)
  obtain ⟨hP, hD⟩ := zre [(mq, .inr (12, mF (upd g 2 0) gl rf)), (eA0 (rf 29) (ck 29) 24 f_landHas)] hP hD rfl
  refine lv_aload_n hx hb dX12_parts_5 rfl (lv_at hl 0 rfl) ?_
  refine lv_iload_n hx hb dX12_parts_6 rfl (lv_at hl 1 rfl) ?_
  have hPc := hP.sub (ws' := [(mq, .inr (12, mF (upd g 2 0) gl rf))]) [0] rfl
  have hKc := hK.sub (tys' := []) [] rfl
  refine vp_callSi (W.runV (As := [.int a0]) (rest := []) ⟨hx, hb, hml, hown, htw⟩ (gq_isLand l dC dI mq (upd g 2 0) gl rf a0) (cwV 1 htw (xg_V (ck_34 _ (List.mem_of_getElem? (i := 2) rfl)) (ck_34 _ (List.mem_of_getElem? (i := 3) rfl)) (ck_34 _ (List.mem_of_getElem? (i := 4) rfl)) (ck_1 _ (List.mem_of_getElem? (i := 5) rfl)) (ck_34 _ (List.mem_of_getElem? (i := 5) rfl))) rfl rfl rfl (by exact ⟨rfl, hdc_14.1, hdc_14.2, hdd_26⟩) ⟨Nat.le_of_ble_eq_true rfl, Nat.le_of_ble_eq_true rfl⟩) ⟨fun a U g mk q => by obtain ⟨q0, qP, qK⟩ := q; exact ⟨q0, qP, va_K.moved (u := U) (U := U.calling g mk a) (Vm.Alike.refl U.vm) qK⟩, va_recv hKc hPc (ci := 12) (q0 := 0) rfl rfl, fun U hU hW => ⟨rfl, by rw [hU]; exact hPc, va_K.moved hW.alike hKc⟩⟩ rfl rfl hl.1 rfl (lv_room (Nat.le_of_ble_eq_true rfl)) dX12_parts_7 ⟨Nat.le_of_ble_eq_true rfl, Nat.le_of_ble_eq_true rfl⟩) (fun r_1 hw => ?_)
  try dsimp only at hw
  obtain ⟨hw, hb_r_1, hp_2, hp_3⟩ := hw
  have hq_r_1 : r_1 = (fq_isLand a0 (g 12)) := hw
  refine lv_if_eq (tgt := 32) hx hb dX12_parts_10 (by decide) (fun c_4 => ?_) (fun c_4 => ?_)
  · refine lv_iconst (v := (-1)) hx hb dX12_parts_32 (by decide) ?_
    refine W.widen (k := 0) (n := 0) (by omega) (by omega) ?_
    have hP9 := hP
    have hD9 := hD
    have hK9 := hK.sub (tys' := []) [] rfl
    exact W.iret (v := (-1)) hx hb hr (fun t ht hW => ⟨⟨(-1), 0, rfl, ((fun e9 => ⟨by rw [e9], by rw [e9]⟩ : fq_parts f_landHas a0 a1 a2 (g 12) = ((-1 : Int32), (0 : Int32)) → _) ((by rw [fq_parts]; (try rw [← hq_r_1]); (try rw [xL_eq]); (try rw [if_pos c_4]); try rfl))), by rw [ht]; exact hP9, va_K.moved hW.alike hK9, hD9⟩, hS.F ht⟩) hS.2.2 dX12_parts_33
  · refine lv_aload_n hx hb dX12_parts_13 rfl (lv_at hl 0 rfl) ?_
    refine lv_iload_n hx hb dX12_parts_14 rfl (lv_at hl 1 rfl) ?_
    refine lv_iload_n hx hb dX12_parts_15 rfl (lv_at hl 2 rfl) ?_
    refine lv_i2l (v := a1.toInt64) hx hb dX12_parts_16 rfl ?_
    have hPc := hP.sub (ws' := [(mq, .inr (12, mF (upd g 2 0) gl rf)), (eA0 (rf 29) (ck 29) 24 f_landHas)]) [0, 1] rfl
    have hKc := hK.sub (tys' := [((ck 29), .int)]) [0] rfl
    refine vp_callSi (W.runV (As := [.int a0, .long a1.toInt64]) (rest := []) ⟨hx, hb, hml, hown, htw⟩ (gq_isAsked l dC dI mq (upd g 2 0) gl rf ck f_landHas a0 a1.toInt64 (gq_parts_s0 (y0 := a0) (y1 := g 12) (hp_2.resolve_left c_4) (hp_3.resolve_left c_4) hln0 hln4) (gq_parts_s1 (y0 := a0) (y1 := g 12) (hp_2.resolve_left c_4) (hp_3.resolve_left c_4) hln0 hln4)) (cwV 2 htw (xg_V (ck_35 _ (List.mem_of_getElem? (i := 2) rfl)) (ck_35 _ (List.mem_of_getElem? (i := 3) rfl)) (ck_35 _ (List.mem_of_getElem? (i := 4) rfl)) (ck_1 _ (List.mem_of_getElem? (i := 5) rfl)) (ck_35 _ (List.mem_of_getElem? (i := 5) rfl))) rfl rfl rfl (by exact ⟨rfl, hdc_14.1, hdc_14.2, hdd_42⟩) ⟨Nat.le_of_ble_eq_true rfl, Nat.le_of_ble_eq_true rfl⟩) ⟨fun a U g mk q => by obtain ⟨q0, qP, qK⟩ := q; exact ⟨q0, qP, va_K.moved (u := U) (U := U.calling g mk a) (Vm.Alike.refl U.vm) qK⟩, va_recv hKc hPc (ci := 12) (q0 := 0) rfl rfl, fun U hU hW => ⟨rfl, by rw [hU]; exact hPc, va_K.moved hW.alike hKc⟩⟩ rfl rfl hl.1 rfl (lv_room (Nat.le_of_ble_eq_true rfl)) dX12_parts_17 ⟨Nat.le_of_ble_eq_true rfl, Nat.le_of_ble_eq_true rfl⟩) (fun r_5 hw => ?_)
    try dsimp only at hw
    obtain ⟨hw, hb_r_5⟩ := hw
    have hq_r_5 : r_5 = (fq_isAsked f_landHas a0 a1.toInt64) := hw
    refine lv_if_eq (tgt := 32) hx hb dX12_parts_20 (by decide) (fun c_6 => ?_) (fun c_6 => ?_)
    · refine lv_iconst (v := (-1)) hx hb dX12_parts_32 (by decide) ?_
      refine W.widen (k := 0) (n := 0) (by omega) (by omega) ?_
      have hP9 := hP
      have hD9 := hD
      have hK9 := hK.sub (tys' := []) [] rfl
      exact W.iret (v := (-1)) hx hb hr (fun t ht hW => ⟨⟨(-1), 0, rfl, ((fun e9 => ⟨by rw [e9], by rw [e9]⟩ : fq_parts f_landHas a0 a1 a2 (g 12) = ((-1 : Int32), (0 : Int32)) → _) ((by rw [fq_parts]; (try rw [← hq_r_1]); (try rw [xL_eq]); (try rw [if_neg c_4]); (try rw [← hq_r_5]); (try rw [xL_eq]); (try rw [if_pos c_6]); try rfl))), by rw [ht]; exact hP9, va_K.moved hW.alike hK9, hD9⟩, hS.F ht⟩) hS.2.2 dX12_parts_33
    · refine lv_iload_n hx hb dX12_parts_23 rfl (lv_at hl 3 rfl) ?_
      refine lv_iconst (v := 0) hx hb dX12_parts_24 (by decide) ?_
      refine lv_iconst (v := 1) hx hb dX12_parts_25 (by decide) ?_
      have hPc := hP.sub (ws' := []) [] rfl
      have hKc := hK.sub (tys' := []) [] rfl
      refine vp_callSi (W.runS (As := [.int a2, .int 0, .int 1]) (rest := []) ⟨hx, hb, hml, hown, htw⟩ (gq_isIn l dC dI a2 (0 : Int32) (1 : Int32)) (va_cwS 3 htw (xg_S (ck_26 _ (List.mem_of_getElem? (i := 17) rfl)) (ck_26 _ (List.mem_of_getElem? (i := 18) rfl)) (ck_1 _ (List.mem_of_getElem? (i := 5) rfl)) (ck_26 _ (List.mem_of_getElem? (i := 19) rfl))) rfl rfl rfl (by exact ⟨hdc_14.1, hdc_14.2, hdd_38⟩) ⟨Nat.le_of_ble_eq_true rfl, Nat.le_of_ble_eq_true rfl⟩) ⟨fun a U g mk q => by obtain ⟨q0, qP, qK⟩ := q; exact ⟨q0, qP, va_K.moved (u := U) (U := U.calling g mk a) (Vm.Alike.refl U.vm) qK⟩, fun U hU hW => ⟨rfl, by rw [hU]; exact hPc, va_K.moved hW.alike hKc⟩⟩ rfl rfl hl.1 rfl (lv_room (Nat.le_of_ble_eq_true rfl)) dX12_parts_26 ⟨Nat.le_of_ble_eq_true rfl, Nat.le_of_ble_eq_true rfl⟩) (fun r_7 hw => ?_)
      try dsimp only at hw
      obtain ⟨hw, hb_r_7, hp_8, hp_9⟩ := hw
      have hq_r_7 : r_7 = (fq_isIn a2 (0 : Int32) (1 : Int32)) := hw
      refine lv_if_ne (tgt := 34) hx hb dX12_parts_29 (by decide) (fun c_10 => ?_) (fun c_10 => ?_)
      · refine lv_iconst (v := 0) hx hb dX12_parts_34 (by decide) ?_
        refine lv_istore (lv' := [(4, .int 0), (0, .ref mq), (1, .int a0), (2, .int a1), (3, .int a2)]) hx hb dX12_parts_35 hl (by decide) rfl (fun ls hl => ?_)
        refine lv_iconst (v := 0) hx hb dX12_parts_37 (by decide) ?_
        refine lv_istore (lv' := [(5, .int 0), (4, .int 0), (0, .ref mq), (1, .int a0), (2, .int a1), (3, .int a2)]) hx hb dX12_parts_38 hl (by decide) rfl (fun ls hl => ?_)
        refine lv_iconst (v := 1) hx hb dX12_parts_40 (by decide) ?_
        refine lv_istore (lv' := [(6, .int 1), (5, .int 0), (4, .int 0), (0, .ref mq), (1, .int a0), (2, .int a1), (3, .int a2)]) hx hb dX12_parts_41 hl (by decide) rfl (fun ls hl => ?_)
        have hloop_11 : ∀ (n : Nat) (L4d : Int32) (L5d : Int32) (L6d : Int32) (h0_d : ¬ L6d < 1) (hf_d : (100 : Int32).toInt ≤ L6d.toInt + (n : Int)) (hI_d : fq_parts f_landHas a0 a1 a2 (g 12) = fq_parts_d f_landHas a0 a1 a2 n L4d L5d L6d) (H : Heap) (locs : List Loc) (ls : Array Slot) (hP : va_P (dC, dI) vwCl [(mq, .inr (12, mF (upd g 2 0) gl rf)), (eA0 (rf 29) (ck 29) 24 f_landHas)] H) (hD : va_D A [(mq, .inr (12, mF (upd g 2 0) gl rf)), (eA0 (rf 29) (ck 29) 24 f_landHas)]) (hS : va_S A s.heap H locs) (hl : lv_has ls 7 [(6, .int L6d), (5, .int L5d), (4, .int L4d), (0, .ref mq), (1, .int a0), (2, .int a1), (3, .int a2)]), W p l e (headSpec (Cond.code yX12_parts cX12_parts 7 (some .int) :: wsL_law) ({ frames := 3, cells := 0, slots := 0, locals := 69 })).room s m ([.ref mq, .int a0, .int a1, .int a2] : List Value).toArray below meth c H locs 0 0 (MQ below (va_Qi (fun (r : Int32) (u : (Int32)) => r = (fq_parts f_landHas a0 a1 a2 (g 12)).1 ∧ u = (fq_parts f_landHas a0 a1 a2 (g 12)).2) (fun (u : (Int32)) t => va_P (dC, dI) vwCl [(mq, .inr (12, mF (upd g 2 u) gl rf)), (eA0 (rf 29) (ck 29) 24 f_landHas)] t.heap ∧ va_K (dC, dI) vwCl [] t ∧ va_D A [(mq, .inr (12, mF (upd g 2 u) gl rf)), (eA0 (rf 29) (ck 29) 24 f_landHas)]) A) ([.ref mq, .int a0, .int a1, .int a2] : List Value).toArray s 0 0 A) (F0 m 43 ls []) := by
          intro n
          induction n with
          | zero =>
            intro L4d L5d L6d h0_d hf_d hI_d H locs ls hP hD hS hl
            refine lv_iload hx hb dX12_parts_43 (lv_at hl 0 rfl) ?_
            refine lv_bipush (v := 100) hx hb dX12_parts_45 (by decide) ?_
            refine lv_icmp_ge (tgt := 82) hx hb dX12_parts_47 (by decide) (fun c_12 => ?_) (fun c_12 => absurd c_12 (fun h => h (xi_z hf_d)))
            refine lv_iload_n hx hb dX12_parts_82 rfl (lv_at hl 6 rfl) ?_
            refine lv_if_ne (tgt := 91) hx hb dX12_parts_83 (by decide) (fun c_13 => ?_) (fun c_13 => ?_)
            · refine lv_iload hx hb dX12_parts_91 (lv_at hl 1 rfl) ?_
              refine W.widen (k := 0) (n := 0) (by omega) (by omega) ?_
              obtain ⟨hP9, hD9⟩ := zsub2 (ws' := [(mq, .inr (12, mF (upd g 2 0) gl rf)), (eA0 (rf 29) (ck 29) 24 f_landHas)]) hP hD [0, 1] (by decide) rfl
              have hK9 := hK.sub (tys' := []) [] rfl
              exact W.iret (v := L5d) hx hb hr (fun t ht hW => ⟨⟨L5d, 0, rfl, ((fun e9 => ⟨by rw [e9], by rw [e9]⟩ : fq_parts f_landHas a0 a1 a2 (g 12) = (L5d, (0 : Int32)) → _) (hI_d.trans (by rw [fq_parts_d]; (try rw [if_neg c_13]); try rfl))), by rw [ht]; exact hP9, va_K.moved hW.alike hK9, hD9⟩, hS.F ht⟩) hS.2.2 dX12_parts_93
            · refine lv_iload hx hb dX12_parts_86 (lv_at hl 2 rfl) ?_
              refine lv_goto (tgt := 93) hx hb dX12_parts_88 (by decide) ?_
              refine W.widen (k := 0) (n := 0) (by omega) (by omega) ?_
              obtain ⟨hP9, hD9⟩ := zsub2 (ws' := [(mq, .inr (12, mF (upd g 2 0) gl rf)), (eA0 (rf 29) (ck 29) 24 f_landHas)]) hP hD [0, 1] (by decide) rfl
              have hK9 := hK.sub (tys' := []) [] rfl
              exact W.iret (v := L4d) hx hb hr (fun t ht hW => ⟨⟨L4d, 0, rfl, ((fun e9 => ⟨by rw [e9], by rw [e9]⟩ : fq_parts f_landHas a0 a1 a2 (g 12) = (L4d, (0 : Int32)) → _) (hI_d.trans (by rw [fq_parts_d]; (try rw [if_pos c_13]); try rfl))), by rw [ht]; exact hP9, va_K.moved hW.alike hK9, hD9⟩, hS.F ht⟩) hS.2.2 dX12_parts_93
          | succ n ih =>
            intro L4d L5d L6d h0_d hf_d hI_d H locs ls hP hD hS hl
            refine lv_iload hx hb dX12_parts_43 (lv_at hl 0 rfl) ?_
            refine lv_bipush (v := 100) hx hb dX12_parts_45 (by decide) ?_
            refine lv_icmp_ge (tgt := 82) hx hb dX12_parts_47 (by decide) (fun c_14 => ?_) (fun c_14 => ?_)
            · refine lv_iload_n hx hb dX12_parts_82 rfl (lv_at hl 6 rfl) ?_
              refine lv_if_ne (tgt := 91) hx hb dX12_parts_83 (by decide) (fun c_15 => ?_) (fun c_15 => ?_)
              · refine lv_iload hx hb dX12_parts_91 (lv_at hl 1 rfl) ?_
                refine W.widen (k := 0) (n := 0) (by omega) (by omega) ?_
                obtain ⟨hP9, hD9⟩ := zsub2 (ws' := [(mq, .inr (12, mF (upd g 2 0) gl rf)), (eA0 (rf 29) (ck 29) 24 f_landHas)]) hP hD [0, 1] (by decide) rfl
                have hK9 := hK.sub (tys' := []) [] rfl
                exact W.iret (v := L5d) hx hb hr (fun t ht hW => ⟨⟨L5d, 0, rfl, ((fun e9 => ⟨by rw [e9], by rw [e9]⟩ : fq_parts f_landHas a0 a1 a2 (g 12) = (L5d, (0 : Int32)) → _) (hI_d.trans (by rw [fq_parts_d]; (try rw [if_pos c_14]); (try rw [if_neg c_15]); try rfl))), by rw [ht]; exact hP9, va_K.moved hW.alike hK9, hD9⟩, hS.F ht⟩) hS.2.2 dX12_parts_93
              · refine lv_iload hx hb dX12_parts_86 (lv_at hl 2 rfl) ?_
                refine lv_goto (tgt := 93) hx hb dX12_parts_88 (by decide) ?_
                refine W.widen (k := 0) (n := 0) (by omega) (by omega) ?_
                obtain ⟨hP9, hD9⟩ := zsub2 (ws' := [(mq, .inr (12, mF (upd g 2 0) gl rf)), (eA0 (rf 29) (ck 29) 24 f_landHas)]) hP hD [0, 1] (by decide) rfl
                have hK9 := hK.sub (tys' := []) [] rfl
                exact W.iret (v := L4d) hx hb hr (fun t ht hW => ⟨⟨L4d, 0, rfl, ((fun e9 => ⟨by rw [e9], by rw [e9]⟩ : fq_parts f_landHas a0 a1 a2 (g 12) = (L4d, (0 : Int32)) → _) (hI_d.trans (by rw [fq_parts_d]; (try rw [if_pos c_14]); (try rw [if_pos c_15]); try rfl))), by rw [ht]; exact hP9, va_K.moved hW.alike hK9, hD9⟩, hS.F ht⟩) hS.2.2 dX12_parts_93
            · refine lv_aload_n hx hb dX12_parts_50 rfl (lv_at hl 3 rfl) ?_
              refine lv_iload_n hx hb dX12_parts_51 rfl (lv_at hl 4 rfl) ?_
              refine lv_iload_n hx hb dX12_parts_52 rfl (lv_at hl 5 rfl) ?_
              refine lv_i2l (v := a1.toInt64) hx hb dX12_parts_53 rfl ?_
              have hPc := hP.sub (ws' := [(mq, .inr (12, mF (upd g 2 0) gl rf)), (eA0 (rf 29) (ck 29) 24 f_landHas)]) [0, 1] rfl
              have hKc := hK.sub (tys' := [((ck 29), .int)]) [0] rfl
              refine vp_callSl (W.runV (As := [.int a0, .long a1.toInt64]) (rest := []) ⟨hx, hb, hml, hown, htw⟩ (gq_lengthOf l dC dI mq (upd g 2 0) gl rf ck f_landHas a0 a1.toInt64 (gq_parts_s2 (y0 := a0) (y1 := g 12) (hp_2.resolve_left c_4) (hp_3.resolve_left c_4) hln0 hln4) (gq_parts_s3 (y0 := a0) (y1 := g 12) (hp_2.resolve_left c_4) (hp_3.resolve_left c_4) hln0 hln4)) (cwV 2 htw (xg_V (ck_30 _ (List.mem_of_getElem? (i := 3) rfl)) (ck_30 _ (List.mem_of_getElem? (i := 4) rfl)) (ck_30 _ (List.mem_of_getElem? (i := 5) rfl)) (ck_1 _ (List.mem_of_getElem? (i := 5) rfl)) (ck_30 _ (List.mem_of_getElem? (i := 6) rfl))) rfl rfl rfl (by exact ⟨rfl, hdc_14.1, hdc_14.2, hdd_41⟩) ⟨Nat.le_of_ble_eq_true rfl, Nat.le_of_ble_eq_true rfl⟩) ⟨fun a U g mk q => by obtain ⟨q0, qP, qK⟩ := q; exact ⟨q0, qP, va_K.moved (u := U) (U := U.calling g mk a) (Vm.Alike.refl U.vm) qK⟩, va_recv hKc hPc (ci := 12) (q0 := 0) rfl rfl, fun U hU hW => ⟨rfl, by rw [hU]; exact hPc, va_K.moved hW.alike hKc⟩⟩ rfl rfl hl.1 rfl (lv_room (Nat.le_of_ble_eq_true rfl)) dX12_parts_54 ⟨Nat.le_of_ble_eq_true rfl, Nat.le_of_ble_eq_true rfl⟩) (fun r_16 hw => ?_)
              try dsimp only at hw
              have hq_r_16 : r_16 = (fq_lengthOf f_landHas a0 a1.toInt64) := hw
              refine lv_iload hx hb dX12_parts_57 (lv_at hl 0 rfl) ?_
              refine lv_i2l (v := L6d.toInt64) hx hb dX12_parts_59 rfl ?_
              refine lv_lrem hx hb dX12_parts_60 (xg_nz64 (gq_parts_s4 (y0 := L6d) c_14 h0_d)) ?_
              refine lv_lconst (v := 0) hx hb dX12_parts_61 (by decide) ?_
              refine W.lcmp hx hb dX12_parts_62 ?_
              refine lv_if_eq (tgt := 69) hx hb dX12_parts_63 (by decide) (fun c_17 => ?_) (fun c_17 => ?_)
              · refine lv_iinc (v := (L4d + 1)) (lv' := [(4, .int (L4d + 1)), (6, .int L6d), (5, .int L5d), (0, .ref mq), (1, .int a0), (2, .int a1), (3, .int a2)]) hx hb dX12_parts_69 hl (k := 2) rfl (rfl) (by decide) rfl (fun ls hl => ?_)
                refine lv_iload hx hb dX12_parts_72 (lv_at hl 1 rfl) ?_
                refine lv_istore (lv' := [(5, .int L6d), (4, .int (L4d + 1)), (6, .int L6d), (0, .ref mq), (1, .int a0), (2, .int a1), (3, .int a2)]) hx hb dX12_parts_74 hl (by decide) rfl (fun ls hl => ?_)
                refine lv_iinc (v := (L6d + 1)) (lv' := [(6, .int (L6d + 1)), (5, .int L6d), (4, .int (L4d + 1)), (0, .ref mq), (1, .int a0), (2, .int a1), (3, .int a2)]) hx hb dX12_parts_76 hl (k := 2) rfl (rfl) (by decide) rfl (fun ls hl => ?_)
                refine lv_goto (tgt := 43) hx hb dX12_parts_79 (by decide) ?_
                exact ih (L4d + 1) L6d (L6d + 1) (gq_parts_s5 (y0 := L6d) c_14 h0_d) (by rw [xi_s' c_14]; omega) (hI_d.trans (by rw [fq_parts_d]; (try rw [if_neg c_14]); (try rw [← hq_r_16]); (try rw [xL_eq]); (try rw [if_pos c_17]); try rfl)) H locs ls hP hD hS (lv_sub hl [0, 1, 2, 3, 4, 5, 6] rfl)
              · refine lv_goto (tgt := 76) hx hb dX12_parts_66 (by decide) ?_
                refine lv_iinc (v := (L6d + 1)) (lv' := [(6, .int (L6d + 1)), (5, .int L5d), (4, .int L4d), (0, .ref mq), (1, .int a0), (2, .int a1), (3, .int a2)]) hx hb dX12_parts_76 hl (k := 0) rfl (rfl) (by decide) rfl (fun ls hl => ?_)
                refine lv_goto (tgt := 43) hx hb dX12_parts_79 (by decide) ?_
                exact ih L4d L5d (L6d + 1) (gq_parts_s6 (y0 := L6d) c_14 h0_d) (by rw [xi_s' c_14]; omega) (hI_d.trans (by rw [fq_parts_d]; (try rw [if_neg c_14]); (try rw [← hq_r_16]); (try rw [xL_eq]); (try rw [if_neg c_17]); try rfl)) H locs ls hP hD hS (lv_sub hl [0, 1, 2, 3, 4, 5, 6] rfl)
        exact hloop_11 99 (0 : Int32) (0 : Int32) (1 : Int32) (gq_parts_s7 ) (by decide) ((by rw [fq_parts]; (try rw [← hq_r_1]); (try rw [xL_eq]); (try rw [if_neg c_4]); (try rw [← hq_r_5]); (try rw [xL_eq]); (try rw [if_neg c_6]); (try rw [← hq_r_7]); (try rw [xL_eq]); (try rw [if_neg c_10]); try rfl)) _ _ ls hP hD hS (lv_sub hl [0, 1, 2, 3, 4, 5, 6] rfl)
      · refine lv_iconst (v := (-1)) hx hb dX12_parts_32 (by decide) ?_
        refine W.widen (k := 0) (n := 0) (by omega) (by omega) ?_
        have hP9 := hP
        have hD9 := hD
        have hK9 := hK.sub (tys' := []) [] rfl
        exact W.iret (v := (-1)) hx hb hr (fun t ht hW => ⟨⟨(-1), 0, rfl, ((fun e9 => ⟨by rw [e9], by rw [e9]⟩ : fq_parts f_landHas a0 a1 a2 (g 12) = ((-1 : Int32), (0 : Int32)) → _) ((by rw [fq_parts]; (try rw [← hq_r_1]); (try rw [xL_eq]); (try rw [if_neg c_4]); (try rw [← hq_r_5]); (try rw [xL_eq]); (try rw [if_neg c_6]); (try rw [← hq_r_7]); (try rw [xL_eq]); (try rw [if_pos c_10]); try rfl))), by rw [ht]; exact hP9, va_K.moved hW.alike hK9, hD9⟩, hS.F ht⟩) hS.2.2 dX12_parts_33

def fq_months_d (f_landHas : Nat → Int32) (a0 : Int32) (a1 : Int32) (a2 : Int32) : Nat → (Int64) → Int32 × (Int32)
  | 0, L4d => ((-2 : Int32), (0 : Int32))
  | n + 1, L4d => (if 0 ≤ lg_cmp L4d (a1.toInt64 + 1000) then ((-2 : Int32), (0 : Int32)) else (xL ((fq_isAsked f_landHas a0 L4d)) (fun r_14 => (if r_14 = 0 then ((-2 : Int32), (0 : Int32)) else (xL ((fq_lengthOf f_landHas a0 L4d)) (fun r_16 => (if lg_cmp (r_16 - r_16 / a2.toInt64 * a2.toInt64) 0 = 0 then (L4d.toInt32, (0 : Int32)) else fq_months_d f_landHas a0 a1 a2 n (L4d + 1))))))))
def fq_months (f_landHas : Nat → Int32) (a0 : Int32) (a1 : Int32) (a2 : Int32) (m_lands : Int32) : Int32 × (Int32) := (xL ((fq_isLand a0 m_lands)) (fun r_1 => (if r_1 = 0 then ((-1 : Int32), (0 : Int32)) else (xL ((fq_isAsked f_landHas a0 a1.toInt64)) (fun r_5 => (if r_5 = 0 then ((-1 : Int32), (0 : Int32)) else (xL ((fq_isIn a2 (1 : Int32) (99 : Int32))) (fun r_7 => (if r_7 = 0 then ((-1 : Int32), (0 : Int32)) else fq_months_d f_landHas a0 a1 a2 1000 a1.toInt64)))))))))
theorem gq_months_s0 {y0 : Int32} {y1 : Int32} (h0 : ¬ (y0 < 0)) (h1 : y0 < y1) (h2 : ¬ (y1 < 0)) (h3 : y1 ≤ 4) : ¬ (y0 < 0) := h0
theorem gq_months_s1 {y0 : Int32} {y1 : Int32} (h0 : ¬ (y0 < 0)) (h1 : y0 < y1) (h2 : ¬ (y1 < 0)) (h3 : y1 ≤ 4) : y0 ≤ 7 := by lia
theorem gq_months_s2 {y0 : Int32} {y1 : Int32} (h0 : ¬ (y0 < 0)) (h1 : y0 < y1) (h2 : ¬ (y1 < 0)) (h3 : y1 ≤ 4) : ¬ (y0 < 0) := h0
theorem gq_months_s3 {y0 : Int32} {y1 : Int32} (h0 : ¬ (y0 < 0)) (h1 : y0 < y1) (h2 : ¬ (y1 < 0)) (h3 : y1 ≤ 4) : y0 ≤ 7 := by lia
theorem gq_months_s4 {y0 : Int32} {y1 : Int32} (h0 : ¬ (y0 < 0)) (h1 : y0 < y1) (h2 : ¬ (y1 < 0)) (h3 : y1 ≤ 4) : ¬ (y0 < 0) := h0
theorem gq_months_s5 {y0 : Int32} {y1 : Int32} (h0 : ¬ (y0 < 0)) (h1 : y0 < y1) (h2 : ¬ (y1 < 0)) (h3 : y1 ≤ 4) : y0 ≤ 7 := by lia
theorem gq_months_s6 {y0 : Int32} (h0 : ¬ (y0 < 1)) (h1 : ¬ (99 < y0)) : ¬ (y0 = 0) := by lia
theorem dX12_months_0 : decode cX12_months 0 = .ok (.aload_n 0, 1) := zk_42 (by decide +kernel)
theorem dX12_months_1 : decode cX12_months 1 = .ok (.iconst 0, 1) := zk_3 (by decide +kernel)
theorem dX12_months_2 : decode cX12_months 2 = .ok (.putfield 119, 3) := zk_181 (by decide +kernel)
theorem dX12_months_5 : decode cX12_months 5 = .ok (.aload_n 0, 1) := zk_42 (by decide +kernel)
theorem dX12_months_6 : decode cX12_months 6 = .ok (.iload_n 1, 1) := zk_27 (by decide +kernel)
theorem dX12_months_7 : decode cX12_months 7 = .ok (.invokevirtual 404, 3) := zk_182 (by decide +kernel)
theorem dX12_months_10 : decode cX12_months 10 = .ok (.ifCond .eq 23, 3) := zk_153 (by decide +kernel)
theorem dX12_months_33 : decode cX12_months 33 = .ok (.iconst (-1), 1) := zk_2 (by decide +kernel)
theorem dX12_months_34 : decode cX12_months 34 = .ok (.ireturn, 1) := zk_172 (by decide +kernel)
theorem dX12_months_13 : decode cX12_months 13 = .ok (.aload_n 0, 1) := zk_42 (by decide +kernel)
theorem dX12_months_14 : decode cX12_months 14 = .ok (.iload_n 1, 1) := zk_27 (by decide +kernel)
theorem dX12_months_15 : decode cX12_months 15 = .ok (.iload_n 2, 1) := zk_28 (by decide +kernel)
theorem dX12_months_16 : decode cX12_months 16 = .ok (.i2l, 1) := zk_133 (by decide +kernel)
theorem dX12_months_17 : decode cX12_months 17 = .ok (.invokevirtual 410, 3) := zk_182 (by decide +kernel)
theorem dX12_months_20 : decode cX12_months 20 = .ok (.ifCond .eq 13, 3) := zk_153 (by decide +kernel)
theorem dX12_months_23 : decode cX12_months 23 = .ok (.iload_n 3, 1) := zk_29 (by decide +kernel)
theorem dX12_months_24 : decode cX12_months 24 = .ok (.iconst 1, 1) := zk_4 (by decide +kernel)
theorem dX12_months_25 : decode cX12_months 25 = .ok (.bipush 99, 2) := zk_16 (by decide +kernel)
theorem dX12_months_27 : decode cX12_months 27 = .ok (.invokestatic 166, 3) := zk_184 (by decide +kernel)
theorem dX12_months_30 : decode cX12_months 30 = .ok (.ifCond .ne 5, 3) := zk_154 (by decide +kernel)
theorem dX12_months_35 : decode cX12_months 35 = .ok (.iload_n 2, 1) := zk_28 (by decide +kernel)
theorem dX12_months_36 : decode cX12_months 36 = .ok (.i2l, 1) := zk_133 (by decide +kernel)
theorem dX12_months_37 : decode cX12_months 37 = .ok (.lstore 4, 2) := zk_55 (by decide +kernel)
theorem dX12_months_39 : decode cX12_months 39 = .ok (.lload 4, 2) := zk_22 (by decide +kernel)
theorem dX12_months_41 : decode cX12_months 41 = .ok (.iload_n 2, 1) := zk_28 (by decide +kernel)
theorem dX12_months_42 : decode cX12_months 42 = .ok (.i2l, 1) := zk_133 (by decide +kernel)
theorem dX12_months_43 : decode cX12_months 43 = .ok (.ldc2_w 475, 3) := zk_20 (by decide +kernel)
theorem dX12_months_46 : decode cX12_months 46 = .ok (.ladd, 1) := zk_97 (by decide +kernel)
theorem dX12_months_47 : decode cX12_months 47 = .ok (.lcmp, 1) := zk_148 (by decide +kernel)
theorem dX12_months_48 : decode cX12_months 48 = .ok (.ifCond .ge 41, 3) := zk_156 (by decide +kernel)
theorem dX12_months_89 : decode cX12_months 89 = .ok (.bipush (-2), 2) := zk_16 (by decide +kernel)
theorem dX12_months_91 : decode cX12_months 91 = .ok (.ireturn, 1) := zk_172 (by decide +kernel)
theorem dX12_months_51 : decode cX12_months 51 = .ok (.aload_n 0, 1) := zk_42 (by decide +kernel)
theorem dX12_months_52 : decode cX12_months 52 = .ok (.iload_n 1, 1) := zk_27 (by decide +kernel)
theorem dX12_months_53 : decode cX12_months 53 = .ok (.lload 4, 2) := zk_22 (by decide +kernel)
theorem dX12_months_55 : decode cX12_months 55 = .ok (.invokevirtual 410, 3) := zk_182 (by decide +kernel)
theorem dX12_months_58 : decode cX12_months 58 = .ok (.ifCond .eq 31, 3) := zk_153 (by decide +kernel)
theorem dX12_months_61 : decode cX12_months 61 = .ok (.aload_n 0, 1) := zk_42 (by decide +kernel)
theorem dX12_months_62 : decode cX12_months 62 = .ok (.iload_n 1, 1) := zk_27 (by decide +kernel)
theorem dX12_months_63 : decode cX12_months 63 = .ok (.lload 4, 2) := zk_22 (by decide +kernel)
theorem dX12_months_65 : decode cX12_months 65 = .ok (.invokevirtual 375, 3) := zk_182 (by decide +kernel)
theorem dX12_months_68 : decode cX12_months 68 = .ok (.iload_n 3, 1) := zk_29 (by decide +kernel)
theorem dX12_months_69 : decode cX12_months 69 = .ok (.i2l, 1) := zk_133 (by decide +kernel)
theorem dX12_months_70 : decode cX12_months 70 = .ok (.lrem, 1) := zk_113 (by decide +kernel)
theorem dX12_months_71 : decode cX12_months 71 = .ok (.lconst 0, 1) := zk_9 (by decide +kernel)
theorem dX12_months_72 : decode cX12_months 72 = .ok (.lcmp, 1) := zk_148 (by decide +kernel)
theorem dX12_months_73 : decode cX12_months 73 = .ok (.ifCond .ne 7, 3) := zk_154 (by decide +kernel)
theorem dX12_months_80 : decode cX12_months 80 = .ok (.lload 4, 2) := zk_22 (by decide +kernel)
theorem dX12_months_82 : decode cX12_months 82 = .ok (.lconst 1, 1) := zk_10 (by decide +kernel)
theorem dX12_months_83 : decode cX12_months 83 = .ok (.ladd, 1) := zk_97 (by decide +kernel)
theorem dX12_months_84 : decode cX12_months 84 = .ok (.lstore 4, 2) := zk_55 (by decide +kernel)
theorem dX12_months_86 : decode cX12_months 86 = .ok (.goto (-47), 3) := zk_167 (by decide +kernel)
theorem dX12_months_76 : decode cX12_months 76 = .ok (.lload 4, 2) := zk_22 (by decide +kernel)
theorem dX12_months_78 : decode cX12_months 78 = .ok (.l2i, 1) := zk_136 (by decide +kernel)
theorem dX12_months_79 : decode cX12_months 79 = .ok (.ireturn, 1) := zk_172 (by decide +kernel)
set_option maxHeartbeats 4000000 in
set_option maxRecDepth 100000 in
theorem gq_months (l : Launch) (dC : Nat → ClassId) (dI : Nat → Nat → Nat) (mq : Nat) (g : Nat → Int32) (gl : Nat → Int64) (rf : Nat → Nat) (ck : Nat → ClassId) (f_landHas : Nat → Int32) (a0 : Int32) (a1 : Int32) (a2 : Int32) (sz : Nat) (hln0 : ¬ (g 12) < 0) (hln4 : (g 12) ≤ 4) : Met l yX12_months (Cond.code yX12_months cX12_months 6 (some .int) :: wsL_law) ({ frames := 3, cells := 0, slots := 0, locals := 69 }) (va_Pc [.ref mq, .int a0, .int a1, .int a2] (fun U => U.heap.size = sz ∧ va_P (dC, dI) vwCl [(mq, .inr (12, mF g gl rf)), (eA0 (rf 29) (ck 29) 24 f_landHas)] U.heap ∧ va_K (dC, dI) vwCl [((ck 29), .int)] U ∧ va_D (fun _ => True) [(mq, .inr (12, mF g gl rf)), (eA0 (rf 29) (ck 29) 24 f_landHas)])) (va_Qi (fun (r : Int32) (u : (Int32)) => r = (fq_months f_landHas a0 a1 a2 (g 12)).1 ∧ u = (fq_months f_landHas a0 a1 a2 (g 12)).2) (fun (u : (Int32)) t => va_P (dC, dI) vwCl [(mq, .inr (12, mF (upd g 2 u) gl rf)), (eA0 (rf 29) (ck 29) 24 f_landHas)] t.heap ∧ va_K (dC, dI) vwCl [] t ∧ va_D (va_A [(mq, .inr (12, mF g gl rf)), (eA0 (rf 29) (ck 29) 24 f_landHas)] sz) [(mq, .inr (12, mF (upd g 2 u) gl rf)), (eA0 (rf 29) (ck 29) 24 f_landHas)]) (va_A [(mq, .inr (12, mF g gl rf)), (eA0 (rf 29) (ck 29) 24 f_landHas)] sz)) 0 0 (va_A [(mq, .inr (12, mF g gl rf)), (eA0 (rf 29) (ck 29) 24 f_landHas)] sz) := by
  refine Met.ofW (cc := cX12_months) (maxL := 6) (ret := (some .int)) (by decide) rfl ?_
  intro p e s m args below meth c s₁ B hml hv
  obtain ⟨rfl, hsz, hP, hK, hD0⟩ := hv
  have hx := B.exec
  have hb := B.bytes
  have hr := B.returns
  have hts := atoms_spec (ws := Cond.code yX12_months cX12_months 6 (some .int) :: wsL_law) B.pre
  have htw : ∀ w ∈ wsL_law, w.before _ s = true := fun w h => hts w (List.mem_cons_of_mem _ h)
  have hown : s.vm.findClass RX12 = some m.cls := findClass_of_methodNamed B.named
  have hlocks := B.notSynchronized
  subst hsz
  have hD := hD0.self (sz := s.heap.size)
  generalize hAe : va_A [(mq, .inr (12, mF g gl rf)), (eA0 (rf 29) (ck 29) 24 f_landHas)] s.heap.size = A at hD ⊢
  have hA : ∀ q : Nat, s.heap.size ≤ q → A q := fun q h => by rw [← hAe]; exact Or.inr h
  obtain ⟨H, rH⟩ : ∃ z : Heap, z = s.heap := ⟨_, rfl⟩
  have hS : va_S A s.heap H [] := by rw [rH]; exact va_S.rf
  have hP : va_P (dC, dI) vwCl [(mq, .inr (12, mF g gl rf)), (eA0 (rf 29) (ck 29) 24 f_landHas)] H := by rw [rH]; exact hP
  rw [← rH]
  have hl := lv_entry ([.ref mq, .int a0, .int a1, .int a2]) (n := 6) (Nat.le_of_ble_eq_true rfl)
  rw [lg_entry_eq]
  generalize (lg_sl ([.ref mq, .int a0, .int a1, .int a2]) ++ List.replicate (6 - (lg_sl ([.ref mq, .int a0, .int a1, .int a2])).length) Slot.unset).toArray = ls at hl ⊢
  have hl : lv_has ls 6 [(0, .ref mq), (1, .int a0), (2, .int a1), (3, .int a2)] := hl
  refine lv_aload_n hx hb dX12_months_0 rfl (lv_at hl 0 rfl) ?_
  refine lv_iconst (v := 0) hx hb dX12_months_1 (by decide) ?_
  refine va_put (D := (dC, dI)) (ci := 12) (v := .int 0) (ty := tyX12 2) (C := RX12) (T := TX12) (N := 76) hx hb htw inlX12 tyX12 tyX12_ok nmX12 hown hK hP hD hS 0 rfl rfl 2 (by decide) (htw _ (ck_12 _ (List.mem_of_getElem? (i := 16) rfl))) (fun _ h9 => h9) rfl (tyX12_ok 2 (by decide)) rfl rfl (Nat.le_of_ble_eq_true rfl) dX12_months_2 (fun H locs hP hD hS => ?_)
  obtain ⟨hP, hD⟩ := zre [(mq, .inr (12, mF (upd g 2 0) gl rf)), (eA0 (rf 29) (ck 29) 24 f_landHas)] hP hD rfl
  refine lv_aload_n hx hb dX12_months_5 rfl (lv_at hl 0 rfl) ?_
  refine lv_iload_n hx hb dX12_months_6 rfl (lv_at hl 1 rfl) ?_
  have hPc := hP.sub (ws' := [(mq, .inr (12, mF (upd g 2 0) gl rf))]) [0] rfl
  have hKc := hK.sub (tys' := []) [] rfl
  refine vp_callSi (W.runV (As := [.int a0]) (rest := []) ⟨hx, hb, hml, hown, htw⟩ (gq_isLand l dC dI mq (upd g 2 0) gl rf a0) (cwV 1 htw (xg_V (ck_34 _ (List.mem_of_getElem? (i := 2) rfl)) (ck_34 _ (List.mem_of_getElem? (i := 3) rfl)) (ck_34 _ (List.mem_of_getElem? (i := 4) rfl)) (ck_1 _ (List.mem_of_getElem? (i := 5) rfl)) (ck_34 _ (List.mem_of_getElem? (i := 5) rfl))) rfl rfl rfl (by exact ⟨rfl, hdc_14.1, hdc_14.2, hdd_26⟩) ⟨Nat.le_of_ble_eq_true rfl, Nat.le_of_ble_eq_true rfl⟩) ⟨fun a U g mk q => by obtain ⟨q0, qP, qK⟩ := q; exact ⟨q0, qP, va_K.moved (u := U) (U := U.calling g mk a) (Vm.Alike.refl U.vm) qK⟩, va_recv hKc hPc (ci := 12) (q0 := 0) rfl rfl, fun U hU hW => ⟨rfl, by rw [hU]; exact hPc, va_K.moved hW.alike hKc⟩⟩ rfl rfl hl.1 rfl (lv_room (Nat.le_of_ble_eq_true rfl)) dX12_months_7 ⟨Nat.le_of_ble_eq_true rfl, Nat.le_of_ble_eq_true rfl⟩) (fun r_1 hw => ?_)
  try dsimp only at hw
  obtain ⟨hw, hb_r_1, hp_2, hp_3⟩ := hw
  have hq_r_1 : r_1 = (fq_isLand a0 (g 12)) := hw
  refine lv_if_eq (tgt := 33) hx hb dX12_months_10 (by decide) (fun c_4 => ?_) (fun c_4 => ?_)
  · refine lv_iconst (v := (-1)) hx hb dX12_months_33 (by decide) ?_
    refine W.widen (k := 0) (n := 0) (by omega) (by omega) ?_
    have hP9 := hP
    have hD9 := hD
    have hK9 := hK.sub (tys' := []) [] rfl
    exact W.iret (v := (-1)) hx hb hr (fun t ht hW => ⟨⟨(-1), 0, rfl, ((fun e9 => ⟨by rw [e9], by rw [e9]⟩ : fq_months f_landHas a0 a1 a2 (g 12) = ((-1 : Int32), (0 : Int32)) → _) ((by rw [fq_months]; (try rw [← hq_r_1]); (try rw [xL_eq]); (try rw [if_pos c_4]); try rfl))), by rw [ht]; exact hP9, va_K.moved hW.alike hK9, hD9⟩, hS.F ht⟩) hS.2.2 dX12_months_34
  · refine lv_aload_n hx hb dX12_months_13 rfl (lv_at hl 0 rfl) ?_
    refine lv_iload_n hx hb dX12_months_14 rfl (lv_at hl 1 rfl) ?_
    refine lv_iload_n hx hb dX12_months_15 rfl (lv_at hl 2 rfl) ?_
    refine lv_i2l (v := a1.toInt64) hx hb dX12_months_16 rfl ?_
    have hPc := hP.sub (ws' := [(mq, .inr (12, mF (upd g 2 0) gl rf)), (eA0 (rf 29) (ck 29) 24 f_landHas)]) [0, 1] rfl
    have hKc := hK.sub (tys' := [((ck 29), .int)]) [0] rfl
    refine vp_callSi (W.runV (As := [.int a0, .long a1.toInt64]) (rest := []) ⟨hx, hb, hml, hown, htw⟩ (gq_isAsked l dC dI mq (upd g 2 0) gl rf ck f_landHas a0 a1.toInt64 (gq_months_s0 (y0 := a0) (y1 := g 12) (hp_2.resolve_left c_4) (hp_3.resolve_left c_4) hln0 hln4) (gq_months_s1 (y0 := a0) (y1 := g 12) (hp_2.resolve_left c_4) (hp_3.resolve_left c_4) hln0 hln4)) (cwV 2 htw (xg_V (ck_35 _ (List.mem_of_getElem? (i := 2) rfl)) (ck_35 _ (List.mem_of_getElem? (i := 3) rfl)) (ck_35 _ (List.mem_of_getElem? (i := 4) rfl)) (ck_1 _ (List.mem_of_getElem? (i := 5) rfl)) (ck_35 _ (List.mem_of_getElem? (i := 5) rfl))) rfl rfl rfl (by exact ⟨rfl, hdc_14.1, hdc_14.2, hdd_42⟩) ⟨Nat.le_of_ble_eq_true rfl, Nat.le_of_ble_eq_true rfl⟩) ⟨fun a U g mk q => by obtain ⟨q0, qP, qK⟩ := q; exact ⟨q0, qP, va_K.moved (u := U) (U := U.calling g mk a) (Vm.Alike.refl U.vm) qK⟩, va_recv hKc hPc (ci := 12) (q0 := 0) rfl rfl, fun U hU hW => ⟨rfl, by rw [hU]; exact hPc, va_K.moved hW.alike hKc⟩⟩ rfl rfl hl.1 rfl (lv_room (Nat.le_of_ble_eq_true rfl)) dX12_months_17 ⟨Nat.le_of_ble_eq_true rfl, Nat.le_of_ble_eq_true rfl⟩) (fun r_5 hw => ?_)
    try dsimp only at hw
    obtain ⟨hw, hb_r_5⟩ := hw
    have hq_r_5 : r_5 = (fq_isAsked f_landHas a0 a1.toInt64) := hw
    refine lv_if_eq (tgt := 33) hx hb dX12_months_20 (by decide) (fun c_6 => ?_) (fun c_6 => ?_)
    · refine lv_iconst (v := (-1)) hx hb dX12_months_33 (by decide) ?_
      refine W.widen (k := 0) (n := 0) (by omega) (by omega) ?_
      have hP9 := hP
      have hD9 := hD
      have hK9 := hK.sub (tys' := []) [] rfl
      exact W.iret (v := (-1)) hx hb hr (fun t ht hW => ⟨⟨(-1), 0, rfl, ((fun e9 => ⟨by rw [e9], by rw [e9]⟩ : fq_months f_landHas a0 a1 a2 (g 12) = ((-1 : Int32), (0 : Int32)) → _) ((by rw [fq_months]; (try rw [← hq_r_1]); (try rw [xL_eq]); (try rw [if_neg c_4]); (try rw [← hq_r_5]); (try rw [xL_eq]); (try rw [if_pos c_6]); try rfl))), by rw [ht]; exact hP9, va_K.moved hW.alike hK9, hD9⟩, hS.F ht⟩) hS.2.2 dX12_months_34
    · refine lv_iload_n hx hb dX12_months_23 rfl (lv_at hl 3 rfl) ?_
      refine lv_iconst (v := 1) hx hb dX12_months_24 (by decide) ?_
      refine lv_bipush (v := 99) hx hb dX12_months_25 (by decide) ?_
      have hPc := hP.sub (ws' := []) [] rfl
      have hKc := hK.sub (tys' := []) [] rfl
      refine vp_callSi (W.runS (As := [.int a2, .int 1, .int 99]) (rest := []) ⟨hx, hb, hml, hown, htw⟩ (gq_isIn l dC dI a2 (1 : Int32) (99 : Int32)) (va_cwS 3 htw (xg_S (ck_26 _ (List.mem_of_getElem? (i := 17) rfl)) (ck_26 _ (List.mem_of_getElem? (i := 18) rfl)) (ck_1 _ (List.mem_of_getElem? (i := 5) rfl)) (ck_26 _ (List.mem_of_getElem? (i := 19) rfl))) rfl rfl rfl (by exact ⟨hdc_14.1, hdc_14.2, hdd_38⟩) ⟨Nat.le_of_ble_eq_true rfl, Nat.le_of_ble_eq_true rfl⟩) ⟨fun a U g mk q => by obtain ⟨q0, qP, qK⟩ := q; exact ⟨q0, qP, va_K.moved (u := U) (U := U.calling g mk a) (Vm.Alike.refl U.vm) qK⟩, fun U hU hW => ⟨rfl, by rw [hU]; exact hPc, va_K.moved hW.alike hKc⟩⟩ rfl rfl hl.1 rfl (lv_room (Nat.le_of_ble_eq_true rfl)) dX12_months_27 ⟨Nat.le_of_ble_eq_true rfl, Nat.le_of_ble_eq_true rfl⟩) (fun r_7 hw => ?_)
      try dsimp only at hw
      obtain ⟨hw, hb_r_7, hp_8, hp_9⟩ := hw
      have hq_r_7 : r_7 = (fq_isIn a2 (1 : Int32) (99 : Int32)) := hw
      refine lv_if_ne (tgt := 35) hx hb dX12_months_30 (by decide) (fun c_10 => ?_) (fun c_10 => ?_)
      · refine lv_iload_n hx hb dX12_months_35 rfl (lv_at hl 2 rfl) ?_
        refine lv_i2l (v := a1.toInt64) hx hb dX12_months_36 rfl ?_
        refine lv_lstore (lv' := [(4, .long a1.toInt64), (0, .ref mq), (1, .int a0), (2, .int a1), (3, .int a2)]) hx hb dX12_months_37 hl (by decide) rfl (fun ls hl => ?_)
        have hloop_11 : ∀ (n : Nat) (L4d : Int64) (hf_d : (a1.toInt64 + 1000).toInt ≤ L4d.toInt + (n : Int)) (hI_d : fq_months f_landHas a0 a1 a2 (g 12) = fq_months_d f_landHas a0 a1 a2 n L4d) (H : Heap) (locs : List Loc) (ls : Array Slot) (hP : va_P (dC, dI) vwCl [(mq, .inr (12, mF (upd g 2 0) gl rf)), (eA0 (rf 29) (ck 29) 24 f_landHas)] H) (hD : va_D A [(mq, .inr (12, mF (upd g 2 0) gl rf)), (eA0 (rf 29) (ck 29) 24 f_landHas)]) (hS : va_S A s.heap H locs) (hl : lv_has ls 6 [(4, .long L4d), (0, .ref mq), (1, .int a0), (2, .int a1), (3, .int a2)]), W p l e (headSpec (Cond.code yX12_months cX12_months 6 (some .int) :: wsL_law) ({ frames := 3, cells := 0, slots := 0, locals := 69 })).room s m ([.ref mq, .int a0, .int a1, .int a2] : List Value).toArray below meth c H locs 0 0 (MQ below (va_Qi (fun (r : Int32) (u : (Int32)) => r = (fq_months f_landHas a0 a1 a2 (g 12)).1 ∧ u = (fq_months f_landHas a0 a1 a2 (g 12)).2) (fun (u : (Int32)) t => va_P (dC, dI) vwCl [(mq, .inr (12, mF (upd g 2 u) gl rf)), (eA0 (rf 29) (ck 29) 24 f_landHas)] t.heap ∧ va_K (dC, dI) vwCl [] t ∧ va_D A [(mq, .inr (12, mF (upd g 2 u) gl rf)), (eA0 (rf 29) (ck 29) 24 f_landHas)]) A) ([.ref mq, .int a0, .int a1, .int a2] : List Value).toArray s 0 0 A) (F0 m 39 ls []) := by
          intro n
          induction n with
          | zero =>
            intro L4d hf_d hI_d H locs ls hP hD hS hl
            refine lv_lload hx hb dX12_months_39 (lv_at hl 0 rfl) ?_
            refine lv_iload_n hx hb dX12_months_41 rfl (lv_at hl 3 rfl) ?_
            refine lv_i2l (v := a1.toInt64) hx hb dX12_months_42 rfl ?_
            refine lv_ldc2 (v := 1000) hx hb hown (htw _ (ck_48 _ (List.mem_of_getElem? (i := 3) rfl))) dX12_months_43 ?_
            refine lv_ladd hx hb dX12_months_46 ?_
            refine W.lcmp hx hb dX12_months_47 ?_
            refine lv_if_ge (tgt := 89) hx hb dX12_months_48 (by decide) (fun c_12 => ?_) (fun c_12 => absurd c_12 (fun h => h ((lg_cmp_ge _ _).mpr (xj_z hf_d))))
            refine lv_bipush (v := (-2)) hx hb dX12_months_89 (by decide) ?_
            refine W.widen (k := 0) (n := 0) (by omega) (by omega) ?_
            obtain ⟨hP9, hD9⟩ := zsub2 (ws' := [(mq, .inr (12, mF (upd g 2 0) gl rf)), (eA0 (rf 29) (ck 29) 24 f_landHas)]) hP hD [0, 1] (by decide) rfl
            have hK9 := hK.sub (tys' := []) [] rfl
            exact W.iret (v := (-2)) hx hb hr (fun t ht hW => ⟨⟨(-2), 0, rfl, ((fun e9 => ⟨by rw [e9], by rw [e9]⟩ : fq_months f_landHas a0 a1 a2 (g 12) = ((-2 : Int32), (0 : Int32)) → _) (hI_d.trans (by rw [fq_months_d]; try rfl))), by rw [ht]; exact hP9, va_K.moved hW.alike hK9, hD9⟩, hS.F ht⟩) hS.2.2 dX12_months_91
          | succ n ih =>
            intro L4d hf_d hI_d H locs ls hP hD hS hl
            refine lv_lload hx hb dX12_months_39 (lv_at hl 0 rfl) ?_
            refine lv_iload_n hx hb dX12_months_41 rfl (lv_at hl 3 rfl) ?_
            refine lv_i2l (v := a1.toInt64) hx hb dX12_months_42 rfl ?_
            refine lv_ldc2 (v := 1000) hx hb hown (htw _ (ck_48 _ (List.mem_of_getElem? (i := 3) rfl))) dX12_months_43 ?_
            refine lv_ladd hx hb dX12_months_46 ?_
            refine W.lcmp hx hb dX12_months_47 ?_
            refine lv_if_ge (tgt := 89) hx hb dX12_months_48 (by decide) (fun c_13 => ?_) (fun c_13 => ?_)
            · refine lv_bipush (v := (-2)) hx hb dX12_months_89 (by decide) ?_
              refine W.widen (k := 0) (n := 0) (by omega) (by omega) ?_
              obtain ⟨hP9, hD9⟩ := zsub2 (ws' := [(mq, .inr (12, mF (upd g 2 0) gl rf)), (eA0 (rf 29) (ck 29) 24 f_landHas)]) hP hD [0, 1] (by decide) rfl
              have hK9 := hK.sub (tys' := []) [] rfl
              exact W.iret (v := (-2)) hx hb hr (fun t ht hW => ⟨⟨(-2), 0, rfl, ((fun e9 => ⟨by rw [e9], by rw [e9]⟩ : fq_months f_landHas a0 a1 a2 (g 12) = ((-2 : Int32), (0 : Int32)) → _) (hI_d.trans (by rw [fq_months_d]; (try rw [if_pos c_13]); try rfl))), by rw [ht]; exact hP9, va_K.moved hW.alike hK9, hD9⟩, hS.F ht⟩) hS.2.2 dX12_months_91
            · refine lv_aload_n hx hb dX12_months_51 rfl (lv_at hl 1 rfl) ?_
              refine lv_iload_n hx hb dX12_months_52 rfl (lv_at hl 2 rfl) ?_
              refine lv_lload hx hb dX12_months_53 (lv_at hl 0 rfl) ?_
              have hPc := hP.sub (ws' := [(mq, .inr (12, mF (upd g 2 0) gl rf)), (eA0 (rf 29) (ck 29) 24 f_landHas)]) [0, 1] rfl
              have hKc := hK.sub (tys' := [((ck 29), .int)]) [0] rfl
              refine vp_callSi (W.runV (As := [.int a0, .long L4d]) (rest := []) ⟨hx, hb, hml, hown, htw⟩ (gq_isAsked l dC dI mq (upd g 2 0) gl rf ck f_landHas a0 L4d (gq_months_s2 (y0 := a0) (y1 := g 12) (hp_2.resolve_left c_4) (hp_3.resolve_left c_4) hln0 hln4) (gq_months_s3 (y0 := a0) (y1 := g 12) (hp_2.resolve_left c_4) (hp_3.resolve_left c_4) hln0 hln4)) (cwV 2 htw (xg_V (ck_35 _ (List.mem_of_getElem? (i := 2) rfl)) (ck_35 _ (List.mem_of_getElem? (i := 3) rfl)) (ck_35 _ (List.mem_of_getElem? (i := 4) rfl)) (ck_1 _ (List.mem_of_getElem? (i := 5) rfl)) (ck_35 _ (List.mem_of_getElem? (i := 5) rfl))) rfl rfl rfl (by exact ⟨rfl, hdc_14.1, hdc_14.2, hdd_42⟩) ⟨Nat.le_of_ble_eq_true rfl, Nat.le_of_ble_eq_true rfl⟩) ⟨fun a U g mk q => by obtain ⟨q0, qP, qK⟩ := q; exact ⟨q0, qP, va_K.moved (u := U) (U := U.calling g mk a) (Vm.Alike.refl U.vm) qK⟩, va_recv hKc hPc (ci := 12) (q0 := 0) rfl rfl, fun U hU hW => ⟨rfl, by rw [hU]; exact hPc, va_K.moved hW.alike hKc⟩⟩ rfl rfl hl.1 rfl (lv_room (Nat.le_of_ble_eq_true rfl)) dX12_months_55 ⟨Nat.le_of_ble_eq_true rfl, Nat.le_of_ble_eq_true rfl⟩) (fun r_14 hw => ?_)
              try dsimp only at hw
              obtain ⟨hw, hb_r_14⟩ := hw
              have hq_r_14 : r_14 = (fq_isAsked f_landHas a0 L4d) := hw
              refine lv_if_eq (tgt := 89) hx hb dX12_months_58 (by decide) (fun c_15 => ?_) (fun c_15 => ?_)
              · refine lv_bipush (v := (-2)) hx hb dX12_months_89 (by decide) ?_
                refine W.widen (k := 0) (n := 0) (by omega) (by omega) ?_
                obtain ⟨hP9, hD9⟩ := zsub2 (ws' := [(mq, .inr (12, mF (upd g 2 0) gl rf)), (eA0 (rf 29) (ck 29) 24 f_landHas)]) hP hD [0, 1] (by decide) rfl
                have hK9 := hK.sub (tys' := []) [] rfl
                exact W.iret (v := (-2)) hx hb hr (fun t ht hW => ⟨⟨(-2), 0, rfl, ((fun e9 => ⟨by rw [e9], by rw [e9]⟩ : fq_months f_landHas a0 a1 a2 (g 12) = ((-2 : Int32), (0 : Int32)) → _) (hI_d.trans (by rw [fq_months_d]; (try rw [if_neg c_13]); (try rw [← hq_r_14]); (try rw [xL_eq]); (try rw [if_pos c_15]); try rfl))), by rw [ht]; exact hP9, va_K.moved hW.alike hK9, hD9⟩, hS.F ht⟩) hS.2.2 dX12_months_91
              · refine lv_aload_n hx hb dX12_months_61 rfl (lv_at hl 1 rfl) ?_
                refine lv_iload_n hx hb dX12_months_62 rfl (lv_at hl 2 rfl) ?_
                refine lv_lload hx hb dX12_months_63 (lv_at hl 0 rfl) ?_
                have hPc := hP.sub (ws' := [(mq, .inr (12, mF (upd g 2 0) gl rf)), (eA0 (rf 29) (ck 29) 24 f_landHas)]) [0, 1] rfl
                have hKc := hK.sub (tys' := [((ck 29), .int)]) [0] rfl
                refine vp_callSl (W.runV (As := [.int a0, .long L4d]) (rest := []) ⟨hx, hb, hml, hown, htw⟩ (gq_lengthOf l dC dI mq (upd g 2 0) gl rf ck f_landHas a0 L4d (gq_months_s4 (y0 := a0) (y1 := g 12) (hp_2.resolve_left c_4) (hp_3.resolve_left c_4) hln0 hln4) (gq_months_s5 (y0 := a0) (y1 := g 12) (hp_2.resolve_left c_4) (hp_3.resolve_left c_4) hln0 hln4)) (cwV 2 htw (xg_V (ck_30 _ (List.mem_of_getElem? (i := 3) rfl)) (ck_30 _ (List.mem_of_getElem? (i := 4) rfl)) (ck_30 _ (List.mem_of_getElem? (i := 5) rfl)) (ck_1 _ (List.mem_of_getElem? (i := 5) rfl)) (ck_30 _ (List.mem_of_getElem? (i := 6) rfl))) rfl rfl rfl (by exact ⟨rfl, hdc_14.1, hdc_14.2, hdd_41⟩) ⟨Nat.le_of_ble_eq_true rfl, Nat.le_of_ble_eq_true rfl⟩) ⟨fun a U g mk q => by obtain ⟨q0, qP, qK⟩ := q; exact ⟨q0, qP, va_K.moved (u := U) (U := U.calling g mk a) (Vm.Alike.refl U.vm) qK⟩, va_recv hKc hPc (ci := 12) (q0 := 0) rfl rfl, fun U hU hW => ⟨rfl, by rw [hU]; exact hPc, va_K.moved hW.alike hKc⟩⟩ rfl rfl hl.1 rfl (lv_room (Nat.le_of_ble_eq_true rfl)) dX12_months_65 ⟨Nat.le_of_ble_eq_true rfl, Nat.le_of_ble_eq_true rfl⟩) (fun r_16 hw => ?_)
                try dsimp only at hw
                have hq_r_16 : r_16 = (fq_lengthOf f_landHas a0 L4d) := hw
                refine lv_iload_n hx hb dX12_months_68 rfl (lv_at hl 4 rfl) ?_
                refine lv_i2l (v := a2.toInt64) hx hb dX12_months_69 rfl ?_
                refine lv_lrem hx hb dX12_months_70 (xg_nz64 (gq_months_s6 (y0 := a2) (hp_8.resolve_left c_10) (hp_9.resolve_left c_10))) ?_
                refine lv_lconst (v := 0) hx hb dX12_months_71 (by decide) ?_
                refine W.lcmp hx hb dX12_months_72 ?_
                refine lv_if_ne (tgt := 80) hx hb dX12_months_73 (by decide) (fun c_17 => ?_) (fun c_17 => ?_)
                · refine lv_lload hx hb dX12_months_80 (lv_at hl 0 rfl) ?_
                  refine lv_lconst (v := 1) hx hb dX12_months_82 (by decide) ?_
                  refine lv_ladd hx hb dX12_months_83 ?_
                  refine lv_lstore (lv' := [(4, .long (L4d + 1)), (0, .ref mq), (1, .int a0), (2, .int a1), (3, .int a2)]) hx hb dX12_months_84 hl (by decide) rfl (fun ls hl => ?_)
                  refine lv_goto (tgt := 39) hx hb dX12_months_86 (by decide) ?_
                  exact ih (L4d + 1) (by rw [xj_s (Int64.not_le.mp (fun q => c_13 ((lg_cmp_ge _ _).mpr q)))]; omega) (hI_d.trans (by rw [fq_months_d]; (try rw [if_neg c_13]); (try rw [← hq_r_14]); (try rw [xL_eq]); (try rw [if_neg c_15]); (try rw [← hq_r_16]); (try rw [xL_eq]); (try rw [if_neg c_17]); try rfl)) H locs ls hP hD hS (lv_sub hl [0, 1, 2, 3, 4] rfl)
                · refine lv_lload hx hb dX12_months_76 (lv_at hl 0 rfl) ?_
                  refine lv_l2i (v := L4d.toInt32) hx hb dX12_months_78 rfl ?_
                  refine W.widen (k := 0) (n := 0) (by omega) (by omega) ?_
                  obtain ⟨hP9, hD9⟩ := zsub2 (ws' := [(mq, .inr (12, mF (upd g 2 0) gl rf)), (eA0 (rf 29) (ck 29) 24 f_landHas)]) hP hD [0, 1] (by decide) rfl
                  have hK9 := hK.sub (tys' := []) [] rfl
                  exact W.iret (v := L4d.toInt32) hx hb hr (fun t ht hW => ⟨⟨L4d.toInt32, 0, rfl, ((fun e9 => ⟨by rw [e9], by rw [e9]⟩ : fq_months f_landHas a0 a1 a2 (g 12) = (L4d.toInt32, (0 : Int32)) → _) (hI_d.trans (by rw [fq_months_d]; (try rw [if_neg c_13]); (try rw [← hq_r_14]); (try rw [xL_eq]); (try rw [if_neg c_15]); (try rw [← hq_r_16]); (try rw [xL_eq]); (try rw [if_pos c_17]); try rfl))), by rw [ht]; exact hP9, va_K.moved hW.alike hK9, hD9⟩, hS.F ht⟩) hS.2.2 dX12_months_79
        exact hloop_11 1000 a1.toInt64 (by rw [xj_add xj_i.1 xj_i.2 (by decide) (by decide)]; have e9 : (1000 : Int64).toInt = 1000 := rfl; omega) ((by rw [fq_months]; (try rw [← hq_r_1]); (try rw [xL_eq]); (try rw [if_neg c_4]); (try rw [← hq_r_5]); (try rw [xL_eq]); (try rw [if_neg c_6]); (try rw [← hq_r_7]); (try rw [xL_eq]); (try rw [if_neg c_10]); try rfl)) _ _ ls hP hD hS (lv_sub hl [0, 1, 2, 3, 4] rfl)
      · refine lv_iconst (v := (-1)) hx hb dX12_months_33 (by decide) ?_
        refine W.widen (k := 0) (n := 0) (by omega) (by omega) ?_
        have hP9 := hP
        have hD9 := hD
        have hK9 := hK.sub (tys' := []) [] rfl
        exact W.iret (v := (-1)) hx hb hr (fun t ht hW => ⟨⟨(-1), 0, rfl, ((fun e9 => ⟨by rw [e9], by rw [e9]⟩ : fq_months f_landHas a0 a1 a2 (g 12) = ((-1 : Int32), (0 : Int32)) → _) ((by rw [fq_months]; (try rw [← hq_r_1]); (try rw [xL_eq]); (try rw [if_neg c_4]); (try rw [← hq_r_5]); (try rw [xL_eq]); (try rw [if_neg c_6]); (try rw [← hq_r_7]); (try rw [xL_eq]); (try rw [if_pos c_10]); try rfl))), by rw [ht]; exact hP9, va_K.moved hW.alike hK9, hD9⟩, hS.F ht⟩) hS.2.2 dX12_months_34

def fq_next_j (f_sky : Nat → Int32) (a2 : Int32) (a3 : Int32) (L6d : Int64) : (Int32) := (if a2 < 0 then (if a3 < 0 then (1 : Int32) else (xL ((fq_roundOf f_sky L6d (1 : Int32))) (fun r_30 => (if r_30 = a3 then (1 : Int32) else (0 : Int32))))) else (xL ((fq_roundOf f_sky L6d (0 : Int32))) (fun r_32 => (if r_32 = a2 then (if a3 < 0 then (1 : Int32) else (xL ((fq_roundOf f_sky L6d (1 : Int32))) (fun r_35 => (if r_35 = a3 then (1 : Int32) else (0 : Int32))))) else (0 : Int32)))))
def fq_next_d (f_sky : Nat → Int32) (f_landHas : Nat → Int32) (a0 : Int64) (a1 : Int32) (a2 : Int32) (a3 : Int32) (m_lands : Int32) : Nat → (Int64) → (Int64) → (Int64) → Int64 × (Int32) × (Int64) × (Int64)
  | 0, L6d, m_gotYear_d, m_gotDay_d => ((-2 : Int64), (0 : Int32), m_gotYear_d, m_gotDay_d)
  | n + 1, L6d, m_gotYear_d, m_gotDay_d => (if 0 ≤ lg_cmp L6d (a0 + 20000) then ((-2 : Int64), (0 : Int32), m_gotYear_d, m_gotDay_d) else (if 0 < lg_cmp L6d 1000000000000 then ((-2 : Int64), (0 : Int32), m_gotYear_d, m_gotDay_d) else (xL (fq_next_j f_sky a2 a3 L6d) (fun X_16 => (if X_16 = 0 then fq_next_d f_sky f_landHas a0 a1 a2 a3 m_lands n (L6d + 1) m_gotYear_d m_gotDay_d else (if a1 < 0 then (L6d, (0 : Int32), m_gotYear_d, m_gotDay_d) else (if m_lands ≤ 0 then fq_next_d f_sky f_landHas a0 a1 a2 a3 m_lands n (L6d + 1) m_gotYear_d m_gotDay_d else (xL ((fq_date1 f_landHas (0 : Int32) L6d m_gotYear_d m_gotDay_d)) (fun X_25 => (if X_25.1 = 0 then fq_next_d f_sky f_landHas a0 a1 a2 a3 m_lands n (L6d + 1) X_25.2.1 X_25.2.2 else (if lg_cmp X_25.2.2 a1.toInt64 = 0 then (L6d, (0 : Int32), X_25.2.1, X_25.2.2) else fq_next_d f_sky f_landHas a0 a1 a2 a3 m_lands n (L6d + 1) X_25.2.1 X_25.2.2)))))))))))
def fq_next_j2 (f_sky : Nat → Int32) (a2 : Int32) (a3 : Int32) (L6d : Int64) : (Int32) := (if a2 < 0 then (if a3 < 0 then (1 : Int32) else (xL ((fq_roundOf f_sky L6d (1 : Int32))) (fun r_67 => (if r_67 = a3 then (1 : Int32) else (0 : Int32))))) else (xL ((fq_roundOf f_sky L6d (0 : Int32))) (fun r_69 => (if r_69 = a2 then (if a3 < 0 then (1 : Int32) else (xL ((fq_roundOf f_sky L6d (1 : Int32))) (fun r_72 => (if r_72 = a3 then (1 : Int32) else (0 : Int32))))) else (0 : Int32)))))
def fq_next_d2 (f_sky : Nat → Int32) (f_landHas : Nat → Int32) (a0 : Int64) (a1 : Int32) (a2 : Int32) (a3 : Int32) (m_lands : Int32) : Nat → (Int64) → (Int64) → (Int64) → Int64 × (Int32) × (Int64) × (Int64)
  | 0, L6d, m_gotYear_d, m_gotDay_d => ((-2 : Int64), (0 : Int32), m_gotYear_d, m_gotDay_d)
  | n + 1, L6d, m_gotYear_d, m_gotDay_d => (if 0 ≤ lg_cmp L6d (a0 + 20000) then ((-2 : Int64), (0 : Int32), m_gotYear_d, m_gotDay_d) else (if 0 < lg_cmp L6d 1000000000000 then ((-2 : Int64), (0 : Int32), m_gotYear_d, m_gotDay_d) else (xL (fq_next_j2 f_sky a2 a3 L6d) (fun X_53 => (if X_53 = 0 then fq_next_d2 f_sky f_landHas a0 a1 a2 a3 m_lands n (L6d + 1) m_gotYear_d m_gotDay_d else (if a1 < 0 then (L6d, (0 : Int32), m_gotYear_d, m_gotDay_d) else (if m_lands ≤ 0 then fq_next_d2 f_sky f_landHas a0 a1 a2 a3 m_lands n (L6d + 1) m_gotYear_d m_gotDay_d else (xL ((fq_date1 f_landHas (0 : Int32) L6d m_gotYear_d m_gotDay_d)) (fun X_62 => (if X_62.1 = 0 then fq_next_d2 f_sky f_landHas a0 a1 a2 a3 m_lands n (L6d + 1) X_62.2.1 X_62.2.2 else (if lg_cmp X_62.2.2 a1.toInt64 = 0 then (L6d, (0 : Int32), X_62.2.1, X_62.2.2) else fq_next_d2 f_sky f_landHas a0 a1 a2 a3 m_lands n (L6d + 1) X_62.2.1 X_62.2.2)))))))))))
def fq_next (f_sky : Nat → Int32) (f_landHas : Nat → Int32) (a0 : Int64) (a1 : Int32) (a2 : Int32) (a3 : Int32) (m_lands : Int32) (m_gotYear : Int64) (m_gotDay : Int64) : Int64 × (Int32) × (Int64) × (Int64) := (xL ((fq_isCount a0)) (fun r_1 => (if r_1 = 0 then ((-1 : Int64), (0 : Int32), m_gotYear, m_gotDay) else (if a1 = (-1) then (xL ((fq_isIn a2 (-1 : Int32) ((f_sky ((0 : Int32).toNatClampNeg)) - 1))) (fun r_4 => (if r_4 = 0 then ((-1 : Int64), (0 : Int32), m_gotYear, m_gotDay) else (xL ((fq_isIn a3 (-1 : Int32) (7 : Int32))) (fun r_8 => (if r_8 = 0 then ((-1 : Int64), (0 : Int32), m_gotYear, m_gotDay) else fq_next_d f_sky f_landHas a0 a1 a2 a3 m_lands 20000 a0 m_gotYear m_gotDay)))))) else (xL ((fq_isIn a1 (1 : Int32) (99999 : Int32))) (fun r_37 => (if r_37 = 0 then ((-1 : Int64), (0 : Int32), m_gotYear, m_gotDay) else (xL ((fq_isIn a2 (-1 : Int32) ((f_sky ((0 : Int32).toNatClampNeg)) - 1))) (fun r_41 => (if r_41 = 0 then ((-1 : Int64), (0 : Int32), m_gotYear, m_gotDay) else (xL ((fq_isIn a3 (-1 : Int32) (7 : Int32))) (fun r_45 => (if r_45 = 0 then ((-1 : Int64), (0 : Int32), m_gotYear, m_gotDay) else fq_next_d2 f_sky f_landHas a0 a1 a2 a3 m_lands 20000 a0 m_gotYear m_gotDay)))))))))))))
theorem gq_next_s0 {y0 : Int64} {y1 : Int64} (h0 : ¬ ((y1 + 20000) ≤ y0)) (h1 : ¬ (1000000000000 < y0)) (h2 : ¬ (y0 < 0)) (h3 : y0 ≤ 1000000000001) (h4 : ¬ (y1 < 0)) (h5 : y1 ≤ 1000000000000) : ¬ ((y0 + 1) < 0) := by lia
theorem gq_next_s1 {y0 : Int64} {y1 : Int64} (h0 : ¬ ((y1 + 20000) ≤ y0)) (h1 : ¬ (1000000000000 < y0)) (h2 : ¬ (y0 < 0)) (h3 : y0 ≤ 1000000000001) (h4 : ¬ (y1 < 0)) (h5 : y1 ≤ 1000000000000) : (y0 + 1) ≤ 1000000000001 := by lia
theorem gq_next_s2 {y0 : Int64} {y1 : Int64} (h0 : ¬ ((y1 + 20000) ≤ y0)) (h1 : ¬ (1000000000000 < y0)) (h2 : ¬ (y0 < 0)) (h3 : y0 ≤ 1000000000001) (h4 : ¬ (y1 < 0)) (h5 : y1 ≤ 1000000000000) : ¬ ((y0 + 1) < 0) := gq_next_s0 h0 h1 h2 h3 h4 h5
theorem gq_next_s3 {y0 : Int64} {y1 : Int64} (h0 : ¬ ((y1 + 20000) ≤ y0)) (h1 : ¬ (1000000000000 < y0)) (h2 : ¬ (y0 < 0)) (h3 : y0 ≤ 1000000000001) (h4 : ¬ (y1 < 0)) (h5 : y1 ≤ 1000000000000) : (y0 + 1) ≤ 1000000000001 := gq_next_s1 h0 h1 h2 h3 h4 h5
theorem gq_next_s4  : ¬ ((0 : Int32) < 0) := (by decide)
theorem gq_next_s5  : (0 : Int32) ≤ 7 := (by decide)
theorem gq_next_s6 {y0 : Int64} {y1 : Int64} (h0 : ¬ ((y1 + 20000) ≤ y0)) (h1 : ¬ (1000000000000 < y0)) (h2 : ¬ (y0 < 0)) (h3 : y0 ≤ 1000000000001) (h4 : ¬ (y1 < 0)) (h5 : y1 ≤ 1000000000000) : ¬ (y0 < 0) := h2
theorem gq_next_s7 {y0 : Int64} {y1 : Int64} (h0 : ¬ ((y1 + 20000) ≤ y0)) (h1 : ¬ (1000000000000 < y0)) (h2 : ¬ (y0 < 0)) (h3 : y0 ≤ 1000000000001) (h4 : ¬ (y1 < 0)) (h5 : y1 ≤ 1000000000000) : y0 ≤ 2000000000000 := by lia
theorem gq_next_s8 {y0 : Int32} (h0 : ¬ (y0 ≤ 0)) (h1 : ¬ (y0 < 0)) (h2 : y0 ≤ 4) : 0 < y0 := by lia
theorem gq_next_s9 {y0 : Int64} {y1 : Int64} (h0 : ¬ ((y1 + 20000) ≤ y0)) (h1 : ¬ (1000000000000 < y0)) (h2 : ¬ (y0 < 0)) (h3 : y0 ≤ 1000000000001) (h4 : ¬ (y1 < 0)) (h5 : y1 ≤ 1000000000000) : ¬ ((y0 + 1) < 0) := gq_next_s0 h0 h1 h2 h3 h4 h5
theorem gq_next_s10 {y0 : Int64} {y1 : Int64} (h0 : ¬ ((y1 + 20000) ≤ y0)) (h1 : ¬ (1000000000000 < y0)) (h2 : ¬ (y0 < 0)) (h3 : y0 ≤ 1000000000001) (h4 : ¬ (y1 < 0)) (h5 : y1 ≤ 1000000000000) : (y0 + 1) ≤ 1000000000001 := gq_next_s1 h0 h1 h2 h3 h4 h5
theorem gq_next_s11 {y0 : Int64} {y1 : Int64} (h0 : ¬ ((y1 + 20000) ≤ y0)) (h1 : ¬ (1000000000000 < y0)) (h2 : ¬ (y0 < 0)) (h3 : y0 ≤ 1000000000001) (h4 : ¬ (y1 < 0)) (h5 : y1 ≤ 1000000000000) : ¬ ((y0 + 1) < 0) := gq_next_s0 h0 h1 h2 h3 h4 h5
theorem gq_next_s12 {y0 : Int64} {y1 : Int64} (h0 : ¬ ((y1 + 20000) ≤ y0)) (h1 : ¬ (1000000000000 < y0)) (h2 : ¬ (y0 < 0)) (h3 : y0 ≤ 1000000000001) (h4 : ¬ (y1 < 0)) (h5 : y1 ≤ 1000000000000) : (y0 + 1) ≤ 1000000000001 := gq_next_s1 h0 h1 h2 h3 h4 h5
theorem gq_next_s13 {y0 : Int64} (h0 : ¬ (y0 < 0)) (h1 : y0 ≤ 1000000000000) : ¬ (y0 < (-3000000000)) ∧ y0 ≤ 2000000000000 := by lia
theorem gq_next_s14 {y0 : Int64} (h0 : ¬ (y0 < 0)) (h1 : y0 ≤ 1000000000000) : ¬ (y0 < 0) := h0
theorem gq_next_s15 {y0 : Int64} (h0 : ¬ (y0 < 0)) (h1 : y0 ≤ 1000000000000) : y0 ≤ 1000000000001 := by lia
theorem gq_next_s16 {y0 : Int64} {y1 : Int64} (h0 : ¬ ((y1 + 20000) ≤ y0)) (h1 : ¬ (1000000000000 < y0)) (h2 : ¬ (y0 < 0)) (h3 : y0 ≤ 1000000000001) (h4 : ¬ (y1 < 0)) (h5 : y1 ≤ 1000000000000) : ¬ ((y0 + 1) < 0) := gq_next_s0 h0 h1 h2 h3 h4 h5
theorem gq_next_s17 {y0 : Int64} {y1 : Int64} (h0 : ¬ ((y1 + 20000) ≤ y0)) (h1 : ¬ (1000000000000 < y0)) (h2 : ¬ (y0 < 0)) (h3 : y0 ≤ 1000000000001) (h4 : ¬ (y1 < 0)) (h5 : y1 ≤ 1000000000000) : (y0 + 1) ≤ 1000000000001 := gq_next_s1 h0 h1 h2 h3 h4 h5
theorem gq_next_s18 {y0 : Int64} {y1 : Int64} (h0 : ¬ ((y1 + 20000) ≤ y0)) (h1 : ¬ (1000000000000 < y0)) (h2 : ¬ (y0 < 0)) (h3 : y0 ≤ 1000000000001) (h4 : ¬ (y1 < 0)) (h5 : y1 ≤ 1000000000000) : ¬ ((y0 + 1) < 0) := gq_next_s0 h0 h1 h2 h3 h4 h5
theorem gq_next_s19 {y0 : Int64} {y1 : Int64} (h0 : ¬ ((y1 + 20000) ≤ y0)) (h1 : ¬ (1000000000000 < y0)) (h2 : ¬ (y0 < 0)) (h3 : y0 ≤ 1000000000001) (h4 : ¬ (y1 < 0)) (h5 : y1 ≤ 1000000000000) : (y0 + 1) ≤ 1000000000001 := gq_next_s1 h0 h1 h2 h3 h4 h5
theorem gq_next_s20  : ¬ ((0 : Int32) < 0) := (by decide)
theorem gq_next_s21  : (0 : Int32) ≤ 7 := (by decide)
theorem gq_next_s22 {y0 : Int64} {y1 : Int64} (h0 : ¬ ((y1 + 20000) ≤ y0)) (h1 : ¬ (1000000000000 < y0)) (h2 : ¬ (y0 < 0)) (h3 : y0 ≤ 1000000000001) (h4 : ¬ (y1 < 0)) (h5 : y1 ≤ 1000000000000) : ¬ (y0 < 0) := gq_next_s6 h0 h1 h2 h3 h4 h5
theorem gq_next_s23 {y0 : Int64} {y1 : Int64} (h0 : ¬ ((y1 + 20000) ≤ y0)) (h1 : ¬ (1000000000000 < y0)) (h2 : ¬ (y0 < 0)) (h3 : y0 ≤ 1000000000001) (h4 : ¬ (y1 < 0)) (h5 : y1 ≤ 1000000000000) : y0 ≤ 2000000000000 := gq_next_s7 h0 h1 h2 h3 h4 h5
theorem gq_next_s24 {y0 : Int32} (h0 : ¬ (y0 ≤ 0)) (h1 : ¬ (y0 < 0)) (h2 : y0 ≤ 4) : 0 < y0 := by lia
theorem gq_next_s25 {y0 : Int64} {y1 : Int64} (h0 : ¬ ((y1 + 20000) ≤ y0)) (h1 : ¬ (1000000000000 < y0)) (h2 : ¬ (y0 < 0)) (h3 : y0 ≤ 1000000000001) (h4 : ¬ (y1 < 0)) (h5 : y1 ≤ 1000000000000) : ¬ ((y0 + 1) < 0) := gq_next_s0 h0 h1 h2 h3 h4 h5
theorem gq_next_s26 {y0 : Int64} {y1 : Int64} (h0 : ¬ ((y1 + 20000) ≤ y0)) (h1 : ¬ (1000000000000 < y0)) (h2 : ¬ (y0 < 0)) (h3 : y0 ≤ 1000000000001) (h4 : ¬ (y1 < 0)) (h5 : y1 ≤ 1000000000000) : (y0 + 1) ≤ 1000000000001 := gq_next_s1 h0 h1 h2 h3 h4 h5
theorem gq_next_s27 {y0 : Int64} {y1 : Int64} (h0 : ¬ ((y1 + 20000) ≤ y0)) (h1 : ¬ (1000000000000 < y0)) (h2 : ¬ (y0 < 0)) (h3 : y0 ≤ 1000000000001) (h4 : ¬ (y1 < 0)) (h5 : y1 ≤ 1000000000000) : ¬ ((y0 + 1) < 0) := gq_next_s0 h0 h1 h2 h3 h4 h5
theorem gq_next_s28 {y0 : Int64} {y1 : Int64} (h0 : ¬ ((y1 + 20000) ≤ y0)) (h1 : ¬ (1000000000000 < y0)) (h2 : ¬ (y0 < 0)) (h3 : y0 ≤ 1000000000001) (h4 : ¬ (y1 < 0)) (h5 : y1 ≤ 1000000000000) : (y0 + 1) ≤ 1000000000001 := gq_next_s1 h0 h1 h2 h3 h4 h5
theorem gq_next_s29 {y0 : Int64} (h0 : ¬ (y0 < 0)) (h1 : y0 ≤ 1000000000000) : ¬ (y0 < (-3000000000)) ∧ y0 ≤ 2000000000000 := by lia
theorem gq_next_s30 {y0 : Int64} (h0 : ¬ (y0 < 0)) (h1 : y0 ≤ 1000000000000) : ¬ (y0 < 0) := h0
theorem gq_next_s31 {y0 : Int64} (h0 : ¬ (y0 < 0)) (h1 : y0 ≤ 1000000000000) : y0 ≤ 1000000000001 := by lia
theorem dX12_next_0 : decode cX12_next 0 = .ok (.aload_n 0, 1) := zk_42 (by decide +kernel)
theorem dX12_next_1 : decode cX12_next 1 = .ok (.iconst 0, 1) := zk_3 (by decide +kernel)
theorem dX12_next_2 : decode cX12_next 2 = .ok (.putfield 119, 3) := zk_181 (by decide +kernel)
theorem dX12_next_5 : decode cX12_next 5 = .ok (.lload_n 1, 1) := zk_31 (by decide +kernel)
theorem dX12_next_6 : decode cX12_next 6 = .ok (.invokestatic 413, 3) := zk_184 (by decide +kernel)
theorem dX12_next_9 : decode cX12_next 9 = .ok (.ifCond .eq 46, 3) := zk_153 (by decide +kernel)
theorem dX12_next_55 : decode cX12_next 55 = .ok (.ldc2_w 273, 3) := zk_20 (by decide +kernel)
theorem dX12_next_58 : decode cX12_next 58 = .ok (.lreturn, 1) := zk_173 (by decide +kernel)
theorem dX12_next_12 : decode cX12_next 12 = .ok (.iload_n 3, 1) := zk_29 (by decide +kernel)
theorem dX12_next_13 : decode cX12_next 13 = .ok (.iconst (-1), 1) := zk_2 (by decide +kernel)
theorem dX12_next_14 : decode cX12_next 14 = .ok (.if_icmp .eq 13, 3) := zk_159 (by decide +kernel)
theorem dX12_next_27 : decode cX12_next 27 = .ok (.iload 4, 2) := zk_21 (by decide +kernel)
theorem dX12_next_29 : decode cX12_next 29 = .ok (.iconst (-1), 1) := zk_2 (by decide +kernel)
theorem dX12_next_30 : decode cX12_next 30 = .ok (.aload_n 0, 1) := zk_42 (by decide +kernel)
theorem dX12_next_31 : decode cX12_next 31 = .ok (.getfield 20, 3) := zk_180 (by decide +kernel)
theorem dX12_next_34 : decode cX12_next 34 = .ok (.iconst 0, 1) := zk_3 (by decide +kernel)
theorem dX12_next_35 : decode cX12_next 35 = .ok (.iaload, 1) := zk_46 (by decide +kernel)
theorem dX12_next_36 : decode cX12_next 36 = .ok (.iconst 1, 1) := zk_4 (by decide +kernel)
theorem dX12_next_37 : decode cX12_next 37 = .ok (.isub, 1) := zk_100 (by decide +kernel)
theorem dX12_next_38 : decode cX12_next 38 = .ok (.invokestatic 166, 3) := zk_184 (by decide +kernel)
theorem dX12_next_41 : decode cX12_next 41 = .ok (.ifCond .eq 14, 3) := zk_153 (by decide +kernel)
theorem dX12_next_44 : decode cX12_next 44 = .ok (.iload 5, 2) := zk_21 (by decide +kernel)
theorem dX12_next_46 : decode cX12_next 46 = .ok (.iconst (-1), 1) := zk_2 (by decide +kernel)
theorem dX12_next_47 : decode cX12_next 47 = .ok (.bipush 7, 2) := zk_16 (by decide +kernel)
theorem dX12_next_49 : decode cX12_next 49 = .ok (.invokestatic 166, 3) := zk_184 (by decide +kernel)
theorem dX12_next_52 : decode cX12_next 52 = .ok (.ifCond .ne 7, 3) := zk_154 (by decide +kernel)
theorem dX12_next_59 : decode cX12_next 59 = .ok (.lload_n 1, 1) := zk_31 (by decide +kernel)
theorem dX12_next_60 : decode cX12_next 60 = .ok (.lstore 6, 2) := zk_55 (by decide +kernel)
theorem dX12_next_62 : decode cX12_next 62 = .ok (.lload 6, 2) := zk_22 (by decide +kernel)
theorem dX12_next_64 : decode cX12_next 64 = .ok (.lload_n 1, 1) := zk_31 (by decide +kernel)
theorem dX12_next_65 : decode cX12_next 65 = .ok (.ldc2_w 454, 3) := zk_20 (by decide +kernel)
theorem dX12_next_68 : decode cX12_next 68 = .ok (.ladd, 1) := zk_97 (by decide +kernel)
theorem dX12_next_69 : decode cX12_next 69 = .ok (.lcmp, 1) := zk_148 (by decide +kernel)
theorem dX12_next_70 : decode cX12_next 70 = .ok (.ifCond .ge 101, 3) := zk_156 (by decide +kernel)
theorem dX12_next_171 : decode cX12_next 171 = .ok (.ldc2_w 456, 3) := zk_20 (by decide +kernel)
theorem dX12_next_174 : decode cX12_next 174 = .ok (.lreturn, 1) := zk_173 (by decide +kernel)
theorem dX12_next_73 : decode cX12_next 73 = .ok (.lload 6, 2) := zk_22 (by decide +kernel)
theorem dX12_next_75 : decode cX12_next 75 = .ok (.ldc2_w 125, 3) := zk_20 (by decide +kernel)
theorem dX12_next_78 : decode cX12_next 78 = .ok (.lcmp, 1) := zk_148 (by decide +kernel)
theorem dX12_next_79 : decode cX12_next 79 = .ok (.ifCond .gt 92, 3) := zk_157 (by decide +kernel)
theorem dX12_next_82 : decode cX12_next 82 = .ok (.iload 4, 2) := zk_21 (by decide +kernel)
theorem dX12_next_121 : decode cX12_next 121 = .ok (.istore 8, 2) := zk_54 (by decide +kernel)
theorem dX12_next_123 : decode cX12_next 123 = .ok (.iload 8, 2) := zk_21 (by decide +kernel)
theorem dX12_next_125 : decode cX12_next 125 = .ok (.ifCond .eq 37, 3) := zk_153 (by decide +kernel)
theorem dX12_next_162 : decode cX12_next 162 = .ok (.lload 6, 2) := zk_22 (by decide +kernel)
theorem dX12_next_164 : decode cX12_next 164 = .ok (.lconst 1, 1) := zk_10 (by decide +kernel)
theorem dX12_next_165 : decode cX12_next 165 = .ok (.ladd, 1) := zk_97 (by decide +kernel)
theorem dX12_next_166 : decode cX12_next 166 = .ok (.lstore 6, 2) := zk_55 (by decide +kernel)
theorem dX12_next_168 : decode cX12_next 168 = .ok (.goto (-106), 3) := zk_167 (by decide +kernel)
theorem dX12_next_128 : decode cX12_next 128 = .ok (.iload_n 3, 1) := zk_29 (by decide +kernel)
theorem dX12_next_129 : decode cX12_next 129 = .ok (.ifCond .lt 30, 3) := zk_155 (by decide +kernel)
theorem dX12_next_159 : decode cX12_next 159 = .ok (.lload 6, 2) := zk_22 (by decide +kernel)
theorem dX12_next_161 : decode cX12_next 161 = .ok (.lreturn, 1) := zk_173 (by decide +kernel)
theorem dX12_next_132 : decode cX12_next 132 = .ok (.aload_n 0, 1) := zk_42 (by decide +kernel)
theorem dX12_next_133 : decode cX12_next 133 = .ok (.getfield 217, 3) := zk_180 (by decide +kernel)
theorem dX12_next_136 : decode cX12_next 136 = .ok (.ifCond .le 26, 3) := zk_158 (by decide +kernel)
theorem dX12_next_139 : decode cX12_next 139 = .ok (.aload_n 0, 1) := zk_42 (by decide +kernel)
theorem dX12_next_140 : decode cX12_next 140 = .ok (.iconst 0, 1) := zk_3 (by decide +kernel)
theorem dX12_next_141 : decode cX12_next 141 = .ok (.lload 6, 2) := zk_22 (by decide +kernel)
theorem dX12_next_143 : decode cX12_next 143 = .ok (.invokevirtual 416, 3) := zk_182 (by decide +kernel)
theorem dX12_next_146 : decode cX12_next 146 = .ok (.ifCond .eq 16, 3) := zk_153 (by decide +kernel)
theorem dX12_next_149 : decode cX12_next 149 = .ok (.aload_n 0, 1) := zk_42 (by decide +kernel)
theorem dX12_next_150 : decode cX12_next 150 = .ok (.getfield 399, 3) := zk_180 (by decide +kernel)
theorem dX12_next_153 : decode cX12_next 153 = .ok (.iload_n 3, 1) := zk_29 (by decide +kernel)
theorem dX12_next_154 : decode cX12_next 154 = .ok (.i2l, 1) := zk_133 (by decide +kernel)
theorem dX12_next_155 : decode cX12_next 155 = .ok (.lcmp, 1) := zk_148 (by decide +kernel)
theorem dX12_next_156 : decode cX12_next 156 = .ok (.ifCond .ne 6, 3) := zk_154 (by decide +kernel)
theorem dX12_next_84 : decode cX12_next 84 = .ok (.ifCond .lt 15, 3) := zk_155 (by decide +kernel)
theorem dX12_next_99 : decode cX12_next 99 = .ok (.iload 5, 2) := zk_21 (by decide +kernel)
theorem dX12_next_101 : decode cX12_next 101 = .ok (.ifCond .lt 15, 3) := zk_155 (by decide +kernel)
theorem dX12_next_116 : decode cX12_next 116 = .ok (.iconst 1, 1) := zk_4 (by decide +kernel)
theorem dX12_next_117 : decode cX12_next 117 = .ok (.goto 4, 3) := zk_167 (by decide +kernel)
theorem dX12_next_104 : decode cX12_next 104 = .ok (.aload_n 0, 1) := zk_42 (by decide +kernel)
theorem dX12_next_105 : decode cX12_next 105 = .ok (.lload 6, 2) := zk_22 (by decide +kernel)
theorem dX12_next_107 : decode cX12_next 107 = .ok (.iconst 1, 1) := zk_4 (by decide +kernel)
theorem dX12_next_108 : decode cX12_next 108 = .ok (.invokevirtual 424, 3) := zk_182 (by decide +kernel)
theorem dX12_next_111 : decode cX12_next 111 = .ok (.iload 5, 2) := zk_21 (by decide +kernel)
theorem dX12_next_113 : decode cX12_next 113 = .ok (.if_icmp .ne 7, 3) := zk_160 (by decide +kernel)
theorem dX12_next_120 : decode cX12_next 120 = .ok (.iconst 0, 1) := zk_3 (by decide +kernel)
theorem dX12_next_87 : decode cX12_next 87 = .ok (.aload_n 0, 1) := zk_42 (by decide +kernel)
theorem dX12_next_88 : decode cX12_next 88 = .ok (.lload 6, 2) := zk_22 (by decide +kernel)
theorem dX12_next_90 : decode cX12_next 90 = .ok (.iconst 0, 1) := zk_3 (by decide +kernel)
theorem dX12_next_91 : decode cX12_next 91 = .ok (.invokevirtual 424, 3) := zk_182 (by decide +kernel)
theorem dX12_next_94 : decode cX12_next 94 = .ok (.iload 4, 2) := zk_21 (by decide +kernel)
theorem dX12_next_96 : decode cX12_next 96 = .ok (.if_icmp .ne 24, 3) := zk_160 (by decide +kernel)
theorem dX12_next_17 : decode cX12_next 17 = .ok (.iload_n 3, 1) := zk_29 (by decide +kernel)
theorem dX12_next_18 : decode cX12_next 18 = .ok (.iconst 1, 1) := zk_4 (by decide +kernel)
theorem dX12_next_19 : decode cX12_next 19 = .ok (.ldc 159, 2) := zk_18 (by decide +kernel)
theorem dX12_next_21 : decode cX12_next 21 = .ok (.invokestatic 166, 3) := zk_184 (by decide +kernel)
theorem dX12_next_24 : decode cX12_next 24 = .ok (.ifCond .eq 31, 3) := zk_153 (by decide +kernel)
set_option maxHeartbeats 4000000 in
set_option maxRecDepth 100000 in
theorem gq_next (l : Launch) (dC : Nat → ClassId) (dI : Nat → Nat → Nat) (mq : Nat) (g : Nat → Int32) (gl : Nat → Int64) (rf : Nat → Nat) (ck : Nat → ClassId) (f_sky : Nat → Int32) (f_landHas : Nat → Int32) (a0 : Int64) (a1 : Int32) (a2 : Int32) (a3 : Int32) (sz : Nat) (hln0 : ¬ (g 12) < 0) (hln4 : (g 12) ≤ 4) (hLZ : ∀ k : Int32, ¬ k < 0 → k < (g 12) → ¬ (f_landHas ((3 * k).toNatClampNeg)) = 0) (hs0 : ¬ (f_sky 0) < 1) (hs2 : ¬ (f_sky 2) < 1) (hs5 : ¬ (f_sky 5) < 1) : Met l yX12_next (Cond.code yX12_next cX12_next 9 (some .long) :: wsL_law) ({ frames := 2, cells := 0, slots := 0, locals := 56 }) (va_Pc [.ref mq, .long a0, .int a1, .int a2, .int a3] (fun U => U.heap.size = sz ∧ va_P (dC, dI) vwCl [(mq, .inr (12, mF g gl rf)), (eA0 (rf 24) (ck 24) 14 f_sky), (eA0 (rf 29) (ck 29) 24 f_landHas)] U.heap ∧ va_K (dC, dI) vwCl [((ck 24), .int), ((ck 29), .int)] U ∧ va_D (fun _ => True) [(mq, .inr (12, mF g gl rf)), (eA0 (rf 24) (ck 24) 14 f_sky), (eA0 (rf 29) (ck 29) 24 f_landHas)])) (va_Ql (fun (r : Int64) (u : (Int32) × (Int64) × (Int64)) => r = (fq_next f_sky f_landHas a0 a1 a2 a3 (g 12) (gl 53) (gl 54)).1 ∧ u = (fq_next f_sky f_landHas a0 a1 a2 a3 (g 12) (gl 53) (gl 54)).2) (fun (u : (Int32) × (Int64) × (Int64)) t => va_P (dC, dI) vwCl [(mq, .inr (12, mF (upd g 2 u.1) (vp_updL (vp_updL gl 53 u.2.1) 54 u.2.2) rf)), (eA0 (rf 24) (ck 24) 14 f_sky), (eA0 (rf 29) (ck 29) 24 f_landHas)] t.heap ∧ va_K (dC, dI) vwCl [] t ∧ va_D (va_A [(mq, .inr (12, mF g gl rf)), (eA0 (rf 24) (ck 24) 14 f_sky), (eA0 (rf 29) (ck 29) 24 f_landHas)] sz) [(mq, .inr (12, mF (upd g 2 u.1) (vp_updL (vp_updL gl 53 u.2.1) 54 u.2.2) rf)), (eA0 (rf 24) (ck 24) 14 f_sky), (eA0 (rf 29) (ck 29) 24 f_landHas)]) (va_A [(mq, .inr (12, mF g gl rf)), (eA0 (rf 24) (ck 24) 14 f_sky), (eA0 (rf 29) (ck 29) 24 f_landHas)] sz)) 0 0 (va_A [(mq, .inr (12, mF g gl rf)), (eA0 (rf 24) (ck 24) 14 f_sky), (eA0 (rf 29) (ck 29) 24 f_landHas)] sz) := by
  refine Met.ofW (cc := cX12_next) (maxL := 9) (ret := (some .long)) (by decide) rfl ?_
  intro p e s m args below meth c s₁ B hml hv
  obtain ⟨rfl, hsz, hP, hK, hD0⟩ := hv
  have hx := B.exec
  have hb := B.bytes
  have hr := B.returns
  have hts := atoms_spec (ws := Cond.code yX12_next cX12_next 9 (some .long) :: wsL_law) B.pre
  have htw : ∀ w ∈ wsL_law, w.before _ s = true := fun w h => hts w (List.mem_cons_of_mem _ h)
  have hown : s.vm.findClass RX12 = some m.cls := findClass_of_methodNamed B.named
  have hlocks := B.notSynchronized
  subst hsz
  have hD := hD0.self (sz := s.heap.size)
  generalize hAe : va_A [(mq, .inr (12, mF g gl rf)), (eA0 (rf 24) (ck 24) 14 f_sky), (eA0 (rf 29) (ck 29) 24 f_landHas)] s.heap.size = A at hD ⊢
  have hA : ∀ q : Nat, s.heap.size ≤ q → A q := fun q h => by rw [← hAe]; exact Or.inr h
  obtain ⟨H, rH⟩ : ∃ z : Heap, z = s.heap := ⟨_, rfl⟩
  have hS : va_S A s.heap H [] := by rw [rH]; exact va_S.rf
  have hP : va_P (dC, dI) vwCl [(mq, .inr (12, mF g gl rf)), (eA0 (rf 24) (ck 24) 14 f_sky), (eA0 (rf 29) (ck 29) 24 f_landHas)] H := by rw [rH]; exact hP
  rw [← rH]
  have hl := lv_entry ([.ref mq, .long a0, .int a1, .int a2, .int a3]) (n := 9) (Nat.le_of_ble_eq_true rfl)
  rw [lg_entry_eq]
  generalize (lg_sl ([.ref mq, .long a0, .int a1, .int a2, .int a3]) ++ List.replicate (9 - (lg_sl ([.ref mq, .long a0, .int a1, .int a2, .int a3])).length) Slot.unset).toArray = ls at hl ⊢
  have hl : lv_has ls 9 [(0, .ref mq), (1, .long a0), (3, .int a1), (4, .int a2), (5, .int a3)] := hl
  refine lv_aload_n hx hb dX12_next_0 rfl (lv_at hl 0 rfl) ?_
  refine lv_iconst (v := 0) hx hb dX12_next_1 (by decide) ?_
  refine va_put (D := (dC, dI)) (ci := 12) (v := .int 0) (ty := tyX12 2) (C := RX12) (T := TX12) (N := 76) hx hb htw inlX12 tyX12 tyX12_ok nmX12 hown hK hP hD hS 0 rfl rfl 2 (by decide) (htw _ (ck_12 _ (List.mem_of_getElem? (i := 16) rfl))) (fun _ h9 => h9) rfl (tyX12_ok 2 (by decide)) rfl rfl (Nat.le_of_ble_eq_true rfl) dX12_next_2 (fun H locs hP hD hS => ?_)
  obtain ⟨hP, hD⟩ := zre [(mq, .inr (12, mF (upd g 2 0) gl rf)), (eA0 (rf 24) (ck 24) 14 f_sky), (eA0 (rf 29) (ck 29) 24 f_landHas)] hP hD rfl
  refine lv_lload_n hx hb dX12_next_5 rfl (lv_at hl 1 rfl) ?_
  have hPc := hP.sub (ws' := []) [] rfl
  have hKc := hK.sub (tys' := []) [] rfl
  refine vp_callSi (W.runS (As := [.long a0]) (rest := []) ⟨hx, hb, hml, hown, htw⟩ (gq_isCount l dC dI a0) (va_cwS 1 htw (xg_S (ck_36 _ (List.mem_of_getElem? (i := 8) rfl)) (ck_36 _ (List.mem_of_getElem? (i := 9) rfl)) (ck_1 _ (List.mem_of_getElem? (i := 5) rfl)) (ck_36 _ (List.mem_of_getElem? (i := 10) rfl))) rfl rfl rfl (by exact ⟨hdc_14.1, hdc_14.2, hdd_1⟩) ⟨Nat.le_of_ble_eq_true rfl, Nat.le_of_ble_eq_true rfl⟩) ⟨fun a U g mk q => by obtain ⟨q0, qP, qK⟩ := q; exact ⟨q0, qP, va_K.moved (u := U) (U := U.calling g mk a) (Vm.Alike.refl U.vm) qK⟩, fun U hU hW => ⟨rfl, by rw [hU]; exact hPc, va_K.moved hW.alike hKc⟩⟩ rfl rfl hl.1 rfl (lv_room (Nat.le_of_ble_eq_true rfl)) dX12_next_6 ⟨Nat.le_of_ble_eq_true rfl, Nat.le_of_ble_eq_true rfl⟩) (fun r_1 hw => ?_)
  try dsimp only at hw
  obtain ⟨hw, hb_r_1⟩ := hw
  have hq_r_1 : r_1 = (fq_isCount a0) := hw
  refine lv_if_eq (tgt := 55) hx hb dX12_next_9 (by decide) (fun c_2 => ?_) (fun c_2 => ?_)
  · refine lv_ldc2 (v := (-1)) hx hb hown (htw _ (ck_29 _ (List.mem_of_getElem? (i := 13) rfl))) dX12_next_55 ?_
    refine W.widen (k := 0) (n := 0) (by omega) (by omega) ?_
    have hP9 := hP
    have hD9 := hD
    have hK9 := hK.sub (tys' := []) [] rfl
    exact W.lret (v := (-1)) hx hb hr (fun t ht hW => ⟨⟨(-1), (0, (gl 53), (gl 54)), rfl, ((fun e9 => ⟨by rw [e9], by rw [e9]⟩ : fq_next f_sky f_landHas a0 a1 a2 a3 (g 12) (gl 53) (gl 54) = ((-1 : Int64), (0 : Int32), (gl 53), (gl 54)) → _) ((by rw [fq_next]; (try rw [← hq_r_1]); (try rw [xL_eq]); (try rw [if_pos c_2]); try rfl))), by rw [ht]; exact hP9, va_K.moved hW.alike hK9, hD9⟩, hS.F ht⟩) hS.2.2 dX12_next_58
  · refine lv_iload_n hx hb dX12_next_12 rfl (lv_at hl 2 rfl) ?_
    refine lv_iconst (v := (-1)) hx hb dX12_next_13 (by decide) ?_
    refine lv_icmp_eq (tgt := 27) hx hb dX12_next_14 (by decide) (fun c_3 => ?_) (fun c_3 => ?_)
    · refine lv_iload hx hb dX12_next_27 (lv_at hl 3 rfl) ?_
      refine lv_iconst (v := (-1)) hx hb dX12_next_29 (by decide) ?_
      refine lv_aload_n hx hb dX12_next_30 rfl (lv_at hl 0 rfl) ?_
      refine va_get (D := (dC, dI)) (ci := 12) (v := .ref (rf 24)) (C := RX12) (T := TX12) (N := 76) hx hb htw inlX12 hown hK hP 0 rfl rfl 24 (by decide) (htw _ (ck_9 _ (List.mem_of_getElem? (i := 7) rfl))) (fun _ h9 => h9) rfl dX12_next_31 ?_
      refine lv_iconst (v := 0) hx hb dX12_next_34 (by decide) ?_
      refine va_iald hx hb hK hP 1 0 rfl rfl (by unfold vp_in; decide) dX12_next_35 ?_
      refine lv_iconst (v := 1) hx hb dX12_next_36 (by decide) ?_
      refine lv_isub hx hb dX12_next_37 ?_
      have hPc := hP.sub (ws' := []) [] rfl
      have hKc := hK.sub (tys' := []) [] rfl
      refine vp_callSi (W.runS (As := [.int a2, .int (-1), .int ((f_sky ((0 : Int32).toNatClampNeg)) - 1)]) (rest := []) ⟨hx, hb, hml, hown, htw⟩ (gq_isIn l dC dI a2 (-1 : Int32) ((f_sky ((0 : Int32).toNatClampNeg)) - 1)) (va_cwS 3 htw (xg_S (ck_26 _ (List.mem_of_getElem? (i := 17) rfl)) (ck_26 _ (List.mem_of_getElem? (i := 18) rfl)) (ck_1 _ (List.mem_of_getElem? (i := 5) rfl)) (ck_26 _ (List.mem_of_getElem? (i := 19) rfl))) rfl rfl rfl (by exact ⟨hdc_14.1, hdc_14.2, hdd_38⟩) ⟨Nat.le_of_ble_eq_true rfl, Nat.le_of_ble_eq_true rfl⟩) ⟨fun a U g mk q => by obtain ⟨q0, qP, qK⟩ := q; exact ⟨q0, qP, va_K.moved (u := U) (U := U.calling g mk a) (Vm.Alike.refl U.vm) qK⟩, fun U hU hW => ⟨rfl, by rw [hU]; exact hPc, va_K.moved hW.alike hKc⟩⟩ rfl rfl hl.1 rfl (lv_room (Nat.le_of_ble_eq_true rfl)) dX12_next_38 ⟨Nat.le_of_ble_eq_true rfl, Nat.le_of_ble_eq_true rfl⟩) (fun r_4 hw => ?_)
      try dsimp only at hw
      obtain ⟨hw, hb_r_4, hp_5, hp_6⟩ := hw
      have hq_r_4 : r_4 = (fq_isIn a2 (-1 : Int32) ((f_sky ((0 : Int32).toNatClampNeg)) - 1)) := hw
      refine lv_if_eq (tgt := 55) hx hb dX12_next_41 (by decide) (fun c_7 => ?_) (fun c_7 => ?_)
      · refine lv_ldc2 (v := (-1)) hx hb hown (htw _ (ck_29 _ (List.mem_of_getElem? (i := 13) rfl))) dX12_next_55 ?_
        refine W.widen (k := 0) (n := 0) (by omega) (by omega) ?_
        have hP9 := hP
        have hD9 := hD
        have hK9 := hK.sub (tys' := []) [] rfl
        exact W.lret (v := (-1)) hx hb hr (fun t ht hW => ⟨⟨(-1), (0, (gl 53), (gl 54)), rfl, ((fun e9 => ⟨by rw [e9], by rw [e9]⟩ : fq_next f_sky f_landHas a0 a1 a2 a3 (g 12) (gl 53) (gl 54) = ((-1 : Int64), (0 : Int32), (gl 53), (gl 54)) → _) ((by rw [fq_next]; (try rw [← hq_r_1]); (try rw [xL_eq]); (try rw [if_neg c_2]); (try rw [if_pos c_3]); (try rw [← hq_r_4]); (try rw [xL_eq]); (try rw [if_pos c_7]); try rfl))), by rw [ht]; exact hP9, va_K.moved hW.alike hK9, hD9⟩, hS.F ht⟩) hS.2.2 dX12_next_58
      · refine lv_iload hx hb dX12_next_44 (lv_at hl 4 rfl) ?_
        refine lv_iconst (v := (-1)) hx hb dX12_next_46 (by decide) ?_
        refine lv_bipush (v := 7) hx hb dX12_next_47 (by decide) ?_
        have hPc := hP.sub (ws' := []) [] rfl
        have hKc := hK.sub (tys' := []) [] rfl
        refine vp_callSi (W.runS (As := [.int a3, .int (-1), .int 7]) (rest := []) ⟨hx, hb, hml, hown, htw⟩ (gq_isIn l dC dI a3 (-1 : Int32) (7 : Int32)) (va_cwS 3 htw (xg_S (ck_26 _ (List.mem_of_getElem? (i := 17) rfl)) (ck_26 _ (List.mem_of_getElem? (i := 18) rfl)) (ck_1 _ (List.mem_of_getElem? (i := 5) rfl)) (ck_26 _ (List.mem_of_getElem? (i := 19) rfl))) rfl rfl rfl (by exact ⟨hdc_14.1, hdc_14.2, hdd_38⟩) ⟨Nat.le_of_ble_eq_true rfl, Nat.le_of_ble_eq_true rfl⟩) ⟨fun a U g mk q => by obtain ⟨q0, qP, qK⟩ := q; exact ⟨q0, qP, va_K.moved (u := U) (U := U.calling g mk a) (Vm.Alike.refl U.vm) qK⟩, fun U hU hW => ⟨rfl, by rw [hU]; exact hPc, va_K.moved hW.alike hKc⟩⟩ rfl rfl hl.1 rfl (lv_room (Nat.le_of_ble_eq_true rfl)) dX12_next_49 ⟨Nat.le_of_ble_eq_true rfl, Nat.le_of_ble_eq_true rfl⟩) (fun r_8 hw => ?_)
        try dsimp only at hw
        obtain ⟨hw, hb_r_8, hp_9, hp_10⟩ := hw
        have hq_r_8 : r_8 = (fq_isIn a3 (-1 : Int32) (7 : Int32)) := hw
        refine lv_if_ne (tgt := 59) hx hb dX12_next_52 (by decide) (fun c_11 => ?_) (fun c_11 => ?_)
        · refine lv_lload_n hx hb dX12_next_59 rfl (lv_at hl 1 rfl) ?_
          refine lv_lstore (lv' := [(6, .long a0), (0, .ref mq), (1, .long a0), (3, .int a1), (4, .int a2), (5, .int a3)]) hx hb dX12_next_60 hl (by decide) rfl (fun ls hl => ?_)
          have hloop_12 : ∀ (n : Nat) (L6d : Int64) (m_gotYear_d : Int64) (m_gotDay_d : Int64) (hf_d : (a0 + 20000).toInt ≤ L6d.toInt + (n : Int)) (h0_d : ¬ L6d < 0) (h9_d : L6d ≤ 1000000000001) (hI_d : fq_next f_sky f_landHas a0 a1 a2 a3 (g 12) (gl 53) (gl 54) = fq_next_d f_sky f_landHas a0 a1 a2 a3 (g 12) n L6d m_gotYear_d m_gotDay_d) (H : Heap) (locs : List Loc) (ls : Array Slot) (hP : va_P (dC, dI) vwCl [(mq, .inr (12, mF (upd g 2 0) (vp_updL (vp_updL gl 53 m_gotYear_d) 54 m_gotDay_d) rf)), (eA0 (rf 24) (ck 24) 14 f_sky), (eA0 (rf 29) (ck 29) 24 f_landHas)] H) (hD : va_D A [(mq, .inr (12, mF (upd g 2 0) (vp_updL (vp_updL gl 53 m_gotYear_d) 54 m_gotDay_d) rf)), (eA0 (rf 24) (ck 24) 14 f_sky), (eA0 (rf 29) (ck 29) 24 f_landHas)]) (hS : va_S A s.heap H locs) (hl : lv_has ls 9 [(6, .long L6d), (0, .ref mq), (1, .long a0), (3, .int a1), (4, .int a2), (5, .int a3)]), W p l e (headSpec (Cond.code yX12_next cX12_next 9 (some .long) :: wsL_law) ({ frames := 2, cells := 0, slots := 0, locals := 56 })).room s m ([.ref mq, .long a0, .int a1, .int a2, .int a3] : List Value).toArray below meth c H locs 0 0 (MQ below (va_Ql (fun (r : Int64) (u : (Int32) × (Int64) × (Int64)) => r = (fq_next f_sky f_landHas a0 a1 a2 a3 (g 12) (gl 53) (gl 54)).1 ∧ u = (fq_next f_sky f_landHas a0 a1 a2 a3 (g 12) (gl 53) (gl 54)).2) (fun (u : (Int32) × (Int64) × (Int64)) t => va_P (dC, dI) vwCl [(mq, .inr (12, mF (upd g 2 u.1) (vp_updL (vp_updL gl 53 u.2.1) 54 u.2.2) rf)), (eA0 (rf 24) (ck 24) 14 f_sky), (eA0 (rf 29) (ck 29) 24 f_landHas)] t.heap ∧ va_K (dC, dI) vwCl [] t ∧ va_D A [(mq, .inr (12, mF (upd g 2 u.1) (vp_updL (vp_updL gl 53 u.2.1) 54 u.2.2) rf)), (eA0 (rf 24) (ck 24) 14 f_sky), (eA0 (rf 29) (ck 29) 24 f_landHas)]) A) ([.ref mq, .long a0, .int a1, .int a2, .int a3] : List Value).toArray s 0 0 A) (F0 m 62 ls []) := by
            intro n
            induction n with
            | zero =>
              intro L6d m_gotYear_d m_gotDay_d hf_d h0_d h9_d hI_d H locs ls hP hD hS hl
              refine lv_lload hx hb dX12_next_62 (lv_at hl 0 rfl) ?_
              refine lv_lload_n hx hb dX12_next_64 rfl (lv_at hl 2 rfl) ?_
              refine lv_ldc2 (v := 20000) hx hb hown (htw _ (ck_43 _ (List.mem_of_getElem? (i := 21) rfl))) dX12_next_65 ?_
              refine lv_ladd hx hb dX12_next_68 ?_
              refine W.lcmp hx hb dX12_next_69 ?_
              refine lv_if_ge (tgt := 171) hx hb dX12_next_70 (by decide) (fun c_13 => ?_) (fun c_13 => absurd c_13 (fun h => h ((lg_cmp_ge _ _).mpr (xj_z hf_d))))
              refine lv_ldc2 (v := (-2)) hx hb hown (htw _ (ck_43 _ (List.mem_of_getElem? (i := 22) rfl))) dX12_next_171 ?_
              refine W.widen (k := 0) (n := 0) (by omega) (by omega) ?_
              obtain ⟨hP9, hD9⟩ := zsub2 (ws' := [(mq, .inr (12, mF (upd g 2 0) (vp_updL (vp_updL gl 53 m_gotYear_d) 54 m_gotDay_d) rf)), (eA0 (rf 24) (ck 24) 14 f_sky), (eA0 (rf 29) (ck 29) 24 f_landHas)]) hP hD [0, 1, 2] (by decide) rfl
              have hK9 := hK.sub (tys' := []) [] rfl
              exact W.lret (v := (-2)) hx hb hr (fun t ht hW => ⟨⟨(-2), (0, m_gotYear_d, m_gotDay_d), rfl, ((fun e9 => ⟨by rw [e9], by rw [e9]⟩ : fq_next f_sky f_landHas a0 a1 a2 a3 (g 12) (gl 53) (gl 54) = ((-2 : Int64), (0 : Int32), m_gotYear_d, m_gotDay_d) → _) (hI_d.trans (by rw [fq_next_d]; try rfl))), by rw [ht]; exact hP9, va_K.moved hW.alike hK9, hD9⟩, hS.F ht⟩) hS.2.2 dX12_next_174
            | succ n ih =>
              intro L6d m_gotYear_d m_gotDay_d hf_d h0_d h9_d hI_d H locs ls hP hD hS hl
              refine lv_lload hx hb dX12_next_62 (lv_at hl 0 rfl) ?_
              refine lv_lload_n hx hb dX12_next_64 rfl (lv_at hl 2 rfl) ?_
              refine lv_ldc2 (v := 20000) hx hb hown (htw _ (ck_43 _ (List.mem_of_getElem? (i := 21) rfl))) dX12_next_65 ?_
              refine lv_ladd hx hb dX12_next_68 ?_
              refine W.lcmp hx hb dX12_next_69 ?_
              refine lv_if_ge (tgt := 171) hx hb dX12_next_70 (by decide) (fun c_14 => ?_) (fun c_14 => ?_)
              · refine lv_ldc2 (v := (-2)) hx hb hown (htw _ (ck_43 _ (List.mem_of_getElem? (i := 22) rfl))) dX12_next_171 ?_
                refine W.widen (k := 0) (n := 0) (by omega) (by omega) ?_
                obtain ⟨hP9, hD9⟩ := zsub2 (ws' := [(mq, .inr (12, mF (upd g 2 0) (vp_updL (vp_updL gl 53 m_gotYear_d) 54 m_gotDay_d) rf)), (eA0 (rf 24) (ck 24) 14 f_sky), (eA0 (rf 29) (ck 29) 24 f_landHas)]) hP hD [0, 1, 2] (by decide) rfl
                have hK9 := hK.sub (tys' := []) [] rfl
                exact W.lret (v := (-2)) hx hb hr (fun t ht hW => ⟨⟨(-2), (0, m_gotYear_d, m_gotDay_d), rfl, ((fun e9 => ⟨by rw [e9], by rw [e9]⟩ : fq_next f_sky f_landHas a0 a1 a2 a3 (g 12) (gl 53) (gl 54) = ((-2 : Int64), (0 : Int32), m_gotYear_d, m_gotDay_d) → _) (hI_d.trans (by rw [fq_next_d]; (try rw [if_pos c_14]); try rfl))), by rw [ht]; exact hP9, va_K.moved hW.alike hK9, hD9⟩, hS.F ht⟩) hS.2.2 dX12_next_174
              · refine lv_lload hx hb dX12_next_73 (lv_at hl 0 rfl) ?_
                refine lv_ldc2 (v := 1000000000000) hx hb hown (htw _ (ck_29 _ (List.mem_of_getElem? (i := 22) rfl))) dX12_next_75 ?_
                refine W.lcmp hx hb dX12_next_78 ?_
                refine lv_if_gt (tgt := 171) hx hb dX12_next_79 (by decide) (fun c_15 => ?_) (fun c_15 => ?_)
                · refine lv_ldc2 (v := (-2)) hx hb hown (htw _ (ck_43 _ (List.mem_of_getElem? (i := 22) rfl))) dX12_next_171 ?_
                  refine W.widen (k := 0) (n := 0) (by omega) (by omega) ?_
                  obtain ⟨hP9, hD9⟩ := zsub2 (ws' := [(mq, .inr (12, mF (upd g 2 0) (vp_updL (vp_updL gl 53 m_gotYear_d) 54 m_gotDay_d) rf)), (eA0 (rf 24) (ck 24) 14 f_sky), (eA0 (rf 29) (ck 29) 24 f_landHas)]) hP hD [0, 1, 2] (by decide) rfl
                  have hK9 := hK.sub (tys' := []) [] rfl
                  exact W.lret (v := (-2)) hx hb hr (fun t ht hW => ⟨⟨(-2), (0, m_gotYear_d, m_gotDay_d), rfl, ((fun e9 => ⟨by rw [e9], by rw [e9]⟩ : fq_next f_sky f_landHas a0 a1 a2 a3 (g 12) (gl 53) (gl 54) = ((-2 : Int64), (0 : Int32), m_gotYear_d, m_gotDay_d) → _) (hI_d.trans (by rw [fq_next_d]; (try rw [if_neg c_14]); (try rw [if_pos c_15]); try rfl))), by rw [ht]; exact hP9, va_K.moved hW.alike hK9, hD9⟩, hS.F ht⟩) hS.2.2 dX12_next_174
                · refine lv_iload hx hb dX12_next_82 (lv_at hl 4 rfl) ?_
                  obtain ⟨X_16, hX_16⟩ : ∃ X9 : (Int32), X9 = fq_next_j f_sky a2 a3 L6d := ⟨_, rfl⟩
                  have hjoin_17 : ∀ (S0j : Int32)  (hE9 : X_16 = S0j) (H : Heap) (locs : List Loc) (ls : Array Slot) (hP : va_P (dC, dI) vwCl [(mq, .inr (12, mF (upd g 2 0) (vp_updL (vp_updL gl 53 m_gotYear_d) 54 m_gotDay_d) rf)), (eA0 (rf 24) (ck 24) 14 f_sky), (eA0 (rf 29) (ck 29) 24 f_landHas)] H) (hD : va_D A [(mq, .inr (12, mF (upd g 2 0) (vp_updL (vp_updL gl 53 m_gotYear_d) 54 m_gotDay_d) rf)), (eA0 (rf 24) (ck 24) 14 f_sky), (eA0 (rf 29) (ck 29) 24 f_landHas)]) (hS : va_S A s.heap H locs) (hl : lv_has ls 9 [(6, .long L6d), (0, .ref mq), (1, .long a0), (3, .int a1), (4, .int a2), (5, .int a3)]), W p l e (headSpec (Cond.code yX12_next cX12_next 9 (some .long) :: wsL_law) ({ frames := 2, cells := 0, slots := 0, locals := 56 })).room s m ([.ref mq, .long a0, .int a1, .int a2, .int a3] : List Value).toArray below meth c H locs 0 0 (MQ below (va_Ql (fun (r : Int64) (u : (Int32) × (Int64) × (Int64)) => r = (fq_next f_sky f_landHas a0 a1 a2 a3 (g 12) (gl 53) (gl 54)).1 ∧ u = (fq_next f_sky f_landHas a0 a1 a2 a3 (g 12) (gl 53) (gl 54)).2) (fun (u : (Int32) × (Int64) × (Int64)) t => va_P (dC, dI) vwCl [(mq, .inr (12, mF (upd g 2 u.1) (vp_updL (vp_updL gl 53 u.2.1) 54 u.2.2) rf)), (eA0 (rf 24) (ck 24) 14 f_sky), (eA0 (rf 29) (ck 29) 24 f_landHas)] t.heap ∧ va_K (dC, dI) vwCl [] t ∧ va_D A [(mq, .inr (12, mF (upd g 2 u.1) (vp_updL (vp_updL gl 53 u.2.1) 54 u.2.2) rf)), (eA0 (rf 24) (ck 24) 14 f_sky), (eA0 (rf 29) (ck 29) 24 f_landHas)]) A) ([.ref mq, .long a0, .int a1, .int a2, .int a3] : List Value).toArray s 0 0 A) (F0 m 121 ls [.int S0j]) := by
                    intro S0j  hE9 H locs ls hP hD hS hl
                    have hq_S0j : S0j = X_16 := by rw [hE9]
                    refine lv_istore (lv' := [(8, .int S0j), (6, .long L6d), (0, .ref mq), (1, .long a0), (3, .int a1), (4, .int a2), (5, .int a3)]) hx hb dX12_next_121 hl (by decide) rfl (fun ls hl => ?_)
                    refine lv_iload hx hb dX12_next_123 (lv_at hl 0 rfl) ?_
                    refine lv_if_eq (tgt := 162) hx hb dX12_next_125 (by decide) (fun c_18 => ?_) (fun c_18 => ?_)
                    · refine lv_lload hx hb dX12_next_162 (lv_at hl 1 rfl) ?_
                      refine lv_lconst (v := 1) hx hb dX12_next_164 (by decide) ?_
                      refine lv_ladd hx hb dX12_next_165 ?_
                      refine lv_lstore (lv' := [(6, .long (L6d + 1)), (8, .int S0j), (0, .ref mq), (1, .long a0), (3, .int a1), (4, .int a2), (5, .int a3)]) hx hb dX12_next_166 hl (by decide) rfl (fun ls hl => ?_)
                      refine lv_goto (tgt := 62) hx hb dX12_next_168 (by decide) ?_
                      exact ih (L6d + 1) m_gotYear_d m_gotDay_d (by rw [xj_s (Int64.not_le.mp (fun q => c_14 ((lg_cmp_ge _ _).mpr q)))]; omega) (gq_next_s0 (y0 := L6d) (y1 := a0) (fun q9 => c_14 ((lg_cmp_ge _ _).mpr q9)) (fun q9 => c_15 ((lg_cmp_gt _ _).mpr q9)) h0_d h9_d (xq_cnt hq_r_1 c_2).1 (xq_cnt hq_r_1 c_2).2) (gq_next_s1 (y0 := L6d) (y1 := a0) (fun q9 => c_14 ((lg_cmp_ge _ _).mpr q9)) (fun q9 => c_15 ((lg_cmp_gt _ _).mpr q9)) h0_d h9_d (xq_cnt hq_r_1 c_2).1 (xq_cnt hq_r_1 c_2).2) (hI_d.trans (by rw [fq_next_d]; (try rw [if_neg c_14]); (try rw [if_neg c_15]); (try rw [← hX_16]); (try rw [xL_eq]); (try rw [← hq_S0j]); (try rw [if_pos c_18]); try rfl)) H locs ls hP hD hS (lv_sub hl [0, 2, 3, 4, 5, 6] rfl)
                    · refine lv_iload_n hx hb dX12_next_128 rfl (lv_at hl 4 rfl) ?_
                      refine lv_if_lt (tgt := 159) hx hb dX12_next_129 (by decide) (fun c_19 => ?_) (fun c_19 => ?_)
                      · refine lv_lload hx hb dX12_next_159 (lv_at hl 1 rfl) ?_
                        refine W.widen (k := 0) (n := 0) (by omega) (by omega) ?_
                        obtain ⟨hP9, hD9⟩ := zsub2 (ws' := [(mq, .inr (12, mF (upd g 2 0) (vp_updL (vp_updL gl 53 m_gotYear_d) 54 m_gotDay_d) rf)), (eA0 (rf 24) (ck 24) 14 f_sky), (eA0 (rf 29) (ck 29) 24 f_landHas)]) hP hD [0, 1, 2] (by decide) rfl
                        have hK9 := hK.sub (tys' := []) [] rfl
                        exact W.lret (v := L6d) hx hb hr (fun t ht hW => ⟨⟨L6d, (0, m_gotYear_d, m_gotDay_d), rfl, ((fun e9 => ⟨by rw [e9], by rw [e9]⟩ : fq_next f_sky f_landHas a0 a1 a2 a3 (g 12) (gl 53) (gl 54) = (L6d, (0 : Int32), m_gotYear_d, m_gotDay_d) → _) (hI_d.trans (by rw [fq_next_d]; (try rw [if_neg c_14]); (try rw [if_neg c_15]); (try rw [← hX_16]); (try rw [xL_eq]); (try rw [← hq_S0j]); (try rw [if_neg c_18]); (try rw [if_pos c_19]); try rfl))), by rw [ht]; exact hP9, va_K.moved hW.alike hK9, hD9⟩, hS.F ht⟩) hS.2.2 dX12_next_161
                      · refine lv_aload_n hx hb dX12_next_132 rfl (lv_at hl 2 rfl) ?_
                        refine va_get (D := (dC, dI)) (ci := 12) (v := .int (g 12)) (C := RX12) (T := TX12) (N := 76) hx hb htw inlX12 hown hK hP 0 rfl rfl 12 (by decide) (htw _ (ck_11 _ (List.mem_of_getElem? (i := 9) rfl))) (fun _ h9 => h9) rfl dX12_next_133 ?_
                        refine lv_if_le (tgt := 162) hx hb dX12_next_136 (by decide) (fun c_20 => ?_) (fun c_20 => ?_)
                        · refine lv_lload hx hb dX12_next_162 (lv_at hl 1 rfl) ?_
                          refine lv_lconst (v := 1) hx hb dX12_next_164 (by decide) ?_
                          refine lv_ladd hx hb dX12_next_165 ?_
                          refine lv_lstore (lv' := [(6, .long (L6d + 1)), (8, .int S0j), (0, .ref mq), (1, .long a0), (3, .int a1), (4, .int a2), (5, .int a3)]) hx hb dX12_next_166 hl (by decide) rfl (fun ls hl => ?_)
                          refine lv_goto (tgt := 62) hx hb dX12_next_168 (by decide) ?_
                          exact ih (L6d + 1) m_gotYear_d m_gotDay_d (by rw [xj_s (Int64.not_le.mp (fun q => c_14 ((lg_cmp_ge _ _).mpr q)))]; omega) (gq_next_s2 (y0 := L6d) (y1 := a0) (fun q9 => c_14 ((lg_cmp_ge _ _).mpr q9)) (fun q9 => c_15 ((lg_cmp_gt _ _).mpr q9)) h0_d h9_d (xq_cnt hq_r_1 c_2).1 (xq_cnt hq_r_1 c_2).2) (gq_next_s3 (y0 := L6d) (y1 := a0) (fun q9 => c_14 ((lg_cmp_ge _ _).mpr q9)) (fun q9 => c_15 ((lg_cmp_gt _ _).mpr q9)) h0_d h9_d (xq_cnt hq_r_1 c_2).1 (xq_cnt hq_r_1 c_2).2) (hI_d.trans (by rw [fq_next_d]; (try rw [if_neg c_14]); (try rw [if_neg c_15]); (try rw [← hX_16]); (try rw [xL_eq]); (try rw [← hq_S0j]); (try rw [if_neg c_18]); (try rw [if_neg c_19]); (try rw [if_pos c_20]); try rfl)) H locs ls hP hD hS (lv_sub hl [0, 2, 3, 4, 5, 6] rfl)
                        · refine lv_aload_n hx hb dX12_next_139 rfl (lv_at hl 2 rfl) ?_
                          refine lv_iconst (v := 0) hx hb dX12_next_140 (by decide) ?_
                          refine lv_lload hx hb dX12_next_141 (lv_at hl 1 rfl) ?_
                          obtain ⟨hPc, hDc, hFc, hCc⟩ := zsub3 (ws' := [(mq, .inr (12, mF (upd g 2 0) (vp_updL (vp_updL gl 53 m_gotYear_d) 54 m_gotDay_d) rf)), (eA0 (rf 29) (ck 29) 24 f_landHas)]) hP hD hS hA [0, 2] (by decide) rfl
                          have hKc := hK.sub (tys' := [((ck 29), .int)]) [1] rfl
                          refine va_calli (va_runV (As := [.int 0, .long L6d]) (rest := []) ⟨hx, hb, hml, hown, htw⟩ (gq_date1 l dC dI mq (upd g 2 0) (vp_updL (vp_updL gl 53 m_gotYear_d) 54 m_gotDay_d) rf ck f_landHas (0 : Int32) L6d H.size (gq_next_s4 ) (gq_next_s5 ) (gq_next_s6 (y0 := L6d) (y1 := a0) (fun q9 => c_14 ((lg_cmp_ge _ _).mpr q9)) (fun q9 => c_15 ((lg_cmp_gt _ _).mpr q9)) h0_d h9_d (xq_cnt hq_r_1 c_2).1 (xq_cnt hq_r_1 c_2).2) (gq_next_s7 (y0 := L6d) (y1 := a0) (fun q9 => c_14 ((lg_cmp_ge _ _).mpr q9)) (fun q9 => c_15 ((lg_cmp_gt _ _).mpr q9)) h0_d h9_d (xq_cnt hq_r_1 c_2).1 (xq_cnt hq_r_1 c_2).2) (hLZ 0 (by decide) (gq_next_s8 (y0 := g 12) c_20 hln0 hln4))) (cwV 2 htw (xg_V (ck_36 _ (List.mem_of_getElem? (i := 11) rfl)) (ck_36 _ (List.mem_of_getElem? (i := 12) rfl)) (ck_36 _ (List.mem_of_getElem? (i := 13) rfl)) (ck_1 _ (List.mem_of_getElem? (i := 5) rfl)) (ck_36 _ (List.mem_of_getElem? (i := 14) rfl))) rfl rfl rfl (by exact ⟨rfl, hdc_14.1, hdc_14.2, hdd_42⟩) ⟨Nat.le_of_ble_eq_true rfl, Nat.le_of_ble_eq_true rfl⟩) ⟨fun a U g mk q => by obtain ⟨q0, q1, qP, qK, qD⟩ := q; exact ⟨q0, q1, qP, va_K.moved (u := U) (U := U.calling g mk a) (Vm.Alike.refl U.vm) qK, qD⟩, va_recv hKc hPc (ci := 12) (q0 := 0) rfl rfl, fun U hU hW => ⟨rfl, by rw [hU], by rw [hU]; exact hPc, va_K.moved hW.alike hKc, hDc.weaken (fun _ _ _ _ => trivial)⟩⟩ rfl rfl hl.1 rfl (lv_room (Nat.le_of_ble_eq_true rfl)) dX12_next_143 ⟨Nat.le_of_ble_eq_true rfl, Nat.le_of_ble_eq_true rfl⟩) hS (fun q _ h => hFc q h) hFc (fun r_21 u_22 t H1 locs ht hvm hw hB hz1 hk1 hS => ?_)
                          try dsimp only at hw
                          obtain ⟨hP1, hK1, hD1⟩ := hB
                          rw [ht] at hP1
                          have hK1 := va_K.moved hvm.symm hK1
                          have hK1 : va_K (dC, dI) vwCl [] s := hK1
                          obtain ⟨hP, hD⟩ := va_join (wr := [(eA0 (rf 24) (ck 24) 14 f_sky)]) (w1 := [(mq, .inr (12, mF (upd g 2 0) (vp_updL (vp_updL gl 53 u_22.1) 54 u_22.2) rf)), (eA0 (rf 29) (ck 29) 24 f_landHas)]) hP hD [0, 2] [1] hCc rfl (by decide) (by decide) hk1 hFc hP1 hD1
                          generalize H1 = H at hP hS ⊢
                          obtain ⟨hP, hD⟩ := zre [(eA0 (rf 24) (ck 24) 14 f_sky), (mq, .inr (12, mF (upd g 2 0) (vp_updL (vp_updL gl 53 u_22.1) 54 u_22.2) rf)), (eA0 (rf 29) (ck 29) 24 f_landHas)] hP hD rfl
                          refine W.widen (k := 0) (n := 0) (by omega) (by omega) ?_
                          obtain ⟨hw, hb_r_21⟩ := hw
                          obtain ⟨X_25, hX_25⟩ : ∃ X9 : Int32 × (Int64) × (Int64), X9 = (fq_date1 f_landHas (0 : Int32) L6d m_gotYear_d m_gotDay_d) := ⟨_, rfl⟩
                          have hq_r_21 : r_21 = X_25.1 := by rw [hX_25]; exact hw.1
                          have hq_u_22 : u_22 = X_25.2 := by rw [hX_25]; exact hw.2
                          refine lv_if_eq (tgt := 162) hx hb dX12_next_146 (by decide) (fun c_26 => ?_) (fun c_26 => ?_)
                          · refine lv_lload hx hb dX12_next_162 (lv_at hl 1 rfl) ?_
                            refine lv_lconst (v := 1) hx hb dX12_next_164 (by decide) ?_
                            refine lv_ladd hx hb dX12_next_165 ?_
                            refine lv_lstore (lv' := [(6, .long (L6d + 1)), (8, .int S0j), (0, .ref mq), (1, .long a0), (3, .int a1), (4, .int a2), (5, .int a3)]) hx hb dX12_next_166 hl (by decide) rfl (fun ls hl => ?_)
                            refine lv_goto (tgt := 62) hx hb dX12_next_168 (by decide) ?_
                            have hP := hP.sub (ws' := [(mq, .inr (12, mF (upd g 2 0) (vp_updL (vp_updL gl 53 u_22.1) 54 u_22.2) rf)), (eA0 (rf 24) (ck 24) 14 f_sky), (eA0 (rf 29) (ck 29) 24 f_landHas)]) [1, 0, 2] rfl
                            have hD := hD.sub (ws' := [(mq, .inr (12, mF (upd g 2 0) (vp_updL (vp_updL gl 53 u_22.1) 54 u_22.2) rf)), (eA0 (rf 24) (ck 24) 14 f_sky), (eA0 (rf 29) (ck 29) 24 f_landHas)]) [1, 0, 2] (by decide) rfl
                            exact ih (L6d + 1) u_22.1 u_22.2 (by rw [xj_s (Int64.not_le.mp (fun q => c_14 ((lg_cmp_ge _ _).mpr q)))]; omega) (gq_next_s9 (y0 := L6d) (y1 := a0) (fun q9 => c_14 ((lg_cmp_ge _ _).mpr q9)) (fun q9 => c_15 ((lg_cmp_gt _ _).mpr q9)) h0_d h9_d (xq_cnt hq_r_1 c_2).1 (xq_cnt hq_r_1 c_2).2) (gq_next_s10 (y0 := L6d) (y1 := a0) (fun q9 => c_14 ((lg_cmp_ge _ _).mpr q9)) (fun q9 => c_15 ((lg_cmp_gt _ _).mpr q9)) h0_d h9_d (xq_cnt hq_r_1 c_2).1 (xq_cnt hq_r_1 c_2).2) (hI_d.trans (by rw [fq_next_d]; (try rw [if_neg c_14]); (try rw [if_neg c_15]); (try rw [← hX_16]); (try rw [xL_eq]); (try rw [← hq_S0j]); (try rw [if_neg c_18]); (try rw [if_neg c_19]); (try rw [if_neg c_20]); (try rw [← hX_25]); (try rw [xL_eq]); (try rw [← hq_r_21]); (try rw [← hq_u_22]); (try rw [if_pos c_26]); try rfl)) H locs ls hP hD hS (lv_sub hl [0, 2, 3, 4, 5, 6] rfl)
                          · refine lv_aload_n hx hb dX12_next_149 rfl (lv_at hl 2 rfl) ?_
                            refine va_get (D := (dC, dI)) (ci := 12) (v := .long u_22.2) (C := RX12) (T := TX12) (N := 76) hx hb htw inlX12 hown hK hP 1 rfl rfl 54 (by decide) (htw _ (ck_36 _ (List.mem_of_getElem? (i := 7) rfl))) (fun _ h9 => h9) rfl dX12_next_150 ?_
                            refine lv_iload_n hx hb dX12_next_153 rfl (lv_at hl 4 rfl) ?_
                            refine lv_i2l (v := a1.toInt64) hx hb dX12_next_154 rfl ?_
                            refine W.lcmp hx hb dX12_next_155 ?_
                            refine lv_if_ne (tgt := 162) hx hb dX12_next_156 (by decide) (fun c_27 => ?_) (fun c_27 => ?_)
                            · refine lv_lload hx hb dX12_next_162 (lv_at hl 1 rfl) ?_
                              refine lv_lconst (v := 1) hx hb dX12_next_164 (by decide) ?_
                              refine lv_ladd hx hb dX12_next_165 ?_
                              refine lv_lstore (lv' := [(6, .long (L6d + 1)), (8, .int S0j), (0, .ref mq), (1, .long a0), (3, .int a1), (4, .int a2), (5, .int a3)]) hx hb dX12_next_166 hl (by decide) rfl (fun ls hl => ?_)
                              refine lv_goto (tgt := 62) hx hb dX12_next_168 (by decide) ?_
                              have hP := hP.sub (ws' := [(mq, .inr (12, mF (upd g 2 0) (vp_updL (vp_updL gl 53 u_22.1) 54 u_22.2) rf)), (eA0 (rf 24) (ck 24) 14 f_sky), (eA0 (rf 29) (ck 29) 24 f_landHas)]) [1, 0, 2] rfl
                              have hD := hD.sub (ws' := [(mq, .inr (12, mF (upd g 2 0) (vp_updL (vp_updL gl 53 u_22.1) 54 u_22.2) rf)), (eA0 (rf 24) (ck 24) 14 f_sky), (eA0 (rf 29) (ck 29) 24 f_landHas)]) [1, 0, 2] (by decide) rfl
                              exact ih (L6d + 1) u_22.1 u_22.2 (by rw [xj_s (Int64.not_le.mp (fun q => c_14 ((lg_cmp_ge _ _).mpr q)))]; omega) (gq_next_s11 (y0 := L6d) (y1 := a0) (fun q9 => c_14 ((lg_cmp_ge _ _).mpr q9)) (fun q9 => c_15 ((lg_cmp_gt _ _).mpr q9)) h0_d h9_d (xq_cnt hq_r_1 c_2).1 (xq_cnt hq_r_1 c_2).2) (gq_next_s12 (y0 := L6d) (y1 := a0) (fun q9 => c_14 ((lg_cmp_ge _ _).mpr q9)) (fun q9 => c_15 ((lg_cmp_gt _ _).mpr q9)) h0_d h9_d (xq_cnt hq_r_1 c_2).1 (xq_cnt hq_r_1 c_2).2) (hI_d.trans (by rw [fq_next_d]; (try rw [if_neg c_14]); (try rw [if_neg c_15]); (try rw [← hX_16]); (try rw [xL_eq]); (try rw [← hq_S0j]); (try rw [if_neg c_18]); (try rw [if_neg c_19]); (try rw [if_neg c_20]); (try rw [← hX_25]); (try rw [xL_eq]); (try rw [← hq_r_21]); (try rw [← hq_u_22]); (try rw [if_neg c_26]); (try rw [if_neg c_27]); try rfl)) H locs ls hP hD hS (lv_sub hl [0, 2, 3, 4, 5, 6] rfl)
                            · refine lv_lload hx hb dX12_next_159 (lv_at hl 1 rfl) ?_
                              refine W.widen (k := 0) (n := 0) (by omega) (by omega) ?_
                              obtain ⟨hP9, hD9⟩ := zsub2 (ws' := [(mq, .inr (12, mF (upd g 2 0) (vp_updL (vp_updL gl 53 u_22.1) 54 u_22.2) rf)), (eA0 (rf 24) (ck 24) 14 f_sky), (eA0 (rf 29) (ck 29) 24 f_landHas)]) hP hD [1, 0, 2] (by decide) rfl
                              have hK9 := hK.sub (tys' := []) [] rfl
                              exact W.lret (v := L6d) hx hb hr (fun t ht hW => ⟨⟨L6d, (0, u_22.1, u_22.2), rfl, ((fun e9 => ⟨by rw [e9], by rw [e9]⟩ : fq_next f_sky f_landHas a0 a1 a2 a3 (g 12) (gl 53) (gl 54) = (L6d, (0 : Int32), u_22.1, u_22.2) → _) (hI_d.trans (by rw [fq_next_d]; (try rw [if_neg c_14]); (try rw [if_neg c_15]); (try rw [← hX_16]); (try rw [xL_eq]); (try rw [← hq_S0j]); (try rw [if_neg c_18]); (try rw [if_neg c_19]); (try rw [if_neg c_20]); (try rw [← hX_25]); (try rw [xL_eq]); (try rw [← hq_r_21]); (try rw [← hq_u_22]); (try rw [if_neg c_26]); (try rw [if_pos c_27]); try rfl))), by rw [ht]; exact hP9, va_K.moved hW.alike hK9, hD9⟩, hS.F ht⟩) hS.2.2 dX12_next_161
                  refine lv_if_lt (tgt := 99) hx hb dX12_next_84 (by decide) (fun c_28 => ?_) (fun c_28 => ?_)
                  · refine lv_iload hx hb dX12_next_99 (lv_at hl 5 rfl) ?_
                    refine lv_if_lt (tgt := 116) hx hb dX12_next_101 (by decide) (fun c_29 => ?_) (fun c_29 => ?_)
                    · refine lv_iconst (v := 1) hx hb dX12_next_116 (by decide) ?_
                      refine lv_goto (tgt := 121) hx hb dX12_next_117 (by decide) ?_
                      exact hjoin_17 (1 : Int32)  (hX_16.trans (by rw [fq_next_j]; (try rw [if_pos c_28]); (try rw [if_pos c_29]); try rfl)) _ _ ls hP hD hS (lv_sub hl [0, 1, 2, 3, 4, 5] rfl)
                    · refine lv_aload_n hx hb dX12_next_104 rfl (lv_at hl 1 rfl) ?_
                      refine lv_lload hx hb dX12_next_105 (lv_at hl 0 rfl) ?_
                      refine lv_iconst (v := 1) hx hb dX12_next_107 (by decide) ?_
                      have hPc := hP.sub (ws' := [(mq, .inr (12, mF (upd g 2 0) (vp_updL (vp_updL gl 53 m_gotYear_d) 54 m_gotDay_d) rf)), (eA0 (rf 24) (ck 24) 14 f_sky)]) [0, 1] rfl
                      have hKc := hK.sub (tys' := [((ck 24), .int)]) [0] rfl
                      refine vp_callSi (W.runV (As := [.long L6d, .int 1]) (rest := []) ⟨hx, hb, hml, hown, htw⟩ (gq_roundOf l dC dI mq (upd g 2 0) (vp_updL (vp_updL gl 53 m_gotYear_d) 54 m_gotDay_d) rf ck f_sky L6d (1 : Int32) hs0 hs2 hs5) (cwV 2 htw (xg_V (ck_38 _ (List.mem_of_getElem? (i := 4) rfl)) (ck_38 _ (List.mem_of_getElem? (i := 5) rfl)) (ck_38 _ (List.mem_of_getElem? (i := 6) rfl)) (ck_1 _ (List.mem_of_getElem? (i := 5) rfl)) (ck_38 _ (List.mem_of_getElem? (i := 7) rfl))) rfl rfl rfl (by exact ⟨rfl, hdc_14.1, hdc_14.2, hdd_43⟩) ⟨Nat.le_of_ble_eq_true rfl, Nat.le_of_ble_eq_true rfl⟩) ⟨fun a U g mk q => by obtain ⟨q0, qP, qK⟩ := q; exact ⟨q0, qP, va_K.moved (u := U) (U := U.calling g mk a) (Vm.Alike.refl U.vm) qK⟩, va_recv hKc hPc (ci := 12) (q0 := 0) rfl rfl, fun U hU hW => ⟨rfl, by rw [hU]; exact hPc, va_K.moved hW.alike hKc⟩⟩ rfl rfl hl.1 rfl (lv_room (Nat.le_of_ble_eq_true rfl)) dX12_next_108 ⟨Nat.le_of_ble_eq_true rfl, Nat.le_of_ble_eq_true rfl⟩) (fun r_30 hw => ?_)
                      try dsimp only at hw
                      have hq_r_30 : r_30 = (fq_roundOf f_sky L6d (1 : Int32)) := hw
                      refine lv_iload hx hb dX12_next_111 (lv_at hl 5 rfl) ?_
                      refine lv_icmp_ne (tgt := 120) hx hb dX12_next_113 (by decide) (fun c_31 => ?_) (fun c_31 => ?_)
                      · refine lv_iconst (v := 0) hx hb dX12_next_120 (by decide) ?_
                        exact hjoin_17 (0 : Int32)  (hX_16.trans (by rw [fq_next_j]; (try rw [if_pos c_28]); (try rw [if_neg c_29]); (try rw [← hq_r_30]); (try rw [xL_eq]); (try rw [if_neg c_31]); try rfl)) _ _ ls hP hD hS (lv_sub hl [0, 1, 2, 3, 4, 5] rfl)
                      · refine lv_iconst (v := 1) hx hb dX12_next_116 (by decide) ?_
                        refine lv_goto (tgt := 121) hx hb dX12_next_117 (by decide) ?_
                        exact hjoin_17 (1 : Int32)  (hX_16.trans (by rw [fq_next_j]; (try rw [if_pos c_28]); (try rw [if_neg c_29]); (try rw [← hq_r_30]); (try rw [xL_eq]); (try rw [if_pos c_31]); try rfl)) _ _ ls hP hD hS (lv_sub hl [0, 1, 2, 3, 4, 5] rfl)
                  · refine lv_aload_n hx hb dX12_next_87 rfl (lv_at hl 1 rfl) ?_
                    refine lv_lload hx hb dX12_next_88 (lv_at hl 0 rfl) ?_
                    refine lv_iconst (v := 0) hx hb dX12_next_90 (by decide) ?_
                    have hPc := hP.sub (ws' := [(mq, .inr (12, mF (upd g 2 0) (vp_updL (vp_updL gl 53 m_gotYear_d) 54 m_gotDay_d) rf)), (eA0 (rf 24) (ck 24) 14 f_sky)]) [0, 1] rfl
                    have hKc := hK.sub (tys' := [((ck 24), .int)]) [0] rfl
                    refine vp_callSi (W.runV (As := [.long L6d, .int 0]) (rest := []) ⟨hx, hb, hml, hown, htw⟩ (gq_roundOf l dC dI mq (upd g 2 0) (vp_updL (vp_updL gl 53 m_gotYear_d) 54 m_gotDay_d) rf ck f_sky L6d (0 : Int32) hs0 hs2 hs5) (cwV 2 htw (xg_V (ck_38 _ (List.mem_of_getElem? (i := 4) rfl)) (ck_38 _ (List.mem_of_getElem? (i := 5) rfl)) (ck_38 _ (List.mem_of_getElem? (i := 6) rfl)) (ck_1 _ (List.mem_of_getElem? (i := 5) rfl)) (ck_38 _ (List.mem_of_getElem? (i := 7) rfl))) rfl rfl rfl (by exact ⟨rfl, hdc_14.1, hdc_14.2, hdd_43⟩) ⟨Nat.le_of_ble_eq_true rfl, Nat.le_of_ble_eq_true rfl⟩) ⟨fun a U g mk q => by obtain ⟨q0, qP, qK⟩ := q; exact ⟨q0, qP, va_K.moved (u := U) (U := U.calling g mk a) (Vm.Alike.refl U.vm) qK⟩, va_recv hKc hPc (ci := 12) (q0 := 0) rfl rfl, fun U hU hW => ⟨rfl, by rw [hU]; exact hPc, va_K.moved hW.alike hKc⟩⟩ rfl rfl hl.1 rfl (lv_room (Nat.le_of_ble_eq_true rfl)) dX12_next_91 ⟨Nat.le_of_ble_eq_true rfl, Nat.le_of_ble_eq_true rfl⟩) (fun r_32 hw => ?_)
                    try dsimp only at hw
                    have hq_r_32 : r_32 = (fq_roundOf f_sky L6d (0 : Int32)) := hw
                    refine lv_iload hx hb dX12_next_94 (lv_at hl 4 rfl) ?_
                    refine lv_icmp_ne (tgt := 120) hx hb dX12_next_96 (by decide) (fun c_33 => ?_) (fun c_33 => ?_)
                    · refine lv_iconst (v := 0) hx hb dX12_next_120 (by decide) ?_
                      exact hjoin_17 (0 : Int32)  (hX_16.trans (by rw [fq_next_j]; (try rw [if_neg c_28]); (try rw [← hq_r_32]); (try rw [xL_eq]); (try rw [if_neg c_33]); try rfl)) _ _ ls hP hD hS (lv_sub hl [0, 1, 2, 3, 4, 5] rfl)
                    · refine lv_iload hx hb dX12_next_99 (lv_at hl 5 rfl) ?_
                      refine lv_if_lt (tgt := 116) hx hb dX12_next_101 (by decide) (fun c_34 => ?_) (fun c_34 => ?_)
                      · refine lv_iconst (v := 1) hx hb dX12_next_116 (by decide) ?_
                        refine lv_goto (tgt := 121) hx hb dX12_next_117 (by decide) ?_
                        exact hjoin_17 (1 : Int32)  (hX_16.trans (by rw [fq_next_j]; (try rw [if_neg c_28]); (try rw [← hq_r_32]); (try rw [xL_eq]); (try rw [if_pos c_33]); (try rw [if_pos c_34]); try rfl)) _ _ ls hP hD hS (lv_sub hl [0, 1, 2, 3, 4, 5] rfl)
                      · refine lv_aload_n hx hb dX12_next_104 rfl (lv_at hl 1 rfl) ?_
                        refine lv_lload hx hb dX12_next_105 (lv_at hl 0 rfl) ?_
                        refine lv_iconst (v := 1) hx hb dX12_next_107 (by decide) ?_
                        have hPc := hP.sub (ws' := [(mq, .inr (12, mF (upd g 2 0) (vp_updL (vp_updL gl 53 m_gotYear_d) 54 m_gotDay_d) rf)), (eA0 (rf 24) (ck 24) 14 f_sky)]) [0, 1] rfl
                        have hKc := hK.sub (tys' := [((ck 24), .int)]) [0] rfl
                        refine vp_callSi (W.runV (As := [.long L6d, .int 1]) (rest := []) ⟨hx, hb, hml, hown, htw⟩ (gq_roundOf l dC dI mq (upd g 2 0) (vp_updL (vp_updL gl 53 m_gotYear_d) 54 m_gotDay_d) rf ck f_sky L6d (1 : Int32) hs0 hs2 hs5) (cwV 2 htw (xg_V (ck_38 _ (List.mem_of_getElem? (i := 4) rfl)) (ck_38 _ (List.mem_of_getElem? (i := 5) rfl)) (ck_38 _ (List.mem_of_getElem? (i := 6) rfl)) (ck_1 _ (List.mem_of_getElem? (i := 5) rfl)) (ck_38 _ (List.mem_of_getElem? (i := 7) rfl))) rfl rfl rfl (by exact ⟨rfl, hdc_14.1, hdc_14.2, hdd_43⟩) ⟨Nat.le_of_ble_eq_true rfl, Nat.le_of_ble_eq_true rfl⟩) ⟨fun a U g mk q => by obtain ⟨q0, qP, qK⟩ := q; exact ⟨q0, qP, va_K.moved (u := U) (U := U.calling g mk a) (Vm.Alike.refl U.vm) qK⟩, va_recv hKc hPc (ci := 12) (q0 := 0) rfl rfl, fun U hU hW => ⟨rfl, by rw [hU]; exact hPc, va_K.moved hW.alike hKc⟩⟩ rfl rfl hl.1 rfl (lv_room (Nat.le_of_ble_eq_true rfl)) dX12_next_108 ⟨Nat.le_of_ble_eq_true rfl, Nat.le_of_ble_eq_true rfl⟩) (fun r_35 hw => ?_)
                        try dsimp only at hw
                        have hq_r_35 : r_35 = (fq_roundOf f_sky L6d (1 : Int32)) := hw
                        refine lv_iload hx hb dX12_next_111 (lv_at hl 5 rfl) ?_
                        refine lv_icmp_ne (tgt := 120) hx hb dX12_next_113 (by decide) (fun c_36 => ?_) (fun c_36 => ?_)
                        · refine lv_iconst (v := 0) hx hb dX12_next_120 (by decide) ?_
                          exact hjoin_17 (0 : Int32)  (hX_16.trans (by rw [fq_next_j]; (try rw [if_neg c_28]); (try rw [← hq_r_32]); (try rw [xL_eq]); (try rw [if_pos c_33]); (try rw [if_neg c_34]); (try rw [← hq_r_35]); (try rw [xL_eq]); (try rw [if_neg c_36]); try rfl)) _ _ ls hP hD hS (lv_sub hl [0, 1, 2, 3, 4, 5] rfl)
                        · refine lv_iconst (v := 1) hx hb dX12_next_116 (by decide) ?_
                          refine lv_goto (tgt := 121) hx hb dX12_next_117 (by decide) ?_
                          exact hjoin_17 (1 : Int32)  (hX_16.trans (by rw [fq_next_j]; (try rw [if_neg c_28]); (try rw [← hq_r_32]); (try rw [xL_eq]); (try rw [if_pos c_33]); (try rw [if_neg c_34]); (try rw [← hq_r_35]); (try rw [xL_eq]); (try rw [if_pos c_36]); try rfl)) _ _ ls hP hD hS (lv_sub hl [0, 1, 2, 3, 4, 5] rfl)
          exact hloop_12 20000 a0 (gl 53) (gl 54) (by rw [xj_add (gq_next_s13 (y0 := a0) (xq_cnt hq_r_1 c_2).1 (xq_cnt hq_r_1 c_2).2).1 (gq_next_s13 (y0 := a0) (xq_cnt hq_r_1 c_2).1 (xq_cnt hq_r_1 c_2).2).2 (by decide) (by decide)]; have e9 : (20000 : Int64).toInt = 20000 := rfl; omega) (gq_next_s14 (y0 := a0) (xq_cnt hq_r_1 c_2).1 (xq_cnt hq_r_1 c_2).2) (gq_next_s15 (y0 := a0) (xq_cnt hq_r_1 c_2).1 (xq_cnt hq_r_1 c_2).2) ((by rw [fq_next]; (try rw [← hq_r_1]); (try rw [xL_eq]); (try rw [if_neg c_2]); (try rw [if_pos c_3]); (try rw [← hq_r_4]); (try rw [xL_eq]); (try rw [if_neg c_7]); (try rw [← hq_r_8]); (try rw [xL_eq]); (try rw [if_neg c_11]); try rfl)) _ _ ls hP hD hS (lv_sub hl [0, 1, 2, 3, 4, 5] rfl)
        · refine lv_ldc2 (v := (-1)) hx hb hown (htw _ (ck_29 _ (List.mem_of_getElem? (i := 13) rfl))) dX12_next_55 ?_
          refine W.widen (k := 0) (n := 0) (by omega) (by omega) ?_
          have hP9 := hP
          have hD9 := hD
          have hK9 := hK.sub (tys' := []) [] rfl
          exact W.lret (v := (-1)) hx hb hr (fun t ht hW => ⟨⟨(-1), (0, (gl 53), (gl 54)), rfl, ((fun e9 => ⟨by rw [e9], by rw [e9]⟩ : fq_next f_sky f_landHas a0 a1 a2 a3 (g 12) (gl 53) (gl 54) = ((-1 : Int64), (0 : Int32), (gl 53), (gl 54)) → _) ((by rw [fq_next]; (try rw [← hq_r_1]); (try rw [xL_eq]); (try rw [if_neg c_2]); (try rw [if_pos c_3]); (try rw [← hq_r_4]); (try rw [xL_eq]); (try rw [if_neg c_7]); (try rw [← hq_r_8]); (try rw [xL_eq]); (try rw [if_pos c_11]); try rfl))), by rw [ht]; exact hP9, va_K.moved hW.alike hK9, hD9⟩, hS.F ht⟩) hS.2.2 dX12_next_58
    · refine lv_iload_n hx hb dX12_next_17 rfl (lv_at hl 2 rfl) ?_
      refine lv_iconst (v := 1) hx hb dX12_next_18 (by decide) ?_
      refine lv_ldc (v := 99999) hx hb hown (htw _ (ck_24 _ (List.mem_of_getElem? (i := 20) rfl))) dX12_next_19 ?_
      have hPc := hP.sub (ws' := []) [] rfl
      have hKc := hK.sub (tys' := []) [] rfl
      refine vp_callSi (W.runS (As := [.int a1, .int 1, .int 99999]) (rest := []) ⟨hx, hb, hml, hown, htw⟩ (gq_isIn l dC dI a1 (1 : Int32) (99999 : Int32)) (va_cwS 3 htw (xg_S (ck_26 _ (List.mem_of_getElem? (i := 17) rfl)) (ck_26 _ (List.mem_of_getElem? (i := 18) rfl)) (ck_1 _ (List.mem_of_getElem? (i := 5) rfl)) (ck_26 _ (List.mem_of_getElem? (i := 19) rfl))) rfl rfl rfl (by exact ⟨hdc_14.1, hdc_14.2, hdd_38⟩) ⟨Nat.le_of_ble_eq_true rfl, Nat.le_of_ble_eq_true rfl⟩) ⟨fun a U g mk q => by obtain ⟨q0, qP, qK⟩ := q; exact ⟨q0, qP, va_K.moved (u := U) (U := U.calling g mk a) (Vm.Alike.refl U.vm) qK⟩, fun U hU hW => ⟨rfl, by rw [hU]; exact hPc, va_K.moved hW.alike hKc⟩⟩ rfl rfl hl.1 rfl (lv_room (Nat.le_of_ble_eq_true rfl)) dX12_next_21 ⟨Nat.le_of_ble_eq_true rfl, Nat.le_of_ble_eq_true rfl⟩) (fun r_37 hw => ?_)
      try dsimp only at hw
      obtain ⟨hw, hb_r_37, hp_38, hp_39⟩ := hw
      have hq_r_37 : r_37 = (fq_isIn a1 (1 : Int32) (99999 : Int32)) := hw
      refine lv_if_eq (tgt := 55) hx hb dX12_next_24 (by decide) (fun c_40 => ?_) (fun c_40 => ?_)
      · refine lv_ldc2 (v := (-1)) hx hb hown (htw _ (ck_29 _ (List.mem_of_getElem? (i := 13) rfl))) dX12_next_55 ?_
        refine W.widen (k := 0) (n := 0) (by omega) (by omega) ?_
        have hP9 := hP
        have hD9 := hD
        have hK9 := hK.sub (tys' := []) [] rfl
        exact W.lret (v := (-1)) hx hb hr (fun t ht hW => ⟨⟨(-1), (0, (gl 53), (gl 54)), rfl, ((fun e9 => ⟨by rw [e9], by rw [e9]⟩ : fq_next f_sky f_landHas a0 a1 a2 a3 (g 12) (gl 53) (gl 54) = ((-1 : Int64), (0 : Int32), (gl 53), (gl 54)) → _) ((by rw [fq_next]; (try rw [← hq_r_1]); (try rw [xL_eq]); (try rw [if_neg c_2]); (try rw [if_neg c_3]); (try rw [← hq_r_37]); (try rw [xL_eq]); (try rw [if_pos c_40]); try rfl))), by rw [ht]; exact hP9, va_K.moved hW.alike hK9, hD9⟩, hS.F ht⟩) hS.2.2 dX12_next_58
      · refine lv_iload hx hb dX12_next_27 (lv_at hl 3 rfl) ?_
        refine lv_iconst (v := (-1)) hx hb dX12_next_29 (by decide) ?_
        refine lv_aload_n hx hb dX12_next_30 rfl (lv_at hl 0 rfl) ?_
        refine va_get (D := (dC, dI)) (ci := 12) (v := .ref (rf 24)) (C := RX12) (T := TX12) (N := 76) hx hb htw inlX12 hown hK hP 0 rfl rfl 24 (by decide) (htw _ (ck_9 _ (List.mem_of_getElem? (i := 7) rfl))) (fun _ h9 => h9) rfl dX12_next_31 ?_
        refine lv_iconst (v := 0) hx hb dX12_next_34 (by decide) ?_
        refine va_iald hx hb hK hP 1 0 rfl rfl (by unfold vp_in; decide) dX12_next_35 ?_
        refine lv_iconst (v := 1) hx hb dX12_next_36 (by decide) ?_
        refine lv_isub hx hb dX12_next_37 ?_
        have hPc := hP.sub (ws' := []) [] rfl
        have hKc := hK.sub (tys' := []) [] rfl
        refine vp_callSi (W.runS (As := [.int a2, .int (-1), .int ((f_sky ((0 : Int32).toNatClampNeg)) - 1)]) (rest := []) ⟨hx, hb, hml, hown, htw⟩ (gq_isIn l dC dI a2 (-1 : Int32) ((f_sky ((0 : Int32).toNatClampNeg)) - 1)) (va_cwS 3 htw (xg_S (ck_26 _ (List.mem_of_getElem? (i := 17) rfl)) (ck_26 _ (List.mem_of_getElem? (i := 18) rfl)) (ck_1 _ (List.mem_of_getElem? (i := 5) rfl)) (ck_26 _ (List.mem_of_getElem? (i := 19) rfl))) rfl rfl rfl (by exact ⟨hdc_14.1, hdc_14.2, hdd_38⟩) ⟨Nat.le_of_ble_eq_true rfl, Nat.le_of_ble_eq_true rfl⟩) ⟨fun a U g mk q => by obtain ⟨q0, qP, qK⟩ := q; exact ⟨q0, qP, va_K.moved (u := U) (U := U.calling g mk a) (Vm.Alike.refl U.vm) qK⟩, fun U hU hW => ⟨rfl, by rw [hU]; exact hPc, va_K.moved hW.alike hKc⟩⟩ rfl rfl hl.1 rfl (lv_room (Nat.le_of_ble_eq_true rfl)) dX12_next_38 ⟨Nat.le_of_ble_eq_true rfl, Nat.le_of_ble_eq_true rfl⟩) (fun r_41 hw => ?_)
        try dsimp only at hw
        obtain ⟨hw, hb_r_41, hp_42, hp_43⟩ := hw
        have hq_r_41 : r_41 = (fq_isIn a2 (-1 : Int32) ((f_sky ((0 : Int32).toNatClampNeg)) - 1)) := hw
        refine lv_if_eq (tgt := 55) hx hb dX12_next_41 (by decide) (fun c_44 => ?_) (fun c_44 => ?_)
        · refine lv_ldc2 (v := (-1)) hx hb hown (htw _ (ck_29 _ (List.mem_of_getElem? (i := 13) rfl))) dX12_next_55 ?_
          refine W.widen (k := 0) (n := 0) (by omega) (by omega) ?_
          have hP9 := hP
          have hD9 := hD
          have hK9 := hK.sub (tys' := []) [] rfl
          exact W.lret (v := (-1)) hx hb hr (fun t ht hW => ⟨⟨(-1), (0, (gl 53), (gl 54)), rfl, ((fun e9 => ⟨by rw [e9], by rw [e9]⟩ : fq_next f_sky f_landHas a0 a1 a2 a3 (g 12) (gl 53) (gl 54) = ((-1 : Int64), (0 : Int32), (gl 53), (gl 54)) → _) ((by rw [fq_next]; (try rw [← hq_r_1]); (try rw [xL_eq]); (try rw [if_neg c_2]); (try rw [if_neg c_3]); (try rw [← hq_r_37]); (try rw [xL_eq]); (try rw [if_neg c_40]); (try rw [← hq_r_41]); (try rw [xL_eq]); (try rw [if_pos c_44]); try rfl))), by rw [ht]; exact hP9, va_K.moved hW.alike hK9, hD9⟩, hS.F ht⟩) hS.2.2 dX12_next_58
        · refine lv_iload hx hb dX12_next_44 (lv_at hl 4 rfl) ?_
          refine lv_iconst (v := (-1)) hx hb dX12_next_46 (by decide) ?_
          refine lv_bipush (v := 7) hx hb dX12_next_47 (by decide) ?_
          have hPc := hP.sub (ws' := []) [] rfl
          have hKc := hK.sub (tys' := []) [] rfl
          refine vp_callSi (W.runS (As := [.int a3, .int (-1), .int 7]) (rest := []) ⟨hx, hb, hml, hown, htw⟩ (gq_isIn l dC dI a3 (-1 : Int32) (7 : Int32)) (va_cwS 3 htw (xg_S (ck_26 _ (List.mem_of_getElem? (i := 17) rfl)) (ck_26 _ (List.mem_of_getElem? (i := 18) rfl)) (ck_1 _ (List.mem_of_getElem? (i := 5) rfl)) (ck_26 _ (List.mem_of_getElem? (i := 19) rfl))) rfl rfl rfl (by exact ⟨hdc_14.1, hdc_14.2, hdd_38⟩) ⟨Nat.le_of_ble_eq_true rfl, Nat.le_of_ble_eq_true rfl⟩) ⟨fun a U g mk q => by obtain ⟨q0, qP, qK⟩ := q; exact ⟨q0, qP, va_K.moved (u := U) (U := U.calling g mk a) (Vm.Alike.refl U.vm) qK⟩, fun U hU hW => ⟨rfl, by rw [hU]; exact hPc, va_K.moved hW.alike hKc⟩⟩ rfl rfl hl.1 rfl (lv_room (Nat.le_of_ble_eq_true rfl)) dX12_next_49 ⟨Nat.le_of_ble_eq_true rfl, Nat.le_of_ble_eq_true rfl⟩) (fun r_45 hw => ?_)
          try dsimp only at hw
          obtain ⟨hw, hb_r_45, hp_46, hp_47⟩ := hw
          have hq_r_45 : r_45 = (fq_isIn a3 (-1 : Int32) (7 : Int32)) := hw
          refine lv_if_ne (tgt := 59) hx hb dX12_next_52 (by decide) (fun c_48 => ?_) (fun c_48 => ?_)
          · refine lv_lload_n hx hb dX12_next_59 rfl (lv_at hl 1 rfl) ?_
            refine lv_lstore (lv' := [(6, .long a0), (0, .ref mq), (1, .long a0), (3, .int a1), (4, .int a2), (5, .int a3)]) hx hb dX12_next_60 hl (by decide) rfl (fun ls hl => ?_)
            have hloop_49 : ∀ (n : Nat) (L6d : Int64) (m_gotYear_d : Int64) (m_gotDay_d : Int64) (hf_d : (a0 + 20000).toInt ≤ L6d.toInt + (n : Int)) (h0_d : ¬ L6d < 0) (h9_d : L6d ≤ 1000000000001) (hI_d : fq_next f_sky f_landHas a0 a1 a2 a3 (g 12) (gl 53) (gl 54) = fq_next_d2 f_sky f_landHas a0 a1 a2 a3 (g 12) n L6d m_gotYear_d m_gotDay_d) (H : Heap) (locs : List Loc) (ls : Array Slot) (hP : va_P (dC, dI) vwCl [(mq, .inr (12, mF (upd g 2 0) (vp_updL (vp_updL gl 53 m_gotYear_d) 54 m_gotDay_d) rf)), (eA0 (rf 24) (ck 24) 14 f_sky), (eA0 (rf 29) (ck 29) 24 f_landHas)] H) (hD : va_D A [(mq, .inr (12, mF (upd g 2 0) (vp_updL (vp_updL gl 53 m_gotYear_d) 54 m_gotDay_d) rf)), (eA0 (rf 24) (ck 24) 14 f_sky), (eA0 (rf 29) (ck 29) 24 f_landHas)]) (hS : va_S A s.heap H locs) (hl : lv_has ls 9 [(6, .long L6d), (0, .ref mq), (1, .long a0), (3, .int a1), (4, .int a2), (5, .int a3)]), W p l e (headSpec (Cond.code yX12_next cX12_next 9 (some .long) :: wsL_law) ({ frames := 2, cells := 0, slots := 0, locals := 56 })).room s m ([.ref mq, .long a0, .int a1, .int a2, .int a3] : List Value).toArray below meth c H locs 0 0 (MQ below (va_Ql (fun (r : Int64) (u : (Int32) × (Int64) × (Int64)) => r = (fq_next f_sky f_landHas a0 a1 a2 a3 (g 12) (gl 53) (gl 54)).1 ∧ u = (fq_next f_sky f_landHas a0 a1 a2 a3 (g 12) (gl 53) (gl 54)).2) (fun (u : (Int32) × (Int64) × (Int64)) t => va_P (dC, dI) vwCl [(mq, .inr (12, mF (upd g 2 u.1) (vp_updL (vp_updL gl 53 u.2.1) 54 u.2.2) rf)), (eA0 (rf 24) (ck 24) 14 f_sky), (eA0 (rf 29) (ck 29) 24 f_landHas)] t.heap ∧ va_K (dC, dI) vwCl [] t ∧ va_D A [(mq, .inr (12, mF (upd g 2 u.1) (vp_updL (vp_updL gl 53 u.2.1) 54 u.2.2) rf)), (eA0 (rf 24) (ck 24) 14 f_sky), (eA0 (rf 29) (ck 29) 24 f_landHas)]) A) ([.ref mq, .long a0, .int a1, .int a2, .int a3] : List Value).toArray s 0 0 A) (F0 m 62 ls []) := by
              intro n
              induction n with
              | zero =>
                intro L6d m_gotYear_d m_gotDay_d hf_d h0_d h9_d hI_d H locs ls hP hD hS hl
                refine lv_lload hx hb dX12_next_62 (lv_at hl 0 rfl) ?_
                refine lv_lload_n hx hb dX12_next_64 rfl (lv_at hl 2 rfl) ?_
                refine lv_ldc2 (v := 20000) hx hb hown (htw _ (ck_43 _ (List.mem_of_getElem? (i := 21) rfl))) dX12_next_65 ?_
                refine lv_ladd hx hb dX12_next_68 ?_
                refine W.lcmp hx hb dX12_next_69 ?_
                refine lv_if_ge (tgt := 171) hx hb dX12_next_70 (by decide) (fun c_50 => ?_) (fun c_50 => absurd c_50 (fun h => h ((lg_cmp_ge _ _).mpr (xj_z hf_d))))
                refine lv_ldc2 (v := (-2)) hx hb hown (htw _ (ck_43 _ (List.mem_of_getElem? (i := 22) rfl))) dX12_next_171 ?_
                refine W.widen (k := 0) (n := 0) (by omega) (by omega) ?_
                obtain ⟨hP9, hD9⟩ := zsub2 (ws' := [(mq, .inr (12, mF (upd g 2 0) (vp_updL (vp_updL gl 53 m_gotYear_d) 54 m_gotDay_d) rf)), (eA0 (rf 24) (ck 24) 14 f_sky), (eA0 (rf 29) (ck 29) 24 f_landHas)]) hP hD [0, 1, 2] (by decide) rfl
                have hK9 := hK.sub (tys' := []) [] rfl
                exact W.lret (v := (-2)) hx hb hr (fun t ht hW => ⟨⟨(-2), (0, m_gotYear_d, m_gotDay_d), rfl, ((fun e9 => ⟨by rw [e9], by rw [e9]⟩ : fq_next f_sky f_landHas a0 a1 a2 a3 (g 12) (gl 53) (gl 54) = ((-2 : Int64), (0 : Int32), m_gotYear_d, m_gotDay_d) → _) (hI_d.trans (by rw [fq_next_d2]; try rfl))), by rw [ht]; exact hP9, va_K.moved hW.alike hK9, hD9⟩, hS.F ht⟩) hS.2.2 dX12_next_174
              | succ n ih =>
                intro L6d m_gotYear_d m_gotDay_d hf_d h0_d h9_d hI_d H locs ls hP hD hS hl
                refine lv_lload hx hb dX12_next_62 (lv_at hl 0 rfl) ?_
                refine lv_lload_n hx hb dX12_next_64 rfl (lv_at hl 2 rfl) ?_
                refine lv_ldc2 (v := 20000) hx hb hown (htw _ (ck_43 _ (List.mem_of_getElem? (i := 21) rfl))) dX12_next_65 ?_
                refine lv_ladd hx hb dX12_next_68 ?_
                refine W.lcmp hx hb dX12_next_69 ?_
                refine lv_if_ge (tgt := 171) hx hb dX12_next_70 (by decide) (fun c_51 => ?_) (fun c_51 => ?_)
                · refine lv_ldc2 (v := (-2)) hx hb hown (htw _ (ck_43 _ (List.mem_of_getElem? (i := 22) rfl))) dX12_next_171 ?_
                  refine W.widen (k := 0) (n := 0) (by omega) (by omega) ?_
                  obtain ⟨hP9, hD9⟩ := zsub2 (ws' := [(mq, .inr (12, mF (upd g 2 0) (vp_updL (vp_updL gl 53 m_gotYear_d) 54 m_gotDay_d) rf)), (eA0 (rf 24) (ck 24) 14 f_sky), (eA0 (rf 29) (ck 29) 24 f_landHas)]) hP hD [0, 1, 2] (by decide) rfl
                  have hK9 := hK.sub (tys' := []) [] rfl
                  exact W.lret (v := (-2)) hx hb hr (fun t ht hW => ⟨⟨(-2), (0, m_gotYear_d, m_gotDay_d), rfl, ((fun e9 => ⟨by rw [e9], by rw [e9]⟩ : fq_next f_sky f_landHas a0 a1 a2 a3 (g 12) (gl 53) (gl 54) = ((-2 : Int64), (0 : Int32), m_gotYear_d, m_gotDay_d) → _) (hI_d.trans (by rw [fq_next_d2]; (try rw [if_pos c_51]); try rfl))), by rw [ht]; exact hP9, va_K.moved hW.alike hK9, hD9⟩, hS.F ht⟩) hS.2.2 dX12_next_174
                · refine lv_lload hx hb dX12_next_73 (lv_at hl 0 rfl) ?_
                  refine lv_ldc2 (v := 1000000000000) hx hb hown (htw _ (ck_29 _ (List.mem_of_getElem? (i := 22) rfl))) dX12_next_75 ?_
                  refine W.lcmp hx hb dX12_next_78 ?_
                  refine lv_if_gt (tgt := 171) hx hb dX12_next_79 (by decide) (fun c_52 => ?_) (fun c_52 => ?_)
                  · refine lv_ldc2 (v := (-2)) hx hb hown (htw _ (ck_43 _ (List.mem_of_getElem? (i := 22) rfl))) dX12_next_171 ?_
                    refine W.widen (k := 0) (n := 0) (by omega) (by omega) ?_
                    obtain ⟨hP9, hD9⟩ := zsub2 (ws' := [(mq, .inr (12, mF (upd g 2 0) (vp_updL (vp_updL gl 53 m_gotYear_d) 54 m_gotDay_d) rf)), (eA0 (rf 24) (ck 24) 14 f_sky), (eA0 (rf 29) (ck 29) 24 f_landHas)]) hP hD [0, 1, 2] (by decide) rfl
                    have hK9 := hK.sub (tys' := []) [] rfl
                    exact W.lret (v := (-2)) hx hb hr (fun t ht hW => ⟨⟨(-2), (0, m_gotYear_d, m_gotDay_d), rfl, ((fun e9 => ⟨by rw [e9], by rw [e9]⟩ : fq_next f_sky f_landHas a0 a1 a2 a3 (g 12) (gl 53) (gl 54) = ((-2 : Int64), (0 : Int32), m_gotYear_d, m_gotDay_d) → _) (hI_d.trans (by rw [fq_next_d2]; (try rw [if_neg c_51]); (try rw [if_pos c_52]); try rfl))), by rw [ht]; exact hP9, va_K.moved hW.alike hK9, hD9⟩, hS.F ht⟩) hS.2.2 dX12_next_174
                  · refine lv_iload hx hb dX12_next_82 (lv_at hl 4 rfl) ?_
                    obtain ⟨X_53, hX_53⟩ : ∃ X9 : (Int32), X9 = fq_next_j2 f_sky a2 a3 L6d := ⟨_, rfl⟩
                    have hjoin_54 : ∀ (S0j : Int32)  (hE9 : X_53 = S0j) (H : Heap) (locs : List Loc) (ls : Array Slot) (hP : va_P (dC, dI) vwCl [(mq, .inr (12, mF (upd g 2 0) (vp_updL (vp_updL gl 53 m_gotYear_d) 54 m_gotDay_d) rf)), (eA0 (rf 24) (ck 24) 14 f_sky), (eA0 (rf 29) (ck 29) 24 f_landHas)] H) (hD : va_D A [(mq, .inr (12, mF (upd g 2 0) (vp_updL (vp_updL gl 53 m_gotYear_d) 54 m_gotDay_d) rf)), (eA0 (rf 24) (ck 24) 14 f_sky), (eA0 (rf 29) (ck 29) 24 f_landHas)]) (hS : va_S A s.heap H locs) (hl : lv_has ls 9 [(6, .long L6d), (0, .ref mq), (1, .long a0), (3, .int a1), (4, .int a2), (5, .int a3)]), W p l e (headSpec (Cond.code yX12_next cX12_next 9 (some .long) :: wsL_law) ({ frames := 2, cells := 0, slots := 0, locals := 56 })).room s m ([.ref mq, .long a0, .int a1, .int a2, .int a3] : List Value).toArray below meth c H locs 0 0 (MQ below (va_Ql (fun (r : Int64) (u : (Int32) × (Int64) × (Int64)) => r = (fq_next f_sky f_landHas a0 a1 a2 a3 (g 12) (gl 53) (gl 54)).1 ∧ u = (fq_next f_sky f_landHas a0 a1 a2 a3 (g 12) (gl 53) (gl 54)).2) (fun (u : (Int32) × (Int64) × (Int64)) t => va_P (dC, dI) vwCl [(mq, .inr (12, mF (upd g 2 u.1) (vp_updL (vp_updL gl 53 u.2.1) 54 u.2.2) rf)), (eA0 (rf 24) (ck 24) 14 f_sky), (eA0 (rf 29) (ck 29) 24 f_landHas)] t.heap ∧ va_K (dC, dI) vwCl [] t ∧ va_D A [(mq, .inr (12, mF (upd g 2 u.1) (vp_updL (vp_updL gl 53 u.2.1) 54 u.2.2) rf)), (eA0 (rf 24) (ck 24) 14 f_sky), (eA0 (rf 29) (ck 29) 24 f_landHas)]) A) ([.ref mq, .long a0, .int a1, .int a2, .int a3] : List Value).toArray s 0 0 A) (F0 m 121 ls [.int S0j]) := by
                      intro S0j  hE9 H locs ls hP hD hS hl
                      have hq_S0j : S0j = X_53 := by rw [hE9]
                      refine lv_istore (lv' := [(8, .int S0j), (6, .long L6d), (0, .ref mq), (1, .long a0), (3, .int a1), (4, .int a2), (5, .int a3)]) hx hb dX12_next_121 hl (by decide) rfl (fun ls hl => ?_)
                      refine lv_iload hx hb dX12_next_123 (lv_at hl 0 rfl) ?_
                      refine lv_if_eq (tgt := 162) hx hb dX12_next_125 (by decide) (fun c_55 => ?_) (fun c_55 => ?_)
                      · refine lv_lload hx hb dX12_next_162 (lv_at hl 1 rfl) ?_
                        refine lv_lconst (v := 1) hx hb dX12_next_164 (by decide) ?_
                        refine lv_ladd hx hb dX12_next_165 ?_
                        refine lv_lstore (lv' := [(6, .long (L6d + 1)), (8, .int S0j), (0, .ref mq), (1, .long a0), (3, .int a1), (4, .int a2), (5, .int a3)]) hx hb dX12_next_166 hl (by decide) rfl (fun ls hl => ?_)
                        refine lv_goto (tgt := 62) hx hb dX12_next_168 (by decide) ?_
                        exact ih (L6d + 1) m_gotYear_d m_gotDay_d (by rw [xj_s (Int64.not_le.mp (fun q => c_51 ((lg_cmp_ge _ _).mpr q)))]; omega) (gq_next_s16 (y0 := L6d) (y1 := a0) (fun q9 => c_51 ((lg_cmp_ge _ _).mpr q9)) (fun q9 => c_52 ((lg_cmp_gt _ _).mpr q9)) h0_d h9_d (xq_cnt hq_r_1 c_2).1 (xq_cnt hq_r_1 c_2).2) (gq_next_s17 (y0 := L6d) (y1 := a0) (fun q9 => c_51 ((lg_cmp_ge _ _).mpr q9)) (fun q9 => c_52 ((lg_cmp_gt _ _).mpr q9)) h0_d h9_d (xq_cnt hq_r_1 c_2).1 (xq_cnt hq_r_1 c_2).2) (hI_d.trans (by rw [fq_next_d2]; (try rw [if_neg c_51]); (try rw [if_neg c_52]); (try rw [← hX_53]); (try rw [xL_eq]); (try rw [← hq_S0j]); (try rw [if_pos c_55]); try rfl)) H locs ls hP hD hS (lv_sub hl [0, 2, 3, 4, 5, 6] rfl)
                      · refine lv_iload_n hx hb dX12_next_128 rfl (lv_at hl 4 rfl) ?_
                        refine lv_if_lt (tgt := 159) hx hb dX12_next_129 (by decide) (fun c_56 => ?_) (fun c_56 => ?_)
                        · refine lv_lload hx hb dX12_next_159 (lv_at hl 1 rfl) ?_
                          refine W.widen (k := 0) (n := 0) (by omega) (by omega) ?_
                          obtain ⟨hP9, hD9⟩ := zsub2 (ws' := [(mq, .inr (12, mF (upd g 2 0) (vp_updL (vp_updL gl 53 m_gotYear_d) 54 m_gotDay_d) rf)), (eA0 (rf 24) (ck 24) 14 f_sky), (eA0 (rf 29) (ck 29) 24 f_landHas)]) hP hD [0, 1, 2] (by decide) rfl
                          have hK9 := hK.sub (tys' := []) [] rfl
                          exact W.lret (v := L6d) hx hb hr (fun t ht hW => ⟨⟨L6d, (0, m_gotYear_d, m_gotDay_d), rfl, ((fun e9 => ⟨by rw [e9], by rw [e9]⟩ : fq_next f_sky f_landHas a0 a1 a2 a3 (g 12) (gl 53) (gl 54) = (L6d, (0 : Int32), m_gotYear_d, m_gotDay_d) → _) (hI_d.trans (by rw [fq_next_d2]; (try rw [if_neg c_51]); (try rw [if_neg c_52]); (try rw [← hX_53]); (try rw [xL_eq]); (try rw [← hq_S0j]); (try rw [if_neg c_55]); (try rw [if_pos c_56]); try rfl))), by rw [ht]; exact hP9, va_K.moved hW.alike hK9, hD9⟩, hS.F ht⟩) hS.2.2 dX12_next_161
                        · refine lv_aload_n hx hb dX12_next_132 rfl (lv_at hl 2 rfl) ?_
                          refine va_get (D := (dC, dI)) (ci := 12) (v := .int (g 12)) (C := RX12) (T := TX12) (N := 76) hx hb htw inlX12 hown hK hP 0 rfl rfl 12 (by decide) (htw _ (ck_11 _ (List.mem_of_getElem? (i := 9) rfl))) (fun _ h9 => h9) rfl dX12_next_133 ?_
                          refine lv_if_le (tgt := 162) hx hb dX12_next_136 (by decide) (fun c_57 => ?_) (fun c_57 => ?_)
                          · refine lv_lload hx hb dX12_next_162 (lv_at hl 1 rfl) ?_
                            refine lv_lconst (v := 1) hx hb dX12_next_164 (by decide) ?_
                            refine lv_ladd hx hb dX12_next_165 ?_
                            refine lv_lstore (lv' := [(6, .long (L6d + 1)), (8, .int S0j), (0, .ref mq), (1, .long a0), (3, .int a1), (4, .int a2), (5, .int a3)]) hx hb dX12_next_166 hl (by decide) rfl (fun ls hl => ?_)
                            refine lv_goto (tgt := 62) hx hb dX12_next_168 (by decide) ?_
                            exact ih (L6d + 1) m_gotYear_d m_gotDay_d (by rw [xj_s (Int64.not_le.mp (fun q => c_51 ((lg_cmp_ge _ _).mpr q)))]; omega) (gq_next_s18 (y0 := L6d) (y1 := a0) (fun q9 => c_51 ((lg_cmp_ge _ _).mpr q9)) (fun q9 => c_52 ((lg_cmp_gt _ _).mpr q9)) h0_d h9_d (xq_cnt hq_r_1 c_2).1 (xq_cnt hq_r_1 c_2).2) (gq_next_s19 (y0 := L6d) (y1 := a0) (fun q9 => c_51 ((lg_cmp_ge _ _).mpr q9)) (fun q9 => c_52 ((lg_cmp_gt _ _).mpr q9)) h0_d h9_d (xq_cnt hq_r_1 c_2).1 (xq_cnt hq_r_1 c_2).2) (hI_d.trans (by rw [fq_next_d2]; (try rw [if_neg c_51]); (try rw [if_neg c_52]); (try rw [← hX_53]); (try rw [xL_eq]); (try rw [← hq_S0j]); (try rw [if_neg c_55]); (try rw [if_neg c_56]); (try rw [if_pos c_57]); try rfl)) H locs ls hP hD hS (lv_sub hl [0, 2, 3, 4, 5, 6] rfl)
                          · refine lv_aload_n hx hb dX12_next_139 rfl (lv_at hl 2 rfl) ?_
                            refine lv_iconst (v := 0) hx hb dX12_next_140 (by decide) ?_
                            refine lv_lload hx hb dX12_next_141 (lv_at hl 1 rfl) ?_
                            obtain ⟨hPc, hDc, hFc, hCc⟩ := zsub3 (ws' := [(mq, .inr (12, mF (upd g 2 0) (vp_updL (vp_updL gl 53 m_gotYear_d) 54 m_gotDay_d) rf)), (eA0 (rf 29) (ck 29) 24 f_landHas)]) hP hD hS hA [0, 2] (by decide) rfl
                            have hKc := hK.sub (tys' := [((ck 29), .int)]) [1] rfl
                            refine va_calli (va_runV (As := [.int 0, .long L6d]) (rest := []) ⟨hx, hb, hml, hown, htw⟩ (gq_date1 l dC dI mq (upd g 2 0) (vp_updL (vp_updL gl 53 m_gotYear_d) 54 m_gotDay_d) rf ck f_landHas (0 : Int32) L6d H.size (gq_next_s20 ) (gq_next_s21 ) (gq_next_s22 (y0 := L6d) (y1 := a0) (fun q9 => c_51 ((lg_cmp_ge _ _).mpr q9)) (fun q9 => c_52 ((lg_cmp_gt _ _).mpr q9)) h0_d h9_d (xq_cnt hq_r_1 c_2).1 (xq_cnt hq_r_1 c_2).2) (gq_next_s23 (y0 := L6d) (y1 := a0) (fun q9 => c_51 ((lg_cmp_ge _ _).mpr q9)) (fun q9 => c_52 ((lg_cmp_gt _ _).mpr q9)) h0_d h9_d (xq_cnt hq_r_1 c_2).1 (xq_cnt hq_r_1 c_2).2) (hLZ 0 (by decide) (gq_next_s24 (y0 := g 12) c_57 hln0 hln4))) (cwV 2 htw (xg_V (ck_36 _ (List.mem_of_getElem? (i := 11) rfl)) (ck_36 _ (List.mem_of_getElem? (i := 12) rfl)) (ck_36 _ (List.mem_of_getElem? (i := 13) rfl)) (ck_1 _ (List.mem_of_getElem? (i := 5) rfl)) (ck_36 _ (List.mem_of_getElem? (i := 14) rfl))) rfl rfl rfl (by exact ⟨rfl, hdc_14.1, hdc_14.2, hdd_42⟩) ⟨Nat.le_of_ble_eq_true rfl, Nat.le_of_ble_eq_true rfl⟩) ⟨fun a U g mk q => by obtain ⟨q0, q1, qP, qK, qD⟩ := q; exact ⟨q0, q1, qP, va_K.moved (u := U) (U := U.calling g mk a) (Vm.Alike.refl U.vm) qK, qD⟩, va_recv hKc hPc (ci := 12) (q0 := 0) rfl rfl, fun U hU hW => ⟨rfl, by rw [hU], by rw [hU]; exact hPc, va_K.moved hW.alike hKc, hDc.weaken (fun _ _ _ _ => trivial)⟩⟩ rfl rfl hl.1 rfl (lv_room (Nat.le_of_ble_eq_true rfl)) dX12_next_143 ⟨Nat.le_of_ble_eq_true rfl, Nat.le_of_ble_eq_true rfl⟩) hS (fun q _ h => hFc q h) hFc (fun r_58 u_59 t H1 locs ht hvm hw hB hz1 hk1 hS => ?_)
                            try dsimp only at hw
                            obtain ⟨hP1, hK1, hD1⟩ := hB
                            rw [ht] at hP1
                            have hK1 := va_K.moved hvm.symm hK1
                            have hK1 : va_K (dC, dI) vwCl [] s := hK1
                            obtain ⟨hP, hD⟩ := va_join (wr := [(eA0 (rf 24) (ck 24) 14 f_sky)]) (w1 := [(mq, .inr (12, mF (upd g 2 0) (vp_updL (vp_updL gl 53 u_59.1) 54 u_59.2) rf)), (eA0 (rf 29) (ck 29) 24 f_landHas)]) hP hD [0, 2] [1] hCc rfl (by decide) (by decide) hk1 hFc hP1 hD1
                            generalize H1 = H at hP hS ⊢
                            obtain ⟨hP, hD⟩ := zre [(eA0 (rf 24) (ck 24) 14 f_sky), (mq, .inr (12, mF (upd g 2 0) (vp_updL (vp_updL gl 53 u_59.1) 54 u_59.2) rf)), (eA0 (rf 29) (ck 29) 24 f_landHas)] hP hD rfl
                            refine W.widen (k := 0) (n := 0) (by omega) (by omega) ?_
                            obtain ⟨hw, hb_r_58⟩ := hw
                            obtain ⟨X_62, hX_62⟩ : ∃ X9 : Int32 × (Int64) × (Int64), X9 = (fq_date1 f_landHas (0 : Int32) L6d m_gotYear_d m_gotDay_d) := ⟨_, rfl⟩
                            have hq_r_58 : r_58 = X_62.1 := by rw [hX_62]; exact hw.1
                            have hq_u_59 : u_59 = X_62.2 := by rw [hX_62]; exact hw.2
                            refine lv_if_eq (tgt := 162) hx hb dX12_next_146 (by decide) (fun c_63 => ?_) (fun c_63 => ?_)
                            · refine lv_lload hx hb dX12_next_162 (lv_at hl 1 rfl) ?_
                              refine lv_lconst (v := 1) hx hb dX12_next_164 (by decide) ?_
                              refine lv_ladd hx hb dX12_next_165 ?_
                              refine lv_lstore (lv' := [(6, .long (L6d + 1)), (8, .int S0j), (0, .ref mq), (1, .long a0), (3, .int a1), (4, .int a2), (5, .int a3)]) hx hb dX12_next_166 hl (by decide) rfl (fun ls hl => ?_)
                              refine lv_goto (tgt := 62) hx hb dX12_next_168 (by decide) ?_
                              have hP := hP.sub (ws' := [(mq, .inr (12, mF (upd g 2 0) (vp_updL (vp_updL gl 53 u_59.1) 54 u_59.2) rf)), (eA0 (rf 24) (ck 24) 14 f_sky), (eA0 (rf 29) (ck 29) 24 f_landHas)]) [1, 0, 2] rfl
                              have hD := hD.sub (ws' := [(mq, .inr (12, mF (upd g 2 0) (vp_updL (vp_updL gl 53 u_59.1) 54 u_59.2) rf)), (eA0 (rf 24) (ck 24) 14 f_sky), (eA0 (rf 29) (ck 29) 24 f_landHas)]) [1, 0, 2] (by decide) rfl
                              exact ih (L6d + 1) u_59.1 u_59.2 (by rw [xj_s (Int64.not_le.mp (fun q => c_51 ((lg_cmp_ge _ _).mpr q)))]; omega) (gq_next_s25 (y0 := L6d) (y1 := a0) (fun q9 => c_51 ((lg_cmp_ge _ _).mpr q9)) (fun q9 => c_52 ((lg_cmp_gt _ _).mpr q9)) h0_d h9_d (xq_cnt hq_r_1 c_2).1 (xq_cnt hq_r_1 c_2).2) (gq_next_s26 (y0 := L6d) (y1 := a0) (fun q9 => c_51 ((lg_cmp_ge _ _).mpr q9)) (fun q9 => c_52 ((lg_cmp_gt _ _).mpr q9)) h0_d h9_d (xq_cnt hq_r_1 c_2).1 (xq_cnt hq_r_1 c_2).2) (hI_d.trans (by rw [fq_next_d2]; (try rw [if_neg c_51]); (try rw [if_neg c_52]); (try rw [← hX_53]); (try rw [xL_eq]); (try rw [← hq_S0j]); (try rw [if_neg c_55]); (try rw [if_neg c_56]); (try rw [if_neg c_57]); (try rw [← hX_62]); (try rw [xL_eq]); (try rw [← hq_r_58]); (try rw [← hq_u_59]); (try rw [if_pos c_63]); try rfl)) H locs ls hP hD hS (lv_sub hl [0, 2, 3, 4, 5, 6] rfl)
                            · refine lv_aload_n hx hb dX12_next_149 rfl (lv_at hl 2 rfl) ?_
                              refine va_get (D := (dC, dI)) (ci := 12) (v := .long u_59.2) (C := RX12) (T := TX12) (N := 76) hx hb htw inlX12 hown hK hP 1 rfl rfl 54 (by decide) (htw _ (ck_36 _ (List.mem_of_getElem? (i := 7) rfl))) (fun _ h9 => h9) rfl dX12_next_150 ?_
                              refine lv_iload_n hx hb dX12_next_153 rfl (lv_at hl 4 rfl) ?_
                              refine lv_i2l (v := a1.toInt64) hx hb dX12_next_154 rfl ?_
                              refine W.lcmp hx hb dX12_next_155 ?_
                              refine lv_if_ne (tgt := 162) hx hb dX12_next_156 (by decide) (fun c_64 => ?_) (fun c_64 => ?_)
                              · refine lv_lload hx hb dX12_next_162 (lv_at hl 1 rfl) ?_
                                refine lv_lconst (v := 1) hx hb dX12_next_164 (by decide) ?_
                                refine lv_ladd hx hb dX12_next_165 ?_
                                refine lv_lstore (lv' := [(6, .long (L6d + 1)), (8, .int S0j), (0, .ref mq), (1, .long a0), (3, .int a1), (4, .int a2), (5, .int a3)]) hx hb dX12_next_166 hl (by decide) rfl (fun ls hl => ?_)
                                refine lv_goto (tgt := 62) hx hb dX12_next_168 (by decide) ?_
                                have hP := hP.sub (ws' := [(mq, .inr (12, mF (upd g 2 0) (vp_updL (vp_updL gl 53 u_59.1) 54 u_59.2) rf)), (eA0 (rf 24) (ck 24) 14 f_sky), (eA0 (rf 29) (ck 29) 24 f_landHas)]) [1, 0, 2] rfl
                                have hD := hD.sub (ws' := [(mq, .inr (12, mF (upd g 2 0) (vp_updL (vp_updL gl 53 u_59.1) 54 u_59.2) rf)), (eA0 (rf 24) (ck 24) 14 f_sky), (eA0 (rf 29) (ck 29) 24 f_landHas)]) [1, 0, 2] (by decide) rfl
                                exact ih (L6d + 1) u_59.1 u_59.2 (by rw [xj_s (Int64.not_le.mp (fun q => c_51 ((lg_cmp_ge _ _).mpr q)))]; omega) (gq_next_s27 (y0 := L6d) (y1 := a0) (fun q9 => c_51 ((lg_cmp_ge _ _).mpr q9)) (fun q9 => c_52 ((lg_cmp_gt _ _).mpr q9)) h0_d h9_d (xq_cnt hq_r_1 c_2).1 (xq_cnt hq_r_1 c_2).2) (gq_next_s28 (y0 := L6d) (y1 := a0) (fun q9 => c_51 ((lg_cmp_ge _ _).mpr q9)) (fun q9 => c_52 ((lg_cmp_gt _ _).mpr q9)) h0_d h9_d (xq_cnt hq_r_1 c_2).1 (xq_cnt hq_r_1 c_2).2) (hI_d.trans (by rw [fq_next_d2]; (try rw [if_neg c_51]); (try rw [if_neg c_52]); (try rw [← hX_53]); (try rw [xL_eq]); (try rw [← hq_S0j]); (try rw [if_neg c_55]); (try rw [if_neg c_56]); (try rw [if_neg c_57]); (try rw [← hX_62]); (try rw [xL_eq]); (try rw [← hq_r_58]); (try rw [← hq_u_59]); (try rw [if_neg c_63]); (try rw [if_neg c_64]); try rfl)) H locs ls hP hD hS (lv_sub hl [0, 2, 3, 4, 5, 6] rfl)
                              · refine lv_lload hx hb dX12_next_159 (lv_at hl 1 rfl) ?_
                                refine W.widen (k := 0) (n := 0) (by omega) (by omega) ?_
                                obtain ⟨hP9, hD9⟩ := zsub2 (ws' := [(mq, .inr (12, mF (upd g 2 0) (vp_updL (vp_updL gl 53 u_59.1) 54 u_59.2) rf)), (eA0 (rf 24) (ck 24) 14 f_sky), (eA0 (rf 29) (ck 29) 24 f_landHas)]) hP hD [1, 0, 2] (by decide) rfl
                                have hK9 := hK.sub (tys' := []) [] rfl
                                exact W.lret (v := L6d) hx hb hr (fun t ht hW => ⟨⟨L6d, (0, u_59.1, u_59.2), rfl, ((fun e9 => ⟨by rw [e9], by rw [e9]⟩ : fq_next f_sky f_landHas a0 a1 a2 a3 (g 12) (gl 53) (gl 54) = (L6d, (0 : Int32), u_59.1, u_59.2) → _) (hI_d.trans (by rw [fq_next_d2]; (try rw [if_neg c_51]); (try rw [if_neg c_52]); (try rw [← hX_53]); (try rw [xL_eq]); (try rw [← hq_S0j]); (try rw [if_neg c_55]); (try rw [if_neg c_56]); (try rw [if_neg c_57]); (try rw [← hX_62]); (try rw [xL_eq]); (try rw [← hq_r_58]); (try rw [← hq_u_59]); (try rw [if_neg c_63]); (try rw [if_pos c_64]); try rfl))), by rw [ht]; exact hP9, va_K.moved hW.alike hK9, hD9⟩, hS.F ht⟩) hS.2.2 dX12_next_161
                    refine lv_if_lt (tgt := 99) hx hb dX12_next_84 (by decide) (fun c_65 => ?_) (fun c_65 => ?_)
                    · refine lv_iload hx hb dX12_next_99 (lv_at hl 5 rfl) ?_
                      refine lv_if_lt (tgt := 116) hx hb dX12_next_101 (by decide) (fun c_66 => ?_) (fun c_66 => ?_)
                      · refine lv_iconst (v := 1) hx hb dX12_next_116 (by decide) ?_
                        refine lv_goto (tgt := 121) hx hb dX12_next_117 (by decide) ?_
                        exact hjoin_54 (1 : Int32)  (hX_53.trans (by rw [fq_next_j2]; (try rw [if_pos c_65]); (try rw [if_pos c_66]); try rfl)) _ _ ls hP hD hS (lv_sub hl [0, 1, 2, 3, 4, 5] rfl)
                      · refine lv_aload_n hx hb dX12_next_104 rfl (lv_at hl 1 rfl) ?_
                        refine lv_lload hx hb dX12_next_105 (lv_at hl 0 rfl) ?_
                        refine lv_iconst (v := 1) hx hb dX12_next_107 (by decide) ?_
                        have hPc := hP.sub (ws' := [(mq, .inr (12, mF (upd g 2 0) (vp_updL (vp_updL gl 53 m_gotYear_d) 54 m_gotDay_d) rf)), (eA0 (rf 24) (ck 24) 14 f_sky)]) [0, 1] rfl
                        have hKc := hK.sub (tys' := [((ck 24), .int)]) [0] rfl
                        refine vp_callSi (W.runV (As := [.long L6d, .int 1]) (rest := []) ⟨hx, hb, hml, hown, htw⟩ (gq_roundOf l dC dI mq (upd g 2 0) (vp_updL (vp_updL gl 53 m_gotYear_d) 54 m_gotDay_d) rf ck f_sky L6d (1 : Int32) hs0 hs2 hs5) (cwV 2 htw (xg_V (ck_38 _ (List.mem_of_getElem? (i := 4) rfl)) (ck_38 _ (List.mem_of_getElem? (i := 5) rfl)) (ck_38 _ (List.mem_of_getElem? (i := 6) rfl)) (ck_1 _ (List.mem_of_getElem? (i := 5) rfl)) (ck_38 _ (List.mem_of_getElem? (i := 7) rfl))) rfl rfl rfl (by exact ⟨rfl, hdc_14.1, hdc_14.2, hdd_43⟩) ⟨Nat.le_of_ble_eq_true rfl, Nat.le_of_ble_eq_true rfl⟩) ⟨fun a U g mk q => by obtain ⟨q0, qP, qK⟩ := q; exact ⟨q0, qP, va_K.moved (u := U) (U := U.calling g mk a) (Vm.Alike.refl U.vm) qK⟩, va_recv hKc hPc (ci := 12) (q0 := 0) rfl rfl, fun U hU hW => ⟨rfl, by rw [hU]; exact hPc, va_K.moved hW.alike hKc⟩⟩ rfl rfl hl.1 rfl (lv_room (Nat.le_of_ble_eq_true rfl)) dX12_next_108 ⟨Nat.le_of_ble_eq_true rfl, Nat.le_of_ble_eq_true rfl⟩) (fun r_67 hw => ?_)
                        try dsimp only at hw
                        have hq_r_67 : r_67 = (fq_roundOf f_sky L6d (1 : Int32)) := hw
                        refine lv_iload hx hb dX12_next_111 (lv_at hl 5 rfl) ?_
                        refine lv_icmp_ne (tgt := 120) hx hb dX12_next_113 (by decide) (fun c_68 => ?_) (fun c_68 => ?_)
                        · refine lv_iconst (v := 0) hx hb dX12_next_120 (by decide) ?_
                          exact hjoin_54 (0 : Int32)  (hX_53.trans (by rw [fq_next_j2]; (try rw [if_pos c_65]); (try rw [if_neg c_66]); (try rw [← hq_r_67]); (try rw [xL_eq]); (try rw [if_neg c_68]); try rfl)) _ _ ls hP hD hS (lv_sub hl [0, 1, 2, 3, 4, 5] rfl)
                        · refine lv_iconst (v := 1) hx hb dX12_next_116 (by decide) ?_
                          refine lv_goto (tgt := 121) hx hb dX12_next_117 (by decide) ?_
                          exact hjoin_54 (1 : Int32)  (hX_53.trans (by rw [fq_next_j2]; (try rw [if_pos c_65]); (try rw [if_neg c_66]); (try rw [← hq_r_67]); (try rw [xL_eq]); (try rw [if_pos c_68]); try rfl)) _ _ ls hP hD hS (lv_sub hl [0, 1, 2, 3, 4, 5] rfl)
                    · refine lv_aload_n hx hb dX12_next_87 rfl (lv_at hl 1 rfl) ?_
                      refine lv_lload hx hb dX12_next_88 (lv_at hl 0 rfl) ?_
                      refine lv_iconst (v := 0) hx hb dX12_next_90 (by decide) ?_
                      have hPc := hP.sub (ws' := [(mq, .inr (12, mF (upd g 2 0) (vp_updL (vp_updL gl 53 m_gotYear_d) 54 m_gotDay_d) rf)), (eA0 (rf 24) (ck 24) 14 f_sky)]) [0, 1] rfl
                      have hKc := hK.sub (tys' := [((ck 24), .int)]) [0] rfl
                      refine vp_callSi (W.runV (As := [.long L6d, .int 0]) (rest := []) ⟨hx, hb, hml, hown, htw⟩ (gq_roundOf l dC dI mq (upd g 2 0) (vp_updL (vp_updL gl 53 m_gotYear_d) 54 m_gotDay_d) rf ck f_sky L6d (0 : Int32) hs0 hs2 hs5) (cwV 2 htw (xg_V (ck_38 _ (List.mem_of_getElem? (i := 4) rfl)) (ck_38 _ (List.mem_of_getElem? (i := 5) rfl)) (ck_38 _ (List.mem_of_getElem? (i := 6) rfl)) (ck_1 _ (List.mem_of_getElem? (i := 5) rfl)) (ck_38 _ (List.mem_of_getElem? (i := 7) rfl))) rfl rfl rfl (by exact ⟨rfl, hdc_14.1, hdc_14.2, hdd_43⟩) ⟨Nat.le_of_ble_eq_true rfl, Nat.le_of_ble_eq_true rfl⟩) ⟨fun a U g mk q => by obtain ⟨q0, qP, qK⟩ := q; exact ⟨q0, qP, va_K.moved (u := U) (U := U.calling g mk a) (Vm.Alike.refl U.vm) qK⟩, va_recv hKc hPc (ci := 12) (q0 := 0) rfl rfl, fun U hU hW => ⟨rfl, by rw [hU]; exact hPc, va_K.moved hW.alike hKc⟩⟩ rfl rfl hl.1 rfl (lv_room (Nat.le_of_ble_eq_true rfl)) dX12_next_91 ⟨Nat.le_of_ble_eq_true rfl, Nat.le_of_ble_eq_true rfl⟩) (fun r_69 hw => ?_)
                      try dsimp only at hw
                      have hq_r_69 : r_69 = (fq_roundOf f_sky L6d (0 : Int32)) := hw
                      refine lv_iload hx hb dX12_next_94 (lv_at hl 4 rfl) ?_
                      refine lv_icmp_ne (tgt := 120) hx hb dX12_next_96 (by decide) (fun c_70 => ?_) (fun c_70 => ?_)
                      · refine lv_iconst (v := 0) hx hb dX12_next_120 (by decide) ?_
                        exact hjoin_54 (0 : Int32)  (hX_53.trans (by rw [fq_next_j2]; (try rw [if_neg c_65]); (try rw [← hq_r_69]); (try rw [xL_eq]); (try rw [if_neg c_70]); try rfl)) _ _ ls hP hD hS (lv_sub hl [0, 1, 2, 3, 4, 5] rfl)
                      · refine lv_iload hx hb dX12_next_99 (lv_at hl 5 rfl) ?_
                        refine lv_if_lt (tgt := 116) hx hb dX12_next_101 (by decide) (fun c_71 => ?_) (fun c_71 => ?_)
                        · refine lv_iconst (v := 1) hx hb dX12_next_116 (by decide) ?_
                          refine lv_goto (tgt := 121) hx hb dX12_next_117 (by decide) ?_
                          exact hjoin_54 (1 : Int32)  (hX_53.trans (by rw [fq_next_j2]; (try rw [if_neg c_65]); (try rw [← hq_r_69]); (try rw [xL_eq]); (try rw [if_pos c_70]); (try rw [if_pos c_71]); try rfl)) _ _ ls hP hD hS (lv_sub hl [0, 1, 2, 3, 4, 5] rfl)
                        · refine lv_aload_n hx hb dX12_next_104 rfl (lv_at hl 1 rfl) ?_
                          refine lv_lload hx hb dX12_next_105 (lv_at hl 0 rfl) ?_
                          refine lv_iconst (v := 1) hx hb dX12_next_107 (by decide) ?_
                          have hPc := hP.sub (ws' := [(mq, .inr (12, mF (upd g 2 0) (vp_updL (vp_updL gl 53 m_gotYear_d) 54 m_gotDay_d) rf)), (eA0 (rf 24) (ck 24) 14 f_sky)]) [0, 1] rfl
                          have hKc := hK.sub (tys' := [((ck 24), .int)]) [0] rfl
                          refine vp_callSi (W.runV (As := [.long L6d, .int 1]) (rest := []) ⟨hx, hb, hml, hown, htw⟩ (gq_roundOf l dC dI mq (upd g 2 0) (vp_updL (vp_updL gl 53 m_gotYear_d) 54 m_gotDay_d) rf ck f_sky L6d (1 : Int32) hs0 hs2 hs5) (cwV 2 htw (xg_V (ck_38 _ (List.mem_of_getElem? (i := 4) rfl)) (ck_38 _ (List.mem_of_getElem? (i := 5) rfl)) (ck_38 _ (List.mem_of_getElem? (i := 6) rfl)) (ck_1 _ (List.mem_of_getElem? (i := 5) rfl)) (ck_38 _ (List.mem_of_getElem? (i := 7) rfl))) rfl rfl rfl (by exact ⟨rfl, hdc_14.1, hdc_14.2, hdd_43⟩) ⟨Nat.le_of_ble_eq_true rfl, Nat.le_of_ble_eq_true rfl⟩) ⟨fun a U g mk q => by obtain ⟨q0, qP, qK⟩ := q; exact ⟨q0, qP, va_K.moved (u := U) (U := U.calling g mk a) (Vm.Alike.refl U.vm) qK⟩, va_recv hKc hPc (ci := 12) (q0 := 0) rfl rfl, fun U hU hW => ⟨rfl, by rw [hU]; exact hPc, va_K.moved hW.alike hKc⟩⟩ rfl rfl hl.1 rfl (lv_room (Nat.le_of_ble_eq_true rfl)) dX12_next_108 ⟨Nat.le_of_ble_eq_true rfl, Nat.le_of_ble_eq_true rfl⟩) (fun r_72 hw => ?_)
                          try dsimp only at hw
                          have hq_r_72 : r_72 = (fq_roundOf f_sky L6d (1 : Int32)) := hw
                          refine lv_iload hx hb dX12_next_111 (lv_at hl 5 rfl) ?_
                          refine lv_icmp_ne (tgt := 120) hx hb dX12_next_113 (by decide) (fun c_73 => ?_) (fun c_73 => ?_)
                          · refine lv_iconst (v := 0) hx hb dX12_next_120 (by decide) ?_
                            exact hjoin_54 (0 : Int32)  (hX_53.trans (by rw [fq_next_j2]; (try rw [if_neg c_65]); (try rw [← hq_r_69]); (try rw [xL_eq]); (try rw [if_pos c_70]); (try rw [if_neg c_71]); (try rw [← hq_r_72]); (try rw [xL_eq]); (try rw [if_neg c_73]); try rfl)) _ _ ls hP hD hS (lv_sub hl [0, 1, 2, 3, 4, 5] rfl)
                          · refine lv_iconst (v := 1) hx hb dX12_next_116 (by decide) ?_
                            refine lv_goto (tgt := 121) hx hb dX12_next_117 (by decide) ?_
                            exact hjoin_54 (1 : Int32)  (hX_53.trans (by rw [fq_next_j2]; (try rw [if_neg c_65]); (try rw [← hq_r_69]); (try rw [xL_eq]); (try rw [if_pos c_70]); (try rw [if_neg c_71]); (try rw [← hq_r_72]); (try rw [xL_eq]); (try rw [if_pos c_73]); try rfl)) _ _ ls hP hD hS (lv_sub hl [0, 1, 2, 3, 4, 5] rfl)
            exact hloop_49 20000 a0 (gl 53) (gl 54) (by rw [xj_add (gq_next_s29 (y0 := a0) (xq_cnt hq_r_1 c_2).1 (xq_cnt hq_r_1 c_2).2).1 (gq_next_s29 (y0 := a0) (xq_cnt hq_r_1 c_2).1 (xq_cnt hq_r_1 c_2).2).2 (by decide) (by decide)]; have e9 : (20000 : Int64).toInt = 20000 := rfl; omega) (gq_next_s30 (y0 := a0) (xq_cnt hq_r_1 c_2).1 (xq_cnt hq_r_1 c_2).2) (gq_next_s31 (y0 := a0) (xq_cnt hq_r_1 c_2).1 (xq_cnt hq_r_1 c_2).2) ((by rw [fq_next]; (try rw [← hq_r_1]); (try rw [xL_eq]); (try rw [if_neg c_2]); (try rw [if_neg c_3]); (try rw [← hq_r_37]); (try rw [xL_eq]); (try rw [if_neg c_40]); (try rw [← hq_r_41]); (try rw [xL_eq]); (try rw [if_neg c_44]); (try rw [← hq_r_45]); (try rw [xL_eq]); (try rw [if_neg c_48]); try rfl)) _ _ ls hP hD hS (lv_sub hl [0, 1, 2, 3, 4, 5] rfl)
          · refine lv_ldc2 (v := (-1)) hx hb hown (htw _ (ck_29 _ (List.mem_of_getElem? (i := 13) rfl))) dX12_next_55 ?_
            refine W.widen (k := 0) (n := 0) (by omega) (by omega) ?_
            have hP9 := hP
            have hD9 := hD
            have hK9 := hK.sub (tys' := []) [] rfl
            exact W.lret (v := (-1)) hx hb hr (fun t ht hW => ⟨⟨(-1), (0, (gl 53), (gl 54)), rfl, ((fun e9 => ⟨by rw [e9], by rw [e9]⟩ : fq_next f_sky f_landHas a0 a1 a2 a3 (g 12) (gl 53) (gl 54) = ((-1 : Int64), (0 : Int32), (gl 53), (gl 54)) → _) ((by rw [fq_next]; (try rw [← hq_r_1]); (try rw [xL_eq]); (try rw [if_neg c_2]); (try rw [if_neg c_3]); (try rw [← hq_r_37]); (try rw [xL_eq]); (try rw [if_neg c_40]); (try rw [← hq_r_41]); (try rw [xL_eq]); (try rw [if_neg c_44]); (try rw [← hq_r_45]); (try rw [xL_eq]); (try rw [if_pos c_48]); try rfl))), by rw [ht]; exact hP9, va_K.moved hW.alike hK9, hD9⟩, hS.F ht⟩) hS.2.2 dX12_next_58

def fq_alike_d (f_landHas : Nat → Int32) (a0 : Int32) (a1 : Int32) (a2 : Int64) (a3 : Int32) : Nat → (Int64) → (Int64) → (Int64) → Int64 × (Int32) × (Int64) × (Int64)
  | 0, L6d, m_gotYear_d, m_gotDay_d => ((-2 : Int64), (0 : Int32), m_gotYear_d, m_gotDay_d)
  | n + 1, L6d, m_gotYear_d, m_gotDay_d => (if 0 ≤ lg_cmp L6d (a2 + 20000) then ((-2 : Int64), (0 : Int32), m_gotYear_d, m_gotDay_d) else (if 0 < lg_cmp L6d 1000000000000 then ((-2 : Int64), (0 : Int32), m_gotYear_d, m_gotDay_d) else (xL ((fq_date1 f_landHas a0 L6d m_gotYear_d m_gotDay_d)) (fun X_20 => (if X_20.1 = 0 then fq_alike_d f_landHas a0 a1 a2 a3 n (L6d + 1) X_20.2.1 X_20.2.2 else (xL ((fq_date1 f_landHas a1 L6d X_20.2.1 X_20.2.2)) (fun X_26 => (if X_26.1 = 0 then fq_alike_d f_landHas a0 a1 a2 a3 n (L6d + 1) X_26.2.1 X_26.2.2 else (if lg_cmp X_26.2.2 X_20.2.2 = 0 then (if a3 = 0 then (L6d, (0 : Int32), X_26.2.1, X_26.2.2) else (if lg_cmp X_26.2.1 X_20.2.1 = 0 then (L6d, (0 : Int32), X_26.2.1, X_26.2.2) else fq_alike_d f_landHas a0 a1 a2 a3 n (L6d + 1) X_26.2.1 X_26.2.2)) else fq_alike_d f_landHas a0 a1 a2 a3 n (L6d + 1) X_26.2.1 X_26.2.2)))))))))
def fq_alike (f_landHas : Nat → Int32) (a0 : Int32) (a1 : Int32) (a2 : Int64) (a3 : Int32) (m_lands : Int32) (m_gotYear : Int64) (m_gotDay : Int64) : Int64 × (Int32) × (Int64) × (Int64) := (xL ((fq_isLand a0 m_lands)) (fun r_1 => (if r_1 = 0 then ((-1 : Int64), (0 : Int32), m_gotYear, m_gotDay) else (xL ((fq_isLand a1 m_lands)) (fun r_5 => (if r_5 = 0 then ((-1 : Int64), (0 : Int32), m_gotYear, m_gotDay) else (if a0 = a1 then ((-1 : Int64), (0 : Int32), m_gotYear, m_gotDay) else (xL ((fq_isCount a2)) (fun r_10 => (if r_10 = 0 then ((-1 : Int64), (0 : Int32), m_gotYear, m_gotDay) else fq_alike_d f_landHas a0 a1 a2 a3 20000 a2 m_gotYear m_gotDay))))))))))
theorem gq_alike_s0 {y0 : Int32} {y1 : Int32} {y2 : Int32} (h0 : ¬ (y0 = y1)) (h1 : ¬ (y0 < 0)) (h2 : y0 < y2) (h3 : ¬ (y1 < 0)) (h4 : y1 < y2) (h5 : ¬ (y2 < 0)) (h6 : y2 ≤ 4) : ¬ (y0 < 0) := h1
theorem gq_alike_s1 {y0 : Int32} {y1 : Int32} {y2 : Int32} (h0 : ¬ (y0 = y1)) (h1 : ¬ (y0 < 0)) (h2 : y0 < y2) (h3 : ¬ (y1 < 0)) (h4 : y1 < y2) (h5 : ¬ (y2 < 0)) (h6 : y2 ≤ 4) : y0 ≤ 7 := by lia
theorem gq_alike_s2 {y0 : Int64} {y1 : Int64} (h0 : ¬ ((y1 + 20000) ≤ y0)) (h1 : ¬ (1000000000000 < y0)) (h2 : ¬ (y0 < 0)) (h3 : y0 ≤ 1000000000001) (h4 : ¬ (y1 < 0)) (h5 : y1 ≤ 1000000000000) : ¬ (y0 < 0) := gq_next_s6 h0 h1 h2 h3 h4 h5
theorem gq_alike_s3 {y0 : Int64} {y1 : Int64} (h0 : ¬ ((y1 + 20000) ≤ y0)) (h1 : ¬ (1000000000000 < y0)) (h2 : ¬ (y0 < 0)) (h3 : y0 ≤ 1000000000001) (h4 : ¬ (y1 < 0)) (h5 : y1 ≤ 1000000000000) : y0 ≤ 2000000000000 := gq_next_s7 h0 h1 h2 h3 h4 h5
theorem gq_alike_s4 {y0 : Int32} {y1 : Int32} {y2 : Int32} (h0 : ¬ (y0 = y2)) (h1 : ¬ (y0 < 0)) (h2 : y0 < y1) (h3 : ¬ (y2 < 0)) (h4 : y2 < y1) (h5 : ¬ (y1 < 0)) (h6 : y1 ≤ 4) : ¬ (y0 < 0) ∧ y0 < y1 := ⟨h1, h2⟩
theorem gq_alike_s5 {y0 : Int32} {y1 : Int32} {y2 : Int32} (h0 : ¬ (y1 = y0)) (h1 : ¬ (y1 < 0)) (h2 : y1 < y2) (h3 : ¬ (y0 < 0)) (h4 : y0 < y2) (h5 : ¬ (y2 < 0)) (h6 : y2 ≤ 4) : ¬ (y0 < 0) := h3
theorem gq_alike_s6 {y0 : Int32} {y1 : Int32} {y2 : Int32} (h0 : ¬ (y1 = y0)) (h1 : ¬ (y1 < 0)) (h2 : y1 < y2) (h3 : ¬ (y0 < 0)) (h4 : y0 < y2) (h5 : ¬ (y2 < 0)) (h6 : y2 ≤ 4) : y0 ≤ 7 := by lia
theorem gq_alike_s7 {y0 : Int64} {y1 : Int64} (h0 : ¬ ((y1 + 20000) ≤ y0)) (h1 : ¬ (1000000000000 < y0)) (h2 : ¬ (y0 < 0)) (h3 : y0 ≤ 1000000000001) (h4 : ¬ (y1 < 0)) (h5 : y1 ≤ 1000000000000) : ¬ (y0 < 0) := gq_next_s6 h0 h1 h2 h3 h4 h5
theorem gq_alike_s8 {y0 : Int64} {y1 : Int64} (h0 : ¬ ((y1 + 20000) ≤ y0)) (h1 : ¬ (1000000000000 < y0)) (h2 : ¬ (y0 < 0)) (h3 : y0 ≤ 1000000000001) (h4 : ¬ (y1 < 0)) (h5 : y1 ≤ 1000000000000) : y0 ≤ 2000000000000 := gq_next_s7 h0 h1 h2 h3 h4 h5
theorem gq_alike_s9 {y0 : Int32} {y1 : Int32} {y2 : Int32} (h0 : ¬ (y2 = y0)) (h1 : ¬ (y2 < 0)) (h2 : y2 < y1) (h3 : ¬ (y0 < 0)) (h4 : y0 < y1) (h5 : ¬ (y1 < 0)) (h6 : y1 ≤ 4) : ¬ (y0 < 0) ∧ y0 < y1 := ⟨h3, h4⟩
theorem gq_alike_s10 {y0 : Int64} {y1 : Int64} (h0 : ¬ ((y1 + 20000) ≤ y0)) (h1 : ¬ (1000000000000 < y0)) (h2 : ¬ (y0 < 0)) (h3 : y0 ≤ 1000000000001) (h4 : ¬ (y1 < 0)) (h5 : y1 ≤ 1000000000000) : ¬ ((y0 + 1) < 0) := gq_next_s0 h0 h1 h2 h3 h4 h5
theorem gq_alike_s11 {y0 : Int64} {y1 : Int64} (h0 : ¬ ((y1 + 20000) ≤ y0)) (h1 : ¬ (1000000000000 < y0)) (h2 : ¬ (y0 < 0)) (h3 : y0 ≤ 1000000000001) (h4 : ¬ (y1 < 0)) (h5 : y1 ≤ 1000000000000) : (y0 + 1) ≤ 1000000000001 := gq_next_s1 h0 h1 h2 h3 h4 h5
theorem gq_alike_s12 {y0 : Int64} {y1 : Int64} (h0 : ¬ ((y1 + 20000) ≤ y0)) (h1 : ¬ (1000000000000 < y0)) (h2 : ¬ (y0 < 0)) (h3 : y0 ≤ 1000000000001) (h4 : ¬ (y1 < 0)) (h5 : y1 ≤ 1000000000000) : ¬ ((y0 + 1) < 0) := gq_next_s0 h0 h1 h2 h3 h4 h5
theorem gq_alike_s13 {y0 : Int64} {y1 : Int64} (h0 : ¬ ((y1 + 20000) ≤ y0)) (h1 : ¬ (1000000000000 < y0)) (h2 : ¬ (y0 < 0)) (h3 : y0 ≤ 1000000000001) (h4 : ¬ (y1 < 0)) (h5 : y1 ≤ 1000000000000) : (y0 + 1) ≤ 1000000000001 := gq_next_s1 h0 h1 h2 h3 h4 h5
theorem gq_alike_s14 {y0 : Int64} {y1 : Int64} (h0 : ¬ ((y1 + 20000) ≤ y0)) (h1 : ¬ (1000000000000 < y0)) (h2 : ¬ (y0 < 0)) (h3 : y0 ≤ 1000000000001) (h4 : ¬ (y1 < 0)) (h5 : y1 ≤ 1000000000000) : ¬ ((y0 + 1) < 0) := gq_next_s0 h0 h1 h2 h3 h4 h5
theorem gq_alike_s15 {y0 : Int64} {y1 : Int64} (h0 : ¬ ((y1 + 20000) ≤ y0)) (h1 : ¬ (1000000000000 < y0)) (h2 : ¬ (y0 < 0)) (h3 : y0 ≤ 1000000000001) (h4 : ¬ (y1 < 0)) (h5 : y1 ≤ 1000000000000) : (y0 + 1) ≤ 1000000000001 := gq_next_s1 h0 h1 h2 h3 h4 h5
theorem gq_alike_s16 {y0 : Int64} {y1 : Int64} (h0 : ¬ ((y1 + 20000) ≤ y0)) (h1 : ¬ (1000000000000 < y0)) (h2 : ¬ (y0 < 0)) (h3 : y0 ≤ 1000000000001) (h4 : ¬ (y1 < 0)) (h5 : y1 ≤ 1000000000000) : ¬ ((y0 + 1) < 0) := gq_next_s0 h0 h1 h2 h3 h4 h5
theorem gq_alike_s17 {y0 : Int64} {y1 : Int64} (h0 : ¬ ((y1 + 20000) ≤ y0)) (h1 : ¬ (1000000000000 < y0)) (h2 : ¬ (y0 < 0)) (h3 : y0 ≤ 1000000000001) (h4 : ¬ (y1 < 0)) (h5 : y1 ≤ 1000000000000) : (y0 + 1) ≤ 1000000000001 := gq_next_s1 h0 h1 h2 h3 h4 h5
theorem gq_alike_s18 {y0 : Int64} (h0 : ¬ (y0 < 0)) (h1 : y0 ≤ 1000000000000) : ¬ (y0 < (-3000000000)) ∧ y0 ≤ 2000000000000 := by lia
theorem gq_alike_s19 {y0 : Int64} (h0 : ¬ (y0 < 0)) (h1 : y0 ≤ 1000000000000) : ¬ (y0 < 0) := h0
theorem gq_alike_s20 {y0 : Int64} (h0 : ¬ (y0 < 0)) (h1 : y0 ≤ 1000000000000) : y0 ≤ 1000000000001 := by lia
theorem dX12_alike_0 : decode cX12_alike 0 = .ok (.aload_n 0, 1) := zk_42 (by decide +kernel)
theorem dX12_alike_1 : decode cX12_alike 1 = .ok (.iconst 0, 1) := zk_3 (by decide +kernel)
theorem dX12_alike_2 : decode cX12_alike 2 = .ok (.putfield 119, 3) := zk_181 (by decide +kernel)
theorem dX12_alike_5 : decode cX12_alike 5 = .ok (.aload_n 0, 1) := zk_42 (by decide +kernel)
theorem dX12_alike_6 : decode cX12_alike 6 = .ok (.iload_n 1, 1) := zk_27 (by decide +kernel)
theorem dX12_alike_7 : decode cX12_alike 7 = .ok (.invokevirtual 404, 3) := zk_182 (by decide +kernel)
theorem dX12_alike_10 : decode cX12_alike 10 = .ok (.ifCond .eq 23, 3) := zk_153 (by decide +kernel)
theorem dX12_alike_33 : decode cX12_alike 33 = .ok (.ldc2_w 273, 3) := zk_20 (by decide +kernel)
theorem dX12_alike_36 : decode cX12_alike 36 = .ok (.lreturn, 1) := zk_173 (by decide +kernel)
theorem dX12_alike_13 : decode cX12_alike 13 = .ok (.aload_n 0, 1) := zk_42 (by decide +kernel)
theorem dX12_alike_14 : decode cX12_alike 14 = .ok (.iload_n 2, 1) := zk_28 (by decide +kernel)
theorem dX12_alike_15 : decode cX12_alike 15 = .ok (.invokevirtual 404, 3) := zk_182 (by decide +kernel)
theorem dX12_alike_18 : decode cX12_alike 18 = .ok (.ifCond .eq 15, 3) := zk_153 (by decide +kernel)
theorem dX12_alike_21 : decode cX12_alike 21 = .ok (.iload_n 1, 1) := zk_27 (by decide +kernel)
theorem dX12_alike_22 : decode cX12_alike 22 = .ok (.iload_n 2, 1) := zk_28 (by decide +kernel)
theorem dX12_alike_23 : decode cX12_alike 23 = .ok (.if_icmp .eq 10, 3) := zk_159 (by decide +kernel)
theorem dX12_alike_26 : decode cX12_alike 26 = .ok (.lload_n 3, 1) := zk_33 (by decide +kernel)
theorem dX12_alike_27 : decode cX12_alike 27 = .ok (.invokestatic 413, 3) := zk_184 (by decide +kernel)
theorem dX12_alike_30 : decode cX12_alike 30 = .ok (.ifCond .ne 7, 3) := zk_154 (by decide +kernel)
theorem dX12_alike_37 : decode cX12_alike 37 = .ok (.lload_n 3, 1) := zk_33 (by decide +kernel)
theorem dX12_alike_38 : decode cX12_alike 38 = .ok (.lstore 6, 2) := zk_55 (by decide +kernel)
theorem dX12_alike_40 : decode cX12_alike 40 = .ok (.lload 6, 2) := zk_22 (by decide +kernel)
theorem dX12_alike_42 : decode cX12_alike 42 = .ok (.lload_n 3, 1) := zk_33 (by decide +kernel)
theorem dX12_alike_43 : decode cX12_alike 43 = .ok (.ldc2_w 454, 3) := zk_20 (by decide +kernel)
theorem dX12_alike_46 : decode cX12_alike 46 = .ok (.ladd, 1) := zk_97 (by decide +kernel)
theorem dX12_alike_47 : decode cX12_alike 47 = .ok (.lcmp, 1) := zk_148 (by decide +kernel)
theorem dX12_alike_48 : decode cX12_alike 48 = .ok (.ifCond .ge 84, 3) := zk_156 (by decide +kernel)
theorem dX12_alike_132 : decode cX12_alike 132 = .ok (.ldc2_w 456, 3) := zk_20 (by decide +kernel)
theorem dX12_alike_135 : decode cX12_alike 135 = .ok (.lreturn, 1) := zk_173 (by decide +kernel)
theorem dX12_alike_51 : decode cX12_alike 51 = .ok (.lload 6, 2) := zk_22 (by decide +kernel)
theorem dX12_alike_53 : decode cX12_alike 53 = .ok (.ldc2_w 125, 3) := zk_20 (by decide +kernel)
theorem dX12_alike_56 : decode cX12_alike 56 = .ok (.lcmp, 1) := zk_148 (by decide +kernel)
theorem dX12_alike_57 : decode cX12_alike 57 = .ok (.ifCond .gt 75, 3) := zk_157 (by decide +kernel)
theorem dX12_alike_60 : decode cX12_alike 60 = .ok (.aload_n 0, 1) := zk_42 (by decide +kernel)
theorem dX12_alike_61 : decode cX12_alike 61 = .ok (.iload_n 1, 1) := zk_27 (by decide +kernel)
theorem dX12_alike_62 : decode cX12_alike 62 = .ok (.lload 6, 2) := zk_22 (by decide +kernel)
theorem dX12_alike_64 : decode cX12_alike 64 = .ok (.invokevirtual 416, 3) := zk_182 (by decide +kernel)
theorem dX12_alike_67 : decode cX12_alike 67 = .ok (.ifCond .ne 6, 3) := zk_154 (by decide +kernel)
theorem dX12_alike_73 : decode cX12_alike 73 = .ok (.aload_n 0, 1) := zk_42 (by decide +kernel)
theorem dX12_alike_74 : decode cX12_alike 74 = .ok (.getfield 396, 3) := zk_180 (by decide +kernel)
theorem dX12_alike_77 : decode cX12_alike 77 = .ok (.lstore 8, 2) := zk_55 (by decide +kernel)
theorem dX12_alike_79 : decode cX12_alike 79 = .ok (.aload_n 0, 1) := zk_42 (by decide +kernel)
theorem dX12_alike_80 : decode cX12_alike 80 = .ok (.getfield 399, 3) := zk_180 (by decide +kernel)
theorem dX12_alike_83 : decode cX12_alike 83 = .ok (.lstore 10, 2) := zk_55 (by decide +kernel)
theorem dX12_alike_85 : decode cX12_alike 85 = .ok (.aload_n 0, 1) := zk_42 (by decide +kernel)
theorem dX12_alike_86 : decode cX12_alike 86 = .ok (.iload_n 2, 1) := zk_28 (by decide +kernel)
theorem dX12_alike_87 : decode cX12_alike 87 = .ok (.lload 6, 2) := zk_22 (by decide +kernel)
theorem dX12_alike_89 : decode cX12_alike 89 = .ok (.invokevirtual 416, 3) := zk_182 (by decide +kernel)
theorem dX12_alike_92 : decode cX12_alike 92 = .ok (.ifCond .eq 31, 3) := zk_153 (by decide +kernel)
theorem dX12_alike_123 : decode cX12_alike 123 = .ok (.lload 6, 2) := zk_22 (by decide +kernel)
theorem dX12_alike_125 : decode cX12_alike 125 = .ok (.lconst 1, 1) := zk_10 (by decide +kernel)
theorem dX12_alike_126 : decode cX12_alike 126 = .ok (.ladd, 1) := zk_97 (by decide +kernel)
theorem dX12_alike_127 : decode cX12_alike 127 = .ok (.lstore 6, 2) := zk_55 (by decide +kernel)
theorem dX12_alike_129 : decode cX12_alike 129 = .ok (.goto (-89), 3) := zk_167 (by decide +kernel)
theorem dX12_alike_95 : decode cX12_alike 95 = .ok (.aload_n 0, 1) := zk_42 (by decide +kernel)
theorem dX12_alike_96 : decode cX12_alike 96 = .ok (.getfield 399, 3) := zk_180 (by decide +kernel)
theorem dX12_alike_99 : decode cX12_alike 99 = .ok (.lload 10, 2) := zk_22 (by decide +kernel)
theorem dX12_alike_101 : decode cX12_alike 101 = .ok (.lcmp, 1) := zk_148 (by decide +kernel)
theorem dX12_alike_102 : decode cX12_alike 102 = .ok (.ifCond .ne 21, 3) := zk_154 (by decide +kernel)
theorem dX12_alike_105 : decode cX12_alike 105 = .ok (.iload 5, 2) := zk_21 (by decide +kernel)
theorem dX12_alike_107 : decode cX12_alike 107 = .ok (.ifCond .eq 13, 3) := zk_153 (by decide +kernel)
theorem dX12_alike_120 : decode cX12_alike 120 = .ok (.lload 6, 2) := zk_22 (by decide +kernel)
theorem dX12_alike_122 : decode cX12_alike 122 = .ok (.lreturn, 1) := zk_173 (by decide +kernel)
theorem dX12_alike_110 : decode cX12_alike 110 = .ok (.aload_n 0, 1) := zk_42 (by decide +kernel)
theorem dX12_alike_111 : decode cX12_alike 111 = .ok (.getfield 396, 3) := zk_180 (by decide +kernel)
theorem dX12_alike_114 : decode cX12_alike 114 = .ok (.lload 8, 2) := zk_22 (by decide +kernel)
theorem dX12_alike_116 : decode cX12_alike 116 = .ok (.lcmp, 1) := zk_148 (by decide +kernel)
theorem dX12_alike_117 : decode cX12_alike 117 = .ok (.ifCond .ne 6, 3) := zk_154 (by decide +kernel)
theorem dX12_alike_70 : decode cX12_alike 70 = .ok (.goto 53, 3) := zk_167 (by decide +kernel)
set_option maxHeartbeats 4000000 in
set_option maxRecDepth 100000 in
theorem gq_alike (l : Launch) (dC : Nat → ClassId) (dI : Nat → Nat → Nat) (mq : Nat) (g : Nat → Int32) (gl : Nat → Int64) (rf : Nat → Nat) (ck : Nat → ClassId) (f_landHas : Nat → Int32) (a0 : Int32) (a1 : Int32) (a2 : Int64) (a3 : Int32) (sz : Nat) (hln0 : ¬ (g 12) < 0) (hln4 : (g 12) ≤ 4) (hLZ : ∀ k : Int32, ¬ k < 0 → k < (g 12) → ¬ (f_landHas ((3 * k).toNatClampNeg)) = 0) : Met l yX12_alike (Cond.code yX12_alike cX12_alike 12 (some .long) :: wsL_law) ({ frames := 2, cells := 0, slots := 0, locals := 56 }) (va_Pc [.ref mq, .int a0, .int a1, .long a2, .int a3] (fun U => U.heap.size = sz ∧ va_P (dC, dI) vwCl [(mq, .inr (12, mF g gl rf)), (eA0 (rf 29) (ck 29) 24 f_landHas)] U.heap ∧ va_K (dC, dI) vwCl [((ck 29), .int)] U ∧ va_D (fun _ => True) [(mq, .inr (12, mF g gl rf)), (eA0 (rf 29) (ck 29) 24 f_landHas)])) (va_Ql (fun (r : Int64) (u : (Int32) × (Int64) × (Int64)) => r = (fq_alike f_landHas a0 a1 a2 a3 (g 12) (gl 53) (gl 54)).1 ∧ u = (fq_alike f_landHas a0 a1 a2 a3 (g 12) (gl 53) (gl 54)).2) (fun (u : (Int32) × (Int64) × (Int64)) t => va_P (dC, dI) vwCl [(mq, .inr (12, mF (upd g 2 u.1) (vp_updL (vp_updL gl 53 u.2.1) 54 u.2.2) rf)), (eA0 (rf 29) (ck 29) 24 f_landHas)] t.heap ∧ va_K (dC, dI) vwCl [] t ∧ va_D (va_A [(mq, .inr (12, mF g gl rf)), (eA0 (rf 29) (ck 29) 24 f_landHas)] sz) [(mq, .inr (12, mF (upd g 2 u.1) (vp_updL (vp_updL gl 53 u.2.1) 54 u.2.2) rf)), (eA0 (rf 29) (ck 29) 24 f_landHas)]) (va_A [(mq, .inr (12, mF g gl rf)), (eA0 (rf 29) (ck 29) 24 f_landHas)] sz)) 0 0 (va_A [(mq, .inr (12, mF g gl rf)), (eA0 (rf 29) (ck 29) 24 f_landHas)] sz) := by
  refine Met.ofW (cc := cX12_alike) (maxL := 12) (ret := (some .long)) (by decide) rfl ?_
  intro p e s m args below meth c s₁ B hml hv
  obtain ⟨rfl, hsz, hP, hK, hD0⟩ := hv
  have hx := B.exec
  have hb := B.bytes
  have hr := B.returns
  have hts := atoms_spec (ws := Cond.code yX12_alike cX12_alike 12 (some .long) :: wsL_law) B.pre
  have htw : ∀ w ∈ wsL_law, w.before _ s = true := fun w h => hts w (List.mem_cons_of_mem _ h)
  have hown : s.vm.findClass RX12 = some m.cls := findClass_of_methodNamed B.named
  have hlocks := B.notSynchronized
  subst hsz
  have hD := hD0.self (sz := s.heap.size)
  generalize hAe : va_A [(mq, .inr (12, mF g gl rf)), (eA0 (rf 29) (ck 29) 24 f_landHas)] s.heap.size = A at hD ⊢
  have hA : ∀ q : Nat, s.heap.size ≤ q → A q := fun q h => by rw [← hAe]; exact Or.inr h
  obtain ⟨H, rH⟩ : ∃ z : Heap, z = s.heap := ⟨_, rfl⟩
  have hS : va_S A s.heap H [] := by rw [rH]; exact va_S.rf
  have hP : va_P (dC, dI) vwCl [(mq, .inr (12, mF g gl rf)), (eA0 (rf 29) (ck 29) 24 f_landHas)] H := by rw [rH]; exact hP
  rw [← rH]
  have hl := lv_entry ([.ref mq, .int a0, .int a1, .long a2, .int a3]) (n := 12) (Nat.le_of_ble_eq_true rfl)
  rw [lg_entry_eq]
  generalize (lg_sl ([.ref mq, .int a0, .int a1, .long a2, .int a3]) ++ List.replicate (12 - (lg_sl ([.ref mq, .int a0, .int a1, .long a2, .int a3])).length) Slot.unset).toArray = ls at hl ⊢
  have hl : lv_has ls 12 [(0, .ref mq), (1, .int a0), (2, .int a1), (3, .long a2), (5, .int a3)] := hl
  refine lv_aload_n hx hb dX12_alike_0 rfl (lv_at hl 0 rfl) ?_
  refine lv_iconst (v := 0) hx hb dX12_alike_1 (by decide) ?_
  refine va_put (D := (dC, dI)) (ci := 12) (v := .int 0) (ty := tyX12 2) (C := RX12) (T := TX12) (N := 76) hx hb htw inlX12 tyX12 tyX12_ok nmX12 hown hK hP hD hS 0 rfl rfl 2 (by decide) (htw _ (ck_12 _ (List.mem_of_getElem? (i := 16) rfl))) (fun _ h9 => h9) rfl (tyX12_ok 2 (by decide)) rfl rfl (Nat.le_of_ble_eq_true rfl) dX12_alike_2 (fun H locs hP hD hS => ?_)
  obtain ⟨hP, hD⟩ := zre [(mq, .inr (12, mF (upd g 2 0) gl rf)), (eA0 (rf 29) (ck 29) 24 f_landHas)] hP hD rfl
  refine lv_aload_n hx hb dX12_alike_5 rfl (lv_at hl 0 rfl) ?_
  refine lv_iload_n hx hb dX12_alike_6 rfl (lv_at hl 1 rfl) ?_
  have hPc := hP.sub (ws' := [(mq, .inr (12, mF (upd g 2 0) gl rf))]) [0] rfl
  have hKc := hK.sub (tys' := []) [] rfl
  refine vp_callSi (W.runV (As := [.int a0]) (rest := []) ⟨hx, hb, hml, hown, htw⟩ (gq_isLand l dC dI mq (upd g 2 0) gl rf a0) (cwV 1 htw (xg_V (ck_34 _ (List.mem_of_getElem? (i := 2) rfl)) (ck_34 _ (List.mem_of_getElem? (i := 3) rfl)) (ck_34 _ (List.mem_of_getElem? (i := 4) rfl)) (ck_1 _ (List.mem_of_getElem? (i := 5) rfl)) (ck_34 _ (List.mem_of_getElem? (i := 5) rfl))) rfl rfl rfl (by exact ⟨rfl, hdc_14.1, hdc_14.2, hdd_26⟩) ⟨Nat.le_of_ble_eq_true rfl, Nat.le_of_ble_eq_true rfl⟩) ⟨fun a U g mk q => by obtain ⟨q0, qP, qK⟩ := q; exact ⟨q0, qP, va_K.moved (u := U) (U := U.calling g mk a) (Vm.Alike.refl U.vm) qK⟩, va_recv hKc hPc (ci := 12) (q0 := 0) rfl rfl, fun U hU hW => ⟨rfl, by rw [hU]; exact hPc, va_K.moved hW.alike hKc⟩⟩ rfl rfl hl.1 rfl (lv_room (Nat.le_of_ble_eq_true rfl)) dX12_alike_7 ⟨Nat.le_of_ble_eq_true rfl, Nat.le_of_ble_eq_true rfl⟩) (fun r_1 hw => ?_)
  try dsimp only at hw
  obtain ⟨hw, hb_r_1, hp_2, hp_3⟩ := hw
  have hq_r_1 : r_1 = (fq_isLand a0 (g 12)) := hw
  refine lv_if_eq (tgt := 33) hx hb dX12_alike_10 (by decide) (fun c_4 => ?_) (fun c_4 => ?_)
  · refine lv_ldc2 (v := (-1)) hx hb hown (htw _ (ck_29 _ (List.mem_of_getElem? (i := 13) rfl))) dX12_alike_33 ?_
    refine W.widen (k := 0) (n := 0) (by omega) (by omega) ?_
    have hP9 := hP
    have hD9 := hD
    have hK9 := hK.sub (tys' := []) [] rfl
    exact W.lret (v := (-1)) hx hb hr (fun t ht hW => ⟨⟨(-1), (0, (gl 53), (gl 54)), rfl, ((fun e9 => ⟨by rw [e9], by rw [e9]⟩ : fq_alike f_landHas a0 a1 a2 a3 (g 12) (gl 53) (gl 54) = ((-1 : Int64), (0 : Int32), (gl 53), (gl 54)) → _) ((by rw [fq_alike]; (try rw [← hq_r_1]); (try rw [xL_eq]); (try rw [if_pos c_4]); try rfl))), by rw [ht]; exact hP9, va_K.moved hW.alike hK9, hD9⟩, hS.F ht⟩) hS.2.2 dX12_alike_36
  · refine lv_aload_n hx hb dX12_alike_13 rfl (lv_at hl 0 rfl) ?_
    refine lv_iload_n hx hb dX12_alike_14 rfl (lv_at hl 2 rfl) ?_
    have hPc := hP.sub (ws' := [(mq, .inr (12, mF (upd g 2 0) gl rf))]) [0] rfl
    have hKc := hK.sub (tys' := []) [] rfl
    refine vp_callSi (W.runV (As := [.int a1]) (rest := []) ⟨hx, hb, hml, hown, htw⟩ (gq_isLand l dC dI mq (upd g 2 0) gl rf a1) (cwV 1 htw (xg_V (ck_34 _ (List.mem_of_getElem? (i := 2) rfl)) (ck_34 _ (List.mem_of_getElem? (i := 3) rfl)) (ck_34 _ (List.mem_of_getElem? (i := 4) rfl)) (ck_1 _ (List.mem_of_getElem? (i := 5) rfl)) (ck_34 _ (List.mem_of_getElem? (i := 5) rfl))) rfl rfl rfl (by exact ⟨rfl, hdc_14.1, hdc_14.2, hdd_26⟩) ⟨Nat.le_of_ble_eq_true rfl, Nat.le_of_ble_eq_true rfl⟩) ⟨fun a U g mk q => by obtain ⟨q0, qP, qK⟩ := q; exact ⟨q0, qP, va_K.moved (u := U) (U := U.calling g mk a) (Vm.Alike.refl U.vm) qK⟩, va_recv hKc hPc (ci := 12) (q0 := 0) rfl rfl, fun U hU hW => ⟨rfl, by rw [hU]; exact hPc, va_K.moved hW.alike hKc⟩⟩ rfl rfl hl.1 rfl (lv_room (Nat.le_of_ble_eq_true rfl)) dX12_alike_15 ⟨Nat.le_of_ble_eq_true rfl, Nat.le_of_ble_eq_true rfl⟩) (fun r_5 hw => ?_)
    try dsimp only at hw
    obtain ⟨hw, hb_r_5, hp_6, hp_7⟩ := hw
    have hq_r_5 : r_5 = (fq_isLand a1 (g 12)) := hw
    refine lv_if_eq (tgt := 33) hx hb dX12_alike_18 (by decide) (fun c_8 => ?_) (fun c_8 => ?_)
    · refine lv_ldc2 (v := (-1)) hx hb hown (htw _ (ck_29 _ (List.mem_of_getElem? (i := 13) rfl))) dX12_alike_33 ?_
      refine W.widen (k := 0) (n := 0) (by omega) (by omega) ?_
      have hP9 := hP
      have hD9 := hD
      have hK9 := hK.sub (tys' := []) [] rfl
      exact W.lret (v := (-1)) hx hb hr (fun t ht hW => ⟨⟨(-1), (0, (gl 53), (gl 54)), rfl, ((fun e9 => ⟨by rw [e9], by rw [e9]⟩ : fq_alike f_landHas a0 a1 a2 a3 (g 12) (gl 53) (gl 54) = ((-1 : Int64), (0 : Int32), (gl 53), (gl 54)) → _) ((by rw [fq_alike]; (try rw [← hq_r_1]); (try rw [xL_eq]); (try rw [if_neg c_4]); (try rw [← hq_r_5]); (try rw [xL_eq]); (try rw [if_pos c_8]); try rfl))), by rw [ht]; exact hP9, va_K.moved hW.alike hK9, hD9⟩, hS.F ht⟩) hS.2.2 dX12_alike_36
    · refine lv_iload_n hx hb dX12_alike_21 rfl (lv_at hl 1 rfl) ?_
      refine lv_iload_n hx hb dX12_alike_22 rfl (lv_at hl 2 rfl) ?_
      refine lv_icmp_eq (tgt := 33) hx hb dX12_alike_23 (by decide) (fun c_9 => ?_) (fun c_9 => ?_)
      · refine lv_ldc2 (v := (-1)) hx hb hown (htw _ (ck_29 _ (List.mem_of_getElem? (i := 13) rfl))) dX12_alike_33 ?_
        refine W.widen (k := 0) (n := 0) (by omega) (by omega) ?_
        have hP9 := hP
        have hD9 := hD
        have hK9 := hK.sub (tys' := []) [] rfl
        exact W.lret (v := (-1)) hx hb hr (fun t ht hW => ⟨⟨(-1), (0, (gl 53), (gl 54)), rfl, ((fun e9 => ⟨by rw [e9], by rw [e9]⟩ : fq_alike f_landHas a0 a1 a2 a3 (g 12) (gl 53) (gl 54) = ((-1 : Int64), (0 : Int32), (gl 53), (gl 54)) → _) ((by rw [fq_alike]; (try rw [← hq_r_1]); (try rw [xL_eq]); (try rw [if_neg c_4]); (try rw [← hq_r_5]); (try rw [xL_eq]); (try rw [if_neg c_8]); (try rw [if_pos c_9]); try rfl))), by rw [ht]; exact hP9, va_K.moved hW.alike hK9, hD9⟩, hS.F ht⟩) hS.2.2 dX12_alike_36
      · refine lv_lload_n hx hb dX12_alike_26 rfl (lv_at hl 3 rfl) ?_
        have hPc := hP.sub (ws' := []) [] rfl
        have hKc := hK.sub (tys' := []) [] rfl
        refine vp_callSi (W.runS (As := [.long a2]) (rest := []) ⟨hx, hb, hml, hown, htw⟩ (gq_isCount l dC dI a2) (va_cwS 1 htw (xg_S (ck_36 _ (List.mem_of_getElem? (i := 8) rfl)) (ck_36 _ (List.mem_of_getElem? (i := 9) rfl)) (ck_1 _ (List.mem_of_getElem? (i := 5) rfl)) (ck_36 _ (List.mem_of_getElem? (i := 10) rfl))) rfl rfl rfl (by exact ⟨hdc_14.1, hdc_14.2, hdd_1⟩) ⟨Nat.le_of_ble_eq_true rfl, Nat.le_of_ble_eq_true rfl⟩) ⟨fun a U g mk q => by obtain ⟨q0, qP, qK⟩ := q; exact ⟨q0, qP, va_K.moved (u := U) (U := U.calling g mk a) (Vm.Alike.refl U.vm) qK⟩, fun U hU hW => ⟨rfl, by rw [hU]; exact hPc, va_K.moved hW.alike hKc⟩⟩ rfl rfl hl.1 rfl (lv_room (Nat.le_of_ble_eq_true rfl)) dX12_alike_27 ⟨Nat.le_of_ble_eq_true rfl, Nat.le_of_ble_eq_true rfl⟩) (fun r_10 hw => ?_)
        try dsimp only at hw
        obtain ⟨hw, hb_r_10⟩ := hw
        have hq_r_10 : r_10 = (fq_isCount a2) := hw
        refine lv_if_ne (tgt := 37) hx hb dX12_alike_30 (by decide) (fun c_11 => ?_) (fun c_11 => ?_)
        · refine lv_lload_n hx hb dX12_alike_37 rfl (lv_at hl 3 rfl) ?_
          refine lv_lstore (lv' := [(6, .long a2), (0, .ref mq), (1, .int a0), (2, .int a1), (3, .long a2), (5, .int a3)]) hx hb dX12_alike_38 hl (by decide) rfl (fun ls hl => ?_)
          have hloop_12 : ∀ (n : Nat) (L6d : Int64) (m_gotYear_d : Int64) (m_gotDay_d : Int64) (hf_d : (a2 + 20000).toInt ≤ L6d.toInt + (n : Int)) (h0_d : ¬ L6d < 0) (h9_d : L6d ≤ 1000000000001) (hI_d : fq_alike f_landHas a0 a1 a2 a3 (g 12) (gl 53) (gl 54) = fq_alike_d f_landHas a0 a1 a2 a3 n L6d m_gotYear_d m_gotDay_d) (H : Heap) (locs : List Loc) (ls : Array Slot) (hP : va_P (dC, dI) vwCl [(mq, .inr (12, mF (upd g 2 0) (vp_updL (vp_updL gl 53 m_gotYear_d) 54 m_gotDay_d) rf)), (eA0 (rf 29) (ck 29) 24 f_landHas)] H) (hD : va_D A [(mq, .inr (12, mF (upd g 2 0) (vp_updL (vp_updL gl 53 m_gotYear_d) 54 m_gotDay_d) rf)), (eA0 (rf 29) (ck 29) 24 f_landHas)]) (hS : va_S A s.heap H locs) (hl : lv_has ls 12 [(6, .long L6d), (0, .ref mq), (1, .int a0), (2, .int a1), (3, .long a2), (5, .int a3)]), W p l e (headSpec (Cond.code yX12_alike cX12_alike 12 (some .long) :: wsL_law) ({ frames := 2, cells := 0, slots := 0, locals := 56 })).room s m ([.ref mq, .int a0, .int a1, .long a2, .int a3] : List Value).toArray below meth c H locs 0 0 (MQ below (va_Ql (fun (r : Int64) (u : (Int32) × (Int64) × (Int64)) => r = (fq_alike f_landHas a0 a1 a2 a3 (g 12) (gl 53) (gl 54)).1 ∧ u = (fq_alike f_landHas a0 a1 a2 a3 (g 12) (gl 53) (gl 54)).2) (fun (u : (Int32) × (Int64) × (Int64)) t => va_P (dC, dI) vwCl [(mq, .inr (12, mF (upd g 2 u.1) (vp_updL (vp_updL gl 53 u.2.1) 54 u.2.2) rf)), (eA0 (rf 29) (ck 29) 24 f_landHas)] t.heap ∧ va_K (dC, dI) vwCl [] t ∧ va_D A [(mq, .inr (12, mF (upd g 2 u.1) (vp_updL (vp_updL gl 53 u.2.1) 54 u.2.2) rf)), (eA0 (rf 29) (ck 29) 24 f_landHas)]) A) ([.ref mq, .int a0, .int a1, .long a2, .int a3] : List Value).toArray s 0 0 A) (F0 m 40 ls []) := by
            intro n
            induction n with
            | zero =>
              intro L6d m_gotYear_d m_gotDay_d hf_d h0_d h9_d hI_d H locs ls hP hD hS hl
              refine lv_lload hx hb dX12_alike_40 (lv_at hl 0 rfl) ?_
              refine lv_lload_n hx hb dX12_alike_42 rfl (lv_at hl 4 rfl) ?_
              refine lv_ldc2 (v := 20000) hx hb hown (htw _ (ck_43 _ (List.mem_of_getElem? (i := 21) rfl))) dX12_alike_43 ?_
              refine lv_ladd hx hb dX12_alike_46 ?_
              refine W.lcmp hx hb dX12_alike_47 ?_
              refine lv_if_ge (tgt := 132) hx hb dX12_alike_48 (by decide) (fun c_13 => ?_) (fun c_13 => absurd c_13 (fun h => h ((lg_cmp_ge _ _).mpr (xj_z hf_d))))
              refine lv_ldc2 (v := (-2)) hx hb hown (htw _ (ck_43 _ (List.mem_of_getElem? (i := 22) rfl))) dX12_alike_132 ?_
              refine W.widen (k := 0) (n := 0) (by omega) (by omega) ?_
              obtain ⟨hP9, hD9⟩ := zsub2 (ws' := [(mq, .inr (12, mF (upd g 2 0) (vp_updL (vp_updL gl 53 m_gotYear_d) 54 m_gotDay_d) rf)), (eA0 (rf 29) (ck 29) 24 f_landHas)]) hP hD [0, 1] (by decide) rfl
              have hK9 := hK.sub (tys' := []) [] rfl
              exact W.lret (v := (-2)) hx hb hr (fun t ht hW => ⟨⟨(-2), (0, m_gotYear_d, m_gotDay_d), rfl, ((fun e9 => ⟨by rw [e9], by rw [e9]⟩ : fq_alike f_landHas a0 a1 a2 a3 (g 12) (gl 53) (gl 54) = ((-2 : Int64), (0 : Int32), m_gotYear_d, m_gotDay_d) → _) (hI_d.trans (by rw [fq_alike_d]; try rfl))), by rw [ht]; exact hP9, va_K.moved hW.alike hK9, hD9⟩, hS.F ht⟩) hS.2.2 dX12_alike_135
            | succ n ih =>
              intro L6d m_gotYear_d m_gotDay_d hf_d h0_d h9_d hI_d H locs ls hP hD hS hl
              refine lv_lload hx hb dX12_alike_40 (lv_at hl 0 rfl) ?_
              refine lv_lload_n hx hb dX12_alike_42 rfl (lv_at hl 4 rfl) ?_
              refine lv_ldc2 (v := 20000) hx hb hown (htw _ (ck_43 _ (List.mem_of_getElem? (i := 21) rfl))) dX12_alike_43 ?_
              refine lv_ladd hx hb dX12_alike_46 ?_
              refine W.lcmp hx hb dX12_alike_47 ?_
              refine lv_if_ge (tgt := 132) hx hb dX12_alike_48 (by decide) (fun c_14 => ?_) (fun c_14 => ?_)
              · refine lv_ldc2 (v := (-2)) hx hb hown (htw _ (ck_43 _ (List.mem_of_getElem? (i := 22) rfl))) dX12_alike_132 ?_
                refine W.widen (k := 0) (n := 0) (by omega) (by omega) ?_
                obtain ⟨hP9, hD9⟩ := zsub2 (ws' := [(mq, .inr (12, mF (upd g 2 0) (vp_updL (vp_updL gl 53 m_gotYear_d) 54 m_gotDay_d) rf)), (eA0 (rf 29) (ck 29) 24 f_landHas)]) hP hD [0, 1] (by decide) rfl
                have hK9 := hK.sub (tys' := []) [] rfl
                exact W.lret (v := (-2)) hx hb hr (fun t ht hW => ⟨⟨(-2), (0, m_gotYear_d, m_gotDay_d), rfl, ((fun e9 => ⟨by rw [e9], by rw [e9]⟩ : fq_alike f_landHas a0 a1 a2 a3 (g 12) (gl 53) (gl 54) = ((-2 : Int64), (0 : Int32), m_gotYear_d, m_gotDay_d) → _) (hI_d.trans (by rw [fq_alike_d]; (try rw [if_pos c_14]); try rfl))), by rw [ht]; exact hP9, va_K.moved hW.alike hK9, hD9⟩, hS.F ht⟩) hS.2.2 dX12_alike_135
              · refine lv_lload hx hb dX12_alike_51 (lv_at hl 0 rfl) ?_
                refine lv_ldc2 (v := 1000000000000) hx hb hown (htw _ (ck_29 _ (List.mem_of_getElem? (i := 22) rfl))) dX12_alike_53 ?_
                refine W.lcmp hx hb dX12_alike_56 ?_
                refine lv_if_gt (tgt := 132) hx hb dX12_alike_57 (by decide) (fun c_15 => ?_) (fun c_15 => ?_)
                · refine lv_ldc2 (v := (-2)) hx hb hown (htw _ (ck_43 _ (List.mem_of_getElem? (i := 22) rfl))) dX12_alike_132 ?_
                  refine W.widen (k := 0) (n := 0) (by omega) (by omega) ?_
                  obtain ⟨hP9, hD9⟩ := zsub2 (ws' := [(mq, .inr (12, mF (upd g 2 0) (vp_updL (vp_updL gl 53 m_gotYear_d) 54 m_gotDay_d) rf)), (eA0 (rf 29) (ck 29) 24 f_landHas)]) hP hD [0, 1] (by decide) rfl
                  have hK9 := hK.sub (tys' := []) [] rfl
                  exact W.lret (v := (-2)) hx hb hr (fun t ht hW => ⟨⟨(-2), (0, m_gotYear_d, m_gotDay_d), rfl, ((fun e9 => ⟨by rw [e9], by rw [e9]⟩ : fq_alike f_landHas a0 a1 a2 a3 (g 12) (gl 53) (gl 54) = ((-2 : Int64), (0 : Int32), m_gotYear_d, m_gotDay_d) → _) (hI_d.trans (by rw [fq_alike_d]; (try rw [if_neg c_14]); (try rw [if_pos c_15]); try rfl))), by rw [ht]; exact hP9, va_K.moved hW.alike hK9, hD9⟩, hS.F ht⟩) hS.2.2 dX12_alike_135
                · refine lv_aload_n hx hb dX12_alike_60 rfl (lv_at hl 1 rfl) ?_
                  refine lv_iload_n hx hb dX12_alike_61 rfl (lv_at hl 2 rfl) ?_
                  refine lv_lload hx hb dX12_alike_62 (lv_at hl 0 rfl) ?_
                  obtain ⟨hPc, hDc, hFc, hCc⟩ := zsub3 (ws' := [(mq, .inr (12, mF (upd g 2 0) (vp_updL (vp_updL gl 53 m_gotYear_d) 54 m_gotDay_d) rf)), (eA0 (rf 29) (ck 29) 24 f_landHas)]) hP hD hS hA [0, 1] (by decide) rfl
                  have hKc := hK.sub (tys' := [((ck 29), .int)]) [0] rfl
                  refine va_calli (va_runV (As := [.int a0, .long L6d]) (rest := []) ⟨hx, hb, hml, hown, htw⟩ (gq_date1 l dC dI mq (upd g 2 0) (vp_updL (vp_updL gl 53 m_gotYear_d) 54 m_gotDay_d) rf ck f_landHas a0 L6d H.size (gq_alike_s0 (y0 := a0) (y1 := a1) (y2 := g 12) c_9 (hp_2.resolve_left c_4) (hp_3.resolve_left c_4) (hp_6.resolve_left c_8) (hp_7.resolve_left c_8) hln0 hln4) (gq_alike_s1 (y0 := a0) (y1 := a1) (y2 := g 12) c_9 (hp_2.resolve_left c_4) (hp_3.resolve_left c_4) (hp_6.resolve_left c_8) (hp_7.resolve_left c_8) hln0 hln4) (gq_alike_s2 (y0 := L6d) (y1 := a2) (fun q9 => c_14 ((lg_cmp_ge _ _).mpr q9)) (fun q9 => c_15 ((lg_cmp_gt _ _).mpr q9)) h0_d h9_d (xq_cnt hq_r_10 c_11).1 (xq_cnt hq_r_10 c_11).2) (gq_alike_s3 (y0 := L6d) (y1 := a2) (fun q9 => c_14 ((lg_cmp_ge _ _).mpr q9)) (fun q9 => c_15 ((lg_cmp_gt _ _).mpr q9)) h0_d h9_d (xq_cnt hq_r_10 c_11).1 (xq_cnt hq_r_10 c_11).2) (hLZ a0 (gq_alike_s4 (y0 := a0) (y1 := g 12) (y2 := a1) c_9 (hp_2.resolve_left c_4) (hp_3.resolve_left c_4) (hp_6.resolve_left c_8) (hp_7.resolve_left c_8) hln0 hln4).1 (gq_alike_s4 (y0 := a0) (y1 := g 12) (y2 := a1) c_9 (hp_2.resolve_left c_4) (hp_3.resolve_left c_4) (hp_6.resolve_left c_8) (hp_7.resolve_left c_8) hln0 hln4).2)) (cwV 2 htw (xg_V (ck_36 _ (List.mem_of_getElem? (i := 11) rfl)) (ck_36 _ (List.mem_of_getElem? (i := 12) rfl)) (ck_36 _ (List.mem_of_getElem? (i := 13) rfl)) (ck_1 _ (List.mem_of_getElem? (i := 5) rfl)) (ck_36 _ (List.mem_of_getElem? (i := 14) rfl))) rfl rfl rfl (by exact ⟨rfl, hdc_14.1, hdc_14.2, hdd_42⟩) ⟨Nat.le_of_ble_eq_true rfl, Nat.le_of_ble_eq_true rfl⟩) ⟨fun a U g mk q => by obtain ⟨q0, q1, qP, qK, qD⟩ := q; exact ⟨q0, q1, qP, va_K.moved (u := U) (U := U.calling g mk a) (Vm.Alike.refl U.vm) qK, qD⟩, va_recv hKc hPc (ci := 12) (q0 := 0) rfl rfl, fun U hU hW => ⟨rfl, by rw [hU], by rw [hU]; exact hPc, va_K.moved hW.alike hKc, hDc.weaken (fun _ _ _ _ => trivial)⟩⟩ rfl rfl hl.1 rfl (lv_room (Nat.le_of_ble_eq_true rfl)) dX12_alike_64 ⟨Nat.le_of_ble_eq_true rfl, Nat.le_of_ble_eq_true rfl⟩) hS (fun q _ h => hFc q h) hFc (fun r_16 u_17 t H1 locs ht hvm hw hB hz1 hk1 hS => ?_)
                  try dsimp only at hw
                  obtain ⟨hP1, hK1, hD1⟩ := hB
                  rw [ht] at hP1
                  have hK1 := va_K.moved hvm.symm hK1
                  have hK1 : va_K (dC, dI) vwCl [] s := hK1
                  obtain ⟨hP, hD⟩ := va_join (wr := []) (w1 := [(mq, .inr (12, mF (upd g 2 0) (vp_updL (vp_updL gl 53 u_17.1) 54 u_17.2) rf)), (eA0 (rf 29) (ck 29) 24 f_landHas)]) hP hD [0, 1] [] hCc rfl (by decide) (by decide) hk1 hFc hP1 hD1
                  generalize H1 = H at hP hS ⊢
                  obtain ⟨hP, hD⟩ := zre [(mq, .inr (12, mF (upd g 2 0) (vp_updL (vp_updL gl 53 u_17.1) 54 u_17.2) rf)), (eA0 (rf 29) (ck 29) 24 f_landHas)] hP hD rfl
                  refine W.widen (k := 0) (n := 0) (by omega) (by omega) ?_
                  obtain ⟨hw, hb_r_16⟩ := hw
                  obtain ⟨X_20, hX_20⟩ : ∃ X9 : Int32 × (Int64) × (Int64), X9 = (fq_date1 f_landHas a0 L6d m_gotYear_d m_gotDay_d) := ⟨_, rfl⟩
                  have hq_r_16 : r_16 = X_20.1 := by rw [hX_20]; exact hw.1
                  have hq_u_17 : u_17 = X_20.2 := by rw [hX_20]; exact hw.2
                  refine lv_if_ne (tgt := 73) hx hb dX12_alike_67 (by decide) (fun c_21 => ?_) (fun c_21 => ?_)
                  · refine lv_aload_n hx hb dX12_alike_73 rfl (lv_at hl 1 rfl) ?_
                    refine va_get (D := (dC, dI)) (ci := 12) (v := .long u_17.1) (C := RX12) (T := TX12) (N := 76) hx hb htw inlX12 hown hK hP 0 rfl rfl 53 (by decide) (htw _ (ck_36 _ (List.mem_of_getElem? (i := 6) rfl))) (fun _ h9 => h9) rfl dX12_alike_74 ?_
                    refine lv_lstore (lv' := [(8, .long u_17.1), (6, .long L6d), (0, .ref mq), (1, .int a0), (2, .int a1), (3, .long a2), (5, .int a3)]) hx hb dX12_alike_77 hl (by decide) rfl (fun ls hl => ?_)
                    refine lv_aload_n hx hb dX12_alike_79 rfl (lv_at hl 2 rfl) ?_
                    refine va_get (D := (dC, dI)) (ci := 12) (v := .long u_17.2) (C := RX12) (T := TX12) (N := 76) hx hb htw inlX12 hown hK hP 0 rfl rfl 54 (by decide) (htw _ (ck_36 _ (List.mem_of_getElem? (i := 7) rfl))) (fun _ h9 => h9) rfl dX12_alike_80 ?_
                    refine lv_lstore (lv' := [(10, .long u_17.2), (8, .long u_17.1), (6, .long L6d), (0, .ref mq), (1, .int a0), (2, .int a1), (3, .long a2), (5, .int a3)]) hx hb dX12_alike_83 hl (by decide) rfl (fun ls hl => ?_)
                    refine lv_aload_n hx hb dX12_alike_85 rfl (lv_at hl 3 rfl) ?_
                    refine lv_iload_n hx hb dX12_alike_86 rfl (lv_at hl 5 rfl) ?_
                    refine lv_lload hx hb dX12_alike_87 (lv_at hl 2 rfl) ?_
                    obtain ⟨hPc, hDc, hFc, hCc⟩ := zsub3 (ws' := [(mq, .inr (12, mF (upd g 2 0) (vp_updL (vp_updL gl 53 u_17.1) 54 u_17.2) rf)), (eA0 (rf 29) (ck 29) 24 f_landHas)]) hP hD hS hA [0, 1] (by decide) rfl
                    have hKc := hK.sub (tys' := [((ck 29), .int)]) [0] rfl
                    refine va_calli (va_runV (As := [.int a1, .long L6d]) (rest := []) ⟨hx, hb, hml, hown, htw⟩ (gq_date1 l dC dI mq (upd g 2 0) (vp_updL (vp_updL gl 53 u_17.1) 54 u_17.2) rf ck f_landHas a1 L6d H.size (gq_alike_s5 (y0 := a1) (y1 := a0) (y2 := g 12) c_9 (hp_2.resolve_left c_4) (hp_3.resolve_left c_4) (hp_6.resolve_left c_8) (hp_7.resolve_left c_8) hln0 hln4) (gq_alike_s6 (y0 := a1) (y1 := a0) (y2 := g 12) c_9 (hp_2.resolve_left c_4) (hp_3.resolve_left c_4) (hp_6.resolve_left c_8) (hp_7.resolve_left c_8) hln0 hln4) (gq_alike_s7 (y0 := L6d) (y1 := a2) (fun q9 => c_14 ((lg_cmp_ge _ _).mpr q9)) (fun q9 => c_15 ((lg_cmp_gt _ _).mpr q9)) h0_d h9_d (xq_cnt hq_r_10 c_11).1 (xq_cnt hq_r_10 c_11).2) (gq_alike_s8 (y0 := L6d) (y1 := a2) (fun q9 => c_14 ((lg_cmp_ge _ _).mpr q9)) (fun q9 => c_15 ((lg_cmp_gt _ _).mpr q9)) h0_d h9_d (xq_cnt hq_r_10 c_11).1 (xq_cnt hq_r_10 c_11).2) (hLZ a1 (gq_alike_s9 (y0 := a1) (y1 := g 12) (y2 := a0) c_9 (hp_2.resolve_left c_4) (hp_3.resolve_left c_4) (hp_6.resolve_left c_8) (hp_7.resolve_left c_8) hln0 hln4).1 (gq_alike_s9 (y0 := a1) (y1 := g 12) (y2 := a0) c_9 (hp_2.resolve_left c_4) (hp_3.resolve_left c_4) (hp_6.resolve_left c_8) (hp_7.resolve_left c_8) hln0 hln4).2)) (cwV 2 htw (xg_V (ck_36 _ (List.mem_of_getElem? (i := 11) rfl)) (ck_36 _ (List.mem_of_getElem? (i := 12) rfl)) (ck_36 _ (List.mem_of_getElem? (i := 13) rfl)) (ck_1 _ (List.mem_of_getElem? (i := 5) rfl)) (ck_36 _ (List.mem_of_getElem? (i := 14) rfl))) rfl rfl rfl (by exact ⟨rfl, hdc_14.1, hdc_14.2, hdd_42⟩) ⟨Nat.le_of_ble_eq_true rfl, Nat.le_of_ble_eq_true rfl⟩) ⟨fun a U g mk q => by obtain ⟨q0, q1, qP, qK, qD⟩ := q; exact ⟨q0, q1, qP, va_K.moved (u := U) (U := U.calling g mk a) (Vm.Alike.refl U.vm) qK, qD⟩, va_recv hKc hPc (ci := 12) (q0 := 0) rfl rfl, fun U hU hW => ⟨rfl, by rw [hU], by rw [hU]; exact hPc, va_K.moved hW.alike hKc, hDc.weaken (fun _ _ _ _ => trivial)⟩⟩ rfl rfl hl.1 rfl (lv_room (Nat.le_of_ble_eq_true rfl)) dX12_alike_89 ⟨Nat.le_of_ble_eq_true rfl, Nat.le_of_ble_eq_true rfl⟩) hS (fun q _ h => hFc q h) hFc (fun r_22 u_23 t H1 locs ht hvm hw hB hz1 hk1 hS => ?_)
                    try dsimp only at hw
                    obtain ⟨hP1, hK1, hD1⟩ := hB
                    rw [ht] at hP1
                    have hK1 := va_K.moved hvm.symm hK1
                    have hK1 : va_K (dC, dI) vwCl [] s := hK1
                    obtain ⟨hP, hD⟩ := va_join (wr := []) (w1 := [(mq, .inr (12, mF (upd g 2 0) (vp_updL (vp_updL gl 53 u_23.1) 54 u_23.2) rf)), (eA0 (rf 29) (ck 29) 24 f_landHas)]) hP hD [0, 1] [] hCc rfl (by decide) (by decide) hk1 hFc hP1 hD1
                    generalize H1 = H at hP hS ⊢
                    obtain ⟨hP, hD⟩ := zre [(mq, .inr (12, mF (upd g 2 0) (vp_updL (vp_updL gl 53 u_23.1) 54 u_23.2) rf)), (eA0 (rf 29) (ck 29) 24 f_landHas)] hP hD rfl
                    refine W.widen (k := 0) (n := 0) (by omega) (by omega) ?_
                    obtain ⟨hw, hb_r_22⟩ := hw
                    obtain ⟨X_26, hX_26⟩ : ∃ X9 : Int32 × (Int64) × (Int64), X9 = (fq_date1 f_landHas a1 L6d u_17.1 u_17.2) := ⟨_, rfl⟩
                    have hq_r_22 : r_22 = X_26.1 := by rw [hX_26]; exact hw.1
                    have hq_u_23 : u_23 = X_26.2 := by rw [hX_26]; exact hw.2
                    refine lv_if_eq (tgt := 123) hx hb dX12_alike_92 (by decide) (fun c_27 => ?_) (fun c_27 => ?_)
                    · refine lv_lload hx hb dX12_alike_123 (lv_at hl 2 rfl) ?_
                      refine lv_lconst (v := 1) hx hb dX12_alike_125 (by decide) ?_
                      refine lv_ladd hx hb dX12_alike_126 ?_
                      refine lv_lstore (lv' := [(6, .long (L6d + 1)), (10, .long u_17.2), (8, .long u_17.1), (0, .ref mq), (1, .int a0), (2, .int a1), (3, .long a2), (5, .int a3)]) hx hb dX12_alike_127 hl (by decide) rfl (fun ls hl => ?_)
                      refine lv_goto (tgt := 40) hx hb dX12_alike_129 (by decide) ?_
                      exact ih (L6d + 1) u_23.1 u_23.2 (by rw [xj_s (Int64.not_le.mp (fun q => c_14 ((lg_cmp_ge _ _).mpr q)))]; omega) (gq_alike_s10 (y0 := L6d) (y1 := a2) (fun q9 => c_14 ((lg_cmp_ge _ _).mpr q9)) (fun q9 => c_15 ((lg_cmp_gt _ _).mpr q9)) h0_d h9_d (xq_cnt hq_r_10 c_11).1 (xq_cnt hq_r_10 c_11).2) (gq_alike_s11 (y0 := L6d) (y1 := a2) (fun q9 => c_14 ((lg_cmp_ge _ _).mpr q9)) (fun q9 => c_15 ((lg_cmp_gt _ _).mpr q9)) h0_d h9_d (xq_cnt hq_r_10 c_11).1 (xq_cnt hq_r_10 c_11).2) (hI_d.trans (by rw [fq_alike_d]; (try rw [if_neg c_14]); (try rw [if_neg c_15]); (try rw [← hX_20]); (try rw [xL_eq]); (try rw [← hq_r_16]); (try rw [← hq_u_17]); (try rw [if_neg c_21]); (try rw [← hX_26]); (try rw [xL_eq]); (try rw [← hq_r_22]); (try rw [← hq_u_23]); (try rw [if_pos c_27]); try rfl)) H locs ls hP hD hS (lv_sub hl [0, 3, 4, 5, 6, 7] rfl)
                    · refine lv_aload_n hx hb dX12_alike_95 rfl (lv_at hl 3 rfl) ?_
                      refine va_get (D := (dC, dI)) (ci := 12) (v := .long u_23.2) (C := RX12) (T := TX12) (N := 76) hx hb htw inlX12 hown hK hP 0 rfl rfl 54 (by decide) (htw _ (ck_36 _ (List.mem_of_getElem? (i := 7) rfl))) (fun _ h9 => h9) rfl dX12_alike_96 ?_
                      refine lv_lload hx hb dX12_alike_99 (lv_at hl 0 rfl) ?_
                      refine W.lcmp hx hb dX12_alike_101 ?_
                      refine lv_if_ne (tgt := 123) hx hb dX12_alike_102 (by decide) (fun c_28 => ?_) (fun c_28 => ?_)
                      · refine lv_lload hx hb dX12_alike_123 (lv_at hl 2 rfl) ?_
                        refine lv_lconst (v := 1) hx hb dX12_alike_125 (by decide) ?_
                        refine lv_ladd hx hb dX12_alike_126 ?_
                        refine lv_lstore (lv' := [(6, .long (L6d + 1)), (10, .long u_17.2), (8, .long u_17.1), (0, .ref mq), (1, .int a0), (2, .int a1), (3, .long a2), (5, .int a3)]) hx hb dX12_alike_127 hl (by decide) rfl (fun ls hl => ?_)
                        refine lv_goto (tgt := 40) hx hb dX12_alike_129 (by decide) ?_
                        exact ih (L6d + 1) u_23.1 u_23.2 (by rw [xj_s (Int64.not_le.mp (fun q => c_14 ((lg_cmp_ge _ _).mpr q)))]; omega) (gq_alike_s12 (y0 := L6d) (y1 := a2) (fun q9 => c_14 ((lg_cmp_ge _ _).mpr q9)) (fun q9 => c_15 ((lg_cmp_gt _ _).mpr q9)) h0_d h9_d (xq_cnt hq_r_10 c_11).1 (xq_cnt hq_r_10 c_11).2) (gq_alike_s13 (y0 := L6d) (y1 := a2) (fun q9 => c_14 ((lg_cmp_ge _ _).mpr q9)) (fun q9 => c_15 ((lg_cmp_gt _ _).mpr q9)) h0_d h9_d (xq_cnt hq_r_10 c_11).1 (xq_cnt hq_r_10 c_11).2) (hI_d.trans (by rw [fq_alike_d]; (try rw [if_neg c_14]); (try rw [if_neg c_15]); (try rw [← hX_20]); (try rw [xL_eq]); (try rw [← hq_r_16]); (try rw [← hq_u_17]); (try rw [if_neg c_21]); (try rw [← hX_26]); (try rw [xL_eq]); (try rw [← hq_r_22]); (try rw [← hq_u_23]); (try rw [if_neg c_27]); (try rw [if_neg c_28]); try rfl)) H locs ls hP hD hS (lv_sub hl [0, 3, 4, 5, 6, 7] rfl)
                      · refine lv_iload hx hb dX12_alike_105 (lv_at hl 7 rfl) ?_
                        refine lv_if_eq (tgt := 120) hx hb dX12_alike_107 (by decide) (fun c_29 => ?_) (fun c_29 => ?_)
                        · refine lv_lload hx hb dX12_alike_120 (lv_at hl 2 rfl) ?_
                          refine W.widen (k := 0) (n := 0) (by omega) (by omega) ?_
                          have hP9 := hP
                          have hD9 := hD
                          have hK9 := hK.sub (tys' := []) [] rfl
                          exact W.lret (v := L6d) hx hb hr (fun t ht hW => ⟨⟨L6d, (0, u_23.1, u_23.2), rfl, ((fun e9 => ⟨by rw [e9], by rw [e9]⟩ : fq_alike f_landHas a0 a1 a2 a3 (g 12) (gl 53) (gl 54) = (L6d, (0 : Int32), u_23.1, u_23.2) → _) (hI_d.trans (by rw [fq_alike_d]; (try rw [if_neg c_14]); (try rw [if_neg c_15]); (try rw [← hX_20]); (try rw [xL_eq]); (try rw [← hq_r_16]); (try rw [← hq_u_17]); (try rw [if_neg c_21]); (try rw [← hX_26]); (try rw [xL_eq]); (try rw [← hq_r_22]); (try rw [← hq_u_23]); (try rw [if_neg c_27]); (try rw [if_pos c_28]); (try rw [if_pos c_29]); try rfl))), by rw [ht]; exact hP9, va_K.moved hW.alike hK9, hD9⟩, hS.F ht⟩) hS.2.2 dX12_alike_122
                        · refine lv_aload_n hx hb dX12_alike_110 rfl (lv_at hl 3 rfl) ?_
                          refine va_get (D := (dC, dI)) (ci := 12) (v := .long u_23.1) (C := RX12) (T := TX12) (N := 76) hx hb htw inlX12 hown hK hP 0 rfl rfl 53 (by decide) (htw _ (ck_36 _ (List.mem_of_getElem? (i := 6) rfl))) (fun _ h9 => h9) rfl dX12_alike_111 ?_
                          refine lv_lload hx hb dX12_alike_114 (lv_at hl 1 rfl) ?_
                          refine W.lcmp hx hb dX12_alike_116 ?_
                          refine lv_if_ne (tgt := 123) hx hb dX12_alike_117 (by decide) (fun c_30 => ?_) (fun c_30 => ?_)
                          · refine lv_lload hx hb dX12_alike_123 (lv_at hl 2 rfl) ?_
                            refine lv_lconst (v := 1) hx hb dX12_alike_125 (by decide) ?_
                            refine lv_ladd hx hb dX12_alike_126 ?_
                            refine lv_lstore (lv' := [(6, .long (L6d + 1)), (10, .long u_17.2), (8, .long u_17.1), (0, .ref mq), (1, .int a0), (2, .int a1), (3, .long a2), (5, .int a3)]) hx hb dX12_alike_127 hl (by decide) rfl (fun ls hl => ?_)
                            refine lv_goto (tgt := 40) hx hb dX12_alike_129 (by decide) ?_
                            exact ih (L6d + 1) u_23.1 u_23.2 (by rw [xj_s (Int64.not_le.mp (fun q => c_14 ((lg_cmp_ge _ _).mpr q)))]; omega) (gq_alike_s14 (y0 := L6d) (y1 := a2) (fun q9 => c_14 ((lg_cmp_ge _ _).mpr q9)) (fun q9 => c_15 ((lg_cmp_gt _ _).mpr q9)) h0_d h9_d (xq_cnt hq_r_10 c_11).1 (xq_cnt hq_r_10 c_11).2) (gq_alike_s15 (y0 := L6d) (y1 := a2) (fun q9 => c_14 ((lg_cmp_ge _ _).mpr q9)) (fun q9 => c_15 ((lg_cmp_gt _ _).mpr q9)) h0_d h9_d (xq_cnt hq_r_10 c_11).1 (xq_cnt hq_r_10 c_11).2) (hI_d.trans (by rw [fq_alike_d]; (try rw [if_neg c_14]); (try rw [if_neg c_15]); (try rw [← hX_20]); (try rw [xL_eq]); (try rw [← hq_r_16]); (try rw [← hq_u_17]); (try rw [if_neg c_21]); (try rw [← hX_26]); (try rw [xL_eq]); (try rw [← hq_r_22]); (try rw [← hq_u_23]); (try rw [if_neg c_27]); (try rw [if_pos c_28]); (try rw [if_neg c_29]); (try rw [if_neg c_30]); try rfl)) H locs ls hP hD hS (lv_sub hl [0, 3, 4, 5, 6, 7] rfl)
                          · refine lv_lload hx hb dX12_alike_120 (lv_at hl 2 rfl) ?_
                            refine W.widen (k := 0) (n := 0) (by omega) (by omega) ?_
                            have hP9 := hP
                            have hD9 := hD
                            have hK9 := hK.sub (tys' := []) [] rfl
                            exact W.lret (v := L6d) hx hb hr (fun t ht hW => ⟨⟨L6d, (0, u_23.1, u_23.2), rfl, ((fun e9 => ⟨by rw [e9], by rw [e9]⟩ : fq_alike f_landHas a0 a1 a2 a3 (g 12) (gl 53) (gl 54) = (L6d, (0 : Int32), u_23.1, u_23.2) → _) (hI_d.trans (by rw [fq_alike_d]; (try rw [if_neg c_14]); (try rw [if_neg c_15]); (try rw [← hX_20]); (try rw [xL_eq]); (try rw [← hq_r_16]); (try rw [← hq_u_17]); (try rw [if_neg c_21]); (try rw [← hX_26]); (try rw [xL_eq]); (try rw [← hq_r_22]); (try rw [← hq_u_23]); (try rw [if_neg c_27]); (try rw [if_pos c_28]); (try rw [if_neg c_29]); (try rw [if_pos c_30]); try rfl))), by rw [ht]; exact hP9, va_K.moved hW.alike hK9, hD9⟩, hS.F ht⟩) hS.2.2 dX12_alike_122
                  · refine lv_goto (tgt := 123) hx hb dX12_alike_70 (by decide) ?_
                    refine lv_lload hx hb dX12_alike_123 (lv_at hl 0 rfl) ?_
                    refine lv_lconst (v := 1) hx hb dX12_alike_125 (by decide) ?_
                    refine lv_ladd hx hb dX12_alike_126 ?_
                    refine lv_lstore (lv' := [(6, .long (L6d + 1)), (0, .ref mq), (1, .int a0), (2, .int a1), (3, .long a2), (5, .int a3)]) hx hb dX12_alike_127 hl (by decide) rfl (fun ls hl => ?_)
                    refine lv_goto (tgt := 40) hx hb dX12_alike_129 (by decide) ?_
                    exact ih (L6d + 1) u_17.1 u_17.2 (by rw [xj_s (Int64.not_le.mp (fun q => c_14 ((lg_cmp_ge _ _).mpr q)))]; omega) (gq_alike_s16 (y0 := L6d) (y1 := a2) (fun q9 => c_14 ((lg_cmp_ge _ _).mpr q9)) (fun q9 => c_15 ((lg_cmp_gt _ _).mpr q9)) h0_d h9_d (xq_cnt hq_r_10 c_11).1 (xq_cnt hq_r_10 c_11).2) (gq_alike_s17 (y0 := L6d) (y1 := a2) (fun q9 => c_14 ((lg_cmp_ge _ _).mpr q9)) (fun q9 => c_15 ((lg_cmp_gt _ _).mpr q9)) h0_d h9_d (xq_cnt hq_r_10 c_11).1 (xq_cnt hq_r_10 c_11).2) (hI_d.trans (by rw [fq_alike_d]; (try rw [if_neg c_14]); (try rw [if_neg c_15]); (try rw [← hX_20]); (try rw [xL_eq]); (try rw [← hq_r_16]); (try rw [← hq_u_17]); (try rw [if_pos c_21]); try rfl)) H locs ls hP hD hS (lv_sub hl [0, 1, 2, 3, 4, 5] rfl)
          exact hloop_12 20000 a2 (gl 53) (gl 54) (by rw [xj_add (gq_alike_s18 (y0 := a2) (xq_cnt hq_r_10 c_11).1 (xq_cnt hq_r_10 c_11).2).1 (gq_alike_s18 (y0 := a2) (xq_cnt hq_r_10 c_11).1 (xq_cnt hq_r_10 c_11).2).2 (by decide) (by decide)]; have e9 : (20000 : Int64).toInt = 20000 := rfl; omega) (gq_alike_s19 (y0 := a2) (xq_cnt hq_r_10 c_11).1 (xq_cnt hq_r_10 c_11).2) (gq_alike_s20 (y0 := a2) (xq_cnt hq_r_10 c_11).1 (xq_cnt hq_r_10 c_11).2) ((by rw [fq_alike]; (try rw [← hq_r_1]); (try rw [xL_eq]); (try rw [if_neg c_4]); (try rw [← hq_r_5]); (try rw [xL_eq]); (try rw [if_neg c_8]); (try rw [if_neg c_9]); (try rw [← hq_r_10]); (try rw [xL_eq]); (try rw [if_neg c_11]); try rfl)) _ _ ls hP hD hS (lv_sub hl [0, 1, 2, 3, 4, 5] rfl)
        · refine lv_ldc2 (v := (-1)) hx hb hown (htw _ (ck_29 _ (List.mem_of_getElem? (i := 13) rfl))) dX12_alike_33 ?_
          refine W.widen (k := 0) (n := 0) (by omega) (by omega) ?_
          have hP9 := hP
          have hD9 := hD
          have hK9 := hK.sub (tys' := []) [] rfl
          exact W.lret (v := (-1)) hx hb hr (fun t ht hW => ⟨⟨(-1), (0, (gl 53), (gl 54)), rfl, ((fun e9 => ⟨by rw [e9], by rw [e9]⟩ : fq_alike f_landHas a0 a1 a2 a3 (g 12) (gl 53) (gl 54) = ((-1 : Int64), (0 : Int32), (gl 53), (gl 54)) → _) ((by rw [fq_alike]; (try rw [← hq_r_1]); (try rw [xL_eq]); (try rw [if_neg c_4]); (try rw [← hq_r_5]); (try rw [xL_eq]); (try rw [if_neg c_8]); (try rw [if_neg c_9]); (try rw [← hq_r_10]); (try rw [xL_eq]); (try rw [if_pos c_11]); try rfl))), by rw [ht]; exact hP9, va_K.moved hW.alike hK9, hD9⟩, hS.F ht⟩) hS.2.2 dX12_alike_36
