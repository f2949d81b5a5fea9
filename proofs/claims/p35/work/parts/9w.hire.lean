theorem xj_d {m : Int32} (h1 : ¬ m < 1) (h9 : ¬ 99999 < m) : ¬ m.toInt64 < 0 ∧ m.toInt64 ≤ 99999 := by
  have a := xi_le (Int32.not_lt.mp h1)
  have b := xi_le (Int32.not_lt.mp h9)
  have e1 : (1 : Int32).toInt = 1 := rfl
  have e9 : (99999 : Int32).toInt = 99999 := rfl
  rw [Int64.lt_iff_toInt_lt, Int64.le_iff_toInt_le, Int32.toInt_toInt64]
  have f0 : (0 : Int64).toInt = 0 := rfl
  have f9 : (99999 : Int64).toInt = 99999 := rfl
  omega
theorem xj_n {m : Int32} (h1 : ¬ m < 0) (h9 : ¬ 999 < m) : ¬ m.toInt64 < 0 ∧ m.toInt64 ≤ 999 := by
  have a := xi_nn h1
  have b := xi_le (Int32.not_lt.mp h9)
  have e9 : (999 : Int32).toInt = 999 := rfl
  rw [Int64.lt_iff_toInt_lt, Int64.le_iff_toInt_le, Int32.toInt_toInt64]
  have f0 : (0 : Int64).toInt = 0 := rfl
  have f9 : (999 : Int64).toInt = 999 := rfl
  omega

theorem xj_hs {a n : Int64} (a0 : ¬ a < 0) (a9 : a ≤ 1000000000000) (n0 : ¬ n < 0) (n9 : n ≤ 999) : (a + n).toInt < a.toInt + ((1000 : Nat) : Int) := by
  rw [Int64.lt_iff_toInt_lt] at a0 n0
  rw [Int64.le_iff_toInt_le] at a9 n9
  have e0 : (0 : Int64).toInt = 0 := rfl
  have e1 : (1000000000000 : Int64).toInt = 1000000000000 := rfl
  have e2 : (999 : Int64).toInt = 999 := rfl
  rw [Int64.toInt_add, Int.bmod_eq_of_le (by omega) (by omega)]
  omega
theorem xj_hz {a b : Int64} (h : b.toInt < a.toInt + ((0 : Nat) : Int)) : b < a := by
  rw [Int64.lt_iff_toInt_lt]
  omega

def fq_ends (f_landHas : Nat → Int32) (a0 : Int32) (a1 : Int64) (a2 : Int32) (m_lands : Int32) (m_gotYear : Int64) (m_gotDay : Int64) : Int32 × (Int32) × (Int64) × (Int64) := (xL ((fq_isLand a0 m_lands)) (fun r_1 => (if r_1 = 0 then ((-1 : Int32), (0 : Int32), m_gotYear, m_gotDay) else (xL ((fq_isCount a1)) (fun r_5 => (if r_5 = 0 then ((-1 : Int32), (0 : Int32), m_gotYear, m_gotDay) else (xL ((fq_isDays a2)) (fun r_7 => (if r_7 = 0 then ((-1 : Int32), (0 : Int32), m_gotYear, m_gotDay) else (if lg_cmp (a1 + a2.toInt64) 1000000000000 ≤ 0 then (xL ((fq_endedBy f_landHas a0 (a1 + a2.toInt64) m_gotYear m_gotDay)) (fun X_16 => (xL ((fq_endedBy f_landHas a0 a1 X_16.2.1 X_16.2.2)) (fun X_21 => ((X_16.1 - X_21.1).toInt32, (0 : Int32), X_21.2.1, X_21.2.2))))) else ((-1 : Int32), (0 : Int32), m_gotYear, m_gotDay)))))))))))
theorem gq_ends_s0 {y0 : Int32} {y1 : Int32} (h0 : y0 < y1) (h1 : y1 ≤ 4) : y0 ≤ 7 := by lia
theorem gq_ends_s1 {y0 : Int64} {y1 : Int64} (h0 : ¬ (y1 < 0)) (h1 : y1 ≤ 99999) (h2 : ¬ (y0 < 0)) (h3 : y0 ≤ 1000000000000) : ¬ ((y0 + y1) < 0) := by lia
theorem gq_ends_s2 {y0 : Int64} {y1 : Int64} (h0 : ¬ (y1 < 0)) (h1 : y1 ≤ 99999) (h2 : ¬ (y0 < 0)) (h3 : y0 ≤ 1000000000000) : (y0 + y1) ≤ 2000000000000 := by lia
theorem gq_ends_s3 {y0 : Int32} {y1 : Int32} (h0 : y0 < y1) (h1 : y1 ≤ 4) : y0 ≤ 7 := by lia
theorem gq_ends_s4 {y0 : Int64} (h0 : y0 ≤ 1000000000000) : y0 ≤ 2000000000000 := by lia
theorem dX12_ends_0 : decode cX12_ends 0 = .ok (.aload_n 0, 1) := zk_42 (by decide +kernel)
theorem dX12_ends_1 : decode cX12_ends 1 = .ok (.iconst 0, 1) := zk_3 (by decide +kernel)
theorem dX12_ends_2 : decode cX12_ends 2 = .ok (.putfield 119, 3) := zk_181 (by decide +kernel)
theorem dX12_ends_5 : decode cX12_ends 5 = .ok (.aload_n 0, 1) := zk_42 (by decide +kernel)
theorem dX12_ends_6 : decode cX12_ends 6 = .ok (.iload_n 1, 1) := zk_27 (by decide +kernel)
theorem dX12_ends_7 : decode cX12_ends 7 = .ok (.invokevirtual 404, 3) := zk_182 (by decide +kernel)
theorem dX12_ends_10 : decode cX12_ends 10 = .ok (.ifCond .eq 30, 3) := zk_153 (by decide +kernel)
theorem dX12_ends_40 : decode cX12_ends 40 = .ok (.iconst (-1), 1) := zk_2 (by decide +kernel)
theorem dX12_ends_41 : decode cX12_ends 41 = .ok (.ireturn, 1) := zk_172 (by decide +kernel)
theorem dX12_ends_13 : decode cX12_ends 13 = .ok (.lload_n 2, 1) := zk_32 (by decide +kernel)
theorem dX12_ends_14 : decode cX12_ends 14 = .ok (.invokestatic 413, 3) := zk_184 (by decide +kernel)
theorem dX12_ends_17 : decode cX12_ends 17 = .ok (.ifCond .eq 23, 3) := zk_153 (by decide +kernel)
theorem dX12_ends_20 : decode cX12_ends 20 = .ok (.iload 4, 2) := zk_21 (by decide +kernel)
theorem dX12_ends_22 : decode cX12_ends 22 = .ok (.invokestatic 487, 3) := zk_184 (by decide +kernel)
theorem dX12_ends_25 : decode cX12_ends 25 = .ok (.ifCond .eq 15, 3) := zk_153 (by decide +kernel)
theorem dX12_ends_28 : decode cX12_ends 28 = .ok (.lload_n 2, 1) := zk_32 (by decide +kernel)
theorem dX12_ends_29 : decode cX12_ends 29 = .ok (.iload 4, 2) := zk_21 (by decide +kernel)
theorem dX12_ends_31 : decode cX12_ends 31 = .ok (.i2l, 1) := zk_133 (by decide +kernel)
theorem dX12_ends_32 : decode cX12_ends 32 = .ok (.ladd, 1) := zk_97 (by decide +kernel)
theorem dX12_ends_33 : decode cX12_ends 33 = .ok (.ldc2_w 125, 3) := zk_20 (by decide +kernel)
theorem dX12_ends_36 : decode cX12_ends 36 = .ok (.lcmp, 1) := zk_148 (by decide +kernel)
theorem dX12_ends_37 : decode cX12_ends 37 = .ok (.ifCond .le 5, 3) := zk_158 (by decide +kernel)
theorem dX12_ends_42 : decode cX12_ends 42 = .ok (.aload_n 0, 1) := zk_42 (by decide +kernel)
theorem dX12_ends_43 : decode cX12_ends 43 = .ok (.iload_n 1, 1) := zk_27 (by decide +kernel)
theorem dX12_ends_44 : decode cX12_ends 44 = .ok (.lload_n 2, 1) := zk_32 (by decide +kernel)
theorem dX12_ends_45 : decode cX12_ends 45 = .ok (.iload 4, 2) := zk_21 (by decide +kernel)
theorem dX12_ends_47 : decode cX12_ends 47 = .ok (.i2l, 1) := zk_133 (by decide +kernel)
theorem dX12_ends_48 : decode cX12_ends 48 = .ok (.ladd, 1) := zk_97 (by decide +kernel)
theorem dX12_ends_49 : decode cX12_ends 49 = .ok (.invokevirtual 484, 3) := zk_182 (by decide +kernel)
theorem dX12_ends_52 : decode cX12_ends 52 = .ok (.aload_n 0, 1) := zk_42 (by decide +kernel)
theorem dX12_ends_53 : decode cX12_ends 53 = .ok (.iload_n 1, 1) := zk_27 (by decide +kernel)
theorem dX12_ends_54 : decode cX12_ends 54 = .ok (.lload_n 2, 1) := zk_32 (by decide +kernel)
theorem dX12_ends_55 : decode cX12_ends 55 = .ok (.invokevirtual 484, 3) := zk_182 (by decide +kernel)
theorem dX12_ends_58 : decode cX12_ends 58 = .ok (.lsub, 1) := zk_101 (by decide +kernel)
theorem dX12_ends_59 : decode cX12_ends 59 = .ok (.l2i, 1) := zk_136 (by decide +kernel)
theorem dX12_ends_60 : decode cX12_ends 60 = .ok (.ireturn, 1) := zk_172 (by decide +kernel)
set_option maxHeartbeats 4000000 in
set_option maxRecDepth 100000 in
theorem gq_ends (l : Launch) (dC : Nat → ClassId) (dI : Nat → Nat → Nat) (mq : Nat) (g : Nat → Int32) (gl : Nat → Int64) (rf : Nat → Nat) (ck : Nat → ClassId) (f_landHas : Nat → Int32) (a0 : Int32) (a1 : Int64) (a2 : Int32) (sz : Nat) (hln0 : ¬ (g 12) < 0) (hln4 : (g 12) ≤ 4) (hLZ1 : ∀ k : Int32, ¬ k < 0 → k < (g 12) → ¬ (f_landHas ((3 * k).toNatClampNeg)) < 1) : Met l yX12_ends (Cond.code yX12_ends cX12_ends 5 (some .int) :: wsL_law) ({ frames := 3, cells := 0, slots := 0, locals := 79 }) (va_Pc [.ref mq, .int a0, .long a1, .int a2] (fun U => U.heap.size = sz ∧ va_P (dC, dI) vwCl [(mq, .inr (12, mF g gl rf)), (eA0 (rf 29) (ck 29) 24 f_landHas)] U.heap ∧ va_K (dC, dI) vwCl [((ck 29), .int)] U ∧ va_D (fun _ => True) [(mq, .inr (12, mF g gl rf)), (eA0 (rf 29) (ck 29) 24 f_landHas)])) (va_Qi (fun (r : Int32) (u : (Int32) × (Int64) × (Int64)) => r = (fq_ends f_landHas a0 a1 a2 (g 12) (gl 53) (gl 54)).1 ∧ u = (fq_ends f_landHas a0 a1 a2 (g 12) (gl 53) (gl 54)).2) (fun (u : (Int32) × (Int64) × (Int64)) t => va_P (dC, dI) vwCl [(mq, .inr (12, mF (upd g 2 u.1) (vp_updL (vp_updL gl 53 u.2.1) 54 u.2.2) rf)), (eA0 (rf 29) (ck 29) 24 f_landHas)] t.heap ∧ va_K (dC, dI) vwCl [] t ∧ va_D (va_A [(mq, .inr (12, mF g gl rf)), (eA0 (rf 29) (ck 29) 24 f_landHas)] sz) [(mq, .inr (12, mF (upd g 2 u.1) (vp_updL (vp_updL gl 53 u.2.1) 54 u.2.2) rf)), (eA0 (rf 29) (ck 29) 24 f_landHas)]) (va_A [(mq, .inr (12, mF g gl rf)), (eA0 (rf 29) (ck 29) 24 f_landHas)] sz)) 0 0 (va_A [(mq, .inr (12, mF g gl rf)), (eA0 (rf 29) (ck 29) 24 f_landHas)] sz) := by
  refine Met.ofW (cc := cX12_ends) (maxL := 5) (ret := (some .int)) (by decide) rfl ?_
  intro p e s m args below meth c s₁ B hml hv
  obtain ⟨rfl, hsz, hP, hK, hD0⟩ := hv
  have hx := B.exec
  have hb := B.bytes
  have hr := B.returns
  have hts := atoms_spec (ws := Cond.code yX12_ends cX12_ends 5 (some .int) :: wsL_law) B.pre
  have htw : ∀ w ∈ wsL_law, w.before _ s = true := fun w h => hts w (List.mem_cons_of_mem _ h)
  have hown : s.vm.findClass RX12 = some m.cls := findClass_of_methodNamed B.named
  have hlocks := B.notSynchronized
  subst hsz
  have hD := hD0.self (sz := s.heap.size)
  generalize hAe : va_A [(mq, .inr (12, mF g gl rf)), (eA0 (rf 29) (ck 29) 24 f_landHas)] s.heap.size = A at hD ⊢
  have hA : ∀ q : Nat, s.heap.size ≤ q → A q := fun q h => by rw [← hAe]; exact Or.inr h
  obtain ⟨H, rH⟩ : ∃ z : Heap, z = s.heap := ⟨_, rfl⟩
  have hS : va_S A s.heap H [] := by rw [rH]; exact va_S.rf
  have hP : va_P (dC, dI) vwCl [(mq, .inr (12, mF g gl rf)), (eA0 (rf 29) (ck 29) 24 f_landHas)] H := by rw [rH]; exact hP
  rw [← rH]
  have hl := lv_entry ([.ref mq, .int a0, .long a1, .int a2]) (n := 5) (Nat.le_of_ble_eq_true rfl)
  rw [lg_entry_eq]
  generalize (lg_sl ([.ref mq, .int a0, .long a1, .int a2]) ++ List.replicate (5 - (lg_sl ([.ref mq, .int a0, .long a1, .int a2])).length) Slot.unset).toArray = ls at hl ⊢
  have hl : lv_has ls 5 [(0, .ref mq), (1, .int a0), (2, .long a1), (4, .int a2)] := hl
  refine lv_aload_n hx hb dX12_ends_0 rfl (lv_at hl 0 rfl) ?_
  refine lv_iconst (v := 0) hx hb dX12_ends_1 (by decide) ?_
  refine va_put (D := (dC, dI)) (ci := 12) (v := .int 0) (ty := tyX12 2) (C := RX12) (T := TX12) (N := 76) hx hb htw inlX12 tyX12 tyX12_ok nmX12 hown hK hP hD hS 0 rfl rfl 2 (by decide) (htw _ (ck_12 _ (List.mem_of_getElem? (i := 16) rfl))) (fun _ h9 => h9) rfl (tyX12_ok 2 (by decide)) rfl rfl (Nat.le_of_ble_eq_true rfl) dX12_ends_2 (fun H locs hP hD hS => ?_)
  obtain ⟨hP, hD⟩ := zre [(mq, .inr (12, mF (upd g 2 0) gl rf)), (eA0 (rf 29) (ck 29) 24 f_landHas)] hP hD rfl
  refine lv_aload_n hx hb dX12_ends_5 rfl (lv_at hl 0 rfl) ?_
  refine lv_iload_n hx hb dX12_ends_6 rfl (lv_at hl 1 rfl) ?_
  have hPc := hP.sub (ws' := [(mq, .inr (12, mF (upd g 2 0) gl rf))]) [0] rfl
  have hKc := hK.sub (tys' := []) [] rfl
  refine vp_callSi (W.runV (As := [.int a0]) (rest := []) ⟨hx, hb, hml, hown, htw⟩ (gq_isLand l dC dI mq (upd g 2 0) gl rf a0) (cwV 1 htw (xg_V (ck_34 _ (List.mem_of_getElem? (i := 2) rfl)) (ck_34 _ (List.mem_of_getElem? (i := 3) rfl)) (ck_34 _ (List.mem_of_getElem? (i := 4) rfl)) (ck_1 _ (List.mem_of_getElem? (i := 5) rfl)) (ck_34 _ (List.mem_of_getElem? (i := 5) rfl))) rfl rfl rfl (by exact ⟨rfl, hdc_14.1, hdc_14.2, hdd_26⟩) ⟨Nat.le_of_ble_eq_true rfl, Nat.le_of_ble_eq_true rfl⟩) ⟨fun a U g mk q => by obtain ⟨q0, qP, qK⟩ := q; exact ⟨q0, qP, va_K.moved (u := U) (U := U.calling g mk a) (Vm.Alike.refl U.vm) qK⟩, va_recv hKc hPc (ci := 12) (q0 := 0) rfl rfl, fun U hU hW => ⟨rfl, by rw [hU]; exact hPc, va_K.moved hW.alike hKc⟩⟩ rfl rfl hl.1 rfl (lv_room (Nat.le_of_ble_eq_true rfl)) dX12_ends_7 ⟨Nat.le_of_ble_eq_true rfl, Nat.le_of_ble_eq_true rfl⟩) (fun r_1 hw => ?_)
  try dsimp only at hw
  obtain ⟨hw, hb_r_1, hp_2, hp_3⟩ := hw
  have hq_r_1 : r_1 = (fq_isLand a0 (g 12)) := hw
  refine lv_if_eq (tgt := 40) hx hb dX12_ends_10 (by decide) (fun c_4 => ?_) (fun c_4 => ?_)
  · refine lv_iconst (v := (-1)) hx hb dX12_ends_40 (by decide) ?_
    refine W.widen (k := 0) (n := 0) (by omega) (by omega) ?_
    have hP9 := hP
    have hD9 := hD
    have hK9 := hK.sub (tys' := []) [] rfl
    exact W.iret (v := (-1)) hx hb hr (fun t ht hW => ⟨⟨(-1), (0, (gl 53), (gl 54)), rfl, ((fun e9 => ⟨by rw [e9], by rw [e9]⟩ : fq_ends f_landHas a0 a1 a2 (g 12) (gl 53) (gl 54) = ((-1 : Int32), (0 : Int32), (gl 53), (gl 54)) → _) ((by rw [fq_ends]; (try rw [← hq_r_1]); (try rw [xL_eq]); (try rw [if_pos c_4]); try rfl))), by rw [ht]; exact hP9, va_K.moved hW.alike hK9, hD9⟩, hS.F ht⟩) hS.2.2 dX12_ends_41
  · refine lv_lload_n hx hb dX12_ends_13 rfl (lv_at hl 2 rfl) ?_
    have hPc := hP.sub (ws' := []) [] rfl
    have hKc := hK.sub (tys' := []) [] rfl
    refine vp_callSi (W.runS (As := [.long a1]) (rest := []) ⟨hx, hb, hml, hown, htw⟩ (gq_isCount l dC dI a1) (va_cwS 1 htw (xg_S (ck_36 _ (List.mem_of_getElem? (i := 8) rfl)) (ck_36 _ (List.mem_of_getElem? (i := 9) rfl)) (ck_1 _ (List.mem_of_getElem? (i := 5) rfl)) (ck_36 _ (List.mem_of_getElem? (i := 10) rfl))) rfl rfl rfl (by exact ⟨hdc_14.1, hdc_14.2, hdd_1⟩) ⟨Nat.le_of_ble_eq_true rfl, Nat.le_of_ble_eq_true rfl⟩) ⟨fun a U g mk q => by obtain ⟨q0, qP, qK⟩ := q; exact ⟨q0, qP, va_K.moved (u := U) (U := U.calling g mk a) (Vm.Alike.refl U.vm) qK⟩, fun U hU hW => ⟨rfl, by rw [hU]; exact hPc, va_K.moved hW.alike hKc⟩⟩ rfl rfl hl.1 rfl (lv_room (Nat.le_of_ble_eq_true rfl)) dX12_ends_14 ⟨Nat.le_of_ble_eq_true rfl, Nat.le_of_ble_eq_true rfl⟩) (fun r_5 hw => ?_)
    try dsimp only at hw
    obtain ⟨hw, hb_r_5⟩ := hw
    have hq_r_5 : r_5 = (fq_isCount a1) := hw
    refine lv_if_eq (tgt := 40) hx hb dX12_ends_17 (by decide) (fun c_6 => ?_) (fun c_6 => ?_)
    · refine lv_iconst (v := (-1)) hx hb dX12_ends_40 (by decide) ?_
      refine W.widen (k := 0) (n := 0) (by omega) (by omega) ?_
      have hP9 := hP
      have hD9 := hD
      have hK9 := hK.sub (tys' := []) [] rfl
      exact W.iret (v := (-1)) hx hb hr (fun t ht hW => ⟨⟨(-1), (0, (gl 53), (gl 54)), rfl, ((fun e9 => ⟨by rw [e9], by rw [e9]⟩ : fq_ends f_landHas a0 a1 a2 (g 12) (gl 53) (gl 54) = ((-1 : Int32), (0 : Int32), (gl 53), (gl 54)) → _) ((by rw [fq_ends]; (try rw [← hq_r_1]); (try rw [xL_eq]); (try rw [if_neg c_4]); (try rw [← hq_r_5]); (try rw [xL_eq]); (try rw [if_pos c_6]); try rfl))), by rw [ht]; exact hP9, va_K.moved hW.alike hK9, hD9⟩, hS.F ht⟩) hS.2.2 dX12_ends_41
    · refine lv_iload hx hb dX12_ends_20 (lv_at hl 3 rfl) ?_
      have hPc := hP.sub (ws' := []) [] rfl
      have hKc := hK.sub (tys' := []) [] rfl
      refine vp_callSi (W.runS (As := [.int a2]) (rest := []) ⟨hx, hb, hml, hown, htw⟩ (gq_isDays l dC dI a2) (va_cwS 1 htw (xg_S (ck_51 _ (List.mem_of_getElem? (i := 0) rfl)) (ck_51 _ (List.mem_of_getElem? (i := 1) rfl)) (ck_1 _ (List.mem_of_getElem? (i := 5) rfl)) (ck_51 _ (List.mem_of_getElem? (i := 2) rfl))) rfl rfl rfl (by exact ⟨hdc_14.1, hdc_14.2, hdd_26⟩) ⟨Nat.le_of_ble_eq_true rfl, Nat.le_of_ble_eq_true rfl⟩) ⟨fun a U g mk q => by obtain ⟨q0, qP, qK⟩ := q; exact ⟨q0, qP, va_K.moved (u := U) (U := U.calling g mk a) (Vm.Alike.refl U.vm) qK⟩, fun U hU hW => ⟨rfl, by rw [hU]; exact hPc, va_K.moved hW.alike hKc⟩⟩ rfl rfl hl.1 rfl (lv_room (Nat.le_of_ble_eq_true rfl)) dX12_ends_22 ⟨Nat.le_of_ble_eq_true rfl, Nat.le_of_ble_eq_true rfl⟩) (fun r_7 hw => ?_)
      try dsimp only at hw
      obtain ⟨hw, hb_r_7, hp_8, hp_9⟩ := hw
      have hq_r_7 : r_7 = (fq_isDays a2) := hw
      refine lv_if_eq (tgt := 40) hx hb dX12_ends_25 (by decide) (fun c_10 => ?_) (fun c_10 => ?_)
      · refine lv_iconst (v := (-1)) hx hb dX12_ends_40 (by decide) ?_
        refine W.widen (k := 0) (n := 0) (by omega) (by omega) ?_
        have hP9 := hP
        have hD9 := hD
        have hK9 := hK.sub (tys' := []) [] rfl
        exact W.iret (v := (-1)) hx hb hr (fun t ht hW => ⟨⟨(-1), (0, (gl 53), (gl 54)), rfl, ((fun e9 => ⟨by rw [e9], by rw [e9]⟩ : fq_ends f_landHas a0 a1 a2 (g 12) (gl 53) (gl 54) = ((-1 : Int32), (0 : Int32), (gl 53), (gl 54)) → _) ((by rw [fq_ends]; (try rw [← hq_r_1]); (try rw [xL_eq]); (try rw [if_neg c_4]); (try rw [← hq_r_5]); (try rw [xL_eq]); (try rw [if_neg c_6]); (try rw [← hq_r_7]); (try rw [xL_eq]); (try rw [if_pos c_10]); try rfl))), by rw [ht]; exact hP9, va_K.moved hW.alike hK9, hD9⟩, hS.F ht⟩) hS.2.2 dX12_ends_41
      · refine lv_lload_n hx hb dX12_ends_28 rfl (lv_at hl 2 rfl) ?_
        refine lv_iload hx hb dX12_ends_29 (lv_at hl 3 rfl) ?_
        refine lv_i2l (v := a2.toInt64) hx hb dX12_ends_31 rfl ?_
        refine lv_ladd hx hb dX12_ends_32 ?_
        refine lv_ldc2 (v := 1000000000000) hx hb hown (htw _ (ck_29 _ (List.mem_of_getElem? (i := 22) rfl))) dX12_ends_33 ?_
        refine W.lcmp hx hb dX12_ends_36 ?_
        refine lv_if_le (tgt := 42) hx hb dX12_ends_37 (by decide) (fun c_11 => ?_) (fun c_11 => ?_)
        · refine lv_aload_n hx hb dX12_ends_42 rfl (lv_at hl 0 rfl) ?_
          refine lv_iload_n hx hb dX12_ends_43 rfl (lv_at hl 1 rfl) ?_
          refine lv_lload_n hx hb dX12_ends_44 rfl (lv_at hl 2 rfl) ?_
          refine lv_iload hx hb dX12_ends_45 (lv_at hl 3 rfl) ?_
          refine lv_i2l (v := a2.toInt64) hx hb dX12_ends_47 rfl ?_
          refine lv_ladd hx hb dX12_ends_48 ?_
          obtain ⟨hPc, hDc, hFc, hCc⟩ := zsub3 (ws' := [(mq, .inr (12, mF (upd g 2 0) gl rf)), (eA0 (rf 29) (ck 29) 24 f_landHas)]) hP hD hS hA [0, 1] (by decide) rfl
          have hKc := hK.sub (tys' := [((ck 29), .int)]) [0] rfl
          refine va_calll (va_runV (As := [.int a0, .long (a1 + a2.toInt64)]) (rest := []) ⟨hx, hb, hml, hown, htw⟩ (gq_endedBy l dC dI mq (upd g 2 0) gl rf ck f_landHas a0 (a1 + a2.toInt64) H.size (hp_2.resolve_left c_4) (gq_ends_s0 (y0 := a0) (y1 := g 12) (hp_3.resolve_left c_4) hln4) (gq_ends_s1 (y0 := a1) (y1 := a2.toInt64) (xj_d (hp_8.resolve_left c_10) (hp_9.resolve_left c_10)).1 (xj_d (hp_8.resolve_left c_10) (hp_9.resolve_left c_10)).2 (xq_cnt hq_r_5 c_6).1 (xq_cnt hq_r_5 c_6).2) (gq_ends_s2 (y0 := a1) (y1 := a2.toInt64) (xj_d (hp_8.resolve_left c_10) (hp_9.resolve_left c_10)).1 (xj_d (hp_8.resolve_left c_10) (hp_9.resolve_left c_10)).2 (xq_cnt hq_r_5 c_6).1 (xq_cnt hq_r_5 c_6).2) (hLZ1 a0 (And.intro (hp_2.resolve_left c_4) (hp_3.resolve_left c_4)).1 (And.intro (hp_2.resolve_left c_4) (hp_3.resolve_left c_4)).2)) (cwV 2 htw (xg_V (ck_50 _ (List.mem_of_getElem? (i := 12) rfl)) (ck_50 _ (List.mem_of_getElem? (i := 13) rfl)) (ck_50 _ (List.mem_of_getElem? (i := 14) rfl)) (ck_1 _ (List.mem_of_getElem? (i := 5) rfl)) (ck_50 _ (List.mem_of_getElem? (i := 15) rfl))) rfl rfl rfl (by exact ⟨rfl, hdc_14.1, hdc_14.2, hdd_41⟩) ⟨Nat.le_of_ble_eq_true rfl, Nat.le_of_ble_eq_true rfl⟩) ⟨fun a U g mk q => by obtain ⟨q0, q1, qP, qK, qD⟩ := q; exact ⟨q0, q1, qP, va_K.moved (u := U) (U := U.calling g mk a) (Vm.Alike.refl U.vm) qK, qD⟩, va_recv hKc hPc (ci := 12) (q0 := 0) rfl rfl, fun U hU hW => ⟨rfl, by rw [hU], by rw [hU]; exact hPc, va_K.moved hW.alike hKc, hDc.weaken (fun _ _ _ _ => trivial)⟩⟩ rfl rfl hl.1 rfl (lv_room (Nat.le_of_ble_eq_true rfl)) dX12_ends_49 ⟨Nat.le_of_ble_eq_true rfl, Nat.le_of_ble_eq_true rfl⟩) hS (fun q _ h => hFc q h) hFc (fun r_12 u_13 t H1 locs ht hvm hw hB hz1 hk1 hS => ?_)
          try dsimp only at hw
          obtain ⟨hP1, hK1, hD1⟩ := hB
          rw [ht] at hP1
          have hK1 := va_K.moved hvm.symm hK1
          have hK1 : va_K (dC, dI) vwCl [] s := hK1
          obtain ⟨hP, hD⟩ := va_join (wr := []) (w1 := [(mq, .inr (12, mF (upd g 2 0) (vp_updL (vp_updL gl 53 u_13.1) 54 u_13.2) rf)), (eA0 (rf 29) (ck 29) 24 f_landHas)]) hP hD [0, 1] [] hCc rfl (by decide) (by decide) hk1 hFc hP1 hD1
          generalize H1 = H at hP hS ⊢
          obtain ⟨hP, hD⟩ := zre [(mq, .inr (12, mF (upd g 2 0) (vp_updL (vp_updL gl 53 u_13.1) 54 u_13.2) rf)), (eA0 (rf 29) (ck 29) 24 f_landHas)] hP hD rfl
          refine W.widen (k := 0) (n := 0) (by omega) (by omega) ?_
          obtain ⟨X_16, hX_16⟩ : ∃ X9 : Int64 × (Int64) × (Int64), X9 = (fq_endedBy f_landHas a0 (a1 + a2.toInt64) (gl 53) (gl 54)) := ⟨_, rfl⟩
          have hq_r_12 : r_12 = X_16.1 := by rw [hX_16]; exact hw.1
          have hq_u_13 : u_13 = X_16.2 := by rw [hX_16]; exact hw.2
          refine lv_aload_n hx hb dX12_ends_52 rfl (lv_at hl 0 rfl) ?_
          refine lv_iload_n hx hb dX12_ends_53 rfl (lv_at hl 1 rfl) ?_
          refine lv_lload_n hx hb dX12_ends_54 rfl (lv_at hl 2 rfl) ?_
          obtain ⟨hPc, hDc, hFc, hCc⟩ := zsub3 (ws' := [(mq, .inr (12, mF (upd g 2 0) (vp_updL (vp_updL gl 53 u_13.1) 54 u_13.2) rf)), (eA0 (rf 29) (ck 29) 24 f_landHas)]) hP hD hS hA [0, 1] (by decide) rfl
          have hKc := hK.sub (tys' := [((ck 29), .int)]) [0] rfl
          refine va_calll (va_runV (As := [.int a0, .long a1]) (rest := [.long r_12]) ⟨hx, hb, hml, hown, htw⟩ (gq_endedBy l dC dI mq (upd g 2 0) (vp_updL (vp_updL gl 53 u_13.1) 54 u_13.2) rf ck f_landHas a0 a1 H.size (hp_2.resolve_left c_4) (gq_ends_s3 (y0 := a0) (y1 := g 12) (hp_3.resolve_left c_4) hln4) (xq_cnt hq_r_5 c_6).1 (gq_ends_s4 (y0 := a1) (xq_cnt hq_r_5 c_6).2) (hLZ1 a0 (And.intro (hp_2.resolve_left c_4) (hp_3.resolve_left c_4)).1 (And.intro (hp_2.resolve_left c_4) (hp_3.resolve_left c_4)).2)) (cwV 2 htw (xg_V (ck_50 _ (List.mem_of_getElem? (i := 12) rfl)) (ck_50 _ (List.mem_of_getElem? (i := 13) rfl)) (ck_50 _ (List.mem_of_getElem? (i := 14) rfl)) (ck_1 _ (List.mem_of_getElem? (i := 5) rfl)) (ck_50 _ (List.mem_of_getElem? (i := 15) rfl))) rfl rfl rfl (by exact ⟨rfl, hdc_14.1, hdc_14.2, hdd_41⟩) ⟨Nat.le_of_ble_eq_true rfl, Nat.le_of_ble_eq_true rfl⟩) ⟨fun a U g mk q => by obtain ⟨q0, q1, qP, qK, qD⟩ := q; exact ⟨q0, q1, qP, va_K.moved (u := U) (U := U.calling g mk a) (Vm.Alike.refl U.vm) qK, qD⟩, va_recv hKc hPc (ci := 12) (q0 := 0) rfl rfl, fun U hU hW => ⟨rfl, by rw [hU], by rw [hU]; exact hPc, va_K.moved hW.alike hKc, hDc.weaken (fun _ _ _ _ => trivial)⟩⟩ rfl rfl hl.1 rfl (lv_room (Nat.le_of_ble_eq_true rfl)) dX12_ends_55 ⟨Nat.le_of_ble_eq_true rfl, Nat.le_of_ble_eq_true rfl⟩) hS (fun q _ h => hFc q h) hFc (fun r_17 u_18 t H1 locs ht hvm hw hB hz1 hk1 hS => ?_)
          try dsimp only at hw
          obtain ⟨hP1, hK1, hD1⟩ := hB
          rw [ht] at hP1
          have hK1 := va_K.moved hvm.symm hK1
          have hK1 : va_K (dC, dI) vwCl [] s := hK1
          obtain ⟨hP, hD⟩ := va_join (wr := []) (w1 := [(mq, .inr (12, mF (upd g 2 0) (vp_updL (vp_updL gl 53 u_18.1) 54 u_18.2) rf)), (eA0 (rf 29) (ck 29) 24 f_landHas)]) hP hD [0, 1] [] hCc rfl (by decide) (by decide) hk1 hFc hP1 hD1
          generalize H1 = H at hP hS ⊢
          obtain ⟨hP, hD⟩ := zre [(mq, .inr (12, mF (upd g 2 0) (vp_updL (vp_updL gl 53 u_18.1) 54 u_18.2) rf)), (eA0 (rf 29) (ck 29) 24 f_landHas)] hP hD rfl
          refine W.widen (k := 0) (n := 0) (by omega) (by omega) ?_
          obtain ⟨X_21, hX_21⟩ : ∃ X9 : Int64 × (Int64) × (Int64), X9 = (fq_endedBy f_landHas a0 a1 u_13.1 u_13.2) := ⟨_, rfl⟩
          have hq_r_17 : r_17 = X_21.1 := by rw [hX_21]; exact hw.1
          have hq_u_18 : u_18 = X_21.2 := by rw [hX_21]; exact hw.2
          refine lv_lsub hx hb dX12_ends_58 ?_
          refine lv_l2i (v := (r_12 - r_17).toInt32) hx hb dX12_ends_59 rfl ?_
          refine W.widen (k := 0) (n := 0) (by omega) (by omega) ?_
          have hP9 := hP
          have hD9 := hD
          have hK9 := hK.sub (tys' := []) [] rfl
          exact W.iret (v := (r_12 - r_17).toInt32) hx hb hr (fun t ht hW => ⟨⟨(r_12 - r_17).toInt32, (0, u_18.1, u_18.2), rfl, ((fun e9 => ⟨by rw [e9], by rw [e9]⟩ : fq_ends f_landHas a0 a1 a2 (g 12) (gl 53) (gl 54) = ((r_12 - r_17).toInt32, (0 : Int32), u_18.1, u_18.2) → _) ((by rw [fq_ends]; (try rw [← hq_r_1]); (try rw [xL_eq]); (try rw [if_neg c_4]); (try rw [← hq_r_5]); (try rw [xL_eq]); (try rw [if_neg c_6]); (try rw [← hq_r_7]); (try rw [xL_eq]); (try rw [if_neg c_10]); (try rw [if_pos c_11]); (try rw [← hX_16]); (try rw [xL_eq]); (try rw [← hq_r_12]); (try rw [← hq_u_13]); (try rw [← hX_21]); (try rw [xL_eq]); (try rw [← hq_r_17]); (try rw [← hq_u_18]); try rfl))), by rw [ht]; exact hP9, va_K.moved hW.alike hK9, hD9⟩, hS.F ht⟩) hS.2.2 dX12_ends_60
        · refine lv_iconst (v := (-1)) hx hb dX12_ends_40 (by decide) ?_
          refine W.widen (k := 0) (n := 0) (by omega) (by omega) ?_
          obtain ⟨hP9, hD9⟩ := zsub2 (ws' := [(mq, .inr (12, mF (upd g 2 0) gl rf)), (eA0 (rf 29) (ck 29) 24 f_landHas)]) hP hD [0, 1] (by decide) rfl
          have hK9 := hK.sub (tys' := []) [] rfl
          exact W.iret (v := (-1)) hx hb hr (fun t ht hW => ⟨⟨(-1), (0, (gl 53), (gl 54)), rfl, ((fun e9 => ⟨by rw [e9], by rw [e9]⟩ : fq_ends f_landHas a0 a1 a2 (g 12) (gl 53) (gl 54) = ((-1 : Int32), (0 : Int32), (gl 53), (gl 54)) → _) ((by rw [fq_ends]; (try rw [← hq_r_1]); (try rw [xL_eq]); (try rw [if_neg c_4]); (try rw [← hq_r_5]); (try rw [xL_eq]); (try rw [if_neg c_6]); (try rw [← hq_r_7]); (try rw [xL_eq]); (try rw [if_neg c_10]); (try rw [if_neg c_11]); try rfl))), by rw [ht]; exact hP9, va_K.moved hW.alike hK9, hD9⟩, hS.F ht⟩) hS.2.2 dX12_ends_41

def fq_hire_d (f_landHas : Nat → Int32) (a0 : Int32) (a1 : Int64) (a2 : Int32) (a3 : Int32) : Nat → (Int64) → (Int64) → (Int64) → (Int64) → (Int64) → Int64 × (Int32) × (Int64) × (Int64)
  | 0, L6d, L8d, L10d, m_gotYear_d, m_gotDay_d => (L6d, (0 : Int32), m_gotYear_d, m_gotDay_d)
  | n + 1, L6d, L8d, L10d, m_gotYear_d, m_gotDay_d => (if 0 < lg_cmp L10d (a1 + a2.toInt64) then (L6d, (0 : Int32), m_gotYear_d, m_gotDay_d) else (xL ((fq_endedBy f_landHas a0 (L10d + a3.toInt64) m_gotYear_d m_gotDay_d)) (fun X_23 => (xL ((fq_endedBy f_landHas a0 L10d X_23.2.1 X_23.2.2)) (fun X_28 => (if lg_cmp L6d 0 < 0 then fq_hire_d f_landHas a0 a1 a2 a3 n L10d (X_23.1 - X_28.1) (L10d + 1) X_28.2.1 X_28.2.2 else (if 0 < lg_cmp (X_23.1 - X_28.1) L8d then fq_hire_d f_landHas a0 a1 a2 a3 n L10d (X_23.1 - X_28.1) (L10d + 1) X_28.2.1 X_28.2.2 else fq_hire_d f_landHas a0 a1 a2 a3 n L6d L8d (L10d + 1) X_28.2.1 X_28.2.2)))))))
def fq_hire (f_landHas : Nat → Int32) (a0 : Int32) (a1 : Int64) (a2 : Int32) (a3 : Int32) (m_lands : Int32) (m_gotYear : Int64) (m_gotDay : Int64) : Int64 × (Int32) × (Int64) × (Int64) := (xL ((fq_isLand a0 m_lands)) (fun r_1 => (if r_1 = 0 then ((-1 : Int64), (0 : Int32), m_gotYear, m_gotDay) else (xL ((fq_isCount a1)) (fun r_5 => (if r_5 = 0 then ((-1 : Int64), (0 : Int32), m_gotYear, m_gotDay) else (xL ((fq_isIn a2 (0 : Int32) (999 : Int32))) (fun r_7 => (if r_7 = 0 then ((-1 : Int64), (0 : Int32), m_gotYear, m_gotDay) else (xL ((fq_isDays a3)) (fun r_11 => (if r_11 = 0 then ((-1 : Int64), (0 : Int32), m_gotYear, m_gotDay) else (if lg_cmp ((a1 + a2.toInt64) + a3.toInt64) 1000000000000 ≤ 0 then fq_hire_d f_landHas a0 a1 a2 a3 1000 (-1 : Int64) (0 : Int64) a1 m_gotYear m_gotDay else ((-1 : Int64), (0 : Int32), m_gotYear, m_gotDay))))))))))))))
theorem gq_hire_s0 {y0 : Int32} {y1 : Int32} (h0 : y0 < y1) (h1 : y1 ≤ 4) : y0 ≤ 7 := by lia
theorem gq_hire_s1 {y0 : Int64} {y1 : Int64} {y2 : Int64} (h0 : ¬ (y1 < 0)) (h1 : y1 ≤ 99999) (h2 : ¬ (y0 < y2)) (h3 : y0 ≤ 1000000000001) (h4 : ¬ (y2 < 0)) : ¬ ((y0 + y1) < 0) := by lia
theorem gq_hire_s2 {y0 : Int64} {y1 : Int64} {y2 : Int64} (h0 : ¬ (y1 < 0)) (h1 : y1 ≤ 99999) (h2 : ¬ (y0 < y2)) (h3 : y0 ≤ 1000000000001) (h4 : ¬ (y2 < 0)) : (y0 + y1) ≤ 2000000000000 := by lia
theorem gq_hire_s3 {y0 : Int32} {y1 : Int32} (h0 : y0 < y1) (h1 : y1 ≤ 4) : y0 ≤ 7 := by lia
theorem gq_hire_s4 {y0 : Int64} {y1 : Int64} (h0 : ¬ (y0 < y1)) (h1 : ¬ (y1 < 0)) : ¬ (y0 < 0) := by lia
theorem gq_hire_s5 {y0 : Int64} (h0 : y0 ≤ 1000000000001) : y0 ≤ 2000000000000 := by lia
theorem gq_hire_s6 {y0 : Int64} {y1 : Int64} (h0 : ¬ (y0 < y1)) (h1 : y0 ≤ 1000000000001) (h2 : ¬ (y1 < 0)) : ¬ ((y0 + 1) < y1) := by lia
theorem gq_hire_s7 {y0 : Int64} {y1 : Int64} {y2 : Int64} {y3 : Int64} (h0 : ((y1 + y2) + y3) ≤ 1000000000000) (h1 : ¬ ((y1 + y2) < y0)) (h2 : ¬ (y3 < 0)) (h3 : y3 ≤ 99999) (h4 : ¬ (y2 < 0)) (h5 : y2 ≤ 999) (h6 : ¬ (y0 < y1)) (h7 : y0 ≤ 1000000000001) (h8 : ¬ (y1 < 0)) (h9 : y1 ≤ 1000000000000) : (y0 + 1) ≤ 1000000000001 := by
  have l_y0 := y0.le_toInt
  have u_y0 := y0.toInt_lt
  have l_y1 := y1.le_toInt
  have u_y1 := y1.toInt_lt
  have l_y2 := y2.le_toInt
  have u_y2 := y2.toInt_lt
  have l_y3 := y3.le_toInt
  have u_y3 := y3.toInt_lt
  have h2 : 0 ≤ y3.toInt := Int.not_lt.mp (fun z => h2 (Int64.lt_iff_toInt_lt.mpr z))
  have h3 : y3.toInt ≤ 99999 := Int64.le_iff_toInt_le.mp h3
  have h4 : 0 ≤ y2.toInt := Int.not_lt.mp (fun z => h4 (Int64.lt_iff_toInt_lt.mpr z))
  have h5 : y2.toInt ≤ 999 := Int64.le_iff_toInt_le.mp h5
  have h6 : y1.toInt ≤ y0.toInt := Int.not_lt.mp (fun z => h6 (Int64.lt_iff_toInt_lt.mpr z))
  have h7 : y0.toInt ≤ 1000000000001 := Int64.le_iff_toInt_le.mp h7
  have h8 : 0 ≤ y1.toInt := Int.not_lt.mp (fun z => h8 (Int64.lt_iff_toInt_lt.mpr z))
  have h9 : y1.toInt ≤ 1000000000000 := Int64.le_iff_toInt_le.mp h9
  have e16 : ((y1 + y2) : Int64).toInt = y1.toInt + y2.toInt := by rw [Int64.toInt_add, Int.bmod_eq_of_le (by omega) (by omega)]
  have e17 : (((y1 + y2) + y3) : Int64).toInt = ((y1 + y2) : Int64).toInt + y3.toInt := by rw [Int64.toInt_add, Int.bmod_eq_of_le (by omega) (by omega)]
  have e18 : ((y0 + 1) : Int64).toInt = y0.toInt + 1 := by rw [Int64.toInt_add, show (1 : Int64).toInt = 1 from rfl, Int.bmod_eq_of_le (by omega) (by omega)]
  have h0 : (((y1 + y2) + y3) : Int64).toInt ≤ 1000000000000 := Int64.le_iff_toInt_le.mp h0
  have h1 : y0.toInt ≤ ((y1 + y2) : Int64).toInt := Int.not_lt.mp (fun z => h1 (Int64.lt_iff_toInt_lt.mpr z))
  exact Int64.le_iff_toInt_le.mpr (show ((y0 + 1) : Int64).toInt ≤ 1000000000001 by omega)
theorem gq_hire_s8 {y0 : Int64} (h0 : y0 ≤ 1000000000001) : y0 < 2000000000000 := by lia
theorem gq_hire_s9 {y0 : Int64} {y1 : Int64} (h0 : ¬ (y0 < y1)) (h1 : y0 ≤ 1000000000001) (h2 : ¬ (y1 < 0)) : ¬ ((y0 + 1) < y1) := by lia
theorem gq_hire_s10 {y0 : Int64} {y1 : Int64} {y2 : Int64} {y3 : Int64} (h0 : ((y1 + y2) + y3) ≤ 1000000000000) (h1 : ¬ ((y1 + y2) < y0)) (h2 : ¬ (y3 < 0)) (h3 : y3 ≤ 99999) (h4 : ¬ (y2 < 0)) (h5 : y2 ≤ 999) (h6 : ¬ (y0 < y1)) (h7 : y0 ≤ 1000000000001) (h8 : ¬ (y1 < 0)) (h9 : y1 ≤ 1000000000000) : (y0 + 1) ≤ 1000000000001 := gq_hire_s7 h0 h1 h2 h3 h4 h5 h6 h7 h8 h9
theorem gq_hire_s11 {y0 : Int64} (h0 : y0 ≤ 1000000000001) : y0 < 2000000000000 := by lia
theorem gq_hire_s12 {y0 : Int64} {y1 : Int64} (h0 : ¬ (y0 < y1)) (h1 : y0 ≤ 1000000000001) (h2 : ¬ (y1 < 0)) : ¬ ((y0 + 1) < y1) := by lia
theorem gq_hire_s13 {y0 : Int64} {y1 : Int64} {y2 : Int64} {y3 : Int64} (h0 : ((y1 + y2) + y3) ≤ 1000000000000) (h1 : ¬ ((y1 + y2) < y0)) (h2 : ¬ (y3 < 0)) (h3 : y3 ≤ 99999) (h4 : ¬ (y2 < 0)) (h5 : y2 ≤ 999) (h6 : ¬ (y0 < y1)) (h7 : y0 ≤ 1000000000001) (h8 : ¬ (y1 < 0)) (h9 : y1 ≤ 1000000000000) : (y0 + 1) ≤ 1000000000001 := gq_hire_s7 h0 h1 h2 h3 h4 h5 h6 h7 h8 h9
theorem gq_hire_s14 {y0 : Int64} (h0 : y0 ≤ 1000000000001) : y0 < 2000000000000 := by lia
theorem gq_hire_s15 {y0 : Int64} : ¬ (y0 < y0) := by lia
theorem gq_hire_s16 {y0 : Int64} (h0 : y0 ≤ 1000000000000) : y0 ≤ 1000000000001 := by lia
theorem dX12_hire_0 : decode cX12_hire 0 = .ok (.aload_n 0, 1) := zk_42 (by decide +kernel)
theorem dX12_hire_1 : decode cX12_hire 1 = .ok (.iconst 0, 1) := zk_3 (by decide +kernel)
theorem dX12_hire_2 : decode cX12_hire 2 = .ok (.putfield 119, 3) := zk_181 (by decide +kernel)
theorem dX12_hire_5 : decode cX12_hire 5 = .ok (.aload_n 0, 1) := zk_42 (by decide +kernel)
theorem dX12_hire_6 : decode cX12_hire 6 = .ok (.iload_n 1, 1) := zk_27 (by decide +kernel)
theorem dX12_hire_7 : decode cX12_hire 7 = .ok (.invokevirtual 404, 3) := zk_182 (by decide +kernel)
theorem dX12_hire_10 : decode cX12_hire 10 = .ok (.ifCond .eq 46, 3) := zk_153 (by decide +kernel)
theorem dX12_hire_56 : decode cX12_hire 56 = .ok (.ldc2_w 273, 3) := zk_20 (by decide +kernel)
theorem dX12_hire_59 : decode cX12_hire 59 = .ok (.lreturn, 1) := zk_173 (by decide +kernel)
theorem dX12_hire_13 : decode cX12_hire 13 = .ok (.lload_n 2, 1) := zk_32 (by decide +kernel)
theorem dX12_hire_14 : decode cX12_hire 14 = .ok (.invokestatic 413, 3) := zk_184 (by decide +kernel)
theorem dX12_hire_17 : decode cX12_hire 17 = .ok (.ifCond .eq 39, 3) := zk_153 (by decide +kernel)
theorem dX12_hire_20 : decode cX12_hire 20 = .ok (.iload 4, 2) := zk_21 (by decide +kernel)
theorem dX12_hire_22 : decode cX12_hire 22 = .ok (.iconst 0, 1) := zk_3 (by decide +kernel)
theorem dX12_hire_23 : decode cX12_hire 23 = .ok (.sipush 999, 3) := zk_17 (by decide +kernel)
theorem dX12_hire_26 : decode cX12_hire 26 = .ok (.invokestatic 166, 3) := zk_184 (by decide +kernel)
theorem dX12_hire_29 : decode cX12_hire 29 = .ok (.ifCond .eq 27, 3) := zk_153 (by decide +kernel)
theorem dX12_hire_32 : decode cX12_hire 32 = .ok (.iload 5, 2) := zk_21 (by decide +kernel)
theorem dX12_hire_34 : decode cX12_hire 34 = .ok (.invokestatic 487, 3) := zk_184 (by decide +kernel)
theorem dX12_hire_37 : decode cX12_hire 37 = .ok (.ifCond .eq 19, 3) := zk_153 (by decide +kernel)
theorem dX12_hire_40 : decode cX12_hire 40 = .ok (.lload_n 2, 1) := zk_32 (by decide +kernel)
theorem dX12_hire_41 : decode cX12_hire 41 = .ok (.iload 4, 2) := zk_21 (by decide +kernel)
theorem dX12_hire_43 : decode cX12_hire 43 = .ok (.i2l, 1) := zk_133 (by decide +kernel)
theorem dX12_hire_44 : decode cX12_hire 44 = .ok (.ladd, 1) := zk_97 (by decide +kernel)
theorem dX12_hire_45 : decode cX12_hire 45 = .ok (.iload 5, 2) := zk_21 (by decide +kernel)
theorem dX12_hire_47 : decode cX12_hire 47 = .ok (.i2l, 1) := zk_133 (by decide +kernel)
theorem dX12_hire_48 : decode cX12_hire 48 = .ok (.ladd, 1) := zk_97 (by decide +kernel)
theorem dX12_hire_49 : decode cX12_hire 49 = .ok (.ldc2_w 125, 3) := zk_20 (by decide +kernel)
theorem dX12_hire_52 : decode cX12_hire 52 = .ok (.lcmp, 1) := zk_148 (by decide +kernel)
theorem dX12_hire_53 : decode cX12_hire 53 = .ok (.ifCond .le 7, 3) := zk_158 (by decide +kernel)
theorem dX12_hire_60 : decode cX12_hire 60 = .ok (.ldc2_w 273, 3) := zk_20 (by decide +kernel)
theorem dX12_hire_63 : decode cX12_hire 63 = .ok (.lstore 6, 2) := zk_55 (by decide +kernel)
theorem dX12_hire_65 : decode cX12_hire 65 = .ok (.lconst 0, 1) := zk_9 (by decide +kernel)
theorem dX12_hire_66 : decode cX12_hire 66 = .ok (.lstore 8, 2) := zk_55 (by decide +kernel)
theorem dX12_hire_68 : decode cX12_hire 68 = .ok (.lload_n 2, 1) := zk_32 (by decide +kernel)
theorem dX12_hire_69 : decode cX12_hire 69 = .ok (.lstore 10, 2) := zk_55 (by decide +kernel)
theorem dX12_hire_71 : decode cX12_hire 71 = .ok (.lload 10, 2) := zk_22 (by decide +kernel)
theorem dX12_hire_73 : decode cX12_hire 73 = .ok (.lload_n 2, 1) := zk_32 (by decide +kernel)
theorem dX12_hire_74 : decode cX12_hire 74 = .ok (.iload 4, 2) := zk_21 (by decide +kernel)
theorem dX12_hire_76 : decode cX12_hire 76 = .ok (.i2l, 1) := zk_133 (by decide +kernel)
theorem dX12_hire_77 : decode cX12_hire 77 = .ok (.ladd, 1) := zk_97 (by decide +kernel)
theorem dX12_hire_78 : decode cX12_hire 78 = .ok (.lcmp, 1) := zk_148 (by decide +kernel)
theorem dX12_hire_79 : decode cX12_hire 79 = .ok (.ifCond .gt 59, 3) := zk_157 (by decide +kernel)
theorem dX12_hire_138 : decode cX12_hire 138 = .ok (.lload 6, 2) := zk_22 (by decide +kernel)
theorem dX12_hire_140 : decode cX12_hire 140 = .ok (.lreturn, 1) := zk_173 (by decide +kernel)
theorem dX12_hire_82 : decode cX12_hire 82 = .ok (.aload_n 0, 1) := zk_42 (by decide +kernel)
theorem dX12_hire_83 : decode cX12_hire 83 = .ok (.iload_n 1, 1) := zk_27 (by decide +kernel)
theorem dX12_hire_84 : decode cX12_hire 84 = .ok (.lload 10, 2) := zk_22 (by decide +kernel)
theorem dX12_hire_86 : decode cX12_hire 86 = .ok (.iload 5, 2) := zk_21 (by decide +kernel)
theorem dX12_hire_88 : decode cX12_hire 88 = .ok (.i2l, 1) := zk_133 (by decide +kernel)
theorem dX12_hire_89 : decode cX12_hire 89 = .ok (.ladd, 1) := zk_97 (by decide +kernel)
theorem dX12_hire_90 : decode cX12_hire 90 = .ok (.invokevirtual 484, 3) := zk_182 (by decide +kernel)
theorem dX12_hire_93 : decode cX12_hire 93 = .ok (.aload_n 0, 1) := zk_42 (by decide +kernel)
theorem dX12_hire_94 : decode cX12_hire 94 = .ok (.iload_n 1, 1) := zk_27 (by decide +kernel)
theorem dX12_hire_95 : decode cX12_hire 95 = .ok (.lload 10, 2) := zk_22 (by decide +kernel)
theorem dX12_hire_97 : decode cX12_hire 97 = .ok (.invokevirtual 484, 3) := zk_182 (by decide +kernel)
theorem dX12_hire_100 : decode cX12_hire 100 = .ok (.lsub, 1) := zk_101 (by decide +kernel)
theorem dX12_hire_101 : decode cX12_hire 101 = .ok (.lstore 12, 2) := zk_55 (by decide +kernel)
theorem dX12_hire_103 : decode cX12_hire 103 = .ok (.lload 6, 2) := zk_22 (by decide +kernel)
theorem dX12_hire_105 : decode cX12_hire 105 = .ok (.lconst 0, 1) := zk_9 (by decide +kernel)
theorem dX12_hire_106 : decode cX12_hire 106 = .ok (.lcmp, 1) := zk_148 (by decide +kernel)
theorem dX12_hire_107 : decode cX12_hire 107 = .ok (.ifCond .lt 14, 3) := zk_155 (by decide +kernel)
theorem dX12_hire_121 : decode cX12_hire 121 = .ok (.lload 10, 2) := zk_22 (by decide +kernel)
theorem dX12_hire_123 : decode cX12_hire 123 = .ok (.lstore 6, 2) := zk_55 (by decide +kernel)
theorem dX12_hire_125 : decode cX12_hire 125 = .ok (.lload 12, 2) := zk_22 (by decide +kernel)
theorem dX12_hire_127 : decode cX12_hire 127 = .ok (.lstore 8, 2) := zk_55 (by decide +kernel)
theorem dX12_hire_129 : decode cX12_hire 129 = .ok (.lload 10, 2) := zk_22 (by decide +kernel)
theorem dX12_hire_131 : decode cX12_hire 131 = .ok (.lconst 1, 1) := zk_10 (by decide +kernel)
theorem dX12_hire_132 : decode cX12_hire 132 = .ok (.ladd, 1) := zk_97 (by decide +kernel)
theorem dX12_hire_133 : decode cX12_hire 133 = .ok (.lstore 10, 2) := zk_55 (by decide +kernel)
theorem dX12_hire_135 : decode cX12_hire 135 = .ok (.goto (-64), 3) := zk_167 (by decide +kernel)
theorem dX12_hire_110 : decode cX12_hire 110 = .ok (.lload 12, 2) := zk_22 (by decide +kernel)
theorem dX12_hire_112 : decode cX12_hire 112 = .ok (.lload 8, 2) := zk_22 (by decide +kernel)
theorem dX12_hire_114 : decode cX12_hire 114 = .ok (.lcmp, 1) := zk_148 (by decide +kernel)
theorem dX12_hire_115 : decode cX12_hire 115 = .ok (.ifCond .gt 6, 3) := zk_157 (by decide +kernel)
theorem dX12_hire_118 : decode cX12_hire 118 = .ok (.goto 11, 3) := zk_167 (by decide +kernel)
set_option maxHeartbeats 4000000 in
set_option maxRecDepth 100000 in
theorem gq_hire (l : Launch) (dC : Nat → ClassId) (dI : Nat → Nat → Nat) (mq : Nat) (g : Nat → Int32) (gl : Nat → Int64) (rf : Nat → Nat) (ck : Nat → ClassId) (f_landHas : Nat → Int32) (a0 : Int32) (a1 : Int64) (a2 : Int32) (a3 : Int32) (sz : Nat) (hln0 : ¬ (g 12) < 0) (hln4 : (g 12) ≤ 4) (hLZ1 : ∀ k : Int32, ¬ k < 0 → k < (g 12) → ¬ (f_landHas ((3 * k).toNatClampNeg)) < 1) : Met l yX12_hire (Cond.code yX12_hire cX12_hire 14 (some .long) :: wsL_law) ({ frames := 3, cells := 0, slots := 0, locals := 79 }) (va_Pc [.ref mq, .int a0, .long a1, .int a2, .int a3] (fun U => U.heap.size = sz ∧ va_P (dC, dI) vwCl [(mq, .inr (12, mF g gl rf)), (eA0 (rf 29) (ck 29) 24 f_landHas)] U.heap ∧ va_K (dC, dI) vwCl [((ck 29), .int)] U ∧ va_D (fun _ => True) [(mq, .inr (12, mF g gl rf)), (eA0 (rf 29) (ck 29) 24 f_landHas)])) (va_Ql (fun (r : Int64) (u : (Int32) × (Int64) × (Int64)) => r = (fq_hire f_landHas a0 a1 a2 a3 (g 12) (gl 53) (gl 54)).1 ∧ u = (fq_hire f_landHas a0 a1 a2 a3 (g 12) (gl 53) (gl 54)).2) (fun (u : (Int32) × (Int64) × (Int64)) t => va_P (dC, dI) vwCl [(mq, .inr (12, mF (upd g 2 u.1) (vp_updL (vp_updL gl 53 u.2.1) 54 u.2.2) rf)), (eA0 (rf 29) (ck 29) 24 f_landHas)] t.heap ∧ va_K (dC, dI) vwCl [] t ∧ va_D (va_A [(mq, .inr (12, mF g gl rf)), (eA0 (rf 29) (ck 29) 24 f_landHas)] sz) [(mq, .inr (12, mF (upd g 2 u.1) (vp_updL (vp_updL gl 53 u.2.1) 54 u.2.2) rf)), (eA0 (rf 29) (ck 29) 24 f_landHas)]) (va_A [(mq, .inr (12, mF g gl rf)), (eA0 (rf 29) (ck 29) 24 f_landHas)] sz)) 0 0 (va_A [(mq, .inr (12, mF g gl rf)), (eA0 (rf 29) (ck 29) 24 f_landHas)] sz) := by
  refine Met.ofW (cc := cX12_hire) (maxL := 14) (ret := (some .long)) (by decide) rfl ?_
  intro p e s m args below meth c s₁ B hml hv
  obtain ⟨rfl, hsz, hP, hK, hD0⟩ := hv
  have hx := B.exec
  have hb := B.bytes
  have hr := B.returns
  have hts := atoms_spec (ws := Cond.code yX12_hire cX12_hire 14 (some .long) :: wsL_law) B.pre
  have htw : ∀ w ∈ wsL_law, w.before _ s = true := fun w h => hts w (List.mem_cons_of_mem _ h)
  have hown : s.vm.findClass RX12 = some m.cls := findClass_of_methodNamed B.named
  have hlocks := B.notSynchronized
  subst hsz
  have hD := hD0.self (sz := s.heap.size)
  generalize hAe : va_A [(mq, .inr (12, mF g gl rf)), (eA0 (rf 29) (ck 29) 24 f_landHas)] s.heap.size = A at hD ⊢
  have hA : ∀ q : Nat, s.heap.size ≤ q → A q := fun q h => by rw [← hAe]; exact Or.inr h
  obtain ⟨H, rH⟩ : ∃ z : Heap, z = s.heap := ⟨_, rfl⟩
  have hS : va_S A s.heap H [] := by rw [rH]; exact va_S.rf
  have hP : va_P (dC, dI) vwCl [(mq, .inr (12, mF g gl rf)), (eA0 (rf 29) (ck 29) 24 f_landHas)] H := by rw [rH]; exact hP
  rw [← rH]
  have hl := lv_entry ([.ref mq, .int a0, .long a1, .int a2, .int a3]) (n := 14) (Nat.le_of_ble_eq_true rfl)
  rw [lg_entry_eq]
  generalize (lg_sl ([.ref mq, .int a0, .long a1, .int a2, .int a3]) ++ List.replicate (14 - (lg_sl ([.ref mq, .int a0, .long a1, .int a2, .int a3])).length) Slot.unset).toArray = ls at hl ⊢
  have hl : lv_has ls 14 [(0, .ref mq), (1, .int a0), (2, .long a1), (4, .int a2), (5, .int a3)] := hl
  refine lv_aload_n hx hb dX12_hire_0 rfl (lv_at hl 0 rfl) ?_
  refine lv_iconst (v := 0) hx hb dX12_hire_1 (by decide) ?_
  refine va_put (D := (dC, dI)) (ci := 12) (v := .int 0) (ty := tyX12 2) (C := RX12) (T := TX12) (N := 76) hx hb htw inlX12 tyX12 tyX12_ok nmX12 hown hK hP hD hS 0 rfl rfl 2 (by decide) (htw _ (ck_12 _ (List.mem_of_getElem? (i := 16) rfl))) (fun _ h9 => h9) rfl (tyX12_ok 2 (by decide)) rfl rfl (Nat.le_of_ble_eq_true rfl) dX12_hire_2 (fun H locs hP hD hS => ?_)
  obtain ⟨hP, hD⟩ := zre [(mq, .inr (12, mF (upd g 2 0) gl rf)), (eA0 (rf 29) (ck 29) 24 f_landHas)] hP hD rfl
  refine lv_aload_n hx hb dX12_hire_5 rfl (lv_at hl 0 rfl) ?_
  refine lv_iload_n hx hb dX12_hire_6 rfl (lv_at hl 1 rfl) ?_
  have hPc := hP.sub (ws' := [(mq, .inr (12, mF (upd g 2 0) gl rf))]) [0] rfl
  have hKc := hK.sub (tys' := []) [] rfl
  refine vp_callSi (W.runV (As := [.int a0]) (rest := []) ⟨hx, hb, hml, hown, htw⟩ (gq_isLand l dC dI mq (upd g 2 0) gl rf a0) (cwV 1 htw (xg_V (ck_34 _ (List.mem_of_getElem? (i := 2) rfl)) (ck_34 _ (List.mem_of_getElem? (i := 3) rfl)) (ck_34 _ (List.mem_of_getElem? (i := 4) rfl)) (ck_1 _ (List.mem_of_getElem? (i := 5) rfl)) (ck_34 _ (List.mem_of_getElem? (i := 5) rfl))) rfl rfl rfl (by exact ⟨rfl, hdc_14.1, hdc_14.2, hdd_26⟩) ⟨Nat.le_of_ble_eq_true rfl, Nat.le_of_ble_eq_true rfl⟩) ⟨fun a U g mk q => by obtain ⟨q0, qP, qK⟩ := q; exact ⟨q0, qP, va_K.moved (u := U) (U := U.calling g mk a) (Vm.Alike.refl U.vm) qK⟩, va_recv hKc hPc (ci := 12) (q0 := 0) rfl rfl, fun U hU hW => ⟨rfl, by rw [hU]; exact hPc, va_K.moved hW.alike hKc⟩⟩ rfl rfl hl.1 rfl (lv_room (Nat.le_of_ble_eq_true rfl)) dX12_hire_7 ⟨Nat.le_of_ble_eq_true rfl, Nat.le_of_ble_eq_true rfl⟩) (fun r_1 hw => ?_)
  try dsimp only at hw
  obtain ⟨hw, hb_r_1, hp_2, hp_3⟩ := hw
  have hq_r_1 : r_1 = (fq_isLand a0 (g 12)) := hw
  refine lv_if_eq (tgt := 56) hx hb dX12_hire_10 (by decide) (fun c_4 => ?_) (fun c_4 => ?_)
  · refine lv_ldc2 (v := (-1)) hx hb hown (htw _ (ck_29 _ (List.mem_of_getElem? (i := 13) rfl))) dX12_hire_56 ?_
    refine W.widen (k := 0) (n := 0) (by omega) (by omega) ?_
    have hP9 := hP
    have hD9 := hD
    have hK9 := hK.sub (tys' := []) [] rfl
    exact W.lret (v := (-1)) hx hb hr (fun t ht hW => ⟨⟨(-1), (0, (gl 53), (gl 54)), rfl, ((fun e9 => ⟨by rw [e9], by rw [e9]⟩ : fq_hire f_landHas a0 a1 a2 a3 (g 12) (gl 53) (gl 54) = ((-1 : Int64), (0 : Int32), (gl 53), (gl 54)) → _) ((by rw [fq_hire]; (try rw [← hq_r_1]); (try rw [xL_eq]); (try rw [if_pos c_4]); try rfl))), by rw [ht]; exact hP9, va_K.moved hW.alike hK9, hD9⟩, hS.F ht⟩) hS.2.2 dX12_hire_59
  · refine lv_lload_n hx hb dX12_hire_13 rfl (lv_at hl 2 rfl) ?_
    have hPc := hP.sub (ws' := []) [] rfl
    have hKc := hK.sub (tys' := []) [] rfl
    refine vp_callSi (W.runS (As := [.long a1]) (rest := []) ⟨hx, hb, hml, hown, htw⟩ (gq_isCount l dC dI a1) (va_cwS 1 htw (xg_S (ck_36 _ (List.mem_of_getElem? (i := 8) rfl)) (ck_36 _ (List.mem_of_getElem? (i := 9) rfl)) (ck_1 _ (List.mem_of_getElem? (i := 5) rfl)) (ck_36 _ (List.mem_of_getElem? (i := 10) rfl))) rfl rfl rfl (by exact ⟨hdc_14.1, hdc_14.2, hdd_1⟩) ⟨Nat.le_of_ble_eq_true rfl, Nat.le_of_ble_eq_true rfl⟩) ⟨fun a U g mk q => by obtain ⟨q0, qP, qK⟩ := q; exact ⟨q0, qP, va_K.moved (u := U) (U := U.calling g mk a) (Vm.Alike.refl U.vm) qK⟩, fun U hU hW => ⟨rfl, by rw [hU]; exact hPc, va_K.moved hW.alike hKc⟩⟩ rfl rfl hl.1 rfl (lv_room (Nat.le_of_ble_eq_true rfl)) dX12_hire_14 ⟨Nat.le_of_ble_eq_true rfl, Nat.le_of_ble_eq_true rfl⟩) (fun r_5 hw => ?_)
    try dsimp only at hw
    obtain ⟨hw, hb_r_5⟩ := hw
    have hq_r_5 : r_5 = (fq_isCount a1) := hw
    refine lv_if_eq (tgt := 56) hx hb dX12_hire_17 (by decide) (fun c_6 => ?_) (fun c_6 => ?_)
    · refine lv_ldc2 (v := (-1)) hx hb hown (htw _ (ck_29 _ (List.mem_of_getElem? (i := 13) rfl))) dX12_hire_56 ?_
      refine W.widen (k := 0) (n := 0) (by omega) (by omega) ?_
      have hP9 := hP
      have hD9 := hD
      have hK9 := hK.sub (tys' := []) [] rfl
      exact W.lret (v := (-1)) hx hb hr (fun t ht hW => ⟨⟨(-1), (0, (gl 53), (gl 54)), rfl, ((fun e9 => ⟨by rw [e9], by rw [e9]⟩ : fq_hire f_landHas a0 a1 a2 a3 (g 12) (gl 53) (gl 54) = ((-1 : Int64), (0 : Int32), (gl 53), (gl 54)) → _) ((by rw [fq_hire]; (try rw [← hq_r_1]); (try rw [xL_eq]); (try rw [if_neg c_4]); (try rw [← hq_r_5]); (try rw [xL_eq]); (try rw [if_pos c_6]); try rfl))), by rw [ht]; exact hP9, va_K.moved hW.alike hK9, hD9⟩, hS.F ht⟩) hS.2.2 dX12_hire_59
    · refine lv_iload hx hb dX12_hire_20 (lv_at hl 3 rfl) ?_
      refine lv_iconst (v := 0) hx hb dX12_hire_22 (by decide) ?_
      refine lv_sipush (v := 999) hx hb dX12_hire_23 (by decide) ?_
      have hPc := hP.sub (ws' := []) [] rfl
      have hKc := hK.sub (tys' := []) [] rfl
      refine vp_callSi (W.runS (As := [.int a2, .int 0, .int 999]) (rest := []) ⟨hx, hb, hml, hown, htw⟩ (gq_isIn l dC dI a2 (0 : Int32) (999 : Int32)) (va_cwS 3 htw (xg_S (ck_26 _ (List.mem_of_getElem? (i := 17) rfl)) (ck_26 _ (List.mem_of_getElem? (i := 18) rfl)) (ck_1 _ (List.mem_of_getElem? (i := 5) rfl)) (ck_26 _ (List.mem_of_getElem? (i := 19) rfl))) rfl rfl rfl (by exact ⟨hdc_14.1, hdc_14.2, hdd_38⟩) ⟨Nat.le_of_ble_eq_true rfl, Nat.le_of_ble_eq_true rfl⟩) ⟨fun a U g mk q => by obtain ⟨q0, qP, qK⟩ := q; exact ⟨q0, qP, va_K.moved (u := U) (U := U.calling g mk a) (Vm.Alike.refl U.vm) qK⟩, fun U hU hW => ⟨rfl, by rw [hU]; exact hPc, va_K.moved hW.alike hKc⟩⟩ rfl rfl hl.1 rfl (lv_room (Nat.le_of_ble_eq_true rfl)) dX12_hire_26 ⟨Nat.le_of_ble_eq_true rfl, Nat.le_of_ble_eq_true rfl⟩) (fun r_7 hw => ?_)
      try dsimp only at hw
      obtain ⟨hw, hb_r_7, hp_8, hp_9⟩ := hw
      have hq_r_7 : r_7 = (fq_isIn a2 (0 : Int32) (999 : Int32)) := hw
      refine lv_if_eq (tgt := 56) hx hb dX12_hire_29 (by decide) (fun c_10 => ?_) (fun c_10 => ?_)
      · refine lv_ldc2 (v := (-1)) hx hb hown (htw _ (ck_29 _ (List.mem_of_getElem? (i := 13) rfl))) dX12_hire_56 ?_
        refine W.widen (k := 0) (n := 0) (by omega) (by omega) ?_
        have hP9 := hP
        have hD9 := hD
        have hK9 := hK.sub (tys' := []) [] rfl
        exact W.lret (v := (-1)) hx hb hr (fun t ht hW => ⟨⟨(-1), (0, (gl 53), (gl 54)), rfl, ((fun e9 => ⟨by rw [e9], by rw [e9]⟩ : fq_hire f_landHas a0 a1 a2 a3 (g 12) (gl 53) (gl 54) = ((-1 : Int64), (0 : Int32), (gl 53), (gl 54)) → _) ((by rw [fq_hire]; (try rw [← hq_r_1]); (try rw [xL_eq]); (try rw [if_neg c_4]); (try rw [← hq_r_5]); (try rw [xL_eq]); (try rw [if_neg c_6]); (try rw [← hq_r_7]); (try rw [xL_eq]); (try rw [if_pos c_10]); try rfl))), by rw [ht]; exact hP9, va_K.moved hW.alike hK9, hD9⟩, hS.F ht⟩) hS.2.2 dX12_hire_59
      · refine lv_iload hx hb dX12_hire_32 (lv_at hl 4 rfl) ?_
        have hPc := hP.sub (ws' := []) [] rfl
        have hKc := hK.sub (tys' := []) [] rfl
        refine vp_callSi (W.runS (As := [.int a3]) (rest := []) ⟨hx, hb, hml, hown, htw⟩ (gq_isDays l dC dI a3) (va_cwS 1 htw (xg_S (ck_51 _ (List.mem_of_getElem? (i := 0) rfl)) (ck_51 _ (List.mem_of_getElem? (i := 1) rfl)) (ck_1 _ (List.mem_of_getElem? (i := 5) rfl)) (ck_51 _ (List.mem_of_getElem? (i := 2) rfl))) rfl rfl rfl (by exact ⟨hdc_14.1, hdc_14.2, hdd_26⟩) ⟨Nat.le_of_ble_eq_true rfl, Nat.le_of_ble_eq_true rfl⟩) ⟨fun a U g mk q => by obtain ⟨q0, qP, qK⟩ := q; exact ⟨q0, qP, va_K.moved (u := U) (U := U.calling g mk a) (Vm.Alike.refl U.vm) qK⟩, fun U hU hW => ⟨rfl, by rw [hU]; exact hPc, va_K.moved hW.alike hKc⟩⟩ rfl rfl hl.1 rfl (lv_room (Nat.le_of_ble_eq_true rfl)) dX12_hire_34 ⟨Nat.le_of_ble_eq_true rfl, Nat.le_of_ble_eq_true rfl⟩) (fun r_11 hw => ?_)
        try dsimp only at hw
        obtain ⟨hw, hb_r_11, hp_12, hp_13⟩ := hw
        have hq_r_11 : r_11 = (fq_isDays a3) := hw
        refine lv_if_eq (tgt := 56) hx hb dX12_hire_37 (by decide) (fun c_14 => ?_) (fun c_14 => ?_)
        · refine lv_ldc2 (v := (-1)) hx hb hown (htw _ (ck_29 _ (List.mem_of_getElem? (i := 13) rfl))) dX12_hire_56 ?_
          refine W.widen (k := 0) (n := 0) (by omega) (by omega) ?_
          have hP9 := hP
          have hD9 := hD
          have hK9 := hK.sub (tys' := []) [] rfl
          exact W.lret (v := (-1)) hx hb hr (fun t ht hW => ⟨⟨(-1), (0, (gl 53), (gl 54)), rfl, ((fun e9 => ⟨by rw [e9], by rw [e9]⟩ : fq_hire f_landHas a0 a1 a2 a3 (g 12) (gl 53) (gl 54) = ((-1 : Int64), (0 : Int32), (gl 53), (gl 54)) → _) ((by rw [fq_hire]; (try rw [← hq_r_1]); (try rw [xL_eq]); (try rw [if_neg c_4]); (try rw [← hq_r_5]); (try rw [xL_eq]); (try rw [if_neg c_6]); (try rw [← hq_r_7]); (try rw [xL_eq]); (try rw [if_neg c_10]); (try rw [← hq_r_11]); (try rw [xL_eq]); (try rw [if_pos c_14]); try rfl))), by rw [ht]; exact hP9, va_K.moved hW.alike hK9, hD9⟩, hS.F ht⟩) hS.2.2 dX12_hire_59
        · refine lv_lload_n hx hb dX12_hire_40 rfl (lv_at hl 2 rfl) ?_
          refine lv_iload hx hb dX12_hire_41 (lv_at hl 3 rfl) ?_
          refine lv_i2l (v := a2.toInt64) hx hb dX12_hire_43 rfl ?_
          refine lv_ladd hx hb dX12_hire_44 ?_
          refine lv_iload hx hb dX12_hire_45 (lv_at hl 4 rfl) ?_
          refine lv_i2l (v := a3.toInt64) hx hb dX12_hire_47 rfl ?_
          refine lv_ladd hx hb dX12_hire_48 ?_
          refine lv_ldc2 (v := 1000000000000) hx hb hown (htw _ (ck_29 _ (List.mem_of_getElem? (i := 22) rfl))) dX12_hire_49 ?_
          refine W.lcmp hx hb dX12_hire_52 ?_
          refine lv_if_le (tgt := 60) hx hb dX12_hire_53 (by decide) (fun c_15 => ?_) (fun c_15 => ?_)
          · refine lv_ldc2 (v := (-1)) hx hb hown (htw _ (ck_29 _ (List.mem_of_getElem? (i := 13) rfl))) dX12_hire_60 ?_
            refine lv_lstore (lv' := [(6, .long (-1)), (0, .ref mq), (1, .int a0), (2, .long a1), (4, .int a2), (5, .int a3)]) hx hb dX12_hire_63 hl (by decide) rfl (fun ls hl => ?_)
            refine lv_lconst (v := 0) hx hb dX12_hire_65 (by decide) ?_
            refine lv_lstore (lv' := [(8, .long 0), (6, .long (-1)), (0, .ref mq), (1, .int a0), (2, .long a1), (4, .int a2), (5, .int a3)]) hx hb dX12_hire_66 hl (by decide) rfl (fun ls hl => ?_)
            refine lv_lload_n hx hb dX12_hire_68 rfl (lv_at hl 4 rfl) ?_
            refine lv_lstore (lv' := [(10, .long a1), (8, .long 0), (6, .long (-1)), (0, .ref mq), (1, .int a0), (2, .long a1), (4, .int a2), (5, .int a3)]) hx hb dX12_hire_69 hl (by decide) rfl (fun ls hl => ?_)
            have hloop_16 : ∀ (n : Nat) (L6d : Int64) (L8d : Int64) (L10d : Int64) (m_gotYear_d : Int64) (m_gotDay_d : Int64) (hl0_d : ¬ L10d < a1) (hl9_d : L10d ≤ 1000000000001) (hf_d : (a1 + a2.toInt64).toInt < L10d.toInt + (n : Int)) (hI_d : fq_hire f_landHas a0 a1 a2 a3 (g 12) (gl 53) (gl 54) = fq_hire_d f_landHas a0 a1 a2 a3 n L6d L8d L10d m_gotYear_d m_gotDay_d) (H : Heap) (locs : List Loc) (ls : Array Slot) (hP : va_P (dC, dI) vwCl [(mq, .inr (12, mF (upd g 2 0) (vp_updL (vp_updL gl 53 m_gotYear_d) 54 m_gotDay_d) rf)), (eA0 (rf 29) (ck 29) 24 f_landHas)] H) (hD : va_D A [(mq, .inr (12, mF (upd g 2 0) (vp_updL (vp_updL gl 53 m_gotYear_d) 54 m_gotDay_d) rf)), (eA0 (rf 29) (ck 29) 24 f_landHas)]) (hS : va_S A s.heap H locs) (hl : lv_has ls 14 [(10, .long L10d), (8, .long L8d), (6, .long L6d), (0, .ref mq), (1, .int a0), (2, .long a1), (4, .int a2), (5, .int a3)]), W p l e (headSpec (Cond.code yX12_hire cX12_hire 14 (some .long) :: wsL_law) ({ frames := 3, cells := 0, slots := 0, locals := 79 })).room s m ([.ref mq, .int a0, .long a1, .int a2, .int a3] : List Value).toArray below meth c H locs 0 0 (MQ below (va_Ql (fun (r : Int64) (u : (Int32) × (Int64) × (Int64)) => r = (fq_hire f_landHas a0 a1 a2 a3 (g 12) (gl 53) (gl 54)).1 ∧ u = (fq_hire f_landHas a0 a1 a2 a3 (g 12) (gl 53) (gl 54)).2) (fun (u : (Int32) × (Int64) × (Int64)) t => va_P (dC, dI) vwCl [(mq, .inr (12, mF (upd g 2 u.1) (vp_updL (vp_updL gl 53 u.2.1) 54 u.2.2) rf)), (eA0 (rf 29) (ck 29) 24 f_landHas)] t.heap ∧ va_K (dC, dI) vwCl [] t ∧ va_D A [(mq, .inr (12, mF (upd g 2 u.1) (vp_updL (vp_updL gl 53 u.2.1) 54 u.2.2) rf)), (eA0 (rf 29) (ck 29) 24 f_landHas)]) A) ([.ref mq, .int a0, .long a1, .int a2, .int a3] : List Value).toArray s 0 0 A) (F0 m 71 ls []) := by
              intro n
              induction n with
              | zero =>
                intro L6d L8d L10d m_gotYear_d m_gotDay_d hl0_d hl9_d hf_d hI_d H locs ls hP hD hS hl
                refine lv_lload hx hb dX12_hire_71 (lv_at hl 0 rfl) ?_
                refine lv_lload_n hx hb dX12_hire_73 rfl (lv_at hl 5 rfl) ?_
                refine lv_iload hx hb dX12_hire_74 (lv_at hl 6 rfl) ?_
                refine lv_i2l (v := a2.toInt64) hx hb dX12_hire_76 rfl ?_
                refine lv_ladd hx hb dX12_hire_77 ?_
                refine W.lcmp hx hb dX12_hire_78 ?_
                refine lv_if_gt (tgt := 138) hx hb dX12_hire_79 (by decide) (fun c_17 => ?_) (fun c_17 => absurd c_17 (fun h => h ((lg_cmp_gt _ _).mpr (xj_hz hf_d))))
                refine lv_lload hx hb dX12_hire_138 (lv_at hl 2 rfl) ?_
                refine W.widen (k := 0) (n := 0) (by omega) (by omega) ?_
                obtain ⟨hP9, hD9⟩ := zsub2 (ws' := [(mq, .inr (12, mF (upd g 2 0) (vp_updL (vp_updL gl 53 m_gotYear_d) 54 m_gotDay_d) rf)), (eA0 (rf 29) (ck 29) 24 f_landHas)]) hP hD [0, 1] (by decide) rfl
                have hK9 := hK.sub (tys' := []) [] rfl
                exact W.lret (v := L6d) hx hb hr (fun t ht hW => ⟨⟨L6d, (0, m_gotYear_d, m_gotDay_d), rfl, ((fun e9 => ⟨by rw [e9], by rw [e9]⟩ : fq_hire f_landHas a0 a1 a2 a3 (g 12) (gl 53) (gl 54) = (L6d, (0 : Int32), m_gotYear_d, m_gotDay_d) → _) (hI_d.trans (by rw [fq_hire_d]; try rfl))), by rw [ht]; exact hP9, va_K.moved hW.alike hK9, hD9⟩, hS.F ht⟩) hS.2.2 dX12_hire_140
              | succ n ih =>
                intro L6d L8d L10d m_gotYear_d m_gotDay_d hl0_d hl9_d hf_d hI_d H locs ls hP hD hS hl
                refine lv_lload hx hb dX12_hire_71 (lv_at hl 0 rfl) ?_
                refine lv_lload_n hx hb dX12_hire_73 rfl (lv_at hl 5 rfl) ?_
                refine lv_iload hx hb dX12_hire_74 (lv_at hl 6 rfl) ?_
                refine lv_i2l (v := a2.toInt64) hx hb dX12_hire_76 rfl ?_
                refine lv_ladd hx hb dX12_hire_77 ?_
                refine W.lcmp hx hb dX12_hire_78 ?_
                refine lv_if_gt (tgt := 138) hx hb dX12_hire_79 (by decide) (fun c_18 => ?_) (fun c_18 => ?_)
                · refine lv_lload hx hb dX12_hire_138 (lv_at hl 2 rfl) ?_
                  refine W.widen (k := 0) (n := 0) (by omega) (by omega) ?_
                  obtain ⟨hP9, hD9⟩ := zsub2 (ws' := [(mq, .inr (12, mF (upd g 2 0) (vp_updL (vp_updL gl 53 m_gotYear_d) 54 m_gotDay_d) rf)), (eA0 (rf 29) (ck 29) 24 f_landHas)]) hP hD [0, 1] (by decide) rfl
                  have hK9 := hK.sub (tys' := []) [] rfl
                  exact W.lret (v := L6d) hx hb hr (fun t ht hW => ⟨⟨L6d, (0, m_gotYear_d, m_gotDay_d), rfl, ((fun e9 => ⟨by rw [e9], by rw [e9]⟩ : fq_hire f_landHas a0 a1 a2 a3 (g 12) (gl 53) (gl 54) = (L6d, (0 : Int32), m_gotYear_d, m_gotDay_d) → _) (hI_d.trans (by rw [fq_hire_d]; (try rw [if_pos c_18]); try rfl))), by rw [ht]; exact hP9, va_K.moved hW.alike hK9, hD9⟩, hS.F ht⟩) hS.2.2 dX12_hire_140
                · refine lv_aload_n hx hb dX12_hire_82 rfl (lv_at hl 3 rfl) ?_
                  refine lv_iload_n hx hb dX12_hire_83 rfl (lv_at hl 4 rfl) ?_
                  refine lv_lload hx hb dX12_hire_84 (lv_at hl 0 rfl) ?_
                  refine lv_iload hx hb dX12_hire_86 (lv_at hl 7 rfl) ?_
                  refine lv_i2l (v := a3.toInt64) hx hb dX12_hire_88 rfl ?_
                  refine lv_ladd hx hb dX12_hire_89 ?_
                  obtain ⟨hPc, hDc, hFc, hCc⟩ := zsub3 (ws' := [(mq, .inr (12, mF (upd g 2 0) (vp_updL (vp_updL gl 53 m_gotYear_d) 54 m_gotDay_d) rf)), (eA0 (rf 29) (ck 29) 24 f_landHas)]) hP hD hS hA [0, 1] (by decide) rfl
                  have hKc := hK.sub (tys' := [((ck 29), .int)]) [0] rfl
                  refine va_calll (va_runV (As := [.int a0, .long (L10d + a3.toInt64)]) (rest := []) ⟨hx, hb, hml, hown, htw⟩ (gq_endedBy l dC dI mq (upd g 2 0) (vp_updL (vp_updL gl 53 m_gotYear_d) 54 m_gotDay_d) rf ck f_landHas a0 (L10d + a3.toInt64) H.size (hp_2.resolve_left c_4) (gq_hire_s0 (y0 := a0) (y1 := g 12) (hp_3.resolve_left c_4) hln4) (gq_hire_s1 (y0 := L10d) (y1 := a3.toInt64) (y2 := a1) (xj_d (hp_12.resolve_left c_14) (hp_13.resolve_left c_14)).1 (xj_d (hp_12.resolve_left c_14) (hp_13.resolve_left c_14)).2 hl0_d hl9_d (xq_cnt hq_r_5 c_6).1) (gq_hire_s2 (y0 := L10d) (y1 := a3.toInt64) (y2 := a1) (xj_d (hp_12.resolve_left c_14) (hp_13.resolve_left c_14)).1 (xj_d (hp_12.resolve_left c_14) (hp_13.resolve_left c_14)).2 hl0_d hl9_d (xq_cnt hq_r_5 c_6).1) (hLZ1 a0 (And.intro (hp_2.resolve_left c_4) (hp_3.resolve_left c_4)).1 (And.intro (hp_2.resolve_left c_4) (hp_3.resolve_left c_4)).2)) (cwV 2 htw (xg_V (ck_50 _ (List.mem_of_getElem? (i := 12) rfl)) (ck_50 _ (List.mem_of_getElem? (i := 13) rfl)) (ck_50 _ (List.mem_of_getElem? (i := 14) rfl)) (ck_1 _ (List.mem_of_getElem? (i := 5) rfl)) (ck_50 _ (List.mem_of_getElem? (i := 15) rfl))) rfl rfl rfl (by exact ⟨rfl, hdc_14.1, hdc_14.2, hdd_41⟩) ⟨Nat.le_of_ble_eq_true rfl, Nat.le_of_ble_eq_true rfl⟩) ⟨fun a U g mk q => by obtain ⟨q0, q1, qP, qK, qD⟩ := q; exact ⟨q0, q1, qP, va_K.moved (u := U) (U := U.calling g mk a) (Vm.Alike.refl U.vm) qK, qD⟩, va_recv hKc hPc (ci := 12) (q0 := 0) rfl rfl, fun U hU hW => ⟨rfl, by rw [hU], by rw [hU]; exact hPc, va_K.moved hW.alike hKc, hDc.weaken (fun _ _ _ _ => trivial)⟩⟩ rfl rfl hl.1 rfl (lv_room (Nat.le_of_ble_eq_true rfl)) dX12_hire_90 ⟨Nat.le_of_ble_eq_true rfl, Nat.le_of_ble_eq_true rfl⟩) hS (fun q _ h => hFc q h) hFc (fun r_19 u_20 t H1 locs ht hvm hw hB hz1 hk1 hS => ?_)
                  try dsimp only at hw
                  obtain ⟨hP1, hK1, hD1⟩ := hB
                  rw [ht] at hP1
                  have hK1 := va_K.moved hvm.symm hK1
                  have hK1 : va_K (dC, dI) vwCl [] s := hK1
                  obtain ⟨hP, hD⟩ := va_join (wr := []) (w1 := [(mq, .inr (12, mF (upd g 2 0) (vp_updL (vp_updL gl 53 u_20.1) 54 u_20.2) rf)), (eA0 (rf 29) (ck 29) 24 f_landHas)]) hP hD [0, 1] [] hCc rfl (by decide) (by decide) hk1 hFc hP1 hD1
                  generalize H1 = H at hP hS ⊢
                  obtain ⟨hP, hD⟩ := zre [(mq, .inr (12, mF (upd g 2 0) (vp_updL (vp_updL gl 53 u_20.1) 54 u_20.2) rf)), (eA0 (rf 29) (ck 29) 24 f_landHas)] hP hD rfl
                  refine W.widen (k := 0) (n := 0) (by omega) (by omega) ?_
                  obtain ⟨X_23, hX_23⟩ : ∃ X9 : Int64 × (Int64) × (Int64), X9 = (fq_endedBy f_landHas a0 (L10d + a3.toInt64) m_gotYear_d m_gotDay_d) := ⟨_, rfl⟩
                  have hq_r_19 : r_19 = X_23.1 := by rw [hX_23]; exact hw.1
                  have hq_u_20 : u_20 = X_23.2 := by rw [hX_23]; exact hw.2
                  refine lv_aload_n hx hb dX12_hire_93 rfl (lv_at hl 3 rfl) ?_
                  refine lv_iload_n hx hb dX12_hire_94 rfl (lv_at hl 4 rfl) ?_
                  refine lv_lload hx hb dX12_hire_95 (lv_at hl 0 rfl) ?_
                  obtain ⟨hPc, hDc, hFc, hCc⟩ := zsub3 (ws' := [(mq, .inr (12, mF (upd g 2 0) (vp_updL (vp_updL gl 53 u_20.1) 54 u_20.2) rf)), (eA0 (rf 29) (ck 29) 24 f_landHas)]) hP hD hS hA [0, 1] (by decide) rfl
                  have hKc := hK.sub (tys' := [((ck 29), .int)]) [0] rfl
                  refine va_calll (va_runV (As := [.int a0, .long L10d]) (rest := [.long r_19]) ⟨hx, hb, hml, hown, htw⟩ (gq_endedBy l dC dI mq (upd g 2 0) (vp_updL (vp_updL gl 53 u_20.1) 54 u_20.2) rf ck f_landHas a0 L10d H.size (hp_2.resolve_left c_4) (gq_hire_s3 (y0 := a0) (y1 := g 12) (hp_3.resolve_left c_4) hln4) (gq_hire_s4 (y0 := L10d) (y1 := a1) hl0_d (xq_cnt hq_r_5 c_6).1) (gq_hire_s5 (y0 := L10d) hl9_d) (hLZ1 a0 (And.intro (hp_2.resolve_left c_4) (hp_3.resolve_left c_4)).1 (And.intro (hp_2.resolve_left c_4) (hp_3.resolve_left c_4)).2)) (cwV 2 htw (xg_V (ck_50 _ (List.mem_of_getElem? (i := 12) rfl)) (ck_50 _ (List.mem_of_getElem? (i := 13) rfl)) (ck_50 _ (List.mem_of_getElem? (i := 14) rfl)) (ck_1 _ (List.mem_of_getElem? (i := 5) rfl)) (ck_50 _ (List.mem_of_getElem? (i := 15) rfl))) rfl rfl rfl (by exact ⟨rfl, hdc_14.1, hdc_14.2, hdd_41⟩) ⟨Nat.le_of_ble_eq_true rfl, Nat.le_of_ble_eq_true rfl⟩) ⟨fun a U g mk q => by obtain ⟨q0, q1, qP, qK, qD⟩ := q; exact ⟨q0, q1, qP, va_K.moved (u := U) (U := U.calling g mk a) (Vm.Alike.refl U.vm) qK, qD⟩, va_recv hKc hPc (ci := 12) (q0 := 0) rfl rfl, fun U hU hW => ⟨rfl, by rw [hU], by rw [hU]; exact hPc, va_K.moved hW.alike hKc, hDc.weaken (fun _ _ _ _ => trivial)⟩⟩ rfl rfl hl.1 rfl (lv_room (Nat.le_of_ble_eq_true rfl)) dX12_hire_97 ⟨Nat.le_of_ble_eq_true rfl, Nat.le_of_ble_eq_true rfl⟩) hS (fun q _ h => hFc q h) hFc (fun r_24 u_25 t H1 locs ht hvm hw hB hz1 hk1 hS => ?_)
                  try dsimp only at hw
                  obtain ⟨hP1, hK1, hD1⟩ := hB
                  rw [ht] at hP1
                  have hK1 := va_K.moved hvm.symm hK1
                  have hK1 : va_K (dC, dI) vwCl [] s := hK1
                  obtain ⟨hP, hD⟩ := va_join (wr := []) (w1 := [(mq, .inr (12, mF (upd g 2 0) (vp_updL (vp_updL gl 53 u_25.1) 54 u_25.2) rf)), (eA0 (rf 29) (ck 29) 24 f_landHas)]) hP hD [0, 1] [] hCc rfl (by decide) (by decide) hk1 hFc hP1 hD1
                  generalize H1 = H at hP hS ⊢
                  obtain ⟨hP, hD⟩ := zre [(mq, .inr (12, mF (upd g 2 0) (vp_updL (vp_updL gl 53 u_25.1) 54 u_25.2) rf)), (eA0 (rf 29) (ck 29) 24 f_landHas)] hP hD rfl
                  refine W.widen (k := 0) (n := 0) (by omega) (by omega) ?_
                  obtain ⟨X_28, hX_28⟩ : ∃ X9 : Int64 × (Int64) × (Int64), X9 = (fq_endedBy f_landHas a0 L10d u_20.1 u_20.2) := ⟨_, rfl⟩
                  have hq_r_24 : r_24 = X_28.1 := by rw [hX_28]; exact hw.1
                  have hq_u_25 : u_25 = X_28.2 := by rw [hX_28]; exact hw.2
                  refine lv_lsub hx hb dX12_hire_100 ?_
                  refine lv_lstore (lv' := [(12, .long (r_19 - r_24)), (10, .long L10d), (8, .long L8d), (6, .long L6d), (0, .ref mq), (1, .int a0), (2, .long a1), (4, .int a2), (5, .int a3)]) hx hb dX12_hire_101 hl (by decide) rfl (fun ls hl => ?_)
                  refine lv_lload hx hb dX12_hire_103 (lv_at hl 3 rfl) ?_
                  refine lv_lconst (v := 0) hx hb dX12_hire_105 (by decide) ?_
                  refine W.lcmp hx hb dX12_hire_106 ?_
                  refine lv_if_lt (tgt := 121) hx hb dX12_hire_107 (by decide) (fun c_29 => ?_) (fun c_29 => ?_)
                  · refine lv_lload hx hb dX12_hire_121 (lv_at hl 1 rfl) ?_
                    refine lv_lstore (lv' := [(6, .long L10d), (12, .long (r_19 - r_24)), (10, .long L10d), (8, .long L8d), (0, .ref mq), (1, .int a0), (2, .long a1), (4, .int a2), (5, .int a3)]) hx hb dX12_hire_123 hl (by decide) rfl (fun ls hl => ?_)
                    refine lv_lload hx hb dX12_hire_125 (lv_at hl 1 rfl) ?_
                    refine lv_lstore (lv' := [(8, .long (r_19 - r_24)), (6, .long L10d), (12, .long (r_19 - r_24)), (10, .long L10d), (0, .ref mq), (1, .int a0), (2, .long a1), (4, .int a2), (5, .int a3)]) hx hb dX12_hire_127 hl (by decide) rfl (fun ls hl => ?_)
                    refine lv_lload hx hb dX12_hire_129 (lv_at hl 3 rfl) ?_
                    refine lv_lconst (v := 1) hx hb dX12_hire_131 (by decide) ?_
                    refine lv_ladd hx hb dX12_hire_132 ?_
                    refine lv_lstore (lv' := [(10, .long (L10d + 1)), (8, .long (r_19 - r_24)), (6, .long L10d), (12, .long (r_19 - r_24)), (0, .ref mq), (1, .int a0), (2, .long a1), (4, .int a2), (5, .int a3)]) hx hb dX12_hire_133 hl (by decide) rfl (fun ls hl => ?_)
                    refine lv_goto (tgt := 71) hx hb dX12_hire_135 (by decide) ?_
                    exact ih L10d (r_19 - r_24) (L10d + 1) u_25.1 u_25.2 (gq_hire_s6 (y0 := L10d) (y1 := a1) hl0_d hl9_d (xq_cnt hq_r_5 c_6).1) (gq_hire_s7 (y0 := L10d) (y1 := a1) (y2 := a2.toInt64) (y3 := a3.toInt64) ((lg_cmp_le _ _).mp c_15) (fun q9 => c_18 ((lg_cmp_gt _ _).mpr q9)) (xj_d (hp_12.resolve_left c_14) (hp_13.resolve_left c_14)).1 (xj_d (hp_12.resolve_left c_14) (hp_13.resolve_left c_14)).2 (xj_n (hp_8.resolve_left c_10) (hp_9.resolve_left c_10)).1 (xj_n (hp_8.resolve_left c_10) (hp_9.resolve_left c_10)).2 hl0_d hl9_d (xq_cnt hq_r_5 c_6).1 (xq_cnt hq_r_5 c_6).2) (by rw [xj_s (b := 2000000000000) (gq_hire_s8 (y0 := L10d) hl9_d)]; omega) (hI_d.trans (by rw [fq_hire_d]; (try rw [if_neg c_18]); (try rw [← hX_23]); (try rw [xL_eq]); (try rw [← hq_r_19]); (try rw [← hq_u_20]); (try rw [← hX_28]); (try rw [xL_eq]); (try rw [← hq_r_24]); (try rw [← hq_u_25]); (try rw [if_pos c_29]); try rfl)) H locs ls hP hD hS (lv_sub hl [0, 1, 2, 4, 5, 6, 7, 8] rfl)
                  · refine lv_lload hx hb dX12_hire_110 (lv_at hl 0 rfl) ?_
                    refine lv_lload hx hb dX12_hire_112 (lv_at hl 2 rfl) ?_
                    refine W.lcmp hx hb dX12_hire_114 ?_
                    refine lv_if_gt (tgt := 121) hx hb dX12_hire_115 (by decide) (fun c_30 => ?_) (fun c_30 => ?_)
                    · refine lv_lload hx hb dX12_hire_121 (lv_at hl 1 rfl) ?_
                      refine lv_lstore (lv' := [(6, .long L10d), (12, .long (r_19 - r_24)), (10, .long L10d), (8, .long L8d), (0, .ref mq), (1, .int a0), (2, .long a1), (4, .int a2), (5, .int a3)]) hx hb dX12_hire_123 hl (by decide) rfl (fun ls hl => ?_)
                      refine lv_lload hx hb dX12_hire_125 (lv_at hl 1 rfl) ?_
                      refine lv_lstore (lv' := [(8, .long (r_19 - r_24)), (6, .long L10d), (12, .long (r_19 - r_24)), (10, .long L10d), (0, .ref mq), (1, .int a0), (2, .long a1), (4, .int a2), (5, .int a3)]) hx hb dX12_hire_127 hl (by decide) rfl (fun ls hl => ?_)
                      refine lv_lload hx hb dX12_hire_129 (lv_at hl 3 rfl) ?_
                      refine lv_lconst (v := 1) hx hb dX12_hire_131 (by decide) ?_
                      refine lv_ladd hx hb dX12_hire_132 ?_
                      refine lv_lstore (lv' := [(10, .long (L10d + 1)), (8, .long (r_19 - r_24)), (6, .long L10d), (12, .long (r_19 - r_24)), (0, .ref mq), (1, .int a0), (2, .long a1), (4, .int a2), (5, .int a3)]) hx hb dX12_hire_133 hl (by decide) rfl (fun ls hl => ?_)
                      refine lv_goto (tgt := 71) hx hb dX12_hire_135 (by decide) ?_
                      exact ih L10d (r_19 - r_24) (L10d + 1) u_25.1 u_25.2 (gq_hire_s9 (y0 := L10d) (y1 := a1) hl0_d hl9_d (xq_cnt hq_r_5 c_6).1) (gq_hire_s10 (y0 := L10d) (y1 := a1) (y2 := a2.toInt64) (y3 := a3.toInt64) ((lg_cmp_le _ _).mp c_15) (fun q9 => c_18 ((lg_cmp_gt _ _).mpr q9)) (xj_d (hp_12.resolve_left c_14) (hp_13.resolve_left c_14)).1 (xj_d (hp_12.resolve_left c_14) (hp_13.resolve_left c_14)).2 (xj_n (hp_8.resolve_left c_10) (hp_9.resolve_left c_10)).1 (xj_n (hp_8.resolve_left c_10) (hp_9.resolve_left c_10)).2 hl0_d hl9_d (xq_cnt hq_r_5 c_6).1 (xq_cnt hq_r_5 c_6).2) (by rw [xj_s (b := 2000000000000) (gq_hire_s11 (y0 := L10d) hl9_d)]; omega) (hI_d.trans (by rw [fq_hire_d]; (try rw [if_neg c_18]); (try rw [← hX_23]); (try rw [xL_eq]); (try rw [← hq_r_19]); (try rw [← hq_u_20]); (try rw [← hX_28]); (try rw [xL_eq]); (try rw [← hq_r_24]); (try rw [← hq_u_25]); (try rw [if_neg c_29]); (try rw [if_pos c_30]); try rfl)) H locs ls hP hD hS (lv_sub hl [0, 1, 2, 4, 5, 6, 7, 8] rfl)
                    · refine lv_goto (tgt := 129) hx hb dX12_hire_118 (by decide) ?_
                      refine lv_lload hx hb dX12_hire_129 (lv_at hl 1 rfl) ?_
                      refine lv_lconst (v := 1) hx hb dX12_hire_131 (by decide) ?_
                      refine lv_ladd hx hb dX12_hire_132 ?_
                      refine lv_lstore (lv' := [(10, .long (L10d + 1)), (12, .long (r_19 - r_24)), (8, .long L8d), (6, .long L6d), (0, .ref mq), (1, .int a0), (2, .long a1), (4, .int a2), (5, .int a3)]) hx hb dX12_hire_133 hl (by decide) rfl (fun ls hl => ?_)
                      refine lv_goto (tgt := 71) hx hb dX12_hire_135 (by decide) ?_
                      exact ih L6d L8d (L10d + 1) u_25.1 u_25.2 (gq_hire_s12 (y0 := L10d) (y1 := a1) hl0_d hl9_d (xq_cnt hq_r_5 c_6).1) (gq_hire_s13 (y0 := L10d) (y1 := a1) (y2 := a2.toInt64) (y3 := a3.toInt64) ((lg_cmp_le _ _).mp c_15) (fun q9 => c_18 ((lg_cmp_gt _ _).mpr q9)) (xj_d (hp_12.resolve_left c_14) (hp_13.resolve_left c_14)).1 (xj_d (hp_12.resolve_left c_14) (hp_13.resolve_left c_14)).2 (xj_n (hp_8.resolve_left c_10) (hp_9.resolve_left c_10)).1 (xj_n (hp_8.resolve_left c_10) (hp_9.resolve_left c_10)).2 hl0_d hl9_d (xq_cnt hq_r_5 c_6).1 (xq_cnt hq_r_5 c_6).2) (by rw [xj_s (b := 2000000000000) (gq_hire_s14 (y0 := L10d) hl9_d)]; omega) (hI_d.trans (by rw [fq_hire_d]; (try rw [if_neg c_18]); (try rw [← hX_23]); (try rw [xL_eq]); (try rw [← hq_r_19]); (try rw [← hq_u_20]); (try rw [← hX_28]); (try rw [xL_eq]); (try rw [← hq_r_24]); (try rw [← hq_u_25]); (try rw [if_neg c_29]); (try rw [if_neg c_30]); try rfl)) H locs ls hP hD hS (lv_sub hl [0, 2, 3, 4, 5, 6, 7, 8] rfl)
            exact hloop_16 1000 (-1 : Int64) (0 : Int64) a1 (gl 53) (gl 54) (gq_hire_s15 (y0 := a1)) (gq_hire_s16 (y0 := a1) (xq_cnt hq_r_5 c_6).2) (xj_hs (And.intro (xq_cnt hq_r_5 c_6).1 (And.intro (xq_cnt hq_r_5 c_6).2 (And.intro (xj_n (hp_8.resolve_left c_10) (hp_9.resolve_left c_10)).1 (xj_n (hp_8.resolve_left c_10) (hp_9.resolve_left c_10)).2))).1 (And.intro (xq_cnt hq_r_5 c_6).1 (And.intro (xq_cnt hq_r_5 c_6).2 (And.intro (xj_n (hp_8.resolve_left c_10) (hp_9.resolve_left c_10)).1 (xj_n (hp_8.resolve_left c_10) (hp_9.resolve_left c_10)).2))).2.1 (And.intro (xq_cnt hq_r_5 c_6).1 (And.intro (xq_cnt hq_r_5 c_6).2 (And.intro (xj_n (hp_8.resolve_left c_10) (hp_9.resolve_left c_10)).1 (xj_n (hp_8.resolve_left c_10) (hp_9.resolve_left c_10)).2))).2.2.1 (And.intro (xq_cnt hq_r_5 c_6).1 (And.intro (xq_cnt hq_r_5 c_6).2 (And.intro (xj_n (hp_8.resolve_left c_10) (hp_9.resolve_left c_10)).1 (xj_n (hp_8.resolve_left c_10) (hp_9.resolve_left c_10)).2))).2.2.2) ((by rw [fq_hire]; (try rw [← hq_r_1]); (try rw [xL_eq]); (try rw [if_neg c_4]); (try rw [← hq_r_5]); (try rw [xL_eq]); (try rw [if_neg c_6]); (try rw [← hq_r_7]); (try rw [xL_eq]); (try rw [if_neg c_10]); (try rw [← hq_r_11]); (try rw [xL_eq]); (try rw [if_neg c_14]); (try rw [if_pos c_15]); try rfl)) _ _ ls hP hD hS (lv_sub hl [0, 1, 2, 3, 4, 5, 6, 7] rfl)
          · refine lv_ldc2 (v := (-1)) hx hb hown (htw _ (ck_29 _ (List.mem_of_getElem? (i := 13) rfl))) dX12_hire_56 ?_
            refine W.widen (k := 0) (n := 0) (by omega) (by omega) ?_
            have hP9 := hP
            have hD9 := hD
            have hK9 := hK.sub (tys' := []) [] rfl
            exact W.lret (v := (-1)) hx hb hr (fun t ht hW => ⟨⟨(-1), (0, (gl 53), (gl 54)), rfl, ((fun e9 => ⟨by rw [e9], by rw [e9]⟩ : fq_hire f_landHas a0 a1 a2 a3 (g 12) (gl 53) (gl 54) = ((-1 : Int64), (0 : Int32), (gl 53), (gl 54)) → _) ((by rw [fq_hire]; (try rw [← hq_r_1]); (try rw [xL_eq]); (try rw [if_neg c_4]); (try rw [← hq_r_5]); (try rw [xL_eq]); (try rw [if_neg c_6]); (try rw [← hq_r_7]); (try rw [xL_eq]); (try rw [if_neg c_10]); (try rw [← hq_r_11]); (try rw [xL_eq]); (try rw [if_neg c_14]); (try rw [if_neg c_15]); try rfl))), by rw [ht]; exact hP9, va_K.moved hW.alike hK9, hD9⟩, hS.F ht⟩) hS.2.2 dX12_hire_59
