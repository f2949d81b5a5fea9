theorem xj_i {x : Int32} : ¬ x.toInt64 < -3000000000 ∧ x.toInt64 ≤ 2000000000000 := by
  have h1 := Int32.toInt_lt x
  have h2 := Int32.le_toInt x
  rw [Int64.lt_iff_toInt_lt, Int64.le_iff_toInt_le, Int32.toInt_toInt64]
  have e0 : (-3000000000 : Int64).toInt = -3000000000 := rfl
  have e9 : (2000000000000 : Int64).toInt = 2000000000000 := rfl
  omega
theorem xj_i2 {x : Int32} (h0 : ¬ x < 0) (h : x < 20000) : ¬ x.toInt64 < 0 ∧ x.toInt64 ≤ 1000000000000 := by
  rw [Int32.lt_iff_toInt_lt] at h0 h
  rw [Int64.lt_iff_toInt_lt, Int64.le_iff_toInt_le, Int32.toInt_toInt64]
  have e0 : (0 : Int64).toInt = 0 := rfl
  have e1 : (0 : Int32).toInt = 0 := rfl
  have e2 : (20000 : Int32).toInt = 20000 := rfl
  have e9 : (1000000000000 : Int64).toInt = 1000000000000 := rfl
  omega

def fq_feast (f_sky : Nat → Int32) (f_landHas : Nat → Int32) (f_first : Nat → Int32) (f_last : Nat → Int32) (f_knot : Nat → Int32) (f_part : Nat → Int32) (f_other : Nat → Int32) (f_names : Nat → Int64) (f_value : Nat → Int64) (a0 : Int32) (a1 : Int64) (m_lands : Int32) (m_feasts : Int32) (m_gotYear : Int64) (m_gotDay : Int64) (m_isError : Int32) : Int32 × (Int32) × (Int64) × (Int64) × (Int32) × (Nat → Int64) × (Nat → Int64) := (xL ((fq_isFeast a0 m_feasts)) (fun r_1 => (if r_1 = 0 then ((-1 : Int32), (0 : Int32), m_gotYear, m_gotDay, m_isError, f_names, f_value) else (xL ((fq_isCount a1)) (fun r_5 => (if r_5 = 0 then ((-1 : Int32), (0 : Int32), m_gotYear, m_gotDay, m_isError, f_names, f_value) else (xL ((fq_sumOf f_sky f_landHas f_first f_last f_knot f_part f_other f_names f_value a0 a1 m_lands m_gotYear m_gotDay)) (fun X_14 => (if lg_cmp X_14.1 0 = 0 then ((0 : Int32), (0 : Int32), X_14.2.1, X_14.2.2.1, X_14.2.2.2.1, X_14.2.2.2.2.1, X_14.2.2.2.2.2) else ((1 : Int32), (0 : Int32), X_14.2.1, X_14.2.2.1, X_14.2.2.2.1, X_14.2.2.2.2.1, X_14.2.2.2.2.2))))))))))
theorem gq_feast_s0 {y0 : Int32} {y1 : Int32} (h0 : ¬ (y0 < 0)) (h1 : y0 < y1) (h2 : ¬ (y1 < 0)) (h3 : y1 ≤ 4) : ¬ (y0 < 0) := h0
theorem gq_feast_s1 {y0 : Int32} {y1 : Int32} (h0 : ¬ (y0 < 0)) (h1 : y0 < y1) (h2 : ¬ (y1 < 0)) (h3 : y1 ≤ 4) : y0 < 4 := by lia
theorem gq_feast_s2 {y0 : Int32} {y1 : Int32} (h0 : ¬ (y0 < 0)) (h1 : y0 < y1) (h2 : ¬ (y1 < 0)) (h3 : y1 ≤ 4) : ¬ (y0 < 0) ∧ y0 < y1 := gq_date_s4 h0 h1 h2 h3
theorem gq_feast_s3 {y0 : Int32} {y1 : Int32} (h0 : ¬ (y0 < 0)) (h1 : y0 < y1) (h2 : ¬ (y1 < 0)) (h3 : y1 ≤ 4) : ¬ (y0 < 0) ∧ y0 < y1 := gq_date_s4 h0 h1 h2 h3
theorem gq_feast_s4 {y0 : Int32} {y1 : Int32} (h0 : ¬ (y0 < 0)) (h1 : y0 < y1) (h2 : ¬ (y1 < 0)) (h3 : y1 ≤ 4) : ¬ (y0 < 0) ∧ y0 < y1 := gq_date_s4 h0 h1 h2 h3
theorem gq_feast_s5 {y0 : Int64} (h0 : ¬ (y0 < 0)) (h1 : y0 ≤ 1000000000000) : ¬ (y0 < 0) := h0
theorem gq_feast_s6 {y0 : Int64} (h0 : ¬ (y0 < 0)) (h1 : y0 ≤ 1000000000000) : y0 ≤ 2000000000000 := by lia
theorem dX12_feast_0 : decode cX12_feast 0 = .ok (.aload_n 0, 1) := zk_42 (by decide +kernel)
theorem dX12_feast_1 : decode cX12_feast 1 = .ok (.iconst 0, 1) := zk_3 (by decide +kernel)
theorem dX12_feast_2 : decode cX12_feast 2 = .ok (.putfield 119, 3) := zk_181 (by decide +kernel)
theorem dX12_feast_5 : decode cX12_feast 5 = .ok (.aload_n 0, 1) := zk_42 (by decide +kernel)
theorem dX12_feast_6 : decode cX12_feast 6 = .ok (.iload_n 1, 1) := zk_27 (by decide +kernel)
theorem dX12_feast_7 : decode cX12_feast 7 = .ok (.invokevirtual 448, 3) := zk_182 (by decide +kernel)
theorem dX12_feast_10 : decode cX12_feast 10 = .ok (.ifCond .eq 10, 3) := zk_153 (by decide +kernel)
theorem dX12_feast_20 : decode cX12_feast 20 = .ok (.iconst (-1), 1) := zk_2 (by decide +kernel)
theorem dX12_feast_21 : decode cX12_feast 21 = .ok (.goto 19, 3) := zk_167 (by decide +kernel)
theorem dX12_feast_40 : decode cX12_feast 40 = .ok (.ireturn, 1) := zk_172 (by decide +kernel)
theorem dX12_feast_13 : decode cX12_feast 13 = .ok (.lload_n 2, 1) := zk_32 (by decide +kernel)
theorem dX12_feast_14 : decode cX12_feast 14 = .ok (.invokestatic 413, 3) := zk_184 (by decide +kernel)
theorem dX12_feast_17 : decode cX12_feast 17 = .ok (.ifCond .ne 7, 3) := zk_154 (by decide +kernel)
theorem dX12_feast_24 : decode cX12_feast 24 = .ok (.aload_n 0, 1) := zk_42 (by decide +kernel)
theorem dX12_feast_25 : decode cX12_feast 25 = .ok (.iload_n 1, 1) := zk_27 (by decide +kernel)
theorem dX12_feast_26 : decode cX12_feast 26 = .ok (.lload_n 2, 1) := zk_32 (by decide +kernel)
theorem dX12_feast_27 : decode cX12_feast 27 = .ok (.invokevirtual 451, 3) := zk_182 (by decide +kernel)
theorem dX12_feast_30 : decode cX12_feast 30 = .ok (.lconst 0, 1) := zk_9 (by decide +kernel)
theorem dX12_feast_31 : decode cX12_feast 31 = .ok (.lcmp, 1) := zk_148 (by decide +kernel)
theorem dX12_feast_32 : decode cX12_feast 32 = .ok (.ifCond .eq 7, 3) := zk_153 (by decide +kernel)
theorem dX12_feast_39 : decode cX12_feast 39 = .ok (.iconst 0, 1) := zk_3 (by decide +kernel)
theorem dX12_feast_35 : decode cX12_feast 35 = .ok (.iconst 1, 1) := zk_4 (by decide +kernel)
theorem dX12_feast_36 : decode cX12_feast 36 = .ok (.goto 4, 3) := zk_167 (by decide +kernel)
set_option maxHeartbeats 4000000 in
set_option maxRecDepth 100000 in
theorem gq_feast (l : Launch) (dC : Nat → ClassId) (dI : Nat → Nat → Nat) (mq : Nat) (g : Nat → Int32) (gl : Nat → Int64) (rf : Nat → Nat) (ck : Nat → ClassId) (f_sky : Nat → Int32) (f_landHas : Nat → Int32) (f_first : Nat → Int32) (f_last : Nat → Int32) (f_knot : Nat → Int32) (f_part : Nat → Int32) (f_other : Nat → Int32) (f_names : Nat → Int64) (f_value : Nat → Int64) (a0 : Int32) (a1 : Int64) (sz : Nat) (hfe0 : ¬ (g 13) < 0) (hfe4 : (g 13) ≤ 4) (hFA : ∀ k : Int32, ¬ k < 0 → k < (g 13) → ¬ (f_first k.toNatClampNeg) < 0 ∧ (f_last k.toNatClampNeg) ≤ 64 ∧ ¬ (f_last k.toNatClampNeg) < 1) (hKA : ∀ k : Nat, k < 64 → xKV f_knot f_part f_other k) (hln0 : ¬ (g 12) < 0) (hln4 : (g 12) ≤ 4) (hLZ : ∀ k : Int32, ¬ k < 0 → k < (g 12) → ¬ (f_landHas ((3 * k).toNatClampNeg)) = 0) (hs0 : ¬ (f_sky 0) < 1) (hs2 : ¬ (f_sky 2) < 1) (hs5 : ¬ (f_sky 5) < 1) : Met l yX12_feast (Cond.code yX12_feast cX12_feast 4 (some .int) :: wsL_law) ({ frames := 3, cells := 0, slots := 0, locals := 81 }) (va_Pc [.ref mq, .int a0, .long a1] (fun U => U.heap.size = sz ∧ va_P (dC, dI) vwCl [(mq, .inr (12, mF g gl rf)), (eA0 (rf 24) (ck 24) 14 f_sky), (eA0 (rf 29) (ck 29) 24 f_landHas), (eA0 (rf 31) (ck 31) 8 f_first), (eA0 (rf 32) (ck 32) 8 f_last), (eA0 (rf 41) (ck 41) 128 f_knot), (eA0 (rf 42) (ck 42) 128 f_part), (eA0 (rf 43) (ck 43) 128 f_other), (eA1 (rf 55) (ck 55) 6 f_names), (eA1 (rf 56) (ck 56) 64 f_value)] U.heap ∧ va_K (dC, dI) vwCl [((ck 24), .int), ((ck 29), .int), ((ck 31), .int), ((ck 32), .int), ((ck 41), .int), ((ck 42), .int), ((ck 43), .int), ((ck 55), .long), ((ck 56), .long)] U ∧ va_D (fun _ => True) [(mq, .inr (12, mF g gl rf)), (eA0 (rf 24) (ck 24) 14 f_sky), (eA0 (rf 29) (ck 29) 24 f_landHas), (eA0 (rf 31) (ck 31) 8 f_first), (eA0 (rf 32) (ck 32) 8 f_last), (eA0 (rf 41) (ck 41) 128 f_knot), (eA0 (rf 42) (ck 42) 128 f_part), (eA0 (rf 43) (ck 43) 128 f_other), (eA1 (rf 55) (ck 55) 6 f_names), (eA1 (rf 56) (ck 56) 64 f_value)])) (va_Qi (fun (r : Int32) (u : (Int32) × (Int64) × (Int64) × (Int32) × (Nat → Int64) × (Nat → Int64)) => r = (fq_feast f_sky f_landHas f_first f_last f_knot f_part f_other f_names f_value a0 a1 (g 12) (g 13) (gl 53) (gl 54) (g 57)).1 ∧ u = (fq_feast f_sky f_landHas f_first f_last f_knot f_part f_other f_names f_value a0 a1 (g 12) (g 13) (gl 53) (gl 54) (g 57)).2) (fun (u : (Int32) × (Int64) × (Int64) × (Int32) × (Nat → Int64) × (Nat → Int64)) t => va_P (dC, dI) vwCl [(mq, .inr (12, mF (upd (upd g 2 u.1) 57 u.2.2.2.1) (vp_updL (vp_updL gl 53 u.2.1) 54 u.2.2.1) rf)), (eA0 (rf 24) (ck 24) 14 f_sky), (eA0 (rf 29) (ck 29) 24 f_landHas), (eA0 (rf 31) (ck 31) 8 f_first), (eA0 (rf 32) (ck 32) 8 f_last), (eA0 (rf 41) (ck 41) 128 f_knot), (eA0 (rf 42) (ck 42) 128 f_part), (eA0 (rf 43) (ck 43) 128 f_other), (eA1 (rf 55) (ck 55) 6 u.2.2.2.2.1), (eA1 (rf 56) (ck 56) 64 u.2.2.2.2.2)] t.heap ∧ va_K (dC, dI) vwCl [] t ∧ va_D (va_A [(mq, .inr (12, mF g gl rf)), (eA0 (rf 24) (ck 24) 14 f_sky), (eA0 (rf 29) (ck 29) 24 f_landHas), (eA0 (rf 31) (ck 31) 8 f_first), (eA0 (rf 32) (ck 32) 8 f_last), (eA0 (rf 41) (ck 41) 128 f_knot), (eA0 (rf 42) (ck 42) 128 f_part), (eA0 (rf 43) (ck 43) 128 f_other), (eA1 (rf 55) (ck 55) 6 f_names), (eA1 (rf 56) (ck 56) 64 f_value)] sz) [(mq, .inr (12, mF (upd (upd g 2 u.1) 57 u.2.2.2.1) (vp_updL (vp_updL gl 53 u.2.1) 54 u.2.2.1) rf)), (eA0 (rf 24) (ck 24) 14 f_sky), (eA0 (rf 29) (ck 29) 24 f_landHas), (eA0 (rf 31) (ck 31) 8 f_first), (eA0 (rf 32) (ck 32) 8 f_last), (eA0 (rf 41) (ck 41) 128 f_knot), (eA0 (rf 42) (ck 42) 128 f_part), (eA0 (rf 43) (ck 43) 128 f_other), (eA1 (rf 55) (ck 55) 6 u.2.2.2.2.1), (eA1 (rf 56) (ck 56) 64 u.2.2.2.2.2)]) (va_A [(mq, .inr (12, mF g gl rf)), (eA0 (rf 24) (ck 24) 14 f_sky), (eA0 (rf 29) (ck 29) 24 f_landHas), (eA0 (rf 31) (ck 31) 8 f_first), (eA0 (rf 32) (ck 32) 8 f_last), (eA0 (rf 41) (ck 41) 128 f_knot), (eA0 (rf 42) (ck 42) 128 f_part), (eA0 (rf 43) (ck 43) 128 f_other), (eA1 (rf 55) (ck 55) 6 f_names), (eA1 (rf 56) (ck 56) 64 f_value)] sz)) 0 0 (va_A [(mq, .inr (12, mF g gl rf)), (eA0 (rf 24) (ck 24) 14 f_sky), (eA0 (rf 29) (ck 29) 24 f_landHas), (eA0 (rf 31) (ck 31) 8 f_first), (eA0 (rf 32) (ck 32) 8 f_last), (eA0 (rf 41) (ck 41) 128 f_knot), (eA0 (rf 42) (ck 42) 128 f_part), (eA0 (rf 43) (ck 43) 128 f_other), (eA1 (rf 55) (ck 55) 6 f_names), (eA1 (rf 56) (ck 56) 64 f_value)] sz) := by
  refine Met.ofW (cc := cX12_feast) (maxL := 4) (ret := (some .int)) (by decide) rfl ?_
  intro p e s m args below meth c s₁ B hml hv
  obtain ⟨rfl, hsz, hP, hK, hD0⟩ := hv
  have hx := B.exec
  have hb := B.bytes
  have hr := B.returns
  have hts := atoms_spec (ws := Cond.code yX12_feast cX12_feast 4 (some .int) :: wsL_law) B.pre
  have htw : ∀ w ∈ wsL_law, w.before _ s = true := fun w h => hts w (List.mem_cons_of_mem _ h)
  have hown : s.vm.findClass RX12 = some m.cls := findClass_of_methodNamed B.named
  have hlocks := B.notSynchronized
  subst hsz
  have hD := hD0.self (sz := s.heap.size)
  generalize hAe : va_A [(mq, .inr (12, mF g gl rf)), (eA0 (rf 24) (ck 24) 14 f_sky), (eA0 (rf 29) (ck 29) 24 f_landHas), (eA0 (rf 31) (ck 31) 8 f_first), (eA0 (rf 32) (ck 32) 8 f_last), (eA0 (rf 41) (ck 41) 128 f_knot), (eA0 (rf 42) (ck 42) 128 f_part), (eA0 (rf 43) (ck 43) 128 f_other), (eA1 (rf 55) (ck 55) 6 f_names), (eA1 (rf 56) (ck 56) 64 f_value)] s.heap.size = A at hD ⊢
  have hA : ∀ q : Nat, s.heap.size ≤ q → A q := fun q h => by rw [← hAe]; exact Or.inr h
  obtain ⟨H, rH⟩ : ∃ z : Heap, z = s.heap := ⟨_, rfl⟩
  have hS : va_S A s.heap H [] := by rw [rH]; exact va_S.rf
  have hP : va_P (dC, dI) vwCl [(mq, .inr (12, mF g gl rf)), (eA0 (rf 24) (ck 24) 14 f_sky), (eA0 (rf 29) (ck 29) 24 f_landHas), (eA0 (rf 31) (ck 31) 8 f_first), (eA0 (rf 32) (ck 32) 8 f_last), (eA0 (rf 41) (ck 41) 128 f_knot), (eA0 (rf 42) (ck 42) 128 f_part), (eA0 (rf 43) (ck 43) 128 f_other), (eA1 (rf 55) (ck 55) 6 f_names), (eA1 (rf 56) (ck 56) 64 f_value)] H := by rw [rH]; exact hP
  rw [← rH]
  have hl := lv_entry ([.ref mq, .int a0, .long a1]) (n := 4) (Nat.le_of_ble_eq_true rfl)
  rw [lg_entry_eq]
  generalize (lg_sl ([.ref mq, .int a0, .long a1]) ++ List.replicate (4 - (lg_sl ([.ref mq, .int a0, .long a1])).length) Slot.unset).toArray = ls at hl ⊢
  have hl : lv_has ls 4 [(0, .ref mq), (1, .int a0), (2, .long a1)] := hl
  refine lv_aload_n hx hb dX12_feast_0 rfl (lv_at hl 0 rfl) ?_
  refine lv_iconst (v := 0) hx hb dX12_feast_1 (by decide) ?_
  refine va_put (D := (dC, dI)) (ci := 12) (v := .int 0) (ty := tyX12 2) (C := RX12) (T := TX12) (N := 76) hx hb htw inlX12 tyX12 tyX12_ok nmX12 hown hK hP hD hS 0 rfl rfl 2 (by decide) (htw _ (ck_12 _ (List.mem_of_getElem? (i := 16) rfl))) (fun _ h9 => h9) rfl (tyX12_ok 2 (by decide)) rfl rfl (Nat.le_of_ble_eq_true rfl) dX12_feast_2 (fun H locs hP hD hS => ?_)
  obtain ⟨hP, hD⟩ := zre [(mq, .inr (12, mF (upd g 2 0) gl rf)), (eA0 (rf 24) (ck 24) 14 f_sky), (eA0 (rf 29) (ck 29) 24 f_landHas), (eA0 (rf 31) (ck 31) 8 f_first), (eA0 (rf 32) (ck 32) 8 f_last), (eA0 (rf 41) (ck 41) 128 f_knot), (eA0 (rf 42) (ck 42) 128 f_part), (eA0 (rf 43) (ck 43) 128 f_other), (eA1 (rf 55) (ck 55) 6 f_names), (eA1 (rf 56) (ck 56) 64 f_value)] hP hD rfl
  refine lv_aload_n hx hb dX12_feast_5 rfl (lv_at hl 0 rfl) ?_
  refine lv_iload_n hx hb dX12_feast_6 rfl (lv_at hl 1 rfl) ?_
  have hPc := hP.sub (ws' := [(mq, .inr (12, mF (upd g 2 0) gl rf))]) [0] rfl
  have hKc := hK.sub (tys' := []) [] rfl
  refine vp_callSi (W.runV (As := [.int a0]) (rest := []) ⟨hx, hb, hml, hown, htw⟩ (gq_isFeast l dC dI mq (upd g 2 0) gl rf a0) (cwV 1 htw (xg_V (ck_40 _ (List.mem_of_getElem? (i := 18) rfl)) (ck_40 _ (List.mem_of_getElem? (i := 19) rfl)) (ck_40 _ (List.mem_of_getElem? (i := 20) rfl)) (ck_1 _ (List.mem_of_getElem? (i := 5) rfl)) (ck_40 _ (List.mem_of_getElem? (i := 21) rfl))) rfl rfl rfl (by exact ⟨rfl, hdc_14.1, hdc_14.2, hdd_26⟩) ⟨Nat.le_of_ble_eq_true rfl, Nat.le_of_ble_eq_true rfl⟩) ⟨fun a U g mk q => by obtain ⟨q0, qP, qK⟩ := q; exact ⟨q0, qP, va_K.moved (u := U) (U := U.calling g mk a) (Vm.Alike.refl U.vm) qK⟩, va_recv hKc hPc (ci := 12) (q0 := 0) rfl rfl, fun U hU hW => ⟨rfl, by rw [hU]; exact hPc, va_K.moved hW.alike hKc⟩⟩ rfl rfl hl.1 rfl (lv_room (Nat.le_of_ble_eq_true rfl)) dX12_feast_7 ⟨Nat.le_of_ble_eq_true rfl, Nat.le_of_ble_eq_true rfl⟩) (fun r_1 hw => ?_)
  try dsimp only at hw
  obtain ⟨hw, hb_r_1, hp_2, hp_3⟩ := hw
  have hq_r_1 : r_1 = (fq_isFeast a0 (g 13)) := hw
  refine lv_if_eq (tgt := 20) hx hb dX12_feast_10 (by decide) (fun c_4 => ?_) (fun c_4 => ?_)
  · refine lv_iconst (v := (-1)) hx hb dX12_feast_20 (by decide) ?_
    refine lv_goto (tgt := 40) hx hb dX12_feast_21 (by decide) ?_
    refine W.widen (k := 0) (n := 0) (by omega) (by omega) ?_
    have hP9 := hP
    have hD9 := hD
    have hK9 := hK.sub (tys' := []) [] rfl
    exact W.iret (v := (-1)) hx hb hr (fun t ht hW => ⟨⟨(-1), (0, (gl 53), (gl 54), (g 57), f_names, f_value), rfl, ((fun e9 => ⟨by rw [e9], by rw [e9]⟩ : fq_feast f_sky f_landHas f_first f_last f_knot f_part f_other f_names f_value a0 a1 (g 12) (g 13) (gl 53) (gl 54) (g 57) = ((-1 : Int32), (0 : Int32), (gl 53), (gl 54), (g 57), f_names, f_value) → _) ((by rw [fq_feast]; (try rw [← hq_r_1]); (try rw [xL_eq]); (try rw [if_pos c_4]); try rfl))), by rw [ht]; exact hP9, va_K.moved hW.alike hK9, hD9⟩, hS.F ht⟩) hS.2.2 dX12_feast_40
  · refine lv_lload_n hx hb dX12_feast_13 rfl (lv_at hl 2 rfl) ?_
    have hPc := hP.sub (ws' := []) [] rfl
    have hKc := hK.sub (tys' := []) [] rfl
    refine vp_callSi (W.runS (As := [.long a1]) (rest := []) ⟨hx, hb, hml, hown, htw⟩ (gq_isCount l dC dI a1) (va_cwS 1 htw (xg_S (ck_36 _ (List.mem_of_getElem? (i := 8) rfl)) (ck_36 _ (List.mem_of_getElem? (i := 9) rfl)) (ck_1 _ (List.mem_of_getElem? (i := 5) rfl)) (ck_36 _ (List.mem_of_getElem? (i := 10) rfl))) rfl rfl rfl (by exact ⟨hdc_14.1, hdc_14.2, hdd_1⟩) ⟨Nat.le_of_ble_eq_true rfl, Nat.le_of_ble_eq_true rfl⟩) ⟨fun a U g mk q => by obtain ⟨q0, qP, qK⟩ := q; exact ⟨q0, qP, va_K.moved (u := U) (U := U.calling g mk a) (Vm.Alike.refl U.vm) qK⟩, fun U hU hW => ⟨rfl, by rw [hU]; exact hPc, va_K.moved hW.alike hKc⟩⟩ rfl rfl hl.1 rfl (lv_room (Nat.le_of_ble_eq_true rfl)) dX12_feast_14 ⟨Nat.le_of_ble_eq_true rfl, Nat.le_of_ble_eq_true rfl⟩) (fun r_5 hw => ?_)
    try dsimp only at hw
    obtain ⟨hw, hb_r_5⟩ := hw
    have hq_r_5 : r_5 = (fq_isCount a1) := hw
    refine lv_if_ne (tgt := 24) hx hb dX12_feast_17 (by decide) (fun c_6 => ?_) (fun c_6 => ?_)
    · refine lv_aload_n hx hb dX12_feast_24 rfl (lv_at hl 0 rfl) ?_
      refine lv_iload_n hx hb dX12_feast_25 rfl (lv_at hl 1 rfl) ?_
      refine lv_lload_n hx hb dX12_feast_26 rfl (lv_at hl 2 rfl) ?_
      obtain ⟨hPc, hDc, hFc, hCc⟩ := zsub3 (ws' := [(mq, .inr (12, mF (upd g 2 0) gl rf)), (eA0 (rf 24) (ck 24) 14 f_sky), (eA0 (rf 29) (ck 29) 24 f_landHas), (eA0 (rf 31) (ck 31) 8 f_first), (eA0 (rf 32) (ck 32) 8 f_last), (eA0 (rf 41) (ck 41) 128 f_knot), (eA0 (rf 42) (ck 42) 128 f_part), (eA0 (rf 43) (ck 43) 128 f_other), (eA1 (rf 55) (ck 55) 6 f_names), (eA1 (rf 56) (ck 56) 64 f_value)]) hP hD hS hA [0, 1, 2, 3, 4, 5, 6, 7, 8, 9] (by decide +kernel) rfl
      have hKc := hK.sub (tys' := [((ck 24), .int), ((ck 29), .int), ((ck 31), .int), ((ck 32), .int), ((ck 41), .int), ((ck 42), .int), ((ck 43), .int), ((ck 55), .long), ((ck 56), .long)]) [0, 1, 2, 3, 4, 5, 6, 7, 8] rfl
      refine va_calll (va_runV (As := [.int a0, .long a1]) (rest := []) ⟨hx, hb, hml, hown, htw⟩ (gq_sumOf l dC dI mq (upd g 2 0) gl rf ck f_sky f_landHas f_first f_last f_knot f_part f_other f_names f_value a0 a1 H.size (gq_feast_s0 (y0 := a0) (y1 := g 13) (hp_2.resolve_left c_4) (hp_3.resolve_left c_4) hfe0 hfe4) (gq_feast_s1 (y0 := a0) (y1 := g 13) (hp_2.resolve_left c_4) (hp_3.resolve_left c_4) hfe0 hfe4) (hFA a0 (gq_feast_s2 (y0 := a0) (y1 := g 13) (hp_2.resolve_left c_4) (hp_3.resolve_left c_4) hfe0 hfe4).1 (gq_feast_s2 (y0 := a0) (y1 := g 13) (hp_2.resolve_left c_4) (hp_3.resolve_left c_4) hfe0 hfe4).2).1 (hFA a0 (gq_feast_s3 (y0 := a0) (y1 := g 13) (hp_2.resolve_left c_4) (hp_3.resolve_left c_4) hfe0 hfe4).1 (gq_feast_s3 (y0 := a0) (y1 := g 13) (hp_2.resolve_left c_4) (hp_3.resolve_left c_4) hfe0 hfe4).2).2.1 (hFA a0 (gq_feast_s4 (y0 := a0) (y1 := g 13) (hp_2.resolve_left c_4) (hp_3.resolve_left c_4) hfe0 hfe4).1 (gq_feast_s4 (y0 := a0) (y1 := g 13) (hp_2.resolve_left c_4) (hp_3.resolve_left c_4) hfe0 hfe4).2).2.2 hKA hln0 hln4 hLZ hs0 hs2 hs5 (gq_feast_s5 (y0 := a1) (xq_cnt hq_r_5 c_6).1 (xq_cnt hq_r_5 c_6).2) (gq_feast_s6 (y0 := a1) (xq_cnt hq_r_5 c_6).1 (xq_cnt hq_r_5 c_6).2)) (cwV 2 htw (xg_V (ck_40 _ (List.mem_of_getElem? (i := 22) rfl)) (ck_40 _ (List.mem_of_getElem? (i := 23) rfl)) (ck_41 _ (List.mem_of_getElem? (i := 0) rfl)) (ck_1 _ (List.mem_of_getElem? (i := 5) rfl)) (ck_41 _ (List.mem_of_getElem? (i := 1) rfl))) rfl rfl rfl (by exact ⟨rfl, hdc_14.1, hdc_14.2, hdd_41⟩) ⟨Nat.le_of_ble_eq_true rfl, Nat.le_of_ble_eq_true rfl⟩) ⟨fun a U g mk q => by obtain ⟨q0, q1, qP, qK, qD⟩ := q; exact ⟨q0, q1, qP, va_K.moved (u := U) (U := U.calling g mk a) (Vm.Alike.refl U.vm) qK, qD⟩, va_recv hKc hPc (ci := 12) (q0 := 0) rfl rfl, fun U hU hW => ⟨rfl, by rw [hU], by rw [hU]; exact hPc, va_K.moved hW.alike hKc, hDc.weaken (fun _ _ _ _ => trivial)⟩⟩ rfl rfl hl.1 rfl (lv_room (Nat.le_of_ble_eq_true rfl)) dX12_feast_27 ⟨Nat.le_of_ble_eq_true rfl, Nat.le_of_ble_eq_true rfl⟩) hS (fun q _ h => hFc q h) hFc (fun r_7 u_8 t H1 locs ht hvm hw hB hz1 hk1 hS => ?_)
      try dsimp only at hw
      obtain ⟨hP1, hK1, hD1⟩ := hB
      rw [ht] at hP1
      have hK1 := va_K.moved hvm.symm hK1
      have hK1 : va_K (dC, dI) vwCl [] s := hK1
      obtain ⟨hP, hD⟩ := va_join (wr := []) (w1 := [(mq, .inr (12, mF (upd (upd g 2 0) 57 u_8.2.2.1) (vp_updL (vp_updL gl 53 u_8.1) 54 u_8.2.1) rf)), (eA0 (rf 24) (ck 24) 14 f_sky), (eA0 (rf 29) (ck 29) 24 f_landHas), (eA0 (rf 31) (ck 31) 8 f_first), (eA0 (rf 32) (ck 32) 8 f_last), (eA0 (rf 41) (ck 41) 128 f_knot), (eA0 (rf 42) (ck 42) 128 f_part), (eA0 (rf 43) (ck 43) 128 f_other), (eA1 (rf 55) (ck 55) 6 u_8.2.2.2.1), (eA1 (rf 56) (ck 56) 64 u_8.2.2.2.2)]) hP hD [0, 1, 2, 3, 4, 5, 6, 7, 8, 9] [] hCc rfl (by decide +kernel) (by decide +kernel) hk1 hFc hP1 hD1
      generalize H1 = H at hP hS ⊢
      have hP : va_P (dC, dI) vwCl [(mq, .inr (12, mF (upd (upd g 2 0) 57 u_8.2.2.1) (vp_updL (vp_updL gl 53 u_8.1) 54 u_8.2.1) rf)), (eA0 (rf 24) (ck 24) 14 f_sky), (eA0 (rf 29) (ck 29) 24 f_landHas), (eA0 (rf 31) (ck 31) 8 f_first), (eA0 (rf 32) (ck 32) 8 f_last), (eA0 (rf 41) (ck 41) 128 f_knot), (eA0 (rf 42) (ck 42) 128 f_part), (eA0 (rf 43) (ck 43) 128 f_other), (eA1 (rf 55) (ck 55) 6 u_8.2.2.2.1), (eA1 (rf 56) (ck 56) 64 u_8.2.2.2.2)] H := hP
      have hD : va_D A [(mq, .inr (12, mF (upd (upd g 2 0) 57 u_8.2.2.1) (vp_updL (vp_updL gl 53 u_8.1) 54 u_8.2.1) rf)), (eA0 (rf 24) (ck 24) 14 f_sky), (eA0 (rf 29) (ck 29) 24 f_landHas), (eA0 (rf 31) (ck 31) 8 f_first), (eA0 (rf 32) (ck 32) 8 f_last), (eA0 (rf 41) (ck 41) 128 f_knot), (eA0 (rf 42) (ck 42) 128 f_part), (eA0 (rf 43) (ck 43) 128 f_other), (eA1 (rf 55) (ck 55) 6 u_8.2.2.2.1), (eA1 (rf 56) (ck 56) 64 u_8.2.2.2.2)] := hD
      refine W.widen (k := 0) (n := 0) (by omega) (by omega) ?_
      obtain ⟨X_14, hX_14⟩ : ∃ X9 : Int64 × (Int64) × (Int64) × (Int32) × (Nat → Int64) × (Nat → Int64), X9 = (fq_sumOf f_sky f_landHas f_first f_last f_knot f_part f_other f_names f_value a0 a1 (g 12) (gl 53) (gl 54)) := ⟨_, rfl⟩
      have hq_r_7 : r_7 = X_14.1 := by rw [hX_14]; exact hw.1
      have hq_u_8 : u_8 = X_14.2 := by rw [hX_14]; exact hw.2
      refine lv_lconst (v := 0) hx hb dX12_feast_30 (by decide) ?_
      refine W.lcmp hx hb dX12_feast_31 ?_
      refine lv_if_eq (tgt := 39) hx hb dX12_feast_32 (by decide) (fun c_15 => ?_) (fun c_15 => ?_)
      · refine lv_iconst (v := 0) hx hb dX12_feast_39 (by decide) ?_
        refine W.widen (k := 0) (n := 0) (by omega) (by omega) ?_
        have hP9 := hP
        have hD9 := hD
        have hK9 := hK.sub (tys' := []) [] rfl
        exact W.iret (v := 0) hx hb hr (fun t ht hW => ⟨⟨0, (0, u_8.1, u_8.2.1, u_8.2.2.1, u_8.2.2.2.1, u_8.2.2.2.2), rfl, ((fun e9 => ⟨by rw [e9], by rw [e9]⟩ : fq_feast f_sky f_landHas f_first f_last f_knot f_part f_other f_names f_value a0 a1 (g 12) (g 13) (gl 53) (gl 54) (g 57) = ((0 : Int32), (0 : Int32), u_8.1, u_8.2.1, u_8.2.2.1, u_8.2.2.2.1, u_8.2.2.2.2) → _) ((by rw [fq_feast]; (try rw [← hq_r_1]); (try rw [xL_eq]); (try rw [if_neg c_4]); (try rw [← hq_r_5]); (try rw [xL_eq]); (try rw [if_neg c_6]); (try rw [← hX_14]); (try rw [xL_eq]); (try rw [← hq_r_7]); (try rw [← hq_u_8]); (try rw [if_pos c_15]); try rfl))), by rw [ht]; exact hP9, va_K.moved hW.alike hK9, hD9⟩, hS.F ht⟩) hS.2.2 dX12_feast_40
      · refine lv_iconst (v := 1) hx hb dX12_feast_35 (by decide) ?_
        refine lv_goto (tgt := 40) hx hb dX12_feast_36 (by decide) ?_
        refine W.widen (k := 0) (n := 0) (by omega) (by omega) ?_
        have hP9 := hP
        have hD9 := hD
        have hK9 := hK.sub (tys' := []) [] rfl
        exact W.iret (v := 1) hx hb hr (fun t ht hW => ⟨⟨1, (0, u_8.1, u_8.2.1, u_8.2.2.1, u_8.2.2.2.1, u_8.2.2.2.2), rfl, ((fun e9 => ⟨by rw [e9], by rw [e9]⟩ : fq_feast f_sky f_landHas f_first f_last f_knot f_part f_other f_names f_value a0 a1 (g 12) (g 13) (gl 53) (gl 54) (g 57) = ((1 : Int32), (0 : Int32), u_8.1, u_8.2.1, u_8.2.2.1, u_8.2.2.2.1, u_8.2.2.2.2) → _) ((by rw [fq_feast]; (try rw [← hq_r_1]); (try rw [xL_eq]); (try rw [if_neg c_4]); (try rw [← hq_r_5]); (try rw [xL_eq]); (try rw [if_neg c_6]); (try rw [← hX_14]); (try rw [xL_eq]); (try rw [← hq_r_7]); (try rw [← hq_u_8]); (try rw [if_neg c_15]); try rfl))), by rw [ht]; exact hP9, va_K.moved hW.alike hK9, hD9⟩, hS.F ht⟩) hS.2.2 dX12_feast_40
    · refine lv_iconst (v := (-1)) hx hb dX12_feast_20 (by decide) ?_
      refine lv_goto (tgt := 40) hx hb dX12_feast_21 (by decide) ?_
      refine W.widen (k := 0) (n := 0) (by omega) (by omega) ?_
      obtain ⟨hP9, hD9⟩ := zsub2 (ws' := [(mq, .inr (12, mF (upd g 2 0) gl rf)), (eA0 (rf 24) (ck 24) 14 f_sky), (eA0 (rf 29) (ck 29) 24 f_landHas), (eA0 (rf 31) (ck 31) 8 f_first), (eA0 (rf 32) (ck 32) 8 f_last), (eA0 (rf 41) (ck 41) 128 f_knot), (eA0 (rf 42) (ck 42) 128 f_part), (eA0 (rf 43) (ck 43) 128 f_other), (eA1 (rf 55) (ck 55) 6 f_names), (eA1 (rf 56) (ck 56) 64 f_value)]) hP hD [0, 1, 2, 3, 4, 5, 6, 7, 8, 9] (by decide +kernel) rfl
      have hK9 := hK.sub (tys' := []) [] rfl
      exact W.iret (v := (-1)) hx hb hr (fun t ht hW => ⟨⟨(-1), (0, (gl 53), (gl 54), (g 57), f_names, f_value), rfl, ((fun e9 => ⟨by rw [e9], by rw [e9]⟩ : fq_feast f_sky f_landHas f_first f_last f_knot f_part f_other f_names f_value a0 a1 (g 12) (g 13) (gl 53) (gl 54) (g 57) = ((-1 : Int32), (0 : Int32), (gl 53), (gl 54), (g 57), f_names, f_value) → _) ((by rw [fq_feast]; (try rw [← hq_r_1]); (try rw [xL_eq]); (try rw [if_neg c_4]); (try rw [← hq_r_5]); (try rw [xL_eq]); (try rw [if_pos c_6]); try rfl))), by rw [ht]; exact hP9, va_K.moved hW.alike hK9, hD9⟩, hS.F ht⟩) hS.2.2 dX12_feast_40

def fq_festiveOf_d (f_sky : Nat → Int32) (f_landHas : Nat → Int32) (f_first : Nat → Int32) (f_last : Nat → Int32) (f_knot : Nat → Int32) (f_part : Nat → Int32) (f_other : Nat → Int32) (a0 : Int32) (a1 : Int64) (m_lands : Int32) : Nat → (Int64) → (Int64) → (Int64) → (Int32) → (Nat → Int64) → (Nat → Int64) → Int64 × (Int64) × (Int64) × (Int32) × (Nat → Int64) × (Nat → Int64)
  | 0, L4d, m_gotYear_d, m_gotDay_d, m_isError_d, f_names_d, f_value_d => ((-2 : Int64), m_gotYear_d, m_gotDay_d, m_isError_d, f_names_d, f_value_d)
  | n + 1, L4d, m_gotYear_d, m_gotDay_d, m_isError_d, f_names_d, f_value_d => (if 0 ≤ lg_cmp L4d (a1 + 20000) then ((-2 : Int64), m_gotYear_d, m_gotDay_d, m_isError_d, f_names_d, f_value_d) else (if 0 < lg_cmp L4d 1000000000000 then ((-2 : Int64), m_gotYear_d, m_gotDay_d, m_isError_d, f_names_d, f_value_d) else (xL ((fq_sumOf f_sky f_landHas f_first f_last f_knot f_part f_other f_names_d f_value_d a0 L4d m_lands m_gotYear_d m_gotDay_d)) (fun X_12 => (if lg_cmp X_12.1 0 = 0 then fq_festiveOf_d f_sky f_landHas f_first f_last f_knot f_part f_other a0 a1 m_lands n (L4d + 1) X_12.2.1 X_12.2.2.1 X_12.2.2.2.1 X_12.2.2.2.2.1 X_12.2.2.2.2.2 else (L4d, X_12.2.1, X_12.2.2.1, X_12.2.2.2.1, X_12.2.2.2.2.1, X_12.2.2.2.2.2))))))
def fq_festiveOf (f_sky : Nat → Int32) (f_landHas : Nat → Int32) (f_first : Nat → Int32) (f_last : Nat → Int32) (f_knot : Nat → Int32) (f_part : Nat → Int32) (f_other : Nat → Int32) (f_names : Nat → Int64) (f_value : Nat → Int64) (a0 : Int32) (a1 : Int64) (m_lands : Int32) (m_gotYear : Int64) (m_gotDay : Int64) (m_isError : Int32) : Int64 × (Int64) × (Int64) × (Int32) × (Nat → Int64) × (Nat → Int64) := fq_festiveOf_d f_sky f_landHas f_first f_last f_knot f_part f_other a0 a1 m_lands 20000 a1 m_gotYear m_gotDay m_isError f_names f_value
theorem gq_festiveOf_s0 {y0 : Int32} {y1 : Int32} (h0 : ¬ (y0 < 0)) (h1 : y0 < y1) (h2 : ¬ (y1 < 0)) (h3 : y1 ≤ 4) : y0 < 4 := by lia
theorem gq_festiveOf_s1 {y0 : Int32} {y1 : Int32} (h0 : ¬ (y0 < 0)) (h1 : y0 < y1) (h2 : ¬ (y1 < 0)) (h3 : y1 ≤ 4) : ¬ (y0 < 0) ∧ y0 < y1 := gq_date_s4 h0 h1 h2 h3
theorem gq_festiveOf_s2 {y0 : Int32} {y1 : Int32} (h0 : ¬ (y0 < 0)) (h1 : y0 < y1) (h2 : ¬ (y1 < 0)) (h3 : y1 ≤ 4) : ¬ (y0 < 0) ∧ y0 < y1 := gq_date_s4 h0 h1 h2 h3
theorem gq_festiveOf_s3 {y0 : Int32} {y1 : Int32} (h0 : ¬ (y0 < 0)) (h1 : y0 < y1) (h2 : ¬ (y1 < 0)) (h3 : y1 ≤ 4) : ¬ (y0 < 0) ∧ y0 < y1 := gq_date_s4 h0 h1 h2 h3
theorem gq_festiveOf_s4 {y0 : Int64} {y1 : Int64} (h0 : ¬ ((y1 + 20000) ≤ y0)) (h1 : ¬ (1000000000000 < y0)) (h2 : ¬ (y0 < 0)) (h3 : y0 ≤ 1000000000001) (h4 : ¬ (y1 < 0)) (h5 : y1 ≤ 1000000000001) : ¬ (y0 < 0) := h2
theorem gq_festiveOf_s5 {y0 : Int64} {y1 : Int64} (h0 : ¬ ((y1 + 20000) ≤ y0)) (h1 : ¬ (1000000000000 < y0)) (h2 : ¬ (y0 < 0)) (h3 : y0 ≤ 1000000000001) (h4 : ¬ (y1 < 0)) (h5 : y1 ≤ 1000000000001) : y0 ≤ 2000000000000 := by lia
theorem gq_festiveOf_s6 {y0 : Int64} {y1 : Int64} (h0 : ¬ ((y1 + 20000) ≤ y0)) (h1 : ¬ (1000000000000 < y0)) (h2 : ¬ (y0 < 0)) (h3 : y0 ≤ 1000000000001) (h4 : ¬ (y1 < 0)) (h5 : y1 ≤ 1000000000001) : ¬ ((y0 + 1) < 0) := by lia
theorem gq_festiveOf_s7 {y0 : Int64} {y1 : Int64} (h0 : ¬ ((y1 + 20000) ≤ y0)) (h1 : ¬ (1000000000000 < y0)) (h2 : ¬ (y0 < 0)) (h3 : y0 ≤ 1000000000001) (h4 : ¬ (y1 < 0)) (h5 : y1 ≤ 1000000000001) : (y0 + 1) ≤ 1000000000001 := by lia
theorem gq_festiveOf_s8 {y0 : Int64} (h0 : ¬ (y0 < 0)) (h1 : y0 ≤ 1000000000001) : ¬ (y0 < (-3000000000)) ∧ y0 ≤ 2000000000000 := by lia
theorem gq_festiveOf_s9 {y0 : Int64} (h0 : ¬ (y0 < 0)) (h1 : y0 ≤ 1000000000001) : ¬ (y0 < 0) := h0
theorem gq_festiveOf_s10 {y0 : Int64} (h0 : ¬ (y0 < 0)) (h1 : y0 ≤ 1000000000001) : y0 ≤ 1000000000001 := h1
theorem dX12_festiveOf_0 : decode cX12_festiveOf 0 = .ok (.lload_n 2, 1) := zk_32 (by decide +kernel)
theorem dX12_festiveOf_1 : decode cX12_festiveOf 1 = .ok (.lstore 4, 2) := zk_55 (by decide +kernel)
theorem dX12_festiveOf_3 : decode cX12_festiveOf 3 = .ok (.lload 4, 2) := zk_22 (by decide +kernel)
theorem dX12_festiveOf_5 : decode cX12_festiveOf 5 = .ok (.lload_n 2, 1) := zk_32 (by decide +kernel)
theorem dX12_festiveOf_6 : decode cX12_festiveOf 6 = .ok (.ldc2_w 454, 3) := zk_20 (by decide +kernel)
theorem dX12_festiveOf_9 : decode cX12_festiveOf 9 = .ok (.ladd, 1) := zk_97 (by decide +kernel)
theorem dX12_festiveOf_10 : decode cX12_festiveOf 10 = .ok (.lcmp, 1) := zk_148 (by decide +kernel)
theorem dX12_festiveOf_11 : decode cX12_festiveOf 11 = .ok (.ifCond .ge 36, 3) := zk_156 (by decide +kernel)
theorem dX12_festiveOf_47 : decode cX12_festiveOf 47 = .ok (.ldc2_w 456, 3) := zk_20 (by decide +kernel)
theorem dX12_festiveOf_50 : decode cX12_festiveOf 50 = .ok (.lreturn, 1) := zk_173 (by decide +kernel)
theorem dX12_festiveOf_14 : decode cX12_festiveOf 14 = .ok (.lload 4, 2) := zk_22 (by decide +kernel)
theorem dX12_festiveOf_16 : decode cX12_festiveOf 16 = .ok (.ldc2_w 125, 3) := zk_20 (by decide +kernel)
theorem dX12_festiveOf_19 : decode cX12_festiveOf 19 = .ok (.lcmp, 1) := zk_148 (by decide +kernel)
theorem dX12_festiveOf_20 : decode cX12_festiveOf 20 = .ok (.ifCond .gt 27, 3) := zk_157 (by decide +kernel)
theorem dX12_festiveOf_23 : decode cX12_festiveOf 23 = .ok (.aload_n 0, 1) := zk_42 (by decide +kernel)
theorem dX12_festiveOf_24 : decode cX12_festiveOf 24 = .ok (.iload_n 1, 1) := zk_27 (by decide +kernel)
theorem dX12_festiveOf_25 : decode cX12_festiveOf 25 = .ok (.lload 4, 2) := zk_22 (by decide +kernel)
theorem dX12_festiveOf_27 : decode cX12_festiveOf 27 = .ok (.invokevirtual 451, 3) := zk_182 (by decide +kernel)
theorem dX12_festiveOf_30 : decode cX12_festiveOf 30 = .ok (.lconst 0, 1) := zk_9 (by decide +kernel)
theorem dX12_festiveOf_31 : decode cX12_festiveOf 31 = .ok (.lcmp, 1) := zk_148 (by decide +kernel)
theorem dX12_festiveOf_32 : decode cX12_festiveOf 32 = .ok (.ifCond .eq 6, 3) := zk_153 (by decide +kernel)
theorem dX12_festiveOf_38 : decode cX12_festiveOf 38 = .ok (.lload 4, 2) := zk_22 (by decide +kernel)
theorem dX12_festiveOf_40 : decode cX12_festiveOf 40 = .ok (.lconst 1, 1) := zk_10 (by decide +kernel)
theorem dX12_festiveOf_41 : decode cX12_festiveOf 41 = .ok (.ladd, 1) := zk_97 (by decide +kernel)
theorem dX12_festiveOf_42 : decode cX12_festiveOf 42 = .ok (.lstore 4, 2) := zk_55 (by decide +kernel)
theorem dX12_festiveOf_44 : decode cX12_festiveOf 44 = .ok (.goto (-41), 3) := zk_167 (by decide +kernel)
theorem dX12_festiveOf_35 : decode cX12_festiveOf 35 = .ok (.lload 4, 2) := zk_22 (by decide +kernel)
theorem dX12_festiveOf_37 : decode cX12_festiveOf 37 = .ok (.lreturn, 1) := zk_173 (by decide +kernel)
set_option maxHeartbeats 4000000 in
set_option maxRecDepth 100000 in
theorem gq_festiveOf (l : Launch) (dC : Nat → ClassId) (dI : Nat → Nat → Nat) (mq : Nat) (g : Nat → Int32) (gl : Nat → Int64) (rf : Nat → Nat) (ck : Nat → ClassId) (f_sky : Nat → Int32) (f_landHas : Nat → Int32) (f_first : Nat → Int32) (f_last : Nat → Int32) (f_knot : Nat → Int32) (f_part : Nat → Int32) (f_other : Nat → Int32) (f_names : Nat → Int64) (f_value : Nat → Int64) (a0 : Int32) (a1 : Int64) (sz : Nat) (hf0 : ¬ a0 < 0) (hff : a0 < (g 13)) (hc0 : ¬ a1 < 0) (hc9 : a1 ≤ 1000000000001) (hfe0 : ¬ (g 13) < 0) (hfe4 : (g 13) ≤ 4) (hFA : ∀ k : Int32, ¬ k < 0 → k < (g 13) → ¬ (f_first k.toNatClampNeg) < 0 ∧ (f_last k.toNatClampNeg) ≤ 64 ∧ ¬ (f_last k.toNatClampNeg) < 1) (hKA : ∀ k : Nat, k < 64 → xKV f_knot f_part f_other k) (hln0 : ¬ (g 12) < 0) (hln4 : (g 12) ≤ 4) (hLZ : ∀ k : Int32, ¬ k < 0 → k < (g 12) → ¬ (f_landHas ((3 * k).toNatClampNeg)) = 0) (hs0 : ¬ (f_sky 0) < 1) (hs2 : ¬ (f_sky 2) < 1) (hs5 : ¬ (f_sky 5) < 1) : Met l yX12_festiveOf (Cond.code yX12_festiveOf cX12_festiveOf 6 (some .long) :: wsL_law) ({ frames := 3, cells := 0, slots := 0, locals := 81 }) (va_Pc [.ref mq, .int a0, .long a1] (fun U => U.heap.size = sz ∧ va_P (dC, dI) vwCl [(mq, .inr (12, mF g gl rf)), (eA0 (rf 24) (ck 24) 14 f_sky), (eA0 (rf 29) (ck 29) 24 f_landHas), (eA0 (rf 31) (ck 31) 8 f_first), (eA0 (rf 32) (ck 32) 8 f_last), (eA0 (rf 41) (ck 41) 128 f_knot), (eA0 (rf 42) (ck 42) 128 f_part), (eA0 (rf 43) (ck 43) 128 f_other), (eA1 (rf 55) (ck 55) 6 f_names), (eA1 (rf 56) (ck 56) 64 f_value)] U.heap ∧ va_K (dC, dI) vwCl [((ck 24), .int), ((ck 29), .int), ((ck 31), .int), ((ck 32), .int), ((ck 41), .int), ((ck 42), .int), ((ck 43), .int), ((ck 55), .long), ((ck 56), .long)] U ∧ va_D (fun _ => True) [(mq, .inr (12, mF g gl rf)), (eA0 (rf 24) (ck 24) 14 f_sky), (eA0 (rf 29) (ck 29) 24 f_landHas), (eA0 (rf 31) (ck 31) 8 f_first), (eA0 (rf 32) (ck 32) 8 f_last), (eA0 (rf 41) (ck 41) 128 f_knot), (eA0 (rf 42) (ck 42) 128 f_part), (eA0 (rf 43) (ck 43) 128 f_other), (eA1 (rf 55) (ck 55) 6 f_names), (eA1 (rf 56) (ck 56) 64 f_value)])) (va_Ql (fun (r : Int64) (u : (Int64) × (Int64) × (Int32) × (Nat → Int64) × (Nat → Int64)) => r = (fq_festiveOf f_sky f_landHas f_first f_last f_knot f_part f_other f_names f_value a0 a1 (g 12) (gl 53) (gl 54) (g 57)).1 ∧ u = (fq_festiveOf f_sky f_landHas f_first f_last f_knot f_part f_other f_names f_value a0 a1 (g 12) (gl 53) (gl 54) (g 57)).2) (fun (u : (Int64) × (Int64) × (Int32) × (Nat → Int64) × (Nat → Int64)) t => va_P (dC, dI) vwCl [(mq, .inr (12, mF (upd g 57 u.2.2.1) (vp_updL (vp_updL gl 53 u.1) 54 u.2.1) rf)), (eA0 (rf 24) (ck 24) 14 f_sky), (eA0 (rf 29) (ck 29) 24 f_landHas), (eA0 (rf 31) (ck 31) 8 f_first), (eA0 (rf 32) (ck 32) 8 f_last), (eA0 (rf 41) (ck 41) 128 f_knot), (eA0 (rf 42) (ck 42) 128 f_part), (eA0 (rf 43) (ck 43) 128 f_other), (eA1 (rf 55) (ck 55) 6 u.2.2.2.1), (eA1 (rf 56) (ck 56) 64 u.2.2.2.2)] t.heap ∧ va_K (dC, dI) vwCl [] t ∧ va_D (va_A [(mq, .inr (12, mF g gl rf)), (eA0 (rf 24) (ck 24) 14 f_sky), (eA0 (rf 29) (ck 29) 24 f_landHas), (eA0 (rf 31) (ck 31) 8 f_first), (eA0 (rf 32) (ck 32) 8 f_last), (eA0 (rf 41) (ck 41) 128 f_knot), (eA0 (rf 42) (ck 42) 128 f_part), (eA0 (rf 43) (ck 43) 128 f_other), (eA1 (rf 55) (ck 55) 6 f_names), (eA1 (rf 56) (ck 56) 64 f_value)] sz) [(mq, .inr (12, mF (upd g 57 u.2.2.1) (vp_updL (vp_updL gl 53 u.1) 54 u.2.1) rf)), (eA0 (rf 24) (ck 24) 14 f_sky), (eA0 (rf 29) (ck 29) 24 f_landHas), (eA0 (rf 31) (ck 31) 8 f_first), (eA0 (rf 32) (ck 32) 8 f_last), (eA0 (rf 41) (ck 41) 128 f_knot), (eA0 (rf 42) (ck 42) 128 f_part), (eA0 (rf 43) (ck 43) 128 f_other), (eA1 (rf 55) (ck 55) 6 u.2.2.2.1), (eA1 (rf 56) (ck 56) 64 u.2.2.2.2)]) (va_A [(mq, .inr (12, mF g gl rf)), (eA0 (rf 24) (ck 24) 14 f_sky), (eA0 (rf 29) (ck 29) 24 f_landHas), (eA0 (rf 31) (ck 31) 8 f_first), (eA0 (rf 32) (ck 32) 8 f_last), (eA0 (rf 41) (ck 41) 128 f_knot), (eA0 (rf 42) (ck 42) 128 f_part), (eA0 (rf 43) (ck 43) 128 f_other), (eA1 (rf 55) (ck 55) 6 f_names), (eA1 (rf 56) (ck 56) 64 f_value)] sz)) 0 0 (va_A [(mq, .inr (12, mF g gl rf)), (eA0 (rf 24) (ck 24) 14 f_sky), (eA0 (rf 29) (ck 29) 24 f_landHas), (eA0 (rf 31) (ck 31) 8 f_first), (eA0 (rf 32) (ck 32) 8 f_last), (eA0 (rf 41) (ck 41) 128 f_knot), (eA0 (rf 42) (ck 42) 128 f_part), (eA0 (rf 43) (ck 43) 128 f_other), (eA1 (rf 55) (ck 55) 6 f_names), (eA1 (rf 56) (ck 56) 64 f_value)] sz) := by
  refine Met.ofW (cc := cX12_festiveOf) (maxL := 6) (ret := (some .long)) (by decide) rfl ?_
  intro p e s m args below meth c s₁ B hml hv
  obtain ⟨rfl, hsz, hP, hK, hD0⟩ := hv
  have hx := B.exec
  have hb := B.bytes
  have hr := B.returns
  have hts := atoms_spec (ws := Cond.code yX12_festiveOf cX12_festiveOf 6 (some .long) :: wsL_law) B.pre
  have htw : ∀ w ∈ wsL_law, w.before _ s = true := fun w h => hts w (List.mem_cons_of_mem _ h)
  have hown : s.vm.findClass RX12 = some m.cls := findClass_of_methodNamed B.named
  have hlocks := B.notSynchronized
  subst hsz
  have hD := hD0.self (sz := s.heap.size)
  generalize hAe : va_A [(mq, .inr (12, mF g gl rf)), (eA0 (rf 24) (ck 24) 14 f_sky), (eA0 (rf 29) (ck 29) 24 f_landHas), (eA0 (rf 31) (ck 31) 8 f_first), (eA0 (rf 32) (ck 32) 8 f_last), (eA0 (rf 41) (ck 41) 128 f_knot), (eA0 (rf 42) (ck 42) 128 f_part), (eA0 (rf 43) (ck 43) 128 f_other), (eA1 (rf 55) (ck 55) 6 f_names), (eA1 (rf 56) (ck 56) 64 f_value)] s.heap.size = A at hD ⊢
  have hA : ∀ q : Nat, s.heap.size ≤ q → A q := fun q h => by rw [← hAe]; exact Or.inr h
  obtain ⟨H, rH⟩ : ∃ z : Heap, z = s.heap := ⟨_, rfl⟩
  have hS : va_S A s.heap H [] := by rw [rH]; exact va_S.rf
  have hP : va_P (dC, dI) vwCl [(mq, .inr (12, mF g gl rf)), (eA0 (rf 24) (ck 24) 14 f_sky), (eA0 (rf 29) (ck 29) 24 f_landHas), (eA0 (rf 31) (ck 31) 8 f_first), (eA0 (rf 32) (ck 32) 8 f_last), (eA0 (rf 41) (ck 41) 128 f_knot), (eA0 (rf 42) (ck 42) 128 f_part), (eA0 (rf 43) (ck 43) 128 f_other), (eA1 (rf 55) (ck 55) 6 f_names), (eA1 (rf 56) (ck 56) 64 f_value)] H := by rw [rH]; exact hP
  rw [← rH]
  have hl := lv_entry ([.ref mq, .int a0, .long a1]) (n := 6) (Nat.le_of_ble_eq_true rfl)
  rw [lg_entry_eq]
  generalize (lg_sl ([.ref mq, .int a0, .long a1]) ++ List.replicate (6 - (lg_sl ([.ref mq, .int a0, .long a1])).length) Slot.unset).toArray = ls at hl ⊢
  have hl : lv_has ls 6 [(0, .ref mq), (1, .int a0), (2, .long a1)] := hl
  refine lv_lload_n hx hb dX12_festiveOf_0 rfl (lv_at hl 2 rfl) ?_
  refine lv_lstore (lv' := [(4, .long a1), (0, .ref mq), (1, .int a0), (2, .long a1)]) hx hb dX12_festiveOf_1 hl (by decide) rfl (fun ls hl => ?_)
  have hloop_1 : ∀ (n : Nat) (L4d : Int64) (m_gotYear_d : Int64) (m_gotDay_d : Int64) (m_isError_d : Int32) (f_names_d : Nat → Int64) (f_value_d : Nat → Int64) (hf_d : (a1 + 20000).toInt ≤ L4d.toInt + (n : Int)) (h0_d : ¬ L4d < 0) (h9_d : L4d ≤ 1000000000001) (hI_d : fq_festiveOf f_sky f_landHas f_first f_last f_knot f_part f_other f_names f_value a0 a1 (g 12) (gl 53) (gl 54) (g 57) = fq_festiveOf_d f_sky f_landHas f_first f_last f_knot f_part f_other a0 a1 (g 12) n L4d m_gotYear_d m_gotDay_d m_isError_d f_names_d f_value_d) (H : Heap) (locs : List Loc) (ls : Array Slot) (hP : va_P (dC, dI) vwCl [(mq, .inr (12, mF (upd g 57 m_isError_d) (vp_updL (vp_updL gl 53 m_gotYear_d) 54 m_gotDay_d) rf)), (eA0 (rf 24) (ck 24) 14 f_sky), (eA0 (rf 29) (ck 29) 24 f_landHas), (eA0 (rf 31) (ck 31) 8 f_first), (eA0 (rf 32) (ck 32) 8 f_last), (eA0 (rf 41) (ck 41) 128 f_knot), (eA0 (rf 42) (ck 42) 128 f_part), (eA0 (rf 43) (ck 43) 128 f_other), (eA1 (rf 55) (ck 55) 6 f_names_d), (eA1 (rf 56) (ck 56) 64 f_value_d)] H) (hD : va_D A [(mq, .inr (12, mF (upd g 57 m_isError_d) (vp_updL (vp_updL gl 53 m_gotYear_d) 54 m_gotDay_d) rf)), (eA0 (rf 24) (ck 24) 14 f_sky), (eA0 (rf 29) (ck 29) 24 f_landHas), (eA0 (rf 31) (ck 31) 8 f_first), (eA0 (rf 32) (ck 32) 8 f_last), (eA0 (rf 41) (ck 41) 128 f_knot), (eA0 (rf 42) (ck 42) 128 f_part), (eA0 (rf 43) (ck 43) 128 f_other), (eA1 (rf 55) (ck 55) 6 f_names_d), (eA1 (rf 56) (ck 56) 64 f_value_d)]) (hS : va_S A s.heap H locs) (hl : lv_has ls 6 [(4, .long L4d), (0, .ref mq), (1, .int a0), (2, .long a1)]), W p l e (headSpec (Cond.code yX12_festiveOf cX12_festiveOf 6 (some .long) :: wsL_law) ({ frames := 3, cells := 0, slots := 0, locals := 81 })).room s m ([.ref mq, .int a0, .long a1] : List Value).toArray below meth c H locs 0 0 (MQ below (va_Ql (fun (r : Int64) (u : (Int64) × (Int64) × (Int32) × (Nat → Int64) × (Nat → Int64)) => r = (fq_festiveOf f_sky f_landHas f_first f_last f_knot f_part f_other f_names f_value a0 a1 (g 12) (gl 53) (gl 54) (g 57)).1 ∧ u = (fq_festiveOf f_sky f_landHas f_first f_last f_knot f_part f_other f_names f_value a0 a1 (g 12) (gl 53) (gl 54) (g 57)).2) (fun (u : (Int64) × (Int64) × (Int32) × (Nat → Int64) × (Nat → Int64)) t => va_P (dC, dI) vwCl [(mq, .inr (12, mF (upd g 57 u.2.2.1) (vp_updL (vp_updL gl 53 u.1) 54 u.2.1) rf)), (eA0 (rf 24) (ck 24) 14 f_sky), (eA0 (rf 29) (ck 29) 24 f_landHas), (eA0 (rf 31) (ck 31) 8 f_first), (eA0 (rf 32) (ck 32) 8 f_last), (eA0 (rf 41) (ck 41) 128 f_knot), (eA0 (rf 42) (ck 42) 128 f_part), (eA0 (rf 43) (ck 43) 128 f_other), (eA1 (rf 55) (ck 55) 6 u.2.2.2.1), (eA1 (rf 56) (ck 56) 64 u.2.2.2.2)] t.heap ∧ va_K (dC, dI) vwCl [] t ∧ va_D A [(mq, .inr (12, mF (upd g 57 u.2.2.1) (vp_updL (vp_updL gl 53 u.1) 54 u.2.1) rf)), (eA0 (rf 24) (ck 24) 14 f_sky), (eA0 (rf 29) (ck 29) 24 f_landHas), (eA0 (rf 31) (ck 31) 8 f_first), (eA0 (rf 32) (ck 32) 8 f_last), (eA0 (rf 41) (ck 41) 128 f_knot), (eA0 (rf 42) (ck 42) 128 f_part), (eA0 (rf 43) (ck 43) 128 f_other), (eA1 (rf 55) (ck 55) 6 u.2.2.2.1), (eA1 (rf 56) (ck 56) 64 u.2.2.2.2)]) A) ([.ref mq, .int a0, .long a1] : List Value).toArray s 0 0 A) (F0 m 3 ls []) := by
    intro n
    induction n with
    | zero =>
      intro L4d m_gotYear_d m_gotDay_d m_isError_d f_names_d f_value_d hf_d h0_d h9_d hI_d H locs ls hP hD hS hl
      refine lv_lload hx hb dX12_festiveOf_3 (lv_at hl 0 rfl) ?_
      refine lv_lload_n hx hb dX12_festiveOf_5 rfl (lv_at hl 3 rfl) ?_
      refine lv_ldc2 (v := 20000) hx hb hown (htw _ (ck_43 _ (List.mem_of_getElem? (i := 21) rfl))) dX12_festiveOf_6 ?_
      refine lv_ladd hx hb dX12_festiveOf_9 ?_
      refine W.lcmp hx hb dX12_festiveOf_10 ?_
      refine lv_if_ge (tgt := 47) hx hb dX12_festiveOf_11 (by decide) (fun c_2 => ?_) (fun c_2 => absurd c_2 (fun h => h ((lg_cmp_ge _ _).mpr (xj_z hf_d))))
      refine lv_ldc2 (v := (-2)) hx hb hown (htw _ (ck_43 _ (List.mem_of_getElem? (i := 22) rfl))) dX12_festiveOf_47 ?_
      refine W.widen (k := 0) (n := 0) (by omega) (by omega) ?_
      obtain ⟨hP9, hD9⟩ := zsub2 (ws' := [(mq, .inr (12, mF (upd g 57 m_isError_d) (vp_updL (vp_updL gl 53 m_gotYear_d) 54 m_gotDay_d) rf)), (eA0 (rf 24) (ck 24) 14 f_sky), (eA0 (rf 29) (ck 29) 24 f_landHas), (eA0 (rf 31) (ck 31) 8 f_first), (eA0 (rf 32) (ck 32) 8 f_last), (eA0 (rf 41) (ck 41) 128 f_knot), (eA0 (rf 42) (ck 42) 128 f_part), (eA0 (rf 43) (ck 43) 128 f_other), (eA1 (rf 55) (ck 55) 6 f_names_d), (eA1 (rf 56) (ck 56) 64 f_value_d)]) hP hD [0, 1, 2, 3, 4, 5, 6, 7, 8, 9] (by decide +kernel) rfl
      have hK9 := hK.sub (tys' := []) [] rfl
      exact W.lret (v := (-2)) hx hb hr (fun t ht hW => ⟨⟨(-2), (m_gotYear_d, m_gotDay_d, m_isError_d, f_names_d, f_value_d), rfl, ((fun e9 => ⟨by rw [e9], by rw [e9]⟩ : fq_festiveOf f_sky f_landHas f_first f_last f_knot f_part f_other f_names f_value a0 a1 (g 12) (gl 53) (gl 54) (g 57) = ((-2 : Int64), m_gotYear_d, m_gotDay_d, m_isError_d, f_names_d, f_value_d) → _) (hI_d.trans (by rw [fq_festiveOf_d]; try rfl))), by rw [ht]; exact hP9, va_K.moved hW.alike hK9, hD9⟩, hS.F ht⟩) hS.2.2 dX12_festiveOf_50
    | succ n ih =>
      intro L4d m_gotYear_d m_gotDay_d m_isError_d f_names_d f_value_d hf_d h0_d h9_d hI_d H locs ls hP hD hS hl
      refine lv_lload hx hb dX12_festiveOf_3 (lv_at hl 0 rfl) ?_
      refine lv_lload_n hx hb dX12_festiveOf_5 rfl (lv_at hl 3 rfl) ?_
      refine lv_ldc2 (v := 20000) hx hb hown (htw _ (ck_43 _ (List.mem_of_getElem? (i := 21) rfl))) dX12_festiveOf_6 ?_
      refine lv_ladd hx hb dX12_festiveOf_9 ?_
      refine W.lcmp hx hb dX12_festiveOf_10 ?_
      refine lv_if_ge (tgt := 47) hx hb dX12_festiveOf_11 (by decide) (fun c_3 => ?_) (fun c_3 => ?_)
      · refine lv_ldc2 (v := (-2)) hx hb hown (htw _ (ck_43 _ (List.mem_of_getElem? (i := 22) rfl))) dX12_festiveOf_47 ?_
        refine W.widen (k := 0) (n := 0) (by omega) (by omega) ?_
        obtain ⟨hP9, hD9⟩ := zsub2 (ws' := [(mq, .inr (12, mF (upd g 57 m_isError_d) (vp_updL (vp_updL gl 53 m_gotYear_d) 54 m_gotDay_d) rf)), (eA0 (rf 24) (ck 24) 14 f_sky), (eA0 (rf 29) (ck 29) 24 f_landHas), (eA0 (rf 31) (ck 31) 8 f_first), (eA0 (rf 32) (ck 32) 8 f_last), (eA0 (rf 41) (ck 41) 128 f_knot), (eA0 (rf 42) (ck 42) 128 f_part), (eA0 (rf 43) (ck 43) 128 f_other), (eA1 (rf 55) (ck 55) 6 f_names_d), (eA1 (rf 56) (ck 56) 64 f_value_d)]) hP hD [0, 1, 2, 3, 4, 5, 6, 7, 8, 9] (by decide +kernel) rfl
        have hK9 := hK.sub (tys' := []) [] rfl
        exact W.lret (v := (-2)) hx hb hr (fun t ht hW => ⟨⟨(-2), (m_gotYear_d, m_gotDay_d, m_isError_d, f_names_d, f_value_d), rfl, ((fun e9 => ⟨by rw [e9], by rw [e9]⟩ : fq_festiveOf f_sky f_landHas f_first f_last f_knot f_part f_other f_names f_value a0 a1 (g 12) (gl 53) (gl 54) (g 57) = ((-2 : Int64), m_gotYear_d, m_gotDay_d, m_isError_d, f_names_d, f_value_d) → _) (hI_d.trans (by rw [fq_festiveOf_d]; (try rw [if_pos c_3]); try rfl))), by rw [ht]; exact hP9, va_K.moved hW.alike hK9, hD9⟩, hS.F ht⟩) hS.2.2 dX12_festiveOf_50
      · refine lv_lload hx hb dX12_festiveOf_14 (lv_at hl 0 rfl) ?_
        refine lv_ldc2 (v := 1000000000000) hx hb hown (htw _ (ck_29 _ (List.mem_of_getElem? (i := 22) rfl))) dX12_festiveOf_16 ?_
        refine W.lcmp hx hb dX12_festiveOf_19 ?_
        refine lv_if_gt (tgt := 47) hx hb dX12_festiveOf_20 (by decide) (fun c_4 => ?_) (fun c_4 => ?_)
        · refine lv_ldc2 (v := (-2)) hx hb hown (htw _ (ck_43 _ (List.mem_of_getElem? (i := 22) rfl))) dX12_festiveOf_47 ?_
          refine W.widen (k := 0) (n := 0) (by omega) (by omega) ?_
          obtain ⟨hP9, hD9⟩ := zsub2 (ws' := [(mq, .inr (12, mF (upd g 57 m_isError_d) (vp_updL (vp_updL gl 53 m_gotYear_d) 54 m_gotDay_d) rf)), (eA0 (rf 24) (ck 24) 14 f_sky), (eA0 (rf 29) (ck 29) 24 f_landHas), (eA0 (rf 31) (ck 31) 8 f_first), (eA0 (rf 32) (ck 32) 8 f_last), (eA0 (rf 41) (ck 41) 128 f_knot), (eA0 (rf 42) (ck 42) 128 f_part), (eA0 (rf 43) (ck 43) 128 f_other), (eA1 (rf 55) (ck 55) 6 f_names_d), (eA1 (rf 56) (ck 56) 64 f_value_d)]) hP hD [0, 1, 2, 3, 4, 5, 6, 7, 8, 9] (by decide +kernel) rfl
          have hK9 := hK.sub (tys' := []) [] rfl
          exact W.lret (v := (-2)) hx hb hr (fun t ht hW => ⟨⟨(-2), (m_gotYear_d, m_gotDay_d, m_isError_d, f_names_d, f_value_d), rfl, ((fun e9 => ⟨by rw [e9], by rw [e9]⟩ : fq_festiveOf f_sky f_landHas f_first f_last f_knot f_part f_other f_names f_value a0 a1 (g 12) (gl 53) (gl 54) (g 57) = ((-2 : Int64), m_gotYear_d, m_gotDay_d, m_isError_d, f_names_d, f_value_d) → _) (hI_d.trans (by rw [fq_festiveOf_d]; (try rw [if_neg c_3]); (try rw [if_pos c_4]); try rfl))), by rw [ht]; exact hP9, va_K.moved hW.alike hK9, hD9⟩, hS.F ht⟩) hS.2.2 dX12_festiveOf_50
        · refine lv_aload_n hx hb dX12_festiveOf_23 rfl (lv_at hl 1 rfl) ?_
          refine lv_iload_n hx hb dX12_festiveOf_24 rfl (lv_at hl 2 rfl) ?_
          refine lv_lload hx hb dX12_festiveOf_25 (lv_at hl 0 rfl) ?_
          obtain ⟨hPc, hDc, hFc, hCc⟩ := zsub3 (ws' := [(mq, .inr (12, mF (upd g 57 m_isError_d) (vp_updL (vp_updL gl 53 m_gotYear_d) 54 m_gotDay_d) rf)), (eA0 (rf 24) (ck 24) 14 f_sky), (eA0 (rf 29) (ck 29) 24 f_landHas), (eA0 (rf 31) (ck 31) 8 f_first), (eA0 (rf 32) (ck 32) 8 f_last), (eA0 (rf 41) (ck 41) 128 f_knot), (eA0 (rf 42) (ck 42) 128 f_part), (eA0 (rf 43) (ck 43) 128 f_other), (eA1 (rf 55) (ck 55) 6 f_names_d), (eA1 (rf 56) (ck 56) 64 f_value_d)]) hP hD hS hA [0, 1, 2, 3, 4, 5, 6, 7, 8, 9] (by decide +kernel) rfl
          have hKc := hK.sub (tys' := [((ck 24), .int), ((ck 29), .int), ((ck 31), .int), ((ck 32), .int), ((ck 41), .int), ((ck 42), .int), ((ck 43), .int), ((ck 55), .long), ((ck 56), .long)]) [0, 1, 2, 3, 4, 5, 6, 7, 8] rfl
          refine va_calll (va_runV (As := [.int a0, .long L4d]) (rest := []) ⟨hx, hb, hml, hown, htw⟩ (gq_sumOf l dC dI mq (upd g 57 m_isError_d) (vp_updL (vp_updL gl 53 m_gotYear_d) 54 m_gotDay_d) rf ck f_sky f_landHas f_first f_last f_knot f_part f_other f_names_d f_value_d a0 L4d H.size hf0 (gq_festiveOf_s0 (y0 := a0) (y1 := g 13) hf0 hff hfe0 hfe4) (hFA a0 (gq_festiveOf_s1 (y0 := a0) (y1 := g 13) hf0 hff hfe0 hfe4).1 (gq_festiveOf_s1 (y0 := a0) (y1 := g 13) hf0 hff hfe0 hfe4).2).1 (hFA a0 (gq_festiveOf_s2 (y0 := a0) (y1 := g 13) hf0 hff hfe0 hfe4).1 (gq_festiveOf_s2 (y0 := a0) (y1 := g 13) hf0 hff hfe0 hfe4).2).2.1 (hFA a0 (gq_festiveOf_s3 (y0 := a0) (y1 := g 13) hf0 hff hfe0 hfe4).1 (gq_festiveOf_s3 (y0 := a0) (y1 := g 13) hf0 hff hfe0 hfe4).2).2.2 hKA hln0 hln4 hLZ hs0 hs2 hs5 (gq_festiveOf_s4 (y0 := L4d) (y1 := a1) (fun q9 => c_3 ((lg_cmp_ge _ _).mpr q9)) (fun q9 => c_4 ((lg_cmp_gt _ _).mpr q9)) h0_d h9_d hc0 hc9) (gq_festiveOf_s5 (y0 := L4d) (y1 := a1) (fun q9 => c_3 ((lg_cmp_ge _ _).mpr q9)) (fun q9 => c_4 ((lg_cmp_gt _ _).mpr q9)) h0_d h9_d hc0 hc9)) (cwV 2 htw (xg_V (ck_40 _ (List.mem_of_getElem? (i := 22) rfl)) (ck_40 _ (List.mem_of_getElem? (i := 23) rfl)) (ck_41 _ (List.mem_of_getElem? (i := 0) rfl)) (ck_1 _ (List.mem_of_getElem? (i := 5) rfl)) (ck_41 _ (List.mem_of_getElem? (i := 1) rfl))) rfl rfl rfl (by exact ⟨rfl, hdc_14.1, hdc_14.2, hdd_41⟩) ⟨Nat.le_of_ble_eq_true rfl, Nat.le_of_ble_eq_true rfl⟩) ⟨fun a U g mk q => by obtain ⟨q0, q1, qP, qK, qD⟩ := q; exact ⟨q0, q1, qP, va_K.moved (u := U) (U := U.calling g mk a) (Vm.Alike.refl U.vm) qK, qD⟩, va_recv hKc hPc (ci := 12) (q0 := 0) rfl rfl, fun U hU hW => ⟨rfl, by rw [hU], by rw [hU]; exact hPc, va_K.moved hW.alike hKc, hDc.weaken (fun _ _ _ _ => trivial)⟩⟩ rfl rfl hl.1 rfl (lv_room (Nat.le_of_ble_eq_true rfl)) dX12_festiveOf_27 ⟨Nat.le_of_ble_eq_true rfl, Nat.le_of_ble_eq_true rfl⟩) hS (fun q _ h => hFc q h) hFc (fun r_5 u_6 t H1 locs ht hvm hw hB hz1 hk1 hS => ?_)
          try dsimp only at hw
          obtain ⟨hP1, hK1, hD1⟩ := hB
          rw [ht] at hP1
          have hK1 := va_K.moved hvm.symm hK1
          have hK1 : va_K (dC, dI) vwCl [] s := hK1
          obtain ⟨hP, hD⟩ := va_join (wr := []) (w1 := [(mq, .inr (12, mF (upd g 57 u_6.2.2.1) (vp_updL (vp_updL gl 53 u_6.1) 54 u_6.2.1) rf)), (eA0 (rf 24) (ck 24) 14 f_sky), (eA0 (rf 29) (ck 29) 24 f_landHas), (eA0 (rf 31) (ck 31) 8 f_first), (eA0 (rf 32) (ck 32) 8 f_last), (eA0 (rf 41) (ck 41) 128 f_knot), (eA0 (rf 42) (ck 42) 128 f_part), (eA0 (rf 43) (ck 43) 128 f_other), (eA1 (rf 55) (ck 55) 6 u_6.2.2.2.1), (eA1 (rf 56) (ck 56) 64 u_6.2.2.2.2)]) hP hD [0, 1, 2, 3, 4, 5, 6, 7, 8, 9] [] hCc rfl (by decide +kernel) (by decide +kernel) hk1 hFc hP1 hD1
          generalize H1 = H at hP hS ⊢
          obtain ⟨hP, hD⟩ := zre [(mq, .inr (12, mF (upd g 57 u_6.2.2.1) (vp_updL (vp_updL gl 53 u_6.1) 54 u_6.2.1) rf)), (eA0 (rf 24) (ck 24) 14 f_sky), (eA0 (rf 29) (ck 29) 24 f_landHas), (eA0 (rf 31) (ck 31) 8 f_first), (eA0 (rf 32) (ck 32) 8 f_last), (eA0 (rf 41) (ck 41) 128 f_knot), (eA0 (rf 42) (ck 42) 128 f_part), (eA0 (rf 43) (ck 43) 128 f_other), (eA1 (rf 55) (ck 55) 6 u_6.2.2.2.1), (eA1 (rf 56) (ck 56) 64 u_6.2.2.2.2)] hP hD rfl
          refine W.widen (k := 0) (n := 0) (by omega) (by omega) ?_
          obtain ⟨X_12, hX_12⟩ : ∃ X9 : Int64 × (Int64) × (Int64) × (Int32) × (Nat → Int64) × (Nat → Int64), X9 = (fq_sumOf f_sky f_landHas f_first f_last f_knot f_part f_other f_names_d f_value_d a0 L4d (g 12) m_gotYear_d m_gotDay_d) := ⟨_, rfl⟩
          have hq_r_5 : r_5 = X_12.1 := by rw [hX_12]; exact hw.1
          have hq_u_6 : u_6 = X_12.2 := by rw [hX_12]; exact hw.2
          refine lv_lconst (v := 0) hx hb dX12_festiveOf_30 (by decide) ?_
          refine W.lcmp hx hb dX12_festiveOf_31 ?_
          refine lv_if_eq (tgt := 38) hx hb dX12_festiveOf_32 (by decide) (fun c_13 => ?_) (fun c_13 => ?_)
          · refine lv_lload hx hb dX12_festiveOf_38 (lv_at hl 0 rfl) ?_
            refine lv_lconst (v := 1) hx hb dX12_festiveOf_40 (by decide) ?_
            refine lv_ladd hx hb dX12_festiveOf_41 ?_
            refine lv_lstore (lv' := [(4, .long (L4d + 1)), (0, .ref mq), (1, .int a0), (2, .long a1)]) hx hb dX12_festiveOf_42 hl (by decide) rfl (fun ls hl => ?_)
            refine lv_goto (tgt := 3) hx hb dX12_festiveOf_44 (by decide) ?_
            exact ih (L4d + 1) u_6.1 u_6.2.1 u_6.2.2.1 u_6.2.2.2.1 u_6.2.2.2.2 (by rw [xj_s (Int64.not_le.mp (fun q => c_3 ((lg_cmp_ge _ _).mpr q)))]; omega) (gq_festiveOf_s6 (y0 := L4d) (y1 := a1) (fun q9 => c_3 ((lg_cmp_ge _ _).mpr q9)) (fun q9 => c_4 ((lg_cmp_gt _ _).mpr q9)) h0_d h9_d hc0 hc9) (gq_festiveOf_s7 (y0 := L4d) (y1 := a1) (fun q9 => c_3 ((lg_cmp_ge _ _).mpr q9)) (fun q9 => c_4 ((lg_cmp_gt _ _).mpr q9)) h0_d h9_d hc0 hc9) (hI_d.trans (by rw [fq_festiveOf_d]; (try rw [if_neg c_3]); (try rw [if_neg c_4]); (try rw [← hX_12]); (try rw [xL_eq]); (try rw [← hq_r_5]); (try rw [← hq_u_6]); (try rw [if_pos c_13]); try rfl)) H locs ls hP hD hS (lv_sub hl [0, 1, 2, 3] rfl)
          · refine lv_lload hx hb dX12_festiveOf_35 (lv_at hl 0 rfl) ?_
            refine W.widen (k := 0) (n := 0) (by omega) (by omega) ?_
            have hP9 := hP
            have hD9 := hD
            have hK9 := hK.sub (tys' := []) [] rfl
            exact W.lret (v := L4d) hx hb hr (fun t ht hW => ⟨⟨L4d, (u_6.1, u_6.2.1, u_6.2.2.1, u_6.2.2.2.1, u_6.2.2.2.2), rfl, ((fun e9 => ⟨by rw [e9], by rw [e9]⟩ : fq_festiveOf f_sky f_landHas f_first f_last f_knot f_part f_other f_names f_value a0 a1 (g 12) (gl 53) (gl 54) (g 57) = (L4d, u_6.1, u_6.2.1, u_6.2.2.1, u_6.2.2.2.1, u_6.2.2.2.2) → _) (hI_d.trans (by rw [fq_festiveOf_d]; (try rw [if_neg c_3]); (try rw [if_neg c_4]); (try rw [← hX_12]); (try rw [xL_eq]); (try rw [← hq_r_5]); (try rw [← hq_u_6]); (try rw [if_neg c_13]); try rfl))), by rw [ht]; exact hP9, va_K.moved hW.alike hK9, hD9⟩, hS.F ht⟩) hS.2.2 dX12_festiveOf_37
  exact hloop_1 20000 a1 (gl 53) (gl 54) (g 57) f_names f_value (by rw [xj_add (gq_festiveOf_s8 (y0 := a1) hc0 hc9).1 (gq_festiveOf_s8 (y0 := a1) hc0 hc9).2 (by decide) (by decide)]; have e9 : (20000 : Int64).toInt = 20000 := rfl; omega) (gq_festiveOf_s9 (y0 := a1) hc0 hc9) (gq_festiveOf_s10 (y0 := a1) hc0 hc9) ((by rw [fq_festiveOf])) _ _ ls hP hD hS (lv_sub hl [0, 1, 2, 3] rfl)

def fq_festive (f_sky : Nat → Int32) (f_landHas : Nat → Int32) (f_first : Nat → Int32) (f_last : Nat → Int32) (f_knot : Nat → Int32) (f_part : Nat → Int32) (f_other : Nat → Int32) (f_names : Nat → Int64) (f_value : Nat → Int64) (a0 : Int32) (a1 : Int64) (m_lands : Int32) (m_feasts : Int32) (m_gotYear : Int64) (m_gotDay : Int64) (m_isError : Int32) : Int64 × (Int32) × (Int64) × (Int64) × (Int32) × (Nat → Int64) × (Nat → Int64) := (xL ((fq_isFeast a0 m_feasts)) (fun r_1 => (if r_1 = 0 then ((-1 : Int64), (0 : Int32), m_gotYear, m_gotDay, m_isError, f_names, f_value) else (xL ((fq_isCount a1)) (fun r_5 => (if r_5 = 0 then ((-1 : Int64), (0 : Int32), m_gotYear, m_gotDay, m_isError, f_names, f_value) else (xL ((fq_festiveOf f_sky f_landHas f_first f_last f_knot f_part f_other f_names f_value a0 a1 m_lands m_gotYear m_gotDay m_isError)) (fun X_14 => (X_14.1, (0 : Int32), X_14.2.1, X_14.2.2.1, X_14.2.2.2.1, X_14.2.2.2.2.1, X_14.2.2.2.2.2)))))))))
theorem gq_festive_s0 {y0 : Int32} {y1 : Int32} (h0 : ¬ (y0 < 0)) (h1 : y0 < y1) (h2 : ¬ (y1 < 0)) (h3 : y1 ≤ 4) : ¬ (y0 < 0) := h0
theorem gq_festive_s1 {y0 : Int32} {y1 : Int32} (h0 : ¬ (y0 < 0)) (h1 : y0 < y1) (h2 : ¬ (y1 < 0)) (h3 : y1 ≤ 4) : y0 < y1 := h1
theorem gq_festive_s2 {y0 : Int64} (h0 : ¬ (y0 < 0)) (h1 : y0 ≤ 1000000000000) : ¬ (y0 < 0) := h0
theorem gq_festive_s3 {y0 : Int64} (h0 : ¬ (y0 < 0)) (h1 : y0 ≤ 1000000000000) : y0 ≤ 1000000000001 := by lia
theorem dX12_festive_0 : decode cX12_festive 0 = .ok (.aload_n 0, 1) := zk_42 (by decide +kernel)
theorem dX12_festive_1 : decode cX12_festive 1 = .ok (.iconst 0, 1) := zk_3 (by decide +kernel)
theorem dX12_festive_2 : decode cX12_festive 2 = .ok (.putfield 119, 3) := zk_181 (by decide +kernel)
theorem dX12_festive_5 : decode cX12_festive 5 = .ok (.aload_n 0, 1) := zk_42 (by decide +kernel)
theorem dX12_festive_6 : decode cX12_festive 6 = .ok (.iload_n 1, 1) := zk_27 (by decide +kernel)
theorem dX12_festive_7 : decode cX12_festive 7 = .ok (.invokevirtual 448, 3) := zk_182 (by decide +kernel)
theorem dX12_festive_10 : decode cX12_festive 10 = .ok (.ifCond .eq 19, 3) := zk_153 (by decide +kernel)
theorem dX12_festive_29 : decode cX12_festive 29 = .ok (.ldc2_w 273, 3) := zk_20 (by decide +kernel)
theorem dX12_festive_32 : decode cX12_festive 32 = .ok (.lreturn, 1) := zk_173 (by decide +kernel)
theorem dX12_festive_13 : decode cX12_festive 13 = .ok (.lload_n 2, 1) := zk_32 (by decide +kernel)
theorem dX12_festive_14 : decode cX12_festive 14 = .ok (.invokestatic 413, 3) := zk_184 (by decide +kernel)
theorem dX12_festive_17 : decode cX12_festive 17 = .ok (.ifCond .eq 12, 3) := zk_153 (by decide +kernel)
theorem dX12_festive_20 : decode cX12_festive 20 = .ok (.aload_n 0, 1) := zk_42 (by decide +kernel)
theorem dX12_festive_21 : decode cX12_festive 21 = .ok (.iload_n 1, 1) := zk_27 (by decide +kernel)
theorem dX12_festive_22 : decode cX12_festive 22 = .ok (.lload_n 2, 1) := zk_32 (by decide +kernel)
theorem dX12_festive_23 : decode cX12_festive 23 = .ok (.invokevirtual 458, 3) := zk_182 (by decide +kernel)
theorem dX12_festive_26 : decode cX12_festive 26 = .ok (.goto 6, 3) := zk_167 (by decide +kernel)
set_option maxHeartbeats 4000000 in
set_option maxRecDepth 100000 in
theorem gq_festive (l : Launch) (dC : Nat → ClassId) (dI : Nat → Nat → Nat) (mq : Nat) (g : Nat → Int32) (gl : Nat → Int64) (rf : Nat → Nat) (ck : Nat → ClassId) (f_sky : Nat → Int32) (f_landHas : Nat → Int32) (f_first : Nat → Int32) (f_last : Nat → Int32) (f_knot : Nat → Int32) (f_part : Nat → Int32) (f_other : Nat → Int32) (f_names : Nat → Int64) (f_value : Nat → Int64) (a0 : Int32) (a1 : Int64) (sz : Nat) (hfe0 : ¬ (g 13) < 0) (hfe4 : (g 13) ≤ 4) (hFA : ∀ k : Int32, ¬ k < 0 → k < (g 13) → ¬ (f_first k.toNatClampNeg) < 0 ∧ (f_last k.toNatClampNeg) ≤ 64 ∧ ¬ (f_last k.toNatClampNeg) < 1) (hKA : ∀ k : Nat, k < 64 → xKV f_knot f_part f_other k) (hln0 : ¬ (g 12) < 0) (hln4 : (g 12) ≤ 4) (hLZ : ∀ k : Int32, ¬ k < 0 → k < (g 12) → ¬ (f_landHas ((3 * k).toNatClampNeg)) = 0) (hs0 : ¬ (f_sky 0) < 1) (hs2 : ¬ (f_sky 2) < 1) (hs5 : ¬ (f_sky 5) < 1) : Met l yX12_festive (Cond.code yX12_festive cX12_festive 4 (some .long) :: wsL_law) ({ frames := 4, cells := 0, slots := 0, locals := 106 }) (va_Pc [.ref mq, .int a0, .long a1] (fun U => U.heap.size = sz ∧ va_P (dC, dI) vwCl [(mq, .inr (12, mF g gl rf)), (eA0 (rf 24) (ck 24) 14 f_sky), (eA0 (rf 29) (ck 29) 24 f_landHas), (eA0 (rf 31) (ck 31) 8 f_first), (eA0 (rf 32) (ck 32) 8 f_last), (eA0 (rf 41) (ck 41) 128 f_knot), (eA0 (rf 42) (ck 42) 128 f_part), (eA0 (rf 43) (ck 43) 128 f_other), (eA1 (rf 55) (ck 55) 6 f_names), (eA1 (rf 56) (ck 56) 64 f_value)] U.heap ∧ va_K (dC, dI) vwCl [((ck 24), .int), ((ck 29), .int), ((ck 31), .int), ((ck 32), .int), ((ck 41), .int), ((ck 42), .int), ((ck 43), .int), ((ck 55), .long), ((ck 56), .long)] U ∧ va_D (fun _ => True) [(mq, .inr (12, mF g gl rf)), (eA0 (rf 24) (ck 24) 14 f_sky), (eA0 (rf 29) (ck 29) 24 f_landHas), (eA0 (rf 31) (ck 31) 8 f_first), (eA0 (rf 32) (ck 32) 8 f_last), (eA0 (rf 41) (ck 41) 128 f_knot), (eA0 (rf 42) (ck 42) 128 f_part), (eA0 (rf 43) (ck 43) 128 f_other), (eA1 (rf 55) (ck 55) 6 f_names), (eA1 (rf 56) (ck 56) 64 f_value)])) (va_Ql (fun (r : Int64) (u : (Int32) × (Int64) × (Int64) × (Int32) × (Nat → Int64) × (Nat → Int64)) => r = (fq_festive f_sky f_landHas f_first f_last f_knot f_part f_other f_names f_value a0 a1 (g 12) (g 13) (gl 53) (gl 54) (g 57)).1 ∧ u = (fq_festive f_sky f_landHas f_first f_last f_knot f_part f_other f_names f_value a0 a1 (g 12) (g 13) (gl 53) (gl 54) (g 57)).2) (fun (u : (Int32) × (Int64) × (Int64) × (Int32) × (Nat → Int64) × (Nat → Int64)) t => va_P (dC, dI) vwCl [(mq, .inr (12, mF (upd (upd g 2 u.1) 57 u.2.2.2.1) (vp_updL (vp_updL gl 53 u.2.1) 54 u.2.2.1) rf)), (eA0 (rf 24) (ck 24) 14 f_sky), (eA0 (rf 29) (ck 29) 24 f_landHas), (eA0 (rf 31) (ck 31) 8 f_first), (eA0 (rf 32) (ck 32) 8 f_last), (eA0 (rf 41) (ck 41) 128 f_knot), (eA0 (rf 42) (ck 42) 128 f_part), (eA0 (rf 43) (ck 43) 128 f_other), (eA1 (rf 55) (ck 55) 6 u.2.2.2.2.1), (eA1 (rf 56) (ck 56) 64 u.2.2.2.2.2)] t.heap ∧ va_K (dC, dI) vwCl [] t ∧ va_D (va_A [(mq, .inr (12, mF g gl rf)), (eA0 (rf 24) (ck 24) 14 f_sky), (eA0 (rf 29) (ck 29) 24 f_landHas), (eA0 (rf 31) (ck 31) 8 f_first), (eA0 (rf 32) (ck 32) 8 f_last), (eA0 (rf 41) (ck 41) 128 f_knot), (eA0 (rf 42) (ck 42) 128 f_part), (eA0 (rf 43) (ck 43) 128 f_other), (eA1 (rf 55) (ck 55) 6 f_names), (eA1 (rf 56) (ck 56) 64 f_value)] sz) [(mq, .inr (12, mF (upd (upd g 2 u.1) 57 u.2.2.2.1) (vp_updL (vp_updL gl 53 u.2.1) 54 u.2.2.1) rf)), (eA0 (rf 24) (ck 24) 14 f_sky), (eA0 (rf 29) (ck 29) 24 f_landHas), (eA0 (rf 31) (ck 31) 8 f_first), (eA0 (rf 32) (ck 32) 8 f_last), (eA0 (rf 41) (ck 41) 128 f_knot), (eA0 (rf 42) (ck 42) 128 f_part), (eA0 (rf 43) (ck 43) 128 f_other), (eA1 (rf 55) (ck 55) 6 u.2.2.2.2.1), (eA1 (rf 56) (ck 56) 64 u.2.2.2.2.2)]) (va_A [(mq, .inr (12, mF g gl rf)), (eA0 (rf 24) (ck 24) 14 f_sky), (eA0 (rf 29) (ck 29) 24 f_landHas), (eA0 (rf 31) (ck 31) 8 f_first), (eA0 (rf 32) (ck 32) 8 f_last), (eA0 (rf 41) (ck 41) 128 f_knot), (eA0 (rf 42) (ck 42) 128 f_part), (eA0 (rf 43) (ck 43) 128 f_other), (eA1 (rf 55) (ck 55) 6 f_names), (eA1 (rf 56) (ck 56) 64 f_value)] sz)) 0 0 (va_A [(mq, .inr (12, mF g gl rf)), (eA0 (rf 24) (ck 24) 14 f_sky), (eA0 (rf 29) (ck 29) 24 f_landHas), (eA0 (rf 31) (ck 31) 8 f_first), (eA0 (rf 32) (ck 32) 8 f_last), (eA0 (rf 41) (ck 41) 128 f_knot), (eA0 (rf 42) (ck 42) 128 f_part), (eA0 (rf 43) (ck 43) 128 f_other), (eA1 (rf 55) (ck 55) 6 f_names), (eA1 (rf 56) (ck 56) 64 f_value)] sz) := by
  refine Met.ofW (cc := cX12_festive) (maxL := 4) (ret := (some .long)) (by decide) rfl ?_
  intro p e s m args below meth c s₁ B hml hv
  obtain ⟨rfl, hsz, hP, hK, hD0⟩ := hv
  have hx := B.exec
  have hb := B.bytes
  have hr := B.returns
  have hts := atoms_spec (ws := Cond.code yX12_festive cX12_festive 4 (some .long) :: wsL_law) B.pre
  have htw : ∀ w ∈ wsL_law, w.before _ s = true := fun w h => hts w (List.mem_cons_of_mem _ h)
  have hown : s.vm.findClass RX12 = some m.cls := findClass_of_methodNamed B.named
  have hlocks := B.notSynchronized
  subst hsz
  have hD := hD0.self (sz := s.heap.size)
  generalize hAe : va_A [(mq, .inr (12, mF g gl rf)), (eA0 (rf 24) (ck 24) 14 f_sky), (eA0 (rf 29) (ck 29) 24 f_landHas), (eA0 (rf 31) (ck 31) 8 f_first), (eA0 (rf 32) (ck 32) 8 f_last), (eA0 (rf 41) (ck 41) 128 f_knot), (eA0 (rf 42) (ck 42) 128 f_part), (eA0 (rf 43) (ck 43) 128 f_other), (eA1 (rf 55) (ck 55) 6 f_names), (eA1 (rf 56) (ck 56) 64 f_value)] s.heap.size = A at hD ⊢
  have hA : ∀ q : Nat, s.heap.size ≤ q → A q := fun q h => by rw [← hAe]; exact Or.inr h
  obtain ⟨H, rH⟩ : ∃ z : Heap, z = s.heap := ⟨_, rfl⟩
  have hS : va_S A s.heap H [] := by rw [rH]; exact va_S.rf
  have hP : va_P (dC, dI) vwCl [(mq, .inr (12, mF g gl rf)), (eA0 (rf 24) (ck 24) 14 f_sky), (eA0 (rf 29) (ck 29) 24 f_landHas), (eA0 (rf 31) (ck 31) 8 f_first), (eA0 (rf 32) (ck 32) 8 f_last), (eA0 (rf 41) (ck 41) 128 f_knot), (eA0 (rf 42) (ck 42) 128 f_part), (eA0 (rf 43) (ck 43) 128 f_other), (eA1 (rf 55) (ck 55) 6 f_names), (eA1 (rf 56) (ck 56) 64 f_value)] H := by rw [rH]; exact hP
  rw [← rH]
  have hl := lv_entry ([.ref mq, .int a0, .long a1]) (n := 4) (Nat.le_of_ble_eq_true rfl)
  rw [lg_entry_eq]
  generalize (lg_sl ([.ref mq, .int a0, .long a1]) ++ List.replicate (4 - (lg_sl ([.ref mq, .int a0, .long a1])).length) Slot.unset).toArray = ls at hl ⊢
  have hl : lv_has ls 4 [(0, .ref mq), (1, .int a0), (2, .long a1)] := hl
  refine lv_aload_n hx hb dX12_festive_0 rfl (lv_at hl 0 rfl) ?_
  refine lv_iconst (v := 0) hx hb dX12_festive_1 (by decide) ?_
  refine va_put (D := (dC, dI)) (ci := 12) (v := .int 0) (ty := tyX12 2) (C := RX12) (T := TX12) (N := 76) hx hb htw inlX12 tyX12 tyX12_ok nmX12 hown hK hP hD hS 0 rfl rfl 2 (by decide) (htw _ (ck_12 _ (List.mem_of_getElem? (i := 16) rfl))) (fun _ h9 => h9) rfl (tyX12_ok 2 (by decide)) rfl rfl (Nat.le_of_ble_eq_true rfl) dX12_festive_2 (fun H locs hP hD hS => ?_)
  obtain ⟨hP, hD⟩ := zre [(mq, .inr (12, mF (upd g 2 0) gl rf)), (eA0 (rf 24) (ck 24) 14 f_sky), (eA0 (rf 29) (ck 29) 24 f_landHas), (eA0 (rf 31) (ck 31) 8 f_first), (eA0 (rf 32) (ck 32) 8 f_last), (eA0 (rf 41) (ck 41) 128 f_knot), (eA0 (rf 42) (ck 42) 128 f_part), (eA0 (rf 43) (ck 43) 128 f_other), (eA1 (rf 55) (ck 55) 6 f_names), (eA1 (rf 56) (ck 56) 64 f_value)] hP hD rfl
  refine lv_aload_n hx hb dX12_festive_5 rfl (lv_at hl 0 rfl) ?_
  refine lv_iload_n hx hb dX12_festive_6 rfl (lv_at hl 1 rfl) ?_
  have hPc := hP.sub (ws' := [(mq, .inr (12, mF (upd g 2 0) gl rf))]) [0] rfl
  have hKc := hK.sub (tys' := []) [] rfl
  refine vp_callSi (W.runV (As := [.int a0]) (rest := []) ⟨hx, hb, hml, hown, htw⟩ (gq_isFeast l dC dI mq (upd g 2 0) gl rf a0) (cwV 1 htw (xg_V (ck_40 _ (List.mem_of_getElem? (i := 18) rfl)) (ck_40 _ (List.mem_of_getElem? (i := 19) rfl)) (ck_40 _ (List.mem_of_getElem? (i := 20) rfl)) (ck_1 _ (List.mem_of_getElem? (i := 5) rfl)) (ck_40 _ (List.mem_of_getElem? (i := 21) rfl))) rfl rfl rfl (by exact ⟨rfl, hdc_14.1, hdc_14.2, hdd_26⟩) ⟨Nat.le_of_ble_eq_true rfl, Nat.le_of_ble_eq_true rfl⟩) ⟨fun a U g mk q => by obtain ⟨q0, qP, qK⟩ := q; exact ⟨q0, qP, va_K.moved (u := U) (U := U.calling g mk a) (Vm.Alike.refl U.vm) qK⟩, va_recv hKc hPc (ci := 12) (q0 := 0) rfl rfl, fun U hU hW => ⟨rfl, by rw [hU]; exact hPc, va_K.moved hW.alike hKc⟩⟩ rfl rfl hl.1 rfl (lv_room (Nat.le_of_ble_eq_true rfl)) dX12_festive_7 ⟨Nat.le_of_ble_eq_true rfl, Nat.le_of_ble_eq_true rfl⟩) (fun r_1 hw => ?_)
  try dsimp only at hw
  obtain ⟨hw, hb_r_1, hp_2, hp_3⟩ := hw
  have hq_r_1 : r_1 = (fq_isFeast a0 (g 13)) := hw
  refine lv_if_eq (tgt := 29) hx hb dX12_festive_10 (by decide) (fun c_4 => ?_) (fun c_4 => ?_)
  · refine lv_ldc2 (v := (-1)) hx hb hown (htw _ (ck_29 _ (List.mem_of_getElem? (i := 13) rfl))) dX12_festive_29 ?_
    refine W.widen (k := 0) (n := 0) (by omega) (by omega) ?_
    have hP9 := hP
    have hD9 := hD
    have hK9 := hK.sub (tys' := []) [] rfl
    exact W.lret (v := (-1)) hx hb hr (fun t ht hW => ⟨⟨(-1), (0, (gl 53), (gl 54), (g 57), f_names, f_value), rfl, ((fun e9 => ⟨by rw [e9], by rw [e9]⟩ : fq_festive f_sky f_landHas f_first f_last f_knot f_part f_other f_names f_value a0 a1 (g 12) (g 13) (gl 53) (gl 54) (g 57) = ((-1 : Int64), (0 : Int32), (gl 53), (gl 54), (g 57), f_names, f_value) → _) ((by rw [fq_festive]; (try rw [← hq_r_1]); (try rw [xL_eq]); (try rw [if_pos c_4]); try rfl))), by rw [ht]; exact hP9, va_K.moved hW.alike hK9, hD9⟩, hS.F ht⟩) hS.2.2 dX12_festive_32
  · refine lv_lload_n hx hb dX12_festive_13 rfl (lv_at hl 2 rfl) ?_
    have hPc := hP.sub (ws' := []) [] rfl
    have hKc := hK.sub (tys' := []) [] rfl
    refine vp_callSi (W.runS (As := [.long a1]) (rest := []) ⟨hx, hb, hml, hown, htw⟩ (gq_isCount l dC dI a1) (va_cwS 1 htw (xg_S (ck_36 _ (List.mem_of_getElem? (i := 8) rfl)) (ck_36 _ (List.mem_of_getElem? (i := 9) rfl)) (ck_1 _ (List.mem_of_getElem? (i := 5) rfl)) (ck_36 _ (List.mem_of_getElem? (i := 10) rfl))) rfl rfl rfl (by exact ⟨hdc_14.1, hdc_14.2, hdd_1⟩) ⟨Nat.le_of_ble_eq_true rfl, Nat.le_of_ble_eq_true rfl⟩) ⟨fun a U g mk q => by obtain ⟨q0, qP, qK⟩ := q; exact ⟨q0, qP, va_K.moved (u := U) (U := U.calling g mk a) (Vm.Alike.refl U.vm) qK⟩, fun U hU hW => ⟨rfl, by rw [hU]; exact hPc, va_K.moved hW.alike hKc⟩⟩ rfl rfl hl.1 rfl (lv_room (Nat.le_of_ble_eq_true rfl)) dX12_festive_14 ⟨Nat.le_of_ble_eq_true rfl, Nat.le_of_ble_eq_true rfl⟩) (fun r_5 hw => ?_)
    try dsimp only at hw
    obtain ⟨hw, hb_r_5⟩ := hw
    have hq_r_5 : r_5 = (fq_isCount a1) := hw
    refine lv_if_eq (tgt := 29) hx hb dX12_festive_17 (by decide) (fun c_6 => ?_) (fun c_6 => ?_)
    · refine lv_ldc2 (v := (-1)) hx hb hown (htw _ (ck_29 _ (List.mem_of_getElem? (i := 13) rfl))) dX12_festive_29 ?_
      refine W.widen (k := 0) (n := 0) (by omega) (by omega) ?_
      have hP9 := hP
      have hD9 := hD
      have hK9 := hK.sub (tys' := []) [] rfl
      exact W.lret (v := (-1)) hx hb hr (fun t ht hW => ⟨⟨(-1), (0, (gl 53), (gl 54), (g 57), f_names, f_value), rfl, ((fun e9 => ⟨by rw [e9], by rw [e9]⟩ : fq_festive f_sky f_landHas f_first f_last f_knot f_part f_other f_names f_value a0 a1 (g 12) (g 13) (gl 53) (gl 54) (g 57) = ((-1 : Int64), (0 : Int32), (gl 53), (gl 54), (g 57), f_names, f_value) → _) ((by rw [fq_festive]; (try rw [← hq_r_1]); (try rw [xL_eq]); (try rw [if_neg c_4]); (try rw [← hq_r_5]); (try rw [xL_eq]); (try rw [if_pos c_6]); try rfl))), by rw [ht]; exact hP9, va_K.moved hW.alike hK9, hD9⟩, hS.F ht⟩) hS.2.2 dX12_festive_32
    · refine lv_aload_n hx hb dX12_festive_20 rfl (lv_at hl 0 rfl) ?_
      refine lv_iload_n hx hb dX12_festive_21 rfl (lv_at hl 1 rfl) ?_
      refine lv_lload_n hx hb dX12_festive_22 rfl (lv_at hl 2 rfl) ?_
      obtain ⟨hPc, hDc, hFc, hCc⟩ := zsub3 (ws' := [(mq, .inr (12, mF (upd g 2 0) gl rf)), (eA0 (rf 24) (ck 24) 14 f_sky), (eA0 (rf 29) (ck 29) 24 f_landHas), (eA0 (rf 31) (ck 31) 8 f_first), (eA0 (rf 32) (ck 32) 8 f_last), (eA0 (rf 41) (ck 41) 128 f_knot), (eA0 (rf 42) (ck 42) 128 f_part), (eA0 (rf 43) (ck 43) 128 f_other), (eA1 (rf 55) (ck 55) 6 f_names), (eA1 (rf 56) (ck 56) 64 f_value)]) hP hD hS hA [0, 1, 2, 3, 4, 5, 6, 7, 8, 9] (by decide +kernel) rfl
      have hKc := hK.sub (tys' := [((ck 24), .int), ((ck 29), .int), ((ck 31), .int), ((ck 32), .int), ((ck 41), .int), ((ck 42), .int), ((ck 43), .int), ((ck 55), .long), ((ck 56), .long)]) [0, 1, 2, 3, 4, 5, 6, 7, 8] rfl
      refine va_calll (va_runV (As := [.int a0, .long a1]) (rest := []) ⟨hx, hb, hml, hown, htw⟩ (gq_festiveOf l dC dI mq (upd g 2 0) gl rf ck f_sky f_landHas f_first f_last f_knot f_part f_other f_names f_value a0 a1 H.size (gq_festive_s0 (y0 := a0) (y1 := g 13) (hp_2.resolve_left c_4) (hp_3.resolve_left c_4) hfe0 hfe4) (gq_festive_s1 (y0 := a0) (y1 := g 13) (hp_2.resolve_left c_4) (hp_3.resolve_left c_4) hfe0 hfe4) (gq_festive_s2 (y0 := a1) (xq_cnt hq_r_5 c_6).1 (xq_cnt hq_r_5 c_6).2) (gq_festive_s3 (y0 := a1) (xq_cnt hq_r_5 c_6).1 (xq_cnt hq_r_5 c_6).2) hfe0 hfe4 hFA hKA hln0 hln4 hLZ hs0 hs2 hs5) (cwV 2 htw (xg_V (ck_43 _ (List.mem_of_getElem? (i := 17) rfl)) (ck_43 _ (List.mem_of_getElem? (i := 18) rfl)) (ck_43 _ (List.mem_of_getElem? (i := 19) rfl)) (ck_1 _ (List.mem_of_getElem? (i := 5) rfl)) (ck_43 _ (List.mem_of_getElem? (i := 20) rfl))) rfl rfl rfl (by exact ⟨rfl, hdc_14.1, hdc_14.2, hdd_41⟩) ⟨Nat.le_of_ble_eq_true rfl, Nat.le_of_ble_eq_true rfl⟩) ⟨fun a U g mk q => by obtain ⟨q0, q1, qP, qK, qD⟩ := q; exact ⟨q0, q1, qP, va_K.moved (u := U) (U := U.calling g mk a) (Vm.Alike.refl U.vm) qK, qD⟩, va_recv hKc hPc (ci := 12) (q0 := 0) rfl rfl, fun U hU hW => ⟨rfl, by rw [hU], by rw [hU]; exact hPc, va_K.moved hW.alike hKc, hDc.weaken (fun _ _ _ _ => trivial)⟩⟩ rfl rfl hl.1 rfl (lv_room (Nat.le_of_ble_eq_true rfl)) dX12_festive_23 ⟨Nat.le_of_ble_eq_true rfl, Nat.le_of_ble_eq_true rfl⟩) hS (fun q _ h => hFc q h) hFc (fun r_7 u_8 t H1 locs ht hvm hw hB hz1 hk1 hS => ?_)
      try dsimp only at hw
      obtain ⟨hP1, hK1, hD1⟩ := hB
      rw [ht] at hP1
      have hK1 := va_K.moved hvm.symm hK1
      have hK1 : va_K (dC, dI) vwCl [] s := hK1
      obtain ⟨hP, hD⟩ := va_join (wr := []) (w1 := [(mq, .inr (12, mF (upd (upd g 2 0) 57 u_8.2.2.1) (vp_updL (vp_updL gl 53 u_8.1) 54 u_8.2.1) rf)), (eA0 (rf 24) (ck 24) 14 f_sky), (eA0 (rf 29) (ck 29) 24 f_landHas), (eA0 (rf 31) (ck 31) 8 f_first), (eA0 (rf 32) (ck 32) 8 f_last), (eA0 (rf 41) (ck 41) 128 f_knot), (eA0 (rf 42) (ck 42) 128 f_part), (eA0 (rf 43) (ck 43) 128 f_other), (eA1 (rf 55) (ck 55) 6 u_8.2.2.2.1), (eA1 (rf 56) (ck 56) 64 u_8.2.2.2.2)]) hP hD [0, 1, 2, 3, 4, 5, 6, 7, 8, 9] [] hCc rfl (by decide +kernel) (by decide +kernel) hk1 hFc hP1 hD1
      generalize H1 = H at hP hS ⊢
      have hP : va_P (dC, dI) vwCl [(mq, .inr (12, mF (upd (upd g 2 0) 57 u_8.2.2.1) (vp_updL (vp_updL gl 53 u_8.1) 54 u_8.2.1) rf)), (eA0 (rf 24) (ck 24) 14 f_sky), (eA0 (rf 29) (ck 29) 24 f_landHas), (eA0 (rf 31) (ck 31) 8 f_first), (eA0 (rf 32) (ck 32) 8 f_last), (eA0 (rf 41) (ck 41) 128 f_knot), (eA0 (rf 42) (ck 42) 128 f_part), (eA0 (rf 43) (ck 43) 128 f_other), (eA1 (rf 55) (ck 55) 6 u_8.2.2.2.1), (eA1 (rf 56) (ck 56) 64 u_8.2.2.2.2)] H := hP
      have hD : va_D A [(mq, .inr (12, mF (upd (upd g 2 0) 57 u_8.2.2.1) (vp_updL (vp_updL gl 53 u_8.1) 54 u_8.2.1) rf)), (eA0 (rf 24) (ck 24) 14 f_sky), (eA0 (rf 29) (ck 29) 24 f_landHas), (eA0 (rf 31) (ck 31) 8 f_first), (eA0 (rf 32) (ck 32) 8 f_last), (eA0 (rf 41) (ck 41) 128 f_knot), (eA0 (rf 42) (ck 42) 128 f_part), (eA0 (rf 43) (ck 43) 128 f_other), (eA1 (rf 55) (ck 55) 6 u_8.2.2.2.1), (eA1 (rf 56) (ck 56) 64 u_8.2.2.2.2)] := hD
      refine W.widen (k := 0) (n := 0) (by omega) (by omega) ?_
      obtain ⟨X_14, hX_14⟩ : ∃ X9 : Int64 × (Int64) × (Int64) × (Int32) × (Nat → Int64) × (Nat → Int64), X9 = (fq_festiveOf f_sky f_landHas f_first f_last f_knot f_part f_other f_names f_value a0 a1 (g 12) (gl 53) (gl 54) (g 57)) := ⟨_, rfl⟩
      have hq_r_7 : r_7 = X_14.1 := by rw [hX_14]; exact hw.1
      have hq_u_8 : u_8 = X_14.2 := by rw [hX_14]; exact hw.2
      refine lv_goto (tgt := 32) hx hb dX12_festive_26 (by decide) ?_
      refine W.widen (k := 0) (n := 0) (by omega) (by omega) ?_
      have hP9 := hP
      have hD9 := hD
      have hK9 := hK.sub (tys' := []) [] rfl
      exact W.lret (v := r_7) hx hb hr (fun t ht hW => ⟨⟨r_7, (0, u_8.1, u_8.2.1, u_8.2.2.1, u_8.2.2.2.1, u_8.2.2.2.2), rfl, ((fun e9 => ⟨by rw [e9], by rw [e9]⟩ : fq_festive f_sky f_landHas f_first f_last f_knot f_part f_other f_names f_value a0 a1 (g 12) (g 13) (gl 53) (gl 54) (g 57) = (r_7, (0 : Int32), u_8.1, u_8.2.1, u_8.2.2.1, u_8.2.2.2.1, u_8.2.2.2.2) → _) ((by rw [fq_festive]; (try rw [← hq_r_1]); (try rw [xL_eq]); (try rw [if_neg c_4]); (try rw [← hq_r_5]); (try rw [xL_eq]); (try rw [if_neg c_6]); (try rw [← hX_14]); (try rw [xL_eq]); (try rw [← hq_r_7]); (try rw [← hq_u_8]); try rfl))), by rw [ht]; exact hP9, va_K.moved hW.alike hK9, hD9⟩, hS.F ht⟩) hS.2.2 dX12_festive_32

def fq_rule (f_sky : Nat → Int32) (f_landHas : Nat → Int32) (f_first : Nat → Int32) (f_last : Nat → Int32) (f_knot : Nat → Int32) (f_part : Nat → Int32) (f_other : Nat → Int32) (f_names : Nat → Int64) (f_value : Nat → Int64) (a0 : Int32) (a1 : Int64) (m_lands : Int32) (m_feasts : Int32) (m_gotYear : Int64) (m_gotDay : Int64) (m_isError : Int32) : Int64 × (Int32) × (Int64) × (Int64) × (Int32) × (Nat → Int64) × (Nat → Int64) := (xL ((fq_isFeast a0 m_feasts)) (fun r_1 => (if r_1 = 0 then ((-9223372036854775808 : Int64), (0 : Int32), m_gotYear, m_gotDay, m_isError, f_names, f_value) else (xL ((fq_isCount a1)) (fun r_5 => (if r_5 = 0 then ((-9223372036854775808 : Int64), (0 : Int32), m_gotYear, m_gotDay, m_isError, f_names, f_value) else (xL ((fq_sumOf f_sky f_landHas f_first f_last f_knot f_part f_other f_names f_value a0 a1 m_lands m_gotYear m_gotDay)) (fun X_14 => (if X_14.2.2.2.1 = 0 then (X_14.1, (0 : Int32), X_14.2.1, X_14.2.2.1, X_14.2.2.2.1, X_14.2.2.2.2.1, X_14.2.2.2.2.2) else ((-9223372036854775808 : Int64), (0 : Int32), X_14.2.1, X_14.2.2.1, X_14.2.2.2.1, X_14.2.2.2.2.1, X_14.2.2.2.2.2))))))))))
theorem gq_rule_s0 {y0 : Int32} {y1 : Int32} (h0 : ¬ (y0 < 0)) (h1 : y0 < y1) (h2 : ¬ (y1 < 0)) (h3 : y1 ≤ 4) : ¬ (y0 < 0) := h0
theorem gq_rule_s1 {y0 : Int32} {y1 : Int32} (h0 : ¬ (y0 < 0)) (h1 : y0 < y1) (h2 : ¬ (y1 < 0)) (h3 : y1 ≤ 4) : y0 < 4 := by lia
theorem gq_rule_s2 {y0 : Int32} {y1 : Int32} (h0 : ¬ (y0 < 0)) (h1 : y0 < y1) (h2 : ¬ (y1 < 0)) (h3 : y1 ≤ 4) : ¬ (y0 < 0) ∧ y0 < y1 := gq_date_s4 h0 h1 h2 h3
theorem gq_rule_s3 {y0 : Int32} {y1 : Int32} (h0 : ¬ (y0 < 0)) (h1 : y0 < y1) (h2 : ¬ (y1 < 0)) (h3 : y1 ≤ 4) : ¬ (y0 < 0) ∧ y0 < y1 := gq_date_s4 h0 h1 h2 h3
theorem gq_rule_s4 {y0 : Int32} {y1 : Int32} (h0 : ¬ (y0 < 0)) (h1 : y0 < y1) (h2 : ¬ (y1 < 0)) (h3 : y1 ≤ 4) : ¬ (y0 < 0) ∧ y0 < y1 := gq_date_s4 h0 h1 h2 h3
theorem gq_rule_s5 {y0 : Int64} (h0 : ¬ (y0 < 0)) (h1 : y0 ≤ 1000000000000) : ¬ (y0 < 0) := h0
theorem gq_rule_s6 {y0 : Int64} (h0 : ¬ (y0 < 0)) (h1 : y0 ≤ 1000000000000) : y0 ≤ 2000000000000 := by lia
theorem dX12_rule_0 : decode cX12_rule 0 = .ok (.aload_n 0, 1) := zk_42 (by decide +kernel)
theorem dX12_rule_1 : decode cX12_rule 1 = .ok (.iconst 0, 1) := zk_3 (by decide +kernel)
theorem dX12_rule_2 : decode cX12_rule 2 = .ok (.putfield 119, 3) := zk_181 (by decide +kernel)
theorem dX12_rule_5 : decode cX12_rule 5 = .ok (.aload_n 0, 1) := zk_42 (by decide +kernel)
theorem dX12_rule_6 : decode cX12_rule 6 = .ok (.iload_n 1, 1) := zk_27 (by decide +kernel)
theorem dX12_rule_7 : decode cX12_rule 7 = .ok (.invokevirtual 448, 3) := zk_182 (by decide +kernel)
theorem dX12_rule_10 : decode cX12_rule 10 = .ok (.ifCond .eq 10, 3) := zk_153 (by decide +kernel)
theorem dX12_rule_20 : decode cX12_rule 20 = .ok (.ldc2_w 461, 3) := zk_20 (by decide +kernel)
theorem dX12_rule_23 : decode cX12_rule 23 = .ok (.lreturn, 1) := zk_173 (by decide +kernel)
theorem dX12_rule_13 : decode cX12_rule 13 = .ok (.lload_n 2, 1) := zk_32 (by decide +kernel)
theorem dX12_rule_14 : decode cX12_rule 14 = .ok (.invokestatic 413, 3) := zk_184 (by decide +kernel)
theorem dX12_rule_17 : decode cX12_rule 17 = .ok (.ifCond .ne 7, 3) := zk_154 (by decide +kernel)
theorem dX12_rule_24 : decode cX12_rule 24 = .ok (.aload_n 0, 1) := zk_42 (by decide +kernel)
theorem dX12_rule_25 : decode cX12_rule 25 = .ok (.iload_n 1, 1) := zk_27 (by decide +kernel)
theorem dX12_rule_26 : decode cX12_rule 26 = .ok (.lload_n 2, 1) := zk_32 (by decide +kernel)
theorem dX12_rule_27 : decode cX12_rule 27 = .ok (.invokevirtual 451, 3) := zk_182 (by decide +kernel)
theorem dX12_rule_30 : decode cX12_rule 30 = .ok (.lstore 4, 2) := zk_55 (by decide +kernel)
theorem dX12_rule_32 : decode cX12_rule 32 = .ok (.aload_n 0, 1) := zk_42 (by decide +kernel)
theorem dX12_rule_33 : decode cX12_rule 33 = .ok (.getfield 428, 3) := zk_180 (by decide +kernel)
theorem dX12_rule_36 : decode cX12_rule 36 = .ok (.ifCond .eq 9, 3) := zk_153 (by decide +kernel)
theorem dX12_rule_45 : decode cX12_rule 45 = .ok (.lload 4, 2) := zk_22 (by decide +kernel)
theorem dX12_rule_47 : decode cX12_rule 47 = .ok (.lreturn, 1) := zk_173 (by decide +kernel)
theorem dX12_rule_39 : decode cX12_rule 39 = .ok (.ldc2_w 461, 3) := zk_20 (by decide +kernel)
theorem dX12_rule_42 : decode cX12_rule 42 = .ok (.goto 5, 3) := zk_167 (by decide +kernel)
set_option maxHeartbeats 4000000 in
set_option maxRecDepth 100000 in
theorem gq_rule (l : Launch) (dC : Nat → ClassId) (dI : Nat → Nat → Nat) (mq : Nat) (g : Nat → Int32) (gl : Nat → Int64) (rf : Nat → Nat) (ck : Nat → ClassId) (f_sky : Nat → Int32) (f_landHas : Nat → Int32) (f_first : Nat → Int32) (f_last : Nat → Int32) (f_knot : Nat → Int32) (f_part : Nat → Int32) (f_other : Nat → Int32) (f_names : Nat → Int64) (f_value : Nat → Int64) (a0 : Int32) (a1 : Int64) (sz : Nat) (hfe0 : ¬ (g 13) < 0) (hfe4 : (g 13) ≤ 4) (hFA : ∀ k : Int32, ¬ k < 0 → k < (g 13) → ¬ (f_first k.toNatClampNeg) < 0 ∧ (f_last k.toNatClampNeg) ≤ 64 ∧ ¬ (f_last k.toNatClampNeg) < 1) (hKA : ∀ k : Nat, k < 64 → xKV f_knot f_part f_other k) (hln0 : ¬ (g 12) < 0) (hln4 : (g 12) ≤ 4) (hLZ : ∀ k : Int32, ¬ k < 0 → k < (g 12) → ¬ (f_landHas ((3 * k).toNatClampNeg)) = 0) (hs0 : ¬ (f_sky 0) < 1) (hs2 : ¬ (f_sky 2) < 1) (hs5 : ¬ (f_sky 5) < 1) : Met l yX12_rule (Cond.code yX12_rule cX12_rule 6 (some .long) :: wsL_law) ({ frames := 3, cells := 0, slots := 0, locals := 81 }) (va_Pc [.ref mq, .int a0, .long a1] (fun U => U.heap.size = sz ∧ va_P (dC, dI) vwCl [(mq, .inr (12, mF g gl rf)), (eA0 (rf 24) (ck 24) 14 f_sky), (eA0 (rf 29) (ck 29) 24 f_landHas), (eA0 (rf 31) (ck 31) 8 f_first), (eA0 (rf 32) (ck 32) 8 f_last), (eA0 (rf 41) (ck 41) 128 f_knot), (eA0 (rf 42) (ck 42) 128 f_part), (eA0 (rf 43) (ck 43) 128 f_other), (eA1 (rf 55) (ck 55) 6 f_names), (eA1 (rf 56) (ck 56) 64 f_value)] U.heap ∧ va_K (dC, dI) vwCl [((ck 24), .int), ((ck 29), .int), ((ck 31), .int), ((ck 32), .int), ((ck 41), .int), ((ck 42), .int), ((ck 43), .int), ((ck 55), .long), ((ck 56), .long)] U ∧ va_D (fun _ => True) [(mq, .inr (12, mF g gl rf)), (eA0 (rf 24) (ck 24) 14 f_sky), (eA0 (rf 29) (ck 29) 24 f_landHas), (eA0 (rf 31) (ck 31) 8 f_first), (eA0 (rf 32) (ck 32) 8 f_last), (eA0 (rf 41) (ck 41) 128 f_knot), (eA0 (rf 42) (ck 42) 128 f_part), (eA0 (rf 43) (ck 43) 128 f_other), (eA1 (rf 55) (ck 55) 6 f_names), (eA1 (rf 56) (ck 56) 64 f_value)])) (va_Ql (fun (r : Int64) (u : (Int32) × (Int64) × (Int64) × (Int32) × (Nat → Int64) × (Nat → Int64)) => r = (fq_rule f_sky f_landHas f_first f_last f_knot f_part f_other f_names f_value a0 a1 (g 12) (g 13) (gl 53) (gl 54) (g 57)).1 ∧ u = (fq_rule f_sky f_landHas f_first f_last f_knot f_part f_other f_names f_value a0 a1 (g 12) (g 13) (gl 53) (gl 54) (g 57)).2) (fun (u : (Int32) × (Int64) × (Int64) × (Int32) × (Nat → Int64) × (Nat → Int64)) t => va_P (dC, dI) vwCl [(mq, .inr (12, mF (upd (upd g 2 u.1) 57 u.2.2.2.1) (vp_updL (vp_updL gl 53 u.2.1) 54 u.2.2.1) rf)), (eA0 (rf 24) (ck 24) 14 f_sky), (eA0 (rf 29) (ck 29) 24 f_landHas), (eA0 (rf 31) (ck 31) 8 f_first), (eA0 (rf 32) (ck 32) 8 f_last), (eA0 (rf 41) (ck 41) 128 f_knot), (eA0 (rf 42) (ck 42) 128 f_part), (eA0 (rf 43) (ck 43) 128 f_other), (eA1 (rf 55) (ck 55) 6 u.2.2.2.2.1), (eA1 (rf 56) (ck 56) 64 u.2.2.2.2.2)] t.heap ∧ va_K (dC, dI) vwCl [] t ∧ va_D (va_A [(mq, .inr (12, mF g gl rf)), (eA0 (rf 24) (ck 24) 14 f_sky), (eA0 (rf 29) (ck 29) 24 f_landHas), (eA0 (rf 31) (ck 31) 8 f_first), (eA0 (rf 32) (ck 32) 8 f_last), (eA0 (rf 41) (ck 41) 128 f_knot), (eA0 (rf 42) (ck 42) 128 f_part), (eA0 (rf 43) (ck 43) 128 f_other), (eA1 (rf 55) (ck 55) 6 f_names), (eA1 (rf 56) (ck 56) 64 f_value)] sz) [(mq, .inr (12, mF (upd (upd g 2 u.1) 57 u.2.2.2.1) (vp_updL (vp_updL gl 53 u.2.1) 54 u.2.2.1) rf)), (eA0 (rf 24) (ck 24) 14 f_sky), (eA0 (rf 29) (ck 29) 24 f_landHas), (eA0 (rf 31) (ck 31) 8 f_first), (eA0 (rf 32) (ck 32) 8 f_last), (eA0 (rf 41) (ck 41) 128 f_knot), (eA0 (rf 42) (ck 42) 128 f_part), (eA0 (rf 43) (ck 43) 128 f_other), (eA1 (rf 55) (ck 55) 6 u.2.2.2.2.1), (eA1 (rf 56) (ck 56) 64 u.2.2.2.2.2)]) (va_A [(mq, .inr (12, mF g gl rf)), (eA0 (rf 24) (ck 24) 14 f_sky), (eA0 (rf 29) (ck 29) 24 f_landHas), (eA0 (rf 31) (ck 31) 8 f_first), (eA0 (rf 32) (ck 32) 8 f_last), (eA0 (rf 41) (ck 41) 128 f_knot), (eA0 (rf 42) (ck 42) 128 f_part), (eA0 (rf 43) (ck 43) 128 f_other), (eA1 (rf 55) (ck 55) 6 f_names), (eA1 (rf 56) (ck 56) 64 f_value)] sz)) 0 0 (va_A [(mq, .inr (12, mF g gl rf)), (eA0 (rf 24) (ck 24) 14 f_sky), (eA0 (rf 29) (ck 29) 24 f_landHas), (eA0 (rf 31) (ck 31) 8 f_first), (eA0 (rf 32) (ck 32) 8 f_last), (eA0 (rf 41) (ck 41) 128 f_knot), (eA0 (rf 42) (ck 42) 128 f_part), (eA0 (rf 43) (ck 43) 128 f_other), (eA1 (rf 55) (ck 55) 6 f_names), (eA1 (rf 56) (ck 56) 64 f_value)] sz) := by
  refine Met.ofW (cc := cX12_rule) (maxL := 6) (ret := (some .long)) (by decide) rfl ?_
  intro p e s m args below meth c s₁ B hml hv
  obtain ⟨rfl, hsz, hP, hK, hD0⟩ := hv
  have hx := B.exec
  have hb := B.bytes
  have hr := B.returns
  have hts := atoms_spec (ws := Cond.code yX12_rule cX12_rule 6 (some .long) :: wsL_law) B.pre
  have htw : ∀ w ∈ wsL_law, w.before _ s = true := fun w h => hts w (List.mem_cons_of_mem _ h)
  have hown : s.vm.findClass RX12 = some m.cls := findClass_of_methodNamed B.named
  have hlocks := B.notSynchronized
  subst hsz
  have hD := hD0.self (sz := s.heap.size)
  generalize hAe : va_A [(mq, .inr (12, mF g gl rf)), (eA0 (rf 24) (ck 24) 14 f_sky), (eA0 (rf 29) (ck 29) 24 f_landHas), (eA0 (rf 31) (ck 31) 8 f_first), (eA0 (rf 32) (ck 32) 8 f_last), (eA0 (rf 41) (ck 41) 128 f_knot), (eA0 (rf 42) (ck 42) 128 f_part), (eA0 (rf 43) (ck 43) 128 f_other), (eA1 (rf 55) (ck 55) 6 f_names), (eA1 (rf 56) (ck 56) 64 f_value)] s.heap.size = A at hD ⊢
  have hA : ∀ q : Nat, s.heap.size ≤ q → A q := fun q h => by rw [← hAe]; exact Or.inr h
  obtain ⟨H, rH⟩ : ∃ z : Heap, z = s.heap := ⟨_, rfl⟩
  have hS : va_S A s.heap H [] := by rw [rH]; exact va_S.rf
  have hP : va_P (dC, dI) vwCl [(mq, .inr (12, mF g gl rf)), (eA0 (rf 24) (ck 24) 14 f_sky), (eA0 (rf 29) (ck 29) 24 f_landHas), (eA0 (rf 31) (ck 31) 8 f_first), (eA0 (rf 32) (ck 32) 8 f_last), (eA0 (rf 41) (ck 41) 128 f_knot), (eA0 (rf 42) (ck 42) 128 f_part), (eA0 (rf 43) (ck 43) 128 f_other), (eA1 (rf 55) (ck 55) 6 f_names), (eA1 (rf 56) (ck 56) 64 f_value)] H := by rw [rH]; exact hP
  rw [← rH]
  have hl := lv_entry ([.ref mq, .int a0, .long a1]) (n := 6) (Nat.le_of_ble_eq_true rfl)
  rw [lg_entry_eq]
  generalize (lg_sl ([.ref mq, .int a0, .long a1]) ++ List.replicate (6 - (lg_sl ([.ref mq, .int a0, .long a1])).length) Slot.unset).toArray = ls at hl ⊢
  have hl : lv_has ls 6 [(0, .ref mq), (1, .int a0), (2, .long a1)] := hl
  refine lv_aload_n hx hb dX12_rule_0 rfl (lv_at hl 0 rfl) ?_
  refine lv_iconst (v := 0) hx hb dX12_rule_1 (by decide) ?_
  refine va_put (D := (dC, dI)) (ci := 12) (v := .int 0) (ty := tyX12 2) (C := RX12) (T := TX12) (N := 76) hx hb htw inlX12 tyX12 tyX12_ok nmX12 hown hK hP hD hS 0 rfl rfl 2 (by decide) (htw _ (ck_12 _ (List.mem_of_getElem? (i := 16) rfl))) (fun _ h9 => h9) rfl (tyX12_ok 2 (by decide)) rfl rfl (Nat.le_of_ble_eq_true rfl) dX12_rule_2 (fun H locs hP hD hS => ?_)
  obtain ⟨hP, hD⟩ := zre [(mq, .inr (12, mF (upd g 2 0) gl rf)), (eA0 (rf 24) (ck 24) 14 f_sky), (eA0 (rf 29) (ck 29) 24 f_landHas), (eA0 (rf 31) (ck 31) 8 f_first), (eA0 (rf 32) (ck 32) 8 f_last), (eA0 (rf 41) (ck 41) 128 f_knot), (eA0 (rf 42) (ck 42) 128 f_part), (eA0 (rf 43) (ck 43) 128 f_other), (eA1 (rf 55) (ck 55) 6 f_names), (eA1 (rf 56) (ck 56) 64 f_value)] hP hD rfl
  refine lv_aload_n hx hb dX12_rule_5 rfl (lv_at hl 0 rfl) ?_
  refine lv_iload_n hx hb dX12_rule_6 rfl (lv_at hl 1 rfl) ?_
  have hPc := hP.sub (ws' := [(mq, .inr (12, mF (upd g 2 0) gl rf))]) [0] rfl
  have hKc := hK.sub (tys' := []) [] rfl
  refine vp_callSi (W.runV (As := [.int a0]) (rest := []) ⟨hx, hb, hml, hown, htw⟩ (gq_isFeast l dC dI mq (upd g 2 0) gl rf a0) (cwV 1 htw (xg_V (ck_40 _ (List.mem_of_getElem? (i := 18) rfl)) (ck_40 _ (List.mem_of_getElem? (i := 19) rfl)) (ck_40 _ (List.mem_of_getElem? (i := 20) rfl)) (ck_1 _ (List.mem_of_getElem? (i := 5) rfl)) (ck_40 _ (List.mem_of_getElem? (i := 21) rfl))) rfl rfl rfl (by exact ⟨rfl, hdc_14.1, hdc_14.2, hdd_26⟩) ⟨Nat.le_of_ble_eq_true rfl, Nat.le_of_ble_eq_true rfl⟩) ⟨fun a U g mk q => by obtain ⟨q0, qP, qK⟩ := q; exact ⟨q0, qP, va_K.moved (u := U) (U := U.calling g mk a) (Vm.Alike.refl U.vm) qK⟩, va_recv hKc hPc (ci := 12) (q0 := 0) rfl rfl, fun U hU hW => ⟨rfl, by rw [hU]; exact hPc, va_K.moved hW.alike hKc⟩⟩ rfl rfl hl.1 rfl (lv_room (Nat.le_of_ble_eq_true rfl)) dX12_rule_7 ⟨Nat.le_of_ble_eq_true rfl, Nat.le_of_ble_eq_true rfl⟩) (fun r_1 hw => ?_)
  try dsimp only at hw
  obtain ⟨hw, hb_r_1, hp_2, hp_3⟩ := hw
  have hq_r_1 : r_1 = (fq_isFeast a0 (g 13)) := hw
  refine lv_if_eq (tgt := 20) hx hb dX12_rule_10 (by decide) (fun c_4 => ?_) (fun c_4 => ?_)
  · refine lv_ldc2 (v := (-9223372036854775808)) hx hb hown (htw _ (ck_44 _ (List.mem_of_getElem? (i := 9) rfl))) dX12_rule_20 ?_
    refine W.widen (k := 0) (n := 0) (by omega) (by omega) ?_
    have hP9 := hP
    have hD9 := hD
    have hK9 := hK.sub (tys' := []) [] rfl
    exact W.lret (v := (-9223372036854775808)) hx hb hr (fun t ht hW => ⟨⟨(-9223372036854775808), (0, (gl 53), (gl 54), (g 57), f_names, f_value), rfl, ((fun e9 => ⟨by rw [e9], by rw [e9]⟩ : fq_rule f_sky f_landHas f_first f_last f_knot f_part f_other f_names f_value a0 a1 (g 12) (g 13) (gl 53) (gl 54) (g 57) = ((-9223372036854775808 : Int64), (0 : Int32), (gl 53), (gl 54), (g 57), f_names, f_value) → _) ((by rw [fq_rule]; (try rw [← hq_r_1]); (try rw [xL_eq]); (try rw [if_pos c_4]); try rfl))), by rw [ht]; exact hP9, va_K.moved hW.alike hK9, hD9⟩, hS.F ht⟩) hS.2.2 dX12_rule_23
  · refine lv_lload_n hx hb dX12_rule_13 rfl (lv_at hl 2 rfl) ?_
    have hPc := hP.sub (ws' := []) [] rfl
    have hKc := hK.sub (tys' := []) [] rfl
    refine vp_callSi (W.runS (As := [.long a1]) (rest := []) ⟨hx, hb, hml, hown, htw⟩ (gq_isCount l dC dI a1) (va_cwS 1 htw (xg_S (ck_36 _ (List.mem_of_getElem? (i := 8) rfl)) (ck_36 _ (List.mem_of_getElem? (i := 9) rfl)) (ck_1 _ (List.mem_of_getElem? (i := 5) rfl)) (ck_36 _ (List.mem_of_getElem? (i := 10) rfl))) rfl rfl rfl (by exact ⟨hdc_14.1, hdc_14.2, hdd_1⟩) ⟨Nat.le_of_ble_eq_true rfl, Nat.le_of_ble_eq_true rfl⟩) ⟨fun a U g mk q => by obtain ⟨q0, qP, qK⟩ := q; exact ⟨q0, qP, va_K.moved (u := U) (U := U.calling g mk a) (Vm.Alike.refl U.vm) qK⟩, fun U hU hW => ⟨rfl, by rw [hU]; exact hPc, va_K.moved hW.alike hKc⟩⟩ rfl rfl hl.1 rfl (lv_room (Nat.le_of_ble_eq_true rfl)) dX12_rule_14 ⟨Nat.le_of_ble_eq_true rfl, Nat.le_of_ble_eq_true rfl⟩) (fun r_5 hw => ?_)
    try dsimp only at hw
    obtain ⟨hw, hb_r_5⟩ := hw
    have hq_r_5 : r_5 = (fq_isCount a1) := hw
    refine lv_if_ne (tgt := 24) hx hb dX12_rule_17 (by decide) (fun c_6 => ?_) (fun c_6 => ?_)
    · refine lv_aload_n hx hb dX12_rule_24 rfl (lv_at hl 0 rfl) ?_
      refine lv_iload_n hx hb dX12_rule_25 rfl (lv_at hl 1 rfl) ?_
      refine lv_lload_n hx hb dX12_rule_26 rfl (lv_at hl 2 rfl) ?_
      obtain ⟨hPc, hDc, hFc, hCc⟩ := zsub3 (ws' := [(mq, .inr (12, mF (upd g 2 0) gl rf)), (eA0 (rf 24) (ck 24) 14 f_sky), (eA0 (rf 29) (ck 29) 24 f_landHas), (eA0 (rf 31) (ck 31) 8 f_first), (eA0 (rf 32) (ck 32) 8 f_last), (eA0 (rf 41) (ck 41) 128 f_knot), (eA0 (rf 42) (ck 42) 128 f_part), (eA0 (rf 43) (ck 43) 128 f_other), (eA1 (rf 55) (ck 55) 6 f_names), (eA1 (rf 56) (ck 56) 64 f_value)]) hP hD hS hA [0, 1, 2, 3, 4, 5, 6, 7, 8, 9] (by decide +kernel) rfl
      have hKc := hK.sub (tys' := [((ck 24), .int), ((ck 29), .int), ((ck 31), .int), ((ck 32), .int), ((ck 41), .int), ((ck 42), .int), ((ck 43), .int), ((ck 55), .long), ((ck 56), .long)]) [0, 1, 2, 3, 4, 5, 6, 7, 8] rfl
      refine va_calll (va_runV (As := [.int a0, .long a1]) (rest := []) ⟨hx, hb, hml, hown, htw⟩ (gq_sumOf l dC dI mq (upd g 2 0) gl rf ck f_sky f_landHas f_first f_last f_knot f_part f_other f_names f_value a0 a1 H.size (gq_rule_s0 (y0 := a0) (y1 := g 13) (hp_2.resolve_left c_4) (hp_3.resolve_left c_4) hfe0 hfe4) (gq_rule_s1 (y0 := a0) (y1 := g 13) (hp_2.resolve_left c_4) (hp_3.resolve_left c_4) hfe0 hfe4) (hFA a0 (gq_rule_s2 (y0 := a0) (y1 := g 13) (hp_2.resolve_left c_4) (hp_3.resolve_left c_4) hfe0 hfe4).1 (gq_rule_s2 (y0 := a0) (y1 := g 13) (hp_2.resolve_left c_4) (hp_3.resolve_left c_4) hfe0 hfe4).2).1 (hFA a0 (gq_rule_s3 (y0 := a0) (y1 := g 13) (hp_2.resolve_left c_4) (hp_3.resolve_left c_4) hfe0 hfe4).1 (gq_rule_s3 (y0 := a0) (y1 := g 13) (hp_2.resolve_left c_4) (hp_3.resolve_left c_4) hfe0 hfe4).2).2.1 (hFA a0 (gq_rule_s4 (y0 := a0) (y1 := g 13) (hp_2.resolve_left c_4) (hp_3.resolve_left c_4) hfe0 hfe4).1 (gq_rule_s4 (y0 := a0) (y1 := g 13) (hp_2.resolve_left c_4) (hp_3.resolve_left c_4) hfe0 hfe4).2).2.2 hKA hln0 hln4 hLZ hs0 hs2 hs5 (gq_rule_s5 (y0 := a1) (xq_cnt hq_r_5 c_6).1 (xq_cnt hq_r_5 c_6).2) (gq_rule_s6 (y0 := a1) (xq_cnt hq_r_5 c_6).1 (xq_cnt hq_r_5 c_6).2)) (cwV 2 htw (xg_V (ck_40 _ (List.mem_of_getElem? (i := 22) rfl)) (ck_40 _ (List.mem_of_getElem? (i := 23) rfl)) (ck_41 _ (List.mem_of_getElem? (i := 0) rfl)) (ck_1 _ (List.mem_of_getElem? (i := 5) rfl)) (ck_41 _ (List.mem_of_getElem? (i := 1) rfl))) rfl rfl rfl (by exact ⟨rfl, hdc_14.1, hdc_14.2, hdd_41⟩) ⟨Nat.le_of_ble_eq_true rfl, Nat.le_of_ble_eq_true rfl⟩) ⟨fun a U g mk q => by obtain ⟨q0, q1, qP, qK, qD⟩ := q; exact ⟨q0, q1, qP, va_K.moved (u := U) (U := U.calling g mk a) (Vm.Alike.refl U.vm) qK, qD⟩, va_recv hKc hPc (ci := 12) (q0 := 0) rfl rfl, fun U hU hW => ⟨rfl, by rw [hU], by rw [hU]; exact hPc, va_K.moved hW.alike hKc, hDc.weaken (fun _ _ _ _ => trivial)⟩⟩ rfl rfl hl.1 rfl (lv_room (Nat.le_of_ble_eq_true rfl)) dX12_rule_27 ⟨Nat.le_of_ble_eq_true rfl, Nat.le_of_ble_eq_true rfl⟩) hS (fun q _ h => hFc q h) hFc (fun r_7 u_8 t H1 locs ht hvm hw hB hz1 hk1 hS => ?_)
      try dsimp only at hw
      obtain ⟨hP1, hK1, hD1⟩ := hB
      rw [ht] at hP1
      have hK1 := va_K.moved hvm.symm hK1
      have hK1 : va_K (dC, dI) vwCl [] s := hK1
      obtain ⟨hP, hD⟩ := va_join (wr := []) (w1 := [(mq, .inr (12, mF (upd (upd g 2 0) 57 u_8.2.2.1) (vp_updL (vp_updL gl 53 u_8.1) 54 u_8.2.1) rf)), (eA0 (rf 24) (ck 24) 14 f_sky), (eA0 (rf 29) (ck 29) 24 f_landHas), (eA0 (rf 31) (ck 31) 8 f_first), (eA0 (rf 32) (ck 32) 8 f_last), (eA0 (rf 41) (ck 41) 128 f_knot), (eA0 (rf 42) (ck 42) 128 f_part), (eA0 (rf 43) (ck 43) 128 f_other), (eA1 (rf 55) (ck 55) 6 u_8.2.2.2.1), (eA1 (rf 56) (ck 56) 64 u_8.2.2.2.2)]) hP hD [0, 1, 2, 3, 4, 5, 6, 7, 8, 9] [] hCc rfl (by decide +kernel) (by decide +kernel) hk1 hFc hP1 hD1
      generalize H1 = H at hP hS ⊢
      have hP : va_P (dC, dI) vwCl [(mq, .inr (12, mF (upd (upd g 2 0) 57 u_8.2.2.1) (vp_updL (vp_updL gl 53 u_8.1) 54 u_8.2.1) rf)), (eA0 (rf 24) (ck 24) 14 f_sky), (eA0 (rf 29) (ck 29) 24 f_landHas), (eA0 (rf 31) (ck 31) 8 f_first), (eA0 (rf 32) (ck 32) 8 f_last), (eA0 (rf 41) (ck 41) 128 f_knot), (eA0 (rf 42) (ck 42) 128 f_part), (eA0 (rf 43) (ck 43) 128 f_other), (eA1 (rf 55) (ck 55) 6 u_8.2.2.2.1), (eA1 (rf 56) (ck 56) 64 u_8.2.2.2.2)] H := hP
      have hD : va_D A [(mq, .inr (12, mF (upd (upd g 2 0) 57 u_8.2.2.1) (vp_updL (vp_updL gl 53 u_8.1) 54 u_8.2.1) rf)), (eA0 (rf 24) (ck 24) 14 f_sky), (eA0 (rf 29) (ck 29) 24 f_landHas), (eA0 (rf 31) (ck 31) 8 f_first), (eA0 (rf 32) (ck 32) 8 f_last), (eA0 (rf 41) (ck 41) 128 f_knot), (eA0 (rf 42) (ck 42) 128 f_part), (eA0 (rf 43) (ck 43) 128 f_other), (eA1 (rf 55) (ck 55) 6 u_8.2.2.2.1), (eA1 (rf 56) (ck 56) 64 u_8.2.2.2.2)] := hD
      refine W.widen (k := 0) (n := 0) (by omega) (by omega) ?_
      obtain ⟨X_14, hX_14⟩ : ∃ X9 : Int64 × (Int64) × (Int64) × (Int32) × (Nat → Int64) × (Nat → Int64), X9 = (fq_sumOf f_sky f_landHas f_first f_last f_knot f_part f_other f_names f_value a0 a1 (g 12) (gl 53) (gl 54)) := ⟨_, rfl⟩
      have hq_r_7 : r_7 = X_14.1 := by rw [hX_14]; exact hw.1
      have hq_u_8 : u_8 = X_14.2 := by rw [hX_14]; exact hw.2
      refine lv_lstore (lv' := [(4, .long r_7), (0, .ref mq), (1, .int a0), (2, .long a1)]) hx hb dX12_rule_30 hl (by decide) rfl (fun ls hl => ?_)
      refine lv_aload_n hx hb dX12_rule_32 rfl (lv_at hl 1 rfl) ?_
      refine va_get (D := (dC, dI)) (ci := 12) (v := .int u_8.2.2.1) (C := RX12) (T := TX12) (N := 76) hx hb htw inlX12 hown hK hP 0 rfl rfl 57 (by decide) (htw _ (ck_41 _ (List.mem_of_getElem? (i := 2) rfl))) (fun _ h9 => h9) rfl dX12_rule_33 ?_
      refine lv_if_eq (tgt := 45) hx hb dX12_rule_36 (by decide) (fun c_15 => ?_) (fun c_15 => ?_)
      · refine lv_lload hx hb dX12_rule_45 (lv_at hl 0 rfl) ?_
        refine W.widen (k := 0) (n := 0) (by omega) (by omega) ?_
        have hP9 := hP
        have hD9 := hD
        have hK9 := hK.sub (tys' := []) [] rfl
        exact W.lret (v := r_7) hx hb hr (fun t ht hW => ⟨⟨r_7, (0, u_8.1, u_8.2.1, u_8.2.2.1, u_8.2.2.2.1, u_8.2.2.2.2), rfl, ((fun e9 => ⟨by rw [e9], by rw [e9]⟩ : fq_rule f_sky f_landHas f_first f_last f_knot f_part f_other f_names f_value a0 a1 (g 12) (g 13) (gl 53) (gl 54) (g 57) = (r_7, (0 : Int32), u_8.1, u_8.2.1, u_8.2.2.1, u_8.2.2.2.1, u_8.2.2.2.2) → _) ((by rw [fq_rule]; (try rw [← hq_r_1]); (try rw [xL_eq]); (try rw [if_neg c_4]); (try rw [← hq_r_5]); (try rw [xL_eq]); (try rw [if_neg c_6]); (try rw [← hX_14]); (try rw [xL_eq]); (try rw [← hq_r_7]); (try rw [← hq_u_8]); (try rw [if_pos c_15]); try rfl))), by rw [ht]; exact hP9, va_K.moved hW.alike hK9, hD9⟩, hS.F ht⟩) hS.2.2 dX12_rule_47
      · refine lv_ldc2 (v := (-9223372036854775808)) hx hb hown (htw _ (ck_44 _ (List.mem_of_getElem? (i := 9) rfl))) dX12_rule_39 ?_
        refine lv_goto (tgt := 47) hx hb dX12_rule_42 (by decide) ?_
        refine W.widen (k := 0) (n := 0) (by omega) (by omega) ?_
        have hP9 := hP
        have hD9 := hD
        have hK9 := hK.sub (tys' := []) [] rfl
        exact W.lret (v := (-9223372036854775808)) hx hb hr (fun t ht hW => ⟨⟨(-9223372036854775808), (0, u_8.1, u_8.2.1, u_8.2.2.1, u_8.2.2.2.1, u_8.2.2.2.2), rfl, ((fun e9 => ⟨by rw [e9], by rw [e9]⟩ : fq_rule f_sky f_landHas f_first f_last f_knot f_part f_other f_names f_value a0 a1 (g 12) (g 13) (gl 53) (gl 54) (g 57) = ((-9223372036854775808 : Int64), (0 : Int32), u_8.1, u_8.2.1, u_8.2.2.1, u_8.2.2.2.1, u_8.2.2.2.2) → _) ((by rw [fq_rule]; (try rw [← hq_r_1]); (try rw [xL_eq]); (try rw [if_neg c_4]); (try rw [← hq_r_5]); (try rw [xL_eq]); (try rw [if_neg c_6]); (try rw [← hX_14]); (try rw [xL_eq]); (try rw [← hq_r_7]); (try rw [← hq_u_8]); (try rw [if_neg c_15]); try rfl))), by rw [ht]; exact hP9, va_K.moved hW.alike hK9, hD9⟩, hS.F ht⟩) hS.2.2 dX12_rule_47
    · refine lv_ldc2 (v := (-9223372036854775808)) hx hb hown (htw _ (ck_44 _ (List.mem_of_getElem? (i := 9) rfl))) dX12_rule_20 ?_
      refine W.widen (k := 0) (n := 0) (by omega) (by omega) ?_
      obtain ⟨hP9, hD9⟩ := zsub2 (ws' := [(mq, .inr (12, mF (upd g 2 0) gl rf)), (eA0 (rf 24) (ck 24) 14 f_sky), (eA0 (rf 29) (ck 29) 24 f_landHas), (eA0 (rf 31) (ck 31) 8 f_first), (eA0 (rf 32) (ck 32) 8 f_last), (eA0 (rf 41) (ck 41) 128 f_knot), (eA0 (rf 42) (ck 42) 128 f_part), (eA0 (rf 43) (ck 43) 128 f_other), (eA1 (rf 55) (ck 55) 6 f_names), (eA1 (rf 56) (ck 56) 64 f_value)]) hP hD [0, 1, 2, 3, 4, 5, 6, 7, 8, 9] (by decide +kernel) rfl
      have hK9 := hK.sub (tys' := []) [] rfl
      exact W.lret (v := (-9223372036854775808)) hx hb hr (fun t ht hW => ⟨⟨(-9223372036854775808), (0, (gl 53), (gl 54), (g 57), f_names, f_value), rfl, ((fun e9 => ⟨by rw [e9], by rw [e9]⟩ : fq_rule f_sky f_landHas f_first f_last f_knot f_part f_other f_names f_value a0 a1 (g 12) (g 13) (gl 53) (gl 54) (g 57) = ((-9223372036854775808 : Int64), (0 : Int32), (gl 53), (gl 54), (g 57), f_names, f_value) → _) ((by rw [fq_rule]; (try rw [← hq_r_1]); (try rw [xL_eq]); (try rw [if_neg c_4]); (try rw [← hq_r_5]); (try rw [xL_eq]); (try rw [if_pos c_6]); try rfl))), by rw [ht]; exact hP9, va_K.moved hW.alike hK9, hD9⟩, hS.F ht⟩) hS.2.2 dX12_rule_23
