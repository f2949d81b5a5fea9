set_option maxHeartbeats 4000000 in
set_option maxRecDepth 100000 in
theorem gy_roundRead9 (l : Launch) (dC : Nat → ClassId) (dI : Nat → Nat → Nat) (mq : Nat) (g : Nat → Int32) (gl : Nat → Int64) (rf : Nat → Nat) (ck : Nat → ClassId) (f_tape : Nat → Int32) (f_words : Nat → Int32) (f_sky : Nat → Int32) (sz : Nat) (h0n : ¬ (g 7) < 0) (hns : (g 7) ≤ (g 6)) (hs9 : (g 6) ≤ 900) (hw7 : (f_words 117) = 32) (hSKu : xSK f_sky) : Met l yX12_roundRead (Cond.code yX12_roundRead cX12_roundRead 2 (some .boolean) :: wsL_law) ({ frames := 3, cells := 0, slots := 0, locals := 69 }) (va_Pc [.ref mq, .int 9] (fun U => U.heap.size = sz ∧ va_P (dC, dI) vwCl [(mq, .inr (12, mF g gl rf)), (eA0 (rf 0) (ck 0) 900 f_tape), (eA0 (rf 3) (ck 3) 118 f_words), (eA0 (rf 24) (ck 24) 14 f_sky)] U.heap ∧ va_K (dC, dI) vwCl [((ck 0), .int), ((ck 3), .int), ((ck 24), .int)] U ∧ va_D (fun _ => True) [(mq, .inr (12, mF g gl rf)), (eA0 (rf 0) (ck 0) 900 f_tape), (eA0 (rf 3) (ck 3) 118 f_words), (eA0 (rf 24) (ck 24) 14 f_sky)])) (va_Qi (fun (r : Int32) (u : (Int32) × (Int32) × (Int32) × (Int32) × (Int32) × (Int32) × (Int32) × (Nat → Int32)) => (r = (fq_roundRead9 f_tape f_words f_sky (g 4) (g 5) (g 6) (g 7) (g 8) (g 9) (g 10) (g 11)).1 ∧ u = (fq_roundRead9 f_tape f_words f_sky (g 4) (g 5) (g 6) (g 7) (g 8) (g 9) (g 10) (g 11)).2) ∧ (r = 0 ∨ r = 1) ∧ (¬ u.2.2.1 < 0) ∧ (u.2.2.1 ≤ (g 6)) ∧ (xSm 7 f_sky u.2.2.2.2.2.2.2) ∧ (r = 0 ∨ (xSK u.2.2.2.2.2.2.2))) (fun (u : (Int32) × (Int32) × (Int32) × (Int32) × (Int32) × (Int32) × (Int32) × (Nat → Int32)) t => va_P (dC, dI) vwCl [(mq, .inr (12, mF (upd (upd (upd (upd (upd (upd (upd g 4 u.1) 5 u.2.1) 7 u.2.2.1) 8 u.2.2.2.1) 9 u.2.2.2.2.1) 10 u.2.2.2.2.2.1) 11 u.2.2.2.2.2.2.1) gl rf)), (eA0 (rf 0) (ck 0) 900 f_tape), (eA0 (rf 3) (ck 3) 118 f_words), (eA0 (rf 24) (ck 24) 14 u.2.2.2.2.2.2.2)] t.heap ∧ va_K (dC, dI) vwCl [] t ∧ va_D (va_A [(mq, .inr (12, mF g gl rf)), (eA0 (rf 0) (ck 0) 900 f_tape), (eA0 (rf 3) (ck 3) 118 f_words), (eA0 (rf 24) (ck 24) 14 f_sky)] sz) [(mq, .inr (12, mF (upd (upd (upd (upd (upd (upd (upd g 4 u.1) 5 u.2.1) 7 u.2.2.1) 8 u.2.2.2.1) 9 u.2.2.2.2.1) 10 u.2.2.2.2.2.1) 11 u.2.2.2.2.2.2.1) gl rf)), (eA0 (rf 0) (ck 0) 900 f_tape), (eA0 (rf 3) (ck 3) 118 f_words), (eA0 (rf 24) (ck 24) 14 u.2.2.2.2.2.2.2)]) (va_A [(mq, .inr (12, mF g gl rf)), (eA0 (rf 0) (ck 0) 900 f_tape), (eA0 (rf 3) (ck 3) 118 f_words), (eA0 (rf 24) (ck 24) 14 f_sky)] sz)) 0 0 (va_A [(mq, .inr (12, mF g gl rf)), (eA0 (rf 0) (ck 0) 900 f_tape), (eA0 (rf 3) (ck 3) 118 f_words), (eA0 (rf 24) (ck 24) 14 f_sky)] sz) := by
  refine Met.ofW (cc := cX12_roundRead) (maxL := 2) (ret := (some .boolean)) (by decide) rfl ?_
  intro p e s m args below meth c s₁ B hml hv
  obtain ⟨rfl, hsz, hP, hK, hD0⟩ := hv
  have hx := B.exec
  have hb := B.bytes
  have hr := B.returns
  have hts := atoms_spec (ws := Cond.code yX12_roundRead cX12_roundRead 2 (some .boolean) :: wsL_law) B.pre
  have htw : ∀ w ∈ wsL_law, w.before _ s = true := fun w h => hts w (List.mem_cons_of_mem _ h)
  have hown : s.vm.findClass RX12 = some m.cls := findClass_of_methodNamed B.named
  have hlocks := B.notSynchronized
  subst hsz
  have hD := hD0.self (sz := s.heap.size)
  generalize hAe : va_A [(mq, .inr (12, mF g gl rf)), (eA0 (rf 0) (ck 0) 900 f_tape), (eA0 (rf 3) (ck 3) 118 f_words), (eA0 (rf 24) (ck 24) 14 f_sky)] s.heap.size = A at hD ⊢
  have hA : ∀ q : Nat, s.heap.size ≤ q → A q := fun q h => by rw [← hAe]; exact Or.inr h
  obtain ⟨H, rH⟩ : ∃ z : Heap, z = s.heap := ⟨_, rfl⟩
  have hS : va_S A s.heap H [] := by rw [rH]; exact va_S.rf
  have hP : va_P (dC, dI) vwCl [(mq, .inr (12, mF g gl rf)), (eA0 (rf 0) (ck 0) 900 f_tape), (eA0 (rf 3) (ck 3) 118 f_words), (eA0 (rf 24) (ck 24) 14 f_sky)] H := by rw [rH]; exact hP
  rw [← rH]
  have hl := lv_entry ([.ref mq, .int 9]) (n := 2) (Nat.le_of_ble_eq_true rfl)
  rw [lg_entry_eq]
  generalize (lg_sl ([.ref mq, .int 9]) ++ List.replicate (2 - (lg_sl ([.ref mq, .int 9])).length) Slot.unset).toArray = ls at hl ⊢
  have hl : lv_has ls 2 [(0, .ref mq), (1, .int 9)] := hl
  refine lv_aload_n hx hb dX12_roundRead_0 rfl (lv_at hl 0 rfl) ?_
  refine lv_iconst (v := 1) hx hb dX12_roundRead_1 (by decide) ?_
  refine lv_sipush (v := 9999) hx hb dX12_roundRead_2 (by decide) ?_
  obtain ⟨hPc, hDc, hFc, hCc⟩ := zsub3 (ws' := [(mq, .inr (12, mF g gl rf)), (eA0 (rf 0) (ck 0) 900 f_tape), (eA0 (rf 3) (ck 3) 118 f_words)]) hP hD hS hA [0, 1, 2] (by decide) rfl
  have hKc := hK.sub (tys' := [((ck 0), .int), ((ck 3), .int)]) [0, 1] rfl
  refine va_calli (va_runV (As := [.int 1, .int 9999]) (rest := []) ⟨hx, hb, hml, hown, htw⟩ (gq_number l dC dI mq g gl rf ck f_tape f_words (1 : Int32) (9999 : Int32) H.size h0n hns hs9 hw7) (cwV 2 htw (xg_V (ck_26 _ (List.mem_of_getElem? (i := 13) rfl)) (ck_26 _ (List.mem_of_getElem? (i := 14) rfl)) (ck_26 _ (List.mem_of_getElem? (i := 15) rfl)) (ck_1 _ (List.mem_of_getElem? (i := 5) rfl)) (ck_26 _ (List.mem_of_getElem? (i := 16) rfl))) rfl rfl rfl (by exact ⟨rfl, hdc_14.1, hdc_14.2, hdd_8⟩) ⟨Nat.le_of_ble_eq_true rfl, Nat.le_of_ble_eq_true rfl⟩) ⟨fun a U g mk q => by obtain ⟨q0, q1, qP, qK, qD⟩ := q; exact ⟨q0, q1, qP, va_K.moved (u := U) (U := U.calling g mk a) (Vm.Alike.refl U.vm) qK, qD⟩, va_recv hKc hPc (ci := 12) (q0 := 0) rfl rfl, fun U hU hW => ⟨rfl, by rw [hU], by rw [hU]; exact hPc, va_K.moved hW.alike hKc, hDc.weaken (fun _ _ _ _ => trivial)⟩⟩ rfl rfl hl.1 rfl (lv_room (Nat.le_of_ble_eq_true rfl)) dX12_roundRead_5 ⟨Nat.le_of_ble_eq_true rfl, Nat.le_of_ble_eq_true rfl⟩) hS (fun q _ h => hFc q h) hFc (fun r_1 u_2 t H1 locs ht hvm hw hB hz1 hk1 hS => ?_)
  try dsimp only at hw
  obtain ⟨hP1, hK1, hD1⟩ := hB
  rw [ht] at hP1
  have hK1 := va_K.moved hvm.symm hK1
  have hK1 : va_K (dC, dI) vwCl [] s := hK1
  obtain ⟨hP, hD⟩ := va_join (wr := [(eA0 (rf 24) (ck 24) 14 f_sky)]) (w1 := [(mq, .inr (12, mF (upd (upd (upd (upd (upd (upd (upd g 4 u_2.2.2.2.2.2.1) 5 u_2.2.2.2.2.2.2) 7 u_2.1) 8 u_2.2.1) 9 u_2.2.2.1) 10 u_2.2.2.2.1) 11 u_2.2.2.2.2.1) gl rf)), (eA0 (rf 0) (ck 0) 900 f_tape), (eA0 (rf 3) (ck 3) 118 f_words)]) hP hD [0, 1, 2] [3] hCc rfl (by decide) (by decide) hk1 hFc hP1 hD1
  generalize H1 = H at hP hS ⊢
  have hP : va_P (dC, dI) vwCl [(eA0 (rf 24) (ck 24) 14 f_sky), (mq, .inr (12, mF (upd (upd (upd (upd (upd (upd (upd g 4 u_2.2.2.2.2.2.1) 5 u_2.2.2.2.2.2.2) 7 u_2.1) 8 u_2.2.1) 9 u_2.2.2.1) 10 u_2.2.2.2.1) 11 u_2.2.2.2.2.1) gl rf)), (eA0 (rf 0) (ck 0) 900 f_tape), (eA0 (rf 3) (ck 3) 118 f_words)] H := hP
  have hD : va_D A [(eA0 (rf 24) (ck 24) 14 f_sky), (mq, .inr (12, mF (upd (upd (upd (upd (upd (upd (upd g 4 u_2.2.2.2.2.2.1) 5 u_2.2.2.2.2.2.2) 7 u_2.1) 8 u_2.2.1) 9 u_2.2.2.1) 10 u_2.2.2.2.1) 11 u_2.2.2.2.2.1) gl rf)), (eA0 (rf 0) (ck 0) 900 f_tape), (eA0 (rf 3) (ck 3) 118 f_words)] := hD
  refine W.widen (k := 0) (n := 0) (by omega) (by omega) ?_
  obtain ⟨hw, hb_r_1, hp_10, hp_11, hp_12, hp_13⟩ := hw
  obtain ⟨X_14, hX_14⟩ : ∃ X9 : Int32 × (Int32) × (Int32) × (Int32) × (Int32) × (Int32) × (Int32) × (Int32), X9 = (fq_number f_tape f_words (1 : Int32) (9999 : Int32) (g 4) (g 5) (g 6) (g 7) (g 8) (g 9) (g 10) (g 11)) := ⟨_, rfl⟩
  have hq_r_1 : r_1 = X_14.1 := by rw [hX_14]; exact hw.1
  have hq_u_2 : u_2 = X_14.2 := by rw [hX_14]; exact hw.2
  refine lv_if_ne (tgt := 13) hx hb dX12_roundRead_8 (by decide) (fun c_15 => ?_) (fun c_15 => ?_)
  · refine lv_aload_n hx hb dX12_roundRead_13 rfl (lv_at hl 0 rfl) ?_
    refine va_get (D := (dC, dI)) (ci := 12) (v := .ref (rf 24)) (C := RX12) (T := TX12) (N := 76) hx hb htw inlX12 hown hK hP 1 rfl rfl 24 (by decide) (htw _ (ck_9 _ (List.mem_of_getElem? (i := 7) rfl))) (fun _ h9 => h9) rfl dX12_roundRead_14 ?_
    refine lv_iload_n hx hb dX12_roundRead_17 rfl (lv_at hl 1 rfl) ?_
    refine lv_aload_n hx hb dX12_roundRead_18 rfl (lv_at hl 0 rfl) ?_
    refine va_get (D := (dC, dI)) (ci := 12) (v := .int u_2.2.2.2.2.1) (C := RX12) (T := TX12) (N := 76) hx hb htw inlX12 hown hK hP 1 rfl rfl 11 (by decide) (htw _ (ck_26 _ (List.mem_of_getElem? (i := 5) rfl))) (fun _ h9 => h9) rfl dX12_roundRead_19 ?_
    refine va_iast hx hb hK hP hD hS 0 2 rfl rfl (by unfold vp_in; decide) dX12_roundRead_22 (fun H locs hP hD hS => ?_)
    have hP : va_P (dC, dI) vwCl [(eA0 (rf 24) (ck 24) 14 (upd f_sky ((9 : Int32).toNatClampNeg) u_2.2.2.2.2.1)), (mq, .inr (12, mF (upd (upd (upd (upd (upd (upd (upd g 4 u_2.2.2.2.2.2.1) 5 u_2.2.2.2.2.2.2) 7 u_2.1) 8 u_2.2.1) 9 u_2.2.2.1) 10 u_2.2.2.2.1) 11 u_2.2.2.2.2.1) gl rf)), (eA0 (rf 0) (ck 0) 900 f_tape), (eA0 (rf 3) (ck 3) 118 f_words)] H := hP
    have hD : va_D A [(eA0 (rf 24) (ck 24) 14 (upd f_sky ((9 : Int32).toNatClampNeg) u_2.2.2.2.2.1)), (mq, .inr (12, mF (upd (upd (upd (upd (upd (upd (upd g 4 u_2.2.2.2.2.2.1) 5 u_2.2.2.2.2.2.2) 7 u_2.1) 8 u_2.2.1) 9 u_2.2.2.1) 10 u_2.2.2.2.1) 11 u_2.2.2.2.2.1) gl rf)), (eA0 (rf 0) (ck 0) 900 f_tape), (eA0 (rf 3) (ck 3) 118 f_words)] := hD
    refine lv_aload_n hx hb dX12_roundRead_23 rfl (lv_at hl 0 rfl) ?_
    refine lv_iconst (v := 1) hx hb dX12_roundRead_24 (by decide) ?_
    refine lv_aload_n hx hb dX12_roundRead_25 rfl (lv_at hl 0 rfl) ?_
    refine va_get (D := (dC, dI)) (ci := 12) (v := .ref (rf 24)) (C := RX12) (T := TX12) (N := 76) hx hb htw inlX12 hown hK hP 1 rfl rfl 24 (by decide) (htw _ (ck_9 _ (List.mem_of_getElem? (i := 7) rfl))) (fun _ h9 => h9) rfl dX12_roundRead_26 ?_
    refine lv_iload_n hx hb dX12_roundRead_29 rfl (lv_at hl 1 rfl) ?_
    refine va_iald hx hb hK hP 0 2 rfl rfl (by unfold vp_in; decide) dX12_roundRead_30 ?_
    refine lv_bipush (v := 8) hx hb dX12_roundRead_31 (by decide) ?_
    refine lv_idiv hx hb dX12_roundRead_33 (by decide) ?_
    refine lv_bipush (v := 99) hx hb dX12_roundRead_34 (by decide) ?_
    obtain ⟨X_17, hX_17⟩ : ∃ X9 : (Int32) × (Int32) × (Int32) × (Int32) × (Int32) × (Int32) × (Int32) × (Int32) × (Nat → Int32), X9 = fq_roundRead9_j f_sky u_2 := ⟨_, rfl⟩
    have hjoin_18 : ∀ (S0j : Int32) (m_fault_j : Int32) (m_faultPlace_j : Int32) (m_next_j : Int32) (m_kind_j : Int32) (m_which_j : Int32) (m_at_j : Int32) (m_got_j : Int32) (f_sky_j : Nat → Int32) (hj0j : ¬ m_next_j < 0) (hj1j : m_next_j ≤ (g 6)) (hjSK : xSK f_sky_j) (hsm_sky_j : xSm 7 f_sky f_sky_j) (hE9 : X_17 = (S0j, m_fault_j, m_faultPlace_j, m_next_j, m_kind_j, m_which_j, m_at_j, m_got_j, f_sky_j)) (H : Heap) (locs : List Loc) (ls : Array Slot) (hP : va_P (dC, dI) vwCl [(eA0 (rf 24) (ck 24) 14 f_sky_j), (mq, .inr (12, mF (upd (upd (upd (upd (upd (upd (upd g 4 m_fault_j) 5 m_faultPlace_j) 7 m_next_j) 8 m_kind_j) 9 m_which_j) 10 m_at_j) 11 m_got_j) gl rf)), (eA0 (rf 0) (ck 0) 900 f_tape), (eA0 (rf 3) (ck 3) 118 f_words)] H) (hD : va_D A [(eA0 (rf 24) (ck 24) 14 f_sky_j), (mq, .inr (12, mF (upd (upd (upd (upd (upd (upd (upd g 4 m_fault_j) 5 m_faultPlace_j) 7 m_next_j) 8 m_kind_j) 9 m_which_j) 10 m_at_j) 11 m_got_j) gl rf)), (eA0 (rf 0) (ck 0) 900 f_tape), (eA0 (rf 3) (ck 3) 118 f_words)]) (hS : va_S A s.heap H locs) (hl : lv_has ls 2 [(0, .ref mq), (1, .int 9)]), W p l e (headSpec (Cond.code yX12_roundRead cX12_roundRead 2 (some .boolean) :: wsL_law) ({ frames := 3, cells := 0, slots := 0, locals := 69 })).room s m ([.ref mq, .int 9] : List Value).toArray below meth c H locs 0 0 (MQ below (va_Qi (fun (r : Int32) (u : (Int32) × (Int32) × (Int32) × (Int32) × (Int32) × (Int32) × (Int32) × (Nat → Int32)) => (r = (fq_roundRead9 f_tape f_words f_sky (g 4) (g 5) (g 6) (g 7) (g 8) (g 9) (g 10) (g 11)).1 ∧ u = (fq_roundRead9 f_tape f_words f_sky (g 4) (g 5) (g 6) (g 7) (g 8) (g 9) (g 10) (g 11)).2) ∧ (r = 0 ∨ r = 1) ∧ (¬ u.2.2.1 < 0) ∧ (u.2.2.1 ≤ (g 6)) ∧ (xSm 7 f_sky u.2.2.2.2.2.2.2) ∧ (r = 0 ∨ (xSK u.2.2.2.2.2.2.2))) (fun (u : (Int32) × (Int32) × (Int32) × (Int32) × (Int32) × (Int32) × (Int32) × (Nat → Int32)) t => va_P (dC, dI) vwCl [(mq, .inr (12, mF (upd (upd (upd (upd (upd (upd (upd g 4 u.1) 5 u.2.1) 7 u.2.2.1) 8 u.2.2.2.1) 9 u.2.2.2.2.1) 10 u.2.2.2.2.2.1) 11 u.2.2.2.2.2.2.1) gl rf)), (eA0 (rf 0) (ck 0) 900 f_tape), (eA0 (rf 3) (ck 3) 118 f_words), (eA0 (rf 24) (ck 24) 14 u.2.2.2.2.2.2.2)] t.heap ∧ va_K (dC, dI) vwCl [] t ∧ va_D A [(mq, .inr (12, mF (upd (upd (upd (upd (upd (upd (upd g 4 u.1) 5 u.2.1) 7 u.2.2.1) 8 u.2.2.2.1) 9 u.2.2.2.2.1) 10 u.2.2.2.2.2.1) 11 u.2.2.2.2.2.2.1) gl rf)), (eA0 (rf 0) (ck 0) 900 f_tape), (eA0 (rf 3) (ck 3) 118 f_words), (eA0 (rf 24) (ck 24) 14 u.2.2.2.2.2.2.2)]) A) ([.ref mq, .int 9] : List Value).toArray s 0 0 A) (F0 m 53 ls [.int S0j, .int 1, .ref mq]) := by
      intro S0j m_fault_j m_faultPlace_j m_next_j m_kind_j m_which_j m_at_j m_got_j f_sky_j hj0j hj1j hjSK hsm_sky_j hE9 H locs ls hP hD hS hl
      have hq_S0j : S0j = X_17.1 := by rw [hE9]
      have hq_m_fault_j : m_fault_j = X_17.2.1 := by rw [hE9]
      have hq_m_faultPlace_j : m_faultPlace_j = X_17.2.2.1 := by rw [hE9]
      have hq_m_next_j : m_next_j = X_17.2.2.2.1 := by rw [hE9]
      have hq_m_kind_j : m_kind_j = X_17.2.2.2.2.1 := by rw [hE9]
      have hq_m_which_j : m_which_j = X_17.2.2.2.2.2.1 := by rw [hE9]
      have hq_m_at_j : m_at_j = X_17.2.2.2.2.2.2.1 := by rw [hE9]
      have hq_m_got_j : m_got_j = X_17.2.2.2.2.2.2.2.1 := by rw [hE9]
      have hq_f_sky_j : f_sky_j = X_17.2.2.2.2.2.2.2.2 := by rw [hE9]
      obtain ⟨hPc, hDc, hFc, hCc⟩ := zsub3 (ws' := [(mq, .inr (12, mF (upd (upd (upd (upd (upd (upd (upd g 4 m_fault_j) 5 m_faultPlace_j) 7 m_next_j) 8 m_kind_j) 9 m_which_j) 10 m_at_j) 11 m_got_j) gl rf)), (eA0 (rf 0) (ck 0) 900 f_tape), (eA0 (rf 3) (ck 3) 118 f_words)]) hP hD hS hA [1, 2, 3] (by decide) rfl
      have hKc := hK.sub (tys' := [((ck 0), .int), ((ck 3), .int)]) [0, 1] rfl
      refine va_calli (va_runV (As := [.int 1, .int S0j]) (rest := []) ⟨hx, hb, hml, hown, htw⟩ (gq_number l dC dI mq (upd (upd (upd (upd (upd (upd (upd g 4 m_fault_j) 5 m_faultPlace_j) 7 m_next_j) 8 m_kind_j) 9 m_which_j) 10 m_at_j) 11 m_got_j) gl rf ck f_tape f_words (1 : Int32) S0j H.size hj0j hj1j hs9 hw7) (cwV 2 htw (xg_V (ck_26 _ (List.mem_of_getElem? (i := 13) rfl)) (ck_26 _ (List.mem_of_getElem? (i := 14) rfl)) (ck_26 _ (List.mem_of_getElem? (i := 15) rfl)) (ck_1 _ (List.mem_of_getElem? (i := 5) rfl)) (ck_26 _ (List.mem_of_getElem? (i := 16) rfl))) rfl rfl rfl (by exact ⟨rfl, hdc_14.1, hdc_14.2, hdd_8⟩) ⟨Nat.le_of_ble_eq_true rfl, Nat.le_of_ble_eq_true rfl⟩) ⟨fun a U g mk q => by obtain ⟨q0, q1, qP, qK, qD⟩ := q; exact ⟨q0, q1, qP, va_K.moved (u := U) (U := U.calling g mk a) (Vm.Alike.refl U.vm) qK, qD⟩, va_recv hKc hPc (ci := 12) (q0 := 0) rfl rfl, fun U hU hW => ⟨rfl, by rw [hU], by rw [hU]; exact hPc, va_K.moved hW.alike hKc, hDc.weaken (fun _ _ _ _ => trivial)⟩⟩ rfl rfl hl.1 rfl (lv_room (Nat.le_of_ble_eq_true rfl)) dX12_roundRead_53 ⟨Nat.le_of_ble_eq_true rfl, Nat.le_of_ble_eq_true rfl⟩) hS (fun q _ h => hFc q h) hFc (fun r_19 u_20 t H1 locs ht hvm hw hB hz1 hk1 hS => ?_)
      try dsimp only at hw
      obtain ⟨hP1, hK1, hD1⟩ := hB
      rw [ht] at hP1
      have hK1 := va_K.moved hvm.symm hK1
      have hK1 : va_K (dC, dI) vwCl [] s := hK1
      obtain ⟨hP, hD⟩ := va_join (wr := [(eA0 (rf 24) (ck 24) 14 f_sky_j)]) (w1 := [(mq, .inr (12, mF (upd (upd (upd (upd (upd (upd (upd g 4 u_20.2.2.2.2.2.1) 5 u_20.2.2.2.2.2.2) 7 u_20.1) 8 u_20.2.1) 9 u_20.2.2.1) 10 u_20.2.2.2.1) 11 u_20.2.2.2.2.1) gl rf)), (eA0 (rf 0) (ck 0) 900 f_tape), (eA0 (rf 3) (ck 3) 118 f_words)]) hP hD [1, 2, 3] [0] hCc rfl (by decide) (by decide) hk1 hFc hP1 hD1
      generalize H1 = H at hP hS ⊢
      have hP : va_P (dC, dI) vwCl [(eA0 (rf 24) (ck 24) 14 f_sky_j), (mq, .inr (12, mF (upd (upd (upd (upd (upd (upd (upd g 4 u_20.2.2.2.2.2.1) 5 u_20.2.2.2.2.2.2) 7 u_20.1) 8 u_20.2.1) 9 u_20.2.2.1) 10 u_20.2.2.2.1) 11 u_20.2.2.2.2.1) gl rf)), (eA0 (rf 0) (ck 0) 900 f_tape), (eA0 (rf 3) (ck 3) 118 f_words)] H := hP
      have hD : va_D A [(eA0 (rf 24) (ck 24) 14 f_sky_j), (mq, .inr (12, mF (upd (upd (upd (upd (upd (upd (upd g 4 u_20.2.2.2.2.2.1) 5 u_20.2.2.2.2.2.2) 7 u_20.1) 8 u_20.2.1) 9 u_20.2.2.1) 10 u_20.2.2.2.1) 11 u_20.2.2.2.2.1) gl rf)), (eA0 (rf 0) (ck 0) 900 f_tape), (eA0 (rf 3) (ck 3) 118 f_words)] := hD
      refine W.widen (k := 0) (n := 0) (by omega) (by omega) ?_
      obtain ⟨hw, hb_r_19, hp_28, hp_29, hp_30, hp_31⟩ := hw
      obtain ⟨X_32, hX_32⟩ : ∃ X9 : Int32 × (Int32) × (Int32) × (Int32) × (Int32) × (Int32) × (Int32) × (Int32), X9 = (fq_number f_tape f_words (1 : Int32) S0j m_fault_j m_faultPlace_j (g 6) m_next_j m_kind_j m_which_j m_at_j m_got_j) := ⟨_, rfl⟩
      have hq_r_19 : r_19 = X_32.1 := by rw [hX_32]; exact hw.1
      have hq_u_20 : u_20 = X_32.2 := by rw [hX_32]; exact hw.2
      refine lv_if_ne (tgt := 61) hx hb dX12_roundRead_56 (by decide) (fun c_33 => ?_) (fun c_33 => ?_)
      · refine lv_aload_n hx hb dX12_roundRead_61 rfl (lv_at hl 0 rfl) ?_
        refine va_get (D := (dC, dI)) (ci := 12) (v := .ref (rf 24)) (C := RX12) (T := TX12) (N := 76) hx hb htw inlX12 hown hK hP 1 rfl rfl 24 (by decide) (htw _ (ck_9 _ (List.mem_of_getElem? (i := 7) rfl))) (fun _ h9 => h9) rfl dX12_roundRead_62 ?_
        refine lv_iload_n hx hb dX12_roundRead_65 rfl (lv_at hl 1 rfl) ?_
        refine lv_iconst (v := 1) hx hb dX12_roundRead_66 (by decide) ?_
        refine lv_iadd hx hb dX12_roundRead_67 ?_
        refine lv_topi (fun z_34 ez_34 => ?_)
        obtain rfl : z_34 = 10 := ez_34.trans (by decide)
        refine lv_aload_n hx hb dX12_roundRead_68 rfl (lv_at hl 0 rfl) ?_
        refine va_get (D := (dC, dI)) (ci := 12) (v := .int u_20.2.2.2.2.1) (C := RX12) (T := TX12) (N := 76) hx hb htw inlX12 hown hK hP 1 rfl rfl 11 (by decide) (htw _ (ck_26 _ (List.mem_of_getElem? (i := 5) rfl))) (fun _ h9 => h9) rfl dX12_roundRead_69 ?_
        refine va_iast hx hb hK hP hD hS 0 2 rfl rfl (by unfold vp_in; decide) dX12_roundRead_72 (fun H locs hP hD hS => ?_)
        have hP : va_P (dC, dI) vwCl [(eA0 (rf 24) (ck 24) 14 (upd f_sky_j ((10 : Int32).toNatClampNeg) u_20.2.2.2.2.1)), (mq, .inr (12, mF (upd (upd (upd (upd (upd (upd (upd g 4 u_20.2.2.2.2.2.1) 5 u_20.2.2.2.2.2.2) 7 u_20.1) 8 u_20.2.1) 9 u_20.2.2.1) 10 u_20.2.2.2.1) 11 u_20.2.2.2.2.1) gl rf)), (eA0 (rf 0) (ck 0) 900 f_tape), (eA0 (rf 3) (ck 3) 118 f_words)] H := hP
        have hD : va_D A [(eA0 (rf 24) (ck 24) 14 (upd f_sky_j ((10 : Int32).toNatClampNeg) u_20.2.2.2.2.1)), (mq, .inr (12, mF (upd (upd (upd (upd (upd (upd (upd g 4 u_20.2.2.2.2.2.1) 5 u_20.2.2.2.2.2.2) 7 u_20.1) 8 u_20.2.1) 9 u_20.2.2.1) 10 u_20.2.2.2.1) 11 u_20.2.2.2.2.1) gl rf)), (eA0 (rf 0) (ck 0) 900 f_tape), (eA0 (rf 3) (ck 3) 118 f_words)] := hD
        refine lv_iconst (v := 1) hx hb dX12_roundRead_73 (by decide) ?_
        refine W.widen (k := 0) (n := 0) (by omega) (by omega) ?_
        obtain ⟨hP9, hD9⟩ := zsub2 (ws' := [(mq, .inr (12, mF (upd (upd (upd (upd (upd (upd (upd g 4 u_20.2.2.2.2.2.1) 5 u_20.2.2.2.2.2.2) 7 u_20.1) 8 u_20.2.1) 9 u_20.2.2.1) 10 u_20.2.2.2.1) 11 u_20.2.2.2.2.1) gl rf)), (eA0 (rf 0) (ck 0) 900 f_tape), (eA0 (rf 3) (ck 3) 118 f_words), (eA0 (rf 24) (ck 24) 14 (upd f_sky_j ((10 : Int32).toNatClampNeg) u_20.2.2.2.2.1))]) hP hD [1, 2, 3, 0] (by decide) rfl
        have hK9 := hK.sub (tys' := []) [] rfl
        exact W.zret (v := 1) hx hb hr (by first | rfl | decide) (fun t ht hW => ⟨⟨1, (u_20.2.2.2.2.2.1, u_20.2.2.2.2.2.2, u_20.1, u_20.2.1, u_20.2.2.1, u_20.2.2.2.1, u_20.2.2.2.2.1, (upd f_sky_j ((10 : Int32).toNatClampNeg) u_20.2.2.2.2.1)), rfl, ⟨((fun e9 => ⟨by rw [e9], by rw [e9]⟩ : fq_roundRead9 f_tape f_words f_sky (g 4) (g 5) (g 6) (g 7) (g 8) (g 9) (g 10) (g 11) = ((1 : Int32), u_20.2.2.2.2.2.1, u_20.2.2.2.2.2.2, u_20.1, u_20.2.1, u_20.2.2.1, u_20.2.2.2.1, u_20.2.2.2.2.1, (upd f_sky_j ((10 : Int32).toNatClampNeg) u_20.2.2.2.2.1)) → _) ((by rw [fq_roundRead9]; (try rw [← hX_14]); (try rw [xL_eq]); (try rw [← hq_r_1]); (try rw [← hq_u_2]); (try rw [if_neg c_15]); (try rw [← hX_17]); (try rw [xL_eq]); (try rw [← hq_S0j]); (try rw [← hq_m_fault_j]); (try rw [← hq_m_faultPlace_j]); (try rw [← hq_m_next_j]); (try rw [← hq_m_kind_j]); (try rw [← hq_m_which_j]); (try rw [← hq_m_at_j]); (try rw [← hq_m_got_j]); (try rw [← hq_f_sky_j]); (try rw [← hX_32]); (try rw [xL_eq]); (try rw [← hq_r_19]); (try rw [← hq_u_20]); (try rw [if_neg c_33]); try rfl))), Or.inr rfl, hp_28, hp_29, (xSm_w hsm_sky_j (by decide) (by decide)), (Or.inr (xSK_10 hjSK))⟩, by rw [ht]; exact hP9, va_K.moved hW.alike hK9, hD9⟩, hS.F ht⟩) hS.2.2 dX12_roundRead_74
      · refine lv_iconst (v := 0) hx hb dX12_roundRead_59 (by decide) ?_
        refine W.widen (k := 0) (n := 0) (by omega) (by omega) ?_
        obtain ⟨hP9, hD9⟩ := zsub2 (ws' := [(mq, .inr (12, mF (upd (upd (upd (upd (upd (upd (upd g 4 u_20.2.2.2.2.2.1) 5 u_20.2.2.2.2.2.2) 7 u_20.1) 8 u_20.2.1) 9 u_20.2.2.1) 10 u_20.2.2.2.1) 11 u_20.2.2.2.2.1) gl rf)), (eA0 (rf 0) (ck 0) 900 f_tape), (eA0 (rf 3) (ck 3) 118 f_words), (eA0 (rf 24) (ck 24) 14 f_sky_j)]) hP hD [1, 2, 3, 0] (by decide) rfl
        have hK9 := hK.sub (tys' := []) [] rfl
        exact W.zret (v := 0) hx hb hr (by first | rfl | decide) (fun t ht hW => ⟨⟨0, (u_20.2.2.2.2.2.1, u_20.2.2.2.2.2.2, u_20.1, u_20.2.1, u_20.2.2.1, u_20.2.2.2.1, u_20.2.2.2.2.1, f_sky_j), rfl, ⟨((fun e9 => ⟨by rw [e9], by rw [e9]⟩ : fq_roundRead9 f_tape f_words f_sky (g 4) (g 5) (g 6) (g 7) (g 8) (g 9) (g 10) (g 11) = ((0 : Int32), u_20.2.2.2.2.2.1, u_20.2.2.2.2.2.2, u_20.1, u_20.2.1, u_20.2.2.1, u_20.2.2.2.1, u_20.2.2.2.2.1, f_sky_j) → _) ((by rw [fq_roundRead9]; (try rw [← hX_14]); (try rw [xL_eq]); (try rw [← hq_r_1]); (try rw [← hq_u_2]); (try rw [if_neg c_15]); (try rw [← hX_17]); (try rw [xL_eq]); (try rw [← hq_S0j]); (try rw [← hq_m_fault_j]); (try rw [← hq_m_faultPlace_j]); (try rw [← hq_m_next_j]); (try rw [← hq_m_kind_j]); (try rw [← hq_m_which_j]); (try rw [← hq_m_at_j]); (try rw [← hq_m_got_j]); (try rw [← hq_f_sky_j]); (try rw [← hX_32]); (try rw [xL_eq]); (try rw [← hq_r_19]); (try rw [← hq_u_20]); (try rw [if_pos c_33]); try rfl))), Or.inl rfl, hp_28, hp_29, hsm_sky_j, (Or.inl rfl)⟩, by rw [ht]; exact hP9, va_K.moved hW.alike hK9, hD9⟩, hS.F ht⟩) hS.2.2 dX12_roundRead_60
    refine lv_icmp_ge (tgt := 51) hx hb dX12_roundRead_36 (by decide) (fun c_36 => ?_) (fun c_36 => ?_)
    · refine lv_bipush (v := 99) hx hb dX12_roundRead_51 (by decide) ?_
      exact hjoin_18 (99 : Int32) u_2.2.2.2.2.2.1 u_2.2.2.2.2.2.2 u_2.1 u_2.2.1 u_2.2.2.1 u_2.2.2.2.1 u_2.2.2.2.2.1 (upd f_sky ((9 : Int32).toNatClampNeg) u_2.2.2.2.2.1) hp_10 hp_11 (xSK_9 hSKu (hp_12.resolve_left c_15)) (xSm_w xSm_rf (by decide) (by decide)) (hX_17.trans (by rw [fq_roundRead9_j]; (try rw [if_pos c_36]); try rfl)) _ _ ls hP hD hS (lv_sub hl [0, 1] rfl)
    · refine lv_aload_n hx hb dX12_roundRead_39 rfl (lv_at hl 0 rfl) ?_
      refine va_get (D := (dC, dI)) (ci := 12) (v := .ref (rf 24)) (C := RX12) (T := TX12) (N := 76) hx hb htw inlX12 hown hK hP 1 rfl rfl 24 (by decide) (htw _ (ck_9 _ (List.mem_of_getElem? (i := 7) rfl))) (fun _ h9 => h9) rfl dX12_roundRead_40 ?_
      refine lv_iload_n hx hb dX12_roundRead_43 rfl (lv_at hl 1 rfl) ?_
      refine va_iald hx hb hK hP 0 2 rfl rfl (by unfold vp_in; decide) dX12_roundRead_44 ?_
      refine lv_bipush (v := 8) hx hb dX12_roundRead_45 (by decide) ?_
      refine lv_idiv hx hb dX12_roundRead_47 (by decide) ?_
      refine lv_goto (tgt := 53) hx hb dX12_roundRead_48 (by decide) ?_
      exact hjoin_18 (((upd f_sky ((9 : Int32).toNatClampNeg) u_2.2.2.2.2.1) ((9 : Int32).toNatClampNeg)) / 8) u_2.2.2.2.2.2.1 u_2.2.2.2.2.2.2 u_2.1 u_2.2.1 u_2.2.2.1 u_2.2.2.2.1 u_2.2.2.2.2.1 (upd f_sky ((9 : Int32).toNatClampNeg) u_2.2.2.2.2.1) hp_10 hp_11 (xSK_9 hSKu (hp_12.resolve_left c_15)) (xSm_w xSm_rf (by decide) (by decide)) (hX_17.trans (by rw [fq_roundRead9_j]; (try rw [if_neg c_36]); try rfl)) _ _ ls hP hD hS (lv_sub hl [0, 1] rfl)
  · refine lv_iconst (v := 0) hx hb dX12_roundRead_11 (by decide) ?_
    refine W.widen (k := 0) (n := 0) (by omega) (by omega) ?_
    obtain ⟨hP9, hD9⟩ := zsub2 (ws' := [(mq, .inr (12, mF (upd (upd (upd (upd (upd (upd (upd g 4 u_2.2.2.2.2.2.1) 5 u_2.2.2.2.2.2.2) 7 u_2.1) 8 u_2.2.1) 9 u_2.2.2.1) 10 u_2.2.2.2.1) 11 u_2.2.2.2.2.1) gl rf)), (eA0 (rf 0) (ck 0) 900 f_tape), (eA0 (rf 3) (ck 3) 118 f_words), (eA0 (rf 24) (ck 24) 14 f_sky)]) hP hD [1, 2, 3, 0] (by decide) rfl
    have hK9 := hK.sub (tys' := []) [] rfl
    exact W.zret (v := 0) hx hb hr (by first | rfl | decide) (fun t ht hW => ⟨⟨0, (u_2.2.2.2.2.2.1, u_2.2.2.2.2.2.2, u_2.1, u_2.2.1, u_2.2.2.1, u_2.2.2.2.1, u_2.2.2.2.2.1, f_sky), rfl, ⟨((fun e9 => ⟨by rw [e9], by rw [e9]⟩ : fq_roundRead9 f_tape f_words f_sky (g 4) (g 5) (g 6) (g 7) (g 8) (g 9) (g 10) (g 11) = ((0 : Int32), u_2.2.2.2.2.2.1, u_2.2.2.2.2.2.2, u_2.1, u_2.2.1, u_2.2.2.1, u_2.2.2.2.1, u_2.2.2.2.2.1, f_sky) → _) ((by rw [fq_roundRead9]; (try rw [← hX_14]); (try rw [xL_eq]); (try rw [← hq_r_1]); (try rw [← hq_u_2]); (try rw [if_pos c_15]); try rfl))), Or.inl rfl, hp_10, hp_11, xSm_rf, (Or.inl rfl)⟩, by rw [ht]; exact hP9, va_K.moved hW.alike hK9, hD9⟩, hS.F ht⟩) hS.2.2 dX12_roundRead_12

set_option maxHeartbeats 4000000 in
set_option maxRecDepth 100000 in
theorem gy_roundRead12 (l : Launch) (dC : Nat → ClassId) (dI : Nat → Nat → Nat) (mq : Nat) (g : Nat → Int32) (gl : Nat → Int64) (rf : Nat → Nat) (ck : Nat → ClassId) (f_tape : Nat → Int32) (f_words : Nat → Int32) (f_sky : Nat → Int32) (sz : Nat) (h0n : ¬ (g 7) < 0) (hns : (g 7) ≤ (g 6)) (hs9 : (g 6) ≤ 900) (hw7 : (f_words 117) = 32) (hSKu : xSK f_sky) : Met l yX12_roundRead (Cond.code yX12_roundRead cX12_roundRead 2 (some .boolean) :: wsL_law) ({ frames := 3, cells := 0, slots := 0, locals := 69 }) (va_Pc [.ref mq, .int 12] (fun U => U.heap.size = sz ∧ va_P (dC, dI) vwCl [(mq, .inr (12, mF g gl rf)), (eA0 (rf 0) (ck 0) 900 f_tape), (eA0 (rf 3) (ck 3) 118 f_words), (eA0 (rf 24) (ck 24) 14 f_sky)] U.heap ∧ va_K (dC, dI) vwCl [((ck 0), .int), ((ck 3), .int), ((ck 24), .int)] U ∧ va_D (fun _ => True) [(mq, .inr (12, mF g gl rf)), (eA0 (rf 0) (ck 0) 900 f_tape), (eA0 (rf 3) (ck 3) 118 f_words), (eA0 (rf 24) (ck 24) 14 f_sky)])) (va_Qi (fun (r : Int32) (u : (Int32) × (Int32) × (Int32) × (Int32) × (Int32) × (Int32) × (Int32) × (Nat → Int32)) => (r = (fq_roundRead12 f_tape f_words f_sky (g 4) (g 5) (g 6) (g 7) (g 8) (g 9) (g 10) (g 11)).1 ∧ u = (fq_roundRead12 f_tape f_words f_sky (g 4) (g 5) (g 6) (g 7) (g 8) (g 9) (g 10) (g 11)).2) ∧ (r = 0 ∨ r = 1) ∧ (¬ u.2.2.1 < 0) ∧ (u.2.2.1 ≤ (g 6)) ∧ (xSm 7 f_sky u.2.2.2.2.2.2.2) ∧ (r = 0 ∨ (xSK u.2.2.2.2.2.2.2))) (fun (u : (Int32) × (Int32) × (Int32) × (Int32) × (Int32) × (Int32) × (Int32) × (Nat → Int32)) t => va_P (dC, dI) vwCl [(mq, .inr (12, mF (upd (upd (upd (upd (upd (upd (upd g 4 u.1) 5 u.2.1) 7 u.2.2.1) 8 u.2.2.2.1) 9 u.2.2.2.2.1) 10 u.2.2.2.2.2.1) 11 u.2.2.2.2.2.2.1) gl rf)), (eA0 (rf 0) (ck 0) 900 f_tape), (eA0 (rf 3) (ck 3) 118 f_words), (eA0 (rf 24) (ck 24) 14 u.2.2.2.2.2.2.2)] t.heap ∧ va_K (dC, dI) vwCl [] t ∧ va_D (va_A [(mq, .inr (12, mF g gl rf)), (eA0 (rf 0) (ck 0) 900 f_tape), (eA0 (rf 3) (ck 3) 118 f_words), (eA0 (rf 24) (ck 24) 14 f_sky)] sz) [(mq, .inr (12, mF (upd (upd (upd (upd (upd (upd (upd g 4 u.1) 5 u.2.1) 7 u.2.2.1) 8 u.2.2.2.1) 9 u.2.2.2.2.1) 10 u.2.2.2.2.2.1) 11 u.2.2.2.2.2.2.1) gl rf)), (eA0 (rf 0) (ck 0) 900 f_tape), (eA0 (rf 3) (ck 3) 118 f_words), (eA0 (rf 24) (ck 24) 14 u.2.2.2.2.2.2.2)]) (va_A [(mq, .inr (12, mF g gl rf)), (eA0 (rf 0) (ck 0) 900 f_tape), (eA0 (rf 3) (ck 3) 118 f_words), (eA0 (rf 24) (ck 24) 14 f_sky)] sz)) 0 0 (va_A [(mq, .inr (12, mF g gl rf)), (eA0 (rf 0) (ck 0) 900 f_tape), (eA0 (rf 3) (ck 3) 118 f_words), (eA0 (rf 24) (ck 24) 14 f_sky)] sz) := by
  refine Met.ofW (cc := cX12_roundRead) (maxL := 2) (ret := (some .boolean)) (by decide) rfl ?_
  intro p e s m args below meth c s₁ B hml hv
  obtain ⟨rfl, hsz, hP, hK, hD0⟩ := hv
  have hx := B.exec
  have hb := B.bytes
  have hr := B.returns
  have hts := atoms_spec (ws := Cond.code yX12_roundRead cX12_roundRead 2 (some .boolean) :: wsL_law) B.pre
  have htw : ∀ w ∈ wsL_law, w.before _ s = true := fun w h => hts w (List.mem_cons_of_mem _ h)
  have hown : s.vm.findClass RX12 = some m.cls := findClass_of_methodNamed B.named
  have hlocks := B.notSynchronized
  subst hsz
  have hD := hD0.self (sz := s.heap.size)
  generalize hAe : va_A [(mq, .inr (12, mF g gl rf)), (eA0 (rf 0) (ck 0) 900 f_tape), (eA0 (rf 3) (ck 3) 118 f_words), (eA0 (rf 24) (ck 24) 14 f_sky)] s.heap.size = A at hD ⊢
  have hA : ∀ q : Nat, s.heap.size ≤ q → A q := fun q h => by rw [← hAe]; exact Or.inr h
  obtain ⟨H, rH⟩ : ∃ z : Heap, z = s.heap := ⟨_, rfl⟩
  have hS : va_S A s.heap H [] := by rw [rH]; exact va_S.rf
  have hP : va_P (dC, dI) vwCl [(mq, .inr (12, mF g gl rf)), (eA0 (rf 0) (ck 0) 900 f_tape), (eA0 (rf 3) (ck 3) 118 f_words), (eA0 (rf 24) (ck 24) 14 f_sky)] H := by rw [rH]; exact hP
  rw [← rH]
  have hl := lv_entry ([.ref mq, .int 12]) (n := 2) (Nat.le_of_ble_eq_true rfl)
  rw [lg_entry_eq]
  generalize (lg_sl ([.ref mq, .int 12]) ++ List.replicate (2 - (lg_sl ([.ref mq, .int 12])).length) Slot.unset).toArray = ls at hl ⊢
  have hl : lv_has ls 2 [(0, .ref mq), (1, .int 12)] := hl
  refine lv_aload_n hx hb dX12_roundRead_0 rfl (lv_at hl 0 rfl) ?_
  refine lv_iconst (v := 1) hx hb dX12_roundRead_1 (by decide) ?_
  refine lv_sipush (v := 9999) hx hb dX12_roundRead_2 (by decide) ?_
  obtain ⟨hPc, hDc, hFc, hCc⟩ := zsub3 (ws' := [(mq, .inr (12, mF g gl rf)), (eA0 (rf 0) (ck 0) 900 f_tape), (eA0 (rf 3) (ck 3) 118 f_words)]) hP hD hS hA [0, 1, 2] (by decide) rfl
  have hKc := hK.sub (tys' := [((ck 0), .int), ((ck 3), .int)]) [0, 1] rfl
  refine va_calli (va_runV (As := [.int 1, .int 9999]) (rest := []) ⟨hx, hb, hml, hown, htw⟩ (gq_number l dC dI mq g gl rf ck f_tape f_words (1 : Int32) (9999 : Int32) H.size h0n hns hs9 hw7) (cwV 2 htw (xg_V (ck_26 _ (List.mem_of_getElem? (i := 13) rfl)) (ck_26 _ (List.mem_of_getElem? (i := 14) rfl)) (ck_26 _ (List.mem_of_getElem? (i := 15) rfl)) (ck_1 _ (List.mem_of_getElem? (i := 5) rfl)) (ck_26 _ (List.mem_of_getElem? (i := 16) rfl))) rfl rfl rfl (by exact ⟨rfl, hdc_14.1, hdc_14.2, hdd_8⟩) ⟨Nat.le_of_ble_eq_true rfl, Nat.le_of_ble_eq_true rfl⟩) ⟨fun a U g mk q => by obtain ⟨q0, q1, qP, qK, qD⟩ := q; exact ⟨q0, q1, qP, va_K.moved (u := U) (U := U.calling g mk a) (Vm.Alike.refl U.vm) qK, qD⟩, va_recv hKc hPc (ci := 12) (q0 := 0) rfl rfl, fun U hU hW => ⟨rfl, by rw [hU], by rw [hU]; exact hPc, va_K.moved hW.alike hKc, hDc.weaken (fun _ _ _ _ => trivial)⟩⟩ rfl rfl hl.1 rfl (lv_room (Nat.le_of_ble_eq_true rfl)) dX12_roundRead_5 ⟨Nat.le_of_ble_eq_true rfl, Nat.le_of_ble_eq_true rfl⟩) hS (fun q _ h => hFc q h) hFc (fun r_1 u_2 t H1 locs ht hvm hw hB hz1 hk1 hS => ?_)
  try dsimp only at hw
  obtain ⟨hP1, hK1, hD1⟩ := hB
  rw [ht] at hP1
  have hK1 := va_K.moved hvm.symm hK1
  have hK1 : va_K (dC, dI) vwCl [] s := hK1
  obtain ⟨hP, hD⟩ := va_join (wr := [(eA0 (rf 24) (ck 24) 14 f_sky)]) (w1 := [(mq, .inr (12, mF (upd (upd (upd (upd (upd (upd (upd g 4 u_2.2.2.2.2.2.1) 5 u_2.2.2.2.2.2.2) 7 u_2.1) 8 u_2.2.1) 9 u_2.2.2.1) 10 u_2.2.2.2.1) 11 u_2.2.2.2.2.1) gl rf)), (eA0 (rf 0) (ck 0) 900 f_tape), (eA0 (rf 3) (ck 3) 118 f_words)]) hP hD [0, 1, 2] [3] hCc rfl (by decide) (by decide) hk1 hFc hP1 hD1
  generalize H1 = H at hP hS ⊢
  have hP : va_P (dC, dI) vwCl [(eA0 (rf 24) (ck 24) 14 f_sky), (mq, .inr (12, mF (upd (upd (upd (upd (upd (upd (upd g 4 u_2.2.2.2.2.2.1) 5 u_2.2.2.2.2.2.2) 7 u_2.1) 8 u_2.2.1) 9 u_2.2.2.1) 10 u_2.2.2.2.1) 11 u_2.2.2.2.2.1) gl rf)), (eA0 (rf 0) (ck 0) 900 f_tape), (eA0 (rf 3) (ck 3) 118 f_words)] H := hP
  have hD : va_D A [(eA0 (rf 24) (ck 24) 14 f_sky), (mq, .inr (12, mF (upd (upd (upd (upd (upd (upd (upd g 4 u_2.2.2.2.2.2.1) 5 u_2.2.2.2.2.2.2) 7 u_2.1) 8 u_2.2.1) 9 u_2.2.2.1) 10 u_2.2.2.2.1) 11 u_2.2.2.2.2.1) gl rf)), (eA0 (rf 0) (ck 0) 900 f_tape), (eA0 (rf 3) (ck 3) 118 f_words)] := hD
  refine W.widen (k := 0) (n := 0) (by omega) (by omega) ?_
  obtain ⟨hw, hb_r_1, hp_10, hp_11, hp_12, hp_13⟩ := hw
  obtain ⟨X_14, hX_14⟩ : ∃ X9 : Int32 × (Int32) × (Int32) × (Int32) × (Int32) × (Int32) × (Int32) × (Int32), X9 = (fq_number f_tape f_words (1 : Int32) (9999 : Int32) (g 4) (g 5) (g 6) (g 7) (g 8) (g 9) (g 10) (g 11)) := ⟨_, rfl⟩
  have hq_r_1 : r_1 = X_14.1 := by rw [hX_14]; exact hw.1
  have hq_u_2 : u_2 = X_14.2 := by rw [hX_14]; exact hw.2
  refine lv_if_ne (tgt := 13) hx hb dX12_roundRead_8 (by decide) (fun c_15 => ?_) (fun c_15 => ?_)
  · refine lv_aload_n hx hb dX12_roundRead_13 rfl (lv_at hl 0 rfl) ?_
    refine va_get (D := (dC, dI)) (ci := 12) (v := .ref (rf 24)) (C := RX12) (T := TX12) (N := 76) hx hb htw inlX12 hown hK hP 1 rfl rfl 24 (by decide) (htw _ (ck_9 _ (List.mem_of_getElem? (i := 7) rfl))) (fun _ h9 => h9) rfl dX12_roundRead_14 ?_
    refine lv_iload_n hx hb dX12_roundRead_17 rfl (lv_at hl 1 rfl) ?_
    refine lv_aload_n hx hb dX12_roundRead_18 rfl (lv_at hl 0 rfl) ?_
    refine va_get (D := (dC, dI)) (ci := 12) (v := .int u_2.2.2.2.2.1) (C := RX12) (T := TX12) (N := 76) hx hb htw inlX12 hown hK hP 1 rfl rfl 11 (by decide) (htw _ (ck_26 _ (List.mem_of_getElem? (i := 5) rfl))) (fun _ h9 => h9) rfl dX12_roundRead_19 ?_
    refine va_iast hx hb hK hP hD hS 0 2 rfl rfl (by unfold vp_in; decide) dX12_roundRead_22 (fun H locs hP hD hS => ?_)
    have hP : va_P (dC, dI) vwCl [(eA0 (rf 24) (ck 24) 14 (upd f_sky ((12 : Int32).toNatClampNeg) u_2.2.2.2.2.1)), (mq, .inr (12, mF (upd (upd (upd (upd (upd (upd (upd g 4 u_2.2.2.2.2.2.1) 5 u_2.2.2.2.2.2.2) 7 u_2.1) 8 u_2.2.1) 9 u_2.2.2.1) 10 u_2.2.2.2.1) 11 u_2.2.2.2.2.1) gl rf)), (eA0 (rf 0) (ck 0) 900 f_tape), (eA0 (rf 3) (ck 3) 118 f_words)] H := hP
    have hD : va_D A [(eA0 (rf 24) (ck 24) 14 (upd f_sky ((12 : Int32).toNatClampNeg) u_2.2.2.2.2.1)), (mq, .inr (12, mF (upd (upd (upd (upd (upd (upd (upd g 4 u_2.2.2.2.2.2.1) 5 u_2.2.2.2.2.2.2) 7 u_2.1) 8 u_2.2.1) 9 u_2.2.2.1) 10 u_2.2.2.2.1) 11 u_2.2.2.2.2.1) gl rf)), (eA0 (rf 0) (ck 0) 900 f_tape), (eA0 (rf 3) (ck 3) 118 f_words)] := hD
    refine lv_aload_n hx hb dX12_roundRead_23 rfl (lv_at hl 0 rfl) ?_
    refine lv_iconst (v := 1) hx hb dX12_roundRead_24 (by decide) ?_
    refine lv_aload_n hx hb dX12_roundRead_25 rfl (lv_at hl 0 rfl) ?_
    refine va_get (D := (dC, dI)) (ci := 12) (v := .ref (rf 24)) (C := RX12) (T := TX12) (N := 76) hx hb htw inlX12 hown hK hP 1 rfl rfl 24 (by decide) (htw _ (ck_9 _ (List.mem_of_getElem? (i := 7) rfl))) (fun _ h9 => h9) rfl dX12_roundRead_26 ?_
    refine lv_iload_n hx hb dX12_roundRead_29 rfl (lv_at hl 1 rfl) ?_
    refine va_iald hx hb hK hP 0 2 rfl rfl (by unfold vp_in; decide) dX12_roundRead_30 ?_
    refine lv_bipush (v := 8) hx hb dX12_roundRead_31 (by decide) ?_
    refine lv_idiv hx hb dX12_roundRead_33 (by decide) ?_
    refine lv_bipush (v := 99) hx hb dX12_roundRead_34 (by decide) ?_
    obtain ⟨X_17, hX_17⟩ : ∃ X9 : (Int32) × (Int32) × (Int32) × (Int32) × (Int32) × (Int32) × (Int32) × (Int32) × (Nat → Int32), X9 = fq_roundRead12_j f_sky u_2 := ⟨_, rfl⟩
    have hjoin_18 : ∀ (S0j : Int32) (m_fault_j : Int32) (m_faultPlace_j : Int32) (m_next_j : Int32) (m_kind_j : Int32) (m_which_j : Int32) (m_at_j : Int32) (m_got_j : Int32) (f_sky_j : Nat → Int32) (hj0j : ¬ m_next_j < 0) (hj1j : m_next_j ≤ (g 6)) (hjSK : xSK f_sky_j) (hsm_sky_j : xSm 7 f_sky f_sky_j) (hE9 : X_17 = (S0j, m_fault_j, m_faultPlace_j, m_next_j, m_kind_j, m_which_j, m_at_j, m_got_j, f_sky_j)) (H : Heap) (locs : List Loc) (ls : Array Slot) (hP : va_P (dC, dI) vwCl [(eA0 (rf 24) (ck 24) 14 f_sky_j), (mq, .inr (12, mF (upd (upd (upd (upd (upd (upd (upd g 4 m_fault_j) 5 m_faultPlace_j) 7 m_next_j) 8 m_kind_j) 9 m_which_j) 10 m_at_j) 11 m_got_j) gl rf)), (eA0 (rf 0) (ck 0) 900 f_tape), (eA0 (rf 3) (ck 3) 118 f_words)] H) (hD : va_D A [(eA0 (rf 24) (ck 24) 14 f_sky_j), (mq, .inr (12, mF (upd (upd (upd (upd (upd (upd (upd g 4 m_fault_j) 5 m_faultPlace_j) 7 m_next_j) 8 m_kind_j) 9 m_which_j) 10 m_at_j) 11 m_got_j) gl rf)), (eA0 (rf 0) (ck 0) 900 f_tape), (eA0 (rf 3) (ck 3) 118 f_words)]) (hS : va_S A s.heap H locs) (hl : lv_has ls 2 [(0, .ref mq), (1, .int 12)]), W p l e (headSpec (Cond.code yX12_roundRead cX12_roundRead 2 (some .boolean) :: wsL_law) ({ frames := 3, cells := 0, slots := 0, locals := 69 })).room s m ([.ref mq, .int 12] : List Value).toArray below meth c H locs 0 0 (MQ below (va_Qi (fun (r : Int32) (u : (Int32) × (Int32) × (Int32) × (Int32) × (Int32) × (Int32) × (Int32) × (Nat → Int32)) => (r = (fq_roundRead12 f_tape f_words f_sky (g 4) (g 5) (g 6) (g 7) (g 8) (g 9) (g 10) (g 11)).1 ∧ u = (fq_roundRead12 f_tape f_words f_sky (g 4) (g 5) (g 6) (g 7) (g 8) (g 9) (g 10) (g 11)).2) ∧ (r = 0 ∨ r = 1) ∧ (¬ u.2.2.1 < 0) ∧ (u.2.2.1 ≤ (g 6)) ∧ (xSm 7 f_sky u.2.2.2.2.2.2.2) ∧ (r = 0 ∨ (xSK u.2.2.2.2.2.2.2))) (fun (u : (Int32) × (Int32) × (Int32) × (Int32) × (Int32) × (Int32) × (Int32) × (Nat → Int32)) t => va_P (dC, dI) vwCl [(mq, .inr (12, mF (upd (upd (upd (upd (upd (upd (upd g 4 u.1) 5 u.2.1) 7 u.2.2.1) 8 u.2.2.2.1) 9 u.2.2.2.2.1) 10 u.2.2.2.2.2.1) 11 u.2.2.2.2.2.2.1) gl rf)), (eA0 (rf 0) (ck 0) 900 f_tape), (eA0 (rf 3) (ck 3) 118 f_words), (eA0 (rf 24) (ck 24) 14 u.2.2.2.2.2.2.2)] t.heap ∧ va_K (dC, dI) vwCl [] t ∧ va_D A [(mq, .inr (12, mF (upd (upd (upd (upd (upd (upd (upd g 4 u.1) 5 u.2.1) 7 u.2.2.1) 8 u.2.2.2.1) 9 u.2.2.2.2.1) 10 u.2.2.2.2.2.1) 11 u.2.2.2.2.2.2.1) gl rf)), (eA0 (rf 0) (ck 0) 900 f_tape), (eA0 (rf 3) (ck 3) 118 f_words), (eA0 (rf 24) (ck 24) 14 u.2.2.2.2.2.2.2)]) A) ([.ref mq, .int 12] : List Value).toArray s 0 0 A) (F0 m 53 ls [.int S0j, .int 1, .ref mq]) := by
      intro S0j m_fault_j m_faultPlace_j m_next_j m_kind_j m_which_j m_at_j m_got_j f_sky_j hj0j hj1j hjSK hsm_sky_j hE9 H locs ls hP hD hS hl
      have hq_S0j : S0j = X_17.1 := by rw [hE9]
      have hq_m_fault_j : m_fault_j = X_17.2.1 := by rw [hE9]
      have hq_m_faultPlace_j : m_faultPlace_j = X_17.2.2.1 := by rw [hE9]
      have hq_m_next_j : m_next_j = X_17.2.2.2.1 := by rw [hE9]
      have hq_m_kind_j : m_kind_j = X_17.2.2.2.2.1 := by rw [hE9]
      have hq_m_which_j : m_which_j = X_17.2.2.2.2.2.1 := by rw [hE9]
      have hq_m_at_j : m_at_j = X_17.2.2.2.2.2.2.1 := by rw [hE9]
      have hq_m_got_j : m_got_j = X_17.2.2.2.2.2.2.2.1 := by rw [hE9]
      have hq_f_sky_j : f_sky_j = X_17.2.2.2.2.2.2.2.2 := by rw [hE9]
      obtain ⟨hPc, hDc, hFc, hCc⟩ := zsub3 (ws' := [(mq, .inr (12, mF (upd (upd (upd (upd (upd (upd (upd g 4 m_fault_j) 5 m_faultPlace_j) 7 m_next_j) 8 m_kind_j) 9 m_which_j) 10 m_at_j) 11 m_got_j) gl rf)), (eA0 (rf 0) (ck 0) 900 f_tape), (eA0 (rf 3) (ck 3) 118 f_words)]) hP hD hS hA [1, 2, 3] (by decide) rfl
      have hKc := hK.sub (tys' := [((ck 0), .int), ((ck 3), .int)]) [0, 1] rfl
      refine va_calli (va_runV (As := [.int 1, .int S0j]) (rest := []) ⟨hx, hb, hml, hown, htw⟩ (gq_number l dC dI mq (upd (upd (upd (upd (upd (upd (upd g 4 m_fault_j) 5 m_faultPlace_j) 7 m_next_j) 8 m_kind_j) 9 m_which_j) 10 m_at_j) 11 m_got_j) gl rf ck f_tape f_words (1 : Int32) S0j H.size hj0j hj1j hs9 hw7) (cwV 2 htw (xg_V (ck_26 _ (List.mem_of_getElem? (i := 13) rfl)) (ck_26 _ (List.mem_of_getElem? (i := 14) rfl)) (ck_26 _ (List.mem_of_getElem? (i := 15) rfl)) (ck_1 _ (List.mem_of_getElem? (i := 5) rfl)) (ck_26 _ (List.mem_of_getElem? (i := 16) rfl))) rfl rfl rfl (by exact ⟨rfl, hdc_14.1, hdc_14.2, hdd_8⟩) ⟨Nat.le_of_ble_eq_true rfl, Nat.le_of_ble_eq_true rfl⟩) ⟨fun a U g mk q => by obtain ⟨q0, q1, qP, qK, qD⟩ := q; exact ⟨q0, q1, qP, va_K.moved (u := U) (U := U.calling g mk a) (Vm.Alike.refl U.vm) qK, qD⟩, va_recv hKc hPc (ci := 12) (q0 := 0) rfl rfl, fun U hU hW => ⟨rfl, by rw [hU], by rw [hU]; exact hPc, va_K.moved hW.alike hKc, hDc.weaken (fun _ _ _ _ => trivial)⟩⟩ rfl rfl hl.1 rfl (lv_room (Nat.le_of_ble_eq_true rfl)) dX12_roundRead_53 ⟨Nat.le_of_ble_eq_true rfl, Nat.le_of_ble_eq_true rfl⟩) hS (fun q _ h => hFc q h) hFc (fun r_19 u_20 t H1 locs ht hvm hw hB hz1 hk1 hS => ?_)
      try dsimp only at hw
      obtain ⟨hP1, hK1, hD1⟩ := hB
      rw [ht] at hP1
      have hK1 := va_K.moved hvm.symm hK1
      have hK1 : va_K (dC, dI) vwCl [] s := hK1
      obtain ⟨hP, hD⟩ := va_join (wr := [(eA0 (rf 24) (ck 24) 14 f_sky_j)]) (w1 := [(mq, .inr (12, mF (upd (upd (upd (upd (upd (upd (upd g 4 u_20.2.2.2.2.2.1) 5 u_20.2.2.2.2.2.2) 7 u_20.1) 8 u_20.2.1) 9 u_20.2.2.1) 10 u_20.2.2.2.1) 11 u_20.2.2.2.2.1) gl rf)), (eA0 (rf 0) (ck 0) 900 f_tape), (eA0 (rf 3) (ck 3) 118 f_words)]) hP hD [1, 2, 3] [0] hCc rfl (by decide) (by decide) hk1 hFc hP1 hD1
      generalize H1 = H at hP hS ⊢
      have hP : va_P (dC, dI) vwCl [(eA0 (rf 24) (ck 24) 14 f_sky_j), (mq, .inr (12, mF (upd (upd (upd (upd (upd (upd (upd g 4 u_20.2.2.2.2.2.1) 5 u_20.2.2.2.2.2.2) 7 u_20.1) 8 u_20.2.1) 9 u_20.2.2.1) 10 u_20.2.2.2.1) 11 u_20.2.2.2.2.1) gl rf)), (eA0 (rf 0) (ck 0) 900 f_tape), (eA0 (rf 3) (ck 3) 118 f_words)] H := hP
      have hD : va_D A [(eA0 (rf 24) (ck 24) 14 f_sky_j), (mq, .inr (12, mF (upd (upd (upd (upd (upd (upd (upd g 4 u_20.2.2.2.2.2.1) 5 u_20.2.2.2.2.2.2) 7 u_20.1) 8 u_20.2.1) 9 u_20.2.2.1) 10 u_20.2.2.2.1) 11 u_20.2.2.2.2.1) gl rf)), (eA0 (rf 0) (ck 0) 900 f_tape), (eA0 (rf 3) (ck 3) 118 f_words)] := hD
      refine W.widen (k := 0) (n := 0) (by omega) (by omega) ?_
      obtain ⟨hw, hb_r_19, hp_28, hp_29, hp_30, hp_31⟩ := hw
      obtain ⟨X_32, hX_32⟩ : ∃ X9 : Int32 × (Int32) × (Int32) × (Int32) × (Int32) × (Int32) × (Int32) × (Int32), X9 = (fq_number f_tape f_words (1 : Int32) S0j m_fault_j m_faultPlace_j (g 6) m_next_j m_kind_j m_which_j m_at_j m_got_j) := ⟨_, rfl⟩
      have hq_r_19 : r_19 = X_32.1 := by rw [hX_32]; exact hw.1
      have hq_u_20 : u_20 = X_32.2 := by rw [hX_32]; exact hw.2
      refine lv_if_ne (tgt := 61) hx hb dX12_roundRead_56 (by decide) (fun c_33 => ?_) (fun c_33 => ?_)
      · refine lv_aload_n hx hb dX12_roundRead_61 rfl (lv_at hl 0 rfl) ?_
        refine va_get (D := (dC, dI)) (ci := 12) (v := .ref (rf 24)) (C := RX12) (T := TX12) (N := 76) hx hb htw inlX12 hown hK hP 1 rfl rfl 24 (by decide) (htw _ (ck_9 _ (List.mem_of_getElem? (i := 7) rfl))) (fun _ h9 => h9) rfl dX12_roundRead_62 ?_
        refine lv_iload_n hx hb dX12_roundRead_65 rfl (lv_at hl 1 rfl) ?_
        refine lv_iconst (v := 1) hx hb dX12_roundRead_66 (by decide) ?_
        refine lv_iadd hx hb dX12_roundRead_67 ?_
        refine lv_topi (fun z_34 ez_34 => ?_)
        obtain rfl : z_34 = 13 := ez_34.trans (by decide)
        refine lv_aload_n hx hb dX12_roundRead_68 rfl (lv_at hl 0 rfl) ?_
        refine va_get (D := (dC, dI)) (ci := 12) (v := .int u_20.2.2.2.2.1) (C := RX12) (T := TX12) (N := 76) hx hb htw inlX12 hown hK hP 1 rfl rfl 11 (by decide) (htw _ (ck_26 _ (List.mem_of_getElem? (i := 5) rfl))) (fun _ h9 => h9) rfl dX12_roundRead_69 ?_
        refine va_iast hx hb hK hP hD hS 0 2 rfl rfl (by unfold vp_in; decide) dX12_roundRead_72 (fun H locs hP hD hS => ?_)
        have hP : va_P (dC, dI) vwCl [(eA0 (rf 24) (ck 24) 14 (upd f_sky_j ((13 : Int32).toNatClampNeg) u_20.2.2.2.2.1)), (mq, .inr (12, mF (upd (upd (upd (upd (upd (upd (upd g 4 u_20.2.2.2.2.2.1) 5 u_20.2.2.2.2.2.2) 7 u_20.1) 8 u_20.2.1) 9 u_20.2.2.1) 10 u_20.2.2.2.1) 11 u_20.2.2.2.2.1) gl rf)), (eA0 (rf 0) (ck 0) 900 f_tape), (eA0 (rf 3) (ck 3) 118 f_words)] H := hP
        have hD : va_D A [(eA0 (rf 24) (ck 24) 14 (upd f_sky_j ((13 : Int32).toNatClampNeg) u_20.2.2.2.2.1)), (mq, .inr (12, mF (upd (upd (upd (upd (upd (upd (upd g 4 u_20.2.2.2.2.2.1) 5 u_20.2.2.2.2.2.2) 7 u_20.1) 8 u_20.2.1) 9 u_20.2.2.1) 10 u_20.2.2.2.1) 11 u_20.2.2.2.2.1) gl rf)), (eA0 (rf 0) (ck 0) 900 f_tape), (eA0 (rf 3) (ck 3) 118 f_words)] := hD
        refine lv_iconst (v := 1) hx hb dX12_roundRead_73 (by decide) ?_
        refine W.widen (k := 0) (n := 0) (by omega) (by omega) ?_
        obtain ⟨hP9, hD9⟩ := zsub2 (ws' := [(mq, .inr (12, mF (upd (upd (upd (upd (upd (upd (upd g 4 u_20.2.2.2.2.2.1) 5 u_20.2.2.2.2.2.2) 7 u_20.1) 8 u_20.2.1) 9 u_20.2.2.1) 10 u_20.2.2.2.1) 11 u_20.2.2.2.2.1) gl rf)), (eA0 (rf 0) (ck 0) 900 f_tape), (eA0 (rf 3) (ck 3) 118 f_words), (eA0 (rf 24) (ck 24) 14 (upd f_sky_j ((13 : Int32).toNatClampNeg) u_20.2.2.2.2.1))]) hP hD [1, 2, 3, 0] (by decide) rfl
        have hK9 := hK.sub (tys' := []) [] rfl
        exact W.zret (v := 1) hx hb hr (by first | rfl | decide) (fun t ht hW => ⟨⟨1, (u_20.2.2.2.2.2.1, u_20.2.2.2.2.2.2, u_20.1, u_20.2.1, u_20.2.2.1, u_20.2.2.2.1, u_20.2.2.2.2.1, (upd f_sky_j ((13 : Int32).toNatClampNeg) u_20.2.2.2.2.1)), rfl, ⟨((fun e9 => ⟨by rw [e9], by rw [e9]⟩ : fq_roundRead12 f_tape f_words f_sky (g 4) (g 5) (g 6) (g 7) (g 8) (g 9) (g 10) (g 11) = ((1 : Int32), u_20.2.2.2.2.2.1, u_20.2.2.2.2.2.2, u_20.1, u_20.2.1, u_20.2.2.1, u_20.2.2.2.1, u_20.2.2.2.2.1, (upd f_sky_j ((13 : Int32).toNatClampNeg) u_20.2.2.2.2.1)) → _) ((by rw [fq_roundRead12]; (try rw [← hX_14]); (try rw [xL_eq]); (try rw [← hq_r_1]); (try rw [← hq_u_2]); (try rw [if_neg c_15]); (try rw [← hX_17]); (try rw [xL_eq]); (try rw [← hq_S0j]); (try rw [← hq_m_fault_j]); (try rw [← hq_m_faultPlace_j]); (try rw [← hq_m_next_j]); (try rw [← hq_m_kind_j]); (try rw [← hq_m_which_j]); (try rw [← hq_m_at_j]); (try rw [← hq_m_got_j]); (try rw [← hq_f_sky_j]); (try rw [← hX_32]); (try rw [xL_eq]); (try rw [← hq_r_19]); (try rw [← hq_u_20]); (try rw [if_neg c_33]); try rfl))), Or.inr rfl, hp_28, hp_29, (xSm_w hsm_sky_j (by decide) (by decide)), (Or.inr (xSK_13 hjSK))⟩, by rw [ht]; exact hP9, va_K.moved hW.alike hK9, hD9⟩, hS.F ht⟩) hS.2.2 dX12_roundRead_74
      · refine lv_iconst (v := 0) hx hb dX12_roundRead_59 (by decide) ?_
        refine W.widen (k := 0) (n := 0) (by omega) (by omega) ?_
        obtain ⟨hP9, hD9⟩ := zsub2 (ws' := [(mq, .inr (12, mF (upd (upd (upd (upd (upd (upd (upd g 4 u_20.2.2.2.2.2.1) 5 u_20.2.2.2.2.2.2) 7 u_20.1) 8 u_20.2.1) 9 u_20.2.2.1) 10 u_20.2.2.2.1) 11 u_20.2.2.2.2.1) gl rf)), (eA0 (rf 0) (ck 0) 900 f_tape), (eA0 (rf 3) (ck 3) 118 f_words), (eA0 (rf 24) (ck 24) 14 f_sky_j)]) hP hD [1, 2, 3, 0] (by decide) rfl
        have hK9 := hK.sub (tys' := []) [] rfl
        exact W.zret (v := 0) hx hb hr (by first | rfl | decide) (fun t ht hW => ⟨⟨0, (u_20.2.2.2.2.2.1, u_20.2.2.2.2.2.2, u_20.1, u_20.2.1, u_20.2.2.1, u_20.2.2.2.1, u_20.2.2.2.2.1, f_sky_j), rfl, ⟨((fun e9 => ⟨by rw [e9], by rw [e9]⟩ : fq_roundRead12 f_tape f_words f_sky (g 4) (g 5) (g 6) (g 7) (g 8) (g 9) (g 10) (g 11) = ((0 : Int32), u_20.2.2.2.2.2.1, u_20.2.2.2.2.2.2, u_20.1, u_20.2.1, u_20.2.2.1, u_20.2.2.2.1, u_20.2.2.2.2.1, f_sky_j) → _) ((by rw [fq_roundRead12]; (try rw [← hX_14]); (try rw [xL_eq]); (try rw [← hq_r_1]); (try rw [← hq_u_2]); (try rw [if_neg c_15]); (try rw [← hX_17]); (try rw [xL_eq]); (try rw [← hq_S0j]); (try rw [← hq_m_fault_j]); (try rw [← hq_m_faultPlace_j]); (try rw [← hq_m_next_j]); (try rw [← hq_m_kind_j]); (try rw [← hq_m_which_j]); (try rw [← hq_m_at_j]); (try rw [← hq_m_got_j]); (try rw [← hq_f_sky_j]); (try rw [← hX_32]); (try rw [xL_eq]); (try rw [← hq_r_19]); (try rw [← hq_u_20]); (try rw [if_pos c_33]); try rfl))), Or.inl rfl, hp_28, hp_29, hsm_sky_j, (Or.inl rfl)⟩, by rw [ht]; exact hP9, va_K.moved hW.alike hK9, hD9⟩, hS.F ht⟩) hS.2.2 dX12_roundRead_60
    refine lv_icmp_ge (tgt := 51) hx hb dX12_roundRead_36 (by decide) (fun c_36 => ?_) (fun c_36 => ?_)
    · refine lv_bipush (v := 99) hx hb dX12_roundRead_51 (by decide) ?_
      exact hjoin_18 (99 : Int32) u_2.2.2.2.2.2.1 u_2.2.2.2.2.2.2 u_2.1 u_2.2.1 u_2.2.2.1 u_2.2.2.2.1 u_2.2.2.2.2.1 (upd f_sky ((12 : Int32).toNatClampNeg) u_2.2.2.2.2.1) hp_10 hp_11 (xSK_12 hSKu (hp_12.resolve_left c_15)) (xSm_w xSm_rf (by decide) (by decide)) (hX_17.trans (by rw [fq_roundRead12_j]; (try rw [if_pos c_36]); try rfl)) _ _ ls hP hD hS (lv_sub hl [0, 1] rfl)
    · refine lv_aload_n hx hb dX12_roundRead_39 rfl (lv_at hl 0 rfl) ?_
      refine va_get (D := (dC, dI)) (ci := 12) (v := .ref (rf 24)) (C := RX12) (T := TX12) (N := 76) hx hb htw inlX12 hown hK hP 1 rfl rfl 24 (by decide) (htw _ (ck_9 _ (List.mem_of_getElem? (i := 7) rfl))) (fun _ h9 => h9) rfl dX12_roundRead_40 ?_
      refine lv_iload_n hx hb dX12_roundRead_43 rfl (lv_at hl 1 rfl) ?_
      refine va_iald hx hb hK hP 0 2 rfl rfl (by unfold vp_in; decide) dX12_roundRead_44 ?_
      refine lv_bipush (v := 8) hx hb dX12_roundRead_45 (by decide) ?_
      refine lv_idiv hx hb dX12_roundRead_47 (by decide) ?_
      refine lv_goto (tgt := 53) hx hb dX12_roundRead_48 (by decide) ?_
      exact hjoin_18 (((upd f_sky ((12 : Int32).toNatClampNeg) u_2.2.2.2.2.1) ((12 : Int32).toNatClampNeg)) / 8) u_2.2.2.2.2.2.1 u_2.2.2.2.2.2.2 u_2.1 u_2.2.1 u_2.2.2.1 u_2.2.2.2.1 u_2.2.2.2.2.1 (upd f_sky ((12 : Int32).toNatClampNeg) u_2.2.2.2.2.1) hp_10 hp_11 (xSK_12 hSKu (hp_12.resolve_left c_15)) (xSm_w xSm_rf (by decide) (by decide)) (hX_17.trans (by rw [fq_roundRead12_j]; (try rw [if_neg c_36]); try rfl)) _ _ ls hP hD hS (lv_sub hl [0, 1] rfl)
  · refine lv_iconst (v := 0) hx hb dX12_roundRead_11 (by decide) ?_
    refine W.widen (k := 0) (n := 0) (by omega) (by omega) ?_
    obtain ⟨hP9, hD9⟩ := zsub2 (ws' := [(mq, .inr (12, mF (upd (upd (upd (upd (upd (upd (upd g 4 u_2.2.2.2.2.2.1) 5 u_2.2.2.2.2.2.2) 7 u_2.1) 8 u_2.2.1) 9 u_2.2.2.1) 10 u_2.2.2.2.1) 11 u_2.2.2.2.2.1) gl rf)), (eA0 (rf 0) (ck 0) 900 f_tape), (eA0 (rf 3) (ck 3) 118 f_words), (eA0 (rf 24) (ck 24) 14 f_sky)]) hP hD [1, 2, 3, 0] (by decide) rfl
    have hK9 := hK.sub (tys' := []) [] rfl
    exact W.zret (v := 0) hx hb hr (by first | rfl | decide) (fun t ht hW => ⟨⟨0, (u_2.2.2.2.2.2.1, u_2.2.2.2.2.2.2, u_2.1, u_2.2.1, u_2.2.2.1, u_2.2.2.2.1, u_2.2.2.2.2.1, f_sky), rfl, ⟨((fun e9 => ⟨by rw [e9], by rw [e9]⟩ : fq_roundRead12 f_tape f_words f_sky (g 4) (g 5) (g 6) (g 7) (g 8) (g 9) (g 10) (g 11) = ((0 : Int32), u_2.2.2.2.2.2.1, u_2.2.2.2.2.2.2, u_2.1, u_2.2.1, u_2.2.2.1, u_2.2.2.2.1, u_2.2.2.2.2.1, f_sky) → _) ((by rw [fq_roundRead12]; (try rw [← hX_14]); (try rw [xL_eq]); (try rw [← hq_r_1]); (try rw [← hq_u_2]); (try rw [if_pos c_15]); try rfl))), Or.inl rfl, hp_10, hp_11, xSm_rf, (Or.inl rfl)⟩, by rw [ht]; exact hP9, va_K.moved hW.alike hK9, hD9⟩, hS.F ht⟩) hS.2.2 dX12_roundRead_12

theorem gy_weekLine_s0 {y0 : Int32} (h0 : ¬ (y0 < 2)) : ¬ (y0 < 1) := by lia
theorem gy_weekLine_s1  : ¬ ((1 : Int32) < 0) := (by decide)
theorem gy_weekLine_s2  : (1 : Int32) ≤ 1 := (by decide)
theorem gy_weekLine_s3 {y0 : Int32} (h0 : y0 = 0) (h1 : y0 ≤ 1) : 1 = (y0 + 1) := by lia
theorem gy_weekLine_s4  : ¬ ((1 : Int32) < 0) := (by decide)
theorem gy_weekLine_s5  : (1 : Int32) ≤ 1 := (by decide)
theorem gy_weekLine_s6  : ¬ ((1 : Int32) < 0) := (by decide)
theorem gy_weekLine_s7  : (1 : Int32) ≤ 1 := (by decide)
set_option maxHeartbeats 4000000 in
set_option maxRecDepth 100000 in
theorem gy_weekLine (l : Launch) (dC : Nat → ClassId) (dI : Nat → Nat → Nat) (mq : Nat) (g : Nat → Int32) (gl : Nat → Int64) (rf : Nat → Nat) (ck : Nat → ClassId) (f_tape : Nat → Int32) (f_words : Nat → Int32) (f_sky : Nat → Int32) (sz : Nat) (h0n : ¬ (g 7) < 0) (hns : (g 7) ≤ (g 6)) (hs9 : (g 6) ≤ 900) (hw7 : (f_words 117) = 32) (hSKu : xSK f_sky) (ht0 : ¬ (g 25) < 0) (ht1 : (g 25) ≤ 1) : Met l yX12_weekLine (Cond.code yX12_weekLine cX12_weekLine 1 (some .boolean) :: wsL_law) ({ frames := 3, cells := 0, slots := 0, locals := 69 }) (va_Pc [.ref mq] (fun U => U.heap.size = sz ∧ va_P (dC, dI) vwCl [(mq, .inr (12, mF g gl rf)), (eA0 (rf 0) (ck 0) 900 f_tape), (eA0 (rf 3) (ck 3) 118 f_words), (eA0 (rf 24) (ck 24) 14 f_sky)] U.heap ∧ va_K (dC, dI) vwCl [((ck 0), .int), ((ck 3), .int), ((ck 24), .int)] U ∧ va_D (fun _ => True) [(mq, .inr (12, mF g gl rf)), (eA0 (rf 0) (ck 0) 900 f_tape), (eA0 (rf 3) (ck 3) 118 f_words), (eA0 (rf 24) (ck 24) 14 f_sky)])) (va_Qi (fun (r : Int32) (u : (Nat → Int32) × (Int32) × (Int32) × (Int32) × (Int32) × (Int32) × (Int32) × (Int32) × (Int32)) => (r = (fq_weekLine f_tape f_words f_sky (g 4) (g 5) (g 6) (g 7) (g 8) (g 9) (g 10) (g 11) (g 25)).1 ∧ u = (fq_weekLine f_tape f_words f_sky (g 4) (g 5) (g 6) (g 7) (g 8) (g 9) (g 10) (g 11) (g 25)).2) ∧ (r = 0 ∨ r = 1) ∧ (¬ u.2.2.2.1 < 0) ∧ (u.2.2.2.1 ≤ (g 6)) ∧ (xSm 7 f_sky u.1) ∧ (r = 0 ∨ (xSK u.1)) ∧ (¬ u.2.2.2.2.2.2.2.2 < 0) ∧ (u.2.2.2.2.2.2.2.2 ≤ 1) ∧ (r = 0 ∨ u.2.2.2.2.2.2.2.2 = ((g 25) + 1))) (fun (u : (Nat → Int32) × (Int32) × (Int32) × (Int32) × (Int32) × (Int32) × (Int32) × (Int32) × (Int32)) t => va_P (dC, dI) vwCl [(mq, .inr (12, mF (upd (upd (upd (upd (upd (upd (upd (upd g 4 u.2.1) 5 u.2.2.1) 7 u.2.2.2.1) 8 u.2.2.2.2.1) 9 u.2.2.2.2.2.1) 10 u.2.2.2.2.2.2.1) 11 u.2.2.2.2.2.2.2.1) 25 u.2.2.2.2.2.2.2.2) gl rf)), (eA0 (rf 0) (ck 0) 900 f_tape), (eA0 (rf 3) (ck 3) 118 f_words), (eA0 (rf 24) (ck 24) 14 u.1)] t.heap ∧ va_K (dC, dI) vwCl [] t ∧ va_D (va_A [(mq, .inr (12, mF g gl rf)), (eA0 (rf 0) (ck 0) 900 f_tape), (eA0 (rf 3) (ck 3) 118 f_words), (eA0 (rf 24) (ck 24) 14 f_sky)] sz) [(mq, .inr (12, mF (upd (upd (upd (upd (upd (upd (upd (upd g 4 u.2.1) 5 u.2.2.1) 7 u.2.2.2.1) 8 u.2.2.2.2.1) 9 u.2.2.2.2.2.1) 10 u.2.2.2.2.2.2.1) 11 u.2.2.2.2.2.2.2.1) 25 u.2.2.2.2.2.2.2.2) gl rf)), (eA0 (rf 0) (ck 0) 900 f_tape), (eA0 (rf 3) (ck 3) 118 f_words), (eA0 (rf 24) (ck 24) 14 u.1)]) (va_A [(mq, .inr (12, mF g gl rf)), (eA0 (rf 0) (ck 0) 900 f_tape), (eA0 (rf 3) (ck 3) 118 f_words), (eA0 (rf 24) (ck 24) 14 f_sky)] sz)) 0 0 (va_A [(mq, .inr (12, mF g gl rf)), (eA0 (rf 0) (ck 0) 900 f_tape), (eA0 (rf 3) (ck 3) 118 f_words), (eA0 (rf 24) (ck 24) 14 f_sky)] sz) := by
  refine Met.ofW (cc := cX12_weekLine) (maxL := 1) (ret := (some .boolean)) (by decide) rfl ?_
  intro p e s m args below meth c s₁ B hml hv
  obtain ⟨rfl, hsz, hP, hK, hD0⟩ := hv
  have hx := B.exec
  have hb := B.bytes
  have hr := B.returns
  have hts := atoms_spec (ws := Cond.code yX12_weekLine cX12_weekLine 1 (some .boolean) :: wsL_law) B.pre
  have htw : ∀ w ∈ wsL_law, w.before _ s = true := fun w h => hts w (List.mem_cons_of_mem _ h)
  have hown : s.vm.findClass RX12 = some m.cls := findClass_of_methodNamed B.named
  have hlocks := B.notSynchronized
  subst hsz
  have hD := hD0.self (sz := s.heap.size)
  generalize hAe : va_A [(mq, .inr (12, mF g gl rf)), (eA0 (rf 0) (ck 0) 900 f_tape), (eA0 (rf 3) (ck 3) 118 f_words), (eA0 (rf 24) (ck 24) 14 f_sky)] s.heap.size = A at hD ⊢
  have hA : ∀ q : Nat, s.heap.size ≤ q → A q := fun q h => by rw [← hAe]; exact Or.inr h
  obtain ⟨H, rH⟩ : ∃ z : Heap, z = s.heap := ⟨_, rfl⟩
  have hS : va_S A s.heap H [] := by rw [rH]; exact va_S.rf
  have hP : va_P (dC, dI) vwCl [(mq, .inr (12, mF g gl rf)), (eA0 (rf 0) (ck 0) 900 f_tape), (eA0 (rf 3) (ck 3) 118 f_words), (eA0 (rf 24) (ck 24) 14 f_sky)] H := by rw [rH]; exact hP
  rw [← rH]
  have hl := lv_entry ([.ref mq]) (n := 1) (Nat.le_of_ble_eq_true rfl)
  rw [lg_entry_eq]
  generalize (lg_sl ([.ref mq]) ++ List.replicate (1 - (lg_sl ([.ref mq])).length) Slot.unset).toArray = ls at hl ⊢
  have hl : lv_has ls 1 [(0, .ref mq)] := hl
  refine lv_aload_n hx hb dX12_weekLine_0 rfl (lv_at hl 0 rfl) ?_
  refine va_get (D := (dC, dI)) (ci := 12) (v := .int (g 25)) (C := RX12) (T := TX12) (N := 76) hx hb htw inlX12 hown hK hP 0 rfl rfl 25 (by decide) (htw _ (ck_11 _ (List.mem_of_getElem? (i := 2) rfl))) (fun _ h9 => h9) rfl dX12_weekLine_1 ?_
  refine lv_if_eq (tgt := 13) hx hb dX12_weekLine_4 (by decide) (fun c_1 => ?_) (fun c_1 => ?_)
  · refine lv_aload_n hx hb dX12_weekLine_13 rfl (lv_at hl 0 rfl) ?_
    refine lv_iconst (v := 1) hx hb dX12_weekLine_14 (by decide) ?_
    refine va_put (D := (dC, dI)) (ci := 12) (v := .int 1) (ty := tyX12 25) (C := RX12) (T := TX12) (N := 76) hx hb htw inlX12 tyX12 tyX12_ok nmX12 hown hK hP hD hS 0 rfl rfl 25 (by decide) (htw _ (ck_11 _ (List.mem_of_getElem? (i := 2) rfl))) (fun _ h9 => h9) rfl (tyX12_ok 25 (by decide)) rfl rfl (Nat.le_of_ble_eq_true rfl) dX12_weekLine_15 (fun H locs hP hD hS => ?_)
    obtain ⟨hP, hD⟩ := zre [(mq, .inr (12, mF (upd g 25 1) gl rf)), (eA0 (rf 0) (ck 0) 900 f_tape), (eA0 (rf 3) (ck 3) 118 f_words), (eA0 (rf 24) (ck 24) 14 f_sky)] hP hD rfl
    refine lv_aload_n hx hb dX12_weekLine_18 rfl (lv_at hl 0 rfl) ?_
    obtain ⟨hPc, hDc, hFc, hCc⟩ := zsub3 (ws' := [(mq, .inr (12, mF (upd g 25 1) gl rf)), (eA0 (rf 0) (ck 0) 900 f_tape), (eA0 (rf 3) (ck 3) 118 f_words)]) hP hD hS hA [0, 1, 2] (by decide) rfl
    have hKc := hK.sub (tys' := [((ck 0), .int), ((ck 3), .int)]) [0, 1] rfl
    refine va_callv (va_runV (As := []) (rest := []) ⟨hx, hb, hml, hown, htw⟩ (gy_token l dC dI mq (upd g 25 1) gl rf ck f_tape f_words H.size h0n hns hs9 hw7) (cwV 0 htw (xg_V (ck_24 _ (List.mem_of_getElem? (i := 14) rfl)) (ck_24 _ (List.mem_of_getElem? (i := 15) rfl)) (ck_24 _ (List.mem_of_getElem? (i := 16) rfl)) (ck_1 _ (List.mem_of_getElem? (i := 5) rfl)) (ck_24 _ (List.mem_of_getElem? (i := 17) rfl))) rfl rfl rfl (by exact ⟨rfl, hdc_14.1, hdc_14.2, hdd_13⟩) ⟨Nat.le_of_ble_eq_true rfl, Nat.le_of_ble_eq_true rfl⟩) ⟨fun a U g mk q => by obtain ⟨q0, q1, qP, qK, qD⟩ := q; exact ⟨q0, q1, qP, va_K.moved (u := U) (U := U.calling g mk a) (Vm.Alike.refl U.vm) qK, qD⟩, va_recv hKc hPc (ci := 12) (q0 := 0) rfl rfl, fun U hU hW => ⟨rfl, by rw [hU], by rw [hU]; exact hPc, va_K.moved hW.alike hKc, hDc.weaken (fun _ _ _ _ => trivial)⟩⟩ rfl rfl hl.1 rfl (lv_room (Nat.le_of_ble_eq_true rfl)) dX12_weekLine_19 ⟨Nat.le_of_ble_eq_true rfl, Nat.le_of_ble_eq_true rfl⟩) hS (fun q _ h => hFc q h) hFc (fun u_3 t H1 locs ht hvm hw hB hz1 hk1 hS => ?_)
    try dsimp only at hw
    obtain ⟨hP1, hK1, hD1⟩ := hB
    rw [ht] at hP1
    have hK1 := va_K.moved hvm.symm hK1
    have hK1 : va_K (dC, dI) vwCl [] s := hK1
    obtain ⟨hP, hD⟩ := va_join (wr := [(eA0 (rf 24) (ck 24) 14 f_sky)]) (w1 := [(mq, .inr (12, mF (upd (upd (upd (upd (upd g 7 u_3.1) 8 u_3.2.1) 9 u_3.2.2.1) 10 u_3.2.2.2) 25 1) gl rf)), (eA0 (rf 0) (ck 0) 900 f_tape), (eA0 (rf 3) (ck 3) 118 f_words)]) hP hD [0, 1, 2] [3] hCc rfl (by decide) (by decide) hk1 hFc hP1 hD1
    generalize H1 = H at hP hS ⊢
    have hP : va_P (dC, dI) vwCl [(eA0 (rf 24) (ck 24) 14 f_sky), (mq, .inr (12, mF (upd (upd (upd (upd (upd g 7 u_3.1) 8 u_3.2.1) 9 u_3.2.2.1) 10 u_3.2.2.2) 25 1) gl rf)), (eA0 (rf 0) (ck 0) 900 f_tape), (eA0 (rf 3) (ck 3) 118 f_words)] H := hP
    have hD : va_D A [(eA0 (rf 24) (ck 24) 14 f_sky), (mq, .inr (12, mF (upd (upd (upd (upd (upd g 7 u_3.1) 8 u_3.2.1) 9 u_3.2.2.1) 10 u_3.2.2.2) 25 1) gl rf)), (eA0 (rf 0) (ck 0) 900 f_tape), (eA0 (rf 3) (ck 3) 118 f_words)] := hD
    refine W.widen (k := 0) (n := 0) (by omega) (by omega) ?_
    obtain ⟨hw, hp_8, hp_9, hp_10⟩ := hw
    have hq_u_3 : u_3 = (fq_token f_tape f_words (g 6) (g 7) (g 9)) := hw
    refine lv_aload_n hx hb dX12_weekLine_22 rfl (lv_at hl 0 rfl) ?_
    refine lv_iconst (v := 2) hx hb dX12_weekLine_23 (by decide) ?_
    refine lv_bipush (v := 30) hx hb dX12_weekLine_24 (by decide) ?_
    obtain ⟨hPc, hDc, hFc, hCc⟩ := zsub3 (ws' := [(mq, .inr (12, mF (upd (upd (upd (upd (upd g 7 u_3.1) 8 u_3.2.1) 9 u_3.2.2.1) 10 u_3.2.2.2) 25 1) gl rf)), (eA0 (rf 0) (ck 0) 900 f_tape), (eA0 (rf 3) (ck 3) 118 f_words)]) hP hD hS hA [1, 2, 3] (by decide) rfl
    have hKc := hK.sub (tys' := [((ck 0), .int), ((ck 3), .int)]) [0, 1] rfl
    refine va_calli (va_runV (As := [.int 2, .int 30]) (rest := []) ⟨hx, hb, hml, hown, htw⟩ (gq_number l dC dI mq (upd (upd (upd (upd (upd g 7 u_3.1) 8 u_3.2.1) 9 u_3.2.2.1) 10 u_3.2.2.2) 25 1) gl rf ck f_tape f_words (2 : Int32) (30 : Int32) H.size hp_8 hp_9 hs9 hw7) (cwV 2 htw (xg_V (ck_26 _ (List.mem_of_getElem? (i := 13) rfl)) (ck_26 _ (List.mem_of_getElem? (i := 14) rfl)) (ck_26 _ (List.mem_of_getElem? (i := 15) rfl)) (ck_1 _ (List.mem_of_getElem? (i := 5) rfl)) (ck_26 _ (List.mem_of_getElem? (i := 16) rfl))) rfl rfl rfl (by exact ⟨rfl, hdc_14.1, hdc_14.2, hdd_8⟩) ⟨Nat.le_of_ble_eq_true rfl, Nat.le_of_ble_eq_true rfl⟩) ⟨fun a U g mk q => by obtain ⟨q0, q1, qP, qK, qD⟩ := q; exact ⟨q0, q1, qP, va_K.moved (u := U) (U := U.calling g mk a) (Vm.Alike.refl U.vm) qK, qD⟩, va_recv hKc hPc (ci := 12) (q0 := 0) rfl rfl, fun U hU hW => ⟨rfl, by rw [hU], by rw [hU]; exact hPc, va_K.moved hW.alike hKc, hDc.weaken (fun _ _ _ _ => trivial)⟩⟩ rfl rfl hl.1 rfl (lv_room (Nat.le_of_ble_eq_true rfl)) dX12_weekLine_26 ⟨Nat.le_of_ble_eq_true rfl, Nat.le_of_ble_eq_true rfl⟩) hS (fun q _ h => hFc q h) hFc (fun r_11 u_12 t H1 locs ht hvm hw hB hz1 hk1 hS => ?_)
    try dsimp only at hw
    obtain ⟨hP1, hK1, hD1⟩ := hB
    rw [ht] at hP1
    have hK1 := va_K.moved hvm.symm hK1
    have hK1 : va_K (dC, dI) vwCl [] s := hK1
    obtain ⟨hP, hD⟩ := va_join (wr := [(eA0 (rf 24) (ck 24) 14 f_sky)]) (w1 := [(mq, .inr (12, mF (upd (upd (upd (upd (upd (upd (upd (upd g 4 u_12.2.2.2.2.2.1) 5 u_12.2.2.2.2.2.2) 7 u_12.1) 8 u_12.2.1) 9 u_12.2.2.1) 10 u_12.2.2.2.1) 11 u_12.2.2.2.2.1) 25 1) gl rf)), (eA0 (rf 0) (ck 0) 900 f_tape), (eA0 (rf 3) (ck 3) 118 f_words)]) hP hD [1, 2, 3] [0] hCc rfl (by decide) (by decide) hk1 hFc hP1 hD1
    generalize H1 = H at hP hS ⊢
    have hP : va_P (dC, dI) vwCl [(eA0 (rf 24) (ck 24) 14 f_sky), (mq, .inr (12, mF (upd (upd (upd (upd (upd (upd (upd (upd g 4 u_12.2.2.2.2.2.1) 5 u_12.2.2.2.2.2.2) 7 u_12.1) 8 u_12.2.1) 9 u_12.2.2.1) 10 u_12.2.2.2.1) 11 u_12.2.2.2.2.1) 25 1) gl rf)), (eA0 (rf 0) (ck 0) 900 f_tape), (eA0 (rf 3) (ck 3) 118 f_words)] H := hP
    have hD : va_D A [(eA0 (rf 24) (ck 24) 14 f_sky), (mq, .inr (12, mF (upd (upd (upd (upd (upd (upd (upd (upd g 4 u_12.2.2.2.2.2.1) 5 u_12.2.2.2.2.2.2) 7 u_12.1) 8 u_12.2.1) 9 u_12.2.2.1) 10 u_12.2.2.2.1) 11 u_12.2.2.2.2.1) 25 1) gl rf)), (eA0 (rf 0) (ck 0) 900 f_tape), (eA0 (rf 3) (ck 3) 118 f_words)] := hD
    refine W.widen (k := 0) (n := 0) (by omega) (by omega) ?_
    obtain ⟨hw, hb_r_11, hp_20, hp_21, hp_22, hp_23⟩ := hw
    obtain ⟨X_24, hX_24⟩ : ∃ X9 : Int32 × (Int32) × (Int32) × (Int32) × (Int32) × (Int32) × (Int32) × (Int32), X9 = (fq_number f_tape f_words (2 : Int32) (30 : Int32) (g 4) (g 5) (g 6) u_3.1 u_3.2.1 u_3.2.2.1 u_3.2.2.2 (g 11)) := ⟨_, rfl⟩
    have hq_r_11 : r_11 = X_24.1 := by rw [hX_24]; exact hw.1
    have hq_u_12 : u_12 = X_24.2 := by rw [hX_24]; exact hw.2
    refine lv_if_ne (tgt := 34) hx hb dX12_weekLine_29 (by decide) (fun c_25 => ?_) (fun c_25 => ?_)
    · refine lv_aload_n hx hb dX12_weekLine_34 rfl (lv_at hl 0 rfl) ?_
      refine va_get (D := (dC, dI)) (ci := 12) (v := .ref (rf 24)) (C := RX12) (T := TX12) (N := 76) hx hb htw inlX12 hown hK hP 1 rfl rfl 24 (by decide) (htw _ (ck_9 _ (List.mem_of_getElem? (i := 7) rfl))) (fun _ h9 => h9) rfl dX12_weekLine_35 ?_
      refine lv_bipush (v := 7) hx hb dX12_weekLine_38 (by decide) ?_
      refine lv_aload_n hx hb dX12_weekLine_40 rfl (lv_at hl 0 rfl) ?_
      refine va_get (D := (dC, dI)) (ci := 12) (v := .int u_12.2.2.2.2.1) (C := RX12) (T := TX12) (N := 76) hx hb htw inlX12 hown hK hP 1 rfl rfl 11 (by decide) (htw _ (ck_26 _ (List.mem_of_getElem? (i := 5) rfl))) (fun _ h9 => h9) rfl dX12_weekLine_41 ?_
      refine va_iast hx hb hK hP hD hS 0 2 rfl rfl (by unfold vp_in; decide) dX12_weekLine_44 (fun H locs hP hD hS => ?_)
      have hP : va_P (dC, dI) vwCl [(eA0 (rf 24) (ck 24) 14 (upd f_sky ((7 : Int32).toNatClampNeg) u_12.2.2.2.2.1)), (mq, .inr (12, mF (upd (upd (upd (upd (upd (upd (upd (upd g 4 u_12.2.2.2.2.2.1) 5 u_12.2.2.2.2.2.2) 7 u_12.1) 8 u_12.2.1) 9 u_12.2.2.1) 10 u_12.2.2.2.1) 11 u_12.2.2.2.2.1) 25 1) gl rf)), (eA0 (rf 0) (ck 0) 900 f_tape), (eA0 (rf 3) (ck 3) 118 f_words)] H := hP
      have hD : va_D A [(eA0 (rf 24) (ck 24) 14 (upd f_sky ((7 : Int32).toNatClampNeg) u_12.2.2.2.2.1)), (mq, .inr (12, mF (upd (upd (upd (upd (upd (upd (upd (upd g 4 u_12.2.2.2.2.2.1) 5 u_12.2.2.2.2.2.2) 7 u_12.1) 8 u_12.2.1) 9 u_12.2.2.1) 10 u_12.2.2.2.1) 11 u_12.2.2.2.2.1) 25 1) gl rf)), (eA0 (rf 0) (ck 0) 900 f_tape), (eA0 (rf 3) (ck 3) 118 f_words)] := hD
      refine lv_aload_n hx hb dX12_weekLine_45 rfl (lv_at hl 0 rfl) ?_
      refine lv_iconst (v := 0) hx hb dX12_weekLine_46 (by decide) ?_
      refine lv_aload_n hx hb dX12_weekLine_47 rfl (lv_at hl 0 rfl) ?_
      refine va_get (D := (dC, dI)) (ci := 12) (v := .ref (rf 24)) (C := RX12) (T := TX12) (N := 76) hx hb htw inlX12 hown hK hP 1 rfl rfl 24 (by decide) (htw _ (ck_9 _ (List.mem_of_getElem? (i := 7) rfl))) (fun _ h9 => h9) rfl dX12_weekLine_48 ?_
      refine lv_bipush (v := 7) hx hb dX12_weekLine_51 (by decide) ?_
      refine va_iald hx hb hK hP 0 2 rfl rfl (by unfold vp_in; decide) dX12_weekLine_53 ?_
      refine lv_iconst (v := 1) hx hb dX12_weekLine_54 (by decide) ?_
      refine lv_isub hx hb dX12_weekLine_55 ?_
      obtain ⟨hPc, hDc, hFc, hCc⟩ := zsub3 (ws' := [(mq, .inr (12, mF (upd (upd (upd (upd (upd (upd (upd (upd g 4 u_12.2.2.2.2.2.1) 5 u_12.2.2.2.2.2.2) 7 u_12.1) 8 u_12.2.1) 9 u_12.2.2.1) 10 u_12.2.2.2.1) 11 u_12.2.2.2.2.1) 25 1) gl rf)), (eA0 (rf 0) (ck 0) 900 f_tape), (eA0 (rf 3) (ck 3) 118 f_words)]) hP hD hS hA [1, 2, 3] (by decide) rfl
      have hKc := hK.sub (tys' := [((ck 0), .int), ((ck 3), .int)]) [0, 1] rfl
      refine va_calli (va_runV (As := [.int 0, .int (((upd f_sky ((7 : Int32).toNatClampNeg) u_12.2.2.2.2.1) ((7 : Int32).toNatClampNeg)) - 1)]) (rest := []) ⟨hx, hb, hml, hown, htw⟩ (gq_number l dC dI mq (upd (upd (upd (upd (upd (upd (upd (upd g 4 u_12.2.2.2.2.2.1) 5 u_12.2.2.2.2.2.2) 7 u_12.1) 8 u_12.2.1) 9 u_12.2.2.1) 10 u_12.2.2.2.1) 11 u_12.2.2.2.2.1) 25 1) gl rf ck f_tape f_words (0 : Int32) (((upd f_sky ((7 : Int32).toNatClampNeg) u_12.2.2.2.2.1) ((7 : Int32).toNatClampNeg)) - 1) H.size hp_20 hp_21 hs9 hw7) (cwV 2 htw (xg_V (ck_26 _ (List.mem_of_getElem? (i := 13) rfl)) (ck_26 _ (List.mem_of_getElem? (i := 14) rfl)) (ck_26 _ (List.mem_of_getElem? (i := 15) rfl)) (ck_1 _ (List.mem_of_getElem? (i := 5) rfl)) (ck_26 _ (List.mem_of_getElem? (i := 16) rfl))) rfl rfl rfl (by exact ⟨rfl, hdc_14.1, hdc_14.2, hdd_8⟩) ⟨Nat.le_of_ble_eq_true rfl, Nat.le_of_ble_eq_true rfl⟩) ⟨fun a U g mk q => by obtain ⟨q0, q1, qP, qK, qD⟩ := q; exact ⟨q0, q1, qP, va_K.moved (u := U) (U := U.calling g mk a) (Vm.Alike.refl U.vm) qK, qD⟩, va_recv hKc hPc (ci := 12) (q0 := 0) rfl rfl, fun U hU hW => ⟨rfl, by rw [hU], by rw [hU]; exact hPc, va_K.moved hW.alike hKc, hDc.weaken (fun _ _ _ _ => trivial)⟩⟩ rfl rfl hl.1 rfl (lv_room (Nat.le_of_ble_eq_true rfl)) dX12_weekLine_56 ⟨Nat.le_of_ble_eq_true rfl, Nat.le_of_ble_eq_true rfl⟩) hS (fun q _ h => hFc q h) hFc (fun r_27 u_28 t H1 locs ht hvm hw hB hz1 hk1 hS => ?_)
      try dsimp only at hw
      obtain ⟨hP1, hK1, hD1⟩ := hB
      rw [ht] at hP1
      have hK1 := va_K.moved hvm.symm hK1
      have hK1 : va_K (dC, dI) vwCl [] s := hK1
      obtain ⟨hP, hD⟩ := va_join (wr := [(eA0 (rf 24) (ck 24) 14 (upd f_sky ((7 : Int32).toNatClampNeg) u_12.2.2.2.2.1))]) (w1 := [(mq, .inr (12, mF (upd (upd (upd (upd (upd (upd (upd (upd g 4 u_28.2.2.2.2.2.1) 5 u_28.2.2.2.2.2.2) 7 u_28.1) 8 u_28.2.1) 9 u_28.2.2.1) 10 u_28.2.2.2.1) 11 u_28.2.2.2.2.1) 25 1) gl rf)), (eA0 (rf 0) (ck 0) 900 f_tape), (eA0 (rf 3) (ck 3) 118 f_words)]) hP hD [1, 2, 3] [0] hCc rfl (by decide) (by decide) hk1 hFc hP1 hD1
      generalize H1 = H at hP hS ⊢
      have hP : va_P (dC, dI) vwCl [(eA0 (rf 24) (ck 24) 14 (upd f_sky ((7 : Int32).toNatClampNeg) u_12.2.2.2.2.1)), (mq, .inr (12, mF (upd (upd (upd (upd (upd (upd (upd (upd g 4 u_28.2.2.2.2.2.1) 5 u_28.2.2.2.2.2.2) 7 u_28.1) 8 u_28.2.1) 9 u_28.2.2.1) 10 u_28.2.2.2.1) 11 u_28.2.2.2.2.1) 25 1) gl rf)), (eA0 (rf 0) (ck 0) 900 f_tape), (eA0 (rf 3) (ck 3) 118 f_words)] H := hP
      have hD : va_D A [(eA0 (rf 24) (ck 24) 14 (upd f_sky ((7 : Int32).toNatClampNeg) u_12.2.2.2.2.1)), (mq, .inr (12, mF (upd (upd (upd (upd (upd (upd (upd (upd g 4 u_28.2.2.2.2.2.1) 5 u_28.2.2.2.2.2.2) 7 u_28.1) 8 u_28.2.1) 9 u_28.2.2.1) 10 u_28.2.2.2.1) 11 u_28.2.2.2.2.1) 25 1) gl rf)), (eA0 (rf 0) (ck 0) 900 f_tape), (eA0 (rf 3) (ck 3) 118 f_words)] := hD
      refine W.widen (k := 0) (n := 0) (by omega) (by omega) ?_
      obtain ⟨hw, hb_r_27, hp_36, hp_37, hp_38, hp_39⟩ := hw
      obtain ⟨X_40, hX_40⟩ : ∃ X9 : Int32 × (Int32) × (Int32) × (Int32) × (Int32) × (Int32) × (Int32) × (Int32), X9 = (fq_number f_tape f_words (0 : Int32) (((upd f_sky ((7 : Int32).toNatClampNeg) u_12.2.2.2.2.1) ((7 : Int32).toNatClampNeg)) - 1) u_12.2.2.2.2.2.1 u_12.2.2.2.2.2.2 (g 6) u_12.1 u_12.2.1 u_12.2.2.1 u_12.2.2.2.1 u_12.2.2.2.2.1) := ⟨_, rfl⟩
      have hq_r_27 : r_27 = X_40.1 := by rw [hX_40]; exact hw.1
      have hq_u_28 : u_28 = X_40.2 := by rw [hX_40]; exact hw.2
      refine lv_if_ne (tgt := 64) hx hb dX12_weekLine_59 (by decide) (fun c_41 => ?_) (fun c_41 => ?_)
      · refine lv_aload_n hx hb dX12_weekLine_64 rfl (lv_at hl 0 rfl) ?_
        refine va_get (D := (dC, dI)) (ci := 12) (v := .ref (rf 24)) (C := RX12) (T := TX12) (N := 76) hx hb htw inlX12 hown hK hP 1 rfl rfl 24 (by decide) (htw _ (ck_9 _ (List.mem_of_getElem? (i := 7) rfl))) (fun _ h9 => h9) rfl dX12_weekLine_65 ?_
        refine lv_bipush (v := 8) hx hb dX12_weekLine_68 (by decide) ?_
        refine lv_aload_n hx hb dX12_weekLine_70 rfl (lv_at hl 0 rfl) ?_
        refine va_get (D := (dC, dI)) (ci := 12) (v := .int u_28.2.2.2.2.1) (C := RX12) (T := TX12) (N := 76) hx hb htw inlX12 hown hK hP 1 rfl rfl 11 (by decide) (htw _ (ck_26 _ (List.mem_of_getElem? (i := 5) rfl))) (fun _ h9 => h9) rfl dX12_weekLine_71 ?_
        refine va_iast hx hb hK hP hD hS 0 2 rfl rfl (by unfold vp_in; decide) dX12_weekLine_74 (fun H locs hP hD hS => ?_)
        have hP : va_P (dC, dI) vwCl [(eA0 (rf 24) (ck 24) 14 (upd (upd f_sky ((7 : Int32).toNatClampNeg) u_12.2.2.2.2.1) ((8 : Int32).toNatClampNeg) u_28.2.2.2.2.1)), (mq, .inr (12, mF (upd (upd (upd (upd (upd (upd (upd (upd g 4 u_28.2.2.2.2.2.1) 5 u_28.2.2.2.2.2.2) 7 u_28.1) 8 u_28.2.1) 9 u_28.2.2.1) 10 u_28.2.2.2.1) 11 u_28.2.2.2.2.1) 25 1) gl rf)), (eA0 (rf 0) (ck 0) 900 f_tape), (eA0 (rf 3) (ck 3) 118 f_words)] H := hP
        have hD : va_D A [(eA0 (rf 24) (ck 24) 14 (upd (upd f_sky ((7 : Int32).toNatClampNeg) u_12.2.2.2.2.1) ((8 : Int32).toNatClampNeg) u_28.2.2.2.2.1)), (mq, .inr (12, mF (upd (upd (upd (upd (upd (upd (upd (upd g 4 u_28.2.2.2.2.2.1) 5 u_28.2.2.2.2.2.2) 7 u_28.1) 8 u_28.2.1) 9 u_28.2.2.1) 10 u_28.2.2.2.1) 11 u_28.2.2.2.2.1) 25 1) gl rf)), (eA0 (rf 0) (ck 0) 900 f_tape), (eA0 (rf 3) (ck 3) 118 f_words)] := hD
        refine lv_iconst (v := 1) hx hb dX12_weekLine_75 (by decide) ?_
        refine W.widen (k := 0) (n := 0) (by omega) (by omega) ?_
        obtain ⟨hP9, hD9⟩ := zsub2 (ws' := [(mq, .inr (12, mF (upd (upd (upd (upd (upd (upd (upd (upd g 4 u_28.2.2.2.2.2.1) 5 u_28.2.2.2.2.2.2) 7 u_28.1) 8 u_28.2.1) 9 u_28.2.2.1) 10 u_28.2.2.2.1) 11 u_28.2.2.2.2.1) 25 1) gl rf)), (eA0 (rf 0) (ck 0) 900 f_tape), (eA0 (rf 3) (ck 3) 118 f_words), (eA0 (rf 24) (ck 24) 14 (upd (upd f_sky ((7 : Int32).toNatClampNeg) u_12.2.2.2.2.1) ((8 : Int32).toNatClampNeg) u_28.2.2.2.2.1))]) hP hD [1, 2, 3, 0] (by decide) rfl
        have hK9 := hK.sub (tys' := []) [] rfl
        exact W.zret (v := 1) hx hb hr (by first | rfl | decide) (fun t ht hW => ⟨⟨1, ((upd (upd f_sky ((7 : Int32).toNatClampNeg) u_12.2.2.2.2.1) ((8 : Int32).toNatClampNeg) u_28.2.2.2.2.1), u_28.2.2.2.2.2.1, u_28.2.2.2.2.2.2, u_28.1, u_28.2.1, u_28.2.2.1, u_28.2.2.2.1, u_28.2.2.2.2.1, 1), rfl, ⟨((fun e9 => ⟨by rw [e9], by rw [e9]⟩ : fq_weekLine f_tape f_words f_sky (g 4) (g 5) (g 6) (g 7) (g 8) (g 9) (g 10) (g 11) (g 25) = ((1 : Int32), (upd (upd f_sky ((7 : Int32).toNatClampNeg) u_12.2.2.2.2.1) ((8 : Int32).toNatClampNeg) u_28.2.2.2.2.1), u_28.2.2.2.2.2.1, u_28.2.2.2.2.2.2, u_28.1, u_28.2.1, u_28.2.2.1, u_28.2.2.2.1, u_28.2.2.2.2.1, (1 : Int32)) → _) ((by rw [fq_weekLine]; (try rw [if_pos c_1]); (try rw [← hq_u_3]); (try rw [xL_eq]); (try rw [← hX_24]); (try rw [xL_eq]); (try rw [← hq_r_11]); (try rw [← hq_u_12]); (try rw [if_neg c_25]); (try rw [← hX_40]); (try rw [xL_eq]); (try rw [← hq_r_27]); (try rw [← hq_u_28]); (try rw [if_neg c_41]); try rfl))), Or.inr rfl, hp_36, hp_37, (xSm_w (xSm_w xSm_rf (by decide) (by decide)) (by decide) (by decide)), (Or.inr (xSK_8 (xSK_7 hSKu (gy_weekLine_s0 (y0 := u_12.2.2.2.2.1) (hp_22.resolve_left c_25))))), (gy_weekLine_s1 ), (gy_weekLine_s2 ), (Or.inr (gy_weekLine_s3 (y0 := g 25) c_1 ht1))⟩, by rw [ht]; exact hP9, va_K.moved hW.alike hK9, hD9⟩, hS.F ht⟩) hS.2.2 dX12_weekLine_76
      · refine lv_iconst (v := 0) hx hb dX12_weekLine_62 (by decide) ?_
        refine W.widen (k := 0) (n := 0) (by omega) (by omega) ?_
        obtain ⟨hP9, hD9⟩ := zsub2 (ws' := [(mq, .inr (12, mF (upd (upd (upd (upd (upd (upd (upd (upd g 4 u_28.2.2.2.2.2.1) 5 u_28.2.2.2.2.2.2) 7 u_28.1) 8 u_28.2.1) 9 u_28.2.2.1) 10 u_28.2.2.2.1) 11 u_28.2.2.2.2.1) 25 1) gl rf)), (eA0 (rf 0) (ck 0) 900 f_tape), (eA0 (rf 3) (ck 3) 118 f_words), (eA0 (rf 24) (ck 24) 14 (upd f_sky ((7 : Int32).toNatClampNeg) u_12.2.2.2.2.1))]) hP hD [1, 2, 3, 0] (by decide) rfl
        have hK9 := hK.sub (tys' := []) [] rfl
        exact W.zret (v := 0) hx hb hr (by first | rfl | decide) (fun t ht hW => ⟨⟨0, ((upd f_sky ((7 : Int32).toNatClampNeg) u_12.2.2.2.2.1), u_28.2.2.2.2.2.1, u_28.2.2.2.2.2.2, u_28.1, u_28.2.1, u_28.2.2.1, u_28.2.2.2.1, u_28.2.2.2.2.1, 1), rfl, ⟨((fun e9 => ⟨by rw [e9], by rw [e9]⟩ : fq_weekLine f_tape f_words f_sky (g 4) (g 5) (g 6) (g 7) (g 8) (g 9) (g 10) (g 11) (g 25) = ((0 : Int32), (upd f_sky ((7 : Int32).toNatClampNeg) u_12.2.2.2.2.1), u_28.2.2.2.2.2.1, u_28.2.2.2.2.2.2, u_28.1, u_28.2.1, u_28.2.2.1, u_28.2.2.2.1, u_28.2.2.2.2.1, (1 : Int32)) → _) ((by rw [fq_weekLine]; (try rw [if_pos c_1]); (try rw [← hq_u_3]); (try rw [xL_eq]); (try rw [← hX_24]); (try rw [xL_eq]); (try rw [← hq_r_11]); (try rw [← hq_u_12]); (try rw [if_neg c_25]); (try rw [← hX_40]); (try rw [xL_eq]); (try rw [← hq_r_27]); (try rw [← hq_u_28]); (try rw [if_pos c_41]); try rfl))), Or.inl rfl, hp_36, hp_37, (xSm_w xSm_rf (by decide) (by decide)), (Or.inl rfl), (gy_weekLine_s4 ), (gy_weekLine_s5 ), Or.inl rfl⟩, by rw [ht]; exact hP9, va_K.moved hW.alike hK9, hD9⟩, hS.F ht⟩) hS.2.2 dX12_weekLine_63
    · refine lv_iconst (v := 0) hx hb dX12_weekLine_32 (by decide) ?_
      refine W.widen (k := 0) (n := 0) (by omega) (by omega) ?_
      obtain ⟨hP9, hD9⟩ := zsub2 (ws' := [(mq, .inr (12, mF (upd (upd (upd (upd (upd (upd (upd (upd g 4 u_12.2.2.2.2.2.1) 5 u_12.2.2.2.2.2.2) 7 u_12.1) 8 u_12.2.1) 9 u_12.2.2.1) 10 u_12.2.2.2.1) 11 u_12.2.2.2.2.1) 25 1) gl rf)), (eA0 (rf 0) (ck 0) 900 f_tape), (eA0 (rf 3) (ck 3) 118 f_words), (eA0 (rf 24) (ck 24) 14 f_sky)]) hP hD [1, 2, 3, 0] (by decide) rfl
      have hK9 := hK.sub (tys' := []) [] rfl
      exact W.zret (v := 0) hx hb hr (by first | rfl | decide) (fun t ht hW => ⟨⟨0, (f_sky, u_12.2.2.2.2.2.1, u_12.2.2.2.2.2.2, u_12.1, u_12.2.1, u_12.2.2.1, u_12.2.2.2.1, u_12.2.2.2.2.1, 1), rfl, ⟨((fun e9 => ⟨by rw [e9], by rw [e9]⟩ : fq_weekLine f_tape f_words f_sky (g 4) (g 5) (g 6) (g 7) (g 8) (g 9) (g 10) (g 11) (g 25) = ((0 : Int32), f_sky, u_12.2.2.2.2.2.1, u_12.2.2.2.2.2.2, u_12.1, u_12.2.1, u_12.2.2.1, u_12.2.2.2.1, u_12.2.2.2.2.1, (1 : Int32)) → _) ((by rw [fq_weekLine]; (try rw [if_pos c_1]); (try rw [← hq_u_3]); (try rw [xL_eq]); (try rw [← hX_24]); (try rw [xL_eq]); (try rw [← hq_r_11]); (try rw [← hq_u_12]); (try rw [if_pos c_25]); try rfl))), Or.inl rfl, hp_20, hp_21, xSm_rf, (Or.inl rfl), (gy_weekLine_s6 ), (gy_weekLine_s7 ), Or.inl rfl⟩, by rw [ht]; exact hP9, va_K.moved hW.alike hK9, hD9⟩, hS.F ht⟩) hS.2.2 dX12_weekLine_33
  · refine lv_aload_n hx hb dX12_weekLine_7 rfl (lv_at hl 0 rfl) ?_
    refine lv_iconst (v := 3) hx hb dX12_weekLine_8 (by decide) ?_
    obtain ⟨hPc, hDc, hFc, hCc⟩ := zsub3 (ws' := [(mq, .inr (12, mF g gl rf))]) hP hD hS hA [0] (by decide) rfl
    have hKc := hK.sub (tys' := []) [] rfl
    refine va_calli (va_runV (As := [.int 3]) (rest := []) ⟨hx, hb, hml, hown, htw⟩ (gq_wrong l dC dI mq g gl rf (3 : Int32) H.size) (cwV 1 htw (xg_V (ck_25 _ (List.mem_of_getElem? (i := 21) rfl)) (ck_25 _ (List.mem_of_getElem? (i := 22) rfl)) (ck_25 _ (List.mem_of_getElem? (i := 23) rfl)) (ck_1 _ (List.mem_of_getElem? (i := 5) rfl)) (ck_26 _ (List.mem_of_getElem? (i := 0) rfl))) rfl rfl rfl (by exact ⟨rfl, hdc_14.1, hdc_14.2, hdd_26⟩) ⟨Nat.le_of_ble_eq_true rfl, Nat.le_of_ble_eq_true rfl⟩) ⟨fun a U g mk q => by obtain ⟨q0, q1, qP, qK, qD⟩ := q; exact ⟨q0, q1, qP, va_K.moved (u := U) (U := U.calling g mk a) (Vm.Alike.refl U.vm) qK, qD⟩, va_recv hKc hPc (ci := 12) (q0 := 0) rfl rfl, fun U hU hW => ⟨rfl, by rw [hU], by rw [hU]; exact hPc, va_K.moved hW.alike hKc, hDc.weaken (fun _ _ _ _ => trivial)⟩⟩ rfl rfl hl.1 rfl (lv_room (Nat.le_of_ble_eq_true rfl)) dX12_weekLine_9 ⟨Nat.le_of_ble_eq_true rfl, Nat.le_of_ble_eq_true rfl⟩) hS (fun q _ h => hFc q h) hFc (fun r_43 u_44 t H1 locs ht hvm hw hB hz1 hk1 hS => ?_)
    try dsimp only at hw
    obtain ⟨hP1, hK1, hD1⟩ := hB
    rw [ht] at hP1
    have hK1 := va_K.moved hvm.symm hK1
    have hK1 : va_K (dC, dI) vwCl [] s := hK1
    obtain ⟨hP, hD⟩ := va_join (wr := [(eA0 (rf 0) (ck 0) 900 f_tape), (eA0 (rf 3) (ck 3) 118 f_words), (eA0 (rf 24) (ck 24) 14 f_sky)]) (w1 := [(mq, .inr (12, mF (upd (upd g 4 u_44.1) 5 u_44.2) gl rf))]) hP hD [0] [1, 2, 3] hCc rfl (by decide) (by decide) hk1 hFc hP1 hD1
    generalize H1 = H at hP hS ⊢
    have hP : va_P (dC, dI) vwCl [(eA0 (rf 0) (ck 0) 900 f_tape), (eA0 (rf 3) (ck 3) 118 f_words), (eA0 (rf 24) (ck 24) 14 f_sky), (mq, .inr (12, mF (upd (upd g 4 u_44.1) 5 u_44.2) gl rf))] H := hP
    have hD : va_D A [(eA0 (rf 0) (ck 0) 900 f_tape), (eA0 (rf 3) (ck 3) 118 f_words), (eA0 (rf 24) (ck 24) 14 f_sky), (mq, .inr (12, mF (upd (upd g 4 u_44.1) 5 u_44.2) gl rf))] := hD
    refine W.widen (k := 0) (n := 0) (by omega) (by omega) ?_
    obtain ⟨hw, hb_r_43, hp_47⟩ := hw
    obtain ⟨X_48, hX_48⟩ : ∃ X9 : Int32 × (Int32) × (Int32), X9 = (fq_wrong (3 : Int32) (g 10)) := ⟨_, rfl⟩
    have hq_r_43 : r_43 = X_48.1 := by rw [hX_48]; exact hw.1
    have hq_u_44 : u_44 = X_48.2 := by rw [hX_48]; exact hw.2
    refine W.widen (k := 0) (n := 0) (by omega) (by omega) ?_
    obtain ⟨hP9, hD9⟩ := zsub2 (ws' := [(mq, .inr (12, mF (upd (upd g 4 u_44.1) 5 u_44.2) gl rf)), (eA0 (rf 0) (ck 0) 900 f_tape), (eA0 (rf 3) (ck 3) 118 f_words), (eA0 (rf 24) (ck 24) 14 f_sky)]) hP hD [3, 0, 1, 2] (by decide) rfl
    have hK9 := hK.sub (tys' := []) [] rfl
    exact W.zret (v := r_43) hx hb hr (xz_nar hb_r_43) (fun t ht hW => ⟨⟨r_43, (f_sky, u_44.1, u_44.2, (g 7), (g 8), (g 9), (g 10), (g 11), (g 25)), rfl, ⟨((fun e9 => ⟨by rw [e9], by rw [e9]⟩ : fq_weekLine f_tape f_words f_sky (g 4) (g 5) (g 6) (g 7) (g 8) (g 9) (g 10) (g 11) (g 25) = (r_43, f_sky, u_44.1, u_44.2, (g 7), (g 8), (g 9), (g 10), (g 11), (g 25)) → _) ((by rw [fq_weekLine]; (try rw [if_neg c_1]); (try rw [← hX_48]); (try rw [xL_eq]); (try rw [← hq_r_43]); (try rw [← hq_u_44]); try rfl))), hb_r_43, h0n, hns, xSm_rf, (Or.inl hp_47), ht0, ht1, (Or.inl hp_47)⟩, by rw [ht]; exact hP9, va_K.moved hW.alike hK9, hD9⟩, hS.F ht⟩) hS.2.2 dX12_weekLine_12

theorem gy_moonLine_s0  : ¬ ((1 : Int32) < 0) := (by decide)
theorem gy_moonLine_s1  : (1 : Int32) ≤ 1 := (by decide)
theorem gy_moonLine_s2  : ¬ ((1 : Int32) < 0) := (by decide)
theorem gy_moonLine_s3  : (1 : Int32) ≤ 1 := (by decide)
theorem gy_moonLine_s4 {y0 : Int32} (h0 : y0 = 0) (h1 : y0 ≤ 1) : 1 = (y0 + 1) := by lia
theorem gy_moonLine_s5  : ¬ ((1 : Int32) < 0) := (by decide)
theorem gy_moonLine_s6  : (1 : Int32) ≤ 1 := (by decide)
set_option maxHeartbeats 4000000 in
set_option maxRecDepth 100000 in
theorem gy_moonLine (l : Launch) (dC : Nat → ClassId) (dI : Nat → Nat → Nat) (mq : Nat) (g : Nat → Int32) (gl : Nat → Int64) (rf : Nat → Nat) (ck : Nat → ClassId) (f_tape : Nat → Int32) (f_words : Nat → Int32) (f_sky : Nat → Int32) (sz : Nat) (h0n : ¬ (g 7) < 0) (hns : (g 7) ≤ (g 6)) (hs9 : (g 6) ≤ 900) (hw7 : (f_words 117) = 32) (hSKu : xSK f_sky) (ht0 : ¬ (g 26) < 0) (ht1 : (g 26) ≤ 1) : Met l yX12_moonLine (Cond.code yX12_moonLine cX12_moonLine 1 (some .boolean) :: wsL_law) ({ frames := 4, cells := 0, slots := 0, locals := 90 }) (va_Pc [.ref mq] (fun U => U.heap.size = sz ∧ va_P (dC, dI) vwCl [(mq, .inr (12, mF g gl rf)), (eA0 (rf 0) (ck 0) 900 f_tape), (eA0 (rf 3) (ck 3) 118 f_words), (eA0 (rf 24) (ck 24) 14 f_sky)] U.heap ∧ va_K (dC, dI) vwCl [((ck 0), .int), ((ck 3), .int), ((ck 24), .int)] U ∧ va_D (fun _ => True) [(mq, .inr (12, mF g gl rf)), (eA0 (rf 0) (ck 0) 900 f_tape), (eA0 (rf 3) (ck 3) 118 f_words), (eA0 (rf 24) (ck 24) 14 f_sky)])) (va_Qi (fun (r : Int32) (u : (Int32) × (Int32) × (Int32) × (Int32) × (Int32) × (Int32) × (Int32) × (Int32) × (Nat → Int32)) => (r = (fq_moonLine f_tape f_words f_sky (g 4) (g 5) (g 6) (g 7) (g 8) (g 9) (g 10) (g 11) (g 26)).1 ∧ u = (fq_moonLine f_tape f_words f_sky (g 4) (g 5) (g 6) (g 7) (g 8) (g 9) (g 10) (g 11) (g 26)).2) ∧ (r = 0 ∨ r = 1) ∧ (¬ u.2.2.1 < 0) ∧ (u.2.2.1 ≤ (g 6)) ∧ (xSm 7 f_sky u.2.2.2.2.2.2.2.2) ∧ (r = 0 ∨ (xSK u.2.2.2.2.2.2.2.2)) ∧ (¬ u.2.2.2.2.2.2.2.1 < 0) ∧ (u.2.2.2.2.2.2.2.1 ≤ 1) ∧ (r = 0 ∨ u.2.2.2.2.2.2.2.1 = ((g 26) + 1))) (fun (u : (Int32) × (Int32) × (Int32) × (Int32) × (Int32) × (Int32) × (Int32) × (Int32) × (Nat → Int32)) t => va_P (dC, dI) vwCl [(mq, .inr (12, mF (upd (upd (upd (upd (upd (upd (upd (upd g 4 u.1) 5 u.2.1) 7 u.2.2.1) 8 u.2.2.2.1) 9 u.2.2.2.2.1) 10 u.2.2.2.2.2.1) 11 u.2.2.2.2.2.2.1) 26 u.2.2.2.2.2.2.2.1) gl rf)), (eA0 (rf 0) (ck 0) 900 f_tape), (eA0 (rf 3) (ck 3) 118 f_words), (eA0 (rf 24) (ck 24) 14 u.2.2.2.2.2.2.2.2)] t.heap ∧ va_K (dC, dI) vwCl [] t ∧ va_D (va_A [(mq, .inr (12, mF g gl rf)), (eA0 (rf 0) (ck 0) 900 f_tape), (eA0 (rf 3) (ck 3) 118 f_words), (eA0 (rf 24) (ck 24) 14 f_sky)] sz) [(mq, .inr (12, mF (upd (upd (upd (upd (upd (upd (upd (upd g 4 u.1) 5 u.2.1) 7 u.2.2.1) 8 u.2.2.2.1) 9 u.2.2.2.2.1) 10 u.2.2.2.2.2.1) 11 u.2.2.2.2.2.2.1) 26 u.2.2.2.2.2.2.2.1) gl rf)), (eA0 (rf 0) (ck 0) 900 f_tape), (eA0 (rf 3) (ck 3) 118 f_words), (eA0 (rf 24) (ck 24) 14 u.2.2.2.2.2.2.2.2)]) (va_A [(mq, .inr (12, mF g gl rf)), (eA0 (rf 0) (ck 0) 900 f_tape), (eA0 (rf 3) (ck 3) 118 f_words), (eA0 (rf 24) (ck 24) 14 f_sky)] sz)) 0 0 (va_A [(mq, .inr (12, mF g gl rf)), (eA0 (rf 0) (ck 0) 900 f_tape), (eA0 (rf 3) (ck 3) 118 f_words), (eA0 (rf 24) (ck 24) 14 f_sky)] sz) := by
  refine Met.ofW (cc := cX12_moonLine) (maxL := 1) (ret := (some .boolean)) (by decide) rfl ?_
  intro p e s m args below meth c s₁ B hml hv
  obtain ⟨rfl, hsz, hP, hK, hD0⟩ := hv
  have hx := B.exec
  have hb := B.bytes
  have hr := B.returns
  have hts := atoms_spec (ws := Cond.code yX12_moonLine cX12_moonLine 1 (some .boolean) :: wsL_law) B.pre
  have htw : ∀ w ∈ wsL_law, w.before _ s = true := fun w h => hts w (List.mem_cons_of_mem _ h)
  have hown : s.vm.findClass RX12 = some m.cls := findClass_of_methodNamed B.named
  have hlocks := B.notSynchronized
  subst hsz
  have hD := hD0.self (sz := s.heap.size)
  generalize hAe : va_A [(mq, .inr (12, mF g gl rf)), (eA0 (rf 0) (ck 0) 900 f_tape), (eA0 (rf 3) (ck 3) 118 f_words), (eA0 (rf 24) (ck 24) 14 f_sky)] s.heap.size = A at hD ⊢
  have hA : ∀ q : Nat, s.heap.size ≤ q → A q := fun q h => by rw [← hAe]; exact Or.inr h
  obtain ⟨H, rH⟩ : ∃ z : Heap, z = s.heap := ⟨_, rfl⟩
  have hS : va_S A s.heap H [] := by rw [rH]; exact va_S.rf
  have hP : va_P (dC, dI) vwCl [(mq, .inr (12, mF g gl rf)), (eA0 (rf 0) (ck 0) 900 f_tape), (eA0 (rf 3) (ck 3) 118 f_words), (eA0 (rf 24) (ck 24) 14 f_sky)] H := by rw [rH]; exact hP
  rw [← rH]
  have hl := lv_entry ([.ref mq]) (n := 1) (Nat.le_of_ble_eq_true rfl)
  rw [lg_entry_eq]
  generalize (lg_sl ([.ref mq]) ++ List.replicate (1 - (lg_sl ([.ref mq])).length) Slot.unset).toArray = ls at hl ⊢
  have hl : lv_has ls 1 [(0, .ref mq)] := hl
  refine lv_aload_n hx hb dX12_moonLine_0 rfl (lv_at hl 0 rfl) ?_
  refine va_get (D := (dC, dI)) (ci := 12) (v := .int (g 26)) (C := RX12) (T := TX12) (N := 76) hx hb htw inlX12 hown hK hP 0 rfl rfl 26 (by decide) (htw _ (ck_11 _ (List.mem_of_getElem? (i := 3) rfl))) (fun _ h9 => h9) rfl dX12_moonLine_1 ?_
  refine lv_if_eq (tgt := 13) hx hb dX12_moonLine_4 (by decide) (fun c_1 => ?_) (fun c_1 => ?_)
  · refine lv_aload_n hx hb dX12_moonLine_13 rfl (lv_at hl 0 rfl) ?_
    refine lv_iconst (v := 1) hx hb dX12_moonLine_14 (by decide) ?_
    refine va_put (D := (dC, dI)) (ci := 12) (v := .int 1) (ty := tyX12 26) (C := RX12) (T := TX12) (N := 76) hx hb htw inlX12 tyX12 tyX12_ok nmX12 hown hK hP hD hS 0 rfl rfl 26 (by decide) (htw _ (ck_11 _ (List.mem_of_getElem? (i := 3) rfl))) (fun _ h9 => h9) rfl (tyX12_ok 26 (by decide)) rfl rfl (Nat.le_of_ble_eq_true rfl) dX12_moonLine_15 (fun H locs hP hD hS => ?_)
    obtain ⟨hP, hD⟩ := zre [(mq, .inr (12, mF (upd g 26 1) gl rf)), (eA0 (rf 0) (ck 0) 900 f_tape), (eA0 (rf 3) (ck 3) 118 f_words), (eA0 (rf 24) (ck 24) 14 f_sky)] hP hD rfl
    refine lv_aload_n hx hb dX12_moonLine_18 rfl (lv_at hl 0 rfl) ?_
    obtain ⟨hPc, hDc, hFc, hCc⟩ := zsub3 (ws' := [(mq, .inr (12, mF (upd g 26 1) gl rf)), (eA0 (rf 0) (ck 0) 900 f_tape), (eA0 (rf 3) (ck 3) 118 f_words)]) hP hD hS hA [0, 1, 2] (by decide) rfl
    have hKc := hK.sub (tys' := [((ck 0), .int), ((ck 3), .int)]) [0, 1] rfl
    refine va_callv (va_runV (As := []) (rest := []) ⟨hx, hb, hml, hown, htw⟩ (gy_token l dC dI mq (upd g 26 1) gl rf ck f_tape f_words H.size h0n hns hs9 hw7) (cwV 0 htw (xg_V (ck_24 _ (List.mem_of_getElem? (i := 14) rfl)) (ck_24 _ (List.mem_of_getElem? (i := 15) rfl)) (ck_24 _ (List.mem_of_getElem? (i := 16) rfl)) (ck_1 _ (List.mem_of_getElem? (i := 5) rfl)) (ck_24 _ (List.mem_of_getElem? (i := 17) rfl))) rfl rfl rfl (by exact ⟨rfl, hdc_14.1, hdc_14.2, hdd_13⟩) ⟨Nat.le_of_ble_eq_true rfl, Nat.le_of_ble_eq_true rfl⟩) ⟨fun a U g mk q => by obtain ⟨q0, q1, qP, qK, qD⟩ := q; exact ⟨q0, q1, qP, va_K.moved (u := U) (U := U.calling g mk a) (Vm.Alike.refl U.vm) qK, qD⟩, va_recv hKc hPc (ci := 12) (q0 := 0) rfl rfl, fun U hU hW => ⟨rfl, by rw [hU], by rw [hU]; exact hPc, va_K.moved hW.alike hKc, hDc.weaken (fun _ _ _ _ => trivial)⟩⟩ rfl rfl hl.1 rfl (lv_room (Nat.le_of_ble_eq_true rfl)) dX12_moonLine_19 ⟨Nat.le_of_ble_eq_true rfl, Nat.le_of_ble_eq_true rfl⟩) hS (fun q _ h => hFc q h) hFc (fun u_3 t H1 locs ht hvm hw hB hz1 hk1 hS => ?_)
    try dsimp only at hw
    obtain ⟨hP1, hK1, hD1⟩ := hB
    rw [ht] at hP1
    have hK1 := va_K.moved hvm.symm hK1
    have hK1 : va_K (dC, dI) vwCl [] s := hK1
    obtain ⟨hP, hD⟩ := va_join (wr := [(eA0 (rf 24) (ck 24) 14 f_sky)]) (w1 := [(mq, .inr (12, mF (upd (upd (upd (upd (upd g 7 u_3.1) 8 u_3.2.1) 9 u_3.2.2.1) 10 u_3.2.2.2) 26 1) gl rf)), (eA0 (rf 0) (ck 0) 900 f_tape), (eA0 (rf 3) (ck 3) 118 f_words)]) hP hD [0, 1, 2] [3] hCc rfl (by decide) (by decide) hk1 hFc hP1 hD1
    generalize H1 = H at hP hS ⊢
    have hP : va_P (dC, dI) vwCl [(eA0 (rf 24) (ck 24) 14 f_sky), (mq, .inr (12, mF (upd (upd (upd (upd (upd g 7 u_3.1) 8 u_3.2.1) 9 u_3.2.2.1) 10 u_3.2.2.2) 26 1) gl rf)), (eA0 (rf 0) (ck 0) 900 f_tape), (eA0 (rf 3) (ck 3) 118 f_words)] H := hP
    have hD : va_D A [(eA0 (rf 24) (ck 24) 14 f_sky), (mq, .inr (12, mF (upd (upd (upd (upd (upd g 7 u_3.1) 8 u_3.2.1) 9 u_3.2.2.1) 10 u_3.2.2.2) 26 1) gl rf)), (eA0 (rf 0) (ck 0) 900 f_tape), (eA0 (rf 3) (ck 3) 118 f_words)] := hD
    refine W.widen (k := 0) (n := 0) (by omega) (by omega) ?_
    obtain ⟨hw, hp_8, hp_9, hp_10⟩ := hw
    have hq_u_3 : u_3 = (fq_token f_tape f_words (g 6) (g 7) (g 9)) := hw
    refine lv_aload_n hx hb dX12_moonLine_22 rfl (lv_at hl 0 rfl) ?_
    refine lv_bipush (v := 9) hx hb dX12_moonLine_23 (by decide) ?_
    obtain ⟨hPc, hDc, hFc, hCc⟩ := zsub3 (ws' := [(mq, .inr (12, mF (upd (upd (upd (upd (upd g 7 u_3.1) 8 u_3.2.1) 9 u_3.2.2.1) 10 u_3.2.2.2) 26 1) gl rf)), (eA0 (rf 0) (ck 0) 900 f_tape), (eA0 (rf 3) (ck 3) 118 f_words), (eA0 (rf 24) (ck 24) 14 f_sky)]) hP hD hS hA [1, 2, 3, 0] (by decide) rfl
    have hKc := hK.sub (tys' := [((ck 0), .int), ((ck 3), .int), ((ck 24), .int)]) [0, 1, 2] rfl
    refine va_calli (va_runV (As := [.int 9]) (rest := []) ⟨hx, hb, hml, hown, htw⟩ (gy_roundRead9 l dC dI mq (upd (upd (upd (upd (upd g 7 u_3.1) 8 u_3.2.1) 9 u_3.2.2.1) 10 u_3.2.2.2) 26 1) gl rf ck f_tape f_words f_sky H.size hp_8 hp_9 hs9 hw7 hSKu) (cwV 1 htw (xg_V (ck_31 _ (List.mem_of_getElem? (i := 21) rfl)) (ck_31 _ (List.mem_of_getElem? (i := 22) rfl)) (ck_31 _ (List.mem_of_getElem? (i := 23) rfl)) (ck_1 _ (List.mem_of_getElem? (i := 5) rfl)) (ck_32 _ (List.mem_of_getElem? (i := 0) rfl))) rfl rfl rfl (by exact ⟨rfl, hdc_14.1, hdc_14.2, hdd_26⟩) ⟨Nat.le_of_ble_eq_true rfl, Nat.le_of_ble_eq_true rfl⟩) ⟨fun a U g mk q => by obtain ⟨q0, q1, qP, qK, qD⟩ := q; exact ⟨q0, q1, qP, va_K.moved (u := U) (U := U.calling g mk a) (Vm.Alike.refl U.vm) qK, qD⟩, va_recv hKc hPc (ci := 12) (q0 := 0) rfl rfl, fun U hU hW => ⟨rfl, by rw [hU], by rw [hU]; exact hPc, va_K.moved hW.alike hKc, hDc.weaken (fun _ _ _ _ => trivial)⟩⟩ rfl rfl hl.1 rfl (lv_room (Nat.le_of_ble_eq_true rfl)) dX12_moonLine_25 ⟨Nat.le_of_ble_eq_true rfl, Nat.le_of_ble_eq_true rfl⟩) hS (fun q _ h => hFc q h) hFc (fun r_11 u_12 t H1 locs ht hvm hw hB hz1 hk1 hS => ?_)
    try dsimp only at hw
    obtain ⟨hP1, hK1, hD1⟩ := hB
    rw [ht] at hP1
    have hK1 := va_K.moved hvm.symm hK1
    have hK1 : va_K (dC, dI) vwCl [] s := hK1
    obtain ⟨hP, hD⟩ := va_join (wr := []) (w1 := [(mq, .inr (12, mF (upd (upd (upd (upd (upd (upd (upd (upd g 4 u_12.1) 5 u_12.2.1) 7 u_12.2.2.1) 8 u_12.2.2.2.1) 9 u_12.2.2.2.2.1) 10 u_12.2.2.2.2.2.1) 11 u_12.2.2.2.2.2.2.1) 26 1) gl rf)), (eA0 (rf 0) (ck 0) 900 f_tape), (eA0 (rf 3) (ck 3) 118 f_words), (eA0 (rf 24) (ck 24) 14 u_12.2.2.2.2.2.2.2)]) hP hD [1, 2, 3, 0] [] hCc rfl (by decide) (by decide) hk1 hFc hP1 hD1
    generalize H1 = H at hP hS ⊢
    have hP : va_P (dC, dI) vwCl [(mq, .inr (12, mF (upd (upd (upd (upd (upd (upd (upd (upd g 4 u_12.1) 5 u_12.2.1) 7 u_12.2.2.1) 8 u_12.2.2.2.1) 9 u_12.2.2.2.2.1) 10 u_12.2.2.2.2.2.1) 11 u_12.2.2.2.2.2.2.1) 26 1) gl rf)), (eA0 (rf 0) (ck 0) 900 f_tape), (eA0 (rf 3) (ck 3) 118 f_words), (eA0 (rf 24) (ck 24) 14 u_12.2.2.2.2.2.2.2)] H := hP
    have hD : va_D A [(mq, .inr (12, mF (upd (upd (upd (upd (upd (upd (upd (upd g 4 u_12.1) 5 u_12.2.1) 7 u_12.2.2.1) 8 u_12.2.2.2.1) 9 u_12.2.2.2.2.1) 10 u_12.2.2.2.2.2.1) 11 u_12.2.2.2.2.2.2.1) 26 1) gl rf)), (eA0 (rf 0) (ck 0) 900 f_tape), (eA0 (rf 3) (ck 3) 118 f_words), (eA0 (rf 24) (ck 24) 14 u_12.2.2.2.2.2.2.2)] := hD
    refine W.widen (k := 0) (n := 0) (by omega) (by omega) ?_
    obtain ⟨hw, hb_r_11, hp_21, hp_22, hp_23, hp_24⟩ := hw
    obtain ⟨X_25, hX_25⟩ : ∃ X9 : Int32 × (Int32) × (Int32) × (Int32) × (Int32) × (Int32) × (Int32) × (Int32) × (Nat → Int32), X9 = (fq_roundRead9 f_tape f_words f_sky (g 4) (g 5) (g 6) u_3.1 u_3.2.1 u_3.2.2.1 u_3.2.2.2 (g 11)) := ⟨_, rfl⟩
    have hq_r_11 : r_11 = X_25.1 := by rw [hX_25]; exact hw.1
    have hq_u_12 : u_12 = X_25.2 := by rw [hX_25]; exact hw.2
    refine lv_if_eq (tgt := 48) hx hb dX12_moonLine_28 (by decide) (fun c_26 => ?_) (fun c_26 => ?_)
    · refine lv_iconst (v := 0) hx hb dX12_moonLine_48 (by decide) ?_
      refine W.widen (k := 0) (n := 0) (by omega) (by omega) ?_
      have hP9 := hP
      have hD9 := hD
      have hK9 := hK.sub (tys' := []) [] rfl
      exact W.zret (v := 0) hx hb hr (by first | rfl | decide) (fun t ht hW => ⟨⟨0, (u_12.1, u_12.2.1, u_12.2.2.1, u_12.2.2.2.1, u_12.2.2.2.2.1, u_12.2.2.2.2.2.1, u_12.2.2.2.2.2.2.1, 1, u_12.2.2.2.2.2.2.2), rfl, ⟨((fun e9 => ⟨by rw [e9], by rw [e9]⟩ : fq_moonLine f_tape f_words f_sky (g 4) (g 5) (g 6) (g 7) (g 8) (g 9) (g 10) (g 11) (g 26) = ((0 : Int32), u_12.1, u_12.2.1, u_12.2.2.1, u_12.2.2.2.1, u_12.2.2.2.2.1, u_12.2.2.2.2.2.1, u_12.2.2.2.2.2.2.1, (1 : Int32), u_12.2.2.2.2.2.2.2) → _) ((by rw [fq_moonLine]; (try rw [if_pos c_1]); (try rw [← hq_u_3]); (try rw [xL_eq]); (try rw [← hX_25]); (try rw [xL_eq]); (try rw [← hq_r_11]); (try rw [← hq_u_12]); (try rw [if_pos c_26]); try rfl))), Or.inl rfl, hp_21, hp_22, hp_23, (Or.inl rfl), (gy_moonLine_s0 ), (gy_moonLine_s1 ), Or.inl rfl⟩, by rw [ht]; exact hP9, va_K.moved hW.alike hK9, hD9⟩, hS.F ht⟩) hS.2.2 dX12_moonLine_49
    · refine lv_aload_n hx hb dX12_moonLine_31 rfl (lv_at hl 0 rfl) ?_
      refine lv_iconst (v := 0) hx hb dX12_moonLine_32 (by decide) ?_
      refine lv_aload_n hx hb dX12_moonLine_33 rfl (lv_at hl 0 rfl) ?_
      refine va_get (D := (dC, dI)) (ci := 12) (v := .ref (rf 24)) (C := RX12) (T := TX12) (N := 76) hx hb htw inlX12 hown hK hP 0 rfl rfl 24 (by decide) (htw _ (ck_9 _ (List.mem_of_getElem? (i := 7) rfl))) (fun _ h9 => h9) rfl dX12_moonLine_34 ?_
      refine lv_bipush (v := 9) hx hb dX12_moonLine_37 (by decide) ?_
      refine va_iald hx hb hK hP 3 2 rfl rfl (by unfold vp_in; decide) dX12_moonLine_39 ?_
      refine lv_iconst (v := 1) hx hb dX12_moonLine_40 (by decide) ?_
      refine lv_isub hx hb dX12_moonLine_41 ?_
      obtain ⟨hPc, hDc, hFc, hCc⟩ := zsub3 (ws' := [(mq, .inr (12, mF (upd (upd (upd (upd (upd (upd (upd (upd g 4 u_12.1) 5 u_12.2.1) 7 u_12.2.2.1) 8 u_12.2.2.2.1) 9 u_12.2.2.2.2.1) 10 u_12.2.2.2.2.2.1) 11 u_12.2.2.2.2.2.2.1) 26 1) gl rf)), (eA0 (rf 0) (ck 0) 900 f_tape), (eA0 (rf 3) (ck 3) 118 f_words)]) hP hD hS hA [0, 1, 2] (by decide) rfl
      have hKc := hK.sub (tys' := [((ck 0), .int), ((ck 3), .int)]) [0, 1] rfl
      refine va_calli (va_runV (As := [.int 0, .int ((u_12.2.2.2.2.2.2.2 ((9 : Int32).toNatClampNeg)) - 1)]) (rest := []) ⟨hx, hb, hml, hown, htw⟩ (gq_number l dC dI mq (upd (upd (upd (upd (upd (upd (upd (upd g 4 u_12.1) 5 u_12.2.1) 7 u_12.2.2.1) 8 u_12.2.2.2.1) 9 u_12.2.2.2.2.1) 10 u_12.2.2.2.2.2.1) 11 u_12.2.2.2.2.2.2.1) 26 1) gl rf ck f_tape f_words (0 : Int32) ((u_12.2.2.2.2.2.2.2 ((9 : Int32).toNatClampNeg)) - 1) H.size hp_21 hp_22 hs9 hw7) (cwV 2 htw (xg_V (ck_26 _ (List.mem_of_getElem? (i := 13) rfl)) (ck_26 _ (List.mem_of_getElem? (i := 14) rfl)) (ck_26 _ (List.mem_of_getElem? (i := 15) rfl)) (ck_1 _ (List.mem_of_getElem? (i := 5) rfl)) (ck_26 _ (List.mem_of_getElem? (i := 16) rfl))) rfl rfl rfl (by exact ⟨rfl, hdc_14.1, hdc_14.2, hdd_8⟩) ⟨Nat.le_of_ble_eq_true rfl, Nat.le_of_ble_eq_true rfl⟩) ⟨fun a U g mk q => by obtain ⟨q0, q1, qP, qK, qD⟩ := q; exact ⟨q0, q1, qP, va_K.moved (u := U) (U := U.calling g mk a) (Vm.Alike.refl U.vm) qK, qD⟩, va_recv hKc hPc (ci := 12) (q0 := 0) rfl rfl, fun U hU hW => ⟨rfl, by rw [hU], by rw [hU]; exact hPc, va_K.moved hW.alike hKc, hDc.weaken (fun _ _ _ _ => trivial)⟩⟩ rfl rfl hl.1 rfl (lv_room (Nat.le_of_ble_eq_true rfl)) dX12_moonLine_42 ⟨Nat.le_of_ble_eq_true rfl, Nat.le_of_ble_eq_true rfl⟩) hS (fun q _ h => hFc q h) hFc (fun r_27 u_28 t H1 locs ht hvm hw hB hz1 hk1 hS => ?_)
      try dsimp only at hw
      obtain ⟨hP1, hK1, hD1⟩ := hB
      rw [ht] at hP1
      have hK1 := va_K.moved hvm.symm hK1
      have hK1 : va_K (dC, dI) vwCl [] s := hK1
      obtain ⟨hP, hD⟩ := va_join (wr := [(eA0 (rf 24) (ck 24) 14 u_12.2.2.2.2.2.2.2)]) (w1 := [(mq, .inr (12, mF (upd (upd (upd (upd (upd (upd (upd (upd g 4 u_28.2.2.2.2.2.1) 5 u_28.2.2.2.2.2.2) 7 u_28.1) 8 u_28.2.1) 9 u_28.2.2.1) 10 u_28.2.2.2.1) 11 u_28.2.2.2.2.1) 26 1) gl rf)), (eA0 (rf 0) (ck 0) 900 f_tape), (eA0 (rf 3) (ck 3) 118 f_words)]) hP hD [0, 1, 2] [3] hCc rfl (by decide) (by decide) hk1 hFc hP1 hD1
      generalize H1 = H at hP hS ⊢
      have hP : va_P (dC, dI) vwCl [(eA0 (rf 24) (ck 24) 14 u_12.2.2.2.2.2.2.2), (mq, .inr (12, mF (upd (upd (upd (upd (upd (upd (upd (upd g 4 u_28.2.2.2.2.2.1) 5 u_28.2.2.2.2.2.2) 7 u_28.1) 8 u_28.2.1) 9 u_28.2.2.1) 10 u_28.2.2.2.1) 11 u_28.2.2.2.2.1) 26 1) gl rf)), (eA0 (rf 0) (ck 0) 900 f_tape), (eA0 (rf 3) (ck 3) 118 f_words)] H := hP
      have hD : va_D A [(eA0 (rf 24) (ck 24) 14 u_12.2.2.2.2.2.2.2), (mq, .inr (12, mF (upd (upd (upd (upd (upd (upd (upd (upd g 4 u_28.2.2.2.2.2.1) 5 u_28.2.2.2.2.2.2) 7 u_28.1) 8 u_28.2.1) 9 u_28.2.2.1) 10 u_28.2.2.2.1) 11 u_28.2.2.2.2.1) 26 1) gl rf)), (eA0 (rf 0) (ck 0) 900 f_tape), (eA0 (rf 3) (ck 3) 118 f_words)] := hD
      refine W.widen (k := 0) (n := 0) (by omega) (by omega) ?_
      obtain ⟨hw, hb_r_27, hp_36, hp_37, hp_38, hp_39⟩ := hw
      obtain ⟨X_40, hX_40⟩ : ∃ X9 : Int32 × (Int32) × (Int32) × (Int32) × (Int32) × (Int32) × (Int32) × (Int32), X9 = (fq_number f_tape f_words (0 : Int32) ((u_12.2.2.2.2.2.2.2 ((9 : Int32).toNatClampNeg)) - 1) u_12.1 u_12.2.1 (g 6) u_12.2.2.1 u_12.2.2.2.1 u_12.2.2.2.2.1 u_12.2.2.2.2.2.1 u_12.2.2.2.2.2.2.1) := ⟨_, rfl⟩
      have hq_r_27 : r_27 = X_40.1 := by rw [hX_40]; exact hw.1
      have hq_u_28 : u_28 = X_40.2 := by rw [hX_40]; exact hw.2
      refine lv_if_ne (tgt := 50) hx hb dX12_moonLine_45 (by decide) (fun c_41 => ?_) (fun c_41 => ?_)
      · refine lv_aload_n hx hb dX12_moonLine_50 rfl (lv_at hl 0 rfl) ?_
        refine va_get (D := (dC, dI)) (ci := 12) (v := .ref (rf 24)) (C := RX12) (T := TX12) (N := 76) hx hb htw inlX12 hown hK hP 1 rfl rfl 24 (by decide) (htw _ (ck_9 _ (List.mem_of_getElem? (i := 7) rfl))) (fun _ h9 => h9) rfl dX12_moonLine_51 ?_
        refine lv_bipush (v := 11) hx hb dX12_moonLine_54 (by decide) ?_
        refine lv_aload_n hx hb dX12_moonLine_56 rfl (lv_at hl 0 rfl) ?_
        refine va_get (D := (dC, dI)) (ci := 12) (v := .int u_28.2.2.2.2.1) (C := RX12) (T := TX12) (N := 76) hx hb htw inlX12 hown hK hP 1 rfl rfl 11 (by decide) (htw _ (ck_26 _ (List.mem_of_getElem? (i := 5) rfl))) (fun _ h9 => h9) rfl dX12_moonLine_57 ?_
        refine va_iast hx hb hK hP hD hS 0 2 rfl rfl (by unfold vp_in; decide) dX12_moonLine_60 (fun H locs hP hD hS => ?_)
        have hP : va_P (dC, dI) vwCl [(eA0 (rf 24) (ck 24) 14 (upd u_12.2.2.2.2.2.2.2 ((11 : Int32).toNatClampNeg) u_28.2.2.2.2.1)), (mq, .inr (12, mF (upd (upd (upd (upd (upd (upd (upd (upd g 4 u_28.2.2.2.2.2.1) 5 u_28.2.2.2.2.2.2) 7 u_28.1) 8 u_28.2.1) 9 u_28.2.2.1) 10 u_28.2.2.2.1) 11 u_28.2.2.2.2.1) 26 1) gl rf)), (eA0 (rf 0) (ck 0) 900 f_tape), (eA0 (rf 3) (ck 3) 118 f_words)] H := hP
        have hD : va_D A [(eA0 (rf 24) (ck 24) 14 (upd u_12.2.2.2.2.2.2.2 ((11 : Int32).toNatClampNeg) u_28.2.2.2.2.1)), (mq, .inr (12, mF (upd (upd (upd (upd (upd (upd (upd (upd g 4 u_28.2.2.2.2.2.1) 5 u_28.2.2.2.2.2.2) 7 u_28.1) 8 u_28.2.1) 9 u_28.2.2.1) 10 u_28.2.2.2.1) 11 u_28.2.2.2.2.1) 26 1) gl rf)), (eA0 (rf 0) (ck 0) 900 f_tape), (eA0 (rf 3) (ck 3) 118 f_words)] := hD
        refine lv_iconst (v := 1) hx hb dX12_moonLine_61 (by decide) ?_
        refine W.widen (k := 0) (n := 0) (by omega) (by omega) ?_
        obtain ⟨hP9, hD9⟩ := zsub2 (ws' := [(mq, .inr (12, mF (upd (upd (upd (upd (upd (upd (upd (upd g 4 u_28.2.2.2.2.2.1) 5 u_28.2.2.2.2.2.2) 7 u_28.1) 8 u_28.2.1) 9 u_28.2.2.1) 10 u_28.2.2.2.1) 11 u_28.2.2.2.2.1) 26 1) gl rf)), (eA0 (rf 0) (ck 0) 900 f_tape), (eA0 (rf 3) (ck 3) 118 f_words), (eA0 (rf 24) (ck 24) 14 (upd u_12.2.2.2.2.2.2.2 ((11 : Int32).toNatClampNeg) u_28.2.2.2.2.1))]) hP hD [1, 2, 3, 0] (by decide) rfl
        have hK9 := hK.sub (tys' := []) [] rfl
        exact W.zret (v := 1) hx hb hr (by first | rfl | decide) (fun t ht hW => ⟨⟨1, (u_28.2.2.2.2.2.1, u_28.2.2.2.2.2.2, u_28.1, u_28.2.1, u_28.2.2.1, u_28.2.2.2.1, u_28.2.2.2.2.1, 1, (upd u_12.2.2.2.2.2.2.2 ((11 : Int32).toNatClampNeg) u_28.2.2.2.2.1)), rfl, ⟨((fun e9 => ⟨by rw [e9], by rw [e9]⟩ : fq_moonLine f_tape f_words f_sky (g 4) (g 5) (g 6) (g 7) (g 8) (g 9) (g 10) (g 11) (g 26) = ((1 : Int32), u_28.2.2.2.2.2.1, u_28.2.2.2.2.2.2, u_28.1, u_28.2.1, u_28.2.2.1, u_28.2.2.2.1, u_28.2.2.2.2.1, (1 : Int32), (upd u_12.2.2.2.2.2.2.2 ((11 : Int32).toNatClampNeg) u_28.2.2.2.2.1)) → _) ((by rw [fq_moonLine]; (try rw [if_pos c_1]); (try rw [← hq_u_3]); (try rw [xL_eq]); (try rw [← hX_25]); (try rw [xL_eq]); (try rw [← hq_r_11]); (try rw [← hq_u_12]); (try rw [if_neg c_26]); (try rw [← hX_40]); (try rw [xL_eq]); (try rw [← hq_r_27]); (try rw [← hq_u_28]); (try rw [if_neg c_41]); try rfl))), Or.inr rfl, hp_36, hp_37, (xSm_w hp_23 (by decide) (by decide)), (Or.inr (xSK_11 (hp_24.resolve_left c_26))), (gy_moonLine_s2 ), (gy_moonLine_s3 ), (Or.inr (gy_moonLine_s4 (y0 := g 26) c_1 ht1))⟩, by rw [ht]; exact hP9, va_K.moved hW.alike hK9, hD9⟩, hS.F ht⟩) hS.2.2 dX12_moonLine_62
      · refine lv_iconst (v := 0) hx hb dX12_moonLine_48 (by decide) ?_
        refine W.widen (k := 0) (n := 0) (by omega) (by omega) ?_
        obtain ⟨hP9, hD9⟩ := zsub2 (ws' := [(mq, .inr (12, mF (upd (upd (upd (upd (upd (upd (upd (upd g 4 u_28.2.2.2.2.2.1) 5 u_28.2.2.2.2.2.2) 7 u_28.1) 8 u_28.2.1) 9 u_28.2.2.1) 10 u_28.2.2.2.1) 11 u_28.2.2.2.2.1) 26 1) gl rf)), (eA0 (rf 0) (ck 0) 900 f_tape), (eA0 (rf 3) (ck 3) 118 f_words), (eA0 (rf 24) (ck 24) 14 u_12.2.2.2.2.2.2.2)]) hP hD [1, 2, 3, 0] (by decide) rfl
        have hK9 := hK.sub (tys' := []) [] rfl
        exact W.zret (v := 0) hx hb hr (by first | rfl | decide) (fun t ht hW => ⟨⟨0, (u_28.2.2.2.2.2.1, u_28.2.2.2.2.2.2, u_28.1, u_28.2.1, u_28.2.2.1, u_28.2.2.2.1, u_28.2.2.2.2.1, 1, u_12.2.2.2.2.2.2.2), rfl, ⟨((fun e9 => ⟨by rw [e9], by rw [e9]⟩ : fq_moonLine f_tape f_words f_sky (g 4) (g 5) (g 6) (g 7) (g 8) (g 9) (g 10) (g 11) (g 26) = ((0 : Int32), u_28.2.2.2.2.2.1, u_28.2.2.2.2.2.2, u_28.1, u_28.2.1, u_28.2.2.1, u_28.2.2.2.1, u_28.2.2.2.2.1, (1 : Int32), u_12.2.2.2.2.2.2.2) → _) ((by rw [fq_moonLine]; (try rw [if_pos c_1]); (try rw [← hq_u_3]); (try rw [xL_eq]); (try rw [← hX_25]); (try rw [xL_eq]); (try rw [← hq_r_11]); (try rw [← hq_u_12]); (try rw [if_neg c_26]); (try rw [← hX_40]); (try rw [xL_eq]); (try rw [← hq_r_27]); (try rw [← hq_u_28]); (try rw [if_pos c_41]); try rfl))), Or.inl rfl, hp_36, hp_37, hp_23, (Or.inl rfl), (gy_moonLine_s5 ), (gy_moonLine_s6 ), Or.inl rfl⟩, by rw [ht]; exact hP9, va_K.moved hW.alike hK9, hD9⟩, hS.F ht⟩) hS.2.2 dX12_moonLine_49
  · refine lv_aload_n hx hb dX12_moonLine_7 rfl (lv_at hl 0 rfl) ?_
    refine lv_iconst (v := 3) hx hb dX12_moonLine_8 (by decide) ?_
    obtain ⟨hPc, hDc, hFc, hCc⟩ := zsub3 (ws' := [(mq, .inr (12, mF g gl rf))]) hP hD hS hA [0] (by decide) rfl
    have hKc := hK.sub (tys' := []) [] rfl
    refine va_calli (va_runV (As := [.int 3]) (rest := []) ⟨hx, hb, hml, hown, htw⟩ (gq_wrong l dC dI mq g gl rf (3 : Int32) H.size) (cwV 1 htw (xg_V (ck_25 _ (List.mem_of_getElem? (i := 21) rfl)) (ck_25 _ (List.mem_of_getElem? (i := 22) rfl)) (ck_25 _ (List.mem_of_getElem? (i := 23) rfl)) (ck_1 _ (List.mem_of_getElem? (i := 5) rfl)) (ck_26 _ (List.mem_of_getElem? (i := 0) rfl))) rfl rfl rfl (by exact ⟨rfl, hdc_14.1, hdc_14.2, hdd_26⟩) ⟨Nat.le_of_ble_eq_true rfl, Nat.le_of_ble_eq_true rfl⟩) ⟨fun a U g mk q => by obtain ⟨q0, q1, qP, qK, qD⟩ := q; exact ⟨q0, q1, qP, va_K.moved (u := U) (U := U.calling g mk a) (Vm.Alike.refl U.vm) qK, qD⟩, va_recv hKc hPc (ci := 12) (q0 := 0) rfl rfl, fun U hU hW => ⟨rfl, by rw [hU], by rw [hU]; exact hPc, va_K.moved hW.alike hKc, hDc.weaken (fun _ _ _ _ => trivial)⟩⟩ rfl rfl hl.1 rfl (lv_room (Nat.le_of_ble_eq_true rfl)) dX12_moonLine_9 ⟨Nat.le_of_ble_eq_true rfl, Nat.le_of_ble_eq_true rfl⟩) hS (fun q _ h => hFc q h) hFc (fun r_43 u_44 t H1 locs ht hvm hw hB hz1 hk1 hS => ?_)
    try dsimp only at hw
    obtain ⟨hP1, hK1, hD1⟩ := hB
    rw [ht] at hP1
    have hK1 := va_K.moved hvm.symm hK1
    have hK1 : va_K (dC, dI) vwCl [] s := hK1
    obtain ⟨hP, hD⟩ := va_join (wr := [(eA0 (rf 0) (ck 0) 900 f_tape), (eA0 (rf 3) (ck 3) 118 f_words), (eA0 (rf 24) (ck 24) 14 f_sky)]) (w1 := [(mq, .inr (12, mF (upd (upd g 4 u_44.1) 5 u_44.2) gl rf))]) hP hD [0] [1, 2, 3] hCc rfl (by decide) (by decide) hk1 hFc hP1 hD1
    generalize H1 = H at hP hS ⊢
    have hP : va_P (dC, dI) vwCl [(eA0 (rf 0) (ck 0) 900 f_tape), (eA0 (rf 3) (ck 3) 118 f_words), (eA0 (rf 24) (ck 24) 14 f_sky), (mq, .inr (12, mF (upd (upd g 4 u_44.1) 5 u_44.2) gl rf))] H := hP
    have hD : va_D A [(eA0 (rf 0) (ck 0) 900 f_tape), (eA0 (rf 3) (ck 3) 118 f_words), (eA0 (rf 24) (ck 24) 14 f_sky), (mq, .inr (12, mF (upd (upd g 4 u_44.1) 5 u_44.2) gl rf))] := hD
    refine W.widen (k := 0) (n := 0) (by omega) (by omega) ?_
    obtain ⟨hw, hb_r_43, hp_47⟩ := hw
    obtain ⟨X_48, hX_48⟩ : ∃ X9 : Int32 × (Int32) × (Int32), X9 = (fq_wrong (3 : Int32) (g 10)) := ⟨_, rfl⟩
    have hq_r_43 : r_43 = X_48.1 := by rw [hX_48]; exact hw.1
    have hq_u_44 : u_44 = X_48.2 := by rw [hX_48]; exact hw.2
    refine W.widen (k := 0) (n := 0) (by omega) (by omega) ?_
    obtain ⟨hP9, hD9⟩ := zsub2 (ws' := [(mq, .inr (12, mF (upd (upd g 4 u_44.1) 5 u_44.2) gl rf)), (eA0 (rf 0) (ck 0) 900 f_tape), (eA0 (rf 3) (ck 3) 118 f_words), (eA0 (rf 24) (ck 24) 14 f_sky)]) hP hD [3, 0, 1, 2] (by decide) rfl
    have hK9 := hK.sub (tys' := []) [] rfl
    exact W.zret (v := r_43) hx hb hr (xz_nar hb_r_43) (fun t ht hW => ⟨⟨r_43, (u_44.1, u_44.2, (g 7), (g 8), (g 9), (g 10), (g 11), (g 26), f_sky), rfl, ⟨((fun e9 => ⟨by rw [e9], by rw [e9]⟩ : fq_moonLine f_tape f_words f_sky (g 4) (g 5) (g 6) (g 7) (g 8) (g 9) (g 10) (g 11) (g 26) = (r_43, u_44.1, u_44.2, (g 7), (g 8), (g 9), (g 10), (g 11), (g 26), f_sky) → _) ((by rw [fq_moonLine]; (try rw [if_neg c_1]); (try rw [← hX_48]); (try rw [xL_eq]); (try rw [← hq_r_43]); (try rw [← hq_u_44]); try rfl))), hb_r_43, h0n, hns, xSm_rf, (Or.inl hp_47), ht0, ht1, (Or.inl hp_47)⟩, by rw [ht]; exact hP9, va_K.moved hW.alike hK9, hD9⟩, hS.F ht⟩) hS.2.2 dX12_moonLine_12

theorem gy_sunLine_s0  : ¬ ((1 : Int32) < 0) := (by decide)
theorem gy_sunLine_s1  : (1 : Int32) ≤ 1 := (by decide)
theorem gy_sunLine_s2 {y0 : Int32} (h0 : y0 = 0) (h1 : y0 ≤ 1) : 1 = (y0 + 1) := by lia
set_option maxHeartbeats 4000000 in
set_option maxRecDepth 100000 in
theorem gy_sunLine (l : Launch) (dC : Nat → ClassId) (dI : Nat → Nat → Nat) (mq : Nat) (g : Nat → Int32) (gl : Nat → Int64) (rf : Nat → Nat) (ck : Nat → ClassId) (f_tape : Nat → Int32) (f_words : Nat → Int32) (f_sky : Nat → Int32) (sz : Nat) (h0n : ¬ (g 7) < 0) (hns : (g 7) ≤ (g 6)) (hs9 : (g 6) ≤ 900) (hw7 : (f_words 117) = 32) (hSKu : xSK f_sky) (ht0 : ¬ (g 27) < 0) (ht1 : (g 27) ≤ 1) : Met l yX12_sunLine (Cond.code yX12_sunLine cX12_sunLine 1 (some .boolean) :: wsL_law) ({ frames := 4, cells := 0, slots := 0, locals := 90 }) (va_Pc [.ref mq] (fun U => U.heap.size = sz ∧ va_P (dC, dI) vwCl [(mq, .inr (12, mF g gl rf)), (eA0 (rf 0) (ck 0) 900 f_tape), (eA0 (rf 3) (ck 3) 118 f_words), (eA0 (rf 24) (ck 24) 14 f_sky)] U.heap ∧ va_K (dC, dI) vwCl [((ck 0), .int), ((ck 3), .int), ((ck 24), .int)] U ∧ va_D (fun _ => True) [(mq, .inr (12, mF g gl rf)), (eA0 (rf 0) (ck 0) 900 f_tape), (eA0 (rf 3) (ck 3) 118 f_words), (eA0 (rf 24) (ck 24) 14 f_sky)])) (va_Qi (fun (r : Int32) (u : (Int32) × (Int32) × (Int32) × (Int32) × (Int32) × (Int32) × (Int32) × (Int32) × (Nat → Int32)) => (r = (fq_sunLine f_tape f_words f_sky (g 4) (g 5) (g 6) (g 7) (g 8) (g 9) (g 10) (g 11) (g 27)).1 ∧ u = (fq_sunLine f_tape f_words f_sky (g 4) (g 5) (g 6) (g 7) (g 8) (g 9) (g 10) (g 11) (g 27)).2) ∧ (r = 0 ∨ r = 1) ∧ (¬ u.2.2.1 < 0) ∧ (u.2.2.1 ≤ (g 6)) ∧ (xSm 7 f_sky u.2.2.2.2.2.2.2.2) ∧ (r = 0 ∨ (xSK u.2.2.2.2.2.2.2.2)) ∧ (¬ u.2.2.2.2.2.2.2.1 < 0) ∧ (u.2.2.2.2.2.2.2.1 ≤ 1) ∧ (r = 0 ∨ u.2.2.2.2.2.2.2.1 = ((g 27) + 1))) (fun (u : (Int32) × (Int32) × (Int32) × (Int32) × (Int32) × (Int32) × (Int32) × (Int32) × (Nat → Int32)) t => va_P (dC, dI) vwCl [(mq, .inr (12, mF (upd (upd (upd (upd (upd (upd (upd (upd g 4 u.1) 5 u.2.1) 7 u.2.2.1) 8 u.2.2.2.1) 9 u.2.2.2.2.1) 10 u.2.2.2.2.2.1) 11 u.2.2.2.2.2.2.1) 27 u.2.2.2.2.2.2.2.1) gl rf)), (eA0 (rf 0) (ck 0) 900 f_tape), (eA0 (rf 3) (ck 3) 118 f_words), (eA0 (rf 24) (ck 24) 14 u.2.2.2.2.2.2.2.2)] t.heap ∧ va_K (dC, dI) vwCl [] t ∧ va_D (va_A [(mq, .inr (12, mF g gl rf)), (eA0 (rf 0) (ck 0) 900 f_tape), (eA0 (rf 3) (ck 3) 118 f_words), (eA0 (rf 24) (ck 24) 14 f_sky)] sz) [(mq, .inr (12, mF (upd (upd (upd (upd (upd (upd (upd (upd g 4 u.1) 5 u.2.1) 7 u.2.2.1) 8 u.2.2.2.1) 9 u.2.2.2.2.1) 10 u.2.2.2.2.2.1) 11 u.2.2.2.2.2.2.1) 27 u.2.2.2.2.2.2.2.1) gl rf)), (eA0 (rf 0) (ck 0) 900 f_tape), (eA0 (rf 3) (ck 3) 118 f_words), (eA0 (rf 24) (ck 24) 14 u.2.2.2.2.2.2.2.2)]) (va_A [(mq, .inr (12, mF g gl rf)), (eA0 (rf 0) (ck 0) 900 f_tape), (eA0 (rf 3) (ck 3) 118 f_words), (eA0 (rf 24) (ck 24) 14 f_sky)] sz)) 0 0 (va_A [(mq, .inr (12, mF g gl rf)), (eA0 (rf 0) (ck 0) 900 f_tape), (eA0 (rf 3) (ck 3) 118 f_words), (eA0 (rf 24) (ck 24) 14 f_sky)] sz) := by
  refine Met.ofW (cc := cX12_sunLine) (maxL := 1) (ret := (some .boolean)) (by decide) rfl ?_
  intro p e s m args below meth c s₁ B hml hv
  obtain ⟨rfl, hsz, hP, hK, hD0⟩ := hv
  have hx := B.exec
  have hb := B.bytes
  have hr := B.returns
  have hts := atoms_spec (ws := Cond.code yX12_sunLine cX12_sunLine 1 (some .boolean) :: wsL_law) B.pre
  have htw : ∀ w ∈ wsL_law, w.before _ s = true := fun w h => hts w (List.mem_cons_of_mem _ h)
  have hown : s.vm.findClass RX12 = some m.cls := findClass_of_methodNamed B.named
  have hlocks := B.notSynchronized
  subst hsz
  have hD := hD0.self (sz := s.heap.size)
  generalize hAe : va_A [(mq, .inr (12, mF g gl rf)), (eA0 (rf 0) (ck 0) 900 f_tape), (eA0 (rf 3) (ck 3) 118 f_words), (eA0 (rf 24) (ck 24) 14 f_sky)] s.heap.size = A at hD ⊢
  have hA : ∀ q : Nat, s.heap.size ≤ q → A q := fun q h => by rw [← hAe]; exact Or.inr h
  obtain ⟨H, rH⟩ : ∃ z : Heap, z = s.heap := ⟨_, rfl⟩
  have hS : va_S A s.heap H [] := by rw [rH]; exact va_S.rf
  have hP : va_P (dC, dI) vwCl [(mq, .inr (12, mF g gl rf)), (eA0 (rf 0) (ck 0) 900 f_tape), (eA0 (rf 3) (ck 3) 118 f_words), (eA0 (rf 24) (ck 24) 14 f_sky)] H := by rw [rH]; exact hP
  rw [← rH]
  have hl := lv_entry ([.ref mq]) (n := 1) (Nat.le_of_ble_eq_true rfl)
  rw [lg_entry_eq]
  generalize (lg_sl ([.ref mq]) ++ List.replicate (1 - (lg_sl ([.ref mq])).length) Slot.unset).toArray = ls at hl ⊢
  have hl : lv_has ls 1 [(0, .ref mq)] := hl
  refine lv_aload_n hx hb dX12_sunLine_0 rfl (lv_at hl 0 rfl) ?_
  refine va_get (D := (dC, dI)) (ci := 12) (v := .int (g 27)) (C := RX12) (T := TX12) (N := 76) hx hb htw inlX12 hown hK hP 0 rfl rfl 27 (by decide) (htw _ (ck_11 _ (List.mem_of_getElem? (i := 4) rfl))) (fun _ h9 => h9) rfl dX12_sunLine_1 ?_
  refine lv_if_eq (tgt := 13) hx hb dX12_sunLine_4 (by decide) (fun c_1 => ?_) (fun c_1 => ?_)
  · refine lv_aload_n hx hb dX12_sunLine_13 rfl (lv_at hl 0 rfl) ?_
    refine lv_iconst (v := 1) hx hb dX12_sunLine_14 (by decide) ?_
    refine va_put (D := (dC, dI)) (ci := 12) (v := .int 1) (ty := tyX12 27) (C := RX12) (T := TX12) (N := 76) hx hb htw inlX12 tyX12 tyX12_ok nmX12 hown hK hP hD hS 0 rfl rfl 27 (by decide) (htw _ (ck_11 _ (List.mem_of_getElem? (i := 4) rfl))) (fun _ h9 => h9) rfl (tyX12_ok 27 (by decide)) rfl rfl (Nat.le_of_ble_eq_true rfl) dX12_sunLine_15 (fun H locs hP hD hS => ?_)
    obtain ⟨hP, hD⟩ := zre [(mq, .inr (12, mF (upd g 27 1) gl rf)), (eA0 (rf 0) (ck 0) 900 f_tape), (eA0 (rf 3) (ck 3) 118 f_words), (eA0 (rf 24) (ck 24) 14 f_sky)] hP hD rfl
    refine lv_aload_n hx hb dX12_sunLine_18 rfl (lv_at hl 0 rfl) ?_
    obtain ⟨hPc, hDc, hFc, hCc⟩ := zsub3 (ws' := [(mq, .inr (12, mF (upd g 27 1) gl rf)), (eA0 (rf 0) (ck 0) 900 f_tape), (eA0 (rf 3) (ck 3) 118 f_words)]) hP hD hS hA [0, 1, 2] (by decide) rfl
    have hKc := hK.sub (tys' := [((ck 0), .int), ((ck 3), .int)]) [0, 1] rfl
    refine va_callv (va_runV (As := []) (rest := []) ⟨hx, hb, hml, hown, htw⟩ (gy_token l dC dI mq (upd g 27 1) gl rf ck f_tape f_words H.size h0n hns hs9 hw7) (cwV 0 htw (xg_V (ck_24 _ (List.mem_of_getElem? (i := 14) rfl)) (ck_24 _ (List.mem_of_getElem? (i := 15) rfl)) (ck_24 _ (List.mem_of_getElem? (i := 16) rfl)) (ck_1 _ (List.mem_of_getElem? (i := 5) rfl)) (ck_24 _ (List.mem_of_getElem? (i := 17) rfl))) rfl rfl rfl (by exact ⟨rfl, hdc_14.1, hdc_14.2, hdd_13⟩) ⟨Nat.le_of_ble_eq_true rfl, Nat.le_of_ble_eq_true rfl⟩) ⟨fun a U g mk q => by obtain ⟨q0, q1, qP, qK, qD⟩ := q; exact ⟨q0, q1, qP, va_K.moved (u := U) (U := U.calling g mk a) (Vm.Alike.refl U.vm) qK, qD⟩, va_recv hKc hPc (ci := 12) (q0 := 0) rfl rfl, fun U hU hW => ⟨rfl, by rw [hU], by rw [hU]; exact hPc, va_K.moved hW.alike hKc, hDc.weaken (fun _ _ _ _ => trivial)⟩⟩ rfl rfl hl.1 rfl (lv_room (Nat.le_of_ble_eq_true rfl)) dX12_sunLine_19 ⟨Nat.le_of_ble_eq_true rfl, Nat.le_of_ble_eq_true rfl⟩) hS (fun q _ h => hFc q h) hFc (fun u_3 t H1 locs ht hvm hw hB hz1 hk1 hS => ?_)
    try dsimp only at hw
    obtain ⟨hP1, hK1, hD1⟩ := hB
    rw [ht] at hP1
    have hK1 := va_K.moved hvm.symm hK1
    have hK1 : va_K (dC, dI) vwCl [] s := hK1
    obtain ⟨hP, hD⟩ := va_join (wr := [(eA0 (rf 24) (ck 24) 14 f_sky)]) (w1 := [(mq, .inr (12, mF (upd (upd (upd (upd (upd g 7 u_3.1) 8 u_3.2.1) 9 u_3.2.2.1) 10 u_3.2.2.2) 27 1) gl rf)), (eA0 (rf 0) (ck 0) 900 f_tape), (eA0 (rf 3) (ck 3) 118 f_words)]) hP hD [0, 1, 2] [3] hCc rfl (by decide) (by decide) hk1 hFc hP1 hD1
    generalize H1 = H at hP hS ⊢
    have hP : va_P (dC, dI) vwCl [(eA0 (rf 24) (ck 24) 14 f_sky), (mq, .inr (12, mF (upd (upd (upd (upd (upd g 7 u_3.1) 8 u_3.2.1) 9 u_3.2.2.1) 10 u_3.2.2.2) 27 1) gl rf)), (eA0 (rf 0) (ck 0) 900 f_tape), (eA0 (rf 3) (ck 3) 118 f_words)] H := hP
    have hD : va_D A [(eA0 (rf 24) (ck 24) 14 f_sky), (mq, .inr (12, mF (upd (upd (upd (upd (upd g 7 u_3.1) 8 u_3.2.1) 9 u_3.2.2.1) 10 u_3.2.2.2) 27 1) gl rf)), (eA0 (rf 0) (ck 0) 900 f_tape), (eA0 (rf 3) (ck 3) 118 f_words)] := hD
    refine W.widen (k := 0) (n := 0) (by omega) (by omega) ?_
    obtain ⟨hw, hp_8, hp_9, hp_10⟩ := hw
    have hq_u_3 : u_3 = (fq_token f_tape f_words (g 6) (g 7) (g 9)) := hw
    refine lv_aload_n hx hb dX12_sunLine_22 rfl (lv_at hl 0 rfl) ?_
    refine lv_bipush (v := 12) hx hb dX12_sunLine_23 (by decide) ?_
    obtain ⟨hPc, hDc, hFc, hCc⟩ := zsub3 (ws' := [(mq, .inr (12, mF (upd (upd (upd (upd (upd g 7 u_3.1) 8 u_3.2.1) 9 u_3.2.2.1) 10 u_3.2.2.2) 27 1) gl rf)), (eA0 (rf 0) (ck 0) 900 f_tape), (eA0 (rf 3) (ck 3) 118 f_words), (eA0 (rf 24) (ck 24) 14 f_sky)]) hP hD hS hA [1, 2, 3, 0] (by decide) rfl
    have hKc := hK.sub (tys' := [((ck 0), .int), ((ck 3), .int), ((ck 24), .int)]) [0, 1, 2] rfl
    refine va_calli (va_runV (As := [.int 12]) (rest := []) ⟨hx, hb, hml, hown, htw⟩ (gy_roundRead12 l dC dI mq (upd (upd (upd (upd (upd g 7 u_3.1) 8 u_3.2.1) 9 u_3.2.2.1) 10 u_3.2.2.2) 27 1) gl rf ck f_tape f_words f_sky H.size hp_8 hp_9 hs9 hw7 hSKu) (cwV 1 htw (xg_V (ck_31 _ (List.mem_of_getElem? (i := 21) rfl)) (ck_31 _ (List.mem_of_getElem? (i := 22) rfl)) (ck_31 _ (List.mem_of_getElem? (i := 23) rfl)) (ck_1 _ (List.mem_of_getElem? (i := 5) rfl)) (ck_32 _ (List.mem_of_getElem? (i := 0) rfl))) rfl rfl rfl (by exact ⟨rfl, hdc_14.1, hdc_14.2, hdd_26⟩) ⟨Nat.le_of_ble_eq_true rfl, Nat.le_of_ble_eq_true rfl⟩) ⟨fun a U g mk q => by obtain ⟨q0, q1, qP, qK, qD⟩ := q; exact ⟨q0, q1, qP, va_K.moved (u := U) (U := U.calling g mk a) (Vm.Alike.refl U.vm) qK, qD⟩, va_recv hKc hPc (ci := 12) (q0 := 0) rfl rfl, fun U hU hW => ⟨rfl, by rw [hU], by rw [hU]; exact hPc, va_K.moved hW.alike hKc, hDc.weaken (fun _ _ _ _ => trivial)⟩⟩ rfl rfl hl.1 rfl (lv_room (Nat.le_of_ble_eq_true rfl)) dX12_sunLine_25 ⟨Nat.le_of_ble_eq_true rfl, Nat.le_of_ble_eq_true rfl⟩) hS (fun q _ h => hFc q h) hFc (fun r_11 u_12 t H1 locs ht hvm hw hB hz1 hk1 hS => ?_)
    try dsimp only at hw
    obtain ⟨hP1, hK1, hD1⟩ := hB
    rw [ht] at hP1
    have hK1 := va_K.moved hvm.symm hK1
    have hK1 : va_K (dC, dI) vwCl [] s := hK1
    obtain ⟨hP, hD⟩ := va_join (wr := []) (w1 := [(mq, .inr (12, mF (upd (upd (upd (upd (upd (upd (upd (upd g 4 u_12.1) 5 u_12.2.1) 7 u_12.2.2.1) 8 u_12.2.2.2.1) 9 u_12.2.2.2.2.1) 10 u_12.2.2.2.2.2.1) 11 u_12.2.2.2.2.2.2.1) 27 1) gl rf)), (eA0 (rf 0) (ck 0) 900 f_tape), (eA0 (rf 3) (ck 3) 118 f_words), (eA0 (rf 24) (ck 24) 14 u_12.2.2.2.2.2.2.2)]) hP hD [1, 2, 3, 0] [] hCc rfl (by decide) (by decide) hk1 hFc hP1 hD1
    generalize H1 = H at hP hS ⊢
    have hP : va_P (dC, dI) vwCl [(mq, .inr (12, mF (upd (upd (upd (upd (upd (upd (upd (upd g 4 u_12.1) 5 u_12.2.1) 7 u_12.2.2.1) 8 u_12.2.2.2.1) 9 u_12.2.2.2.2.1) 10 u_12.2.2.2.2.2.1) 11 u_12.2.2.2.2.2.2.1) 27 1) gl rf)), (eA0 (rf 0) (ck 0) 900 f_tape), (eA0 (rf 3) (ck 3) 118 f_words), (eA0 (rf 24) (ck 24) 14 u_12.2.2.2.2.2.2.2)] H := hP
    have hD : va_D A [(mq, .inr (12, mF (upd (upd (upd (upd (upd (upd (upd (upd g 4 u_12.1) 5 u_12.2.1) 7 u_12.2.2.1) 8 u_12.2.2.2.1) 9 u_12.2.2.2.2.1) 10 u_12.2.2.2.2.2.1) 11 u_12.2.2.2.2.2.2.1) 27 1) gl rf)), (eA0 (rf 0) (ck 0) 900 f_tape), (eA0 (rf 3) (ck 3) 118 f_words), (eA0 (rf 24) (ck 24) 14 u_12.2.2.2.2.2.2.2)] := hD
    refine W.widen (k := 0) (n := 0) (by omega) (by omega) ?_
    obtain ⟨hw, hb_r_11, hp_21, hp_22, hp_23, hp_24⟩ := hw
    obtain ⟨X_25, hX_25⟩ : ∃ X9 : Int32 × (Int32) × (Int32) × (Int32) × (Int32) × (Int32) × (Int32) × (Int32) × (Nat → Int32), X9 = (fq_roundRead12 f_tape f_words f_sky (g 4) (g 5) (g 6) u_3.1 u_3.2.1 u_3.2.2.1 u_3.2.2.2 (g 11)) := ⟨_, rfl⟩
    have hq_r_11 : r_11 = X_25.1 := by rw [hX_25]; exact hw.1
    have hq_u_12 : u_12 = X_25.2 := by rw [hX_25]; exact hw.2
    refine W.widen (k := 0) (n := 0) (by omega) (by omega) ?_
    have hP9 := hP
    have hD9 := hD
    have hK9 := hK.sub (tys' := []) [] rfl
    exact W.zret (v := r_11) hx hb hr (xz_nar hb_r_11) (fun t ht hW => ⟨⟨r_11, (u_12.1, u_12.2.1, u_12.2.2.1, u_12.2.2.2.1, u_12.2.2.2.2.1, u_12.2.2.2.2.2.1, u_12.2.2.2.2.2.2.1, 1, u_12.2.2.2.2.2.2.2), rfl, ⟨((fun e9 => ⟨by rw [e9], by rw [e9]⟩ : fq_sunLine f_tape f_words f_sky (g 4) (g 5) (g 6) (g 7) (g 8) (g 9) (g 10) (g 11) (g 27) = (r_11, u_12.1, u_12.2.1, u_12.2.2.1, u_12.2.2.2.1, u_12.2.2.2.2.1, u_12.2.2.2.2.2.1, u_12.2.2.2.2.2.2.1, (1 : Int32), u_12.2.2.2.2.2.2.2) → _) ((by rw [fq_sunLine]; (try rw [if_pos c_1]); (try rw [← hq_u_3]); (try rw [xL_eq]); (try rw [← hX_25]); (try rw [xL_eq]); (try rw [← hq_r_11]); (try rw [← hq_u_12]); try rfl))), hb_r_11, hp_21, hp_22, hp_23, hp_24, (gy_sunLine_s0 ), (gy_sunLine_s1 ), (Or.inr (gy_sunLine_s2 (y0 := g 27) c_1 ht1))⟩, by rw [ht]; exact hP9, va_K.moved hW.alike hK9, hD9⟩, hS.F ht⟩) hS.2.2 dX12_sunLine_28
  · refine lv_aload_n hx hb dX12_sunLine_7 rfl (lv_at hl 0 rfl) ?_
    refine lv_iconst (v := 3) hx hb dX12_sunLine_8 (by decide) ?_
    obtain ⟨hPc, hDc, hFc, hCc⟩ := zsub3 (ws' := [(mq, .inr (12, mF g gl rf))]) hP hD hS hA [0] (by decide) rfl
    have hKc := hK.sub (tys' := []) [] rfl
    refine va_calli (va_runV (As := [.int 3]) (rest := []) ⟨hx, hb, hml, hown, htw⟩ (gq_wrong l dC dI mq g gl rf (3 : Int32) H.size) (cwV 1 htw (xg_V (ck_25 _ (List.mem_of_getElem? (i := 21) rfl)) (ck_25 _ (List.mem_of_getElem? (i := 22) rfl)) (ck_25 _ (List.mem_of_getElem? (i := 23) rfl)) (ck_1 _ (List.mem_of_getElem? (i := 5) rfl)) (ck_26 _ (List.mem_of_getElem? (i := 0) rfl))) rfl rfl rfl (by exact ⟨rfl, hdc_14.1, hdc_14.2, hdd_26⟩) ⟨Nat.le_of_ble_eq_true rfl, Nat.le_of_ble_eq_true rfl⟩) ⟨fun a U g mk q => by obtain ⟨q0, q1, qP, qK, qD⟩ := q; exact ⟨q0, q1, qP, va_K.moved (u := U) (U := U.calling g mk a) (Vm.Alike.refl U.vm) qK, qD⟩, va_recv hKc hPc (ci := 12) (q0 := 0) rfl rfl, fun U hU hW => ⟨rfl, by rw [hU], by rw [hU]; exact hPc, va_K.moved hW.alike hKc, hDc.weaken (fun _ _ _ _ => trivial)⟩⟩ rfl rfl hl.1 rfl (lv_room (Nat.le_of_ble_eq_true rfl)) dX12_sunLine_9 ⟨Nat.le_of_ble_eq_true rfl, Nat.le_of_ble_eq_true rfl⟩) hS (fun q _ h => hFc q h) hFc (fun r_26 u_27 t H1 locs ht hvm hw hB hz1 hk1 hS => ?_)
    try dsimp only at hw
    obtain ⟨hP1, hK1, hD1⟩ := hB
    rw [ht] at hP1
    have hK1 := va_K.moved hvm.symm hK1
    have hK1 : va_K (dC, dI) vwCl [] s := hK1
    obtain ⟨hP, hD⟩ := va_join (wr := [(eA0 (rf 0) (ck 0) 900 f_tape), (eA0 (rf 3) (ck 3) 118 f_words), (eA0 (rf 24) (ck 24) 14 f_sky)]) (w1 := [(mq, .inr (12, mF (upd (upd g 4 u_27.1) 5 u_27.2) gl rf))]) hP hD [0] [1, 2, 3] hCc rfl (by decide) (by decide) hk1 hFc hP1 hD1
    generalize H1 = H at hP hS ⊢
    have hP : va_P (dC, dI) vwCl [(eA0 (rf 0) (ck 0) 900 f_tape), (eA0 (rf 3) (ck 3) 118 f_words), (eA0 (rf 24) (ck 24) 14 f_sky), (mq, .inr (12, mF (upd (upd g 4 u_27.1) 5 u_27.2) gl rf))] H := hP
    have hD : va_D A [(eA0 (rf 0) (ck 0) 900 f_tape), (eA0 (rf 3) (ck 3) 118 f_words), (eA0 (rf 24) (ck 24) 14 f_sky), (mq, .inr (12, mF (upd (upd g 4 u_27.1) 5 u_27.2) gl rf))] := hD
    refine W.widen (k := 0) (n := 0) (by omega) (by omega) ?_
    obtain ⟨hw, hb_r_26, hp_30⟩ := hw
    obtain ⟨X_31, hX_31⟩ : ∃ X9 : Int32 × (Int32) × (Int32), X9 = (fq_wrong (3 : Int32) (g 10)) := ⟨_, rfl⟩
    have hq_r_26 : r_26 = X_31.1 := by rw [hX_31]; exact hw.1
    have hq_u_27 : u_27 = X_31.2 := by rw [hX_31]; exact hw.2
    refine W.widen (k := 0) (n := 0) (by omega) (by omega) ?_
    obtain ⟨hP9, hD9⟩ := zsub2 (ws' := [(mq, .inr (12, mF (upd (upd g 4 u_27.1) 5 u_27.2) gl rf)), (eA0 (rf 0) (ck 0) 900 f_tape), (eA0 (rf 3) (ck 3) 118 f_words), (eA0 (rf 24) (ck 24) 14 f_sky)]) hP hD [3, 0, 1, 2] (by decide) rfl
    have hK9 := hK.sub (tys' := []) [] rfl
    exact W.zret (v := r_26) hx hb hr (xz_nar hb_r_26) (fun t ht hW => ⟨⟨r_26, (u_27.1, u_27.2, (g 7), (g 8), (g 9), (g 10), (g 11), (g 27), f_sky), rfl, ⟨((fun e9 => ⟨by rw [e9], by rw [e9]⟩ : fq_sunLine f_tape f_words f_sky (g 4) (g 5) (g 6) (g 7) (g 8) (g 9) (g 10) (g 11) (g 27) = (r_26, u_27.1, u_27.2, (g 7), (g 8), (g 9), (g 10), (g 11), (g 27), f_sky) → _) ((by rw [fq_sunLine]; (try rw [if_neg c_1]); (try rw [← hX_31]); (try rw [xL_eq]); (try rw [← hq_r_26]); (try rw [← hq_u_27]); try rfl))), hb_r_26, h0n, hns, xSm_rf, (Or.inl hp_30), ht0, ht1, (Or.inl hp_30)⟩, by rw [ht]; exact hP9, va_K.moved hW.alike hK9, hD9⟩, hS.F ht⟩) hS.2.2 dX12_sunLine_12
