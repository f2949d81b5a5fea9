def fq_number (f_tape : Nat → Int32) (f_words : Nat → Int32) (a0 : Int32) (a1 : Int32) (m_fault : Int32) (m_faultPlace : Int32) (m_stop : Int32) (m_next : Int32) (m_kind : Int32) (m_which : Int32) (m_at : Int32) (m_got : Int32) : Int32 × (Int32) × (Int32) × (Int32) × (Int32) × (Int32) × (Int32) × (Int32) := (if m_kind = 3 then (xL ((fq_isIn m_which a0 a1)) (fun r_2 => (if r_2 = 0 then (xL ((fq_wrong (2 : Int32) m_at)) (fun X_19 => (X_19.1, m_next, m_kind, m_which, m_at, m_got, X_19.2.1, X_19.2.2))) else (xL ((fq_token f_tape f_words m_stop m_next m_which)) (fun u_7 => ((1 : Int32), u_7.1, u_7.2.1, u_7.2.2.1, u_7.2.2.2, m_which, m_fault, m_faultPlace)))))) else (xL ((fq_wrong (1 : Int32) m_at)) (fun X_25 => (X_25.1, m_next, m_kind, m_which, m_at, m_got, X_25.2.1, X_25.2.2))))
theorem gq_number_s0 {y0 : Int32} {y1 : Int32} {y2 : Int32} (h0 : ¬ (y0 < 0)) (h1 : y0 ≤ y1) (h2 : ¬ (y2 < 0)) (h3 : y2 ≤ y1) (h4 : y1 ≤ 900) : ¬ (y0 < 0) := h0
theorem gq_number_s1 {y0 : Int32} {y1 : Int32} {y2 : Int32} (h0 : ¬ (y0 < 0)) (h1 : y0 ≤ y1) (h2 : ¬ (y2 < 0)) (h3 : y2 ≤ y1) (h4 : y1 ≤ 900) : y0 ≤ y1 := h1
theorem gq_number_s2 {y0 : Int32} {y1 : Int32} {y2 : Int32} (h0 : ¬ (y0 < y1)) (h1 : ¬ (y2 < y0)) : ¬ (y0 < y1) := h0
theorem gq_number_s3 {y0 : Int32} {y1 : Int32} {y2 : Int32} (h0 : ¬ (y0 < y2)) (h1 : ¬ (y1 < y0)) : y0 ≤ y1 := by lia
theorem gq_number_s4 {y0 : Int32} {y1 : Int32} (h0 : ¬ (y0 < 0)) (h1 : y0 ≤ y1) (h2 : y1 ≤ 900) : ¬ (y0 < 0) := h0
theorem gq_number_s5 {y0 : Int32} {y1 : Int32} (h0 : ¬ (y0 < 0)) (h1 : y0 ≤ y1) (h2 : y1 ≤ 900) : y0 ≤ y1 := h1
theorem gq_number_s6 {y0 : Int32} {y1 : Int32} (h0 : ¬ (y0 < 0)) (h1 : y0 ≤ y1) (h2 : y1 ≤ 900) : ¬ (y0 < 0) := h0
theorem gq_number_s7 {y0 : Int32} {y1 : Int32} (h0 : ¬ (y0 < 0)) (h1 : y0 ≤ y1) (h2 : y1 ≤ 900) : y0 ≤ y1 := h1
theorem dX12_number_0 : decode cX12_number 0 = .ok (.aload_n 0, 1) := zk_42 (by decide +kernel)
theorem dX12_number_1 : decode cX12_number 1 = .ok (.getfield 139, 3) := zk_180 (by decide +kernel)
theorem dX12_number_4 : decode cX12_number 4 = .ok (.iconst 3, 1) := zk_6 (by decide +kernel)
theorem dX12_number_5 : decode cX12_number 5 = .ok (.if_icmp .eq 9, 3) := zk_159 (by decide +kernel)
theorem dX12_number_14 : decode cX12_number 14 = .ok (.aload_n 0, 1) := zk_42 (by decide +kernel)
theorem dX12_number_15 : decode cX12_number 15 = .ok (.getfield 150, 3) := zk_180 (by decide +kernel)
theorem dX12_number_18 : decode cX12_number 18 = .ok (.iload_n 1, 1) := zk_27 (by decide +kernel)
theorem dX12_number_19 : decode cX12_number 19 = .ok (.iload_n 2, 1) := zk_28 (by decide +kernel)
theorem dX12_number_20 : decode cX12_number 20 = .ok (.invokestatic 166, 3) := zk_184 (by decide +kernel)
theorem dX12_number_23 : decode cX12_number 23 = .ok (.ifCond .ne 9, 3) := zk_154 (by decide +kernel)
theorem dX12_number_32 : decode cX12_number 32 = .ok (.aload_n 0, 1) := zk_42 (by decide +kernel)
theorem dX12_number_33 : decode cX12_number 33 = .ok (.aload_n 0, 1) := zk_42 (by decide +kernel)
theorem dX12_number_34 : decode cX12_number 34 = .ok (.getfield 150, 3) := zk_180 (by decide +kernel)
theorem dX12_number_37 : decode cX12_number 37 = .ok (.putfield 170, 3) := zk_181 (by decide +kernel)
theorem dX12_number_40 : decode cX12_number 40 = .ok (.aload_n 0, 1) := zk_42 (by decide +kernel)
theorem dX12_number_41 : decode cX12_number 41 = .ok (.invokevirtual 173, 3) := zk_182 (by decide +kernel)
theorem dX12_number_44 : decode cX12_number 44 = .ok (.iconst 1, 1) := zk_4 (by decide +kernel)
theorem dX12_number_45 : decode cX12_number 45 = .ok (.ireturn, 1) := zk_172 (by decide +kernel)
theorem dX12_number_26 : decode cX12_number 26 = .ok (.aload_n 0, 1) := zk_42 (by decide +kernel)
theorem dX12_number_27 : decode cX12_number 27 = .ok (.iconst 2, 1) := zk_5 (by decide +kernel)
theorem dX12_number_28 : decode cX12_number 28 = .ok (.invokevirtual 163, 3) := zk_182 (by decide +kernel)
theorem dX12_number_31 : decode cX12_number 31 = .ok (.ireturn, 1) := zk_172 (by decide +kernel)
theorem dX12_number_8 : decode cX12_number 8 = .ok (.aload_n 0, 1) := zk_42 (by decide +kernel)
theorem dX12_number_9 : decode cX12_number 9 = .ok (.iconst 1, 1) := zk_4 (by decide +kernel)
theorem dX12_number_10 : decode cX12_number 10 = .ok (.invokevirtual 163, 3) := zk_182 (by decide +kernel)
theorem dX12_number_13 : decode cX12_number 13 = .ok (.ireturn, 1) := zk_172 (by decide +kernel)
set_option maxHeartbeats 4000000 in
set_option maxRecDepth 100000 in
theorem gq_number (l : Launch) (dC : Nat → ClassId) (dI : Nat → Nat → Nat) (mq : Nat) (g : Nat → Int32) (gl : Nat → Int64) (rf : Nat → Nat) (ck : Nat → ClassId) (f_tape : Nat → Int32) (f_words : Nat → Int32) (a0 : Int32) (a1 : Int32) (sz : Nat) (h0n : ¬ (g 7) < 0) (hns : (g 7) ≤ (g 6)) (hs9 : (g 6) ≤ 900) (hw7 : (f_words 117) = 32) : Met l yX12_number (Cond.code yX12_number cX12_number 3 (some .boolean) :: wsL_law) ({ frames := 2, cells := 0, slots := 0, locals := 47 }) (va_Pc [.ref mq, .int a0, .int a1] (fun U => U.heap.size = sz ∧ va_P (dC, dI) vwCl [(mq, .inr (12, mF g gl rf)), (eA0 (rf 0) (ck 0) 900 f_tape), (eA0 (rf 3) (ck 3) 118 f_words)] U.heap ∧ va_K (dC, dI) vwCl [((ck 0), .int), ((ck 3), .int)] U ∧ va_D (fun _ => True) [(mq, .inr (12, mF g gl rf)), (eA0 (rf 0) (ck 0) 900 f_tape), (eA0 (rf 3) (ck 3) 118 f_words)])) (va_Qi (fun (r : Int32) (u : (Int32) × (Int32) × (Int32) × (Int32) × (Int32) × (Int32) × (Int32)) => (r = (fq_number f_tape f_words a0 a1 (g 4) (g 5) (g 6) (g 7) (g 8) (g 9) (g 10) (g 11)).1 ∧ u = (fq_number f_tape f_words a0 a1 (g 4) (g 5) (g 6) (g 7) (g 8) (g 9) (g 10) (g 11)).2) ∧ (r = 0 ∨ r = 1) ∧ (¬ u.1 < 0) ∧ (u.1 ≤ (g 6)) ∧ (r = 0 ∨ ¬ u.2.2.2.2.1 < a0) ∧ (r = 0 ∨ u.2.2.2.2.1 ≤ a1)) (fun (u : (Int32) × (Int32) × (Int32) × (Int32) × (Int32) × (Int32) × (Int32)) t => va_P (dC, dI) vwCl [(mq, .inr (12, mF (upd (upd (upd (upd (upd (upd (upd g 4 u.2.2.2.2.2.1) 5 u.2.2.2.2.2.2) 7 u.1) 8 u.2.1) 9 u.2.2.1) 10 u.2.2.2.1) 11 u.2.2.2.2.1) gl rf)), (eA0 (rf 0) (ck 0) 900 f_tape), (eA0 (rf 3) (ck 3) 118 f_words)] t.heap ∧ va_K (dC, dI) vwCl [] t ∧ va_D (va_A [(mq, .inr (12, mF g gl rf)), (eA0 (rf 0) (ck 0) 900 f_tape), (eA0 (rf 3) (ck 3) 118 f_words)] sz) [(mq, .inr (12, mF (upd (upd (upd (upd (upd (upd (upd g 4 u.2.2.2.2.2.1) 5 u.2.2.2.2.2.2) 7 u.1) 8 u.2.1) 9 u.2.2.1) 10 u.2.2.2.1) 11 u.2.2.2.2.1) gl rf)), (eA0 (rf 0) (ck 0) 900 f_tape), (eA0 (rf 3) (ck 3) 118 f_words)]) (va_A [(mq, .inr (12, mF g gl rf)), (eA0 (rf 0) (ck 0) 900 f_tape), (eA0 (rf 3) (ck 3) 118 f_words)] sz)) 0 0 (va_A [(mq, .inr (12, mF g gl rf)), (eA0 (rf 0) (ck 0) 900 f_tape), (eA0 (rf 3) (ck 3) 118 f_words)] sz) := by
  refine Met.ofW (cc := cX12_number) (maxL := 3) (ret := (some .boolean)) (by decide) rfl ?_
  intro p e s m args below meth c s₁ B hml hv
  obtain ⟨rfl, hsz, hP, hK, hD0⟩ := hv
  have hx := B.exec
  have hb := B.bytes
  have hr := B.returns
  have hts := atoms_spec (ws := Cond.code yX12_number cX12_number 3 (some .boolean) :: wsL_law) B.pre
  have htw : ∀ w ∈ wsL_law, w.before _ s = true := fun w h => hts w (List.mem_cons_of_mem _ h)
  have hown : s.vm.findClass RX12 = some m.cls := findClass_of_methodNamed B.named
  have hlocks := B.notSynchronized
  subst hsz
  have hD := hD0.self (sz := s.heap.size)
  generalize hAe : va_A [(mq, .inr (12, mF g gl rf)), (eA0 (rf 0) (ck 0) 900 f_tape), (eA0 (rf 3) (ck 3) 118 f_words)] s.heap.size = A at hD ⊢
  have hA : ∀ q : Nat, s.heap.size ≤ q → A q := fun q h => by rw [← hAe]; exact Or.inr h
  obtain ⟨H, rH⟩ : ∃ z : Heap, z = s.heap := ⟨_, rfl⟩
  have hS : va_S A s.heap H [] := by rw [rH]; exact va_S.rf
  have hP : va_P (dC, dI) vwCl [(mq, .inr (12, mF g gl rf)), (eA0 (rf 0) (ck 0) 900 f_tape), (eA0 (rf 3) (ck 3) 118 f_words)] H := by rw [rH]; exact hP
  rw [← rH]
  have hl := lv_entry ([.ref mq, .int a0, .int a1]) (n := 3) (Nat.le_of_ble_eq_true rfl)
  rw [lg_entry_eq]
  generalize (lg_sl ([.ref mq, .int a0, .int a1]) ++ List.replicate (3 - (lg_sl ([.ref mq, .int a0, .int a1])).length) Slot.unset).toArray = ls at hl ⊢
  have hl : lv_has ls 3 [(0, .ref mq), (1, .int a0), (2, .int a1)] := hl
  refine lv_aload_n hx hb dX12_number_0 rfl (lv_at hl 0 rfl) ?_
  refine va_get (D := (dC, dI)) (ci := 12) (v := .int (g 8)) (C := RX12) (T := TX12) (N := 76) hx hb htw inlX12 hown hK hP 0 rfl rfl 8 (by decide) (htw _ (ck_24 _ (List.mem_of_getElem? (i := 13) rfl))) (fun _ h9 => h9) rfl dX12_number_1 ?_
  refine lv_iconst (v := 3) hx hb dX12_number_4 (by decide) ?_
  refine lv_icmp_eq (tgt := 14) hx hb dX12_number_5 (by decide) (fun c_1 => ?_) (fun c_1 => ?_)
  · refine lv_aload_n hx hb dX12_number_14 rfl (lv_at hl 0 rfl) ?_
    refine va_get (D := (dC, dI)) (ci := 12) (v := .int (g 9)) (C := RX12) (T := TX12) (N := 76) hx hb htw inlX12 hown hK hP 0 rfl rfl 9 (by decide) (htw _ (ck_24 _ (List.mem_of_getElem? (i := 19) rfl))) (fun _ h9 => h9) rfl dX12_number_15 ?_
    refine lv_iload_n hx hb dX12_number_18 rfl (lv_at hl 1 rfl) ?_
    refine lv_iload_n hx hb dX12_number_19 rfl (lv_at hl 2 rfl) ?_
    have hPc := hP.sub (ws' := []) [] rfl
    have hKc := hK.sub (tys' := []) [] rfl
    refine vp_callSi (W.runS (As := [.int (g 9), .int a0, .int a1]) (rest := []) ⟨hx, hb, hml, hown, htw⟩ (gq_isIn l dC dI (g 9) a0 a1) (va_cwS 3 htw (xg_S (ck_26 _ (List.mem_of_getElem? (i := 17) rfl)) (ck_26 _ (List.mem_of_getElem? (i := 18) rfl)) (ck_1 _ (List.mem_of_getElem? (i := 5) rfl)) (ck_26 _ (List.mem_of_getElem? (i := 19) rfl))) rfl rfl rfl (by exact ⟨hdc_14.1, hdc_14.2, hdd_38⟩) ⟨Nat.le_of_ble_eq_true rfl, Nat.le_of_ble_eq_true rfl⟩) ⟨fun a U g mk q => by obtain ⟨q0, qP, qK⟩ := q; exact ⟨q0, qP, va_K.moved (u := U) (U := U.calling g mk a) (Vm.Alike.refl U.vm) qK⟩, fun U hU hW => ⟨rfl, by rw [hU]; exact hPc, va_K.moved hW.alike hKc⟩⟩ rfl rfl hl.1 rfl (lv_room (Nat.le_of_ble_eq_true rfl)) dX12_number_20 ⟨Nat.le_of_ble_eq_true rfl, Nat.le_of_ble_eq_true rfl⟩) (fun r_2 hw => ?_)
    try dsimp only at hw
    obtain ⟨hw, hb_r_2, hp_3, hp_4⟩ := hw
    have hq_r_2 : r_2 = (fq_isIn (g 9) a0 a1) := hw
    refine lv_if_ne (tgt := 32) hx hb dX12_number_23 (by decide) (fun c_5 => ?_) (fun c_5 => ?_)
    · refine lv_aload_n hx hb dX12_number_32 rfl (lv_at hl 0 rfl) ?_
      refine lv_aload_n hx hb dX12_number_33 rfl (lv_at hl 0 rfl) ?_
      refine va_get (D := (dC, dI)) (ci := 12) (v := .int (g 9)) (C := RX12) (T := TX12) (N := 76) hx hb htw inlX12 hown hK hP 0 rfl rfl 9 (by decide) (htw _ (ck_24 _ (List.mem_of_getElem? (i := 19) rfl))) (fun _ h9 => h9) rfl dX12_number_34 ?_
      refine va_put (D := (dC, dI)) (ci := 12) (v := .int (g 9)) (ty := tyX12 11) (C := RX12) (T := TX12) (N := 76) hx hb htw inlX12 tyX12 tyX12_ok nmX12 hown hK hP hD hS 0 rfl rfl 11 (by decide) (htw _ (ck_26 _ (List.mem_of_getElem? (i := 5) rfl))) (fun _ h9 => h9) rfl (tyX12_ok 11 (by decide)) rfl rfl (Nat.le_of_ble_eq_true rfl) dX12_number_37 (fun H locs hP hD hS => ?_)
      obtain ⟨hP, hD⟩ := zre [(mq, .inr (12, mF (upd g 11 (g 9)) gl rf)), (eA0 (rf 0) (ck 0) 900 f_tape), (eA0 (rf 3) (ck 3) 118 f_words)] hP hD rfl
      refine lv_aload_n hx hb dX12_number_40 rfl (lv_at hl 0 rfl) ?_
      obtain ⟨hPc, hDc, hFc, hCc⟩ := zsub3 (ws' := [(mq, .inr (12, mF (upd g 11 (g 9)) gl rf)), (eA0 (rf 0) (ck 0) 900 f_tape), (eA0 (rf 3) (ck 3) 118 f_words)]) hP hD hS hA [0, 1, 2] (by decide) rfl
      have hKc := hK.sub (tys' := [((ck 0), .int), ((ck 3), .int)]) [0, 1] rfl
      refine va_callv (va_runV (As := []) (rest := []) ⟨hx, hb, hml, hown, htw⟩ (gq_token l dC dI mq (upd g 11 (g 9)) gl rf ck f_tape f_words H.size h0n hns hs9 hw7) (cwV 0 htw (xg_V (ck_24 _ (List.mem_of_getElem? (i := 14) rfl)) (ck_24 _ (List.mem_of_getElem? (i := 15) rfl)) (ck_24 _ (List.mem_of_getElem? (i := 16) rfl)) (ck_1 _ (List.mem_of_getElem? (i := 5) rfl)) (ck_24 _ (List.mem_of_getElem? (i := 17) rfl))) rfl rfl rfl (by exact ⟨rfl, hdc_14.1, hdc_14.2, hdd_13⟩) ⟨Nat.le_of_ble_eq_true rfl, Nat.le_of_ble_eq_true rfl⟩) ⟨fun a U g mk q => by obtain ⟨q0, q1, qP, qK, qD⟩ := q; exact ⟨q0, q1, qP, va_K.moved (u := U) (U := U.calling g mk a) (Vm.Alike.refl U.vm) qK, qD⟩, va_recv hKc hPc (ci := 12) (q0 := 0) rfl rfl, fun U hU hW => ⟨rfl, by rw [hU], by rw [hU]; exact hPc, va_K.moved hW.alike hKc, hDc.weaken (fun _ _ _ _ => trivial)⟩⟩ rfl rfl hl.1 rfl (lv_room (Nat.le_of_ble_eq_true rfl)) dX12_number_41 ⟨Nat.le_of_ble_eq_true rfl, Nat.le_of_ble_eq_true rfl⟩) hS (fun q _ h => hFc q h) hFc (fun u_7 t H1 locs ht hvm hw hB hz1 hk1 hS => ?_)
      try dsimp only at hw
      obtain ⟨hP1, hK1, hD1⟩ := hB
      rw [ht] at hP1
      have hK1 := va_K.moved hvm.symm hK1
      have hK1 : va_K (dC, dI) vwCl [] s := hK1
      obtain ⟨hP, hD⟩ := va_join (wr := []) (w1 := [(mq, .inr (12, mF (upd (upd (upd (upd (upd g 7 u_7.1) 8 u_7.2.1) 9 u_7.2.2.1) 10 u_7.2.2.2) 11 (g 9)) gl rf)), (eA0 (rf 0) (ck 0) 900 f_tape), (eA0 (rf 3) (ck 3) 118 f_words)]) hP hD [0, 1, 2] [] hCc rfl (by decide) (by decide) hk1 hFc hP1 hD1
      generalize H1 = H at hP hS ⊢
      have hP : va_P (dC, dI) vwCl [(mq, .inr (12, mF (upd (upd (upd (upd (upd g 7 u_7.1) 8 u_7.2.1) 9 u_7.2.2.1) 10 u_7.2.2.2) 11 (g 9)) gl rf)), (eA0 (rf 0) (ck 0) 900 f_tape), (eA0 (rf 3) (ck 3) 118 f_words)] H := hP
      have hD : va_D A [(mq, .inr (12, mF (upd (upd (upd (upd (upd g 7 u_7.1) 8 u_7.2.1) 9 u_7.2.2.1) 10 u_7.2.2.2) 11 (g 9)) gl rf)), (eA0 (rf 0) (ck 0) 900 f_tape), (eA0 (rf 3) (ck 3) 118 f_words)] := hD
      refine W.widen (k := 0) (n := 0) (by omega) (by omega) ?_
      obtain ⟨hw, hp_12, hp_13⟩ := hw
      have hq_u_7 : u_7 = (fq_token f_tape f_words (g 6) (g 7) (g 9)) := hw
      refine lv_iconst (v := 1) hx hb dX12_number_44 (by decide) ?_
      refine W.widen (k := 0) (n := 0) (by omega) (by omega) ?_
      have hP9 := hP
      have hD9 := hD
      have hK9 := hK.sub (tys' := []) [] rfl
      exact W.zret (v := 1) hx hb hr (by first | rfl | decide) (fun t ht hW => ⟨⟨1, (u_7.1, u_7.2.1, u_7.2.2.1, u_7.2.2.2, (g 9), (g 4), (g 5)), rfl, ⟨((fun e9 => ⟨by rw [e9], by rw [e9]⟩ : fq_number f_tape f_words a0 a1 (g 4) (g 5) (g 6) (g 7) (g 8) (g 9) (g 10) (g 11) = ((1 : Int32), u_7.1, u_7.2.1, u_7.2.2.1, u_7.2.2.2, (g 9), (g 4), (g 5)) → _) ((by rw [fq_number]; (try rw [if_pos c_1]); (try rw [← hq_r_2]); (try rw [xL_eq]); (try rw [if_neg c_5]); (try rw [← hq_u_7]); (try rw [xL_eq]); try rfl))), Or.inr rfl, (gq_number_s0 (y0 := u_7.1) (y1 := g 6) (y2 := g 7) hp_12 hp_13 h0n hns hs9), (gq_number_s1 (y0 := u_7.1) (y1 := g 6) (y2 := g 7) hp_12 hp_13 h0n hns hs9), (Or.inr (gq_number_s2 (y0 := g 9) (y1 := a0) (y2 := a1) (hp_3.resolve_left c_5) (hp_4.resolve_left c_5))), (Or.inr (gq_number_s3 (y0 := g 9) (y1 := a1) (y2 := a0) (hp_3.resolve_left c_5) (hp_4.resolve_left c_5)))⟩, by rw [ht]; exact hP9, va_K.moved hW.alike hK9, hD9⟩, hS.F ht⟩) hS.2.2 dX12_number_45
    · refine lv_aload_n hx hb dX12_number_26 rfl (lv_at hl 0 rfl) ?_
      refine lv_iconst (v := 2) hx hb dX12_number_27 (by decide) ?_
      obtain ⟨hPc, hDc, hFc, hCc⟩ := zsub3 (ws' := [(mq, .inr (12, mF g gl rf))]) hP hD hS hA [0] (by decide) rfl
      have hKc := hK.sub (tys' := []) [] rfl
      refine va_calli (va_runV (As := [.int 2]) (rest := []) ⟨hx, hb, hml, hown, htw⟩ (gq_wrong l dC dI mq g gl rf (2 : Int32) H.size) (cwV 1 htw (xg_V (ck_25 _ (List.mem_of_getElem? (i := 21) rfl)) (ck_25 _ (List.mem_of_getElem? (i := 22) rfl)) (ck_25 _ (List.mem_of_getElem? (i := 23) rfl)) (ck_1 _ (List.mem_of_getElem? (i := 5) rfl)) (ck_26 _ (List.mem_of_getElem? (i := 0) rfl))) rfl rfl rfl (by exact ⟨rfl, hdc_14.1, hdc_14.2, hdd_26⟩) ⟨Nat.le_of_ble_eq_true rfl, Nat.le_of_ble_eq_true rfl⟩) ⟨fun a U g mk q => by obtain ⟨q0, q1, qP, qK, qD⟩ := q; exact ⟨q0, q1, qP, va_K.moved (u := U) (U := U.calling g mk a) (Vm.Alike.refl U.vm) qK, qD⟩, va_recv hKc hPc (ci := 12) (q0 := 0) rfl rfl, fun U hU hW => ⟨rfl, by rw [hU], by rw [hU]; exact hPc, va_K.moved hW.alike hKc, hDc.weaken (fun _ _ _ _ => trivial)⟩⟩ rfl rfl hl.1 rfl (lv_room (Nat.le_of_ble_eq_true rfl)) dX12_number_28 ⟨Nat.le_of_ble_eq_true rfl, Nat.le_of_ble_eq_true rfl⟩) hS (fun q _ h => hFc q h) hFc (fun r_14 u_15 t H1 locs ht hvm hw hB hz1 hk1 hS => ?_)
      try dsimp only at hw
      obtain ⟨hP1, hK1, hD1⟩ := hB
      rw [ht] at hP1
      have hK1 := va_K.moved hvm.symm hK1
      have hK1 : va_K (dC, dI) vwCl [] s := hK1
      obtain ⟨hP, hD⟩ := va_join (wr := [(eA0 (rf 0) (ck 0) 900 f_tape), (eA0 (rf 3) (ck 3) 118 f_words)]) (w1 := [(mq, .inr (12, mF (upd (upd g 4 u_15.1) 5 u_15.2) gl rf))]) hP hD [0] [1, 2] hCc rfl (by decide) (by decide) hk1 hFc hP1 hD1
      generalize H1 = H at hP hS ⊢
      have hP : va_P (dC, dI) vwCl [(eA0 (rf 0) (ck 0) 900 f_tape), (eA0 (rf 3) (ck 3) 118 f_words), (mq, .inr (12, mF (upd (upd g 4 u_15.1) 5 u_15.2) gl rf))] H := hP
      have hD : va_D A [(eA0 (rf 0) (ck 0) 900 f_tape), (eA0 (rf 3) (ck 3) 118 f_words), (mq, .inr (12, mF (upd (upd g 4 u_15.1) 5 u_15.2) gl rf))] := hD
      refine W.widen (k := 0) (n := 0) (by omega) (by omega) ?_
      obtain ⟨hw, hb_r_14, hp_18⟩ := hw
      obtain ⟨X_19, hX_19⟩ : ∃ X9 : Int32 × (Int32) × (Int32), X9 = (fq_wrong (2 : Int32) (g 10)) := ⟨_, rfl⟩
      have hq_r_14 : r_14 = X_19.1 := by rw [hX_19]; exact hw.1
      have hq_u_15 : u_15 = X_19.2 := by rw [hX_19]; exact hw.2
      refine W.widen (k := 0) (n := 0) (by omega) (by omega) ?_
      obtain ⟨hP9, hD9⟩ := zsub2 (ws' := [(mq, .inr (12, mF (upd (upd g 4 u_15.1) 5 u_15.2) gl rf)), (eA0 (rf 0) (ck 0) 900 f_tape), (eA0 (rf 3) (ck 3) 118 f_words)]) hP hD [2, 0, 1] (by decide) rfl
      have hK9 := hK.sub (tys' := []) [] rfl
      exact W.zret (v := r_14) hx hb hr (xz_nar hb_r_14) (fun t ht hW => ⟨⟨r_14, ((g 7), (g 8), (g 9), (g 10), (g 11), u_15.1, u_15.2), rfl, ⟨((fun e9 => ⟨by rw [e9], by rw [e9]⟩ : fq_number f_tape f_words a0 a1 (g 4) (g 5) (g 6) (g 7) (g 8) (g 9) (g 10) (g 11) = (r_14, (g 7), (g 8), (g 9), (g 10), (g 11), u_15.1, u_15.2) → _) ((by rw [fq_number]; (try rw [if_pos c_1]); (try rw [← hq_r_2]); (try rw [xL_eq]); (try rw [if_pos c_5]); (try rw [← hX_19]); (try rw [xL_eq]); (try rw [← hq_r_14]); (try rw [← hq_u_15]); try rfl))), hb_r_14, (gq_number_s4 (y0 := g 7) (y1 := g 6) h0n hns hs9), (gq_number_s5 (y0 := g 7) (y1 := g 6) h0n hns hs9), (Or.inl hp_18), (Or.inl hp_18)⟩, by rw [ht]; exact hP9, va_K.moved hW.alike hK9, hD9⟩, hS.F ht⟩) hS.2.2 dX12_number_31
  · refine lv_aload_n hx hb dX12_number_8 rfl (lv_at hl 0 rfl) ?_
    refine lv_iconst (v := 1) hx hb dX12_number_9 (by decide) ?_
    obtain ⟨hPc, hDc, hFc, hCc⟩ := zsub3 (ws' := [(mq, .inr (12, mF g gl rf))]) hP hD hS hA [0] (by decide) rfl
    have hKc := hK.sub (tys' := []) [] rfl
    refine va_calli (va_runV (As := [.int 1]) (rest := []) ⟨hx, hb, hml, hown, htw⟩ (gq_wrong l dC dI mq g gl rf (1 : Int32) H.size) (cwV 1 htw (xg_V (ck_25 _ (List.mem_of_getElem? (i := 21) rfl)) (ck_25 _ (List.mem_of_getElem? (i := 22) rfl)) (ck_25 _ (List.mem_of_getElem? (i := 23) rfl)) (ck_1 _ (List.mem_of_getElem? (i := 5) rfl)) (ck_26 _ (List.mem_of_getElem? (i := 0) rfl))) rfl rfl rfl (by exact ⟨rfl, hdc_14.1, hdc_14.2, hdd_26⟩) ⟨Nat.le_of_ble_eq_true rfl, Nat.le_of_ble_eq_true rfl⟩) ⟨fun a U g mk q => by obtain ⟨q0, q1, qP, qK, qD⟩ := q; exact ⟨q0, q1, qP, va_K.moved (u := U) (U := U.calling g mk a) (Vm.Alike.refl U.vm) qK, qD⟩, va_recv hKc hPc (ci := 12) (q0 := 0) rfl rfl, fun U hU hW => ⟨rfl, by rw [hU], by rw [hU]; exact hPc, va_K.moved hW.alike hKc, hDc.weaken (fun _ _ _ _ => trivial)⟩⟩ rfl rfl hl.1 rfl (lv_room (Nat.le_of_ble_eq_true rfl)) dX12_number_10 ⟨Nat.le_of_ble_eq_true rfl, Nat.le_of_ble_eq_true rfl⟩) hS (fun q _ h => hFc q h) hFc (fun r_20 u_21 t H1 locs ht hvm hw hB hz1 hk1 hS => ?_)
    try dsimp only at hw
    obtain ⟨hP1, hK1, hD1⟩ := hB
    rw [ht] at hP1
    have hK1 := va_K.moved hvm.symm hK1
    have hK1 : va_K (dC, dI) vwCl [] s := hK1
    obtain ⟨hP, hD⟩ := va_join (wr := [(eA0 (rf 0) (ck 0) 900 f_tape), (eA0 (rf 3) (ck 3) 118 f_words)]) (w1 := [(mq, .inr (12, mF (upd (upd g 4 u_21.1) 5 u_21.2) gl rf))]) hP hD [0] [1, 2] hCc rfl (by decide) (by decide) hk1 hFc hP1 hD1
    generalize H1 = H at hP hS ⊢
    have hP : va_P (dC, dI) vwCl [(eA0 (rf 0) (ck 0) 900 f_tape), (eA0 (rf 3) (ck 3) 118 f_words), (mq, .inr (12, mF (upd (upd g 4 u_21.1) 5 u_21.2) gl rf))] H := hP
    have hD : va_D A [(eA0 (rf 0) (ck 0) 900 f_tape), (eA0 (rf 3) (ck 3) 118 f_words), (mq, .inr (12, mF (upd (upd g 4 u_21.1) 5 u_21.2) gl rf))] := hD
    refine W.widen (k := 0) (n := 0) (by omega) (by omega) ?_
    obtain ⟨hw, hb_r_20, hp_24⟩ := hw
    obtain ⟨X_25, hX_25⟩ : ∃ X9 : Int32 × (Int32) × (Int32), X9 = (fq_wrong (1 : Int32) (g 10)) := ⟨_, rfl⟩
    have hq_r_20 : r_20 = X_25.1 := by rw [hX_25]; exact hw.1
    have hq_u_21 : u_21 = X_25.2 := by rw [hX_25]; exact hw.2
    refine W.widen (k := 0) (n := 0) (by omega) (by omega) ?_
    obtain ⟨hP9, hD9⟩ := zsub2 (ws' := [(mq, .inr (12, mF (upd (upd g 4 u_21.1) 5 u_21.2) gl rf)), (eA0 (rf 0) (ck 0) 900 f_tape), (eA0 (rf 3) (ck 3) 118 f_words)]) hP hD [2, 0, 1] (by decide) rfl
    have hK9 := hK.sub (tys' := []) [] rfl
    exact W.zret (v := r_20) hx hb hr (xz_nar hb_r_20) (fun t ht hW => ⟨⟨r_20, ((g 7), (g 8), (g 9), (g 10), (g 11), u_21.1, u_21.2), rfl, ⟨((fun e9 => ⟨by rw [e9], by rw [e9]⟩ : fq_number f_tape f_words a0 a1 (g 4) (g 5) (g 6) (g 7) (g 8) (g 9) (g 10) (g 11) = (r_20, (g 7), (g 8), (g 9), (g 10), (g 11), u_21.1, u_21.2) → _) ((by rw [fq_number]; (try rw [if_neg c_1]); (try rw [← hX_25]); (try rw [xL_eq]); (try rw [← hq_r_20]); (try rw [← hq_u_21]); try rfl))), hb_r_20, (gq_number_s6 (y0 := g 7) (y1 := g 6) h0n hns hs9), (gq_number_s7 (y0 := g 7) (y1 := g 6) h0n hns hs9), (Or.inl hp_24), (Or.inl hp_24)⟩, by rw [ht]; exact hP9, va_K.moved hW.alike hK9, hD9⟩, hS.F ht⟩) hS.2.2 dX12_number_13

def fq_signed_a (f_tape : Nat → Int32) (f_words : Nat → Int32) (m_stop : Int32) (m_next : Int32) (m_kind : Int32) (m_which : Int32) (m_at : Int32) (r_1 : Int32) : (Int32) × (Int32) × (Int32) × (Int32) × (Int32) := (if r_1 = 0 then (r_1, m_next, m_kind, m_which, m_at) else (xL ((fq_token f_tape f_words m_stop m_next m_which)) (fun u_22 => (r_1, u_22.1, u_22.2.1, u_22.2.2.1, u_22.2.2.2))))
def fq_signed (f_tape : Nat → Int32) (f_words : Nat → Int32) (a0 : Int32) (m_fault : Int32) (m_faultPlace : Int32) (m_stop : Int32) (m_next : Int32) (m_kind : Int32) (m_which : Int32) (m_at : Int32) (m_got : Int32) : Int32 × (Int32) × (Int32) × (Int32) × (Int32) × (Int32) × (Int32) × (Int32) := (xL ((fq_isSign (45 : Int32) m_kind m_which)) (fun r_1 => (xL (fq_signed_a f_tape f_words m_stop m_next m_kind m_which m_at r_1) (fun X_2 => (xL ((fq_number f_tape f_words (0 : Int32) a0 m_fault m_faultPlace m_stop X_2.2.1 X_2.2.2.1 X_2.2.2.2.1 X_2.2.2.2.2 m_got)) (fun X_17 => (if X_17.1 = 0 then ((0 : Int32), X_17.2.2.2.2.2.2.1, X_17.2.2.2.2.2.2.2, X_17.2.1, X_17.2.2.1, X_17.2.2.2.1, X_17.2.2.2.2.1, X_17.2.2.2.2.2.1) else (if X_2.1 = 0 then ((1 : Int32), X_17.2.2.2.2.2.2.1, X_17.2.2.2.2.2.2.2, X_17.2.1, X_17.2.2.1, X_17.2.2.2.1, X_17.2.2.2.2.1, X_17.2.2.2.2.2.1) else ((1 : Int32), X_17.2.2.2.2.2.2.1, X_17.2.2.2.2.2.2.2, X_17.2.1, X_17.2.2.1, X_17.2.2.2.1, X_17.2.2.2.2.1, (-X_17.2.2.2.2.2.1))))))))))
theorem gq_signed_s0 {y0 : Int32} {y1 : Int32} {y2 : Int32} (h0 : ¬ (y0 < 0)) (h1 : y0 ≤ y1) (h2 : ¬ (y2 < 0)) (h3 : y2 ≤ y1) (h4 : y1 ≤ 900) : ¬ (y0 < 0) := gq_number_s0 h0 h1 h2 h3 h4
theorem gq_signed_s1 {y0 : Int32} {y1 : Int32} {y2 : Int32} (h0 : ¬ (y0 < 0)) (h1 : y0 ≤ y1) (h2 : ¬ (y2 < 0)) (h3 : y2 ≤ y1) (h4 : y1 ≤ 900) : y0 ≤ y1 := gq_number_s1 h0 h1 h2 h3 h4
theorem gq_signed_s2 {y0 : Int32} {y1 : Int32} {y2 : Int32} {y3 : Int32} (h0 : ¬ (y1 < 0)) (h1 : y1 ≤ y2) (h2 : ¬ (y0 < 0)) (h3 : y0 ≤ y2) (h4 : ¬ (y3 < 0)) (h5 : y3 ≤ y2) (h6 : y2 ≤ 900) : ¬ (y0 < 0) := h2
theorem gq_signed_s3 {y0 : Int32} {y1 : Int32} {y2 : Int32} {y3 : Int32} (h0 : ¬ (y2 < 0)) (h1 : y2 ≤ y1) (h2 : ¬ (y0 < 0)) (h3 : y0 ≤ y1) (h4 : ¬ (y3 < 0)) (h5 : y3 ≤ y1) (h6 : y1 ≤ 900) : y0 ≤ y1 := h3
theorem gq_signed_s4 {y0 : Int32} {y1 : Int32} (h0 : ¬ (y0 < 0)) (h1 : y0 ≤ y1) (h2 : ¬ (y1 < 0)) (h3 : y1 ≤ 100000) : ¬ (y0 < (-y1)) := by lia
theorem gq_signed_s5 {y0 : Int32} {y1 : Int32} (h0 : ¬ (y0 < 0)) (h1 : y0 ≤ y1) (h2 : ¬ (y1 < 0)) (h3 : y1 ≤ 100000) : y0 ≤ y1 := h1
theorem gq_signed_s6 {y0 : Int32} {y1 : Int32} {y2 : Int32} {y3 : Int32} (h0 : ¬ (y1 < 0)) (h1 : y1 ≤ y2) (h2 : ¬ (y0 < 0)) (h3 : y0 ≤ y2) (h4 : ¬ (y3 < 0)) (h5 : y3 ≤ y2) (h6 : y2 ≤ 900) : ¬ (y0 < 0) := gq_signed_s2 h0 h1 h2 h3 h4 h5 h6
theorem gq_signed_s7 {y0 : Int32} {y1 : Int32} {y2 : Int32} {y3 : Int32} (h0 : ¬ (y2 < 0)) (h1 : y2 ≤ y1) (h2 : ¬ (y0 < 0)) (h3 : y0 ≤ y1) (h4 : ¬ (y3 < 0)) (h5 : y3 ≤ y1) (h6 : y1 ≤ 900) : y0 ≤ y1 := gq_signed_s3 h0 h1 h2 h3 h4 h5 h6
theorem gq_signed_s8 {y0 : Int32} {y1 : Int32} (h0 : ¬ (y0 < 0)) (h1 : y0 ≤ y1) (h2 : ¬ (y1 < 0)) (h3 : y1 ≤ 100000) : ¬ ((-y0) < (-y1)) := by lia
theorem gq_signed_s9 {y0 : Int32} {y1 : Int32} (h0 : ¬ (y0 < 0)) (h1 : y0 ≤ y1) (h2 : ¬ (y1 < 0)) (h3 : y1 ≤ 100000) : (-y0) ≤ y1 := by lia
theorem gq_signed_s10 {y0 : Int32} {y1 : Int32} {y2 : Int32} {y3 : Int32} (h0 : ¬ (y1 < 0)) (h1 : y1 ≤ y2) (h2 : ¬ (y0 < 0)) (h3 : y0 ≤ y2) (h4 : ¬ (y3 < 0)) (h5 : y3 ≤ y2) (h6 : y2 ≤ 900) : ¬ (y0 < 0) := gq_signed_s2 h0 h1 h2 h3 h4 h5 h6
theorem gq_signed_s11 {y0 : Int32} {y1 : Int32} {y2 : Int32} {y3 : Int32} (h0 : ¬ (y2 < 0)) (h1 : y2 ≤ y1) (h2 : ¬ (y0 < 0)) (h3 : y0 ≤ y1) (h4 : ¬ (y3 < 0)) (h5 : y3 ≤ y1) (h6 : y1 ≤ 900) : y0 ≤ y1 := gq_signed_s3 h0 h1 h2 h3 h4 h5 h6
theorem gq_signed_s12 {y0 : Int32} {y1 : Int32} (h0 : ¬ (y0 < 0)) (h1 : y0 ≤ y1) (h2 : y1 ≤ 900) : ¬ (y0 < 0) := h0
theorem gq_signed_s13 {y0 : Int32} {y1 : Int32} (h0 : ¬ (y0 < 0)) (h1 : y0 ≤ y1) (h2 : y1 ≤ 900) : y0 ≤ y1 := h1
theorem gq_signed_s14 {y0 : Int32} {y1 : Int32} {y2 : Int32} (h0 : ¬ (y0 < 0)) (h1 : y0 ≤ y1) (h2 : ¬ (y2 < 0)) (h3 : y2 ≤ y1) (h4 : y1 ≤ 900) : ¬ (y0 < 0) := gq_number_s0 h0 h1 h2 h3 h4
theorem gq_signed_s15 {y0 : Int32} {y1 : Int32} {y2 : Int32} (h0 : ¬ (y0 < 0)) (h1 : y0 ≤ y1) (h2 : ¬ (y2 < 0)) (h3 : y2 ≤ y1) (h4 : y1 ≤ 900) : y0 ≤ y1 := gq_number_s1 h0 h1 h2 h3 h4
theorem dX12_signed_0 : decode cX12_signed 0 = .ok (.aload_n 0, 1) := zk_42 (by decide +kernel)
theorem dX12_signed_1 : decode cX12_signed 1 = .ok (.bipush 45, 2) := zk_16 (by decide +kernel)
theorem dX12_signed_3 : decode cX12_signed 3 = .ok (.invokevirtual 176, 3) := zk_182 (by decide +kernel)
theorem dX12_signed_6 : decode cX12_signed 6 = .ok (.istore_n 2, 1) := zk_61 (by decide +kernel)
theorem dX12_signed_7 : decode cX12_signed 7 = .ok (.iload_n 2, 1) := zk_28 (by decide +kernel)
theorem dX12_signed_15 : decode cX12_signed 15 = .ok (.aload_n 0, 1) := zk_42 (by decide +kernel)
theorem dX12_signed_16 : decode cX12_signed 16 = .ok (.iconst 0, 1) := zk_3 (by decide +kernel)
theorem dX12_signed_17 : decode cX12_signed 17 = .ok (.iload_n 1, 1) := zk_27 (by decide +kernel)
theorem dX12_signed_18 : decode cX12_signed 18 = .ok (.invokevirtual 179, 3) := zk_182 (by decide +kernel)
theorem dX12_signed_21 : decode cX12_signed 21 = .ok (.ifCond .ne 5, 3) := zk_154 (by decide +kernel)
theorem dX12_signed_26 : decode cX12_signed 26 = .ok (.aload_n 0, 1) := zk_42 (by decide +kernel)
theorem dX12_signed_27 : decode cX12_signed 27 = .ok (.iload_n 2, 1) := zk_28 (by decide +kernel)
theorem dX12_signed_28 : decode cX12_signed 28 = .ok (.ifCond .eq 11, 3) := zk_153 (by decide +kernel)
theorem dX12_signed_39 : decode cX12_signed 39 = .ok (.aload_n 0, 1) := zk_42 (by decide +kernel)
theorem dX12_signed_40 : decode cX12_signed 40 = .ok (.getfield 170, 3) := zk_180 (by decide +kernel)
theorem dX12_signed_43 : decode cX12_signed 43 = .ok (.putfield 170, 3) := zk_181 (by decide +kernel)
theorem dX12_signed_46 : decode cX12_signed 46 = .ok (.iconst 1, 1) := zk_4 (by decide +kernel)
theorem dX12_signed_47 : decode cX12_signed 47 = .ok (.ireturn, 1) := zk_172 (by decide +kernel)
theorem dX12_signed_31 : decode cX12_signed 31 = .ok (.aload_n 0, 1) := zk_42 (by decide +kernel)
theorem dX12_signed_32 : decode cX12_signed 32 = .ok (.getfield 170, 3) := zk_180 (by decide +kernel)
theorem dX12_signed_35 : decode cX12_signed 35 = .ok (.ineg, 1) := zk_116 (by decide +kernel)
theorem dX12_signed_36 : decode cX12_signed 36 = .ok (.goto 7, 3) := zk_167 (by decide +kernel)
theorem dX12_signed_24 : decode cX12_signed 24 = .ok (.iconst 0, 1) := zk_3 (by decide +kernel)
theorem dX12_signed_25 : decode cX12_signed 25 = .ok (.ireturn, 1) := zk_172 (by decide +kernel)
theorem dX12_signed_8 : decode cX12_signed 8 = .ok (.ifCond .eq 7, 3) := zk_153 (by decide +kernel)
theorem dX12_signed_11 : decode cX12_signed 11 = .ok (.aload_n 0, 1) := zk_42 (by decide +kernel)
theorem dX12_signed_12 : decode cX12_signed 12 = .ok (.invokevirtual 173, 3) := zk_182 (by decide +kernel)
set_option maxHeartbeats 4000000 in
set_option maxRecDepth 100000 in
theorem gq_signed (l : Launch) (dC : Nat → ClassId) (dI : Nat → Nat → Nat) (mq : Nat) (g : Nat → Int32) (gl : Nat → Int64) (rf : Nat → Nat) (ck : Nat → ClassId) (f_tape : Nat → Int32) (f_words : Nat → Int32) (a0 : Int32) (sz : Nat) (h0n : ¬ (g 7) < 0) (hns : (g 7) ≤ (g 6)) (hs9 : (g 6) ≤ 900) (hw7 : (f_words 117) = 32) (hm0 : ¬ a0 < 0) (hm9 : a0 ≤ 100000) : Met l yX12_signed (Cond.code yX12_signed cX12_signed 3 (some .boolean) :: wsL_law) ({ frames := 3, cells := 0, slots := 0, locals := 69 }) (va_Pc [.ref mq, .int a0] (fun U => U.heap.size = sz ∧ va_P (dC, dI) vwCl [(mq, .inr (12, mF g gl rf)), (eA0 (rf 0) (ck 0) 900 f_tape), (eA0 (rf 3) (ck 3) 118 f_words)] U.heap ∧ va_K (dC, dI) vwCl [((ck 0), .int), ((ck 3), .int)] U ∧ va_D (fun _ => True) [(mq, .inr (12, mF g gl rf)), (eA0 (rf 0) (ck 0) 900 f_tape), (eA0 (rf 3) (ck 3) 118 f_words)])) (va_Qi (fun (r : Int32) (u : (Int32) × (Int32) × (Int32) × (Int32) × (Int32) × (Int32) × (Int32)) => (r = (fq_signed f_tape f_words a0 (g 4) (g 5) (g 6) (g 7) (g 8) (g 9) (g 10) (g 11)).1 ∧ u = (fq_signed f_tape f_words a0 (g 4) (g 5) (g 6) (g 7) (g 8) (g 9) (g 10) (g 11)).2) ∧ (r = 0 ∨ r = 1) ∧ (¬ u.2.2.1 < 0) ∧ (u.2.2.1 ≤ (g 6)) ∧ (r = 0 ∨ ¬ u.2.2.2.2.2.2 < (-a0)) ∧ (r = 0 ∨ u.2.2.2.2.2.2 ≤ a0)) (fun (u : (Int32) × (Int32) × (Int32) × (Int32) × (Int32) × (Int32) × (Int32)) t => va_P (dC, dI) vwCl [(mq, .inr (12, mF (upd (upd (upd (upd (upd (upd (upd g 4 u.1) 5 u.2.1) 7 u.2.2.1) 8 u.2.2.2.1) 9 u.2.2.2.2.1) 10 u.2.2.2.2.2.1) 11 u.2.2.2.2.2.2) gl rf)), (eA0 (rf 0) (ck 0) 900 f_tape), (eA0 (rf 3) (ck 3) 118 f_words)] t.heap ∧ va_K (dC, dI) vwCl [] t ∧ va_D (va_A [(mq, .inr (12, mF g gl rf)), (eA0 (rf 0) (ck 0) 900 f_tape), (eA0 (rf 3) (ck 3) 118 f_words)] sz) [(mq, .inr (12, mF (upd (upd (upd (upd (upd (upd (upd g 4 u.1) 5 u.2.1) 7 u.2.2.1) 8 u.2.2.2.1) 9 u.2.2.2.2.1) 10 u.2.2.2.2.2.1) 11 u.2.2.2.2.2.2) gl rf)), (eA0 (rf 0) (ck 0) 900 f_tape), (eA0 (rf 3) (ck 3) 118 f_words)]) (va_A [(mq, .inr (12, mF g gl rf)), (eA0 (rf 0) (ck 0) 900 f_tape), (eA0 (rf 3) (ck 3) 118 f_words)] sz)) 0 0 (va_A [(mq, .inr (12, mF g gl rf)), (eA0 (rf 0) (ck 0) 900 f_tape), (eA0 (rf 3) (ck 3) 118 f_words)] sz) := by
  refine Met.ofW (cc := cX12_signed) (maxL := 3) (ret := (some .boolean)) (by decide) rfl ?_
  intro p e s m args below meth c s₁ B hml hv
  obtain ⟨rfl, hsz, hP, hK, hD0⟩ := hv
  have hx := B.exec
  have hb := B.bytes
  have hr := B.returns
  have hts := atoms_spec (ws := Cond.code yX12_signed cX12_signed 3 (some .boolean) :: wsL_law) B.pre
  have htw : ∀ w ∈ wsL_law, w.before _ s = true := fun w h => hts w (List.mem_cons_of_mem _ h)
  have hown : s.vm.findClass RX12 = some m.cls := findClass_of_methodNamed B.named
  have hlocks := B.notSynchronized
  subst hsz
  have hD := hD0.self (sz := s.heap.size)
  generalize hAe : va_A [(mq, .inr (12, mF g gl rf)), (eA0 (rf 0) (ck 0) 900 f_tape), (eA0 (rf 3) (ck 3) 118 f_words)] s.heap.size = A at hD ⊢
  have hA : ∀ q : Nat, s.heap.size ≤ q → A q := fun q h => by rw [← hAe]; exact Or.inr h
  obtain ⟨H, rH⟩ : ∃ z : Heap, z = s.heap := ⟨_, rfl⟩
  have hS : va_S A s.heap H [] := by rw [rH]; exact va_S.rf
  have hP : va_P (dC, dI) vwCl [(mq, .inr (12, mF g gl rf)), (eA0 (rf 0) (ck 0) 900 f_tape), (eA0 (rf 3) (ck 3) 118 f_words)] H := by rw [rH]; exact hP
  rw [← rH]
  have hl := lv_entry ([.ref mq, .int a0]) (n := 3) (Nat.le_of_ble_eq_true rfl)
  rw [lg_entry_eq]
  generalize (lg_sl ([.ref mq, .int a0]) ++ List.replicate (3 - (lg_sl ([.ref mq, .int a0])).length) Slot.unset).toArray = ls at hl ⊢
  have hl : lv_has ls 3 [(0, .ref mq), (1, .int a0)] := hl
  refine lv_aload_n hx hb dX12_signed_0 rfl (lv_at hl 0 rfl) ?_
  refine lv_bipush (v := 45) hx hb dX12_signed_1 (by decide) ?_
  have hPc := hP.sub (ws' := [(mq, .inr (12, mF g gl rf))]) [0] rfl
  have hKc := hK.sub (tys' := []) [] rfl
  refine vp_callSi (W.runV (As := [.int 45]) (rest := []) ⟨hx, hb, hml, hown, htw⟩ (gq_isSign l dC dI mq g gl rf (45 : Int32)) (cwV 1 htw (xg_V (ck_27 _ (List.mem_of_getElem? (i := 0) rfl)) (ck_27 _ (List.mem_of_getElem? (i := 1) rfl)) (ck_27 _ (List.mem_of_getElem? (i := 2) rfl)) (ck_1 _ (List.mem_of_getElem? (i := 5) rfl)) (ck_27 _ (List.mem_of_getElem? (i := 3) rfl))) rfl rfl rfl (by exact ⟨rfl, hdc_14.1, hdc_14.2, hdd_26⟩) ⟨Nat.le_of_ble_eq_true rfl, Nat.le_of_ble_eq_true rfl⟩) ⟨fun a U g mk q => by obtain ⟨q0, qP, qK⟩ := q; exact ⟨q0, qP, va_K.moved (u := U) (U := U.calling g mk a) (Vm.Alike.refl U.vm) qK⟩, va_recv hKc hPc (ci := 12) (q0 := 0) rfl rfl, fun U hU hW => ⟨rfl, by rw [hU]; exact hPc, va_K.moved hW.alike hKc⟩⟩ rfl rfl hl.1 rfl (lv_room (Nat.le_of_ble_eq_true rfl)) dX12_signed_3 ⟨Nat.le_of_ble_eq_true rfl, Nat.le_of_ble_eq_true rfl⟩) (fun r_1 hw => ?_)
  try dsimp only at hw
  obtain ⟨hw, hb_r_1⟩ := hw
  have hq_r_1 : r_1 = (fq_isSign (45 : Int32) (g 8) (g 9)) := hw
  refine lv_istore_n (lv' := [(2, .int r_1), (0, .ref mq), (1, .int a0)]) hx hb dX12_signed_6 rfl hl (by decide) rfl (fun ls hl => ?_)
  refine lv_iload_n hx hb dX12_signed_7 rfl (lv_at hl 0 rfl) ?_
  obtain ⟨X_2, hX_2⟩ : ∃ X9 : (Int32) × (Int32) × (Int32) × (Int32) × (Int32), X9 = fq_signed_a f_tape f_words (g 6) (g 7) (g 8) (g 9) (g 10) r_1 := ⟨_, rfl⟩
  have hjoin_3 : ∀ (L2a : Int32) (m_next_a : Int32) (m_kind_a : Int32) (m_which_a : Int32) (m_at_a : Int32) (hj0 : ¬ m_next_a < 0) (hj1 : m_next_a ≤ (g 6)) (hE9 : X_2 = (L2a, m_next_a, m_kind_a, m_which_a, m_at_a)) (H : Heap) (locs : List Loc) (ls : Array Slot) (hP : va_P (dC, dI) vwCl [(mq, .inr (12, mF (upd (upd (upd (upd g 7 m_next_a) 8 m_kind_a) 9 m_which_a) 10 m_at_a) gl rf)), (eA0 (rf 0) (ck 0) 900 f_tape), (eA0 (rf 3) (ck 3) 118 f_words)] H) (hD : va_D A [(mq, .inr (12, mF (upd (upd (upd (upd g 7 m_next_a) 8 m_kind_a) 9 m_which_a) 10 m_at_a) gl rf)), (eA0 (rf 0) (ck 0) 900 f_tape), (eA0 (rf 3) (ck 3) 118 f_words)]) (hS : va_S A s.heap H locs) (hl : lv_has ls 3 [(2, .int L2a), (0, .ref mq), (1, .int a0)]), W p l e (headSpec (Cond.code yX12_signed cX12_signed 3 (some .boolean) :: wsL_law) ({ frames := 3, cells := 0, slots := 0, locals := 69 })).room s m ([.ref mq, .int a0] : List Value).toArray below meth c H locs 0 0 (MQ below (va_Qi (fun (r : Int32) (u : (Int32) × (Int32) × (Int32) × (Int32) × (Int32) × (Int32) × (Int32)) => (r = (fq_signed f_tape f_words a0 (g 4) (g 5) (g 6) (g 7) (g 8) (g 9) (g 10) (g 11)).1 ∧ u = (fq_signed f_tape f_words a0 (g 4) (g 5) (g 6) (g 7) (g 8) (g 9) (g 10) (g 11)).2) ∧ (r = 0 ∨ r = 1) ∧ (¬ u.2.2.1 < 0) ∧ (u.2.2.1 ≤ (g 6)) ∧ (r = 0 ∨ ¬ u.2.2.2.2.2.2 < (-a0)) ∧ (r = 0 ∨ u.2.2.2.2.2.2 ≤ a0)) (fun (u : (Int32) × (Int32) × (Int32) × (Int32) × (Int32) × (Int32) × (Int32)) t => va_P (dC, dI) vwCl [(mq, .inr (12, mF (upd (upd (upd (upd (upd (upd (upd g 4 u.1) 5 u.2.1) 7 u.2.2.1) 8 u.2.2.2.1) 9 u.2.2.2.2.1) 10 u.2.2.2.2.2.1) 11 u.2.2.2.2.2.2) gl rf)), (eA0 (rf 0) (ck 0) 900 f_tape), (eA0 (rf 3) (ck 3) 118 f_words)] t.heap ∧ va_K (dC, dI) vwCl [] t ∧ va_D A [(mq, .inr (12, mF (upd (upd (upd (upd (upd (upd (upd g 4 u.1) 5 u.2.1) 7 u.2.2.1) 8 u.2.2.2.1) 9 u.2.2.2.2.1) 10 u.2.2.2.2.2.1) 11 u.2.2.2.2.2.2) gl rf)), (eA0 (rf 0) (ck 0) 900 f_tape), (eA0 (rf 3) (ck 3) 118 f_words)]) A) ([.ref mq, .int a0] : List Value).toArray s 0 0 A) (F0 m 15 ls []) := by
    intro L2a m_next_a m_kind_a m_which_a m_at_a hj0 hj1 hE9 H locs ls hP hD hS hl
    have hq_L2a : L2a = X_2.1 := by rw [hE9]
    have hq_m_next_a : m_next_a = X_2.2.1 := by rw [hE9]
    have hq_m_kind_a : m_kind_a = X_2.2.2.1 := by rw [hE9]
    have hq_m_which_a : m_which_a = X_2.2.2.2.1 := by rw [hE9]
    have hq_m_at_a : m_at_a = X_2.2.2.2.2 := by rw [hE9]
    refine lv_aload_n hx hb dX12_signed_15 rfl (lv_at hl 1 rfl) ?_
    refine lv_iconst (v := 0) hx hb dX12_signed_16 (by decide) ?_
    refine lv_iload_n hx hb dX12_signed_17 rfl (lv_at hl 2 rfl) ?_
    obtain ⟨hPc, hDc, hFc, hCc⟩ := zsub3 (ws' := [(mq, .inr (12, mF (upd (upd (upd (upd g 7 m_next_a) 8 m_kind_a) 9 m_which_a) 10 m_at_a) gl rf)), (eA0 (rf 0) (ck 0) 900 f_tape), (eA0 (rf 3) (ck 3) 118 f_words)]) hP hD hS hA [0, 1, 2] (by decide) rfl
    have hKc := hK.sub (tys' := [((ck 0), .int), ((ck 3), .int)]) [0, 1] rfl
    refine va_calli (va_runV (As := [.int 0, .int a0]) (rest := []) ⟨hx, hb, hml, hown, htw⟩ (gq_number l dC dI mq (upd (upd (upd (upd g 7 m_next_a) 8 m_kind_a) 9 m_which_a) 10 m_at_a) gl rf ck f_tape f_words (0 : Int32) a0 H.size (gq_signed_s0 (y0 := m_next_a) (y1 := g 6) (y2 := g 7) hj0 hj1 h0n hns hs9) (gq_signed_s1 (y0 := m_next_a) (y1 := g 6) (y2 := g 7) hj0 hj1 h0n hns hs9) hs9 hw7) (cwV 2 htw (xg_V (ck_26 _ (List.mem_of_getElem? (i := 13) rfl)) (ck_26 _ (List.mem_of_getElem? (i := 14) rfl)) (ck_26 _ (List.mem_of_getElem? (i := 15) rfl)) (ck_1 _ (List.mem_of_getElem? (i := 5) rfl)) (ck_26 _ (List.mem_of_getElem? (i := 16) rfl))) rfl rfl rfl (by exact ⟨rfl, hdc_14.1, hdc_14.2, hdd_8⟩) ⟨Nat.le_of_ble_eq_true rfl, Nat.le_of_ble_eq_true rfl⟩) ⟨fun a U g mk q => by obtain ⟨q0, q1, qP, qK, qD⟩ := q; exact ⟨q0, q1, qP, va_K.moved (u := U) (U := U.calling g mk a) (Vm.Alike.refl U.vm) qK, qD⟩, va_recv hKc hPc (ci := 12) (q0 := 0) rfl rfl, fun U hU hW => ⟨rfl, by rw [hU], by rw [hU]; exact hPc, va_K.moved hW.alike hKc, hDc.weaken (fun _ _ _ _ => trivial)⟩⟩ rfl rfl hl.1 rfl (lv_room (Nat.le_of_ble_eq_true rfl)) dX12_signed_18 ⟨Nat.le_of_ble_eq_true rfl, Nat.le_of_ble_eq_true rfl⟩) hS (fun q _ h => hFc q h) hFc (fun r_4 u_5 t H1 locs ht hvm hw hB hz1 hk1 hS => ?_)
    try dsimp only at hw
    obtain ⟨hP1, hK1, hD1⟩ := hB
    rw [ht] at hP1
    have hK1 := va_K.moved hvm.symm hK1
    have hK1 : va_K (dC, dI) vwCl [] s := hK1
    obtain ⟨hP, hD⟩ := va_join (wr := []) (w1 := [(mq, .inr (12, mF (upd (upd (upd (upd (upd (upd (upd g 4 u_5.2.2.2.2.2.1) 5 u_5.2.2.2.2.2.2) 7 u_5.1) 8 u_5.2.1) 9 u_5.2.2.1) 10 u_5.2.2.2.1) 11 u_5.2.2.2.2.1) gl rf)), (eA0 (rf 0) (ck 0) 900 f_tape), (eA0 (rf 3) (ck 3) 118 f_words)]) hP hD [0, 1, 2] [] hCc rfl (by decide) (by decide) hk1 hFc hP1 hD1
    generalize H1 = H at hP hS ⊢
    have hP : va_P (dC, dI) vwCl [(mq, .inr (12, mF (upd (upd (upd (upd (upd (upd (upd g 4 u_5.2.2.2.2.2.1) 5 u_5.2.2.2.2.2.2) 7 u_5.1) 8 u_5.2.1) 9 u_5.2.2.1) 10 u_5.2.2.2.1) 11 u_5.2.2.2.2.1) gl rf)), (eA0 (rf 0) (ck 0) 900 f_tape), (eA0 (rf 3) (ck 3) 118 f_words)] H := hP
    have hD : va_D A [(mq, .inr (12, mF (upd (upd (upd (upd (upd (upd (upd g 4 u_5.2.2.2.2.2.1) 5 u_5.2.2.2.2.2.2) 7 u_5.1) 8 u_5.2.1) 9 u_5.2.2.1) 10 u_5.2.2.2.1) 11 u_5.2.2.2.2.1) gl rf)), (eA0 (rf 0) (ck 0) 900 f_tape), (eA0 (rf 3) (ck 3) 118 f_words)] := hD
    refine W.widen (k := 0) (n := 0) (by omega) (by omega) ?_
    obtain ⟨hw, hb_r_4, hp_13, hp_14, hp_15, hp_16⟩ := hw
    obtain ⟨X_17, hX_17⟩ : ∃ X9 : Int32 × (Int32) × (Int32) × (Int32) × (Int32) × (Int32) × (Int32) × (Int32), X9 = (fq_number f_tape f_words (0 : Int32) a0 (g 4) (g 5) (g 6) m_next_a m_kind_a m_which_a m_at_a (g 11)) := ⟨_, rfl⟩
    have hq_r_4 : r_4 = X_17.1 := by rw [hX_17]; exact hw.1
    have hq_u_5 : u_5 = X_17.2 := by rw [hX_17]; exact hw.2
    refine lv_if_ne (tgt := 26) hx hb dX12_signed_21 (by decide) (fun c_18 => ?_) (fun c_18 => ?_)
    · refine lv_aload_n hx hb dX12_signed_26 rfl (lv_at hl 1 rfl) ?_
      refine lv_iload_n hx hb dX12_signed_27 rfl (lv_at hl 0 rfl) ?_
      refine lv_if_eq (tgt := 39) hx hb dX12_signed_28 (by decide) (fun c_19 => ?_) (fun c_19 => ?_)
      · refine lv_aload_n hx hb dX12_signed_39 rfl (lv_at hl 1 rfl) ?_
        refine va_get (D := (dC, dI)) (ci := 12) (v := .int u_5.2.2.2.2.1) (C := RX12) (T := TX12) (N := 76) hx hb htw inlX12 hown hK hP 0 rfl rfl 11 (by decide) (htw _ (ck_26 _ (List.mem_of_getElem? (i := 5) rfl))) (fun _ h9 => h9) rfl dX12_signed_40 ?_
        refine va_put (D := (dC, dI)) (ci := 12) (v := .int u_5.2.2.2.2.1) (ty := tyX12 11) (C := RX12) (T := TX12) (N := 76) hx hb htw inlX12 tyX12 tyX12_ok nmX12 hown hK hP hD hS 0 rfl rfl 11 (by decide) (htw _ (ck_26 _ (List.mem_of_getElem? (i := 5) rfl))) (fun _ h9 => h9) rfl (tyX12_ok 11 (by decide)) rfl rfl (Nat.le_of_ble_eq_true rfl) dX12_signed_43 (fun H locs hP hD hS => ?_)
        have hP : va_P (dC, dI) vwCl [(mq, .inr (12, mF (upd (upd (upd (upd (upd (upd (upd g 4 u_5.2.2.2.2.2.1) 5 u_5.2.2.2.2.2.2) 7 u_5.1) 8 u_5.2.1) 9 u_5.2.2.1) 10 u_5.2.2.2.1) 11 u_5.2.2.2.2.1) gl rf)), (eA0 (rf 0) (ck 0) 900 f_tape), (eA0 (rf 3) (ck 3) 118 f_words)] H := hP
        have hD : va_D A [(mq, .inr (12, mF (upd (upd (upd (upd (upd (upd (upd g 4 u_5.2.2.2.2.2.1) 5 u_5.2.2.2.2.2.2) 7 u_5.1) 8 u_5.2.1) 9 u_5.2.2.1) 10 u_5.2.2.2.1) 11 u_5.2.2.2.2.1) gl rf)), (eA0 (rf 0) (ck 0) 900 f_tape), (eA0 (rf 3) (ck 3) 118 f_words)] := hD
        refine lv_iconst (v := 1) hx hb dX12_signed_46 (by decide) ?_
        refine W.widen (k := 0) (n := 0) (by omega) (by omega) ?_
        have hP9 := hP
        have hD9 := hD
        have hK9 := hK.sub (tys' := []) [] rfl
        exact W.zret (v := 1) hx hb hr (by first | rfl | decide) (fun t ht hW => ⟨⟨1, (u_5.2.2.2.2.2.1, u_5.2.2.2.2.2.2, u_5.1, u_5.2.1, u_5.2.2.1, u_5.2.2.2.1, u_5.2.2.2.2.1), rfl, ⟨((fun e9 => ⟨by rw [e9], by rw [e9]⟩ : fq_signed f_tape f_words a0 (g 4) (g 5) (g 6) (g 7) (g 8) (g 9) (g 10) (g 11) = ((1 : Int32), u_5.2.2.2.2.2.1, u_5.2.2.2.2.2.2, u_5.1, u_5.2.1, u_5.2.2.1, u_5.2.2.2.1, u_5.2.2.2.2.1) → _) ((by rw [fq_signed]; (try rw [← hq_r_1]); (try rw [xL_eq]); (try rw [← hX_2]); (try rw [xL_eq]); (try rw [← hq_L2a]); (try rw [← hq_m_next_a]); (try rw [← hq_m_kind_a]); (try rw [← hq_m_which_a]); (try rw [← hq_m_at_a]); (try rw [← hX_17]); (try rw [xL_eq]); (try rw [← hq_r_4]); (try rw [← hq_u_5]); (try rw [if_neg c_18]); (try rw [if_pos c_19]); try rfl))), Or.inr rfl, (gq_signed_s2 (y0 := u_5.1) (y1 := m_next_a) (y2 := g 6) (y3 := g 7) hj0 hj1 hp_13 hp_14 h0n hns hs9), (gq_signed_s3 (y0 := u_5.1) (y1 := g 6) (y2 := m_next_a) (y3 := g 7) hj0 hj1 hp_13 hp_14 h0n hns hs9), (Or.inr (gq_signed_s4 (y0 := u_5.2.2.2.2.1) (y1 := a0) (hp_15.resolve_left c_18) (hp_16.resolve_left c_18) hm0 hm9)), (Or.inr (gq_signed_s5 (y0 := u_5.2.2.2.2.1) (y1 := a0) (hp_15.resolve_left c_18) (hp_16.resolve_left c_18) hm0 hm9))⟩, by rw [ht]; exact hP9, va_K.moved hW.alike hK9, hD9⟩, hS.F ht⟩) hS.2.2 dX12_signed_47
      · refine lv_aload_n hx hb dX12_signed_31 rfl (lv_at hl 1 rfl) ?_
        refine va_get (D := (dC, dI)) (ci := 12) (v := .int u_5.2.2.2.2.1) (C := RX12) (T := TX12) (N := 76) hx hb htw inlX12 hown hK hP 0 rfl rfl 11 (by decide) (htw _ (ck_26 _ (List.mem_of_getElem? (i := 5) rfl))) (fun _ h9 => h9) rfl dX12_signed_32 ?_
        refine lv_ineg hx hb dX12_signed_35 ?_
        refine lv_goto (tgt := 43) hx hb dX12_signed_36 (by decide) ?_
        refine va_put (D := (dC, dI)) (ci := 12) (v := .int (-u_5.2.2.2.2.1)) (ty := tyX12 11) (C := RX12) (T := TX12) (N := 76) hx hb htw inlX12 tyX12 tyX12_ok nmX12 hown hK hP hD hS 0 rfl rfl 11 (by decide) (htw _ (ck_26 _ (List.mem_of_getElem? (i := 5) rfl))) (fun _ h9 => h9) rfl (tyX12_ok 11 (by decide)) rfl rfl (Nat.le_of_ble_eq_true rfl) dX12_signed_43 (fun H locs hP hD hS => ?_)
        have hP : va_P (dC, dI) vwCl [(mq, .inr (12, mF (upd (upd (upd (upd (upd (upd (upd g 4 u_5.2.2.2.2.2.1) 5 u_5.2.2.2.2.2.2) 7 u_5.1) 8 u_5.2.1) 9 u_5.2.2.1) 10 u_5.2.2.2.1) 11 (-u_5.2.2.2.2.1)) gl rf)), (eA0 (rf 0) (ck 0) 900 f_tape), (eA0 (rf 3) (ck 3) 118 f_words)] H := hP
        have hD : va_D A [(mq, .inr (12, mF (upd (upd (upd (upd (upd (upd (upd g 4 u_5.2.2.2.2.2.1) 5 u_5.2.2.2.2.2.2) 7 u_5.1) 8 u_5.2.1) 9 u_5.2.2.1) 10 u_5.2.2.2.1) 11 (-u_5.2.2.2.2.1)) gl rf)), (eA0 (rf 0) (ck 0) 900 f_tape), (eA0 (rf 3) (ck 3) 118 f_words)] := hD
        refine lv_iconst (v := 1) hx hb dX12_signed_46 (by decide) ?_
        refine W.widen (k := 0) (n := 0) (by omega) (by omega) ?_
        have hP9 := hP
        have hD9 := hD
        have hK9 := hK.sub (tys' := []) [] rfl
        exact W.zret (v := 1) hx hb hr (by first | rfl | decide) (fun t ht hW => ⟨⟨1, (u_5.2.2.2.2.2.1, u_5.2.2.2.2.2.2, u_5.1, u_5.2.1, u_5.2.2.1, u_5.2.2.2.1, (-u_5.2.2.2.2.1)), rfl, ⟨((fun e9 => ⟨by rw [e9], by rw [e9]⟩ : fq_signed f_tape f_words a0 (g 4) (g 5) (g 6) (g 7) (g 8) (g 9) (g 10) (g 11) = ((1 : Int32), u_5.2.2.2.2.2.1, u_5.2.2.2.2.2.2, u_5.1, u_5.2.1, u_5.2.2.1, u_5.2.2.2.1, (-u_5.2.2.2.2.1)) → _) ((by rw [fq_signed]; (try rw [← hq_r_1]); (try rw [xL_eq]); (try rw [← hX_2]); (try rw [xL_eq]); (try rw [← hq_L2a]); (try rw [← hq_m_next_a]); (try rw [← hq_m_kind_a]); (try rw [← hq_m_which_a]); (try rw [← hq_m_at_a]); (try rw [← hX_17]); (try rw [xL_eq]); (try rw [← hq_r_4]); (try rw [← hq_u_5]); (try rw [if_neg c_18]); (try rw [if_neg c_19]); try rfl))), Or.inr rfl, (gq_signed_s6 (y0 := u_5.1) (y1 := m_next_a) (y2 := g 6) (y3 := g 7) hj0 hj1 hp_13 hp_14 h0n hns hs9), (gq_signed_s7 (y0 := u_5.1) (y1 := g 6) (y2 := m_next_a) (y3 := g 7) hj0 hj1 hp_13 hp_14 h0n hns hs9), (Or.inr (gq_signed_s8 (y0 := u_5.2.2.2.2.1) (y1 := a0) (hp_15.resolve_left c_18) (hp_16.resolve_left c_18) hm0 hm9)), (Or.inr (gq_signed_s9 (y0 := u_5.2.2.2.2.1) (y1 := a0) (hp_15.resolve_left c_18) (hp_16.resolve_left c_18) hm0 hm9))⟩, by rw [ht]; exact hP9, va_K.moved hW.alike hK9, hD9⟩, hS.F ht⟩) hS.2.2 dX12_signed_47
    · refine lv_iconst (v := 0) hx hb dX12_signed_24 (by decide) ?_
      refine W.widen (k := 0) (n := 0) (by omega) (by omega) ?_
      have hP9 := hP
      have hD9 := hD
      have hK9 := hK.sub (tys' := []) [] rfl
      exact W.zret (v := 0) hx hb hr (by first | rfl | decide) (fun t ht hW => ⟨⟨0, (u_5.2.2.2.2.2.1, u_5.2.2.2.2.2.2, u_5.1, u_5.2.1, u_5.2.2.1, u_5.2.2.2.1, u_5.2.2.2.2.1), rfl, ⟨((fun e9 => ⟨by rw [e9], by rw [e9]⟩ : fq_signed f_tape f_words a0 (g 4) (g 5) (g 6) (g 7) (g 8) (g 9) (g 10) (g 11) = ((0 : Int32), u_5.2.2.2.2.2.1, u_5.2.2.2.2.2.2, u_5.1, u_5.2.1, u_5.2.2.1, u_5.2.2.2.1, u_5.2.2.2.2.1) → _) ((by rw [fq_signed]; (try rw [← hq_r_1]); (try rw [xL_eq]); (try rw [← hX_2]); (try rw [xL_eq]); (try rw [← hq_L2a]); (try rw [← hq_m_next_a]); (try rw [← hq_m_kind_a]); (try rw [← hq_m_which_a]); (try rw [← hq_m_at_a]); (try rw [← hX_17]); (try rw [xL_eq]); (try rw [← hq_r_4]); (try rw [← hq_u_5]); (try rw [if_pos c_18]); try rfl))), Or.inl rfl, (gq_signed_s10 (y0 := u_5.1) (y1 := m_next_a) (y2 := g 6) (y3 := g 7) hj0 hj1 hp_13 hp_14 h0n hns hs9), (gq_signed_s11 (y0 := u_5.1) (y1 := g 6) (y2 := m_next_a) (y3 := g 7) hj0 hj1 hp_13 hp_14 h0n hns hs9), Or.inl rfl, Or.inl rfl⟩, by rw [ht]; exact hP9, va_K.moved hW.alike hK9, hD9⟩, hS.F ht⟩) hS.2.2 dX12_signed_25
  refine lv_if_eq (tgt := 15) hx hb dX12_signed_8 (by decide) (fun c_20 => ?_) (fun c_20 => ?_)
  · exact hjoin_3 r_1 (g 7) (g 8) (g 9) (g 10) (gq_signed_s12 (y0 := g 7) (y1 := g 6) h0n hns hs9) (gq_signed_s13 (y0 := g 7) (y1 := g 6) h0n hns hs9) (hX_2.trans (by rw [fq_signed_a]; (try rw [if_pos c_20]); try rfl)) _ _ ls hP hD hS (lv_sub hl [0, 1, 2] rfl)
  · refine lv_aload_n hx hb dX12_signed_11 rfl (lv_at hl 1 rfl) ?_
    obtain ⟨hPc, hDc, hFc, hCc⟩ := zsub3 (ws' := [(mq, .inr (12, mF g gl rf)), (eA0 (rf 0) (ck 0) 900 f_tape), (eA0 (rf 3) (ck 3) 118 f_words)]) hP hD hS hA [0, 1, 2] (by decide) rfl
    have hKc := hK.sub (tys' := [((ck 0), .int), ((ck 3), .int)]) [0, 1] rfl
    refine va_callv (va_runV (As := []) (rest := []) ⟨hx, hb, hml, hown, htw⟩ (gq_token l dC dI mq g gl rf ck f_tape f_words H.size h0n hns hs9 hw7) (cwV 0 htw (xg_V (ck_24 _ (List.mem_of_getElem? (i := 14) rfl)) (ck_24 _ (List.mem_of_getElem? (i := 15) rfl)) (ck_24 _ (List.mem_of_getElem? (i := 16) rfl)) (ck_1 _ (List.mem_of_getElem? (i := 5) rfl)) (ck_24 _ (List.mem_of_getElem? (i := 17) rfl))) rfl rfl rfl (by exact ⟨rfl, hdc_14.1, hdc_14.2, hdd_13⟩) ⟨Nat.le_of_ble_eq_true rfl, Nat.le_of_ble_eq_true rfl⟩) ⟨fun a U g mk q => by obtain ⟨q0, q1, qP, qK, qD⟩ := q; exact ⟨q0, q1, qP, va_K.moved (u := U) (U := U.calling g mk a) (Vm.Alike.refl U.vm) qK, qD⟩, va_recv hKc hPc (ci := 12) (q0 := 0) rfl rfl, fun U hU hW => ⟨rfl, by rw [hU], by rw [hU]; exact hPc, va_K.moved hW.alike hKc, hDc.weaken (fun _ _ _ _ => trivial)⟩⟩ rfl rfl hl.1 rfl (lv_room (Nat.le_of_ble_eq_true rfl)) dX12_signed_12 ⟨Nat.le_of_ble_eq_true rfl, Nat.le_of_ble_eq_true rfl⟩) hS (fun q _ h => hFc q h) hFc (fun u_22 t H1 locs ht hvm hw hB hz1 hk1 hS => ?_)
    try dsimp only at hw
    obtain ⟨hP1, hK1, hD1⟩ := hB
    rw [ht] at hP1
    have hK1 := va_K.moved hvm.symm hK1
    have hK1 : va_K (dC, dI) vwCl [] s := hK1
    obtain ⟨hP, hD⟩ := va_join (wr := []) (w1 := [(mq, .inr (12, mF (upd (upd (upd (upd g 7 u_22.1) 8 u_22.2.1) 9 u_22.2.2.1) 10 u_22.2.2.2) gl rf)), (eA0 (rf 0) (ck 0) 900 f_tape), (eA0 (rf 3) (ck 3) 118 f_words)]) hP hD [0, 1, 2] [] hCc rfl (by decide) (by decide) hk1 hFc hP1 hD1
    generalize H1 = H at hP hS ⊢
    have hP : va_P (dC, dI) vwCl [(mq, .inr (12, mF (upd (upd (upd (upd g 7 u_22.1) 8 u_22.2.1) 9 u_22.2.2.1) 10 u_22.2.2.2) gl rf)), (eA0 (rf 0) (ck 0) 900 f_tape), (eA0 (rf 3) (ck 3) 118 f_words)] H := hP
    have hD : va_D A [(mq, .inr (12, mF (upd (upd (upd (upd g 7 u_22.1) 8 u_22.2.1) 9 u_22.2.2.1) 10 u_22.2.2.2) gl rf)), (eA0 (rf 0) (ck 0) 900 f_tape), (eA0 (rf 3) (ck 3) 118 f_words)] := hD
    refine W.widen (k := 0) (n := 0) (by omega) (by omega) ?_
    obtain ⟨hw, hp_27, hp_28⟩ := hw
    have hq_u_22 : u_22 = (fq_token f_tape f_words (g 6) (g 7) (g 9)) := hw
    exact hjoin_3 r_1 u_22.1 u_22.2.1 u_22.2.2.1 u_22.2.2.2 (gq_signed_s14 (y0 := u_22.1) (y1 := g 6) (y2 := g 7) hp_27 hp_28 h0n hns hs9) (gq_signed_s15 (y0 := u_22.1) (y1 := g 6) (y2 := g 7) hp_27 hp_28 h0n hns hs9) (hX_2.trans (by rw [fq_signed_a]; (try rw [if_neg c_20]); (try rw [← hq_u_22]); (try rw [xL_eq]); try rfl)) _ _ ls hP hD hS (lv_sub hl [0, 1, 2] rfl)

def fq_keyRead (f_tape : Nat → Int32) (f_words : Nat → Int32) (a0 : Int32) (m_fault : Int32) (m_faultPlace : Int32) (m_stop : Int32) (m_next : Int32) (m_kind : Int32) (m_which : Int32) (m_at : Int32) : Int32 × (Int32) × (Int32) × (Int32) × (Int32) × (Int32) × (Int32) := (xL ((fq_isKey a0 m_kind m_which)) (fun r_1 => (if r_1 = 0 then (xL ((fq_wrong (1 : Int32) m_at)) (fun X_16 => (X_16.1, m_next, m_kind, m_which, m_at, X_16.2.1, X_16.2.2))) else (xL ((fq_token f_tape f_words m_stop m_next m_which)) (fun u_4 => ((1 : Int32), u_4.1, u_4.2.1, u_4.2.2.1, u_4.2.2.2, m_fault, m_faultPlace))))))
theorem gq_keyRead_s0 {y0 : Int32} {y1 : Int32} {y2 : Int32} (h0 : ¬ (y0 < 0)) (h1 : y0 ≤ y1) (h2 : ¬ (y2 < 0)) (h3 : y2 ≤ y1) (h4 : y1 ≤ 900) : ¬ (y0 < 0) := gq_number_s0 h0 h1 h2 h3 h4
theorem gq_keyRead_s1 {y0 : Int32} {y1 : Int32} {y2 : Int32} (h0 : ¬ (y0 < 0)) (h1 : y0 ≤ y1) (h2 : ¬ (y2 < 0)) (h3 : y2 ≤ y1) (h4 : y1 ≤ 900) : y0 ≤ y1 := gq_number_s1 h0 h1 h2 h3 h4
theorem gq_keyRead_s2 {y0 : Int32} {y1 : Int32} (h0 : ¬ (y0 < 0)) (h1 : y0 ≤ y1) (h2 : y1 ≤ 900) : ¬ (y0 < 0) := h0
theorem gq_keyRead_s3 {y0 : Int32} {y1 : Int32} (h0 : ¬ (y0 < 0)) (h1 : y0 ≤ y1) (h2 : y1 ≤ 900) : y0 ≤ y1 := h1
theorem dX12_keyRead_0 : decode cX12_keyRead 0 = .ok (.aload_n 0, 1) := zk_42 (by decide +kernel)
theorem dX12_keyRead_1 : decode cX12_keyRead 1 = .ok (.iload_n 1, 1) := zk_27 (by decide +kernel)
theorem dX12_keyRead_2 : decode cX12_keyRead 2 = .ok (.invokevirtual 183, 3) := zk_182 (by decide +kernel)
theorem dX12_keyRead_5 : decode cX12_keyRead 5 = .ok (.ifCond .ne 9, 3) := zk_154 (by decide +kernel)
theorem dX12_keyRead_14 : decode cX12_keyRead 14 = .ok (.aload_n 0, 1) := zk_42 (by decide +kernel)
theorem dX12_keyRead_15 : decode cX12_keyRead 15 = .ok (.invokevirtual 173, 3) := zk_182 (by decide +kernel)
theorem dX12_keyRead_18 : decode cX12_keyRead 18 = .ok (.iconst 1, 1) := zk_4 (by decide +kernel)
theorem dX12_keyRead_19 : decode cX12_keyRead 19 = .ok (.ireturn, 1) := zk_172 (by decide +kernel)
theorem dX12_keyRead_8 : decode cX12_keyRead 8 = .ok (.aload_n 0, 1) := zk_42 (by decide +kernel)
theorem dX12_keyRead_9 : decode cX12_keyRead 9 = .ok (.iconst 1, 1) := zk_4 (by decide +kernel)
theorem dX12_keyRead_10 : decode cX12_keyRead 10 = .ok (.invokevirtual 163, 3) := zk_182 (by decide +kernel)
theorem dX12_keyRead_13 : decode cX12_keyRead 13 = .ok (.ireturn, 1) := zk_172 (by decide +kernel)
set_option maxHeartbeats 4000000 in
set_option maxRecDepth 100000 in
theorem gq_keyRead (l : Launch) (dC : Nat → ClassId) (dI : Nat → Nat → Nat) (mq : Nat) (g : Nat → Int32) (gl : Nat → Int64) (rf : Nat → Nat) (ck : Nat → ClassId) (f_tape : Nat → Int32) (f_words : Nat → Int32) (a0 : Int32) (sz : Nat) (h0n : ¬ (g 7) < 0) (hns : (g 7) ≤ (g 6)) (hs9 : (g 6) ≤ 900) (hw7 : (f_words 117) = 32) : Met l yX12_keyRead (Cond.code yX12_keyRead cX12_keyRead 2 (some .boolean) :: wsL_law) ({ frames := 2, cells := 0, slots := 0, locals := 47 }) (va_Pc [.ref mq, .int a0] (fun U => U.heap.size = sz ∧ va_P (dC, dI) vwCl [(mq, .inr (12, mF g gl rf)), (eA0 (rf 0) (ck 0) 900 f_tape), (eA0 (rf 3) (ck 3) 118 f_words)] U.heap ∧ va_K (dC, dI) vwCl [((ck 0), .int), ((ck 3), .int)] U ∧ va_D (fun _ => True) [(mq, .inr (12, mF g gl rf)), (eA0 (rf 0) (ck 0) 900 f_tape), (eA0 (rf 3) (ck 3) 118 f_words)])) (va_Qi (fun (r : Int32) (u : (Int32) × (Int32) × (Int32) × (Int32) × (Int32) × (Int32)) => (r = (fq_keyRead f_tape f_words a0 (g 4) (g 5) (g 6) (g 7) (g 8) (g 9) (g 10)).1 ∧ u = (fq_keyRead f_tape f_words a0 (g 4) (g 5) (g 6) (g 7) (g 8) (g 9) (g 10)).2) ∧ (r = 0 ∨ r = 1) ∧ (¬ u.1 < 0) ∧ (u.1 ≤ (g 6))) (fun (u : (Int32) × (Int32) × (Int32) × (Int32) × (Int32) × (Int32)) t => va_P (dC, dI) vwCl [(mq, .inr (12, mF (upd (upd (upd (upd (upd (upd g 4 u.2.2.2.2.1) 5 u.2.2.2.2.2) 7 u.1) 8 u.2.1) 9 u.2.2.1) 10 u.2.2.2.1) gl rf)), (eA0 (rf 0) (ck 0) 900 f_tape), (eA0 (rf 3) (ck 3) 118 f_words)] t.heap ∧ va_K (dC, dI) vwCl [] t ∧ va_D (va_A [(mq, .inr (12, mF g gl rf)), (eA0 (rf 0) (ck 0) 900 f_tape), (eA0 (rf 3) (ck 3) 118 f_words)] sz) [(mq, .inr (12, mF (upd (upd (upd (upd (upd (upd g 4 u.2.2.2.2.1) 5 u.2.2.2.2.2) 7 u.1) 8 u.2.1) 9 u.2.2.1) 10 u.2.2.2.1) gl rf)), (eA0 (rf 0) (ck 0) 900 f_tape), (eA0 (rf 3) (ck 3) 118 f_words)]) (va_A [(mq, .inr (12, mF g gl rf)), (eA0 (rf 0) (ck 0) 900 f_tape), (eA0 (rf 3) (ck 3) 118 f_words)] sz)) 0 0 (va_A [(mq, .inr (12, mF g gl rf)), (eA0 (rf 0) (ck 0) 900 f_tape), (eA0 (rf 3) (ck 3) 118 f_words)] sz) := by
  refine Met.ofW (cc := cX12_keyRead) (maxL := 2) (ret := (some .boolean)) (by decide) rfl ?_
  intro p e s m args below meth c s₁ B hml hv
  obtain ⟨rfl, hsz, hP, hK, hD0⟩ := hv
  have hx := B.exec
  have hb := B.bytes
  have hr := B.returns
  have hts := atoms_spec (ws := Cond.code yX12_keyRead cX12_keyRead 2 (some .boolean) :: wsL_law) B.pre
  have htw : ∀ w ∈ wsL_law, w.before _ s = true := fun w h => hts w (List.mem_cons_of_mem _ h)
  have hown : s.vm.findClass RX12 = some m.cls := findClass_of_methodNamed B.named
  have hlocks := B.notSynchronized
  subst hsz
  have hD := hD0.self (sz := s.heap.size)
  generalize hAe : va_A [(mq, .inr (12, mF g gl rf)), (eA0 (rf 0) (ck 0) 900 f_tape), (eA0 (rf 3) (ck 3) 118 f_words)] s.heap.size = A at hD ⊢
  have hA : ∀ q : Nat, s.heap.size ≤ q → A q := fun q h => by rw [← hAe]; exact Or.inr h
  obtain ⟨H, rH⟩ : ∃ z : Heap, z = s.heap := ⟨_, rfl⟩
  have hS : va_S A s.heap H [] := by rw [rH]; exact va_S.rf
  have hP : va_P (dC, dI) vwCl [(mq, .inr (12, mF g gl rf)), (eA0 (rf 0) (ck 0) 900 f_tape), (eA0 (rf 3) (ck 3) 118 f_words)] H := by rw [rH]; exact hP
  rw [← rH]
  have hl := lv_entry ([.ref mq, .int a0]) (n := 2) (Nat.le_of_ble_eq_true rfl)
  rw [lg_entry_eq]
  generalize (lg_sl ([.ref mq, .int a0]) ++ List.replicate (2 - (lg_sl ([.ref mq, .int a0])).length) Slot.unset).toArray = ls at hl ⊢
  have hl : lv_has ls 2 [(0, .ref mq), (1, .int a0)] := hl
  refine lv_aload_n hx hb dX12_keyRead_0 rfl (lv_at hl 0 rfl) ?_
  refine lv_iload_n hx hb dX12_keyRead_1 rfl (lv_at hl 1 rfl) ?_
  have hPc := hP.sub (ws' := [(mq, .inr (12, mF g gl rf))]) [0] rfl
  have hKc := hK.sub (tys' := []) [] rfl
  refine vp_callSi (W.runV (As := [.int a0]) (rest := []) ⟨hx, hb, hml, hown, htw⟩ (gq_isKey l dC dI mq g gl rf a0) (cwV 1 htw (xg_V (ck_27 _ (List.mem_of_getElem? (i := 4) rfl)) (ck_27 _ (List.mem_of_getElem? (i := 5) rfl)) (ck_27 _ (List.mem_of_getElem? (i := 6) rfl)) (ck_1 _ (List.mem_of_getElem? (i := 5) rfl)) (ck_27 _ (List.mem_of_getElem? (i := 7) rfl))) rfl rfl rfl (by exact ⟨rfl, hdc_14.1, hdc_14.2, hdd_26⟩) ⟨Nat.le_of_ble_eq_true rfl, Nat.le_of_ble_eq_true rfl⟩) ⟨fun a U g mk q => by obtain ⟨q0, qP, qK⟩ := q; exact ⟨q0, qP, va_K.moved (u := U) (U := U.calling g mk a) (Vm.Alike.refl U.vm) qK⟩, va_recv hKc hPc (ci := 12) (q0 := 0) rfl rfl, fun U hU hW => ⟨rfl, by rw [hU]; exact hPc, va_K.moved hW.alike hKc⟩⟩ rfl rfl hl.1 rfl (lv_room (Nat.le_of_ble_eq_true rfl)) dX12_keyRead_2 ⟨Nat.le_of_ble_eq_true rfl, Nat.le_of_ble_eq_true rfl⟩) (fun r_1 hw => ?_)
  try dsimp only at hw
  obtain ⟨hw, hb_r_1⟩ := hw
  have hq_r_1 : r_1 = (fq_isKey a0 (g 8) (g 9)) := hw
  refine lv_if_ne (tgt := 14) hx hb dX12_keyRead_5 (by decide) (fun c_2 => ?_) (fun c_2 => ?_)
  · refine lv_aload_n hx hb dX12_keyRead_14 rfl (lv_at hl 0 rfl) ?_
    obtain ⟨hPc, hDc, hFc, hCc⟩ := zsub3 (ws' := [(mq, .inr (12, mF g gl rf)), (eA0 (rf 0) (ck 0) 900 f_tape), (eA0 (rf 3) (ck 3) 118 f_words)]) hP hD hS hA [0, 1, 2] (by decide) rfl
    have hKc := hK.sub (tys' := [((ck 0), .int), ((ck 3), .int)]) [0, 1] rfl
    refine va_callv (va_runV (As := []) (rest := []) ⟨hx, hb, hml, hown, htw⟩ (gq_token l dC dI mq g gl rf ck f_tape f_words H.size h0n hns hs9 hw7) (cwV 0 htw (xg_V (ck_24 _ (List.mem_of_getElem? (i := 14) rfl)) (ck_24 _ (List.mem_of_getElem? (i := 15) rfl)) (ck_24 _ (List.mem_of_getElem? (i := 16) rfl)) (ck_1 _ (List.mem_of_getElem? (i := 5) rfl)) (ck_24 _ (List.mem_of_getElem? (i := 17) rfl))) rfl rfl rfl (by exact ⟨rfl, hdc_14.1, hdc_14.2, hdd_13⟩) ⟨Nat.le_of_ble_eq_true rfl, Nat.le_of_ble_eq_true rfl⟩) ⟨fun a U g mk q => by obtain ⟨q0, q1, qP, qK, qD⟩ := q; exact ⟨q0, q1, qP, va_K.moved (u := U) (U := U.calling g mk a) (Vm.Alike.refl U.vm) qK, qD⟩, va_recv hKc hPc (ci := 12) (q0 := 0) rfl rfl, fun U hU hW => ⟨rfl, by rw [hU], by rw [hU]; exact hPc, va_K.moved hW.alike hKc, hDc.weaken (fun _ _ _ _ => trivial)⟩⟩ rfl rfl hl.1 rfl (lv_room (Nat.le_of_ble_eq_true rfl)) dX12_keyRead_15 ⟨Nat.le_of_ble_eq_true rfl, Nat.le_of_ble_eq_true rfl⟩) hS (fun q _ h => hFc q h) hFc (fun u_4 t H1 locs ht hvm hw hB hz1 hk1 hS => ?_)
    try dsimp only at hw
    obtain ⟨hP1, hK1, hD1⟩ := hB
    rw [ht] at hP1
    have hK1 := va_K.moved hvm.symm hK1
    have hK1 : va_K (dC, dI) vwCl [] s := hK1
    obtain ⟨hP, hD⟩ := va_join (wr := []) (w1 := [(mq, .inr (12, mF (upd (upd (upd (upd g 7 u_4.1) 8 u_4.2.1) 9 u_4.2.2.1) 10 u_4.2.2.2) gl rf)), (eA0 (rf 0) (ck 0) 900 f_tape), (eA0 (rf 3) (ck 3) 118 f_words)]) hP hD [0, 1, 2] [] hCc rfl (by decide) (by decide) hk1 hFc hP1 hD1
    generalize H1 = H at hP hS ⊢
    have hP : va_P (dC, dI) vwCl [(mq, .inr (12, mF (upd (upd (upd (upd g 7 u_4.1) 8 u_4.2.1) 9 u_4.2.2.1) 10 u_4.2.2.2) gl rf)), (eA0 (rf 0) (ck 0) 900 f_tape), (eA0 (rf 3) (ck 3) 118 f_words)] H := hP
    have hD : va_D A [(mq, .inr (12, mF (upd (upd (upd (upd g 7 u_4.1) 8 u_4.2.1) 9 u_4.2.2.1) 10 u_4.2.2.2) gl rf)), (eA0 (rf 0) (ck 0) 900 f_tape), (eA0 (rf 3) (ck 3) 118 f_words)] := hD
    refine W.widen (k := 0) (n := 0) (by omega) (by omega) ?_
    obtain ⟨hw, hp_9, hp_10⟩ := hw
    have hq_u_4 : u_4 = (fq_token f_tape f_words (g 6) (g 7) (g 9)) := hw
    refine lv_iconst (v := 1) hx hb dX12_keyRead_18 (by decide) ?_
    refine W.widen (k := 0) (n := 0) (by omega) (by omega) ?_
    have hP9 := hP
    have hD9 := hD
    have hK9 := hK.sub (tys' := []) [] rfl
    exact W.zret (v := 1) hx hb hr (by first | rfl | decide) (fun t ht hW => ⟨⟨1, (u_4.1, u_4.2.1, u_4.2.2.1, u_4.2.2.2, (g 4), (g 5)), rfl, ⟨((fun e9 => ⟨by rw [e9], by rw [e9]⟩ : fq_keyRead f_tape f_words a0 (g 4) (g 5) (g 6) (g 7) (g 8) (g 9) (g 10) = ((1 : Int32), u_4.1, u_4.2.1, u_4.2.2.1, u_4.2.2.2, (g 4), (g 5)) → _) ((by rw [fq_keyRead]; (try rw [← hq_r_1]); (try rw [xL_eq]); (try rw [if_neg c_2]); (try rw [← hq_u_4]); (try rw [xL_eq]); try rfl))), Or.inr rfl, (gq_keyRead_s0 (y0 := u_4.1) (y1 := g 6) (y2 := g 7) hp_9 hp_10 h0n hns hs9), (gq_keyRead_s1 (y0 := u_4.1) (y1 := g 6) (y2 := g 7) hp_9 hp_10 h0n hns hs9)⟩, by rw [ht]; exact hP9, va_K.moved hW.alike hK9, hD9⟩, hS.F ht⟩) hS.2.2 dX12_keyRead_19
  · refine lv_aload_n hx hb dX12_keyRead_8 rfl (lv_at hl 0 rfl) ?_
    refine lv_iconst (v := 1) hx hb dX12_keyRead_9 (by decide) ?_
    obtain ⟨hPc, hDc, hFc, hCc⟩ := zsub3 (ws' := [(mq, .inr (12, mF g gl rf))]) hP hD hS hA [0] (by decide) rfl
    have hKc := hK.sub (tys' := []) [] rfl
    refine va_calli (va_runV (As := [.int 1]) (rest := []) ⟨hx, hb, hml, hown, htw⟩ (gq_wrong l dC dI mq g gl rf (1 : Int32) H.size) (cwV 1 htw (xg_V (ck_25 _ (List.mem_of_getElem? (i := 21) rfl)) (ck_25 _ (List.mem_of_getElem? (i := 22) rfl)) (ck_25 _ (List.mem_of_getElem? (i := 23) rfl)) (ck_1 _ (List.mem_of_getElem? (i := 5) rfl)) (ck_26 _ (List.mem_of_getElem? (i := 0) rfl))) rfl rfl rfl (by exact ⟨rfl, hdc_14.1, hdc_14.2, hdd_26⟩) ⟨Nat.le_of_ble_eq_true rfl, Nat.le_of_ble_eq_true rfl⟩) ⟨fun a U g mk q => by obtain ⟨q0, q1, qP, qK, qD⟩ := q; exact ⟨q0, q1, qP, va_K.moved (u := U) (U := U.calling g mk a) (Vm.Alike.refl U.vm) qK, qD⟩, va_recv hKc hPc (ci := 12) (q0 := 0) rfl rfl, fun U hU hW => ⟨rfl, by rw [hU], by rw [hU]; exact hPc, va_K.moved hW.alike hKc, hDc.weaken (fun _ _ _ _ => trivial)⟩⟩ rfl rfl hl.1 rfl (lv_room (Nat.le_of_ble_eq_true rfl)) dX12_keyRead_10 ⟨Nat.le_of_ble_eq_true rfl, Nat.le_of_ble_eq_true rfl⟩) hS (fun q _ h => hFc q h) hFc (fun r_11 u_12 t H1 locs ht hvm hw hB hz1 hk1 hS => ?_)
    try dsimp only at hw
    obtain ⟨hP1, hK1, hD1⟩ := hB
    rw [ht] at hP1
    have hK1 := va_K.moved hvm.symm hK1
    have hK1 : va_K (dC, dI) vwCl [] s := hK1
    obtain ⟨hP, hD⟩ := va_join (wr := [(eA0 (rf 0) (ck 0) 900 f_tape), (eA0 (rf 3) (ck 3) 118 f_words)]) (w1 := [(mq, .inr (12, mF (upd (upd g 4 u_12.1) 5 u_12.2) gl rf))]) hP hD [0] [1, 2] hCc rfl (by decide) (by decide) hk1 hFc hP1 hD1
    generalize H1 = H at hP hS ⊢
    have hP : va_P (dC, dI) vwCl [(eA0 (rf 0) (ck 0) 900 f_tape), (eA0 (rf 3) (ck 3) 118 f_words), (mq, .inr (12, mF (upd (upd g 4 u_12.1) 5 u_12.2) gl rf))] H := hP
    have hD : va_D A [(eA0 (rf 0) (ck 0) 900 f_tape), (eA0 (rf 3) (ck 3) 118 f_words), (mq, .inr (12, mF (upd (upd g 4 u_12.1) 5 u_12.2) gl rf))] := hD
    refine W.widen (k := 0) (n := 0) (by omega) (by omega) ?_
    obtain ⟨hw, hb_r_11, hp_15⟩ := hw
    obtain ⟨X_16, hX_16⟩ : ∃ X9 : Int32 × (Int32) × (Int32), X9 = (fq_wrong (1 : Int32) (g 10)) := ⟨_, rfl⟩
    have hq_r_11 : r_11 = X_16.1 := by rw [hX_16]; exact hw.1
    have hq_u_12 : u_12 = X_16.2 := by rw [hX_16]; exact hw.2
    refine W.widen (k := 0) (n := 0) (by omega) (by omega) ?_
    obtain ⟨hP9, hD9⟩ := zsub2 (ws' := [(mq, .inr (12, mF (upd (upd g 4 u_12.1) 5 u_12.2) gl rf)), (eA0 (rf 0) (ck 0) 900 f_tape), (eA0 (rf 3) (ck 3) 118 f_words)]) hP hD [2, 0, 1] (by decide) rfl
    have hK9 := hK.sub (tys' := []) [] rfl
    exact W.zret (v := r_11) hx hb hr (xz_nar hb_r_11) (fun t ht hW => ⟨⟨r_11, ((g 7), (g 8), (g 9), (g 10), u_12.1, u_12.2), rfl, ⟨((fun e9 => ⟨by rw [e9], by rw [e9]⟩ : fq_keyRead f_tape f_words a0 (g 4) (g 5) (g 6) (g 7) (g 8) (g 9) (g 10) = (r_11, (g 7), (g 8), (g 9), (g 10), u_12.1, u_12.2) → _) ((by rw [fq_keyRead]; (try rw [← hq_r_1]); (try rw [xL_eq]); (try rw [if_pos c_2]); (try rw [← hX_16]); (try rw [xL_eq]); (try rw [← hq_r_11]); (try rw [← hq_u_12]); try rfl))), hb_r_11, (gq_keyRead_s2 (y0 := g 7) (y1 := g 6) h0n hns hs9), (gq_keyRead_s3 (y0 := g 7) (y1 := g 6) h0n hns hs9)⟩, by rw [ht]; exact hP9, va_K.moved hW.alike hK9, hD9⟩, hS.F ht⟩) hS.2.2 dX12_keyRead_13

def fq_find8_4_d (f_na : Nat → Int32) (a0 : Int32) (a1 : Int32) : Nat → (Int32) → Int32
  | 0, L4d => (-1 : Int32)
  | n + 1, L4d => (if a0 ≤ L4d then (-1 : Int32) else (if f_na ((4 + L4d).toNatClampNeg) = a1 then L4d else fq_find8_4_d f_na a0 a1 n (L4d + 1)))
def fq_find8_4 (f_na : Nat → Int32) (a0 : Int32) (a1 : Int32) : Int32 := fq_find8_4_d f_na a0 a1 4 (0 : Int32)
theorem gq_find8_4_s0 {y0 : Int32} {y1 : Int32} (h0 : y0 ≤ y1) (h1 : ¬ (y1 < 0)) (h2 : ¬ (y0 < 0)) (h3 : y0 ≤ 4) : (-1) < y0 := by lia
theorem gq_find8_4_s1  : ¬ ((-1 : Int32) < (-1)) := (by decide)
theorem gq_find8_4_s2 {y0 : Int32} {y1 : Int32} (h0 : y0 ≤ y1) (h1 : ¬ (y1 < 0)) (h2 : ¬ (y0 < 0)) (h3 : y0 ≤ 4) : (-1) < y0 := by lia
theorem gq_find8_4_s3  : ¬ ((-1 : Int32) < (-1)) := (by decide)
theorem gq_find8_4_s4 {y0 : Int32} {y1 : Int32} (h0 : ¬ (y1 ≤ y0)) (h1 : ¬ (y0 < 0)) (h2 : ¬ (y1 < 0)) (h3 : y1 ≤ 4) : ¬ ((4 + y0) < 0) ∧ ¬ (8 ≤ (4 + y0)) := by lia
theorem gq_find8_4_s5 {y0 : Int32} {y1 : Int32} (h0 : ¬ (y1 ≤ y0)) (h1 : ¬ (y0 < 0)) (h2 : ¬ (y1 < 0)) (h3 : y1 ≤ 4) : ¬ ((y0 + 1) < 0) := by lia
theorem gq_find8_4_s6 {y0 : Int32} {y1 : Int32} (h0 : ¬ (y1 ≤ y0)) (h1 : ¬ (y0 < 0)) (h2 : ¬ (y1 < 0)) (h3 : y1 ≤ 4) : y0 < y1 := by lia
theorem gq_find8_4_s7 {y0 : Int32} {y1 : Int32} (h0 : ¬ (y1 ≤ y0)) (h1 : ¬ (y0 < 0)) (h2 : ¬ (y1 < 0)) (h3 : y1 ≤ 4) : ¬ (y0 < (-1)) := by lia
theorem gq_find8_4_s8  : ¬ ((0 : Int32) < 0) := (by decide)
theorem dX12_find_0 : decode cX12_find 0 = .ok (.iconst 0, 1) := zk_3 (by decide +kernel)
theorem dX12_find_1 : decode cX12_find 1 = .ok (.istore 4, 2) := zk_54 (by decide +kernel)
theorem dX12_find_3 : decode cX12_find 3 = .ok (.iload 4, 2) := zk_21 (by decide +kernel)
theorem dX12_find_5 : decode cX12_find 5 = .ok (.iload_n 2, 1) := zk_28 (by decide +kernel)
theorem dX12_find_6 : decode cX12_find 6 = .ok (.if_icmp .ge 22, 3) := zk_162 (by decide +kernel)
theorem dX12_find_28 : decode cX12_find 28 = .ok (.iconst (-1), 1) := zk_2 (by decide +kernel)
theorem dX12_find_29 : decode cX12_find 29 = .ok (.ireturn, 1) := zk_172 (by decide +kernel)
theorem dX12_find_9 : decode cX12_find 9 = .ok (.aload_n 0, 1) := zk_42 (by decide +kernel)
theorem dX12_find_10 : decode cX12_find 10 = .ok (.iload_n 1, 1) := zk_27 (by decide +kernel)
theorem dX12_find_11 : decode cX12_find 11 = .ok (.iload 4, 2) := zk_21 (by decide +kernel)
theorem dX12_find_13 : decode cX12_find 13 = .ok (.iadd, 1) := zk_96 (by decide +kernel)
theorem dX12_find_14 : decode cX12_find 14 = .ok (.iaload, 1) := zk_46 (by decide +kernel)
theorem dX12_find_15 : decode cX12_find 15 = .ok (.iload_n 3, 1) := zk_29 (by decide +kernel)
theorem dX12_find_16 : decode cX12_find 16 = .ok (.if_icmp .ne 6, 3) := zk_160 (by decide +kernel)
theorem dX12_find_22 : decode cX12_find 22 = .ok (.iinc 4 1, 3) := zk_132 (by decide +kernel)
theorem dX12_find_25 : decode cX12_find 25 = .ok (.goto (-22), 3) := zk_167 (by decide +kernel)
theorem dX12_find_19 : decode cX12_find 19 = .ok (.iload 4, 2) := zk_21 (by decide +kernel)
theorem dX12_find_21 : decode cX12_find 21 = .ok (.ireturn, 1) := zk_172 (by decide +kernel)
set_option maxHeartbeats 4000000 in
set_option maxRecDepth 100000 in
theorem gq_find8_4 (l : Launch) (dC : Nat → ClassId) (dI : Nat → Nat → Nat) (na : Nat) (cNa : ClassId) (f_na : Nat → Int32) (a0 : Int32) (a1 : Int32) (hn0 : ¬ a0 < 0) (hn4 : a0 ≤ 4) : Met l yX12_find (Cond.code yX12_find cX12_find 5 (some .int) :: wsL_law) ({ frames := 0, cells := 0, slots := 0, locals := 0 }) (va_Pc [.ref na, .int 4, .int a0, .int a1] (fun U => va_P (dC, dI) vwCl [(eA0 na cNa 8 f_na)] U.heap ∧ va_K (dC, dI) vwCl [(cNa, .int)] U)) (vp_Si (fun r => (r = fq_find8_4 f_na a0 a1) ∧ (r < a0) ∧ (¬ r < (-1)))) 0 0 (fun _ => False) := by
  refine Met.ofW (cc := cX12_find) (maxL := 5) (ret := (some .int)) (by decide) rfl ?_
  intro p e s m args below meth c s₁ B hml hv
  obtain ⟨rfl, hP, hK⟩ := hv
  have hx := B.exec
  have hb := B.bytes
  have hr := B.returns
  have hts := atoms_spec (ws := Cond.code yX12_find cX12_find 5 (some .int) :: wsL_law) B.pre
  have htw : ∀ w ∈ wsL_law, w.before _ s = true := fun w h => hts w (List.mem_cons_of_mem _ h)
  have hown : s.vm.findClass RX12 = some m.cls := findClass_of_methodNamed B.named
  have hlocks := B.notSynchronized
  have hl := lv_entry ([.ref na, .int 4, .int a0, .int a1]) (n := 5) (Nat.le_of_ble_eq_true rfl)
  rw [lg_entry_eq]
  generalize (lg_sl ([.ref na, .int 4, .int a0, .int a1]) ++ List.replicate (5 - (lg_sl ([.ref na, .int 4, .int a0, .int a1])).length) Slot.unset).toArray = ls at hl ⊢
  have hl : lv_has ls 5 [(0, .ref na), (1, .int 4), (2, .int a0), (3, .int a1)] := hl
  refine lv_iconst (v := 0) hx hb dX12_find_0 (by decide) ?_
  refine lv_istore (lv' := [(4, .int 0), (0, .ref na), (1, .int 4), (2, .int a0), (3, .int a1)]) hx hb dX12_find_1 hl (by decide) rfl (fun ls hl => ?_)
  have hloop_1 : ∀ (n : Nat) (L4d : Int32) (h0_d : ¬ L4d < 0) (hf_d : a0.toInt ≤ L4d.toInt + (n : Int)) (hI_d : fq_find8_4 f_na a0 a1 = fq_find8_4_d f_na a0 a1 n L4d) (ls : Array Slot) (hl : lv_has ls 5 [(4, .int L4d), (0, .ref na), (1, .int 4), (2, .int a0), (3, .int a1)]), W p l e (headSpec (Cond.code yX12_find cX12_find 5 (some .int) :: wsL_law) ({ frames := 0, cells := 0, slots := 0, locals := 0 })).room s m ([.ref na, .int 4, .int a0, .int a1] : List Value).toArray below meth c s.heap [] 0 0 (MQ below (vp_Si (fun r => (r = fq_find8_4 f_na a0 a1) ∧ (r < a0) ∧ (¬ r < (-1)))) ([.ref na, .int 4, .int a0, .int a1] : List Value).toArray s 0 0 (fun _ => False)) (F0 m 3 ls []) := by
    intro n
    induction n with
    | zero =>
      intro L4d h0_d hf_d hI_d ls hl
      refine lv_iload hx hb dX12_find_3 (lv_at hl 0 rfl) ?_
      refine lv_iload_n hx hb dX12_find_5 rfl (lv_at hl 3 rfl) ?_
      refine lv_icmp_ge (tgt := 28) hx hb dX12_find_6 (by decide) (fun c_2 => ?_) (fun c_2 => absurd c_2 (fun h => h (xi_z hf_d)))
      refine lv_iconst (v := (-1)) hx hb dX12_find_28 (by decide) ?_
      exact W.iret (v := (-1)) hx hb hr (fun t ht hW => ⟨(-1), rfl, ⟨(Eq.symm (hI_d.trans (by rw [fq_find8_4_d]; try rfl))), (gq_find8_4_s0 (y0 := a0) (y1 := L4d) c_2 h0_d hn0 hn4), (gq_find8_4_s1 )⟩, ht⟩) (fun _ h => by cases h) dX12_find_29
    | succ n ih =>
      intro L4d h0_d hf_d hI_d ls hl
      refine lv_iload hx hb dX12_find_3 (lv_at hl 0 rfl) ?_
      refine lv_iload_n hx hb dX12_find_5 rfl (lv_at hl 3 rfl) ?_
      refine lv_icmp_ge (tgt := 28) hx hb dX12_find_6 (by decide) (fun c_3 => ?_) (fun c_3 => ?_)
      · refine lv_iconst (v := (-1)) hx hb dX12_find_28 (by decide) ?_
        exact W.iret (v := (-1)) hx hb hr (fun t ht hW => ⟨(-1), rfl, ⟨(Eq.symm (hI_d.trans (by rw [fq_find8_4_d]; (try rw [if_pos c_3]); try rfl))), (gq_find8_4_s2 (y0 := a0) (y1 := L4d) c_3 h0_d hn0 hn4), (gq_find8_4_s3 )⟩, ht⟩) (fun _ h => by cases h) dX12_find_29
      · refine lv_aload_n hx hb dX12_find_9 rfl (lv_at hl 1 rfl) ?_
        refine lv_iload_n hx hb dX12_find_10 rfl (lv_at hl 2 rfl) ?_
        refine lv_iload hx hb dX12_find_11 (lv_at hl 0 rfl) ?_
        refine lv_iadd hx hb dX12_find_13 ?_
        refine va_iald hx hb hK hP 0 0 rfl rfl (xg_inr (N := 8) rfl (gq_find8_4_s4 (y0 := L4d) (y1 := a0) c_3 h0_d hn0 hn4).1 (gq_find8_4_s4 (y0 := L4d) (y1 := a0) c_3 h0_d hn0 hn4).2) dX12_find_14 ?_
        refine lv_iload_n hx hb dX12_find_15 rfl (lv_at hl 4 rfl) ?_
        refine lv_icmp_ne (tgt := 22) hx hb dX12_find_16 (by decide) (fun c_4 => ?_) (fun c_4 => ?_)
        · refine lv_iinc (v := (L4d + 1)) (lv' := [(4, .int (L4d + 1)), (0, .ref na), (1, .int 4), (2, .int a0), (3, .int a1)]) hx hb dX12_find_22 hl (k := 0) rfl (rfl) (by decide) rfl (fun ls hl => ?_)
          refine lv_goto (tgt := 3) hx hb dX12_find_25 (by decide) ?_
          exact ih (L4d + 1) (gq_find8_4_s5 (y0 := L4d) (y1 := a0) c_3 h0_d hn0 hn4) (by rw [xi_s' c_3]; omega) (hI_d.trans (by rw [fq_find8_4_d]; (try rw [if_neg c_3]); (try rw [if_neg c_4]); try rfl)) ls (lv_sub hl [0, 1, 2, 3, 4] rfl)
        · refine lv_iload hx hb dX12_find_19 (lv_at hl 0 rfl) ?_
          exact W.iret (v := L4d) hx hb hr (fun t ht hW => ⟨L4d, rfl, ⟨(Eq.symm (hI_d.trans (by rw [fq_find8_4_d]; (try rw [if_neg c_3]); (try rw [if_pos c_4]); try rfl))), (gq_find8_4_s6 (y0 := L4d) (y1 := a0) c_3 h0_d hn0 hn4), (gq_find8_4_s7 (y0 := L4d) (y1 := a0) c_3 h0_d hn0 hn4)⟩, ht⟩) (fun _ h => by cases h) dX12_find_21
  exact hloop_1 4 (0 : Int32) (gq_find8_4_s8 ) (by have := xi_le hn4; have e9 : (4 : Int32).toInt = 4 := rfl; have e0 : (0 : Int32).toInt = 0 := rfl; omega) ((by rw [fq_find8_4])) ls (lv_sub hl [0, 1, 2, 3, 4] rfl)

def fq_find8_0_d (f_na : Nat → Int32) (a0 : Int32) (a1 : Int32) : Nat → (Int32) → Int32
  | 0, L4d => (-1 : Int32)
  | n + 1, L4d => (if a0 ≤ L4d then (-1 : Int32) else (if f_na ((0 + L4d).toNatClampNeg) = a1 then L4d else fq_find8_0_d f_na a0 a1 n (L4d + 1)))
def fq_find8_0 (f_na : Nat → Int32) (a0 : Int32) (a1 : Int32) : Int32 := fq_find8_0_d f_na a0 a1 4 (0 : Int32)
theorem gq_find8_0_s0 {y0 : Int32} {y1 : Int32} (h0 : y0 ≤ y1) (h1 : ¬ (y1 < 0)) (h2 : ¬ (y0 < 0)) (h3 : y0 ≤ 4) : (-1) < y0 := by lia
theorem gq_find8_0_s1  : ¬ ((-1 : Int32) < (-1)) := (by decide)
theorem gq_find8_0_s2 {y0 : Int32} {y1 : Int32} (h0 : y0 ≤ y1) (h1 : ¬ (y1 < 0)) (h2 : ¬ (y0 < 0)) (h3 : y0 ≤ 4) : (-1) < y0 := by lia
theorem gq_find8_0_s3  : ¬ ((-1 : Int32) < (-1)) := (by decide)
theorem gq_find8_0_s4 {y0 : Int32} {y1 : Int32} (h0 : ¬ (y1 ≤ y0)) (h1 : ¬ (y0 < 0)) (h2 : ¬ (y1 < 0)) (h3 : y1 ≤ 4) : ¬ ((0 + y0) < 0) ∧ ¬ (8 ≤ (0 + y0)) := by lia
theorem gq_find8_0_s5 {y0 : Int32} {y1 : Int32} (h0 : ¬ (y1 ≤ y0)) (h1 : ¬ (y0 < 0)) (h2 : ¬ (y1 < 0)) (h3 : y1 ≤ 4) : ¬ ((y0 + 1) < 0) := gq_find8_4_s5 h0 h1 h2 h3
theorem gq_find8_0_s6 {y0 : Int32} {y1 : Int32} (h0 : ¬ (y1 ≤ y0)) (h1 : ¬ (y0 < 0)) (h2 : ¬ (y1 < 0)) (h3 : y1 ≤ 4) : y0 < y1 := by lia
theorem gq_find8_0_s7 {y0 : Int32} {y1 : Int32} (h0 : ¬ (y1 ≤ y0)) (h1 : ¬ (y0 < 0)) (h2 : ¬ (y1 < 0)) (h3 : y1 ≤ 4) : ¬ (y0 < (-1)) := gq_find8_4_s7 h0 h1 h2 h3
theorem gq_find8_0_s8  : ¬ ((0 : Int32) < 0) := (by decide)
set_option maxHeartbeats 4000000 in
set_option maxRecDepth 100000 in
theorem gq_find8_0 (l : Launch) (dC : Nat → ClassId) (dI : Nat → Nat → Nat) (na : Nat) (cNa : ClassId) (f_na : Nat → Int32) (a0 : Int32) (a1 : Int32) (hn0 : ¬ a0 < 0) (hn4 : a0 ≤ 4) : Met l yX12_find (Cond.code yX12_find cX12_find 5 (some .int) :: wsL_law) ({ frames := 0, cells := 0, slots := 0, locals := 0 }) (va_Pc [.ref na, .int 0, .int a0, .int a1] (fun U => va_P (dC, dI) vwCl [(eA0 na cNa 8 f_na)] U.heap ∧ va_K (dC, dI) vwCl [(cNa, .int)] U)) (vp_Si (fun r => (r = fq_find8_0 f_na a0 a1) ∧ (r < a0) ∧ (¬ r < (-1)))) 0 0 (fun _ => False) := by
  refine Met.ofW (cc := cX12_find) (maxL := 5) (ret := (some .int)) (by decide) rfl ?_
  intro p e s m args below meth c s₁ B hml hv
  obtain ⟨rfl, hP, hK⟩ := hv
  have hx := B.exec
  have hb := B.bytes
  have hr := B.returns
  have hts := atoms_spec (ws := Cond.code yX12_find cX12_find 5 (some .int) :: wsL_law) B.pre
  have htw : ∀ w ∈ wsL_law, w.before _ s = true := fun w h => hts w (List.mem_cons_of_mem _ h)
  have hown : s.vm.findClass RX12 = some m.cls := findClass_of_methodNamed B.named
  have hlocks := B.notSynchronized
  have hl := lv_entry ([.ref na, .int 0, .int a0, .int a1]) (n := 5) (Nat.le_of_ble_eq_true rfl)
  rw [lg_entry_eq]
  generalize (lg_sl ([.ref na, .int 0, .int a0, .int a1]) ++ List.replicate (5 - (lg_sl ([.ref na, .int 0, .int a0, .int a1])).length) Slot.unset).toArray = ls at hl ⊢
  have hl : lv_has ls 5 [(0, .ref na), (1, .int 0), (2, .int a0), (3, .int a1)] := hl
  refine lv_iconst (v := 0) hx hb dX12_find_0 (by decide) ?_
  refine lv_istore (lv' := [(4, .int 0), (0, .ref na), (1, .int 0), (2, .int a0), (3, .int a1)]) hx hb dX12_find_1 hl (by decide) rfl (fun ls hl => ?_)
  have hloop_1 : ∀ (n : Nat) (L4d : Int32) (h0_d : ¬ L4d < 0) (hf_d : a0.toInt ≤ L4d.toInt + (n : Int)) (hI_d : fq_find8_0 f_na a0 a1 = fq_find8_0_d f_na a0 a1 n L4d) (ls : Array Slot) (hl : lv_has ls 5 [(4, .int L4d), (0, .ref na), (1, .int 0), (2, .int a0), (3, .int a1)]), W p l e (headSpec (Cond.code yX12_find cX12_find 5 (some .int) :: wsL_law) ({ frames := 0, cells := 0, slots := 0, locals := 0 })).room s m ([.ref na, .int 0, .int a0, .int a1] : List Value).toArray below meth c s.heap [] 0 0 (MQ below (vp_Si (fun r => (r = fq_find8_0 f_na a0 a1) ∧ (r < a0) ∧ (¬ r < (-1)))) ([.ref na, .int 0, .int a0, .int a1] : List Value).toArray s 0 0 (fun _ => False)) (F0 m 3 ls []) := by
    intro n
    induction n with
    | zero =>
      intro L4d h0_d hf_d hI_d ls hl
      refine lv_iload hx hb dX12_find_3 (lv_at hl 0 rfl) ?_
      refine lv_iload_n hx hb dX12_find_5 rfl (lv_at hl 3 rfl) ?_
      refine lv_icmp_ge (tgt := 28) hx hb dX12_find_6 (by decide) (fun c_2 => ?_) (fun c_2 => absurd c_2 (fun h => h (xi_z hf_d)))
      refine lv_iconst (v := (-1)) hx hb dX12_find_28 (by decide) ?_
      exact W.iret (v := (-1)) hx hb hr (fun t ht hW => ⟨(-1), rfl, ⟨(Eq.symm (hI_d.trans (by rw [fq_find8_0_d]; try rfl))), (gq_find8_0_s0 (y0 := a0) (y1 := L4d) c_2 h0_d hn0 hn4), (gq_find8_0_s1 )⟩, ht⟩) (fun _ h => by cases h) dX12_find_29
    | succ n ih =>
      intro L4d h0_d hf_d hI_d ls hl
      refine lv_iload hx hb dX12_find_3 (lv_at hl 0 rfl) ?_
      refine lv_iload_n hx hb dX12_find_5 rfl (lv_at hl 3 rfl) ?_
      refine lv_icmp_ge (tgt := 28) hx hb dX12_find_6 (by decide) (fun c_3 => ?_) (fun c_3 => ?_)
      · refine lv_iconst (v := (-1)) hx hb dX12_find_28 (by decide) ?_
        exact W.iret (v := (-1)) hx hb hr (fun t ht hW => ⟨(-1), rfl, ⟨(Eq.symm (hI_d.trans (by rw [fq_find8_0_d]; (try rw [if_pos c_3]); try rfl))), (gq_find8_0_s2 (y0 := a0) (y1 := L4d) c_3 h0_d hn0 hn4), (gq_find8_0_s3 )⟩, ht⟩) (fun _ h => by cases h) dX12_find_29
      · refine lv_aload_n hx hb dX12_find_9 rfl (lv_at hl 1 rfl) ?_
        refine lv_iload_n hx hb dX12_find_10 rfl (lv_at hl 2 rfl) ?_
        refine lv_iload hx hb dX12_find_11 (lv_at hl 0 rfl) ?_
        refine lv_iadd hx hb dX12_find_13 ?_
        refine va_iald hx hb hK hP 0 0 rfl rfl (xg_inr (N := 8) rfl (gq_find8_0_s4 (y0 := L4d) (y1 := a0) c_3 h0_d hn0 hn4).1 (gq_find8_0_s4 (y0 := L4d) (y1 := a0) c_3 h0_d hn0 hn4).2) dX12_find_14 ?_
        refine lv_iload_n hx hb dX12_find_15 rfl (lv_at hl 4 rfl) ?_
        refine lv_icmp_ne (tgt := 22) hx hb dX12_find_16 (by decide) (fun c_4 => ?_) (fun c_4 => ?_)
        · refine lv_iinc (v := (L4d + 1)) (lv' := [(4, .int (L4d + 1)), (0, .ref na), (1, .int 0), (2, .int a0), (3, .int a1)]) hx hb dX12_find_22 hl (k := 0) rfl (rfl) (by decide) rfl (fun ls hl => ?_)
          refine lv_goto (tgt := 3) hx hb dX12_find_25 (by decide) ?_
          exact ih (L4d + 1) (gq_find8_0_s5 (y0 := L4d) (y1 := a0) c_3 h0_d hn0 hn4) (by rw [xi_s' c_3]; omega) (hI_d.trans (by rw [fq_find8_0_d]; (try rw [if_neg c_3]); (try rw [if_neg c_4]); try rfl)) ls (lv_sub hl [0, 1, 2, 3, 4] rfl)
        · refine lv_iload hx hb dX12_find_19 (lv_at hl 0 rfl) ?_
          exact W.iret (v := L4d) hx hb hr (fun t ht hW => ⟨L4d, rfl, ⟨(Eq.symm (hI_d.trans (by rw [fq_find8_0_d]; (try rw [if_neg c_3]); (try rw [if_pos c_4]); try rfl))), (gq_find8_0_s6 (y0 := L4d) (y1 := a0) c_3 h0_d hn0 hn4), (gq_find8_0_s7 (y0 := L4d) (y1 := a0) c_3 h0_d hn0 hn4)⟩, ht⟩) (fun _ h => by cases h) dX12_find_21
  exact hloop_1 4 (0 : Int32) (gq_find8_0_s8 ) (by have := xi_le hn4; have e9 : (4 : Int32).toInt = 4 := rfl; have e0 : (0 : Int32).toInt = 0 := rfl; omega) ((by rw [fq_find8_0])) ls (lv_sub hl [0, 1, 2, 3, 4] rfl)

def fq_find12_6_d (f_na : Nat → Int32) (a0 : Int32) (a1 : Int32) : Nat → (Int32) → Int32
  | 0, L4d => (-1 : Int32)
  | n + 1, L4d => (if a0 ≤ L4d then (-1 : Int32) else (if f_na ((6 + L4d).toNatClampNeg) = a1 then L4d else fq_find12_6_d f_na a0 a1 n (L4d + 1)))
def fq_find12_6 (f_na : Nat → Int32) (a0 : Int32) (a1 : Int32) : Int32 := fq_find12_6_d f_na a0 a1 6 (0 : Int32)
theorem gq_find12_6_s0 {y0 : Int32} {y1 : Int32} (h0 : y0 ≤ y1) (h1 : ¬ (y1 < 0)) (h2 : ¬ (y0 < 0)) (h3 : y0 ≤ 6) : (-1) < y0 := by lia
theorem gq_find12_6_s1  : ¬ ((-1 : Int32) < (-1)) := (by decide)
theorem gq_find12_6_s2 {y0 : Int32} {y1 : Int32} (h0 : y0 ≤ y1) (h1 : ¬ (y1 < 0)) (h2 : ¬ (y0 < 0)) (h3 : y0 ≤ 6) : (-1) < y0 := by lia
theorem gq_find12_6_s3  : ¬ ((-1 : Int32) < (-1)) := (by decide)
theorem gq_find12_6_s4 {y0 : Int32} {y1 : Int32} (h0 : ¬ (y1 ≤ y0)) (h1 : ¬ (y0 < 0)) (h2 : ¬ (y1 < 0)) (h3 : y1 ≤ 6) : ¬ ((6 + y0) < 0) ∧ ¬ (12 ≤ (6 + y0)) := by lia
theorem gq_find12_6_s5 {y0 : Int32} {y1 : Int32} (h0 : ¬ (y1 ≤ y0)) (h1 : ¬ (y0 < 0)) (h2 : ¬ (y1 < 0)) (h3 : y1 ≤ 6) : ¬ ((y0 + 1) < 0) := by lia
theorem gq_find12_6_s6 {y0 : Int32} {y1 : Int32} (h0 : ¬ (y1 ≤ y0)) (h1 : ¬ (y0 < 0)) (h2 : ¬ (y1 < 0)) (h3 : y1 ≤ 6) : y0 < y1 := by lia
theorem gq_find12_6_s7 {y0 : Int32} {y1 : Int32} (h0 : ¬ (y1 ≤ y0)) (h1 : ¬ (y0 < 0)) (h2 : ¬ (y1 < 0)) (h3 : y1 ≤ 6) : ¬ (y0 < (-1)) := by lia
theorem gq_find12_6_s8  : ¬ ((0 : Int32) < 0) := (by decide)
set_option maxHeartbeats 4000000 in
set_option maxRecDepth 100000 in
theorem gq_find12_6 (l : Launch) (dC : Nat → ClassId) (dI : Nat → Nat → Nat) (na : Nat) (cNa : ClassId) (f_na : Nat → Int32) (a0 : Int32) (a1 : Int32) (hn0 : ¬ a0 < 0) (hn4 : a0 ≤ 6) : Met l yX12_find (Cond.code yX12_find cX12_find 5 (some .int) :: wsL_law) ({ frames := 0, cells := 0, slots := 0, locals := 0 }) (va_Pc [.ref na, .int 6, .int a0, .int a1] (fun U => va_P (dC, dI) vwCl [(eA0 na cNa 12 f_na)] U.heap ∧ va_K (dC, dI) vwCl [(cNa, .int)] U)) (vp_Si (fun r => (r = fq_find12_6 f_na a0 a1) ∧ (r < a0) ∧ (¬ r < (-1)))) 0 0 (fun _ => False) := by
  refine Met.ofW (cc := cX12_find) (maxL := 5) (ret := (some .int)) (by decide) rfl ?_
  intro p e s m args below meth c s₁ B hml hv
  obtain ⟨rfl, hP, hK⟩ := hv
  have hx := B.exec
  have hb := B.bytes
  have hr := B.returns
  have hts := atoms_spec (ws := Cond.code yX12_find cX12_find 5 (some .int) :: wsL_law) B.pre
  have htw : ∀ w ∈ wsL_law, w.before _ s = true := fun w h => hts w (List.mem_cons_of_mem _ h)
  have hown : s.vm.findClass RX12 = some m.cls := findClass_of_methodNamed B.named
  have hlocks := B.notSynchronized
  have hl := lv_entry ([.ref na, .int 6, .int a0, .int a1]) (n := 5) (Nat.le_of_ble_eq_true rfl)
  rw [lg_entry_eq]
  generalize (lg_sl ([.ref na, .int 6, .int a0, .int a1]) ++ List.replicate (5 - (lg_sl ([.ref na, .int 6, .int a0, .int a1])).length) Slot.unset).toArray = ls at hl ⊢
  have hl : lv_has ls 5 [(0, .ref na), (1, .int 6), (2, .int a0), (3, .int a1)] := hl
  refine lv_iconst (v := 0) hx hb dX12_find_0 (by decide) ?_
  refine lv_istore (lv' := [(4, .int 0), (0, .ref na), (1, .int 6), (2, .int a0), (3, .int a1)]) hx hb dX12_find_1 hl (by decide) rfl (fun ls hl => ?_)
  have hloop_1 : ∀ (n : Nat) (L4d : Int32) (h0_d : ¬ L4d < 0) (hf_d : a0.toInt ≤ L4d.toInt + (n : Int)) (hI_d : fq_find12_6 f_na a0 a1 = fq_find12_6_d f_na a0 a1 n L4d) (ls : Array Slot) (hl : lv_has ls 5 [(4, .int L4d), (0, .ref na), (1, .int 6), (2, .int a0), (3, .int a1)]), W p l e (headSpec (Cond.code yX12_find cX12_find 5 (some .int) :: wsL_law) ({ frames := 0, cells := 0, slots := 0, locals := 0 })).room s m ([.ref na, .int 6, .int a0, .int a1] : List Value).toArray below meth c s.heap [] 0 0 (MQ below (vp_Si (fun r => (r = fq_find12_6 f_na a0 a1) ∧ (r < a0) ∧ (¬ r < (-1)))) ([.ref na, .int 6, .int a0, .int a1] : List Value).toArray s 0 0 (fun _ => False)) (F0 m 3 ls []) := by
    intro n
    induction n with
    | zero =>
      intro L4d h0_d hf_d hI_d ls hl
      refine lv_iload hx hb dX12_find_3 (lv_at hl 0 rfl) ?_
      refine lv_iload_n hx hb dX12_find_5 rfl (lv_at hl 3 rfl) ?_
      refine lv_icmp_ge (tgt := 28) hx hb dX12_find_6 (by decide) (fun c_2 => ?_) (fun c_2 => absurd c_2 (fun h => h (xi_z hf_d)))
      refine lv_iconst (v := (-1)) hx hb dX12_find_28 (by decide) ?_
      exact W.iret (v := (-1)) hx hb hr (fun t ht hW => ⟨(-1), rfl, ⟨(Eq.symm (hI_d.trans (by rw [fq_find12_6_d]; try rfl))), (gq_find12_6_s0 (y0 := a0) (y1 := L4d) c_2 h0_d hn0 hn4), (gq_find12_6_s1 )⟩, ht⟩) (fun _ h => by cases h) dX12_find_29
    | succ n ih =>
      intro L4d h0_d hf_d hI_d ls hl
      refine lv_iload hx hb dX12_find_3 (lv_at hl 0 rfl) ?_
      refine lv_iload_n hx hb dX12_find_5 rfl (lv_at hl 3 rfl) ?_
      refine lv_icmp_ge (tgt := 28) hx hb dX12_find_6 (by decide) (fun c_3 => ?_) (fun c_3 => ?_)
      · refine lv_iconst (v := (-1)) hx hb dX12_find_28 (by decide) ?_
        exact W.iret (v := (-1)) hx hb hr (fun t ht hW => ⟨(-1), rfl, ⟨(Eq.symm (hI_d.trans (by rw [fq_find12_6_d]; (try rw [if_pos c_3]); try rfl))), (gq_find12_6_s2 (y0 := a0) (y1 := L4d) c_3 h0_d hn0 hn4), (gq_find12_6_s3 )⟩, ht⟩) (fun _ h => by cases h) dX12_find_29
      · refine lv_aload_n hx hb dX12_find_9 rfl (lv_at hl 1 rfl) ?_
        refine lv_iload_n hx hb dX12_find_10 rfl (lv_at hl 2 rfl) ?_
        refine lv_iload hx hb dX12_find_11 (lv_at hl 0 rfl) ?_
        refine lv_iadd hx hb dX12_find_13 ?_
        refine va_iald hx hb hK hP 0 0 rfl rfl (xg_inr (N := 12) rfl (gq_find12_6_s4 (y0 := L4d) (y1 := a0) c_3 h0_d hn0 hn4).1 (gq_find12_6_s4 (y0 := L4d) (y1 := a0) c_3 h0_d hn0 hn4).2) dX12_find_14 ?_
        refine lv_iload_n hx hb dX12_find_15 rfl (lv_at hl 4 rfl) ?_
        refine lv_icmp_ne (tgt := 22) hx hb dX12_find_16 (by decide) (fun c_4 => ?_) (fun c_4 => ?_)
        · refine lv_iinc (v := (L4d + 1)) (lv' := [(4, .int (L4d + 1)), (0, .ref na), (1, .int 6), (2, .int a0), (3, .int a1)]) hx hb dX12_find_22 hl (k := 0) rfl (rfl) (by decide) rfl (fun ls hl => ?_)
          refine lv_goto (tgt := 3) hx hb dX12_find_25 (by decide) ?_
          exact ih (L4d + 1) (gq_find12_6_s5 (y0 := L4d) (y1 := a0) c_3 h0_d hn0 hn4) (by rw [xi_s' c_3]; omega) (hI_d.trans (by rw [fq_find12_6_d]; (try rw [if_neg c_3]); (try rw [if_neg c_4]); try rfl)) ls (lv_sub hl [0, 1, 2, 3, 4] rfl)
        · refine lv_iload hx hb dX12_find_19 (lv_at hl 0 rfl) ?_
          exact W.iret (v := L4d) hx hb hr (fun t ht hW => ⟨L4d, rfl, ⟨(Eq.symm (hI_d.trans (by rw [fq_find12_6_d]; (try rw [if_neg c_3]); (try rw [if_pos c_4]); try rfl))), (gq_find12_6_s6 (y0 := L4d) (y1 := a0) c_3 h0_d hn0 hn4), (gq_find12_6_s7 (y0 := L4d) (y1 := a0) c_3 h0_d hn0 hn4)⟩, ht⟩) (fun _ h => by cases h) dX12_find_21
  exact hloop_1 6 (0 : Int32) (gq_find12_6_s8 ) (by have := xi_le hn4; have e9 : (6 : Int32).toInt = 6 := rfl; have e0 : (0 : Int32).toInt = 0 := rfl; omega) ((by rw [fq_find12_6])) ls (lv_sub hl [0, 1, 2, 3, 4] rfl)

def fq_find12_0_d (f_na : Nat → Int32) (a0 : Int32) (a1 : Int32) : Nat → (Int32) → Int32
  | 0, L4d => (-1 : Int32)
  | n + 1, L4d => (if a0 ≤ L4d then (-1 : Int32) else (if f_na ((0 + L4d).toNatClampNeg) = a1 then L4d else fq_find12_0_d f_na a0 a1 n (L4d + 1)))
def fq_find12_0 (f_na : Nat → Int32) (a0 : Int32) (a1 : Int32) : Int32 := fq_find12_0_d f_na a0 a1 6 (0 : Int32)
theorem gq_find12_0_s0 {y0 : Int32} {y1 : Int32} (h0 : y0 ≤ y1) (h1 : ¬ (y1 < 0)) (h2 : ¬ (y0 < 0)) (h3 : y0 ≤ 6) : (-1) < y0 := by lia
theorem gq_find12_0_s1  : ¬ ((-1 : Int32) < (-1)) := (by decide)
theorem gq_find12_0_s2 {y0 : Int32} {y1 : Int32} (h0 : y0 ≤ y1) (h1 : ¬ (y1 < 0)) (h2 : ¬ (y0 < 0)) (h3 : y0 ≤ 6) : (-1) < y0 := by lia
theorem gq_find12_0_s3  : ¬ ((-1 : Int32) < (-1)) := (by decide)
theorem gq_find12_0_s4 {y0 : Int32} {y1 : Int32} (h0 : ¬ (y1 ≤ y0)) (h1 : ¬ (y0 < 0)) (h2 : ¬ (y1 < 0)) (h3 : y1 ≤ 6) : ¬ ((0 + y0) < 0) ∧ ¬ (12 ≤ (0 + y0)) := by lia
theorem gq_find12_0_s5 {y0 : Int32} {y1 : Int32} (h0 : ¬ (y1 ≤ y0)) (h1 : ¬ (y0 < 0)) (h2 : ¬ (y1 < 0)) (h3 : y1 ≤ 6) : ¬ ((y0 + 1) < 0) := gq_find12_6_s5 h0 h1 h2 h3
theorem gq_find12_0_s6 {y0 : Int32} {y1 : Int32} (h0 : ¬ (y1 ≤ y0)) (h1 : ¬ (y0 < 0)) (h2 : ¬ (y1 < 0)) (h3 : y1 ≤ 6) : y0 < y1 := by lia
theorem gq_find12_0_s7 {y0 : Int32} {y1 : Int32} (h0 : ¬ (y1 ≤ y0)) (h1 : ¬ (y0 < 0)) (h2 : ¬ (y1 < 0)) (h3 : y1 ≤ 6) : ¬ (y0 < (-1)) := gq_find12_6_s7 h0 h1 h2 h3
theorem gq_find12_0_s8  : ¬ ((0 : Int32) < 0) := (by decide)
set_option maxHeartbeats 4000000 in
set_option maxRecDepth 100000 in
theorem gq_find12_0 (l : Launch) (dC : Nat → ClassId) (dI : Nat → Nat → Nat) (na : Nat) (cNa : ClassId) (f_na : Nat → Int32) (a0 : Int32) (a1 : Int32) (hn0 : ¬ a0 < 0) (hn4 : a0 ≤ 6) : Met l yX12_find (Cond.code yX12_find cX12_find 5 (some .int) :: wsL_law) ({ frames := 0, cells := 0, slots := 0, locals := 0 }) (va_Pc [.ref na, .int 0, .int a0, .int a1] (fun U => va_P (dC, dI) vwCl [(eA0 na cNa 12 f_na)] U.heap ∧ va_K (dC, dI) vwCl [(cNa, .int)] U)) (vp_Si (fun r => (r = fq_find12_0 f_na a0 a1) ∧ (r < a0) ∧ (¬ r < (-1)))) 0 0 (fun _ => False) := by
  refine Met.ofW (cc := cX12_find) (maxL := 5) (ret := (some .int)) (by decide) rfl ?_
  intro p e s m args below meth c s₁ B hml hv
  obtain ⟨rfl, hP, hK⟩ := hv
  have hx := B.exec
  have hb := B.bytes
  have hr := B.returns
  have hts := atoms_spec (ws := Cond.code yX12_find cX12_find 5 (some .int) :: wsL_law) B.pre
  have htw : ∀ w ∈ wsL_law, w.before _ s = true := fun w h => hts w (List.mem_cons_of_mem _ h)
  have hown : s.vm.findClass RX12 = some m.cls := findClass_of_methodNamed B.named
  have hlocks := B.notSynchronized
  have hl := lv_entry ([.ref na, .int 0, .int a0, .int a1]) (n := 5) (Nat.le_of_ble_eq_true rfl)
  rw [lg_entry_eq]
  generalize (lg_sl ([.ref na, .int 0, .int a0, .int a1]) ++ List.replicate (5 - (lg_sl ([.ref na, .int 0, .int a0, .int a1])).length) Slot.unset).toArray = ls at hl ⊢
  have hl : lv_has ls 5 [(0, .ref na), (1, .int 0), (2, .int a0), (3, .int a1)] := hl
  refine lv_iconst (v := 0) hx hb dX12_find_0 (by decide) ?_
  refine lv_istore (lv' := [(4, .int 0), (0, .ref na), (1, .int 0), (2, .int a0), (3, .int a1)]) hx hb dX12_find_1 hl (by decide) rfl (fun ls hl => ?_)
  have hloop_1 : ∀ (n : Nat) (L4d : Int32) (h0_d : ¬ L4d < 0) (hf_d : a0.toInt ≤ L4d.toInt + (n : Int)) (hI_d : fq_find12_0 f_na a0 a1 = fq_find12_0_d f_na a0 a1 n L4d) (ls : Array Slot) (hl : lv_has ls 5 [(4, .int L4d), (0, .ref na), (1, .int 0), (2, .int a0), (3, .int a1)]), W p l e (headSpec (Cond.code yX12_find cX12_find 5 (some .int) :: wsL_law) ({ frames := 0, cells := 0, slots := 0, locals := 0 })).room s m ([.ref na, .int 0, .int a0, .int a1] : List Value).toArray below meth c s.heap [] 0 0 (MQ below (vp_Si (fun r => (r = fq_find12_0 f_na a0 a1) ∧ (r < a0) ∧ (¬ r < (-1)))) ([.ref na, .int 0, .int a0, .int a1] : List Value).toArray s 0 0 (fun _ => False)) (F0 m 3 ls []) := by
    intro n
    induction n with
    | zero =>
      intro L4d h0_d hf_d hI_d ls hl
      refine lv_iload hx hb dX12_find_3 (lv_at hl 0 rfl) ?_
      refine lv_iload_n hx hb dX12_find_5 rfl (lv_at hl 3 rfl) ?_
      refine lv_icmp_ge (tgt := 28) hx hb dX12_find_6 (by decide) (fun c_2 => ?_) (fun c_2 => absurd c_2 (fun h => h (xi_z hf_d)))
      refine lv_iconst (v := (-1)) hx hb dX12_find_28 (by decide) ?_
      exact W.iret (v := (-1)) hx hb hr (fun t ht hW => ⟨(-1), rfl, ⟨(Eq.symm (hI_d.trans (by rw [fq_find12_0_d]; try rfl))), (gq_find12_0_s0 (y0 := a0) (y1 := L4d) c_2 h0_d hn0 hn4), (gq_find12_0_s1 )⟩, ht⟩) (fun _ h => by cases h) dX12_find_29
    | succ n ih =>
      intro L4d h0_d hf_d hI_d ls hl
      refine lv_iload hx hb dX12_find_3 (lv_at hl 0 rfl) ?_
      refine lv_iload_n hx hb dX12_find_5 rfl (lv_at hl 3 rfl) ?_
      refine lv_icmp_ge (tgt := 28) hx hb dX12_find_6 (by decide) (fun c_3 => ?_) (fun c_3 => ?_)
      · refine lv_iconst (v := (-1)) hx hb dX12_find_28 (by decide) ?_
        exact W.iret (v := (-1)) hx hb hr (fun t ht hW => ⟨(-1), rfl, ⟨(Eq.symm (hI_d.trans (by rw [fq_find12_0_d]; (try rw [if_pos c_3]); try rfl))), (gq_find12_0_s2 (y0 := a0) (y1 := L4d) c_3 h0_d hn0 hn4), (gq_find12_0_s3 )⟩, ht⟩) (fun _ h => by cases h) dX12_find_29
      · refine lv_aload_n hx hb dX12_find_9 rfl (lv_at hl 1 rfl) ?_
        refine lv_iload_n hx hb dX12_find_10 rfl (lv_at hl 2 rfl) ?_
        refine lv_iload hx hb dX12_find_11 (lv_at hl 0 rfl) ?_
        refine lv_iadd hx hb dX12_find_13 ?_
        refine va_iald hx hb hK hP 0 0 rfl rfl (xg_inr (N := 12) rfl (gq_find12_0_s4 (y0 := L4d) (y1 := a0) c_3 h0_d hn0 hn4).1 (gq_find12_0_s4 (y0 := L4d) (y1 := a0) c_3 h0_d hn0 hn4).2) dX12_find_14 ?_
        refine lv_iload_n hx hb dX12_find_15 rfl (lv_at hl 4 rfl) ?_
        refine lv_icmp_ne (tgt := 22) hx hb dX12_find_16 (by decide) (fun c_4 => ?_) (fun c_4 => ?_)
        · refine lv_iinc (v := (L4d + 1)) (lv' := [(4, .int (L4d + 1)), (0, .ref na), (1, .int 0), (2, .int a0), (3, .int a1)]) hx hb dX12_find_22 hl (k := 0) rfl (rfl) (by decide) rfl (fun ls hl => ?_)
          refine lv_goto (tgt := 3) hx hb dX12_find_25 (by decide) ?_
          exact ih (L4d + 1) (gq_find12_0_s5 (y0 := L4d) (y1 := a0) c_3 h0_d hn0 hn4) (by rw [xi_s' c_3]; omega) (hI_d.trans (by rw [fq_find12_0_d]; (try rw [if_neg c_3]); (try rw [if_neg c_4]); try rfl)) ls (lv_sub hl [0, 1, 2, 3, 4] rfl)
        · refine lv_iload hx hb dX12_find_19 (lv_at hl 0 rfl) ?_
          exact W.iret (v := L4d) hx hb hr (fun t ht hW => ⟨L4d, rfl, ⟨(Eq.symm (hI_d.trans (by rw [fq_find12_0_d]; (try rw [if_neg c_3]); (try rw [if_pos c_4]); try rfl))), (gq_find12_0_s6 (y0 := L4d) (y1 := a0) c_3 h0_d hn0 hn4), (gq_find12_0_s7 (y0 := L4d) (y1 := a0) c_3 h0_d hn0 hn4)⟩, ht⟩) (fun _ h => by cases h) dX12_find_21
  exact hloop_1 6 (0 : Int32) (gq_find12_0_s8 ) (by have := xi_le hn4; have e9 : (6 : Int32).toInt = 6 := rfl; have e0 : (0 : Int32).toInt = 0 := rfl; omega) ((by rw [fq_find12_0])) ls (lv_sub hl [0, 1, 2, 3, 4] rfl)

def fq_newName8 (f_tape : Nat → Int32) (f_words : Nat → Int32) (f_na : Nat → Int32) (a0 : Int32) (m_fault : Int32) (m_faultPlace : Int32) (m_stop : Int32) (m_next : Int32) (m_kind : Int32) (m_which : Int32) (m_at : Int32) : Int32 × (Nat → Int32) × (Int32) × (Int32) × (Int32) × (Int32) × (Int32) × (Int32) := (if m_kind = 2 then (xL ((fq_find8_4 f_na a0 m_which)) (fun r_2 => (if r_2 < 0 then (xL ((fq_token f_tape f_words m_stop m_next m_which)) (fun u_8 => ((1 : Int32), (upd f_na ((4 + a0).toNatClampNeg) m_which), u_8.1, u_8.2.1, u_8.2.2.1, u_8.2.2.2, m_fault, m_faultPlace))) else (xL ((fq_wrong (3 : Int32) m_at)) (fun X_20 => (X_20.1, f_na, m_next, m_kind, m_which, m_at, X_20.2.1, X_20.2.2)))))) else (xL ((fq_wrong (1 : Int32) m_at)) (fun X_26 => (X_26.1, f_na, m_next, m_kind, m_which, m_at, X_26.2.1, X_26.2.2))))
theorem gq_newName8_s0 {y0 : Int32} (h0 : ¬ (y0 < 0)) (h1 : y0 < 4) : y0 ≤ 4 := by lia
theorem gq_newName8_s1 {y0 : Int32} {y1 : Int32} (h0 : y1 < 0) (h1 : y1 < y0) (h2 : ¬ (y1 < (-1))) (h3 : ¬ (y0 < 0)) (h4 : y0 < 4) : ¬ ((4 + y0) < 0) ∧ ¬ (8 ≤ (4 + y0)) := by lia
theorem gq_newName8_s2 {y0 : Int32} {y1 : Int32} {y2 : Int32} (h0 : ¬ (y0 < 0)) (h1 : y0 ≤ y1) (h2 : ¬ (y2 < 0)) (h3 : y2 ≤ y1) (h4 : y1 ≤ 900) : ¬ (y0 < 0) := gq_number_s0 h0 h1 h2 h3 h4
theorem gq_newName8_s3 {y0 : Int32} {y1 : Int32} {y2 : Int32} (h0 : ¬ (y0 < 0)) (h1 : y0 ≤ y1) (h2 : ¬ (y2 < 0)) (h3 : y2 ≤ y1) (h4 : y1 ≤ 900) : y0 ≤ y1 := gq_number_s1 h0 h1 h2 h3 h4
theorem gq_newName8_s4 {y0 : Int32} {y1 : Int32} (h0 : ¬ (y0 < 0)) (h1 : y0 ≤ y1) (h2 : y1 ≤ 900) : ¬ (y0 < 0) := h0
theorem gq_newName8_s5 {y0 : Int32} {y1 : Int32} (h0 : ¬ (y0 < 0)) (h1 : y0 ≤ y1) (h2 : y1 ≤ 900) : y0 ≤ y1 := h1
theorem gq_newName8_s6 {y0 : Int32} {y1 : Int32} (h0 : ¬ (y0 < 0)) (h1 : y0 ≤ y1) (h2 : y1 ≤ 900) : ¬ (y0 < 0) := h0
theorem gq_newName8_s7 {y0 : Int32} {y1 : Int32} (h0 : ¬ (y0 < 0)) (h1 : y0 ≤ y1) (h2 : y1 ≤ 900) : y0 ≤ y1 := h1
theorem dX12_newName_0 : decode cX12_newName 0 = .ok (.aload_n 0, 1) := zk_42 (by decide +kernel)
theorem dX12_newName_1 : decode cX12_newName 1 = .ok (.getfield 139, 3) := zk_180 (by decide +kernel)
theorem dX12_newName_4 : decode cX12_newName 4 = .ok (.iconst 2, 1) := zk_5 (by decide +kernel)
theorem dX12_newName_5 : decode cX12_newName 5 = .ok (.if_icmp .eq 9, 3) := zk_159 (by decide +kernel)
theorem dX12_newName_14 : decode cX12_newName 14 = .ok (.aload_n 1, 1) := zk_43 (by decide +kernel)
theorem dX12_newName_15 : decode cX12_newName 15 = .ok (.iload_n 2, 1) := zk_28 (by decide +kernel)
theorem dX12_newName_16 : decode cX12_newName 16 = .ok (.iload_n 3, 1) := zk_29 (by decide +kernel)
theorem dX12_newName_17 : decode cX12_newName 17 = .ok (.aload_n 0, 1) := zk_42 (by decide +kernel)
theorem dX12_newName_18 : decode cX12_newName 18 = .ok (.getfield 150, 3) := zk_180 (by decide +kernel)
theorem dX12_newName_21 : decode cX12_newName 21 = .ok (.invokestatic 255, 3) := zk_184 (by decide +kernel)
theorem dX12_newName_24 : decode cX12_newName 24 = .ok (.ifCond .lt 9, 3) := zk_155 (by decide +kernel)
theorem dX12_newName_33 : decode cX12_newName 33 = .ok (.aload_n 1, 1) := zk_43 (by decide +kernel)
theorem dX12_newName_34 : decode cX12_newName 34 = .ok (.iload_n 2, 1) := zk_28 (by decide +kernel)
theorem dX12_newName_35 : decode cX12_newName 35 = .ok (.iload_n 3, 1) := zk_29 (by decide +kernel)
theorem dX12_newName_36 : decode cX12_newName 36 = .ok (.iadd, 1) := zk_96 (by decide +kernel)
theorem dX12_newName_37 : decode cX12_newName 37 = .ok (.aload_n 0, 1) := zk_42 (by decide +kernel)
theorem dX12_newName_38 : decode cX12_newName 38 = .ok (.getfield 150, 3) := zk_180 (by decide +kernel)
theorem dX12_newName_41 : decode cX12_newName 41 = .ok (.iastore, 1) := zk_79 (by decide +kernel)
theorem dX12_newName_42 : decode cX12_newName 42 = .ok (.aload_n 0, 1) := zk_42 (by decide +kernel)
theorem dX12_newName_43 : decode cX12_newName 43 = .ok (.invokevirtual 173, 3) := zk_182 (by decide +kernel)
theorem dX12_newName_46 : decode cX12_newName 46 = .ok (.iconst 1, 1) := zk_4 (by decide +kernel)
theorem dX12_newName_47 : decode cX12_newName 47 = .ok (.ireturn, 1) := zk_172 (by decide +kernel)
theorem dX12_newName_27 : decode cX12_newName 27 = .ok (.aload_n 0, 1) := zk_42 (by decide +kernel)
theorem dX12_newName_28 : decode cX12_newName 28 = .ok (.iconst 3, 1) := zk_6 (by decide +kernel)
theorem dX12_newName_29 : decode cX12_newName 29 = .ok (.invokevirtual 163, 3) := zk_182 (by decide +kernel)
theorem dX12_newName_32 : decode cX12_newName 32 = .ok (.ireturn, 1) := zk_172 (by decide +kernel)
theorem dX12_newName_8 : decode cX12_newName 8 = .ok (.aload_n 0, 1) := zk_42 (by decide +kernel)
theorem dX12_newName_9 : decode cX12_newName 9 = .ok (.iconst 1, 1) := zk_4 (by decide +kernel)
theorem dX12_newName_10 : decode cX12_newName 10 = .ok (.invokevirtual 163, 3) := zk_182 (by decide +kernel)
theorem dX12_newName_13 : decode cX12_newName 13 = .ok (.ireturn, 1) := zk_172 (by decide +kernel)
set_option maxHeartbeats 4000000 in
set_option maxRecDepth 100000 in
theorem gq_newName8 (l : Launch) (dC : Nat → ClassId) (dI : Nat → Nat → Nat) (mq : Nat) (g : Nat → Int32) (gl : Nat → Int64) (rf : Nat → Nat) (ck : Nat → ClassId) (f_tape : Nat → Int32) (f_words : Nat → Int32) (na : Nat) (cNa : ClassId) (f_na : Nat → Int32) (a0 : Int32) (sz : Nat) (h0n : ¬ (g 7) < 0) (hns : (g 7) ≤ (g 6)) (hs9 : (g 6) ≤ 900) (hw7 : (f_words 117) = 32) (hn0 : ¬ a0 < 0) (hn4 : a0 < 4) : Met l yX12_newName (Cond.code yX12_newName cX12_newName 4 (some .boolean) :: wsL_law) ({ frames := 2, cells := 0, slots := 0, locals := 47 }) (va_Pc [.ref mq, .ref na, .int 4, .int a0] (fun U => U.heap.size = sz ∧ va_P (dC, dI) vwCl [(mq, .inr (12, mF g gl rf)), (eA0 (rf 0) (ck 0) 900 f_tape), (eA0 (rf 3) (ck 3) 118 f_words), (eA0 na cNa 8 f_na)] U.heap ∧ va_K (dC, dI) vwCl [((ck 0), .int), ((ck 3), .int), (cNa, .int)] U ∧ va_D (fun _ => True) [(mq, .inr (12, mF g gl rf)), (eA0 (rf 0) (ck 0) 900 f_tape), (eA0 (rf 3) (ck 3) 118 f_words), (eA0 na cNa 8 f_na)])) (va_Qi (fun (r : Int32) (u : (Nat → Int32) × (Int32) × (Int32) × (Int32) × (Int32) × (Int32) × (Int32)) => (r = (fq_newName8 f_tape f_words f_na a0 (g 4) (g 5) (g 6) (g 7) (g 8) (g 9) (g 10)).1 ∧ u = (fq_newName8 f_tape f_words f_na a0 (g 4) (g 5) (g 6) (g 7) (g 8) (g 9) (g 10)).2) ∧ (r = 0 ∨ r = 1) ∧ (¬ u.2.1 < 0) ∧ (u.2.1 ≤ (g 6))) (fun (u : (Nat → Int32) × (Int32) × (Int32) × (Int32) × (Int32) × (Int32) × (Int32)) t => va_P (dC, dI) vwCl [(mq, .inr (12, mF (upd (upd (upd (upd (upd (upd g 4 u.2.2.2.2.2.1) 5 u.2.2.2.2.2.2) 7 u.2.1) 8 u.2.2.1) 9 u.2.2.2.1) 10 u.2.2.2.2.1) gl rf)), (eA0 (rf 0) (ck 0) 900 f_tape), (eA0 (rf 3) (ck 3) 118 f_words), (eA0 na cNa 8 u.1)] t.heap ∧ va_K (dC, dI) vwCl [] t ∧ va_D (va_A [(mq, .inr (12, mF g gl rf)), (eA0 (rf 0) (ck 0) 900 f_tape), (eA0 (rf 3) (ck 3) 118 f_words), (eA0 na cNa 8 f_na)] sz) [(mq, .inr (12, mF (upd (upd (upd (upd (upd (upd g 4 u.2.2.2.2.2.1) 5 u.2.2.2.2.2.2) 7 u.2.1) 8 u.2.2.1) 9 u.2.2.2.1) 10 u.2.2.2.2.1) gl rf)), (eA0 (rf 0) (ck 0) 900 f_tape), (eA0 (rf 3) (ck 3) 118 f_words), (eA0 na cNa 8 u.1)]) (va_A [(mq, .inr (12, mF g gl rf)), (eA0 (rf 0) (ck 0) 900 f_tape), (eA0 (rf 3) (ck 3) 118 f_words), (eA0 na cNa 8 f_na)] sz)) 0 0 (va_A [(mq, .inr (12, mF g gl rf)), (eA0 (rf 0) (ck 0) 900 f_tape), (eA0 (rf 3) (ck 3) 118 f_words), (eA0 na cNa 8 f_na)] sz) := by
  refine Met.ofW (cc := cX12_newName) (maxL := 4) (ret := (some .boolean)) (by decide) rfl ?_
  intro p e s m args below meth c s₁ B hml hv
  obtain ⟨rfl, hsz, hP, hK, hD0⟩ := hv
  have hx := B.exec
  have hb := B.bytes
  have hr := B.returns
  have hts := atoms_spec (ws := Cond.code yX12_newName cX12_newName 4 (some .boolean) :: wsL_law) B.pre
  have htw : ∀ w ∈ wsL_law, w.before _ s = true := fun w h => hts w (List.mem_cons_of_mem _ h)
  have hown : s.vm.findClass RX12 = some m.cls := findClass_of_methodNamed B.named
  have hlocks := B.notSynchronized
  subst hsz
  have hD := hD0.self (sz := s.heap.size)
  generalize hAe : va_A [(mq, .inr (12, mF g gl rf)), (eA0 (rf 0) (ck 0) 900 f_tape), (eA0 (rf 3) (ck 3) 118 f_words), (eA0 na cNa 8 f_na)] s.heap.size = A at hD ⊢
  have hA : ∀ q : Nat, s.heap.size ≤ q → A q := fun q h => by rw [← hAe]; exact Or.inr h
  obtain ⟨H, rH⟩ : ∃ z : Heap, z = s.heap := ⟨_, rfl⟩
  have hS : va_S A s.heap H [] := by rw [rH]; exact va_S.rf
  have hP : va_P (dC, dI) vwCl [(mq, .inr (12, mF g gl rf)), (eA0 (rf 0) (ck 0) 900 f_tape), (eA0 (rf 3) (ck 3) 118 f_words), (eA0 na cNa 8 f_na)] H := by rw [rH]; exact hP
  rw [← rH]
  have hl := lv_entry ([.ref mq, .ref na, .int 4, .int a0]) (n := 4) (Nat.le_of_ble_eq_true rfl)
  rw [lg_entry_eq]
  generalize (lg_sl ([.ref mq, .ref na, .int 4, .int a0]) ++ List.replicate (4 - (lg_sl ([.ref mq, .ref na, .int 4, .int a0])).length) Slot.unset).toArray = ls at hl ⊢
  have hl : lv_has ls 4 [(0, .ref mq), (1, .ref na), (2, .int 4), (3, .int a0)] := hl
  refine lv_aload_n hx hb dX12_newName_0 rfl (lv_at hl 0 rfl) ?_
  refine va_get (D := (dC, dI)) (ci := 12) (v := .int (g 8)) (C := RX12) (T := TX12) (N := 76) hx hb htw inlX12 hown hK hP 0 rfl rfl 8 (by decide) (htw _ (ck_24 _ (List.mem_of_getElem? (i := 13) rfl))) (fun _ h9 => h9) rfl dX12_newName_1 ?_
  refine lv_iconst (v := 2) hx hb dX12_newName_4 (by decide) ?_
  refine lv_icmp_eq (tgt := 14) hx hb dX12_newName_5 (by decide) (fun c_1 => ?_) (fun c_1 => ?_)
  · refine lv_aload_n hx hb dX12_newName_14 rfl (lv_at hl 1 rfl) ?_
    refine lv_iload_n hx hb dX12_newName_15 rfl (lv_at hl 2 rfl) ?_
    refine lv_iload_n hx hb dX12_newName_16 rfl (lv_at hl 3 rfl) ?_
    refine lv_aload_n hx hb dX12_newName_17 rfl (lv_at hl 0 rfl) ?_
    refine va_get (D := (dC, dI)) (ci := 12) (v := .int (g 9)) (C := RX12) (T := TX12) (N := 76) hx hb htw inlX12 hown hK hP 0 rfl rfl 9 (by decide) (htw _ (ck_24 _ (List.mem_of_getElem? (i := 19) rfl))) (fun _ h9 => h9) rfl dX12_newName_18 ?_
    have hPc := hP.sub (ws' := [(eA0 na cNa 8 f_na)]) [3] rfl
    have hKc := hK.sub (tys' := [(cNa, .int)]) [2] rfl
    refine vp_callSi (W.runS (As := [.ref na, .int 4, .int a0, .int (g 9)]) (rest := []) ⟨hx, hb, hml, hown, htw⟩ (gq_find8_4 l dC dI na cNa f_na a0 (g 9) hn0 (gq_newName8_s0 (y0 := a0) hn0 hn4)) (va_cwS 4 htw (xg_S (ck_26 _ (List.mem_of_getElem? (i := 10) rfl)) (ck_26 _ (List.mem_of_getElem? (i := 11) rfl)) (ck_1 _ (List.mem_of_getElem? (i := 5) rfl)) (ck_26 _ (List.mem_of_getElem? (i := 12) rfl))) rfl rfl rfl (by exact ⟨hdc_14.1, hdc_14.2, hdd_39⟩) ⟨Nat.le_of_ble_eq_true rfl, Nat.le_of_ble_eq_true rfl⟩) ⟨fun a U g mk q => by obtain ⟨q0, qP, qK⟩ := q; exact ⟨q0, qP, va_K.moved (u := U) (U := U.calling g mk a) (Vm.Alike.refl U.vm) qK⟩, fun U hU hW => ⟨rfl, by rw [hU]; exact hPc, va_K.moved hW.alike hKc⟩⟩ rfl rfl hl.1 rfl (lv_room (Nat.le_of_ble_eq_true rfl)) dX12_newName_21 ⟨Nat.le_of_ble_eq_true rfl, Nat.le_of_ble_eq_true rfl⟩) (fun r_2 hw => ?_)
    try dsimp only at hw
    obtain ⟨hw, hp_3, hp_4⟩ := hw
    have hq_r_2 : r_2 = (fq_find8_4 f_na a0 (g 9)) := hw
    refine lv_if_lt (tgt := 33) hx hb dX12_newName_24 (by decide) (fun c_5 => ?_) (fun c_5 => ?_)
    · refine lv_aload_n hx hb dX12_newName_33 rfl (lv_at hl 1 rfl) ?_
      refine lv_iload_n hx hb dX12_newName_34 rfl (lv_at hl 2 rfl) ?_
      refine lv_iload_n hx hb dX12_newName_35 rfl (lv_at hl 3 rfl) ?_
      refine lv_iadd hx hb dX12_newName_36 ?_
      refine lv_aload_n hx hb dX12_newName_37 rfl (lv_at hl 0 rfl) ?_
      refine va_get (D := (dC, dI)) (ci := 12) (v := .int (g 9)) (C := RX12) (T := TX12) (N := 76) hx hb htw inlX12 hown hK hP 0 rfl rfl 9 (by decide) (htw _ (ck_24 _ (List.mem_of_getElem? (i := 19) rfl))) (fun _ h9 => h9) rfl dX12_newName_38 ?_
      refine va_iast hx hb hK hP hD hS 3 2 rfl rfl (xg_inr (N := 8) rfl (gq_newName8_s1 (y0 := a0) (y1 := r_2) c_5 hp_3 hp_4 hn0 hn4).1 (gq_newName8_s1 (y0 := a0) (y1 := r_2) c_5 hp_3 hp_4 hn0 hn4).2) dX12_newName_41 (fun H locs hP hD hS => ?_)
      obtain ⟨hP, hD⟩ := zre [(mq, .inr (12, mF g gl rf)), (eA0 (rf 0) (ck 0) 900 f_tape), (eA0 (rf 3) (ck 3) 118 f_words), (eA0 na cNa 8 (upd f_na ((4 + a0).toNatClampNeg) (g 9)))] hP hD rfl
      refine lv_aload_n hx hb dX12_newName_42 rfl (lv_at hl 0 rfl) ?_
      obtain ⟨hPc, hDc, hFc, hCc⟩ := zsub3 (ws' := [(mq, .inr (12, mF g gl rf)), (eA0 (rf 0) (ck 0) 900 f_tape), (eA0 (rf 3) (ck 3) 118 f_words)]) hP hD hS hA [0, 1, 2] (by decide) rfl
      have hKc := hK.sub (tys' := [((ck 0), .int), ((ck 3), .int)]) [0, 1] rfl
      refine va_callv (va_runV (As := []) (rest := []) ⟨hx, hb, hml, hown, htw⟩ (gq_token l dC dI mq g gl rf ck f_tape f_words H.size h0n hns hs9 hw7) (cwV 0 htw (xg_V (ck_24 _ (List.mem_of_getElem? (i := 14) rfl)) (ck_24 _ (List.mem_of_getElem? (i := 15) rfl)) (ck_24 _ (List.mem_of_getElem? (i := 16) rfl)) (ck_1 _ (List.mem_of_getElem? (i := 5) rfl)) (ck_24 _ (List.mem_of_getElem? (i := 17) rfl))) rfl rfl rfl (by exact ⟨rfl, hdc_14.1, hdc_14.2, hdd_13⟩) ⟨Nat.le_of_ble_eq_true rfl, Nat.le_of_ble_eq_true rfl⟩) ⟨fun a U g mk q => by obtain ⟨q0, q1, qP, qK, qD⟩ := q; exact ⟨q0, q1, qP, va_K.moved (u := U) (U := U.calling g mk a) (Vm.Alike.refl U.vm) qK, qD⟩, va_recv hKc hPc (ci := 12) (q0 := 0) rfl rfl, fun U hU hW => ⟨rfl, by rw [hU], by rw [hU]; exact hPc, va_K.moved hW.alike hKc, hDc.weaken (fun _ _ _ _ => trivial)⟩⟩ rfl rfl hl.1 rfl (lv_room (Nat.le_of_ble_eq_true rfl)) dX12_newName_43 ⟨Nat.le_of_ble_eq_true rfl, Nat.le_of_ble_eq_true rfl⟩) hS (fun q _ h => hFc q h) hFc (fun u_8 t H1 locs ht hvm hw hB hz1 hk1 hS => ?_)
      try dsimp only at hw
      obtain ⟨hP1, hK1, hD1⟩ := hB
      rw [ht] at hP1
      have hK1 := va_K.moved hvm.symm hK1
      have hK1 : va_K (dC, dI) vwCl [] s := hK1
      obtain ⟨hP, hD⟩ := va_join (wr := [(eA0 na cNa 8 (upd f_na ((4 + a0).toNatClampNeg) (g 9)))]) (w1 := [(mq, .inr (12, mF (upd (upd (upd (upd g 7 u_8.1) 8 u_8.2.1) 9 u_8.2.2.1) 10 u_8.2.2.2) gl rf)), (eA0 (rf 0) (ck 0) 900 f_tape), (eA0 (rf 3) (ck 3) 118 f_words)]) hP hD [0, 1, 2] [3] hCc rfl (by decide) (by decide) hk1 hFc hP1 hD1
      generalize H1 = H at hP hS ⊢
      have hP : va_P (dC, dI) vwCl [(eA0 na cNa 8 (upd f_na ((4 + a0).toNatClampNeg) (g 9))), (mq, .inr (12, mF (upd (upd (upd (upd g 7 u_8.1) 8 u_8.2.1) 9 u_8.2.2.1) 10 u_8.2.2.2) gl rf)), (eA0 (rf 0) (ck 0) 900 f_tape), (eA0 (rf 3) (ck 3) 118 f_words)] H := hP
      have hD : va_D A [(eA0 na cNa 8 (upd f_na ((4 + a0).toNatClampNeg) (g 9))), (mq, .inr (12, mF (upd (upd (upd (upd g 7 u_8.1) 8 u_8.2.1) 9 u_8.2.2.1) 10 u_8.2.2.2) gl rf)), (eA0 (rf 0) (ck 0) 900 f_tape), (eA0 (rf 3) (ck 3) 118 f_words)] := hD
      refine W.widen (k := 0) (n := 0) (by omega) (by omega) ?_
      obtain ⟨hw, hp_13, hp_14⟩ := hw
      have hq_u_8 : u_8 = (fq_token f_tape f_words (g 6) (g 7) (g 9)) := hw
      refine lv_iconst (v := 1) hx hb dX12_newName_46 (by decide) ?_
      refine W.widen (k := 0) (n := 0) (by omega) (by omega) ?_
      obtain ⟨hP9, hD9⟩ := zsub2 (ws' := [(mq, .inr (12, mF (upd (upd (upd (upd g 7 u_8.1) 8 u_8.2.1) 9 u_8.2.2.1) 10 u_8.2.2.2) gl rf)), (eA0 (rf 0) (ck 0) 900 f_tape), (eA0 (rf 3) (ck 3) 118 f_words), (eA0 na cNa 8 (upd f_na ((4 + a0).toNatClampNeg) (g 9)))]) hP hD [1, 2, 3, 0] (by decide) rfl
      have hK9 := hK.sub (tys' := []) [] rfl
      exact W.zret (v := 1) hx hb hr (by first | rfl | decide) (fun t ht hW => ⟨⟨1, ((upd f_na ((4 + a0).toNatClampNeg) (g 9)), u_8.1, u_8.2.1, u_8.2.2.1, u_8.2.2.2, (g 4), (g 5)), rfl, ⟨((fun e9 => ⟨by rw [e9], by rw [e9]⟩ : fq_newName8 f_tape f_words f_na a0 (g 4) (g 5) (g 6) (g 7) (g 8) (g 9) (g 10) = ((1 : Int32), (upd f_na ((4 + a0).toNatClampNeg) (g 9)), u_8.1, u_8.2.1, u_8.2.2.1, u_8.2.2.2, (g 4), (g 5)) → _) ((by rw [fq_newName8]; (try rw [if_pos c_1]); (try rw [← hq_r_2]); (try rw [xL_eq]); (try rw [if_pos c_5]); (try rw [← hq_u_8]); (try rw [xL_eq]); try rfl))), Or.inr rfl, (gq_newName8_s2 (y0 := u_8.1) (y1 := g 6) (y2 := g 7) hp_13 hp_14 h0n hns hs9), (gq_newName8_s3 (y0 := u_8.1) (y1 := g 6) (y2 := g 7) hp_13 hp_14 h0n hns hs9)⟩, by rw [ht]; exact hP9, va_K.moved hW.alike hK9, hD9⟩, hS.F ht⟩) hS.2.2 dX12_newName_47
    · refine lv_aload_n hx hb dX12_newName_27 rfl (lv_at hl 0 rfl) ?_
      refine lv_iconst (v := 3) hx hb dX12_newName_28 (by decide) ?_
      obtain ⟨hPc, hDc, hFc, hCc⟩ := zsub3 (ws' := [(mq, .inr (12, mF g gl rf))]) hP hD hS hA [0] (by decide) rfl
      have hKc := hK.sub (tys' := []) [] rfl
      refine va_calli (va_runV (As := [.int 3]) (rest := []) ⟨hx, hb, hml, hown, htw⟩ (gq_wrong l dC dI mq g gl rf (3 : Int32) H.size) (cwV 1 htw (xg_V (ck_25 _ (List.mem_of_getElem? (i := 21) rfl)) (ck_25 _ (List.mem_of_getElem? (i := 22) rfl)) (ck_25 _ (List.mem_of_getElem? (i := 23) rfl)) (ck_1 _ (List.mem_of_getElem? (i := 5) rfl)) (ck_26 _ (List.mem_of_getElem? (i := 0) rfl))) rfl rfl rfl (by exact ⟨rfl, hdc_14.1, hdc_14.2, hdd_26⟩) ⟨Nat.le_of_ble_eq_true rfl, Nat.le_of_ble_eq_true rfl⟩) ⟨fun a U g mk q => by obtain ⟨q0, q1, qP, qK, qD⟩ := q; exact ⟨q0, q1, qP, va_K.moved (u := U) (U := U.calling g mk a) (Vm.Alike.refl U.vm) qK, qD⟩, va_recv hKc hPc (ci := 12) (q0 := 0) rfl rfl, fun U hU hW => ⟨rfl, by rw [hU], by rw [hU]; exact hPc, va_K.moved hW.alike hKc, hDc.weaken (fun _ _ _ _ => trivial)⟩⟩ rfl rfl hl.1 rfl (lv_room (Nat.le_of_ble_eq_true rfl)) dX12_newName_29 ⟨Nat.le_of_ble_eq_true rfl, Nat.le_of_ble_eq_true rfl⟩) hS (fun q _ h => hFc q h) hFc (fun r_15 u_16 t H1 locs ht hvm hw hB hz1 hk1 hS => ?_)
      try dsimp only at hw
      obtain ⟨hP1, hK1, hD1⟩ := hB
      rw [ht] at hP1
      have hK1 := va_K.moved hvm.symm hK1
      have hK1 : va_K (dC, dI) vwCl [] s := hK1
      obtain ⟨hP, hD⟩ := va_join (wr := [(eA0 (rf 0) (ck 0) 900 f_tape), (eA0 (rf 3) (ck 3) 118 f_words), (eA0 na cNa 8 f_na)]) (w1 := [(mq, .inr (12, mF (upd (upd g 4 u_16.1) 5 u_16.2) gl rf))]) hP hD [0] [1, 2, 3] hCc rfl (by decide) (by decide) hk1 hFc hP1 hD1
      generalize H1 = H at hP hS ⊢
      have hP : va_P (dC, dI) vwCl [(eA0 (rf 0) (ck 0) 900 f_tape), (eA0 (rf 3) (ck 3) 118 f_words), (eA0 na cNa 8 f_na), (mq, .inr (12, mF (upd (upd g 4 u_16.1) 5 u_16.2) gl rf))] H := hP
      have hD : va_D A [(eA0 (rf 0) (ck 0) 900 f_tape), (eA0 (rf 3) (ck 3) 118 f_words), (eA0 na cNa 8 f_na), (mq, .inr (12, mF (upd (upd g 4 u_16.1) 5 u_16.2) gl rf))] := hD
      refine W.widen (k := 0) (n := 0) (by omega) (by omega) ?_
      obtain ⟨hw, hb_r_15, hp_19⟩ := hw
      obtain ⟨X_20, hX_20⟩ : ∃ X9 : Int32 × (Int32) × (Int32), X9 = (fq_wrong (3 : Int32) (g 10)) := ⟨_, rfl⟩
      have hq_r_15 : r_15 = X_20.1 := by rw [hX_20]; exact hw.1
      have hq_u_16 : u_16 = X_20.2 := by rw [hX_20]; exact hw.2
      refine W.widen (k := 0) (n := 0) (by omega) (by omega) ?_
      obtain ⟨hP9, hD9⟩ := zsub2 (ws' := [(mq, .inr (12, mF (upd (upd g 4 u_16.1) 5 u_16.2) gl rf)), (eA0 (rf 0) (ck 0) 900 f_tape), (eA0 (rf 3) (ck 3) 118 f_words), (eA0 na cNa 8 f_na)]) hP hD [3, 0, 1, 2] (by decide) rfl
      have hK9 := hK.sub (tys' := []) [] rfl
      exact W.zret (v := r_15) hx hb hr (xz_nar hb_r_15) (fun t ht hW => ⟨⟨r_15, (f_na, (g 7), (g 8), (g 9), (g 10), u_16.1, u_16.2), rfl, ⟨((fun e9 => ⟨by rw [e9], by rw [e9]⟩ : fq_newName8 f_tape f_words f_na a0 (g 4) (g 5) (g 6) (g 7) (g 8) (g 9) (g 10) = (r_15, f_na, (g 7), (g 8), (g 9), (g 10), u_16.1, u_16.2) → _) ((by rw [fq_newName8]; (try rw [if_pos c_1]); (try rw [← hq_r_2]); (try rw [xL_eq]); (try rw [if_neg c_5]); (try rw [← hX_20]); (try rw [xL_eq]); (try rw [← hq_r_15]); (try rw [← hq_u_16]); try rfl))), hb_r_15, (gq_newName8_s4 (y0 := g 7) (y1 := g 6) h0n hns hs9), (gq_newName8_s5 (y0 := g 7) (y1 := g 6) h0n hns hs9)⟩, by rw [ht]; exact hP9, va_K.moved hW.alike hK9, hD9⟩, hS.F ht⟩) hS.2.2 dX12_newName_32
  · refine lv_aload_n hx hb dX12_newName_8 rfl (lv_at hl 0 rfl) ?_
    refine lv_iconst (v := 1) hx hb dX12_newName_9 (by decide) ?_
    obtain ⟨hPc, hDc, hFc, hCc⟩ := zsub3 (ws' := [(mq, .inr (12, mF g gl rf))]) hP hD hS hA [0] (by decide) rfl
    have hKc := hK.sub (tys' := []) [] rfl
    refine va_calli (va_runV (As := [.int 1]) (rest := []) ⟨hx, hb, hml, hown, htw⟩ (gq_wrong l dC dI mq g gl rf (1 : Int32) H.size) (cwV 1 htw (xg_V (ck_25 _ (List.mem_of_getElem? (i := 21) rfl)) (ck_25 _ (List.mem_of_getElem? (i := 22) rfl)) (ck_25 _ (List.mem_of_getElem? (i := 23) rfl)) (ck_1 _ (List.mem_of_getElem? (i := 5) rfl)) (ck_26 _ (List.mem_of_getElem? (i := 0) rfl))) rfl rfl rfl (by exact ⟨rfl, hdc_14.1, hdc_14.2, hdd_26⟩) ⟨Nat.le_of_ble_eq_true rfl, Nat.le_of_ble_eq_true rfl⟩) ⟨fun a U g mk q => by obtain ⟨q0, q1, qP, qK, qD⟩ := q; exact ⟨q0, q1, qP, va_K.moved (u := U) (U := U.calling g mk a) (Vm.Alike.refl U.vm) qK, qD⟩, va_recv hKc hPc (ci := 12) (q0 := 0) rfl rfl, fun U hU hW => ⟨rfl, by rw [hU], by rw [hU]; exact hPc, va_K.moved hW.alike hKc, hDc.weaken (fun _ _ _ _ => trivial)⟩⟩ rfl rfl hl.1 rfl (lv_room (Nat.le_of_ble_eq_true rfl)) dX12_newName_10 ⟨Nat.le_of_ble_eq_true rfl, Nat.le_of_ble_eq_true rfl⟩) hS (fun q _ h => hFc q h) hFc (fun r_21 u_22 t H1 locs ht hvm hw hB hz1 hk1 hS => ?_)
    try dsimp only at hw
    obtain ⟨hP1, hK1, hD1⟩ := hB
    rw [ht] at hP1
    have hK1 := va_K.moved hvm.symm hK1
    have hK1 : va_K (dC, dI) vwCl [] s := hK1
    obtain ⟨hP, hD⟩ := va_join (wr := [(eA0 (rf 0) (ck 0) 900 f_tape), (eA0 (rf 3) (ck 3) 118 f_words), (eA0 na cNa 8 f_na)]) (w1 := [(mq, .inr (12, mF (upd (upd g 4 u_22.1) 5 u_22.2) gl rf))]) hP hD [0] [1, 2, 3] hCc rfl (by decide) (by decide) hk1 hFc hP1 hD1
    generalize H1 = H at hP hS ⊢
    have hP : va_P (dC, dI) vwCl [(eA0 (rf 0) (ck 0) 900 f_tape), (eA0 (rf 3) (ck 3) 118 f_words), (eA0 na cNa 8 f_na), (mq, .inr (12, mF (upd (upd g 4 u_22.1) 5 u_22.2) gl rf))] H := hP
    have hD : va_D A [(eA0 (rf 0) (ck 0) 900 f_tape), (eA0 (rf 3) (ck 3) 118 f_words), (eA0 na cNa 8 f_na), (mq, .inr (12, mF (upd (upd g 4 u_22.1) 5 u_22.2) gl rf))] := hD
    refine W.widen (k := 0) (n := 0) (by omega) (by omega) ?_
    obtain ⟨hw, hb_r_21, hp_25⟩ := hw
    obtain ⟨X_26, hX_26⟩ : ∃ X9 : Int32 × (Int32) × (Int32), X9 = (fq_wrong (1 : Int32) (g 10)) := ⟨_, rfl⟩
    have hq_r_21 : r_21 = X_26.1 := by rw [hX_26]; exact hw.1
    have hq_u_22 : u_22 = X_26.2 := by rw [hX_26]; exact hw.2
    refine W.widen (k := 0) (n := 0) (by omega) (by omega) ?_
    obtain ⟨hP9, hD9⟩ := zsub2 (ws' := [(mq, .inr (12, mF (upd (upd g 4 u_22.1) 5 u_22.2) gl rf)), (eA0 (rf 0) (ck 0) 900 f_tape), (eA0 (rf 3) (ck 3) 118 f_words), (eA0 na cNa 8 f_na)]) hP hD [3, 0, 1, 2] (by decide) rfl
    have hK9 := hK.sub (tys' := []) [] rfl
    exact W.zret (v := r_21) hx hb hr (xz_nar hb_r_21) (fun t ht hW => ⟨⟨r_21, (f_na, (g 7), (g 8), (g 9), (g 10), u_22.1, u_22.2), rfl, ⟨((fun e9 => ⟨by rw [e9], by rw [e9]⟩ : fq_newName8 f_tape f_words f_na a0 (g 4) (g 5) (g 6) (g 7) (g 8) (g 9) (g 10) = (r_21, f_na, (g 7), (g 8), (g 9), (g 10), u_22.1, u_22.2) → _) ((by rw [fq_newName8]; (try rw [if_neg c_1]); (try rw [← hX_26]); (try rw [xL_eq]); (try rw [← hq_r_21]); (try rw [← hq_u_22]); try rfl))), hb_r_21, (gq_newName8_s6 (y0 := g 7) (y1 := g 6) h0n hns hs9), (gq_newName8_s7 (y0 := g 7) (y1 := g 6) h0n hns hs9)⟩, by rw [ht]; exact hP9, va_K.moved hW.alike hK9, hD9⟩, hS.F ht⟩) hS.2.2 dX12_newName_13

def fq_newName12 (f_tape : Nat → Int32) (f_words : Nat → Int32) (f_na : Nat → Int32) (a0 : Int32) (m_fault : Int32) (m_faultPlace : Int32) (m_stop : Int32) (m_next : Int32) (m_kind : Int32) (m_which : Int32) (m_at : Int32) : Int32 × (Nat → Int32) × (Int32) × (Int32) × (Int32) × (Int32) × (Int32) × (Int32) := (if m_kind = 2 then (xL ((fq_find12_6 f_na a0 m_which)) (fun r_2 => (if r_2 < 0 then (xL ((fq_token f_tape f_words m_stop m_next m_which)) (fun u_8 => ((1 : Int32), (upd f_na ((6 + a0).toNatClampNeg) m_which), u_8.1, u_8.2.1, u_8.2.2.1, u_8.2.2.2, m_fault, m_faultPlace))) else (xL ((fq_wrong (3 : Int32) m_at)) (fun X_20 => (X_20.1, f_na, m_next, m_kind, m_which, m_at, X_20.2.1, X_20.2.2)))))) else (xL ((fq_wrong (1 : Int32) m_at)) (fun X_26 => (X_26.1, f_na, m_next, m_kind, m_which, m_at, X_26.2.1, X_26.2.2))))
theorem gq_newName12_s0 {y0 : Int32} (h0 : ¬ (y0 < 0)) (h1 : y0 < 6) : y0 ≤ 6 := by lia
theorem gq_newName12_s1 {y0 : Int32} {y1 : Int32} (h0 : y1 < 0) (h1 : y1 < y0) (h2 : ¬ (y1 < (-1))) (h3 : ¬ (y0 < 0)) (h4 : y0 < 6) : ¬ ((6 + y0) < 0) ∧ ¬ (12 ≤ (6 + y0)) := by lia
theorem gq_newName12_s2 {y0 : Int32} {y1 : Int32} {y2 : Int32} (h0 : ¬ (y0 < 0)) (h1 : y0 ≤ y1) (h2 : ¬ (y2 < 0)) (h3 : y2 ≤ y1) (h4 : y1 ≤ 900) : ¬ (y0 < 0) := gq_number_s0 h0 h1 h2 h3 h4
theorem gq_newName12_s3 {y0 : Int32} {y1 : Int32} {y2 : Int32} (h0 : ¬ (y0 < 0)) (h1 : y0 ≤ y1) (h2 : ¬ (y2 < 0)) (h3 : y2 ≤ y1) (h4 : y1 ≤ 900) : y0 ≤ y1 := gq_number_s1 h0 h1 h2 h3 h4
theorem gq_newName12_s4 {y0 : Int32} {y1 : Int32} (h0 : ¬ (y0 < 0)) (h1 : y0 ≤ y1) (h2 : y1 ≤ 900) : ¬ (y0 < 0) := h0
theorem gq_newName12_s5 {y0 : Int32} {y1 : Int32} (h0 : ¬ (y0 < 0)) (h1 : y0 ≤ y1) (h2 : y1 ≤ 900) : y0 ≤ y1 := h1
theorem gq_newName12_s6 {y0 : Int32} {y1 : Int32} (h0 : ¬ (y0 < 0)) (h1 : y0 ≤ y1) (h2 : y1 ≤ 900) : ¬ (y0 < 0) := h0
theorem gq_newName12_s7 {y0 : Int32} {y1 : Int32} (h0 : ¬ (y0 < 0)) (h1 : y0 ≤ y1) (h2 : y1 ≤ 900) : y0 ≤ y1 := h1
set_option maxHeartbeats 4000000 in
set_option maxRecDepth 100000 in
theorem gq_newName12 (l : Launch) (dC : Nat → ClassId) (dI : Nat → Nat → Nat) (mq : Nat) (g : Nat → Int32) (gl : Nat → Int64) (rf : Nat → Nat) (ck : Nat → ClassId) (f_tape : Nat → Int32) (f_words : Nat → Int32) (na : Nat) (cNa : ClassId) (f_na : Nat → Int32) (a0 : Int32) (sz : Nat) (h0n : ¬ (g 7) < 0) (hns : (g 7) ≤ (g 6)) (hs9 : (g 6) ≤ 900) (hw7 : (f_words 117) = 32) (hn0 : ¬ a0 < 0) (hn4 : a0 < 6) : Met l yX12_newName (Cond.code yX12_newName cX12_newName 4 (some .boolean) :: wsL_law) ({ frames := 2, cells := 0, slots := 0, locals := 47 }) (va_Pc [.ref mq, .ref na, .int 6, .int a0] (fun U => U.heap.size = sz ∧ va_P (dC, dI) vwCl [(mq, .inr (12, mF g gl rf)), (eA0 (rf 0) (ck 0) 900 f_tape), (eA0 (rf 3) (ck 3) 118 f_words), (eA0 na cNa 12 f_na)] U.heap ∧ va_K (dC, dI) vwCl [((ck 0), .int), ((ck 3), .int), (cNa, .int)] U ∧ va_D (fun _ => True) [(mq, .inr (12, mF g gl rf)), (eA0 (rf 0) (ck 0) 900 f_tape), (eA0 (rf 3) (ck 3) 118 f_words), (eA0 na cNa 12 f_na)])) (va_Qi (fun (r : Int32) (u : (Nat → Int32) × (Int32) × (Int32) × (Int32) × (Int32) × (Int32) × (Int32)) => (r = (fq_newName12 f_tape f_words f_na a0 (g 4) (g 5) (g 6) (g 7) (g 8) (g 9) (g 10)).1 ∧ u = (fq_newName12 f_tape f_words f_na a0 (g 4) (g 5) (g 6) (g 7) (g 8) (g 9) (g 10)).2) ∧ (r = 0 ∨ r = 1) ∧ (¬ u.2.1 < 0) ∧ (u.2.1 ≤ (g 6))) (fun (u : (Nat → Int32) × (Int32) × (Int32) × (Int32) × (Int32) × (Int32) × (Int32)) t => va_P (dC, dI) vwCl [(mq, .inr (12, mF (upd (upd (upd (upd (upd (upd g 4 u.2.2.2.2.2.1) 5 u.2.2.2.2.2.2) 7 u.2.1) 8 u.2.2.1) 9 u.2.2.2.1) 10 u.2.2.2.2.1) gl rf)), (eA0 (rf 0) (ck 0) 900 f_tape), (eA0 (rf 3) (ck 3) 118 f_words), (eA0 na cNa 12 u.1)] t.heap ∧ va_K (dC, dI) vwCl [] t ∧ va_D (va_A [(mq, .inr (12, mF g gl rf)), (eA0 (rf 0) (ck 0) 900 f_tape), (eA0 (rf 3) (ck 3) 118 f_words), (eA0 na cNa 12 f_na)] sz) [(mq, .inr (12, mF (upd (upd (upd (upd (upd (upd g 4 u.2.2.2.2.2.1) 5 u.2.2.2.2.2.2) 7 u.2.1) 8 u.2.2.1) 9 u.2.2.2.1) 10 u.2.2.2.2.1) gl rf)), (eA0 (rf 0) (ck 0) 900 f_tape), (eA0 (rf 3) (ck 3) 118 f_words), (eA0 na cNa 12 u.1)]) (va_A [(mq, .inr (12, mF g gl rf)), (eA0 (rf 0) (ck 0) 900 f_tape), (eA0 (rf 3) (ck 3) 118 f_words), (eA0 na cNa 12 f_na)] sz)) 0 0 (va_A [(mq, .inr (12, mF g gl rf)), (eA0 (rf 0) (ck 0) 900 f_tape), (eA0 (rf 3) (ck 3) 118 f_words), (eA0 na cNa 12 f_na)] sz) := by
  refine Met.ofW (cc := cX12_newName) (maxL := 4) (ret := (some .boolean)) (by decide) rfl ?_
  intro p e s m args below meth c s₁ B hml hv
  obtain ⟨rfl, hsz, hP, hK, hD0⟩ := hv
  have hx := B.exec
  have hb := B.bytes
  have hr := B.returns
  have hts := atoms_spec (ws := Cond.code yX12_newName cX12_newName 4 (some .boolean) :: wsL_law) B.pre
  have htw : ∀ w ∈ wsL_law, w.before _ s = true := fun w h => hts w (List.mem_cons_of_mem _ h)
  have hown : s.vm.findClass RX12 = some m.cls := findClass_of_methodNamed B.named
  have hlocks := B.notSynchronized
  subst hsz
  have hD := hD0.self (sz := s.heap.size)
  generalize hAe : va_A [(mq, .inr (12, mF g gl rf)), (eA0 (rf 0) (ck 0) 900 f_tape), (eA0 (rf 3) (ck 3) 118 f_words), (eA0 na cNa 12 f_na)] s.heap.size = A at hD ⊢
  have hA : ∀ q : Nat, s.heap.size ≤ q → A q := fun q h => by rw [← hAe]; exact Or.inr h
  obtain ⟨H, rH⟩ : ∃ z : Heap, z = s.heap := ⟨_, rfl⟩
  have hS : va_S A s.heap H [] := by rw [rH]; exact va_S.rf
  have hP : va_P (dC, dI) vwCl [(mq, .inr (12, mF g gl rf)), (eA0 (rf 0) (ck 0) 900 f_tape), (eA0 (rf 3) (ck 3) 118 f_words), (eA0 na cNa 12 f_na)] H := by rw [rH]; exact hP
  rw [← rH]
  have hl := lv_entry ([.ref mq, .ref na, .int 6, .int a0]) (n := 4) (Nat.le_of_ble_eq_true rfl)
  rw [lg_entry_eq]
  generalize (lg_sl ([.ref mq, .ref na, .int 6, .int a0]) ++ List.replicate (4 - (lg_sl ([.ref mq, .ref na, .int 6, .int a0])).length) Slot.unset).toArray = ls at hl ⊢
  have hl : lv_has ls 4 [(0, .ref mq), (1, .ref na), (2, .int 6), (3, .int a0)] := hl
  refine lv_aload_n hx hb dX12_newName_0 rfl (lv_at hl 0 rfl) ?_
  refine va_get (D := (dC, dI)) (ci := 12) (v := .int (g 8)) (C := RX12) (T := TX12) (N := 76) hx hb htw inlX12 hown hK hP 0 rfl rfl 8 (by decide) (htw _ (ck_24 _ (List.mem_of_getElem? (i := 13) rfl))) (fun _ h9 => h9) rfl dX12_newName_1 ?_
  refine lv_iconst (v := 2) hx hb dX12_newName_4 (by decide) ?_
  refine lv_icmp_eq (tgt := 14) hx hb dX12_newName_5 (by decide) (fun c_1 => ?_) (fun c_1 => ?_)
  · refine lv_aload_n hx hb dX12_newName_14 rfl (lv_at hl 1 rfl) ?_
    refine lv_iload_n hx hb dX12_newName_15 rfl (lv_at hl 2 rfl) ?_
    refine lv_iload_n hx hb dX12_newName_16 rfl (lv_at hl 3 rfl) ?_
    refine lv_aload_n hx hb dX12_newName_17 rfl (lv_at hl 0 rfl) ?_
    refine va_get (D := (dC, dI)) (ci := 12) (v := .int (g 9)) (C := RX12) (T := TX12) (N := 76) hx hb htw inlX12 hown hK hP 0 rfl rfl 9 (by decide) (htw _ (ck_24 _ (List.mem_of_getElem? (i := 19) rfl))) (fun _ h9 => h9) rfl dX12_newName_18 ?_
    have hPc := hP.sub (ws' := [(eA0 na cNa 12 f_na)]) [3] rfl
    have hKc := hK.sub (tys' := [(cNa, .int)]) [2] rfl
    refine vp_callSi (W.runS (As := [.ref na, .int 6, .int a0, .int (g 9)]) (rest := []) ⟨hx, hb, hml, hown, htw⟩ (gq_find12_6 l dC dI na cNa f_na a0 (g 9) hn0 (gq_newName12_s0 (y0 := a0) hn0 hn4)) (va_cwS 4 htw (xg_S (ck_26 _ (List.mem_of_getElem? (i := 10) rfl)) (ck_26 _ (List.mem_of_getElem? (i := 11) rfl)) (ck_1 _ (List.mem_of_getElem? (i := 5) rfl)) (ck_26 _ (List.mem_of_getElem? (i := 12) rfl))) rfl rfl rfl (by exact ⟨hdc_14.1, hdc_14.2, hdd_39⟩) ⟨Nat.le_of_ble_eq_true rfl, Nat.le_of_ble_eq_true rfl⟩) ⟨fun a U g mk q => by obtain ⟨q0, qP, qK⟩ := q; exact ⟨q0, qP, va_K.moved (u := U) (U := U.calling g mk a) (Vm.Alike.refl U.vm) qK⟩, fun U hU hW => ⟨rfl, by rw [hU]; exact hPc, va_K.moved hW.alike hKc⟩⟩ rfl rfl hl.1 rfl (lv_room (Nat.le_of_ble_eq_true rfl)) dX12_newName_21 ⟨Nat.le_of_ble_eq_true rfl, Nat.le_of_ble_eq_true rfl⟩) (fun r_2 hw => ?_)
    try dsimp only at hw
    obtain ⟨hw, hp_3, hp_4⟩ := hw
    have hq_r_2 : r_2 = (fq_find12_6 f_na a0 (g 9)) := hw
    refine lv_if_lt (tgt := 33) hx hb dX12_newName_24 (by decide) (fun c_5 => ?_) (fun c_5 => ?_)
    · refine lv_aload_n hx hb dX12_newName_33 rfl (lv_at hl 1 rfl) ?_
      refine lv_iload_n hx hb dX12_newName_34 rfl (lv_at hl 2 rfl) ?_
      refine lv_iload_n hx hb dX12_newName_35 rfl (lv_at hl 3 rfl) ?_
      refine lv_iadd hx hb dX12_newName_36 ?_
      refine lv_aload_n hx hb dX12_newName_37 rfl (lv_at hl 0 rfl) ?_
      refine va_get (D := (dC, dI)) (ci := 12) (v := .int (g 9)) (C := RX12) (T := TX12) (N := 76) hx hb htw inlX12 hown hK hP 0 rfl rfl 9 (by decide) (htw _ (ck_24 _ (List.mem_of_getElem? (i := 19) rfl))) (fun _ h9 => h9) rfl dX12_newName_38 ?_
      refine va_iast hx hb hK hP hD hS 3 2 rfl rfl (xg_inr (N := 12) rfl (gq_newName12_s1 (y0 := a0) (y1 := r_2) c_5 hp_3 hp_4 hn0 hn4).1 (gq_newName12_s1 (y0 := a0) (y1 := r_2) c_5 hp_3 hp_4 hn0 hn4).2) dX12_newName_41 (fun H locs hP hD hS => ?_)
      obtain ⟨hP, hD⟩ := zre [(mq, .inr (12, mF g gl rf)), (eA0 (rf 0) (ck 0) 900 f_tape), (eA0 (rf 3) (ck 3) 118 f_words), (eA0 na cNa 12 (upd f_na ((6 + a0).toNatClampNeg) (g 9)))] hP hD rfl
      refine lv_aload_n hx hb dX12_newName_42 rfl (lv_at hl 0 rfl) ?_
      obtain ⟨hPc, hDc, hFc, hCc⟩ := zsub3 (ws' := [(mq, .inr (12, mF g gl rf)), (eA0 (rf 0) (ck 0) 900 f_tape), (eA0 (rf 3) (ck 3) 118 f_words)]) hP hD hS hA [0, 1, 2] (by decide) rfl
      have hKc := hK.sub (tys' := [((ck 0), .int), ((ck 3), .int)]) [0, 1] rfl
      refine va_callv (va_runV (As := []) (rest := []) ⟨hx, hb, hml, hown, htw⟩ (gq_token l dC dI mq g gl rf ck f_tape f_words H.size h0n hns hs9 hw7) (cwV 0 htw (xg_V (ck_24 _ (List.mem_of_getElem? (i := 14) rfl)) (ck_24 _ (List.mem_of_getElem? (i := 15) rfl)) (ck_24 _ (List.mem_of_getElem? (i := 16) rfl)) (ck_1 _ (List.mem_of_getElem? (i := 5) rfl)) (ck_24 _ (List.mem_of_getElem? (i := 17) rfl))) rfl rfl rfl (by exact ⟨rfl, hdc_14.1, hdc_14.2, hdd_13⟩) ⟨Nat.le_of_ble_eq_true rfl, Nat.le_of_ble_eq_true rfl⟩) ⟨fun a U g mk q => by obtain ⟨q0, q1, qP, qK, qD⟩ := q; exact ⟨q0, q1, qP, va_K.moved (u := U) (U := U.calling g mk a) (Vm.Alike.refl U.vm) qK, qD⟩, va_recv hKc hPc (ci := 12) (q0 := 0) rfl rfl, fun U hU hW => ⟨rfl, by rw [hU], by rw [hU]; exact hPc, va_K.moved hW.alike hKc, hDc.weaken (fun _ _ _ _ => trivial)⟩⟩ rfl rfl hl.1 rfl (lv_room (Nat.le_of_ble_eq_true rfl)) dX12_newName_43 ⟨Nat.le_of_ble_eq_true rfl, Nat.le_of_ble_eq_true rfl⟩) hS (fun q _ h => hFc q h) hFc (fun u_8 t H1 locs ht hvm hw hB hz1 hk1 hS => ?_)
      try dsimp only at hw
      obtain ⟨hP1, hK1, hD1⟩ := hB
      rw [ht] at hP1
      have hK1 := va_K.moved hvm.symm hK1
      have hK1 : va_K (dC, dI) vwCl [] s := hK1
      obtain ⟨hP, hD⟩ := va_join (wr := [(eA0 na cNa 12 (upd f_na ((6 + a0).toNatClampNeg) (g 9)))]) (w1 := [(mq, .inr (12, mF (upd (upd (upd (upd g 7 u_8.1) 8 u_8.2.1) 9 u_8.2.2.1) 10 u_8.2.2.2) gl rf)), (eA0 (rf 0) (ck 0) 900 f_tape), (eA0 (rf 3) (ck 3) 118 f_words)]) hP hD [0, 1, 2] [3] hCc rfl (by decide) (by decide) hk1 hFc hP1 hD1
      generalize H1 = H at hP hS ⊢
      have hP : va_P (dC, dI) vwCl [(eA0 na cNa 12 (upd f_na ((6 + a0).toNatClampNeg) (g 9))), (mq, .inr (12, mF (upd (upd (upd (upd g 7 u_8.1) 8 u_8.2.1) 9 u_8.2.2.1) 10 u_8.2.2.2) gl rf)), (eA0 (rf 0) (ck 0) 900 f_tape), (eA0 (rf 3) (ck 3) 118 f_words)] H := hP
      have hD : va_D A [(eA0 na cNa 12 (upd f_na ((6 + a0).toNatClampNeg) (g 9))), (mq, .inr (12, mF (upd (upd (upd (upd g 7 u_8.1) 8 u_8.2.1) 9 u_8.2.2.1) 10 u_8.2.2.2) gl rf)), (eA0 (rf 0) (ck 0) 900 f_tape), (eA0 (rf 3) (ck 3) 118 f_words)] := hD
      refine W.widen (k := 0) (n := 0) (by omega) (by omega) ?_
      obtain ⟨hw, hp_13, hp_14⟩ := hw
      have hq_u_8 : u_8 = (fq_token f_tape f_words (g 6) (g 7) (g 9)) := hw
      refine lv_iconst (v := 1) hx hb dX12_newName_46 (by decide) ?_
      refine W.widen (k := 0) (n := 0) (by omega) (by omega) ?_
      obtain ⟨hP9, hD9⟩ := zsub2 (ws' := [(mq, .inr (12, mF (upd (upd (upd (upd g 7 u_8.1) 8 u_8.2.1) 9 u_8.2.2.1) 10 u_8.2.2.2) gl rf)), (eA0 (rf 0) (ck 0) 900 f_tape), (eA0 (rf 3) (ck 3) 118 f_words), (eA0 na cNa 12 (upd f_na ((6 + a0).toNatClampNeg) (g 9)))]) hP hD [1, 2, 3, 0] (by decide) rfl
      have hK9 := hK.sub (tys' := []) [] rfl
      exact W.zret (v := 1) hx hb hr (by first | rfl | decide) (fun t ht hW => ⟨⟨1, ((upd f_na ((6 + a0).toNatClampNeg) (g 9)), u_8.1, u_8.2.1, u_8.2.2.1, u_8.2.2.2, (g 4), (g 5)), rfl, ⟨((fun e9 => ⟨by rw [e9], by rw [e9]⟩ : fq_newName12 f_tape f_words f_na a0 (g 4) (g 5) (g 6) (g 7) (g 8) (g 9) (g 10) = ((1 : Int32), (upd f_na ((6 + a0).toNatClampNeg) (g 9)), u_8.1, u_8.2.1, u_8.2.2.1, u_8.2.2.2, (g 4), (g 5)) → _) ((by rw [fq_newName12]; (try rw [if_pos c_1]); (try rw [← hq_r_2]); (try rw [xL_eq]); (try rw [if_pos c_5]); (try rw [← hq_u_8]); (try rw [xL_eq]); try rfl))), Or.inr rfl, (gq_newName12_s2 (y0 := u_8.1) (y1 := g 6) (y2 := g 7) hp_13 hp_14 h0n hns hs9), (gq_newName12_s3 (y0 := u_8.1) (y1 := g 6) (y2 := g 7) hp_13 hp_14 h0n hns hs9)⟩, by rw [ht]; exact hP9, va_K.moved hW.alike hK9, hD9⟩, hS.F ht⟩) hS.2.2 dX12_newName_47
    · refine lv_aload_n hx hb dX12_newName_27 rfl (lv_at hl 0 rfl) ?_
      refine lv_iconst (v := 3) hx hb dX12_newName_28 (by decide) ?_
      obtain ⟨hPc, hDc, hFc, hCc⟩ := zsub3 (ws' := [(mq, .inr (12, mF g gl rf))]) hP hD hS hA [0] (by decide) rfl
      have hKc := hK.sub (tys' := []) [] rfl
      refine va_calli (va_runV (As := [.int 3]) (rest := []) ⟨hx, hb, hml, hown, htw⟩ (gq_wrong l dC dI mq g gl rf (3 : Int32) H.size) (cwV 1 htw (xg_V (ck_25 _ (List.mem_of_getElem? (i := 21) rfl)) (ck_25 _ (List.mem_of_getElem? (i := 22) rfl)) (ck_25 _ (List.mem_of_getElem? (i := 23) rfl)) (ck_1 _ (List.mem_of_getElem? (i := 5) rfl)) (ck_26 _ (List.mem_of_getElem? (i := 0) rfl))) rfl rfl rfl (by exact ⟨rfl, hdc_14.1, hdc_14.2, hdd_26⟩) ⟨Nat.le_of_ble_eq_true rfl, Nat.le_of_ble_eq_true rfl⟩) ⟨fun a U g mk q => by obtain ⟨q0, q1, qP, qK, qD⟩ := q; exact ⟨q0, q1, qP, va_K.moved (u := U) (U := U.calling g mk a) (Vm.Alike.refl U.vm) qK, qD⟩, va_recv hKc hPc (ci := 12) (q0 := 0) rfl rfl, fun U hU hW => ⟨rfl, by rw [hU], by rw [hU]; exact hPc, va_K.moved hW.alike hKc, hDc.weaken (fun _ _ _ _ => trivial)⟩⟩ rfl rfl hl.1 rfl (lv_room (Nat.le_of_ble_eq_true rfl)) dX12_newName_29 ⟨Nat.le_of_ble_eq_true rfl, Nat.le_of_ble_eq_true rfl⟩) hS (fun q _ h => hFc q h) hFc (fun r_15 u_16 t H1 locs ht hvm hw hB hz1 hk1 hS => ?_)
      try dsimp only at hw
      obtain ⟨hP1, hK1, hD1⟩ := hB
      rw [ht] at hP1
      have hK1 := va_K.moved hvm.symm hK1
      have hK1 : va_K (dC, dI) vwCl [] s := hK1
      obtain ⟨hP, hD⟩ := va_join (wr := [(eA0 (rf 0) (ck 0) 900 f_tape), (eA0 (rf 3) (ck 3) 118 f_words), (eA0 na cNa 12 f_na)]) (w1 := [(mq, .inr (12, mF (upd (upd g 4 u_16.1) 5 u_16.2) gl rf))]) hP hD [0] [1, 2, 3] hCc rfl (by decide) (by decide) hk1 hFc hP1 hD1
      generalize H1 = H at hP hS ⊢
      have hP : va_P (dC, dI) vwCl [(eA0 (rf 0) (ck 0) 900 f_tape), (eA0 (rf 3) (ck 3) 118 f_words), (eA0 na cNa 12 f_na), (mq, .inr (12, mF (upd (upd g 4 u_16.1) 5 u_16.2) gl rf))] H := hP
      have hD : va_D A [(eA0 (rf 0) (ck 0) 900 f_tape), (eA0 (rf 3) (ck 3) 118 f_words), (eA0 na cNa 12 f_na), (mq, .inr (12, mF (upd (upd g 4 u_16.1) 5 u_16.2) gl rf))] := hD
      refine W.widen (k := 0) (n := 0) (by omega) (by omega) ?_
      obtain ⟨hw, hb_r_15, hp_19⟩ := hw
      obtain ⟨X_20, hX_20⟩ : ∃ X9 : Int32 × (Int32) × (Int32), X9 = (fq_wrong (3 : Int32) (g 10)) := ⟨_, rfl⟩
      have hq_r_15 : r_15 = X_20.1 := by rw [hX_20]; exact hw.1
      have hq_u_16 : u_16 = X_20.2 := by rw [hX_20]; exact hw.2
      refine W.widen (k := 0) (n := 0) (by omega) (by omega) ?_
      obtain ⟨hP9, hD9⟩ := zsub2 (ws' := [(mq, .inr (12, mF (upd (upd g 4 u_16.1) 5 u_16.2) gl rf)), (eA0 (rf 0) (ck 0) 900 f_tape), (eA0 (rf 3) (ck 3) 118 f_words), (eA0 na cNa 12 f_na)]) hP hD [3, 0, 1, 2] (by decide) rfl
      have hK9 := hK.sub (tys' := []) [] rfl
      exact W.zret (v := r_15) hx hb hr (xz_nar hb_r_15) (fun t ht hW => ⟨⟨r_15, (f_na, (g 7), (g 8), (g 9), (g 10), u_16.1, u_16.2), rfl, ⟨((fun e9 => ⟨by rw [e9], by rw [e9]⟩ : fq_newName12 f_tape f_words f_na a0 (g 4) (g 5) (g 6) (g 7) (g 8) (g 9) (g 10) = (r_15, f_na, (g 7), (g 8), (g 9), (g 10), u_16.1, u_16.2) → _) ((by rw [fq_newName12]; (try rw [if_pos c_1]); (try rw [← hq_r_2]); (try rw [xL_eq]); (try rw [if_neg c_5]); (try rw [← hX_20]); (try rw [xL_eq]); (try rw [← hq_r_15]); (try rw [← hq_u_16]); try rfl))), hb_r_15, (gq_newName12_s4 (y0 := g 7) (y1 := g 6) h0n hns hs9), (gq_newName12_s5 (y0 := g 7) (y1 := g 6) h0n hns hs9)⟩, by rw [ht]; exact hP9, va_K.moved hW.alike hK9, hD9⟩, hS.F ht⟩) hS.2.2 dX12_newName_32
  · refine lv_aload_n hx hb dX12_newName_8 rfl (lv_at hl 0 rfl) ?_
    refine lv_iconst (v := 1) hx hb dX12_newName_9 (by decide) ?_
    obtain ⟨hPc, hDc, hFc, hCc⟩ := zsub3 (ws' := [(mq, .inr (12, mF g gl rf))]) hP hD hS hA [0] (by decide) rfl
    have hKc := hK.sub (tys' := []) [] rfl
    refine va_calli (va_runV (As := [.int 1]) (rest := []) ⟨hx, hb, hml, hown, htw⟩ (gq_wrong l dC dI mq g gl rf (1 : Int32) H.size) (cwV 1 htw (xg_V (ck_25 _ (List.mem_of_getElem? (i := 21) rfl)) (ck_25 _ (List.mem_of_getElem? (i := 22) rfl)) (ck_25 _ (List.mem_of_getElem? (i := 23) rfl)) (ck_1 _ (List.mem_of_getElem? (i := 5) rfl)) (ck_26 _ (List.mem_of_getElem? (i := 0) rfl))) rfl rfl rfl (by exact ⟨rfl, hdc_14.1, hdc_14.2, hdd_26⟩) ⟨Nat.le_of_ble_eq_true rfl, Nat.le_of_ble_eq_true rfl⟩) ⟨fun a U g mk q => by obtain ⟨q0, q1, qP, qK, qD⟩ := q; exact ⟨q0, q1, qP, va_K.moved (u := U) (U := U.calling g mk a) (Vm.Alike.refl U.vm) qK, qD⟩, va_recv hKc hPc (ci := 12) (q0 := 0) rfl rfl, fun U hU hW => ⟨rfl, by rw [hU], by rw [hU]; exact hPc, va_K.moved hW.alike hKc, hDc.weaken (fun _ _ _ _ => trivial)⟩⟩ rfl rfl hl.1 rfl (lv_room (Nat.le_of_ble_eq_true rfl)) dX12_newName_10 ⟨Nat.le_of_ble_eq_true rfl, Nat.le_of_ble_eq_true rfl⟩) hS (fun q _ h => hFc q h) hFc (fun r_21 u_22 t H1 locs ht hvm hw hB hz1 hk1 hS => ?_)
    try dsimp only at hw
    obtain ⟨hP1, hK1, hD1⟩ := hB
    rw [ht] at hP1
    have hK1 := va_K.moved hvm.symm hK1
    have hK1 : va_K (dC, dI) vwCl [] s := hK1
    obtain ⟨hP, hD⟩ := va_join (wr := [(eA0 (rf 0) (ck 0) 900 f_tape), (eA0 (rf 3) (ck 3) 118 f_words), (eA0 na cNa 12 f_na)]) (w1 := [(mq, .inr (12, mF (upd (upd g 4 u_22.1) 5 u_22.2) gl rf))]) hP hD [0] [1, 2, 3] hCc rfl (by decide) (by decide) hk1 hFc hP1 hD1
    generalize H1 = H at hP hS ⊢
    have hP : va_P (dC, dI) vwCl [(eA0 (rf 0) (ck 0) 900 f_tape), (eA0 (rf 3) (ck 3) 118 f_words), (eA0 na cNa 12 f_na), (mq, .inr (12, mF (upd (upd g 4 u_22.1) 5 u_22.2) gl rf))] H := hP
    have hD : va_D A [(eA0 (rf 0) (ck 0) 900 f_tape), (eA0 (rf 3) (ck 3) 118 f_words), (eA0 na cNa 12 f_na), (mq, .inr (12, mF (upd (upd g 4 u_22.1) 5 u_22.2) gl rf))] := hD
    refine W.widen (k := 0) (n := 0) (by omega) (by omega) ?_
    obtain ⟨hw, hb_r_21, hp_25⟩ := hw
    obtain ⟨X_26, hX_26⟩ : ∃ X9 : Int32 × (Int32) × (Int32), X9 = (fq_wrong (1 : Int32) (g 10)) := ⟨_, rfl⟩
    have hq_r_21 : r_21 = X_26.1 := by rw [hX_26]; exact hw.1
    have hq_u_22 : u_22 = X_26.2 := by rw [hX_26]; exact hw.2
    refine W.widen (k := 0) (n := 0) (by omega) (by omega) ?_
    obtain ⟨hP9, hD9⟩ := zsub2 (ws' := [(mq, .inr (12, mF (upd (upd g 4 u_22.1) 5 u_22.2) gl rf)), (eA0 (rf 0) (ck 0) 900 f_tape), (eA0 (rf 3) (ck 3) 118 f_words), (eA0 na cNa 12 f_na)]) hP hD [3, 0, 1, 2] (by decide) rfl
    have hK9 := hK.sub (tys' := []) [] rfl
    exact W.zret (v := r_21) hx hb hr (xz_nar hb_r_21) (fun t ht hW => ⟨⟨r_21, (f_na, (g 7), (g 8), (g 9), (g 10), u_22.1, u_22.2), rfl, ⟨((fun e9 => ⟨by rw [e9], by rw [e9]⟩ : fq_newName12 f_tape f_words f_na a0 (g 4) (g 5) (g 6) (g 7) (g 8) (g 9) (g 10) = (r_21, f_na, (g 7), (g 8), (g 9), (g 10), u_22.1, u_22.2) → _) ((by rw [fq_newName12]; (try rw [if_neg c_1]); (try rw [← hX_26]); (try rw [xL_eq]); (try rw [← hq_r_21]); (try rw [← hq_u_22]); try rfl))), hb_r_21, (gq_newName12_s6 (y0 := g 7) (y1 := g 6) h0n hns hs9), (gq_newName12_s7 (y0 := g 7) (y1 := g 6) h0n hns hs9)⟩, by rw [ht]; exact hP9, va_K.moved hW.alike hK9, hD9⟩, hS.F ht⟩) hS.2.2 dX12_newName_13

def fq_oldName8 (f_tape : Nat → Int32) (f_words : Nat → Int32) (f_na : Nat → Int32) (a0 : Int32) (m_fault : Int32) (m_faultPlace : Int32) (m_stop : Int32) (m_next : Int32) (m_kind : Int32) (m_which : Int32) (m_at : Int32) (m_got : Int32) : Int32 × (Int32) × (Int32) × (Int32) × (Int32) × (Int32) × (Int32) × (Int32) := (if m_kind = 2 then (xL ((fq_find8_4 f_na a0 m_which)) (fun r_2 => (if 0 ≤ r_2 then (xL ((fq_token f_tape f_words m_stop m_next m_which)) (fun u_7 => ((1 : Int32), u_7.1, u_7.2.1, u_7.2.2.1, u_7.2.2.2, r_2, m_fault, m_faultPlace))) else (xL ((fq_wrong (4 : Int32) m_at)) (fun X_19 => (X_19.1, m_next, m_kind, m_which, m_at, m_got, X_19.2.1, X_19.2.2)))))) else (xL ((fq_wrong (1 : Int32) m_at)) (fun X_25 => (X_25.1, m_next, m_kind, m_which, m_at, m_got, X_25.2.1, X_25.2.2))))
theorem gq_oldName8_s0 {y0 : Int32} {y1 : Int32} {y2 : Int32} (h0 : ¬ (y0 < 0)) (h1 : y0 ≤ y1) (h2 : ¬ (y2 < 0)) (h3 : y2 ≤ y1) (h4 : y1 ≤ 900) : ¬ (y0 < 0) := gq_number_s0 h0 h1 h2 h3 h4
theorem gq_oldName8_s1 {y0 : Int32} {y1 : Int32} {y2 : Int32} (h0 : ¬ (y0 < 0)) (h1 : y0 ≤ y1) (h2 : ¬ (y2 < 0)) (h3 : y2 ≤ y1) (h4 : y1 ≤ 900) : y0 ≤ y1 := gq_number_s1 h0 h1 h2 h3 h4
theorem gq_oldName8_s2 {y0 : Int32} {y1 : Int32} (h0 : 0 ≤ y0) (h1 : y0 < y1) (h2 : ¬ (y0 < (-1))) (h3 : ¬ (y1 < 0)) (h4 : y1 ≤ 4) : ¬ (y0 < 0) := by lia
theorem gq_oldName8_s3 {y0 : Int32} {y1 : Int32} (h0 : 0 ≤ y0) (h1 : y0 < y1) (h2 : ¬ (y0 < (-1))) (h3 : ¬ (y1 < 0)) (h4 : y1 ≤ 4) : y0 < y1 := h1
theorem gq_oldName8_s4 {y0 : Int32} {y1 : Int32} (h0 : ¬ (y0 < 0)) (h1 : y0 ≤ y1) (h2 : y1 ≤ 900) : ¬ (y0 < 0) := h0
theorem gq_oldName8_s5 {y0 : Int32} {y1 : Int32} (h0 : ¬ (y0 < 0)) (h1 : y0 ≤ y1) (h2 : y1 ≤ 900) : y0 ≤ y1 := h1
theorem gq_oldName8_s6 {y0 : Int32} {y1 : Int32} (h0 : ¬ (y0 < 0)) (h1 : y0 ≤ y1) (h2 : y1 ≤ 900) : ¬ (y0 < 0) := h0
theorem gq_oldName8_s7 {y0 : Int32} {y1 : Int32} (h0 : ¬ (y0 < 0)) (h1 : y0 ≤ y1) (h2 : y1 ≤ 900) : y0 ≤ y1 := h1
theorem dX12_oldName_0 : decode cX12_oldName 0 = .ok (.aload_n 0, 1) := zk_42 (by decide +kernel)
theorem dX12_oldName_1 : decode cX12_oldName 1 = .ok (.getfield 139, 3) := zk_180 (by decide +kernel)
theorem dX12_oldName_4 : decode cX12_oldName 4 = .ok (.iconst 2, 1) := zk_5 (by decide +kernel)
theorem dX12_oldName_5 : decode cX12_oldName 5 = .ok (.if_icmp .eq 9, 3) := zk_159 (by decide +kernel)
theorem dX12_oldName_14 : decode cX12_oldName 14 = .ok (.aload_n 1, 1) := zk_43 (by decide +kernel)
theorem dX12_oldName_15 : decode cX12_oldName 15 = .ok (.iload_n 2, 1) := zk_28 (by decide +kernel)
theorem dX12_oldName_16 : decode cX12_oldName 16 = .ok (.iload_n 3, 1) := zk_29 (by decide +kernel)
theorem dX12_oldName_17 : decode cX12_oldName 17 = .ok (.aload_n 0, 1) := zk_42 (by decide +kernel)
theorem dX12_oldName_18 : decode cX12_oldName 18 = .ok (.getfield 150, 3) := zk_180 (by decide +kernel)
theorem dX12_oldName_21 : decode cX12_oldName 21 = .ok (.invokestatic 255, 3) := zk_184 (by decide +kernel)
theorem dX12_oldName_24 : decode cX12_oldName 24 = .ok (.istore 4, 2) := zk_54 (by decide +kernel)
theorem dX12_oldName_26 : decode cX12_oldName 26 = .ok (.iload 4, 2) := zk_21 (by decide +kernel)
theorem dX12_oldName_28 : decode cX12_oldName 28 = .ok (.ifCond .ge 9, 3) := zk_156 (by decide +kernel)
theorem dX12_oldName_37 : decode cX12_oldName 37 = .ok (.aload_n 0, 1) := zk_42 (by decide +kernel)
theorem dX12_oldName_38 : decode cX12_oldName 38 = .ok (.iload 4, 2) := zk_21 (by decide +kernel)
theorem dX12_oldName_40 : decode cX12_oldName 40 = .ok (.putfield 170, 3) := zk_181 (by decide +kernel)
theorem dX12_oldName_43 : decode cX12_oldName 43 = .ok (.aload_n 0, 1) := zk_42 (by decide +kernel)
theorem dX12_oldName_44 : decode cX12_oldName 44 = .ok (.invokevirtual 173, 3) := zk_182 (by decide +kernel)
theorem dX12_oldName_47 : decode cX12_oldName 47 = .ok (.iconst 1, 1) := zk_4 (by decide +kernel)
theorem dX12_oldName_48 : decode cX12_oldName 48 = .ok (.ireturn, 1) := zk_172 (by decide +kernel)
theorem dX12_oldName_31 : decode cX12_oldName 31 = .ok (.aload_n 0, 1) := zk_42 (by decide +kernel)
theorem dX12_oldName_32 : decode cX12_oldName 32 = .ok (.iconst 4, 1) := zk_7 (by decide +kernel)
theorem dX12_oldName_33 : decode cX12_oldName 33 = .ok (.invokevirtual 163, 3) := zk_182 (by decide +kernel)
theorem dX12_oldName_36 : decode cX12_oldName 36 = .ok (.ireturn, 1) := zk_172 (by decide +kernel)
theorem dX12_oldName_8 : decode cX12_oldName 8 = .ok (.aload_n 0, 1) := zk_42 (by decide +kernel)
theorem dX12_oldName_9 : decode cX12_oldName 9 = .ok (.iconst 1, 1) := zk_4 (by decide +kernel)
theorem dX12_oldName_10 : decode cX12_oldName 10 = .ok (.invokevirtual 163, 3) := zk_182 (by decide +kernel)
theorem dX12_oldName_13 : decode cX12_oldName 13 = .ok (.ireturn, 1) := zk_172 (by decide +kernel)
set_option maxHeartbeats 4000000 in
set_option maxRecDepth 100000 in
theorem gq_oldName8 (l : Launch) (dC : Nat → ClassId) (dI : Nat → Nat → Nat) (mq : Nat) (g : Nat → Int32) (gl : Nat → Int64) (rf : Nat → Nat) (ck : Nat → ClassId) (f_tape : Nat → Int32) (f_words : Nat → Int32) (na : Nat) (cNa : ClassId) (f_na : Nat → Int32) (a0 : Int32) (sz : Nat) (h0n : ¬ (g 7) < 0) (hns : (g 7) ≤ (g 6)) (hs9 : (g 6) ≤ 900) (hw7 : (f_words 117) = 32) (hn0 : ¬ a0 < 0) (hn4 : a0 ≤ 4) : Met l yX12_oldName (Cond.code yX12_oldName cX12_oldName 5 (some .boolean) :: wsL_law) ({ frames := 2, cells := 0, slots := 0, locals := 47 }) (va_Pc [.ref mq, .ref na, .int 4, .int a0] (fun U => U.heap.size = sz ∧ va_P (dC, dI) vwCl [(mq, .inr (12, mF g gl rf)), (eA0 (rf 0) (ck 0) 900 f_tape), (eA0 (rf 3) (ck 3) 118 f_words), (eA0 na cNa 8 f_na)] U.heap ∧ va_K (dC, dI) vwCl [((ck 0), .int), ((ck 3), .int), (cNa, .int)] U ∧ va_D (fun _ => True) [(mq, .inr (12, mF g gl rf)), (eA0 (rf 0) (ck 0) 900 f_tape), (eA0 (rf 3) (ck 3) 118 f_words), (eA0 na cNa 8 f_na)])) (va_Qi (fun (r : Int32) (u : (Int32) × (Int32) × (Int32) × (Int32) × (Int32) × (Int32) × (Int32)) => (r = (fq_oldName8 f_tape f_words f_na a0 (g 4) (g 5) (g 6) (g 7) (g 8) (g 9) (g 10) (g 11)).1 ∧ u = (fq_oldName8 f_tape f_words f_na a0 (g 4) (g 5) (g 6) (g 7) (g 8) (g 9) (g 10) (g 11)).2) ∧ (r = 0 ∨ r = 1) ∧ (¬ u.1 < 0) ∧ (u.1 ≤ (g 6)) ∧ (r = 0 ∨ ¬ u.2.2.2.2.1 < 0) ∧ (r = 0 ∨ u.2.2.2.2.1 < a0)) (fun (u : (Int32) × (Int32) × (Int32) × (Int32) × (Int32) × (Int32) × (Int32)) t => va_P (dC, dI) vwCl [(mq, .inr (12, mF (upd (upd (upd (upd (upd (upd (upd g 4 u.2.2.2.2.2.1) 5 u.2.2.2.2.2.2) 7 u.1) 8 u.2.1) 9 u.2.2.1) 10 u.2.2.2.1) 11 u.2.2.2.2.1) gl rf)), (eA0 (rf 0) (ck 0) 900 f_tape), (eA0 (rf 3) (ck 3) 118 f_words), (eA0 na cNa 8 f_na)] t.heap ∧ va_K (dC, dI) vwCl [] t ∧ va_D (va_A [(mq, .inr (12, mF g gl rf)), (eA0 (rf 0) (ck 0) 900 f_tape), (eA0 (rf 3) (ck 3) 118 f_words), (eA0 na cNa 8 f_na)] sz) [(mq, .inr (12, mF (upd (upd (upd (upd (upd (upd (upd g 4 u.2.2.2.2.2.1) 5 u.2.2.2.2.2.2) 7 u.1) 8 u.2.1) 9 u.2.2.1) 10 u.2.2.2.1) 11 u.2.2.2.2.1) gl rf)), (eA0 (rf 0) (ck 0) 900 f_tape), (eA0 (rf 3) (ck 3) 118 f_words), (eA0 na cNa 8 f_na)]) (va_A [(mq, .inr (12, mF g gl rf)), (eA0 (rf 0) (ck 0) 900 f_tape), (eA0 (rf 3) (ck 3) 118 f_words), (eA0 na cNa 8 f_na)] sz)) 0 0 (va_A [(mq, .inr (12, mF g gl rf)), (eA0 (rf 0) (ck 0) 900 f_tape), (eA0 (rf 3) (ck 3) 118 f_words), (eA0 na cNa 8 f_na)] sz) := by
  refine Met.ofW (cc := cX12_oldName) (maxL := 5) (ret := (some .boolean)) (by decide) rfl ?_
  intro p e s m args below meth c s₁ B hml hv
  obtain ⟨rfl, hsz, hP, hK, hD0⟩ := hv
  have hx := B.exec
  have hb := B.bytes
  have hr := B.returns
  have hts := atoms_spec (ws := Cond.code yX12_oldName cX12_oldName 5 (some .boolean) :: wsL_law) B.pre
  have htw : ∀ w ∈ wsL_law, w.before _ s = true := fun w h => hts w (List.mem_cons_of_mem _ h)
  have hown : s.vm.findClass RX12 = some m.cls := findClass_of_methodNamed B.named
  have hlocks := B.notSynchronized
  subst hsz
  have hD := hD0.self (sz := s.heap.size)
  generalize hAe : va_A [(mq, .inr (12, mF g gl rf)), (eA0 (rf 0) (ck 0) 900 f_tape), (eA0 (rf 3) (ck 3) 118 f_words), (eA0 na cNa 8 f_na)] s.heap.size = A at hD ⊢
  have hA : ∀ q : Nat, s.heap.size ≤ q → A q := fun q h => by rw [← hAe]; exact Or.inr h
  obtain ⟨H, rH⟩ : ∃ z : Heap, z = s.heap := ⟨_, rfl⟩
  have hS : va_S A s.heap H [] := by rw [rH]; exact va_S.rf
  have hP : va_P (dC, dI) vwCl [(mq, .inr (12, mF g gl rf)), (eA0 (rf 0) (ck 0) 900 f_tape), (eA0 (rf 3) (ck 3) 118 f_words), (eA0 na cNa 8 f_na)] H := by rw [rH]; exact hP
  rw [← rH]
  have hl := lv_entry ([.ref mq, .ref na, .int 4, .int a0]) (n := 5) (Nat.le_of_ble_eq_true rfl)
  rw [lg_entry_eq]
  generalize (lg_sl ([.ref mq, .ref na, .int 4, .int a0]) ++ List.replicate (5 - (lg_sl ([.ref mq, .ref na, .int 4, .int a0])).length) Slot.unset).toArray = ls at hl ⊢
  have hl : lv_has ls 5 [(0, .ref mq), (1, .ref na), (2, .int 4), (3, .int a0)] := hl
  refine lv_aload_n hx hb dX12_oldName_0 rfl (lv_at hl 0 rfl) ?_
  refine va_get (D := (dC, dI)) (ci := 12) (v := .int (g 8)) (C := RX12) (T := TX12) (N := 76) hx hb htw inlX12 hown hK hP 0 rfl rfl 8 (by decide) (htw _ (ck_24 _ (List.mem_of_getElem? (i := 13) rfl))) (fun _ h9 => h9) rfl dX12_oldName_1 ?_
  refine lv_iconst (v := 2) hx hb dX12_oldName_4 (by decide) ?_
  refine lv_icmp_eq (tgt := 14) hx hb dX12_oldName_5 (by decide) (fun c_1 => ?_) (fun c_1 => ?_)
  · refine lv_aload_n hx hb dX12_oldName_14 rfl (lv_at hl 1 rfl) ?_
    refine lv_iload_n hx hb dX12_oldName_15 rfl (lv_at hl 2 rfl) ?_
    refine lv_iload_n hx hb dX12_oldName_16 rfl (lv_at hl 3 rfl) ?_
    refine lv_aload_n hx hb dX12_oldName_17 rfl (lv_at hl 0 rfl) ?_
    refine va_get (D := (dC, dI)) (ci := 12) (v := .int (g 9)) (C := RX12) (T := TX12) (N := 76) hx hb htw inlX12 hown hK hP 0 rfl rfl 9 (by decide) (htw _ (ck_24 _ (List.mem_of_getElem? (i := 19) rfl))) (fun _ h9 => h9) rfl dX12_oldName_18 ?_
    have hPc := hP.sub (ws' := [(eA0 na cNa 8 f_na)]) [3] rfl
    have hKc := hK.sub (tys' := [(cNa, .int)]) [2] rfl
    refine vp_callSi (W.runS (As := [.ref na, .int 4, .int a0, .int (g 9)]) (rest := []) ⟨hx, hb, hml, hown, htw⟩ (gq_find8_4 l dC dI na cNa f_na a0 (g 9) hn0 hn4) (va_cwS 4 htw (xg_S (ck_26 _ (List.mem_of_getElem? (i := 10) rfl)) (ck_26 _ (List.mem_of_getElem? (i := 11) rfl)) (ck_1 _ (List.mem_of_getElem? (i := 5) rfl)) (ck_26 _ (List.mem_of_getElem? (i := 12) rfl))) rfl rfl rfl (by exact ⟨hdc_14.1, hdc_14.2, hdd_39⟩) ⟨Nat.le_of_ble_eq_true rfl, Nat.le_of_ble_eq_true rfl⟩) ⟨fun a U g mk q => by obtain ⟨q0, qP, qK⟩ := q; exact ⟨q0, qP, va_K.moved (u := U) (U := U.calling g mk a) (Vm.Alike.refl U.vm) qK⟩, fun U hU hW => ⟨rfl, by rw [hU]; exact hPc, va_K.moved hW.alike hKc⟩⟩ rfl rfl hl.1 rfl (lv_room (Nat.le_of_ble_eq_true rfl)) dX12_oldName_21 ⟨Nat.le_of_ble_eq_true rfl, Nat.le_of_ble_eq_true rfl⟩) (fun r_2 hw => ?_)
    try dsimp only at hw
    obtain ⟨hw, hp_3, hp_4⟩ := hw
    have hq_r_2 : r_2 = (fq_find8_4 f_na a0 (g 9)) := hw
    refine lv_istore (lv' := [(4, .int r_2), (0, .ref mq), (1, .ref na), (2, .int 4), (3, .int a0)]) hx hb dX12_oldName_24 hl (by decide) rfl (fun ls hl => ?_)
    refine lv_iload hx hb dX12_oldName_26 (lv_at hl 0 rfl) ?_
    refine lv_if_ge (tgt := 37) hx hb dX12_oldName_28 (by decide) (fun c_5 => ?_) (fun c_5 => ?_)
    · refine lv_aload_n hx hb dX12_oldName_37 rfl (lv_at hl 1 rfl) ?_
      refine lv_iload hx hb dX12_oldName_38 (lv_at hl 0 rfl) ?_
      refine va_put (D := (dC, dI)) (ci := 12) (v := .int r_2) (ty := tyX12 11) (C := RX12) (T := TX12) (N := 76) hx hb htw inlX12 tyX12 tyX12_ok nmX12 hown hK hP hD hS 0 rfl rfl 11 (by decide) (htw _ (ck_26 _ (List.mem_of_getElem? (i := 5) rfl))) (fun _ h9 => h9) rfl (tyX12_ok 11 (by decide)) rfl rfl (Nat.le_of_ble_eq_true rfl) dX12_oldName_40 (fun H locs hP hD hS => ?_)
      obtain ⟨hP, hD⟩ := zre [(mq, .inr (12, mF (upd g 11 r_2) gl rf)), (eA0 (rf 0) (ck 0) 900 f_tape), (eA0 (rf 3) (ck 3) 118 f_words), (eA0 na cNa 8 f_na)] hP hD rfl
      refine lv_aload_n hx hb dX12_oldName_43 rfl (lv_at hl 1 rfl) ?_
      obtain ⟨hPc, hDc, hFc, hCc⟩ := zsub3 (ws' := [(mq, .inr (12, mF (upd g 11 r_2) gl rf)), (eA0 (rf 0) (ck 0) 900 f_tape), (eA0 (rf 3) (ck 3) 118 f_words)]) hP hD hS hA [0, 1, 2] (by decide) rfl
      have hKc := hK.sub (tys' := [((ck 0), .int), ((ck 3), .int)]) [0, 1] rfl
      refine va_callv (va_runV (As := []) (rest := []) ⟨hx, hb, hml, hown, htw⟩ (gq_token l dC dI mq (upd g 11 r_2) gl rf ck f_tape f_words H.size h0n hns hs9 hw7) (cwV 0 htw (xg_V (ck_24 _ (List.mem_of_getElem? (i := 14) rfl)) (ck_24 _ (List.mem_of_getElem? (i := 15) rfl)) (ck_24 _ (List.mem_of_getElem? (i := 16) rfl)) (ck_1 _ (List.mem_of_getElem? (i := 5) rfl)) (ck_24 _ (List.mem_of_getElem? (i := 17) rfl))) rfl rfl rfl (by exact ⟨rfl, hdc_14.1, hdc_14.2, hdd_13⟩) ⟨Nat.le_of_ble_eq_true rfl, Nat.le_of_ble_eq_true rfl⟩) ⟨fun a U g mk q => by obtain ⟨q0, q1, qP, qK, qD⟩ := q; exact ⟨q0, q1, qP, va_K.moved (u := U) (U := U.calling g mk a) (Vm.Alike.refl U.vm) qK, qD⟩, va_recv hKc hPc (ci := 12) (q0 := 0) rfl rfl, fun U hU hW => ⟨rfl, by rw [hU], by rw [hU]; exact hPc, va_K.moved hW.alike hKc, hDc.weaken (fun _ _ _ _ => trivial)⟩⟩ rfl rfl hl.1 rfl (lv_room (Nat.le_of_ble_eq_true rfl)) dX12_oldName_44 ⟨Nat.le_of_ble_eq_true rfl, Nat.le_of_ble_eq_true rfl⟩) hS (fun q _ h => hFc q h) hFc (fun u_7 t H1 locs ht hvm hw hB hz1 hk1 hS => ?_)
      try dsimp only at hw
      obtain ⟨hP1, hK1, hD1⟩ := hB
      rw [ht] at hP1
      have hK1 := va_K.moved hvm.symm hK1
      have hK1 : va_K (dC, dI) vwCl [] s := hK1
      obtain ⟨hP, hD⟩ := va_join (wr := [(eA0 na cNa 8 f_na)]) (w1 := [(mq, .inr (12, mF (upd (upd (upd (upd (upd g 7 u_7.1) 8 u_7.2.1) 9 u_7.2.2.1) 10 u_7.2.2.2) 11 r_2) gl rf)), (eA0 (rf 0) (ck 0) 900 f_tape), (eA0 (rf 3) (ck 3) 118 f_words)]) hP hD [0, 1, 2] [3] hCc rfl (by decide) (by decide) hk1 hFc hP1 hD1
      generalize H1 = H at hP hS ⊢
      have hP : va_P (dC, dI) vwCl [(eA0 na cNa 8 f_na), (mq, .inr (12, mF (upd (upd (upd (upd (upd g 7 u_7.1) 8 u_7.2.1) 9 u_7.2.2.1) 10 u_7.2.2.2) 11 r_2) gl rf)), (eA0 (rf 0) (ck 0) 900 f_tape), (eA0 (rf 3) (ck 3) 118 f_words)] H := hP
      have hD : va_D A [(eA0 na cNa 8 f_na), (mq, .inr (12, mF (upd (upd (upd (upd (upd g 7 u_7.1) 8 u_7.2.1) 9 u_7.2.2.1) 10 u_7.2.2.2) 11 r_2) gl rf)), (eA0 (rf 0) (ck 0) 900 f_tape), (eA0 (rf 3) (ck 3) 118 f_words)] := hD
      refine W.widen (k := 0) (n := 0) (by omega) (by omega) ?_
      obtain ⟨hw, hp_12, hp_13⟩ := hw
      have hq_u_7 : u_7 = (fq_token f_tape f_words (g 6) (g 7) (g 9)) := hw
      refine lv_iconst (v := 1) hx hb dX12_oldName_47 (by decide) ?_
      refine W.widen (k := 0) (n := 0) (by omega) (by omega) ?_
      obtain ⟨hP9, hD9⟩ := zsub2 (ws' := [(mq, .inr (12, mF (upd (upd (upd (upd (upd g 7 u_7.1) 8 u_7.2.1) 9 u_7.2.2.1) 10 u_7.2.2.2) 11 r_2) gl rf)), (eA0 (rf 0) (ck 0) 900 f_tape), (eA0 (rf 3) (ck 3) 118 f_words), (eA0 na cNa 8 f_na)]) hP hD [1, 2, 3, 0] (by decide) rfl
      have hK9 := hK.sub (tys' := []) [] rfl
      exact W.zret (v := 1) hx hb hr (by first | rfl | decide) (fun t ht hW => ⟨⟨1, (u_7.1, u_7.2.1, u_7.2.2.1, u_7.2.2.2, r_2, (g 4), (g 5)), rfl, ⟨((fun e9 => ⟨by rw [e9], by rw [e9]⟩ : fq_oldName8 f_tape f_words f_na a0 (g 4) (g 5) (g 6) (g 7) (g 8) (g 9) (g 10) (g 11) = ((1 : Int32), u_7.1, u_7.2.1, u_7.2.2.1, u_7.2.2.2, r_2, (g 4), (g 5)) → _) ((by rw [fq_oldName8]; (try rw [if_pos c_1]); (try rw [← hq_r_2]); (try rw [xL_eq]); (try rw [if_pos c_5]); (try rw [← hq_u_7]); (try rw [xL_eq]); try rfl))), Or.inr rfl, (gq_oldName8_s0 (y0 := u_7.1) (y1 := g 6) (y2 := g 7) hp_12 hp_13 h0n hns hs9), (gq_oldName8_s1 (y0 := u_7.1) (y1 := g 6) (y2 := g 7) hp_12 hp_13 h0n hns hs9), (Or.inr (gq_oldName8_s2 (y0 := r_2) (y1 := a0) c_5 hp_3 hp_4 hn0 hn4)), (Or.inr (gq_oldName8_s3 (y0 := r_2) (y1 := a0) c_5 hp_3 hp_4 hn0 hn4))⟩, by rw [ht]; exact hP9, va_K.moved hW.alike hK9, hD9⟩, hS.F ht⟩) hS.2.2 dX12_oldName_48
    · refine lv_aload_n hx hb dX12_oldName_31 rfl (lv_at hl 1 rfl) ?_
      refine lv_iconst (v := 4) hx hb dX12_oldName_32 (by decide) ?_
      obtain ⟨hPc, hDc, hFc, hCc⟩ := zsub3 (ws' := [(mq, .inr (12, mF g gl rf))]) hP hD hS hA [0] (by decide) rfl
      have hKc := hK.sub (tys' := []) [] rfl
      refine va_calli (va_runV (As := [.int 4]) (rest := []) ⟨hx, hb, hml, hown, htw⟩ (gq_wrong l dC dI mq g gl rf (4 : Int32) H.size) (cwV 1 htw (xg_V (ck_25 _ (List.mem_of_getElem? (i := 21) rfl)) (ck_25 _ (List.mem_of_getElem? (i := 22) rfl)) (ck_25 _ (List.mem_of_getElem? (i := 23) rfl)) (ck_1 _ (List.mem_of_getElem? (i := 5) rfl)) (ck_26 _ (List.mem_of_getElem? (i := 0) rfl))) rfl rfl rfl (by exact ⟨rfl, hdc_14.1, hdc_14.2, hdd_26⟩) ⟨Nat.le_of_ble_eq_true rfl, Nat.le_of_ble_eq_true rfl⟩) ⟨fun a U g mk q => by obtain ⟨q0, q1, qP, qK, qD⟩ := q; exact ⟨q0, q1, qP, va_K.moved (u := U) (U := U.calling g mk a) (Vm.Alike.refl U.vm) qK, qD⟩, va_recv hKc hPc (ci := 12) (q0 := 0) rfl rfl, fun U hU hW => ⟨rfl, by rw [hU], by rw [hU]; exact hPc, va_K.moved hW.alike hKc, hDc.weaken (fun _ _ _ _ => trivial)⟩⟩ rfl rfl hl.1 rfl (lv_room (Nat.le_of_ble_eq_true rfl)) dX12_oldName_33 ⟨Nat.le_of_ble_eq_true rfl, Nat.le_of_ble_eq_true rfl⟩) hS (fun q _ h => hFc q h) hFc (fun r_14 u_15 t H1 locs ht hvm hw hB hz1 hk1 hS => ?_)
      try dsimp only at hw
      obtain ⟨hP1, hK1, hD1⟩ := hB
      rw [ht] at hP1
      have hK1 := va_K.moved hvm.symm hK1
      have hK1 : va_K (dC, dI) vwCl [] s := hK1
      obtain ⟨hP, hD⟩ := va_join (wr := [(eA0 (rf 0) (ck 0) 900 f_tape), (eA0 (rf 3) (ck 3) 118 f_words), (eA0 na cNa 8 f_na)]) (w1 := [(mq, .inr (12, mF (upd (upd g 4 u_15.1) 5 u_15.2) gl rf))]) hP hD [0] [1, 2, 3] hCc rfl (by decide) (by decide) hk1 hFc hP1 hD1
      generalize H1 = H at hP hS ⊢
      have hP : va_P (dC, dI) vwCl [(eA0 (rf 0) (ck 0) 900 f_tape), (eA0 (rf 3) (ck 3) 118 f_words), (eA0 na cNa 8 f_na), (mq, .inr (12, mF (upd (upd g 4 u_15.1) 5 u_15.2) gl rf))] H := hP
      have hD : va_D A [(eA0 (rf 0) (ck 0) 900 f_tape), (eA0 (rf 3) (ck 3) 118 f_words), (eA0 na cNa 8 f_na), (mq, .inr (12, mF (upd (upd g 4 u_15.1) 5 u_15.2) gl rf))] := hD
      refine W.widen (k := 0) (n := 0) (by omega) (by omega) ?_
      obtain ⟨hw, hb_r_14, hp_18⟩ := hw
      obtain ⟨X_19, hX_19⟩ : ∃ X9 : Int32 × (Int32) × (Int32), X9 = (fq_wrong (4 : Int32) (g 10)) := ⟨_, rfl⟩
      have hq_r_14 : r_14 = X_19.1 := by rw [hX_19]; exact hw.1
      have hq_u_15 : u_15 = X_19.2 := by rw [hX_19]; exact hw.2
      refine W.widen (k := 0) (n := 0) (by omega) (by omega) ?_
      obtain ⟨hP9, hD9⟩ := zsub2 (ws' := [(mq, .inr (12, mF (upd (upd g 4 u_15.1) 5 u_15.2) gl rf)), (eA0 (rf 0) (ck 0) 900 f_tape), (eA0 (rf 3) (ck 3) 118 f_words), (eA0 na cNa 8 f_na)]) hP hD [3, 0, 1, 2] (by decide) rfl
      have hK9 := hK.sub (tys' := []) [] rfl
      exact W.zret (v := r_14) hx hb hr (xz_nar hb_r_14) (fun t ht hW => ⟨⟨r_14, ((g 7), (g 8), (g 9), (g 10), (g 11), u_15.1, u_15.2), rfl, ⟨((fun e9 => ⟨by rw [e9], by rw [e9]⟩ : fq_oldName8 f_tape f_words f_na a0 (g 4) (g 5) (g 6) (g 7) (g 8) (g 9) (g 10) (g 11) = (r_14, (g 7), (g 8), (g 9), (g 10), (g 11), u_15.1, u_15.2) → _) ((by rw [fq_oldName8]; (try rw [if_pos c_1]); (try rw [← hq_r_2]); (try rw [xL_eq]); (try rw [if_neg c_5]); (try rw [← hX_19]); (try rw [xL_eq]); (try rw [← hq_r_14]); (try rw [← hq_u_15]); try rfl))), hb_r_14, (gq_oldName8_s4 (y0 := g 7) (y1 := g 6) h0n hns hs9), (gq_oldName8_s5 (y0 := g 7) (y1 := g 6) h0n hns hs9), (Or.inl hp_18), (Or.inl hp_18)⟩, by rw [ht]; exact hP9, va_K.moved hW.alike hK9, hD9⟩, hS.F ht⟩) hS.2.2 dX12_oldName_36
  · refine lv_aload_n hx hb dX12_oldName_8 rfl (lv_at hl 0 rfl) ?_
    refine lv_iconst (v := 1) hx hb dX12_oldName_9 (by decide) ?_
    obtain ⟨hPc, hDc, hFc, hCc⟩ := zsub3 (ws' := [(mq, .inr (12, mF g gl rf))]) hP hD hS hA [0] (by decide) rfl
    have hKc := hK.sub (tys' := []) [] rfl
    refine va_calli (va_runV (As := [.int 1]) (rest := []) ⟨hx, hb, hml, hown, htw⟩ (gq_wrong l dC dI mq g gl rf (1 : Int32) H.size) (cwV 1 htw (xg_V (ck_25 _ (List.mem_of_getElem? (i := 21) rfl)) (ck_25 _ (List.mem_of_getElem? (i := 22) rfl)) (ck_25 _ (List.mem_of_getElem? (i := 23) rfl)) (ck_1 _ (List.mem_of_getElem? (i := 5) rfl)) (ck_26 _ (List.mem_of_getElem? (i := 0) rfl))) rfl rfl rfl (by exact ⟨rfl, hdc_14.1, hdc_14.2, hdd_26⟩) ⟨Nat.le_of_ble_eq_true rfl, Nat.le_of_ble_eq_true rfl⟩) ⟨fun a U g mk q => by obtain ⟨q0, q1, qP, qK, qD⟩ := q; exact ⟨q0, q1, qP, va_K.moved (u := U) (U := U.calling g mk a) (Vm.Alike.refl U.vm) qK, qD⟩, va_recv hKc hPc (ci := 12) (q0 := 0) rfl rfl, fun U hU hW => ⟨rfl, by rw [hU], by rw [hU]; exact hPc, va_K.moved hW.alike hKc, hDc.weaken (fun _ _ _ _ => trivial)⟩⟩ rfl rfl hl.1 rfl (lv_room (Nat.le_of_ble_eq_true rfl)) dX12_oldName_10 ⟨Nat.le_of_ble_eq_true rfl, Nat.le_of_ble_eq_true rfl⟩) hS (fun q _ h => hFc q h) hFc (fun r_20 u_21 t H1 locs ht hvm hw hB hz1 hk1 hS => ?_)
    try dsimp only at hw
    obtain ⟨hP1, hK1, hD1⟩ := hB
    rw [ht] at hP1
    have hK1 := va_K.moved hvm.symm hK1
    have hK1 : va_K (dC, dI) vwCl [] s := hK1
    obtain ⟨hP, hD⟩ := va_join (wr := [(eA0 (rf 0) (ck 0) 900 f_tape), (eA0 (rf 3) (ck 3) 118 f_words), (eA0 na cNa 8 f_na)]) (w1 := [(mq, .inr (12, mF (upd (upd g 4 u_21.1) 5 u_21.2) gl rf))]) hP hD [0] [1, 2, 3] hCc rfl (by decide) (by decide) hk1 hFc hP1 hD1
    generalize H1 = H at hP hS ⊢
    have hP : va_P (dC, dI) vwCl [(eA0 (rf 0) (ck 0) 900 f_tape), (eA0 (rf 3) (ck 3) 118 f_words), (eA0 na cNa 8 f_na), (mq, .inr (12, mF (upd (upd g 4 u_21.1) 5 u_21.2) gl rf))] H := hP
    have hD : va_D A [(eA0 (rf 0) (ck 0) 900 f_tape), (eA0 (rf 3) (ck 3) 118 f_words), (eA0 na cNa 8 f_na), (mq, .inr (12, mF (upd (upd g 4 u_21.1) 5 u_21.2) gl rf))] := hD
    refine W.widen (k := 0) (n := 0) (by omega) (by omega) ?_
    obtain ⟨hw, hb_r_20, hp_24⟩ := hw
    obtain ⟨X_25, hX_25⟩ : ∃ X9 : Int32 × (Int32) × (Int32), X9 = (fq_wrong (1 : Int32) (g 10)) := ⟨_, rfl⟩
    have hq_r_20 : r_20 = X_25.1 := by rw [hX_25]; exact hw.1
    have hq_u_21 : u_21 = X_25.2 := by rw [hX_25]; exact hw.2
    refine W.widen (k := 0) (n := 0) (by omega) (by omega) ?_
    obtain ⟨hP9, hD9⟩ := zsub2 (ws' := [(mq, .inr (12, mF (upd (upd g 4 u_21.1) 5 u_21.2) gl rf)), (eA0 (rf 0) (ck 0) 900 f_tape), (eA0 (rf 3) (ck 3) 118 f_words), (eA0 na cNa 8 f_na)]) hP hD [3, 0, 1, 2] (by decide) rfl
    have hK9 := hK.sub (tys' := []) [] rfl
    exact W.zret (v := r_20) hx hb hr (xz_nar hb_r_20) (fun t ht hW => ⟨⟨r_20, ((g 7), (g 8), (g 9), (g 10), (g 11), u_21.1, u_21.2), rfl, ⟨((fun e9 => ⟨by rw [e9], by rw [e9]⟩ : fq_oldName8 f_tape f_words f_na a0 (g 4) (g 5) (g 6) (g 7) (g 8) (g 9) (g 10) (g 11) = (r_20, (g 7), (g 8), (g 9), (g 10), (g 11), u_21.1, u_21.2) → _) ((by rw [fq_oldName8]; (try rw [if_neg c_1]); (try rw [← hX_25]); (try rw [xL_eq]); (try rw [← hq_r_20]); (try rw [← hq_u_21]); try rfl))), hb_r_20, (gq_oldName8_s6 (y0 := g 7) (y1 := g 6) h0n hns hs9), (gq_oldName8_s7 (y0 := g 7) (y1 := g 6) h0n hns hs9), (Or.inl hp_24), (Or.inl hp_24)⟩, by rw [ht]; exact hP9, va_K.moved hW.alike hK9, hD9⟩, hS.F ht⟩) hS.2.2 dX12_oldName_13

def fq_oldName12 (f_tape : Nat → Int32) (f_words : Nat → Int32) (f_na : Nat → Int32) (a0 : Int32) (m_fault : Int32) (m_faultPlace : Int32) (m_stop : Int32) (m_next : Int32) (m_kind : Int32) (m_which : Int32) (m_at : Int32) (m_got : Int32) : Int32 × (Int32) × (Int32) × (Int32) × (Int32) × (Int32) × (Int32) × (Int32) := (if m_kind = 2 then (xL ((fq_find12_6 f_na a0 m_which)) (fun r_2 => (if 0 ≤ r_2 then (xL ((fq_token f_tape f_words m_stop m_next m_which)) (fun u_7 => ((1 : Int32), u_7.1, u_7.2.1, u_7.2.2.1, u_7.2.2.2, r_2, m_fault, m_faultPlace))) else (xL ((fq_wrong (4 : Int32) m_at)) (fun X_19 => (X_19.1, m_next, m_kind, m_which, m_at, m_got, X_19.2.1, X_19.2.2)))))) else (xL ((fq_wrong (1 : Int32) m_at)) (fun X_25 => (X_25.1, m_next, m_kind, m_which, m_at, m_got, X_25.2.1, X_25.2.2))))
theorem gq_oldName12_s0 {y0 : Int32} {y1 : Int32} {y2 : Int32} (h0 : ¬ (y0 < 0)) (h1 : y0 ≤ y1) (h2 : ¬ (y2 < 0)) (h3 : y2 ≤ y1) (h4 : y1 ≤ 900) : ¬ (y0 < 0) := gq_number_s0 h0 h1 h2 h3 h4
theorem gq_oldName12_s1 {y0 : Int32} {y1 : Int32} {y2 : Int32} (h0 : ¬ (y0 < 0)) (h1 : y0 ≤ y1) (h2 : ¬ (y2 < 0)) (h3 : y2 ≤ y1) (h4 : y1 ≤ 900) : y0 ≤ y1 := gq_number_s1 h0 h1 h2 h3 h4
theorem gq_oldName12_s2 {y0 : Int32} {y1 : Int32} (h0 : 0 ≤ y0) (h1 : y0 < y1) (h2 : ¬ (y0 < (-1))) (h3 : ¬ (y1 < 0)) (h4 : y1 ≤ 6) : ¬ (y0 < 0) := by lia
theorem gq_oldName12_s3 {y0 : Int32} {y1 : Int32} (h0 : 0 ≤ y0) (h1 : y0 < y1) (h2 : ¬ (y0 < (-1))) (h3 : ¬ (y1 < 0)) (h4 : y1 ≤ 6) : y0 < y1 := h1
theorem gq_oldName12_s4 {y0 : Int32} {y1 : Int32} (h0 : ¬ (y0 < 0)) (h1 : y0 ≤ y1) (h2 : y1 ≤ 900) : ¬ (y0 < 0) := h0
theorem gq_oldName12_s5 {y0 : Int32} {y1 : Int32} (h0 : ¬ (y0 < 0)) (h1 : y0 ≤ y1) (h2 : y1 ≤ 900) : y0 ≤ y1 := h1
theorem gq_oldName12_s6 {y0 : Int32} {y1 : Int32} (h0 : ¬ (y0 < 0)) (h1 : y0 ≤ y1) (h2 : y1 ≤ 900) : ¬ (y0 < 0) := h0
theorem gq_oldName12_s7 {y0 : Int32} {y1 : Int32} (h0 : ¬ (y0 < 0)) (h1 : y0 ≤ y1) (h2 : y1 ≤ 900) : y0 ≤ y1 := h1
set_option maxHeartbeats 4000000 in
set_option maxRecDepth 100000 in
theorem gq_oldName12 (l : Launch) (dC : Nat → ClassId) (dI : Nat → Nat → Nat) (mq : Nat) (g : Nat → Int32) (gl : Nat → Int64) (rf : Nat → Nat) (ck : Nat → ClassId) (f_tape : Nat → Int32) (f_words : Nat → Int32) (na : Nat) (cNa : ClassId) (f_na : Nat → Int32) (a0 : Int32) (sz : Nat) (h0n : ¬ (g 7) < 0) (hns : (g 7) ≤ (g 6)) (hs9 : (g 6) ≤ 900) (hw7 : (f_words 117) = 32) (hn0 : ¬ a0 < 0) (hn4 : a0 ≤ 6) : Met l yX12_oldName (Cond.code yX12_oldName cX12_oldName 5 (some .boolean) :: wsL_law) ({ frames := 2, cells := 0, slots := 0, locals := 47 }) (va_Pc [.ref mq, .ref na, .int 6, .int a0] (fun U => U.heap.size = sz ∧ va_P (dC, dI) vwCl [(mq, .inr (12, mF g gl rf)), (eA0 (rf 0) (ck 0) 900 f_tape), (eA0 (rf 3) (ck 3) 118 f_words), (eA0 na cNa 12 f_na)] U.heap ∧ va_K (dC, dI) vwCl [((ck 0), .int), ((ck 3), .int), (cNa, .int)] U ∧ va_D (fun _ => True) [(mq, .inr (12, mF g gl rf)), (eA0 (rf 0) (ck 0) 900 f_tape), (eA0 (rf 3) (ck 3) 118 f_words), (eA0 na cNa 12 f_na)])) (va_Qi (fun (r : Int32) (u : (Int32) × (Int32) × (Int32) × (Int32) × (Int32) × (Int32) × (Int32)) => (r = (fq_oldName12 f_tape f_words f_na a0 (g 4) (g 5) (g 6) (g 7) (g 8) (g 9) (g 10) (g 11)).1 ∧ u = (fq_oldName12 f_tape f_words f_na a0 (g 4) (g 5) (g 6) (g 7) (g 8) (g 9) (g 10) (g 11)).2) ∧ (r = 0 ∨ r = 1) ∧ (¬ u.1 < 0) ∧ (u.1 ≤ (g 6)) ∧ (r = 0 ∨ ¬ u.2.2.2.2.1 < 0) ∧ (r = 0 ∨ u.2.2.2.2.1 < a0)) (fun (u : (Int32) × (Int32) × (Int32) × (Int32) × (Int32) × (Int32) × (Int32)) t => va_P (dC, dI) vwCl [(mq, .inr (12, mF (upd (upd (upd (upd (upd (upd (upd g 4 u.2.2.2.2.2.1) 5 u.2.2.2.2.2.2) 7 u.1) 8 u.2.1) 9 u.2.2.1) 10 u.2.2.2.1) 11 u.2.2.2.2.1) gl rf)), (eA0 (rf 0) (ck 0) 900 f_tape), (eA0 (rf 3) (ck 3) 118 f_words), (eA0 na cNa 12 f_na)] t.heap ∧ va_K (dC, dI) vwCl [] t ∧ va_D (va_A [(mq, .inr (12, mF g gl rf)), (eA0 (rf 0) (ck 0) 900 f_tape), (eA0 (rf 3) (ck 3) 118 f_words), (eA0 na cNa 12 f_na)] sz) [(mq, .inr (12, mF (upd (upd (upd (upd (upd (upd (upd g 4 u.2.2.2.2.2.1) 5 u.2.2.2.2.2.2) 7 u.1) 8 u.2.1) 9 u.2.2.1) 10 u.2.2.2.1) 11 u.2.2.2.2.1) gl rf)), (eA0 (rf 0) (ck 0) 900 f_tape), (eA0 (rf 3) (ck 3) 118 f_words), (eA0 na cNa 12 f_na)]) (va_A [(mq, .inr (12, mF g gl rf)), (eA0 (rf 0) (ck 0) 900 f_tape), (eA0 (rf 3) (ck 3) 118 f_words), (eA0 na cNa 12 f_na)] sz)) 0 0 (va_A [(mq, .inr (12, mF g gl rf)), (eA0 (rf 0) (ck 0) 900 f_tape), (eA0 (rf 3) (ck 3) 118 f_words), (eA0 na cNa 12 f_na)] sz) := by
  refine Met.ofW (cc := cX12_oldName) (maxL := 5) (ret := (some .boolean)) (by decide) rfl ?_
  intro p e s m args below meth c s₁ B hml hv
  obtain ⟨rfl, hsz, hP, hK, hD0⟩ := hv
  have hx := B.exec
  have hb := B.bytes
  have hr := B.returns
  have hts := atoms_spec (ws := Cond.code yX12_oldName cX12_oldName 5 (some .boolean) :: wsL_law) B.pre
  have htw : ∀ w ∈ wsL_law, w.before _ s = true := fun w h => hts w (List.mem_cons_of_mem _ h)
  have hown : s.vm.findClass RX12 = some m.cls := findClass_of_methodNamed B.named
  have hlocks := B.notSynchronized
  subst hsz
  have hD := hD0.self (sz := s.heap.size)
  generalize hAe : va_A [(mq, .inr (12, mF g gl rf)), (eA0 (rf 0) (ck 0) 900 f_tape), (eA0 (rf 3) (ck 3) 118 f_words), (eA0 na cNa 12 f_na)] s.heap.size = A at hD ⊢
  have hA : ∀ q : Nat, s.heap.size ≤ q → A q := fun q h => by rw [← hAe]; exact Or.inr h
  obtain ⟨H, rH⟩ : ∃ z : Heap, z = s.heap := ⟨_, rfl⟩
  have hS : va_S A s.heap H [] := by rw [rH]; exact va_S.rf
  have hP : va_P (dC, dI) vwCl [(mq, .inr (12, mF g gl rf)), (eA0 (rf 0) (ck 0) 900 f_tape), (eA0 (rf 3) (ck 3) 118 f_words), (eA0 na cNa 12 f_na)] H := by rw [rH]; exact hP
  rw [← rH]
  have hl := lv_entry ([.ref mq, .ref na, .int 6, .int a0]) (n := 5) (Nat.le_of_ble_eq_true rfl)
  rw [lg_entry_eq]
  generalize (lg_sl ([.ref mq, .ref na, .int 6, .int a0]) ++ List.replicate (5 - (lg_sl ([.ref mq, .ref na, .int 6, .int a0])).length) Slot.unset).toArray = ls at hl ⊢
  have hl : lv_has ls 5 [(0, .ref mq), (1, .ref na), (2, .int 6), (3, .int a0)] := hl
  refine lv_aload_n hx hb dX12_oldName_0 rfl (lv_at hl 0 rfl) ?_
  refine va_get (D := (dC, dI)) (ci := 12) (v := .int (g 8)) (C := RX12) (T := TX12) (N := 76) hx hb htw inlX12 hown hK hP 0 rfl rfl 8 (by decide) (htw _ (ck_24 _ (List.mem_of_getElem? (i := 13) rfl))) (fun _ h9 => h9) rfl dX12_oldName_1 ?_
  refine lv_iconst (v := 2) hx hb dX12_oldName_4 (by decide) ?_
  refine lv_icmp_eq (tgt := 14) hx hb dX12_oldName_5 (by decide) (fun c_1 => ?_) (fun c_1 => ?_)
  · refine lv_aload_n hx hb dX12_oldName_14 rfl (lv_at hl 1 rfl) ?_
    refine lv_iload_n hx hb dX12_oldName_15 rfl (lv_at hl 2 rfl) ?_
    refine lv_iload_n hx hb dX12_oldName_16 rfl (lv_at hl 3 rfl) ?_
    refine lv_aload_n hx hb dX12_oldName_17 rfl (lv_at hl 0 rfl) ?_
    refine va_get (D := (dC, dI)) (ci := 12) (v := .int (g 9)) (C := RX12) (T := TX12) (N := 76) hx hb htw inlX12 hown hK hP 0 rfl rfl 9 (by decide) (htw _ (ck_24 _ (List.mem_of_getElem? (i := 19) rfl))) (fun _ h9 => h9) rfl dX12_oldName_18 ?_
    have hPc := hP.sub (ws' := [(eA0 na cNa 12 f_na)]) [3] rfl
    have hKc := hK.sub (tys' := [(cNa, .int)]) [2] rfl
    refine vp_callSi (W.runS (As := [.ref na, .int 6, .int a0, .int (g 9)]) (rest := []) ⟨hx, hb, hml, hown, htw⟩ (gq_find12_6 l dC dI na cNa f_na a0 (g 9) hn0 hn4) (va_cwS 4 htw (xg_S (ck_26 _ (List.mem_of_getElem? (i := 10) rfl)) (ck_26 _ (List.mem_of_getElem? (i := 11) rfl)) (ck_1 _ (List.mem_of_getElem? (i := 5) rfl)) (ck_26 _ (List.mem_of_getElem? (i := 12) rfl))) rfl rfl rfl (by exact ⟨hdc_14.1, hdc_14.2, hdd_39⟩) ⟨Nat.le_of_ble_eq_true rfl, Nat.le_of_ble_eq_true rfl⟩) ⟨fun a U g mk q => by obtain ⟨q0, qP, qK⟩ := q; exact ⟨q0, qP, va_K.moved (u := U) (U := U.calling g mk a) (Vm.Alike.refl U.vm) qK⟩, fun U hU hW => ⟨rfl, by rw [hU]; exact hPc, va_K.moved hW.alike hKc⟩⟩ rfl rfl hl.1 rfl (lv_room (Nat.le_of_ble_eq_true rfl)) dX12_oldName_21 ⟨Nat.le_of_ble_eq_true rfl, Nat.le_of_ble_eq_true rfl⟩) (fun r_2 hw => ?_)
    try dsimp only at hw
    obtain ⟨hw, hp_3, hp_4⟩ := hw
    have hq_r_2 : r_2 = (fq_find12_6 f_na a0 (g 9)) := hw
    refine lv_istore (lv' := [(4, .int r_2), (0, .ref mq), (1, .ref na), (2, .int 6), (3, .int a0)]) hx hb dX12_oldName_24 hl (by decide) rfl (fun ls hl => ?_)
    refine lv_iload hx hb dX12_oldName_26 (lv_at hl 0 rfl) ?_
    refine lv_if_ge (tgt := 37) hx hb dX12_oldName_28 (by decide) (fun c_5 => ?_) (fun c_5 => ?_)
    · refine lv_aload_n hx hb dX12_oldName_37 rfl (lv_at hl 1 rfl) ?_
      refine lv_iload hx hb dX12_oldName_38 (lv_at hl 0 rfl) ?_
      refine va_put (D := (dC, dI)) (ci := 12) (v := .int r_2) (ty := tyX12 11) (C := RX12) (T := TX12) (N := 76) hx hb htw inlX12 tyX12 tyX12_ok nmX12 hown hK hP hD hS 0 rfl rfl 11 (by decide) (htw _ (ck_26 _ (List.mem_of_getElem? (i := 5) rfl))) (fun _ h9 => h9) rfl (tyX12_ok 11 (by decide)) rfl rfl (Nat.le_of_ble_eq_true rfl) dX12_oldName_40 (fun H locs hP hD hS => ?_)
      obtain ⟨hP, hD⟩ := zre [(mq, .inr (12, mF (upd g 11 r_2) gl rf)), (eA0 (rf 0) (ck 0) 900 f_tape), (eA0 (rf 3) (ck 3) 118 f_words), (eA0 na cNa 12 f_na)] hP hD rfl
      refine lv_aload_n hx hb dX12_oldName_43 rfl (lv_at hl 1 rfl) ?_
      obtain ⟨hPc, hDc, hFc, hCc⟩ := zsub3 (ws' := [(mq, .inr (12, mF (upd g 11 r_2) gl rf)), (eA0 (rf 0) (ck 0) 900 f_tape), (eA0 (rf 3) (ck 3) 118 f_words)]) hP hD hS hA [0, 1, 2] (by decide) rfl
      have hKc := hK.sub (tys' := [((ck 0), .int), ((ck 3), .int)]) [0, 1] rfl
      refine va_callv (va_runV (As := []) (rest := []) ⟨hx, hb, hml, hown, htw⟩ (gq_token l dC dI mq (upd g 11 r_2) gl rf ck f_tape f_words H.size h0n hns hs9 hw7) (cwV 0 htw (xg_V (ck_24 _ (List.mem_of_getElem? (i := 14) rfl)) (ck_24 _ (List.mem_of_getElem? (i := 15) rfl)) (ck_24 _ (List.mem_of_getElem? (i := 16) rfl)) (ck_1 _ (List.mem_of_getElem? (i := 5) rfl)) (ck_24 _ (List.mem_of_getElem? (i := 17) rfl))) rfl rfl rfl (by exact ⟨rfl, hdc_14.1, hdc_14.2, hdd_13⟩) ⟨Nat.le_of_ble_eq_true rfl, Nat.le_of_ble_eq_true rfl⟩) ⟨fun a U g mk q => by obtain ⟨q0, q1, qP, qK, qD⟩ := q; exact ⟨q0, q1, qP, va_K.moved (u := U) (U := U.calling g mk a) (Vm.Alike.refl U.vm) qK, qD⟩, va_recv hKc hPc (ci := 12) (q0 := 0) rfl rfl, fun U hU hW => ⟨rfl, by rw [hU], by rw [hU]; exact hPc, va_K.moved hW.alike hKc, hDc.weaken (fun _ _ _ _ => trivial)⟩⟩ rfl rfl hl.1 rfl (lv_room (Nat.le_of_ble_eq_true rfl)) dX12_oldName_44 ⟨Nat.le_of_ble_eq_true rfl, Nat.le_of_ble_eq_true rfl⟩) hS (fun q _ h => hFc q h) hFc (fun u_7 t H1 locs ht hvm hw hB hz1 hk1 hS => ?_)
      try dsimp only at hw
      obtain ⟨hP1, hK1, hD1⟩ := hB
      rw [ht] at hP1
      have hK1 := va_K.moved hvm.symm hK1
      have hK1 : va_K (dC, dI) vwCl [] s := hK1
      obtain ⟨hP, hD⟩ := va_join (wr := [(eA0 na cNa 12 f_na)]) (w1 := [(mq, .inr (12, mF (upd (upd (upd (upd (upd g 7 u_7.1) 8 u_7.2.1) 9 u_7.2.2.1) 10 u_7.2.2.2) 11 r_2) gl rf)), (eA0 (rf 0) (ck 0) 900 f_tape), (eA0 (rf 3) (ck 3) 118 f_words)]) hP hD [0, 1, 2] [3] hCc rfl (by decide) (by decide) hk1 hFc hP1 hD1
      generalize H1 = H at hP hS ⊢
      have hP : va_P (dC, dI) vwCl [(eA0 na cNa 12 f_na), (mq, .inr (12, mF (upd (upd (upd (upd (upd g 7 u_7.1) 8 u_7.2.1) 9 u_7.2.2.1) 10 u_7.2.2.2) 11 r_2) gl rf)), (eA0 (rf 0) (ck 0) 900 f_tape), (eA0 (rf 3) (ck 3) 118 f_words)] H := hP
      have hD : va_D A [(eA0 na cNa 12 f_na), (mq, .inr (12, mF (upd (upd (upd (upd (upd g 7 u_7.1) 8 u_7.2.1) 9 u_7.2.2.1) 10 u_7.2.2.2) 11 r_2) gl rf)), (eA0 (rf 0) (ck 0) 900 f_tape), (eA0 (rf 3) (ck 3) 118 f_words)] := hD
      refine W.widen (k := 0) (n := 0) (by omega) (by omega) ?_
      obtain ⟨hw, hp_12, hp_13⟩ := hw
      have hq_u_7 : u_7 = (fq_token f_tape f_words (g 6) (g 7) (g 9)) := hw
      refine lv_iconst (v := 1) hx hb dX12_oldName_47 (by decide) ?_
      refine W.widen (k := 0) (n := 0) (by omega) (by omega) ?_
      obtain ⟨hP9, hD9⟩ := zsub2 (ws' := [(mq, .inr (12, mF (upd (upd (upd (upd (upd g 7 u_7.1) 8 u_7.2.1) 9 u_7.2.2.1) 10 u_7.2.2.2) 11 r_2) gl rf)), (eA0 (rf 0) (ck 0) 900 f_tape), (eA0 (rf 3) (ck 3) 118 f_words), (eA0 na cNa 12 f_na)]) hP hD [1, 2, 3, 0] (by decide) rfl
      have hK9 := hK.sub (tys' := []) [] rfl
      exact W.zret (v := 1) hx hb hr (by first | rfl | decide) (fun t ht hW => ⟨⟨1, (u_7.1, u_7.2.1, u_7.2.2.1, u_7.2.2.2, r_2, (g 4), (g 5)), rfl, ⟨((fun e9 => ⟨by rw [e9], by rw [e9]⟩ : fq_oldName12 f_tape f_words f_na a0 (g 4) (g 5) (g 6) (g 7) (g 8) (g 9) (g 10) (g 11) = ((1 : Int32), u_7.1, u_7.2.1, u_7.2.2.1, u_7.2.2.2, r_2, (g 4), (g 5)) → _) ((by rw [fq_oldName12]; (try rw [if_pos c_1]); (try rw [← hq_r_2]); (try rw [xL_eq]); (try rw [if_pos c_5]); (try rw [← hq_u_7]); (try rw [xL_eq]); try rfl))), Or.inr rfl, (gq_oldName12_s0 (y0 := u_7.1) (y1 := g 6) (y2 := g 7) hp_12 hp_13 h0n hns hs9), (gq_oldName12_s1 (y0 := u_7.1) (y1 := g 6) (y2 := g 7) hp_12 hp_13 h0n hns hs9), (Or.inr (gq_oldName12_s2 (y0 := r_2) (y1 := a0) c_5 hp_3 hp_4 hn0 hn4)), (Or.inr (gq_oldName12_s3 (y0 := r_2) (y1 := a0) c_5 hp_3 hp_4 hn0 hn4))⟩, by rw [ht]; exact hP9, va_K.moved hW.alike hK9, hD9⟩, hS.F ht⟩) hS.2.2 dX12_oldName_48
    · refine lv_aload_n hx hb dX12_oldName_31 rfl (lv_at hl 1 rfl) ?_
      refine lv_iconst (v := 4) hx hb dX12_oldName_32 (by decide) ?_
      obtain ⟨hPc, hDc, hFc, hCc⟩ := zsub3 (ws' := [(mq, .inr (12, mF g gl rf))]) hP hD hS hA [0] (by decide) rfl
      have hKc := hK.sub (tys' := []) [] rfl
      refine va_calli (va_runV (As := [.int 4]) (rest := []) ⟨hx, hb, hml, hown, htw⟩ (gq_wrong l dC dI mq g gl rf (4 : Int32) H.size) (cwV 1 htw (xg_V (ck_25 _ (List.mem_of_getElem? (i := 21) rfl)) (ck_25 _ (List.mem_of_getElem? (i := 22) rfl)) (ck_25 _ (List.mem_of_getElem? (i := 23) rfl)) (ck_1 _ (List.mem_of_getElem? (i := 5) rfl)) (ck_26 _ (List.mem_of_getElem? (i := 0) rfl))) rfl rfl rfl (by exact ⟨rfl, hdc_14.1, hdc_14.2, hdd_26⟩) ⟨Nat.le_of_ble_eq_true rfl, Nat.le_of_ble_eq_true rfl⟩) ⟨fun a U g mk q => by obtain ⟨q0, q1, qP, qK, qD⟩ := q; exact ⟨q0, q1, qP, va_K.moved (u := U) (U := U.calling g mk a) (Vm.Alike.refl U.vm) qK, qD⟩, va_recv hKc hPc (ci := 12) (q0 := 0) rfl rfl, fun U hU hW => ⟨rfl, by rw [hU], by rw [hU]; exact hPc, va_K.moved hW.alike hKc, hDc.weaken (fun _ _ _ _ => trivial)⟩⟩ rfl rfl hl.1 rfl (lv_room (Nat.le_of_ble_eq_true rfl)) dX12_oldName_33 ⟨Nat.le_of_ble_eq_true rfl, Nat.le_of_ble_eq_true rfl⟩) hS (fun q _ h => hFc q h) hFc (fun r_14 u_15 t H1 locs ht hvm hw hB hz1 hk1 hS => ?_)
      try dsimp only at hw
      obtain ⟨hP1, hK1, hD1⟩ := hB
      rw [ht] at hP1
      have hK1 := va_K.moved hvm.symm hK1
      have hK1 : va_K (dC, dI) vwCl [] s := hK1
      obtain ⟨hP, hD⟩ := va_join (wr := [(eA0 (rf 0) (ck 0) 900 f_tape), (eA0 (rf 3) (ck 3) 118 f_words), (eA0 na cNa 12 f_na)]) (w1 := [(mq, .inr (12, mF (upd (upd g 4 u_15.1) 5 u_15.2) gl rf))]) hP hD [0] [1, 2, 3] hCc rfl (by decide) (by decide) hk1 hFc hP1 hD1
      generalize H1 = H at hP hS ⊢
      have hP : va_P (dC, dI) vwCl [(eA0 (rf 0) (ck 0) 900 f_tape), (eA0 (rf 3) (ck 3) 118 f_words), (eA0 na cNa 12 f_na), (mq, .inr (12, mF (upd (upd g 4 u_15.1) 5 u_15.2) gl rf))] H := hP
      have hD : va_D A [(eA0 (rf 0) (ck 0) 900 f_tape), (eA0 (rf 3) (ck 3) 118 f_words), (eA0 na cNa 12 f_na), (mq, .inr (12, mF (upd (upd g 4 u_15.1) 5 u_15.2) gl rf))] := hD
      refine W.widen (k := 0) (n := 0) (by omega) (by omega) ?_
      obtain ⟨hw, hb_r_14, hp_18⟩ := hw
      obtain ⟨X_19, hX_19⟩ : ∃ X9 : Int32 × (Int32) × (Int32), X9 = (fq_wrong (4 : Int32) (g 10)) := ⟨_, rfl⟩
      have hq_r_14 : r_14 = X_19.1 := by rw [hX_19]; exact hw.1
      have hq_u_15 : u_15 = X_19.2 := by rw [hX_19]; exact hw.2
      refine W.widen (k := 0) (n := 0) (by omega) (by omega) ?_
      obtain ⟨hP9, hD9⟩ := zsub2 (ws' := [(mq, .inr (12, mF (upd (upd g 4 u_15.1) 5 u_15.2) gl rf)), (eA0 (rf 0) (ck 0) 900 f_tape), (eA0 (rf 3) (ck 3) 118 f_words), (eA0 na cNa 12 f_na)]) hP hD [3, 0, 1, 2] (by decide) rfl
      have hK9 := hK.sub (tys' := []) [] rfl
      exact W.zret (v := r_14) hx hb hr (xz_nar hb_r_14) (fun t ht hW => ⟨⟨r_14, ((g 7), (g 8), (g 9), (g 10), (g 11), u_15.1, u_15.2), rfl, ⟨((fun e9 => ⟨by rw [e9], by rw [e9]⟩ : fq_oldName12 f_tape f_words f_na a0 (g 4) (g 5) (g 6) (g 7) (g 8) (g 9) (g 10) (g 11) = (r_14, (g 7), (g 8), (g 9), (g 10), (g 11), u_15.1, u_15.2) → _) ((by rw [fq_oldName12]; (try rw [if_pos c_1]); (try rw [← hq_r_2]); (try rw [xL_eq]); (try rw [if_neg c_5]); (try rw [← hX_19]); (try rw [xL_eq]); (try rw [← hq_r_14]); (try rw [← hq_u_15]); try rfl))), hb_r_14, (gq_oldName12_s4 (y0 := g 7) (y1 := g 6) h0n hns hs9), (gq_oldName12_s5 (y0 := g 7) (y1 := g 6) h0n hns hs9), (Or.inl hp_18), (Or.inl hp_18)⟩, by rw [ht]; exact hP9, va_K.moved hW.alike hK9, hD9⟩, hS.F ht⟩) hS.2.2 dX12_oldName_36
  · refine lv_aload_n hx hb dX12_oldName_8 rfl (lv_at hl 0 rfl) ?_
    refine lv_iconst (v := 1) hx hb dX12_oldName_9 (by decide) ?_
    obtain ⟨hPc, hDc, hFc, hCc⟩ := zsub3 (ws' := [(mq, .inr (12, mF g gl rf))]) hP hD hS hA [0] (by decide) rfl
    have hKc := hK.sub (tys' := []) [] rfl
    refine va_calli (va_runV (As := [.int 1]) (rest := []) ⟨hx, hb, hml, hown, htw⟩ (gq_wrong l dC dI mq g gl rf (1 : Int32) H.size) (cwV 1 htw (xg_V (ck_25 _ (List.mem_of_getElem? (i := 21) rfl)) (ck_25 _ (List.mem_of_getElem? (i := 22) rfl)) (ck_25 _ (List.mem_of_getElem? (i := 23) rfl)) (ck_1 _ (List.mem_of_getElem? (i := 5) rfl)) (ck_26 _ (List.mem_of_getElem? (i := 0) rfl))) rfl rfl rfl (by exact ⟨rfl, hdc_14.1, hdc_14.2, hdd_26⟩) ⟨Nat.le_of_ble_eq_true rfl, Nat.le_of_ble_eq_true rfl⟩) ⟨fun a U g mk q => by obtain ⟨q0, q1, qP, qK, qD⟩ := q; exact ⟨q0, q1, qP, va_K.moved (u := U) (U := U.calling g mk a) (Vm.Alike.refl U.vm) qK, qD⟩, va_recv hKc hPc (ci := 12) (q0 := 0) rfl rfl, fun U hU hW => ⟨rfl, by rw [hU], by rw [hU]; exact hPc, va_K.moved hW.alike hKc, hDc.weaken (fun _ _ _ _ => trivial)⟩⟩ rfl rfl hl.1 rfl (lv_room (Nat.le_of_ble_eq_true rfl)) dX12_oldName_10 ⟨Nat.le_of_ble_eq_true rfl, Nat.le_of_ble_eq_true rfl⟩) hS (fun q _ h => hFc q h) hFc (fun r_20 u_21 t H1 locs ht hvm hw hB hz1 hk1 hS => ?_)
    try dsimp only at hw
    obtain ⟨hP1, hK1, hD1⟩ := hB
    rw [ht] at hP1
    have hK1 := va_K.moved hvm.symm hK1
    have hK1 : va_K (dC, dI) vwCl [] s := hK1
    obtain ⟨hP, hD⟩ := va_join (wr := [(eA0 (rf 0) (ck 0) 900 f_tape), (eA0 (rf 3) (ck 3) 118 f_words), (eA0 na cNa 12 f_na)]) (w1 := [(mq, .inr (12, mF (upd (upd g 4 u_21.1) 5 u_21.2) gl rf))]) hP hD [0] [1, 2, 3] hCc rfl (by decide) (by decide) hk1 hFc hP1 hD1
    generalize H1 = H at hP hS ⊢
    have hP : va_P (dC, dI) vwCl [(eA0 (rf 0) (ck 0) 900 f_tape), (eA0 (rf 3) (ck 3) 118 f_words), (eA0 na cNa 12 f_na), (mq, .inr (12, mF (upd (upd g 4 u_21.1) 5 u_21.2) gl rf))] H := hP
    have hD : va_D A [(eA0 (rf 0) (ck 0) 900 f_tape), (eA0 (rf 3) (ck 3) 118 f_words), (eA0 na cNa 12 f_na), (mq, .inr (12, mF (upd (upd g 4 u_21.1) 5 u_21.2) gl rf))] := hD
    refine W.widen (k := 0) (n := 0) (by omega) (by omega) ?_
    obtain ⟨hw, hb_r_20, hp_24⟩ := hw
    obtain ⟨X_25, hX_25⟩ : ∃ X9 : Int32 × (Int32) × (Int32), X9 = (fq_wrong (1 : Int32) (g 10)) := ⟨_, rfl⟩
    have hq_r_20 : r_20 = X_25.1 := by rw [hX_25]; exact hw.1
    have hq_u_21 : u_21 = X_25.2 := by rw [hX_25]; exact hw.2
    refine W.widen (k := 0) (n := 0) (by omega) (by omega) ?_
    obtain ⟨hP9, hD9⟩ := zsub2 (ws' := [(mq, .inr (12, mF (upd (upd g 4 u_21.1) 5 u_21.2) gl rf)), (eA0 (rf 0) (ck 0) 900 f_tape), (eA0 (rf 3) (ck 3) 118 f_words), (eA0 na cNa 12 f_na)]) hP hD [3, 0, 1, 2] (by decide) rfl
    have hK9 := hK.sub (tys' := []) [] rfl
    exact W.zret (v := r_20) hx hb hr (xz_nar hb_r_20) (fun t ht hW => ⟨⟨r_20, ((g 7), (g 8), (g 9), (g 10), (g 11), u_21.1, u_21.2), rfl, ⟨((fun e9 => ⟨by rw [e9], by rw [e9]⟩ : fq_oldName12 f_tape f_words f_na a0 (g 4) (g 5) (g 6) (g 7) (g 8) (g 9) (g 10) (g 11) = (r_20, (g 7), (g 8), (g 9), (g 10), (g 11), u_21.1, u_21.2) → _) ((by rw [fq_oldName12]; (try rw [if_neg c_1]); (try rw [← hX_25]); (try rw [xL_eq]); (try rw [← hq_r_20]); (try rw [← hq_u_21]); try rfl))), hb_r_20, (gq_oldName12_s6 (y0 := g 7) (y1 := g 6) h0n hns hs9), (gq_oldName12_s7 (y0 := g 7) (y1 := g 6) h0n hns hs9), (Or.inl hp_24), (Or.inl hp_24)⟩, by rw [ht]; exact hP9, va_K.moved hW.alike hK9, hD9⟩, hS.F ht⟩) hS.2.2 dX12_oldName_13
