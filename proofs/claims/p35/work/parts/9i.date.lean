theorem gy_countOf_s0  : (-1 : Int64) ≤ 1000000000000 := (by decide)
theorem gy_countOf_s1  : (-1 : Int64) ≤ 1000000000000 := (by decide)
theorem gy_countOf_s2  : (-1 : Int64) ≤ 1000000000000 := (by decide)
theorem gy_countOf_s3  : (-1 : Int64) ≤ 1000000000000 := (by decide)
set_option maxHeartbeats 4000000 in
set_option maxRecDepth 100000 in
theorem gy_countOf (l : Launch) (dC : Nat → ClassId) (dI : Nat → Nat → Nat) (mq : Nat) (g : Nat → Int32) (gl : Nat → Int64) (rf : Nat → Nat) (ck : Nat → ClassId) (f_landHas : Nat → Int32) (a0 : Int32) (a1 : Int64) (a2 : Int64) (hl0 : ¬ a0 < 0) (hl7 : a0 ≤ 7) : Met l yX12_countOf (Cond.code yX12_countOf cX12_countOf 8 (some .long) :: wsL_law) ({ frames := 2, cells := 0, slots := 0, locals := 46 }) (va_Pc [.ref mq, .int a0, .long a1, .long a2] (fun U => va_P (dC, dI) vwCl [(mq, .inr (12, mF g gl rf)), (eA0 (rf 29) (ck 29) 24 f_landHas)] U.heap ∧ va_K (dC, dI) vwCl [((ck 29), .int)] U)) (vp_Sl (fun r => (r = fq_countOf f_landHas a0 a1 a2) ∧ (r ≤ 1000000000000))) 0 0 (fun _ => False) := by
  refine Met.ofW (cc := cX12_countOf) (maxL := 8) (ret := (some .long)) (by decide) rfl ?_
  intro p e s m args below meth c s₁ B hml hv
  obtain ⟨rfl, hP, hK⟩ := hv
  have hx := B.exec
  have hb := B.bytes
  have hr := B.returns
  have hts := atoms_spec (ws := Cond.code yX12_countOf cX12_countOf 8 (some .long) :: wsL_law) B.pre
  have htw : ∀ w ∈ wsL_law, w.before _ s = true := fun w h => hts w (List.mem_cons_of_mem _ h)
  have hown : s.vm.findClass RX12 = some m.cls := findClass_of_methodNamed B.named
  have hlocks := B.notSynchronized
  have hl := lv_entry ([.ref mq, .int a0, .long a1, .long a2]) (n := 8) (Nat.le_of_ble_eq_true rfl)
  rw [lg_entry_eq]
  generalize (lg_sl ([.ref mq, .int a0, .long a1, .long a2]) ++ List.replicate (8 - (lg_sl ([.ref mq, .int a0, .long a1, .long a2])).length) Slot.unset).toArray = ls at hl ⊢
  have hl : lv_has ls 8 [(0, .ref mq), (1, .int a0), (2, .long a1), (4, .long a2)] := hl
  refine lv_aload_n hx hb dX12_countOf_0 rfl (lv_at hl 0 rfl) ?_
  refine lv_iload_n hx hb dX12_countOf_1 rfl (lv_at hl 1 rfl) ?_
  refine lv_lload_n hx hb dX12_countOf_2 rfl (lv_at hl 2 rfl) ?_
  have hPc := hP.sub (ws' := [(mq, .inr (12, mF g gl rf)), (eA0 (rf 29) (ck 29) 24 f_landHas)]) [0, 1] rfl
  have hKc := hK.sub (tys' := [((ck 29), .int)]) [0] rfl
  refine vp_callSi (W.runV (As := [.int a0, .long a1]) (rest := []) ⟨hx, hb, hml, hown, htw⟩ (gq_isYear l dC dI mq g gl rf ck f_landHas a0 a1 hl0 hl7) (cwV 2 htw (xg_V (ck_29 _ (List.mem_of_getElem? (i := 23) rfl)) (ck_30 _ (List.mem_of_getElem? (i := 0) rfl)) (ck_30 _ (List.mem_of_getElem? (i := 1) rfl)) (ck_1 _ (List.mem_of_getElem? (i := 5) rfl)) (ck_30 _ (List.mem_of_getElem? (i := 2) rfl))) rfl rfl rfl (by exact ⟨rfl, hdc_14.1, hdc_14.2, hdd_42⟩) ⟨Nat.le_of_ble_eq_true rfl, Nat.le_of_ble_eq_true rfl⟩) ⟨fun a U g mk q => by obtain ⟨q0, qP, qK⟩ := q; exact ⟨q0, qP, va_K.moved (u := U) (U := U.calling g mk a) (Vm.Alike.refl U.vm) qK⟩, va_recv hKc hPc (ci := 12) (q0 := 0) rfl rfl, fun U hU hW => ⟨rfl, by rw [hU]; exact hPc, va_K.moved hW.alike hKc⟩⟩ rfl rfl hl.1 rfl (lv_room (Nat.le_of_ble_eq_true rfl)) dX12_countOf_3 ⟨Nat.le_of_ble_eq_true rfl, Nat.le_of_ble_eq_true rfl⟩) (fun r_1 hw => ?_)
  try dsimp only at hw
  obtain ⟨hw, hb_r_1⟩ := hw
  have hq_r_1 : r_1 = (fq_isYear f_landHas a0 a1) := hw
  refine lv_if_eq (tgt := 28) hx hb dX12_countOf_6 (by decide) (fun c_2 => ?_) (fun c_2 => ?_)
  · refine lv_ldc2 (v := (-1)) hx hb hown (htw _ (ck_29 _ (List.mem_of_getElem? (i := 13) rfl))) dX12_countOf_28 ?_
    exact W.lret (v := (-1)) hx hb hr (fun t ht hW => ⟨(-1), rfl, ⟨(Eq.symm ((by rw [fq_countOf]; (try rw [← hq_r_1]); (try rw [xL_eq]); (try rw [if_pos c_2]); try rfl))), (gy_countOf_s0 )⟩, ht⟩) (fun _ h => by cases h) dX12_countOf_31
  · refine lv_lload hx hb dX12_countOf_9 (lv_at hl 3 rfl) ?_
    refine lv_lconst (v := 1) hx hb dX12_countOf_11 (by decide) ?_
    refine W.lcmp hx hb dX12_countOf_12 ?_
    refine lv_if_lt (tgt := 28) hx hb dX12_countOf_13 (by decide) (fun c_3 => ?_) (fun c_3 => ?_)
    · refine lv_ldc2 (v := (-1)) hx hb hown (htw _ (ck_29 _ (List.mem_of_getElem? (i := 13) rfl))) dX12_countOf_28 ?_
      exact W.lret (v := (-1)) hx hb hr (fun t ht hW => ⟨(-1), rfl, ⟨(Eq.symm ((by rw [fq_countOf]; (try rw [← hq_r_1]); (try rw [xL_eq]); (try rw [if_neg c_2]); (try rw [if_pos c_3]); try rfl))), (gy_countOf_s1 )⟩, ht⟩) (fun _ h => by cases h) dX12_countOf_31
    · refine lv_lload hx hb dX12_countOf_16 (lv_at hl 3 rfl) ?_
      refine lv_aload_n hx hb dX12_countOf_18 rfl (lv_at hl 0 rfl) ?_
      refine lv_iload_n hx hb dX12_countOf_19 rfl (lv_at hl 1 rfl) ?_
      refine lv_lload_n hx hb dX12_countOf_20 rfl (lv_at hl 2 rfl) ?_
      have hPc := hP.sub (ws' := [(mq, .inr (12, mF g gl rf)), (eA0 (rf 29) (ck 29) 24 f_landHas)]) [0, 1] rfl
      have hKc := hK.sub (tys' := [((ck 29), .int)]) [0] rfl
      refine vp_callSl (W.runV (As := [.int a0, .long a1]) (rest := [.long a2]) ⟨hx, hb, hml, hown, htw⟩ (gq_lengthOf l dC dI mq g gl rf ck f_landHas a0 a1 hl0 hl7) (cwV 2 htw (xg_V (ck_30 _ (List.mem_of_getElem? (i := 3) rfl)) (ck_30 _ (List.mem_of_getElem? (i := 4) rfl)) (ck_30 _ (List.mem_of_getElem? (i := 5) rfl)) (ck_1 _ (List.mem_of_getElem? (i := 5) rfl)) (ck_30 _ (List.mem_of_getElem? (i := 6) rfl))) rfl rfl rfl (by exact ⟨rfl, hdc_14.1, hdc_14.2, hdd_41⟩) ⟨Nat.le_of_ble_eq_true rfl, Nat.le_of_ble_eq_true rfl⟩) ⟨fun a U g mk q => by obtain ⟨q0, qP, qK⟩ := q; exact ⟨q0, qP, va_K.moved (u := U) (U := U.calling g mk a) (Vm.Alike.refl U.vm) qK⟩, va_recv hKc hPc (ci := 12) (q0 := 0) rfl rfl, fun U hU hW => ⟨rfl, by rw [hU]; exact hPc, va_K.moved hW.alike hKc⟩⟩ rfl rfl hl.1 rfl (lv_room (Nat.le_of_ble_eq_true rfl)) dX12_countOf_21 ⟨Nat.le_of_ble_eq_true rfl, Nat.le_of_ble_eq_true rfl⟩) (fun r_4 hw => ?_)
      try dsimp only at hw
      have hq_r_4 : r_4 = (fq_lengthOf f_landHas a0 a1) := hw
      refine W.lcmp hx hb dX12_countOf_24 ?_
      refine lv_if_le (tgt := 32) hx hb dX12_countOf_25 (by decide) (fun c_5 => ?_) (fun c_5 => ?_)
      · refine lv_aload_n hx hb dX12_countOf_32 rfl (lv_at hl 0 rfl) ?_
        refine lv_iload_n hx hb dX12_countOf_33 rfl (lv_at hl 1 rfl) ?_
        refine lv_lload_n hx hb dX12_countOf_34 rfl (lv_at hl 2 rfl) ?_
        have hPc := hP.sub (ws' := [(mq, .inr (12, mF g gl rf)), (eA0 (rf 29) (ck 29) 24 f_landHas)]) [0, 1] rfl
        have hKc := hK.sub (tys' := [((ck 29), .int)]) [0] rfl
        refine vp_callSl (W.runV (As := [.int a0, .long a1]) (rest := []) ⟨hx, hb, hml, hown, htw⟩ (gq_beginOf l dC dI mq g gl rf ck f_landHas a0 a1 hl0 hl7) (cwV 2 htw (xg_V (ck_30 _ (List.mem_of_getElem? (i := 7) rfl)) (ck_30 _ (List.mem_of_getElem? (i := 8) rfl)) (ck_30 _ (List.mem_of_getElem? (i := 9) rfl)) (ck_1 _ (List.mem_of_getElem? (i := 5) rfl)) (ck_30 _ (List.mem_of_getElem? (i := 10) rfl))) rfl rfl rfl (by exact ⟨rfl, hdc_14.1, hdc_14.2, hdd_41⟩) ⟨Nat.le_of_ble_eq_true rfl, Nat.le_of_ble_eq_true rfl⟩) ⟨fun a U g mk q => by obtain ⟨q0, qP, qK⟩ := q; exact ⟨q0, qP, va_K.moved (u := U) (U := U.calling g mk a) (Vm.Alike.refl U.vm) qK⟩, va_recv hKc hPc (ci := 12) (q0 := 0) rfl rfl, fun U hU hW => ⟨rfl, by rw [hU]; exact hPc, va_K.moved hW.alike hKc⟩⟩ rfl rfl hl.1 rfl (lv_room (Nat.le_of_ble_eq_true rfl)) dX12_countOf_35 ⟨Nat.le_of_ble_eq_true rfl, Nat.le_of_ble_eq_true rfl⟩) (fun r_6 hw => ?_)
        try dsimp only at hw
        have hq_r_6 : r_6 = (fq_beginOf f_landHas a0 a1) := hw
        refine lv_lload hx hb dX12_countOf_38 (lv_at hl 3 rfl) ?_
        refine lv_ladd hx hb dX12_countOf_40 ?_
        refine lv_lconst (v := 1) hx hb dX12_countOf_41 (by decide) ?_
        refine lv_lsub hx hb dX12_countOf_42 ?_
        refine lv_lstore (lv' := [(6, .long ((r_6 + a2) - 1)), (0, .ref mq), (1, .int a0), (2, .long a1), (4, .long a2)]) hx hb dX12_countOf_43 hl (by decide) rfl (fun ls hl => ?_)
        refine lv_lload hx hb dX12_countOf_45 (lv_at hl 0 rfl) ?_
        refine lv_ldc2 (v := 1000000000000) hx hb hown (htw _ (ck_29 _ (List.mem_of_getElem? (i := 22) rfl))) dX12_countOf_47 ?_
        refine W.lcmp hx hb dX12_countOf_50 ?_
        refine lv_if_le (tgt := 60) hx hb dX12_countOf_51 (by decide) (fun c_7 => ?_) (fun c_7 => ?_)
        · refine lv_lload hx hb dX12_countOf_60 (lv_at hl 0 rfl) ?_
          exact W.lret (v := ((r_6 + a2) - 1)) hx hb hr (fun t ht hW => ⟨((r_6 + a2) - 1), rfl, ⟨(Eq.symm ((by rw [fq_countOf]; (try rw [← hq_r_1]); (try rw [xL_eq]); (try rw [if_neg c_2]); (try rw [if_neg c_3]); (try rw [← hq_r_4]); (try rw [xL_eq]); (try rw [if_pos c_5]); (try rw [← hq_r_6]); (try rw [xL_eq]); (try rw [if_pos c_7]); try rfl))), ((lg_cmp_le _ _).mp c_7)⟩, ht⟩) (fun _ h => by cases h) dX12_countOf_62
        · refine lv_ldc2 (v := (-1)) hx hb hown (htw _ (ck_29 _ (List.mem_of_getElem? (i := 13) rfl))) dX12_countOf_54 ?_
          refine lv_goto (tgt := 62) hx hb dX12_countOf_57 (by decide) ?_
          exact W.lret (v := (-1)) hx hb hr (fun t ht hW => ⟨(-1), rfl, ⟨(Eq.symm ((by rw [fq_countOf]; (try rw [← hq_r_1]); (try rw [xL_eq]); (try rw [if_neg c_2]); (try rw [if_neg c_3]); (try rw [← hq_r_4]); (try rw [xL_eq]); (try rw [if_pos c_5]); (try rw [← hq_r_6]); (try rw [xL_eq]); (try rw [if_neg c_7]); try rfl))), (gy_countOf_s2 )⟩, ht⟩) (fun _ h => by cases h) dX12_countOf_62
      · refine lv_ldc2 (v := (-1)) hx hb hown (htw _ (ck_29 _ (List.mem_of_getElem? (i := 13) rfl))) dX12_countOf_28 ?_
        exact W.lret (v := (-1)) hx hb hr (fun t ht hW => ⟨(-1), rfl, ⟨(Eq.symm ((by rw [fq_countOf]; (try rw [← hq_r_1]); (try rw [xL_eq]); (try rw [if_neg c_2]); (try rw [if_neg c_3]); (try rw [← hq_r_4]); (try rw [xL_eq]); (try rw [if_neg c_5]); try rfl))), (gy_countOf_s3 )⟩, ht⟩) (fun _ h => by cases h) dX12_countOf_31

theorem gy_dateRead_s0  : ¬ ((4 : Int32) < 0) := (by decide)
theorem gy_dateRead_s1  : (4 : Int32) ≤ 7 := (by decide)
theorem gy_dateRead_s2  : (-1 : Int64) ≤ 1000000000000 := (by decide)
set_option maxHeartbeats 4000000 in
set_option maxRecDepth 100000 in
theorem gy_dateRead (l : Launch) (dC : Nat → ClassId) (dI : Nat → Nat → Nat) (mq : Nat) (g : Nat → Int32) (gl : Nat → Int64) (rf : Nat → Nat) (ck : Nat → ClassId) (f_tape : Nat → Int32) (f_words : Nat → Int32) (f_landHas : Nat → Int32) (a0 : Int64) (sz : Nat) (h0n : ¬ (g 7) < 0) (hns : (g 7) ≤ (g 6)) (hs9 : (g 6) ≤ 900) (hw7 : (f_words 117) = 32) : Met l yX12_dateRead (Cond.code yX12_dateRead cX12_dateRead 5 (some .boolean) :: wsL_law) ({ frames := 3, cells := 0, slots := 0, locals := 73 }) (va_Pc [.ref mq, .long a0] (fun U => U.heap.size = sz ∧ va_P (dC, dI) vwCl [(mq, .inr (12, mF g gl rf)), (eA0 (rf 0) (ck 0) 900 f_tape), (eA0 (rf 3) (ck 3) 118 f_words), (eA0 (rf 29) (ck 29) 24 f_landHas)] U.heap ∧ va_K (dC, dI) vwCl [((ck 0), .int), ((ck 3), .int), ((ck 29), .int)] U ∧ va_D (fun _ => True) [(mq, .inr (12, mF g gl rf)), (eA0 (rf 0) (ck 0) 900 f_tape), (eA0 (rf 3) (ck 3) 118 f_words), (eA0 (rf 29) (ck 29) 24 f_landHas)])) (va_Qi (fun (r : Int32) (u : (Int32) × (Int32) × (Int32) × (Int32) × (Int32) × (Int32) × (Int32) × (Int64)) => (r = (fq_dateRead f_tape f_words f_landHas a0 (g 4) (g 5) (g 6) (g 7) (g 8) (g 9) (g 10) (g 11) (g 18) (gl 44)).1 ∧ u = (fq_dateRead f_tape f_words f_landHas a0 (g 4) (g 5) (g 6) (g 7) (g 8) (g 9) (g 10) (g 11) (g 18) (gl 44)).2) ∧ (r = 0 ∨ r = 1) ∧ (¬ u.2.2.1 < 0) ∧ (u.2.2.1 ≤ (g 6)) ∧ (r = 0 ∨ ¬ u.2.2.2.2.2.2.2 < 0) ∧ (r = 0 ∨ u.2.2.2.2.2.2.2 ≤ 1000000000000)) (fun (u : (Int32) × (Int32) × (Int32) × (Int32) × (Int32) × (Int32) × (Int32) × (Int64)) t => va_P (dC, dI) vwCl [(mq, .inr (12, mF (upd (upd (upd (upd (upd (upd (upd g 4 u.1) 5 u.2.1) 7 u.2.2.1) 8 u.2.2.2.1) 9 u.2.2.2.2.1) 10 u.2.2.2.2.2.1) 11 u.2.2.2.2.2.2.1) (vp_updL gl 44 u.2.2.2.2.2.2.2) rf)), (eA0 (rf 0) (ck 0) 900 f_tape), (eA0 (rf 3) (ck 3) 118 f_words), (eA0 (rf 29) (ck 29) 24 f_landHas)] t.heap ∧ va_K (dC, dI) vwCl [] t ∧ va_D (va_A [(mq, .inr (12, mF g gl rf)), (eA0 (rf 0) (ck 0) 900 f_tape), (eA0 (rf 3) (ck 3) 118 f_words), (eA0 (rf 29) (ck 29) 24 f_landHas)] sz) [(mq, .inr (12, mF (upd (upd (upd (upd (upd (upd (upd g 4 u.1) 5 u.2.1) 7 u.2.2.1) 8 u.2.2.2.1) 9 u.2.2.2.2.1) 10 u.2.2.2.2.2.1) 11 u.2.2.2.2.2.2.1) (vp_updL gl 44 u.2.2.2.2.2.2.2) rf)), (eA0 (rf 0) (ck 0) 900 f_tape), (eA0 (rf 3) (ck 3) 118 f_words), (eA0 (rf 29) (ck 29) 24 f_landHas)]) (va_A [(mq, .inr (12, mF g gl rf)), (eA0 (rf 0) (ck 0) 900 f_tape), (eA0 (rf 3) (ck 3) 118 f_words), (eA0 (rf 29) (ck 29) 24 f_landHas)] sz)) 0 0 (va_A [(mq, .inr (12, mF g gl rf)), (eA0 (rf 0) (ck 0) 900 f_tape), (eA0 (rf 3) (ck 3) 118 f_words), (eA0 (rf 29) (ck 29) 24 f_landHas)] sz) := by
  refine Met.ofW (cc := cX12_dateRead) (maxL := 5) (ret := (some .boolean)) (by decide) rfl ?_
  intro p e s m args below meth c s₁ B hml hv
  obtain ⟨rfl, hsz, hP, hK, hD0⟩ := hv
  have hx := B.exec
  have hb := B.bytes
  have hr := B.returns
  have hts := atoms_spec (ws := Cond.code yX12_dateRead cX12_dateRead 5 (some .boolean) :: wsL_law) B.pre
  have htw : ∀ w ∈ wsL_law, w.before _ s = true := fun w h => hts w (List.mem_cons_of_mem _ h)
  have hown : s.vm.findClass RX12 = some m.cls := findClass_of_methodNamed B.named
  have hlocks := B.notSynchronized
  subst hsz
  have hD := hD0.self (sz := s.heap.size)
  generalize hAe : va_A [(mq, .inr (12, mF g gl rf)), (eA0 (rf 0) (ck 0) 900 f_tape), (eA0 (rf 3) (ck 3) 118 f_words), (eA0 (rf 29) (ck 29) 24 f_landHas)] s.heap.size = A at hD ⊢
  have hA : ∀ q : Nat, s.heap.size ≤ q → A q := fun q h => by rw [← hAe]; exact Or.inr h
  obtain ⟨H, rH⟩ : ∃ z : Heap, z = s.heap := ⟨_, rfl⟩
  have hS : va_S A s.heap H [] := by rw [rH]; exact va_S.rf
  have hP : va_P (dC, dI) vwCl [(mq, .inr (12, mF g gl rf)), (eA0 (rf 0) (ck 0) 900 f_tape), (eA0 (rf 3) (ck 3) 118 f_words), (eA0 (rf 29) (ck 29) 24 f_landHas)] H := by rw [rH]; exact hP
  rw [← rH]
  have hl := lv_entry ([.ref mq, .long a0]) (n := 5) (Nat.le_of_ble_eq_true rfl)
  rw [lg_entry_eq]
  generalize (lg_sl ([.ref mq, .long a0]) ++ List.replicate (5 - (lg_sl ([.ref mq, .long a0])).length) Slot.unset).toArray = ls at hl ⊢
  have hl : lv_has ls 5 [(0, .ref mq), (1, .long a0)] := hl
  refine lv_aload_n hx hb dX12_dateRead_0 rfl (lv_at hl 0 rfl) ?_
  refine lv_iconst (v := 0) hx hb dX12_dateRead_1 (by decide) ?_
  refine lv_ldc (v := 99999) hx hb hown (htw _ (ck_24 _ (List.mem_of_getElem? (i := 20) rfl))) dX12_dateRead_2 ?_
  obtain ⟨hPc, hDc, hFc, hCc⟩ := zsub3 (ws' := [(mq, .inr (12, mF g gl rf)), (eA0 (rf 0) (ck 0) 900 f_tape), (eA0 (rf 3) (ck 3) 118 f_words)]) hP hD hS hA [0, 1, 2] (by decide) rfl
  have hKc := hK.sub (tys' := [((ck 0), .int), ((ck 3), .int)]) [0, 1] rfl
  refine va_calli (va_runV (As := [.int 0, .int 99999]) (rest := []) ⟨hx, hb, hml, hown, htw⟩ (gq_number l dC dI mq g gl rf ck f_tape f_words (0 : Int32) (99999 : Int32) H.size h0n hns hs9 hw7) (cwV 2 htw (xg_V (ck_26 _ (List.mem_of_getElem? (i := 13) rfl)) (ck_26 _ (List.mem_of_getElem? (i := 14) rfl)) (ck_26 _ (List.mem_of_getElem? (i := 15) rfl)) (ck_1 _ (List.mem_of_getElem? (i := 5) rfl)) (ck_26 _ (List.mem_of_getElem? (i := 16) rfl))) rfl rfl rfl (by exact ⟨rfl, hdc_14.1, hdc_14.2, hdd_8⟩) ⟨Nat.le_of_ble_eq_true rfl, Nat.le_of_ble_eq_true rfl⟩) ⟨fun a U g mk q => by obtain ⟨q0, q1, qP, qK, qD⟩ := q; exact ⟨q0, q1, qP, va_K.moved (u := U) (U := U.calling g mk a) (Vm.Alike.refl U.vm) qK, qD⟩, va_recv hKc hPc (ci := 12) (q0 := 0) rfl rfl, fun U hU hW => ⟨rfl, by rw [hU], by rw [hU]; exact hPc, va_K.moved hW.alike hKc, hDc.weaken (fun _ _ _ _ => trivial)⟩⟩ rfl rfl hl.1 rfl (lv_room (Nat.le_of_ble_eq_true rfl)) dX12_dateRead_4 ⟨Nat.le_of_ble_eq_true rfl, Nat.le_of_ble_eq_true rfl⟩) hS (fun q _ h => hFc q h) hFc (fun r_1 u_2 t H1 locs ht hvm hw hB hz1 hk1 hS => ?_)
  try dsimp only at hw
  obtain ⟨hP1, hK1, hD1⟩ := hB
  rw [ht] at hP1
  have hK1 := va_K.moved hvm.symm hK1
  have hK1 : va_K (dC, dI) vwCl [] s := hK1
  obtain ⟨hP, hD⟩ := va_join (wr := [(eA0 (rf 29) (ck 29) 24 f_landHas)]) (w1 := [(mq, .inr (12, mF (upd (upd (upd (upd (upd (upd (upd g 4 u_2.2.2.2.2.2.1) 5 u_2.2.2.2.2.2.2) 7 u_2.1) 8 u_2.2.1) 9 u_2.2.2.1) 10 u_2.2.2.2.1) 11 u_2.2.2.2.2.1) gl rf)), (eA0 (rf 0) (ck 0) 900 f_tape), (eA0 (rf 3) (ck 3) 118 f_words)]) hP hD [0, 1, 2] [3] hCc rfl (by decide) (by decide) hk1 hFc hP1 hD1
  generalize H1 = H at hP hS ⊢
  have hP : va_P (dC, dI) vwCl [(eA0 (rf 29) (ck 29) 24 f_landHas), (mq, .inr (12, mF (upd (upd (upd (upd (upd (upd (upd g 4 u_2.2.2.2.2.2.1) 5 u_2.2.2.2.2.2.2) 7 u_2.1) 8 u_2.2.1) 9 u_2.2.2.1) 10 u_2.2.2.2.1) 11 u_2.2.2.2.2.1) gl rf)), (eA0 (rf 0) (ck 0) 900 f_tape), (eA0 (rf 3) (ck 3) 118 f_words)] H := hP
  have hD : va_D A [(eA0 (rf 29) (ck 29) 24 f_landHas), (mq, .inr (12, mF (upd (upd (upd (upd (upd (upd (upd g 4 u_2.2.2.2.2.2.1) 5 u_2.2.2.2.2.2.2) 7 u_2.1) 8 u_2.2.1) 9 u_2.2.2.1) 10 u_2.2.2.2.1) 11 u_2.2.2.2.2.1) gl rf)), (eA0 (rf 0) (ck 0) 900 f_tape), (eA0 (rf 3) (ck 3) 118 f_words)] := hD
  refine W.widen (k := 0) (n := 0) (by omega) (by omega) ?_
  obtain ⟨hw, hb_r_1, hp_10, hp_11, hp_12, hp_13⟩ := hw
  obtain ⟨X_14, hX_14⟩ : ∃ X9 : Int32 × (Int32) × (Int32) × (Int32) × (Int32) × (Int32) × (Int32) × (Int32), X9 = (fq_number f_tape f_words (0 : Int32) (99999 : Int32) (g 4) (g 5) (g 6) (g 7) (g 8) (g 9) (g 10) (g 11)) := ⟨_, rfl⟩
  have hq_r_1 : r_1 = X_14.1 := by rw [hX_14]; exact hw.1
  have hq_u_2 : u_2 = X_14.2 := by rw [hX_14]; exact hw.2
  refine lv_if_ne (tgt := 12) hx hb dX12_dateRead_7 (by decide) (fun c_15 => ?_) (fun c_15 => ?_)
  · refine lv_aload_n hx hb dX12_dateRead_12 rfl (lv_at hl 0 rfl) ?_
    refine va_get (D := (dC, dI)) (ci := 12) (v := .int u_2.2.2.2.2.1) (C := RX12) (T := TX12) (N := 76) hx hb htw inlX12 hown hK hP 1 rfl rfl 11 (by decide) (htw _ (ck_26 _ (List.mem_of_getElem? (i := 5) rfl))) (fun _ h9 => h9) rfl dX12_dateRead_13 ?_
    refine lv_istore_n (lv' := [(3, .int u_2.2.2.2.2.1), (0, .ref mq), (1, .long a0)]) hx hb dX12_dateRead_16 rfl hl (by decide) rfl (fun ls hl => ?_)
    refine lv_aload_n hx hb dX12_dateRead_17 rfl (lv_at hl 1 rfl) ?_
    refine va_get (D := (dC, dI)) (ci := 12) (v := .int u_2.2.2.2.1) (C := RX12) (T := TX12) (N := 76) hx hb htw inlX12 hown hK hP 1 rfl rfl 10 (by decide) (htw _ (ck_24 _ (List.mem_of_getElem? (i := 18) rfl))) (fun _ h9 => h9) rfl dX12_dateRead_18 ?_
    refine lv_istore (lv' := [(4, .int u_2.2.2.2.1), (3, .int u_2.2.2.2.2.1), (0, .ref mq), (1, .long a0)]) hx hb dX12_dateRead_21 hl (by decide) rfl (fun ls hl => ?_)
    refine lv_aload_n hx hb dX12_dateRead_23 rfl (lv_at hl 2 rfl) ?_
    refine lv_iconst (v := 0) hx hb dX12_dateRead_24 (by decide) ?_
    refine lv_ldc (v := 99999) hx hb hown (htw _ (ck_24 _ (List.mem_of_getElem? (i := 20) rfl))) dX12_dateRead_25 ?_
    obtain ⟨hPc, hDc, hFc, hCc⟩ := zsub3 (ws' := [(mq, .inr (12, mF (upd (upd (upd (upd (upd (upd (upd g 4 u_2.2.2.2.2.2.1) 5 u_2.2.2.2.2.2.2) 7 u_2.1) 8 u_2.2.1) 9 u_2.2.2.1) 10 u_2.2.2.2.1) 11 u_2.2.2.2.2.1) gl rf)), (eA0 (rf 0) (ck 0) 900 f_tape), (eA0 (rf 3) (ck 3) 118 f_words)]) hP hD hS hA [1, 2, 3] (by decide) rfl
    have hKc := hK.sub (tys' := [((ck 0), .int), ((ck 3), .int)]) [0, 1] rfl
    refine va_calli (va_runV (As := [.int 0, .int 99999]) (rest := []) ⟨hx, hb, hml, hown, htw⟩ (gq_number l dC dI mq (upd (upd (upd (upd (upd (upd (upd g 4 u_2.2.2.2.2.2.1) 5 u_2.2.2.2.2.2.2) 7 u_2.1) 8 u_2.2.1) 9 u_2.2.2.1) 10 u_2.2.2.2.1) 11 u_2.2.2.2.2.1) gl rf ck f_tape f_words (0 : Int32) (99999 : Int32) H.size hp_10 hp_11 hs9 hw7) (cwV 2 htw (xg_V (ck_26 _ (List.mem_of_getElem? (i := 13) rfl)) (ck_26 _ (List.mem_of_getElem? (i := 14) rfl)) (ck_26 _ (List.mem_of_getElem? (i := 15) rfl)) (ck_1 _ (List.mem_of_getElem? (i := 5) rfl)) (ck_26 _ (List.mem_of_getElem? (i := 16) rfl))) rfl rfl rfl (by exact ⟨rfl, hdc_14.1, hdc_14.2, hdd_8⟩) ⟨Nat.le_of_ble_eq_true rfl, Nat.le_of_ble_eq_true rfl⟩) ⟨fun a U g mk q => by obtain ⟨q0, q1, qP, qK, qD⟩ := q; exact ⟨q0, q1, qP, va_K.moved (u := U) (U := U.calling g mk a) (Vm.Alike.refl U.vm) qK, qD⟩, va_recv hKc hPc (ci := 12) (q0 := 0) rfl rfl, fun U hU hW => ⟨rfl, by rw [hU], by rw [hU]; exact hPc, va_K.moved hW.alike hKc, hDc.weaken (fun _ _ _ _ => trivial)⟩⟩ rfl rfl hl.1 rfl (lv_room (Nat.le_of_ble_eq_true rfl)) dX12_dateRead_27 ⟨Nat.le_of_ble_eq_true rfl, Nat.le_of_ble_eq_true rfl⟩) hS (fun q _ h => hFc q h) hFc (fun r_16 u_17 t H1 locs ht hvm hw hB hz1 hk1 hS => ?_)
    try dsimp only at hw
    obtain ⟨hP1, hK1, hD1⟩ := hB
    rw [ht] at hP1
    have hK1 := va_K.moved hvm.symm hK1
    have hK1 : va_K (dC, dI) vwCl [] s := hK1
    obtain ⟨hP, hD⟩ := va_join (wr := [(eA0 (rf 29) (ck 29) 24 f_landHas)]) (w1 := [(mq, .inr (12, mF (upd (upd (upd (upd (upd (upd (upd g 4 u_17.2.2.2.2.2.1) 5 u_17.2.2.2.2.2.2) 7 u_17.1) 8 u_17.2.1) 9 u_17.2.2.1) 10 u_17.2.2.2.1) 11 u_17.2.2.2.2.1) gl rf)), (eA0 (rf 0) (ck 0) 900 f_tape), (eA0 (rf 3) (ck 3) 118 f_words)]) hP hD [1, 2, 3] [0] hCc rfl (by decide) (by decide) hk1 hFc hP1 hD1
    generalize H1 = H at hP hS ⊢
    have hP : va_P (dC, dI) vwCl [(eA0 (rf 29) (ck 29) 24 f_landHas), (mq, .inr (12, mF (upd (upd (upd (upd (upd (upd (upd g 4 u_17.2.2.2.2.2.1) 5 u_17.2.2.2.2.2.2) 7 u_17.1) 8 u_17.2.1) 9 u_17.2.2.1) 10 u_17.2.2.2.1) 11 u_17.2.2.2.2.1) gl rf)), (eA0 (rf 0) (ck 0) 900 f_tape), (eA0 (rf 3) (ck 3) 118 f_words)] H := hP
    have hD : va_D A [(eA0 (rf 29) (ck 29) 24 f_landHas), (mq, .inr (12, mF (upd (upd (upd (upd (upd (upd (upd g 4 u_17.2.2.2.2.2.1) 5 u_17.2.2.2.2.2.2) 7 u_17.1) 8 u_17.2.1) 9 u_17.2.2.1) 10 u_17.2.2.2.1) 11 u_17.2.2.2.2.1) gl rf)), (eA0 (rf 0) (ck 0) 900 f_tape), (eA0 (rf 3) (ck 3) 118 f_words)] := hD
    refine W.widen (k := 0) (n := 0) (by omega) (by omega) ?_
    obtain ⟨hw, hb_r_16, hp_25, hp_26, hp_27, hp_28⟩ := hw
    obtain ⟨X_29, hX_29⟩ : ∃ X9 : Int32 × (Int32) × (Int32) × (Int32) × (Int32) × (Int32) × (Int32) × (Int32), X9 = (fq_number f_tape f_words (0 : Int32) (99999 : Int32) u_2.2.2.2.2.2.1 u_2.2.2.2.2.2.2 (g 6) u_2.1 u_2.2.1 u_2.2.2.1 u_2.2.2.2.1 u_2.2.2.2.2.1) := ⟨_, rfl⟩
    have hq_r_16 : r_16 = X_29.1 := by rw [hX_29]; exact hw.1
    have hq_u_17 : u_17 = X_29.2 := by rw [hX_29]; exact hw.2
    refine lv_if_ne (tgt := 35) hx hb dX12_dateRead_30 (by decide) (fun c_30 => ?_) (fun c_30 => ?_)
    · refine lv_aload_n hx hb dX12_dateRead_35 rfl (lv_at hl 2 rfl) ?_
      refine lv_aload_n hx hb dX12_dateRead_36 rfl (lv_at hl 2 rfl) ?_
      refine va_get (D := (dC, dI)) (ci := 12) (v := .int (g 18)) (C := RX12) (T := TX12) (N := 76) hx hb htw inlX12 hown hK hP 1 rfl rfl 18 (by decide) (htw _ (ck_10 _ (List.mem_of_getElem? (i := 19) rfl))) (fun _ h9 => h9) rfl dX12_dateRead_37 ?_
      obtain ⟨X_31, hX_31⟩ : ∃ X9 : (Int32) × (Int32) × (Int64) × (Int32) × (Int32) × (Int32) × (Int32) × (Int32) × (Int32) × (Int32), X9 = fq_dateRead_j f_landHas (g 18) u_2 u_17 := ⟨_, rfl⟩
      have hjoin_32 : ∀ (L3j : Int32) (L4j : Int32) (S0j : Int64) (m_fault_j : Int32) (m_faultPlace_j : Int32) (m_next_j : Int32) (m_kind_j : Int32) (m_which_j : Int32) (m_at_j : Int32) (m_got_j : Int32) (hj0j : ¬ m_next_j < 0) (hj1j : m_next_j ≤ (g 6)) (hjJ : S0j ≤ 1000000000000) (hE9 : X_31 = (L3j, L4j, S0j, m_fault_j, m_faultPlace_j, m_next_j, m_kind_j, m_which_j, m_at_j, m_got_j)) (H : Heap) (locs : List Loc) (ls : Array Slot) (hP : va_P (dC, dI) vwCl [(eA0 (rf 29) (ck 29) 24 f_landHas), (mq, .inr (12, mF (upd (upd (upd (upd (upd (upd (upd g 4 m_fault_j) 5 m_faultPlace_j) 7 m_next_j) 8 m_kind_j) 9 m_which_j) 10 m_at_j) 11 m_got_j) gl rf)), (eA0 (rf 0) (ck 0) 900 f_tape), (eA0 (rf 3) (ck 3) 118 f_words)] H) (hD : va_D A [(eA0 (rf 29) (ck 29) 24 f_landHas), (mq, .inr (12, mF (upd (upd (upd (upd (upd (upd (upd g 4 m_fault_j) 5 m_faultPlace_j) 7 m_next_j) 8 m_kind_j) 9 m_which_j) 10 m_at_j) 11 m_got_j) gl rf)), (eA0 (rf 0) (ck 0) 900 f_tape), (eA0 (rf 3) (ck 3) 118 f_words)]) (hS : va_S A s.heap H locs) (hl : lv_has ls 5 [(4, .int L4j), (3, .int L3j), (0, .ref mq), (1, .long a0)]), W p l e (headSpec (Cond.code yX12_dateRead cX12_dateRead 5 (some .boolean) :: wsL_law) ({ frames := 3, cells := 0, slots := 0, locals := 73 })).room s m ([.ref mq, .long a0] : List Value).toArray below meth c H locs 0 0 (MQ below (va_Qi (fun (r : Int32) (u : (Int32) × (Int32) × (Int32) × (Int32) × (Int32) × (Int32) × (Int32) × (Int64)) => (r = (fq_dateRead f_tape f_words f_landHas a0 (g 4) (g 5) (g 6) (g 7) (g 8) (g 9) (g 10) (g 11) (g 18) (gl 44)).1 ∧ u = (fq_dateRead f_tape f_words f_landHas a0 (g 4) (g 5) (g 6) (g 7) (g 8) (g 9) (g 10) (g 11) (g 18) (gl 44)).2) ∧ (r = 0 ∨ r = 1) ∧ (¬ u.2.2.1 < 0) ∧ (u.2.2.1 ≤ (g 6)) ∧ (r = 0 ∨ ¬ u.2.2.2.2.2.2.2 < 0) ∧ (r = 0 ∨ u.2.2.2.2.2.2.2 ≤ 1000000000000)) (fun (u : (Int32) × (Int32) × (Int32) × (Int32) × (Int32) × (Int32) × (Int32) × (Int64)) t => va_P (dC, dI) vwCl [(mq, .inr (12, mF (upd (upd (upd (upd (upd (upd (upd g 4 u.1) 5 u.2.1) 7 u.2.2.1) 8 u.2.2.2.1) 9 u.2.2.2.2.1) 10 u.2.2.2.2.2.1) 11 u.2.2.2.2.2.2.1) (vp_updL gl 44 u.2.2.2.2.2.2.2) rf)), (eA0 (rf 0) (ck 0) 900 f_tape), (eA0 (rf 3) (ck 3) 118 f_words), (eA0 (rf 29) (ck 29) 24 f_landHas)] t.heap ∧ va_K (dC, dI) vwCl [] t ∧ va_D A [(mq, .inr (12, mF (upd (upd (upd (upd (upd (upd (upd g 4 u.1) 5 u.2.1) 7 u.2.2.1) 8 u.2.2.2.1) 9 u.2.2.2.2.1) 10 u.2.2.2.2.2.1) 11 u.2.2.2.2.2.2.1) (vp_updL gl 44 u.2.2.2.2.2.2.2) rf)), (eA0 (rf 0) (ck 0) 900 f_tape), (eA0 (rf 3) (ck 3) 118 f_words), (eA0 (rf 29) (ck 29) 24 f_landHas)]) A) ([.ref mq, .long a0] : List Value).toArray s 0 0 A) (F0 m 61 ls [.long S0j, .ref mq]) := by
        intro L3j L4j S0j m_fault_j m_faultPlace_j m_next_j m_kind_j m_which_j m_at_j m_got_j hj0j hj1j hjJ hE9 H locs ls hP hD hS hl
        have hq_L3j : L3j = X_31.1 := by rw [hE9]
        have hq_L4j : L4j = X_31.2.1 := by rw [hE9]
        have hq_S0j : S0j = X_31.2.2.1 := by rw [hE9]
        have hq_m_fault_j : m_fault_j = X_31.2.2.2.1 := by rw [hE9]
        have hq_m_faultPlace_j : m_faultPlace_j = X_31.2.2.2.2.1 := by rw [hE9]
        have hq_m_next_j : m_next_j = X_31.2.2.2.2.2.1 := by rw [hE9]
        have hq_m_kind_j : m_kind_j = X_31.2.2.2.2.2.2.1 := by rw [hE9]
        have hq_m_which_j : m_which_j = X_31.2.2.2.2.2.2.2.1 := by rw [hE9]
        have hq_m_at_j : m_at_j = X_31.2.2.2.2.2.2.2.2.1 := by rw [hE9]
        have hq_m_got_j : m_got_j = X_31.2.2.2.2.2.2.2.2.2 := by rw [hE9]
        refine va_put (D := (dC, dI)) (ci := 12) (v := .long S0j) (ty := tyX12 44) (C := RX12) (T := TX12) (N := 76) hx hb htw inlX12 tyX12 tyX12_ok nmX12 hown hK hP hD hS 1 rfl rfl 44 (by decide) (htw _ (ck_29 _ (List.mem_of_getElem? (i := 12) rfl))) (fun _ h9 => h9) rfl (tyX12_ok 44 (by decide)) rfl rfl (Nat.le_of_ble_eq_true rfl) dX12_dateRead_61 (fun H locs hP hD hS => ?_)
        have hP : va_P (dC, dI) vwCl [(eA0 (rf 29) (ck 29) 24 f_landHas), (mq, .inr (12, mF (upd (upd (upd (upd (upd (upd (upd g 4 m_fault_j) 5 m_faultPlace_j) 7 m_next_j) 8 m_kind_j) 9 m_which_j) 10 m_at_j) 11 m_got_j) (vp_updL gl 44 S0j) rf)), (eA0 (rf 0) (ck 0) 900 f_tape), (eA0 (rf 3) (ck 3) 118 f_words)] H := hP
        have hD : va_D A [(eA0 (rf 29) (ck 29) 24 f_landHas), (mq, .inr (12, mF (upd (upd (upd (upd (upd (upd (upd g 4 m_fault_j) 5 m_faultPlace_j) 7 m_next_j) 8 m_kind_j) 9 m_which_j) 10 m_at_j) 11 m_got_j) (vp_updL gl 44 S0j) rf)), (eA0 (rf 0) (ck 0) 900 f_tape), (eA0 (rf 3) (ck 3) 118 f_words)] := hD
        refine lv_aload_n hx hb dX12_dateRead_64 rfl (lv_at hl 2 rfl) ?_
        refine va_get (D := (dC, dI)) (ci := 12) (v := .long S0j) (C := RX12) (T := TX12) (N := 76) hx hb htw inlX12 hown hK hP 1 rfl rfl 44 (by decide) (htw _ (ck_29 _ (List.mem_of_getElem? (i := 12) rfl))) (fun _ h9 => h9) rfl dX12_dateRead_65 ?_
        refine lv_lconst (v := 0) hx hb dX12_dateRead_68 (by decide) ?_
        refine W.lcmp hx hb dX12_dateRead_69 ?_
        refine lv_if_lt (tgt := 82) hx hb dX12_dateRead_70 (by decide) (fun c_33 => ?_) (fun c_33 => ?_)
        · refine lv_aload_n hx hb dX12_dateRead_82 rfl (lv_at hl 2 rfl) ?_
          refine lv_iload hx hb dX12_dateRead_83 (lv_at hl 0 rfl) ?_
          refine va_put (D := (dC, dI)) (ci := 12) (v := .int L4j) (ty := tyX12 10) (C := RX12) (T := TX12) (N := 76) hx hb htw inlX12 tyX12 tyX12_ok nmX12 hown hK hP hD hS 1 rfl rfl 10 (by decide) (htw _ (ck_24 _ (List.mem_of_getElem? (i := 18) rfl))) (fun _ h9 => h9) rfl (tyX12_ok 10 (by decide)) rfl rfl (Nat.le_of_ble_eq_true rfl) dX12_dateRead_85 (fun H locs hP hD hS => ?_)
          have hP : va_P (dC, dI) vwCl [(eA0 (rf 29) (ck 29) 24 f_landHas), (mq, .inr (12, mF (upd (upd (upd (upd (upd (upd (upd g 4 m_fault_j) 5 m_faultPlace_j) 7 m_next_j) 8 m_kind_j) 9 m_which_j) 10 L4j) 11 m_got_j) (vp_updL gl 44 S0j) rf)), (eA0 (rf 0) (ck 0) 900 f_tape), (eA0 (rf 3) (ck 3) 118 f_words)] H := hP
          have hD : va_D A [(eA0 (rf 29) (ck 29) 24 f_landHas), (mq, .inr (12, mF (upd (upd (upd (upd (upd (upd (upd g 4 m_fault_j) 5 m_faultPlace_j) 7 m_next_j) 8 m_kind_j) 9 m_which_j) 10 L4j) 11 m_got_j) (vp_updL gl 44 S0j) rf)), (eA0 (rf 0) (ck 0) 900 f_tape), (eA0 (rf 3) (ck 3) 118 f_words)] := hD
          refine lv_aload_n hx hb dX12_dateRead_88 rfl (lv_at hl 2 rfl) ?_
          refine lv_iconst (v := 5) hx hb dX12_dateRead_89 (by decide) ?_
          obtain ⟨hPc, hDc, hFc, hCc⟩ := zsub3 (ws' := [(mq, .inr (12, mF (upd (upd (upd (upd (upd (upd (upd g 4 m_fault_j) 5 m_faultPlace_j) 7 m_next_j) 8 m_kind_j) 9 m_which_j) 10 L4j) 11 m_got_j) (vp_updL gl 44 S0j) rf))]) hP hD hS hA [1] (by decide) rfl
          have hKc := hK.sub (tys' := []) [] rfl
          refine va_calli (va_runV (As := [.int 5]) (rest := []) ⟨hx, hb, hml, hown, htw⟩ (gq_wrong l dC dI mq (upd (upd (upd (upd (upd (upd (upd g 4 m_fault_j) 5 m_faultPlace_j) 7 m_next_j) 8 m_kind_j) 9 m_which_j) 10 L4j) 11 m_got_j) (vp_updL gl 44 S0j) rf (5 : Int32) H.size) (cwV 1 htw (xg_V (ck_25 _ (List.mem_of_getElem? (i := 21) rfl)) (ck_25 _ (List.mem_of_getElem? (i := 22) rfl)) (ck_25 _ (List.mem_of_getElem? (i := 23) rfl)) (ck_1 _ (List.mem_of_getElem? (i := 5) rfl)) (ck_26 _ (List.mem_of_getElem? (i := 0) rfl))) rfl rfl rfl (by exact ⟨rfl, hdc_14.1, hdc_14.2, hdd_26⟩) ⟨Nat.le_of_ble_eq_true rfl, Nat.le_of_ble_eq_true rfl⟩) ⟨fun a U g mk q => by obtain ⟨q0, q1, qP, qK, qD⟩ := q; exact ⟨q0, q1, qP, va_K.moved (u := U) (U := U.calling g mk a) (Vm.Alike.refl U.vm) qK, qD⟩, va_recv hKc hPc (ci := 12) (q0 := 0) rfl rfl, fun U hU hW => ⟨rfl, by rw [hU], by rw [hU]; exact hPc, va_K.moved hW.alike hKc, hDc.weaken (fun _ _ _ _ => trivial)⟩⟩ rfl rfl hl.1 rfl (lv_room (Nat.le_of_ble_eq_true rfl)) dX12_dateRead_90 ⟨Nat.le_of_ble_eq_true rfl, Nat.le_of_ble_eq_true rfl⟩) hS (fun q _ h => hFc q h) hFc (fun r_34 u_35 t H1 locs ht hvm hw hB hz1 hk1 hS => ?_)
          try dsimp only at hw
          obtain ⟨hP1, hK1, hD1⟩ := hB
          rw [ht] at hP1
          have hK1 := va_K.moved hvm.symm hK1
          have hK1 : va_K (dC, dI) vwCl [] s := hK1
          obtain ⟨hP, hD⟩ := va_join (wr := [(eA0 (rf 29) (ck 29) 24 f_landHas), (eA0 (rf 0) (ck 0) 900 f_tape), (eA0 (rf 3) (ck 3) 118 f_words)]) (w1 := [(mq, .inr (12, mF (upd (upd (upd (upd (upd (upd (upd g 4 u_35.1) 5 u_35.2) 7 m_next_j) 8 m_kind_j) 9 m_which_j) 10 L4j) 11 m_got_j) (vp_updL gl 44 S0j) rf))]) hP hD [1] [0, 2, 3] hCc rfl (by decide) (by decide) hk1 hFc hP1 hD1
          generalize H1 = H at hP hS ⊢
          have hP : va_P (dC, dI) vwCl [(eA0 (rf 29) (ck 29) 24 f_landHas), (eA0 (rf 0) (ck 0) 900 f_tape), (eA0 (rf 3) (ck 3) 118 f_words), (mq, .inr (12, mF (upd (upd (upd (upd (upd (upd (upd g 4 u_35.1) 5 u_35.2) 7 m_next_j) 8 m_kind_j) 9 m_which_j) 10 L4j) 11 m_got_j) (vp_updL gl 44 S0j) rf))] H := hP
          have hD : va_D A [(eA0 (rf 29) (ck 29) 24 f_landHas), (eA0 (rf 0) (ck 0) 900 f_tape), (eA0 (rf 3) (ck 3) 118 f_words), (mq, .inr (12, mF (upd (upd (upd (upd (upd (upd (upd g 4 u_35.1) 5 u_35.2) 7 m_next_j) 8 m_kind_j) 9 m_which_j) 10 L4j) 11 m_got_j) (vp_updL gl 44 S0j) rf))] := hD
          refine W.widen (k := 0) (n := 0) (by omega) (by omega) ?_
          obtain ⟨hw, hb_r_34, hp_38⟩ := hw
          obtain ⟨X_39, hX_39⟩ : ∃ X9 : Int32 × (Int32) × (Int32), X9 = (fq_wrong (5 : Int32) L4j) := ⟨_, rfl⟩
          have hq_r_34 : r_34 = X_39.1 := by rw [hX_39]; exact hw.1
          have hq_u_35 : u_35 = X_39.2 := by rw [hX_39]; exact hw.2
          refine W.widen (k := 0) (n := 0) (by omega) (by omega) ?_
          obtain ⟨hP9, hD9⟩ := zsub2 (ws' := [(mq, .inr (12, mF (upd (upd (upd (upd (upd (upd (upd g 4 u_35.1) 5 u_35.2) 7 m_next_j) 8 m_kind_j) 9 m_which_j) 10 L4j) 11 m_got_j) (vp_updL gl 44 S0j) rf)), (eA0 (rf 0) (ck 0) 900 f_tape), (eA0 (rf 3) (ck 3) 118 f_words), (eA0 (rf 29) (ck 29) 24 f_landHas)]) hP hD [3, 1, 2, 0] (by decide) rfl
          have hK9 := hK.sub (tys' := []) [] rfl
          exact W.zret (v := r_34) hx hb hr (xz_nar hb_r_34) (fun t ht hW => ⟨⟨r_34, (u_35.1, u_35.2, m_next_j, m_kind_j, m_which_j, L4j, m_got_j, S0j), rfl, ⟨((fun e9 => ⟨by rw [e9], by rw [e9]⟩ : fq_dateRead f_tape f_words f_landHas a0 (g 4) (g 5) (g 6) (g 7) (g 8) (g 9) (g 10) (g 11) (g 18) (gl 44) = (r_34, u_35.1, u_35.2, m_next_j, m_kind_j, m_which_j, L4j, m_got_j, S0j) → _) ((by rw [fq_dateRead]; (try rw [← hX_14]); (try rw [xL_eq]); (try rw [← hq_r_1]); (try rw [← hq_u_2]); (try rw [if_neg c_15]); (try rw [← hX_29]); (try rw [xL_eq]); (try rw [← hq_r_16]); (try rw [← hq_u_17]); (try rw [if_neg c_30]); (try rw [← hX_31]); (try rw [xL_eq]); (try rw [← hq_L3j]); (try rw [← hq_L4j]); (try rw [← hq_S0j]); (try rw [← hq_m_fault_j]); (try rw [← hq_m_faultPlace_j]); (try rw [← hq_m_next_j]); (try rw [← hq_m_kind_j]); (try rw [← hq_m_which_j]); (try rw [← hq_m_at_j]); (try rw [← hq_m_got_j]); (try rw [if_pos c_33]); (try rw [← hX_39]); (try rw [xL_eq]); (try rw [← hq_r_34]); (try rw [← hq_u_35]); try rfl))), hb_r_34, hj0j, hj1j, (Or.inl hp_38), (Or.inl hp_38)⟩, by rw [ht]; exact hP9, va_K.moved hW.alike hK9, hD9⟩, hS.F ht⟩) hS.2.2 dX12_dateRead_93
        · refine lv_aload_n hx hb dX12_dateRead_73 rfl (lv_at hl 2 rfl) ?_
          refine va_get (D := (dC, dI)) (ci := 12) (v := .long S0j) (C := RX12) (T := TX12) (N := 76) hx hb htw inlX12 hown hK hP 1 rfl rfl 44 (by decide) (htw _ (ck_29 _ (List.mem_of_getElem? (i := 12) rfl))) (fun _ h9 => h9) rfl dX12_dateRead_74 ?_
          refine lv_lload_n hx hb dX12_dateRead_77 rfl (lv_at hl 3 rfl) ?_
          refine W.lcmp hx hb dX12_dateRead_78 ?_
          refine lv_if_ge (tgt := 94) hx hb dX12_dateRead_79 (by decide) (fun c_40 => ?_) (fun c_40 => ?_)
          · refine lv_iconst (v := 1) hx hb dX12_dateRead_94 (by decide) ?_
            refine W.widen (k := 0) (n := 0) (by omega) (by omega) ?_
            obtain ⟨hP9, hD9⟩ := zsub2 (ws' := [(mq, .inr (12, mF (upd (upd (upd (upd (upd (upd (upd g 4 m_fault_j) 5 m_faultPlace_j) 7 m_next_j) 8 m_kind_j) 9 m_which_j) 10 m_at_j) 11 m_got_j) (vp_updL gl 44 S0j) rf)), (eA0 (rf 0) (ck 0) 900 f_tape), (eA0 (rf 3) (ck 3) 118 f_words), (eA0 (rf 29) (ck 29) 24 f_landHas)]) hP hD [1, 2, 3, 0] (by decide) rfl
            have hK9 := hK.sub (tys' := []) [] rfl
            exact W.zret (v := 1) hx hb hr (by first | rfl | decide) (fun t ht hW => ⟨⟨1, (m_fault_j, m_faultPlace_j, m_next_j, m_kind_j, m_which_j, m_at_j, m_got_j, S0j), rfl, ⟨((fun e9 => ⟨by rw [e9], by rw [e9]⟩ : fq_dateRead f_tape f_words f_landHas a0 (g 4) (g 5) (g 6) (g 7) (g 8) (g 9) (g 10) (g 11) (g 18) (gl 44) = ((1 : Int32), m_fault_j, m_faultPlace_j, m_next_j, m_kind_j, m_which_j, m_at_j, m_got_j, S0j) → _) ((by rw [fq_dateRead]; (try rw [← hX_14]); (try rw [xL_eq]); (try rw [← hq_r_1]); (try rw [← hq_u_2]); (try rw [if_neg c_15]); (try rw [← hX_29]); (try rw [xL_eq]); (try rw [← hq_r_16]); (try rw [← hq_u_17]); (try rw [if_neg c_30]); (try rw [← hX_31]); (try rw [xL_eq]); (try rw [← hq_L3j]); (try rw [← hq_L4j]); (try rw [← hq_S0j]); (try rw [← hq_m_fault_j]); (try rw [← hq_m_faultPlace_j]); (try rw [← hq_m_next_j]); (try rw [← hq_m_kind_j]); (try rw [← hq_m_which_j]); (try rw [← hq_m_at_j]); (try rw [← hq_m_got_j]); (try rw [if_neg c_33]); (try rw [if_pos c_40]); try rfl))), Or.inr rfl, hj0j, hj1j, (Or.inr (fun q9 => c_33 ((lg_cmp_lt _ _).mpr q9))), (Or.inr hjJ)⟩, by rw [ht]; exact hP9, va_K.moved hW.alike hK9, hD9⟩, hS.F ht⟩) hS.2.2 dX12_dateRead_95
          · refine lv_aload_n hx hb dX12_dateRead_82 rfl (lv_at hl 2 rfl) ?_
            refine lv_iload hx hb dX12_dateRead_83 (lv_at hl 0 rfl) ?_
            refine va_put (D := (dC, dI)) (ci := 12) (v := .int L4j) (ty := tyX12 10) (C := RX12) (T := TX12) (N := 76) hx hb htw inlX12 tyX12 tyX12_ok nmX12 hown hK hP hD hS 1 rfl rfl 10 (by decide) (htw _ (ck_24 _ (List.mem_of_getElem? (i := 18) rfl))) (fun _ h9 => h9) rfl (tyX12_ok 10 (by decide)) rfl rfl (Nat.le_of_ble_eq_true rfl) dX12_dateRead_85 (fun H locs hP hD hS => ?_)
            have hP : va_P (dC, dI) vwCl [(eA0 (rf 29) (ck 29) 24 f_landHas), (mq, .inr (12, mF (upd (upd (upd (upd (upd (upd (upd g 4 m_fault_j) 5 m_faultPlace_j) 7 m_next_j) 8 m_kind_j) 9 m_which_j) 10 L4j) 11 m_got_j) (vp_updL gl 44 S0j) rf)), (eA0 (rf 0) (ck 0) 900 f_tape), (eA0 (rf 3) (ck 3) 118 f_words)] H := hP
            have hD : va_D A [(eA0 (rf 29) (ck 29) 24 f_landHas), (mq, .inr (12, mF (upd (upd (upd (upd (upd (upd (upd g 4 m_fault_j) 5 m_faultPlace_j) 7 m_next_j) 8 m_kind_j) 9 m_which_j) 10 L4j) 11 m_got_j) (vp_updL gl 44 S0j) rf)), (eA0 (rf 0) (ck 0) 900 f_tape), (eA0 (rf 3) (ck 3) 118 f_words)] := hD
            refine lv_aload_n hx hb dX12_dateRead_88 rfl (lv_at hl 2 rfl) ?_
            refine lv_iconst (v := 5) hx hb dX12_dateRead_89 (by decide) ?_
            obtain ⟨hPc, hDc, hFc, hCc⟩ := zsub3 (ws' := [(mq, .inr (12, mF (upd (upd (upd (upd (upd (upd (upd g 4 m_fault_j) 5 m_faultPlace_j) 7 m_next_j) 8 m_kind_j) 9 m_which_j) 10 L4j) 11 m_got_j) (vp_updL gl 44 S0j) rf))]) hP hD hS hA [1] (by decide) rfl
            have hKc := hK.sub (tys' := []) [] rfl
            refine va_calli (va_runV (As := [.int 5]) (rest := []) ⟨hx, hb, hml, hown, htw⟩ (gq_wrong l dC dI mq (upd (upd (upd (upd (upd (upd (upd g 4 m_fault_j) 5 m_faultPlace_j) 7 m_next_j) 8 m_kind_j) 9 m_which_j) 10 L4j) 11 m_got_j) (vp_updL gl 44 S0j) rf (5 : Int32) H.size) (cwV 1 htw (xg_V (ck_25 _ (List.mem_of_getElem? (i := 21) rfl)) (ck_25 _ (List.mem_of_getElem? (i := 22) rfl)) (ck_25 _ (List.mem_of_getElem? (i := 23) rfl)) (ck_1 _ (List.mem_of_getElem? (i := 5) rfl)) (ck_26 _ (List.mem_of_getElem? (i := 0) rfl))) rfl rfl rfl (by exact ⟨rfl, hdc_14.1, hdc_14.2, hdd_26⟩) ⟨Nat.le_of_ble_eq_true rfl, Nat.le_of_ble_eq_true rfl⟩) ⟨fun a U g mk q => by obtain ⟨q0, q1, qP, qK, qD⟩ := q; exact ⟨q0, q1, qP, va_K.moved (u := U) (U := U.calling g mk a) (Vm.Alike.refl U.vm) qK, qD⟩, va_recv hKc hPc (ci := 12) (q0 := 0) rfl rfl, fun U hU hW => ⟨rfl, by rw [hU], by rw [hU]; exact hPc, va_K.moved hW.alike hKc, hDc.weaken (fun _ _ _ _ => trivial)⟩⟩ rfl rfl hl.1 rfl (lv_room (Nat.le_of_ble_eq_true rfl)) dX12_dateRead_90 ⟨Nat.le_of_ble_eq_true rfl, Nat.le_of_ble_eq_true rfl⟩) hS (fun q _ h => hFc q h) hFc (fun r_41 u_42 t H1 locs ht hvm hw hB hz1 hk1 hS => ?_)
            try dsimp only at hw
            obtain ⟨hP1, hK1, hD1⟩ := hB
            rw [ht] at hP1
            have hK1 := va_K.moved hvm.symm hK1
            have hK1 : va_K (dC, dI) vwCl [] s := hK1
            obtain ⟨hP, hD⟩ := va_join (wr := [(eA0 (rf 29) (ck 29) 24 f_landHas), (eA0 (rf 0) (ck 0) 900 f_tape), (eA0 (rf 3) (ck 3) 118 f_words)]) (w1 := [(mq, .inr (12, mF (upd (upd (upd (upd (upd (upd (upd g 4 u_42.1) 5 u_42.2) 7 m_next_j) 8 m_kind_j) 9 m_which_j) 10 L4j) 11 m_got_j) (vp_updL gl 44 S0j) rf))]) hP hD [1] [0, 2, 3] hCc rfl (by decide) (by decide) hk1 hFc hP1 hD1
            generalize H1 = H at hP hS ⊢
            have hP : va_P (dC, dI) vwCl [(eA0 (rf 29) (ck 29) 24 f_landHas), (eA0 (rf 0) (ck 0) 900 f_tape), (eA0 (rf 3) (ck 3) 118 f_words), (mq, .inr (12, mF (upd (upd (upd (upd (upd (upd (upd g 4 u_42.1) 5 u_42.2) 7 m_next_j) 8 m_kind_j) 9 m_which_j) 10 L4j) 11 m_got_j) (vp_updL gl 44 S0j) rf))] H := hP
            have hD : va_D A [(eA0 (rf 29) (ck 29) 24 f_landHas), (eA0 (rf 0) (ck 0) 900 f_tape), (eA0 (rf 3) (ck 3) 118 f_words), (mq, .inr (12, mF (upd (upd (upd (upd (upd (upd (upd g 4 u_42.1) 5 u_42.2) 7 m_next_j) 8 m_kind_j) 9 m_which_j) 10 L4j) 11 m_got_j) (vp_updL gl 44 S0j) rf))] := hD
            refine W.widen (k := 0) (n := 0) (by omega) (by omega) ?_
            obtain ⟨hw, hb_r_41, hp_45⟩ := hw
            obtain ⟨X_46, hX_46⟩ : ∃ X9 : Int32 × (Int32) × (Int32), X9 = (fq_wrong (5 : Int32) L4j) := ⟨_, rfl⟩
            have hq_r_41 : r_41 = X_46.1 := by rw [hX_46]; exact hw.1
            have hq_u_42 : u_42 = X_46.2 := by rw [hX_46]; exact hw.2
            refine W.widen (k := 0) (n := 0) (by omega) (by omega) ?_
            obtain ⟨hP9, hD9⟩ := zsub2 (ws' := [(mq, .inr (12, mF (upd (upd (upd (upd (upd (upd (upd g 4 u_42.1) 5 u_42.2) 7 m_next_j) 8 m_kind_j) 9 m_which_j) 10 L4j) 11 m_got_j) (vp_updL gl 44 S0j) rf)), (eA0 (rf 0) (ck 0) 900 f_tape), (eA0 (rf 3) (ck 3) 118 f_words), (eA0 (rf 29) (ck 29) 24 f_landHas)]) hP hD [3, 1, 2, 0] (by decide) rfl
            have hK9 := hK.sub (tys' := []) [] rfl
            exact W.zret (v := r_41) hx hb hr (xz_nar hb_r_41) (fun t ht hW => ⟨⟨r_41, (u_42.1, u_42.2, m_next_j, m_kind_j, m_which_j, L4j, m_got_j, S0j), rfl, ⟨((fun e9 => ⟨by rw [e9], by rw [e9]⟩ : fq_dateRead f_tape f_words f_landHas a0 (g 4) (g 5) (g 6) (g 7) (g 8) (g 9) (g 10) (g 11) (g 18) (gl 44) = (r_41, u_42.1, u_42.2, m_next_j, m_kind_j, m_which_j, L4j, m_got_j, S0j) → _) ((by rw [fq_dateRead]; (try rw [← hX_14]); (try rw [xL_eq]); (try rw [← hq_r_1]); (try rw [← hq_u_2]); (try rw [if_neg c_15]); (try rw [← hX_29]); (try rw [xL_eq]); (try rw [← hq_r_16]); (try rw [← hq_u_17]); (try rw [if_neg c_30]); (try rw [← hX_31]); (try rw [xL_eq]); (try rw [← hq_L3j]); (try rw [← hq_L4j]); (try rw [← hq_S0j]); (try rw [← hq_m_fault_j]); (try rw [← hq_m_faultPlace_j]); (try rw [← hq_m_next_j]); (try rw [← hq_m_kind_j]); (try rw [← hq_m_which_j]); (try rw [← hq_m_at_j]); (try rw [← hq_m_got_j]); (try rw [if_neg c_33]); (try rw [if_neg c_40]); (try rw [← hX_46]); (try rw [xL_eq]); (try rw [← hq_r_41]); (try rw [← hq_u_42]); try rfl))), hb_r_41, hj0j, hj1j, (Or.inl hp_45), (Or.inl hp_45)⟩, by rw [ht]; exact hP9, va_K.moved hW.alike hK9, hD9⟩, hS.F ht⟩) hS.2.2 dX12_dateRead_93
      refine lv_if_ne (tgt := 49) hx hb dX12_dateRead_40 (by decide) (fun c_47 => ?_) (fun c_47 => ?_)
      · refine lv_aload_n hx hb dX12_dateRead_49 rfl (lv_at hl 2 rfl) ?_
        refine lv_iconst (v := 4) hx hb dX12_dateRead_50 (by decide) ?_
        refine lv_iload_n hx hb dX12_dateRead_51 rfl (lv_at hl 1 rfl) ?_
        refine lv_i2l (v := u_2.2.2.2.2.1.toInt64) hx hb dX12_dateRead_52 rfl ?_
        refine lv_aload_n hx hb dX12_dateRead_53 rfl (lv_at hl 2 rfl) ?_
        refine va_get (D := (dC, dI)) (ci := 12) (v := .int u_17.2.2.2.2.1) (C := RX12) (T := TX12) (N := 76) hx hb htw inlX12 hown hK hP 1 rfl rfl 11 (by decide) (htw _ (ck_26 _ (List.mem_of_getElem? (i := 5) rfl))) (fun _ h9 => h9) rfl dX12_dateRead_54 ?_
        refine lv_i2l (v := u_17.2.2.2.2.1.toInt64) hx hb dX12_dateRead_57 rfl ?_
        have hPc := hP.sub (ws' := [(mq, .inr (12, mF (upd (upd (upd (upd (upd (upd (upd g 4 u_17.2.2.2.2.2.1) 5 u_17.2.2.2.2.2.2) 7 u_17.1) 8 u_17.2.1) 9 u_17.2.2.1) 10 u_17.2.2.2.1) 11 u_17.2.2.2.2.1) gl rf)), (eA0 (rf 29) (ck 29) 24 f_landHas)]) [1, 0] rfl
        have hKc := hK.sub (tys' := [((ck 29), .int)]) [2] rfl
        refine vp_callSl (W.runV (As := [.int 4, .long u_2.2.2.2.2.1.toInt64, .long u_17.2.2.2.2.1.toInt64]) (rest := [.ref mq]) ⟨hx, hb, hml, hown, htw⟩ (gy_countOf l dC dI mq (upd (upd (upd (upd (upd (upd (upd g 4 u_17.2.2.2.2.2.1) 5 u_17.2.2.2.2.2.2) 7 u_17.1) 8 u_17.2.1) 9 u_17.2.2.1) 10 u_17.2.2.2.1) 11 u_17.2.2.2.2.1) gl rf ck f_landHas (4 : Int32) u_2.2.2.2.2.1.toInt64 u_17.2.2.2.2.1.toInt64 (gy_dateRead_s0 ) (gy_dateRead_s1 )) (cwV 3 htw (xg_V (ck_29 _ (List.mem_of_getElem? (i := 18) rfl)) (ck_29 _ (List.mem_of_getElem? (i := 19) rfl)) (ck_29 _ (List.mem_of_getElem? (i := 20) rfl)) (ck_1 _ (List.mem_of_getElem? (i := 5) rfl)) (ck_29 _ (List.mem_of_getElem? (i := 21) rfl))) rfl rfl rfl (by exact ⟨rfl, hdc_14.1, hdc_14.2, hdd_11⟩) ⟨Nat.le_of_ble_eq_true rfl, Nat.le_of_ble_eq_true rfl⟩) ⟨fun a U g mk q => by obtain ⟨q0, qP, qK⟩ := q; exact ⟨q0, qP, va_K.moved (u := U) (U := U.calling g mk a) (Vm.Alike.refl U.vm) qK⟩, va_recv hKc hPc (ci := 12) (q0 := 0) rfl rfl, fun U hU hW => ⟨rfl, by rw [hU]; exact hPc, va_K.moved hW.alike hKc⟩⟩ rfl rfl hl.1 rfl (lv_room (Nat.le_of_ble_eq_true rfl)) dX12_dateRead_58 ⟨Nat.le_of_ble_eq_true rfl, Nat.le_of_ble_eq_true rfl⟩) (fun r_48 hw => ?_)
        try dsimp only at hw
        obtain ⟨hw, hp_49⟩ := hw
        have hq_r_48 : r_48 = (fq_countOf f_landHas (4 : Int32) u_2.2.2.2.2.1.toInt64 u_17.2.2.2.2.1.toInt64) := hw
        exact hjoin_32 u_2.2.2.2.2.1 u_2.2.2.2.1 r_48 u_17.2.2.2.2.2.1 u_17.2.2.2.2.2.2 u_17.1 u_17.2.1 u_17.2.2.1 u_17.2.2.2.1 u_17.2.2.2.2.1 hp_25 hp_26 hp_49 (hX_31.trans (by rw [fq_dateRead_j]; (try rw [if_neg c_47]); (try rw [← hq_r_48]); (try rw [xL_eq]); try rfl)) _ _ ls hP hD hS (lv_sub hl [0, 1, 2, 3] rfl)
      · refine lv_ldc2 (v := (-1)) hx hb hown (htw _ (ck_29 _ (List.mem_of_getElem? (i := 13) rfl))) dX12_dateRead_43 ?_
        refine lv_goto (tgt := 61) hx hb dX12_dateRead_46 (by decide) ?_
        exact hjoin_32 u_2.2.2.2.2.1 u_2.2.2.2.1 (-1 : Int64) u_17.2.2.2.2.2.1 u_17.2.2.2.2.2.2 u_17.1 u_17.2.1 u_17.2.2.1 u_17.2.2.2.1 u_17.2.2.2.2.1 hp_25 hp_26 (gy_dateRead_s2 ) (hX_31.trans (by rw [fq_dateRead_j]; (try rw [if_pos c_47]); try rfl)) _ _ ls hP hD hS (lv_sub hl [0, 1, 2, 3] rfl)
    · refine lv_iconst (v := 0) hx hb dX12_dateRead_33 (by decide) ?_
      refine W.widen (k := 0) (n := 0) (by omega) (by omega) ?_
      obtain ⟨hP9, hD9⟩ := zsub2 (ws' := [(mq, .inr (12, mF (upd (upd (upd (upd (upd (upd (upd g 4 u_17.2.2.2.2.2.1) 5 u_17.2.2.2.2.2.2) 7 u_17.1) 8 u_17.2.1) 9 u_17.2.2.1) 10 u_17.2.2.2.1) 11 u_17.2.2.2.2.1) gl rf)), (eA0 (rf 0) (ck 0) 900 f_tape), (eA0 (rf 3) (ck 3) 118 f_words), (eA0 (rf 29) (ck 29) 24 f_landHas)]) hP hD [1, 2, 3, 0] (by decide) rfl
      have hK9 := hK.sub (tys' := []) [] rfl
      exact W.zret (v := 0) hx hb hr (by first | rfl | decide) (fun t ht hW => ⟨⟨0, (u_17.2.2.2.2.2.1, u_17.2.2.2.2.2.2, u_17.1, u_17.2.1, u_17.2.2.1, u_17.2.2.2.1, u_17.2.2.2.2.1, (gl 44)), rfl, ⟨((fun e9 => ⟨by rw [e9], by rw [e9]⟩ : fq_dateRead f_tape f_words f_landHas a0 (g 4) (g 5) (g 6) (g 7) (g 8) (g 9) (g 10) (g 11) (g 18) (gl 44) = ((0 : Int32), u_17.2.2.2.2.2.1, u_17.2.2.2.2.2.2, u_17.1, u_17.2.1, u_17.2.2.1, u_17.2.2.2.1, u_17.2.2.2.2.1, (gl 44)) → _) ((by rw [fq_dateRead]; (try rw [← hX_14]); (try rw [xL_eq]); (try rw [← hq_r_1]); (try rw [← hq_u_2]); (try rw [if_neg c_15]); (try rw [← hX_29]); (try rw [xL_eq]); (try rw [← hq_r_16]); (try rw [← hq_u_17]); (try rw [if_pos c_30]); try rfl))), Or.inl rfl, hp_25, hp_26, Or.inl rfl, Or.inl rfl⟩, by rw [ht]; exact hP9, va_K.moved hW.alike hK9, hD9⟩, hS.F ht⟩) hS.2.2 dX12_dateRead_34
  · refine lv_iconst (v := 0) hx hb dX12_dateRead_10 (by decide) ?_
    refine W.widen (k := 0) (n := 0) (by omega) (by omega) ?_
    obtain ⟨hP9, hD9⟩ := zsub2 (ws' := [(mq, .inr (12, mF (upd (upd (upd (upd (upd (upd (upd g 4 u_2.2.2.2.2.2.1) 5 u_2.2.2.2.2.2.2) 7 u_2.1) 8 u_2.2.1) 9 u_2.2.2.1) 10 u_2.2.2.2.1) 11 u_2.2.2.2.2.1) gl rf)), (eA0 (rf 0) (ck 0) 900 f_tape), (eA0 (rf 3) (ck 3) 118 f_words), (eA0 (rf 29) (ck 29) 24 f_landHas)]) hP hD [1, 2, 3, 0] (by decide) rfl
    have hK9 := hK.sub (tys' := []) [] rfl
    exact W.zret (v := 0) hx hb hr (by first | rfl | decide) (fun t ht hW => ⟨⟨0, (u_2.2.2.2.2.2.1, u_2.2.2.2.2.2.2, u_2.1, u_2.2.1, u_2.2.2.1, u_2.2.2.2.1, u_2.2.2.2.2.1, (gl 44)), rfl, ⟨((fun e9 => ⟨by rw [e9], by rw [e9]⟩ : fq_dateRead f_tape f_words f_landHas a0 (g 4) (g 5) (g 6) (g 7) (g 8) (g 9) (g 10) (g 11) (g 18) (gl 44) = ((0 : Int32), u_2.2.2.2.2.2.1, u_2.2.2.2.2.2.2, u_2.1, u_2.2.1, u_2.2.2.1, u_2.2.2.2.1, u_2.2.2.2.2.1, (gl 44)) → _) ((by rw [fq_dateRead]; (try rw [← hX_14]); (try rw [xL_eq]); (try rw [← hq_r_1]); (try rw [← hq_u_2]); (try rw [if_pos c_15]); try rfl))), Or.inl rfl, hp_10, hp_11, Or.inl rfl, Or.inl rfl⟩, by rw [ht]; exact hP9, va_K.moved hW.alike hK9, hD9⟩, hS.F ht⟩) hS.2.2 dX12_dateRead_11
