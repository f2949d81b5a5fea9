def fq_isLand (a0 : Int32) (m_lands : Int32) : Int32 := (if a0 < 0 then (0 : Int32) else (if m_lands ≤ a0 then (0 : Int32) else (1 : Int32)))
theorem gq_isLand_s0 {y0 : Int32} {y1 : Int32} (h0 : ¬ (y0 < 0)) (h1 : ¬ (y1 ≤ y0)) : ¬ (y0 < 0) := h0
theorem gq_isLand_s1 {y0 : Int32} {y1 : Int32} (h0 : ¬ (y0 < 0)) (h1 : ¬ (y1 ≤ y0)) : y0 < y1 := by lia
theorem dX12_isLand_0 : decode cX12_isLand 0 = .ok (.iload_n 1, 1) := zk_27 (by decide +kernel)
theorem dX12_isLand_1 : decode cX12_isLand 1 = .ok (.ifCond .lt 15, 3) := zk_155 (by decide +kernel)
theorem dX12_isLand_16 : decode cX12_isLand 16 = .ok (.iconst 0, 1) := zk_3 (by decide +kernel)
theorem dX12_isLand_17 : decode cX12_isLand 17 = .ok (.ireturn, 1) := zk_172 (by decide +kernel)
theorem dX12_isLand_4 : decode cX12_isLand 4 = .ok (.iload_n 1, 1) := zk_27 (by decide +kernel)
theorem dX12_isLand_5 : decode cX12_isLand 5 = .ok (.aload_n 0, 1) := zk_42 (by decide +kernel)
theorem dX12_isLand_6 : decode cX12_isLand 6 = .ok (.getfield 217, 3) := zk_180 (by decide +kernel)
theorem dX12_isLand_9 : decode cX12_isLand 9 = .ok (.if_icmp .ge 7, 3) := zk_162 (by decide +kernel)
theorem dX12_isLand_12 : decode cX12_isLand 12 = .ok (.iconst 1, 1) := zk_4 (by decide +kernel)
theorem dX12_isLand_13 : decode cX12_isLand 13 = .ok (.goto 4, 3) := zk_167 (by decide +kernel)
set_option maxHeartbeats 4000000 in
set_option maxRecDepth 100000 in
theorem gq_isLand (l : Launch) (dC : Nat → ClassId) (dI : Nat → Nat → Nat) (mq : Nat) (g : Nat → Int32) (gl : Nat → Int64) (rf : Nat → Nat) (a0 : Int32) : Met l yX12_isLand (Cond.code yX12_isLand cX12_isLand 2 (some .boolean) :: wsL_law) ({ frames := 0, cells := 0, slots := 0, locals := 0 }) (va_Pc [.ref mq, .int a0] (fun U => va_P (dC, dI) vwCl [(mq, .inr (12, mF g gl rf))] U.heap ∧ va_K (dC, dI) vwCl [] U)) (vp_Si (fun r => (r = fq_isLand a0 (g 12)) ∧ (r = 0 ∨ r = 1) ∧ (r = 0 ∨ ¬ a0 < 0) ∧ (r = 0 ∨ a0 < (g 12)))) 0 0 (fun _ => False) := by
  refine Met.ofW (cc := cX12_isLand) (maxL := 2) (ret := (some .boolean)) (by decide) rfl ?_
  intro p e s m args below meth c s₁ B hml hv
  obtain ⟨rfl, hP, hK⟩ := hv
  have hx := B.exec
  have hb := B.bytes
  have hr := B.returns
  have hts := atoms_spec (ws := Cond.code yX12_isLand cX12_isLand 2 (some .boolean) :: wsL_law) B.pre
  have htw : ∀ w ∈ wsL_law, w.before _ s = true := fun w h => hts w (List.mem_cons_of_mem _ h)
  have hown : s.vm.findClass RX12 = some m.cls := findClass_of_methodNamed B.named
  have hlocks := B.notSynchronized
  have hl := lv_entry ([.ref mq, .int a0]) (n := 2) (Nat.le_of_ble_eq_true rfl)
  rw [lg_entry_eq]
  generalize (lg_sl ([.ref mq, .int a0]) ++ List.replicate (2 - (lg_sl ([.ref mq, .int a0])).length) Slot.unset).toArray = ls at hl ⊢
  have hl : lv_has ls 2 [(0, .ref mq), (1, .int a0)] := hl
  refine lv_iload_n hx hb dX12_isLand_0 rfl (lv_at hl 1 rfl) ?_
  refine lv_if_lt (tgt := 16) hx hb dX12_isLand_1 (by decide) (fun c_1 => ?_) (fun c_1 => ?_)
  · refine lv_iconst (v := 0) hx hb dX12_isLand_16 (by decide) ?_
    exact W.zret (v := 0) hx hb hr (by first | rfl | decide) (fun t ht hW => ⟨0, rfl, ⟨(Eq.symm ((by rw [fq_isLand]; (try rw [if_pos c_1]); try rfl))), Or.inl rfl, Or.inl rfl, Or.inl rfl⟩, ht⟩) (fun _ h => by cases h) dX12_isLand_17
  · refine lv_iload_n hx hb dX12_isLand_4 rfl (lv_at hl 1 rfl) ?_
    refine lv_aload_n hx hb dX12_isLand_5 rfl (lv_at hl 0 rfl) ?_
    refine va_get (D := (dC, dI)) (ci := 12) (v := .int (g 12)) (C := RX12) (T := TX12) (N := 76) hx hb htw inlX12 hown hK hP 0 rfl rfl 12 (by decide) (htw _ (ck_11 _ (List.mem_of_getElem? (i := 9) rfl))) (fun _ h9 => h9) rfl dX12_isLand_6 ?_
    refine lv_icmp_ge (tgt := 16) hx hb dX12_isLand_9 (by decide) (fun c_2 => ?_) (fun c_2 => ?_)
    · refine lv_iconst (v := 0) hx hb dX12_isLand_16 (by decide) ?_
      exact W.zret (v := 0) hx hb hr (by first | rfl | decide) (fun t ht hW => ⟨0, rfl, ⟨(Eq.symm ((by rw [fq_isLand]; (try rw [if_neg c_1]); (try rw [if_pos c_2]); try rfl))), Or.inl rfl, Or.inl rfl, Or.inl rfl⟩, ht⟩) (fun _ h => by cases h) dX12_isLand_17
    · refine lv_iconst (v := 1) hx hb dX12_isLand_12 (by decide) ?_
      refine lv_goto (tgt := 17) hx hb dX12_isLand_13 (by decide) ?_
      exact W.zret (v := 1) hx hb hr (by first | rfl | decide) (fun t ht hW => ⟨1, rfl, ⟨(Eq.symm ((by rw [fq_isLand]; (try rw [if_neg c_1]); (try rw [if_neg c_2]); try rfl))), Or.inr rfl, (Or.inr (gq_isLand_s0 (y0 := a0) (y1 := g 12) c_1 c_2)), (Or.inr (gq_isLand_s1 (y0 := a0) (y1 := g 12) c_1 c_2))⟩, ht⟩) (fun _ h => by cases h) dX12_isLand_17

def fq_isAsked (f_landHas : Nat → Int32) (a0 : Int32) (a1 : Int64) : Int32 := (if 0 < lg_cmp a1 1000000000 then (0 : Int32) else (xL ((fq_isYear f_landHas a0 a1)) (fun r_2 => (if r_2 = 0 then (0 : Int32) else (1 : Int32)))))
theorem dX12_isAsked_0 : decode cX12_isAsked 0 = .ok (.lload_n 2, 1) := zk_32 (by decide +kernel)
theorem dX12_isAsked_1 : decode cX12_isAsked 1 = .ok (.ldc2_w 402, 3) := zk_20 (by decide +kernel)
theorem dX12_isAsked_4 : decode cX12_isAsked 4 = .ok (.lcmp, 1) := zk_148 (by decide +kernel)
theorem dX12_isAsked_5 : decode cX12_isAsked 5 = .ok (.ifCond .gt 16, 3) := zk_157 (by decide +kernel)
theorem dX12_isAsked_21 : decode cX12_isAsked 21 = .ok (.iconst 0, 1) := zk_3 (by decide +kernel)
theorem dX12_isAsked_22 : decode cX12_isAsked 22 = .ok (.ireturn, 1) := zk_172 (by decide +kernel)
theorem dX12_isAsked_8 : decode cX12_isAsked 8 = .ok (.aload_n 0, 1) := zk_42 (by decide +kernel)
theorem dX12_isAsked_9 : decode cX12_isAsked 9 = .ok (.iload_n 1, 1) := zk_27 (by decide +kernel)
theorem dX12_isAsked_10 : decode cX12_isAsked 10 = .ok (.lload_n 2, 1) := zk_32 (by decide +kernel)
theorem dX12_isAsked_11 : decode cX12_isAsked 11 = .ok (.invokevirtual 385, 3) := zk_182 (by decide +kernel)
theorem dX12_isAsked_14 : decode cX12_isAsked 14 = .ok (.ifCond .eq 7, 3) := zk_153 (by decide +kernel)
theorem dX12_isAsked_17 : decode cX12_isAsked 17 = .ok (.iconst 1, 1) := zk_4 (by decide +kernel)
theorem dX12_isAsked_18 : decode cX12_isAsked 18 = .ok (.goto 4, 3) := zk_167 (by decide +kernel)
set_option maxHeartbeats 4000000 in
set_option maxRecDepth 100000 in
theorem gq_isAsked (l : Launch) (dC : Nat → ClassId) (dI : Nat → Nat → Nat) (mq : Nat) (g : Nat → Int32) (gl : Nat → Int64) (rf : Nat → Nat) (ck : Nat → ClassId) (f_landHas : Nat → Int32) (a0 : Int32) (a1 : Int64) (hl0 : ¬ a0 < 0) (hl7 : a0 ≤ 7) : Met l yX12_isAsked (Cond.code yX12_isAsked cX12_isAsked 4 (some .boolean) :: wsL_law) ({ frames := 2, cells := 0, slots := 0, locals := 46 }) (va_Pc [.ref mq, .int a0, .long a1] (fun U => va_P (dC, dI) vwCl [(mq, .inr (12, mF g gl rf)), (eA0 (rf 29) (ck 29) 24 f_landHas)] U.heap ∧ va_K (dC, dI) vwCl [((ck 29), .int)] U)) (vp_Si (fun r => (r = fq_isAsked f_landHas a0 a1) ∧ (r = 0 ∨ r = 1))) 0 0 (fun _ => False) := by
  refine Met.ofW (cc := cX12_isAsked) (maxL := 4) (ret := (some .boolean)) (by decide) rfl ?_
  intro p e s m args below meth c s₁ B hml hv
  obtain ⟨rfl, hP, hK⟩ := hv
  have hx := B.exec
  have hb := B.bytes
  have hr := B.returns
  have hts := atoms_spec (ws := Cond.code yX12_isAsked cX12_isAsked 4 (some .boolean) :: wsL_law) B.pre
  have htw : ∀ w ∈ wsL_law, w.before _ s = true := fun w h => hts w (List.mem_cons_of_mem _ h)
  have hown : s.vm.findClass RX12 = some m.cls := findClass_of_methodNamed B.named
  have hlocks := B.notSynchronized
  have hl := lv_entry ([.ref mq, .int a0, .long a1]) (n := 4) (Nat.le_of_ble_eq_true rfl)
  rw [lg_entry_eq]
  generalize (lg_sl ([.ref mq, .int a0, .long a1]) ++ List.replicate (4 - (lg_sl ([.ref mq, .int a0, .long a1])).length) Slot.unset).toArray = ls at hl ⊢
  have hl : lv_has ls 4 [(0, .ref mq), (1, .int a0), (2, .long a1)] := hl
  refine lv_lload_n hx hb dX12_isAsked_0 rfl (lv_at hl 2 rfl) ?_
  refine lv_ldc2 (v := 1000000000) hx hb hown (htw _ (ck_35 _ (List.mem_of_getElem? (i := 6) rfl))) dX12_isAsked_1 ?_
  refine W.lcmp hx hb dX12_isAsked_4 ?_
  refine lv_if_gt (tgt := 21) hx hb dX12_isAsked_5 (by decide) (fun c_1 => ?_) (fun c_1 => ?_)
  · refine lv_iconst (v := 0) hx hb dX12_isAsked_21 (by decide) ?_
    exact W.zret (v := 0) hx hb hr (by first | rfl | decide) (fun t ht hW => ⟨0, rfl, ⟨(Eq.symm ((by rw [fq_isAsked]; (try rw [if_pos c_1]); try rfl))), Or.inl rfl⟩, ht⟩) (fun _ h => by cases h) dX12_isAsked_22
  · refine lv_aload_n hx hb dX12_isAsked_8 rfl (lv_at hl 0 rfl) ?_
    refine lv_iload_n hx hb dX12_isAsked_9 rfl (lv_at hl 1 rfl) ?_
    refine lv_lload_n hx hb dX12_isAsked_10 rfl (lv_at hl 2 rfl) ?_
    have hPc := hP.sub (ws' := [(mq, .inr (12, mF g gl rf)), (eA0 (rf 29) (ck 29) 24 f_landHas)]) [0, 1] rfl
    have hKc := hK.sub (tys' := [((ck 29), .int)]) [0] rfl
    refine vp_callSi (W.runV (As := [.int a0, .long a1]) (rest := []) ⟨hx, hb, hml, hown, htw⟩ (gq_isYear l dC dI mq g gl rf ck f_landHas a0 a1 hl0 hl7) (cwV 2 htw (xg_V (ck_29 _ (List.mem_of_getElem? (i := 23) rfl)) (ck_30 _ (List.mem_of_getElem? (i := 0) rfl)) (ck_30 _ (List.mem_of_getElem? (i := 1) rfl)) (ck_1 _ (List.mem_of_getElem? (i := 5) rfl)) (ck_30 _ (List.mem_of_getElem? (i := 2) rfl))) rfl rfl rfl (by exact ⟨rfl, hdc_14.1, hdc_14.2, hdd_42⟩) ⟨Nat.le_of_ble_eq_true rfl, Nat.le_of_ble_eq_true rfl⟩) ⟨fun a U g mk q => by obtain ⟨q0, qP, qK⟩ := q; exact ⟨q0, qP, va_K.moved (u := U) (U := U.calling g mk a) (Vm.Alike.refl U.vm) qK⟩, va_recv hKc hPc (ci := 12) (q0 := 0) rfl rfl, fun U hU hW => ⟨rfl, by rw [hU]; exact hPc, va_K.moved hW.alike hKc⟩⟩ rfl rfl hl.1 rfl (lv_room (Nat.le_of_ble_eq_true rfl)) dX12_isAsked_11 ⟨Nat.le_of_ble_eq_true rfl, Nat.le_of_ble_eq_true rfl⟩) (fun r_2 hw => ?_)
    try dsimp only at hw
    obtain ⟨hw, hb_r_2⟩ := hw
    have hq_r_2 : r_2 = (fq_isYear f_landHas a0 a1) := hw
    refine lv_if_eq (tgt := 21) hx hb dX12_isAsked_14 (by decide) (fun c_3 => ?_) (fun c_3 => ?_)
    · refine lv_iconst (v := 0) hx hb dX12_isAsked_21 (by decide) ?_
      exact W.zret (v := 0) hx hb hr (by first | rfl | decide) (fun t ht hW => ⟨0, rfl, ⟨(Eq.symm ((by rw [fq_isAsked]; (try rw [if_neg c_1]); (try rw [← hq_r_2]); (try rw [xL_eq]); (try rw [if_pos c_3]); try rfl))), Or.inl rfl⟩, ht⟩) (fun _ h => by cases h) dX12_isAsked_22
    · refine lv_iconst (v := 1) hx hb dX12_isAsked_17 (by decide) ?_
      refine lv_goto (tgt := 22) hx hb dX12_isAsked_18 (by decide) ?_
      exact W.zret (v := 1) hx hb hr (by first | rfl | decide) (fun t ht hW => ⟨1, rfl, ⟨(Eq.symm ((by rw [fq_isAsked]; (try rw [if_neg c_1]); (try rw [← hq_r_2]); (try rw [xL_eq]); (try rw [if_neg c_3]); try rfl))), Or.inr rfl⟩, ht⟩) (fun _ h => by cases h) dX12_isAsked_22

def fq_fails (a0 : Int32) : Int32 × (Int32) := ((0 : Int32), a0)
theorem dX12_fails_0 : decode cX12_fails 0 = .ok (.aload_n 0, 1) := zk_42 (by decide +kernel)
theorem dX12_fails_1 : decode cX12_fails 1 = .ok (.iload_n 1, 1) := zk_27 (by decide +kernel)
theorem dX12_fails_2 : decode cX12_fails 2 = .ok (.putfield 119, 3) := zk_181 (by decide +kernel)
theorem dX12_fails_5 : decode cX12_fails 5 = .ok (.iconst 0, 1) := zk_3 (by decide +kernel)
theorem dX12_fails_6 : decode cX12_fails 6 = .ok (.ireturn, 1) := zk_172 (by decide +kernel)
set_option maxHeartbeats 4000000 in
set_option maxRecDepth 100000 in
theorem gq_fails (l : Launch) (dC : Nat → ClassId) (dI : Nat → Nat → Nat) (mq : Nat) (g : Nat → Int32) (gl : Nat → Int64) (rf : Nat → Nat) (a0 : Int32) (sz : Nat) : Met l yX12_fails (Cond.code yX12_fails cX12_fails 2 (some .int) :: wsL_law) ({ frames := 0, cells := 0, slots := 0, locals := 0 }) (va_Pc [.ref mq, .int a0] (fun U => U.heap.size = sz ∧ va_P (dC, dI) vwCl [(mq, .inr (12, mF g gl rf))] U.heap ∧ va_K (dC, dI) vwCl [] U ∧ va_D (fun _ => True) [(mq, .inr (12, mF g gl rf))])) (va_Qi (fun (r : Int32) (u : (Int32)) => r = (fq_fails a0).1 ∧ u = (fq_fails a0).2) (fun (u : (Int32)) t => va_P (dC, dI) vwCl [(mq, .inr (12, mF (upd g 2 u) gl rf))] t.heap ∧ va_K (dC, dI) vwCl [] t ∧ va_D (va_A [(mq, .inr (12, mF g gl rf))] sz) [(mq, .inr (12, mF (upd g 2 u) gl rf))]) (va_A [(mq, .inr (12, mF g gl rf))] sz)) 0 0 (va_A [(mq, .inr (12, mF g gl rf))] sz) := by
  refine Met.ofW (cc := cX12_fails) (maxL := 2) (ret := (some .int)) (by decide) rfl ?_
  intro p e s m args below meth c s₁ B hml hv
  obtain ⟨rfl, hsz, hP, hK, hD0⟩ := hv
  have hx := B.exec
  have hb := B.bytes
  have hr := B.returns
  have hts := atoms_spec (ws := Cond.code yX12_fails cX12_fails 2 (some .int) :: wsL_law) B.pre
  have htw : ∀ w ∈ wsL_law, w.before _ s = true := fun w h => hts w (List.mem_cons_of_mem _ h)
  have hown : s.vm.findClass RX12 = some m.cls := findClass_of_methodNamed B.named
  have hlocks := B.notSynchronized
  subst hsz
  have hD := hD0.self (sz := s.heap.size)
  generalize hAe : va_A [(mq, .inr (12, mF g gl rf))] s.heap.size = A at hD ⊢
  have hA : ∀ q : Nat, s.heap.size ≤ q → A q := fun q h => by rw [← hAe]; exact Or.inr h
  obtain ⟨H, rH⟩ : ∃ z : Heap, z = s.heap := ⟨_, rfl⟩
  have hS : va_S A s.heap H [] := by rw [rH]; exact va_S.rf
  have hP : va_P (dC, dI) vwCl [(mq, .inr (12, mF g gl rf))] H := by rw [rH]; exact hP
  rw [← rH]
  have hl := lv_entry ([.ref mq, .int a0]) (n := 2) (Nat.le_of_ble_eq_true rfl)
  rw [lg_entry_eq]
  generalize (lg_sl ([.ref mq, .int a0]) ++ List.replicate (2 - (lg_sl ([.ref mq, .int a0])).length) Slot.unset).toArray = ls at hl ⊢
  have hl : lv_has ls 2 [(0, .ref mq), (1, .int a0)] := hl
  refine lv_aload_n hx hb dX12_fails_0 rfl (lv_at hl 0 rfl) ?_
  refine lv_iload_n hx hb dX12_fails_1 rfl (lv_at hl 1 rfl) ?_
  refine va_put (D := (dC, dI)) (ci := 12) (v := .int a0) (ty := tyX12 2) (C := RX12) (T := TX12) (N := 76) hx hb htw inlX12 tyX12 tyX12_ok nmX12 hown hK hP hD hS 0 rfl rfl 2 (by decide) (htw _ (ck_12 _ (List.mem_of_getElem? (i := 16) rfl))) (fun _ h9 => h9) rfl (tyX12_ok 2 (by decide)) rfl rfl (Nat.le_of_ble_eq_true rfl) dX12_fails_2 (fun H locs hP hD hS => ?_)
  obtain ⟨hP, hD⟩ := zre [(mq, .inr (12, mF (upd g 2 a0) gl rf))] hP hD rfl
  refine lv_iconst (v := 0) hx hb dX12_fails_5 (by decide) ?_
  refine W.widen (k := 0) (n := 0) (by omega) (by omega) ?_
  have hP9 := hP
  have hD9 := hD
  have hK9 := hK.sub (tys' := []) [] rfl
  exact W.iret (v := 0) hx hb hr (fun t ht hW => ⟨⟨0, a0, rfl, ((fun e9 => ⟨by rw [e9], by rw [e9]⟩ : fq_fails a0 = ((0 : Int32), a0) → _) ((by rw [fq_fails]))), by rw [ht]; exact hP9, va_K.moved hW.alike hK9, hD9⟩, hS.F ht⟩) hS.2.2 dX12_fails_6

def fq_isFeast (a0 : Int32) (m_feasts : Int32) : Int32 := (if a0 < 0 then (0 : Int32) else (if m_feasts ≤ a0 then (0 : Int32) else (1 : Int32)))
theorem gq_isFeast_s0 {y0 : Int32} {y1 : Int32} (h0 : ¬ (y0 < 0)) (h1 : ¬ (y1 ≤ y0)) : ¬ (y0 < 0) := h0
theorem gq_isFeast_s1 {y0 : Int32} {y1 : Int32} (h0 : ¬ (y0 < 0)) (h1 : ¬ (y1 ≤ y0)) : y0 < y1 := by lia
theorem dX12_isFeast_0 : decode cX12_isFeast 0 = .ok (.iload_n 1, 1) := zk_27 (by decide +kernel)
theorem dX12_isFeast_1 : decode cX12_isFeast 1 = .ok (.ifCond .lt 15, 3) := zk_155 (by decide +kernel)
theorem dX12_isFeast_16 : decode cX12_isFeast 16 = .ok (.iconst 0, 1) := zk_3 (by decide +kernel)
theorem dX12_isFeast_17 : decode cX12_isFeast 17 = .ok (.ireturn, 1) := zk_172 (by decide +kernel)
theorem dX12_isFeast_4 : decode cX12_isFeast 4 = .ok (.iload_n 1, 1) := zk_27 (by decide +kernel)
theorem dX12_isFeast_5 : decode cX12_isFeast 5 = .ok (.aload_n 0, 1) := zk_42 (by decide +kernel)
theorem dX12_isFeast_6 : decode cX12_isFeast 6 = .ok (.getfield 220, 3) := zk_180 (by decide +kernel)
theorem dX12_isFeast_9 : decode cX12_isFeast 9 = .ok (.if_icmp .ge 7, 3) := zk_162 (by decide +kernel)
theorem dX12_isFeast_12 : decode cX12_isFeast 12 = .ok (.iconst 1, 1) := zk_4 (by decide +kernel)
theorem dX12_isFeast_13 : decode cX12_isFeast 13 = .ok (.goto 4, 3) := zk_167 (by decide +kernel)
set_option maxHeartbeats 4000000 in
set_option maxRecDepth 100000 in
theorem gq_isFeast (l : Launch) (dC : Nat → ClassId) (dI : Nat → Nat → Nat) (mq : Nat) (g : Nat → Int32) (gl : Nat → Int64) (rf : Nat → Nat) (a0 : Int32) : Met l yX12_isFeast (Cond.code yX12_isFeast cX12_isFeast 2 (some .boolean) :: wsL_law) ({ frames := 0, cells := 0, slots := 0, locals := 0 }) (va_Pc [.ref mq, .int a0] (fun U => va_P (dC, dI) vwCl [(mq, .inr (12, mF g gl rf))] U.heap ∧ va_K (dC, dI) vwCl [] U)) (vp_Si (fun r => (r = fq_isFeast a0 (g 13)) ∧ (r = 0 ∨ r = 1) ∧ (r = 0 ∨ ¬ a0 < 0) ∧ (r = 0 ∨ a0 < (g 13)))) 0 0 (fun _ => False) := by
  refine Met.ofW (cc := cX12_isFeast) (maxL := 2) (ret := (some .boolean)) (by decide) rfl ?_
  intro p e s m args below meth c s₁ B hml hv
  obtain ⟨rfl, hP, hK⟩ := hv
  have hx := B.exec
  have hb := B.bytes
  have hr := B.returns
  have hts := atoms_spec (ws := Cond.code yX12_isFeast cX12_isFeast 2 (some .boolean) :: wsL_law) B.pre
  have htw : ∀ w ∈ wsL_law, w.before _ s = true := fun w h => hts w (List.mem_cons_of_mem _ h)
  have hown : s.vm.findClass RX12 = some m.cls := findClass_of_methodNamed B.named
  have hlocks := B.notSynchronized
  have hl := lv_entry ([.ref mq, .int a0]) (n := 2) (Nat.le_of_ble_eq_true rfl)
  rw [lg_entry_eq]
  generalize (lg_sl ([.ref mq, .int a0]) ++ List.replicate (2 - (lg_sl ([.ref mq, .int a0])).length) Slot.unset).toArray = ls at hl ⊢
  have hl : lv_has ls 2 [(0, .ref mq), (1, .int a0)] := hl
  refine lv_iload_n hx hb dX12_isFeast_0 rfl (lv_at hl 1 rfl) ?_
  refine lv_if_lt (tgt := 16) hx hb dX12_isFeast_1 (by decide) (fun c_1 => ?_) (fun c_1 => ?_)
  · refine lv_iconst (v := 0) hx hb dX12_isFeast_16 (by decide) ?_
    exact W.zret (v := 0) hx hb hr (by first | rfl | decide) (fun t ht hW => ⟨0, rfl, ⟨(Eq.symm ((by rw [fq_isFeast]; (try rw [if_pos c_1]); try rfl))), Or.inl rfl, Or.inl rfl, Or.inl rfl⟩, ht⟩) (fun _ h => by cases h) dX12_isFeast_17
  · refine lv_iload_n hx hb dX12_isFeast_4 rfl (lv_at hl 1 rfl) ?_
    refine lv_aload_n hx hb dX12_isFeast_5 rfl (lv_at hl 0 rfl) ?_
    refine va_get (D := (dC, dI)) (ci := 12) (v := .int (g 13)) (C := RX12) (T := TX12) (N := 76) hx hb htw inlX12 hown hK hP 0 rfl rfl 13 (by decide) (htw _ (ck_11 _ (List.mem_of_getElem? (i := 10) rfl))) (fun _ h9 => h9) rfl dX12_isFeast_6 ?_
    refine lv_icmp_ge (tgt := 16) hx hb dX12_isFeast_9 (by decide) (fun c_2 => ?_) (fun c_2 => ?_)
    · refine lv_iconst (v := 0) hx hb dX12_isFeast_16 (by decide) ?_
      exact W.zret (v := 0) hx hb hr (by first | rfl | decide) (fun t ht hW => ⟨0, rfl, ⟨(Eq.symm ((by rw [fq_isFeast]; (try rw [if_neg c_1]); (try rw [if_pos c_2]); try rfl))), Or.inl rfl, Or.inl rfl, Or.inl rfl⟩, ht⟩) (fun _ h => by cases h) dX12_isFeast_17
    · refine lv_iconst (v := 1) hx hb dX12_isFeast_12 (by decide) ?_
      refine lv_goto (tgt := 17) hx hb dX12_isFeast_13 (by decide) ?_
      exact W.zret (v := 1) hx hb hr (by first | rfl | decide) (fun t ht hW => ⟨1, rfl, ⟨(Eq.symm ((by rw [fq_isFeast]; (try rw [if_neg c_1]); (try rw [if_neg c_2]); try rfl))), Or.inr rfl, (Or.inr (gq_isFeast_s0 (y0 := a0) (y1 := g 13) c_1 c_2)), (Or.inr (gq_isFeast_s1 (y0 := a0) (y1 := g 13) c_1 c_2))⟩, ht⟩) (fun _ h => by cases h) dX12_isFeast_17

def fq_isPerson (a0 : Int32) (m_people : Int32) : Int32 := (if a0 < 0 then (0 : Int32) else (if m_people ≤ a0 then (0 : Int32) else (1 : Int32)))
theorem gq_isPerson_s0 {y0 : Int32} {y1 : Int32} (h0 : ¬ (y0 < 0)) (h1 : ¬ (y1 ≤ y0)) : ¬ (y0 < 0) := h0
theorem gq_isPerson_s1 {y0 : Int32} {y1 : Int32} (h0 : ¬ (y0 < 0)) (h1 : ¬ (y1 ≤ y0)) : y0 < y1 := by lia
theorem dX12_isPerson_0 : decode cX12_isPerson 0 = .ok (.iload_n 1, 1) := zk_27 (by decide +kernel)
theorem dX12_isPerson_1 : decode cX12_isPerson 1 = .ok (.ifCond .lt 15, 3) := zk_155 (by decide +kernel)
theorem dX12_isPerson_16 : decode cX12_isPerson 16 = .ok (.iconst 0, 1) := zk_3 (by decide +kernel)
theorem dX12_isPerson_17 : decode cX12_isPerson 17 = .ok (.ireturn, 1) := zk_172 (by decide +kernel)
theorem dX12_isPerson_4 : decode cX12_isPerson 4 = .ok (.iload_n 1, 1) := zk_27 (by decide +kernel)
theorem dX12_isPerson_5 : decode cX12_isPerson 5 = .ok (.aload_n 0, 1) := zk_42 (by decide +kernel)
theorem dX12_isPerson_6 : decode cX12_isPerson 6 = .ok (.getfield 223, 3) := zk_180 (by decide +kernel)
theorem dX12_isPerson_9 : decode cX12_isPerson 9 = .ok (.if_icmp .ge 7, 3) := zk_162 (by decide +kernel)
theorem dX12_isPerson_12 : decode cX12_isPerson 12 = .ok (.iconst 1, 1) := zk_4 (by decide +kernel)
theorem dX12_isPerson_13 : decode cX12_isPerson 13 = .ok (.goto 4, 3) := zk_167 (by decide +kernel)
set_option maxHeartbeats 4000000 in
set_option maxRecDepth 100000 in
theorem gq_isPerson (l : Launch) (dC : Nat → ClassId) (dI : Nat → Nat → Nat) (mq : Nat) (g : Nat → Int32) (gl : Nat → Int64) (rf : Nat → Nat) (a0 : Int32) : Met l yX12_isPerson (Cond.code yX12_isPerson cX12_isPerson 2 (some .boolean) :: wsL_law) ({ frames := 0, cells := 0, slots := 0, locals := 0 }) (va_Pc [.ref mq, .int a0] (fun U => va_P (dC, dI) vwCl [(mq, .inr (12, mF g gl rf))] U.heap ∧ va_K (dC, dI) vwCl [] U)) (vp_Si (fun r => (r = fq_isPerson a0 (g 14)) ∧ (r = 0 ∨ r = 1) ∧ (r = 0 ∨ ¬ a0 < 0) ∧ (r = 0 ∨ a0 < (g 14)))) 0 0 (fun _ => False) := by
  refine Met.ofW (cc := cX12_isPerson) (maxL := 2) (ret := (some .boolean)) (by decide) rfl ?_
  intro p e s m args below meth c s₁ B hml hv
  obtain ⟨rfl, hP, hK⟩ := hv
  have hx := B.exec
  have hb := B.bytes
  have hr := B.returns
  have hts := atoms_spec (ws := Cond.code yX12_isPerson cX12_isPerson 2 (some .boolean) :: wsL_law) B.pre
  have htw : ∀ w ∈ wsL_law, w.before _ s = true := fun w h => hts w (List.mem_cons_of_mem _ h)
  have hown : s.vm.findClass RX12 = some m.cls := findClass_of_methodNamed B.named
  have hlocks := B.notSynchronized
  have hl := lv_entry ([.ref mq, .int a0]) (n := 2) (Nat.le_of_ble_eq_true rfl)
  rw [lg_entry_eq]
  generalize (lg_sl ([.ref mq, .int a0]) ++ List.replicate (2 - (lg_sl ([.ref mq, .int a0])).length) Slot.unset).toArray = ls at hl ⊢
  have hl : lv_has ls 2 [(0, .ref mq), (1, .int a0)] := hl
  refine lv_iload_n hx hb dX12_isPerson_0 rfl (lv_at hl 1 rfl) ?_
  refine lv_if_lt (tgt := 16) hx hb dX12_isPerson_1 (by decide) (fun c_1 => ?_) (fun c_1 => ?_)
  · refine lv_iconst (v := 0) hx hb dX12_isPerson_16 (by decide) ?_
    exact W.zret (v := 0) hx hb hr (by first | rfl | decide) (fun t ht hW => ⟨0, rfl, ⟨(Eq.symm ((by rw [fq_isPerson]; (try rw [if_pos c_1]); try rfl))), Or.inl rfl, Or.inl rfl, Or.inl rfl⟩, ht⟩) (fun _ h => by cases h) dX12_isPerson_17
  · refine lv_iload_n hx hb dX12_isPerson_4 rfl (lv_at hl 1 rfl) ?_
    refine lv_aload_n hx hb dX12_isPerson_5 rfl (lv_at hl 0 rfl) ?_
    refine va_get (D := (dC, dI)) (ci := 12) (v := .int (g 14)) (C := RX12) (T := TX12) (N := 76) hx hb htw inlX12 hown hK hP 0 rfl rfl 14 (by decide) (htw _ (ck_11 _ (List.mem_of_getElem? (i := 11) rfl))) (fun _ h9 => h9) rfl dX12_isPerson_6 ?_
    refine lv_icmp_ge (tgt := 16) hx hb dX12_isPerson_9 (by decide) (fun c_2 => ?_) (fun c_2 => ?_)
    · refine lv_iconst (v := 0) hx hb dX12_isPerson_16 (by decide) ?_
      exact W.zret (v := 0) hx hb hr (by first | rfl | decide) (fun t ht hW => ⟨0, rfl, ⟨(Eq.symm ((by rw [fq_isPerson]; (try rw [if_neg c_1]); (try rw [if_pos c_2]); try rfl))), Or.inl rfl, Or.inl rfl, Or.inl rfl⟩, ht⟩) (fun _ h => by cases h) dX12_isPerson_17
    · refine lv_iconst (v := 1) hx hb dX12_isPerson_12 (by decide) ?_
      refine lv_goto (tgt := 17) hx hb dX12_isPerson_13 (by decide) ?_
      exact W.zret (v := 1) hx hb hr (by first | rfl | decide) (fun t ht hW => ⟨1, rfl, ⟨(Eq.symm ((by rw [fq_isPerson]; (try rw [if_neg c_1]); (try rw [if_neg c_2]); try rfl))), Or.inr rfl, (Or.inr (gq_isPerson_s0 (y0 := a0) (y1 := g 14) c_1 c_2)), (Or.inr (gq_isPerson_s1 (y0 := a0) (y1 := g 14) c_1 c_2))⟩, ht⟩) (fun _ h => by cases h) dX12_isPerson_17

def fq_isNote (a0 : Int32) (m_notes : Int32) : Int32 := (if a0 < 0 then (0 : Int32) else (if m_notes ≤ a0 then (0 : Int32) else (1 : Int32)))
theorem gq_isNote_s0 {y0 : Int32} {y1 : Int32} (h0 : ¬ (y0 < 0)) (h1 : ¬ (y1 ≤ y0)) : ¬ (y0 < 0) := h0
theorem gq_isNote_s1 {y0 : Int32} {y1 : Int32} (h0 : ¬ (y0 < 0)) (h1 : ¬ (y1 ≤ y0)) : y0 < y1 := by lia
theorem dX12_isNote_0 : decode cX12_isNote 0 = .ok (.iload_n 1, 1) := zk_27 (by decide +kernel)
theorem dX12_isNote_1 : decode cX12_isNote 1 = .ok (.ifCond .lt 15, 3) := zk_155 (by decide +kernel)
theorem dX12_isNote_16 : decode cX12_isNote 16 = .ok (.iconst 0, 1) := zk_3 (by decide +kernel)
theorem dX12_isNote_17 : decode cX12_isNote 17 = .ok (.ireturn, 1) := zk_172 (by decide +kernel)
theorem dX12_isNote_4 : decode cX12_isNote 4 = .ok (.iload_n 1, 1) := zk_27 (by decide +kernel)
theorem dX12_isNote_5 : decode cX12_isNote 5 = .ok (.aload_n 0, 1) := zk_42 (by decide +kernel)
theorem dX12_isNote_6 : decode cX12_isNote 6 = .ok (.getfield 229, 3) := zk_180 (by decide +kernel)
theorem dX12_isNote_9 : decode cX12_isNote 9 = .ok (.if_icmp .ge 7, 3) := zk_162 (by decide +kernel)
theorem dX12_isNote_12 : decode cX12_isNote 12 = .ok (.iconst 1, 1) := zk_4 (by decide +kernel)
theorem dX12_isNote_13 : decode cX12_isNote 13 = .ok (.goto 4, 3) := zk_167 (by decide +kernel)
set_option maxHeartbeats 4000000 in
set_option maxRecDepth 100000 in
theorem gq_isNote (l : Launch) (dC : Nat → ClassId) (dI : Nat → Nat → Nat) (mq : Nat) (g : Nat → Int32) (gl : Nat → Int64) (rf : Nat → Nat) (a0 : Int32) : Met l yX12_isNote (Cond.code yX12_isNote cX12_isNote 2 (some .boolean) :: wsL_law) ({ frames := 0, cells := 0, slots := 0, locals := 0 }) (va_Pc [.ref mq, .int a0] (fun U => va_P (dC, dI) vwCl [(mq, .inr (12, mF g gl rf))] U.heap ∧ va_K (dC, dI) vwCl [] U)) (vp_Si (fun r => (r = fq_isNote a0 (g 16)) ∧ (r = 0 ∨ r = 1) ∧ (r = 0 ∨ ¬ a0 < 0) ∧ (r = 0 ∨ a0 < (g 16)))) 0 0 (fun _ => False) := by
  refine Met.ofW (cc := cX12_isNote) (maxL := 2) (ret := (some .boolean)) (by decide) rfl ?_
  intro p e s m args below meth c s₁ B hml hv
  obtain ⟨rfl, hP, hK⟩ := hv
  have hx := B.exec
  have hb := B.bytes
  have hr := B.returns
  have hts := atoms_spec (ws := Cond.code yX12_isNote cX12_isNote 2 (some .boolean) :: wsL_law) B.pre
  have htw : ∀ w ∈ wsL_law, w.before _ s = true := fun w h => hts w (List.mem_cons_of_mem _ h)
  have hown : s.vm.findClass RX12 = some m.cls := findClass_of_methodNamed B.named
  have hlocks := B.notSynchronized
  have hl := lv_entry ([.ref mq, .int a0]) (n := 2) (Nat.le_of_ble_eq_true rfl)
  rw [lg_entry_eq]
  generalize (lg_sl ([.ref mq, .int a0]) ++ List.replicate (2 - (lg_sl ([.ref mq, .int a0])).length) Slot.unset).toArray = ls at hl ⊢
  have hl : lv_has ls 2 [(0, .ref mq), (1, .int a0)] := hl
  refine lv_iload_n hx hb dX12_isNote_0 rfl (lv_at hl 1 rfl) ?_
  refine lv_if_lt (tgt := 16) hx hb dX12_isNote_1 (by decide) (fun c_1 => ?_) (fun c_1 => ?_)
  · refine lv_iconst (v := 0) hx hb dX12_isNote_16 (by decide) ?_
    exact W.zret (v := 0) hx hb hr (by first | rfl | decide) (fun t ht hW => ⟨0, rfl, ⟨(Eq.symm ((by rw [fq_isNote]; (try rw [if_pos c_1]); try rfl))), Or.inl rfl, Or.inl rfl, Or.inl rfl⟩, ht⟩) (fun _ h => by cases h) dX12_isNote_17
  · refine lv_iload_n hx hb dX12_isNote_4 rfl (lv_at hl 1 rfl) ?_
    refine lv_aload_n hx hb dX12_isNote_5 rfl (lv_at hl 0 rfl) ?_
    refine va_get (D := (dC, dI)) (ci := 12) (v := .int (g 16)) (C := RX12) (T := TX12) (N := 76) hx hb htw inlX12 hown hK hP 0 rfl rfl 16 (by decide) (htw _ (ck_11 _ (List.mem_of_getElem? (i := 13) rfl))) (fun _ h9 => h9) rfl dX12_isNote_6 ?_
    refine lv_icmp_ge (tgt := 16) hx hb dX12_isNote_9 (by decide) (fun c_2 => ?_) (fun c_2 => ?_)
    · refine lv_iconst (v := 0) hx hb dX12_isNote_16 (by decide) ?_
      exact W.zret (v := 0) hx hb hr (by first | rfl | decide) (fun t ht hW => ⟨0, rfl, ⟨(Eq.symm ((by rw [fq_isNote]; (try rw [if_neg c_1]); (try rw [if_pos c_2]); try rfl))), Or.inl rfl, Or.inl rfl, Or.inl rfl⟩, ht⟩) (fun _ h => by cases h) dX12_isNote_17
    · refine lv_iconst (v := 1) hx hb dX12_isNote_12 (by decide) ?_
      refine lv_goto (tgt := 17) hx hb dX12_isNote_13 (by decide) ?_
      exact W.zret (v := 1) hx hb hr (by first | rfl | decide) (fun t ht hW => ⟨1, rfl, ⟨(Eq.symm ((by rw [fq_isNote]; (try rw [if_neg c_1]); (try rw [if_neg c_2]); try rfl))), Or.inr rfl, (Or.inr (gq_isNote_s0 (y0 := a0) (y1 := g 16) c_1 c_2)), (Or.inr (gq_isNote_s1 (y0 := a0) (y1 := g 16) c_1 c_2))⟩, ht⟩) (fun _ h => by cases h) dX12_isNote_17

def fq_isDays (a0 : Int32) : Int32 := (xL ((fq_isIn a0 (1 : Int32) (99999 : Int32))) (fun r_1 => r_1))
theorem dX12_isDays_0 : decode cX12_isDays 0 = .ok (.iload_n 0, 1) := zk_26 (by decide +kernel)
theorem dX12_isDays_1 : decode cX12_isDays 1 = .ok (.iconst 1, 1) := zk_4 (by decide +kernel)
theorem dX12_isDays_2 : decode cX12_isDays 2 = .ok (.ldc 159, 2) := zk_18 (by decide +kernel)
theorem dX12_isDays_4 : decode cX12_isDays 4 = .ok (.invokestatic 166, 3) := zk_184 (by decide +kernel)
theorem dX12_isDays_7 : decode cX12_isDays 7 = .ok (.ireturn, 1) := zk_172 (by decide +kernel)
set_option maxHeartbeats 4000000 in
set_option maxRecDepth 100000 in
theorem gq_isDays (l : Launch) (dC : Nat → ClassId) (dI : Nat → Nat → Nat) (a0 : Int32) : Met l yX12_isDays (Cond.code yX12_isDays cX12_isDays 1 (some .boolean) :: wsL_law) ({ frames := 1, cells := 0, slots := 0, locals := 22 }) (va_Pc [.int a0] (fun U => va_P (dC, dI) vwCl [] U.heap ∧ va_K (dC, dI) vwCl [] U)) (vp_Si (fun r => (r = fq_isDays a0) ∧ (r = 0 ∨ r = 1) ∧ (r = 0 ∨ ¬ a0 < 1) ∧ (r = 0 ∨ ¬ 99999 < a0))) 0 0 (fun _ => False) := by
  refine Met.ofW (cc := cX12_isDays) (maxL := 1) (ret := (some .boolean)) (by decide) rfl ?_
  intro p e s m args below meth c s₁ B hml hv
  obtain ⟨rfl, hP, hK⟩ := hv
  have hx := B.exec
  have hb := B.bytes
  have hr := B.returns
  have hts := atoms_spec (ws := Cond.code yX12_isDays cX12_isDays 1 (some .boolean) :: wsL_law) B.pre
  have htw : ∀ w ∈ wsL_law, w.before _ s = true := fun w h => hts w (List.mem_cons_of_mem _ h)
  have hown : s.vm.findClass RX12 = some m.cls := findClass_of_methodNamed B.named
  have hlocks := B.notSynchronized
  have hl := lv_entry ([.int a0]) (n := 1) (Nat.le_of_ble_eq_true rfl)
  rw [lg_entry_eq]
  generalize (lg_sl ([.int a0]) ++ List.replicate (1 - (lg_sl ([.int a0])).length) Slot.unset).toArray = ls at hl ⊢
  have hl : lv_has ls 1 [(0, .int a0)] := hl
  refine lv_iload_n hx hb dX12_isDays_0 rfl (lv_at hl 0 rfl) ?_
  refine lv_iconst (v := 1) hx hb dX12_isDays_1 (by decide) ?_
  refine lv_ldc (v := 99999) hx hb hown (htw _ (ck_24 _ (List.mem_of_getElem? (i := 20) rfl))) dX12_isDays_2 ?_
  have hPc := hP.sub (ws' := []) [] rfl
  have hKc := hK.sub (tys' := []) [] rfl
  refine vp_callSi (W.runS (As := [.int a0, .int 1, .int 99999]) (rest := []) ⟨hx, hb, hml, hown, htw⟩ (gq_isIn l dC dI a0 (1 : Int32) (99999 : Int32)) (va_cwS 3 htw (xg_S (ck_26 _ (List.mem_of_getElem? (i := 17) rfl)) (ck_26 _ (List.mem_of_getElem? (i := 18) rfl)) (ck_1 _ (List.mem_of_getElem? (i := 5) rfl)) (ck_26 _ (List.mem_of_getElem? (i := 19) rfl))) rfl rfl rfl (by exact ⟨hdc_14.1, hdc_14.2, hdd_38⟩) ⟨Nat.le_of_ble_eq_true rfl, Nat.le_of_ble_eq_true rfl⟩) ⟨fun a U g mk q => by obtain ⟨q0, qP, qK⟩ := q; exact ⟨q0, qP, va_K.moved (u := U) (U := U.calling g mk a) (Vm.Alike.refl U.vm) qK⟩, fun U hU hW => ⟨rfl, by rw [hU]; exact hPc, va_K.moved hW.alike hKc⟩⟩ rfl rfl hl.1 rfl (lv_room (Nat.le_of_ble_eq_true rfl)) dX12_isDays_4 ⟨Nat.le_of_ble_eq_true rfl, Nat.le_of_ble_eq_true rfl⟩) (fun r_1 hw => ?_)
  try dsimp only at hw
  obtain ⟨hw, hb_r_1, hp_2, hp_3⟩ := hw
  have hq_r_1 : r_1 = (fq_isIn a0 (1 : Int32) (99999 : Int32)) := hw
  exact W.zret (v := r_1) hx hb hr (xz_nar hb_r_1) (fun t ht hW => ⟨r_1, rfl, ⟨(Eq.symm ((by rw [fq_isDays]; (try rw [← hq_r_1]); (try rw [xL_eq]); try rfl))), hb_r_1, hp_2, hp_3⟩, ht⟩) (fun _ h => by cases h) dX12_isDays_7

theorem xq_cnt {c : Int64} {r : Int32} (h : r = fq_isCount c) (hr : ¬ r = 0) : ¬ c < 0 ∧ c ≤ 1000000000000 := by
  rw [h, fq_isCount] at hr
  by_cases h1 : lg_cmp c 0 < 0
  · exact absurd (if_pos h1) hr
  rw [if_neg h1] at hr
  by_cases h2 : 0 < lg_cmp c 1000000000000
  · exact absurd (if_pos h2) hr
  exact ⟨fun q => h1 ((lg_cmp_lt _ _).mpr q), Int64.not_lt.mp (fun q => h2 ((lg_cmp_gt _ _).mpr q))⟩

theorem xs_nz {x : Int32} (h : ¬ x < 1) : ¬ x = 0 := by lia

def fq_roundOf (f_sky : Nat → Int32) (a0 : Int64) (a1 : Int32) : Int32 := (if a1 = 0 then ((a0 + ((f_sky ((1 : Int32).toNatClampNeg)).toInt64)) - (a0 + ((f_sky ((1 : Int32).toNatClampNeg)).toInt64)) / ((f_sky ((0 : Int32).toNatClampNeg)).toInt64) * ((f_sky ((0 : Int32).toNatClampNeg)).toInt64)).toInt32 else (if a1 = 1 then (((((a0 * ((f_sky ((3 : Int32).toNatClampNeg)).toInt64)) + ((f_sky ((4 : Int32).toNatClampNeg)).toInt64)) - ((a0 * ((f_sky ((3 : Int32).toNatClampNeg)).toInt64)) + ((f_sky ((4 : Int32).toNatClampNeg)).toInt64)) / ((f_sky ((2 : Int32).toNatClampNeg)).toInt64) * ((f_sky ((2 : Int32).toNatClampNeg)).toInt64)) * 8) / ((f_sky ((2 : Int32).toNatClampNeg)).toInt64)).toInt32 else ((((a0 * ((f_sky ((6 : Int32).toNatClampNeg)).toInt64)) - (a0 * ((f_sky ((6 : Int32).toNatClampNeg)).toInt64)) / ((f_sky ((5 : Int32).toNatClampNeg)).toInt64) * ((f_sky ((5 : Int32).toNatClampNeg)).toInt64)) * 4) / ((f_sky ((5 : Int32).toNatClampNeg)).toInt64)).toInt32))
theorem dX12_roundOf_0 : decode cX12_roundOf 0 = .ok (.iload_n 3, 1) := zk_29 (by decide +kernel)
theorem dX12_roundOf_1 : decode cX12_roundOf 1 = .ok (.ifCond .ne 22, 3) := zk_154 (by decide +kernel)
theorem dX12_roundOf_23 : decode cX12_roundOf 23 = .ok (.iload_n 3, 1) := zk_29 (by decide +kernel)
theorem dX12_roundOf_24 : decode cX12_roundOf 24 = .ok (.iconst 1, 1) := zk_4 (by decide +kernel)
theorem dX12_roundOf_25 : decode cX12_roundOf 25 = .ok (.if_icmp .ne 42, 3) := zk_160 (by decide +kernel)
theorem dX12_roundOf_67 : decode cX12_roundOf 67 = .ok (.lload_n 1, 1) := zk_31 (by decide +kernel)
theorem dX12_roundOf_68 : decode cX12_roundOf 68 = .ok (.aload_n 0, 1) := zk_42 (by decide +kernel)
theorem dX12_roundOf_69 : decode cX12_roundOf 69 = .ok (.getfield 20, 3) := zk_180 (by decide +kernel)
theorem dX12_roundOf_72 : decode cX12_roundOf 72 = .ok (.bipush 6, 2) := zk_16 (by decide +kernel)
theorem dX12_roundOf_74 : decode cX12_roundOf 74 = .ok (.iaload, 1) := zk_46 (by decide +kernel)
theorem dX12_roundOf_75 : decode cX12_roundOf 75 = .ok (.i2l, 1) := zk_133 (by decide +kernel)
theorem dX12_roundOf_76 : decode cX12_roundOf 76 = .ok (.lmul, 1) := zk_105 (by decide +kernel)
theorem dX12_roundOf_77 : decode cX12_roundOf 77 = .ok (.aload_n 0, 1) := zk_42 (by decide +kernel)
theorem dX12_roundOf_78 : decode cX12_roundOf 78 = .ok (.getfield 20, 3) := zk_180 (by decide +kernel)
theorem dX12_roundOf_81 : decode cX12_roundOf 81 = .ok (.iconst 5, 1) := zk_8 (by decide +kernel)
theorem dX12_roundOf_82 : decode cX12_roundOf 82 = .ok (.iaload, 1) := zk_46 (by decide +kernel)
theorem dX12_roundOf_83 : decode cX12_roundOf 83 = .ok (.i2l, 1) := zk_133 (by decide +kernel)
theorem dX12_roundOf_84 : decode cX12_roundOf 84 = .ok (.lrem, 1) := zk_113 (by decide +kernel)
theorem dX12_roundOf_85 : decode cX12_roundOf 85 = .ok (.ldc2_w 422, 3) := zk_20 (by decide +kernel)
theorem dX12_roundOf_88 : decode cX12_roundOf 88 = .ok (.lmul, 1) := zk_105 (by decide +kernel)
theorem dX12_roundOf_89 : decode cX12_roundOf 89 = .ok (.aload_n 0, 1) := zk_42 (by decide +kernel)
theorem dX12_roundOf_90 : decode cX12_roundOf 90 = .ok (.getfield 20, 3) := zk_180 (by decide +kernel)
theorem dX12_roundOf_93 : decode cX12_roundOf 93 = .ok (.iconst 5, 1) := zk_8 (by decide +kernel)
theorem dX12_roundOf_94 : decode cX12_roundOf 94 = .ok (.iaload, 1) := zk_46 (by decide +kernel)
theorem dX12_roundOf_95 : decode cX12_roundOf 95 = .ok (.i2l, 1) := zk_133 (by decide +kernel)
theorem dX12_roundOf_96 : decode cX12_roundOf 96 = .ok (.ldiv, 1) := zk_109 (by decide +kernel)
theorem dX12_roundOf_97 : decode cX12_roundOf 97 = .ok (.l2i, 1) := zk_136 (by decide +kernel)
theorem dX12_roundOf_98 : decode cX12_roundOf 98 = .ok (.ireturn, 1) := zk_172 (by decide +kernel)
theorem dX12_roundOf_28 : decode cX12_roundOf 28 = .ok (.lload_n 1, 1) := zk_31 (by decide +kernel)
theorem dX12_roundOf_29 : decode cX12_roundOf 29 = .ok (.aload_n 0, 1) := zk_42 (by decide +kernel)
theorem dX12_roundOf_30 : decode cX12_roundOf 30 = .ok (.getfield 20, 3) := zk_180 (by decide +kernel)
theorem dX12_roundOf_33 : decode cX12_roundOf 33 = .ok (.iconst 3, 1) := zk_6 (by decide +kernel)
theorem dX12_roundOf_34 : decode cX12_roundOf 34 = .ok (.iaload, 1) := zk_46 (by decide +kernel)
theorem dX12_roundOf_35 : decode cX12_roundOf 35 = .ok (.i2l, 1) := zk_133 (by decide +kernel)
theorem dX12_roundOf_36 : decode cX12_roundOf 36 = .ok (.lmul, 1) := zk_105 (by decide +kernel)
theorem dX12_roundOf_37 : decode cX12_roundOf 37 = .ok (.aload_n 0, 1) := zk_42 (by decide +kernel)
theorem dX12_roundOf_38 : decode cX12_roundOf 38 = .ok (.getfield 20, 3) := zk_180 (by decide +kernel)
theorem dX12_roundOf_41 : decode cX12_roundOf 41 = .ok (.iconst 4, 1) := zk_7 (by decide +kernel)
theorem dX12_roundOf_42 : decode cX12_roundOf 42 = .ok (.iaload, 1) := zk_46 (by decide +kernel)
theorem dX12_roundOf_43 : decode cX12_roundOf 43 = .ok (.i2l, 1) := zk_133 (by decide +kernel)
theorem dX12_roundOf_44 : decode cX12_roundOf 44 = .ok (.ladd, 1) := zk_97 (by decide +kernel)
theorem dX12_roundOf_45 : decode cX12_roundOf 45 = .ok (.aload_n 0, 1) := zk_42 (by decide +kernel)
theorem dX12_roundOf_46 : decode cX12_roundOf 46 = .ok (.getfield 20, 3) := zk_180 (by decide +kernel)
theorem dX12_roundOf_49 : decode cX12_roundOf 49 = .ok (.iconst 2, 1) := zk_5 (by decide +kernel)
theorem dX12_roundOf_50 : decode cX12_roundOf 50 = .ok (.iaload, 1) := zk_46 (by decide +kernel)
theorem dX12_roundOf_51 : decode cX12_roundOf 51 = .ok (.i2l, 1) := zk_133 (by decide +kernel)
theorem dX12_roundOf_52 : decode cX12_roundOf 52 = .ok (.lrem, 1) := zk_113 (by decide +kernel)
theorem dX12_roundOf_53 : decode cX12_roundOf 53 = .ok (.ldc2_w 420, 3) := zk_20 (by decide +kernel)
theorem dX12_roundOf_56 : decode cX12_roundOf 56 = .ok (.lmul, 1) := zk_105 (by decide +kernel)
theorem dX12_roundOf_57 : decode cX12_roundOf 57 = .ok (.aload_n 0, 1) := zk_42 (by decide +kernel)
theorem dX12_roundOf_58 : decode cX12_roundOf 58 = .ok (.getfield 20, 3) := zk_180 (by decide +kernel)
theorem dX12_roundOf_61 : decode cX12_roundOf 61 = .ok (.iconst 2, 1) := zk_5 (by decide +kernel)
theorem dX12_roundOf_62 : decode cX12_roundOf 62 = .ok (.iaload, 1) := zk_46 (by decide +kernel)
theorem dX12_roundOf_63 : decode cX12_roundOf 63 = .ok (.i2l, 1) := zk_133 (by decide +kernel)
theorem dX12_roundOf_64 : decode cX12_roundOf 64 = .ok (.ldiv, 1) := zk_109 (by decide +kernel)
theorem dX12_roundOf_65 : decode cX12_roundOf 65 = .ok (.l2i, 1) := zk_136 (by decide +kernel)
theorem dX12_roundOf_66 : decode cX12_roundOf 66 = .ok (.ireturn, 1) := zk_172 (by decide +kernel)
theorem dX12_roundOf_4 : decode cX12_roundOf 4 = .ok (.lload_n 1, 1) := zk_31 (by decide +kernel)
theorem dX12_roundOf_5 : decode cX12_roundOf 5 = .ok (.aload_n 0, 1) := zk_42 (by decide +kernel)
theorem dX12_roundOf_6 : decode cX12_roundOf 6 = .ok (.getfield 20, 3) := zk_180 (by decide +kernel)
theorem dX12_roundOf_9 : decode cX12_roundOf 9 = .ok (.iconst 1, 1) := zk_4 (by decide +kernel)
theorem dX12_roundOf_10 : decode cX12_roundOf 10 = .ok (.iaload, 1) := zk_46 (by decide +kernel)
theorem dX12_roundOf_11 : decode cX12_roundOf 11 = .ok (.i2l, 1) := zk_133 (by decide +kernel)
theorem dX12_roundOf_12 : decode cX12_roundOf 12 = .ok (.ladd, 1) := zk_97 (by decide +kernel)
theorem dX12_roundOf_13 : decode cX12_roundOf 13 = .ok (.aload_n 0, 1) := zk_42 (by decide +kernel)
theorem dX12_roundOf_14 : decode cX12_roundOf 14 = .ok (.getfield 20, 3) := zk_180 (by decide +kernel)
theorem dX12_roundOf_17 : decode cX12_roundOf 17 = .ok (.iconst 0, 1) := zk_3 (by decide +kernel)
theorem dX12_roundOf_18 : decode cX12_roundOf 18 = .ok (.iaload, 1) := zk_46 (by decide +kernel)
theorem dX12_roundOf_19 : decode cX12_roundOf 19 = .ok (.i2l, 1) := zk_133 (by decide +kernel)
theorem dX12_roundOf_20 : decode cX12_roundOf 20 = .ok (.lrem, 1) := zk_113 (by decide +kernel)
theorem dX12_roundOf_21 : decode cX12_roundOf 21 = .ok (.l2i, 1) := zk_136 (by decide +kernel)
theorem dX12_roundOf_22 : decode cX12_roundOf 22 = .ok (.ireturn, 1) := zk_172 (by decide +kernel)
set_option maxHeartbeats 4000000 in
set_option maxRecDepth 100000 in
theorem gq_roundOf (l : Launch) (dC : Nat → ClassId) (dI : Nat → Nat → Nat) (mq : Nat) (g : Nat → Int32) (gl : Nat → Int64) (rf : Nat → Nat) (ck : Nat → ClassId) (f_sky : Nat → Int32) (a0 : Int64) (a1 : Int32) (hs0 : ¬ (f_sky 0) < 1) (hs2 : ¬ (f_sky 2) < 1) (hs5 : ¬ (f_sky 5) < 1) : Met l yX12_roundOf (Cond.code yX12_roundOf cX12_roundOf 4 (some .int) :: wsL_law) ({ frames := 0, cells := 0, slots := 0, locals := 0 }) (va_Pc [.ref mq, .long a0, .int a1] (fun U => va_P (dC, dI) vwCl [(mq, .inr (12, mF g gl rf)), (eA0 (rf 24) (ck 24) 14 f_sky)] U.heap ∧ va_K (dC, dI) vwCl [((ck 24), .int)] U)) (vp_Si (fun r => r = fq_roundOf f_sky a0 a1)) 0 0 (fun _ => False) := by
  refine Met.ofW (cc := cX12_roundOf) (maxL := 4) (ret := (some .int)) (by decide) rfl ?_
  intro p e s m args below meth c s₁ B hml hv
  obtain ⟨rfl, hP, hK⟩ := hv
  have hx := B.exec
  have hb := B.bytes
  have hr := B.returns
  have hts := atoms_spec (ws := Cond.code yX12_roundOf cX12_roundOf 4 (some .int) :: wsL_law) B.pre
  have htw : ∀ w ∈ wsL_law, w.before _ s = true := fun w h => hts w (List.mem_cons_of_mem _ h)
  have hown : s.vm.findClass RX12 = some m.cls := findClass_of_methodNamed B.named
  have hlocks := B.notSynchronized
  have hl := lv_entry ([.ref mq, .long a0, .int a1]) (n := 4) (Nat.le_of_ble_eq_true rfl)
  rw [lg_entry_eq]
  generalize (lg_sl ([.ref mq, .long a0, .int a1]) ++ List.replicate (4 - (lg_sl ([.ref mq, .long a0, .int a1])).length) Slot.unset).toArray = ls at hl ⊢
  have hl : lv_has ls 4 [(0, .ref mq), (1, .long a0), (3, .int a1)] := hl
  refine lv_iload_n hx hb dX12_roundOf_0 rfl (lv_at hl 2 rfl) ?_
  refine lv_if_ne (tgt := 23) hx hb dX12_roundOf_1 (by decide) (fun c_1 => ?_) (fun c_1 => ?_)
  · refine lv_iload_n hx hb dX12_roundOf_23 rfl (lv_at hl 2 rfl) ?_
    refine lv_iconst (v := 1) hx hb dX12_roundOf_24 (by decide) ?_
    refine lv_icmp_ne (tgt := 67) hx hb dX12_roundOf_25 (by decide) (fun c_2 => ?_) (fun c_2 => ?_)
    · refine lv_lload_n hx hb dX12_roundOf_67 rfl (lv_at hl 1 rfl) ?_
      refine lv_aload_n hx hb dX12_roundOf_68 rfl (lv_at hl 0 rfl) ?_
      refine va_get (D := (dC, dI)) (ci := 12) (v := .ref (rf 24)) (C := RX12) (T := TX12) (N := 76) hx hb htw inlX12 hown hK hP 0 rfl rfl 24 (by decide) (htw _ (ck_9 _ (List.mem_of_getElem? (i := 7) rfl))) (fun _ h9 => h9) rfl dX12_roundOf_69 ?_
      refine lv_bipush (v := 6) hx hb dX12_roundOf_72 (by decide) ?_
      refine va_iald hx hb hK hP 1 0 rfl rfl (by unfold vp_in; decide) dX12_roundOf_74 ?_
      refine lv_i2l (v := (f_sky ((6 : Int32).toNatClampNeg)).toInt64) hx hb dX12_roundOf_75 rfl ?_
      refine lv_lmul hx hb dX12_roundOf_76 ?_
      refine lv_aload_n hx hb dX12_roundOf_77 rfl (lv_at hl 0 rfl) ?_
      refine va_get (D := (dC, dI)) (ci := 12) (v := .ref (rf 24)) (C := RX12) (T := TX12) (N := 76) hx hb htw inlX12 hown hK hP 0 rfl rfl 24 (by decide) (htw _ (ck_9 _ (List.mem_of_getElem? (i := 7) rfl))) (fun _ h9 => h9) rfl dX12_roundOf_78 ?_
      refine lv_iconst (v := 5) hx hb dX12_roundOf_81 (by decide) ?_
      refine va_iald hx hb hK hP 1 0 rfl rfl (by unfold vp_in; decide) dX12_roundOf_82 ?_
      refine lv_i2l (v := (f_sky ((5 : Int32).toNatClampNeg)).toInt64) hx hb dX12_roundOf_83 rfl ?_
      refine lv_lrem hx hb dX12_roundOf_84 (xg_nz64 (xs_nz hs5)) ?_
      refine lv_ldc2 (v := 4) hx hb hown (htw _ (ck_38 _ (List.mem_of_getElem? (i := 9) rfl))) dX12_roundOf_85 ?_
      refine lv_lmul hx hb dX12_roundOf_88 ?_
      refine lv_aload_n hx hb dX12_roundOf_89 rfl (lv_at hl 0 rfl) ?_
      refine va_get (D := (dC, dI)) (ci := 12) (v := .ref (rf 24)) (C := RX12) (T := TX12) (N := 76) hx hb htw inlX12 hown hK hP 0 rfl rfl 24 (by decide) (htw _ (ck_9 _ (List.mem_of_getElem? (i := 7) rfl))) (fun _ h9 => h9) rfl dX12_roundOf_90 ?_
      refine lv_iconst (v := 5) hx hb dX12_roundOf_93 (by decide) ?_
      refine va_iald hx hb hK hP 1 0 rfl rfl (by unfold vp_in; decide) dX12_roundOf_94 ?_
      refine lv_i2l (v := (f_sky ((5 : Int32).toNatClampNeg)).toInt64) hx hb dX12_roundOf_95 rfl ?_
      refine lv_ldiv hx hb dX12_roundOf_96 (xg_nz64 (xs_nz hs5)) ?_
      refine lv_l2i (v := ((((a0 * ((f_sky ((6 : Int32).toNatClampNeg)).toInt64)) - (a0 * ((f_sky ((6 : Int32).toNatClampNeg)).toInt64)) / ((f_sky ((5 : Int32).toNatClampNeg)).toInt64) * ((f_sky ((5 : Int32).toNatClampNeg)).toInt64)) * 4) / ((f_sky ((5 : Int32).toNatClampNeg)).toInt64)).toInt32) hx hb dX12_roundOf_97 rfl ?_
      exact W.iret (v := ((((a0 * ((f_sky ((6 : Int32).toNatClampNeg)).toInt64)) - (a0 * ((f_sky ((6 : Int32).toNatClampNeg)).toInt64)) / ((f_sky ((5 : Int32).toNatClampNeg)).toInt64) * ((f_sky ((5 : Int32).toNatClampNeg)).toInt64)) * 4) / ((f_sky ((5 : Int32).toNatClampNeg)).toInt64)).toInt32) hx hb hr (fun t ht hW => ⟨((((a0 * ((f_sky ((6 : Int32).toNatClampNeg)).toInt64)) - (a0 * ((f_sky ((6 : Int32).toNatClampNeg)).toInt64)) / ((f_sky ((5 : Int32).toNatClampNeg)).toInt64) * ((f_sky ((5 : Int32).toNatClampNeg)).toInt64)) * 4) / ((f_sky ((5 : Int32).toNatClampNeg)).toInt64)).toInt32, rfl, (Eq.symm ((by rw [fq_roundOf]; (try rw [if_neg c_1]); (try rw [if_neg c_2]); try rfl))), ht⟩) (fun _ h => by cases h) dX12_roundOf_98
    · refine lv_lload_n hx hb dX12_roundOf_28 rfl (lv_at hl 1 rfl) ?_
      refine lv_aload_n hx hb dX12_roundOf_29 rfl (lv_at hl 0 rfl) ?_
      refine va_get (D := (dC, dI)) (ci := 12) (v := .ref (rf 24)) (C := RX12) (T := TX12) (N := 76) hx hb htw inlX12 hown hK hP 0 rfl rfl 24 (by decide) (htw _ (ck_9 _ (List.mem_of_getElem? (i := 7) rfl))) (fun _ h9 => h9) rfl dX12_roundOf_30 ?_
      refine lv_iconst (v := 3) hx hb dX12_roundOf_33 (by decide) ?_
      refine va_iald hx hb hK hP 1 0 rfl rfl (by unfold vp_in; decide) dX12_roundOf_34 ?_
      refine lv_i2l (v := (f_sky ((3 : Int32).toNatClampNeg)).toInt64) hx hb dX12_roundOf_35 rfl ?_
      refine lv_lmul hx hb dX12_roundOf_36 ?_
      refine lv_aload_n hx hb dX12_roundOf_37 rfl (lv_at hl 0 rfl) ?_
      refine va_get (D := (dC, dI)) (ci := 12) (v := .ref (rf 24)) (C := RX12) (T := TX12) (N := 76) hx hb htw inlX12 hown hK hP 0 rfl rfl 24 (by decide) (htw _ (ck_9 _ (List.mem_of_getElem? (i := 7) rfl))) (fun _ h9 => h9) rfl dX12_roundOf_38 ?_
      refine lv_iconst (v := 4) hx hb dX12_roundOf_41 (by decide) ?_
      refine va_iald hx hb hK hP 1 0 rfl rfl (by unfold vp_in; decide) dX12_roundOf_42 ?_
      refine lv_i2l (v := (f_sky ((4 : Int32).toNatClampNeg)).toInt64) hx hb dX12_roundOf_43 rfl ?_
      refine lv_ladd hx hb dX12_roundOf_44 ?_
      refine lv_aload_n hx hb dX12_roundOf_45 rfl (lv_at hl 0 rfl) ?_
      refine va_get (D := (dC, dI)) (ci := 12) (v := .ref (rf 24)) (C := RX12) (T := TX12) (N := 76) hx hb htw inlX12 hown hK hP 0 rfl rfl 24 (by decide) (htw _ (ck_9 _ (List.mem_of_getElem? (i := 7) rfl))) (fun _ h9 => h9) rfl dX12_roundOf_46 ?_
      refine lv_iconst (v := 2) hx hb dX12_roundOf_49 (by decide) ?_
      refine va_iald hx hb hK hP 1 0 rfl rfl (by unfold vp_in; decide) dX12_roundOf_50 ?_
      refine lv_i2l (v := (f_sky ((2 : Int32).toNatClampNeg)).toInt64) hx hb dX12_roundOf_51 rfl ?_
      refine lv_lrem hx hb dX12_roundOf_52 (xg_nz64 (xs_nz hs2)) ?_
      refine lv_ldc2 (v := 8) hx hb hown (htw _ (ck_38 _ (List.mem_of_getElem? (i := 8) rfl))) dX12_roundOf_53 ?_
      refine lv_lmul hx hb dX12_roundOf_56 ?_
      refine lv_aload_n hx hb dX12_roundOf_57 rfl (lv_at hl 0 rfl) ?_
      refine va_get (D := (dC, dI)) (ci := 12) (v := .ref (rf 24)) (C := RX12) (T := TX12) (N := 76) hx hb htw inlX12 hown hK hP 0 rfl rfl 24 (by decide) (htw _ (ck_9 _ (List.mem_of_getElem? (i := 7) rfl))) (fun _ h9 => h9) rfl dX12_roundOf_58 ?_
      refine lv_iconst (v := 2) hx hb dX12_roundOf_61 (by decide) ?_
      refine va_iald hx hb hK hP 1 0 rfl rfl (by unfold vp_in; decide) dX12_roundOf_62 ?_
      refine lv_i2l (v := (f_sky ((2 : Int32).toNatClampNeg)).toInt64) hx hb dX12_roundOf_63 rfl ?_
      refine lv_ldiv hx hb dX12_roundOf_64 (xg_nz64 (xs_nz hs2)) ?_
      refine lv_l2i (v := (((((a0 * ((f_sky ((3 : Int32).toNatClampNeg)).toInt64)) + ((f_sky ((4 : Int32).toNatClampNeg)).toInt64)) - ((a0 * ((f_sky ((3 : Int32).toNatClampNeg)).toInt64)) + ((f_sky ((4 : Int32).toNatClampNeg)).toInt64)) / ((f_sky ((2 : Int32).toNatClampNeg)).toInt64) * ((f_sky ((2 : Int32).toNatClampNeg)).toInt64)) * 8) / ((f_sky ((2 : Int32).toNatClampNeg)).toInt64)).toInt32) hx hb dX12_roundOf_65 rfl ?_
      exact W.iret (v := (((((a0 * ((f_sky ((3 : Int32).toNatClampNeg)).toInt64)) + ((f_sky ((4 : Int32).toNatClampNeg)).toInt64)) - ((a0 * ((f_sky ((3 : Int32).toNatClampNeg)).toInt64)) + ((f_sky ((4 : Int32).toNatClampNeg)).toInt64)) / ((f_sky ((2 : Int32).toNatClampNeg)).toInt64) * ((f_sky ((2 : Int32).toNatClampNeg)).toInt64)) * 8) / ((f_sky ((2 : Int32).toNatClampNeg)).toInt64)).toInt32) hx hb hr (fun t ht hW => ⟨(((((a0 * ((f_sky ((3 : Int32).toNatClampNeg)).toInt64)) + ((f_sky ((4 : Int32).toNatClampNeg)).toInt64)) - ((a0 * ((f_sky ((3 : Int32).toNatClampNeg)).toInt64)) + ((f_sky ((4 : Int32).toNatClampNeg)).toInt64)) / ((f_sky ((2 : Int32).toNatClampNeg)).toInt64) * ((f_sky ((2 : Int32).toNatClampNeg)).toInt64)) * 8) / ((f_sky ((2 : Int32).toNatClampNeg)).toInt64)).toInt32, rfl, (Eq.symm ((by rw [fq_roundOf]; (try rw [if_neg c_1]); (try rw [if_pos c_2]); try rfl))), ht⟩) (fun _ h => by cases h) dX12_roundOf_66
  · refine lv_lload_n hx hb dX12_roundOf_4 rfl (lv_at hl 1 rfl) ?_
    refine lv_aload_n hx hb dX12_roundOf_5 rfl (lv_at hl 0 rfl) ?_
    refine va_get (D := (dC, dI)) (ci := 12) (v := .ref (rf 24)) (C := RX12) (T := TX12) (N := 76) hx hb htw inlX12 hown hK hP 0 rfl rfl 24 (by decide) (htw _ (ck_9 _ (List.mem_of_getElem? (i := 7) rfl))) (fun _ h9 => h9) rfl dX12_roundOf_6 ?_
    refine lv_iconst (v := 1) hx hb dX12_roundOf_9 (by decide) ?_
    refine va_iald hx hb hK hP 1 0 rfl rfl (by unfold vp_in; decide) dX12_roundOf_10 ?_
    refine lv_i2l (v := (f_sky ((1 : Int32).toNatClampNeg)).toInt64) hx hb dX12_roundOf_11 rfl ?_
    refine lv_ladd hx hb dX12_roundOf_12 ?_
    refine lv_aload_n hx hb dX12_roundOf_13 rfl (lv_at hl 0 rfl) ?_
    refine va_get (D := (dC, dI)) (ci := 12) (v := .ref (rf 24)) (C := RX12) (T := TX12) (N := 76) hx hb htw inlX12 hown hK hP 0 rfl rfl 24 (by decide) (htw _ (ck_9 _ (List.mem_of_getElem? (i := 7) rfl))) (fun _ h9 => h9) rfl dX12_roundOf_14 ?_
    refine lv_iconst (v := 0) hx hb dX12_roundOf_17 (by decide) ?_
    refine va_iald hx hb hK hP 1 0 rfl rfl (by unfold vp_in; decide) dX12_roundOf_18 ?_
    refine lv_i2l (v := (f_sky ((0 : Int32).toNatClampNeg)).toInt64) hx hb dX12_roundOf_19 rfl ?_
    refine lv_lrem hx hb dX12_roundOf_20 (xg_nz64 (xs_nz hs0)) ?_
    refine lv_l2i (v := ((a0 + ((f_sky ((1 : Int32).toNatClampNeg)).toInt64)) - (a0 + ((f_sky ((1 : Int32).toNatClampNeg)).toInt64)) / ((f_sky ((0 : Int32).toNatClampNeg)).toInt64) * ((f_sky ((0 : Int32).toNatClampNeg)).toInt64)).toInt32) hx hb dX12_roundOf_21 rfl ?_
    exact W.iret (v := ((a0 + ((f_sky ((1 : Int32).toNatClampNeg)).toInt64)) - (a0 + ((f_sky ((1 : Int32).toNatClampNeg)).toInt64)) / ((f_sky ((0 : Int32).toNatClampNeg)).toInt64) * ((f_sky ((0 : Int32).toNatClampNeg)).toInt64)).toInt32) hx hb hr (fun t ht hW => ⟨((a0 + ((f_sky ((1 : Int32).toNatClampNeg)).toInt64)) - (a0 + ((f_sky ((1 : Int32).toNatClampNeg)).toInt64)) / ((f_sky ((0 : Int32).toNatClampNeg)).toInt64) * ((f_sky ((0 : Int32).toNatClampNeg)).toInt64)).toInt32, rfl, (Eq.symm ((by rw [fq_roundOf]; (try rw [if_pos c_1]); try rfl))), ht⟩) (fun _ h => by cases h) dX12_roundOf_22
