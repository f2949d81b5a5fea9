def mF (g : Nat → Int32) (gl : Nat → Int64) (rf : Nat → Nat) : List Value := [.ref (rf 0), .int (g 1), .int (g 2), .ref (rf 3), .int (g 4), .int (g 5), .int (g 6), .int (g 7), .int (g 8), .int (g 9), .int (g 10), .int (g 11), .int (g 12), .int (g 13), .int (g 14), .int (g 15), .int (g 16), .int (g 17), .int (g 18), .int (g 19), .int (g 20), .int (g 21), .int (g 22), .int (g 23), .ref (rf 24), .int (g 25), .int (g 26), .int (g 27), .ref (rf 28), .ref (rf 29), .ref (rf 30), .ref (rf 31), .ref (rf 32), .ref (rf 33), .ref (rf 34), .ref (rf 35), .ref (rf 36), .ref (rf 37), .ref (rf 38), .ref (rf 39), .ref (rf 40), .ref (rf 41), .ref (rf 42), .ref (rf 43), .long (gl 44), .ref (rf 45), .ref (rf 46), .int (g 47), .int (g 48), .int (g 49), .int (g 50), .int (g 51), .int (g 52), .long (gl 53), .long (gl 54), .ref (rf 55), .ref (rf 56), .int (g 57), .int (g 58), .int (g 59), .ref (rf 60), .ref (rf 61), .int (g 62), .int (g 63), .int (g 64), .ref (rf 65), .ref (rf 66), .int (g 67), .ref (rf 68), .ref (rf 69), .int (g 70), .int (g 71), .int (g 72), .ref (rf 73), .ref (rf 74), .ref (rf 75)]
theorem xz_nar {r : Int32} (h : r = 0 ∨ r = 1) : narrow .boolean (.int r) = .int r := by rcases h with rfl | rfl <;> rfl
theorem xz_fit {r : Int32} (h : r = 0 ∨ r = 1) : fits .boolean (.int r) = true := by rcases h with rfl | rfl <;> rfl

def fq_isIn (a0 : Int32) (a1 : Int32) (a2 : Int32) : Int32 := (if a0 < a1 then (0 : Int32) else (if a2 < a0 then (0 : Int32) else (1 : Int32)))
theorem gq_isIn_s0 {y0 : Int32} {y1 : Int32} {y2 : Int32} (h0 : ¬ (y0 < y1)) (h1 : ¬ (y2 < y0)) : ¬ (y0 < y1) := h0
theorem gq_isIn_s1 {y0 : Int32} {y1 : Int32} {y2 : Int32} (h0 : ¬ (y1 < y2)) (h1 : ¬ (y0 < y1)) : ¬ (y0 < y1) := h1
theorem dX12_isIn_0 : decode cX12_isIn 0 = .ok (.iload_n 0, 1) := zk_26 (by decide +kernel)
theorem dX12_isIn_1 : decode cX12_isIn 1 = .ok (.iload_n 1, 1) := zk_27 (by decide +kernel)
theorem dX12_isIn_2 : decode cX12_isIn 2 = .ok (.if_icmp .lt 12, 3) := zk_161 (by decide +kernel)
theorem dX12_isIn_14 : decode cX12_isIn 14 = .ok (.iconst 0, 1) := zk_3 (by decide +kernel)
theorem dX12_isIn_15 : decode cX12_isIn 15 = .ok (.ireturn, 1) := zk_172 (by decide +kernel)
theorem dX12_isIn_5 : decode cX12_isIn 5 = .ok (.iload_n 0, 1) := zk_26 (by decide +kernel)
theorem dX12_isIn_6 : decode cX12_isIn 6 = .ok (.iload_n 2, 1) := zk_28 (by decide +kernel)
theorem dX12_isIn_7 : decode cX12_isIn 7 = .ok (.if_icmp .gt 7, 3) := zk_163 (by decide +kernel)
theorem dX12_isIn_10 : decode cX12_isIn 10 = .ok (.iconst 1, 1) := zk_4 (by decide +kernel)
theorem dX12_isIn_11 : decode cX12_isIn 11 = .ok (.goto 4, 3) := zk_167 (by decide +kernel)
set_option maxHeartbeats 4000000 in
set_option maxRecDepth 100000 in
theorem gq_isIn (l : Launch) (dC : Nat → ClassId) (dI : Nat → Nat → Nat) (a0 : Int32) (a1 : Int32) (a2 : Int32) : Met l yX12_isIn (Cond.code yX12_isIn cX12_isIn 3 (some .boolean) :: wsL_law) ({ frames := 0, cells := 0, slots := 0, locals := 0 }) (va_Pc [.int a0, .int a1, .int a2] (fun U => va_P (dC, dI) vwCl [] U.heap ∧ va_K (dC, dI) vwCl [] U)) (vp_Si (fun r => (r = fq_isIn a0 a1 a2) ∧ (r = 0 ∨ r = 1) ∧ (r = 0 ∨ ¬ a0 < a1) ∧ (r = 0 ∨ ¬ a2 < a0))) 0 0 (fun _ => False) := by
  refine Met.ofW (cc := cX12_isIn) (maxL := 3) (ret := (some .boolean)) (by decide) rfl ?_
  intro p e s m args below meth c s₁ B hml hv
  obtain ⟨rfl, hP, hK⟩ := hv
  have hx := B.exec
  have hb := B.bytes
  have hr := B.returns
  have hts := atoms_spec (ws := Cond.code yX12_isIn cX12_isIn 3 (some .boolean) :: wsL_law) B.pre
  have htw : ∀ w ∈ wsL_law, w.before _ s = true := fun w h => hts w (List.mem_cons_of_mem _ h)
  have hown : s.vm.findClass RX12 = some m.cls := findClass_of_methodNamed B.named
  have hlocks := B.notSynchronized
  have hl := lv_entry ([.int a0, .int a1, .int a2]) (n := 3) (Nat.le_of_ble_eq_true rfl)
  rw [lg_entry_eq]
  generalize (lg_sl ([.int a0, .int a1, .int a2]) ++ List.replicate (3 - (lg_sl ([.int a0, .int a1, .int a2])).length) Slot.unset).toArray = ls at hl ⊢
  have hl : lv_has ls 3 [(0, .int a0), (1, .int a1), (2, .int a2)] := hl
  refine lv_iload_n hx hb dX12_isIn_0 rfl (lv_at hl 0 rfl) ?_
  refine lv_iload_n hx hb dX12_isIn_1 rfl (lv_at hl 1 rfl) ?_
  refine lv_icmp_lt (tgt := 14) hx hb dX12_isIn_2 (by decide) (fun c_1 => ?_) (fun c_1 => ?_)
  · refine lv_iconst (v := 0) hx hb dX12_isIn_14 (by decide) ?_
    exact W.zret (v := 0) hx hb hr (by first | rfl | decide) (fun t ht hW => ⟨0, rfl, ⟨(Eq.symm ((by rw [fq_isIn]; (try rw [if_pos c_1]); try rfl))), Or.inl rfl, Or.inl rfl, Or.inl rfl⟩, ht⟩) (fun _ h => by cases h) dX12_isIn_15
  · refine lv_iload_n hx hb dX12_isIn_5 rfl (lv_at hl 0 rfl) ?_
    refine lv_iload_n hx hb dX12_isIn_6 rfl (lv_at hl 2 rfl) ?_
    refine lv_icmp_gt (tgt := 14) hx hb dX12_isIn_7 (by decide) (fun c_2 => ?_) (fun c_2 => ?_)
    · refine lv_iconst (v := 0) hx hb dX12_isIn_14 (by decide) ?_
      exact W.zret (v := 0) hx hb hr (by first | rfl | decide) (fun t ht hW => ⟨0, rfl, ⟨(Eq.symm ((by rw [fq_isIn]; (try rw [if_neg c_1]); (try rw [if_pos c_2]); try rfl))), Or.inl rfl, Or.inl rfl, Or.inl rfl⟩, ht⟩) (fun _ h => by cases h) dX12_isIn_15
    · refine lv_iconst (v := 1) hx hb dX12_isIn_10 (by decide) ?_
      refine lv_goto (tgt := 15) hx hb dX12_isIn_11 (by decide) ?_
      exact W.zret (v := 1) hx hb hr (by first | rfl | decide) (fun t ht hW => ⟨1, rfl, ⟨(Eq.symm ((by rw [fq_isIn]; (try rw [if_neg c_1]); (try rw [if_neg c_2]); try rfl))), Or.inr rfl, (Or.inr (gq_isIn_s0 (y0 := a0) (y1 := a1) (y2 := a2) c_1 c_2)), (Or.inr (gq_isIn_s1 (y0 := a2) (y1 := a0) (y2 := a1) c_1 c_2))⟩, ht⟩) (fun _ h => by cases h) dX12_isIn_15

def fq_isOf (a0 : Int32) (a1 : Int32) : Int32 := (if ((a0 >>> (a1 &&& 31)) &&& 1) = (1 : Int32) then (1 : Int32) else (0 : Int32))
theorem dX12_isOf_0 : decode cX12_isOf 0 = .ok (.iload_n 0, 1) := zk_26 (by decide +kernel)
theorem dX12_isOf_1 : decode cX12_isOf 1 = .ok (.iload_n 1, 1) := zk_27 (by decide +kernel)
theorem dX12_isOf_2 : decode cX12_isOf 2 = .ok (.ishr, 1) := zk_122 (by decide +kernel)
theorem dX12_isOf_3 : decode cX12_isOf 3 = .ok (.iconst 1, 1) := zk_4 (by decide +kernel)
theorem dX12_isOf_4 : decode cX12_isOf 4 = .ok (.iand, 1) := zk_126 (by decide +kernel)
theorem dX12_isOf_5 : decode cX12_isOf 5 = .ok (.iconst 1, 1) := zk_4 (by decide +kernel)
theorem dX12_isOf_6 : decode cX12_isOf 6 = .ok (.if_icmp .ne 7, 3) := zk_160 (by decide +kernel)
theorem dX12_isOf_13 : decode cX12_isOf 13 = .ok (.iconst 0, 1) := zk_3 (by decide +kernel)
theorem dX12_isOf_14 : decode cX12_isOf 14 = .ok (.ireturn, 1) := zk_172 (by decide +kernel)
theorem dX12_isOf_9 : decode cX12_isOf 9 = .ok (.iconst 1, 1) := zk_4 (by decide +kernel)
theorem dX12_isOf_10 : decode cX12_isOf 10 = .ok (.goto 4, 3) := zk_167 (by decide +kernel)
set_option maxHeartbeats 4000000 in
set_option maxRecDepth 100000 in
theorem gq_isOf (l : Launch) (dC : Nat → ClassId) (dI : Nat → Nat → Nat) (a0 : Int32) (a1 : Int32) : Met l yX12_isOf (Cond.code yX12_isOf cX12_isOf 2 (some .boolean) :: wsL_law) ({ frames := 0, cells := 0, slots := 0, locals := 0 }) (va_Pc [.int a0, .int a1] (fun U => va_P (dC, dI) vwCl [] U.heap ∧ va_K (dC, dI) vwCl [] U)) (vp_Si (fun r => (r = fq_isOf a0 a1) ∧ (r = 0 ∨ r = 1))) 0 0 (fun _ => False) := by
  refine Met.ofW (cc := cX12_isOf) (maxL := 2) (ret := (some .boolean)) (by decide) rfl ?_
  intro p e s m args below meth c s₁ B hml hv
  obtain ⟨rfl, hP, hK⟩ := hv
  have hx := B.exec
  have hb := B.bytes
  have hr := B.returns
  have hts := atoms_spec (ws := Cond.code yX12_isOf cX12_isOf 2 (some .boolean) :: wsL_law) B.pre
  have htw : ∀ w ∈ wsL_law, w.before _ s = true := fun w h => hts w (List.mem_cons_of_mem _ h)
  have hown : s.vm.findClass RX12 = some m.cls := findClass_of_methodNamed B.named
  have hlocks := B.notSynchronized
  have hl := lv_entry ([.int a0, .int a1]) (n := 2) (Nat.le_of_ble_eq_true rfl)
  rw [lg_entry_eq]
  generalize (lg_sl ([.int a0, .int a1]) ++ List.replicate (2 - (lg_sl ([.int a0, .int a1])).length) Slot.unset).toArray = ls at hl ⊢
  have hl : lv_has ls 2 [(0, .int a0), (1, .int a1)] := hl
  refine lv_iload_n hx hb dX12_isOf_0 rfl (lv_at hl 0 rfl) ?_
  refine lv_iload_n hx hb dX12_isOf_1 rfl (lv_at hl 1 rfl) ?_
  refine lv_ishr hx hb dX12_isOf_2 ?_
  refine lv_iconst (v := 1) hx hb dX12_isOf_3 (by decide) ?_
  refine lv_iand hx hb dX12_isOf_4 ?_
  refine lv_iconst (v := 1) hx hb dX12_isOf_5 (by decide) ?_
  refine lv_icmp_ne (tgt := 13) hx hb dX12_isOf_6 (by decide) (fun c_1 => ?_) (fun c_1 => ?_)
  · refine lv_iconst (v := 0) hx hb dX12_isOf_13 (by decide) ?_
    exact W.zret (v := 0) hx hb hr (by first | rfl | decide) (fun t ht hW => ⟨0, rfl, ⟨(Eq.symm ((by rw [fq_isOf]; (try rw [if_neg c_1]); try rfl))), Or.inl rfl⟩, ht⟩) (fun _ h => by cases h) dX12_isOf_14
  · refine lv_iconst (v := 1) hx hb dX12_isOf_9 (by decide) ?_
    refine lv_goto (tgt := 14) hx hb dX12_isOf_10 (by decide) ?_
    exact W.zret (v := 1) hx hb hr (by first | rfl | decide) (fun t ht hW => ⟨1, rfl, ⟨(Eq.symm ((by rw [fq_isOf]; (try rw [if_pos c_1]); try rfl))), Or.inr rfl⟩, ht⟩) (fun _ h => by cases h) dX12_isOf_14

def fq_isCount (a0 : Int64) : Int32 := (if lg_cmp a0 0 < 0 then (0 : Int32) else (if 0 < lg_cmp a0 1000000000000 then (0 : Int32) else (1 : Int32)))
theorem dX12_isCount_0 : decode cX12_isCount 0 = .ok (.lload_n 0, 1) := zk_30 (by decide +kernel)
theorem dX12_isCount_1 : decode cX12_isCount 1 = .ok (.lconst 0, 1) := zk_9 (by decide +kernel)
theorem dX12_isCount_2 : decode cX12_isCount 2 = .ok (.lcmp, 1) := zk_148 (by decide +kernel)
theorem dX12_isCount_3 : decode cX12_isCount 3 = .ok (.ifCond .lt 15, 3) := zk_155 (by decide +kernel)
theorem dX12_isCount_18 : decode cX12_isCount 18 = .ok (.iconst 0, 1) := zk_3 (by decide +kernel)
theorem dX12_isCount_19 : decode cX12_isCount 19 = .ok (.ireturn, 1) := zk_172 (by decide +kernel)
theorem dX12_isCount_6 : decode cX12_isCount 6 = .ok (.lload_n 0, 1) := zk_30 (by decide +kernel)
theorem dX12_isCount_7 : decode cX12_isCount 7 = .ok (.ldc2_w 125, 3) := zk_20 (by decide +kernel)
theorem dX12_isCount_10 : decode cX12_isCount 10 = .ok (.lcmp, 1) := zk_148 (by decide +kernel)
theorem dX12_isCount_11 : decode cX12_isCount 11 = .ok (.ifCond .gt 7, 3) := zk_157 (by decide +kernel)
theorem dX12_isCount_14 : decode cX12_isCount 14 = .ok (.iconst 1, 1) := zk_4 (by decide +kernel)
theorem dX12_isCount_15 : decode cX12_isCount 15 = .ok (.goto 4, 3) := zk_167 (by decide +kernel)
set_option maxHeartbeats 4000000 in
set_option maxRecDepth 100000 in
theorem gq_isCount (l : Launch) (dC : Nat → ClassId) (dI : Nat → Nat → Nat) (a0 : Int64) : Met l yX12_isCount (Cond.code yX12_isCount cX12_isCount 2 (some .boolean) :: wsL_law) ({ frames := 0, cells := 0, slots := 0, locals := 0 }) (va_Pc [.long a0] (fun U => va_P (dC, dI) vwCl [] U.heap ∧ va_K (dC, dI) vwCl [] U)) (vp_Si (fun r => (r = fq_isCount a0) ∧ (r = 0 ∨ r = 1))) 0 0 (fun _ => False) := by
  refine Met.ofW (cc := cX12_isCount) (maxL := 2) (ret := (some .boolean)) (by decide) rfl ?_
  intro p e s m args below meth c s₁ B hml hv
  obtain ⟨rfl, hP, hK⟩ := hv
  have hx := B.exec
  have hb := B.bytes
  have hr := B.returns
  have hts := atoms_spec (ws := Cond.code yX12_isCount cX12_isCount 2 (some .boolean) :: wsL_law) B.pre
  have htw : ∀ w ∈ wsL_law, w.before _ s = true := fun w h => hts w (List.mem_cons_of_mem _ h)
  have hown : s.vm.findClass RX12 = some m.cls := findClass_of_methodNamed B.named
  have hlocks := B.notSynchronized
  have hl := lv_entry ([.long a0]) (n := 2) (Nat.le_of_ble_eq_true rfl)
  rw [lg_entry_eq]
  generalize (lg_sl ([.long a0]) ++ List.replicate (2 - (lg_sl ([.long a0])).length) Slot.unset).toArray = ls at hl ⊢
  have hl : lv_has ls 2 [(0, .long a0)] := hl
  refine lv_lload_n hx hb dX12_isCount_0 rfl (lv_at hl 0 rfl) ?_
  refine lv_lconst (v := 0) hx hb dX12_isCount_1 (by decide) ?_
  refine W.lcmp hx hb dX12_isCount_2 ?_
  refine lv_if_lt (tgt := 18) hx hb dX12_isCount_3 (by decide) (fun c_1 => ?_) (fun c_1 => ?_)
  · refine lv_iconst (v := 0) hx hb dX12_isCount_18 (by decide) ?_
    exact W.zret (v := 0) hx hb hr (by first | rfl | decide) (fun t ht hW => ⟨0, rfl, ⟨(Eq.symm ((by rw [fq_isCount]; (try rw [if_pos c_1]); try rfl))), Or.inl rfl⟩, ht⟩) (fun _ h => by cases h) dX12_isCount_19
  · refine lv_lload_n hx hb dX12_isCount_6 rfl (lv_at hl 0 rfl) ?_
    refine lv_ldc2 (v := 1000000000000) hx hb hown (htw _ (ck_29 _ (List.mem_of_getElem? (i := 22) rfl))) dX12_isCount_7 ?_
    refine W.lcmp hx hb dX12_isCount_10 ?_
    refine lv_if_gt (tgt := 18) hx hb dX12_isCount_11 (by decide) (fun c_2 => ?_) (fun c_2 => ?_)
    · refine lv_iconst (v := 0) hx hb dX12_isCount_18 (by decide) ?_
      exact W.zret (v := 0) hx hb hr (by first | rfl | decide) (fun t ht hW => ⟨0, rfl, ⟨(Eq.symm ((by rw [fq_isCount]; (try rw [if_neg c_1]); (try rw [if_pos c_2]); try rfl))), Or.inl rfl⟩, ht⟩) (fun _ h => by cases h) dX12_isCount_19
    · refine lv_iconst (v := 1) hx hb dX12_isCount_14 (by decide) ?_
      refine lv_goto (tgt := 19) hx hb dX12_isCount_15 (by decide) ?_
      exact W.zret (v := 1) hx hb hr (by first | rfl | decide) (fun t ht hW => ⟨1, rfl, ⟨(Eq.symm ((by rw [fq_isCount]; (try rw [if_neg c_1]); (try rw [if_neg c_2]); try rfl))), Or.inr rfl⟩, ht⟩) (fun _ h => by cases h) dX12_isCount_19

def fq_wrong (a0 : Int32) (m_at : Int32) : Int32 × (Int32) × (Int32) := ((0 : Int32), a0, m_at)
theorem gq_wrong_s0  : (0 : Int32) = 0 := (by decide)
theorem dX12_wrong_0 : decode cX12_wrong 0 = .ok (.aload_n 0, 1) := zk_42 (by decide +kernel)
theorem dX12_wrong_1 : decode cX12_wrong 1 = .ok (.iload_n 1, 1) := zk_27 (by decide +kernel)
theorem dX12_wrong_2 : decode cX12_wrong 2 = .ok (.putfield 127, 3) := zk_181 (by decide +kernel)
theorem dX12_wrong_5 : decode cX12_wrong 5 = .ok (.aload_n 0, 1) := zk_42 (by decide +kernel)
theorem dX12_wrong_6 : decode cX12_wrong 6 = .ok (.aload_n 0, 1) := zk_42 (by decide +kernel)
theorem dX12_wrong_7 : decode cX12_wrong 7 = .ok (.getfield 130, 3) := zk_180 (by decide +kernel)
theorem dX12_wrong_10 : decode cX12_wrong 10 = .ok (.putfield 16, 3) := zk_181 (by decide +kernel)
theorem dX12_wrong_13 : decode cX12_wrong 13 = .ok (.iconst 0, 1) := zk_3 (by decide +kernel)
theorem dX12_wrong_14 : decode cX12_wrong 14 = .ok (.ireturn, 1) := zk_172 (by decide +kernel)
set_option maxHeartbeats 4000000 in
set_option maxRecDepth 100000 in
theorem gq_wrong (l : Launch) (dC : Nat → ClassId) (dI : Nat → Nat → Nat) (mq : Nat) (g : Nat → Int32) (gl : Nat → Int64) (rf : Nat → Nat) (a0 : Int32) (sz : Nat) : Met l yX12_wrong (Cond.code yX12_wrong cX12_wrong 2 (some .boolean) :: wsL_law) ({ frames := 0, cells := 0, slots := 0, locals := 0 }) (va_Pc [.ref mq, .int a0] (fun U => U.heap.size = sz ∧ va_P (dC, dI) vwCl [(mq, .inr (12, mF g gl rf))] U.heap ∧ va_K (dC, dI) vwCl [] U ∧ va_D (fun _ => True) [(mq, .inr (12, mF g gl rf))])) (va_Qi (fun (r : Int32) (u : (Int32) × (Int32)) => (r = (fq_wrong a0 (g 10)).1 ∧ u = (fq_wrong a0 (g 10)).2) ∧ (r = 0 ∨ r = 1) ∧ (r = 0)) (fun (u : (Int32) × (Int32)) t => va_P (dC, dI) vwCl [(mq, .inr (12, mF (upd (upd g 4 u.1) 5 u.2) gl rf))] t.heap ∧ va_K (dC, dI) vwCl [] t ∧ va_D (va_A [(mq, .inr (12, mF g gl rf))] sz) [(mq, .inr (12, mF (upd (upd g 4 u.1) 5 u.2) gl rf))]) (va_A [(mq, .inr (12, mF g gl rf))] sz)) 0 0 (va_A [(mq, .inr (12, mF g gl rf))] sz) := by
  refine Met.ofW (cc := cX12_wrong) (maxL := 2) (ret := (some .boolean)) (by decide) rfl ?_
  intro p e s m args below meth c s₁ B hml hv
  obtain ⟨rfl, hsz, hP, hK, hD0⟩ := hv
  have hx := B.exec
  have hb := B.bytes
  have hr := B.returns
  have hts := atoms_spec (ws := Cond.code yX12_wrong cX12_wrong 2 (some .boolean) :: wsL_law) B.pre
  have htw : ∀ w ∈ wsL_law, w.before _ s = true := fun w h => hts w (List.mem_cons_of_mem _ h)
  have hown : s.vm.findClass RX12 = some m.cls := findClass_of_methodNamed B.named
  have hlocks := B.notSynchronized
  subst hsz
  have hD := hD0.self (sz := s.heap.size)
  generalize hAe : va_A [(mq, .inr (12, mF g gl rf))] s.heap.size = A at hD ⊢
  have hA : ∀ q : Nat, s.heap.size ≤ q → A q := fun q h => by rw [← hAe]; exact Or.inr h
  obtain ⟨H, rH⟩ : ∃ z : Heap, z = s.heap := ⟨_, rfl⟩
  have hS : va_S A s.heap H [] := by rw [rH]; exact va_S.rf
  have hP : va_P (dC, dI) vwCl [(mq, .inr (12, mF g gl rf))] H := by rw [rH]; exact hP
  rw [← rH]
  have hl := lv_entry ([.ref mq, .int a0]) (n := 2) (Nat.le_of_ble_eq_true rfl)
  rw [lg_entry_eq]
  generalize (lg_sl ([.ref mq, .int a0]) ++ List.replicate (2 - (lg_sl ([.ref mq, .int a0])).length) Slot.unset).toArray = ls at hl ⊢
  have hl : lv_has ls 2 [(0, .ref mq), (1, .int a0)] := hl
  refine lv_aload_n hx hb dX12_wrong_0 rfl (lv_at hl 0 rfl) ?_
  refine lv_iload_n hx hb dX12_wrong_1 rfl (lv_at hl 1 rfl) ?_
  refine va_put (D := (dC, dI)) (ci := 12) (v := .int a0) (ty := tyX12 4) (C := RX12) (T := TX12) (N := 76) hx hb htw inlX12 tyX12 tyX12_ok nmX12 hown hK hP hD hS 0 rfl rfl 4 (by decide) (htw _ (ck_24 _ (List.mem_of_getElem? (i := 11) rfl))) (fun _ h9 => h9) rfl (tyX12_ok 4 (by decide)) rfl rfl (Nat.le_of_ble_eq_true rfl) dX12_wrong_2 (fun H locs hP hD hS => ?_)
  obtain ⟨hP, hD⟩ := zre [(mq, .inr (12, mF (upd g 4 a0) gl rf))] hP hD rfl
  refine lv_aload_n hx hb dX12_wrong_5 rfl (lv_at hl 0 rfl) ?_
  refine lv_aload_n hx hb dX12_wrong_6 rfl (lv_at hl 0 rfl) ?_
  refine va_get (D := (dC, dI)) (ci := 12) (v := .int (g 10)) (C := RX12) (T := TX12) (N := 76) hx hb htw inlX12 hown hK hP 0 rfl rfl 10 (by decide) (htw _ (ck_24 _ (List.mem_of_getElem? (i := 18) rfl))) (fun _ h9 => h9) rfl dX12_wrong_7 ?_
  refine va_put (D := (dC, dI)) (ci := 12) (v := .int (g 10)) (ty := tyX12 5) (C := RX12) (T := TX12) (N := 76) hx hb htw inlX12 tyX12 tyX12_ok nmX12 hown hK hP hD hS 0 rfl rfl 5 (by decide) (htw _ (ck_9 _ (List.mem_of_getElem? (i := 6) rfl))) (fun _ h9 => h9) rfl (tyX12_ok 5 (by decide)) rfl rfl (Nat.le_of_ble_eq_true rfl) dX12_wrong_10 (fun H locs hP hD hS => ?_)
  have hP : va_P (dC, dI) vwCl [(mq, .inr (12, mF (upd (upd g 4 a0) 5 (g 10)) gl rf))] H := hP
  have hD : va_D A [(mq, .inr (12, mF (upd (upd g 4 a0) 5 (g 10)) gl rf))] := hD
  refine lv_iconst (v := 0) hx hb dX12_wrong_13 (by decide) ?_
  refine W.widen (k := 0) (n := 0) (by omega) (by omega) ?_
  have hP9 := hP
  have hD9 := hD
  have hK9 := hK.sub (tys' := []) [] rfl
  exact W.zret (v := 0) hx hb hr (by first | rfl | decide) (fun t ht hW => ⟨⟨0, (a0, (g 10)), rfl, ⟨((fun e9 => ⟨by rw [e9], by rw [e9]⟩ : fq_wrong a0 (g 10) = ((0 : Int32), a0, (g 10)) → _) ((by rw [fq_wrong]))), Or.inl rfl, (gq_wrong_s0 )⟩, by rw [ht]; exact hP9, va_K.moved hW.alike hK9, hD9⟩, hS.F ht⟩) hS.2.2 dX12_wrong_14

def fq_isSmall (f_tape : Nat → Int32) (a0 : Int32) (m_stop : Int32) : Int32 := (if m_stop ≤ a0 then (0 : Int32) else (if f_tape a0.toNatClampNeg < 97 then (0 : Int32) else (if 122 < f_tape a0.toNatClampNeg then (0 : Int32) else (1 : Int32))))
theorem gq_isSmall_s0 {y0 : Int32} {y1 : Int32} (h0 : ¬ (y1 ≤ y0)) (h1 : ¬ (y0 < 0)) (h2 : y1 ≤ 900) : ¬ (y0 < 0) ∧ ¬ (900 ≤ y0) := by lia
theorem gq_isSmall_s1 {y0 : Int32} {y1 : Int32} (h0 : ¬ (y1 ≤ y0)) (h1 : ¬ (y0 < 0)) (h2 : y1 ≤ 900) : ¬ (y0 < 0) ∧ ¬ (900 ≤ y0) := by lia
theorem dX12_isSmall_0 : decode cX12_isSmall 0 = .ok (.iload_n 1, 1) := zk_27 (by decide +kernel)
theorem dX12_isSmall_1 : decode cX12_isSmall 1 = .ok (.aload_n 0, 1) := zk_42 (by decide +kernel)
theorem dX12_isSmall_2 : decode cX12_isSmall 2 = .ok (.getfield 133, 3) := zk_180 (by decide +kernel)
theorem dX12_isSmall_5 : decode cX12_isSmall 5 = .ok (.if_icmp .ge 29, 3) := zk_162 (by decide +kernel)
theorem dX12_isSmall_34 : decode cX12_isSmall 34 = .ok (.iconst 0, 1) := zk_3 (by decide +kernel)
theorem dX12_isSmall_35 : decode cX12_isSmall 35 = .ok (.ireturn, 1) := zk_172 (by decide +kernel)
theorem dX12_isSmall_8 : decode cX12_isSmall 8 = .ok (.aload_n 0, 1) := zk_42 (by decide +kernel)
theorem dX12_isSmall_9 : decode cX12_isSmall 9 = .ok (.getfield 7, 3) := zk_180 (by decide +kernel)
theorem dX12_isSmall_12 : decode cX12_isSmall 12 = .ok (.iload_n 1, 1) := zk_27 (by decide +kernel)
theorem dX12_isSmall_13 : decode cX12_isSmall 13 = .ok (.iaload, 1) := zk_46 (by decide +kernel)
theorem dX12_isSmall_14 : decode cX12_isSmall 14 = .ok (.bipush 97, 2) := zk_16 (by decide +kernel)
theorem dX12_isSmall_16 : decode cX12_isSmall 16 = .ok (.if_icmp .lt 18, 3) := zk_161 (by decide +kernel)
theorem dX12_isSmall_19 : decode cX12_isSmall 19 = .ok (.aload_n 0, 1) := zk_42 (by decide +kernel)
theorem dX12_isSmall_20 : decode cX12_isSmall 20 = .ok (.getfield 7, 3) := zk_180 (by decide +kernel)
theorem dX12_isSmall_23 : decode cX12_isSmall 23 = .ok (.iload_n 1, 1) := zk_27 (by decide +kernel)
theorem dX12_isSmall_24 : decode cX12_isSmall 24 = .ok (.iaload, 1) := zk_46 (by decide +kernel)
theorem dX12_isSmall_25 : decode cX12_isSmall 25 = .ok (.bipush 122, 2) := zk_16 (by decide +kernel)
theorem dX12_isSmall_27 : decode cX12_isSmall 27 = .ok (.if_icmp .gt 7, 3) := zk_163 (by decide +kernel)
theorem dX12_isSmall_30 : decode cX12_isSmall 30 = .ok (.iconst 1, 1) := zk_4 (by decide +kernel)
theorem dX12_isSmall_31 : decode cX12_isSmall 31 = .ok (.goto 4, 3) := zk_167 (by decide +kernel)
set_option maxHeartbeats 4000000 in
set_option maxRecDepth 100000 in
theorem gq_isSmall (l : Launch) (dC : Nat → ClassId) (dI : Nat → Nat → Nat) (mq : Nat) (g : Nat → Int32) (gl : Nat → Int64) (rf : Nat → Nat) (ck : Nat → ClassId) (f_tape : Nat → Int32) (a0 : Int32) (hk0 : ¬ a0 < 0) (hs9 : (g 6) ≤ 900) : Met l yX12_isSmall (Cond.code yX12_isSmall cX12_isSmall 2 (some .boolean) :: wsL_law) ({ frames := 0, cells := 0, slots := 0, locals := 0 }) (va_Pc [.ref mq, .int a0] (fun U => va_P (dC, dI) vwCl [(mq, .inr (12, mF g gl rf)), (eA0 (rf 0) (ck 0) 900 f_tape)] U.heap ∧ va_K (dC, dI) vwCl [((ck 0), .int)] U)) (vp_Si (fun r => (r = fq_isSmall f_tape a0 (g 6)) ∧ (r = 0 ∨ r = 1))) 0 0 (fun _ => False) := by
  refine Met.ofW (cc := cX12_isSmall) (maxL := 2) (ret := (some .boolean)) (by decide) rfl ?_
  intro p e s m args below meth c s₁ B hml hv
  obtain ⟨rfl, hP, hK⟩ := hv
  have hx := B.exec
  have hb := B.bytes
  have hr := B.returns
  have hts := atoms_spec (ws := Cond.code yX12_isSmall cX12_isSmall 2 (some .boolean) :: wsL_law) B.pre
  have htw : ∀ w ∈ wsL_law, w.before _ s = true := fun w h => hts w (List.mem_cons_of_mem _ h)
  have hown : s.vm.findClass RX12 = some m.cls := findClass_of_methodNamed B.named
  have hlocks := B.notSynchronized
  have hl := lv_entry ([.ref mq, .int a0]) (n := 2) (Nat.le_of_ble_eq_true rfl)
  rw [lg_entry_eq]
  generalize (lg_sl ([.ref mq, .int a0]) ++ List.replicate (2 - (lg_sl ([.ref mq, .int a0])).length) Slot.unset).toArray = ls at hl ⊢
  have hl : lv_has ls 2 [(0, .ref mq), (1, .int a0)] := hl
  refine lv_iload_n hx hb dX12_isSmall_0 rfl (lv_at hl 1 rfl) ?_
  refine lv_aload_n hx hb dX12_isSmall_1 rfl (lv_at hl 0 rfl) ?_
  refine va_get (D := (dC, dI)) (ci := 12) (v := .int (g 6)) (C := RX12) (T := TX12) (N := 76) hx hb htw inlX12 hown hK hP 0 rfl rfl 6 (by decide) (htw _ (ck_24 _ (List.mem_of_getElem? (i := 10) rfl))) (fun _ h9 => h9) rfl dX12_isSmall_2 ?_
  refine lv_icmp_ge (tgt := 34) hx hb dX12_isSmall_5 (by decide) (fun c_1 => ?_) (fun c_1 => ?_)
  · refine lv_iconst (v := 0) hx hb dX12_isSmall_34 (by decide) ?_
    exact W.zret (v := 0) hx hb hr (by first | rfl | decide) (fun t ht hW => ⟨0, rfl, ⟨(Eq.symm ((by rw [fq_isSmall]; (try rw [if_pos c_1]); try rfl))), Or.inl rfl⟩, ht⟩) (fun _ h => by cases h) dX12_isSmall_35
  · refine lv_aload_n hx hb dX12_isSmall_8 rfl (lv_at hl 0 rfl) ?_
    refine va_get (D := (dC, dI)) (ci := 12) (v := .ref (rf 0)) (C := RX12) (T := TX12) (N := 76) hx hb htw inlX12 hown hK hP 0 rfl rfl 0 (by decide) (htw _ (ck_9 _ (List.mem_of_getElem? (i := 4) rfl))) (fun _ h9 => h9) rfl dX12_isSmall_9 ?_
    refine lv_iload_n hx hb dX12_isSmall_12 rfl (lv_at hl 1 rfl) ?_
    refine va_iald hx hb hK hP 1 0 rfl rfl (xg_inr (N := 900) rfl (gq_isSmall_s0 (y0 := a0) (y1 := g 6) c_1 hk0 hs9).1 (gq_isSmall_s0 (y0 := a0) (y1 := g 6) c_1 hk0 hs9).2) dX12_isSmall_13 ?_
    refine lv_bipush (v := 97) hx hb dX12_isSmall_14 (by decide) ?_
    refine lv_icmp_lt (tgt := 34) hx hb dX12_isSmall_16 (by decide) (fun c_2 => ?_) (fun c_2 => ?_)
    · refine lv_iconst (v := 0) hx hb dX12_isSmall_34 (by decide) ?_
      exact W.zret (v := 0) hx hb hr (by first | rfl | decide) (fun t ht hW => ⟨0, rfl, ⟨(Eq.symm ((by rw [fq_isSmall]; (try rw [if_neg c_1]); (try rw [if_pos c_2]); try rfl))), Or.inl rfl⟩, ht⟩) (fun _ h => by cases h) dX12_isSmall_35
    · refine lv_aload_n hx hb dX12_isSmall_19 rfl (lv_at hl 0 rfl) ?_
      refine va_get (D := (dC, dI)) (ci := 12) (v := .ref (rf 0)) (C := RX12) (T := TX12) (N := 76) hx hb htw inlX12 hown hK hP 0 rfl rfl 0 (by decide) (htw _ (ck_9 _ (List.mem_of_getElem? (i := 4) rfl))) (fun _ h9 => h9) rfl dX12_isSmall_20 ?_
      refine lv_iload_n hx hb dX12_isSmall_23 rfl (lv_at hl 1 rfl) ?_
      refine va_iald hx hb hK hP 1 0 rfl rfl (xg_inr (N := 900) rfl (gq_isSmall_s1 (y0 := a0) (y1 := g 6) c_1 hk0 hs9).1 (gq_isSmall_s1 (y0 := a0) (y1 := g 6) c_1 hk0 hs9).2) dX12_isSmall_24 ?_
      refine lv_bipush (v := 122) hx hb dX12_isSmall_25 (by decide) ?_
      refine lv_icmp_gt (tgt := 34) hx hb dX12_isSmall_27 (by decide) (fun c_3 => ?_) (fun c_3 => ?_)
      · refine lv_iconst (v := 0) hx hb dX12_isSmall_34 (by decide) ?_
        exact W.zret (v := 0) hx hb hr (by first | rfl | decide) (fun t ht hW => ⟨0, rfl, ⟨(Eq.symm ((by rw [fq_isSmall]; (try rw [if_neg c_1]); (try rw [if_neg c_2]); (try rw [if_pos c_3]); try rfl))), Or.inl rfl⟩, ht⟩) (fun _ h => by cases h) dX12_isSmall_35
      · refine lv_iconst (v := 1) hx hb dX12_isSmall_30 (by decide) ?_
        refine lv_goto (tgt := 35) hx hb dX12_isSmall_31 (by decide) ?_
        exact W.zret (v := 1) hx hb hr (by first | rfl | decide) (fun t ht hW => ⟨1, rfl, ⟨(Eq.symm ((by rw [fq_isSmall]; (try rw [if_neg c_1]); (try rw [if_neg c_2]); (try rw [if_neg c_3]); try rfl))), Or.inr rfl⟩, ht⟩) (fun _ h => by cases h) dX12_isSmall_35

def fq_isDigit (f_tape : Nat → Int32) (a0 : Int32) (m_stop : Int32) : Int32 := (if m_stop ≤ a0 then (0 : Int32) else (if f_tape a0.toNatClampNeg < 48 then (0 : Int32) else (if 57 < f_tape a0.toNatClampNeg then (0 : Int32) else (1 : Int32))))
theorem gq_isDigit_s0 {y0 : Int32} {y1 : Int32} (h0 : ¬ (y1 ≤ y0)) (h1 : ¬ (y0 < 0)) (h2 : y1 ≤ 900) : ¬ (y0 < 0) ∧ ¬ (900 ≤ y0) := by lia
theorem gq_isDigit_s1 {y0 : Int32} {y1 : Int32} (h0 : ¬ (y1 ≤ y0)) (h1 : ¬ (y0 < 0)) (h2 : y1 ≤ 900) : ¬ (y0 < 0) ∧ ¬ (900 ≤ y0) := by lia
theorem dX12_isDigit_0 : decode cX12_isDigit 0 = .ok (.iload_n 1, 1) := zk_27 (by decide +kernel)
theorem dX12_isDigit_1 : decode cX12_isDigit 1 = .ok (.aload_n 0, 1) := zk_42 (by decide +kernel)
theorem dX12_isDigit_2 : decode cX12_isDigit 2 = .ok (.getfield 133, 3) := zk_180 (by decide +kernel)
theorem dX12_isDigit_5 : decode cX12_isDigit 5 = .ok (.if_icmp .ge 29, 3) := zk_162 (by decide +kernel)
theorem dX12_isDigit_34 : decode cX12_isDigit 34 = .ok (.iconst 0, 1) := zk_3 (by decide +kernel)
theorem dX12_isDigit_35 : decode cX12_isDigit 35 = .ok (.ireturn, 1) := zk_172 (by decide +kernel)
theorem dX12_isDigit_8 : decode cX12_isDigit 8 = .ok (.aload_n 0, 1) := zk_42 (by decide +kernel)
theorem dX12_isDigit_9 : decode cX12_isDigit 9 = .ok (.getfield 7, 3) := zk_180 (by decide +kernel)
theorem dX12_isDigit_12 : decode cX12_isDigit 12 = .ok (.iload_n 1, 1) := zk_27 (by decide +kernel)
theorem dX12_isDigit_13 : decode cX12_isDigit 13 = .ok (.iaload, 1) := zk_46 (by decide +kernel)
theorem dX12_isDigit_14 : decode cX12_isDigit 14 = .ok (.bipush 48, 2) := zk_16 (by decide +kernel)
theorem dX12_isDigit_16 : decode cX12_isDigit 16 = .ok (.if_icmp .lt 18, 3) := zk_161 (by decide +kernel)
theorem dX12_isDigit_19 : decode cX12_isDigit 19 = .ok (.aload_n 0, 1) := zk_42 (by decide +kernel)
theorem dX12_isDigit_20 : decode cX12_isDigit 20 = .ok (.getfield 7, 3) := zk_180 (by decide +kernel)
theorem dX12_isDigit_23 : decode cX12_isDigit 23 = .ok (.iload_n 1, 1) := zk_27 (by decide +kernel)
theorem dX12_isDigit_24 : decode cX12_isDigit 24 = .ok (.iaload, 1) := zk_46 (by decide +kernel)
theorem dX12_isDigit_25 : decode cX12_isDigit 25 = .ok (.bipush 57, 2) := zk_16 (by decide +kernel)
theorem dX12_isDigit_27 : decode cX12_isDigit 27 = .ok (.if_icmp .gt 7, 3) := zk_163 (by decide +kernel)
theorem dX12_isDigit_30 : decode cX12_isDigit 30 = .ok (.iconst 1, 1) := zk_4 (by decide +kernel)
theorem dX12_isDigit_31 : decode cX12_isDigit 31 = .ok (.goto 4, 3) := zk_167 (by decide +kernel)
set_option maxHeartbeats 4000000 in
set_option maxRecDepth 100000 in
theorem gq_isDigit (l : Launch) (dC : Nat → ClassId) (dI : Nat → Nat → Nat) (mq : Nat) (g : Nat → Int32) (gl : Nat → Int64) (rf : Nat → Nat) (ck : Nat → ClassId) (f_tape : Nat → Int32) (a0 : Int32) (hk0 : ¬ a0 < 0) (hs9 : (g 6) ≤ 900) : Met l yX12_isDigit (Cond.code yX12_isDigit cX12_isDigit 2 (some .boolean) :: wsL_law) ({ frames := 0, cells := 0, slots := 0, locals := 0 }) (va_Pc [.ref mq, .int a0] (fun U => va_P (dC, dI) vwCl [(mq, .inr (12, mF g gl rf)), (eA0 (rf 0) (ck 0) 900 f_tape)] U.heap ∧ va_K (dC, dI) vwCl [((ck 0), .int)] U)) (vp_Si (fun r => (r = fq_isDigit f_tape a0 (g 6)) ∧ (r = 0 ∨ r = 1))) 0 0 (fun _ => False) := by
  refine Met.ofW (cc := cX12_isDigit) (maxL := 2) (ret := (some .boolean)) (by decide) rfl ?_
  intro p e s m args below meth c s₁ B hml hv
  obtain ⟨rfl, hP, hK⟩ := hv
  have hx := B.exec
  have hb := B.bytes
  have hr := B.returns
  have hts := atoms_spec (ws := Cond.code yX12_isDigit cX12_isDigit 2 (some .boolean) :: wsL_law) B.pre
  have htw : ∀ w ∈ wsL_law, w.before _ s = true := fun w h => hts w (List.mem_cons_of_mem _ h)
  have hown : s.vm.findClass RX12 = some m.cls := findClass_of_methodNamed B.named
  have hlocks := B.notSynchronized
  have hl := lv_entry ([.ref mq, .int a0]) (n := 2) (Nat.le_of_ble_eq_true rfl)
  rw [lg_entry_eq]
  generalize (lg_sl ([.ref mq, .int a0]) ++ List.replicate (2 - (lg_sl ([.ref mq, .int a0])).length) Slot.unset).toArray = ls at hl ⊢
  have hl : lv_has ls 2 [(0, .ref mq), (1, .int a0)] := hl
  refine lv_iload_n hx hb dX12_isDigit_0 rfl (lv_at hl 1 rfl) ?_
  refine lv_aload_n hx hb dX12_isDigit_1 rfl (lv_at hl 0 rfl) ?_
  refine va_get (D := (dC, dI)) (ci := 12) (v := .int (g 6)) (C := RX12) (T := TX12) (N := 76) hx hb htw inlX12 hown hK hP 0 rfl rfl 6 (by decide) (htw _ (ck_24 _ (List.mem_of_getElem? (i := 10) rfl))) (fun _ h9 => h9) rfl dX12_isDigit_2 ?_
  refine lv_icmp_ge (tgt := 34) hx hb dX12_isDigit_5 (by decide) (fun c_1 => ?_) (fun c_1 => ?_)
  · refine lv_iconst (v := 0) hx hb dX12_isDigit_34 (by decide) ?_
    exact W.zret (v := 0) hx hb hr (by first | rfl | decide) (fun t ht hW => ⟨0, rfl, ⟨(Eq.symm ((by rw [fq_isDigit]; (try rw [if_pos c_1]); try rfl))), Or.inl rfl⟩, ht⟩) (fun _ h => by cases h) dX12_isDigit_35
  · refine lv_aload_n hx hb dX12_isDigit_8 rfl (lv_at hl 0 rfl) ?_
    refine va_get (D := (dC, dI)) (ci := 12) (v := .ref (rf 0)) (C := RX12) (T := TX12) (N := 76) hx hb htw inlX12 hown hK hP 0 rfl rfl 0 (by decide) (htw _ (ck_9 _ (List.mem_of_getElem? (i := 4) rfl))) (fun _ h9 => h9) rfl dX12_isDigit_9 ?_
    refine lv_iload_n hx hb dX12_isDigit_12 rfl (lv_at hl 1 rfl) ?_
    refine va_iald hx hb hK hP 1 0 rfl rfl (xg_inr (N := 900) rfl (gq_isDigit_s0 (y0 := a0) (y1 := g 6) c_1 hk0 hs9).1 (gq_isDigit_s0 (y0 := a0) (y1 := g 6) c_1 hk0 hs9).2) dX12_isDigit_13 ?_
    refine lv_bipush (v := 48) hx hb dX12_isDigit_14 (by decide) ?_
    refine lv_icmp_lt (tgt := 34) hx hb dX12_isDigit_16 (by decide) (fun c_2 => ?_) (fun c_2 => ?_)
    · refine lv_iconst (v := 0) hx hb dX12_isDigit_34 (by decide) ?_
      exact W.zret (v := 0) hx hb hr (by first | rfl | decide) (fun t ht hW => ⟨0, rfl, ⟨(Eq.symm ((by rw [fq_isDigit]; (try rw [if_neg c_1]); (try rw [if_pos c_2]); try rfl))), Or.inl rfl⟩, ht⟩) (fun _ h => by cases h) dX12_isDigit_35
    · refine lv_aload_n hx hb dX12_isDigit_19 rfl (lv_at hl 0 rfl) ?_
      refine va_get (D := (dC, dI)) (ci := 12) (v := .ref (rf 0)) (C := RX12) (T := TX12) (N := 76) hx hb htw inlX12 hown hK hP 0 rfl rfl 0 (by decide) (htw _ (ck_9 _ (List.mem_of_getElem? (i := 4) rfl))) (fun _ h9 => h9) rfl dX12_isDigit_20 ?_
      refine lv_iload_n hx hb dX12_isDigit_23 rfl (lv_at hl 1 rfl) ?_
      refine va_iald hx hb hK hP 1 0 rfl rfl (xg_inr (N := 900) rfl (gq_isDigit_s1 (y0 := a0) (y1 := g 6) c_1 hk0 hs9).1 (gq_isDigit_s1 (y0 := a0) (y1 := g 6) c_1 hk0 hs9).2) dX12_isDigit_24 ?_
      refine lv_bipush (v := 57) hx hb dX12_isDigit_25 (by decide) ?_
      refine lv_icmp_gt (tgt := 34) hx hb dX12_isDigit_27 (by decide) (fun c_3 => ?_) (fun c_3 => ?_)
      · refine lv_iconst (v := 0) hx hb dX12_isDigit_34 (by decide) ?_
        exact W.zret (v := 0) hx hb hr (by first | rfl | decide) (fun t ht hW => ⟨0, rfl, ⟨(Eq.symm ((by rw [fq_isDigit]; (try rw [if_neg c_1]); (try rw [if_neg c_2]); (try rw [if_pos c_3]); try rfl))), Or.inl rfl⟩, ht⟩) (fun _ h => by cases h) dX12_isDigit_35
      · refine lv_iconst (v := 1) hx hb dX12_isDigit_30 (by decide) ?_
        refine lv_goto (tgt := 35) hx hb dX12_isDigit_31 (by decide) ?_
        exact W.zret (v := 1) hx hb hr (by first | rfl | decide) (fun t ht hW => ⟨1, rfl, ⟨(Eq.symm ((by rw [fq_isDigit]; (try rw [if_neg c_1]); (try rw [if_neg c_2]); (try rw [if_neg c_3]); try rfl))), Or.inr rfl⟩, ht⟩) (fun _ h => by cases h) dX12_isDigit_35

def fq_isKey (a0 : Int32) (m_kind : Int32) (m_which : Int32) : Int32 := (if m_kind = 1 then (if m_which = a0 then (1 : Int32) else (0 : Int32)) else (0 : Int32))
theorem dX12_isKey_0 : decode cX12_isKey 0 = .ok (.aload_n 0, 1) := zk_42 (by decide +kernel)
theorem dX12_isKey_1 : decode cX12_isKey 1 = .ok (.getfield 139, 3) := zk_180 (by decide +kernel)
theorem dX12_isKey_4 : decode cX12_isKey 4 = .ok (.iconst 1, 1) := zk_4 (by decide +kernel)
theorem dX12_isKey_5 : decode cX12_isKey 5 = .ok (.if_icmp .ne 15, 3) := zk_160 (by decide +kernel)
theorem dX12_isKey_20 : decode cX12_isKey 20 = .ok (.iconst 0, 1) := zk_3 (by decide +kernel)
theorem dX12_isKey_21 : decode cX12_isKey 21 = .ok (.ireturn, 1) := zk_172 (by decide +kernel)
theorem dX12_isKey_8 : decode cX12_isKey 8 = .ok (.aload_n 0, 1) := zk_42 (by decide +kernel)
theorem dX12_isKey_9 : decode cX12_isKey 9 = .ok (.getfield 150, 3) := zk_180 (by decide +kernel)
theorem dX12_isKey_12 : decode cX12_isKey 12 = .ok (.iload_n 1, 1) := zk_27 (by decide +kernel)
theorem dX12_isKey_13 : decode cX12_isKey 13 = .ok (.if_icmp .ne 7, 3) := zk_160 (by decide +kernel)
theorem dX12_isKey_16 : decode cX12_isKey 16 = .ok (.iconst 1, 1) := zk_4 (by decide +kernel)
theorem dX12_isKey_17 : decode cX12_isKey 17 = .ok (.goto 4, 3) := zk_167 (by decide +kernel)
set_option maxHeartbeats 4000000 in
set_option maxRecDepth 100000 in
theorem gq_isKey (l : Launch) (dC : Nat → ClassId) (dI : Nat → Nat → Nat) (mq : Nat) (g : Nat → Int32) (gl : Nat → Int64) (rf : Nat → Nat) (a0 : Int32) : Met l yX12_isKey (Cond.code yX12_isKey cX12_isKey 2 (some .boolean) :: wsL_law) ({ frames := 0, cells := 0, slots := 0, locals := 0 }) (va_Pc [.ref mq, .int a0] (fun U => va_P (dC, dI) vwCl [(mq, .inr (12, mF g gl rf))] U.heap ∧ va_K (dC, dI) vwCl [] U)) (vp_Si (fun r => (r = fq_isKey a0 (g 8) (g 9)) ∧ (r = 0 ∨ r = 1))) 0 0 (fun _ => False) := by
  refine Met.ofW (cc := cX12_isKey) (maxL := 2) (ret := (some .boolean)) (by decide) rfl ?_
  intro p e s m args below meth c s₁ B hml hv
  obtain ⟨rfl, hP, hK⟩ := hv
  have hx := B.exec
  have hb := B.bytes
  have hr := B.returns
  have hts := atoms_spec (ws := Cond.code yX12_isKey cX12_isKey 2 (some .boolean) :: wsL_law) B.pre
  have htw : ∀ w ∈ wsL_law, w.before _ s = true := fun w h => hts w (List.mem_cons_of_mem _ h)
  have hown : s.vm.findClass RX12 = some m.cls := findClass_of_methodNamed B.named
  have hlocks := B.notSynchronized
  have hl := lv_entry ([.ref mq, .int a0]) (n := 2) (Nat.le_of_ble_eq_true rfl)
  rw [lg_entry_eq]
  generalize (lg_sl ([.ref mq, .int a0]) ++ List.replicate (2 - (lg_sl ([.ref mq, .int a0])).length) Slot.unset).toArray = ls at hl ⊢
  have hl : lv_has ls 2 [(0, .ref mq), (1, .int a0)] := hl
  refine lv_aload_n hx hb dX12_isKey_0 rfl (lv_at hl 0 rfl) ?_
  refine va_get (D := (dC, dI)) (ci := 12) (v := .int (g 8)) (C := RX12) (T := TX12) (N := 76) hx hb htw inlX12 hown hK hP 0 rfl rfl 8 (by decide) (htw _ (ck_24 _ (List.mem_of_getElem? (i := 13) rfl))) (fun _ h9 => h9) rfl dX12_isKey_1 ?_
  refine lv_iconst (v := 1) hx hb dX12_isKey_4 (by decide) ?_
  refine lv_icmp_ne (tgt := 20) hx hb dX12_isKey_5 (by decide) (fun c_1 => ?_) (fun c_1 => ?_)
  · refine lv_iconst (v := 0) hx hb dX12_isKey_20 (by decide) ?_
    exact W.zret (v := 0) hx hb hr (by first | rfl | decide) (fun t ht hW => ⟨0, rfl, ⟨(Eq.symm ((by rw [fq_isKey]; (try rw [if_neg c_1]); try rfl))), Or.inl rfl⟩, ht⟩) (fun _ h => by cases h) dX12_isKey_21
  · refine lv_aload_n hx hb dX12_isKey_8 rfl (lv_at hl 0 rfl) ?_
    refine va_get (D := (dC, dI)) (ci := 12) (v := .int (g 9)) (C := RX12) (T := TX12) (N := 76) hx hb htw inlX12 hown hK hP 0 rfl rfl 9 (by decide) (htw _ (ck_24 _ (List.mem_of_getElem? (i := 19) rfl))) (fun _ h9 => h9) rfl dX12_isKey_9 ?_
    refine lv_iload_n hx hb dX12_isKey_12 rfl (lv_at hl 1 rfl) ?_
    refine lv_icmp_ne (tgt := 20) hx hb dX12_isKey_13 (by decide) (fun c_2 => ?_) (fun c_2 => ?_)
    · refine lv_iconst (v := 0) hx hb dX12_isKey_20 (by decide) ?_
      exact W.zret (v := 0) hx hb hr (by first | rfl | decide) (fun t ht hW => ⟨0, rfl, ⟨(Eq.symm ((by rw [fq_isKey]; (try rw [if_pos c_1]); (try rw [if_neg c_2]); try rfl))), Or.inl rfl⟩, ht⟩) (fun _ h => by cases h) dX12_isKey_21
    · refine lv_iconst (v := 1) hx hb dX12_isKey_16 (by decide) ?_
      refine lv_goto (tgt := 21) hx hb dX12_isKey_17 (by decide) ?_
      exact W.zret (v := 1) hx hb hr (by first | rfl | decide) (fun t ht hW => ⟨1, rfl, ⟨(Eq.symm ((by rw [fq_isKey]; (try rw [if_pos c_1]); (try rw [if_pos c_2]); try rfl))), Or.inr rfl⟩, ht⟩) (fun _ h => by cases h) dX12_isKey_21

def fq_isSign (a0 : Int32) (m_kind : Int32) (m_which : Int32) : Int32 := (if m_kind = 4 then (if m_which = a0 then (1 : Int32) else (0 : Int32)) else (0 : Int32))
theorem dX12_isSign_0 : decode cX12_isSign 0 = .ok (.aload_n 0, 1) := zk_42 (by decide +kernel)
theorem dX12_isSign_1 : decode cX12_isSign 1 = .ok (.getfield 139, 3) := zk_180 (by decide +kernel)
theorem dX12_isSign_4 : decode cX12_isSign 4 = .ok (.iconst 4, 1) := zk_7 (by decide +kernel)
theorem dX12_isSign_5 : decode cX12_isSign 5 = .ok (.if_icmp .ne 15, 3) := zk_160 (by decide +kernel)
theorem dX12_isSign_20 : decode cX12_isSign 20 = .ok (.iconst 0, 1) := zk_3 (by decide +kernel)
theorem dX12_isSign_21 : decode cX12_isSign 21 = .ok (.ireturn, 1) := zk_172 (by decide +kernel)
theorem dX12_isSign_8 : decode cX12_isSign 8 = .ok (.aload_n 0, 1) := zk_42 (by decide +kernel)
theorem dX12_isSign_9 : decode cX12_isSign 9 = .ok (.getfield 150, 3) := zk_180 (by decide +kernel)
theorem dX12_isSign_12 : decode cX12_isSign 12 = .ok (.iload_n 1, 1) := zk_27 (by decide +kernel)
theorem dX12_isSign_13 : decode cX12_isSign 13 = .ok (.if_icmp .ne 7, 3) := zk_160 (by decide +kernel)
theorem dX12_isSign_16 : decode cX12_isSign 16 = .ok (.iconst 1, 1) := zk_4 (by decide +kernel)
theorem dX12_isSign_17 : decode cX12_isSign 17 = .ok (.goto 4, 3) := zk_167 (by decide +kernel)
set_option maxHeartbeats 4000000 in
set_option maxRecDepth 100000 in
theorem gq_isSign (l : Launch) (dC : Nat → ClassId) (dI : Nat → Nat → Nat) (mq : Nat) (g : Nat → Int32) (gl : Nat → Int64) (rf : Nat → Nat) (a0 : Int32) : Met l yX12_isSign (Cond.code yX12_isSign cX12_isSign 2 (some .boolean) :: wsL_law) ({ frames := 0, cells := 0, slots := 0, locals := 0 }) (va_Pc [.ref mq, .int a0] (fun U => va_P (dC, dI) vwCl [(mq, .inr (12, mF g gl rf))] U.heap ∧ va_K (dC, dI) vwCl [] U)) (vp_Si (fun r => (r = fq_isSign a0 (g 8) (g 9)) ∧ (r = 0 ∨ r = 1))) 0 0 (fun _ => False) := by
  refine Met.ofW (cc := cX12_isSign) (maxL := 2) (ret := (some .boolean)) (by decide) rfl ?_
  intro p e s m args below meth c s₁ B hml hv
  obtain ⟨rfl, hP, hK⟩ := hv
  have hx := B.exec
  have hb := B.bytes
  have hr := B.returns
  have hts := atoms_spec (ws := Cond.code yX12_isSign cX12_isSign 2 (some .boolean) :: wsL_law) B.pre
  have htw : ∀ w ∈ wsL_law, w.before _ s = true := fun w h => hts w (List.mem_cons_of_mem _ h)
  have hown : s.vm.findClass RX12 = some m.cls := findClass_of_methodNamed B.named
  have hlocks := B.notSynchronized
  have hl := lv_entry ([.ref mq, .int a0]) (n := 2) (Nat.le_of_ble_eq_true rfl)
  rw [lg_entry_eq]
  generalize (lg_sl ([.ref mq, .int a0]) ++ List.replicate (2 - (lg_sl ([.ref mq, .int a0])).length) Slot.unset).toArray = ls at hl ⊢
  have hl : lv_has ls 2 [(0, .ref mq), (1, .int a0)] := hl
  refine lv_aload_n hx hb dX12_isSign_0 rfl (lv_at hl 0 rfl) ?_
  refine va_get (D := (dC, dI)) (ci := 12) (v := .int (g 8)) (C := RX12) (T := TX12) (N := 76) hx hb htw inlX12 hown hK hP 0 rfl rfl 8 (by decide) (htw _ (ck_24 _ (List.mem_of_getElem? (i := 13) rfl))) (fun _ h9 => h9) rfl dX12_isSign_1 ?_
  refine lv_iconst (v := 4) hx hb dX12_isSign_4 (by decide) ?_
  refine lv_icmp_ne (tgt := 20) hx hb dX12_isSign_5 (by decide) (fun c_1 => ?_) (fun c_1 => ?_)
  · refine lv_iconst (v := 0) hx hb dX12_isSign_20 (by decide) ?_
    exact W.zret (v := 0) hx hb hr (by first | rfl | decide) (fun t ht hW => ⟨0, rfl, ⟨(Eq.symm ((by rw [fq_isSign]; (try rw [if_neg c_1]); try rfl))), Or.inl rfl⟩, ht⟩) (fun _ h => by cases h) dX12_isSign_21
  · refine lv_aload_n hx hb dX12_isSign_8 rfl (lv_at hl 0 rfl) ?_
    refine va_get (D := (dC, dI)) (ci := 12) (v := .int (g 9)) (C := RX12) (T := TX12) (N := 76) hx hb htw inlX12 hown hK hP 0 rfl rfl 9 (by decide) (htw _ (ck_24 _ (List.mem_of_getElem? (i := 19) rfl))) (fun _ h9 => h9) rfl dX12_isSign_9 ?_
    refine lv_iload_n hx hb dX12_isSign_12 rfl (lv_at hl 1 rfl) ?_
    refine lv_icmp_ne (tgt := 20) hx hb dX12_isSign_13 (by decide) (fun c_2 => ?_) (fun c_2 => ?_)
    · refine lv_iconst (v := 0) hx hb dX12_isSign_20 (by decide) ?_
      exact W.zret (v := 0) hx hb hr (by first | rfl | decide) (fun t ht hW => ⟨0, rfl, ⟨(Eq.symm ((by rw [fq_isSign]; (try rw [if_pos c_1]); (try rw [if_neg c_2]); try rfl))), Or.inl rfl⟩, ht⟩) (fun _ h => by cases h) dX12_isSign_21
    · refine lv_iconst (v := 1) hx hb dX12_isSign_16 (by decide) ?_
      refine lv_goto (tgt := 21) hx hb dX12_isSign_17 (by decide) ?_
      exact W.zret (v := 1) hx hb hr (by first | rfl | decide) (fun t ht hW => ⟨1, rfl, ⟨(Eq.symm ((by rw [fq_isSign]; (try rw [if_pos c_1]); (try rw [if_pos c_2]); try rfl))), Or.inr rfl⟩, ht⟩) (fun _ h => by cases h) dX12_isSign_21
