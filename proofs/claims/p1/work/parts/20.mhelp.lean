theorem dX12_isLand_0 : decode cX12_isLand 0 = .ok (.iload_n 1, 1) := by decide +kernel
theorem dX12_isLand_1 : decode cX12_isLand 1 = .ok (.ifCond .lt 15, 3) := by decide +kernel
theorem dX12_isLand_16 : decode cX12_isLand 16 = .ok (.iconst 0, 1) := by decide +kernel
theorem dX12_isLand_17 : decode cX12_isLand 17 = .ok (.ireturn, 1) := by decide +kernel
theorem dX12_isLand_4 : decode cX12_isLand 4 = .ok (.iload_n 1, 1) := by decide +kernel
theorem dX12_isLand_5 : decode cX12_isLand 5 = .ok (.aload_n 0, 1) := by decide +kernel
theorem dX12_isLand_6 : decode cX12_isLand 6 = .ok (.getfield 217, 3) := by decide +kernel
theorem dX12_isLand_9 : decode cX12_isLand 9 = .ok (.if_icmp .ge 7, 3) := by decide +kernel
set_option maxHeartbeats 4000000 in
set_option maxRecDepth 100000 in
theorem mm_isLand (l : Launch) (dC : Nat → ClassId) (dI : Nat → Nat → Nat) (mq : Nat) (fs : List Value) (a0 : Int32) (hlen : fs.length = 76) (hf12 : fs[12]? = some (.int 0)) : Met l yX12_isLand (Cond.code yX12_isLand cX12_isLand 2 (some .boolean) :: wsL_law) ({ frames := 0, cells := 0, slots := 0, locals := 0 }) (va_Pc [.ref mq, .int a0] (fun U => va_P (dC, dI) vwCl [(mq, .inr (12, fs))] U.heap ∧ va_K (dC, dI) vwCl [] U)) (vp_Si (fun r => r = 0)) 0 0 (fun _ => False) := by
  refine Met.ofW (cc := cX12_isLand) (maxL := 2) (ret := (some .boolean)) (by decide) rfl ?_
  intro p e s m args below meth c s₁ B hml hv
  obtain ⟨rfl, hP, hK⟩ := hv
  have hx := B.exec
  have hb := B.bytes
  have hr := B.returns
  have hts := atoms_spec (ws := Cond.code yX12_isLand cX12_isLand 2 (some .boolean) :: wsL_law) B.pre
  have htw : ∀ w ∈ wsL_law, w.before _ s = true := fun w h => hts w (List.mem_cons_of_mem _ h)
  have hown : s.vm.findClass RX12 = some m.cls := findClass_of_methodNamed B.named
  have hlocks := B.notSynchronized
  have hl := lv_entry ([.ref mq, .int a0]) (n := 2) (Nat.le_of_ble_eq_true rfl)
  rw [lg_entry_eq]
  generalize (lg_sl ([.ref mq, .int a0]) ++ List.replicate (2 - (lg_sl ([.ref mq, .int a0])).length) Slot.unset).toArray = ls at hl ⊢
  have hl : lv_has ls 2 [(0, .ref mq), (1, .int a0)] := hl
  refine lv_iload_n hx hb dX12_isLand_0 rfl (lv_at hl 1 rfl) ?_
  refine lv_if_lt (tgt := 16) hx hb dX12_isLand_1 (by decide) (fun c_1 => ?_) (fun c_1 => ?_)
  · refine lv_iconst (v := 0) hx hb dX12_isLand_16 (by decide) ?_
    exact W.zret (v := 0) hx hb hr (by first | rfl | decide) (fun t ht hW => ⟨0, rfl, rfl, ht⟩) (fun _ h => by cases h) dX12_isLand_17
  · refine lv_iload_n hx hb dX12_isLand_4 rfl (lv_at hl 1 rfl) ?_
    refine lv_aload_n hx hb dX12_isLand_5 rfl (lv_at hl 0 rfl) ?_
    refine va_get (D := (dC, dI)) (ci := 12) (v := .int 0) (C := RX12) (T := TX12) (N := 76) hx hb htw inlX12 hown hK hP 0 rfl rfl 12 (by decide) (htw _ (ck_11 _ (List.mem_of_getElem? (i := 9) rfl))) (fun _ h9 => h9) hf12 dX12_isLand_6 ?_
    refine lv_icmp_ge (tgt := 16) hx hb dX12_isLand_9 (by decide) (fun c_2 => ?_) (fun c_2 => absurd c_2 (fun h => h (xg_nlt c_1)))
    refine lv_iconst (v := 0) hx hb dX12_isLand_16 (by decide) ?_
    exact W.zret (v := 0) hx hb hr (by first | rfl | decide) (fun t ht hW => ⟨0, rfl, rfl, ht⟩) (fun _ h => by cases h) dX12_isLand_17

theorem dX12_isFeast_0 : decode cX12_isFeast 0 = .ok (.iload_n 1, 1) := by decide +kernel
theorem dX12_isFeast_1 : decode cX12_isFeast 1 = .ok (.ifCond .lt 15, 3) := by decide +kernel
theorem dX12_isFeast_16 : decode cX12_isFeast 16 = .ok (.iconst 0, 1) := by decide +kernel
theorem dX12_isFeast_17 : decode cX12_isFeast 17 = .ok (.ireturn, 1) := by decide +kernel
theorem dX12_isFeast_4 : decode cX12_isFeast 4 = .ok (.iload_n 1, 1) := by decide +kernel
theorem dX12_isFeast_5 : decode cX12_isFeast 5 = .ok (.aload_n 0, 1) := by decide +kernel
theorem dX12_isFeast_6 : decode cX12_isFeast 6 = .ok (.getfield 220, 3) := by decide +kernel
theorem dX12_isFeast_9 : decode cX12_isFeast 9 = .ok (.if_icmp .ge 7, 3) := by decide +kernel
set_option maxHeartbeats 4000000 in
set_option maxRecDepth 100000 in
theorem mm_isFeast (l : Launch) (dC : Nat → ClassId) (dI : Nat → Nat → Nat) (mq : Nat) (fs : List Value) (a0 : Int32) (hlen : fs.length = 76) (hf13 : fs[13]? = some (.int 0)) : Met l yX12_isFeast (Cond.code yX12_isFeast cX12_isFeast 2 (some .boolean) :: wsL_law) ({ frames := 0, cells := 0, slots := 0, locals := 0 }) (va_Pc [.ref mq, .int a0] (fun U => va_P (dC, dI) vwCl [(mq, .inr (12, fs))] U.heap ∧ va_K (dC, dI) vwCl [] U)) (vp_Si (fun r => r = 0)) 0 0 (fun _ => False) := by
  refine Met.ofW (cc := cX12_isFeast) (maxL := 2) (ret := (some .boolean)) (by decide) rfl ?_
  intro p e s m args below meth c s₁ B hml hv
  obtain ⟨rfl, hP, hK⟩ := hv
  have hx := B.exec
  have hb := B.bytes
  have hr := B.returns
  have hts := atoms_spec (ws := Cond.code yX12_isFeast cX12_isFeast 2 (some .boolean) :: wsL_law) B.pre
  have htw : ∀ w ∈ wsL_law, w.before _ s = true := fun w h => hts w (List.mem_cons_of_mem _ h)
  have hown : s.vm.findClass RX12 = some m.cls := findClass_of_methodNamed B.named
  have hlocks := B.notSynchronized
  have hl := lv_entry ([.ref mq, .int a0]) (n := 2) (Nat.le_of_ble_eq_true rfl)
  rw [lg_entry_eq]
  generalize (lg_sl ([.ref mq, .int a0]) ++ List.replicate (2 - (lg_sl ([.ref mq, .int a0])).length) Slot.unset).toArray = ls at hl ⊢
  have hl : lv_has ls 2 [(0, .ref mq), (1, .int a0)] := hl
  refine lv_iload_n hx hb dX12_isFeast_0 rfl (lv_at hl 1 rfl) ?_
  refine lv_if_lt (tgt := 16) hx hb dX12_isFeast_1 (by decide) (fun c_1 => ?_) (fun c_1 => ?_)
  · refine lv_iconst (v := 0) hx hb dX12_isFeast_16 (by decide) ?_
    exact W.zret (v := 0) hx hb hr (by first | rfl | decide) (fun t ht hW => ⟨0, rfl, rfl, ht⟩) (fun _ h => by cases h) dX12_isFeast_17
  · refine lv_iload_n hx hb dX12_isFeast_4 rfl (lv_at hl 1 rfl) ?_
    refine lv_aload_n hx hb dX12_isFeast_5 rfl (lv_at hl 0 rfl) ?_
    refine va_get (D := (dC, dI)) (ci := 12) (v := .int 0) (C := RX12) (T := TX12) (N := 76) hx hb htw inlX12 hown hK hP 0 rfl rfl 13 (by decide) (htw _ (ck_11 _ (List.mem_of_getElem? (i := 10) rfl))) (fun _ h9 => h9) hf13 dX12_isFeast_6 ?_
    refine lv_icmp_ge (tgt := 16) hx hb dX12_isFeast_9 (by decide) (fun c_2 => ?_) (fun c_2 => absurd c_2 (fun h => h (xg_nlt c_1)))
    refine lv_iconst (v := 0) hx hb dX12_isFeast_16 (by decide) ?_
    exact W.zret (v := 0) hx hb hr (by first | rfl | decide) (fun t ht hW => ⟨0, rfl, rfl, ht⟩) (fun _ h => by cases h) dX12_isFeast_17

theorem dX12_isPerson_0 : decode cX12_isPerson 0 = .ok (.iload_n 1, 1) := by decide +kernel
theorem dX12_isPerson_1 : decode cX12_isPerson 1 = .ok (.ifCond .lt 15, 3) := by decide +kernel
theorem dX12_isPerson_16 : decode cX12_isPerson 16 = .ok (.iconst 0, 1) := by decide +kernel
theorem dX12_isPerson_17 : decode cX12_isPerson 17 = .ok (.ireturn, 1) := by decide +kernel
theorem dX12_isPerson_4 : decode cX12_isPerson 4 = .ok (.iload_n 1, 1) := by decide +kernel
theorem dX12_isPerson_5 : decode cX12_isPerson 5 = .ok (.aload_n 0, 1) := by decide +kernel
theorem dX12_isPerson_6 : decode cX12_isPerson 6 = .ok (.getfield 223, 3) := by decide +kernel
theorem dX12_isPerson_9 : decode cX12_isPerson 9 = .ok (.if_icmp .ge 7, 3) := by decide +kernel
set_option maxHeartbeats 4000000 in
set_option maxRecDepth 100000 in
theorem mm_isPerson (l : Launch) (dC : Nat → ClassId) (dI : Nat → Nat → Nat) (mq : Nat) (fs : List Value) (a0 : Int32) (hlen : fs.length = 76) (hf14 : fs[14]? = some (.int 0)) : Met l yX12_isPerson (Cond.code yX12_isPerson cX12_isPerson 2 (some .boolean) :: wsL_law) ({ frames := 0, cells := 0, slots := 0, locals := 0 }) (va_Pc [.ref mq, .int a0] (fun U => va_P (dC, dI) vwCl [(mq, .inr (12, fs))] U.heap ∧ va_K (dC, dI) vwCl [] U)) (vp_Si (fun r => r = 0)) 0 0 (fun _ => False) := by
  refine Met.ofW (cc := cX12_isPerson) (maxL := 2) (ret := (some .boolean)) (by decide) rfl ?_
  intro p e s m args below meth c s₁ B hml hv
  obtain ⟨rfl, hP, hK⟩ := hv
  have hx := B.exec
  have hb := B.bytes
  have hr := B.returns
  have hts := atoms_spec (ws := Cond.code yX12_isPerson cX12_isPerson 2 (some .boolean) :: wsL_law) B.pre
  have htw : ∀ w ∈ wsL_law, w.before _ s = true := fun w h => hts w (List.mem_cons_of_mem _ h)
  have hown : s.vm.findClass RX12 = some m.cls := findClass_of_methodNamed B.named
  have hlocks := B.notSynchronized
  have hl := lv_entry ([.ref mq, .int a0]) (n := 2) (Nat.le_of_ble_eq_true rfl)
  rw [lg_entry_eq]
  generalize (lg_sl ([.ref mq, .int a0]) ++ List.replicate (2 - (lg_sl ([.ref mq, .int a0])).length) Slot.unset).toArray = ls at hl ⊢
  have hl : lv_has ls 2 [(0, .ref mq), (1, .int a0)] := hl
  refine lv_iload_n hx hb dX12_isPerson_0 rfl (lv_at hl 1 rfl) ?_
  refine lv_if_lt (tgt := 16) hx hb dX12_isPerson_1 (by decide) (fun c_1 => ?_) (fun c_1 => ?_)
  · refine lv_iconst (v := 0) hx hb dX12_isPerson_16 (by decide) ?_
    exact W.zret (v := 0) hx hb hr (by first | rfl | decide) (fun t ht hW => ⟨0, rfl, rfl, ht⟩) (fun _ h => by cases h) dX12_isPerson_17
  · refine lv_iload_n hx hb dX12_isPerson_4 rfl (lv_at hl 1 rfl) ?_
    refine lv_aload_n hx hb dX12_isPerson_5 rfl (lv_at hl 0 rfl) ?_
    refine va_get (D := (dC, dI)) (ci := 12) (v := .int 0) (C := RX12) (T := TX12) (N := 76) hx hb htw inlX12 hown hK hP 0 rfl rfl 14 (by decide) (htw _ (ck_11 _ (List.mem_of_getElem? (i := 11) rfl))) (fun _ h9 => h9) hf14 dX12_isPerson_6 ?_
    refine lv_icmp_ge (tgt := 16) hx hb dX12_isPerson_9 (by decide) (fun c_2 => ?_) (fun c_2 => absurd c_2 (fun h => h (xg_nlt c_1)))
    refine lv_iconst (v := 0) hx hb dX12_isPerson_16 (by decide) ?_
    exact W.zret (v := 0) hx hb hr (by first | rfl | decide) (fun t ht hW => ⟨0, rfl, rfl, ht⟩) (fun _ h => by cases h) dX12_isPerson_17

theorem dX12_isNote_0 : decode cX12_isNote 0 = .ok (.iload_n 1, 1) := by decide +kernel
theorem dX12_isNote_1 : decode cX12_isNote 1 = .ok (.ifCond .lt 15, 3) := by decide +kernel
theorem dX12_isNote_16 : decode cX12_isNote 16 = .ok (.iconst 0, 1) := by decide +kernel
theorem dX12_isNote_17 : decode cX12_isNote 17 = .ok (.ireturn, 1) := by decide +kernel
theorem dX12_isNote_4 : decode cX12_isNote 4 = .ok (.iload_n 1, 1) := by decide +kernel
theorem dX12_isNote_5 : decode cX12_isNote 5 = .ok (.aload_n 0, 1) := by decide +kernel
theorem dX12_isNote_6 : decode cX12_isNote 6 = .ok (.getfield 229, 3) := by decide +kernel
theorem dX12_isNote_9 : decode cX12_isNote 9 = .ok (.if_icmp .ge 7, 3) := by decide +kernel
set_option maxHeartbeats 4000000 in
set_option maxRecDepth 100000 in
theorem mm_isNote (l : Launch) (dC : Nat → ClassId) (dI : Nat → Nat → Nat) (mq : Nat) (fs : List Value) (a0 : Int32) (hlen : fs.length = 76) (hf16 : fs[16]? = some (.int 0)) : Met l yX12_isNote (Cond.code yX12_isNote cX12_isNote 2 (some .boolean) :: wsL_law) ({ frames := 0, cells := 0, slots := 0, locals := 0 }) (va_Pc [.ref mq, .int a0] (fun U => va_P (dC, dI) vwCl [(mq, .inr (12, fs))] U.heap ∧ va_K (dC, dI) vwCl [] U)) (vp_Si (fun r => r = 0)) 0 0 (fun _ => False) := by
  refine Met.ofW (cc := cX12_isNote) (maxL := 2) (ret := (some .boolean)) (by decide) rfl ?_
  intro p e s m args below meth c s₁ B hml hv
  obtain ⟨rfl, hP, hK⟩ := hv
  have hx := B.exec
  have hb := B.bytes
  have hr := B.returns
  have hts := atoms_spec (ws := Cond.code yX12_isNote cX12_isNote 2 (some .boolean) :: wsL_law) B.pre
  have htw : ∀ w ∈ wsL_law, w.before _ s = true := fun w h => hts w (List.mem_cons_of_mem _ h)
  have hown : s.vm.findClass RX12 = some m.cls := findClass_of_methodNamed B.named
  have hlocks := B.notSynchronized
  have hl := lv_entry ([.ref mq, .int a0]) (n := 2) (Nat.le_of_ble_eq_true rfl)
  rw [lg_entry_eq]
  generalize (lg_sl ([.ref mq, .int a0]) ++ List.replicate (2 - (lg_sl ([.ref mq, .int a0])).length) Slot.unset).toArray = ls at hl ⊢
  have hl : lv_has ls 2 [(0, .ref mq), (1, .int a0)] := hl
  refine lv_iload_n hx hb dX12_isNote_0 rfl (lv_at hl 1 rfl) ?_
  refine lv_if_lt (tgt := 16) hx hb dX12_isNote_1 (by decide) (fun c_1 => ?_) (fun c_1 => ?_)
  · refine lv_iconst (v := 0) hx hb dX12_isNote_16 (by decide) ?_
    exact W.zret (v := 0) hx hb hr (by first | rfl | decide) (fun t ht hW => ⟨0, rfl, rfl, ht⟩) (fun _ h => by cases h) dX12_isNote_17
  · refine lv_iload_n hx hb dX12_isNote_4 rfl (lv_at hl 1 rfl) ?_
    refine lv_aload_n hx hb dX12_isNote_5 rfl (lv_at hl 0 rfl) ?_
    refine va_get (D := (dC, dI)) (ci := 12) (v := .int 0) (C := RX12) (T := TX12) (N := 76) hx hb htw inlX12 hown hK hP 0 rfl rfl 16 (by decide) (htw _ (ck_11 _ (List.mem_of_getElem? (i := 13) rfl))) (fun _ h9 => h9) hf16 dX12_isNote_6 ?_
    refine lv_icmp_ge (tgt := 16) hx hb dX12_isNote_9 (by decide) (fun c_2 => ?_) (fun c_2 => absurd c_2 (fun h => h (xg_nlt c_1)))
    refine lv_iconst (v := 0) hx hb dX12_isNote_16 (by decide) ?_
    exact W.zret (v := 0) hx hb hr (by first | rfl | decide) (fun t ht hW => ⟨0, rfl, rfl, ht⟩) (fun _ h => by cases h) dX12_isNote_17

theorem dX12_isIn_0 : decode cX12_isIn 0 = .ok (.iload_n 0, 1) := by decide +kernel
theorem dX12_isIn_1 : decode cX12_isIn 1 = .ok (.iload_n 1, 1) := by decide +kernel
theorem dX12_isIn_2 : decode cX12_isIn 2 = .ok (.if_icmp .lt 12, 3) := by decide +kernel
theorem dX12_isIn_14 : decode cX12_isIn 14 = .ok (.iconst 0, 1) := by decide +kernel
theorem dX12_isIn_15 : decode cX12_isIn 15 = .ok (.ireturn, 1) := by decide +kernel
theorem dX12_isIn_5 : decode cX12_isIn 5 = .ok (.iload_n 0, 1) := by decide +kernel
theorem dX12_isIn_6 : decode cX12_isIn 6 = .ok (.iload_n 2, 1) := by decide +kernel
theorem dX12_isIn_7 : decode cX12_isIn 7 = .ok (.if_icmp .gt 7, 3) := by decide +kernel
theorem dX12_isIn_10 : decode cX12_isIn 10 = .ok (.iconst 1, 1) := by decide +kernel
theorem dX12_isIn_11 : decode cX12_isIn 11 = .ok (.goto 4, 3) := by decide +kernel
set_option maxHeartbeats 4000000 in
set_option maxRecDepth 100000 in
theorem mm_isIn (l : Launch) (dC : Nat → ClassId) (dI : Nat → Nat → Nat) (k0 : Int32) (k1 : Int32) (k2 : Int32) : Met l yX12_isIn (Cond.code yX12_isIn cX12_isIn 3 (some .boolean) :: wsL_law) ({ frames := 0, cells := 0, slots := 0, locals := 0 }) (va_Pc [.int k0, .int k1, .int k2] (fun U => va_P (dC, dI) vwCl [] U.heap ∧ va_K (dC, dI) vwCl [] U)) (vp_Si (fun r => r = xg_isin k0 k1 k2)) 0 0 (fun _ => False) := by
  refine Met.ofW (cc := cX12_isIn) (maxL := 3) (ret := (some .boolean)) (by decide) rfl ?_
  intro p e s m args below meth c s₁ B hml hv
  obtain ⟨rfl, hP, hK⟩ := hv
  have hx := B.exec
  have hb := B.bytes
  have hr := B.returns
  have hts := atoms_spec (ws := Cond.code yX12_isIn cX12_isIn 3 (some .boolean) :: wsL_law) B.pre
  have htw : ∀ w ∈ wsL_law, w.before _ s = true := fun w h => hts w (List.mem_cons_of_mem _ h)
  have hown : s.vm.findClass RX12 = some m.cls := findClass_of_methodNamed B.named
  have hlocks := B.notSynchronized
  have hl := lv_entry ([.int k0, .int k1, .int k2]) (n := 3) (Nat.le_of_ble_eq_true rfl)
  rw [lg_entry_eq]
  generalize (lg_sl ([.int k0, .int k1, .int k2]) ++ List.replicate (3 - (lg_sl ([.int k0, .int k1, .int k2])).length) Slot.unset).toArray = ls at hl ⊢
  have hl : lv_has ls 3 [(0, .int k0), (1, .int k1), (2, .int k2)] := hl
  refine lv_iload_n hx hb dX12_isIn_0 rfl (lv_at hl 0 rfl) ?_
  refine lv_iload_n hx hb dX12_isIn_1 rfl (lv_at hl 1 rfl) ?_
  refine lv_icmp_lt (tgt := 14) hx hb dX12_isIn_2 (by decide) (fun c_1 => ?_) (fun c_1 => ?_)
  · refine lv_iconst (v := 0) hx hb dX12_isIn_14 (by decide) ?_
    exact W.zret (v := 0) hx hb hr (by first | rfl | decide) (fun t ht hW => ⟨0, rfl, (xg_isinA c_1).symm, ht⟩) (fun _ h => by cases h) dX12_isIn_15
  · refine lv_iload_n hx hb dX12_isIn_5 rfl (lv_at hl 0 rfl) ?_
    refine lv_iload_n hx hb dX12_isIn_6 rfl (lv_at hl 2 rfl) ?_
    refine lv_icmp_gt (tgt := 14) hx hb dX12_isIn_7 (by decide) (fun c_2 => ?_) (fun c_2 => ?_)
    · refine lv_iconst (v := 0) hx hb dX12_isIn_14 (by decide) ?_
      exact W.zret (v := 0) hx hb hr (by first | rfl | decide) (fun t ht hW => ⟨0, rfl, (xg_isinB c_2).symm, ht⟩) (fun _ h => by cases h) dX12_isIn_15
    · refine lv_iconst (v := 1) hx hb dX12_isIn_10 (by decide) ?_
      refine lv_goto (tgt := 15) hx hb dX12_isIn_11 (by decide) ?_
      exact W.zret (v := 1) hx hb hr (by first | rfl | decide) (fun t ht hW => ⟨1, rfl, (xg_isin1 (Int32.not_lt.mp c_1) (Int32.not_lt.mp c_2)).symm, ht⟩) (fun _ h => by cases h) dX12_isIn_15

theorem dX12_isCount_0 : decode cX12_isCount 0 = .ok (.lload_n 0, 1) := by decide +kernel
theorem dX12_isCount_1 : decode cX12_isCount 1 = .ok (.lconst 0, 1) := by decide +kernel
theorem dX12_isCount_2 : decode cX12_isCount 2 = .ok (.lcmp, 1) := by decide +kernel
theorem dX12_isCount_3 : decode cX12_isCount 3 = .ok (.ifCond .lt 15, 3) := by decide +kernel
theorem dX12_isCount_18 : decode cX12_isCount 18 = .ok (.iconst 0, 1) := by decide +kernel
theorem dX12_isCount_19 : decode cX12_isCount 19 = .ok (.ireturn, 1) := by decide +kernel
theorem dX12_isCount_6 : decode cX12_isCount 6 = .ok (.lload_n 0, 1) := by decide +kernel
theorem dX12_isCount_7 : decode cX12_isCount 7 = .ok (.ldc2_w 125, 3) := by decide +kernel
theorem dX12_isCount_10 : decode cX12_isCount 10 = .ok (.lcmp, 1) := by decide +kernel
theorem dX12_isCount_11 : decode cX12_isCount 11 = .ok (.ifCond .gt 7, 3) := by decide +kernel
theorem dX12_isCount_14 : decode cX12_isCount 14 = .ok (.iconst 1, 1) := by decide +kernel
theorem dX12_isCount_15 : decode cX12_isCount 15 = .ok (.goto 4, 3) := by decide +kernel
set_option maxHeartbeats 4000000 in
set_option maxRecDepth 100000 in
theorem mm_isCount (l : Launch) (dC : Nat → ClassId) (dI : Nat → Nat → Nat) (c0 : Int64) : Met l yX12_isCount (Cond.code yX12_isCount cX12_isCount 2 (some .boolean) :: wsL_law) ({ frames := 0, cells := 0, slots := 0, locals := 0 }) (va_Pc [.long c0] (fun U => va_P (dC, dI) vwCl [] U.heap ∧ va_K (dC, dI) vwCl [] U)) (vp_Si (fun r => r = xg_cnt c0)) 0 0 (fun _ => False) := by
  refine Met.ofW (cc := cX12_isCount) (maxL := 2) (ret := (some .boolean)) (by decide) rfl ?_
  intro p e s m args below meth c s₁ B hml hv
  obtain ⟨rfl, hP, hK⟩ := hv
  have hx := B.exec
  have hb := B.bytes
  have hr := B.returns
  have hts := atoms_spec (ws := Cond.code yX12_isCount cX12_isCount 2 (some .boolean) :: wsL_law) B.pre
  have htw : ∀ w ∈ wsL_law, w.before _ s = true := fun w h => hts w (List.mem_cons_of_mem _ h)
  have hown : s.vm.findClass RX12 = some m.cls := findClass_of_methodNamed B.named
  have hlocks := B.notSynchronized
  have hl := lv_entry ([.long c0]) (n := 2) (Nat.le_of_ble_eq_true rfl)
  rw [lg_entry_eq]
  generalize (lg_sl ([.long c0]) ++ List.replicate (2 - (lg_sl ([.long c0])).length) Slot.unset).toArray = ls at hl ⊢
  have hl : lv_has ls 2 [(0, .long c0)] := hl
  refine lv_lload_n hx hb dX12_isCount_0 rfl (lv_at hl 0 rfl) ?_
  refine lv_lconst (v := 0) hx hb dX12_isCount_1 (by decide) ?_
  refine W.lcmp hx hb dX12_isCount_2 ?_
  refine lv_if_lt (tgt := 18) hx hb dX12_isCount_3 (by decide) (fun c_1 => ?_) (fun c_1 => ?_)
  · refine lv_iconst (v := 0) hx hb dX12_isCount_18 (by decide) ?_
    exact W.zret (v := 0) hx hb hr (by first | rfl | decide) (fun t ht hW => ⟨0, rfl, (xg_cnt0 ((lg_cmp_lt _ _).mp c_1)).symm, ht⟩) (fun _ h => by cases h) dX12_isCount_19
  · refine lv_lload_n hx hb dX12_isCount_6 rfl (lv_at hl 0 rfl) ?_
    refine lv_ldc2 (v := 1000000000000) hx hb hown (htw _ (ck_29 _ (List.mem_of_getElem? (i := 22) rfl))) dX12_isCount_7 ?_
    refine W.lcmp hx hb dX12_isCount_10 ?_
    refine lv_if_gt (tgt := 18) hx hb dX12_isCount_11 (by decide) (fun c_2 => ?_) (fun c_2 => ?_)
    · refine lv_iconst (v := 0) hx hb dX12_isCount_18 (by decide) ?_
      exact W.zret (v := 0) hx hb hr (by first | rfl | decide) (fun t ht hW => ⟨0, rfl, (xg_cnt1 ((lg_cmp_gt _ _).mp c_2)).symm, ht⟩) (fun _ h => by cases h) dX12_isCount_19
    · refine lv_iconst (v := 1) hx hb dX12_isCount_14 (by decide) ?_
      refine lv_goto (tgt := 19) hx hb dX12_isCount_15 (by decide) ?_
      exact W.zret (v := 1) hx hb hr (by first | rfl | decide) (fun t ht hW => ⟨1, rfl, (xg_cnt2 (fun h => c_1 ((lg_cmp_lt _ _).mpr h)) (fun h => c_2 ((lg_cmp_gt _ _).mpr h))).symm, ht⟩) (fun _ h => by cases h) dX12_isCount_19

theorem dX12_find_0 : decode cX12_find 0 = .ok (.iconst 0, 1) := by decide +kernel
theorem dX12_find_1 : decode cX12_find 1 = .ok (.istore 4, 2) := by decide +kernel
theorem dX12_find_3 : decode cX12_find 3 = .ok (.iload 4, 2) := by decide +kernel
theorem dX12_find_5 : decode cX12_find 5 = .ok (.iload_n 2, 1) := by decide +kernel
theorem dX12_find_6 : decode cX12_find 6 = .ok (.if_icmp .ge 22, 3) := by decide +kernel
theorem dX12_find_28 : decode cX12_find 28 = .ok (.iconst (-1), 1) := by decide +kernel
theorem dX12_find_29 : decode cX12_find 29 = .ok (.ireturn, 1) := by decide +kernel
set_option maxHeartbeats 4000000 in
set_option maxRecDepth 100000 in
theorem mm_find (l : Launch) (dC : Nat → ClassId) (dI : Nat → Nat → Nat) (na : Nat) (k1 : Int32) : Met l yX12_find (Cond.code yX12_find cX12_find 5 (some .int) :: wsL_law) ({ frames := 0, cells := 0, slots := 0, locals := 0 }) (va_Pc [.ref na, .int 0, .int 0, .int k1] (fun U => va_P (dC, dI) vwCl [] U.heap ∧ va_K (dC, dI) vwCl [] U)) (vp_Si (fun r => r = -1)) 0 0 (fun _ => False) := by
  refine Met.ofW (cc := cX12_find) (maxL := 5) (ret := (some .int)) (by decide) rfl ?_
  intro p e s m args below meth c s₁ B hml hv
  obtain ⟨rfl, hP, hK⟩ := hv
  have hx := B.exec
  have hb := B.bytes
  have hr := B.returns
  have hts := atoms_spec (ws := Cond.code yX12_find cX12_find 5 (some .int) :: wsL_law) B.pre
  have htw : ∀ w ∈ wsL_law, w.before _ s = true := fun w h => hts w (List.mem_cons_of_mem _ h)
  have hown : s.vm.findClass RX12 = some m.cls := findClass_of_methodNamed B.named
  have hlocks := B.notSynchronized
  have hl := lv_entry ([.ref na, .int 0, .int 0, .int k1]) (n := 5) (Nat.le_of_ble_eq_true rfl)
  rw [lg_entry_eq]
  generalize (lg_sl ([.ref na, .int 0, .int 0, .int k1]) ++ List.replicate (5 - (lg_sl ([.ref na, .int 0, .int 0, .int k1])).length) Slot.unset).toArray = ls at hl ⊢
  have hl : lv_has ls 5 [(0, .ref na), (1, .int 0), (2, .int 0), (3, .int k1)] := hl
  refine lv_iconst (v := 0) hx hb dX12_find_0 (by decide) ?_
  refine lv_istore (lv' := [(4, .int 0), (0, .ref na), (1, .int 0), (2, .int 0), (3, .int k1)]) hx hb dX12_find_1 hl (by decide) rfl (fun ls hl => ?_)
  refine lv_iload hx hb dX12_find_3 (lv_at hl 0 rfl) ?_
  refine lv_iload_n hx hb dX12_find_5 rfl (lv_at hl 3 rfl) ?_
  refine lv_icmp_ge (tgt := 28) hx hb dX12_find_6 (by decide) (fun _ => ?_) (fun c => absurd c (by decide))
  refine lv_iconst (v := (-1)) hx hb dX12_find_28 (by decide) ?_
  exact W.iret (v := (-1)) hx hb hr (fun t ht hW => ⟨(-1), rfl, rfl, ht⟩) (fun _ h => by cases h) dX12_find_29

theorem dX12_roundOf_0 : decode cX12_roundOf 0 = .ok (.iload_n 3, 1) := by decide +kernel
theorem dX12_roundOf_1 : decode cX12_roundOf 1 = .ok (.ifCond .ne 22, 3) := by decide +kernel
theorem dX12_roundOf_23 : decode cX12_roundOf 23 = .ok (.iload_n 3, 1) := by decide +kernel
theorem dX12_roundOf_24 : decode cX12_roundOf 24 = .ok (.iconst 1, 1) := by decide +kernel
theorem dX12_roundOf_25 : decode cX12_roundOf 25 = .ok (.if_icmp .ne 42, 3) := by decide +kernel
theorem dX12_roundOf_67 : decode cX12_roundOf 67 = .ok (.lload_n 1, 1) := by decide +kernel
theorem dX12_roundOf_68 : decode cX12_roundOf 68 = .ok (.aload_n 0, 1) := by decide +kernel
theorem dX12_roundOf_69 : decode cX12_roundOf 69 = .ok (.getfield 20, 3) := by decide +kernel
theorem dX12_roundOf_72 : decode cX12_roundOf 72 = .ok (.bipush 6, 2) := by decide +kernel
theorem dX12_roundOf_74 : decode cX12_roundOf 74 = .ok (.iaload, 1) := by decide +kernel
theorem dX12_roundOf_75 : decode cX12_roundOf 75 = .ok (.i2l, 1) := by decide +kernel
theorem dX12_roundOf_76 : decode cX12_roundOf 76 = .ok (.lmul, 1) := by decide +kernel
theorem dX12_roundOf_77 : decode cX12_roundOf 77 = .ok (.aload_n 0, 1) := by decide +kernel
theorem dX12_roundOf_78 : decode cX12_roundOf 78 = .ok (.getfield 20, 3) := by decide +kernel
theorem dX12_roundOf_81 : decode cX12_roundOf 81 = .ok (.iconst 5, 1) := by decide +kernel
theorem dX12_roundOf_82 : decode cX12_roundOf 82 = .ok (.iaload, 1) := by decide +kernel
theorem dX12_roundOf_83 : decode cX12_roundOf 83 = .ok (.i2l, 1) := by decide +kernel
theorem dX12_roundOf_84 : decode cX12_roundOf 84 = .ok (.lrem, 1) := by decide +kernel
theorem dX12_roundOf_85 : decode cX12_roundOf 85 = .ok (.ldc2_w 422, 3) := by decide +kernel
theorem dX12_roundOf_88 : decode cX12_roundOf 88 = .ok (.lmul, 1) := by decide +kernel
theorem dX12_roundOf_89 : decode cX12_roundOf 89 = .ok (.aload_n 0, 1) := by decide +kernel
theorem dX12_roundOf_90 : decode cX12_roundOf 90 = .ok (.getfield 20, 3) := by decide +kernel
theorem dX12_roundOf_93 : decode cX12_roundOf 93 = .ok (.iconst 5, 1) := by decide +kernel
theorem dX12_roundOf_94 : decode cX12_roundOf 94 = .ok (.iaload, 1) := by decide +kernel
theorem dX12_roundOf_95 : decode cX12_roundOf 95 = .ok (.i2l, 1) := by decide +kernel
theorem dX12_roundOf_96 : decode cX12_roundOf 96 = .ok (.ldiv, 1) := by decide +kernel
theorem dX12_roundOf_97 : decode cX12_roundOf 97 = .ok (.l2i, 1) := by decide +kernel
theorem dX12_roundOf_98 : decode cX12_roundOf 98 = .ok (.ireturn, 1) := by decide +kernel
theorem dX12_roundOf_28 : decode cX12_roundOf 28 = .ok (.lload_n 1, 1) := by decide +kernel
theorem dX12_roundOf_29 : decode cX12_roundOf 29 = .ok (.aload_n 0, 1) := by decide +kernel
theorem dX12_roundOf_30 : decode cX12_roundOf 30 = .ok (.getfield 20, 3) := by decide +kernel
theorem dX12_roundOf_33 : decode cX12_roundOf 33 = .ok (.iconst 3, 1) := by decide +kernel
theorem dX12_roundOf_34 : decode cX12_roundOf 34 = .ok (.iaload, 1) := by decide +kernel
theorem dX12_roundOf_35 : decode cX12_roundOf 35 = .ok (.i2l, 1) := by decide +kernel
theorem dX12_roundOf_36 : decode cX12_roundOf 36 = .ok (.lmul, 1) := by decide +kernel
theorem dX12_roundOf_37 : decode cX12_roundOf 37 = .ok (.aload_n 0, 1) := by decide +kernel
theorem dX12_roundOf_38 : decode cX12_roundOf 38 = .ok (.getfield 20, 3) := by decide +kernel
theorem dX12_roundOf_41 : decode cX12_roundOf 41 = .ok (.iconst 4, 1) := by decide +kernel
theorem dX12_roundOf_42 : decode cX12_roundOf 42 = .ok (.iaload, 1) := by decide +kernel
theorem dX12_roundOf_43 : decode cX12_roundOf 43 = .ok (.i2l, 1) := by decide +kernel
theorem dX12_roundOf_44 : decode cX12_roundOf 44 = .ok (.ladd, 1) := by decide +kernel
theorem dX12_roundOf_45 : decode cX12_roundOf 45 = .ok (.aload_n 0, 1) := by decide +kernel
theorem dX12_roundOf_46 : decode cX12_roundOf 46 = .ok (.getfield 20, 3) := by decide +kernel
theorem dX12_roundOf_49 : decode cX12_roundOf 49 = .ok (.iconst 2, 1) := by decide +kernel
theorem dX12_roundOf_50 : decode cX12_roundOf 50 = .ok (.iaload, 1) := by decide +kernel
theorem dX12_roundOf_51 : decode cX12_roundOf 51 = .ok (.i2l, 1) := by decide +kernel
theorem dX12_roundOf_52 : decode cX12_roundOf 52 = .ok (.lrem, 1) := by decide +kernel
theorem dX12_roundOf_53 : decode cX12_roundOf 53 = .ok (.ldc2_w 420, 3) := by decide +kernel
theorem dX12_roundOf_56 : decode cX12_roundOf 56 = .ok (.lmul, 1) := by decide +kernel
theorem dX12_roundOf_57 : decode cX12_roundOf 57 = .ok (.aload_n 0, 1) := by decide +kernel
theorem dX12_roundOf_58 : decode cX12_roundOf 58 = .ok (.getfield 20, 3) := by decide +kernel
theorem dX12_roundOf_61 : decode cX12_roundOf 61 = .ok (.iconst 2, 1) := by decide +kernel
theorem dX12_roundOf_62 : decode cX12_roundOf 62 = .ok (.iaload, 1) := by decide +kernel
theorem dX12_roundOf_63 : decode cX12_roundOf 63 = .ok (.i2l, 1) := by decide +kernel
theorem dX12_roundOf_64 : decode cX12_roundOf 64 = .ok (.ldiv, 1) := by decide +kernel
theorem dX12_roundOf_65 : decode cX12_roundOf 65 = .ok (.l2i, 1) := by decide +kernel
theorem dX12_roundOf_66 : decode cX12_roundOf 66 = .ok (.ireturn, 1) := by decide +kernel
theorem dX12_roundOf_4 : decode cX12_roundOf 4 = .ok (.lload_n 1, 1) := by decide +kernel
theorem dX12_roundOf_5 : decode cX12_roundOf 5 = .ok (.aload_n 0, 1) := by decide +kernel
theorem dX12_roundOf_6 : decode cX12_roundOf 6 = .ok (.getfield 20, 3) := by decide +kernel
theorem dX12_roundOf_9 : decode cX12_roundOf 9 = .ok (.iconst 1, 1) := by decide +kernel
theorem dX12_roundOf_10 : decode cX12_roundOf 10 = .ok (.iaload, 1) := by decide +kernel
theorem dX12_roundOf_11 : decode cX12_roundOf 11 = .ok (.i2l, 1) := by decide +kernel
theorem dX12_roundOf_12 : decode cX12_roundOf 12 = .ok (.ladd, 1) := by decide +kernel
theorem dX12_roundOf_13 : decode cX12_roundOf 13 = .ok (.aload_n 0, 1) := by decide +kernel
theorem dX12_roundOf_14 : decode cX12_roundOf 14 = .ok (.getfield 20, 3) := by decide +kernel
theorem dX12_roundOf_17 : decode cX12_roundOf 17 = .ok (.iconst 0, 1) := by decide +kernel
theorem dX12_roundOf_18 : decode cX12_roundOf 18 = .ok (.iaload, 1) := by decide +kernel
theorem dX12_roundOf_19 : decode cX12_roundOf 19 = .ok (.i2l, 1) := by decide +kernel
theorem dX12_roundOf_20 : decode cX12_roundOf 20 = .ok (.lrem, 1) := by decide +kernel
theorem dX12_roundOf_21 : decode cX12_roundOf 21 = .ok (.l2i, 1) := by decide +kernel
theorem dX12_roundOf_22 : decode cX12_roundOf 22 = .ok (.ireturn, 1) := by decide +kernel
set_option maxHeartbeats 4000000 in
set_option maxRecDepth 100000 in
theorem mm_roundOf (l : Launch) (dC : Nat → ClassId) (dI : Nat → Nat → Nat) (mq : Nat) (fs : List Value) (msk : Nat) (cY : ClassId) (fY : Nat → Int32) (a0 : Int64) (a1 : Int32) (hlen : fs.length = 76) (hf24 : fs[24]? = some (.ref msk)) (hs0 : fY 0 = 7) (hs1 : fY 1 = 0) (hs2 : fY 2 = 59) (hs3 : fY 3 = 2) (hs4 : fY 4 = 0) (hs5 : fY 5 = 1461) (hs6 : fY 6 = 4) : Met l yX12_roundOf (Cond.code yX12_roundOf cX12_roundOf 4 (some .int) :: wsL_law) ({ frames := 0, cells := 0, slots := 0, locals := 0 }) (va_Pc [.ref mq, .long a0, .int a1] (fun U => va_P (dC, dI) vwCl [(mq, .inr (12, fs)), (msk, .inl (cY, 14, .inl fY))] U.heap ∧ va_K (dC, dI) vwCl [(cY, .int)] U)) (vp_Si (fun r => r = xr_rnd a0 a1)) 0 0 (fun _ => False) := by
  refine Met.ofW (cc := cX12_roundOf) (maxL := 4) (ret := (some .int)) (by decide) rfl ?_
  intro p e s m args below meth c s₁ B hml hv
  obtain ⟨rfl, hP, hK⟩ := hv
  have hx := B.exec
  have hb := B.bytes
  have hr := B.returns
  have hts := atoms_spec (ws := Cond.code yX12_roundOf cX12_roundOf 4 (some .int) :: wsL_law) B.pre
  have htw : ∀ w ∈ wsL_law, w.before _ s = true := fun w h => hts w (List.mem_cons_of_mem _ h)
  have hown : s.vm.findClass RX12 = some m.cls := findClass_of_methodNamed B.named
  have hlocks := B.notSynchronized
  have hl := lv_entry ([.ref mq, .long a0, .int a1]) (n := 4) (Nat.le_of_ble_eq_true rfl)
  rw [lg_entry_eq]
  generalize (lg_sl ([.ref mq, .long a0, .int a1]) ++ List.replicate (4 - (lg_sl ([.ref mq, .long a0, .int a1])).length) Slot.unset).toArray = ls at hl ⊢
  have hl : lv_has ls 4 [(0, .ref mq), (1, .long a0), (3, .int a1)] := hl
  refine lv_iload_n hx hb dX12_roundOf_0 rfl (lv_at hl 2 rfl) ?_
  refine lv_if_ne (tgt := 23) hx hb dX12_roundOf_1 (by decide) (fun c_1 => ?_) (fun c_1 => ?_)
  · refine lv_iload_n hx hb dX12_roundOf_23 rfl (lv_at hl 2 rfl) ?_
    refine lv_iconst (v := 1) hx hb dX12_roundOf_24 (by decide) ?_
    refine lv_icmp_ne (tgt := 67) hx hb dX12_roundOf_25 (by decide) (fun c_2 => ?_) (fun c_2 => ?_)
    · refine lv_lload_n hx hb dX12_roundOf_67 rfl (lv_at hl 1 rfl) ?_
      refine lv_aload_n hx hb dX12_roundOf_68 rfl (lv_at hl 0 rfl) ?_
      refine va_get (D := (dC, dI)) (ci := 12) (v := .ref msk) (C := RX12) (T := TX12) (N := 76) hx hb htw inlX12 hown hK hP 0 rfl rfl 24 (by decide) (htw _ (ck_9 _ (List.mem_of_getElem? (i := 7) rfl))) (fun _ h9 => h9) hf24 dX12_roundOf_69 ?_
      refine lv_bipush (v := 6) hx hb dX12_roundOf_72 (by decide) ?_
      refine va_iald hx hb hK hP 1 0 rfl rfl (by unfold vp_in; decide) dX12_roundOf_74 ?_
      refine lv_topi (fun z_3 ez_3 => ?_)
      obtain rfl : z_3 = 4 := ez_3.trans (hs6)
      refine lv_i2l (v := 4) hx hb dX12_roundOf_75 (by decide) ?_
      refine lv_lmul hx hb dX12_roundOf_76 ?_
      refine lv_aload_n hx hb dX12_roundOf_77 rfl (lv_at hl 0 rfl) ?_
      refine va_get (D := (dC, dI)) (ci := 12) (v := .ref msk) (C := RX12) (T := TX12) (N := 76) hx hb htw inlX12 hown hK hP 0 rfl rfl 24 (by decide) (htw _ (ck_9 _ (List.mem_of_getElem? (i := 7) rfl))) (fun _ h9 => h9) hf24 dX12_roundOf_78 ?_
      refine lv_iconst (v := 5) hx hb dX12_roundOf_81 (by decide) ?_
      refine va_iald hx hb hK hP 1 0 rfl rfl (by unfold vp_in; decide) dX12_roundOf_82 ?_
      refine lv_topi (fun z_4 ez_4 => ?_)
      obtain rfl : z_4 = 1461 := ez_4.trans (hs5)
      refine lv_i2l (v := 1461) hx hb dX12_roundOf_83 (by decide) ?_
      refine lv_lrem hx hb dX12_roundOf_84 (by decide) ?_
      refine lv_ldc2 (v := 4) hx hb hown (htw _ (ck_38 _ (List.mem_of_getElem? (i := 13) rfl))) dX12_roundOf_85 ?_
      refine lv_lmul hx hb dX12_roundOf_88 ?_
      refine lv_aload_n hx hb dX12_roundOf_89 rfl (lv_at hl 0 rfl) ?_
      refine va_get (D := (dC, dI)) (ci := 12) (v := .ref msk) (C := RX12) (T := TX12) (N := 76) hx hb htw inlX12 hown hK hP 0 rfl rfl 24 (by decide) (htw _ (ck_9 _ (List.mem_of_getElem? (i := 7) rfl))) (fun _ h9 => h9) hf24 dX12_roundOf_90 ?_
      refine lv_iconst (v := 5) hx hb dX12_roundOf_93 (by decide) ?_
      refine va_iald hx hb hK hP 1 0 rfl rfl (by unfold vp_in; decide) dX12_roundOf_94 ?_
      refine lv_topi (fun z_5 ez_5 => ?_)
      obtain rfl : z_5 = 1461 := ez_5.trans (hs5)
      refine lv_i2l (v := 1461) hx hb dX12_roundOf_95 (by decide) ?_
      refine lv_ldiv hx hb dX12_roundOf_96 (by decide) ?_
      refine lv_l2i (v := ((((a0 * 4) - (a0 * 4) / 1461 * 1461) * 4) / 1461).toInt32) hx hb dX12_roundOf_97 rfl ?_
      exact W.iret (v := ((((a0 * 4) - (a0 * 4) / 1461 * 1461) * 4) / 1461).toInt32) hx hb hr (fun t ht hW => ⟨((((a0 * 4) - (a0 * 4) / 1461 * 1461) * 4) / 1461).toInt32, rfl, (by rw [xr_rnd, if_neg c_1, if_neg c_2]; rfl), ht⟩) (fun _ h => by cases h) dX12_roundOf_98
    · refine lv_lload_n hx hb dX12_roundOf_28 rfl (lv_at hl 1 rfl) ?_
      refine lv_aload_n hx hb dX12_roundOf_29 rfl (lv_at hl 0 rfl) ?_
      refine va_get (D := (dC, dI)) (ci := 12) (v := .ref msk) (C := RX12) (T := TX12) (N := 76) hx hb htw inlX12 hown hK hP 0 rfl rfl 24 (by decide) (htw _ (ck_9 _ (List.mem_of_getElem? (i := 7) rfl))) (fun _ h9 => h9) hf24 dX12_roundOf_30 ?_
      refine lv_iconst (v := 3) hx hb dX12_roundOf_33 (by decide) ?_
      refine va_iald hx hb hK hP 1 0 rfl rfl (by unfold vp_in; decide) dX12_roundOf_34 ?_
      refine lv_topi (fun z_6 ez_6 => ?_)
      obtain rfl : z_6 = 2 := ez_6.trans (hs3)
      refine lv_i2l (v := 2) hx hb dX12_roundOf_35 (by decide) ?_
      refine lv_lmul hx hb dX12_roundOf_36 ?_
      refine lv_aload_n hx hb dX12_roundOf_37 rfl (lv_at hl 0 rfl) ?_
      refine va_get (D := (dC, dI)) (ci := 12) (v := .ref msk) (C := RX12) (T := TX12) (N := 76) hx hb htw inlX12 hown hK hP 0 rfl rfl 24 (by decide) (htw _ (ck_9 _ (List.mem_of_getElem? (i := 7) rfl))) (fun _ h9 => h9) hf24 dX12_roundOf_38 ?_
      refine lv_iconst (v := 4) hx hb dX12_roundOf_41 (by decide) ?_
      refine va_iald hx hb hK hP 1 0 rfl rfl (by unfold vp_in; decide) dX12_roundOf_42 ?_
      refine lv_topi (fun z_7 ez_7 => ?_)
      obtain rfl : z_7 = 0 := ez_7.trans (hs4)
      refine lv_i2l (v := 0) hx hb dX12_roundOf_43 (by decide) ?_
      refine lv_ladd hx hb dX12_roundOf_44 ?_
      refine lv_aload_n hx hb dX12_roundOf_45 rfl (lv_at hl 0 rfl) ?_
      refine va_get (D := (dC, dI)) (ci := 12) (v := .ref msk) (C := RX12) (T := TX12) (N := 76) hx hb htw inlX12 hown hK hP 0 rfl rfl 24 (by decide) (htw _ (ck_9 _ (List.mem_of_getElem? (i := 7) rfl))) (fun _ h9 => h9) hf24 dX12_roundOf_46 ?_
      refine lv_iconst (v := 2) hx hb dX12_roundOf_49 (by decide) ?_
      refine va_iald hx hb hK hP 1 0 rfl rfl (by unfold vp_in; decide) dX12_roundOf_50 ?_
      refine lv_topi (fun z_8 ez_8 => ?_)
      obtain rfl : z_8 = 59 := ez_8.trans (hs2)
      refine lv_i2l (v := 59) hx hb dX12_roundOf_51 (by decide) ?_
      refine lv_lrem hx hb dX12_roundOf_52 (by decide) ?_
      refine lv_ldc2 (v := 8) hx hb hown (htw _ (ck_38 _ (List.mem_of_getElem? (i := 12) rfl))) dX12_roundOf_53 ?_
      refine lv_lmul hx hb dX12_roundOf_56 ?_
      refine lv_aload_n hx hb dX12_roundOf_57 rfl (lv_at hl 0 rfl) ?_
      refine va_get (D := (dC, dI)) (ci := 12) (v := .ref msk) (C := RX12) (T := TX12) (N := 76) hx hb htw inlX12 hown hK hP 0 rfl rfl 24 (by decide) (htw _ (ck_9 _ (List.mem_of_getElem? (i := 7) rfl))) (fun _ h9 => h9) hf24 dX12_roundOf_58 ?_
      refine lv_iconst (v := 2) hx hb dX12_roundOf_61 (by decide) ?_
      refine va_iald hx hb hK hP 1 0 rfl rfl (by unfold vp_in; decide) dX12_roundOf_62 ?_
      refine lv_topi (fun z_9 ez_9 => ?_)
      obtain rfl : z_9 = 59 := ez_9.trans (hs2)
      refine lv_i2l (v := 59) hx hb dX12_roundOf_63 (by decide) ?_
      refine lv_ldiv hx hb dX12_roundOf_64 (by decide) ?_
      refine lv_l2i (v := (((((a0 * 2) + 0) - ((a0 * 2) + 0) / 59 * 59) * 8) / 59).toInt32) hx hb dX12_roundOf_65 rfl ?_
      exact W.iret (v := (((((a0 * 2) + 0) - ((a0 * 2) + 0) / 59 * 59) * 8) / 59).toInt32) hx hb hr (fun t ht hW => ⟨(((((a0 * 2) + 0) - ((a0 * 2) + 0) / 59 * 59) * 8) / 59).toInt32, rfl, (by rw [xr_rnd, if_neg c_1, if_pos c_2]; rfl), ht⟩) (fun _ h => by cases h) dX12_roundOf_66
  · refine lv_lload_n hx hb dX12_roundOf_4 rfl (lv_at hl 1 rfl) ?_
    refine lv_aload_n hx hb dX12_roundOf_5 rfl (lv_at hl 0 rfl) ?_
    refine va_get (D := (dC, dI)) (ci := 12) (v := .ref msk) (C := RX12) (T := TX12) (N := 76) hx hb htw inlX12 hown hK hP 0 rfl rfl 24 (by decide) (htw _ (ck_9 _ (List.mem_of_getElem? (i := 7) rfl))) (fun _ h9 => h9) hf24 dX12_roundOf_6 ?_
    refine lv_iconst (v := 1) hx hb dX12_roundOf_9 (by decide) ?_
    refine va_iald hx hb hK hP 1 0 rfl rfl (by unfold vp_in; decide) dX12_roundOf_10 ?_
    refine lv_topi (fun z_10 ez_10 => ?_)
    obtain rfl : z_10 = 0 := ez_10.trans (hs1)
    refine lv_i2l (v := 0) hx hb dX12_roundOf_11 (by decide) ?_
    refine lv_ladd hx hb dX12_roundOf_12 ?_
    refine lv_aload_n hx hb dX12_roundOf_13 rfl (lv_at hl 0 rfl) ?_
    refine va_get (D := (dC, dI)) (ci := 12) (v := .ref msk) (C := RX12) (T := TX12) (N := 76) hx hb htw inlX12 hown hK hP 0 rfl rfl 24 (by decide) (htw _ (ck_9 _ (List.mem_of_getElem? (i := 7) rfl))) (fun _ h9 => h9) hf24 dX12_roundOf_14 ?_
    refine lv_iconst (v := 0) hx hb dX12_roundOf_17 (by decide) ?_
    refine va_iald hx hb hK hP 1 0 rfl rfl (by unfold vp_in; decide) dX12_roundOf_18 ?_
    refine lv_topi (fun z_11 ez_11 => ?_)
    obtain rfl : z_11 = 7 := ez_11.trans (hs0)
    refine lv_i2l (v := 7) hx hb dX12_roundOf_19 (by decide) ?_
    refine lv_lrem hx hb dX12_roundOf_20 (by decide) ?_
    refine lv_l2i (v := ((a0 + 0) - (a0 + 0) / 7 * 7).toInt32) hx hb dX12_roundOf_21 rfl ?_
    exact W.iret (v := ((a0 + 0) - (a0 + 0) / 7 * 7).toInt32) hx hb hr (fun t ht hW => ⟨((a0 + 0) - (a0 + 0) / 7 * 7).toInt32, rfl, (by rw [xr_rnd, if_pos c_1]; rfl), ht⟩) (fun _ h => by cases h) dX12_roundOf_22
