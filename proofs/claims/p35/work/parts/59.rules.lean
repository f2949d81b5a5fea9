def xKV (fk fp fo : Nat → Int32) (k : Nat) : Prop := (fk k = 1 → vp_in (fp k) 6) ∧ (¬ fk k = 0 → ¬ fk k = 1 → vp_in (fp k) 64) ∧ (¬ fk k = 0 → ¬ fk k = 1 → ¬ fk k = 2 → vp_in (fo k) 64)
theorem xj_s {i b : Int64} (h : i < b) : (i + 1).toInt = i.toInt + 1 := by
  rw [Int64.lt_iff_toInt_lt] at h
  have := Int64.toInt_lt b
  have := Int64.le_toInt i
  have e1 : (1 : Int64).toInt = 1 := rfl
  have q1 : (i.toInt + 1).bmod (2 ^ 64) = i.toInt + 1 := Int.bmod_eq_of_le (by omega) (by omega)
  rw [Int64.toInt_add, e1, q1]
theorem xj_z {a b : Int64} (h : b.toInt ≤ a.toInt + ((0 : Nat) : Int)) : b ≤ a := by
  rw [Int64.le_iff_toInt_le]
  omega
theorem xj_add {a k : Int64} (h0 : ¬ a < -3000000000) (h9 : a ≤ 2000000000000) (hk0 : ¬ k < 0) (hk : k ≤ 20000) : (a + k).toInt = a.toInt + k.toInt := by
  rw [Int64.lt_iff_toInt_lt] at h0 hk0
  rw [Int64.le_iff_toInt_le] at h9 hk
  have e0 : (-3000000000 : Int64).toInt = -3000000000 := rfl
  have e1 : (0 : Int64).toInt = 0 := rfl
  have e9 : (2000000000000 : Int64).toInt = 2000000000000 := rfl
  have e2 : (20000 : Int64).toInt = 20000 := rfl
  rw [Int64.toInt_add]
  exact Int.bmod_eq_of_le (by omega) (by omega)

def fq_bounded (a0 : Int64) (m_isError : Int32) : Int64 × (Int32) := (if m_isError = 0 then (if 0 < lg_cmp a0 1000000000000 then ((0 : Int64), (1 : Int32)) else (if 0 ≤ lg_cmp a0 (-1000000000000) then (a0, (0 : Int32)) else ((0 : Int64), (1 : Int32)))) else ((0 : Int64), (1 : Int32)))
theorem dX12_bounded_0 : decode cX12_bounded 0 = .ok (.aload_n 0, 1) := zk_42 (by decide +kernel)
theorem dX12_bounded_1 : decode cX12_bounded 1 = .ok (.aload_n 0, 1) := zk_42 (by decide +kernel)
theorem dX12_bounded_2 : decode cX12_bounded 2 = .ok (.getfield 428, 3) := zk_180 (by decide +kernel)
theorem dX12_bounded_5 : decode cX12_bounded 5 = .ok (.ifCond .ne 19, 3) := zk_154 (by decide +kernel)
theorem dX12_bounded_24 : decode cX12_bounded 24 = .ok (.iconst 1, 1) := zk_4 (by decide +kernel)
theorem dX12_bounded_25 : decode cX12_bounded 25 = .ok (.goto 4, 3) := zk_167 (by decide +kernel)
theorem dX12_bounded_29 : decode cX12_bounded 29 = .ok (.putfield 428, 3) := zk_181 (by decide +kernel)
theorem dX12_bounded_32 : decode cX12_bounded 32 = .ok (.aload_n 0, 1) := zk_42 (by decide +kernel)
theorem dX12_bounded_33 : decode cX12_bounded 33 = .ok (.getfield 428, 3) := zk_180 (by decide +kernel)
theorem dX12_bounded_36 : decode cX12_bounded 36 = .ok (.ifCond .eq 7, 3) := zk_153 (by decide +kernel)
theorem dX12_bounded_39 : decode cX12_bounded 39 = .ok (.lconst 0, 1) := zk_9 (by decide +kernel)
theorem dX12_bounded_40 : decode cX12_bounded 40 = .ok (.goto 4, 3) := zk_167 (by decide +kernel)
theorem dX12_bounded_44 : decode cX12_bounded 44 = .ok (.lreturn, 1) := zk_173 (by decide +kernel)
theorem dX12_bounded_8 : decode cX12_bounded 8 = .ok (.lload_n 1, 1) := zk_31 (by decide +kernel)
theorem dX12_bounded_9 : decode cX12_bounded 9 = .ok (.ldc2_w 125, 3) := zk_20 (by decide +kernel)
theorem dX12_bounded_12 : decode cX12_bounded 12 = .ok (.lcmp, 1) := zk_148 (by decide +kernel)
theorem dX12_bounded_13 : decode cX12_bounded 13 = .ok (.ifCond .gt 11, 3) := zk_157 (by decide +kernel)
theorem dX12_bounded_16 : decode cX12_bounded 16 = .ok (.lload_n 1, 1) := zk_31 (by decide +kernel)
theorem dX12_bounded_17 : decode cX12_bounded 17 = .ok (.ldc2_w 431, 3) := zk_20 (by decide +kernel)
theorem dX12_bounded_20 : decode cX12_bounded 20 = .ok (.lcmp, 1) := zk_148 (by decide +kernel)
theorem dX12_bounded_21 : decode cX12_bounded 21 = .ok (.ifCond .ge 7, 3) := zk_156 (by decide +kernel)
theorem dX12_bounded_28 : decode cX12_bounded 28 = .ok (.iconst 0, 1) := zk_3 (by decide +kernel)
theorem dX12_bounded_43 : decode cX12_bounded 43 = .ok (.lload_n 1, 1) := zk_31 (by decide +kernel)
set_option maxHeartbeats 4000000 in
set_option maxRecDepth 100000 in
theorem gq_bounded (l : Launch) (dC : Nat → ClassId) (dI : Nat → Nat → Nat) (mq : Nat) (g : Nat → Int32) (gl : Nat → Int64) (rf : Nat → Nat) (a0 : Int64) (sz : Nat) : Met l yX12_bounded (Cond.code yX12_bounded cX12_bounded 3 (some .long) :: wsL_law) ({ frames := 0, cells := 0, slots := 0, locals := 0 }) (va_Pc [.ref mq, .long a0] (fun U => U.heap.size = sz ∧ va_P (dC, dI) vwCl [(mq, .inr (12, mF g gl rf))] U.heap ∧ va_K (dC, dI) vwCl [] U ∧ va_D (fun _ => True) [(mq, .inr (12, mF g gl rf))])) (va_Ql (fun (r : Int64) (u : (Int32)) => r = (fq_bounded a0 (g 57)).1 ∧ u = (fq_bounded a0 (g 57)).2) (fun (u : (Int32)) t => va_P (dC, dI) vwCl [(mq, .inr (12, mF (upd g 57 u) gl rf))] t.heap ∧ va_K (dC, dI) vwCl [] t ∧ va_D (va_A [(mq, .inr (12, mF g gl rf))] sz) [(mq, .inr (12, mF (upd g 57 u) gl rf))]) (va_A [(mq, .inr (12, mF g gl rf))] sz)) 0 0 (va_A [(mq, .inr (12, mF g gl rf))] sz) := by
  refine Met.ofW (cc := cX12_bounded) (maxL := 3) (ret := (some .long)) (by decide) rfl ?_
  intro p e s m args below meth c s₁ B hml hv
  obtain ⟨rfl, hsz, hP, hK, hD0⟩ := hv
  have hx := B.exec
  have hb := B.bytes
  have hr := B.returns
  have hts := atoms_spec (ws := Cond.code yX12_bounded cX12_bounded 3 (some .long) :: wsL_law) B.pre
  have htw : ∀ w ∈ wsL_law, w.before _ s = true := fun w h => hts w (List.mem_cons_of_mem _ h)
  have hown : s.vm.findClass RX12 = some m.cls := findClass_of_methodNamed B.named
  have hlocks := B.notSynchronized
  subst hsz
  have hD := hD0.self (sz := s.heap.size)
  generalize hAe : va_A [(mq, .inr (12, mF g gl rf))] s.heap.size = A at hD ⊢
  have hA : ∀ q : Nat, s.heap.size ≤ q → A q := fun q h => by rw [← hAe]; exact Or.inr h
  obtain ⟨H, rH⟩ : ∃ z : Heap, z = s.heap := ⟨_, rfl⟩
  have hS : va_S A s.heap H [] := by rw [rH]; exact va_S.rf
  have hP : va_P (dC, dI) vwCl [(mq, .inr (12, mF g gl rf))] H := by rw [rH]; exact hP
  rw [← rH]
  have hl := lv_entry ([.ref mq, .long a0]) (n := 3) (Nat.le_of_ble_eq_true rfl)
  rw [lg_entry_eq]
  generalize (lg_sl ([.ref mq, .long a0]) ++ List.replicate (3 - (lg_sl ([.ref mq, .long a0])).length) Slot.unset).toArray = ls at hl ⊢
  have hl : lv_has ls 3 [(0, .ref mq), (1, .long a0)] := hl
  refine lv_aload_n hx hb dX12_bounded_0 rfl (lv_at hl 0 rfl) ?_
  refine lv_aload_n hx hb dX12_bounded_1 rfl (lv_at hl 0 rfl) ?_
  refine va_get (D := (dC, dI)) (ci := 12) (v := .int (g 57)) (C := RX12) (T := TX12) (N := 76) hx hb htw inlX12 hown hK hP 0 rfl rfl 57 (by decide) (htw _ (ck_41 _ (List.mem_of_getElem? (i := 2) rfl))) (fun _ h9 => h9) rfl dX12_bounded_2 ?_
  refine lv_if_ne (tgt := 24) hx hb dX12_bounded_5 (by decide) (fun c_1 => ?_) (fun c_1 => ?_)
  · refine lv_iconst (v := 1) hx hb dX12_bounded_24 (by decide) ?_
    refine lv_goto (tgt := 29) hx hb dX12_bounded_25 (by decide) ?_
    refine va_put (D := (dC, dI)) (ci := 12) (v := .int 1) (ty := tyX12 57) (C := RX12) (T := TX12) (N := 76) hx hb htw inlX12 tyX12 tyX12_ok nmX12 hown hK hP hD hS 0 rfl rfl 57 (by decide) (htw _ (ck_41 _ (List.mem_of_getElem? (i := 2) rfl))) (fun _ h9 => h9) rfl (tyX12_ok 57 (by decide)) rfl rfl (Nat.le_of_ble_eq_true rfl) dX12_bounded_29 (fun H locs hP hD hS => ?_)
    obtain ⟨hP, hD⟩ := zre [(mq, .inr (12, mF (upd g 57 1) gl rf))] hP hD rfl
    refine lv_aload_n hx hb dX12_bounded_32 rfl (lv_at hl 0 rfl) ?_
    refine va_get (D := (dC, dI)) (ci := 12) (v := .int 1) (C := RX12) (T := TX12) (N := 76) hx hb htw inlX12 hown hK hP 0 rfl rfl 57 (by decide) (htw _ (ck_41 _ (List.mem_of_getElem? (i := 2) rfl))) (fun _ h9 => h9) rfl dX12_bounded_33 ?_
    refine lv_if_eq (tgt := 43) hx hb dX12_bounded_36 (by decide) (fun c => absurd c (by decide)) (fun _ => ?_)
    refine lv_lconst (v := 0) hx hb dX12_bounded_39 (by decide) ?_
    refine lv_goto (tgt := 44) hx hb dX12_bounded_40 (by decide) ?_
    refine W.widen (k := 0) (n := 0) (by omega) (by omega) ?_
    have hP9 := hP
    have hD9 := hD
    have hK9 := hK.sub (tys' := []) [] rfl
    exact W.lret (v := 0) hx hb hr (fun t ht hW => ⟨⟨0, 1, rfl, ((fun e9 => ⟨by rw [e9], by rw [e9]⟩ : fq_bounded a0 (g 57) = ((0 : Int64), (1 : Int32)) → _) ((by rw [fq_bounded]; (try rw [if_neg c_1]); try rfl))), by rw [ht]; exact hP9, va_K.moved hW.alike hK9, hD9⟩, hS.F ht⟩) hS.2.2 dX12_bounded_44
  · refine lv_lload_n hx hb dX12_bounded_8 rfl (lv_at hl 1 rfl) ?_
    refine lv_ldc2 (v := 1000000000000) hx hb hown (htw _ (ck_29 _ (List.mem_of_getElem? (i := 22) rfl))) dX12_bounded_9 ?_
    refine W.lcmp hx hb dX12_bounded_12 ?_
    refine lv_if_gt (tgt := 24) hx hb dX12_bounded_13 (by decide) (fun c_2 => ?_) (fun c_2 => ?_)
    · refine lv_iconst (v := 1) hx hb dX12_bounded_24 (by decide) ?_
      refine lv_goto (tgt := 29) hx hb dX12_bounded_25 (by decide) ?_
      refine va_put (D := (dC, dI)) (ci := 12) (v := .int 1) (ty := tyX12 57) (C := RX12) (T := TX12) (N := 76) hx hb htw inlX12 tyX12 tyX12_ok nmX12 hown hK hP hD hS 0 rfl rfl 57 (by decide) (htw _ (ck_41 _ (List.mem_of_getElem? (i := 2) rfl))) (fun _ h9 => h9) rfl (tyX12_ok 57 (by decide)) rfl rfl (Nat.le_of_ble_eq_true rfl) dX12_bounded_29 (fun H locs hP hD hS => ?_)
      obtain ⟨hP, hD⟩ := zre [(mq, .inr (12, mF (upd g 57 1) gl rf))] hP hD rfl
      refine lv_aload_n hx hb dX12_bounded_32 rfl (lv_at hl 0 rfl) ?_
      refine va_get (D := (dC, dI)) (ci := 12) (v := .int 1) (C := RX12) (T := TX12) (N := 76) hx hb htw inlX12 hown hK hP 0 rfl rfl 57 (by decide) (htw _ (ck_41 _ (List.mem_of_getElem? (i := 2) rfl))) (fun _ h9 => h9) rfl dX12_bounded_33 ?_
      refine lv_if_eq (tgt := 43) hx hb dX12_bounded_36 (by decide) (fun c => absurd c (by decide)) (fun _ => ?_)
      refine lv_lconst (v := 0) hx hb dX12_bounded_39 (by decide) ?_
      refine lv_goto (tgt := 44) hx hb dX12_bounded_40 (by decide) ?_
      refine W.widen (k := 0) (n := 0) (by omega) (by omega) ?_
      have hP9 := hP
      have hD9 := hD
      have hK9 := hK.sub (tys' := []) [] rfl
      exact W.lret (v := 0) hx hb hr (fun t ht hW => ⟨⟨0, 1, rfl, ((fun e9 => ⟨by rw [e9], by rw [e9]⟩ : fq_bounded a0 (g 57) = ((0 : Int64), (1 : Int32)) → _) ((by rw [fq_bounded]; (try rw [if_pos c_1]); (try rw [if_pos c_2]); try rfl))), by rw [ht]; exact hP9, va_K.moved hW.alike hK9, hD9⟩, hS.F ht⟩) hS.2.2 dX12_bounded_44
    · refine lv_lload_n hx hb dX12_bounded_16 rfl (lv_at hl 1 rfl) ?_
      refine lv_ldc2 (v := (-1000000000000)) hx hb hown (htw _ (ck_41 _ (List.mem_of_getElem? (i := 11) rfl))) dX12_bounded_17 ?_
      refine W.lcmp hx hb dX12_bounded_20 ?_
      refine lv_if_ge (tgt := 28) hx hb dX12_bounded_21 (by decide) (fun c_3 => ?_) (fun c_3 => ?_)
      · refine lv_iconst (v := 0) hx hb dX12_bounded_28 (by decide) ?_
        refine va_put (D := (dC, dI)) (ci := 12) (v := .int 0) (ty := tyX12 57) (C := RX12) (T := TX12) (N := 76) hx hb htw inlX12 tyX12 tyX12_ok nmX12 hown hK hP hD hS 0 rfl rfl 57 (by decide) (htw _ (ck_41 _ (List.mem_of_getElem? (i := 2) rfl))) (fun _ h9 => h9) rfl (tyX12_ok 57 (by decide)) rfl rfl (Nat.le_of_ble_eq_true rfl) dX12_bounded_29 (fun H locs hP hD hS => ?_)
        obtain ⟨hP, hD⟩ := zre [(mq, .inr (12, mF (upd g 57 0) gl rf))] hP hD rfl
        refine lv_aload_n hx hb dX12_bounded_32 rfl (lv_at hl 0 rfl) ?_
        refine va_get (D := (dC, dI)) (ci := 12) (v := .int 0) (C := RX12) (T := TX12) (N := 76) hx hb htw inlX12 hown hK hP 0 rfl rfl 57 (by decide) (htw _ (ck_41 _ (List.mem_of_getElem? (i := 2) rfl))) (fun _ h9 => h9) rfl dX12_bounded_33 ?_
        refine lv_if_eq (tgt := 43) hx hb dX12_bounded_36 (by decide) (fun _ => ?_) (fun c => absurd c (by decide))
        refine lv_lload_n hx hb dX12_bounded_43 rfl (lv_at hl 1 rfl) ?_
        refine W.widen (k := 0) (n := 0) (by omega) (by omega) ?_
        have hP9 := hP
        have hD9 := hD
        have hK9 := hK.sub (tys' := []) [] rfl
        exact W.lret (v := a0) hx hb hr (fun t ht hW => ⟨⟨a0, 0, rfl, ((fun e9 => ⟨by rw [e9], by rw [e9]⟩ : fq_bounded a0 (g 57) = (a0, (0 : Int32)) → _) ((by rw [fq_bounded]; (try rw [if_pos c_1]); (try rw [if_neg c_2]); (try rw [if_pos c_3]); try rfl))), by rw [ht]; exact hP9, va_K.moved hW.alike hK9, hD9⟩, hS.F ht⟩) hS.2.2 dX12_bounded_44
      · refine lv_iconst (v := 1) hx hb dX12_bounded_24 (by decide) ?_
        refine lv_goto (tgt := 29) hx hb dX12_bounded_25 (by decide) ?_
        refine va_put (D := (dC, dI)) (ci := 12) (v := .int 1) (ty := tyX12 57) (C := RX12) (T := TX12) (N := 76) hx hb htw inlX12 tyX12 tyX12_ok nmX12 hown hK hP hD hS 0 rfl rfl 57 (by decide) (htw _ (ck_41 _ (List.mem_of_getElem? (i := 2) rfl))) (fun _ h9 => h9) rfl (tyX12_ok 57 (by decide)) rfl rfl (Nat.le_of_ble_eq_true rfl) dX12_bounded_29 (fun H locs hP hD hS => ?_)
        obtain ⟨hP, hD⟩ := zre [(mq, .inr (12, mF (upd g 57 1) gl rf))] hP hD rfl
        refine lv_aload_n hx hb dX12_bounded_32 rfl (lv_at hl 0 rfl) ?_
        refine va_get (D := (dC, dI)) (ci := 12) (v := .int 1) (C := RX12) (T := TX12) (N := 76) hx hb htw inlX12 hown hK hP 0 rfl rfl 57 (by decide) (htw _ (ck_41 _ (List.mem_of_getElem? (i := 2) rfl))) (fun _ h9 => h9) rfl dX12_bounded_33 ?_
        refine lv_if_eq (tgt := 43) hx hb dX12_bounded_36 (by decide) (fun c => absurd c (by decide)) (fun _ => ?_)
        refine lv_lconst (v := 0) hx hb dX12_bounded_39 (by decide) ?_
        refine lv_goto (tgt := 44) hx hb dX12_bounded_40 (by decide) ?_
        refine W.widen (k := 0) (n := 0) (by omega) (by omega) ?_
        have hP9 := hP
        have hD9 := hD
        have hK9 := hK.sub (tys' := []) [] rfl
        exact W.lret (v := 0) hx hb hr (fun t ht hW => ⟨⟨0, 1, rfl, ((fun e9 => ⟨by rw [e9], by rw [e9]⟩ : fq_bounded a0 (g 57) = ((0 : Int64), (1 : Int32)) → _) ((by rw [fq_bounded]; (try rw [if_pos c_1]); (try rw [if_neg c_2]); (try rw [if_neg c_3]); try rfl))), by rw [ht]; exact hP9, va_K.moved hW.alike hK9, hD9⟩, hS.F ht⟩) hS.2.2 dX12_bounded_44

def fq_compares (a0 : Int32) (a1 : Int64) (a2 : Int64) : Int32 := (if a0 = 5 then (if 0 ≤ lg_cmp a1 a2 then (0 : Int32) else (1 : Int32)) else (if a0 = 6 then (if 0 < lg_cmp a1 a2 then (0 : Int32) else (1 : Int32)) else (if a0 = 7 then (if lg_cmp a1 a2 = 0 then (1 : Int32) else (0 : Int32)) else (if a0 = 8 then (if lg_cmp a1 a2 = 0 then (0 : Int32) else (1 : Int32)) else (if a0 = 9 then (if lg_cmp a1 a2 < 0 then (0 : Int32) else (1 : Int32)) else (if lg_cmp a1 a2 ≤ 0 then (0 : Int32) else (1 : Int32)))))))
theorem dX12_compares_0 : decode cX12_compares 0 = .ok (.iload_n 0, 1) := zk_26 (by decide +kernel)
theorem dX12_compares_1 : decode cX12_compares 1 = .ok (.tableswitch 95 5 9 #[35, 47, 59, 71, 83], 35) := by decide +kernel
theorem dX12_compares_36 : decode cX12_compares 36 = .ok (.lload_n 1, 1) := zk_31 (by decide +kernel)
theorem dX12_compares_37 : decode cX12_compares 37 = .ok (.lload_n 3, 1) := zk_33 (by decide +kernel)
theorem dX12_compares_38 : decode cX12_compares 38 = .ok (.lcmp, 1) := zk_148 (by decide +kernel)
theorem dX12_compares_39 : decode cX12_compares 39 = .ok (.ifCond .ge 7, 3) := zk_156 (by decide +kernel)
theorem dX12_compares_46 : decode cX12_compares 46 = .ok (.iconst 0, 1) := zk_3 (by decide +kernel)
theorem dX12_compares_47 : decode cX12_compares 47 = .ok (.ireturn, 1) := zk_172 (by decide +kernel)
theorem dX12_compares_42 : decode cX12_compares 42 = .ok (.iconst 1, 1) := zk_4 (by decide +kernel)
theorem dX12_compares_43 : decode cX12_compares 43 = .ok (.goto 4, 3) := zk_167 (by decide +kernel)
theorem dX12_compares_48 : decode cX12_compares 48 = .ok (.lload_n 1, 1) := zk_31 (by decide +kernel)
theorem dX12_compares_49 : decode cX12_compares 49 = .ok (.lload_n 3, 1) := zk_33 (by decide +kernel)
theorem dX12_compares_50 : decode cX12_compares 50 = .ok (.lcmp, 1) := zk_148 (by decide +kernel)
theorem dX12_compares_51 : decode cX12_compares 51 = .ok (.ifCond .gt 7, 3) := zk_157 (by decide +kernel)
theorem dX12_compares_58 : decode cX12_compares 58 = .ok (.iconst 0, 1) := zk_3 (by decide +kernel)
theorem dX12_compares_59 : decode cX12_compares 59 = .ok (.ireturn, 1) := zk_172 (by decide +kernel)
theorem dX12_compares_54 : decode cX12_compares 54 = .ok (.iconst 1, 1) := zk_4 (by decide +kernel)
theorem dX12_compares_55 : decode cX12_compares 55 = .ok (.goto 4, 3) := zk_167 (by decide +kernel)
theorem dX12_compares_60 : decode cX12_compares 60 = .ok (.lload_n 1, 1) := zk_31 (by decide +kernel)
theorem dX12_compares_61 : decode cX12_compares 61 = .ok (.lload_n 3, 1) := zk_33 (by decide +kernel)
theorem dX12_compares_62 : decode cX12_compares 62 = .ok (.lcmp, 1) := zk_148 (by decide +kernel)
theorem dX12_compares_63 : decode cX12_compares 63 = .ok (.ifCond .ne 7, 3) := zk_154 (by decide +kernel)
theorem dX12_compares_70 : decode cX12_compares 70 = .ok (.iconst 0, 1) := zk_3 (by decide +kernel)
theorem dX12_compares_71 : decode cX12_compares 71 = .ok (.ireturn, 1) := zk_172 (by decide +kernel)
theorem dX12_compares_66 : decode cX12_compares 66 = .ok (.iconst 1, 1) := zk_4 (by decide +kernel)
theorem dX12_compares_67 : decode cX12_compares 67 = .ok (.goto 4, 3) := zk_167 (by decide +kernel)
theorem dX12_compares_72 : decode cX12_compares 72 = .ok (.lload_n 1, 1) := zk_31 (by decide +kernel)
theorem dX12_compares_73 : decode cX12_compares 73 = .ok (.lload_n 3, 1) := zk_33 (by decide +kernel)
theorem dX12_compares_74 : decode cX12_compares 74 = .ok (.lcmp, 1) := zk_148 (by decide +kernel)
theorem dX12_compares_75 : decode cX12_compares 75 = .ok (.ifCond .eq 7, 3) := zk_153 (by decide +kernel)
theorem dX12_compares_82 : decode cX12_compares 82 = .ok (.iconst 0, 1) := zk_3 (by decide +kernel)
theorem dX12_compares_83 : decode cX12_compares 83 = .ok (.ireturn, 1) := zk_172 (by decide +kernel)
theorem dX12_compares_78 : decode cX12_compares 78 = .ok (.iconst 1, 1) := zk_4 (by decide +kernel)
theorem dX12_compares_79 : decode cX12_compares 79 = .ok (.goto 4, 3) := zk_167 (by decide +kernel)
theorem dX12_compares_84 : decode cX12_compares 84 = .ok (.lload_n 1, 1) := zk_31 (by decide +kernel)
theorem dX12_compares_85 : decode cX12_compares 85 = .ok (.lload_n 3, 1) := zk_33 (by decide +kernel)
theorem dX12_compares_86 : decode cX12_compares 86 = .ok (.lcmp, 1) := zk_148 (by decide +kernel)
theorem dX12_compares_87 : decode cX12_compares 87 = .ok (.ifCond .lt 7, 3) := zk_155 (by decide +kernel)
theorem dX12_compares_94 : decode cX12_compares 94 = .ok (.iconst 0, 1) := zk_3 (by decide +kernel)
theorem dX12_compares_95 : decode cX12_compares 95 = .ok (.ireturn, 1) := zk_172 (by decide +kernel)
theorem dX12_compares_90 : decode cX12_compares 90 = .ok (.iconst 1, 1) := zk_4 (by decide +kernel)
theorem dX12_compares_91 : decode cX12_compares 91 = .ok (.goto 4, 3) := zk_167 (by decide +kernel)
theorem dX12_compares_96 : decode cX12_compares 96 = .ok (.lload_n 1, 1) := zk_31 (by decide +kernel)
theorem dX12_compares_97 : decode cX12_compares 97 = .ok (.lload_n 3, 1) := zk_33 (by decide +kernel)
theorem dX12_compares_98 : decode cX12_compares 98 = .ok (.lcmp, 1) := zk_148 (by decide +kernel)
theorem dX12_compares_99 : decode cX12_compares 99 = .ok (.ifCond .le 7, 3) := zk_158 (by decide +kernel)
theorem dX12_compares_106 : decode cX12_compares 106 = .ok (.iconst 0, 1) := zk_3 (by decide +kernel)
theorem dX12_compares_107 : decode cX12_compares 107 = .ok (.ireturn, 1) := zk_172 (by decide +kernel)
theorem dX12_compares_102 : decode cX12_compares 102 = .ok (.iconst 1, 1) := zk_4 (by decide +kernel)
theorem dX12_compares_103 : decode cX12_compares 103 = .ok (.goto 4, 3) := zk_167 (by decide +kernel)
set_option maxHeartbeats 4000000 in
set_option maxRecDepth 100000 in
theorem gq_compares (l : Launch) (dC : Nat → ClassId) (dI : Nat → Nat → Nat) (a0 : Int32) (a1 : Int64) (a2 : Int64) : Met l yX12_compares (Cond.code yX12_compares cX12_compares 5 (some .boolean) :: wsL_law) ({ frames := 0, cells := 0, slots := 0, locals := 0 }) (va_Pc [.int a0, .long a1, .long a2] (fun U => va_P (dC, dI) vwCl [] U.heap ∧ va_K (dC, dI) vwCl [] U)) (vp_Si (fun r => (r = fq_compares a0 a1 a2) ∧ (r = 0 ∨ r = 1))) 0 0 (fun _ => False) := by
  refine Met.ofW (cc := cX12_compares) (maxL := 5) (ret := (some .boolean)) (by decide) rfl ?_
  intro p e s m args below meth c s₁ B hml hv
  obtain ⟨rfl, hP, hK⟩ := hv
  have hx := B.exec
  have hb := B.bytes
  have hr := B.returns
  have hts := atoms_spec (ws := Cond.code yX12_compares cX12_compares 5 (some .boolean) :: wsL_law) B.pre
  have htw : ∀ w ∈ wsL_law, w.before _ s = true := fun w h => hts w (List.mem_cons_of_mem _ h)
  have hown : s.vm.findClass RX12 = some m.cls := findClass_of_methodNamed B.named
  have hlocks := B.notSynchronized
  have hl := lv_entry ([.int a0, .long a1, .long a2]) (n := 5) (Nat.le_of_ble_eq_true rfl)
  rw [lg_entry_eq]
  generalize (lg_sl ([.int a0, .long a1, .long a2]) ++ List.replicate (5 - (lg_sl ([.int a0, .long a1, .long a2])).length) Slot.unset).toArray = ls at hl ⊢
  have hl : lv_has ls 5 [(0, .int a0), (1, .long a1), (3, .long a2)] := hl
  refine lv_iload_n hx hb dX12_compares_0 rfl (lv_at hl 0 rfl) ?_
  by_cases h_1 : a0 = 5
  · subst h_1
    refine lv_tableIn (off := 35) (tgt := 36) hx hb dX12_compares_1 (by decide) (by decide) (by decide) (by decide) ?_
    refine lv_lload_n hx hb dX12_compares_36 rfl (lv_at hl 1 rfl) ?_
    refine lv_lload_n hx hb dX12_compares_37 rfl (lv_at hl 2 rfl) ?_
    refine W.lcmp hx hb dX12_compares_38 ?_
    refine lv_if_ge (tgt := 46) hx hb dX12_compares_39 (by decide) (fun c_2 => ?_) (fun c_2 => ?_)
    · refine lv_iconst (v := 0) hx hb dX12_compares_46 (by decide) ?_
      exact W.zret (v := 0) hx hb hr (by first | rfl | decide) (fun t ht hW => ⟨0, rfl, ⟨(Eq.symm ((by rw [fq_compares]; (try rw [if_pos rfl]); (try rw [if_pos c_2]); try rfl))), Or.inl rfl⟩, ht⟩) (fun _ h => by cases h) dX12_compares_47
    · refine lv_iconst (v := 1) hx hb dX12_compares_42 (by decide) ?_
      refine lv_goto (tgt := 47) hx hb dX12_compares_43 (by decide) ?_
      exact W.zret (v := 1) hx hb hr (by first | rfl | decide) (fun t ht hW => ⟨1, rfl, ⟨(Eq.symm ((by rw [fq_compares]; (try rw [if_pos rfl]); (try rw [if_neg c_2]); try rfl))), Or.inr rfl⟩, ht⟩) (fun _ h => by cases h) dX12_compares_47
  by_cases h_3 : a0 = 6
  · subst h_3
    refine lv_tableIn (off := 47) (tgt := 48) hx hb dX12_compares_1 (by decide) (by decide) (by decide) (by decide) ?_
    refine lv_lload_n hx hb dX12_compares_48 rfl (lv_at hl 1 rfl) ?_
    refine lv_lload_n hx hb dX12_compares_49 rfl (lv_at hl 2 rfl) ?_
    refine W.lcmp hx hb dX12_compares_50 ?_
    refine lv_if_gt (tgt := 58) hx hb dX12_compares_51 (by decide) (fun c_4 => ?_) (fun c_4 => ?_)
    · refine lv_iconst (v := 0) hx hb dX12_compares_58 (by decide) ?_
      exact W.zret (v := 0) hx hb hr (by first | rfl | decide) (fun t ht hW => ⟨0, rfl, ⟨(Eq.symm ((by rw [fq_compares]; (try rw [if_neg h_1]); (try rw [if_pos rfl]); (try rw [if_pos c_4]); try rfl))), Or.inl rfl⟩, ht⟩) (fun _ h => by cases h) dX12_compares_59
    · refine lv_iconst (v := 1) hx hb dX12_compares_54 (by decide) ?_
      refine lv_goto (tgt := 59) hx hb dX12_compares_55 (by decide) ?_
      exact W.zret (v := 1) hx hb hr (by first | rfl | decide) (fun t ht hW => ⟨1, rfl, ⟨(Eq.symm ((by rw [fq_compares]; (try rw [if_neg h_1]); (try rw [if_pos rfl]); (try rw [if_neg c_4]); try rfl))), Or.inr rfl⟩, ht⟩) (fun _ h => by cases h) dX12_compares_59
  by_cases h_5 : a0 = 7
  · subst h_5
    refine lv_tableIn (off := 59) (tgt := 60) hx hb dX12_compares_1 (by decide) (by decide) (by decide) (by decide) ?_
    refine lv_lload_n hx hb dX12_compares_60 rfl (lv_at hl 1 rfl) ?_
    refine lv_lload_n hx hb dX12_compares_61 rfl (lv_at hl 2 rfl) ?_
    refine W.lcmp hx hb dX12_compares_62 ?_
    refine lv_if_ne (tgt := 70) hx hb dX12_compares_63 (by decide) (fun c_6 => ?_) (fun c_6 => ?_)
    · refine lv_iconst (v := 0) hx hb dX12_compares_70 (by decide) ?_
      exact W.zret (v := 0) hx hb hr (by first | rfl | decide) (fun t ht hW => ⟨0, rfl, ⟨(Eq.symm ((by rw [fq_compares]; (try rw [if_neg h_1]); (try rw [if_neg h_3]); (try rw [if_pos rfl]); (try rw [if_neg c_6]); try rfl))), Or.inl rfl⟩, ht⟩) (fun _ h => by cases h) dX12_compares_71
    · refine lv_iconst (v := 1) hx hb dX12_compares_66 (by decide) ?_
      refine lv_goto (tgt := 71) hx hb dX12_compares_67 (by decide) ?_
      exact W.zret (v := 1) hx hb hr (by first | rfl | decide) (fun t ht hW => ⟨1, rfl, ⟨(Eq.symm ((by rw [fq_compares]; (try rw [if_neg h_1]); (try rw [if_neg h_3]); (try rw [if_pos rfl]); (try rw [if_pos c_6]); try rfl))), Or.inr rfl⟩, ht⟩) (fun _ h => by cases h) dX12_compares_71
  by_cases h_7 : a0 = 8
  · subst h_7
    refine lv_tableIn (off := 71) (tgt := 72) hx hb dX12_compares_1 (by decide) (by decide) (by decide) (by decide) ?_
    refine lv_lload_n hx hb dX12_compares_72 rfl (lv_at hl 1 rfl) ?_
    refine lv_lload_n hx hb dX12_compares_73 rfl (lv_at hl 2 rfl) ?_
    refine W.lcmp hx hb dX12_compares_74 ?_
    refine lv_if_eq (tgt := 82) hx hb dX12_compares_75 (by decide) (fun c_8 => ?_) (fun c_8 => ?_)
    · refine lv_iconst (v := 0) hx hb dX12_compares_82 (by decide) ?_
      exact W.zret (v := 0) hx hb hr (by first | rfl | decide) (fun t ht hW => ⟨0, rfl, ⟨(Eq.symm ((by rw [fq_compares]; (try rw [if_neg h_1]); (try rw [if_neg h_3]); (try rw [if_neg h_5]); (try rw [if_pos rfl]); (try rw [if_pos c_8]); try rfl))), Or.inl rfl⟩, ht⟩) (fun _ h => by cases h) dX12_compares_83
    · refine lv_iconst (v := 1) hx hb dX12_compares_78 (by decide) ?_
      refine lv_goto (tgt := 83) hx hb dX12_compares_79 (by decide) ?_
      exact W.zret (v := 1) hx hb hr (by first | rfl | decide) (fun t ht hW => ⟨1, rfl, ⟨(Eq.symm ((by rw [fq_compares]; (try rw [if_neg h_1]); (try rw [if_neg h_3]); (try rw [if_neg h_5]); (try rw [if_pos rfl]); (try rw [if_neg c_8]); try rfl))), Or.inr rfl⟩, ht⟩) (fun _ h => by cases h) dX12_compares_83
  by_cases h_9 : a0 = 9
  · subst h_9
    refine lv_tableIn (off := 83) (tgt := 84) hx hb dX12_compares_1 (by decide) (by decide) (by decide) (by decide) ?_
    refine lv_lload_n hx hb dX12_compares_84 rfl (lv_at hl 1 rfl) ?_
    refine lv_lload_n hx hb dX12_compares_85 rfl (lv_at hl 2 rfl) ?_
    refine W.lcmp hx hb dX12_compares_86 ?_
    refine lv_if_lt (tgt := 94) hx hb dX12_compares_87 (by decide) (fun c_10 => ?_) (fun c_10 => ?_)
    · refine lv_iconst (v := 0) hx hb dX12_compares_94 (by decide) ?_
      exact W.zret (v := 0) hx hb hr (by first | rfl | decide) (fun t ht hW => ⟨0, rfl, ⟨(Eq.symm ((by rw [fq_compares]; (try rw [if_neg h_1]); (try rw [if_neg h_3]); (try rw [if_neg h_5]); (try rw [if_neg h_7]); (try rw [if_pos rfl]); (try rw [if_pos c_10]); try rfl))), Or.inl rfl⟩, ht⟩) (fun _ h => by cases h) dX12_compares_95
    · refine lv_iconst (v := 1) hx hb dX12_compares_90 (by decide) ?_
      refine lv_goto (tgt := 95) hx hb dX12_compares_91 (by decide) ?_
      exact W.zret (v := 1) hx hb hr (by first | rfl | decide) (fun t ht hW => ⟨1, rfl, ⟨(Eq.symm ((by rw [fq_compares]; (try rw [if_neg h_1]); (try rw [if_neg h_3]); (try rw [if_neg h_5]); (try rw [if_neg h_7]); (try rw [if_pos rfl]); (try rw [if_neg c_10]); try rfl))), Or.inr rfl⟩, ht⟩) (fun _ h => by cases h) dX12_compares_95
  refine lv_tableOut (tgt := 96) hx hb dX12_compares_1 (by have a0 := xg_ne h_1; have a1 := xg_ne h_3; have a2 := xg_ne h_5; have a3 := xg_ne h_7; have a4 := xg_ne h_9; have b0 : (5 : Int32).toInt = 5 := rfl; have b1 : (6 : Int32).toInt = 6 := rfl; have b2 : (7 : Int32).toInt = 7 := rfl; have b3 : (8 : Int32).toInt = 8 := rfl; have b4 : (9 : Int32).toInt = 9 := rfl; omega) (by decide) ?_
  refine lv_lload_n hx hb dX12_compares_96 rfl (lv_at hl 1 rfl) ?_
  refine lv_lload_n hx hb dX12_compares_97 rfl (lv_at hl 2 rfl) ?_
  refine W.lcmp hx hb dX12_compares_98 ?_
  refine lv_if_le (tgt := 106) hx hb dX12_compares_99 (by decide) (fun c_11 => ?_) (fun c_11 => ?_)
  · refine lv_iconst (v := 0) hx hb dX12_compares_106 (by decide) ?_
    exact W.zret (v := 0) hx hb hr (by first | rfl | decide) (fun t ht hW => ⟨0, rfl, ⟨(Eq.symm ((by rw [fq_compares]; (try rw [if_neg h_1]); (try rw [if_neg h_3]); (try rw [if_neg h_5]); (try rw [if_neg h_7]); (try rw [if_neg h_9]); (try rw [if_pos c_11]); try rfl))), Or.inl rfl⟩, ht⟩) (fun _ h => by cases h) dX12_compares_107
  · refine lv_iconst (v := 1) hx hb dX12_compares_102 (by decide) ?_
    refine lv_goto (tgt := 107) hx hb dX12_compares_103 (by decide) ?_
    exact W.zret (v := 1) hx hb hr (by first | rfl | decide) (fun t ht hW => ⟨1, rfl, ⟨(Eq.symm ((by rw [fq_compares]; (try rw [if_neg h_1]); (try rw [if_neg h_3]); (try rw [if_neg h_5]); (try rw [if_neg h_7]); (try rw [if_neg h_9]); (try rw [if_neg c_11]); try rfl))), Or.inr rfl⟩, ht⟩) (fun _ h => by cases h) dX12_compares_107

def fq_times_j (a0 : Int64) (a1 : Int64) : (Int32) := (if lg_cmp a0 0 = 0 then (0 : Int32) else (if lg_cmp a1 0 = 0 then (0 : Int32) else (if 0 ≤ lg_cmp a1 0 then (if 0 ≤ lg_cmp a0 0 then (if lg_cmp a1 (1000000000000 / a0) ≤ 0 then (0 : Int32) else (1 : Int32)) else (if lg_cmp a1 (1000000000000 / (-a0)) ≤ 0 then (0 : Int32) else (1 : Int32))) else (if 0 ≤ lg_cmp a0 0 then (if lg_cmp (-a1) (1000000000000 / a0) ≤ 0 then (0 : Int32) else (1 : Int32)) else (if lg_cmp (-a1) (1000000000000 / (-a0)) ≤ 0 then (0 : Int32) else (1 : Int32))))))
def fq_times (a0 : Int64) (a1 : Int64) (m_isError : Int32) : Int64 × (Int32) := (xL (fq_times_j a0 a1) (fun X_1 => (if m_isError = 0 then (if X_1 = 0 then ((a0 * a1), (0 : Int32)) else ((0 : Int64), (1 : Int32))) else ((0 : Int64), (1 : Int32)))))
theorem gq_times_s0 {y0 : Int64} (h0 : ¬ (y0 = 0)) (h1 : 0 ≤ y0) : ¬ (y0 = 0) := h0
theorem gq_times_s1 {y0 : Int64} (h0 : ¬ (y0 = 0)) (h1 : ¬ (0 ≤ y0)) : ¬ ((-y0) = 0) := by lia
theorem gq_times_s2 {y0 : Int64} (h0 : ¬ (y0 = 0)) (h1 : 0 ≤ y0) : ¬ (y0 = 0) := h0
theorem gq_times_s3 {y0 : Int64} (h0 : ¬ (y0 = 0)) (h1 : ¬ (0 ≤ y0)) : ¬ ((-y0) = 0) := by lia
theorem dX12_times_0 : decode cX12_times 0 = .ok (.lload_n 1, 1) := zk_31 (by decide +kernel)
theorem dX12_times_1 : decode cX12_times 1 = .ok (.lconst 0, 1) := zk_9 (by decide +kernel)
theorem dX12_times_2 : decode cX12_times 2 = .ok (.lcmp, 1) := zk_148 (by decide +kernel)
theorem dX12_times_49 : decode cX12_times 49 = .ok (.istore 5, 2) := zk_54 (by decide +kernel)
theorem dX12_times_51 : decode cX12_times 51 = .ok (.aload_n 0, 1) := zk_42 (by decide +kernel)
theorem dX12_times_52 : decode cX12_times 52 = .ok (.aload_n 0, 1) := zk_42 (by decide +kernel)
theorem dX12_times_53 : decode cX12_times 53 = .ok (.getfield 428, 3) := zk_180 (by decide +kernel)
theorem dX12_times_56 : decode cX12_times 56 = .ok (.ifCond .ne 8, 3) := zk_154 (by decide +kernel)
theorem dX12_times_64 : decode cX12_times 64 = .ok (.iconst 1, 1) := zk_4 (by decide +kernel)
theorem dX12_times_65 : decode cX12_times 65 = .ok (.goto 4, 3) := zk_167 (by decide +kernel)
theorem dX12_times_69 : decode cX12_times 69 = .ok (.putfield 428, 3) := zk_181 (by decide +kernel)
theorem dX12_times_72 : decode cX12_times 72 = .ok (.aload_n 0, 1) := zk_42 (by decide +kernel)
theorem dX12_times_73 : decode cX12_times 73 = .ok (.getfield 428, 3) := zk_180 (by decide +kernel)
theorem dX12_times_76 : decode cX12_times 76 = .ok (.ifCond .eq 7, 3) := zk_153 (by decide +kernel)
theorem dX12_times_79 : decode cX12_times 79 = .ok (.lconst 0, 1) := zk_9 (by decide +kernel)
theorem dX12_times_80 : decode cX12_times 80 = .ok (.goto 6, 3) := zk_167 (by decide +kernel)
theorem dX12_times_86 : decode cX12_times 86 = .ok (.lreturn, 1) := zk_173 (by decide +kernel)
theorem dX12_times_59 : decode cX12_times 59 = .ok (.iload 5, 2) := zk_21 (by decide +kernel)
theorem dX12_times_61 : decode cX12_times 61 = .ok (.ifCond .eq 7, 3) := zk_153 (by decide +kernel)
theorem dX12_times_68 : decode cX12_times 68 = .ok (.iconst 0, 1) := zk_3 (by decide +kernel)
theorem dX12_times_83 : decode cX12_times 83 = .ok (.lload_n 1, 1) := zk_31 (by decide +kernel)
theorem dX12_times_84 : decode cX12_times 84 = .ok (.lload_n 3, 1) := zk_33 (by decide +kernel)
theorem dX12_times_85 : decode cX12_times 85 = .ok (.lmul, 1) := zk_105 (by decide +kernel)
theorem dX12_times_3 : decode cX12_times 3 = .ok (.ifCond .eq 45, 3) := zk_153 (by decide +kernel)
theorem dX12_times_48 : decode cX12_times 48 = .ok (.iconst 0, 1) := zk_3 (by decide +kernel)
theorem dX12_times_6 : decode cX12_times 6 = .ok (.lload_n 3, 1) := zk_33 (by decide +kernel)
theorem dX12_times_7 : decode cX12_times 7 = .ok (.lconst 0, 1) := zk_9 (by decide +kernel)
theorem dX12_times_8 : decode cX12_times 8 = .ok (.lcmp, 1) := zk_148 (by decide +kernel)
theorem dX12_times_9 : decode cX12_times 9 = .ok (.ifCond .eq 39, 3) := zk_153 (by decide +kernel)
theorem dX12_times_12 : decode cX12_times 12 = .ok (.lload_n 3, 1) := zk_33 (by decide +kernel)
theorem dX12_times_13 : decode cX12_times 13 = .ok (.lconst 0, 1) := zk_9 (by decide +kernel)
theorem dX12_times_14 : decode cX12_times 14 = .ok (.lcmp, 1) := zk_148 (by decide +kernel)
theorem dX12_times_15 : decode cX12_times 15 = .ok (.ifCond .ge 8, 3) := zk_156 (by decide +kernel)
theorem dX12_times_23 : decode cX12_times 23 = .ok (.lload_n 3, 1) := zk_33 (by decide +kernel)
theorem dX12_times_24 : decode cX12_times 24 = .ok (.ldc2_w 125, 3) := zk_20 (by decide +kernel)
theorem dX12_times_27 : decode cX12_times 27 = .ok (.lload_n 1, 1) := zk_31 (by decide +kernel)
theorem dX12_times_28 : decode cX12_times 28 = .ok (.lconst 0, 1) := zk_9 (by decide +kernel)
theorem dX12_times_29 : decode cX12_times 29 = .ok (.lcmp, 1) := zk_148 (by decide +kernel)
theorem dX12_times_30 : decode cX12_times 30 = .ok (.ifCond .ge 8, 3) := zk_156 (by decide +kernel)
theorem dX12_times_38 : decode cX12_times 38 = .ok (.lload_n 1, 1) := zk_31 (by decide +kernel)
theorem dX12_times_39 : decode cX12_times 39 = .ok (.ldiv, 1) := zk_109 (by decide +kernel)
theorem dX12_times_40 : decode cX12_times 40 = .ok (.lcmp, 1) := zk_148 (by decide +kernel)
theorem dX12_times_41 : decode cX12_times 41 = .ok (.ifCond .le 7, 3) := zk_158 (by decide +kernel)
theorem dX12_times_44 : decode cX12_times 44 = .ok (.iconst 1, 1) := zk_4 (by decide +kernel)
theorem dX12_times_45 : decode cX12_times 45 = .ok (.goto 4, 3) := zk_167 (by decide +kernel)
theorem dX12_times_33 : decode cX12_times 33 = .ok (.lload_n 1, 1) := zk_31 (by decide +kernel)
theorem dX12_times_34 : decode cX12_times 34 = .ok (.lneg, 1) := zk_117 (by decide +kernel)
theorem dX12_times_35 : decode cX12_times 35 = .ok (.goto 4, 3) := zk_167 (by decide +kernel)
theorem dX12_times_18 : decode cX12_times 18 = .ok (.lload_n 3, 1) := zk_33 (by decide +kernel)
theorem dX12_times_19 : decode cX12_times 19 = .ok (.lneg, 1) := zk_117 (by decide +kernel)
theorem dX12_times_20 : decode cX12_times 20 = .ok (.goto 4, 3) := zk_167 (by decide +kernel)
set_option maxHeartbeats 4000000 in
set_option maxRecDepth 100000 in
theorem gq_times (l : Launch) (dC : Nat → ClassId) (dI : Nat → Nat → Nat) (mq : Nat) (g : Nat → Int32) (gl : Nat → Int64) (rf : Nat → Nat) (a0 : Int64) (a1 : Int64) (sz : Nat) : Met l yX12_times (Cond.code yX12_times cX12_times 6 (some .long) :: wsL_law) ({ frames := 0, cells := 0, slots := 0, locals := 0 }) (va_Pc [.ref mq, .long a0, .long a1] (fun U => U.heap.size = sz ∧ va_P (dC, dI) vwCl [(mq, .inr (12, mF g gl rf))] U.heap ∧ va_K (dC, dI) vwCl [] U ∧ va_D (fun _ => True) [(mq, .inr (12, mF g gl rf))])) (va_Ql (fun (r : Int64) (u : (Int32)) => r = (fq_times a0 a1 (g 57)).1 ∧ u = (fq_times a0 a1 (g 57)).2) (fun (u : (Int32)) t => va_P (dC, dI) vwCl [(mq, .inr (12, mF (upd g 57 u) gl rf))] t.heap ∧ va_K (dC, dI) vwCl [] t ∧ va_D (va_A [(mq, .inr (12, mF g gl rf))] sz) [(mq, .inr (12, mF (upd g 57 u) gl rf))]) (va_A [(mq, .inr (12, mF g gl rf))] sz)) 0 0 (va_A [(mq, .inr (12, mF g gl rf))] sz) := by
  refine Met.ofW (cc := cX12_times) (maxL := 6) (ret := (some .long)) (by decide) rfl ?_
  intro p e s m args below meth c s₁ B hml hv
  obtain ⟨rfl, hsz, hP, hK, hD0⟩ := hv
  have hx := B.exec
  have hb := B.bytes
  have hr := B.returns
  have hts := atoms_spec (ws := Cond.code yX12_times cX12_times 6 (some .long) :: wsL_law) B.pre
  have htw : ∀ w ∈ wsL_law, w.before _ s = true := fun w h => hts w (List.mem_cons_of_mem _ h)
  have hown : s.vm.findClass RX12 = some m.cls := findClass_of_methodNamed B.named
  have hlocks := B.notSynchronized
  subst hsz
  have hD := hD0.self (sz := s.heap.size)
  generalize hAe : va_A [(mq, .inr (12, mF g gl rf))] s.heap.size = A at hD ⊢
  have hA : ∀ q : Nat, s.heap.size ≤ q → A q := fun q h => by rw [← hAe]; exact Or.inr h
  obtain ⟨H, rH⟩ : ∃ z : Heap, z = s.heap := ⟨_, rfl⟩
  have hS : va_S A s.heap H [] := by rw [rH]; exact va_S.rf
  have hP : va_P (dC, dI) vwCl [(mq, .inr (12, mF g gl rf))] H := by rw [rH]; exact hP
  rw [← rH]
  have hl := lv_entry ([.ref mq, .long a0, .long a1]) (n := 6) (Nat.le_of_ble_eq_true rfl)
  rw [lg_entry_eq]
  generalize (lg_sl ([.ref mq, .long a0, .long a1]) ++ List.replicate (6 - (lg_sl ([.ref mq, .long a0, .long a1])).length) Slot.unset).toArray = ls at hl ⊢
  have hl : lv_has ls 6 [(0, .ref mq), (1, .long a0), (3, .long a1)] := hl
  refine lv_lload_n hx hb dX12_times_0 rfl (lv_at hl 1 rfl) ?_
  refine lv_lconst (v := 0) hx hb dX12_times_1 (by decide) ?_
  refine W.lcmp hx hb dX12_times_2 ?_
  obtain ⟨X_1, hX_1⟩ : ∃ X9 : (Int32), X9 = fq_times_j a0 a1 := ⟨_, rfl⟩
  have hjoin_2 : ∀ (S0j : Int32)  (hE9 : X_1 = S0j) (H : Heap) (locs : List Loc) (ls : Array Slot) (hP : va_P (dC, dI) vwCl [(mq, .inr (12, mF g gl rf))] H) (hD : va_D A [(mq, .inr (12, mF g gl rf))]) (hS : va_S A s.heap H locs) (hl : lv_has ls 6 [(0, .ref mq), (1, .long a0), (3, .long a1)]), W p l e (headSpec (Cond.code yX12_times cX12_times 6 (some .long) :: wsL_law) ({ frames := 0, cells := 0, slots := 0, locals := 0 })).room s m ([.ref mq, .long a0, .long a1] : List Value).toArray below meth c H locs 0 0 (MQ below (va_Ql (fun (r : Int64) (u : (Int32)) => r = (fq_times a0 a1 (g 57)).1 ∧ u = (fq_times a0 a1 (g 57)).2) (fun (u : (Int32)) t => va_P (dC, dI) vwCl [(mq, .inr (12, mF (upd g 57 u) gl rf))] t.heap ∧ va_K (dC, dI) vwCl [] t ∧ va_D A [(mq, .inr (12, mF (upd g 57 u) gl rf))]) A) ([.ref mq, .long a0, .long a1] : List Value).toArray s 0 0 A) (F0 m 49 ls [.int S0j]) := by
    intro S0j  hE9 H locs ls hP hD hS hl
    have hq_S0j : S0j = X_1 := by rw [hE9]
    refine lv_istore (lv' := [(5, .int S0j), (0, .ref mq), (1, .long a0), (3, .long a1)]) hx hb dX12_times_49 hl (by decide) rfl (fun ls hl => ?_)
    refine lv_aload_n hx hb dX12_times_51 rfl (lv_at hl 1 rfl) ?_
    refine lv_aload_n hx hb dX12_times_52 rfl (lv_at hl 1 rfl) ?_
    refine va_get (D := (dC, dI)) (ci := 12) (v := .int (g 57)) (C := RX12) (T := TX12) (N := 76) hx hb htw inlX12 hown hK hP 0 rfl rfl 57 (by decide) (htw _ (ck_41 _ (List.mem_of_getElem? (i := 2) rfl))) (fun _ h9 => h9) rfl dX12_times_53 ?_
    refine lv_if_ne (tgt := 64) hx hb dX12_times_56 (by decide) (fun c_3 => ?_) (fun c_3 => ?_)
    · refine lv_iconst (v := 1) hx hb dX12_times_64 (by decide) ?_
      refine lv_goto (tgt := 69) hx hb dX12_times_65 (by decide) ?_
      refine va_put (D := (dC, dI)) (ci := 12) (v := .int 1) (ty := tyX12 57) (C := RX12) (T := TX12) (N := 76) hx hb htw inlX12 tyX12 tyX12_ok nmX12 hown hK hP hD hS 0 rfl rfl 57 (by decide) (htw _ (ck_41 _ (List.mem_of_getElem? (i := 2) rfl))) (fun _ h9 => h9) rfl (tyX12_ok 57 (by decide)) rfl rfl (Nat.le_of_ble_eq_true rfl) dX12_times_69 (fun H locs hP hD hS => ?_)
      obtain ⟨hP, hD⟩ := zre [(mq, .inr (12, mF (upd g 57 1) gl rf))] hP hD rfl
      refine lv_aload_n hx hb dX12_times_72 rfl (lv_at hl 1 rfl) ?_
      refine va_get (D := (dC, dI)) (ci := 12) (v := .int 1) (C := RX12) (T := TX12) (N := 76) hx hb htw inlX12 hown hK hP 0 rfl rfl 57 (by decide) (htw _ (ck_41 _ (List.mem_of_getElem? (i := 2) rfl))) (fun _ h9 => h9) rfl dX12_times_73 ?_
      refine lv_if_eq (tgt := 83) hx hb dX12_times_76 (by decide) (fun c => absurd c (by decide)) (fun _ => ?_)
      refine lv_lconst (v := 0) hx hb dX12_times_79 (by decide) ?_
      refine lv_goto (tgt := 86) hx hb dX12_times_80 (by decide) ?_
      refine W.widen (k := 0) (n := 0) (by omega) (by omega) ?_
      have hP9 := hP
      have hD9 := hD
      have hK9 := hK.sub (tys' := []) [] rfl
      exact W.lret (v := 0) hx hb hr (fun t ht hW => ⟨⟨0, 1, rfl, ((fun e9 => ⟨by rw [e9], by rw [e9]⟩ : fq_times a0 a1 (g 57) = ((0 : Int64), (1 : Int32)) → _) ((by rw [fq_times]; (try rw [← hX_1]); (try rw [xL_eq]); (try rw [← hq_S0j]); (try rw [if_neg c_3]); try rfl))), by rw [ht]; exact hP9, va_K.moved hW.alike hK9, hD9⟩, hS.F ht⟩) hS.2.2 dX12_times_86
    · refine lv_iload hx hb dX12_times_59 (lv_at hl 0 rfl) ?_
      refine lv_if_eq (tgt := 68) hx hb dX12_times_61 (by decide) (fun c_4 => ?_) (fun c_4 => ?_)
      · refine lv_iconst (v := 0) hx hb dX12_times_68 (by decide) ?_
        refine va_put (D := (dC, dI)) (ci := 12) (v := .int 0) (ty := tyX12 57) (C := RX12) (T := TX12) (N := 76) hx hb htw inlX12 tyX12 tyX12_ok nmX12 hown hK hP hD hS 0 rfl rfl 57 (by decide) (htw _ (ck_41 _ (List.mem_of_getElem? (i := 2) rfl))) (fun _ h9 => h9) rfl (tyX12_ok 57 (by decide)) rfl rfl (Nat.le_of_ble_eq_true rfl) dX12_times_69 (fun H locs hP hD hS => ?_)
        obtain ⟨hP, hD⟩ := zre [(mq, .inr (12, mF (upd g 57 0) gl rf))] hP hD rfl
        refine lv_aload_n hx hb dX12_times_72 rfl (lv_at hl 1 rfl) ?_
        refine va_get (D := (dC, dI)) (ci := 12) (v := .int 0) (C := RX12) (T := TX12) (N := 76) hx hb htw inlX12 hown hK hP 0 rfl rfl 57 (by decide) (htw _ (ck_41 _ (List.mem_of_getElem? (i := 2) rfl))) (fun _ h9 => h9) rfl dX12_times_73 ?_
        refine lv_if_eq (tgt := 83) hx hb dX12_times_76 (by decide) (fun _ => ?_) (fun c => absurd c (by decide))
        refine lv_lload_n hx hb dX12_times_83 rfl (lv_at hl 2 rfl) ?_
        refine lv_lload_n hx hb dX12_times_84 rfl (lv_at hl 3 rfl) ?_
        refine lv_lmul hx hb dX12_times_85 ?_
        refine W.widen (k := 0) (n := 0) (by omega) (by omega) ?_
        have hP9 := hP
        have hD9 := hD
        have hK9 := hK.sub (tys' := []) [] rfl
        exact W.lret (v := (a0 * a1)) hx hb hr (fun t ht hW => ⟨⟨(a0 * a1), 0, rfl, ((fun e9 => ⟨by rw [e9], by rw [e9]⟩ : fq_times a0 a1 (g 57) = ((a0 * a1), (0 : Int32)) → _) ((by rw [fq_times]; (try rw [← hX_1]); (try rw [xL_eq]); (try rw [← hq_S0j]); (try rw [if_pos c_3]); (try rw [if_pos c_4]); try rfl))), by rw [ht]; exact hP9, va_K.moved hW.alike hK9, hD9⟩, hS.F ht⟩) hS.2.2 dX12_times_86
      · refine lv_iconst (v := 1) hx hb dX12_times_64 (by decide) ?_
        refine lv_goto (tgt := 69) hx hb dX12_times_65 (by decide) ?_
        refine va_put (D := (dC, dI)) (ci := 12) (v := .int 1) (ty := tyX12 57) (C := RX12) (T := TX12) (N := 76) hx hb htw inlX12 tyX12 tyX12_ok nmX12 hown hK hP hD hS 0 rfl rfl 57 (by decide) (htw _ (ck_41 _ (List.mem_of_getElem? (i := 2) rfl))) (fun _ h9 => h9) rfl (tyX12_ok 57 (by decide)) rfl rfl (Nat.le_of_ble_eq_true rfl) dX12_times_69 (fun H locs hP hD hS => ?_)
        obtain ⟨hP, hD⟩ := zre [(mq, .inr (12, mF (upd g 57 1) gl rf))] hP hD rfl
        refine lv_aload_n hx hb dX12_times_72 rfl (lv_at hl 1 rfl) ?_
        refine va_get (D := (dC, dI)) (ci := 12) (v := .int 1) (C := RX12) (T := TX12) (N := 76) hx hb htw inlX12 hown hK hP 0 rfl rfl 57 (by decide) (htw _ (ck_41 _ (List.mem_of_getElem? (i := 2) rfl))) (fun _ h9 => h9) rfl dX12_times_73 ?_
        refine lv_if_eq (tgt := 83) hx hb dX12_times_76 (by decide) (fun c => absurd c (by decide)) (fun _ => ?_)
        refine lv_lconst (v := 0) hx hb dX12_times_79 (by decide) ?_
        refine lv_goto (tgt := 86) hx hb dX12_times_80 (by decide) ?_
        refine W.widen (k := 0) (n := 0) (by omega) (by omega) ?_
        have hP9 := hP
        have hD9 := hD
        have hK9 := hK.sub (tys' := []) [] rfl
        exact W.lret (v := 0) hx hb hr (fun t ht hW => ⟨⟨0, 1, rfl, ((fun e9 => ⟨by rw [e9], by rw [e9]⟩ : fq_times a0 a1 (g 57) = ((0 : Int64), (1 : Int32)) → _) ((by rw [fq_times]; (try rw [← hX_1]); (try rw [xL_eq]); (try rw [← hq_S0j]); (try rw [if_pos c_3]); (try rw [if_neg c_4]); try rfl))), by rw [ht]; exact hP9, va_K.moved hW.alike hK9, hD9⟩, hS.F ht⟩) hS.2.2 dX12_times_86
  refine lv_if_eq (tgt := 48) hx hb dX12_times_3 (by decide) (fun c_5 => ?_) (fun c_5 => ?_)
  · refine lv_iconst (v := 0) hx hb dX12_times_48 (by decide) ?_
    exact hjoin_2 (0 : Int32)  (hX_1.trans (by rw [fq_times_j]; (try rw [if_pos c_5]); try rfl)) _ _ ls hP hD hS (lv_sub hl [0, 1, 2] rfl)
  · refine lv_lload_n hx hb dX12_times_6 rfl (lv_at hl 2 rfl) ?_
    refine lv_lconst (v := 0) hx hb dX12_times_7 (by decide) ?_
    refine W.lcmp hx hb dX12_times_8 ?_
    refine lv_if_eq (tgt := 48) hx hb dX12_times_9 (by decide) (fun c_6 => ?_) (fun c_6 => ?_)
    · refine lv_iconst (v := 0) hx hb dX12_times_48 (by decide) ?_
      exact hjoin_2 (0 : Int32)  (hX_1.trans (by rw [fq_times_j]; (try rw [if_neg c_5]); (try rw [if_pos c_6]); try rfl)) _ _ ls hP hD hS (lv_sub hl [0, 1, 2] rfl)
    · refine lv_lload_n hx hb dX12_times_12 rfl (lv_at hl 2 rfl) ?_
      refine lv_lconst (v := 0) hx hb dX12_times_13 (by decide) ?_
      refine W.lcmp hx hb dX12_times_14 ?_
      refine lv_if_ge (tgt := 23) hx hb dX12_times_15 (by decide) (fun c_7 => ?_) (fun c_7 => ?_)
      · refine lv_lload_n hx hb dX12_times_23 rfl (lv_at hl 2 rfl) ?_
        refine lv_ldc2 (v := 1000000000000) hx hb hown (htw _ (ck_29 _ (List.mem_of_getElem? (i := 22) rfl))) dX12_times_24 ?_
        refine lv_lload_n hx hb dX12_times_27 rfl (lv_at hl 1 rfl) ?_
        refine lv_lconst (v := 0) hx hb dX12_times_28 (by decide) ?_
        refine W.lcmp hx hb dX12_times_29 ?_
        refine lv_if_ge (tgt := 38) hx hb dX12_times_30 (by decide) (fun c_8 => ?_) (fun c_8 => ?_)
        · refine lv_lload_n hx hb dX12_times_38 rfl (lv_at hl 1 rfl) ?_
          refine lv_ldiv hx hb dX12_times_39 ((gq_times_s0 (y0 := a0) (fun q9 => c_5 ((lg_cmp_eq _ _).mpr q9)) ((lg_cmp_ge _ _).mp c_8))) ?_
          refine W.lcmp hx hb dX12_times_40 ?_
          refine lv_if_le (tgt := 48) hx hb dX12_times_41 (by decide) (fun c_9 => ?_) (fun c_9 => ?_)
          · refine lv_iconst (v := 0) hx hb dX12_times_48 (by decide) ?_
            exact hjoin_2 (0 : Int32)  (hX_1.trans (by rw [fq_times_j]; (try rw [if_neg c_5]); (try rw [if_neg c_6]); (try rw [if_pos c_7]); (try rw [if_pos c_8]); (try rw [if_pos c_9]); try rfl)) _ _ ls hP hD hS (lv_sub hl [0, 1, 2] rfl)
          · refine lv_iconst (v := 1) hx hb dX12_times_44 (by decide) ?_
            refine lv_goto (tgt := 49) hx hb dX12_times_45 (by decide) ?_
            exact hjoin_2 (1 : Int32)  (hX_1.trans (by rw [fq_times_j]; (try rw [if_neg c_5]); (try rw [if_neg c_6]); (try rw [if_pos c_7]); (try rw [if_pos c_8]); (try rw [if_neg c_9]); try rfl)) _ _ ls hP hD hS (lv_sub hl [0, 1, 2] rfl)
        · refine lv_lload_n hx hb dX12_times_33 rfl (lv_at hl 1 rfl) ?_
          refine lv_lneg hx hb dX12_times_34 ?_
          refine lv_goto (tgt := 39) hx hb dX12_times_35 (by decide) ?_
          refine lv_ldiv hx hb dX12_times_39 ((gq_times_s1 (y0 := a0) (fun q9 => c_5 ((lg_cmp_eq _ _).mpr q9)) (fun q9 => c_8 ((lg_cmp_ge _ _).mpr q9)))) ?_
          refine W.lcmp hx hb dX12_times_40 ?_
          refine lv_if_le (tgt := 48) hx hb dX12_times_41 (by decide) (fun c_10 => ?_) (fun c_10 => ?_)
          · refine lv_iconst (v := 0) hx hb dX12_times_48 (by decide) ?_
            exact hjoin_2 (0 : Int32)  (hX_1.trans (by rw [fq_times_j]; (try rw [if_neg c_5]); (try rw [if_neg c_6]); (try rw [if_pos c_7]); (try rw [if_neg c_8]); (try rw [if_pos c_10]); try rfl)) _ _ ls hP hD hS (lv_sub hl [0, 1, 2] rfl)
          · refine lv_iconst (v := 1) hx hb dX12_times_44 (by decide) ?_
            refine lv_goto (tgt := 49) hx hb dX12_times_45 (by decide) ?_
            exact hjoin_2 (1 : Int32)  (hX_1.trans (by rw [fq_times_j]; (try rw [if_neg c_5]); (try rw [if_neg c_6]); (try rw [if_pos c_7]); (try rw [if_neg c_8]); (try rw [if_neg c_10]); try rfl)) _ _ ls hP hD hS (lv_sub hl [0, 1, 2] rfl)
      · refine lv_lload_n hx hb dX12_times_18 rfl (lv_at hl 2 rfl) ?_
        refine lv_lneg hx hb dX12_times_19 ?_
        refine lv_goto (tgt := 24) hx hb dX12_times_20 (by decide) ?_
        refine lv_ldc2 (v := 1000000000000) hx hb hown (htw _ (ck_29 _ (List.mem_of_getElem? (i := 22) rfl))) dX12_times_24 ?_
        refine lv_lload_n hx hb dX12_times_27 rfl (lv_at hl 1 rfl) ?_
        refine lv_lconst (v := 0) hx hb dX12_times_28 (by decide) ?_
        refine W.lcmp hx hb dX12_times_29 ?_
        refine lv_if_ge (tgt := 38) hx hb dX12_times_30 (by decide) (fun c_11 => ?_) (fun c_11 => ?_)
        · refine lv_lload_n hx hb dX12_times_38 rfl (lv_at hl 1 rfl) ?_
          refine lv_ldiv hx hb dX12_times_39 ((gq_times_s2 (y0 := a0) (fun q9 => c_5 ((lg_cmp_eq _ _).mpr q9)) ((lg_cmp_ge _ _).mp c_11))) ?_
          refine W.lcmp hx hb dX12_times_40 ?_
          refine lv_if_le (tgt := 48) hx hb dX12_times_41 (by decide) (fun c_12 => ?_) (fun c_12 => ?_)
          · refine lv_iconst (v := 0) hx hb dX12_times_48 (by decide) ?_
            exact hjoin_2 (0 : Int32)  (hX_1.trans (by rw [fq_times_j]; (try rw [if_neg c_5]); (try rw [if_neg c_6]); (try rw [if_neg c_7]); (try rw [if_pos c_11]); (try rw [if_pos c_12]); try rfl)) _ _ ls hP hD hS (lv_sub hl [0, 1, 2] rfl)
          · refine lv_iconst (v := 1) hx hb dX12_times_44 (by decide) ?_
            refine lv_goto (tgt := 49) hx hb dX12_times_45 (by decide) ?_
            exact hjoin_2 (1 : Int32)  (hX_1.trans (by rw [fq_times_j]; (try rw [if_neg c_5]); (try rw [if_neg c_6]); (try rw [if_neg c_7]); (try rw [if_pos c_11]); (try rw [if_neg c_12]); try rfl)) _ _ ls hP hD hS (lv_sub hl [0, 1, 2] rfl)
        · refine lv_lload_n hx hb dX12_times_33 rfl (lv_at hl 1 rfl) ?_
          refine lv_lneg hx hb dX12_times_34 ?_
          refine lv_goto (tgt := 39) hx hb dX12_times_35 (by decide) ?_
          refine lv_ldiv hx hb dX12_times_39 ((gq_times_s3 (y0 := a0) (fun q9 => c_5 ((lg_cmp_eq _ _).mpr q9)) (fun q9 => c_11 ((lg_cmp_ge _ _).mpr q9)))) ?_
          refine W.lcmp hx hb dX12_times_40 ?_
          refine lv_if_le (tgt := 48) hx hb dX12_times_41 (by decide) (fun c_13 => ?_) (fun c_13 => ?_)
          · refine lv_iconst (v := 0) hx hb dX12_times_48 (by decide) ?_
            exact hjoin_2 (0 : Int32)  (hX_1.trans (by rw [fq_times_j]; (try rw [if_neg c_5]); (try rw [if_neg c_6]); (try rw [if_neg c_7]); (try rw [if_neg c_11]); (try rw [if_pos c_13]); try rfl)) _ _ ls hP hD hS (lv_sub hl [0, 1, 2] rfl)
          · refine lv_iconst (v := 1) hx hb dX12_times_44 (by decide) ?_
            refine lv_goto (tgt := 49) hx hb dX12_times_45 (by decide) ?_
            exact hjoin_2 (1 : Int32)  (hX_1.trans (by rw [fq_times_j]; (try rw [if_neg c_5]); (try rw [if_neg c_6]); (try rw [if_neg c_7]); (try rw [if_neg c_11]); (try rw [if_neg c_13]); try rfl)) _ _ ls hP hD hS (lv_sub hl [0, 1, 2] rfl)

def fq_valueOf (f_knot : Nat → Int32) (f_part : Nat → Int32) (f_other : Nat → Int32) (f_names : Nat → Int64) (f_value : Nat → Int64) (a0 : Int32) (m_isError : Int32) : Int64 × (Int32) := (if f_knot a0.toNatClampNeg = 0 then ((f_part a0.toNatClampNeg).toInt64, m_isError) else (if f_knot a0.toNatClampNeg = 1 then (xL ((fq_bounded (f_names ((f_part a0.toNatClampNeg).toNatClampNeg)) m_isError)) (fun X_57 => (X_57.1, X_57.2))) else (if f_knot a0.toNatClampNeg = 2 then (if lg_cmp (f_value ((f_part a0.toNatClampNeg).toNatClampNeg)) 0 = 0 then ((1 : Int64), m_isError) else ((0 : Int64), m_isError)) else (if f_knot a0.toNatClampNeg = 3 then (if lg_cmp (f_value ((f_part a0.toNatClampNeg).toNatClampNeg)) 0 = 0 then ((0 : Int64), m_isError) else (if lg_cmp (f_value ((f_other a0.toNatClampNeg).toNatClampNeg)) 0 = 0 then ((0 : Int64), m_isError) else ((1 : Int64), m_isError))) else (if f_knot a0.toNatClampNeg = 4 then (if lg_cmp (f_value ((f_part a0.toNatClampNeg).toNatClampNeg)) 0 = 0 then (if lg_cmp (f_value ((f_other a0.toNatClampNeg).toNatClampNeg)) 0 = 0 then ((0 : Int64), m_isError) else ((1 : Int64), m_isError)) else ((1 : Int64), m_isError)) else (if f_knot a0.toNatClampNeg = 5 then (xL ((fq_compares (f_knot a0.toNatClampNeg) (f_value ((f_part a0.toNatClampNeg).toNatClampNeg)) (f_value ((f_other a0.toNatClampNeg).toNatClampNeg)))) (fun r_11 => (if r_11 = 0 then ((0 : Int64), m_isError) else ((1 : Int64), m_isError)))) else (if f_knot a0.toNatClampNeg = 6 then (xL ((fq_compares (f_knot a0.toNatClampNeg) (f_value ((f_part a0.toNatClampNeg).toNatClampNeg)) (f_value ((f_other a0.toNatClampNeg).toNatClampNeg)))) (fun r_14 => (if r_14 = 0 then ((0 : Int64), m_isError) else ((1 : Int64), m_isError)))) else (if f_knot a0.toNatClampNeg = 7 then (xL ((fq_compares (f_knot a0.toNatClampNeg) (f_value ((f_part a0.toNatClampNeg).toNatClampNeg)) (f_value ((f_other a0.toNatClampNeg).toNatClampNeg)))) (fun r_17 => (if r_17 = 0 then ((0 : Int64), m_isError) else ((1 : Int64), m_isError)))) else (if f_knot a0.toNatClampNeg = 8 then (xL ((fq_compares (f_knot a0.toNatClampNeg) (f_value ((f_part a0.toNatClampNeg).toNatClampNeg)) (f_value ((f_other a0.toNatClampNeg).toNatClampNeg)))) (fun r_20 => (if r_20 = 0 then ((0 : Int64), m_isError) else ((1 : Int64), m_isError)))) else (if f_knot a0.toNatClampNeg = 9 then (xL ((fq_compares (f_knot a0.toNatClampNeg) (f_value ((f_part a0.toNatClampNeg).toNatClampNeg)) (f_value ((f_other a0.toNatClampNeg).toNatClampNeg)))) (fun r_23 => (if r_23 = 0 then ((0 : Int64), m_isError) else ((1 : Int64), m_isError)))) else (if f_knot a0.toNatClampNeg = 10 then (xL ((fq_compares (f_knot a0.toNatClampNeg) (f_value ((f_part a0.toNatClampNeg).toNatClampNeg)) (f_value ((f_other a0.toNatClampNeg).toNatClampNeg)))) (fun r_26 => (if r_26 = 0 then ((0 : Int64), m_isError) else ((1 : Int64), m_isError)))) else (if f_knot a0.toNatClampNeg = 11 then (xL ((fq_bounded ((f_value ((f_part a0.toNatClampNeg).toNatClampNeg)) + (f_value ((f_other a0.toNatClampNeg).toNatClampNeg))) m_isError)) (fun X_32 => (X_32.1, X_32.2))) else (if f_knot a0.toNatClampNeg = 12 then (xL ((fq_bounded ((f_value ((f_part a0.toNatClampNeg).toNatClampNeg)) - (f_value ((f_other a0.toNatClampNeg).toNatClampNeg))) m_isError)) (fun X_37 => (X_37.1, X_37.2))) else (if f_knot a0.toNatClampNeg = 13 then (xL ((fq_times (f_value ((f_part a0.toNatClampNeg).toNatClampNeg)) (f_value ((f_other a0.toNatClampNeg).toNatClampNeg)) m_isError)) (fun X_42 => (X_42.1, X_42.2))) else (if f_knot a0.toNatClampNeg = 14 then (if m_isError = 0 then (if lg_cmp (f_value ((f_other a0.toNatClampNeg).toNatClampNeg)) 0 = 0 then ((0 : Int64), (1 : Int32)) else (((f_value ((f_part a0.toNatClampNeg).toNatClampNeg)) / (f_value ((f_other a0.toNatClampNeg).toNatClampNeg))), (0 : Int32))) else ((0 : Int64), (1 : Int32))) else (if f_knot a0.toNatClampNeg = 15 then (if m_isError = 0 then (if lg_cmp (f_value ((f_other a0.toNatClampNeg).toNatClampNeg)) 0 = 0 then ((0 : Int64), (1 : Int32)) else (((f_value ((f_part a0.toNatClampNeg).toNatClampNeg)) - (f_value ((f_part a0.toNatClampNeg).toNatClampNeg)) / (f_value ((f_other a0.toNatClampNeg).toNatClampNeg)) * (f_value ((f_other a0.toNatClampNeg).toNatClampNeg))), (0 : Int32))) else ((0 : Int64), (1 : Int32))) else (xL ((fq_compares (f_knot a0.toNatClampNeg) (f_value ((f_part a0.toNatClampNeg).toNatClampNeg)) (f_value ((f_other a0.toNatClampNeg).toNatClampNeg)))) (fun r_51 => (if r_51 = 0 then ((0 : Int64), m_isError) else ((1 : Int64), m_isError))))))))))))))))))))
theorem gq_valueOf_s0 {y0 : Int32} (h0 : ¬ (y0 < 0)) (h1 : y0 < 64) : ¬ (y0 < 0) ∧ ¬ (128 ≤ y0) := by lia
theorem gq_valueOf_s1 {y0 : Int32} (h0 : ¬ (y0 < 0)) (h1 : y0 < 64) : ¬ (y0 < 0) ∧ ¬ (128 ≤ y0) := by lia
theorem gq_valueOf_s2 {y0 : Int32} (h0 : ¬ (y0 < 0)) (h1 : y0 < 64) : ¬ (y0 < 0) ∧ ¬ (128 ≤ y0) := by lia
theorem gq_valueOf_s3 {y0 : Int32} (h0 : ¬ (y0 < 0)) (h1 : y0 < 64) : ¬ (y0 < 0) ∧ ¬ (128 ≤ y0) := by lia
theorem gq_valueOf_s4 {y0 : Int32} (h0 : ¬ (y0 < 0)) (h1 : y0 < 64) : ¬ (y0 < 0) ∧ ¬ (128 ≤ y0) := by lia
theorem gq_valueOf_s5 {y0 : Int32} (h0 : ¬ (y0 < 0)) (h1 : y0 < 64) : ¬ (y0 < 0) ∧ ¬ (128 ≤ y0) := by lia
theorem gq_valueOf_s6 {y0 : Int32} (h0 : ¬ (y0 < 0)) (h1 : y0 < 64) : ¬ (y0 < 0) ∧ ¬ (128 ≤ y0) := by lia
theorem gq_valueOf_s7 {y0 : Int32} (h0 : ¬ (y0 < 0)) (h1 : y0 < 64) : ¬ (y0 < 0) ∧ ¬ (128 ≤ y0) := by lia
theorem gq_valueOf_s8 {y0 : Int32} (h0 : ¬ (y0 < 0)) (h1 : y0 < 64) : ¬ (y0 < 0) ∧ ¬ (128 ≤ y0) := by lia
theorem gq_valueOf_s9 {y0 : Int32} (h0 : ¬ (y0 < 0)) (h1 : y0 < 64) : ¬ (y0 < 0) ∧ ¬ (128 ≤ y0) := by lia
theorem gq_valueOf_s10 {y0 : Int32} (h0 : ¬ (y0 < 0)) (h1 : y0 < 64) : ¬ (y0 < 0) ∧ ¬ (128 ≤ y0) := by lia
theorem gq_valueOf_s11 {y0 : Int32} (h0 : ¬ (y0 < 0)) (h1 : y0 < 64) : ¬ (y0 < 0) ∧ ¬ (128 ≤ y0) := by lia
theorem gq_valueOf_s12 {y0 : Int32} (h0 : ¬ (y0 < 0)) (h1 : y0 < 64) : ¬ (y0 < 0) ∧ ¬ (128 ≤ y0) := by lia
theorem gq_valueOf_s13 {y0 : Int64} (h0 : ¬ (y0 = 0)) : ¬ (y0 = 0) := h0
theorem gq_valueOf_s14 {y0 : Int32} (h0 : ¬ (y0 < 0)) (h1 : y0 < 64) : ¬ (y0 < 0) ∧ ¬ (128 ≤ y0) := by lia
theorem gq_valueOf_s15 {y0 : Int64} (h0 : ¬ (y0 = 0)) : ¬ (y0 = 0) := h0
theorem gq_valueOf_s16 {y0 : Int32} (h0 : ¬ (y0 < 0)) (h1 : y0 < 64) : ¬ (y0 < 0) ∧ ¬ (128 ≤ y0) := by lia
theorem gq_valueOf_s17 {y0 : Int32} (h0 : ¬ (y0 < 0)) (h1 : y0 < 64) : ¬ (y0 < 0) ∧ ¬ (128 ≤ y0) := by lia
theorem gq_valueOf_s18 {y0 : Int32} (h0 : ¬ (y0 < 0)) (h1 : y0 < 64) : ¬ (y0 < 0) ∧ ¬ (128 ≤ y0) := by lia
theorem dX12_valueOf_0 : decode cX12_valueOf 0 = .ok (.aload_n 0, 1) := zk_42 (by decide +kernel)
theorem dX12_valueOf_1 : decode cX12_valueOf 1 = .ok (.getfield 63, 3) := zk_180 (by decide +kernel)
theorem dX12_valueOf_4 : decode cX12_valueOf 4 = .ok (.iload_n 1, 1) := zk_27 (by decide +kernel)
theorem dX12_valueOf_5 : decode cX12_valueOf 5 = .ok (.iaload, 1) := zk_46 (by decide +kernel)
theorem dX12_valueOf_6 : decode cX12_valueOf 6 = .ok (.ifCond .ne 11, 3) := zk_154 (by decide +kernel)
theorem dX12_valueOf_17 : decode cX12_valueOf 17 = .ok (.aload_n 0, 1) := zk_42 (by decide +kernel)
theorem dX12_valueOf_18 : decode cX12_valueOf 18 = .ok (.getfield 63, 3) := zk_180 (by decide +kernel)
theorem dX12_valueOf_21 : decode cX12_valueOf 21 = .ok (.iload_n 1, 1) := zk_27 (by decide +kernel)
theorem dX12_valueOf_22 : decode cX12_valueOf 22 = .ok (.iaload, 1) := zk_46 (by decide +kernel)
theorem dX12_valueOf_23 : decode cX12_valueOf 23 = .ok (.iconst 1, 1) := zk_4 (by decide +kernel)
theorem dX12_valueOf_24 : decode cX12_valueOf 24 = .ok (.if_icmp .ne 19, 3) := zk_160 (by decide +kernel)
theorem dX12_valueOf_43 : decode cX12_valueOf 43 = .ok (.aload_n 0, 1) := zk_42 (by decide +kernel)
theorem dX12_valueOf_44 : decode cX12_valueOf 44 = .ok (.getfield 81, 3) := zk_180 (by decide +kernel)
theorem dX12_valueOf_47 : decode cX12_valueOf 47 = .ok (.aload_n 0, 1) := zk_42 (by decide +kernel)
theorem dX12_valueOf_48 : decode cX12_valueOf 48 = .ok (.getfield 66, 3) := zk_180 (by decide +kernel)
theorem dX12_valueOf_51 : decode cX12_valueOf 51 = .ok (.iload_n 1, 1) := zk_27 (by decide +kernel)
theorem dX12_valueOf_52 : decode cX12_valueOf 52 = .ok (.iaload, 1) := zk_46 (by decide +kernel)
theorem dX12_valueOf_53 : decode cX12_valueOf 53 = .ok (.laload, 1) := zk_47 (by decide +kernel)
theorem dX12_valueOf_54 : decode cX12_valueOf 54 = .ok (.lstore_n 2, 1) := zk_65 (by decide +kernel)
theorem dX12_valueOf_55 : decode cX12_valueOf 55 = .ok (.aload_n 0, 1) := zk_42 (by decide +kernel)
theorem dX12_valueOf_56 : decode cX12_valueOf 56 = .ok (.getfield 63, 3) := zk_180 (by decide +kernel)
theorem dX12_valueOf_59 : decode cX12_valueOf 59 = .ok (.iload_n 1, 1) := zk_27 (by decide +kernel)
theorem dX12_valueOf_60 : decode cX12_valueOf 60 = .ok (.iaload, 1) := zk_46 (by decide +kernel)
theorem dX12_valueOf_61 : decode cX12_valueOf 61 = .ok (.iconst 2, 1) := zk_5 (by decide +kernel)
theorem dX12_valueOf_62 : decode cX12_valueOf 62 = .ok (.if_icmp .ne 15, 3) := zk_160 (by decide +kernel)
theorem dX12_valueOf_77 : decode cX12_valueOf 77 = .ok (.aload_n 0, 1) := zk_42 (by decide +kernel)
theorem dX12_valueOf_78 : decode cX12_valueOf 78 = .ok (.getfield 81, 3) := zk_180 (by decide +kernel)
theorem dX12_valueOf_81 : decode cX12_valueOf 81 = .ok (.aload_n 0, 1) := zk_42 (by decide +kernel)
theorem dX12_valueOf_82 : decode cX12_valueOf 82 = .ok (.getfield 69, 3) := zk_180 (by decide +kernel)
theorem dX12_valueOf_85 : decode cX12_valueOf 85 = .ok (.iload_n 1, 1) := zk_27 (by decide +kernel)
theorem dX12_valueOf_86 : decode cX12_valueOf 86 = .ok (.iaload, 1) := zk_46 (by decide +kernel)
theorem dX12_valueOf_87 : decode cX12_valueOf 87 = .ok (.laload, 1) := zk_47 (by decide +kernel)
theorem dX12_valueOf_88 : decode cX12_valueOf 88 = .ok (.lstore 4, 2) := zk_55 (by decide +kernel)
theorem dX12_valueOf_90 : decode cX12_valueOf 90 = .ok (.aload_n 0, 1) := zk_42 (by decide +kernel)
theorem dX12_valueOf_91 : decode cX12_valueOf 91 = .ok (.getfield 63, 3) := zk_180 (by decide +kernel)
theorem dX12_valueOf_94 : decode cX12_valueOf 94 = .ok (.iload_n 1, 1) := zk_27 (by decide +kernel)
theorem dX12_valueOf_95 : decode cX12_valueOf 95 = .ok (.iaload, 1) := zk_46 (by decide +kernel)
theorem dX12_valueOf_96 : decode cX12_valueOf 96 = .ok (.tableswitch 189 3 15 #[68, 87, 189, 189, 189, 189, 189, 189, 106, 115, 124, 132, 132], 68) := by decide +kernel
theorem dX12_valueOf_164 : decode cX12_valueOf 164 = .ok (.lload_n 2, 1) := zk_32 (by decide +kernel)
theorem dX12_valueOf_165 : decode cX12_valueOf 165 = .ok (.lconst 0, 1) := zk_9 (by decide +kernel)
theorem dX12_valueOf_166 : decode cX12_valueOf 166 = .ok (.lcmp, 1) := zk_148 (by decide +kernel)
theorem dX12_valueOf_167 : decode cX12_valueOf 167 = .ok (.ifCond .eq 14, 3) := zk_153 (by decide +kernel)
theorem dX12_valueOf_181 : decode cX12_valueOf 181 = .ok (.lconst 0, 1) := zk_9 (by decide +kernel)
theorem dX12_valueOf_182 : decode cX12_valueOf 182 = .ok (.lreturn, 1) := zk_173 (by decide +kernel)
theorem dX12_valueOf_170 : decode cX12_valueOf 170 = .ok (.lload 4, 2) := zk_22 (by decide +kernel)
theorem dX12_valueOf_172 : decode cX12_valueOf 172 = .ok (.lconst 0, 1) := zk_9 (by decide +kernel)
theorem dX12_valueOf_173 : decode cX12_valueOf 173 = .ok (.lcmp, 1) := zk_148 (by decide +kernel)
theorem dX12_valueOf_174 : decode cX12_valueOf 174 = .ok (.ifCond .eq 7, 3) := zk_153 (by decide +kernel)
theorem dX12_valueOf_177 : decode cX12_valueOf 177 = .ok (.lconst 1, 1) := zk_10 (by decide +kernel)
theorem dX12_valueOf_178 : decode cX12_valueOf 178 = .ok (.goto 4, 3) := zk_167 (by decide +kernel)
theorem dX12_valueOf_183 : decode cX12_valueOf 183 = .ok (.lload_n 2, 1) := zk_32 (by decide +kernel)
theorem dX12_valueOf_184 : decode cX12_valueOf 184 = .ok (.lconst 0, 1) := zk_9 (by decide +kernel)
theorem dX12_valueOf_185 : decode cX12_valueOf 185 = .ok (.lcmp, 1) := zk_148 (by decide +kernel)
theorem dX12_valueOf_186 : decode cX12_valueOf 186 = .ok (.ifCond .ne 10, 3) := zk_154 (by decide +kernel)
theorem dX12_valueOf_196 : decode cX12_valueOf 196 = .ok (.lconst 1, 1) := zk_10 (by decide +kernel)
theorem dX12_valueOf_197 : decode cX12_valueOf 197 = .ok (.goto 4, 3) := zk_167 (by decide +kernel)
theorem dX12_valueOf_201 : decode cX12_valueOf 201 = .ok (.lreturn, 1) := zk_173 (by decide +kernel)
theorem dX12_valueOf_189 : decode cX12_valueOf 189 = .ok (.lload 4, 2) := zk_22 (by decide +kernel)
theorem dX12_valueOf_191 : decode cX12_valueOf 191 = .ok (.lconst 0, 1) := zk_9 (by decide +kernel)
theorem dX12_valueOf_192 : decode cX12_valueOf 192 = .ok (.lcmp, 1) := zk_148 (by decide +kernel)
theorem dX12_valueOf_193 : decode cX12_valueOf 193 = .ok (.ifCond .eq 7, 3) := zk_153 (by decide +kernel)
theorem dX12_valueOf_200 : decode cX12_valueOf 200 = .ok (.lconst 0, 1) := zk_9 (by decide +kernel)
theorem dX12_valueOf_285 : decode cX12_valueOf 285 = .ok (.aload_n 0, 1) := zk_42 (by decide +kernel)
theorem dX12_valueOf_286 : decode cX12_valueOf 286 = .ok (.getfield 63, 3) := zk_180 (by decide +kernel)
theorem dX12_valueOf_289 : decode cX12_valueOf 289 = .ok (.iload_n 1, 1) := zk_27 (by decide +kernel)
theorem dX12_valueOf_290 : decode cX12_valueOf 290 = .ok (.iaload, 1) := zk_46 (by decide +kernel)
theorem dX12_valueOf_291 : decode cX12_valueOf 291 = .ok (.lload_n 2, 1) := zk_32 (by decide +kernel)
theorem dX12_valueOf_292 : decode cX12_valueOf 292 = .ok (.lload 4, 2) := zk_22 (by decide +kernel)
theorem dX12_valueOf_294 : decode cX12_valueOf 294 = .ok (.invokestatic 441, 3) := zk_184 (by decide +kernel)
theorem dX12_valueOf_297 : decode cX12_valueOf 297 = .ok (.ifCond .eq 7, 3) := zk_153 (by decide +kernel)
theorem dX12_valueOf_304 : decode cX12_valueOf 304 = .ok (.lconst 0, 1) := zk_9 (by decide +kernel)
theorem dX12_valueOf_305 : decode cX12_valueOf 305 = .ok (.lreturn, 1) := zk_173 (by decide +kernel)
theorem dX12_valueOf_300 : decode cX12_valueOf 300 = .ok (.lconst 1, 1) := zk_10 (by decide +kernel)
theorem dX12_valueOf_301 : decode cX12_valueOf 301 = .ok (.goto 4, 3) := zk_167 (by decide +kernel)
theorem dX12_valueOf_202 : decode cX12_valueOf 202 = .ok (.aload_n 0, 1) := zk_42 (by decide +kernel)
theorem dX12_valueOf_203 : decode cX12_valueOf 203 = .ok (.lload_n 2, 1) := zk_32 (by decide +kernel)
theorem dX12_valueOf_204 : decode cX12_valueOf 204 = .ok (.lload 4, 2) := zk_22 (by decide +kernel)
theorem dX12_valueOf_206 : decode cX12_valueOf 206 = .ok (.ladd, 1) := zk_97 (by decide +kernel)
theorem dX12_valueOf_207 : decode cX12_valueOf 207 = .ok (.invokevirtual 433, 3) := zk_182 (by decide +kernel)
theorem dX12_valueOf_210 : decode cX12_valueOf 210 = .ok (.lreturn, 1) := zk_173 (by decide +kernel)
theorem dX12_valueOf_211 : decode cX12_valueOf 211 = .ok (.aload_n 0, 1) := zk_42 (by decide +kernel)
theorem dX12_valueOf_212 : decode cX12_valueOf 212 = .ok (.lload_n 2, 1) := zk_32 (by decide +kernel)
theorem dX12_valueOf_213 : decode cX12_valueOf 213 = .ok (.lload 4, 2) := zk_22 (by decide +kernel)
theorem dX12_valueOf_215 : decode cX12_valueOf 215 = .ok (.lsub, 1) := zk_101 (by decide +kernel)
theorem dX12_valueOf_216 : decode cX12_valueOf 216 = .ok (.invokevirtual 433, 3) := zk_182 (by decide +kernel)
theorem dX12_valueOf_219 : decode cX12_valueOf 219 = .ok (.lreturn, 1) := zk_173 (by decide +kernel)
theorem dX12_valueOf_220 : decode cX12_valueOf 220 = .ok (.aload_n 0, 1) := zk_42 (by decide +kernel)
theorem dX12_valueOf_221 : decode cX12_valueOf 221 = .ok (.lload_n 2, 1) := zk_32 (by decide +kernel)
theorem dX12_valueOf_222 : decode cX12_valueOf 222 = .ok (.lload 4, 2) := zk_22 (by decide +kernel)
theorem dX12_valueOf_224 : decode cX12_valueOf 224 = .ok (.invokevirtual 437, 3) := zk_182 (by decide +kernel)
theorem dX12_valueOf_227 : decode cX12_valueOf 227 = .ok (.lreturn, 1) := zk_173 (by decide +kernel)
theorem dX12_valueOf_228 : decode cX12_valueOf 228 = .ok (.aload_n 0, 1) := zk_42 (by decide +kernel)
theorem dX12_valueOf_229 : decode cX12_valueOf 229 = .ok (.aload_n 0, 1) := zk_42 (by decide +kernel)
theorem dX12_valueOf_230 : decode cX12_valueOf 230 = .ok (.getfield 428, 3) := zk_180 (by decide +kernel)
theorem dX12_valueOf_233 : decode cX12_valueOf 233 = .ok (.ifCond .ne 10, 3) := zk_154 (by decide +kernel)
theorem dX12_valueOf_243 : decode cX12_valueOf 243 = .ok (.iconst 1, 1) := zk_4 (by decide +kernel)
theorem dX12_valueOf_244 : decode cX12_valueOf 244 = .ok (.goto 4, 3) := zk_167 (by decide +kernel)
theorem dX12_valueOf_248 : decode cX12_valueOf 248 = .ok (.putfield 428, 3) := zk_181 (by decide +kernel)
theorem dX12_valueOf_251 : decode cX12_valueOf 251 = .ok (.aload_n 0, 1) := zk_42 (by decide +kernel)
theorem dX12_valueOf_252 : decode cX12_valueOf 252 = .ok (.getfield 428, 3) := zk_180 (by decide +kernel)
theorem dX12_valueOf_255 : decode cX12_valueOf 255 = .ok (.ifCond .eq 7, 3) := zk_153 (by decide +kernel)
theorem dX12_valueOf_258 : decode cX12_valueOf 258 = .ok (.lconst 0, 1) := zk_9 (by decide +kernel)
theorem dX12_valueOf_259 : decode cX12_valueOf 259 = .ok (.goto 25, 3) := zk_167 (by decide +kernel)
theorem dX12_valueOf_284 : decode cX12_valueOf 284 = .ok (.lreturn, 1) := zk_173 (by decide +kernel)
theorem dX12_valueOf_236 : decode cX12_valueOf 236 = .ok (.lload 4, 2) := zk_22 (by decide +kernel)
theorem dX12_valueOf_238 : decode cX12_valueOf 238 = .ok (.lconst 0, 1) := zk_9 (by decide +kernel)
theorem dX12_valueOf_239 : decode cX12_valueOf 239 = .ok (.lcmp, 1) := zk_148 (by decide +kernel)
theorem dX12_valueOf_240 : decode cX12_valueOf 240 = .ok (.ifCond .ne 7, 3) := zk_154 (by decide +kernel)
theorem dX12_valueOf_247 : decode cX12_valueOf 247 = .ok (.iconst 0, 1) := zk_3 (by decide +kernel)
theorem dX12_valueOf_262 : decode cX12_valueOf 262 = .ok (.aload_n 0, 1) := zk_42 (by decide +kernel)
theorem dX12_valueOf_263 : decode cX12_valueOf 263 = .ok (.getfield 63, 3) := zk_180 (by decide +kernel)
theorem dX12_valueOf_266 : decode cX12_valueOf 266 = .ok (.iload_n 1, 1) := zk_27 (by decide +kernel)
theorem dX12_valueOf_267 : decode cX12_valueOf 267 = .ok (.iaload, 1) := zk_46 (by decide +kernel)
theorem dX12_valueOf_268 : decode cX12_valueOf 268 = .ok (.bipush 14, 2) := zk_16 (by decide +kernel)
theorem dX12_valueOf_270 : decode cX12_valueOf 270 = .ok (.if_icmp .ne 10, 3) := zk_160 (by decide +kernel)
theorem dX12_valueOf_273 : decode cX12_valueOf 273 = .ok (.lload_n 2, 1) := zk_32 (by decide +kernel)
theorem dX12_valueOf_274 : decode cX12_valueOf 274 = .ok (.lload 4, 2) := zk_22 (by decide +kernel)
theorem dX12_valueOf_276 : decode cX12_valueOf 276 = .ok (.ldiv, 1) := zk_109 (by decide +kernel)
theorem dX12_valueOf_277 : decode cX12_valueOf 277 = .ok (.goto 7, 3) := zk_167 (by decide +kernel)
theorem dX12_valueOf_280 : decode cX12_valueOf 280 = .ok (.lload_n 2, 1) := zk_32 (by decide +kernel)
theorem dX12_valueOf_281 : decode cX12_valueOf 281 = .ok (.lload 4, 2) := zk_22 (by decide +kernel)
theorem dX12_valueOf_283 : decode cX12_valueOf 283 = .ok (.lrem, 1) := zk_113 (by decide +kernel)
theorem dX12_valueOf_65 : decode cX12_valueOf 65 = .ok (.lload_n 2, 1) := zk_32 (by decide +kernel)
theorem dX12_valueOf_66 : decode cX12_valueOf 66 = .ok (.lconst 0, 1) := zk_9 (by decide +kernel)
theorem dX12_valueOf_67 : decode cX12_valueOf 67 = .ok (.lcmp, 1) := zk_148 (by decide +kernel)
theorem dX12_valueOf_68 : decode cX12_valueOf 68 = .ok (.ifCond .ne 7, 3) := zk_154 (by decide +kernel)
theorem dX12_valueOf_75 : decode cX12_valueOf 75 = .ok (.lconst 0, 1) := zk_9 (by decide +kernel)
theorem dX12_valueOf_76 : decode cX12_valueOf 76 = .ok (.lreturn, 1) := zk_173 (by decide +kernel)
theorem dX12_valueOf_71 : decode cX12_valueOf 71 = .ok (.lconst 1, 1) := zk_10 (by decide +kernel)
theorem dX12_valueOf_72 : decode cX12_valueOf 72 = .ok (.goto 4, 3) := zk_167 (by decide +kernel)
theorem dX12_valueOf_27 : decode cX12_valueOf 27 = .ok (.aload_n 0, 1) := zk_42 (by decide +kernel)
theorem dX12_valueOf_28 : decode cX12_valueOf 28 = .ok (.aload_n 0, 1) := zk_42 (by decide +kernel)
theorem dX12_valueOf_29 : decode cX12_valueOf 29 = .ok (.getfield 78, 3) := zk_180 (by decide +kernel)
theorem dX12_valueOf_32 : decode cX12_valueOf 32 = .ok (.aload_n 0, 1) := zk_42 (by decide +kernel)
theorem dX12_valueOf_33 : decode cX12_valueOf 33 = .ok (.getfield 66, 3) := zk_180 (by decide +kernel)
theorem dX12_valueOf_36 : decode cX12_valueOf 36 = .ok (.iload_n 1, 1) := zk_27 (by decide +kernel)
theorem dX12_valueOf_37 : decode cX12_valueOf 37 = .ok (.iaload, 1) := zk_46 (by decide +kernel)
theorem dX12_valueOf_38 : decode cX12_valueOf 38 = .ok (.laload, 1) := zk_47 (by decide +kernel)
theorem dX12_valueOf_39 : decode cX12_valueOf 39 = .ok (.invokevirtual 433, 3) := zk_182 (by decide +kernel)
theorem dX12_valueOf_42 : decode cX12_valueOf 42 = .ok (.lreturn, 1) := zk_173 (by decide +kernel)
theorem dX12_valueOf_9 : decode cX12_valueOf 9 = .ok (.aload_n 0, 1) := zk_42 (by decide +kernel)
theorem dX12_valueOf_10 : decode cX12_valueOf 10 = .ok (.getfield 66, 3) := zk_180 (by decide +kernel)
theorem dX12_valueOf_13 : decode cX12_valueOf 13 = .ok (.iload_n 1, 1) := zk_27 (by decide +kernel)
theorem dX12_valueOf_14 : decode cX12_valueOf 14 = .ok (.iaload, 1) := zk_46 (by decide +kernel)
theorem dX12_valueOf_15 : decode cX12_valueOf 15 = .ok (.i2l, 1) := zk_133 (by decide +kernel)
theorem dX12_valueOf_16 : decode cX12_valueOf 16 = .ok (.lreturn, 1) := zk_173 (by decide +kernel)
set_option maxHeartbeats 4000000 in
set_option maxRecDepth 100000 in
theorem gq_valueOf (l : Launch) (dC : Nat → ClassId) (dI : Nat → Nat → Nat) (mq : Nat) (g : Nat → Int32) (gl : Nat → Int64) (rf : Nat → Nat) (ck : Nat → ClassId) (f_knot : Nat → Int32) (f_part : Nat → Int32) (f_other : Nat → Int32) (f_names : Nat → Int64) (f_value : Nat → Int64) (a0 : Int32) (sz : Nat) (hk0 : ¬ a0 < 0) (hk6 : a0 < 64) (hKV : xKV f_knot f_part f_other a0.toNatClampNeg) : Met l yX12_valueOf (Cond.code yX12_valueOf cX12_valueOf 6 (some .long) :: wsL_law) ({ frames := 1, cells := 0, slots := 0, locals := 25 }) (va_Pc [.ref mq, .int a0] (fun U => U.heap.size = sz ∧ va_P (dC, dI) vwCl [(mq, .inr (12, mF g gl rf)), (eA0 (rf 41) (ck 41) 128 f_knot), (eA0 (rf 42) (ck 42) 128 f_part), (eA0 (rf 43) (ck 43) 128 f_other), (eA1 (rf 55) (ck 55) 6 f_names), (eA1 (rf 56) (ck 56) 64 f_value)] U.heap ∧ va_K (dC, dI) vwCl [((ck 41), .int), ((ck 42), .int), ((ck 43), .int), ((ck 55), .long), ((ck 56), .long)] U ∧ va_D (fun _ => True) [(mq, .inr (12, mF g gl rf)), (eA0 (rf 41) (ck 41) 128 f_knot), (eA0 (rf 42) (ck 42) 128 f_part), (eA0 (rf 43) (ck 43) 128 f_other), (eA1 (rf 55) (ck 55) 6 f_names), (eA1 (rf 56) (ck 56) 64 f_value)])) (va_Ql (fun (r : Int64) (u : (Int32)) => r = (fq_valueOf f_knot f_part f_other f_names f_value a0 (g 57)).1 ∧ u = (fq_valueOf f_knot f_part f_other f_names f_value a0 (g 57)).2) (fun (u : (Int32)) t => va_P (dC, dI) vwCl [(mq, .inr (12, mF (upd g 57 u) gl rf)), (eA0 (rf 41) (ck 41) 128 f_knot), (eA0 (rf 42) (ck 42) 128 f_part), (eA0 (rf 43) (ck 43) 128 f_other), (eA1 (rf 55) (ck 55) 6 f_names), (eA1 (rf 56) (ck 56) 64 f_value)] t.heap ∧ va_K (dC, dI) vwCl [] t ∧ va_D (va_A [(mq, .inr (12, mF g gl rf)), (eA0 (rf 41) (ck 41) 128 f_knot), (eA0 (rf 42) (ck 42) 128 f_part), (eA0 (rf 43) (ck 43) 128 f_other), (eA1 (rf 55) (ck 55) 6 f_names), (eA1 (rf 56) (ck 56) 64 f_value)] sz) [(mq, .inr (12, mF (upd g 57 u) gl rf)), (eA0 (rf 41) (ck 41) 128 f_knot), (eA0 (rf 42) (ck 42) 128 f_part), (eA0 (rf 43) (ck 43) 128 f_other), (eA1 (rf 55) (ck 55) 6 f_names), (eA1 (rf 56) (ck 56) 64 f_value)]) (va_A [(mq, .inr (12, mF g gl rf)), (eA0 (rf 41) (ck 41) 128 f_knot), (eA0 (rf 42) (ck 42) 128 f_part), (eA0 (rf 43) (ck 43) 128 f_other), (eA1 (rf 55) (ck 55) 6 f_names), (eA1 (rf 56) (ck 56) 64 f_value)] sz)) 0 0 (va_A [(mq, .inr (12, mF g gl rf)), (eA0 (rf 41) (ck 41) 128 f_knot), (eA0 (rf 42) (ck 42) 128 f_part), (eA0 (rf 43) (ck 43) 128 f_other), (eA1 (rf 55) (ck 55) 6 f_names), (eA1 (rf 56) (ck 56) 64 f_value)] sz) := by
  refine Met.ofW (cc := cX12_valueOf) (maxL := 6) (ret := (some .long)) (by decide) rfl ?_
  intro p e s m args below meth c s₁ B hml hv
  obtain ⟨rfl, hsz, hP, hK, hD0⟩ := hv
  have hx := B.exec
  have hb := B.bytes
  have hr := B.returns
  have hts := atoms_spec (ws := Cond.code yX12_valueOf cX12_valueOf 6 (some .long) :: wsL_law) B.pre
  have htw : ∀ w ∈ wsL_law, w.before _ s = true := fun w h => hts w (List.mem_cons_of_mem _ h)
  have hown : s.vm.findClass RX12 = some m.cls := findClass_of_methodNamed B.named
  have hlocks := B.notSynchronized
  subst hsz
  have hD := hD0.self (sz := s.heap.size)
  generalize hAe : va_A [(mq, .inr (12, mF g gl rf)), (eA0 (rf 41) (ck 41) 128 f_knot), (eA0 (rf 42) (ck 42) 128 f_part), (eA0 (rf 43) (ck 43) 128 f_other), (eA1 (rf 55) (ck 55) 6 f_names), (eA1 (rf 56) (ck 56) 64 f_value)] s.heap.size = A at hD ⊢
  have hA : ∀ q : Nat, s.heap.size ≤ q → A q := fun q h => by rw [← hAe]; exact Or.inr h
  obtain ⟨H, rH⟩ : ∃ z : Heap, z = s.heap := ⟨_, rfl⟩
  have hS : va_S A s.heap H [] := by rw [rH]; exact va_S.rf
  have hP : va_P (dC, dI) vwCl [(mq, .inr (12, mF g gl rf)), (eA0 (rf 41) (ck 41) 128 f_knot), (eA0 (rf 42) (ck 42) 128 f_part), (eA0 (rf 43) (ck 43) 128 f_other), (eA1 (rf 55) (ck 55) 6 f_names), (eA1 (rf 56) (ck 56) 64 f_value)] H := by rw [rH]; exact hP
  rw [← rH]
  have hl := lv_entry ([.ref mq, .int a0]) (n := 6) (Nat.le_of_ble_eq_true rfl)
  rw [lg_entry_eq]
  generalize (lg_sl ([.ref mq, .int a0]) ++ List.replicate (6 - (lg_sl ([.ref mq, .int a0])).length) Slot.unset).toArray = ls at hl ⊢
  have hl : lv_has ls 6 [(0, .ref mq), (1, .int a0)] := hl
  refine lv_aload_n hx hb dX12_valueOf_0 rfl (lv_at hl 0 rfl) ?_
  refine va_get (D := (dC, dI)) (ci := 12) (v := .ref (rf 41)) (C := RX12) (T := TX12) (N := 76) hx hb htw inlX12 hown hK hP 0 rfl rfl 41 (by decide) (htw _ (ck_9 _ (List.mem_of_getElem? (i := 21) rfl))) (fun _ h9 => h9) rfl dX12_valueOf_1 ?_
  refine lv_iload_n hx hb dX12_valueOf_4 rfl (lv_at hl 1 rfl) ?_
  refine va_iald hx hb hK hP 1 0 rfl rfl (xg_inr (N := 128) rfl (gq_valueOf_s0 (y0 := a0) hk0 hk6).1 (gq_valueOf_s0 (y0 := a0) hk0 hk6).2) dX12_valueOf_5 ?_
  refine lv_if_ne (tgt := 17) hx hb dX12_valueOf_6 (by decide) (fun c_1 => ?_) (fun c_1 => ?_)
  · refine lv_aload_n hx hb dX12_valueOf_17 rfl (lv_at hl 0 rfl) ?_
    refine va_get (D := (dC, dI)) (ci := 12) (v := .ref (rf 41)) (C := RX12) (T := TX12) (N := 76) hx hb htw inlX12 hown hK hP 0 rfl rfl 41 (by decide) (htw _ (ck_9 _ (List.mem_of_getElem? (i := 21) rfl))) (fun _ h9 => h9) rfl dX12_valueOf_18 ?_
    refine lv_iload_n hx hb dX12_valueOf_21 rfl (lv_at hl 1 rfl) ?_
    refine va_iald hx hb hK hP 1 0 rfl rfl (xg_inr (N := 128) rfl (gq_valueOf_s1 (y0 := a0) hk0 hk6).1 (gq_valueOf_s1 (y0 := a0) hk0 hk6).2) dX12_valueOf_22 ?_
    refine lv_iconst (v := 1) hx hb dX12_valueOf_23 (by decide) ?_
    refine lv_icmp_ne (tgt := 43) hx hb dX12_valueOf_24 (by decide) (fun c_2 => ?_) (fun c_2 => ?_)
    · refine lv_aload_n hx hb dX12_valueOf_43 rfl (lv_at hl 0 rfl) ?_
      refine va_get (D := (dC, dI)) (ci := 12) (v := .ref (rf 56)) (C := RX12) (T := TX12) (N := 76) hx hb htw inlX12 hown hK hP 0 rfl rfl 56 (by decide) (htw _ (ck_10 _ (List.mem_of_getElem? (i := 3) rfl))) (fun _ h9 => h9) rfl dX12_valueOf_44 ?_
      refine lv_aload_n hx hb dX12_valueOf_47 rfl (lv_at hl 0 rfl) ?_
      refine va_get (D := (dC, dI)) (ci := 12) (v := .ref (rf 42)) (C := RX12) (T := TX12) (N := 76) hx hb htw inlX12 hown hK hP 0 rfl rfl 42 (by decide) (htw _ (ck_9 _ (List.mem_of_getElem? (i := 22) rfl))) (fun _ h9 => h9) rfl dX12_valueOf_48 ?_
      refine lv_iload_n hx hb dX12_valueOf_51 rfl (lv_at hl 1 rfl) ?_
      refine va_iald hx hb hK hP 2 1 rfl rfl (xg_inr (N := 128) rfl (gq_valueOf_s2 (y0 := a0) hk0 hk6).1 (gq_valueOf_s2 (y0 := a0) hk0 hk6).2) dX12_valueOf_52 ?_
      refine va_lald hx hb hK hP 5 4 rfl rfl (hKV.2.1 c_1 c_2) dX12_valueOf_53 ?_
      refine lv_lstore_n (lv' := [(2, .long (f_value ((f_part a0.toNatClampNeg).toNatClampNeg))), (0, .ref mq), (1, .int a0)]) hx hb dX12_valueOf_54 rfl hl (by decide) rfl (fun ls hl => ?_)
      refine lv_aload_n hx hb dX12_valueOf_55 rfl (lv_at hl 1 rfl) ?_
      refine va_get (D := (dC, dI)) (ci := 12) (v := .ref (rf 41)) (C := RX12) (T := TX12) (N := 76) hx hb htw inlX12 hown hK hP 0 rfl rfl 41 (by decide) (htw _ (ck_9 _ (List.mem_of_getElem? (i := 21) rfl))) (fun _ h9 => h9) rfl dX12_valueOf_56 ?_
      refine lv_iload_n hx hb dX12_valueOf_59 rfl (lv_at hl 2 rfl) ?_
      refine va_iald hx hb hK hP 1 0 rfl rfl (xg_inr (N := 128) rfl (gq_valueOf_s3 (y0 := a0) hk0 hk6).1 (gq_valueOf_s3 (y0 := a0) hk0 hk6).2) dX12_valueOf_60 ?_
      refine lv_iconst (v := 2) hx hb dX12_valueOf_61 (by decide) ?_
      refine lv_icmp_ne (tgt := 77) hx hb dX12_valueOf_62 (by decide) (fun c_3 => ?_) (fun c_3 => ?_)
      · refine lv_aload_n hx hb dX12_valueOf_77 rfl (lv_at hl 1 rfl) ?_
        refine va_get (D := (dC, dI)) (ci := 12) (v := .ref (rf 56)) (C := RX12) (T := TX12) (N := 76) hx hb htw inlX12 hown hK hP 0 rfl rfl 56 (by decide) (htw _ (ck_10 _ (List.mem_of_getElem? (i := 3) rfl))) (fun _ h9 => h9) rfl dX12_valueOf_78 ?_
        refine lv_aload_n hx hb dX12_valueOf_81 rfl (lv_at hl 1 rfl) ?_
        refine va_get (D := (dC, dI)) (ci := 12) (v := .ref (rf 43)) (C := RX12) (T := TX12) (N := 76) hx hb htw inlX12 hown hK hP 0 rfl rfl 43 (by decide) (htw _ (ck_9 _ (List.mem_of_getElem? (i := 23) rfl))) (fun _ h9 => h9) rfl dX12_valueOf_82 ?_
        refine lv_iload_n hx hb dX12_valueOf_85 rfl (lv_at hl 2 rfl) ?_
        refine va_iald hx hb hK hP 3 2 rfl rfl (xg_inr (N := 128) rfl (gq_valueOf_s4 (y0 := a0) hk0 hk6).1 (gq_valueOf_s4 (y0 := a0) hk0 hk6).2) dX12_valueOf_86 ?_
        refine va_lald hx hb hK hP 5 4 rfl rfl (hKV.2.2 c_1 c_2 c_3) dX12_valueOf_87 ?_
        refine lv_lstore (lv' := [(4, .long (f_value ((f_other a0.toNatClampNeg).toNatClampNeg))), (2, .long (f_value ((f_part a0.toNatClampNeg).toNatClampNeg))), (0, .ref mq), (1, .int a0)]) hx hb dX12_valueOf_88 hl (by decide) rfl (fun ls hl => ?_)
        refine lv_aload_n hx hb dX12_valueOf_90 rfl (lv_at hl 2 rfl) ?_
        refine va_get (D := (dC, dI)) (ci := 12) (v := .ref (rf 41)) (C := RX12) (T := TX12) (N := 76) hx hb htw inlX12 hown hK hP 0 rfl rfl 41 (by decide) (htw _ (ck_9 _ (List.mem_of_getElem? (i := 21) rfl))) (fun _ h9 => h9) rfl dX12_valueOf_91 ?_
        refine lv_iload_n hx hb dX12_valueOf_94 rfl (lv_at hl 3 rfl) ?_
        refine va_iald hx hb hK hP 1 0 rfl rfl (xg_inr (N := 128) rfl (gq_valueOf_s5 (y0 := a0) hk0 hk6).1 (gq_valueOf_s5 (y0 := a0) hk0 hk6).2) dX12_valueOf_95 ?_
        by_cases h_4 : f_knot a0.toNatClampNeg = 3
        · refine lv_tableIn (off := 68) (tgt := 164) hx hb dX12_valueOf_96 (by rw [h_4]; decide) (by rw [h_4]; decide) (by rw [h_4]; decide) (by decide) ?_
          refine lv_lload_n hx hb dX12_valueOf_164 rfl (lv_at hl 1 rfl) ?_
          refine lv_lconst (v := 0) hx hb dX12_valueOf_165 (by decide) ?_
          refine W.lcmp hx hb dX12_valueOf_166 ?_
          refine lv_if_eq (tgt := 181) hx hb dX12_valueOf_167 (by decide) (fun c_5 => ?_) (fun c_5 => ?_)
          · refine lv_lconst (v := 0) hx hb dX12_valueOf_181 (by decide) ?_
            refine W.widen (k := 0) (n := 0) (by omega) (by omega) ?_
            have hP9 := hP
            have hD9 := hD
            have hK9 := hK.sub (tys' := []) [] rfl
            exact W.lret (v := 0) hx hb hr (fun t ht hW => ⟨⟨0, (g 57), rfl, ((fun e9 => ⟨by rw [e9], by rw [e9]⟩ : fq_valueOf f_knot f_part f_other f_names f_value a0 (g 57) = ((0 : Int64), (g 57)) → _) ((by rw [fq_valueOf]; (try rw [if_neg c_1]); (try rw [if_neg c_2]); (try rw [if_neg c_3]); (try rw [if_pos h_4]); (try rw [if_pos c_5]); try rfl))), by rw [ht]; exact hP9, va_K.moved hW.alike hK9, hD9⟩, hS.F ht⟩) hS.2.2 dX12_valueOf_182
          · refine lv_lload hx hb dX12_valueOf_170 (lv_at hl 0 rfl) ?_
            refine lv_lconst (v := 0) hx hb dX12_valueOf_172 (by decide) ?_
            refine W.lcmp hx hb dX12_valueOf_173 ?_
            refine lv_if_eq (tgt := 181) hx hb dX12_valueOf_174 (by decide) (fun c_6 => ?_) (fun c_6 => ?_)
            · refine lv_lconst (v := 0) hx hb dX12_valueOf_181 (by decide) ?_
              refine W.widen (k := 0) (n := 0) (by omega) (by omega) ?_
              have hP9 := hP
              have hD9 := hD
              have hK9 := hK.sub (tys' := []) [] rfl
              exact W.lret (v := 0) hx hb hr (fun t ht hW => ⟨⟨0, (g 57), rfl, ((fun e9 => ⟨by rw [e9], by rw [e9]⟩ : fq_valueOf f_knot f_part f_other f_names f_value a0 (g 57) = ((0 : Int64), (g 57)) → _) ((by rw [fq_valueOf]; (try rw [if_neg c_1]); (try rw [if_neg c_2]); (try rw [if_neg c_3]); (try rw [if_pos h_4]); (try rw [if_neg c_5]); (try rw [if_pos c_6]); try rfl))), by rw [ht]; exact hP9, va_K.moved hW.alike hK9, hD9⟩, hS.F ht⟩) hS.2.2 dX12_valueOf_182
            · refine lv_lconst (v := 1) hx hb dX12_valueOf_177 (by decide) ?_
              refine lv_goto (tgt := 182) hx hb dX12_valueOf_178 (by decide) ?_
              refine W.widen (k := 0) (n := 0) (by omega) (by omega) ?_
              have hP9 := hP
              have hD9 := hD
              have hK9 := hK.sub (tys' := []) [] rfl
              exact W.lret (v := 1) hx hb hr (fun t ht hW => ⟨⟨1, (g 57), rfl, ((fun e9 => ⟨by rw [e9], by rw [e9]⟩ : fq_valueOf f_knot f_part f_other f_names f_value a0 (g 57) = ((1 : Int64), (g 57)) → _) ((by rw [fq_valueOf]; (try rw [if_neg c_1]); (try rw [if_neg c_2]); (try rw [if_neg c_3]); (try rw [if_pos h_4]); (try rw [if_neg c_5]); (try rw [if_neg c_6]); try rfl))), by rw [ht]; exact hP9, va_K.moved hW.alike hK9, hD9⟩, hS.F ht⟩) hS.2.2 dX12_valueOf_182
        by_cases h_7 : f_knot a0.toNatClampNeg = 4
        · refine lv_tableIn (off := 87) (tgt := 183) hx hb dX12_valueOf_96 (by rw [h_7]; decide) (by rw [h_7]; decide) (by rw [h_7]; decide) (by decide) ?_
          refine lv_lload_n hx hb dX12_valueOf_183 rfl (lv_at hl 1 rfl) ?_
          refine lv_lconst (v := 0) hx hb dX12_valueOf_184 (by decide) ?_
          refine W.lcmp hx hb dX12_valueOf_185 ?_
          refine lv_if_ne (tgt := 196) hx hb dX12_valueOf_186 (by decide) (fun c_8 => ?_) (fun c_8 => ?_)
          · refine lv_lconst (v := 1) hx hb dX12_valueOf_196 (by decide) ?_
            refine lv_goto (tgt := 201) hx hb dX12_valueOf_197 (by decide) ?_
            refine W.widen (k := 0) (n := 0) (by omega) (by omega) ?_
            have hP9 := hP
            have hD9 := hD
            have hK9 := hK.sub (tys' := []) [] rfl
            exact W.lret (v := 1) hx hb hr (fun t ht hW => ⟨⟨1, (g 57), rfl, ((fun e9 => ⟨by rw [e9], by rw [e9]⟩ : fq_valueOf f_knot f_part f_other f_names f_value a0 (g 57) = ((1 : Int64), (g 57)) → _) ((by rw [fq_valueOf]; (try rw [if_neg c_1]); (try rw [if_neg c_2]); (try rw [if_neg c_3]); (try rw [if_neg h_4]); (try rw [if_pos h_7]); (try rw [if_neg c_8]); try rfl))), by rw [ht]; exact hP9, va_K.moved hW.alike hK9, hD9⟩, hS.F ht⟩) hS.2.2 dX12_valueOf_201
          · refine lv_lload hx hb dX12_valueOf_189 (lv_at hl 0 rfl) ?_
            refine lv_lconst (v := 0) hx hb dX12_valueOf_191 (by decide) ?_
            refine W.lcmp hx hb dX12_valueOf_192 ?_
            refine lv_if_eq (tgt := 200) hx hb dX12_valueOf_193 (by decide) (fun c_9 => ?_) (fun c_9 => ?_)
            · refine lv_lconst (v := 0) hx hb dX12_valueOf_200 (by decide) ?_
              refine W.widen (k := 0) (n := 0) (by omega) (by omega) ?_
              have hP9 := hP
              have hD9 := hD
              have hK9 := hK.sub (tys' := []) [] rfl
              exact W.lret (v := 0) hx hb hr (fun t ht hW => ⟨⟨0, (g 57), rfl, ((fun e9 => ⟨by rw [e9], by rw [e9]⟩ : fq_valueOf f_knot f_part f_other f_names f_value a0 (g 57) = ((0 : Int64), (g 57)) → _) ((by rw [fq_valueOf]; (try rw [if_neg c_1]); (try rw [if_neg c_2]); (try rw [if_neg c_3]); (try rw [if_neg h_4]); (try rw [if_pos h_7]); (try rw [if_pos c_8]); (try rw [if_pos c_9]); try rfl))), by rw [ht]; exact hP9, va_K.moved hW.alike hK9, hD9⟩, hS.F ht⟩) hS.2.2 dX12_valueOf_201
            · refine lv_lconst (v := 1) hx hb dX12_valueOf_196 (by decide) ?_
              refine lv_goto (tgt := 201) hx hb dX12_valueOf_197 (by decide) ?_
              refine W.widen (k := 0) (n := 0) (by omega) (by omega) ?_
              have hP9 := hP
              have hD9 := hD
              have hK9 := hK.sub (tys' := []) [] rfl
              exact W.lret (v := 1) hx hb hr (fun t ht hW => ⟨⟨1, (g 57), rfl, ((fun e9 => ⟨by rw [e9], by rw [e9]⟩ : fq_valueOf f_knot f_part f_other f_names f_value a0 (g 57) = ((1 : Int64), (g 57)) → _) ((by rw [fq_valueOf]; (try rw [if_neg c_1]); (try rw [if_neg c_2]); (try rw [if_neg c_3]); (try rw [if_neg h_4]); (try rw [if_pos h_7]); (try rw [if_pos c_8]); (try rw [if_neg c_9]); try rfl))), by rw [ht]; exact hP9, va_K.moved hW.alike hK9, hD9⟩, hS.F ht⟩) hS.2.2 dX12_valueOf_201
        by_cases h_10 : f_knot a0.toNatClampNeg = 5
        · refine lv_tableIn (off := 189) (tgt := 285) hx hb dX12_valueOf_96 (by rw [h_10]; decide) (by rw [h_10]; decide) (by rw [h_10]; decide) (by decide) ?_
          refine lv_aload_n hx hb dX12_valueOf_285 rfl (lv_at hl 2 rfl) ?_
          refine va_get (D := (dC, dI)) (ci := 12) (v := .ref (rf 41)) (C := RX12) (T := TX12) (N := 76) hx hb htw inlX12 hown hK hP 0 rfl rfl 41 (by decide) (htw _ (ck_9 _ (List.mem_of_getElem? (i := 21) rfl))) (fun _ h9 => h9) rfl dX12_valueOf_286 ?_
          refine lv_iload_n hx hb dX12_valueOf_289 rfl (lv_at hl 3 rfl) ?_
          refine va_iald hx hb hK hP 1 0 rfl rfl (xg_inr (N := 128) rfl (gq_valueOf_s6 (y0 := a0) hk0 hk6).1 (gq_valueOf_s6 (y0 := a0) hk0 hk6).2) dX12_valueOf_290 ?_
          refine lv_lload_n hx hb dX12_valueOf_291 rfl (lv_at hl 1 rfl) ?_
          refine lv_lload hx hb dX12_valueOf_292 (lv_at hl 0 rfl) ?_
          have hPc := hP.sub (ws' := []) [] rfl
          have hKc := hK.sub (tys' := []) [] rfl
          refine vp_callSi (W.runS (As := [.int (f_knot a0.toNatClampNeg), .long (f_value ((f_part a0.toNatClampNeg).toNatClampNeg)), .long (f_value ((f_other a0.toNatClampNeg).toNatClampNeg))]) (rest := []) ⟨hx, hb, hml, hown, htw⟩ (gq_compares l dC dI (f_knot a0.toNatClampNeg) (f_value ((f_part a0.toNatClampNeg).toNatClampNeg)) (f_value ((f_other a0.toNatClampNeg).toNatClampNeg))) (va_cwS 3 htw (xg_S (ck_41 _ (List.mem_of_getElem? (i := 16) rfl)) (ck_41 _ (List.mem_of_getElem? (i := 17) rfl)) (ck_1 _ (List.mem_of_getElem? (i := 5) rfl)) (ck_41 _ (List.mem_of_getElem? (i := 18) rfl))) rfl rfl rfl (by exact ⟨hdc_14.1, hdc_14.2, hdd_5⟩) ⟨Nat.le_of_ble_eq_true rfl, Nat.le_of_ble_eq_true rfl⟩) ⟨fun a U g mk q => by obtain ⟨q0, qP, qK⟩ := q; exact ⟨q0, qP, va_K.moved (u := U) (U := U.calling g mk a) (Vm.Alike.refl U.vm) qK⟩, fun U hU hW => ⟨rfl, by rw [hU]; exact hPc, va_K.moved hW.alike hKc⟩⟩ rfl rfl hl.1 rfl (lv_room (Nat.le_of_ble_eq_true rfl)) dX12_valueOf_294 ⟨Nat.le_of_ble_eq_true rfl, Nat.le_of_ble_eq_true rfl⟩) (fun r_11 hw => ?_)
          try dsimp only at hw
          obtain ⟨hw, hb_r_11⟩ := hw
          have hq_r_11 : r_11 = (fq_compares (f_knot a0.toNatClampNeg) (f_value ((f_part a0.toNatClampNeg).toNatClampNeg)) (f_value ((f_other a0.toNatClampNeg).toNatClampNeg))) := hw
          refine lv_if_eq (tgt := 304) hx hb dX12_valueOf_297 (by decide) (fun c_12 => ?_) (fun c_12 => ?_)
          · refine lv_lconst (v := 0) hx hb dX12_valueOf_304 (by decide) ?_
            refine W.widen (k := 0) (n := 0) (by omega) (by omega) ?_
            have hP9 := hP
            have hD9 := hD
            have hK9 := hK.sub (tys' := []) [] rfl
            exact W.lret (v := 0) hx hb hr (fun t ht hW => ⟨⟨0, (g 57), rfl, ((fun e9 => ⟨by rw [e9], by rw [e9]⟩ : fq_valueOf f_knot f_part f_other f_names f_value a0 (g 57) = ((0 : Int64), (g 57)) → _) ((by rw [fq_valueOf]; (try rw [if_neg c_1]); (try rw [if_neg c_2]); (try rw [if_neg c_3]); (try rw [if_neg h_4]); (try rw [if_neg h_7]); (try rw [if_pos h_10]); (try rw [← hq_r_11]); (try rw [xL_eq]); (try rw [if_pos c_12]); try rfl))), by rw [ht]; exact hP9, va_K.moved hW.alike hK9, hD9⟩, hS.F ht⟩) hS.2.2 dX12_valueOf_305
          · refine lv_lconst (v := 1) hx hb dX12_valueOf_300 (by decide) ?_
            refine lv_goto (tgt := 305) hx hb dX12_valueOf_301 (by decide) ?_
            refine W.widen (k := 0) (n := 0) (by omega) (by omega) ?_
            have hP9 := hP
            have hD9 := hD
            have hK9 := hK.sub (tys' := []) [] rfl
            exact W.lret (v := 1) hx hb hr (fun t ht hW => ⟨⟨1, (g 57), rfl, ((fun e9 => ⟨by rw [e9], by rw [e9]⟩ : fq_valueOf f_knot f_part f_other f_names f_value a0 (g 57) = ((1 : Int64), (g 57)) → _) ((by rw [fq_valueOf]; (try rw [if_neg c_1]); (try rw [if_neg c_2]); (try rw [if_neg c_3]); (try rw [if_neg h_4]); (try rw [if_neg h_7]); (try rw [if_pos h_10]); (try rw [← hq_r_11]); (try rw [xL_eq]); (try rw [if_neg c_12]); try rfl))), by rw [ht]; exact hP9, va_K.moved hW.alike hK9, hD9⟩, hS.F ht⟩) hS.2.2 dX12_valueOf_305
        by_cases h_13 : f_knot a0.toNatClampNeg = 6
        · refine lv_tableIn (off := 189) (tgt := 285) hx hb dX12_valueOf_96 (by rw [h_13]; decide) (by rw [h_13]; decide) (by rw [h_13]; decide) (by decide) ?_
          refine lv_aload_n hx hb dX12_valueOf_285 rfl (lv_at hl 2 rfl) ?_
          refine va_get (D := (dC, dI)) (ci := 12) (v := .ref (rf 41)) (C := RX12) (T := TX12) (N := 76) hx hb htw inlX12 hown hK hP 0 rfl rfl 41 (by decide) (htw _ (ck_9 _ (List.mem_of_getElem? (i := 21) rfl))) (fun _ h9 => h9) rfl dX12_valueOf_286 ?_
          refine lv_iload_n hx hb dX12_valueOf_289 rfl (lv_at hl 3 rfl) ?_
          refine va_iald hx hb hK hP 1 0 rfl rfl (xg_inr (N := 128) rfl (gq_valueOf_s7 (y0 := a0) hk0 hk6).1 (gq_valueOf_s7 (y0 := a0) hk0 hk6).2) dX12_valueOf_290 ?_
          refine lv_lload_n hx hb dX12_valueOf_291 rfl (lv_at hl 1 rfl) ?_
          refine lv_lload hx hb dX12_valueOf_292 (lv_at hl 0 rfl) ?_
          have hPc := hP.sub (ws' := []) [] rfl
          have hKc := hK.sub (tys' := []) [] rfl
          refine vp_callSi (W.runS (As := [.int (f_knot a0.toNatClampNeg), .long (f_value ((f_part a0.toNatClampNeg).toNatClampNeg)), .long (f_value ((f_other a0.toNatClampNeg).toNatClampNeg))]) (rest := []) ⟨hx, hb, hml, hown, htw⟩ (gq_compares l dC dI (f_knot a0.toNatClampNeg) (f_value ((f_part a0.toNatClampNeg).toNatClampNeg)) (f_value ((f_other a0.toNatClampNeg).toNatClampNeg))) (va_cwS 3 htw (xg_S (ck_41 _ (List.mem_of_getElem? (i := 16) rfl)) (ck_41 _ (List.mem_of_getElem? (i := 17) rfl)) (ck_1 _ (List.mem_of_getElem? (i := 5) rfl)) (ck_41 _ (List.mem_of_getElem? (i := 18) rfl))) rfl rfl rfl (by exact ⟨hdc_14.1, hdc_14.2, hdd_5⟩) ⟨Nat.le_of_ble_eq_true rfl, Nat.le_of_ble_eq_true rfl⟩) ⟨fun a U g mk q => by obtain ⟨q0, qP, qK⟩ := q; exact ⟨q0, qP, va_K.moved (u := U) (U := U.calling g mk a) (Vm.Alike.refl U.vm) qK⟩, fun U hU hW => ⟨rfl, by rw [hU]; exact hPc, va_K.moved hW.alike hKc⟩⟩ rfl rfl hl.1 rfl (lv_room (Nat.le_of_ble_eq_true rfl)) dX12_valueOf_294 ⟨Nat.le_of_ble_eq_true rfl, Nat.le_of_ble_eq_true rfl⟩) (fun r_14 hw => ?_)
          try dsimp only at hw
          obtain ⟨hw, hb_r_14⟩ := hw
          have hq_r_14 : r_14 = (fq_compares (f_knot a0.toNatClampNeg) (f_value ((f_part a0.toNatClampNeg).toNatClampNeg)) (f_value ((f_other a0.toNatClampNeg).toNatClampNeg))) := hw
          refine lv_if_eq (tgt := 304) hx hb dX12_valueOf_297 (by decide) (fun c_15 => ?_) (fun c_15 => ?_)
          · refine lv_lconst (v := 0) hx hb dX12_valueOf_304 (by decide) ?_
            refine W.widen (k := 0) (n := 0) (by omega) (by omega) ?_
            have hP9 := hP
            have hD9 := hD
            have hK9 := hK.sub (tys' := []) [] rfl
            exact W.lret (v := 0) hx hb hr (fun t ht hW => ⟨⟨0, (g 57), rfl, ((fun e9 => ⟨by rw [e9], by rw [e9]⟩ : fq_valueOf f_knot f_part f_other f_names f_value a0 (g 57) = ((0 : Int64), (g 57)) → _) ((by rw [fq_valueOf]; (try rw [if_neg c_1]); (try rw [if_neg c_2]); (try rw [if_neg c_3]); (try rw [if_neg h_4]); (try rw [if_neg h_7]); (try rw [if_neg h_10]); (try rw [if_pos h_13]); (try rw [← hq_r_14]); (try rw [xL_eq]); (try rw [if_pos c_15]); try rfl))), by rw [ht]; exact hP9, va_K.moved hW.alike hK9, hD9⟩, hS.F ht⟩) hS.2.2 dX12_valueOf_305
          · refine lv_lconst (v := 1) hx hb dX12_valueOf_300 (by decide) ?_
            refine lv_goto (tgt := 305) hx hb dX12_valueOf_301 (by decide) ?_
            refine W.widen (k := 0) (n := 0) (by omega) (by omega) ?_
            have hP9 := hP
            have hD9 := hD
            have hK9 := hK.sub (tys' := []) [] rfl
            exact W.lret (v := 1) hx hb hr (fun t ht hW => ⟨⟨1, (g 57), rfl, ((fun e9 => ⟨by rw [e9], by rw [e9]⟩ : fq_valueOf f_knot f_part f_other f_names f_value a0 (g 57) = ((1 : Int64), (g 57)) → _) ((by rw [fq_valueOf]; (try rw [if_neg c_1]); (try rw [if_neg c_2]); (try rw [if_neg c_3]); (try rw [if_neg h_4]); (try rw [if_neg h_7]); (try rw [if_neg h_10]); (try rw [if_pos h_13]); (try rw [← hq_r_14]); (try rw [xL_eq]); (try rw [if_neg c_15]); try rfl))), by rw [ht]; exact hP9, va_K.moved hW.alike hK9, hD9⟩, hS.F ht⟩) hS.2.2 dX12_valueOf_305
        by_cases h_16 : f_knot a0.toNatClampNeg = 7
        · refine lv_tableIn (off := 189) (tgt := 285) hx hb dX12_valueOf_96 (by rw [h_16]; decide) (by rw [h_16]; decide) (by rw [h_16]; decide) (by decide) ?_
          refine lv_aload_n hx hb dX12_valueOf_285 rfl (lv_at hl 2 rfl) ?_
          refine va_get (D := (dC, dI)) (ci := 12) (v := .ref (rf 41)) (C := RX12) (T := TX12) (N := 76) hx hb htw inlX12 hown hK hP 0 rfl rfl 41 (by decide) (htw _ (ck_9 _ (List.mem_of_getElem? (i := 21) rfl))) (fun _ h9 => h9) rfl dX12_valueOf_286 ?_
          refine lv_iload_n hx hb dX12_valueOf_289 rfl (lv_at hl 3 rfl) ?_
          refine va_iald hx hb hK hP 1 0 rfl rfl (xg_inr (N := 128) rfl (gq_valueOf_s8 (y0 := a0) hk0 hk6).1 (gq_valueOf_s8 (y0 := a0) hk0 hk6).2) dX12_valueOf_290 ?_
          refine lv_lload_n hx hb dX12_valueOf_291 rfl (lv_at hl 1 rfl) ?_
          refine lv_lload hx hb dX12_valueOf_292 (lv_at hl 0 rfl) ?_
          have hPc := hP.sub (ws' := []) [] rfl
          have hKc := hK.sub (tys' := []) [] rfl
          refine vp_callSi (W.runS (As := [.int (f_knot a0.toNatClampNeg), .long (f_value ((f_part a0.toNatClampNeg).toNatClampNeg)), .long (f_value ((f_other a0.toNatClampNeg).toNatClampNeg))]) (rest := []) ⟨hx, hb, hml, hown, htw⟩ (gq_compares l dC dI (f_knot a0.toNatClampNeg) (f_value ((f_part a0.toNatClampNeg).toNatClampNeg)) (f_value ((f_other a0.toNatClampNeg).toNatClampNeg))) (va_cwS 3 htw (xg_S (ck_41 _ (List.mem_of_getElem? (i := 16) rfl)) (ck_41 _ (List.mem_of_getElem? (i := 17) rfl)) (ck_1 _ (List.mem_of_getElem? (i := 5) rfl)) (ck_41 _ (List.mem_of_getElem? (i := 18) rfl))) rfl rfl rfl (by exact ⟨hdc_14.1, hdc_14.2, hdd_5⟩) ⟨Nat.le_of_ble_eq_true rfl, Nat.le_of_ble_eq_true rfl⟩) ⟨fun a U g mk q => by obtain ⟨q0, qP, qK⟩ := q; exact ⟨q0, qP, va_K.moved (u := U) (U := U.calling g mk a) (Vm.Alike.refl U.vm) qK⟩, fun U hU hW => ⟨rfl, by rw [hU]; exact hPc, va_K.moved hW.alike hKc⟩⟩ rfl rfl hl.1 rfl (lv_room (Nat.le_of_ble_eq_true rfl)) dX12_valueOf_294 ⟨Nat.le_of_ble_eq_true rfl, Nat.le_of_ble_eq_true rfl⟩) (fun r_17 hw => ?_)
          try dsimp only at hw
          obtain ⟨hw, hb_r_17⟩ := hw
          have hq_r_17 : r_17 = (fq_compares (f_knot a0.toNatClampNeg) (f_value ((f_part a0.toNatClampNeg).toNatClampNeg)) (f_value ((f_other a0.toNatClampNeg).toNatClampNeg))) := hw
          refine lv_if_eq (tgt := 304) hx hb dX12_valueOf_297 (by decide) (fun c_18 => ?_) (fun c_18 => ?_)
          · refine lv_lconst (v := 0) hx hb dX12_valueOf_304 (by decide) ?_
            refine W.widen (k := 0) (n := 0) (by omega) (by omega) ?_
            have hP9 := hP
            have hD9 := hD
            have hK9 := hK.sub (tys' := []) [] rfl
            exact W.lret (v := 0) hx hb hr (fun t ht hW => ⟨⟨0, (g 57), rfl, ((fun e9 => ⟨by rw [e9], by rw [e9]⟩ : fq_valueOf f_knot f_part f_other f_names f_value a0 (g 57) = ((0 : Int64), (g 57)) → _) ((by rw [fq_valueOf]; (try rw [if_neg c_1]); (try rw [if_neg c_2]); (try rw [if_neg c_3]); (try rw [if_neg h_4]); (try rw [if_neg h_7]); (try rw [if_neg h_10]); (try rw [if_neg h_13]); (try rw [if_pos h_16]); (try rw [← hq_r_17]); (try rw [xL_eq]); (try rw [if_pos c_18]); try rfl))), by rw [ht]; exact hP9, va_K.moved hW.alike hK9, hD9⟩, hS.F ht⟩) hS.2.2 dX12_valueOf_305
          · refine lv_lconst (v := 1) hx hb dX12_valueOf_300 (by decide) ?_
            refine lv_goto (tgt := 305) hx hb dX12_valueOf_301 (by decide) ?_
            refine W.widen (k := 0) (n := 0) (by omega) (by omega) ?_
            have hP9 := hP
            have hD9 := hD
            have hK9 := hK.sub (tys' := []) [] rfl
            exact W.lret (v := 1) hx hb hr (fun t ht hW => ⟨⟨1, (g 57), rfl, ((fun e9 => ⟨by rw [e9], by rw [e9]⟩ : fq_valueOf f_knot f_part f_other f_names f_value a0 (g 57) = ((1 : Int64), (g 57)) → _) ((by rw [fq_valueOf]; (try rw [if_neg c_1]); (try rw [if_neg c_2]); (try rw [if_neg c_3]); (try rw [if_neg h_4]); (try rw [if_neg h_7]); (try rw [if_neg h_10]); (try rw [if_neg h_13]); (try rw [if_pos h_16]); (try rw [← hq_r_17]); (try rw [xL_eq]); (try rw [if_neg c_18]); try rfl))), by rw [ht]; exact hP9, va_K.moved hW.alike hK9, hD9⟩, hS.F ht⟩) hS.2.2 dX12_valueOf_305
        by_cases h_19 : f_knot a0.toNatClampNeg = 8
        · refine lv_tableIn (off := 189) (tgt := 285) hx hb dX12_valueOf_96 (by rw [h_19]; decide) (by rw [h_19]; decide) (by rw [h_19]; decide) (by decide) ?_
          refine lv_aload_n hx hb dX12_valueOf_285 rfl (lv_at hl 2 rfl) ?_
          refine va_get (D := (dC, dI)) (ci := 12) (v := .ref (rf 41)) (C := RX12) (T := TX12) (N := 76) hx hb htw inlX12 hown hK hP 0 rfl rfl 41 (by decide) (htw _ (ck_9 _ (List.mem_of_getElem? (i := 21) rfl))) (fun _ h9 => h9) rfl dX12_valueOf_286 ?_
          refine lv_iload_n hx hb dX12_valueOf_289 rfl (lv_at hl 3 rfl) ?_
          refine va_iald hx hb hK hP 1 0 rfl rfl (xg_inr (N := 128) rfl (gq_valueOf_s9 (y0 := a0) hk0 hk6).1 (gq_valueOf_s9 (y0 := a0) hk0 hk6).2) dX12_valueOf_290 ?_
          refine lv_lload_n hx hb dX12_valueOf_291 rfl (lv_at hl 1 rfl) ?_
          refine lv_lload hx hb dX12_valueOf_292 (lv_at hl 0 rfl) ?_
          have hPc := hP.sub (ws' := []) [] rfl
          have hKc := hK.sub (tys' := []) [] rfl
          refine vp_callSi (W.runS (As := [.int (f_knot a0.toNatClampNeg), .long (f_value ((f_part a0.toNatClampNeg).toNatClampNeg)), .long (f_value ((f_other a0.toNatClampNeg).toNatClampNeg))]) (rest := []) ⟨hx, hb, hml, hown, htw⟩ (gq_compares l dC dI (f_knot a0.toNatClampNeg) (f_value ((f_part a0.toNatClampNeg).toNatClampNeg)) (f_value ((f_other a0.toNatClampNeg).toNatClampNeg))) (va_cwS 3 htw (xg_S (ck_41 _ (List.mem_of_getElem? (i := 16) rfl)) (ck_41 _ (List.mem_of_getElem? (i := 17) rfl)) (ck_1 _ (List.mem_of_getElem? (i := 5) rfl)) (ck_41 _ (List.mem_of_getElem? (i := 18) rfl))) rfl rfl rfl (by exact ⟨hdc_14.1, hdc_14.2, hdd_5⟩) ⟨Nat.le_of_ble_eq_true rfl, Nat.le_of_ble_eq_true rfl⟩) ⟨fun a U g mk q => by obtain ⟨q0, qP, qK⟩ := q; exact ⟨q0, qP, va_K.moved (u := U) (U := U.calling g mk a) (Vm.Alike.refl U.vm) qK⟩, fun U hU hW => ⟨rfl, by rw [hU]; exact hPc, va_K.moved hW.alike hKc⟩⟩ rfl rfl hl.1 rfl (lv_room (Nat.le_of_ble_eq_true rfl)) dX12_valueOf_294 ⟨Nat.le_of_ble_eq_true rfl, Nat.le_of_ble_eq_true rfl⟩) (fun r_20 hw => ?_)
          try dsimp only at hw
          obtain ⟨hw, hb_r_20⟩ := hw
          have hq_r_20 : r_20 = (fq_compares (f_knot a0.toNatClampNeg) (f_value ((f_part a0.toNatClampNeg).toNatClampNeg)) (f_value ((f_other a0.toNatClampNeg).toNatClampNeg))) := hw
          refine lv_if_eq (tgt := 304) hx hb dX12_valueOf_297 (by decide) (fun c_21 => ?_) (fun c_21 => ?_)
          · refine lv_lconst (v := 0) hx hb dX12_valueOf_304 (by decide) ?_
            refine W.widen (k := 0) (n := 0) (by omega) (by omega) ?_
            have hP9 := hP
            have hD9 := hD
            have hK9 := hK.sub (tys' := []) [] rfl
            exact W.lret (v := 0) hx hb hr (fun t ht hW => ⟨⟨0, (g 57), rfl, ((fun e9 => ⟨by rw [e9], by rw [e9]⟩ : fq_valueOf f_knot f_part f_other f_names f_value a0 (g 57) = ((0 : Int64), (g 57)) → _) ((by rw [fq_valueOf]; (try rw [if_neg c_1]); (try rw [if_neg c_2]); (try rw [if_neg c_3]); (try rw [if_neg h_4]); (try rw [if_neg h_7]); (try rw [if_neg h_10]); (try rw [if_neg h_13]); (try rw [if_neg h_16]); (try rw [if_pos h_19]); (try rw [← hq_r_20]); (try rw [xL_eq]); (try rw [if_pos c_21]); try rfl))), by rw [ht]; exact hP9, va_K.moved hW.alike hK9, hD9⟩, hS.F ht⟩) hS.2.2 dX12_valueOf_305
          · refine lv_lconst (v := 1) hx hb dX12_valueOf_300 (by decide) ?_
            refine lv_goto (tgt := 305) hx hb dX12_valueOf_301 (by decide) ?_
            refine W.widen (k := 0) (n := 0) (by omega) (by omega) ?_
            have hP9 := hP
            have hD9 := hD
            have hK9 := hK.sub (tys' := []) [] rfl
            exact W.lret (v := 1) hx hb hr (fun t ht hW => ⟨⟨1, (g 57), rfl, ((fun e9 => ⟨by rw [e9], by rw [e9]⟩ : fq_valueOf f_knot f_part f_other f_names f_value a0 (g 57) = ((1 : Int64), (g 57)) → _) ((by rw [fq_valueOf]; (try rw [if_neg c_1]); (try rw [if_neg c_2]); (try rw [if_neg c_3]); (try rw [if_neg h_4]); (try rw [if_neg h_7]); (try rw [if_neg h_10]); (try rw [if_neg h_13]); (try rw [if_neg h_16]); (try rw [if_pos h_19]); (try rw [← hq_r_20]); (try rw [xL_eq]); (try rw [if_neg c_21]); try rfl))), by rw [ht]; exact hP9, va_K.moved hW.alike hK9, hD9⟩, hS.F ht⟩) hS.2.2 dX12_valueOf_305
        by_cases h_22 : f_knot a0.toNatClampNeg = 9
        · refine lv_tableIn (off := 189) (tgt := 285) hx hb dX12_valueOf_96 (by rw [h_22]; decide) (by rw [h_22]; decide) (by rw [h_22]; decide) (by decide) ?_
          refine lv_aload_n hx hb dX12_valueOf_285 rfl (lv_at hl 2 rfl) ?_
          refine va_get (D := (dC, dI)) (ci := 12) (v := .ref (rf 41)) (C := RX12) (T := TX12) (N := 76) hx hb htw inlX12 hown hK hP 0 rfl rfl 41 (by decide) (htw _ (ck_9 _ (List.mem_of_getElem? (i := 21) rfl))) (fun _ h9 => h9) rfl dX12_valueOf_286 ?_
          refine lv_iload_n hx hb dX12_valueOf_289 rfl (lv_at hl 3 rfl) ?_
          refine va_iald hx hb hK hP 1 0 rfl rfl (xg_inr (N := 128) rfl (gq_valueOf_s10 (y0 := a0) hk0 hk6).1 (gq_valueOf_s10 (y0 := a0) hk0 hk6).2) dX12_valueOf_290 ?_
          refine lv_lload_n hx hb dX12_valueOf_291 rfl (lv_at hl 1 rfl) ?_
          refine lv_lload hx hb dX12_valueOf_292 (lv_at hl 0 rfl) ?_
          have hPc := hP.sub (ws' := []) [] rfl
          have hKc := hK.sub (tys' := []) [] rfl
          refine vp_callSi (W.runS (As := [.int (f_knot a0.toNatClampNeg), .long (f_value ((f_part a0.toNatClampNeg).toNatClampNeg)), .long (f_value ((f_other a0.toNatClampNeg).toNatClampNeg))]) (rest := []) ⟨hx, hb, hml, hown, htw⟩ (gq_compares l dC dI (f_knot a0.toNatClampNeg) (f_value ((f_part a0.toNatClampNeg).toNatClampNeg)) (f_value ((f_other a0.toNatClampNeg).toNatClampNeg))) (va_cwS 3 htw (xg_S (ck_41 _ (List.mem_of_getElem? (i := 16) rfl)) (ck_41 _ (List.mem_of_getElem? (i := 17) rfl)) (ck_1 _ (List.mem_of_getElem? (i := 5) rfl)) (ck_41 _ (List.mem_of_getElem? (i := 18) rfl))) rfl rfl rfl (by exact ⟨hdc_14.1, hdc_14.2, hdd_5⟩) ⟨Nat.le_of_ble_eq_true rfl, Nat.le_of_ble_eq_true rfl⟩) ⟨fun a U g mk q => by obtain ⟨q0, qP, qK⟩ := q; exact ⟨q0, qP, va_K.moved (u := U) (U := U.calling g mk a) (Vm.Alike.refl U.vm) qK⟩, fun U hU hW => ⟨rfl, by rw [hU]; exact hPc, va_K.moved hW.alike hKc⟩⟩ rfl rfl hl.1 rfl (lv_room (Nat.le_of_ble_eq_true rfl)) dX12_valueOf_294 ⟨Nat.le_of_ble_eq_true rfl, Nat.le_of_ble_eq_true rfl⟩) (fun r_23 hw => ?_)
          try dsimp only at hw
          obtain ⟨hw, hb_r_23⟩ := hw
          have hq_r_23 : r_23 = (fq_compares (f_knot a0.toNatClampNeg) (f_value ((f_part a0.toNatClampNeg).toNatClampNeg)) (f_value ((f_other a0.toNatClampNeg).toNatClampNeg))) := hw
          refine lv_if_eq (tgt := 304) hx hb dX12_valueOf_297 (by decide) (fun c_24 => ?_) (fun c_24 => ?_)
          · refine lv_lconst (v := 0) hx hb dX12_valueOf_304 (by decide) ?_
            refine W.widen (k := 0) (n := 0) (by omega) (by omega) ?_
            have hP9 := hP
            have hD9 := hD
            have hK9 := hK.sub (tys' := []) [] rfl
            exact W.lret (v := 0) hx hb hr (fun t ht hW => ⟨⟨0, (g 57), rfl, ((fun e9 => ⟨by rw [e9], by rw [e9]⟩ : fq_valueOf f_knot f_part f_other f_names f_value a0 (g 57) = ((0 : Int64), (g 57)) → _) ((by rw [fq_valueOf]; (try rw [if_neg c_1]); (try rw [if_neg c_2]); (try rw [if_neg c_3]); (try rw [if_neg h_4]); (try rw [if_neg h_7]); (try rw [if_neg h_10]); (try rw [if_neg h_13]); (try rw [if_neg h_16]); (try rw [if_neg h_19]); (try rw [if_pos h_22]); (try rw [← hq_r_23]); (try rw [xL_eq]); (try rw [if_pos c_24]); try rfl))), by rw [ht]; exact hP9, va_K.moved hW.alike hK9, hD9⟩, hS.F ht⟩) hS.2.2 dX12_valueOf_305
          · refine lv_lconst (v := 1) hx hb dX12_valueOf_300 (by decide) ?_
            refine lv_goto (tgt := 305) hx hb dX12_valueOf_301 (by decide) ?_
            refine W.widen (k := 0) (n := 0) (by omega) (by omega) ?_
            have hP9 := hP
            have hD9 := hD
            have hK9 := hK.sub (tys' := []) [] rfl
            exact W.lret (v := 1) hx hb hr (fun t ht hW => ⟨⟨1, (g 57), rfl, ((fun e9 => ⟨by rw [e9], by rw [e9]⟩ : fq_valueOf f_knot f_part f_other f_names f_value a0 (g 57) = ((1 : Int64), (g 57)) → _) ((by rw [fq_valueOf]; (try rw [if_neg c_1]); (try rw [if_neg c_2]); (try rw [if_neg c_3]); (try rw [if_neg h_4]); (try rw [if_neg h_7]); (try rw [if_neg h_10]); (try rw [if_neg h_13]); (try rw [if_neg h_16]); (try rw [if_neg h_19]); (try rw [if_pos h_22]); (try rw [← hq_r_23]); (try rw [xL_eq]); (try rw [if_neg c_24]); try rfl))), by rw [ht]; exact hP9, va_K.moved hW.alike hK9, hD9⟩, hS.F ht⟩) hS.2.2 dX12_valueOf_305
        by_cases h_25 : f_knot a0.toNatClampNeg = 10
        · refine lv_tableIn (off := 189) (tgt := 285) hx hb dX12_valueOf_96 (by rw [h_25]; decide) (by rw [h_25]; decide) (by rw [h_25]; decide) (by decide) ?_
          refine lv_aload_n hx hb dX12_valueOf_285 rfl (lv_at hl 2 rfl) ?_
          refine va_get (D := (dC, dI)) (ci := 12) (v := .ref (rf 41)) (C := RX12) (T := TX12) (N := 76) hx hb htw inlX12 hown hK hP 0 rfl rfl 41 (by decide) (htw _ (ck_9 _ (List.mem_of_getElem? (i := 21) rfl))) (fun _ h9 => h9) rfl dX12_valueOf_286 ?_
          refine lv_iload_n hx hb dX12_valueOf_289 rfl (lv_at hl 3 rfl) ?_
          refine va_iald hx hb hK hP 1 0 rfl rfl (xg_inr (N := 128) rfl (gq_valueOf_s11 (y0 := a0) hk0 hk6).1 (gq_valueOf_s11 (y0 := a0) hk0 hk6).2) dX12_valueOf_290 ?_
          refine lv_lload_n hx hb dX12_valueOf_291 rfl (lv_at hl 1 rfl) ?_
          refine lv_lload hx hb dX12_valueOf_292 (lv_at hl 0 rfl) ?_
          have hPc := hP.sub (ws' := []) [] rfl
          have hKc := hK.sub (tys' := []) [] rfl
          refine vp_callSi (W.runS (As := [.int (f_knot a0.toNatClampNeg), .long (f_value ((f_part a0.toNatClampNeg).toNatClampNeg)), .long (f_value ((f_other a0.toNatClampNeg).toNatClampNeg))]) (rest := []) ⟨hx, hb, hml, hown, htw⟩ (gq_compares l dC dI (f_knot a0.toNatClampNeg) (f_value ((f_part a0.toNatClampNeg).toNatClampNeg)) (f_value ((f_other a0.toNatClampNeg).toNatClampNeg))) (va_cwS 3 htw (xg_S (ck_41 _ (List.mem_of_getElem? (i := 16) rfl)) (ck_41 _ (List.mem_of_getElem? (i := 17) rfl)) (ck_1 _ (List.mem_of_getElem? (i := 5) rfl)) (ck_41 _ (List.mem_of_getElem? (i := 18) rfl))) rfl rfl rfl (by exact ⟨hdc_14.1, hdc_14.2, hdd_5⟩) ⟨Nat.le_of_ble_eq_true rfl, Nat.le_of_ble_eq_true rfl⟩) ⟨fun a U g mk q => by obtain ⟨q0, qP, qK⟩ := q; exact ⟨q0, qP, va_K.moved (u := U) (U := U.calling g mk a) (Vm.Alike.refl U.vm) qK⟩, fun U hU hW => ⟨rfl, by rw [hU]; exact hPc, va_K.moved hW.alike hKc⟩⟩ rfl rfl hl.1 rfl (lv_room (Nat.le_of_ble_eq_true rfl)) dX12_valueOf_294 ⟨Nat.le_of_ble_eq_true rfl, Nat.le_of_ble_eq_true rfl⟩) (fun r_26 hw => ?_)
          try dsimp only at hw
          obtain ⟨hw, hb_r_26⟩ := hw
          have hq_r_26 : r_26 = (fq_compares (f_knot a0.toNatClampNeg) (f_value ((f_part a0.toNatClampNeg).toNatClampNeg)) (f_value ((f_other a0.toNatClampNeg).toNatClampNeg))) := hw
          refine lv_if_eq (tgt := 304) hx hb dX12_valueOf_297 (by decide) (fun c_27 => ?_) (fun c_27 => ?_)
          · refine lv_lconst (v := 0) hx hb dX12_valueOf_304 (by decide) ?_
            refine W.widen (k := 0) (n := 0) (by omega) (by omega) ?_
            have hP9 := hP
            have hD9 := hD
            have hK9 := hK.sub (tys' := []) [] rfl
            exact W.lret (v := 0) hx hb hr (fun t ht hW => ⟨⟨0, (g 57), rfl, ((fun e9 => ⟨by rw [e9], by rw [e9]⟩ : fq_valueOf f_knot f_part f_other f_names f_value a0 (g 57) = ((0 : Int64), (g 57)) → _) ((by rw [fq_valueOf]; (try rw [if_neg c_1]); (try rw [if_neg c_2]); (try rw [if_neg c_3]); (try rw [if_neg h_4]); (try rw [if_neg h_7]); (try rw [if_neg h_10]); (try rw [if_neg h_13]); (try rw [if_neg h_16]); (try rw [if_neg h_19]); (try rw [if_neg h_22]); (try rw [if_pos h_25]); (try rw [← hq_r_26]); (try rw [xL_eq]); (try rw [if_pos c_27]); try rfl))), by rw [ht]; exact hP9, va_K.moved hW.alike hK9, hD9⟩, hS.F ht⟩) hS.2.2 dX12_valueOf_305
          · refine lv_lconst (v := 1) hx hb dX12_valueOf_300 (by decide) ?_
            refine lv_goto (tgt := 305) hx hb dX12_valueOf_301 (by decide) ?_
            refine W.widen (k := 0) (n := 0) (by omega) (by omega) ?_
            have hP9 := hP
            have hD9 := hD
            have hK9 := hK.sub (tys' := []) [] rfl
            exact W.lret (v := 1) hx hb hr (fun t ht hW => ⟨⟨1, (g 57), rfl, ((fun e9 => ⟨by rw [e9], by rw [e9]⟩ : fq_valueOf f_knot f_part f_other f_names f_value a0 (g 57) = ((1 : Int64), (g 57)) → _) ((by rw [fq_valueOf]; (try rw [if_neg c_1]); (try rw [if_neg c_2]); (try rw [if_neg c_3]); (try rw [if_neg h_4]); (try rw [if_neg h_7]); (try rw [if_neg h_10]); (try rw [if_neg h_13]); (try rw [if_neg h_16]); (try rw [if_neg h_19]); (try rw [if_neg h_22]); (try rw [if_pos h_25]); (try rw [← hq_r_26]); (try rw [xL_eq]); (try rw [if_neg c_27]); try rfl))), by rw [ht]; exact hP9, va_K.moved hW.alike hK9, hD9⟩, hS.F ht⟩) hS.2.2 dX12_valueOf_305
        by_cases h_28 : f_knot a0.toNatClampNeg = 11
        · refine lv_tableIn (off := 106) (tgt := 202) hx hb dX12_valueOf_96 (by rw [h_28]; decide) (by rw [h_28]; decide) (by rw [h_28]; decide) (by decide) ?_
          refine lv_aload_n hx hb dX12_valueOf_202 rfl (lv_at hl 2 rfl) ?_
          refine lv_lload_n hx hb dX12_valueOf_203 rfl (lv_at hl 1 rfl) ?_
          refine lv_lload hx hb dX12_valueOf_204 (lv_at hl 0 rfl) ?_
          refine lv_ladd hx hb dX12_valueOf_206 ?_
          obtain ⟨hPc, hDc, hFc, hCc⟩ := zsub3 (ws' := [(mq, .inr (12, mF g gl rf))]) hP hD hS hA [0] (by decide) rfl
          have hKc := hK.sub (tys' := []) [] rfl
          refine va_calll (va_runV (As := [.long ((f_value ((f_part a0.toNatClampNeg).toNatClampNeg)) + (f_value ((f_other a0.toNatClampNeg).toNatClampNeg)))]) (rest := []) ⟨hx, hb, hml, hown, htw⟩ (gq_bounded l dC dI mq g gl rf ((f_value ((f_part a0.toNatClampNeg).toNatClampNeg)) + (f_value ((f_other a0.toNatClampNeg).toNatClampNeg))) H.size) (cwV 1 htw (xg_V (ck_41 _ (List.mem_of_getElem? (i := 7) rfl)) (ck_41 _ (List.mem_of_getElem? (i := 8) rfl)) (ck_41 _ (List.mem_of_getElem? (i := 9) rfl)) (ck_1 _ (List.mem_of_getElem? (i := 5) rfl)) (ck_41 _ (List.mem_of_getElem? (i := 10) rfl))) rfl rfl rfl (by exact ⟨rfl, hdc_14.1, hdc_14.2, hdd_0⟩) ⟨Nat.le_of_ble_eq_true rfl, Nat.le_of_ble_eq_true rfl⟩) ⟨fun a U g mk q => by obtain ⟨q0, q1, qP, qK, qD⟩ := q; exact ⟨q0, q1, qP, va_K.moved (u := U) (U := U.calling g mk a) (Vm.Alike.refl U.vm) qK, qD⟩, va_recv hKc hPc (ci := 12) (q0 := 0) rfl rfl, fun U hU hW => ⟨rfl, by rw [hU], by rw [hU]; exact hPc, va_K.moved hW.alike hKc, hDc.weaken (fun _ _ _ _ => trivial)⟩⟩ rfl rfl hl.1 rfl (lv_room (Nat.le_of_ble_eq_true rfl)) dX12_valueOf_207 ⟨Nat.le_of_ble_eq_true rfl, Nat.le_of_ble_eq_true rfl⟩) hS (fun q _ h => hFc q h) hFc (fun r_29 u_30 t H1 locs ht hvm hw hB hz1 hk1 hS => ?_)
          try dsimp only at hw
          obtain ⟨hP1, hK1, hD1⟩ := hB
          rw [ht] at hP1
          have hK1 := va_K.moved hvm.symm hK1
          have hK1 : va_K (dC, dI) vwCl [] s := hK1
          obtain ⟨hP, hD⟩ := va_join (wr := [(eA0 (rf 41) (ck 41) 128 f_knot), (eA0 (rf 42) (ck 42) 128 f_part), (eA0 (rf 43) (ck 43) 128 f_other), (eA1 (rf 55) (ck 55) 6 f_names), (eA1 (rf 56) (ck 56) 64 f_value)]) (w1 := [(mq, .inr (12, mF (upd g 57 u_30) gl rf))]) hP hD [0] [1, 2, 3, 4, 5] hCc rfl (by decide) (by decide) hk1 hFc hP1 hD1
          generalize H1 = H at hP hS ⊢
          obtain ⟨hP, hD⟩ := zre [(eA0 (rf 41) (ck 41) 128 f_knot), (eA0 (rf 42) (ck 42) 128 f_part), (eA0 (rf 43) (ck 43) 128 f_other), (eA1 (rf 55) (ck 55) 6 f_names), (eA1 (rf 56) (ck 56) 64 f_value), (mq, .inr (12, mF (upd g 57 u_30) gl rf))] hP hD rfl
          refine W.widen (k := 0) (n := 0) (by omega) (by omega) ?_
          obtain ⟨X_32, hX_32⟩ : ∃ X9 : Int64 × (Int32), X9 = (fq_bounded ((f_value ((f_part a0.toNatClampNeg).toNatClampNeg)) + (f_value ((f_other a0.toNatClampNeg).toNatClampNeg))) (g 57)) := ⟨_, rfl⟩
          have hq_r_29 : r_29 = X_32.1 := by rw [hX_32]; exact hw.1
          have hq_u_30 : u_30 = X_32.2 := by rw [hX_32]; exact hw.2
          refine W.widen (k := 0) (n := 0) (by omega) (by omega) ?_
          obtain ⟨hP9, hD9⟩ := zsub2 (ws' := [(mq, .inr (12, mF (upd g 57 u_30) gl rf)), (eA0 (rf 41) (ck 41) 128 f_knot), (eA0 (rf 42) (ck 42) 128 f_part), (eA0 (rf 43) (ck 43) 128 f_other), (eA1 (rf 55) (ck 55) 6 f_names), (eA1 (rf 56) (ck 56) 64 f_value)]) hP hD [5, 0, 1, 2, 3, 4] (by decide) rfl
          have hK9 := hK.sub (tys' := []) [] rfl
          exact W.lret (v := r_29) hx hb hr (fun t ht hW => ⟨⟨r_29, u_30, rfl, ((fun e9 => ⟨by rw [e9], by rw [e9]⟩ : fq_valueOf f_knot f_part f_other f_names f_value a0 (g 57) = (r_29, u_30) → _) ((by rw [fq_valueOf]; (try rw [if_neg c_1]); (try rw [if_neg c_2]); (try rw [if_neg c_3]); (try rw [if_neg h_4]); (try rw [if_neg h_7]); (try rw [if_neg h_10]); (try rw [if_neg h_13]); (try rw [if_neg h_16]); (try rw [if_neg h_19]); (try rw [if_neg h_22]); (try rw [if_neg h_25]); (try rw [if_pos h_28]); (try rw [← hX_32]); (try rw [xL_eq]); (try rw [← hq_r_29]); (try rw [← hq_u_30]); try rfl))), by rw [ht]; exact hP9, va_K.moved hW.alike hK9, hD9⟩, hS.F ht⟩) hS.2.2 dX12_valueOf_210
        by_cases h_33 : f_knot a0.toNatClampNeg = 12
        · refine lv_tableIn (off := 115) (tgt := 211) hx hb dX12_valueOf_96 (by rw [h_33]; decide) (by rw [h_33]; decide) (by rw [h_33]; decide) (by decide) ?_
          refine lv_aload_n hx hb dX12_valueOf_211 rfl (lv_at hl 2 rfl) ?_
          refine lv_lload_n hx hb dX12_valueOf_212 rfl (lv_at hl 1 rfl) ?_
          refine lv_lload hx hb dX12_valueOf_213 (lv_at hl 0 rfl) ?_
          refine lv_lsub hx hb dX12_valueOf_215 ?_
          obtain ⟨hPc, hDc, hFc, hCc⟩ := zsub3 (ws' := [(mq, .inr (12, mF g gl rf))]) hP hD hS hA [0] (by decide) rfl
          have hKc := hK.sub (tys' := []) [] rfl
          refine va_calll (va_runV (As := [.long ((f_value ((f_part a0.toNatClampNeg).toNatClampNeg)) - (f_value ((f_other a0.toNatClampNeg).toNatClampNeg)))]) (rest := []) ⟨hx, hb, hml, hown, htw⟩ (gq_bounded l dC dI mq g gl rf ((f_value ((f_part a0.toNatClampNeg).toNatClampNeg)) - (f_value ((f_other a0.toNatClampNeg).toNatClampNeg))) H.size) (cwV 1 htw (xg_V (ck_41 _ (List.mem_of_getElem? (i := 7) rfl)) (ck_41 _ (List.mem_of_getElem? (i := 8) rfl)) (ck_41 _ (List.mem_of_getElem? (i := 9) rfl)) (ck_1 _ (List.mem_of_getElem? (i := 5) rfl)) (ck_41 _ (List.mem_of_getElem? (i := 10) rfl))) rfl rfl rfl (by exact ⟨rfl, hdc_14.1, hdc_14.2, hdd_0⟩) ⟨Nat.le_of_ble_eq_true rfl, Nat.le_of_ble_eq_true rfl⟩) ⟨fun a U g mk q => by obtain ⟨q0, q1, qP, qK, qD⟩ := q; exact ⟨q0, q1, qP, va_K.moved (u := U) (U := U.calling g mk a) (Vm.Alike.refl U.vm) qK, qD⟩, va_recv hKc hPc (ci := 12) (q0 := 0) rfl rfl, fun U hU hW => ⟨rfl, by rw [hU], by rw [hU]; exact hPc, va_K.moved hW.alike hKc, hDc.weaken (fun _ _ _ _ => trivial)⟩⟩ rfl rfl hl.1 rfl (lv_room (Nat.le_of_ble_eq_true rfl)) dX12_valueOf_216 ⟨Nat.le_of_ble_eq_true rfl, Nat.le_of_ble_eq_true rfl⟩) hS (fun q _ h => hFc q h) hFc (fun r_34 u_35 t H1 locs ht hvm hw hB hz1 hk1 hS => ?_)
          try dsimp only at hw
          obtain ⟨hP1, hK1, hD1⟩ := hB
          rw [ht] at hP1
          have hK1 := va_K.moved hvm.symm hK1
          have hK1 : va_K (dC, dI) vwCl [] s := hK1
          obtain ⟨hP, hD⟩ := va_join (wr := [(eA0 (rf 41) (ck 41) 128 f_knot), (eA0 (rf 42) (ck 42) 128 f_part), (eA0 (rf 43) (ck 43) 128 f_other), (eA1 (rf 55) (ck 55) 6 f_names), (eA1 (rf 56) (ck 56) 64 f_value)]) (w1 := [(mq, .inr (12, mF (upd g 57 u_35) gl rf))]) hP hD [0] [1, 2, 3, 4, 5] hCc rfl (by decide) (by decide) hk1 hFc hP1 hD1
          generalize H1 = H at hP hS ⊢
          obtain ⟨hP, hD⟩ := zre [(eA0 (rf 41) (ck 41) 128 f_knot), (eA0 (rf 42) (ck 42) 128 f_part), (eA0 (rf 43) (ck 43) 128 f_other), (eA1 (rf 55) (ck 55) 6 f_names), (eA1 (rf 56) (ck 56) 64 f_value), (mq, .inr (12, mF (upd g 57 u_35) gl rf))] hP hD rfl
          refine W.widen (k := 0) (n := 0) (by omega) (by omega) ?_
          obtain ⟨X_37, hX_37⟩ : ∃ X9 : Int64 × (Int32), X9 = (fq_bounded ((f_value ((f_part a0.toNatClampNeg).toNatClampNeg)) - (f_value ((f_other a0.toNatClampNeg).toNatClampNeg))) (g 57)) := ⟨_, rfl⟩
          have hq_r_34 : r_34 = X_37.1 := by rw [hX_37]; exact hw.1
          have hq_u_35 : u_35 = X_37.2 := by rw [hX_37]; exact hw.2
          refine W.widen (k := 0) (n := 0) (by omega) (by omega) ?_
          obtain ⟨hP9, hD9⟩ := zsub2 (ws' := [(mq, .inr (12, mF (upd g 57 u_35) gl rf)), (eA0 (rf 41) (ck 41) 128 f_knot), (eA0 (rf 42) (ck 42) 128 f_part), (eA0 (rf 43) (ck 43) 128 f_other), (eA1 (rf 55) (ck 55) 6 f_names), (eA1 (rf 56) (ck 56) 64 f_value)]) hP hD [5, 0, 1, 2, 3, 4] (by decide) rfl
          have hK9 := hK.sub (tys' := []) [] rfl
          exact W.lret (v := r_34) hx hb hr (fun t ht hW => ⟨⟨r_34, u_35, rfl, ((fun e9 => ⟨by rw [e9], by rw [e9]⟩ : fq_valueOf f_knot f_part f_other f_names f_value a0 (g 57) = (r_34, u_35) → _) ((by rw [fq_valueOf]; (try rw [if_neg c_1]); (try rw [if_neg c_2]); (try rw [if_neg c_3]); (try rw [if_neg h_4]); (try rw [if_neg h_7]); (try rw [if_neg h_10]); (try rw [if_neg h_13]); (try rw [if_neg h_16]); (try rw [if_neg h_19]); (try rw [if_neg h_22]); (try rw [if_neg h_25]); (try rw [if_neg h_28]); (try rw [if_pos h_33]); (try rw [← hX_37]); (try rw [xL_eq]); (try rw [← hq_r_34]); (try rw [← hq_u_35]); try rfl))), by rw [ht]; exact hP9, va_K.moved hW.alike hK9, hD9⟩, hS.F ht⟩) hS.2.2 dX12_valueOf_219
        by_cases h_38 : f_knot a0.toNatClampNeg = 13
        · refine lv_tableIn (off := 124) (tgt := 220) hx hb dX12_valueOf_96 (by rw [h_38]; decide) (by rw [h_38]; decide) (by rw [h_38]; decide) (by decide) ?_
          refine lv_aload_n hx hb dX12_valueOf_220 rfl (lv_at hl 2 rfl) ?_
          refine lv_lload_n hx hb dX12_valueOf_221 rfl (lv_at hl 1 rfl) ?_
          refine lv_lload hx hb dX12_valueOf_222 (lv_at hl 0 rfl) ?_
          obtain ⟨hPc, hDc, hFc, hCc⟩ := zsub3 (ws' := [(mq, .inr (12, mF g gl rf))]) hP hD hS hA [0] (by decide) rfl
          have hKc := hK.sub (tys' := []) [] rfl
          refine va_calll (va_runV (As := [.long (f_value ((f_part a0.toNatClampNeg).toNatClampNeg)), .long (f_value ((f_other a0.toNatClampNeg).toNatClampNeg))]) (rest := []) ⟨hx, hb, hml, hown, htw⟩ (gq_times l dC dI mq g gl rf (f_value ((f_part a0.toNatClampNeg).toNatClampNeg)) (f_value ((f_other a0.toNatClampNeg).toNatClampNeg)) H.size) (cwV 2 htw (xg_V (ck_41 _ (List.mem_of_getElem? (i := 12) rfl)) (ck_41 _ (List.mem_of_getElem? (i := 13) rfl)) (ck_41 _ (List.mem_of_getElem? (i := 14) rfl)) (ck_1 _ (List.mem_of_getElem? (i := 5) rfl)) (ck_41 _ (List.mem_of_getElem? (i := 15) rfl))) rfl rfl rfl (by exact ⟨rfl, hdc_14.1, hdc_14.2, hdd_4⟩) ⟨Nat.le_of_ble_eq_true rfl, Nat.le_of_ble_eq_true rfl⟩) ⟨fun a U g mk q => by obtain ⟨q0, q1, qP, qK, qD⟩ := q; exact ⟨q0, q1, qP, va_K.moved (u := U) (U := U.calling g mk a) (Vm.Alike.refl U.vm) qK, qD⟩, va_recv hKc hPc (ci := 12) (q0 := 0) rfl rfl, fun U hU hW => ⟨rfl, by rw [hU], by rw [hU]; exact hPc, va_K.moved hW.alike hKc, hDc.weaken (fun _ _ _ _ => trivial)⟩⟩ rfl rfl hl.1 rfl (lv_room (Nat.le_of_ble_eq_true rfl)) dX12_valueOf_224 ⟨Nat.le_of_ble_eq_true rfl, Nat.le_of_ble_eq_true rfl⟩) hS (fun q _ h => hFc q h) hFc (fun r_39 u_40 t H1 locs ht hvm hw hB hz1 hk1 hS => ?_)
          try dsimp only at hw
          obtain ⟨hP1, hK1, hD1⟩ := hB
          rw [ht] at hP1
          have hK1 := va_K.moved hvm.symm hK1
          have hK1 : va_K (dC, dI) vwCl [] s := hK1
          obtain ⟨hP, hD⟩ := va_join (wr := [(eA0 (rf 41) (ck 41) 128 f_knot), (eA0 (rf 42) (ck 42) 128 f_part), (eA0 (rf 43) (ck 43) 128 f_other), (eA1 (rf 55) (ck 55) 6 f_names), (eA1 (rf 56) (ck 56) 64 f_value)]) (w1 := [(mq, .inr (12, mF (upd g 57 u_40) gl rf))]) hP hD [0] [1, 2, 3, 4, 5] hCc rfl (by decide) (by decide) hk1 hFc hP1 hD1
          generalize H1 = H at hP hS ⊢
          obtain ⟨hP, hD⟩ := zre [(eA0 (rf 41) (ck 41) 128 f_knot), (eA0 (rf 42) (ck 42) 128 f_part), (eA0 (rf 43) (ck 43) 128 f_other), (eA1 (rf 55) (ck 55) 6 f_names), (eA1 (rf 56) (ck 56) 64 f_value), (mq, .inr (12, mF (upd g 57 u_40) gl rf))] hP hD rfl
          refine W.widen (k := 0) (n := 0) (by omega) (by omega) ?_
          obtain ⟨X_42, hX_42⟩ : ∃ X9 : Int64 × (Int32), X9 = (fq_times (f_value ((f_part a0.toNatClampNeg).toNatClampNeg)) (f_value ((f_other a0.toNatClampNeg).toNatClampNeg)) (g 57)) := ⟨_, rfl⟩
          have hq_r_39 : r_39 = X_42.1 := by rw [hX_42]; exact hw.1
          have hq_u_40 : u_40 = X_42.2 := by rw [hX_42]; exact hw.2
          refine W.widen (k := 0) (n := 0) (by omega) (by omega) ?_
          obtain ⟨hP9, hD9⟩ := zsub2 (ws' := [(mq, .inr (12, mF (upd g 57 u_40) gl rf)), (eA0 (rf 41) (ck 41) 128 f_knot), (eA0 (rf 42) (ck 42) 128 f_part), (eA0 (rf 43) (ck 43) 128 f_other), (eA1 (rf 55) (ck 55) 6 f_names), (eA1 (rf 56) (ck 56) 64 f_value)]) hP hD [5, 0, 1, 2, 3, 4] (by decide) rfl
          have hK9 := hK.sub (tys' := []) [] rfl
          exact W.lret (v := r_39) hx hb hr (fun t ht hW => ⟨⟨r_39, u_40, rfl, ((fun e9 => ⟨by rw [e9], by rw [e9]⟩ : fq_valueOf f_knot f_part f_other f_names f_value a0 (g 57) = (r_39, u_40) → _) ((by rw [fq_valueOf]; (try rw [if_neg c_1]); (try rw [if_neg c_2]); (try rw [if_neg c_3]); (try rw [if_neg h_4]); (try rw [if_neg h_7]); (try rw [if_neg h_10]); (try rw [if_neg h_13]); (try rw [if_neg h_16]); (try rw [if_neg h_19]); (try rw [if_neg h_22]); (try rw [if_neg h_25]); (try rw [if_neg h_28]); (try rw [if_neg h_33]); (try rw [if_pos h_38]); (try rw [← hX_42]); (try rw [xL_eq]); (try rw [← hq_r_39]); (try rw [← hq_u_40]); try rfl))), by rw [ht]; exact hP9, va_K.moved hW.alike hK9, hD9⟩, hS.F ht⟩) hS.2.2 dX12_valueOf_227
        by_cases h_43 : f_knot a0.toNatClampNeg = 14
        · refine lv_tableIn (off := 132) (tgt := 228) hx hb dX12_valueOf_96 (by rw [h_43]; decide) (by rw [h_43]; decide) (by rw [h_43]; decide) (by decide) ?_
          refine lv_aload_n hx hb dX12_valueOf_228 rfl (lv_at hl 2 rfl) ?_
          refine lv_aload_n hx hb dX12_valueOf_229 rfl (lv_at hl 2 rfl) ?_
          refine va_get (D := (dC, dI)) (ci := 12) (v := .int (g 57)) (C := RX12) (T := TX12) (N := 76) hx hb htw inlX12 hown hK hP 0 rfl rfl 57 (by decide) (htw _ (ck_41 _ (List.mem_of_getElem? (i := 2) rfl))) (fun _ h9 => h9) rfl dX12_valueOf_230 ?_
          refine lv_if_ne (tgt := 243) hx hb dX12_valueOf_233 (by decide) (fun c_44 => ?_) (fun c_44 => ?_)
          · refine lv_iconst (v := 1) hx hb dX12_valueOf_243 (by decide) ?_
            refine lv_goto (tgt := 248) hx hb dX12_valueOf_244 (by decide) ?_
            refine va_put (D := (dC, dI)) (ci := 12) (v := .int 1) (ty := tyX12 57) (C := RX12) (T := TX12) (N := 76) hx hb htw inlX12 tyX12 tyX12_ok nmX12 hown hK hP hD hS 0 rfl rfl 57 (by decide) (htw _ (ck_41 _ (List.mem_of_getElem? (i := 2) rfl))) (fun _ h9 => h9) rfl (tyX12_ok 57 (by decide)) rfl rfl (Nat.le_of_ble_eq_true rfl) dX12_valueOf_248 (fun H locs hP hD hS => ?_)
            obtain ⟨hP, hD⟩ := zre [(mq, .inr (12, mF (upd g 57 1) gl rf)), (eA0 (rf 41) (ck 41) 128 f_knot), (eA0 (rf 42) (ck 42) 128 f_part), (eA0 (rf 43) (ck 43) 128 f_other), (eA1 (rf 55) (ck 55) 6 f_names), (eA1 (rf 56) (ck 56) 64 f_value)] hP hD rfl
            refine lv_aload_n hx hb dX12_valueOf_251 rfl (lv_at hl 2 rfl) ?_
            refine va_get (D := (dC, dI)) (ci := 12) (v := .int 1) (C := RX12) (T := TX12) (N := 76) hx hb htw inlX12 hown hK hP 0 rfl rfl 57 (by decide) (htw _ (ck_41 _ (List.mem_of_getElem? (i := 2) rfl))) (fun _ h9 => h9) rfl dX12_valueOf_252 ?_
            refine lv_if_eq (tgt := 262) hx hb dX12_valueOf_255 (by decide) (fun c => absurd c (by decide)) (fun _ => ?_)
            refine lv_lconst (v := 0) hx hb dX12_valueOf_258 (by decide) ?_
            refine lv_goto (tgt := 284) hx hb dX12_valueOf_259 (by decide) ?_
            refine W.widen (k := 0) (n := 0) (by omega) (by omega) ?_
            have hP9 := hP
            have hD9 := hD
            have hK9 := hK.sub (tys' := []) [] rfl
            exact W.lret (v := 0) hx hb hr (fun t ht hW => ⟨⟨0, 1, rfl, ((fun e9 => ⟨by rw [e9], by rw [e9]⟩ : fq_valueOf f_knot f_part f_other f_names f_value a0 (g 57) = ((0 : Int64), (1 : Int32)) → _) ((by rw [fq_valueOf]; (try rw [if_neg c_1]); (try rw [if_neg c_2]); (try rw [if_neg c_3]); (try rw [if_neg h_4]); (try rw [if_neg h_7]); (try rw [if_neg h_10]); (try rw [if_neg h_13]); (try rw [if_neg h_16]); (try rw [if_neg h_19]); (try rw [if_neg h_22]); (try rw [if_neg h_25]); (try rw [if_neg h_28]); (try rw [if_neg h_33]); (try rw [if_neg h_38]); (try rw [if_pos h_43]); (try rw [if_neg c_44]); try rfl))), by rw [ht]; exact hP9, va_K.moved hW.alike hK9, hD9⟩, hS.F ht⟩) hS.2.2 dX12_valueOf_284
          · refine lv_lload hx hb dX12_valueOf_236 (lv_at hl 0 rfl) ?_
            refine lv_lconst (v := 0) hx hb dX12_valueOf_238 (by decide) ?_
            refine W.lcmp hx hb dX12_valueOf_239 ?_
            refine lv_if_ne (tgt := 247) hx hb dX12_valueOf_240 (by decide) (fun c_45 => ?_) (fun c_45 => ?_)
            · refine lv_iconst (v := 0) hx hb dX12_valueOf_247 (by decide) ?_
              refine va_put (D := (dC, dI)) (ci := 12) (v := .int 0) (ty := tyX12 57) (C := RX12) (T := TX12) (N := 76) hx hb htw inlX12 tyX12 tyX12_ok nmX12 hown hK hP hD hS 0 rfl rfl 57 (by decide) (htw _ (ck_41 _ (List.mem_of_getElem? (i := 2) rfl))) (fun _ h9 => h9) rfl (tyX12_ok 57 (by decide)) rfl rfl (Nat.le_of_ble_eq_true rfl) dX12_valueOf_248 (fun H locs hP hD hS => ?_)
              obtain ⟨hP, hD⟩ := zre [(mq, .inr (12, mF (upd g 57 0) gl rf)), (eA0 (rf 41) (ck 41) 128 f_knot), (eA0 (rf 42) (ck 42) 128 f_part), (eA0 (rf 43) (ck 43) 128 f_other), (eA1 (rf 55) (ck 55) 6 f_names), (eA1 (rf 56) (ck 56) 64 f_value)] hP hD rfl
              refine lv_aload_n hx hb dX12_valueOf_251 rfl (lv_at hl 2 rfl) ?_
              refine va_get (D := (dC, dI)) (ci := 12) (v := .int 0) (C := RX12) (T := TX12) (N := 76) hx hb htw inlX12 hown hK hP 0 rfl rfl 57 (by decide) (htw _ (ck_41 _ (List.mem_of_getElem? (i := 2) rfl))) (fun _ h9 => h9) rfl dX12_valueOf_252 ?_
              refine lv_if_eq (tgt := 262) hx hb dX12_valueOf_255 (by decide) (fun _ => ?_) (fun c => absurd c (by decide))
              refine lv_aload_n hx hb dX12_valueOf_262 rfl (lv_at hl 2 rfl) ?_
              refine va_get (D := (dC, dI)) (ci := 12) (v := .ref (rf 41)) (C := RX12) (T := TX12) (N := 76) hx hb htw inlX12 hown hK hP 0 rfl rfl 41 (by decide) (htw _ (ck_9 _ (List.mem_of_getElem? (i := 21) rfl))) (fun _ h9 => h9) rfl dX12_valueOf_263 ?_
              refine lv_iload_n hx hb dX12_valueOf_266 rfl (lv_at hl 3 rfl) ?_
              refine va_iald hx hb hK hP 1 0 rfl rfl (xg_inr (N := 128) rfl (gq_valueOf_s12 (y0 := a0) hk0 hk6).1 (gq_valueOf_s12 (y0 := a0) hk0 hk6).2) dX12_valueOf_267 ?_
              refine lv_bipush (v := 14) hx hb dX12_valueOf_268 (by decide) ?_
              refine lv_icmp_ne (tgt := 280) hx hb dX12_valueOf_270 (by decide) (fun c_46 => absurd c_46 (fun h9 => h9 h_43)) (fun c_46 => ?_)
              refine lv_lload_n hx hb dX12_valueOf_273 rfl (lv_at hl 1 rfl) ?_
              refine lv_lload hx hb dX12_valueOf_274 (lv_at hl 0 rfl) ?_
              refine lv_ldiv hx hb dX12_valueOf_276 ((gq_valueOf_s13 (y0 := f_value ((f_other a0.toNatClampNeg).toNatClampNeg)) (fun q9 => c_45 ((lg_cmp_eq _ _).mpr q9)))) ?_
              refine lv_goto (tgt := 284) hx hb dX12_valueOf_277 (by decide) ?_
              refine W.widen (k := 0) (n := 0) (by omega) (by omega) ?_
              have hP9 := hP
              have hD9 := hD
              have hK9 := hK.sub (tys' := []) [] rfl
              exact W.lret (v := ((f_value ((f_part a0.toNatClampNeg).toNatClampNeg)) / (f_value ((f_other a0.toNatClampNeg).toNatClampNeg)))) hx hb hr (fun t ht hW => ⟨⟨((f_value ((f_part a0.toNatClampNeg).toNatClampNeg)) / (f_value ((f_other a0.toNatClampNeg).toNatClampNeg))), 0, rfl, ((fun e9 => ⟨by rw [e9], by rw [e9]⟩ : fq_valueOf f_knot f_part f_other f_names f_value a0 (g 57) = (((f_value ((f_part a0.toNatClampNeg).toNatClampNeg)) / (f_value ((f_other a0.toNatClampNeg).toNatClampNeg))), (0 : Int32)) → _) ((by rw [fq_valueOf]; (try rw [if_neg c_1]); (try rw [if_neg c_2]); (try rw [if_neg c_3]); (try rw [if_neg h_4]); (try rw [if_neg h_7]); (try rw [if_neg h_10]); (try rw [if_neg h_13]); (try rw [if_neg h_16]); (try rw [if_neg h_19]); (try rw [if_neg h_22]); (try rw [if_neg h_25]); (try rw [if_neg h_28]); (try rw [if_neg h_33]); (try rw [if_neg h_38]); (try rw [if_pos h_43]); (try rw [if_pos c_44]); (try rw [if_neg c_45]); try rfl))), by rw [ht]; exact hP9, va_K.moved hW.alike hK9, hD9⟩, hS.F ht⟩) hS.2.2 dX12_valueOf_284
            · refine lv_iconst (v := 1) hx hb dX12_valueOf_243 (by decide) ?_
              refine lv_goto (tgt := 248) hx hb dX12_valueOf_244 (by decide) ?_
              refine va_put (D := (dC, dI)) (ci := 12) (v := .int 1) (ty := tyX12 57) (C := RX12) (T := TX12) (N := 76) hx hb htw inlX12 tyX12 tyX12_ok nmX12 hown hK hP hD hS 0 rfl rfl 57 (by decide) (htw _ (ck_41 _ (List.mem_of_getElem? (i := 2) rfl))) (fun _ h9 => h9) rfl (tyX12_ok 57 (by decide)) rfl rfl (Nat.le_of_ble_eq_true rfl) dX12_valueOf_248 (fun H locs hP hD hS => ?_)
              obtain ⟨hP, hD⟩ := zre [(mq, .inr (12, mF (upd g 57 1) gl rf)), (eA0 (rf 41) (ck 41) 128 f_knot), (eA0 (rf 42) (ck 42) 128 f_part), (eA0 (rf 43) (ck 43) 128 f_other), (eA1 (rf 55) (ck 55) 6 f_names), (eA1 (rf 56) (ck 56) 64 f_value)] hP hD rfl
              refine lv_aload_n hx hb dX12_valueOf_251 rfl (lv_at hl 2 rfl) ?_
              refine va_get (D := (dC, dI)) (ci := 12) (v := .int 1) (C := RX12) (T := TX12) (N := 76) hx hb htw inlX12 hown hK hP 0 rfl rfl 57 (by decide) (htw _ (ck_41 _ (List.mem_of_getElem? (i := 2) rfl))) (fun _ h9 => h9) rfl dX12_valueOf_252 ?_
              refine lv_if_eq (tgt := 262) hx hb dX12_valueOf_255 (by decide) (fun c => absurd c (by decide)) (fun _ => ?_)
              refine lv_lconst (v := 0) hx hb dX12_valueOf_258 (by decide) ?_
              refine lv_goto (tgt := 284) hx hb dX12_valueOf_259 (by decide) ?_
              refine W.widen (k := 0) (n := 0) (by omega) (by omega) ?_
              have hP9 := hP
              have hD9 := hD
              have hK9 := hK.sub (tys' := []) [] rfl
              exact W.lret (v := 0) hx hb hr (fun t ht hW => ⟨⟨0, 1, rfl, ((fun e9 => ⟨by rw [e9], by rw [e9]⟩ : fq_valueOf f_knot f_part f_other f_names f_value a0 (g 57) = ((0 : Int64), (1 : Int32)) → _) ((by rw [fq_valueOf]; (try rw [if_neg c_1]); (try rw [if_neg c_2]); (try rw [if_neg c_3]); (try rw [if_neg h_4]); (try rw [if_neg h_7]); (try rw [if_neg h_10]); (try rw [if_neg h_13]); (try rw [if_neg h_16]); (try rw [if_neg h_19]); (try rw [if_neg h_22]); (try rw [if_neg h_25]); (try rw [if_neg h_28]); (try rw [if_neg h_33]); (try rw [if_neg h_38]); (try rw [if_pos h_43]); (try rw [if_pos c_44]); (try rw [if_pos c_45]); try rfl))), by rw [ht]; exact hP9, va_K.moved hW.alike hK9, hD9⟩, hS.F ht⟩) hS.2.2 dX12_valueOf_284
        by_cases h_47 : f_knot a0.toNatClampNeg = 15
        · refine lv_tableIn (off := 132) (tgt := 228) hx hb dX12_valueOf_96 (by rw [h_47]; decide) (by rw [h_47]; decide) (by rw [h_47]; decide) (by decide) ?_
          refine lv_aload_n hx hb dX12_valueOf_228 rfl (lv_at hl 2 rfl) ?_
          refine lv_aload_n hx hb dX12_valueOf_229 rfl (lv_at hl 2 rfl) ?_
          refine va_get (D := (dC, dI)) (ci := 12) (v := .int (g 57)) (C := RX12) (T := TX12) (N := 76) hx hb htw inlX12 hown hK hP 0 rfl rfl 57 (by decide) (htw _ (ck_41 _ (List.mem_of_getElem? (i := 2) rfl))) (fun _ h9 => h9) rfl dX12_valueOf_230 ?_
          refine lv_if_ne (tgt := 243) hx hb dX12_valueOf_233 (by decide) (fun c_48 => ?_) (fun c_48 => ?_)
          · refine lv_iconst (v := 1) hx hb dX12_valueOf_243 (by decide) ?_
            refine lv_goto (tgt := 248) hx hb dX12_valueOf_244 (by decide) ?_
            refine va_put (D := (dC, dI)) (ci := 12) (v := .int 1) (ty := tyX12 57) (C := RX12) (T := TX12) (N := 76) hx hb htw inlX12 tyX12 tyX12_ok nmX12 hown hK hP hD hS 0 rfl rfl 57 (by decide) (htw _ (ck_41 _ (List.mem_of_getElem? (i := 2) rfl))) (fun _ h9 => h9) rfl (tyX12_ok 57 (by decide)) rfl rfl (Nat.le_of_ble_eq_true rfl) dX12_valueOf_248 (fun H locs hP hD hS => ?_)
            obtain ⟨hP, hD⟩ := zre [(mq, .inr (12, mF (upd g 57 1) gl rf)), (eA0 (rf 41) (ck 41) 128 f_knot), (eA0 (rf 42) (ck 42) 128 f_part), (eA0 (rf 43) (ck 43) 128 f_other), (eA1 (rf 55) (ck 55) 6 f_names), (eA1 (rf 56) (ck 56) 64 f_value)] hP hD rfl
            refine lv_aload_n hx hb dX12_valueOf_251 rfl (lv_at hl 2 rfl) ?_
            refine va_get (D := (dC, dI)) (ci := 12) (v := .int 1) (C := RX12) (T := TX12) (N := 76) hx hb htw inlX12 hown hK hP 0 rfl rfl 57 (by decide) (htw _ (ck_41 _ (List.mem_of_getElem? (i := 2) rfl))) (fun _ h9 => h9) rfl dX12_valueOf_252 ?_
            refine lv_if_eq (tgt := 262) hx hb dX12_valueOf_255 (by decide) (fun c => absurd c (by decide)) (fun _ => ?_)
            refine lv_lconst (v := 0) hx hb dX12_valueOf_258 (by decide) ?_
            refine lv_goto (tgt := 284) hx hb dX12_valueOf_259 (by decide) ?_
            refine W.widen (k := 0) (n := 0) (by omega) (by omega) ?_
            have hP9 := hP
            have hD9 := hD
            have hK9 := hK.sub (tys' := []) [] rfl
            exact W.lret (v := 0) hx hb hr (fun t ht hW => ⟨⟨0, 1, rfl, ((fun e9 => ⟨by rw [e9], by rw [e9]⟩ : fq_valueOf f_knot f_part f_other f_names f_value a0 (g 57) = ((0 : Int64), (1 : Int32)) → _) ((by rw [fq_valueOf]; (try rw [if_neg c_1]); (try rw [if_neg c_2]); (try rw [if_neg c_3]); (try rw [if_neg h_4]); (try rw [if_neg h_7]); (try rw [if_neg h_10]); (try rw [if_neg h_13]); (try rw [if_neg h_16]); (try rw [if_neg h_19]); (try rw [if_neg h_22]); (try rw [if_neg h_25]); (try rw [if_neg h_28]); (try rw [if_neg h_33]); (try rw [if_neg h_38]); (try rw [if_neg h_43]); (try rw [if_pos h_47]); (try rw [if_neg c_48]); try rfl))), by rw [ht]; exact hP9, va_K.moved hW.alike hK9, hD9⟩, hS.F ht⟩) hS.2.2 dX12_valueOf_284
          · refine lv_lload hx hb dX12_valueOf_236 (lv_at hl 0 rfl) ?_
            refine lv_lconst (v := 0) hx hb dX12_valueOf_238 (by decide) ?_
            refine W.lcmp hx hb dX12_valueOf_239 ?_
            refine lv_if_ne (tgt := 247) hx hb dX12_valueOf_240 (by decide) (fun c_49 => ?_) (fun c_49 => ?_)
            · refine lv_iconst (v := 0) hx hb dX12_valueOf_247 (by decide) ?_
              refine va_put (D := (dC, dI)) (ci := 12) (v := .int 0) (ty := tyX12 57) (C := RX12) (T := TX12) (N := 76) hx hb htw inlX12 tyX12 tyX12_ok nmX12 hown hK hP hD hS 0 rfl rfl 57 (by decide) (htw _ (ck_41 _ (List.mem_of_getElem? (i := 2) rfl))) (fun _ h9 => h9) rfl (tyX12_ok 57 (by decide)) rfl rfl (Nat.le_of_ble_eq_true rfl) dX12_valueOf_248 (fun H locs hP hD hS => ?_)
              obtain ⟨hP, hD⟩ := zre [(mq, .inr (12, mF (upd g 57 0) gl rf)), (eA0 (rf 41) (ck 41) 128 f_knot), (eA0 (rf 42) (ck 42) 128 f_part), (eA0 (rf 43) (ck 43) 128 f_other), (eA1 (rf 55) (ck 55) 6 f_names), (eA1 (rf 56) (ck 56) 64 f_value)] hP hD rfl
              refine lv_aload_n hx hb dX12_valueOf_251 rfl (lv_at hl 2 rfl) ?_
              refine va_get (D := (dC, dI)) (ci := 12) (v := .int 0) (C := RX12) (T := TX12) (N := 76) hx hb htw inlX12 hown hK hP 0 rfl rfl 57 (by decide) (htw _ (ck_41 _ (List.mem_of_getElem? (i := 2) rfl))) (fun _ h9 => h9) rfl dX12_valueOf_252 ?_
              refine lv_if_eq (tgt := 262) hx hb dX12_valueOf_255 (by decide) (fun _ => ?_) (fun c => absurd c (by decide))
              refine lv_aload_n hx hb dX12_valueOf_262 rfl (lv_at hl 2 rfl) ?_
              refine va_get (D := (dC, dI)) (ci := 12) (v := .ref (rf 41)) (C := RX12) (T := TX12) (N := 76) hx hb htw inlX12 hown hK hP 0 rfl rfl 41 (by decide) (htw _ (ck_9 _ (List.mem_of_getElem? (i := 21) rfl))) (fun _ h9 => h9) rfl dX12_valueOf_263 ?_
              refine lv_iload_n hx hb dX12_valueOf_266 rfl (lv_at hl 3 rfl) ?_
              refine va_iald hx hb hK hP 1 0 rfl rfl (xg_inr (N := 128) rfl (gq_valueOf_s14 (y0 := a0) hk0 hk6).1 (gq_valueOf_s14 (y0 := a0) hk0 hk6).2) dX12_valueOf_267 ?_
              refine lv_bipush (v := 14) hx hb dX12_valueOf_268 (by decide) ?_
              refine lv_icmp_ne (tgt := 280) hx hb dX12_valueOf_270 (by decide) (fun c_50 => ?_) (fun c_50 => absurd c_50 (fun h9 => absurd h9 h_43))
              refine lv_lload_n hx hb dX12_valueOf_280 rfl (lv_at hl 1 rfl) ?_
              refine lv_lload hx hb dX12_valueOf_281 (lv_at hl 0 rfl) ?_
              refine lv_lrem hx hb dX12_valueOf_283 ((gq_valueOf_s15 (y0 := f_value ((f_other a0.toNatClampNeg).toNatClampNeg)) (fun q9 => c_49 ((lg_cmp_eq _ _).mpr q9)))) ?_
              refine W.widen (k := 0) (n := 0) (by omega) (by omega) ?_
              have hP9 := hP
              have hD9 := hD
              have hK9 := hK.sub (tys' := []) [] rfl
              exact W.lret (v := ((f_value ((f_part a0.toNatClampNeg).toNatClampNeg)) - (f_value ((f_part a0.toNatClampNeg).toNatClampNeg)) / (f_value ((f_other a0.toNatClampNeg).toNatClampNeg)) * (f_value ((f_other a0.toNatClampNeg).toNatClampNeg)))) hx hb hr (fun t ht hW => ⟨⟨((f_value ((f_part a0.toNatClampNeg).toNatClampNeg)) - (f_value ((f_part a0.toNatClampNeg).toNatClampNeg)) / (f_value ((f_other a0.toNatClampNeg).toNatClampNeg)) * (f_value ((f_other a0.toNatClampNeg).toNatClampNeg))), 0, rfl, ((fun e9 => ⟨by rw [e9], by rw [e9]⟩ : fq_valueOf f_knot f_part f_other f_names f_value a0 (g 57) = (((f_value ((f_part a0.toNatClampNeg).toNatClampNeg)) - (f_value ((f_part a0.toNatClampNeg).toNatClampNeg)) / (f_value ((f_other a0.toNatClampNeg).toNatClampNeg)) * (f_value ((f_other a0.toNatClampNeg).toNatClampNeg))), (0 : Int32)) → _) ((by rw [fq_valueOf]; (try rw [if_neg c_1]); (try rw [if_neg c_2]); (try rw [if_neg c_3]); (try rw [if_neg h_4]); (try rw [if_neg h_7]); (try rw [if_neg h_10]); (try rw [if_neg h_13]); (try rw [if_neg h_16]); (try rw [if_neg h_19]); (try rw [if_neg h_22]); (try rw [if_neg h_25]); (try rw [if_neg h_28]); (try rw [if_neg h_33]); (try rw [if_neg h_38]); (try rw [if_neg h_43]); (try rw [if_pos h_47]); (try rw [if_pos c_48]); (try rw [if_neg c_49]); try rfl))), by rw [ht]; exact hP9, va_K.moved hW.alike hK9, hD9⟩, hS.F ht⟩) hS.2.2 dX12_valueOf_284
            · refine lv_iconst (v := 1) hx hb dX12_valueOf_243 (by decide) ?_
              refine lv_goto (tgt := 248) hx hb dX12_valueOf_244 (by decide) ?_
              refine va_put (D := (dC, dI)) (ci := 12) (v := .int 1) (ty := tyX12 57) (C := RX12) (T := TX12) (N := 76) hx hb htw inlX12 tyX12 tyX12_ok nmX12 hown hK hP hD hS 0 rfl rfl 57 (by decide) (htw _ (ck_41 _ (List.mem_of_getElem? (i := 2) rfl))) (fun _ h9 => h9) rfl (tyX12_ok 57 (by decide)) rfl rfl (Nat.le_of_ble_eq_true rfl) dX12_valueOf_248 (fun H locs hP hD hS => ?_)
              obtain ⟨hP, hD⟩ := zre [(mq, .inr (12, mF (upd g 57 1) gl rf)), (eA0 (rf 41) (ck 41) 128 f_knot), (eA0 (rf 42) (ck 42) 128 f_part), (eA0 (rf 43) (ck 43) 128 f_other), (eA1 (rf 55) (ck 55) 6 f_names), (eA1 (rf 56) (ck 56) 64 f_value)] hP hD rfl
              refine lv_aload_n hx hb dX12_valueOf_251 rfl (lv_at hl 2 rfl) ?_
              refine va_get (D := (dC, dI)) (ci := 12) (v := .int 1) (C := RX12) (T := TX12) (N := 76) hx hb htw inlX12 hown hK hP 0 rfl rfl 57 (by decide) (htw _ (ck_41 _ (List.mem_of_getElem? (i := 2) rfl))) (fun _ h9 => h9) rfl dX12_valueOf_252 ?_
              refine lv_if_eq (tgt := 262) hx hb dX12_valueOf_255 (by decide) (fun c => absurd c (by decide)) (fun _ => ?_)
              refine lv_lconst (v := 0) hx hb dX12_valueOf_258 (by decide) ?_
              refine lv_goto (tgt := 284) hx hb dX12_valueOf_259 (by decide) ?_
              refine W.widen (k := 0) (n := 0) (by omega) (by omega) ?_
              have hP9 := hP
              have hD9 := hD
              have hK9 := hK.sub (tys' := []) [] rfl
              exact W.lret (v := 0) hx hb hr (fun t ht hW => ⟨⟨0, 1, rfl, ((fun e9 => ⟨by rw [e9], by rw [e9]⟩ : fq_valueOf f_knot f_part f_other f_names f_value a0 (g 57) = ((0 : Int64), (1 : Int32)) → _) ((by rw [fq_valueOf]; (try rw [if_neg c_1]); (try rw [if_neg c_2]); (try rw [if_neg c_3]); (try rw [if_neg h_4]); (try rw [if_neg h_7]); (try rw [if_neg h_10]); (try rw [if_neg h_13]); (try rw [if_neg h_16]); (try rw [if_neg h_19]); (try rw [if_neg h_22]); (try rw [if_neg h_25]); (try rw [if_neg h_28]); (try rw [if_neg h_33]); (try rw [if_neg h_38]); (try rw [if_neg h_43]); (try rw [if_pos h_47]); (try rw [if_pos c_48]); (try rw [if_pos c_49]); try rfl))), by rw [ht]; exact hP9, va_K.moved hW.alike hK9, hD9⟩, hS.F ht⟩) hS.2.2 dX12_valueOf_284
        refine lv_tableOut (tgt := 285) hx hb dX12_valueOf_96 (by have a0 := xg_ne h_4; have a1 := xg_ne h_7; have a2 := xg_ne h_10; have a3 := xg_ne h_13; have a4 := xg_ne h_16; have a5 := xg_ne h_19; have a6 := xg_ne h_22; have a7 := xg_ne h_25; have a8 := xg_ne h_28; have a9 := xg_ne h_33; have a10 := xg_ne h_38; have a11 := xg_ne h_43; have a12 := xg_ne h_47; have b0 : (3 : Int32).toInt = 3 := rfl; have b1 : (4 : Int32).toInt = 4 := rfl; have b2 : (5 : Int32).toInt = 5 := rfl; have b3 : (6 : Int32).toInt = 6 := rfl; have b4 : (7 : Int32).toInt = 7 := rfl; have b5 : (8 : Int32).toInt = 8 := rfl; have b6 : (9 : Int32).toInt = 9 := rfl; have b7 : (10 : Int32).toInt = 10 := rfl; have b8 : (11 : Int32).toInt = 11 := rfl; have b9 : (12 : Int32).toInt = 12 := rfl; have b10 : (13 : Int32).toInt = 13 := rfl; have b11 : (14 : Int32).toInt = 14 := rfl; have b12 : (15 : Int32).toInt = 15 := rfl; omega) (by decide) ?_
        refine lv_aload_n hx hb dX12_valueOf_285 rfl (lv_at hl 2 rfl) ?_
        refine va_get (D := (dC, dI)) (ci := 12) (v := .ref (rf 41)) (C := RX12) (T := TX12) (N := 76) hx hb htw inlX12 hown hK hP 0 rfl rfl 41 (by decide) (htw _ (ck_9 _ (List.mem_of_getElem? (i := 21) rfl))) (fun _ h9 => h9) rfl dX12_valueOf_286 ?_
        refine lv_iload_n hx hb dX12_valueOf_289 rfl (lv_at hl 3 rfl) ?_
        refine va_iald hx hb hK hP 1 0 rfl rfl (xg_inr (N := 128) rfl (gq_valueOf_s16 (y0 := a0) hk0 hk6).1 (gq_valueOf_s16 (y0 := a0) hk0 hk6).2) dX12_valueOf_290 ?_
        refine lv_lload_n hx hb dX12_valueOf_291 rfl (lv_at hl 1 rfl) ?_
        refine lv_lload hx hb dX12_valueOf_292 (lv_at hl 0 rfl) ?_
        have hPc := hP.sub (ws' := []) [] rfl
        have hKc := hK.sub (tys' := []) [] rfl
        refine vp_callSi (W.runS (As := [.int (f_knot a0.toNatClampNeg), .long (f_value ((f_part a0.toNatClampNeg).toNatClampNeg)), .long (f_value ((f_other a0.toNatClampNeg).toNatClampNeg))]) (rest := []) ⟨hx, hb, hml, hown, htw⟩ (gq_compares l dC dI (f_knot a0.toNatClampNeg) (f_value ((f_part a0.toNatClampNeg).toNatClampNeg)) (f_value ((f_other a0.toNatClampNeg).toNatClampNeg))) (va_cwS 3 htw (xg_S (ck_41 _ (List.mem_of_getElem? (i := 16) rfl)) (ck_41 _ (List.mem_of_getElem? (i := 17) rfl)) (ck_1 _ (List.mem_of_getElem? (i := 5) rfl)) (ck_41 _ (List.mem_of_getElem? (i := 18) rfl))) rfl rfl rfl (by exact ⟨hdc_14.1, hdc_14.2, hdd_5⟩) ⟨Nat.le_of_ble_eq_true rfl, Nat.le_of_ble_eq_true rfl⟩) ⟨fun a U g mk q => by obtain ⟨q0, qP, qK⟩ := q; exact ⟨q0, qP, va_K.moved (u := U) (U := U.calling g mk a) (Vm.Alike.refl U.vm) qK⟩, fun U hU hW => ⟨rfl, by rw [hU]; exact hPc, va_K.moved hW.alike hKc⟩⟩ rfl rfl hl.1 rfl (lv_room (Nat.le_of_ble_eq_true rfl)) dX12_valueOf_294 ⟨Nat.le_of_ble_eq_true rfl, Nat.le_of_ble_eq_true rfl⟩) (fun r_51 hw => ?_)
        try dsimp only at hw
        obtain ⟨hw, hb_r_51⟩ := hw
        have hq_r_51 : r_51 = (fq_compares (f_knot a0.toNatClampNeg) (f_value ((f_part a0.toNatClampNeg).toNatClampNeg)) (f_value ((f_other a0.toNatClampNeg).toNatClampNeg))) := hw
        refine lv_if_eq (tgt := 304) hx hb dX12_valueOf_297 (by decide) (fun c_52 => ?_) (fun c_52 => ?_)
        · refine lv_lconst (v := 0) hx hb dX12_valueOf_304 (by decide) ?_
          refine W.widen (k := 0) (n := 0) (by omega) (by omega) ?_
          have hP9 := hP
          have hD9 := hD
          have hK9 := hK.sub (tys' := []) [] rfl
          exact W.lret (v := 0) hx hb hr (fun t ht hW => ⟨⟨0, (g 57), rfl, ((fun e9 => ⟨by rw [e9], by rw [e9]⟩ : fq_valueOf f_knot f_part f_other f_names f_value a0 (g 57) = ((0 : Int64), (g 57)) → _) ((by rw [fq_valueOf]; (try rw [if_neg c_1]); (try rw [if_neg c_2]); (try rw [if_neg c_3]); (try rw [if_neg h_4]); (try rw [if_neg h_7]); (try rw [if_neg h_10]); (try rw [if_neg h_13]); (try rw [if_neg h_16]); (try rw [if_neg h_19]); (try rw [if_neg h_22]); (try rw [if_neg h_25]); (try rw [if_neg h_28]); (try rw [if_neg h_33]); (try rw [if_neg h_38]); (try rw [if_neg h_43]); (try rw [if_neg h_47]); (try rw [← hq_r_51]); (try rw [xL_eq]); (try rw [if_pos c_52]); try rfl))), by rw [ht]; exact hP9, va_K.moved hW.alike hK9, hD9⟩, hS.F ht⟩) hS.2.2 dX12_valueOf_305
        · refine lv_lconst (v := 1) hx hb dX12_valueOf_300 (by decide) ?_
          refine lv_goto (tgt := 305) hx hb dX12_valueOf_301 (by decide) ?_
          refine W.widen (k := 0) (n := 0) (by omega) (by omega) ?_
          have hP9 := hP
          have hD9 := hD
          have hK9 := hK.sub (tys' := []) [] rfl
          exact W.lret (v := 1) hx hb hr (fun t ht hW => ⟨⟨1, (g 57), rfl, ((fun e9 => ⟨by rw [e9], by rw [e9]⟩ : fq_valueOf f_knot f_part f_other f_names f_value a0 (g 57) = ((1 : Int64), (g 57)) → _) ((by rw [fq_valueOf]; (try rw [if_neg c_1]); (try rw [if_neg c_2]); (try rw [if_neg c_3]); (try rw [if_neg h_4]); (try rw [if_neg h_7]); (try rw [if_neg h_10]); (try rw [if_neg h_13]); (try rw [if_neg h_16]); (try rw [if_neg h_19]); (try rw [if_neg h_22]); (try rw [if_neg h_25]); (try rw [if_neg h_28]); (try rw [if_neg h_33]); (try rw [if_neg h_38]); (try rw [if_neg h_43]); (try rw [if_neg h_47]); (try rw [← hq_r_51]); (try rw [xL_eq]); (try rw [if_neg c_52]); try rfl))), by rw [ht]; exact hP9, va_K.moved hW.alike hK9, hD9⟩, hS.F ht⟩) hS.2.2 dX12_valueOf_305
      · refine lv_lload_n hx hb dX12_valueOf_65 rfl (lv_at hl 0 rfl) ?_
        refine lv_lconst (v := 0) hx hb dX12_valueOf_66 (by decide) ?_
        refine W.lcmp hx hb dX12_valueOf_67 ?_
        refine lv_if_ne (tgt := 75) hx hb dX12_valueOf_68 (by decide) (fun c_53 => ?_) (fun c_53 => ?_)
        · refine lv_lconst (v := 0) hx hb dX12_valueOf_75 (by decide) ?_
          refine W.widen (k := 0) (n := 0) (by omega) (by omega) ?_
          have hP9 := hP
          have hD9 := hD
          have hK9 := hK.sub (tys' := []) [] rfl
          exact W.lret (v := 0) hx hb hr (fun t ht hW => ⟨⟨0, (g 57), rfl, ((fun e9 => ⟨by rw [e9], by rw [e9]⟩ : fq_valueOf f_knot f_part f_other f_names f_value a0 (g 57) = ((0 : Int64), (g 57)) → _) ((by rw [fq_valueOf]; (try rw [if_neg c_1]); (try rw [if_neg c_2]); (try rw [if_pos c_3]); (try rw [if_neg c_53]); try rfl))), by rw [ht]; exact hP9, va_K.moved hW.alike hK9, hD9⟩, hS.F ht⟩) hS.2.2 dX12_valueOf_76
        · refine lv_lconst (v := 1) hx hb dX12_valueOf_71 (by decide) ?_
          refine lv_goto (tgt := 76) hx hb dX12_valueOf_72 (by decide) ?_
          refine W.widen (k := 0) (n := 0) (by omega) (by omega) ?_
          have hP9 := hP
          have hD9 := hD
          have hK9 := hK.sub (tys' := []) [] rfl
          exact W.lret (v := 1) hx hb hr (fun t ht hW => ⟨⟨1, (g 57), rfl, ((fun e9 => ⟨by rw [e9], by rw [e9]⟩ : fq_valueOf f_knot f_part f_other f_names f_value a0 (g 57) = ((1 : Int64), (g 57)) → _) ((by rw [fq_valueOf]; (try rw [if_neg c_1]); (try rw [if_neg c_2]); (try rw [if_pos c_3]); (try rw [if_pos c_53]); try rfl))), by rw [ht]; exact hP9, va_K.moved hW.alike hK9, hD9⟩, hS.F ht⟩) hS.2.2 dX12_valueOf_76
    · refine lv_aload_n hx hb dX12_valueOf_27 rfl (lv_at hl 0 rfl) ?_
      refine lv_aload_n hx hb dX12_valueOf_28 rfl (lv_at hl 0 rfl) ?_
      refine va_get (D := (dC, dI)) (ci := 12) (v := .ref (rf 55)) (C := RX12) (T := TX12) (N := 76) hx hb htw inlX12 hown hK hP 0 rfl rfl 55 (by decide) (htw _ (ck_10 _ (List.mem_of_getElem? (i := 2) rfl))) (fun _ h9 => h9) rfl dX12_valueOf_29 ?_
      refine lv_aload_n hx hb dX12_valueOf_32 rfl (lv_at hl 0 rfl) ?_
      refine va_get (D := (dC, dI)) (ci := 12) (v := .ref (rf 42)) (C := RX12) (T := TX12) (N := 76) hx hb htw inlX12 hown hK hP 0 rfl rfl 42 (by decide) (htw _ (ck_9 _ (List.mem_of_getElem? (i := 22) rfl))) (fun _ h9 => h9) rfl dX12_valueOf_33 ?_
      refine lv_iload_n hx hb dX12_valueOf_36 rfl (lv_at hl 1 rfl) ?_
      refine va_iald hx hb hK hP 2 1 rfl rfl (xg_inr (N := 128) rfl (gq_valueOf_s17 (y0 := a0) hk0 hk6).1 (gq_valueOf_s17 (y0 := a0) hk0 hk6).2) dX12_valueOf_37 ?_
      refine va_lald hx hb hK hP 4 3 rfl rfl (hKV.1 c_2) dX12_valueOf_38 ?_
      obtain ⟨hPc, hDc, hFc, hCc⟩ := zsub3 (ws' := [(mq, .inr (12, mF g gl rf))]) hP hD hS hA [0] (by decide) rfl
      have hKc := hK.sub (tys' := []) [] rfl
      refine va_calll (va_runV (As := [.long (f_names ((f_part a0.toNatClampNeg).toNatClampNeg))]) (rest := []) ⟨hx, hb, hml, hown, htw⟩ (gq_bounded l dC dI mq g gl rf (f_names ((f_part a0.toNatClampNeg).toNatClampNeg)) H.size) (cwV 1 htw (xg_V (ck_41 _ (List.mem_of_getElem? (i := 7) rfl)) (ck_41 _ (List.mem_of_getElem? (i := 8) rfl)) (ck_41 _ (List.mem_of_getElem? (i := 9) rfl)) (ck_1 _ (List.mem_of_getElem? (i := 5) rfl)) (ck_41 _ (List.mem_of_getElem? (i := 10) rfl))) rfl rfl rfl (by exact ⟨rfl, hdc_14.1, hdc_14.2, hdd_0⟩) ⟨Nat.le_of_ble_eq_true rfl, Nat.le_of_ble_eq_true rfl⟩) ⟨fun a U g mk q => by obtain ⟨q0, q1, qP, qK, qD⟩ := q; exact ⟨q0, q1, qP, va_K.moved (u := U) (U := U.calling g mk a) (Vm.Alike.refl U.vm) qK, qD⟩, va_recv hKc hPc (ci := 12) (q0 := 0) rfl rfl, fun U hU hW => ⟨rfl, by rw [hU], by rw [hU]; exact hPc, va_K.moved hW.alike hKc, hDc.weaken (fun _ _ _ _ => trivial)⟩⟩ rfl rfl hl.1 rfl (lv_room (Nat.le_of_ble_eq_true rfl)) dX12_valueOf_39 ⟨Nat.le_of_ble_eq_true rfl, Nat.le_of_ble_eq_true rfl⟩) hS (fun q _ h => hFc q h) hFc (fun r_54 u_55 t H1 locs ht hvm hw hB hz1 hk1 hS => ?_)
      try dsimp only at hw
      obtain ⟨hP1, hK1, hD1⟩ := hB
      rw [ht] at hP1
      have hK1 := va_K.moved hvm.symm hK1
      have hK1 : va_K (dC, dI) vwCl [] s := hK1
      obtain ⟨hP, hD⟩ := va_join (wr := [(eA0 (rf 41) (ck 41) 128 f_knot), (eA0 (rf 42) (ck 42) 128 f_part), (eA0 (rf 43) (ck 43) 128 f_other), (eA1 (rf 55) (ck 55) 6 f_names), (eA1 (rf 56) (ck 56) 64 f_value)]) (w1 := [(mq, .inr (12, mF (upd g 57 u_55) gl rf))]) hP hD [0] [1, 2, 3, 4, 5] hCc rfl (by decide) (by decide) hk1 hFc hP1 hD1
      generalize H1 = H at hP hS ⊢
      obtain ⟨hP, hD⟩ := zre [(eA0 (rf 41) (ck 41) 128 f_knot), (eA0 (rf 42) (ck 42) 128 f_part), (eA0 (rf 43) (ck 43) 128 f_other), (eA1 (rf 55) (ck 55) 6 f_names), (eA1 (rf 56) (ck 56) 64 f_value), (mq, .inr (12, mF (upd g 57 u_55) gl rf))] hP hD rfl
      refine W.widen (k := 0) (n := 0) (by omega) (by omega) ?_
      obtain ⟨X_57, hX_57⟩ : ∃ X9 : Int64 × (Int32), X9 = (fq_bounded (f_names ((f_part a0.toNatClampNeg).toNatClampNeg)) (g 57)) := ⟨_, rfl⟩
      have hq_r_54 : r_54 = X_57.1 := by rw [hX_57]; exact hw.1
      have hq_u_55 : u_55 = X_57.2 := by rw [hX_57]; exact hw.2
      refine W.widen (k := 0) (n := 0) (by omega) (by omega) ?_
      obtain ⟨hP9, hD9⟩ := zsub2 (ws' := [(mq, .inr (12, mF (upd g 57 u_55) gl rf)), (eA0 (rf 41) (ck 41) 128 f_knot), (eA0 (rf 42) (ck 42) 128 f_part), (eA0 (rf 43) (ck 43) 128 f_other), (eA1 (rf 55) (ck 55) 6 f_names), (eA1 (rf 56) (ck 56) 64 f_value)]) hP hD [5, 0, 1, 2, 3, 4] (by decide) rfl
      have hK9 := hK.sub (tys' := []) [] rfl
      exact W.lret (v := r_54) hx hb hr (fun t ht hW => ⟨⟨r_54, u_55, rfl, ((fun e9 => ⟨by rw [e9], by rw [e9]⟩ : fq_valueOf f_knot f_part f_other f_names f_value a0 (g 57) = (r_54, u_55) → _) ((by rw [fq_valueOf]; (try rw [if_neg c_1]); (try rw [if_pos c_2]); (try rw [← hX_57]); (try rw [xL_eq]); (try rw [← hq_r_54]); (try rw [← hq_u_55]); try rfl))), by rw [ht]; exact hP9, va_K.moved hW.alike hK9, hD9⟩, hS.F ht⟩) hS.2.2 dX12_valueOf_42
  · refine lv_aload_n hx hb dX12_valueOf_9 rfl (lv_at hl 0 rfl) ?_
    refine va_get (D := (dC, dI)) (ci := 12) (v := .ref (rf 42)) (C := RX12) (T := TX12) (N := 76) hx hb htw inlX12 hown hK hP 0 rfl rfl 42 (by decide) (htw _ (ck_9 _ (List.mem_of_getElem? (i := 22) rfl))) (fun _ h9 => h9) rfl dX12_valueOf_10 ?_
    refine lv_iload_n hx hb dX12_valueOf_13 rfl (lv_at hl 1 rfl) ?_
    refine va_iald hx hb hK hP 2 1 rfl rfl (xg_inr (N := 128) rfl (gq_valueOf_s18 (y0 := a0) hk0 hk6).1 (gq_valueOf_s18 (y0 := a0) hk0 hk6).2) dX12_valueOf_14 ?_
    refine lv_i2l (v := (f_part a0.toNatClampNeg).toInt64) hx hb dX12_valueOf_15 rfl ?_
    refine W.widen (k := 0) (n := 0) (by omega) (by omega) ?_
    have hP9 := hP
    have hD9 := hD
    have hK9 := hK.sub (tys' := []) [] rfl
    exact W.lret (v := (f_part a0.toNatClampNeg).toInt64) hx hb hr (fun t ht hW => ⟨⟨(f_part a0.toNatClampNeg).toInt64, (g 57), rfl, ((fun e9 => ⟨by rw [e9], by rw [e9]⟩ : fq_valueOf f_knot f_part f_other f_names f_value a0 (g 57) = ((f_part a0.toNatClampNeg).toInt64, (g 57)) → _) ((by rw [fq_valueOf]; (try rw [if_pos c_1]); try rfl))), by rw [ht]; exact hP9, va_K.moved hW.alike hK9, hD9⟩, hS.F ht⟩) hS.2.2 dX12_valueOf_16
