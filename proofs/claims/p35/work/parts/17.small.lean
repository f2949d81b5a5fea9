def fw_isEmpty (w0 : Int32) (w1 : Int32) (w2 : Int32) (w3 : Int32) (w4 : Int32) : Int32 := (if w0 = (-1) then (if w1 = (-1) then (if w2 = (-1) then (if w3 = (-1) then (if w4 = (-1) then (1 : Int32) else (0 : Int32)) else (0 : Int32)) else (0 : Int32)) else (0 : Int32)) else (0 : Int32))
theorem dX10_isEmpty_0 : decode cX10_isEmpty 0 = .ok (.aload_n 0, 1) := zk_42 (by decide +kernel)
theorem dX10_isEmpty_1 : decode cX10_isEmpty 1 = .ok (.getfield 9, 3) := zk_180 (by decide +kernel)
theorem dX10_isEmpty_4 : decode cX10_isEmpty 4 = .ok (.iconst (-1), 1) := zk_2 (by decide +kernel)
theorem dX10_isEmpty_5 : decode cX10_isEmpty 5 = .ok (.if_icmp .ne 39, 3) := zk_160 (by decide +kernel)
theorem dX10_isEmpty_44 : decode cX10_isEmpty 44 = .ok (.iconst 0, 1) := zk_3 (by decide +kernel)
theorem dX10_isEmpty_45 : decode cX10_isEmpty 45 = .ok (.ireturn, 1) := zk_172 (by decide +kernel)
theorem dX10_isEmpty_8 : decode cX10_isEmpty 8 = .ok (.aload_n 0, 1) := zk_42 (by decide +kernel)
theorem dX10_isEmpty_9 : decode cX10_isEmpty 9 = .ok (.getfield 15, 3) := zk_180 (by decide +kernel)
theorem dX10_isEmpty_12 : decode cX10_isEmpty 12 = .ok (.iconst (-1), 1) := zk_2 (by decide +kernel)
theorem dX10_isEmpty_13 : decode cX10_isEmpty 13 = .ok (.if_icmp .ne 31, 3) := zk_160 (by decide +kernel)
theorem dX10_isEmpty_16 : decode cX10_isEmpty 16 = .ok (.aload_n 0, 1) := zk_42 (by decide +kernel)
theorem dX10_isEmpty_17 : decode cX10_isEmpty 17 = .ok (.getfield 18, 3) := zk_180 (by decide +kernel)
theorem dX10_isEmpty_20 : decode cX10_isEmpty 20 = .ok (.iconst (-1), 1) := zk_2 (by decide +kernel)
theorem dX10_isEmpty_21 : decode cX10_isEmpty 21 = .ok (.if_icmp .ne 23, 3) := zk_160 (by decide +kernel)
theorem dX10_isEmpty_24 : decode cX10_isEmpty 24 = .ok (.aload_n 0, 1) := zk_42 (by decide +kernel)
theorem dX10_isEmpty_25 : decode cX10_isEmpty 25 = .ok (.getfield 21, 3) := zk_180 (by decide +kernel)
theorem dX10_isEmpty_28 : decode cX10_isEmpty 28 = .ok (.iconst (-1), 1) := zk_2 (by decide +kernel)
theorem dX10_isEmpty_29 : decode cX10_isEmpty 29 = .ok (.if_icmp .ne 15, 3) := zk_160 (by decide +kernel)
theorem dX10_isEmpty_32 : decode cX10_isEmpty 32 = .ok (.aload_n 0, 1) := zk_42 (by decide +kernel)
theorem dX10_isEmpty_33 : decode cX10_isEmpty 33 = .ok (.getfield 24, 3) := zk_180 (by decide +kernel)
theorem dX10_isEmpty_36 : decode cX10_isEmpty 36 = .ok (.iconst (-1), 1) := zk_2 (by decide +kernel)
theorem dX10_isEmpty_37 : decode cX10_isEmpty 37 = .ok (.if_icmp .ne 7, 3) := zk_160 (by decide +kernel)
theorem dX10_isEmpty_40 : decode cX10_isEmpty 40 = .ok (.iconst 1, 1) := zk_4 (by decide +kernel)
theorem dX10_isEmpty_41 : decode cX10_isEmpty 41 = .ok (.goto 4, 3) := zk_167 (by decide +kernel)
set_option maxHeartbeats 4000000 in
set_option maxRecDepth 100000 in
theorem gw_isEmpty (l : Launch) (dC : Nat → ClassId) (dI : Nat → Nat → Nat) (wi : Nat) (w0 : Int32) (w1 : Int32) (w2 : Int32) (w3 : Int32) (w4 : Int32) : Met l yX10_isEmpty (Cond.code yX10_isEmpty cX10_isEmpty 1 (some .boolean) :: wsL_law) ({ frames := 0, cells := 0, slots := 0, locals := 0 }) (va_Pc [.ref wi] (fun U => va_P (dC, dI) vwCl [(eO10a wi w0 w1 w2 w3 w4)] U.heap ∧ va_K (dC, dI) vwCl [] U)) (vp_Si (fun r => r = fw_isEmpty w0 w1 w2 w3 w4)) 0 0 (fun _ => False) := by
  refine Met.ofW (cc := cX10_isEmpty) (maxL := 1) (ret := (some .boolean)) (by decide) rfl ?_
  intro p e s m args below meth c s₁ B hml hv
  obtain ⟨rfl, hP, hK⟩ := hv
  have hx := B.exec
  have hb := B.bytes
  have hr := B.returns
  have hts := atoms_spec (ws := Cond.code yX10_isEmpty cX10_isEmpty 1 (some .boolean) :: wsL_law) B.pre
  have htw : ∀ w ∈ wsL_law, w.before _ s = true := fun w h => hts w (List.mem_cons_of_mem _ h)
  have hown : s.vm.findClass RX10 = some m.cls := findClass_of_methodNamed B.named
  have hlocks := B.notSynchronized
  have hl := lv_entry ([.ref wi]) (n := 1) (Nat.le_of_ble_eq_true rfl)
  rw [lg_entry_eq]
  generalize (lg_sl ([.ref wi]) ++ List.replicate (1 - (lg_sl ([.ref wi])).length) Slot.unset).toArray = ls at hl ⊢
  have hl : lv_has ls 1 [(0, .ref wi)] := hl
  refine lv_aload_n hx hb dX10_isEmpty_0 rfl (lv_at hl 0 rfl) ?_
  refine va_get (D := (dC, dI)) (ci := 10) (v := .int w0) (C := RX10) (T := TX10) (N := 5) hx hb htw inlX10 hown hK hP 0 rfl rfl 0 (by decide) (htw _ (ck_42 _ (List.mem_of_getElem? (i := 4) rfl))) (fun _ h9 => h9) rfl dX10_isEmpty_1 ?_
  refine lv_iconst (v := (-1)) hx hb dX10_isEmpty_4 (by decide) ?_
  refine lv_icmp_ne (tgt := 44) hx hb dX10_isEmpty_5 (by decide) (fun c_1 => ?_) (fun c_1 => ?_)
  · refine lv_iconst (v := 0) hx hb dX10_isEmpty_44 (by decide) ?_
    exact W.zret (v := 0) hx hb hr (by first | rfl | decide) (fun t ht hW => ⟨0, rfl, (by rw [fw_isEmpty]; (try rw [if_neg c_1]); try rfl), ht⟩) (fun _ h => by cases h) dX10_isEmpty_45
  · refine lv_aload_n hx hb dX10_isEmpty_8 rfl (lv_at hl 0 rfl) ?_
    refine va_get (D := (dC, dI)) (ci := 10) (v := .int w1) (C := RX10) (T := TX10) (N := 5) hx hb htw inlX10 hown hK hP 0 rfl rfl 1 (by decide) (htw _ (ck_42 _ (List.mem_of_getElem? (i := 5) rfl))) (fun _ h9 => h9) rfl dX10_isEmpty_9 ?_
    refine lv_iconst (v := (-1)) hx hb dX10_isEmpty_12 (by decide) ?_
    refine lv_icmp_ne (tgt := 44) hx hb dX10_isEmpty_13 (by decide) (fun c_2 => ?_) (fun c_2 => ?_)
    · refine lv_iconst (v := 0) hx hb dX10_isEmpty_44 (by decide) ?_
      exact W.zret (v := 0) hx hb hr (by first | rfl | decide) (fun t ht hW => ⟨0, rfl, (by rw [fw_isEmpty]; (try rw [if_pos c_1]); (try rw [if_neg c_2]); try rfl), ht⟩) (fun _ h => by cases h) dX10_isEmpty_45
    · refine lv_aload_n hx hb dX10_isEmpty_16 rfl (lv_at hl 0 rfl) ?_
      refine va_get (D := (dC, dI)) (ci := 10) (v := .int w2) (C := RX10) (T := TX10) (N := 5) hx hb htw inlX10 hown hK hP 0 rfl rfl 2 (by decide) (htw _ (ck_42 _ (List.mem_of_getElem? (i := 6) rfl))) (fun _ h9 => h9) rfl dX10_isEmpty_17 ?_
      refine lv_iconst (v := (-1)) hx hb dX10_isEmpty_20 (by decide) ?_
      refine lv_icmp_ne (tgt := 44) hx hb dX10_isEmpty_21 (by decide) (fun c_3 => ?_) (fun c_3 => ?_)
      · refine lv_iconst (v := 0) hx hb dX10_isEmpty_44 (by decide) ?_
        exact W.zret (v := 0) hx hb hr (by first | rfl | decide) (fun t ht hW => ⟨0, rfl, (by rw [fw_isEmpty]; (try rw [if_pos c_1]); (try rw [if_pos c_2]); (try rw [if_neg c_3]); try rfl), ht⟩) (fun _ h => by cases h) dX10_isEmpty_45
      · refine lv_aload_n hx hb dX10_isEmpty_24 rfl (lv_at hl 0 rfl) ?_
        refine va_get (D := (dC, dI)) (ci := 10) (v := .int w3) (C := RX10) (T := TX10) (N := 5) hx hb htw inlX10 hown hK hP 0 rfl rfl 3 (by decide) (htw _ (ck_42 _ (List.mem_of_getElem? (i := 7) rfl))) (fun _ h9 => h9) rfl dX10_isEmpty_25 ?_
        refine lv_iconst (v := (-1)) hx hb dX10_isEmpty_28 (by decide) ?_
        refine lv_icmp_ne (tgt := 44) hx hb dX10_isEmpty_29 (by decide) (fun c_4 => ?_) (fun c_4 => ?_)
        · refine lv_iconst (v := 0) hx hb dX10_isEmpty_44 (by decide) ?_
          exact W.zret (v := 0) hx hb hr (by first | rfl | decide) (fun t ht hW => ⟨0, rfl, (by rw [fw_isEmpty]; (try rw [if_pos c_1]); (try rw [if_pos c_2]); (try rw [if_pos c_3]); (try rw [if_neg c_4]); try rfl), ht⟩) (fun _ h => by cases h) dX10_isEmpty_45
        · refine lv_aload_n hx hb dX10_isEmpty_32 rfl (lv_at hl 0 rfl) ?_
          refine va_get (D := (dC, dI)) (ci := 10) (v := .int w4) (C := RX10) (T := TX10) (N := 5) hx hb htw inlX10 hown hK hP 0 rfl rfl 4 (by decide) (htw _ (ck_42 _ (List.mem_of_getElem? (i := 8) rfl))) (fun _ h9 => h9) rfl dX10_isEmpty_33 ?_
          refine lv_iconst (v := (-1)) hx hb dX10_isEmpty_36 (by decide) ?_
          refine lv_icmp_ne (tgt := 44) hx hb dX10_isEmpty_37 (by decide) (fun c_5 => ?_) (fun c_5 => ?_)
          · refine lv_iconst (v := 0) hx hb dX10_isEmpty_44 (by decide) ?_
            exact W.zret (v := 0) hx hb hr (by first | rfl | decide) (fun t ht hW => ⟨0, rfl, (by rw [fw_isEmpty]; (try rw [if_pos c_1]); (try rw [if_pos c_2]); (try rw [if_pos c_3]); (try rw [if_pos c_4]); (try rw [if_neg c_5]); try rfl), ht⟩) (fun _ h => by cases h) dX10_isEmpty_45
          · refine lv_iconst (v := 1) hx hb dX10_isEmpty_40 (by decide) ?_
            refine lv_goto (tgt := 45) hx hb dX10_isEmpty_41 (by decide) ?_
            exact W.zret (v := 1) hx hb hr (by first | rfl | decide) (fun t ht hW => ⟨1, rfl, (by rw [fw_isEmpty]; (try rw [if_pos c_1]); (try rw [if_pos c_2]); (try rw [if_pos c_3]); (try rw [if_pos c_4]); (try rw [if_pos c_5]); try rfl), ht⟩) (fun _ h => by cases h) dX10_isEmpty_45

def fw_clear  : (Int32) × (Int32) × (Int32) × (Int32) × (Int32) := ((-1 : Int32), (-1 : Int32), (-1 : Int32), (-1 : Int32), (-1 : Int32))
theorem dX10_clear_0 : decode cX10_clear 0 = .ok (.aload_n 0, 1) := zk_42 (by decide +kernel)
theorem dX10_clear_1 : decode cX10_clear 1 = .ok (.iconst (-1), 1) := zk_2 (by decide +kernel)
theorem dX10_clear_2 : decode cX10_clear 2 = .ok (.putfield 9, 3) := zk_181 (by decide +kernel)
theorem dX10_clear_5 : decode cX10_clear 5 = .ok (.aload_n 0, 1) := zk_42 (by decide +kernel)
theorem dX10_clear_6 : decode cX10_clear 6 = .ok (.iconst (-1), 1) := zk_2 (by decide +kernel)
theorem dX10_clear_7 : decode cX10_clear 7 = .ok (.putfield 15, 3) := zk_181 (by decide +kernel)
theorem dX10_clear_10 : decode cX10_clear 10 = .ok (.aload_n 0, 1) := zk_42 (by decide +kernel)
theorem dX10_clear_11 : decode cX10_clear 11 = .ok (.iconst (-1), 1) := zk_2 (by decide +kernel)
theorem dX10_clear_12 : decode cX10_clear 12 = .ok (.putfield 18, 3) := zk_181 (by decide +kernel)
theorem dX10_clear_15 : decode cX10_clear 15 = .ok (.aload_n 0, 1) := zk_42 (by decide +kernel)
theorem dX10_clear_16 : decode cX10_clear 16 = .ok (.iconst (-1), 1) := zk_2 (by decide +kernel)
theorem dX10_clear_17 : decode cX10_clear 17 = .ok (.putfield 21, 3) := zk_181 (by decide +kernel)
theorem dX10_clear_20 : decode cX10_clear 20 = .ok (.aload_n 0, 1) := zk_42 (by decide +kernel)
theorem dX10_clear_21 : decode cX10_clear 21 = .ok (.iconst (-1), 1) := zk_2 (by decide +kernel)
theorem dX10_clear_22 : decode cX10_clear 22 = .ok (.putfield 24, 3) := zk_181 (by decide +kernel)
theorem dX10_clear_25 : decode cX10_clear 25 = .ok (.return_, 1) := zk_177 (by decide +kernel)
set_option maxHeartbeats 4000000 in
set_option maxRecDepth 100000 in
theorem gw_clear (l : Launch) (dC : Nat → ClassId) (dI : Nat → Nat → Nat) (wi : Nat) (w0 : Int32) (w1 : Int32) (w2 : Int32) (w3 : Int32) (w4 : Int32) (sz : Nat) : Met l yX10_clear (Cond.code yX10_clear cX10_clear 1 none :: wsL_law) ({ frames := 0, cells := 0, slots := 0, locals := 0 }) (va_Pc [.ref wi] (fun U => U.heap.size = sz ∧ va_P (dC, dI) vwCl [(eO10a wi w0 w1 w2 w3 w4)] U.heap ∧ va_K (dC, dI) vwCl [] U ∧ va_D (fun _ => True) [(eO10a wi w0 w1 w2 w3 w4)])) (va_Qv (fun (u : (Int32) × (Int32) × (Int32) × (Int32) × (Int32)) => u = fw_clear) (fun (u : (Int32) × (Int32) × (Int32) × (Int32) × (Int32)) t => va_P (dC, dI) vwCl [(eO10a wi u.1 u.2.1 u.2.2.1 u.2.2.2.1 u.2.2.2.2)] t.heap ∧ va_K (dC, dI) vwCl [] t ∧ va_D (va_A [(eO10a wi w0 w1 w2 w3 w4)] sz) [(eO10a wi u.1 u.2.1 u.2.2.1 u.2.2.2.1 u.2.2.2.2)]) (va_A [(eO10a wi w0 w1 w2 w3 w4)] sz)) 0 0 (va_A [(eO10a wi w0 w1 w2 w3 w4)] sz) := by
  refine Met.ofW (cc := cX10_clear) (maxL := 1) (ret := none) (by decide) rfl ?_
  intro p e s m args below meth c s₁ B hml hv
  obtain ⟨rfl, hsz, hP, hK, hD0⟩ := hv
  have hx := B.exec
  have hb := B.bytes
  have hr := B.returns
  have hts := atoms_spec (ws := Cond.code yX10_clear cX10_clear 1 none :: wsL_law) B.pre
  have htw : ∀ w ∈ wsL_law, w.before _ s = true := fun w h => hts w (List.mem_cons_of_mem _ h)
  have hown : s.vm.findClass RX10 = some m.cls := findClass_of_methodNamed B.named
  have hlocks := B.notSynchronized
  subst hsz
  have hD := hD0.self (sz := s.heap.size)
  generalize hAe : va_A [(eO10a wi w0 w1 w2 w3 w4)] s.heap.size = A at hD ⊢
  have hA : ∀ q : Nat, s.heap.size ≤ q → A q := fun q h => by rw [← hAe]; exact Or.inr h
  obtain ⟨H, rH⟩ : ∃ z : Heap, z = s.heap := ⟨_, rfl⟩
  have hS : va_S A s.heap H [] := by rw [rH]; exact va_S.rf
  have hP : va_P (dC, dI) vwCl [(eO10a wi w0 w1 w2 w3 w4)] H := by rw [rH]; exact hP
  rw [← rH]
  have hl := lv_entry ([.ref wi]) (n := 1) (Nat.le_of_ble_eq_true rfl)
  rw [lg_entry_eq]
  generalize (lg_sl ([.ref wi]) ++ List.replicate (1 - (lg_sl ([.ref wi])).length) Slot.unset).toArray = ls at hl ⊢
  have hl : lv_has ls 1 [(0, .ref wi)] := hl
  refine lv_aload_n hx hb dX10_clear_0 rfl (lv_at hl 0 rfl) ?_
  refine lv_iconst (v := (-1)) hx hb dX10_clear_1 (by decide) ?_
  refine va_put (D := (dC, dI)) (ci := 10) (v := .int (-1)) (ty := tyX10 0) (C := RX10) (T := TX10) (N := 5) hx hb htw inlX10 tyX10 tyX10_ok nmX10 hown hK hP hD hS 0 rfl rfl 0 (by decide) (htw _ (ck_42 _ (List.mem_of_getElem? (i := 4) rfl))) (fun _ h9 => h9) rfl (tyX10_ok 0 (by decide)) rfl rfl (Nat.le_of_ble_eq_true rfl) dX10_clear_2 (fun H locs hP hD hS => ?_)
  obtain ⟨hP, hD⟩ := zre [(eO10a wi (-1) w1 w2 w3 w4)] hP hD rfl
  refine lv_aload_n hx hb dX10_clear_5 rfl (lv_at hl 0 rfl) ?_
  refine lv_iconst (v := (-1)) hx hb dX10_clear_6 (by decide) ?_
  refine va_put (D := (dC, dI)) (ci := 10) (v := .int (-1)) (ty := tyX10 1) (C := RX10) (T := TX10) (N := 5) hx hb htw inlX10 tyX10 tyX10_ok nmX10 hown hK hP hD hS 0 rfl rfl 1 (by decide) (htw _ (ck_42 _ (List.mem_of_getElem? (i := 5) rfl))) (fun _ h9 => h9) rfl (tyX10_ok 1 (by decide)) rfl rfl (Nat.le_of_ble_eq_true rfl) dX10_clear_7 (fun H locs hP hD hS => ?_)
  obtain ⟨hP, hD⟩ := zre [(eO10a wi (-1) (-1) w2 w3 w4)] hP hD rfl
  refine lv_aload_n hx hb dX10_clear_10 rfl (lv_at hl 0 rfl) ?_
  refine lv_iconst (v := (-1)) hx hb dX10_clear_11 (by decide) ?_
  refine va_put (D := (dC, dI)) (ci := 10) (v := .int (-1)) (ty := tyX10 2) (C := RX10) (T := TX10) (N := 5) hx hb htw inlX10 tyX10 tyX10_ok nmX10 hown hK hP hD hS 0 rfl rfl 2 (by decide) (htw _ (ck_42 _ (List.mem_of_getElem? (i := 6) rfl))) (fun _ h9 => h9) rfl (tyX10_ok 2 (by decide)) rfl rfl (Nat.le_of_ble_eq_true rfl) dX10_clear_12 (fun H locs hP hD hS => ?_)
  obtain ⟨hP, hD⟩ := zre [(eO10a wi (-1) (-1) (-1) w3 w4)] hP hD rfl
  refine lv_aload_n hx hb dX10_clear_15 rfl (lv_at hl 0 rfl) ?_
  refine lv_iconst (v := (-1)) hx hb dX10_clear_16 (by decide) ?_
  refine va_put (D := (dC, dI)) (ci := 10) (v := .int (-1)) (ty := tyX10 3) (C := RX10) (T := TX10) (N := 5) hx hb htw inlX10 tyX10 tyX10_ok nmX10 hown hK hP hD hS 0 rfl rfl 3 (by decide) (htw _ (ck_42 _ (List.mem_of_getElem? (i := 7) rfl))) (fun _ h9 => h9) rfl (tyX10_ok 3 (by decide)) rfl rfl (Nat.le_of_ble_eq_true rfl) dX10_clear_17 (fun H locs hP hD hS => ?_)
  obtain ⟨hP, hD⟩ := zre [(eO10a wi (-1) (-1) (-1) (-1) w4)] hP hD rfl
  refine lv_aload_n hx hb dX10_clear_20 rfl (lv_at hl 0 rfl) ?_
  refine lv_iconst (v := (-1)) hx hb dX10_clear_21 (by decide) ?_
  refine va_put (D := (dC, dI)) (ci := 10) (v := .int (-1)) (ty := tyX10 4) (C := RX10) (T := TX10) (N := 5) hx hb htw inlX10 tyX10 tyX10_ok nmX10 hown hK hP hD hS 0 rfl rfl 4 (by decide) (htw _ (ck_42 _ (List.mem_of_getElem? (i := 8) rfl))) (fun _ h9 => h9) rfl (tyX10_ok 4 (by decide)) rfl rfl (Nat.le_of_ble_eq_true rfl) dX10_clear_22 (fun H locs hP hD hS => ?_)
  obtain ⟨hP, hD⟩ := zre [(eO10a wi (-1) (-1) (-1) (-1) (-1))] hP hD rfl
  refine W.widen (k := 0) (n := 0) (by omega) (by omega) ?_
  have hP9 := hP
  have hD9 := hD
  have hK9 := hK.sub (tys' := []) [] rfl
  exact W.vret hx hb hr (fun t ht hW => ⟨⟨((-1), (-1), (-1), (-1), (-1)), rfl, (rfl), by rw [ht]; exact hP9, va_K.moved hW.alike hK9, hD9⟩, hS.F ht⟩) hS.2.2 dX10_clear_25

def fb_has (fTo : Nat → Int32) (a0 : Int32) (a1 : Int32) : Int32 := (if a0 < 0 then (0 : Int32) else (if 5 ≤ a0 then (0 : Int32) else (if a1 < 0 then (0 : Int32) else (if fTo a0.toNatClampNeg ≤ a1 then (0 : Int32) else (1 : Int32)))))
theorem dX0_has_0 : decode cX0_has 0 = .ok (.iload_n 1, 1) := zk_27 (by decide +kernel)
theorem dX0_has_1 : decode cX0_has 1 = .ok (.ifCond .lt 26, 3) := zk_155 (by decide +kernel)
theorem dX0_has_27 : decode cX0_has 27 = .ok (.iconst 0, 1) := zk_3 (by decide +kernel)
theorem dX0_has_28 : decode cX0_has 28 = .ok (.ireturn, 1) := zk_172 (by decide +kernel)
theorem dX0_has_4 : decode cX0_has 4 = .ok (.iload_n 1, 1) := zk_27 (by decide +kernel)
theorem dX0_has_5 : decode cX0_has 5 = .ok (.iconst 5, 1) := zk_8 (by decide +kernel)
theorem dX0_has_6 : decode cX0_has 6 = .ok (.if_icmp .ge 21, 3) := zk_162 (by decide +kernel)
theorem dX0_has_9 : decode cX0_has 9 = .ok (.iload_n 2, 1) := zk_28 (by decide +kernel)
theorem dX0_has_10 : decode cX0_has 10 = .ok (.ifCond .lt 17, 3) := zk_155 (by decide +kernel)
theorem dX0_has_13 : decode cX0_has 13 = .ok (.iload_n 2, 1) := zk_28 (by decide +kernel)
theorem dX0_has_14 : decode cX0_has 14 = .ok (.aload_n 0, 1) := zk_42 (by decide +kernel)
theorem dX0_has_15 : decode cX0_has 15 = .ok (.getfield 9, 3) := zk_180 (by decide +kernel)
theorem dX0_has_18 : decode cX0_has 18 = .ok (.iload_n 1, 1) := zk_27 (by decide +kernel)
theorem dX0_has_19 : decode cX0_has 19 = .ok (.iaload, 1) := zk_46 (by decide +kernel)
theorem dX0_has_20 : decode cX0_has 20 = .ok (.if_icmp .ge 7, 3) := zk_162 (by decide +kernel)
theorem dX0_has_23 : decode cX0_has 23 = .ok (.iconst 1, 1) := zk_4 (by decide +kernel)
theorem dX0_has_24 : decode cX0_has 24 = .ok (.goto 4, 3) := zk_167 (by decide +kernel)
set_option maxHeartbeats 4000000 in
set_option maxRecDepth 100000 in
theorem gb_has (l : Launch) (dC : Nat → ClassId) (dI : Nat → Nat → Nat) (bk : Nat) (bto : Nat) (bnm : Nat) (bla : Nat) (bsk : Nat) (bru : Nat) (bbo : Nat) (bdi : Nat) (bda : Nat) (bdk : Nat) (bdt : Nat) (bdp : Nat) (bno : Nat) (cTo : ClassId) (fTo : Nat → Int32) (a0 : Int32) (a1 : Int32) : Met l yX0_has (Cond.code yX0_has cX0_has 3 (some .boolean) :: wsL_law) ({ frames := 0, cells := 0, slots := 0, locals := 0 }) (va_Pc [.ref bk, .int a0, .int a1] (fun U => va_P (dC, dI) vwCl [(eO0a bk bto bnm bla bsk bru bbo bdi bda bdk bdt bdp bno), (eA0 bto cTo 5 fTo)] U.heap ∧ va_K (dC, dI) vwCl [(cTo, .int)] U)) (vp_Si (fun r => r = fb_has fTo a0 a1)) 0 0 (fun _ => False) := by
  refine Met.ofW (cc := cX0_has) (maxL := 3) (ret := (some .boolean)) (by decide) rfl ?_
  intro p e s m args below meth c s₁ B hml hv
  obtain ⟨rfl, hP, hK⟩ := hv
  have hx := B.exec
  have hb := B.bytes
  have hr := B.returns
  have hts := atoms_spec (ws := Cond.code yX0_has cX0_has 3 (some .boolean) :: wsL_law) B.pre
  have htw : ∀ w ∈ wsL_law, w.before _ s = true := fun w h => hts w (List.mem_cons_of_mem _ h)
  have hown : s.vm.findClass RX0 = some m.cls := findClass_of_methodNamed B.named
  have hlocks := B.notSynchronized
  have hl := lv_entry ([.ref bk, .int a0, .int a1]) (n := 3) (Nat.le_of_ble_eq_true rfl)
  rw [lg_entry_eq]
  generalize (lg_sl ([.ref bk, .int a0, .int a1]) ++ List.replicate (3 - (lg_sl ([.ref bk, .int a0, .int a1])).length) Slot.unset).toArray = ls at hl ⊢
  have hl : lv_has ls 3 [(0, .ref bk), (1, .int a0), (2, .int a1)] := hl
  refine lv_iload_n hx hb dX0_has_0 rfl (lv_at hl 1 rfl) ?_
  refine lv_if_lt (tgt := 27) hx hb dX0_has_1 (by decide) (fun c_1 => ?_) (fun c_1 => ?_)
  · refine lv_iconst (v := 0) hx hb dX0_has_27 (by decide) ?_
    exact W.zret (v := 0) hx hb hr (by first | rfl | decide) (fun t ht hW => ⟨0, rfl, (by rw [fb_has]; (try rw [if_pos c_1]); try rfl), ht⟩) (fun _ h => by cases h) dX0_has_28
  · refine lv_iload_n hx hb dX0_has_4 rfl (lv_at hl 1 rfl) ?_
    refine lv_iconst (v := 5) hx hb dX0_has_5 (by decide) ?_
    refine lv_icmp_ge (tgt := 27) hx hb dX0_has_6 (by decide) (fun c_2 => ?_) (fun c_2 => ?_)
    · refine lv_iconst (v := 0) hx hb dX0_has_27 (by decide) ?_
      exact W.zret (v := 0) hx hb hr (by first | rfl | decide) (fun t ht hW => ⟨0, rfl, (by rw [fb_has]; (try rw [if_neg c_1]); (try rw [if_pos c_2]); try rfl), ht⟩) (fun _ h => by cases h) dX0_has_28
    · refine lv_iload_n hx hb dX0_has_9 rfl (lv_at hl 2 rfl) ?_
      refine lv_if_lt (tgt := 27) hx hb dX0_has_10 (by decide) (fun c_3 => ?_) (fun c_3 => ?_)
      · refine lv_iconst (v := 0) hx hb dX0_has_27 (by decide) ?_
        exact W.zret (v := 0) hx hb hr (by first | rfl | decide) (fun t ht hW => ⟨0, rfl, (by rw [fb_has]; (try rw [if_neg c_1]); (try rw [if_neg c_2]); (try rw [if_pos c_3]); try rfl), ht⟩) (fun _ h => by cases h) dX0_has_28
      · refine lv_iload_n hx hb dX0_has_13 rfl (lv_at hl 2 rfl) ?_
        refine lv_aload_n hx hb dX0_has_14 rfl (lv_at hl 0 rfl) ?_
        refine va_get (D := (dC, dI)) (ci := 0) (v := .ref bto) (C := RX0) (T := TX0) (N := 12) hx hb htw inlX0 hown hK hP 0 rfl rfl 0 (by decide) (htw _ (ck_5 _ (List.mem_of_getElem? (i := 21) rfl))) (fun _ h9 => h9) rfl dX0_has_15 ?_
        refine lv_iload_n hx hb dX0_has_18 rfl (lv_at hl 1 rfl) ?_
        refine va_iald hx hb hK hP 1 0 rfl rfl (xg_inr (N := 5) rfl c_1 c_2) dX0_has_19 ?_
        refine lv_icmp_ge (tgt := 27) hx hb dX0_has_20 (by decide) (fun c_4 => ?_) (fun c_4 => ?_)
        · refine lv_iconst (v := 0) hx hb dX0_has_27 (by decide) ?_
          exact W.zret (v := 0) hx hb hr (by first | rfl | decide) (fun t ht hW => ⟨0, rfl, (by rw [fb_has]; (try rw [if_neg c_1]); (try rw [if_neg c_2]); (try rw [if_neg c_3]); (try rw [if_pos c_4]); try rfl), ht⟩) (fun _ h => by cases h) dX0_has_28
        · refine lv_iconst (v := 1) hx hb dX0_has_23 (by decide) ?_
          refine lv_goto (tgt := 28) hx hb dX0_has_24 (by decide) ?_
          exact W.zret (v := 1) hx hb hr (by first | rfl | decide) (fun t ht hW => ⟨1, rfl, (by rw [fb_has]; (try rw [if_neg c_1]); (try rw [if_neg c_2]); (try rw [if_neg c_3]); (try rw [if_neg c_4]); try rfl), ht⟩) (fun _ h => by cases h) dX0_has_28

def fn_begin (fNs : Nat → Int32) (a0 : Int32) : (Nat → Int32) := (if a0 < 0 then fNs else (if 12 ≤ a0 then fNs else (upd fNs a0.toNatClampNeg 0)))
theorem dX6_begin_0 : decode cX6_begin 0 = .ok (.iload_n 1, 1) := zk_27 (by decide +kernel)
theorem dX6_begin_1 : decode cX6_begin 1 = .ok (.ifCond .lt 19, 3) := zk_155 (by decide +kernel)
theorem dX6_begin_20 : decode cX6_begin 20 = .ok (.return_, 1) := zk_177 (by decide +kernel)
theorem dX6_begin_4 : decode cX6_begin 4 = .ok (.iload_n 1, 1) := zk_27 (by decide +kernel)
theorem dX6_begin_5 : decode cX6_begin 5 = .ok (.aload_n 0, 1) := zk_42 (by decide +kernel)
theorem dX6_begin_6 : decode cX6_begin 6 = .ok (.getfield 9, 3) := zk_180 (by decide +kernel)
theorem dX6_begin_9 : decode cX6_begin 9 = .ok (.arraylength, 1) := zk_190 (by decide +kernel)
theorem dX6_begin_10 : decode cX6_begin 10 = .ok (.if_icmp .ge 10, 3) := zk_162 (by decide +kernel)
theorem dX6_begin_13 : decode cX6_begin 13 = .ok (.aload_n 0, 1) := zk_42 (by decide +kernel)
theorem dX6_begin_14 : decode cX6_begin 14 = .ok (.getfield 9, 3) := zk_180 (by decide +kernel)
theorem dX6_begin_17 : decode cX6_begin 17 = .ok (.iload_n 1, 1) := zk_27 (by decide +kernel)
theorem dX6_begin_18 : decode cX6_begin 18 = .ok (.iconst 0, 1) := zk_3 (by decide +kernel)
theorem dX6_begin_19 : decode cX6_begin 19 = .ok (.iastore, 1) := zk_79 (by decide +kernel)
set_option maxHeartbeats 4000000 in
set_option maxRecDepth 100000 in
theorem gn_begin (l : Launch) (dC : Nat → ClassId) (dI : Nat → Nat → Nat) (no : Nat) (ns : Int32) (nsa : Nat) (nfa : Nat) (nza : Nat) (cNs : ClassId) (fNs : Nat → Int32) (a0 : Int32) (sz : Nat) : Met l yX6_begin (Cond.code yX6_begin cX6_begin 2 none :: wsL_law) ({ frames := 0, cells := 0, slots := 0, locals := 0 }) (va_Pc [.ref no, .int a0] (fun U => U.heap.size = sz ∧ va_P (dC, dI) vwCl [(eO6a no ns nsa nfa nza), (eA0 nsa cNs 12 fNs)] U.heap ∧ va_K (dC, dI) vwCl [(cNs, .int)] U ∧ va_D (fun _ => True) [(eO6a no ns nsa nfa nza), (eA0 nsa cNs 12 fNs)])) (va_Qv (fun (u : (Nat → Int32)) => u = fn_begin fNs a0) (fun (u : (Nat → Int32)) t => va_P (dC, dI) vwCl [(eO6a no ns nsa nfa nza), (eA0 nsa cNs 12 u)] t.heap ∧ va_K (dC, dI) vwCl [] t ∧ va_D (va_A [(eO6a no ns nsa nfa nza), (eA0 nsa cNs 12 fNs)] sz) [(eO6a no ns nsa nfa nza), (eA0 nsa cNs 12 u)]) (va_A [(eO6a no ns nsa nfa nza), (eA0 nsa cNs 12 fNs)] sz)) 0 0 (va_A [(eO6a no ns nsa nfa nza), (eA0 nsa cNs 12 fNs)] sz) := by
  refine Met.ofW (cc := cX6_begin) (maxL := 2) (ret := none) (by decide) rfl ?_
  intro p e s m args below meth c s₁ B hml hv
  obtain ⟨rfl, hsz, hP, hK, hD0⟩ := hv
  have hx := B.exec
  have hb := B.bytes
  have hr := B.returns
  have hts := atoms_spec (ws := Cond.code yX6_begin cX6_begin 2 none :: wsL_law) B.pre
  have htw : ∀ w ∈ wsL_law, w.before _ s = true := fun w h => hts w (List.mem_cons_of_mem _ h)
  have hown : s.vm.findClass RX6 = some m.cls := findClass_of_methodNamed B.named
  have hlocks := B.notSynchronized
  subst hsz
  have hD := hD0.self (sz := s.heap.size)
  generalize hAe : va_A [(eO6a no ns nsa nfa nza), (eA0 nsa cNs 12 fNs)] s.heap.size = A at hD ⊢
  have hA : ∀ q : Nat, s.heap.size ≤ q → A q := fun q h => by rw [← hAe]; exact Or.inr h
  obtain ⟨H, rH⟩ : ∃ z : Heap, z = s.heap := ⟨_, rfl⟩
  have hS : va_S A s.heap H [] := by rw [rH]; exact va_S.rf
  have hP : va_P (dC, dI) vwCl [(eO6a no ns nsa nfa nza), (eA0 nsa cNs 12 fNs)] H := by rw [rH]; exact hP
  rw [← rH]
  have hl := lv_entry ([.ref no, .int a0]) (n := 2) (Nat.le_of_ble_eq_true rfl)
  rw [lg_entry_eq]
  generalize (lg_sl ([.ref no, .int a0]) ++ List.replicate (2 - (lg_sl ([.ref no, .int a0])).length) Slot.unset).toArray = ls at hl ⊢
  have hl : lv_has ls 2 [(0, .ref no), (1, .int a0)] := hl
  refine lv_iload_n hx hb dX6_begin_0 rfl (lv_at hl 1 rfl) ?_
  refine lv_if_lt (tgt := 20) hx hb dX6_begin_1 (by decide) (fun c_1 => ?_) (fun c_1 => ?_)
  · refine W.widen (k := 0) (n := 0) (by omega) (by omega) ?_
    have hP9 := hP
    have hD9 := hD
    have hK9 := hK.sub (tys' := []) [] rfl
    exact W.vret hx hb hr (fun t ht hW => ⟨⟨fNs, rfl, (by rw [fn_begin]; (try rw [if_pos c_1]); try rfl), by rw [ht]; exact hP9, va_K.moved hW.alike hK9, hD9⟩, hS.F ht⟩) hS.2.2 dX6_begin_20
  · refine lv_iload_n hx hb dX6_begin_4 rfl (lv_at hl 1 rfl) ?_
    refine lv_aload_n hx hb dX6_begin_5 rfl (lv_at hl 0 rfl) ?_
    refine va_get (D := (dC, dI)) (ci := 6) (v := .ref nsa) (C := RX6) (T := TX6) (N := 4) hx hb htw inlX6 hown hK hP 0 rfl rfl 1 (by decide) (htw _ (ck_7 _ (List.mem_of_getElem? (i := 8) rfl))) (fun _ h9 => h9) rfl dX6_begin_6 ?_
    refine va_alen hx hb hK hP 1 0 rfl rfl (v := 12) rfl dX6_begin_9 ?_
    refine lv_icmp_ge (tgt := 20) hx hb dX6_begin_10 (by decide) (fun c_2 => ?_) (fun c_2 => ?_)
    · refine W.widen (k := 0) (n := 0) (by omega) (by omega) ?_
      have hP9 := hP
      have hD9 := hD
      have hK9 := hK.sub (tys' := []) [] rfl
      exact W.vret hx hb hr (fun t ht hW => ⟨⟨fNs, rfl, (by rw [fn_begin]; (try rw [if_neg c_1]); (try rw [if_pos c_2]); try rfl), by rw [ht]; exact hP9, va_K.moved hW.alike hK9, hD9⟩, hS.F ht⟩) hS.2.2 dX6_begin_20
    · refine lv_aload_n hx hb dX6_begin_13 rfl (lv_at hl 0 rfl) ?_
      refine va_get (D := (dC, dI)) (ci := 6) (v := .ref nsa) (C := RX6) (T := TX6) (N := 4) hx hb htw inlX6 hown hK hP 0 rfl rfl 1 (by decide) (htw _ (ck_7 _ (List.mem_of_getElem? (i := 8) rfl))) (fun _ h9 => h9) rfl dX6_begin_14 ?_
      refine lv_iload_n hx hb dX6_begin_17 rfl (lv_at hl 1 rfl) ?_
      refine lv_iconst (v := 0) hx hb dX6_begin_18 (by decide) ?_
      refine va_iast hx hb hK hP hD hS 1 0 rfl rfl (xg_inr (N := 12) rfl c_1 c_2) dX6_begin_19 (fun H locs hP hD hS => ?_)
      obtain ⟨hP, hD⟩ := zre [(eO6a no ns nsa nfa nza), (eA0 nsa cNs 12 (upd fNs a0.toNatClampNeg 0))] hP hD rfl
      refine W.widen (k := 0) (n := 0) (by omega) (by omega) ?_
      have hP9 := hP
      have hD9 := hD
      have hK9 := hK.sub (tys' := []) [] rfl
      exact W.vret hx hb hr (fun t ht hW => ⟨⟨(upd fNs a0.toNatClampNeg 0), rfl, (by rw [fn_begin]; (try rw [if_neg c_1]); (try rw [if_neg c_2]); try rfl), by rw [ht]; exact hP9, va_K.moved hW.alike hK9, hD9⟩, hS.F ht⟩) hS.2.2 dX6_begin_20

def fr_put (rsz : Int32) (fRc : Nat → Int32) (a0 : Int32) : (Int32) × (Nat → Int32) := (if 64 ≤ rsz then (rsz, fRc) else ((rsz + 1), (upd fRc rsz.toNatClampNeg a0)))
theorem dX8_put_0 : decode cX8_put 0 = .ok (.aload_n 0, 1) := zk_42 (by decide +kernel)
theorem dX8_put_1 : decode cX8_put 1 = .ok (.getfield 27, 3) := zk_180 (by decide +kernel)
theorem dX8_put_4 : decode cX8_put 4 = .ok (.aload_n 0, 1) := zk_42 (by decide +kernel)
theorem dX8_put_5 : decode cX8_put 5 = .ok (.getfield 13, 3) := zk_180 (by decide +kernel)
theorem dX8_put_8 : decode cX8_put 8 = .ok (.arraylength, 1) := zk_190 (by decide +kernel)
theorem dX8_put_9 : decode cX8_put 9 = .ok (.if_icmp .ge 23, 3) := zk_162 (by decide +kernel)
theorem dX8_put_32 : decode cX8_put 32 = .ok (.return_, 1) := zk_177 (by decide +kernel)
theorem dX8_put_12 : decode cX8_put 12 = .ok (.aload_n 0, 1) := zk_42 (by decide +kernel)
theorem dX8_put_13 : decode cX8_put 13 = .ok (.getfield 13, 3) := zk_180 (by decide +kernel)
theorem dX8_put_16 : decode cX8_put 16 = .ok (.aload_n 0, 1) := zk_42 (by decide +kernel)
theorem dX8_put_17 : decode cX8_put 17 = .ok (.getfield 27, 3) := zk_180 (by decide +kernel)
theorem dX8_put_20 : decode cX8_put 20 = .ok (.iload_n 1, 1) := zk_27 (by decide +kernel)
theorem dX8_put_21 : decode cX8_put 21 = .ok (.iastore, 1) := zk_79 (by decide +kernel)
theorem dX8_put_22 : decode cX8_put 22 = .ok (.aload_n 0, 1) := zk_42 (by decide +kernel)
theorem dX8_put_23 : decode cX8_put 23 = .ok (.dup, 1) := zk_89 (by decide +kernel)
theorem dX8_put_24 : decode cX8_put 24 = .ok (.getfield 27, 3) := zk_180 (by decide +kernel)
theorem dX8_put_27 : decode cX8_put 27 = .ok (.iconst 1, 1) := zk_4 (by decide +kernel)
theorem dX8_put_28 : decode cX8_put 28 = .ok (.iadd, 1) := zk_96 (by decide +kernel)
theorem dX8_put_29 : decode cX8_put 29 = .ok (.putfield 27, 3) := zk_181 (by decide +kernel)
set_option maxHeartbeats 4000000 in
set_option maxRecDepth 100000 in
theorem gru_put (l : Launch) (dC : Nat → ClassId) (dI : Nat → Nat → Nat) (ru : Nat) (rco : Nat) (rsz : Int32) (ren : Nat) (rst : Nat) (rkn : Int32) (cRc : ClassId) (fRc : Nat → Int32) (a0 : Int32) (sz : Nat) (h0_rsz : ¬ rsz < 0) : Met l yX8_put (Cond.code yX8_put cX8_put 2 none :: wsL_law) ({ frames := 0, cells := 0, slots := 0, locals := 0 }) (va_Pc [.ref ru, .int a0] (fun U => U.heap.size = sz ∧ va_P (dC, dI) vwCl [(eO8a ru rco rsz ren rst rkn), (eA0 rco cRc 64 fRc)] U.heap ∧ va_K (dC, dI) vwCl [(cRc, .int)] U ∧ va_D (fun _ => True) [(eO8a ru rco rsz ren rst rkn), (eA0 rco cRc 64 fRc)])) (va_Qv (fun (u : (Int32) × (Nat → Int32)) => u = fr_put rsz fRc a0) (fun (u : (Int32) × (Nat → Int32)) t => va_P (dC, dI) vwCl [(eO8a ru rco u.1 ren rst rkn), (eA0 rco cRc 64 u.2)] t.heap ∧ va_K (dC, dI) vwCl [] t ∧ va_D (va_A [(eO8a ru rco rsz ren rst rkn), (eA0 rco cRc 64 fRc)] sz) [(eO8a ru rco u.1 ren rst rkn), (eA0 rco cRc 64 u.2)]) (va_A [(eO8a ru rco rsz ren rst rkn), (eA0 rco cRc 64 fRc)] sz)) 0 0 (va_A [(eO8a ru rco rsz ren rst rkn), (eA0 rco cRc 64 fRc)] sz) := by
  refine Met.ofW (cc := cX8_put) (maxL := 2) (ret := none) (by decide) rfl ?_
  intro p e s m args below meth c s₁ B hml hv
  obtain ⟨rfl, hsz, hP, hK, hD0⟩ := hv
  have hx := B.exec
  have hb := B.bytes
  have hr := B.returns
  have hts := atoms_spec (ws := Cond.code yX8_put cX8_put 2 none :: wsL_law) B.pre
  have htw : ∀ w ∈ wsL_law, w.before _ s = true := fun w h => hts w (List.mem_cons_of_mem _ h)
  have hown : s.vm.findClass RX8 = some m.cls := findClass_of_methodNamed B.named
  have hlocks := B.notSynchronized
  subst hsz
  have hD := hD0.self (sz := s.heap.size)
  generalize hAe : va_A [(eO8a ru rco rsz ren rst rkn), (eA0 rco cRc 64 fRc)] s.heap.size = A at hD ⊢
  have hA : ∀ q : Nat, s.heap.size ≤ q → A q := fun q h => by rw [← hAe]; exact Or.inr h
  obtain ⟨H, rH⟩ : ∃ z : Heap, z = s.heap := ⟨_, rfl⟩
  have hS : va_S A s.heap H [] := by rw [rH]; exact va_S.rf
  have hP : va_P (dC, dI) vwCl [(eO8a ru rco rsz ren rst rkn), (eA0 rco cRc 64 fRc)] H := by rw [rH]; exact hP
  rw [← rH]
  have hl := lv_entry ([.ref ru, .int a0]) (n := 2) (Nat.le_of_ble_eq_true rfl)
  rw [lg_entry_eq]
  generalize (lg_sl ([.ref ru, .int a0]) ++ List.replicate (2 - (lg_sl ([.ref ru, .int a0])).length) Slot.unset).toArray = ls at hl ⊢
  have hl : lv_has ls 2 [(0, .ref ru), (1, .int a0)] := hl
  refine lv_aload_n hx hb dX8_put_0 rfl (lv_at hl 0 rfl) ?_
  refine va_get (D := (dC, dI)) (ci := 8) (v := .int rsz) (C := RX8) (T := TX8) (N := 5) hx hb htw inlX8 hown hK hP 0 rfl rfl 1 (by decide) (htw _ (ck_13 _ (List.mem_of_getElem? (i := 23) rfl))) (fun _ h9 => h9) rfl dX8_put_1 ?_
  refine lv_aload_n hx hb dX8_put_4 rfl (lv_at hl 0 rfl) ?_
  refine va_get (D := (dC, dI)) (ci := 8) (v := .ref rco) (C := RX8) (T := TX8) (N := 5) hx hb htw inlX8 hown hK hP 0 rfl rfl 0 (by decide) (htw _ (ck_7 _ (List.mem_of_getElem? (i := 2) rfl))) (fun _ h9 => h9) rfl dX8_put_5 ?_
  refine va_alen hx hb hK hP 1 0 rfl rfl (v := 64) rfl dX8_put_8 ?_
  refine lv_icmp_ge (tgt := 32) hx hb dX8_put_9 (by decide) (fun c_1 => ?_) (fun c_1 => ?_)
  · refine W.widen (k := 0) (n := 0) (by omega) (by omega) ?_
    have hP9 := hP
    have hD9 := hD
    have hK9 := hK.sub (tys' := []) [] rfl
    exact W.vret hx hb hr (fun t ht hW => ⟨⟨(rsz, fRc), rfl, (by rw [fr_put]; (try rw [if_pos c_1]); try rfl), by rw [ht]; exact hP9, va_K.moved hW.alike hK9, hD9⟩, hS.F ht⟩) hS.2.2 dX8_put_32
  · refine lv_aload_n hx hb dX8_put_12 rfl (lv_at hl 0 rfl) ?_
    refine va_get (D := (dC, dI)) (ci := 8) (v := .ref rco) (C := RX8) (T := TX8) (N := 5) hx hb htw inlX8 hown hK hP 0 rfl rfl 0 (by decide) (htw _ (ck_7 _ (List.mem_of_getElem? (i := 2) rfl))) (fun _ h9 => h9) rfl dX8_put_13 ?_
    refine lv_aload_n hx hb dX8_put_16 rfl (lv_at hl 0 rfl) ?_
    refine va_get (D := (dC, dI)) (ci := 8) (v := .int rsz) (C := RX8) (T := TX8) (N := 5) hx hb htw inlX8 hown hK hP 0 rfl rfl 1 (by decide) (htw _ (ck_13 _ (List.mem_of_getElem? (i := 23) rfl))) (fun _ h9 => h9) rfl dX8_put_17 ?_
    refine lv_iload_n hx hb dX8_put_20 rfl (lv_at hl 1 rfl) ?_
    refine va_iast hx hb hK hP hD hS 1 0 rfl rfl (xg_inr (N := 64) rfl h0_rsz c_1) dX8_put_21 (fun H locs hP hD hS => ?_)
    obtain ⟨hP, hD⟩ := zre [(eO8a ru rco rsz ren rst rkn), (eA0 rco cRc 64 (upd fRc rsz.toNatClampNeg a0))] hP hD rfl
    refine lv_aload_n hx hb dX8_put_22 rfl (lv_at hl 0 rfl) ?_
    refine lv_dup hx hb dX8_put_23 rfl ?_
    refine va_get (D := (dC, dI)) (ci := 8) (v := .int rsz) (C := RX8) (T := TX8) (N := 5) hx hb htw inlX8 hown hK hP 0 rfl rfl 1 (by decide) (htw _ (ck_13 _ (List.mem_of_getElem? (i := 23) rfl))) (fun _ h9 => h9) rfl dX8_put_24 ?_
    refine lv_iconst (v := 1) hx hb dX8_put_27 (by decide) ?_
    refine lv_iadd hx hb dX8_put_28 ?_
    refine va_put (D := (dC, dI)) (ci := 8) (v := .int (rsz + 1)) (ty := tyX8 1) (C := RX8) (T := TX8) (N := 5) hx hb htw inlX8 tyX8 tyX8_ok nmX8 hown hK hP hD hS 0 rfl rfl 1 (by decide) (htw _ (ck_13 _ (List.mem_of_getElem? (i := 23) rfl))) (fun _ h9 => h9) rfl (tyX8_ok 1 (by decide)) rfl rfl (Nat.le_of_ble_eq_true rfl) dX8_put_29 (fun H locs hP hD hS => ?_)
    obtain ⟨hP, hD⟩ := zre [(eO8a ru rco (rsz + 1) ren rst rkn), (eA0 rco cRc 64 (upd fRc rsz.toNatClampNeg a0))] hP hD rfl
    refine W.widen (k := 0) (n := 0) (by omega) (by omega) ?_
    have hP9 := hP
    have hD9 := hD
    have hK9 := hK.sub (tys' := []) [] rfl
    exact W.vret hx hb hr (fun t ht hW => ⟨⟨((rsz + 1), (upd fRc rsz.toNatClampNeg a0)), rfl, (by rw [fr_put]; (try rw [if_neg c_1]); try rfl), by rw [ht]; exact hP9, va_K.moved hW.alike hK9, hD9⟩, hS.F ht⟩) hS.2.2 dX8_put_32

def fr_endRule (rsz : Int32) (fRe : Nat → Int32) (a0 : Int32) : (Nat → Int32) := (if a0 < 0 then fRe else (if 4 ≤ a0 then fRe else (upd fRe a0.toNatClampNeg rsz)))
theorem dX8_endRule_0 : decode cX8_endRule 0 = .ok (.iload_n 1, 1) := zk_27 (by decide +kernel)
theorem dX8_endRule_1 : decode cX8_endRule 1 = .ok (.ifCond .lt 22, 3) := zk_155 (by decide +kernel)
theorem dX8_endRule_23 : decode cX8_endRule 23 = .ok (.return_, 1) := zk_177 (by decide +kernel)
theorem dX8_endRule_4 : decode cX8_endRule 4 = .ok (.iload_n 1, 1) := zk_27 (by decide +kernel)
theorem dX8_endRule_5 : decode cX8_endRule 5 = .ok (.aload_n 0, 1) := zk_42 (by decide +kernel)
theorem dX8_endRule_6 : decode cX8_endRule 6 = .ok (.getfield 20, 3) := zk_180 (by decide +kernel)
theorem dX8_endRule_9 : decode cX8_endRule 9 = .ok (.arraylength, 1) := zk_190 (by decide +kernel)
theorem dX8_endRule_10 : decode cX8_endRule 10 = .ok (.if_icmp .ge 13, 3) := zk_162 (by decide +kernel)
theorem dX8_endRule_13 : decode cX8_endRule 13 = .ok (.aload_n 0, 1) := zk_42 (by decide +kernel)
theorem dX8_endRule_14 : decode cX8_endRule 14 = .ok (.getfield 20, 3) := zk_180 (by decide +kernel)
theorem dX8_endRule_17 : decode cX8_endRule 17 = .ok (.iload_n 1, 1) := zk_27 (by decide +kernel)
theorem dX8_endRule_18 : decode cX8_endRule 18 = .ok (.aload_n 0, 1) := zk_42 (by decide +kernel)
theorem dX8_endRule_19 : decode cX8_endRule 19 = .ok (.getfield 27, 3) := zk_180 (by decide +kernel)
theorem dX8_endRule_22 : decode cX8_endRule 22 = .ok (.iastore, 1) := zk_79 (by decide +kernel)
set_option maxHeartbeats 4000000 in
set_option maxRecDepth 100000 in
theorem gru_endRule (l : Launch) (dC : Nat → ClassId) (dI : Nat → Nat → Nat) (ru : Nat) (rco : Nat) (rsz : Int32) (ren : Nat) (rst : Nat) (rkn : Int32) (cRe : ClassId) (fRe : Nat → Int32) (a0 : Int32) (sz : Nat) : Met l yX8_endRule (Cond.code yX8_endRule cX8_endRule 2 none :: wsL_law) ({ frames := 0, cells := 0, slots := 0, locals := 0 }) (va_Pc [.ref ru, .int a0] (fun U => U.heap.size = sz ∧ va_P (dC, dI) vwCl [(eO8a ru rco rsz ren rst rkn), (eA0 ren cRe 4 fRe)] U.heap ∧ va_K (dC, dI) vwCl [(cRe, .int)] U ∧ va_D (fun _ => True) [(eO8a ru rco rsz ren rst rkn), (eA0 ren cRe 4 fRe)])) (va_Qv (fun (u : (Nat → Int32)) => u = fr_endRule rsz fRe a0) (fun (u : (Nat → Int32)) t => va_P (dC, dI) vwCl [(eO8a ru rco rsz ren rst rkn), (eA0 ren cRe 4 u)] t.heap ∧ va_K (dC, dI) vwCl [] t ∧ va_D (va_A [(eO8a ru rco rsz ren rst rkn), (eA0 ren cRe 4 fRe)] sz) [(eO8a ru rco rsz ren rst rkn), (eA0 ren cRe 4 u)]) (va_A [(eO8a ru rco rsz ren rst rkn), (eA0 ren cRe 4 fRe)] sz)) 0 0 (va_A [(eO8a ru rco rsz ren rst rkn), (eA0 ren cRe 4 fRe)] sz) := by
  refine Met.ofW (cc := cX8_endRule) (maxL := 2) (ret := none) (by decide) rfl ?_
  intro p e s m args below meth c s₁ B hml hv
  obtain ⟨rfl, hsz, hP, hK, hD0⟩ := hv
  have hx := B.exec
  have hb := B.bytes
  have hr := B.returns
  have hts := atoms_spec (ws := Cond.code yX8_endRule cX8_endRule 2 none :: wsL_law) B.pre
  have htw : ∀ w ∈ wsL_law, w.before _ s = true := fun w h => hts w (List.mem_cons_of_mem _ h)
  have hown : s.vm.findClass RX8 = some m.cls := findClass_of_methodNamed B.named
  have hlocks := B.notSynchronized
  subst hsz
  have hD := hD0.self (sz := s.heap.size)
  generalize hAe : va_A [(eO8a ru rco rsz ren rst rkn), (eA0 ren cRe 4 fRe)] s.heap.size = A at hD ⊢
  have hA : ∀ q : Nat, s.heap.size ≤ q → A q := fun q h => by rw [← hAe]; exact Or.inr h
  obtain ⟨H, rH⟩ : ∃ z : Heap, z = s.heap := ⟨_, rfl⟩
  have hS : va_S A s.heap H [] := by rw [rH]; exact va_S.rf
  have hP : va_P (dC, dI) vwCl [(eO8a ru rco rsz ren rst rkn), (eA0 ren cRe 4 fRe)] H := by rw [rH]; exact hP
  rw [← rH]
  have hl := lv_entry ([.ref ru, .int a0]) (n := 2) (Nat.le_of_ble_eq_true rfl)
  rw [lg_entry_eq]
  generalize (lg_sl ([.ref ru, .int a0]) ++ List.replicate (2 - (lg_sl ([.ref ru, .int a0])).length) Slot.unset).toArray = ls at hl ⊢
  have hl : lv_has ls 2 [(0, .ref ru), (1, .int a0)] := hl
  refine lv_iload_n hx hb dX8_endRule_0 rfl (lv_at hl 1 rfl) ?_
  refine lv_if_lt (tgt := 23) hx hb dX8_endRule_1 (by decide) (fun c_1 => ?_) (fun c_1 => ?_)
  · refine W.widen (k := 0) (n := 0) (by omega) (by omega) ?_
    have hP9 := hP
    have hD9 := hD
    have hK9 := hK.sub (tys' := []) [] rfl
    exact W.vret hx hb hr (fun t ht hW => ⟨⟨fRe, rfl, (by rw [fr_endRule]; (try rw [if_pos c_1]); try rfl), by rw [ht]; exact hP9, va_K.moved hW.alike hK9, hD9⟩, hS.F ht⟩) hS.2.2 dX8_endRule_23
  · refine lv_iload_n hx hb dX8_endRule_4 rfl (lv_at hl 1 rfl) ?_
    refine lv_aload_n hx hb dX8_endRule_5 rfl (lv_at hl 0 rfl) ?_
    refine va_get (D := (dC, dI)) (ci := 8) (v := .ref ren) (C := RX8) (T := TX8) (N := 5) hx hb htw inlX8 hown hK hP 0 rfl rfl 2 (by decide) (htw _ (ck_7 _ (List.mem_of_getElem? (i := 3) rfl))) (fun _ h9 => h9) rfl dX8_endRule_6 ?_
    refine va_alen hx hb hK hP 1 0 rfl rfl (v := 4) rfl dX8_endRule_9 ?_
    refine lv_icmp_ge (tgt := 23) hx hb dX8_endRule_10 (by decide) (fun c_2 => ?_) (fun c_2 => ?_)
    · refine W.widen (k := 0) (n := 0) (by omega) (by omega) ?_
      have hP9 := hP
      have hD9 := hD
      have hK9 := hK.sub (tys' := []) [] rfl
      exact W.vret hx hb hr (fun t ht hW => ⟨⟨fRe, rfl, (by rw [fr_endRule]; (try rw [if_neg c_1]); (try rw [if_pos c_2]); try rfl), by rw [ht]; exact hP9, va_K.moved hW.alike hK9, hD9⟩, hS.F ht⟩) hS.2.2 dX8_endRule_23
    · refine lv_aload_n hx hb dX8_endRule_13 rfl (lv_at hl 0 rfl) ?_
      refine va_get (D := (dC, dI)) (ci := 8) (v := .ref ren) (C := RX8) (T := TX8) (N := 5) hx hb htw inlX8 hown hK hP 0 rfl rfl 2 (by decide) (htw _ (ck_7 _ (List.mem_of_getElem? (i := 3) rfl))) (fun _ h9 => h9) rfl dX8_endRule_14 ?_
      refine lv_iload_n hx hb dX8_endRule_17 rfl (lv_at hl 1 rfl) ?_
      refine lv_aload_n hx hb dX8_endRule_18 rfl (lv_at hl 0 rfl) ?_
      refine va_get (D := (dC, dI)) (ci := 8) (v := .int rsz) (C := RX8) (T := TX8) (N := 5) hx hb htw inlX8 hown hK hP 0 rfl rfl 1 (by decide) (htw _ (ck_13 _ (List.mem_of_getElem? (i := 23) rfl))) (fun _ h9 => h9) rfl dX8_endRule_19 ?_
      refine va_iast hx hb hK hP hD hS 1 0 rfl rfl (xg_inr (N := 4) rfl c_1 c_2) dX8_endRule_22 (fun H locs hP hD hS => ?_)
      obtain ⟨hP, hD⟩ := zre [(eO8a ru rco rsz ren rst rkn), (eA0 ren cRe 4 (upd fRe a0.toNatClampNeg rsz))] hP hD rfl
      refine W.widen (k := 0) (n := 0) (by omega) (by omega) ?_
      have hP9 := hP
      have hD9 := hD
      have hK9 := hK.sub (tys' := []) [] rfl
      exact W.vret hx hb hr (fun t ht hW => ⟨⟨(upd fRe a0.toNatClampNeg rsz), rfl, (by rw [fr_endRule]; (try rw [if_neg c_1]); (try rw [if_neg c_2]); try rfl), by rw [ht]; exact hP9, va_K.moved hW.alike hK9, hD9⟩, hS.F ht⟩) hS.2.2 dX8_endRule_23
