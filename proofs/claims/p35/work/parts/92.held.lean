def fp_put (rsz : Int32) (fRc : Nat → Int32) (a0 : Int32) : (Int32) × (Nat → Int32) := (if 64 ≤ rsz then (rsz, fRc) else ((rsz + 1), (upd fRc rsz.toNatClampNeg a0)))
theorem gp_put_s0 {y0 : Int32} (h0 : 64 ≤ y0) (h1 : ¬ (y0 < 0)) : ¬ (y0 < 0) := h1
theorem gp_put_s1 {y0 : Int32} (h0 : ¬ (64 ≤ y0)) (h1 : ¬ (y0 < 0)) : ¬ (y0 < 0) ∧ ¬ (64 ≤ y0) := ⟨h1, h0⟩
theorem gp_put_s2 {y0 : Int32} (h0 : ¬ (64 ≤ y0)) (h1 : ¬ (y0 < 0)) : ¬ ((y0 + 1) < 0) := by lia
set_option maxHeartbeats 4000000 in
set_option maxRecDepth 100000 in
theorem gp_put (l : Launch) (dC : Nat → ClassId) (dI : Nat → Nat → Nat) (bru : Nat) (rco : Nat) (rsz : Int32) (ren : Nat) (rst : Nat) (rkn : Int32) (cRc : ClassId) (fRc : Nat → Int32) (a0 : Int32) (sz : Nat) (h0_rsz : ¬ rsz < 0) : Met l yX8_put (Cond.code yX8_put cX8_put 2 none :: wsL_law) ({ frames := 0, cells := 0, slots := 0, locals := 0 }) (va_Pc [.ref bru, .int a0] (fun U => U.heap.size = sz ∧ va_P (dC, dI) vwCl [(eO8a bru rco rsz ren rst rkn), (eA0 rco cRc 64 fRc)] U.heap ∧ va_K (dC, dI) vwCl [(cRc, .int)] U ∧ va_D (fun _ => True) [(eO8a bru rco rsz ren rst rkn), (eA0 rco cRc 64 fRc)])) (va_Qv (fun (u : (Int32) × (Nat → Int32)) => (u = fp_put rsz fRc a0) ∧ (¬ u.1 < 0)) (fun (u : (Int32) × (Nat → Int32)) t => va_P (dC, dI) vwCl [(eO8a bru rco u.1 ren rst rkn), (eA0 rco cRc 64 u.2)] t.heap ∧ va_K (dC, dI) vwCl [] t ∧ va_D (va_A [(eO8a bru rco rsz ren rst rkn), (eA0 rco cRc 64 fRc)] sz) [(eO8a bru rco u.1 ren rst rkn), (eA0 rco cRc 64 u.2)]) (va_A [(eO8a bru rco rsz ren rst rkn), (eA0 rco cRc 64 fRc)] sz)) 0 0 (va_A [(eO8a bru rco rsz ren rst rkn), (eA0 rco cRc 64 fRc)] sz) := by
  refine Met.ofW (cc := cX8_put) (maxL := 2) (ret := none) (by decide) rfl ?_
  intro p e s m args below meth c s₁ B hml hv
  obtain ⟨rfl, hsz, hP, hK, hD0⟩ := hv
  have hx := B.exec
  have hb := B.bytes
  have hr := B.returns
  have hts := atoms_spec (ws := Cond.code yX8_put cX8_put 2 none :: wsL_law) B.pre
  have htw : ∀ w ∈ wsL_law, w.before _ s = true := fun w h => hts w (List.mem_cons_of_mem _ h)
  have hown : s.vm.findClass RX8 = some m.cls := findClass_of_methodNamed B.named
  have hlocks := B.notSynchronized
  subst hsz
  have hD := hD0.self (sz := s.heap.size)
  generalize hAe : va_A [(eO8a bru rco rsz ren rst rkn), (eA0 rco cRc 64 fRc)] s.heap.size = A at hD ⊢
  have hA : ∀ q : Nat, s.heap.size ≤ q → A q := fun q h => by rw [← hAe]; exact Or.inr h
  obtain ⟨H, rH⟩ : ∃ z : Heap, z = s.heap := ⟨_, rfl⟩
  have hS : va_S A s.heap H [] := by rw [rH]; exact va_S.rf
  have hP : va_P (dC, dI) vwCl [(eO8a bru rco rsz ren rst rkn), (eA0 rco cRc 64 fRc)] H := by rw [rH]; exact hP
  rw [← rH]
  have hl := lv_entry ([.ref bru, .int a0]) (n := 2) (Nat.le_of_ble_eq_true rfl)
  rw [lg_entry_eq]
  generalize (lg_sl ([.ref bru, .int a0]) ++ List.replicate (2 - (lg_sl ([.ref bru, .int a0])).length) Slot.unset).toArray = ls at hl ⊢
  have hl : lv_has ls 2 [(0, .ref bru), (1, .int a0)] := hl
  refine lv_aload_n hx hb dX8_put_0 rfl (lv_at hl 0 rfl) ?_
  refine va_get (D := (dC, dI)) (ci := 8) (v := .int rsz) (C := RX8) (T := TX8) (N := 5) hx hb htw inlX8 hown hK hP 0 rfl rfl 1 (by decide) (htw _ (ck_13 _ (List.mem_of_getElem? (i := 23) rfl))) (fun _ h9 => h9) rfl dX8_put_1 ?_
  refine lv_aload_n hx hb dX8_put_4 rfl (lv_at hl 0 rfl) ?_
  refine va_get (D := (dC, dI)) (ci := 8) (v := .ref rco) (C := RX8) (T := TX8) (N := 5) hx hb htw inlX8 hown hK hP 0 rfl rfl 0 (by decide) (htw _ (ck_7 _ (List.mem_of_getElem? (i := 2) rfl))) (fun _ h9 => h9) rfl dX8_put_5 ?_
  refine va_alen hx hb hK hP 1 0 rfl rfl (v := 64) rfl dX8_put_8 ?_
  refine lv_icmp_ge (tgt := 32) hx hb dX8_put_9 (by decide) (fun c_1 => ?_) (fun c_1 => ?_)
  · refine W.widen (k := 0) (n := 0) (by omega) (by omega) ?_
    have hP9 := hP
    have hD9 := hD
    have hK9 := hK.sub (tys' := []) [] rfl
    exact W.vret hx hb hr (fun t ht hW => ⟨⟨(rsz, fRc), rfl, ⟨(Eq.symm ((by rw [fp_put]; (try rw [if_pos c_1]); try rfl))), (gp_put_s0 (y0 := rsz) c_1 h0_rsz)⟩, by rw [ht]; exact hP9, va_K.moved hW.alike hK9, hD9⟩, hS.F ht⟩) hS.2.2 dX8_put_32
  · refine lv_aload_n hx hb dX8_put_12 rfl (lv_at hl 0 rfl) ?_
    refine va_get (D := (dC, dI)) (ci := 8) (v := .ref rco) (C := RX8) (T := TX8) (N := 5) hx hb htw inlX8 hown hK hP 0 rfl rfl 0 (by decide) (htw _ (ck_7 _ (List.mem_of_getElem? (i := 2) rfl))) (fun _ h9 => h9) rfl dX8_put_13 ?_
    refine lv_aload_n hx hb dX8_put_16 rfl (lv_at hl 0 rfl) ?_
    refine va_get (D := (dC, dI)) (ci := 8) (v := .int rsz) (C := RX8) (T := TX8) (N := 5) hx hb htw inlX8 hown hK hP 0 rfl rfl 1 (by decide) (htw _ (ck_13 _ (List.mem_of_getElem? (i := 23) rfl))) (fun _ h9 => h9) rfl dX8_put_17 ?_
    refine lv_iload_n hx hb dX8_put_20 rfl (lv_at hl 1 rfl) ?_
    refine va_iast hx hb hK hP hD hS 1 0 rfl rfl (xg_inr (N := 64) rfl (gp_put_s1 (y0 := rsz) c_1 h0_rsz).1 (gp_put_s1 (y0 := rsz) c_1 h0_rsz).2) dX8_put_21 (fun H locs hP hD hS => ?_)
    obtain ⟨hP, hD⟩ := zre [(eO8a bru rco rsz ren rst rkn), (eA0 rco cRc 64 (upd fRc rsz.toNatClampNeg a0))] hP hD rfl
    refine lv_aload_n hx hb dX8_put_22 rfl (lv_at hl 0 rfl) ?_
    refine lv_dup hx hb dX8_put_23 rfl ?_
    refine va_get (D := (dC, dI)) (ci := 8) (v := .int rsz) (C := RX8) (T := TX8) (N := 5) hx hb htw inlX8 hown hK hP 0 rfl rfl 1 (by decide) (htw _ (ck_13 _ (List.mem_of_getElem? (i := 23) rfl))) (fun _ h9 => h9) rfl dX8_put_24 ?_
    refine lv_iconst (v := 1) hx hb dX8_put_27 (by decide) ?_
    refine lv_iadd hx hb dX8_put_28 ?_
    refine va_put (D := (dC, dI)) (ci := 8) (v := .int (rsz + 1)) (ty := tyX8 1) (C := RX8) (T := TX8) (N := 5) hx hb htw inlX8 tyX8 tyX8_ok nmX8 hown hK hP hD hS 0 rfl rfl 1 (by decide) (htw _ (ck_13 _ (List.mem_of_getElem? (i := 23) rfl))) (fun _ h9 => h9) rfl (tyX8_ok 1 (by decide)) rfl rfl (Nat.le_of_ble_eq_true rfl) dX8_put_29 (fun H locs hP hD hS => ?_)
    obtain ⟨hP, hD⟩ := zre [(eO8a bru rco (rsz + 1) ren rst rkn), (eA0 rco cRc 64 (upd fRc rsz.toNatClampNeg a0))] hP hD rfl
    refine W.widen (k := 0) (n := 0) (by omega) (by omega) ?_
    have hP9 := hP
    have hD9 := hD
    have hK9 := hK.sub (tys' := []) [] rfl
    exact W.vret hx hb hr (fun t ht hW => ⟨⟨((rsz + 1), (upd fRc rsz.toNatClampNeg a0)), rfl, ⟨(Eq.symm ((by rw [fp_put]; (try rw [if_neg c_1]); try rfl))), (gp_put_s2 (y0 := rsz) c_1 h0_rsz)⟩, by rw [ht]; exact hP9, va_K.moved hW.alike hK9, hD9⟩, hS.F ht⟩) hS.2.2 dX8_put_32

def fp_endRule (rsz : Int32) (fRe : Nat → Int32) (a0 : Int32) : (Nat → Int32) := (if a0 < 0 then fRe else (if 4 ≤ a0 then fRe else (upd fRe a0.toNatClampNeg rsz)))
theorem gp_endRule_s0 {y0 : Int32} (h0 : ¬ (y0 < 0)) (h1 : ¬ (4 ≤ y0)) : ¬ (y0 < 0) ∧ ¬ (4 ≤ y0) := ⟨h0, h1⟩
theorem gp_endRule_s1 {y0 : Int32} (h0 : ¬ (y0 < 0)) : ¬ (y0 < 0) := h0
set_option maxHeartbeats 4000000 in
set_option maxRecDepth 100000 in
theorem gp_endRule (l : Launch) (dC : Nat → ClassId) (dI : Nat → Nat → Nat) (bru : Nat) (rco : Nat) (rsz : Int32) (ren : Nat) (rst : Nat) (rkn : Int32) (cRe : ClassId) (fRe : Nat → Int32) (a0 : Int32) (sz : Nat) (h0_rsz : ¬ rsz < 0) (hE : xE fRe) : Met l yX8_endRule (Cond.code yX8_endRule cX8_endRule 2 none :: wsL_law) ({ frames := 0, cells := 0, slots := 0, locals := 0 }) (va_Pc [.ref bru, .int a0] (fun U => U.heap.size = sz ∧ va_P (dC, dI) vwCl [(eO8a bru rco rsz ren rst rkn), (eA0 ren cRe 4 fRe)] U.heap ∧ va_K (dC, dI) vwCl [(cRe, .int)] U ∧ va_D (fun _ => True) [(eO8a bru rco rsz ren rst rkn), (eA0 ren cRe 4 fRe)])) (va_Qv (fun (u : (Nat → Int32)) => (u = fp_endRule rsz fRe a0) ∧ (xE u)) (fun (u : (Nat → Int32)) t => va_P (dC, dI) vwCl [(eO8a bru rco rsz ren rst rkn), (eA0 ren cRe 4 u)] t.heap ∧ va_K (dC, dI) vwCl [] t ∧ va_D (va_A [(eO8a bru rco rsz ren rst rkn), (eA0 ren cRe 4 fRe)] sz) [(eO8a bru rco rsz ren rst rkn), (eA0 ren cRe 4 u)]) (va_A [(eO8a bru rco rsz ren rst rkn), (eA0 ren cRe 4 fRe)] sz)) 0 0 (va_A [(eO8a bru rco rsz ren rst rkn), (eA0 ren cRe 4 fRe)] sz) := by
  refine Met.ofW (cc := cX8_endRule) (maxL := 2) (ret := none) (by decide) rfl ?_
  intro p e s m args below meth c s₁ B hml hv
  obtain ⟨rfl, hsz, hP, hK, hD0⟩ := hv
  have hx := B.exec
  have hb := B.bytes
  have hr := B.returns
  have hts := atoms_spec (ws := Cond.code yX8_endRule cX8_endRule 2 none :: wsL_law) B.pre
  have htw : ∀ w ∈ wsL_law, w.before _ s = true := fun w h => hts w (List.mem_cons_of_mem _ h)
  have hown : s.vm.findClass RX8 = some m.cls := findClass_of_methodNamed B.named
  have hlocks := B.notSynchronized
  subst hsz
  have hD := hD0.self (sz := s.heap.size)
  generalize hAe : va_A [(eO8a bru rco rsz ren rst rkn), (eA0 ren cRe 4 fRe)] s.heap.size = A at hD ⊢
  have hA : ∀ q : Nat, s.heap.size ≤ q → A q := fun q h => by rw [← hAe]; exact Or.inr h
  obtain ⟨H, rH⟩ : ∃ z : Heap, z = s.heap := ⟨_, rfl⟩
  have hS : va_S A s.heap H [] := by rw [rH]; exact va_S.rf
  have hP : va_P (dC, dI) vwCl [(eO8a bru rco rsz ren rst rkn), (eA0 ren cRe 4 fRe)] H := by rw [rH]; exact hP
  rw [← rH]
  have hl := lv_entry ([.ref bru, .int a0]) (n := 2) (Nat.le_of_ble_eq_true rfl)
  rw [lg_entry_eq]
  generalize (lg_sl ([.ref bru, .int a0]) ++ List.replicate (2 - (lg_sl ([.ref bru, .int a0])).length) Slot.unset).toArray = ls at hl ⊢
  have hl : lv_has ls 2 [(0, .ref bru), (1, .int a0)] := hl
  refine lv_iload_n hx hb dX8_endRule_0 rfl (lv_at hl 1 rfl) ?_
  refine lv_if_lt (tgt := 23) hx hb dX8_endRule_1 (by decide) (fun c_1 => ?_) (fun c_1 => ?_)
  · refine W.widen (k := 0) (n := 0) (by omega) (by omega) ?_
    have hP9 := hP
    have hD9 := hD
    have hK9 := hK.sub (tys' := []) [] rfl
    exact W.vret hx hb hr (fun t ht hW => ⟨⟨fRe, rfl, ⟨(Eq.symm ((by rw [fp_endRule]; (try rw [if_pos c_1]); try rfl))), hE⟩, by rw [ht]; exact hP9, va_K.moved hW.alike hK9, hD9⟩, hS.F ht⟩) hS.2.2 dX8_endRule_23
  · refine lv_iload_n hx hb dX8_endRule_4 rfl (lv_at hl 1 rfl) ?_
    refine lv_aload_n hx hb dX8_endRule_5 rfl (lv_at hl 0 rfl) ?_
    refine va_get (D := (dC, dI)) (ci := 8) (v := .ref ren) (C := RX8) (T := TX8) (N := 5) hx hb htw inlX8 hown hK hP 0 rfl rfl 2 (by decide) (htw _ (ck_7 _ (List.mem_of_getElem? (i := 3) rfl))) (fun _ h9 => h9) rfl dX8_endRule_6 ?_
    refine va_alen hx hb hK hP 1 0 rfl rfl (v := 4) rfl dX8_endRule_9 ?_
    refine lv_icmp_ge (tgt := 23) hx hb dX8_endRule_10 (by decide) (fun c_2 => ?_) (fun c_2 => ?_)
    · refine W.widen (k := 0) (n := 0) (by omega) (by omega) ?_
      have hP9 := hP
      have hD9 := hD
      have hK9 := hK.sub (tys' := []) [] rfl
      exact W.vret hx hb hr (fun t ht hW => ⟨⟨fRe, rfl, ⟨(Eq.symm ((by rw [fp_endRule]; (try rw [if_neg c_1]); (try rw [if_pos c_2]); try rfl))), hE⟩, by rw [ht]; exact hP9, va_K.moved hW.alike hK9, hD9⟩, hS.F ht⟩) hS.2.2 dX8_endRule_23
    · refine lv_aload_n hx hb dX8_endRule_13 rfl (lv_at hl 0 rfl) ?_
      refine va_get (D := (dC, dI)) (ci := 8) (v := .ref ren) (C := RX8) (T := TX8) (N := 5) hx hb htw inlX8 hown hK hP 0 rfl rfl 2 (by decide) (htw _ (ck_7 _ (List.mem_of_getElem? (i := 3) rfl))) (fun _ h9 => h9) rfl dX8_endRule_14 ?_
      refine lv_iload_n hx hb dX8_endRule_17 rfl (lv_at hl 1 rfl) ?_
      refine lv_aload_n hx hb dX8_endRule_18 rfl (lv_at hl 0 rfl) ?_
      refine va_get (D := (dC, dI)) (ci := 8) (v := .int rsz) (C := RX8) (T := TX8) (N := 5) hx hb htw inlX8 hown hK hP 0 rfl rfl 1 (by decide) (htw _ (ck_13 _ (List.mem_of_getElem? (i := 23) rfl))) (fun _ h9 => h9) rfl dX8_endRule_19 ?_
      refine va_iast hx hb hK hP hD hS 1 0 rfl rfl (xg_inr (N := 4) rfl (gp_endRule_s0 (y0 := a0) c_1 c_2).1 (gp_endRule_s0 (y0 := a0) c_1 c_2).2) dX8_endRule_22 (fun H locs hP hD hS => ?_)
      obtain ⟨hP, hD⟩ := zre [(eO8a bru rco rsz ren rst rkn), (eA0 ren cRe 4 (upd fRe a0.toNatClampNeg rsz))] hP hD rfl
      refine W.widen (k := 0) (n := 0) (by omega) (by omega) ?_
      have hP9 := hP
      have hD9 := hD
      have hK9 := hK.sub (tys' := []) [] rfl
      exact W.vret hx hb hr (fun t ht hW => ⟨⟨(upd fRe a0.toNatClampNeg rsz), rfl, ⟨(Eq.symm ((by rw [fp_endRule]; (try rw [if_neg c_1]); (try rw [if_neg c_2]); try rfl))), (xE_up hE (gp_endRule_s1 (y0 := rsz) h0_rsz))⟩, by rw [ht]; exact hP9, va_K.moved hW.alike hK9, hD9⟩, hS.F ht⟩) hS.2.2 dX8_endRule_23

def fp_hold (phs : Int32) (fHe : Nat → Int32) (fHr : Nat → Int32) (a0 : Int32) : (Int32) × (Nat → Int32) × (Nat → Int32) := (if 72 ≤ phs then (phs, fHe, fHr) else (xL (fr_rankOf a0) (fun r_3 => ((phs + 1), (upd fHe phs.toNatClampNeg a0), (upd fHr phs.toNatClampNeg r_3)))))
theorem gp_hold_s0 {y0 : Int32} (h0 : 72 ≤ y0) (h1 : ¬ (y0 < 0)) (h2 : y0 ≤ 72) : ¬ (y0 < 0) := h1
theorem gp_hold_s1 {y0 : Int32} (h0 : 72 ≤ y0) (h1 : ¬ (y0 < 0)) (h2 : y0 ≤ 72) : y0 ≤ 72 := h2
theorem gp_hold_s2 {y0 : Int32} (h0 : ¬ (72 ≤ y0)) (h1 : ¬ (y0 < 0)) (h2 : y0 ≤ 72) : ¬ (y0 < 0) ∧ ¬ (72 ≤ y0) := ⟨h1, h0⟩
theorem gp_hold_s3 {y0 : Int32} (h0 : ¬ (72 ≤ y0)) (h1 : ¬ (y0 < 0)) (h2 : y0 ≤ 72) : ¬ (y0 < 0) ∧ ¬ (72 ≤ y0) := ⟨h1, h0⟩
theorem gp_hold_s4 {y0 : Int32} (h0 : ¬ (72 ≤ y0)) (h1 : ¬ (y0 < 0)) (h2 : y0 ≤ 72) : ¬ ((y0 + 1) < 0) := by lia
theorem gp_hold_s5 {y0 : Int32} (h0 : ¬ (72 ≤ y0)) (h1 : ¬ (y0 < 0)) (h2 : y0 ≤ 72) : (y0 + 1) ≤ 72 := by lia
theorem dX7_hold_0 : decode cX7_hold 0 = .ok (.aload_n 0, 1) := zk_42 (by decide +kernel)
theorem dX7_hold_1 : decode cX7_hold 1 = .ok (.getfield 236, 3) := zk_180 (by decide +kernel)
theorem dX7_hold_4 : decode cX7_hold 4 = .ok (.aload_n 0, 1) := zk_42 (by decide +kernel)
theorem dX7_hold_5 : decode cX7_hold 5 = .ok (.getfield 24, 3) := zk_180 (by decide +kernel)
theorem dX7_hold_8 : decode cX7_hold 8 = .ok (.arraylength, 1) := zk_190 (by decide +kernel)
theorem dX7_hold_9 : decode cX7_hold 9 = .ok (.if_icmp .ge 36, 3) := zk_162 (by decide +kernel)
theorem dX7_hold_45 : decode cX7_hold 45 = .ok (.return_, 1) := zk_177 (by decide +kernel)
theorem dX7_hold_12 : decode cX7_hold 12 = .ok (.aload_n 0, 1) := zk_42 (by decide +kernel)
theorem dX7_hold_13 : decode cX7_hold 13 = .ok (.getfield 24, 3) := zk_180 (by decide +kernel)
theorem dX7_hold_16 : decode cX7_hold 16 = .ok (.aload_n 0, 1) := zk_42 (by decide +kernel)
theorem dX7_hold_17 : decode cX7_hold 17 = .ok (.getfield 236, 3) := zk_180 (by decide +kernel)
theorem dX7_hold_20 : decode cX7_hold 20 = .ok (.iload_n 1, 1) := zk_27 (by decide +kernel)
theorem dX7_hold_21 : decode cX7_hold 21 = .ok (.iastore, 1) := zk_79 (by decide +kernel)
theorem dX7_hold_22 : decode cX7_hold 22 = .ok (.aload_n 0, 1) := zk_42 (by decide +kernel)
theorem dX7_hold_23 : decode cX7_hold 23 = .ok (.getfield 28, 3) := zk_180 (by decide +kernel)
theorem dX7_hold_26 : decode cX7_hold 26 = .ok (.aload_n 0, 1) := zk_42 (by decide +kernel)
theorem dX7_hold_27 : decode cX7_hold 27 = .ok (.getfield 236, 3) := zk_180 (by decide +kernel)
theorem dX7_hold_30 : decode cX7_hold 30 = .ok (.iload_n 1, 1) := zk_27 (by decide +kernel)
theorem dX7_hold_31 : decode cX7_hold 31 = .ok (.invokestatic 249, 3) := zk_184 (by decide +kernel)
theorem dX7_hold_34 : decode cX7_hold 34 = .ok (.iastore, 1) := zk_79 (by decide +kernel)
theorem dX7_hold_35 : decode cX7_hold 35 = .ok (.aload_n 0, 1) := zk_42 (by decide +kernel)
theorem dX7_hold_36 : decode cX7_hold 36 = .ok (.dup, 1) := zk_89 (by decide +kernel)
theorem dX7_hold_37 : decode cX7_hold 37 = .ok (.getfield 236, 3) := zk_180 (by decide +kernel)
theorem dX7_hold_40 : decode cX7_hold 40 = .ok (.iconst 1, 1) := zk_4 (by decide +kernel)
theorem dX7_hold_41 : decode cX7_hold 41 = .ok (.iadd, 1) := zk_96 (by decide +kernel)
theorem dX7_hold_42 : decode cX7_hold 42 = .ok (.putfield 236, 3) := zk_181 (by decide +kernel)
set_option maxHeartbeats 4000000 in
set_option maxRecDepth 100000 in
theorem gp_hold (l : Launch) (dC : Nat → ClassId) (dI : Nat → Nat → Nat) (pa : Nat) (lx : Nat) (bk : Nat) (pfa : Int32) (pfp : Int32) (psk : Int32) (phe : Nat) (phr : Nat) (phs : Int32) (pop : Int32) (cHe : ClassId) (fHe : Nat → Int32) (cHr : ClassId) (fHr : Nat → Int32) (a0 : Int32) (sz : Nat) (h0_phs : ¬ phs < 0) (h7_phs : phs ≤ 72) : Met l yX7_hold (Cond.code yX7_hold cX7_hold 2 none :: wsL_law) ({ frames := 1, cells := 0, slots := 0, locals := 20 }) (va_Pc [.ref pa, .int a0] (fun U => U.heap.size = sz ∧ va_P (dC, dI) vwCl [(eO7a pa lx bk pfa pfp psk phe phr phs pop), (eA0 phe cHe 72 fHe), (eA0 phr cHr 72 fHr)] U.heap ∧ va_K (dC, dI) vwCl [(cHe, .int), (cHr, .int)] U ∧ va_D (fun _ => True) [(eO7a pa lx bk pfa pfp psk phe phr phs pop), (eA0 phe cHe 72 fHe), (eA0 phr cHr 72 fHr)])) (va_Qv (fun (u : (Int32) × (Nat → Int32) × (Nat → Int32)) => (u = fp_hold phs fHe fHr a0) ∧ (¬ u.1 < 0) ∧ (u.1 ≤ 72)) (fun (u : (Int32) × (Nat → Int32) × (Nat → Int32)) t => va_P (dC, dI) vwCl [(eO7a pa lx bk pfa pfp psk phe phr u.1 pop), (eA0 phe cHe 72 u.2.1), (eA0 phr cHr 72 u.2.2)] t.heap ∧ va_K (dC, dI) vwCl [] t ∧ va_D (va_A [(eO7a pa lx bk pfa pfp psk phe phr phs pop), (eA0 phe cHe 72 fHe), (eA0 phr cHr 72 fHr)] sz) [(eO7a pa lx bk pfa pfp psk phe phr u.1 pop), (eA0 phe cHe 72 u.2.1), (eA0 phr cHr 72 u.2.2)]) (va_A [(eO7a pa lx bk pfa pfp psk phe phr phs pop), (eA0 phe cHe 72 fHe), (eA0 phr cHr 72 fHr)] sz)) 0 0 (va_A [(eO7a pa lx bk pfa pfp psk phe phr phs pop), (eA0 phe cHe 72 fHe), (eA0 phr cHr 72 fHr)] sz) := by
  refine Met.ofW (cc := cX7_hold) (maxL := 2) (ret := none) (by decide) rfl ?_
  intro p e s m args below meth c s₁ B hml hv
  obtain ⟨rfl, hsz, hP, hK, hD0⟩ := hv
  have hx := B.exec
  have hb := B.bytes
  have hr := B.returns
  have hts := atoms_spec (ws := Cond.code yX7_hold cX7_hold 2 none :: wsL_law) B.pre
  have htw : ∀ w ∈ wsL_law, w.before _ s = true := fun w h => hts w (List.mem_cons_of_mem _ h)
  have hown : s.vm.findClass RX7 = some m.cls := findClass_of_methodNamed B.named
  have hlocks := B.notSynchronized
  subst hsz
  have hD := hD0.self (sz := s.heap.size)
  generalize hAe : va_A [(eO7a pa lx bk pfa pfp psk phe phr phs pop), (eA0 phe cHe 72 fHe), (eA0 phr cHr 72 fHr)] s.heap.size = A at hD ⊢
  have hA : ∀ q : Nat, s.heap.size ≤ q → A q := fun q h => by rw [← hAe]; exact Or.inr h
  obtain ⟨H, rH⟩ : ∃ z : Heap, z = s.heap := ⟨_, rfl⟩
  have hS : va_S A s.heap H [] := by rw [rH]; exact va_S.rf
  have hP : va_P (dC, dI) vwCl [(eO7a pa lx bk pfa pfp psk phe phr phs pop), (eA0 phe cHe 72 fHe), (eA0 phr cHr 72 fHr)] H := by rw [rH]; exact hP
  rw [← rH]
  have hl := lv_entry ([.ref pa, .int a0]) (n := 2) (Nat.le_of_ble_eq_true rfl)
  rw [lg_entry_eq]
  generalize (lg_sl ([.ref pa, .int a0]) ++ List.replicate (2 - (lg_sl ([.ref pa, .int a0])).length) Slot.unset).toArray = ls at hl ⊢
  have hl : lv_has ls 2 [(0, .ref pa), (1, .int a0)] := hl
  refine lv_aload_n hx hb dX7_hold_0 rfl (lv_at hl 0 rfl) ?_
  refine va_get (D := (dC, dI)) (ci := 7) (v := .int phs) (C := RX7) (T := TX7) (N := 9) hx hb htw inlX7 hown hK hP 0 rfl rfl 7 (by decide) (htw _ (ck_18 _ (List.mem_of_getElem? (i := 9) rfl))) (fun _ h9 => h9) rfl dX7_hold_1 ?_
  refine lv_aload_n hx hb dX7_hold_4 rfl (lv_at hl 0 rfl) ?_
  refine va_get (D := (dC, dI)) (ci := 7) (v := .ref phe) (C := RX7) (T := TX7) (N := 9) hx hb htw inlX7 hown hK hP 0 rfl rfl 5 (by decide) (htw _ (ck_3 _ (List.mem_of_getElem? (i := 7) rfl))) (fun _ h9 => h9) rfl dX7_hold_5 ?_
  refine va_alen hx hb hK hP 1 0 rfl rfl (v := 72) rfl dX7_hold_8 ?_
  refine lv_icmp_ge (tgt := 45) hx hb dX7_hold_9 (by decide) (fun c_1 => ?_) (fun c_1 => ?_)
  · refine W.widen (k := 0) (n := 0) (by omega) (by omega) ?_
    have hP9 := hP
    have hD9 := hD
    have hK9 := hK.sub (tys' := []) [] rfl
    exact W.vret hx hb hr (fun t ht hW => ⟨⟨(phs, fHe, fHr), rfl, ⟨(Eq.symm ((by rw [fp_hold]; (try rw [if_pos c_1]); try rfl))), (gp_hold_s0 (y0 := phs) c_1 h0_phs h7_phs), (gp_hold_s1 (y0 := phs) c_1 h0_phs h7_phs)⟩, by rw [ht]; exact hP9, va_K.moved hW.alike hK9, hD9⟩, hS.F ht⟩) hS.2.2 dX7_hold_45
  · refine lv_aload_n hx hb dX7_hold_12 rfl (lv_at hl 0 rfl) ?_
    refine va_get (D := (dC, dI)) (ci := 7) (v := .ref phe) (C := RX7) (T := TX7) (N := 9) hx hb htw inlX7 hown hK hP 0 rfl rfl 5 (by decide) (htw _ (ck_3 _ (List.mem_of_getElem? (i := 7) rfl))) (fun _ h9 => h9) rfl dX7_hold_13 ?_
    refine lv_aload_n hx hb dX7_hold_16 rfl (lv_at hl 0 rfl) ?_
    refine va_get (D := (dC, dI)) (ci := 7) (v := .int phs) (C := RX7) (T := TX7) (N := 9) hx hb htw inlX7 hown hK hP 0 rfl rfl 7 (by decide) (htw _ (ck_18 _ (List.mem_of_getElem? (i := 9) rfl))) (fun _ h9 => h9) rfl dX7_hold_17 ?_
    refine lv_iload_n hx hb dX7_hold_20 rfl (lv_at hl 1 rfl) ?_
    refine va_iast hx hb hK hP hD hS 1 0 rfl rfl (xg_inr (N := 72) rfl (gp_hold_s2 (y0 := phs) c_1 h0_phs h7_phs).1 (gp_hold_s2 (y0 := phs) c_1 h0_phs h7_phs).2) dX7_hold_21 (fun H locs hP hD hS => ?_)
    obtain ⟨hP, hD⟩ := zre [(eO7a pa lx bk pfa pfp psk phe phr phs pop), (eA0 phe cHe 72 (upd fHe phs.toNatClampNeg a0)), (eA0 phr cHr 72 fHr)] hP hD rfl
    refine lv_aload_n hx hb dX7_hold_22 rfl (lv_at hl 0 rfl) ?_
    refine va_get (D := (dC, dI)) (ci := 7) (v := .ref phr) (C := RX7) (T := TX7) (N := 9) hx hb htw inlX7 hown hK hP 0 rfl rfl 6 (by decide) (htw _ (ck_3 _ (List.mem_of_getElem? (i := 8) rfl))) (fun _ h9 => h9) rfl dX7_hold_23 ?_
    refine lv_aload_n hx hb dX7_hold_26 rfl (lv_at hl 0 rfl) ?_
    refine va_get (D := (dC, dI)) (ci := 7) (v := .int phs) (C := RX7) (T := TX7) (N := 9) hx hb htw inlX7 hown hK hP 0 rfl rfl 7 (by decide) (htw _ (ck_18 _ (List.mem_of_getElem? (i := 9) rfl))) (fun _ h9 => h9) rfl dX7_hold_27 ?_
    refine lv_iload_n hx hb dX7_hold_30 rfl (lv_at hl 1 rfl) ?_
    have hPc := hP.sub (ws' := []) [] rfl
    have hKc := hK.sub (tys' := []) [] rfl
    refine vp_callSi (W.runS (As := [.int a0]) (rest := [.int phs, .ref phr]) ⟨hx, hb, hml, hown, htw⟩ (gr_rankOf l dC dI a0) (va_cwS 1 htw (xg_S (ck_19 _ (List.mem_of_getElem? (i := 3) rfl)) (ck_19 _ (List.mem_of_getElem? (i := 4) rfl)) (ck_6 _ (List.mem_of_getElem? (i := 8) rfl)) (ck_19 _ (List.mem_of_getElem? (i := 5) rfl))) rfl rfl rfl (by exact ⟨hdc_1.1, hdc_1.2, hdd_2⟩) ⟨Nat.le_of_ble_eq_true rfl, Nat.le_of_ble_eq_true rfl⟩) ⟨fun a U g mk q => by obtain ⟨q0, qP, qK⟩ := q; exact ⟨q0, qP, va_K.moved (u := U) (U := U.calling g mk a) (Vm.Alike.refl U.vm) qK⟩, fun U hU hW => ⟨rfl, by rw [hU]; exact hPc, va_K.moved hW.alike hKc⟩⟩ rfl rfl hl.1 rfl (lv_room (Nat.le_of_ble_eq_true rfl)) dX7_hold_31 ⟨Nat.le_of_ble_eq_true rfl, Nat.le_of_ble_eq_true rfl⟩) (fun r_3 hw => ?_)
    try dsimp only at hw
    have hq_r_3 : r_3 = fr_rankOf a0 := hw
    refine va_iast hx hb hK hP hD hS 2 1 rfl rfl (xg_inr (N := 72) rfl (gp_hold_s3 (y0 := phs) c_1 h0_phs h7_phs).1 (gp_hold_s3 (y0 := phs) c_1 h0_phs h7_phs).2) dX7_hold_34 (fun H locs hP hD hS => ?_)
    obtain ⟨hP, hD⟩ := zre [(eO7a pa lx bk pfa pfp psk phe phr phs pop), (eA0 phe cHe 72 (upd fHe phs.toNatClampNeg a0)), (eA0 phr cHr 72 (upd fHr phs.toNatClampNeg r_3))] hP hD rfl
    refine lv_aload_n hx hb dX7_hold_35 rfl (lv_at hl 0 rfl) ?_
    refine lv_dup hx hb dX7_hold_36 rfl ?_
    refine va_get (D := (dC, dI)) (ci := 7) (v := .int phs) (C := RX7) (T := TX7) (N := 9) hx hb htw inlX7 hown hK hP 0 rfl rfl 7 (by decide) (htw _ (ck_18 _ (List.mem_of_getElem? (i := 9) rfl))) (fun _ h9 => h9) rfl dX7_hold_37 ?_
    refine lv_iconst (v := 1) hx hb dX7_hold_40 (by decide) ?_
    refine lv_iadd hx hb dX7_hold_41 ?_
    refine va_put (D := (dC, dI)) (ci := 7) (v := .int (phs + 1)) (ty := tyX7 7) (C := RX7) (T := TX7) (N := 9) hx hb htw inlX7 tyX7 tyX7_ok nmX7 hown hK hP hD hS 0 rfl rfl 7 (by decide) (htw _ (ck_18 _ (List.mem_of_getElem? (i := 9) rfl))) (fun _ h9 => h9) rfl (tyX7_ok 7 (by decide)) rfl rfl (Nat.le_of_ble_eq_true rfl) dX7_hold_42 (fun H locs hP hD hS => ?_)
    obtain ⟨hP, hD⟩ := zre [(eO7a pa lx bk pfa pfp psk phe phr (phs + 1) pop), (eA0 phe cHe 72 (upd fHe phs.toNatClampNeg a0)), (eA0 phr cHr 72 (upd fHr phs.toNatClampNeg r_3))] hP hD rfl
    refine W.widen (k := 0) (n := 0) (by omega) (by omega) ?_
    have hP9 := hP
    have hD9 := hD
    have hK9 := hK.sub (tys' := []) [] rfl
    exact W.vret hx hb hr (fun t ht hW => ⟨⟨((phs + 1), (upd fHe phs.toNatClampNeg a0), (upd fHr phs.toNatClampNeg r_3)), rfl, ⟨(Eq.symm ((by rw [fp_hold]; (try rw [if_neg c_1]); (try rw [← hq_r_3]); (try rw [xL_eq]); try rfl))), (gp_hold_s4 (y0 := phs) c_1 h0_phs h7_phs), (gp_hold_s5 (y0 := phs) c_1 h0_phs h7_phs)⟩, by rw [ht]; exact hP9, va_K.moved hW.alike hK9, hD9⟩, hS.F ht⟩) hS.2.2 dX7_hold_45

def fp_heldRank (phs : Int32) (fHr : Nat → Int32) : Int32 := (if phs ≤ 0 then (0 : Int32) else (if 72 < phs then (0 : Int32) else fHr ((phs - 1).toNatClampNeg)))
theorem gp_heldRank_s0 {y0 : Int32} (h0 : ¬ (y0 ≤ 0)) (h1 : ¬ (72 < y0)) : ¬ ((y0 - 1) < 0) ∧ ¬ (72 ≤ (y0 - 1)) := by lia
theorem gp_heldRank_s1 {y0 : Int32} (h0 : ¬ (y0 ≤ 0)) (h1 : ¬ (72 < y0)) : ¬ (y0 < 1) := by lia
theorem gp_heldRank_s2 {y0 : Int32} (h0 : ¬ (y0 ≤ 0)) (h1 : ¬ (72 < y0)) : y0 ≤ 72 := by lia
theorem dX7_heldRank_0 : decode cX7_heldRank 0 = .ok (.aload_n 0, 1) := zk_42 (by decide +kernel)
theorem dX7_heldRank_1 : decode cX7_heldRank 1 = .ok (.getfield 236, 3) := zk_180 (by decide +kernel)
theorem dX7_heldRank_4 : decode cX7_heldRank 4 = .ok (.ifCond .le 29, 3) := zk_158 (by decide +kernel)
theorem dX7_heldRank_33 : decode cX7_heldRank 33 = .ok (.iconst 0, 1) := zk_3 (by decide +kernel)
theorem dX7_heldRank_34 : decode cX7_heldRank 34 = .ok (.ireturn, 1) := zk_172 (by decide +kernel)
theorem dX7_heldRank_7 : decode cX7_heldRank 7 = .ok (.aload_n 0, 1) := zk_42 (by decide +kernel)
theorem dX7_heldRank_8 : decode cX7_heldRank 8 = .ok (.getfield 236, 3) := zk_180 (by decide +kernel)
theorem dX7_heldRank_11 : decode cX7_heldRank 11 = .ok (.aload_n 0, 1) := zk_42 (by decide +kernel)
theorem dX7_heldRank_12 : decode cX7_heldRank 12 = .ok (.getfield 28, 3) := zk_180 (by decide +kernel)
theorem dX7_heldRank_15 : decode cX7_heldRank 15 = .ok (.arraylength, 1) := zk_190 (by decide +kernel)
theorem dX7_heldRank_16 : decode cX7_heldRank 16 = .ok (.if_icmp .gt 17, 3) := zk_163 (by decide +kernel)
theorem dX7_heldRank_19 : decode cX7_heldRank 19 = .ok (.aload_n 0, 1) := zk_42 (by decide +kernel)
theorem dX7_heldRank_20 : decode cX7_heldRank 20 = .ok (.getfield 28, 3) := zk_180 (by decide +kernel)
theorem dX7_heldRank_23 : decode cX7_heldRank 23 = .ok (.aload_n 0, 1) := zk_42 (by decide +kernel)
theorem dX7_heldRank_24 : decode cX7_heldRank 24 = .ok (.getfield 236, 3) := zk_180 (by decide +kernel)
theorem dX7_heldRank_27 : decode cX7_heldRank 27 = .ok (.iconst 1, 1) := zk_4 (by decide +kernel)
theorem dX7_heldRank_28 : decode cX7_heldRank 28 = .ok (.isub, 1) := zk_100 (by decide +kernel)
theorem dX7_heldRank_29 : decode cX7_heldRank 29 = .ok (.iaload, 1) := zk_46 (by decide +kernel)
theorem dX7_heldRank_30 : decode cX7_heldRank 30 = .ok (.goto 4, 3) := zk_167 (by decide +kernel)
set_option maxHeartbeats 4000000 in
set_option maxRecDepth 100000 in
theorem gp_heldRank (l : Launch) (dC : Nat → ClassId) (dI : Nat → Nat → Nat) (pa : Nat) (lx : Nat) (bk : Nat) (pfa : Int32) (pfp : Int32) (psk : Int32) (phe : Nat) (phr : Nat) (phs : Int32) (pop : Int32) (cHr : ClassId) (fHr : Nat → Int32) : Met l yX7_heldRank (Cond.code yX7_heldRank cX7_heldRank 1 (some .int) :: wsL_law) ({ frames := 0, cells := 0, slots := 0, locals := 0 }) (va_Pc [.ref pa] (fun U => va_P (dC, dI) vwCl [(eO7a pa lx bk pfa pfp psk phe phr phs pop), (eA0 phr cHr 72 fHr)] U.heap ∧ va_K (dC, dI) vwCl [(cHr, .int)] U)) (vp_Si (fun r => (r = fp_heldRank phs fHr) ∧ (r = 0 ∨ ¬ phs < 1) ∧ (r = 0 ∨ phs ≤ 72))) 0 0 (fun _ => False) := by
  refine Met.ofW (cc := cX7_heldRank) (maxL := 1) (ret := (some .int)) (by decide) rfl ?_
  intro p e s m args below meth c s₁ B hml hv
  obtain ⟨rfl, hP, hK⟩ := hv
  have hx := B.exec
  have hb := B.bytes
  have hr := B.returns
  have hts := atoms_spec (ws := Cond.code yX7_heldRank cX7_heldRank 1 (some .int) :: wsL_law) B.pre
  have htw : ∀ w ∈ wsL_law, w.before _ s = true := fun w h => hts w (List.mem_cons_of_mem _ h)
  have hown : s.vm.findClass RX7 = some m.cls := findClass_of_methodNamed B.named
  have hlocks := B.notSynchronized
  have hl := lv_entry ([.ref pa]) (n := 1) (Nat.le_of_ble_eq_true rfl)
  rw [lg_entry_eq]
  generalize (lg_sl ([.ref pa]) ++ List.replicate (1 - (lg_sl ([.ref pa])).length) Slot.unset).toArray = ls at hl ⊢
  have hl : lv_has ls 1 [(0, .ref pa)] := hl
  refine lv_aload_n hx hb dX7_heldRank_0 rfl (lv_at hl 0 rfl) ?_
  refine va_get (D := (dC, dI)) (ci := 7) (v := .int phs) (C := RX7) (T := TX7) (N := 9) hx hb htw inlX7 hown hK hP 0 rfl rfl 7 (by decide) (htw _ (ck_18 _ (List.mem_of_getElem? (i := 9) rfl))) (fun _ h9 => h9) rfl dX7_heldRank_1 ?_
  refine lv_if_le (tgt := 33) hx hb dX7_heldRank_4 (by decide) (fun c_1 => ?_) (fun c_1 => ?_)
  · refine lv_iconst (v := 0) hx hb dX7_heldRank_33 (by decide) ?_
    exact W.iret (v := 0) hx hb hr (fun t ht hW => ⟨0, rfl, ⟨(Eq.symm ((by rw [fp_heldRank]; (try rw [if_pos c_1]); try rfl))), Or.inl rfl, Or.inl rfl⟩, ht⟩) (fun _ h => by cases h) dX7_heldRank_34
  · refine lv_aload_n hx hb dX7_heldRank_7 rfl (lv_at hl 0 rfl) ?_
    refine va_get (D := (dC, dI)) (ci := 7) (v := .int phs) (C := RX7) (T := TX7) (N := 9) hx hb htw inlX7 hown hK hP 0 rfl rfl 7 (by decide) (htw _ (ck_18 _ (List.mem_of_getElem? (i := 9) rfl))) (fun _ h9 => h9) rfl dX7_heldRank_8 ?_
    refine lv_aload_n hx hb dX7_heldRank_11 rfl (lv_at hl 0 rfl) ?_
    refine va_get (D := (dC, dI)) (ci := 7) (v := .ref phr) (C := RX7) (T := TX7) (N := 9) hx hb htw inlX7 hown hK hP 0 rfl rfl 6 (by decide) (htw _ (ck_3 _ (List.mem_of_getElem? (i := 8) rfl))) (fun _ h9 => h9) rfl dX7_heldRank_12 ?_
    refine va_alen hx hb hK hP 1 0 rfl rfl (v := 72) rfl dX7_heldRank_15 ?_
    refine lv_icmp_gt (tgt := 33) hx hb dX7_heldRank_16 (by decide) (fun c_2 => ?_) (fun c_2 => ?_)
    · refine lv_iconst (v := 0) hx hb dX7_heldRank_33 (by decide) ?_
      exact W.iret (v := 0) hx hb hr (fun t ht hW => ⟨0, rfl, ⟨(Eq.symm ((by rw [fp_heldRank]; (try rw [if_neg c_1]); (try rw [if_pos c_2]); try rfl))), Or.inl rfl, Or.inl rfl⟩, ht⟩) (fun _ h => by cases h) dX7_heldRank_34
    · refine lv_aload_n hx hb dX7_heldRank_19 rfl (lv_at hl 0 rfl) ?_
      refine va_get (D := (dC, dI)) (ci := 7) (v := .ref phr) (C := RX7) (T := TX7) (N := 9) hx hb htw inlX7 hown hK hP 0 rfl rfl 6 (by decide) (htw _ (ck_3 _ (List.mem_of_getElem? (i := 8) rfl))) (fun _ h9 => h9) rfl dX7_heldRank_20 ?_
      refine lv_aload_n hx hb dX7_heldRank_23 rfl (lv_at hl 0 rfl) ?_
      refine va_get (D := (dC, dI)) (ci := 7) (v := .int phs) (C := RX7) (T := TX7) (N := 9) hx hb htw inlX7 hown hK hP 0 rfl rfl 7 (by decide) (htw _ (ck_18 _ (List.mem_of_getElem? (i := 9) rfl))) (fun _ h9 => h9) rfl dX7_heldRank_24 ?_
      refine lv_iconst (v := 1) hx hb dX7_heldRank_27 (by decide) ?_
      refine lv_isub hx hb dX7_heldRank_28 ?_
      refine va_iald hx hb hK hP 1 0 rfl rfl (xg_inr (N := 72) rfl (gp_heldRank_s0 (y0 := phs) c_1 c_2).1 (gp_heldRank_s0 (y0 := phs) c_1 c_2).2) dX7_heldRank_29 ?_
      refine lv_goto (tgt := 34) hx hb dX7_heldRank_30 (by decide) ?_
      exact W.iret (v := fHr ((phs - 1).toNatClampNeg)) hx hb hr (fun t ht hW => ⟨fHr ((phs - 1).toNatClampNeg), rfl, ⟨(Eq.symm ((by rw [fp_heldRank]; (try rw [if_neg c_1]); (try rw [if_neg c_2]); try rfl))), (Or.inr (gp_heldRank_s1 (y0 := phs) c_1 c_2)), (Or.inr (gp_heldRank_s2 (y0 := phs) c_1 c_2))⟩, ht⟩) (fun _ h => by cases h) dX7_heldRank_34

def fp_countKnot (pfa : Int32) (pfp : Int32) (lxp : Int32) (rkn : Int32) : Int32 × (Int32) × (Int32) × (Int32) := (if rkn < 64 then ((0 : Int32), pfa, pfp, (rkn + 1)) else ((1 : Int32), (2 : Int32), lxp, rkn))
theorem gp_countKnot_s0  : (0 : Int32) = 0 := (by decide)
theorem gp_countKnot_s1  : ¬ ((1 : Int32) = 0) := (by decide)
theorem dX7_countKnot_0 : decode cX7_countKnot 0 = .ok (.aload_n 0, 1) := zk_42 (by decide +kernel)
theorem dX7_countKnot_1 : decode cX7_countKnot 1 = .ok (.aload_n 0, 1) := zk_42 (by decide +kernel)
theorem dX7_countKnot_2 : decode cX7_countKnot 2 = .ok (.getfield 31, 3) := zk_180 (by decide +kernel)
theorem dX7_countKnot_5 : decode cX7_countKnot 5 = .ok (.getfield 258, 3) := zk_180 (by decide +kernel)
theorem dX7_countKnot_8 : decode cX7_countKnot 8 = .ok (.getfield 288, 3) := zk_180 (by decide +kernel)
theorem dX7_countKnot_11 : decode cX7_countKnot 11 = .ok (.bipush 64, 2) := zk_16 (by decide +kernel)
theorem dX7_countKnot_13 : decode cX7_countKnot 13 = .ok (.if_icmp .lt 7, 3) := zk_161 (by decide +kernel)
theorem dX7_countKnot_20 : decode cX7_countKnot 20 = .ok (.iconst 0, 1) := zk_3 (by decide +kernel)
theorem dX7_countKnot_21 : decode cX7_countKnot 21 = .ok (.iconst 2, 1) := zk_5 (by decide +kernel)
theorem dX7_countKnot_22 : decode cX7_countKnot 22 = .ok (.aload_n 0, 1) := zk_42 (by decide +kernel)
theorem dX7_countKnot_23 : decode cX7_countKnot 23 = .ok (.getfield 12, 3) := zk_180 (by decide +kernel)
theorem dX7_countKnot_26 : decode cX7_countKnot 26 = .ok (.getfield 87, 3) := zk_180 (by decide +kernel)
theorem dX7_countKnot_29 : decode cX7_countKnot 29 = .ok (.invokevirtual 90, 3) := zk_182 (by decide +kernel)
theorem dX7_countKnot_32 : decode cX7_countKnot 32 = .ok (.aload_n 0, 1) := zk_42 (by decide +kernel)
theorem dX7_countKnot_33 : decode cX7_countKnot 33 = .ok (.getfield 31, 3) := zk_180 (by decide +kernel)
theorem dX7_countKnot_36 : decode cX7_countKnot 36 = .ok (.getfield 258, 3) := zk_180 (by decide +kernel)
theorem dX7_countKnot_39 : decode cX7_countKnot 39 = .ok (.dup, 1) := zk_89 (by decide +kernel)
theorem dX7_countKnot_40 : decode cX7_countKnot 40 = .ok (.getfield 288, 3) := zk_180 (by decide +kernel)
theorem dX7_countKnot_43 : decode cX7_countKnot 43 = .ok (.iconst 1, 1) := zk_4 (by decide +kernel)
theorem dX7_countKnot_44 : decode cX7_countKnot 44 = .ok (.iadd, 1) := zk_96 (by decide +kernel)
theorem dX7_countKnot_45 : decode cX7_countKnot 45 = .ok (.putfield 288, 3) := zk_181 (by decide +kernel)
theorem dX7_countKnot_48 : decode cX7_countKnot 48 = .ok (.return_, 1) := zk_177 (by decide +kernel)
theorem dX7_countKnot_16 : decode cX7_countKnot 16 = .ok (.iconst 1, 1) := zk_4 (by decide +kernel)
theorem dX7_countKnot_17 : decode cX7_countKnot 17 = .ok (.goto 4, 3) := zk_167 (by decide +kernel)
set_option maxHeartbeats 4000000 in
set_option maxRecDepth 100000 in
theorem gp_countKnot (l : Launch) (hst : l.stackTraces = false) (dC : Nat → ClassId) (dI : Nat → Nat → Nat) (pa : Nat) (lx : Nat) (bk : Nat) (pfa : Int32) (pfp : Int32) (psk : Int32) (phe : Nat) (phr : Nat) (phs : Int32) (pop : Int32) (lby : Nat) (lfi : Int32) (lco : Nat) (lxe : Int32) (lxa : Int32) (lxt : Int32) (lxp : Int32) (lxn : Int32) (lxl : Int32) (bto : Nat) (bnm : Nat) (bla : Nat) (bsk : Nat) (bru : Nat) (bbo : Nat) (bdi : Nat) (bda : Nat) (bdk : Nat) (bdt : Nat) (bdp : Nat) (bno : Nat) (rco : Nat) (rsz : Int32) (ren : Nat) (rst : Nat) (rkn : Int32) (sL : Nat → Nat) (sz : Nat) : vx_Met l yX7_countKnot (Cond.code yX7_countKnot cX7_countKnot 1 none :: wsL_law) ({ frames := 7, cells := 1, slots := 6, locals := 105 }) (va_Pc [.ref pa] (fun U => U.heap.size = sz ∧ va_P (dC, dI) vwCl [(eO7a pa lx bk pfa pfp psk phe phr phs pop), (eO3a lx lby lfi lco lxe lxa lxt lxp lxn lxl), (eO0a bk bto bnm bla bsk bru bbo bdi bda bdk bdt bdp bno), (eO8a bru rco rsz ren rst rkn)] U.heap ∧ va_K (dC, dI) vwCl [] U ∧ va_D (fun _ => True) [(eO7a pa lx bk pfa pfp psk phe phr phs pop), (eO3a lx lby lfi lco lxe lxa lxt lxp lxn lxl), (eO0a bk bto bnm bla bsk bru bbo bdi bda bdk bdt bdp bno), (eO8a bru rco rsz ren rst rkn)] ∧ xl sL (va_A [(eO7a pa lx bk pfa pfp psk phe phr phs pop), (eO3a lx lby lfi lco lxe lxa lxt lxp lxn lxl), (eO0a bk bto bnm bla bsk bru bbo bdi bda bdk bdt bdp bno), (eO8a bru rco rsz ren rst rkn)] sz) U U.heap)) (va_Qv (fun (u : (Int32) × (Int32) × (Int32)) => (fp_countKnot pfa pfp lxp rkn).1 = 0 ∧ u = (fp_countKnot pfa pfp lxp rkn).2) (fun (u : (Int32) × (Int32) × (Int32)) t => (va_P (dC, dI) vwCl [(eO7a pa lx bk u.1 u.2.1 psk phe phr phs pop), (eO3a lx lby lfi lco lxe lxa lxt lxp lxn lxl), (eO0a bk bto bnm bla bsk bru bbo bdi bda bdk bdt bdp bno), (eO8a bru rco rsz ren rst u.2.2)] t.heap ∧ va_K (dC, dI) vwCl [] t ∧ va_D (va_A [(eO7a pa lx bk pfa pfp psk phe phr phs pop), (eO3a lx lby lfi lco lxe lxa lxt lxp lxn lxl), (eO0a bk bto bnm bla bsk bru bbo bdi bda bdk bdt bdp bno), (eO8a bru rco rsz ren rst rkn)] sz) [(eO7a pa lx bk u.1 u.2.1 psk phe phr phs pop), (eO3a lx lby lfi lco lxe lxa lxt lxp lxn lxl), (eO0a bk bto bnm bla bsk bru bbo bdi bda bdk bdt bdp bno), (eO8a bru rco rsz ren rst u.2.2)]) ∧ t.heap.size = sz) (va_A [(eO7a pa lx bk pfa pfp psk phe phr phs pop), (eO3a lx lby lfi lco lxe lxa lxt lxp lxn lxl), (eO0a bk bto bnm bla bsk bru bbo bdi bda bdk bdt bdp bno), (eO8a bru rco rsz ren rst rkn)] sz)) (vx_X (fun (u : (Int32) × (Int32) × (Int32)) => (fp_countKnot pfa pfp lxp rkn).1 = 1 ∧ u = (fp_countKnot pfa pfp lxp rkn).2) (fun (E : String) (u : (Int32) × (Int32) × (Int32)) (t : State) => E = "java/lang/IllegalStateException" ∧ va_P (dC, dI) vwCl [(eO7a pa lx bk u.1 u.2.1 psk phe phr phs pop), (eO3a lx lby lfi lco lxe lxa lxt lxp lxn lxl), (eO0a bk bto bnm bla bsk bru bbo bdi bda bdk bdt bdp bno), (eO8a bru rco rsz ren rst u.2.2)] t.heap ∧ va_K (dC, dI) vwCl [] t ∧ va_D (va_A [(eO7a pa lx bk pfa pfp psk phe phr phs pop), (eO3a lx lby lfi lco lxe lxa lxt lxp lxn lxl), (eO0a bk bto bnm bla bsk bru bbo bdi bda bdk bdt bdp bno), (eO8a bru rco rsz ren rst rkn)] sz) [(eO7a pa lx bk u.1 u.2.1 psk phe phr phs pop), (eO3a lx lby lfi lco lxe lxa lxt lxp lxn lxl), (eO0a bk bto bnm bla bsk bru bbo bdi bda bdk bdt bdp bno), (eO8a bru rco rsz ren rst u.2.2)]) (va_A [(eO7a pa lx bk pfa pfp psk phe phr phs pop), (eO3a lx lby lfi lco lxe lxa lxt lxp lxn lxl), (eO0a bk bto bnm bla bsk bru bbo bdi bda bdk bdt bdp bno), (eO8a bru rco rsz ren rst rkn)] sz)) 1 6 (va_A [(eO7a pa lx bk pfa pfp psk phe phr phs pop), (eO3a lx lby lfi lco lxe lxa lxt lxp lxn lxl), (eO0a bk bto bnm bla bsk bru bbo bdi bda bdk bdt bdp bno), (eO8a bru rco rsz ren rst rkn)] sz) := by
  refine vx_ofW (cc := cX7_countKnot) (maxL := 1) (ret := none) (by decide) rfl ?_
  intro p e s m args below meth c s₁ B hml hex hv
  obtain ⟨rfl, hsz, hP, hK, hD0, hXL⟩ := hv
  have hx := B.exec
  have hb := B.bytes
  have hr := B.returns
  have hts := atoms_spec (ws := Cond.code yX7_countKnot cX7_countKnot 1 none :: wsL_law) B.pre
  have htw : ∀ w ∈ wsL_law, w.before _ s = true := fun w h => hts w (List.mem_cons_of_mem _ h)
  have hown : s.vm.findClass RX7 = some m.cls := findClass_of_methodNamed B.named
  have hlocks := B.notSynchronized
  subst hsz
  have hD := hD0.self (sz := s.heap.size)
  generalize hAe : va_A [(eO7a pa lx bk pfa pfp psk phe phr phs pop), (eO3a lx lby lfi lco lxe lxa lxt lxp lxn lxl), (eO0a bk bto bnm bla bsk bru bbo bdi bda bdk bdt bdp bno), (eO8a bru rco rsz ren rst rkn)] s.heap.size = A at hD hXL ⊢
  have hA : ∀ q : Nat, s.heap.size ≤ q → A q := fun q h => by rw [← hAe]; exact Or.inr h
  obtain ⟨H, rH⟩ : ∃ z : Heap, z = s.heap := ⟨_, rfl⟩
  have hS : va_S A s.heap H [] := by rw [rH]; exact va_S.rf
  have hP : va_P (dC, dI) vwCl [(eO7a pa lx bk pfa pfp psk phe phr phs pop), (eO3a lx lby lfi lco lxe lxa lxt lxp lxn lxl), (eO0a bk bto bnm bla bsk bru bbo bdi bda bdk bdt bdp bno), (eO8a bru rco rsz ren rst rkn)] H := by rw [rH]; exact hP
  rw [← rH]
  have hl := lv_entry ([.ref pa]) (n := 1) (Nat.le_of_ble_eq_true rfl)
  rw [lg_entry_eq]
  generalize (lg_sl ([.ref pa]) ++ List.replicate (1 - (lg_sl ([.ref pa])).length) Slot.unset).toArray = ls at hl ⊢
  have hl : lv_has ls 1 [(0, .ref pa)] := hl
  refine lv_aload_n hx hb dX7_countKnot_0 rfl (lv_at hl 0 rfl) ?_
  refine lv_aload_n hx hb dX7_countKnot_1 rfl (lv_at hl 0 rfl) ?_
  refine va_get (D := (dC, dI)) (ci := 7) (v := .ref bk) (C := RX7) (T := TX7) (N := 9) hx hb htw inlX7 hown hK hP 0 rfl rfl 1 (by decide) (htw _ (ck_13 _ (List.mem_of_getElem? (i := 6) rfl))) (fun _ h9 => h9) rfl dX7_countKnot_2 ?_
  refine va_get (D := (dC, dI)) (ci := 0) (v := .ref bru) (C := RX0) (T := TX0) (N := 12) hx hb htw inlX0 hown hK hP 2 rfl rfl 4 (by decide) (htw _ (ck_18 _ (List.mem_of_getElem? (i := 11) rfl))) (fun _ h9 => h9) rfl dX7_countKnot_5 ?_
  refine va_get (D := (dC, dI)) (ci := 8) (v := .int rkn) (C := RX8) (T := TX8) (N := 5) hx hb htw inlX8 hown hK hP 3 rfl rfl 4 (by decide) (htw _ (ck_19 _ (List.mem_of_getElem? (i := 10) rfl))) (fun _ h9 => h9) rfl dX7_countKnot_8 ?_
  refine lv_bipush (v := 64) hx hb dX7_countKnot_11 (by decide) ?_
  refine lv_icmp_lt (tgt := 20) hx hb dX7_countKnot_13 (by decide) (fun c_1 => ?_) (fun c_1 => ?_)
  · refine lv_iconst (v := 0) hx hb dX7_countKnot_20 (by decide) ?_
    refine lv_iconst (v := 2) hx hb dX7_countKnot_21 (by decide) ?_
    refine lv_aload_n hx hb dX7_countKnot_22 rfl (lv_at hl 0 rfl) ?_
    refine va_get (D := (dC, dI)) (ci := 7) (v := .ref lx) (C := RX7) (T := TX7) (N := 9) hx hb htw inlX7 hown hK hP 0 rfl rfl 0 (by decide) (htw _ (ck_3 _ (List.mem_of_getElem? (i := 5) rfl))) (fun _ h9 => h9) rfl dX7_countKnot_23 ?_
    refine va_get (D := (dC, dI)) (ci := 3) (v := .int lxp) (C := RX3) (T := TX3) (N := 9) hx hb htw inlX3 hown hK hP 1 rfl rfl 6 (by decide) (htw _ (ck_15 _ (List.mem_of_getElem? (i := 13) rfl))) (fun _ h9 => h9) rfl dX7_countKnot_26 ?_
    have hPc := hP.sub (ws' := []) [] rfl
    have hKc := hK.sub (tys' := []) [] rfl
    refine va_csv (W.runV (As := [.int 0, .int 2, .int lxp]) (rest := []) ⟨hx, hb, hml, hown, htw⟩ (gp_ref0 l dC dI (0 : Int32) (2 : Int32) lxp pa (gp_countKnot_s0 )) (cwV 3 htw (xg_V (ck_16 _ (List.mem_of_getElem? (i := 6) rfl)) (ck_16 _ (List.mem_of_getElem? (i := 7) rfl)) (ck_16 _ (List.mem_of_getElem? (i := 8) rfl)) (ck_1 _ (List.mem_of_getElem? (i := 16) rfl)) (ck_16 _ (List.mem_of_getElem? (i := 9) rfl))) rfl rfl rfl (by exact ⟨rfl, hdc_15.1, hdc_15.2, hdd_48⟩) ⟨Nat.le_of_ble_eq_true rfl, Nat.le_of_ble_eq_true rfl⟩) ⟨fun a U g mk q => by obtain ⟨q0, qP, qK⟩ := q; exact ⟨q0, qP, va_K.moved (u := U) (U := U.calling g mk a) (Vm.Alike.refl U.vm) qK⟩, va_recv hK hP (ci := 7) (q0 := 0) rfl rfl, fun U hU hW => ⟨rfl, by rw [hU]; exact hPc, va_K.moved hW.alike hKc⟩⟩ rfl rfl hl.1 rfl (lv_room (Nat.le_of_ble_eq_true rfl)) dX7_countKnot_29 ⟨Nat.le_of_ble_eq_true rfl, Nat.le_of_ble_eq_true rfl⟩) (fun hw => ?_)
    try dsimp only at hw
    refine lv_aload_n hx hb dX7_countKnot_32 rfl (lv_at hl 0 rfl) ?_
    refine va_get (D := (dC, dI)) (ci := 7) (v := .ref bk) (C := RX7) (T := TX7) (N := 9) hx hb htw inlX7 hown hK hP 0 rfl rfl 1 (by decide) (htw _ (ck_13 _ (List.mem_of_getElem? (i := 6) rfl))) (fun _ h9 => h9) rfl dX7_countKnot_33 ?_
    refine va_get (D := (dC, dI)) (ci := 0) (v := .ref bru) (C := RX0) (T := TX0) (N := 12) hx hb htw inlX0 hown hK hP 2 rfl rfl 4 (by decide) (htw _ (ck_18 _ (List.mem_of_getElem? (i := 11) rfl))) (fun _ h9 => h9) rfl dX7_countKnot_36 ?_
    refine lv_dup hx hb dX7_countKnot_39 rfl ?_
    refine va_get (D := (dC, dI)) (ci := 8) (v := .int rkn) (C := RX8) (T := TX8) (N := 5) hx hb htw inlX8 hown hK hP 3 rfl rfl 4 (by decide) (htw _ (ck_19 _ (List.mem_of_getElem? (i := 10) rfl))) (fun _ h9 => h9) rfl dX7_countKnot_40 ?_
    refine lv_iconst (v := 1) hx hb dX7_countKnot_43 (by decide) ?_
    refine lv_iadd hx hb dX7_countKnot_44 ?_
    refine va_put (D := (dC, dI)) (ci := 8) (v := .int (rkn + 1)) (ty := tyX8 4) (C := RX8) (T := TX8) (N := 5) hx hb htw inlX8 tyX8 tyX8_ok nmX8 hown hK hP hD hS 3 rfl rfl 4 (by decide) (htw _ (ck_19 _ (List.mem_of_getElem? (i := 10) rfl))) (fun _ h9 => h9) rfl (tyX8_ok 4 (by decide)) rfl rfl (Nat.le_of_ble_eq_true rfl) dX7_countKnot_45 (fun H locs hP hD hS => ?_)
    obtain ⟨hP, hD⟩ := zre [(eO7a pa lx bk pfa pfp psk phe phr phs pop), (eO3a lx lby lfi lco lxe lxa lxt lxp lxn lxl), (eO0a bk bto bnm bla bsk bru bbo bdi bda bdk bdt bdp bno), (eO8a bru rco rsz ren rst (rkn + 1))] hP hD rfl
    refine xs_size (fun hHz => ?_)
    refine vx_ret ?_
    refine W.widen (k := 1) (n := 6) (by omega) (by omega) ?_
    have hP9 := hP
    have hD9 := hD
    have hK9 := hK.sub (tys' := []) [] rfl
    exact W.vret hx hb hr (fun t ht hW => ⟨⟨(pfa, pfp, (rkn + 1)), rfl, ((fun e9 => ⟨by rw [e9], by rw [e9]⟩ : fp_countKnot pfa pfp lxp rkn = ((0 : Int32), pfa, pfp, (rkn + 1)) → _) ((by rw [fp_countKnot]; (try rw [if_pos c_1]); try rfl))), ⟨by rw [ht]; exact hP9, va_K.moved hW.alike hK9, hD9⟩, by rw [ht]; first | exact hHz | exact hHz.trans (by rw [rH])⟩, hS.F ht⟩) hS.2.2 dX7_countKnot_48
  · refine lv_iconst (v := 1) hx hb dX7_countKnot_16 (by decide) ?_
    refine lv_goto (tgt := 21) hx hb dX7_countKnot_17 (by decide) ?_
    refine lv_iconst (v := 2) hx hb dX7_countKnot_21 (by decide) ?_
    refine lv_aload_n hx hb dX7_countKnot_22 rfl (lv_at hl 0 rfl) ?_
    refine va_get (D := (dC, dI)) (ci := 7) (v := .ref lx) (C := RX7) (T := TX7) (N := 9) hx hb htw inlX7 hown hK hP 0 rfl rfl 0 (by decide) (htw _ (ck_3 _ (List.mem_of_getElem? (i := 5) rfl))) (fun _ h9 => h9) rfl dX7_countKnot_23 ?_
    refine va_get (D := (dC, dI)) (ci := 3) (v := .int lxp) (C := RX3) (T := TX3) (N := 9) hx hb htw inlX3 hown hK hP 1 rfl rfl 6 (by decide) (htw _ (ck_15 _ (List.mem_of_getElem? (i := 13) rfl))) (fun _ h9 => h9) rfl dX7_countKnot_26 ?_
    refine xs_size (fun hHz => ?_)
    obtain ⟨hPc, hDc, hFc, hCc⟩ := zsub3 (ws' := [(eO7a pa lx bk pfa pfp psk phe phr phs pop)]) hP hD hS hA [0] (by decide) rfl
    have hKc := hK.sub (tys' := []) [] rfl
    refine vx_callv (vx_runV (As := [.int 1, .int 2, .int lxp]) (rest := []) ⟨hx, hb, hml, hown, htw⟩ (gp_refT l hst dC dI pa lx bk pfa pfp psk phe phr phs pop (1 : Int32) (2 : Int32) lxp sL H.size (gp_countKnot_s1 )) (cwV 3 htw (xg_V (ck_16 _ (List.mem_of_getElem? (i := 6) rfl)) (ck_16 _ (List.mem_of_getElem? (i := 7) rfl)) (ck_16 _ (List.mem_of_getElem? (i := 8) rfl)) (ck_1 _ (List.mem_of_getElem? (i := 16) rfl)) (ck_16 _ (List.mem_of_getElem? (i := 9) rfl))) rfl rfl rfl (by exact ⟨rfl, hdc_15.1, hdc_15.2, hdd_48⟩) ⟨Nat.le_of_ble_eq_true rfl, Nat.le_of_ble_eq_true rfl⟩) ⟨fun a U g mk q => by obtain ⟨q0, q1, qP, qK, qD, qx0⟩ := q; exact ⟨q0, q1, qP, va_K.moved (u := U) (U := U.calling g mk a) (Vm.Alike.refl U.vm) qK, qD, xl.calling qx0⟩, va_recv hKc hPc (ci := 7) (q0 := 0) rfl rfl, fun U hU hW => ⟨rfl, by rw [hU], by rw [hU]; exact hPc, va_K.moved hW.alike hKc, hDc.weaken (fun _ _ _ _ => trivial), by rw [hU]; exact xl.warm hW ((xl.kept hXL hS.2.1).narrow hFc)⟩⟩ rfl rfl hl.1 rfl (lv_room (Nat.le_of_ble_eq_true rfl)) dX7_countKnot_29 ⟨Nat.le_of_ble_eq_true rfl, Nat.le_of_ble_eq_true rfl⟩) hS (fun q _ h => hFc q h) hFc (fun q _ h => hFc q h) (fun E ce q9 u_3 t H1 locs ht hvm hw hB hz1 hk1 hS hcell hcv hcl => ?_) (fun u_5 t H1 locs ht hvm hw hB hz1 hk1 hS => hw.elim)
    obtain ⟨hE9, hB⟩ := hB
    subst hE9
    obtain ⟨hP1, hK1, hD1⟩ := hB
    rw [ht] at hP1
    have hK1 := va_K.moved hvm.symm hK1
    have hK1 : va_K (dC, dI) vwCl [] s := hK1
    obtain ⟨hP, hD⟩ := va_join (wr := [(eO3a lx lby lfi lco lxe lxa lxt lxp lxn lxl), (eO0a bk bto bnm bla bsk bru bbo bdi bda bdk bdt bdp bno), (eO8a bru rco rsz ren rst rkn)]) (w1 := [(eO7a pa lx bk 2 lxp psk phe phr phs pop)]) hP hD [0] [1, 2, 3] hCc rfl (by decide) (by decide) hk1 hFc hP1 hD1
    generalize H1 = H at hP hS hcell ⊢
    obtain ⟨hP, hD⟩ := zre [(eO3a lx lby lfi lco lxe lxa lxt lxp lxn lxl), (eO0a bk bto bnm bla bsk bru bbo bdi bda bdk bdt bdp bno), (eO8a bru rco rsz ren rst rkn), (eO7a pa lx bk 2 lxp psk phe phr phs pop)] hP hD rfl
    obtain ⟨hP9, hD9⟩ := zsub2 (ws' := [(eO7a pa lx bk 2 lxp psk phe phr phs pop), (eO3a lx lby lfi lco lxe lxa lxt lxp lxn lxl), (eO0a bk bto bnm bla bsk bru bbo bdi bda bdk bdt bdp bno), (eO8a bru rco rsz ren rst rkn)]) hP hD [3, 0, 1, 2] (by decide) rfl
    have hK9 := hK.sub (tys' := []) [] rfl
    exact vx_widen (k := 1) (n := 6) (Nat.le_of_ble_eq_true rfl) (Nat.le_of_ble_eq_true rfl) (vx_out (fun x h9 => (hex x h9).elim) hlocks hcell hcv hcl (fun t ht hal => ⟨(2, lxp, rkn), ((fun e9 => ⟨by rw [e9], by rw [e9]⟩ : fp_countKnot pfa pfp lxp rkn = ((1 : Int32), (2 : Int32), lxp, rkn) → _) ((by rw [fp_countKnot]; (try rw [if_neg c_1]); try rfl))), ⟨rfl, by rw [ht]; exact hP9, va_K.moved hal hK9, hD9⟩, hS.F ht⟩) hS.2.2 (Nat.le_of_ble_eq_true rfl) (Nat.le_of_ble_eq_true rfl))

def fp_release_d (fHe : Nat → Int32) (fHr : Nat → Int32) (a0 : Int32) : Nat → (Int32) → (Int32) → (Int32) → (Nat → Int32) → (Int32) × (Int32) × (Nat → Int32)
  | 0, L2d, phs_d, rsz_d, fRc_d => (phs_d, rsz_d, fRc_d)
  | n + 1, L2d, phs_d, rsz_d, fRc_d => (if 72 ≤ L2d then (phs_d, rsz_d, fRc_d) else (xL ((fp_heldRank phs_d fHr)) (fun r_4 => (if r_4 < a0 then (phs_d, rsz_d, fRc_d) else (xL (fr_knotOf (fHe ((phs_d - 1).toNatClampNeg))) (fun r_8 => (xL ((fp_put rsz_d fRc_d r_8)) (fun u_10 => fp_release_d fHe fHr a0 n (L2d + 1) (phs_d - 1) u_10.1 u_10.2))))))))
def fp_release (phs : Int32) (fHe : Nat → Int32) (fHr : Nat → Int32) (rsz : Int32) (fRc : Nat → Int32) (a0 : Int32) : (Int32) × (Int32) × (Nat → Int32) := fp_release_d fHe fHr a0 72 (0 : Int32) phs rsz fRc
theorem gp_release_s0 {y0 : Int32} (h0 : ¬ (y0 < 0)) (h1 : y0 ≤ 72) : ¬ (y0 < 0) := h0
theorem gp_release_s1 {y0 : Int32} (h0 : ¬ (y0 < 0)) (h1 : y0 ≤ 72) : y0 ≤ 72 := h1
theorem gp_release_s2 {y0 : Int32} (h0 : ¬ (y0 < 0)) : ¬ (y0 < 0) := h0
theorem gp_release_s3 {y0 : Int32} (h0 : ¬ (y0 < 0)) (h1 : y0 ≤ 72) : ¬ (y0 < 0) := h0
theorem gp_release_s4 {y0 : Int32} (h0 : ¬ (y0 < 0)) (h1 : y0 ≤ 72) : y0 ≤ 72 := h1
theorem gp_release_s5 {y0 : Int32} (h0 : ¬ (y0 < 0)) : ¬ (y0 < 0) := h0
theorem gp_release_s6 {y0 : Int32} (h0 : ¬ (y0 < 0)) (h1 : y0 ≤ 72) : ¬ (y0 < 0) := h0
theorem gp_release_s7 {y0 : Int32} (h0 : ¬ (y0 < 0)) (h1 : y0 ≤ 72) : y0 ≤ 72 := h1
theorem gp_release_s8 {y0 : Int32} (h0 : ¬ (y0 < 0)) : ¬ (y0 < 0) := h0
theorem gp_release_s9 {y0 : Int32} {y1 : Int32} (h0 : ¬ (y0 < y1)) (h1 : ¬ (y1 < 1)) : ¬ (y0 = 0) := by lia
theorem gp_release_s10 {y0 : Int32} (h0 : ¬ (y0 < 1)) (h1 : y0 ≤ 72) (h2 : ¬ (y0 < 0)) : ¬ ((y0 - 1) < 0) ∧ ¬ (72 ≤ (y0 - 1)) := by lia
theorem gp_release_s11 {y0 : Int32} (h0 : ¬ (y0 < 0)) : ¬ (y0 < 0) := h0
theorem gp_release_s12 {y0 : Int32} (h0 : ¬ (72 ≤ y0)) (h1 : ¬ (y0 < 0)) : ¬ ((y0 + 1) < 0) := by lia
theorem gp_release_s13 {y0 : Int32} (h0 : ¬ (y0 < 1)) (h1 : y0 ≤ 72) (h2 : ¬ (y0 < 0)) : ¬ ((y0 - 1) < 0) := by lia
theorem gp_release_s14 {y0 : Int32} (h0 : ¬ (y0 < 1)) (h1 : y0 ≤ 72) (h2 : ¬ (y0 < 0)) : (y0 - 1) ≤ 72 := by lia
theorem gp_release_s15 {y0 : Int32} (h0 : ¬ (y0 < 0)) : ¬ (y0 < 0) := h0
theorem gp_release_s16  : ¬ ((0 : Int32) < 0) := (by decide)
theorem gp_release_s17 {y0 : Int32} (h0 : ¬ (y0 < 0)) (h1 : y0 ≤ 72) : ¬ (y0 < 0) := h0
theorem gp_release_s18 {y0 : Int32} (h0 : ¬ (y0 < 0)) (h1 : y0 ≤ 72) : y0 ≤ 72 := h1
theorem gp_release_s19 {y0 : Int32} (h0 : ¬ (y0 < 0)) : ¬ (y0 < 0) := h0
theorem dX7_release_0 : decode cX7_release 0 = .ok (.iconst 0, 1) := zk_3 (by decide +kernel)
theorem dX7_release_1 : decode cX7_release 1 = .ok (.istore_n 2, 1) := zk_61 (by decide +kernel)
theorem dX7_release_2 : decode cX7_release 2 = .ok (.iload_n 2, 1) := zk_28 (by decide +kernel)
theorem dX7_release_3 : decode cX7_release 3 = .ok (.aload_n 0, 1) := zk_42 (by decide +kernel)
theorem dX7_release_4 : decode cX7_release 4 = .ok (.getfield 24, 3) := zk_180 (by decide +kernel)
theorem dX7_release_7 : decode cX7_release 7 = .ok (.arraylength, 1) := zk_190 (by decide +kernel)
theorem dX7_release_8 : decode cX7_release 8 = .ok (.if_icmp .ge 49, 3) := zk_162 (by decide +kernel)
theorem dX7_release_57 : decode cX7_release 57 = .ok (.return_, 1) := zk_177 (by decide +kernel)
theorem dX7_release_11 : decode cX7_release 11 = .ok (.aload_n 0, 1) := zk_42 (by decide +kernel)
theorem dX7_release_12 : decode cX7_release 12 = .ok (.invokevirtual 265, 3) := zk_182 (by decide +kernel)
theorem dX7_release_15 : decode cX7_release 15 = .ok (.iload_n 1, 1) := zk_27 (by decide +kernel)
theorem dX7_release_16 : decode cX7_release 16 = .ok (.if_icmp .lt 41, 3) := zk_161 (by decide +kernel)
theorem dX7_release_19 : decode cX7_release 19 = .ok (.aload_n 0, 1) := zk_42 (by decide +kernel)
theorem dX7_release_20 : decode cX7_release 20 = .ok (.dup, 1) := zk_89 (by decide +kernel)
theorem dX7_release_21 : decode cX7_release 21 = .ok (.getfield 236, 3) := zk_180 (by decide +kernel)
theorem dX7_release_24 : decode cX7_release 24 = .ok (.iconst 1, 1) := zk_4 (by decide +kernel)
theorem dX7_release_25 : decode cX7_release 25 = .ok (.isub, 1) := zk_100 (by decide +kernel)
theorem dX7_release_26 : decode cX7_release 26 = .ok (.putfield 236, 3) := zk_181 (by decide +kernel)
theorem dX7_release_29 : decode cX7_release 29 = .ok (.aload_n 0, 1) := zk_42 (by decide +kernel)
theorem dX7_release_30 : decode cX7_release 30 = .ok (.getfield 31, 3) := zk_180 (by decide +kernel)
theorem dX7_release_33 : decode cX7_release 33 = .ok (.getfield 258, 3) := zk_180 (by decide +kernel)
theorem dX7_release_36 : decode cX7_release 36 = .ok (.aload_n 0, 1) := zk_42 (by decide +kernel)
theorem dX7_release_37 : decode cX7_release 37 = .ok (.getfield 24, 3) := zk_180 (by decide +kernel)
theorem dX7_release_40 : decode cX7_release 40 = .ok (.aload_n 0, 1) := zk_42 (by decide +kernel)
theorem dX7_release_41 : decode cX7_release 41 = .ok (.getfield 236, 3) := zk_180 (by decide +kernel)
theorem dX7_release_44 : decode cX7_release 44 = .ok (.iaload, 1) := zk_46 (by decide +kernel)
theorem dX7_release_45 : decode cX7_release 45 = .ok (.invokestatic 285, 3) := zk_184 (by decide +kernel)
theorem dX7_release_48 : decode cX7_release 48 = .ok (.invokevirtual 282, 3) := zk_182 (by decide +kernel)
theorem dX7_release_51 : decode cX7_release 51 = .ok (.iinc 2 1, 3) := zk_132 (by decide +kernel)
theorem dX7_release_54 : decode cX7_release 54 = .ok (.goto (-52), 3) := zk_167 (by decide +kernel)
set_option maxHeartbeats 4000000 in
set_option maxRecDepth 100000 in
theorem gp_release (l : Launch) (dC : Nat → ClassId) (dI : Nat → Nat → Nat) (pa : Nat) (lx : Nat) (bk : Nat) (pfa : Int32) (pfp : Int32) (psk : Int32) (phe : Nat) (phr : Nat) (phs : Int32) (pop : Int32) (cHe : ClassId) (fHe : Nat → Int32) (cHr : ClassId) (fHr : Nat → Int32) (bto : Nat) (bnm : Nat) (bla : Nat) (bsk : Nat) (bru : Nat) (bbo : Nat) (bdi : Nat) (bda : Nat) (bdk : Nat) (bdt : Nat) (bdp : Nat) (bno : Nat) (rco : Nat) (rsz : Int32) (ren : Nat) (rst : Nat) (rkn : Int32) (cRc : ClassId) (fRc : Nat → Int32) (a0 : Int32) (sz : Nat) (hrk : ¬ a0 < 1) (h0_phs : ¬ phs < 0) (h7_phs : phs ≤ 72) (h0_rsz : ¬ rsz < 0) : Met l yX7_release (Cond.code yX7_release cX7_release 3 none :: wsL_law) ({ frames := 1, cells := 0, slots := 0, locals := 21 }) (va_Pc [.ref pa, .int a0] (fun U => U.heap.size = sz ∧ va_P (dC, dI) vwCl [(eO7a pa lx bk pfa pfp psk phe phr phs pop), (eA0 phe cHe 72 fHe), (eA0 phr cHr 72 fHr), (eO0a bk bto bnm bla bsk bru bbo bdi bda bdk bdt bdp bno), (eO8a bru rco rsz ren rst rkn), (eA0 rco cRc 64 fRc)] U.heap ∧ va_K (dC, dI) vwCl [(cHe, .int), (cHr, .int), (cRc, .int)] U ∧ va_D (fun _ => True) [(eO7a pa lx bk pfa pfp psk phe phr phs pop), (eA0 phe cHe 72 fHe), (eA0 phr cHr 72 fHr), (eO0a bk bto bnm bla bsk bru bbo bdi bda bdk bdt bdp bno), (eO8a bru rco rsz ren rst rkn), (eA0 rco cRc 64 fRc)])) (va_Qv (fun (u : (Int32) × (Int32) × (Nat → Int32)) => (u = fp_release phs fHe fHr rsz fRc a0) ∧ (¬ u.1 < 0) ∧ (u.1 ≤ 72) ∧ (¬ u.2.1 < 0)) (fun (u : (Int32) × (Int32) × (Nat → Int32)) t => va_P (dC, dI) vwCl [(eO7a pa lx bk pfa pfp psk phe phr u.1 pop), (eA0 phe cHe 72 fHe), (eA0 phr cHr 72 fHr), (eO0a bk bto bnm bla bsk bru bbo bdi bda bdk bdt bdp bno), (eO8a bru rco u.2.1 ren rst rkn), (eA0 rco cRc 64 u.2.2)] t.heap ∧ va_K (dC, dI) vwCl [] t ∧ va_D (va_A [(eO7a pa lx bk pfa pfp psk phe phr phs pop), (eA0 phe cHe 72 fHe), (eA0 phr cHr 72 fHr), (eO0a bk bto bnm bla bsk bru bbo bdi bda bdk bdt bdp bno), (eO8a bru rco rsz ren rst rkn), (eA0 rco cRc 64 fRc)] sz) [(eO7a pa lx bk pfa pfp psk phe phr u.1 pop), (eA0 phe cHe 72 fHe), (eA0 phr cHr 72 fHr), (eO0a bk bto bnm bla bsk bru bbo bdi bda bdk bdt bdp bno), (eO8a bru rco u.2.1 ren rst rkn), (eA0 rco cRc 64 u.2.2)]) (va_A [(eO7a pa lx bk pfa pfp psk phe phr phs pop), (eA0 phe cHe 72 fHe), (eA0 phr cHr 72 fHr), (eO0a bk bto bnm bla bsk bru bbo bdi bda bdk bdt bdp bno), (eO8a bru rco rsz ren rst rkn), (eA0 rco cRc 64 fRc)] sz)) 0 0 (va_A [(eO7a pa lx bk pfa pfp psk phe phr phs pop), (eA0 phe cHe 72 fHe), (eA0 phr cHr 72 fHr), (eO0a bk bto bnm bla bsk bru bbo bdi bda bdk bdt bdp bno), (eO8a bru rco rsz ren rst rkn), (eA0 rco cRc 64 fRc)] sz) := by
  refine Met.ofW (cc := cX7_release) (maxL := 3) (ret := none) (by decide) rfl ?_
  intro p e s m args below meth c s₁ B hml hv
  obtain ⟨rfl, hsz, hP, hK, hD0⟩ := hv
  have hx := B.exec
  have hb := B.bytes
  have hr := B.returns
  have hts := atoms_spec (ws := Cond.code yX7_release cX7_release 3 none :: wsL_law) B.pre
  have htw : ∀ w ∈ wsL_law, w.before _ s = true := fun w h => hts w (List.mem_cons_of_mem _ h)
  have hown : s.vm.findClass RX7 = some m.cls := findClass_of_methodNamed B.named
  have hlocks := B.notSynchronized
  subst hsz
  have hD := hD0.self (sz := s.heap.size)
  generalize hAe : va_A [(eO7a pa lx bk pfa pfp psk phe phr phs pop), (eA0 phe cHe 72 fHe), (eA0 phr cHr 72 fHr), (eO0a bk bto bnm bla bsk bru bbo bdi bda bdk bdt bdp bno), (eO8a bru rco rsz ren rst rkn), (eA0 rco cRc 64 fRc)] s.heap.size = A at hD ⊢
  have hA : ∀ q : Nat, s.heap.size ≤ q → A q := fun q h => by rw [← hAe]; exact Or.inr h
  obtain ⟨H, rH⟩ : ∃ z : Heap, z = s.heap := ⟨_, rfl⟩
  have hS : va_S A s.heap H [] := by rw [rH]; exact va_S.rf
  have hP : va_P (dC, dI) vwCl [(eO7a pa lx bk pfa pfp psk phe phr phs pop), (eA0 phe cHe 72 fHe), (eA0 phr cHr 72 fHr), (eO0a bk bto bnm bla bsk bru bbo bdi bda bdk bdt bdp bno), (eO8a bru rco rsz ren rst rkn), (eA0 rco cRc 64 fRc)] H := by rw [rH]; exact hP
  rw [← rH]
  have hl := lv_entry ([.ref pa, .int a0]) (n := 3) (Nat.le_of_ble_eq_true rfl)
  rw [lg_entry_eq]
  generalize (lg_sl ([.ref pa, .int a0]) ++ List.replicate (3 - (lg_sl ([.ref pa, .int a0])).length) Slot.unset).toArray = ls at hl ⊢
  have hl : lv_has ls 3 [(0, .ref pa), (1, .int a0)] := hl
  refine lv_iconst (v := 0) hx hb dX7_release_0 (by decide) ?_
  refine lv_istore_n (lv' := [(2, .int 0), (0, .ref pa), (1, .int a0)]) hx hb dX7_release_1 rfl hl (by decide) rfl (fun ls hl => ?_)
  have hloop_1 : ∀ (n : Nat) (L2d : Int32) (phs_d : Int32) (rsz_d : Int32) (fRc_d : Nat → Int32) (h0_d : ¬ L2d < 0) (hf_d : (72 : Int32).toInt ≤ L2d.toInt + (n : Int)) (hj0_d : ¬ phs_d < 0) (hj7_d : phs_d ≤ 72) (hjr_d : ¬ rsz_d < 0) (hI_d : fp_release phs fHe fHr rsz fRc a0 = fp_release_d fHe fHr a0 n L2d phs_d rsz_d fRc_d) (H : Heap) (locs : List Loc) (ls : Array Slot) (hP : va_P (dC, dI) vwCl [(eO7a pa lx bk pfa pfp psk phe phr phs_d pop), (eA0 phe cHe 72 fHe), (eA0 phr cHr 72 fHr), (eO0a bk bto bnm bla bsk bru bbo bdi bda bdk bdt bdp bno), (eO8a bru rco rsz_d ren rst rkn), (eA0 rco cRc 64 fRc_d)] H) (hD : va_D A [(eO7a pa lx bk pfa pfp psk phe phr phs_d pop), (eA0 phe cHe 72 fHe), (eA0 phr cHr 72 fHr), (eO0a bk bto bnm bla bsk bru bbo bdi bda bdk bdt bdp bno), (eO8a bru rco rsz_d ren rst rkn), (eA0 rco cRc 64 fRc_d)]) (hS : va_S A s.heap H locs) (hl : lv_has ls 3 [(2, .int L2d), (0, .ref pa), (1, .int a0)]), W p l e (headSpec (Cond.code yX7_release cX7_release 3 none :: wsL_law) ({ frames := 1, cells := 0, slots := 0, locals := 21 })).room s m ([.ref pa, .int a0] : List Value).toArray below meth c H locs 0 0 (MQ below (va_Qv (fun (u : (Int32) × (Int32) × (Nat → Int32)) => (u = fp_release phs fHe fHr rsz fRc a0) ∧ (¬ u.1 < 0) ∧ (u.1 ≤ 72) ∧ (¬ u.2.1 < 0)) (fun (u : (Int32) × (Int32) × (Nat → Int32)) t => va_P (dC, dI) vwCl [(eO7a pa lx bk pfa pfp psk phe phr u.1 pop), (eA0 phe cHe 72 fHe), (eA0 phr cHr 72 fHr), (eO0a bk bto bnm bla bsk bru bbo bdi bda bdk bdt bdp bno), (eO8a bru rco u.2.1 ren rst rkn), (eA0 rco cRc 64 u.2.2)] t.heap ∧ va_K (dC, dI) vwCl [] t ∧ va_D A [(eO7a pa lx bk pfa pfp psk phe phr u.1 pop), (eA0 phe cHe 72 fHe), (eA0 phr cHr 72 fHr), (eO0a bk bto bnm bla bsk bru bbo bdi bda bdk bdt bdp bno), (eO8a bru rco u.2.1 ren rst rkn), (eA0 rco cRc 64 u.2.2)]) A) ([.ref pa, .int a0] : List Value).toArray s 0 0 A) (F0 m 2 ls []) := by
    intro n
    induction n with
    | zero =>
      intro L2d phs_d rsz_d fRc_d h0_d hf_d hj0_d hj7_d hjr_d hI_d H locs ls hP hD hS hl
      refine lv_iload_n hx hb dX7_release_2 rfl (lv_at hl 0 rfl) ?_
      refine lv_aload_n hx hb dX7_release_3 rfl (lv_at hl 1 rfl) ?_
      refine va_get (D := (dC, dI)) (ci := 7) (v := .ref phe) (C := RX7) (T := TX7) (N := 9) hx hb htw inlX7 hown hK hP 0 rfl rfl 5 (by decide) (htw _ (ck_3 _ (List.mem_of_getElem? (i := 7) rfl))) (fun _ h9 => h9) rfl dX7_release_4 ?_
      refine va_alen hx hb hK hP 1 0 rfl rfl (v := 72) rfl dX7_release_7 ?_
      refine lv_icmp_ge (tgt := 57) hx hb dX7_release_8 (by decide) (fun c_2 => ?_) (fun c_2 => absurd c_2 (fun h => h (xi_z hf_d)))
      refine W.widen (k := 0) (n := 0) (by omega) (by omega) ?_
      obtain ⟨hP9, hD9⟩ := zsub2 (ws' := [(eO7a pa lx bk pfa pfp psk phe phr phs_d pop), (eA0 phe cHe 72 fHe), (eA0 phr cHr 72 fHr), (eO0a bk bto bnm bla bsk bru bbo bdi bda bdk bdt bdp bno), (eO8a bru rco rsz_d ren rst rkn), (eA0 rco cRc 64 fRc_d)]) hP hD [0, 1, 2, 3, 4, 5] (by decide) rfl
      have hK9 := hK.sub (tys' := []) [] rfl
      exact W.vret hx hb hr (fun t ht hW => ⟨⟨(phs_d, rsz_d, fRc_d), rfl, ⟨(Eq.symm (hI_d.trans (by rw [fp_release_d]; try rfl))), (gp_release_s0 (y0 := phs_d) hj0_d hj7_d), (gp_release_s1 (y0 := phs_d) hj0_d hj7_d), (gp_release_s2 (y0 := rsz_d) hjr_d)⟩, by rw [ht]; exact hP9, va_K.moved hW.alike hK9, hD9⟩, hS.F ht⟩) hS.2.2 dX7_release_57
    | succ n ih =>
      intro L2d phs_d rsz_d fRc_d h0_d hf_d hj0_d hj7_d hjr_d hI_d H locs ls hP hD hS hl
      refine lv_iload_n hx hb dX7_release_2 rfl (lv_at hl 0 rfl) ?_
      refine lv_aload_n hx hb dX7_release_3 rfl (lv_at hl 1 rfl) ?_
      refine va_get (D := (dC, dI)) (ci := 7) (v := .ref phe) (C := RX7) (T := TX7) (N := 9) hx hb htw inlX7 hown hK hP 0 rfl rfl 5 (by decide) (htw _ (ck_3 _ (List.mem_of_getElem? (i := 7) rfl))) (fun _ h9 => h9) rfl dX7_release_4 ?_
      refine va_alen hx hb hK hP 1 0 rfl rfl (v := 72) rfl dX7_release_7 ?_
      refine lv_icmp_ge (tgt := 57) hx hb dX7_release_8 (by decide) (fun c_3 => ?_) (fun c_3 => ?_)
      · refine W.widen (k := 0) (n := 0) (by omega) (by omega) ?_
        obtain ⟨hP9, hD9⟩ := zsub2 (ws' := [(eO7a pa lx bk pfa pfp psk phe phr phs_d pop), (eA0 phe cHe 72 fHe), (eA0 phr cHr 72 fHr), (eO0a bk bto bnm bla bsk bru bbo bdi bda bdk bdt bdp bno), (eO8a bru rco rsz_d ren rst rkn), (eA0 rco cRc 64 fRc_d)]) hP hD [0, 1, 2, 3, 4, 5] (by decide) rfl
        have hK9 := hK.sub (tys' := []) [] rfl
        exact W.vret hx hb hr (fun t ht hW => ⟨⟨(phs_d, rsz_d, fRc_d), rfl, ⟨(Eq.symm (hI_d.trans (by rw [fp_release_d]; (try rw [if_pos c_3]); try rfl))), (gp_release_s3 (y0 := phs_d) hj0_d hj7_d), (gp_release_s4 (y0 := phs_d) hj0_d hj7_d), (gp_release_s5 (y0 := rsz_d) hjr_d)⟩, by rw [ht]; exact hP9, va_K.moved hW.alike hK9, hD9⟩, hS.F ht⟩) hS.2.2 dX7_release_57
      · refine lv_aload_n hx hb dX7_release_11 rfl (lv_at hl 1 rfl) ?_
        have hPc := hP.sub (ws' := [(eO7a pa lx bk pfa pfp psk phe phr phs_d pop), (eA0 phr cHr 72 fHr)]) [0, 2] rfl
        have hKc := hK.sub (tys' := [(cHr, .int)]) [1] rfl
        refine vp_callSi (W.runV (As := []) (rest := []) ⟨hx, hb, hml, hown, htw⟩ (gp_heldRank l dC dI pa lx bk pfa pfp psk phe phr phs_d pop cHr fHr) (cwV 0 htw (xg_V (ck_18 _ (List.mem_of_getElem? (i := 16) rfl)) (ck_18 _ (List.mem_of_getElem? (i := 17) rfl)) (ck_18 _ (List.mem_of_getElem? (i := 18) rfl)) (ck_1 _ (List.mem_of_getElem? (i := 16) rfl)) (ck_18 _ (List.mem_of_getElem? (i := 19) rfl))) rfl rfl rfl (by exact ⟨rfl, hdc_15.1, hdc_15.2, hdd_45⟩) ⟨Nat.le_of_ble_eq_true rfl, Nat.le_of_ble_eq_true rfl⟩) ⟨fun a U g mk q => by obtain ⟨q0, qP, qK⟩ := q; exact ⟨q0, qP, va_K.moved (u := U) (U := U.calling g mk a) (Vm.Alike.refl U.vm) qK⟩, va_recv hKc hPc (ci := 7) (q0 := 0) rfl rfl, fun U hU hW => ⟨rfl, by rw [hU]; exact hPc, va_K.moved hW.alike hKc⟩⟩ rfl rfl hl.1 rfl (lv_room (Nat.le_of_ble_eq_true rfl)) dX7_release_12 ⟨Nat.le_of_ble_eq_true rfl, Nat.le_of_ble_eq_true rfl⟩) (fun r_4 hw => ?_)
        try dsimp only at hw
        obtain ⟨hw, hp_5, hp_6⟩ := hw
        have hq_r_4 : r_4 = (fp_heldRank phs_d fHr) := hw
        refine lv_iload_n hx hb dX7_release_15 rfl (lv_at hl 2 rfl) ?_
        refine lv_icmp_lt (tgt := 57) hx hb dX7_release_16 (by decide) (fun c_7 => ?_) (fun c_7 => ?_)
        · refine W.widen (k := 0) (n := 0) (by omega) (by omega) ?_
          obtain ⟨hP9, hD9⟩ := zsub2 (ws' := [(eO7a pa lx bk pfa pfp psk phe phr phs_d pop), (eA0 phe cHe 72 fHe), (eA0 phr cHr 72 fHr), (eO0a bk bto bnm bla bsk bru bbo bdi bda bdk bdt bdp bno), (eO8a bru rco rsz_d ren rst rkn), (eA0 rco cRc 64 fRc_d)]) hP hD [0, 1, 2, 3, 4, 5] (by decide) rfl
          have hK9 := hK.sub (tys' := []) [] rfl
          exact W.vret hx hb hr (fun t ht hW => ⟨⟨(phs_d, rsz_d, fRc_d), rfl, ⟨(Eq.symm (hI_d.trans (by rw [fp_release_d]; (try rw [if_neg c_3]); (try rw [← hq_r_4]); (try rw [xL_eq]); (try rw [if_pos c_7]); try rfl))), (gp_release_s6 (y0 := phs_d) hj0_d hj7_d), (gp_release_s7 (y0 := phs_d) hj0_d hj7_d), (gp_release_s8 (y0 := rsz_d) hjr_d)⟩, by rw [ht]; exact hP9, va_K.moved hW.alike hK9, hD9⟩, hS.F ht⟩) hS.2.2 dX7_release_57
        · have hnz_r_4 : ¬ r_4 = 0 := (gp_release_s9 (y0 := r_4) (y1 := a0) c_7 hrk)
          refine lv_aload_n hx hb dX7_release_19 rfl (lv_at hl 1 rfl) ?_
          refine lv_dup hx hb dX7_release_20 rfl ?_
          refine va_get (D := (dC, dI)) (ci := 7) (v := .int phs_d) (C := RX7) (T := TX7) (N := 9) hx hb htw inlX7 hown hK hP 0 rfl rfl 7 (by decide) (htw _ (ck_18 _ (List.mem_of_getElem? (i := 9) rfl))) (fun _ h9 => h9) rfl dX7_release_21 ?_
          refine lv_iconst (v := 1) hx hb dX7_release_24 (by decide) ?_
          refine lv_isub hx hb dX7_release_25 ?_
          refine va_put (D := (dC, dI)) (ci := 7) (v := .int (phs_d - 1)) (ty := tyX7 7) (C := RX7) (T := TX7) (N := 9) hx hb htw inlX7 tyX7 tyX7_ok nmX7 hown hK hP hD hS 0 rfl rfl 7 (by decide) (htw _ (ck_18 _ (List.mem_of_getElem? (i := 9) rfl))) (fun _ h9 => h9) rfl (tyX7_ok 7 (by decide)) rfl rfl (Nat.le_of_ble_eq_true rfl) dX7_release_26 (fun H locs hP hD hS => ?_)
          obtain ⟨hP, hD⟩ := zre [(eO7a pa lx bk pfa pfp psk phe phr (phs_d - 1) pop), (eA0 phe cHe 72 fHe), (eA0 phr cHr 72 fHr), (eO0a bk bto bnm bla bsk bru bbo bdi bda bdk bdt bdp bno), (eO8a bru rco rsz_d ren rst rkn), (eA0 rco cRc 64 fRc_d)] hP hD rfl
          refine lv_aload_n hx hb dX7_release_29 rfl (lv_at hl 1 rfl) ?_
          refine va_get (D := (dC, dI)) (ci := 7) (v := .ref bk) (C := RX7) (T := TX7) (N := 9) hx hb htw inlX7 hown hK hP 0 rfl rfl 1 (by decide) (htw _ (ck_13 _ (List.mem_of_getElem? (i := 6) rfl))) (fun _ h9 => h9) rfl dX7_release_30 ?_
          refine va_get (D := (dC, dI)) (ci := 0) (v := .ref bru) (C := RX0) (T := TX0) (N := 12) hx hb htw inlX0 hown hK hP 3 rfl rfl 4 (by decide) (htw _ (ck_18 _ (List.mem_of_getElem? (i := 11) rfl))) (fun _ h9 => h9) rfl dX7_release_33 ?_
          refine lv_aload_n hx hb dX7_release_36 rfl (lv_at hl 1 rfl) ?_
          refine va_get (D := (dC, dI)) (ci := 7) (v := .ref phe) (C := RX7) (T := TX7) (N := 9) hx hb htw inlX7 hown hK hP 0 rfl rfl 5 (by decide) (htw _ (ck_3 _ (List.mem_of_getElem? (i := 7) rfl))) (fun _ h9 => h9) rfl dX7_release_37 ?_
          refine lv_aload_n hx hb dX7_release_40 rfl (lv_at hl 1 rfl) ?_
          refine va_get (D := (dC, dI)) (ci := 7) (v := .int (phs_d - 1)) (C := RX7) (T := TX7) (N := 9) hx hb htw inlX7 hown hK hP 0 rfl rfl 7 (by decide) (htw _ (ck_18 _ (List.mem_of_getElem? (i := 9) rfl))) (fun _ h9 => h9) rfl dX7_release_41 ?_
          refine va_iald hx hb hK hP 1 0 rfl rfl (xg_inr (N := 72) rfl (gp_release_s10 (y0 := phs_d) (hp_5.resolve_left hnz_r_4) (hp_6.resolve_left hnz_r_4) hj0_d).1 (gp_release_s10 (y0 := phs_d) (hp_5.resolve_left hnz_r_4) (hp_6.resolve_left hnz_r_4) hj0_d).2) dX7_release_44 ?_
          have hPc := hP.sub (ws' := []) [] rfl
          have hKc := hK.sub (tys' := []) [] rfl
          refine vp_callSi (W.runS (As := [.int (fHe ((phs_d - 1).toNatClampNeg))]) (rest := [.ref bru]) ⟨hx, hb, hml, hown, htw⟩ (gr_knotOf l dC dI (fHe ((phs_d - 1).toNatClampNeg))) (va_cwS 1 htw (xg_S (ck_19 _ (List.mem_of_getElem? (i := 15) rfl)) (ck_19 _ (List.mem_of_getElem? (i := 16) rfl)) (ck_6 _ (List.mem_of_getElem? (i := 8) rfl)) (ck_19 _ (List.mem_of_getElem? (i := 17) rfl))) rfl rfl rfl (by exact ⟨hdc_1.1, hdc_1.2, hdd_2⟩) ⟨Nat.le_of_ble_eq_true rfl, Nat.le_of_ble_eq_true rfl⟩) ⟨fun a U g mk q => by obtain ⟨q0, qP, qK⟩ := q; exact ⟨q0, qP, va_K.moved (u := U) (U := U.calling g mk a) (Vm.Alike.refl U.vm) qK⟩, fun U hU hW => ⟨rfl, by rw [hU]; exact hPc, va_K.moved hW.alike hKc⟩⟩ rfl rfl hl.1 rfl (lv_room (Nat.le_of_ble_eq_true rfl)) dX7_release_45 ⟨Nat.le_of_ble_eq_true rfl, Nat.le_of_ble_eq_true rfl⟩) (fun r_8 hw => ?_)
          try dsimp only at hw
          have hq_r_8 : r_8 = fr_knotOf (fHe ((phs_d - 1).toNatClampNeg)) := hw
          obtain ⟨hPc, hDc, hFc, hCc⟩ := zsub3 (ws' := [(eO8a bru rco rsz_d ren rst rkn), (eA0 rco cRc 64 fRc_d)]) hP hD hS hA [4, 5] (by decide) rfl
          have hKc := hK.sub (tys' := [(cRc, .int)]) [2] rfl
          refine va_callv (va_runV (As := [.int r_8]) (rest := []) ⟨hx, hb, hml, hown, htw⟩ (gp_put l dC dI bru rco rsz_d ren rst rkn cRc fRc_d r_8 H.size (gp_release_s11 (y0 := rsz_d) hjr_d)) (cwV 1 htw (xg_V (ck_19 _ (List.mem_of_getElem? (i := 11) rfl)) (ck_19 _ (List.mem_of_getElem? (i := 12) rfl)) (ck_19 _ (List.mem_of_getElem? (i := 13) rfl)) (ck_6 _ (List.mem_of_getElem? (i := 8) rfl)) (ck_19 _ (List.mem_of_getElem? (i := 14) rfl))) rfl rfl rfl (by exact ⟨rfl, hdc_1.1, hdc_1.2, hdd_9⟩) ⟨Nat.le_of_ble_eq_true rfl, Nat.le_of_ble_eq_true rfl⟩) ⟨fun a U g mk q => by obtain ⟨q0, q1, qP, qK, qD⟩ := q; exact ⟨q0, q1, qP, va_K.moved (u := U) (U := U.calling g mk a) (Vm.Alike.refl U.vm) qK, qD⟩, va_recv hKc hPc (ci := 8) (q0 := 0) rfl rfl, fun U hU hW => ⟨rfl, by rw [hU], by rw [hU]; exact hPc, va_K.moved hW.alike hKc, hDc.weaken (fun _ _ _ _ => trivial)⟩⟩ rfl rfl hl.1 rfl (lv_room (Nat.le_of_ble_eq_true rfl)) dX7_release_48 ⟨Nat.le_of_ble_eq_true rfl, Nat.le_of_ble_eq_true rfl⟩) hS (fun q _ h => hFc q h) hFc (fun u_10 t H1 locs ht hvm hw hB hz1 hk1 hS => ?_)
          try dsimp only at hw
          obtain ⟨hP1, hK1, hD1⟩ := hB
          rw [ht] at hP1
          have hK1 := va_K.moved hvm.symm hK1
          have hK1 : va_K (dC, dI) vwCl [] s := hK1
          obtain ⟨hP, hD⟩ := va_join (wr := [(eO7a pa lx bk pfa pfp psk phe phr (phs_d - 1) pop), (eA0 phe cHe 72 fHe), (eA0 phr cHr 72 fHr), (eO0a bk bto bnm bla bsk bru bbo bdi bda bdk bdt bdp bno)]) (w1 := [(eO8a bru rco u_10.1 ren rst rkn), (eA0 rco cRc 64 u_10.2)]) hP hD [4, 5] [0, 1, 2, 3] hCc rfl (by decide) (by decide) hk1 hFc hP1 hD1
          generalize H1 = H at hP hS ⊢
          obtain ⟨hP, hD⟩ := zre [(eO7a pa lx bk pfa pfp psk phe phr (phs_d - 1) pop), (eA0 phe cHe 72 fHe), (eA0 phr cHr 72 fHr), (eO0a bk bto bnm bla bsk bru bbo bdi bda bdk bdt bdp bno), (eO8a bru rco u_10.1 ren rst rkn), (eA0 rco cRc 64 u_10.2)] hP hD rfl
          refine W.widen (k := 0) (n := 0) (by omega) (by omega) ?_
          obtain ⟨hw, hp_13⟩ := hw
          have hq_u_10 : u_10 = (fp_put rsz_d fRc_d r_8) := hw
          refine lv_iinc (v := (L2d + 1)) (lv' := [(2, .int (L2d + 1)), (0, .ref pa), (1, .int a0)]) hx hb dX7_release_51 hl (k := 0) rfl (rfl) (by decide) rfl (fun ls hl => ?_)
          refine lv_goto (tgt := 2) hx hb dX7_release_54 (by decide) ?_
          exact ih (L2d + 1) (phs_d - 1) u_10.1 u_10.2 (gp_release_s12 (y0 := L2d) c_3 h0_d) (by rw [xi_s' c_3]; omega) (gp_release_s13 (y0 := phs_d) (hp_5.resolve_left hnz_r_4) (hp_6.resolve_left hnz_r_4) hj0_d) (gp_release_s14 (y0 := phs_d) (hp_5.resolve_left hnz_r_4) (hp_6.resolve_left hnz_r_4) hj0_d) (gp_release_s15 (y0 := u_10.1) hp_13) (hI_d.trans (by rw [fp_release_d]; (try rw [if_neg c_3]); (try rw [← hq_r_4]); (try rw [xL_eq]); (try rw [if_neg c_7]); (try rw [← hq_r_8]); (try rw [xL_eq]); (try rw [← hq_u_10]); (try rw [xL_eq]); try rfl)) H locs ls hP hD hS (lv_sub hl [0, 1, 2] rfl)
  exact hloop_1 72 (0 : Int32) phs rsz fRc (gp_release_s16 ) (by decide) (gp_release_s17 (y0 := phs) h0_phs h7_phs) (gp_release_s18 (y0 := phs) h0_phs h7_phs) (gp_release_s19 (y0 := rsz) h0_rsz) ((by rw [fp_release])) _ _ ls hP hD hS (lv_sub hl [0, 1, 2] rfl)

def fp_close (phs : Int32) (pop : Int32) (lxe : Int32) (lxa : Int32) (lxn : Int32) (lxl : Int32) (fBy : Nat → Int32) (fCo : Nat → Int32) (fHe : Nat → Int32) (fHr : Nat → Int32) (rsz : Int32) (fRc : Nat → Int32) : (Int32) × (Int32) × (Int32) × (Nat → Int32) × (Int32) × (Int32) × (Int32) × (Int32) × (Int32) := (xL ((fp_release phs fHe fHr rsz fRc (1 : Int32))) (fun u_2 => (if u_2.1 ≤ 0 then (xL ((fe_advance lxe lxa lxn lxl fBy fCo)) (fun u_11 => (u_2.1, (pop - 1), u_2.2.1, u_2.2.2, u_11.1, u_11.2.1, u_11.2.2.1, u_11.2.2.2.1, u_11.2.2.2.2))) else (xL ((fe_advance lxe lxa lxn lxl fBy fCo)) (fun u_19 => ((u_2.1 - 1), (pop - 1), u_2.2.1, u_2.2.2, u_19.1, u_19.2.1, u_19.2.2.1, u_19.2.2.2.1, u_19.2.2.2.2))))))
theorem gp_close_s0  : ¬ ((1 : Int32) < 1) := (by decide)
theorem gp_close_s1 {y0 : Int32} (h0 : ¬ (y0 < 0)) : ¬ (y0 < 0) := h0
theorem gp_close_s2 {y0 : Int32} (h0 : y0 ≤ 0) (h1 : ¬ (y0 < 0)) (h2 : y0 ≤ 72) : ¬ (y0 < 0) := h1
theorem gp_close_s3 {y0 : Int32} (h0 : y0 ≤ 0) (h1 : ¬ (y0 < 0)) (h2 : y0 ≤ 72) : y0 ≤ 72 := h2
theorem gp_close_s4 {y0 : Int32} (h0 : ¬ (y0 < 0)) : ¬ (y0 < 0) := h0
theorem gp_close_s5 {y0 : Int32} (h0 : ¬ (y0 < 0)) : ¬ (y0 < 0) := h0
theorem gp_close_s6 {y0 : Int32} (h0 : ¬ (y0 ≤ 0)) (h1 : ¬ (y0 < 0)) (h2 : y0 ≤ 72) : ¬ ((y0 - 1) < 0) := by lia
theorem gp_close_s7 {y0 : Int32} (h0 : ¬ (y0 ≤ 0)) (h1 : ¬ (y0 < 0)) (h2 : y0 ≤ 72) : (y0 - 1) ≤ 72 := by lia
theorem gp_close_s8 {y0 : Int32} (h0 : ¬ (y0 < 0)) : ¬ (y0 < 0) := h0
theorem dX7_close_0 : decode cX7_close 0 = .ok (.aload_n 0, 1) := zk_42 (by decide +kernel)
theorem dX7_close_1 : decode cX7_close 1 = .ok (.iconst 1, 1) := zk_4 (by decide +kernel)
theorem dX7_close_2 : decode cX7_close 2 = .ok (.invokevirtual 255, 3) := zk_182 (by decide +kernel)
theorem dX7_close_5 : decode cX7_close 5 = .ok (.aload_n 0, 1) := zk_42 (by decide +kernel)
theorem dX7_close_6 : decode cX7_close 6 = .ok (.getfield 236, 3) := zk_180 (by decide +kernel)
theorem dX7_close_9 : decode cX7_close 9 = .ok (.ifCond .le 13, 3) := zk_158 (by decide +kernel)
theorem dX7_close_22 : decode cX7_close 22 = .ok (.aload_n 0, 1) := zk_42 (by decide +kernel)
theorem dX7_close_23 : decode cX7_close 23 = .ok (.dup, 1) := zk_89 (by decide +kernel)
theorem dX7_close_24 : decode cX7_close 24 = .ok (.getfield 239, 3) := zk_180 (by decide +kernel)
theorem dX7_close_27 : decode cX7_close 27 = .ok (.iconst 1, 1) := zk_4 (by decide +kernel)
theorem dX7_close_28 : decode cX7_close 28 = .ok (.isub, 1) := zk_100 (by decide +kernel)
theorem dX7_close_29 : decode cX7_close 29 = .ok (.putfield 239, 3) := zk_181 (by decide +kernel)
theorem dX7_close_32 : decode cX7_close 32 = .ok (.aload_n 0, 1) := zk_42 (by decide +kernel)
theorem dX7_close_33 : decode cX7_close 33 = .ok (.getfield 12, 3) := zk_180 (by decide +kernel)
theorem dX7_close_36 : decode cX7_close 36 = .ok (.invokevirtual 123, 3) := zk_182 (by decide +kernel)
theorem dX7_close_39 : decode cX7_close 39 = .ok (.return_, 1) := zk_177 (by decide +kernel)
theorem dX7_close_12 : decode cX7_close 12 = .ok (.aload_n 0, 1) := zk_42 (by decide +kernel)
theorem dX7_close_13 : decode cX7_close 13 = .ok (.dup, 1) := zk_89 (by decide +kernel)
theorem dX7_close_14 : decode cX7_close 14 = .ok (.getfield 236, 3) := zk_180 (by decide +kernel)
theorem dX7_close_17 : decode cX7_close 17 = .ok (.iconst 1, 1) := zk_4 (by decide +kernel)
theorem dX7_close_18 : decode cX7_close 18 = .ok (.isub, 1) := zk_100 (by decide +kernel)
theorem dX7_close_19 : decode cX7_close 19 = .ok (.putfield 236, 3) := zk_181 (by decide +kernel)
set_option maxHeartbeats 4000000 in
set_option maxRecDepth 100000 in
theorem gp_close (l : Launch) (dC : Nat → ClassId) (dI : Nat → Nat → Nat) (pa : Nat) (lx : Nat) (bk : Nat) (pfa : Int32) (pfp : Int32) (psk : Int32) (phe : Nat) (phr : Nat) (phs : Int32) (pop : Int32) (lby : Nat) (lfi : Int32) (lco : Nat) (lxe : Int32) (lxa : Int32) (lxt : Int32) (lxp : Int32) (lxn : Int32) (lxl : Int32) (cBy : ClassId) (fBy : Nat → Int32) (cCo : ClassId) (fCo : Nat → Int32) (cHe : ClassId) (fHe : Nat → Int32) (cHr : ClassId) (fHr : Nat → Int32) (bto : Nat) (bnm : Nat) (bla : Nat) (bsk : Nat) (bru : Nat) (bbo : Nat) (bdi : Nat) (bda : Nat) (bdk : Nat) (bdt : Nat) (bdp : Nat) (bno : Nat) (rco : Nat) (rsz : Int32) (ren : Nat) (rst : Nat) (rkn : Int32) (cRc : ClassId) (fRc : Nat → Int32) (sz : Nat) (h0_lxa : ¬ lxa < 0) (h9_lxe : lxe ≤ 900) (h0_phs : ¬ phs < 0) (h7_phs : phs ≤ 72) (h0_rsz : ¬ rsz < 0) : Met l yX7_close (Cond.code yX7_close cX7_close 1 none :: wsL_law) ({ frames := 2, cells := 0, slots := 0, locals := 43 }) (va_Pc [.ref pa] (fun U => U.heap.size = sz ∧ va_P (dC, dI) vwCl [(eO7a pa lx bk pfa pfp psk phe phr phs pop), (eO3a lx lby lfi lco lxe lxa lxt lxp lxn lxl), (eA0 lby cBy 900 fBy), (eA0 lco cCo 23 fCo), (eA0 phe cHe 72 fHe), (eA0 phr cHr 72 fHr), (eO0a bk bto bnm bla bsk bru bbo bdi bda bdk bdt bdp bno), (eO8a bru rco rsz ren rst rkn), (eA0 rco cRc 64 fRc)] U.heap ∧ va_K (dC, dI) vwCl [(cBy, .byte), (cCo, .int), (cHe, .int), (cHr, .int), (cRc, .int)] U ∧ va_D (fun _ => True) [(eO7a pa lx bk pfa pfp psk phe phr phs pop), (eO3a lx lby lfi lco lxe lxa lxt lxp lxn lxl), (eA0 lby cBy 900 fBy), (eA0 lco cCo 23 fCo), (eA0 phe cHe 72 fHe), (eA0 phr cHr 72 fHr), (eO0a bk bto bnm bla bsk bru bbo bdi bda bdk bdt bdp bno), (eO8a bru rco rsz ren rst rkn), (eA0 rco cRc 64 fRc)])) (va_Qv (fun (u : (Int32) × (Int32) × (Int32) × (Nat → Int32) × (Int32) × (Int32) × (Int32) × (Int32) × (Int32)) => (u = fp_close phs pop lxe lxa lxn lxl fBy fCo fHe fHr rsz fRc) ∧ (¬ u.2.2.2.2.1 < 0) ∧ (¬ u.1 < 0) ∧ (u.1 ≤ 72) ∧ (¬ u.2.2.1 < 0)) (fun (u : (Int32) × (Int32) × (Int32) × (Nat → Int32) × (Int32) × (Int32) × (Int32) × (Int32) × (Int32)) t => va_P (dC, dI) vwCl [(eO7a pa lx bk pfa pfp psk phe phr u.1 u.2.1), (eO3a lx lby lfi lco lxe u.2.2.2.2.1 u.2.2.2.2.2.1 u.2.2.2.2.2.2.1 u.2.2.2.2.2.2.2.1 u.2.2.2.2.2.2.2.2), (eA0 lby cBy 900 fBy), (eA0 lco cCo 23 fCo), (eA0 phe cHe 72 fHe), (eA0 phr cHr 72 fHr), (eO0a bk bto bnm bla bsk bru bbo bdi bda bdk bdt bdp bno), (eO8a bru rco u.2.2.1 ren rst rkn), (eA0 rco cRc 64 u.2.2.2.1)] t.heap ∧ va_K (dC, dI) vwCl [] t ∧ va_D (va_A [(eO7a pa lx bk pfa pfp psk phe phr phs pop), (eO3a lx lby lfi lco lxe lxa lxt lxp lxn lxl), (eA0 lby cBy 900 fBy), (eA0 lco cCo 23 fCo), (eA0 phe cHe 72 fHe), (eA0 phr cHr 72 fHr), (eO0a bk bto bnm bla bsk bru bbo bdi bda bdk bdt bdp bno), (eO8a bru rco rsz ren rst rkn), (eA0 rco cRc 64 fRc)] sz) [(eO7a pa lx bk pfa pfp psk phe phr u.1 u.2.1), (eO3a lx lby lfi lco lxe u.2.2.2.2.1 u.2.2.2.2.2.1 u.2.2.2.2.2.2.1 u.2.2.2.2.2.2.2.1 u.2.2.2.2.2.2.2.2), (eA0 lby cBy 900 fBy), (eA0 lco cCo 23 fCo), (eA0 phe cHe 72 fHe), (eA0 phr cHr 72 fHr), (eO0a bk bto bnm bla bsk bru bbo bdi bda bdk bdt bdp bno), (eO8a bru rco u.2.2.1 ren rst rkn), (eA0 rco cRc 64 u.2.2.2.1)]) (va_A [(eO7a pa lx bk pfa pfp psk phe phr phs pop), (eO3a lx lby lfi lco lxe lxa lxt lxp lxn lxl), (eA0 lby cBy 900 fBy), (eA0 lco cCo 23 fCo), (eA0 phe cHe 72 fHe), (eA0 phr cHr 72 fHr), (eO0a bk bto bnm bla bsk bru bbo bdi bda bdk bdt bdp bno), (eO8a bru rco rsz ren rst rkn), (eA0 rco cRc 64 fRc)] sz)) 0 0 (va_A [(eO7a pa lx bk pfa pfp psk phe phr phs pop), (eO3a lx lby lfi lco lxe lxa lxt lxp lxn lxl), (eA0 lby cBy 900 fBy), (eA0 lco cCo 23 fCo), (eA0 phe cHe 72 fHe), (eA0 phr cHr 72 fHr), (eO0a bk bto bnm bla bsk bru bbo bdi bda bdk bdt bdp bno), (eO8a bru rco rsz ren rst rkn), (eA0 rco cRc 64 fRc)] sz) := by
  refine Met.ofW (cc := cX7_close) (maxL := 1) (ret := none) (by decide) rfl ?_
  intro p e s m args below meth c s₁ B hml hv
  obtain ⟨rfl, hsz, hP, hK, hD0⟩ := hv
  have hx := B.exec
  have hb := B.bytes
  have hr := B.returns
  have hts := atoms_spec (ws := Cond.code yX7_close cX7_close 1 none :: wsL_law) B.pre
  have htw : ∀ w ∈ wsL_law, w.before _ s = true := fun w h => hts w (List.mem_cons_of_mem _ h)
  have hown : s.vm.findClass RX7 = some m.cls := findClass_of_methodNamed B.named
  have hlocks := B.notSynchronized
  subst hsz
  have hD := hD0.self (sz := s.heap.size)
  generalize hAe : va_A [(eO7a pa lx bk pfa pfp psk phe phr phs pop), (eO3a lx lby lfi lco lxe lxa lxt lxp lxn lxl), (eA0 lby cBy 900 fBy), (eA0 lco cCo 23 fCo), (eA0 phe cHe 72 fHe), (eA0 phr cHr 72 fHr), (eO0a bk bto bnm bla bsk bru bbo bdi bda bdk bdt bdp bno), (eO8a bru rco rsz ren rst rkn), (eA0 rco cRc 64 fRc)] s.heap.size = A at hD ⊢
  have hA : ∀ q : Nat, s.heap.size ≤ q → A q := fun q h => by rw [← hAe]; exact Or.inr h
  obtain ⟨H, rH⟩ : ∃ z : Heap, z = s.heap := ⟨_, rfl⟩
  have hS : va_S A s.heap H [] := by rw [rH]; exact va_S.rf
  have hP : va_P (dC, dI) vwCl [(eO7a pa lx bk pfa pfp psk phe phr phs pop), (eO3a lx lby lfi lco lxe lxa lxt lxp lxn lxl), (eA0 lby cBy 900 fBy), (eA0 lco cCo 23 fCo), (eA0 phe cHe 72 fHe), (eA0 phr cHr 72 fHr), (eO0a bk bto bnm bla bsk bru bbo bdi bda bdk bdt bdp bno), (eO8a bru rco rsz ren rst rkn), (eA0 rco cRc 64 fRc)] H := by rw [rH]; exact hP
  rw [← rH]
  have hl := lv_entry ([.ref pa]) (n := 1) (Nat.le_of_ble_eq_true rfl)
  rw [lg_entry_eq]
  generalize (lg_sl ([.ref pa]) ++ List.replicate (1 - (lg_sl ([.ref pa])).length) Slot.unset).toArray = ls at hl ⊢
  have hl : lv_has ls 1 [(0, .ref pa)] := hl
  refine lv_aload_n hx hb dX7_close_0 rfl (lv_at hl 0 rfl) ?_
  refine lv_iconst (v := 1) hx hb dX7_close_1 (by decide) ?_
  obtain ⟨hPc, hDc, hFc, hCc⟩ := zsub3 (ws' := [(eO7a pa lx bk pfa pfp psk phe phr phs pop), (eA0 phe cHe 72 fHe), (eA0 phr cHr 72 fHr), (eO0a bk bto bnm bla bsk bru bbo bdi bda bdk bdt bdp bno), (eO8a bru rco rsz ren rst rkn), (eA0 rco cRc 64 fRc)]) hP hD hS hA [0, 4, 5, 6, 7, 8] (by decide) rfl
  have hKc := hK.sub (tys' := [(cHe, .int), (cHr, .int), (cRc, .int)]) [2, 3, 4] rfl
  refine va_callv (va_runV (As := [.int 1]) (rest := []) ⟨hx, hb, hml, hown, htw⟩ (gp_release l dC dI pa lx bk pfa pfp psk phe phr phs pop cHe fHe cHr fHr bto bnm bla bsk bru bbo bdi bda bdk bdt bdp bno rco rsz ren rst rkn cRc fRc (1 : Int32) H.size (gp_close_s0 ) h0_phs h7_phs h0_rsz) (cwV 1 htw (xg_V (ck_19 _ (List.mem_of_getElem? (i := 22) rfl)) (ck_19 _ (List.mem_of_getElem? (i := 23) rfl)) (ck_20 _ (List.mem_of_getElem? (i := 0) rfl)) (ck_1 _ (List.mem_of_getElem? (i := 16) rfl)) (ck_20 _ (List.mem_of_getElem? (i := 1) rfl))) rfl rfl rfl (by exact ⟨rfl, hdc_15.1, hdc_15.2, hdd_9⟩) ⟨Nat.le_of_ble_eq_true rfl, Nat.le_of_ble_eq_true rfl⟩) ⟨fun a U g mk q => by obtain ⟨q0, q1, qP, qK, qD⟩ := q; exact ⟨q0, q1, qP, va_K.moved (u := U) (U := U.calling g mk a) (Vm.Alike.refl U.vm) qK, qD⟩, va_recv hKc hPc (ci := 7) (q0 := 0) rfl rfl, fun U hU hW => ⟨rfl, by rw [hU], by rw [hU]; exact hPc, va_K.moved hW.alike hKc, hDc.weaken (fun _ _ _ _ => trivial)⟩⟩ rfl rfl hl.1 rfl (lv_room (Nat.le_of_ble_eq_true rfl)) dX7_close_2 ⟨Nat.le_of_ble_eq_true rfl, Nat.le_of_ble_eq_true rfl⟩) hS (fun q _ h => hFc q h) hFc (fun u_2 t H1 locs ht hvm hw hB hz1 hk1 hS => ?_)
  try dsimp only at hw
  obtain ⟨hP1, hK1, hD1⟩ := hB
  rw [ht] at hP1
  have hK1 := va_K.moved hvm.symm hK1
  have hK1 : va_K (dC, dI) vwCl [] s := hK1
  obtain ⟨hP, hD⟩ := va_join (wr := [(eO3a lx lby lfi lco lxe lxa lxt lxp lxn lxl), (eA0 lby cBy 900 fBy), (eA0 lco cCo 23 fCo)]) (w1 := [(eO7a pa lx bk pfa pfp psk phe phr u_2.1 pop), (eA0 phe cHe 72 fHe), (eA0 phr cHr 72 fHr), (eO0a bk bto bnm bla bsk bru bbo bdi bda bdk bdt bdp bno), (eO8a bru rco u_2.2.1 ren rst rkn), (eA0 rco cRc 64 u_2.2.2)]) hP hD [0, 4, 5, 6, 7, 8] [1, 2, 3] hCc rfl (by decide) (by decide) hk1 hFc hP1 hD1
  generalize H1 = H at hP hS ⊢
  obtain ⟨hP, hD⟩ := zre [(eO3a lx lby lfi lco lxe lxa lxt lxp lxn lxl), (eA0 lby cBy 900 fBy), (eA0 lco cCo 23 fCo), (eO7a pa lx bk pfa pfp psk phe phr u_2.1 pop), (eA0 phe cHe 72 fHe), (eA0 phr cHr 72 fHr), (eO0a bk bto bnm bla bsk bru bbo bdi bda bdk bdt bdp bno), (eO8a bru rco u_2.2.1 ren rst rkn), (eA0 rco cRc 64 u_2.2.2)] hP hD rfl
  refine W.widen (k := 0) (n := 0) (by omega) (by omega) ?_
  obtain ⟨hw, hp_6, hp_7, hp_8⟩ := hw
  have hq_u_2 : u_2 = (fp_release phs fHe fHr rsz fRc (1 : Int32)) := hw
  refine lv_aload_n hx hb dX7_close_5 rfl (lv_at hl 0 rfl) ?_
  refine va_get (D := (dC, dI)) (ci := 7) (v := .int u_2.1) (C := RX7) (T := TX7) (N := 9) hx hb htw inlX7 hown hK hP 3 rfl rfl 7 (by decide) (htw _ (ck_18 _ (List.mem_of_getElem? (i := 9) rfl))) (fun _ h9 => h9) rfl dX7_close_6 ?_
  refine lv_if_le (tgt := 22) hx hb dX7_close_9 (by decide) (fun c_9 => ?_) (fun c_9 => ?_)
  · refine lv_aload_n hx hb dX7_close_22 rfl (lv_at hl 0 rfl) ?_
    refine lv_dup hx hb dX7_close_23 rfl ?_
    refine va_get (D := (dC, dI)) (ci := 7) (v := .int pop) (C := RX7) (T := TX7) (N := 9) hx hb htw inlX7 hown hK hP 3 rfl rfl 8 (by decide) (htw _ (ck_18 _ (List.mem_of_getElem? (i := 10) rfl))) (fun _ h9 => h9) rfl dX7_close_24 ?_
    refine lv_iconst (v := 1) hx hb dX7_close_27 (by decide) ?_
    refine lv_isub hx hb dX7_close_28 ?_
    refine va_put (D := (dC, dI)) (ci := 7) (v := .int (pop - 1)) (ty := tyX7 8) (C := RX7) (T := TX7) (N := 9) hx hb htw inlX7 tyX7 tyX7_ok nmX7 hown hK hP hD hS 3 rfl rfl 8 (by decide) (htw _ (ck_18 _ (List.mem_of_getElem? (i := 10) rfl))) (fun _ h9 => h9) rfl (tyX7_ok 8 (by decide)) rfl rfl (Nat.le_of_ble_eq_true rfl) dX7_close_29 (fun H locs hP hD hS => ?_)
    obtain ⟨hP, hD⟩ := zre [(eO3a lx lby lfi lco lxe lxa lxt lxp lxn lxl), (eA0 lby cBy 900 fBy), (eA0 lco cCo 23 fCo), (eO7a pa lx bk pfa pfp psk phe phr u_2.1 (pop - 1)), (eA0 phe cHe 72 fHe), (eA0 phr cHr 72 fHr), (eO0a bk bto bnm bla bsk bru bbo bdi bda bdk bdt bdp bno), (eO8a bru rco u_2.2.1 ren rst rkn), (eA0 rco cRc 64 u_2.2.2)] hP hD rfl
    refine lv_aload_n hx hb dX7_close_32 rfl (lv_at hl 0 rfl) ?_
    refine va_get (D := (dC, dI)) (ci := 7) (v := .ref lx) (C := RX7) (T := TX7) (N := 9) hx hb htw inlX7 hown hK hP 3 rfl rfl 0 (by decide) (htw _ (ck_3 _ (List.mem_of_getElem? (i := 5) rfl))) (fun _ h9 => h9) rfl dX7_close_33 ?_
    obtain ⟨hPc, hDc, hFc, hCc⟩ := zsub3 (ws' := [(eO3a lx lby lfi lco lxe lxa lxt lxp lxn lxl), (eA0 lby cBy 900 fBy), (eA0 lco cCo 23 fCo)]) hP hD hS hA [0, 1, 2] (by decide) rfl
    have hKc := hK.sub (tys' := [(cBy, .byte), (cCo, .int)]) [0, 1] rfl
    refine va_callv (va_runV (As := []) (rest := []) ⟨hx, hb, hml, hown, htw⟩ (gz_advance l dC dI lx lby lfi lco lxe lxa lxt lxp lxn lxl cBy fBy cCo fCo H.size h0_lxa h9_lxe) (cwV 0 htw (xg_V (ck_16 _ (List.mem_of_getElem? (i := 11) rfl)) (ck_14 _ (List.mem_of_getElem? (i := 13) rfl)) (ck_14 _ (List.mem_of_getElem? (i := 14) rfl)) (ck_3 _ (List.mem_of_getElem? (i := 4) rfl)) (ck_14 _ (List.mem_of_getElem? (i := 15) rfl))) rfl rfl rfl (by exact ⟨rfl, hdc_4.1, hdc_4.2, hdd_13⟩) ⟨Nat.le_of_ble_eq_true rfl, Nat.le_of_ble_eq_true rfl⟩) ⟨fun a U g mk q => by obtain ⟨q0, q1, qP, qK, qD⟩ := q; exact ⟨q0, q1, qP, va_K.moved (u := U) (U := U.calling g mk a) (Vm.Alike.refl U.vm) qK, qD⟩, va_recv hKc hPc (ci := 3) (q0 := 0) rfl rfl, fun U hU hW => ⟨rfl, by rw [hU], by rw [hU]; exact hPc, va_K.moved hW.alike hKc, hDc.weaken (fun _ _ _ _ => trivial)⟩⟩ rfl rfl hl.1 rfl (lv_room (Nat.le_of_ble_eq_true rfl)) dX7_close_36 ⟨Nat.le_of_ble_eq_true rfl, Nat.le_of_ble_eq_true rfl⟩) hS (fun q _ h => hFc q h) hFc (fun u_11 t H1 locs ht hvm hw hB hz1 hk1 hS => ?_)
    try dsimp only at hw
    obtain ⟨hP1, hK1, hD1⟩ := hB
    rw [ht] at hP1
    have hK1 := va_K.moved hvm.symm hK1
    have hK1 : va_K (dC, dI) vwCl [] s := hK1
    obtain ⟨hP, hD⟩ := va_join (wr := [(eO7a pa lx bk pfa pfp psk phe phr u_2.1 (pop - 1)), (eA0 phe cHe 72 fHe), (eA0 phr cHr 72 fHr), (eO0a bk bto bnm bla bsk bru bbo bdi bda bdk bdt bdp bno), (eO8a bru rco u_2.2.1 ren rst rkn), (eA0 rco cRc 64 u_2.2.2)]) (w1 := [(eO3a lx lby lfi lco lxe u_11.1 u_11.2.1 u_11.2.2.1 u_11.2.2.2.1 u_11.2.2.2.2), (eA0 lby cBy 900 fBy), (eA0 lco cCo 23 fCo)]) hP hD [0, 1, 2] [3, 4, 5, 6, 7, 8] hCc rfl (by decide) (by decide) hk1 hFc hP1 hD1
    generalize H1 = H at hP hS ⊢
    obtain ⟨hP, hD⟩ := zre [(eO7a pa lx bk pfa pfp psk phe phr u_2.1 (pop - 1)), (eA0 phe cHe 72 fHe), (eA0 phr cHr 72 fHr), (eO0a bk bto bnm bla bsk bru bbo bdi bda bdk bdt bdp bno), (eO8a bru rco u_2.2.1 ren rst rkn), (eA0 rco cRc 64 u_2.2.2), (eO3a lx lby lfi lco lxe u_11.1 u_11.2.1 u_11.2.2.1 u_11.2.2.2.1 u_11.2.2.2.2), (eA0 lby cBy 900 fBy), (eA0 lco cCo 23 fCo)] hP hD rfl
    refine W.widen (k := 0) (n := 0) (by omega) (by omega) ?_
    obtain ⟨hw, hp_17⟩ := hw
    have hq_u_11 : u_11 = (fe_advance lxe lxa lxn lxl fBy fCo) := hw
    refine W.widen (k := 0) (n := 0) (by omega) (by omega) ?_
    obtain ⟨hP9, hD9⟩ := zsub2 (ws' := [(eO7a pa lx bk pfa pfp psk phe phr u_2.1 (pop - 1)), (eO3a lx lby lfi lco lxe u_11.1 u_11.2.1 u_11.2.2.1 u_11.2.2.2.1 u_11.2.2.2.2), (eA0 lby cBy 900 fBy), (eA0 lco cCo 23 fCo), (eA0 phe cHe 72 fHe), (eA0 phr cHr 72 fHr), (eO0a bk bto bnm bla bsk bru bbo bdi bda bdk bdt bdp bno), (eO8a bru rco u_2.2.1 ren rst rkn), (eA0 rco cRc 64 u_2.2.2)]) hP hD [0, 6, 7, 8, 1, 2, 3, 4, 5] (by decide +kernel) rfl
    have hK9 := hK.sub (tys' := []) [] rfl
    exact W.vret hx hb hr (fun t ht hW => ⟨⟨(u_2.1, (pop - 1), u_2.2.1, u_2.2.2, u_11.1, u_11.2.1, u_11.2.2.1, u_11.2.2.2.1, u_11.2.2.2.2), rfl, ⟨(Eq.symm ((by rw [fp_close]; (try rw [← hq_u_2]); (try rw [xL_eq]); (try rw [if_pos c_9]); (try rw [← hq_u_11]); (try rw [xL_eq]); try rfl))), (gp_close_s1 (y0 := u_11.1) hp_17), (gp_close_s2 (y0 := u_2.1) c_9 hp_6 hp_7), (gp_close_s3 (y0 := u_2.1) c_9 hp_6 hp_7), (gp_close_s4 (y0 := u_2.2.1) hp_8)⟩, by rw [ht]; exact hP9, va_K.moved hW.alike hK9, hD9⟩, hS.F ht⟩) hS.2.2 dX7_close_39
  · refine lv_aload_n hx hb dX7_close_12 rfl (lv_at hl 0 rfl) ?_
    refine lv_dup hx hb dX7_close_13 rfl ?_
    refine va_get (D := (dC, dI)) (ci := 7) (v := .int u_2.1) (C := RX7) (T := TX7) (N := 9) hx hb htw inlX7 hown hK hP 3 rfl rfl 7 (by decide) (htw _ (ck_18 _ (List.mem_of_getElem? (i := 9) rfl))) (fun _ h9 => h9) rfl dX7_close_14 ?_
    refine lv_iconst (v := 1) hx hb dX7_close_17 (by decide) ?_
    refine lv_isub hx hb dX7_close_18 ?_
    refine va_put (D := (dC, dI)) (ci := 7) (v := .int (u_2.1 - 1)) (ty := tyX7 7) (C := RX7) (T := TX7) (N := 9) hx hb htw inlX7 tyX7 tyX7_ok nmX7 hown hK hP hD hS 3 rfl rfl 7 (by decide) (htw _ (ck_18 _ (List.mem_of_getElem? (i := 9) rfl))) (fun _ h9 => h9) rfl (tyX7_ok 7 (by decide)) rfl rfl (Nat.le_of_ble_eq_true rfl) dX7_close_19 (fun H locs hP hD hS => ?_)
    obtain ⟨hP, hD⟩ := zre [(eO3a lx lby lfi lco lxe lxa lxt lxp lxn lxl), (eA0 lby cBy 900 fBy), (eA0 lco cCo 23 fCo), (eO7a pa lx bk pfa pfp psk phe phr (u_2.1 - 1) pop), (eA0 phe cHe 72 fHe), (eA0 phr cHr 72 fHr), (eO0a bk bto bnm bla bsk bru bbo bdi bda bdk bdt bdp bno), (eO8a bru rco u_2.2.1 ren rst rkn), (eA0 rco cRc 64 u_2.2.2)] hP hD rfl
    refine lv_aload_n hx hb dX7_close_22 rfl (lv_at hl 0 rfl) ?_
    refine lv_dup hx hb dX7_close_23 rfl ?_
    refine va_get (D := (dC, dI)) (ci := 7) (v := .int pop) (C := RX7) (T := TX7) (N := 9) hx hb htw inlX7 hown hK hP 3 rfl rfl 8 (by decide) (htw _ (ck_18 _ (List.mem_of_getElem? (i := 10) rfl))) (fun _ h9 => h9) rfl dX7_close_24 ?_
    refine lv_iconst (v := 1) hx hb dX7_close_27 (by decide) ?_
    refine lv_isub hx hb dX7_close_28 ?_
    refine va_put (D := (dC, dI)) (ci := 7) (v := .int (pop - 1)) (ty := tyX7 8) (C := RX7) (T := TX7) (N := 9) hx hb htw inlX7 tyX7 tyX7_ok nmX7 hown hK hP hD hS 3 rfl rfl 8 (by decide) (htw _ (ck_18 _ (List.mem_of_getElem? (i := 10) rfl))) (fun _ h9 => h9) rfl (tyX7_ok 8 (by decide)) rfl rfl (Nat.le_of_ble_eq_true rfl) dX7_close_29 (fun H locs hP hD hS => ?_)
    obtain ⟨hP, hD⟩ := zre [(eO3a lx lby lfi lco lxe lxa lxt lxp lxn lxl), (eA0 lby cBy 900 fBy), (eA0 lco cCo 23 fCo), (eO7a pa lx bk pfa pfp psk phe phr (u_2.1 - 1) (pop - 1)), (eA0 phe cHe 72 fHe), (eA0 phr cHr 72 fHr), (eO0a bk bto bnm bla bsk bru bbo bdi bda bdk bdt bdp bno), (eO8a bru rco u_2.2.1 ren rst rkn), (eA0 rco cRc 64 u_2.2.2)] hP hD rfl
    refine lv_aload_n hx hb dX7_close_32 rfl (lv_at hl 0 rfl) ?_
    refine va_get (D := (dC, dI)) (ci := 7) (v := .ref lx) (C := RX7) (T := TX7) (N := 9) hx hb htw inlX7 hown hK hP 3 rfl rfl 0 (by decide) (htw _ (ck_3 _ (List.mem_of_getElem? (i := 5) rfl))) (fun _ h9 => h9) rfl dX7_close_33 ?_
    obtain ⟨hPc, hDc, hFc, hCc⟩ := zsub3 (ws' := [(eO3a lx lby lfi lco lxe lxa lxt lxp lxn lxl), (eA0 lby cBy 900 fBy), (eA0 lco cCo 23 fCo)]) hP hD hS hA [0, 1, 2] (by decide) rfl
    have hKc := hK.sub (tys' := [(cBy, .byte), (cCo, .int)]) [0, 1] rfl
    refine va_callv (va_runV (As := []) (rest := []) ⟨hx, hb, hml, hown, htw⟩ (gz_advance l dC dI lx lby lfi lco lxe lxa lxt lxp lxn lxl cBy fBy cCo fCo H.size h0_lxa h9_lxe) (cwV 0 htw (xg_V (ck_16 _ (List.mem_of_getElem? (i := 11) rfl)) (ck_14 _ (List.mem_of_getElem? (i := 13) rfl)) (ck_14 _ (List.mem_of_getElem? (i := 14) rfl)) (ck_3 _ (List.mem_of_getElem? (i := 4) rfl)) (ck_14 _ (List.mem_of_getElem? (i := 15) rfl))) rfl rfl rfl (by exact ⟨rfl, hdc_4.1, hdc_4.2, hdd_13⟩) ⟨Nat.le_of_ble_eq_true rfl, Nat.le_of_ble_eq_true rfl⟩) ⟨fun a U g mk q => by obtain ⟨q0, q1, qP, qK, qD⟩ := q; exact ⟨q0, q1, qP, va_K.moved (u := U) (U := U.calling g mk a) (Vm.Alike.refl U.vm) qK, qD⟩, va_recv hKc hPc (ci := 3) (q0 := 0) rfl rfl, fun U hU hW => ⟨rfl, by rw [hU], by rw [hU]; exact hPc, va_K.moved hW.alike hKc, hDc.weaken (fun _ _ _ _ => trivial)⟩⟩ rfl rfl hl.1 rfl (lv_room (Nat.le_of_ble_eq_true rfl)) dX7_close_36 ⟨Nat.le_of_ble_eq_true rfl, Nat.le_of_ble_eq_true rfl⟩) hS (fun q _ h => hFc q h) hFc (fun u_19 t H1 locs ht hvm hw hB hz1 hk1 hS => ?_)
    try dsimp only at hw
    obtain ⟨hP1, hK1, hD1⟩ := hB
    rw [ht] at hP1
    have hK1 := va_K.moved hvm.symm hK1
    have hK1 : va_K (dC, dI) vwCl [] s := hK1
    obtain ⟨hP, hD⟩ := va_join (wr := [(eO7a pa lx bk pfa pfp psk phe phr (u_2.1 - 1) (pop - 1)), (eA0 phe cHe 72 fHe), (eA0 phr cHr 72 fHr), (eO0a bk bto bnm bla bsk bru bbo bdi bda bdk bdt bdp bno), (eO8a bru rco u_2.2.1 ren rst rkn), (eA0 rco cRc 64 u_2.2.2)]) (w1 := [(eO3a lx lby lfi lco lxe u_19.1 u_19.2.1 u_19.2.2.1 u_19.2.2.2.1 u_19.2.2.2.2), (eA0 lby cBy 900 fBy), (eA0 lco cCo 23 fCo)]) hP hD [0, 1, 2] [3, 4, 5, 6, 7, 8] hCc rfl (by decide) (by decide) hk1 hFc hP1 hD1
    generalize H1 = H at hP hS ⊢
    obtain ⟨hP, hD⟩ := zre [(eO7a pa lx bk pfa pfp psk phe phr (u_2.1 - 1) (pop - 1)), (eA0 phe cHe 72 fHe), (eA0 phr cHr 72 fHr), (eO0a bk bto bnm bla bsk bru bbo bdi bda bdk bdt bdp bno), (eO8a bru rco u_2.2.1 ren rst rkn), (eA0 rco cRc 64 u_2.2.2), (eO3a lx lby lfi lco lxe u_19.1 u_19.2.1 u_19.2.2.1 u_19.2.2.2.1 u_19.2.2.2.2), (eA0 lby cBy 900 fBy), (eA0 lco cCo 23 fCo)] hP hD rfl
    refine W.widen (k := 0) (n := 0) (by omega) (by omega) ?_
    obtain ⟨hw, hp_25⟩ := hw
    have hq_u_19 : u_19 = (fe_advance lxe lxa lxn lxl fBy fCo) := hw
    refine W.widen (k := 0) (n := 0) (by omega) (by omega) ?_
    obtain ⟨hP9, hD9⟩ := zsub2 (ws' := [(eO7a pa lx bk pfa pfp psk phe phr (u_2.1 - 1) (pop - 1)), (eO3a lx lby lfi lco lxe u_19.1 u_19.2.1 u_19.2.2.1 u_19.2.2.2.1 u_19.2.2.2.2), (eA0 lby cBy 900 fBy), (eA0 lco cCo 23 fCo), (eA0 phe cHe 72 fHe), (eA0 phr cHr 72 fHr), (eO0a bk bto bnm bla bsk bru bbo bdi bda bdk bdt bdp bno), (eO8a bru rco u_2.2.1 ren rst rkn), (eA0 rco cRc 64 u_2.2.2)]) hP hD [0, 6, 7, 8, 1, 2, 3, 4, 5] (by decide +kernel) rfl
    have hK9 := hK.sub (tys' := []) [] rfl
    exact W.vret hx hb hr (fun t ht hW => ⟨⟨((u_2.1 - 1), (pop - 1), u_2.2.1, u_2.2.2, u_19.1, u_19.2.1, u_19.2.2.1, u_19.2.2.2.1, u_19.2.2.2.2), rfl, ⟨(Eq.symm ((by rw [fp_close]; (try rw [← hq_u_2]); (try rw [xL_eq]); (try rw [if_neg c_9]); (try rw [← hq_u_19]); (try rw [xL_eq]); try rfl))), (gp_close_s5 (y0 := u_19.1) hp_25), (gp_close_s6 (y0 := u_2.1) c_9 hp_6 hp_7), (gp_close_s7 (y0 := u_2.1) c_9 hp_6 hp_7), (gp_close_s8 (y0 := u_2.2.1) hp_8)⟩, by rw [ht]; exact hP9, va_K.moved hW.alike hK9, hD9⟩, hS.F ht⟩) hS.2.2 dX7_close_39
