def fx_fault (pfa : Int32) (pfp : Int32) (a0 : Int32) : Int32 := (if a0 = 0 then pfa else (if a0 = 1 then pfp else (-1 : Int32)))
theorem dX11_fault_0 : decode cX11_fault 0 = .ok (.iload_n 1, 1) := zk_27 (by decide +kernel)
theorem dX11_fault_1 : decode cX11_fault 1 = .ok (.ifCond .ne 11, 3) := zk_154 (by decide +kernel)
theorem dX11_fault_12 : decode cX11_fault 12 = .ok (.iload_n 1, 1) := zk_27 (by decide +kernel)
theorem dX11_fault_13 : decode cX11_fault 13 = .ok (.iconst 1, 1) := zk_4 (by decide +kernel)
theorem dX11_fault_14 : decode cX11_fault 14 = .ok (.if_icmp .ne 13, 3) := zk_160 (by decide +kernel)
theorem dX11_fault_27 : decode cX11_fault 27 = .ok (.iconst (-1), 1) := zk_2 (by decide +kernel)
theorem dX11_fault_28 : decode cX11_fault 28 = .ok (.ireturn, 1) := zk_172 (by decide +kernel)
theorem dX11_fault_17 : decode cX11_fault 17 = .ok (.aload_n 0, 1) := zk_42 (by decide +kernel)
theorem dX11_fault_18 : decode cX11_fault 18 = .ok (.getfield 12, 3) := zk_180 (by decide +kernel)
theorem dX11_fault_21 : decode cX11_fault 21 = .ok (.getfield 105, 3) := zk_180 (by decide +kernel)
theorem dX11_fault_24 : decode cX11_fault 24 = .ok (.goto 4, 3) := zk_167 (by decide +kernel)
theorem dX11_fault_4 : decode cX11_fault 4 = .ok (.aload_n 0, 1) := zk_42 (by decide +kernel)
theorem dX11_fault_5 : decode cX11_fault 5 = .ok (.getfield 12, 3) := zk_180 (by decide +kernel)
theorem dX11_fault_8 : decode cX11_fault 8 = .ok (.getfield 102, 3) := zk_180 (by decide +kernel)
theorem dX11_fault_11 : decode cX11_fault 11 = .ok (.ireturn, 1) := zk_172 (by decide +kernel)
set_option maxHeartbeats 4000000 in
set_option maxRecDepth 100000 in
theorem gx_fault (l : Launch) (dC : Nat → ClassId) (dI : Nat → Nat → Nat) (x : Nat) (pa : Nat) (bk : Nat) (xsp : Nat) (xdy : Nat) (le : Nat) (xst : Nat) (xsc : Int32) (xim : Nat) (xil : Nat) (xik : Int32) (xmo : Nat) (xom : Nat) (wi : Nat) (lx : Nat) (pbk : Value) (pfa : Int32) (pfp : Int32) (psk : Int32) (phe : Nat) (phr : Nat) (phs : Int32) (pop : Int32) (a0 : Int32) : Met l yX11_fault (Cond.code yX11_fault cX11_fault 2 (some .int) :: wsL_law) ({ frames := 0, cells := 0, slots := 0, locals := 0 }) (va_Pc [.ref x, .int a0] (fun U => va_P (dC, dI) vwCl [(eO11a x pa bk xsp xdy le xst xsc xim xil xik xmo xom wi), (pa, .inr (7, [.ref lx, pbk, .int pfa, .int pfp, .int psk, .ref phe, .ref phr, .int phs, .int pop]))] U.heap ∧ va_K (dC, dI) vwCl [] U)) (vp_Si (fun r => r = fx_fault pfa pfp a0)) 0 0 (fun _ => False) := by
  refine Met.ofW (cc := cX11_fault) (maxL := 2) (ret := (some .int)) (by decide) rfl ?_
  intro p e s m args below meth c s₁ B hml hv
  obtain ⟨rfl, hP, hK⟩ := hv
  have hx := B.exec
  have hb := B.bytes
  have hr := B.returns
  have hts := atoms_spec (ws := Cond.code yX11_fault cX11_fault 2 (some .int) :: wsL_law) B.pre
  have htw : ∀ w ∈ wsL_law, w.before _ s = true := fun w h => hts w (List.mem_cons_of_mem _ h)
  have hown : s.vm.findClass RX11 = some m.cls := findClass_of_methodNamed B.named
  have hlocks := B.notSynchronized
  have hl := lv_entry ([.ref x, .int a0]) (n := 2) (Nat.le_of_ble_eq_true rfl)
  rw [lg_entry_eq]
  generalize (lg_sl ([.ref x, .int a0]) ++ List.replicate (2 - (lg_sl ([.ref x, .int a0])).length) Slot.unset).toArray = ls at hl ⊢
  have hl : lv_has ls 2 [(0, .ref x), (1, .int a0)] := hl
  refine lv_iload_n hx hb dX11_fault_0 rfl (lv_at hl 1 rfl) ?_
  refine lv_if_ne (tgt := 12) hx hb dX11_fault_1 (by decide) (fun c_1 => ?_) (fun c_1 => ?_)
  · refine lv_iload_n hx hb dX11_fault_12 rfl (lv_at hl 1 rfl) ?_
    refine lv_iconst (v := 1) hx hb dX11_fault_13 (by decide) ?_
    refine lv_icmp_ne (tgt := 27) hx hb dX11_fault_14 (by decide) (fun c_2 => ?_) (fun c_2 => ?_)
    · refine lv_iconst (v := (-1)) hx hb dX11_fault_27 (by decide) ?_
      exact W.iret (v := (-1)) hx hb hr (fun t ht hW => ⟨(-1), rfl, (Eq.symm ((by rw [fx_fault]; (try rw [if_neg c_1]); (try rw [if_neg c_2]); try rfl))), ht⟩) (fun _ h => by cases h) dX11_fault_28
    · refine lv_aload_n hx hb dX11_fault_17 rfl (lv_at hl 0 rfl) ?_
      refine va_get (D := (dC, dI)) (ci := 11) (v := .ref pa) (C := RX11) (T := TX11) (N := 13) hx hb htw inlX11 hown hK hP 0 rfl rfl 0 (by decide) (htw _ (ck_1 _ (List.mem_of_getElem? (i := 17) rfl))) (fun _ h9 => h9) rfl dX11_fault_18 ?_
      refine va_get (D := (dC, dI)) (ci := 7) (v := .int pfp) (C := RX7) (T := TX7) (N := 9) hx hb htw inlX7 hown hK hP 1 rfl rfl 3 (by decide) (htw _ (ck_32 _ (List.mem_of_getElem? (i := 14) rfl))) (fun _ h9 => h9) rfl dX11_fault_21 ?_
      refine lv_goto (tgt := 28) hx hb dX11_fault_24 (by decide) ?_
      exact W.iret (v := pfp) hx hb hr (fun t ht hW => ⟨pfp, rfl, (Eq.symm ((by rw [fx_fault]; (try rw [if_neg c_1]); (try rw [if_pos c_2]); try rfl))), ht⟩) (fun _ h => by cases h) dX11_fault_28
  · refine lv_aload_n hx hb dX11_fault_4 rfl (lv_at hl 0 rfl) ?_
    refine va_get (D := (dC, dI)) (ci := 11) (v := .ref pa) (C := RX11) (T := TX11) (N := 13) hx hb htw inlX11 hown hK hP 0 rfl rfl 0 (by decide) (htw _ (ck_1 _ (List.mem_of_getElem? (i := 17) rfl))) (fun _ h9 => h9) rfl dX11_fault_5 ?_
    refine va_get (D := (dC, dI)) (ci := 7) (v := .int pfa) (C := RX7) (T := TX7) (N := 9) hx hb htw inlX7 hown hK hP 1 rfl rfl 2 (by decide) (htw _ (ck_32 _ (List.mem_of_getElem? (i := 13) rfl))) (fun _ h9 => h9) rfl dX11_fault_8 ?_
    exact W.iret (v := pfa) hx hb hr (fun t ht hW => ⟨pfa, rfl, (Eq.symm ((by rw [fx_fault]; (try rw [if_pos c_1]); try rfl))), ht⟩) (fun _ h => by cases h) dX11_fault_11

def fx_length (fTo : Nat → Int32) (FI : Nat → Int32) (GR : Nat → Int32) (FR : Nat → Int32) (a0 : Int32) (a1 : Int32) : Int64 := (if fb_landIs fTo a0 = 0 then (-1 : Int64) else (xL (fl_canBeAsked (FI a0.toNatClampNeg) (GR a0.toNatClampNeg) (FR a0.toNatClampNeg) a1.toInt64) (fun r_3 => (if r_3 = 0 then (-1 : Int64) else (xL (fl_lengthOf (FI a0.toNatClampNeg) (GR a0.toNatClampNeg) (FR a0.toNatClampNeg) a1.toInt64) (fun r_5 => r_5))))))
theorem dX11_length_0 : decode cX11_length 0 = .ok (.aload_n 0, 1) := zk_42 (by decide +kernel)
theorem dX11_length_1 : decode cX11_length 1 = .ok (.getfield 19, 3) := zk_180 (by decide +kernel)
theorem dX11_length_4 : decode cX11_length 4 = .ok (.iload_n 1, 1) := zk_27 (by decide +kernel)
theorem dX11_length_5 : decode cX11_length 5 = .ok (.invokevirtual 112, 3) := zk_182 (by decide +kernel)
theorem dX11_length_8 : decode cX11_length 8 = .ok (.astore_n 3, 1) := zk_78 (by decide +kernel)
theorem dX11_length_9 : decode cX11_length 9 = .ok (.aload_n 3, 1) := zk_45 (by decide +kernel)
theorem dX11_length_10 : decode cX11_length 10 = .ok (.ifnull 12, 3) := zk_198 (by decide +kernel)
theorem dX11_length_22 : decode cX11_length 22 = .ok (.ldc2_w 143, 3) := zk_20 (by decide +kernel)
theorem dX11_length_25 : decode cX11_length 25 = .ok (.lreturn, 1) := zk_173 (by decide +kernel)
theorem dX11_length_13 : decode cX11_length 13 = .ok (.aload_n 3, 1) := zk_45 (by decide +kernel)
theorem dX11_length_14 : decode cX11_length 14 = .ok (.iload_n 2, 1) := zk_28 (by decide +kernel)
theorem dX11_length_15 : decode cX11_length 15 = .ok (.i2l, 1) := zk_133 (by decide +kernel)
theorem dX11_length_16 : decode cX11_length 16 = .ok (.invokevirtual 139, 3) := zk_182 (by decide +kernel)
theorem dX11_length_19 : decode cX11_length 19 = .ok (.ifCond .ne 7, 3) := zk_154 (by decide +kernel)
theorem dX11_length_26 : decode cX11_length 26 = .ok (.aload_n 3, 1) := zk_45 (by decide +kernel)
theorem dX11_length_27 : decode cX11_length 27 = .ok (.iload_n 2, 1) := zk_28 (by decide +kernel)
theorem dX11_length_28 : decode cX11_length 28 = .ok (.i2l, 1) := zk_133 (by decide +kernel)
theorem dX11_length_29 : decode cX11_length 29 = .ok (.invokevirtual 145, 3) := zk_182 (by decide +kernel)
theorem dX11_length_32 : decode cX11_length 32 = .ok (.lreturn, 1) := zk_173 (by decide +kernel)
set_option maxHeartbeats 4000000 in
set_option maxRecDepth 100000 in
theorem gx_length (l : Launch) (dC : Nat → ClassId) (dI : Nat → Nat → Nat) (x : Nat) (pa : Nat) (bk : Nat) (xsp : Nat) (xdy : Nat) (le : Nat) (xst : Nat) (xsc : Int32) (xim : Nat) (xil : Nat) (xik : Int32) (xmo : Nat) (xom : Nat) (wi : Nat) (bto : Nat) (bnm : Nat) (bla : Nat) (bsk : Nat) (bru : Nat) (bbo : Nat) (bdi : Nat) (bda : Nat) (bdk : Nat) (bdt : Nat) (bdp : Nat) (bno : Nat) (cTo : ClassId) (fTo : Nat → Int32) (cLa : ClassId) (La : Nat → Nat) (FI : Nat → Int32) (GR : Nat → Int32) (FR : Nat → Int32) (a0 : Int32) (a1 : Int32) : Met l yX11_length (Cond.code yX11_length cX11_length 4 (some .long) :: wsL_law) ({ frames := 3, cells := 0, slots := 0, locals := 66 }) (va_Pc [.ref x, .int a0, .int a1] (fun U => va_P (dC, dI) vwCl [(eO11a x pa bk xsp xdy le xst xsc xim xil xik xmo xom wi), (eO0a bk bto bnm bla bsk bru bbo bdi bda bdk bdt bdp bno), (eA0 bto cTo 5 fTo), (eA4 bla cLa 4 (fun k => some (La k))), (eO1a (La 0) (FI 0) (GR 0) (FR 0)), (eO1a (La 1) (FI 1) (GR 1) (FR 1)), (eO1a (La 2) (FI 2) (GR 2) (FR 2)), (eO1a (La 3) (FI 3) (GR 3) (FR 3))] U.heap ∧ va_K (dC, dI) vwCl [(cTo, .int), (cLa, .object RX1)] U)) (vp_Sl (fun r => r = fx_length fTo FI GR FR a0 a1)) 0 0 (fun _ => False) := by
  refine Met.ofW (cc := cX11_length) (maxL := 4) (ret := (some .long)) (by decide) rfl ?_
  intro p e s m args below meth c s₁ B hml hv
  obtain ⟨rfl, hP, hK⟩ := hv
  have hx := B.exec
  have hb := B.bytes
  have hr := B.returns
  have hts := atoms_spec (ws := Cond.code yX11_length cX11_length 4 (some .long) :: wsL_law) B.pre
  have htw : ∀ w ∈ wsL_law, w.before _ s = true := fun w h => hts w (List.mem_cons_of_mem _ h)
  have hown : s.vm.findClass RX11 = some m.cls := findClass_of_methodNamed B.named
  have hlocks := B.notSynchronized
  have hl := lv_entry ([.ref x, .int a0, .int a1]) (n := 4) (Nat.le_of_ble_eq_true rfl)
  rw [lg_entry_eq]
  generalize (lg_sl ([.ref x, .int a0, .int a1]) ++ List.replicate (4 - (lg_sl ([.ref x, .int a0, .int a1])).length) Slot.unset).toArray = ls at hl ⊢
  have hl : lv_has ls 4 [(0, .ref x), (1, .int a0), (2, .int a1)] := hl
  refine lv_aload_n hx hb dX11_length_0 rfl (lv_at hl 0 rfl) ?_
  refine va_get (D := (dC, dI)) (ci := 11) (v := .ref bk) (C := RX11) (T := TX11) (N := 13) hx hb htw inlX11 hown hK hP 0 rfl rfl 1 (by decide) (htw _ (ck_1 _ (List.mem_of_getElem? (i := 21) rfl))) (fun _ h9 => h9) rfl dX11_length_1 ?_
  refine lv_iload_n hx hb dX11_length_4 rfl (lv_at hl 1 rfl) ?_
  have hPc := hP.sub (ws' := [(eO0a bk bto bnm bla bsk bru bbo bdi bda bdk bdt bdp bno), (eA0 bto cTo 5 fTo), (eA4 bla cLa 4 (fun k => some (La k)))]) [1, 2, 3] rfl
  have hKc := hK.sub (tys' := [(cTo, .int), (cLa, .object RX1)]) [0, 1] rfl
  refine va_csq (W.runV (As := [.int a0]) (rest := []) ⟨hx, hb, hml, hown, htw⟩ (gb_landAt l dC dI bk bto bnm bla bsk bru bbo bdi bda bdk bdt bdp bno cTo fTo cLa La a0) (cwV 1 htw (xg_V (ck_33 _ (List.mem_of_getElem? (i := 21) rfl)) (ck_20 _ (List.mem_of_getElem? (i := 22) rfl)) (ck_20 _ (List.mem_of_getElem? (i := 23) rfl)) (ck_1 _ (List.mem_of_getElem? (i := 20) rfl)) (ck_21 _ (List.mem_of_getElem? (i := 0) rfl))) rfl rfl rfl (by exact ⟨rfl, hdc_6.1, hdc_6.2, hdd_15⟩) ⟨Nat.le_of_ble_eq_true rfl, Nat.le_of_ble_eq_true rfl⟩) ⟨fun a U g mk q => by obtain ⟨q0, qP, qK⟩ := q; exact ⟨q0, qP, va_K.moved (u := U) (U := U.calling g mk a) (Vm.Alike.refl U.vm) qK⟩, va_recv hKc hPc (ci := 0) (q0 := 0) rfl rfl, fun U hU hW => ⟨rfl, by rw [hU]; exact hPc, va_K.moved hW.alike hKc⟩⟩ rfl rfl hl.1 rfl (lv_room (Nat.le_of_ble_eq_true rfl)) dX11_length_5 ⟨Nat.le_of_ble_eq_true rfl, Nat.le_of_ble_eq_true rfl⟩) (fun r_1 hw => ?_)
  try dsimp only at hw
  by_cases hz_2 : fb_landIs fTo a0 = 0
  · obtain rfl : r_1 = none := by rw [hw, if_pos hz_2]
    refine W.eq (g2 := F0 m 8 ls [.null]) rfl ?_
    refine lv_astore_nN (lv' := [(3, .null), (0, .ref x), (1, .int a0), (2, .int a1)]) hx hb dX11_length_8 rfl hl (by decide) rfl (fun ls hl => ?_)
    refine lv_aload_nN hx hb dX11_length_9 rfl (lv_at hl 0 rfl) ?_
    refine lv_ifnullN (tgt := 22) hx hb dX11_length_10 (by decide) ?_
    refine lv_ldc2 (v := (-1)) hx hb hown (htw _ (ck_34 _ (List.mem_of_getElem? (i := 14) rfl))) dX11_length_22 ?_
    exact W.lret (v := (-1)) hx hb hr (fun t ht hW => ⟨(-1), rfl, (Eq.symm ((by rw [fx_length]; (try rw [if_pos hz_2]); try rfl))), ht⟩) (fun _ h => by cases h) dX11_length_25
  · obtain rfl : r_1 = some (La a0.toNatClampNeg) := by rw [hw, if_neg hz_2]
    have hP : va_P (dC, dI) vwCl [(eO11a x pa bk xsp xdy le xst xsc xim xil xik xmo xom wi), (eO0a bk bto bnm bla bsk bru bbo bdi bda bdk bdt bdp bno), (eA0 bto cTo 5 fTo), (eA4 bla cLa 4 (fun k => some (La k))), (eO1a (La 0) (FI 0) (GR 0) (FR 0)), (eO1a (La 1) (FI 1) (GR 1) (FR 1)), (eO1a (La 2) (FI 2) (GR 2) (FR 2)), (eO1a (La 3) (FI 3) (GR 3) (FR 3)), ((La a0.toNatClampNeg), .inr (1, [.int (FI a0.toNatClampNeg), .int (GR a0.toNatClampNeg), .int (FR a0.toNatClampNeg)]))] s.heap := xb_P4 hP (fun k => (La k, .inr (1, [.int (FI k), .int (GR k), .int (FR k)]))) 4 rfl rfl rfl rfl (i := a0) (xg_inr (N := 4) rfl (fb_landIn hz_2).1 (fb_landIn hz_2).2)
    refine W.eq (g2 := F0 m 8 ls [.ref (La a0.toNatClampNeg)]) rfl ?_
    refine lv_astore_n (lv' := [(3, .ref (La a0.toNatClampNeg)), (0, .ref x), (1, .int a0), (2, .int a1)]) hx hb dX11_length_8 rfl hl (by decide) rfl (fun ls hl => ?_)
    refine lv_aload_n hx hb dX11_length_9 rfl (lv_at hl 0 rfl) ?_
    refine lv_ifnull hx hb dX11_length_10 ?_
    refine lv_aload_n hx hb dX11_length_13 rfl (lv_at hl 0 rfl) ?_
    refine lv_iload_n hx hb dX11_length_14 rfl (lv_at hl 3 rfl) ?_
    refine lv_i2l (v := a1.toInt64) hx hb dX11_length_15 rfl ?_
    have hPc := hP.sub (ws' := [((La a0.toNatClampNeg), .inr (1, [.int (FI a0.toNatClampNeg), .int (GR a0.toNatClampNeg), .int (FR a0.toNatClampNeg)]))]) [8] rfl
    have hKc := hK.sub (tys' := []) [] rfl
    refine vp_callSi (W.runV (As := [.long a1.toInt64]) (rest := []) ⟨hx, hb, hml, hown, htw⟩ (gl_canBeAsked l dC dI (La a0.toNatClampNeg) (FI a0.toNatClampNeg) (GR a0.toNatClampNeg) (FR a0.toNatClampNeg) a1.toInt64) (cwV 1 htw (xg_V (ck_34 _ (List.mem_of_getElem? (i := 15) rfl)) (ck_34 _ (List.mem_of_getElem? (i := 16) rfl)) (ck_34 _ (List.mem_of_getElem? (i := 17) rfl)) (ck_6 _ (List.mem_of_getElem? (i := 19) rfl)) (ck_34 _ (List.mem_of_getElem? (i := 18) rfl))) rfl rfl rfl (by exact ⟨rfl, hdc_0.1, hdc_0.2, hdd_1⟩) ⟨Nat.le_of_ble_eq_true rfl, Nat.le_of_ble_eq_true rfl⟩) ⟨fun a U g mk q => by obtain ⟨q0, qP, qK⟩ := q; exact ⟨q0, qP, va_K.moved (u := U) (U := U.calling g mk a) (Vm.Alike.refl U.vm) qK⟩, va_recv hKc hPc (ci := 1) (q0 := 0) rfl rfl, fun U hU hW => ⟨rfl, by rw [hU]; exact hPc, va_K.moved hW.alike hKc⟩⟩ rfl rfl hl.1 rfl (lv_room (Nat.le_of_ble_eq_true rfl)) dX11_length_16 ⟨Nat.le_of_ble_eq_true rfl, Nat.le_of_ble_eq_true rfl⟩) (fun r_3 hw => ?_)
    try dsimp only at hw
    have hq_r_3 : r_3 = fl_canBeAsked (FI a0.toNatClampNeg) (GR a0.toNatClampNeg) (FR a0.toNatClampNeg) a1.toInt64 := hw
    refine lv_if_ne (tgt := 26) hx hb dX11_length_19 (by decide) (fun c_4 => ?_) (fun c_4 => ?_)
    · refine lv_aload_n hx hb dX11_length_26 rfl (lv_at hl 0 rfl) ?_
      refine lv_iload_n hx hb dX11_length_27 rfl (lv_at hl 3 rfl) ?_
      refine lv_i2l (v := a1.toInt64) hx hb dX11_length_28 rfl ?_
      have hPc := hP.sub (ws' := [((La a0.toNatClampNeg), .inr (1, [.int (FI a0.toNatClampNeg), .int (GR a0.toNatClampNeg), .int (FR a0.toNatClampNeg)]))]) [8] rfl
      have hKc := hK.sub (tys' := []) [] rfl
      refine vp_callSl (W.runV (As := [.long a1.toInt64]) (rest := []) ⟨hx, hb, hml, hown, htw⟩ (gl_lengthOf l dC dI (La a0.toNatClampNeg) (FI a0.toNatClampNeg) (GR a0.toNatClampNeg) (FR a0.toNatClampNeg) a1.toInt64) (cwV 1 htw (xg_V (ck_34 _ (List.mem_of_getElem? (i := 21) rfl)) (ck_21 _ (List.mem_of_getElem? (i := 10) rfl)) (ck_21 _ (List.mem_of_getElem? (i := 11) rfl)) (ck_6 _ (List.mem_of_getElem? (i := 19) rfl)) (ck_21 _ (List.mem_of_getElem? (i := 12) rfl))) rfl rfl rfl (by exact ⟨rfl, hdc_0.1, hdc_0.2, hdd_0⟩) ⟨Nat.le_of_ble_eq_true rfl, Nat.le_of_ble_eq_true rfl⟩) ⟨fun a U g mk q => by obtain ⟨q0, qP, qK⟩ := q; exact ⟨q0, qP, va_K.moved (u := U) (U := U.calling g mk a) (Vm.Alike.refl U.vm) qK⟩, va_recv hKc hPc (ci := 1) (q0 := 0) rfl rfl, fun U hU hW => ⟨rfl, by rw [hU]; exact hPc, va_K.moved hW.alike hKc⟩⟩ rfl rfl hl.1 rfl (lv_room (Nat.le_of_ble_eq_true rfl)) dX11_length_29 ⟨Nat.le_of_ble_eq_true rfl, Nat.le_of_ble_eq_true rfl⟩) (fun r_5 hw => ?_)
      try dsimp only at hw
      have hq_r_5 : r_5 = fl_lengthOf (FI a0.toNatClampNeg) (GR a0.toNatClampNeg) (FR a0.toNatClampNeg) a1.toInt64 := hw
      exact W.lret (v := r_5) hx hb hr (fun t ht hW => ⟨r_5, rfl, (Eq.symm ((by rw [fx_length]; (try rw [if_neg hz_2]); (try rw [← hq_r_3]); (try rw [xL_eq]); (try rw [if_neg c_4]); (try rw [← hq_r_5]); (try rw [xL_eq]); try rfl))), ht⟩) (fun _ h => by cases h) dX11_length_32
    · refine lv_ldc2 (v := (-1)) hx hb hown (htw _ (ck_34 _ (List.mem_of_getElem? (i := 14) rfl))) dX11_length_22 ?_
      exact W.lret (v := (-1)) hx hb hr (fun t ht hW => ⟨(-1), rfl, (Eq.symm ((by rw [fx_length]; (try rw [if_neg hz_2]); (try rw [← hq_r_3]); (try rw [xL_eq]); (try rw [if_pos c_4]); try rfl))), ht⟩) (fun _ h => by cases h) dX11_length_25

def fx_date (fTo : Nat → Int32) (FI : Nat → Int32) (GR : Nat → Int32) (FR : Nat → Int32) (a0 : Int32) (a1 : Int64) (a2 : Int32) : Int64 := (if fb_landIs fTo a0 = 0 then (-1 : Int64) else (xL (fx_isCount a1) (fun r_3 => (if r_3 = 0 then (-1 : Int64) else (if a2 < 0 then (-1 : Int64) else (if a2 ≤ 1 then (xL (fl_yearOf (FI a0.toNatClampNeg) (GR a0.toNatClampNeg) (FR a0.toNatClampNeg) a1) (fun r_7 => (if lg_cmp r_7 0 = 0 then (-1 : Int64) else (if a2 = 0 then r_7 else (xL (fl_beginOf (FI a0.toNatClampNeg) (GR a0.toNatClampNeg) (FR a0.toNatClampNeg) r_7) (fun r_10 => ((a1 - r_10) + 1))))))) else (-1 : Int64)))))))
theorem dX11_date_0 : decode cX11_date 0 = .ok (.aload_n 0, 1) := zk_42 (by decide +kernel)
theorem dX11_date_1 : decode cX11_date 1 = .ok (.getfield 19, 3) := zk_180 (by decide +kernel)
theorem dX11_date_4 : decode cX11_date 4 = .ok (.iload_n 1, 1) := zk_27 (by decide +kernel)
theorem dX11_date_5 : decode cX11_date 5 = .ok (.invokevirtual 112, 3) := zk_182 (by decide +kernel)
theorem dX11_date_8 : decode cX11_date 8 = .ok (.astore 5, 2) := zk_58 (by decide +kernel)
theorem dX11_date_10 : decode cX11_date 10 = .ok (.aload 5, 2) := zk_25 (by decide +kernel)
theorem dX11_date_12 : decode cX11_date 12 = .ok (.ifnull 21, 3) := zk_198 (by decide +kernel)
theorem dX11_date_33 : decode cX11_date 33 = .ok (.ldc2_w 143, 3) := zk_20 (by decide +kernel)
theorem dX11_date_36 : decode cX11_date 36 = .ok (.lreturn, 1) := zk_173 (by decide +kernel)
theorem dX11_date_15 : decode cX11_date 15 = .ok (.lload_n 2, 1) := zk_32 (by decide +kernel)
theorem dX11_date_16 : decode cX11_date 16 = .ok (.invokestatic 149, 3) := zk_184 (by decide +kernel)
theorem dX11_date_19 : decode cX11_date 19 = .ok (.ifCond .eq 14, 3) := zk_153 (by decide +kernel)
theorem dX11_date_22 : decode cX11_date 22 = .ok (.iload 4, 2) := zk_21 (by decide +kernel)
theorem dX11_date_24 : decode cX11_date 24 = .ok (.ifCond .lt 9, 3) := zk_155 (by decide +kernel)
theorem dX11_date_27 : decode cX11_date 27 = .ok (.iload 4, 2) := zk_21 (by decide +kernel)
theorem dX11_date_29 : decode cX11_date 29 = .ok (.iconst 1, 1) := zk_4 (by decide +kernel)
theorem dX11_date_30 : decode cX11_date 30 = .ok (.if_icmp .le 7, 3) := zk_164 (by decide +kernel)
theorem dX11_date_37 : decode cX11_date 37 = .ok (.aload 5, 2) := zk_25 (by decide +kernel)
theorem dX11_date_39 : decode cX11_date 39 = .ok (.lload_n 2, 1) := zk_32 (by decide +kernel)
theorem dX11_date_40 : decode cX11_date 40 = .ok (.invokevirtual 152, 3) := zk_182 (by decide +kernel)
theorem dX11_date_43 : decode cX11_date 43 = .ok (.lstore 6, 2) := zk_55 (by decide +kernel)
theorem dX11_date_45 : decode cX11_date 45 = .ok (.lload 6, 2) := zk_22 (by decide +kernel)
theorem dX11_date_47 : decode cX11_date 47 = .ok (.lconst 0, 1) := zk_9 (by decide +kernel)
theorem dX11_date_48 : decode cX11_date 48 = .ok (.lcmp, 1) := zk_148 (by decide +kernel)
theorem dX11_date_49 : decode cX11_date 49 = .ok (.ifCond .ne 7, 3) := zk_154 (by decide +kernel)
theorem dX11_date_56 : decode cX11_date 56 = .ok (.iload 4, 2) := zk_21 (by decide +kernel)
theorem dX11_date_58 : decode cX11_date 58 = .ok (.ifCond .ne 8, 3) := zk_154 (by decide +kernel)
theorem dX11_date_66 : decode cX11_date 66 = .ok (.lload_n 2, 1) := zk_32 (by decide +kernel)
theorem dX11_date_67 : decode cX11_date 67 = .ok (.aload 5, 2) := zk_25 (by decide +kernel)
theorem dX11_date_69 : decode cX11_date 69 = .ok (.lload 6, 2) := zk_22 (by decide +kernel)
theorem dX11_date_71 : decode cX11_date 71 = .ok (.invokevirtual 155, 3) := zk_182 (by decide +kernel)
theorem dX11_date_74 : decode cX11_date 74 = .ok (.lsub, 1) := zk_101 (by decide +kernel)
theorem dX11_date_75 : decode cX11_date 75 = .ok (.lconst 1, 1) := zk_10 (by decide +kernel)
theorem dX11_date_76 : decode cX11_date 76 = .ok (.ladd, 1) := zk_97 (by decide +kernel)
theorem dX11_date_77 : decode cX11_date 77 = .ok (.lreturn, 1) := zk_173 (by decide +kernel)
theorem dX11_date_61 : decode cX11_date 61 = .ok (.lload 6, 2) := zk_22 (by decide +kernel)
theorem dX11_date_63 : decode cX11_date 63 = .ok (.goto 14, 3) := zk_167 (by decide +kernel)
theorem dX11_date_52 : decode cX11_date 52 = .ok (.ldc2_w 143, 3) := zk_20 (by decide +kernel)
theorem dX11_date_55 : decode cX11_date 55 = .ok (.lreturn, 1) := zk_173 (by decide +kernel)
set_option maxHeartbeats 4000000 in
set_option maxRecDepth 100000 in
theorem gx_date (l : Launch) (dC : Nat → ClassId) (dI : Nat → Nat → Nat) (x : Nat) (pa : Nat) (bk : Nat) (xsp : Nat) (xdy : Nat) (le : Nat) (xst : Nat) (xsc : Int32) (xim : Nat) (xil : Nat) (xik : Int32) (xmo : Nat) (xom : Nat) (wi : Nat) (bto : Nat) (bnm : Nat) (bla : Nat) (bsk : Nat) (bru : Nat) (bbo : Nat) (bdi : Nat) (bda : Nat) (bdk : Nat) (bdt : Nat) (bdp : Nat) (bno : Nat) (cTo : ClassId) (fTo : Nat → Int32) (cLa : ClassId) (La : Nat → Nat) (FI : Nat → Int32) (GR : Nat → Int32) (FR : Nat → Int32) (a0 : Int32) (a1 : Int64) (a2 : Int32) : Met l yX11_date (Cond.code yX11_date cX11_date 8 (some .long) :: wsL_law) ({ frames := 3, cells := 0, slots := 0, locals := 72 }) (va_Pc [.ref x, .int a0, .long a1, .int a2] (fun U => va_P (dC, dI) vwCl [(eO11a x pa bk xsp xdy le xst xsc xim xil xik xmo xom wi), (eO0a bk bto bnm bla bsk bru bbo bdi bda bdk bdt bdp bno), (eA0 bto cTo 5 fTo), (eA4 bla cLa 4 (fun k => some (La k))), (eO1a (La 0) (FI 0) (GR 0) (FR 0)), (eO1a (La 1) (FI 1) (GR 1) (FR 1)), (eO1a (La 2) (FI 2) (GR 2) (FR 2)), (eO1a (La 3) (FI 3) (GR 3) (FR 3))] U.heap ∧ va_K (dC, dI) vwCl [(cTo, .int), (cLa, .object RX1)] U ∧ xN U)) (vp_Sl (fun r => r = fx_date fTo FI GR FR a0 a1 a2)) 0 0 (fun _ => False) := by
  refine Met.ofW (cc := cX11_date) (maxL := 8) (ret := (some .long)) (by decide) rfl ?_
  intro p e s m args below meth c s₁ B hml hv
  obtain ⟨rfl, hP, hK, hNx⟩ := hv
  have hx := B.exec
  have hb := B.bytes
  have hr := B.returns
  have hts := atoms_spec (ws := Cond.code yX11_date cX11_date 8 (some .long) :: wsL_law) B.pre
  have htw : ∀ w ∈ wsL_law, w.before _ s = true := fun w h => hts w (List.mem_cons_of_mem _ h)
  have hown : s.vm.findClass RX11 = some m.cls := findClass_of_methodNamed B.named
  have hlocks := B.notSynchronized
  have hl := lv_entry ([.ref x, .int a0, .long a1, .int a2]) (n := 8) (Nat.le_of_ble_eq_true rfl)
  rw [lg_entry_eq]
  generalize (lg_sl ([.ref x, .int a0, .long a1, .int a2]) ++ List.replicate (8 - (lg_sl ([.ref x, .int a0, .long a1, .int a2])).length) Slot.unset).toArray = ls at hl ⊢
  have hl : lv_has ls 8 [(0, .ref x), (1, .int a0), (2, .long a1), (4, .int a2)] := hl
  refine lv_aload_n hx hb dX11_date_0 rfl (lv_at hl 0 rfl) ?_
  refine va_get (D := (dC, dI)) (ci := 11) (v := .ref bk) (C := RX11) (T := TX11) (N := 13) hx hb htw inlX11 hown hK hP 0 rfl rfl 1 (by decide) (htw _ (ck_1 _ (List.mem_of_getElem? (i := 21) rfl))) (fun _ h9 => h9) rfl dX11_date_1 ?_
  refine lv_iload_n hx hb dX11_date_4 rfl (lv_at hl 1 rfl) ?_
  have hPc := hP.sub (ws' := [(eO0a bk bto bnm bla bsk bru bbo bdi bda bdk bdt bdp bno), (eA0 bto cTo 5 fTo), (eA4 bla cLa 4 (fun k => some (La k)))]) [1, 2, 3] rfl
  have hKc := hK.sub (tys' := [(cTo, .int), (cLa, .object RX1)]) [0, 1] rfl
  refine va_csq (W.runV (As := [.int a0]) (rest := []) ⟨hx, hb, hml, hown, htw⟩ (gb_landAt l dC dI bk bto bnm bla bsk bru bbo bdi bda bdk bdt bdp bno cTo fTo cLa La a0) (cwV 1 htw (xg_V (ck_33 _ (List.mem_of_getElem? (i := 21) rfl)) (ck_20 _ (List.mem_of_getElem? (i := 22) rfl)) (ck_20 _ (List.mem_of_getElem? (i := 23) rfl)) (ck_1 _ (List.mem_of_getElem? (i := 20) rfl)) (ck_21 _ (List.mem_of_getElem? (i := 0) rfl))) rfl rfl rfl (by exact ⟨rfl, hdc_6.1, hdc_6.2, hdd_15⟩) ⟨Nat.le_of_ble_eq_true rfl, Nat.le_of_ble_eq_true rfl⟩) ⟨fun a U g mk q => by obtain ⟨q0, qP, qK⟩ := q; exact ⟨q0, qP, va_K.moved (u := U) (U := U.calling g mk a) (Vm.Alike.refl U.vm) qK⟩, va_recv hKc hPc (ci := 0) (q0 := 0) rfl rfl, fun U hU hW => ⟨rfl, by rw [hU]; exact hPc, va_K.moved hW.alike hKc⟩⟩ rfl rfl hl.1 rfl (lv_room (Nat.le_of_ble_eq_true rfl)) dX11_date_5 ⟨Nat.le_of_ble_eq_true rfl, Nat.le_of_ble_eq_true rfl⟩) (fun r_1 hw => ?_)
  try dsimp only at hw
  by_cases hz_2 : fb_landIs fTo a0 = 0
  · obtain rfl : r_1 = none := by rw [hw, if_pos hz_2]
    refine W.eq (g2 := F0 m 8 ls [.null]) rfl ?_
    refine lv_astoreN (lv' := [(5, .null), (0, .ref x), (1, .int a0), (2, .long a1), (4, .int a2)]) hx hb dX11_date_8 hl (by decide) rfl (fun ls hl => ?_)
    refine lv_aloadN hx hb dX11_date_10 (lv_at hl 0 rfl) ?_
    refine lv_ifnullN (tgt := 33) hx hb dX11_date_12 (by decide) ?_
    refine lv_ldc2 (v := (-1)) hx hb hown (htw _ (ck_34 _ (List.mem_of_getElem? (i := 14) rfl))) dX11_date_33 ?_
    exact W.lret (v := (-1)) hx hb hr (fun t ht hW => ⟨(-1), rfl, (Eq.symm ((by rw [fx_date]; (try rw [if_pos hz_2]); try rfl))), ht⟩) (fun _ h => by cases h) dX11_date_36
  · obtain rfl : r_1 = some (La a0.toNatClampNeg) := by rw [hw, if_neg hz_2]
    have hP : va_P (dC, dI) vwCl [(eO11a x pa bk xsp xdy le xst xsc xim xil xik xmo xom wi), (eO0a bk bto bnm bla bsk bru bbo bdi bda bdk bdt bdp bno), (eA0 bto cTo 5 fTo), (eA4 bla cLa 4 (fun k => some (La k))), (eO1a (La 0) (FI 0) (GR 0) (FR 0)), (eO1a (La 1) (FI 1) (GR 1) (FR 1)), (eO1a (La 2) (FI 2) (GR 2) (FR 2)), (eO1a (La 3) (FI 3) (GR 3) (FR 3)), ((La a0.toNatClampNeg), .inr (1, [.int (FI a0.toNatClampNeg), .int (GR a0.toNatClampNeg), .int (FR a0.toNatClampNeg)]))] s.heap := xb_P4 hP (fun k => (La k, .inr (1, [.int (FI k), .int (GR k), .int (FR k)]))) 4 rfl rfl rfl rfl (i := a0) (xg_inr (N := 4) rfl (fb_landIn hz_2).1 (fb_landIn hz_2).2)
    refine W.eq (g2 := F0 m 8 ls [.ref (La a0.toNatClampNeg)]) rfl ?_
    refine lv_astore (lv' := [(5, .ref (La a0.toNatClampNeg)), (0, .ref x), (1, .int a0), (2, .long a1), (4, .int a2)]) hx hb dX11_date_8 hl (by decide) rfl (fun ls hl => ?_)
    refine lv_aload hx hb dX11_date_10 (lv_at hl 0 rfl) ?_
    refine lv_ifnull hx hb dX11_date_12 ?_
    refine lv_lload_n hx hb dX11_date_15 rfl (lv_at hl 3 rfl) ?_
    have hPc := hP.sub (ws' := []) [] rfl
    have hKc := hK.sub (tys' := []) [] rfl
    refine vp_callSi (W.runS (As := [.long a1]) (rest := []) ⟨hx, hb, hml, hown, htw⟩ (gx_isCount l dC dI a1) (va_cwS 1 htw (xg_S (ck_35 _ (List.mem_of_getElem? (i := 11) rfl)) (ck_35 _ (List.mem_of_getElem? (i := 12) rfl)) (ck_1 _ (List.mem_of_getElem? (i := 2) rfl)) (ck_35 _ (List.mem_of_getElem? (i := 13) rfl))) rfl rfl rfl (by exact ⟨hdc_8.1, hdc_8.2, hdd_1⟩) ⟨Nat.le_of_ble_eq_true rfl, Nat.le_of_ble_eq_true rfl⟩) ⟨fun a U g mk q => by obtain ⟨q0, qP, qK⟩ := q; exact ⟨q0, qP, va_K.moved (u := U) (U := U.calling g mk a) (Vm.Alike.refl U.vm) qK⟩, fun U hU hW => ⟨rfl, by rw [hU]; exact hPc, va_K.moved hW.alike hKc⟩⟩ rfl rfl hl.1 rfl (lv_room (Nat.le_of_ble_eq_true rfl)) dX11_date_16 ⟨Nat.le_of_ble_eq_true rfl, Nat.le_of_ble_eq_true rfl⟩) (fun r_3 hw => ?_)
    try dsimp only at hw
    have hq_r_3 : r_3 = fx_isCount a1 := hw
    refine lv_if_eq (tgt := 33) hx hb dX11_date_19 (by decide) (fun c_4 => ?_) (fun c_4 => ?_)
    · refine lv_ldc2 (v := (-1)) hx hb hown (htw _ (ck_34 _ (List.mem_of_getElem? (i := 14) rfl))) dX11_date_33 ?_
      exact W.lret (v := (-1)) hx hb hr (fun t ht hW => ⟨(-1), rfl, (Eq.symm ((by rw [fx_date]; (try rw [if_neg hz_2]); (try rw [← hq_r_3]); (try rw [xL_eq]); (try rw [if_pos c_4]); try rfl))), ht⟩) (fun _ h => by cases h) dX11_date_36
    · refine lv_iload hx hb dX11_date_22 (lv_at hl 4 rfl) ?_
      refine lv_if_lt (tgt := 33) hx hb dX11_date_24 (by decide) (fun c_5 => ?_) (fun c_5 => ?_)
      · refine lv_ldc2 (v := (-1)) hx hb hown (htw _ (ck_34 _ (List.mem_of_getElem? (i := 14) rfl))) dX11_date_33 ?_
        exact W.lret (v := (-1)) hx hb hr (fun t ht hW => ⟨(-1), rfl, (Eq.symm ((by rw [fx_date]; (try rw [if_neg hz_2]); (try rw [← hq_r_3]); (try rw [xL_eq]); (try rw [if_neg c_4]); (try rw [if_pos c_5]); try rfl))), ht⟩) (fun _ h => by cases h) dX11_date_36
      · refine lv_iload hx hb dX11_date_27 (lv_at hl 4 rfl) ?_
        refine lv_iconst (v := 1) hx hb dX11_date_29 (by decide) ?_
        refine lv_icmp_le (tgt := 37) hx hb dX11_date_30 (by decide) (fun c_6 => ?_) (fun c_6 => ?_)
        · refine lv_aload hx hb dX11_date_37 (lv_at hl 0 rfl) ?_
          refine lv_lload_n hx hb dX11_date_39 rfl (lv_at hl 3 rfl) ?_
          have hPc := hP.sub (ws' := [((La a0.toNatClampNeg), .inr (1, [.int (FI a0.toNatClampNeg), .int (GR a0.toNatClampNeg), .int (FR a0.toNatClampNeg)]))]) [8] rfl
          have hKc := hK.sub (tys' := []) [] rfl
          refine vp_callSl (W.runV (As := [.long a1]) (rest := []) ⟨hx, hb, hml, hown, htw⟩ (gl_yearOf l dC dI (La a0.toNatClampNeg) (FI a0.toNatClampNeg) (GR a0.toNatClampNeg) (FR a0.toNatClampNeg) a1) (cwV 1 htw (xg_V (ck_35 _ (List.mem_of_getElem? (i := 15) rfl)) (ck_35 _ (List.mem_of_getElem? (i := 16) rfl)) (ck_35 _ (List.mem_of_getElem? (i := 17) rfl)) (ck_6 _ (List.mem_of_getElem? (i := 19) rfl)) (ck_35 _ (List.mem_of_getElem? (i := 18) rfl))) rfl rfl rfl (by exact ⟨rfl, hdc_0.1, hdc_0.2, hdd_0⟩) ⟨Nat.le_of_ble_eq_true rfl, Nat.le_of_ble_eq_true rfl⟩) ⟨fun a U g mk q => by obtain ⟨q0, qP, qK, qx⟩ := q; exact ⟨q0, qP, va_K.moved (u := U) (U := U.calling g mk a) (Vm.Alike.refl U.vm) qK, xN.calling qx⟩, va_recv hKc hPc (ci := 1) (q0 := 0) rfl rfl, fun U hU hW => ⟨rfl, by rw [hU]; exact hPc, va_K.moved hW.alike hKc, xN.warm hW hNx⟩⟩ rfl rfl hl.1 rfl (lv_room (Nat.le_of_ble_eq_true rfl)) dX11_date_40 ⟨Nat.le_of_ble_eq_true rfl, Nat.le_of_ble_eq_true rfl⟩) (fun r_7 hw => ?_)
          try dsimp only at hw
          have hq_r_7 : r_7 = fl_yearOf (FI a0.toNatClampNeg) (GR a0.toNatClampNeg) (FR a0.toNatClampNeg) a1 := hw
          refine lv_lstore (lv' := [(6, .long r_7), (5, .ref (La a0.toNatClampNeg)), (0, .ref x), (1, .int a0), (2, .long a1), (4, .int a2)]) hx hb dX11_date_43 hl (by decide) rfl (fun ls hl => ?_)
          refine lv_lload hx hb dX11_date_45 (lv_at hl 0 rfl) ?_
          refine lv_lconst (v := 0) hx hb dX11_date_47 (by decide) ?_
          refine W.lcmp hx hb dX11_date_48 ?_
          refine lv_if_ne (tgt := 56) hx hb dX11_date_49 (by decide) (fun c_8 => ?_) (fun c_8 => ?_)
          · refine lv_iload hx hb dX11_date_56 (lv_at hl 5 rfl) ?_
            refine lv_if_ne (tgt := 66) hx hb dX11_date_58 (by decide) (fun c_9 => ?_) (fun c_9 => ?_)
            · refine lv_lload_n hx hb dX11_date_66 rfl (lv_at hl 4 rfl) ?_
              refine lv_aload hx hb dX11_date_67 (lv_at hl 1 rfl) ?_
              refine lv_lload hx hb dX11_date_69 (lv_at hl 0 rfl) ?_
              have hPc := hP.sub (ws' := [((La a0.toNatClampNeg), .inr (1, [.int (FI a0.toNatClampNeg), .int (GR a0.toNatClampNeg), .int (FR a0.toNatClampNeg)]))]) [8] rfl
              have hKc := hK.sub (tys' := []) [] rfl
              refine vp_callSl (W.runV (As := [.long r_7]) (rest := [.long a1]) ⟨hx, hb, hml, hown, htw⟩ (gl_beginOf l dC dI (La a0.toNatClampNeg) (FI a0.toNatClampNeg) (GR a0.toNatClampNeg) (FR a0.toNatClampNeg) r_7) (cwV 1 htw (xg_V (ck_36 _ (List.mem_of_getElem? (i := 1) rfl)) (ck_21 _ (List.mem_of_getElem? (i := 21) rfl)) (ck_21 _ (List.mem_of_getElem? (i := 22) rfl)) (ck_6 _ (List.mem_of_getElem? (i := 19) rfl)) (ck_21 _ (List.mem_of_getElem? (i := 23) rfl))) rfl rfl rfl (by exact ⟨rfl, hdc_0.1, hdc_0.2, hdd_0⟩) ⟨Nat.le_of_ble_eq_true rfl, Nat.le_of_ble_eq_true rfl⟩) ⟨fun a U g mk q => by obtain ⟨q0, qP, qK⟩ := q; exact ⟨q0, qP, va_K.moved (u := U) (U := U.calling g mk a) (Vm.Alike.refl U.vm) qK⟩, va_recv hKc hPc (ci := 1) (q0 := 0) rfl rfl, fun U hU hW => ⟨rfl, by rw [hU]; exact hPc, va_K.moved hW.alike hKc⟩⟩ rfl rfl hl.1 rfl (lv_room (Nat.le_of_ble_eq_true rfl)) dX11_date_71 ⟨Nat.le_of_ble_eq_true rfl, Nat.le_of_ble_eq_true rfl⟩) (fun r_10 hw => ?_)
              try dsimp only at hw
              have hq_r_10 : r_10 = fl_beginOf (FI a0.toNatClampNeg) (GR a0.toNatClampNeg) (FR a0.toNatClampNeg) r_7 := hw
              refine lv_lsub hx hb dX11_date_74 ?_
              refine lv_lconst (v := 1) hx hb dX11_date_75 (by decide) ?_
              refine lv_ladd hx hb dX11_date_76 ?_
              exact W.lret (v := ((a1 - r_10) + 1)) hx hb hr (fun t ht hW => ⟨((a1 - r_10) + 1), rfl, (Eq.symm ((by rw [fx_date]; (try rw [if_neg hz_2]); (try rw [← hq_r_3]); (try rw [xL_eq]); (try rw [if_neg c_4]); (try rw [if_neg c_5]); (try rw [if_pos c_6]); (try rw [← hq_r_7]); (try rw [xL_eq]); (try rw [if_neg c_8]); (try rw [if_neg c_9]); (try rw [← hq_r_10]); (try rw [xL_eq]); try rfl))), ht⟩) (fun _ h => by cases h) dX11_date_77
            · refine lv_lload hx hb dX11_date_61 (lv_at hl 0 rfl) ?_
              refine lv_goto (tgt := 77) hx hb dX11_date_63 (by decide) ?_
              exact W.lret (v := r_7) hx hb hr (fun t ht hW => ⟨r_7, rfl, (Eq.symm ((by rw [fx_date]; (try rw [if_neg hz_2]); (try rw [← hq_r_3]); (try rw [xL_eq]); (try rw [if_neg c_4]); (try rw [if_neg c_5]); (try rw [if_pos c_6]); (try rw [← hq_r_7]); (try rw [xL_eq]); (try rw [if_neg c_8]); (try rw [if_pos c_9]); try rfl))), ht⟩) (fun _ h => by cases h) dX11_date_77
          · refine lv_ldc2 (v := (-1)) hx hb hown (htw _ (ck_34 _ (List.mem_of_getElem? (i := 14) rfl))) dX11_date_52 ?_
            exact W.lret (v := (-1)) hx hb hr (fun t ht hW => ⟨(-1), rfl, (Eq.symm ((by rw [fx_date]; (try rw [if_neg hz_2]); (try rw [← hq_r_3]); (try rw [xL_eq]); (try rw [if_neg c_4]); (try rw [if_neg c_5]); (try rw [if_pos c_6]); (try rw [← hq_r_7]); (try rw [xL_eq]); (try rw [if_pos c_8]); try rfl))), ht⟩) (fun _ h => by cases h) dX11_date_55
        · refine lv_ldc2 (v := (-1)) hx hb hown (htw _ (ck_34 _ (List.mem_of_getElem? (i := 14) rfl))) dX11_date_33 ?_
          exact W.lret (v := (-1)) hx hb hr (fun t ht hW => ⟨(-1), rfl, (Eq.symm ((by rw [fx_date]; (try rw [if_neg hz_2]); (try rw [← hq_r_3]); (try rw [xL_eq]); (try rw [if_neg c_4]); (try rw [if_neg c_5]); (try rw [if_neg c_6]); try rfl))), ht⟩) (fun _ h => by cases h) dX11_date_36

def fx_count (fTo : Nat → Int32) (FI : Nat → Int32) (GR : Nat → Int32) (FR : Nat → Int32) (a0 : Int32) (a1 : Int32) (a2 : Int64) : Int64 := (if fb_landIs fTo a0 = 0 then (-1 : Int64) else (xL (fl_canBeAsked (FI a0.toNatClampNeg) (GR a0.toNatClampNeg) (FR a0.toNatClampNeg) a1.toInt64) (fun r_3 => (if r_3 = 0 then (-1 : Int64) else (xL (fl_countOf (FI a0.toNatClampNeg) (GR a0.toNatClampNeg) (FR a0.toNatClampNeg) a1.toInt64 a2) (fun r_5 => r_5))))))
theorem dX11_count_0 : decode cX11_count 0 = .ok (.aload_n 0, 1) := zk_42 (by decide +kernel)
theorem dX11_count_1 : decode cX11_count 1 = .ok (.getfield 19, 3) := zk_180 (by decide +kernel)
theorem dX11_count_4 : decode cX11_count 4 = .ok (.iload_n 1, 1) := zk_27 (by decide +kernel)
theorem dX11_count_5 : decode cX11_count 5 = .ok (.invokevirtual 112, 3) := zk_182 (by decide +kernel)
theorem dX11_count_8 : decode cX11_count 8 = .ok (.astore 5, 2) := zk_58 (by decide +kernel)
theorem dX11_count_10 : decode cX11_count 10 = .ok (.aload 5, 2) := zk_25 (by decide +kernel)
theorem dX11_count_12 : decode cX11_count 12 = .ok (.ifnull 13, 3) := zk_198 (by decide +kernel)
theorem dX11_count_25 : decode cX11_count 25 = .ok (.ldc2_w 143, 3) := zk_20 (by decide +kernel)
theorem dX11_count_28 : decode cX11_count 28 = .ok (.lreturn, 1) := zk_173 (by decide +kernel)
theorem dX11_count_15 : decode cX11_count 15 = .ok (.aload 5, 2) := zk_25 (by decide +kernel)
theorem dX11_count_17 : decode cX11_count 17 = .ok (.iload_n 2, 1) := zk_28 (by decide +kernel)
theorem dX11_count_18 : decode cX11_count 18 = .ok (.i2l, 1) := zk_133 (by decide +kernel)
theorem dX11_count_19 : decode cX11_count 19 = .ok (.invokevirtual 139, 3) := zk_182 (by decide +kernel)
theorem dX11_count_22 : decode cX11_count 22 = .ok (.ifCond .ne 7, 3) := zk_154 (by decide +kernel)
theorem dX11_count_29 : decode cX11_count 29 = .ok (.aload 5, 2) := zk_25 (by decide +kernel)
theorem dX11_count_31 : decode cX11_count 31 = .ok (.iload_n 2, 1) := zk_28 (by decide +kernel)
theorem dX11_count_32 : decode cX11_count 32 = .ok (.i2l, 1) := zk_133 (by decide +kernel)
theorem dX11_count_33 : decode cX11_count 33 = .ok (.lload_n 3, 1) := zk_33 (by decide +kernel)
theorem dX11_count_34 : decode cX11_count 34 = .ok (.invokevirtual 158, 3) := zk_182 (by decide +kernel)
theorem dX11_count_37 : decode cX11_count 37 = .ok (.lreturn, 1) := zk_173 (by decide +kernel)
set_option maxHeartbeats 4000000 in
set_option maxRecDepth 100000 in
theorem gx_count (l : Launch) (dC : Nat → ClassId) (dI : Nat → Nat → Nat) (x : Nat) (pa : Nat) (bk : Nat) (xsp : Nat) (xdy : Nat) (le : Nat) (xst : Nat) (xsc : Int32) (xim : Nat) (xil : Nat) (xik : Int32) (xmo : Nat) (xom : Nat) (wi : Nat) (bto : Nat) (bnm : Nat) (bla : Nat) (bsk : Nat) (bru : Nat) (bbo : Nat) (bdi : Nat) (bda : Nat) (bdk : Nat) (bdt : Nat) (bdp : Nat) (bno : Nat) (cTo : ClassId) (fTo : Nat → Int32) (cLa : ClassId) (La : Nat → Nat) (FI : Nat → Int32) (GR : Nat → Int32) (FR : Nat → Int32) (a0 : Int32) (a1 : Int32) (a2 : Int64) : Met l yX11_count (Cond.code yX11_count cX11_count 6 (some .long) :: wsL_law) ({ frames := 3, cells := 0, slots := 0, locals := 66 }) (va_Pc [.ref x, .int a0, .int a1, .long a2] (fun U => va_P (dC, dI) vwCl [(eO11a x pa bk xsp xdy le xst xsc xim xil xik xmo xom wi), (eO0a bk bto bnm bla bsk bru bbo bdi bda bdk bdt bdp bno), (eA0 bto cTo 5 fTo), (eA4 bla cLa 4 (fun k => some (La k))), (eO1a (La 0) (FI 0) (GR 0) (FR 0)), (eO1a (La 1) (FI 1) (GR 1) (FR 1)), (eO1a (La 2) (FI 2) (GR 2) (FR 2)), (eO1a (La 3) (FI 3) (GR 3) (FR 3))] U.heap ∧ va_K (dC, dI) vwCl [(cTo, .int), (cLa, .object RX1)] U)) (vp_Sl (fun r => r = fx_count fTo FI GR FR a0 a1 a2)) 0 0 (fun _ => False) := by
  refine Met.ofW (cc := cX11_count) (maxL := 6) (ret := (some .long)) (by decide) rfl ?_
  intro p e s m args below meth c s₁ B hml hv
  obtain ⟨rfl, hP, hK⟩ := hv
  have hx := B.exec
  have hb := B.bytes
  have hr := B.returns
  have hts := atoms_spec (ws := Cond.code yX11_count cX11_count 6 (some .long) :: wsL_law) B.pre
  have htw : ∀ w ∈ wsL_law, w.before _ s = true := fun w h => hts w (List.mem_cons_of_mem _ h)
  have hown : s.vm.findClass RX11 = some m.cls := findClass_of_methodNamed B.named
  have hlocks := B.notSynchronized
  have hl := lv_entry ([.ref x, .int a0, .int a1, .long a2]) (n := 6) (Nat.le_of_ble_eq_true rfl)
  rw [lg_entry_eq]
  generalize (lg_sl ([.ref x, .int a0, .int a1, .long a2]) ++ List.replicate (6 - (lg_sl ([.ref x, .int a0, .int a1, .long a2])).length) Slot.unset).toArray = ls at hl ⊢
  have hl : lv_has ls 6 [(0, .ref x), (1, .int a0), (2, .int a1), (3, .long a2)] := hl
  refine lv_aload_n hx hb dX11_count_0 rfl (lv_at hl 0 rfl) ?_
  refine va_get (D := (dC, dI)) (ci := 11) (v := .ref bk) (C := RX11) (T := TX11) (N := 13) hx hb htw inlX11 hown hK hP 0 rfl rfl 1 (by decide) (htw _ (ck_1 _ (List.mem_of_getElem? (i := 21) rfl))) (fun _ h9 => h9) rfl dX11_count_1 ?_
  refine lv_iload_n hx hb dX11_count_4 rfl (lv_at hl 1 rfl) ?_
  have hPc := hP.sub (ws' := [(eO0a bk bto bnm bla bsk bru bbo bdi bda bdk bdt bdp bno), (eA0 bto cTo 5 fTo), (eA4 bla cLa 4 (fun k => some (La k)))]) [1, 2, 3] rfl
  have hKc := hK.sub (tys' := [(cTo, .int), (cLa, .object RX1)]) [0, 1] rfl
  refine va_csq (W.runV (As := [.int a0]) (rest := []) ⟨hx, hb, hml, hown, htw⟩ (gb_landAt l dC dI bk bto bnm bla bsk bru bbo bdi bda bdk bdt bdp bno cTo fTo cLa La a0) (cwV 1 htw (xg_V (ck_33 _ (List.mem_of_getElem? (i := 21) rfl)) (ck_20 _ (List.mem_of_getElem? (i := 22) rfl)) (ck_20 _ (List.mem_of_getElem? (i := 23) rfl)) (ck_1 _ (List.mem_of_getElem? (i := 20) rfl)) (ck_21 _ (List.mem_of_getElem? (i := 0) rfl))) rfl rfl rfl (by exact ⟨rfl, hdc_6.1, hdc_6.2, hdd_15⟩) ⟨Nat.le_of_ble_eq_true rfl, Nat.le_of_ble_eq_true rfl⟩) ⟨fun a U g mk q => by obtain ⟨q0, qP, qK⟩ := q; exact ⟨q0, qP, va_K.moved (u := U) (U := U.calling g mk a) (Vm.Alike.refl U.vm) qK⟩, va_recv hKc hPc (ci := 0) (q0 := 0) rfl rfl, fun U hU hW => ⟨rfl, by rw [hU]; exact hPc, va_K.moved hW.alike hKc⟩⟩ rfl rfl hl.1 rfl (lv_room (Nat.le_of_ble_eq_true rfl)) dX11_count_5 ⟨Nat.le_of_ble_eq_true rfl, Nat.le_of_ble_eq_true rfl⟩) (fun r_1 hw => ?_)
  try dsimp only at hw
  by_cases hz_2 : fb_landIs fTo a0 = 0
  · obtain rfl : r_1 = none := by rw [hw, if_pos hz_2]
    refine W.eq (g2 := F0 m 8 ls [.null]) rfl ?_
    refine lv_astoreN (lv' := [(5, .null), (0, .ref x), (1, .int a0), (2, .int a1), (3, .long a2)]) hx hb dX11_count_8 hl (by decide) rfl (fun ls hl => ?_)
    refine lv_aloadN hx hb dX11_count_10 (lv_at hl 0 rfl) ?_
    refine lv_ifnullN (tgt := 25) hx hb dX11_count_12 (by decide) ?_
    refine lv_ldc2 (v := (-1)) hx hb hown (htw _ (ck_34 _ (List.mem_of_getElem? (i := 14) rfl))) dX11_count_25 ?_
    exact W.lret (v := (-1)) hx hb hr (fun t ht hW => ⟨(-1), rfl, (Eq.symm ((by rw [fx_count]; (try rw [if_pos hz_2]); try rfl))), ht⟩) (fun _ h => by cases h) dX11_count_28
  · obtain rfl : r_1 = some (La a0.toNatClampNeg) := by rw [hw, if_neg hz_2]
    have hP : va_P (dC, dI) vwCl [(eO11a x pa bk xsp xdy le xst xsc xim xil xik xmo xom wi), (eO0a bk bto bnm bla bsk bru bbo bdi bda bdk bdt bdp bno), (eA0 bto cTo 5 fTo), (eA4 bla cLa 4 (fun k => some (La k))), (eO1a (La 0) (FI 0) (GR 0) (FR 0)), (eO1a (La 1) (FI 1) (GR 1) (FR 1)), (eO1a (La 2) (FI 2) (GR 2) (FR 2)), (eO1a (La 3) (FI 3) (GR 3) (FR 3)), ((La a0.toNatClampNeg), .inr (1, [.int (FI a0.toNatClampNeg), .int (GR a0.toNatClampNeg), .int (FR a0.toNatClampNeg)]))] s.heap := xb_P4 hP (fun k => (La k, .inr (1, [.int (FI k), .int (GR k), .int (FR k)]))) 4 rfl rfl rfl rfl (i := a0) (xg_inr (N := 4) rfl (fb_landIn hz_2).1 (fb_landIn hz_2).2)
    refine W.eq (g2 := F0 m 8 ls [.ref (La a0.toNatClampNeg)]) rfl ?_
    refine lv_astore (lv' := [(5, .ref (La a0.toNatClampNeg)), (0, .ref x), (1, .int a0), (2, .int a1), (3, .long a2)]) hx hb dX11_count_8 hl (by decide) rfl (fun ls hl => ?_)
    refine lv_aload hx hb dX11_count_10 (lv_at hl 0 rfl) ?_
    refine lv_ifnull hx hb dX11_count_12 ?_
    refine lv_aload hx hb dX11_count_15 (lv_at hl 0 rfl) ?_
    refine lv_iload_n hx hb dX11_count_17 rfl (lv_at hl 3 rfl) ?_
    refine lv_i2l (v := a1.toInt64) hx hb dX11_count_18 rfl ?_
    have hPc := hP.sub (ws' := [((La a0.toNatClampNeg), .inr (1, [.int (FI a0.toNatClampNeg), .int (GR a0.toNatClampNeg), .int (FR a0.toNatClampNeg)]))]) [8] rfl
    have hKc := hK.sub (tys' := []) [] rfl
    refine vp_callSi (W.runV (As := [.long a1.toInt64]) (rest := []) ⟨hx, hb, hml, hown, htw⟩ (gl_canBeAsked l dC dI (La a0.toNatClampNeg) (FI a0.toNatClampNeg) (GR a0.toNatClampNeg) (FR a0.toNatClampNeg) a1.toInt64) (cwV 1 htw (xg_V (ck_34 _ (List.mem_of_getElem? (i := 15) rfl)) (ck_34 _ (List.mem_of_getElem? (i := 16) rfl)) (ck_34 _ (List.mem_of_getElem? (i := 17) rfl)) (ck_6 _ (List.mem_of_getElem? (i := 19) rfl)) (ck_34 _ (List.mem_of_getElem? (i := 18) rfl))) rfl rfl rfl (by exact ⟨rfl, hdc_0.1, hdc_0.2, hdd_1⟩) ⟨Nat.le_of_ble_eq_true rfl, Nat.le_of_ble_eq_true rfl⟩) ⟨fun a U g mk q => by obtain ⟨q0, qP, qK⟩ := q; exact ⟨q0, qP, va_K.moved (u := U) (U := U.calling g mk a) (Vm.Alike.refl U.vm) qK⟩, va_recv hKc hPc (ci := 1) (q0 := 0) rfl rfl, fun U hU hW => ⟨rfl, by rw [hU]; exact hPc, va_K.moved hW.alike hKc⟩⟩ rfl rfl hl.1 rfl (lv_room (Nat.le_of_ble_eq_true rfl)) dX11_count_19 ⟨Nat.le_of_ble_eq_true rfl, Nat.le_of_ble_eq_true rfl⟩) (fun r_3 hw => ?_)
    try dsimp only at hw
    have hq_r_3 : r_3 = fl_canBeAsked (FI a0.toNatClampNeg) (GR a0.toNatClampNeg) (FR a0.toNatClampNeg) a1.toInt64 := hw
    refine lv_if_ne (tgt := 29) hx hb dX11_count_22 (by decide) (fun c_4 => ?_) (fun c_4 => ?_)
    · refine lv_aload hx hb dX11_count_29 (lv_at hl 0 rfl) ?_
      refine lv_iload_n hx hb dX11_count_31 rfl (lv_at hl 3 rfl) ?_
      refine lv_i2l (v := a1.toInt64) hx hb dX11_count_32 rfl ?_
      refine lv_lload_n hx hb dX11_count_33 rfl (lv_at hl 4 rfl) ?_
      have hPc := hP.sub (ws' := [((La a0.toNatClampNeg), .inr (1, [.int (FI a0.toNatClampNeg), .int (GR a0.toNatClampNeg), .int (FR a0.toNatClampNeg)]))]) [8] rfl
      have hKc := hK.sub (tys' := []) [] rfl
      refine vp_callSl (W.runV (As := [.long a1.toInt64, .long a2]) (rest := []) ⟨hx, hb, hml, hown, htw⟩ (gl_countOf l dC dI (La a0.toNatClampNeg) (FI a0.toNatClampNeg) (GR a0.toNatClampNeg) (FR a0.toNatClampNeg) a1.toInt64 a2) (cwV 2 htw (xg_V (ck_36 _ (List.mem_of_getElem? (i := 23) rfl)) (ck_21 _ (List.mem_of_getElem? (i := 15) rfl)) (ck_21 _ (List.mem_of_getElem? (i := 16) rfl)) (ck_6 _ (List.mem_of_getElem? (i := 19) rfl)) (ck_21 _ (List.mem_of_getElem? (i := 17) rfl))) rfl rfl rfl (by exact ⟨rfl, hdc_0.1, hdc_0.2, hdd_4⟩) ⟨Nat.le_of_ble_eq_true rfl, Nat.le_of_ble_eq_true rfl⟩) ⟨fun a U g mk q => by obtain ⟨q0, qP, qK⟩ := q; exact ⟨q0, qP, va_K.moved (u := U) (U := U.calling g mk a) (Vm.Alike.refl U.vm) qK⟩, va_recv hKc hPc (ci := 1) (q0 := 0) rfl rfl, fun U hU hW => ⟨rfl, by rw [hU]; exact hPc, va_K.moved hW.alike hKc⟩⟩ rfl rfl hl.1 rfl (lv_room (Nat.le_of_ble_eq_true rfl)) dX11_count_34 ⟨Nat.le_of_ble_eq_true rfl, Nat.le_of_ble_eq_true rfl⟩) (fun r_5 hw => ?_)
      try dsimp only at hw
      have hq_r_5 : r_5 = fl_countOf (FI a0.toNatClampNeg) (GR a0.toNatClampNeg) (FR a0.toNatClampNeg) a1.toInt64 a2 := hw
      exact W.lret (v := r_5) hx hb hr (fun t ht hW => ⟨r_5, rfl, (Eq.symm ((by rw [fx_count]; (try rw [if_neg hz_2]); (try rw [← hq_r_3]); (try rw [xL_eq]); (try rw [if_neg c_4]); (try rw [← hq_r_5]); (try rw [xL_eq]); try rfl))), ht⟩) (fun _ h => by cases h) dX11_count_37
    · refine lv_ldc2 (v := (-1)) hx hb hown (htw _ (ck_34 _ (List.mem_of_getElem? (i := 14) rfl))) dX11_count_25 ?_
      exact W.lret (v := (-1)) hx hb hr (fun t ht hW => ⟨(-1), rfl, (Eq.symm ((by rw [fx_count]; (try rw [if_neg hz_2]); (try rw [← hq_r_3]); (try rw [xL_eq]); (try rw [if_pos c_4]); try rfl))), ht⟩) (fun _ h => by cases h) dX11_count_28

def fx_round (wd : Int32) (wf : Int32) (mp : Int32) (mb : Int32) (mo : Int32) (sp : Int32) (sb : Int32) (a0 : Int64) (a1 : Int32) : Int32 := (xL (fx_isCount a0) (fun r_1 => (if r_1 = 0 then (-1 : Int32) else (if a1 = 0 then (xL (fs_weekDayOf wd wf mp mb mo sp sb a0) (fun r_4 => r_4)) else (if a1 = 1 then (xL (fs_moonOf wd wf mp mb mo sp sb a0) (fun r_6 => r_6)) else (if a1 = 2 then (xL (fs_seasonOf wd wf mp mb mo sp sb a0) (fun r_8 => r_8)) else (-1 : Int32)))))))
theorem dX11_round_0 : decode cX11_round 0 = .ok (.lload_n 1, 1) := zk_31 (by decide +kernel)
theorem dX11_round_1 : decode cX11_round 1 = .ok (.invokestatic 149, 3) := zk_184 (by decide +kernel)
theorem dX11_round_4 : decode cX11_round 4 = .ok (.ifCond .ne 5, 3) := zk_154 (by decide +kernel)
theorem dX11_round_9 : decode cX11_round 9 = .ok (.iload_n 3, 1) := zk_29 (by decide +kernel)
theorem dX11_round_10 : decode cX11_round 10 = .ok (.tableswitch 62 0 2 #[26, 38, 50], 26) := by decide +kernel
theorem dX11_round_36 : decode cX11_round 36 = .ok (.aload_n 0, 1) := zk_42 (by decide +kernel)
theorem dX11_round_37 : decode cX11_round 37 = .ok (.getfield 19, 3) := zk_180 (by decide +kernel)
theorem dX11_round_40 : decode cX11_round 40 = .ok (.getfield 162, 3) := zk_180 (by decide +kernel)
theorem dX11_round_43 : decode cX11_round 43 = .ok (.lload_n 1, 1) := zk_31 (by decide +kernel)
theorem dX11_round_44 : decode cX11_round 44 = .ok (.invokevirtual 166, 3) := zk_182 (by decide +kernel)
theorem dX11_round_47 : decode cX11_round 47 = .ok (.ireturn, 1) := zk_172 (by decide +kernel)
theorem dX11_round_48 : decode cX11_round 48 = .ok (.aload_n 0, 1) := zk_42 (by decide +kernel)
theorem dX11_round_49 : decode cX11_round 49 = .ok (.getfield 19, 3) := zk_180 (by decide +kernel)
theorem dX11_round_52 : decode cX11_round 52 = .ok (.getfield 162, 3) := zk_180 (by decide +kernel)
theorem dX11_round_55 : decode cX11_round 55 = .ok (.lload_n 1, 1) := zk_31 (by decide +kernel)
theorem dX11_round_56 : decode cX11_round 56 = .ok (.invokevirtual 172, 3) := zk_182 (by decide +kernel)
theorem dX11_round_59 : decode cX11_round 59 = .ok (.ireturn, 1) := zk_172 (by decide +kernel)
theorem dX11_round_60 : decode cX11_round 60 = .ok (.aload_n 0, 1) := zk_42 (by decide +kernel)
theorem dX11_round_61 : decode cX11_round 61 = .ok (.getfield 19, 3) := zk_180 (by decide +kernel)
theorem dX11_round_64 : decode cX11_round 64 = .ok (.getfield 162, 3) := zk_180 (by decide +kernel)
theorem dX11_round_67 : decode cX11_round 67 = .ok (.lload_n 1, 1) := zk_31 (by decide +kernel)
theorem dX11_round_68 : decode cX11_round 68 = .ok (.invokevirtual 175, 3) := zk_182 (by decide +kernel)
theorem dX11_round_71 : decode cX11_round 71 = .ok (.ireturn, 1) := zk_172 (by decide +kernel)
theorem dX11_round_72 : decode cX11_round 72 = .ok (.iconst (-1), 1) := zk_2 (by decide +kernel)
theorem dX11_round_73 : decode cX11_round 73 = .ok (.ireturn, 1) := zk_172 (by decide +kernel)
theorem dX11_round_7 : decode cX11_round 7 = .ok (.iconst (-1), 1) := zk_2 (by decide +kernel)
theorem dX11_round_8 : decode cX11_round 8 = .ok (.ireturn, 1) := zk_172 (by decide +kernel)
set_option maxHeartbeats 4000000 in
set_option maxRecDepth 100000 in
theorem gx_round (l : Launch) (dC : Nat → ClassId) (dI : Nat → Nat → Nat) (x : Nat) (pa : Nat) (bk : Nat) (xsp : Nat) (xdy : Nat) (le : Nat) (xst : Nat) (xsc : Int32) (xim : Nat) (xil : Nat) (xik : Int32) (xmo : Nat) (xom : Nat) (wi : Nat) (bto : Nat) (bnm : Nat) (bla : Nat) (bsk : Nat) (bru : Nat) (bbo : Nat) (bdi : Nat) (bda : Nat) (bdk : Nat) (bdt : Nat) (bdp : Nat) (bno : Nat) (wd : Int32) (wf : Int32) (mp : Int32) (mb : Int32) (mo : Int32) (sp : Int32) (sb : Int32) (a0 : Int64) (a1 : Int32) : Met l yX11_round (Cond.code yX11_round cX11_round 4 (some .int) :: wsL_law) ({ frames := 1, cells := 0, slots := 0, locals := 22 }) (va_Pc [.ref x, .long a0, .int a1] (fun U => va_P (dC, dI) vwCl [(eO11a x pa bk xsp xdy le xst xsc xim xil xik xmo xom wi), (eO0a bk bto bnm bla bsk bru bbo bdi bda bdk bdt bdp bno), (eO9a bsk wd wf mp mb mo sp sb)] U.heap ∧ va_K (dC, dI) vwCl [] U)) (vp_Si (fun r => r = fx_round wd wf mp mb mo sp sb a0 a1)) 0 0 (fun _ => False) := by
  refine Met.ofW (cc := cX11_round) (maxL := 4) (ret := (some .int)) (by decide) rfl ?_
  intro p e s m args below meth c s₁ B hml hv
  obtain ⟨rfl, hP, hK⟩ := hv
  have hx := B.exec
  have hb := B.bytes
  have hr := B.returns
  have hts := atoms_spec (ws := Cond.code yX11_round cX11_round 4 (some .int) :: wsL_law) B.pre
  have htw : ∀ w ∈ wsL_law, w.before _ s = true := fun w h => hts w (List.mem_cons_of_mem _ h)
  have hown : s.vm.findClass RX11 = some m.cls := findClass_of_methodNamed B.named
  have hlocks := B.notSynchronized
  have hl := lv_entry ([.ref x, .long a0, .int a1]) (n := 4) (Nat.le_of_ble_eq_true rfl)
  rw [lg_entry_eq]
  generalize (lg_sl ([.ref x, .long a0, .int a1]) ++ List.replicate (4 - (lg_sl ([.ref x, .long a0, .int a1])).length) Slot.unset).toArray = ls at hl ⊢
  have hl : lv_has ls 4 [(0, .ref x), (1, .long a0), (3, .int a1)] := hl
  refine lv_lload_n hx hb dX11_round_0 rfl (lv_at hl 1 rfl) ?_
  have hPc := hP.sub (ws' := []) [] rfl
  have hKc := hK.sub (tys' := []) [] rfl
  refine vp_callSi (W.runS (As := [.long a0]) (rest := []) ⟨hx, hb, hml, hown, htw⟩ (gx_isCount l dC dI a0) (va_cwS 1 htw (xg_S (ck_35 _ (List.mem_of_getElem? (i := 11) rfl)) (ck_35 _ (List.mem_of_getElem? (i := 12) rfl)) (ck_1 _ (List.mem_of_getElem? (i := 2) rfl)) (ck_35 _ (List.mem_of_getElem? (i := 13) rfl))) rfl rfl rfl (by exact ⟨hdc_8.1, hdc_8.2, hdd_1⟩) ⟨Nat.le_of_ble_eq_true rfl, Nat.le_of_ble_eq_true rfl⟩) ⟨fun a U g mk q => by obtain ⟨q0, qP, qK⟩ := q; exact ⟨q0, qP, va_K.moved (u := U) (U := U.calling g mk a) (Vm.Alike.refl U.vm) qK⟩, fun U hU hW => ⟨rfl, by rw [hU]; exact hPc, va_K.moved hW.alike hKc⟩⟩ rfl rfl hl.1 rfl (lv_room (Nat.le_of_ble_eq_true rfl)) dX11_round_1 ⟨Nat.le_of_ble_eq_true rfl, Nat.le_of_ble_eq_true rfl⟩) (fun r_1 hw => ?_)
  try dsimp only at hw
  have hq_r_1 : r_1 = fx_isCount a0 := hw
  refine lv_if_ne (tgt := 9) hx hb dX11_round_4 (by decide) (fun c_2 => ?_) (fun c_2 => ?_)
  · refine lv_iload_n hx hb dX11_round_9 rfl (lv_at hl 2 rfl) ?_
    by_cases h_3 : a1 = 0
    · subst h_3
      refine lv_tableIn (off := 26) (tgt := 36) hx hb dX11_round_10 (by decide) (by decide) (by decide) (by decide) ?_
      refine lv_aload_n hx hb dX11_round_36 rfl (lv_at hl 0 rfl) ?_
      refine va_get (D := (dC, dI)) (ci := 11) (v := .ref bk) (C := RX11) (T := TX11) (N := 13) hx hb htw inlX11 hown hK hP 0 rfl rfl 1 (by decide) (htw _ (ck_1 _ (List.mem_of_getElem? (i := 21) rfl))) (fun _ h9 => h9) rfl dX11_round_37 ?_
      refine va_get (D := (dC, dI)) (ci := 0) (v := .ref bsk) (C := RX0) (T := TX0) (N := 12) hx hb htw inlX0 hown hK hP 1 rfl rfl 3 (by decide) (htw _ (ck_37 _ (List.mem_of_getElem? (i := 9) rfl))) (fun _ h9 => h9) rfl dX11_round_40 ?_
      refine lv_lload_n hx hb dX11_round_43 rfl (lv_at hl 1 rfl) ?_
      have hPc := hP.sub (ws' := [(eO9a bsk wd wf mp mb mo sp sb)]) [2] rfl
      have hKc := hK.sub (tys' := []) [] rfl
      refine vp_callSi (W.runV (As := [.long a0]) (rest := []) ⟨hx, hb, hml, hown, htw⟩ (gs_weekDayOf l dC dI bsk wd wf mp mb mo sp sb a0) (cwV 1 htw (xg_V (ck_37 _ (List.mem_of_getElem? (i := 10) rfl)) (ck_37 _ (List.mem_of_getElem? (i := 11) rfl)) (ck_37 _ (List.mem_of_getElem? (i := 12) rfl)) (ck_6 _ (List.mem_of_getElem? (i := 4) rfl)) (ck_37 _ (List.mem_of_getElem? (i := 13) rfl))) rfl rfl rfl (by exact ⟨rfl, hdc_2.1, hdc_2.2, hdd_6⟩) ⟨Nat.le_of_ble_eq_true rfl, Nat.le_of_ble_eq_true rfl⟩) ⟨fun a U g mk q => by obtain ⟨q0, qP, qK⟩ := q; exact ⟨q0, qP, va_K.moved (u := U) (U := U.calling g mk a) (Vm.Alike.refl U.vm) qK⟩, va_recv hKc hPc (ci := 9) (q0 := 0) rfl rfl, fun U hU hW => ⟨rfl, by rw [hU]; exact hPc, va_K.moved hW.alike hKc⟩⟩ rfl rfl hl.1 rfl (lv_room (Nat.le_of_ble_eq_true rfl)) dX11_round_44 ⟨Nat.le_of_ble_eq_true rfl, Nat.le_of_ble_eq_true rfl⟩) (fun r_4 hw => ?_)
      try dsimp only at hw
      have hq_r_4 : r_4 = fs_weekDayOf wd wf mp mb mo sp sb a0 := hw
      exact W.iret (v := r_4) hx hb hr (fun t ht hW => ⟨r_4, rfl, (Eq.symm ((by rw [fx_round]; (try rw [← hq_r_1]); (try rw [xL_eq]); (try rw [if_neg c_2]); (try rw [if_pos rfl]); (try rw [← hq_r_4]); (try rw [xL_eq]); try rfl))), ht⟩) (fun _ h => by cases h) dX11_round_47
    by_cases h_5 : a1 = 1
    · subst h_5
      refine lv_tableIn (off := 38) (tgt := 48) hx hb dX11_round_10 (by decide) (by decide) (by decide) (by decide) ?_
      refine lv_aload_n hx hb dX11_round_48 rfl (lv_at hl 0 rfl) ?_
      refine va_get (D := (dC, dI)) (ci := 11) (v := .ref bk) (C := RX11) (T := TX11) (N := 13) hx hb htw inlX11 hown hK hP 0 rfl rfl 1 (by decide) (htw _ (ck_1 _ (List.mem_of_getElem? (i := 21) rfl))) (fun _ h9 => h9) rfl dX11_round_49 ?_
      refine va_get (D := (dC, dI)) (ci := 0) (v := .ref bsk) (C := RX0) (T := TX0) (N := 12) hx hb htw inlX0 hown hK hP 1 rfl rfl 3 (by decide) (htw _ (ck_37 _ (List.mem_of_getElem? (i := 9) rfl))) (fun _ h9 => h9) rfl dX11_round_52 ?_
      refine lv_lload_n hx hb dX11_round_55 rfl (lv_at hl 1 rfl) ?_
      have hPc := hP.sub (ws' := [(eO9a bsk wd wf mp mb mo sp sb)]) [2] rfl
      have hKc := hK.sub (tys' := []) [] rfl
      refine vp_callSi (W.runV (As := [.long a0]) (rest := []) ⟨hx, hb, hml, hown, htw⟩ (gs_moonOf l dC dI bsk wd wf mp mb mo sp sb a0) (cwV 1 htw (xg_V (ck_37 _ (List.mem_of_getElem? (i := 14) rfl)) (ck_37 _ (List.mem_of_getElem? (i := 15) rfl)) (ck_37 _ (List.mem_of_getElem? (i := 16) rfl)) (ck_6 _ (List.mem_of_getElem? (i := 4) rfl)) (ck_37 _ (List.mem_of_getElem? (i := 17) rfl))) rfl rfl rfl (by exact ⟨rfl, hdc_2.1, hdc_2.2, hdd_6⟩) ⟨Nat.le_of_ble_eq_true rfl, Nat.le_of_ble_eq_true rfl⟩) ⟨fun a U g mk q => by obtain ⟨q0, qP, qK⟩ := q; exact ⟨q0, qP, va_K.moved (u := U) (U := U.calling g mk a) (Vm.Alike.refl U.vm) qK⟩, va_recv hKc hPc (ci := 9) (q0 := 0) rfl rfl, fun U hU hW => ⟨rfl, by rw [hU]; exact hPc, va_K.moved hW.alike hKc⟩⟩ rfl rfl hl.1 rfl (lv_room (Nat.le_of_ble_eq_true rfl)) dX11_round_56 ⟨Nat.le_of_ble_eq_true rfl, Nat.le_of_ble_eq_true rfl⟩) (fun r_6 hw => ?_)
      try dsimp only at hw
      have hq_r_6 : r_6 = fs_moonOf wd wf mp mb mo sp sb a0 := hw
      exact W.iret (v := r_6) hx hb hr (fun t ht hW => ⟨r_6, rfl, (Eq.symm ((by rw [fx_round]; (try rw [← hq_r_1]); (try rw [xL_eq]); (try rw [if_neg c_2]); (try rw [if_neg h_3]); (try rw [if_pos rfl]); (try rw [← hq_r_6]); (try rw [xL_eq]); try rfl))), ht⟩) (fun _ h => by cases h) dX11_round_59
    by_cases h_7 : a1 = 2
    · subst h_7
      refine lv_tableIn (off := 50) (tgt := 60) hx hb dX11_round_10 (by decide) (by decide) (by decide) (by decide) ?_
      refine lv_aload_n hx hb dX11_round_60 rfl (lv_at hl 0 rfl) ?_
      refine va_get (D := (dC, dI)) (ci := 11) (v := .ref bk) (C := RX11) (T := TX11) (N := 13) hx hb htw inlX11 hown hK hP 0 rfl rfl 1 (by decide) (htw _ (ck_1 _ (List.mem_of_getElem? (i := 21) rfl))) (fun _ h9 => h9) rfl dX11_round_61 ?_
      refine va_get (D := (dC, dI)) (ci := 0) (v := .ref bsk) (C := RX0) (T := TX0) (N := 12) hx hb htw inlX0 hown hK hP 1 rfl rfl 3 (by decide) (htw _ (ck_37 _ (List.mem_of_getElem? (i := 9) rfl))) (fun _ h9 => h9) rfl dX11_round_64 ?_
      refine lv_lload_n hx hb dX11_round_67 rfl (lv_at hl 1 rfl) ?_
      have hPc := hP.sub (ws' := [(eO9a bsk wd wf mp mb mo sp sb)]) [2] rfl
      have hKc := hK.sub (tys' := []) [] rfl
      refine vp_callSi (W.runV (As := [.long a0]) (rest := []) ⟨hx, hb, hml, hown, htw⟩ (gs_seasonOf l dC dI bsk wd wf mp mb mo sp sb a0) (cwV 1 htw (xg_V (ck_37 _ (List.mem_of_getElem? (i := 19) rfl)) (ck_37 _ (List.mem_of_getElem? (i := 20) rfl)) (ck_37 _ (List.mem_of_getElem? (i := 21) rfl)) (ck_6 _ (List.mem_of_getElem? (i := 4) rfl)) (ck_37 _ (List.mem_of_getElem? (i := 22) rfl))) rfl rfl rfl (by exact ⟨rfl, hdc_2.1, hdc_2.2, hdd_6⟩) ⟨Nat.le_of_ble_eq_true rfl, Nat.le_of_ble_eq_true rfl⟩) ⟨fun a U g mk q => by obtain ⟨q0, qP, qK⟩ := q; exact ⟨q0, qP, va_K.moved (u := U) (U := U.calling g mk a) (Vm.Alike.refl U.vm) qK⟩, va_recv hKc hPc (ci := 9) (q0 := 0) rfl rfl, fun U hU hW => ⟨rfl, by rw [hU]; exact hPc, va_K.moved hW.alike hKc⟩⟩ rfl rfl hl.1 rfl (lv_room (Nat.le_of_ble_eq_true rfl)) dX11_round_68 ⟨Nat.le_of_ble_eq_true rfl, Nat.le_of_ble_eq_true rfl⟩) (fun r_8 hw => ?_)
      try dsimp only at hw
      have hq_r_8 : r_8 = fs_seasonOf wd wf mp mb mo sp sb a0 := hw
      exact W.iret (v := r_8) hx hb hr (fun t ht hW => ⟨r_8, rfl, (Eq.symm ((by rw [fx_round]; (try rw [← hq_r_1]); (try rw [xL_eq]); (try rw [if_neg c_2]); (try rw [if_neg h_3]); (try rw [if_neg h_5]); (try rw [if_pos rfl]); (try rw [← hq_r_8]); (try rw [xL_eq]); try rfl))), ht⟩) (fun _ h => by cases h) dX11_round_71
    refine lv_tableOut (tgt := 72) hx hb dX11_round_10 (by have a0 := xg_ne h_3; have a1 := xg_ne h_5; have a2 := xg_ne h_7; have b0 : (0 : Int32).toInt = 0 := rfl; have b1 : (1 : Int32).toInt = 1 := rfl; have b2 : (2 : Int32).toInt = 2 := rfl; omega) (by decide) ?_
    refine lv_iconst (v := (-1)) hx hb dX11_round_72 (by decide) ?_
    exact W.iret (v := (-1)) hx hb hr (fun t ht hW => ⟨(-1), rfl, (Eq.symm ((by rw [fx_round]; (try rw [← hq_r_1]); (try rw [xL_eq]); (try rw [if_neg c_2]); (try rw [if_neg h_3]); (try rw [if_neg h_5]); (try rw [if_neg h_7]); try rfl))), ht⟩) (fun _ h => by cases h) dX11_round_73
  · refine lv_iconst (v := (-1)) hx hb dX11_round_7 (by decide) ?_
    exact W.iret (v := (-1)) hx hb hr (fun t ht hW => ⟨(-1), rfl, (Eq.symm ((by rw [fx_round]; (try rw [← hq_r_1]); (try rw [xL_eq]); (try rw [if_pos c_2]); try rfl))), ht⟩) (fun _ h => by cases h) dX11_round_8

def fx_life (fTo : Nat → Int32) (fBo : Nat → Int64) (fDi : Nat → Int64) (a0 : Int32) (a1 : Int32) : Int64 := (xL (fb_has fTo (2 : Int32) a0) (fun r_1 => (if r_1 = 0 then (-1 : Int64) else (if a1 < 0 then (-1 : Int64) else (if a1 ≤ 1 then (if a1 = 0 then fBo a0.toNatClampNeg else fDi a0.toNatClampNeg) else (-1 : Int64))))))
theorem gx_life_s0 {y0 : Int32} {y1 : Int32} (h0 : y1 ≤ 6) (h1 : ¬ (y1 ≤ y0)) (h2 : ¬ (y0 < 0)) : ¬ (y0 < 0) ∧ ¬ (6 ≤ y0) := by lia
theorem gx_life_s1 {y0 : Int32} {y1 : Int32} (h0 : y1 ≤ 6) (h1 : ¬ (y1 ≤ y0)) (h2 : ¬ (y0 < 0)) : ¬ (y0 < 0) ∧ ¬ (6 ≤ y0) := by lia
theorem dX11_life_0 : decode cX11_life 0 = .ok (.aload_n 0, 1) := zk_42 (by decide +kernel)
theorem dX11_life_1 : decode cX11_life 1 = .ok (.getfield 19, 3) := zk_180 (by decide +kernel)
theorem dX11_life_4 : decode cX11_life 4 = .ok (.iconst 2, 1) := zk_5 (by decide +kernel)
theorem dX11_life_5 : decode cX11_life 5 = .ok (.iload_n 1, 1) := zk_27 (by decide +kernel)
theorem dX11_life_6 : decode cX11_life 6 = .ok (.invokevirtual 178, 3) := zk_182 (by decide +kernel)
theorem dX11_life_9 : decode cX11_life 9 = .ok (.ifCond .eq 12, 3) := zk_153 (by decide +kernel)
theorem dX11_life_21 : decode cX11_life 21 = .ok (.ldc2_w 143, 3) := zk_20 (by decide +kernel)
theorem dX11_life_24 : decode cX11_life 24 = .ok (.lreturn, 1) := zk_173 (by decide +kernel)
theorem dX11_life_12 : decode cX11_life 12 = .ok (.iload_n 2, 1) := zk_28 (by decide +kernel)
theorem dX11_life_13 : decode cX11_life 13 = .ok (.ifCond .lt 8, 3) := zk_155 (by decide +kernel)
theorem dX11_life_16 : decode cX11_life 16 = .ok (.iload_n 2, 1) := zk_28 (by decide +kernel)
theorem dX11_life_17 : decode cX11_life 17 = .ok (.iconst 1, 1) := zk_4 (by decide +kernel)
theorem dX11_life_18 : decode cX11_life 18 = .ok (.if_icmp .le 7, 3) := zk_164 (by decide +kernel)
theorem dX11_life_25 : decode cX11_life 25 = .ok (.iload_n 2, 1) := zk_28 (by decide +kernel)
theorem dX11_life_26 : decode cX11_life 26 = .ok (.ifCond .ne 15, 3) := zk_154 (by decide +kernel)
theorem dX11_life_41 : decode cX11_life 41 = .ok (.aload_n 0, 1) := zk_42 (by decide +kernel)
theorem dX11_life_42 : decode cX11_life 42 = .ok (.getfield 19, 3) := zk_180 (by decide +kernel)
theorem dX11_life_45 : decode cX11_life 45 = .ok (.getfield 230, 3) := zk_180 (by decide +kernel)
theorem dX11_life_48 : decode cX11_life 48 = .ok (.iload_n 1, 1) := zk_27 (by decide +kernel)
theorem dX11_life_49 : decode cX11_life 49 = .ok (.laload, 1) := zk_47 (by decide +kernel)
theorem dX11_life_50 : decode cX11_life 50 = .ok (.lreturn, 1) := zk_173 (by decide +kernel)
theorem dX11_life_29 : decode cX11_life 29 = .ok (.aload_n 0, 1) := zk_42 (by decide +kernel)
theorem dX11_life_30 : decode cX11_life 30 = .ok (.getfield 19, 3) := zk_180 (by decide +kernel)
theorem dX11_life_33 : decode cX11_life 33 = .ok (.getfield 226, 3) := zk_180 (by decide +kernel)
theorem dX11_life_36 : decode cX11_life 36 = .ok (.iload_n 1, 1) := zk_27 (by decide +kernel)
theorem dX11_life_37 : decode cX11_life 37 = .ok (.laload, 1) := zk_47 (by decide +kernel)
theorem dX11_life_38 : decode cX11_life 38 = .ok (.goto 12, 3) := zk_167 (by decide +kernel)
set_option maxHeartbeats 4000000 in
set_option maxRecDepth 100000 in
theorem gx_life (l : Launch) (dC : Nat → ClassId) (dI : Nat → Nat → Nat) (x : Nat) (pa : Nat) (bk : Nat) (xsp : Nat) (xdy : Nat) (le : Nat) (xst : Nat) (xsc : Int32) (xim : Nat) (xil : Nat) (xik : Int32) (xmo : Nat) (xom : Nat) (wi : Nat) (bto : Nat) (bnm : Nat) (bla : Nat) (bsk : Nat) (bru : Nat) (bbo : Nat) (bdi : Nat) (bda : Nat) (bdk : Nat) (bdt : Nat) (bdp : Nat) (bno : Nat) (cTo : ClassId) (fTo : Nat → Int32) (cBb : ClassId) (fBo : Nat → Int64) (cBi : ClassId) (fDi : Nat → Int64) (a0 : Int32) (a1 : Int32) (ht2 : (fTo 2) ≤ 6) : Met l yX11_life (Cond.code yX11_life cX11_life 3 (some .long) :: wsL_law) ({ frames := 1, cells := 0, slots := 0, locals := 22 }) (va_Pc [.ref x, .int a0, .int a1] (fun U => va_P (dC, dI) vwCl [(eO11a x pa bk xsp xdy le xst xsc xim xil xik xmo xom wi), (eO0a bk bto bnm bla bsk bru bbo bdi bda bdk bdt bdp bno), (eA0 bto cTo 5 fTo), (eA1 bbo cBb 6 fBo), (eA1 bdi cBi 6 fDi)] U.heap ∧ va_K (dC, dI) vwCl [(cTo, .int), (cBb, .long), (cBi, .long)] U)) (vp_Sl (fun r => r = fx_life fTo fBo fDi a0 a1)) 0 0 (fun _ => False) := by
  refine Met.ofW (cc := cX11_life) (maxL := 3) (ret := (some .long)) (by decide) rfl ?_
  intro p e s m args below meth c s₁ B hml hv
  obtain ⟨rfl, hP, hK⟩ := hv
  have hx := B.exec
  have hb := B.bytes
  have hr := B.returns
  have hts := atoms_spec (ws := Cond.code yX11_life cX11_life 3 (some .long) :: wsL_law) B.pre
  have htw : ∀ w ∈ wsL_law, w.before _ s = true := fun w h => hts w (List.mem_cons_of_mem _ h)
  have hown : s.vm.findClass RX11 = some m.cls := findClass_of_methodNamed B.named
  have hlocks := B.notSynchronized
  have hl := lv_entry ([.ref x, .int a0, .int a1]) (n := 3) (Nat.le_of_ble_eq_true rfl)
  rw [lg_entry_eq]
  generalize (lg_sl ([.ref x, .int a0, .int a1]) ++ List.replicate (3 - (lg_sl ([.ref x, .int a0, .int a1])).length) Slot.unset).toArray = ls at hl ⊢
  have hl : lv_has ls 3 [(0, .ref x), (1, .int a0), (2, .int a1)] := hl
  refine lv_aload_n hx hb dX11_life_0 rfl (lv_at hl 0 rfl) ?_
  refine va_get (D := (dC, dI)) (ci := 11) (v := .ref bk) (C := RX11) (T := TX11) (N := 13) hx hb htw inlX11 hown hK hP 0 rfl rfl 1 (by decide) (htw _ (ck_1 _ (List.mem_of_getElem? (i := 21) rfl))) (fun _ h9 => h9) rfl dX11_life_1 ?_
  refine lv_iconst (v := 2) hx hb dX11_life_4 (by decide) ?_
  refine lv_iload_n hx hb dX11_life_5 rfl (lv_at hl 1 rfl) ?_
  have hPc := hP.sub (ws' := [(eO0a bk bto bnm bla bsk bru bbo bdi bda bdk bdt bdp bno), (eA0 bto cTo 5 fTo)]) [1, 2] rfl
  have hKc := hK.sub (tys' := [(cTo, .int)]) [0] rfl
  refine vp_callSi (W.runV (As := [.int 2, .int a0]) (rest := []) ⟨hx, hb, hml, hown, htw⟩ (gb_has l dC dI bk bto bnm bla bsk bru bbo bdi bda bdk bdt bdp bno cTo fTo (2 : Int32) a0) (cwV 2 htw (xg_V (ck_38 _ (List.mem_of_getElem? (i := 15) rfl)) (ck_21 _ (List.mem_of_getElem? (i := 2) rfl)) (ck_21 _ (List.mem_of_getElem? (i := 3) rfl)) (ck_1 _ (List.mem_of_getElem? (i := 20) rfl)) (ck_21 _ (List.mem_of_getElem? (i := 4) rfl))) rfl rfl rfl (by exact ⟨rfl, hdc_6.1, hdc_6.2, hdd_8⟩) ⟨Nat.le_of_ble_eq_true rfl, Nat.le_of_ble_eq_true rfl⟩) ⟨fun a U g mk q => by obtain ⟨q0, qP, qK⟩ := q; exact ⟨q0, qP, va_K.moved (u := U) (U := U.calling g mk a) (Vm.Alike.refl U.vm) qK⟩, va_recv hKc hPc (ci := 0) (q0 := 0) rfl rfl, fun U hU hW => ⟨rfl, by rw [hU]; exact hPc, va_K.moved hW.alike hKc⟩⟩ rfl rfl hl.1 rfl (lv_room (Nat.le_of_ble_eq_true rfl)) dX11_life_6 ⟨Nat.le_of_ble_eq_true rfl, Nat.le_of_ble_eq_true rfl⟩) (fun r_1 hw => ?_)
  try dsimp only at hw
  have hq_r_1 : r_1 = fb_has fTo (2 : Int32) a0 := hw
  refine lv_if_eq (tgt := 21) hx hb dX11_life_9 (by decide) (fun c_2 => ?_) (fun c_2 => ?_)
  · refine lv_ldc2 (v := (-1)) hx hb hown (htw _ (ck_34 _ (List.mem_of_getElem? (i := 14) rfl))) dX11_life_21 ?_
    exact W.lret (v := (-1)) hx hb hr (fun t ht hW => ⟨(-1), rfl, (Eq.symm ((by rw [fx_life]; (try rw [← hq_r_1]); (try rw [xL_eq]); (try rw [if_pos c_2]); try rfl))), ht⟩) (fun _ h => by cases h) dX11_life_24
  · refine lv_iload_n hx hb dX11_life_12 rfl (lv_at hl 2 rfl) ?_
    refine lv_if_lt (tgt := 21) hx hb dX11_life_13 (by decide) (fun c_3 => ?_) (fun c_3 => ?_)
    · refine lv_ldc2 (v := (-1)) hx hb hown (htw _ (ck_34 _ (List.mem_of_getElem? (i := 14) rfl))) dX11_life_21 ?_
      exact W.lret (v := (-1)) hx hb hr (fun t ht hW => ⟨(-1), rfl, (Eq.symm ((by rw [fx_life]; (try rw [← hq_r_1]); (try rw [xL_eq]); (try rw [if_neg c_2]); (try rw [if_pos c_3]); try rfl))), ht⟩) (fun _ h => by cases h) dX11_life_24
    · refine lv_iload_n hx hb dX11_life_16 rfl (lv_at hl 2 rfl) ?_
      refine lv_iconst (v := 1) hx hb dX11_life_17 (by decide) ?_
      refine lv_icmp_le (tgt := 25) hx hb dX11_life_18 (by decide) (fun c_4 => ?_) (fun c_4 => ?_)
      · refine lv_iload_n hx hb dX11_life_25 rfl (lv_at hl 2 rfl) ?_
        refine lv_if_ne (tgt := 41) hx hb dX11_life_26 (by decide) (fun c_5 => ?_) (fun c_5 => ?_)
        · refine lv_aload_n hx hb dX11_life_41 rfl (lv_at hl 0 rfl) ?_
          refine va_get (D := (dC, dI)) (ci := 11) (v := .ref bk) (C := RX11) (T := TX11) (N := 13) hx hb htw inlX11 hown hK hP 0 rfl rfl 1 (by decide) (htw _ (ck_1 _ (List.mem_of_getElem? (i := 21) rfl))) (fun _ h9 => h9) rfl dX11_life_42 ?_
          refine va_get (D := (dC, dI)) (ci := 0) (v := .ref bdi) (C := RX0) (T := TX0) (N := 12) hx hb htw inlX0 hown hK hP 1 rfl rfl 6 (by decide) (htw _ (ck_44 _ (List.mem_of_getElem? (i := 15) rfl))) (fun _ h9 => h9) rfl dX11_life_45 ?_
          refine lv_iload_n hx hb dX11_life_48 rfl (lv_at hl 1 rfl) ?_
          refine va_lald hx hb hK hP 4 2 rfl rfl (xg_inr (N := 6) rfl (gx_life_s0 (y0 := a0) (y1 := fTo 2) ht2 (xb_hasin hq_r_1 c_2).2 (xb_hasin hq_r_1 c_2).1).1 (gx_life_s0 (y0 := a0) (y1 := fTo 2) ht2 (xb_hasin hq_r_1 c_2).2 (xb_hasin hq_r_1 c_2).1).2) dX11_life_49 ?_
          exact W.lret (v := fDi a0.toNatClampNeg) hx hb hr (fun t ht hW => ⟨fDi a0.toNatClampNeg, rfl, (Eq.symm ((by rw [fx_life]; (try rw [← hq_r_1]); (try rw [xL_eq]); (try rw [if_neg c_2]); (try rw [if_neg c_3]); (try rw [if_pos c_4]); (try rw [if_neg c_5]); try rfl))), ht⟩) (fun _ h => by cases h) dX11_life_50
        · refine lv_aload_n hx hb dX11_life_29 rfl (lv_at hl 0 rfl) ?_
          refine va_get (D := (dC, dI)) (ci := 11) (v := .ref bk) (C := RX11) (T := TX11) (N := 13) hx hb htw inlX11 hown hK hP 0 rfl rfl 1 (by decide) (htw _ (ck_1 _ (List.mem_of_getElem? (i := 21) rfl))) (fun _ h9 => h9) rfl dX11_life_30 ?_
          refine va_get (D := (dC, dI)) (ci := 0) (v := .ref bbo) (C := RX0) (T := TX0) (N := 12) hx hb htw inlX0 hown hK hP 1 rfl rfl 5 (by decide) (htw _ (ck_44 _ (List.mem_of_getElem? (i := 14) rfl))) (fun _ h9 => h9) rfl dX11_life_33 ?_
          refine lv_iload_n hx hb dX11_life_36 rfl (lv_at hl 1 rfl) ?_
          refine va_lald hx hb hK hP 3 1 rfl rfl (xg_inr (N := 6) rfl (gx_life_s1 (y0 := a0) (y1 := fTo 2) ht2 (xb_hasin hq_r_1 c_2).2 (xb_hasin hq_r_1 c_2).1).1 (gx_life_s1 (y0 := a0) (y1 := fTo 2) ht2 (xb_hasin hq_r_1 c_2).2 (xb_hasin hq_r_1 c_2).1).2) dX11_life_37 ?_
          refine lv_goto (tgt := 50) hx hb dX11_life_38 (by decide) ?_
          exact W.lret (v := fBo a0.toNatClampNeg) hx hb hr (fun t ht hW => ⟨fBo a0.toNatClampNeg, rfl, (Eq.symm ((by rw [fx_life]; (try rw [← hq_r_1]); (try rw [xL_eq]); (try rw [if_neg c_2]); (try rw [if_neg c_3]); (try rw [if_pos c_4]); (try rw [if_pos c_5]); try rfl))), ht⟩) (fun _ h => by cases h) dX11_life_50
      · refine lv_ldc2 (v := (-1)) hx hb hown (htw _ (ck_34 _ (List.mem_of_getElem? (i := 14) rfl))) dX11_life_21 ?_
        exact W.lret (v := (-1)) hx hb hr (fun t ht hW => ⟨(-1), rfl, (Eq.symm ((by rw [fx_life]; (try rw [← hq_r_1]); (try rw [xL_eq]); (try rw [if_neg c_2]); (try rw [if_neg c_3]); (try rw [if_neg c_4]); try rfl))), ht⟩) (fun _ h => by cases h) dX11_life_24

def fx_age (fTo : Nat → Int32) (FI : Nat → Int32) (GR : Nat → Int32) (FR : Nat → Int32) (fBo : Nat → Int64) (a0 : Int32) (a1 : Int64) (a2 : Int32) : Int64 := (if fb_landIs fTo a2 = 0 then (-1 : Int64) else (xL (fb_has fTo (2 : Int32) a0) (fun r_3 => (if r_3 = 0 then (-1 : Int64) else (xL (fx_isCount a1) (fun r_5 => (if r_5 = 0 then (-1 : Int64) else (if 0 ≤ lg_cmp a1 (fBo a0.toNatClampNeg) then (xL (fl_yearsKept (FI a2.toNatClampNeg) (GR a2.toNatClampNeg) (FR a2.toNatClampNeg) (fBo a0.toNatClampNeg) a1) (fun r_8 => r_8)) else (-1 : Int64)))))))))
theorem gx_age_s0 {y0 : Int32} {y1 : Int32} (h0 : y1 ≤ 6) (h1 : ¬ (y1 ≤ y0)) (h2 : ¬ (y0 < 0)) : ¬ (y0 < 0) ∧ ¬ (6 ≤ y0) := by lia
theorem gx_age_s1 {y0 : Int32} {y1 : Int32} (h0 : y1 ≤ 6) (h1 : ¬ (y1 ≤ y0)) (h2 : ¬ (y0 < 0)) : ¬ (y0 < 0) ∧ ¬ (6 ≤ y0) := by lia
theorem dX11_age_0 : decode cX11_age 0 = .ok (.aload_n 0, 1) := zk_42 (by decide +kernel)
theorem dX11_age_1 : decode cX11_age 1 = .ok (.getfield 19, 3) := zk_180 (by decide +kernel)
theorem dX11_age_4 : decode cX11_age 4 = .ok (.iload 4, 2) := zk_21 (by decide +kernel)
theorem dX11_age_6 : decode cX11_age 6 = .ok (.invokevirtual 112, 3) := zk_182 (by decide +kernel)
theorem dX11_age_9 : decode cX11_age 9 = .ok (.astore 5, 2) := zk_58 (by decide +kernel)
theorem dX11_age_11 : decode cX11_age 11 = .ok (.aload 5, 2) := zk_25 (by decide +kernel)
theorem dX11_age_13 : decode cX11_age 13 = .ok (.ifnull 36, 3) := zk_198 (by decide +kernel)
theorem dX11_age_49 : decode cX11_age 49 = .ok (.ldc2_w 143, 3) := zk_20 (by decide +kernel)
theorem dX11_age_52 : decode cX11_age 52 = .ok (.lreturn, 1) := zk_173 (by decide +kernel)
theorem dX11_age_16 : decode cX11_age 16 = .ok (.aload_n 0, 1) := zk_42 (by decide +kernel)
theorem dX11_age_17 : decode cX11_age 17 = .ok (.getfield 19, 3) := zk_180 (by decide +kernel)
theorem dX11_age_20 : decode cX11_age 20 = .ok (.iconst 2, 1) := zk_5 (by decide +kernel)
theorem dX11_age_21 : decode cX11_age 21 = .ok (.iload_n 1, 1) := zk_27 (by decide +kernel)
theorem dX11_age_22 : decode cX11_age 22 = .ok (.invokevirtual 178, 3) := zk_182 (by decide +kernel)
theorem dX11_age_25 : decode cX11_age 25 = .ok (.ifCond .eq 24, 3) := zk_153 (by decide +kernel)
theorem dX11_age_28 : decode cX11_age 28 = .ok (.lload_n 2, 1) := zk_32 (by decide +kernel)
theorem dX11_age_29 : decode cX11_age 29 = .ok (.invokestatic 149, 3) := zk_184 (by decide +kernel)
theorem dX11_age_32 : decode cX11_age 32 = .ok (.ifCond .eq 17, 3) := zk_153 (by decide +kernel)
theorem dX11_age_35 : decode cX11_age 35 = .ok (.lload_n 2, 1) := zk_32 (by decide +kernel)
theorem dX11_age_36 : decode cX11_age 36 = .ok (.aload_n 0, 1) := zk_42 (by decide +kernel)
theorem dX11_age_37 : decode cX11_age 37 = .ok (.getfield 19, 3) := zk_180 (by decide +kernel)
theorem dX11_age_40 : decode cX11_age 40 = .ok (.getfield 226, 3) := zk_180 (by decide +kernel)
theorem dX11_age_43 : decode cX11_age 43 = .ok (.iload_n 1, 1) := zk_27 (by decide +kernel)
theorem dX11_age_44 : decode cX11_age 44 = .ok (.laload, 1) := zk_47 (by decide +kernel)
theorem dX11_age_45 : decode cX11_age 45 = .ok (.lcmp, 1) := zk_148 (by decide +kernel)
theorem dX11_age_46 : decode cX11_age 46 = .ok (.ifCond .ge 7, 3) := zk_156 (by decide +kernel)
theorem dX11_age_53 : decode cX11_age 53 = .ok (.aload 5, 2) := zk_25 (by decide +kernel)
theorem dX11_age_55 : decode cX11_age 55 = .ok (.aload_n 0, 1) := zk_42 (by decide +kernel)
theorem dX11_age_56 : decode cX11_age 56 = .ok (.getfield 19, 3) := zk_180 (by decide +kernel)
theorem dX11_age_59 : decode cX11_age 59 = .ok (.getfield 226, 3) := zk_180 (by decide +kernel)
theorem dX11_age_62 : decode cX11_age 62 = .ok (.iload_n 1, 1) := zk_27 (by decide +kernel)
theorem dX11_age_63 : decode cX11_age 63 = .ok (.laload, 1) := zk_47 (by decide +kernel)
theorem dX11_age_64 : decode cX11_age 64 = .ok (.lload_n 2, 1) := zk_32 (by decide +kernel)
theorem dX11_age_65 : decode cX11_age 65 = .ok (.invokevirtual 233, 3) := zk_182 (by decide +kernel)
theorem dX11_age_68 : decode cX11_age 68 = .ok (.lreturn, 1) := zk_173 (by decide +kernel)
set_option maxHeartbeats 4000000 in
set_option maxRecDepth 100000 in
theorem gx_age (l : Launch) (dC : Nat → ClassId) (dI : Nat → Nat → Nat) (x : Nat) (pa : Nat) (bk : Nat) (xsp : Nat) (xdy : Nat) (le : Nat) (xst : Nat) (xsc : Int32) (xim : Nat) (xil : Nat) (xik : Int32) (xmo : Nat) (xom : Nat) (wi : Nat) (bto : Nat) (bnm : Nat) (bla : Nat) (bsk : Nat) (bru : Nat) (bbo : Nat) (bdi : Nat) (bda : Nat) (bdk : Nat) (bdt : Nat) (bdp : Nat) (bno : Nat) (cTo : ClassId) (fTo : Nat → Int32) (cLa : ClassId) (La : Nat → Nat) (FI : Nat → Int32) (GR : Nat → Int32) (FR : Nat → Int32) (cBb : ClassId) (fBo : Nat → Int64) (a0 : Int32) (a1 : Int64) (a2 : Int32) (ht2 : (fTo 2) ≤ 6) : Met l yX11_age (Cond.code yX11_age cX11_age 6 (some .long) :: wsL_law) ({ frames := 4, cells := 0, slots := 0, locals := 102 }) (va_Pc [.ref x, .int a0, .long a1, .int a2] (fun U => va_P (dC, dI) vwCl [(eO11a x pa bk xsp xdy le xst xsc xim xil xik xmo xom wi), (eO0a bk bto bnm bla bsk bru bbo bdi bda bdk bdt bdp bno), (eA0 bto cTo 5 fTo), (eA4 bla cLa 4 (fun k => some (La k))), (eO1a (La 0) (FI 0) (GR 0) (FR 0)), (eO1a (La 1) (FI 1) (GR 1) (FR 1)), (eO1a (La 2) (FI 2) (GR 2) (FR 2)), (eO1a (La 3) (FI 3) (GR 3) (FR 3)), (eA1 bbo cBb 6 fBo)] U.heap ∧ va_K (dC, dI) vwCl [(cTo, .int), (cLa, .object RX1), (cBb, .long)] U ∧ xN U)) (vp_Sl (fun r => r = fx_age fTo FI GR FR fBo a0 a1 a2)) 0 0 (fun _ => False) := by
  refine Met.ofW (cc := cX11_age) (maxL := 6) (ret := (some .long)) (by decide) rfl ?_
  intro p e s m args below meth c s₁ B hml hv
  obtain ⟨rfl, hP, hK, hNx⟩ := hv
  have hx := B.exec
  have hb := B.bytes
  have hr := B.returns
  have hts := atoms_spec (ws := Cond.code yX11_age cX11_age 6 (some .long) :: wsL_law) B.pre
  have htw : ∀ w ∈ wsL_law, w.before _ s = true := fun w h => hts w (List.mem_cons_of_mem _ h)
  have hown : s.vm.findClass RX11 = some m.cls := findClass_of_methodNamed B.named
  have hlocks := B.notSynchronized
  have hl := lv_entry ([.ref x, .int a0, .long a1, .int a2]) (n := 6) (Nat.le_of_ble_eq_true rfl)
  rw [lg_entry_eq]
  generalize (lg_sl ([.ref x, .int a0, .long a1, .int a2]) ++ List.replicate (6 - (lg_sl ([.ref x, .int a0, .long a1, .int a2])).length) Slot.unset).toArray = ls at hl ⊢
  have hl : lv_has ls 6 [(0, .ref x), (1, .int a0), (2, .long a1), (4, .int a2)] := hl
  refine lv_aload_n hx hb dX11_age_0 rfl (lv_at hl 0 rfl) ?_
  refine va_get (D := (dC, dI)) (ci := 11) (v := .ref bk) (C := RX11) (T := TX11) (N := 13) hx hb htw inlX11 hown hK hP 0 rfl rfl 1 (by decide) (htw _ (ck_1 _ (List.mem_of_getElem? (i := 21) rfl))) (fun _ h9 => h9) rfl dX11_age_1 ?_
  refine lv_iload hx hb dX11_age_4 (lv_at hl 3 rfl) ?_
  have hPc := hP.sub (ws' := [(eO0a bk bto bnm bla bsk bru bbo bdi bda bdk bdt bdp bno), (eA0 bto cTo 5 fTo), (eA4 bla cLa 4 (fun k => some (La k)))]) [1, 2, 3] rfl
  have hKc := hK.sub (tys' := [(cTo, .int), (cLa, .object RX1)]) [0, 1] rfl
  refine va_csq (W.runV (As := [.int a2]) (rest := []) ⟨hx, hb, hml, hown, htw⟩ (gb_landAt l dC dI bk bto bnm bla bsk bru bbo bdi bda bdk bdt bdp bno cTo fTo cLa La a2) (cwV 1 htw (xg_V (ck_33 _ (List.mem_of_getElem? (i := 21) rfl)) (ck_20 _ (List.mem_of_getElem? (i := 22) rfl)) (ck_20 _ (List.mem_of_getElem? (i := 23) rfl)) (ck_1 _ (List.mem_of_getElem? (i := 20) rfl)) (ck_21 _ (List.mem_of_getElem? (i := 0) rfl))) rfl rfl rfl (by exact ⟨rfl, hdc_6.1, hdc_6.2, hdd_15⟩) ⟨Nat.le_of_ble_eq_true rfl, Nat.le_of_ble_eq_true rfl⟩) ⟨fun a U g mk q => by obtain ⟨q0, qP, qK⟩ := q; exact ⟨q0, qP, va_K.moved (u := U) (U := U.calling g mk a) (Vm.Alike.refl U.vm) qK⟩, va_recv hKc hPc (ci := 0) (q0 := 0) rfl rfl, fun U hU hW => ⟨rfl, by rw [hU]; exact hPc, va_K.moved hW.alike hKc⟩⟩ rfl rfl hl.1 rfl (lv_room (Nat.le_of_ble_eq_true rfl)) dX11_age_6 ⟨Nat.le_of_ble_eq_true rfl, Nat.le_of_ble_eq_true rfl⟩) (fun r_1 hw => ?_)
  try dsimp only at hw
  by_cases hz_2 : fb_landIs fTo a2 = 0
  · obtain rfl : r_1 = none := by rw [hw, if_pos hz_2]
    refine W.eq (g2 := F0 m 9 ls [.null]) rfl ?_
    refine lv_astoreN (lv' := [(5, .null), (0, .ref x), (1, .int a0), (2, .long a1), (4, .int a2)]) hx hb dX11_age_9 hl (by decide) rfl (fun ls hl => ?_)
    refine lv_aloadN hx hb dX11_age_11 (lv_at hl 0 rfl) ?_
    refine lv_ifnullN (tgt := 49) hx hb dX11_age_13 (by decide) ?_
    refine lv_ldc2 (v := (-1)) hx hb hown (htw _ (ck_34 _ (List.mem_of_getElem? (i := 14) rfl))) dX11_age_49 ?_
    exact W.lret (v := (-1)) hx hb hr (fun t ht hW => ⟨(-1), rfl, (Eq.symm ((by rw [fx_age]; (try rw [if_pos hz_2]); try rfl))), ht⟩) (fun _ h => by cases h) dX11_age_52
  · obtain rfl : r_1 = some (La a2.toNatClampNeg) := by rw [hw, if_neg hz_2]
    have hP : va_P (dC, dI) vwCl [(eO11a x pa bk xsp xdy le xst xsc xim xil xik xmo xom wi), (eO0a bk bto bnm bla bsk bru bbo bdi bda bdk bdt bdp bno), (eA0 bto cTo 5 fTo), (eA4 bla cLa 4 (fun k => some (La k))), (eO1a (La 0) (FI 0) (GR 0) (FR 0)), (eO1a (La 1) (FI 1) (GR 1) (FR 1)), (eO1a (La 2) (FI 2) (GR 2) (FR 2)), (eO1a (La 3) (FI 3) (GR 3) (FR 3)), (eA1 bbo cBb 6 fBo), ((La a2.toNatClampNeg), .inr (1, [.int (FI a2.toNatClampNeg), .int (GR a2.toNatClampNeg), .int (FR a2.toNatClampNeg)]))] s.heap := xb_P4 hP (fun k => (La k, .inr (1, [.int (FI k), .int (GR k), .int (FR k)]))) 4 rfl rfl rfl rfl (i := a2) (xg_inr (N := 4) rfl (fb_landIn hz_2).1 (fb_landIn hz_2).2)
    refine W.eq (g2 := F0 m 9 ls [.ref (La a2.toNatClampNeg)]) rfl ?_
    refine lv_astore (lv' := [(5, .ref (La a2.toNatClampNeg)), (0, .ref x), (1, .int a0), (2, .long a1), (4, .int a2)]) hx hb dX11_age_9 hl (by decide) rfl (fun ls hl => ?_)
    refine lv_aload hx hb dX11_age_11 (lv_at hl 0 rfl) ?_
    refine lv_ifnull hx hb dX11_age_13 ?_
    refine lv_aload_n hx hb dX11_age_16 rfl (lv_at hl 1 rfl) ?_
    refine va_get (D := (dC, dI)) (ci := 11) (v := .ref bk) (C := RX11) (T := TX11) (N := 13) hx hb htw inlX11 hown hK hP 0 rfl rfl 1 (by decide) (htw _ (ck_1 _ (List.mem_of_getElem? (i := 21) rfl))) (fun _ h9 => h9) rfl dX11_age_17 ?_
    refine lv_iconst (v := 2) hx hb dX11_age_20 (by decide) ?_
    refine lv_iload_n hx hb dX11_age_21 rfl (lv_at hl 2 rfl) ?_
    have hPc := hP.sub (ws' := [(eO0a bk bto bnm bla bsk bru bbo bdi bda bdk bdt bdp bno), (eA0 bto cTo 5 fTo)]) [1, 2] rfl
    have hKc := hK.sub (tys' := [(cTo, .int)]) [0] rfl
    refine vp_callSi (W.runV (As := [.int 2, .int a0]) (rest := []) ⟨hx, hb, hml, hown, htw⟩ (gb_has l dC dI bk bto bnm bla bsk bru bbo bdi bda bdk bdt bdp bno cTo fTo (2 : Int32) a0) (cwV 2 htw (xg_V (ck_38 _ (List.mem_of_getElem? (i := 15) rfl)) (ck_21 _ (List.mem_of_getElem? (i := 2) rfl)) (ck_21 _ (List.mem_of_getElem? (i := 3) rfl)) (ck_1 _ (List.mem_of_getElem? (i := 20) rfl)) (ck_21 _ (List.mem_of_getElem? (i := 4) rfl))) rfl rfl rfl (by exact ⟨rfl, hdc_6.1, hdc_6.2, hdd_8⟩) ⟨Nat.le_of_ble_eq_true rfl, Nat.le_of_ble_eq_true rfl⟩) ⟨fun a U g mk q => by obtain ⟨q0, qP, qK⟩ := q; exact ⟨q0, qP, va_K.moved (u := U) (U := U.calling g mk a) (Vm.Alike.refl U.vm) qK⟩, va_recv hKc hPc (ci := 0) (q0 := 0) rfl rfl, fun U hU hW => ⟨rfl, by rw [hU]; exact hPc, va_K.moved hW.alike hKc⟩⟩ rfl rfl hl.1 rfl (lv_room (Nat.le_of_ble_eq_true rfl)) dX11_age_22 ⟨Nat.le_of_ble_eq_true rfl, Nat.le_of_ble_eq_true rfl⟩) (fun r_3 hw => ?_)
    try dsimp only at hw
    have hq_r_3 : r_3 = fb_has fTo (2 : Int32) a0 := hw
    refine lv_if_eq (tgt := 49) hx hb dX11_age_25 (by decide) (fun c_4 => ?_) (fun c_4 => ?_)
    · refine lv_ldc2 (v := (-1)) hx hb hown (htw _ (ck_34 _ (List.mem_of_getElem? (i := 14) rfl))) dX11_age_49 ?_
      exact W.lret (v := (-1)) hx hb hr (fun t ht hW => ⟨(-1), rfl, (Eq.symm ((by rw [fx_age]; (try rw [if_neg hz_2]); (try rw [← hq_r_3]); (try rw [xL_eq]); (try rw [if_pos c_4]); try rfl))), ht⟩) (fun _ h => by cases h) dX11_age_52
    · refine lv_lload_n hx hb dX11_age_28 rfl (lv_at hl 3 rfl) ?_
      have hPc := hP.sub (ws' := []) [] rfl
      have hKc := hK.sub (tys' := []) [] rfl
      refine vp_callSi (W.runS (As := [.long a1]) (rest := []) ⟨hx, hb, hml, hown, htw⟩ (gx_isCount l dC dI a1) (va_cwS 1 htw (xg_S (ck_35 _ (List.mem_of_getElem? (i := 11) rfl)) (ck_35 _ (List.mem_of_getElem? (i := 12) rfl)) (ck_1 _ (List.mem_of_getElem? (i := 2) rfl)) (ck_35 _ (List.mem_of_getElem? (i := 13) rfl))) rfl rfl rfl (by exact ⟨hdc_8.1, hdc_8.2, hdd_1⟩) ⟨Nat.le_of_ble_eq_true rfl, Nat.le_of_ble_eq_true rfl⟩) ⟨fun a U g mk q => by obtain ⟨q0, qP, qK⟩ := q; exact ⟨q0, qP, va_K.moved (u := U) (U := U.calling g mk a) (Vm.Alike.refl U.vm) qK⟩, fun U hU hW => ⟨rfl, by rw [hU]; exact hPc, va_K.moved hW.alike hKc⟩⟩ rfl rfl hl.1 rfl (lv_room (Nat.le_of_ble_eq_true rfl)) dX11_age_29 ⟨Nat.le_of_ble_eq_true rfl, Nat.le_of_ble_eq_true rfl⟩) (fun r_5 hw => ?_)
      try dsimp only at hw
      have hq_r_5 : r_5 = fx_isCount a1 := hw
      refine lv_if_eq (tgt := 49) hx hb dX11_age_32 (by decide) (fun c_6 => ?_) (fun c_6 => ?_)
      · refine lv_ldc2 (v := (-1)) hx hb hown (htw _ (ck_34 _ (List.mem_of_getElem? (i := 14) rfl))) dX11_age_49 ?_
        exact W.lret (v := (-1)) hx hb hr (fun t ht hW => ⟨(-1), rfl, (Eq.symm ((by rw [fx_age]; (try rw [if_neg hz_2]); (try rw [← hq_r_3]); (try rw [xL_eq]); (try rw [if_neg c_4]); (try rw [← hq_r_5]); (try rw [xL_eq]); (try rw [if_pos c_6]); try rfl))), ht⟩) (fun _ h => by cases h) dX11_age_52
      · refine lv_lload_n hx hb dX11_age_35 rfl (lv_at hl 3 rfl) ?_
        refine lv_aload_n hx hb dX11_age_36 rfl (lv_at hl 1 rfl) ?_
        refine va_get (D := (dC, dI)) (ci := 11) (v := .ref bk) (C := RX11) (T := TX11) (N := 13) hx hb htw inlX11 hown hK hP 0 rfl rfl 1 (by decide) (htw _ (ck_1 _ (List.mem_of_getElem? (i := 21) rfl))) (fun _ h9 => h9) rfl dX11_age_37 ?_
        refine va_get (D := (dC, dI)) (ci := 0) (v := .ref bbo) (C := RX0) (T := TX0) (N := 12) hx hb htw inlX0 hown hK hP 1 rfl rfl 5 (by decide) (htw _ (ck_44 _ (List.mem_of_getElem? (i := 14) rfl))) (fun _ h9 => h9) rfl dX11_age_40 ?_
        refine lv_iload_n hx hb dX11_age_43 rfl (lv_at hl 2 rfl) ?_
        refine va_lald hx hb hK hP 8 2 rfl rfl (xg_inr (N := 6) rfl (gx_age_s0 (y0 := a0) (y1 := fTo 2) ht2 (xb_hasin hq_r_3 c_4).2 (xb_hasin hq_r_3 c_4).1).1 (gx_age_s0 (y0 := a0) (y1 := fTo 2) ht2 (xb_hasin hq_r_3 c_4).2 (xb_hasin hq_r_3 c_4).1).2) dX11_age_44 ?_
        refine W.lcmp hx hb dX11_age_45 ?_
        refine lv_if_ge (tgt := 53) hx hb dX11_age_46 (by decide) (fun c_7 => ?_) (fun c_7 => ?_)
        · refine lv_aload hx hb dX11_age_53 (lv_at hl 0 rfl) ?_
          refine lv_aload_n hx hb dX11_age_55 rfl (lv_at hl 1 rfl) ?_
          refine va_get (D := (dC, dI)) (ci := 11) (v := .ref bk) (C := RX11) (T := TX11) (N := 13) hx hb htw inlX11 hown hK hP 0 rfl rfl 1 (by decide) (htw _ (ck_1 _ (List.mem_of_getElem? (i := 21) rfl))) (fun _ h9 => h9) rfl dX11_age_56 ?_
          refine va_get (D := (dC, dI)) (ci := 0) (v := .ref bbo) (C := RX0) (T := TX0) (N := 12) hx hb htw inlX0 hown hK hP 1 rfl rfl 5 (by decide) (htw _ (ck_44 _ (List.mem_of_getElem? (i := 14) rfl))) (fun _ h9 => h9) rfl dX11_age_59 ?_
          refine lv_iload_n hx hb dX11_age_62 rfl (lv_at hl 2 rfl) ?_
          refine va_lald hx hb hK hP 8 2 rfl rfl (xg_inr (N := 6) rfl (gx_age_s1 (y0 := a0) (y1 := fTo 2) ht2 (xb_hasin hq_r_3 c_4).2 (xb_hasin hq_r_3 c_4).1).1 (gx_age_s1 (y0 := a0) (y1 := fTo 2) ht2 (xb_hasin hq_r_3 c_4).2 (xb_hasin hq_r_3 c_4).1).2) dX11_age_63 ?_
          refine lv_lload_n hx hb dX11_age_64 rfl (lv_at hl 3 rfl) ?_
          have hPc := hP.sub (ws' := [((La a2.toNatClampNeg), .inr (1, [.int (FI a2.toNatClampNeg), .int (GR a2.toNatClampNeg), .int (FR a2.toNatClampNeg)]))]) [9] rfl
          have hKc := hK.sub (tys' := []) [] rfl
          refine vp_callSl (W.runV (As := [.long (fBo a0.toNatClampNeg), .long a1]) (rest := []) ⟨hx, hb, hml, hown, htw⟩ (gl_yearsKept l dC dI (La a2.toNatClampNeg) (FI a2.toNatClampNeg) (GR a2.toNatClampNeg) (FR a2.toNatClampNeg) (fBo a0.toNatClampNeg) a1) (cwV 2 htw (xg_V (ck_45 _ (List.mem_of_getElem? (i := 4) rfl)) (ck_45 _ (List.mem_of_getElem? (i := 5) rfl)) (ck_45 _ (List.mem_of_getElem? (i := 6) rfl)) (ck_6 _ (List.mem_of_getElem? (i := 19) rfl)) (ck_45 _ (List.mem_of_getElem? (i := 7) rfl))) rfl rfl rfl (by exact ⟨rfl, hdc_0.1, hdc_0.2, hdd_4⟩) ⟨Nat.le_of_ble_eq_true rfl, Nat.le_of_ble_eq_true rfl⟩) ⟨fun a U g mk q => by obtain ⟨q0, qP, qK, qx⟩ := q; exact ⟨q0, qP, va_K.moved (u := U) (U := U.calling g mk a) (Vm.Alike.refl U.vm) qK, xN.calling qx⟩, va_recv hKc hPc (ci := 1) (q0 := 0) rfl rfl, fun U hU hW => ⟨rfl, by rw [hU]; exact hPc, va_K.moved hW.alike hKc, xN.warm hW hNx⟩⟩ rfl rfl hl.1 rfl (lv_room (Nat.le_of_ble_eq_true rfl)) dX11_age_65 ⟨Nat.le_of_ble_eq_true rfl, Nat.le_of_ble_eq_true rfl⟩) (fun r_8 hw => ?_)
          try dsimp only at hw
          have hq_r_8 : r_8 = fl_yearsKept (FI a2.toNatClampNeg) (GR a2.toNatClampNeg) (FR a2.toNatClampNeg) (fBo a0.toNatClampNeg) a1 := hw
          exact W.lret (v := r_8) hx hb hr (fun t ht hW => ⟨r_8, rfl, (Eq.symm ((by rw [fx_age]; (try rw [if_neg hz_2]); (try rw [← hq_r_3]); (try rw [xL_eq]); (try rw [if_neg c_4]); (try rw [← hq_r_5]); (try rw [xL_eq]); (try rw [if_neg c_6]); (try rw [if_pos c_7]); (try rw [← hq_r_8]); (try rw [xL_eq]); try rfl))), ht⟩) (fun _ h => by cases h) dX11_age_68
        · refine lv_ldc2 (v := (-1)) hx hb hown (htw _ (ck_34 _ (List.mem_of_getElem? (i := 14) rfl))) dX11_age_49 ?_
          exact W.lret (v := (-1)) hx hb hr (fun t ht hW => ⟨(-1), rfl, (Eq.symm ((by rw [fx_age]; (try rw [if_neg hz_2]); (try rw [← hq_r_3]); (try rw [xL_eq]); (try rw [if_neg c_4]); (try rw [← hq_r_5]); (try rw [xL_eq]); (try rw [if_neg c_6]); (try rw [if_neg c_7]); try rfl))), ht⟩) (fun _ h => by cases h) dX11_age_52

def fx_elder (fTo : Nat → Int32) (fBo : Nat → Int64) (a0 : Int32) (a1 : Int32) : Int32 := (xL (fb_has fTo (2 : Int32) a0) (fun r_1 => (if r_1 = 0 then (-1 : Int32) else (xL (fb_has fTo (2 : Int32) a1) (fun r_3 => (if r_3 = 0 then (-1 : Int32) else (if 0 ≤ lg_cmp (fBo a1.toNatClampNeg) (fBo a0.toNatClampNeg) then a0 else a1)))))))
theorem gx_elder_s0 {y0 : Int32} {y1 : Int32} {y2 : Int32} (h0 : y1 ≤ 6) (h1 : ¬ (y1 ≤ y2)) (h2 : ¬ (y2 < 0)) (h3 : ¬ (y1 ≤ y0)) (h4 : ¬ (y0 < 0)) : ¬ (y0 < 0) ∧ ¬ (6 ≤ y0) := by lia
theorem gx_elder_s1 {y0 : Int32} {y1 : Int32} {y2 : Int32} (h0 : y1 ≤ 6) (h1 : ¬ (y1 ≤ y0)) (h2 : ¬ (y0 < 0)) (h3 : ¬ (y1 ≤ y2)) (h4 : ¬ (y2 < 0)) : ¬ (y0 < 0) ∧ ¬ (6 ≤ y0) := by lia
theorem dX11_elder_0 : decode cX11_elder 0 = .ok (.aload_n 0, 1) := zk_42 (by decide +kernel)
theorem dX11_elder_1 : decode cX11_elder 1 = .ok (.getfield 19, 3) := zk_180 (by decide +kernel)
theorem dX11_elder_4 : decode cX11_elder 4 = .ok (.iconst 2, 1) := zk_5 (by decide +kernel)
theorem dX11_elder_5 : decode cX11_elder 5 = .ok (.iload_n 1, 1) := zk_27 (by decide +kernel)
theorem dX11_elder_6 : decode cX11_elder 6 = .ok (.invokevirtual 178, 3) := zk_182 (by decide +kernel)
theorem dX11_elder_9 : decode cX11_elder 9 = .ok (.ifCond .eq 15, 3) := zk_153 (by decide +kernel)
theorem dX11_elder_24 : decode cX11_elder 24 = .ok (.iconst (-1), 1) := zk_2 (by decide +kernel)
theorem dX11_elder_25 : decode cX11_elder 25 = .ok (.ireturn, 1) := zk_172 (by decide +kernel)
theorem dX11_elder_12 : decode cX11_elder 12 = .ok (.aload_n 0, 1) := zk_42 (by decide +kernel)
theorem dX11_elder_13 : decode cX11_elder 13 = .ok (.getfield 19, 3) := zk_180 (by decide +kernel)
theorem dX11_elder_16 : decode cX11_elder 16 = .ok (.iconst 2, 1) := zk_5 (by decide +kernel)
theorem dX11_elder_17 : decode cX11_elder 17 = .ok (.iload_n 2, 1) := zk_28 (by decide +kernel)
theorem dX11_elder_18 : decode cX11_elder 18 = .ok (.invokevirtual 178, 3) := zk_182 (by decide +kernel)
theorem dX11_elder_21 : decode cX11_elder 21 = .ok (.ifCond .ne 5, 3) := zk_154 (by decide +kernel)
theorem dX11_elder_26 : decode cX11_elder 26 = .ok (.aload_n 0, 1) := zk_42 (by decide +kernel)
theorem dX11_elder_27 : decode cX11_elder 27 = .ok (.getfield 19, 3) := zk_180 (by decide +kernel)
theorem dX11_elder_30 : decode cX11_elder 30 = .ok (.getfield 226, 3) := zk_180 (by decide +kernel)
theorem dX11_elder_33 : decode cX11_elder 33 = .ok (.iload_n 2, 1) := zk_28 (by decide +kernel)
theorem dX11_elder_34 : decode cX11_elder 34 = .ok (.laload, 1) := zk_47 (by decide +kernel)
theorem dX11_elder_35 : decode cX11_elder 35 = .ok (.aload_n 0, 1) := zk_42 (by decide +kernel)
theorem dX11_elder_36 : decode cX11_elder 36 = .ok (.getfield 19, 3) := zk_180 (by decide +kernel)
theorem dX11_elder_39 : decode cX11_elder 39 = .ok (.getfield 226, 3) := zk_180 (by decide +kernel)
theorem dX11_elder_42 : decode cX11_elder 42 = .ok (.iload_n 1, 1) := zk_27 (by decide +kernel)
theorem dX11_elder_43 : decode cX11_elder 43 = .ok (.laload, 1) := zk_47 (by decide +kernel)
theorem dX11_elder_44 : decode cX11_elder 44 = .ok (.lcmp, 1) := zk_148 (by decide +kernel)
theorem dX11_elder_45 : decode cX11_elder 45 = .ok (.ifCond .ge 7, 3) := zk_156 (by decide +kernel)
theorem dX11_elder_52 : decode cX11_elder 52 = .ok (.iload_n 1, 1) := zk_27 (by decide +kernel)
theorem dX11_elder_53 : decode cX11_elder 53 = .ok (.ireturn, 1) := zk_172 (by decide +kernel)
theorem dX11_elder_48 : decode cX11_elder 48 = .ok (.iload_n 2, 1) := zk_28 (by decide +kernel)
theorem dX11_elder_49 : decode cX11_elder 49 = .ok (.goto 4, 3) := zk_167 (by decide +kernel)
set_option maxHeartbeats 4000000 in
set_option maxRecDepth 100000 in
theorem gx_elder (l : Launch) (dC : Nat → ClassId) (dI : Nat → Nat → Nat) (x : Nat) (pa : Nat) (bk : Nat) (xsp : Nat) (xdy : Nat) (le : Nat) (xst : Nat) (xsc : Int32) (xim : Nat) (xil : Nat) (xik : Int32) (xmo : Nat) (xom : Nat) (wi : Nat) (bto : Nat) (bnm : Nat) (bla : Nat) (bsk : Nat) (bru : Nat) (bbo : Nat) (bdi : Nat) (bda : Nat) (bdk : Nat) (bdt : Nat) (bdp : Nat) (bno : Nat) (cTo : ClassId) (fTo : Nat → Int32) (cBb : ClassId) (fBo : Nat → Int64) (a0 : Int32) (a1 : Int32) (ht2 : (fTo 2) ≤ 6) : Met l yX11_elder (Cond.code yX11_elder cX11_elder 3 (some .int) :: wsL_law) ({ frames := 1, cells := 0, slots := 0, locals := 22 }) (va_Pc [.ref x, .int a0, .int a1] (fun U => va_P (dC, dI) vwCl [(eO11a x pa bk xsp xdy le xst xsc xim xil xik xmo xom wi), (eO0a bk bto bnm bla bsk bru bbo bdi bda bdk bdt bdp bno), (eA0 bto cTo 5 fTo), (eA1 bbo cBb 6 fBo)] U.heap ∧ va_K (dC, dI) vwCl [(cTo, .int), (cBb, .long)] U)) (vp_Si (fun r => r = fx_elder fTo fBo a0 a1)) 0 0 (fun _ => False) := by
  refine Met.ofW (cc := cX11_elder) (maxL := 3) (ret := (some .int)) (by decide) rfl ?_
  intro p e s m args below meth c s₁ B hml hv
  obtain ⟨rfl, hP, hK⟩ := hv
  have hx := B.exec
  have hb := B.bytes
  have hr := B.returns
  have hts := atoms_spec (ws := Cond.code yX11_elder cX11_elder 3 (some .int) :: wsL_law) B.pre
  have htw : ∀ w ∈ wsL_law, w.before _ s = true := fun w h => hts w (List.mem_cons_of_mem _ h)
  have hown : s.vm.findClass RX11 = some m.cls := findClass_of_methodNamed B.named
  have hlocks := B.notSynchronized
  have hl := lv_entry ([.ref x, .int a0, .int a1]) (n := 3) (Nat.le_of_ble_eq_true rfl)
  rw [lg_entry_eq]
  generalize (lg_sl ([.ref x, .int a0, .int a1]) ++ List.replicate (3 - (lg_sl ([.ref x, .int a0, .int a1])).length) Slot.unset).toArray = ls at hl ⊢
  have hl : lv_has ls 3 [(0, .ref x), (1, .int a0), (2, .int a1)] := hl
  refine lv_aload_n hx hb dX11_elder_0 rfl (lv_at hl 0 rfl) ?_
  refine va_get (D := (dC, dI)) (ci := 11) (v := .ref bk) (C := RX11) (T := TX11) (N := 13) hx hb htw inlX11 hown hK hP 0 rfl rfl 1 (by decide) (htw _ (ck_1 _ (List.mem_of_getElem? (i := 21) rfl))) (fun _ h9 => h9) rfl dX11_elder_1 ?_
  refine lv_iconst (v := 2) hx hb dX11_elder_4 (by decide) ?_
  refine lv_iload_n hx hb dX11_elder_5 rfl (lv_at hl 1 rfl) ?_
  have hPc := hP.sub (ws' := [(eO0a bk bto bnm bla bsk bru bbo bdi bda bdk bdt bdp bno), (eA0 bto cTo 5 fTo)]) [1, 2] rfl
  have hKc := hK.sub (tys' := [(cTo, .int)]) [0] rfl
  refine vp_callSi (W.runV (As := [.int 2, .int a0]) (rest := []) ⟨hx, hb, hml, hown, htw⟩ (gb_has l dC dI bk bto bnm bla bsk bru bbo bdi bda bdk bdt bdp bno cTo fTo (2 : Int32) a0) (cwV 2 htw (xg_V (ck_38 _ (List.mem_of_getElem? (i := 15) rfl)) (ck_21 _ (List.mem_of_getElem? (i := 2) rfl)) (ck_21 _ (List.mem_of_getElem? (i := 3) rfl)) (ck_1 _ (List.mem_of_getElem? (i := 20) rfl)) (ck_21 _ (List.mem_of_getElem? (i := 4) rfl))) rfl rfl rfl (by exact ⟨rfl, hdc_6.1, hdc_6.2, hdd_8⟩) ⟨Nat.le_of_ble_eq_true rfl, Nat.le_of_ble_eq_true rfl⟩) ⟨fun a U g mk q => by obtain ⟨q0, qP, qK⟩ := q; exact ⟨q0, qP, va_K.moved (u := U) (U := U.calling g mk a) (Vm.Alike.refl U.vm) qK⟩, va_recv hKc hPc (ci := 0) (q0 := 0) rfl rfl, fun U hU hW => ⟨rfl, by rw [hU]; exact hPc, va_K.moved hW.alike hKc⟩⟩ rfl rfl hl.1 rfl (lv_room (Nat.le_of_ble_eq_true rfl)) dX11_elder_6 ⟨Nat.le_of_ble_eq_true rfl, Nat.le_of_ble_eq_true rfl⟩) (fun r_1 hw => ?_)
  try dsimp only at hw
  have hq_r_1 : r_1 = fb_has fTo (2 : Int32) a0 := hw
  refine lv_if_eq (tgt := 24) hx hb dX11_elder_9 (by decide) (fun c_2 => ?_) (fun c_2 => ?_)
  · refine lv_iconst (v := (-1)) hx hb dX11_elder_24 (by decide) ?_
    exact W.iret (v := (-1)) hx hb hr (fun t ht hW => ⟨(-1), rfl, (Eq.symm ((by rw [fx_elder]; (try rw [← hq_r_1]); (try rw [xL_eq]); (try rw [if_pos c_2]); try rfl))), ht⟩) (fun _ h => by cases h) dX11_elder_25
  · refine lv_aload_n hx hb dX11_elder_12 rfl (lv_at hl 0 rfl) ?_
    refine va_get (D := (dC, dI)) (ci := 11) (v := .ref bk) (C := RX11) (T := TX11) (N := 13) hx hb htw inlX11 hown hK hP 0 rfl rfl 1 (by decide) (htw _ (ck_1 _ (List.mem_of_getElem? (i := 21) rfl))) (fun _ h9 => h9) rfl dX11_elder_13 ?_
    refine lv_iconst (v := 2) hx hb dX11_elder_16 (by decide) ?_
    refine lv_iload_n hx hb dX11_elder_17 rfl (lv_at hl 2 rfl) ?_
    have hPc := hP.sub (ws' := [(eO0a bk bto bnm bla bsk bru bbo bdi bda bdk bdt bdp bno), (eA0 bto cTo 5 fTo)]) [1, 2] rfl
    have hKc := hK.sub (tys' := [(cTo, .int)]) [0] rfl
    refine vp_callSi (W.runV (As := [.int 2, .int a1]) (rest := []) ⟨hx, hb, hml, hown, htw⟩ (gb_has l dC dI bk bto bnm bla bsk bru bbo bdi bda bdk bdt bdp bno cTo fTo (2 : Int32) a1) (cwV 2 htw (xg_V (ck_38 _ (List.mem_of_getElem? (i := 15) rfl)) (ck_21 _ (List.mem_of_getElem? (i := 2) rfl)) (ck_21 _ (List.mem_of_getElem? (i := 3) rfl)) (ck_1 _ (List.mem_of_getElem? (i := 20) rfl)) (ck_21 _ (List.mem_of_getElem? (i := 4) rfl))) rfl rfl rfl (by exact ⟨rfl, hdc_6.1, hdc_6.2, hdd_8⟩) ⟨Nat.le_of_ble_eq_true rfl, Nat.le_of_ble_eq_true rfl⟩) ⟨fun a U g mk q => by obtain ⟨q0, qP, qK⟩ := q; exact ⟨q0, qP, va_K.moved (u := U) (U := U.calling g mk a) (Vm.Alike.refl U.vm) qK⟩, va_recv hKc hPc (ci := 0) (q0 := 0) rfl rfl, fun U hU hW => ⟨rfl, by rw [hU]; exact hPc, va_K.moved hW.alike hKc⟩⟩ rfl rfl hl.1 rfl (lv_room (Nat.le_of_ble_eq_true rfl)) dX11_elder_18 ⟨Nat.le_of_ble_eq_true rfl, Nat.le_of_ble_eq_true rfl⟩) (fun r_3 hw => ?_)
    try dsimp only at hw
    have hq_r_3 : r_3 = fb_has fTo (2 : Int32) a1 := hw
    refine lv_if_ne (tgt := 26) hx hb dX11_elder_21 (by decide) (fun c_4 => ?_) (fun c_4 => ?_)
    · refine lv_aload_n hx hb dX11_elder_26 rfl (lv_at hl 0 rfl) ?_
      refine va_get (D := (dC, dI)) (ci := 11) (v := .ref bk) (C := RX11) (T := TX11) (N := 13) hx hb htw inlX11 hown hK hP 0 rfl rfl 1 (by decide) (htw _ (ck_1 _ (List.mem_of_getElem? (i := 21) rfl))) (fun _ h9 => h9) rfl dX11_elder_27 ?_
      refine va_get (D := (dC, dI)) (ci := 0) (v := .ref bbo) (C := RX0) (T := TX0) (N := 12) hx hb htw inlX0 hown hK hP 1 rfl rfl 5 (by decide) (htw _ (ck_44 _ (List.mem_of_getElem? (i := 14) rfl))) (fun _ h9 => h9) rfl dX11_elder_30 ?_
      refine lv_iload_n hx hb dX11_elder_33 rfl (lv_at hl 2 rfl) ?_
      refine va_lald hx hb hK hP 3 1 rfl rfl (xg_inr (N := 6) rfl (gx_elder_s0 (y0 := a1) (y1 := fTo 2) (y2 := a0) ht2 (xb_hasin hq_r_1 c_2).2 (xb_hasin hq_r_1 c_2).1 (xb_hasin hq_r_3 c_4).2 (xb_hasin hq_r_3 c_4).1).1 (gx_elder_s0 (y0 := a1) (y1 := fTo 2) (y2 := a0) ht2 (xb_hasin hq_r_1 c_2).2 (xb_hasin hq_r_1 c_2).1 (xb_hasin hq_r_3 c_4).2 (xb_hasin hq_r_3 c_4).1).2) dX11_elder_34 ?_
      refine lv_aload_n hx hb dX11_elder_35 rfl (lv_at hl 0 rfl) ?_
      refine va_get (D := (dC, dI)) (ci := 11) (v := .ref bk) (C := RX11) (T := TX11) (N := 13) hx hb htw inlX11 hown hK hP 0 rfl rfl 1 (by decide) (htw _ (ck_1 _ (List.mem_of_getElem? (i := 21) rfl))) (fun _ h9 => h9) rfl dX11_elder_36 ?_
      refine va_get (D := (dC, dI)) (ci := 0) (v := .ref bbo) (C := RX0) (T := TX0) (N := 12) hx hb htw inlX0 hown hK hP 1 rfl rfl 5 (by decide) (htw _ (ck_44 _ (List.mem_of_getElem? (i := 14) rfl))) (fun _ h9 => h9) rfl dX11_elder_39 ?_
      refine lv_iload_n hx hb dX11_elder_42 rfl (lv_at hl 1 rfl) ?_
      refine va_lald hx hb hK hP 3 1 rfl rfl (xg_inr (N := 6) rfl (gx_elder_s1 (y0 := a0) (y1 := fTo 2) (y2 := a1) ht2 (xb_hasin hq_r_1 c_2).2 (xb_hasin hq_r_1 c_2).1 (xb_hasin hq_r_3 c_4).2 (xb_hasin hq_r_3 c_4).1).1 (gx_elder_s1 (y0 := a0) (y1 := fTo 2) (y2 := a1) ht2 (xb_hasin hq_r_1 c_2).2 (xb_hasin hq_r_1 c_2).1 (xb_hasin hq_r_3 c_4).2 (xb_hasin hq_r_3 c_4).1).2) dX11_elder_43 ?_
      refine W.lcmp hx hb dX11_elder_44 ?_
      refine lv_if_ge (tgt := 52) hx hb dX11_elder_45 (by decide) (fun c_5 => ?_) (fun c_5 => ?_)
      · refine lv_iload_n hx hb dX11_elder_52 rfl (lv_at hl 1 rfl) ?_
        exact W.iret (v := a0) hx hb hr (fun t ht hW => ⟨a0, rfl, (Eq.symm ((by rw [fx_elder]; (try rw [← hq_r_1]); (try rw [xL_eq]); (try rw [if_neg c_2]); (try rw [← hq_r_3]); (try rw [xL_eq]); (try rw [if_neg c_4]); (try rw [if_pos c_5]); try rfl))), ht⟩) (fun _ h => by cases h) dX11_elder_53
      · refine lv_iload_n hx hb dX11_elder_48 rfl (lv_at hl 2 rfl) ?_
        refine lv_goto (tgt := 53) hx hb dX11_elder_49 (by decide) ?_
        exact W.iret (v := a1) hx hb hr (fun t ht hW => ⟨a1, rfl, (Eq.symm ((by rw [fx_elder]; (try rw [← hq_r_1]); (try rw [xL_eq]); (try rw [if_neg c_2]); (try rw [← hq_r_3]); (try rw [xL_eq]); (try rw [if_neg c_4]); (try rw [if_neg c_5]); try rfl))), ht⟩) (fun _ h => by cases h) dX11_elder_53
    · refine lv_iconst (v := (-1)) hx hb dX11_elder_24 (by decide) ?_
      exact W.iret (v := (-1)) hx hb hr (fun t ht hW => ⟨(-1), rfl, (Eq.symm ((by rw [fx_elder]; (try rw [← hq_r_1]); (try rw [xL_eq]); (try rw [if_neg c_2]); (try rw [← hq_r_3]); (try rw [xL_eq]); (try rw [if_pos c_4]); try rfl))), ht⟩) (fun _ h => by cases h) dX11_elder_25

def fx_often (fTo : Nat → Int32) (FI : Nat → Int32) (GR : Nat → Int32) (FR : Nat → Int32) (a0 : Int32) (a1 : Int32) (a2 : Int32) (a3 : Int64) : Int64 := (if fb_landIs fTo a0 = 0 then (-1 : Int64) else (if a1 < 1 then (-1 : Int64) else (if 0 < lg_cmp a2.toInt64 1000000000 then (-1 : Int64) else (if a2 < a1 then (-1 : Int64) else (if 0 ≤ lg_cmp a3 1 then (xL (fl_yearsWithDay (FI a0.toNatClampNeg) (GR a0.toNatClampNeg) (FR a0.toNatClampNeg) a1.toInt64 a2.toInt64 a3) (fun r_7 => r_7)) else (-1 : Int64))))))
theorem dX11_often_0 : decode cX11_often 0 = .ok (.aload_n 0, 1) := zk_42 (by decide +kernel)
theorem dX11_often_1 : decode cX11_often 1 = .ok (.getfield 19, 3) := zk_180 (by decide +kernel)
theorem dX11_often_4 : decode cX11_often 4 = .ok (.iload_n 1, 1) := zk_27 (by decide +kernel)
theorem dX11_often_5 : decode cX11_often 5 = .ok (.invokevirtual 112, 3) := zk_182 (by decide +kernel)
theorem dX11_often_8 : decode cX11_often 8 = .ok (.astore 6, 2) := zk_58 (by decide +kernel)
theorem dX11_often_10 : decode cX11_often 10 = .ok (.aload 6, 2) := zk_25 (by decide +kernel)
theorem dX11_often_12 : decode cX11_often 12 = .ok (.ifnull 29, 3) := zk_198 (by decide +kernel)
theorem dX11_often_41 : decode cX11_often 41 = .ok (.ldc2_w 143, 3) := zk_20 (by decide +kernel)
theorem dX11_often_44 : decode cX11_often 44 = .ok (.lreturn, 1) := zk_173 (by decide +kernel)
theorem dX11_often_15 : decode cX11_often 15 = .ok (.iload_n 2, 1) := zk_28 (by decide +kernel)
theorem dX11_often_16 : decode cX11_often 16 = .ok (.iconst 1, 1) := zk_4 (by decide +kernel)
theorem dX11_often_17 : decode cX11_often 17 = .ok (.if_icmp .lt 24, 3) := zk_161 (by decide +kernel)
theorem dX11_often_20 : decode cX11_often 20 = .ok (.iload_n 3, 1) := zk_29 (by decide +kernel)
theorem dX11_often_21 : decode cX11_often 21 = .ok (.i2l, 1) := zk_133 (by decide +kernel)
theorem dX11_often_22 : decode cX11_often 22 = .ok (.ldc2_w 236, 3) := zk_20 (by decide +kernel)
theorem dX11_often_25 : decode cX11_often 25 = .ok (.lcmp, 1) := zk_148 (by decide +kernel)
theorem dX11_often_26 : decode cX11_often 26 = .ok (.ifCond .gt 15, 3) := zk_157 (by decide +kernel)
theorem dX11_often_29 : decode cX11_often 29 = .ok (.iload_n 2, 1) := zk_28 (by decide +kernel)
theorem dX11_often_30 : decode cX11_often 30 = .ok (.iload_n 3, 1) := zk_29 (by decide +kernel)
theorem dX11_often_31 : decode cX11_often 31 = .ok (.if_icmp .gt 10, 3) := zk_163 (by decide +kernel)
theorem dX11_often_34 : decode cX11_often 34 = .ok (.lload 4, 2) := zk_22 (by decide +kernel)
theorem dX11_often_36 : decode cX11_often 36 = .ok (.lconst 1, 1) := zk_10 (by decide +kernel)
theorem dX11_often_37 : decode cX11_often 37 = .ok (.lcmp, 1) := zk_148 (by decide +kernel)
theorem dX11_often_38 : decode cX11_often 38 = .ok (.ifCond .ge 7, 3) := zk_156 (by decide +kernel)
theorem dX11_often_45 : decode cX11_often 45 = .ok (.aload 6, 2) := zk_25 (by decide +kernel)
theorem dX11_often_47 : decode cX11_often 47 = .ok (.iload_n 2, 1) := zk_28 (by decide +kernel)
theorem dX11_often_48 : decode cX11_often 48 = .ok (.i2l, 1) := zk_133 (by decide +kernel)
theorem dX11_often_49 : decode cX11_often 49 = .ok (.iload_n 3, 1) := zk_29 (by decide +kernel)
theorem dX11_often_50 : decode cX11_often 50 = .ok (.i2l, 1) := zk_133 (by decide +kernel)
theorem dX11_often_51 : decode cX11_often 51 = .ok (.lload 4, 2) := zk_22 (by decide +kernel)
theorem dX11_often_53 : decode cX11_often 53 = .ok (.invokevirtual 238, 3) := zk_182 (by decide +kernel)
theorem dX11_often_56 : decode cX11_often 56 = .ok (.lreturn, 1) := zk_173 (by decide +kernel)
set_option maxHeartbeats 4000000 in
set_option maxRecDepth 100000 in
theorem gx_often (l : Launch) (dC : Nat → ClassId) (dI : Nat → Nat → Nat) (x : Nat) (pa : Nat) (bk : Nat) (xsp : Nat) (xdy : Nat) (le : Nat) (xst : Nat) (xsc : Int32) (xim : Nat) (xil : Nat) (xik : Int32) (xmo : Nat) (xom : Nat) (wi : Nat) (bto : Nat) (bnm : Nat) (bla : Nat) (bsk : Nat) (bru : Nat) (bbo : Nat) (bdi : Nat) (bda : Nat) (bdk : Nat) (bdt : Nat) (bdp : Nat) (bno : Nat) (cTo : ClassId) (fTo : Nat → Int32) (cLa : ClassId) (La : Nat → Nat) (FI : Nat → Int32) (GR : Nat → Int32) (FR : Nat → Int32) (a0 : Int32) (a1 : Int32) (a2 : Int32) (a3 : Int64) : Met l yX11_often (Cond.code yX11_often cX11_often 7 (some .long) :: wsL_law) ({ frames := 2, cells := 0, slots := 0, locals := 53 }) (va_Pc [.ref x, .int a0, .int a1, .int a2, .long a3] (fun U => va_P (dC, dI) vwCl [(eO11a x pa bk xsp xdy le xst xsc xim xil xik xmo xom wi), (eO0a bk bto bnm bla bsk bru bbo bdi bda bdk bdt bdp bno), (eA0 bto cTo 5 fTo), (eA4 bla cLa 4 (fun k => some (La k))), (eO1a (La 0) (FI 0) (GR 0) (FR 0)), (eO1a (La 1) (FI 1) (GR 1) (FR 1)), (eO1a (La 2) (FI 2) (GR 2) (FR 2)), (eO1a (La 3) (FI 3) (GR 3) (FR 3))] U.heap ∧ va_K (dC, dI) vwCl [(cTo, .int), (cLa, .object RX1)] U ∧ xN U)) (vp_Sl (fun r => r = fx_often fTo FI GR FR a0 a1 a2 a3)) 0 0 (fun _ => False) := by
  refine Met.ofW (cc := cX11_often) (maxL := 7) (ret := (some .long)) (by decide) rfl ?_
  intro p e s m args below meth c s₁ B hml hv
  obtain ⟨rfl, hP, hK, hNx⟩ := hv
  have hx := B.exec
  have hb := B.bytes
  have hr := B.returns
  have hts := atoms_spec (ws := Cond.code yX11_often cX11_often 7 (some .long) :: wsL_law) B.pre
  have htw : ∀ w ∈ wsL_law, w.before _ s = true := fun w h => hts w (List.mem_cons_of_mem _ h)
  have hown : s.vm.findClass RX11 = some m.cls := findClass_of_methodNamed B.named
  have hlocks := B.notSynchronized
  have hl := lv_entry ([.ref x, .int a0, .int a1, .int a2, .long a3]) (n := 7) (Nat.le_of_ble_eq_true rfl)
  rw [lg_entry_eq]
  generalize (lg_sl ([.ref x, .int a0, .int a1, .int a2, .long a3]) ++ List.replicate (7 - (lg_sl ([.ref x, .int a0, .int a1, .int a2, .long a3])).length) Slot.unset).toArray = ls at hl ⊢
  have hl : lv_has ls 7 [(0, .ref x), (1, .int a0), (2, .int a1), (3, .int a2), (4, .long a3)] := hl
  refine lv_aload_n hx hb dX11_often_0 rfl (lv_at hl 0 rfl) ?_
  refine va_get (D := (dC, dI)) (ci := 11) (v := .ref bk) (C := RX11) (T := TX11) (N := 13) hx hb htw inlX11 hown hK hP 0 rfl rfl 1 (by decide) (htw _ (ck_1 _ (List.mem_of_getElem? (i := 21) rfl))) (fun _ h9 => h9) rfl dX11_often_1 ?_
  refine lv_iload_n hx hb dX11_often_4 rfl (lv_at hl 1 rfl) ?_
  have hPc := hP.sub (ws' := [(eO0a bk bto bnm bla bsk bru bbo bdi bda bdk bdt bdp bno), (eA0 bto cTo 5 fTo), (eA4 bla cLa 4 (fun k => some (La k)))]) [1, 2, 3] rfl
  have hKc := hK.sub (tys' := [(cTo, .int), (cLa, .object RX1)]) [0, 1] rfl
  refine va_csq (W.runV (As := [.int a0]) (rest := []) ⟨hx, hb, hml, hown, htw⟩ (gb_landAt l dC dI bk bto bnm bla bsk bru bbo bdi bda bdk bdt bdp bno cTo fTo cLa La a0) (cwV 1 htw (xg_V (ck_33 _ (List.mem_of_getElem? (i := 21) rfl)) (ck_20 _ (List.mem_of_getElem? (i := 22) rfl)) (ck_20 _ (List.mem_of_getElem? (i := 23) rfl)) (ck_1 _ (List.mem_of_getElem? (i := 20) rfl)) (ck_21 _ (List.mem_of_getElem? (i := 0) rfl))) rfl rfl rfl (by exact ⟨rfl, hdc_6.1, hdc_6.2, hdd_15⟩) ⟨Nat.le_of_ble_eq_true rfl, Nat.le_of_ble_eq_true rfl⟩) ⟨fun a U g mk q => by obtain ⟨q0, qP, qK⟩ := q; exact ⟨q0, qP, va_K.moved (u := U) (U := U.calling g mk a) (Vm.Alike.refl U.vm) qK⟩, va_recv hKc hPc (ci := 0) (q0 := 0) rfl rfl, fun U hU hW => ⟨rfl, by rw [hU]; exact hPc, va_K.moved hW.alike hKc⟩⟩ rfl rfl hl.1 rfl (lv_room (Nat.le_of_ble_eq_true rfl)) dX11_often_5 ⟨Nat.le_of_ble_eq_true rfl, Nat.le_of_ble_eq_true rfl⟩) (fun r_1 hw => ?_)
  try dsimp only at hw
  by_cases hz_2 : fb_landIs fTo a0 = 0
  · obtain rfl : r_1 = none := by rw [hw, if_pos hz_2]
    refine W.eq (g2 := F0 m 8 ls [.null]) rfl ?_
    refine lv_astoreN (lv' := [(6, .null), (0, .ref x), (1, .int a0), (2, .int a1), (3, .int a2), (4, .long a3)]) hx hb dX11_often_8 hl (by decide) rfl (fun ls hl => ?_)
    refine lv_aloadN hx hb dX11_often_10 (lv_at hl 0 rfl) ?_
    refine lv_ifnullN (tgt := 41) hx hb dX11_often_12 (by decide) ?_
    refine lv_ldc2 (v := (-1)) hx hb hown (htw _ (ck_34 _ (List.mem_of_getElem? (i := 14) rfl))) dX11_often_41 ?_
    exact W.lret (v := (-1)) hx hb hr (fun t ht hW => ⟨(-1), rfl, (Eq.symm ((by rw [fx_often]; (try rw [if_pos hz_2]); try rfl))), ht⟩) (fun _ h => by cases h) dX11_often_44
  · obtain rfl : r_1 = some (La a0.toNatClampNeg) := by rw [hw, if_neg hz_2]
    have hP : va_P (dC, dI) vwCl [(eO11a x pa bk xsp xdy le xst xsc xim xil xik xmo xom wi), (eO0a bk bto bnm bla bsk bru bbo bdi bda bdk bdt bdp bno), (eA0 bto cTo 5 fTo), (eA4 bla cLa 4 (fun k => some (La k))), (eO1a (La 0) (FI 0) (GR 0) (FR 0)), (eO1a (La 1) (FI 1) (GR 1) (FR 1)), (eO1a (La 2) (FI 2) (GR 2) (FR 2)), (eO1a (La 3) (FI 3) (GR 3) (FR 3)), ((La a0.toNatClampNeg), .inr (1, [.int (FI a0.toNatClampNeg), .int (GR a0.toNatClampNeg), .int (FR a0.toNatClampNeg)]))] s.heap := xb_P4 hP (fun k => (La k, .inr (1, [.int (FI k), .int (GR k), .int (FR k)]))) 4 rfl rfl rfl rfl (i := a0) (xg_inr (N := 4) rfl (fb_landIn hz_2).1 (fb_landIn hz_2).2)
    refine W.eq (g2 := F0 m 8 ls [.ref (La a0.toNatClampNeg)]) rfl ?_
    refine lv_astore (lv' := [(6, .ref (La a0.toNatClampNeg)), (0, .ref x), (1, .int a0), (2, .int a1), (3, .int a2), (4, .long a3)]) hx hb dX11_often_8 hl (by decide) rfl (fun ls hl => ?_)
    refine lv_aload hx hb dX11_often_10 (lv_at hl 0 rfl) ?_
    refine lv_ifnull hx hb dX11_often_12 ?_
    refine lv_iload_n hx hb dX11_often_15 rfl (lv_at hl 3 rfl) ?_
    refine lv_iconst (v := 1) hx hb dX11_often_16 (by decide) ?_
    refine lv_icmp_lt (tgt := 41) hx hb dX11_often_17 (by decide) (fun c_3 => ?_) (fun c_3 => ?_)
    · refine lv_ldc2 (v := (-1)) hx hb hown (htw _ (ck_34 _ (List.mem_of_getElem? (i := 14) rfl))) dX11_often_41 ?_
      exact W.lret (v := (-1)) hx hb hr (fun t ht hW => ⟨(-1), rfl, (Eq.symm ((by rw [fx_often]; (try rw [if_neg hz_2]); (try rw [if_pos c_3]); try rfl))), ht⟩) (fun _ h => by cases h) dX11_often_44
    · refine lv_iload_n hx hb dX11_often_20 rfl (lv_at hl 4 rfl) ?_
      refine lv_i2l (v := a2.toInt64) hx hb dX11_often_21 rfl ?_
      refine lv_ldc2 (v := 1000000000) hx hb hown (htw _ (ck_46 _ (List.mem_of_getElem? (i := 7) rfl))) dX11_often_22 ?_
      refine W.lcmp hx hb dX11_often_25 ?_
      refine lv_if_gt (tgt := 41) hx hb dX11_often_26 (by decide) (fun c_4 => ?_) (fun c_4 => ?_)
      · refine lv_ldc2 (v := (-1)) hx hb hown (htw _ (ck_34 _ (List.mem_of_getElem? (i := 14) rfl))) dX11_often_41 ?_
        exact W.lret (v := (-1)) hx hb hr (fun t ht hW => ⟨(-1), rfl, (Eq.symm ((by rw [fx_often]; (try rw [if_neg hz_2]); (try rw [if_neg c_3]); (try rw [if_pos c_4]); try rfl))), ht⟩) (fun _ h => by cases h) dX11_often_44
      · refine lv_iload_n hx hb dX11_often_29 rfl (lv_at hl 3 rfl) ?_
        refine lv_iload_n hx hb dX11_often_30 rfl (lv_at hl 4 rfl) ?_
        refine lv_icmp_gt (tgt := 41) hx hb dX11_often_31 (by decide) (fun c_5 => ?_) (fun c_5 => ?_)
        · refine lv_ldc2 (v := (-1)) hx hb hown (htw _ (ck_34 _ (List.mem_of_getElem? (i := 14) rfl))) dX11_often_41 ?_
          exact W.lret (v := (-1)) hx hb hr (fun t ht hW => ⟨(-1), rfl, (Eq.symm ((by rw [fx_often]; (try rw [if_neg hz_2]); (try rw [if_neg c_3]); (try rw [if_neg c_4]); (try rw [if_pos c_5]); try rfl))), ht⟩) (fun _ h => by cases h) dX11_often_44
        · refine lv_lload hx hb dX11_often_34 (lv_at hl 5 rfl) ?_
          refine lv_lconst (v := 1) hx hb dX11_often_36 (by decide) ?_
          refine W.lcmp hx hb dX11_often_37 ?_
          refine lv_if_ge (tgt := 45) hx hb dX11_often_38 (by decide) (fun c_6 => ?_) (fun c_6 => ?_)
          · refine lv_aload hx hb dX11_often_45 (lv_at hl 0 rfl) ?_
            refine lv_iload_n hx hb dX11_often_47 rfl (lv_at hl 3 rfl) ?_
            refine lv_i2l (v := a1.toInt64) hx hb dX11_often_48 rfl ?_
            refine lv_iload_n hx hb dX11_often_49 rfl (lv_at hl 4 rfl) ?_
            refine lv_i2l (v := a2.toInt64) hx hb dX11_often_50 rfl ?_
            refine lv_lload hx hb dX11_often_51 (lv_at hl 5 rfl) ?_
            have hPc := hP.sub (ws' := [((La a0.toNatClampNeg), .inr (1, [.int (FI a0.toNatClampNeg), .int (GR a0.toNatClampNeg), .int (FR a0.toNatClampNeg)]))]) [8] rfl
            have hKc := hK.sub (tys' := []) [] rfl
            refine vp_callSl (W.runV (As := [.long a1.toInt64, .long a2.toInt64, .long a3]) (rest := []) ⟨hx, hb, hml, hown, htw⟩ (gl_yearsWithDay l dC dI (La a0.toNatClampNeg) (FI a0.toNatClampNeg) (GR a0.toNatClampNeg) (FR a0.toNatClampNeg) a1.toInt64 a2.toInt64 a3) (cwV 3 htw (xg_V (ck_46 _ (List.mem_of_getElem? (i := 8) rfl)) (ck_46 _ (List.mem_of_getElem? (i := 9) rfl)) (ck_46 _ (List.mem_of_getElem? (i := 10) rfl)) (ck_6 _ (List.mem_of_getElem? (i := 19) rfl)) (ck_46 _ (List.mem_of_getElem? (i := 11) rfl))) rfl rfl rfl (by exact ⟨rfl, hdc_0.1, hdc_0.2, hdd_17⟩) ⟨Nat.le_of_ble_eq_true rfl, Nat.le_of_ble_eq_true rfl⟩) ⟨fun a U g mk q => by obtain ⟨q0, qP, qK, qx⟩ := q; exact ⟨q0, qP, va_K.moved (u := U) (U := U.calling g mk a) (Vm.Alike.refl U.vm) qK, xN.calling qx⟩, va_recv hKc hPc (ci := 1) (q0 := 0) rfl rfl, fun U hU hW => ⟨rfl, by rw [hU]; exact hPc, va_K.moved hW.alike hKc, xN.warm hW hNx⟩⟩ rfl rfl hl.1 rfl (lv_room (Nat.le_of_ble_eq_true rfl)) dX11_often_53 ⟨Nat.le_of_ble_eq_true rfl, Nat.le_of_ble_eq_true rfl⟩) (fun r_7 hw => ?_)
            try dsimp only at hw
            have hq_r_7 : r_7 = fl_yearsWithDay (FI a0.toNatClampNeg) (GR a0.toNatClampNeg) (FR a0.toNatClampNeg) a1.toInt64 a2.toInt64 a3 := hw
            exact W.lret (v := r_7) hx hb hr (fun t ht hW => ⟨r_7, rfl, (Eq.symm ((by rw [fx_often]; (try rw [if_neg hz_2]); (try rw [if_neg c_3]); (try rw [if_neg c_4]); (try rw [if_neg c_5]); (try rw [if_pos c_6]); (try rw [← hq_r_7]); (try rw [xL_eq]); try rfl))), ht⟩) (fun _ h => by cases h) dX11_often_56
          · refine lv_ldc2 (v := (-1)) hx hb hown (htw _ (ck_34 _ (List.mem_of_getElem? (i := 14) rfl))) dX11_often_41 ?_
            exact W.lret (v := (-1)) hx hb hr (fun t ht hW => ⟨(-1), rfl, (Eq.symm ((by rw [fx_often]; (try rw [if_neg hz_2]); (try rw [if_neg c_3]); (try rw [if_neg c_4]); (try rw [if_neg c_5]); (try rw [if_neg c_6]); try rfl))), ht⟩) (fun _ h => by cases h) dX11_often_44
