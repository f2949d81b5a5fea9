def fp_beginSky (pfa : Int32) (pfp : Int32) (psk : Int32) (lxe : Int32) (lxa : Int32) (lxt : Int32) (lxp : Int32) (lxn : Int32) (lxl : Int32) (fBy : Nat → Int32) (fCo : Nat → Int32) (a0 : Int32) : Int32 × (Int32) × (Int32) × (Int32) × (Int32) × (Int32) × (Int32) × (Int32) × (Int32) := (if (psk &&& a0) = 0 then (xL ((fe_advance lxe lxa lxn lxl fBy fCo)) (fun u_4 => ((0 : Int32), pfa, pfp, (psk ||| a0), u_4.1, u_4.2.1, u_4.2.2.1, u_4.2.2.2.1, u_4.2.2.2.2))) else ((1 : Int32), (3 : Int32), lxp, psk, lxa, lxt, lxp, lxn, lxl))
theorem gp_beginSky_s0  : (0 : Int32) = 0 := (by decide)
theorem gp_beginSky_s1 {y0 : Int32} (h0 : ¬ (y0 < 0)) : ¬ (y0 < 0) := h0
theorem gp_beginSky_s2  : ¬ ((1 : Int32) = 0) := (by decide)
theorem dX7_beginSky_0 : decode cX7_beginSky 0 = .ok (.aload_n 0, 1) := zk_42 (by decide +kernel)
theorem dX7_beginSky_1 : decode cX7_beginSky 1 = .ok (.aload_n 0, 1) := zk_42 (by decide +kernel)
theorem dX7_beginSky_2 : decode cX7_beginSky 2 = .ok (.getfield 40, 3) := zk_180 (by decide +kernel)
theorem dX7_beginSky_5 : decode cX7_beginSky 5 = .ok (.iload_n 1, 1) := zk_27 (by decide +kernel)
theorem dX7_beginSky_6 : decode cX7_beginSky 6 = .ok (.iand, 1) := zk_126 (by decide +kernel)
theorem dX7_beginSky_7 : decode cX7_beginSky 7 = .ok (.ifCond .eq 7, 3) := zk_153 (by decide +kernel)
theorem dX7_beginSky_14 : decode cX7_beginSky 14 = .ok (.iconst 0, 1) := zk_3 (by decide +kernel)
theorem dX7_beginSky_15 : decode cX7_beginSky 15 = .ok (.iconst 3, 1) := zk_6 (by decide +kernel)
theorem dX7_beginSky_16 : decode cX7_beginSky 16 = .ok (.aload_n 0, 1) := zk_42 (by decide +kernel)
theorem dX7_beginSky_17 : decode cX7_beginSky 17 = .ok (.getfield 12, 3) := zk_180 (by decide +kernel)
theorem dX7_beginSky_20 : decode cX7_beginSky 20 = .ok (.getfield 87, 3) := zk_180 (by decide +kernel)
theorem dX7_beginSky_23 : decode cX7_beginSky 23 = .ok (.invokevirtual 90, 3) := zk_182 (by decide +kernel)
theorem dX7_beginSky_26 : decode cX7_beginSky 26 = .ok (.aload_n 0, 1) := zk_42 (by decide +kernel)
theorem dX7_beginSky_27 : decode cX7_beginSky 27 = .ok (.dup, 1) := zk_89 (by decide +kernel)
theorem dX7_beginSky_28 : decode cX7_beginSky 28 = .ok (.getfield 40, 3) := zk_180 (by decide +kernel)
theorem dX7_beginSky_31 : decode cX7_beginSky 31 = .ok (.iload_n 1, 1) := zk_27 (by decide +kernel)
theorem dX7_beginSky_32 : decode cX7_beginSky 32 = .ok (.ior, 1) := zk_128 (by decide +kernel)
theorem dX7_beginSky_33 : decode cX7_beginSky 33 = .ok (.putfield 40, 3) := zk_181 (by decide +kernel)
theorem dX7_beginSky_36 : decode cX7_beginSky 36 = .ok (.aload_n 0, 1) := zk_42 (by decide +kernel)
theorem dX7_beginSky_37 : decode cX7_beginSky 37 = .ok (.getfield 12, 3) := zk_180 (by decide +kernel)
theorem dX7_beginSky_40 : decode cX7_beginSky 40 = .ok (.invokevirtual 123, 3) := zk_182 (by decide +kernel)
theorem dX7_beginSky_43 : decode cX7_beginSky 43 = .ok (.return_, 1) := zk_177 (by decide +kernel)
theorem dX7_beginSky_10 : decode cX7_beginSky 10 = .ok (.iconst 1, 1) := zk_4 (by decide +kernel)
theorem dX7_beginSky_11 : decode cX7_beginSky 11 = .ok (.goto 4, 3) := zk_167 (by decide +kernel)
set_option maxHeartbeats 4000000 in
set_option maxRecDepth 100000 in
theorem gp_beginSky (l : Launch) (hst : l.stackTraces = false) (dC : Nat → ClassId) (dI : Nat → Nat → Nat) (pa : Nat) (lx : Nat) (bk : Nat) (pfa : Int32) (pfp : Int32) (psk : Int32) (phe : Nat) (phr : Nat) (phs : Int32) (pop : Int32) (lby : Nat) (lfi : Int32) (lco : Nat) (lxe : Int32) (lxa : Int32) (lxt : Int32) (lxp : Int32) (lxn : Int32) (lxl : Int32) (cBy : ClassId) (fBy : Nat → Int32) (cCo : ClassId) (fCo : Nat → Int32) (a0 : Int32) (sL : Nat → Nat) (sz : Nat) (h0_lxa : ¬ lxa < 0) (h9_lxe : lxe ≤ 900) : vx_Met l yX7_beginSky (Cond.code yX7_beginSky cX7_beginSky 2 none :: wsL_law) ({ frames := 7, cells := 1, slots := 6, locals := 105 }) (va_Pc [.ref pa, .int a0] (fun U => U.heap.size = sz ∧ va_P (dC, dI) vwCl [(eO7a pa lx bk pfa pfp psk phe phr phs pop), (eO3a lx lby lfi lco lxe lxa lxt lxp lxn lxl), (eA0 lby cBy 900 fBy), (eA0 lco cCo 23 fCo)] U.heap ∧ va_K (dC, dI) vwCl [(cBy, .byte), (cCo, .int)] U ∧ va_D (fun _ => True) [(eO7a pa lx bk pfa pfp psk phe phr phs pop), (eO3a lx lby lfi lco lxe lxa lxt lxp lxn lxl), (eA0 lby cBy 900 fBy), (eA0 lco cCo 23 fCo)] ∧ xl sL (va_A [(eO7a pa lx bk pfa pfp psk phe phr phs pop), (eO3a lx lby lfi lco lxe lxa lxt lxp lxn lxl), (eA0 lby cBy 900 fBy), (eA0 lco cCo 23 fCo)] sz) U U.heap)) (va_Qv (fun (u : (Int32) × (Int32) × (Int32) × (Int32) × (Int32) × (Int32) × (Int32) × (Int32)) => ((fp_beginSky pfa pfp psk lxe lxa lxt lxp lxn lxl fBy fCo a0).1 = 0 ∧ u = (fp_beginSky pfa pfp psk lxe lxa lxt lxp lxn lxl fBy fCo a0).2) ∧ (¬ u.2.2.2.1 < 0)) (fun (u : (Int32) × (Int32) × (Int32) × (Int32) × (Int32) × (Int32) × (Int32) × (Int32)) t => (va_P (dC, dI) vwCl [(eO7a pa lx bk u.1 u.2.1 u.2.2.1 phe phr phs pop), (eO3a lx lby lfi lco lxe u.2.2.2.1 u.2.2.2.2.1 u.2.2.2.2.2.1 u.2.2.2.2.2.2.1 u.2.2.2.2.2.2.2), (eA0 lby cBy 900 fBy), (eA0 lco cCo 23 fCo)] t.heap ∧ va_K (dC, dI) vwCl [] t ∧ va_D (va_A [(eO7a pa lx bk pfa pfp psk phe phr phs pop), (eO3a lx lby lfi lco lxe lxa lxt lxp lxn lxl), (eA0 lby cBy 900 fBy), (eA0 lco cCo 23 fCo)] sz) [(eO7a pa lx bk u.1 u.2.1 u.2.2.1 phe phr phs pop), (eO3a lx lby lfi lco lxe u.2.2.2.1 u.2.2.2.2.1 u.2.2.2.2.2.1 u.2.2.2.2.2.2.1 u.2.2.2.2.2.2.2), (eA0 lby cBy 900 fBy), (eA0 lco cCo 23 fCo)]) ∧ t.heap.size = sz) (va_A [(eO7a pa lx bk pfa pfp psk phe phr phs pop), (eO3a lx lby lfi lco lxe lxa lxt lxp lxn lxl), (eA0 lby cBy 900 fBy), (eA0 lco cCo 23 fCo)] sz)) (vx_X (fun (u : (Int32) × (Int32) × (Int32) × (Int32) × (Int32) × (Int32) × (Int32) × (Int32)) => (fp_beginSky pfa pfp psk lxe lxa lxt lxp lxn lxl fBy fCo a0).1 = 1 ∧ u = (fp_beginSky pfa pfp psk lxe lxa lxt lxp lxn lxl fBy fCo a0).2) (fun (E : String) (u : (Int32) × (Int32) × (Int32) × (Int32) × (Int32) × (Int32) × (Int32) × (Int32)) (t : State) => E = "java/lang/IllegalStateException" ∧ va_P (dC, dI) vwCl [(eO7a pa lx bk u.1 u.2.1 u.2.2.1 phe phr phs pop), (eO3a lx lby lfi lco lxe u.2.2.2.1 u.2.2.2.2.1 u.2.2.2.2.2.1 u.2.2.2.2.2.2.1 u.2.2.2.2.2.2.2), (eA0 lby cBy 900 fBy), (eA0 lco cCo 23 fCo)] t.heap ∧ va_K (dC, dI) vwCl [] t ∧ va_D (va_A [(eO7a pa lx bk pfa pfp psk phe phr phs pop), (eO3a lx lby lfi lco lxe lxa lxt lxp lxn lxl), (eA0 lby cBy 900 fBy), (eA0 lco cCo 23 fCo)] sz) [(eO7a pa lx bk u.1 u.2.1 u.2.2.1 phe phr phs pop), (eO3a lx lby lfi lco lxe u.2.2.2.1 u.2.2.2.2.1 u.2.2.2.2.2.1 u.2.2.2.2.2.2.1 u.2.2.2.2.2.2.2), (eA0 lby cBy 900 fBy), (eA0 lco cCo 23 fCo)]) (va_A [(eO7a pa lx bk pfa pfp psk phe phr phs pop), (eO3a lx lby lfi lco lxe lxa lxt lxp lxn lxl), (eA0 lby cBy 900 fBy), (eA0 lco cCo 23 fCo)] sz)) 1 6 (va_A [(eO7a pa lx bk pfa pfp psk phe phr phs pop), (eO3a lx lby lfi lco lxe lxa lxt lxp lxn lxl), (eA0 lby cBy 900 fBy), (eA0 lco cCo 23 fCo)] sz) := by
  refine vx_ofW (cc := cX7_beginSky) (maxL := 2) (ret := none) (by decide) rfl ?_
  intro p e s m args below meth c s₁ B hml hex hv
  obtain ⟨rfl, hsz, hP, hK, hD0, hXL⟩ := hv
  have hx := B.exec
  have hb := B.bytes
  have hr := B.returns
  have hts := atoms_spec (ws := Cond.code yX7_beginSky cX7_beginSky 2 none :: wsL_law) B.pre
  have htw : ∀ w ∈ wsL_law, w.before _ s = true := fun w h => hts w (List.mem_cons_of_mem _ h)
  have hown : s.vm.findClass RX7 = some m.cls := findClass_of_methodNamed B.named
  have hlocks := B.notSynchronized
  subst hsz
  have hD := hD0.self (sz := s.heap.size)
  generalize hAe : va_A [(eO7a pa lx bk pfa pfp psk phe phr phs pop), (eO3a lx lby lfi lco lxe lxa lxt lxp lxn lxl), (eA0 lby cBy 900 fBy), (eA0 lco cCo 23 fCo)] s.heap.size = A at hD hXL ⊢
  have hA : ∀ q : Nat, s.heap.size ≤ q → A q := fun q h => by rw [← hAe]; exact Or.inr h
  obtain ⟨H, rH⟩ : ∃ z : Heap, z = s.heap := ⟨_, rfl⟩
  have hS : va_S A s.heap H [] := by rw [rH]; exact va_S.rf
  have hP : va_P (dC, dI) vwCl [(eO7a pa lx bk pfa pfp psk phe phr phs pop), (eO3a lx lby lfi lco lxe lxa lxt lxp lxn lxl), (eA0 lby cBy 900 fBy), (eA0 lco cCo 23 fCo)] H := by rw [rH]; exact hP
  rw [← rH]
  have hl := lv_entry ([.ref pa, .int a0]) (n := 2) (Nat.le_of_ble_eq_true rfl)
  rw [lg_entry_eq]
  generalize (lg_sl ([.ref pa, .int a0]) ++ List.replicate (2 - (lg_sl ([.ref pa, .int a0])).length) Slot.unset).toArray = ls at hl ⊢
  have hl : lv_has ls 2 [(0, .ref pa), (1, .int a0)] := hl
  refine lv_aload_n hx hb dX7_beginSky_0 rfl (lv_at hl 0 rfl) ?_
  refine lv_aload_n hx hb dX7_beginSky_1 rfl (lv_at hl 0 rfl) ?_
  refine va_get (D := (dC, dI)) (ci := 7) (v := .int psk) (C := RX7) (T := TX7) (N := 9) hx hb htw inlX7 hown hK hP 0 rfl rfl 4 (by decide) (htw _ (ck_13 _ (List.mem_of_getElem? (i := 7) rfl))) (fun _ h9 => h9) rfl dX7_beginSky_2 ?_
  refine lv_iload_n hx hb dX7_beginSky_5 rfl (lv_at hl 1 rfl) ?_
  refine lv_iand hx hb dX7_beginSky_6 ?_
  refine lv_if_eq (tgt := 14) hx hb dX7_beginSky_7 (by decide) (fun c_1 => ?_) (fun c_1 => ?_)
  · refine lv_iconst (v := 0) hx hb dX7_beginSky_14 (by decide) ?_
    refine lv_iconst (v := 3) hx hb dX7_beginSky_15 (by decide) ?_
    refine lv_aload_n hx hb dX7_beginSky_16 rfl (lv_at hl 0 rfl) ?_
    refine va_get (D := (dC, dI)) (ci := 7) (v := .ref lx) (C := RX7) (T := TX7) (N := 9) hx hb htw inlX7 hown hK hP 0 rfl rfl 0 (by decide) (htw _ (ck_3 _ (List.mem_of_getElem? (i := 5) rfl))) (fun _ h9 => h9) rfl dX7_beginSky_17 ?_
    refine va_get (D := (dC, dI)) (ci := 3) (v := .int lxp) (C := RX3) (T := TX3) (N := 9) hx hb htw inlX3 hown hK hP 1 rfl rfl 6 (by decide) (htw _ (ck_15 _ (List.mem_of_getElem? (i := 13) rfl))) (fun _ h9 => h9) rfl dX7_beginSky_20 ?_
    have hPc := hP.sub (ws' := []) [] rfl
    have hKc := hK.sub (tys' := []) [] rfl
    refine va_csv (W.runV (As := [.int 0, .int 3, .int lxp]) (rest := []) ⟨hx, hb, hml, hown, htw⟩ (gp_ref0 l dC dI (0 : Int32) (3 : Int32) lxp pa (gp_beginSky_s0 )) (cwV 3 htw (xg_V (ck_16 _ (List.mem_of_getElem? (i := 6) rfl)) (ck_16 _ (List.mem_of_getElem? (i := 7) rfl)) (ck_16 _ (List.mem_of_getElem? (i := 8) rfl)) (ck_1 _ (List.mem_of_getElem? (i := 16) rfl)) (ck_16 _ (List.mem_of_getElem? (i := 9) rfl))) rfl rfl rfl (by exact ⟨rfl, hdc_15.1, hdc_15.2, hdd_48⟩) ⟨Nat.le_of_ble_eq_true rfl, Nat.le_of_ble_eq_true rfl⟩) ⟨fun a U g mk q => by obtain ⟨q0, qP, qK⟩ := q; exact ⟨q0, qP, va_K.moved (u := U) (U := U.calling g mk a) (Vm.Alike.refl U.vm) qK⟩, va_recv hK hP (ci := 7) (q0 := 0) rfl rfl, fun U hU hW => ⟨rfl, by rw [hU]; exact hPc, va_K.moved hW.alike hKc⟩⟩ rfl rfl hl.1 rfl (lv_room (Nat.le_of_ble_eq_true rfl)) dX7_beginSky_23 ⟨Nat.le_of_ble_eq_true rfl, Nat.le_of_ble_eq_true rfl⟩) (fun hw => ?_)
    try dsimp only at hw
    refine lv_aload_n hx hb dX7_beginSky_26 rfl (lv_at hl 0 rfl) ?_
    refine lv_dup hx hb dX7_beginSky_27 rfl ?_
    refine va_get (D := (dC, dI)) (ci := 7) (v := .int psk) (C := RX7) (T := TX7) (N := 9) hx hb htw inlX7 hown hK hP 0 rfl rfl 4 (by decide) (htw _ (ck_13 _ (List.mem_of_getElem? (i := 7) rfl))) (fun _ h9 => h9) rfl dX7_beginSky_28 ?_
    refine lv_iload_n hx hb dX7_beginSky_31 rfl (lv_at hl 1 rfl) ?_
    refine lv_ior hx hb dX7_beginSky_32 ?_
    refine va_put (D := (dC, dI)) (ci := 7) (v := .int (psk ||| a0)) (ty := tyX7 4) (C := RX7) (T := TX7) (N := 9) hx hb htw inlX7 tyX7 tyX7_ok nmX7 hown hK hP hD hS 0 rfl rfl 4 (by decide) (htw _ (ck_13 _ (List.mem_of_getElem? (i := 7) rfl))) (fun _ h9 => h9) rfl (tyX7_ok 4 (by decide)) rfl rfl (Nat.le_of_ble_eq_true rfl) dX7_beginSky_33 (fun H locs hP hD hS => ?_)
    obtain ⟨hP, hD⟩ := zre [(eO7a pa lx bk pfa pfp (psk ||| a0) phe phr phs pop), (eO3a lx lby lfi lco lxe lxa lxt lxp lxn lxl), (eA0 lby cBy 900 fBy), (eA0 lco cCo 23 fCo)] hP hD rfl
    refine lv_aload_n hx hb dX7_beginSky_36 rfl (lv_at hl 0 rfl) ?_
    refine va_get (D := (dC, dI)) (ci := 7) (v := .ref lx) (C := RX7) (T := TX7) (N := 9) hx hb htw inlX7 hown hK hP 0 rfl rfl 0 (by decide) (htw _ (ck_3 _ (List.mem_of_getElem? (i := 5) rfl))) (fun _ h9 => h9) rfl dX7_beginSky_37 ?_
    obtain ⟨hPc, hDc, hFc, hCc⟩ := zsub3 (ws' := [(eO3a lx lby lfi lco lxe lxa lxt lxp lxn lxl), (eA0 lby cBy 900 fBy), (eA0 lco cCo 23 fCo)]) hP hD hS hA [1, 2, 3] (by decide) rfl
    have hKc := hK.sub (tys' := [(cBy, .byte), (cCo, .int)]) [0, 1] rfl
    refine va_callv (va_runV (As := []) (rest := []) ⟨hx, hb, hml, hown, htw⟩ (gz_advance l dC dI lx lby lfi lco lxe lxa lxt lxp lxn lxl cBy fBy cCo fCo H.size h0_lxa h9_lxe) (cwV 0 htw (xg_V (ck_16 _ (List.mem_of_getElem? (i := 11) rfl)) (ck_14 _ (List.mem_of_getElem? (i := 13) rfl)) (ck_14 _ (List.mem_of_getElem? (i := 14) rfl)) (ck_3 _ (List.mem_of_getElem? (i := 4) rfl)) (ck_14 _ (List.mem_of_getElem? (i := 15) rfl))) rfl rfl rfl (by exact ⟨rfl, hdc_4.1, hdc_4.2, hdd_13⟩) ⟨Nat.le_of_ble_eq_true rfl, Nat.le_of_ble_eq_true rfl⟩) ⟨fun a U g mk q => by obtain ⟨q0, q1, qP, qK, qD⟩ := q; exact ⟨q0, q1, qP, va_K.moved (u := U) (U := U.calling g mk a) (Vm.Alike.refl U.vm) qK, qD⟩, va_recv hKc hPc (ci := 3) (q0 := 0) rfl rfl, fun U hU hW => ⟨rfl, by rw [hU], by rw [hU]; exact hPc, va_K.moved hW.alike hKc, hDc.weaken (fun _ _ _ _ => trivial)⟩⟩ rfl rfl hl.1 rfl (lv_room (Nat.le_of_ble_eq_true rfl)) dX7_beginSky_40 ⟨Nat.le_of_ble_eq_true rfl, Nat.le_of_ble_eq_true rfl⟩) hS (fun q _ h => hFc q h) hFc (fun u_4 t H1 locs ht hvm hw hB hz1 hk1 hS => ?_)
    try dsimp only at hw
    obtain ⟨hP1, hK1, hD1⟩ := hB
    rw [ht] at hP1
    have hK1 := va_K.moved hvm.symm hK1
    have hK1 : va_K (dC, dI) vwCl [] s := hK1
    obtain ⟨hP, hD⟩ := va_join (wr := [(eO7a pa lx bk pfa pfp (psk ||| a0) phe phr phs pop)]) (w1 := [(eO3a lx lby lfi lco lxe u_4.1 u_4.2.1 u_4.2.2.1 u_4.2.2.2.1 u_4.2.2.2.2), (eA0 lby cBy 900 fBy), (eA0 lco cCo 23 fCo)]) hP hD [1, 2, 3] [0] hCc rfl (by decide) (by decide) hk1 hFc hP1 hD1
    generalize H1 = H at hP hS ⊢
    obtain ⟨hP, hD⟩ := zre [(eO7a pa lx bk pfa pfp (psk ||| a0) phe phr phs pop), (eO3a lx lby lfi lco lxe u_4.1 u_4.2.1 u_4.2.2.1 u_4.2.2.2.1 u_4.2.2.2.2), (eA0 lby cBy 900 fBy), (eA0 lco cCo 23 fCo)] hP hD rfl
    refine W.widen (k := 0) (n := 0) (by omega) (by omega) ?_
    obtain ⟨hw, hp_10⟩ := hw
    have hq_u_4 : u_4 = (fe_advance lxe lxa lxn lxl fBy fCo) := hw
    refine xs_size (fun hHz => ?_)
    refine vx_ret ?_
    refine W.widen (k := 1) (n := 6) (by omega) (by omega) ?_
    have hP9 := hP
    have hD9 := hD
    have hK9 := hK.sub (tys' := []) [] rfl
    exact W.vret hx hb hr (fun t ht hW => ⟨⟨(pfa, pfp, (psk ||| a0), u_4.1, u_4.2.1, u_4.2.2.1, u_4.2.2.2.1, u_4.2.2.2.2), rfl, ⟨((fun e9 => ⟨by rw [e9], by rw [e9]⟩ : fp_beginSky pfa pfp psk lxe lxa lxt lxp lxn lxl fBy fCo a0 = ((0 : Int32), pfa, pfp, (psk ||| a0), u_4.1, u_4.2.1, u_4.2.2.1, u_4.2.2.2.1, u_4.2.2.2.2) → _) ((by rw [fp_beginSky]; (try rw [if_pos c_1]); (try rw [← hq_u_4]); (try rw [xL_eq]); try rfl))), (gp_beginSky_s1 (y0 := u_4.1) hp_10)⟩, ⟨by rw [ht]; exact hP9, va_K.moved hW.alike hK9, hD9⟩, by rw [ht]; first | exact hHz | exact hHz.trans (by rw [rH])⟩, hS.F ht⟩) hS.2.2 dX7_beginSky_43
  · refine lv_iconst (v := 1) hx hb dX7_beginSky_10 (by decide) ?_
    refine lv_goto (tgt := 15) hx hb dX7_beginSky_11 (by decide) ?_
    refine lv_iconst (v := 3) hx hb dX7_beginSky_15 (by decide) ?_
    refine lv_aload_n hx hb dX7_beginSky_16 rfl (lv_at hl 0 rfl) ?_
    refine va_get (D := (dC, dI)) (ci := 7) (v := .ref lx) (C := RX7) (T := TX7) (N := 9) hx hb htw inlX7 hown hK hP 0 rfl rfl 0 (by decide) (htw _ (ck_3 _ (List.mem_of_getElem? (i := 5) rfl))) (fun _ h9 => h9) rfl dX7_beginSky_17 ?_
    refine va_get (D := (dC, dI)) (ci := 3) (v := .int lxp) (C := RX3) (T := TX3) (N := 9) hx hb htw inlX3 hown hK hP 1 rfl rfl 6 (by decide) (htw _ (ck_15 _ (List.mem_of_getElem? (i := 13) rfl))) (fun _ h9 => h9) rfl dX7_beginSky_20 ?_
    refine xs_size (fun hHz => ?_)
    obtain ⟨hPc, hDc, hFc, hCc⟩ := zsub3 (ws' := [(eO7a pa lx bk pfa pfp psk phe phr phs pop)]) hP hD hS hA [0] (by decide) rfl
    have hKc := hK.sub (tys' := []) [] rfl
    refine vx_callv (vx_runV (As := [.int 1, .int 3, .int lxp]) (rest := []) ⟨hx, hb, hml, hown, htw⟩ (gp_refT l hst dC dI pa lx bk pfa pfp psk phe phr phs pop (1 : Int32) (3 : Int32) lxp sL H.size (gp_beginSky_s2 )) (cwV 3 htw (xg_V (ck_16 _ (List.mem_of_getElem? (i := 6) rfl)) (ck_16 _ (List.mem_of_getElem? (i := 7) rfl)) (ck_16 _ (List.mem_of_getElem? (i := 8) rfl)) (ck_1 _ (List.mem_of_getElem? (i := 16) rfl)) (ck_16 _ (List.mem_of_getElem? (i := 9) rfl))) rfl rfl rfl (by exact ⟨rfl, hdc_15.1, hdc_15.2, hdd_48⟩) ⟨Nat.le_of_ble_eq_true rfl, Nat.le_of_ble_eq_true rfl⟩) ⟨fun a U g mk q => by obtain ⟨q0, q1, qP, qK, qD, qx0⟩ := q; exact ⟨q0, q1, qP, va_K.moved (u := U) (U := U.calling g mk a) (Vm.Alike.refl U.vm) qK, qD, xl.calling qx0⟩, va_recv hKc hPc (ci := 7) (q0 := 0) rfl rfl, fun U hU hW => ⟨rfl, by rw [hU], by rw [hU]; exact hPc, va_K.moved hW.alike hKc, hDc.weaken (fun _ _ _ _ => trivial), by rw [hU]; exact xl.warm hW ((xl.kept hXL hS.2.1).narrow hFc)⟩⟩ rfl rfl hl.1 rfl (lv_room (Nat.le_of_ble_eq_true rfl)) dX7_beginSky_23 ⟨Nat.le_of_ble_eq_true rfl, Nat.le_of_ble_eq_true rfl⟩) hS (fun q _ h => hFc q h) hFc (fun q _ h => hFc q h) (fun E ce q9 u_11 t H1 locs ht hvm hw hB hz1 hk1 hS hcell hcv hcl => ?_) (fun u_13 t H1 locs ht hvm hw hB hz1 hk1 hS => hw.elim)
    obtain ⟨hE9, hB⟩ := hB
    subst hE9
    obtain ⟨hP1, hK1, hD1⟩ := hB
    rw [ht] at hP1
    have hK1 := va_K.moved hvm.symm hK1
    have hK1 : va_K (dC, dI) vwCl [] s := hK1
    obtain ⟨hP, hD⟩ := va_join (wr := [(eO3a lx lby lfi lco lxe lxa lxt lxp lxn lxl), (eA0 lby cBy 900 fBy), (eA0 lco cCo 23 fCo)]) (w1 := [(eO7a pa lx bk 3 lxp psk phe phr phs pop)]) hP hD [0] [1, 2, 3] hCc rfl (by decide) (by decide) hk1 hFc hP1 hD1
    generalize H1 = H at hP hS hcell ⊢
    obtain ⟨hP, hD⟩ := zre [(eO3a lx lby lfi lco lxe lxa lxt lxp lxn lxl), (eA0 lby cBy 900 fBy), (eA0 lco cCo 23 fCo), (eO7a pa lx bk 3 lxp psk phe phr phs pop)] hP hD rfl
    obtain ⟨hP9, hD9⟩ := zsub2 (ws' := [(eO7a pa lx bk 3 lxp psk phe phr phs pop), (eO3a lx lby lfi lco lxe lxa lxt lxp lxn lxl), (eA0 lby cBy 900 fBy), (eA0 lco cCo 23 fCo)]) hP hD [3, 0, 1, 2] (by decide) rfl
    have hK9 := hK.sub (tys' := []) [] rfl
    exact vx_widen (k := 1) (n := 6) (Nat.le_of_ble_eq_true rfl) (Nat.le_of_ble_eq_true rfl) (vx_out (fun x h9 => (hex x h9).elim) hlocks hcell hcv hcl (fun t ht hal => ⟨(3, lxp, psk, lxa, lxt, lxp, lxn, lxl), ((fun e9 => ⟨by rw [e9], by rw [e9]⟩ : fp_beginSky pfa pfp psk lxe lxa lxt lxp lxn lxl fBy fCo a0 = ((1 : Int32), (3 : Int32), lxp, psk, lxa, lxt, lxp, lxn, lxl) → _) ((by rw [fp_beginSky]; (try rw [if_neg c_1]); try rfl))), ⟨rfl, by rw [ht]; exact hP9, va_K.moved hal hK9, hD9⟩, hS.F ht⟩) hS.2.2 (Nat.le_of_ble_eq_true rfl) (Nat.le_of_ble_eq_true rfl))

def fp_latterParts (pfa : Int32) (pfp : Int32) (lxe : Int32) (lxa : Int32) (lxt : Int32) (lxp : Int32) (lxn : Int32) (lxl : Int32) (fBy : Nat → Int32) (fCo : Nat → Int32) (a0 : Int32) : Int32 × Int32 × (Int32) × (Int32) × (Int32) × (Int32) × (Int32) × (Int32) × (Int32) := (xL ((fp_numberIn pfa pfp lxe lxa lxt lxp lxn lxl fBy fCo (1 : Int32) (99 : Int32))) (fun X_1 => (if X_1.1 = 1 then ((1 : Int32), (0 : Int32), X_1.2.2.1, X_1.2.2.2.1, X_1.2.2.2.2.1, X_1.2.2.2.2.2.1, X_1.2.2.2.2.2.2.1, X_1.2.2.2.2.2.2.2.1, X_1.2.2.2.2.2.2.2.2) else (if (8 * X_1.2.1) ≤ a0 then ((0 : Int32), X_1.2.1, X_1.2.2.1, X_1.2.2.2.1, X_1.2.2.2.2.1, X_1.2.2.2.2.2.1, X_1.2.2.2.2.2.2.1, X_1.2.2.2.2.2.2.2.1, X_1.2.2.2.2.2.2.2.2) else ((1 : Int32), (0 : Int32), (2 : Int32), lxp, X_1.2.2.2.2.1, X_1.2.2.2.2.2.1, X_1.2.2.2.2.2.2.1, X_1.2.2.2.2.2.2.2.1, X_1.2.2.2.2.2.2.2.2)))))
theorem gp_latterParts_s0  : (0 : Int32) = 0 := (by decide)
theorem gp_latterParts_s1 {y0 : Int32} (h0 : ¬ (y0 < 0)) : ¬ (y0 < 0) := h0
theorem gp_latterParts_s2  : ¬ ((1 : Int32) = 0) := (by decide)
theorem dX7_latterParts_0 : decode cX7_latterParts 0 = .ok (.aload_n 0, 1) := zk_42 (by decide +kernel)
theorem dX7_latterParts_1 : decode cX7_latterParts 1 = .ok (.getfield 12, 3) := zk_180 (by decide +kernel)
theorem dX7_latterParts_4 : decode cX7_latterParts 4 = .ok (.getfield 87, 3) := zk_180 (by decide +kernel)
theorem dX7_latterParts_7 : decode cX7_latterParts 7 = .ok (.istore_n 2, 1) := zk_61 (by decide +kernel)
theorem dX7_latterParts_8 : decode cX7_latterParts 8 = .ok (.aload_n 0, 1) := zk_42 (by decide +kernel)
theorem dX7_latterParts_9 : decode cX7_latterParts 9 = .ok (.iconst 1, 1) := zk_4 (by decide +kernel)
theorem dX7_latterParts_10 : decode cX7_latterParts 10 = .ok (.bipush 99, 2) := zk_16 (by decide +kernel)
theorem dX7_latterParts_12 : decode cX7_latterParts 12 = .ok (.invokevirtual 105, 3) := zk_182 (by decide +kernel)
theorem dX7_latterParts_15 : decode cX7_latterParts 15 = .ok (.istore_n 3, 1) := zk_62 (by decide +kernel)
theorem dX7_latterParts_16 : decode cX7_latterParts 16 = .ok (.aload_n 0, 1) := zk_42 (by decide +kernel)
theorem dX7_latterParts_17 : decode cX7_latterParts 17 = .ok (.iload_n 1, 1) := zk_27 (by decide +kernel)
theorem dX7_latterParts_18 : decode cX7_latterParts 18 = .ok (.bipush 8, 2) := zk_16 (by decide +kernel)
theorem dX7_latterParts_20 : decode cX7_latterParts 20 = .ok (.iload_n 3, 1) := zk_29 (by decide +kernel)
theorem dX7_latterParts_21 : decode cX7_latterParts 21 = .ok (.imul, 1) := zk_104 (by decide +kernel)
theorem dX7_latterParts_22 : decode cX7_latterParts 22 = .ok (.if_icmp .ge 7, 3) := zk_162 (by decide +kernel)
theorem dX7_latterParts_29 : decode cX7_latterParts 29 = .ok (.iconst 0, 1) := zk_3 (by decide +kernel)
theorem dX7_latterParts_30 : decode cX7_latterParts 30 = .ok (.iconst 2, 1) := zk_5 (by decide +kernel)
theorem dX7_latterParts_31 : decode cX7_latterParts 31 = .ok (.iload_n 2, 1) := zk_28 (by decide +kernel)
theorem dX7_latterParts_32 : decode cX7_latterParts 32 = .ok (.invokevirtual 90, 3) := zk_182 (by decide +kernel)
theorem dX7_latterParts_35 : decode cX7_latterParts 35 = .ok (.iload_n 3, 1) := zk_29 (by decide +kernel)
theorem dX7_latterParts_36 : decode cX7_latterParts 36 = .ok (.ireturn, 1) := zk_172 (by decide +kernel)
theorem dX7_latterParts_25 : decode cX7_latterParts 25 = .ok (.iconst 1, 1) := zk_4 (by decide +kernel)
theorem dX7_latterParts_26 : decode cX7_latterParts 26 = .ok (.goto 4, 3) := zk_167 (by decide +kernel)
set_option maxHeartbeats 4000000 in
set_option maxRecDepth 100000 in
theorem gp_latterParts (l : Launch) (hst : l.stackTraces = false) (dC : Nat → ClassId) (dI : Nat → Nat → Nat) (pa : Nat) (lx : Nat) (bk : Nat) (pfa : Int32) (pfp : Int32) (psk : Int32) (phe : Nat) (phr : Nat) (phs : Int32) (pop : Int32) (lby : Nat) (lfi : Int32) (lco : Nat) (lxe : Int32) (lxa : Int32) (lxt : Int32) (lxp : Int32) (lxn : Int32) (lxl : Int32) (cBy : ClassId) (fBy : Nat → Int32) (cCo : ClassId) (fCo : Nat → Int32) (a0 : Int32) (sL : Nat → Nat) (sz : Nat) (h0_lxa : ¬ lxa < 0) (h9_lxe : lxe ≤ 900) : vx_Met l yX7_latterParts (Cond.code yX7_latterParts cX7_latterParts 4 (some .int) :: wsL_law) ({ frames := 8, cells := 1, slots := 6, locals := 128 }) (va_Pc [.ref pa, .int a0] (fun U => U.heap.size = sz ∧ va_P (dC, dI) vwCl [(eO7a pa lx bk pfa pfp psk phe phr phs pop), (eO3a lx lby lfi lco lxe lxa lxt lxp lxn lxl), (eA0 lby cBy 900 fBy), (eA0 lco cCo 23 fCo)] U.heap ∧ va_K (dC, dI) vwCl [(cBy, .byte), (cCo, .int)] U ∧ va_D (fun _ => True) [(eO7a pa lx bk pfa pfp psk phe phr phs pop), (eO3a lx lby lfi lco lxe lxa lxt lxp lxn lxl), (eA0 lby cBy 900 fBy), (eA0 lco cCo 23 fCo)] ∧ xl sL (va_A [(eO7a pa lx bk pfa pfp psk phe phr phs pop), (eO3a lx lby lfi lco lxe lxa lxt lxp lxn lxl), (eA0 lby cBy 900 fBy), (eA0 lco cCo 23 fCo)] sz) U U.heap)) (va_Qi (fun (r : Int32) (u : (Int32) × (Int32) × (Int32) × (Int32) × (Int32) × (Int32) × (Int32)) => ((fp_latterParts pfa pfp lxe lxa lxt lxp lxn lxl fBy fCo a0).1 = 0 ∧ r = (fp_latterParts pfa pfp lxe lxa lxt lxp lxn lxl fBy fCo a0).2.1 ∧ u = (fp_latterParts pfa pfp lxe lxa lxt lxp lxn lxl fBy fCo a0).2.2) ∧ (¬ u.2.2.1 < 0)) (fun (u : (Int32) × (Int32) × (Int32) × (Int32) × (Int32) × (Int32) × (Int32)) t => (va_P (dC, dI) vwCl [(eO7a pa lx bk u.1 u.2.1 psk phe phr phs pop), (eO3a lx lby lfi lco lxe u.2.2.1 u.2.2.2.1 u.2.2.2.2.1 u.2.2.2.2.2.1 u.2.2.2.2.2.2), (eA0 lby cBy 900 fBy), (eA0 lco cCo 23 fCo)] t.heap ∧ va_K (dC, dI) vwCl [] t ∧ va_D (va_A [(eO7a pa lx bk pfa pfp psk phe phr phs pop), (eO3a lx lby lfi lco lxe lxa lxt lxp lxn lxl), (eA0 lby cBy 900 fBy), (eA0 lco cCo 23 fCo)] sz) [(eO7a pa lx bk u.1 u.2.1 psk phe phr phs pop), (eO3a lx lby lfi lco lxe u.2.2.1 u.2.2.2.1 u.2.2.2.2.1 u.2.2.2.2.2.1 u.2.2.2.2.2.2), (eA0 lby cBy 900 fBy), (eA0 lco cCo 23 fCo)]) ∧ t.heap.size = sz) (va_A [(eO7a pa lx bk pfa pfp psk phe phr phs pop), (eO3a lx lby lfi lco lxe lxa lxt lxp lxn lxl), (eA0 lby cBy 900 fBy), (eA0 lco cCo 23 fCo)] sz)) (vx_X (fun (u : (Int32) × (Int32) × (Int32) × (Int32) × (Int32) × (Int32) × (Int32)) => (fp_latterParts pfa pfp lxe lxa lxt lxp lxn lxl fBy fCo a0).1 = 1 ∧ u = (fp_latterParts pfa pfp lxe lxa lxt lxp lxn lxl fBy fCo a0).2.2) (fun (E : String) (u : (Int32) × (Int32) × (Int32) × (Int32) × (Int32) × (Int32) × (Int32)) (t : State) => E = "java/lang/IllegalStateException" ∧ va_P (dC, dI) vwCl [(eO7a pa lx bk u.1 u.2.1 psk phe phr phs pop), (eO3a lx lby lfi lco lxe u.2.2.1 u.2.2.2.1 u.2.2.2.2.1 u.2.2.2.2.2.1 u.2.2.2.2.2.2), (eA0 lby cBy 900 fBy), (eA0 lco cCo 23 fCo)] t.heap ∧ va_K (dC, dI) vwCl [] t ∧ va_D (va_A [(eO7a pa lx bk pfa pfp psk phe phr phs pop), (eO3a lx lby lfi lco lxe lxa lxt lxp lxn lxl), (eA0 lby cBy 900 fBy), (eA0 lco cCo 23 fCo)] sz) [(eO7a pa lx bk u.1 u.2.1 psk phe phr phs pop), (eO3a lx lby lfi lco lxe u.2.2.1 u.2.2.2.1 u.2.2.2.2.1 u.2.2.2.2.2.1 u.2.2.2.2.2.2), (eA0 lby cBy 900 fBy), (eA0 lco cCo 23 fCo)]) (va_A [(eO7a pa lx bk pfa pfp psk phe phr phs pop), (eO3a lx lby lfi lco lxe lxa lxt lxp lxn lxl), (eA0 lby cBy 900 fBy), (eA0 lco cCo 23 fCo)] sz)) 1 6 (va_A [(eO7a pa lx bk pfa pfp psk phe phr phs pop), (eO3a lx lby lfi lco lxe lxa lxt lxp lxn lxl), (eA0 lby cBy 900 fBy), (eA0 lco cCo 23 fCo)] sz) := by
  refine vx_ofW (cc := cX7_latterParts) (maxL := 4) (ret := (some .int)) (by decide) rfl ?_
  intro p e s m args below meth c s₁ B hml hex hv
  obtain ⟨rfl, hsz, hP, hK, hD0, hXL⟩ := hv
  have hx := B.exec
  have hb := B.bytes
  have hr := B.returns
  have hts := atoms_spec (ws := Cond.code yX7_latterParts cX7_latterParts 4 (some .int) :: wsL_law) B.pre
  have htw : ∀ w ∈ wsL_law, w.before _ s = true := fun w h => hts w (List.mem_cons_of_mem _ h)
  have hown : s.vm.findClass RX7 = some m.cls := findClass_of_methodNamed B.named
  have hlocks := B.notSynchronized
  subst hsz
  have hD := hD0.self (sz := s.heap.size)
  generalize hAe : va_A [(eO7a pa lx bk pfa pfp psk phe phr phs pop), (eO3a lx lby lfi lco lxe lxa lxt lxp lxn lxl), (eA0 lby cBy 900 fBy), (eA0 lco cCo 23 fCo)] s.heap.size = A at hD hXL ⊢
  have hA : ∀ q : Nat, s.heap.size ≤ q → A q := fun q h => by rw [← hAe]; exact Or.inr h
  obtain ⟨H, rH⟩ : ∃ z : Heap, z = s.heap := ⟨_, rfl⟩
  have hS : va_S A s.heap H [] := by rw [rH]; exact va_S.rf
  have hP : va_P (dC, dI) vwCl [(eO7a pa lx bk pfa pfp psk phe phr phs pop), (eO3a lx lby lfi lco lxe lxa lxt lxp lxn lxl), (eA0 lby cBy 900 fBy), (eA0 lco cCo 23 fCo)] H := by rw [rH]; exact hP
  rw [← rH]
  have hl := lv_entry ([.ref pa, .int a0]) (n := 4) (Nat.le_of_ble_eq_true rfl)
  rw [lg_entry_eq]
  generalize (lg_sl ([.ref pa, .int a0]) ++ List.replicate (4 - (lg_sl ([.ref pa, .int a0])).length) Slot.unset).toArray = ls at hl ⊢
  have hl : lv_has ls 4 [(0, .ref pa), (1, .int a0)] := hl
  refine lv_aload_n hx hb dX7_latterParts_0 rfl (lv_at hl 0 rfl) ?_
  refine va_get (D := (dC, dI)) (ci := 7) (v := .ref lx) (C := RX7) (T := TX7) (N := 9) hx hb htw inlX7 hown hK hP 0 rfl rfl 0 (by decide) (htw _ (ck_3 _ (List.mem_of_getElem? (i := 5) rfl))) (fun _ h9 => h9) rfl dX7_latterParts_1 ?_
  refine va_get (D := (dC, dI)) (ci := 3) (v := .int lxp) (C := RX3) (T := TX3) (N := 9) hx hb htw inlX3 hown hK hP 1 rfl rfl 6 (by decide) (htw _ (ck_15 _ (List.mem_of_getElem? (i := 13) rfl))) (fun _ h9 => h9) rfl dX7_latterParts_4 ?_
  refine lv_istore_n (lv' := [(2, .int lxp), (0, .ref pa), (1, .int a0)]) hx hb dX7_latterParts_7 rfl hl (by decide) rfl (fun ls hl => ?_)
  refine lv_aload_n hx hb dX7_latterParts_8 rfl (lv_at hl 1 rfl) ?_
  refine lv_iconst (v := 1) hx hb dX7_latterParts_9 (by decide) ?_
  refine lv_bipush (v := 99) hx hb dX7_latterParts_10 (by decide) ?_
  refine xs_size (fun hHz => ?_)
  obtain ⟨hPc, hDc, hFc, hCc⟩ := zsub3 (ws' := [(eO7a pa lx bk pfa pfp psk phe phr phs pop), (eO3a lx lby lfi lco lxe lxa lxt lxp lxn lxl), (eA0 lby cBy 900 fBy), (eA0 lco cCo 23 fCo)]) hP hD hS hA [0, 1, 2, 3] (by decide) rfl
  have hKc := hK.sub (tys' := [(cBy, .byte), (cCo, .int)]) [0, 1] rfl
  obtain ⟨X_1, hX_1⟩ : ∃ X9 : Int32 × Int32 × (Int32) × (Int32) × (Int32) × (Int32) × (Int32) × (Int32) × (Int32), X9 = (fp_numberIn pfa pfp lxe lxa lxt lxp lxn lxl fBy fCo (1 : Int32) (99 : Int32)) := ⟨_, rfl⟩
  refine vx_calli (vx_runV (As := [.int 1, .int 99]) (rest := []) ⟨hx, hb, hml, hown, htw⟩ (gp_numberIn l hst dC dI pa lx bk pfa pfp psk phe phr phs pop lby lfi lco lxe lxa lxt lxp lxn lxl cBy fBy cCo fCo (1 : Int32) (99 : Int32) sL H.size h0_lxa h9_lxe) (cwV 2 htw (xg_V (ck_16 _ (List.mem_of_getElem? (i := 16) rfl)) (ck_16 _ (List.mem_of_getElem? (i := 17) rfl)) (ck_16 _ (List.mem_of_getElem? (i := 18) rfl)) (ck_1 _ (List.mem_of_getElem? (i := 16) rfl)) (ck_16 _ (List.mem_of_getElem? (i := 19) rfl))) rfl rfl rfl (by exact ⟨rfl, hdc_15.1, hdc_15.2, hdd_7⟩) ⟨Nat.le_of_ble_eq_true rfl, Nat.le_of_ble_eq_true rfl⟩) ⟨fun a U g mk q => by obtain ⟨q0, q1, qP, qK, qD, qx0⟩ := q; exact ⟨q0, q1, qP, va_K.moved (u := U) (U := U.calling g mk a) (Vm.Alike.refl U.vm) qK, qD, xl.calling qx0⟩, va_recv hKc hPc (ci := 7) (q0 := 0) rfl rfl, fun U hU hW => ⟨rfl, by rw [hU], by rw [hU]; exact hPc, va_K.moved hW.alike hKc, hDc.weaken (fun _ _ _ _ => trivial), by rw [hU]; exact xl.warm hW ((xl.kept hXL hS.2.1).narrow hFc)⟩⟩ rfl rfl hl.1 rfl (lv_room (Nat.le_of_ble_eq_true rfl)) dX7_latterParts_12 ⟨Nat.le_of_ble_eq_true rfl, Nat.le_of_ble_eq_true rfl⟩) hS (fun q _ h => hFc q h) hFc (fun q _ h => hFc q h) (fun E ce q9 u_2 t H1 locs ht hvm hw hB hz1 hk1 hS hcell hcv hcl => ?_) (fun r_3 u_4 t H1 locs ht hvm hw hB hz1 hk1 hS => ?_)
  · obtain ⟨hE9, hB⟩ := hB
    subst hE9
    obtain ⟨hP1, hK1, hD1⟩ := hB
    rw [ht] at hP1
    have hK1 := va_K.moved hvm.symm hK1
    have hK1 : va_K (dC, dI) vwCl [] s := hK1
    obtain ⟨hP, hD⟩ := va_join (wr := []) (w1 := [(eO7a pa lx bk u_2.1 u_2.2.1 psk phe phr phs pop), (eO3a lx lby lfi lco lxe u_2.2.2.1 u_2.2.2.2.1 u_2.2.2.2.2.1 u_2.2.2.2.2.2.1 u_2.2.2.2.2.2.2), (eA0 lby cBy 900 fBy), (eA0 lco cCo 23 fCo)]) hP hD [0, 1, 2, 3] [] hCc rfl (by decide) (by decide) hk1 hFc hP1 hD1
    generalize H1 = H at hP hS hcell ⊢
    obtain ⟨hP, hD⟩ := zre [(eO7a pa lx bk u_2.1 u_2.2.1 psk phe phr phs pop), (eO3a lx lby lfi lco lxe u_2.2.2.1 u_2.2.2.2.1 u_2.2.2.2.2.1 u_2.2.2.2.2.2.1 u_2.2.2.2.2.2.2), (eA0 lby cBy 900 fBy), (eA0 lco cCo 23 fCo)] hP hD rfl
    have hTX_1 : X_1.1 = 1 := by rw [hX_1]; exact hw.1
    have hq_u_2 : u_2 = X_1.2.2 := by rw [hX_1]; exact hw.2
    have hP9 := hP
    have hD9 := hD
    have hK9 := hK.sub (tys' := []) [] rfl
    exact vx_widen (k := 1) (n := 6) (Nat.le_of_ble_eq_true rfl) (Nat.le_of_ble_eq_true rfl) (vx_out (fun x h9 => (hex x h9).elim) hlocks hcell hcv hcl (fun t ht hal => ⟨(u_2.1, u_2.2.1, u_2.2.2.1, u_2.2.2.2.1, u_2.2.2.2.2.1, u_2.2.2.2.2.2.1, u_2.2.2.2.2.2.2), ((fun e9 => ⟨by rw [e9], by rw [e9]⟩ : fp_latterParts pfa pfp lxe lxa lxt lxp lxn lxl fBy fCo a0 = ((1 : Int32), (0 : Int32), u_2.1, u_2.2.1, u_2.2.2.1, u_2.2.2.2.1, u_2.2.2.2.2.1, u_2.2.2.2.2.2.1, u_2.2.2.2.2.2.2) → _) ((by rw [fp_latterParts]; (try rw [← hX_1]); (try rw [xL_eq]); (try rw [if_pos hTX_1]); (try rw [← hq_u_2]); try rfl))), ⟨rfl, by rw [ht]; exact hP9, va_K.moved hal hK9, hD9⟩, hS.F ht⟩) hS.2.2 (Nat.le_of_ble_eq_true rfl) (Nat.le_of_ble_eq_true rfl))
  · obtain ⟨hB, hsz9⟩ := hB
    obtain ⟨hP1, hK1, hD1⟩ := hB
    rw [ht] at hP1
    have hK1 := va_K.moved hvm.symm hK1
    have hK1 : va_K (dC, dI) vwCl [] s := hK1
    obtain ⟨hP, hD⟩ := va_join (wr := []) (w1 := [(eO7a pa lx bk u_4.1 u_4.2.1 psk phe phr phs pop), (eO3a lx lby lfi lco lxe u_4.2.2.1 u_4.2.2.2.1 u_4.2.2.2.2.1 u_4.2.2.2.2.2.1 u_4.2.2.2.2.2.2), (eA0 lby cBy 900 fBy), (eA0 lco cCo 23 fCo)]) hP hD [0, 1, 2, 3] [] rfl rfl (by decide) (by decide) hk1 hFc hP1 hD1
    refine xs_tight (show H1.size = s.heap.size by rw [← ht, hsz9]; exact hHz) ?_
    generalize H1 = H at hP hS ⊢
    obtain ⟨hP, hD⟩ := zre [(eO7a pa lx bk u_4.1 u_4.2.1 psk phe phr phs pop), (eO3a lx lby lfi lco lxe u_4.2.2.1 u_4.2.2.2.1 u_4.2.2.2.2.1 u_4.2.2.2.2.2.1 u_4.2.2.2.2.2.2), (eA0 lby cBy 900 fBy), (eA0 lco cCo 23 fCo)] hP hD rfl
    obtain ⟨hw, hp_19, hp_20, hp_21⟩ := hw
    have hTX_1 : ¬ X_1.1 = 1 := by rw [hX_1, hw.1]; decide
    have hq_r_3 : r_3 = X_1.2.1 := by rw [hX_1]; exact hw.2.1
    have hq_u_4 : u_4 = X_1.2.2 := by rw [hX_1]; exact hw.2.2
    refine lv_istore_n (lv' := [(3, .int r_3), (2, .int lxp), (0, .ref pa), (1, .int a0)]) hx hb dX7_latterParts_15 rfl hl (by decide) rfl (fun ls hl => ?_)
    refine lv_aload_n hx hb dX7_latterParts_16 rfl (lv_at hl 2 rfl) ?_
    refine lv_iload_n hx hb dX7_latterParts_17 rfl (lv_at hl 3 rfl) ?_
    refine lv_bipush (v := 8) hx hb dX7_latterParts_18 (by decide) ?_
    refine lv_iload_n hx hb dX7_latterParts_20 rfl (lv_at hl 0 rfl) ?_
    refine lv_imul hx hb dX7_latterParts_21 ?_
    refine lv_icmp_ge (tgt := 29) hx hb dX7_latterParts_22 (by decide) (fun c_22 => ?_) (fun c_22 => ?_)
    · refine lv_iconst (v := 0) hx hb dX7_latterParts_29 (by decide) ?_
      refine lv_iconst (v := 2) hx hb dX7_latterParts_30 (by decide) ?_
      refine lv_iload_n hx hb dX7_latterParts_31 rfl (lv_at hl 1 rfl) ?_
      have hPc := hP.sub (ws' := []) [] rfl
      have hKc := hK.sub (tys' := []) [] rfl
      refine va_csv (W.runV (As := [.int 0, .int 2, .int lxp]) (rest := []) ⟨hx, hb, hml, hown, htw⟩ (gp_ref0 l dC dI (0 : Int32) (2 : Int32) lxp pa (gp_latterParts_s0 )) (cwV 3 htw (xg_V (ck_16 _ (List.mem_of_getElem? (i := 6) rfl)) (ck_16 _ (List.mem_of_getElem? (i := 7) rfl)) (ck_16 _ (List.mem_of_getElem? (i := 8) rfl)) (ck_1 _ (List.mem_of_getElem? (i := 16) rfl)) (ck_16 _ (List.mem_of_getElem? (i := 9) rfl))) rfl rfl rfl (by exact ⟨rfl, hdc_15.1, hdc_15.2, hdd_48⟩) ⟨Nat.le_of_ble_eq_true rfl, Nat.le_of_ble_eq_true rfl⟩) ⟨fun a U g mk q => by obtain ⟨q0, qP, qK⟩ := q; exact ⟨q0, qP, va_K.moved (u := U) (U := U.calling g mk a) (Vm.Alike.refl U.vm) qK⟩, va_recv hK hP (ci := 7) (q0 := 0) rfl rfl, fun U hU hW => ⟨rfl, by rw [hU]; exact hPc, va_K.moved hW.alike hKc⟩⟩ rfl rfl hl.1 rfl (lv_room (Nat.le_of_ble_eq_true rfl)) dX7_latterParts_32 ⟨Nat.le_of_ble_eq_true rfl, Nat.le_of_ble_eq_true rfl⟩) (fun hw => ?_)
      try dsimp only at hw
      refine lv_iload_n hx hb dX7_latterParts_35 rfl (lv_at hl 0 rfl) ?_
      refine xs_size (fun hHz => ?_)
      refine vx_ret ?_
      refine W.widen (k := 1) (n := 6) (by omega) (by omega) ?_
      have hP9 := hP
      have hD9 := hD
      have hK9 := hK.sub (tys' := []) [] rfl
      exact W.iret (v := r_3) hx hb hr (fun t ht hW => ⟨⟨r_3, (u_4.1, u_4.2.1, u_4.2.2.1, u_4.2.2.2.1, u_4.2.2.2.2.1, u_4.2.2.2.2.2.1, u_4.2.2.2.2.2.2), rfl, ⟨((fun e9 => ⟨by rw [e9], by rw [e9], by rw [e9]⟩ : fp_latterParts pfa pfp lxe lxa lxt lxp lxn lxl fBy fCo a0 = ((0 : Int32), r_3, u_4.1, u_4.2.1, u_4.2.2.1, u_4.2.2.2.1, u_4.2.2.2.2.1, u_4.2.2.2.2.2.1, u_4.2.2.2.2.2.2) → _) ((by rw [fp_latterParts]; (try rw [← hX_1]); (try rw [xL_eq]); (try rw [if_neg hTX_1]); (try rw [← hq_r_3]); (try rw [← hq_u_4]); (try rw [if_pos c_22]); try rfl))), (gp_latterParts_s1 (y0 := u_4.2.2.1) hp_19)⟩, ⟨by rw [ht]; exact hP9, va_K.moved hW.alike hK9, hD9⟩, by rw [ht]; first | exact hHz | exact hHz.trans (by rw [rH])⟩, hS.F ht⟩) hS.2.2 dX7_latterParts_36
    · refine lv_iconst (v := 1) hx hb dX7_latterParts_25 (by decide) ?_
      refine lv_goto (tgt := 30) hx hb dX7_latterParts_26 (by decide) ?_
      refine lv_iconst (v := 2) hx hb dX7_latterParts_30 (by decide) ?_
      refine lv_iload_n hx hb dX7_latterParts_31 rfl (lv_at hl 1 rfl) ?_
      refine xs_size (fun hHz => ?_)
      obtain ⟨hPc, hDc, hFc, hCc⟩ := zsub3 (ws' := [(eO7a pa lx bk u_4.1 u_4.2.1 psk phe phr phs pop)]) hP hD hS hA [0] (by decide) rfl
      have hKc := hK.sub (tys' := []) [] rfl
      refine vx_callv (vx_runV (As := [.int 1, .int 2, .int lxp]) (rest := []) ⟨hx, hb, hml, hown, htw⟩ (gp_refT l hst dC dI pa lx bk u_4.1 u_4.2.1 psk phe phr phs pop (1 : Int32) (2 : Int32) lxp sL H.size (gp_latterParts_s2 )) (cwV 3 htw (xg_V (ck_16 _ (List.mem_of_getElem? (i := 6) rfl)) (ck_16 _ (List.mem_of_getElem? (i := 7) rfl)) (ck_16 _ (List.mem_of_getElem? (i := 8) rfl)) (ck_1 _ (List.mem_of_getElem? (i := 16) rfl)) (ck_16 _ (List.mem_of_getElem? (i := 9) rfl))) rfl rfl rfl (by exact ⟨rfl, hdc_15.1, hdc_15.2, hdd_48⟩) ⟨Nat.le_of_ble_eq_true rfl, Nat.le_of_ble_eq_true rfl⟩) ⟨fun a U g mk q => by obtain ⟨q0, q1, qP, qK, qD, qx0⟩ := q; exact ⟨q0, q1, qP, va_K.moved (u := U) (U := U.calling g mk a) (Vm.Alike.refl U.vm) qK, qD, xl.calling qx0⟩, va_recv hKc hPc (ci := 7) (q0 := 0) rfl rfl, fun U hU hW => ⟨rfl, by rw [hU], by rw [hU]; exact hPc, va_K.moved hW.alike hKc, hDc.weaken (fun _ _ _ _ => trivial), by rw [hU]; exact xl.warm hW ((xl.kept hXL hS.2.1).narrow hFc)⟩⟩ rfl rfl hl.1 rfl (lv_room (Nat.le_of_ble_eq_true rfl)) dX7_latterParts_32 ⟨Nat.le_of_ble_eq_true rfl, Nat.le_of_ble_eq_true rfl⟩) hS (fun q _ h => hFc q h) hFc (fun q _ h => hFc q h) (fun E ce q9 u_24 t H1 locs ht hvm hw hB hz1 hk1 hS hcell hcv hcl => ?_) (fun u_26 t H1 locs ht hvm hw hB hz1 hk1 hS => hw.elim)
      obtain ⟨hE9, hB⟩ := hB
      subst hE9
      obtain ⟨hP1, hK1, hD1⟩ := hB
      rw [ht] at hP1
      have hK1 := va_K.moved hvm.symm hK1
      have hK1 : va_K (dC, dI) vwCl [] s := hK1
      obtain ⟨hP, hD⟩ := va_join (wr := [(eO3a lx lby lfi lco lxe u_4.2.2.1 u_4.2.2.2.1 u_4.2.2.2.2.1 u_4.2.2.2.2.2.1 u_4.2.2.2.2.2.2), (eA0 lby cBy 900 fBy), (eA0 lco cCo 23 fCo)]) (w1 := [(eO7a pa lx bk 2 lxp psk phe phr phs pop)]) hP hD [0] [1, 2, 3] hCc rfl (by decide) (by decide) hk1 hFc hP1 hD1
      generalize H1 = H at hP hS hcell ⊢
      obtain ⟨hP, hD⟩ := zre [(eO3a lx lby lfi lco lxe u_4.2.2.1 u_4.2.2.2.1 u_4.2.2.2.2.1 u_4.2.2.2.2.2.1 u_4.2.2.2.2.2.2), (eA0 lby cBy 900 fBy), (eA0 lco cCo 23 fCo), (eO7a pa lx bk 2 lxp psk phe phr phs pop)] hP hD rfl
      obtain ⟨hP9, hD9⟩ := zsub2 (ws' := [(eO7a pa lx bk 2 lxp psk phe phr phs pop), (eO3a lx lby lfi lco lxe u_4.2.2.1 u_4.2.2.2.1 u_4.2.2.2.2.1 u_4.2.2.2.2.2.1 u_4.2.2.2.2.2.2), (eA0 lby cBy 900 fBy), (eA0 lco cCo 23 fCo)]) hP hD [3, 0, 1, 2] (by decide) rfl
      have hK9 := hK.sub (tys' := []) [] rfl
      exact vx_widen (k := 1) (n := 6) (Nat.le_of_ble_eq_true rfl) (Nat.le_of_ble_eq_true rfl) (vx_out (fun x h9 => (hex x h9).elim) hlocks hcell hcv hcl (fun t ht hal => ⟨(2, lxp, u_4.2.2.1, u_4.2.2.2.1, u_4.2.2.2.2.1, u_4.2.2.2.2.2.1, u_4.2.2.2.2.2.2), ((fun e9 => ⟨by rw [e9], by rw [e9]⟩ : fp_latterParts pfa pfp lxe lxa lxt lxp lxn lxl fBy fCo a0 = ((1 : Int32), (0 : Int32), (2 : Int32), lxp, u_4.2.2.1, u_4.2.2.2.1, u_4.2.2.2.2.1, u_4.2.2.2.2.2.1, u_4.2.2.2.2.2.2) → _) ((by rw [fp_latterParts]; (try rw [← hX_1]); (try rw [xL_eq]); (try rw [if_neg hTX_1]); (try rw [← hq_r_3]); (try rw [← hq_u_4]); (try rw [if_neg c_22]); try rfl))), ⟨rfl, by rw [ht]; exact hP9, va_K.moved hal hK9, hD9⟩, hS.F ht⟩) hS.2.2 (Nat.le_of_ble_eq_true rfl) (Nat.le_of_ble_eq_true rfl))

def fp_readWeek (pfa : Int32) (pfp : Int32) (psk : Int32) (lxe : Int32) (lxa : Int32) (lxt : Int32) (lxp : Int32) (lxn : Int32) (lxl : Int32) (fBy : Nat → Int32) (fCo : Nat → Int32) (wd : Int32) (wf : Int32) : Int32 × (Int32) × (Int32) × (Int32) × (Int32) × (Int32) × (Int32) × (Int32) × (Int32) × (Int32) × (Int32) := (xL ((fp_beginSky pfa pfp psk lxe lxa lxt lxp lxn lxl fBy fCo (1 : Int32))) (fun X_1 => (if X_1.1 = 1 then ((1 : Int32), X_1.2.1, X_1.2.2.1, X_1.2.2.2.1, X_1.2.2.2.2.1, X_1.2.2.2.2.2.1, X_1.2.2.2.2.2.2.1, X_1.2.2.2.2.2.2.2.1, X_1.2.2.2.2.2.2.2.2, wd, wf) else (xL ((fp_numberIn X_1.2.1 X_1.2.2.1 lxe X_1.2.2.2.2.1 X_1.2.2.2.2.2.1 X_1.2.2.2.2.2.2.1 X_1.2.2.2.2.2.2.2.1 X_1.2.2.2.2.2.2.2.2 fBy fCo (2 : Int32) (30 : Int32))) (fun X_22 => (if X_22.1 = 1 then ((1 : Int32), X_22.2.2.1, X_22.2.2.2.1, X_1.2.2.2.1, X_22.2.2.2.2.1, X_22.2.2.2.2.2.1, X_22.2.2.2.2.2.2.1, X_22.2.2.2.2.2.2.2.1, X_22.2.2.2.2.2.2.2.2, wd, wf) else (xL ((fp_numberIn X_22.2.2.1 X_22.2.2.2.1 lxe X_22.2.2.2.2.1 X_22.2.2.2.2.2.1 X_22.2.2.2.2.2.2.1 X_22.2.2.2.2.2.2.2.1 X_22.2.2.2.2.2.2.2.2 fBy fCo (0 : Int32) (X_22.2.1 - 1))) (fun X_43 => (if X_43.1 = 1 then ((1 : Int32), X_43.2.2.1, X_43.2.2.2.1, X_1.2.2.2.1, X_43.2.2.2.2.1, X_43.2.2.2.2.2.1, X_43.2.2.2.2.2.2.1, X_43.2.2.2.2.2.2.2.1, X_43.2.2.2.2.2.2.2.2, X_22.2.1, wf) else ((0 : Int32), X_43.2.2.1, X_43.2.2.2.1, X_1.2.2.2.1, X_43.2.2.2.2.1, X_43.2.2.2.2.2.1, X_43.2.2.2.2.2.2.1, X_43.2.2.2.2.2.2.2.1, X_43.2.2.2.2.2.2.2.2, X_22.2.1, X_43.2.1))))))))))
theorem gp_readWeek_s0 {y0 : Int32} (h0 : ¬ (y0 < 0)) : ¬ (y0 < 0) := h0
theorem gp_readWeek_s1 {y0 : Int32} (h0 : ¬ (y0 < 0)) : ¬ (y0 < 0) := h0
theorem gp_readWeek_s2 {y0 : Int32} (h0 : ¬ (y0 < 0)) : ¬ (y0 < 0) := h0
theorem dX7_readWeek_0 : decode cX7_readWeek 0 = .ok (.aload_n 0, 1) := zk_42 (by decide +kernel)
theorem dX7_readWeek_1 : decode cX7_readWeek 1 = .ok (.iconst 1, 1) := zk_4 (by decide +kernel)
theorem dX7_readWeek_2 : decode cX7_readWeek 2 = .ok (.invokevirtual 130, 3) := zk_182 (by decide +kernel)
theorem dX7_readWeek_5 : decode cX7_readWeek 5 = .ok (.aload_n 0, 1) := zk_42 (by decide +kernel)
theorem dX7_readWeek_6 : decode cX7_readWeek 6 = .ok (.getfield 31, 3) := zk_180 (by decide +kernel)
theorem dX7_readWeek_9 : decode cX7_readWeek 9 = .ok (.getfield 133, 3) := zk_180 (by decide +kernel)
theorem dX7_readWeek_12 : decode cX7_readWeek 12 = .ok (.aload_n 0, 1) := zk_42 (by decide +kernel)
theorem dX7_readWeek_13 : decode cX7_readWeek 13 = .ok (.iconst 2, 1) := zk_5 (by decide +kernel)
theorem dX7_readWeek_14 : decode cX7_readWeek 14 = .ok (.bipush 30, 2) := zk_16 (by decide +kernel)
theorem dX7_readWeek_16 : decode cX7_readWeek 16 = .ok (.invokevirtual 105, 3) := zk_182 (by decide +kernel)
theorem dX7_readWeek_19 : decode cX7_readWeek 19 = .ok (.putfield 137, 3) := zk_181 (by decide +kernel)
theorem dX7_readWeek_22 : decode cX7_readWeek 22 = .ok (.aload_n 0, 1) := zk_42 (by decide +kernel)
theorem dX7_readWeek_23 : decode cX7_readWeek 23 = .ok (.getfield 31, 3) := zk_180 (by decide +kernel)
theorem dX7_readWeek_26 : decode cX7_readWeek 26 = .ok (.getfield 133, 3) := zk_180 (by decide +kernel)
theorem dX7_readWeek_29 : decode cX7_readWeek 29 = .ok (.aload_n 0, 1) := zk_42 (by decide +kernel)
theorem dX7_readWeek_30 : decode cX7_readWeek 30 = .ok (.iconst 0, 1) := zk_3 (by decide +kernel)
theorem dX7_readWeek_31 : decode cX7_readWeek 31 = .ok (.aload_n 0, 1) := zk_42 (by decide +kernel)
theorem dX7_readWeek_32 : decode cX7_readWeek 32 = .ok (.getfield 31, 3) := zk_180 (by decide +kernel)
theorem dX7_readWeek_35 : decode cX7_readWeek 35 = .ok (.getfield 133, 3) := zk_180 (by decide +kernel)
theorem dX7_readWeek_38 : decode cX7_readWeek 38 = .ok (.getfield 137, 3) := zk_180 (by decide +kernel)
theorem dX7_readWeek_41 : decode cX7_readWeek 41 = .ok (.iconst 1, 1) := zk_4 (by decide +kernel)
theorem dX7_readWeek_42 : decode cX7_readWeek 42 = .ok (.isub, 1) := zk_100 (by decide +kernel)
theorem dX7_readWeek_43 : decode cX7_readWeek 43 = .ok (.invokevirtual 105, 3) := zk_182 (by decide +kernel)
theorem dX7_readWeek_46 : decode cX7_readWeek 46 = .ok (.putfield 142, 3) := zk_181 (by decide +kernel)
theorem dX7_readWeek_49 : decode cX7_readWeek 49 = .ok (.return_, 1) := zk_177 (by decide +kernel)
set_option maxHeartbeats 4000000 in
set_option maxRecDepth 100000 in
theorem gp_readWeek (l : Launch) (hst : l.stackTraces = false) (dC : Nat → ClassId) (dI : Nat → Nat → Nat) (pa : Nat) (lx : Nat) (bk : Nat) (pfa : Int32) (pfp : Int32) (psk : Int32) (phe : Nat) (phr : Nat) (phs : Int32) (pop : Int32) (lby : Nat) (lfi : Int32) (lco : Nat) (lxe : Int32) (lxa : Int32) (lxt : Int32) (lxp : Int32) (lxn : Int32) (lxl : Int32) (cBy : ClassId) (fBy : Nat → Int32) (cCo : ClassId) (fCo : Nat → Int32) (bto : Nat) (bnm : Nat) (bla : Nat) (bsk : Nat) (bru : Nat) (bbo : Nat) (bdi : Nat) (bda : Nat) (bdk : Nat) (bdt : Nat) (bdp : Nat) (bno : Nat) (wd : Int32) (wf : Int32) (mp : Int32) (mb : Int32) (mo : Int32) (sp : Int32) (sb : Int32) (sL : Nat → Nat) (sz : Nat) (h0_lxa : ¬ lxa < 0) (h9_lxe : lxe ≤ 900) : vx_Met l yX7_readWeek (Cond.code yX7_readWeek cX7_readWeek 1 none :: wsL_law) ({ frames := 8, cells := 1, slots := 6, locals := 128 }) (va_Pc [.ref pa] (fun U => U.heap.size = sz ∧ va_P (dC, dI) vwCl [(eO7a pa lx bk pfa pfp psk phe phr phs pop), (eO3a lx lby lfi lco lxe lxa lxt lxp lxn lxl), (eA0 lby cBy 900 fBy), (eA0 lco cCo 23 fCo), (eO0a bk bto bnm bla bsk bru bbo bdi bda bdk bdt bdp bno), (eO9a bsk wd wf mp mb mo sp sb)] U.heap ∧ va_K (dC, dI) vwCl [(cBy, .byte), (cCo, .int)] U ∧ va_D (fun _ => True) [(eO7a pa lx bk pfa pfp psk phe phr phs pop), (eO3a lx lby lfi lco lxe lxa lxt lxp lxn lxl), (eA0 lby cBy 900 fBy), (eA0 lco cCo 23 fCo), (eO0a bk bto bnm bla bsk bru bbo bdi bda bdk bdt bdp bno), (eO9a bsk wd wf mp mb mo sp sb)] ∧ xl sL (va_A [(eO7a pa lx bk pfa pfp psk phe phr phs pop), (eO3a lx lby lfi lco lxe lxa lxt lxp lxn lxl), (eA0 lby cBy 900 fBy), (eA0 lco cCo 23 fCo), (eO0a bk bto bnm bla bsk bru bbo bdi bda bdk bdt bdp bno), (eO9a bsk wd wf mp mb mo sp sb)] sz) U U.heap)) (va_Qv (fun (u : (Int32) × (Int32) × (Int32) × (Int32) × (Int32) × (Int32) × (Int32) × (Int32) × (Int32) × (Int32)) => ((fp_readWeek pfa pfp psk lxe lxa lxt lxp lxn lxl fBy fCo wd wf).1 = 0 ∧ u = (fp_readWeek pfa pfp psk lxe lxa lxt lxp lxn lxl fBy fCo wd wf).2) ∧ (¬ u.2.2.2.1 < 0)) (fun (u : (Int32) × (Int32) × (Int32) × (Int32) × (Int32) × (Int32) × (Int32) × (Int32) × (Int32) × (Int32)) t => (va_P (dC, dI) vwCl [(eO7a pa lx bk u.1 u.2.1 u.2.2.1 phe phr phs pop), (eO3a lx lby lfi lco lxe u.2.2.2.1 u.2.2.2.2.1 u.2.2.2.2.2.1 u.2.2.2.2.2.2.1 u.2.2.2.2.2.2.2.1), (eA0 lby cBy 900 fBy), (eA0 lco cCo 23 fCo), (eO0a bk bto bnm bla bsk bru bbo bdi bda bdk bdt bdp bno), (eO9a bsk u.2.2.2.2.2.2.2.2.1 u.2.2.2.2.2.2.2.2.2 mp mb mo sp sb)] t.heap ∧ va_K (dC, dI) vwCl [] t ∧ va_D (va_A [(eO7a pa lx bk pfa pfp psk phe phr phs pop), (eO3a lx lby lfi lco lxe lxa lxt lxp lxn lxl), (eA0 lby cBy 900 fBy), (eA0 lco cCo 23 fCo), (eO0a bk bto bnm bla bsk bru bbo bdi bda bdk bdt bdp bno), (eO9a bsk wd wf mp mb mo sp sb)] sz) [(eO7a pa lx bk u.1 u.2.1 u.2.2.1 phe phr phs pop), (eO3a lx lby lfi lco lxe u.2.2.2.1 u.2.2.2.2.1 u.2.2.2.2.2.1 u.2.2.2.2.2.2.1 u.2.2.2.2.2.2.2.1), (eA0 lby cBy 900 fBy), (eA0 lco cCo 23 fCo), (eO0a bk bto bnm bla bsk bru bbo bdi bda bdk bdt bdp bno), (eO9a bsk u.2.2.2.2.2.2.2.2.1 u.2.2.2.2.2.2.2.2.2 mp mb mo sp sb)]) ∧ t.heap.size = sz) (va_A [(eO7a pa lx bk pfa pfp psk phe phr phs pop), (eO3a lx lby lfi lco lxe lxa lxt lxp lxn lxl), (eA0 lby cBy 900 fBy), (eA0 lco cCo 23 fCo), (eO0a bk bto bnm bla bsk bru bbo bdi bda bdk bdt bdp bno), (eO9a bsk wd wf mp mb mo sp sb)] sz)) (vx_X (fun (u : (Int32) × (Int32) × (Int32) × (Int32) × (Int32) × (Int32) × (Int32) × (Int32) × (Int32) × (Int32)) => (fp_readWeek pfa pfp psk lxe lxa lxt lxp lxn lxl fBy fCo wd wf).1 = 1 ∧ u = (fp_readWeek pfa pfp psk lxe lxa lxt lxp lxn lxl fBy fCo wd wf).2) (fun (E : String) (u : (Int32) × (Int32) × (Int32) × (Int32) × (Int32) × (Int32) × (Int32) × (Int32) × (Int32) × (Int32)) (t : State) => E = "java/lang/IllegalStateException" ∧ va_P (dC, dI) vwCl [(eO7a pa lx bk u.1 u.2.1 u.2.2.1 phe phr phs pop), (eO3a lx lby lfi lco lxe u.2.2.2.1 u.2.2.2.2.1 u.2.2.2.2.2.1 u.2.2.2.2.2.2.1 u.2.2.2.2.2.2.2.1), (eA0 lby cBy 900 fBy), (eA0 lco cCo 23 fCo), (eO0a bk bto bnm bla bsk bru bbo bdi bda bdk bdt bdp bno), (eO9a bsk u.2.2.2.2.2.2.2.2.1 u.2.2.2.2.2.2.2.2.2 mp mb mo sp sb)] t.heap ∧ va_K (dC, dI) vwCl [] t ∧ va_D (va_A [(eO7a pa lx bk pfa pfp psk phe phr phs pop), (eO3a lx lby lfi lco lxe lxa lxt lxp lxn lxl), (eA0 lby cBy 900 fBy), (eA0 lco cCo 23 fCo), (eO0a bk bto bnm bla bsk bru bbo bdi bda bdk bdt bdp bno), (eO9a bsk wd wf mp mb mo sp sb)] sz) [(eO7a pa lx bk u.1 u.2.1 u.2.2.1 phe phr phs pop), (eO3a lx lby lfi lco lxe u.2.2.2.1 u.2.2.2.2.1 u.2.2.2.2.2.1 u.2.2.2.2.2.2.1 u.2.2.2.2.2.2.2.1), (eA0 lby cBy 900 fBy), (eA0 lco cCo 23 fCo), (eO0a bk bto bnm bla bsk bru bbo bdi bda bdk bdt bdp bno), (eO9a bsk u.2.2.2.2.2.2.2.2.1 u.2.2.2.2.2.2.2.2.2 mp mb mo sp sb)]) (va_A [(eO7a pa lx bk pfa pfp psk phe phr phs pop), (eO3a lx lby lfi lco lxe lxa lxt lxp lxn lxl), (eA0 lby cBy 900 fBy), (eA0 lco cCo 23 fCo), (eO0a bk bto bnm bla bsk bru bbo bdi bda bdk bdt bdp bno), (eO9a bsk wd wf mp mb mo sp sb)] sz)) 1 6 (va_A [(eO7a pa lx bk pfa pfp psk phe phr phs pop), (eO3a lx lby lfi lco lxe lxa lxt lxp lxn lxl), (eA0 lby cBy 900 fBy), (eA0 lco cCo 23 fCo), (eO0a bk bto bnm bla bsk bru bbo bdi bda bdk bdt bdp bno), (eO9a bsk wd wf mp mb mo sp sb)] sz) := by
  refine vx_ofW (cc := cX7_readWeek) (maxL := 1) (ret := none) (by decide) rfl ?_
  intro p e s m args below meth c s₁ B hml hex hv
  obtain ⟨rfl, hsz, hP, hK, hD0, hXL⟩ := hv
  have hx := B.exec
  have hb := B.bytes
  have hr := B.returns
  have hts := atoms_spec (ws := Cond.code yX7_readWeek cX7_readWeek 1 none :: wsL_law) B.pre
  have htw : ∀ w ∈ wsL_law, w.before _ s = true := fun w h => hts w (List.mem_cons_of_mem _ h)
  have hown : s.vm.findClass RX7 = some m.cls := findClass_of_methodNamed B.named
  have hlocks := B.notSynchronized
  subst hsz
  have hD := hD0.self (sz := s.heap.size)
  generalize hAe : va_A [(eO7a pa lx bk pfa pfp psk phe phr phs pop), (eO3a lx lby lfi lco lxe lxa lxt lxp lxn lxl), (eA0 lby cBy 900 fBy), (eA0 lco cCo 23 fCo), (eO0a bk bto bnm bla bsk bru bbo bdi bda bdk bdt bdp bno), (eO9a bsk wd wf mp mb mo sp sb)] s.heap.size = A at hD hXL ⊢
  have hA : ∀ q : Nat, s.heap.size ≤ q → A q := fun q h => by rw [← hAe]; exact Or.inr h
  obtain ⟨H, rH⟩ : ∃ z : Heap, z = s.heap := ⟨_, rfl⟩
  have hS : va_S A s.heap H [] := by rw [rH]; exact va_S.rf
  have hP : va_P (dC, dI) vwCl [(eO7a pa lx bk pfa pfp psk phe phr phs pop), (eO3a lx lby lfi lco lxe lxa lxt lxp lxn lxl), (eA0 lby cBy 900 fBy), (eA0 lco cCo 23 fCo), (eO0a bk bto bnm bla bsk bru bbo bdi bda bdk bdt bdp bno), (eO9a bsk wd wf mp mb mo sp sb)] H := by rw [rH]; exact hP
  rw [← rH]
  have hl := lv_entry ([.ref pa]) (n := 1) (Nat.le_of_ble_eq_true rfl)
  rw [lg_entry_eq]
  generalize (lg_sl ([.ref pa]) ++ List.replicate (1 - (lg_sl ([.ref pa])).length) Slot.unset).toArray = ls at hl ⊢
  have hl : lv_has ls 1 [(0, .ref pa)] := hl
  refine lv_aload_n hx hb dX7_readWeek_0 rfl (lv_at hl 0 rfl) ?_
  refine lv_iconst (v := 1) hx hb dX7_readWeek_1 (by decide) ?_
  refine xs_size (fun hHz => ?_)
  obtain ⟨hPc, hDc, hFc, hCc⟩ := zsub3 (ws' := [(eO7a pa lx bk pfa pfp psk phe phr phs pop), (eO3a lx lby lfi lco lxe lxa lxt lxp lxn lxl), (eA0 lby cBy 900 fBy), (eA0 lco cCo 23 fCo)]) hP hD hS hA [0, 1, 2, 3] (by decide) rfl
  have hKc := hK.sub (tys' := [(cBy, .byte), (cCo, .int)]) [0, 1] rfl
  obtain ⟨X_1, hX_1⟩ : ∃ X9 : Int32 × (Int32) × (Int32) × (Int32) × (Int32) × (Int32) × (Int32) × (Int32) × (Int32), X9 = (fp_beginSky pfa pfp psk lxe lxa lxt lxp lxn lxl fBy fCo (1 : Int32)) := ⟨_, rfl⟩
  refine vx_callv (vx_runV (As := [.int 1]) (rest := []) ⟨hx, hb, hml, hown, htw⟩ (gp_beginSky l hst dC dI pa lx bk pfa pfp psk phe phr phs pop lby lfi lco lxe lxa lxt lxp lxn lxl cBy fBy cCo fCo (1 : Int32) sL H.size h0_lxa h9_lxe) (cwV 1 htw (xg_V (ck_17 _ (List.mem_of_getElem? (i := 8) rfl)) (ck_17 _ (List.mem_of_getElem? (i := 9) rfl)) (ck_17 _ (List.mem_of_getElem? (i := 10) rfl)) (ck_1 _ (List.mem_of_getElem? (i := 16) rfl)) (ck_17 _ (List.mem_of_getElem? (i := 11) rfl))) rfl rfl rfl (by exact ⟨rfl, hdc_15.1, hdc_15.2, hdd_9⟩) ⟨Nat.le_of_ble_eq_true rfl, Nat.le_of_ble_eq_true rfl⟩) ⟨fun a U g mk q => by obtain ⟨q0, q1, qP, qK, qD, qx0⟩ := q; exact ⟨q0, q1, qP, va_K.moved (u := U) (U := U.calling g mk a) (Vm.Alike.refl U.vm) qK, qD, xl.calling qx0⟩, va_recv hKc hPc (ci := 7) (q0 := 0) rfl rfl, fun U hU hW => ⟨rfl, by rw [hU], by rw [hU]; exact hPc, va_K.moved hW.alike hKc, hDc.weaken (fun _ _ _ _ => trivial), by rw [hU]; exact xl.warm hW ((xl.kept hXL hS.2.1).narrow hFc)⟩⟩ rfl rfl hl.1 rfl (lv_room (Nat.le_of_ble_eq_true rfl)) dX7_readWeek_2 ⟨Nat.le_of_ble_eq_true rfl, Nat.le_of_ble_eq_true rfl⟩) hS (fun q _ h => hFc q h) hFc (fun q _ h => hFc q h) (fun E ce q9 u_2 t H1 locs ht hvm hw hB hz1 hk1 hS hcell hcv hcl => ?_) (fun u_4 t H1 locs ht hvm hw hB hz1 hk1 hS => ?_)
  · obtain ⟨hE9, hB⟩ := hB
    subst hE9
    obtain ⟨hP1, hK1, hD1⟩ := hB
    rw [ht] at hP1
    have hK1 := va_K.moved hvm.symm hK1
    have hK1 : va_K (dC, dI) vwCl [] s := hK1
    obtain ⟨hP, hD⟩ := va_join (wr := [(eO0a bk bto bnm bla bsk bru bbo bdi bda bdk bdt bdp bno), (eO9a bsk wd wf mp mb mo sp sb)]) (w1 := [(eO7a pa lx bk u_2.1 u_2.2.1 u_2.2.2.1 phe phr phs pop), (eO3a lx lby lfi lco lxe u_2.2.2.2.1 u_2.2.2.2.2.1 u_2.2.2.2.2.2.1 u_2.2.2.2.2.2.2.1 u_2.2.2.2.2.2.2.2), (eA0 lby cBy 900 fBy), (eA0 lco cCo 23 fCo)]) hP hD [0, 1, 2, 3] [4, 5] hCc rfl (by decide) (by decide) hk1 hFc hP1 hD1
    generalize H1 = H at hP hS hcell ⊢
    obtain ⟨hP, hD⟩ := zre [(eO0a bk bto bnm bla bsk bru bbo bdi bda bdk bdt bdp bno), (eO9a bsk wd wf mp mb mo sp sb), (eO7a pa lx bk u_2.1 u_2.2.1 u_2.2.2.1 phe phr phs pop), (eO3a lx lby lfi lco lxe u_2.2.2.2.1 u_2.2.2.2.2.1 u_2.2.2.2.2.2.1 u_2.2.2.2.2.2.2.1 u_2.2.2.2.2.2.2.2), (eA0 lby cBy 900 fBy), (eA0 lco cCo 23 fCo)] hP hD rfl
    have hTX_1 : X_1.1 = 1 := by rw [hX_1]; exact hw.1
    have hq_u_2 : u_2 = X_1.2 := by rw [hX_1]; exact hw.2
    obtain ⟨hP9, hD9⟩ := zsub2 (ws' := [(eO7a pa lx bk u_2.1 u_2.2.1 u_2.2.2.1 phe phr phs pop), (eO3a lx lby lfi lco lxe u_2.2.2.2.1 u_2.2.2.2.2.1 u_2.2.2.2.2.2.1 u_2.2.2.2.2.2.2.1 u_2.2.2.2.2.2.2.2), (eA0 lby cBy 900 fBy), (eA0 lco cCo 23 fCo), (eO0a bk bto bnm bla bsk bru bbo bdi bda bdk bdt bdp bno), (eO9a bsk wd wf mp mb mo sp sb)]) hP hD [2, 3, 4, 5, 0, 1] (by decide) rfl
    have hK9 := hK.sub (tys' := []) [] rfl
    exact vx_widen (k := 1) (n := 6) (Nat.le_of_ble_eq_true rfl) (Nat.le_of_ble_eq_true rfl) (vx_out (fun x h9 => (hex x h9).elim) hlocks hcell hcv hcl (fun t ht hal => ⟨(u_2.1, u_2.2.1, u_2.2.2.1, u_2.2.2.2.1, u_2.2.2.2.2.1, u_2.2.2.2.2.2.1, u_2.2.2.2.2.2.2.1, u_2.2.2.2.2.2.2.2, wd, wf), ((fun e9 => ⟨by rw [e9], by rw [e9]⟩ : fp_readWeek pfa pfp psk lxe lxa lxt lxp lxn lxl fBy fCo wd wf = ((1 : Int32), u_2.1, u_2.2.1, u_2.2.2.1, u_2.2.2.2.1, u_2.2.2.2.2.1, u_2.2.2.2.2.2.1, u_2.2.2.2.2.2.2.1, u_2.2.2.2.2.2.2.2, wd, wf) → _) ((by rw [fp_readWeek]; (try rw [← hX_1]); (try rw [xL_eq]); (try rw [if_pos hTX_1]); (try rw [← hq_u_2]); try rfl))), ⟨rfl, by rw [ht]; exact hP9, va_K.moved hal hK9, hD9⟩, hS.F ht⟩) hS.2.2 (Nat.le_of_ble_eq_true rfl) (Nat.le_of_ble_eq_true rfl))
  · obtain ⟨hB, hsz9⟩ := hB
    obtain ⟨hP1, hK1, hD1⟩ := hB
    rw [ht] at hP1
    have hK1 := va_K.moved hvm.symm hK1
    have hK1 : va_K (dC, dI) vwCl [] s := hK1
    obtain ⟨hP, hD⟩ := va_join (wr := [(eO0a bk bto bnm bla bsk bru bbo bdi bda bdk bdt bdp bno), (eO9a bsk wd wf mp mb mo sp sb)]) (w1 := [(eO7a pa lx bk u_4.1 u_4.2.1 u_4.2.2.1 phe phr phs pop), (eO3a lx lby lfi lco lxe u_4.2.2.2.1 u_4.2.2.2.2.1 u_4.2.2.2.2.2.1 u_4.2.2.2.2.2.2.1 u_4.2.2.2.2.2.2.2), (eA0 lby cBy 900 fBy), (eA0 lco cCo 23 fCo)]) hP hD [0, 1, 2, 3] [4, 5] rfl rfl (by decide) (by decide) hk1 hFc hP1 hD1
    refine xs_tight (show H1.size = s.heap.size by rw [← ht, hsz9]; exact hHz) ?_
    generalize H1 = H at hP hS ⊢
    obtain ⟨hP, hD⟩ := zre [(eO0a bk bto bnm bla bsk bru bbo bdi bda bdk bdt bdp bno), (eO9a bsk wd wf mp mb mo sp sb), (eO7a pa lx bk u_4.1 u_4.2.1 u_4.2.2.1 phe phr phs pop), (eO3a lx lby lfi lco lxe u_4.2.2.2.1 u_4.2.2.2.2.1 u_4.2.2.2.2.2.1 u_4.2.2.2.2.2.2.1 u_4.2.2.2.2.2.2.2), (eA0 lby cBy 900 fBy), (eA0 lco cCo 23 fCo)] hP hD rfl
    obtain ⟨hw, hp_21⟩ := hw
    have hTX_1 : ¬ X_1.1 = 1 := by rw [hX_1, hw.1]; decide
    have hq_u_4 : u_4 = X_1.2 := by rw [hX_1]; exact hw.2
    refine lv_aload_n hx hb dX7_readWeek_5 rfl (lv_at hl 0 rfl) ?_
    refine va_get (D := (dC, dI)) (ci := 7) (v := .ref bk) (C := RX7) (T := TX7) (N := 9) hx hb htw inlX7 hown hK hP 2 rfl rfl 1 (by decide) (htw _ (ck_13 _ (List.mem_of_getElem? (i := 6) rfl))) (fun _ h9 => h9) rfl dX7_readWeek_6 ?_
    refine va_get (D := (dC, dI)) (ci := 0) (v := .ref bsk) (C := RX0) (T := TX0) (N := 12) hx hb htw inlX0 hown hK hP 0 rfl rfl 3 (by decide) (htw _ (ck_17 _ (List.mem_of_getElem? (i := 5) rfl))) (fun _ h9 => h9) rfl dX7_readWeek_9 ?_
    refine lv_aload_n hx hb dX7_readWeek_12 rfl (lv_at hl 0 rfl) ?_
    refine lv_iconst (v := 2) hx hb dX7_readWeek_13 (by decide) ?_
    refine lv_bipush (v := 30) hx hb dX7_readWeek_14 (by decide) ?_
    refine xs_size (fun hHz => ?_)
    obtain ⟨hPc, hDc, hFc, hCc⟩ := zsub3 (ws' := [(eO7a pa lx bk u_4.1 u_4.2.1 u_4.2.2.1 phe phr phs pop), (eO3a lx lby lfi lco lxe u_4.2.2.2.1 u_4.2.2.2.2.1 u_4.2.2.2.2.2.1 u_4.2.2.2.2.2.2.1 u_4.2.2.2.2.2.2.2), (eA0 lby cBy 900 fBy), (eA0 lco cCo 23 fCo)]) hP hD hS hA [2, 3, 4, 5] (by decide) rfl
    have hKc := hK.sub (tys' := [(cBy, .byte), (cCo, .int)]) [0, 1] rfl
    obtain ⟨X_22, hX_22⟩ : ∃ X9 : Int32 × Int32 × (Int32) × (Int32) × (Int32) × (Int32) × (Int32) × (Int32) × (Int32), X9 = (fp_numberIn u_4.1 u_4.2.1 lxe u_4.2.2.2.1 u_4.2.2.2.2.1 u_4.2.2.2.2.2.1 u_4.2.2.2.2.2.2.1 u_4.2.2.2.2.2.2.2 fBy fCo (2 : Int32) (30 : Int32)) := ⟨_, rfl⟩
    refine vx_calli (vx_runV (As := [.int 2, .int 30]) (rest := [.ref bsk]) ⟨hx, hb, hml, hown, htw⟩ (gp_numberIn l hst dC dI pa lx bk u_4.1 u_4.2.1 u_4.2.2.1 phe phr phs pop lby lfi lco lxe u_4.2.2.2.1 u_4.2.2.2.2.1 u_4.2.2.2.2.2.1 u_4.2.2.2.2.2.2.1 u_4.2.2.2.2.2.2.2 cBy fBy cCo fCo (2 : Int32) (30 : Int32) sL H.size (gp_readWeek_s0 (y0 := u_4.2.2.2.1) hp_21) h9_lxe) (cwV 2 htw (xg_V (ck_16 _ (List.mem_of_getElem? (i := 16) rfl)) (ck_16 _ (List.mem_of_getElem? (i := 17) rfl)) (ck_16 _ (List.mem_of_getElem? (i := 18) rfl)) (ck_1 _ (List.mem_of_getElem? (i := 16) rfl)) (ck_16 _ (List.mem_of_getElem? (i := 19) rfl))) rfl rfl rfl (by exact ⟨rfl, hdc_15.1, hdc_15.2, hdd_7⟩) ⟨Nat.le_of_ble_eq_true rfl, Nat.le_of_ble_eq_true rfl⟩) ⟨fun a U g mk q => by obtain ⟨q0, q1, qP, qK, qD, qx0⟩ := q; exact ⟨q0, q1, qP, va_K.moved (u := U) (U := U.calling g mk a) (Vm.Alike.refl U.vm) qK, qD, xl.calling qx0⟩, va_recv hKc hPc (ci := 7) (q0 := 0) rfl rfl, fun U hU hW => ⟨rfl, by rw [hU], by rw [hU]; exact hPc, va_K.moved hW.alike hKc, hDc.weaken (fun _ _ _ _ => trivial), by rw [hU]; exact xl.warm hW ((xl.kept hXL hS.2.1).narrow hFc)⟩⟩ rfl rfl hl.1 rfl (lv_room (Nat.le_of_ble_eq_true rfl)) dX7_readWeek_16 ⟨Nat.le_of_ble_eq_true rfl, Nat.le_of_ble_eq_true rfl⟩) hS (fun q _ h => hFc q h) hFc (fun q _ h => hFc q h) (fun E ce q9 u_23 t H1 locs ht hvm hw hB hz1 hk1 hS hcell hcv hcl => ?_) (fun r_24 u_25 t H1 locs ht hvm hw hB hz1 hk1 hS => ?_)
    · obtain ⟨hE9, hB⟩ := hB
      subst hE9
      obtain ⟨hP1, hK1, hD1⟩ := hB
      rw [ht] at hP1
      have hK1 := va_K.moved hvm.symm hK1
      have hK1 : va_K (dC, dI) vwCl [] s := hK1
      obtain ⟨hP, hD⟩ := va_join (wr := [(eO0a bk bto bnm bla bsk bru bbo bdi bda bdk bdt bdp bno), (eO9a bsk wd wf mp mb mo sp sb)]) (w1 := [(eO7a pa lx bk u_23.1 u_23.2.1 u_4.2.2.1 phe phr phs pop), (eO3a lx lby lfi lco lxe u_23.2.2.1 u_23.2.2.2.1 u_23.2.2.2.2.1 u_23.2.2.2.2.2.1 u_23.2.2.2.2.2.2), (eA0 lby cBy 900 fBy), (eA0 lco cCo 23 fCo)]) hP hD [2, 3, 4, 5] [0, 1] hCc rfl (by decide) (by decide) hk1 hFc hP1 hD1
      generalize H1 = H at hP hS hcell ⊢
      obtain ⟨hP, hD⟩ := zre [(eO0a bk bto bnm bla bsk bru bbo bdi bda bdk bdt bdp bno), (eO9a bsk wd wf mp mb mo sp sb), (eO7a pa lx bk u_23.1 u_23.2.1 u_4.2.2.1 phe phr phs pop), (eO3a lx lby lfi lco lxe u_23.2.2.1 u_23.2.2.2.1 u_23.2.2.2.2.1 u_23.2.2.2.2.2.1 u_23.2.2.2.2.2.2), (eA0 lby cBy 900 fBy), (eA0 lco cCo 23 fCo)] hP hD rfl
      have hTX_22 : X_22.1 = 1 := by rw [hX_22]; exact hw.1
      have hq_u_23 : u_23 = X_22.2.2 := by rw [hX_22]; exact hw.2
      obtain ⟨hP9, hD9⟩ := zsub2 (ws' := [(eO7a pa lx bk u_23.1 u_23.2.1 u_4.2.2.1 phe phr phs pop), (eO3a lx lby lfi lco lxe u_23.2.2.1 u_23.2.2.2.1 u_23.2.2.2.2.1 u_23.2.2.2.2.2.1 u_23.2.2.2.2.2.2), (eA0 lby cBy 900 fBy), (eA0 lco cCo 23 fCo), (eO0a bk bto bnm bla bsk bru bbo bdi bda bdk bdt bdp bno), (eO9a bsk wd wf mp mb mo sp sb)]) hP hD [2, 3, 4, 5, 0, 1] (by decide) rfl
      have hK9 := hK.sub (tys' := []) [] rfl
      exact vx_widen (k := 1) (n := 6) (Nat.le_of_ble_eq_true rfl) (Nat.le_of_ble_eq_true rfl) (vx_out (fun x h9 => (hex x h9).elim) hlocks hcell hcv hcl (fun t ht hal => ⟨(u_23.1, u_23.2.1, u_4.2.2.1, u_23.2.2.1, u_23.2.2.2.1, u_23.2.2.2.2.1, u_23.2.2.2.2.2.1, u_23.2.2.2.2.2.2, wd, wf), ((fun e9 => ⟨by rw [e9], by rw [e9]⟩ : fp_readWeek pfa pfp psk lxe lxa lxt lxp lxn lxl fBy fCo wd wf = ((1 : Int32), u_23.1, u_23.2.1, u_4.2.2.1, u_23.2.2.1, u_23.2.2.2.1, u_23.2.2.2.2.1, u_23.2.2.2.2.2.1, u_23.2.2.2.2.2.2, wd, wf) → _) ((by rw [fp_readWeek]; (try rw [← hX_1]); (try rw [xL_eq]); (try rw [if_neg hTX_1]); (try rw [← hq_u_4]); (try rw [← hX_22]); (try rw [xL_eq]); (try rw [if_pos hTX_22]); (try rw [← hq_u_23]); try rfl))), ⟨rfl, by rw [ht]; exact hP9, va_K.moved hal hK9, hD9⟩, hS.F ht⟩) hS.2.2 (Nat.le_of_ble_eq_true rfl) (Nat.le_of_ble_eq_true rfl))
    · obtain ⟨hB, hsz9⟩ := hB
      obtain ⟨hP1, hK1, hD1⟩ := hB
      rw [ht] at hP1
      have hK1 := va_K.moved hvm.symm hK1
      have hK1 : va_K (dC, dI) vwCl [] s := hK1
      obtain ⟨hP, hD⟩ := va_join (wr := [(eO0a bk bto bnm bla bsk bru bbo bdi bda bdk bdt bdp bno), (eO9a bsk wd wf mp mb mo sp sb)]) (w1 := [(eO7a pa lx bk u_25.1 u_25.2.1 u_4.2.2.1 phe phr phs pop), (eO3a lx lby lfi lco lxe u_25.2.2.1 u_25.2.2.2.1 u_25.2.2.2.2.1 u_25.2.2.2.2.2.1 u_25.2.2.2.2.2.2), (eA0 lby cBy 900 fBy), (eA0 lco cCo 23 fCo)]) hP hD [2, 3, 4, 5] [0, 1] rfl rfl (by decide) (by decide) hk1 hFc hP1 hD1
      refine xs_tight (show H1.size = s.heap.size by rw [← ht, hsz9]; exact hHz) ?_
      generalize H1 = H at hP hS ⊢
      obtain ⟨hP, hD⟩ := zre [(eO0a bk bto bnm bla bsk bru bbo bdi bda bdk bdt bdp bno), (eO9a bsk wd wf mp mb mo sp sb), (eO7a pa lx bk u_25.1 u_25.2.1 u_4.2.2.1 phe phr phs pop), (eO3a lx lby lfi lco lxe u_25.2.2.1 u_25.2.2.2.1 u_25.2.2.2.2.1 u_25.2.2.2.2.2.1 u_25.2.2.2.2.2.2), (eA0 lby cBy 900 fBy), (eA0 lco cCo 23 fCo)] hP hD rfl
      obtain ⟨hw, hp_40, hp_41, hp_42⟩ := hw
      have hTX_22 : ¬ X_22.1 = 1 := by rw [hX_22, hw.1]; decide
      have hq_r_24 : r_24 = X_22.2.1 := by rw [hX_22]; exact hw.2.1
      have hq_u_25 : u_25 = X_22.2.2 := by rw [hX_22]; exact hw.2.2
      refine va_put (D := (dC, dI)) (ci := 9) (v := .int r_24) (ty := tyX9 0) (C := RX9) (T := TX9) (N := 7) hx hb htw inlX9 tyX9 tyX9_ok nmX9 hown hK hP hD hS 1 rfl rfl 0 (by decide) (htw _ (ck_17 _ (List.mem_of_getElem? (i := 6) rfl))) (fun _ h9 => h9) rfl (tyX9_ok 0 (by decide)) rfl rfl (Nat.le_of_ble_eq_true rfl) dX7_readWeek_19 (fun H locs hP hD hS => ?_)
      obtain ⟨hP, hD⟩ := zre [(eO0a bk bto bnm bla bsk bru bbo bdi bda bdk bdt bdp bno), (eO9a bsk r_24 wf mp mb mo sp sb), (eO7a pa lx bk u_25.1 u_25.2.1 u_4.2.2.1 phe phr phs pop), (eO3a lx lby lfi lco lxe u_25.2.2.1 u_25.2.2.2.1 u_25.2.2.2.2.1 u_25.2.2.2.2.2.1 u_25.2.2.2.2.2.2), (eA0 lby cBy 900 fBy), (eA0 lco cCo 23 fCo)] hP hD rfl
      refine lv_aload_n hx hb dX7_readWeek_22 rfl (lv_at hl 0 rfl) ?_
      refine va_get (D := (dC, dI)) (ci := 7) (v := .ref bk) (C := RX7) (T := TX7) (N := 9) hx hb htw inlX7 hown hK hP 2 rfl rfl 1 (by decide) (htw _ (ck_13 _ (List.mem_of_getElem? (i := 6) rfl))) (fun _ h9 => h9) rfl dX7_readWeek_23 ?_
      refine va_get (D := (dC, dI)) (ci := 0) (v := .ref bsk) (C := RX0) (T := TX0) (N := 12) hx hb htw inlX0 hown hK hP 0 rfl rfl 3 (by decide) (htw _ (ck_17 _ (List.mem_of_getElem? (i := 5) rfl))) (fun _ h9 => h9) rfl dX7_readWeek_26 ?_
      refine lv_aload_n hx hb dX7_readWeek_29 rfl (lv_at hl 0 rfl) ?_
      refine lv_iconst (v := 0) hx hb dX7_readWeek_30 (by decide) ?_
      refine lv_aload_n hx hb dX7_readWeek_31 rfl (lv_at hl 0 rfl) ?_
      refine va_get (D := (dC, dI)) (ci := 7) (v := .ref bk) (C := RX7) (T := TX7) (N := 9) hx hb htw inlX7 hown hK hP 2 rfl rfl 1 (by decide) (htw _ (ck_13 _ (List.mem_of_getElem? (i := 6) rfl))) (fun _ h9 => h9) rfl dX7_readWeek_32 ?_
      refine va_get (D := (dC, dI)) (ci := 0) (v := .ref bsk) (C := RX0) (T := TX0) (N := 12) hx hb htw inlX0 hown hK hP 0 rfl rfl 3 (by decide) (htw _ (ck_17 _ (List.mem_of_getElem? (i := 5) rfl))) (fun _ h9 => h9) rfl dX7_readWeek_35 ?_
      refine va_get (D := (dC, dI)) (ci := 9) (v := .int r_24) (C := RX9) (T := TX9) (N := 7) hx hb htw inlX9 hown hK hP 1 rfl rfl 0 (by decide) (htw _ (ck_17 _ (List.mem_of_getElem? (i := 6) rfl))) (fun _ h9 => h9) rfl dX7_readWeek_38 ?_
      refine lv_iconst (v := 1) hx hb dX7_readWeek_41 (by decide) ?_
      refine lv_isub hx hb dX7_readWeek_42 ?_
      refine xs_size (fun hHz => ?_)
      obtain ⟨hPc, hDc, hFc, hCc⟩ := zsub3 (ws' := [(eO7a pa lx bk u_25.1 u_25.2.1 u_4.2.2.1 phe phr phs pop), (eO3a lx lby lfi lco lxe u_25.2.2.1 u_25.2.2.2.1 u_25.2.2.2.2.1 u_25.2.2.2.2.2.1 u_25.2.2.2.2.2.2), (eA0 lby cBy 900 fBy), (eA0 lco cCo 23 fCo)]) hP hD hS hA [2, 3, 4, 5] (by decide) rfl
      have hKc := hK.sub (tys' := [(cBy, .byte), (cCo, .int)]) [0, 1] rfl
      obtain ⟨X_43, hX_43⟩ : ∃ X9 : Int32 × Int32 × (Int32) × (Int32) × (Int32) × (Int32) × (Int32) × (Int32) × (Int32), X9 = (fp_numberIn u_25.1 u_25.2.1 lxe u_25.2.2.1 u_25.2.2.2.1 u_25.2.2.2.2.1 u_25.2.2.2.2.2.1 u_25.2.2.2.2.2.2 fBy fCo (0 : Int32) (r_24 - 1)) := ⟨_, rfl⟩
      refine vx_calli (vx_runV (As := [.int 0, .int (r_24 - 1)]) (rest := [.ref bsk]) ⟨hx, hb, hml, hown, htw⟩ (gp_numberIn l hst dC dI pa lx bk u_25.1 u_25.2.1 u_4.2.2.1 phe phr phs pop lby lfi lco lxe u_25.2.2.1 u_25.2.2.2.1 u_25.2.2.2.2.1 u_25.2.2.2.2.2.1 u_25.2.2.2.2.2.2 cBy fBy cCo fCo (0 : Int32) (r_24 - 1) sL H.size (gp_readWeek_s1 (y0 := u_25.2.2.1) hp_40) h9_lxe) (cwV 2 htw (xg_V (ck_16 _ (List.mem_of_getElem? (i := 16) rfl)) (ck_16 _ (List.mem_of_getElem? (i := 17) rfl)) (ck_16 _ (List.mem_of_getElem? (i := 18) rfl)) (ck_1 _ (List.mem_of_getElem? (i := 16) rfl)) (ck_16 _ (List.mem_of_getElem? (i := 19) rfl))) rfl rfl rfl (by exact ⟨rfl, hdc_15.1, hdc_15.2, hdd_7⟩) ⟨Nat.le_of_ble_eq_true rfl, Nat.le_of_ble_eq_true rfl⟩) ⟨fun a U g mk q => by obtain ⟨q0, q1, qP, qK, qD, qx0⟩ := q; exact ⟨q0, q1, qP, va_K.moved (u := U) (U := U.calling g mk a) (Vm.Alike.refl U.vm) qK, qD, xl.calling qx0⟩, va_recv hKc hPc (ci := 7) (q0 := 0) rfl rfl, fun U hU hW => ⟨rfl, by rw [hU], by rw [hU]; exact hPc, va_K.moved hW.alike hKc, hDc.weaken (fun _ _ _ _ => trivial), by rw [hU]; exact xl.warm hW ((xl.kept hXL hS.2.1).narrow hFc)⟩⟩ rfl rfl hl.1 rfl (lv_room (Nat.le_of_ble_eq_true rfl)) dX7_readWeek_43 ⟨Nat.le_of_ble_eq_true rfl, Nat.le_of_ble_eq_true rfl⟩) hS (fun q _ h => hFc q h) hFc (fun q _ h => hFc q h) (fun E ce q9 u_44 t H1 locs ht hvm hw hB hz1 hk1 hS hcell hcv hcl => ?_) (fun r_45 u_46 t H1 locs ht hvm hw hB hz1 hk1 hS => ?_)
      · obtain ⟨hE9, hB⟩ := hB
        subst hE9
        obtain ⟨hP1, hK1, hD1⟩ := hB
        rw [ht] at hP1
        have hK1 := va_K.moved hvm.symm hK1
        have hK1 : va_K (dC, dI) vwCl [] s := hK1
        obtain ⟨hP, hD⟩ := va_join (wr := [(eO0a bk bto bnm bla bsk bru bbo bdi bda bdk bdt bdp bno), (eO9a bsk r_24 wf mp mb mo sp sb)]) (w1 := [(eO7a pa lx bk u_44.1 u_44.2.1 u_4.2.2.1 phe phr phs pop), (eO3a lx lby lfi lco lxe u_44.2.2.1 u_44.2.2.2.1 u_44.2.2.2.2.1 u_44.2.2.2.2.2.1 u_44.2.2.2.2.2.2), (eA0 lby cBy 900 fBy), (eA0 lco cCo 23 fCo)]) hP hD [2, 3, 4, 5] [0, 1] hCc rfl (by decide) (by decide) hk1 hFc hP1 hD1
        generalize H1 = H at hP hS hcell ⊢
        obtain ⟨hP, hD⟩ := zre [(eO0a bk bto bnm bla bsk bru bbo bdi bda bdk bdt bdp bno), (eO9a bsk r_24 wf mp mb mo sp sb), (eO7a pa lx bk u_44.1 u_44.2.1 u_4.2.2.1 phe phr phs pop), (eO3a lx lby lfi lco lxe u_44.2.2.1 u_44.2.2.2.1 u_44.2.2.2.2.1 u_44.2.2.2.2.2.1 u_44.2.2.2.2.2.2), (eA0 lby cBy 900 fBy), (eA0 lco cCo 23 fCo)] hP hD rfl
        have hTX_43 : X_43.1 = 1 := by rw [hX_43]; exact hw.1
        have hq_u_44 : u_44 = X_43.2.2 := by rw [hX_43]; exact hw.2
        obtain ⟨hP9, hD9⟩ := zsub2 (ws' := [(eO7a pa lx bk u_44.1 u_44.2.1 u_4.2.2.1 phe phr phs pop), (eO3a lx lby lfi lco lxe u_44.2.2.1 u_44.2.2.2.1 u_44.2.2.2.2.1 u_44.2.2.2.2.2.1 u_44.2.2.2.2.2.2), (eA0 lby cBy 900 fBy), (eA0 lco cCo 23 fCo), (eO0a bk bto bnm bla bsk bru bbo bdi bda bdk bdt bdp bno), (eO9a bsk r_24 wf mp mb mo sp sb)]) hP hD [2, 3, 4, 5, 0, 1] (by decide) rfl
        have hK9 := hK.sub (tys' := []) [] rfl
        exact vx_widen (k := 1) (n := 6) (Nat.le_of_ble_eq_true rfl) (Nat.le_of_ble_eq_true rfl) (vx_out (fun x h9 => (hex x h9).elim) hlocks hcell hcv hcl (fun t ht hal => ⟨(u_44.1, u_44.2.1, u_4.2.2.1, u_44.2.2.1, u_44.2.2.2.1, u_44.2.2.2.2.1, u_44.2.2.2.2.2.1, u_44.2.2.2.2.2.2, r_24, wf), ((fun e9 => ⟨by rw [e9], by rw [e9]⟩ : fp_readWeek pfa pfp psk lxe lxa lxt lxp lxn lxl fBy fCo wd wf = ((1 : Int32), u_44.1, u_44.2.1, u_4.2.2.1, u_44.2.2.1, u_44.2.2.2.1, u_44.2.2.2.2.1, u_44.2.2.2.2.2.1, u_44.2.2.2.2.2.2, r_24, wf) → _) ((by rw [fp_readWeek]; (try rw [← hX_1]); (try rw [xL_eq]); (try rw [if_neg hTX_1]); (try rw [← hq_u_4]); (try rw [← hX_22]); (try rw [xL_eq]); (try rw [if_neg hTX_22]); (try rw [← hq_r_24]); (try rw [← hq_u_25]); (try rw [← hX_43]); (try rw [xL_eq]); (try rw [if_pos hTX_43]); (try rw [← hq_u_44]); try rfl))), ⟨rfl, by rw [ht]; exact hP9, va_K.moved hal hK9, hD9⟩, hS.F ht⟩) hS.2.2 (Nat.le_of_ble_eq_true rfl) (Nat.le_of_ble_eq_true rfl))
      · obtain ⟨hB, hsz9⟩ := hB
        obtain ⟨hP1, hK1, hD1⟩ := hB
        rw [ht] at hP1
        have hK1 := va_K.moved hvm.symm hK1
        have hK1 : va_K (dC, dI) vwCl [] s := hK1
        obtain ⟨hP, hD⟩ := va_join (wr := [(eO0a bk bto bnm bla bsk bru bbo bdi bda bdk bdt bdp bno), (eO9a bsk r_24 wf mp mb mo sp sb)]) (w1 := [(eO7a pa lx bk u_46.1 u_46.2.1 u_4.2.2.1 phe phr phs pop), (eO3a lx lby lfi lco lxe u_46.2.2.1 u_46.2.2.2.1 u_46.2.2.2.2.1 u_46.2.2.2.2.2.1 u_46.2.2.2.2.2.2), (eA0 lby cBy 900 fBy), (eA0 lco cCo 23 fCo)]) hP hD [2, 3, 4, 5] [0, 1] rfl rfl (by decide) (by decide) hk1 hFc hP1 hD1
        refine xs_tight (show H1.size = s.heap.size by rw [← ht, hsz9]; exact hHz) ?_
        generalize H1 = H at hP hS ⊢
        obtain ⟨hP, hD⟩ := zre [(eO0a bk bto bnm bla bsk bru bbo bdi bda bdk bdt bdp bno), (eO9a bsk r_24 wf mp mb mo sp sb), (eO7a pa lx bk u_46.1 u_46.2.1 u_4.2.2.1 phe phr phs pop), (eO3a lx lby lfi lco lxe u_46.2.2.1 u_46.2.2.2.1 u_46.2.2.2.2.1 u_46.2.2.2.2.2.1 u_46.2.2.2.2.2.2), (eA0 lby cBy 900 fBy), (eA0 lco cCo 23 fCo)] hP hD rfl
        obtain ⟨hw, hp_61, hp_62, hp_63⟩ := hw
        have hTX_43 : ¬ X_43.1 = 1 := by rw [hX_43, hw.1]; decide
        have hq_r_45 : r_45 = X_43.2.1 := by rw [hX_43]; exact hw.2.1
        have hq_u_46 : u_46 = X_43.2.2 := by rw [hX_43]; exact hw.2.2
        refine va_put (D := (dC, dI)) (ci := 9) (v := .int r_45) (ty := tyX9 1) (C := RX9) (T := TX9) (N := 7) hx hb htw inlX9 tyX9 tyX9_ok nmX9 hown hK hP hD hS 1 rfl rfl 1 (by decide) (htw _ (ck_17 _ (List.mem_of_getElem? (i := 7) rfl))) (fun _ h9 => h9) rfl (tyX9_ok 1 (by decide)) rfl rfl (Nat.le_of_ble_eq_true rfl) dX7_readWeek_46 (fun H locs hP hD hS => ?_)
        obtain ⟨hP, hD⟩ := zre [(eO0a bk bto bnm bla bsk bru bbo bdi bda bdk bdt bdp bno), (eO9a bsk r_24 r_45 mp mb mo sp sb), (eO7a pa lx bk u_46.1 u_46.2.1 u_4.2.2.1 phe phr phs pop), (eO3a lx lby lfi lco lxe u_46.2.2.1 u_46.2.2.2.1 u_46.2.2.2.2.1 u_46.2.2.2.2.2.1 u_46.2.2.2.2.2.2), (eA0 lby cBy 900 fBy), (eA0 lco cCo 23 fCo)] hP hD rfl
        refine xs_size (fun hHz => ?_)
        refine vx_ret ?_
        refine W.widen (k := 1) (n := 6) (by omega) (by omega) ?_
        obtain ⟨hP9, hD9⟩ := zsub2 (ws' := [(eO7a pa lx bk u_46.1 u_46.2.1 u_4.2.2.1 phe phr phs pop), (eO3a lx lby lfi lco lxe u_46.2.2.1 u_46.2.2.2.1 u_46.2.2.2.2.1 u_46.2.2.2.2.2.1 u_46.2.2.2.2.2.2), (eA0 lby cBy 900 fBy), (eA0 lco cCo 23 fCo), (eO0a bk bto bnm bla bsk bru bbo bdi bda bdk bdt bdp bno), (eO9a bsk r_24 r_45 mp mb mo sp sb)]) hP hD [2, 3, 4, 5, 0, 1] (by decide) rfl
        have hK9 := hK.sub (tys' := []) [] rfl
        exact W.vret hx hb hr (fun t ht hW => ⟨⟨(u_46.1, u_46.2.1, u_4.2.2.1, u_46.2.2.1, u_46.2.2.2.1, u_46.2.2.2.2.1, u_46.2.2.2.2.2.1, u_46.2.2.2.2.2.2, r_24, r_45), rfl, ⟨((fun e9 => ⟨by rw [e9], by rw [e9]⟩ : fp_readWeek pfa pfp psk lxe lxa lxt lxp lxn lxl fBy fCo wd wf = ((0 : Int32), u_46.1, u_46.2.1, u_4.2.2.1, u_46.2.2.1, u_46.2.2.2.1, u_46.2.2.2.2.1, u_46.2.2.2.2.2.1, u_46.2.2.2.2.2.2, r_24, r_45) → _) ((by rw [fp_readWeek]; (try rw [← hX_1]); (try rw [xL_eq]); (try rw [if_neg hTX_1]); (try rw [← hq_u_4]); (try rw [← hX_22]); (try rw [xL_eq]); (try rw [if_neg hTX_22]); (try rw [← hq_r_24]); (try rw [← hq_u_25]); (try rw [← hX_43]); (try rw [xL_eq]); (try rw [if_neg hTX_43]); (try rw [← hq_r_45]); (try rw [← hq_u_46]); try rfl))), (gp_readWeek_s2 (y0 := u_46.2.2.1) hp_61)⟩, ⟨by rw [ht]; exact hP9, va_K.moved hW.alike hK9, hD9⟩, by rw [ht]; first | exact hHz | exact hHz.trans (by rw [rH])⟩, hS.F ht⟩) hS.2.2 dX7_readWeek_49

def fp_readMoon (pfa : Int32) (pfp : Int32) (psk : Int32) (lxe : Int32) (lxa : Int32) (lxt : Int32) (lxp : Int32) (lxn : Int32) (lxl : Int32) (fBy : Nat → Int32) (fCo : Nat → Int32) (mp : Int32) (mb : Int32) (mo : Int32) : Int32 × (Int32) × (Int32) × (Int32) × (Int32) × (Int32) × (Int32) × (Int32) × (Int32) × (Int32) × (Int32) × (Int32) := (xL ((fp_beginSky pfa pfp psk lxe lxa lxt lxp lxn lxl fBy fCo (2 : Int32))) (fun X_1 => (if X_1.1 = 1 then ((1 : Int32), X_1.2.1, X_1.2.2.1, X_1.2.2.2.1, X_1.2.2.2.2.1, X_1.2.2.2.2.2.1, X_1.2.2.2.2.2.2.1, X_1.2.2.2.2.2.2.2.1, X_1.2.2.2.2.2.2.2.2, mp, mb, mo) else (xL ((fp_numberIn X_1.2.1 X_1.2.2.1 lxe X_1.2.2.2.2.1 X_1.2.2.2.2.2.1 X_1.2.2.2.2.2.2.1 X_1.2.2.2.2.2.2.2.1 X_1.2.2.2.2.2.2.2.2 fBy fCo (1 : Int32) (9999 : Int32))) (fun X_22 => (if X_22.1 = 1 then ((1 : Int32), X_22.2.2.1, X_22.2.2.2.1, X_1.2.2.2.1, X_22.2.2.2.2.1, X_22.2.2.2.2.2.1, X_22.2.2.2.2.2.2.1, X_22.2.2.2.2.2.2.2.1, X_22.2.2.2.2.2.2.2.2, mp, mb, mo) else (xL ((fp_latterParts X_22.2.2.1 X_22.2.2.2.1 lxe X_22.2.2.2.2.1 X_22.2.2.2.2.2.1 X_22.2.2.2.2.2.2.1 X_22.2.2.2.2.2.2.2.1 X_22.2.2.2.2.2.2.2.2 fBy fCo X_22.2.1)) (fun X_43 => (if X_43.1 = 1 then ((1 : Int32), X_43.2.2.1, X_43.2.2.2.1, X_1.2.2.2.1, X_43.2.2.2.2.1, X_43.2.2.2.2.2.1, X_43.2.2.2.2.2.2.1, X_43.2.2.2.2.2.2.2.1, X_43.2.2.2.2.2.2.2.2, X_22.2.1, mb, mo) else (xL ((fp_numberIn X_43.2.2.1 X_43.2.2.2.1 lxe X_43.2.2.2.2.1 X_43.2.2.2.2.2.1 X_43.2.2.2.2.2.2.1 X_43.2.2.2.2.2.2.2.1 X_43.2.2.2.2.2.2.2.2 fBy fCo (0 : Int32) (X_22.2.1 - 1))) (fun X_62 => (if X_62.1 = 1 then ((1 : Int32), X_62.2.2.1, X_62.2.2.2.1, X_1.2.2.2.1, X_62.2.2.2.2.1, X_62.2.2.2.2.2.1, X_62.2.2.2.2.2.2.1, X_62.2.2.2.2.2.2.2.1, X_62.2.2.2.2.2.2.2.2, X_22.2.1, X_43.2.1, mo) else ((0 : Int32), X_62.2.2.1, X_62.2.2.2.1, X_1.2.2.2.1, X_62.2.2.2.2.1, X_62.2.2.2.2.2.1, X_62.2.2.2.2.2.2.1, X_62.2.2.2.2.2.2.2.1, X_62.2.2.2.2.2.2.2.2, X_22.2.1, X_43.2.1, X_62.2.1)))))))))))))
theorem gp_readMoon_s0 {y0 : Int32} (h0 : ¬ (y0 < 0)) : ¬ (y0 < 0) := h0
theorem gp_readMoon_s1 {y0 : Int32} (h0 : ¬ (y0 < 0)) : ¬ (y0 < 0) := h0
theorem gp_readMoon_s2 {y0 : Int32} (h0 : ¬ (y0 < 0)) : ¬ (y0 < 0) := h0
theorem gp_readMoon_s3 {y0 : Int32} (h0 : ¬ (y0 < 0)) : ¬ (y0 < 0) := h0
theorem dX7_readMoon_0 : decode cX7_readMoon 0 = .ok (.aload_n 0, 1) := zk_42 (by decide +kernel)
theorem dX7_readMoon_1 : decode cX7_readMoon 1 = .ok (.iconst 2, 1) := zk_5 (by decide +kernel)
theorem dX7_readMoon_2 : decode cX7_readMoon 2 = .ok (.invokevirtual 130, 3) := zk_182 (by decide +kernel)
theorem dX7_readMoon_5 : decode cX7_readMoon 5 = .ok (.aload_n 0, 1) := zk_42 (by decide +kernel)
theorem dX7_readMoon_6 : decode cX7_readMoon 6 = .ok (.getfield 31, 3) := zk_180 (by decide +kernel)
theorem dX7_readMoon_9 : decode cX7_readMoon 9 = .ok (.getfield 133, 3) := zk_180 (by decide +kernel)
theorem dX7_readMoon_12 : decode cX7_readMoon 12 = .ok (.aload_n 0, 1) := zk_42 (by decide +kernel)
theorem dX7_readMoon_13 : decode cX7_readMoon 13 = .ok (.iconst 1, 1) := zk_4 (by decide +kernel)
theorem dX7_readMoon_14 : decode cX7_readMoon 14 = .ok (.sipush 9999, 3) := zk_17 (by decide +kernel)
theorem dX7_readMoon_17 : decode cX7_readMoon 17 = .ok (.invokevirtual 105, 3) := zk_182 (by decide +kernel)
theorem dX7_readMoon_20 : decode cX7_readMoon 20 = .ok (.putfield 145, 3) := zk_181 (by decide +kernel)
theorem dX7_readMoon_23 : decode cX7_readMoon 23 = .ok (.aload_n 0, 1) := zk_42 (by decide +kernel)
theorem dX7_readMoon_24 : decode cX7_readMoon 24 = .ok (.getfield 31, 3) := zk_180 (by decide +kernel)
theorem dX7_readMoon_27 : decode cX7_readMoon 27 = .ok (.getfield 133, 3) := zk_180 (by decide +kernel)
theorem dX7_readMoon_30 : decode cX7_readMoon 30 = .ok (.aload_n 0, 1) := zk_42 (by decide +kernel)
theorem dX7_readMoon_31 : decode cX7_readMoon 31 = .ok (.aload_n 0, 1) := zk_42 (by decide +kernel)
theorem dX7_readMoon_32 : decode cX7_readMoon 32 = .ok (.getfield 31, 3) := zk_180 (by decide +kernel)
theorem dX7_readMoon_35 : decode cX7_readMoon 35 = .ok (.getfield 133, 3) := zk_180 (by decide +kernel)
theorem dX7_readMoon_38 : decode cX7_readMoon 38 = .ok (.getfield 145, 3) := zk_180 (by decide +kernel)
theorem dX7_readMoon_41 : decode cX7_readMoon 41 = .ok (.invokevirtual 148, 3) := zk_182 (by decide +kernel)
theorem dX7_readMoon_44 : decode cX7_readMoon 44 = .ok (.putfield 151, 3) := zk_181 (by decide +kernel)
theorem dX7_readMoon_47 : decode cX7_readMoon 47 = .ok (.aload_n 0, 1) := zk_42 (by decide +kernel)
theorem dX7_readMoon_48 : decode cX7_readMoon 48 = .ok (.getfield 31, 3) := zk_180 (by decide +kernel)
theorem dX7_readMoon_51 : decode cX7_readMoon 51 = .ok (.getfield 133, 3) := zk_180 (by decide +kernel)
theorem dX7_readMoon_54 : decode cX7_readMoon 54 = .ok (.aload_n 0, 1) := zk_42 (by decide +kernel)
theorem dX7_readMoon_55 : decode cX7_readMoon 55 = .ok (.iconst 0, 1) := zk_3 (by decide +kernel)
theorem dX7_readMoon_56 : decode cX7_readMoon 56 = .ok (.aload_n 0, 1) := zk_42 (by decide +kernel)
theorem dX7_readMoon_57 : decode cX7_readMoon 57 = .ok (.getfield 31, 3) := zk_180 (by decide +kernel)
theorem dX7_readMoon_60 : decode cX7_readMoon 60 = .ok (.getfield 133, 3) := zk_180 (by decide +kernel)
theorem dX7_readMoon_63 : decode cX7_readMoon 63 = .ok (.getfield 145, 3) := zk_180 (by decide +kernel)
theorem dX7_readMoon_66 : decode cX7_readMoon 66 = .ok (.iconst 1, 1) := zk_4 (by decide +kernel)
theorem dX7_readMoon_67 : decode cX7_readMoon 67 = .ok (.isub, 1) := zk_100 (by decide +kernel)
theorem dX7_readMoon_68 : decode cX7_readMoon 68 = .ok (.invokevirtual 105, 3) := zk_182 (by decide +kernel)
theorem dX7_readMoon_71 : decode cX7_readMoon 71 = .ok (.putfield 154, 3) := zk_181 (by decide +kernel)
theorem dX7_readMoon_74 : decode cX7_readMoon 74 = .ok (.return_, 1) := zk_177 (by decide +kernel)
set_option maxHeartbeats 4000000 in
set_option maxRecDepth 100000 in
theorem gp_readMoon (l : Launch) (hst : l.stackTraces = false) (dC : Nat → ClassId) (dI : Nat → Nat → Nat) (pa : Nat) (lx : Nat) (bk : Nat) (pfa : Int32) (pfp : Int32) (psk : Int32) (phe : Nat) (phr : Nat) (phs : Int32) (pop : Int32) (lby : Nat) (lfi : Int32) (lco : Nat) (lxe : Int32) (lxa : Int32) (lxt : Int32) (lxp : Int32) (lxn : Int32) (lxl : Int32) (cBy : ClassId) (fBy : Nat → Int32) (cCo : ClassId) (fCo : Nat → Int32) (bto : Nat) (bnm : Nat) (bla : Nat) (bsk : Nat) (bru : Nat) (bbo : Nat) (bdi : Nat) (bda : Nat) (bdk : Nat) (bdt : Nat) (bdp : Nat) (bno : Nat) (wd : Int32) (wf : Int32) (mp : Int32) (mb : Int32) (mo : Int32) (sp : Int32) (sb : Int32) (sL : Nat → Nat) (sz : Nat) (h0_lxa : ¬ lxa < 0) (h9_lxe : lxe ≤ 900) : vx_Met l yX7_readMoon (Cond.code yX7_readMoon cX7_readMoon 1 none :: wsL_law) ({ frames := 9, cells := 1, slots := 6, locals := 151 }) (va_Pc [.ref pa] (fun U => U.heap.size = sz ∧ va_P (dC, dI) vwCl [(eO7a pa lx bk pfa pfp psk phe phr phs pop), (eO3a lx lby lfi lco lxe lxa lxt lxp lxn lxl), (eA0 lby cBy 900 fBy), (eA0 lco cCo 23 fCo), (eO0a bk bto bnm bla bsk bru bbo bdi bda bdk bdt bdp bno), (eO9a bsk wd wf mp mb mo sp sb)] U.heap ∧ va_K (dC, dI) vwCl [(cBy, .byte), (cCo, .int)] U ∧ va_D (fun _ => True) [(eO7a pa lx bk pfa pfp psk phe phr phs pop), (eO3a lx lby lfi lco lxe lxa lxt lxp lxn lxl), (eA0 lby cBy 900 fBy), (eA0 lco cCo 23 fCo), (eO0a bk bto bnm bla bsk bru bbo bdi bda bdk bdt bdp bno), (eO9a bsk wd wf mp mb mo sp sb)] ∧ xl sL (va_A [(eO7a pa lx bk pfa pfp psk phe phr phs pop), (eO3a lx lby lfi lco lxe lxa lxt lxp lxn lxl), (eA0 lby cBy 900 fBy), (eA0 lco cCo 23 fCo), (eO0a bk bto bnm bla bsk bru bbo bdi bda bdk bdt bdp bno), (eO9a bsk wd wf mp mb mo sp sb)] sz) U U.heap)) (va_Qv (fun (u : (Int32) × (Int32) × (Int32) × (Int32) × (Int32) × (Int32) × (Int32) × (Int32) × (Int32) × (Int32) × (Int32)) => ((fp_readMoon pfa pfp psk lxe lxa lxt lxp lxn lxl fBy fCo mp mb mo).1 = 0 ∧ u = (fp_readMoon pfa pfp psk lxe lxa lxt lxp lxn lxl fBy fCo mp mb mo).2) ∧ (¬ u.2.2.2.1 < 0)) (fun (u : (Int32) × (Int32) × (Int32) × (Int32) × (Int32) × (Int32) × (Int32) × (Int32) × (Int32) × (Int32) × (Int32)) t => (va_P (dC, dI) vwCl [(eO7a pa lx bk u.1 u.2.1 u.2.2.1 phe phr phs pop), (eO3a lx lby lfi lco lxe u.2.2.2.1 u.2.2.2.2.1 u.2.2.2.2.2.1 u.2.2.2.2.2.2.1 u.2.2.2.2.2.2.2.1), (eA0 lby cBy 900 fBy), (eA0 lco cCo 23 fCo), (eO0a bk bto bnm bla bsk bru bbo bdi bda bdk bdt bdp bno), (eO9a bsk wd wf u.2.2.2.2.2.2.2.2.1 u.2.2.2.2.2.2.2.2.2.1 u.2.2.2.2.2.2.2.2.2.2 sp sb)] t.heap ∧ va_K (dC, dI) vwCl [] t ∧ va_D (va_A [(eO7a pa lx bk pfa pfp psk phe phr phs pop), (eO3a lx lby lfi lco lxe lxa lxt lxp lxn lxl), (eA0 lby cBy 900 fBy), (eA0 lco cCo 23 fCo), (eO0a bk bto bnm bla bsk bru bbo bdi bda bdk bdt bdp bno), (eO9a bsk wd wf mp mb mo sp sb)] sz) [(eO7a pa lx bk u.1 u.2.1 u.2.2.1 phe phr phs pop), (eO3a lx lby lfi lco lxe u.2.2.2.1 u.2.2.2.2.1 u.2.2.2.2.2.1 u.2.2.2.2.2.2.1 u.2.2.2.2.2.2.2.1), (eA0 lby cBy 900 fBy), (eA0 lco cCo 23 fCo), (eO0a bk bto bnm bla bsk bru bbo bdi bda bdk bdt bdp bno), (eO9a bsk wd wf u.2.2.2.2.2.2.2.2.1 u.2.2.2.2.2.2.2.2.2.1 u.2.2.2.2.2.2.2.2.2.2 sp sb)]) ∧ t.heap.size = sz) (va_A [(eO7a pa lx bk pfa pfp psk phe phr phs pop), (eO3a lx lby lfi lco lxe lxa lxt lxp lxn lxl), (eA0 lby cBy 900 fBy), (eA0 lco cCo 23 fCo), (eO0a bk bto bnm bla bsk bru bbo bdi bda bdk bdt bdp bno), (eO9a bsk wd wf mp mb mo sp sb)] sz)) (vx_X (fun (u : (Int32) × (Int32) × (Int32) × (Int32) × (Int32) × (Int32) × (Int32) × (Int32) × (Int32) × (Int32) × (Int32)) => (fp_readMoon pfa pfp psk lxe lxa lxt lxp lxn lxl fBy fCo mp mb mo).1 = 1 ∧ u = (fp_readMoon pfa pfp psk lxe lxa lxt lxp lxn lxl fBy fCo mp mb mo).2) (fun (E : String) (u : (Int32) × (Int32) × (Int32) × (Int32) × (Int32) × (Int32) × (Int32) × (Int32) × (Int32) × (Int32) × (Int32)) (t : State) => E = "java/lang/IllegalStateException" ∧ va_P (dC, dI) vwCl [(eO7a pa lx bk u.1 u.2.1 u.2.2.1 phe phr phs pop), (eO3a lx lby lfi lco lxe u.2.2.2.1 u.2.2.2.2.1 u.2.2.2.2.2.1 u.2.2.2.2.2.2.1 u.2.2.2.2.2.2.2.1), (eA0 lby cBy 900 fBy), (eA0 lco cCo 23 fCo), (eO0a bk bto bnm bla bsk bru bbo bdi bda bdk bdt bdp bno), (eO9a bsk wd wf u.2.2.2.2.2.2.2.2.1 u.2.2.2.2.2.2.2.2.2.1 u.2.2.2.2.2.2.2.2.2.2 sp sb)] t.heap ∧ va_K (dC, dI) vwCl [] t ∧ va_D (va_A [(eO7a pa lx bk pfa pfp psk phe phr phs pop), (eO3a lx lby lfi lco lxe lxa lxt lxp lxn lxl), (eA0 lby cBy 900 fBy), (eA0 lco cCo 23 fCo), (eO0a bk bto bnm bla bsk bru bbo bdi bda bdk bdt bdp bno), (eO9a bsk wd wf mp mb mo sp sb)] sz) [(eO7a pa lx bk u.1 u.2.1 u.2.2.1 phe phr phs pop), (eO3a lx lby lfi lco lxe u.2.2.2.1 u.2.2.2.2.1 u.2.2.2.2.2.1 u.2.2.2.2.2.2.1 u.2.2.2.2.2.2.2.1), (eA0 lby cBy 900 fBy), (eA0 lco cCo 23 fCo), (eO0a bk bto bnm bla bsk bru bbo bdi bda bdk bdt bdp bno), (eO9a bsk wd wf u.2.2.2.2.2.2.2.2.1 u.2.2.2.2.2.2.2.2.2.1 u.2.2.2.2.2.2.2.2.2.2 sp sb)]) (va_A [(eO7a pa lx bk pfa pfp psk phe phr phs pop), (eO3a lx lby lfi lco lxe lxa lxt lxp lxn lxl), (eA0 lby cBy 900 fBy), (eA0 lco cCo 23 fCo), (eO0a bk bto bnm bla bsk bru bbo bdi bda bdk bdt bdp bno), (eO9a bsk wd wf mp mb mo sp sb)] sz)) 1 6 (va_A [(eO7a pa lx bk pfa pfp psk phe phr phs pop), (eO3a lx lby lfi lco lxe lxa lxt lxp lxn lxl), (eA0 lby cBy 900 fBy), (eA0 lco cCo 23 fCo), (eO0a bk bto bnm bla bsk bru bbo bdi bda bdk bdt bdp bno), (eO9a bsk wd wf mp mb mo sp sb)] sz) := by
  refine vx_ofW (cc := cX7_readMoon) (maxL := 1) (ret := none) (by decide) rfl ?_
  intro p e s m args below meth c s₁ B hml hex hv
  obtain ⟨rfl, hsz, hP, hK, hD0, hXL⟩ := hv
  have hx := B.exec
  have hb := B.bytes
  have hr := B.returns
  have hts := atoms_spec (ws := Cond.code yX7_readMoon cX7_readMoon 1 none :: wsL_law) B.pre
  have htw : ∀ w ∈ wsL_law, w.before _ s = true := fun w h => hts w (List.mem_cons_of_mem _ h)
  have hown : s.vm.findClass RX7 = some m.cls := findClass_of_methodNamed B.named
  have hlocks := B.notSynchronized
  subst hsz
  have hD := hD0.self (sz := s.heap.size)
  generalize hAe : va_A [(eO7a pa lx bk pfa pfp psk phe phr phs pop), (eO3a lx lby lfi lco lxe lxa lxt lxp lxn lxl), (eA0 lby cBy 900 fBy), (eA0 lco cCo 23 fCo), (eO0a bk bto bnm bla bsk bru bbo bdi bda bdk bdt bdp bno), (eO9a bsk wd wf mp mb mo sp sb)] s.heap.size = A at hD hXL ⊢
  have hA : ∀ q : Nat, s.heap.size ≤ q → A q := fun q h => by rw [← hAe]; exact Or.inr h
  obtain ⟨H, rH⟩ : ∃ z : Heap, z = s.heap := ⟨_, rfl⟩
  have hS : va_S A s.heap H [] := by rw [rH]; exact va_S.rf
  have hP : va_P (dC, dI) vwCl [(eO7a pa lx bk pfa pfp psk phe phr phs pop), (eO3a lx lby lfi lco lxe lxa lxt lxp lxn lxl), (eA0 lby cBy 900 fBy), (eA0 lco cCo 23 fCo), (eO0a bk bto bnm bla bsk bru bbo bdi bda bdk bdt bdp bno), (eO9a bsk wd wf mp mb mo sp sb)] H := by rw [rH]; exact hP
  rw [← rH]
  have hl := lv_entry ([.ref pa]) (n := 1) (Nat.le_of_ble_eq_true rfl)
  rw [lg_entry_eq]
  generalize (lg_sl ([.ref pa]) ++ List.replicate (1 - (lg_sl ([.ref pa])).length) Slot.unset).toArray = ls at hl ⊢
  have hl : lv_has ls 1 [(0, .ref pa)] := hl
  refine lv_aload_n hx hb dX7_readMoon_0 rfl (lv_at hl 0 rfl) ?_
  refine lv_iconst (v := 2) hx hb dX7_readMoon_1 (by decide) ?_
  refine xs_size (fun hHz => ?_)
  obtain ⟨hPc, hDc, hFc, hCc⟩ := zsub3 (ws' := [(eO7a pa lx bk pfa pfp psk phe phr phs pop), (eO3a lx lby lfi lco lxe lxa lxt lxp lxn lxl), (eA0 lby cBy 900 fBy), (eA0 lco cCo 23 fCo)]) hP hD hS hA [0, 1, 2, 3] (by decide) rfl
  have hKc := hK.sub (tys' := [(cBy, .byte), (cCo, .int)]) [0, 1] rfl
  obtain ⟨X_1, hX_1⟩ : ∃ X9 : Int32 × (Int32) × (Int32) × (Int32) × (Int32) × (Int32) × (Int32) × (Int32) × (Int32), X9 = (fp_beginSky pfa pfp psk lxe lxa lxt lxp lxn lxl fBy fCo (2 : Int32)) := ⟨_, rfl⟩
  refine vx_callv (vx_runV (As := [.int 2]) (rest := []) ⟨hx, hb, hml, hown, htw⟩ (gp_beginSky l hst dC dI pa lx bk pfa pfp psk phe phr phs pop lby lfi lco lxe lxa lxt lxp lxn lxl cBy fBy cCo fCo (2 : Int32) sL H.size h0_lxa h9_lxe) (cwV 1 htw (xg_V (ck_17 _ (List.mem_of_getElem? (i := 8) rfl)) (ck_17 _ (List.mem_of_getElem? (i := 9) rfl)) (ck_17 _ (List.mem_of_getElem? (i := 10) rfl)) (ck_1 _ (List.mem_of_getElem? (i := 16) rfl)) (ck_17 _ (List.mem_of_getElem? (i := 11) rfl))) rfl rfl rfl (by exact ⟨rfl, hdc_15.1, hdc_15.2, hdd_9⟩) ⟨Nat.le_of_ble_eq_true rfl, Nat.le_of_ble_eq_true rfl⟩) ⟨fun a U g mk q => by obtain ⟨q0, q1, qP, qK, qD, qx0⟩ := q; exact ⟨q0, q1, qP, va_K.moved (u := U) (U := U.calling g mk a) (Vm.Alike.refl U.vm) qK, qD, xl.calling qx0⟩, va_recv hKc hPc (ci := 7) (q0 := 0) rfl rfl, fun U hU hW => ⟨rfl, by rw [hU], by rw [hU]; exact hPc, va_K.moved hW.alike hKc, hDc.weaken (fun _ _ _ _ => trivial), by rw [hU]; exact xl.warm hW ((xl.kept hXL hS.2.1).narrow hFc)⟩⟩ rfl rfl hl.1 rfl (lv_room (Nat.le_of_ble_eq_true rfl)) dX7_readMoon_2 ⟨Nat.le_of_ble_eq_true rfl, Nat.le_of_ble_eq_true rfl⟩) hS (fun q _ h => hFc q h) hFc (fun q _ h => hFc q h) (fun E ce q9 u_2 t H1 locs ht hvm hw hB hz1 hk1 hS hcell hcv hcl => ?_) (fun u_4 t H1 locs ht hvm hw hB hz1 hk1 hS => ?_)
  · obtain ⟨hE9, hB⟩ := hB
    subst hE9
    obtain ⟨hP1, hK1, hD1⟩ := hB
    rw [ht] at hP1
    have hK1 := va_K.moved hvm.symm hK1
    have hK1 : va_K (dC, dI) vwCl [] s := hK1
    obtain ⟨hP, hD⟩ := va_join (wr := [(eO0a bk bto bnm bla bsk bru bbo bdi bda bdk bdt bdp bno), (eO9a bsk wd wf mp mb mo sp sb)]) (w1 := [(eO7a pa lx bk u_2.1 u_2.2.1 u_2.2.2.1 phe phr phs pop), (eO3a lx lby lfi lco lxe u_2.2.2.2.1 u_2.2.2.2.2.1 u_2.2.2.2.2.2.1 u_2.2.2.2.2.2.2.1 u_2.2.2.2.2.2.2.2), (eA0 lby cBy 900 fBy), (eA0 lco cCo 23 fCo)]) hP hD [0, 1, 2, 3] [4, 5] hCc rfl (by decide) (by decide) hk1 hFc hP1 hD1
    generalize H1 = H at hP hS hcell ⊢
    obtain ⟨hP, hD⟩ := zre [(eO0a bk bto bnm bla bsk bru bbo bdi bda bdk bdt bdp bno), (eO9a bsk wd wf mp mb mo sp sb), (eO7a pa lx bk u_2.1 u_2.2.1 u_2.2.2.1 phe phr phs pop), (eO3a lx lby lfi lco lxe u_2.2.2.2.1 u_2.2.2.2.2.1 u_2.2.2.2.2.2.1 u_2.2.2.2.2.2.2.1 u_2.2.2.2.2.2.2.2), (eA0 lby cBy 900 fBy), (eA0 lco cCo 23 fCo)] hP hD rfl
    have hTX_1 : X_1.1 = 1 := by rw [hX_1]; exact hw.1
    have hq_u_2 : u_2 = X_1.2 := by rw [hX_1]; exact hw.2
    obtain ⟨hP9, hD9⟩ := zsub2 (ws' := [(eO7a pa lx bk u_2.1 u_2.2.1 u_2.2.2.1 phe phr phs pop), (eO3a lx lby lfi lco lxe u_2.2.2.2.1 u_2.2.2.2.2.1 u_2.2.2.2.2.2.1 u_2.2.2.2.2.2.2.1 u_2.2.2.2.2.2.2.2), (eA0 lby cBy 900 fBy), (eA0 lco cCo 23 fCo), (eO0a bk bto bnm bla bsk bru bbo bdi bda bdk bdt bdp bno), (eO9a bsk wd wf mp mb mo sp sb)]) hP hD [2, 3, 4, 5, 0, 1] (by decide) rfl
    have hK9 := hK.sub (tys' := []) [] rfl
    exact vx_widen (k := 1) (n := 6) (Nat.le_of_ble_eq_true rfl) (Nat.le_of_ble_eq_true rfl) (vx_out (fun x h9 => (hex x h9).elim) hlocks hcell hcv hcl (fun t ht hal => ⟨(u_2.1, u_2.2.1, u_2.2.2.1, u_2.2.2.2.1, u_2.2.2.2.2.1, u_2.2.2.2.2.2.1, u_2.2.2.2.2.2.2.1, u_2.2.2.2.2.2.2.2, mp, mb, mo), ((fun e9 => ⟨by rw [e9], by rw [e9]⟩ : fp_readMoon pfa pfp psk lxe lxa lxt lxp lxn lxl fBy fCo mp mb mo = ((1 : Int32), u_2.1, u_2.2.1, u_2.2.2.1, u_2.2.2.2.1, u_2.2.2.2.2.1, u_2.2.2.2.2.2.1, u_2.2.2.2.2.2.2.1, u_2.2.2.2.2.2.2.2, mp, mb, mo) → _) ((by rw [fp_readMoon]; (try rw [← hX_1]); (try rw [xL_eq]); (try rw [if_pos hTX_1]); (try rw [← hq_u_2]); try rfl))), ⟨rfl, by rw [ht]; exact hP9, va_K.moved hal hK9, hD9⟩, hS.F ht⟩) hS.2.2 (Nat.le_of_ble_eq_true rfl) (Nat.le_of_ble_eq_true rfl))
  · obtain ⟨hB, hsz9⟩ := hB
    obtain ⟨hP1, hK1, hD1⟩ := hB
    rw [ht] at hP1
    have hK1 := va_K.moved hvm.symm hK1
    have hK1 : va_K (dC, dI) vwCl [] s := hK1
    obtain ⟨hP, hD⟩ := va_join (wr := [(eO0a bk bto bnm bla bsk bru bbo bdi bda bdk bdt bdp bno), (eO9a bsk wd wf mp mb mo sp sb)]) (w1 := [(eO7a pa lx bk u_4.1 u_4.2.1 u_4.2.2.1 phe phr phs pop), (eO3a lx lby lfi lco lxe u_4.2.2.2.1 u_4.2.2.2.2.1 u_4.2.2.2.2.2.1 u_4.2.2.2.2.2.2.1 u_4.2.2.2.2.2.2.2), (eA0 lby cBy 900 fBy), (eA0 lco cCo 23 fCo)]) hP hD [0, 1, 2, 3] [4, 5] rfl rfl (by decide) (by decide) hk1 hFc hP1 hD1
    refine xs_tight (show H1.size = s.heap.size by rw [← ht, hsz9]; exact hHz) ?_
    generalize H1 = H at hP hS ⊢
    obtain ⟨hP, hD⟩ := zre [(eO0a bk bto bnm bla bsk bru bbo bdi bda bdk bdt bdp bno), (eO9a bsk wd wf mp mb mo sp sb), (eO7a pa lx bk u_4.1 u_4.2.1 u_4.2.2.1 phe phr phs pop), (eO3a lx lby lfi lco lxe u_4.2.2.2.1 u_4.2.2.2.2.1 u_4.2.2.2.2.2.1 u_4.2.2.2.2.2.2.1 u_4.2.2.2.2.2.2.2), (eA0 lby cBy 900 fBy), (eA0 lco cCo 23 fCo)] hP hD rfl
    obtain ⟨hw, hp_21⟩ := hw
    have hTX_1 : ¬ X_1.1 = 1 := by rw [hX_1, hw.1]; decide
    have hq_u_4 : u_4 = X_1.2 := by rw [hX_1]; exact hw.2
    refine lv_aload_n hx hb dX7_readMoon_5 rfl (lv_at hl 0 rfl) ?_
    refine va_get (D := (dC, dI)) (ci := 7) (v := .ref bk) (C := RX7) (T := TX7) (N := 9) hx hb htw inlX7 hown hK hP 2 rfl rfl 1 (by decide) (htw _ (ck_13 _ (List.mem_of_getElem? (i := 6) rfl))) (fun _ h9 => h9) rfl dX7_readMoon_6 ?_
    refine va_get (D := (dC, dI)) (ci := 0) (v := .ref bsk) (C := RX0) (T := TX0) (N := 12) hx hb htw inlX0 hown hK hP 0 rfl rfl 3 (by decide) (htw _ (ck_17 _ (List.mem_of_getElem? (i := 5) rfl))) (fun _ h9 => h9) rfl dX7_readMoon_9 ?_
    refine lv_aload_n hx hb dX7_readMoon_12 rfl (lv_at hl 0 rfl) ?_
    refine lv_iconst (v := 1) hx hb dX7_readMoon_13 (by decide) ?_
    refine lv_sipush (v := 9999) hx hb dX7_readMoon_14 (by decide) ?_
    refine xs_size (fun hHz => ?_)
    obtain ⟨hPc, hDc, hFc, hCc⟩ := zsub3 (ws' := [(eO7a pa lx bk u_4.1 u_4.2.1 u_4.2.2.1 phe phr phs pop), (eO3a lx lby lfi lco lxe u_4.2.2.2.1 u_4.2.2.2.2.1 u_4.2.2.2.2.2.1 u_4.2.2.2.2.2.2.1 u_4.2.2.2.2.2.2.2), (eA0 lby cBy 900 fBy), (eA0 lco cCo 23 fCo)]) hP hD hS hA [2, 3, 4, 5] (by decide) rfl
    have hKc := hK.sub (tys' := [(cBy, .byte), (cCo, .int)]) [0, 1] rfl
    obtain ⟨X_22, hX_22⟩ : ∃ X9 : Int32 × Int32 × (Int32) × (Int32) × (Int32) × (Int32) × (Int32) × (Int32) × (Int32), X9 = (fp_numberIn u_4.1 u_4.2.1 lxe u_4.2.2.2.1 u_4.2.2.2.2.1 u_4.2.2.2.2.2.1 u_4.2.2.2.2.2.2.1 u_4.2.2.2.2.2.2.2 fBy fCo (1 : Int32) (9999 : Int32)) := ⟨_, rfl⟩
    refine vx_calli (vx_runV (As := [.int 1, .int 9999]) (rest := [.ref bsk]) ⟨hx, hb, hml, hown, htw⟩ (gp_numberIn l hst dC dI pa lx bk u_4.1 u_4.2.1 u_4.2.2.1 phe phr phs pop lby lfi lco lxe u_4.2.2.2.1 u_4.2.2.2.2.1 u_4.2.2.2.2.2.1 u_4.2.2.2.2.2.2.1 u_4.2.2.2.2.2.2.2 cBy fBy cCo fCo (1 : Int32) (9999 : Int32) sL H.size (gp_readMoon_s0 (y0 := u_4.2.2.2.1) hp_21) h9_lxe) (cwV 2 htw (xg_V (ck_16 _ (List.mem_of_getElem? (i := 16) rfl)) (ck_16 _ (List.mem_of_getElem? (i := 17) rfl)) (ck_16 _ (List.mem_of_getElem? (i := 18) rfl)) (ck_1 _ (List.mem_of_getElem? (i := 16) rfl)) (ck_16 _ (List.mem_of_getElem? (i := 19) rfl))) rfl rfl rfl (by exact ⟨rfl, hdc_15.1, hdc_15.2, hdd_7⟩) ⟨Nat.le_of_ble_eq_true rfl, Nat.le_of_ble_eq_true rfl⟩) ⟨fun a U g mk q => by obtain ⟨q0, q1, qP, qK, qD, qx0⟩ := q; exact ⟨q0, q1, qP, va_K.moved (u := U) (U := U.calling g mk a) (Vm.Alike.refl U.vm) qK, qD, xl.calling qx0⟩, va_recv hKc hPc (ci := 7) (q0 := 0) rfl rfl, fun U hU hW => ⟨rfl, by rw [hU], by rw [hU]; exact hPc, va_K.moved hW.alike hKc, hDc.weaken (fun _ _ _ _ => trivial), by rw [hU]; exact xl.warm hW ((xl.kept hXL hS.2.1).narrow hFc)⟩⟩ rfl rfl hl.1 rfl (lv_room (Nat.le_of_ble_eq_true rfl)) dX7_readMoon_17 ⟨Nat.le_of_ble_eq_true rfl, Nat.le_of_ble_eq_true rfl⟩) hS (fun q _ h => hFc q h) hFc (fun q _ h => hFc q h) (fun E ce q9 u_23 t H1 locs ht hvm hw hB hz1 hk1 hS hcell hcv hcl => ?_) (fun r_24 u_25 t H1 locs ht hvm hw hB hz1 hk1 hS => ?_)
    · obtain ⟨hE9, hB⟩ := hB
      subst hE9
      obtain ⟨hP1, hK1, hD1⟩ := hB
      rw [ht] at hP1
      have hK1 := va_K.moved hvm.symm hK1
      have hK1 : va_K (dC, dI) vwCl [] s := hK1
      obtain ⟨hP, hD⟩ := va_join (wr := [(eO0a bk bto bnm bla bsk bru bbo bdi bda bdk bdt bdp bno), (eO9a bsk wd wf mp mb mo sp sb)]) (w1 := [(eO7a pa lx bk u_23.1 u_23.2.1 u_4.2.2.1 phe phr phs pop), (eO3a lx lby lfi lco lxe u_23.2.2.1 u_23.2.2.2.1 u_23.2.2.2.2.1 u_23.2.2.2.2.2.1 u_23.2.2.2.2.2.2), (eA0 lby cBy 900 fBy), (eA0 lco cCo 23 fCo)]) hP hD [2, 3, 4, 5] [0, 1] hCc rfl (by decide) (by decide) hk1 hFc hP1 hD1
      generalize H1 = H at hP hS hcell ⊢
      obtain ⟨hP, hD⟩ := zre [(eO0a bk bto bnm bla bsk bru bbo bdi bda bdk bdt bdp bno), (eO9a bsk wd wf mp mb mo sp sb), (eO7a pa lx bk u_23.1 u_23.2.1 u_4.2.2.1 phe phr phs pop), (eO3a lx lby lfi lco lxe u_23.2.2.1 u_23.2.2.2.1 u_23.2.2.2.2.1 u_23.2.2.2.2.2.1 u_23.2.2.2.2.2.2), (eA0 lby cBy 900 fBy), (eA0 lco cCo 23 fCo)] hP hD rfl
      have hTX_22 : X_22.1 = 1 := by rw [hX_22]; exact hw.1
      have hq_u_23 : u_23 = X_22.2.2 := by rw [hX_22]; exact hw.2
      obtain ⟨hP9, hD9⟩ := zsub2 (ws' := [(eO7a pa lx bk u_23.1 u_23.2.1 u_4.2.2.1 phe phr phs pop), (eO3a lx lby lfi lco lxe u_23.2.2.1 u_23.2.2.2.1 u_23.2.2.2.2.1 u_23.2.2.2.2.2.1 u_23.2.2.2.2.2.2), (eA0 lby cBy 900 fBy), (eA0 lco cCo 23 fCo), (eO0a bk bto bnm bla bsk bru bbo bdi bda bdk bdt bdp bno), (eO9a bsk wd wf mp mb mo sp sb)]) hP hD [2, 3, 4, 5, 0, 1] (by decide) rfl
      have hK9 := hK.sub (tys' := []) [] rfl
      exact vx_widen (k := 1) (n := 6) (Nat.le_of_ble_eq_true rfl) (Nat.le_of_ble_eq_true rfl) (vx_out (fun x h9 => (hex x h9).elim) hlocks hcell hcv hcl (fun t ht hal => ⟨(u_23.1, u_23.2.1, u_4.2.2.1, u_23.2.2.1, u_23.2.2.2.1, u_23.2.2.2.2.1, u_23.2.2.2.2.2.1, u_23.2.2.2.2.2.2, mp, mb, mo), ((fun e9 => ⟨by rw [e9], by rw [e9]⟩ : fp_readMoon pfa pfp psk lxe lxa lxt lxp lxn lxl fBy fCo mp mb mo = ((1 : Int32), u_23.1, u_23.2.1, u_4.2.2.1, u_23.2.2.1, u_23.2.2.2.1, u_23.2.2.2.2.1, u_23.2.2.2.2.2.1, u_23.2.2.2.2.2.2, mp, mb, mo) → _) ((by rw [fp_readMoon]; (try rw [← hX_1]); (try rw [xL_eq]); (try rw [if_neg hTX_1]); (try rw [← hq_u_4]); (try rw [← hX_22]); (try rw [xL_eq]); (try rw [if_pos hTX_22]); (try rw [← hq_u_23]); try rfl))), ⟨rfl, by rw [ht]; exact hP9, va_K.moved hal hK9, hD9⟩, hS.F ht⟩) hS.2.2 (Nat.le_of_ble_eq_true rfl) (Nat.le_of_ble_eq_true rfl))
    · obtain ⟨hB, hsz9⟩ := hB
      obtain ⟨hP1, hK1, hD1⟩ := hB
      rw [ht] at hP1
      have hK1 := va_K.moved hvm.symm hK1
      have hK1 : va_K (dC, dI) vwCl [] s := hK1
      obtain ⟨hP, hD⟩ := va_join (wr := [(eO0a bk bto bnm bla bsk bru bbo bdi bda bdk bdt bdp bno), (eO9a bsk wd wf mp mb mo sp sb)]) (w1 := [(eO7a pa lx bk u_25.1 u_25.2.1 u_4.2.2.1 phe phr phs pop), (eO3a lx lby lfi lco lxe u_25.2.2.1 u_25.2.2.2.1 u_25.2.2.2.2.1 u_25.2.2.2.2.2.1 u_25.2.2.2.2.2.2), (eA0 lby cBy 900 fBy), (eA0 lco cCo 23 fCo)]) hP hD [2, 3, 4, 5] [0, 1] rfl rfl (by decide) (by decide) hk1 hFc hP1 hD1
      refine xs_tight (show H1.size = s.heap.size by rw [← ht, hsz9]; exact hHz) ?_
      generalize H1 = H at hP hS ⊢
      obtain ⟨hP, hD⟩ := zre [(eO0a bk bto bnm bla bsk bru bbo bdi bda bdk bdt bdp bno), (eO9a bsk wd wf mp mb mo sp sb), (eO7a pa lx bk u_25.1 u_25.2.1 u_4.2.2.1 phe phr phs pop), (eO3a lx lby lfi lco lxe u_25.2.2.1 u_25.2.2.2.1 u_25.2.2.2.2.1 u_25.2.2.2.2.2.1 u_25.2.2.2.2.2.2), (eA0 lby cBy 900 fBy), (eA0 lco cCo 23 fCo)] hP hD rfl
      obtain ⟨hw, hp_40, hp_41, hp_42⟩ := hw
      have hTX_22 : ¬ X_22.1 = 1 := by rw [hX_22, hw.1]; decide
      have hq_r_24 : r_24 = X_22.2.1 := by rw [hX_22]; exact hw.2.1
      have hq_u_25 : u_25 = X_22.2.2 := by rw [hX_22]; exact hw.2.2
      refine va_put (D := (dC, dI)) (ci := 9) (v := .int r_24) (ty := tyX9 2) (C := RX9) (T := TX9) (N := 7) hx hb htw inlX9 tyX9 tyX9_ok nmX9 hown hK hP hD hS 1 rfl rfl 2 (by decide) (htw _ (ck_17 _ (List.mem_of_getElem? (i := 16) rfl))) (fun _ h9 => h9) rfl (tyX9_ok 2 (by decide)) rfl rfl (Nat.le_of_ble_eq_true rfl) dX7_readMoon_20 (fun H locs hP hD hS => ?_)
      obtain ⟨hP, hD⟩ := zre [(eO0a bk bto bnm bla bsk bru bbo bdi bda bdk bdt bdp bno), (eO9a bsk wd wf r_24 mb mo sp sb), (eO7a pa lx bk u_25.1 u_25.2.1 u_4.2.2.1 phe phr phs pop), (eO3a lx lby lfi lco lxe u_25.2.2.1 u_25.2.2.2.1 u_25.2.2.2.2.1 u_25.2.2.2.2.2.1 u_25.2.2.2.2.2.2), (eA0 lby cBy 900 fBy), (eA0 lco cCo 23 fCo)] hP hD rfl
      refine lv_aload_n hx hb dX7_readMoon_23 rfl (lv_at hl 0 rfl) ?_
      refine va_get (D := (dC, dI)) (ci := 7) (v := .ref bk) (C := RX7) (T := TX7) (N := 9) hx hb htw inlX7 hown hK hP 2 rfl rfl 1 (by decide) (htw _ (ck_13 _ (List.mem_of_getElem? (i := 6) rfl))) (fun _ h9 => h9) rfl dX7_readMoon_24 ?_
      refine va_get (D := (dC, dI)) (ci := 0) (v := .ref bsk) (C := RX0) (T := TX0) (N := 12) hx hb htw inlX0 hown hK hP 0 rfl rfl 3 (by decide) (htw _ (ck_17 _ (List.mem_of_getElem? (i := 5) rfl))) (fun _ h9 => h9) rfl dX7_readMoon_27 ?_
      refine lv_aload_n hx hb dX7_readMoon_30 rfl (lv_at hl 0 rfl) ?_
      refine lv_aload_n hx hb dX7_readMoon_31 rfl (lv_at hl 0 rfl) ?_
      refine va_get (D := (dC, dI)) (ci := 7) (v := .ref bk) (C := RX7) (T := TX7) (N := 9) hx hb htw inlX7 hown hK hP 2 rfl rfl 1 (by decide) (htw _ (ck_13 _ (List.mem_of_getElem? (i := 6) rfl))) (fun _ h9 => h9) rfl dX7_readMoon_32 ?_
      refine va_get (D := (dC, dI)) (ci := 0) (v := .ref bsk) (C := RX0) (T := TX0) (N := 12) hx hb htw inlX0 hown hK hP 0 rfl rfl 3 (by decide) (htw _ (ck_17 _ (List.mem_of_getElem? (i := 5) rfl))) (fun _ h9 => h9) rfl dX7_readMoon_35 ?_
      refine va_get (D := (dC, dI)) (ci := 9) (v := .int r_24) (C := RX9) (T := TX9) (N := 7) hx hb htw inlX9 hown hK hP 1 rfl rfl 2 (by decide) (htw _ (ck_17 _ (List.mem_of_getElem? (i := 16) rfl))) (fun _ h9 => h9) rfl dX7_readMoon_38 ?_
      refine xs_size (fun hHz => ?_)
      obtain ⟨hPc, hDc, hFc, hCc⟩ := zsub3 (ws' := [(eO7a pa lx bk u_25.1 u_25.2.1 u_4.2.2.1 phe phr phs pop), (eO3a lx lby lfi lco lxe u_25.2.2.1 u_25.2.2.2.1 u_25.2.2.2.2.1 u_25.2.2.2.2.2.1 u_25.2.2.2.2.2.2), (eA0 lby cBy 900 fBy), (eA0 lco cCo 23 fCo)]) hP hD hS hA [2, 3, 4, 5] (by decide) rfl
      have hKc := hK.sub (tys' := [(cBy, .byte), (cCo, .int)]) [0, 1] rfl
      obtain ⟨X_43, hX_43⟩ : ∃ X9 : Int32 × Int32 × (Int32) × (Int32) × (Int32) × (Int32) × (Int32) × (Int32) × (Int32), X9 = (fp_latterParts u_25.1 u_25.2.1 lxe u_25.2.2.1 u_25.2.2.2.1 u_25.2.2.2.2.1 u_25.2.2.2.2.2.1 u_25.2.2.2.2.2.2 fBy fCo r_24) := ⟨_, rfl⟩
      refine vx_calli (vx_runV (As := [.int r_24]) (rest := [.ref bsk]) ⟨hx, hb, hml, hown, htw⟩ (gp_latterParts l hst dC dI pa lx bk u_25.1 u_25.2.1 u_4.2.2.1 phe phr phs pop lby lfi lco lxe u_25.2.2.1 u_25.2.2.2.1 u_25.2.2.2.2.1 u_25.2.2.2.2.2.1 u_25.2.2.2.2.2.2 cBy fBy cCo fCo r_24 sL H.size (gp_readMoon_s1 (y0 := u_25.2.2.1) hp_40) h9_lxe) (cwV 1 htw (xg_V (ck_17 _ (List.mem_of_getElem? (i := 19) rfl)) (ck_17 _ (List.mem_of_getElem? (i := 20) rfl)) (ck_17 _ (List.mem_of_getElem? (i := 21) rfl)) (ck_1 _ (List.mem_of_getElem? (i := 16) rfl)) (ck_17 _ (List.mem_of_getElem? (i := 22) rfl))) rfl rfl rfl (by exact ⟨rfl, hdc_15.1, hdc_15.2, hdd_2⟩) ⟨Nat.le_of_ble_eq_true rfl, Nat.le_of_ble_eq_true rfl⟩) ⟨fun a U g mk q => by obtain ⟨q0, q1, qP, qK, qD, qx0⟩ := q; exact ⟨q0, q1, qP, va_K.moved (u := U) (U := U.calling g mk a) (Vm.Alike.refl U.vm) qK, qD, xl.calling qx0⟩, va_recv hKc hPc (ci := 7) (q0 := 0) rfl rfl, fun U hU hW => ⟨rfl, by rw [hU], by rw [hU]; exact hPc, va_K.moved hW.alike hKc, hDc.weaken (fun _ _ _ _ => trivial), by rw [hU]; exact xl.warm hW ((xl.kept hXL hS.2.1).narrow hFc)⟩⟩ rfl rfl hl.1 rfl (lv_room (Nat.le_of_ble_eq_true rfl)) dX7_readMoon_41 ⟨Nat.le_of_ble_eq_true rfl, Nat.le_of_ble_eq_true rfl⟩) hS (fun q _ h => hFc q h) hFc (fun q _ h => hFc q h) (fun E ce q9 u_44 t H1 locs ht hvm hw hB hz1 hk1 hS hcell hcv hcl => ?_) (fun r_45 u_46 t H1 locs ht hvm hw hB hz1 hk1 hS => ?_)
      · obtain ⟨hE9, hB⟩ := hB
        subst hE9
        obtain ⟨hP1, hK1, hD1⟩ := hB
        rw [ht] at hP1
        have hK1 := va_K.moved hvm.symm hK1
        have hK1 : va_K (dC, dI) vwCl [] s := hK1
        obtain ⟨hP, hD⟩ := va_join (wr := [(eO0a bk bto bnm bla bsk bru bbo bdi bda bdk bdt bdp bno), (eO9a bsk wd wf r_24 mb mo sp sb)]) (w1 := [(eO7a pa lx bk u_44.1 u_44.2.1 u_4.2.2.1 phe phr phs pop), (eO3a lx lby lfi lco lxe u_44.2.2.1 u_44.2.2.2.1 u_44.2.2.2.2.1 u_44.2.2.2.2.2.1 u_44.2.2.2.2.2.2), (eA0 lby cBy 900 fBy), (eA0 lco cCo 23 fCo)]) hP hD [2, 3, 4, 5] [0, 1] hCc rfl (by decide) (by decide) hk1 hFc hP1 hD1
        generalize H1 = H at hP hS hcell ⊢
        obtain ⟨hP, hD⟩ := zre [(eO0a bk bto bnm bla bsk bru bbo bdi bda bdk bdt bdp bno), (eO9a bsk wd wf r_24 mb mo sp sb), (eO7a pa lx bk u_44.1 u_44.2.1 u_4.2.2.1 phe phr phs pop), (eO3a lx lby lfi lco lxe u_44.2.2.1 u_44.2.2.2.1 u_44.2.2.2.2.1 u_44.2.2.2.2.2.1 u_44.2.2.2.2.2.2), (eA0 lby cBy 900 fBy), (eA0 lco cCo 23 fCo)] hP hD rfl
        have hTX_43 : X_43.1 = 1 := by rw [hX_43]; exact hw.1
        have hq_u_44 : u_44 = X_43.2.2 := by rw [hX_43]; exact hw.2
        obtain ⟨hP9, hD9⟩ := zsub2 (ws' := [(eO7a pa lx bk u_44.1 u_44.2.1 u_4.2.2.1 phe phr phs pop), (eO3a lx lby lfi lco lxe u_44.2.2.1 u_44.2.2.2.1 u_44.2.2.2.2.1 u_44.2.2.2.2.2.1 u_44.2.2.2.2.2.2), (eA0 lby cBy 900 fBy), (eA0 lco cCo 23 fCo), (eO0a bk bto bnm bla bsk bru bbo bdi bda bdk bdt bdp bno), (eO9a bsk wd wf r_24 mb mo sp sb)]) hP hD [2, 3, 4, 5, 0, 1] (by decide) rfl
        have hK9 := hK.sub (tys' := []) [] rfl
        exact vx_widen (k := 1) (n := 6) (Nat.le_of_ble_eq_true rfl) (Nat.le_of_ble_eq_true rfl) (vx_out (fun x h9 => (hex x h9).elim) hlocks hcell hcv hcl (fun t ht hal => ⟨(u_44.1, u_44.2.1, u_4.2.2.1, u_44.2.2.1, u_44.2.2.2.1, u_44.2.2.2.2.1, u_44.2.2.2.2.2.1, u_44.2.2.2.2.2.2, r_24, mb, mo), ((fun e9 => ⟨by rw [e9], by rw [e9]⟩ : fp_readMoon pfa pfp psk lxe lxa lxt lxp lxn lxl fBy fCo mp mb mo = ((1 : Int32), u_44.1, u_44.2.1, u_4.2.2.1, u_44.2.2.1, u_44.2.2.2.1, u_44.2.2.2.2.1, u_44.2.2.2.2.2.1, u_44.2.2.2.2.2.2, r_24, mb, mo) → _) ((by rw [fp_readMoon]; (try rw [← hX_1]); (try rw [xL_eq]); (try rw [if_neg hTX_1]); (try rw [← hq_u_4]); (try rw [← hX_22]); (try rw [xL_eq]); (try rw [if_neg hTX_22]); (try rw [← hq_r_24]); (try rw [← hq_u_25]); (try rw [← hX_43]); (try rw [xL_eq]); (try rw [if_pos hTX_43]); (try rw [← hq_u_44]); try rfl))), ⟨rfl, by rw [ht]; exact hP9, va_K.moved hal hK9, hD9⟩, hS.F ht⟩) hS.2.2 (Nat.le_of_ble_eq_true rfl) (Nat.le_of_ble_eq_true rfl))
      · obtain ⟨hB, hsz9⟩ := hB
        obtain ⟨hP1, hK1, hD1⟩ := hB
        rw [ht] at hP1
        have hK1 := va_K.moved hvm.symm hK1
        have hK1 : va_K (dC, dI) vwCl [] s := hK1
        obtain ⟨hP, hD⟩ := va_join (wr := [(eO0a bk bto bnm bla bsk bru bbo bdi bda bdk bdt bdp bno), (eO9a bsk wd wf r_24 mb mo sp sb)]) (w1 := [(eO7a pa lx bk u_46.1 u_46.2.1 u_4.2.2.1 phe phr phs pop), (eO3a lx lby lfi lco lxe u_46.2.2.1 u_46.2.2.2.1 u_46.2.2.2.2.1 u_46.2.2.2.2.2.1 u_46.2.2.2.2.2.2), (eA0 lby cBy 900 fBy), (eA0 lco cCo 23 fCo)]) hP hD [2, 3, 4, 5] [0, 1] rfl rfl (by decide) (by decide) hk1 hFc hP1 hD1
        refine xs_tight (show H1.size = s.heap.size by rw [← ht, hsz9]; exact hHz) ?_
        generalize H1 = H at hP hS ⊢
        obtain ⟨hP, hD⟩ := zre [(eO0a bk bto bnm bla bsk bru bbo bdi bda bdk bdt bdp bno), (eO9a bsk wd wf r_24 mb mo sp sb), (eO7a pa lx bk u_46.1 u_46.2.1 u_4.2.2.1 phe phr phs pop), (eO3a lx lby lfi lco lxe u_46.2.2.1 u_46.2.2.2.1 u_46.2.2.2.2.1 u_46.2.2.2.2.2.1 u_46.2.2.2.2.2.2), (eA0 lby cBy 900 fBy), (eA0 lco cCo 23 fCo)] hP hD rfl
        obtain ⟨hw, hp_61⟩ := hw
        have hTX_43 : ¬ X_43.1 = 1 := by rw [hX_43, hw.1]; decide
        have hq_r_45 : r_45 = X_43.2.1 := by rw [hX_43]; exact hw.2.1
        have hq_u_46 : u_46 = X_43.2.2 := by rw [hX_43]; exact hw.2.2
        refine va_put (D := (dC, dI)) (ci := 9) (v := .int r_45) (ty := tyX9 3) (C := RX9) (T := TX9) (N := 7) hx hb htw inlX9 tyX9 tyX9_ok nmX9 hown hK hP hD hS 1 rfl rfl 3 (by decide) (htw _ (ck_17 _ (List.mem_of_getElem? (i := 17) rfl))) (fun _ h9 => h9) rfl (tyX9_ok 3 (by decide)) rfl rfl (Nat.le_of_ble_eq_true rfl) dX7_readMoon_44 (fun H locs hP hD hS => ?_)
        obtain ⟨hP, hD⟩ := zre [(eO0a bk bto bnm bla bsk bru bbo bdi bda bdk bdt bdp bno), (eO9a bsk wd wf r_24 r_45 mo sp sb), (eO7a pa lx bk u_46.1 u_46.2.1 u_4.2.2.1 phe phr phs pop), (eO3a lx lby lfi lco lxe u_46.2.2.1 u_46.2.2.2.1 u_46.2.2.2.2.1 u_46.2.2.2.2.2.1 u_46.2.2.2.2.2.2), (eA0 lby cBy 900 fBy), (eA0 lco cCo 23 fCo)] hP hD rfl
        refine lv_aload_n hx hb dX7_readMoon_47 rfl (lv_at hl 0 rfl) ?_
        refine va_get (D := (dC, dI)) (ci := 7) (v := .ref bk) (C := RX7) (T := TX7) (N := 9) hx hb htw inlX7 hown hK hP 2 rfl rfl 1 (by decide) (htw _ (ck_13 _ (List.mem_of_getElem? (i := 6) rfl))) (fun _ h9 => h9) rfl dX7_readMoon_48 ?_
        refine va_get (D := (dC, dI)) (ci := 0) (v := .ref bsk) (C := RX0) (T := TX0) (N := 12) hx hb htw inlX0 hown hK hP 0 rfl rfl 3 (by decide) (htw _ (ck_17 _ (List.mem_of_getElem? (i := 5) rfl))) (fun _ h9 => h9) rfl dX7_readMoon_51 ?_
        refine lv_aload_n hx hb dX7_readMoon_54 rfl (lv_at hl 0 rfl) ?_
        refine lv_iconst (v := 0) hx hb dX7_readMoon_55 (by decide) ?_
        refine lv_aload_n hx hb dX7_readMoon_56 rfl (lv_at hl 0 rfl) ?_
        refine va_get (D := (dC, dI)) (ci := 7) (v := .ref bk) (C := RX7) (T := TX7) (N := 9) hx hb htw inlX7 hown hK hP 2 rfl rfl 1 (by decide) (htw _ (ck_13 _ (List.mem_of_getElem? (i := 6) rfl))) (fun _ h9 => h9) rfl dX7_readMoon_57 ?_
        refine va_get (D := (dC, dI)) (ci := 0) (v := .ref bsk) (C := RX0) (T := TX0) (N := 12) hx hb htw inlX0 hown hK hP 0 rfl rfl 3 (by decide) (htw _ (ck_17 _ (List.mem_of_getElem? (i := 5) rfl))) (fun _ h9 => h9) rfl dX7_readMoon_60 ?_
        refine va_get (D := (dC, dI)) (ci := 9) (v := .int r_24) (C := RX9) (T := TX9) (N := 7) hx hb htw inlX9 hown hK hP 1 rfl rfl 2 (by decide) (htw _ (ck_17 _ (List.mem_of_getElem? (i := 16) rfl))) (fun _ h9 => h9) rfl dX7_readMoon_63 ?_
        refine lv_iconst (v := 1) hx hb dX7_readMoon_66 (by decide) ?_
        refine lv_isub hx hb dX7_readMoon_67 ?_
        refine xs_size (fun hHz => ?_)
        obtain ⟨hPc, hDc, hFc, hCc⟩ := zsub3 (ws' := [(eO7a pa lx bk u_46.1 u_46.2.1 u_4.2.2.1 phe phr phs pop), (eO3a lx lby lfi lco lxe u_46.2.2.1 u_46.2.2.2.1 u_46.2.2.2.2.1 u_46.2.2.2.2.2.1 u_46.2.2.2.2.2.2), (eA0 lby cBy 900 fBy), (eA0 lco cCo 23 fCo)]) hP hD hS hA [2, 3, 4, 5] (by decide) rfl
        have hKc := hK.sub (tys' := [(cBy, .byte), (cCo, .int)]) [0, 1] rfl
        obtain ⟨X_62, hX_62⟩ : ∃ X9 : Int32 × Int32 × (Int32) × (Int32) × (Int32) × (Int32) × (Int32) × (Int32) × (Int32), X9 = (fp_numberIn u_46.1 u_46.2.1 lxe u_46.2.2.1 u_46.2.2.2.1 u_46.2.2.2.2.1 u_46.2.2.2.2.2.1 u_46.2.2.2.2.2.2 fBy fCo (0 : Int32) (r_24 - 1)) := ⟨_, rfl⟩
        refine vx_calli (vx_runV (As := [.int 0, .int (r_24 - 1)]) (rest := [.ref bsk]) ⟨hx, hb, hml, hown, htw⟩ (gp_numberIn l hst dC dI pa lx bk u_46.1 u_46.2.1 u_4.2.2.1 phe phr phs pop lby lfi lco lxe u_46.2.2.1 u_46.2.2.2.1 u_46.2.2.2.2.1 u_46.2.2.2.2.2.1 u_46.2.2.2.2.2.2 cBy fBy cCo fCo (0 : Int32) (r_24 - 1) sL H.size (gp_readMoon_s2 (y0 := u_46.2.2.1) hp_61) h9_lxe) (cwV 2 htw (xg_V (ck_16 _ (List.mem_of_getElem? (i := 16) rfl)) (ck_16 _ (List.mem_of_getElem? (i := 17) rfl)) (ck_16 _ (List.mem_of_getElem? (i := 18) rfl)) (ck_1 _ (List.mem_of_getElem? (i := 16) rfl)) (ck_16 _ (List.mem_of_getElem? (i := 19) rfl))) rfl rfl rfl (by exact ⟨rfl, hdc_15.1, hdc_15.2, hdd_7⟩) ⟨Nat.le_of_ble_eq_true rfl, Nat.le_of_ble_eq_true rfl⟩) ⟨fun a U g mk q => by obtain ⟨q0, q1, qP, qK, qD, qx0⟩ := q; exact ⟨q0, q1, qP, va_K.moved (u := U) (U := U.calling g mk a) (Vm.Alike.refl U.vm) qK, qD, xl.calling qx0⟩, va_recv hKc hPc (ci := 7) (q0 := 0) rfl rfl, fun U hU hW => ⟨rfl, by rw [hU], by rw [hU]; exact hPc, va_K.moved hW.alike hKc, hDc.weaken (fun _ _ _ _ => trivial), by rw [hU]; exact xl.warm hW ((xl.kept hXL hS.2.1).narrow hFc)⟩⟩ rfl rfl hl.1 rfl (lv_room (Nat.le_of_ble_eq_true rfl)) dX7_readMoon_68 ⟨Nat.le_of_ble_eq_true rfl, Nat.le_of_ble_eq_true rfl⟩) hS (fun q _ h => hFc q h) hFc (fun q _ h => hFc q h) (fun E ce q9 u_63 t H1 locs ht hvm hw hB hz1 hk1 hS hcell hcv hcl => ?_) (fun r_64 u_65 t H1 locs ht hvm hw hB hz1 hk1 hS => ?_)
        · obtain ⟨hE9, hB⟩ := hB
          subst hE9
          obtain ⟨hP1, hK1, hD1⟩ := hB
          rw [ht] at hP1
          have hK1 := va_K.moved hvm.symm hK1
          have hK1 : va_K (dC, dI) vwCl [] s := hK1
          obtain ⟨hP, hD⟩ := va_join (wr := [(eO0a bk bto bnm bla bsk bru bbo bdi bda bdk bdt bdp bno), (eO9a bsk wd wf r_24 r_45 mo sp sb)]) (w1 := [(eO7a pa lx bk u_63.1 u_63.2.1 u_4.2.2.1 phe phr phs pop), (eO3a lx lby lfi lco lxe u_63.2.2.1 u_63.2.2.2.1 u_63.2.2.2.2.1 u_63.2.2.2.2.2.1 u_63.2.2.2.2.2.2), (eA0 lby cBy 900 fBy), (eA0 lco cCo 23 fCo)]) hP hD [2, 3, 4, 5] [0, 1] hCc rfl (by decide) (by decide) hk1 hFc hP1 hD1
          generalize H1 = H at hP hS hcell ⊢
          obtain ⟨hP, hD⟩ := zre [(eO0a bk bto bnm bla bsk bru bbo bdi bda bdk bdt bdp bno), (eO9a bsk wd wf r_24 r_45 mo sp sb), (eO7a pa lx bk u_63.1 u_63.2.1 u_4.2.2.1 phe phr phs pop), (eO3a lx lby lfi lco lxe u_63.2.2.1 u_63.2.2.2.1 u_63.2.2.2.2.1 u_63.2.2.2.2.2.1 u_63.2.2.2.2.2.2), (eA0 lby cBy 900 fBy), (eA0 lco cCo 23 fCo)] hP hD rfl
          have hTX_62 : X_62.1 = 1 := by rw [hX_62]; exact hw.1
          have hq_u_63 : u_63 = X_62.2.2 := by rw [hX_62]; exact hw.2
          obtain ⟨hP9, hD9⟩ := zsub2 (ws' := [(eO7a pa lx bk u_63.1 u_63.2.1 u_4.2.2.1 phe phr phs pop), (eO3a lx lby lfi lco lxe u_63.2.2.1 u_63.2.2.2.1 u_63.2.2.2.2.1 u_63.2.2.2.2.2.1 u_63.2.2.2.2.2.2), (eA0 lby cBy 900 fBy), (eA0 lco cCo 23 fCo), (eO0a bk bto bnm bla bsk bru bbo bdi bda bdk bdt bdp bno), (eO9a bsk wd wf r_24 r_45 mo sp sb)]) hP hD [2, 3, 4, 5, 0, 1] (by decide) rfl
          have hK9 := hK.sub (tys' := []) [] rfl
          exact vx_widen (k := 1) (n := 6) (Nat.le_of_ble_eq_true rfl) (Nat.le_of_ble_eq_true rfl) (vx_out (fun x h9 => (hex x h9).elim) hlocks hcell hcv hcl (fun t ht hal => ⟨(u_63.1, u_63.2.1, u_4.2.2.1, u_63.2.2.1, u_63.2.2.2.1, u_63.2.2.2.2.1, u_63.2.2.2.2.2.1, u_63.2.2.2.2.2.2, r_24, r_45, mo), ((fun e9 => ⟨by rw [e9], by rw [e9]⟩ : fp_readMoon pfa pfp psk lxe lxa lxt lxp lxn lxl fBy fCo mp mb mo = ((1 : Int32), u_63.1, u_63.2.1, u_4.2.2.1, u_63.2.2.1, u_63.2.2.2.1, u_63.2.2.2.2.1, u_63.2.2.2.2.2.1, u_63.2.2.2.2.2.2, r_24, r_45, mo) → _) ((by rw [fp_readMoon]; (try rw [← hX_1]); (try rw [xL_eq]); (try rw [if_neg hTX_1]); (try rw [← hq_u_4]); (try rw [← hX_22]); (try rw [xL_eq]); (try rw [if_neg hTX_22]); (try rw [← hq_r_24]); (try rw [← hq_u_25]); (try rw [← hX_43]); (try rw [xL_eq]); (try rw [if_neg hTX_43]); (try rw [← hq_r_45]); (try rw [← hq_u_46]); (try rw [← hX_62]); (try rw [xL_eq]); (try rw [if_pos hTX_62]); (try rw [← hq_u_63]); try rfl))), ⟨rfl, by rw [ht]; exact hP9, va_K.moved hal hK9, hD9⟩, hS.F ht⟩) hS.2.2 (Nat.le_of_ble_eq_true rfl) (Nat.le_of_ble_eq_true rfl))
        · obtain ⟨hB, hsz9⟩ := hB
          obtain ⟨hP1, hK1, hD1⟩ := hB
          rw [ht] at hP1
          have hK1 := va_K.moved hvm.symm hK1
          have hK1 : va_K (dC, dI) vwCl [] s := hK1
          obtain ⟨hP, hD⟩ := va_join (wr := [(eO0a bk bto bnm bla bsk bru bbo bdi bda bdk bdt bdp bno), (eO9a bsk wd wf r_24 r_45 mo sp sb)]) (w1 := [(eO7a pa lx bk u_65.1 u_65.2.1 u_4.2.2.1 phe phr phs pop), (eO3a lx lby lfi lco lxe u_65.2.2.1 u_65.2.2.2.1 u_65.2.2.2.2.1 u_65.2.2.2.2.2.1 u_65.2.2.2.2.2.2), (eA0 lby cBy 900 fBy), (eA0 lco cCo 23 fCo)]) hP hD [2, 3, 4, 5] [0, 1] rfl rfl (by decide) (by decide) hk1 hFc hP1 hD1
          refine xs_tight (show H1.size = s.heap.size by rw [← ht, hsz9]; exact hHz) ?_
          generalize H1 = H at hP hS ⊢
          obtain ⟨hP, hD⟩ := zre [(eO0a bk bto bnm bla bsk bru bbo bdi bda bdk bdt bdp bno), (eO9a bsk wd wf r_24 r_45 mo sp sb), (eO7a pa lx bk u_65.1 u_65.2.1 u_4.2.2.1 phe phr phs pop), (eO3a lx lby lfi lco lxe u_65.2.2.1 u_65.2.2.2.1 u_65.2.2.2.2.1 u_65.2.2.2.2.2.1 u_65.2.2.2.2.2.2), (eA0 lby cBy 900 fBy), (eA0 lco cCo 23 fCo)] hP hD rfl
          obtain ⟨hw, hp_80, hp_81, hp_82⟩ := hw
          have hTX_62 : ¬ X_62.1 = 1 := by rw [hX_62, hw.1]; decide
          have hq_r_64 : r_64 = X_62.2.1 := by rw [hX_62]; exact hw.2.1
          have hq_u_65 : u_65 = X_62.2.2 := by rw [hX_62]; exact hw.2.2
          refine va_put (D := (dC, dI)) (ci := 9) (v := .int r_64) (ty := tyX9 4) (C := RX9) (T := TX9) (N := 7) hx hb htw inlX9 tyX9 tyX9_ok nmX9 hown hK hP hD hS 1 rfl rfl 4 (by decide) (htw _ (ck_17 _ (List.mem_of_getElem? (i := 18) rfl))) (fun _ h9 => h9) rfl (tyX9_ok 4 (by decide)) rfl rfl (Nat.le_of_ble_eq_true rfl) dX7_readMoon_71 (fun H locs hP hD hS => ?_)
          obtain ⟨hP, hD⟩ := zre [(eO0a bk bto bnm bla bsk bru bbo bdi bda bdk bdt bdp bno), (eO9a bsk wd wf r_24 r_45 r_64 sp sb), (eO7a pa lx bk u_65.1 u_65.2.1 u_4.2.2.1 phe phr phs pop), (eO3a lx lby lfi lco lxe u_65.2.2.1 u_65.2.2.2.1 u_65.2.2.2.2.1 u_65.2.2.2.2.2.1 u_65.2.2.2.2.2.2), (eA0 lby cBy 900 fBy), (eA0 lco cCo 23 fCo)] hP hD rfl
          refine xs_size (fun hHz => ?_)
          refine vx_ret ?_
          refine W.widen (k := 1) (n := 6) (by omega) (by omega) ?_
          obtain ⟨hP9, hD9⟩ := zsub2 (ws' := [(eO7a pa lx bk u_65.1 u_65.2.1 u_4.2.2.1 phe phr phs pop), (eO3a lx lby lfi lco lxe u_65.2.2.1 u_65.2.2.2.1 u_65.2.2.2.2.1 u_65.2.2.2.2.2.1 u_65.2.2.2.2.2.2), (eA0 lby cBy 900 fBy), (eA0 lco cCo 23 fCo), (eO0a bk bto bnm bla bsk bru bbo bdi bda bdk bdt bdp bno), (eO9a bsk wd wf r_24 r_45 r_64 sp sb)]) hP hD [2, 3, 4, 5, 0, 1] (by decide) rfl
          have hK9 := hK.sub (tys' := []) [] rfl
          exact W.vret hx hb hr (fun t ht hW => ⟨⟨(u_65.1, u_65.2.1, u_4.2.2.1, u_65.2.2.1, u_65.2.2.2.1, u_65.2.2.2.2.1, u_65.2.2.2.2.2.1, u_65.2.2.2.2.2.2, r_24, r_45, r_64), rfl, ⟨((fun e9 => ⟨by rw [e9], by rw [e9]⟩ : fp_readMoon pfa pfp psk lxe lxa lxt lxp lxn lxl fBy fCo mp mb mo = ((0 : Int32), u_65.1, u_65.2.1, u_4.2.2.1, u_65.2.2.1, u_65.2.2.2.1, u_65.2.2.2.2.1, u_65.2.2.2.2.2.1, u_65.2.2.2.2.2.2, r_24, r_45, r_64) → _) ((by rw [fp_readMoon]; (try rw [← hX_1]); (try rw [xL_eq]); (try rw [if_neg hTX_1]); (try rw [← hq_u_4]); (try rw [← hX_22]); (try rw [xL_eq]); (try rw [if_neg hTX_22]); (try rw [← hq_r_24]); (try rw [← hq_u_25]); (try rw [← hX_43]); (try rw [xL_eq]); (try rw [if_neg hTX_43]); (try rw [← hq_r_45]); (try rw [← hq_u_46]); (try rw [← hX_62]); (try rw [xL_eq]); (try rw [if_neg hTX_62]); (try rw [← hq_r_64]); (try rw [← hq_u_65]); try rfl))), (gp_readMoon_s3 (y0 := u_65.2.2.1) hp_80)⟩, ⟨by rw [ht]; exact hP9, va_K.moved hW.alike hK9, hD9⟩, by rw [ht]; first | exact hHz | exact hHz.trans (by rw [rH])⟩, hS.F ht⟩) hS.2.2 dX7_readMoon_74

def fp_readSun (pfa : Int32) (pfp : Int32) (psk : Int32) (lxe : Int32) (lxa : Int32) (lxt : Int32) (lxp : Int32) (lxn : Int32) (lxl : Int32) (fBy : Nat → Int32) (fCo : Nat → Int32) (sp : Int32) (sb : Int32) : Int32 × (Int32) × (Int32) × (Int32) × (Int32) × (Int32) × (Int32) × (Int32) × (Int32) × (Int32) × (Int32) := (xL ((fp_beginSky pfa pfp psk lxe lxa lxt lxp lxn lxl fBy fCo (4 : Int32))) (fun X_1 => (if X_1.1 = 1 then ((1 : Int32), X_1.2.1, X_1.2.2.1, X_1.2.2.2.1, X_1.2.2.2.2.1, X_1.2.2.2.2.2.1, X_1.2.2.2.2.2.2.1, X_1.2.2.2.2.2.2.2.1, X_1.2.2.2.2.2.2.2.2, sp, sb) else (xL ((fp_numberIn X_1.2.1 X_1.2.2.1 lxe X_1.2.2.2.2.1 X_1.2.2.2.2.2.1 X_1.2.2.2.2.2.2.1 X_1.2.2.2.2.2.2.2.1 X_1.2.2.2.2.2.2.2.2 fBy fCo (1 : Int32) (9999 : Int32))) (fun X_22 => (if X_22.1 = 1 then ((1 : Int32), X_22.2.2.1, X_22.2.2.2.1, X_1.2.2.2.1, X_22.2.2.2.2.1, X_22.2.2.2.2.2.1, X_22.2.2.2.2.2.2.1, X_22.2.2.2.2.2.2.2.1, X_22.2.2.2.2.2.2.2.2, sp, sb) else (xL ((fp_latterParts X_22.2.2.1 X_22.2.2.2.1 lxe X_22.2.2.2.2.1 X_22.2.2.2.2.2.1 X_22.2.2.2.2.2.2.1 X_22.2.2.2.2.2.2.2.1 X_22.2.2.2.2.2.2.2.2 fBy fCo X_22.2.1)) (fun X_43 => (if X_43.1 = 1 then ((1 : Int32), X_43.2.2.1, X_43.2.2.2.1, X_1.2.2.2.1, X_43.2.2.2.2.1, X_43.2.2.2.2.2.1, X_43.2.2.2.2.2.2.1, X_43.2.2.2.2.2.2.2.1, X_43.2.2.2.2.2.2.2.2, X_22.2.1, sb) else ((0 : Int32), X_43.2.2.1, X_43.2.2.2.1, X_1.2.2.2.1, X_43.2.2.2.2.1, X_43.2.2.2.2.2.1, X_43.2.2.2.2.2.2.1, X_43.2.2.2.2.2.2.2.1, X_43.2.2.2.2.2.2.2.2, X_22.2.1, X_43.2.1))))))))))
theorem gp_readSun_s0 {y0 : Int32} (h0 : ¬ (y0 < 0)) : ¬ (y0 < 0) := h0
theorem gp_readSun_s1 {y0 : Int32} (h0 : ¬ (y0 < 0)) : ¬ (y0 < 0) := h0
theorem gp_readSun_s2 {y0 : Int32} (h0 : ¬ (y0 < 0)) : ¬ (y0 < 0) := h0
theorem dX7_readSun_0 : decode cX7_readSun 0 = .ok (.aload_n 0, 1) := zk_42 (by decide +kernel)
theorem dX7_readSun_1 : decode cX7_readSun 1 = .ok (.iconst 4, 1) := zk_7 (by decide +kernel)
theorem dX7_readSun_2 : decode cX7_readSun 2 = .ok (.invokevirtual 130, 3) := zk_182 (by decide +kernel)
theorem dX7_readSun_5 : decode cX7_readSun 5 = .ok (.aload_n 0, 1) := zk_42 (by decide +kernel)
theorem dX7_readSun_6 : decode cX7_readSun 6 = .ok (.getfield 31, 3) := zk_180 (by decide +kernel)
theorem dX7_readSun_9 : decode cX7_readSun 9 = .ok (.getfield 133, 3) := zk_180 (by decide +kernel)
theorem dX7_readSun_12 : decode cX7_readSun 12 = .ok (.aload_n 0, 1) := zk_42 (by decide +kernel)
theorem dX7_readSun_13 : decode cX7_readSun 13 = .ok (.iconst 1, 1) := zk_4 (by decide +kernel)
theorem dX7_readSun_14 : decode cX7_readSun 14 = .ok (.sipush 9999, 3) := zk_17 (by decide +kernel)
theorem dX7_readSun_17 : decode cX7_readSun 17 = .ok (.invokevirtual 105, 3) := zk_182 (by decide +kernel)
theorem dX7_readSun_20 : decode cX7_readSun 20 = .ok (.putfield 157, 3) := zk_181 (by decide +kernel)
theorem dX7_readSun_23 : decode cX7_readSun 23 = .ok (.aload_n 0, 1) := zk_42 (by decide +kernel)
theorem dX7_readSun_24 : decode cX7_readSun 24 = .ok (.getfield 31, 3) := zk_180 (by decide +kernel)
theorem dX7_readSun_27 : decode cX7_readSun 27 = .ok (.getfield 133, 3) := zk_180 (by decide +kernel)
theorem dX7_readSun_30 : decode cX7_readSun 30 = .ok (.aload_n 0, 1) := zk_42 (by decide +kernel)
theorem dX7_readSun_31 : decode cX7_readSun 31 = .ok (.aload_n 0, 1) := zk_42 (by decide +kernel)
theorem dX7_readSun_32 : decode cX7_readSun 32 = .ok (.getfield 31, 3) := zk_180 (by decide +kernel)
theorem dX7_readSun_35 : decode cX7_readSun 35 = .ok (.getfield 133, 3) := zk_180 (by decide +kernel)
theorem dX7_readSun_38 : decode cX7_readSun 38 = .ok (.getfield 157, 3) := zk_180 (by decide +kernel)
theorem dX7_readSun_41 : decode cX7_readSun 41 = .ok (.invokevirtual 148, 3) := zk_182 (by decide +kernel)
theorem dX7_readSun_44 : decode cX7_readSun 44 = .ok (.putfield 160, 3) := zk_181 (by decide +kernel)
theorem dX7_readSun_47 : decode cX7_readSun 47 = .ok (.return_, 1) := zk_177 (by decide +kernel)
set_option maxHeartbeats 4000000 in
set_option maxRecDepth 100000 in
theorem gp_readSun (l : Launch) (hst : l.stackTraces = false) (dC : Nat → ClassId) (dI : Nat → Nat → Nat) (pa : Nat) (lx : Nat) (bk : Nat) (pfa : Int32) (pfp : Int32) (psk : Int32) (phe : Nat) (phr : Nat) (phs : Int32) (pop : Int32) (lby : Nat) (lfi : Int32) (lco : Nat) (lxe : Int32) (lxa : Int32) (lxt : Int32) (lxp : Int32) (lxn : Int32) (lxl : Int32) (cBy : ClassId) (fBy : Nat → Int32) (cCo : ClassId) (fCo : Nat → Int32) (bto : Nat) (bnm : Nat) (bla : Nat) (bsk : Nat) (bru : Nat) (bbo : Nat) (bdi : Nat) (bda : Nat) (bdk : Nat) (bdt : Nat) (bdp : Nat) (bno : Nat) (wd : Int32) (wf : Int32) (mp : Int32) (mb : Int32) (mo : Int32) (sp : Int32) (sb : Int32) (sL : Nat → Nat) (sz : Nat) (h0_lxa : ¬ lxa < 0) (h9_lxe : lxe ≤ 900) : vx_Met l yX7_readSun (Cond.code yX7_readSun cX7_readSun 1 none :: wsL_law) ({ frames := 9, cells := 1, slots := 6, locals := 151 }) (va_Pc [.ref pa] (fun U => U.heap.size = sz ∧ va_P (dC, dI) vwCl [(eO7a pa lx bk pfa pfp psk phe phr phs pop), (eO3a lx lby lfi lco lxe lxa lxt lxp lxn lxl), (eA0 lby cBy 900 fBy), (eA0 lco cCo 23 fCo), (eO0a bk bto bnm bla bsk bru bbo bdi bda bdk bdt bdp bno), (eO9a bsk wd wf mp mb mo sp sb)] U.heap ∧ va_K (dC, dI) vwCl [(cBy, .byte), (cCo, .int)] U ∧ va_D (fun _ => True) [(eO7a pa lx bk pfa pfp psk phe phr phs pop), (eO3a lx lby lfi lco lxe lxa lxt lxp lxn lxl), (eA0 lby cBy 900 fBy), (eA0 lco cCo 23 fCo), (eO0a bk bto bnm bla bsk bru bbo bdi bda bdk bdt bdp bno), (eO9a bsk wd wf mp mb mo sp sb)] ∧ xl sL (va_A [(eO7a pa lx bk pfa pfp psk phe phr phs pop), (eO3a lx lby lfi lco lxe lxa lxt lxp lxn lxl), (eA0 lby cBy 900 fBy), (eA0 lco cCo 23 fCo), (eO0a bk bto bnm bla bsk bru bbo bdi bda bdk bdt bdp bno), (eO9a bsk wd wf mp mb mo sp sb)] sz) U U.heap)) (va_Qv (fun (u : (Int32) × (Int32) × (Int32) × (Int32) × (Int32) × (Int32) × (Int32) × (Int32) × (Int32) × (Int32)) => ((fp_readSun pfa pfp psk lxe lxa lxt lxp lxn lxl fBy fCo sp sb).1 = 0 ∧ u = (fp_readSun pfa pfp psk lxe lxa lxt lxp lxn lxl fBy fCo sp sb).2) ∧ (¬ u.2.2.2.1 < 0)) (fun (u : (Int32) × (Int32) × (Int32) × (Int32) × (Int32) × (Int32) × (Int32) × (Int32) × (Int32) × (Int32)) t => (va_P (dC, dI) vwCl [(eO7a pa lx bk u.1 u.2.1 u.2.2.1 phe phr phs pop), (eO3a lx lby lfi lco lxe u.2.2.2.1 u.2.2.2.2.1 u.2.2.2.2.2.1 u.2.2.2.2.2.2.1 u.2.2.2.2.2.2.2.1), (eA0 lby cBy 900 fBy), (eA0 lco cCo 23 fCo), (eO0a bk bto bnm bla bsk bru bbo bdi bda bdk bdt bdp bno), (eO9a bsk wd wf mp mb mo u.2.2.2.2.2.2.2.2.1 u.2.2.2.2.2.2.2.2.2)] t.heap ∧ va_K (dC, dI) vwCl [] t ∧ va_D (va_A [(eO7a pa lx bk pfa pfp psk phe phr phs pop), (eO3a lx lby lfi lco lxe lxa lxt lxp lxn lxl), (eA0 lby cBy 900 fBy), (eA0 lco cCo 23 fCo), (eO0a bk bto bnm bla bsk bru bbo bdi bda bdk bdt bdp bno), (eO9a bsk wd wf mp mb mo sp sb)] sz) [(eO7a pa lx bk u.1 u.2.1 u.2.2.1 phe phr phs pop), (eO3a lx lby lfi lco lxe u.2.2.2.1 u.2.2.2.2.1 u.2.2.2.2.2.1 u.2.2.2.2.2.2.1 u.2.2.2.2.2.2.2.1), (eA0 lby cBy 900 fBy), (eA0 lco cCo 23 fCo), (eO0a bk bto bnm bla bsk bru bbo bdi bda bdk bdt bdp bno), (eO9a bsk wd wf mp mb mo u.2.2.2.2.2.2.2.2.1 u.2.2.2.2.2.2.2.2.2)]) ∧ t.heap.size = sz) (va_A [(eO7a pa lx bk pfa pfp psk phe phr phs pop), (eO3a lx lby lfi lco lxe lxa lxt lxp lxn lxl), (eA0 lby cBy 900 fBy), (eA0 lco cCo 23 fCo), (eO0a bk bto bnm bla bsk bru bbo bdi bda bdk bdt bdp bno), (eO9a bsk wd wf mp mb mo sp sb)] sz)) (vx_X (fun (u : (Int32) × (Int32) × (Int32) × (Int32) × (Int32) × (Int32) × (Int32) × (Int32) × (Int32) × (Int32)) => (fp_readSun pfa pfp psk lxe lxa lxt lxp lxn lxl fBy fCo sp sb).1 = 1 ∧ u = (fp_readSun pfa pfp psk lxe lxa lxt lxp lxn lxl fBy fCo sp sb).2) (fun (E : String) (u : (Int32) × (Int32) × (Int32) × (Int32) × (Int32) × (Int32) × (Int32) × (Int32) × (Int32) × (Int32)) (t : State) => E = "java/lang/IllegalStateException" ∧ va_P (dC, dI) vwCl [(eO7a pa lx bk u.1 u.2.1 u.2.2.1 phe phr phs pop), (eO3a lx lby lfi lco lxe u.2.2.2.1 u.2.2.2.2.1 u.2.2.2.2.2.1 u.2.2.2.2.2.2.1 u.2.2.2.2.2.2.2.1), (eA0 lby cBy 900 fBy), (eA0 lco cCo 23 fCo), (eO0a bk bto bnm bla bsk bru bbo bdi bda bdk bdt bdp bno), (eO9a bsk wd wf mp mb mo u.2.2.2.2.2.2.2.2.1 u.2.2.2.2.2.2.2.2.2)] t.heap ∧ va_K (dC, dI) vwCl [] t ∧ va_D (va_A [(eO7a pa lx bk pfa pfp psk phe phr phs pop), (eO3a lx lby lfi lco lxe lxa lxt lxp lxn lxl), (eA0 lby cBy 900 fBy), (eA0 lco cCo 23 fCo), (eO0a bk bto bnm bla bsk bru bbo bdi bda bdk bdt bdp bno), (eO9a bsk wd wf mp mb mo sp sb)] sz) [(eO7a pa lx bk u.1 u.2.1 u.2.2.1 phe phr phs pop), (eO3a lx lby lfi lco lxe u.2.2.2.1 u.2.2.2.2.1 u.2.2.2.2.2.1 u.2.2.2.2.2.2.1 u.2.2.2.2.2.2.2.1), (eA0 lby cBy 900 fBy), (eA0 lco cCo 23 fCo), (eO0a bk bto bnm bla bsk bru bbo bdi bda bdk bdt bdp bno), (eO9a bsk wd wf mp mb mo u.2.2.2.2.2.2.2.2.1 u.2.2.2.2.2.2.2.2.2)]) (va_A [(eO7a pa lx bk pfa pfp psk phe phr phs pop), (eO3a lx lby lfi lco lxe lxa lxt lxp lxn lxl), (eA0 lby cBy 900 fBy), (eA0 lco cCo 23 fCo), (eO0a bk bto bnm bla bsk bru bbo bdi bda bdk bdt bdp bno), (eO9a bsk wd wf mp mb mo sp sb)] sz)) 1 6 (va_A [(eO7a pa lx bk pfa pfp psk phe phr phs pop), (eO3a lx lby lfi lco lxe lxa lxt lxp lxn lxl), (eA0 lby cBy 900 fBy), (eA0 lco cCo 23 fCo), (eO0a bk bto bnm bla bsk bru bbo bdi bda bdk bdt bdp bno), (eO9a bsk wd wf mp mb mo sp sb)] sz) := by
  refine vx_ofW (cc := cX7_readSun) (maxL := 1) (ret := none) (by decide) rfl ?_
  intro p e s m args below meth c s₁ B hml hex hv
  obtain ⟨rfl, hsz, hP, hK, hD0, hXL⟩ := hv
  have hx := B.exec
  have hb := B.bytes
  have hr := B.returns
  have hts := atoms_spec (ws := Cond.code yX7_readSun cX7_readSun 1 none :: wsL_law) B.pre
  have htw : ∀ w ∈ wsL_law, w.before _ s = true := fun w h => hts w (List.mem_cons_of_mem _ h)
  have hown : s.vm.findClass RX7 = some m.cls := findClass_of_methodNamed B.named
  have hlocks := B.notSynchronized
  subst hsz
  have hD := hD0.self (sz := s.heap.size)
  generalize hAe : va_A [(eO7a pa lx bk pfa pfp psk phe phr phs pop), (eO3a lx lby lfi lco lxe lxa lxt lxp lxn lxl), (eA0 lby cBy 900 fBy), (eA0 lco cCo 23 fCo), (eO0a bk bto bnm bla bsk bru bbo bdi bda bdk bdt bdp bno), (eO9a bsk wd wf mp mb mo sp sb)] s.heap.size = A at hD hXL ⊢
  have hA : ∀ q : Nat, s.heap.size ≤ q → A q := fun q h => by rw [← hAe]; exact Or.inr h
  obtain ⟨H, rH⟩ : ∃ z : Heap, z = s.heap := ⟨_, rfl⟩
  have hS : va_S A s.heap H [] := by rw [rH]; exact va_S.rf
  have hP : va_P (dC, dI) vwCl [(eO7a pa lx bk pfa pfp psk phe phr phs pop), (eO3a lx lby lfi lco lxe lxa lxt lxp lxn lxl), (eA0 lby cBy 900 fBy), (eA0 lco cCo 23 fCo), (eO0a bk bto bnm bla bsk bru bbo bdi bda bdk bdt bdp bno), (eO9a bsk wd wf mp mb mo sp sb)] H := by rw [rH]; exact hP
  rw [← rH]
  have hl := lv_entry ([.ref pa]) (n := 1) (Nat.le_of_ble_eq_true rfl)
  rw [lg_entry_eq]
  generalize (lg_sl ([.ref pa]) ++ List.replicate (1 - (lg_sl ([.ref pa])).length) Slot.unset).toArray = ls at hl ⊢
  have hl : lv_has ls 1 [(0, .ref pa)] := hl
  refine lv_aload_n hx hb dX7_readSun_0 rfl (lv_at hl 0 rfl) ?_
  refine lv_iconst (v := 4) hx hb dX7_readSun_1 (by decide) ?_
  refine xs_size (fun hHz => ?_)
  obtain ⟨hPc, hDc, hFc, hCc⟩ := zsub3 (ws' := [(eO7a pa lx bk pfa pfp psk phe phr phs pop), (eO3a lx lby lfi lco lxe lxa lxt lxp lxn lxl), (eA0 lby cBy 900 fBy), (eA0 lco cCo 23 fCo)]) hP hD hS hA [0, 1, 2, 3] (by decide) rfl
  have hKc := hK.sub (tys' := [(cBy, .byte), (cCo, .int)]) [0, 1] rfl
  obtain ⟨X_1, hX_1⟩ : ∃ X9 : Int32 × (Int32) × (Int32) × (Int32) × (Int32) × (Int32) × (Int32) × (Int32) × (Int32), X9 = (fp_beginSky pfa pfp psk lxe lxa lxt lxp lxn lxl fBy fCo (4 : Int32)) := ⟨_, rfl⟩
  refine vx_callv (vx_runV (As := [.int 4]) (rest := []) ⟨hx, hb, hml, hown, htw⟩ (gp_beginSky l hst dC dI pa lx bk pfa pfp psk phe phr phs pop lby lfi lco lxe lxa lxt lxp lxn lxl cBy fBy cCo fCo (4 : Int32) sL H.size h0_lxa h9_lxe) (cwV 1 htw (xg_V (ck_17 _ (List.mem_of_getElem? (i := 8) rfl)) (ck_17 _ (List.mem_of_getElem? (i := 9) rfl)) (ck_17 _ (List.mem_of_getElem? (i := 10) rfl)) (ck_1 _ (List.mem_of_getElem? (i := 16) rfl)) (ck_17 _ (List.mem_of_getElem? (i := 11) rfl))) rfl rfl rfl (by exact ⟨rfl, hdc_15.1, hdc_15.2, hdd_9⟩) ⟨Nat.le_of_ble_eq_true rfl, Nat.le_of_ble_eq_true rfl⟩) ⟨fun a U g mk q => by obtain ⟨q0, q1, qP, qK, qD, qx0⟩ := q; exact ⟨q0, q1, qP, va_K.moved (u := U) (U := U.calling g mk a) (Vm.Alike.refl U.vm) qK, qD, xl.calling qx0⟩, va_recv hKc hPc (ci := 7) (q0 := 0) rfl rfl, fun U hU hW => ⟨rfl, by rw [hU], by rw [hU]; exact hPc, va_K.moved hW.alike hKc, hDc.weaken (fun _ _ _ _ => trivial), by rw [hU]; exact xl.warm hW ((xl.kept hXL hS.2.1).narrow hFc)⟩⟩ rfl rfl hl.1 rfl (lv_room (Nat.le_of_ble_eq_true rfl)) dX7_readSun_2 ⟨Nat.le_of_ble_eq_true rfl, Nat.le_of_ble_eq_true rfl⟩) hS (fun q _ h => hFc q h) hFc (fun q _ h => hFc q h) (fun E ce q9 u_2 t H1 locs ht hvm hw hB hz1 hk1 hS hcell hcv hcl => ?_) (fun u_4 t H1 locs ht hvm hw hB hz1 hk1 hS => ?_)
  · obtain ⟨hE9, hB⟩ := hB
    subst hE9
    obtain ⟨hP1, hK1, hD1⟩ := hB
    rw [ht] at hP1
    have hK1 := va_K.moved hvm.symm hK1
    have hK1 : va_K (dC, dI) vwCl [] s := hK1
    obtain ⟨hP, hD⟩ := va_join (wr := [(eO0a bk bto bnm bla bsk bru bbo bdi bda bdk bdt bdp bno), (eO9a bsk wd wf mp mb mo sp sb)]) (w1 := [(eO7a pa lx bk u_2.1 u_2.2.1 u_2.2.2.1 phe phr phs pop), (eO3a lx lby lfi lco lxe u_2.2.2.2.1 u_2.2.2.2.2.1 u_2.2.2.2.2.2.1 u_2.2.2.2.2.2.2.1 u_2.2.2.2.2.2.2.2), (eA0 lby cBy 900 fBy), (eA0 lco cCo 23 fCo)]) hP hD [0, 1, 2, 3] [4, 5] hCc rfl (by decide) (by decide) hk1 hFc hP1 hD1
    generalize H1 = H at hP hS hcell ⊢
    obtain ⟨hP, hD⟩ := zre [(eO0a bk bto bnm bla bsk bru bbo bdi bda bdk bdt bdp bno), (eO9a bsk wd wf mp mb mo sp sb), (eO7a pa lx bk u_2.1 u_2.2.1 u_2.2.2.1 phe phr phs pop), (eO3a lx lby lfi lco lxe u_2.2.2.2.1 u_2.2.2.2.2.1 u_2.2.2.2.2.2.1 u_2.2.2.2.2.2.2.1 u_2.2.2.2.2.2.2.2), (eA0 lby cBy 900 fBy), (eA0 lco cCo 23 fCo)] hP hD rfl
    have hTX_1 : X_1.1 = 1 := by rw [hX_1]; exact hw.1
    have hq_u_2 : u_2 = X_1.2 := by rw [hX_1]; exact hw.2
    obtain ⟨hP9, hD9⟩ := zsub2 (ws' := [(eO7a pa lx bk u_2.1 u_2.2.1 u_2.2.2.1 phe phr phs pop), (eO3a lx lby lfi lco lxe u_2.2.2.2.1 u_2.2.2.2.2.1 u_2.2.2.2.2.2.1 u_2.2.2.2.2.2.2.1 u_2.2.2.2.2.2.2.2), (eA0 lby cBy 900 fBy), (eA0 lco cCo 23 fCo), (eO0a bk bto bnm bla bsk bru bbo bdi bda bdk bdt bdp bno), (eO9a bsk wd wf mp mb mo sp sb)]) hP hD [2, 3, 4, 5, 0, 1] (by decide) rfl
    have hK9 := hK.sub (tys' := []) [] rfl
    exact vx_widen (k := 1) (n := 6) (Nat.le_of_ble_eq_true rfl) (Nat.le_of_ble_eq_true rfl) (vx_out (fun x h9 => (hex x h9).elim) hlocks hcell hcv hcl (fun t ht hal => ⟨(u_2.1, u_2.2.1, u_2.2.2.1, u_2.2.2.2.1, u_2.2.2.2.2.1, u_2.2.2.2.2.2.1, u_2.2.2.2.2.2.2.1, u_2.2.2.2.2.2.2.2, sp, sb), ((fun e9 => ⟨by rw [e9], by rw [e9]⟩ : fp_readSun pfa pfp psk lxe lxa lxt lxp lxn lxl fBy fCo sp sb = ((1 : Int32), u_2.1, u_2.2.1, u_2.2.2.1, u_2.2.2.2.1, u_2.2.2.2.2.1, u_2.2.2.2.2.2.1, u_2.2.2.2.2.2.2.1, u_2.2.2.2.2.2.2.2, sp, sb) → _) ((by rw [fp_readSun]; (try rw [← hX_1]); (try rw [xL_eq]); (try rw [if_pos hTX_1]); (try rw [← hq_u_2]); try rfl))), ⟨rfl, by rw [ht]; exact hP9, va_K.moved hal hK9, hD9⟩, hS.F ht⟩) hS.2.2 (Nat.le_of_ble_eq_true rfl) (Nat.le_of_ble_eq_true rfl))
  · obtain ⟨hB, hsz9⟩ := hB
    obtain ⟨hP1, hK1, hD1⟩ := hB
    rw [ht] at hP1
    have hK1 := va_K.moved hvm.symm hK1
    have hK1 : va_K (dC, dI) vwCl [] s := hK1
    obtain ⟨hP, hD⟩ := va_join (wr := [(eO0a bk bto bnm bla bsk bru bbo bdi bda bdk bdt bdp bno), (eO9a bsk wd wf mp mb mo sp sb)]) (w1 := [(eO7a pa lx bk u_4.1 u_4.2.1 u_4.2.2.1 phe phr phs pop), (eO3a lx lby lfi lco lxe u_4.2.2.2.1 u_4.2.2.2.2.1 u_4.2.2.2.2.2.1 u_4.2.2.2.2.2.2.1 u_4.2.2.2.2.2.2.2), (eA0 lby cBy 900 fBy), (eA0 lco cCo 23 fCo)]) hP hD [0, 1, 2, 3] [4, 5] rfl rfl (by decide) (by decide) hk1 hFc hP1 hD1
    refine xs_tight (show H1.size = s.heap.size by rw [← ht, hsz9]; exact hHz) ?_
    generalize H1 = H at hP hS ⊢
    obtain ⟨hP, hD⟩ := zre [(eO0a bk bto bnm bla bsk bru bbo bdi bda bdk bdt bdp bno), (eO9a bsk wd wf mp mb mo sp sb), (eO7a pa lx bk u_4.1 u_4.2.1 u_4.2.2.1 phe phr phs pop), (eO3a lx lby lfi lco lxe u_4.2.2.2.1 u_4.2.2.2.2.1 u_4.2.2.2.2.2.1 u_4.2.2.2.2.2.2.1 u_4.2.2.2.2.2.2.2), (eA0 lby cBy 900 fBy), (eA0 lco cCo 23 fCo)] hP hD rfl
    obtain ⟨hw, hp_21⟩ := hw
    have hTX_1 : ¬ X_1.1 = 1 := by rw [hX_1, hw.1]; decide
    have hq_u_4 : u_4 = X_1.2 := by rw [hX_1]; exact hw.2
    refine lv_aload_n hx hb dX7_readSun_5 rfl (lv_at hl 0 rfl) ?_
    refine va_get (D := (dC, dI)) (ci := 7) (v := .ref bk) (C := RX7) (T := TX7) (N := 9) hx hb htw inlX7 hown hK hP 2 rfl rfl 1 (by decide) (htw _ (ck_13 _ (List.mem_of_getElem? (i := 6) rfl))) (fun _ h9 => h9) rfl dX7_readSun_6 ?_
    refine va_get (D := (dC, dI)) (ci := 0) (v := .ref bsk) (C := RX0) (T := TX0) (N := 12) hx hb htw inlX0 hown hK hP 0 rfl rfl 3 (by decide) (htw _ (ck_17 _ (List.mem_of_getElem? (i := 5) rfl))) (fun _ h9 => h9) rfl dX7_readSun_9 ?_
    refine lv_aload_n hx hb dX7_readSun_12 rfl (lv_at hl 0 rfl) ?_
    refine lv_iconst (v := 1) hx hb dX7_readSun_13 (by decide) ?_
    refine lv_sipush (v := 9999) hx hb dX7_readSun_14 (by decide) ?_
    refine xs_size (fun hHz => ?_)
    obtain ⟨hPc, hDc, hFc, hCc⟩ := zsub3 (ws' := [(eO7a pa lx bk u_4.1 u_4.2.1 u_4.2.2.1 phe phr phs pop), (eO3a lx lby lfi lco lxe u_4.2.2.2.1 u_4.2.2.2.2.1 u_4.2.2.2.2.2.1 u_4.2.2.2.2.2.2.1 u_4.2.2.2.2.2.2.2), (eA0 lby cBy 900 fBy), (eA0 lco cCo 23 fCo)]) hP hD hS hA [2, 3, 4, 5] (by decide) rfl
    have hKc := hK.sub (tys' := [(cBy, .byte), (cCo, .int)]) [0, 1] rfl
    obtain ⟨X_22, hX_22⟩ : ∃ X9 : Int32 × Int32 × (Int32) × (Int32) × (Int32) × (Int32) × (Int32) × (Int32) × (Int32), X9 = (fp_numberIn u_4.1 u_4.2.1 lxe u_4.2.2.2.1 u_4.2.2.2.2.1 u_4.2.2.2.2.2.1 u_4.2.2.2.2.2.2.1 u_4.2.2.2.2.2.2.2 fBy fCo (1 : Int32) (9999 : Int32)) := ⟨_, rfl⟩
    refine vx_calli (vx_runV (As := [.int 1, .int 9999]) (rest := [.ref bsk]) ⟨hx, hb, hml, hown, htw⟩ (gp_numberIn l hst dC dI pa lx bk u_4.1 u_4.2.1 u_4.2.2.1 phe phr phs pop lby lfi lco lxe u_4.2.2.2.1 u_4.2.2.2.2.1 u_4.2.2.2.2.2.1 u_4.2.2.2.2.2.2.1 u_4.2.2.2.2.2.2.2 cBy fBy cCo fCo (1 : Int32) (9999 : Int32) sL H.size (gp_readSun_s0 (y0 := u_4.2.2.2.1) hp_21) h9_lxe) (cwV 2 htw (xg_V (ck_16 _ (List.mem_of_getElem? (i := 16) rfl)) (ck_16 _ (List.mem_of_getElem? (i := 17) rfl)) (ck_16 _ (List.mem_of_getElem? (i := 18) rfl)) (ck_1 _ (List.mem_of_getElem? (i := 16) rfl)) (ck_16 _ (List.mem_of_getElem? (i := 19) rfl))) rfl rfl rfl (by exact ⟨rfl, hdc_15.1, hdc_15.2, hdd_7⟩) ⟨Nat.le_of_ble_eq_true rfl, Nat.le_of_ble_eq_true rfl⟩) ⟨fun a U g mk q => by obtain ⟨q0, q1, qP, qK, qD, qx0⟩ := q; exact ⟨q0, q1, qP, va_K.moved (u := U) (U := U.calling g mk a) (Vm.Alike.refl U.vm) qK, qD, xl.calling qx0⟩, va_recv hKc hPc (ci := 7) (q0 := 0) rfl rfl, fun U hU hW => ⟨rfl, by rw [hU], by rw [hU]; exact hPc, va_K.moved hW.alike hKc, hDc.weaken (fun _ _ _ _ => trivial), by rw [hU]; exact xl.warm hW ((xl.kept hXL hS.2.1).narrow hFc)⟩⟩ rfl rfl hl.1 rfl (lv_room (Nat.le_of_ble_eq_true rfl)) dX7_readSun_17 ⟨Nat.le_of_ble_eq_true rfl, Nat.le_of_ble_eq_true rfl⟩) hS (fun q _ h => hFc q h) hFc (fun q _ h => hFc q h) (fun E ce q9 u_23 t H1 locs ht hvm hw hB hz1 hk1 hS hcell hcv hcl => ?_) (fun r_24 u_25 t H1 locs ht hvm hw hB hz1 hk1 hS => ?_)
    · obtain ⟨hE9, hB⟩ := hB
      subst hE9
      obtain ⟨hP1, hK1, hD1⟩ := hB
      rw [ht] at hP1
      have hK1 := va_K.moved hvm.symm hK1
      have hK1 : va_K (dC, dI) vwCl [] s := hK1
      obtain ⟨hP, hD⟩ := va_join (wr := [(eO0a bk bto bnm bla bsk bru bbo bdi bda bdk bdt bdp bno), (eO9a bsk wd wf mp mb mo sp sb)]) (w1 := [(eO7a pa lx bk u_23.1 u_23.2.1 u_4.2.2.1 phe phr phs pop), (eO3a lx lby lfi lco lxe u_23.2.2.1 u_23.2.2.2.1 u_23.2.2.2.2.1 u_23.2.2.2.2.2.1 u_23.2.2.2.2.2.2), (eA0 lby cBy 900 fBy), (eA0 lco cCo 23 fCo)]) hP hD [2, 3, 4, 5] [0, 1] hCc rfl (by decide) (by decide) hk1 hFc hP1 hD1
      generalize H1 = H at hP hS hcell ⊢
      obtain ⟨hP, hD⟩ := zre [(eO0a bk bto bnm bla bsk bru bbo bdi bda bdk bdt bdp bno), (eO9a bsk wd wf mp mb mo sp sb), (eO7a pa lx bk u_23.1 u_23.2.1 u_4.2.2.1 phe phr phs pop), (eO3a lx lby lfi lco lxe u_23.2.2.1 u_23.2.2.2.1 u_23.2.2.2.2.1 u_23.2.2.2.2.2.1 u_23.2.2.2.2.2.2), (eA0 lby cBy 900 fBy), (eA0 lco cCo 23 fCo)] hP hD rfl
      have hTX_22 : X_22.1 = 1 := by rw [hX_22]; exact hw.1
      have hq_u_23 : u_23 = X_22.2.2 := by rw [hX_22]; exact hw.2
      obtain ⟨hP9, hD9⟩ := zsub2 (ws' := [(eO7a pa lx bk u_23.1 u_23.2.1 u_4.2.2.1 phe phr phs pop), (eO3a lx lby lfi lco lxe u_23.2.2.1 u_23.2.2.2.1 u_23.2.2.2.2.1 u_23.2.2.2.2.2.1 u_23.2.2.2.2.2.2), (eA0 lby cBy 900 fBy), (eA0 lco cCo 23 fCo), (eO0a bk bto bnm bla bsk bru bbo bdi bda bdk bdt bdp bno), (eO9a bsk wd wf mp mb mo sp sb)]) hP hD [2, 3, 4, 5, 0, 1] (by decide) rfl
      have hK9 := hK.sub (tys' := []) [] rfl
      exact vx_widen (k := 1) (n := 6) (Nat.le_of_ble_eq_true rfl) (Nat.le_of_ble_eq_true rfl) (vx_out (fun x h9 => (hex x h9).elim) hlocks hcell hcv hcl (fun t ht hal => ⟨(u_23.1, u_23.2.1, u_4.2.2.1, u_23.2.2.1, u_23.2.2.2.1, u_23.2.2.2.2.1, u_23.2.2.2.2.2.1, u_23.2.2.2.2.2.2, sp, sb), ((fun e9 => ⟨by rw [e9], by rw [e9]⟩ : fp_readSun pfa pfp psk lxe lxa lxt lxp lxn lxl fBy fCo sp sb = ((1 : Int32), u_23.1, u_23.2.1, u_4.2.2.1, u_23.2.2.1, u_23.2.2.2.1, u_23.2.2.2.2.1, u_23.2.2.2.2.2.1, u_23.2.2.2.2.2.2, sp, sb) → _) ((by rw [fp_readSun]; (try rw [← hX_1]); (try rw [xL_eq]); (try rw [if_neg hTX_1]); (try rw [← hq_u_4]); (try rw [← hX_22]); (try rw [xL_eq]); (try rw [if_pos hTX_22]); (try rw [← hq_u_23]); try rfl))), ⟨rfl, by rw [ht]; exact hP9, va_K.moved hal hK9, hD9⟩, hS.F ht⟩) hS.2.2 (Nat.le_of_ble_eq_true rfl) (Nat.le_of_ble_eq_true rfl))
    · obtain ⟨hB, hsz9⟩ := hB
      obtain ⟨hP1, hK1, hD1⟩ := hB
      rw [ht] at hP1
      have hK1 := va_K.moved hvm.symm hK1
      have hK1 : va_K (dC, dI) vwCl [] s := hK1
      obtain ⟨hP, hD⟩ := va_join (wr := [(eO0a bk bto bnm bla bsk bru bbo bdi bda bdk bdt bdp bno), (eO9a bsk wd wf mp mb mo sp sb)]) (w1 := [(eO7a pa lx bk u_25.1 u_25.2.1 u_4.2.2.1 phe phr phs pop), (eO3a lx lby lfi lco lxe u_25.2.2.1 u_25.2.2.2.1 u_25.2.2.2.2.1 u_25.2.2.2.2.2.1 u_25.2.2.2.2.2.2), (eA0 lby cBy 900 fBy), (eA0 lco cCo 23 fCo)]) hP hD [2, 3, 4, 5] [0, 1] rfl rfl (by decide) (by decide) hk1 hFc hP1 hD1
      refine xs_tight (show H1.size = s.heap.size by rw [← ht, hsz9]; exact hHz) ?_
      generalize H1 = H at hP hS ⊢
      obtain ⟨hP, hD⟩ := zre [(eO0a bk bto bnm bla bsk bru bbo bdi bda bdk bdt bdp bno), (eO9a bsk wd wf mp mb mo sp sb), (eO7a pa lx bk u_25.1 u_25.2.1 u_4.2.2.1 phe phr phs pop), (eO3a lx lby lfi lco lxe u_25.2.2.1 u_25.2.2.2.1 u_25.2.2.2.2.1 u_25.2.2.2.2.2.1 u_25.2.2.2.2.2.2), (eA0 lby cBy 900 fBy), (eA0 lco cCo 23 fCo)] hP hD rfl
      obtain ⟨hw, hp_40, hp_41, hp_42⟩ := hw
      have hTX_22 : ¬ X_22.1 = 1 := by rw [hX_22, hw.1]; decide
      have hq_r_24 : r_24 = X_22.2.1 := by rw [hX_22]; exact hw.2.1
      have hq_u_25 : u_25 = X_22.2.2 := by rw [hX_22]; exact hw.2.2
      refine va_put (D := (dC, dI)) (ci := 9) (v := .int r_24) (ty := tyX9 5) (C := RX9) (T := TX9) (N := 7) hx hb htw inlX9 tyX9 tyX9_ok nmX9 hown hK hP hD hS 1 rfl rfl 5 (by decide) (htw _ (ck_18 _ (List.mem_of_getElem? (i := 3) rfl))) (fun _ h9 => h9) rfl (tyX9_ok 5 (by decide)) rfl rfl (Nat.le_of_ble_eq_true rfl) dX7_readSun_20 (fun H locs hP hD hS => ?_)
      obtain ⟨hP, hD⟩ := zre [(eO0a bk bto bnm bla bsk bru bbo bdi bda bdk bdt bdp bno), (eO9a bsk wd wf mp mb mo r_24 sb), (eO7a pa lx bk u_25.1 u_25.2.1 u_4.2.2.1 phe phr phs pop), (eO3a lx lby lfi lco lxe u_25.2.2.1 u_25.2.2.2.1 u_25.2.2.2.2.1 u_25.2.2.2.2.2.1 u_25.2.2.2.2.2.2), (eA0 lby cBy 900 fBy), (eA0 lco cCo 23 fCo)] hP hD rfl
      refine lv_aload_n hx hb dX7_readSun_23 rfl (lv_at hl 0 rfl) ?_
      refine va_get (D := (dC, dI)) (ci := 7) (v := .ref bk) (C := RX7) (T := TX7) (N := 9) hx hb htw inlX7 hown hK hP 2 rfl rfl 1 (by decide) (htw _ (ck_13 _ (List.mem_of_getElem? (i := 6) rfl))) (fun _ h9 => h9) rfl dX7_readSun_24 ?_
      refine va_get (D := (dC, dI)) (ci := 0) (v := .ref bsk) (C := RX0) (T := TX0) (N := 12) hx hb htw inlX0 hown hK hP 0 rfl rfl 3 (by decide) (htw _ (ck_17 _ (List.mem_of_getElem? (i := 5) rfl))) (fun _ h9 => h9) rfl dX7_readSun_27 ?_
      refine lv_aload_n hx hb dX7_readSun_30 rfl (lv_at hl 0 rfl) ?_
      refine lv_aload_n hx hb dX7_readSun_31 rfl (lv_at hl 0 rfl) ?_
      refine va_get (D := (dC, dI)) (ci := 7) (v := .ref bk) (C := RX7) (T := TX7) (N := 9) hx hb htw inlX7 hown hK hP 2 rfl rfl 1 (by decide) (htw _ (ck_13 _ (List.mem_of_getElem? (i := 6) rfl))) (fun _ h9 => h9) rfl dX7_readSun_32 ?_
      refine va_get (D := (dC, dI)) (ci := 0) (v := .ref bsk) (C := RX0) (T := TX0) (N := 12) hx hb htw inlX0 hown hK hP 0 rfl rfl 3 (by decide) (htw _ (ck_17 _ (List.mem_of_getElem? (i := 5) rfl))) (fun _ h9 => h9) rfl dX7_readSun_35 ?_
      refine va_get (D := (dC, dI)) (ci := 9) (v := .int r_24) (C := RX9) (T := TX9) (N := 7) hx hb htw inlX9 hown hK hP 1 rfl rfl 5 (by decide) (htw _ (ck_18 _ (List.mem_of_getElem? (i := 3) rfl))) (fun _ h9 => h9) rfl dX7_readSun_38 ?_
      refine xs_size (fun hHz => ?_)
      obtain ⟨hPc, hDc, hFc, hCc⟩ := zsub3 (ws' := [(eO7a pa lx bk u_25.1 u_25.2.1 u_4.2.2.1 phe phr phs pop), (eO3a lx lby lfi lco lxe u_25.2.2.1 u_25.2.2.2.1 u_25.2.2.2.2.1 u_25.2.2.2.2.2.1 u_25.2.2.2.2.2.2), (eA0 lby cBy 900 fBy), (eA0 lco cCo 23 fCo)]) hP hD hS hA [2, 3, 4, 5] (by decide) rfl
      have hKc := hK.sub (tys' := [(cBy, .byte), (cCo, .int)]) [0, 1] rfl
      obtain ⟨X_43, hX_43⟩ : ∃ X9 : Int32 × Int32 × (Int32) × (Int32) × (Int32) × (Int32) × (Int32) × (Int32) × (Int32), X9 = (fp_latterParts u_25.1 u_25.2.1 lxe u_25.2.2.1 u_25.2.2.2.1 u_25.2.2.2.2.1 u_25.2.2.2.2.2.1 u_25.2.2.2.2.2.2 fBy fCo r_24) := ⟨_, rfl⟩
      refine vx_calli (vx_runV (As := [.int r_24]) (rest := [.ref bsk]) ⟨hx, hb, hml, hown, htw⟩ (gp_latterParts l hst dC dI pa lx bk u_25.1 u_25.2.1 u_4.2.2.1 phe phr phs pop lby lfi lco lxe u_25.2.2.1 u_25.2.2.2.1 u_25.2.2.2.2.1 u_25.2.2.2.2.2.1 u_25.2.2.2.2.2.2 cBy fBy cCo fCo r_24 sL H.size (gp_readSun_s1 (y0 := u_25.2.2.1) hp_40) h9_lxe) (cwV 1 htw (xg_V (ck_17 _ (List.mem_of_getElem? (i := 19) rfl)) (ck_17 _ (List.mem_of_getElem? (i := 20) rfl)) (ck_17 _ (List.mem_of_getElem? (i := 21) rfl)) (ck_1 _ (List.mem_of_getElem? (i := 16) rfl)) (ck_17 _ (List.mem_of_getElem? (i := 22) rfl))) rfl rfl rfl (by exact ⟨rfl, hdc_15.1, hdc_15.2, hdd_2⟩) ⟨Nat.le_of_ble_eq_true rfl, Nat.le_of_ble_eq_true rfl⟩) ⟨fun a U g mk q => by obtain ⟨q0, q1, qP, qK, qD, qx0⟩ := q; exact ⟨q0, q1, qP, va_K.moved (u := U) (U := U.calling g mk a) (Vm.Alike.refl U.vm) qK, qD, xl.calling qx0⟩, va_recv hKc hPc (ci := 7) (q0 := 0) rfl rfl, fun U hU hW => ⟨rfl, by rw [hU], by rw [hU]; exact hPc, va_K.moved hW.alike hKc, hDc.weaken (fun _ _ _ _ => trivial), by rw [hU]; exact xl.warm hW ((xl.kept hXL hS.2.1).narrow hFc)⟩⟩ rfl rfl hl.1 rfl (lv_room (Nat.le_of_ble_eq_true rfl)) dX7_readSun_41 ⟨Nat.le_of_ble_eq_true rfl, Nat.le_of_ble_eq_true rfl⟩) hS (fun q _ h => hFc q h) hFc (fun q _ h => hFc q h) (fun E ce q9 u_44 t H1 locs ht hvm hw hB hz1 hk1 hS hcell hcv hcl => ?_) (fun r_45 u_46 t H1 locs ht hvm hw hB hz1 hk1 hS => ?_)
      · obtain ⟨hE9, hB⟩ := hB
        subst hE9
        obtain ⟨hP1, hK1, hD1⟩ := hB
        rw [ht] at hP1
        have hK1 := va_K.moved hvm.symm hK1
        have hK1 : va_K (dC, dI) vwCl [] s := hK1
        obtain ⟨hP, hD⟩ := va_join (wr := [(eO0a bk bto bnm bla bsk bru bbo bdi bda bdk bdt bdp bno), (eO9a bsk wd wf mp mb mo r_24 sb)]) (w1 := [(eO7a pa lx bk u_44.1 u_44.2.1 u_4.2.2.1 phe phr phs pop), (eO3a lx lby lfi lco lxe u_44.2.2.1 u_44.2.2.2.1 u_44.2.2.2.2.1 u_44.2.2.2.2.2.1 u_44.2.2.2.2.2.2), (eA0 lby cBy 900 fBy), (eA0 lco cCo 23 fCo)]) hP hD [2, 3, 4, 5] [0, 1] hCc rfl (by decide) (by decide) hk1 hFc hP1 hD1
        generalize H1 = H at hP hS hcell ⊢
        obtain ⟨hP, hD⟩ := zre [(eO0a bk bto bnm bla bsk bru bbo bdi bda bdk bdt bdp bno), (eO9a bsk wd wf mp mb mo r_24 sb), (eO7a pa lx bk u_44.1 u_44.2.1 u_4.2.2.1 phe phr phs pop), (eO3a lx lby lfi lco lxe u_44.2.2.1 u_44.2.2.2.1 u_44.2.2.2.2.1 u_44.2.2.2.2.2.1 u_44.2.2.2.2.2.2), (eA0 lby cBy 900 fBy), (eA0 lco cCo 23 fCo)] hP hD rfl
        have hTX_43 : X_43.1 = 1 := by rw [hX_43]; exact hw.1
        have hq_u_44 : u_44 = X_43.2.2 := by rw [hX_43]; exact hw.2
        obtain ⟨hP9, hD9⟩ := zsub2 (ws' := [(eO7a pa lx bk u_44.1 u_44.2.1 u_4.2.2.1 phe phr phs pop), (eO3a lx lby lfi lco lxe u_44.2.2.1 u_44.2.2.2.1 u_44.2.2.2.2.1 u_44.2.2.2.2.2.1 u_44.2.2.2.2.2.2), (eA0 lby cBy 900 fBy), (eA0 lco cCo 23 fCo), (eO0a bk bto bnm bla bsk bru bbo bdi bda bdk bdt bdp bno), (eO9a bsk wd wf mp mb mo r_24 sb)]) hP hD [2, 3, 4, 5, 0, 1] (by decide) rfl
        have hK9 := hK.sub (tys' := []) [] rfl
        exact vx_widen (k := 1) (n := 6) (Nat.le_of_ble_eq_true rfl) (Nat.le_of_ble_eq_true rfl) (vx_out (fun x h9 => (hex x h9).elim) hlocks hcell hcv hcl (fun t ht hal => ⟨(u_44.1, u_44.2.1, u_4.2.2.1, u_44.2.2.1, u_44.2.2.2.1, u_44.2.2.2.2.1, u_44.2.2.2.2.2.1, u_44.2.2.2.2.2.2, r_24, sb), ((fun e9 => ⟨by rw [e9], by rw [e9]⟩ : fp_readSun pfa pfp psk lxe lxa lxt lxp lxn lxl fBy fCo sp sb = ((1 : Int32), u_44.1, u_44.2.1, u_4.2.2.1, u_44.2.2.1, u_44.2.2.2.1, u_44.2.2.2.2.1, u_44.2.2.2.2.2.1, u_44.2.2.2.2.2.2, r_24, sb) → _) ((by rw [fp_readSun]; (try rw [← hX_1]); (try rw [xL_eq]); (try rw [if_neg hTX_1]); (try rw [← hq_u_4]); (try rw [← hX_22]); (try rw [xL_eq]); (try rw [if_neg hTX_22]); (try rw [← hq_r_24]); (try rw [← hq_u_25]); (try rw [← hX_43]); (try rw [xL_eq]); (try rw [if_pos hTX_43]); (try rw [← hq_u_44]); try rfl))), ⟨rfl, by rw [ht]; exact hP9, va_K.moved hal hK9, hD9⟩, hS.F ht⟩) hS.2.2 (Nat.le_of_ble_eq_true rfl) (Nat.le_of_ble_eq_true rfl))
      · obtain ⟨hB, hsz9⟩ := hB
        obtain ⟨hP1, hK1, hD1⟩ := hB
        rw [ht] at hP1
        have hK1 := va_K.moved hvm.symm hK1
        have hK1 : va_K (dC, dI) vwCl [] s := hK1
        obtain ⟨hP, hD⟩ := va_join (wr := [(eO0a bk bto bnm bla bsk bru bbo bdi bda bdk bdt bdp bno), (eO9a bsk wd wf mp mb mo r_24 sb)]) (w1 := [(eO7a pa lx bk u_46.1 u_46.2.1 u_4.2.2.1 phe phr phs pop), (eO3a lx lby lfi lco lxe u_46.2.2.1 u_46.2.2.2.1 u_46.2.2.2.2.1 u_46.2.2.2.2.2.1 u_46.2.2.2.2.2.2), (eA0 lby cBy 900 fBy), (eA0 lco cCo 23 fCo)]) hP hD [2, 3, 4, 5] [0, 1] rfl rfl (by decide) (by decide) hk1 hFc hP1 hD1
        refine xs_tight (show H1.size = s.heap.size by rw [← ht, hsz9]; exact hHz) ?_
        generalize H1 = H at hP hS ⊢
        obtain ⟨hP, hD⟩ := zre [(eO0a bk bto bnm bla bsk bru bbo bdi bda bdk bdt bdp bno), (eO9a bsk wd wf mp mb mo r_24 sb), (eO7a pa lx bk u_46.1 u_46.2.1 u_4.2.2.1 phe phr phs pop), (eO3a lx lby lfi lco lxe u_46.2.2.1 u_46.2.2.2.1 u_46.2.2.2.2.1 u_46.2.2.2.2.2.1 u_46.2.2.2.2.2.2), (eA0 lby cBy 900 fBy), (eA0 lco cCo 23 fCo)] hP hD rfl
        obtain ⟨hw, hp_61⟩ := hw
        have hTX_43 : ¬ X_43.1 = 1 := by rw [hX_43, hw.1]; decide
        have hq_r_45 : r_45 = X_43.2.1 := by rw [hX_43]; exact hw.2.1
        have hq_u_46 : u_46 = X_43.2.2 := by rw [hX_43]; exact hw.2.2
        refine va_put (D := (dC, dI)) (ci := 9) (v := .int r_45) (ty := tyX9 6) (C := RX9) (T := TX9) (N := 7) hx hb htw inlX9 tyX9 tyX9_ok nmX9 hown hK hP hD hS 1 rfl rfl 6 (by decide) (htw _ (ck_18 _ (List.mem_of_getElem? (i := 4) rfl))) (fun _ h9 => h9) rfl (tyX9_ok 6 (by decide)) rfl rfl (Nat.le_of_ble_eq_true rfl) dX7_readSun_44 (fun H locs hP hD hS => ?_)
        obtain ⟨hP, hD⟩ := zre [(eO0a bk bto bnm bla bsk bru bbo bdi bda bdk bdt bdp bno), (eO9a bsk wd wf mp mb mo r_24 r_45), (eO7a pa lx bk u_46.1 u_46.2.1 u_4.2.2.1 phe phr phs pop), (eO3a lx lby lfi lco lxe u_46.2.2.1 u_46.2.2.2.1 u_46.2.2.2.2.1 u_46.2.2.2.2.2.1 u_46.2.2.2.2.2.2), (eA0 lby cBy 900 fBy), (eA0 lco cCo 23 fCo)] hP hD rfl
        refine xs_size (fun hHz => ?_)
        refine vx_ret ?_
        refine W.widen (k := 1) (n := 6) (by omega) (by omega) ?_
        obtain ⟨hP9, hD9⟩ := zsub2 (ws' := [(eO7a pa lx bk u_46.1 u_46.2.1 u_4.2.2.1 phe phr phs pop), (eO3a lx lby lfi lco lxe u_46.2.2.1 u_46.2.2.2.1 u_46.2.2.2.2.1 u_46.2.2.2.2.2.1 u_46.2.2.2.2.2.2), (eA0 lby cBy 900 fBy), (eA0 lco cCo 23 fCo), (eO0a bk bto bnm bla bsk bru bbo bdi bda bdk bdt bdp bno), (eO9a bsk wd wf mp mb mo r_24 r_45)]) hP hD [2, 3, 4, 5, 0, 1] (by decide) rfl
        have hK9 := hK.sub (tys' := []) [] rfl
        exact W.vret hx hb hr (fun t ht hW => ⟨⟨(u_46.1, u_46.2.1, u_4.2.2.1, u_46.2.2.1, u_46.2.2.2.1, u_46.2.2.2.2.1, u_46.2.2.2.2.2.1, u_46.2.2.2.2.2.2, r_24, r_45), rfl, ⟨((fun e9 => ⟨by rw [e9], by rw [e9]⟩ : fp_readSun pfa pfp psk lxe lxa lxt lxp lxn lxl fBy fCo sp sb = ((0 : Int32), u_46.1, u_46.2.1, u_4.2.2.1, u_46.2.2.1, u_46.2.2.2.1, u_46.2.2.2.2.1, u_46.2.2.2.2.2.1, u_46.2.2.2.2.2.2, r_24, r_45) → _) ((by rw [fp_readSun]; (try rw [← hX_1]); (try rw [xL_eq]); (try rw [if_neg hTX_1]); (try rw [← hq_u_4]); (try rw [← hX_22]); (try rw [xL_eq]); (try rw [if_neg hTX_22]); (try rw [← hq_r_24]); (try rw [← hq_u_25]); (try rw [← hX_43]); (try rw [xL_eq]); (try rw [if_neg hTX_43]); (try rw [← hq_r_45]); (try rw [← hq_u_46]); try rfl))), (gp_readSun_s2 (y0 := u_46.2.2.1) hp_61)⟩, ⟨by rw [ht]; exact hP9, va_K.moved hW.alike hK9, hD9⟩, by rw [ht]; first | exact hHz | exact hHz.trans (by rw [rH])⟩, hS.F ht⟩) hS.2.2 dX7_readSun_47
