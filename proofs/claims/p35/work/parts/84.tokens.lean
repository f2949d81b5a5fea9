theorem dX7_refuse_0 : decode cX7_refuse 0 = .ok (.iload_n 1, 1) := zk_27 (by decide +kernel)
theorem dX7_refuse_1 : decode cX7_refuse 1 = .ok (.ifCond .eq 23, 3) := zk_153 (by decide +kernel)
theorem dX7_refuse_24 : decode cX7_refuse 24 = .ok (.return_, 1) := zk_177 (by decide +kernel)
set_option maxHeartbeats 4000000 in
set_option maxRecDepth 100000 in
theorem gp_ref0 (l : Launch) (dC : Nat → ClassId) (dI : Nat → Nat → Nat) (a0 : Int32) (a1 : Int32) (a2 : Int32) (pa : Nat) (hz : a0 = 0) : Met l yX7_refuse (Cond.code yX7_refuse cX7_refuse 4 none :: wsL_law) ({ frames := 0, cells := 0, slots := 0, locals := 0 }) (va_Pc [.ref pa, .int a0, .int a1, .int a2] (fun U => va_P (dC, dI) vwCl [] U.heap ∧ va_K (dC, dI) vwCl [] U)) (va_Sv (fun r => True)) 0 0 (fun _ => False) := by
  refine Met.ofW (cc := cX7_refuse) (maxL := 4) (ret := none) (by decide) rfl ?_
  intro p e s m args below meth c s₁ B hml hv
  obtain ⟨rfl, hP, hK⟩ := hv
  have hx := B.exec
  have hb := B.bytes
  have hr := B.returns
  have hts := atoms_spec (ws := Cond.code yX7_refuse cX7_refuse 4 none :: wsL_law) B.pre
  have htw : ∀ w ∈ wsL_law, w.before _ s = true := fun w h => hts w (List.mem_cons_of_mem _ h)
  have hown : s.vm.findClass RX7 = some m.cls := findClass_of_methodNamed B.named
  have hlocks := B.notSynchronized
  have hl := lv_entry ([.ref pa, .int a0, .int a1, .int a2]) (n := 4) (Nat.le_of_ble_eq_true rfl)
  rw [lg_entry_eq]
  generalize (lg_sl ([.ref pa, .int a0, .int a1, .int a2]) ++ List.replicate (4 - (lg_sl ([.ref pa, .int a0, .int a1, .int a2])).length) Slot.unset).toArray = ls at hl ⊢
  have hl : lv_has ls 4 [(0, .ref pa), (1, .int a0), (2, .int a1), (3, .int a2)] := hl
  refine lv_iload_n hx hb dX7_refuse_0 rfl (lv_at hl 1 rfl) ?_
  refine lv_if_eq (tgt := 24) hx hb dX7_refuse_1 (by decide) (fun c_1 => ?_) (fun c_1 => absurd c_1 (fun h => h hz))
  exact W.vret hx hb hr (fun t ht hW => ⟨rfl, trivial, ht⟩) (fun _ h => by cases h) dX7_refuse_24

theorem dX7_refuse_4 : decode cX7_refuse 4 = .ok (.aload_n 0, 1) := zk_42 (by decide +kernel)
theorem dX7_refuse_5 : decode cX7_refuse 5 = .ok (.iload_n 2, 1) := zk_28 (by decide +kernel)
theorem dX7_refuse_6 : decode cX7_refuse 6 = .ok (.putfield 43, 3) := zk_181 (by decide +kernel)
theorem dX7_refuse_9 : decode cX7_refuse 9 = .ok (.aload_n 0, 1) := zk_42 (by decide +kernel)
theorem dX7_refuse_10 : decode cX7_refuse 10 = .ok (.iload_n 3, 1) := zk_29 (by decide +kernel)
theorem dX7_refuse_11 : decode cX7_refuse 11 = .ok (.putfield 18, 3) := zk_181 (by decide +kernel)
theorem dX7_refuse_14 : decode cX7_refuse 14 = .ok (.new 56, 3) := zk_187 (by decide +kernel)
theorem dX7_refuse_17 : decode cX7_refuse 17 = .ok (.dup, 1) := zk_89 (by decide +kernel)
theorem dX7_refuse_18 : decode cX7_refuse 18 = .ok (.ldc 58, 2) := zk_18 (by decide +kernel)
theorem dX7_refuse_20 : decode cX7_refuse 20 = .ok (.invokespecial 60, 3) := zk_183 (by decide +kernel)
theorem dX7_refuse_23 : decode cX7_refuse 23 = .ok (.athrow, 1) := zk_191 (by decide +kernel)
set_option maxHeartbeats 4000000 in
set_option maxRecDepth 100000 in
theorem gp_refT (l : Launch) (hst : l.stackTraces = false) (dC : Nat → ClassId) (dI : Nat → Nat → Nat) (pa : Nat) (lx : Nat) (bk : Nat) (pfa : Int32) (pfp : Int32) (psk : Int32) (phe : Nat) (phr : Nat) (phs : Int32) (pop : Int32) (a0 : Int32) (a1 : Int32) (a2 : Int32) (sL : Nat → Nat) (sz : Nat) (hz : ¬ a0 = 0) : vx_Met l yX7_refuse (Cond.code yX7_refuse cX7_refuse 4 none :: wsL_law) ({ frames := 6, cells := 1, slots := 6, locals := 82 }) (va_Pc [.ref pa, .int a0, .int a1, .int a2] (fun U => U.heap.size = sz ∧ va_P (dC, dI) vwCl [(eO7a pa lx bk pfa pfp psk phe phr phs pop)] U.heap ∧ va_K (dC, dI) vwCl [] U ∧ va_D (fun _ => True) [(eO7a pa lx bk pfa pfp psk phe phr phs pop)] ∧ xl sL (va_A [(eO7a pa lx bk pfa pfp psk phe phr phs pop)] sz) U U.heap)) (va_Qv (fun (u : Unit) => False) (fun (u : Unit) t => (va_P (dC, dI) vwCl [(eO7a pa lx bk a1 a2 psk phe phr phs pop)] t.heap ∧ va_K (dC, dI) vwCl [] t ∧ va_D (va_A [(eO7a pa lx bk pfa pfp psk phe phr phs pop)] sz) [(eO7a pa lx bk a1 a2 psk phe phr phs pop)]) ∧ t.heap.size = sz) (va_A [(eO7a pa lx bk pfa pfp psk phe phr phs pop)] sz)) (vx_X (fun (u : Unit) => True) (fun (E : String) (u : Unit) (t : State) => E = "java/lang/IllegalStateException" ∧ va_P (dC, dI) vwCl [(eO7a pa lx bk a1 a2 psk phe phr phs pop)] t.heap ∧ va_K (dC, dI) vwCl [] t ∧ va_D (va_A [(eO7a pa lx bk pfa pfp psk phe phr phs pop)] sz) [(eO7a pa lx bk a1 a2 psk phe phr phs pop)]) (va_A [(eO7a pa lx bk pfa pfp psk phe phr phs pop)] sz)) 1 6 (va_A [(eO7a pa lx bk pfa pfp psk phe phr phs pop)] sz) := by
  refine vx_ofW (cc := cX7_refuse) (maxL := 4) (ret := none) (by decide) rfl ?_
  intro p e s m args below meth c s₁ B hml hex hv
  obtain ⟨rfl, hsz, hP, hK, hD0, hXL⟩ := hv
  have hx := B.exec
  have hb := B.bytes
  have hr := B.returns
  have hts := atoms_spec (ws := Cond.code yX7_refuse cX7_refuse 4 none :: wsL_law) B.pre
  have htw : ∀ w ∈ wsL_law, w.before _ s = true := fun w h => hts w (List.mem_cons_of_mem _ h)
  have hown : s.vm.findClass RX7 = some m.cls := findClass_of_methodNamed B.named
  have hlocks := B.notSynchronized
  subst hsz
  have hD := hD0.self (sz := s.heap.size)
  generalize hAe : va_A [(eO7a pa lx bk pfa pfp psk phe phr phs pop)] s.heap.size = A at hD hXL ⊢
  have hA : ∀ q : Nat, s.heap.size ≤ q → A q := fun q h => by rw [← hAe]; exact Or.inr h
  obtain ⟨H, rH⟩ : ∃ z : Heap, z = s.heap := ⟨_, rfl⟩
  have hS : va_S A s.heap H [] := by rw [rH]; exact va_S.rf
  have hP : va_P (dC, dI) vwCl [(eO7a pa lx bk pfa pfp psk phe phr phs pop)] H := by rw [rH]; exact hP
  rw [← rH]
  have hl := lv_entry ([.ref pa, .int a0, .int a1, .int a2]) (n := 4) (Nat.le_of_ble_eq_true rfl)
  rw [lg_entry_eq]
  generalize (lg_sl ([.ref pa, .int a0, .int a1, .int a2]) ++ List.replicate (4 - (lg_sl ([.ref pa, .int a0, .int a1, .int a2])).length) Slot.unset).toArray = ls at hl ⊢
  have hl : lv_has ls 4 [(0, .ref pa), (1, .int a0), (2, .int a1), (3, .int a2)] := hl
  refine lv_iload_n hx hb dX7_refuse_0 rfl (lv_at hl 1 rfl) ?_
  refine lv_if_eq (tgt := 24) hx hb dX7_refuse_1 (by decide) (fun c_1 => absurd c_1 (hz)) (fun c_1 => ?_)
  refine lv_aload_n hx hb dX7_refuse_4 rfl (lv_at hl 0 rfl) ?_
  refine lv_iload_n hx hb dX7_refuse_5 rfl (lv_at hl 2 rfl) ?_
  refine va_put (D := (dC, dI)) (ci := 7) (v := .int a1) (ty := tyX7 2) (C := RX7) (T := TX7) (N := 9) hx hb htw inlX7 tyX7 tyX7_ok nmX7 hown hK hP hD hS 0 rfl rfl 2 (by decide) (htw _ (ck_13 _ (List.mem_of_getElem? (i := 8) rfl))) (fun _ h9 => h9) rfl (tyX7_ok 2 (by decide)) rfl rfl (Nat.le_of_ble_eq_true rfl) dX7_refuse_6 (fun H locs hP hD hS => ?_)
  obtain ⟨hP, hD⟩ := zre [(eO7a pa lx bk a1 pfp psk phe phr phs pop)] hP hD rfl
  refine lv_aload_n hx hb dX7_refuse_9 rfl (lv_at hl 0 rfl) ?_
  refine lv_iload_n hx hb dX7_refuse_10 rfl (lv_at hl 3 rfl) ?_
  refine va_put (D := (dC, dI)) (ci := 7) (v := .int a2) (ty := tyX7 3) (C := RX7) (T := TX7) (N := 9) hx hb htw inlX7 tyX7 tyX7_ok nmX7 hown hK hP hD hS 0 rfl rfl 3 (by decide) (htw _ (ck_3 _ (List.mem_of_getElem? (i := 6) rfl))) (fun _ h9 => h9) rfl (tyX7_ok 3 (by decide)) rfl rfl (Nat.le_of_ble_eq_true rfl) dX7_refuse_11 (fun H locs hP hD hS => ?_)
  obtain ⟨hP, hD⟩ := zre [(eO7a pa lx bk a1 a2 psk phe phr phs pop)] hP hD rfl
  have hP9 := hP
  have hD9 := hD
  have hK9 := hK.sub (tys' := []) [] rfl
  exact vx_throwS (sa := sL 0) (text := "a fault") (names := ["java/lang/RuntimeException", "java/lang/Exception"]) (ik := 56) (is := 58) (ic := 60) (A := A) hx hb hst hown (by decide +kernel) (by decide +kernel) (htw _ (ck_13 _ (List.mem_of_getElem? (i := 5) rfl))) (htw _ (ck_16 _ (List.mem_of_getElem? (i := 10) rfl))) hXL.1.1 hXL.1.hat xk_ot hXL.1.2.1 hXL.1.2.2.1 hS (by rw [hml]; exact hl.1) dX7_refuse_14 dX7_refuse_17 dX7_refuse_18 dX7_refuse_20 dX7_refuse_23 (fun x hx9 => (hex x hx9).elim) (Nat.le_of_ble_eq_true rfl) (Nat.le_of_ble_eq_true rfl) (Nat.le_of_ble_eq_true rfl) (Nat.le_of_ble_eq_true rfl) hlocks (fun t hal hsz9 hk9 => ⟨(), trivial, ⟨rfl, xs_ext hP9 hk9, va_K.moved hal hK9, hD9⟩, Nat.le_trans hS.1 hsz9, fun q h1 h2 => (hk9 q (Nat.lt_of_lt_of_le h1 hS.1)).trans (hS.2.1 q h1 h2)⟩) hS.2.2 (Nat.le_of_ble_eq_true rfl) (Nat.le_of_ble_eq_true rfl)

def fp_take (pfa : Int32) (pfp : Int32) (lxe : Int32) (lxa : Int32) (lxt : Int32) (lxp : Int32) (lxn : Int32) (lxl : Int32) (fBy : Nat → Int32) (fCo : Nat → Int32) (a0 : Int32) : Int32 × (Int32) × (Int32) × (Int32) × (Int32) × (Int32) × (Int32) × (Int32) := (if lxt = a0 then (xL ((fe_advance lxe lxa lxn lxl fBy fCo)) (fun u_4 => ((0 : Int32), pfa, pfp, u_4.1, u_4.2.1, u_4.2.2.1, u_4.2.2.2.1, u_4.2.2.2.2))) else ((1 : Int32), (1 : Int32), lxp, lxa, lxt, lxp, lxn, lxl))
theorem gp_take_s0  : (0 : Int32) = 0 := (by decide)
theorem gp_take_s1 {y0 : Int32} (h0 : ¬ (y0 < 0)) : ¬ (y0 < 0) := h0
theorem gp_take_s2  : ¬ ((1 : Int32) = 0) := (by decide)
theorem dX7_take_0 : decode cX7_take 0 = .ok (.aload_n 0, 1) := zk_42 (by decide +kernel)
theorem dX7_take_1 : decode cX7_take 1 = .ok (.aload_n 0, 1) := zk_42 (by decide +kernel)
theorem dX7_take_2 : decode cX7_take 2 = .ok (.getfield 12, 3) := zk_180 (by decide +kernel)
theorem dX7_take_5 : decode cX7_take 5 = .ok (.getfield 50, 3) := zk_180 (by decide +kernel)
theorem dX7_take_8 : decode cX7_take 8 = .ok (.iload_n 1, 1) := zk_27 (by decide +kernel)
theorem dX7_take_9 : decode cX7_take 9 = .ok (.if_icmp .eq 7, 3) := zk_159 (by decide +kernel)
theorem dX7_take_16 : decode cX7_take 16 = .ok (.iconst 0, 1) := zk_3 (by decide +kernel)
theorem dX7_take_17 : decode cX7_take 17 = .ok (.iconst 1, 1) := zk_4 (by decide +kernel)
theorem dX7_take_18 : decode cX7_take 18 = .ok (.aload_n 0, 1) := zk_42 (by decide +kernel)
theorem dX7_take_19 : decode cX7_take 19 = .ok (.getfield 12, 3) := zk_180 (by decide +kernel)
theorem dX7_take_22 : decode cX7_take 22 = .ok (.getfield 87, 3) := zk_180 (by decide +kernel)
theorem dX7_take_25 : decode cX7_take 25 = .ok (.invokevirtual 90, 3) := zk_182 (by decide +kernel)
theorem dX7_take_28 : decode cX7_take 28 = .ok (.aload_n 0, 1) := zk_42 (by decide +kernel)
theorem dX7_take_29 : decode cX7_take 29 = .ok (.getfield 12, 3) := zk_180 (by decide +kernel)
theorem dX7_take_32 : decode cX7_take 32 = .ok (.invokevirtual 123, 3) := zk_182 (by decide +kernel)
theorem dX7_take_35 : decode cX7_take 35 = .ok (.return_, 1) := zk_177 (by decide +kernel)
theorem dX7_take_12 : decode cX7_take 12 = .ok (.iconst 1, 1) := zk_4 (by decide +kernel)
theorem dX7_take_13 : decode cX7_take 13 = .ok (.goto 4, 3) := zk_167 (by decide +kernel)
set_option maxHeartbeats 4000000 in
set_option maxRecDepth 100000 in
theorem gp_take (l : Launch) (hst : l.stackTraces = false) (dC : Nat → ClassId) (dI : Nat → Nat → Nat) (pa : Nat) (lx : Nat) (bk : Nat) (pfa : Int32) (pfp : Int32) (psk : Int32) (phe : Nat) (phr : Nat) (phs : Int32) (pop : Int32) (lby : Nat) (lfi : Int32) (lco : Nat) (lxe : Int32) (lxa : Int32) (lxt : Int32) (lxp : Int32) (lxn : Int32) (lxl : Int32) (cBy : ClassId) (fBy : Nat → Int32) (cCo : ClassId) (fCo : Nat → Int32) (a0 : Int32) (sL : Nat → Nat) (sz : Nat) (h0_lxa : ¬ lxa < 0) (h9_lxe : lxe ≤ 900) : vx_Met l yX7_take (Cond.code yX7_take cX7_take 2 none :: wsL_law) ({ frames := 7, cells := 1, slots := 6, locals := 105 }) (va_Pc [.ref pa, .int a0] (fun U => U.heap.size = sz ∧ va_P (dC, dI) vwCl [(eO7a pa lx bk pfa pfp psk phe phr phs pop), (eO3a lx lby lfi lco lxe lxa lxt lxp lxn lxl), (eA0 lby cBy 900 fBy), (eA0 lco cCo 23 fCo)] U.heap ∧ va_K (dC, dI) vwCl [(cBy, .byte), (cCo, .int)] U ∧ va_D (fun _ => True) [(eO7a pa lx bk pfa pfp psk phe phr phs pop), (eO3a lx lby lfi lco lxe lxa lxt lxp lxn lxl), (eA0 lby cBy 900 fBy), (eA0 lco cCo 23 fCo)] ∧ xl sL (va_A [(eO7a pa lx bk pfa pfp psk phe phr phs pop), (eO3a lx lby lfi lco lxe lxa lxt lxp lxn lxl), (eA0 lby cBy 900 fBy), (eA0 lco cCo 23 fCo)] sz) U U.heap)) (va_Qv (fun (u : (Int32) × (Int32) × (Int32) × (Int32) × (Int32) × (Int32) × (Int32)) => ((fp_take pfa pfp lxe lxa lxt lxp lxn lxl fBy fCo a0).1 = 0 ∧ u = (fp_take pfa pfp lxe lxa lxt lxp lxn lxl fBy fCo a0).2) ∧ (¬ u.2.2.1 < 0)) (fun (u : (Int32) × (Int32) × (Int32) × (Int32) × (Int32) × (Int32) × (Int32)) t => (va_P (dC, dI) vwCl [(eO7a pa lx bk u.1 u.2.1 psk phe phr phs pop), (eO3a lx lby lfi lco lxe u.2.2.1 u.2.2.2.1 u.2.2.2.2.1 u.2.2.2.2.2.1 u.2.2.2.2.2.2), (eA0 lby cBy 900 fBy), (eA0 lco cCo 23 fCo)] t.heap ∧ va_K (dC, dI) vwCl [] t ∧ va_D (va_A [(eO7a pa lx bk pfa pfp psk phe phr phs pop), (eO3a lx lby lfi lco lxe lxa lxt lxp lxn lxl), (eA0 lby cBy 900 fBy), (eA0 lco cCo 23 fCo)] sz) [(eO7a pa lx bk u.1 u.2.1 psk phe phr phs pop), (eO3a lx lby lfi lco lxe u.2.2.1 u.2.2.2.1 u.2.2.2.2.1 u.2.2.2.2.2.1 u.2.2.2.2.2.2), (eA0 lby cBy 900 fBy), (eA0 lco cCo 23 fCo)]) ∧ t.heap.size = sz) (va_A [(eO7a pa lx bk pfa pfp psk phe phr phs pop), (eO3a lx lby lfi lco lxe lxa lxt lxp lxn lxl), (eA0 lby cBy 900 fBy), (eA0 lco cCo 23 fCo)] sz)) (vx_X (fun (u : (Int32) × (Int32) × (Int32) × (Int32) × (Int32) × (Int32) × (Int32)) => (fp_take pfa pfp lxe lxa lxt lxp lxn lxl fBy fCo a0).1 = 1 ∧ u = (fp_take pfa pfp lxe lxa lxt lxp lxn lxl fBy fCo a0).2) (fun (E : String) (u : (Int32) × (Int32) × (Int32) × (Int32) × (Int32) × (Int32) × (Int32)) (t : State) => E = "java/lang/IllegalStateException" ∧ va_P (dC, dI) vwCl [(eO7a pa lx bk u.1 u.2.1 psk phe phr phs pop), (eO3a lx lby lfi lco lxe u.2.2.1 u.2.2.2.1 u.2.2.2.2.1 u.2.2.2.2.2.1 u.2.2.2.2.2.2), (eA0 lby cBy 900 fBy), (eA0 lco cCo 23 fCo)] t.heap ∧ va_K (dC, dI) vwCl [] t ∧ va_D (va_A [(eO7a pa lx bk pfa pfp psk phe phr phs pop), (eO3a lx lby lfi lco lxe lxa lxt lxp lxn lxl), (eA0 lby cBy 900 fBy), (eA0 lco cCo 23 fCo)] sz) [(eO7a pa lx bk u.1 u.2.1 psk phe phr phs pop), (eO3a lx lby lfi lco lxe u.2.2.1 u.2.2.2.1 u.2.2.2.2.1 u.2.2.2.2.2.1 u.2.2.2.2.2.2), (eA0 lby cBy 900 fBy), (eA0 lco cCo 23 fCo)]) (va_A [(eO7a pa lx bk pfa pfp psk phe phr phs pop), (eO3a lx lby lfi lco lxe lxa lxt lxp lxn lxl), (eA0 lby cBy 900 fBy), (eA0 lco cCo 23 fCo)] sz)) 1 6 (va_A [(eO7a pa lx bk pfa pfp psk phe phr phs pop), (eO3a lx lby lfi lco lxe lxa lxt lxp lxn lxl), (eA0 lby cBy 900 fBy), (eA0 lco cCo 23 fCo)] sz) := by
  refine vx_ofW (cc := cX7_take) (maxL := 2) (ret := none) (by decide) rfl ?_
  intro p e s m args below meth c s₁ B hml hex hv
  obtain ⟨rfl, hsz, hP, hK, hD0, hXL⟩ := hv
  have hx := B.exec
  have hb := B.bytes
  have hr := B.returns
  have hts := atoms_spec (ws := Cond.code yX7_take cX7_take 2 none :: wsL_law) B.pre
  have htw : ∀ w ∈ wsL_law, w.before _ s = true := fun w h => hts w (List.mem_cons_of_mem _ h)
  have hown : s.vm.findClass RX7 = some m.cls := findClass_of_methodNamed B.named
  have hlocks := B.notSynchronized
  subst hsz
  have hD := hD0.self (sz := s.heap.size)
  generalize hAe : va_A [(eO7a pa lx bk pfa pfp psk phe phr phs pop), (eO3a lx lby lfi lco lxe lxa lxt lxp lxn lxl), (eA0 lby cBy 900 fBy), (eA0 lco cCo 23 fCo)] s.heap.size = A at hD hXL ⊢
  have hA : ∀ q : Nat, s.heap.size ≤ q → A q := fun q h => by rw [← hAe]; exact Or.inr h
  obtain ⟨H, rH⟩ : ∃ z : Heap, z = s.heap := ⟨_, rfl⟩
  have hS : va_S A s.heap H [] := by rw [rH]; exact va_S.rf
  have hP : va_P (dC, dI) vwCl [(eO7a pa lx bk pfa pfp psk phe phr phs pop), (eO3a lx lby lfi lco lxe lxa lxt lxp lxn lxl), (eA0 lby cBy 900 fBy), (eA0 lco cCo 23 fCo)] H := by rw [rH]; exact hP
  rw [← rH]
  have hl := lv_entry ([.ref pa, .int a0]) (n := 2) (Nat.le_of_ble_eq_true rfl)
  rw [lg_entry_eq]
  generalize (lg_sl ([.ref pa, .int a0]) ++ List.replicate (2 - (lg_sl ([.ref pa, .int a0])).length) Slot.unset).toArray = ls at hl ⊢
  have hl : lv_has ls 2 [(0, .ref pa), (1, .int a0)] := hl
  refine lv_aload_n hx hb dX7_take_0 rfl (lv_at hl 0 rfl) ?_
  refine lv_aload_n hx hb dX7_take_1 rfl (lv_at hl 0 rfl) ?_
  refine va_get (D := (dC, dI)) (ci := 7) (v := .ref lx) (C := RX7) (T := TX7) (N := 9) hx hb htw inlX7 hown hK hP 0 rfl rfl 0 (by decide) (htw _ (ck_3 _ (List.mem_of_getElem? (i := 5) rfl))) (fun _ h9 => h9) rfl dX7_take_2 ?_
  refine va_get (D := (dC, dI)) (ci := 3) (v := .int lxt) (C := RX3) (T := TX3) (N := 9) hx hb htw inlX3 hown hK hP 1 rfl rfl 5 (by decide) (htw _ (ck_13 _ (List.mem_of_getElem? (i := 9) rfl))) (fun _ h9 => h9) rfl dX7_take_5 ?_
  refine lv_iload_n hx hb dX7_take_8 rfl (lv_at hl 1 rfl) ?_
  refine lv_icmp_eq (tgt := 16) hx hb dX7_take_9 (by decide) (fun c_1 => ?_) (fun c_1 => ?_)
  · refine lv_iconst (v := 0) hx hb dX7_take_16 (by decide) ?_
    refine lv_iconst (v := 1) hx hb dX7_take_17 (by decide) ?_
    refine lv_aload_n hx hb dX7_take_18 rfl (lv_at hl 0 rfl) ?_
    refine va_get (D := (dC, dI)) (ci := 7) (v := .ref lx) (C := RX7) (T := TX7) (N := 9) hx hb htw inlX7 hown hK hP 0 rfl rfl 0 (by decide) (htw _ (ck_3 _ (List.mem_of_getElem? (i := 5) rfl))) (fun _ h9 => h9) rfl dX7_take_19 ?_
    refine va_get (D := (dC, dI)) (ci := 3) (v := .int lxp) (C := RX3) (T := TX3) (N := 9) hx hb htw inlX3 hown hK hP 1 rfl rfl 6 (by decide) (htw _ (ck_15 _ (List.mem_of_getElem? (i := 13) rfl))) (fun _ h9 => h9) rfl dX7_take_22 ?_
    have hPc := hP.sub (ws' := []) [] rfl
    have hKc := hK.sub (tys' := []) [] rfl
    refine va_csv (W.runV (As := [.int 0, .int 1, .int lxp]) (rest := []) ⟨hx, hb, hml, hown, htw⟩ (gp_ref0 l dC dI (0 : Int32) (1 : Int32) lxp pa (gp_take_s0 )) (cwV 3 htw (xg_V (ck_16 _ (List.mem_of_getElem? (i := 6) rfl)) (ck_16 _ (List.mem_of_getElem? (i := 7) rfl)) (ck_16 _ (List.mem_of_getElem? (i := 8) rfl)) (ck_1 _ (List.mem_of_getElem? (i := 16) rfl)) (ck_16 _ (List.mem_of_getElem? (i := 9) rfl))) rfl rfl rfl (by exact ⟨rfl, hdc_15.1, hdc_15.2, hdd_48⟩) ⟨Nat.le_of_ble_eq_true rfl, Nat.le_of_ble_eq_true rfl⟩) ⟨fun a U g mk q => by obtain ⟨q0, qP, qK⟩ := q; exact ⟨q0, qP, va_K.moved (u := U) (U := U.calling g mk a) (Vm.Alike.refl U.vm) qK⟩, va_recv hK hP (ci := 7) (q0 := 0) rfl rfl, fun U hU hW => ⟨rfl, by rw [hU]; exact hPc, va_K.moved hW.alike hKc⟩⟩ rfl rfl hl.1 rfl (lv_room (Nat.le_of_ble_eq_true rfl)) dX7_take_25 ⟨Nat.le_of_ble_eq_true rfl, Nat.le_of_ble_eq_true rfl⟩) (fun hw => ?_)
    try dsimp only at hw
    refine lv_aload_n hx hb dX7_take_28 rfl (lv_at hl 0 rfl) ?_
    refine va_get (D := (dC, dI)) (ci := 7) (v := .ref lx) (C := RX7) (T := TX7) (N := 9) hx hb htw inlX7 hown hK hP 0 rfl rfl 0 (by decide) (htw _ (ck_3 _ (List.mem_of_getElem? (i := 5) rfl))) (fun _ h9 => h9) rfl dX7_take_29 ?_
    obtain ⟨hPc, hDc, hFc, hCc⟩ := zsub3 (ws' := [(eO3a lx lby lfi lco lxe lxa lxt lxp lxn lxl), (eA0 lby cBy 900 fBy), (eA0 lco cCo 23 fCo)]) hP hD hS hA [1, 2, 3] (by decide) rfl
    have hKc := hK.sub (tys' := [(cBy, .byte), (cCo, .int)]) [0, 1] rfl
    refine va_callv (va_runV (As := []) (rest := []) ⟨hx, hb, hml, hown, htw⟩ (gz_advance l dC dI lx lby lfi lco lxe lxa lxt lxp lxn lxl cBy fBy cCo fCo H.size h0_lxa h9_lxe) (cwV 0 htw (xg_V (ck_16 _ (List.mem_of_getElem? (i := 11) rfl)) (ck_14 _ (List.mem_of_getElem? (i := 13) rfl)) (ck_14 _ (List.mem_of_getElem? (i := 14) rfl)) (ck_3 _ (List.mem_of_getElem? (i := 4) rfl)) (ck_14 _ (List.mem_of_getElem? (i := 15) rfl))) rfl rfl rfl (by exact ⟨rfl, hdc_4.1, hdc_4.2, hdd_13⟩) ⟨Nat.le_of_ble_eq_true rfl, Nat.le_of_ble_eq_true rfl⟩) ⟨fun a U g mk q => by obtain ⟨q0, q1, qP, qK, qD⟩ := q; exact ⟨q0, q1, qP, va_K.moved (u := U) (U := U.calling g mk a) (Vm.Alike.refl U.vm) qK, qD⟩, va_recv hKc hPc (ci := 3) (q0 := 0) rfl rfl, fun U hU hW => ⟨rfl, by rw [hU], by rw [hU]; exact hPc, va_K.moved hW.alike hKc, hDc.weaken (fun _ _ _ _ => trivial)⟩⟩ rfl rfl hl.1 rfl (lv_room (Nat.le_of_ble_eq_true rfl)) dX7_take_32 ⟨Nat.le_of_ble_eq_true rfl, Nat.le_of_ble_eq_true rfl⟩) hS (fun q _ h => hFc q h) hFc (fun u_4 t H1 locs ht hvm hw hB hz1 hk1 hS => ?_)
    try dsimp only at hw
    obtain ⟨hP1, hK1, hD1⟩ := hB
    rw [ht] at hP1
    have hK1 := va_K.moved hvm.symm hK1
    have hK1 : va_K (dC, dI) vwCl [] s := hK1
    obtain ⟨hP, hD⟩ := va_join (wr := [(eO7a pa lx bk pfa pfp psk phe phr phs pop)]) (w1 := [(eO3a lx lby lfi lco lxe u_4.1 u_4.2.1 u_4.2.2.1 u_4.2.2.2.1 u_4.2.2.2.2), (eA0 lby cBy 900 fBy), (eA0 lco cCo 23 fCo)]) hP hD [1, 2, 3] [0] hCc rfl (by decide) (by decide) hk1 hFc hP1 hD1
    generalize H1 = H at hP hS ⊢
    obtain ⟨hP, hD⟩ := zre [(eO7a pa lx bk pfa pfp psk phe phr phs pop), (eO3a lx lby lfi lco lxe u_4.1 u_4.2.1 u_4.2.2.1 u_4.2.2.2.1 u_4.2.2.2.2), (eA0 lby cBy 900 fBy), (eA0 lco cCo 23 fCo)] hP hD rfl
    refine W.widen (k := 0) (n := 0) (by omega) (by omega) ?_
    obtain ⟨hw, hp_10⟩ := hw
    have hq_u_4 : u_4 = (fe_advance lxe lxa lxn lxl fBy fCo) := hw
    refine xs_size (fun hHz => ?_)
    refine vx_ret ?_
    refine W.widen (k := 1) (n := 6) (by omega) (by omega) ?_
    have hP9 := hP
    have hD9 := hD
    have hK9 := hK.sub (tys' := []) [] rfl
    exact W.vret hx hb hr (fun t ht hW => ⟨⟨(pfa, pfp, u_4.1, u_4.2.1, u_4.2.2.1, u_4.2.2.2.1, u_4.2.2.2.2), rfl, ⟨((fun e9 => ⟨by rw [e9], by rw [e9]⟩ : fp_take pfa pfp lxe lxa lxt lxp lxn lxl fBy fCo a0 = ((0 : Int32), pfa, pfp, u_4.1, u_4.2.1, u_4.2.2.1, u_4.2.2.2.1, u_4.2.2.2.2) → _) ((by rw [fp_take]; (try rw [if_pos c_1]); (try rw [← hq_u_4]); (try rw [xL_eq]); try rfl))), (gp_take_s1 (y0 := u_4.1) hp_10)⟩, ⟨by rw [ht]; exact hP9, va_K.moved hW.alike hK9, hD9⟩, by rw [ht]; first | exact hHz | exact hHz.trans (by rw [rH])⟩, hS.F ht⟩) hS.2.2 dX7_take_35
  · refine lv_iconst (v := 1) hx hb dX7_take_12 (by decide) ?_
    refine lv_goto (tgt := 17) hx hb dX7_take_13 (by decide) ?_
    refine lv_iconst (v := 1) hx hb dX7_take_17 (by decide) ?_
    refine lv_aload_n hx hb dX7_take_18 rfl (lv_at hl 0 rfl) ?_
    refine va_get (D := (dC, dI)) (ci := 7) (v := .ref lx) (C := RX7) (T := TX7) (N := 9) hx hb htw inlX7 hown hK hP 0 rfl rfl 0 (by decide) (htw _ (ck_3 _ (List.mem_of_getElem? (i := 5) rfl))) (fun _ h9 => h9) rfl dX7_take_19 ?_
    refine va_get (D := (dC, dI)) (ci := 3) (v := .int lxp) (C := RX3) (T := TX3) (N := 9) hx hb htw inlX3 hown hK hP 1 rfl rfl 6 (by decide) (htw _ (ck_15 _ (List.mem_of_getElem? (i := 13) rfl))) (fun _ h9 => h9) rfl dX7_take_22 ?_
    refine xs_size (fun hHz => ?_)
    obtain ⟨hPc, hDc, hFc, hCc⟩ := zsub3 (ws' := [(eO7a pa lx bk pfa pfp psk phe phr phs pop)]) hP hD hS hA [0] (by decide) rfl
    have hKc := hK.sub (tys' := []) [] rfl
    refine vx_callv (vx_runV (As := [.int 1, .int 1, .int lxp]) (rest := []) ⟨hx, hb, hml, hown, htw⟩ (gp_refT l hst dC dI pa lx bk pfa pfp psk phe phr phs pop (1 : Int32) (1 : Int32) lxp sL H.size (gp_take_s2 )) (cwV 3 htw (xg_V (ck_16 _ (List.mem_of_getElem? (i := 6) rfl)) (ck_16 _ (List.mem_of_getElem? (i := 7) rfl)) (ck_16 _ (List.mem_of_getElem? (i := 8) rfl)) (ck_1 _ (List.mem_of_getElem? (i := 16) rfl)) (ck_16 _ (List.mem_of_getElem? (i := 9) rfl))) rfl rfl rfl (by exact ⟨rfl, hdc_15.1, hdc_15.2, hdd_48⟩) ⟨Nat.le_of_ble_eq_true rfl, Nat.le_of_ble_eq_true rfl⟩) ⟨fun a U g mk q => by obtain ⟨q0, q1, qP, qK, qD, qx0⟩ := q; exact ⟨q0, q1, qP, va_K.moved (u := U) (U := U.calling g mk a) (Vm.Alike.refl U.vm) qK, qD, xl.calling qx0⟩, va_recv hKc hPc (ci := 7) (q0 := 0) rfl rfl, fun U hU hW => ⟨rfl, by rw [hU], by rw [hU]; exact hPc, va_K.moved hW.alike hKc, hDc.weaken (fun _ _ _ _ => trivial), by rw [hU]; exact xl.warm hW ((xl.kept hXL hS.2.1).narrow hFc)⟩⟩ rfl rfl hl.1 rfl (lv_room (Nat.le_of_ble_eq_true rfl)) dX7_take_25 ⟨Nat.le_of_ble_eq_true rfl, Nat.le_of_ble_eq_true rfl⟩) hS (fun q _ h => hFc q h) hFc (fun q _ h => hFc q h) (fun E ce q9 u_11 t H1 locs ht hvm hw hB hz1 hk1 hS hcell hcv hcl => ?_) (fun u_13 t H1 locs ht hvm hw hB hz1 hk1 hS => hw.elim)
    obtain ⟨hE9, hB⟩ := hB
    subst hE9
    obtain ⟨hP1, hK1, hD1⟩ := hB
    rw [ht] at hP1
    have hK1 := va_K.moved hvm.symm hK1
    have hK1 : va_K (dC, dI) vwCl [] s := hK1
    obtain ⟨hP, hD⟩ := va_join (wr := [(eO3a lx lby lfi lco lxe lxa lxt lxp lxn lxl), (eA0 lby cBy 900 fBy), (eA0 lco cCo 23 fCo)]) (w1 := [(eO7a pa lx bk 1 lxp psk phe phr phs pop)]) hP hD [0] [1, 2, 3] hCc rfl (by decide) (by decide) hk1 hFc hP1 hD1
    generalize H1 = H at hP hS hcell ⊢
    obtain ⟨hP, hD⟩ := zre [(eO3a lx lby lfi lco lxe lxa lxt lxp lxn lxl), (eA0 lby cBy 900 fBy), (eA0 lco cCo 23 fCo), (eO7a pa lx bk 1 lxp psk phe phr phs pop)] hP hD rfl
    obtain ⟨hP9, hD9⟩ := zsub2 (ws' := [(eO7a pa lx bk 1 lxp psk phe phr phs pop), (eO3a lx lby lfi lco lxe lxa lxt lxp lxn lxl), (eA0 lby cBy 900 fBy), (eA0 lco cCo 23 fCo)]) hP hD [3, 0, 1, 2] (by decide) rfl
    have hK9 := hK.sub (tys' := []) [] rfl
    exact vx_widen (k := 1) (n := 6) (Nat.le_of_ble_eq_true rfl) (Nat.le_of_ble_eq_true rfl) (vx_out (fun x h9 => (hex x h9).elim) hlocks hcell hcv hcl (fun t ht hal => ⟨(1, lxp, lxa, lxt, lxp, lxn, lxl), ((fun e9 => ⟨by rw [e9], by rw [e9]⟩ : fp_take pfa pfp lxe lxa lxt lxp lxn lxl fBy fCo a0 = ((1 : Int32), (1 : Int32), lxp, lxa, lxt, lxp, lxn, lxl) → _) ((by rw [fp_take]; (try rw [if_neg c_1]); try rfl))), ⟨rfl, by rw [ht]; exact hP9, va_K.moved hal hK9, hD9⟩, hS.F ht⟩) hS.2.2 (Nat.le_of_ble_eq_true rfl) (Nat.le_of_ble_eq_true rfl))

def fp_numberIn (pfa : Int32) (pfp : Int32) (lxe : Int32) (lxa : Int32) (lxt : Int32) (lxp : Int32) (lxn : Int32) (lxl : Int32) (fBy : Nat → Int32) (fCo : Nat → Int32) (a0 : Int32) (a1 : Int32) : Int32 × Int32 × (Int32) × (Int32) × (Int32) × (Int32) × (Int32) × (Int32) × (Int32) := (if lxt = 24 then (if lxn < a0 then ((1 : Int32), (0 : Int32), (2 : Int32), lxp, lxa, lxt, lxp, lxn, lxl) else (if lxn ≤ a1 then (xL ((fe_advance lxe lxa lxn lxl fBy fCo)) (fun u_10 => ((0 : Int32), lxn, pfa, pfp, u_10.1, u_10.2.1, u_10.2.2.1, u_10.2.2.2.1, u_10.2.2.2.2))) else ((1 : Int32), (0 : Int32), (2 : Int32), lxp, lxa, lxt, lxp, lxn, lxl))) else ((1 : Int32), (0 : Int32), (1 : Int32), lxp, lxa, lxt, lxp, lxn, lxl))
theorem gp_numberIn_s0  : (0 : Int32) = 0 := (by decide)
theorem gp_numberIn_s1  : ¬ ((1 : Int32) = 0) := (by decide)
theorem gp_numberIn_s2  : (0 : Int32) = 0 := (by decide)
theorem gp_numberIn_s3 {y0 : Int32} (h0 : ¬ (y0 < 0)) : ¬ (y0 < 0) := h0
theorem gp_numberIn_s4 {y0 : Int32} {y1 : Int32} {y2 : Int32} (h0 : ¬ (y0 < y1)) (h1 : y0 ≤ y2) : ¬ (y0 < y1) := h0
theorem gp_numberIn_s5 {y0 : Int32} {y1 : Int32} {y2 : Int32} (h0 : ¬ (y1 < y2)) (h1 : y1 ≤ y0) : ¬ (y0 < y1) := by lia
theorem gp_numberIn_s6  : ¬ ((1 : Int32) = 0) := (by decide)
theorem gp_numberIn_s7  : ¬ ((1 : Int32) = 0) := (by decide)
theorem dX7_numberIn_0 : decode cX7_numberIn 0 = .ok (.aload_n 0, 1) := zk_42 (by decide +kernel)
theorem dX7_numberIn_1 : decode cX7_numberIn 1 = .ok (.aload_n 0, 1) := zk_42 (by decide +kernel)
theorem dX7_numberIn_2 : decode cX7_numberIn 2 = .ok (.getfield 12, 3) := zk_180 (by decide +kernel)
theorem dX7_numberIn_5 : decode cX7_numberIn 5 = .ok (.getfield 50, 3) := zk_180 (by decide +kernel)
theorem dX7_numberIn_8 : decode cX7_numberIn 8 = .ok (.bipush 24, 2) := zk_16 (by decide +kernel)
theorem dX7_numberIn_10 : decode cX7_numberIn 10 = .ok (.if_icmp .eq 7, 3) := zk_159 (by decide +kernel)
theorem dX7_numberIn_17 : decode cX7_numberIn 17 = .ok (.iconst 0, 1) := zk_3 (by decide +kernel)
theorem dX7_numberIn_18 : decode cX7_numberIn 18 = .ok (.iconst 1, 1) := zk_4 (by decide +kernel)
theorem dX7_numberIn_19 : decode cX7_numberIn 19 = .ok (.aload_n 0, 1) := zk_42 (by decide +kernel)
theorem dX7_numberIn_20 : decode cX7_numberIn 20 = .ok (.getfield 12, 3) := zk_180 (by decide +kernel)
theorem dX7_numberIn_23 : decode cX7_numberIn 23 = .ok (.getfield 87, 3) := zk_180 (by decide +kernel)
theorem dX7_numberIn_26 : decode cX7_numberIn 26 = .ok (.invokevirtual 90, 3) := zk_182 (by decide +kernel)
theorem dX7_numberIn_29 : decode cX7_numberIn 29 = .ok (.aload_n 0, 1) := zk_42 (by decide +kernel)
theorem dX7_numberIn_30 : decode cX7_numberIn 30 = .ok (.aload_n 0, 1) := zk_42 (by decide +kernel)
theorem dX7_numberIn_31 : decode cX7_numberIn 31 = .ok (.getfield 12, 3) := zk_180 (by decide +kernel)
theorem dX7_numberIn_34 : decode cX7_numberIn 34 = .ok (.getfield 279, 3) := zk_180 (by decide +kernel)
theorem dX7_numberIn_37 : decode cX7_numberIn 37 = .ok (.iload_n 1, 1) := zk_27 (by decide +kernel)
theorem dX7_numberIn_38 : decode cX7_numberIn 38 = .ok (.if_icmp .lt 14, 3) := zk_161 (by decide +kernel)
theorem dX7_numberIn_52 : decode cX7_numberIn 52 = .ok (.iconst 1, 1) := zk_4 (by decide +kernel)
theorem dX7_numberIn_53 : decode cX7_numberIn 53 = .ok (.goto 4, 3) := zk_167 (by decide +kernel)
theorem dX7_numberIn_57 : decode cX7_numberIn 57 = .ok (.iconst 2, 1) := zk_5 (by decide +kernel)
theorem dX7_numberIn_58 : decode cX7_numberIn 58 = .ok (.aload_n 0, 1) := zk_42 (by decide +kernel)
theorem dX7_numberIn_59 : decode cX7_numberIn 59 = .ok (.getfield 12, 3) := zk_180 (by decide +kernel)
theorem dX7_numberIn_62 : decode cX7_numberIn 62 = .ok (.getfield 87, 3) := zk_180 (by decide +kernel)
theorem dX7_numberIn_65 : decode cX7_numberIn 65 = .ok (.invokevirtual 90, 3) := zk_182 (by decide +kernel)
theorem dX7_numberIn_41 : decode cX7_numberIn 41 = .ok (.aload_n 0, 1) := zk_42 (by decide +kernel)
theorem dX7_numberIn_42 : decode cX7_numberIn 42 = .ok (.getfield 12, 3) := zk_180 (by decide +kernel)
theorem dX7_numberIn_45 : decode cX7_numberIn 45 = .ok (.getfield 279, 3) := zk_180 (by decide +kernel)
theorem dX7_numberIn_48 : decode cX7_numberIn 48 = .ok (.iload_n 2, 1) := zk_28 (by decide +kernel)
theorem dX7_numberIn_49 : decode cX7_numberIn 49 = .ok (.if_icmp .le 7, 3) := zk_164 (by decide +kernel)
theorem dX7_numberIn_56 : decode cX7_numberIn 56 = .ok (.iconst 0, 1) := zk_3 (by decide +kernel)
theorem dX7_numberIn_68 : decode cX7_numberIn 68 = .ok (.aload_n 0, 1) := zk_42 (by decide +kernel)
theorem dX7_numberIn_69 : decode cX7_numberIn 69 = .ok (.getfield 12, 3) := zk_180 (by decide +kernel)
theorem dX7_numberIn_72 : decode cX7_numberIn 72 = .ok (.getfield 279, 3) := zk_180 (by decide +kernel)
theorem dX7_numberIn_75 : decode cX7_numberIn 75 = .ok (.istore_n 3, 1) := zk_62 (by decide +kernel)
theorem dX7_numberIn_76 : decode cX7_numberIn 76 = .ok (.aload_n 0, 1) := zk_42 (by decide +kernel)
theorem dX7_numberIn_77 : decode cX7_numberIn 77 = .ok (.getfield 12, 3) := zk_180 (by decide +kernel)
theorem dX7_numberIn_80 : decode cX7_numberIn 80 = .ok (.invokevirtual 123, 3) := zk_182 (by decide +kernel)
theorem dX7_numberIn_83 : decode cX7_numberIn 83 = .ok (.iload_n 3, 1) := zk_29 (by decide +kernel)
theorem dX7_numberIn_84 : decode cX7_numberIn 84 = .ok (.ireturn, 1) := zk_172 (by decide +kernel)
theorem dX7_numberIn_13 : decode cX7_numberIn 13 = .ok (.iconst 1, 1) := zk_4 (by decide +kernel)
theorem dX7_numberIn_14 : decode cX7_numberIn 14 = .ok (.goto 4, 3) := zk_167 (by decide +kernel)
set_option maxHeartbeats 4000000 in
set_option maxRecDepth 100000 in
theorem gp_numberIn (l : Launch) (hst : l.stackTraces = false) (dC : Nat → ClassId) (dI : Nat → Nat → Nat) (pa : Nat) (lx : Nat) (bk : Nat) (pfa : Int32) (pfp : Int32) (psk : Int32) (phe : Nat) (phr : Nat) (phs : Int32) (pop : Int32) (lby : Nat) (lfi : Int32) (lco : Nat) (lxe : Int32) (lxa : Int32) (lxt : Int32) (lxp : Int32) (lxn : Int32) (lxl : Int32) (cBy : ClassId) (fBy : Nat → Int32) (cCo : ClassId) (fCo : Nat → Int32) (a0 : Int32) (a1 : Int32) (sL : Nat → Nat) (sz : Nat) (h0_lxa : ¬ lxa < 0) (h9_lxe : lxe ≤ 900) : vx_Met l yX7_numberIn (Cond.code yX7_numberIn cX7_numberIn 4 (some .int) :: wsL_law) ({ frames := 7, cells := 1, slots := 6, locals := 105 }) (va_Pc [.ref pa, .int a0, .int a1] (fun U => U.heap.size = sz ∧ va_P (dC, dI) vwCl [(eO7a pa lx bk pfa pfp psk phe phr phs pop), (eO3a lx lby lfi lco lxe lxa lxt lxp lxn lxl), (eA0 lby cBy 900 fBy), (eA0 lco cCo 23 fCo)] U.heap ∧ va_K (dC, dI) vwCl [(cBy, .byte), (cCo, .int)] U ∧ va_D (fun _ => True) [(eO7a pa lx bk pfa pfp psk phe phr phs pop), (eO3a lx lby lfi lco lxe lxa lxt lxp lxn lxl), (eA0 lby cBy 900 fBy), (eA0 lco cCo 23 fCo)] ∧ xl sL (va_A [(eO7a pa lx bk pfa pfp psk phe phr phs pop), (eO3a lx lby lfi lco lxe lxa lxt lxp lxn lxl), (eA0 lby cBy 900 fBy), (eA0 lco cCo 23 fCo)] sz) U U.heap)) (va_Qi (fun (r : Int32) (u : (Int32) × (Int32) × (Int32) × (Int32) × (Int32) × (Int32) × (Int32)) => ((fp_numberIn pfa pfp lxe lxa lxt lxp lxn lxl fBy fCo a0 a1).1 = 0 ∧ r = (fp_numberIn pfa pfp lxe lxa lxt lxp lxn lxl fBy fCo a0 a1).2.1 ∧ u = (fp_numberIn pfa pfp lxe lxa lxt lxp lxn lxl fBy fCo a0 a1).2.2) ∧ (¬ u.2.2.1 < 0) ∧ (¬ r < a0) ∧ (¬ a1 < r)) (fun (u : (Int32) × (Int32) × (Int32) × (Int32) × (Int32) × (Int32) × (Int32)) t => (va_P (dC, dI) vwCl [(eO7a pa lx bk u.1 u.2.1 psk phe phr phs pop), (eO3a lx lby lfi lco lxe u.2.2.1 u.2.2.2.1 u.2.2.2.2.1 u.2.2.2.2.2.1 u.2.2.2.2.2.2), (eA0 lby cBy 900 fBy), (eA0 lco cCo 23 fCo)] t.heap ∧ va_K (dC, dI) vwCl [] t ∧ va_D (va_A [(eO7a pa lx bk pfa pfp psk phe phr phs pop), (eO3a lx lby lfi lco lxe lxa lxt lxp lxn lxl), (eA0 lby cBy 900 fBy), (eA0 lco cCo 23 fCo)] sz) [(eO7a pa lx bk u.1 u.2.1 psk phe phr phs pop), (eO3a lx lby lfi lco lxe u.2.2.1 u.2.2.2.1 u.2.2.2.2.1 u.2.2.2.2.2.1 u.2.2.2.2.2.2), (eA0 lby cBy 900 fBy), (eA0 lco cCo 23 fCo)]) ∧ t.heap.size = sz) (va_A [(eO7a pa lx bk pfa pfp psk phe phr phs pop), (eO3a lx lby lfi lco lxe lxa lxt lxp lxn lxl), (eA0 lby cBy 900 fBy), (eA0 lco cCo 23 fCo)] sz)) (vx_X (fun (u : (Int32) × (Int32) × (Int32) × (Int32) × (Int32) × (Int32) × (Int32)) => (fp_numberIn pfa pfp lxe lxa lxt lxp lxn lxl fBy fCo a0 a1).1 = 1 ∧ u = (fp_numberIn pfa pfp lxe lxa lxt lxp lxn lxl fBy fCo a0 a1).2.2) (fun (E : String) (u : (Int32) × (Int32) × (Int32) × (Int32) × (Int32) × (Int32) × (Int32)) (t : State) => E = "java/lang/IllegalStateException" ∧ va_P (dC, dI) vwCl [(eO7a pa lx bk u.1 u.2.1 psk phe phr phs pop), (eO3a lx lby lfi lco lxe u.2.2.1 u.2.2.2.1 u.2.2.2.2.1 u.2.2.2.2.2.1 u.2.2.2.2.2.2), (eA0 lby cBy 900 fBy), (eA0 lco cCo 23 fCo)] t.heap ∧ va_K (dC, dI) vwCl [] t ∧ va_D (va_A [(eO7a pa lx bk pfa pfp psk phe phr phs pop), (eO3a lx lby lfi lco lxe lxa lxt lxp lxn lxl), (eA0 lby cBy 900 fBy), (eA0 lco cCo 23 fCo)] sz) [(eO7a pa lx bk u.1 u.2.1 psk phe phr phs pop), (eO3a lx lby lfi lco lxe u.2.2.1 u.2.2.2.1 u.2.2.2.2.1 u.2.2.2.2.2.1 u.2.2.2.2.2.2), (eA0 lby cBy 900 fBy), (eA0 lco cCo 23 fCo)]) (va_A [(eO7a pa lx bk pfa pfp psk phe phr phs pop), (eO3a lx lby lfi lco lxe lxa lxt lxp lxn lxl), (eA0 lby cBy 900 fBy), (eA0 lco cCo 23 fCo)] sz)) 1 6 (va_A [(eO7a pa lx bk pfa pfp psk phe phr phs pop), (eO3a lx lby lfi lco lxe lxa lxt lxp lxn lxl), (eA0 lby cBy 900 fBy), (eA0 lco cCo 23 fCo)] sz) := by
  refine vx_ofW (cc := cX7_numberIn) (maxL := 4) (ret := (some .int)) (by decide) rfl ?_
  intro p e s m args below meth c s₁ B hml hex hv
  obtain ⟨rfl, hsz, hP, hK, hD0, hXL⟩ := hv
  have hx := B.exec
  have hb := B.bytes
  have hr := B.returns
  have hts := atoms_spec (ws := Cond.code yX7_numberIn cX7_numberIn 4 (some .int) :: wsL_law) B.pre
  have htw : ∀ w ∈ wsL_law, w.before _ s = true := fun w h => hts w (List.mem_cons_of_mem _ h)
  have hown : s.vm.findClass RX7 = some m.cls := findClass_of_methodNamed B.named
  have hlocks := B.notSynchronized
  subst hsz
  have hD := hD0.self (sz := s.heap.size)
  generalize hAe : va_A [(eO7a pa lx bk pfa pfp psk phe phr phs pop), (eO3a lx lby lfi lco lxe lxa lxt lxp lxn lxl), (eA0 lby cBy 900 fBy), (eA0 lco cCo 23 fCo)] s.heap.size = A at hD hXL ⊢
  have hA : ∀ q : Nat, s.heap.size ≤ q → A q := fun q h => by rw [← hAe]; exact Or.inr h
  obtain ⟨H, rH⟩ : ∃ z : Heap, z = s.heap := ⟨_, rfl⟩
  have hS : va_S A s.heap H [] := by rw [rH]; exact va_S.rf
  have hP : va_P (dC, dI) vwCl [(eO7a pa lx bk pfa pfp psk phe phr phs pop), (eO3a lx lby lfi lco lxe lxa lxt lxp lxn lxl), (eA0 lby cBy 900 fBy), (eA0 lco cCo 23 fCo)] H := by rw [rH]; exact hP
  rw [← rH]
  have hl := lv_entry ([.ref pa, .int a0, .int a1]) (n := 4) (Nat.le_of_ble_eq_true rfl)
  rw [lg_entry_eq]
  generalize (lg_sl ([.ref pa, .int a0, .int a1]) ++ List.replicate (4 - (lg_sl ([.ref pa, .int a0, .int a1])).length) Slot.unset).toArray = ls at hl ⊢
  have hl : lv_has ls 4 [(0, .ref pa), (1, .int a0), (2, .int a1)] := hl
  refine lv_aload_n hx hb dX7_numberIn_0 rfl (lv_at hl 0 rfl) ?_
  refine lv_aload_n hx hb dX7_numberIn_1 rfl (lv_at hl 0 rfl) ?_
  refine va_get (D := (dC, dI)) (ci := 7) (v := .ref lx) (C := RX7) (T := TX7) (N := 9) hx hb htw inlX7 hown hK hP 0 rfl rfl 0 (by decide) (htw _ (ck_3 _ (List.mem_of_getElem? (i := 5) rfl))) (fun _ h9 => h9) rfl dX7_numberIn_2 ?_
  refine va_get (D := (dC, dI)) (ci := 3) (v := .int lxt) (C := RX3) (T := TX3) (N := 9) hx hb htw inlX3 hown hK hP 1 rfl rfl 5 (by decide) (htw _ (ck_13 _ (List.mem_of_getElem? (i := 9) rfl))) (fun _ h9 => h9) rfl dX7_numberIn_5 ?_
  refine lv_bipush (v := 24) hx hb dX7_numberIn_8 (by decide) ?_
  refine lv_icmp_eq (tgt := 17) hx hb dX7_numberIn_10 (by decide) (fun c_1 => ?_) (fun c_1 => ?_)
  · refine lv_iconst (v := 0) hx hb dX7_numberIn_17 (by decide) ?_
    refine lv_iconst (v := 1) hx hb dX7_numberIn_18 (by decide) ?_
    refine lv_aload_n hx hb dX7_numberIn_19 rfl (lv_at hl 0 rfl) ?_
    refine va_get (D := (dC, dI)) (ci := 7) (v := .ref lx) (C := RX7) (T := TX7) (N := 9) hx hb htw inlX7 hown hK hP 0 rfl rfl 0 (by decide) (htw _ (ck_3 _ (List.mem_of_getElem? (i := 5) rfl))) (fun _ h9 => h9) rfl dX7_numberIn_20 ?_
    refine va_get (D := (dC, dI)) (ci := 3) (v := .int lxp) (C := RX3) (T := TX3) (N := 9) hx hb htw inlX3 hown hK hP 1 rfl rfl 6 (by decide) (htw _ (ck_15 _ (List.mem_of_getElem? (i := 13) rfl))) (fun _ h9 => h9) rfl dX7_numberIn_23 ?_
    have hPc := hP.sub (ws' := []) [] rfl
    have hKc := hK.sub (tys' := []) [] rfl
    refine va_csv (W.runV (As := [.int 0, .int 1, .int lxp]) (rest := []) ⟨hx, hb, hml, hown, htw⟩ (gp_ref0 l dC dI (0 : Int32) (1 : Int32) lxp pa (gp_numberIn_s0 )) (cwV 3 htw (xg_V (ck_16 _ (List.mem_of_getElem? (i := 6) rfl)) (ck_16 _ (List.mem_of_getElem? (i := 7) rfl)) (ck_16 _ (List.mem_of_getElem? (i := 8) rfl)) (ck_1 _ (List.mem_of_getElem? (i := 16) rfl)) (ck_16 _ (List.mem_of_getElem? (i := 9) rfl))) rfl rfl rfl (by exact ⟨rfl, hdc_15.1, hdc_15.2, hdd_48⟩) ⟨Nat.le_of_ble_eq_true rfl, Nat.le_of_ble_eq_true rfl⟩) ⟨fun a U g mk q => by obtain ⟨q0, qP, qK⟩ := q; exact ⟨q0, qP, va_K.moved (u := U) (U := U.calling g mk a) (Vm.Alike.refl U.vm) qK⟩, va_recv hK hP (ci := 7) (q0 := 0) rfl rfl, fun U hU hW => ⟨rfl, by rw [hU]; exact hPc, va_K.moved hW.alike hKc⟩⟩ rfl rfl hl.1 rfl (lv_room (Nat.le_of_ble_eq_true rfl)) dX7_numberIn_26 ⟨Nat.le_of_ble_eq_true rfl, Nat.le_of_ble_eq_true rfl⟩) (fun hw => ?_)
    try dsimp only at hw
    refine lv_aload_n hx hb dX7_numberIn_29 rfl (lv_at hl 0 rfl) ?_
    refine lv_aload_n hx hb dX7_numberIn_30 rfl (lv_at hl 0 rfl) ?_
    refine va_get (D := (dC, dI)) (ci := 7) (v := .ref lx) (C := RX7) (T := TX7) (N := 9) hx hb htw inlX7 hown hK hP 0 rfl rfl 0 (by decide) (htw _ (ck_3 _ (List.mem_of_getElem? (i := 5) rfl))) (fun _ h9 => h9) rfl dX7_numberIn_31 ?_
    refine va_get (D := (dC, dI)) (ci := 3) (v := .int lxn) (C := RX3) (T := TX3) (N := 9) hx hb htw inlX3 hown hK hP 1 rfl rfl 7 (by decide) (htw _ (ck_16 _ (List.mem_of_getElem? (i := 20) rfl))) (fun _ h9 => h9) rfl dX7_numberIn_34 ?_
    refine lv_iload_n hx hb dX7_numberIn_37 rfl (lv_at hl 1 rfl) ?_
    refine lv_icmp_lt (tgt := 52) hx hb dX7_numberIn_38 (by decide) (fun c_3 => ?_) (fun c_3 => ?_)
    · refine lv_iconst (v := 1) hx hb dX7_numberIn_52 (by decide) ?_
      refine lv_goto (tgt := 57) hx hb dX7_numberIn_53 (by decide) ?_
      refine lv_iconst (v := 2) hx hb dX7_numberIn_57 (by decide) ?_
      refine lv_aload_n hx hb dX7_numberIn_58 rfl (lv_at hl 0 rfl) ?_
      refine va_get (D := (dC, dI)) (ci := 7) (v := .ref lx) (C := RX7) (T := TX7) (N := 9) hx hb htw inlX7 hown hK hP 0 rfl rfl 0 (by decide) (htw _ (ck_3 _ (List.mem_of_getElem? (i := 5) rfl))) (fun _ h9 => h9) rfl dX7_numberIn_59 ?_
      refine va_get (D := (dC, dI)) (ci := 3) (v := .int lxp) (C := RX3) (T := TX3) (N := 9) hx hb htw inlX3 hown hK hP 1 rfl rfl 6 (by decide) (htw _ (ck_15 _ (List.mem_of_getElem? (i := 13) rfl))) (fun _ h9 => h9) rfl dX7_numberIn_62 ?_
      refine xs_size (fun hHz => ?_)
      obtain ⟨hPc, hDc, hFc, hCc⟩ := zsub3 (ws' := [(eO7a pa lx bk pfa pfp psk phe phr phs pop)]) hP hD hS hA [0] (by decide) rfl
      have hKc := hK.sub (tys' := []) [] rfl
      refine vx_callv (vx_runV (As := [.int 1, .int 2, .int lxp]) (rest := []) ⟨hx, hb, hml, hown, htw⟩ (gp_refT l hst dC dI pa lx bk pfa pfp psk phe phr phs pop (1 : Int32) (2 : Int32) lxp sL H.size (gp_numberIn_s1 )) (cwV 3 htw (xg_V (ck_16 _ (List.mem_of_getElem? (i := 6) rfl)) (ck_16 _ (List.mem_of_getElem? (i := 7) rfl)) (ck_16 _ (List.mem_of_getElem? (i := 8) rfl)) (ck_1 _ (List.mem_of_getElem? (i := 16) rfl)) (ck_16 _ (List.mem_of_getElem? (i := 9) rfl))) rfl rfl rfl (by exact ⟨rfl, hdc_15.1, hdc_15.2, hdd_48⟩) ⟨Nat.le_of_ble_eq_true rfl, Nat.le_of_ble_eq_true rfl⟩) ⟨fun a U g mk q => by obtain ⟨q0, q1, qP, qK, qD, qx0⟩ := q; exact ⟨q0, q1, qP, va_K.moved (u := U) (U := U.calling g mk a) (Vm.Alike.refl U.vm) qK, qD, xl.calling qx0⟩, va_recv hKc hPc (ci := 7) (q0 := 0) rfl rfl, fun U hU hW => ⟨rfl, by rw [hU], by rw [hU]; exact hPc, va_K.moved hW.alike hKc, hDc.weaken (fun _ _ _ _ => trivial), by rw [hU]; exact xl.warm hW ((xl.kept hXL hS.2.1).narrow hFc)⟩⟩ rfl rfl hl.1 rfl (lv_room (Nat.le_of_ble_eq_true rfl)) dX7_numberIn_65 ⟨Nat.le_of_ble_eq_true rfl, Nat.le_of_ble_eq_true rfl⟩) hS (fun q _ h => hFc q h) hFc (fun q _ h => hFc q h) (fun E ce q9 u_4 t H1 locs ht hvm hw hB hz1 hk1 hS hcell hcv hcl => ?_) (fun u_6 t H1 locs ht hvm hw hB hz1 hk1 hS => hw.elim)
      obtain ⟨hE9, hB⟩ := hB
      subst hE9
      obtain ⟨hP1, hK1, hD1⟩ := hB
      rw [ht] at hP1
      have hK1 := va_K.moved hvm.symm hK1
      have hK1 : va_K (dC, dI) vwCl [] s := hK1
      obtain ⟨hP, hD⟩ := va_join (wr := [(eO3a lx lby lfi lco lxe lxa lxt lxp lxn lxl), (eA0 lby cBy 900 fBy), (eA0 lco cCo 23 fCo)]) (w1 := [(eO7a pa lx bk 2 lxp psk phe phr phs pop)]) hP hD [0] [1, 2, 3] hCc rfl (by decide) (by decide) hk1 hFc hP1 hD1
      generalize H1 = H at hP hS hcell ⊢
      obtain ⟨hP, hD⟩ := zre [(eO3a lx lby lfi lco lxe lxa lxt lxp lxn lxl), (eA0 lby cBy 900 fBy), (eA0 lco cCo 23 fCo), (eO7a pa lx bk 2 lxp psk phe phr phs pop)] hP hD rfl
      obtain ⟨hP9, hD9⟩ := zsub2 (ws' := [(eO7a pa lx bk 2 lxp psk phe phr phs pop), (eO3a lx lby lfi lco lxe lxa lxt lxp lxn lxl), (eA0 lby cBy 900 fBy), (eA0 lco cCo 23 fCo)]) hP hD [3, 0, 1, 2] (by decide) rfl
      have hK9 := hK.sub (tys' := []) [] rfl
      exact vx_widen (k := 1) (n := 6) (Nat.le_of_ble_eq_true rfl) (Nat.le_of_ble_eq_true rfl) (vx_out (fun x h9 => (hex x h9).elim) hlocks hcell hcv hcl (fun t ht hal => ⟨(2, lxp, lxa, lxt, lxp, lxn, lxl), ((fun e9 => ⟨by rw [e9], by rw [e9]⟩ : fp_numberIn pfa pfp lxe lxa lxt lxp lxn lxl fBy fCo a0 a1 = ((1 : Int32), (0 : Int32), (2 : Int32), lxp, lxa, lxt, lxp, lxn, lxl) → _) ((by rw [fp_numberIn]; (try rw [if_pos c_1]); (try rw [if_pos c_3]); try rfl))), ⟨rfl, by rw [ht]; exact hP9, va_K.moved hal hK9, hD9⟩, hS.F ht⟩) hS.2.2 (Nat.le_of_ble_eq_true rfl) (Nat.le_of_ble_eq_true rfl))
    · refine lv_aload_n hx hb dX7_numberIn_41 rfl (lv_at hl 0 rfl) ?_
      refine va_get (D := (dC, dI)) (ci := 7) (v := .ref lx) (C := RX7) (T := TX7) (N := 9) hx hb htw inlX7 hown hK hP 0 rfl rfl 0 (by decide) (htw _ (ck_3 _ (List.mem_of_getElem? (i := 5) rfl))) (fun _ h9 => h9) rfl dX7_numberIn_42 ?_
      refine va_get (D := (dC, dI)) (ci := 3) (v := .int lxn) (C := RX3) (T := TX3) (N := 9) hx hb htw inlX3 hown hK hP 1 rfl rfl 7 (by decide) (htw _ (ck_16 _ (List.mem_of_getElem? (i := 20) rfl))) (fun _ h9 => h9) rfl dX7_numberIn_45 ?_
      refine lv_iload_n hx hb dX7_numberIn_48 rfl (lv_at hl 2 rfl) ?_
      refine lv_icmp_le (tgt := 56) hx hb dX7_numberIn_49 (by decide) (fun c_7 => ?_) (fun c_7 => ?_)
      · refine lv_iconst (v := 0) hx hb dX7_numberIn_56 (by decide) ?_
        refine lv_iconst (v := 2) hx hb dX7_numberIn_57 (by decide) ?_
        refine lv_aload_n hx hb dX7_numberIn_58 rfl (lv_at hl 0 rfl) ?_
        refine va_get (D := (dC, dI)) (ci := 7) (v := .ref lx) (C := RX7) (T := TX7) (N := 9) hx hb htw inlX7 hown hK hP 0 rfl rfl 0 (by decide) (htw _ (ck_3 _ (List.mem_of_getElem? (i := 5) rfl))) (fun _ h9 => h9) rfl dX7_numberIn_59 ?_
        refine va_get (D := (dC, dI)) (ci := 3) (v := .int lxp) (C := RX3) (T := TX3) (N := 9) hx hb htw inlX3 hown hK hP 1 rfl rfl 6 (by decide) (htw _ (ck_15 _ (List.mem_of_getElem? (i := 13) rfl))) (fun _ h9 => h9) rfl dX7_numberIn_62 ?_
        have hPc := hP.sub (ws' := []) [] rfl
        have hKc := hK.sub (tys' := []) [] rfl
        refine va_csv (W.runV (As := [.int 0, .int 2, .int lxp]) (rest := []) ⟨hx, hb, hml, hown, htw⟩ (gp_ref0 l dC dI (0 : Int32) (2 : Int32) lxp pa (gp_numberIn_s2 )) (cwV 3 htw (xg_V (ck_16 _ (List.mem_of_getElem? (i := 6) rfl)) (ck_16 _ (List.mem_of_getElem? (i := 7) rfl)) (ck_16 _ (List.mem_of_getElem? (i := 8) rfl)) (ck_1 _ (List.mem_of_getElem? (i := 16) rfl)) (ck_16 _ (List.mem_of_getElem? (i := 9) rfl))) rfl rfl rfl (by exact ⟨rfl, hdc_15.1, hdc_15.2, hdd_48⟩) ⟨Nat.le_of_ble_eq_true rfl, Nat.le_of_ble_eq_true rfl⟩) ⟨fun a U g mk q => by obtain ⟨q0, qP, qK⟩ := q; exact ⟨q0, qP, va_K.moved (u := U) (U := U.calling g mk a) (Vm.Alike.refl U.vm) qK⟩, va_recv hK hP (ci := 7) (q0 := 0) rfl rfl, fun U hU hW => ⟨rfl, by rw [hU]; exact hPc, va_K.moved hW.alike hKc⟩⟩ rfl rfl hl.1 rfl (lv_room (Nat.le_of_ble_eq_true rfl)) dX7_numberIn_65 ⟨Nat.le_of_ble_eq_true rfl, Nat.le_of_ble_eq_true rfl⟩) (fun hw => ?_)
        try dsimp only at hw
        refine lv_aload_n hx hb dX7_numberIn_68 rfl (lv_at hl 0 rfl) ?_
        refine va_get (D := (dC, dI)) (ci := 7) (v := .ref lx) (C := RX7) (T := TX7) (N := 9) hx hb htw inlX7 hown hK hP 0 rfl rfl 0 (by decide) (htw _ (ck_3 _ (List.mem_of_getElem? (i := 5) rfl))) (fun _ h9 => h9) rfl dX7_numberIn_69 ?_
        refine va_get (D := (dC, dI)) (ci := 3) (v := .int lxn) (C := RX3) (T := TX3) (N := 9) hx hb htw inlX3 hown hK hP 1 rfl rfl 7 (by decide) (htw _ (ck_16 _ (List.mem_of_getElem? (i := 20) rfl))) (fun _ h9 => h9) rfl dX7_numberIn_72 ?_
        refine lv_istore_n (lv' := [(3, .int lxn), (0, .ref pa), (1, .int a0), (2, .int a1)]) hx hb dX7_numberIn_75 rfl hl (by decide) rfl (fun ls hl => ?_)
        refine lv_aload_n hx hb dX7_numberIn_76 rfl (lv_at hl 1 rfl) ?_
        refine va_get (D := (dC, dI)) (ci := 7) (v := .ref lx) (C := RX7) (T := TX7) (N := 9) hx hb htw inlX7 hown hK hP 0 rfl rfl 0 (by decide) (htw _ (ck_3 _ (List.mem_of_getElem? (i := 5) rfl))) (fun _ h9 => h9) rfl dX7_numberIn_77 ?_
        obtain ⟨hPc, hDc, hFc, hCc⟩ := zsub3 (ws' := [(eO3a lx lby lfi lco lxe lxa lxt lxp lxn lxl), (eA0 lby cBy 900 fBy), (eA0 lco cCo 23 fCo)]) hP hD hS hA [1, 2, 3] (by decide) rfl
        have hKc := hK.sub (tys' := [(cBy, .byte), (cCo, .int)]) [0, 1] rfl
        refine va_callv (va_runV (As := []) (rest := []) ⟨hx, hb, hml, hown, htw⟩ (gz_advance l dC dI lx lby lfi lco lxe lxa lxt lxp lxn lxl cBy fBy cCo fCo H.size h0_lxa h9_lxe) (cwV 0 htw (xg_V (ck_16 _ (List.mem_of_getElem? (i := 11) rfl)) (ck_14 _ (List.mem_of_getElem? (i := 13) rfl)) (ck_14 _ (List.mem_of_getElem? (i := 14) rfl)) (ck_3 _ (List.mem_of_getElem? (i := 4) rfl)) (ck_14 _ (List.mem_of_getElem? (i := 15) rfl))) rfl rfl rfl (by exact ⟨rfl, hdc_4.1, hdc_4.2, hdd_13⟩) ⟨Nat.le_of_ble_eq_true rfl, Nat.le_of_ble_eq_true rfl⟩) ⟨fun a U g mk q => by obtain ⟨q0, q1, qP, qK, qD⟩ := q; exact ⟨q0, q1, qP, va_K.moved (u := U) (U := U.calling g mk a) (Vm.Alike.refl U.vm) qK, qD⟩, va_recv hKc hPc (ci := 3) (q0 := 0) rfl rfl, fun U hU hW => ⟨rfl, by rw [hU], by rw [hU]; exact hPc, va_K.moved hW.alike hKc, hDc.weaken (fun _ _ _ _ => trivial)⟩⟩ rfl rfl hl.1 rfl (lv_room (Nat.le_of_ble_eq_true rfl)) dX7_numberIn_80 ⟨Nat.le_of_ble_eq_true rfl, Nat.le_of_ble_eq_true rfl⟩) hS (fun q _ h => hFc q h) hFc (fun u_10 t H1 locs ht hvm hw hB hz1 hk1 hS => ?_)
        try dsimp only at hw
        obtain ⟨hP1, hK1, hD1⟩ := hB
        rw [ht] at hP1
        have hK1 := va_K.moved hvm.symm hK1
        have hK1 : va_K (dC, dI) vwCl [] s := hK1
        obtain ⟨hP, hD⟩ := va_join (wr := [(eO7a pa lx bk pfa pfp psk phe phr phs pop)]) (w1 := [(eO3a lx lby lfi lco lxe u_10.1 u_10.2.1 u_10.2.2.1 u_10.2.2.2.1 u_10.2.2.2.2), (eA0 lby cBy 900 fBy), (eA0 lco cCo 23 fCo)]) hP hD [1, 2, 3] [0] hCc rfl (by decide) (by decide) hk1 hFc hP1 hD1
        generalize H1 = H at hP hS ⊢
        obtain ⟨hP, hD⟩ := zre [(eO7a pa lx bk pfa pfp psk phe phr phs pop), (eO3a lx lby lfi lco lxe u_10.1 u_10.2.1 u_10.2.2.1 u_10.2.2.2.1 u_10.2.2.2.2), (eA0 lby cBy 900 fBy), (eA0 lco cCo 23 fCo)] hP hD rfl
        refine W.widen (k := 0) (n := 0) (by omega) (by omega) ?_
        obtain ⟨hw, hp_16⟩ := hw
        have hq_u_10 : u_10 = (fe_advance lxe lxa lxn lxl fBy fCo) := hw
        refine lv_iload_n hx hb dX7_numberIn_83 rfl (lv_at hl 0 rfl) ?_
        refine xs_size (fun hHz => ?_)
        refine vx_ret ?_
        refine W.widen (k := 1) (n := 6) (by omega) (by omega) ?_
        have hP9 := hP
        have hD9 := hD
        have hK9 := hK.sub (tys' := []) [] rfl
        exact W.iret (v := lxn) hx hb hr (fun t ht hW => ⟨⟨lxn, (pfa, pfp, u_10.1, u_10.2.1, u_10.2.2.1, u_10.2.2.2.1, u_10.2.2.2.2), rfl, ⟨((fun e9 => ⟨by rw [e9], by rw [e9], by rw [e9]⟩ : fp_numberIn pfa pfp lxe lxa lxt lxp lxn lxl fBy fCo a0 a1 = ((0 : Int32), lxn, pfa, pfp, u_10.1, u_10.2.1, u_10.2.2.1, u_10.2.2.2.1, u_10.2.2.2.2) → _) ((by rw [fp_numberIn]; (try rw [if_pos c_1]); (try rw [if_neg c_3]); (try rw [if_pos c_7]); (try rw [← hq_u_10]); (try rw [xL_eq]); try rfl))), (gp_numberIn_s3 (y0 := u_10.1) hp_16), (gp_numberIn_s4 (y0 := lxn) (y1 := a0) (y2 := a1) c_3 c_7), (gp_numberIn_s5 (y0 := a1) (y1 := lxn) (y2 := a0) c_3 c_7)⟩, ⟨by rw [ht]; exact hP9, va_K.moved hW.alike hK9, hD9⟩, by rw [ht]; first | exact hHz | exact hHz.trans (by rw [rH])⟩, hS.F ht⟩) hS.2.2 dX7_numberIn_84
      · refine lv_iconst (v := 1) hx hb dX7_numberIn_52 (by decide) ?_
        refine lv_goto (tgt := 57) hx hb dX7_numberIn_53 (by decide) ?_
        refine lv_iconst (v := 2) hx hb dX7_numberIn_57 (by decide) ?_
        refine lv_aload_n hx hb dX7_numberIn_58 rfl (lv_at hl 0 rfl) ?_
        refine va_get (D := (dC, dI)) (ci := 7) (v := .ref lx) (C := RX7) (T := TX7) (N := 9) hx hb htw inlX7 hown hK hP 0 rfl rfl 0 (by decide) (htw _ (ck_3 _ (List.mem_of_getElem? (i := 5) rfl))) (fun _ h9 => h9) rfl dX7_numberIn_59 ?_
        refine va_get (D := (dC, dI)) (ci := 3) (v := .int lxp) (C := RX3) (T := TX3) (N := 9) hx hb htw inlX3 hown hK hP 1 rfl rfl 6 (by decide) (htw _ (ck_15 _ (List.mem_of_getElem? (i := 13) rfl))) (fun _ h9 => h9) rfl dX7_numberIn_62 ?_
        refine xs_size (fun hHz => ?_)
        obtain ⟨hPc, hDc, hFc, hCc⟩ := zsub3 (ws' := [(eO7a pa lx bk pfa pfp psk phe phr phs pop)]) hP hD hS hA [0] (by decide) rfl
        have hKc := hK.sub (tys' := []) [] rfl
        refine vx_callv (vx_runV (As := [.int 1, .int 2, .int lxp]) (rest := []) ⟨hx, hb, hml, hown, htw⟩ (gp_refT l hst dC dI pa lx bk pfa pfp psk phe phr phs pop (1 : Int32) (2 : Int32) lxp sL H.size (gp_numberIn_s6 )) (cwV 3 htw (xg_V (ck_16 _ (List.mem_of_getElem? (i := 6) rfl)) (ck_16 _ (List.mem_of_getElem? (i := 7) rfl)) (ck_16 _ (List.mem_of_getElem? (i := 8) rfl)) (ck_1 _ (List.mem_of_getElem? (i := 16) rfl)) (ck_16 _ (List.mem_of_getElem? (i := 9) rfl))) rfl rfl rfl (by exact ⟨rfl, hdc_15.1, hdc_15.2, hdd_48⟩) ⟨Nat.le_of_ble_eq_true rfl, Nat.le_of_ble_eq_true rfl⟩) ⟨fun a U g mk q => by obtain ⟨q0, q1, qP, qK, qD, qx0⟩ := q; exact ⟨q0, q1, qP, va_K.moved (u := U) (U := U.calling g mk a) (Vm.Alike.refl U.vm) qK, qD, xl.calling qx0⟩, va_recv hKc hPc (ci := 7) (q0 := 0) rfl rfl, fun U hU hW => ⟨rfl, by rw [hU], by rw [hU]; exact hPc, va_K.moved hW.alike hKc, hDc.weaken (fun _ _ _ _ => trivial), by rw [hU]; exact xl.warm hW ((xl.kept hXL hS.2.1).narrow hFc)⟩⟩ rfl rfl hl.1 rfl (lv_room (Nat.le_of_ble_eq_true rfl)) dX7_numberIn_65 ⟨Nat.le_of_ble_eq_true rfl, Nat.le_of_ble_eq_true rfl⟩) hS (fun q _ h => hFc q h) hFc (fun q _ h => hFc q h) (fun E ce q9 u_17 t H1 locs ht hvm hw hB hz1 hk1 hS hcell hcv hcl => ?_) (fun u_19 t H1 locs ht hvm hw hB hz1 hk1 hS => hw.elim)
        obtain ⟨hE9, hB⟩ := hB
        subst hE9
        obtain ⟨hP1, hK1, hD1⟩ := hB
        rw [ht] at hP1
        have hK1 := va_K.moved hvm.symm hK1
        have hK1 : va_K (dC, dI) vwCl [] s := hK1
        obtain ⟨hP, hD⟩ := va_join (wr := [(eO3a lx lby lfi lco lxe lxa lxt lxp lxn lxl), (eA0 lby cBy 900 fBy), (eA0 lco cCo 23 fCo)]) (w1 := [(eO7a pa lx bk 2 lxp psk phe phr phs pop)]) hP hD [0] [1, 2, 3] hCc rfl (by decide) (by decide) hk1 hFc hP1 hD1
        generalize H1 = H at hP hS hcell ⊢
        obtain ⟨hP, hD⟩ := zre [(eO3a lx lby lfi lco lxe lxa lxt lxp lxn lxl), (eA0 lby cBy 900 fBy), (eA0 lco cCo 23 fCo), (eO7a pa lx bk 2 lxp psk phe phr phs pop)] hP hD rfl
        obtain ⟨hP9, hD9⟩ := zsub2 (ws' := [(eO7a pa lx bk 2 lxp psk phe phr phs pop), (eO3a lx lby lfi lco lxe lxa lxt lxp lxn lxl), (eA0 lby cBy 900 fBy), (eA0 lco cCo 23 fCo)]) hP hD [3, 0, 1, 2] (by decide) rfl
        have hK9 := hK.sub (tys' := []) [] rfl
        exact vx_widen (k := 1) (n := 6) (Nat.le_of_ble_eq_true rfl) (Nat.le_of_ble_eq_true rfl) (vx_out (fun x h9 => (hex x h9).elim) hlocks hcell hcv hcl (fun t ht hal => ⟨(2, lxp, lxa, lxt, lxp, lxn, lxl), ((fun e9 => ⟨by rw [e9], by rw [e9]⟩ : fp_numberIn pfa pfp lxe lxa lxt lxp lxn lxl fBy fCo a0 a1 = ((1 : Int32), (0 : Int32), (2 : Int32), lxp, lxa, lxt, lxp, lxn, lxl) → _) ((by rw [fp_numberIn]; (try rw [if_pos c_1]); (try rw [if_neg c_3]); (try rw [if_neg c_7]); try rfl))), ⟨rfl, by rw [ht]; exact hP9, va_K.moved hal hK9, hD9⟩, hS.F ht⟩) hS.2.2 (Nat.le_of_ble_eq_true rfl) (Nat.le_of_ble_eq_true rfl))
  · refine lv_iconst (v := 1) hx hb dX7_numberIn_13 (by decide) ?_
    refine lv_goto (tgt := 18) hx hb dX7_numberIn_14 (by decide) ?_
    refine lv_iconst (v := 1) hx hb dX7_numberIn_18 (by decide) ?_
    refine lv_aload_n hx hb dX7_numberIn_19 rfl (lv_at hl 0 rfl) ?_
    refine va_get (D := (dC, dI)) (ci := 7) (v := .ref lx) (C := RX7) (T := TX7) (N := 9) hx hb htw inlX7 hown hK hP 0 rfl rfl 0 (by decide) (htw _ (ck_3 _ (List.mem_of_getElem? (i := 5) rfl))) (fun _ h9 => h9) rfl dX7_numberIn_20 ?_
    refine va_get (D := (dC, dI)) (ci := 3) (v := .int lxp) (C := RX3) (T := TX3) (N := 9) hx hb htw inlX3 hown hK hP 1 rfl rfl 6 (by decide) (htw _ (ck_15 _ (List.mem_of_getElem? (i := 13) rfl))) (fun _ h9 => h9) rfl dX7_numberIn_23 ?_
    refine xs_size (fun hHz => ?_)
    obtain ⟨hPc, hDc, hFc, hCc⟩ := zsub3 (ws' := [(eO7a pa lx bk pfa pfp psk phe phr phs pop)]) hP hD hS hA [0] (by decide) rfl
    have hKc := hK.sub (tys' := []) [] rfl
    refine vx_callv (vx_runV (As := [.int 1, .int 1, .int lxp]) (rest := []) ⟨hx, hb, hml, hown, htw⟩ (gp_refT l hst dC dI pa lx bk pfa pfp psk phe phr phs pop (1 : Int32) (1 : Int32) lxp sL H.size (gp_numberIn_s7 )) (cwV 3 htw (xg_V (ck_16 _ (List.mem_of_getElem? (i := 6) rfl)) (ck_16 _ (List.mem_of_getElem? (i := 7) rfl)) (ck_16 _ (List.mem_of_getElem? (i := 8) rfl)) (ck_1 _ (List.mem_of_getElem? (i := 16) rfl)) (ck_16 _ (List.mem_of_getElem? (i := 9) rfl))) rfl rfl rfl (by exact ⟨rfl, hdc_15.1, hdc_15.2, hdd_48⟩) ⟨Nat.le_of_ble_eq_true rfl, Nat.le_of_ble_eq_true rfl⟩) ⟨fun a U g mk q => by obtain ⟨q0, q1, qP, qK, qD, qx0⟩ := q; exact ⟨q0, q1, qP, va_K.moved (u := U) (U := U.calling g mk a) (Vm.Alike.refl U.vm) qK, qD, xl.calling qx0⟩, va_recv hKc hPc (ci := 7) (q0 := 0) rfl rfl, fun U hU hW => ⟨rfl, by rw [hU], by rw [hU]; exact hPc, va_K.moved hW.alike hKc, hDc.weaken (fun _ _ _ _ => trivial), by rw [hU]; exact xl.warm hW ((xl.kept hXL hS.2.1).narrow hFc)⟩⟩ rfl rfl hl.1 rfl (lv_room (Nat.le_of_ble_eq_true rfl)) dX7_numberIn_26 ⟨Nat.le_of_ble_eq_true rfl, Nat.le_of_ble_eq_true rfl⟩) hS (fun q _ h => hFc q h) hFc (fun q _ h => hFc q h) (fun E ce q9 u_20 t H1 locs ht hvm hw hB hz1 hk1 hS hcell hcv hcl => ?_) (fun u_22 t H1 locs ht hvm hw hB hz1 hk1 hS => hw.elim)
    obtain ⟨hE9, hB⟩ := hB
    subst hE9
    obtain ⟨hP1, hK1, hD1⟩ := hB
    rw [ht] at hP1
    have hK1 := va_K.moved hvm.symm hK1
    have hK1 : va_K (dC, dI) vwCl [] s := hK1
    obtain ⟨hP, hD⟩ := va_join (wr := [(eO3a lx lby lfi lco lxe lxa lxt lxp lxn lxl), (eA0 lby cBy 900 fBy), (eA0 lco cCo 23 fCo)]) (w1 := [(eO7a pa lx bk 1 lxp psk phe phr phs pop)]) hP hD [0] [1, 2, 3] hCc rfl (by decide) (by decide) hk1 hFc hP1 hD1
    generalize H1 = H at hP hS hcell ⊢
    obtain ⟨hP, hD⟩ := zre [(eO3a lx lby lfi lco lxe lxa lxt lxp lxn lxl), (eA0 lby cBy 900 fBy), (eA0 lco cCo 23 fCo), (eO7a pa lx bk 1 lxp psk phe phr phs pop)] hP hD rfl
    obtain ⟨hP9, hD9⟩ := zsub2 (ws' := [(eO7a pa lx bk 1 lxp psk phe phr phs pop), (eO3a lx lby lfi lco lxe lxa lxt lxp lxn lxl), (eA0 lby cBy 900 fBy), (eA0 lco cCo 23 fCo)]) hP hD [3, 0, 1, 2] (by decide) rfl
    have hK9 := hK.sub (tys' := []) [] rfl
    exact vx_widen (k := 1) (n := 6) (Nat.le_of_ble_eq_true rfl) (Nat.le_of_ble_eq_true rfl) (vx_out (fun x h9 => (hex x h9).elim) hlocks hcell hcv hcl (fun t ht hal => ⟨(1, lxp, lxa, lxt, lxp, lxn, lxl), ((fun e9 => ⟨by rw [e9], by rw [e9]⟩ : fp_numberIn pfa pfp lxe lxa lxt lxp lxn lxl fBy fCo a0 a1 = ((1 : Int32), (0 : Int32), (1 : Int32), lxp, lxa, lxt, lxp, lxn, lxl) → _) ((by rw [fp_numberIn]; (try rw [if_neg c_1]); try rfl))), ⟨rfl, by rw [ht]; exact hP9, va_K.moved hal hK9, hD9⟩, hS.F ht⟩) hS.2.2 (Nat.le_of_ble_eq_true rfl) (Nat.le_of_ble_eq_true rfl))

def fp_signedUpTo (pfa : Int32) (pfp : Int32) (lxe : Int32) (lxa : Int32) (lxt : Int32) (lxp : Int32) (lxn : Int32) (lxl : Int32) (fBy : Nat → Int32) (fCo : Nat → Int32) (a0 : Int32) : Int32 × Int32 × (Int32) × (Int32) × (Int32) × (Int32) × (Int32) × (Int32) × (Int32) := (if lxt = 29 then (xL ((fe_advance lxe lxa lxn lxl fBy fCo)) (fun u_21 => (if u_21.2.1 = 24 then (if u_21.2.2.2.1 ≤ a0 then (xL ((fe_advance lxe u_21.1 u_21.2.2.2.1 u_21.2.2.2.2 fBy fCo)) (fun u_33 => ((0 : Int32), (-u_21.2.2.2.1), pfa, pfp, u_33.1, u_33.2.1, u_33.2.2.1, u_33.2.2.2.1, u_33.2.2.2.2))) else ((1 : Int32), (0 : Int32), (2 : Int32), u_21.2.2.1, u_21.1, u_21.2.1, u_21.2.2.1, u_21.2.2.2.1, u_21.2.2.2.2)) else ((1 : Int32), (0 : Int32), (1 : Int32), u_21.2.2.1, u_21.1, u_21.2.1, u_21.2.2.1, u_21.2.2.2.1, u_21.2.2.2.2)))) else (if lxt = 24 then (if lxn ≤ a0 then (xL ((fe_advance lxe lxa lxn lxl fBy fCo)) (fun u_7 => ((0 : Int32), lxn, pfa, pfp, u_7.1, u_7.2.1, u_7.2.2.1, u_7.2.2.2.1, u_7.2.2.2.2))) else ((1 : Int32), (0 : Int32), (2 : Int32), lxp, lxa, lxt, lxp, lxn, lxl)) else ((1 : Int32), (0 : Int32), (1 : Int32), lxp, lxa, lxt, lxp, lxn, lxl)))
theorem gp_signedUpTo_s0  : (0 : Int32) = 0 := (by decide)
theorem gp_signedUpTo_s1  : (0 : Int32) = 0 := (by decide)
theorem gp_signedUpTo_s2 {y0 : Int32} (h0 : ¬ (y0 < 0)) : ¬ (y0 < 0) := h0
theorem gp_signedUpTo_s3  : ¬ ((1 : Int32) = 0) := (by decide)
theorem gp_signedUpTo_s4  : ¬ ((1 : Int32) = 0) := (by decide)
theorem gp_signedUpTo_s5  : (0 : Int32) = 0 := (by decide)
theorem gp_signedUpTo_s6  : (0 : Int32) = 0 := (by decide)
theorem gp_signedUpTo_s7 {y0 : Int32} (h0 : ¬ (y0 < 0)) : ¬ (y0 < 0) := h0
theorem gp_signedUpTo_s8 {y0 : Int32} (h0 : ¬ (y0 < 0)) : ¬ (y0 < 0) := h0
theorem gp_signedUpTo_s9  : ¬ ((1 : Int32) = 0) := (by decide)
theorem gp_signedUpTo_s10  : ¬ ((1 : Int32) = 0) := (by decide)
theorem dX7_signedUpTo_0 : decode cX7_signedUpTo 0 = .ok (.aload_n 0, 1) := zk_42 (by decide +kernel)
theorem dX7_signedUpTo_1 : decode cX7_signedUpTo 1 = .ok (.getfield 12, 3) := zk_180 (by decide +kernel)
theorem dX7_signedUpTo_4 : decode cX7_signedUpTo 4 = .ok (.getfield 50, 3) := zk_180 (by decide +kernel)
theorem dX7_signedUpTo_7 : decode cX7_signedUpTo 7 = .ok (.bipush 29, 2) := zk_16 (by decide +kernel)
theorem dX7_signedUpTo_9 : decode cX7_signedUpTo 9 = .ok (.if_icmp .ne 7, 3) := zk_160 (by decide +kernel)
theorem dX7_signedUpTo_16 : decode cX7_signedUpTo 16 = .ok (.iconst 0, 1) := zk_3 (by decide +kernel)
theorem dX7_signedUpTo_17 : decode cX7_signedUpTo 17 = .ok (.istore_n 2, 1) := zk_61 (by decide +kernel)
theorem dX7_signedUpTo_18 : decode cX7_signedUpTo 18 = .ok (.iload_n 2, 1) := zk_28 (by decide +kernel)
theorem dX7_signedUpTo_19 : decode cX7_signedUpTo 19 = .ok (.ifCond .eq 10, 3) := zk_153 (by decide +kernel)
theorem dX7_signedUpTo_29 : decode cX7_signedUpTo 29 = .ok (.aload_n 0, 1) := zk_42 (by decide +kernel)
theorem dX7_signedUpTo_30 : decode cX7_signedUpTo 30 = .ok (.aload_n 0, 1) := zk_42 (by decide +kernel)
theorem dX7_signedUpTo_31 : decode cX7_signedUpTo 31 = .ok (.getfield 12, 3) := zk_180 (by decide +kernel)
theorem dX7_signedUpTo_34 : decode cX7_signedUpTo 34 = .ok (.getfield 50, 3) := zk_180 (by decide +kernel)
theorem dX7_signedUpTo_37 : decode cX7_signedUpTo 37 = .ok (.bipush 24, 2) := zk_16 (by decide +kernel)
theorem dX7_signedUpTo_39 : decode cX7_signedUpTo 39 = .ok (.if_icmp .eq 7, 3) := zk_159 (by decide +kernel)
theorem dX7_signedUpTo_46 : decode cX7_signedUpTo 46 = .ok (.iconst 0, 1) := zk_3 (by decide +kernel)
theorem dX7_signedUpTo_47 : decode cX7_signedUpTo 47 = .ok (.iconst 1, 1) := zk_4 (by decide +kernel)
theorem dX7_signedUpTo_48 : decode cX7_signedUpTo 48 = .ok (.aload_n 0, 1) := zk_42 (by decide +kernel)
theorem dX7_signedUpTo_49 : decode cX7_signedUpTo 49 = .ok (.getfield 12, 3) := zk_180 (by decide +kernel)
theorem dX7_signedUpTo_52 : decode cX7_signedUpTo 52 = .ok (.getfield 87, 3) := zk_180 (by decide +kernel)
theorem dX7_signedUpTo_55 : decode cX7_signedUpTo 55 = .ok (.invokevirtual 90, 3) := zk_182 (by decide +kernel)
theorem dX7_signedUpTo_58 : decode cX7_signedUpTo 58 = .ok (.aload_n 0, 1) := zk_42 (by decide +kernel)
theorem dX7_signedUpTo_59 : decode cX7_signedUpTo 59 = .ok (.aload_n 0, 1) := zk_42 (by decide +kernel)
theorem dX7_signedUpTo_60 : decode cX7_signedUpTo 60 = .ok (.getfield 12, 3) := zk_180 (by decide +kernel)
theorem dX7_signedUpTo_63 : decode cX7_signedUpTo 63 = .ok (.getfield 279, 3) := zk_180 (by decide +kernel)
theorem dX7_signedUpTo_66 : decode cX7_signedUpTo 66 = .ok (.iload_n 1, 1) := zk_27 (by decide +kernel)
theorem dX7_signedUpTo_67 : decode cX7_signedUpTo 67 = .ok (.if_icmp .le 7, 3) := zk_164 (by decide +kernel)
theorem dX7_signedUpTo_74 : decode cX7_signedUpTo 74 = .ok (.iconst 0, 1) := zk_3 (by decide +kernel)
theorem dX7_signedUpTo_75 : decode cX7_signedUpTo 75 = .ok (.iconst 2, 1) := zk_5 (by decide +kernel)
theorem dX7_signedUpTo_76 : decode cX7_signedUpTo 76 = .ok (.aload_n 0, 1) := zk_42 (by decide +kernel)
theorem dX7_signedUpTo_77 : decode cX7_signedUpTo 77 = .ok (.getfield 12, 3) := zk_180 (by decide +kernel)
theorem dX7_signedUpTo_80 : decode cX7_signedUpTo 80 = .ok (.getfield 87, 3) := zk_180 (by decide +kernel)
theorem dX7_signedUpTo_83 : decode cX7_signedUpTo 83 = .ok (.invokevirtual 90, 3) := zk_182 (by decide +kernel)
theorem dX7_signedUpTo_86 : decode cX7_signedUpTo 86 = .ok (.iload_n 2, 1) := zk_28 (by decide +kernel)
theorem dX7_signedUpTo_87 : decode cX7_signedUpTo 87 = .ok (.ifCond .eq 14, 3) := zk_153 (by decide +kernel)
theorem dX7_signedUpTo_101 : decode cX7_signedUpTo 101 = .ok (.aload_n 0, 1) := zk_42 (by decide +kernel)
theorem dX7_signedUpTo_102 : decode cX7_signedUpTo 102 = .ok (.getfield 12, 3) := zk_180 (by decide +kernel)
theorem dX7_signedUpTo_105 : decode cX7_signedUpTo 105 = .ok (.getfield 279, 3) := zk_180 (by decide +kernel)
theorem dX7_signedUpTo_108 : decode cX7_signedUpTo 108 = .ok (.istore_n 3, 1) := zk_62 (by decide +kernel)
theorem dX7_signedUpTo_109 : decode cX7_signedUpTo 109 = .ok (.aload_n 0, 1) := zk_42 (by decide +kernel)
theorem dX7_signedUpTo_110 : decode cX7_signedUpTo 110 = .ok (.getfield 12, 3) := zk_180 (by decide +kernel)
theorem dX7_signedUpTo_113 : decode cX7_signedUpTo 113 = .ok (.invokevirtual 123, 3) := zk_182 (by decide +kernel)
theorem dX7_signedUpTo_116 : decode cX7_signedUpTo 116 = .ok (.iload_n 3, 1) := zk_29 (by decide +kernel)
theorem dX7_signedUpTo_117 : decode cX7_signedUpTo 117 = .ok (.ireturn, 1) := zk_172 (by decide +kernel)
theorem dX7_signedUpTo_70 : decode cX7_signedUpTo 70 = .ok (.iconst 1, 1) := zk_4 (by decide +kernel)
theorem dX7_signedUpTo_71 : decode cX7_signedUpTo 71 = .ok (.goto 4, 3) := zk_167 (by decide +kernel)
theorem dX7_signedUpTo_42 : decode cX7_signedUpTo 42 = .ok (.iconst 1, 1) := zk_4 (by decide +kernel)
theorem dX7_signedUpTo_43 : decode cX7_signedUpTo 43 = .ok (.goto 4, 3) := zk_167 (by decide +kernel)
theorem dX7_signedUpTo_12 : decode cX7_signedUpTo 12 = .ok (.iconst 1, 1) := zk_4 (by decide +kernel)
theorem dX7_signedUpTo_13 : decode cX7_signedUpTo 13 = .ok (.goto 4, 3) := zk_167 (by decide +kernel)
theorem dX7_signedUpTo_22 : decode cX7_signedUpTo 22 = .ok (.aload_n 0, 1) := zk_42 (by decide +kernel)
theorem dX7_signedUpTo_23 : decode cX7_signedUpTo 23 = .ok (.getfield 12, 3) := zk_180 (by decide +kernel)
theorem dX7_signedUpTo_26 : decode cX7_signedUpTo 26 = .ok (.invokevirtual 123, 3) := zk_182 (by decide +kernel)
theorem dX7_signedUpTo_90 : decode cX7_signedUpTo 90 = .ok (.aload_n 0, 1) := zk_42 (by decide +kernel)
theorem dX7_signedUpTo_91 : decode cX7_signedUpTo 91 = .ok (.getfield 12, 3) := zk_180 (by decide +kernel)
theorem dX7_signedUpTo_94 : decode cX7_signedUpTo 94 = .ok (.getfield 279, 3) := zk_180 (by decide +kernel)
theorem dX7_signedUpTo_97 : decode cX7_signedUpTo 97 = .ok (.ineg, 1) := zk_116 (by decide +kernel)
theorem dX7_signedUpTo_98 : decode cX7_signedUpTo 98 = .ok (.goto 10, 3) := zk_167 (by decide +kernel)
set_option maxHeartbeats 4000000 in
set_option maxRecDepth 100000 in
theorem gp_signedUpTo (l : Launch) (hst : l.stackTraces = false) (dC : Nat → ClassId) (dI : Nat → Nat → Nat) (pa : Nat) (lx : Nat) (bk : Nat) (pfa : Int32) (pfp : Int32) (psk : Int32) (phe : Nat) (phr : Nat) (phs : Int32) (pop : Int32) (lby : Nat) (lfi : Int32) (lco : Nat) (lxe : Int32) (lxa : Int32) (lxt : Int32) (lxp : Int32) (lxn : Int32) (lxl : Int32) (cBy : ClassId) (fBy : Nat → Int32) (cCo : ClassId) (fCo : Nat → Int32) (a0 : Int32) (sL : Nat → Nat) (sz : Nat) (h0_lxa : ¬ lxa < 0) (h9_lxe : lxe ≤ 900) : vx_Met l yX7_signedUpTo (Cond.code yX7_signedUpTo cX7_signedUpTo 4 (some .int) :: wsL_law) ({ frames := 7, cells := 1, slots := 6, locals := 105 }) (va_Pc [.ref pa, .int a0] (fun U => U.heap.size = sz ∧ va_P (dC, dI) vwCl [(eO7a pa lx bk pfa pfp psk phe phr phs pop), (eO3a lx lby lfi lco lxe lxa lxt lxp lxn lxl), (eA0 lby cBy 900 fBy), (eA0 lco cCo 23 fCo)] U.heap ∧ va_K (dC, dI) vwCl [(cBy, .byte), (cCo, .int)] U ∧ va_D (fun _ => True) [(eO7a pa lx bk pfa pfp psk phe phr phs pop), (eO3a lx lby lfi lco lxe lxa lxt lxp lxn lxl), (eA0 lby cBy 900 fBy), (eA0 lco cCo 23 fCo)] ∧ xl sL (va_A [(eO7a pa lx bk pfa pfp psk phe phr phs pop), (eO3a lx lby lfi lco lxe lxa lxt lxp lxn lxl), (eA0 lby cBy 900 fBy), (eA0 lco cCo 23 fCo)] sz) U U.heap)) (va_Qi (fun (r : Int32) (u : (Int32) × (Int32) × (Int32) × (Int32) × (Int32) × (Int32) × (Int32)) => ((fp_signedUpTo pfa pfp lxe lxa lxt lxp lxn lxl fBy fCo a0).1 = 0 ∧ r = (fp_signedUpTo pfa pfp lxe lxa lxt lxp lxn lxl fBy fCo a0).2.1 ∧ u = (fp_signedUpTo pfa pfp lxe lxa lxt lxp lxn lxl fBy fCo a0).2.2) ∧ (¬ u.2.2.1 < 0)) (fun (u : (Int32) × (Int32) × (Int32) × (Int32) × (Int32) × (Int32) × (Int32)) t => (va_P (dC, dI) vwCl [(eO7a pa lx bk u.1 u.2.1 psk phe phr phs pop), (eO3a lx lby lfi lco lxe u.2.2.1 u.2.2.2.1 u.2.2.2.2.1 u.2.2.2.2.2.1 u.2.2.2.2.2.2), (eA0 lby cBy 900 fBy), (eA0 lco cCo 23 fCo)] t.heap ∧ va_K (dC, dI) vwCl [] t ∧ va_D (va_A [(eO7a pa lx bk pfa pfp psk phe phr phs pop), (eO3a lx lby lfi lco lxe lxa lxt lxp lxn lxl), (eA0 lby cBy 900 fBy), (eA0 lco cCo 23 fCo)] sz) [(eO7a pa lx bk u.1 u.2.1 psk phe phr phs pop), (eO3a lx lby lfi lco lxe u.2.2.1 u.2.2.2.1 u.2.2.2.2.1 u.2.2.2.2.2.1 u.2.2.2.2.2.2), (eA0 lby cBy 900 fBy), (eA0 lco cCo 23 fCo)]) ∧ t.heap.size = sz) (va_A [(eO7a pa lx bk pfa pfp psk phe phr phs pop), (eO3a lx lby lfi lco lxe lxa lxt lxp lxn lxl), (eA0 lby cBy 900 fBy), (eA0 lco cCo 23 fCo)] sz)) (vx_X (fun (u : (Int32) × (Int32) × (Int32) × (Int32) × (Int32) × (Int32) × (Int32)) => (fp_signedUpTo pfa pfp lxe lxa lxt lxp lxn lxl fBy fCo a0).1 = 1 ∧ u = (fp_signedUpTo pfa pfp lxe lxa lxt lxp lxn lxl fBy fCo a0).2.2) (fun (E : String) (u : (Int32) × (Int32) × (Int32) × (Int32) × (Int32) × (Int32) × (Int32)) (t : State) => E = "java/lang/IllegalStateException" ∧ va_P (dC, dI) vwCl [(eO7a pa lx bk u.1 u.2.1 psk phe phr phs pop), (eO3a lx lby lfi lco lxe u.2.2.1 u.2.2.2.1 u.2.2.2.2.1 u.2.2.2.2.2.1 u.2.2.2.2.2.2), (eA0 lby cBy 900 fBy), (eA0 lco cCo 23 fCo)] t.heap ∧ va_K (dC, dI) vwCl [] t ∧ va_D (va_A [(eO7a pa lx bk pfa pfp psk phe phr phs pop), (eO3a lx lby lfi lco lxe lxa lxt lxp lxn lxl), (eA0 lby cBy 900 fBy), (eA0 lco cCo 23 fCo)] sz) [(eO7a pa lx bk u.1 u.2.1 psk phe phr phs pop), (eO3a lx lby lfi lco lxe u.2.2.1 u.2.2.2.1 u.2.2.2.2.1 u.2.2.2.2.2.1 u.2.2.2.2.2.2), (eA0 lby cBy 900 fBy), (eA0 lco cCo 23 fCo)]) (va_A [(eO7a pa lx bk pfa pfp psk phe phr phs pop), (eO3a lx lby lfi lco lxe lxa lxt lxp lxn lxl), (eA0 lby cBy 900 fBy), (eA0 lco cCo 23 fCo)] sz)) 1 6 (va_A [(eO7a pa lx bk pfa pfp psk phe phr phs pop), (eO3a lx lby lfi lco lxe lxa lxt lxp lxn lxl), (eA0 lby cBy 900 fBy), (eA0 lco cCo 23 fCo)] sz) := by
  refine vx_ofW (cc := cX7_signedUpTo) (maxL := 4) (ret := (some .int)) (by decide) rfl ?_
  intro p e s m args below meth c s₁ B hml hex hv
  obtain ⟨rfl, hsz, hP, hK, hD0, hXL⟩ := hv
  have hx := B.exec
  have hb := B.bytes
  have hr := B.returns
  have hts := atoms_spec (ws := Cond.code yX7_signedUpTo cX7_signedUpTo 4 (some .int) :: wsL_law) B.pre
  have htw : ∀ w ∈ wsL_law, w.before _ s = true := fun w h => hts w (List.mem_cons_of_mem _ h)
  have hown : s.vm.findClass RX7 = some m.cls := findClass_of_methodNamed B.named
  have hlocks := B.notSynchronized
  subst hsz
  have hD := hD0.self (sz := s.heap.size)
  generalize hAe : va_A [(eO7a pa lx bk pfa pfp psk phe phr phs pop), (eO3a lx lby lfi lco lxe lxa lxt lxp lxn lxl), (eA0 lby cBy 900 fBy), (eA0 lco cCo 23 fCo)] s.heap.size = A at hD hXL ⊢
  have hA : ∀ q : Nat, s.heap.size ≤ q → A q := fun q h => by rw [← hAe]; exact Or.inr h
  obtain ⟨H, rH⟩ : ∃ z : Heap, z = s.heap := ⟨_, rfl⟩
  have hS : va_S A s.heap H [] := by rw [rH]; exact va_S.rf
  have hP : va_P (dC, dI) vwCl [(eO7a pa lx bk pfa pfp psk phe phr phs pop), (eO3a lx lby lfi lco lxe lxa lxt lxp lxn lxl), (eA0 lby cBy 900 fBy), (eA0 lco cCo 23 fCo)] H := by rw [rH]; exact hP
  rw [← rH]
  have hl := lv_entry ([.ref pa, .int a0]) (n := 4) (Nat.le_of_ble_eq_true rfl)
  rw [lg_entry_eq]
  generalize (lg_sl ([.ref pa, .int a0]) ++ List.replicate (4 - (lg_sl ([.ref pa, .int a0])).length) Slot.unset).toArray = ls at hl ⊢
  have hl : lv_has ls 4 [(0, .ref pa), (1, .int a0)] := hl
  refine lv_aload_n hx hb dX7_signedUpTo_0 rfl (lv_at hl 0 rfl) ?_
  refine va_get (D := (dC, dI)) (ci := 7) (v := .ref lx) (C := RX7) (T := TX7) (N := 9) hx hb htw inlX7 hown hK hP 0 rfl rfl 0 (by decide) (htw _ (ck_3 _ (List.mem_of_getElem? (i := 5) rfl))) (fun _ h9 => h9) rfl dX7_signedUpTo_1 ?_
  refine va_get (D := (dC, dI)) (ci := 3) (v := .int lxt) (C := RX3) (T := TX3) (N := 9) hx hb htw inlX3 hown hK hP 1 rfl rfl 5 (by decide) (htw _ (ck_13 _ (List.mem_of_getElem? (i := 9) rfl))) (fun _ h9 => h9) rfl dX7_signedUpTo_4 ?_
  refine lv_bipush (v := 29) hx hb dX7_signedUpTo_7 (by decide) ?_
  refine lv_icmp_ne (tgt := 16) hx hb dX7_signedUpTo_9 (by decide) (fun c_1 => ?_) (fun c_1 => ?_)
  · refine lv_iconst (v := 0) hx hb dX7_signedUpTo_16 (by decide) ?_
    refine lv_istore_n (lv' := [(2, .int 0), (0, .ref pa), (1, .int a0)]) hx hb dX7_signedUpTo_17 rfl hl (by decide) rfl (fun ls hl => ?_)
    refine lv_iload_n hx hb dX7_signedUpTo_18 rfl (lv_at hl 0 rfl) ?_
    refine lv_if_eq (tgt := 29) hx hb dX7_signedUpTo_19 (by decide) (fun _ => ?_) (fun c => absurd c (by decide))
    refine lv_aload_n hx hb dX7_signedUpTo_29 rfl (lv_at hl 1 rfl) ?_
    refine lv_aload_n hx hb dX7_signedUpTo_30 rfl (lv_at hl 1 rfl) ?_
    refine va_get (D := (dC, dI)) (ci := 7) (v := .ref lx) (C := RX7) (T := TX7) (N := 9) hx hb htw inlX7 hown hK hP 0 rfl rfl 0 (by decide) (htw _ (ck_3 _ (List.mem_of_getElem? (i := 5) rfl))) (fun _ h9 => h9) rfl dX7_signedUpTo_31 ?_
    refine va_get (D := (dC, dI)) (ci := 3) (v := .int lxt) (C := RX3) (T := TX3) (N := 9) hx hb htw inlX3 hown hK hP 1 rfl rfl 5 (by decide) (htw _ (ck_13 _ (List.mem_of_getElem? (i := 9) rfl))) (fun _ h9 => h9) rfl dX7_signedUpTo_34 ?_
    refine lv_bipush (v := 24) hx hb dX7_signedUpTo_37 (by decide) ?_
    refine lv_icmp_eq (tgt := 46) hx hb dX7_signedUpTo_39 (by decide) (fun c_2 => ?_) (fun c_2 => ?_)
    · refine lv_iconst (v := 0) hx hb dX7_signedUpTo_46 (by decide) ?_
      refine lv_iconst (v := 1) hx hb dX7_signedUpTo_47 (by decide) ?_
      refine lv_aload_n hx hb dX7_signedUpTo_48 rfl (lv_at hl 1 rfl) ?_
      refine va_get (D := (dC, dI)) (ci := 7) (v := .ref lx) (C := RX7) (T := TX7) (N := 9) hx hb htw inlX7 hown hK hP 0 rfl rfl 0 (by decide) (htw _ (ck_3 _ (List.mem_of_getElem? (i := 5) rfl))) (fun _ h9 => h9) rfl dX7_signedUpTo_49 ?_
      refine va_get (D := (dC, dI)) (ci := 3) (v := .int lxp) (C := RX3) (T := TX3) (N := 9) hx hb htw inlX3 hown hK hP 1 rfl rfl 6 (by decide) (htw _ (ck_15 _ (List.mem_of_getElem? (i := 13) rfl))) (fun _ h9 => h9) rfl dX7_signedUpTo_52 ?_
      have hPc := hP.sub (ws' := []) [] rfl
      have hKc := hK.sub (tys' := []) [] rfl
      refine va_csv (W.runV (As := [.int 0, .int 1, .int lxp]) (rest := []) ⟨hx, hb, hml, hown, htw⟩ (gp_ref0 l dC dI (0 : Int32) (1 : Int32) lxp pa (gp_signedUpTo_s0 )) (cwV 3 htw (xg_V (ck_16 _ (List.mem_of_getElem? (i := 6) rfl)) (ck_16 _ (List.mem_of_getElem? (i := 7) rfl)) (ck_16 _ (List.mem_of_getElem? (i := 8) rfl)) (ck_1 _ (List.mem_of_getElem? (i := 16) rfl)) (ck_16 _ (List.mem_of_getElem? (i := 9) rfl))) rfl rfl rfl (by exact ⟨rfl, hdc_15.1, hdc_15.2, hdd_48⟩) ⟨Nat.le_of_ble_eq_true rfl, Nat.le_of_ble_eq_true rfl⟩) ⟨fun a U g mk q => by obtain ⟨q0, qP, qK⟩ := q; exact ⟨q0, qP, va_K.moved (u := U) (U := U.calling g mk a) (Vm.Alike.refl U.vm) qK⟩, va_recv hK hP (ci := 7) (q0 := 0) rfl rfl, fun U hU hW => ⟨rfl, by rw [hU]; exact hPc, va_K.moved hW.alike hKc⟩⟩ rfl rfl hl.1 rfl (lv_room (Nat.le_of_ble_eq_true rfl)) dX7_signedUpTo_55 ⟨Nat.le_of_ble_eq_true rfl, Nat.le_of_ble_eq_true rfl⟩) (fun hw => ?_)
      try dsimp only at hw
      refine lv_aload_n hx hb dX7_signedUpTo_58 rfl (lv_at hl 1 rfl) ?_
      refine lv_aload_n hx hb dX7_signedUpTo_59 rfl (lv_at hl 1 rfl) ?_
      refine va_get (D := (dC, dI)) (ci := 7) (v := .ref lx) (C := RX7) (T := TX7) (N := 9) hx hb htw inlX7 hown hK hP 0 rfl rfl 0 (by decide) (htw _ (ck_3 _ (List.mem_of_getElem? (i := 5) rfl))) (fun _ h9 => h9) rfl dX7_signedUpTo_60 ?_
      refine va_get (D := (dC, dI)) (ci := 3) (v := .int lxn) (C := RX3) (T := TX3) (N := 9) hx hb htw inlX3 hown hK hP 1 rfl rfl 7 (by decide) (htw _ (ck_16 _ (List.mem_of_getElem? (i := 20) rfl))) (fun _ h9 => h9) rfl dX7_signedUpTo_63 ?_
      refine lv_iload_n hx hb dX7_signedUpTo_66 rfl (lv_at hl 2 rfl) ?_
      refine lv_icmp_le (tgt := 74) hx hb dX7_signedUpTo_67 (by decide) (fun c_4 => ?_) (fun c_4 => ?_)
      · refine lv_iconst (v := 0) hx hb dX7_signedUpTo_74 (by decide) ?_
        refine lv_iconst (v := 2) hx hb dX7_signedUpTo_75 (by decide) ?_
        refine lv_aload_n hx hb dX7_signedUpTo_76 rfl (lv_at hl 1 rfl) ?_
        refine va_get (D := (dC, dI)) (ci := 7) (v := .ref lx) (C := RX7) (T := TX7) (N := 9) hx hb htw inlX7 hown hK hP 0 rfl rfl 0 (by decide) (htw _ (ck_3 _ (List.mem_of_getElem? (i := 5) rfl))) (fun _ h9 => h9) rfl dX7_signedUpTo_77 ?_
        refine va_get (D := (dC, dI)) (ci := 3) (v := .int lxp) (C := RX3) (T := TX3) (N := 9) hx hb htw inlX3 hown hK hP 1 rfl rfl 6 (by decide) (htw _ (ck_15 _ (List.mem_of_getElem? (i := 13) rfl))) (fun _ h9 => h9) rfl dX7_signedUpTo_80 ?_
        have hPc := hP.sub (ws' := []) [] rfl
        have hKc := hK.sub (tys' := []) [] rfl
        refine va_csv (W.runV (As := [.int 0, .int 2, .int lxp]) (rest := []) ⟨hx, hb, hml, hown, htw⟩ (gp_ref0 l dC dI (0 : Int32) (2 : Int32) lxp pa (gp_signedUpTo_s1 )) (cwV 3 htw (xg_V (ck_16 _ (List.mem_of_getElem? (i := 6) rfl)) (ck_16 _ (List.mem_of_getElem? (i := 7) rfl)) (ck_16 _ (List.mem_of_getElem? (i := 8) rfl)) (ck_1 _ (List.mem_of_getElem? (i := 16) rfl)) (ck_16 _ (List.mem_of_getElem? (i := 9) rfl))) rfl rfl rfl (by exact ⟨rfl, hdc_15.1, hdc_15.2, hdd_48⟩) ⟨Nat.le_of_ble_eq_true rfl, Nat.le_of_ble_eq_true rfl⟩) ⟨fun a U g mk q => by obtain ⟨q0, qP, qK⟩ := q; exact ⟨q0, qP, va_K.moved (u := U) (U := U.calling g mk a) (Vm.Alike.refl U.vm) qK⟩, va_recv hK hP (ci := 7) (q0 := 0) rfl rfl, fun U hU hW => ⟨rfl, by rw [hU]; exact hPc, va_K.moved hW.alike hKc⟩⟩ rfl rfl hl.1 rfl (lv_room (Nat.le_of_ble_eq_true rfl)) dX7_signedUpTo_83 ⟨Nat.le_of_ble_eq_true rfl, Nat.le_of_ble_eq_true rfl⟩) (fun hw => ?_)
        try dsimp only at hw
        refine lv_iload_n hx hb dX7_signedUpTo_86 rfl (lv_at hl 0 rfl) ?_
        refine lv_if_eq (tgt := 101) hx hb dX7_signedUpTo_87 (by decide) (fun _ => ?_) (fun c => absurd c (by decide))
        refine lv_aload_n hx hb dX7_signedUpTo_101 rfl (lv_at hl 1 rfl) ?_
        refine va_get (D := (dC, dI)) (ci := 7) (v := .ref lx) (C := RX7) (T := TX7) (N := 9) hx hb htw inlX7 hown hK hP 0 rfl rfl 0 (by decide) (htw _ (ck_3 _ (List.mem_of_getElem? (i := 5) rfl))) (fun _ h9 => h9) rfl dX7_signedUpTo_102 ?_
        refine va_get (D := (dC, dI)) (ci := 3) (v := .int lxn) (C := RX3) (T := TX3) (N := 9) hx hb htw inlX3 hown hK hP 1 rfl rfl 7 (by decide) (htw _ (ck_16 _ (List.mem_of_getElem? (i := 20) rfl))) (fun _ h9 => h9) rfl dX7_signedUpTo_105 ?_
        refine lv_istore_n (lv' := [(3, .int lxn), (2, .int 0), (0, .ref pa), (1, .int a0)]) hx hb dX7_signedUpTo_108 rfl hl (by decide) rfl (fun ls hl => ?_)
        refine lv_aload_n hx hb dX7_signedUpTo_109 rfl (lv_at hl 2 rfl) ?_
        refine va_get (D := (dC, dI)) (ci := 7) (v := .ref lx) (C := RX7) (T := TX7) (N := 9) hx hb htw inlX7 hown hK hP 0 rfl rfl 0 (by decide) (htw _ (ck_3 _ (List.mem_of_getElem? (i := 5) rfl))) (fun _ h9 => h9) rfl dX7_signedUpTo_110 ?_
        obtain ⟨hPc, hDc, hFc, hCc⟩ := zsub3 (ws' := [(eO3a lx lby lfi lco lxe lxa lxt lxp lxn lxl), (eA0 lby cBy 900 fBy), (eA0 lco cCo 23 fCo)]) hP hD hS hA [1, 2, 3] (by decide) rfl
        have hKc := hK.sub (tys' := [(cBy, .byte), (cCo, .int)]) [0, 1] rfl
        refine va_callv (va_runV (As := []) (rest := []) ⟨hx, hb, hml, hown, htw⟩ (gz_advance l dC dI lx lby lfi lco lxe lxa lxt lxp lxn lxl cBy fBy cCo fCo H.size h0_lxa h9_lxe) (cwV 0 htw (xg_V (ck_16 _ (List.mem_of_getElem? (i := 11) rfl)) (ck_14 _ (List.mem_of_getElem? (i := 13) rfl)) (ck_14 _ (List.mem_of_getElem? (i := 14) rfl)) (ck_3 _ (List.mem_of_getElem? (i := 4) rfl)) (ck_14 _ (List.mem_of_getElem? (i := 15) rfl))) rfl rfl rfl (by exact ⟨rfl, hdc_4.1, hdc_4.2, hdd_13⟩) ⟨Nat.le_of_ble_eq_true rfl, Nat.le_of_ble_eq_true rfl⟩) ⟨fun a U g mk q => by obtain ⟨q0, q1, qP, qK, qD⟩ := q; exact ⟨q0, q1, qP, va_K.moved (u := U) (U := U.calling g mk a) (Vm.Alike.refl U.vm) qK, qD⟩, va_recv hKc hPc (ci := 3) (q0 := 0) rfl rfl, fun U hU hW => ⟨rfl, by rw [hU], by rw [hU]; exact hPc, va_K.moved hW.alike hKc, hDc.weaken (fun _ _ _ _ => trivial)⟩⟩ rfl rfl hl.1 rfl (lv_room (Nat.le_of_ble_eq_true rfl)) dX7_signedUpTo_113 ⟨Nat.le_of_ble_eq_true rfl, Nat.le_of_ble_eq_true rfl⟩) hS (fun q _ h => hFc q h) hFc (fun u_7 t H1 locs ht hvm hw hB hz1 hk1 hS => ?_)
        try dsimp only at hw
        obtain ⟨hP1, hK1, hD1⟩ := hB
        rw [ht] at hP1
        have hK1 := va_K.moved hvm.symm hK1
        have hK1 : va_K (dC, dI) vwCl [] s := hK1
        obtain ⟨hP, hD⟩ := va_join (wr := [(eO7a pa lx bk pfa pfp psk phe phr phs pop)]) (w1 := [(eO3a lx lby lfi lco lxe u_7.1 u_7.2.1 u_7.2.2.1 u_7.2.2.2.1 u_7.2.2.2.2), (eA0 lby cBy 900 fBy), (eA0 lco cCo 23 fCo)]) hP hD [1, 2, 3] [0] hCc rfl (by decide) (by decide) hk1 hFc hP1 hD1
        generalize H1 = H at hP hS ⊢
        obtain ⟨hP, hD⟩ := zre [(eO7a pa lx bk pfa pfp psk phe phr phs pop), (eO3a lx lby lfi lco lxe u_7.1 u_7.2.1 u_7.2.2.1 u_7.2.2.2.1 u_7.2.2.2.2), (eA0 lby cBy 900 fBy), (eA0 lco cCo 23 fCo)] hP hD rfl
        refine W.widen (k := 0) (n := 0) (by omega) (by omega) ?_
        obtain ⟨hw, hp_13⟩ := hw
        have hq_u_7 : u_7 = (fe_advance lxe lxa lxn lxl fBy fCo) := hw
        refine lv_iload_n hx hb dX7_signedUpTo_116 rfl (lv_at hl 0 rfl) ?_
        refine xs_size (fun hHz => ?_)
        refine vx_ret ?_
        refine W.widen (k := 1) (n := 6) (by omega) (by omega) ?_
        have hP9 := hP
        have hD9 := hD
        have hK9 := hK.sub (tys' := []) [] rfl
        exact W.iret (v := lxn) hx hb hr (fun t ht hW => ⟨⟨lxn, (pfa, pfp, u_7.1, u_7.2.1, u_7.2.2.1, u_7.2.2.2.1, u_7.2.2.2.2), rfl, ⟨((fun e9 => ⟨by rw [e9], by rw [e9], by rw [e9]⟩ : fp_signedUpTo pfa pfp lxe lxa lxt lxp lxn lxl fBy fCo a0 = ((0 : Int32), lxn, pfa, pfp, u_7.1, u_7.2.1, u_7.2.2.1, u_7.2.2.2.1, u_7.2.2.2.2) → _) ((by rw [fp_signedUpTo]; (try rw [if_neg c_1]); (try rw [if_pos c_2]); (try rw [if_pos c_4]); (try rw [← hq_u_7]); (try rw [xL_eq]); try rfl))), (gp_signedUpTo_s2 (y0 := u_7.1) hp_13)⟩, ⟨by rw [ht]; exact hP9, va_K.moved hW.alike hK9, hD9⟩, by rw [ht]; first | exact hHz | exact hHz.trans (by rw [rH])⟩, hS.F ht⟩) hS.2.2 dX7_signedUpTo_117
      · refine lv_iconst (v := 1) hx hb dX7_signedUpTo_70 (by decide) ?_
        refine lv_goto (tgt := 75) hx hb dX7_signedUpTo_71 (by decide) ?_
        refine lv_iconst (v := 2) hx hb dX7_signedUpTo_75 (by decide) ?_
        refine lv_aload_n hx hb dX7_signedUpTo_76 rfl (lv_at hl 1 rfl) ?_
        refine va_get (D := (dC, dI)) (ci := 7) (v := .ref lx) (C := RX7) (T := TX7) (N := 9) hx hb htw inlX7 hown hK hP 0 rfl rfl 0 (by decide) (htw _ (ck_3 _ (List.mem_of_getElem? (i := 5) rfl))) (fun _ h9 => h9) rfl dX7_signedUpTo_77 ?_
        refine va_get (D := (dC, dI)) (ci := 3) (v := .int lxp) (C := RX3) (T := TX3) (N := 9) hx hb htw inlX3 hown hK hP 1 rfl rfl 6 (by decide) (htw _ (ck_15 _ (List.mem_of_getElem? (i := 13) rfl))) (fun _ h9 => h9) rfl dX7_signedUpTo_80 ?_
        refine xs_size (fun hHz => ?_)
        obtain ⟨hPc, hDc, hFc, hCc⟩ := zsub3 (ws' := [(eO7a pa lx bk pfa pfp psk phe phr phs pop)]) hP hD hS hA [0] (by decide) rfl
        have hKc := hK.sub (tys' := []) [] rfl
        refine vx_callv (vx_runV (As := [.int 1, .int 2, .int lxp]) (rest := []) ⟨hx, hb, hml, hown, htw⟩ (gp_refT l hst dC dI pa lx bk pfa pfp psk phe phr phs pop (1 : Int32) (2 : Int32) lxp sL H.size (gp_signedUpTo_s3 )) (cwV 3 htw (xg_V (ck_16 _ (List.mem_of_getElem? (i := 6) rfl)) (ck_16 _ (List.mem_of_getElem? (i := 7) rfl)) (ck_16 _ (List.mem_of_getElem? (i := 8) rfl)) (ck_1 _ (List.mem_of_getElem? (i := 16) rfl)) (ck_16 _ (List.mem_of_getElem? (i := 9) rfl))) rfl rfl rfl (by exact ⟨rfl, hdc_15.1, hdc_15.2, hdd_48⟩) ⟨Nat.le_of_ble_eq_true rfl, Nat.le_of_ble_eq_true rfl⟩) ⟨fun a U g mk q => by obtain ⟨q0, q1, qP, qK, qD, qx0⟩ := q; exact ⟨q0, q1, qP, va_K.moved (u := U) (U := U.calling g mk a) (Vm.Alike.refl U.vm) qK, qD, xl.calling qx0⟩, va_recv hKc hPc (ci := 7) (q0 := 0) rfl rfl, fun U hU hW => ⟨rfl, by rw [hU], by rw [hU]; exact hPc, va_K.moved hW.alike hKc, hDc.weaken (fun _ _ _ _ => trivial), by rw [hU]; exact xl.warm hW ((xl.kept hXL hS.2.1).narrow hFc)⟩⟩ rfl rfl hl.1 rfl (lv_room (Nat.le_of_ble_eq_true rfl)) dX7_signedUpTo_83 ⟨Nat.le_of_ble_eq_true rfl, Nat.le_of_ble_eq_true rfl⟩) hS (fun q _ h => hFc q h) hFc (fun q _ h => hFc q h) (fun E ce q9 u_14 t H1 locs ht hvm hw hB hz1 hk1 hS hcell hcv hcl => ?_) (fun u_16 t H1 locs ht hvm hw hB hz1 hk1 hS => hw.elim)
        obtain ⟨hE9, hB⟩ := hB
        subst hE9
        obtain ⟨hP1, hK1, hD1⟩ := hB
        rw [ht] at hP1
        have hK1 := va_K.moved hvm.symm hK1
        have hK1 : va_K (dC, dI) vwCl [] s := hK1
        obtain ⟨hP, hD⟩ := va_join (wr := [(eO3a lx lby lfi lco lxe lxa lxt lxp lxn lxl), (eA0 lby cBy 900 fBy), (eA0 lco cCo 23 fCo)]) (w1 := [(eO7a pa lx bk 2 lxp psk phe phr phs pop)]) hP hD [0] [1, 2, 3] hCc rfl (by decide) (by decide) hk1 hFc hP1 hD1
        generalize H1 = H at hP hS hcell ⊢
        obtain ⟨hP, hD⟩ := zre [(eO3a lx lby lfi lco lxe lxa lxt lxp lxn lxl), (eA0 lby cBy 900 fBy), (eA0 lco cCo 23 fCo), (eO7a pa lx bk 2 lxp psk phe phr phs pop)] hP hD rfl
        obtain ⟨hP9, hD9⟩ := zsub2 (ws' := [(eO7a pa lx bk 2 lxp psk phe phr phs pop), (eO3a lx lby lfi lco lxe lxa lxt lxp lxn lxl), (eA0 lby cBy 900 fBy), (eA0 lco cCo 23 fCo)]) hP hD [3, 0, 1, 2] (by decide) rfl
        have hK9 := hK.sub (tys' := []) [] rfl
        exact vx_widen (k := 1) (n := 6) (Nat.le_of_ble_eq_true rfl) (Nat.le_of_ble_eq_true rfl) (vx_out (fun x h9 => (hex x h9).elim) hlocks hcell hcv hcl (fun t ht hal => ⟨(2, lxp, lxa, lxt, lxp, lxn, lxl), ((fun e9 => ⟨by rw [e9], by rw [e9]⟩ : fp_signedUpTo pfa pfp lxe lxa lxt lxp lxn lxl fBy fCo a0 = ((1 : Int32), (0 : Int32), (2 : Int32), lxp, lxa, lxt, lxp, lxn, lxl) → _) ((by rw [fp_signedUpTo]; (try rw [if_neg c_1]); (try rw [if_pos c_2]); (try rw [if_neg c_4]); try rfl))), ⟨rfl, by rw [ht]; exact hP9, va_K.moved hal hK9, hD9⟩, hS.F ht⟩) hS.2.2 (Nat.le_of_ble_eq_true rfl) (Nat.le_of_ble_eq_true rfl))
    · refine lv_iconst (v := 1) hx hb dX7_signedUpTo_42 (by decide) ?_
      refine lv_goto (tgt := 47) hx hb dX7_signedUpTo_43 (by decide) ?_
      refine lv_iconst (v := 1) hx hb dX7_signedUpTo_47 (by decide) ?_
      refine lv_aload_n hx hb dX7_signedUpTo_48 rfl (lv_at hl 1 rfl) ?_
      refine va_get (D := (dC, dI)) (ci := 7) (v := .ref lx) (C := RX7) (T := TX7) (N := 9) hx hb htw inlX7 hown hK hP 0 rfl rfl 0 (by decide) (htw _ (ck_3 _ (List.mem_of_getElem? (i := 5) rfl))) (fun _ h9 => h9) rfl dX7_signedUpTo_49 ?_
      refine va_get (D := (dC, dI)) (ci := 3) (v := .int lxp) (C := RX3) (T := TX3) (N := 9) hx hb htw inlX3 hown hK hP 1 rfl rfl 6 (by decide) (htw _ (ck_15 _ (List.mem_of_getElem? (i := 13) rfl))) (fun _ h9 => h9) rfl dX7_signedUpTo_52 ?_
      refine xs_size (fun hHz => ?_)
      obtain ⟨hPc, hDc, hFc, hCc⟩ := zsub3 (ws' := [(eO7a pa lx bk pfa pfp psk phe phr phs pop)]) hP hD hS hA [0] (by decide) rfl
      have hKc := hK.sub (tys' := []) [] rfl
      refine vx_callv (vx_runV (As := [.int 1, .int 1, .int lxp]) (rest := []) ⟨hx, hb, hml, hown, htw⟩ (gp_refT l hst dC dI pa lx bk pfa pfp psk phe phr phs pop (1 : Int32) (1 : Int32) lxp sL H.size (gp_signedUpTo_s4 )) (cwV 3 htw (xg_V (ck_16 _ (List.mem_of_getElem? (i := 6) rfl)) (ck_16 _ (List.mem_of_getElem? (i := 7) rfl)) (ck_16 _ (List.mem_of_getElem? (i := 8) rfl)) (ck_1 _ (List.mem_of_getElem? (i := 16) rfl)) (ck_16 _ (List.mem_of_getElem? (i := 9) rfl))) rfl rfl rfl (by exact ⟨rfl, hdc_15.1, hdc_15.2, hdd_48⟩) ⟨Nat.le_of_ble_eq_true rfl, Nat.le_of_ble_eq_true rfl⟩) ⟨fun a U g mk q => by obtain ⟨q0, q1, qP, qK, qD, qx0⟩ := q; exact ⟨q0, q1, qP, va_K.moved (u := U) (U := U.calling g mk a) (Vm.Alike.refl U.vm) qK, qD, xl.calling qx0⟩, va_recv hKc hPc (ci := 7) (q0 := 0) rfl rfl, fun U hU hW => ⟨rfl, by rw [hU], by rw [hU]; exact hPc, va_K.moved hW.alike hKc, hDc.weaken (fun _ _ _ _ => trivial), by rw [hU]; exact xl.warm hW ((xl.kept hXL hS.2.1).narrow hFc)⟩⟩ rfl rfl hl.1 rfl (lv_room (Nat.le_of_ble_eq_true rfl)) dX7_signedUpTo_55 ⟨Nat.le_of_ble_eq_true rfl, Nat.le_of_ble_eq_true rfl⟩) hS (fun q _ h => hFc q h) hFc (fun q _ h => hFc q h) (fun E ce q9 u_17 t H1 locs ht hvm hw hB hz1 hk1 hS hcell hcv hcl => ?_) (fun u_19 t H1 locs ht hvm hw hB hz1 hk1 hS => hw.elim)
      obtain ⟨hE9, hB⟩ := hB
      subst hE9
      obtain ⟨hP1, hK1, hD1⟩ := hB
      rw [ht] at hP1
      have hK1 := va_K.moved hvm.symm hK1
      have hK1 : va_K (dC, dI) vwCl [] s := hK1
      obtain ⟨hP, hD⟩ := va_join (wr := [(eO3a lx lby lfi lco lxe lxa lxt lxp lxn lxl), (eA0 lby cBy 900 fBy), (eA0 lco cCo 23 fCo)]) (w1 := [(eO7a pa lx bk 1 lxp psk phe phr phs pop)]) hP hD [0] [1, 2, 3] hCc rfl (by decide) (by decide) hk1 hFc hP1 hD1
      generalize H1 = H at hP hS hcell ⊢
      obtain ⟨hP, hD⟩ := zre [(eO3a lx lby lfi lco lxe lxa lxt lxp lxn lxl), (eA0 lby cBy 900 fBy), (eA0 lco cCo 23 fCo), (eO7a pa lx bk 1 lxp psk phe phr phs pop)] hP hD rfl
      obtain ⟨hP9, hD9⟩ := zsub2 (ws' := [(eO7a pa lx bk 1 lxp psk phe phr phs pop), (eO3a lx lby lfi lco lxe lxa lxt lxp lxn lxl), (eA0 lby cBy 900 fBy), (eA0 lco cCo 23 fCo)]) hP hD [3, 0, 1, 2] (by decide) rfl
      have hK9 := hK.sub (tys' := []) [] rfl
      exact vx_widen (k := 1) (n := 6) (Nat.le_of_ble_eq_true rfl) (Nat.le_of_ble_eq_true rfl) (vx_out (fun x h9 => (hex x h9).elim) hlocks hcell hcv hcl (fun t ht hal => ⟨(1, lxp, lxa, lxt, lxp, lxn, lxl), ((fun e9 => ⟨by rw [e9], by rw [e9]⟩ : fp_signedUpTo pfa pfp lxe lxa lxt lxp lxn lxl fBy fCo a0 = ((1 : Int32), (0 : Int32), (1 : Int32), lxp, lxa, lxt, lxp, lxn, lxl) → _) ((by rw [fp_signedUpTo]; (try rw [if_neg c_1]); (try rw [if_neg c_2]); try rfl))), ⟨rfl, by rw [ht]; exact hP9, va_K.moved hal hK9, hD9⟩, hS.F ht⟩) hS.2.2 (Nat.le_of_ble_eq_true rfl) (Nat.le_of_ble_eq_true rfl))
  · refine lv_iconst (v := 1) hx hb dX7_signedUpTo_12 (by decide) ?_
    refine lv_goto (tgt := 17) hx hb dX7_signedUpTo_13 (by decide) ?_
    refine lv_istore_n (lv' := [(2, .int 1), (0, .ref pa), (1, .int a0)]) hx hb dX7_signedUpTo_17 rfl hl (by decide) rfl (fun ls hl => ?_)
    refine lv_iload_n hx hb dX7_signedUpTo_18 rfl (lv_at hl 0 rfl) ?_
    refine lv_if_eq (tgt := 29) hx hb dX7_signedUpTo_19 (by decide) (fun c => absurd c (by decide)) (fun _ => ?_)
    refine lv_aload_n hx hb dX7_signedUpTo_22 rfl (lv_at hl 1 rfl) ?_
    refine va_get (D := (dC, dI)) (ci := 7) (v := .ref lx) (C := RX7) (T := TX7) (N := 9) hx hb htw inlX7 hown hK hP 0 rfl rfl 0 (by decide) (htw _ (ck_3 _ (List.mem_of_getElem? (i := 5) rfl))) (fun _ h9 => h9) rfl dX7_signedUpTo_23 ?_
    obtain ⟨hPc, hDc, hFc, hCc⟩ := zsub3 (ws' := [(eO3a lx lby lfi lco lxe lxa lxt lxp lxn lxl), (eA0 lby cBy 900 fBy), (eA0 lco cCo 23 fCo)]) hP hD hS hA [1, 2, 3] (by decide) rfl
    have hKc := hK.sub (tys' := [(cBy, .byte), (cCo, .int)]) [0, 1] rfl
    refine va_callv (va_runV (As := []) (rest := []) ⟨hx, hb, hml, hown, htw⟩ (gz_advance l dC dI lx lby lfi lco lxe lxa lxt lxp lxn lxl cBy fBy cCo fCo H.size h0_lxa h9_lxe) (cwV 0 htw (xg_V (ck_16 _ (List.mem_of_getElem? (i := 11) rfl)) (ck_14 _ (List.mem_of_getElem? (i := 13) rfl)) (ck_14 _ (List.mem_of_getElem? (i := 14) rfl)) (ck_3 _ (List.mem_of_getElem? (i := 4) rfl)) (ck_14 _ (List.mem_of_getElem? (i := 15) rfl))) rfl rfl rfl (by exact ⟨rfl, hdc_4.1, hdc_4.2, hdd_13⟩) ⟨Nat.le_of_ble_eq_true rfl, Nat.le_of_ble_eq_true rfl⟩) ⟨fun a U g mk q => by obtain ⟨q0, q1, qP, qK, qD⟩ := q; exact ⟨q0, q1, qP, va_K.moved (u := U) (U := U.calling g mk a) (Vm.Alike.refl U.vm) qK, qD⟩, va_recv hKc hPc (ci := 3) (q0 := 0) rfl rfl, fun U hU hW => ⟨rfl, by rw [hU], by rw [hU]; exact hPc, va_K.moved hW.alike hKc, hDc.weaken (fun _ _ _ _ => trivial)⟩⟩ rfl rfl hl.1 rfl (lv_room (Nat.le_of_ble_eq_true rfl)) dX7_signedUpTo_26 ⟨Nat.le_of_ble_eq_true rfl, Nat.le_of_ble_eq_true rfl⟩) hS (fun q _ h => hFc q h) hFc (fun u_21 t H1 locs ht hvm hw hB hz1 hk1 hS => ?_)
    try dsimp only at hw
    obtain ⟨hP1, hK1, hD1⟩ := hB
    rw [ht] at hP1
    have hK1 := va_K.moved hvm.symm hK1
    have hK1 : va_K (dC, dI) vwCl [] s := hK1
    obtain ⟨hP, hD⟩ := va_join (wr := [(eO7a pa lx bk pfa pfp psk phe phr phs pop)]) (w1 := [(eO3a lx lby lfi lco lxe u_21.1 u_21.2.1 u_21.2.2.1 u_21.2.2.2.1 u_21.2.2.2.2), (eA0 lby cBy 900 fBy), (eA0 lco cCo 23 fCo)]) hP hD [1, 2, 3] [0] hCc rfl (by decide) (by decide) hk1 hFc hP1 hD1
    generalize H1 = H at hP hS ⊢
    obtain ⟨hP, hD⟩ := zre [(eO7a pa lx bk pfa pfp psk phe phr phs pop), (eO3a lx lby lfi lco lxe u_21.1 u_21.2.1 u_21.2.2.1 u_21.2.2.2.1 u_21.2.2.2.2), (eA0 lby cBy 900 fBy), (eA0 lco cCo 23 fCo)] hP hD rfl
    refine W.widen (k := 0) (n := 0) (by omega) (by omega) ?_
    obtain ⟨hw, hp_27⟩ := hw
    have hq_u_21 : u_21 = (fe_advance lxe lxa lxn lxl fBy fCo) := hw
    refine lv_aload_n hx hb dX7_signedUpTo_29 rfl (lv_at hl 1 rfl) ?_
    refine lv_aload_n hx hb dX7_signedUpTo_30 rfl (lv_at hl 1 rfl) ?_
    refine va_get (D := (dC, dI)) (ci := 7) (v := .ref lx) (C := RX7) (T := TX7) (N := 9) hx hb htw inlX7 hown hK hP 0 rfl rfl 0 (by decide) (htw _ (ck_3 _ (List.mem_of_getElem? (i := 5) rfl))) (fun _ h9 => h9) rfl dX7_signedUpTo_31 ?_
    refine va_get (D := (dC, dI)) (ci := 3) (v := .int u_21.2.1) (C := RX3) (T := TX3) (N := 9) hx hb htw inlX3 hown hK hP 1 rfl rfl 5 (by decide) (htw _ (ck_13 _ (List.mem_of_getElem? (i := 9) rfl))) (fun _ h9 => h9) rfl dX7_signedUpTo_34 ?_
    refine lv_bipush (v := 24) hx hb dX7_signedUpTo_37 (by decide) ?_
    refine lv_icmp_eq (tgt := 46) hx hb dX7_signedUpTo_39 (by decide) (fun c_28 => ?_) (fun c_28 => ?_)
    · refine lv_iconst (v := 0) hx hb dX7_signedUpTo_46 (by decide) ?_
      refine lv_iconst (v := 1) hx hb dX7_signedUpTo_47 (by decide) ?_
      refine lv_aload_n hx hb dX7_signedUpTo_48 rfl (lv_at hl 1 rfl) ?_
      refine va_get (D := (dC, dI)) (ci := 7) (v := .ref lx) (C := RX7) (T := TX7) (N := 9) hx hb htw inlX7 hown hK hP 0 rfl rfl 0 (by decide) (htw _ (ck_3 _ (List.mem_of_getElem? (i := 5) rfl))) (fun _ h9 => h9) rfl dX7_signedUpTo_49 ?_
      refine va_get (D := (dC, dI)) (ci := 3) (v := .int u_21.2.2.1) (C := RX3) (T := TX3) (N := 9) hx hb htw inlX3 hown hK hP 1 rfl rfl 6 (by decide) (htw _ (ck_15 _ (List.mem_of_getElem? (i := 13) rfl))) (fun _ h9 => h9) rfl dX7_signedUpTo_52 ?_
      have hPc := hP.sub (ws' := []) [] rfl
      have hKc := hK.sub (tys' := []) [] rfl
      refine va_csv (W.runV (As := [.int 0, .int 1, .int u_21.2.2.1]) (rest := []) ⟨hx, hb, hml, hown, htw⟩ (gp_ref0 l dC dI (0 : Int32) (1 : Int32) u_21.2.2.1 pa (gp_signedUpTo_s5 )) (cwV 3 htw (xg_V (ck_16 _ (List.mem_of_getElem? (i := 6) rfl)) (ck_16 _ (List.mem_of_getElem? (i := 7) rfl)) (ck_16 _ (List.mem_of_getElem? (i := 8) rfl)) (ck_1 _ (List.mem_of_getElem? (i := 16) rfl)) (ck_16 _ (List.mem_of_getElem? (i := 9) rfl))) rfl rfl rfl (by exact ⟨rfl, hdc_15.1, hdc_15.2, hdd_48⟩) ⟨Nat.le_of_ble_eq_true rfl, Nat.le_of_ble_eq_true rfl⟩) ⟨fun a U g mk q => by obtain ⟨q0, qP, qK⟩ := q; exact ⟨q0, qP, va_K.moved (u := U) (U := U.calling g mk a) (Vm.Alike.refl U.vm) qK⟩, va_recv hK hP (ci := 7) (q0 := 0) rfl rfl, fun U hU hW => ⟨rfl, by rw [hU]; exact hPc, va_K.moved hW.alike hKc⟩⟩ rfl rfl hl.1 rfl (lv_room (Nat.le_of_ble_eq_true rfl)) dX7_signedUpTo_55 ⟨Nat.le_of_ble_eq_true rfl, Nat.le_of_ble_eq_true rfl⟩) (fun hw => ?_)
      try dsimp only at hw
      refine lv_aload_n hx hb dX7_signedUpTo_58 rfl (lv_at hl 1 rfl) ?_
      refine lv_aload_n hx hb dX7_signedUpTo_59 rfl (lv_at hl 1 rfl) ?_
      refine va_get (D := (dC, dI)) (ci := 7) (v := .ref lx) (C := RX7) (T := TX7) (N := 9) hx hb htw inlX7 hown hK hP 0 rfl rfl 0 (by decide) (htw _ (ck_3 _ (List.mem_of_getElem? (i := 5) rfl))) (fun _ h9 => h9) rfl dX7_signedUpTo_60 ?_
      refine va_get (D := (dC, dI)) (ci := 3) (v := .int u_21.2.2.2.1) (C := RX3) (T := TX3) (N := 9) hx hb htw inlX3 hown hK hP 1 rfl rfl 7 (by decide) (htw _ (ck_16 _ (List.mem_of_getElem? (i := 20) rfl))) (fun _ h9 => h9) rfl dX7_signedUpTo_63 ?_
      refine lv_iload_n hx hb dX7_signedUpTo_66 rfl (lv_at hl 2 rfl) ?_
      refine lv_icmp_le (tgt := 74) hx hb dX7_signedUpTo_67 (by decide) (fun c_30 => ?_) (fun c_30 => ?_)
      · refine lv_iconst (v := 0) hx hb dX7_signedUpTo_74 (by decide) ?_
        refine lv_iconst (v := 2) hx hb dX7_signedUpTo_75 (by decide) ?_
        refine lv_aload_n hx hb dX7_signedUpTo_76 rfl (lv_at hl 1 rfl) ?_
        refine va_get (D := (dC, dI)) (ci := 7) (v := .ref lx) (C := RX7) (T := TX7) (N := 9) hx hb htw inlX7 hown hK hP 0 rfl rfl 0 (by decide) (htw _ (ck_3 _ (List.mem_of_getElem? (i := 5) rfl))) (fun _ h9 => h9) rfl dX7_signedUpTo_77 ?_
        refine va_get (D := (dC, dI)) (ci := 3) (v := .int u_21.2.2.1) (C := RX3) (T := TX3) (N := 9) hx hb htw inlX3 hown hK hP 1 rfl rfl 6 (by decide) (htw _ (ck_15 _ (List.mem_of_getElem? (i := 13) rfl))) (fun _ h9 => h9) rfl dX7_signedUpTo_80 ?_
        have hPc := hP.sub (ws' := []) [] rfl
        have hKc := hK.sub (tys' := []) [] rfl
        refine va_csv (W.runV (As := [.int 0, .int 2, .int u_21.2.2.1]) (rest := []) ⟨hx, hb, hml, hown, htw⟩ (gp_ref0 l dC dI (0 : Int32) (2 : Int32) u_21.2.2.1 pa (gp_signedUpTo_s6 )) (cwV 3 htw (xg_V (ck_16 _ (List.mem_of_getElem? (i := 6) rfl)) (ck_16 _ (List.mem_of_getElem? (i := 7) rfl)) (ck_16 _ (List.mem_of_getElem? (i := 8) rfl)) (ck_1 _ (List.mem_of_getElem? (i := 16) rfl)) (ck_16 _ (List.mem_of_getElem? (i := 9) rfl))) rfl rfl rfl (by exact ⟨rfl, hdc_15.1, hdc_15.2, hdd_48⟩) ⟨Nat.le_of_ble_eq_true rfl, Nat.le_of_ble_eq_true rfl⟩) ⟨fun a U g mk q => by obtain ⟨q0, qP, qK⟩ := q; exact ⟨q0, qP, va_K.moved (u := U) (U := U.calling g mk a) (Vm.Alike.refl U.vm) qK⟩, va_recv hK hP (ci := 7) (q0 := 0) rfl rfl, fun U hU hW => ⟨rfl, by rw [hU]; exact hPc, va_K.moved hW.alike hKc⟩⟩ rfl rfl hl.1 rfl (lv_room (Nat.le_of_ble_eq_true rfl)) dX7_signedUpTo_83 ⟨Nat.le_of_ble_eq_true rfl, Nat.le_of_ble_eq_true rfl⟩) (fun hw => ?_)
        try dsimp only at hw
        refine lv_iload_n hx hb dX7_signedUpTo_86 rfl (lv_at hl 0 rfl) ?_
        refine lv_if_eq (tgt := 101) hx hb dX7_signedUpTo_87 (by decide) (fun c => absurd c (by decide)) (fun _ => ?_)
        refine lv_aload_n hx hb dX7_signedUpTo_90 rfl (lv_at hl 1 rfl) ?_
        refine va_get (D := (dC, dI)) (ci := 7) (v := .ref lx) (C := RX7) (T := TX7) (N := 9) hx hb htw inlX7 hown hK hP 0 rfl rfl 0 (by decide) (htw _ (ck_3 _ (List.mem_of_getElem? (i := 5) rfl))) (fun _ h9 => h9) rfl dX7_signedUpTo_91 ?_
        refine va_get (D := (dC, dI)) (ci := 3) (v := .int u_21.2.2.2.1) (C := RX3) (T := TX3) (N := 9) hx hb htw inlX3 hown hK hP 1 rfl rfl 7 (by decide) (htw _ (ck_16 _ (List.mem_of_getElem? (i := 20) rfl))) (fun _ h9 => h9) rfl dX7_signedUpTo_94 ?_
        refine lv_ineg hx hb dX7_signedUpTo_97 ?_
        refine lv_goto (tgt := 108) hx hb dX7_signedUpTo_98 (by decide) ?_
        refine lv_istore_n (lv' := [(3, .int (-u_21.2.2.2.1)), (2, .int 1), (0, .ref pa), (1, .int a0)]) hx hb dX7_signedUpTo_108 rfl hl (by decide) rfl (fun ls hl => ?_)
        refine lv_aload_n hx hb dX7_signedUpTo_109 rfl (lv_at hl 2 rfl) ?_
        refine va_get (D := (dC, dI)) (ci := 7) (v := .ref lx) (C := RX7) (T := TX7) (N := 9) hx hb htw inlX7 hown hK hP 0 rfl rfl 0 (by decide) (htw _ (ck_3 _ (List.mem_of_getElem? (i := 5) rfl))) (fun _ h9 => h9) rfl dX7_signedUpTo_110 ?_
        obtain ⟨hPc, hDc, hFc, hCc⟩ := zsub3 (ws' := [(eO3a lx lby lfi lco lxe u_21.1 u_21.2.1 u_21.2.2.1 u_21.2.2.2.1 u_21.2.2.2.2), (eA0 lby cBy 900 fBy), (eA0 lco cCo 23 fCo)]) hP hD hS hA [1, 2, 3] (by decide) rfl
        have hKc := hK.sub (tys' := [(cBy, .byte), (cCo, .int)]) [0, 1] rfl
        refine va_callv (va_runV (As := []) (rest := []) ⟨hx, hb, hml, hown, htw⟩ (gz_advance l dC dI lx lby lfi lco lxe u_21.1 u_21.2.1 u_21.2.2.1 u_21.2.2.2.1 u_21.2.2.2.2 cBy fBy cCo fCo H.size (gp_signedUpTo_s7 (y0 := u_21.1) hp_27) h9_lxe) (cwV 0 htw (xg_V (ck_16 _ (List.mem_of_getElem? (i := 11) rfl)) (ck_14 _ (List.mem_of_getElem? (i := 13) rfl)) (ck_14 _ (List.mem_of_getElem? (i := 14) rfl)) (ck_3 _ (List.mem_of_getElem? (i := 4) rfl)) (ck_14 _ (List.mem_of_getElem? (i := 15) rfl))) rfl rfl rfl (by exact ⟨rfl, hdc_4.1, hdc_4.2, hdd_13⟩) ⟨Nat.le_of_ble_eq_true rfl, Nat.le_of_ble_eq_true rfl⟩) ⟨fun a U g mk q => by obtain ⟨q0, q1, qP, qK, qD⟩ := q; exact ⟨q0, q1, qP, va_K.moved (u := U) (U := U.calling g mk a) (Vm.Alike.refl U.vm) qK, qD⟩, va_recv hKc hPc (ci := 3) (q0 := 0) rfl rfl, fun U hU hW => ⟨rfl, by rw [hU], by rw [hU]; exact hPc, va_K.moved hW.alike hKc, hDc.weaken (fun _ _ _ _ => trivial)⟩⟩ rfl rfl hl.1 rfl (lv_room (Nat.le_of_ble_eq_true rfl)) dX7_signedUpTo_113 ⟨Nat.le_of_ble_eq_true rfl, Nat.le_of_ble_eq_true rfl⟩) hS (fun q _ h => hFc q h) hFc (fun u_33 t H1 locs ht hvm hw hB hz1 hk1 hS => ?_)
        try dsimp only at hw
        obtain ⟨hP1, hK1, hD1⟩ := hB
        rw [ht] at hP1
        have hK1 := va_K.moved hvm.symm hK1
        have hK1 : va_K (dC, dI) vwCl [] s := hK1
        obtain ⟨hP, hD⟩ := va_join (wr := [(eO7a pa lx bk pfa pfp psk phe phr phs pop)]) (w1 := [(eO3a lx lby lfi lco lxe u_33.1 u_33.2.1 u_33.2.2.1 u_33.2.2.2.1 u_33.2.2.2.2), (eA0 lby cBy 900 fBy), (eA0 lco cCo 23 fCo)]) hP hD [1, 2, 3] [0] hCc rfl (by decide) (by decide) hk1 hFc hP1 hD1
        generalize H1 = H at hP hS ⊢
        obtain ⟨hP, hD⟩ := zre [(eO7a pa lx bk pfa pfp psk phe phr phs pop), (eO3a lx lby lfi lco lxe u_33.1 u_33.2.1 u_33.2.2.1 u_33.2.2.2.1 u_33.2.2.2.2), (eA0 lby cBy 900 fBy), (eA0 lco cCo 23 fCo)] hP hD rfl
        refine W.widen (k := 0) (n := 0) (by omega) (by omega) ?_
        obtain ⟨hw, hp_39⟩ := hw
        have hq_u_33 : u_33 = (fe_advance lxe u_21.1 u_21.2.2.2.1 u_21.2.2.2.2 fBy fCo) := hw
        refine lv_iload_n hx hb dX7_signedUpTo_116 rfl (lv_at hl 0 rfl) ?_
        refine xs_size (fun hHz => ?_)
        refine vx_ret ?_
        refine W.widen (k := 1) (n := 6) (by omega) (by omega) ?_
        have hP9 := hP
        have hD9 := hD
        have hK9 := hK.sub (tys' := []) [] rfl
        exact W.iret (v := (-u_21.2.2.2.1)) hx hb hr (fun t ht hW => ⟨⟨(-u_21.2.2.2.1), (pfa, pfp, u_33.1, u_33.2.1, u_33.2.2.1, u_33.2.2.2.1, u_33.2.2.2.2), rfl, ⟨((fun e9 => ⟨by rw [e9], by rw [e9], by rw [e9]⟩ : fp_signedUpTo pfa pfp lxe lxa lxt lxp lxn lxl fBy fCo a0 = ((0 : Int32), (-u_21.2.2.2.1), pfa, pfp, u_33.1, u_33.2.1, u_33.2.2.1, u_33.2.2.2.1, u_33.2.2.2.2) → _) ((by rw [fp_signedUpTo]; (try rw [if_pos c_1]); (try rw [← hq_u_21]); (try rw [xL_eq]); (try rw [if_pos c_28]); (try rw [if_pos c_30]); (try rw [← hq_u_33]); (try rw [xL_eq]); try rfl))), (gp_signedUpTo_s8 (y0 := u_33.1) hp_39)⟩, ⟨by rw [ht]; exact hP9, va_K.moved hW.alike hK9, hD9⟩, by rw [ht]; first | exact hHz | exact hHz.trans (by rw [rH])⟩, hS.F ht⟩) hS.2.2 dX7_signedUpTo_117
      · refine lv_iconst (v := 1) hx hb dX7_signedUpTo_70 (by decide) ?_
        refine lv_goto (tgt := 75) hx hb dX7_signedUpTo_71 (by decide) ?_
        refine lv_iconst (v := 2) hx hb dX7_signedUpTo_75 (by decide) ?_
        refine lv_aload_n hx hb dX7_signedUpTo_76 rfl (lv_at hl 1 rfl) ?_
        refine va_get (D := (dC, dI)) (ci := 7) (v := .ref lx) (C := RX7) (T := TX7) (N := 9) hx hb htw inlX7 hown hK hP 0 rfl rfl 0 (by decide) (htw _ (ck_3 _ (List.mem_of_getElem? (i := 5) rfl))) (fun _ h9 => h9) rfl dX7_signedUpTo_77 ?_
        refine va_get (D := (dC, dI)) (ci := 3) (v := .int u_21.2.2.1) (C := RX3) (T := TX3) (N := 9) hx hb htw inlX3 hown hK hP 1 rfl rfl 6 (by decide) (htw _ (ck_15 _ (List.mem_of_getElem? (i := 13) rfl))) (fun _ h9 => h9) rfl dX7_signedUpTo_80 ?_
        refine xs_size (fun hHz => ?_)
        obtain ⟨hPc, hDc, hFc, hCc⟩ := zsub3 (ws' := [(eO7a pa lx bk pfa pfp psk phe phr phs pop)]) hP hD hS hA [0] (by decide) rfl
        have hKc := hK.sub (tys' := []) [] rfl
        refine vx_callv (vx_runV (As := [.int 1, .int 2, .int u_21.2.2.1]) (rest := []) ⟨hx, hb, hml, hown, htw⟩ (gp_refT l hst dC dI pa lx bk pfa pfp psk phe phr phs pop (1 : Int32) (2 : Int32) u_21.2.2.1 sL H.size (gp_signedUpTo_s9 )) (cwV 3 htw (xg_V (ck_16 _ (List.mem_of_getElem? (i := 6) rfl)) (ck_16 _ (List.mem_of_getElem? (i := 7) rfl)) (ck_16 _ (List.mem_of_getElem? (i := 8) rfl)) (ck_1 _ (List.mem_of_getElem? (i := 16) rfl)) (ck_16 _ (List.mem_of_getElem? (i := 9) rfl))) rfl rfl rfl (by exact ⟨rfl, hdc_15.1, hdc_15.2, hdd_48⟩) ⟨Nat.le_of_ble_eq_true rfl, Nat.le_of_ble_eq_true rfl⟩) ⟨fun a U g mk q => by obtain ⟨q0, q1, qP, qK, qD, qx0⟩ := q; exact ⟨q0, q1, qP, va_K.moved (u := U) (U := U.calling g mk a) (Vm.Alike.refl U.vm) qK, qD, xl.calling qx0⟩, va_recv hKc hPc (ci := 7) (q0 := 0) rfl rfl, fun U hU hW => ⟨rfl, by rw [hU], by rw [hU]; exact hPc, va_K.moved hW.alike hKc, hDc.weaken (fun _ _ _ _ => trivial), by rw [hU]; exact xl.warm hW ((xl.kept hXL hS.2.1).narrow hFc)⟩⟩ rfl rfl hl.1 rfl (lv_room (Nat.le_of_ble_eq_true rfl)) dX7_signedUpTo_83 ⟨Nat.le_of_ble_eq_true rfl, Nat.le_of_ble_eq_true rfl⟩) hS (fun q _ h => hFc q h) hFc (fun q _ h => hFc q h) (fun E ce q9 u_40 t H1 locs ht hvm hw hB hz1 hk1 hS hcell hcv hcl => ?_) (fun u_42 t H1 locs ht hvm hw hB hz1 hk1 hS => hw.elim)
        obtain ⟨hE9, hB⟩ := hB
        subst hE9
        obtain ⟨hP1, hK1, hD1⟩ := hB
        rw [ht] at hP1
        have hK1 := va_K.moved hvm.symm hK1
        have hK1 : va_K (dC, dI) vwCl [] s := hK1
        obtain ⟨hP, hD⟩ := va_join (wr := [(eO3a lx lby lfi lco lxe u_21.1 u_21.2.1 u_21.2.2.1 u_21.2.2.2.1 u_21.2.2.2.2), (eA0 lby cBy 900 fBy), (eA0 lco cCo 23 fCo)]) (w1 := [(eO7a pa lx bk 2 u_21.2.2.1 psk phe phr phs pop)]) hP hD [0] [1, 2, 3] hCc rfl (by decide) (by decide) hk1 hFc hP1 hD1
        generalize H1 = H at hP hS hcell ⊢
        obtain ⟨hP, hD⟩ := zre [(eO3a lx lby lfi lco lxe u_21.1 u_21.2.1 u_21.2.2.1 u_21.2.2.2.1 u_21.2.2.2.2), (eA0 lby cBy 900 fBy), (eA0 lco cCo 23 fCo), (eO7a pa lx bk 2 u_21.2.2.1 psk phe phr phs pop)] hP hD rfl
        obtain ⟨hP9, hD9⟩ := zsub2 (ws' := [(eO7a pa lx bk 2 u_21.2.2.1 psk phe phr phs pop), (eO3a lx lby lfi lco lxe u_21.1 u_21.2.1 u_21.2.2.1 u_21.2.2.2.1 u_21.2.2.2.2), (eA0 lby cBy 900 fBy), (eA0 lco cCo 23 fCo)]) hP hD [3, 0, 1, 2] (by decide) rfl
        have hK9 := hK.sub (tys' := []) [] rfl
        exact vx_widen (k := 1) (n := 6) (Nat.le_of_ble_eq_true rfl) (Nat.le_of_ble_eq_true rfl) (vx_out (fun x h9 => (hex x h9).elim) hlocks hcell hcv hcl (fun t ht hal => ⟨(2, u_21.2.2.1, u_21.1, u_21.2.1, u_21.2.2.1, u_21.2.2.2.1, u_21.2.2.2.2), ((fun e9 => ⟨by rw [e9], by rw [e9]⟩ : fp_signedUpTo pfa pfp lxe lxa lxt lxp lxn lxl fBy fCo a0 = ((1 : Int32), (0 : Int32), (2 : Int32), u_21.2.2.1, u_21.1, u_21.2.1, u_21.2.2.1, u_21.2.2.2.1, u_21.2.2.2.2) → _) ((by rw [fp_signedUpTo]; (try rw [if_pos c_1]); (try rw [← hq_u_21]); (try rw [xL_eq]); (try rw [if_pos c_28]); (try rw [if_neg c_30]); try rfl))), ⟨rfl, by rw [ht]; exact hP9, va_K.moved hal hK9, hD9⟩, hS.F ht⟩) hS.2.2 (Nat.le_of_ble_eq_true rfl) (Nat.le_of_ble_eq_true rfl))
    · refine lv_iconst (v := 1) hx hb dX7_signedUpTo_42 (by decide) ?_
      refine lv_goto (tgt := 47) hx hb dX7_signedUpTo_43 (by decide) ?_
      refine lv_iconst (v := 1) hx hb dX7_signedUpTo_47 (by decide) ?_
      refine lv_aload_n hx hb dX7_signedUpTo_48 rfl (lv_at hl 1 rfl) ?_
      refine va_get (D := (dC, dI)) (ci := 7) (v := .ref lx) (C := RX7) (T := TX7) (N := 9) hx hb htw inlX7 hown hK hP 0 rfl rfl 0 (by decide) (htw _ (ck_3 _ (List.mem_of_getElem? (i := 5) rfl))) (fun _ h9 => h9) rfl dX7_signedUpTo_49 ?_
      refine va_get (D := (dC, dI)) (ci := 3) (v := .int u_21.2.2.1) (C := RX3) (T := TX3) (N := 9) hx hb htw inlX3 hown hK hP 1 rfl rfl 6 (by decide) (htw _ (ck_15 _ (List.mem_of_getElem? (i := 13) rfl))) (fun _ h9 => h9) rfl dX7_signedUpTo_52 ?_
      refine xs_size (fun hHz => ?_)
      obtain ⟨hPc, hDc, hFc, hCc⟩ := zsub3 (ws' := [(eO7a pa lx bk pfa pfp psk phe phr phs pop)]) hP hD hS hA [0] (by decide) rfl
      have hKc := hK.sub (tys' := []) [] rfl
      refine vx_callv (vx_runV (As := [.int 1, .int 1, .int u_21.2.2.1]) (rest := []) ⟨hx, hb, hml, hown, htw⟩ (gp_refT l hst dC dI pa lx bk pfa pfp psk phe phr phs pop (1 : Int32) (1 : Int32) u_21.2.2.1 sL H.size (gp_signedUpTo_s10 )) (cwV 3 htw (xg_V (ck_16 _ (List.mem_of_getElem? (i := 6) rfl)) (ck_16 _ (List.mem_of_getElem? (i := 7) rfl)) (ck_16 _ (List.mem_of_getElem? (i := 8) rfl)) (ck_1 _ (List.mem_of_getElem? (i := 16) rfl)) (ck_16 _ (List.mem_of_getElem? (i := 9) rfl))) rfl rfl rfl (by exact ⟨rfl, hdc_15.1, hdc_15.2, hdd_48⟩) ⟨Nat.le_of_ble_eq_true rfl, Nat.le_of_ble_eq_true rfl⟩) ⟨fun a U g mk q => by obtain ⟨q0, q1, qP, qK, qD, qx0⟩ := q; exact ⟨q0, q1, qP, va_K.moved (u := U) (U := U.calling g mk a) (Vm.Alike.refl U.vm) qK, qD, xl.calling qx0⟩, va_recv hKc hPc (ci := 7) (q0 := 0) rfl rfl, fun U hU hW => ⟨rfl, by rw [hU], by rw [hU]; exact hPc, va_K.moved hW.alike hKc, hDc.weaken (fun _ _ _ _ => trivial), by rw [hU]; exact xl.warm hW ((xl.kept hXL hS.2.1).narrow hFc)⟩⟩ rfl rfl hl.1 rfl (lv_room (Nat.le_of_ble_eq_true rfl)) dX7_signedUpTo_55 ⟨Nat.le_of_ble_eq_true rfl, Nat.le_of_ble_eq_true rfl⟩) hS (fun q _ h => hFc q h) hFc (fun q _ h => hFc q h) (fun E ce q9 u_43 t H1 locs ht hvm hw hB hz1 hk1 hS hcell hcv hcl => ?_) (fun u_45 t H1 locs ht hvm hw hB hz1 hk1 hS => hw.elim)
      obtain ⟨hE9, hB⟩ := hB
      subst hE9
      obtain ⟨hP1, hK1, hD1⟩ := hB
      rw [ht] at hP1
      have hK1 := va_K.moved hvm.symm hK1
      have hK1 : va_K (dC, dI) vwCl [] s := hK1
      obtain ⟨hP, hD⟩ := va_join (wr := [(eO3a lx lby lfi lco lxe u_21.1 u_21.2.1 u_21.2.2.1 u_21.2.2.2.1 u_21.2.2.2.2), (eA0 lby cBy 900 fBy), (eA0 lco cCo 23 fCo)]) (w1 := [(eO7a pa lx bk 1 u_21.2.2.1 psk phe phr phs pop)]) hP hD [0] [1, 2, 3] hCc rfl (by decide) (by decide) hk1 hFc hP1 hD1
      generalize H1 = H at hP hS hcell ⊢
      obtain ⟨hP, hD⟩ := zre [(eO3a lx lby lfi lco lxe u_21.1 u_21.2.1 u_21.2.2.1 u_21.2.2.2.1 u_21.2.2.2.2), (eA0 lby cBy 900 fBy), (eA0 lco cCo 23 fCo), (eO7a pa lx bk 1 u_21.2.2.1 psk phe phr phs pop)] hP hD rfl
      obtain ⟨hP9, hD9⟩ := zsub2 (ws' := [(eO7a pa lx bk 1 u_21.2.2.1 psk phe phr phs pop), (eO3a lx lby lfi lco lxe u_21.1 u_21.2.1 u_21.2.2.1 u_21.2.2.2.1 u_21.2.2.2.2), (eA0 lby cBy 900 fBy), (eA0 lco cCo 23 fCo)]) hP hD [3, 0, 1, 2] (by decide) rfl
      have hK9 := hK.sub (tys' := []) [] rfl
      exact vx_widen (k := 1) (n := 6) (Nat.le_of_ble_eq_true rfl) (Nat.le_of_ble_eq_true rfl) (vx_out (fun x h9 => (hex x h9).elim) hlocks hcell hcv hcl (fun t ht hal => ⟨(1, u_21.2.2.1, u_21.1, u_21.2.1, u_21.2.2.1, u_21.2.2.2.1, u_21.2.2.2.2), ((fun e9 => ⟨by rw [e9], by rw [e9]⟩ : fp_signedUpTo pfa pfp lxe lxa lxt lxp lxn lxl fBy fCo a0 = ((1 : Int32), (0 : Int32), (1 : Int32), u_21.2.2.1, u_21.1, u_21.2.1, u_21.2.2.1, u_21.2.2.2.1, u_21.2.2.2.2) → _) ((by rw [fp_signedUpTo]; (try rw [if_pos c_1]); (try rw [← hq_u_21]); (try rw [xL_eq]); (try rw [if_neg c_28]); try rfl))), ⟨rfl, by rw [ht]; exact hP9, va_K.moved hal hK9, hD9⟩, hS.F ht⟩) hS.2.2 (Nat.le_of_ble_eq_true rfl) (Nat.le_of_ble_eq_true rfl))
