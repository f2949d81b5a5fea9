def fe_readNumber_c (lxe : Int32) (fBy : Nat → Int32) : Nat → (Int32) → (Int32) → (Int32) × (Int32)
  | 0, lxa_c, lxn_c => (lxa_c, lxn_c)
  | n + 1, lxa_c, lxn_c => (if lxe ≤ lxa_c then (lxa_c, lxn_c) else (if fBy lxa_c.toNatClampNeg < 48 then (lxa_c, lxn_c) else (if 57 < fBy lxa_c.toNatClampNeg then (lxa_c, lxn_c) else (if 1000000 ≤ lxn_c then fe_readNumber_c lxe fBy n (lxa_c + 1) lxn_c else fe_readNumber_c lxe fBy n (lxa_c + 1) (((lxn_c * 10) + (fBy lxa_c.toNatClampNeg)) - 48)))))
def fe_readNumber (lxe : Int32) (lxa : Int32) (fBy : Nat → Int32) : (Int32) × (Int32) × (Int32) := (xL (fe_readNumber_c lxe fBy 900 lxa (0 : Int32)) (fun X_1 => ((24 : Int32), X_1.2, X_1.1)))
theorem ge_readNumber_s0 {y0 : Int32} {y1 : Int32} (h0 : y1 ≤ y0) (h1 : ¬ (y0 < 0)) (h2 : y1 ≤ 900) : ¬ (y0 < 0) := h1
theorem ge_readNumber_s1 {y0 : Int32} {y1 : Int32} (h0 : y1 ≤ y0) (h1 : ¬ (y0 < 0)) (h2 : y1 ≤ 900) : ¬ (y0 < 0) := h1
theorem ge_readNumber_s2 {y0 : Int32} {y1 : Int32} (h0 : ¬ (y1 ≤ y0)) (h1 : ¬ (y0 < 0)) (h2 : y1 ≤ 900) : ¬ (y0 < 0) ∧ ¬ (900 ≤ y0) := by lia
theorem ge_readNumber_s3 {y0 : Int32} {y1 : Int32} (h0 : ¬ (y1 ≤ y0)) (h1 : ¬ (y0 < 0)) (h2 : y1 ≤ 900) : ¬ (y0 < 0) := h1
theorem ge_readNumber_s4 {y0 : Int32} {y1 : Int32} (h0 : ¬ (y1 ≤ y0)) (h1 : ¬ (y0 < 0)) (h2 : y1 ≤ 900) : ¬ (y0 < 0) ∧ ¬ (900 ≤ y0) := by lia
theorem ge_readNumber_s5 {y0 : Int32} {y1 : Int32} (h0 : ¬ (y1 ≤ y0)) (h1 : ¬ (y0 < 0)) (h2 : y1 ≤ 900) : ¬ (y0 < 0) := h1
theorem ge_readNumber_s6 {y0 : Int32} {y1 : Int32} (h0 : ¬ (y1 ≤ y0)) (h1 : ¬ (y0 < 0)) (h2 : y1 ≤ 900) : ¬ ((y0 + 1) < 0) := by lia
theorem ge_readNumber_s7 {y0 : Int32} {y1 : Int32} (h0 : ¬ (y1 ≤ y0)) (h1 : ¬ (y0 < 0)) (h2 : y1 ≤ 900) : ¬ (y0 < 0) ∧ ¬ (900 ≤ y0) := by lia
theorem ge_readNumber_s8 {y0 : Int32} {y1 : Int32} (h0 : ¬ (y1 ≤ y0)) (h1 : ¬ (y0 < 0)) (h2 : y1 ≤ 900) : ¬ ((y0 + 1) < 0) := by lia
theorem ge_readNumber_s9 {y0 : Int32} (h0 : ¬ (y0 < 0)) : ¬ (y0 < 0) := h0
theorem dX3_readNumber_0 : decode cX3_readNumber 0 = .ok (.aload_n 0, 1) := zk_42 (by decide +kernel)
theorem dX3_readNumber_1 : decode cX3_readNumber 1 = .ok (.iconst 0, 1) := zk_3 (by decide +kernel)
theorem dX3_readNumber_2 : decode cX3_readNumber 2 = .ok (.putfield 69, 3) := zk_181 (by decide +kernel)
theorem dX3_readNumber_90 : decode cX3_readNumber 90 = .ok (.aload_n 0, 1) := zk_42 (by decide +kernel)
theorem dX3_readNumber_91 : decode cX3_readNumber 91 = .ok (.bipush 24, 2) := zk_16 (by decide +kernel)
theorem dX3_readNumber_93 : decode cX3_readNumber 93 = .ok (.putfield 53, 3) := zk_181 (by decide +kernel)
theorem dX3_readNumber_96 : decode cX3_readNumber 96 = .ok (.return_, 1) := zk_177 (by decide +kernel)
theorem dX3_readNumber_5 : decode cX3_readNumber 5 = .ok (.aload_n 0, 1) := zk_42 (by decide +kernel)
theorem dX3_readNumber_6 : decode cX3_readNumber 6 = .ok (.getfield 44, 3) := zk_180 (by decide +kernel)
theorem dX3_readNumber_9 : decode cX3_readNumber 9 = .ok (.aload_n 0, 1) := zk_42 (by decide +kernel)
theorem dX3_readNumber_10 : decode cX3_readNumber 10 = .ok (.getfield 41, 3) := zk_180 (by decide +kernel)
theorem dX3_readNumber_13 : decode cX3_readNumber 13 = .ok (.if_icmp .ge 77, 3) := zk_162 (by decide +kernel)
theorem dX3_readNumber_16 : decode cX3_readNumber 16 = .ok (.aload_n 0, 1) := zk_42 (by decide +kernel)
theorem dX3_readNumber_17 : decode cX3_readNumber 17 = .ok (.getfield 9, 3) := zk_180 (by decide +kernel)
theorem dX3_readNumber_20 : decode cX3_readNumber 20 = .ok (.aload_n 0, 1) := zk_42 (by decide +kernel)
theorem dX3_readNumber_21 : decode cX3_readNumber 21 = .ok (.getfield 44, 3) := zk_180 (by decide +kernel)
theorem dX3_readNumber_24 : decode cX3_readNumber 24 = .ok (.baload, 1) := zk_51 (by decide +kernel)
theorem dX3_readNumber_25 : decode cX3_readNumber 25 = .ok (.bipush 48, 2) := zk_16 (by decide +kernel)
theorem dX3_readNumber_27 : decode cX3_readNumber 27 = .ok (.if_icmp .lt 63, 3) := zk_161 (by decide +kernel)
theorem dX3_readNumber_30 : decode cX3_readNumber 30 = .ok (.aload_n 0, 1) := zk_42 (by decide +kernel)
theorem dX3_readNumber_31 : decode cX3_readNumber 31 = .ok (.getfield 9, 3) := zk_180 (by decide +kernel)
theorem dX3_readNumber_34 : decode cX3_readNumber 34 = .ok (.aload_n 0, 1) := zk_42 (by decide +kernel)
theorem dX3_readNumber_35 : decode cX3_readNumber 35 = .ok (.getfield 44, 3) := zk_180 (by decide +kernel)
theorem dX3_readNumber_38 : decode cX3_readNumber 38 = .ok (.baload, 1) := zk_51 (by decide +kernel)
theorem dX3_readNumber_39 : decode cX3_readNumber 39 = .ok (.bipush 57, 2) := zk_16 (by decide +kernel)
theorem dX3_readNumber_41 : decode cX3_readNumber 41 = .ok (.if_icmp .gt 49, 3) := zk_163 (by decide +kernel)
theorem dX3_readNumber_44 : decode cX3_readNumber 44 = .ok (.aload_n 0, 1) := zk_42 (by decide +kernel)
theorem dX3_readNumber_45 : decode cX3_readNumber 45 = .ok (.getfield 69, 3) := zk_180 (by decide +kernel)
theorem dX3_readNumber_48 : decode cX3_readNumber 48 = .ok (.ldc 72, 2) := zk_18 (by decide +kernel)
theorem dX3_readNumber_50 : decode cX3_readNumber 50 = .ok (.if_icmp .ge 27, 3) := zk_162 (by decide +kernel)
theorem dX3_readNumber_77 : decode cX3_readNumber 77 = .ok (.aload_n 0, 1) := zk_42 (by decide +kernel)
theorem dX3_readNumber_78 : decode cX3_readNumber 78 = .ok (.dup, 1) := zk_89 (by decide +kernel)
theorem dX3_readNumber_79 : decode cX3_readNumber 79 = .ok (.getfield 44, 3) := zk_180 (by decide +kernel)
theorem dX3_readNumber_82 : decode cX3_readNumber 82 = .ok (.iconst 1, 1) := zk_4 (by decide +kernel)
theorem dX3_readNumber_83 : decode cX3_readNumber 83 = .ok (.iadd, 1) := zk_96 (by decide +kernel)
theorem dX3_readNumber_84 : decode cX3_readNumber 84 = .ok (.putfield 44, 3) := zk_181 (by decide +kernel)
theorem dX3_readNumber_87 : decode cX3_readNumber 87 = .ok (.goto (-82), 3) := zk_167 (by decide +kernel)
theorem dX3_readNumber_53 : decode cX3_readNumber 53 = .ok (.aload_n 0, 1) := zk_42 (by decide +kernel)
theorem dX3_readNumber_54 : decode cX3_readNumber 54 = .ok (.aload_n 0, 1) := zk_42 (by decide +kernel)
theorem dX3_readNumber_55 : decode cX3_readNumber 55 = .ok (.getfield 69, 3) := zk_180 (by decide +kernel)
theorem dX3_readNumber_58 : decode cX3_readNumber 58 = .ok (.bipush 10, 2) := zk_16 (by decide +kernel)
theorem dX3_readNumber_60 : decode cX3_readNumber 60 = .ok (.imul, 1) := zk_104 (by decide +kernel)
theorem dX3_readNumber_61 : decode cX3_readNumber 61 = .ok (.aload_n 0, 1) := zk_42 (by decide +kernel)
theorem dX3_readNumber_62 : decode cX3_readNumber 62 = .ok (.getfield 9, 3) := zk_180 (by decide +kernel)
theorem dX3_readNumber_65 : decode cX3_readNumber 65 = .ok (.aload_n 0, 1) := zk_42 (by decide +kernel)
theorem dX3_readNumber_66 : decode cX3_readNumber 66 = .ok (.getfield 44, 3) := zk_180 (by decide +kernel)
theorem dX3_readNumber_69 : decode cX3_readNumber 69 = .ok (.baload, 1) := zk_51 (by decide +kernel)
theorem dX3_readNumber_70 : decode cX3_readNumber 70 = .ok (.iadd, 1) := zk_96 (by decide +kernel)
theorem dX3_readNumber_71 : decode cX3_readNumber 71 = .ok (.bipush 48, 2) := zk_16 (by decide +kernel)
theorem dX3_readNumber_73 : decode cX3_readNumber 73 = .ok (.isub, 1) := zk_100 (by decide +kernel)
theorem dX3_readNumber_74 : decode cX3_readNumber 74 = .ok (.putfield 69, 3) := zk_181 (by decide +kernel)
set_option maxHeartbeats 4000000 in
set_option maxRecDepth 100000 in
theorem ge_readNumber (l : Launch) (dC : Nat → ClassId) (dI : Nat → Nat → Nat) (lx : Nat) (lby : Nat) (lfi : Int32) (lco : Nat) (lxe : Int32) (lxa : Int32) (lxt : Int32) (lxp : Int32) (lxn : Int32) (lxl : Int32) (cBy : ClassId) (fBy : Nat → Int32) (sz : Nat) (h0_lxa : ¬ lxa < 0) (h9_lxe : lxe ≤ 900) : Met l yX3_readNumber (Cond.code yX3_readNumber cX3_readNumber 1 none :: wsL_law) ({ frames := 0, cells := 0, slots := 0, locals := 0 }) (va_Pc [.ref lx] (fun U => U.heap.size = sz ∧ va_P (dC, dI) vwCl [(eO3a lx lby lfi lco lxe lxa lxt lxp lxn lxl), (eA0 lby cBy 900 fBy)] U.heap ∧ va_K (dC, dI) vwCl [(cBy, .byte)] U ∧ va_D (fun _ => True) [(eO3a lx lby lfi lco lxe lxa lxt lxp lxn lxl), (eA0 lby cBy 900 fBy)])) (va_Qv (fun (u : (Int32) × (Int32) × (Int32)) => u = fe_readNumber lxe lxa fBy) (fun (u : (Int32) × (Int32) × (Int32)) t => va_P (dC, dI) vwCl [(eO3a lx lby lfi lco lxe u.2.2 u.1 lxp u.2.1 lxl), (eA0 lby cBy 900 fBy)] t.heap ∧ va_K (dC, dI) vwCl [] t ∧ va_D (va_A [(eO3a lx lby lfi lco lxe lxa lxt lxp lxn lxl), (eA0 lby cBy 900 fBy)] sz) [(eO3a lx lby lfi lco lxe u.2.2 u.1 lxp u.2.1 lxl), (eA0 lby cBy 900 fBy)]) (va_A [(eO3a lx lby lfi lco lxe lxa lxt lxp lxn lxl), (eA0 lby cBy 900 fBy)] sz)) 0 0 (va_A [(eO3a lx lby lfi lco lxe lxa lxt lxp lxn lxl), (eA0 lby cBy 900 fBy)] sz) := by
  refine Met.ofW (cc := cX3_readNumber) (maxL := 1) (ret := none) (by decide) rfl ?_
  intro p e s m args below meth c s₁ B hml hv
  obtain ⟨rfl, hsz, hP, hK, hD0⟩ := hv
  have hx := B.exec
  have hb := B.bytes
  have hr := B.returns
  have hts := atoms_spec (ws := Cond.code yX3_readNumber cX3_readNumber 1 none :: wsL_law) B.pre
  have htw : ∀ w ∈ wsL_law, w.before _ s = true := fun w h => hts w (List.mem_cons_of_mem _ h)
  have hown : s.vm.findClass RX3 = some m.cls := findClass_of_methodNamed B.named
  have hlocks := B.notSynchronized
  subst hsz
  have hD := hD0.self (sz := s.heap.size)
  generalize hAe : va_A [(eO3a lx lby lfi lco lxe lxa lxt lxp lxn lxl), (eA0 lby cBy 900 fBy)] s.heap.size = A at hD ⊢
  have hA : ∀ q : Nat, s.heap.size ≤ q → A q := fun q h => by rw [← hAe]; exact Or.inr h
  obtain ⟨H, rH⟩ : ∃ z : Heap, z = s.heap := ⟨_, rfl⟩
  have hS : va_S A s.heap H [] := by rw [rH]; exact va_S.rf
  have hP : va_P (dC, dI) vwCl [(eO3a lx lby lfi lco lxe lxa lxt lxp lxn lxl), (eA0 lby cBy 900 fBy)] H := by rw [rH]; exact hP
  rw [← rH]
  have hl := lv_entry ([.ref lx]) (n := 1) (Nat.le_of_ble_eq_true rfl)
  rw [lg_entry_eq]
  generalize (lg_sl ([.ref lx]) ++ List.replicate (1 - (lg_sl ([.ref lx])).length) Slot.unset).toArray = ls at hl ⊢
  have hl : lv_has ls 1 [(0, .ref lx)] := hl
  refine lv_aload_n hx hb dX3_readNumber_0 rfl (lv_at hl 0 rfl) ?_
  refine lv_iconst (v := 0) hx hb dX3_readNumber_1 (by decide) ?_
  refine va_put (D := (dC, dI)) (ci := 3) (v := .int 0) (ty := tyX3 7) (C := RX3) (T := TX3) (N := 9) hx hb htw inlX3 tyX3 tyX3_ok nmX3 hown hK hP hD hS 0 rfl rfl 7 (by decide) (htw _ (ck_15 _ (List.mem_of_getElem? (i := 3) rfl))) (fun _ h9 => h9) rfl (tyX3_ok 7 (by decide)) rfl rfl (Nat.le_of_ble_eq_true rfl) dX3_readNumber_2 (fun H locs hP hD hS => ?_)
  obtain ⟨hP, hD⟩ := zre [(eO3a lx lby lfi lco lxe lxa lxt lxp 0 lxl), (eA0 lby cBy 900 fBy)] hP hD rfl
  obtain ⟨X_1, hX_1⟩ : ∃ X9 : (Int32) × (Int32), X9 = fe_readNumber_c lxe fBy 900 lxa (0 : Int32) := ⟨_, rfl⟩
  have hexit_2 : ∀ (lxa_cx : Int32) (lxn_cx : Int32) (hx0 : ¬ lxa_cx < 0) (hE9 : X_1 = (lxa_cx, lxn_cx)) (H : Heap) (locs : List Loc) (ls : Array Slot) (hP : va_P (dC, dI) vwCl [(eO3a lx lby lfi lco lxe lxa_cx lxt lxp lxn_cx lxl), (eA0 lby cBy 900 fBy)] H) (hD : va_D A [(eO3a lx lby lfi lco lxe lxa_cx lxt lxp lxn_cx lxl), (eA0 lby cBy 900 fBy)]) (hS : va_S A s.heap H locs) (hl : lv_has ls 1 [(0, .ref lx)]), W p l e (headSpec (Cond.code yX3_readNumber cX3_readNumber 1 none :: wsL_law) ({ frames := 0, cells := 0, slots := 0, locals := 0 })).room s m ([.ref lx] : List Value).toArray below meth c H locs 0 0 (MQ below (va_Qv (fun (u : (Int32) × (Int32) × (Int32)) => u = fe_readNumber lxe lxa fBy) (fun (u : (Int32) × (Int32) × (Int32)) t => va_P (dC, dI) vwCl [(eO3a lx lby lfi lco lxe u.2.2 u.1 lxp u.2.1 lxl), (eA0 lby cBy 900 fBy)] t.heap ∧ va_K (dC, dI) vwCl [] t ∧ va_D A [(eO3a lx lby lfi lco lxe u.2.2 u.1 lxp u.2.1 lxl), (eA0 lby cBy 900 fBy)]) A) ([.ref lx] : List Value).toArray s 0 0 A) (F0 m 90 ls []) := by
    intro lxa_cx lxn_cx hx0 hE9 H locs ls hP hD hS hl
    have hq_lxa_cx : lxa_cx = X_1.1 := by rw [hE9]
    have hq_lxn_cx : lxn_cx = X_1.2 := by rw [hE9]
    refine lv_aload_n hx hb dX3_readNumber_90 rfl (lv_at hl 0 rfl) ?_
    refine lv_bipush (v := 24) hx hb dX3_readNumber_91 (by decide) ?_
    refine va_put (D := (dC, dI)) (ci := 3) (v := .int 24) (ty := tyX3 5) (C := RX3) (T := TX3) (N := 9) hx hb htw inlX3 tyX3 tyX3_ok nmX3 hown hK hP hD hS 0 rfl rfl 5 (by decide) (htw _ (ck_14 _ (List.mem_of_getElem? (i := 17) rfl))) (fun _ h9 => h9) rfl (tyX3_ok 5 (by decide)) rfl rfl (Nat.le_of_ble_eq_true rfl) dX3_readNumber_93 (fun H locs hP hD hS => ?_)
    obtain ⟨hP, hD⟩ := zre [(eO3a lx lby lfi lco lxe lxa_cx 24 lxp lxn_cx lxl), (eA0 lby cBy 900 fBy)] hP hD rfl
    refine W.widen (k := 0) (n := 0) (by omega) (by omega) ?_
    have hP9 := hP
    have hD9 := hD
    have hK9 := hK.sub (tys' := []) [] rfl
    exact W.vret hx hb hr (fun t ht hW => ⟨⟨(24, lxn_cx, lxa_cx), rfl, (Eq.symm ((by rw [fe_readNumber]; (try rw [← hX_1]); (try rw [xL_eq]); (try rw [← hq_lxa_cx]); (try rw [← hq_lxn_cx]); try rfl))), by rw [ht]; exact hP9, va_K.moved hW.alike hK9, hD9⟩, hS.F ht⟩) hS.2.2 dX3_readNumber_96
  have hloop_3 : ∀ (n : Nat) (lxa_c : Int32) (lxn_c : Int32) (ha0 : ¬ lxa_c < 0) (hfu : lxe.toInt ≤ lxa_c.toInt + (n : Int)) (hI_c : X_1 = fe_readNumber_c lxe fBy n lxa_c lxn_c) (H : Heap) (locs : List Loc) (ls : Array Slot) (hP : va_P (dC, dI) vwCl [(eO3a lx lby lfi lco lxe lxa_c lxt lxp lxn_c lxl), (eA0 lby cBy 900 fBy)] H) (hD : va_D A [(eO3a lx lby lfi lco lxe lxa_c lxt lxp lxn_c lxl), (eA0 lby cBy 900 fBy)]) (hS : va_S A s.heap H locs) (hl : lv_has ls 1 [(0, .ref lx)]), W p l e (headSpec (Cond.code yX3_readNumber cX3_readNumber 1 none :: wsL_law) ({ frames := 0, cells := 0, slots := 0, locals := 0 })).room s m ([.ref lx] : List Value).toArray below meth c H locs 0 0 (MQ below (va_Qv (fun (u : (Int32) × (Int32) × (Int32)) => u = fe_readNumber lxe lxa fBy) (fun (u : (Int32) × (Int32) × (Int32)) t => va_P (dC, dI) vwCl [(eO3a lx lby lfi lco lxe u.2.2 u.1 lxp u.2.1 lxl), (eA0 lby cBy 900 fBy)] t.heap ∧ va_K (dC, dI) vwCl [] t ∧ va_D A [(eO3a lx lby lfi lco lxe u.2.2 u.1 lxp u.2.1 lxl), (eA0 lby cBy 900 fBy)]) A) ([.ref lx] : List Value).toArray s 0 0 A) (F0 m 5 ls []) := by
    intro n
    induction n with
    | zero =>
      intro lxa_c lxn_c ha0 hfu hI_c H locs ls hP hD hS hl
      refine lv_aload_n hx hb dX3_readNumber_5 rfl (lv_at hl 0 rfl) ?_
      refine va_get (D := (dC, dI)) (ci := 3) (v := .int lxa_c) (C := RX3) (T := TX3) (N := 9) hx hb htw inlX3 hown hK hP 0 rfl rfl 4 (by decide) (htw _ (ck_14 _ (List.mem_of_getElem? (i := 11) rfl))) (fun _ h9 => h9) rfl dX3_readNumber_6 ?_
      refine lv_aload_n hx hb dX3_readNumber_9 rfl (lv_at hl 0 rfl) ?_
      refine va_get (D := (dC, dI)) (ci := 3) (v := .int lxe) (C := RX3) (T := TX3) (N := 9) hx hb htw inlX3 hown hK hP 0 rfl rfl 3 (by decide) (htw _ (ck_14 _ (List.mem_of_getElem? (i := 10) rfl))) (fun _ h9 => h9) rfl dX3_readNumber_10 ?_
      refine lv_icmp_ge (tgt := 90) hx hb dX3_readNumber_13 (by decide) (fun c_4 => ?_) (fun c_4 => absurd c_4 (fun h => h (xi_z hfu)))
      exact hexit_2 lxa_c lxn_c (ge_readNumber_s0 (y0 := lxa_c) (y1 := lxe) c_4 ha0 h9_lxe) (hI_c.trans (by rw [fe_readNumber_c]; try rfl)) _ _ ls hP hD hS (lv_sub hl [0] rfl)
    | succ n ih =>
      intro lxa_c lxn_c ha0 hfu hI_c H locs ls hP hD hS hl
      refine lv_aload_n hx hb dX3_readNumber_5 rfl (lv_at hl 0 rfl) ?_
      refine va_get (D := (dC, dI)) (ci := 3) (v := .int lxa_c) (C := RX3) (T := TX3) (N := 9) hx hb htw inlX3 hown hK hP 0 rfl rfl 4 (by decide) (htw _ (ck_14 _ (List.mem_of_getElem? (i := 11) rfl))) (fun _ h9 => h9) rfl dX3_readNumber_6 ?_
      refine lv_aload_n hx hb dX3_readNumber_9 rfl (lv_at hl 0 rfl) ?_
      refine va_get (D := (dC, dI)) (ci := 3) (v := .int lxe) (C := RX3) (T := TX3) (N := 9) hx hb htw inlX3 hown hK hP 0 rfl rfl 3 (by decide) (htw _ (ck_14 _ (List.mem_of_getElem? (i := 10) rfl))) (fun _ h9 => h9) rfl dX3_readNumber_10 ?_
      refine lv_icmp_ge (tgt := 90) hx hb dX3_readNumber_13 (by decide) (fun c_5 => ?_) (fun c_5 => ?_)
      · exact hexit_2 lxa_c lxn_c (ge_readNumber_s1 (y0 := lxa_c) (y1 := lxe) c_5 ha0 h9_lxe) (hI_c.trans (by rw [fe_readNumber_c]; (try rw [if_pos c_5]); try rfl)) _ _ ls hP hD hS (lv_sub hl [0] rfl)
      · refine lv_aload_n hx hb dX3_readNumber_16 rfl (lv_at hl 0 rfl) ?_
        refine va_get (D := (dC, dI)) (ci := 3) (v := .ref lby) (C := RX3) (T := TX3) (N := 9) hx hb htw inlX3 hown hK hP 0 rfl rfl 0 (by decide) (htw _ (ck_3 _ (List.mem_of_getElem? (i := 14) rfl))) (fun _ h9 => h9) rfl dX3_readNumber_17 ?_
        refine lv_aload_n hx hb dX3_readNumber_20 rfl (lv_at hl 0 rfl) ?_
        refine va_get (D := (dC, dI)) (ci := 3) (v := .int lxa_c) (C := RX3) (T := TX3) (N := 9) hx hb htw inlX3 hown hK hP 0 rfl rfl 4 (by decide) (htw _ (ck_14 _ (List.mem_of_getElem? (i := 11) rfl))) (fun _ h9 => h9) rfl dX3_readNumber_21 ?_
        refine va_bald hx hb hK hP 1 0 rfl rfl (xg_inr (N := 900) rfl (ge_readNumber_s2 (y0 := lxa_c) (y1 := lxe) c_5 ha0 h9_lxe).1 (ge_readNumber_s2 (y0 := lxa_c) (y1 := lxe) c_5 ha0 h9_lxe).2) dX3_readNumber_24 ?_
        refine lv_bipush (v := 48) hx hb dX3_readNumber_25 (by decide) ?_
        refine lv_icmp_lt (tgt := 90) hx hb dX3_readNumber_27 (by decide) (fun c_6 => ?_) (fun c_6 => ?_)
        · exact hexit_2 lxa_c lxn_c (ge_readNumber_s3 (y0 := lxa_c) (y1 := lxe) c_5 ha0 h9_lxe) (hI_c.trans (by rw [fe_readNumber_c]; (try rw [if_neg c_5]); (try rw [if_pos c_6]); try rfl)) _ _ ls hP hD hS (lv_sub hl [0] rfl)
        · refine lv_aload_n hx hb dX3_readNumber_30 rfl (lv_at hl 0 rfl) ?_
          refine va_get (D := (dC, dI)) (ci := 3) (v := .ref lby) (C := RX3) (T := TX3) (N := 9) hx hb htw inlX3 hown hK hP 0 rfl rfl 0 (by decide) (htw _ (ck_3 _ (List.mem_of_getElem? (i := 14) rfl))) (fun _ h9 => h9) rfl dX3_readNumber_31 ?_
          refine lv_aload_n hx hb dX3_readNumber_34 rfl (lv_at hl 0 rfl) ?_
          refine va_get (D := (dC, dI)) (ci := 3) (v := .int lxa_c) (C := RX3) (T := TX3) (N := 9) hx hb htw inlX3 hown hK hP 0 rfl rfl 4 (by decide) (htw _ (ck_14 _ (List.mem_of_getElem? (i := 11) rfl))) (fun _ h9 => h9) rfl dX3_readNumber_35 ?_
          refine va_bald hx hb hK hP 1 0 rfl rfl (xg_inr (N := 900) rfl (ge_readNumber_s4 (y0 := lxa_c) (y1 := lxe) c_5 ha0 h9_lxe).1 (ge_readNumber_s4 (y0 := lxa_c) (y1 := lxe) c_5 ha0 h9_lxe).2) dX3_readNumber_38 ?_
          refine lv_bipush (v := 57) hx hb dX3_readNumber_39 (by decide) ?_
          refine lv_icmp_gt (tgt := 90) hx hb dX3_readNumber_41 (by decide) (fun c_7 => ?_) (fun c_7 => ?_)
          · exact hexit_2 lxa_c lxn_c (ge_readNumber_s5 (y0 := lxa_c) (y1 := lxe) c_5 ha0 h9_lxe) (hI_c.trans (by rw [fe_readNumber_c]; (try rw [if_neg c_5]); (try rw [if_neg c_6]); (try rw [if_pos c_7]); try rfl)) _ _ ls hP hD hS (lv_sub hl [0] rfl)
          · refine lv_aload_n hx hb dX3_readNumber_44 rfl (lv_at hl 0 rfl) ?_
            refine va_get (D := (dC, dI)) (ci := 3) (v := .int lxn_c) (C := RX3) (T := TX3) (N := 9) hx hb htw inlX3 hown hK hP 0 rfl rfl 7 (by decide) (htw _ (ck_15 _ (List.mem_of_getElem? (i := 3) rfl))) (fun _ h9 => h9) rfl dX3_readNumber_45 ?_
            refine lv_ldc (v := 1000000) hx hb hown (htw _ (ck_15 _ (List.mem_of_getElem? (i := 4) rfl))) dX3_readNumber_48 ?_
            refine lv_icmp_ge (tgt := 77) hx hb dX3_readNumber_50 (by decide) (fun c_8 => ?_) (fun c_8 => ?_)
            · refine lv_aload_n hx hb dX3_readNumber_77 rfl (lv_at hl 0 rfl) ?_
              refine lv_dup hx hb dX3_readNumber_78 rfl ?_
              refine va_get (D := (dC, dI)) (ci := 3) (v := .int lxa_c) (C := RX3) (T := TX3) (N := 9) hx hb htw inlX3 hown hK hP 0 rfl rfl 4 (by decide) (htw _ (ck_14 _ (List.mem_of_getElem? (i := 11) rfl))) (fun _ h9 => h9) rfl dX3_readNumber_79 ?_
              refine lv_iconst (v := 1) hx hb dX3_readNumber_82 (by decide) ?_
              refine lv_iadd hx hb dX3_readNumber_83 ?_
              refine va_put (D := (dC, dI)) (ci := 3) (v := .int (lxa_c + 1)) (ty := tyX3 4) (C := RX3) (T := TX3) (N := 9) hx hb htw inlX3 tyX3 tyX3_ok nmX3 hown hK hP hD hS 0 rfl rfl 4 (by decide) (htw _ (ck_14 _ (List.mem_of_getElem? (i := 11) rfl))) (fun _ h9 => h9) rfl (tyX3_ok 4 (by decide)) rfl rfl (Nat.le_of_ble_eq_true rfl) dX3_readNumber_84 (fun H locs hP hD hS => ?_)
              obtain ⟨hP, hD⟩ := zre [(eO3a lx lby lfi lco lxe (lxa_c + 1) lxt lxp lxn_c lxl), (eA0 lby cBy 900 fBy)] hP hD rfl
              refine lv_goto (tgt := 5) hx hb dX3_readNumber_87 (by decide) ?_
              exact ih (lxa_c + 1) lxn_c (ge_readNumber_s6 (y0 := lxa_c) (y1 := lxe) c_5 ha0 h9_lxe) (by rw [xi_s' c_5]; omega) (hI_c.trans (by rw [fe_readNumber_c]; (try rw [if_neg c_5]); (try rw [if_neg c_6]); (try rw [if_neg c_7]); (try rw [if_pos c_8]); try rfl)) H locs ls hP hD hS (lv_sub hl [0] rfl)
            · refine lv_aload_n hx hb dX3_readNumber_53 rfl (lv_at hl 0 rfl) ?_
              refine lv_aload_n hx hb dX3_readNumber_54 rfl (lv_at hl 0 rfl) ?_
              refine va_get (D := (dC, dI)) (ci := 3) (v := .int lxn_c) (C := RX3) (T := TX3) (N := 9) hx hb htw inlX3 hown hK hP 0 rfl rfl 7 (by decide) (htw _ (ck_15 _ (List.mem_of_getElem? (i := 3) rfl))) (fun _ h9 => h9) rfl dX3_readNumber_55 ?_
              refine lv_bipush (v := 10) hx hb dX3_readNumber_58 (by decide) ?_
              refine lv_imul hx hb dX3_readNumber_60 ?_
              refine lv_aload_n hx hb dX3_readNumber_61 rfl (lv_at hl 0 rfl) ?_
              refine va_get (D := (dC, dI)) (ci := 3) (v := .ref lby) (C := RX3) (T := TX3) (N := 9) hx hb htw inlX3 hown hK hP 0 rfl rfl 0 (by decide) (htw _ (ck_3 _ (List.mem_of_getElem? (i := 14) rfl))) (fun _ h9 => h9) rfl dX3_readNumber_62 ?_
              refine lv_aload_n hx hb dX3_readNumber_65 rfl (lv_at hl 0 rfl) ?_
              refine va_get (D := (dC, dI)) (ci := 3) (v := .int lxa_c) (C := RX3) (T := TX3) (N := 9) hx hb htw inlX3 hown hK hP 0 rfl rfl 4 (by decide) (htw _ (ck_14 _ (List.mem_of_getElem? (i := 11) rfl))) (fun _ h9 => h9) rfl dX3_readNumber_66 ?_
              refine va_bald hx hb hK hP 1 0 rfl rfl (xg_inr (N := 900) rfl (ge_readNumber_s7 (y0 := lxa_c) (y1 := lxe) c_5 ha0 h9_lxe).1 (ge_readNumber_s7 (y0 := lxa_c) (y1 := lxe) c_5 ha0 h9_lxe).2) dX3_readNumber_69 ?_
              refine lv_iadd hx hb dX3_readNumber_70 ?_
              refine lv_bipush (v := 48) hx hb dX3_readNumber_71 (by decide) ?_
              refine lv_isub hx hb dX3_readNumber_73 ?_
              refine va_put (D := (dC, dI)) (ci := 3) (v := .int (((lxn_c * 10) + (fBy lxa_c.toNatClampNeg)) - 48)) (ty := tyX3 7) (C := RX3) (T := TX3) (N := 9) hx hb htw inlX3 tyX3 tyX3_ok nmX3 hown hK hP hD hS 0 rfl rfl 7 (by decide) (htw _ (ck_15 _ (List.mem_of_getElem? (i := 3) rfl))) (fun _ h9 => h9) rfl (tyX3_ok 7 (by decide)) rfl rfl (Nat.le_of_ble_eq_true rfl) dX3_readNumber_74 (fun H locs hP hD hS => ?_)
              obtain ⟨hP, hD⟩ := zre [(eO3a lx lby lfi lco lxe lxa_c lxt lxp (((lxn_c * 10) + (fBy lxa_c.toNatClampNeg)) - 48) lxl), (eA0 lby cBy 900 fBy)] hP hD rfl
              refine lv_aload_n hx hb dX3_readNumber_77 rfl (lv_at hl 0 rfl) ?_
              refine lv_dup hx hb dX3_readNumber_78 rfl ?_
              refine va_get (D := (dC, dI)) (ci := 3) (v := .int lxa_c) (C := RX3) (T := TX3) (N := 9) hx hb htw inlX3 hown hK hP 0 rfl rfl 4 (by decide) (htw _ (ck_14 _ (List.mem_of_getElem? (i := 11) rfl))) (fun _ h9 => h9) rfl dX3_readNumber_79 ?_
              refine lv_iconst (v := 1) hx hb dX3_readNumber_82 (by decide) ?_
              refine lv_iadd hx hb dX3_readNumber_83 ?_
              refine va_put (D := (dC, dI)) (ci := 3) (v := .int (lxa_c + 1)) (ty := tyX3 4) (C := RX3) (T := TX3) (N := 9) hx hb htw inlX3 tyX3 tyX3_ok nmX3 hown hK hP hD hS 0 rfl rfl 4 (by decide) (htw _ (ck_14 _ (List.mem_of_getElem? (i := 11) rfl))) (fun _ h9 => h9) rfl (tyX3_ok 4 (by decide)) rfl rfl (Nat.le_of_ble_eq_true rfl) dX3_readNumber_84 (fun H locs hP hD hS => ?_)
              obtain ⟨hP, hD⟩ := zre [(eO3a lx lby lfi lco lxe (lxa_c + 1) lxt lxp (((lxn_c * 10) + (fBy lxa_c.toNatClampNeg)) - 48) lxl), (eA0 lby cBy 900 fBy)] hP hD rfl
              refine lv_goto (tgt := 5) hx hb dX3_readNumber_87 (by decide) ?_
              exact ih (lxa_c + 1) (((lxn_c * 10) + (fBy lxa_c.toNatClampNeg)) - 48) (ge_readNumber_s8 (y0 := lxa_c) (y1 := lxe) c_5 ha0 h9_lxe) (by rw [xi_s' c_5]; omega) (hI_c.trans (by rw [fe_readNumber_c]; (try rw [if_neg c_5]); (try rw [if_neg c_6]); (try rw [if_neg c_7]); (try rw [if_neg c_8]); try rfl)) H locs ls hP hD hS (lv_sub hl [0] rfl)
  exact hloop_3 900 lxa (0 : Int32) (ge_readNumber_s9 (y0 := lxa) h0_lxa) (by have := xi_le h9_lxe; have := xi_nn h0_lxa; have e9 : (900 : Int32).toInt = 900 := rfl; omega) (hX_1) _ _ ls hP hD hS (lv_sub hl [0] rfl)

def fe_readSign_j (lxe : Int32) (lxa : Int32) (fBy : Nat → Int32) : (Int32) := (if lxe ≤ (lxa + 1) then (0 : Int32) else fBy ((lxa + 1).toNatClampNeg))
def fe_readSign_k (a0 : Int32) (S0j : Int32) : (Int32) × (Int32) := (if a0 = 37 then ((37 : Int32), (32 : Int32)) else (if a0 = 38 then ((38 : Int32), (39 : Int32)) else (if a0 = 39 then ((39 : Int32), (39 : Int32)) else (if a0 = 40 then ((40 : Int32), (26 : Int32)) else (if a0 = 41 then ((41 : Int32), (27 : Int32)) else (if a0 = 42 then ((42 : Int32), (30 : Int32)) else (if a0 = 43 then ((43 : Int32), (28 : Int32)) else (if a0 = 44 then ((44 : Int32), (39 : Int32)) else (if a0 = 45 then ((45 : Int32), (29 : Int32)) else (if a0 = 46 then ((46 : Int32), (39 : Int32)) else (if a0 = 47 then ((47 : Int32), (31 : Int32)) else (if a0 = 48 then ((48 : Int32), (39 : Int32)) else (if a0 = 49 then ((49 : Int32), (39 : Int32)) else (if a0 = 50 then ((50 : Int32), (39 : Int32)) else (if a0 = 51 then ((51 : Int32), (39 : Int32)) else (if a0 = 52 then ((52 : Int32), (39 : Int32)) else (if a0 = 53 then ((53 : Int32), (39 : Int32)) else (if a0 = 54 then ((54 : Int32), (39 : Int32)) else (if a0 = 55 then ((55 : Int32), (39 : Int32)) else (if a0 = 56 then ((56 : Int32), (39 : Int32)) else (if a0 = 57 then ((57 : Int32), (39 : Int32)) else (if a0 = 58 then ((58 : Int32), (39 : Int32)) else (if a0 = 59 then ((59 : Int32), (25 : Int32)) else (if a0 = 60 then (if S0j = 61 then ((60 : Int32), (34 : Int32)) else (if S0j = 62 then ((60 : Int32), (36 : Int32)) else ((60 : Int32), (33 : Int32)))) else (if a0 = 61 then ((61 : Int32), (35 : Int32)) else (if a0 = 62 then (if S0j = 61 then ((62 : Int32), (37 : Int32)) else ((62 : Int32), (38 : Int32))) else (a0, (39 : Int32))))))))))))))))))))))))))))
def fe_readSign (lxe : Int32) (lxa : Int32) (fBy : Nat → Int32) (a0 : Int32) : (Int32) × (Int32) := (xL (fe_readSign_j lxe lxa fBy) (fun X_1 => (xL (fe_readSign_k a0 X_1) (fun X_3 => (if X_3.2 = 34 then (((lxa + 1) + 1), X_3.2) else (if X_3.2 = 36 then (((lxa + 1) + 1), X_3.2) else (if X_3.2 = 37 then (((lxa + 1) + 1), X_3.2) else ((lxa + 1), X_3.2))))))))
theorem ge_readSign_s0 {y0 : Int32} {y1 : Int32} (h0 : ¬ (y1 ≤ (y0 + 1))) (h1 : ¬ (y0 < 0)) (h2 : y1 ≤ 900) (h3 : ¬ (y1 ≤ y0)) : ¬ ((y0 + 1) < 0) ∧ ¬ (900 ≤ (y0 + 1)) := by lia
theorem dX3_readSign_0 : decode cX3_readSign 0 = .ok (.aload_n 0, 1) := zk_42 (by decide +kernel)
theorem dX3_readSign_1 : decode cX3_readSign 1 = .ok (.dup, 1) := zk_89 (by decide +kernel)
theorem dX3_readSign_2 : decode cX3_readSign 2 = .ok (.getfield 44, 3) := zk_180 (by decide +kernel)
theorem dX3_readSign_5 : decode cX3_readSign 5 = .ok (.iconst 1, 1) := zk_4 (by decide +kernel)
theorem dX3_readSign_6 : decode cX3_readSign 6 = .ok (.iadd, 1) := zk_96 (by decide +kernel)
theorem dX3_readSign_7 : decode cX3_readSign 7 = .ok (.putfield 44, 3) := zk_181 (by decide +kernel)
theorem dX3_readSign_10 : decode cX3_readSign 10 = .ok (.aload_n 0, 1) := zk_42 (by decide +kernel)
theorem dX3_readSign_11 : decode cX3_readSign 11 = .ok (.getfield 44, 3) := zk_180 (by decide +kernel)
theorem dX3_readSign_14 : decode cX3_readSign 14 = .ok (.aload_n 0, 1) := zk_42 (by decide +kernel)
theorem dX3_readSign_15 : decode cX3_readSign 15 = .ok (.getfield 41, 3) := zk_180 (by decide +kernel)
theorem dX3_readSign_34 : decode cX3_readSign 34 = .ok (.istore_n 2, 1) := zk_61 (by decide +kernel)
theorem dX3_readSign_35 : decode cX3_readSign 35 = .ok (.iload_n 1, 1) := zk_27 (by decide +kernel)
theorem dX3_readSign_294 : decode cX3_readSign 294 = .ok (.aload_n 0, 1) := zk_42 (by decide +kernel)
theorem dX3_readSign_295 : decode cX3_readSign 295 = .ok (.getfield 53, 3) := zk_180 (by decide +kernel)
theorem dX3_readSign_298 : decode cX3_readSign 298 = .ok (.bipush 34, 2) := zk_16 (by decide +kernel)
theorem dX3_readSign_300 : decode cX3_readSign 300 = .ok (.if_icmp .eq 21, 3) := zk_159 (by decide +kernel)
theorem dX3_readSign_321 : decode cX3_readSign 321 = .ok (.aload_n 0, 1) := zk_42 (by decide +kernel)
theorem dX3_readSign_322 : decode cX3_readSign 322 = .ok (.dup, 1) := zk_89 (by decide +kernel)
theorem dX3_readSign_323 : decode cX3_readSign 323 = .ok (.getfield 44, 3) := zk_180 (by decide +kernel)
theorem dX3_readSign_326 : decode cX3_readSign 326 = .ok (.iconst 1, 1) := zk_4 (by decide +kernel)
theorem dX3_readSign_327 : decode cX3_readSign 327 = .ok (.iadd, 1) := zk_96 (by decide +kernel)
theorem dX3_readSign_328 : decode cX3_readSign 328 = .ok (.putfield 44, 3) := zk_181 (by decide +kernel)
theorem dX3_readSign_331 : decode cX3_readSign 331 = .ok (.return_, 1) := zk_177 (by decide +kernel)
theorem dX3_readSign_303 : decode cX3_readSign 303 = .ok (.aload_n 0, 1) := zk_42 (by decide +kernel)
theorem dX3_readSign_304 : decode cX3_readSign 304 = .ok (.getfield 53, 3) := zk_180 (by decide +kernel)
theorem dX3_readSign_307 : decode cX3_readSign 307 = .ok (.bipush 36, 2) := zk_16 (by decide +kernel)
theorem dX3_readSign_309 : decode cX3_readSign 309 = .ok (.if_icmp .eq 12, 3) := zk_159 (by decide +kernel)
theorem dX3_readSign_312 : decode cX3_readSign 312 = .ok (.aload_n 0, 1) := zk_42 (by decide +kernel)
theorem dX3_readSign_313 : decode cX3_readSign 313 = .ok (.getfield 53, 3) := zk_180 (by decide +kernel)
theorem dX3_readSign_316 : decode cX3_readSign 316 = .ok (.bipush 37, 2) := zk_16 (by decide +kernel)
theorem dX3_readSign_318 : decode cX3_readSign 318 = .ok (.if_icmp .ne 13, 3) := zk_160 (by decide +kernel)
theorem dX3_readSign_36 : decode cX3_readSign 36 = .ok (.tableswitch 252 37 62 #[183, 252, 252, 129, 138, 165, 147, 252, 156, 252, 174, 252, 252, 252, 252, 252, 252, 252, 252, 252, 252, 252, 120, 201, 192, 232], 120) := by decide +kernel
theorem dX3_readSign_219 : decode cX3_readSign 219 = .ok (.aload_n 0, 1) := zk_42 (by decide +kernel)
theorem dX3_readSign_220 : decode cX3_readSign 220 = .ok (.bipush 32, 2) := zk_16 (by decide +kernel)
theorem dX3_readSign_222 : decode cX3_readSign 222 = .ok (.putfield 53, 3) := zk_181 (by decide +kernel)
theorem dX3_readSign_225 : decode cX3_readSign 225 = .ok (.goto 69, 3) := zk_167 (by decide +kernel)
theorem dX3_readSign_288 : decode cX3_readSign 288 = .ok (.aload_n 0, 1) := zk_42 (by decide +kernel)
theorem dX3_readSign_289 : decode cX3_readSign 289 = .ok (.bipush 39, 2) := zk_16 (by decide +kernel)
theorem dX3_readSign_291 : decode cX3_readSign 291 = .ok (.putfield 53, 3) := zk_181 (by decide +kernel)
theorem dX3_readSign_165 : decode cX3_readSign 165 = .ok (.aload_n 0, 1) := zk_42 (by decide +kernel)
theorem dX3_readSign_166 : decode cX3_readSign 166 = .ok (.bipush 26, 2) := zk_16 (by decide +kernel)
theorem dX3_readSign_168 : decode cX3_readSign 168 = .ok (.putfield 53, 3) := zk_181 (by decide +kernel)
theorem dX3_readSign_171 : decode cX3_readSign 171 = .ok (.goto 123, 3) := zk_167 (by decide +kernel)
theorem dX3_readSign_174 : decode cX3_readSign 174 = .ok (.aload_n 0, 1) := zk_42 (by decide +kernel)
theorem dX3_readSign_175 : decode cX3_readSign 175 = .ok (.bipush 27, 2) := zk_16 (by decide +kernel)
theorem dX3_readSign_177 : decode cX3_readSign 177 = .ok (.putfield 53, 3) := zk_181 (by decide +kernel)
theorem dX3_readSign_180 : decode cX3_readSign 180 = .ok (.goto 114, 3) := zk_167 (by decide +kernel)
theorem dX3_readSign_201 : decode cX3_readSign 201 = .ok (.aload_n 0, 1) := zk_42 (by decide +kernel)
theorem dX3_readSign_202 : decode cX3_readSign 202 = .ok (.bipush 30, 2) := zk_16 (by decide +kernel)
theorem dX3_readSign_204 : decode cX3_readSign 204 = .ok (.putfield 53, 3) := zk_181 (by decide +kernel)
theorem dX3_readSign_207 : decode cX3_readSign 207 = .ok (.goto 87, 3) := zk_167 (by decide +kernel)
theorem dX3_readSign_183 : decode cX3_readSign 183 = .ok (.aload_n 0, 1) := zk_42 (by decide +kernel)
theorem dX3_readSign_184 : decode cX3_readSign 184 = .ok (.bipush 28, 2) := zk_16 (by decide +kernel)
theorem dX3_readSign_186 : decode cX3_readSign 186 = .ok (.putfield 53, 3) := zk_181 (by decide +kernel)
theorem dX3_readSign_189 : decode cX3_readSign 189 = .ok (.goto 105, 3) := zk_167 (by decide +kernel)
theorem dX3_readSign_192 : decode cX3_readSign 192 = .ok (.aload_n 0, 1) := zk_42 (by decide +kernel)
theorem dX3_readSign_193 : decode cX3_readSign 193 = .ok (.bipush 29, 2) := zk_16 (by decide +kernel)
theorem dX3_readSign_195 : decode cX3_readSign 195 = .ok (.putfield 53, 3) := zk_181 (by decide +kernel)
theorem dX3_readSign_198 : decode cX3_readSign 198 = .ok (.goto 96, 3) := zk_167 (by decide +kernel)
theorem dX3_readSign_210 : decode cX3_readSign 210 = .ok (.aload_n 0, 1) := zk_42 (by decide +kernel)
theorem dX3_readSign_211 : decode cX3_readSign 211 = .ok (.bipush 31, 2) := zk_16 (by decide +kernel)
theorem dX3_readSign_213 : decode cX3_readSign 213 = .ok (.putfield 53, 3) := zk_181 (by decide +kernel)
theorem dX3_readSign_216 : decode cX3_readSign 216 = .ok (.goto 78, 3) := zk_167 (by decide +kernel)
theorem dX3_readSign_156 : decode cX3_readSign 156 = .ok (.aload_n 0, 1) := zk_42 (by decide +kernel)
theorem dX3_readSign_157 : decode cX3_readSign 157 = .ok (.bipush 25, 2) := zk_16 (by decide +kernel)
theorem dX3_readSign_159 : decode cX3_readSign 159 = .ok (.putfield 53, 3) := zk_181 (by decide +kernel)
theorem dX3_readSign_162 : decode cX3_readSign 162 = .ok (.goto 132, 3) := zk_167 (by decide +kernel)
theorem dX3_readSign_237 : decode cX3_readSign 237 = .ok (.aload_n 0, 1) := zk_42 (by decide +kernel)
theorem dX3_readSign_238 : decode cX3_readSign 238 = .ok (.iload_n 2, 1) := zk_28 (by decide +kernel)
theorem dX3_readSign_239 : decode cX3_readSign 239 = .ok (.bipush 61, 2) := zk_16 (by decide +kernel)
theorem dX3_readSign_241 : decode cX3_readSign 241 = .ok (.if_icmp .ne 8, 3) := zk_160 (by decide +kernel)
theorem dX3_readSign_249 : decode cX3_readSign 249 = .ok (.iload_n 2, 1) := zk_28 (by decide +kernel)
theorem dX3_readSign_250 : decode cX3_readSign 250 = .ok (.bipush 62, 2) := zk_16 (by decide +kernel)
theorem dX3_readSign_252 : decode cX3_readSign 252 = .ok (.if_icmp .ne 8, 3) := zk_160 (by decide +kernel)
theorem dX3_readSign_260 : decode cX3_readSign 260 = .ok (.bipush 33, 2) := zk_16 (by decide +kernel)
theorem dX3_readSign_262 : decode cX3_readSign 262 = .ok (.putfield 53, 3) := zk_181 (by decide +kernel)
theorem dX3_readSign_265 : decode cX3_readSign 265 = .ok (.goto 29, 3) := zk_167 (by decide +kernel)
theorem dX3_readSign_255 : decode cX3_readSign 255 = .ok (.bipush 36, 2) := zk_16 (by decide +kernel)
theorem dX3_readSign_257 : decode cX3_readSign 257 = .ok (.goto 5, 3) := zk_167 (by decide +kernel)
theorem dX3_readSign_244 : decode cX3_readSign 244 = .ok (.bipush 34, 2) := zk_16 (by decide +kernel)
theorem dX3_readSign_246 : decode cX3_readSign 246 = .ok (.goto 16, 3) := zk_167 (by decide +kernel)
theorem dX3_readSign_228 : decode cX3_readSign 228 = .ok (.aload_n 0, 1) := zk_42 (by decide +kernel)
theorem dX3_readSign_229 : decode cX3_readSign 229 = .ok (.bipush 35, 2) := zk_16 (by decide +kernel)
theorem dX3_readSign_231 : decode cX3_readSign 231 = .ok (.putfield 53, 3) := zk_181 (by decide +kernel)
theorem dX3_readSign_234 : decode cX3_readSign 234 = .ok (.goto 60, 3) := zk_167 (by decide +kernel)
theorem dX3_readSign_268 : decode cX3_readSign 268 = .ok (.aload_n 0, 1) := zk_42 (by decide +kernel)
theorem dX3_readSign_269 : decode cX3_readSign 269 = .ok (.iload_n 2, 1) := zk_28 (by decide +kernel)
theorem dX3_readSign_270 : decode cX3_readSign 270 = .ok (.bipush 61, 2) := zk_16 (by decide +kernel)
theorem dX3_readSign_272 : decode cX3_readSign 272 = .ok (.if_icmp .ne 8, 3) := zk_160 (by decide +kernel)
theorem dX3_readSign_280 : decode cX3_readSign 280 = .ok (.bipush 38, 2) := zk_16 (by decide +kernel)
theorem dX3_readSign_282 : decode cX3_readSign 282 = .ok (.putfield 53, 3) := zk_181 (by decide +kernel)
theorem dX3_readSign_285 : decode cX3_readSign 285 = .ok (.goto 9, 3) := zk_167 (by decide +kernel)
theorem dX3_readSign_275 : decode cX3_readSign 275 = .ok (.bipush 37, 2) := zk_16 (by decide +kernel)
theorem dX3_readSign_277 : decode cX3_readSign 277 = .ok (.goto 5, 3) := zk_167 (by decide +kernel)
theorem dX3_readSign_18 : decode cX3_readSign 18 = .ok (.if_icmp .ge 15, 3) := zk_162 (by decide +kernel)
theorem dX3_readSign_33 : decode cX3_readSign 33 = .ok (.iconst 0, 1) := zk_3 (by decide +kernel)
theorem dX3_readSign_21 : decode cX3_readSign 21 = .ok (.aload_n 0, 1) := zk_42 (by decide +kernel)
theorem dX3_readSign_22 : decode cX3_readSign 22 = .ok (.getfield 9, 3) := zk_180 (by decide +kernel)
theorem dX3_readSign_25 : decode cX3_readSign 25 = .ok (.aload_n 0, 1) := zk_42 (by decide +kernel)
theorem dX3_readSign_26 : decode cX3_readSign 26 = .ok (.getfield 44, 3) := zk_180 (by decide +kernel)
theorem dX3_readSign_29 : decode cX3_readSign 29 = .ok (.baload, 1) := zk_51 (by decide +kernel)
theorem dX3_readSign_30 : decode cX3_readSign 30 = .ok (.goto 4, 3) := zk_167 (by decide +kernel)
set_option maxHeartbeats 4000000 in
set_option maxRecDepth 100000 in
theorem ge_readSign (l : Launch) (dC : Nat → ClassId) (dI : Nat → Nat → Nat) (lx : Nat) (lby : Nat) (lfi : Int32) (lco : Nat) (lxe : Int32) (lxa : Int32) (lxt : Int32) (lxp : Int32) (lxn : Int32) (lxl : Int32) (cBy : ClassId) (fBy : Nat → Int32) (a0 : Int32) (sz : Nat) (h0_lxa : ¬ lxa < 0) (h9_lxe : lxe ≤ 900) (hlt : ¬ lxe ≤ lxa) : Met l yX3_readSign (Cond.code yX3_readSign cX3_readSign 3 none :: wsL_law) ({ frames := 0, cells := 0, slots := 0, locals := 0 }) (va_Pc [.ref lx, .int a0] (fun U => U.heap.size = sz ∧ va_P (dC, dI) vwCl [(eO3a lx lby lfi lco lxe lxa lxt lxp lxn lxl), (eA0 lby cBy 900 fBy)] U.heap ∧ va_K (dC, dI) vwCl [(cBy, .byte)] U ∧ va_D (fun _ => True) [(eO3a lx lby lfi lco lxe lxa lxt lxp lxn lxl), (eA0 lby cBy 900 fBy)])) (va_Qv (fun (u : (Int32) × (Int32)) => u = fe_readSign lxe lxa fBy a0) (fun (u : (Int32) × (Int32)) t => va_P (dC, dI) vwCl [(eO3a lx lby lfi lco lxe u.1 u.2 lxp lxn lxl), (eA0 lby cBy 900 fBy)] t.heap ∧ va_K (dC, dI) vwCl [] t ∧ va_D (va_A [(eO3a lx lby lfi lco lxe lxa lxt lxp lxn lxl), (eA0 lby cBy 900 fBy)] sz) [(eO3a lx lby lfi lco lxe u.1 u.2 lxp lxn lxl), (eA0 lby cBy 900 fBy)]) (va_A [(eO3a lx lby lfi lco lxe lxa lxt lxp lxn lxl), (eA0 lby cBy 900 fBy)] sz)) 0 0 (va_A [(eO3a lx lby lfi lco lxe lxa lxt lxp lxn lxl), (eA0 lby cBy 900 fBy)] sz) := by
  refine Met.ofW (cc := cX3_readSign) (maxL := 3) (ret := none) (by decide) rfl ?_
  intro p e s m args below meth c s₁ B hml hv
  obtain ⟨rfl, hsz, hP, hK, hD0⟩ := hv
  have hx := B.exec
  have hb := B.bytes
  have hr := B.returns
  have hts := atoms_spec (ws := Cond.code yX3_readSign cX3_readSign 3 none :: wsL_law) B.pre
  have htw : ∀ w ∈ wsL_law, w.before _ s = true := fun w h => hts w (List.mem_cons_of_mem _ h)
  have hown : s.vm.findClass RX3 = some m.cls := findClass_of_methodNamed B.named
  have hlocks := B.notSynchronized
  subst hsz
  have hD := hD0.self (sz := s.heap.size)
  generalize hAe : va_A [(eO3a lx lby lfi lco lxe lxa lxt lxp lxn lxl), (eA0 lby cBy 900 fBy)] s.heap.size = A at hD ⊢
  have hA : ∀ q : Nat, s.heap.size ≤ q → A q := fun q h => by rw [← hAe]; exact Or.inr h
  obtain ⟨H, rH⟩ : ∃ z : Heap, z = s.heap := ⟨_, rfl⟩
  have hS : va_S A s.heap H [] := by rw [rH]; exact va_S.rf
  have hP : va_P (dC, dI) vwCl [(eO3a lx lby lfi lco lxe lxa lxt lxp lxn lxl), (eA0 lby cBy 900 fBy)] H := by rw [rH]; exact hP
  rw [← rH]
  have hl := lv_entry ([.ref lx, .int a0]) (n := 3) (Nat.le_of_ble_eq_true rfl)
  rw [lg_entry_eq]
  generalize (lg_sl ([.ref lx, .int a0]) ++ List.replicate (3 - (lg_sl ([.ref lx, .int a0])).length) Slot.unset).toArray = ls at hl ⊢
  have hl : lv_has ls 3 [(0, .ref lx), (1, .int a0)] := hl
  refine lv_aload_n hx hb dX3_readSign_0 rfl (lv_at hl 0 rfl) ?_
  refine lv_dup hx hb dX3_readSign_1 rfl ?_
  refine va_get (D := (dC, dI)) (ci := 3) (v := .int lxa) (C := RX3) (T := TX3) (N := 9) hx hb htw inlX3 hown hK hP 0 rfl rfl 4 (by decide) (htw _ (ck_14 _ (List.mem_of_getElem? (i := 11) rfl))) (fun _ h9 => h9) rfl dX3_readSign_2 ?_
  refine lv_iconst (v := 1) hx hb dX3_readSign_5 (by decide) ?_
  refine lv_iadd hx hb dX3_readSign_6 ?_
  refine va_put (D := (dC, dI)) (ci := 3) (v := .int (lxa + 1)) (ty := tyX3 4) (C := RX3) (T := TX3) (N := 9) hx hb htw inlX3 tyX3 tyX3_ok nmX3 hown hK hP hD hS 0 rfl rfl 4 (by decide) (htw _ (ck_14 _ (List.mem_of_getElem? (i := 11) rfl))) (fun _ h9 => h9) rfl (tyX3_ok 4 (by decide)) rfl rfl (Nat.le_of_ble_eq_true rfl) dX3_readSign_7 (fun H locs hP hD hS => ?_)
  obtain ⟨hP, hD⟩ := zre [(eO3a lx lby lfi lco lxe (lxa + 1) lxt lxp lxn lxl), (eA0 lby cBy 900 fBy)] hP hD rfl
  refine lv_aload_n hx hb dX3_readSign_10 rfl (lv_at hl 0 rfl) ?_
  refine va_get (D := (dC, dI)) (ci := 3) (v := .int (lxa + 1)) (C := RX3) (T := TX3) (N := 9) hx hb htw inlX3 hown hK hP 0 rfl rfl 4 (by decide) (htw _ (ck_14 _ (List.mem_of_getElem? (i := 11) rfl))) (fun _ h9 => h9) rfl dX3_readSign_11 ?_
  refine lv_aload_n hx hb dX3_readSign_14 rfl (lv_at hl 0 rfl) ?_
  refine va_get (D := (dC, dI)) (ci := 3) (v := .int lxe) (C := RX3) (T := TX3) (N := 9) hx hb htw inlX3 hown hK hP 0 rfl rfl 3 (by decide) (htw _ (ck_14 _ (List.mem_of_getElem? (i := 10) rfl))) (fun _ h9 => h9) rfl dX3_readSign_15 ?_
  obtain ⟨X_1, hX_1⟩ : ∃ X9 : (Int32), X9 = fe_readSign_j lxe lxa fBy := ⟨_, rfl⟩
  have hjoin_2 : ∀ (S0j : Int32)  (hE9 : X_1 = S0j) (H : Heap) (locs : List Loc) (ls : Array Slot) (hP : va_P (dC, dI) vwCl [(eO3a lx lby lfi lco lxe (lxa + 1) lxt lxp lxn lxl), (eA0 lby cBy 900 fBy)] H) (hD : va_D A [(eO3a lx lby lfi lco lxe (lxa + 1) lxt lxp lxn lxl), (eA0 lby cBy 900 fBy)]) (hS : va_S A s.heap H locs) (hl : lv_has ls 3 [(0, .ref lx), (1, .int a0)]), W p l e (headSpec (Cond.code yX3_readSign cX3_readSign 3 none :: wsL_law) ({ frames := 0, cells := 0, slots := 0, locals := 0 })).room s m ([.ref lx, .int a0] : List Value).toArray below meth c H locs 0 0 (MQ below (va_Qv (fun (u : (Int32) × (Int32)) => u = fe_readSign lxe lxa fBy a0) (fun (u : (Int32) × (Int32)) t => va_P (dC, dI) vwCl [(eO3a lx lby lfi lco lxe u.1 u.2 lxp lxn lxl), (eA0 lby cBy 900 fBy)] t.heap ∧ va_K (dC, dI) vwCl [] t ∧ va_D A [(eO3a lx lby lfi lco lxe u.1 u.2 lxp lxn lxl), (eA0 lby cBy 900 fBy)]) A) ([.ref lx, .int a0] : List Value).toArray s 0 0 A) (F0 m 34 ls [.int S0j]) := by
    intro S0j  hE9 H locs ls hP hD hS hl
    have hq_S0j : S0j = X_1 := by rw [hE9]
    refine lv_istore_n (lv' := [(2, .int S0j), (0, .ref lx), (1, .int a0)]) hx hb dX3_readSign_34 rfl hl (by decide) rfl (fun ls hl => ?_)
    refine lv_iload_n hx hb dX3_readSign_35 rfl (lv_at hl 2 rfl) ?_
    obtain ⟨X_3, hX_3⟩ : ∃ X9 : (Int32) × (Int32), X9 = fe_readSign_k a0 S0j := ⟨_, rfl⟩
    have hjoin_4 : ∀ (L1k : Int32) (lxt_k : Int32)  (hE9 : X_3 = (L1k, lxt_k)) (H : Heap) (locs : List Loc) (ls : Array Slot) (hP : va_P (dC, dI) vwCl [(eO3a lx lby lfi lco lxe (lxa + 1) lxt_k lxp lxn lxl), (eA0 lby cBy 900 fBy)] H) (hD : va_D A [(eO3a lx lby lfi lco lxe (lxa + 1) lxt_k lxp lxn lxl), (eA0 lby cBy 900 fBy)]) (hS : va_S A s.heap H locs) (hl : lv_has ls 3 [(2, .int S0j), (0, .ref lx), (1, .int L1k)]), W p l e (headSpec (Cond.code yX3_readSign cX3_readSign 3 none :: wsL_law) ({ frames := 0, cells := 0, slots := 0, locals := 0 })).room s m ([.ref lx, .int a0] : List Value).toArray below meth c H locs 0 0 (MQ below (va_Qv (fun (u : (Int32) × (Int32)) => u = fe_readSign lxe lxa fBy a0) (fun (u : (Int32) × (Int32)) t => va_P (dC, dI) vwCl [(eO3a lx lby lfi lco lxe u.1 u.2 lxp lxn lxl), (eA0 lby cBy 900 fBy)] t.heap ∧ va_K (dC, dI) vwCl [] t ∧ va_D A [(eO3a lx lby lfi lco lxe u.1 u.2 lxp lxn lxl), (eA0 lby cBy 900 fBy)]) A) ([.ref lx, .int a0] : List Value).toArray s 0 0 A) (F0 m 294 ls []) := by
      intro L1k lxt_k  hE9 H locs ls hP hD hS hl
      have hq_L1k : L1k = X_3.1 := by rw [hE9]
      have hq_lxt_k : lxt_k = X_3.2 := by rw [hE9]
      refine lv_aload_n hx hb dX3_readSign_294 rfl (lv_at hl 1 rfl) ?_
      refine va_get (D := (dC, dI)) (ci := 3) (v := .int lxt_k) (C := RX3) (T := TX3) (N := 9) hx hb htw inlX3 hown hK hP 0 rfl rfl 5 (by decide) (htw _ (ck_14 _ (List.mem_of_getElem? (i := 17) rfl))) (fun _ h9 => h9) rfl dX3_readSign_295 ?_
      refine lv_bipush (v := 34) hx hb dX3_readSign_298 (by decide) ?_
      refine lv_icmp_eq (tgt := 321) hx hb dX3_readSign_300 (by decide) (fun c_5 => ?_) (fun c_5 => ?_)
      · refine lv_aload_n hx hb dX3_readSign_321 rfl (lv_at hl 1 rfl) ?_
        refine lv_dup hx hb dX3_readSign_322 rfl ?_
        refine va_get (D := (dC, dI)) (ci := 3) (v := .int (lxa + 1)) (C := RX3) (T := TX3) (N := 9) hx hb htw inlX3 hown hK hP 0 rfl rfl 4 (by decide) (htw _ (ck_14 _ (List.mem_of_getElem? (i := 11) rfl))) (fun _ h9 => h9) rfl dX3_readSign_323 ?_
        refine lv_iconst (v := 1) hx hb dX3_readSign_326 (by decide) ?_
        refine lv_iadd hx hb dX3_readSign_327 ?_
        refine va_put (D := (dC, dI)) (ci := 3) (v := .int ((lxa + 1) + 1)) (ty := tyX3 4) (C := RX3) (T := TX3) (N := 9) hx hb htw inlX3 tyX3 tyX3_ok nmX3 hown hK hP hD hS 0 rfl rfl 4 (by decide) (htw _ (ck_14 _ (List.mem_of_getElem? (i := 11) rfl))) (fun _ h9 => h9) rfl (tyX3_ok 4 (by decide)) rfl rfl (Nat.le_of_ble_eq_true rfl) dX3_readSign_328 (fun H locs hP hD hS => ?_)
        obtain ⟨hP, hD⟩ := zre [(eO3a lx lby lfi lco lxe ((lxa + 1) + 1) lxt_k lxp lxn lxl), (eA0 lby cBy 900 fBy)] hP hD rfl
        refine W.widen (k := 0) (n := 0) (by omega) (by omega) ?_
        have hP9 := hP
        have hD9 := hD
        have hK9 := hK.sub (tys' := []) [] rfl
        exact W.vret hx hb hr (fun t ht hW => ⟨⟨(((lxa + 1) + 1), lxt_k), rfl, (Eq.symm ((by rw [fe_readSign]; (try rw [← hX_1]); (try rw [xL_eq]); (try rw [← hq_S0j]); (try rw [← hX_3]); (try rw [xL_eq]); (try rw [← hq_L1k]); (try rw [← hq_lxt_k]); (try rw [if_pos c_5]); try rfl))), by rw [ht]; exact hP9, va_K.moved hW.alike hK9, hD9⟩, hS.F ht⟩) hS.2.2 dX3_readSign_331
      · refine lv_aload_n hx hb dX3_readSign_303 rfl (lv_at hl 1 rfl) ?_
        refine va_get (D := (dC, dI)) (ci := 3) (v := .int lxt_k) (C := RX3) (T := TX3) (N := 9) hx hb htw inlX3 hown hK hP 0 rfl rfl 5 (by decide) (htw _ (ck_14 _ (List.mem_of_getElem? (i := 17) rfl))) (fun _ h9 => h9) rfl dX3_readSign_304 ?_
        refine lv_bipush (v := 36) hx hb dX3_readSign_307 (by decide) ?_
        refine lv_icmp_eq (tgt := 321) hx hb dX3_readSign_309 (by decide) (fun c_6 => ?_) (fun c_6 => ?_)
        · refine lv_aload_n hx hb dX3_readSign_321 rfl (lv_at hl 1 rfl) ?_
          refine lv_dup hx hb dX3_readSign_322 rfl ?_
          refine va_get (D := (dC, dI)) (ci := 3) (v := .int (lxa + 1)) (C := RX3) (T := TX3) (N := 9) hx hb htw inlX3 hown hK hP 0 rfl rfl 4 (by decide) (htw _ (ck_14 _ (List.mem_of_getElem? (i := 11) rfl))) (fun _ h9 => h9) rfl dX3_readSign_323 ?_
          refine lv_iconst (v := 1) hx hb dX3_readSign_326 (by decide) ?_
          refine lv_iadd hx hb dX3_readSign_327 ?_
          refine va_put (D := (dC, dI)) (ci := 3) (v := .int ((lxa + 1) + 1)) (ty := tyX3 4) (C := RX3) (T := TX3) (N := 9) hx hb htw inlX3 tyX3 tyX3_ok nmX3 hown hK hP hD hS 0 rfl rfl 4 (by decide) (htw _ (ck_14 _ (List.mem_of_getElem? (i := 11) rfl))) (fun _ h9 => h9) rfl (tyX3_ok 4 (by decide)) rfl rfl (Nat.le_of_ble_eq_true rfl) dX3_readSign_328 (fun H locs hP hD hS => ?_)
          obtain ⟨hP, hD⟩ := zre [(eO3a lx lby lfi lco lxe ((lxa + 1) + 1) lxt_k lxp lxn lxl), (eA0 lby cBy 900 fBy)] hP hD rfl
          refine W.widen (k := 0) (n := 0) (by omega) (by omega) ?_
          have hP9 := hP
          have hD9 := hD
          have hK9 := hK.sub (tys' := []) [] rfl
          exact W.vret hx hb hr (fun t ht hW => ⟨⟨(((lxa + 1) + 1), lxt_k), rfl, (Eq.symm ((by rw [fe_readSign]; (try rw [← hX_1]); (try rw [xL_eq]); (try rw [← hq_S0j]); (try rw [← hX_3]); (try rw [xL_eq]); (try rw [← hq_L1k]); (try rw [← hq_lxt_k]); (try rw [if_neg c_5]); (try rw [if_pos c_6]); try rfl))), by rw [ht]; exact hP9, va_K.moved hW.alike hK9, hD9⟩, hS.F ht⟩) hS.2.2 dX3_readSign_331
        · refine lv_aload_n hx hb dX3_readSign_312 rfl (lv_at hl 1 rfl) ?_
          refine va_get (D := (dC, dI)) (ci := 3) (v := .int lxt_k) (C := RX3) (T := TX3) (N := 9) hx hb htw inlX3 hown hK hP 0 rfl rfl 5 (by decide) (htw _ (ck_14 _ (List.mem_of_getElem? (i := 17) rfl))) (fun _ h9 => h9) rfl dX3_readSign_313 ?_
          refine lv_bipush (v := 37) hx hb dX3_readSign_316 (by decide) ?_
          refine lv_icmp_ne (tgt := 331) hx hb dX3_readSign_318 (by decide) (fun c_7 => ?_) (fun c_7 => ?_)
          · refine W.widen (k := 0) (n := 0) (by omega) (by omega) ?_
            obtain ⟨hP9, hD9⟩ := zsub2 (ws' := [(eO3a lx lby lfi lco lxe (lxa + 1) lxt_k lxp lxn lxl), (eA0 lby cBy 900 fBy)]) hP hD [0, 1] (by decide) rfl
            have hK9 := hK.sub (tys' := []) [] rfl
            exact W.vret hx hb hr (fun t ht hW => ⟨⟨((lxa + 1), lxt_k), rfl, (Eq.symm ((by rw [fe_readSign]; (try rw [← hX_1]); (try rw [xL_eq]); (try rw [← hq_S0j]); (try rw [← hX_3]); (try rw [xL_eq]); (try rw [← hq_L1k]); (try rw [← hq_lxt_k]); (try rw [if_neg c_5]); (try rw [if_neg c_6]); (try rw [if_neg c_7]); try rfl))), by rw [ht]; exact hP9, va_K.moved hW.alike hK9, hD9⟩, hS.F ht⟩) hS.2.2 dX3_readSign_331
          · refine lv_aload_n hx hb dX3_readSign_321 rfl (lv_at hl 1 rfl) ?_
            refine lv_dup hx hb dX3_readSign_322 rfl ?_
            refine va_get (D := (dC, dI)) (ci := 3) (v := .int (lxa + 1)) (C := RX3) (T := TX3) (N := 9) hx hb htw inlX3 hown hK hP 0 rfl rfl 4 (by decide) (htw _ (ck_14 _ (List.mem_of_getElem? (i := 11) rfl))) (fun _ h9 => h9) rfl dX3_readSign_323 ?_
            refine lv_iconst (v := 1) hx hb dX3_readSign_326 (by decide) ?_
            refine lv_iadd hx hb dX3_readSign_327 ?_
            refine va_put (D := (dC, dI)) (ci := 3) (v := .int ((lxa + 1) + 1)) (ty := tyX3 4) (C := RX3) (T := TX3) (N := 9) hx hb htw inlX3 tyX3 tyX3_ok nmX3 hown hK hP hD hS 0 rfl rfl 4 (by decide) (htw _ (ck_14 _ (List.mem_of_getElem? (i := 11) rfl))) (fun _ h9 => h9) rfl (tyX3_ok 4 (by decide)) rfl rfl (Nat.le_of_ble_eq_true rfl) dX3_readSign_328 (fun H locs hP hD hS => ?_)
            obtain ⟨hP, hD⟩ := zre [(eO3a lx lby lfi lco lxe ((lxa + 1) + 1) lxt_k lxp lxn lxl), (eA0 lby cBy 900 fBy)] hP hD rfl
            refine W.widen (k := 0) (n := 0) (by omega) (by omega) ?_
            have hP9 := hP
            have hD9 := hD
            have hK9 := hK.sub (tys' := []) [] rfl
            exact W.vret hx hb hr (fun t ht hW => ⟨⟨(((lxa + 1) + 1), lxt_k), rfl, (Eq.symm ((by rw [fe_readSign]; (try rw [← hX_1]); (try rw [xL_eq]); (try rw [← hq_S0j]); (try rw [← hX_3]); (try rw [xL_eq]); (try rw [← hq_L1k]); (try rw [← hq_lxt_k]); (try rw [if_neg c_5]); (try rw [if_neg c_6]); (try rw [if_pos c_7]); try rfl))), by rw [ht]; exact hP9, va_K.moved hW.alike hK9, hD9⟩, hS.F ht⟩) hS.2.2 dX3_readSign_331
    by_cases h_8 : a0 = 37
    · subst h_8
      refine lv_tableIn (off := 183) (tgt := 219) hx hb dX3_readSign_36 (by decide) (by decide) (by decide) (by decide) ?_
      refine lv_aload_n hx hb dX3_readSign_219 rfl (lv_at hl 1 rfl) ?_
      refine lv_bipush (v := 32) hx hb dX3_readSign_220 (by decide) ?_
      refine va_put (D := (dC, dI)) (ci := 3) (v := .int 32) (ty := tyX3 5) (C := RX3) (T := TX3) (N := 9) hx hb htw inlX3 tyX3 tyX3_ok nmX3 hown hK hP hD hS 0 rfl rfl 5 (by decide) (htw _ (ck_14 _ (List.mem_of_getElem? (i := 17) rfl))) (fun _ h9 => h9) rfl (tyX3_ok 5 (by decide)) rfl rfl (Nat.le_of_ble_eq_true rfl) dX3_readSign_222 (fun H locs hP hD hS => ?_)
      obtain ⟨hP, hD⟩ := zre [(eO3a lx lby lfi lco lxe (lxa + 1) 32 lxp lxn lxl), (eA0 lby cBy 900 fBy)] hP hD rfl
      refine lv_goto (tgt := 294) hx hb dX3_readSign_225 (by decide) ?_
      exact hjoin_4 (37 : Int32) (32 : Int32)  (hX_3.trans (by rw [fe_readSign_k]; (try rw [if_pos rfl]); try rfl)) _ _ ls hP hD hS (lv_sub hl [0, 1, 2] rfl)
    by_cases h_9 : a0 = 38
    · subst h_9
      refine lv_tableIn (off := 252) (tgt := 288) hx hb dX3_readSign_36 (by decide) (by decide) (by decide) (by decide) ?_
      refine lv_aload_n hx hb dX3_readSign_288 rfl (lv_at hl 1 rfl) ?_
      refine lv_bipush (v := 39) hx hb dX3_readSign_289 (by decide) ?_
      refine va_put (D := (dC, dI)) (ci := 3) (v := .int 39) (ty := tyX3 5) (C := RX3) (T := TX3) (N := 9) hx hb htw inlX3 tyX3 tyX3_ok nmX3 hown hK hP hD hS 0 rfl rfl 5 (by decide) (htw _ (ck_14 _ (List.mem_of_getElem? (i := 17) rfl))) (fun _ h9 => h9) rfl (tyX3_ok 5 (by decide)) rfl rfl (Nat.le_of_ble_eq_true rfl) dX3_readSign_291 (fun H locs hP hD hS => ?_)
      obtain ⟨hP, hD⟩ := zre [(eO3a lx lby lfi lco lxe (lxa + 1) 39 lxp lxn lxl), (eA0 lby cBy 900 fBy)] hP hD rfl
      exact hjoin_4 (38 : Int32) (39 : Int32)  (hX_3.trans (by rw [fe_readSign_k]; (try rw [if_neg h_8]); (try rw [if_pos rfl]); try rfl)) _ _ ls hP hD hS (lv_sub hl [0, 1, 2] rfl)
    by_cases h_10 : a0 = 39
    · subst h_10
      refine lv_tableIn (off := 252) (tgt := 288) hx hb dX3_readSign_36 (by decide) (by decide) (by decide) (by decide) ?_
      refine lv_aload_n hx hb dX3_readSign_288 rfl (lv_at hl 1 rfl) ?_
      refine lv_bipush (v := 39) hx hb dX3_readSign_289 (by decide) ?_
      refine va_put (D := (dC, dI)) (ci := 3) (v := .int 39) (ty := tyX3 5) (C := RX3) (T := TX3) (N := 9) hx hb htw inlX3 tyX3 tyX3_ok nmX3 hown hK hP hD hS 0 rfl rfl 5 (by decide) (htw _ (ck_14 _ (List.mem_of_getElem? (i := 17) rfl))) (fun _ h9 => h9) rfl (tyX3_ok 5 (by decide)) rfl rfl (Nat.le_of_ble_eq_true rfl) dX3_readSign_291 (fun H locs hP hD hS => ?_)
      obtain ⟨hP, hD⟩ := zre [(eO3a lx lby lfi lco lxe (lxa + 1) 39 lxp lxn lxl), (eA0 lby cBy 900 fBy)] hP hD rfl
      exact hjoin_4 (39 : Int32) (39 : Int32)  (hX_3.trans (by rw [fe_readSign_k]; (try rw [if_neg h_8]); (try rw [if_neg h_9]); (try rw [if_pos rfl]); try rfl)) _ _ ls hP hD hS (lv_sub hl [0, 1, 2] rfl)
    by_cases h_11 : a0 = 40
    · subst h_11
      refine lv_tableIn (off := 129) (tgt := 165) hx hb dX3_readSign_36 (by decide) (by decide) (by decide) (by decide) ?_
      refine lv_aload_n hx hb dX3_readSign_165 rfl (lv_at hl 1 rfl) ?_
      refine lv_bipush (v := 26) hx hb dX3_readSign_166 (by decide) ?_
      refine va_put (D := (dC, dI)) (ci := 3) (v := .int 26) (ty := tyX3 5) (C := RX3) (T := TX3) (N := 9) hx hb htw inlX3 tyX3 tyX3_ok nmX3 hown hK hP hD hS 0 rfl rfl 5 (by decide) (htw _ (ck_14 _ (List.mem_of_getElem? (i := 17) rfl))) (fun _ h9 => h9) rfl (tyX3_ok 5 (by decide)) rfl rfl (Nat.le_of_ble_eq_true rfl) dX3_readSign_168 (fun H locs hP hD hS => ?_)
      obtain ⟨hP, hD⟩ := zre [(eO3a lx lby lfi lco lxe (lxa + 1) 26 lxp lxn lxl), (eA0 lby cBy 900 fBy)] hP hD rfl
      refine lv_goto (tgt := 294) hx hb dX3_readSign_171 (by decide) ?_
      exact hjoin_4 (40 : Int32) (26 : Int32)  (hX_3.trans (by rw [fe_readSign_k]; (try rw [if_neg h_8]); (try rw [if_neg h_9]); (try rw [if_neg h_10]); (try rw [if_pos rfl]); try rfl)) _ _ ls hP hD hS (lv_sub hl [0, 1, 2] rfl)
    by_cases h_12 : a0 = 41
    · subst h_12
      refine lv_tableIn (off := 138) (tgt := 174) hx hb dX3_readSign_36 (by decide) (by decide) (by decide) (by decide) ?_
      refine lv_aload_n hx hb dX3_readSign_174 rfl (lv_at hl 1 rfl) ?_
      refine lv_bipush (v := 27) hx hb dX3_readSign_175 (by decide) ?_
      refine va_put (D := (dC, dI)) (ci := 3) (v := .int 27) (ty := tyX3 5) (C := RX3) (T := TX3) (N := 9) hx hb htw inlX3 tyX3 tyX3_ok nmX3 hown hK hP hD hS 0 rfl rfl 5 (by decide) (htw _ (ck_14 _ (List.mem_of_getElem? (i := 17) rfl))) (fun _ h9 => h9) rfl (tyX3_ok 5 (by decide)) rfl rfl (Nat.le_of_ble_eq_true rfl) dX3_readSign_177 (fun H locs hP hD hS => ?_)
      obtain ⟨hP, hD⟩ := zre [(eO3a lx lby lfi lco lxe (lxa + 1) 27 lxp lxn lxl), (eA0 lby cBy 900 fBy)] hP hD rfl
      refine lv_goto (tgt := 294) hx hb dX3_readSign_180 (by decide) ?_
      exact hjoin_4 (41 : Int32) (27 : Int32)  (hX_3.trans (by rw [fe_readSign_k]; (try rw [if_neg h_8]); (try rw [if_neg h_9]); (try rw [if_neg h_10]); (try rw [if_neg h_11]); (try rw [if_pos rfl]); try rfl)) _ _ ls hP hD hS (lv_sub hl [0, 1, 2] rfl)
    by_cases h_13 : a0 = 42
    · subst h_13
      refine lv_tableIn (off := 165) (tgt := 201) hx hb dX3_readSign_36 (by decide) (by decide) (by decide) (by decide) ?_
      refine lv_aload_n hx hb dX3_readSign_201 rfl (lv_at hl 1 rfl) ?_
      refine lv_bipush (v := 30) hx hb dX3_readSign_202 (by decide) ?_
      refine va_put (D := (dC, dI)) (ci := 3) (v := .int 30) (ty := tyX3 5) (C := RX3) (T := TX3) (N := 9) hx hb htw inlX3 tyX3 tyX3_ok nmX3 hown hK hP hD hS 0 rfl rfl 5 (by decide) (htw _ (ck_14 _ (List.mem_of_getElem? (i := 17) rfl))) (fun _ h9 => h9) rfl (tyX3_ok 5 (by decide)) rfl rfl (Nat.le_of_ble_eq_true rfl) dX3_readSign_204 (fun H locs hP hD hS => ?_)
      obtain ⟨hP, hD⟩ := zre [(eO3a lx lby lfi lco lxe (lxa + 1) 30 lxp lxn lxl), (eA0 lby cBy 900 fBy)] hP hD rfl
      refine lv_goto (tgt := 294) hx hb dX3_readSign_207 (by decide) ?_
      exact hjoin_4 (42 : Int32) (30 : Int32)  (hX_3.trans (by rw [fe_readSign_k]; (try rw [if_neg h_8]); (try rw [if_neg h_9]); (try rw [if_neg h_10]); (try rw [if_neg h_11]); (try rw [if_neg h_12]); (try rw [if_pos rfl]); try rfl)) _ _ ls hP hD hS (lv_sub hl [0, 1, 2] rfl)
    by_cases h_14 : a0 = 43
    · subst h_14
      refine lv_tableIn (off := 147) (tgt := 183) hx hb dX3_readSign_36 (by decide) (by decide) (by decide) (by decide) ?_
      refine lv_aload_n hx hb dX3_readSign_183 rfl (lv_at hl 1 rfl) ?_
      refine lv_bipush (v := 28) hx hb dX3_readSign_184 (by decide) ?_
      refine va_put (D := (dC, dI)) (ci := 3) (v := .int 28) (ty := tyX3 5) (C := RX3) (T := TX3) (N := 9) hx hb htw inlX3 tyX3 tyX3_ok nmX3 hown hK hP hD hS 0 rfl rfl 5 (by decide) (htw _ (ck_14 _ (List.mem_of_getElem? (i := 17) rfl))) (fun _ h9 => h9) rfl (tyX3_ok 5 (by decide)) rfl rfl (Nat.le_of_ble_eq_true rfl) dX3_readSign_186 (fun H locs hP hD hS => ?_)
      obtain ⟨hP, hD⟩ := zre [(eO3a lx lby lfi lco lxe (lxa + 1) 28 lxp lxn lxl), (eA0 lby cBy 900 fBy)] hP hD rfl
      refine lv_goto (tgt := 294) hx hb dX3_readSign_189 (by decide) ?_
      exact hjoin_4 (43 : Int32) (28 : Int32)  (hX_3.trans (by rw [fe_readSign_k]; (try rw [if_neg h_8]); (try rw [if_neg h_9]); (try rw [if_neg h_10]); (try rw [if_neg h_11]); (try rw [if_neg h_12]); (try rw [if_neg h_13]); (try rw [if_pos rfl]); try rfl)) _ _ ls hP hD hS (lv_sub hl [0, 1, 2] rfl)
    by_cases h_15 : a0 = 44
    · subst h_15
      refine lv_tableIn (off := 252) (tgt := 288) hx hb dX3_readSign_36 (by decide) (by decide) (by decide) (by decide) ?_
      refine lv_aload_n hx hb dX3_readSign_288 rfl (lv_at hl 1 rfl) ?_
      refine lv_bipush (v := 39) hx hb dX3_readSign_289 (by decide) ?_
      refine va_put (D := (dC, dI)) (ci := 3) (v := .int 39) (ty := tyX3 5) (C := RX3) (T := TX3) (N := 9) hx hb htw inlX3 tyX3 tyX3_ok nmX3 hown hK hP hD hS 0 rfl rfl 5 (by decide) (htw _ (ck_14 _ (List.mem_of_getElem? (i := 17) rfl))) (fun _ h9 => h9) rfl (tyX3_ok 5 (by decide)) rfl rfl (Nat.le_of_ble_eq_true rfl) dX3_readSign_291 (fun H locs hP hD hS => ?_)
      obtain ⟨hP, hD⟩ := zre [(eO3a lx lby lfi lco lxe (lxa + 1) 39 lxp lxn lxl), (eA0 lby cBy 900 fBy)] hP hD rfl
      exact hjoin_4 (44 : Int32) (39 : Int32)  (hX_3.trans (by rw [fe_readSign_k]; (try rw [if_neg h_8]); (try rw [if_neg h_9]); (try rw [if_neg h_10]); (try rw [if_neg h_11]); (try rw [if_neg h_12]); (try rw [if_neg h_13]); (try rw [if_neg h_14]); (try rw [if_pos rfl]); try rfl)) _ _ ls hP hD hS (lv_sub hl [0, 1, 2] rfl)
    by_cases h_16 : a0 = 45
    · subst h_16
      refine lv_tableIn (off := 156) (tgt := 192) hx hb dX3_readSign_36 (by decide) (by decide) (by decide) (by decide) ?_
      refine lv_aload_n hx hb dX3_readSign_192 rfl (lv_at hl 1 rfl) ?_
      refine lv_bipush (v := 29) hx hb dX3_readSign_193 (by decide) ?_
      refine va_put (D := (dC, dI)) (ci := 3) (v := .int 29) (ty := tyX3 5) (C := RX3) (T := TX3) (N := 9) hx hb htw inlX3 tyX3 tyX3_ok nmX3 hown hK hP hD hS 0 rfl rfl 5 (by decide) (htw _ (ck_14 _ (List.mem_of_getElem? (i := 17) rfl))) (fun _ h9 => h9) rfl (tyX3_ok 5 (by decide)) rfl rfl (Nat.le_of_ble_eq_true rfl) dX3_readSign_195 (fun H locs hP hD hS => ?_)
      obtain ⟨hP, hD⟩ := zre [(eO3a lx lby lfi lco lxe (lxa + 1) 29 lxp lxn lxl), (eA0 lby cBy 900 fBy)] hP hD rfl
      refine lv_goto (tgt := 294) hx hb dX3_readSign_198 (by decide) ?_
      exact hjoin_4 (45 : Int32) (29 : Int32)  (hX_3.trans (by rw [fe_readSign_k]; (try rw [if_neg h_8]); (try rw [if_neg h_9]); (try rw [if_neg h_10]); (try rw [if_neg h_11]); (try rw [if_neg h_12]); (try rw [if_neg h_13]); (try rw [if_neg h_14]); (try rw [if_neg h_15]); (try rw [if_pos rfl]); try rfl)) _ _ ls hP hD hS (lv_sub hl [0, 1, 2] rfl)
    by_cases h_17 : a0 = 46
    · subst h_17
      refine lv_tableIn (off := 252) (tgt := 288) hx hb dX3_readSign_36 (by decide) (by decide) (by decide) (by decide) ?_
      refine lv_aload_n hx hb dX3_readSign_288 rfl (lv_at hl 1 rfl) ?_
      refine lv_bipush (v := 39) hx hb dX3_readSign_289 (by decide) ?_
      refine va_put (D := (dC, dI)) (ci := 3) (v := .int 39) (ty := tyX3 5) (C := RX3) (T := TX3) (N := 9) hx hb htw inlX3 tyX3 tyX3_ok nmX3 hown hK hP hD hS 0 rfl rfl 5 (by decide) (htw _ (ck_14 _ (List.mem_of_getElem? (i := 17) rfl))) (fun _ h9 => h9) rfl (tyX3_ok 5 (by decide)) rfl rfl (Nat.le_of_ble_eq_true rfl) dX3_readSign_291 (fun H locs hP hD hS => ?_)
      obtain ⟨hP, hD⟩ := zre [(eO3a lx lby lfi lco lxe (lxa + 1) 39 lxp lxn lxl), (eA0 lby cBy 900 fBy)] hP hD rfl
      exact hjoin_4 (46 : Int32) (39 : Int32)  (hX_3.trans (by rw [fe_readSign_k]; (try rw [if_neg h_8]); (try rw [if_neg h_9]); (try rw [if_neg h_10]); (try rw [if_neg h_11]); (try rw [if_neg h_12]); (try rw [if_neg h_13]); (try rw [if_neg h_14]); (try rw [if_neg h_15]); (try rw [if_neg h_16]); (try rw [if_pos rfl]); try rfl)) _ _ ls hP hD hS (lv_sub hl [0, 1, 2] rfl)
    by_cases h_18 : a0 = 47
    · subst h_18
      refine lv_tableIn (off := 174) (tgt := 210) hx hb dX3_readSign_36 (by decide) (by decide) (by decide) (by decide) ?_
      refine lv_aload_n hx hb dX3_readSign_210 rfl (lv_at hl 1 rfl) ?_
      refine lv_bipush (v := 31) hx hb dX3_readSign_211 (by decide) ?_
      refine va_put (D := (dC, dI)) (ci := 3) (v := .int 31) (ty := tyX3 5) (C := RX3) (T := TX3) (N := 9) hx hb htw inlX3 tyX3 tyX3_ok nmX3 hown hK hP hD hS 0 rfl rfl 5 (by decide) (htw _ (ck_14 _ (List.mem_of_getElem? (i := 17) rfl))) (fun _ h9 => h9) rfl (tyX3_ok 5 (by decide)) rfl rfl (Nat.le_of_ble_eq_true rfl) dX3_readSign_213 (fun H locs hP hD hS => ?_)
      obtain ⟨hP, hD⟩ := zre [(eO3a lx lby lfi lco lxe (lxa + 1) 31 lxp lxn lxl), (eA0 lby cBy 900 fBy)] hP hD rfl
      refine lv_goto (tgt := 294) hx hb dX3_readSign_216 (by decide) ?_
      exact hjoin_4 (47 : Int32) (31 : Int32)  (hX_3.trans (by rw [fe_readSign_k]; (try rw [if_neg h_8]); (try rw [if_neg h_9]); (try rw [if_neg h_10]); (try rw [if_neg h_11]); (try rw [if_neg h_12]); (try rw [if_neg h_13]); (try rw [if_neg h_14]); (try rw [if_neg h_15]); (try rw [if_neg h_16]); (try rw [if_neg h_17]); (try rw [if_pos rfl]); try rfl)) _ _ ls hP hD hS (lv_sub hl [0, 1, 2] rfl)
    by_cases h_19 : a0 = 48
    · subst h_19
      refine lv_tableIn (off := 252) (tgt := 288) hx hb dX3_readSign_36 (by decide) (by decide) (by decide) (by decide) ?_
      refine lv_aload_n hx hb dX3_readSign_288 rfl (lv_at hl 1 rfl) ?_
      refine lv_bipush (v := 39) hx hb dX3_readSign_289 (by decide) ?_
      refine va_put (D := (dC, dI)) (ci := 3) (v := .int 39) (ty := tyX3 5) (C := RX3) (T := TX3) (N := 9) hx hb htw inlX3 tyX3 tyX3_ok nmX3 hown hK hP hD hS 0 rfl rfl 5 (by decide) (htw _ (ck_14 _ (List.mem_of_getElem? (i := 17) rfl))) (fun _ h9 => h9) rfl (tyX3_ok 5 (by decide)) rfl rfl (Nat.le_of_ble_eq_true rfl) dX3_readSign_291 (fun H locs hP hD hS => ?_)
      obtain ⟨hP, hD⟩ := zre [(eO3a lx lby lfi lco lxe (lxa + 1) 39 lxp lxn lxl), (eA0 lby cBy 900 fBy)] hP hD rfl
      exact hjoin_4 (48 : Int32) (39 : Int32)  (hX_3.trans (by rw [fe_readSign_k]; (try rw [if_neg h_8]); (try rw [if_neg h_9]); (try rw [if_neg h_10]); (try rw [if_neg h_11]); (try rw [if_neg h_12]); (try rw [if_neg h_13]); (try rw [if_neg h_14]); (try rw [if_neg h_15]); (try rw [if_neg h_16]); (try rw [if_neg h_17]); (try rw [if_neg h_18]); (try rw [if_pos rfl]); try rfl)) _ _ ls hP hD hS (lv_sub hl [0, 1, 2] rfl)
    by_cases h_20 : a0 = 49
    · subst h_20
      refine lv_tableIn (off := 252) (tgt := 288) hx hb dX3_readSign_36 (by decide) (by decide) (by decide) (by decide) ?_
      refine lv_aload_n hx hb dX3_readSign_288 rfl (lv_at hl 1 rfl) ?_
      refine lv_bipush (v := 39) hx hb dX3_readSign_289 (by decide) ?_
      refine va_put (D := (dC, dI)) (ci := 3) (v := .int 39) (ty := tyX3 5) (C := RX3) (T := TX3) (N := 9) hx hb htw inlX3 tyX3 tyX3_ok nmX3 hown hK hP hD hS 0 rfl rfl 5 (by decide) (htw _ (ck_14 _ (List.mem_of_getElem? (i := 17) rfl))) (fun _ h9 => h9) rfl (tyX3_ok 5 (by decide)) rfl rfl (Nat.le_of_ble_eq_true rfl) dX3_readSign_291 (fun H locs hP hD hS => ?_)
      obtain ⟨hP, hD⟩ := zre [(eO3a lx lby lfi lco lxe (lxa + 1) 39 lxp lxn lxl), (eA0 lby cBy 900 fBy)] hP hD rfl
      exact hjoin_4 (49 : Int32) (39 : Int32)  (hX_3.trans (by rw [fe_readSign_k]; (try rw [if_neg h_8]); (try rw [if_neg h_9]); (try rw [if_neg h_10]); (try rw [if_neg h_11]); (try rw [if_neg h_12]); (try rw [if_neg h_13]); (try rw [if_neg h_14]); (try rw [if_neg h_15]); (try rw [if_neg h_16]); (try rw [if_neg h_17]); (try rw [if_neg h_18]); (try rw [if_neg h_19]); (try rw [if_pos rfl]); try rfl)) _ _ ls hP hD hS (lv_sub hl [0, 1, 2] rfl)
    by_cases h_21 : a0 = 50
    · subst h_21
      refine lv_tableIn (off := 252) (tgt := 288) hx hb dX3_readSign_36 (by decide) (by decide) (by decide) (by decide) ?_
      refine lv_aload_n hx hb dX3_readSign_288 rfl (lv_at hl 1 rfl) ?_
      refine lv_bipush (v := 39) hx hb dX3_readSign_289 (by decide) ?_
      refine va_put (D := (dC, dI)) (ci := 3) (v := .int 39) (ty := tyX3 5) (C := RX3) (T := TX3) (N := 9) hx hb htw inlX3 tyX3 tyX3_ok nmX3 hown hK hP hD hS 0 rfl rfl 5 (by decide) (htw _ (ck_14 _ (List.mem_of_getElem? (i := 17) rfl))) (fun _ h9 => h9) rfl (tyX3_ok 5 (by decide)) rfl rfl (Nat.le_of_ble_eq_true rfl) dX3_readSign_291 (fun H locs hP hD hS => ?_)
      obtain ⟨hP, hD⟩ := zre [(eO3a lx lby lfi lco lxe (lxa + 1) 39 lxp lxn lxl), (eA0 lby cBy 900 fBy)] hP hD rfl
      exact hjoin_4 (50 : Int32) (39 : Int32)  (hX_3.trans (by rw [fe_readSign_k]; (try rw [if_neg h_8]); (try rw [if_neg h_9]); (try rw [if_neg h_10]); (try rw [if_neg h_11]); (try rw [if_neg h_12]); (try rw [if_neg h_13]); (try rw [if_neg h_14]); (try rw [if_neg h_15]); (try rw [if_neg h_16]); (try rw [if_neg h_17]); (try rw [if_neg h_18]); (try rw [if_neg h_19]); (try rw [if_neg h_20]); (try rw [if_pos rfl]); try rfl)) _ _ ls hP hD hS (lv_sub hl [0, 1, 2] rfl)
    by_cases h_22 : a0 = 51
    · subst h_22
      refine lv_tableIn (off := 252) (tgt := 288) hx hb dX3_readSign_36 (by decide) (by decide) (by decide) (by decide) ?_
      refine lv_aload_n hx hb dX3_readSign_288 rfl (lv_at hl 1 rfl) ?_
      refine lv_bipush (v := 39) hx hb dX3_readSign_289 (by decide) ?_
      refine va_put (D := (dC, dI)) (ci := 3) (v := .int 39) (ty := tyX3 5) (C := RX3) (T := TX3) (N := 9) hx hb htw inlX3 tyX3 tyX3_ok nmX3 hown hK hP hD hS 0 rfl rfl 5 (by decide) (htw _ (ck_14 _ (List.mem_of_getElem? (i := 17) rfl))) (fun _ h9 => h9) rfl (tyX3_ok 5 (by decide)) rfl rfl (Nat.le_of_ble_eq_true rfl) dX3_readSign_291 (fun H locs hP hD hS => ?_)
      obtain ⟨hP, hD⟩ := zre [(eO3a lx lby lfi lco lxe (lxa + 1) 39 lxp lxn lxl), (eA0 lby cBy 900 fBy)] hP hD rfl
      exact hjoin_4 (51 : Int32) (39 : Int32)  (hX_3.trans (by rw [fe_readSign_k]; (try rw [if_neg h_8]); (try rw [if_neg h_9]); (try rw [if_neg h_10]); (try rw [if_neg h_11]); (try rw [if_neg h_12]); (try rw [if_neg h_13]); (try rw [if_neg h_14]); (try rw [if_neg h_15]); (try rw [if_neg h_16]); (try rw [if_neg h_17]); (try rw [if_neg h_18]); (try rw [if_neg h_19]); (try rw [if_neg h_20]); (try rw [if_neg h_21]); (try rw [if_pos rfl]); try rfl)) _ _ ls hP hD hS (lv_sub hl [0, 1, 2] rfl)
    by_cases h_23 : a0 = 52
    · subst h_23
      refine lv_tableIn (off := 252) (tgt := 288) hx hb dX3_readSign_36 (by decide) (by decide) (by decide) (by decide) ?_
      refine lv_aload_n hx hb dX3_readSign_288 rfl (lv_at hl 1 rfl) ?_
      refine lv_bipush (v := 39) hx hb dX3_readSign_289 (by decide) ?_
      refine va_put (D := (dC, dI)) (ci := 3) (v := .int 39) (ty := tyX3 5) (C := RX3) (T := TX3) (N := 9) hx hb htw inlX3 tyX3 tyX3_ok nmX3 hown hK hP hD hS 0 rfl rfl 5 (by decide) (htw _ (ck_14 _ (List.mem_of_getElem? (i := 17) rfl))) (fun _ h9 => h9) rfl (tyX3_ok 5 (by decide)) rfl rfl (Nat.le_of_ble_eq_true rfl) dX3_readSign_291 (fun H locs hP hD hS => ?_)
      obtain ⟨hP, hD⟩ := zre [(eO3a lx lby lfi lco lxe (lxa + 1) 39 lxp lxn lxl), (eA0 lby cBy 900 fBy)] hP hD rfl
      exact hjoin_4 (52 : Int32) (39 : Int32)  (hX_3.trans (by rw [fe_readSign_k]; (try rw [if_neg h_8]); (try rw [if_neg h_9]); (try rw [if_neg h_10]); (try rw [if_neg h_11]); (try rw [if_neg h_12]); (try rw [if_neg h_13]); (try rw [if_neg h_14]); (try rw [if_neg h_15]); (try rw [if_neg h_16]); (try rw [if_neg h_17]); (try rw [if_neg h_18]); (try rw [if_neg h_19]); (try rw [if_neg h_20]); (try rw [if_neg h_21]); (try rw [if_neg h_22]); (try rw [if_pos rfl]); try rfl)) _ _ ls hP hD hS (lv_sub hl [0, 1, 2] rfl)
    by_cases h_24 : a0 = 53
    · subst h_24
      refine lv_tableIn (off := 252) (tgt := 288) hx hb dX3_readSign_36 (by decide) (by decide) (by decide) (by decide) ?_
      refine lv_aload_n hx hb dX3_readSign_288 rfl (lv_at hl 1 rfl) ?_
      refine lv_bipush (v := 39) hx hb dX3_readSign_289 (by decide) ?_
      refine va_put (D := (dC, dI)) (ci := 3) (v := .int 39) (ty := tyX3 5) (C := RX3) (T := TX3) (N := 9) hx hb htw inlX3 tyX3 tyX3_ok nmX3 hown hK hP hD hS 0 rfl rfl 5 (by decide) (htw _ (ck_14 _ (List.mem_of_getElem? (i := 17) rfl))) (fun _ h9 => h9) rfl (tyX3_ok 5 (by decide)) rfl rfl (Nat.le_of_ble_eq_true rfl) dX3_readSign_291 (fun H locs hP hD hS => ?_)
      obtain ⟨hP, hD⟩ := zre [(eO3a lx lby lfi lco lxe (lxa + 1) 39 lxp lxn lxl), (eA0 lby cBy 900 fBy)] hP hD rfl
      exact hjoin_4 (53 : Int32) (39 : Int32)  (hX_3.trans (by rw [fe_readSign_k]; (try rw [if_neg h_8]); (try rw [if_neg h_9]); (try rw [if_neg h_10]); (try rw [if_neg h_11]); (try rw [if_neg h_12]); (try rw [if_neg h_13]); (try rw [if_neg h_14]); (try rw [if_neg h_15]); (try rw [if_neg h_16]); (try rw [if_neg h_17]); (try rw [if_neg h_18]); (try rw [if_neg h_19]); (try rw [if_neg h_20]); (try rw [if_neg h_21]); (try rw [if_neg h_22]); (try rw [if_neg h_23]); (try rw [if_pos rfl]); try rfl)) _ _ ls hP hD hS (lv_sub hl [0, 1, 2] rfl)
    by_cases h_25 : a0 = 54
    · subst h_25
      refine lv_tableIn (off := 252) (tgt := 288) hx hb dX3_readSign_36 (by decide) (by decide) (by decide) (by decide) ?_
      refine lv_aload_n hx hb dX3_readSign_288 rfl (lv_at hl 1 rfl) ?_
      refine lv_bipush (v := 39) hx hb dX3_readSign_289 (by decide) ?_
      refine va_put (D := (dC, dI)) (ci := 3) (v := .int 39) (ty := tyX3 5) (C := RX3) (T := TX3) (N := 9) hx hb htw inlX3 tyX3 tyX3_ok nmX3 hown hK hP hD hS 0 rfl rfl 5 (by decide) (htw _ (ck_14 _ (List.mem_of_getElem? (i := 17) rfl))) (fun _ h9 => h9) rfl (tyX3_ok 5 (by decide)) rfl rfl (Nat.le_of_ble_eq_true rfl) dX3_readSign_291 (fun H locs hP hD hS => ?_)
      obtain ⟨hP, hD⟩ := zre [(eO3a lx lby lfi lco lxe (lxa + 1) 39 lxp lxn lxl), (eA0 lby cBy 900 fBy)] hP hD rfl
      exact hjoin_4 (54 : Int32) (39 : Int32)  (hX_3.trans (by rw [fe_readSign_k]; (try rw [if_neg h_8]); (try rw [if_neg h_9]); (try rw [if_neg h_10]); (try rw [if_neg h_11]); (try rw [if_neg h_12]); (try rw [if_neg h_13]); (try rw [if_neg h_14]); (try rw [if_neg h_15]); (try rw [if_neg h_16]); (try rw [if_neg h_17]); (try rw [if_neg h_18]); (try rw [if_neg h_19]); (try rw [if_neg h_20]); (try rw [if_neg h_21]); (try rw [if_neg h_22]); (try rw [if_neg h_23]); (try rw [if_neg h_24]); (try rw [if_pos rfl]); try rfl)) _ _ ls hP hD hS (lv_sub hl [0, 1, 2] rfl)
    by_cases h_26 : a0 = 55
    · subst h_26
      refine lv_tableIn (off := 252) (tgt := 288) hx hb dX3_readSign_36 (by decide) (by decide) (by decide) (by decide) ?_
      refine lv_aload_n hx hb dX3_readSign_288 rfl (lv_at hl 1 rfl) ?_
      refine lv_bipush (v := 39) hx hb dX3_readSign_289 (by decide) ?_
      refine va_put (D := (dC, dI)) (ci := 3) (v := .int 39) (ty := tyX3 5) (C := RX3) (T := TX3) (N := 9) hx hb htw inlX3 tyX3 tyX3_ok nmX3 hown hK hP hD hS 0 rfl rfl 5 (by decide) (htw _ (ck_14 _ (List.mem_of_getElem? (i := 17) rfl))) (fun _ h9 => h9) rfl (tyX3_ok 5 (by decide)) rfl rfl (Nat.le_of_ble_eq_true rfl) dX3_readSign_291 (fun H locs hP hD hS => ?_)
      obtain ⟨hP, hD⟩ := zre [(eO3a lx lby lfi lco lxe (lxa + 1) 39 lxp lxn lxl), (eA0 lby cBy 900 fBy)] hP hD rfl
      exact hjoin_4 (55 : Int32) (39 : Int32)  (hX_3.trans (by rw [fe_readSign_k]; (try rw [if_neg h_8]); (try rw [if_neg h_9]); (try rw [if_neg h_10]); (try rw [if_neg h_11]); (try rw [if_neg h_12]); (try rw [if_neg h_13]); (try rw [if_neg h_14]); (try rw [if_neg h_15]); (try rw [if_neg h_16]); (try rw [if_neg h_17]); (try rw [if_neg h_18]); (try rw [if_neg h_19]); (try rw [if_neg h_20]); (try rw [if_neg h_21]); (try rw [if_neg h_22]); (try rw [if_neg h_23]); (try rw [if_neg h_24]); (try rw [if_neg h_25]); (try rw [if_pos rfl]); try rfl)) _ _ ls hP hD hS (lv_sub hl [0, 1, 2] rfl)
    by_cases h_27 : a0 = 56
    · subst h_27
      refine lv_tableIn (off := 252) (tgt := 288) hx hb dX3_readSign_36 (by decide) (by decide) (by decide) (by decide) ?_
      refine lv_aload_n hx hb dX3_readSign_288 rfl (lv_at hl 1 rfl) ?_
      refine lv_bipush (v := 39) hx hb dX3_readSign_289 (by decide) ?_
      refine va_put (D := (dC, dI)) (ci := 3) (v := .int 39) (ty := tyX3 5) (C := RX3) (T := TX3) (N := 9) hx hb htw inlX3 tyX3 tyX3_ok nmX3 hown hK hP hD hS 0 rfl rfl 5 (by decide) (htw _ (ck_14 _ (List.mem_of_getElem? (i := 17) rfl))) (fun _ h9 => h9) rfl (tyX3_ok 5 (by decide)) rfl rfl (Nat.le_of_ble_eq_true rfl) dX3_readSign_291 (fun H locs hP hD hS => ?_)
      obtain ⟨hP, hD⟩ := zre [(eO3a lx lby lfi lco lxe (lxa + 1) 39 lxp lxn lxl), (eA0 lby cBy 900 fBy)] hP hD rfl
      exact hjoin_4 (56 : Int32) (39 : Int32)  (hX_3.trans (by rw [fe_readSign_k]; (try rw [if_neg h_8]); (try rw [if_neg h_9]); (try rw [if_neg h_10]); (try rw [if_neg h_11]); (try rw [if_neg h_12]); (try rw [if_neg h_13]); (try rw [if_neg h_14]); (try rw [if_neg h_15]); (try rw [if_neg h_16]); (try rw [if_neg h_17]); (try rw [if_neg h_18]); (try rw [if_neg h_19]); (try rw [if_neg h_20]); (try rw [if_neg h_21]); (try rw [if_neg h_22]); (try rw [if_neg h_23]); (try rw [if_neg h_24]); (try rw [if_neg h_25]); (try rw [if_neg h_26]); (try rw [if_pos rfl]); try rfl)) _ _ ls hP hD hS (lv_sub hl [0, 1, 2] rfl)
    by_cases h_28 : a0 = 57
    · subst h_28
      refine lv_tableIn (off := 252) (tgt := 288) hx hb dX3_readSign_36 (by decide) (by decide) (by decide) (by decide) ?_
      refine lv_aload_n hx hb dX3_readSign_288 rfl (lv_at hl 1 rfl) ?_
      refine lv_bipush (v := 39) hx hb dX3_readSign_289 (by decide) ?_
      refine va_put (D := (dC, dI)) (ci := 3) (v := .int 39) (ty := tyX3 5) (C := RX3) (T := TX3) (N := 9) hx hb htw inlX3 tyX3 tyX3_ok nmX3 hown hK hP hD hS 0 rfl rfl 5 (by decide) (htw _ (ck_14 _ (List.mem_of_getElem? (i := 17) rfl))) (fun _ h9 => h9) rfl (tyX3_ok 5 (by decide)) rfl rfl (Nat.le_of_ble_eq_true rfl) dX3_readSign_291 (fun H locs hP hD hS => ?_)
      obtain ⟨hP, hD⟩ := zre [(eO3a lx lby lfi lco lxe (lxa + 1) 39 lxp lxn lxl), (eA0 lby cBy 900 fBy)] hP hD rfl
      exact hjoin_4 (57 : Int32) (39 : Int32)  (hX_3.trans (by rw [fe_readSign_k]; (try rw [if_neg h_8]); (try rw [if_neg h_9]); (try rw [if_neg h_10]); (try rw [if_neg h_11]); (try rw [if_neg h_12]); (try rw [if_neg h_13]); (try rw [if_neg h_14]); (try rw [if_neg h_15]); (try rw [if_neg h_16]); (try rw [if_neg h_17]); (try rw [if_neg h_18]); (try rw [if_neg h_19]); (try rw [if_neg h_20]); (try rw [if_neg h_21]); (try rw [if_neg h_22]); (try rw [if_neg h_23]); (try rw [if_neg h_24]); (try rw [if_neg h_25]); (try rw [if_neg h_26]); (try rw [if_neg h_27]); (try rw [if_pos rfl]); try rfl)) _ _ ls hP hD hS (lv_sub hl [0, 1, 2] rfl)
    by_cases h_29 : a0 = 58
    · subst h_29
      refine lv_tableIn (off := 252) (tgt := 288) hx hb dX3_readSign_36 (by decide) (by decide) (by decide) (by decide) ?_
      refine lv_aload_n hx hb dX3_readSign_288 rfl (lv_at hl 1 rfl) ?_
      refine lv_bipush (v := 39) hx hb dX3_readSign_289 (by decide) ?_
      refine va_put (D := (dC, dI)) (ci := 3) (v := .int 39) (ty := tyX3 5) (C := RX3) (T := TX3) (N := 9) hx hb htw inlX3 tyX3 tyX3_ok nmX3 hown hK hP hD hS 0 rfl rfl 5 (by decide) (htw _ (ck_14 _ (List.mem_of_getElem? (i := 17) rfl))) (fun _ h9 => h9) rfl (tyX3_ok 5 (by decide)) rfl rfl (Nat.le_of_ble_eq_true rfl) dX3_readSign_291 (fun H locs hP hD hS => ?_)
      obtain ⟨hP, hD⟩ := zre [(eO3a lx lby lfi lco lxe (lxa + 1) 39 lxp lxn lxl), (eA0 lby cBy 900 fBy)] hP hD rfl
      exact hjoin_4 (58 : Int32) (39 : Int32)  (hX_3.trans (by rw [fe_readSign_k]; (try rw [if_neg h_8]); (try rw [if_neg h_9]); (try rw [if_neg h_10]); (try rw [if_neg h_11]); (try rw [if_neg h_12]); (try rw [if_neg h_13]); (try rw [if_neg h_14]); (try rw [if_neg h_15]); (try rw [if_neg h_16]); (try rw [if_neg h_17]); (try rw [if_neg h_18]); (try rw [if_neg h_19]); (try rw [if_neg h_20]); (try rw [if_neg h_21]); (try rw [if_neg h_22]); (try rw [if_neg h_23]); (try rw [if_neg h_24]); (try rw [if_neg h_25]); (try rw [if_neg h_26]); (try rw [if_neg h_27]); (try rw [if_neg h_28]); (try rw [if_pos rfl]); try rfl)) _ _ ls hP hD hS (lv_sub hl [0, 1, 2] rfl)
    by_cases h_30 : a0 = 59
    · subst h_30
      refine lv_tableIn (off := 120) (tgt := 156) hx hb dX3_readSign_36 (by decide) (by decide) (by decide) (by decide) ?_
      refine lv_aload_n hx hb dX3_readSign_156 rfl (lv_at hl 1 rfl) ?_
      refine lv_bipush (v := 25) hx hb dX3_readSign_157 (by decide) ?_
      refine va_put (D := (dC, dI)) (ci := 3) (v := .int 25) (ty := tyX3 5) (C := RX3) (T := TX3) (N := 9) hx hb htw inlX3 tyX3 tyX3_ok nmX3 hown hK hP hD hS 0 rfl rfl 5 (by decide) (htw _ (ck_14 _ (List.mem_of_getElem? (i := 17) rfl))) (fun _ h9 => h9) rfl (tyX3_ok 5 (by decide)) rfl rfl (Nat.le_of_ble_eq_true rfl) dX3_readSign_159 (fun H locs hP hD hS => ?_)
      obtain ⟨hP, hD⟩ := zre [(eO3a lx lby lfi lco lxe (lxa + 1) 25 lxp lxn lxl), (eA0 lby cBy 900 fBy)] hP hD rfl
      refine lv_goto (tgt := 294) hx hb dX3_readSign_162 (by decide) ?_
      exact hjoin_4 (59 : Int32) (25 : Int32)  (hX_3.trans (by rw [fe_readSign_k]; (try rw [if_neg h_8]); (try rw [if_neg h_9]); (try rw [if_neg h_10]); (try rw [if_neg h_11]); (try rw [if_neg h_12]); (try rw [if_neg h_13]); (try rw [if_neg h_14]); (try rw [if_neg h_15]); (try rw [if_neg h_16]); (try rw [if_neg h_17]); (try rw [if_neg h_18]); (try rw [if_neg h_19]); (try rw [if_neg h_20]); (try rw [if_neg h_21]); (try rw [if_neg h_22]); (try rw [if_neg h_23]); (try rw [if_neg h_24]); (try rw [if_neg h_25]); (try rw [if_neg h_26]); (try rw [if_neg h_27]); (try rw [if_neg h_28]); (try rw [if_neg h_29]); (try rw [if_pos rfl]); try rfl)) _ _ ls hP hD hS (lv_sub hl [0, 1, 2] rfl)
    by_cases h_31 : a0 = 60
    · subst h_31
      refine lv_tableIn (off := 201) (tgt := 237) hx hb dX3_readSign_36 (by decide) (by decide) (by decide) (by decide) ?_
      refine lv_aload_n hx hb dX3_readSign_237 rfl (lv_at hl 1 rfl) ?_
      refine lv_iload_n hx hb dX3_readSign_238 rfl (lv_at hl 0 rfl) ?_
      refine lv_bipush (v := 61) hx hb dX3_readSign_239 (by decide) ?_
      refine lv_icmp_ne (tgt := 249) hx hb dX3_readSign_241 (by decide) (fun c_32 => ?_) (fun c_32 => ?_)
      · refine lv_iload_n hx hb dX3_readSign_249 rfl (lv_at hl 0 rfl) ?_
        refine lv_bipush (v := 62) hx hb dX3_readSign_250 (by decide) ?_
        refine lv_icmp_ne (tgt := 260) hx hb dX3_readSign_252 (by decide) (fun c_33 => ?_) (fun c_33 => ?_)
        · refine lv_bipush (v := 33) hx hb dX3_readSign_260 (by decide) ?_
          refine va_put (D := (dC, dI)) (ci := 3) (v := .int 33) (ty := tyX3 5) (C := RX3) (T := TX3) (N := 9) hx hb htw inlX3 tyX3 tyX3_ok nmX3 hown hK hP hD hS 0 rfl rfl 5 (by decide) (htw _ (ck_14 _ (List.mem_of_getElem? (i := 17) rfl))) (fun _ h9 => h9) rfl (tyX3_ok 5 (by decide)) rfl rfl (Nat.le_of_ble_eq_true rfl) dX3_readSign_262 (fun H locs hP hD hS => ?_)
          obtain ⟨hP, hD⟩ := zre [(eO3a lx lby lfi lco lxe (lxa + 1) 33 lxp lxn lxl), (eA0 lby cBy 900 fBy)] hP hD rfl
          refine lv_goto (tgt := 294) hx hb dX3_readSign_265 (by decide) ?_
          exact hjoin_4 (60 : Int32) (33 : Int32)  (hX_3.trans (by rw [fe_readSign_k]; (try rw [if_neg h_8]); (try rw [if_neg h_9]); (try rw [if_neg h_10]); (try rw [if_neg h_11]); (try rw [if_neg h_12]); (try rw [if_neg h_13]); (try rw [if_neg h_14]); (try rw [if_neg h_15]); (try rw [if_neg h_16]); (try rw [if_neg h_17]); (try rw [if_neg h_18]); (try rw [if_neg h_19]); (try rw [if_neg h_20]); (try rw [if_neg h_21]); (try rw [if_neg h_22]); (try rw [if_neg h_23]); (try rw [if_neg h_24]); (try rw [if_neg h_25]); (try rw [if_neg h_26]); (try rw [if_neg h_27]); (try rw [if_neg h_28]); (try rw [if_neg h_29]); (try rw [if_neg h_30]); (try rw [if_pos rfl]); (try rw [if_neg c_32]); (try rw [if_neg c_33]); try rfl)) _ _ ls hP hD hS (lv_sub hl [0, 1, 2] rfl)
        · refine lv_bipush (v := 36) hx hb dX3_readSign_255 (by decide) ?_
          refine lv_goto (tgt := 262) hx hb dX3_readSign_257 (by decide) ?_
          refine va_put (D := (dC, dI)) (ci := 3) (v := .int 36) (ty := tyX3 5) (C := RX3) (T := TX3) (N := 9) hx hb htw inlX3 tyX3 tyX3_ok nmX3 hown hK hP hD hS 0 rfl rfl 5 (by decide) (htw _ (ck_14 _ (List.mem_of_getElem? (i := 17) rfl))) (fun _ h9 => h9) rfl (tyX3_ok 5 (by decide)) rfl rfl (Nat.le_of_ble_eq_true rfl) dX3_readSign_262 (fun H locs hP hD hS => ?_)
          obtain ⟨hP, hD⟩ := zre [(eO3a lx lby lfi lco lxe (lxa + 1) 36 lxp lxn lxl), (eA0 lby cBy 900 fBy)] hP hD rfl
          refine lv_goto (tgt := 294) hx hb dX3_readSign_265 (by decide) ?_
          exact hjoin_4 (60 : Int32) (36 : Int32)  (hX_3.trans (by rw [fe_readSign_k]; (try rw [if_neg h_8]); (try rw [if_neg h_9]); (try rw [if_neg h_10]); (try rw [if_neg h_11]); (try rw [if_neg h_12]); (try rw [if_neg h_13]); (try rw [if_neg h_14]); (try rw [if_neg h_15]); (try rw [if_neg h_16]); (try rw [if_neg h_17]); (try rw [if_neg h_18]); (try rw [if_neg h_19]); (try rw [if_neg h_20]); (try rw [if_neg h_21]); (try rw [if_neg h_22]); (try rw [if_neg h_23]); (try rw [if_neg h_24]); (try rw [if_neg h_25]); (try rw [if_neg h_26]); (try rw [if_neg h_27]); (try rw [if_neg h_28]); (try rw [if_neg h_29]); (try rw [if_neg h_30]); (try rw [if_pos rfl]); (try rw [if_neg c_32]); (try rw [if_pos c_33]); try rfl)) _ _ ls hP hD hS (lv_sub hl [0, 1, 2] rfl)
      · refine lv_bipush (v := 34) hx hb dX3_readSign_244 (by decide) ?_
        refine lv_goto (tgt := 262) hx hb dX3_readSign_246 (by decide) ?_
        refine va_put (D := (dC, dI)) (ci := 3) (v := .int 34) (ty := tyX3 5) (C := RX3) (T := TX3) (N := 9) hx hb htw inlX3 tyX3 tyX3_ok nmX3 hown hK hP hD hS 0 rfl rfl 5 (by decide) (htw _ (ck_14 _ (List.mem_of_getElem? (i := 17) rfl))) (fun _ h9 => h9) rfl (tyX3_ok 5 (by decide)) rfl rfl (Nat.le_of_ble_eq_true rfl) dX3_readSign_262 (fun H locs hP hD hS => ?_)
        obtain ⟨hP, hD⟩ := zre [(eO3a lx lby lfi lco lxe (lxa + 1) 34 lxp lxn lxl), (eA0 lby cBy 900 fBy)] hP hD rfl
        refine lv_goto (tgt := 294) hx hb dX3_readSign_265 (by decide) ?_
        exact hjoin_4 (60 : Int32) (34 : Int32)  (hX_3.trans (by rw [fe_readSign_k]; (try rw [if_neg h_8]); (try rw [if_neg h_9]); (try rw [if_neg h_10]); (try rw [if_neg h_11]); (try rw [if_neg h_12]); (try rw [if_neg h_13]); (try rw [if_neg h_14]); (try rw [if_neg h_15]); (try rw [if_neg h_16]); (try rw [if_neg h_17]); (try rw [if_neg h_18]); (try rw [if_neg h_19]); (try rw [if_neg h_20]); (try rw [if_neg h_21]); (try rw [if_neg h_22]); (try rw [if_neg h_23]); (try rw [if_neg h_24]); (try rw [if_neg h_25]); (try rw [if_neg h_26]); (try rw [if_neg h_27]); (try rw [if_neg h_28]); (try rw [if_neg h_29]); (try rw [if_neg h_30]); (try rw [if_pos rfl]); (try rw [if_pos c_32]); try rfl)) _ _ ls hP hD hS (lv_sub hl [0, 1, 2] rfl)
    by_cases h_34 : a0 = 61
    · subst h_34
      refine lv_tableIn (off := 192) (tgt := 228) hx hb dX3_readSign_36 (by decide) (by decide) (by decide) (by decide) ?_
      refine lv_aload_n hx hb dX3_readSign_228 rfl (lv_at hl 1 rfl) ?_
      refine lv_bipush (v := 35) hx hb dX3_readSign_229 (by decide) ?_
      refine va_put (D := (dC, dI)) (ci := 3) (v := .int 35) (ty := tyX3 5) (C := RX3) (T := TX3) (N := 9) hx hb htw inlX3 tyX3 tyX3_ok nmX3 hown hK hP hD hS 0 rfl rfl 5 (by decide) (htw _ (ck_14 _ (List.mem_of_getElem? (i := 17) rfl))) (fun _ h9 => h9) rfl (tyX3_ok 5 (by decide)) rfl rfl (Nat.le_of_ble_eq_true rfl) dX3_readSign_231 (fun H locs hP hD hS => ?_)
      obtain ⟨hP, hD⟩ := zre [(eO3a lx lby lfi lco lxe (lxa + 1) 35 lxp lxn lxl), (eA0 lby cBy 900 fBy)] hP hD rfl
      refine lv_goto (tgt := 294) hx hb dX3_readSign_234 (by decide) ?_
      exact hjoin_4 (61 : Int32) (35 : Int32)  (hX_3.trans (by rw [fe_readSign_k]; (try rw [if_neg h_8]); (try rw [if_neg h_9]); (try rw [if_neg h_10]); (try rw [if_neg h_11]); (try rw [if_neg h_12]); (try rw [if_neg h_13]); (try rw [if_neg h_14]); (try rw [if_neg h_15]); (try rw [if_neg h_16]); (try rw [if_neg h_17]); (try rw [if_neg h_18]); (try rw [if_neg h_19]); (try rw [if_neg h_20]); (try rw [if_neg h_21]); (try rw [if_neg h_22]); (try rw [if_neg h_23]); (try rw [if_neg h_24]); (try rw [if_neg h_25]); (try rw [if_neg h_26]); (try rw [if_neg h_27]); (try rw [if_neg h_28]); (try rw [if_neg h_29]); (try rw [if_neg h_30]); (try rw [if_neg h_31]); (try rw [if_pos rfl]); try rfl)) _ _ ls hP hD hS (lv_sub hl [0, 1, 2] rfl)
    by_cases h_35 : a0 = 62
    · subst h_35
      refine lv_tableIn (off := 232) (tgt := 268) hx hb dX3_readSign_36 (by decide) (by decide) (by decide) (by decide) ?_
      refine lv_aload_n hx hb dX3_readSign_268 rfl (lv_at hl 1 rfl) ?_
      refine lv_iload_n hx hb dX3_readSign_269 rfl (lv_at hl 0 rfl) ?_
      refine lv_bipush (v := 61) hx hb dX3_readSign_270 (by decide) ?_
      refine lv_icmp_ne (tgt := 280) hx hb dX3_readSign_272 (by decide) (fun c_36 => ?_) (fun c_36 => ?_)
      · refine lv_bipush (v := 38) hx hb dX3_readSign_280 (by decide) ?_
        refine va_put (D := (dC, dI)) (ci := 3) (v := .int 38) (ty := tyX3 5) (C := RX3) (T := TX3) (N := 9) hx hb htw inlX3 tyX3 tyX3_ok nmX3 hown hK hP hD hS 0 rfl rfl 5 (by decide) (htw _ (ck_14 _ (List.mem_of_getElem? (i := 17) rfl))) (fun _ h9 => h9) rfl (tyX3_ok 5 (by decide)) rfl rfl (Nat.le_of_ble_eq_true rfl) dX3_readSign_282 (fun H locs hP hD hS => ?_)
        obtain ⟨hP, hD⟩ := zre [(eO3a lx lby lfi lco lxe (lxa + 1) 38 lxp lxn lxl), (eA0 lby cBy 900 fBy)] hP hD rfl
        refine lv_goto (tgt := 294) hx hb dX3_readSign_285 (by decide) ?_
        exact hjoin_4 (62 : Int32) (38 : Int32)  (hX_3.trans (by rw [fe_readSign_k]; (try rw [if_neg h_8]); (try rw [if_neg h_9]); (try rw [if_neg h_10]); (try rw [if_neg h_11]); (try rw [if_neg h_12]); (try rw [if_neg h_13]); (try rw [if_neg h_14]); (try rw [if_neg h_15]); (try rw [if_neg h_16]); (try rw [if_neg h_17]); (try rw [if_neg h_18]); (try rw [if_neg h_19]); (try rw [if_neg h_20]); (try rw [if_neg h_21]); (try rw [if_neg h_22]); (try rw [if_neg h_23]); (try rw [if_neg h_24]); (try rw [if_neg h_25]); (try rw [if_neg h_26]); (try rw [if_neg h_27]); (try rw [if_neg h_28]); (try rw [if_neg h_29]); (try rw [if_neg h_30]); (try rw [if_neg h_31]); (try rw [if_neg h_34]); (try rw [if_pos rfl]); (try rw [if_neg c_36]); try rfl)) _ _ ls hP hD hS (lv_sub hl [0, 1, 2] rfl)
      · refine lv_bipush (v := 37) hx hb dX3_readSign_275 (by decide) ?_
        refine lv_goto (tgt := 282) hx hb dX3_readSign_277 (by decide) ?_
        refine va_put (D := (dC, dI)) (ci := 3) (v := .int 37) (ty := tyX3 5) (C := RX3) (T := TX3) (N := 9) hx hb htw inlX3 tyX3 tyX3_ok nmX3 hown hK hP hD hS 0 rfl rfl 5 (by decide) (htw _ (ck_14 _ (List.mem_of_getElem? (i := 17) rfl))) (fun _ h9 => h9) rfl (tyX3_ok 5 (by decide)) rfl rfl (Nat.le_of_ble_eq_true rfl) dX3_readSign_282 (fun H locs hP hD hS => ?_)
        obtain ⟨hP, hD⟩ := zre [(eO3a lx lby lfi lco lxe (lxa + 1) 37 lxp lxn lxl), (eA0 lby cBy 900 fBy)] hP hD rfl
        refine lv_goto (tgt := 294) hx hb dX3_readSign_285 (by decide) ?_
        exact hjoin_4 (62 : Int32) (37 : Int32)  (hX_3.trans (by rw [fe_readSign_k]; (try rw [if_neg h_8]); (try rw [if_neg h_9]); (try rw [if_neg h_10]); (try rw [if_neg h_11]); (try rw [if_neg h_12]); (try rw [if_neg h_13]); (try rw [if_neg h_14]); (try rw [if_neg h_15]); (try rw [if_neg h_16]); (try rw [if_neg h_17]); (try rw [if_neg h_18]); (try rw [if_neg h_19]); (try rw [if_neg h_20]); (try rw [if_neg h_21]); (try rw [if_neg h_22]); (try rw [if_neg h_23]); (try rw [if_neg h_24]); (try rw [if_neg h_25]); (try rw [if_neg h_26]); (try rw [if_neg h_27]); (try rw [if_neg h_28]); (try rw [if_neg h_29]); (try rw [if_neg h_30]); (try rw [if_neg h_31]); (try rw [if_neg h_34]); (try rw [if_pos rfl]); (try rw [if_pos c_36]); try rfl)) _ _ ls hP hD hS (lv_sub hl [0, 1, 2] rfl)
    refine lv_tableOut (tgt := 288) hx hb dX3_readSign_36 (by have a0 := xg_ne h_8; have a1 := xg_ne h_9; have a2 := xg_ne h_10; have a3 := xg_ne h_11; have a4 := xg_ne h_12; have a5 := xg_ne h_13; have a6 := xg_ne h_14; have a7 := xg_ne h_15; have a8 := xg_ne h_16; have a9 := xg_ne h_17; have a10 := xg_ne h_18; have a11 := xg_ne h_19; have a12 := xg_ne h_20; have a13 := xg_ne h_21; have a14 := xg_ne h_22; have a15 := xg_ne h_23; have a16 := xg_ne h_24; have a17 := xg_ne h_25; have a18 := xg_ne h_26; have a19 := xg_ne h_27; have a20 := xg_ne h_28; have a21 := xg_ne h_29; have a22 := xg_ne h_30; have a23 := xg_ne h_31; have a24 := xg_ne h_34; have a25 := xg_ne h_35; have b0 : (37 : Int32).toInt = 37 := rfl; have b1 : (38 : Int32).toInt = 38 := rfl; have b2 : (39 : Int32).toInt = 39 := rfl; have b3 : (40 : Int32).toInt = 40 := rfl; have b4 : (41 : Int32).toInt = 41 := rfl; have b5 : (42 : Int32).toInt = 42 := rfl; have b6 : (43 : Int32).toInt = 43 := rfl; have b7 : (44 : Int32).toInt = 44 := rfl; have b8 : (45 : Int32).toInt = 45 := rfl; have b9 : (46 : Int32).toInt = 46 := rfl; have b10 : (47 : Int32).toInt = 47 := rfl; have b11 : (48 : Int32).toInt = 48 := rfl; have b12 : (49 : Int32).toInt = 49 := rfl; have b13 : (50 : Int32).toInt = 50 := rfl; have b14 : (51 : Int32).toInt = 51 := rfl; have b15 : (52 : Int32).toInt = 52 := rfl; have b16 : (53 : Int32).toInt = 53 := rfl; have b17 : (54 : Int32).toInt = 54 := rfl; have b18 : (55 : Int32).toInt = 55 := rfl; have b19 : (56 : Int32).toInt = 56 := rfl; have b20 : (57 : Int32).toInt = 57 := rfl; have b21 : (58 : Int32).toInt = 58 := rfl; have b22 : (59 : Int32).toInt = 59 := rfl; have b23 : (60 : Int32).toInt = 60 := rfl; have b24 : (61 : Int32).toInt = 61 := rfl; have b25 : (62 : Int32).toInt = 62 := rfl; omega) (by decide) ?_
    refine lv_aload_n hx hb dX3_readSign_288 rfl (lv_at hl 1 rfl) ?_
    refine lv_bipush (v := 39) hx hb dX3_readSign_289 (by decide) ?_
    refine va_put (D := (dC, dI)) (ci := 3) (v := .int 39) (ty := tyX3 5) (C := RX3) (T := TX3) (N := 9) hx hb htw inlX3 tyX3 tyX3_ok nmX3 hown hK hP hD hS 0 rfl rfl 5 (by decide) (htw _ (ck_14 _ (List.mem_of_getElem? (i := 17) rfl))) (fun _ h9 => h9) rfl (tyX3_ok 5 (by decide)) rfl rfl (Nat.le_of_ble_eq_true rfl) dX3_readSign_291 (fun H locs hP hD hS => ?_)
    obtain ⟨hP, hD⟩ := zre [(eO3a lx lby lfi lco lxe (lxa + 1) 39 lxp lxn lxl), (eA0 lby cBy 900 fBy)] hP hD rfl
    exact hjoin_4 a0 (39 : Int32)  (hX_3.trans (by rw [fe_readSign_k]; (try rw [if_neg h_8]); (try rw [if_neg h_9]); (try rw [if_neg h_10]); (try rw [if_neg h_11]); (try rw [if_neg h_12]); (try rw [if_neg h_13]); (try rw [if_neg h_14]); (try rw [if_neg h_15]); (try rw [if_neg h_16]); (try rw [if_neg h_17]); (try rw [if_neg h_18]); (try rw [if_neg h_19]); (try rw [if_neg h_20]); (try rw [if_neg h_21]); (try rw [if_neg h_22]); (try rw [if_neg h_23]); (try rw [if_neg h_24]); (try rw [if_neg h_25]); (try rw [if_neg h_26]); (try rw [if_neg h_27]); (try rw [if_neg h_28]); (try rw [if_neg h_29]); (try rw [if_neg h_30]); (try rw [if_neg h_31]); (try rw [if_neg h_34]); (try rw [if_neg h_35]); try rfl)) _ _ ls hP hD hS (lv_sub hl [0, 1, 2] rfl)
  refine lv_icmp_ge (tgt := 33) hx hb dX3_readSign_18 (by decide) (fun c_37 => ?_) (fun c_37 => ?_)
  · refine lv_iconst (v := 0) hx hb dX3_readSign_33 (by decide) ?_
    exact hjoin_2 (0 : Int32)  (hX_1.trans (by rw [fe_readSign_j]; (try rw [if_pos c_37]); try rfl)) _ _ ls hP hD hS (lv_sub hl [0, 1] rfl)
  · refine lv_aload_n hx hb dX3_readSign_21 rfl (lv_at hl 0 rfl) ?_
    refine va_get (D := (dC, dI)) (ci := 3) (v := .ref lby) (C := RX3) (T := TX3) (N := 9) hx hb htw inlX3 hown hK hP 0 rfl rfl 0 (by decide) (htw _ (ck_3 _ (List.mem_of_getElem? (i := 14) rfl))) (fun _ h9 => h9) rfl dX3_readSign_22 ?_
    refine lv_aload_n hx hb dX3_readSign_25 rfl (lv_at hl 0 rfl) ?_
    refine va_get (D := (dC, dI)) (ci := 3) (v := .int (lxa + 1)) (C := RX3) (T := TX3) (N := 9) hx hb htw inlX3 hown hK hP 0 rfl rfl 4 (by decide) (htw _ (ck_14 _ (List.mem_of_getElem? (i := 11) rfl))) (fun _ h9 => h9) rfl dX3_readSign_26 ?_
    refine va_bald hx hb hK hP 1 0 rfl rfl (xg_inr (N := 900) rfl (ge_readSign_s0 (y0 := lxa) (y1 := lxe) c_37 h0_lxa h9_lxe hlt).1 (ge_readSign_s0 (y0 := lxa) (y1 := lxe) c_37 h0_lxa h9_lxe hlt).2) dX3_readSign_29 ?_
    refine lv_goto (tgt := 34) hx hb dX3_readSign_30 (by decide) ?_
    exact hjoin_2 (fBy ((lxa + 1).toNatClampNeg))  (hX_1.trans (by rw [fe_readSign_j]; (try rw [if_neg c_37]); try rfl)) _ _ ls hP hD hS (lv_sub hl [0, 1] rfl)

def fe_advance_c (lxe : Int32) (fBy : Nat → Int32) : Nat → (Int32) → (Int32)
  | 0, lxa_c => lxa_c
  | n + 1, lxa_c => (if lxe ≤ lxa_c then lxa_c else (if fBy lxa_c.toNatClampNeg = 10 then fe_advance_c lxe fBy n (lxa_c + 1) else (if fBy lxa_c.toNatClampNeg = 32 then fe_advance_c lxe fBy n (lxa_c + 1) else lxa_c)))
def fe_advance (lxe : Int32) (lxa : Int32) (lxn : Int32) (lxl : Int32) (fBy : Nat → Int32) (fCo : Nat → Int32) : (Int32) × (Int32) × (Int32) × (Int32) × (Int32) := (xL (fe_advance_c lxe fBy 900 lxa) (fun X_1 => (if X_1 < lxe then (if fBy X_1.toNatClampNeg < 97 then (if fBy X_1.toNatClampNeg < 48 then (xL ((fe_readSign lxe X_1 fBy (fBy X_1.toNatClampNeg))) (fun u_7 => (u_7.1, u_7.2, X_1, lxn, lxl))) else (if 57 < fBy X_1.toNatClampNeg then (xL ((fe_readSign lxe X_1 fBy (fBy X_1.toNatClampNeg))) (fun u_12 => (u_12.1, u_12.2, X_1, lxn, lxl))) else (xL ((fe_readNumber lxe X_1 fBy)) (fun u_16 => (u_16.2.2, u_16.1, X_1, u_16.2.1, lxl))))) else (if 122 < fBy X_1.toNatClampNeg then (if fBy X_1.toNatClampNeg < 48 then (xL ((fe_readSign lxe X_1 fBy (fBy X_1.toNatClampNeg))) (fun u_23 => (u_23.1, u_23.2, X_1, lxn, lxl))) else (if 57 < fBy X_1.toNatClampNeg then (xL ((fe_readSign lxe X_1 fBy (fBy X_1.toNatClampNeg))) (fun u_28 => (u_28.1, u_28.2, X_1, lxn, lxl))) else (xL ((fe_readNumber lxe X_1 fBy)) (fun u_32 => (u_32.2.2, u_32.1, X_1, u_32.2.1, lxl))))) else (xL ((fe_readWord lxe X_1 X_1 lxl fBy fCo)) (fun u_37 => (u_37.2.1, u_37.1, X_1, lxn, u_37.2.2))))) else (X_1, (40 : Int32), X_1, lxn, lxl))))
theorem ge_advance_s0 {y0 : Int32} {y1 : Int32} (h0 : y0 < y1) (h1 : ¬ (y0 < 0)) (h2 : y1 ≤ 900) : ¬ (y0 < 0) ∧ ¬ (900 ≤ y0) := by lia
theorem ge_advance_s1 {y0 : Int32} {y1 : Int32} (h0 : y0 < y1) (h1 : ¬ (y0 < 0)) (h2 : y1 ≤ 900) : ¬ (y0 < 0) := h1
theorem ge_advance_s2 {y0 : Int32} {y1 : Int32} (h0 : y1 < y0) (h1 : ¬ (y1 < 0)) (h2 : y0 ≤ 900) : ¬ (y0 ≤ y1) := by lia
theorem ge_advance_s3 {y0 : Int32} {y1 : Int32} (h0 : y0 < y1) (h1 : ¬ (y0 < 0)) (h2 : y1 ≤ 900) : ¬ (y0 < 0) := h1
theorem ge_advance_s4 {y0 : Int32} {y1 : Int32} (h0 : y1 < y0) (h1 : ¬ (y1 < 0)) (h2 : y0 ≤ 900) : ¬ (y0 ≤ y1) := by lia
theorem ge_advance_s5 {y0 : Int32} {y1 : Int32} (h0 : y0 < y1) (h1 : ¬ (y0 < 0)) (h2 : y1 ≤ 900) : ¬ (y0 < 0) := h1
theorem ge_advance_s6 {y0 : Int32} {y1 : Int32} (h0 : y0 < y1) (h1 : ¬ (y0 < 0)) (h2 : y1 ≤ 900) : ¬ (y0 < 0) := h1
theorem ge_advance_s7 {y0 : Int32} {y1 : Int32} (h0 : y1 < y0) (h1 : ¬ (y1 < 0)) (h2 : y0 ≤ 900) : ¬ (y0 ≤ y1) := by lia
theorem ge_advance_s8 {y0 : Int32} {y1 : Int32} (h0 : y0 < y1) (h1 : ¬ (y0 < 0)) (h2 : y1 ≤ 900) : ¬ (y0 < 0) := h1
theorem ge_advance_s9 {y0 : Int32} {y1 : Int32} (h0 : y1 < y0) (h1 : ¬ (y1 < 0)) (h2 : y0 ≤ 900) : ¬ (y0 ≤ y1) := by lia
theorem ge_advance_s10 {y0 : Int32} {y1 : Int32} (h0 : y0 < y1) (h1 : ¬ (y0 < 0)) (h2 : y1 ≤ 900) : ¬ (y0 < 0) := h1
theorem ge_advance_s11 {y0 : Int32} {y1 : Int32} (h0 : y0 < y1) (h1 : ¬ (y0 < 0)) (h2 : y1 ≤ 900) : ¬ (y0 < 0) := h1
theorem ge_advance_s12 {y0 : Int32} {y1 : Int32} (h0 : y1 ≤ y0) (h1 : ¬ (y0 < 0)) (h2 : y1 ≤ 900) : ¬ (y0 < 0) := h1
theorem ge_advance_s13 {y0 : Int32} {y1 : Int32} (h0 : y1 ≤ y0) (h1 : ¬ (y0 < 0)) (h2 : y1 ≤ 900) : ¬ (y0 < 0) := h1
theorem ge_advance_s14 {y0 : Int32} {y1 : Int32} (h0 : ¬ (y1 ≤ y0)) (h1 : ¬ (y0 < 0)) (h2 : y1 ≤ 900) : ¬ (y0 < 0) ∧ ¬ (900 ≤ y0) := by lia
theorem ge_advance_s15 {y0 : Int32} {y1 : Int32} (h0 : ¬ (y1 ≤ y0)) (h1 : ¬ (y0 < 0)) (h2 : y1 ≤ 900) : ¬ ((y0 + 1) < 0) := by lia
theorem ge_advance_s16 {y0 : Int32} {y1 : Int32} (h0 : ¬ (y1 ≤ y0)) (h1 : ¬ (y0 < 0)) (h2 : y1 ≤ 900) : ¬ (y0 < 0) ∧ ¬ (900 ≤ y0) := by lia
theorem ge_advance_s17 {y0 : Int32} {y1 : Int32} (h0 : ¬ (y1 ≤ y0)) (h1 : ¬ (y0 < 0)) (h2 : y1 ≤ 900) : ¬ (y0 < 0) := h1
theorem ge_advance_s18 {y0 : Int32} {y1 : Int32} (h0 : ¬ (y1 ≤ y0)) (h1 : ¬ (y0 < 0)) (h2 : y1 ≤ 900) : ¬ ((y0 + 1) < 0) := by lia
theorem ge_advance_s19 {y0 : Int32} (h0 : ¬ (y0 < 0)) : ¬ (y0 < 0) := h0
theorem dX3_advance_52 : decode cX3_advance 52 = .ok (.aload_n 0, 1) := zk_42 (by decide +kernel)
theorem dX3_advance_53 : decode cX3_advance 53 = .ok (.aload_n 0, 1) := zk_42 (by decide +kernel)
theorem dX3_advance_54 : decode cX3_advance 54 = .ok (.getfield 44, 3) := zk_180 (by decide +kernel)
theorem dX3_advance_57 : decode cX3_advance 57 = .ok (.putfield 50, 3) := zk_181 (by decide +kernel)
theorem dX3_advance_60 : decode cX3_advance 60 = .ok (.aload_n 0, 1) := zk_42 (by decide +kernel)
theorem dX3_advance_61 : decode cX3_advance 61 = .ok (.getfield 44, 3) := zk_180 (by decide +kernel)
theorem dX3_advance_64 : decode cX3_advance 64 = .ok (.aload_n 0, 1) := zk_42 (by decide +kernel)
theorem dX3_advance_65 : decode cX3_advance 65 = .ok (.getfield 41, 3) := zk_180 (by decide +kernel)
theorem dX3_advance_68 : decode cX3_advance 68 = .ok (.if_icmp .lt 10, 3) := zk_161 (by decide +kernel)
theorem dX3_advance_78 : decode cX3_advance 78 = .ok (.aload_n 0, 1) := zk_42 (by decide +kernel)
theorem dX3_advance_79 : decode cX3_advance 79 = .ok (.getfield 9, 3) := zk_180 (by decide +kernel)
theorem dX3_advance_82 : decode cX3_advance 82 = .ok (.aload_n 0, 1) := zk_42 (by decide +kernel)
theorem dX3_advance_83 : decode cX3_advance 83 = .ok (.getfield 44, 3) := zk_180 (by decide +kernel)
theorem dX3_advance_86 : decode cX3_advance 86 = .ok (.baload, 1) := zk_51 (by decide +kernel)
theorem dX3_advance_87 : decode cX3_advance 87 = .ok (.istore_n 1, 1) := zk_60 (by decide +kernel)
theorem dX3_advance_88 : decode cX3_advance 88 = .ok (.iload_n 1, 1) := zk_27 (by decide +kernel)
theorem dX3_advance_89 : decode cX3_advance 89 = .ok (.bipush 97, 2) := zk_16 (by decide +kernel)
theorem dX3_advance_91 : decode cX3_advance 91 = .ok (.if_icmp .lt 16, 3) := zk_161 (by decide +kernel)
theorem dX3_advance_107 : decode cX3_advance 107 = .ok (.iload_n 1, 1) := zk_27 (by decide +kernel)
theorem dX3_advance_108 : decode cX3_advance 108 = .ok (.bipush 48, 2) := zk_16 (by decide +kernel)
theorem dX3_advance_110 : decode cX3_advance 110 = .ok (.if_icmp .lt 16, 3) := zk_161 (by decide +kernel)
theorem dX3_advance_126 : decode cX3_advance 126 = .ok (.aload_n 0, 1) := zk_42 (by decide +kernel)
theorem dX3_advance_127 : decode cX3_advance 127 = .ok (.iload_n 1, 1) := zk_27 (by decide +kernel)
theorem dX3_advance_128 : decode cX3_advance 128 = .ok (.invokevirtual 62, 3) := zk_182 (by decide +kernel)
theorem dX3_advance_131 : decode cX3_advance 131 = .ok (.return_, 1) := zk_177 (by decide +kernel)
theorem dX3_advance_113 : decode cX3_advance 113 = .ok (.iload_n 1, 1) := zk_27 (by decide +kernel)
theorem dX3_advance_114 : decode cX3_advance 114 = .ok (.bipush 57, 2) := zk_16 (by decide +kernel)
theorem dX3_advance_116 : decode cX3_advance 116 = .ok (.if_icmp .gt 10, 3) := zk_163 (by decide +kernel)
theorem dX3_advance_119 : decode cX3_advance 119 = .ok (.aload_n 0, 1) := zk_42 (by decide +kernel)
theorem dX3_advance_120 : decode cX3_advance 120 = .ok (.invokevirtual 59, 3) := zk_182 (by decide +kernel)
theorem dX3_advance_123 : decode cX3_advance 123 = .ok (.goto 8, 3) := zk_167 (by decide +kernel)
theorem dX3_advance_94 : decode cX3_advance 94 = .ok (.iload_n 1, 1) := zk_27 (by decide +kernel)
theorem dX3_advance_95 : decode cX3_advance 95 = .ok (.bipush 122, 2) := zk_16 (by decide +kernel)
theorem dX3_advance_97 : decode cX3_advance 97 = .ok (.if_icmp .gt 10, 3) := zk_163 (by decide +kernel)
theorem dX3_advance_100 : decode cX3_advance 100 = .ok (.aload_n 0, 1) := zk_42 (by decide +kernel)
theorem dX3_advance_101 : decode cX3_advance 101 = .ok (.invokevirtual 56, 3) := zk_182 (by decide +kernel)
theorem dX3_advance_104 : decode cX3_advance 104 = .ok (.goto 27, 3) := zk_167 (by decide +kernel)
theorem dX3_advance_71 : decode cX3_advance 71 = .ok (.aload_n 0, 1) := zk_42 (by decide +kernel)
theorem dX3_advance_72 : decode cX3_advance 72 = .ok (.bipush 40, 2) := zk_16 (by decide +kernel)
theorem dX3_advance_74 : decode cX3_advance 74 = .ok (.putfield 53, 3) := zk_181 (by decide +kernel)
theorem dX3_advance_77 : decode cX3_advance 77 = .ok (.return_, 1) := zk_177 (by decide +kernel)
theorem dX3_advance_0 : decode cX3_advance 0 = .ok (.aload_n 0, 1) := zk_42 (by decide +kernel)
theorem dX3_advance_1 : decode cX3_advance 1 = .ok (.getfield 44, 3) := zk_180 (by decide +kernel)
theorem dX3_advance_4 : decode cX3_advance 4 = .ok (.aload_n 0, 1) := zk_42 (by decide +kernel)
theorem dX3_advance_5 : decode cX3_advance 5 = .ok (.getfield 41, 3) := zk_180 (by decide +kernel)
theorem dX3_advance_8 : decode cX3_advance 8 = .ok (.if_icmp .ge 44, 3) := zk_162 (by decide +kernel)
theorem dX3_advance_11 : decode cX3_advance 11 = .ok (.aload_n 0, 1) := zk_42 (by decide +kernel)
theorem dX3_advance_12 : decode cX3_advance 12 = .ok (.getfield 9, 3) := zk_180 (by decide +kernel)
theorem dX3_advance_15 : decode cX3_advance 15 = .ok (.aload_n 0, 1) := zk_42 (by decide +kernel)
theorem dX3_advance_16 : decode cX3_advance 16 = .ok (.getfield 44, 3) := zk_180 (by decide +kernel)
theorem dX3_advance_19 : decode cX3_advance 19 = .ok (.baload, 1) := zk_51 (by decide +kernel)
theorem dX3_advance_20 : decode cX3_advance 20 = .ok (.bipush 10, 2) := zk_16 (by decide +kernel)
theorem dX3_advance_22 : decode cX3_advance 22 = .ok (.if_icmp .eq 17, 3) := zk_159 (by decide +kernel)
theorem dX3_advance_39 : decode cX3_advance 39 = .ok (.aload_n 0, 1) := zk_42 (by decide +kernel)
theorem dX3_advance_40 : decode cX3_advance 40 = .ok (.dup, 1) := zk_89 (by decide +kernel)
theorem dX3_advance_41 : decode cX3_advance 41 = .ok (.getfield 44, 3) := zk_180 (by decide +kernel)
theorem dX3_advance_44 : decode cX3_advance 44 = .ok (.iconst 1, 1) := zk_4 (by decide +kernel)
theorem dX3_advance_45 : decode cX3_advance 45 = .ok (.iadd, 1) := zk_96 (by decide +kernel)
theorem dX3_advance_46 : decode cX3_advance 46 = .ok (.putfield 44, 3) := zk_181 (by decide +kernel)
theorem dX3_advance_49 : decode cX3_advance 49 = .ok (.goto (-49), 3) := zk_167 (by decide +kernel)
theorem dX3_advance_25 : decode cX3_advance 25 = .ok (.aload_n 0, 1) := zk_42 (by decide +kernel)
theorem dX3_advance_26 : decode cX3_advance 26 = .ok (.getfield 9, 3) := zk_180 (by decide +kernel)
theorem dX3_advance_29 : decode cX3_advance 29 = .ok (.aload_n 0, 1) := zk_42 (by decide +kernel)
theorem dX3_advance_30 : decode cX3_advance 30 = .ok (.getfield 44, 3) := zk_180 (by decide +kernel)
theorem dX3_advance_33 : decode cX3_advance 33 = .ok (.baload, 1) := zk_51 (by decide +kernel)
theorem dX3_advance_34 : decode cX3_advance 34 = .ok (.bipush 32, 2) := zk_16 (by decide +kernel)
theorem dX3_advance_36 : decode cX3_advance 36 = .ok (.if_icmp .ne 16, 3) := zk_160 (by decide +kernel)
set_option maxHeartbeats 4000000 in
set_option maxRecDepth 100000 in
theorem ge_advance (l : Launch) (dC : Nat → ClassId) (dI : Nat → Nat → Nat) (lx : Nat) (lby : Nat) (lfi : Int32) (lco : Nat) (lxe : Int32) (lxa : Int32) (lxt : Int32) (lxp : Int32) (lxn : Int32) (lxl : Int32) (cBy : ClassId) (fBy : Nat → Int32) (cCo : ClassId) (fCo : Nat → Int32) (sz : Nat) (h0_lxa : ¬ lxa < 0) (h9_lxe : lxe ≤ 900) : Met l yX3_advance (Cond.code yX3_advance cX3_advance 2 none :: wsL_law) ({ frames := 1, cells := 0, slots := 0, locals := 22 }) (va_Pc [.ref lx] (fun U => U.heap.size = sz ∧ va_P (dC, dI) vwCl [(eO3a lx lby lfi lco lxe lxa lxt lxp lxn lxl), (eA0 lby cBy 900 fBy), (eA0 lco cCo 23 fCo)] U.heap ∧ va_K (dC, dI) vwCl [(cBy, .byte), (cCo, .int)] U ∧ va_D (fun _ => True) [(eO3a lx lby lfi lco lxe lxa lxt lxp lxn lxl), (eA0 lby cBy 900 fBy), (eA0 lco cCo 23 fCo)])) (va_Qv (fun (u : (Int32) × (Int32) × (Int32) × (Int32) × (Int32)) => u = fe_advance lxe lxa lxn lxl fBy fCo) (fun (u : (Int32) × (Int32) × (Int32) × (Int32) × (Int32)) t => va_P (dC, dI) vwCl [(eO3a lx lby lfi lco lxe u.1 u.2.1 u.2.2.1 u.2.2.2.1 u.2.2.2.2), (eA0 lby cBy 900 fBy), (eA0 lco cCo 23 fCo)] t.heap ∧ va_K (dC, dI) vwCl [] t ∧ va_D (va_A [(eO3a lx lby lfi lco lxe lxa lxt lxp lxn lxl), (eA0 lby cBy 900 fBy), (eA0 lco cCo 23 fCo)] sz) [(eO3a lx lby lfi lco lxe u.1 u.2.1 u.2.2.1 u.2.2.2.1 u.2.2.2.2), (eA0 lby cBy 900 fBy), (eA0 lco cCo 23 fCo)]) (va_A [(eO3a lx lby lfi lco lxe lxa lxt lxp lxn lxl), (eA0 lby cBy 900 fBy), (eA0 lco cCo 23 fCo)] sz)) 0 0 (va_A [(eO3a lx lby lfi lco lxe lxa lxt lxp lxn lxl), (eA0 lby cBy 900 fBy), (eA0 lco cCo 23 fCo)] sz) := by
  refine Met.ofW (cc := cX3_advance) (maxL := 2) (ret := none) (by decide) rfl ?_
  intro p e s m args below meth c s₁ B hml hv
  obtain ⟨rfl, hsz, hP, hK, hD0⟩ := hv
  have hx := B.exec
  have hb := B.bytes
  have hr := B.returns
  have hts := atoms_spec (ws := Cond.code yX3_advance cX3_advance 2 none :: wsL_law) B.pre
  have htw : ∀ w ∈ wsL_law, w.before _ s = true := fun w h => hts w (List.mem_cons_of_mem _ h)
  have hown : s.vm.findClass RX3 = some m.cls := findClass_of_methodNamed B.named
  have hlocks := B.notSynchronized
  subst hsz
  have hD := hD0.self (sz := s.heap.size)
  generalize hAe : va_A [(eO3a lx lby lfi lco lxe lxa lxt lxp lxn lxl), (eA0 lby cBy 900 fBy), (eA0 lco cCo 23 fCo)] s.heap.size = A at hD ⊢
  have hA : ∀ q : Nat, s.heap.size ≤ q → A q := fun q h => by rw [← hAe]; exact Or.inr h
  obtain ⟨H, rH⟩ : ∃ z : Heap, z = s.heap := ⟨_, rfl⟩
  have hS : va_S A s.heap H [] := by rw [rH]; exact va_S.rf
  have hP : va_P (dC, dI) vwCl [(eO3a lx lby lfi lco lxe lxa lxt lxp lxn lxl), (eA0 lby cBy 900 fBy), (eA0 lco cCo 23 fCo)] H := by rw [rH]; exact hP
  rw [← rH]
  have hl := lv_entry ([.ref lx]) (n := 2) (Nat.le_of_ble_eq_true rfl)
  rw [lg_entry_eq]
  generalize (lg_sl ([.ref lx]) ++ List.replicate (2 - (lg_sl ([.ref lx])).length) Slot.unset).toArray = ls at hl ⊢
  have hl : lv_has ls 2 [(0, .ref lx)] := hl
  obtain ⟨X_1, hX_1⟩ : ∃ X9 : (Int32), X9 = fe_advance_c lxe fBy 900 lxa := ⟨_, rfl⟩
  have hexit_2 : ∀ (lxa_cx : Int32) (hx0 : ¬ lxa_cx < 0) (hE9 : X_1 = lxa_cx) (H : Heap) (locs : List Loc) (ls : Array Slot) (hP : va_P (dC, dI) vwCl [(eO3a lx lby lfi lco lxe lxa_cx lxt lxp lxn lxl), (eA0 lby cBy 900 fBy), (eA0 lco cCo 23 fCo)] H) (hD : va_D A [(eO3a lx lby lfi lco lxe lxa_cx lxt lxp lxn lxl), (eA0 lby cBy 900 fBy), (eA0 lco cCo 23 fCo)]) (hS : va_S A s.heap H locs) (hl : lv_has ls 2 [(0, .ref lx)]), W p l e (headSpec (Cond.code yX3_advance cX3_advance 2 none :: wsL_law) ({ frames := 1, cells := 0, slots := 0, locals := 22 })).room s m ([.ref lx] : List Value).toArray below meth c H locs 0 0 (MQ below (va_Qv (fun (u : (Int32) × (Int32) × (Int32) × (Int32) × (Int32)) => u = fe_advance lxe lxa lxn lxl fBy fCo) (fun (u : (Int32) × (Int32) × (Int32) × (Int32) × (Int32)) t => va_P (dC, dI) vwCl [(eO3a lx lby lfi lco lxe u.1 u.2.1 u.2.2.1 u.2.2.2.1 u.2.2.2.2), (eA0 lby cBy 900 fBy), (eA0 lco cCo 23 fCo)] t.heap ∧ va_K (dC, dI) vwCl [] t ∧ va_D A [(eO3a lx lby lfi lco lxe u.1 u.2.1 u.2.2.1 u.2.2.2.1 u.2.2.2.2), (eA0 lby cBy 900 fBy), (eA0 lco cCo 23 fCo)]) A) ([.ref lx] : List Value).toArray s 0 0 A) (F0 m 52 ls []) := by
    intro lxa_cx hx0 hE9 H locs ls hP hD hS hl
    have hq_lxa_cx : lxa_cx = X_1 := by rw [hE9]
    refine lv_aload_n hx hb dX3_advance_52 rfl (lv_at hl 0 rfl) ?_
    refine lv_aload_n hx hb dX3_advance_53 rfl (lv_at hl 0 rfl) ?_
    refine va_get (D := (dC, dI)) (ci := 3) (v := .int lxa_cx) (C := RX3) (T := TX3) (N := 9) hx hb htw inlX3 hown hK hP 0 rfl rfl 4 (by decide) (htw _ (ck_14 _ (List.mem_of_getElem? (i := 11) rfl))) (fun _ h9 => h9) rfl dX3_advance_54 ?_
    refine va_put (D := (dC, dI)) (ci := 3) (v := .int lxa_cx) (ty := tyX3 6) (C := RX3) (T := TX3) (N := 9) hx hb htw inlX3 tyX3 tyX3_ok nmX3 hown hK hP hD hS 0 rfl rfl 6 (by decide) (htw _ (ck_14 _ (List.mem_of_getElem? (i := 16) rfl))) (fun _ h9 => h9) rfl (tyX3_ok 6 (by decide)) rfl rfl (Nat.le_of_ble_eq_true rfl) dX3_advance_57 (fun H locs hP hD hS => ?_)
    obtain ⟨hP, hD⟩ := zre [(eO3a lx lby lfi lco lxe lxa_cx lxt lxa_cx lxn lxl), (eA0 lby cBy 900 fBy), (eA0 lco cCo 23 fCo)] hP hD rfl
    refine lv_aload_n hx hb dX3_advance_60 rfl (lv_at hl 0 rfl) ?_
    refine va_get (D := (dC, dI)) (ci := 3) (v := .int lxa_cx) (C := RX3) (T := TX3) (N := 9) hx hb htw inlX3 hown hK hP 0 rfl rfl 4 (by decide) (htw _ (ck_14 _ (List.mem_of_getElem? (i := 11) rfl))) (fun _ h9 => h9) rfl dX3_advance_61 ?_
    refine lv_aload_n hx hb dX3_advance_64 rfl (lv_at hl 0 rfl) ?_
    refine va_get (D := (dC, dI)) (ci := 3) (v := .int lxe) (C := RX3) (T := TX3) (N := 9) hx hb htw inlX3 hown hK hP 0 rfl rfl 3 (by decide) (htw _ (ck_14 _ (List.mem_of_getElem? (i := 10) rfl))) (fun _ h9 => h9) rfl dX3_advance_65 ?_
    refine lv_icmp_lt (tgt := 78) hx hb dX3_advance_68 (by decide) (fun c_3 => ?_) (fun c_3 => ?_)
    · refine lv_aload_n hx hb dX3_advance_78 rfl (lv_at hl 0 rfl) ?_
      refine va_get (D := (dC, dI)) (ci := 3) (v := .ref lby) (C := RX3) (T := TX3) (N := 9) hx hb htw inlX3 hown hK hP 0 rfl rfl 0 (by decide) (htw _ (ck_3 _ (List.mem_of_getElem? (i := 14) rfl))) (fun _ h9 => h9) rfl dX3_advance_79 ?_
      refine lv_aload_n hx hb dX3_advance_82 rfl (lv_at hl 0 rfl) ?_
      refine va_get (D := (dC, dI)) (ci := 3) (v := .int lxa_cx) (C := RX3) (T := TX3) (N := 9) hx hb htw inlX3 hown hK hP 0 rfl rfl 4 (by decide) (htw _ (ck_14 _ (List.mem_of_getElem? (i := 11) rfl))) (fun _ h9 => h9) rfl dX3_advance_83 ?_
      refine va_bald hx hb hK hP 1 0 rfl rfl (xg_inr (N := 900) rfl (ge_advance_s0 (y0 := lxa_cx) (y1 := lxe) c_3 hx0 h9_lxe).1 (ge_advance_s0 (y0 := lxa_cx) (y1 := lxe) c_3 hx0 h9_lxe).2) dX3_advance_86 ?_
      refine lv_istore_n (lv' := [(1, .int (fBy lxa_cx.toNatClampNeg)), (0, .ref lx)]) hx hb dX3_advance_87 rfl hl (by decide) rfl (fun ls hl => ?_)
      refine lv_iload_n hx hb dX3_advance_88 rfl (lv_at hl 0 rfl) ?_
      refine lv_bipush (v := 97) hx hb dX3_advance_89 (by decide) ?_
      refine lv_icmp_lt (tgt := 107) hx hb dX3_advance_91 (by decide) (fun c_4 => ?_) (fun c_4 => ?_)
      · refine lv_iload_n hx hb dX3_advance_107 rfl (lv_at hl 0 rfl) ?_
        refine lv_bipush (v := 48) hx hb dX3_advance_108 (by decide) ?_
        refine lv_icmp_lt (tgt := 126) hx hb dX3_advance_110 (by decide) (fun c_5 => ?_) (fun c_5 => ?_)
        · refine lv_aload_n hx hb dX3_advance_126 rfl (lv_at hl 1 rfl) ?_
          refine lv_iload_n hx hb dX3_advance_127 rfl (lv_at hl 0 rfl) ?_
          obtain ⟨hPc, hDc, hFc, hCc⟩ := zsub3 (ws' := [(eO3a lx lby lfi lco lxe lxa_cx lxt lxa_cx lxn lxl), (eA0 lby cBy 900 fBy)]) hP hD hS hA [0, 1] (by decide) rfl
          have hKc := hK.sub (tys' := [(cBy, .byte)]) [0] rfl
          refine va_callv (va_runV (As := [.int (fBy lxa_cx.toNatClampNeg)]) (rest := []) ⟨hx, hb, hml, hown, htw⟩ (ge_readSign l dC dI lx lby lfi lco lxe lxa_cx lxt lxa_cx lxn lxl cBy fBy (fBy lxa_cx.toNatClampNeg) H.size (ge_advance_s1 (y0 := lxa_cx) (y1 := lxe) c_3 hx0 h9_lxe) h9_lxe (ge_advance_s2 (y0 := lxe) (y1 := lxa_cx) c_3 hx0 h9_lxe)) (cwV 1 htw (xg_V (ck_15 _ (List.mem_of_getElem? (i := 5) rfl)) (ck_15 _ (List.mem_of_getElem? (i := 6) rfl)) (ck_15 _ (List.mem_of_getElem? (i := 7) rfl)) (ck_3 _ (List.mem_of_getElem? (i := 4) rfl)) (ck_15 _ (List.mem_of_getElem? (i := 8) rfl))) rfl rfl rfl (by exact ⟨rfl, hdc_4.1, hdc_4.2, hdd_9⟩) ⟨Nat.le_of_ble_eq_true rfl, Nat.le_of_ble_eq_true rfl⟩) ⟨fun a U g mk q => by obtain ⟨q0, q1, qP, qK, qD⟩ := q; exact ⟨q0, q1, qP, va_K.moved (u := U) (U := U.calling g mk a) (Vm.Alike.refl U.vm) qK, qD⟩, va_recv hKc hPc (ci := 3) (q0 := 0) rfl rfl, fun U hU hW => ⟨rfl, by rw [hU], by rw [hU]; exact hPc, va_K.moved hW.alike hKc, hDc.weaken (fun _ _ _ _ => trivial)⟩⟩ rfl rfl hl.1 rfl (lv_room (Nat.le_of_ble_eq_true rfl)) dX3_advance_128 ⟨Nat.le_of_ble_eq_true rfl, Nat.le_of_ble_eq_true rfl⟩) hS (fun q _ h => hFc q h) hFc (fun u_7 t H1 locs ht hvm hw hB hz1 hk1 hS => ?_)
          try dsimp only at hw
          obtain ⟨hP1, hK1, hD1⟩ := hB
          rw [ht] at hP1
          have hK1 := va_K.moved hvm.symm hK1
          have hK1 : va_K (dC, dI) vwCl [] s := hK1
          obtain ⟨hP, hD⟩ := va_join (wr := [(eA0 lco cCo 23 fCo)]) (w1 := [(eO3a lx lby lfi lco lxe u_7.1 u_7.2 lxa_cx lxn lxl), (eA0 lby cBy 900 fBy)]) hP hD [0, 1] [2] hCc rfl (by decide) (by decide) hk1 hFc hP1 hD1
          generalize H1 = H at hP hS ⊢
          obtain ⟨hP, hD⟩ := zre [(eA0 lco cCo 23 fCo), (eO3a lx lby lfi lco lxe u_7.1 u_7.2 lxa_cx lxn lxl), (eA0 lby cBy 900 fBy)] hP hD rfl
          refine W.widen (k := 0) (n := 0) (by omega) (by omega) ?_
          have hq_u_7 : u_7 = (fe_readSign lxe lxa_cx fBy (fBy lxa_cx.toNatClampNeg)) := hw
          refine W.widen (k := 0) (n := 0) (by omega) (by omega) ?_
          obtain ⟨hP9, hD9⟩ := zsub2 (ws' := [(eO3a lx lby lfi lco lxe u_7.1 u_7.2 lxa_cx lxn lxl), (eA0 lby cBy 900 fBy), (eA0 lco cCo 23 fCo)]) hP hD [1, 2, 0] (by decide) rfl
          have hK9 := hK.sub (tys' := []) [] rfl
          exact W.vret hx hb hr (fun t ht hW => ⟨⟨(u_7.1, u_7.2, lxa_cx, lxn, lxl), rfl, (Eq.symm ((by rw [fe_advance]; (try rw [← hX_1]); (try rw [xL_eq]); (try rw [← hq_lxa_cx]); (try rw [if_pos c_3]); (try rw [if_pos c_4]); (try rw [if_pos c_5]); (try rw [← hq_u_7]); (try rw [xL_eq]); try rfl))), by rw [ht]; exact hP9, va_K.moved hW.alike hK9, hD9⟩, hS.F ht⟩) hS.2.2 dX3_advance_131
        · refine lv_iload_n hx hb dX3_advance_113 rfl (lv_at hl 0 rfl) ?_
          refine lv_bipush (v := 57) hx hb dX3_advance_114 (by decide) ?_
          refine lv_icmp_gt (tgt := 126) hx hb dX3_advance_116 (by decide) (fun c_10 => ?_) (fun c_10 => ?_)
          · refine lv_aload_n hx hb dX3_advance_126 rfl (lv_at hl 1 rfl) ?_
            refine lv_iload_n hx hb dX3_advance_127 rfl (lv_at hl 0 rfl) ?_
            obtain ⟨hPc, hDc, hFc, hCc⟩ := zsub3 (ws' := [(eO3a lx lby lfi lco lxe lxa_cx lxt lxa_cx lxn lxl), (eA0 lby cBy 900 fBy)]) hP hD hS hA [0, 1] (by decide) rfl
            have hKc := hK.sub (tys' := [(cBy, .byte)]) [0] rfl
            refine va_callv (va_runV (As := [.int (fBy lxa_cx.toNatClampNeg)]) (rest := []) ⟨hx, hb, hml, hown, htw⟩ (ge_readSign l dC dI lx lby lfi lco lxe lxa_cx lxt lxa_cx lxn lxl cBy fBy (fBy lxa_cx.toNatClampNeg) H.size (ge_advance_s3 (y0 := lxa_cx) (y1 := lxe) c_3 hx0 h9_lxe) h9_lxe (ge_advance_s4 (y0 := lxe) (y1 := lxa_cx) c_3 hx0 h9_lxe)) (cwV 1 htw (xg_V (ck_15 _ (List.mem_of_getElem? (i := 5) rfl)) (ck_15 _ (List.mem_of_getElem? (i := 6) rfl)) (ck_15 _ (List.mem_of_getElem? (i := 7) rfl)) (ck_3 _ (List.mem_of_getElem? (i := 4) rfl)) (ck_15 _ (List.mem_of_getElem? (i := 8) rfl))) rfl rfl rfl (by exact ⟨rfl, hdc_4.1, hdc_4.2, hdd_9⟩) ⟨Nat.le_of_ble_eq_true rfl, Nat.le_of_ble_eq_true rfl⟩) ⟨fun a U g mk q => by obtain ⟨q0, q1, qP, qK, qD⟩ := q; exact ⟨q0, q1, qP, va_K.moved (u := U) (U := U.calling g mk a) (Vm.Alike.refl U.vm) qK, qD⟩, va_recv hKc hPc (ci := 3) (q0 := 0) rfl rfl, fun U hU hW => ⟨rfl, by rw [hU], by rw [hU]; exact hPc, va_K.moved hW.alike hKc, hDc.weaken (fun _ _ _ _ => trivial)⟩⟩ rfl rfl hl.1 rfl (lv_room (Nat.le_of_ble_eq_true rfl)) dX3_advance_128 ⟨Nat.le_of_ble_eq_true rfl, Nat.le_of_ble_eq_true rfl⟩) hS (fun q _ h => hFc q h) hFc (fun u_12 t H1 locs ht hvm hw hB hz1 hk1 hS => ?_)
            try dsimp only at hw
            obtain ⟨hP1, hK1, hD1⟩ := hB
            rw [ht] at hP1
            have hK1 := va_K.moved hvm.symm hK1
            have hK1 : va_K (dC, dI) vwCl [] s := hK1
            obtain ⟨hP, hD⟩ := va_join (wr := [(eA0 lco cCo 23 fCo)]) (w1 := [(eO3a lx lby lfi lco lxe u_12.1 u_12.2 lxa_cx lxn lxl), (eA0 lby cBy 900 fBy)]) hP hD [0, 1] [2] hCc rfl (by decide) (by decide) hk1 hFc hP1 hD1
            generalize H1 = H at hP hS ⊢
            obtain ⟨hP, hD⟩ := zre [(eA0 lco cCo 23 fCo), (eO3a lx lby lfi lco lxe u_12.1 u_12.2 lxa_cx lxn lxl), (eA0 lby cBy 900 fBy)] hP hD rfl
            refine W.widen (k := 0) (n := 0) (by omega) (by omega) ?_
            have hq_u_12 : u_12 = (fe_readSign lxe lxa_cx fBy (fBy lxa_cx.toNatClampNeg)) := hw
            refine W.widen (k := 0) (n := 0) (by omega) (by omega) ?_
            obtain ⟨hP9, hD9⟩ := zsub2 (ws' := [(eO3a lx lby lfi lco lxe u_12.1 u_12.2 lxa_cx lxn lxl), (eA0 lby cBy 900 fBy), (eA0 lco cCo 23 fCo)]) hP hD [1, 2, 0] (by decide) rfl
            have hK9 := hK.sub (tys' := []) [] rfl
            exact W.vret hx hb hr (fun t ht hW => ⟨⟨(u_12.1, u_12.2, lxa_cx, lxn, lxl), rfl, (Eq.symm ((by rw [fe_advance]; (try rw [← hX_1]); (try rw [xL_eq]); (try rw [← hq_lxa_cx]); (try rw [if_pos c_3]); (try rw [if_pos c_4]); (try rw [if_neg c_5]); (try rw [if_pos c_10]); (try rw [← hq_u_12]); (try rw [xL_eq]); try rfl))), by rw [ht]; exact hP9, va_K.moved hW.alike hK9, hD9⟩, hS.F ht⟩) hS.2.2 dX3_advance_131
          · refine lv_aload_n hx hb dX3_advance_119 rfl (lv_at hl 1 rfl) ?_
            obtain ⟨hPc, hDc, hFc, hCc⟩ := zsub3 (ws' := [(eO3a lx lby lfi lco lxe lxa_cx lxt lxa_cx lxn lxl), (eA0 lby cBy 900 fBy)]) hP hD hS hA [0, 1] (by decide) rfl
            have hKc := hK.sub (tys' := [(cBy, .byte)]) [0] rfl
            refine va_callv (va_runV (As := []) (rest := []) ⟨hx, hb, hml, hown, htw⟩ (ge_readNumber l dC dI lx lby lfi lco lxe lxa_cx lxt lxa_cx lxn lxl cBy fBy H.size (ge_advance_s5 (y0 := lxa_cx) (y1 := lxe) c_3 hx0 h9_lxe) h9_lxe) (cwV 0 htw (xg_V (ck_14 _ (List.mem_of_getElem? (i := 23) rfl)) (ck_15 _ (List.mem_of_getElem? (i := 0) rfl)) (ck_15 _ (List.mem_of_getElem? (i := 1) rfl)) (ck_3 _ (List.mem_of_getElem? (i := 4) rfl)) (ck_15 _ (List.mem_of_getElem? (i := 2) rfl))) rfl rfl rfl (by exact ⟨rfl, hdc_4.1, hdc_4.2, hdd_13⟩) ⟨Nat.le_of_ble_eq_true rfl, Nat.le_of_ble_eq_true rfl⟩) ⟨fun a U g mk q => by obtain ⟨q0, q1, qP, qK, qD⟩ := q; exact ⟨q0, q1, qP, va_K.moved (u := U) (U := U.calling g mk a) (Vm.Alike.refl U.vm) qK, qD⟩, va_recv hKc hPc (ci := 3) (q0 := 0) rfl rfl, fun U hU hW => ⟨rfl, by rw [hU], by rw [hU]; exact hPc, va_K.moved hW.alike hKc, hDc.weaken (fun _ _ _ _ => trivial)⟩⟩ rfl rfl hl.1 rfl (lv_room (Nat.le_of_ble_eq_true rfl)) dX3_advance_120 ⟨Nat.le_of_ble_eq_true rfl, Nat.le_of_ble_eq_true rfl⟩) hS (fun q _ h => hFc q h) hFc (fun u_16 t H1 locs ht hvm hw hB hz1 hk1 hS => ?_)
            try dsimp only at hw
            obtain ⟨hP1, hK1, hD1⟩ := hB
            rw [ht] at hP1
            have hK1 := va_K.moved hvm.symm hK1
            have hK1 : va_K (dC, dI) vwCl [] s := hK1
            obtain ⟨hP, hD⟩ := va_join (wr := [(eA0 lco cCo 23 fCo)]) (w1 := [(eO3a lx lby lfi lco lxe u_16.2.2 u_16.1 lxa_cx u_16.2.1 lxl), (eA0 lby cBy 900 fBy)]) hP hD [0, 1] [2] hCc rfl (by decide) (by decide) hk1 hFc hP1 hD1
            generalize H1 = H at hP hS ⊢
            obtain ⟨hP, hD⟩ := zre [(eA0 lco cCo 23 fCo), (eO3a lx lby lfi lco lxe u_16.2.2 u_16.1 lxa_cx u_16.2.1 lxl), (eA0 lby cBy 900 fBy)] hP hD rfl
            refine W.widen (k := 0) (n := 0) (by omega) (by omega) ?_
            have hq_u_16 : u_16 = (fe_readNumber lxe lxa_cx fBy) := hw
            refine lv_goto (tgt := 131) hx hb dX3_advance_123 (by decide) ?_
            refine W.widen (k := 0) (n := 0) (by omega) (by omega) ?_
            obtain ⟨hP9, hD9⟩ := zsub2 (ws' := [(eO3a lx lby lfi lco lxe u_16.2.2 u_16.1 lxa_cx u_16.2.1 lxl), (eA0 lby cBy 900 fBy), (eA0 lco cCo 23 fCo)]) hP hD [1, 2, 0] (by decide) rfl
            have hK9 := hK.sub (tys' := []) [] rfl
            exact W.vret hx hb hr (fun t ht hW => ⟨⟨(u_16.2.2, u_16.1, lxa_cx, u_16.2.1, lxl), rfl, (Eq.symm ((by rw [fe_advance]; (try rw [← hX_1]); (try rw [xL_eq]); (try rw [← hq_lxa_cx]); (try rw [if_pos c_3]); (try rw [if_pos c_4]); (try rw [if_neg c_5]); (try rw [if_neg c_10]); (try rw [← hq_u_16]); (try rw [xL_eq]); try rfl))), by rw [ht]; exact hP9, va_K.moved hW.alike hK9, hD9⟩, hS.F ht⟩) hS.2.2 dX3_advance_131
      · refine lv_iload_n hx hb dX3_advance_94 rfl (lv_at hl 0 rfl) ?_
        refine lv_bipush (v := 122) hx hb dX3_advance_95 (by decide) ?_
        refine lv_icmp_gt (tgt := 107) hx hb dX3_advance_97 (by decide) (fun c_20 => ?_) (fun c_20 => ?_)
        · refine lv_iload_n hx hb dX3_advance_107 rfl (lv_at hl 0 rfl) ?_
          refine lv_bipush (v := 48) hx hb dX3_advance_108 (by decide) ?_
          refine lv_icmp_lt (tgt := 126) hx hb dX3_advance_110 (by decide) (fun c_21 => ?_) (fun c_21 => ?_)
          · refine lv_aload_n hx hb dX3_advance_126 rfl (lv_at hl 1 rfl) ?_
            refine lv_iload_n hx hb dX3_advance_127 rfl (lv_at hl 0 rfl) ?_
            obtain ⟨hPc, hDc, hFc, hCc⟩ := zsub3 (ws' := [(eO3a lx lby lfi lco lxe lxa_cx lxt lxa_cx lxn lxl), (eA0 lby cBy 900 fBy)]) hP hD hS hA [0, 1] (by decide) rfl
            have hKc := hK.sub (tys' := [(cBy, .byte)]) [0] rfl
            refine va_callv (va_runV (As := [.int (fBy lxa_cx.toNatClampNeg)]) (rest := []) ⟨hx, hb, hml, hown, htw⟩ (ge_readSign l dC dI lx lby lfi lco lxe lxa_cx lxt lxa_cx lxn lxl cBy fBy (fBy lxa_cx.toNatClampNeg) H.size (ge_advance_s6 (y0 := lxa_cx) (y1 := lxe) c_3 hx0 h9_lxe) h9_lxe (ge_advance_s7 (y0 := lxe) (y1 := lxa_cx) c_3 hx0 h9_lxe)) (cwV 1 htw (xg_V (ck_15 _ (List.mem_of_getElem? (i := 5) rfl)) (ck_15 _ (List.mem_of_getElem? (i := 6) rfl)) (ck_15 _ (List.mem_of_getElem? (i := 7) rfl)) (ck_3 _ (List.mem_of_getElem? (i := 4) rfl)) (ck_15 _ (List.mem_of_getElem? (i := 8) rfl))) rfl rfl rfl (by exact ⟨rfl, hdc_4.1, hdc_4.2, hdd_9⟩) ⟨Nat.le_of_ble_eq_true rfl, Nat.le_of_ble_eq_true rfl⟩) ⟨fun a U g mk q => by obtain ⟨q0, q1, qP, qK, qD⟩ := q; exact ⟨q0, q1, qP, va_K.moved (u := U) (U := U.calling g mk a) (Vm.Alike.refl U.vm) qK, qD⟩, va_recv hKc hPc (ci := 3) (q0 := 0) rfl rfl, fun U hU hW => ⟨rfl, by rw [hU], by rw [hU]; exact hPc, va_K.moved hW.alike hKc, hDc.weaken (fun _ _ _ _ => trivial)⟩⟩ rfl rfl hl.1 rfl (lv_room (Nat.le_of_ble_eq_true rfl)) dX3_advance_128 ⟨Nat.le_of_ble_eq_true rfl, Nat.le_of_ble_eq_true rfl⟩) hS (fun q _ h => hFc q h) hFc (fun u_23 t H1 locs ht hvm hw hB hz1 hk1 hS => ?_)
            try dsimp only at hw
            obtain ⟨hP1, hK1, hD1⟩ := hB
            rw [ht] at hP1
            have hK1 := va_K.moved hvm.symm hK1
            have hK1 : va_K (dC, dI) vwCl [] s := hK1
            obtain ⟨hP, hD⟩ := va_join (wr := [(eA0 lco cCo 23 fCo)]) (w1 := [(eO3a lx lby lfi lco lxe u_23.1 u_23.2 lxa_cx lxn lxl), (eA0 lby cBy 900 fBy)]) hP hD [0, 1] [2] hCc rfl (by decide) (by decide) hk1 hFc hP1 hD1
            generalize H1 = H at hP hS ⊢
            obtain ⟨hP, hD⟩ := zre [(eA0 lco cCo 23 fCo), (eO3a lx lby lfi lco lxe u_23.1 u_23.2 lxa_cx lxn lxl), (eA0 lby cBy 900 fBy)] hP hD rfl
            refine W.widen (k := 0) (n := 0) (by omega) (by omega) ?_
            have hq_u_23 : u_23 = (fe_readSign lxe lxa_cx fBy (fBy lxa_cx.toNatClampNeg)) := hw
            refine W.widen (k := 0) (n := 0) (by omega) (by omega) ?_
            obtain ⟨hP9, hD9⟩ := zsub2 (ws' := [(eO3a lx lby lfi lco lxe u_23.1 u_23.2 lxa_cx lxn lxl), (eA0 lby cBy 900 fBy), (eA0 lco cCo 23 fCo)]) hP hD [1, 2, 0] (by decide) rfl
            have hK9 := hK.sub (tys' := []) [] rfl
            exact W.vret hx hb hr (fun t ht hW => ⟨⟨(u_23.1, u_23.2, lxa_cx, lxn, lxl), rfl, (Eq.symm ((by rw [fe_advance]; (try rw [← hX_1]); (try rw [xL_eq]); (try rw [← hq_lxa_cx]); (try rw [if_pos c_3]); (try rw [if_neg c_4]); (try rw [if_pos c_20]); (try rw [if_pos c_21]); (try rw [← hq_u_23]); (try rw [xL_eq]); try rfl))), by rw [ht]; exact hP9, va_K.moved hW.alike hK9, hD9⟩, hS.F ht⟩) hS.2.2 dX3_advance_131
          · refine lv_iload_n hx hb dX3_advance_113 rfl (lv_at hl 0 rfl) ?_
            refine lv_bipush (v := 57) hx hb dX3_advance_114 (by decide) ?_
            refine lv_icmp_gt (tgt := 126) hx hb dX3_advance_116 (by decide) (fun c_26 => ?_) (fun c_26 => ?_)
            · refine lv_aload_n hx hb dX3_advance_126 rfl (lv_at hl 1 rfl) ?_
              refine lv_iload_n hx hb dX3_advance_127 rfl (lv_at hl 0 rfl) ?_
              obtain ⟨hPc, hDc, hFc, hCc⟩ := zsub3 (ws' := [(eO3a lx lby lfi lco lxe lxa_cx lxt lxa_cx lxn lxl), (eA0 lby cBy 900 fBy)]) hP hD hS hA [0, 1] (by decide) rfl
              have hKc := hK.sub (tys' := [(cBy, .byte)]) [0] rfl
              refine va_callv (va_runV (As := [.int (fBy lxa_cx.toNatClampNeg)]) (rest := []) ⟨hx, hb, hml, hown, htw⟩ (ge_readSign l dC dI lx lby lfi lco lxe lxa_cx lxt lxa_cx lxn lxl cBy fBy (fBy lxa_cx.toNatClampNeg) H.size (ge_advance_s8 (y0 := lxa_cx) (y1 := lxe) c_3 hx0 h9_lxe) h9_lxe (ge_advance_s9 (y0 := lxe) (y1 := lxa_cx) c_3 hx0 h9_lxe)) (cwV 1 htw (xg_V (ck_15 _ (List.mem_of_getElem? (i := 5) rfl)) (ck_15 _ (List.mem_of_getElem? (i := 6) rfl)) (ck_15 _ (List.mem_of_getElem? (i := 7) rfl)) (ck_3 _ (List.mem_of_getElem? (i := 4) rfl)) (ck_15 _ (List.mem_of_getElem? (i := 8) rfl))) rfl rfl rfl (by exact ⟨rfl, hdc_4.1, hdc_4.2, hdd_9⟩) ⟨Nat.le_of_ble_eq_true rfl, Nat.le_of_ble_eq_true rfl⟩) ⟨fun a U g mk q => by obtain ⟨q0, q1, qP, qK, qD⟩ := q; exact ⟨q0, q1, qP, va_K.moved (u := U) (U := U.calling g mk a) (Vm.Alike.refl U.vm) qK, qD⟩, va_recv hKc hPc (ci := 3) (q0 := 0) rfl rfl, fun U hU hW => ⟨rfl, by rw [hU], by rw [hU]; exact hPc, va_K.moved hW.alike hKc, hDc.weaken (fun _ _ _ _ => trivial)⟩⟩ rfl rfl hl.1 rfl (lv_room (Nat.le_of_ble_eq_true rfl)) dX3_advance_128 ⟨Nat.le_of_ble_eq_true rfl, Nat.le_of_ble_eq_true rfl⟩) hS (fun q _ h => hFc q h) hFc (fun u_28 t H1 locs ht hvm hw hB hz1 hk1 hS => ?_)
              try dsimp only at hw
              obtain ⟨hP1, hK1, hD1⟩ := hB
              rw [ht] at hP1
              have hK1 := va_K.moved hvm.symm hK1
              have hK1 : va_K (dC, dI) vwCl [] s := hK1
              obtain ⟨hP, hD⟩ := va_join (wr := [(eA0 lco cCo 23 fCo)]) (w1 := [(eO3a lx lby lfi lco lxe u_28.1 u_28.2 lxa_cx lxn lxl), (eA0 lby cBy 900 fBy)]) hP hD [0, 1] [2] hCc rfl (by decide) (by decide) hk1 hFc hP1 hD1
              generalize H1 = H at hP hS ⊢
              obtain ⟨hP, hD⟩ := zre [(eA0 lco cCo 23 fCo), (eO3a lx lby lfi lco lxe u_28.1 u_28.2 lxa_cx lxn lxl), (eA0 lby cBy 900 fBy)] hP hD rfl
              refine W.widen (k := 0) (n := 0) (by omega) (by omega) ?_
              have hq_u_28 : u_28 = (fe_readSign lxe lxa_cx fBy (fBy lxa_cx.toNatClampNeg)) := hw
              refine W.widen (k := 0) (n := 0) (by omega) (by omega) ?_
              obtain ⟨hP9, hD9⟩ := zsub2 (ws' := [(eO3a lx lby lfi lco lxe u_28.1 u_28.2 lxa_cx lxn lxl), (eA0 lby cBy 900 fBy), (eA0 lco cCo 23 fCo)]) hP hD [1, 2, 0] (by decide) rfl
              have hK9 := hK.sub (tys' := []) [] rfl
              exact W.vret hx hb hr (fun t ht hW => ⟨⟨(u_28.1, u_28.2, lxa_cx, lxn, lxl), rfl, (Eq.symm ((by rw [fe_advance]; (try rw [← hX_1]); (try rw [xL_eq]); (try rw [← hq_lxa_cx]); (try rw [if_pos c_3]); (try rw [if_neg c_4]); (try rw [if_pos c_20]); (try rw [if_neg c_21]); (try rw [if_pos c_26]); (try rw [← hq_u_28]); (try rw [xL_eq]); try rfl))), by rw [ht]; exact hP9, va_K.moved hW.alike hK9, hD9⟩, hS.F ht⟩) hS.2.2 dX3_advance_131
            · refine lv_aload_n hx hb dX3_advance_119 rfl (lv_at hl 1 rfl) ?_
              obtain ⟨hPc, hDc, hFc, hCc⟩ := zsub3 (ws' := [(eO3a lx lby lfi lco lxe lxa_cx lxt lxa_cx lxn lxl), (eA0 lby cBy 900 fBy)]) hP hD hS hA [0, 1] (by decide) rfl
              have hKc := hK.sub (tys' := [(cBy, .byte)]) [0] rfl
              refine va_callv (va_runV (As := []) (rest := []) ⟨hx, hb, hml, hown, htw⟩ (ge_readNumber l dC dI lx lby lfi lco lxe lxa_cx lxt lxa_cx lxn lxl cBy fBy H.size (ge_advance_s10 (y0 := lxa_cx) (y1 := lxe) c_3 hx0 h9_lxe) h9_lxe) (cwV 0 htw (xg_V (ck_14 _ (List.mem_of_getElem? (i := 23) rfl)) (ck_15 _ (List.mem_of_getElem? (i := 0) rfl)) (ck_15 _ (List.mem_of_getElem? (i := 1) rfl)) (ck_3 _ (List.mem_of_getElem? (i := 4) rfl)) (ck_15 _ (List.mem_of_getElem? (i := 2) rfl))) rfl rfl rfl (by exact ⟨rfl, hdc_4.1, hdc_4.2, hdd_13⟩) ⟨Nat.le_of_ble_eq_true rfl, Nat.le_of_ble_eq_true rfl⟩) ⟨fun a U g mk q => by obtain ⟨q0, q1, qP, qK, qD⟩ := q; exact ⟨q0, q1, qP, va_K.moved (u := U) (U := U.calling g mk a) (Vm.Alike.refl U.vm) qK, qD⟩, va_recv hKc hPc (ci := 3) (q0 := 0) rfl rfl, fun U hU hW => ⟨rfl, by rw [hU], by rw [hU]; exact hPc, va_K.moved hW.alike hKc, hDc.weaken (fun _ _ _ _ => trivial)⟩⟩ rfl rfl hl.1 rfl (lv_room (Nat.le_of_ble_eq_true rfl)) dX3_advance_120 ⟨Nat.le_of_ble_eq_true rfl, Nat.le_of_ble_eq_true rfl⟩) hS (fun q _ h => hFc q h) hFc (fun u_32 t H1 locs ht hvm hw hB hz1 hk1 hS => ?_)
              try dsimp only at hw
              obtain ⟨hP1, hK1, hD1⟩ := hB
              rw [ht] at hP1
              have hK1 := va_K.moved hvm.symm hK1
              have hK1 : va_K (dC, dI) vwCl [] s := hK1
              obtain ⟨hP, hD⟩ := va_join (wr := [(eA0 lco cCo 23 fCo)]) (w1 := [(eO3a lx lby lfi lco lxe u_32.2.2 u_32.1 lxa_cx u_32.2.1 lxl), (eA0 lby cBy 900 fBy)]) hP hD [0, 1] [2] hCc rfl (by decide) (by decide) hk1 hFc hP1 hD1
              generalize H1 = H at hP hS ⊢
              obtain ⟨hP, hD⟩ := zre [(eA0 lco cCo 23 fCo), (eO3a lx lby lfi lco lxe u_32.2.2 u_32.1 lxa_cx u_32.2.1 lxl), (eA0 lby cBy 900 fBy)] hP hD rfl
              refine W.widen (k := 0) (n := 0) (by omega) (by omega) ?_
              have hq_u_32 : u_32 = (fe_readNumber lxe lxa_cx fBy) := hw
              refine lv_goto (tgt := 131) hx hb dX3_advance_123 (by decide) ?_
              refine W.widen (k := 0) (n := 0) (by omega) (by omega) ?_
              obtain ⟨hP9, hD9⟩ := zsub2 (ws' := [(eO3a lx lby lfi lco lxe u_32.2.2 u_32.1 lxa_cx u_32.2.1 lxl), (eA0 lby cBy 900 fBy), (eA0 lco cCo 23 fCo)]) hP hD [1, 2, 0] (by decide) rfl
              have hK9 := hK.sub (tys' := []) [] rfl
              exact W.vret hx hb hr (fun t ht hW => ⟨⟨(u_32.2.2, u_32.1, lxa_cx, u_32.2.1, lxl), rfl, (Eq.symm ((by rw [fe_advance]; (try rw [← hX_1]); (try rw [xL_eq]); (try rw [← hq_lxa_cx]); (try rw [if_pos c_3]); (try rw [if_neg c_4]); (try rw [if_pos c_20]); (try rw [if_neg c_21]); (try rw [if_neg c_26]); (try rw [← hq_u_32]); (try rw [xL_eq]); try rfl))), by rw [ht]; exact hP9, va_K.moved hW.alike hK9, hD9⟩, hS.F ht⟩) hS.2.2 dX3_advance_131
        · refine lv_aload_n hx hb dX3_advance_100 rfl (lv_at hl 1 rfl) ?_
          obtain ⟨hPc, hDc, hFc, hCc⟩ := zsub3 (ws' := [(eO3a lx lby lfi lco lxe lxa_cx lxt lxa_cx lxn lxl), (eA0 lby cBy 900 fBy), (eA0 lco cCo 23 fCo)]) hP hD hS hA [0, 1, 2] (by decide) rfl
          have hKc := hK.sub (tys' := [(cBy, .byte), (cCo, .int)]) [0, 1] rfl
          refine va_callv (va_runV (As := []) (rest := []) ⟨hx, hb, hml, hown, htw⟩ (ge_readWord l dC dI lx lby lfi lco lxe lxa_cx lxt lxa_cx lxn lxl cBy fBy cCo fCo H.size (ge_advance_s11 (y0 := lxa_cx) (y1 := lxe) c_3 hx0 h9_lxe) h9_lxe) (cwV 0 htw (xg_V (ck_14 _ (List.mem_of_getElem? (i := 18) rfl)) (ck_14 _ (List.mem_of_getElem? (i := 19) rfl)) (ck_14 _ (List.mem_of_getElem? (i := 20) rfl)) (ck_3 _ (List.mem_of_getElem? (i := 4) rfl)) (ck_14 _ (List.mem_of_getElem? (i := 21) rfl))) rfl rfl rfl (by exact ⟨rfl, hdc_4.1, hdc_4.2, hdd_13⟩) ⟨Nat.le_of_ble_eq_true rfl, Nat.le_of_ble_eq_true rfl⟩) ⟨fun a U g mk q => by obtain ⟨q0, q1, qP, qK, qD⟩ := q; exact ⟨q0, q1, qP, va_K.moved (u := U) (U := U.calling g mk a) (Vm.Alike.refl U.vm) qK, qD⟩, va_recv hKc hPc (ci := 3) (q0 := 0) rfl rfl, fun U hU hW => ⟨rfl, by rw [hU], by rw [hU]; exact hPc, va_K.moved hW.alike hKc, hDc.weaken (fun _ _ _ _ => trivial)⟩⟩ rfl rfl hl.1 rfl (lv_room (Nat.le_of_ble_eq_true rfl)) dX3_advance_101 ⟨Nat.le_of_ble_eq_true rfl, Nat.le_of_ble_eq_true rfl⟩) hS (fun q _ h => hFc q h) hFc (fun u_37 t H1 locs ht hvm hw hB hz1 hk1 hS => ?_)
          try dsimp only at hw
          obtain ⟨hP1, hK1, hD1⟩ := hB
          rw [ht] at hP1
          have hK1 := va_K.moved hvm.symm hK1
          have hK1 : va_K (dC, dI) vwCl [] s := hK1
          obtain ⟨hP, hD⟩ := va_join (wr := []) (w1 := [(eO3a lx lby lfi lco lxe u_37.2.1 u_37.1 lxa_cx lxn u_37.2.2), (eA0 lby cBy 900 fBy), (eA0 lco cCo 23 fCo)]) hP hD [0, 1, 2] [] hCc rfl (by decide) (by decide) hk1 hFc hP1 hD1
          generalize H1 = H at hP hS ⊢
          obtain ⟨hP, hD⟩ := zre [(eO3a lx lby lfi lco lxe u_37.2.1 u_37.1 lxa_cx lxn u_37.2.2), (eA0 lby cBy 900 fBy), (eA0 lco cCo 23 fCo)] hP hD rfl
          refine W.widen (k := 0) (n := 0) (by omega) (by omega) ?_
          have hq_u_37 : u_37 = (fe_readWord lxe lxa_cx lxa_cx lxl fBy fCo) := hw
          refine lv_goto (tgt := 131) hx hb dX3_advance_104 (by decide) ?_
          refine W.widen (k := 0) (n := 0) (by omega) (by omega) ?_
          have hP9 := hP
          have hD9 := hD
          have hK9 := hK.sub (tys' := []) [] rfl
          exact W.vret hx hb hr (fun t ht hW => ⟨⟨(u_37.2.1, u_37.1, lxa_cx, lxn, u_37.2.2), rfl, (Eq.symm ((by rw [fe_advance]; (try rw [← hX_1]); (try rw [xL_eq]); (try rw [← hq_lxa_cx]); (try rw [if_pos c_3]); (try rw [if_neg c_4]); (try rw [if_neg c_20]); (try rw [← hq_u_37]); (try rw [xL_eq]); try rfl))), by rw [ht]; exact hP9, va_K.moved hW.alike hK9, hD9⟩, hS.F ht⟩) hS.2.2 dX3_advance_131
    · refine lv_aload_n hx hb dX3_advance_71 rfl (lv_at hl 0 rfl) ?_
      refine lv_bipush (v := 40) hx hb dX3_advance_72 (by decide) ?_
      refine va_put (D := (dC, dI)) (ci := 3) (v := .int 40) (ty := tyX3 5) (C := RX3) (T := TX3) (N := 9) hx hb htw inlX3 tyX3 tyX3_ok nmX3 hown hK hP hD hS 0 rfl rfl 5 (by decide) (htw _ (ck_14 _ (List.mem_of_getElem? (i := 17) rfl))) (fun _ h9 => h9) rfl (tyX3_ok 5 (by decide)) rfl rfl (Nat.le_of_ble_eq_true rfl) dX3_advance_74 (fun H locs hP hD hS => ?_)
      obtain ⟨hP, hD⟩ := zre [(eO3a lx lby lfi lco lxe lxa_cx 40 lxa_cx lxn lxl), (eA0 lby cBy 900 fBy), (eA0 lco cCo 23 fCo)] hP hD rfl
      refine W.widen (k := 0) (n := 0) (by omega) (by omega) ?_
      have hP9 := hP
      have hD9 := hD
      have hK9 := hK.sub (tys' := []) [] rfl
      exact W.vret hx hb hr (fun t ht hW => ⟨⟨(lxa_cx, 40, lxa_cx, lxn, lxl), rfl, (Eq.symm ((by rw [fe_advance]; (try rw [← hX_1]); (try rw [xL_eq]); (try rw [← hq_lxa_cx]); (try rw [if_neg c_3]); try rfl))), by rw [ht]; exact hP9, va_K.moved hW.alike hK9, hD9⟩, hS.F ht⟩) hS.2.2 dX3_advance_77
  have hloop_41 : ∀ (n : Nat) (lxa_c : Int32) (ha0 : ¬ lxa_c < 0) (hfu : lxe.toInt ≤ lxa_c.toInt + (n : Int)) (hI_c : X_1 = fe_advance_c lxe fBy n lxa_c) (H : Heap) (locs : List Loc) (ls : Array Slot) (hP : va_P (dC, dI) vwCl [(eO3a lx lby lfi lco lxe lxa_c lxt lxp lxn lxl), (eA0 lby cBy 900 fBy), (eA0 lco cCo 23 fCo)] H) (hD : va_D A [(eO3a lx lby lfi lco lxe lxa_c lxt lxp lxn lxl), (eA0 lby cBy 900 fBy), (eA0 lco cCo 23 fCo)]) (hS : va_S A s.heap H locs) (hl : lv_has ls 2 [(0, .ref lx)]), W p l e (headSpec (Cond.code yX3_advance cX3_advance 2 none :: wsL_law) ({ frames := 1, cells := 0, slots := 0, locals := 22 })).room s m ([.ref lx] : List Value).toArray below meth c H locs 0 0 (MQ below (va_Qv (fun (u : (Int32) × (Int32) × (Int32) × (Int32) × (Int32)) => u = fe_advance lxe lxa lxn lxl fBy fCo) (fun (u : (Int32) × (Int32) × (Int32) × (Int32) × (Int32)) t => va_P (dC, dI) vwCl [(eO3a lx lby lfi lco lxe u.1 u.2.1 u.2.2.1 u.2.2.2.1 u.2.2.2.2), (eA0 lby cBy 900 fBy), (eA0 lco cCo 23 fCo)] t.heap ∧ va_K (dC, dI) vwCl [] t ∧ va_D A [(eO3a lx lby lfi lco lxe u.1 u.2.1 u.2.2.1 u.2.2.2.1 u.2.2.2.2), (eA0 lby cBy 900 fBy), (eA0 lco cCo 23 fCo)]) A) ([.ref lx] : List Value).toArray s 0 0 A) (F0 m 0 ls []) := by
    intro n
    induction n with
    | zero =>
      intro lxa_c ha0 hfu hI_c H locs ls hP hD hS hl
      refine lv_aload_n hx hb dX3_advance_0 rfl (lv_at hl 0 rfl) ?_
      refine va_get (D := (dC, dI)) (ci := 3) (v := .int lxa_c) (C := RX3) (T := TX3) (N := 9) hx hb htw inlX3 hown hK hP 0 rfl rfl 4 (by decide) (htw _ (ck_14 _ (List.mem_of_getElem? (i := 11) rfl))) (fun _ h9 => h9) rfl dX3_advance_1 ?_
      refine lv_aload_n hx hb dX3_advance_4 rfl (lv_at hl 0 rfl) ?_
      refine va_get (D := (dC, dI)) (ci := 3) (v := .int lxe) (C := RX3) (T := TX3) (N := 9) hx hb htw inlX3 hown hK hP 0 rfl rfl 3 (by decide) (htw _ (ck_14 _ (List.mem_of_getElem? (i := 10) rfl))) (fun _ h9 => h9) rfl dX3_advance_5 ?_
      refine lv_icmp_ge (tgt := 52) hx hb dX3_advance_8 (by decide) (fun c_42 => ?_) (fun c_42 => absurd c_42 (fun h => h (xi_z hfu)))
      exact hexit_2 lxa_c (ge_advance_s12 (y0 := lxa_c) (y1 := lxe) c_42 ha0 h9_lxe) (hI_c.trans (by rw [fe_advance_c]; try rfl)) _ _ ls hP hD hS (lv_sub hl [0] rfl)
    | succ n ih =>
      intro lxa_c ha0 hfu hI_c H locs ls hP hD hS hl
      refine lv_aload_n hx hb dX3_advance_0 rfl (lv_at hl 0 rfl) ?_
      refine va_get (D := (dC, dI)) (ci := 3) (v := .int lxa_c) (C := RX3) (T := TX3) (N := 9) hx hb htw inlX3 hown hK hP 0 rfl rfl 4 (by decide) (htw _ (ck_14 _ (List.mem_of_getElem? (i := 11) rfl))) (fun _ h9 => h9) rfl dX3_advance_1 ?_
      refine lv_aload_n hx hb dX3_advance_4 rfl (lv_at hl 0 rfl) ?_
      refine va_get (D := (dC, dI)) (ci := 3) (v := .int lxe) (C := RX3) (T := TX3) (N := 9) hx hb htw inlX3 hown hK hP 0 rfl rfl 3 (by decide) (htw _ (ck_14 _ (List.mem_of_getElem? (i := 10) rfl))) (fun _ h9 => h9) rfl dX3_advance_5 ?_
      refine lv_icmp_ge (tgt := 52) hx hb dX3_advance_8 (by decide) (fun c_43 => ?_) (fun c_43 => ?_)
      · exact hexit_2 lxa_c (ge_advance_s13 (y0 := lxa_c) (y1 := lxe) c_43 ha0 h9_lxe) (hI_c.trans (by rw [fe_advance_c]; (try rw [if_pos c_43]); try rfl)) _ _ ls hP hD hS (lv_sub hl [0] rfl)
      · refine lv_aload_n hx hb dX3_advance_11 rfl (lv_at hl 0 rfl) ?_
        refine va_get (D := (dC, dI)) (ci := 3) (v := .ref lby) (C := RX3) (T := TX3) (N := 9) hx hb htw inlX3 hown hK hP 0 rfl rfl 0 (by decide) (htw _ (ck_3 _ (List.mem_of_getElem? (i := 14) rfl))) (fun _ h9 => h9) rfl dX3_advance_12 ?_
        refine lv_aload_n hx hb dX3_advance_15 rfl (lv_at hl 0 rfl) ?_
        refine va_get (D := (dC, dI)) (ci := 3) (v := .int lxa_c) (C := RX3) (T := TX3) (N := 9) hx hb htw inlX3 hown hK hP 0 rfl rfl 4 (by decide) (htw _ (ck_14 _ (List.mem_of_getElem? (i := 11) rfl))) (fun _ h9 => h9) rfl dX3_advance_16 ?_
        refine va_bald hx hb hK hP 1 0 rfl rfl (xg_inr (N := 900) rfl (ge_advance_s14 (y0 := lxa_c) (y1 := lxe) c_43 ha0 h9_lxe).1 (ge_advance_s14 (y0 := lxa_c) (y1 := lxe) c_43 ha0 h9_lxe).2) dX3_advance_19 ?_
        refine lv_bipush (v := 10) hx hb dX3_advance_20 (by decide) ?_
        refine lv_icmp_eq (tgt := 39) hx hb dX3_advance_22 (by decide) (fun c_44 => ?_) (fun c_44 => ?_)
        · refine lv_aload_n hx hb dX3_advance_39 rfl (lv_at hl 0 rfl) ?_
          refine lv_dup hx hb dX3_advance_40 rfl ?_
          refine va_get (D := (dC, dI)) (ci := 3) (v := .int lxa_c) (C := RX3) (T := TX3) (N := 9) hx hb htw inlX3 hown hK hP 0 rfl rfl 4 (by decide) (htw _ (ck_14 _ (List.mem_of_getElem? (i := 11) rfl))) (fun _ h9 => h9) rfl dX3_advance_41 ?_
          refine lv_iconst (v := 1) hx hb dX3_advance_44 (by decide) ?_
          refine lv_iadd hx hb dX3_advance_45 ?_
          refine va_put (D := (dC, dI)) (ci := 3) (v := .int (lxa_c + 1)) (ty := tyX3 4) (C := RX3) (T := TX3) (N := 9) hx hb htw inlX3 tyX3 tyX3_ok nmX3 hown hK hP hD hS 0 rfl rfl 4 (by decide) (htw _ (ck_14 _ (List.mem_of_getElem? (i := 11) rfl))) (fun _ h9 => h9) rfl (tyX3_ok 4 (by decide)) rfl rfl (Nat.le_of_ble_eq_true rfl) dX3_advance_46 (fun H locs hP hD hS => ?_)
          obtain ⟨hP, hD⟩ := zre [(eO3a lx lby lfi lco lxe (lxa_c + 1) lxt lxp lxn lxl), (eA0 lby cBy 900 fBy), (eA0 lco cCo 23 fCo)] hP hD rfl
          refine lv_goto (tgt := 0) hx hb dX3_advance_49 (by decide) ?_
          exact ih (lxa_c + 1) (ge_advance_s15 (y0 := lxa_c) (y1 := lxe) c_43 ha0 h9_lxe) (by rw [xi_s' c_43]; omega) (hI_c.trans (by rw [fe_advance_c]; (try rw [if_neg c_43]); (try rw [if_pos c_44]); try rfl)) H locs ls hP hD hS (lv_sub hl [0] rfl)
        · refine lv_aload_n hx hb dX3_advance_25 rfl (lv_at hl 0 rfl) ?_
          refine va_get (D := (dC, dI)) (ci := 3) (v := .ref lby) (C := RX3) (T := TX3) (N := 9) hx hb htw inlX3 hown hK hP 0 rfl rfl 0 (by decide) (htw _ (ck_3 _ (List.mem_of_getElem? (i := 14) rfl))) (fun _ h9 => h9) rfl dX3_advance_26 ?_
          refine lv_aload_n hx hb dX3_advance_29 rfl (lv_at hl 0 rfl) ?_
          refine va_get (D := (dC, dI)) (ci := 3) (v := .int lxa_c) (C := RX3) (T := TX3) (N := 9) hx hb htw inlX3 hown hK hP 0 rfl rfl 4 (by decide) (htw _ (ck_14 _ (List.mem_of_getElem? (i := 11) rfl))) (fun _ h9 => h9) rfl dX3_advance_30 ?_
          refine va_bald hx hb hK hP 1 0 rfl rfl (xg_inr (N := 900) rfl (ge_advance_s16 (y0 := lxa_c) (y1 := lxe) c_43 ha0 h9_lxe).1 (ge_advance_s16 (y0 := lxa_c) (y1 := lxe) c_43 ha0 h9_lxe).2) dX3_advance_33 ?_
          refine lv_bipush (v := 32) hx hb dX3_advance_34 (by decide) ?_
          refine lv_icmp_ne (tgt := 52) hx hb dX3_advance_36 (by decide) (fun c_45 => ?_) (fun c_45 => ?_)
          · exact hexit_2 lxa_c (ge_advance_s17 (y0 := lxa_c) (y1 := lxe) c_43 ha0 h9_lxe) (hI_c.trans (by rw [fe_advance_c]; (try rw [if_neg c_43]); (try rw [if_neg c_44]); (try rw [if_neg c_45]); try rfl)) _ _ ls hP hD hS (lv_sub hl [0] rfl)
          · refine lv_aload_n hx hb dX3_advance_39 rfl (lv_at hl 0 rfl) ?_
            refine lv_dup hx hb dX3_advance_40 rfl ?_
            refine va_get (D := (dC, dI)) (ci := 3) (v := .int lxa_c) (C := RX3) (T := TX3) (N := 9) hx hb htw inlX3 hown hK hP 0 rfl rfl 4 (by decide) (htw _ (ck_14 _ (List.mem_of_getElem? (i := 11) rfl))) (fun _ h9 => h9) rfl dX3_advance_41 ?_
            refine lv_iconst (v := 1) hx hb dX3_advance_44 (by decide) ?_
            refine lv_iadd hx hb dX3_advance_45 ?_
            refine va_put (D := (dC, dI)) (ci := 3) (v := .int (lxa_c + 1)) (ty := tyX3 4) (C := RX3) (T := TX3) (N := 9) hx hb htw inlX3 tyX3 tyX3_ok nmX3 hown hK hP hD hS 0 rfl rfl 4 (by decide) (htw _ (ck_14 _ (List.mem_of_getElem? (i := 11) rfl))) (fun _ h9 => h9) rfl (tyX3_ok 4 (by decide)) rfl rfl (Nat.le_of_ble_eq_true rfl) dX3_advance_46 (fun H locs hP hD hS => ?_)
            obtain ⟨hP, hD⟩ := zre [(eO3a lx lby lfi lco lxe (lxa_c + 1) lxt lxp lxn lxl), (eA0 lby cBy 900 fBy), (eA0 lco cCo 23 fCo)] hP hD rfl
            refine lv_goto (tgt := 0) hx hb dX3_advance_49 (by decide) ?_
            exact ih (lxa_c + 1) (ge_advance_s18 (y0 := lxa_c) (y1 := lxe) c_43 ha0 h9_lxe) (by rw [xi_s' c_43]; omega) (hI_c.trans (by rw [fe_advance_c]; (try rw [if_neg c_43]); (try rw [if_neg c_44]); (try rw [if_pos c_45]); try rfl)) H locs ls hP hD hS (lv_sub hl [0] rfl)
  exact hloop_41 900 lxa (ge_advance_s19 (y0 := lxa) h0_lxa) (by have := xi_le h9_lxe; have := xi_nn h0_lxa; have e9 : (900 : Int32).toInt = 900 := rfl; omega) (hX_1) _ _ ls hP hD hS (lv_sub hl [0] rfl)

def fe_start (lfi : Int32) (lxn : Int32) (lxl : Int32) (fBy : Nat → Int32) (fCo : Nat → Int32) (a0 : Int32) : (Int32) × (Int32) × (Int32) × (Int32) × (Int32) × (Int32) × (Int32) := (xL ((fe_advance (if lfi < a0 then lfi else a0) (0 : Int32) lxn lxl fBy fCo)) (fun u_2 => ((0 : Int32), (if lfi < a0 then lfi else a0), u_2.1, u_2.2.1, u_2.2.2.1, u_2.2.2.2.1, u_2.2.2.2.2)))
theorem ge_start_s0  : ¬ ((0 : Int32) < 0) := (by decide)
theorem ge_start_s1 {y0 : Int32} {y1 : Int32} (h0 : y0 ≤ 900) : (if y0 < y1 then y0 else y1) ≤ 900 := by grind
theorem dX3_start_0 : decode cX3_start 0 = .ok (.aload_n 0, 1) := zk_42 (by decide +kernel)
theorem dX3_start_1 : decode cX3_start 1 = .ok (.iload_n 1, 1) := zk_27 (by decide +kernel)
theorem dX3_start_2 : decode cX3_start 2 = .ok (.aload_n 0, 1) := zk_42 (by decide +kernel)
theorem dX3_start_3 : decode cX3_start 3 = .ok (.getfield 31, 3) := zk_180 (by decide +kernel)
theorem dX3_start_6 : decode cX3_start 6 = .ok (.invokestatic 35, 3) := zk_184 (by decide +kernel)
theorem dX3_start_9 : decode cX3_start 9 = .ok (.putfield 41, 3) := zk_181 (by decide +kernel)
theorem dX3_start_12 : decode cX3_start 12 = .ok (.aload_n 0, 1) := zk_42 (by decide +kernel)
theorem dX3_start_13 : decode cX3_start 13 = .ok (.iconst 0, 1) := zk_3 (by decide +kernel)
theorem dX3_start_14 : decode cX3_start 14 = .ok (.putfield 31, 3) := zk_181 (by decide +kernel)
theorem dX3_start_17 : decode cX3_start 17 = .ok (.aload_n 0, 1) := zk_42 (by decide +kernel)
theorem dX3_start_18 : decode cX3_start 18 = .ok (.iconst 0, 1) := zk_3 (by decide +kernel)
theorem dX3_start_19 : decode cX3_start 19 = .ok (.putfield 44, 3) := zk_181 (by decide +kernel)
theorem dX3_start_22 : decode cX3_start 22 = .ok (.aload_n 0, 1) := zk_42 (by decide +kernel)
theorem dX3_start_23 : decode cX3_start 23 = .ok (.invokevirtual 47, 3) := zk_182 (by decide +kernel)
theorem dX3_start_26 : decode cX3_start 26 = .ok (.return_, 1) := zk_177 (by decide +kernel)
set_option maxHeartbeats 4000000 in
set_option maxRecDepth 100000 in
theorem ge_start (l : Launch) (dC : Nat → ClassId) (dI : Nat → Nat → Nat) (lx : Nat) (lby : Nat) (lfi : Int32) (lco : Nat) (lxe : Int32) (lxa : Int32) (lxt : Int32) (lxp : Int32) (lxn : Int32) (lxl : Int32) (cBy : ClassId) (fBy : Nat → Int32) (cCo : ClassId) (fCo : Nat → Int32) (a0 : Int32) (sz : Nat) (h9_fi : lfi ≤ 900) : Met l yX3_start (Cond.code yX3_start cX3_start 2 none :: wsL_law) ({ frames := 2, cells := 0, slots := 0, locals := 43 }) (va_Pc [.ref lx, .int a0] (fun U => U.heap.size = sz ∧ va_P (dC, dI) vwCl [(eO3a lx lby lfi lco lxe lxa lxt lxp lxn lxl), (eA0 lby cBy 900 fBy), (eA0 lco cCo 23 fCo)] U.heap ∧ va_K (dC, dI) vwCl [(cBy, .byte), (cCo, .int)] U ∧ va_D (fun _ => True) [(eO3a lx lby lfi lco lxe lxa lxt lxp lxn lxl), (eA0 lby cBy 900 fBy), (eA0 lco cCo 23 fCo)])) (va_Qv (fun (u : (Int32) × (Int32) × (Int32) × (Int32) × (Int32) × (Int32) × (Int32)) => u = fe_start lfi lxn lxl fBy fCo a0) (fun (u : (Int32) × (Int32) × (Int32) × (Int32) × (Int32) × (Int32) × (Int32)) t => va_P (dC, dI) vwCl [(eO3a lx lby u.1 lco u.2.1 u.2.2.1 u.2.2.2.1 u.2.2.2.2.1 u.2.2.2.2.2.1 u.2.2.2.2.2.2), (eA0 lby cBy 900 fBy), (eA0 lco cCo 23 fCo)] t.heap ∧ va_K (dC, dI) vwCl [] t ∧ va_D (va_A [(eO3a lx lby lfi lco lxe lxa lxt lxp lxn lxl), (eA0 lby cBy 900 fBy), (eA0 lco cCo 23 fCo)] sz) [(eO3a lx lby u.1 lco u.2.1 u.2.2.1 u.2.2.2.1 u.2.2.2.2.1 u.2.2.2.2.2.1 u.2.2.2.2.2.2), (eA0 lby cBy 900 fBy), (eA0 lco cCo 23 fCo)]) (va_A [(eO3a lx lby lfi lco lxe lxa lxt lxp lxn lxl), (eA0 lby cBy 900 fBy), (eA0 lco cCo 23 fCo)] sz)) 0 0 (va_A [(eO3a lx lby lfi lco lxe lxa lxt lxp lxn lxl), (eA0 lby cBy 900 fBy), (eA0 lco cCo 23 fCo)] sz) := by
  refine Met.ofW (cc := cX3_start) (maxL := 2) (ret := none) (by decide) rfl ?_
  intro p e s m args below meth c s₁ B hml hv
  obtain ⟨rfl, hsz, hP, hK, hD0⟩ := hv
  have hx := B.exec
  have hb := B.bytes
  have hr := B.returns
  have hts := atoms_spec (ws := Cond.code yX3_start cX3_start 2 none :: wsL_law) B.pre
  have htw : ∀ w ∈ wsL_law, w.before _ s = true := fun w h => hts w (List.mem_cons_of_mem _ h)
  have hown : s.vm.findClass RX3 = some m.cls := findClass_of_methodNamed B.named
  have hlocks := B.notSynchronized
  subst hsz
  have hD := hD0.self (sz := s.heap.size)
  generalize hAe : va_A [(eO3a lx lby lfi lco lxe lxa lxt lxp lxn lxl), (eA0 lby cBy 900 fBy), (eA0 lco cCo 23 fCo)] s.heap.size = A at hD ⊢
  have hA : ∀ q : Nat, s.heap.size ≤ q → A q := fun q h => by rw [← hAe]; exact Or.inr h
  obtain ⟨H, rH⟩ : ∃ z : Heap, z = s.heap := ⟨_, rfl⟩
  have hS : va_S A s.heap H [] := by rw [rH]; exact va_S.rf
  have hP : va_P (dC, dI) vwCl [(eO3a lx lby lfi lco lxe lxa lxt lxp lxn lxl), (eA0 lby cBy 900 fBy), (eA0 lco cCo 23 fCo)] H := by rw [rH]; exact hP
  rw [← rH]
  have hl := lv_entry ([.ref lx, .int a0]) (n := 2) (Nat.le_of_ble_eq_true rfl)
  rw [lg_entry_eq]
  generalize (lg_sl ([.ref lx, .int a0]) ++ List.replicate (2 - (lg_sl ([.ref lx, .int a0])).length) Slot.unset).toArray = ls at hl ⊢
  have hl : lv_has ls 2 [(0, .ref lx), (1, .int a0)] := hl
  refine lv_aload_n hx hb dX3_start_0 rfl (lv_at hl 0 rfl) ?_
  refine lv_iload_n hx hb dX3_start_1 rfl (lv_at hl 1 rfl) ?_
  refine lv_aload_n hx hb dX3_start_2 rfl (lv_at hl 0 rfl) ?_
  refine va_get (D := (dC, dI)) (ci := 3) (v := .int lfi) (C := RX3) (T := TX3) (N := 9) hx hb htw inlX3 hown hK hP 0 rfl rfl 1 (by decide) (htw _ (ck_12 _ (List.mem_of_getElem? (i := 11) rfl))) (fun _ h9 => h9) rfl dX3_start_3 ?_
  refine va_mmin hx hb (by rw [hml]; exact hl.1.symm) hown (htw _ (ck_14 _ (List.mem_of_getElem? (i := 6) rfl))) (htw _ (ck_14 _ (List.mem_of_getElem? (i := 7) rfl))) (htw _ (ck_14 _ (List.mem_of_getElem? (i := 8) rfl))) (htw _ (ck_14 _ (List.mem_of_getElem? (i := 9) rfl))) (Nat.le_of_ble_eq_true rfl) (Nat.le_of_ble_eq_true rfl) (Nat.le_of_ble_eq_true rfl) (Nat.le_of_ble_eq_true rfl) dX3_start_6 ?_
  refine va_put (D := (dC, dI)) (ci := 3) (v := .int (if lfi < a0 then lfi else a0)) (ty := tyX3 3) (C := RX3) (T := TX3) (N := 9) hx hb htw inlX3 tyX3 tyX3_ok nmX3 hown hK hP hD hS 0 rfl rfl 3 (by decide) (htw _ (ck_14 _ (List.mem_of_getElem? (i := 10) rfl))) (fun _ h9 => h9) rfl (tyX3_ok 3 (by decide)) rfl rfl (Nat.le_of_ble_eq_true rfl) dX3_start_9 (fun H locs hP hD hS => ?_)
  obtain ⟨hP, hD⟩ := zre [(eO3a lx lby lfi lco (if lfi < a0 then lfi else a0) lxa lxt lxp lxn lxl), (eA0 lby cBy 900 fBy), (eA0 lco cCo 23 fCo)] hP hD rfl
  refine lv_aload_n hx hb dX3_start_12 rfl (lv_at hl 0 rfl) ?_
  refine lv_iconst (v := 0) hx hb dX3_start_13 (by decide) ?_
  refine va_put (D := (dC, dI)) (ci := 3) (v := .int 0) (ty := tyX3 1) (C := RX3) (T := TX3) (N := 9) hx hb htw inlX3 tyX3 tyX3_ok nmX3 hown hK hP hD hS 0 rfl rfl 1 (by decide) (htw _ (ck_12 _ (List.mem_of_getElem? (i := 11) rfl))) (fun _ h9 => h9) rfl (tyX3_ok 1 (by decide)) rfl rfl (Nat.le_of_ble_eq_true rfl) dX3_start_14 (fun H locs hP hD hS => ?_)
  obtain ⟨hP, hD⟩ := zre [(eO3a lx lby 0 lco (if lfi < a0 then lfi else a0) lxa lxt lxp lxn lxl), (eA0 lby cBy 900 fBy), (eA0 lco cCo 23 fCo)] hP hD rfl
  refine lv_aload_n hx hb dX3_start_17 rfl (lv_at hl 0 rfl) ?_
  refine lv_iconst (v := 0) hx hb dX3_start_18 (by decide) ?_
  refine va_put (D := (dC, dI)) (ci := 3) (v := .int 0) (ty := tyX3 4) (C := RX3) (T := TX3) (N := 9) hx hb htw inlX3 tyX3 tyX3_ok nmX3 hown hK hP hD hS 0 rfl rfl 4 (by decide) (htw _ (ck_14 _ (List.mem_of_getElem? (i := 11) rfl))) (fun _ h9 => h9) rfl (tyX3_ok 4 (by decide)) rfl rfl (Nat.le_of_ble_eq_true rfl) dX3_start_19 (fun H locs hP hD hS => ?_)
  obtain ⟨hP, hD⟩ := zre [(eO3a lx lby 0 lco (if lfi < a0 then lfi else a0) 0 lxt lxp lxn lxl), (eA0 lby cBy 900 fBy), (eA0 lco cCo 23 fCo)] hP hD rfl
  refine lv_aload_n hx hb dX3_start_22 rfl (lv_at hl 0 rfl) ?_
  obtain ⟨hPc, hDc, hFc, hCc⟩ := zsub3 (ws' := [(eO3a lx lby 0 lco (if lfi < a0 then lfi else a0) 0 lxt lxp lxn lxl), (eA0 lby cBy 900 fBy), (eA0 lco cCo 23 fCo)]) hP hD hS hA [0, 1, 2] (by decide) rfl
  have hKc := hK.sub (tys' := [(cBy, .byte), (cCo, .int)]) [0, 1] rfl
  refine va_callv (va_runV (As := []) (rest := []) ⟨hx, hb, hml, hown, htw⟩ (ge_advance l dC dI lx lby (0 : Int32) lco (if lfi < a0 then lfi else a0) (0 : Int32) lxt lxp lxn lxl cBy fBy cCo fCo H.size (ge_start_s0 ) (ge_start_s1 (y0 := lfi) (y1 := a0) h9_fi)) (cwV 0 htw (xg_V (ck_14 _ (List.mem_of_getElem? (i := 12) rfl)) (ck_14 _ (List.mem_of_getElem? (i := 13) rfl)) (ck_14 _ (List.mem_of_getElem? (i := 14) rfl)) (ck_3 _ (List.mem_of_getElem? (i := 4) rfl)) (ck_14 _ (List.mem_of_getElem? (i := 15) rfl))) rfl rfl rfl (by exact ⟨rfl, hdc_4.1, hdc_4.2, hdd_13⟩) ⟨Nat.le_of_ble_eq_true rfl, Nat.le_of_ble_eq_true rfl⟩) ⟨fun a U g mk q => by obtain ⟨q0, q1, qP, qK, qD⟩ := q; exact ⟨q0, q1, qP, va_K.moved (u := U) (U := U.calling g mk a) (Vm.Alike.refl U.vm) qK, qD⟩, va_recv hKc hPc (ci := 3) (q0 := 0) rfl rfl, fun U hU hW => ⟨rfl, by rw [hU], by rw [hU]; exact hPc, va_K.moved hW.alike hKc, hDc.weaken (fun _ _ _ _ => trivial)⟩⟩ rfl rfl hl.1 rfl (lv_room (Nat.le_of_ble_eq_true rfl)) dX3_start_23 ⟨Nat.le_of_ble_eq_true rfl, Nat.le_of_ble_eq_true rfl⟩) hS (fun q _ h => hFc q h) hFc (fun u_2 t H1 locs ht hvm hw hB hz1 hk1 hS => ?_)
  try dsimp only at hw
  obtain ⟨hP1, hK1, hD1⟩ := hB
  rw [ht] at hP1
  have hK1 := va_K.moved hvm.symm hK1
  have hK1 : va_K (dC, dI) vwCl [] s := hK1
  obtain ⟨hP, hD⟩ := va_join (wr := []) (w1 := [(eO3a lx lby 0 lco (if lfi < a0 then lfi else a0) u_2.1 u_2.2.1 u_2.2.2.1 u_2.2.2.2.1 u_2.2.2.2.2), (eA0 lby cBy 900 fBy), (eA0 lco cCo 23 fCo)]) hP hD [0, 1, 2] [] hCc rfl (by decide) (by decide) hk1 hFc hP1 hD1
  generalize H1 = H at hP hS ⊢
  obtain ⟨hP, hD⟩ := zre [(eO3a lx lby 0 lco (if lfi < a0 then lfi else a0) u_2.1 u_2.2.1 u_2.2.2.1 u_2.2.2.2.1 u_2.2.2.2.2), (eA0 lby cBy 900 fBy), (eA0 lco cCo 23 fCo)] hP hD rfl
  refine W.widen (k := 0) (n := 0) (by omega) (by omega) ?_
  have hq_u_2 : u_2 = (fe_advance (if lfi < a0 then lfi else a0) (0 : Int32) lxn lxl fBy fCo) := hw
  refine W.widen (k := 0) (n := 0) (by omega) (by omega) ?_
  have hP9 := hP
  have hD9 := hD
  have hK9 := hK.sub (tys' := []) [] rfl
  exact W.vret hx hb hr (fun t ht hW => ⟨⟨(0, (if lfi < a0 then lfi else a0), u_2.1, u_2.2.1, u_2.2.2.1, u_2.2.2.2.1, u_2.2.2.2.2), rfl, (Eq.symm ((by rw [fe_start]; (try rw [← hq_u_2]); (try rw [xL_eq]); try rfl))), by rw [ht]; exact hP9, va_K.moved hW.alike hK9, hD9⟩, hS.F ht⟩) hS.2.2 dX3_start_26
