theorem gy_signToken_s0 {y0 : Int32} {y1 : Int32} (h0 : ¬ (y0 < 0)) (h1 : y1 ≤ 900) (h2 : y0 < y1) : ¬ (y0 < 0) ∧ ¬ (900 ≤ y0) := by lia
theorem gy_signToken_s1  : ¬ ((0 : Int32) < 0) := (by decide)
theorem gy_signToken_s2  : (0 : Int32) ≤ 5 := (by decide)
theorem gy_signToken_s3  : ¬ ((3 : Int32) < 0) := (by decide)
theorem gy_signToken_s4  : (3 : Int32) ≤ 5 := (by decide)
theorem gy_signToken_s5  : ¬ ((1 : Int32) < 0) := (by decide)
theorem gy_signToken_s6  : (1 : Int32) ≤ 5 := (by decide)
theorem gy_signToken_s7  : ¬ ((2 : Int32) < 0) := (by decide)
theorem gy_signToken_s8  : (2 : Int32) ≤ 5 := (by decide)
theorem gy_signToken_s9 {y0 : Int32} {y1 : Int32} (h0 : ¬ (y0 < 0)) (h1 : y1 ≤ 900) (h2 : y0 < y1) : ¬ (((y0 + 1) + 1) < 0) := by lia
theorem gy_signToken_s10 {y0 : Int32} {y1 : Int32} (h0 : (y0 + 1) < y1) (h1 : y1 ≤ 900) (h2 : y0 < y1) : ((y0 + 1) + 1) ≤ y1 := by lia
theorem gy_signToken_s11 {y0 : Int32} {y1 : Int32} (h0 : ¬ (y0 < 0)) (h1 : y0 < y1) : ¬ ((y0 + 1) < 0) := by lia
theorem gy_signToken_s12 {y0 : Int32} {y1 : Int32} (h0 : y0 < y1) : (y0 + 1) ≤ y1 := by lia
theorem gy_signToken_s13 {y0 : Int32} {y1 : Int32} (h0 : ¬ (y0 < 0)) (h1 : y1 ≤ 900) (h2 : y0 < y1) : ¬ (((y0 + 1) + 1) < 0) := by lia
theorem gy_signToken_s14 {y0 : Int32} {y1 : Int32} (h0 : (y0 + 1) < y1) (h1 : y1 ≤ 900) (h2 : y0 < y1) : ((y0 + 1) + 1) ≤ y1 := by lia
theorem gy_signToken_s15 {y0 : Int32} {y1 : Int32} (h0 : ¬ (y1 ≤ (y0 + 1))) (h1 : ¬ (y0 < 0)) (h2 : y1 ≤ 900) (h3 : y0 < y1) : ¬ ((y0 + 1) < 0) ∧ ¬ (900 ≤ (y0 + 1)) := gq_signToken_s9 h0 h1 h2 h3
theorem gy_signToken_s16  : ¬ ((5 : Int32) < 0) := (by decide)
theorem gy_signToken_s17  : (5 : Int32) ≤ 5 := (by decide)
theorem gy_signToken_s18  : ¬ ((4 : Int32) < 0) := (by decide)
theorem gy_signToken_s19  : (4 : Int32) ≤ 5 := (by decide)
theorem gy_signToken_s20  : ¬ ((2 : Int32) < 0) := (by decide)
theorem gy_signToken_s21  : (2 : Int32) ≤ 5 := (by decide)
theorem gy_signToken_s22 {y0 : Int32} {y1 : Int32} (h0 : ¬ (y0 < 0)) (h1 : y1 ≤ 900) (h2 : y0 < y1) : ¬ (((y0 + 1) + 1) < 0) := by lia
theorem gy_signToken_s23 {y0 : Int32} {y1 : Int32} (h0 : (y0 + 1) < y1) (h1 : y1 ≤ 900) (h2 : y0 < y1) : ((y0 + 1) + 1) ≤ y1 := by lia
theorem gy_signToken_s24 {y0 : Int32} {y1 : Int32} (h0 : ¬ (y0 < 0)) (h1 : y0 < y1) : ¬ ((y0 + 1) < 0) := by lia
theorem gy_signToken_s25 {y0 : Int32} {y1 : Int32} (h0 : y0 < y1) : (y0 + 1) ≤ y1 := by lia
theorem gy_signToken_s26 {y0 : Int32} {y1 : Int32} (h0 : ¬ (y0 < 0)) (h1 : y1 ≤ 900) (h2 : y0 < y1) : ¬ (((y0 + 1) + 1) < 0) := by lia
theorem gy_signToken_s27 {y0 : Int32} {y1 : Int32} (h0 : (y0 + 1) < y1) (h1 : y1 ≤ 900) (h2 : y0 < y1) : ((y0 + 1) + 1) ≤ y1 := by lia
theorem gy_signToken_s28 {y0 : Int32} {y1 : Int32} (h0 : ¬ (y1 ≤ (y0 + 1))) (h1 : ¬ (y0 < 0)) (h2 : y1 ≤ 900) (h3 : y0 < y1) : ¬ ((y0 + 1) < 0) ∧ ¬ (900 ≤ (y0 + 1)) := gq_signToken_s9 h0 h1 h2 h3
theorem gy_signToken_s29 {y0 : Int32} {y1 : Int32} (h0 : ¬ (y0 < 0)) (h1 : y0 < y1) : ¬ ((y0 + 1) < 0) := by lia
theorem gy_signToken_s30 {y0 : Int32} {y1 : Int32} (h0 : y0 < y1) : (y0 + 1) ≤ y1 := by lia
theorem gy_signToken_s31 {y0 : Int32} {y1 : Int32} (h0 : ¬ (y0 < 0)) (h1 : y0 < y1) : ¬ ((y0 + 1) < 0) := by lia
theorem gy_signToken_s32 {y0 : Int32} {y1 : Int32} (h0 : y0 < y1) : (y0 + 1) ≤ y1 := by lia
theorem gy_signToken_s33  : ¬ ((1 : Int32) = 5) := (by decide)
theorem gy_signToken_s34  : ¬ ((1 : Int32) = 5) := (by decide)
theorem gy_signToken_s35  : ¬ ((1 : Int32) = 5) := (by decide)
theorem gy_signToken_s36  : ¬ ((1 : Int32) = 5) := (by decide)
theorem gy_signToken_s37  : ¬ ((1 : Int32) = 5) := (by decide)
theorem gy_signToken_s38  : ¬ ((1 : Int32) = 5) := (by decide)
theorem gy_signToken_s39  : ¬ ((1 : Int32) = 5) := (by decide)
theorem gy_signToken_s40  : ¬ ((0 : Int32) = 5) := (by decide)
theorem gy_signToken_s41  : ¬ ((1 : Int32) = 5) := (by decide)
theorem gy_signToken_s42  : ¬ ((2 : Int32) < 0) := (by decide)
theorem gy_signToken_s43  : (2 : Int32) ≤ 5 := (by decide)
theorem gy_signToken_s44 {y0 : Int32} {y1 : Int32} (h0 : ¬ (y0 < 0)) (h1 : y1 ≤ 900) (h2 : y0 < y1) : ¬ (((y0 + 1) + 1) < 0) := by lia
theorem gy_signToken_s45 {y0 : Int32} {y1 : Int32} (h0 : (y0 + 1) < y1) (h1 : y1 ≤ 900) (h2 : y0 < y1) : ((y0 + 1) + 1) ≤ y1 := by lia
theorem gy_signToken_s46 {y0 : Int32} {y1 : Int32} (h0 : ¬ (y0 < 0)) (h1 : y0 < y1) : ¬ ((y0 + 1) < 0) := by lia
theorem gy_signToken_s47 {y0 : Int32} {y1 : Int32} (h0 : y0 < y1) : (y0 + 1) ≤ y1 := by lia
theorem gy_signToken_s48 {y0 : Int32} {y1 : Int32} (h0 : ¬ (y0 < 0)) (h1 : y1 ≤ 900) (h2 : y0 < y1) : ¬ (((y0 + 1) + 1) < 0) := by lia
theorem gy_signToken_s49 {y0 : Int32} {y1 : Int32} (h0 : (y0 + 1) < y1) (h1 : y1 ≤ 900) (h2 : y0 < y1) : ((y0 + 1) + 1) ≤ y1 := by lia
theorem gy_signToken_s50 {y0 : Int32} {y1 : Int32} (h0 : ¬ (y1 ≤ (y0 + 1))) (h1 : ¬ (y0 < 0)) (h2 : y1 ≤ 900) (h3 : y0 < y1) : ¬ ((y0 + 1) < 0) ∧ ¬ (900 ≤ (y0 + 1)) := gq_signToken_s9 h0 h1 h2 h3
set_option maxHeartbeats 4000000 in
set_option maxRecDepth 100000 in
theorem gy_signToken (l : Launch) (dC : Nat → ClassId) (dI : Nat → Nat → Nat) (mq : Nat) (g : Nat → Int32) (gl : Nat → Int64) (rf : Nat → Nat) (ck : Nat → ClassId) (f_tape : Nat → Int32) (sz : Nat) (h0n : ¬ (g 7) < 0) (hs9 : (g 6) ≤ 900) (hlt : (g 7) < (g 6)) : Met l yX12_signToken (Cond.code yX12_signToken cX12_signToken 4 none :: wsL_law) ({ frames := 0, cells := 0, slots := 0, locals := 0 }) (va_Pc [.ref mq] (fun U => U.heap.size = sz ∧ va_P (dC, dI) vwCl [(mq, .inr (12, mF g gl rf)), (eA0 (rf 0) (ck 0) 900 f_tape)] U.heap ∧ va_K (dC, dI) vwCl [((ck 0), .int)] U ∧ va_D (fun _ => True) [(mq, .inr (12, mF g gl rf)), (eA0 (rf 0) (ck 0) 900 f_tape)])) (va_Qv (fun (u : (Int32) × (Int32) × (Int32)) => (u = fq_signToken f_tape (g 6) (g 7)) ∧ (¬ u.1 < 0) ∧ (u.1 ≤ (g 6)) ∧ (xC u.2.1 u.2.2)) (fun (u : (Int32) × (Int32) × (Int32)) t => va_P (dC, dI) vwCl [(mq, .inr (12, mF (upd (upd (upd g 7 u.1) 8 u.2.1) 9 u.2.2) gl rf)), (eA0 (rf 0) (ck 0) 900 f_tape)] t.heap ∧ va_K (dC, dI) vwCl [] t ∧ va_D (va_A [(mq, .inr (12, mF g gl rf)), (eA0 (rf 0) (ck 0) 900 f_tape)] sz) [(mq, .inr (12, mF (upd (upd (upd g 7 u.1) 8 u.2.1) 9 u.2.2) gl rf)), (eA0 (rf 0) (ck 0) 900 f_tape)]) (va_A [(mq, .inr (12, mF g gl rf)), (eA0 (rf 0) (ck 0) 900 f_tape)] sz)) 0 0 (va_A [(mq, .inr (12, mF g gl rf)), (eA0 (rf 0) (ck 0) 900 f_tape)] sz) := by
  refine Met.ofW (cc := cX12_signToken) (maxL := 4) (ret := none) (by decide) rfl ?_
  intro p e s m args below meth c s₁ B hml hv
  obtain ⟨rfl, hsz, hP, hK, hD0⟩ := hv
  have hx := B.exec
  have hb := B.bytes
  have hr := B.returns
  have hts := atoms_spec (ws := Cond.code yX12_signToken cX12_signToken 4 none :: wsL_law) B.pre
  have htw : ∀ w ∈ wsL_law, w.before _ s = true := fun w h => hts w (List.mem_cons_of_mem _ h)
  have hown : s.vm.findClass RX12 = some m.cls := findClass_of_methodNamed B.named
  have hlocks := B.notSynchronized
  subst hsz
  have hD := hD0.self (sz := s.heap.size)
  generalize hAe : va_A [(mq, .inr (12, mF g gl rf)), (eA0 (rf 0) (ck 0) 900 f_tape)] s.heap.size = A at hD ⊢
  have hA : ∀ q : Nat, s.heap.size ≤ q → A q := fun q h => by rw [← hAe]; exact Or.inr h
  obtain ⟨H, rH⟩ : ∃ z : Heap, z = s.heap := ⟨_, rfl⟩
  have hS : va_S A s.heap H [] := by rw [rH]; exact va_S.rf
  have hP : va_P (dC, dI) vwCl [(mq, .inr (12, mF g gl rf)), (eA0 (rf 0) (ck 0) 900 f_tape)] H := by rw [rH]; exact hP
  rw [← rH]
  have hl := lv_entry ([.ref mq]) (n := 4) (Nat.le_of_ble_eq_true rfl)
  rw [lg_entry_eq]
  generalize (lg_sl ([.ref mq]) ++ List.replicate (4 - (lg_sl ([.ref mq])).length) Slot.unset).toArray = ls at hl ⊢
  have hl : lv_has ls 4 [(0, .ref mq)] := hl
  refine lv_aload_n hx hb dX12_signToken_0 rfl (lv_at hl 0 rfl) ?_
  refine lv_aload_n hx hb dX12_signToken_1 rfl (lv_at hl 0 rfl) ?_
  refine va_get (D := (dC, dI)) (ci := 12) (v := .ref (rf 0)) (C := RX12) (T := TX12) (N := 76) hx hb htw inlX12 hown hK hP 0 rfl rfl 0 (by decide) (htw _ (ck_9 _ (List.mem_of_getElem? (i := 4) rfl))) (fun _ h9 => h9) rfl dX12_signToken_2 ?_
  refine lv_aload_n hx hb dX12_signToken_5 rfl (lv_at hl 0 rfl) ?_
  refine va_get (D := (dC, dI)) (ci := 12) (v := .int (g 7)) (C := RX12) (T := TX12) (N := 76) hx hb htw inlX12 hown hK hP 0 rfl rfl 7 (by decide) (htw _ (ck_24 _ (List.mem_of_getElem? (i := 12) rfl))) (fun _ h9 => h9) rfl dX12_signToken_6 ?_
  refine va_iald hx hb hK hP 1 0 rfl rfl (xg_inr (N := 900) rfl (gy_signToken_s0 (y0 := g 7) (y1 := g 6) h0n hs9 hlt).1 (gy_signToken_s0 (y0 := g 7) (y1 := g 6) h0n hs9 hlt).2) dX12_signToken_9 ?_
  refine va_put (D := (dC, dI)) (ci := 12) (v := .int (f_tape ((g 7).toNatClampNeg))) (ty := tyX12 9) (C := RX12) (T := TX12) (N := 76) hx hb htw inlX12 tyX12 tyX12_ok nmX12 hown hK hP hD hS 0 rfl rfl 9 (by decide) (htw _ (ck_24 _ (List.mem_of_getElem? (i := 19) rfl))) (fun _ h9 => h9) rfl (tyX12_ok 9 (by decide)) rfl rfl (Nat.le_of_ble_eq_true rfl) dX12_signToken_10 (fun H locs hP hD hS => ?_)
  obtain ⟨hP, hD⟩ := zre [(mq, .inr (12, mF (upd g 9 (f_tape ((g 7).toNatClampNeg))) gl rf)), (eA0 (rf 0) (ck 0) 900 f_tape)] hP hD rfl
  refine lv_aload_n hx hb dX12_signToken_13 rfl (lv_at hl 0 rfl) ?_
  refine lv_dup hx hb dX12_signToken_14 rfl ?_
  refine va_get (D := (dC, dI)) (ci := 12) (v := .int (g 7)) (C := RX12) (T := TX12) (N := 76) hx hb htw inlX12 hown hK hP 0 rfl rfl 7 (by decide) (htw _ (ck_24 _ (List.mem_of_getElem? (i := 12) rfl))) (fun _ h9 => h9) rfl dX12_signToken_15 ?_
  refine lv_iconst (v := 1) hx hb dX12_signToken_18 (by decide) ?_
  refine lv_iadd hx hb dX12_signToken_19 ?_
  refine va_put (D := (dC, dI)) (ci := 12) (v := .int ((g 7) + 1)) (ty := tyX12 7) (C := RX12) (T := TX12) (N := 76) hx hb htw inlX12 tyX12 tyX12_ok nmX12 hown hK hP hD hS 0 rfl rfl 7 (by decide) (htw _ (ck_24 _ (List.mem_of_getElem? (i := 12) rfl))) (fun _ h9 => h9) rfl (tyX12_ok 7 (by decide)) rfl rfl (Nat.le_of_ble_eq_true rfl) dX12_signToken_20 (fun H locs hP hD hS => ?_)
  have hP : va_P (dC, dI) vwCl [(mq, .inr (12, mF (upd (upd g 7 ((g 7) + 1)) 9 (f_tape ((g 7).toNatClampNeg))) gl rf)), (eA0 (rf 0) (ck 0) 900 f_tape)] H := hP
  have hD : va_D A [(mq, .inr (12, mF (upd (upd g 7 ((g 7) + 1)) 9 (f_tape ((g 7).toNatClampNeg))) gl rf)), (eA0 (rf 0) (ck 0) 900 f_tape)] := hD
  refine lv_aload_n hx hb dX12_signToken_23 rfl (lv_at hl 0 rfl) ?_
  refine va_get (D := (dC, dI)) (ci := 12) (v := .int (f_tape ((g 7).toNatClampNeg))) (C := RX12) (T := TX12) (N := 76) hx hb htw inlX12 hown hK hP 0 rfl rfl 9 (by decide) (htw _ (ck_24 _ (List.mem_of_getElem? (i := 19) rfl))) (fun _ h9 => h9) rfl dX12_signToken_24 ?_
  refine lv_bipush (v := 60) hx hb dX12_signToken_27 (by decide) ?_
  refine lv_icmp_eq (tgt := 50) hx hb dX12_signToken_29 (by decide) (fun c_1 => ?_) (fun c_1 => ?_)
  · refine lv_aload_n hx hb dX12_signToken_50 rfl (lv_at hl 0 rfl) ?_
    refine va_get (D := (dC, dI)) (ci := 12) (v := .int ((g 7) + 1)) (C := RX12) (T := TX12) (N := 76) hx hb htw inlX12 hown hK hP 0 rfl rfl 7 (by decide) (htw _ (ck_24 _ (List.mem_of_getElem? (i := 12) rfl))) (fun _ h9 => h9) rfl dX12_signToken_51 ?_
    refine lv_aload_n hx hb dX12_signToken_54 rfl (lv_at hl 0 rfl) ?_
    refine va_get (D := (dC, dI)) (ci := 12) (v := .int (g 6)) (C := RX12) (T := TX12) (N := 76) hx hb htw inlX12 hown hK hP 0 rfl rfl 6 (by decide) (htw _ (ck_24 _ (List.mem_of_getElem? (i := 10) rfl))) (fun _ h9 => h9) rfl dX12_signToken_55 ?_
    obtain ⟨X_2, hX_2⟩ : ∃ X9 : (Int32), X9 = fq_signToken_a f_tape (g 6) (g 7) := ⟨_, rfl⟩
    have hjoin_3 : ∀ (S0a : Int32) (hja : S0a = 0 ∨ ((g 7) + 1) < (g 6)) (hE9 : X_2 = S0a) (H : Heap) (locs : List Loc) (ls : Array Slot) (hP : va_P (dC, dI) vwCl [(mq, .inr (12, mF (upd (upd g 7 ((g 7) + 1)) 9 (f_tape ((g 7).toNatClampNeg))) gl rf)), (eA0 (rf 0) (ck 0) 900 f_tape)] H) (hD : va_D A [(mq, .inr (12, mF (upd (upd g 7 ((g 7) + 1)) 9 (f_tape ((g 7).toNatClampNeg))) gl rf)), (eA0 (rf 0) (ck 0) 900 f_tape)]) (hS : va_S A s.heap H locs) (hl : lv_has ls 4 [(0, .ref mq)]), W p l e (headSpec (Cond.code yX12_signToken cX12_signToken 4 none :: wsL_law) ({ frames := 0, cells := 0, slots := 0, locals := 0 })).room s m ([.ref mq] : List Value).toArray below meth c H locs 0 0 (MQ below (va_Qv (fun (u : (Int32) × (Int32) × (Int32)) => (u = fq_signToken f_tape (g 6) (g 7)) ∧ (¬ u.1 < 0) ∧ (u.1 ≤ (g 6)) ∧ (xC u.2.1 u.2.2)) (fun (u : (Int32) × (Int32) × (Int32)) t => va_P (dC, dI) vwCl [(mq, .inr (12, mF (upd (upd (upd g 7 u.1) 8 u.2.1) 9 u.2.2) gl rf)), (eA0 (rf 0) (ck 0) 900 f_tape)] t.heap ∧ va_K (dC, dI) vwCl [] t ∧ va_D A [(mq, .inr (12, mF (upd (upd (upd g 7 u.1) 8 u.2.1) 9 u.2.2) gl rf)), (eA0 (rf 0) (ck 0) 900 f_tape)]) A) ([.ref mq] : List Value).toArray s 0 0 A) (F0 m 74 ls [.int S0a]) := by
      intro S0a hja hE9 H locs ls hP hD hS hl
      have hq_S0a : S0a = X_2 := by rw [hE9]
      refine lv_istore_n (lv' := [(1, .int S0a), (0, .ref mq)]) hx hb dX12_signToken_74 rfl hl (by decide) rfl (fun ls hl => ?_)
      refine lv_aload_n hx hb dX12_signToken_75 rfl (lv_at hl 1 rfl) ?_
      refine va_get (D := (dC, dI)) (ci := 12) (v := .int (f_tape ((g 7).toNatClampNeg))) (C := RX12) (T := TX12) (N := 76) hx hb htw inlX12 hown hK hP 0 rfl rfl 9 (by decide) (htw _ (ck_24 _ (List.mem_of_getElem? (i := 19) rfl))) (fun _ h9 => h9) rfl dX12_signToken_76 ?_
      refine lv_bipush (v := 61) hx hb dX12_signToken_79 (by decide) ?_
      obtain ⟨X_4, hX_4⟩ : ∃ X9 : (Int32), X9 = fq_signToken_b f_tape (g 7) S0a := ⟨_, rfl⟩
      have hjoin_5 : ∀ (S0b : Int32) (hjb : S0b = 0 ∨ S0a = 61) (hE9 : X_4 = S0b) (H : Heap) (locs : List Loc) (ls : Array Slot) (hP : va_P (dC, dI) vwCl [(mq, .inr (12, mF (upd (upd g 7 ((g 7) + 1)) 9 (f_tape ((g 7).toNatClampNeg))) gl rf)), (eA0 (rf 0) (ck 0) 900 f_tape)] H) (hD : va_D A [(mq, .inr (12, mF (upd (upd g 7 ((g 7) + 1)) 9 (f_tape ((g 7).toNatClampNeg))) gl rf)), (eA0 (rf 0) (ck 0) 900 f_tape)]) (hS : va_S A s.heap H locs) (hl : lv_has ls 4 [(1, .int S0a), (0, .ref mq)]), W p l e (headSpec (Cond.code yX12_signToken cX12_signToken 4 none :: wsL_law) ({ frames := 0, cells := 0, slots := 0, locals := 0 })).room s m ([.ref mq] : List Value).toArray below meth c H locs 0 0 (MQ below (va_Qv (fun (u : (Int32) × (Int32) × (Int32)) => (u = fq_signToken f_tape (g 6) (g 7)) ∧ (¬ u.1 < 0) ∧ (u.1 ≤ (g 6)) ∧ (xC u.2.1 u.2.2)) (fun (u : (Int32) × (Int32) × (Int32)) t => va_P (dC, dI) vwCl [(mq, .inr (12, mF (upd (upd (upd g 7 u.1) 8 u.2.1) 9 u.2.2) gl rf)), (eA0 (rf 0) (ck 0) 900 f_tape)] t.heap ∧ va_K (dC, dI) vwCl [] t ∧ va_D A [(mq, .inr (12, mF (upd (upd (upd g 7 u.1) 8 u.2.1) 9 u.2.2) gl rf)), (eA0 (rf 0) (ck 0) 900 f_tape)]) A) ([.ref mq] : List Value).toArray s 0 0 A) (F0 m 95 ls [.int S0b]) := by
        intro S0b hjb hE9 H locs ls hP hD hS hl
        have hq_S0b : S0b = X_4 := by rw [hE9]
        refine lv_istore_n (lv' := [(2, .int S0b), (1, .int S0a), (0, .ref mq)]) hx hb dX12_signToken_95 rfl hl (by decide) rfl (fun ls hl => ?_)
        refine lv_aload_n hx hb dX12_signToken_96 rfl (lv_at hl 2 rfl) ?_
        refine va_get (D := (dC, dI)) (ci := 12) (v := .int (f_tape ((g 7).toNatClampNeg))) (C := RX12) (T := TX12) (N := 76) hx hb htw inlX12 hown hK hP 0 rfl rfl 9 (by decide) (htw _ (ck_24 _ (List.mem_of_getElem? (i := 19) rfl))) (fun _ h9 => h9) rfl dX12_signToken_97 ?_
        refine lv_bipush (v := 60) hx hb dX12_signToken_100 (by decide) ?_
        obtain ⟨X_6, hX_6⟩ : ∃ X9 : (Int32), X9 = fq_signToken_d S0a := ⟨_, rfl⟩
        have hjoin_7 : ∀ (S0d : Int32) (hjd : S0d = 0 ∨ S0a = 62) (hE9 : X_6 = S0d) (H : Heap) (locs : List Loc) (ls : Array Slot) (hP : va_P (dC, dI) vwCl [(mq, .inr (12, mF (upd (upd g 7 ((g 7) + 1)) 9 (f_tape ((g 7).toNatClampNeg))) gl rf)), (eA0 (rf 0) (ck 0) 900 f_tape)] H) (hD : va_D A [(mq, .inr (12, mF (upd (upd g 7 ((g 7) + 1)) 9 (f_tape ((g 7).toNatClampNeg))) gl rf)), (eA0 (rf 0) (ck 0) 900 f_tape)]) (hS : va_S A s.heap H locs) (hl : lv_has ls 4 [(2, .int S0b), (1, .int S0a), (0, .ref mq)]), W p l e (headSpec (Cond.code yX12_signToken cX12_signToken 4 none :: wsL_law) ({ frames := 0, cells := 0, slots := 0, locals := 0 })).room s m ([.ref mq] : List Value).toArray below meth c H locs 0 0 (MQ below (va_Qv (fun (u : (Int32) × (Int32) × (Int32)) => (u = fq_signToken f_tape (g 6) (g 7)) ∧ (¬ u.1 < 0) ∧ (u.1 ≤ (g 6)) ∧ (xC u.2.1 u.2.2)) (fun (u : (Int32) × (Int32) × (Int32)) t => va_P (dC, dI) vwCl [(mq, .inr (12, mF (upd (upd (upd g 7 u.1) 8 u.2.1) 9 u.2.2) gl rf)), (eA0 (rf 0) (ck 0) 900 f_tape)] t.heap ∧ va_K (dC, dI) vwCl [] t ∧ va_D A [(mq, .inr (12, mF (upd (upd (upd g 7 u.1) 8 u.2.1) 9 u.2.2) gl rf)), (eA0 (rf 0) (ck 0) 900 f_tape)]) A) ([.ref mq] : List Value).toArray s 0 0 A) (F0 m 116 ls [.int S0d]) := by
          intro S0d hjd hE9 H locs ls hP hD hS hl
          have hq_S0d : S0d = X_6 := by rw [hE9]
          refine lv_istore_n (lv' := [(3, .int S0d), (2, .int S0b), (1, .int S0a), (0, .ref mq)]) hx hb dX12_signToken_116 rfl hl (by decide) rfl (fun ls hl => ?_)
          refine lv_iload_n hx hb dX12_signToken_117 rfl (lv_at hl 1 rfl) ?_
          obtain ⟨X_8, hX_8⟩ : ∃ X9 : (Int32), X9 = fq_signToken_e (g 7) S0b S0d := ⟨_, rfl⟩
          have hjoin_9 : ∀ (m_next_e : Int32) (hj0 : ¬ m_next_e < 0) (hj1 : m_next_e ≤ (g 6)) (hE9 : X_8 = m_next_e) (H : Heap) (locs : List Loc) (ls : Array Slot) (hP : va_P (dC, dI) vwCl [(mq, .inr (12, mF (upd (upd g 7 m_next_e) 9 (f_tape ((g 7).toNatClampNeg))) gl rf)), (eA0 (rf 0) (ck 0) 900 f_tape)] H) (hD : va_D A [(mq, .inr (12, mF (upd (upd g 7 m_next_e) 9 (f_tape ((g 7).toNatClampNeg))) gl rf)), (eA0 (rf 0) (ck 0) 900 f_tape)]) (hS : va_S A s.heap H locs) (hl : lv_has ls 4 [(3, .int S0d), (2, .int S0b), (1, .int S0a), (0, .ref mq)]), W p l e (headSpec (Cond.code yX12_signToken cX12_signToken 4 none :: wsL_law) ({ frames := 0, cells := 0, slots := 0, locals := 0 })).room s m ([.ref mq] : List Value).toArray below meth c H locs 0 0 (MQ below (va_Qv (fun (u : (Int32) × (Int32) × (Int32)) => (u = fq_signToken f_tape (g 6) (g 7)) ∧ (¬ u.1 < 0) ∧ (u.1 ≤ (g 6)) ∧ (xC u.2.1 u.2.2)) (fun (u : (Int32) × (Int32) × (Int32)) t => va_P (dC, dI) vwCl [(mq, .inr (12, mF (upd (upd (upd g 7 u.1) 8 u.2.1) 9 u.2.2) gl rf)), (eA0 (rf 0) (ck 0) 900 f_tape)] t.heap ∧ va_K (dC, dI) vwCl [] t ∧ va_D A [(mq, .inr (12, mF (upd (upd (upd g 7 u.1) 8 u.2.1) 9 u.2.2) gl rf)), (eA0 (rf 0) (ck 0) 900 f_tape)]) A) ([.ref mq] : List Value).toArray s 0 0 A) (F0 m 135 ls []) := by
            intro m_next_e hj0 hj1 hE9 H locs ls hP hD hS hl
            have hq_m_next_e : m_next_e = X_8 := by rw [hE9]
            refine lv_aload_n hx hb dX12_signToken_135 rfl (lv_at hl 3 rfl) ?_
            refine lv_iconst (v := 5) hx hb dX12_signToken_136 (by decide) ?_
            refine va_put (D := (dC, dI)) (ci := 12) (v := .int 5) (ty := tyX12 8) (C := RX12) (T := TX12) (N := 76) hx hb htw inlX12 tyX12 tyX12_ok nmX12 hown hK hP hD hS 0 rfl rfl 8 (by decide) (htw _ (ck_24 _ (List.mem_of_getElem? (i := 13) rfl))) (fun _ h9 => h9) rfl (tyX12_ok 8 (by decide)) rfl rfl (Nat.le_of_ble_eq_true rfl) dX12_signToken_137 (fun H locs hP hD hS => ?_)
            have hP : va_P (dC, dI) vwCl [(mq, .inr (12, mF (upd (upd (upd g 7 m_next_e) 8 5) 9 (f_tape ((g 7).toNatClampNeg))) gl rf)), (eA0 (rf 0) (ck 0) 900 f_tape)] H := hP
            have hD : va_D A [(mq, .inr (12, mF (upd (upd (upd g 7 m_next_e) 8 5) 9 (f_tape ((g 7).toNatClampNeg))) gl rf)), (eA0 (rf 0) (ck 0) 900 f_tape)] := hD
            refine lv_aload_n hx hb dX12_signToken_140 rfl (lv_at hl 3 rfl) ?_
            refine lv_aload_n hx hb dX12_signToken_141 rfl (lv_at hl 3 rfl) ?_
            refine va_get (D := (dC, dI)) (ci := 12) (v := .int (f_tape ((g 7).toNatClampNeg))) (C := RX12) (T := TX12) (N := 76) hx hb htw inlX12 hown hK hP 0 rfl rfl 9 (by decide) (htw _ (ck_24 _ (List.mem_of_getElem? (i := 19) rfl))) (fun _ h9 => h9) rfl dX12_signToken_142 ?_
            refine lv_bipush (v := 61) hx hb dX12_signToken_145 (by decide) ?_
            obtain ⟨X_10, hX_10⟩ : ∃ X9 : (Int32), X9 = fq_signToken_f f_tape (g 7) S0b S0d := ⟨_, rfl⟩
            have hjoin_11 : ∀ (S0f : Int32) (hjg0 : ¬ S0f < 0) (hjg5 : S0f ≤ 5) (hE9 : X_10 = S0f) (H : Heap) (locs : List Loc) (ls : Array Slot) (hP : va_P (dC, dI) vwCl [(mq, .inr (12, mF (upd (upd (upd g 7 m_next_e) 8 5) 9 (f_tape ((g 7).toNatClampNeg))) gl rf)), (eA0 (rf 0) (ck 0) 900 f_tape)] H) (hD : va_D A [(mq, .inr (12, mF (upd (upd (upd g 7 m_next_e) 8 5) 9 (f_tape ((g 7).toNatClampNeg))) gl rf)), (eA0 (rf 0) (ck 0) 900 f_tape)]) (hS : va_S A s.heap H locs) (hl : lv_has ls 4 [(3, .int S0d), (2, .int S0b), (1, .int S0a), (0, .ref mq)]), W p l e (headSpec (Cond.code yX12_signToken cX12_signToken 4 none :: wsL_law) ({ frames := 0, cells := 0, slots := 0, locals := 0 })).room s m ([.ref mq] : List Value).toArray below meth c H locs 0 0 (MQ below (va_Qv (fun (u : (Int32) × (Int32) × (Int32)) => (u = fq_signToken f_tape (g 6) (g 7)) ∧ (¬ u.1 < 0) ∧ (u.1 ≤ (g 6)) ∧ (xC u.2.1 u.2.2)) (fun (u : (Int32) × (Int32) × (Int32)) t => va_P (dC, dI) vwCl [(mq, .inr (12, mF (upd (upd (upd g 7 u.1) 8 u.2.1) 9 u.2.2) gl rf)), (eA0 (rf 0) (ck 0) 900 f_tape)] t.heap ∧ va_K (dC, dI) vwCl [] t ∧ va_D A [(mq, .inr (12, mF (upd (upd (upd g 7 u.1) 8 u.2.1) 9 u.2.2) gl rf)), (eA0 (rf 0) (ck 0) 900 f_tape)]) A) ([.ref mq] : List Value).toArray s 0 0 A) (F0 m 192 ls [.int S0f, .ref mq]) := by
              intro S0f hjg0 hjg5 hE9 H locs ls hP hD hS hl
              have hq_S0f : S0f = X_10 := by rw [hE9]
              refine va_put (D := (dC, dI)) (ci := 12) (v := .int S0f) (ty := tyX12 9) (C := RX12) (T := TX12) (N := 76) hx hb htw inlX12 tyX12 tyX12_ok nmX12 hown hK hP hD hS 0 rfl rfl 9 (by decide) (htw _ (ck_24 _ (List.mem_of_getElem? (i := 19) rfl))) (fun _ h9 => h9) rfl (tyX12_ok 9 (by decide)) rfl rfl (Nat.le_of_ble_eq_true rfl) dX12_signToken_192 (fun H locs hP hD hS => ?_)
              have hP : va_P (dC, dI) vwCl [(mq, .inr (12, mF (upd (upd (upd g 7 m_next_e) 8 5) 9 S0f) gl rf)), (eA0 (rf 0) (ck 0) 900 f_tape)] H := hP
              have hD : va_D A [(mq, .inr (12, mF (upd (upd (upd g 7 m_next_e) 8 5) 9 S0f) gl rf)), (eA0 (rf 0) (ck 0) 900 f_tape)] := hD
              refine lv_goto (tgt := 290) hx hb dX12_signToken_195 (by decide) ?_
              refine W.widen (k := 0) (n := 0) (by omega) (by omega) ?_
              have hP9 := hP
              have hD9 := hD
              have hK9 := hK.sub (tys' := []) [] rfl
              exact W.vret hx hb hr (fun t ht hW => ⟨⟨(m_next_e, 5, S0f), rfl, ⟨(Eq.symm ((by rw [fq_signToken]; (try rw [if_pos c_1]); (try rw [← hX_2]); (try rw [xL_eq]); (try rw [← hq_S0a]); (try rw [← hX_4]); (try rw [xL_eq]); (try rw [← hq_S0b]); (try rw [← hX_6]); (try rw [xL_eq]); (try rw [← hq_S0d]); (try rw [← hX_8]); (try rw [xL_eq]); (try rw [← hq_m_next_e]); (try rw [← hX_10]); (try rw [xL_eq]); (try rw [← hq_S0f]); try rfl))), hj0, hj1, (fun _ => ⟨(And.intro hjg0 hjg5).1, (And.intro hjg0 hjg5).2⟩)⟩, by rw [ht]; exact hP9, va_K.moved hW.alike hK9, hD9⟩, hS.F ht⟩) hS.2.2 dX12_signToken_290
            refine lv_icmp_ne (tgt := 154) hx hb dX12_signToken_147 (by decide) (fun c_12 => ?_) (fun c_12 => ?_)
            · refine lv_aload_n hx hb dX12_signToken_154 rfl (lv_at hl 3 rfl) ?_
              refine va_get (D := (dC, dI)) (ci := 12) (v := .int (f_tape ((g 7).toNatClampNeg))) (C := RX12) (T := TX12) (N := 76) hx hb htw inlX12 hown hK hP 0 rfl rfl 9 (by decide) (htw _ (ck_24 _ (List.mem_of_getElem? (i := 19) rfl))) (fun _ h9 => h9) rfl dX12_signToken_155 ?_
              refine lv_bipush (v := 60) hx hb dX12_signToken_158 (by decide) ?_
              refine lv_icmp_ne (tgt := 183) hx hb dX12_signToken_160 (by decide) (fun c_13 => absurd c_13 (fun h9 => h9 c_1)) (fun c_13 => ?_)
              refine lv_iload_n hx hb dX12_signToken_163 rfl (lv_at hl 1 rfl) ?_
              refine lv_if_eq (tgt := 171) hx hb dX12_signToken_164 (by decide) (fun c_14 => ?_) (fun c_14 => ?_)
              · refine lv_iload_n hx hb dX12_signToken_171 rfl (lv_at hl 0 rfl) ?_
                refine lv_if_eq (tgt := 179) hx hb dX12_signToken_172 (by decide) (fun c_15 => ?_) (fun c_15 => ?_)
                · refine lv_iconst (v := 0) hx hb dX12_signToken_179 (by decide) ?_
                  refine lv_goto (tgt := 192) hx hb dX12_signToken_180 (by decide) ?_
                  exact hjoin_11 (0 : Int32) (gy_signToken_s1 ) (gy_signToken_s2 ) (hX_10.trans (by rw [fq_signToken_f]; (try rw [if_neg c_12]); (try rw [if_pos c_14]); (try rw [if_pos c_15]); try rfl)) _ _ ls hP hD hS (lv_sub hl [0, 1, 2, 3] rfl)
                · refine lv_iconst (v := 3) hx hb dX12_signToken_175 (by decide) ?_
                  refine lv_goto (tgt := 192) hx hb dX12_signToken_176 (by decide) ?_
                  exact hjoin_11 (3 : Int32) (gy_signToken_s3 ) (gy_signToken_s4 ) (hX_10.trans (by rw [fq_signToken_f]; (try rw [if_neg c_12]); (try rw [if_pos c_14]); (try rw [if_neg c_15]); try rfl)) _ _ ls hP hD hS (lv_sub hl [0, 1, 2, 3] rfl)
              · refine lv_iconst (v := 1) hx hb dX12_signToken_167 (by decide) ?_
                refine lv_goto (tgt := 192) hx hb dX12_signToken_168 (by decide) ?_
                exact hjoin_11 (1 : Int32) (gy_signToken_s5 ) (gy_signToken_s6 ) (hX_10.trans (by rw [fq_signToken_f]; (try rw [if_neg c_12]); (try rw [if_neg c_14]); try rfl)) _ _ ls hP hD hS (lv_sub hl [0, 1, 2, 3] rfl)
            · refine lv_iconst (v := 2) hx hb dX12_signToken_150 (by decide) ?_
              refine lv_goto (tgt := 192) hx hb dX12_signToken_151 (by decide) ?_
              exact hjoin_11 (2 : Int32) (gy_signToken_s7 ) (gy_signToken_s8 ) (hX_10.trans (by rw [fq_signToken_f]; (try rw [if_pos c_12]); try rfl)) _ _ ls hP hD hS (lv_sub hl [0, 1, 2, 3] rfl)
          refine lv_if_ne (tgt := 125) hx hb dX12_signToken_118 (by decide) (fun c_16 => ?_) (fun c_16 => ?_)
          · refine lv_aload_n hx hb dX12_signToken_125 rfl (lv_at hl 3 rfl) ?_
            refine lv_dup hx hb dX12_signToken_126 rfl ?_
            refine va_get (D := (dC, dI)) (ci := 12) (v := .int ((g 7) + 1)) (C := RX12) (T := TX12) (N := 76) hx hb htw inlX12 hown hK hP 0 rfl rfl 7 (by decide) (htw _ (ck_24 _ (List.mem_of_getElem? (i := 12) rfl))) (fun _ h9 => h9) rfl dX12_signToken_127 ?_
            refine lv_iconst (v := 1) hx hb dX12_signToken_130 (by decide) ?_
            refine lv_iadd hx hb dX12_signToken_131 ?_
            refine va_put (D := (dC, dI)) (ci := 12) (v := .int (((g 7) + 1) + 1)) (ty := tyX12 7) (C := RX12) (T := TX12) (N := 76) hx hb htw inlX12 tyX12 tyX12_ok nmX12 hown hK hP hD hS 0 rfl rfl 7 (by decide) (htw _ (ck_24 _ (List.mem_of_getElem? (i := 12) rfl))) (fun _ h9 => h9) rfl (tyX12_ok 7 (by decide)) rfl rfl (Nat.le_of_ble_eq_true rfl) dX12_signToken_132 (fun H locs hP hD hS => ?_)
            have hP : va_P (dC, dI) vwCl [(mq, .inr (12, mF (upd (upd g 7 (((g 7) + 1) + 1)) 9 (f_tape ((g 7).toNatClampNeg))) gl rf)), (eA0 (rf 0) (ck 0) 900 f_tape)] H := hP
            have hD : va_D A [(mq, .inr (12, mF (upd (upd g 7 (((g 7) + 1) + 1)) 9 (f_tape ((g 7).toNatClampNeg))) gl rf)), (eA0 (rf 0) (ck 0) 900 f_tape)] := hD
            exact hjoin_9 (((g 7) + 1) + 1) (gy_signToken_s9 (y0 := g 7) (y1 := g 6) h0n hs9 hlt) (gy_signToken_s10 (y0 := g 7) (y1 := g 6) (hja.resolve_left (by rw [hjb.resolve_left c_16]; decide)) hs9 hlt) (hX_8.trans (by rw [fq_signToken_e]; (try rw [if_neg c_16]); try rfl)) _ _ ls hP hD hS (lv_sub hl [0, 1, 2, 3] rfl)
          · refine lv_iload_n hx hb dX12_signToken_121 rfl (lv_at hl 0 rfl) ?_
            refine lv_if_eq (tgt := 135) hx hb dX12_signToken_122 (by decide) (fun c_17 => ?_) (fun c_17 => ?_)
            · exact hjoin_9 ((g 7) + 1) (gy_signToken_s11 (y0 := g 7) (y1 := g 6) h0n hlt) (gy_signToken_s12 (y0 := g 7) (y1 := g 6) hlt) (hX_8.trans (by rw [fq_signToken_e]; (try rw [if_pos c_16]); (try rw [if_pos c_17]); try rfl)) _ _ ls hP hD hS (lv_sub hl [0, 1, 2, 3] rfl)
            · refine lv_aload_n hx hb dX12_signToken_125 rfl (lv_at hl 3 rfl) ?_
              refine lv_dup hx hb dX12_signToken_126 rfl ?_
              refine va_get (D := (dC, dI)) (ci := 12) (v := .int ((g 7) + 1)) (C := RX12) (T := TX12) (N := 76) hx hb htw inlX12 hown hK hP 0 rfl rfl 7 (by decide) (htw _ (ck_24 _ (List.mem_of_getElem? (i := 12) rfl))) (fun _ h9 => h9) rfl dX12_signToken_127 ?_
              refine lv_iconst (v := 1) hx hb dX12_signToken_130 (by decide) ?_
              refine lv_iadd hx hb dX12_signToken_131 ?_
              refine va_put (D := (dC, dI)) (ci := 12) (v := .int (((g 7) + 1) + 1)) (ty := tyX12 7) (C := RX12) (T := TX12) (N := 76) hx hb htw inlX12 tyX12 tyX12_ok nmX12 hown hK hP hD hS 0 rfl rfl 7 (by decide) (htw _ (ck_24 _ (List.mem_of_getElem? (i := 12) rfl))) (fun _ h9 => h9) rfl (tyX12_ok 7 (by decide)) rfl rfl (Nat.le_of_ble_eq_true rfl) dX12_signToken_132 (fun H locs hP hD hS => ?_)
              have hP : va_P (dC, dI) vwCl [(mq, .inr (12, mF (upd (upd g 7 (((g 7) + 1) + 1)) 9 (f_tape ((g 7).toNatClampNeg))) gl rf)), (eA0 (rf 0) (ck 0) 900 f_tape)] H := hP
              have hD : va_D A [(mq, .inr (12, mF (upd (upd g 7 (((g 7) + 1) + 1)) 9 (f_tape ((g 7).toNatClampNeg))) gl rf)), (eA0 (rf 0) (ck 0) 900 f_tape)] := hD
              exact hjoin_9 (((g 7) + 1) + 1) (gy_signToken_s13 (y0 := g 7) (y1 := g 6) h0n hs9 hlt) (gy_signToken_s14 (y0 := g 7) (y1 := g 6) (hja.resolve_left (by rw [hjd.resolve_left c_17]; decide)) hs9 hlt) (hX_8.trans (by rw [fq_signToken_e]; (try rw [if_pos c_16]); (try rw [if_neg c_17]); try rfl)) _ _ ls hP hD hS (lv_sub hl [0, 1, 2, 3] rfl)
        refine lv_icmp_ne (tgt := 115) hx hb dX12_signToken_102 (by decide) (fun c_18 => absurd c_18 (fun h9 => h9 c_1)) (fun c_18 => ?_)
        refine lv_iload_n hx hb dX12_signToken_105 rfl (lv_at hl 1 rfl) ?_
        refine lv_bipush (v := 62) hx hb dX12_signToken_106 (by decide) ?_
        refine lv_icmp_ne (tgt := 115) hx hb dX12_signToken_108 (by decide) (fun c_19 => ?_) (fun c_19 => ?_)
        · refine lv_iconst (v := 0) hx hb dX12_signToken_115 (by decide) ?_
          exact hjoin_7 (0 : Int32) (Or.inl rfl) (hX_6.trans (by rw [fq_signToken_d]; (try rw [if_neg c_19]); try rfl)) _ _ ls hP hD hS (lv_sub hl [0, 1, 2] rfl)
        · refine lv_iconst (v := 1) hx hb dX12_signToken_111 (by decide) ?_
          refine lv_goto (tgt := 116) hx hb dX12_signToken_112 (by decide) ?_
          exact hjoin_7 (1 : Int32) (Or.inr c_19) (hX_6.trans (by rw [fq_signToken_d]; (try rw [if_pos c_19]); try rfl)) _ _ ls hP hD hS (lv_sub hl [0, 1, 2] rfl)
      refine lv_icmp_eq (tgt := 94) hx hb dX12_signToken_81 (by decide) (fun c_20 => ?_) (fun c_20 => ?_)
      · refine lv_iconst (v := 0) hx hb dX12_signToken_94 (by decide) ?_
        exact hjoin_5 (0 : Int32) (Or.inl rfl) (hX_4.trans (by rw [fq_signToken_b]; (try rw [if_pos c_20]); try rfl)) _ _ ls hP hD hS (lv_sub hl [0, 1] rfl)
      · refine lv_iload_n hx hb dX12_signToken_84 rfl (lv_at hl 0 rfl) ?_
        refine lv_bipush (v := 61) hx hb dX12_signToken_85 (by decide) ?_
        refine lv_icmp_ne (tgt := 94) hx hb dX12_signToken_87 (by decide) (fun c_21 => ?_) (fun c_21 => ?_)
        · refine lv_iconst (v := 0) hx hb dX12_signToken_94 (by decide) ?_
          exact hjoin_5 (0 : Int32) (Or.inl rfl) (hX_4.trans (by rw [fq_signToken_b]; (try rw [if_neg c_20]); (try rw [if_neg c_21]); try rfl)) _ _ ls hP hD hS (lv_sub hl [0, 1] rfl)
        · refine lv_iconst (v := 1) hx hb dX12_signToken_90 (by decide) ?_
          refine lv_goto (tgt := 95) hx hb dX12_signToken_91 (by decide) ?_
          exact hjoin_5 (1 : Int32) (Or.inr c_21) (hX_4.trans (by rw [fq_signToken_b]; (try rw [if_neg c_20]); (try rw [if_pos c_21]); try rfl)) _ _ ls hP hD hS (lv_sub hl [0, 1] rfl)
    refine lv_icmp_ge (tgt := 73) hx hb dX12_signToken_58 (by decide) (fun c_22 => ?_) (fun c_22 => ?_)
    · refine lv_iconst (v := 0) hx hb dX12_signToken_73 (by decide) ?_
      exact hjoin_3 (0 : Int32) (Or.inl rfl) (hX_2.trans (by rw [fq_signToken_a]; (try rw [if_pos c_22]); try rfl)) _ _ ls hP hD hS (lv_sub hl [0] rfl)
    · refine lv_aload_n hx hb dX12_signToken_61 rfl (lv_at hl 0 rfl) ?_
      refine va_get (D := (dC, dI)) (ci := 12) (v := .ref (rf 0)) (C := RX12) (T := TX12) (N := 76) hx hb htw inlX12 hown hK hP 0 rfl rfl 0 (by decide) (htw _ (ck_9 _ (List.mem_of_getElem? (i := 4) rfl))) (fun _ h9 => h9) rfl dX12_signToken_62 ?_
      refine lv_aload_n hx hb dX12_signToken_65 rfl (lv_at hl 0 rfl) ?_
      refine va_get (D := (dC, dI)) (ci := 12) (v := .int ((g 7) + 1)) (C := RX12) (T := TX12) (N := 76) hx hb htw inlX12 hown hK hP 0 rfl rfl 7 (by decide) (htw _ (ck_24 _ (List.mem_of_getElem? (i := 12) rfl))) (fun _ h9 => h9) rfl dX12_signToken_66 ?_
      refine va_iald hx hb hK hP 1 0 rfl rfl (xg_inr (N := 900) rfl (gy_signToken_s15 (y0 := g 7) (y1 := g 6) c_22 h0n hs9 hlt).1 (gy_signToken_s15 (y0 := g 7) (y1 := g 6) c_22 h0n hs9 hlt).2) dX12_signToken_69 ?_
      refine lv_goto (tgt := 74) hx hb dX12_signToken_70 (by decide) ?_
      exact hjoin_3 (f_tape (((g 7) + 1).toNatClampNeg)) (Or.inr (Int32.not_le.mp c_22)) (hX_2.trans (by rw [fq_signToken_a]; (try rw [if_neg c_22]); try rfl)) _ _ ls hP hD hS (lv_sub hl [0] rfl)
  · refine lv_aload_n hx hb dX12_signToken_32 rfl (lv_at hl 0 rfl) ?_
    refine va_get (D := (dC, dI)) (ci := 12) (v := .int (f_tape ((g 7).toNatClampNeg))) (C := RX12) (T := TX12) (N := 76) hx hb htw inlX12 hown hK hP 0 rfl rfl 9 (by decide) (htw _ (ck_24 _ (List.mem_of_getElem? (i := 19) rfl))) (fun _ h9 => h9) rfl dX12_signToken_33 ?_
    refine lv_bipush (v := 62) hx hb dX12_signToken_36 (by decide) ?_
    refine lv_icmp_eq (tgt := 50) hx hb dX12_signToken_38 (by decide) (fun c_23 => ?_) (fun c_23 => ?_)
    · refine lv_aload_n hx hb dX12_signToken_50 rfl (lv_at hl 0 rfl) ?_
      refine va_get (D := (dC, dI)) (ci := 12) (v := .int ((g 7) + 1)) (C := RX12) (T := TX12) (N := 76) hx hb htw inlX12 hown hK hP 0 rfl rfl 7 (by decide) (htw _ (ck_24 _ (List.mem_of_getElem? (i := 12) rfl))) (fun _ h9 => h9) rfl dX12_signToken_51 ?_
      refine lv_aload_n hx hb dX12_signToken_54 rfl (lv_at hl 0 rfl) ?_
      refine va_get (D := (dC, dI)) (ci := 12) (v := .int (g 6)) (C := RX12) (T := TX12) (N := 76) hx hb htw inlX12 hown hK hP 0 rfl rfl 6 (by decide) (htw _ (ck_24 _ (List.mem_of_getElem? (i := 10) rfl))) (fun _ h9 => h9) rfl dX12_signToken_55 ?_
      obtain ⟨X_24, hX_24⟩ : ∃ X9 : (Int32), X9 = fq_signToken_a2 f_tape (g 6) (g 7) := ⟨_, rfl⟩
      have hjoin_25 : ∀ (S0a : Int32) (hja : S0a = 0 ∨ ((g 7) + 1) < (g 6)) (hE9 : X_24 = S0a) (H : Heap) (locs : List Loc) (ls : Array Slot) (hP : va_P (dC, dI) vwCl [(mq, .inr (12, mF (upd (upd g 7 ((g 7) + 1)) 9 (f_tape ((g 7).toNatClampNeg))) gl rf)), (eA0 (rf 0) (ck 0) 900 f_tape)] H) (hD : va_D A [(mq, .inr (12, mF (upd (upd g 7 ((g 7) + 1)) 9 (f_tape ((g 7).toNatClampNeg))) gl rf)), (eA0 (rf 0) (ck 0) 900 f_tape)]) (hS : va_S A s.heap H locs) (hl : lv_has ls 4 [(0, .ref mq)]), W p l e (headSpec (Cond.code yX12_signToken cX12_signToken 4 none :: wsL_law) ({ frames := 0, cells := 0, slots := 0, locals := 0 })).room s m ([.ref mq] : List Value).toArray below meth c H locs 0 0 (MQ below (va_Qv (fun (u : (Int32) × (Int32) × (Int32)) => (u = fq_signToken f_tape (g 6) (g 7)) ∧ (¬ u.1 < 0) ∧ (u.1 ≤ (g 6)) ∧ (xC u.2.1 u.2.2)) (fun (u : (Int32) × (Int32) × (Int32)) t => va_P (dC, dI) vwCl [(mq, .inr (12, mF (upd (upd (upd g 7 u.1) 8 u.2.1) 9 u.2.2) gl rf)), (eA0 (rf 0) (ck 0) 900 f_tape)] t.heap ∧ va_K (dC, dI) vwCl [] t ∧ va_D A [(mq, .inr (12, mF (upd (upd (upd g 7 u.1) 8 u.2.1) 9 u.2.2) gl rf)), (eA0 (rf 0) (ck 0) 900 f_tape)]) A) ([.ref mq] : List Value).toArray s 0 0 A) (F0 m 74 ls [.int S0a]) := by
        intro S0a hja hE9 H locs ls hP hD hS hl
        have hq_S0a : S0a = X_24 := by rw [hE9]
        refine lv_istore_n (lv' := [(1, .int S0a), (0, .ref mq)]) hx hb dX12_signToken_74 rfl hl (by decide) rfl (fun ls hl => ?_)
        refine lv_aload_n hx hb dX12_signToken_75 rfl (lv_at hl 1 rfl) ?_
        refine va_get (D := (dC, dI)) (ci := 12) (v := .int (f_tape ((g 7).toNatClampNeg))) (C := RX12) (T := TX12) (N := 76) hx hb htw inlX12 hown hK hP 0 rfl rfl 9 (by decide) (htw _ (ck_24 _ (List.mem_of_getElem? (i := 19) rfl))) (fun _ h9 => h9) rfl dX12_signToken_76 ?_
        refine lv_bipush (v := 61) hx hb dX12_signToken_79 (by decide) ?_
        obtain ⟨X_26, hX_26⟩ : ∃ X9 : (Int32), X9 = fq_signToken_b2 f_tape (g 7) S0a := ⟨_, rfl⟩
        have hjoin_27 : ∀ (S0b : Int32) (hjb : S0b = 0 ∨ S0a = 61) (hE9 : X_26 = S0b) (H : Heap) (locs : List Loc) (ls : Array Slot) (hP : va_P (dC, dI) vwCl [(mq, .inr (12, mF (upd (upd g 7 ((g 7) + 1)) 9 (f_tape ((g 7).toNatClampNeg))) gl rf)), (eA0 (rf 0) (ck 0) 900 f_tape)] H) (hD : va_D A [(mq, .inr (12, mF (upd (upd g 7 ((g 7) + 1)) 9 (f_tape ((g 7).toNatClampNeg))) gl rf)), (eA0 (rf 0) (ck 0) 900 f_tape)]) (hS : va_S A s.heap H locs) (hl : lv_has ls 4 [(1, .int S0a), (0, .ref mq)]), W p l e (headSpec (Cond.code yX12_signToken cX12_signToken 4 none :: wsL_law) ({ frames := 0, cells := 0, slots := 0, locals := 0 })).room s m ([.ref mq] : List Value).toArray below meth c H locs 0 0 (MQ below (va_Qv (fun (u : (Int32) × (Int32) × (Int32)) => (u = fq_signToken f_tape (g 6) (g 7)) ∧ (¬ u.1 < 0) ∧ (u.1 ≤ (g 6)) ∧ (xC u.2.1 u.2.2)) (fun (u : (Int32) × (Int32) × (Int32)) t => va_P (dC, dI) vwCl [(mq, .inr (12, mF (upd (upd (upd g 7 u.1) 8 u.2.1) 9 u.2.2) gl rf)), (eA0 (rf 0) (ck 0) 900 f_tape)] t.heap ∧ va_K (dC, dI) vwCl [] t ∧ va_D A [(mq, .inr (12, mF (upd (upd (upd g 7 u.1) 8 u.2.1) 9 u.2.2) gl rf)), (eA0 (rf 0) (ck 0) 900 f_tape)]) A) ([.ref mq] : List Value).toArray s 0 0 A) (F0 m 95 ls [.int S0b]) := by
          intro S0b hjb hE9 H locs ls hP hD hS hl
          have hq_S0b : S0b = X_26 := by rw [hE9]
          refine lv_istore_n (lv' := [(2, .int S0b), (1, .int S0a), (0, .ref mq)]) hx hb dX12_signToken_95 rfl hl (by decide) rfl (fun ls hl => ?_)
          refine lv_aload_n hx hb dX12_signToken_96 rfl (lv_at hl 2 rfl) ?_
          refine va_get (D := (dC, dI)) (ci := 12) (v := .int (f_tape ((g 7).toNatClampNeg))) (C := RX12) (T := TX12) (N := 76) hx hb htw inlX12 hown hK hP 0 rfl rfl 9 (by decide) (htw _ (ck_24 _ (List.mem_of_getElem? (i := 19) rfl))) (fun _ h9 => h9) rfl dX12_signToken_97 ?_
          refine lv_bipush (v := 60) hx hb dX12_signToken_100 (by decide) ?_
          obtain ⟨X_28, hX_28⟩ : ∃ X9 : (Int32), X9 = fq_signToken_d2 := ⟨_, rfl⟩
          have hjoin_29 : ∀ (S0d : Int32) (hjd : S0d = 0 ∨ S0a = 62) (hE9 : X_28 = S0d) (H : Heap) (locs : List Loc) (ls : Array Slot) (hP : va_P (dC, dI) vwCl [(mq, .inr (12, mF (upd (upd g 7 ((g 7) + 1)) 9 (f_tape ((g 7).toNatClampNeg))) gl rf)), (eA0 (rf 0) (ck 0) 900 f_tape)] H) (hD : va_D A [(mq, .inr (12, mF (upd (upd g 7 ((g 7) + 1)) 9 (f_tape ((g 7).toNatClampNeg))) gl rf)), (eA0 (rf 0) (ck 0) 900 f_tape)]) (hS : va_S A s.heap H locs) (hl : lv_has ls 4 [(2, .int S0b), (1, .int S0a), (0, .ref mq)]), W p l e (headSpec (Cond.code yX12_signToken cX12_signToken 4 none :: wsL_law) ({ frames := 0, cells := 0, slots := 0, locals := 0 })).room s m ([.ref mq] : List Value).toArray below meth c H locs 0 0 (MQ below (va_Qv (fun (u : (Int32) × (Int32) × (Int32)) => (u = fq_signToken f_tape (g 6) (g 7)) ∧ (¬ u.1 < 0) ∧ (u.1 ≤ (g 6)) ∧ (xC u.2.1 u.2.2)) (fun (u : (Int32) × (Int32) × (Int32)) t => va_P (dC, dI) vwCl [(mq, .inr (12, mF (upd (upd (upd g 7 u.1) 8 u.2.1) 9 u.2.2) gl rf)), (eA0 (rf 0) (ck 0) 900 f_tape)] t.heap ∧ va_K (dC, dI) vwCl [] t ∧ va_D A [(mq, .inr (12, mF (upd (upd (upd g 7 u.1) 8 u.2.1) 9 u.2.2) gl rf)), (eA0 (rf 0) (ck 0) 900 f_tape)]) A) ([.ref mq] : List Value).toArray s 0 0 A) (F0 m 116 ls [.int S0d]) := by
            intro S0d hjd hE9 H locs ls hP hD hS hl
            have hq_S0d : S0d = X_28 := by rw [hE9]
            refine lv_istore_n (lv' := [(3, .int S0d), (2, .int S0b), (1, .int S0a), (0, .ref mq)]) hx hb dX12_signToken_116 rfl hl (by decide) rfl (fun ls hl => ?_)
            refine lv_iload_n hx hb dX12_signToken_117 rfl (lv_at hl 1 rfl) ?_
            obtain ⟨X_30, hX_30⟩ : ∃ X9 : (Int32), X9 = fq_signToken_e2 (g 7) S0b S0d := ⟨_, rfl⟩
            have hjoin_31 : ∀ (m_next_e : Int32) (hj0 : ¬ m_next_e < 0) (hj1 : m_next_e ≤ (g 6)) (hE9 : X_30 = m_next_e) (H : Heap) (locs : List Loc) (ls : Array Slot) (hP : va_P (dC, dI) vwCl [(mq, .inr (12, mF (upd (upd g 7 m_next_e) 9 (f_tape ((g 7).toNatClampNeg))) gl rf)), (eA0 (rf 0) (ck 0) 900 f_tape)] H) (hD : va_D A [(mq, .inr (12, mF (upd (upd g 7 m_next_e) 9 (f_tape ((g 7).toNatClampNeg))) gl rf)), (eA0 (rf 0) (ck 0) 900 f_tape)]) (hS : va_S A s.heap H locs) (hl : lv_has ls 4 [(3, .int S0d), (2, .int S0b), (1, .int S0a), (0, .ref mq)]), W p l e (headSpec (Cond.code yX12_signToken cX12_signToken 4 none :: wsL_law) ({ frames := 0, cells := 0, slots := 0, locals := 0 })).room s m ([.ref mq] : List Value).toArray below meth c H locs 0 0 (MQ below (va_Qv (fun (u : (Int32) × (Int32) × (Int32)) => (u = fq_signToken f_tape (g 6) (g 7)) ∧ (¬ u.1 < 0) ∧ (u.1 ≤ (g 6)) ∧ (xC u.2.1 u.2.2)) (fun (u : (Int32) × (Int32) × (Int32)) t => va_P (dC, dI) vwCl [(mq, .inr (12, mF (upd (upd (upd g 7 u.1) 8 u.2.1) 9 u.2.2) gl rf)), (eA0 (rf 0) (ck 0) 900 f_tape)] t.heap ∧ va_K (dC, dI) vwCl [] t ∧ va_D A [(mq, .inr (12, mF (upd (upd (upd g 7 u.1) 8 u.2.1) 9 u.2.2) gl rf)), (eA0 (rf 0) (ck 0) 900 f_tape)]) A) ([.ref mq] : List Value).toArray s 0 0 A) (F0 m 135 ls []) := by
              intro m_next_e hj0 hj1 hE9 H locs ls hP hD hS hl
              have hq_m_next_e : m_next_e = X_30 := by rw [hE9]
              refine lv_aload_n hx hb dX12_signToken_135 rfl (lv_at hl 3 rfl) ?_
              refine lv_iconst (v := 5) hx hb dX12_signToken_136 (by decide) ?_
              refine va_put (D := (dC, dI)) (ci := 12) (v := .int 5) (ty := tyX12 8) (C := RX12) (T := TX12) (N := 76) hx hb htw inlX12 tyX12 tyX12_ok nmX12 hown hK hP hD hS 0 rfl rfl 8 (by decide) (htw _ (ck_24 _ (List.mem_of_getElem? (i := 13) rfl))) (fun _ h9 => h9) rfl (tyX12_ok 8 (by decide)) rfl rfl (Nat.le_of_ble_eq_true rfl) dX12_signToken_137 (fun H locs hP hD hS => ?_)
              have hP : va_P (dC, dI) vwCl [(mq, .inr (12, mF (upd (upd (upd g 7 m_next_e) 8 5) 9 (f_tape ((g 7).toNatClampNeg))) gl rf)), (eA0 (rf 0) (ck 0) 900 f_tape)] H := hP
              have hD : va_D A [(mq, .inr (12, mF (upd (upd (upd g 7 m_next_e) 8 5) 9 (f_tape ((g 7).toNatClampNeg))) gl rf)), (eA0 (rf 0) (ck 0) 900 f_tape)] := hD
              refine lv_aload_n hx hb dX12_signToken_140 rfl (lv_at hl 3 rfl) ?_
              refine lv_aload_n hx hb dX12_signToken_141 rfl (lv_at hl 3 rfl) ?_
              refine va_get (D := (dC, dI)) (ci := 12) (v := .int (f_tape ((g 7).toNatClampNeg))) (C := RX12) (T := TX12) (N := 76) hx hb htw inlX12 hown hK hP 0 rfl rfl 9 (by decide) (htw _ (ck_24 _ (List.mem_of_getElem? (i := 19) rfl))) (fun _ h9 => h9) rfl dX12_signToken_142 ?_
              refine lv_bipush (v := 61) hx hb dX12_signToken_145 (by decide) ?_
              obtain ⟨X_32, hX_32⟩ : ∃ X9 : (Int32), X9 = fq_signToken_f2 f_tape (g 7) S0b := ⟨_, rfl⟩
              have hjoin_33 : ∀ (S0f : Int32) (hjg0 : ¬ S0f < 0) (hjg5 : S0f ≤ 5) (hE9 : X_32 = S0f) (H : Heap) (locs : List Loc) (ls : Array Slot) (hP : va_P (dC, dI) vwCl [(mq, .inr (12, mF (upd (upd (upd g 7 m_next_e) 8 5) 9 (f_tape ((g 7).toNatClampNeg))) gl rf)), (eA0 (rf 0) (ck 0) 900 f_tape)] H) (hD : va_D A [(mq, .inr (12, mF (upd (upd (upd g 7 m_next_e) 8 5) 9 (f_tape ((g 7).toNatClampNeg))) gl rf)), (eA0 (rf 0) (ck 0) 900 f_tape)]) (hS : va_S A s.heap H locs) (hl : lv_has ls 4 [(3, .int S0d), (2, .int S0b), (1, .int S0a), (0, .ref mq)]), W p l e (headSpec (Cond.code yX12_signToken cX12_signToken 4 none :: wsL_law) ({ frames := 0, cells := 0, slots := 0, locals := 0 })).room s m ([.ref mq] : List Value).toArray below meth c H locs 0 0 (MQ below (va_Qv (fun (u : (Int32) × (Int32) × (Int32)) => (u = fq_signToken f_tape (g 6) (g 7)) ∧ (¬ u.1 < 0) ∧ (u.1 ≤ (g 6)) ∧ (xC u.2.1 u.2.2)) (fun (u : (Int32) × (Int32) × (Int32)) t => va_P (dC, dI) vwCl [(mq, .inr (12, mF (upd (upd (upd g 7 u.1) 8 u.2.1) 9 u.2.2) gl rf)), (eA0 (rf 0) (ck 0) 900 f_tape)] t.heap ∧ va_K (dC, dI) vwCl [] t ∧ va_D A [(mq, .inr (12, mF (upd (upd (upd g 7 u.1) 8 u.2.1) 9 u.2.2) gl rf)), (eA0 (rf 0) (ck 0) 900 f_tape)]) A) ([.ref mq] : List Value).toArray s 0 0 A) (F0 m 192 ls [.int S0f, .ref mq]) := by
                intro S0f hjg0 hjg5 hE9 H locs ls hP hD hS hl
                have hq_S0f : S0f = X_32 := by rw [hE9]
                refine va_put (D := (dC, dI)) (ci := 12) (v := .int S0f) (ty := tyX12 9) (C := RX12) (T := TX12) (N := 76) hx hb htw inlX12 tyX12 tyX12_ok nmX12 hown hK hP hD hS 0 rfl rfl 9 (by decide) (htw _ (ck_24 _ (List.mem_of_getElem? (i := 19) rfl))) (fun _ h9 => h9) rfl (tyX12_ok 9 (by decide)) rfl rfl (Nat.le_of_ble_eq_true rfl) dX12_signToken_192 (fun H locs hP hD hS => ?_)
                have hP : va_P (dC, dI) vwCl [(mq, .inr (12, mF (upd (upd (upd g 7 m_next_e) 8 5) 9 S0f) gl rf)), (eA0 (rf 0) (ck 0) 900 f_tape)] H := hP
                have hD : va_D A [(mq, .inr (12, mF (upd (upd (upd g 7 m_next_e) 8 5) 9 S0f) gl rf)), (eA0 (rf 0) (ck 0) 900 f_tape)] := hD
                refine lv_goto (tgt := 290) hx hb dX12_signToken_195 (by decide) ?_
                refine W.widen (k := 0) (n := 0) (by omega) (by omega) ?_
                have hP9 := hP
                have hD9 := hD
                have hK9 := hK.sub (tys' := []) [] rfl
                exact W.vret hx hb hr (fun t ht hW => ⟨⟨(m_next_e, 5, S0f), rfl, ⟨(Eq.symm ((by rw [fq_signToken]; (try rw [if_neg c_1]); (try rw [if_pos c_23]); (try rw [← hX_24]); (try rw [xL_eq]); (try rw [← hq_S0a]); (try rw [← hX_26]); (try rw [xL_eq]); (try rw [← hq_S0b]); (try rw [← hX_28]); (try rw [xL_eq]); (try rw [← hq_S0d]); (try rw [← hX_30]); (try rw [xL_eq]); (try rw [← hq_m_next_e]); (try rw [← hX_32]); (try rw [xL_eq]); (try rw [← hq_S0f]); try rfl))), hj0, hj1, (fun _ => ⟨(And.intro hjg0 hjg5).1, (And.intro hjg0 hjg5).2⟩)⟩, by rw [ht]; exact hP9, va_K.moved hW.alike hK9, hD9⟩, hS.F ht⟩) hS.2.2 dX12_signToken_290
              refine lv_icmp_ne (tgt := 154) hx hb dX12_signToken_147 (by decide) (fun c_34 => ?_) (fun c_34 => ?_)
              · refine lv_aload_n hx hb dX12_signToken_154 rfl (lv_at hl 3 rfl) ?_
                refine va_get (D := (dC, dI)) (ci := 12) (v := .int (f_tape ((g 7).toNatClampNeg))) (C := RX12) (T := TX12) (N := 76) hx hb htw inlX12 hown hK hP 0 rfl rfl 9 (by decide) (htw _ (ck_24 _ (List.mem_of_getElem? (i := 19) rfl))) (fun _ h9 => h9) rfl dX12_signToken_155 ?_
                refine lv_bipush (v := 60) hx hb dX12_signToken_158 (by decide) ?_
                refine lv_icmp_ne (tgt := 183) hx hb dX12_signToken_160 (by decide) (fun c_35 => ?_) (fun c_35 => absurd c_35 (fun h9 => absurd h9 c_1))
                refine lv_iload_n hx hb dX12_signToken_183 rfl (lv_at hl 1 rfl) ?_
                refine lv_if_eq (tgt := 191) hx hb dX12_signToken_184 (by decide) (fun c_36 => ?_) (fun c_36 => ?_)
                · refine lv_iconst (v := 5) hx hb dX12_signToken_191 (by decide) ?_
                  exact hjoin_33 (5 : Int32) (gy_signToken_s16 ) (gy_signToken_s17 ) (hX_32.trans (by rw [fq_signToken_f2]; (try rw [if_neg c_34]); (try rw [if_pos c_36]); try rfl)) _ _ ls hP hD hS (lv_sub hl [0, 1, 2, 3] rfl)
                · refine lv_iconst (v := 4) hx hb dX12_signToken_187 (by decide) ?_
                  refine lv_goto (tgt := 192) hx hb dX12_signToken_188 (by decide) ?_
                  exact hjoin_33 (4 : Int32) (gy_signToken_s18 ) (gy_signToken_s19 ) (hX_32.trans (by rw [fq_signToken_f2]; (try rw [if_neg c_34]); (try rw [if_neg c_36]); try rfl)) _ _ ls hP hD hS (lv_sub hl [0, 1, 2, 3] rfl)
              · refine lv_iconst (v := 2) hx hb dX12_signToken_150 (by decide) ?_
                refine lv_goto (tgt := 192) hx hb dX12_signToken_151 (by decide) ?_
                exact hjoin_33 (2 : Int32) (gy_signToken_s20 ) (gy_signToken_s21 ) (hX_32.trans (by rw [fq_signToken_f2]; (try rw [if_pos c_34]); try rfl)) _ _ ls hP hD hS (lv_sub hl [0, 1, 2, 3] rfl)
            refine lv_if_ne (tgt := 125) hx hb dX12_signToken_118 (by decide) (fun c_37 => ?_) (fun c_37 => ?_)
            · refine lv_aload_n hx hb dX12_signToken_125 rfl (lv_at hl 3 rfl) ?_
              refine lv_dup hx hb dX12_signToken_126 rfl ?_
              refine va_get (D := (dC, dI)) (ci := 12) (v := .int ((g 7) + 1)) (C := RX12) (T := TX12) (N := 76) hx hb htw inlX12 hown hK hP 0 rfl rfl 7 (by decide) (htw _ (ck_24 _ (List.mem_of_getElem? (i := 12) rfl))) (fun _ h9 => h9) rfl dX12_signToken_127 ?_
              refine lv_iconst (v := 1) hx hb dX12_signToken_130 (by decide) ?_
              refine lv_iadd hx hb dX12_signToken_131 ?_
              refine va_put (D := (dC, dI)) (ci := 12) (v := .int (((g 7) + 1) + 1)) (ty := tyX12 7) (C := RX12) (T := TX12) (N := 76) hx hb htw inlX12 tyX12 tyX12_ok nmX12 hown hK hP hD hS 0 rfl rfl 7 (by decide) (htw _ (ck_24 _ (List.mem_of_getElem? (i := 12) rfl))) (fun _ h9 => h9) rfl (tyX12_ok 7 (by decide)) rfl rfl (Nat.le_of_ble_eq_true rfl) dX12_signToken_132 (fun H locs hP hD hS => ?_)
              have hP : va_P (dC, dI) vwCl [(mq, .inr (12, mF (upd (upd g 7 (((g 7) + 1) + 1)) 9 (f_tape ((g 7).toNatClampNeg))) gl rf)), (eA0 (rf 0) (ck 0) 900 f_tape)] H := hP
              have hD : va_D A [(mq, .inr (12, mF (upd (upd g 7 (((g 7) + 1) + 1)) 9 (f_tape ((g 7).toNatClampNeg))) gl rf)), (eA0 (rf 0) (ck 0) 900 f_tape)] := hD
              exact hjoin_31 (((g 7) + 1) + 1) (gy_signToken_s22 (y0 := g 7) (y1 := g 6) h0n hs9 hlt) (gy_signToken_s23 (y0 := g 7) (y1 := g 6) (hja.resolve_left (by rw [hjb.resolve_left c_37]; decide)) hs9 hlt) (hX_30.trans (by rw [fq_signToken_e2]; (try rw [if_neg c_37]); try rfl)) _ _ ls hP hD hS (lv_sub hl [0, 1, 2, 3] rfl)
            · refine lv_iload_n hx hb dX12_signToken_121 rfl (lv_at hl 0 rfl) ?_
              refine lv_if_eq (tgt := 135) hx hb dX12_signToken_122 (by decide) (fun c_38 => ?_) (fun c_38 => ?_)
              · exact hjoin_31 ((g 7) + 1) (gy_signToken_s24 (y0 := g 7) (y1 := g 6) h0n hlt) (gy_signToken_s25 (y0 := g 7) (y1 := g 6) hlt) (hX_30.trans (by rw [fq_signToken_e2]; (try rw [if_pos c_37]); (try rw [if_pos c_38]); try rfl)) _ _ ls hP hD hS (lv_sub hl [0, 1, 2, 3] rfl)
              · refine lv_aload_n hx hb dX12_signToken_125 rfl (lv_at hl 3 rfl) ?_
                refine lv_dup hx hb dX12_signToken_126 rfl ?_
                refine va_get (D := (dC, dI)) (ci := 12) (v := .int ((g 7) + 1)) (C := RX12) (T := TX12) (N := 76) hx hb htw inlX12 hown hK hP 0 rfl rfl 7 (by decide) (htw _ (ck_24 _ (List.mem_of_getElem? (i := 12) rfl))) (fun _ h9 => h9) rfl dX12_signToken_127 ?_
                refine lv_iconst (v := 1) hx hb dX12_signToken_130 (by decide) ?_
                refine lv_iadd hx hb dX12_signToken_131 ?_
                refine va_put (D := (dC, dI)) (ci := 12) (v := .int (((g 7) + 1) + 1)) (ty := tyX12 7) (C := RX12) (T := TX12) (N := 76) hx hb htw inlX12 tyX12 tyX12_ok nmX12 hown hK hP hD hS 0 rfl rfl 7 (by decide) (htw _ (ck_24 _ (List.mem_of_getElem? (i := 12) rfl))) (fun _ h9 => h9) rfl (tyX12_ok 7 (by decide)) rfl rfl (Nat.le_of_ble_eq_true rfl) dX12_signToken_132 (fun H locs hP hD hS => ?_)
                have hP : va_P (dC, dI) vwCl [(mq, .inr (12, mF (upd (upd g 7 (((g 7) + 1) + 1)) 9 (f_tape ((g 7).toNatClampNeg))) gl rf)), (eA0 (rf 0) (ck 0) 900 f_tape)] H := hP
                have hD : va_D A [(mq, .inr (12, mF (upd (upd g 7 (((g 7) + 1) + 1)) 9 (f_tape ((g 7).toNatClampNeg))) gl rf)), (eA0 (rf 0) (ck 0) 900 f_tape)] := hD
                exact hjoin_31 (((g 7) + 1) + 1) (gy_signToken_s26 (y0 := g 7) (y1 := g 6) h0n hs9 hlt) (gy_signToken_s27 (y0 := g 7) (y1 := g 6) (hja.resolve_left (by rw [hjd.resolve_left c_38]; decide)) hs9 hlt) (hX_30.trans (by rw [fq_signToken_e2]; (try rw [if_pos c_37]); (try rw [if_neg c_38]); try rfl)) _ _ ls hP hD hS (lv_sub hl [0, 1, 2, 3] rfl)
          refine lv_icmp_ne (tgt := 115) hx hb dX12_signToken_102 (by decide) (fun c_39 => ?_) (fun c_39 => absurd c_39 (fun h9 => absurd h9 c_1))
          refine lv_iconst (v := 0) hx hb dX12_signToken_115 (by decide) ?_
          exact hjoin_29 (0 : Int32) (Or.inl rfl) (hX_28.trans (by rw [fq_signToken_d2])) _ _ ls hP hD hS (lv_sub hl [0, 1, 2] rfl)
        refine lv_icmp_eq (tgt := 94) hx hb dX12_signToken_81 (by decide) (fun c_40 => ?_) (fun c_40 => ?_)
        · refine lv_iconst (v := 0) hx hb dX12_signToken_94 (by decide) ?_
          exact hjoin_27 (0 : Int32) (Or.inl rfl) (hX_26.trans (by rw [fq_signToken_b2]; (try rw [if_pos c_40]); try rfl)) _ _ ls hP hD hS (lv_sub hl [0, 1] rfl)
        · refine lv_iload_n hx hb dX12_signToken_84 rfl (lv_at hl 0 rfl) ?_
          refine lv_bipush (v := 61) hx hb dX12_signToken_85 (by decide) ?_
          refine lv_icmp_ne (tgt := 94) hx hb dX12_signToken_87 (by decide) (fun c_41 => ?_) (fun c_41 => ?_)
          · refine lv_iconst (v := 0) hx hb dX12_signToken_94 (by decide) ?_
            exact hjoin_27 (0 : Int32) (Or.inl rfl) (hX_26.trans (by rw [fq_signToken_b2]; (try rw [if_neg c_40]); (try rw [if_neg c_41]); try rfl)) _ _ ls hP hD hS (lv_sub hl [0, 1] rfl)
          · refine lv_iconst (v := 1) hx hb dX12_signToken_90 (by decide) ?_
            refine lv_goto (tgt := 95) hx hb dX12_signToken_91 (by decide) ?_
            exact hjoin_27 (1 : Int32) (Or.inr c_41) (hX_26.trans (by rw [fq_signToken_b2]; (try rw [if_neg c_40]); (try rw [if_pos c_41]); try rfl)) _ _ ls hP hD hS (lv_sub hl [0, 1] rfl)
      refine lv_icmp_ge (tgt := 73) hx hb dX12_signToken_58 (by decide) (fun c_42 => ?_) (fun c_42 => ?_)
      · refine lv_iconst (v := 0) hx hb dX12_signToken_73 (by decide) ?_
        exact hjoin_25 (0 : Int32) (Or.inl rfl) (hX_24.trans (by rw [fq_signToken_a2]; (try rw [if_pos c_42]); try rfl)) _ _ ls hP hD hS (lv_sub hl [0] rfl)
      · refine lv_aload_n hx hb dX12_signToken_61 rfl (lv_at hl 0 rfl) ?_
        refine va_get (D := (dC, dI)) (ci := 12) (v := .ref (rf 0)) (C := RX12) (T := TX12) (N := 76) hx hb htw inlX12 hown hK hP 0 rfl rfl 0 (by decide) (htw _ (ck_9 _ (List.mem_of_getElem? (i := 4) rfl))) (fun _ h9 => h9) rfl dX12_signToken_62 ?_
        refine lv_aload_n hx hb dX12_signToken_65 rfl (lv_at hl 0 rfl) ?_
        refine va_get (D := (dC, dI)) (ci := 12) (v := .int ((g 7) + 1)) (C := RX12) (T := TX12) (N := 76) hx hb htw inlX12 hown hK hP 0 rfl rfl 7 (by decide) (htw _ (ck_24 _ (List.mem_of_getElem? (i := 12) rfl))) (fun _ h9 => h9) rfl dX12_signToken_66 ?_
        refine va_iald hx hb hK hP 1 0 rfl rfl (xg_inr (N := 900) rfl (gy_signToken_s28 (y0 := g 7) (y1 := g 6) c_42 h0n hs9 hlt).1 (gy_signToken_s28 (y0 := g 7) (y1 := g 6) c_42 h0n hs9 hlt).2) dX12_signToken_69 ?_
        refine lv_goto (tgt := 74) hx hb dX12_signToken_70 (by decide) ?_
        exact hjoin_25 (f_tape (((g 7) + 1).toNatClampNeg)) (Or.inr (Int32.not_le.mp c_42)) (hX_24.trans (by rw [fq_signToken_a2]; (try rw [if_neg c_42]); try rfl)) _ _ ls hP hD hS (lv_sub hl [0] rfl)
    · refine lv_aload_n hx hb dX12_signToken_41 rfl (lv_at hl 0 rfl) ?_
      refine va_get (D := (dC, dI)) (ci := 12) (v := .int (f_tape ((g 7).toNatClampNeg))) (C := RX12) (T := TX12) (N := 76) hx hb htw inlX12 hown hK hP 0 rfl rfl 9 (by decide) (htw _ (ck_24 _ (List.mem_of_getElem? (i := 19) rfl))) (fun _ h9 => h9) rfl dX12_signToken_42 ?_
      refine lv_bipush (v := 61) hx hb dX12_signToken_45 (by decide) ?_
      refine lv_icmp_ne (tgt := 198) hx hb dX12_signToken_47 (by decide) (fun c_43 => ?_) (fun c_43 => ?_)
      · refine lv_aload_n hx hb dX12_signToken_198 rfl (lv_at hl 0 rfl) ?_
        refine va_get (D := (dC, dI)) (ci := 12) (v := .int (f_tape ((g 7).toNatClampNeg))) (C := RX12) (T := TX12) (N := 76) hx hb htw inlX12 hown hK hP 0 rfl rfl 9 (by decide) (htw _ (ck_24 _ (List.mem_of_getElem? (i := 19) rfl))) (fun _ h9 => h9) rfl dX12_signToken_199 ?_
        refine lv_bipush (v := 59) hx hb dX12_signToken_202 (by decide) ?_
        obtain ⟨X_44, hX_44⟩ : ∃ X9 : (Int32), X9 = fq_signToken_h f_tape (g 7) := ⟨_, rfl⟩
        have hjoin_45 : ∀ (S0h : Int32) (hjh : ¬ S0h = 5) (hE9 : X_44 = S0h) (H : Heap) (locs : List Loc) (ls : Array Slot) (hP : va_P (dC, dI) vwCl [(mq, .inr (12, mF (upd (upd g 7 ((g 7) + 1)) 9 (f_tape ((g 7).toNatClampNeg))) gl rf)), (eA0 (rf 0) (ck 0) 900 f_tape)] H) (hD : va_D A [(mq, .inr (12, mF (upd (upd g 7 ((g 7) + 1)) 9 (f_tape ((g 7).toNatClampNeg))) gl rf)), (eA0 (rf 0) (ck 0) 900 f_tape)]) (hS : va_S A s.heap H locs) (hl : lv_has ls 4 [(0, .ref mq)]), W p l e (headSpec (Cond.code yX12_signToken cX12_signToken 4 none :: wsL_law) ({ frames := 0, cells := 0, slots := 0, locals := 0 })).room s m ([.ref mq] : List Value).toArray below meth c H locs 0 0 (MQ below (va_Qv (fun (u : (Int32) × (Int32) × (Int32)) => (u = fq_signToken f_tape (g 6) (g 7)) ∧ (¬ u.1 < 0) ∧ (u.1 ≤ (g 6)) ∧ (xC u.2.1 u.2.2)) (fun (u : (Int32) × (Int32) × (Int32)) t => va_P (dC, dI) vwCl [(mq, .inr (12, mF (upd (upd (upd g 7 u.1) 8 u.2.1) 9 u.2.2) gl rf)), (eA0 (rf 0) (ck 0) 900 f_tape)] t.heap ∧ va_K (dC, dI) vwCl [] t ∧ va_D A [(mq, .inr (12, mF (upd (upd (upd g 7 u.1) 8 u.2.1) 9 u.2.2) gl rf)), (eA0 (rf 0) (ck 0) 900 f_tape)]) A) ([.ref mq] : List Value).toArray s 0 0 A) (F0 m 275 ls [.int S0h]) := by
          intro S0h hjh hE9 H locs ls hP hD hS hl
          have hq_S0h : S0h = X_44 := by rw [hE9]
          refine lv_istore_n (lv' := [(1, .int S0h), (0, .ref mq)]) hx hb dX12_signToken_275 rfl hl (by decide) rfl (fun ls hl => ?_)
          refine lv_aload_n hx hb dX12_signToken_276 rfl (lv_at hl 1 rfl) ?_
          refine lv_iload_n hx hb dX12_signToken_277 rfl (lv_at hl 0 rfl) ?_
          refine lv_if_eq (tgt := 285) hx hb dX12_signToken_278 (by decide) (fun c_46 => ?_) (fun c_46 => ?_)
          · refine lv_bipush (v := 6) hx hb dX12_signToken_285 (by decide) ?_
            refine va_put (D := (dC, dI)) (ci := 12) (v := .int 6) (ty := tyX12 8) (C := RX12) (T := TX12) (N := 76) hx hb htw inlX12 tyX12 tyX12_ok nmX12 hown hK hP hD hS 0 rfl rfl 8 (by decide) (htw _ (ck_24 _ (List.mem_of_getElem? (i := 13) rfl))) (fun _ h9 => h9) rfl (tyX12_ok 8 (by decide)) rfl rfl (Nat.le_of_ble_eq_true rfl) dX12_signToken_287 (fun H locs hP hD hS => ?_)
            have hP : va_P (dC, dI) vwCl [(mq, .inr (12, mF (upd (upd (upd g 7 ((g 7) + 1)) 8 6) 9 (f_tape ((g 7).toNatClampNeg))) gl rf)), (eA0 (rf 0) (ck 0) 900 f_tape)] H := hP
            have hD : va_D A [(mq, .inr (12, mF (upd (upd (upd g 7 ((g 7) + 1)) 8 6) 9 (f_tape ((g 7).toNatClampNeg))) gl rf)), (eA0 (rf 0) (ck 0) 900 f_tape)] := hD
            refine W.widen (k := 0) (n := 0) (by omega) (by omega) ?_
            have hP9 := hP
            have hD9 := hD
            have hK9 := hK.sub (tys' := []) [] rfl
            exact W.vret hx hb hr (fun t ht hW => ⟨⟨(((g 7) + 1), 6, f_tape ((g 7).toNatClampNeg)), rfl, ⟨(Eq.symm ((by rw [fq_signToken]; (try rw [if_neg c_1]); (try rw [if_neg c_23]); (try rw [if_neg c_43]); (try rw [← hX_44]); (try rw [xL_eq]); (try rw [← hq_S0h]); (try rw [if_pos c_46]); try rfl))), (gy_signToken_s29 (y0 := g 7) (y1 := g 6) h0n hlt), (gy_signToken_s30 (y0 := g 7) (y1 := g 6) hlt), (fun h9 => absurd h9 (show ¬ (6 : Int32) = 5 by decide))⟩, by rw [ht]; exact hP9, va_K.moved hW.alike hK9, hD9⟩, hS.F ht⟩) hS.2.2 dX12_signToken_290
          · refine lv_iconst (v := 4) hx hb dX12_signToken_281 (by decide) ?_
            refine lv_goto (tgt := 287) hx hb dX12_signToken_282 (by decide) ?_
            refine va_put (D := (dC, dI)) (ci := 12) (v := .int 4) (ty := tyX12 8) (C := RX12) (T := TX12) (N := 76) hx hb htw inlX12 tyX12 tyX12_ok nmX12 hown hK hP hD hS 0 rfl rfl 8 (by decide) (htw _ (ck_24 _ (List.mem_of_getElem? (i := 13) rfl))) (fun _ h9 => h9) rfl (tyX12_ok 8 (by decide)) rfl rfl (Nat.le_of_ble_eq_true rfl) dX12_signToken_287 (fun H locs hP hD hS => ?_)
            have hP : va_P (dC, dI) vwCl [(mq, .inr (12, mF (upd (upd (upd g 7 ((g 7) + 1)) 8 4) 9 (f_tape ((g 7).toNatClampNeg))) gl rf)), (eA0 (rf 0) (ck 0) 900 f_tape)] H := hP
            have hD : va_D A [(mq, .inr (12, mF (upd (upd (upd g 7 ((g 7) + 1)) 8 4) 9 (f_tape ((g 7).toNatClampNeg))) gl rf)), (eA0 (rf 0) (ck 0) 900 f_tape)] := hD
            refine W.widen (k := 0) (n := 0) (by omega) (by omega) ?_
            have hP9 := hP
            have hD9 := hD
            have hK9 := hK.sub (tys' := []) [] rfl
            exact W.vret hx hb hr (fun t ht hW => ⟨⟨(((g 7) + 1), 4, f_tape ((g 7).toNatClampNeg)), rfl, ⟨(Eq.symm ((by rw [fq_signToken]; (try rw [if_neg c_1]); (try rw [if_neg c_23]); (try rw [if_neg c_43]); (try rw [← hX_44]); (try rw [xL_eq]); (try rw [← hq_S0h]); (try rw [if_neg c_46]); try rfl))), (gy_signToken_s31 (y0 := g 7) (y1 := g 6) h0n hlt), (gy_signToken_s32 (y0 := g 7) (y1 := g 6) hlt), (fun h9 => absurd h9 (show ¬ (4 : Int32) = 5 by decide))⟩, by rw [ht]; exact hP9, va_K.moved hW.alike hK9, hD9⟩, hS.F ht⟩) hS.2.2 dX12_signToken_290
        refine lv_icmp_eq (tgt := 270) hx hb dX12_signToken_204 (by decide) (fun c_47 => ?_) (fun c_47 => ?_)
        · refine lv_iconst (v := 1) hx hb dX12_signToken_270 (by decide) ?_
          refine lv_goto (tgt := 275) hx hb dX12_signToken_271 (by decide) ?_
          exact hjoin_45 (1 : Int32) (gy_signToken_s33 ) (hX_44.trans (by rw [fq_signToken_h]; (try rw [if_pos c_47]); try rfl)) _ _ ls hP hD hS (lv_sub hl [0] rfl)
        · refine lv_aload_n hx hb dX12_signToken_207 rfl (lv_at hl 0 rfl) ?_
          refine va_get (D := (dC, dI)) (ci := 12) (v := .int (f_tape ((g 7).toNatClampNeg))) (C := RX12) (T := TX12) (N := 76) hx hb htw inlX12 hown hK hP 0 rfl rfl 9 (by decide) (htw _ (ck_24 _ (List.mem_of_getElem? (i := 19) rfl))) (fun _ h9 => h9) rfl dX12_signToken_208 ?_
          refine lv_bipush (v := 40) hx hb dX12_signToken_211 (by decide) ?_
          refine lv_icmp_eq (tgt := 270) hx hb dX12_signToken_213 (by decide) (fun c_48 => ?_) (fun c_48 => ?_)
          · refine lv_iconst (v := 1) hx hb dX12_signToken_270 (by decide) ?_
            refine lv_goto (tgt := 275) hx hb dX12_signToken_271 (by decide) ?_
            exact hjoin_45 (1 : Int32) (gy_signToken_s34 ) (hX_44.trans (by rw [fq_signToken_h]; (try rw [if_neg c_47]); (try rw [if_pos c_48]); try rfl)) _ _ ls hP hD hS (lv_sub hl [0] rfl)
          · refine lv_aload_n hx hb dX12_signToken_216 rfl (lv_at hl 0 rfl) ?_
            refine va_get (D := (dC, dI)) (ci := 12) (v := .int (f_tape ((g 7).toNatClampNeg))) (C := RX12) (T := TX12) (N := 76) hx hb htw inlX12 hown hK hP 0 rfl rfl 9 (by decide) (htw _ (ck_24 _ (List.mem_of_getElem? (i := 19) rfl))) (fun _ h9 => h9) rfl dX12_signToken_217 ?_
            refine lv_bipush (v := 41) hx hb dX12_signToken_220 (by decide) ?_
            refine lv_icmp_eq (tgt := 270) hx hb dX12_signToken_222 (by decide) (fun c_49 => ?_) (fun c_49 => ?_)
            · refine lv_iconst (v := 1) hx hb dX12_signToken_270 (by decide) ?_
              refine lv_goto (tgt := 275) hx hb dX12_signToken_271 (by decide) ?_
              exact hjoin_45 (1 : Int32) (gy_signToken_s35 ) (hX_44.trans (by rw [fq_signToken_h]; (try rw [if_neg c_47]); (try rw [if_neg c_48]); (try rw [if_pos c_49]); try rfl)) _ _ ls hP hD hS (lv_sub hl [0] rfl)
            · refine lv_aload_n hx hb dX12_signToken_225 rfl (lv_at hl 0 rfl) ?_
              refine va_get (D := (dC, dI)) (ci := 12) (v := .int (f_tape ((g 7).toNatClampNeg))) (C := RX12) (T := TX12) (N := 76) hx hb htw inlX12 hown hK hP 0 rfl rfl 9 (by decide) (htw _ (ck_24 _ (List.mem_of_getElem? (i := 19) rfl))) (fun _ h9 => h9) rfl dX12_signToken_226 ?_
              refine lv_bipush (v := 43) hx hb dX12_signToken_229 (by decide) ?_
              refine lv_icmp_eq (tgt := 270) hx hb dX12_signToken_231 (by decide) (fun c_50 => ?_) (fun c_50 => ?_)
              · refine lv_iconst (v := 1) hx hb dX12_signToken_270 (by decide) ?_
                refine lv_goto (tgt := 275) hx hb dX12_signToken_271 (by decide) ?_
                exact hjoin_45 (1 : Int32) (gy_signToken_s36 ) (hX_44.trans (by rw [fq_signToken_h]; (try rw [if_neg c_47]); (try rw [if_neg c_48]); (try rw [if_neg c_49]); (try rw [if_pos c_50]); try rfl)) _ _ ls hP hD hS (lv_sub hl [0] rfl)
              · refine lv_aload_n hx hb dX12_signToken_234 rfl (lv_at hl 0 rfl) ?_
                refine va_get (D := (dC, dI)) (ci := 12) (v := .int (f_tape ((g 7).toNatClampNeg))) (C := RX12) (T := TX12) (N := 76) hx hb htw inlX12 hown hK hP 0 rfl rfl 9 (by decide) (htw _ (ck_24 _ (List.mem_of_getElem? (i := 19) rfl))) (fun _ h9 => h9) rfl dX12_signToken_235 ?_
                refine lv_bipush (v := 45) hx hb dX12_signToken_238 (by decide) ?_
                refine lv_icmp_eq (tgt := 270) hx hb dX12_signToken_240 (by decide) (fun c_51 => ?_) (fun c_51 => ?_)
                · refine lv_iconst (v := 1) hx hb dX12_signToken_270 (by decide) ?_
                  refine lv_goto (tgt := 275) hx hb dX12_signToken_271 (by decide) ?_
                  exact hjoin_45 (1 : Int32) (gy_signToken_s37 ) (hX_44.trans (by rw [fq_signToken_h]; (try rw [if_neg c_47]); (try rw [if_neg c_48]); (try rw [if_neg c_49]); (try rw [if_neg c_50]); (try rw [if_pos c_51]); try rfl)) _ _ ls hP hD hS (lv_sub hl [0] rfl)
                · refine lv_aload_n hx hb dX12_signToken_243 rfl (lv_at hl 0 rfl) ?_
                  refine va_get (D := (dC, dI)) (ci := 12) (v := .int (f_tape ((g 7).toNatClampNeg))) (C := RX12) (T := TX12) (N := 76) hx hb htw inlX12 hown hK hP 0 rfl rfl 9 (by decide) (htw _ (ck_24 _ (List.mem_of_getElem? (i := 19) rfl))) (fun _ h9 => h9) rfl dX12_signToken_244 ?_
                  refine lv_bipush (v := 42) hx hb dX12_signToken_247 (by decide) ?_
                  refine lv_icmp_eq (tgt := 270) hx hb dX12_signToken_249 (by decide) (fun c_52 => ?_) (fun c_52 => ?_)
                  · refine lv_iconst (v := 1) hx hb dX12_signToken_270 (by decide) ?_
                    refine lv_goto (tgt := 275) hx hb dX12_signToken_271 (by decide) ?_
                    exact hjoin_45 (1 : Int32) (gy_signToken_s38 ) (hX_44.trans (by rw [fq_signToken_h]; (try rw [if_neg c_47]); (try rw [if_neg c_48]); (try rw [if_neg c_49]); (try rw [if_neg c_50]); (try rw [if_neg c_51]); (try rw [if_pos c_52]); try rfl)) _ _ ls hP hD hS (lv_sub hl [0] rfl)
                  · refine lv_aload_n hx hb dX12_signToken_252 rfl (lv_at hl 0 rfl) ?_
                    refine va_get (D := (dC, dI)) (ci := 12) (v := .int (f_tape ((g 7).toNatClampNeg))) (C := RX12) (T := TX12) (N := 76) hx hb htw inlX12 hown hK hP 0 rfl rfl 9 (by decide) (htw _ (ck_24 _ (List.mem_of_getElem? (i := 19) rfl))) (fun _ h9 => h9) rfl dX12_signToken_253 ?_
                    refine lv_bipush (v := 47) hx hb dX12_signToken_256 (by decide) ?_
                    refine lv_icmp_eq (tgt := 270) hx hb dX12_signToken_258 (by decide) (fun c_53 => ?_) (fun c_53 => ?_)
                    · refine lv_iconst (v := 1) hx hb dX12_signToken_270 (by decide) ?_
                      refine lv_goto (tgt := 275) hx hb dX12_signToken_271 (by decide) ?_
                      exact hjoin_45 (1 : Int32) (gy_signToken_s39 ) (hX_44.trans (by rw [fq_signToken_h]; (try rw [if_neg c_47]); (try rw [if_neg c_48]); (try rw [if_neg c_49]); (try rw [if_neg c_50]); (try rw [if_neg c_51]); (try rw [if_neg c_52]); (try rw [if_pos c_53]); try rfl)) _ _ ls hP hD hS (lv_sub hl [0] rfl)
                    · refine lv_aload_n hx hb dX12_signToken_261 rfl (lv_at hl 0 rfl) ?_
                      refine va_get (D := (dC, dI)) (ci := 12) (v := .int (f_tape ((g 7).toNatClampNeg))) (C := RX12) (T := TX12) (N := 76) hx hb htw inlX12 hown hK hP 0 rfl rfl 9 (by decide) (htw _ (ck_24 _ (List.mem_of_getElem? (i := 19) rfl))) (fun _ h9 => h9) rfl dX12_signToken_262 ?_
                      refine lv_bipush (v := 37) hx hb dX12_signToken_265 (by decide) ?_
                      refine lv_icmp_ne (tgt := 274) hx hb dX12_signToken_267 (by decide) (fun c_54 => ?_) (fun c_54 => ?_)
                      · refine lv_iconst (v := 0) hx hb dX12_signToken_274 (by decide) ?_
                        exact hjoin_45 (0 : Int32) (gy_signToken_s40 ) (hX_44.trans (by rw [fq_signToken_h]; (try rw [if_neg c_47]); (try rw [if_neg c_48]); (try rw [if_neg c_49]); (try rw [if_neg c_50]); (try rw [if_neg c_51]); (try rw [if_neg c_52]); (try rw [if_neg c_53]); (try rw [if_neg c_54]); try rfl)) _ _ ls hP hD hS (lv_sub hl [0] rfl)
                      · refine lv_iconst (v := 1) hx hb dX12_signToken_270 (by decide) ?_
                        refine lv_goto (tgt := 275) hx hb dX12_signToken_271 (by decide) ?_
                        exact hjoin_45 (1 : Int32) (gy_signToken_s41 ) (hX_44.trans (by rw [fq_signToken_h]; (try rw [if_neg c_47]); (try rw [if_neg c_48]); (try rw [if_neg c_49]); (try rw [if_neg c_50]); (try rw [if_neg c_51]); (try rw [if_neg c_52]); (try rw [if_neg c_53]); (try rw [if_pos c_54]); try rfl)) _ _ ls hP hD hS (lv_sub hl [0] rfl)
      · refine lv_aload_n hx hb dX12_signToken_50 rfl (lv_at hl 0 rfl) ?_
        refine va_get (D := (dC, dI)) (ci := 12) (v := .int ((g 7) + 1)) (C := RX12) (T := TX12) (N := 76) hx hb htw inlX12 hown hK hP 0 rfl rfl 7 (by decide) (htw _ (ck_24 _ (List.mem_of_getElem? (i := 12) rfl))) (fun _ h9 => h9) rfl dX12_signToken_51 ?_
        refine lv_aload_n hx hb dX12_signToken_54 rfl (lv_at hl 0 rfl) ?_
        refine va_get (D := (dC, dI)) (ci := 12) (v := .int (g 6)) (C := RX12) (T := TX12) (N := 76) hx hb htw inlX12 hown hK hP 0 rfl rfl 6 (by decide) (htw _ (ck_24 _ (List.mem_of_getElem? (i := 10) rfl))) (fun _ h9 => h9) rfl dX12_signToken_55 ?_
        obtain ⟨X_55, hX_55⟩ : ∃ X9 : (Int32), X9 = fq_signToken_a3 f_tape (g 6) (g 7) := ⟨_, rfl⟩
        have hjoin_56 : ∀ (S0a : Int32) (hja : S0a = 0 ∨ ((g 7) + 1) < (g 6)) (hE9 : X_55 = S0a) (H : Heap) (locs : List Loc) (ls : Array Slot) (hP : va_P (dC, dI) vwCl [(mq, .inr (12, mF (upd (upd g 7 ((g 7) + 1)) 9 (f_tape ((g 7).toNatClampNeg))) gl rf)), (eA0 (rf 0) (ck 0) 900 f_tape)] H) (hD : va_D A [(mq, .inr (12, mF (upd (upd g 7 ((g 7) + 1)) 9 (f_tape ((g 7).toNatClampNeg))) gl rf)), (eA0 (rf 0) (ck 0) 900 f_tape)]) (hS : va_S A s.heap H locs) (hl : lv_has ls 4 [(0, .ref mq)]), W p l e (headSpec (Cond.code yX12_signToken cX12_signToken 4 none :: wsL_law) ({ frames := 0, cells := 0, slots := 0, locals := 0 })).room s m ([.ref mq] : List Value).toArray below meth c H locs 0 0 (MQ below (va_Qv (fun (u : (Int32) × (Int32) × (Int32)) => (u = fq_signToken f_tape (g 6) (g 7)) ∧ (¬ u.1 < 0) ∧ (u.1 ≤ (g 6)) ∧ (xC u.2.1 u.2.2)) (fun (u : (Int32) × (Int32) × (Int32)) t => va_P (dC, dI) vwCl [(mq, .inr (12, mF (upd (upd (upd g 7 u.1) 8 u.2.1) 9 u.2.2) gl rf)), (eA0 (rf 0) (ck 0) 900 f_tape)] t.heap ∧ va_K (dC, dI) vwCl [] t ∧ va_D A [(mq, .inr (12, mF (upd (upd (upd g 7 u.1) 8 u.2.1) 9 u.2.2) gl rf)), (eA0 (rf 0) (ck 0) 900 f_tape)]) A) ([.ref mq] : List Value).toArray s 0 0 A) (F0 m 74 ls [.int S0a]) := by
          intro S0a hja hE9 H locs ls hP hD hS hl
          have hq_S0a : S0a = X_55 := by rw [hE9]
          refine lv_istore_n (lv' := [(1, .int S0a), (0, .ref mq)]) hx hb dX12_signToken_74 rfl hl (by decide) rfl (fun ls hl => ?_)
          refine lv_aload_n hx hb dX12_signToken_75 rfl (lv_at hl 1 rfl) ?_
          refine va_get (D := (dC, dI)) (ci := 12) (v := .int (f_tape ((g 7).toNatClampNeg))) (C := RX12) (T := TX12) (N := 76) hx hb htw inlX12 hown hK hP 0 rfl rfl 9 (by decide) (htw _ (ck_24 _ (List.mem_of_getElem? (i := 19) rfl))) (fun _ h9 => h9) rfl dX12_signToken_76 ?_
          refine lv_bipush (v := 61) hx hb dX12_signToken_79 (by decide) ?_
          obtain ⟨X_57, hX_57⟩ : ∃ X9 : (Int32), X9 = fq_signToken_b3 := ⟨_, rfl⟩
          have hjoin_58 : ∀ (S0b : Int32) (hjb : S0b = 0 ∨ S0a = 61) (hE9 : X_57 = S0b) (H : Heap) (locs : List Loc) (ls : Array Slot) (hP : va_P (dC, dI) vwCl [(mq, .inr (12, mF (upd (upd g 7 ((g 7) + 1)) 9 (f_tape ((g 7).toNatClampNeg))) gl rf)), (eA0 (rf 0) (ck 0) 900 f_tape)] H) (hD : va_D A [(mq, .inr (12, mF (upd (upd g 7 ((g 7) + 1)) 9 (f_tape ((g 7).toNatClampNeg))) gl rf)), (eA0 (rf 0) (ck 0) 900 f_tape)]) (hS : va_S A s.heap H locs) (hl : lv_has ls 4 [(1, .int S0a), (0, .ref mq)]), W p l e (headSpec (Cond.code yX12_signToken cX12_signToken 4 none :: wsL_law) ({ frames := 0, cells := 0, slots := 0, locals := 0 })).room s m ([.ref mq] : List Value).toArray below meth c H locs 0 0 (MQ below (va_Qv (fun (u : (Int32) × (Int32) × (Int32)) => (u = fq_signToken f_tape (g 6) (g 7)) ∧ (¬ u.1 < 0) ∧ (u.1 ≤ (g 6)) ∧ (xC u.2.1 u.2.2)) (fun (u : (Int32) × (Int32) × (Int32)) t => va_P (dC, dI) vwCl [(mq, .inr (12, mF (upd (upd (upd g 7 u.1) 8 u.2.1) 9 u.2.2) gl rf)), (eA0 (rf 0) (ck 0) 900 f_tape)] t.heap ∧ va_K (dC, dI) vwCl [] t ∧ va_D A [(mq, .inr (12, mF (upd (upd (upd g 7 u.1) 8 u.2.1) 9 u.2.2) gl rf)), (eA0 (rf 0) (ck 0) 900 f_tape)]) A) ([.ref mq] : List Value).toArray s 0 0 A) (F0 m 95 ls [.int S0b]) := by
            intro S0b hjb hE9 H locs ls hP hD hS hl
            have hq_S0b : S0b = X_57 := by rw [hE9]
            refine lv_istore_n (lv' := [(2, .int S0b), (1, .int S0a), (0, .ref mq)]) hx hb dX12_signToken_95 rfl hl (by decide) rfl (fun ls hl => ?_)
            refine lv_aload_n hx hb dX12_signToken_96 rfl (lv_at hl 2 rfl) ?_
            refine va_get (D := (dC, dI)) (ci := 12) (v := .int (f_tape ((g 7).toNatClampNeg))) (C := RX12) (T := TX12) (N := 76) hx hb htw inlX12 hown hK hP 0 rfl rfl 9 (by decide) (htw _ (ck_24 _ (List.mem_of_getElem? (i := 19) rfl))) (fun _ h9 => h9) rfl dX12_signToken_97 ?_
            refine lv_bipush (v := 60) hx hb dX12_signToken_100 (by decide) ?_
            obtain ⟨X_59, hX_59⟩ : ∃ X9 : (Int32), X9 = fq_signToken_d3 := ⟨_, rfl⟩
            have hjoin_60 : ∀ (S0d : Int32) (hjd : S0d = 0 ∨ S0a = 62) (hE9 : X_59 = S0d) (H : Heap) (locs : List Loc) (ls : Array Slot) (hP : va_P (dC, dI) vwCl [(mq, .inr (12, mF (upd (upd g 7 ((g 7) + 1)) 9 (f_tape ((g 7).toNatClampNeg))) gl rf)), (eA0 (rf 0) (ck 0) 900 f_tape)] H) (hD : va_D A [(mq, .inr (12, mF (upd (upd g 7 ((g 7) + 1)) 9 (f_tape ((g 7).toNatClampNeg))) gl rf)), (eA0 (rf 0) (ck 0) 900 f_tape)]) (hS : va_S A s.heap H locs) (hl : lv_has ls 4 [(2, .int S0b), (1, .int S0a), (0, .ref mq)]), W p l e (headSpec (Cond.code yX12_signToken cX12_signToken 4 none :: wsL_law) ({ frames := 0, cells := 0, slots := 0, locals := 0 })).room s m ([.ref mq] : List Value).toArray below meth c H locs 0 0 (MQ below (va_Qv (fun (u : (Int32) × (Int32) × (Int32)) => (u = fq_signToken f_tape (g 6) (g 7)) ∧ (¬ u.1 < 0) ∧ (u.1 ≤ (g 6)) ∧ (xC u.2.1 u.2.2)) (fun (u : (Int32) × (Int32) × (Int32)) t => va_P (dC, dI) vwCl [(mq, .inr (12, mF (upd (upd (upd g 7 u.1) 8 u.2.1) 9 u.2.2) gl rf)), (eA0 (rf 0) (ck 0) 900 f_tape)] t.heap ∧ va_K (dC, dI) vwCl [] t ∧ va_D A [(mq, .inr (12, mF (upd (upd (upd g 7 u.1) 8 u.2.1) 9 u.2.2) gl rf)), (eA0 (rf 0) (ck 0) 900 f_tape)]) A) ([.ref mq] : List Value).toArray s 0 0 A) (F0 m 116 ls [.int S0d]) := by
              intro S0d hjd hE9 H locs ls hP hD hS hl
              have hq_S0d : S0d = X_59 := by rw [hE9]
              refine lv_istore_n (lv' := [(3, .int S0d), (2, .int S0b), (1, .int S0a), (0, .ref mq)]) hx hb dX12_signToken_116 rfl hl (by decide) rfl (fun ls hl => ?_)
              refine lv_iload_n hx hb dX12_signToken_117 rfl (lv_at hl 1 rfl) ?_
              obtain ⟨X_61, hX_61⟩ : ∃ X9 : (Int32), X9 = fq_signToken_e3 (g 7) S0b S0d := ⟨_, rfl⟩
              have hjoin_62 : ∀ (m_next_e : Int32) (hj0 : ¬ m_next_e < 0) (hj1 : m_next_e ≤ (g 6)) (hE9 : X_61 = m_next_e) (H : Heap) (locs : List Loc) (ls : Array Slot) (hP : va_P (dC, dI) vwCl [(mq, .inr (12, mF (upd (upd g 7 m_next_e) 9 (f_tape ((g 7).toNatClampNeg))) gl rf)), (eA0 (rf 0) (ck 0) 900 f_tape)] H) (hD : va_D A [(mq, .inr (12, mF (upd (upd g 7 m_next_e) 9 (f_tape ((g 7).toNatClampNeg))) gl rf)), (eA0 (rf 0) (ck 0) 900 f_tape)]) (hS : va_S A s.heap H locs) (hl : lv_has ls 4 [(3, .int S0d), (2, .int S0b), (1, .int S0a), (0, .ref mq)]), W p l e (headSpec (Cond.code yX12_signToken cX12_signToken 4 none :: wsL_law) ({ frames := 0, cells := 0, slots := 0, locals := 0 })).room s m ([.ref mq] : List Value).toArray below meth c H locs 0 0 (MQ below (va_Qv (fun (u : (Int32) × (Int32) × (Int32)) => (u = fq_signToken f_tape (g 6) (g 7)) ∧ (¬ u.1 < 0) ∧ (u.1 ≤ (g 6)) ∧ (xC u.2.1 u.2.2)) (fun (u : (Int32) × (Int32) × (Int32)) t => va_P (dC, dI) vwCl [(mq, .inr (12, mF (upd (upd (upd g 7 u.1) 8 u.2.1) 9 u.2.2) gl rf)), (eA0 (rf 0) (ck 0) 900 f_tape)] t.heap ∧ va_K (dC, dI) vwCl [] t ∧ va_D A [(mq, .inr (12, mF (upd (upd (upd g 7 u.1) 8 u.2.1) 9 u.2.2) gl rf)), (eA0 (rf 0) (ck 0) 900 f_tape)]) A) ([.ref mq] : List Value).toArray s 0 0 A) (F0 m 135 ls []) := by
                intro m_next_e hj0 hj1 hE9 H locs ls hP hD hS hl
                have hq_m_next_e : m_next_e = X_61 := by rw [hE9]
                refine lv_aload_n hx hb dX12_signToken_135 rfl (lv_at hl 3 rfl) ?_
                refine lv_iconst (v := 5) hx hb dX12_signToken_136 (by decide) ?_
                refine va_put (D := (dC, dI)) (ci := 12) (v := .int 5) (ty := tyX12 8) (C := RX12) (T := TX12) (N := 76) hx hb htw inlX12 tyX12 tyX12_ok nmX12 hown hK hP hD hS 0 rfl rfl 8 (by decide) (htw _ (ck_24 _ (List.mem_of_getElem? (i := 13) rfl))) (fun _ h9 => h9) rfl (tyX12_ok 8 (by decide)) rfl rfl (Nat.le_of_ble_eq_true rfl) dX12_signToken_137 (fun H locs hP hD hS => ?_)
                have hP : va_P (dC, dI) vwCl [(mq, .inr (12, mF (upd (upd (upd g 7 m_next_e) 8 5) 9 (f_tape ((g 7).toNatClampNeg))) gl rf)), (eA0 (rf 0) (ck 0) 900 f_tape)] H := hP
                have hD : va_D A [(mq, .inr (12, mF (upd (upd (upd g 7 m_next_e) 8 5) 9 (f_tape ((g 7).toNatClampNeg))) gl rf)), (eA0 (rf 0) (ck 0) 900 f_tape)] := hD
                refine lv_aload_n hx hb dX12_signToken_140 rfl (lv_at hl 3 rfl) ?_
                refine lv_aload_n hx hb dX12_signToken_141 rfl (lv_at hl 3 rfl) ?_
                refine va_get (D := (dC, dI)) (ci := 12) (v := .int (f_tape ((g 7).toNatClampNeg))) (C := RX12) (T := TX12) (N := 76) hx hb htw inlX12 hown hK hP 0 rfl rfl 9 (by decide) (htw _ (ck_24 _ (List.mem_of_getElem? (i := 19) rfl))) (fun _ h9 => h9) rfl dX12_signToken_142 ?_
                refine lv_bipush (v := 61) hx hb dX12_signToken_145 (by decide) ?_
                obtain ⟨X_63, hX_63⟩ : ∃ X9 : (Int32), X9 = fq_signToken_f3 := ⟨_, rfl⟩
                have hjoin_64 : ∀ (S0f : Int32) (hjg0 : ¬ S0f < 0) (hjg5 : S0f ≤ 5) (hE9 : X_63 = S0f) (H : Heap) (locs : List Loc) (ls : Array Slot) (hP : va_P (dC, dI) vwCl [(mq, .inr (12, mF (upd (upd (upd g 7 m_next_e) 8 5) 9 (f_tape ((g 7).toNatClampNeg))) gl rf)), (eA0 (rf 0) (ck 0) 900 f_tape)] H) (hD : va_D A [(mq, .inr (12, mF (upd (upd (upd g 7 m_next_e) 8 5) 9 (f_tape ((g 7).toNatClampNeg))) gl rf)), (eA0 (rf 0) (ck 0) 900 f_tape)]) (hS : va_S A s.heap H locs) (hl : lv_has ls 4 [(3, .int S0d), (2, .int S0b), (1, .int S0a), (0, .ref mq)]), W p l e (headSpec (Cond.code yX12_signToken cX12_signToken 4 none :: wsL_law) ({ frames := 0, cells := 0, slots := 0, locals := 0 })).room s m ([.ref mq] : List Value).toArray below meth c H locs 0 0 (MQ below (va_Qv (fun (u : (Int32) × (Int32) × (Int32)) => (u = fq_signToken f_tape (g 6) (g 7)) ∧ (¬ u.1 < 0) ∧ (u.1 ≤ (g 6)) ∧ (xC u.2.1 u.2.2)) (fun (u : (Int32) × (Int32) × (Int32)) t => va_P (dC, dI) vwCl [(mq, .inr (12, mF (upd (upd (upd g 7 u.1) 8 u.2.1) 9 u.2.2) gl rf)), (eA0 (rf 0) (ck 0) 900 f_tape)] t.heap ∧ va_K (dC, dI) vwCl [] t ∧ va_D A [(mq, .inr (12, mF (upd (upd (upd g 7 u.1) 8 u.2.1) 9 u.2.2) gl rf)), (eA0 (rf 0) (ck 0) 900 f_tape)]) A) ([.ref mq] : List Value).toArray s 0 0 A) (F0 m 192 ls [.int S0f, .ref mq]) := by
                  intro S0f hjg0 hjg5 hE9 H locs ls hP hD hS hl
                  have hq_S0f : S0f = X_63 := by rw [hE9]
                  refine va_put (D := (dC, dI)) (ci := 12) (v := .int S0f) (ty := tyX12 9) (C := RX12) (T := TX12) (N := 76) hx hb htw inlX12 tyX12 tyX12_ok nmX12 hown hK hP hD hS 0 rfl rfl 9 (by decide) (htw _ (ck_24 _ (List.mem_of_getElem? (i := 19) rfl))) (fun _ h9 => h9) rfl (tyX12_ok 9 (by decide)) rfl rfl (Nat.le_of_ble_eq_true rfl) dX12_signToken_192 (fun H locs hP hD hS => ?_)
                  have hP : va_P (dC, dI) vwCl [(mq, .inr (12, mF (upd (upd (upd g 7 m_next_e) 8 5) 9 S0f) gl rf)), (eA0 (rf 0) (ck 0) 900 f_tape)] H := hP
                  have hD : va_D A [(mq, .inr (12, mF (upd (upd (upd g 7 m_next_e) 8 5) 9 S0f) gl rf)), (eA0 (rf 0) (ck 0) 900 f_tape)] := hD
                  refine lv_goto (tgt := 290) hx hb dX12_signToken_195 (by decide) ?_
                  refine W.widen (k := 0) (n := 0) (by omega) (by omega) ?_
                  have hP9 := hP
                  have hD9 := hD
                  have hK9 := hK.sub (tys' := []) [] rfl
                  exact W.vret hx hb hr (fun t ht hW => ⟨⟨(m_next_e, 5, S0f), rfl, ⟨(Eq.symm ((by rw [fq_signToken]; (try rw [if_neg c_1]); (try rw [if_neg c_23]); (try rw [if_pos c_43]); (try rw [← hX_55]); (try rw [xL_eq]); (try rw [← hq_S0a]); (try rw [← hX_57]); (try rw [xL_eq]); (try rw [← hq_S0b]); (try rw [← hX_59]); (try rw [xL_eq]); (try rw [← hq_S0d]); (try rw [← hX_61]); (try rw [xL_eq]); (try rw [← hq_m_next_e]); (try rw [← hX_63]); (try rw [xL_eq]); (try rw [← hq_S0f]); try rfl))), hj0, hj1, (fun _ => ⟨(And.intro hjg0 hjg5).1, (And.intro hjg0 hjg5).2⟩)⟩, by rw [ht]; exact hP9, va_K.moved hW.alike hK9, hD9⟩, hS.F ht⟩) hS.2.2 dX12_signToken_290
                refine lv_icmp_ne (tgt := 154) hx hb dX12_signToken_147 (by decide) (fun c_65 => absurd c_65 (fun h9 => h9 c_43)) (fun c_65 => ?_)
                refine lv_iconst (v := 2) hx hb dX12_signToken_150 (by decide) ?_
                refine lv_goto (tgt := 192) hx hb dX12_signToken_151 (by decide) ?_
                exact hjoin_64 (2 : Int32) (gy_signToken_s42 ) (gy_signToken_s43 ) (hX_63.trans (by rw [fq_signToken_f3])) _ _ ls hP hD hS (lv_sub hl [0, 1, 2, 3] rfl)
              refine lv_if_ne (tgt := 125) hx hb dX12_signToken_118 (by decide) (fun c_66 => ?_) (fun c_66 => ?_)
              · refine lv_aload_n hx hb dX12_signToken_125 rfl (lv_at hl 3 rfl) ?_
                refine lv_dup hx hb dX12_signToken_126 rfl ?_
                refine va_get (D := (dC, dI)) (ci := 12) (v := .int ((g 7) + 1)) (C := RX12) (T := TX12) (N := 76) hx hb htw inlX12 hown hK hP 0 rfl rfl 7 (by decide) (htw _ (ck_24 _ (List.mem_of_getElem? (i := 12) rfl))) (fun _ h9 => h9) rfl dX12_signToken_127 ?_
                refine lv_iconst (v := 1) hx hb dX12_signToken_130 (by decide) ?_
                refine lv_iadd hx hb dX12_signToken_131 ?_
                refine va_put (D := (dC, dI)) (ci := 12) (v := .int (((g 7) + 1) + 1)) (ty := tyX12 7) (C := RX12) (T := TX12) (N := 76) hx hb htw inlX12 tyX12 tyX12_ok nmX12 hown hK hP hD hS 0 rfl rfl 7 (by decide) (htw _ (ck_24 _ (List.mem_of_getElem? (i := 12) rfl))) (fun _ h9 => h9) rfl (tyX12_ok 7 (by decide)) rfl rfl (Nat.le_of_ble_eq_true rfl) dX12_signToken_132 (fun H locs hP hD hS => ?_)
                have hP : va_P (dC, dI) vwCl [(mq, .inr (12, mF (upd (upd g 7 (((g 7) + 1) + 1)) 9 (f_tape ((g 7).toNatClampNeg))) gl rf)), (eA0 (rf 0) (ck 0) 900 f_tape)] H := hP
                have hD : va_D A [(mq, .inr (12, mF (upd (upd g 7 (((g 7) + 1) + 1)) 9 (f_tape ((g 7).toNatClampNeg))) gl rf)), (eA0 (rf 0) (ck 0) 900 f_tape)] := hD
                exact hjoin_62 (((g 7) + 1) + 1) (gy_signToken_s44 (y0 := g 7) (y1 := g 6) h0n hs9 hlt) (gy_signToken_s45 (y0 := g 7) (y1 := g 6) (hja.resolve_left (by rw [hjb.resolve_left c_66]; decide)) hs9 hlt) (hX_61.trans (by rw [fq_signToken_e3]; (try rw [if_neg c_66]); try rfl)) _ _ ls hP hD hS (lv_sub hl [0, 1, 2, 3] rfl)
              · refine lv_iload_n hx hb dX12_signToken_121 rfl (lv_at hl 0 rfl) ?_
                refine lv_if_eq (tgt := 135) hx hb dX12_signToken_122 (by decide) (fun c_67 => ?_) (fun c_67 => ?_)
                · exact hjoin_62 ((g 7) + 1) (gy_signToken_s46 (y0 := g 7) (y1 := g 6) h0n hlt) (gy_signToken_s47 (y0 := g 7) (y1 := g 6) hlt) (hX_61.trans (by rw [fq_signToken_e3]; (try rw [if_pos c_66]); (try rw [if_pos c_67]); try rfl)) _ _ ls hP hD hS (lv_sub hl [0, 1, 2, 3] rfl)
                · refine lv_aload_n hx hb dX12_signToken_125 rfl (lv_at hl 3 rfl) ?_
                  refine lv_dup hx hb dX12_signToken_126 rfl ?_
                  refine va_get (D := (dC, dI)) (ci := 12) (v := .int ((g 7) + 1)) (C := RX12) (T := TX12) (N := 76) hx hb htw inlX12 hown hK hP 0 rfl rfl 7 (by decide) (htw _ (ck_24 _ (List.mem_of_getElem? (i := 12) rfl))) (fun _ h9 => h9) rfl dX12_signToken_127 ?_
                  refine lv_iconst (v := 1) hx hb dX12_signToken_130 (by decide) ?_
                  refine lv_iadd hx hb dX12_signToken_131 ?_
                  refine va_put (D := (dC, dI)) (ci := 12) (v := .int (((g 7) + 1) + 1)) (ty := tyX12 7) (C := RX12) (T := TX12) (N := 76) hx hb htw inlX12 tyX12 tyX12_ok nmX12 hown hK hP hD hS 0 rfl rfl 7 (by decide) (htw _ (ck_24 _ (List.mem_of_getElem? (i := 12) rfl))) (fun _ h9 => h9) rfl (tyX12_ok 7 (by decide)) rfl rfl (Nat.le_of_ble_eq_true rfl) dX12_signToken_132 (fun H locs hP hD hS => ?_)
                  have hP : va_P (dC, dI) vwCl [(mq, .inr (12, mF (upd (upd g 7 (((g 7) + 1) + 1)) 9 (f_tape ((g 7).toNatClampNeg))) gl rf)), (eA0 (rf 0) (ck 0) 900 f_tape)] H := hP
                  have hD : va_D A [(mq, .inr (12, mF (upd (upd g 7 (((g 7) + 1) + 1)) 9 (f_tape ((g 7).toNatClampNeg))) gl rf)), (eA0 (rf 0) (ck 0) 900 f_tape)] := hD
                  exact hjoin_62 (((g 7) + 1) + 1) (gy_signToken_s48 (y0 := g 7) (y1 := g 6) h0n hs9 hlt) (gy_signToken_s49 (y0 := g 7) (y1 := g 6) (hja.resolve_left (by rw [hjd.resolve_left c_67]; decide)) hs9 hlt) (hX_61.trans (by rw [fq_signToken_e3]; (try rw [if_pos c_66]); (try rw [if_neg c_67]); try rfl)) _ _ ls hP hD hS (lv_sub hl [0, 1, 2, 3] rfl)
            refine lv_icmp_ne (tgt := 115) hx hb dX12_signToken_102 (by decide) (fun c_68 => ?_) (fun c_68 => absurd c_68 (fun h9 => absurd h9 c_1))
            refine lv_iconst (v := 0) hx hb dX12_signToken_115 (by decide) ?_
            exact hjoin_60 (0 : Int32) (Or.inl rfl) (hX_59.trans (by rw [fq_signToken_d3])) _ _ ls hP hD hS (lv_sub hl [0, 1, 2] rfl)
          refine lv_icmp_eq (tgt := 94) hx hb dX12_signToken_81 (by decide) (fun c_69 => ?_) (fun c_69 => absurd c_69 (fun h9 => h9 c_43))
          refine lv_iconst (v := 0) hx hb dX12_signToken_94 (by decide) ?_
          exact hjoin_58 (0 : Int32) (Or.inl rfl) (hX_57.trans (by rw [fq_signToken_b3])) _ _ ls hP hD hS (lv_sub hl [0, 1] rfl)
        refine lv_icmp_ge (tgt := 73) hx hb dX12_signToken_58 (by decide) (fun c_70 => ?_) (fun c_70 => ?_)
        · refine lv_iconst (v := 0) hx hb dX12_signToken_73 (by decide) ?_
          exact hjoin_56 (0 : Int32) (Or.inl rfl) (hX_55.trans (by rw [fq_signToken_a3]; (try rw [if_pos c_70]); try rfl)) _ _ ls hP hD hS (lv_sub hl [0] rfl)
        · refine lv_aload_n hx hb dX12_signToken_61 rfl (lv_at hl 0 rfl) ?_
          refine va_get (D := (dC, dI)) (ci := 12) (v := .ref (rf 0)) (C := RX12) (T := TX12) (N := 76) hx hb htw inlX12 hown hK hP 0 rfl rfl 0 (by decide) (htw _ (ck_9 _ (List.mem_of_getElem? (i := 4) rfl))) (fun _ h9 => h9) rfl dX12_signToken_62 ?_
          refine lv_aload_n hx hb dX12_signToken_65 rfl (lv_at hl 0 rfl) ?_
          refine va_get (D := (dC, dI)) (ci := 12) (v := .int ((g 7) + 1)) (C := RX12) (T := TX12) (N := 76) hx hb htw inlX12 hown hK hP 0 rfl rfl 7 (by decide) (htw _ (ck_24 _ (List.mem_of_getElem? (i := 12) rfl))) (fun _ h9 => h9) rfl dX12_signToken_66 ?_
          refine va_iald hx hb hK hP 1 0 rfl rfl (xg_inr (N := 900) rfl (gy_signToken_s50 (y0 := g 7) (y1 := g 6) c_70 h0n hs9 hlt).1 (gy_signToken_s50 (y0 := g 7) (y1 := g 6) c_70 h0n hs9 hlt).2) dX12_signToken_69 ?_
          refine lv_goto (tgt := 74) hx hb dX12_signToken_70 (by decide) ?_
          exact hjoin_56 (f_tape (((g 7) + 1).toNatClampNeg)) (Or.inr (Int32.not_le.mp c_70)) (hX_55.trans (by rw [fq_signToken_a3]; (try rw [if_neg c_70]); try rfl)) _ _ ls hP hD hS (lv_sub hl [0] rfl)

theorem gy_token_s0 {y0 : Int32} {y1 : Int32} (h0 : ¬ (y0 = y1)) (h1 : y0 ≤ y1) : y0 < y1 := by lia
theorem gy_token_s1 {y0 : Int32} {y1 : Int32} (h0 : ¬ (y0 < 0)) (h1 : ¬ (y1 ≤ y0)) : ¬ ((y0 + 1) < 0) := by lia
theorem gy_token_s2 {y0 : Int32} {y1 : Int32} (h0 : ¬ (y1 ≤ y0)) : (y0 + 1) ≤ y1 := by lia
theorem gy_token_s3 {y0 : Int32} {y1 : Int32} (h0 : y1 ≤ 900) (h1 : ¬ (y1 ≤ y0)) : y0 < 900 := by lia
theorem gy_token_s4 {y0 : Int32} {y1 : Int32} (h0 : ¬ (y0 < 0)) (h1 : y1 ≤ 900) (h2 : ¬ (y1 ≤ y0)) : ¬ (y0 < 0) ∧ ¬ (900 ≤ y0) := by lia
theorem gy_token_s5 {y0 : Int32} {y1 : Int32} (h0 : y0 ≤ y1) (h1 : y1 ≤ 900) : y0 ≤ 900 := by lia
theorem gy_token_s6 {y0 : Int32} {y1 : Int32} (h0 : y0 ≤ y1) (h1 : y1 ≤ 900) : y0 ≤ 900 := by lia
theorem gy_token_s7 {y0 : Int32} {y1 : Int32} (h0 : y1 ≤ 900) (h1 : ¬ (y1 ≤ y0)) : y0 ≤ 900 := by lia
theorem gy_token_s8  : ¬ ((2 : Int32) = 5) := (by decide)
theorem gy_token_s9  : ¬ ((6 : Int32) = 5) := (by decide)
theorem gy_token_s10  : ¬ ((1 : Int32) = 5) := (by decide)
theorem gy_token_s11 {y0 : Int32} {y1 : Int32} {y2 : Int32} (h0 : ¬ (y1 < 0)) (h1 : y1 ≤ y0) (h2 : ¬ (y2 ≤ y0)) : ¬ ((y0 + 1) < 0) := by lia
theorem gy_token_s12 {y0 : Int32} {y1 : Int32} (h0 : ¬ (y1 ≤ y0)) : (y0 + 1) ≤ y1 := by lia
theorem gy_token_s13 {y0 : Int32} {y1 : Int32} (h0 : y1 ≤ 900) (h1 : ¬ (y1 ≤ y0)) : y0 < 900 := by lia
theorem gy_token_s14 {y0 : Int32} {y1 : Int32} {y2 : Int32} (h0 : y0 ≤ y1) (h1 : ¬ (y2 ≤ y1)) : y0 ≤ (y1 + 1) := by lia
theorem gy_token_s15 {y0 : Int32} : y0 ≤ y0 := by lia
theorem gy_token_s16 {y0 : Int32} {y1 : Int32} (h0 : ¬ (y1 ≤ y0)) (h1 : ¬ (y0 < 0)) (h2 : y1 ≤ 900) : ¬ (y0 < 0) ∧ ¬ (900 ≤ y0) := by lia
theorem gy_token_s17 {y0 : Int32} {y1 : Int32} (h0 : ¬ (y0 < 0)) (h1 : y0 ≤ y1) (h2 : y1 ≤ 900) : ¬ ((y0 + 1) < 0) := by lia
theorem gy_token_s18 {y0 : Int32} {y1 : Int32} (h0 : ¬ (y1 ≤ y0)) (h1 : y0 ≤ y1) (h2 : y1 ≤ 900) : (y0 + 1) ≤ y1 := by lia
theorem gy_token_s19 {y0 : Int32} {y1 : Int32} (h0 : ¬ (y1 ≤ y0)) (h1 : y1 ≤ 900) : y0 < 900 := by lia
theorem gy_token_s20 {y0 : Int32} {y1 : Int32} (h0 : ¬ (y1 ≤ y0)) (h1 : ¬ (y0 < 0)) (h2 : y1 ≤ 900) : ¬ (y0 < 0) ∧ ¬ (900 ≤ y0) := by lia
theorem gy_token_s21 {y0 : Int32} {y1 : Int32} (h0 : ¬ (y0 < 0)) (h1 : y0 ≤ y1) (h2 : y1 ≤ 900) : ¬ ((y0 + 1) < 0) := by lia
theorem gy_token_s22 {y0 : Int32} {y1 : Int32} (h0 : ¬ (y1 ≤ y0)) (h1 : y0 ≤ y1) (h2 : y1 ≤ 900) : (y0 + 1) ≤ y1 := by lia
theorem gy_token_s23 {y0 : Int32} {y1 : Int32} (h0 : ¬ (y1 ≤ y0)) (h1 : y1 ≤ 900) : y0 < 900 := by lia
set_option maxHeartbeats 4000000 in
set_option maxRecDepth 100000 in
theorem gy_token (l : Launch) (dC : Nat → ClassId) (dI : Nat → Nat → Nat) (mq : Nat) (g : Nat → Int32) (gl : Nat → Int64) (rf : Nat → Nat) (ck : Nat → ClassId) (f_tape : Nat → Int32) (f_words : Nat → Int32) (sz : Nat) (h0n : ¬ (g 7) < 0) (hns : (g 7) ≤ (g 6)) (hs9 : (g 6) ≤ 900) (hw7 : (f_words 117) = 32) : Met l yX12_token (Cond.code yX12_token cX12_token 1 none :: wsL_law) ({ frames := 1, cells := 0, slots := 0, locals := 27 }) (va_Pc [.ref mq] (fun U => U.heap.size = sz ∧ va_P (dC, dI) vwCl [(mq, .inr (12, mF g gl rf)), (eA0 (rf 0) (ck 0) 900 f_tape), (eA0 (rf 3) (ck 3) 118 f_words)] U.heap ∧ va_K (dC, dI) vwCl [((ck 0), .int), ((ck 3), .int)] U ∧ va_D (fun _ => True) [(mq, .inr (12, mF g gl rf)), (eA0 (rf 0) (ck 0) 900 f_tape), (eA0 (rf 3) (ck 3) 118 f_words)])) (va_Qv (fun (u : (Int32) × (Int32) × (Int32) × (Int32)) => (u = fq_token f_tape f_words (g 6) (g 7) (g 9)) ∧ (¬ u.1 < 0) ∧ (u.1 ≤ (g 6)) ∧ (xC u.2.1 u.2.2.1)) (fun (u : (Int32) × (Int32) × (Int32) × (Int32)) t => va_P (dC, dI) vwCl [(mq, .inr (12, mF (upd (upd (upd (upd g 7 u.1) 8 u.2.1) 9 u.2.2.1) 10 u.2.2.2) gl rf)), (eA0 (rf 0) (ck 0) 900 f_tape), (eA0 (rf 3) (ck 3) 118 f_words)] t.heap ∧ va_K (dC, dI) vwCl [] t ∧ va_D (va_A [(mq, .inr (12, mF g gl rf)), (eA0 (rf 0) (ck 0) 900 f_tape), (eA0 (rf 3) (ck 3) 118 f_words)] sz) [(mq, .inr (12, mF (upd (upd (upd (upd g 7 u.1) 8 u.2.1) 9 u.2.2.1) 10 u.2.2.2) gl rf)), (eA0 (rf 0) (ck 0) 900 f_tape), (eA0 (rf 3) (ck 3) 118 f_words)]) (va_A [(mq, .inr (12, mF g gl rf)), (eA0 (rf 0) (ck 0) 900 f_tape), (eA0 (rf 3) (ck 3) 118 f_words)] sz)) 0 0 (va_A [(mq, .inr (12, mF g gl rf)), (eA0 (rf 0) (ck 0) 900 f_tape), (eA0 (rf 3) (ck 3) 118 f_words)] sz) := by
  refine Met.ofW (cc := cX12_token) (maxL := 1) (ret := none) (by decide) rfl ?_
  intro p e s m args below meth c s₁ B hml hv
  obtain ⟨rfl, hsz, hP, hK, hD0⟩ := hv
  have hx := B.exec
  have hb := B.bytes
  have hr := B.returns
  have hts := atoms_spec (ws := Cond.code yX12_token cX12_token 1 none :: wsL_law) B.pre
  have htw : ∀ w ∈ wsL_law, w.before _ s = true := fun w h => hts w (List.mem_cons_of_mem _ h)
  have hown : s.vm.findClass RX12 = some m.cls := findClass_of_methodNamed B.named
  have hlocks := B.notSynchronized
  subst hsz
  have hD := hD0.self (sz := s.heap.size)
  generalize hAe : va_A [(mq, .inr (12, mF g gl rf)), (eA0 (rf 0) (ck 0) 900 f_tape), (eA0 (rf 3) (ck 3) 118 f_words)] s.heap.size = A at hD ⊢
  have hA : ∀ q : Nat, s.heap.size ≤ q → A q := fun q h => by rw [← hAe]; exact Or.inr h
  obtain ⟨H, rH⟩ : ∃ z : Heap, z = s.heap := ⟨_, rfl⟩
  have hS : va_S A s.heap H [] := by rw [rH]; exact va_S.rf
  have hP : va_P (dC, dI) vwCl [(mq, .inr (12, mF g gl rf)), (eA0 (rf 0) (ck 0) 900 f_tape), (eA0 (rf 3) (ck 3) 118 f_words)] H := by rw [rH]; exact hP
  rw [← rH]
  have hl := lv_entry ([.ref mq]) (n := 1) (Nat.le_of_ble_eq_true rfl)
  rw [lg_entry_eq]
  generalize (lg_sl ([.ref mq]) ++ List.replicate (1 - (lg_sl ([.ref mq])).length) Slot.unset).toArray = ls at hl ⊢
  have hl : lv_has ls 1 [(0, .ref mq)] := hl
  obtain ⟨X_1, hX_1⟩ : ∃ X9 : (Int32), X9 = fq_token_a f_tape (g 6) 900 (g 7) := ⟨_, rfl⟩
  have hexit_2 : ∀ (m_next_ax : Int32) (hx0a : ¬ m_next_ax < 0) (hx1a : m_next_ax ≤ (g 6)) (hE9 : X_1 = m_next_ax) (H : Heap) (locs : List Loc) (ls : Array Slot) (hP : va_P (dC, dI) vwCl [(mq, .inr (12, mF (upd g 7 m_next_ax) gl rf)), (eA0 (rf 0) (ck 0) 900 f_tape), (eA0 (rf 3) (ck 3) 118 f_words)] H) (hD : va_D A [(mq, .inr (12, mF (upd g 7 m_next_ax) gl rf)), (eA0 (rf 0) (ck 0) 900 f_tape), (eA0 (rf 3) (ck 3) 118 f_words)]) (hS : va_S A s.heap H locs) (hl : lv_has ls 1 [(0, .ref mq)]), W p l e (headSpec (Cond.code yX12_token cX12_token 1 none :: wsL_law) ({ frames := 1, cells := 0, slots := 0, locals := 27 })).room s m ([.ref mq] : List Value).toArray below meth c H locs 0 0 (MQ below (va_Qv (fun (u : (Int32) × (Int32) × (Int32) × (Int32)) => (u = fq_token f_tape f_words (g 6) (g 7) (g 9)) ∧ (¬ u.1 < 0) ∧ (u.1 ≤ (g 6)) ∧ (xC u.2.1 u.2.2.1)) (fun (u : (Int32) × (Int32) × (Int32) × (Int32)) t => va_P (dC, dI) vwCl [(mq, .inr (12, mF (upd (upd (upd (upd g 7 u.1) 8 u.2.1) 9 u.2.2.1) 10 u.2.2.2) gl rf)), (eA0 (rf 0) (ck 0) 900 f_tape), (eA0 (rf 3) (ck 3) 118 f_words)] t.heap ∧ va_K (dC, dI) vwCl [] t ∧ va_D A [(mq, .inr (12, mF (upd (upd (upd (upd g 7 u.1) 8 u.2.1) 9 u.2.2.1) 10 u.2.2.2) gl rf)), (eA0 (rf 0) (ck 0) 900 f_tape), (eA0 (rf 3) (ck 3) 118 f_words)]) A) ([.ref mq] : List Value).toArray s 0 0 A) (F0 m 52 ls []) := by
    intro m_next_ax hx0a hx1a hE9 H locs ls hP hD hS hl
    have hq_m_next_ax : m_next_ax = X_1 := by rw [hE9]
    refine lv_aload_n hx hb dX12_token_52 rfl (lv_at hl 0 rfl) ?_
    refine lv_aload_n hx hb dX12_token_53 rfl (lv_at hl 0 rfl) ?_
    refine va_get (D := (dC, dI)) (ci := 12) (v := .int m_next_ax) (C := RX12) (T := TX12) (N := 76) hx hb htw inlX12 hown hK hP 0 rfl rfl 7 (by decide) (htw _ (ck_24 _ (List.mem_of_getElem? (i := 12) rfl))) (fun _ h9 => h9) rfl dX12_token_54 ?_
    refine va_put (D := (dC, dI)) (ci := 12) (v := .int m_next_ax) (ty := tyX12 10) (C := RX12) (T := TX12) (N := 76) hx hb htw inlX12 tyX12 tyX12_ok nmX12 hown hK hP hD hS 0 rfl rfl 10 (by decide) (htw _ (ck_24 _ (List.mem_of_getElem? (i := 18) rfl))) (fun _ h9 => h9) rfl (tyX12_ok 10 (by decide)) rfl rfl (Nat.le_of_ble_eq_true rfl) dX12_token_57 (fun H locs hP hD hS => ?_)
    have hP : va_P (dC, dI) vwCl [(mq, .inr (12, mF (upd (upd g 7 m_next_ax) 10 m_next_ax) gl rf)), (eA0 (rf 0) (ck 0) 900 f_tape), (eA0 (rf 3) (ck 3) 118 f_words)] H := hP
    have hD : va_D A [(mq, .inr (12, mF (upd (upd g 7 m_next_ax) 10 m_next_ax) gl rf)), (eA0 (rf 0) (ck 0) 900 f_tape), (eA0 (rf 3) (ck 3) 118 f_words)] := hD
    refine lv_aload_n hx hb dX12_token_60 rfl (lv_at hl 0 rfl) ?_
    refine va_get (D := (dC, dI)) (ci := 12) (v := .int m_next_ax) (C := RX12) (T := TX12) (N := 76) hx hb htw inlX12 hown hK hP 0 rfl rfl 7 (by decide) (htw _ (ck_24 _ (List.mem_of_getElem? (i := 12) rfl))) (fun _ h9 => h9) rfl dX12_token_61 ?_
    refine lv_aload_n hx hb dX12_token_64 rfl (lv_at hl 0 rfl) ?_
    refine va_get (D := (dC, dI)) (ci := 12) (v := .int (g 6)) (C := RX12) (T := TX12) (N := 76) hx hb htw inlX12 hown hK hP 0 rfl rfl 6 (by decide) (htw _ (ck_24 _ (List.mem_of_getElem? (i := 10) rfl))) (fun _ h9 => h9) rfl dX12_token_65 ?_
    refine lv_icmp_ne (tgt := 79) hx hb dX12_token_68 (by decide) (fun c_3 => ?_) (fun c_3 => ?_)
    · refine lv_aload_n hx hb dX12_token_79 rfl (lv_at hl 0 rfl) ?_
      refine lv_aload_n hx hb dX12_token_80 rfl (lv_at hl 0 rfl) ?_
      refine va_get (D := (dC, dI)) (ci := 12) (v := .int m_next_ax) (C := RX12) (T := TX12) (N := 76) hx hb htw inlX12 hown hK hP 0 rfl rfl 7 (by decide) (htw _ (ck_24 _ (List.mem_of_getElem? (i := 12) rfl))) (fun _ h9 => h9) rfl dX12_token_81 ?_
      have hPc := hP.sub (ws' := [(mq, .inr (12, mF (upd (upd g 7 m_next_ax) 10 m_next_ax) gl rf)), (eA0 (rf 0) (ck 0) 900 f_tape)]) [0, 1] rfl
      have hKc := hK.sub (tys' := [((ck 0), .int)]) [0] rfl
      refine vp_callSi (W.runV (As := [.int m_next_ax]) (rest := []) ⟨hx, hb, hml, hown, htw⟩ (gq_isSmall l dC dI mq (upd (upd g 7 m_next_ax) 10 m_next_ax) gl rf ck f_tape m_next_ax hx0a hs9) (cwV 1 htw (xg_V (ck_24 _ (List.mem_of_getElem? (i := 21) rfl)) (ck_24 _ (List.mem_of_getElem? (i := 22) rfl)) (ck_24 _ (List.mem_of_getElem? (i := 23) rfl)) (ck_1 _ (List.mem_of_getElem? (i := 5) rfl)) (ck_25 _ (List.mem_of_getElem? (i := 0) rfl))) rfl rfl rfl (by exact ⟨rfl, hdc_14.1, hdc_14.2, hdd_26⟩) ⟨Nat.le_of_ble_eq_true rfl, Nat.le_of_ble_eq_true rfl⟩) ⟨fun a U g mk q => by obtain ⟨q0, qP, qK⟩ := q; exact ⟨q0, qP, va_K.moved (u := U) (U := U.calling g mk a) (Vm.Alike.refl U.vm) qK⟩, va_recv hKc hPc (ci := 12) (q0 := 0) rfl rfl, fun U hU hW => ⟨rfl, by rw [hU]; exact hPc, va_K.moved hW.alike hKc⟩⟩ rfl rfl hl.1 rfl (lv_room (Nat.le_of_ble_eq_true rfl)) dX12_token_84 ⟨Nat.le_of_ble_eq_true rfl, Nat.le_of_ble_eq_true rfl⟩) (fun r_4 hw => ?_)
      try dsimp only at hw
      obtain ⟨hw, hb_r_4⟩ := hw
      have hq_r_4 : r_4 = (fq_isSmall f_tape m_next_ax (g 6)) := hw
      refine lv_if_eq (tgt := 192) hx hb dX12_token_87 (by decide) (fun c_5 => ?_) (fun c_5 => ?_)
      · refine lv_aload_n hx hb dX12_token_192 rfl (lv_at hl 0 rfl) ?_
        refine lv_aload_n hx hb dX12_token_193 rfl (lv_at hl 0 rfl) ?_
        refine va_get (D := (dC, dI)) (ci := 12) (v := .int m_next_ax) (C := RX12) (T := TX12) (N := 76) hx hb htw inlX12 hown hK hP 0 rfl rfl 7 (by decide) (htw _ (ck_24 _ (List.mem_of_getElem? (i := 12) rfl))) (fun _ h9 => h9) rfl dX12_token_194 ?_
        have hPc := hP.sub (ws' := [(mq, .inr (12, mF (upd (upd g 7 m_next_ax) 10 m_next_ax) gl rf)), (eA0 (rf 0) (ck 0) 900 f_tape)]) [0, 1] rfl
        have hKc := hK.sub (tys' := [((ck 0), .int)]) [0] rfl
        refine vp_callSi (W.runV (As := [.int m_next_ax]) (rest := []) ⟨hx, hb, hml, hown, htw⟩ (gq_isDigit l dC dI mq (upd (upd g 7 m_next_ax) 10 m_next_ax) gl rf ck f_tape m_next_ax hx0a hs9) (cwV 1 htw (xg_V (ck_25 _ (List.mem_of_getElem? (i := 9) rfl)) (ck_25 _ (List.mem_of_getElem? (i := 10) rfl)) (ck_25 _ (List.mem_of_getElem? (i := 11) rfl)) (ck_1 _ (List.mem_of_getElem? (i := 5) rfl)) (ck_25 _ (List.mem_of_getElem? (i := 12) rfl))) rfl rfl rfl (by exact ⟨rfl, hdc_14.1, hdc_14.2, hdd_26⟩) ⟨Nat.le_of_ble_eq_true rfl, Nat.le_of_ble_eq_true rfl⟩) ⟨fun a U g mk q => by obtain ⟨q0, qP, qK⟩ := q; exact ⟨q0, qP, va_K.moved (u := U) (U := U.calling g mk a) (Vm.Alike.refl U.vm) qK⟩, va_recv hKc hPc (ci := 12) (q0 := 0) rfl rfl, fun U hU hW => ⟨rfl, by rw [hU]; exact hPc, va_K.moved hW.alike hKc⟩⟩ rfl rfl hl.1 rfl (lv_room (Nat.le_of_ble_eq_true rfl)) dX12_token_197 ⟨Nat.le_of_ble_eq_true rfl, Nat.le_of_ble_eq_true rfl⟩) (fun r_6 hw => ?_)
        try dsimp only at hw
        obtain ⟨hw, hb_r_6⟩ := hw
        have hq_r_6 : r_6 = (fq_isDigit f_tape m_next_ax (g 6)) := hw
        refine lv_if_eq (tgt := 277) hx hb dX12_token_200 (by decide) (fun c_7 => ?_) (fun c_7 => ?_)
        · refine lv_aload_n hx hb dX12_token_277 rfl (lv_at hl 0 rfl) ?_
          obtain ⟨hPc, hDc, hFc, hCc⟩ := zsub3 (ws' := [(mq, .inr (12, mF (upd (upd g 7 m_next_ax) 10 m_next_ax) gl rf)), (eA0 (rf 0) (ck 0) 900 f_tape)]) hP hD hS hA [0, 1] (by decide) rfl
          have hKc := hK.sub (tys' := [((ck 0), .int)]) [0] rfl
          refine va_callv (va_runV (As := []) (rest := []) ⟨hx, hb, hml, hown, htw⟩ (gy_signToken l dC dI mq (upd (upd g 7 m_next_ax) 10 m_next_ax) gl rf ck f_tape H.size hx0a hs9 (gy_token_s0 (y0 := m_next_ax) (y1 := g 6) c_3 hx1a)) (cwV 0 htw (xg_V (ck_25 _ (List.mem_of_getElem? (i := 13) rfl)) (ck_25 _ (List.mem_of_getElem? (i := 14) rfl)) (ck_25 _ (List.mem_of_getElem? (i := 15) rfl)) (ck_1 _ (List.mem_of_getElem? (i := 5) rfl)) (ck_25 _ (List.mem_of_getElem? (i := 16) rfl))) rfl rfl rfl (by exact ⟨rfl, hdc_14.1, hdc_14.2, hdd_13⟩) ⟨Nat.le_of_ble_eq_true rfl, Nat.le_of_ble_eq_true rfl⟩) ⟨fun a U g mk q => by obtain ⟨q0, q1, qP, qK, qD⟩ := q; exact ⟨q0, q1, qP, va_K.moved (u := U) (U := U.calling g mk a) (Vm.Alike.refl U.vm) qK, qD⟩, va_recv hKc hPc (ci := 12) (q0 := 0) rfl rfl, fun U hU hW => ⟨rfl, by rw [hU], by rw [hU]; exact hPc, va_K.moved hW.alike hKc, hDc.weaken (fun _ _ _ _ => trivial)⟩⟩ rfl rfl hl.1 rfl (lv_room (Nat.le_of_ble_eq_true rfl)) dX12_token_278 ⟨Nat.le_of_ble_eq_true rfl, Nat.le_of_ble_eq_true rfl⟩) hS (fun q _ h => hFc q h) hFc (fun u_9 t H1 locs ht hvm hw hB hz1 hk1 hS => ?_)
          try dsimp only at hw
          obtain ⟨hP1, hK1, hD1⟩ := hB
          rw [ht] at hP1
          have hK1 := va_K.moved hvm.symm hK1
          have hK1 : va_K (dC, dI) vwCl [] s := hK1
          obtain ⟨hP, hD⟩ := va_join (wr := [(eA0 (rf 3) (ck 3) 118 f_words)]) (w1 := [(mq, .inr (12, mF (upd (upd (upd (upd g 7 u_9.1) 8 u_9.2.1) 9 u_9.2.2) 10 m_next_ax) gl rf)), (eA0 (rf 0) (ck 0) 900 f_tape)]) hP hD [0, 1] [2] hCc rfl (by decide) (by decide) hk1 hFc hP1 hD1
          generalize H1 = H at hP hS ⊢
          have hP : va_P (dC, dI) vwCl [(eA0 (rf 3) (ck 3) 118 f_words), (mq, .inr (12, mF (upd (upd (upd (upd g 7 u_9.1) 8 u_9.2.1) 9 u_9.2.2) 10 m_next_ax) gl rf)), (eA0 (rf 0) (ck 0) 900 f_tape)] H := hP
          have hD : va_D A [(eA0 (rf 3) (ck 3) 118 f_words), (mq, .inr (12, mF (upd (upd (upd (upd g 7 u_9.1) 8 u_9.2.1) 9 u_9.2.2) 10 m_next_ax) gl rf)), (eA0 (rf 0) (ck 0) 900 f_tape)] := hD
          refine W.widen (k := 0) (n := 0) (by omega) (by omega) ?_
          obtain ⟨hw, hp_13, hp_14, hp_15⟩ := hw
          have hq_u_9 : u_9 = (fq_signToken f_tape (g 6) m_next_ax) := hw
          refine W.widen (k := 0) (n := 0) (by omega) (by omega) ?_
          obtain ⟨hP9, hD9⟩ := zsub2 (ws' := [(mq, .inr (12, mF (upd (upd (upd (upd g 7 u_9.1) 8 u_9.2.1) 9 u_9.2.2) 10 m_next_ax) gl rf)), (eA0 (rf 0) (ck 0) 900 f_tape), (eA0 (rf 3) (ck 3) 118 f_words)]) hP hD [1, 2, 0] (by decide) rfl
          have hK9 := hK.sub (tys' := []) [] rfl
          exact W.vret hx hb hr (fun t ht hW => ⟨⟨(u_9.1, u_9.2.1, u_9.2.2, m_next_ax), rfl, ⟨(Eq.symm ((by rw [fq_token]; (try rw [← hX_1]); (try rw [xL_eq]); (try rw [← hq_m_next_ax]); (try rw [if_neg c_3]); (try rw [← hq_r_4]); (try rw [xL_eq]); (try rw [if_pos c_5]); (try rw [← hq_r_6]); (try rw [xL_eq]); (try rw [if_pos c_7]); (try rw [← hq_u_9]); (try rw [xL_eq]); try rfl))), hp_13, hp_14, hp_15⟩, by rw [ht]; exact hP9, va_K.moved hW.alike hK9, hD9⟩, hS.F ht⟩) hS.2.2 dX12_token_281
        · refine lv_aload_n hx hb dX12_token_203 rfl (lv_at hl 0 rfl) ?_
          refine lv_iconst (v := 3) hx hb dX12_token_204 (by decide) ?_
          refine va_put (D := (dC, dI)) (ci := 12) (v := .int 3) (ty := tyX12 8) (C := RX12) (T := TX12) (N := 76) hx hb htw inlX12 tyX12 tyX12_ok nmX12 hown hK hP hD hS 0 rfl rfl 8 (by decide) (htw _ (ck_24 _ (List.mem_of_getElem? (i := 13) rfl))) (fun _ h9 => h9) rfl (tyX12_ok 8 (by decide)) rfl rfl (Nat.le_of_ble_eq_true rfl) dX12_token_205 (fun H locs hP hD hS => ?_)
          have hP : va_P (dC, dI) vwCl [(mq, .inr (12, mF (upd (upd (upd g 7 m_next_ax) 8 3) 10 m_next_ax) gl rf)), (eA0 (rf 0) (ck 0) 900 f_tape), (eA0 (rf 3) (ck 3) 118 f_words)] H := hP
          have hD : va_D A [(mq, .inr (12, mF (upd (upd (upd g 7 m_next_ax) 8 3) 10 m_next_ax) gl rf)), (eA0 (rf 0) (ck 0) 900 f_tape), (eA0 (rf 3) (ck 3) 118 f_words)] := hD
          refine lv_aload_n hx hb dX12_token_208 rfl (lv_at hl 0 rfl) ?_
          refine lv_iconst (v := 0) hx hb dX12_token_209 (by decide) ?_
          refine va_put (D := (dC, dI)) (ci := 12) (v := .int 0) (ty := tyX12 9) (C := RX12) (T := TX12) (N := 76) hx hb htw inlX12 tyX12 tyX12_ok nmX12 hown hK hP hD hS 0 rfl rfl 9 (by decide) (htw _ (ck_24 _ (List.mem_of_getElem? (i := 19) rfl))) (fun _ h9 => h9) rfl (tyX12_ok 9 (by decide)) rfl rfl (Nat.le_of_ble_eq_true rfl) dX12_token_210 (fun H locs hP hD hS => ?_)
          have hP : va_P (dC, dI) vwCl [(mq, .inr (12, mF (upd (upd (upd (upd g 7 m_next_ax) 8 3) 9 0) 10 m_next_ax) gl rf)), (eA0 (rf 0) (ck 0) 900 f_tape), (eA0 (rf 3) (ck 3) 118 f_words)] H := hP
          have hD : va_D A [(mq, .inr (12, mF (upd (upd (upd (upd g 7 m_next_ax) 8 3) 9 0) 10 m_next_ax) gl rf)), (eA0 (rf 0) (ck 0) 900 f_tape), (eA0 (rf 3) (ck 3) 118 f_words)] := hD
          have hloop_16 : ∀ (n : Nat) (m_next_d : Int32) (m_which_d : Int32) (m_at_d : Int32) (h0d : ¬ m_next_d < 0) (h1d : m_next_d ≤ (g 6)) (hfd : (g 6).toInt ≤ m_next_d.toInt + (n : Int)) (hI_d : fq_token f_tape f_words (g 6) (g 7) (g 9) = fq_token_d f_tape (g 6) n m_next_d m_which_d m_at_d) (H : Heap) (locs : List Loc) (ls : Array Slot) (hP : va_P (dC, dI) vwCl [(mq, .inr (12, mF (upd (upd (upd (upd g 7 m_next_d) 8 3) 9 m_which_d) 10 m_at_d) gl rf)), (eA0 (rf 0) (ck 0) 900 f_tape), (eA0 (rf 3) (ck 3) 118 f_words)] H) (hD : va_D A [(mq, .inr (12, mF (upd (upd (upd (upd g 7 m_next_d) 8 3) 9 m_which_d) 10 m_at_d) gl rf)), (eA0 (rf 0) (ck 0) 900 f_tape), (eA0 (rf 3) (ck 3) 118 f_words)]) (hS : va_S A s.heap H locs) (hl : lv_has ls 1 [(0, .ref mq)]), W p l e (headSpec (Cond.code yX12_token cX12_token 1 none :: wsL_law) ({ frames := 1, cells := 0, slots := 0, locals := 27 })).room s m ([.ref mq] : List Value).toArray below meth c H locs 0 0 (MQ below (va_Qv (fun (u : (Int32) × (Int32) × (Int32) × (Int32)) => (u = fq_token f_tape f_words (g 6) (g 7) (g 9)) ∧ (¬ u.1 < 0) ∧ (u.1 ≤ (g 6)) ∧ (xC u.2.1 u.2.2.1)) (fun (u : (Int32) × (Int32) × (Int32) × (Int32)) t => va_P (dC, dI) vwCl [(mq, .inr (12, mF (upd (upd (upd (upd g 7 u.1) 8 u.2.1) 9 u.2.2.1) 10 u.2.2.2) gl rf)), (eA0 (rf 0) (ck 0) 900 f_tape), (eA0 (rf 3) (ck 3) 118 f_words)] t.heap ∧ va_K (dC, dI) vwCl [] t ∧ va_D A [(mq, .inr (12, mF (upd (upd (upd (upd g 7 u.1) 8 u.2.1) 9 u.2.2.1) 10 u.2.2.2) gl rf)), (eA0 (rf 0) (ck 0) 900 f_tape), (eA0 (rf 3) (ck 3) 118 f_words)]) A) ([.ref mq] : List Value).toArray s 0 0 A) (F0 m 213 ls []) := by
            intro n
            induction n with
            | zero =>
              intro m_next_d m_which_d m_at_d h0d h1d hfd hI_d H locs ls hP hD hS hl
              refine lv_aload_n hx hb dX12_token_213 rfl (lv_at hl 0 rfl) ?_
              refine lv_aload_n hx hb dX12_token_214 rfl (lv_at hl 0 rfl) ?_
              refine va_get (D := (dC, dI)) (ci := 12) (v := .int m_next_d) (C := RX12) (T := TX12) (N := 76) hx hb htw inlX12 hown hK hP 0 rfl rfl 7 (by decide) (htw _ (ck_24 _ (List.mem_of_getElem? (i := 12) rfl))) (fun _ h9 => h9) rfl dX12_token_215 ?_
              have hPc := hP.sub (ws' := [(mq, .inr (12, mF (upd (upd (upd (upd g 7 m_next_d) 8 3) 9 m_which_d) 10 m_at_d) gl rf)), (eA0 (rf 0) (ck 0) 900 f_tape)]) [0, 1] rfl
              have hKc := hK.sub (tys' := [((ck 0), .int)]) [0] rfl
              refine vp_callSi (W.runV (As := [.int m_next_d]) (rest := []) ⟨hx, hb, hml, hown, htw⟩ (gq_isDigit l dC dI mq (upd (upd (upd (upd g 7 m_next_d) 8 3) 9 m_which_d) 10 m_at_d) gl rf ck f_tape m_next_d h0d hs9) (cwV 1 htw (xg_V (ck_25 _ (List.mem_of_getElem? (i := 9) rfl)) (ck_25 _ (List.mem_of_getElem? (i := 10) rfl)) (ck_25 _ (List.mem_of_getElem? (i := 11) rfl)) (ck_1 _ (List.mem_of_getElem? (i := 5) rfl)) (ck_25 _ (List.mem_of_getElem? (i := 12) rfl))) rfl rfl rfl (by exact ⟨rfl, hdc_14.1, hdc_14.2, hdd_26⟩) ⟨Nat.le_of_ble_eq_true rfl, Nat.le_of_ble_eq_true rfl⟩) ⟨fun a U g mk q => by obtain ⟨q0, qP, qK⟩ := q; exact ⟨q0, qP, va_K.moved (u := U) (U := U.calling g mk a) (Vm.Alike.refl U.vm) qK⟩, va_recv hKc hPc (ci := 12) (q0 := 0) rfl rfl, fun U hU hW => ⟨rfl, by rw [hU]; exact hPc, va_K.moved hW.alike hKc⟩⟩ rfl rfl hl.1 rfl (lv_room (Nat.le_of_ble_eq_true rfl)) dX12_token_218 ⟨Nat.le_of_ble_eq_true rfl, Nat.le_of_ble_eq_true rfl⟩) (fun r_17 hw => ?_)
              try dsimp only at hw
              obtain ⟨hw, hb_r_17⟩ := hw
              have hq_r_17 : r_17 = (fq_isDigit f_tape m_next_d (g 6)) := hw
              refine lv_if_eq (tgt := 281) hx hb dX12_token_221 (by decide) (fun c_18 => ?_) (fun c_18 => absurd c_18 (fun h => h (by rw [hq_r_17]; exact if_pos (xi_z hfd))))
              refine W.widen (k := 0) (n := 0) (by omega) (by omega) ?_
              obtain ⟨hP9, hD9⟩ := zsub2 (ws' := [(mq, .inr (12, mF (upd (upd (upd (upd g 7 m_next_d) 8 3) 9 m_which_d) 10 m_at_d) gl rf)), (eA0 (rf 0) (ck 0) 900 f_tape), (eA0 (rf 3) (ck 3) 118 f_words)]) hP hD [0, 1, 2] (by decide) rfl
              have hK9 := hK.sub (tys' := []) [] rfl
              exact W.vret hx hb hr (fun t ht hW => ⟨⟨(m_next_d, 3, m_which_d, m_at_d), rfl, ⟨(Eq.symm (hI_d.trans (by rw [fq_token_d]; (try rw [← hq_r_17]); (try rw [xL_eq]); try rfl))), h0d, h1d, (fun h9 => absurd h9 (show ¬ (3 : Int32) = 5 by decide))⟩, by rw [ht]; exact hP9, va_K.moved hW.alike hK9, hD9⟩, hS.F ht⟩) hS.2.2 dX12_token_281
            | succ n ih =>
              intro m_next_d m_which_d m_at_d h0d h1d hfd hI_d H locs ls hP hD hS hl
              refine lv_aload_n hx hb dX12_token_213 rfl (lv_at hl 0 rfl) ?_
              refine lv_aload_n hx hb dX12_token_214 rfl (lv_at hl 0 rfl) ?_
              refine va_get (D := (dC, dI)) (ci := 12) (v := .int m_next_d) (C := RX12) (T := TX12) (N := 76) hx hb htw inlX12 hown hK hP 0 rfl rfl 7 (by decide) (htw _ (ck_24 _ (List.mem_of_getElem? (i := 12) rfl))) (fun _ h9 => h9) rfl dX12_token_215 ?_
              have hPc := hP.sub (ws' := [(mq, .inr (12, mF (upd (upd (upd (upd g 7 m_next_d) 8 3) 9 m_which_d) 10 m_at_d) gl rf)), (eA0 (rf 0) (ck 0) 900 f_tape)]) [0, 1] rfl
              have hKc := hK.sub (tys' := [((ck 0), .int)]) [0] rfl
              refine vp_callSi (W.runV (As := [.int m_next_d]) (rest := []) ⟨hx, hb, hml, hown, htw⟩ (gq_isDigit l dC dI mq (upd (upd (upd (upd g 7 m_next_d) 8 3) 9 m_which_d) 10 m_at_d) gl rf ck f_tape m_next_d h0d hs9) (cwV 1 htw (xg_V (ck_25 _ (List.mem_of_getElem? (i := 9) rfl)) (ck_25 _ (List.mem_of_getElem? (i := 10) rfl)) (ck_25 _ (List.mem_of_getElem? (i := 11) rfl)) (ck_1 _ (List.mem_of_getElem? (i := 5) rfl)) (ck_25 _ (List.mem_of_getElem? (i := 12) rfl))) rfl rfl rfl (by exact ⟨rfl, hdc_14.1, hdc_14.2, hdd_26⟩) ⟨Nat.le_of_ble_eq_true rfl, Nat.le_of_ble_eq_true rfl⟩) ⟨fun a U g mk q => by obtain ⟨q0, qP, qK⟩ := q; exact ⟨q0, qP, va_K.moved (u := U) (U := U.calling g mk a) (Vm.Alike.refl U.vm) qK⟩, va_recv hKc hPc (ci := 12) (q0 := 0) rfl rfl, fun U hU hW => ⟨rfl, by rw [hU]; exact hPc, va_K.moved hW.alike hKc⟩⟩ rfl rfl hl.1 rfl (lv_room (Nat.le_of_ble_eq_true rfl)) dX12_token_218 ⟨Nat.le_of_ble_eq_true rfl, Nat.le_of_ble_eq_true rfl⟩) (fun r_19 hw => ?_)
              try dsimp only at hw
              obtain ⟨hw, hb_r_19⟩ := hw
              have hq_r_19 : r_19 = (fq_isDigit f_tape m_next_d (g 6)) := hw
              refine lv_if_eq (tgt := 281) hx hb dX12_token_221 (by decide) (fun c_20 => ?_) (fun c_20 => ?_)
              · refine W.widen (k := 0) (n := 0) (by omega) (by omega) ?_
                obtain ⟨hP9, hD9⟩ := zsub2 (ws' := [(mq, .inr (12, mF (upd (upd (upd (upd g 7 m_next_d) 8 3) 9 m_which_d) 10 m_at_d) gl rf)), (eA0 (rf 0) (ck 0) 900 f_tape), (eA0 (rf 3) (ck 3) 118 f_words)]) hP hD [0, 1, 2] (by decide) rfl
                have hK9 := hK.sub (tys' := []) [] rfl
                exact W.vret hx hb hr (fun t ht hW => ⟨⟨(m_next_d, 3, m_which_d, m_at_d), rfl, ⟨(Eq.symm (hI_d.trans (by rw [fq_token_d]; (try rw [← hq_r_19]); (try rw [xL_eq]); (try rw [if_pos c_20]); try rfl))), h0d, h1d, (fun h9 => absurd h9 (show ¬ (3 : Int32) = 5 by decide))⟩, by rw [ht]; exact hP9, va_K.moved hW.alike hK9, hD9⟩, hS.F ht⟩) hS.2.2 dX12_token_281
              · refine lv_aload_n hx hb dX12_token_224 rfl (lv_at hl 0 rfl) ?_
                refine lv_aload_n hx hb dX12_token_225 rfl (lv_at hl 0 rfl) ?_
                refine va_get (D := (dC, dI)) (ci := 12) (v := .int m_which_d) (C := RX12) (T := TX12) (N := 76) hx hb htw inlX12 hown hK hP 0 rfl rfl 9 (by decide) (htw _ (ck_24 _ (List.mem_of_getElem? (i := 19) rfl))) (fun _ h9 => h9) rfl dX12_token_226 ?_
                refine lv_ldc (v := 99999) hx hb hown (htw _ (ck_24 _ (List.mem_of_getElem? (i := 20) rfl))) dX12_token_229 ?_
                obtain ⟨X_21, hX_21⟩ : ∃ X9 : (Int32), X9 = fq_token_f f_tape m_next_d m_which_d := ⟨_, rfl⟩
                have hjoin_22 : ∀ (S0f : Int32)  (hE9 : X_21 = S0f) (H : Heap) (locs : List Loc) (ls : Array Slot) (hP : va_P (dC, dI) vwCl [(mq, .inr (12, mF (upd (upd (upd (upd g 7 m_next_d) 8 3) 9 m_which_d) 10 m_at_d) gl rf)), (eA0 (rf 0) (ck 0) 900 f_tape), (eA0 (rf 3) (ck 3) 118 f_words)] H) (hD : va_D A [(mq, .inr (12, mF (upd (upd (upd (upd g 7 m_next_d) 8 3) 9 m_which_d) 10 m_at_d) gl rf)), (eA0 (rf 0) (ck 0) 900 f_tape), (eA0 (rf 3) (ck 3) 118 f_words)]) (hS : va_S A s.heap H locs) (hl : lv_has ls 1 [(0, .ref mq)]), W p l e (headSpec (Cond.code yX12_token cX12_token 1 none :: wsL_law) ({ frames := 1, cells := 0, slots := 0, locals := 27 })).room s m ([.ref mq] : List Value).toArray below meth c H locs 0 0 (MQ below (va_Qv (fun (u : (Int32) × (Int32) × (Int32) × (Int32)) => (u = fq_token f_tape f_words (g 6) (g 7) (g 9)) ∧ (¬ u.1 < 0) ∧ (u.1 ≤ (g 6)) ∧ (xC u.2.1 u.2.2.1)) (fun (u : (Int32) × (Int32) × (Int32) × (Int32)) t => va_P (dC, dI) vwCl [(mq, .inr (12, mF (upd (upd (upd (upd g 7 u.1) 8 u.2.1) 9 u.2.2.1) 10 u.2.2.2) gl rf)), (eA0 (rf 0) (ck 0) 900 f_tape), (eA0 (rf 3) (ck 3) 118 f_words)] t.heap ∧ va_K (dC, dI) vwCl [] t ∧ va_D A [(mq, .inr (12, mF (upd (upd (upd (upd g 7 u.1) 8 u.2.1) 9 u.2.2.1) 10 u.2.2.2) gl rf)), (eA0 (rf 0) (ck 0) 900 f_tape), (eA0 (rf 3) (ck 3) 118 f_words)]) A) ([.ref mq] : List Value).toArray s 0 0 A) (F0 m 261 ls [.int S0f, .ref mq]) := by
                  intro S0f  hE9 H locs ls hP hD hS hl
                  have hq_S0f : S0f = X_21 := by rw [hE9]
                  refine va_put (D := (dC, dI)) (ci := 12) (v := .int S0f) (ty := tyX12 9) (C := RX12) (T := TX12) (N := 76) hx hb htw inlX12 tyX12 tyX12_ok nmX12 hown hK hP hD hS 0 rfl rfl 9 (by decide) (htw _ (ck_24 _ (List.mem_of_getElem? (i := 19) rfl))) (fun _ h9 => h9) rfl (tyX12_ok 9 (by decide)) rfl rfl (Nat.le_of_ble_eq_true rfl) dX12_token_261 (fun H locs hP hD hS => ?_)
                  have hP : va_P (dC, dI) vwCl [(mq, .inr (12, mF (upd (upd (upd (upd g 7 m_next_d) 8 3) 9 S0f) 10 m_at_d) gl rf)), (eA0 (rf 0) (ck 0) 900 f_tape), (eA0 (rf 3) (ck 3) 118 f_words)] H := hP
                  have hD : va_D A [(mq, .inr (12, mF (upd (upd (upd (upd g 7 m_next_d) 8 3) 9 S0f) 10 m_at_d) gl rf)), (eA0 (rf 0) (ck 0) 900 f_tape), (eA0 (rf 3) (ck 3) 118 f_words)] := hD
                  refine lv_aload_n hx hb dX12_token_264 rfl (lv_at hl 0 rfl) ?_
                  refine lv_dup hx hb dX12_token_265 rfl ?_
                  refine va_get (D := (dC, dI)) (ci := 12) (v := .int m_next_d) (C := RX12) (T := TX12) (N := 76) hx hb htw inlX12 hown hK hP 0 rfl rfl 7 (by decide) (htw _ (ck_24 _ (List.mem_of_getElem? (i := 12) rfl))) (fun _ h9 => h9) rfl dX12_token_266 ?_
                  refine lv_iconst (v := 1) hx hb dX12_token_269 (by decide) ?_
                  refine lv_iadd hx hb dX12_token_270 ?_
                  refine va_put (D := (dC, dI)) (ci := 12) (v := .int (m_next_d + 1)) (ty := tyX12 7) (C := RX12) (T := TX12) (N := 76) hx hb htw inlX12 tyX12 tyX12_ok nmX12 hown hK hP hD hS 0 rfl rfl 7 (by decide) (htw _ (ck_24 _ (List.mem_of_getElem? (i := 12) rfl))) (fun _ h9 => h9) rfl (tyX12_ok 7 (by decide)) rfl rfl (Nat.le_of_ble_eq_true rfl) dX12_token_271 (fun H locs hP hD hS => ?_)
                  have hP : va_P (dC, dI) vwCl [(mq, .inr (12, mF (upd (upd (upd (upd g 7 (m_next_d + 1)) 8 3) 9 S0f) 10 m_at_d) gl rf)), (eA0 (rf 0) (ck 0) 900 f_tape), (eA0 (rf 3) (ck 3) 118 f_words)] H := hP
                  have hD : va_D A [(mq, .inr (12, mF (upd (upd (upd (upd g 7 (m_next_d + 1)) 8 3) 9 S0f) 10 m_at_d) gl rf)), (eA0 (rf 0) (ck 0) 900 f_tape), (eA0 (rf 3) (ck 3) 118 f_words)] := hD
                  refine lv_goto (tgt := 213) hx hb dX12_token_274 (by decide) ?_
                  exact ih (m_next_d + 1) S0f m_at_d (gy_token_s1 (y0 := m_next_d) (y1 := g 6) h0d (fq_digit hq_r_19 c_20)) (gy_token_s2 (y0 := m_next_d) (y1 := g 6) (fq_digit hq_r_19 c_20)) (by rw [xi_s (b := 900) (gy_token_s3 (y0 := m_next_d) (y1 := g 6) hs9 (fq_digit hq_r_19 c_20))]; omega) (hI_d.trans (by rw [fq_token_d]; (try rw [← hq_r_19]); (try rw [xL_eq]); (try rw [if_neg c_20]); (try rw [← hX_21]); (try rw [xL_eq]); (try rw [← hq_S0f]); try rfl)) H locs ls hP hD hS (lv_sub hl [0] rfl)
                refine lv_icmp_le (tgt := 241) hx hb dX12_token_231 (by decide) (fun c_23 => ?_) (fun c_23 => ?_)
                · refine lv_bipush (v := 10) hx hb dX12_token_241 (by decide) ?_
                  refine lv_aload_n hx hb dX12_token_243 rfl (lv_at hl 0 rfl) ?_
                  refine va_get (D := (dC, dI)) (ci := 12) (v := .int m_which_d) (C := RX12) (T := TX12) (N := 76) hx hb htw inlX12 hown hK hP 0 rfl rfl 9 (by decide) (htw _ (ck_24 _ (List.mem_of_getElem? (i := 19) rfl))) (fun _ h9 => h9) rfl dX12_token_244 ?_
                  refine lv_imul hx hb dX12_token_247 ?_
                  refine lv_aload_n hx hb dX12_token_248 rfl (lv_at hl 0 rfl) ?_
                  refine va_get (D := (dC, dI)) (ci := 12) (v := .ref (rf 0)) (C := RX12) (T := TX12) (N := 76) hx hb htw inlX12 hown hK hP 0 rfl rfl 0 (by decide) (htw _ (ck_9 _ (List.mem_of_getElem? (i := 4) rfl))) (fun _ h9 => h9) rfl dX12_token_249 ?_
                  refine lv_aload_n hx hb dX12_token_252 rfl (lv_at hl 0 rfl) ?_
                  refine va_get (D := (dC, dI)) (ci := 12) (v := .int m_next_d) (C := RX12) (T := TX12) (N := 76) hx hb htw inlX12 hown hK hP 0 rfl rfl 7 (by decide) (htw _ (ck_24 _ (List.mem_of_getElem? (i := 12) rfl))) (fun _ h9 => h9) rfl dX12_token_253 ?_
                  refine va_iald hx hb hK hP 1 0 rfl rfl (xg_inr (N := 900) rfl (gy_token_s4 (y0 := m_next_d) (y1 := g 6) h0d hs9 (fq_digit hq_r_19 c_20)).1 (gy_token_s4 (y0 := m_next_d) (y1 := g 6) h0d hs9 (fq_digit hq_r_19 c_20)).2) dX12_token_256 ?_
                  refine lv_iadd hx hb dX12_token_257 ?_
                  refine lv_bipush (v := 48) hx hb dX12_token_258 (by decide) ?_
                  refine lv_isub hx hb dX12_token_260 ?_
                  exact hjoin_22 (((10 * m_which_d) + (f_tape m_next_d.toNatClampNeg)) - 48)  (hX_21.trans (by rw [fq_token_f]; (try rw [if_pos c_23]); try rfl)) _ _ ls hP hD hS (lv_sub hl [0] rfl)
                · refine lv_aload_n hx hb dX12_token_234 rfl (lv_at hl 0 rfl) ?_
                  refine va_get (D := (dC, dI)) (ci := 12) (v := .int m_which_d) (C := RX12) (T := TX12) (N := 76) hx hb htw inlX12 hown hK hP 0 rfl rfl 9 (by decide) (htw _ (ck_24 _ (List.mem_of_getElem? (i := 19) rfl))) (fun _ h9 => h9) rfl dX12_token_235 ?_
                  refine lv_goto (tgt := 261) hx hb dX12_token_238 (by decide) ?_
                  exact hjoin_22 m_which_d  (hX_21.trans (by rw [fq_token_f]; (try rw [if_neg c_23]); try rfl)) _ _ ls hP hD hS (lv_sub hl [0] rfl)
          exact hloop_16 900 m_next_ax (0 : Int32) m_next_ax hx0a hx1a (by have := xi_le hs9; have := xi_nn hx0a; have e9 : (900 : Int32).toInt = 900 := rfl; omega) ((by rw [fq_token]; (try rw [← hX_1]); (try rw [xL_eq]); (try rw [← hq_m_next_ax]); (try rw [if_neg c_3]); (try rw [← hq_r_4]); (try rw [xL_eq]); (try rw [if_pos c_5]); (try rw [← hq_r_6]); (try rw [xL_eq]); (try rw [if_neg c_7]); try rfl)) _ _ ls hP hD hS (lv_sub hl [0] rfl)
      · obtain ⟨X_24, hX_24⟩ : ∃ X9 : (Int32), X9 = fq_token_b f_tape (g 6) 900 m_next_ax := ⟨_, rfl⟩
        have hexit_25 : ∀ (m_next_bx : Int32) (hx2b : m_next_ax ≤ m_next_bx) (hx0b : ¬ m_next_bx < 0) (hx1b : m_next_bx ≤ (g 6)) (hE9 : X_24 = m_next_bx) (H : Heap) (locs : List Loc) (ls : Array Slot) (hP : va_P (dC, dI) vwCl [(mq, .inr (12, mF (upd (upd g 7 m_next_bx) 10 m_next_ax) gl rf)), (eA0 (rf 0) (ck 0) 900 f_tape), (eA0 (rf 3) (ck 3) 118 f_words)] H) (hD : va_D A [(mq, .inr (12, mF (upd (upd g 7 m_next_bx) 10 m_next_ax) gl rf)), (eA0 (rf 0) (ck 0) 900 f_tape), (eA0 (rf 3) (ck 3) 118 f_words)]) (hS : va_S A s.heap H locs) (hl : lv_has ls 1 [(0, .ref mq)]), W p l e (headSpec (Cond.code yX12_token cX12_token 1 none :: wsL_law) ({ frames := 1, cells := 0, slots := 0, locals := 27 })).room s m ([.ref mq] : List Value).toArray below meth c H locs 0 0 (MQ below (va_Qv (fun (u : (Int32) × (Int32) × (Int32) × (Int32)) => (u = fq_token f_tape f_words (g 6) (g 7) (g 9)) ∧ (¬ u.1 < 0) ∧ (u.1 ≤ (g 6)) ∧ (xC u.2.1 u.2.2.1)) (fun (u : (Int32) × (Int32) × (Int32) × (Int32)) t => va_P (dC, dI) vwCl [(mq, .inr (12, mF (upd (upd (upd (upd g 7 u.1) 8 u.2.1) 9 u.2.2.1) 10 u.2.2.2) gl rf)), (eA0 (rf 0) (ck 0) 900 f_tape), (eA0 (rf 3) (ck 3) 118 f_words)] t.heap ∧ va_K (dC, dI) vwCl [] t ∧ va_D A [(mq, .inr (12, mF (upd (upd (upd (upd g 7 u.1) 8 u.2.1) 9 u.2.2.1) 10 u.2.2.2) gl rf)), (eA0 (rf 0) (ck 0) 900 f_tape), (eA0 (rf 3) (ck 3) 118 f_words)]) A) ([.ref mq] : List Value).toArray s 0 0 A) (F0 m 114 ls []) := by
          intro m_next_bx hx2b hx0b hx1b hE9 H locs ls hP hD hS hl
          have hq_m_next_bx : m_next_bx = X_24 := by rw [hE9]
          refine lv_aload_n hx hb dX12_token_114 rfl (lv_at hl 0 rfl) ?_
          refine lv_aload_n hx hb dX12_token_115 rfl (lv_at hl 0 rfl) ?_
          refine lv_aload_n hx hb dX12_token_116 rfl (lv_at hl 0 rfl) ?_
          refine va_get (D := (dC, dI)) (ci := 12) (v := .int m_next_ax) (C := RX12) (T := TX12) (N := 76) hx hb htw inlX12 hown hK hP 0 rfl rfl 10 (by decide) (htw _ (ck_24 _ (List.mem_of_getElem? (i := 18) rfl))) (fun _ h9 => h9) rfl dX12_token_117 ?_
          refine lv_aload_n hx hb dX12_token_120 rfl (lv_at hl 0 rfl) ?_
          refine va_get (D := (dC, dI)) (ci := 12) (v := .int m_next_bx) (C := RX12) (T := TX12) (N := 76) hx hb htw inlX12 hown hK hP 0 rfl rfl 7 (by decide) (htw _ (ck_24 _ (List.mem_of_getElem? (i := 12) rfl))) (fun _ h9 => h9) rfl dX12_token_121 ?_
          have hPc := hP.sub (ws' := [(mq, .inr (12, mF (upd (upd g 7 m_next_bx) 10 m_next_ax) gl rf)), (eA0 (rf 0) (ck 0) 900 f_tape), (eA0 (rf 3) (ck 3) 118 f_words)]) [0, 1, 2] rfl
          have hKc := hK.sub (tys' := [((ck 0), .int), ((ck 3), .int)]) [0, 1] rfl
          refine vp_callSi (W.runV (As := [.int m_next_ax, .int m_next_bx]) (rest := [.ref mq]) ⟨hx, hb, hml, hown, htw⟩ (gq_wordAt l dC dI mq (upd (upd g 7 m_next_bx) 10 m_next_ax) gl rf ck f_tape f_words m_next_ax m_next_bx hx0a (gy_token_s5 (y0 := m_next_bx) (y1 := g 6) hx1b hs9) hx2b hw7) (cwV 2 htw (xg_V (ck_25 _ (List.mem_of_getElem? (i := 1) rfl)) (ck_25 _ (List.mem_of_getElem? (i := 2) rfl)) (ck_25 _ (List.mem_of_getElem? (i := 3) rfl)) (ck_1 _ (List.mem_of_getElem? (i := 5) rfl)) (ck_25 _ (List.mem_of_getElem? (i := 4) rfl))) rfl rfl rfl (by exact ⟨rfl, hdc_14.1, hdc_14.2, hdd_7⟩) ⟨Nat.le_of_ble_eq_true rfl, Nat.le_of_ble_eq_true rfl⟩) ⟨fun a U g mk q => by obtain ⟨q0, qP, qK⟩ := q; exact ⟨q0, qP, va_K.moved (u := U) (U := U.calling g mk a) (Vm.Alike.refl U.vm) qK⟩, va_recv hKc hPc (ci := 12) (q0 := 0) rfl rfl, fun U hU hW => ⟨rfl, by rw [hU]; exact hPc, va_K.moved hW.alike hKc⟩⟩ rfl rfl hl.1 rfl (lv_room (Nat.le_of_ble_eq_true rfl)) dX12_token_124 ⟨Nat.le_of_ble_eq_true rfl, Nat.le_of_ble_eq_true rfl⟩) (fun r_26 hw => ?_)
          try dsimp only at hw
          have hq_r_26 : r_26 = (fq_wordAt f_tape f_words m_next_ax m_next_bx) := hw
          refine va_put (D := (dC, dI)) (ci := 12) (v := .int r_26) (ty := tyX12 9) (C := RX12) (T := TX12) (N := 76) hx hb htw inlX12 tyX12 tyX12_ok nmX12 hown hK hP hD hS 0 rfl rfl 9 (by decide) (htw _ (ck_24 _ (List.mem_of_getElem? (i := 19) rfl))) (fun _ h9 => h9) rfl (tyX12_ok 9 (by decide)) rfl rfl (Nat.le_of_ble_eq_true rfl) dX12_token_127 (fun H locs hP hD hS => ?_)
          have hP : va_P (dC, dI) vwCl [(mq, .inr (12, mF (upd (upd (upd g 7 m_next_bx) 9 r_26) 10 m_next_ax) gl rf)), (eA0 (rf 0) (ck 0) 900 f_tape), (eA0 (rf 3) (ck 3) 118 f_words)] H := hP
          have hD : va_D A [(mq, .inr (12, mF (upd (upd (upd g 7 m_next_bx) 9 r_26) 10 m_next_ax) gl rf)), (eA0 (rf 0) (ck 0) 900 f_tape), (eA0 (rf 3) (ck 3) 118 f_words)] := hD
          refine lv_aload_n hx hb dX12_token_130 rfl (lv_at hl 0 rfl) ?_
          refine lv_aload_n hx hb dX12_token_131 rfl (lv_at hl 0 rfl) ?_
          refine va_get (D := (dC, dI)) (ci := 12) (v := .int r_26) (C := RX12) (T := TX12) (N := 76) hx hb htw inlX12 hown hK hP 0 rfl rfl 9 (by decide) (htw _ (ck_24 _ (List.mem_of_getElem? (i := 19) rfl))) (fun _ h9 => h9) rfl dX12_token_132 ?_
          obtain ⟨X_27, hX_27⟩ : ∃ X9 : (Int32) × (Int32), X9 = fq_token_e m_next_ax m_next_bx r_26 := ⟨_, rfl⟩
          have hjoin_28 : ∀ (S0e : Int32) (m_which_e : Int32) (hje : ¬ S0e = 5) (hE9 : X_27 = (S0e, m_which_e)) (H : Heap) (locs : List Loc) (ls : Array Slot) (hP : va_P (dC, dI) vwCl [(mq, .inr (12, mF (upd (upd (upd g 7 m_next_bx) 9 m_which_e) 10 m_next_ax) gl rf)), (eA0 (rf 0) (ck 0) 900 f_tape), (eA0 (rf 3) (ck 3) 118 f_words)] H) (hD : va_D A [(mq, .inr (12, mF (upd (upd (upd g 7 m_next_bx) 9 m_which_e) 10 m_next_ax) gl rf)), (eA0 (rf 0) (ck 0) 900 f_tape), (eA0 (rf 3) (ck 3) 118 f_words)]) (hS : va_S A s.heap H locs) (hl : lv_has ls 1 [(0, .ref mq)]), W p l e (headSpec (Cond.code yX12_token cX12_token 1 none :: wsL_law) ({ frames := 1, cells := 0, slots := 0, locals := 27 })).room s m ([.ref mq] : List Value).toArray below meth c H locs 0 0 (MQ below (va_Qv (fun (u : (Int32) × (Int32) × (Int32) × (Int32)) => (u = fq_token f_tape f_words (g 6) (g 7) (g 9)) ∧ (¬ u.1 < 0) ∧ (u.1 ≤ (g 6)) ∧ (xC u.2.1 u.2.2.1)) (fun (u : (Int32) × (Int32) × (Int32) × (Int32)) t => va_P (dC, dI) vwCl [(mq, .inr (12, mF (upd (upd (upd (upd g 7 u.1) 8 u.2.1) 9 u.2.2.1) 10 u.2.2.2) gl rf)), (eA0 (rf 0) (ck 0) 900 f_tape), (eA0 (rf 3) (ck 3) 118 f_words)] t.heap ∧ va_K (dC, dI) vwCl [] t ∧ va_D A [(mq, .inr (12, mF (upd (upd (upd (upd g 7 u.1) 8 u.2.1) 9 u.2.2.1) 10 u.2.2.2) gl rf)), (eA0 (rf 0) (ck 0) 900 f_tape), (eA0 (rf 3) (ck 3) 118 f_words)]) A) ([.ref mq] : List Value).toArray s 0 0 A) (F0 m 162 ls [.int S0e, .ref mq]) := by
            intro S0e m_which_e hje hE9 H locs ls hP hD hS hl
            have hq_S0e : S0e = X_27.1 := by rw [hE9]
            have hq_m_which_e : m_which_e = X_27.2 := by rw [hE9]
            refine va_put (D := (dC, dI)) (ci := 12) (v := .int S0e) (ty := tyX12 8) (C := RX12) (T := TX12) (N := 76) hx hb htw inlX12 tyX12 tyX12_ok nmX12 hown hK hP hD hS 0 rfl rfl 8 (by decide) (htw _ (ck_24 _ (List.mem_of_getElem? (i := 13) rfl))) (fun _ h9 => h9) rfl (tyX12_ok 8 (by decide)) rfl rfl (Nat.le_of_ble_eq_true rfl) dX12_token_162 (fun H locs hP hD hS => ?_)
            have hP : va_P (dC, dI) vwCl [(mq, .inr (12, mF (upd (upd (upd (upd g 7 m_next_bx) 8 S0e) 9 m_which_e) 10 m_next_ax) gl rf)), (eA0 (rf 0) (ck 0) 900 f_tape), (eA0 (rf 3) (ck 3) 118 f_words)] H := hP
            have hD : va_D A [(mq, .inr (12, mF (upd (upd (upd (upd g 7 m_next_bx) 8 S0e) 9 m_which_e) 10 m_next_ax) gl rf)), (eA0 (rf 0) (ck 0) 900 f_tape), (eA0 (rf 3) (ck 3) 118 f_words)] := hD
            refine lv_aload_n hx hb dX12_token_165 rfl (lv_at hl 0 rfl) ?_
            refine va_get (D := (dC, dI)) (ci := 12) (v := .int S0e) (C := RX12) (T := TX12) (N := 76) hx hb htw inlX12 hown hK hP 0 rfl rfl 8 (by decide) (htw _ (ck_24 _ (List.mem_of_getElem? (i := 13) rfl))) (fun _ h9 => h9) rfl dX12_token_166 ?_
            refine lv_iconst (v := 2) hx hb dX12_token_169 (by decide) ?_
            refine lv_icmp_ne (tgt := 281) hx hb dX12_token_170 (by decide) (fun c_29 => ?_) (fun c_29 => ?_)
            · refine W.widen (k := 0) (n := 0) (by omega) (by omega) ?_
              have hP9 := hP
              have hD9 := hD
              have hK9 := hK.sub (tys' := []) [] rfl
              exact W.vret hx hb hr (fun t ht hW => ⟨⟨(m_next_bx, S0e, m_which_e, m_next_ax), rfl, ⟨(Eq.symm ((by rw [fq_token]; (try rw [← hX_1]); (try rw [xL_eq]); (try rw [← hq_m_next_ax]); (try rw [if_neg c_3]); (try rw [← hq_r_4]); (try rw [xL_eq]); (try rw [if_neg c_5]); (try rw [← hX_24]); (try rw [xL_eq]); (try rw [← hq_m_next_bx]); (try rw [← hq_r_26]); (try rw [xL_eq]); (try rw [← hX_27]); (try rw [xL_eq]); (try rw [← hq_S0e]); (try rw [← hq_m_which_e]); (try rw [if_neg c_29]); try rfl))), hx0b, hx1b, (fun h9 => absurd h9 hje)⟩, by rw [ht]; exact hP9, va_K.moved hW.alike hK9, hD9⟩, hS.F ht⟩) hS.2.2 dX12_token_281
            · refine lv_aload_n hx hb dX12_token_173 rfl (lv_at hl 0 rfl) ?_
              refine lv_aload_n hx hb dX12_token_174 rfl (lv_at hl 0 rfl) ?_
              refine lv_aload_n hx hb dX12_token_175 rfl (lv_at hl 0 rfl) ?_
              refine va_get (D := (dC, dI)) (ci := 12) (v := .int m_next_ax) (C := RX12) (T := TX12) (N := 76) hx hb htw inlX12 hown hK hP 0 rfl rfl 10 (by decide) (htw _ (ck_24 _ (List.mem_of_getElem? (i := 18) rfl))) (fun _ h9 => h9) rfl dX12_token_176 ?_
              refine lv_aload_n hx hb dX12_token_179 rfl (lv_at hl 0 rfl) ?_
              refine va_get (D := (dC, dI)) (ci := 12) (v := .int m_next_bx) (C := RX12) (T := TX12) (N := 76) hx hb htw inlX12 hown hK hP 0 rfl rfl 7 (by decide) (htw _ (ck_24 _ (List.mem_of_getElem? (i := 12) rfl))) (fun _ h9 => h9) rfl dX12_token_180 ?_
              have hPc := hP.sub (ws' := [(mq, .inr (12, mF (upd (upd (upd (upd g 7 m_next_bx) 8 S0e) 9 m_which_e) 10 m_next_ax) gl rf)), (eA0 (rf 0) (ck 0) 900 f_tape)]) [0, 1] rfl
              have hKc := hK.sub (tys' := [((ck 0), .int)]) [0] rfl
              refine vp_callSi (W.runV (As := [.int m_next_ax, .int m_next_bx]) (rest := [.ref mq]) ⟨hx, hb, hml, hown, htw⟩ (gq_packed l dC dI mq (upd (upd (upd (upd g 7 m_next_bx) 8 S0e) 9 m_which_e) 10 m_next_ax) gl rf ck f_tape m_next_ax m_next_bx hx0a (gy_token_s6 (y0 := m_next_bx) (y1 := g 6) hx1b hs9) (gy_token_s7 (y0 := m_next_ax) (y1 := g 6) hs9 (fq_small hq_r_4 c_5))) (cwV 2 htw (xg_V (ck_25 _ (List.mem_of_getElem? (i := 5) rfl)) (ck_25 _ (List.mem_of_getElem? (i := 6) rfl)) (ck_25 _ (List.mem_of_getElem? (i := 7) rfl)) (ck_1 _ (List.mem_of_getElem? (i := 5) rfl)) (ck_25 _ (List.mem_of_getElem? (i := 8) rfl))) rfl rfl rfl (by exact ⟨rfl, hdc_14.1, hdc_14.2, hdd_7⟩) ⟨Nat.le_of_ble_eq_true rfl, Nat.le_of_ble_eq_true rfl⟩) ⟨fun a U g mk q => by obtain ⟨q0, qP, qK⟩ := q; exact ⟨q0, qP, va_K.moved (u := U) (U := U.calling g mk a) (Vm.Alike.refl U.vm) qK⟩, va_recv hKc hPc (ci := 12) (q0 := 0) rfl rfl, fun U hU hW => ⟨rfl, by rw [hU]; exact hPc, va_K.moved hW.alike hKc⟩⟩ rfl rfl hl.1 rfl (lv_room (Nat.le_of_ble_eq_true rfl)) dX12_token_183 ⟨Nat.le_of_ble_eq_true rfl, Nat.le_of_ble_eq_true rfl⟩) (fun r_30 hw => ?_)
              try dsimp only at hw
              have hq_r_30 : r_30 = (fq_packed f_tape m_next_ax m_next_bx) := hw
              refine va_put (D := (dC, dI)) (ci := 12) (v := .int r_30) (ty := tyX12 9) (C := RX12) (T := TX12) (N := 76) hx hb htw inlX12 tyX12 tyX12_ok nmX12 hown hK hP hD hS 0 rfl rfl 9 (by decide) (htw _ (ck_24 _ (List.mem_of_getElem? (i := 19) rfl))) (fun _ h9 => h9) rfl (tyX12_ok 9 (by decide)) rfl rfl (Nat.le_of_ble_eq_true rfl) dX12_token_186 (fun H locs hP hD hS => ?_)
              have hP : va_P (dC, dI) vwCl [(mq, .inr (12, mF (upd (upd (upd (upd g 7 m_next_bx) 8 S0e) 9 r_30) 10 m_next_ax) gl rf)), (eA0 (rf 0) (ck 0) 900 f_tape), (eA0 (rf 3) (ck 3) 118 f_words)] H := hP
              have hD : va_D A [(mq, .inr (12, mF (upd (upd (upd (upd g 7 m_next_bx) 8 S0e) 9 r_30) 10 m_next_ax) gl rf)), (eA0 (rf 0) (ck 0) 900 f_tape), (eA0 (rf 3) (ck 3) 118 f_words)] := hD
              refine lv_goto (tgt := 281) hx hb dX12_token_189 (by decide) ?_
              refine W.widen (k := 0) (n := 0) (by omega) (by omega) ?_
              have hP9 := hP
              have hD9 := hD
              have hK9 := hK.sub (tys' := []) [] rfl
              exact W.vret hx hb hr (fun t ht hW => ⟨⟨(m_next_bx, S0e, r_30, m_next_ax), rfl, ⟨(Eq.symm ((by rw [fq_token]; (try rw [← hX_1]); (try rw [xL_eq]); (try rw [← hq_m_next_ax]); (try rw [if_neg c_3]); (try rw [← hq_r_4]); (try rw [xL_eq]); (try rw [if_neg c_5]); (try rw [← hX_24]); (try rw [xL_eq]); (try rw [← hq_m_next_bx]); (try rw [← hq_r_26]); (try rw [xL_eq]); (try rw [← hX_27]); (try rw [xL_eq]); (try rw [← hq_S0e]); (try rw [← hq_m_which_e]); (try rw [if_pos c_29]); (try rw [← hq_r_30]); (try rw [xL_eq]); try rfl))), hx0b, hx1b, (fun h9 => absurd h9 hje)⟩, by rw [ht]; exact hP9, va_K.moved hW.alike hK9, hD9⟩, hS.F ht⟩) hS.2.2 dX12_token_281
          refine lv_if_lt (tgt := 142) hx hb dX12_token_135 (by decide) (fun c_31 => ?_) (fun c_31 => ?_)
          · refine lv_aload_n hx hb dX12_token_142 rfl (lv_at hl 0 rfl) ?_
            refine va_get (D := (dC, dI)) (ci := 12) (v := .int m_next_bx) (C := RX12) (T := TX12) (N := 76) hx hb htw inlX12 hown hK hP 0 rfl rfl 7 (by decide) (htw _ (ck_24 _ (List.mem_of_getElem? (i := 12) rfl))) (fun _ h9 => h9) rfl dX12_token_143 ?_
            refine lv_aload_n hx hb dX12_token_146 rfl (lv_at hl 0 rfl) ?_
            refine va_get (D := (dC, dI)) (ci := 12) (v := .int m_next_ax) (C := RX12) (T := TX12) (N := 76) hx hb htw inlX12 hown hK hP 0 rfl rfl 10 (by decide) (htw _ (ck_24 _ (List.mem_of_getElem? (i := 18) rfl))) (fun _ h9 => h9) rfl dX12_token_147 ?_
            refine lv_isub hx hb dX12_token_150 ?_
            refine lv_bipush (v := 6) hx hb dX12_token_151 (by decide) ?_
            refine lv_icmp_le (tgt := 161) hx hb dX12_token_153 (by decide) (fun c_32 => ?_) (fun c_32 => ?_)
            · refine lv_iconst (v := 2) hx hb dX12_token_161 (by decide) ?_
              exact hjoin_28 (2 : Int32) r_26 (gy_token_s8 ) (hX_27.trans (by rw [fq_token_e]; (try rw [if_pos c_31]); (try rw [if_pos c_32]); try rfl)) _ _ ls hP hD hS (lv_sub hl [0] rfl)
            · refine lv_bipush (v := 6) hx hb dX12_token_156 (by decide) ?_
              refine lv_goto (tgt := 162) hx hb dX12_token_158 (by decide) ?_
              exact hjoin_28 (6 : Int32) r_26 (gy_token_s9 ) (hX_27.trans (by rw [fq_token_e]; (try rw [if_pos c_31]); (try rw [if_neg c_32]); try rfl)) _ _ ls hP hD hS (lv_sub hl [0] rfl)
          · refine lv_iconst (v := 1) hx hb dX12_token_138 (by decide) ?_
            refine lv_goto (tgt := 162) hx hb dX12_token_139 (by decide) ?_
            exact hjoin_28 (1 : Int32) r_26 (gy_token_s10 ) (hX_27.trans (by rw [fq_token_e]; (try rw [if_neg c_31]); try rfl)) _ _ ls hP hD hS (lv_sub hl [0] rfl)
        have hloop_33 : ∀ (n : Nat) (m_next_b : Int32) (h0b : ¬ m_next_b < 0) (h1b : m_next_b ≤ (g 6)) (hfb : (g 6).toInt ≤ m_next_b.toInt + (n : Int)) (h2b : m_next_ax ≤ m_next_b) (hI_b : X_24 = fq_token_b f_tape (g 6) n m_next_b) (H : Heap) (locs : List Loc) (ls : Array Slot) (hP : va_P (dC, dI) vwCl [(mq, .inr (12, mF (upd (upd g 7 m_next_b) 10 m_next_ax) gl rf)), (eA0 (rf 0) (ck 0) 900 f_tape), (eA0 (rf 3) (ck 3) 118 f_words)] H) (hD : va_D A [(mq, .inr (12, mF (upd (upd g 7 m_next_b) 10 m_next_ax) gl rf)), (eA0 (rf 0) (ck 0) 900 f_tape), (eA0 (rf 3) (ck 3) 118 f_words)]) (hS : va_S A s.heap H locs) (hl : lv_has ls 1 [(0, .ref mq)]), W p l e (headSpec (Cond.code yX12_token cX12_token 1 none :: wsL_law) ({ frames := 1, cells := 0, slots := 0, locals := 27 })).room s m ([.ref mq] : List Value).toArray below meth c H locs 0 0 (MQ below (va_Qv (fun (u : (Int32) × (Int32) × (Int32) × (Int32)) => (u = fq_token f_tape f_words (g 6) (g 7) (g 9)) ∧ (¬ u.1 < 0) ∧ (u.1 ≤ (g 6)) ∧ (xC u.2.1 u.2.2.1)) (fun (u : (Int32) × (Int32) × (Int32) × (Int32)) t => va_P (dC, dI) vwCl [(mq, .inr (12, mF (upd (upd (upd (upd g 7 u.1) 8 u.2.1) 9 u.2.2.1) 10 u.2.2.2) gl rf)), (eA0 (rf 0) (ck 0) 900 f_tape), (eA0 (rf 3) (ck 3) 118 f_words)] t.heap ∧ va_K (dC, dI) vwCl [] t ∧ va_D A [(mq, .inr (12, mF (upd (upd (upd (upd g 7 u.1) 8 u.2.1) 9 u.2.2.1) 10 u.2.2.2) gl rf)), (eA0 (rf 0) (ck 0) 900 f_tape), (eA0 (rf 3) (ck 3) 118 f_words)]) A) ([.ref mq] : List Value).toArray s 0 0 A) (F0 m 90 ls []) := by
          intro n
          induction n with
          | zero =>
            intro m_next_b h0b h1b hfb h2b hI_b H locs ls hP hD hS hl
            refine lv_aload_n hx hb dX12_token_90 rfl (lv_at hl 0 rfl) ?_
            refine lv_aload_n hx hb dX12_token_91 rfl (lv_at hl 0 rfl) ?_
            refine va_get (D := (dC, dI)) (ci := 12) (v := .int m_next_b) (C := RX12) (T := TX12) (N := 76) hx hb htw inlX12 hown hK hP 0 rfl rfl 7 (by decide) (htw _ (ck_24 _ (List.mem_of_getElem? (i := 12) rfl))) (fun _ h9 => h9) rfl dX12_token_92 ?_
            have hPc := hP.sub (ws' := [(mq, .inr (12, mF (upd (upd g 7 m_next_b) 10 m_next_ax) gl rf)), (eA0 (rf 0) (ck 0) 900 f_tape)]) [0, 1] rfl
            have hKc := hK.sub (tys' := [((ck 0), .int)]) [0] rfl
            refine vp_callSi (W.runV (As := [.int m_next_b]) (rest := []) ⟨hx, hb, hml, hown, htw⟩ (gq_isSmall l dC dI mq (upd (upd g 7 m_next_b) 10 m_next_ax) gl rf ck f_tape m_next_b h0b hs9) (cwV 1 htw (xg_V (ck_24 _ (List.mem_of_getElem? (i := 21) rfl)) (ck_24 _ (List.mem_of_getElem? (i := 22) rfl)) (ck_24 _ (List.mem_of_getElem? (i := 23) rfl)) (ck_1 _ (List.mem_of_getElem? (i := 5) rfl)) (ck_25 _ (List.mem_of_getElem? (i := 0) rfl))) rfl rfl rfl (by exact ⟨rfl, hdc_14.1, hdc_14.2, hdd_26⟩) ⟨Nat.le_of_ble_eq_true rfl, Nat.le_of_ble_eq_true rfl⟩) ⟨fun a U g mk q => by obtain ⟨q0, qP, qK⟩ := q; exact ⟨q0, qP, va_K.moved (u := U) (U := U.calling g mk a) (Vm.Alike.refl U.vm) qK⟩, va_recv hKc hPc (ci := 12) (q0 := 0) rfl rfl, fun U hU hW => ⟨rfl, by rw [hU]; exact hPc, va_K.moved hW.alike hKc⟩⟩ rfl rfl hl.1 rfl (lv_room (Nat.le_of_ble_eq_true rfl)) dX12_token_95 ⟨Nat.le_of_ble_eq_true rfl, Nat.le_of_ble_eq_true rfl⟩) (fun r_34 hw => ?_)
            try dsimp only at hw
            obtain ⟨hw, hb_r_34⟩ := hw
            have hq_r_34 : r_34 = (fq_isSmall f_tape m_next_b (g 6)) := hw
            refine lv_if_eq (tgt := 114) hx hb dX12_token_98 (by decide) (fun c_35 => ?_) (fun c_35 => absurd c_35 (fun h => h (by rw [hq_r_34]; exact if_pos (xi_z hfb))))
            exact hexit_25 m_next_b h2b h0b h1b (hI_b.trans (by rw [fq_token_b]; (try rw [← hq_r_34]); (try rw [xL_eq]); try rfl)) _ _ ls hP hD hS (lv_sub hl [0] rfl)
          | succ n ih =>
            intro m_next_b h0b h1b hfb h2b hI_b H locs ls hP hD hS hl
            refine lv_aload_n hx hb dX12_token_90 rfl (lv_at hl 0 rfl) ?_
            refine lv_aload_n hx hb dX12_token_91 rfl (lv_at hl 0 rfl) ?_
            refine va_get (D := (dC, dI)) (ci := 12) (v := .int m_next_b) (C := RX12) (T := TX12) (N := 76) hx hb htw inlX12 hown hK hP 0 rfl rfl 7 (by decide) (htw _ (ck_24 _ (List.mem_of_getElem? (i := 12) rfl))) (fun _ h9 => h9) rfl dX12_token_92 ?_
            have hPc := hP.sub (ws' := [(mq, .inr (12, mF (upd (upd g 7 m_next_b) 10 m_next_ax) gl rf)), (eA0 (rf 0) (ck 0) 900 f_tape)]) [0, 1] rfl
            have hKc := hK.sub (tys' := [((ck 0), .int)]) [0] rfl
            refine vp_callSi (W.runV (As := [.int m_next_b]) (rest := []) ⟨hx, hb, hml, hown, htw⟩ (gq_isSmall l dC dI mq (upd (upd g 7 m_next_b) 10 m_next_ax) gl rf ck f_tape m_next_b h0b hs9) (cwV 1 htw (xg_V (ck_24 _ (List.mem_of_getElem? (i := 21) rfl)) (ck_24 _ (List.mem_of_getElem? (i := 22) rfl)) (ck_24 _ (List.mem_of_getElem? (i := 23) rfl)) (ck_1 _ (List.mem_of_getElem? (i := 5) rfl)) (ck_25 _ (List.mem_of_getElem? (i := 0) rfl))) rfl rfl rfl (by exact ⟨rfl, hdc_14.1, hdc_14.2, hdd_26⟩) ⟨Nat.le_of_ble_eq_true rfl, Nat.le_of_ble_eq_true rfl⟩) ⟨fun a U g mk q => by obtain ⟨q0, qP, qK⟩ := q; exact ⟨q0, qP, va_K.moved (u := U) (U := U.calling g mk a) (Vm.Alike.refl U.vm) qK⟩, va_recv hKc hPc (ci := 12) (q0 := 0) rfl rfl, fun U hU hW => ⟨rfl, by rw [hU]; exact hPc, va_K.moved hW.alike hKc⟩⟩ rfl rfl hl.1 rfl (lv_room (Nat.le_of_ble_eq_true rfl)) dX12_token_95 ⟨Nat.le_of_ble_eq_true rfl, Nat.le_of_ble_eq_true rfl⟩) (fun r_36 hw => ?_)
            try dsimp only at hw
            obtain ⟨hw, hb_r_36⟩ := hw
            have hq_r_36 : r_36 = (fq_isSmall f_tape m_next_b (g 6)) := hw
            refine lv_if_eq (tgt := 114) hx hb dX12_token_98 (by decide) (fun c_37 => ?_) (fun c_37 => ?_)
            · exact hexit_25 m_next_b h2b h0b h1b (hI_b.trans (by rw [fq_token_b]; (try rw [← hq_r_36]); (try rw [xL_eq]); (try rw [if_pos c_37]); try rfl)) _ _ ls hP hD hS (lv_sub hl [0] rfl)
            · refine lv_aload_n hx hb dX12_token_101 rfl (lv_at hl 0 rfl) ?_
              refine lv_dup hx hb dX12_token_102 rfl ?_
              refine va_get (D := (dC, dI)) (ci := 12) (v := .int m_next_b) (C := RX12) (T := TX12) (N := 76) hx hb htw inlX12 hown hK hP 0 rfl rfl 7 (by decide) (htw _ (ck_24 _ (List.mem_of_getElem? (i := 12) rfl))) (fun _ h9 => h9) rfl dX12_token_103 ?_
              refine lv_iconst (v := 1) hx hb dX12_token_106 (by decide) ?_
              refine lv_iadd hx hb dX12_token_107 ?_
              refine va_put (D := (dC, dI)) (ci := 12) (v := .int (m_next_b + 1)) (ty := tyX12 7) (C := RX12) (T := TX12) (N := 76) hx hb htw inlX12 tyX12 tyX12_ok nmX12 hown hK hP hD hS 0 rfl rfl 7 (by decide) (htw _ (ck_24 _ (List.mem_of_getElem? (i := 12) rfl))) (fun _ h9 => h9) rfl (tyX12_ok 7 (by decide)) rfl rfl (Nat.le_of_ble_eq_true rfl) dX12_token_108 (fun H locs hP hD hS => ?_)
              have hP : va_P (dC, dI) vwCl [(mq, .inr (12, mF (upd (upd g 7 (m_next_b + 1)) 10 m_next_ax) gl rf)), (eA0 (rf 0) (ck 0) 900 f_tape), (eA0 (rf 3) (ck 3) 118 f_words)] H := hP
              have hD : va_D A [(mq, .inr (12, mF (upd (upd g 7 (m_next_b + 1)) 10 m_next_ax) gl rf)), (eA0 (rf 0) (ck 0) 900 f_tape), (eA0 (rf 3) (ck 3) 118 f_words)] := hD
              refine lv_goto (tgt := 90) hx hb dX12_token_111 (by decide) ?_
              exact ih (m_next_b + 1) (gy_token_s11 (y0 := m_next_b) (y1 := m_next_ax) (y2 := g 6) hx0a h2b (fq_small hq_r_36 c_37)) (gy_token_s12 (y0 := m_next_b) (y1 := g 6) (fq_small hq_r_36 c_37)) (by rw [xi_s (b := 900) (gy_token_s13 (y0 := m_next_b) (y1 := g 6) hs9 (fq_small hq_r_36 c_37))]; omega) (gy_token_s14 (y0 := m_next_ax) (y1 := m_next_b) (y2 := g 6) h2b (fq_small hq_r_36 c_37)) (hI_b.trans (by rw [fq_token_b]; (try rw [← hq_r_36]); (try rw [xL_eq]); (try rw [if_neg c_37]); try rfl)) H locs ls hP hD hS (lv_sub hl [0] rfl)
        exact hloop_33 900 m_next_ax hx0a hx1a (by have := xi_le hs9; have := xi_nn hx0a; have e9 : (900 : Int32).toInt = 900 := rfl; omega) (gy_token_s15 (y0 := m_next_ax)) (hX_24) _ _ ls hP hD hS (lv_sub hl [0] rfl)
    · refine lv_aload_n hx hb dX12_token_71 rfl (lv_at hl 0 rfl) ?_
      refine lv_iconst (v := 0) hx hb dX12_token_72 (by decide) ?_
      refine va_put (D := (dC, dI)) (ci := 12) (v := .int 0) (ty := tyX12 8) (C := RX12) (T := TX12) (N := 76) hx hb htw inlX12 tyX12 tyX12_ok nmX12 hown hK hP hD hS 0 rfl rfl 8 (by decide) (htw _ (ck_24 _ (List.mem_of_getElem? (i := 13) rfl))) (fun _ h9 => h9) rfl (tyX12_ok 8 (by decide)) rfl rfl (Nat.le_of_ble_eq_true rfl) dX12_token_73 (fun H locs hP hD hS => ?_)
      have hP : va_P (dC, dI) vwCl [(mq, .inr (12, mF (upd (upd (upd g 7 m_next_ax) 8 0) 10 m_next_ax) gl rf)), (eA0 (rf 0) (ck 0) 900 f_tape), (eA0 (rf 3) (ck 3) 118 f_words)] H := hP
      have hD : va_D A [(mq, .inr (12, mF (upd (upd (upd g 7 m_next_ax) 8 0) 10 m_next_ax) gl rf)), (eA0 (rf 0) (ck 0) 900 f_tape), (eA0 (rf 3) (ck 3) 118 f_words)] := hD
      refine lv_goto (tgt := 281) hx hb dX12_token_76 (by decide) ?_
      refine W.widen (k := 0) (n := 0) (by omega) (by omega) ?_
      have hP9 := hP
      have hD9 := hD
      have hK9 := hK.sub (tys' := []) [] rfl
      exact W.vret hx hb hr (fun t ht hW => ⟨⟨(m_next_ax, 0, (g 9), m_next_ax), rfl, ⟨(Eq.symm ((by rw [fq_token]; (try rw [← hX_1]); (try rw [xL_eq]); (try rw [← hq_m_next_ax]); (try rw [if_pos c_3]); try rfl))), hx0a, hx1a, (fun h9 => absurd h9 (show ¬ (0 : Int32) = 5 by decide))⟩, by rw [ht]; exact hP9, va_K.moved hW.alike hK9, hD9⟩, hS.F ht⟩) hS.2.2 dX12_token_281
  have hloop_38 : ∀ (n : Nat) (m_next_a : Int32) (h0a : ¬ m_next_a < 0) (h1a : m_next_a ≤ (g 6)) (hfa : (g 6).toInt ≤ m_next_a.toInt + (n : Int)) (hI_a : X_1 = fq_token_a f_tape (g 6) n m_next_a) (H : Heap) (locs : List Loc) (ls : Array Slot) (hP : va_P (dC, dI) vwCl [(mq, .inr (12, mF (upd g 7 m_next_a) gl rf)), (eA0 (rf 0) (ck 0) 900 f_tape), (eA0 (rf 3) (ck 3) 118 f_words)] H) (hD : va_D A [(mq, .inr (12, mF (upd g 7 m_next_a) gl rf)), (eA0 (rf 0) (ck 0) 900 f_tape), (eA0 (rf 3) (ck 3) 118 f_words)]) (hS : va_S A s.heap H locs) (hl : lv_has ls 1 [(0, .ref mq)]), W p l e (headSpec (Cond.code yX12_token cX12_token 1 none :: wsL_law) ({ frames := 1, cells := 0, slots := 0, locals := 27 })).room s m ([.ref mq] : List Value).toArray below meth c H locs 0 0 (MQ below (va_Qv (fun (u : (Int32) × (Int32) × (Int32) × (Int32)) => (u = fq_token f_tape f_words (g 6) (g 7) (g 9)) ∧ (¬ u.1 < 0) ∧ (u.1 ≤ (g 6)) ∧ (xC u.2.1 u.2.2.1)) (fun (u : (Int32) × (Int32) × (Int32) × (Int32)) t => va_P (dC, dI) vwCl [(mq, .inr (12, mF (upd (upd (upd (upd g 7 u.1) 8 u.2.1) 9 u.2.2.1) 10 u.2.2.2) gl rf)), (eA0 (rf 0) (ck 0) 900 f_tape), (eA0 (rf 3) (ck 3) 118 f_words)] t.heap ∧ va_K (dC, dI) vwCl [] t ∧ va_D A [(mq, .inr (12, mF (upd (upd (upd (upd g 7 u.1) 8 u.2.1) 9 u.2.2.1) 10 u.2.2.2) gl rf)), (eA0 (rf 0) (ck 0) 900 f_tape), (eA0 (rf 3) (ck 3) 118 f_words)]) A) ([.ref mq] : List Value).toArray s 0 0 A) (F0 m 0 ls []) := by
    intro n
    induction n with
    | zero =>
      intro m_next_a h0a h1a hfa hI_a H locs ls hP hD hS hl
      refine lv_aload_n hx hb dX12_token_0 rfl (lv_at hl 0 rfl) ?_
      refine va_get (D := (dC, dI)) (ci := 12) (v := .int m_next_a) (C := RX12) (T := TX12) (N := 76) hx hb htw inlX12 hown hK hP 0 rfl rfl 7 (by decide) (htw _ (ck_24 _ (List.mem_of_getElem? (i := 12) rfl))) (fun _ h9 => h9) rfl dX12_token_1 ?_
      refine lv_aload_n hx hb dX12_token_4 rfl (lv_at hl 0 rfl) ?_
      refine va_get (D := (dC, dI)) (ci := 12) (v := .int (g 6)) (C := RX12) (T := TX12) (N := 76) hx hb htw inlX12 hown hK hP 0 rfl rfl 6 (by decide) (htw _ (ck_24 _ (List.mem_of_getElem? (i := 10) rfl))) (fun _ h9 => h9) rfl dX12_token_5 ?_
      refine lv_icmp_ge (tgt := 52) hx hb dX12_token_8 (by decide) (fun c_39 => ?_) (fun c_39 => absurd c_39 (fun h => h (xi_z hfa)))
      exact hexit_2 m_next_a h0a h1a (hI_a.trans (by rw [fq_token_a]; try rfl)) _ _ ls hP hD hS (lv_sub hl [0] rfl)
    | succ n ih =>
      intro m_next_a h0a h1a hfa hI_a H locs ls hP hD hS hl
      refine lv_aload_n hx hb dX12_token_0 rfl (lv_at hl 0 rfl) ?_
      refine va_get (D := (dC, dI)) (ci := 12) (v := .int m_next_a) (C := RX12) (T := TX12) (N := 76) hx hb htw inlX12 hown hK hP 0 rfl rfl 7 (by decide) (htw _ (ck_24 _ (List.mem_of_getElem? (i := 12) rfl))) (fun _ h9 => h9) rfl dX12_token_1 ?_
      refine lv_aload_n hx hb dX12_token_4 rfl (lv_at hl 0 rfl) ?_
      refine va_get (D := (dC, dI)) (ci := 12) (v := .int (g 6)) (C := RX12) (T := TX12) (N := 76) hx hb htw inlX12 hown hK hP 0 rfl rfl 6 (by decide) (htw _ (ck_24 _ (List.mem_of_getElem? (i := 10) rfl))) (fun _ h9 => h9) rfl dX12_token_5 ?_
      refine lv_icmp_ge (tgt := 52) hx hb dX12_token_8 (by decide) (fun c_40 => ?_) (fun c_40 => ?_)
      · exact hexit_2 m_next_a h0a h1a (hI_a.trans (by rw [fq_token_a]; (try rw [if_pos c_40]); try rfl)) _ _ ls hP hD hS (lv_sub hl [0] rfl)
      · refine lv_aload_n hx hb dX12_token_11 rfl (lv_at hl 0 rfl) ?_
        refine va_get (D := (dC, dI)) (ci := 12) (v := .ref (rf 0)) (C := RX12) (T := TX12) (N := 76) hx hb htw inlX12 hown hK hP 0 rfl rfl 0 (by decide) (htw _ (ck_9 _ (List.mem_of_getElem? (i := 4) rfl))) (fun _ h9 => h9) rfl dX12_token_12 ?_
        refine lv_aload_n hx hb dX12_token_15 rfl (lv_at hl 0 rfl) ?_
        refine va_get (D := (dC, dI)) (ci := 12) (v := .int m_next_a) (C := RX12) (T := TX12) (N := 76) hx hb htw inlX12 hown hK hP 0 rfl rfl 7 (by decide) (htw _ (ck_24 _ (List.mem_of_getElem? (i := 12) rfl))) (fun _ h9 => h9) rfl dX12_token_16 ?_
        refine va_iald hx hb hK hP 1 0 rfl rfl (xg_inr (N := 900) rfl (gy_token_s16 (y0 := m_next_a) (y1 := g 6) c_40 h0a hs9).1 (gy_token_s16 (y0 := m_next_a) (y1 := g 6) c_40 h0a hs9).2) dX12_token_19 ?_
        refine lv_bipush (v := 10) hx hb dX12_token_20 (by decide) ?_
        refine lv_icmp_eq (tgt := 39) hx hb dX12_token_22 (by decide) (fun c_41 => ?_) (fun c_41 => ?_)
        · refine lv_aload_n hx hb dX12_token_39 rfl (lv_at hl 0 rfl) ?_
          refine lv_dup hx hb dX12_token_40 rfl ?_
          refine va_get (D := (dC, dI)) (ci := 12) (v := .int m_next_a) (C := RX12) (T := TX12) (N := 76) hx hb htw inlX12 hown hK hP 0 rfl rfl 7 (by decide) (htw _ (ck_24 _ (List.mem_of_getElem? (i := 12) rfl))) (fun _ h9 => h9) rfl dX12_token_41 ?_
          refine lv_iconst (v := 1) hx hb dX12_token_44 (by decide) ?_
          refine lv_iadd hx hb dX12_token_45 ?_
          refine va_put (D := (dC, dI)) (ci := 12) (v := .int (m_next_a + 1)) (ty := tyX12 7) (C := RX12) (T := TX12) (N := 76) hx hb htw inlX12 tyX12 tyX12_ok nmX12 hown hK hP hD hS 0 rfl rfl 7 (by decide) (htw _ (ck_24 _ (List.mem_of_getElem? (i := 12) rfl))) (fun _ h9 => h9) rfl (tyX12_ok 7 (by decide)) rfl rfl (Nat.le_of_ble_eq_true rfl) dX12_token_46 (fun H locs hP hD hS => ?_)
          obtain ⟨hP, hD⟩ := zre [(mq, .inr (12, mF (upd g 7 (m_next_a + 1)) gl rf)), (eA0 (rf 0) (ck 0) 900 f_tape), (eA0 (rf 3) (ck 3) 118 f_words)] hP hD rfl
          refine lv_goto (tgt := 0) hx hb dX12_token_49 (by decide) ?_
          exact ih (m_next_a + 1) (gy_token_s17 (y0 := m_next_a) (y1 := g 6) h0a h1a hs9) (gy_token_s18 (y0 := m_next_a) (y1 := g 6) c_40 h1a hs9) (by rw [xi_s (b := 900) (gy_token_s19 (y0 := m_next_a) (y1 := g 6) c_40 hs9)]; omega) (hI_a.trans (by rw [fq_token_a]; (try rw [if_neg c_40]); (try rw [if_pos c_41]); try rfl)) H locs ls hP hD hS (lv_sub hl [0] rfl)
        · refine lv_aload_n hx hb dX12_token_25 rfl (lv_at hl 0 rfl) ?_
          refine va_get (D := (dC, dI)) (ci := 12) (v := .ref (rf 0)) (C := RX12) (T := TX12) (N := 76) hx hb htw inlX12 hown hK hP 0 rfl rfl 0 (by decide) (htw _ (ck_9 _ (List.mem_of_getElem? (i := 4) rfl))) (fun _ h9 => h9) rfl dX12_token_26 ?_
          refine lv_aload_n hx hb dX12_token_29 rfl (lv_at hl 0 rfl) ?_
          refine va_get (D := (dC, dI)) (ci := 12) (v := .int m_next_a) (C := RX12) (T := TX12) (N := 76) hx hb htw inlX12 hown hK hP 0 rfl rfl 7 (by decide) (htw _ (ck_24 _ (List.mem_of_getElem? (i := 12) rfl))) (fun _ h9 => h9) rfl dX12_token_30 ?_
          refine va_iald hx hb hK hP 1 0 rfl rfl (xg_inr (N := 900) rfl (gy_token_s20 (y0 := m_next_a) (y1 := g 6) c_40 h0a hs9).1 (gy_token_s20 (y0 := m_next_a) (y1 := g 6) c_40 h0a hs9).2) dX12_token_33 ?_
          refine lv_bipush (v := 32) hx hb dX12_token_34 (by decide) ?_
          refine lv_icmp_ne (tgt := 52) hx hb dX12_token_36 (by decide) (fun c_42 => ?_) (fun c_42 => ?_)
          · exact hexit_2 m_next_a h0a h1a (hI_a.trans (by rw [fq_token_a]; (try rw [if_neg c_40]); (try rw [if_neg c_41]); (try rw [if_neg c_42]); try rfl)) _ _ ls hP hD hS (lv_sub hl [0] rfl)
          · refine lv_aload_n hx hb dX12_token_39 rfl (lv_at hl 0 rfl) ?_
            refine lv_dup hx hb dX12_token_40 rfl ?_
            refine va_get (D := (dC, dI)) (ci := 12) (v := .int m_next_a) (C := RX12) (T := TX12) (N := 76) hx hb htw inlX12 hown hK hP 0 rfl rfl 7 (by decide) (htw _ (ck_24 _ (List.mem_of_getElem? (i := 12) rfl))) (fun _ h9 => h9) rfl dX12_token_41 ?_
            refine lv_iconst (v := 1) hx hb dX12_token_44 (by decide) ?_
            refine lv_iadd hx hb dX12_token_45 ?_
            refine va_put (D := (dC, dI)) (ci := 12) (v := .int (m_next_a + 1)) (ty := tyX12 7) (C := RX12) (T := TX12) (N := 76) hx hb htw inlX12 tyX12 tyX12_ok nmX12 hown hK hP hD hS 0 rfl rfl 7 (by decide) (htw _ (ck_24 _ (List.mem_of_getElem? (i := 12) rfl))) (fun _ h9 => h9) rfl (tyX12_ok 7 (by decide)) rfl rfl (Nat.le_of_ble_eq_true rfl) dX12_token_46 (fun H locs hP hD hS => ?_)
            obtain ⟨hP, hD⟩ := zre [(mq, .inr (12, mF (upd g 7 (m_next_a + 1)) gl rf)), (eA0 (rf 0) (ck 0) 900 f_tape), (eA0 (rf 3) (ck 3) 118 f_words)] hP hD rfl
            refine lv_goto (tgt := 0) hx hb dX12_token_49 (by decide) ?_
            exact ih (m_next_a + 1) (gy_token_s21 (y0 := m_next_a) (y1 := g 6) h0a h1a hs9) (gy_token_s22 (y0 := m_next_a) (y1 := g 6) c_40 h1a hs9) (by rw [xi_s (b := 900) (gy_token_s23 (y0 := m_next_a) (y1 := g 6) c_40 hs9)]; omega) (hI_a.trans (by rw [fq_token_a]; (try rw [if_neg c_40]); (try rw [if_neg c_41]); (try rw [if_pos c_42]); try rfl)) H locs ls hP hD hS (lv_sub hl [0] rfl)
  exact hloop_38 900 (g 7) h0n hns (by have := xi_le hs9; have := xi_nn h0n; have e9 : (900 : Int32).toInt = 900 := rfl; omega) (hX_1) _ _ ls hP hD hS (lv_sub hl [0] rfl)

theorem gy_isCounted_s0 {y0 : Int32} (h0 : y0 ≤ 64) : (y0 + 1) = (y0 + 1) := by lia
theorem gy_isCounted_s1 {y0 : Int32} (h0 : ¬ (y0 < 0)) (h1 : y0 ≤ 64) : ¬ ((y0 + 1) < 0) := by lia
theorem gy_isCounted_s2 {y0 : Int32} (h0 : ¬ (y0 = 64)) (h1 : y0 ≤ 64) : (y0 + 1) ≤ 64 := by lia
set_option maxHeartbeats 4000000 in
set_option maxRecDepth 100000 in
theorem gy_isCounted (l : Launch) (dC : Nat → ClassId) (dI : Nat → Nat → Nat) (mq : Nat) (g : Nat → Int32) (gl : Nat → Int64) (rf : Nat → Nat) (sz : Nat) (hct0 : ¬ (g 50) < 0) (hct6 : (g 50) ≤ 64) : Met l yX12_isCounted (Cond.code yX12_isCounted cX12_isCounted 1 (some .boolean) :: wsL_law) ({ frames := 1, cells := 0, slots := 0, locals := 21 }) (va_Pc [.ref mq] (fun U => U.heap.size = sz ∧ va_P (dC, dI) vwCl [(mq, .inr (12, mF g gl rf))] U.heap ∧ va_K (dC, dI) vwCl [] U ∧ va_D (fun _ => True) [(mq, .inr (12, mF g gl rf))])) (va_Qi (fun (r : Int32) (u : (Int32) × (Int32) × (Int32)) => (r = (fq_isCounted (g 4) (g 5) (g 10) (g 50)).1 ∧ u = (fq_isCounted (g 4) (g 5) (g 10) (g 50)).2) ∧ (r = 0 ∨ r = 1) ∧ (r = 0 ∨ u.1 = ((g 50) + 1)) ∧ (¬ u.1 < 0) ∧ (u.1 ≤ 64)) (fun (u : (Int32) × (Int32) × (Int32)) t => va_P (dC, dI) vwCl [(mq, .inr (12, mF (upd (upd (upd g 4 u.2.1) 5 u.2.2) 50 u.1) gl rf))] t.heap ∧ va_K (dC, dI) vwCl [] t ∧ va_D (va_A [(mq, .inr (12, mF g gl rf))] sz) [(mq, .inr (12, mF (upd (upd (upd g 4 u.2.1) 5 u.2.2) 50 u.1) gl rf))]) (va_A [(mq, .inr (12, mF g gl rf))] sz)) 0 0 (va_A [(mq, .inr (12, mF g gl rf))] sz) := by
  refine Met.ofW (cc := cX12_isCounted) (maxL := 1) (ret := (some .boolean)) (by decide) rfl ?_
  intro p e s m args below meth c s₁ B hml hv
  obtain ⟨rfl, hsz, hP, hK, hD0⟩ := hv
  have hx := B.exec
  have hb := B.bytes
  have hr := B.returns
  have hts := atoms_spec (ws := Cond.code yX12_isCounted cX12_isCounted 1 (some .boolean) :: wsL_law) B.pre
  have htw : ∀ w ∈ wsL_law, w.before _ s = true := fun w h => hts w (List.mem_cons_of_mem _ h)
  have hown : s.vm.findClass RX12 = some m.cls := findClass_of_methodNamed B.named
  have hlocks := B.notSynchronized
  subst hsz
  have hD := hD0.self (sz := s.heap.size)
  generalize hAe : va_A [(mq, .inr (12, mF g gl rf))] s.heap.size = A at hD ⊢
  have hA : ∀ q : Nat, s.heap.size ≤ q → A q := fun q h => by rw [← hAe]; exact Or.inr h
  obtain ⟨H, rH⟩ : ∃ z : Heap, z = s.heap := ⟨_, rfl⟩
  have hS : va_S A s.heap H [] := by rw [rH]; exact va_S.rf
  have hP : va_P (dC, dI) vwCl [(mq, .inr (12, mF g gl rf))] H := by rw [rH]; exact hP
  rw [← rH]
  have hl := lv_entry ([.ref mq]) (n := 1) (Nat.le_of_ble_eq_true rfl)
  rw [lg_entry_eq]
  generalize (lg_sl ([.ref mq]) ++ List.replicate (1 - (lg_sl ([.ref mq])).length) Slot.unset).toArray = ls at hl ⊢
  have hl : lv_has ls 1 [(0, .ref mq)] := hl
  refine lv_aload_n hx hb dX12_isCounted_0 rfl (lv_at hl 0 rfl) ?_
  refine va_get (D := (dC, dI)) (ci := 12) (v := .int (g 50)) (C := RX12) (T := TX12) (N := 76) hx hb htw inlX12 hown hK hP 0 rfl rfl 50 (by decide) (htw _ (ck_11 _ (List.mem_of_getElem? (i := 1) rfl))) (fun _ h9 => h9) rfl dX12_isCounted_1 ?_
  refine lv_bipush (v := 64) hx hb dX12_isCounted_4 (by decide) ?_
  refine lv_icmp_ne (tgt := 15) hx hb dX12_isCounted_6 (by decide) (fun c_1 => ?_) (fun c_1 => ?_)
  · refine lv_aload_n hx hb dX12_isCounted_15 rfl (lv_at hl 0 rfl) ?_
    refine lv_dup hx hb dX12_isCounted_16 rfl ?_
    refine va_get (D := (dC, dI)) (ci := 12) (v := .int (g 50)) (C := RX12) (T := TX12) (N := 76) hx hb htw inlX12 hown hK hP 0 rfl rfl 50 (by decide) (htw _ (ck_11 _ (List.mem_of_getElem? (i := 1) rfl))) (fun _ h9 => h9) rfl dX12_isCounted_17 ?_
    refine lv_iconst (v := 1) hx hb dX12_isCounted_20 (by decide) ?_
    refine lv_iadd hx hb dX12_isCounted_21 ?_
    refine va_put (D := (dC, dI)) (ci := 12) (v := .int ((g 50) + 1)) (ty := tyX12 50) (C := RX12) (T := TX12) (N := 76) hx hb htw inlX12 tyX12 tyX12_ok nmX12 hown hK hP hD hS 0 rfl rfl 50 (by decide) (htw _ (ck_11 _ (List.mem_of_getElem? (i := 1) rfl))) (fun _ h9 => h9) rfl (tyX12_ok 50 (by decide)) rfl rfl (Nat.le_of_ble_eq_true rfl) dX12_isCounted_22 (fun H locs hP hD hS => ?_)
    obtain ⟨hP, hD⟩ := zre [(mq, .inr (12, mF (upd g 50 ((g 50) + 1)) gl rf))] hP hD rfl
    refine lv_iconst (v := 1) hx hb dX12_isCounted_25 (by decide) ?_
    refine W.widen (k := 0) (n := 0) (by omega) (by omega) ?_
    have hP9 := hP
    have hD9 := hD
    have hK9 := hK.sub (tys' := []) [] rfl
    exact W.zret (v := 1) hx hb hr (by first | rfl | decide) (fun t ht hW => ⟨⟨1, (((g 50) + 1), (g 4), (g 5)), rfl, ⟨((fun e9 => ⟨by rw [e9], by rw [e9]⟩ : fq_isCounted (g 4) (g 5) (g 10) (g 50) = ((1 : Int32), ((g 50) + 1), (g 4), (g 5)) → _) ((by rw [fq_isCounted]; (try rw [if_neg c_1]); try rfl))), Or.inr rfl, (Or.inr (gy_isCounted_s0 (y0 := g 50) hct6)), (gy_isCounted_s1 (y0 := g 50) hct0 hct6), (gy_isCounted_s2 (y0 := g 50) c_1 hct6)⟩, by rw [ht]; exact hP9, va_K.moved hW.alike hK9, hD9⟩, hS.F ht⟩) hS.2.2 dX12_isCounted_26
  · refine lv_aload_n hx hb dX12_isCounted_9 rfl (lv_at hl 0 rfl) ?_
    refine lv_iconst (v := 2) hx hb dX12_isCounted_10 (by decide) ?_
    obtain ⟨hPc, hDc, hFc, hCc⟩ := zsub3 (ws' := [(mq, .inr (12, mF g gl rf))]) hP hD hS hA [0] (by decide) rfl
    have hKc := hK.sub (tys' := []) [] rfl
    refine va_calli (va_runV (As := [.int 2]) (rest := []) ⟨hx, hb, hml, hown, htw⟩ (gq_wrong l dC dI mq g gl rf (2 : Int32) H.size) (cwV 1 htw (xg_V (ck_25 _ (List.mem_of_getElem? (i := 21) rfl)) (ck_25 _ (List.mem_of_getElem? (i := 22) rfl)) (ck_25 _ (List.mem_of_getElem? (i := 23) rfl)) (ck_1 _ (List.mem_of_getElem? (i := 5) rfl)) (ck_26 _ (List.mem_of_getElem? (i := 0) rfl))) rfl rfl rfl (by exact ⟨rfl, hdc_14.1, hdc_14.2, hdd_26⟩) ⟨Nat.le_of_ble_eq_true rfl, Nat.le_of_ble_eq_true rfl⟩) ⟨fun a U g mk q => by obtain ⟨q0, q1, qP, qK, qD⟩ := q; exact ⟨q0, q1, qP, va_K.moved (u := U) (U := U.calling g mk a) (Vm.Alike.refl U.vm) qK, qD⟩, va_recv hKc hPc (ci := 12) (q0 := 0) rfl rfl, fun U hU hW => ⟨rfl, by rw [hU], by rw [hU]; exact hPc, va_K.moved hW.alike hKc, hDc.weaken (fun _ _ _ _ => trivial)⟩⟩ rfl rfl hl.1 rfl (lv_room (Nat.le_of_ble_eq_true rfl)) dX12_isCounted_11 ⟨Nat.le_of_ble_eq_true rfl, Nat.le_of_ble_eq_true rfl⟩) hS (fun q _ h => hFc q h) hFc (fun r_2 u_3 t H1 locs ht hvm hw hB hz1 hk1 hS => ?_)
    try dsimp only at hw
    obtain ⟨hP1, hK1, hD1⟩ := hB
    rw [ht] at hP1
    have hK1 := va_K.moved hvm.symm hK1
    have hK1 : va_K (dC, dI) vwCl [] s := hK1
    obtain ⟨hP, hD⟩ := va_join (wr := []) (w1 := [(mq, .inr (12, mF (upd (upd g 4 u_3.1) 5 u_3.2) gl rf))]) hP hD [0] [] hCc rfl (by decide) (by decide) hk1 hFc hP1 hD1
    generalize H1 = H at hP hS ⊢
    have hP : va_P (dC, dI) vwCl [(mq, .inr (12, mF (upd (upd g 4 u_3.1) 5 u_3.2) gl rf))] H := hP
    have hD : va_D A [(mq, .inr (12, mF (upd (upd g 4 u_3.1) 5 u_3.2) gl rf))] := hD
    refine W.widen (k := 0) (n := 0) (by omega) (by omega) ?_
    obtain ⟨hw, hb_r_2, hp_6⟩ := hw
    obtain ⟨X_7, hX_7⟩ : ∃ X9 : Int32 × (Int32) × (Int32), X9 = (fq_wrong (2 : Int32) (g 10)) := ⟨_, rfl⟩
    have hq_r_2 : r_2 = X_7.1 := by rw [hX_7]; exact hw.1
    have hq_u_3 : u_3 = X_7.2 := by rw [hX_7]; exact hw.2
    refine W.widen (k := 0) (n := 0) (by omega) (by omega) ?_
    have hP9 := hP
    have hD9 := hD
    have hK9 := hK.sub (tys' := []) [] rfl
    exact W.zret (v := r_2) hx hb hr (xz_nar hb_r_2) (fun t ht hW => ⟨⟨r_2, ((g 50), u_3.1, u_3.2), rfl, ⟨((fun e9 => ⟨by rw [e9], by rw [e9]⟩ : fq_isCounted (g 4) (g 5) (g 10) (g 50) = (r_2, (g 50), u_3.1, u_3.2) → _) ((by rw [fq_isCounted]; (try rw [if_pos c_1]); (try rw [← hX_7]); (try rw [xL_eq]); (try rw [← hq_r_2]); (try rw [← hq_u_3]); try rfl))), hb_r_2, (Or.inl hp_6), hct0, hct6⟩, by rw [ht]; exact hP9, va_K.moved hW.alike hK9, hD9⟩, hS.F ht⟩) hS.2.2 dX12_isCounted_14

theorem gy_dropHeld_s0 {y0 : Int32} (h0 : ¬ (y0 < 1)) (h1 : y0 ≤ 96) : ¬ ((y0 - 1) < 0) ∧ ¬ (96 ≤ (y0 - 1)) := by lia
theorem gy_dropHeld_s1 {y0 : Int32} (h0 : ¬ (y0 < 1)) : (y0 - 1) = (y0 - 1) := by lia
set_option maxHeartbeats 4000000 in
set_option maxRecDepth 100000 in
theorem gy_dropHeld (l : Launch) (dC : Nat → ClassId) (dI : Nat → Nat → Nat) (mq : Nat) (g : Nat → Int32) (gl : Nat → Int64) (rf : Nat → Nat) (ck : Nat → ClassId) (f_held : Nat → Int32) (sz : Nat) (hh1 : ¬ (g 48) < 1) (hh9 : (g 48) ≤ 96) : Met l yX12_dropHeld (Cond.code yX12_dropHeld cX12_dropHeld 1 (some .int) :: wsL_law) ({ frames := 0, cells := 0, slots := 0, locals := 0 }) (va_Pc [.ref mq] (fun U => U.heap.size = sz ∧ va_P (dC, dI) vwCl [(mq, .inr (12, mF g gl rf)), (eA0 (rf 46) (ck 46) 96 f_held)] U.heap ∧ va_K (dC, dI) vwCl [((ck 46), .int)] U ∧ va_D (fun _ => True) [(mq, .inr (12, mF g gl rf)), (eA0 (rf 46) (ck 46) 96 f_held)])) (va_Qi (fun (r : Int32) (u : (Int32)) => (r = (fq_dropHeld f_held (g 48)).1 ∧ u = (fq_dropHeld f_held (g 48)).2) ∧ (u = ((g 48) - 1))) (fun (u : (Int32)) t => va_P (dC, dI) vwCl [(mq, .inr (12, mF (upd g 48 u) gl rf)), (eA0 (rf 46) (ck 46) 96 f_held)] t.heap ∧ va_K (dC, dI) vwCl [] t ∧ va_D (va_A [(mq, .inr (12, mF g gl rf)), (eA0 (rf 46) (ck 46) 96 f_held)] sz) [(mq, .inr (12, mF (upd g 48 u) gl rf)), (eA0 (rf 46) (ck 46) 96 f_held)]) (va_A [(mq, .inr (12, mF g gl rf)), (eA0 (rf 46) (ck 46) 96 f_held)] sz)) 0 0 (va_A [(mq, .inr (12, mF g gl rf)), (eA0 (rf 46) (ck 46) 96 f_held)] sz) := by
  refine Met.ofW (cc := cX12_dropHeld) (maxL := 1) (ret := (some .int)) (by decide) rfl ?_
  intro p e s m args below meth c s₁ B hml hv
  obtain ⟨rfl, hsz, hP, hK, hD0⟩ := hv
  have hx := B.exec
  have hb := B.bytes
  have hr := B.returns
  have hts := atoms_spec (ws := Cond.code yX12_dropHeld cX12_dropHeld 1 (some .int) :: wsL_law) B.pre
  have htw : ∀ w ∈ wsL_law, w.before _ s = true := fun w h => hts w (List.mem_cons_of_mem _ h)
  have hown : s.vm.findClass RX12 = some m.cls := findClass_of_methodNamed B.named
  have hlocks := B.notSynchronized
  subst hsz
  have hD := hD0.self (sz := s.heap.size)
  generalize hAe : va_A [(mq, .inr (12, mF g gl rf)), (eA0 (rf 46) (ck 46) 96 f_held)] s.heap.size = A at hD ⊢
  have hA : ∀ q : Nat, s.heap.size ≤ q → A q := fun q h => by rw [← hAe]; exact Or.inr h
  obtain ⟨H, rH⟩ : ∃ z : Heap, z = s.heap := ⟨_, rfl⟩
  have hS : va_S A s.heap H [] := by rw [rH]; exact va_S.rf
  have hP : va_P (dC, dI) vwCl [(mq, .inr (12, mF g gl rf)), (eA0 (rf 46) (ck 46) 96 f_held)] H := by rw [rH]; exact hP
  rw [← rH]
  have hl := lv_entry ([.ref mq]) (n := 1) (Nat.le_of_ble_eq_true rfl)
  rw [lg_entry_eq]
  generalize (lg_sl ([.ref mq]) ++ List.replicate (1 - (lg_sl ([.ref mq])).length) Slot.unset).toArray = ls at hl ⊢
  have hl : lv_has ls 1 [(0, .ref mq)] := hl
  refine lv_aload_n hx hb dX12_dropHeld_0 rfl (lv_at hl 0 rfl) ?_
  refine lv_dup hx hb dX12_dropHeld_1 rfl ?_
  refine va_get (D := (dC, dI)) (ci := 12) (v := .int (g 48)) (C := RX12) (T := TX12) (N := 76) hx hb htw inlX12 hown hK hP 0 rfl rfl 48 (by decide) (htw _ (ck_27 _ (List.mem_of_getElem? (i := 17) rfl))) (fun _ h9 => h9) rfl dX12_dropHeld_2 ?_
  refine lv_iconst (v := 1) hx hb dX12_dropHeld_5 (by decide) ?_
  refine lv_isub hx hb dX12_dropHeld_6 ?_
  refine va_put (D := (dC, dI)) (ci := 12) (v := .int ((g 48) - 1)) (ty := tyX12 48) (C := RX12) (T := TX12) (N := 76) hx hb htw inlX12 tyX12 tyX12_ok nmX12 hown hK hP hD hS 0 rfl rfl 48 (by decide) (htw _ (ck_27 _ (List.mem_of_getElem? (i := 17) rfl))) (fun _ h9 => h9) rfl (tyX12_ok 48 (by decide)) rfl rfl (Nat.le_of_ble_eq_true rfl) dX12_dropHeld_7 (fun H locs hP hD hS => ?_)
  obtain ⟨hP, hD⟩ := zre [(mq, .inr (12, mF (upd g 48 ((g 48) - 1)) gl rf)), (eA0 (rf 46) (ck 46) 96 f_held)] hP hD rfl
  refine lv_aload_n hx hb dX12_dropHeld_10 rfl (lv_at hl 0 rfl) ?_
  refine va_get (D := (dC, dI)) (ci := 12) (v := .ref (rf 46)) (C := RX12) (T := TX12) (N := 76) hx hb htw inlX12 hown hK hP 0 rfl rfl 46 (by decide) (htw _ (ck_10 _ (List.mem_of_getElem? (i := 1) rfl))) (fun _ h9 => h9) rfl dX12_dropHeld_11 ?_
  refine lv_aload_n hx hb dX12_dropHeld_14 rfl (lv_at hl 0 rfl) ?_
  refine va_get (D := (dC, dI)) (ci := 12) (v := .int ((g 48) - 1)) (C := RX12) (T := TX12) (N := 76) hx hb htw inlX12 hown hK hP 0 rfl rfl 48 (by decide) (htw _ (ck_27 _ (List.mem_of_getElem? (i := 17) rfl))) (fun _ h9 => h9) rfl dX12_dropHeld_15 ?_
  refine va_iald hx hb hK hP 1 0 rfl rfl (xg_inr (N := 96) rfl (gy_dropHeld_s0 (y0 := g 48) hh1 hh9).1 (gy_dropHeld_s0 (y0 := g 48) hh1 hh9).2) dX12_dropHeld_18 ?_
  refine W.widen (k := 0) (n := 0) (by omega) (by omega) ?_
  have hP9 := hP
  have hD9 := hD
  have hK9 := hK.sub (tys' := []) [] rfl
  exact W.iret (v := f_held (((g 48) - 1).toNatClampNeg)) hx hb hr (fun t ht hW => ⟨⟨f_held (((g 48) - 1).toNatClampNeg), ((g 48) - 1), rfl, ⟨((fun e9 => ⟨by rw [e9], by rw [e9]⟩ : fq_dropHeld f_held (g 48) = (f_held (((g 48) - 1).toNatClampNeg), ((g 48) - 1)) → _) ((by rw [fq_dropHeld]))), (gy_dropHeld_s1 (y0 := g 48) hh1)⟩, by rw [ht]; exact hP9, va_K.moved hW.alike hK9, hD9⟩, hS.F ht⟩) hS.2.2 dX12_dropHeld_19
