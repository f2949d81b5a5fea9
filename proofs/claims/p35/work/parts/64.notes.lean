theorem xn_b {n j : Int32} (h0 : ¬ n < 0) (h2 : n ≤ 11) (j0 : ¬ j < 0) (j9 : j ≤ 10) : vp_in ((11 * n) + j) 264 := by
  have a0 := xi_nn h0
  have a2 := xi_le h2
  have b0 := xi_nn j0
  have b9 := xi_le j9
  have e11 : (11 : Int32).toInt = 11 := rfl
  have e10 : (10 : Int32).toInt = 10 := rfl
  have q1 : (11 * n.toInt).bmod (2 ^ 32) = 11 * n.toInt := Int.bmod_eq_of_le (by omega) (by omega)
  have q2 : (11 * n.toInt + j.toInt).bmod (2 ^ 32) = 11 * n.toInt + j.toInt := Int.bmod_eq_of_le (by omega) (by omega)
  rw [vp_in_iff, Int32.toInt_add, Int32.toInt_mul, e11, q1, q2]
  omega
theorem xn_a {n : Int32} (h0 : ¬ n < 0) (h2 : n ≤ 11) : vp_in (11 * n) 264 := by
  have a0 := xi_nn h0
  have a2 := xi_le h2
  have e11 : (11 : Int32).toInt = 11 := rfl
  have q1 : (11 * n.toInt).bmod (2 ^ 32) = 11 * n.toInt := Int.bmod_eq_of_le (by omega) (by omega)
  rw [vp_in_iff, Int32.toInt_mul, e11, q1]
  omega
theorem xn_c {n : Int32} (h1 : ¬ n < 1) (h2 : n ≤ 12) : vp_in ((11 * n) - 11) 264 := by
  have a0 := xi_le (Int32.not_lt.mp h1)
  have a2 := xi_le h2
  have e1 : (1 : Int32).toInt = 1 := rfl
  have e12 : (12 : Int32).toInt = 12 := rfl
  have e11 : (11 : Int32).toInt = 11 := rfl
  have q1 : (11 * n.toInt).bmod (2 ^ 32) = 11 * n.toInt := Int.bmod_eq_of_le (by omega) (by omega)
  have q2 : (11 * n.toInt - 11).bmod (2 ^ 32) = 11 * n.toInt - 11 := Int.bmod_eq_of_le (by omega) (by omega)
  rw [vp_in_iff, Int32.toInt_sub, Int32.toInt_mul, e11, q1, q2]
  omega

def fq_note_d (m_notes : Int32) : Nat → (Int32) → (Nat → Int32) → (Int32) × (Nat → Int32)
  | 0, L1d, f_noteHas_d => (L1d, f_noteHas_d)
  | n + 1, L1d, f_noteHas_d => (if 11 ≤ L1d then (L1d, f_noteHas_d) else fq_note_d m_notes n (L1d + 1) (upd f_noteHas_d (((11 * m_notes) + L1d).toNatClampNeg) 0))
def fq_note (f_noteHas : Nat → Int32) (f_undo : Nat → Int32) (m_notes : Int32) (m_undos : Int32) : Int32 × (Int32) × (Int32) × (Int32) × (Nat → Int32) × (Nat → Int32) := (if m_notes = 12 then ((-1 : Int32), (0 : Int32), m_notes, m_undos, f_noteHas, f_undo) else (xL (fq_note_d m_notes 11 (0 : Int32) f_noteHas) (fun X_2 => (((m_notes + 1) - 1), (0 : Int32), (m_notes + 1), (m_undos + 1), X_2.2, (upd f_undo (m_undos.toNatClampNeg) (-1))))))
theorem gq_note_s0 {y0 : Int32} (h0 : ¬ (y0 < 0)) (h1 : y0 < 128) : ¬ (y0 < 0) ∧ ¬ (128 ≤ y0) := by lia
theorem gq_note_s1 {y0 : Int32} (h0 : ¬ (y0 = 12)) (h1 : ¬ (y0 < 0)) (h2 : y0 ≤ 12) : ¬ (y0 < 0) ∧ y0 ≤ 11 := by lia
theorem gq_note_s2 {y0 : Int32} (h0 : ¬ (11 ≤ y0)) (h1 : ¬ (y0 < 0)) : ¬ (y0 < 0) ∧ y0 ≤ 10 := by lia
theorem gq_note_s3 {y0 : Int32} (h0 : ¬ (11 ≤ y0)) (h1 : ¬ (y0 < 0)) : ¬ ((y0 + 1) < 0) := by lia
theorem gq_note_s4  : ¬ ((0 : Int32) < 0) := (by decide)
theorem dX12_note_0 : decode cX12_note 0 = .ok (.aload_n 0, 1) := zk_42 (by decide +kernel)
theorem dX12_note_1 : decode cX12_note 1 = .ok (.iconst 0, 1) := zk_3 (by decide +kernel)
theorem dX12_note_2 : decode cX12_note 2 = .ok (.putfield 119, 3) := zk_181 (by decide +kernel)
theorem dX12_note_5 : decode cX12_note 5 = .ok (.aload_n 0, 1) := zk_42 (by decide +kernel)
theorem dX12_note_6 : decode cX12_note 6 = .ok (.getfield 229, 3) := zk_180 (by decide +kernel)
theorem dX12_note_9 : decode cX12_note 9 = .ok (.bipush 12, 2) := zk_16 (by decide +kernel)
theorem dX12_note_11 : decode cX12_note 11 = .ok (.if_icmp .ne 5, 3) := zk_160 (by decide +kernel)
theorem dX12_note_16 : decode cX12_note 16 = .ok (.iconst 0, 1) := zk_3 (by decide +kernel)
theorem dX12_note_17 : decode cX12_note 17 = .ok (.istore_n 1, 1) := zk_60 (by decide +kernel)
theorem dX12_note_45 : decode cX12_note 45 = .ok (.aload_n 0, 1) := zk_42 (by decide +kernel)
theorem dX12_note_46 : decode cX12_note 46 = .ok (.dup, 1) := zk_89 (by decide +kernel)
theorem dX12_note_47 : decode cX12_note 47 = .ok (.getfield 229, 3) := zk_180 (by decide +kernel)
theorem dX12_note_50 : decode cX12_note 50 = .ok (.iconst 1, 1) := zk_4 (by decide +kernel)
theorem dX12_note_51 : decode cX12_note 51 = .ok (.iadd, 1) := zk_96 (by decide +kernel)
theorem dX12_note_52 : decode cX12_note 52 = .ok (.putfield 229, 3) := zk_181 (by decide +kernel)
theorem dX12_note_55 : decode cX12_note 55 = .ok (.aload_n 0, 1) := zk_42 (by decide +kernel)
theorem dX12_note_56 : decode cX12_note 56 = .ok (.getfield 84, 3) := zk_180 (by decide +kernel)
theorem dX12_note_59 : decode cX12_note 59 = .ok (.aload_n 0, 1) := zk_42 (by decide +kernel)
theorem dX12_note_60 : decode cX12_note 60 = .ok (.getfield 249, 3) := zk_180 (by decide +kernel)
theorem dX12_note_63 : decode cX12_note 63 = .ok (.iconst (-1), 1) := zk_2 (by decide +kernel)
theorem dX12_note_64 : decode cX12_note 64 = .ok (.iastore, 1) := zk_79 (by decide +kernel)
theorem dX12_note_65 : decode cX12_note 65 = .ok (.aload_n 0, 1) := zk_42 (by decide +kernel)
theorem dX12_note_66 : decode cX12_note 66 = .ok (.dup, 1) := zk_89 (by decide +kernel)
theorem dX12_note_67 : decode cX12_note 67 = .ok (.getfield 249, 3) := zk_180 (by decide +kernel)
theorem dX12_note_70 : decode cX12_note 70 = .ok (.iconst 1, 1) := zk_4 (by decide +kernel)
theorem dX12_note_71 : decode cX12_note 71 = .ok (.iadd, 1) := zk_96 (by decide +kernel)
theorem dX12_note_72 : decode cX12_note 72 = .ok (.putfield 249, 3) := zk_181 (by decide +kernel)
theorem dX12_note_75 : decode cX12_note 75 = .ok (.aload_n 0, 1) := zk_42 (by decide +kernel)
theorem dX12_note_76 : decode cX12_note 76 = .ok (.getfield 229, 3) := zk_180 (by decide +kernel)
theorem dX12_note_79 : decode cX12_note 79 = .ok (.iconst 1, 1) := zk_4 (by decide +kernel)
theorem dX12_note_80 : decode cX12_note 80 = .ok (.isub, 1) := zk_100 (by decide +kernel)
theorem dX12_note_81 : decode cX12_note 81 = .ok (.ireturn, 1) := zk_172 (by decide +kernel)
theorem dX12_note_18 : decode cX12_note 18 = .ok (.iload_n 1, 1) := zk_27 (by decide +kernel)
theorem dX12_note_19 : decode cX12_note 19 = .ok (.bipush 11, 2) := zk_16 (by decide +kernel)
theorem dX12_note_21 : decode cX12_note 21 = .ok (.if_icmp .ge 24, 3) := zk_162 (by decide +kernel)
theorem dX12_note_24 : decode cX12_note 24 = .ok (.aload_n 0, 1) := zk_42 (by decide +kernel)
theorem dX12_note_25 : decode cX12_note 25 = .ok (.getfield 60, 3) := zk_180 (by decide +kernel)
theorem dX12_note_28 : decode cX12_note 28 = .ok (.bipush 11, 2) := zk_16 (by decide +kernel)
theorem dX12_note_30 : decode cX12_note 30 = .ok (.aload_n 0, 1) := zk_42 (by decide +kernel)
theorem dX12_note_31 : decode cX12_note 31 = .ok (.getfield 229, 3) := zk_180 (by decide +kernel)
theorem dX12_note_34 : decode cX12_note 34 = .ok (.imul, 1) := zk_104 (by decide +kernel)
theorem dX12_note_35 : decode cX12_note 35 = .ok (.iload_n 1, 1) := zk_27 (by decide +kernel)
theorem dX12_note_36 : decode cX12_note 36 = .ok (.iadd, 1) := zk_96 (by decide +kernel)
theorem dX12_note_37 : decode cX12_note 37 = .ok (.iconst 0, 1) := zk_3 (by decide +kernel)
theorem dX12_note_38 : decode cX12_note 38 = .ok (.iastore, 1) := zk_79 (by decide +kernel)
theorem dX12_note_39 : decode cX12_note 39 = .ok (.iinc 1 1, 3) := zk_132 (by decide +kernel)
theorem dX12_note_42 : decode cX12_note 42 = .ok (.goto (-24), 3) := zk_167 (by decide +kernel)
theorem dX12_note_14 : decode cX12_note 14 = .ok (.iconst (-1), 1) := zk_2 (by decide +kernel)
theorem dX12_note_15 : decode cX12_note 15 = .ok (.ireturn, 1) := zk_172 (by decide +kernel)
set_option maxHeartbeats 4000000 in
set_option maxRecDepth 100000 in
theorem gq_note (l : Launch) (dC : Nat → ClassId) (dI : Nat → Nat → Nat) (mq : Nat) (g : Nat → Int32) (gl : Nat → Int64) (rf : Nat → Nat) (ck : Nat → ClassId) (f_noteHas : Nat → Int32) (f_undo : Nat → Int32) (sz : Nat) (hnt0 : ¬ (g 16) < 0) (hnt2 : (g 16) ≤ 12) (hun0 : ¬ (g 59) < 0) (hun8 : (g 59) < 128) : Met l yX12_note (Cond.code yX12_note cX12_note 2 (some .int) :: wsL_law) ({ frames := 0, cells := 0, slots := 0, locals := 0 }) (va_Pc [.ref mq] (fun U => U.heap.size = sz ∧ va_P (dC, dI) vwCl [(mq, .inr (12, mF g gl rf)), (eA0 (rf 40) (ck 40) 264 f_noteHas), (eA0 (rf 60) (ck 60) 128 f_undo)] U.heap ∧ va_K (dC, dI) vwCl [((ck 40), .int), ((ck 60), .int)] U ∧ va_D (fun _ => True) [(mq, .inr (12, mF g gl rf)), (eA0 (rf 40) (ck 40) 264 f_noteHas), (eA0 (rf 60) (ck 60) 128 f_undo)])) (va_Qi (fun (r : Int32) (u : (Int32) × (Int32) × (Int32) × (Nat → Int32) × (Nat → Int32)) => r = (fq_note f_noteHas f_undo (g 16) (g 59)).1 ∧ u = (fq_note f_noteHas f_undo (g 16) (g 59)).2) (fun (u : (Int32) × (Int32) × (Int32) × (Nat → Int32) × (Nat → Int32)) t => va_P (dC, dI) vwCl [(mq, .inr (12, mF (upd (upd (upd g 2 u.1) 16 u.2.1) 59 u.2.2.1) gl rf)), (eA0 (rf 40) (ck 40) 264 u.2.2.2.1), (eA0 (rf 60) (ck 60) 128 u.2.2.2.2)] t.heap ∧ va_K (dC, dI) vwCl [] t ∧ va_D (va_A [(mq, .inr (12, mF g gl rf)), (eA0 (rf 40) (ck 40) 264 f_noteHas), (eA0 (rf 60) (ck 60) 128 f_undo)] sz) [(mq, .inr (12, mF (upd (upd (upd g 2 u.1) 16 u.2.1) 59 u.2.2.1) gl rf)), (eA0 (rf 40) (ck 40) 264 u.2.2.2.1), (eA0 (rf 60) (ck 60) 128 u.2.2.2.2)]) (va_A [(mq, .inr (12, mF g gl rf)), (eA0 (rf 40) (ck 40) 264 f_noteHas), (eA0 (rf 60) (ck 60) 128 f_undo)] sz)) 0 0 (va_A [(mq, .inr (12, mF g gl rf)), (eA0 (rf 40) (ck 40) 264 f_noteHas), (eA0 (rf 60) (ck 60) 128 f_undo)] sz) := by
  refine Met.ofW (cc := cX12_note) (maxL := 2) (ret := (some .int)) (by decide) rfl ?_
  intro p e s m args below meth c s₁ B hml hv
  obtain ⟨rfl, hsz, hP, hK, hD0⟩ := hv
  have hx := B.exec
  have hb := B.bytes
  have hr := B.returns
  have hts := atoms_spec (ws := Cond.code yX12_note cX12_note 2 (some .int) :: wsL_law) B.pre
  have htw : ∀ w ∈ wsL_law, w.before _ s = true := fun w h => hts w (List.mem_cons_of_mem _ h)
  have hown : s.vm.findClass RX12 = some m.cls := findClass_of_methodNamed B.named
  have hlocks := B.notSynchronized
  subst hsz
  have hD := hD0.self (sz := s.heap.size)
  generalize hAe : va_A [(mq, .inr (12, mF g gl rf)), (eA0 (rf 40) (ck 40) 264 f_noteHas), (eA0 (rf 60) (ck 60) 128 f_undo)] s.heap.size = A at hD ⊢
  have hA : ∀ q : Nat, s.heap.size ≤ q → A q := fun q h => by rw [← hAe]; exact Or.inr h
  obtain ⟨H, rH⟩ : ∃ z : Heap, z = s.heap := ⟨_, rfl⟩
  have hS : va_S A s.heap H [] := by rw [rH]; exact va_S.rf
  have hP : va_P (dC, dI) vwCl [(mq, .inr (12, mF g gl rf)), (eA0 (rf 40) (ck 40) 264 f_noteHas), (eA0 (rf 60) (ck 60) 128 f_undo)] H := by rw [rH]; exact hP
  rw [← rH]
  have hl := lv_entry ([.ref mq]) (n := 2) (Nat.le_of_ble_eq_true rfl)
  rw [lg_entry_eq]
  generalize (lg_sl ([.ref mq]) ++ List.replicate (2 - (lg_sl ([.ref mq])).length) Slot.unset).toArray = ls at hl ⊢
  have hl : lv_has ls 2 [(0, .ref mq)] := hl
  refine lv_aload_n hx hb dX12_note_0 rfl (lv_at hl 0 rfl) ?_
  refine lv_iconst (v := 0) hx hb dX12_note_1 (by decide) ?_
  refine va_put (D := (dC, dI)) (ci := 12) (v := .int 0) (ty := tyX12 2) (C := RX12) (T := TX12) (N := 76) hx hb htw inlX12 tyX12 tyX12_ok nmX12 hown hK hP hD hS 0 rfl rfl 2 (by decide) (htw _ (ck_12 _ (List.mem_of_getElem? (i := 16) rfl))) (fun _ h9 => h9) rfl (tyX12_ok 2 (by decide)) rfl rfl (Nat.le_of_ble_eq_true rfl) dX12_note_2 (fun H locs hP hD hS => ?_)
  obtain ⟨hP, hD⟩ := zre [(mq, .inr (12, mF (upd g 2 0) gl rf)), (eA0 (rf 40) (ck 40) 264 f_noteHas), (eA0 (rf 60) (ck 60) 128 f_undo)] hP hD rfl
  refine lv_aload_n hx hb dX12_note_5 rfl (lv_at hl 0 rfl) ?_
  refine va_get (D := (dC, dI)) (ci := 12) (v := .int (g 16)) (C := RX12) (T := TX12) (N := 76) hx hb htw inlX12 hown hK hP 0 rfl rfl 16 (by decide) (htw _ (ck_11 _ (List.mem_of_getElem? (i := 13) rfl))) (fun _ h9 => h9) rfl dX12_note_6 ?_
  refine lv_bipush (v := 12) hx hb dX12_note_9 (by decide) ?_
  refine lv_icmp_ne (tgt := 16) hx hb dX12_note_11 (by decide) (fun c_1 => ?_) (fun c_1 => ?_)
  · refine lv_iconst (v := 0) hx hb dX12_note_16 (by decide) ?_
    refine lv_istore_n (lv' := [(1, .int 0), (0, .ref mq)]) hx hb dX12_note_17 rfl hl (by decide) rfl (fun ls hl => ?_)
    obtain ⟨X_2, hX_2⟩ : ∃ X9 : (Int32) × (Nat → Int32), X9 = fq_note_d (g 16) 11 (0 : Int32) f_noteHas := ⟨_, rfl⟩
    have hexit_3 : ∀ (L1dx : Int32) (f_noteHas_dx : Nat → Int32)  (hE9 : X_2 = (L1dx, f_noteHas_dx)) (H : Heap) (locs : List Loc) (ls : Array Slot) (hP : va_P (dC, dI) vwCl [(mq, .inr (12, mF (upd g 2 0) gl rf)), (eA0 (rf 40) (ck 40) 264 f_noteHas_dx), (eA0 (rf 60) (ck 60) 128 f_undo)] H) (hD : va_D A [(mq, .inr (12, mF (upd g 2 0) gl rf)), (eA0 (rf 40) (ck 40) 264 f_noteHas_dx), (eA0 (rf 60) (ck 60) 128 f_undo)]) (hS : va_S A s.heap H locs) (hl : lv_has ls 2 [(1, .int L1dx), (0, .ref mq)]), W p l e (headSpec (Cond.code yX12_note cX12_note 2 (some .int) :: wsL_law) ({ frames := 0, cells := 0, slots := 0, locals := 0 })).room s m ([.ref mq] : List Value).toArray below meth c H locs 0 0 (MQ below (va_Qi (fun (r : Int32) (u : (Int32) × (Int32) × (Int32) × (Nat → Int32) × (Nat → Int32)) => r = (fq_note f_noteHas f_undo (g 16) (g 59)).1 ∧ u = (fq_note f_noteHas f_undo (g 16) (g 59)).2) (fun (u : (Int32) × (Int32) × (Int32) × (Nat → Int32) × (Nat → Int32)) t => va_P (dC, dI) vwCl [(mq, .inr (12, mF (upd (upd (upd g 2 u.1) 16 u.2.1) 59 u.2.2.1) gl rf)), (eA0 (rf 40) (ck 40) 264 u.2.2.2.1), (eA0 (rf 60) (ck 60) 128 u.2.2.2.2)] t.heap ∧ va_K (dC, dI) vwCl [] t ∧ va_D A [(mq, .inr (12, mF (upd (upd (upd g 2 u.1) 16 u.2.1) 59 u.2.2.1) gl rf)), (eA0 (rf 40) (ck 40) 264 u.2.2.2.1), (eA0 (rf 60) (ck 60) 128 u.2.2.2.2)]) A) ([.ref mq] : List Value).toArray s 0 0 A) (F0 m 45 ls []) := by
      intro L1dx f_noteHas_dx  hE9 H locs ls hP hD hS hl
      have hq_L1dx : L1dx = X_2.1 := by rw [hE9]
      have hq_f_noteHas_dx : f_noteHas_dx = X_2.2 := by rw [hE9]
      refine lv_aload_n hx hb dX12_note_45 rfl (lv_at hl 1 rfl) ?_
      refine lv_dup hx hb dX12_note_46 rfl ?_
      refine va_get (D := (dC, dI)) (ci := 12) (v := .int (g 16)) (C := RX12) (T := TX12) (N := 76) hx hb htw inlX12 hown hK hP 0 rfl rfl 16 (by decide) (htw _ (ck_11 _ (List.mem_of_getElem? (i := 13) rfl))) (fun _ h9 => h9) rfl dX12_note_47 ?_
      refine lv_iconst (v := 1) hx hb dX12_note_50 (by decide) ?_
      refine lv_iadd hx hb dX12_note_51 ?_
      refine va_put (D := (dC, dI)) (ci := 12) (v := .int ((g 16) + 1)) (ty := tyX12 16) (C := RX12) (T := TX12) (N := 76) hx hb htw inlX12 tyX12 tyX12_ok nmX12 hown hK hP hD hS 0 rfl rfl 16 (by decide) (htw _ (ck_11 _ (List.mem_of_getElem? (i := 13) rfl))) (fun _ h9 => h9) rfl (tyX12_ok 16 (by decide)) rfl rfl (Nat.le_of_ble_eq_true rfl) dX12_note_52 (fun H locs hP hD hS => ?_)
      have hP : va_P (dC, dI) vwCl [(mq, .inr (12, mF (upd (upd g 2 0) 16 ((g 16) + 1)) gl rf)), (eA0 (rf 40) (ck 40) 264 f_noteHas_dx), (eA0 (rf 60) (ck 60) 128 f_undo)] H := hP
      have hD : va_D A [(mq, .inr (12, mF (upd (upd g 2 0) 16 ((g 16) + 1)) gl rf)), (eA0 (rf 40) (ck 40) 264 f_noteHas_dx), (eA0 (rf 60) (ck 60) 128 f_undo)] := hD
      refine lv_aload_n hx hb dX12_note_55 rfl (lv_at hl 1 rfl) ?_
      refine va_get (D := (dC, dI)) (ci := 12) (v := .ref (rf 60)) (C := RX12) (T := TX12) (N := 76) hx hb htw inlX12 hown hK hP 0 rfl rfl 60 (by decide) (htw _ (ck_10 _ (List.mem_of_getElem? (i := 4) rfl))) (fun _ h9 => h9) rfl dX12_note_56 ?_
      refine lv_aload_n hx hb dX12_note_59 rfl (lv_at hl 1 rfl) ?_
      refine va_get (D := (dC, dI)) (ci := 12) (v := .int (g 59)) (C := RX12) (T := TX12) (N := 76) hx hb htw inlX12 hown hK hP 0 rfl rfl 59 (by decide) (htw _ (ck_11 _ (List.mem_of_getElem? (i := 17) rfl))) (fun _ h9 => h9) rfl dX12_note_60 ?_
      refine lv_iconst (v := (-1)) hx hb dX12_note_63 (by decide) ?_
      refine va_iast hx hb hK hP hD hS 2 1 rfl rfl (xg_inr (N := 128) rfl (gq_note_s0 (y0 := g 59) hun0 hun8).1 (gq_note_s0 (y0 := g 59) hun0 hun8).2) dX12_note_64 (fun H locs hP hD hS => ?_)
      have hP : va_P (dC, dI) vwCl [(mq, .inr (12, mF (upd (upd g 2 0) 16 ((g 16) + 1)) gl rf)), (eA0 (rf 40) (ck 40) 264 f_noteHas_dx), (eA0 (rf 60) (ck 60) 128 (upd f_undo ((g 59).toNatClampNeg) (-1)))] H := hP
      have hD : va_D A [(mq, .inr (12, mF (upd (upd g 2 0) 16 ((g 16) + 1)) gl rf)), (eA0 (rf 40) (ck 40) 264 f_noteHas_dx), (eA0 (rf 60) (ck 60) 128 (upd f_undo ((g 59).toNatClampNeg) (-1)))] := hD
      refine lv_aload_n hx hb dX12_note_65 rfl (lv_at hl 1 rfl) ?_
      refine lv_dup hx hb dX12_note_66 rfl ?_
      refine va_get (D := (dC, dI)) (ci := 12) (v := .int (g 59)) (C := RX12) (T := TX12) (N := 76) hx hb htw inlX12 hown hK hP 0 rfl rfl 59 (by decide) (htw _ (ck_11 _ (List.mem_of_getElem? (i := 17) rfl))) (fun _ h9 => h9) rfl dX12_note_67 ?_
      refine lv_iconst (v := 1) hx hb dX12_note_70 (by decide) ?_
      refine lv_iadd hx hb dX12_note_71 ?_
      refine va_put (D := (dC, dI)) (ci := 12) (v := .int ((g 59) + 1)) (ty := tyX12 59) (C := RX12) (T := TX12) (N := 76) hx hb htw inlX12 tyX12 tyX12_ok nmX12 hown hK hP hD hS 0 rfl rfl 59 (by decide) (htw _ (ck_11 _ (List.mem_of_getElem? (i := 17) rfl))) (fun _ h9 => h9) rfl (tyX12_ok 59 (by decide)) rfl rfl (Nat.le_of_ble_eq_true rfl) dX12_note_72 (fun H locs hP hD hS => ?_)
      have hP : va_P (dC, dI) vwCl [(mq, .inr (12, mF (upd (upd (upd g 2 0) 16 ((g 16) + 1)) 59 ((g 59) + 1)) gl rf)), (eA0 (rf 40) (ck 40) 264 f_noteHas_dx), (eA0 (rf 60) (ck 60) 128 (upd f_undo ((g 59).toNatClampNeg) (-1)))] H := hP
      have hD : va_D A [(mq, .inr (12, mF (upd (upd (upd g 2 0) 16 ((g 16) + 1)) 59 ((g 59) + 1)) gl rf)), (eA0 (rf 40) (ck 40) 264 f_noteHas_dx), (eA0 (rf 60) (ck 60) 128 (upd f_undo ((g 59).toNatClampNeg) (-1)))] := hD
      refine lv_aload_n hx hb dX12_note_75 rfl (lv_at hl 1 rfl) ?_
      refine va_get (D := (dC, dI)) (ci := 12) (v := .int ((g 16) + 1)) (C := RX12) (T := TX12) (N := 76) hx hb htw inlX12 hown hK hP 0 rfl rfl 16 (by decide) (htw _ (ck_11 _ (List.mem_of_getElem? (i := 13) rfl))) (fun _ h9 => h9) rfl dX12_note_76 ?_
      refine lv_iconst (v := 1) hx hb dX12_note_79 (by decide) ?_
      refine lv_isub hx hb dX12_note_80 ?_
      refine W.widen (k := 0) (n := 0) (by omega) (by omega) ?_
      have hP9 := hP
      have hD9 := hD
      have hK9 := hK.sub (tys' := []) [] rfl
      exact W.iret (v := (((g 16) + 1) - 1)) hx hb hr (fun t ht hW => ⟨⟨(((g 16) + 1) - 1), (0, ((g 16) + 1), ((g 59) + 1), f_noteHas_dx, (upd f_undo ((g 59).toNatClampNeg) (-1))), rfl, ((fun e9 => ⟨by rw [e9], by rw [e9]⟩ : fq_note f_noteHas f_undo (g 16) (g 59) = ((((g 16) + 1) - 1), (0 : Int32), ((g 16) + 1), ((g 59) + 1), f_noteHas_dx, (upd f_undo ((g 59).toNatClampNeg) (-1))) → _) ((by rw [fq_note]; (try rw [if_neg c_1]); (try rw [← hX_2]); (try rw [xL_eq]); (try rw [← hq_L1dx]); (try rw [← hq_f_noteHas_dx]); try rfl))), by rw [ht]; exact hP9, va_K.moved hW.alike hK9, hD9⟩, hS.F ht⟩) hS.2.2 dX12_note_81
    have hloop_5 : ∀ (n : Nat) (L1d : Int32) (f_noteHas_d : Nat → Int32) (h0_d : ¬ L1d < 0) (hf_d : (11 : Int32).toInt ≤ L1d.toInt + (n : Int)) (hI_d : X_2 = fq_note_d (g 16) n L1d f_noteHas_d) (H : Heap) (locs : List Loc) (ls : Array Slot) (hP : va_P (dC, dI) vwCl [(mq, .inr (12, mF (upd g 2 0) gl rf)), (eA0 (rf 40) (ck 40) 264 f_noteHas_d), (eA0 (rf 60) (ck 60) 128 f_undo)] H) (hD : va_D A [(mq, .inr (12, mF (upd g 2 0) gl rf)), (eA0 (rf 40) (ck 40) 264 f_noteHas_d), (eA0 (rf 60) (ck 60) 128 f_undo)]) (hS : va_S A s.heap H locs) (hl : lv_has ls 2 [(1, .int L1d), (0, .ref mq)]), W p l e (headSpec (Cond.code yX12_note cX12_note 2 (some .int) :: wsL_law) ({ frames := 0, cells := 0, slots := 0, locals := 0 })).room s m ([.ref mq] : List Value).toArray below meth c H locs 0 0 (MQ below (va_Qi (fun (r : Int32) (u : (Int32) × (Int32) × (Int32) × (Nat → Int32) × (Nat → Int32)) => r = (fq_note f_noteHas f_undo (g 16) (g 59)).1 ∧ u = (fq_note f_noteHas f_undo (g 16) (g 59)).2) (fun (u : (Int32) × (Int32) × (Int32) × (Nat → Int32) × (Nat → Int32)) t => va_P (dC, dI) vwCl [(mq, .inr (12, mF (upd (upd (upd g 2 u.1) 16 u.2.1) 59 u.2.2.1) gl rf)), (eA0 (rf 40) (ck 40) 264 u.2.2.2.1), (eA0 (rf 60) (ck 60) 128 u.2.2.2.2)] t.heap ∧ va_K (dC, dI) vwCl [] t ∧ va_D A [(mq, .inr (12, mF (upd (upd (upd g 2 u.1) 16 u.2.1) 59 u.2.2.1) gl rf)), (eA0 (rf 40) (ck 40) 264 u.2.2.2.1), (eA0 (rf 60) (ck 60) 128 u.2.2.2.2)]) A) ([.ref mq] : List Value).toArray s 0 0 A) (F0 m 18 ls []) := by
      intro n
      induction n with
      | zero =>
        intro L1d f_noteHas_d h0_d hf_d hI_d H locs ls hP hD hS hl
        refine lv_iload_n hx hb dX12_note_18 rfl (lv_at hl 0 rfl) ?_
        refine lv_bipush (v := 11) hx hb dX12_note_19 (by decide) ?_
        refine lv_icmp_ge (tgt := 45) hx hb dX12_note_21 (by decide) (fun c_6 => ?_) (fun c_6 => absurd c_6 (fun h => h (xi_z hf_d)))
        exact hexit_3 L1d f_noteHas_d  (hI_d.trans (by rw [fq_note_d]; try rfl)) _ _ ls hP hD hS (lv_sub hl [0, 1] rfl)
      | succ n ih =>
        intro L1d f_noteHas_d h0_d hf_d hI_d H locs ls hP hD hS hl
        refine lv_iload_n hx hb dX12_note_18 rfl (lv_at hl 0 rfl) ?_
        refine lv_bipush (v := 11) hx hb dX12_note_19 (by decide) ?_
        refine lv_icmp_ge (tgt := 45) hx hb dX12_note_21 (by decide) (fun c_7 => ?_) (fun c_7 => ?_)
        · exact hexit_3 L1d f_noteHas_d  (hI_d.trans (by rw [fq_note_d]; (try rw [if_pos c_7]); try rfl)) _ _ ls hP hD hS (lv_sub hl [0, 1] rfl)
        · refine lv_aload_n hx hb dX12_note_24 rfl (lv_at hl 1 rfl) ?_
          refine va_get (D := (dC, dI)) (ci := 12) (v := .ref (rf 40)) (C := RX12) (T := TX12) (N := 76) hx hb htw inlX12 hown hK hP 0 rfl rfl 40 (by decide) (htw _ (ck_9 _ (List.mem_of_getElem? (i := 20) rfl))) (fun _ h9 => h9) rfl dX12_note_25 ?_
          refine lv_bipush (v := 11) hx hb dX12_note_28 (by decide) ?_
          refine lv_aload_n hx hb dX12_note_30 rfl (lv_at hl 1 rfl) ?_
          refine va_get (D := (dC, dI)) (ci := 12) (v := .int (g 16)) (C := RX12) (T := TX12) (N := 76) hx hb htw inlX12 hown hK hP 0 rfl rfl 16 (by decide) (htw _ (ck_11 _ (List.mem_of_getElem? (i := 13) rfl))) (fun _ h9 => h9) rfl dX12_note_31 ?_
          refine lv_imul hx hb dX12_note_34 ?_
          refine lv_iload_n hx hb dX12_note_35 rfl (lv_at hl 0 rfl) ?_
          refine lv_iadd hx hb dX12_note_36 ?_
          refine lv_iconst (v := 0) hx hb dX12_note_37 (by decide) ?_
          refine va_iast hx hb hK hP hD hS 1 0 rfl rfl (xn_b (gq_note_s1 (y0 := g 16) c_1 hnt0 hnt2).1 (gq_note_s1 (y0 := g 16) c_1 hnt0 hnt2).2 (gq_note_s2 (y0 := L1d) c_7 h0_d).1 (gq_note_s2 (y0 := L1d) c_7 h0_d).2) dX12_note_38 (fun H locs hP hD hS => ?_)
          obtain ⟨hP, hD⟩ := zre [(mq, .inr (12, mF (upd g 2 0) gl rf)), (eA0 (rf 40) (ck 40) 264 (upd f_noteHas_d (((11 * (g 16)) + L1d).toNatClampNeg) 0)), (eA0 (rf 60) (ck 60) 128 f_undo)] hP hD rfl
          refine lv_iinc (v := (L1d + 1)) (lv' := [(1, .int (L1d + 1)), (0, .ref mq)]) hx hb dX12_note_39 hl (k := 0) rfl (rfl) (by decide) rfl (fun ls hl => ?_)
          refine lv_goto (tgt := 18) hx hb dX12_note_42 (by decide) ?_
          exact ih (L1d + 1) (upd f_noteHas_d (((11 * (g 16)) + L1d).toNatClampNeg) 0) (gq_note_s3 (y0 := L1d) c_7 h0_d) (by rw [xi_s' c_7]; omega) (hI_d.trans (by rw [fq_note_d]; (try rw [if_neg c_7]); try rfl)) H locs ls hP hD hS (lv_sub hl [0, 1] rfl)
    exact hloop_5 11 (0 : Int32) f_noteHas (gq_note_s4 ) (by decide) (hX_2) _ _ ls hP hD hS (lv_sub hl [0, 1] rfl)
  · refine lv_iconst (v := (-1)) hx hb dX12_note_14 (by decide) ?_
    refine W.widen (k := 0) (n := 0) (by omega) (by omega) ?_
    have hP9 := hP
    have hD9 := hD
    have hK9 := hK.sub (tys' := []) [] rfl
    exact W.iret (v := (-1)) hx hb hr (fun t ht hW => ⟨⟨(-1), (0, (g 16), (g 59), f_noteHas, f_undo), rfl, ((fun e9 => ⟨by rw [e9], by rw [e9]⟩ : fq_note f_noteHas f_undo (g 16) (g 59) = ((-1 : Int32), (0 : Int32), (g 16), (g 59), f_noteHas, f_undo) → _) ((by rw [fq_note]; (try rw [if_pos c_1]); try rfl))), by rw [ht]; exact hP9, va_K.moved hW.alike hK9, hD9⟩, hS.F ht⟩) hS.2.2 dX12_note_15

def fq_told (f_toldNote : Nat → Int32) (f_toldCount : Nat → Int32) (a0 : Int32) (a1 : Int32) (m_notes : Int32) (m_tolds : Int32) : Int32 × (Int32) × (Int32) × (Nat → Int32) × (Nat → Int32) := (if m_tolds = 20 then ((-1 : Int32), (0 : Int32), m_tolds, f_toldNote, f_toldCount) else (xL ((fq_isNote a0 m_notes)) (fun r_2 => (if r_2 = 0 then ((-1 : Int32), (0 : Int32), m_tolds, f_toldNote, f_toldCount) else (xL ((fq_isIn a1 (0 : Int32) (19999 : Int32))) (fun r_6 => (if r_6 = 0 then ((-1 : Int32), (0 : Int32), m_tolds, f_toldNote, f_toldCount) else ((m_tolds + 1), (0 : Int32), (m_tolds + 1), (upd f_toldNote (m_tolds.toNatClampNeg) a0), (upd f_toldCount (m_tolds.toNatClampNeg) a1)))))))))
theorem gq_told_s0 {y0 : Int32} (h0 : ¬ (y0 = 20)) (h1 : ¬ (y0 < 0)) (h2 : y0 ≤ 20) : ¬ (y0 < 0) ∧ ¬ (20 ≤ y0) := by lia
theorem gq_told_s1 {y0 : Int32} (h0 : ¬ (y0 = 20)) (h1 : ¬ (y0 < 0)) (h2 : y0 ≤ 20) : ¬ (y0 < 0) ∧ ¬ (20 ≤ y0) := by lia
theorem dX12_told_0 : decode cX12_told 0 = .ok (.aload_n 0, 1) := zk_42 (by decide +kernel)
theorem dX12_told_1 : decode cX12_told 1 = .ok (.iconst 0, 1) := zk_3 (by decide +kernel)
theorem dX12_told_2 : decode cX12_told 2 = .ok (.putfield 119, 3) := zk_181 (by decide +kernel)
theorem dX12_told_5 : decode cX12_told 5 = .ok (.aload_n 0, 1) := zk_42 (by decide +kernel)
theorem dX12_told_6 : decode cX12_told 6 = .ok (.getfield 246, 3) := zk_180 (by decide +kernel)
theorem dX12_told_9 : decode cX12_told 9 = .ok (.bipush 20, 2) := zk_16 (by decide +kernel)
theorem dX12_told_11 : decode cX12_told 11 = .ok (.if_icmp .eq 22, 3) := zk_159 (by decide +kernel)
theorem dX12_told_33 : decode cX12_told 33 = .ok (.iconst (-1), 1) := zk_2 (by decide +kernel)
theorem dX12_told_34 : decode cX12_told 34 = .ok (.ireturn, 1) := zk_172 (by decide +kernel)
theorem dX12_told_14 : decode cX12_told 14 = .ok (.aload_n 0, 1) := zk_42 (by decide +kernel)
theorem dX12_told_15 : decode cX12_told 15 = .ok (.iload_n 1, 1) := zk_27 (by decide +kernel)
theorem dX12_told_16 : decode cX12_told 16 = .ok (.invokevirtual 506, 3) := zk_182 (by decide +kernel)
theorem dX12_told_19 : decode cX12_told 19 = .ok (.ifCond .eq 14, 3) := zk_153 (by decide +kernel)
theorem dX12_told_22 : decode cX12_told 22 = .ok (.iload_n 2, 1) := zk_28 (by decide +kernel)
theorem dX12_told_23 : decode cX12_told 23 = .ok (.iconst 0, 1) := zk_3 (by decide +kernel)
theorem dX12_told_24 : decode cX12_told 24 = .ok (.sipush 19999, 3) := zk_17 (by decide +kernel)
theorem dX12_told_27 : decode cX12_told 27 = .ok (.invokestatic 166, 3) := zk_184 (by decide +kernel)
theorem dX12_told_30 : decode cX12_told 30 = .ok (.ifCond .ne 5, 3) := zk_154 (by decide +kernel)
theorem dX12_told_35 : decode cX12_told 35 = .ok (.aload_n 0, 1) := zk_42 (by decide +kernel)
theorem dX12_told_36 : decode cX12_told 36 = .ok (.getfield 98, 3) := zk_180 (by decide +kernel)
theorem dX12_told_39 : decode cX12_told 39 = .ok (.aload_n 0, 1) := zk_42 (by decide +kernel)
theorem dX12_told_40 : decode cX12_told 40 = .ok (.getfield 246, 3) := zk_180 (by decide +kernel)
theorem dX12_told_43 : decode cX12_told 43 = .ok (.iload_n 1, 1) := zk_27 (by decide +kernel)
theorem dX12_told_44 : decode cX12_told 44 = .ok (.iastore, 1) := zk_79 (by decide +kernel)
theorem dX12_told_45 : decode cX12_told 45 = .ok (.aload_n 0, 1) := zk_42 (by decide +kernel)
theorem dX12_told_46 : decode cX12_told 46 = .ok (.getfield 101, 3) := zk_180 (by decide +kernel)
theorem dX12_told_49 : decode cX12_told 49 = .ok (.aload_n 0, 1) := zk_42 (by decide +kernel)
theorem dX12_told_50 : decode cX12_told 50 = .ok (.getfield 246, 3) := zk_180 (by decide +kernel)
theorem dX12_told_53 : decode cX12_told 53 = .ok (.iload_n 2, 1) := zk_28 (by decide +kernel)
theorem dX12_told_54 : decode cX12_told 54 = .ok (.iastore, 1) := zk_79 (by decide +kernel)
theorem dX12_told_55 : decode cX12_told 55 = .ok (.aload_n 0, 1) := zk_42 (by decide +kernel)
theorem dX12_told_56 : decode cX12_told 56 = .ok (.dup, 1) := zk_89 (by decide +kernel)
theorem dX12_told_57 : decode cX12_told 57 = .ok (.getfield 246, 3) := zk_180 (by decide +kernel)
theorem dX12_told_60 : decode cX12_told 60 = .ok (.iconst 1, 1) := zk_4 (by decide +kernel)
theorem dX12_told_61 : decode cX12_told 61 = .ok (.iadd, 1) := zk_96 (by decide +kernel)
theorem dX12_told_62 : decode cX12_told 62 = .ok (.putfield 246, 3) := zk_181 (by decide +kernel)
theorem dX12_told_65 : decode cX12_told 65 = .ok (.aload_n 0, 1) := zk_42 (by decide +kernel)
theorem dX12_told_66 : decode cX12_told 66 = .ok (.getfield 246, 3) := zk_180 (by decide +kernel)
theorem dX12_told_69 : decode cX12_told 69 = .ok (.ireturn, 1) := zk_172 (by decide +kernel)
set_option maxHeartbeats 4000000 in
set_option maxRecDepth 100000 in
theorem gq_told (l : Launch) (dC : Nat → ClassId) (dI : Nat → Nat → Nat) (mq : Nat) (g : Nat → Int32) (gl : Nat → Int64) (rf : Nat → Nat) (ck : Nat → ClassId) (f_toldNote : Nat → Int32) (f_toldCount : Nat → Int32) (a0 : Int32) (a1 : Int32) (sz : Nat) (hto0 : ¬ (g 67) < 0) (hto2 : (g 67) ≤ 20) (hnt0 : ¬ (g 16) < 0) (hnt2 : (g 16) ≤ 12) : Met l yX12_told (Cond.code yX12_told cX12_told 3 (some .int) :: wsL_law) ({ frames := 1, cells := 0, slots := 0, locals := 22 }) (va_Pc [.ref mq, .int a0, .int a1] (fun U => U.heap.size = sz ∧ va_P (dC, dI) vwCl [(mq, .inr (12, mF g gl rf)), (eA0 (rf 68) (ck 68) 20 f_toldNote), (eA0 (rf 69) (ck 69) 20 f_toldCount)] U.heap ∧ va_K (dC, dI) vwCl [((ck 68), .int), ((ck 69), .int)] U ∧ va_D (fun _ => True) [(mq, .inr (12, mF g gl rf)), (eA0 (rf 68) (ck 68) 20 f_toldNote), (eA0 (rf 69) (ck 69) 20 f_toldCount)])) (va_Qi (fun (r : Int32) (u : (Int32) × (Int32) × (Nat → Int32) × (Nat → Int32)) => r = (fq_told f_toldNote f_toldCount a0 a1 (g 16) (g 67)).1 ∧ u = (fq_told f_toldNote f_toldCount a0 a1 (g 16) (g 67)).2) (fun (u : (Int32) × (Int32) × (Nat → Int32) × (Nat → Int32)) t => va_P (dC, dI) vwCl [(mq, .inr (12, mF (upd (upd g 2 u.1) 67 u.2.1) gl rf)), (eA0 (rf 68) (ck 68) 20 u.2.2.1), (eA0 (rf 69) (ck 69) 20 u.2.2.2)] t.heap ∧ va_K (dC, dI) vwCl [] t ∧ va_D (va_A [(mq, .inr (12, mF g gl rf)), (eA0 (rf 68) (ck 68) 20 f_toldNote), (eA0 (rf 69) (ck 69) 20 f_toldCount)] sz) [(mq, .inr (12, mF (upd (upd g 2 u.1) 67 u.2.1) gl rf)), (eA0 (rf 68) (ck 68) 20 u.2.2.1), (eA0 (rf 69) (ck 69) 20 u.2.2.2)]) (va_A [(mq, .inr (12, mF g gl rf)), (eA0 (rf 68) (ck 68) 20 f_toldNote), (eA0 (rf 69) (ck 69) 20 f_toldCount)] sz)) 0 0 (va_A [(mq, .inr (12, mF g gl rf)), (eA0 (rf 68) (ck 68) 20 f_toldNote), (eA0 (rf 69) (ck 69) 20 f_toldCount)] sz) := by
  refine Met.ofW (cc := cX12_told) (maxL := 3) (ret := (some .int)) (by decide) rfl ?_
  intro p e s m args below meth c s₁ B hml hv
  obtain ⟨rfl, hsz, hP, hK, hD0⟩ := hv
  have hx := B.exec
  have hb := B.bytes
  have hr := B.returns
  have hts := atoms_spec (ws := Cond.code yX12_told cX12_told 3 (some .int) :: wsL_law) B.pre
  have htw : ∀ w ∈ wsL_law, w.before _ s = true := fun w h => hts w (List.mem_cons_of_mem _ h)
  have hown : s.vm.findClass RX12 = some m.cls := findClass_of_methodNamed B.named
  have hlocks := B.notSynchronized
  subst hsz
  have hD := hD0.self (sz := s.heap.size)
  generalize hAe : va_A [(mq, .inr (12, mF g gl rf)), (eA0 (rf 68) (ck 68) 20 f_toldNote), (eA0 (rf 69) (ck 69) 20 f_toldCount)] s.heap.size = A at hD ⊢
  have hA : ∀ q : Nat, s.heap.size ≤ q → A q := fun q h => by rw [← hAe]; exact Or.inr h
  obtain ⟨H, rH⟩ : ∃ z : Heap, z = s.heap := ⟨_, rfl⟩
  have hS : va_S A s.heap H [] := by rw [rH]; exact va_S.rf
  have hP : va_P (dC, dI) vwCl [(mq, .inr (12, mF g gl rf)), (eA0 (rf 68) (ck 68) 20 f_toldNote), (eA0 (rf 69) (ck 69) 20 f_toldCount)] H := by rw [rH]; exact hP
  rw [← rH]
  have hl := lv_entry ([.ref mq, .int a0, .int a1]) (n := 3) (Nat.le_of_ble_eq_true rfl)
  rw [lg_entry_eq]
  generalize (lg_sl ([.ref mq, .int a0, .int a1]) ++ List.replicate (3 - (lg_sl ([.ref mq, .int a0, .int a1])).length) Slot.unset).toArray = ls at hl ⊢
  have hl : lv_has ls 3 [(0, .ref mq), (1, .int a0), (2, .int a1)] := hl
  refine lv_aload_n hx hb dX12_told_0 rfl (lv_at hl 0 rfl) ?_
  refine lv_iconst (v := 0) hx hb dX12_told_1 (by decide) ?_
  refine va_put (D := (dC, dI)) (ci := 12) (v := .int 0) (ty := tyX12 2) (C := RX12) (T := TX12) (N := 76) hx hb htw inlX12 tyX12 tyX12_ok nmX12 hown hK hP hD hS 0 rfl rfl 2 (by decide) (htw _ (ck_12 _ (List.mem_of_getElem? (i := 16) rfl))) (fun _ h9 => h9) rfl (tyX12_ok 2 (by decide)) rfl rfl (Nat.le_of_ble_eq_true rfl) dX12_told_2 (fun H locs hP hD hS => ?_)
  obtain ⟨hP, hD⟩ := zre [(mq, .inr (12, mF (upd g 2 0) gl rf)), (eA0 (rf 68) (ck 68) 20 f_toldNote), (eA0 (rf 69) (ck 69) 20 f_toldCount)] hP hD rfl
  refine lv_aload_n hx hb dX12_told_5 rfl (lv_at hl 0 rfl) ?_
  refine va_get (D := (dC, dI)) (ci := 12) (v := .int (g 67)) (C := RX12) (T := TX12) (N := 76) hx hb htw inlX12 hown hK hP 0 rfl rfl 67 (by decide) (htw _ (ck_11 _ (List.mem_of_getElem? (i := 16) rfl))) (fun _ h9 => h9) rfl dX12_told_6 ?_
  refine lv_bipush (v := 20) hx hb dX12_told_9 (by decide) ?_
  refine lv_icmp_eq (tgt := 33) hx hb dX12_told_11 (by decide) (fun c_1 => ?_) (fun c_1 => ?_)
  · refine lv_iconst (v := (-1)) hx hb dX12_told_33 (by decide) ?_
    refine W.widen (k := 0) (n := 0) (by omega) (by omega) ?_
    have hP9 := hP
    have hD9 := hD
    have hK9 := hK.sub (tys' := []) [] rfl
    exact W.iret (v := (-1)) hx hb hr (fun t ht hW => ⟨⟨(-1), (0, (g 67), f_toldNote, f_toldCount), rfl, ((fun e9 => ⟨by rw [e9], by rw [e9]⟩ : fq_told f_toldNote f_toldCount a0 a1 (g 16) (g 67) = ((-1 : Int32), (0 : Int32), (g 67), f_toldNote, f_toldCount) → _) ((by rw [fq_told]; (try rw [if_pos c_1]); try rfl))), by rw [ht]; exact hP9, va_K.moved hW.alike hK9, hD9⟩, hS.F ht⟩) hS.2.2 dX12_told_34
  · refine lv_aload_n hx hb dX12_told_14 rfl (lv_at hl 0 rfl) ?_
    refine lv_iload_n hx hb dX12_told_15 rfl (lv_at hl 1 rfl) ?_
    have hPc := hP.sub (ws' := [(mq, .inr (12, mF (upd g 2 0) gl rf))]) [0] rfl
    have hKc := hK.sub (tys' := []) [] rfl
    refine vp_callSi (W.runV (As := [.int a0]) (rest := []) ⟨hx, hb, hml, hown, htw⟩ (gq_isNote l dC dI mq (upd g 2 0) gl rf a0) (cwV 1 htw (xg_V (ck_59 _ (List.mem_of_getElem? (i := 3) rfl)) (ck_59 _ (List.mem_of_getElem? (i := 4) rfl)) (ck_59 _ (List.mem_of_getElem? (i := 5) rfl)) (ck_1 _ (List.mem_of_getElem? (i := 5) rfl)) (ck_59 _ (List.mem_of_getElem? (i := 6) rfl))) rfl rfl rfl (by exact ⟨rfl, hdc_14.1, hdc_14.2, hdd_26⟩) ⟨Nat.le_of_ble_eq_true rfl, Nat.le_of_ble_eq_true rfl⟩) ⟨fun a U g mk q => by obtain ⟨q0, qP, qK⟩ := q; exact ⟨q0, qP, va_K.moved (u := U) (U := U.calling g mk a) (Vm.Alike.refl U.vm) qK⟩, va_recv hKc hPc (ci := 12) (q0 := 0) rfl rfl, fun U hU hW => ⟨rfl, by rw [hU]; exact hPc, va_K.moved hW.alike hKc⟩⟩ rfl rfl hl.1 rfl (lv_room (Nat.le_of_ble_eq_true rfl)) dX12_told_16 ⟨Nat.le_of_ble_eq_true rfl, Nat.le_of_ble_eq_true rfl⟩) (fun r_2 hw => ?_)
    try dsimp only at hw
    obtain ⟨hw, hb_r_2, hp_3, hp_4⟩ := hw
    have hq_r_2 : r_2 = (fq_isNote a0 (g 16)) := hw
    refine lv_if_eq (tgt := 33) hx hb dX12_told_19 (by decide) (fun c_5 => ?_) (fun c_5 => ?_)
    · refine lv_iconst (v := (-1)) hx hb dX12_told_33 (by decide) ?_
      refine W.widen (k := 0) (n := 0) (by omega) (by omega) ?_
      have hP9 := hP
      have hD9 := hD
      have hK9 := hK.sub (tys' := []) [] rfl
      exact W.iret (v := (-1)) hx hb hr (fun t ht hW => ⟨⟨(-1), (0, (g 67), f_toldNote, f_toldCount), rfl, ((fun e9 => ⟨by rw [e9], by rw [e9]⟩ : fq_told f_toldNote f_toldCount a0 a1 (g 16) (g 67) = ((-1 : Int32), (0 : Int32), (g 67), f_toldNote, f_toldCount) → _) ((by rw [fq_told]; (try rw [if_neg c_1]); (try rw [← hq_r_2]); (try rw [xL_eq]); (try rw [if_pos c_5]); try rfl))), by rw [ht]; exact hP9, va_K.moved hW.alike hK9, hD9⟩, hS.F ht⟩) hS.2.2 dX12_told_34
    · refine lv_iload_n hx hb dX12_told_22 rfl (lv_at hl 2 rfl) ?_
      refine lv_iconst (v := 0) hx hb dX12_told_23 (by decide) ?_
      refine lv_sipush (v := 19999) hx hb dX12_told_24 (by decide) ?_
      have hPc := hP.sub (ws' := []) [] rfl
      have hKc := hK.sub (tys' := []) [] rfl
      refine vp_callSi (W.runS (As := [.int a1, .int 0, .int 19999]) (rest := []) ⟨hx, hb, hml, hown, htw⟩ (gq_isIn l dC dI a1 (0 : Int32) (19999 : Int32)) (va_cwS 3 htw (xg_S (ck_26 _ (List.mem_of_getElem? (i := 17) rfl)) (ck_26 _ (List.mem_of_getElem? (i := 18) rfl)) (ck_1 _ (List.mem_of_getElem? (i := 5) rfl)) (ck_26 _ (List.mem_of_getElem? (i := 19) rfl))) rfl rfl rfl (by exact ⟨hdc_14.1, hdc_14.2, hdd_38⟩) ⟨Nat.le_of_ble_eq_true rfl, Nat.le_of_ble_eq_true rfl⟩) ⟨fun a U g mk q => by obtain ⟨q0, qP, qK⟩ := q; exact ⟨q0, qP, va_K.moved (u := U) (U := U.calling g mk a) (Vm.Alike.refl U.vm) qK⟩, fun U hU hW => ⟨rfl, by rw [hU]; exact hPc, va_K.moved hW.alike hKc⟩⟩ rfl rfl hl.1 rfl (lv_room (Nat.le_of_ble_eq_true rfl)) dX12_told_27 ⟨Nat.le_of_ble_eq_true rfl, Nat.le_of_ble_eq_true rfl⟩) (fun r_6 hw => ?_)
      try dsimp only at hw
      obtain ⟨hw, hb_r_6, hp_7, hp_8⟩ := hw
      have hq_r_6 : r_6 = (fq_isIn a1 (0 : Int32) (19999 : Int32)) := hw
      refine lv_if_ne (tgt := 35) hx hb dX12_told_30 (by decide) (fun c_9 => ?_) (fun c_9 => ?_)
      · refine lv_aload_n hx hb dX12_told_35 rfl (lv_at hl 0 rfl) ?_
        refine va_get (D := (dC, dI)) (ci := 12) (v := .ref (rf 68)) (C := RX12) (T := TX12) (N := 76) hx hb htw inlX12 hown hK hP 0 rfl rfl 68 (by decide) (htw _ (ck_10 _ (List.mem_of_getElem? (i := 10) rfl))) (fun _ h9 => h9) rfl dX12_told_36 ?_
        refine lv_aload_n hx hb dX12_told_39 rfl (lv_at hl 0 rfl) ?_
        refine va_get (D := (dC, dI)) (ci := 12) (v := .int (g 67)) (C := RX12) (T := TX12) (N := 76) hx hb htw inlX12 hown hK hP 0 rfl rfl 67 (by decide) (htw _ (ck_11 _ (List.mem_of_getElem? (i := 16) rfl))) (fun _ h9 => h9) rfl dX12_told_40 ?_
        refine lv_iload_n hx hb dX12_told_43 rfl (lv_at hl 1 rfl) ?_
        refine va_iast hx hb hK hP hD hS 1 0 rfl rfl (xg_inr (N := 20) rfl (gq_told_s0 (y0 := g 67) c_1 hto0 hto2).1 (gq_told_s0 (y0 := g 67) c_1 hto0 hto2).2) dX12_told_44 (fun H locs hP hD hS => ?_)
        obtain ⟨hP, hD⟩ := zre [(mq, .inr (12, mF (upd g 2 0) gl rf)), (eA0 (rf 68) (ck 68) 20 (upd f_toldNote ((g 67).toNatClampNeg) a0)), (eA0 (rf 69) (ck 69) 20 f_toldCount)] hP hD rfl
        refine lv_aload_n hx hb dX12_told_45 rfl (lv_at hl 0 rfl) ?_
        refine va_get (D := (dC, dI)) (ci := 12) (v := .ref (rf 69)) (C := RX12) (T := TX12) (N := 76) hx hb htw inlX12 hown hK hP 0 rfl rfl 69 (by decide) (htw _ (ck_10 _ (List.mem_of_getElem? (i := 11) rfl))) (fun _ h9 => h9) rfl dX12_told_46 ?_
        refine lv_aload_n hx hb dX12_told_49 rfl (lv_at hl 0 rfl) ?_
        refine va_get (D := (dC, dI)) (ci := 12) (v := .int (g 67)) (C := RX12) (T := TX12) (N := 76) hx hb htw inlX12 hown hK hP 0 rfl rfl 67 (by decide) (htw _ (ck_11 _ (List.mem_of_getElem? (i := 16) rfl))) (fun _ h9 => h9) rfl dX12_told_50 ?_
        refine lv_iload_n hx hb dX12_told_53 rfl (lv_at hl 2 rfl) ?_
        refine va_iast hx hb hK hP hD hS 2 1 rfl rfl (xg_inr (N := 20) rfl (gq_told_s1 (y0 := g 67) c_1 hto0 hto2).1 (gq_told_s1 (y0 := g 67) c_1 hto0 hto2).2) dX12_told_54 (fun H locs hP hD hS => ?_)
        obtain ⟨hP, hD⟩ := zre [(mq, .inr (12, mF (upd g 2 0) gl rf)), (eA0 (rf 68) (ck 68) 20 (upd f_toldNote ((g 67).toNatClampNeg) a0)), (eA0 (rf 69) (ck 69) 20 (upd f_toldCount ((g 67).toNatClampNeg) a1))] hP hD rfl
        refine lv_aload_n hx hb dX12_told_55 rfl (lv_at hl 0 rfl) ?_
        refine lv_dup hx hb dX12_told_56 rfl ?_
        refine va_get (D := (dC, dI)) (ci := 12) (v := .int (g 67)) (C := RX12) (T := TX12) (N := 76) hx hb htw inlX12 hown hK hP 0 rfl rfl 67 (by decide) (htw _ (ck_11 _ (List.mem_of_getElem? (i := 16) rfl))) (fun _ h9 => h9) rfl dX12_told_57 ?_
        refine lv_iconst (v := 1) hx hb dX12_told_60 (by decide) ?_
        refine lv_iadd hx hb dX12_told_61 ?_
        refine va_put (D := (dC, dI)) (ci := 12) (v := .int ((g 67) + 1)) (ty := tyX12 67) (C := RX12) (T := TX12) (N := 76) hx hb htw inlX12 tyX12 tyX12_ok nmX12 hown hK hP hD hS 0 rfl rfl 67 (by decide) (htw _ (ck_11 _ (List.mem_of_getElem? (i := 16) rfl))) (fun _ h9 => h9) rfl (tyX12_ok 67 (by decide)) rfl rfl (Nat.le_of_ble_eq_true rfl) dX12_told_62 (fun H locs hP hD hS => ?_)
        have hP : va_P (dC, dI) vwCl [(mq, .inr (12, mF (upd (upd g 2 0) 67 ((g 67) + 1)) gl rf)), (eA0 (rf 68) (ck 68) 20 (upd f_toldNote ((g 67).toNatClampNeg) a0)), (eA0 (rf 69) (ck 69) 20 (upd f_toldCount ((g 67).toNatClampNeg) a1))] H := hP
        have hD : va_D A [(mq, .inr (12, mF (upd (upd g 2 0) 67 ((g 67) + 1)) gl rf)), (eA0 (rf 68) (ck 68) 20 (upd f_toldNote ((g 67).toNatClampNeg) a0)), (eA0 (rf 69) (ck 69) 20 (upd f_toldCount ((g 67).toNatClampNeg) a1))] := hD
        refine lv_aload_n hx hb dX12_told_65 rfl (lv_at hl 0 rfl) ?_
        refine va_get (D := (dC, dI)) (ci := 12) (v := .int ((g 67) + 1)) (C := RX12) (T := TX12) (N := 76) hx hb htw inlX12 hown hK hP 0 rfl rfl 67 (by decide) (htw _ (ck_11 _ (List.mem_of_getElem? (i := 16) rfl))) (fun _ h9 => h9) rfl dX12_told_66 ?_
        refine W.widen (k := 0) (n := 0) (by omega) (by omega) ?_
        have hP9 := hP
        have hD9 := hD
        have hK9 := hK.sub (tys' := []) [] rfl
        exact W.iret (v := ((g 67) + 1)) hx hb hr (fun t ht hW => ⟨⟨((g 67) + 1), (0, ((g 67) + 1), (upd f_toldNote ((g 67).toNatClampNeg) a0), (upd f_toldCount ((g 67).toNatClampNeg) a1)), rfl, ((fun e9 => ⟨by rw [e9], by rw [e9]⟩ : fq_told f_toldNote f_toldCount a0 a1 (g 16) (g 67) = (((g 67) + 1), (0 : Int32), ((g 67) + 1), (upd f_toldNote ((g 67).toNatClampNeg) a0), (upd f_toldCount ((g 67).toNatClampNeg) a1)) → _) ((by rw [fq_told]; (try rw [if_neg c_1]); (try rw [← hq_r_2]); (try rw [xL_eq]); (try rw [if_neg c_5]); (try rw [← hq_r_6]); (try rw [xL_eq]); (try rw [if_neg c_9]); try rfl))), by rw [ht]; exact hP9, va_K.moved hW.alike hK9, hD9⟩, hS.F ht⟩) hS.2.2 dX12_told_69
      · refine lv_iconst (v := (-1)) hx hb dX12_told_33 (by decide) ?_
        refine W.widen (k := 0) (n := 0) (by omega) (by omega) ?_
        obtain ⟨hP9, hD9⟩ := zsub2 (ws' := [(mq, .inr (12, mF (upd g 2 0) gl rf)), (eA0 (rf 68) (ck 68) 20 f_toldNote), (eA0 (rf 69) (ck 69) 20 f_toldCount)]) hP hD [0, 1, 2] (by decide) rfl
        have hK9 := hK.sub (tys' := []) [] rfl
        exact W.iret (v := (-1)) hx hb hr (fun t ht hW => ⟨⟨(-1), (0, (g 67), f_toldNote, f_toldCount), rfl, ((fun e9 => ⟨by rw [e9], by rw [e9]⟩ : fq_told f_toldNote f_toldCount a0 a1 (g 16) (g 67) = ((-1 : Int32), (0 : Int32), (g 67), f_toldNote, f_toldCount) → _) ((by rw [fq_told]; (try rw [if_neg c_1]); (try rw [← hq_r_2]); (try rw [xL_eq]); (try rw [if_neg c_5]); (try rw [← hq_r_6]); (try rw [xL_eq]); (try rw [if_pos c_9]); try rfl))), by rw [ht]; exact hP9, va_K.moved hW.alike hK9, hD9⟩, hS.F ht⟩) hS.2.2 dX12_told_34

def fq_keep_d (f_noteHas : Nat → Int32) : Nat → (Int32) → (Nat → Int32) → (Int32) × (Nat → Int32)
  | 0, L1d, f_keptHas_d => (L1d, f_keptHas_d)
  | n + 1, L1d, f_keptHas_d => (if 132 ≤ L1d then (L1d, f_keptHas_d) else fq_keep_d f_noteHas n (L1d + 1) (upd f_keptHas_d L1d.toNatClampNeg (f_noteHas L1d.toNatClampNeg)))
def fq_keep_e (f_toldNote : Nat → Int32) (f_toldCount : Nat → Int32) : Nat → (Int32) → (Nat → Int32) → (Nat → Int32) → (Int32) × (Nat → Int32) × (Nat → Int32)
  | 0, L1e, f_keptNote_e, f_keptCount_e => (L1e, f_keptNote_e, f_keptCount_e)
  | n + 1, L1e, f_keptNote_e, f_keptCount_e => (if 20 ≤ L1e then (L1e, f_keptNote_e, f_keptCount_e) else fq_keep_e f_toldNote f_toldCount n (L1e + 1) (upd f_keptNote_e L1e.toNatClampNeg (f_toldNote L1e.toNatClampNeg)) (upd f_keptCount_e L1e.toNatClampNeg (f_toldCount L1e.toNatClampNeg)))
def fq_keep (f_noteHas : Nat → Int32) (f_toldNote : Nat → Int32) (f_toldCount : Nat → Int32) (f_keptHas : Nat → Int32) (f_keptNote : Nat → Int32) (f_keptCount : Nat → Int32) (m_notes : Int32) (m_tolds : Int32) : Int32 × (Int32) × (Int32) × (Int32) × (Int32) × (Nat → Int32) × (Nat → Int32) × (Nat → Int32) := (xL (fq_keep_d f_noteHas 132 (0 : Int32) f_keptHas) (fun X_1 => (xL (fq_keep_e f_toldNote f_toldCount 20 (0 : Int32) f_keptNote f_keptCount) (fun X_3 => (m_notes, (0 : Int32), (1 : Int32), m_notes, m_tolds, X_1.2, X_3.2.1, X_3.2.2)))))
theorem gq_keep_s0 {y0 : Int32} (h0 : ¬ (20 ≤ y0)) (h1 : ¬ (y0 < 0)) : ¬ (y0 < 0) ∧ ¬ (20 ≤ y0) := ⟨h1, h0⟩
theorem gq_keep_s1 {y0 : Int32} (h0 : ¬ (20 ≤ y0)) (h1 : ¬ (y0 < 0)) : ¬ (y0 < 0) ∧ ¬ (20 ≤ y0) := ⟨h1, h0⟩
theorem gq_keep_s2 {y0 : Int32} (h0 : ¬ (20 ≤ y0)) (h1 : ¬ (y0 < 0)) : ¬ (y0 < 0) ∧ ¬ (20 ≤ y0) := ⟨h1, h0⟩
theorem gq_keep_s3 {y0 : Int32} (h0 : ¬ (20 ≤ y0)) (h1 : ¬ (y0 < 0)) : ¬ (y0 < 0) ∧ ¬ (20 ≤ y0) := ⟨h1, h0⟩
theorem gq_keep_s4 {y0 : Int32} (h0 : ¬ (20 ≤ y0)) (h1 : ¬ (y0 < 0)) : ¬ ((y0 + 1) < 0) := by lia
theorem gq_keep_s5  : ¬ ((0 : Int32) < 0) := (by decide)
theorem gq_keep_s6 {y0 : Int32} (h0 : ¬ (132 ≤ y0)) (h1 : ¬ (y0 < 0)) : ¬ (y0 < 0) ∧ ¬ (264 ≤ y0) := by lia
theorem gq_keep_s7 {y0 : Int32} (h0 : ¬ (132 ≤ y0)) (h1 : ¬ (y0 < 0)) : ¬ (y0 < 0) ∧ ¬ (132 ≤ y0) := ⟨h1, h0⟩
theorem gq_keep_s8 {y0 : Int32} (h0 : ¬ (132 ≤ y0)) (h1 : ¬ (y0 < 0)) : ¬ ((y0 + 1) < 0) := by lia
theorem gq_keep_s9  : ¬ ((0 : Int32) < 0) := (by decide)
theorem dX12_keep_0 : decode cX12_keep 0 = .ok (.aload_n 0, 1) := zk_42 (by decide +kernel)
theorem dX12_keep_1 : decode cX12_keep 1 = .ok (.iconst 0, 1) := zk_3 (by decide +kernel)
theorem dX12_keep_2 : decode cX12_keep 2 = .ok (.putfield 119, 3) := zk_181 (by decide +kernel)
theorem dX12_keep_5 : decode cX12_keep 5 = .ok (.aload_n 0, 1) := zk_42 (by decide +kernel)
theorem dX12_keep_6 : decode cX12_keep 6 = .ok (.iconst 1, 1) := zk_4 (by decide +kernel)
theorem dX12_keep_7 : decode cX12_keep 7 = .ok (.putfield 252, 3) := zk_181 (by decide +kernel)
theorem dX12_keep_10 : decode cX12_keep 10 = .ok (.aload_n 0, 1) := zk_42 (by decide +kernel)
theorem dX12_keep_11 : decode cX12_keep 11 = .ok (.aload_n 0, 1) := zk_42 (by decide +kernel)
theorem dX12_keep_12 : decode cX12_keep 12 = .ok (.getfield 229, 3) := zk_180 (by decide +kernel)
theorem dX12_keep_15 : decode cX12_keep 15 = .ok (.putfield 540, 3) := zk_181 (by decide +kernel)
theorem dX12_keep_18 : decode cX12_keep 18 = .ok (.aload_n 0, 1) := zk_42 (by decide +kernel)
theorem dX12_keep_19 : decode cX12_keep 19 = .ok (.aload_n 0, 1) := zk_42 (by decide +kernel)
theorem dX12_keep_20 : decode cX12_keep 20 = .ok (.getfield 246, 3) := zk_180 (by decide +kernel)
theorem dX12_keep_23 : decode cX12_keep 23 = .ok (.putfield 543, 3) := zk_181 (by decide +kernel)
theorem dX12_keep_26 : decode cX12_keep 26 = .ok (.iconst 0, 1) := zk_3 (by decide +kernel)
theorem dX12_keep_27 : decode cX12_keep 27 = .ok (.istore_n 1, 1) := zk_60 (by decide +kernel)
theorem dX12_keep_53 : decode cX12_keep 53 = .ok (.iconst 0, 1) := zk_3 (by decide +kernel)
theorem dX12_keep_54 : decode cX12_keep 54 = .ok (.istore_n 1, 1) := zk_60 (by decide +kernel)
theorem dX12_keep_91 : decode cX12_keep 91 = .ok (.aload_n 0, 1) := zk_42 (by decide +kernel)
theorem dX12_keep_92 : decode cX12_keep 92 = .ok (.getfield 229, 3) := zk_180 (by decide +kernel)
theorem dX12_keep_95 : decode cX12_keep 95 = .ok (.ireturn, 1) := zk_172 (by decide +kernel)
theorem dX12_keep_55 : decode cX12_keep 55 = .ok (.iload_n 1, 1) := zk_27 (by decide +kernel)
theorem dX12_keep_56 : decode cX12_keep 56 = .ok (.bipush 20, 2) := zk_16 (by decide +kernel)
theorem dX12_keep_58 : decode cX12_keep 58 = .ok (.if_icmp .ge 33, 3) := zk_162 (by decide +kernel)
theorem dX12_keep_61 : decode cX12_keep 61 = .ok (.aload_n 0, 1) := zk_42 (by decide +kernel)
theorem dX12_keep_62 : decode cX12_keep 62 = .ok (.getfield 107, 3) := zk_180 (by decide +kernel)
theorem dX12_keep_65 : decode cX12_keep 65 = .ok (.iload_n 1, 1) := zk_27 (by decide +kernel)
theorem dX12_keep_66 : decode cX12_keep 66 = .ok (.aload_n 0, 1) := zk_42 (by decide +kernel)
theorem dX12_keep_67 : decode cX12_keep 67 = .ok (.getfield 98, 3) := zk_180 (by decide +kernel)
theorem dX12_keep_70 : decode cX12_keep 70 = .ok (.iload_n 1, 1) := zk_27 (by decide +kernel)
theorem dX12_keep_71 : decode cX12_keep 71 = .ok (.iaload, 1) := zk_46 (by decide +kernel)
theorem dX12_keep_72 : decode cX12_keep 72 = .ok (.iastore, 1) := zk_79 (by decide +kernel)
theorem dX12_keep_73 : decode cX12_keep 73 = .ok (.aload_n 0, 1) := zk_42 (by decide +kernel)
theorem dX12_keep_74 : decode cX12_keep 74 = .ok (.getfield 110, 3) := zk_180 (by decide +kernel)
theorem dX12_keep_77 : decode cX12_keep 77 = .ok (.iload_n 1, 1) := zk_27 (by decide +kernel)
theorem dX12_keep_78 : decode cX12_keep 78 = .ok (.aload_n 0, 1) := zk_42 (by decide +kernel)
theorem dX12_keep_79 : decode cX12_keep 79 = .ok (.getfield 101, 3) := zk_180 (by decide +kernel)
theorem dX12_keep_82 : decode cX12_keep 82 = .ok (.iload_n 1, 1) := zk_27 (by decide +kernel)
theorem dX12_keep_83 : decode cX12_keep 83 = .ok (.iaload, 1) := zk_46 (by decide +kernel)
theorem dX12_keep_84 : decode cX12_keep 84 = .ok (.iastore, 1) := zk_79 (by decide +kernel)
theorem dX12_keep_85 : decode cX12_keep 85 = .ok (.iinc 1 1, 3) := zk_132 (by decide +kernel)
theorem dX12_keep_88 : decode cX12_keep 88 = .ok (.goto (-33), 3) := zk_167 (by decide +kernel)
theorem dX12_keep_28 : decode cX12_keep 28 = .ok (.iload_n 1, 1) := zk_27 (by decide +kernel)
theorem dX12_keep_29 : decode cX12_keep 29 = .ok (.sipush 132, 3) := zk_17 (by decide +kernel)
theorem dX12_keep_32 : decode cX12_keep 32 = .ok (.if_icmp .ge 21, 3) := zk_162 (by decide +kernel)
theorem dX12_keep_35 : decode cX12_keep 35 = .ok (.aload_n 0, 1) := zk_42 (by decide +kernel)
theorem dX12_keep_36 : decode cX12_keep 36 = .ok (.getfield 104, 3) := zk_180 (by decide +kernel)
theorem dX12_keep_39 : decode cX12_keep 39 = .ok (.iload_n 1, 1) := zk_27 (by decide +kernel)
theorem dX12_keep_40 : decode cX12_keep 40 = .ok (.aload_n 0, 1) := zk_42 (by decide +kernel)
theorem dX12_keep_41 : decode cX12_keep 41 = .ok (.getfield 60, 3) := zk_180 (by decide +kernel)
theorem dX12_keep_44 : decode cX12_keep 44 = .ok (.iload_n 1, 1) := zk_27 (by decide +kernel)
theorem dX12_keep_45 : decode cX12_keep 45 = .ok (.iaload, 1) := zk_46 (by decide +kernel)
theorem dX12_keep_46 : decode cX12_keep 46 = .ok (.iastore, 1) := zk_79 (by decide +kernel)
theorem dX12_keep_47 : decode cX12_keep 47 = .ok (.iinc 1 1, 3) := zk_132 (by decide +kernel)
theorem dX12_keep_50 : decode cX12_keep 50 = .ok (.goto (-22), 3) := zk_167 (by decide +kernel)
set_option maxHeartbeats 4000000 in
set_option maxRecDepth 100000 in
theorem gq_keep (l : Launch) (dC : Nat → ClassId) (dI : Nat → Nat → Nat) (mq : Nat) (g : Nat → Int32) (gl : Nat → Int64) (rf : Nat → Nat) (ck : Nat → ClassId) (f_noteHas : Nat → Int32) (f_toldNote : Nat → Int32) (f_toldCount : Nat → Int32) (f_keptHas : Nat → Int32) (f_keptNote : Nat → Int32) (f_keptCount : Nat → Int32) (sz : Nat) : Met l yX12_keep (Cond.code yX12_keep cX12_keep 2 (some .int) :: wsL_law) ({ frames := 0, cells := 0, slots := 0, locals := 0 }) (va_Pc [.ref mq] (fun U => U.heap.size = sz ∧ va_P (dC, dI) vwCl [(mq, .inr (12, mF g gl rf)), (eA0 (rf 40) (ck 40) 264 f_noteHas), (eA0 (rf 68) (ck 68) 20 f_toldNote), (eA0 (rf 69) (ck 69) 20 f_toldCount), (eA0 (rf 73) (ck 73) 132 f_keptHas), (eA0 (rf 74) (ck 74) 20 f_keptNote), (eA0 (rf 75) (ck 75) 20 f_keptCount)] U.heap ∧ va_K (dC, dI) vwCl [((ck 40), .int), ((ck 68), .int), ((ck 69), .int), ((ck 73), .int), ((ck 74), .int), ((ck 75), .int)] U ∧ va_D (fun _ => True) [(mq, .inr (12, mF g gl rf)), (eA0 (rf 40) (ck 40) 264 f_noteHas), (eA0 (rf 68) (ck 68) 20 f_toldNote), (eA0 (rf 69) (ck 69) 20 f_toldCount), (eA0 (rf 73) (ck 73) 132 f_keptHas), (eA0 (rf 74) (ck 74) 20 f_keptNote), (eA0 (rf 75) (ck 75) 20 f_keptCount)])) (va_Qi (fun (r : Int32) (u : (Int32) × (Int32) × (Int32) × (Int32) × (Nat → Int32) × (Nat → Int32) × (Nat → Int32)) => r = (fq_keep f_noteHas f_toldNote f_toldCount f_keptHas f_keptNote f_keptCount (g 16) (g 67)).1 ∧ u = (fq_keep f_noteHas f_toldNote f_toldCount f_keptHas f_keptNote f_keptCount (g 16) (g 67)).2) (fun (u : (Int32) × (Int32) × (Int32) × (Int32) × (Nat → Int32) × (Nat → Int32) × (Nat → Int32)) t => va_P (dC, dI) vwCl [(mq, .inr (12, mF (upd (upd (upd (upd g 2 u.1) 70 u.2.1) 71 u.2.2.1) 72 u.2.2.2.1) gl rf)), (eA0 (rf 40) (ck 40) 264 f_noteHas), (eA0 (rf 68) (ck 68) 20 f_toldNote), (eA0 (rf 69) (ck 69) 20 f_toldCount), (eA0 (rf 73) (ck 73) 132 u.2.2.2.2.1), (eA0 (rf 74) (ck 74) 20 u.2.2.2.2.2.1), (eA0 (rf 75) (ck 75) 20 u.2.2.2.2.2.2)] t.heap ∧ va_K (dC, dI) vwCl [] t ∧ va_D (va_A [(mq, .inr (12, mF g gl rf)), (eA0 (rf 40) (ck 40) 264 f_noteHas), (eA0 (rf 68) (ck 68) 20 f_toldNote), (eA0 (rf 69) (ck 69) 20 f_toldCount), (eA0 (rf 73) (ck 73) 132 f_keptHas), (eA0 (rf 74) (ck 74) 20 f_keptNote), (eA0 (rf 75) (ck 75) 20 f_keptCount)] sz) [(mq, .inr (12, mF (upd (upd (upd (upd g 2 u.1) 70 u.2.1) 71 u.2.2.1) 72 u.2.2.2.1) gl rf)), (eA0 (rf 40) (ck 40) 264 f_noteHas), (eA0 (rf 68) (ck 68) 20 f_toldNote), (eA0 (rf 69) (ck 69) 20 f_toldCount), (eA0 (rf 73) (ck 73) 132 u.2.2.2.2.1), (eA0 (rf 74) (ck 74) 20 u.2.2.2.2.2.1), (eA0 (rf 75) (ck 75) 20 u.2.2.2.2.2.2)]) (va_A [(mq, .inr (12, mF g gl rf)), (eA0 (rf 40) (ck 40) 264 f_noteHas), (eA0 (rf 68) (ck 68) 20 f_toldNote), (eA0 (rf 69) (ck 69) 20 f_toldCount), (eA0 (rf 73) (ck 73) 132 f_keptHas), (eA0 (rf 74) (ck 74) 20 f_keptNote), (eA0 (rf 75) (ck 75) 20 f_keptCount)] sz)) 0 0 (va_A [(mq, .inr (12, mF g gl rf)), (eA0 (rf 40) (ck 40) 264 f_noteHas), (eA0 (rf 68) (ck 68) 20 f_toldNote), (eA0 (rf 69) (ck 69) 20 f_toldCount), (eA0 (rf 73) (ck 73) 132 f_keptHas), (eA0 (rf 74) (ck 74) 20 f_keptNote), (eA0 (rf 75) (ck 75) 20 f_keptCount)] sz) := by
  refine Met.ofW (cc := cX12_keep) (maxL := 2) (ret := (some .int)) (by decide) rfl ?_
  intro p e s m args below meth c s₁ B hml hv
  obtain ⟨rfl, hsz, hP, hK, hD0⟩ := hv
  have hx := B.exec
  have hb := B.bytes
  have hr := B.returns
  have hts := atoms_spec (ws := Cond.code yX12_keep cX12_keep 2 (some .int) :: wsL_law) B.pre
  have htw : ∀ w ∈ wsL_law, w.before _ s = true := fun w h => hts w (List.mem_cons_of_mem _ h)
  have hown : s.vm.findClass RX12 = some m.cls := findClass_of_methodNamed B.named
  have hlocks := B.notSynchronized
  subst hsz
  have hD := hD0.self (sz := s.heap.size)
  generalize hAe : va_A [(mq, .inr (12, mF g gl rf)), (eA0 (rf 40) (ck 40) 264 f_noteHas), (eA0 (rf 68) (ck 68) 20 f_toldNote), (eA0 (rf 69) (ck 69) 20 f_toldCount), (eA0 (rf 73) (ck 73) 132 f_keptHas), (eA0 (rf 74) (ck 74) 20 f_keptNote), (eA0 (rf 75) (ck 75) 20 f_keptCount)] s.heap.size = A at hD ⊢
  have hA : ∀ q : Nat, s.heap.size ≤ q → A q := fun q h => by rw [← hAe]; exact Or.inr h
  obtain ⟨H, rH⟩ : ∃ z : Heap, z = s.heap := ⟨_, rfl⟩
  have hS : va_S A s.heap H [] := by rw [rH]; exact va_S.rf
  have hP : va_P (dC, dI) vwCl [(mq, .inr (12, mF g gl rf)), (eA0 (rf 40) (ck 40) 264 f_noteHas), (eA0 (rf 68) (ck 68) 20 f_toldNote), (eA0 (rf 69) (ck 69) 20 f_toldCount), (eA0 (rf 73) (ck 73) 132 f_keptHas), (eA0 (rf 74) (ck 74) 20 f_keptNote), (eA0 (rf 75) (ck 75) 20 f_keptCount)] H := by rw [rH]; exact hP
  rw [← rH]
  have hl := lv_entry ([.ref mq]) (n := 2) (Nat.le_of_ble_eq_true rfl)
  rw [lg_entry_eq]
  generalize (lg_sl ([.ref mq]) ++ List.replicate (2 - (lg_sl ([.ref mq])).length) Slot.unset).toArray = ls at hl ⊢
  have hl : lv_has ls 2 [(0, .ref mq)] := hl
  refine lv_aload_n hx hb dX12_keep_0 rfl (lv_at hl 0 rfl) ?_
  refine lv_iconst (v := 0) hx hb dX12_keep_1 (by decide) ?_
  refine va_put (D := (dC, dI)) (ci := 12) (v := .int 0) (ty := tyX12 2) (C := RX12) (T := TX12) (N := 76) hx hb htw inlX12 tyX12 tyX12_ok nmX12 hown hK hP hD hS 0 rfl rfl 2 (by decide) (htw _ (ck_12 _ (List.mem_of_getElem? (i := 16) rfl))) (fun _ h9 => h9) rfl (tyX12_ok 2 (by decide)) rfl rfl (Nat.le_of_ble_eq_true rfl) dX12_keep_2 (fun H locs hP hD hS => ?_)
  obtain ⟨hP, hD⟩ := zre [(mq, .inr (12, mF (upd g 2 0) gl rf)), (eA0 (rf 40) (ck 40) 264 f_noteHas), (eA0 (rf 68) (ck 68) 20 f_toldNote), (eA0 (rf 69) (ck 69) 20 f_toldCount), (eA0 (rf 73) (ck 73) 132 f_keptHas), (eA0 (rf 74) (ck 74) 20 f_keptNote), (eA0 (rf 75) (ck 75) 20 f_keptCount)] hP hD rfl
  refine lv_aload_n hx hb dX12_keep_5 rfl (lv_at hl 0 rfl) ?_
  refine lv_iconst (v := 1) hx hb dX12_keep_6 (by decide) ?_
  refine va_put (D := (dC, dI)) (ci := 12) (v := .int 1) (ty := tyX12 70) (C := RX12) (T := TX12) (N := 76) hx hb htw inlX12 tyX12 tyX12_ok nmX12 hown hK hP hD hS 0 rfl rfl 70 (by decide) (htw _ (ck_11 _ (List.mem_of_getElem? (i := 18) rfl))) (fun _ h9 => h9) rfl (tyX12_ok 70 (by decide)) rfl rfl (Nat.le_of_ble_eq_true rfl) dX12_keep_7 (fun H locs hP hD hS => ?_)
  have hP : va_P (dC, dI) vwCl [(mq, .inr (12, mF (upd (upd g 2 0) 70 1) gl rf)), (eA0 (rf 40) (ck 40) 264 f_noteHas), (eA0 (rf 68) (ck 68) 20 f_toldNote), (eA0 (rf 69) (ck 69) 20 f_toldCount), (eA0 (rf 73) (ck 73) 132 f_keptHas), (eA0 (rf 74) (ck 74) 20 f_keptNote), (eA0 (rf 75) (ck 75) 20 f_keptCount)] H := hP
  have hD : va_D A [(mq, .inr (12, mF (upd (upd g 2 0) 70 1) gl rf)), (eA0 (rf 40) (ck 40) 264 f_noteHas), (eA0 (rf 68) (ck 68) 20 f_toldNote), (eA0 (rf 69) (ck 69) 20 f_toldCount), (eA0 (rf 73) (ck 73) 132 f_keptHas), (eA0 (rf 74) (ck 74) 20 f_keptNote), (eA0 (rf 75) (ck 75) 20 f_keptCount)] := hD
  refine lv_aload_n hx hb dX12_keep_10 rfl (lv_at hl 0 rfl) ?_
  refine lv_aload_n hx hb dX12_keep_11 rfl (lv_at hl 0 rfl) ?_
  refine va_get (D := (dC, dI)) (ci := 12) (v := .int (g 16)) (C := RX12) (T := TX12) (N := 76) hx hb htw inlX12 hown hK hP 0 rfl rfl 16 (by decide) (htw _ (ck_11 _ (List.mem_of_getElem? (i := 13) rfl))) (fun _ h9 => h9) rfl dX12_keep_12 ?_
  refine va_put (D := (dC, dI)) (ci := 12) (v := .int (g 16)) (ty := tyX12 71) (C := RX12) (T := TX12) (N := 76) hx hb htw inlX12 tyX12 tyX12_ok nmX12 hown hK hP hD hS 0 rfl rfl 71 (by decide) (htw _ (ck_65 _ (List.mem_of_getElem? (i := 16) rfl))) (fun _ h9 => h9) rfl (tyX12_ok 71 (by decide)) rfl rfl (Nat.le_of_ble_eq_true rfl) dX12_keep_15 (fun H locs hP hD hS => ?_)
  have hP : va_P (dC, dI) vwCl [(mq, .inr (12, mF (upd (upd (upd g 2 0) 70 1) 71 (g 16)) gl rf)), (eA0 (rf 40) (ck 40) 264 f_noteHas), (eA0 (rf 68) (ck 68) 20 f_toldNote), (eA0 (rf 69) (ck 69) 20 f_toldCount), (eA0 (rf 73) (ck 73) 132 f_keptHas), (eA0 (rf 74) (ck 74) 20 f_keptNote), (eA0 (rf 75) (ck 75) 20 f_keptCount)] H := hP
  have hD : va_D A [(mq, .inr (12, mF (upd (upd (upd g 2 0) 70 1) 71 (g 16)) gl rf)), (eA0 (rf 40) (ck 40) 264 f_noteHas), (eA0 (rf 68) (ck 68) 20 f_toldNote), (eA0 (rf 69) (ck 69) 20 f_toldCount), (eA0 (rf 73) (ck 73) 132 f_keptHas), (eA0 (rf 74) (ck 74) 20 f_keptNote), (eA0 (rf 75) (ck 75) 20 f_keptCount)] := hD
  refine lv_aload_n hx hb dX12_keep_18 rfl (lv_at hl 0 rfl) ?_
  refine lv_aload_n hx hb dX12_keep_19 rfl (lv_at hl 0 rfl) ?_
  refine va_get (D := (dC, dI)) (ci := 12) (v := .int (g 67)) (C := RX12) (T := TX12) (N := 76) hx hb htw inlX12 hown hK hP 0 rfl rfl 67 (by decide) (htw _ (ck_11 _ (List.mem_of_getElem? (i := 16) rfl))) (fun _ h9 => h9) rfl dX12_keep_20 ?_
  refine va_put (D := (dC, dI)) (ci := 12) (v := .int (g 67)) (ty := tyX12 72) (C := RX12) (T := TX12) (N := 76) hx hb htw inlX12 tyX12 tyX12_ok nmX12 hown hK hP hD hS 0 rfl rfl 72 (by decide) (htw _ (ck_65 _ (List.mem_of_getElem? (i := 17) rfl))) (fun _ h9 => h9) rfl (tyX12_ok 72 (by decide)) rfl rfl (Nat.le_of_ble_eq_true rfl) dX12_keep_23 (fun H locs hP hD hS => ?_)
  have hP : va_P (dC, dI) vwCl [(mq, .inr (12, mF (upd (upd (upd (upd g 2 0) 70 1) 71 (g 16)) 72 (g 67)) gl rf)), (eA0 (rf 40) (ck 40) 264 f_noteHas), (eA0 (rf 68) (ck 68) 20 f_toldNote), (eA0 (rf 69) (ck 69) 20 f_toldCount), (eA0 (rf 73) (ck 73) 132 f_keptHas), (eA0 (rf 74) (ck 74) 20 f_keptNote), (eA0 (rf 75) (ck 75) 20 f_keptCount)] H := hP
  have hD : va_D A [(mq, .inr (12, mF (upd (upd (upd (upd g 2 0) 70 1) 71 (g 16)) 72 (g 67)) gl rf)), (eA0 (rf 40) (ck 40) 264 f_noteHas), (eA0 (rf 68) (ck 68) 20 f_toldNote), (eA0 (rf 69) (ck 69) 20 f_toldCount), (eA0 (rf 73) (ck 73) 132 f_keptHas), (eA0 (rf 74) (ck 74) 20 f_keptNote), (eA0 (rf 75) (ck 75) 20 f_keptCount)] := hD
  refine lv_iconst (v := 0) hx hb dX12_keep_26 (by decide) ?_
  refine lv_istore_n (lv' := [(1, .int 0), (0, .ref mq)]) hx hb dX12_keep_27 rfl hl (by decide) rfl (fun ls hl => ?_)
  obtain ⟨X_1, hX_1⟩ : ∃ X9 : (Int32) × (Nat → Int32), X9 = fq_keep_d f_noteHas 132 (0 : Int32) f_keptHas := ⟨_, rfl⟩
  have hexit_2 : ∀ (L1dx : Int32) (f_keptHas_dx : Nat → Int32)  (hE9 : X_1 = (L1dx, f_keptHas_dx)) (H : Heap) (locs : List Loc) (ls : Array Slot) (hP : va_P (dC, dI) vwCl [(mq, .inr (12, mF (upd (upd (upd (upd g 2 0) 70 1) 71 (g 16)) 72 (g 67)) gl rf)), (eA0 (rf 40) (ck 40) 264 f_noteHas), (eA0 (rf 68) (ck 68) 20 f_toldNote), (eA0 (rf 69) (ck 69) 20 f_toldCount), (eA0 (rf 73) (ck 73) 132 f_keptHas_dx), (eA0 (rf 74) (ck 74) 20 f_keptNote), (eA0 (rf 75) (ck 75) 20 f_keptCount)] H) (hD : va_D A [(mq, .inr (12, mF (upd (upd (upd (upd g 2 0) 70 1) 71 (g 16)) 72 (g 67)) gl rf)), (eA0 (rf 40) (ck 40) 264 f_noteHas), (eA0 (rf 68) (ck 68) 20 f_toldNote), (eA0 (rf 69) (ck 69) 20 f_toldCount), (eA0 (rf 73) (ck 73) 132 f_keptHas_dx), (eA0 (rf 74) (ck 74) 20 f_keptNote), (eA0 (rf 75) (ck 75) 20 f_keptCount)]) (hS : va_S A s.heap H locs) (hl : lv_has ls 2 [(1, .int L1dx), (0, .ref mq)]), W p l e (headSpec (Cond.code yX12_keep cX12_keep 2 (some .int) :: wsL_law) ({ frames := 0, cells := 0, slots := 0, locals := 0 })).room s m ([.ref mq] : List Value).toArray below meth c H locs 0 0 (MQ below (va_Qi (fun (r : Int32) (u : (Int32) × (Int32) × (Int32) × (Int32) × (Nat → Int32) × (Nat → Int32) × (Nat → Int32)) => r = (fq_keep f_noteHas f_toldNote f_toldCount f_keptHas f_keptNote f_keptCount (g 16) (g 67)).1 ∧ u = (fq_keep f_noteHas f_toldNote f_toldCount f_keptHas f_keptNote f_keptCount (g 16) (g 67)).2) (fun (u : (Int32) × (Int32) × (Int32) × (Int32) × (Nat → Int32) × (Nat → Int32) × (Nat → Int32)) t => va_P (dC, dI) vwCl [(mq, .inr (12, mF (upd (upd (upd (upd g 2 u.1) 70 u.2.1) 71 u.2.2.1) 72 u.2.2.2.1) gl rf)), (eA0 (rf 40) (ck 40) 264 f_noteHas), (eA0 (rf 68) (ck 68) 20 f_toldNote), (eA0 (rf 69) (ck 69) 20 f_toldCount), (eA0 (rf 73) (ck 73) 132 u.2.2.2.2.1), (eA0 (rf 74) (ck 74) 20 u.2.2.2.2.2.1), (eA0 (rf 75) (ck 75) 20 u.2.2.2.2.2.2)] t.heap ∧ va_K (dC, dI) vwCl [] t ∧ va_D A [(mq, .inr (12, mF (upd (upd (upd (upd g 2 u.1) 70 u.2.1) 71 u.2.2.1) 72 u.2.2.2.1) gl rf)), (eA0 (rf 40) (ck 40) 264 f_noteHas), (eA0 (rf 68) (ck 68) 20 f_toldNote), (eA0 (rf 69) (ck 69) 20 f_toldCount), (eA0 (rf 73) (ck 73) 132 u.2.2.2.2.1), (eA0 (rf 74) (ck 74) 20 u.2.2.2.2.2.1), (eA0 (rf 75) (ck 75) 20 u.2.2.2.2.2.2)]) A) ([.ref mq] : List Value).toArray s 0 0 A) (F0 m 53 ls []) := by
    intro L1dx f_keptHas_dx  hE9 H locs ls hP hD hS hl
    have hq_L1dx : L1dx = X_1.1 := by rw [hE9]
    have hq_f_keptHas_dx : f_keptHas_dx = X_1.2 := by rw [hE9]
    refine lv_iconst (v := 0) hx hb dX12_keep_53 (by decide) ?_
    refine lv_istore_n (lv' := [(1, .int 0), (0, .ref mq)]) hx hb dX12_keep_54 rfl hl (by decide) rfl (fun ls hl => ?_)
    obtain ⟨X_3, hX_3⟩ : ∃ X9 : (Int32) × (Nat → Int32) × (Nat → Int32), X9 = fq_keep_e f_toldNote f_toldCount 20 (0 : Int32) f_keptNote f_keptCount := ⟨_, rfl⟩
    have hexit_4 : ∀ (L1ex : Int32) (f_keptNote_ex : Nat → Int32) (f_keptCount_ex : Nat → Int32)  (hE9 : X_3 = (L1ex, f_keptNote_ex, f_keptCount_ex)) (H : Heap) (locs : List Loc) (ls : Array Slot) (hP : va_P (dC, dI) vwCl [(mq, .inr (12, mF (upd (upd (upd (upd g 2 0) 70 1) 71 (g 16)) 72 (g 67)) gl rf)), (eA0 (rf 40) (ck 40) 264 f_noteHas), (eA0 (rf 68) (ck 68) 20 f_toldNote), (eA0 (rf 69) (ck 69) 20 f_toldCount), (eA0 (rf 73) (ck 73) 132 f_keptHas_dx), (eA0 (rf 74) (ck 74) 20 f_keptNote_ex), (eA0 (rf 75) (ck 75) 20 f_keptCount_ex)] H) (hD : va_D A [(mq, .inr (12, mF (upd (upd (upd (upd g 2 0) 70 1) 71 (g 16)) 72 (g 67)) gl rf)), (eA0 (rf 40) (ck 40) 264 f_noteHas), (eA0 (rf 68) (ck 68) 20 f_toldNote), (eA0 (rf 69) (ck 69) 20 f_toldCount), (eA0 (rf 73) (ck 73) 132 f_keptHas_dx), (eA0 (rf 74) (ck 74) 20 f_keptNote_ex), (eA0 (rf 75) (ck 75) 20 f_keptCount_ex)]) (hS : va_S A s.heap H locs) (hl : lv_has ls 2 [(1, .int L1ex), (0, .ref mq)]), W p l e (headSpec (Cond.code yX12_keep cX12_keep 2 (some .int) :: wsL_law) ({ frames := 0, cells := 0, slots := 0, locals := 0 })).room s m ([.ref mq] : List Value).toArray below meth c H locs 0 0 (MQ below (va_Qi (fun (r : Int32) (u : (Int32) × (Int32) × (Int32) × (Int32) × (Nat → Int32) × (Nat → Int32) × (Nat → Int32)) => r = (fq_keep f_noteHas f_toldNote f_toldCount f_keptHas f_keptNote f_keptCount (g 16) (g 67)).1 ∧ u = (fq_keep f_noteHas f_toldNote f_toldCount f_keptHas f_keptNote f_keptCount (g 16) (g 67)).2) (fun (u : (Int32) × (Int32) × (Int32) × (Int32) × (Nat → Int32) × (Nat → Int32) × (Nat → Int32)) t => va_P (dC, dI) vwCl [(mq, .inr (12, mF (upd (upd (upd (upd g 2 u.1) 70 u.2.1) 71 u.2.2.1) 72 u.2.2.2.1) gl rf)), (eA0 (rf 40) (ck 40) 264 f_noteHas), (eA0 (rf 68) (ck 68) 20 f_toldNote), (eA0 (rf 69) (ck 69) 20 f_toldCount), (eA0 (rf 73) (ck 73) 132 u.2.2.2.2.1), (eA0 (rf 74) (ck 74) 20 u.2.2.2.2.2.1), (eA0 (rf 75) (ck 75) 20 u.2.2.2.2.2.2)] t.heap ∧ va_K (dC, dI) vwCl [] t ∧ va_D A [(mq, .inr (12, mF (upd (upd (upd (upd g 2 u.1) 70 u.2.1) 71 u.2.2.1) 72 u.2.2.2.1) gl rf)), (eA0 (rf 40) (ck 40) 264 f_noteHas), (eA0 (rf 68) (ck 68) 20 f_toldNote), (eA0 (rf 69) (ck 69) 20 f_toldCount), (eA0 (rf 73) (ck 73) 132 u.2.2.2.2.1), (eA0 (rf 74) (ck 74) 20 u.2.2.2.2.2.1), (eA0 (rf 75) (ck 75) 20 u.2.2.2.2.2.2)]) A) ([.ref mq] : List Value).toArray s 0 0 A) (F0 m 91 ls []) := by
      intro L1ex f_keptNote_ex f_keptCount_ex  hE9 H locs ls hP hD hS hl
      have hq_L1ex : L1ex = X_3.1 := by rw [hE9]
      have hq_f_keptNote_ex : f_keptNote_ex = X_3.2.1 := by rw [hE9]
      have hq_f_keptCount_ex : f_keptCount_ex = X_3.2.2 := by rw [hE9]
      refine lv_aload_n hx hb dX12_keep_91 rfl (lv_at hl 1 rfl) ?_
      refine va_get (D := (dC, dI)) (ci := 12) (v := .int (g 16)) (C := RX12) (T := TX12) (N := 76) hx hb htw inlX12 hown hK hP 0 rfl rfl 16 (by decide) (htw _ (ck_11 _ (List.mem_of_getElem? (i := 13) rfl))) (fun _ h9 => h9) rfl dX12_keep_92 ?_
      refine W.widen (k := 0) (n := 0) (by omega) (by omega) ?_
      obtain ⟨hP9, hD9⟩ := zsub2 (ws' := [(mq, .inr (12, mF (upd (upd (upd (upd g 2 0) 70 1) 71 (g 16)) 72 (g 67)) gl rf)), (eA0 (rf 40) (ck 40) 264 f_noteHas), (eA0 (rf 68) (ck 68) 20 f_toldNote), (eA0 (rf 69) (ck 69) 20 f_toldCount), (eA0 (rf 73) (ck 73) 132 f_keptHas_dx), (eA0 (rf 74) (ck 74) 20 f_keptNote_ex), (eA0 (rf 75) (ck 75) 20 f_keptCount_ex)]) hP hD [0, 1, 2, 3, 4, 5, 6] (by decide) rfl
      have hK9 := hK.sub (tys' := []) [] rfl
      exact W.iret (v := (g 16)) hx hb hr (fun t ht hW => ⟨⟨(g 16), (0, 1, (g 16), (g 67), f_keptHas_dx, f_keptNote_ex, f_keptCount_ex), rfl, ((fun e9 => ⟨by rw [e9], by rw [e9]⟩ : fq_keep f_noteHas f_toldNote f_toldCount f_keptHas f_keptNote f_keptCount (g 16) (g 67) = ((g 16), (0 : Int32), (1 : Int32), (g 16), (g 67), f_keptHas_dx, f_keptNote_ex, f_keptCount_ex) → _) ((by rw [fq_keep]; (try rw [← hX_1]); (try rw [xL_eq]); (try rw [← hq_L1dx]); (try rw [← hq_f_keptHas_dx]); (try rw [← hX_3]); (try rw [xL_eq]); (try rw [← hq_L1ex]); (try rw [← hq_f_keptNote_ex]); (try rw [← hq_f_keptCount_ex]); try rfl))), by rw [ht]; exact hP9, va_K.moved hW.alike hK9, hD9⟩, hS.F ht⟩) hS.2.2 dX12_keep_95
    have hloop_5 : ∀ (n : Nat) (L1e : Int32) (f_keptNote_e : Nat → Int32) (f_keptCount_e : Nat → Int32) (h0_e : ¬ L1e < 0) (hf_e : (20 : Int32).toInt ≤ L1e.toInt + (n : Int)) (hI_e : X_3 = fq_keep_e f_toldNote f_toldCount n L1e f_keptNote_e f_keptCount_e) (H : Heap) (locs : List Loc) (ls : Array Slot) (hP : va_P (dC, dI) vwCl [(mq, .inr (12, mF (upd (upd (upd (upd g 2 0) 70 1) 71 (g 16)) 72 (g 67)) gl rf)), (eA0 (rf 40) (ck 40) 264 f_noteHas), (eA0 (rf 68) (ck 68) 20 f_toldNote), (eA0 (rf 69) (ck 69) 20 f_toldCount), (eA0 (rf 73) (ck 73) 132 f_keptHas_dx), (eA0 (rf 74) (ck 74) 20 f_keptNote_e), (eA0 (rf 75) (ck 75) 20 f_keptCount_e)] H) (hD : va_D A [(mq, .inr (12, mF (upd (upd (upd (upd g 2 0) 70 1) 71 (g 16)) 72 (g 67)) gl rf)), (eA0 (rf 40) (ck 40) 264 f_noteHas), (eA0 (rf 68) (ck 68) 20 f_toldNote), (eA0 (rf 69) (ck 69) 20 f_toldCount), (eA0 (rf 73) (ck 73) 132 f_keptHas_dx), (eA0 (rf 74) (ck 74) 20 f_keptNote_e), (eA0 (rf 75) (ck 75) 20 f_keptCount_e)]) (hS : va_S A s.heap H locs) (hl : lv_has ls 2 [(1, .int L1e), (0, .ref mq)]), W p l e (headSpec (Cond.code yX12_keep cX12_keep 2 (some .int) :: wsL_law) ({ frames := 0, cells := 0, slots := 0, locals := 0 })).room s m ([.ref mq] : List Value).toArray below meth c H locs 0 0 (MQ below (va_Qi (fun (r : Int32) (u : (Int32) × (Int32) × (Int32) × (Int32) × (Nat → Int32) × (Nat → Int32) × (Nat → Int32)) => r = (fq_keep f_noteHas f_toldNote f_toldCount f_keptHas f_keptNote f_keptCount (g 16) (g 67)).1 ∧ u = (fq_keep f_noteHas f_toldNote f_toldCount f_keptHas f_keptNote f_keptCount (g 16) (g 67)).2) (fun (u : (Int32) × (Int32) × (Int32) × (Int32) × (Nat → Int32) × (Nat → Int32) × (Nat → Int32)) t => va_P (dC, dI) vwCl [(mq, .inr (12, mF (upd (upd (upd (upd g 2 u.1) 70 u.2.1) 71 u.2.2.1) 72 u.2.2.2.1) gl rf)), (eA0 (rf 40) (ck 40) 264 f_noteHas), (eA0 (rf 68) (ck 68) 20 f_toldNote), (eA0 (rf 69) (ck 69) 20 f_toldCount), (eA0 (rf 73) (ck 73) 132 u.2.2.2.2.1), (eA0 (rf 74) (ck 74) 20 u.2.2.2.2.2.1), (eA0 (rf 75) (ck 75) 20 u.2.2.2.2.2.2)] t.heap ∧ va_K (dC, dI) vwCl [] t ∧ va_D A [(mq, .inr (12, mF (upd (upd (upd (upd g 2 u.1) 70 u.2.1) 71 u.2.2.1) 72 u.2.2.2.1) gl rf)), (eA0 (rf 40) (ck 40) 264 f_noteHas), (eA0 (rf 68) (ck 68) 20 f_toldNote), (eA0 (rf 69) (ck 69) 20 f_toldCount), (eA0 (rf 73) (ck 73) 132 u.2.2.2.2.1), (eA0 (rf 74) (ck 74) 20 u.2.2.2.2.2.1), (eA0 (rf 75) (ck 75) 20 u.2.2.2.2.2.2)]) A) ([.ref mq] : List Value).toArray s 0 0 A) (F0 m 55 ls []) := by
      intro n
      induction n with
      | zero =>
        intro L1e f_keptNote_e f_keptCount_e h0_e hf_e hI_e H locs ls hP hD hS hl
        refine lv_iload_n hx hb dX12_keep_55 rfl (lv_at hl 0 rfl) ?_
        refine lv_bipush (v := 20) hx hb dX12_keep_56 (by decide) ?_
        refine lv_icmp_ge (tgt := 91) hx hb dX12_keep_58 (by decide) (fun c_6 => ?_) (fun c_6 => absurd c_6 (fun h => h (xi_z hf_e)))
        exact hexit_4 L1e f_keptNote_e f_keptCount_e  (hI_e.trans (by rw [fq_keep_e]; try rfl)) _ _ ls hP hD hS (lv_sub hl [0, 1] rfl)
      | succ n ih =>
        intro L1e f_keptNote_e f_keptCount_e h0_e hf_e hI_e H locs ls hP hD hS hl
        refine lv_iload_n hx hb dX12_keep_55 rfl (lv_at hl 0 rfl) ?_
        refine lv_bipush (v := 20) hx hb dX12_keep_56 (by decide) ?_
        refine lv_icmp_ge (tgt := 91) hx hb dX12_keep_58 (by decide) (fun c_7 => ?_) (fun c_7 => ?_)
        · exact hexit_4 L1e f_keptNote_e f_keptCount_e  (hI_e.trans (by rw [fq_keep_e]; (try rw [if_pos c_7]); try rfl)) _ _ ls hP hD hS (lv_sub hl [0, 1] rfl)
        · refine lv_aload_n hx hb dX12_keep_61 rfl (lv_at hl 1 rfl) ?_
          refine va_get (D := (dC, dI)) (ci := 12) (v := .ref (rf 74)) (C := RX12) (T := TX12) (N := 76) hx hb htw inlX12 hown hK hP 0 rfl rfl 74 (by decide) (htw _ (ck_10 _ (List.mem_of_getElem? (i := 13) rfl))) (fun _ h9 => h9) rfl dX12_keep_62 ?_
          refine lv_iload_n hx hb dX12_keep_65 rfl (lv_at hl 0 rfl) ?_
          refine lv_aload_n hx hb dX12_keep_66 rfl (lv_at hl 1 rfl) ?_
          refine va_get (D := (dC, dI)) (ci := 12) (v := .ref (rf 68)) (C := RX12) (T := TX12) (N := 76) hx hb htw inlX12 hown hK hP 0 rfl rfl 68 (by decide) (htw _ (ck_10 _ (List.mem_of_getElem? (i := 10) rfl))) (fun _ h9 => h9) rfl dX12_keep_67 ?_
          refine lv_iload_n hx hb dX12_keep_70 rfl (lv_at hl 0 rfl) ?_
          refine va_iald hx hb hK hP 2 1 rfl rfl (xg_inr (N := 20) rfl (gq_keep_s0 (y0 := L1e) c_7 h0_e).1 (gq_keep_s0 (y0 := L1e) c_7 h0_e).2) dX12_keep_71 ?_
          refine va_iast hx hb hK hP hD hS 5 4 rfl rfl (xg_inr (N := 20) rfl (gq_keep_s1 (y0 := L1e) c_7 h0_e).1 (gq_keep_s1 (y0 := L1e) c_7 h0_e).2) dX12_keep_72 (fun H locs hP hD hS => ?_)
          have hP : va_P (dC, dI) vwCl [(mq, .inr (12, mF (upd (upd (upd (upd g 2 0) 70 1) 71 (g 16)) 72 (g 67)) gl rf)), (eA0 (rf 40) (ck 40) 264 f_noteHas), (eA0 (rf 68) (ck 68) 20 f_toldNote), (eA0 (rf 69) (ck 69) 20 f_toldCount), (eA0 (rf 73) (ck 73) 132 f_keptHas_dx), (eA0 (rf 74) (ck 74) 20 (upd f_keptNote_e L1e.toNatClampNeg (f_toldNote L1e.toNatClampNeg))), (eA0 (rf 75) (ck 75) 20 f_keptCount_e)] H := hP
          have hD : va_D A [(mq, .inr (12, mF (upd (upd (upd (upd g 2 0) 70 1) 71 (g 16)) 72 (g 67)) gl rf)), (eA0 (rf 40) (ck 40) 264 f_noteHas), (eA0 (rf 68) (ck 68) 20 f_toldNote), (eA0 (rf 69) (ck 69) 20 f_toldCount), (eA0 (rf 73) (ck 73) 132 f_keptHas_dx), (eA0 (rf 74) (ck 74) 20 (upd f_keptNote_e L1e.toNatClampNeg (f_toldNote L1e.toNatClampNeg))), (eA0 (rf 75) (ck 75) 20 f_keptCount_e)] := hD
          refine lv_aload_n hx hb dX12_keep_73 rfl (lv_at hl 1 rfl) ?_
          refine va_get (D := (dC, dI)) (ci := 12) (v := .ref (rf 75)) (C := RX12) (T := TX12) (N := 76) hx hb htw inlX12 hown hK hP 0 rfl rfl 75 (by decide) (htw _ (ck_10 _ (List.mem_of_getElem? (i := 14) rfl))) (fun _ h9 => h9) rfl dX12_keep_74 ?_
          refine lv_iload_n hx hb dX12_keep_77 rfl (lv_at hl 0 rfl) ?_
          refine lv_aload_n hx hb dX12_keep_78 rfl (lv_at hl 1 rfl) ?_
          refine va_get (D := (dC, dI)) (ci := 12) (v := .ref (rf 69)) (C := RX12) (T := TX12) (N := 76) hx hb htw inlX12 hown hK hP 0 rfl rfl 69 (by decide) (htw _ (ck_10 _ (List.mem_of_getElem? (i := 11) rfl))) (fun _ h9 => h9) rfl dX12_keep_79 ?_
          refine lv_iload_n hx hb dX12_keep_82 rfl (lv_at hl 0 rfl) ?_
          refine va_iald hx hb hK hP 3 2 rfl rfl (xg_inr (N := 20) rfl (gq_keep_s2 (y0 := L1e) c_7 h0_e).1 (gq_keep_s2 (y0 := L1e) c_7 h0_e).2) dX12_keep_83 ?_
          refine va_iast hx hb hK hP hD hS 6 5 rfl rfl (xg_inr (N := 20) rfl (gq_keep_s3 (y0 := L1e) c_7 h0_e).1 (gq_keep_s3 (y0 := L1e) c_7 h0_e).2) dX12_keep_84 (fun H locs hP hD hS => ?_)
          have hP : va_P (dC, dI) vwCl [(mq, .inr (12, mF (upd (upd (upd (upd g 2 0) 70 1) 71 (g 16)) 72 (g 67)) gl rf)), (eA0 (rf 40) (ck 40) 264 f_noteHas), (eA0 (rf 68) (ck 68) 20 f_toldNote), (eA0 (rf 69) (ck 69) 20 f_toldCount), (eA0 (rf 73) (ck 73) 132 f_keptHas_dx), (eA0 (rf 74) (ck 74) 20 (upd f_keptNote_e L1e.toNatClampNeg (f_toldNote L1e.toNatClampNeg))), (eA0 (rf 75) (ck 75) 20 (upd f_keptCount_e L1e.toNatClampNeg (f_toldCount L1e.toNatClampNeg)))] H := hP
          have hD : va_D A [(mq, .inr (12, mF (upd (upd (upd (upd g 2 0) 70 1) 71 (g 16)) 72 (g 67)) gl rf)), (eA0 (rf 40) (ck 40) 264 f_noteHas), (eA0 (rf 68) (ck 68) 20 f_toldNote), (eA0 (rf 69) (ck 69) 20 f_toldCount), (eA0 (rf 73) (ck 73) 132 f_keptHas_dx), (eA0 (rf 74) (ck 74) 20 (upd f_keptNote_e L1e.toNatClampNeg (f_toldNote L1e.toNatClampNeg))), (eA0 (rf 75) (ck 75) 20 (upd f_keptCount_e L1e.toNatClampNeg (f_toldCount L1e.toNatClampNeg)))] := hD
          refine lv_iinc (v := (L1e + 1)) (lv' := [(1, .int (L1e + 1)), (0, .ref mq)]) hx hb dX12_keep_85 hl (k := 0) rfl (rfl) (by decide) rfl (fun ls hl => ?_)
          refine lv_goto (tgt := 55) hx hb dX12_keep_88 (by decide) ?_
          exact ih (L1e + 1) (upd f_keptNote_e L1e.toNatClampNeg (f_toldNote L1e.toNatClampNeg)) (upd f_keptCount_e L1e.toNatClampNeg (f_toldCount L1e.toNatClampNeg)) (gq_keep_s4 (y0 := L1e) c_7 h0_e) (by rw [xi_s' c_7]; omega) (hI_e.trans (by rw [fq_keep_e]; (try rw [if_neg c_7]); try rfl)) H locs ls hP hD hS (lv_sub hl [0, 1] rfl)
    exact hloop_5 20 (0 : Int32) f_keptNote f_keptCount (gq_keep_s5 ) (by decide) (hX_3) _ _ ls hP hD hS (lv_sub hl [0, 1] rfl)
  have hloop_10 : ∀ (n : Nat) (L1d : Int32) (f_keptHas_d : Nat → Int32) (h0_d : ¬ L1d < 0) (hf_d : (132 : Int32).toInt ≤ L1d.toInt + (n : Int)) (hI_d : X_1 = fq_keep_d f_noteHas n L1d f_keptHas_d) (H : Heap) (locs : List Loc) (ls : Array Slot) (hP : va_P (dC, dI) vwCl [(mq, .inr (12, mF (upd (upd (upd (upd g 2 0) 70 1) 71 (g 16)) 72 (g 67)) gl rf)), (eA0 (rf 40) (ck 40) 264 f_noteHas), (eA0 (rf 68) (ck 68) 20 f_toldNote), (eA0 (rf 69) (ck 69) 20 f_toldCount), (eA0 (rf 73) (ck 73) 132 f_keptHas_d), (eA0 (rf 74) (ck 74) 20 f_keptNote), (eA0 (rf 75) (ck 75) 20 f_keptCount)] H) (hD : va_D A [(mq, .inr (12, mF (upd (upd (upd (upd g 2 0) 70 1) 71 (g 16)) 72 (g 67)) gl rf)), (eA0 (rf 40) (ck 40) 264 f_noteHas), (eA0 (rf 68) (ck 68) 20 f_toldNote), (eA0 (rf 69) (ck 69) 20 f_toldCount), (eA0 (rf 73) (ck 73) 132 f_keptHas_d), (eA0 (rf 74) (ck 74) 20 f_keptNote), (eA0 (rf 75) (ck 75) 20 f_keptCount)]) (hS : va_S A s.heap H locs) (hl : lv_has ls 2 [(1, .int L1d), (0, .ref mq)]), W p l e (headSpec (Cond.code yX12_keep cX12_keep 2 (some .int) :: wsL_law) ({ frames := 0, cells := 0, slots := 0, locals := 0 })).room s m ([.ref mq] : List Value).toArray below meth c H locs 0 0 (MQ below (va_Qi (fun (r : Int32) (u : (Int32) × (Int32) × (Int32) × (Int32) × (Nat → Int32) × (Nat → Int32) × (Nat → Int32)) => r = (fq_keep f_noteHas f_toldNote f_toldCount f_keptHas f_keptNote f_keptCount (g 16) (g 67)).1 ∧ u = (fq_keep f_noteHas f_toldNote f_toldCount f_keptHas f_keptNote f_keptCount (g 16) (g 67)).2) (fun (u : (Int32) × (Int32) × (Int32) × (Int32) × (Nat → Int32) × (Nat → Int32) × (Nat → Int32)) t => va_P (dC, dI) vwCl [(mq, .inr (12, mF (upd (upd (upd (upd g 2 u.1) 70 u.2.1) 71 u.2.2.1) 72 u.2.2.2.1) gl rf)), (eA0 (rf 40) (ck 40) 264 f_noteHas), (eA0 (rf 68) (ck 68) 20 f_toldNote), (eA0 (rf 69) (ck 69) 20 f_toldCount), (eA0 (rf 73) (ck 73) 132 u.2.2.2.2.1), (eA0 (rf 74) (ck 74) 20 u.2.2.2.2.2.1), (eA0 (rf 75) (ck 75) 20 u.2.2.2.2.2.2)] t.heap ∧ va_K (dC, dI) vwCl [] t ∧ va_D A [(mq, .inr (12, mF (upd (upd (upd (upd g 2 u.1) 70 u.2.1) 71 u.2.2.1) 72 u.2.2.2.1) gl rf)), (eA0 (rf 40) (ck 40) 264 f_noteHas), (eA0 (rf 68) (ck 68) 20 f_toldNote), (eA0 (rf 69) (ck 69) 20 f_toldCount), (eA0 (rf 73) (ck 73) 132 u.2.2.2.2.1), (eA0 (rf 74) (ck 74) 20 u.2.2.2.2.2.1), (eA0 (rf 75) (ck 75) 20 u.2.2.2.2.2.2)]) A) ([.ref mq] : List Value).toArray s 0 0 A) (F0 m 28 ls []) := by
    intro n
    induction n with
    | zero =>
      intro L1d f_keptHas_d h0_d hf_d hI_d H locs ls hP hD hS hl
      refine lv_iload_n hx hb dX12_keep_28 rfl (lv_at hl 0 rfl) ?_
      refine lv_sipush (v := 132) hx hb dX12_keep_29 (by decide) ?_
      refine lv_icmp_ge (tgt := 53) hx hb dX12_keep_32 (by decide) (fun c_11 => ?_) (fun c_11 => absurd c_11 (fun h => h (xi_z hf_d)))
      exact hexit_2 L1d f_keptHas_d  (hI_d.trans (by rw [fq_keep_d]; try rfl)) _ _ ls hP hD hS (lv_sub hl [0, 1] rfl)
    | succ n ih =>
      intro L1d f_keptHas_d h0_d hf_d hI_d H locs ls hP hD hS hl
      refine lv_iload_n hx hb dX12_keep_28 rfl (lv_at hl 0 rfl) ?_
      refine lv_sipush (v := 132) hx hb dX12_keep_29 (by decide) ?_
      refine lv_icmp_ge (tgt := 53) hx hb dX12_keep_32 (by decide) (fun c_12 => ?_) (fun c_12 => ?_)
      · exact hexit_2 L1d f_keptHas_d  (hI_d.trans (by rw [fq_keep_d]; (try rw [if_pos c_12]); try rfl)) _ _ ls hP hD hS (lv_sub hl [0, 1] rfl)
      · refine lv_aload_n hx hb dX12_keep_35 rfl (lv_at hl 1 rfl) ?_
        refine va_get (D := (dC, dI)) (ci := 12) (v := .ref (rf 73)) (C := RX12) (T := TX12) (N := 76) hx hb htw inlX12 hown hK hP 0 rfl rfl 73 (by decide) (htw _ (ck_10 _ (List.mem_of_getElem? (i := 12) rfl))) (fun _ h9 => h9) rfl dX12_keep_36 ?_
        refine lv_iload_n hx hb dX12_keep_39 rfl (lv_at hl 0 rfl) ?_
        refine lv_aload_n hx hb dX12_keep_40 rfl (lv_at hl 1 rfl) ?_
        refine va_get (D := (dC, dI)) (ci := 12) (v := .ref (rf 40)) (C := RX12) (T := TX12) (N := 76) hx hb htw inlX12 hown hK hP 0 rfl rfl 40 (by decide) (htw _ (ck_9 _ (List.mem_of_getElem? (i := 20) rfl))) (fun _ h9 => h9) rfl dX12_keep_41 ?_
        refine lv_iload_n hx hb dX12_keep_44 rfl (lv_at hl 0 rfl) ?_
        refine va_iald hx hb hK hP 1 0 rfl rfl (xg_inr (N := 264) rfl (gq_keep_s6 (y0 := L1d) c_12 h0_d).1 (gq_keep_s6 (y0 := L1d) c_12 h0_d).2) dX12_keep_45 ?_
        refine va_iast hx hb hK hP hD hS 4 3 rfl rfl (xg_inr (N := 132) rfl (gq_keep_s7 (y0 := L1d) c_12 h0_d).1 (gq_keep_s7 (y0 := L1d) c_12 h0_d).2) dX12_keep_46 (fun H locs hP hD hS => ?_)
        have hP : va_P (dC, dI) vwCl [(mq, .inr (12, mF (upd (upd (upd (upd g 2 0) 70 1) 71 (g 16)) 72 (g 67)) gl rf)), (eA0 (rf 40) (ck 40) 264 f_noteHas), (eA0 (rf 68) (ck 68) 20 f_toldNote), (eA0 (rf 69) (ck 69) 20 f_toldCount), (eA0 (rf 73) (ck 73) 132 (upd f_keptHas_d L1d.toNatClampNeg (f_noteHas L1d.toNatClampNeg))), (eA0 (rf 74) (ck 74) 20 f_keptNote), (eA0 (rf 75) (ck 75) 20 f_keptCount)] H := hP
        have hD : va_D A [(mq, .inr (12, mF (upd (upd (upd (upd g 2 0) 70 1) 71 (g 16)) 72 (g 67)) gl rf)), (eA0 (rf 40) (ck 40) 264 f_noteHas), (eA0 (rf 68) (ck 68) 20 f_toldNote), (eA0 (rf 69) (ck 69) 20 f_toldCount), (eA0 (rf 73) (ck 73) 132 (upd f_keptHas_d L1d.toNatClampNeg (f_noteHas L1d.toNatClampNeg))), (eA0 (rf 74) (ck 74) 20 f_keptNote), (eA0 (rf 75) (ck 75) 20 f_keptCount)] := hD
        refine lv_iinc (v := (L1d + 1)) (lv' := [(1, .int (L1d + 1)), (0, .ref mq)]) hx hb dX12_keep_47 hl (k := 0) rfl (rfl) (by decide) rfl (fun ls hl => ?_)
        refine lv_goto (tgt := 28) hx hb dX12_keep_50 (by decide) ?_
        exact ih (L1d + 1) (upd f_keptHas_d L1d.toNatClampNeg (f_noteHas L1d.toNatClampNeg)) (gq_keep_s8 (y0 := L1d) c_12 h0_d) (by rw [xi_s' c_12]; omega) (hI_d.trans (by rw [fq_keep_d]; (try rw [if_neg c_12]); try rfl)) H locs ls hP hD hS (lv_sub hl [0, 1] rfl)
  exact hloop_10 132 (0 : Int32) f_keptHas (gq_keep_s9 ) (by decide) (hX_1) _ _ ls hP hD hS (lv_sub hl [0, 1] rfl)

def fq_back_d (f_keptHas : Nat → Int32) : Nat → (Int32) → (Nat → Int32) → (Int32) × (Nat → Int32)
  | 0, L1d, f_noteHas_d => (L1d, f_noteHas_d)
  | n + 1, L1d, f_noteHas_d => (if 132 ≤ L1d then (L1d, f_noteHas_d) else fq_back_d f_keptHas n (L1d + 1) (upd f_noteHas_d L1d.toNatClampNeg (f_keptHas L1d.toNatClampNeg)))
def fq_back_e (f_keptNote : Nat → Int32) (f_keptCount : Nat → Int32) : Nat → (Int32) → (Nat → Int32) → (Nat → Int32) → (Int32) × (Nat → Int32) × (Nat → Int32)
  | 0, L1e, f_toldNote_e, f_toldCount_e => (L1e, f_toldNote_e, f_toldCount_e)
  | n + 1, L1e, f_toldNote_e, f_toldCount_e => (if 20 ≤ L1e then (L1e, f_toldNote_e, f_toldCount_e) else fq_back_e f_keptNote f_keptCount n (L1e + 1) (upd f_toldNote_e L1e.toNatClampNeg (f_keptNote L1e.toNatClampNeg)) (upd f_toldCount_e L1e.toNatClampNeg (f_keptCount L1e.toNatClampNeg)))
def fq_back (f_noteHas : Nat → Int32) (f_toldNote : Nat → Int32) (f_toldCount : Nat → Int32) (f_keptHas : Nat → Int32) (f_keptNote : Nat → Int32) (f_keptCount : Nat → Int32) (m_notes : Int32) (m_undos : Int32) (m_tolds : Int32) (m_hasImage : Int32) (m_keptNotes : Int32) (m_keptTolds : Int32) : Int32 × (Int32) × (Int32) × (Int32) × (Int32) × (Nat → Int32) × (Nat → Int32) × (Nat → Int32) := (if m_hasImage = 0 then ((-1 : Int32), (0 : Int32), m_notes, m_undos, m_tolds, f_noteHas, f_toldNote, f_toldCount) else (xL (fq_back_d f_keptHas 132 (0 : Int32) f_noteHas) (fun X_2 => (xL (fq_back_e f_keptNote f_keptCount 20 (0 : Int32) f_toldNote f_toldCount) (fun X_4 => (m_keptNotes, (0 : Int32), m_keptNotes, (0 : Int32), m_keptTolds, X_2.2, X_4.2.1, X_4.2.2))))))
theorem gq_back_s0 {y0 : Int32} (h0 : ¬ (20 ≤ y0)) (h1 : ¬ (y0 < 0)) : ¬ (y0 < 0) ∧ ¬ (20 ≤ y0) := ⟨h1, h0⟩
theorem gq_back_s1 {y0 : Int32} (h0 : ¬ (20 ≤ y0)) (h1 : ¬ (y0 < 0)) : ¬ (y0 < 0) ∧ ¬ (20 ≤ y0) := ⟨h1, h0⟩
theorem gq_back_s2 {y0 : Int32} (h0 : ¬ (20 ≤ y0)) (h1 : ¬ (y0 < 0)) : ¬ (y0 < 0) ∧ ¬ (20 ≤ y0) := ⟨h1, h0⟩
theorem gq_back_s3 {y0 : Int32} (h0 : ¬ (20 ≤ y0)) (h1 : ¬ (y0 < 0)) : ¬ (y0 < 0) ∧ ¬ (20 ≤ y0) := ⟨h1, h0⟩
theorem gq_back_s4 {y0 : Int32} (h0 : ¬ (20 ≤ y0)) (h1 : ¬ (y0 < 0)) : ¬ ((y0 + 1) < 0) := by lia
theorem gq_back_s5  : ¬ ((0 : Int32) < 0) := (by decide)
theorem gq_back_s6 {y0 : Int32} (h0 : ¬ (132 ≤ y0)) (h1 : ¬ (y0 < 0)) : ¬ (y0 < 0) ∧ ¬ (132 ≤ y0) := ⟨h1, h0⟩
theorem gq_back_s7 {y0 : Int32} (h0 : ¬ (132 ≤ y0)) (h1 : ¬ (y0 < 0)) : ¬ (y0 < 0) ∧ ¬ (264 ≤ y0) := by lia
theorem gq_back_s8 {y0 : Int32} (h0 : ¬ (132 ≤ y0)) (h1 : ¬ (y0 < 0)) : ¬ ((y0 + 1) < 0) := by lia
theorem gq_back_s9  : ¬ ((0 : Int32) < 0) := (by decide)
theorem dX12_back_0 : decode cX12_back 0 = .ok (.aload_n 0, 1) := zk_42 (by decide +kernel)
theorem dX12_back_1 : decode cX12_back 1 = .ok (.iconst 0, 1) := zk_3 (by decide +kernel)
theorem dX12_back_2 : decode cX12_back 2 = .ok (.putfield 119, 3) := zk_181 (by decide +kernel)
theorem dX12_back_5 : decode cX12_back 5 = .ok (.aload_n 0, 1) := zk_42 (by decide +kernel)
theorem dX12_back_6 : decode cX12_back 6 = .ok (.getfield 252, 3) := zk_180 (by decide +kernel)
theorem dX12_back_9 : decode cX12_back 9 = .ok (.ifCond .ne 5, 3) := zk_154 (by decide +kernel)
theorem dX12_back_14 : decode cX12_back 14 = .ok (.aload_n 0, 1) := zk_42 (by decide +kernel)
theorem dX12_back_15 : decode cX12_back 15 = .ok (.aload_n 0, 1) := zk_42 (by decide +kernel)
theorem dX12_back_16 : decode cX12_back 16 = .ok (.getfield 540, 3) := zk_180 (by decide +kernel)
theorem dX12_back_19 : decode cX12_back 19 = .ok (.putfield 229, 3) := zk_181 (by decide +kernel)
theorem dX12_back_22 : decode cX12_back 22 = .ok (.aload_n 0, 1) := zk_42 (by decide +kernel)
theorem dX12_back_23 : decode cX12_back 23 = .ok (.aload_n 0, 1) := zk_42 (by decide +kernel)
theorem dX12_back_24 : decode cX12_back 24 = .ok (.getfield 543, 3) := zk_180 (by decide +kernel)
theorem dX12_back_27 : decode cX12_back 27 = .ok (.putfield 246, 3) := zk_181 (by decide +kernel)
theorem dX12_back_30 : decode cX12_back 30 = .ok (.iconst 0, 1) := zk_3 (by decide +kernel)
theorem dX12_back_31 : decode cX12_back 31 = .ok (.istore_n 1, 1) := zk_60 (by decide +kernel)
theorem dX12_back_57 : decode cX12_back 57 = .ok (.iconst 0, 1) := zk_3 (by decide +kernel)
theorem dX12_back_58 : decode cX12_back 58 = .ok (.istore_n 1, 1) := zk_60 (by decide +kernel)
theorem dX12_back_95 : decode cX12_back 95 = .ok (.aload_n 0, 1) := zk_42 (by decide +kernel)
theorem dX12_back_96 : decode cX12_back 96 = .ok (.iconst 0, 1) := zk_3 (by decide +kernel)
theorem dX12_back_97 : decode cX12_back 97 = .ok (.putfield 249, 3) := zk_181 (by decide +kernel)
theorem dX12_back_100 : decode cX12_back 100 = .ok (.aload_n 0, 1) := zk_42 (by decide +kernel)
theorem dX12_back_101 : decode cX12_back 101 = .ok (.getfield 229, 3) := zk_180 (by decide +kernel)
theorem dX12_back_104 : decode cX12_back 104 = .ok (.ireturn, 1) := zk_172 (by decide +kernel)
theorem dX12_back_59 : decode cX12_back 59 = .ok (.iload_n 1, 1) := zk_27 (by decide +kernel)
theorem dX12_back_60 : decode cX12_back 60 = .ok (.bipush 20, 2) := zk_16 (by decide +kernel)
theorem dX12_back_62 : decode cX12_back 62 = .ok (.if_icmp .ge 33, 3) := zk_162 (by decide +kernel)
theorem dX12_back_65 : decode cX12_back 65 = .ok (.aload_n 0, 1) := zk_42 (by decide +kernel)
theorem dX12_back_66 : decode cX12_back 66 = .ok (.getfield 98, 3) := zk_180 (by decide +kernel)
theorem dX12_back_69 : decode cX12_back 69 = .ok (.iload_n 1, 1) := zk_27 (by decide +kernel)
theorem dX12_back_70 : decode cX12_back 70 = .ok (.aload_n 0, 1) := zk_42 (by decide +kernel)
theorem dX12_back_71 : decode cX12_back 71 = .ok (.getfield 107, 3) := zk_180 (by decide +kernel)
theorem dX12_back_74 : decode cX12_back 74 = .ok (.iload_n 1, 1) := zk_27 (by decide +kernel)
theorem dX12_back_75 : decode cX12_back 75 = .ok (.iaload, 1) := zk_46 (by decide +kernel)
theorem dX12_back_76 : decode cX12_back 76 = .ok (.iastore, 1) := zk_79 (by decide +kernel)
theorem dX12_back_77 : decode cX12_back 77 = .ok (.aload_n 0, 1) := zk_42 (by decide +kernel)
theorem dX12_back_78 : decode cX12_back 78 = .ok (.getfield 101, 3) := zk_180 (by decide +kernel)
theorem dX12_back_81 : decode cX12_back 81 = .ok (.iload_n 1, 1) := zk_27 (by decide +kernel)
theorem dX12_back_82 : decode cX12_back 82 = .ok (.aload_n 0, 1) := zk_42 (by decide +kernel)
theorem dX12_back_83 : decode cX12_back 83 = .ok (.getfield 110, 3) := zk_180 (by decide +kernel)
theorem dX12_back_86 : decode cX12_back 86 = .ok (.iload_n 1, 1) := zk_27 (by decide +kernel)
theorem dX12_back_87 : decode cX12_back 87 = .ok (.iaload, 1) := zk_46 (by decide +kernel)
theorem dX12_back_88 : decode cX12_back 88 = .ok (.iastore, 1) := zk_79 (by decide +kernel)
theorem dX12_back_89 : decode cX12_back 89 = .ok (.iinc 1 1, 3) := zk_132 (by decide +kernel)
theorem dX12_back_92 : decode cX12_back 92 = .ok (.goto (-33), 3) := zk_167 (by decide +kernel)
theorem dX12_back_32 : decode cX12_back 32 = .ok (.iload_n 1, 1) := zk_27 (by decide +kernel)
theorem dX12_back_33 : decode cX12_back 33 = .ok (.sipush 132, 3) := zk_17 (by decide +kernel)
theorem dX12_back_36 : decode cX12_back 36 = .ok (.if_icmp .ge 21, 3) := zk_162 (by decide +kernel)
theorem dX12_back_39 : decode cX12_back 39 = .ok (.aload_n 0, 1) := zk_42 (by decide +kernel)
theorem dX12_back_40 : decode cX12_back 40 = .ok (.getfield 60, 3) := zk_180 (by decide +kernel)
theorem dX12_back_43 : decode cX12_back 43 = .ok (.iload_n 1, 1) := zk_27 (by decide +kernel)
theorem dX12_back_44 : decode cX12_back 44 = .ok (.aload_n 0, 1) := zk_42 (by decide +kernel)
theorem dX12_back_45 : decode cX12_back 45 = .ok (.getfield 104, 3) := zk_180 (by decide +kernel)
theorem dX12_back_48 : decode cX12_back 48 = .ok (.iload_n 1, 1) := zk_27 (by decide +kernel)
theorem dX12_back_49 : decode cX12_back 49 = .ok (.iaload, 1) := zk_46 (by decide +kernel)
theorem dX12_back_50 : decode cX12_back 50 = .ok (.iastore, 1) := zk_79 (by decide +kernel)
theorem dX12_back_51 : decode cX12_back 51 = .ok (.iinc 1 1, 3) := zk_132 (by decide +kernel)
theorem dX12_back_54 : decode cX12_back 54 = .ok (.goto (-22), 3) := zk_167 (by decide +kernel)
theorem dX12_back_12 : decode cX12_back 12 = .ok (.iconst (-1), 1) := zk_2 (by decide +kernel)
theorem dX12_back_13 : decode cX12_back 13 = .ok (.ireturn, 1) := zk_172 (by decide +kernel)
set_option maxHeartbeats 4000000 in
set_option maxRecDepth 100000 in
theorem gq_back (l : Launch) (dC : Nat → ClassId) (dI : Nat → Nat → Nat) (mq : Nat) (g : Nat → Int32) (gl : Nat → Int64) (rf : Nat → Nat) (ck : Nat → ClassId) (f_noteHas : Nat → Int32) (f_toldNote : Nat → Int32) (f_toldCount : Nat → Int32) (f_keptHas : Nat → Int32) (f_keptNote : Nat → Int32) (f_keptCount : Nat → Int32) (sz : Nat) : Met l yX12_back (Cond.code yX12_back cX12_back 2 (some .int) :: wsL_law) ({ frames := 0, cells := 0, slots := 0, locals := 0 }) (va_Pc [.ref mq] (fun U => U.heap.size = sz ∧ va_P (dC, dI) vwCl [(mq, .inr (12, mF g gl rf)), (eA0 (rf 40) (ck 40) 264 f_noteHas), (eA0 (rf 68) (ck 68) 20 f_toldNote), (eA0 (rf 69) (ck 69) 20 f_toldCount), (eA0 (rf 73) (ck 73) 132 f_keptHas), (eA0 (rf 74) (ck 74) 20 f_keptNote), (eA0 (rf 75) (ck 75) 20 f_keptCount)] U.heap ∧ va_K (dC, dI) vwCl [((ck 40), .int), ((ck 68), .int), ((ck 69), .int), ((ck 73), .int), ((ck 74), .int), ((ck 75), .int)] U ∧ va_D (fun _ => True) [(mq, .inr (12, mF g gl rf)), (eA0 (rf 40) (ck 40) 264 f_noteHas), (eA0 (rf 68) (ck 68) 20 f_toldNote), (eA0 (rf 69) (ck 69) 20 f_toldCount), (eA0 (rf 73) (ck 73) 132 f_keptHas), (eA0 (rf 74) (ck 74) 20 f_keptNote), (eA0 (rf 75) (ck 75) 20 f_keptCount)])) (va_Qi (fun (r : Int32) (u : (Int32) × (Int32) × (Int32) × (Int32) × (Nat → Int32) × (Nat → Int32) × (Nat → Int32)) => r = (fq_back f_noteHas f_toldNote f_toldCount f_keptHas f_keptNote f_keptCount (g 16) (g 59) (g 67) (g 70) (g 71) (g 72)).1 ∧ u = (fq_back f_noteHas f_toldNote f_toldCount f_keptHas f_keptNote f_keptCount (g 16) (g 59) (g 67) (g 70) (g 71) (g 72)).2) (fun (u : (Int32) × (Int32) × (Int32) × (Int32) × (Nat → Int32) × (Nat → Int32) × (Nat → Int32)) t => va_P (dC, dI) vwCl [(mq, .inr (12, mF (upd (upd (upd (upd g 2 u.1) 16 u.2.1) 59 u.2.2.1) 67 u.2.2.2.1) gl rf)), (eA0 (rf 40) (ck 40) 264 u.2.2.2.2.1), (eA0 (rf 68) (ck 68) 20 u.2.2.2.2.2.1), (eA0 (rf 69) (ck 69) 20 u.2.2.2.2.2.2), (eA0 (rf 73) (ck 73) 132 f_keptHas), (eA0 (rf 74) (ck 74) 20 f_keptNote), (eA0 (rf 75) (ck 75) 20 f_keptCount)] t.heap ∧ va_K (dC, dI) vwCl [] t ∧ va_D (va_A [(mq, .inr (12, mF g gl rf)), (eA0 (rf 40) (ck 40) 264 f_noteHas), (eA0 (rf 68) (ck 68) 20 f_toldNote), (eA0 (rf 69) (ck 69) 20 f_toldCount), (eA0 (rf 73) (ck 73) 132 f_keptHas), (eA0 (rf 74) (ck 74) 20 f_keptNote), (eA0 (rf 75) (ck 75) 20 f_keptCount)] sz) [(mq, .inr (12, mF (upd (upd (upd (upd g 2 u.1) 16 u.2.1) 59 u.2.2.1) 67 u.2.2.2.1) gl rf)), (eA0 (rf 40) (ck 40) 264 u.2.2.2.2.1), (eA0 (rf 68) (ck 68) 20 u.2.2.2.2.2.1), (eA0 (rf 69) (ck 69) 20 u.2.2.2.2.2.2), (eA0 (rf 73) (ck 73) 132 f_keptHas), (eA0 (rf 74) (ck 74) 20 f_keptNote), (eA0 (rf 75) (ck 75) 20 f_keptCount)]) (va_A [(mq, .inr (12, mF g gl rf)), (eA0 (rf 40) (ck 40) 264 f_noteHas), (eA0 (rf 68) (ck 68) 20 f_toldNote), (eA0 (rf 69) (ck 69) 20 f_toldCount), (eA0 (rf 73) (ck 73) 132 f_keptHas), (eA0 (rf 74) (ck 74) 20 f_keptNote), (eA0 (rf 75) (ck 75) 20 f_keptCount)] sz)) 0 0 (va_A [(mq, .inr (12, mF g gl rf)), (eA0 (rf 40) (ck 40) 264 f_noteHas), (eA0 (rf 68) (ck 68) 20 f_toldNote), (eA0 (rf 69) (ck 69) 20 f_toldCount), (eA0 (rf 73) (ck 73) 132 f_keptHas), (eA0 (rf 74) (ck 74) 20 f_keptNote), (eA0 (rf 75) (ck 75) 20 f_keptCount)] sz) := by
  refine Met.ofW (cc := cX12_back) (maxL := 2) (ret := (some .int)) (by decide) rfl ?_
  intro p e s m args below meth c s₁ B hml hv
  obtain ⟨rfl, hsz, hP, hK, hD0⟩ := hv
  have hx := B.exec
  have hb := B.bytes
  have hr := B.returns
  have hts := atoms_spec (ws := Cond.code yX12_back cX12_back 2 (some .int) :: wsL_law) B.pre
  have htw : ∀ w ∈ wsL_law, w.before _ s = true := fun w h => hts w (List.mem_cons_of_mem _ h)
  have hown : s.vm.findClass RX12 = some m.cls := findClass_of_methodNamed B.named
  have hlocks := B.notSynchronized
  subst hsz
  have hD := hD0.self (sz := s.heap.size)
  generalize hAe : va_A [(mq, .inr (12, mF g gl rf)), (eA0 (rf 40) (ck 40) 264 f_noteHas), (eA0 (rf 68) (ck 68) 20 f_toldNote), (eA0 (rf 69) (ck 69) 20 f_toldCount), (eA0 (rf 73) (ck 73) 132 f_keptHas), (eA0 (rf 74) (ck 74) 20 f_keptNote), (eA0 (rf 75) (ck 75) 20 f_keptCount)] s.heap.size = A at hD ⊢
  have hA : ∀ q : Nat, s.heap.size ≤ q → A q := fun q h => by rw [← hAe]; exact Or.inr h
  obtain ⟨H, rH⟩ : ∃ z : Heap, z = s.heap := ⟨_, rfl⟩
  have hS : va_S A s.heap H [] := by rw [rH]; exact va_S.rf
  have hP : va_P (dC, dI) vwCl [(mq, .inr (12, mF g gl rf)), (eA0 (rf 40) (ck 40) 264 f_noteHas), (eA0 (rf 68) (ck 68) 20 f_toldNote), (eA0 (rf 69) (ck 69) 20 f_toldCount), (eA0 (rf 73) (ck 73) 132 f_keptHas), (eA0 (rf 74) (ck 74) 20 f_keptNote), (eA0 (rf 75) (ck 75) 20 f_keptCount)] H := by rw [rH]; exact hP
  rw [← rH]
  have hl := lv_entry ([.ref mq]) (n := 2) (Nat.le_of_ble_eq_true rfl)
  rw [lg_entry_eq]
  generalize (lg_sl ([.ref mq]) ++ List.replicate (2 - (lg_sl ([.ref mq])).length) Slot.unset).toArray = ls at hl ⊢
  have hl : lv_has ls 2 [(0, .ref mq)] := hl
  refine lv_aload_n hx hb dX12_back_0 rfl (lv_at hl 0 rfl) ?_
  refine lv_iconst (v := 0) hx hb dX12_back_1 (by decide) ?_
  refine va_put (D := (dC, dI)) (ci := 12) (v := .int 0) (ty := tyX12 2) (C := RX12) (T := TX12) (N := 76) hx hb htw inlX12 tyX12 tyX12_ok nmX12 hown hK hP hD hS 0 rfl rfl 2 (by decide) (htw _ (ck_12 _ (List.mem_of_getElem? (i := 16) rfl))) (fun _ h9 => h9) rfl (tyX12_ok 2 (by decide)) rfl rfl (Nat.le_of_ble_eq_true rfl) dX12_back_2 (fun H locs hP hD hS => ?_)
  obtain ⟨hP, hD⟩ := zre [(mq, .inr (12, mF (upd g 2 0) gl rf)), (eA0 (rf 40) (ck 40) 264 f_noteHas), (eA0 (rf 68) (ck 68) 20 f_toldNote), (eA0 (rf 69) (ck 69) 20 f_toldCount), (eA0 (rf 73) (ck 73) 132 f_keptHas), (eA0 (rf 74) (ck 74) 20 f_keptNote), (eA0 (rf 75) (ck 75) 20 f_keptCount)] hP hD rfl
  refine lv_aload_n hx hb dX12_back_5 rfl (lv_at hl 0 rfl) ?_
  refine va_get (D := (dC, dI)) (ci := 12) (v := .int (g 70)) (C := RX12) (T := TX12) (N := 76) hx hb htw inlX12 hown hK hP 0 rfl rfl 70 (by decide) (htw _ (ck_11 _ (List.mem_of_getElem? (i := 18) rfl))) (fun _ h9 => h9) rfl dX12_back_6 ?_
  refine lv_if_ne (tgt := 14) hx hb dX12_back_9 (by decide) (fun c_1 => ?_) (fun c_1 => ?_)
  · refine lv_aload_n hx hb dX12_back_14 rfl (lv_at hl 0 rfl) ?_
    refine lv_aload_n hx hb dX12_back_15 rfl (lv_at hl 0 rfl) ?_
    refine va_get (D := (dC, dI)) (ci := 12) (v := .int (g 71)) (C := RX12) (T := TX12) (N := 76) hx hb htw inlX12 hown hK hP 0 rfl rfl 71 (by decide) (htw _ (ck_65 _ (List.mem_of_getElem? (i := 16) rfl))) (fun _ h9 => h9) rfl dX12_back_16 ?_
    refine va_put (D := (dC, dI)) (ci := 12) (v := .int (g 71)) (ty := tyX12 16) (C := RX12) (T := TX12) (N := 76) hx hb htw inlX12 tyX12 tyX12_ok nmX12 hown hK hP hD hS 0 rfl rfl 16 (by decide) (htw _ (ck_11 _ (List.mem_of_getElem? (i := 13) rfl))) (fun _ h9 => h9) rfl (tyX12_ok 16 (by decide)) rfl rfl (Nat.le_of_ble_eq_true rfl) dX12_back_19 (fun H locs hP hD hS => ?_)
    have hP : va_P (dC, dI) vwCl [(mq, .inr (12, mF (upd (upd g 2 0) 16 (g 71)) gl rf)), (eA0 (rf 40) (ck 40) 264 f_noteHas), (eA0 (rf 68) (ck 68) 20 f_toldNote), (eA0 (rf 69) (ck 69) 20 f_toldCount), (eA0 (rf 73) (ck 73) 132 f_keptHas), (eA0 (rf 74) (ck 74) 20 f_keptNote), (eA0 (rf 75) (ck 75) 20 f_keptCount)] H := hP
    have hD : va_D A [(mq, .inr (12, mF (upd (upd g 2 0) 16 (g 71)) gl rf)), (eA0 (rf 40) (ck 40) 264 f_noteHas), (eA0 (rf 68) (ck 68) 20 f_toldNote), (eA0 (rf 69) (ck 69) 20 f_toldCount), (eA0 (rf 73) (ck 73) 132 f_keptHas), (eA0 (rf 74) (ck 74) 20 f_keptNote), (eA0 (rf 75) (ck 75) 20 f_keptCount)] := hD
    refine lv_aload_n hx hb dX12_back_22 rfl (lv_at hl 0 rfl) ?_
    refine lv_aload_n hx hb dX12_back_23 rfl (lv_at hl 0 rfl) ?_
    refine va_get (D := (dC, dI)) (ci := 12) (v := .int (g 72)) (C := RX12) (T := TX12) (N := 76) hx hb htw inlX12 hown hK hP 0 rfl rfl 72 (by decide) (htw _ (ck_65 _ (List.mem_of_getElem? (i := 17) rfl))) (fun _ h9 => h9) rfl dX12_back_24 ?_
    refine va_put (D := (dC, dI)) (ci := 12) (v := .int (g 72)) (ty := tyX12 67) (C := RX12) (T := TX12) (N := 76) hx hb htw inlX12 tyX12 tyX12_ok nmX12 hown hK hP hD hS 0 rfl rfl 67 (by decide) (htw _ (ck_11 _ (List.mem_of_getElem? (i := 16) rfl))) (fun _ h9 => h9) rfl (tyX12_ok 67 (by decide)) rfl rfl (Nat.le_of_ble_eq_true rfl) dX12_back_27 (fun H locs hP hD hS => ?_)
    have hP : va_P (dC, dI) vwCl [(mq, .inr (12, mF (upd (upd (upd g 2 0) 16 (g 71)) 67 (g 72)) gl rf)), (eA0 (rf 40) (ck 40) 264 f_noteHas), (eA0 (rf 68) (ck 68) 20 f_toldNote), (eA0 (rf 69) (ck 69) 20 f_toldCount), (eA0 (rf 73) (ck 73) 132 f_keptHas), (eA0 (rf 74) (ck 74) 20 f_keptNote), (eA0 (rf 75) (ck 75) 20 f_keptCount)] H := hP
    have hD : va_D A [(mq, .inr (12, mF (upd (upd (upd g 2 0) 16 (g 71)) 67 (g 72)) gl rf)), (eA0 (rf 40) (ck 40) 264 f_noteHas), (eA0 (rf 68) (ck 68) 20 f_toldNote), (eA0 (rf 69) (ck 69) 20 f_toldCount), (eA0 (rf 73) (ck 73) 132 f_keptHas), (eA0 (rf 74) (ck 74) 20 f_keptNote), (eA0 (rf 75) (ck 75) 20 f_keptCount)] := hD
    refine lv_iconst (v := 0) hx hb dX12_back_30 (by decide) ?_
    refine lv_istore_n (lv' := [(1, .int 0), (0, .ref mq)]) hx hb dX12_back_31 rfl hl (by decide) rfl (fun ls hl => ?_)
    obtain ⟨X_2, hX_2⟩ : ∃ X9 : (Int32) × (Nat → Int32), X9 = fq_back_d f_keptHas 132 (0 : Int32) f_noteHas := ⟨_, rfl⟩
    have hexit_3 : ∀ (L1dx : Int32) (f_noteHas_dx : Nat → Int32)  (hE9 : X_2 = (L1dx, f_noteHas_dx)) (H : Heap) (locs : List Loc) (ls : Array Slot) (hP : va_P (dC, dI) vwCl [(mq, .inr (12, mF (upd (upd (upd g 2 0) 16 (g 71)) 67 (g 72)) gl rf)), (eA0 (rf 40) (ck 40) 264 f_noteHas_dx), (eA0 (rf 68) (ck 68) 20 f_toldNote), (eA0 (rf 69) (ck 69) 20 f_toldCount), (eA0 (rf 73) (ck 73) 132 f_keptHas), (eA0 (rf 74) (ck 74) 20 f_keptNote), (eA0 (rf 75) (ck 75) 20 f_keptCount)] H) (hD : va_D A [(mq, .inr (12, mF (upd (upd (upd g 2 0) 16 (g 71)) 67 (g 72)) gl rf)), (eA0 (rf 40) (ck 40) 264 f_noteHas_dx), (eA0 (rf 68) (ck 68) 20 f_toldNote), (eA0 (rf 69) (ck 69) 20 f_toldCount), (eA0 (rf 73) (ck 73) 132 f_keptHas), (eA0 (rf 74) (ck 74) 20 f_keptNote), (eA0 (rf 75) (ck 75) 20 f_keptCount)]) (hS : va_S A s.heap H locs) (hl : lv_has ls 2 [(1, .int L1dx), (0, .ref mq)]), W p l e (headSpec (Cond.code yX12_back cX12_back 2 (some .int) :: wsL_law) ({ frames := 0, cells := 0, slots := 0, locals := 0 })).room s m ([.ref mq] : List Value).toArray below meth c H locs 0 0 (MQ below (va_Qi (fun (r : Int32) (u : (Int32) × (Int32) × (Int32) × (Int32) × (Nat → Int32) × (Nat → Int32) × (Nat → Int32)) => r = (fq_back f_noteHas f_toldNote f_toldCount f_keptHas f_keptNote f_keptCount (g 16) (g 59) (g 67) (g 70) (g 71) (g 72)).1 ∧ u = (fq_back f_noteHas f_toldNote f_toldCount f_keptHas f_keptNote f_keptCount (g 16) (g 59) (g 67) (g 70) (g 71) (g 72)).2) (fun (u : (Int32) × (Int32) × (Int32) × (Int32) × (Nat → Int32) × (Nat → Int32) × (Nat → Int32)) t => va_P (dC, dI) vwCl [(mq, .inr (12, mF (upd (upd (upd (upd g 2 u.1) 16 u.2.1) 59 u.2.2.1) 67 u.2.2.2.1) gl rf)), (eA0 (rf 40) (ck 40) 264 u.2.2.2.2.1), (eA0 (rf 68) (ck 68) 20 u.2.2.2.2.2.1), (eA0 (rf 69) (ck 69) 20 u.2.2.2.2.2.2), (eA0 (rf 73) (ck 73) 132 f_keptHas), (eA0 (rf 74) (ck 74) 20 f_keptNote), (eA0 (rf 75) (ck 75) 20 f_keptCount)] t.heap ∧ va_K (dC, dI) vwCl [] t ∧ va_D A [(mq, .inr (12, mF (upd (upd (upd (upd g 2 u.1) 16 u.2.1) 59 u.2.2.1) 67 u.2.2.2.1) gl rf)), (eA0 (rf 40) (ck 40) 264 u.2.2.2.2.1), (eA0 (rf 68) (ck 68) 20 u.2.2.2.2.2.1), (eA0 (rf 69) (ck 69) 20 u.2.2.2.2.2.2), (eA0 (rf 73) (ck 73) 132 f_keptHas), (eA0 (rf 74) (ck 74) 20 f_keptNote), (eA0 (rf 75) (ck 75) 20 f_keptCount)]) A) ([.ref mq] : List Value).toArray s 0 0 A) (F0 m 57 ls []) := by
      intro L1dx f_noteHas_dx  hE9 H locs ls hP hD hS hl
      have hq_L1dx : L1dx = X_2.1 := by rw [hE9]
      have hq_f_noteHas_dx : f_noteHas_dx = X_2.2 := by rw [hE9]
      refine lv_iconst (v := 0) hx hb dX12_back_57 (by decide) ?_
      refine lv_istore_n (lv' := [(1, .int 0), (0, .ref mq)]) hx hb dX12_back_58 rfl hl (by decide) rfl (fun ls hl => ?_)
      obtain ⟨X_4, hX_4⟩ : ∃ X9 : (Int32) × (Nat → Int32) × (Nat → Int32), X9 = fq_back_e f_keptNote f_keptCount 20 (0 : Int32) f_toldNote f_toldCount := ⟨_, rfl⟩
      have hexit_5 : ∀ (L1ex : Int32) (f_toldNote_ex : Nat → Int32) (f_toldCount_ex : Nat → Int32)  (hE9 : X_4 = (L1ex, f_toldNote_ex, f_toldCount_ex)) (H : Heap) (locs : List Loc) (ls : Array Slot) (hP : va_P (dC, dI) vwCl [(mq, .inr (12, mF (upd (upd (upd g 2 0) 16 (g 71)) 67 (g 72)) gl rf)), (eA0 (rf 40) (ck 40) 264 f_noteHas_dx), (eA0 (rf 68) (ck 68) 20 f_toldNote_ex), (eA0 (rf 69) (ck 69) 20 f_toldCount_ex), (eA0 (rf 73) (ck 73) 132 f_keptHas), (eA0 (rf 74) (ck 74) 20 f_keptNote), (eA0 (rf 75) (ck 75) 20 f_keptCount)] H) (hD : va_D A [(mq, .inr (12, mF (upd (upd (upd g 2 0) 16 (g 71)) 67 (g 72)) gl rf)), (eA0 (rf 40) (ck 40) 264 f_noteHas_dx), (eA0 (rf 68) (ck 68) 20 f_toldNote_ex), (eA0 (rf 69) (ck 69) 20 f_toldCount_ex), (eA0 (rf 73) (ck 73) 132 f_keptHas), (eA0 (rf 74) (ck 74) 20 f_keptNote), (eA0 (rf 75) (ck 75) 20 f_keptCount)]) (hS : va_S A s.heap H locs) (hl : lv_has ls 2 [(1, .int L1ex), (0, .ref mq)]), W p l e (headSpec (Cond.code yX12_back cX12_back 2 (some .int) :: wsL_law) ({ frames := 0, cells := 0, slots := 0, locals := 0 })).room s m ([.ref mq] : List Value).toArray below meth c H locs 0 0 (MQ below (va_Qi (fun (r : Int32) (u : (Int32) × (Int32) × (Int32) × (Int32) × (Nat → Int32) × (Nat → Int32) × (Nat → Int32)) => r = (fq_back f_noteHas f_toldNote f_toldCount f_keptHas f_keptNote f_keptCount (g 16) (g 59) (g 67) (g 70) (g 71) (g 72)).1 ∧ u = (fq_back f_noteHas f_toldNote f_toldCount f_keptHas f_keptNote f_keptCount (g 16) (g 59) (g 67) (g 70) (g 71) (g 72)).2) (fun (u : (Int32) × (Int32) × (Int32) × (Int32) × (Nat → Int32) × (Nat → Int32) × (Nat → Int32)) t => va_P (dC, dI) vwCl [(mq, .inr (12, mF (upd (upd (upd (upd g 2 u.1) 16 u.2.1) 59 u.2.2.1) 67 u.2.2.2.1) gl rf)), (eA0 (rf 40) (ck 40) 264 u.2.2.2.2.1), (eA0 (rf 68) (ck 68) 20 u.2.2.2.2.2.1), (eA0 (rf 69) (ck 69) 20 u.2.2.2.2.2.2), (eA0 (rf 73) (ck 73) 132 f_keptHas), (eA0 (rf 74) (ck 74) 20 f_keptNote), (eA0 (rf 75) (ck 75) 20 f_keptCount)] t.heap ∧ va_K (dC, dI) vwCl [] t ∧ va_D A [(mq, .inr (12, mF (upd (upd (upd (upd g 2 u.1) 16 u.2.1) 59 u.2.2.1) 67 u.2.2.2.1) gl rf)), (eA0 (rf 40) (ck 40) 264 u.2.2.2.2.1), (eA0 (rf 68) (ck 68) 20 u.2.2.2.2.2.1), (eA0 (rf 69) (ck 69) 20 u.2.2.2.2.2.2), (eA0 (rf 73) (ck 73) 132 f_keptHas), (eA0 (rf 74) (ck 74) 20 f_keptNote), (eA0 (rf 75) (ck 75) 20 f_keptCount)]) A) ([.ref mq] : List Value).toArray s 0 0 A) (F0 m 95 ls []) := by
        intro L1ex f_toldNote_ex f_toldCount_ex  hE9 H locs ls hP hD hS hl
        have hq_L1ex : L1ex = X_4.1 := by rw [hE9]
        have hq_f_toldNote_ex : f_toldNote_ex = X_4.2.1 := by rw [hE9]
        have hq_f_toldCount_ex : f_toldCount_ex = X_4.2.2 := by rw [hE9]
        refine lv_aload_n hx hb dX12_back_95 rfl (lv_at hl 1 rfl) ?_
        refine lv_iconst (v := 0) hx hb dX12_back_96 (by decide) ?_
        refine va_put (D := (dC, dI)) (ci := 12) (v := .int 0) (ty := tyX12 59) (C := RX12) (T := TX12) (N := 76) hx hb htw inlX12 tyX12 tyX12_ok nmX12 hown hK hP hD hS 0 rfl rfl 59 (by decide) (htw _ (ck_11 _ (List.mem_of_getElem? (i := 17) rfl))) (fun _ h9 => h9) rfl (tyX12_ok 59 (by decide)) rfl rfl (Nat.le_of_ble_eq_true rfl) dX12_back_97 (fun H locs hP hD hS => ?_)
        have hP : va_P (dC, dI) vwCl [(mq, .inr (12, mF (upd (upd (upd (upd g 2 0) 16 (g 71)) 59 0) 67 (g 72)) gl rf)), (eA0 (rf 40) (ck 40) 264 f_noteHas_dx), (eA0 (rf 68) (ck 68) 20 f_toldNote_ex), (eA0 (rf 69) (ck 69) 20 f_toldCount_ex), (eA0 (rf 73) (ck 73) 132 f_keptHas), (eA0 (rf 74) (ck 74) 20 f_keptNote), (eA0 (rf 75) (ck 75) 20 f_keptCount)] H := hP
        have hD : va_D A [(mq, .inr (12, mF (upd (upd (upd (upd g 2 0) 16 (g 71)) 59 0) 67 (g 72)) gl rf)), (eA0 (rf 40) (ck 40) 264 f_noteHas_dx), (eA0 (rf 68) (ck 68) 20 f_toldNote_ex), (eA0 (rf 69) (ck 69) 20 f_toldCount_ex), (eA0 (rf 73) (ck 73) 132 f_keptHas), (eA0 (rf 74) (ck 74) 20 f_keptNote), (eA0 (rf 75) (ck 75) 20 f_keptCount)] := hD
        refine lv_aload_n hx hb dX12_back_100 rfl (lv_at hl 1 rfl) ?_
        refine va_get (D := (dC, dI)) (ci := 12) (v := .int (g 71)) (C := RX12) (T := TX12) (N := 76) hx hb htw inlX12 hown hK hP 0 rfl rfl 16 (by decide) (htw _ (ck_11 _ (List.mem_of_getElem? (i := 13) rfl))) (fun _ h9 => h9) rfl dX12_back_101 ?_
        refine W.widen (k := 0) (n := 0) (by omega) (by omega) ?_
        have hP9 := hP
        have hD9 := hD
        have hK9 := hK.sub (tys' := []) [] rfl
        exact W.iret (v := (g 71)) hx hb hr (fun t ht hW => ⟨⟨(g 71), (0, (g 71), 0, (g 72), f_noteHas_dx, f_toldNote_ex, f_toldCount_ex), rfl, ((fun e9 => ⟨by rw [e9], by rw [e9]⟩ : fq_back f_noteHas f_toldNote f_toldCount f_keptHas f_keptNote f_keptCount (g 16) (g 59) (g 67) (g 70) (g 71) (g 72) = ((g 71), (0 : Int32), (g 71), (0 : Int32), (g 72), f_noteHas_dx, f_toldNote_ex, f_toldCount_ex) → _) ((by rw [fq_back]; (try rw [if_neg c_1]); (try rw [← hX_2]); (try rw [xL_eq]); (try rw [← hq_L1dx]); (try rw [← hq_f_noteHas_dx]); (try rw [← hX_4]); (try rw [xL_eq]); (try rw [← hq_L1ex]); (try rw [← hq_f_toldNote_ex]); (try rw [← hq_f_toldCount_ex]); try rfl))), by rw [ht]; exact hP9, va_K.moved hW.alike hK9, hD9⟩, hS.F ht⟩) hS.2.2 dX12_back_104
      have hloop_6 : ∀ (n : Nat) (L1e : Int32) (f_toldNote_e : Nat → Int32) (f_toldCount_e : Nat → Int32) (h0_e : ¬ L1e < 0) (hf_e : (20 : Int32).toInt ≤ L1e.toInt + (n : Int)) (hI_e : X_4 = fq_back_e f_keptNote f_keptCount n L1e f_toldNote_e f_toldCount_e) (H : Heap) (locs : List Loc) (ls : Array Slot) (hP : va_P (dC, dI) vwCl [(mq, .inr (12, mF (upd (upd (upd g 2 0) 16 (g 71)) 67 (g 72)) gl rf)), (eA0 (rf 40) (ck 40) 264 f_noteHas_dx), (eA0 (rf 68) (ck 68) 20 f_toldNote_e), (eA0 (rf 69) (ck 69) 20 f_toldCount_e), (eA0 (rf 73) (ck 73) 132 f_keptHas), (eA0 (rf 74) (ck 74) 20 f_keptNote), (eA0 (rf 75) (ck 75) 20 f_keptCount)] H) (hD : va_D A [(mq, .inr (12, mF (upd (upd (upd g 2 0) 16 (g 71)) 67 (g 72)) gl rf)), (eA0 (rf 40) (ck 40) 264 f_noteHas_dx), (eA0 (rf 68) (ck 68) 20 f_toldNote_e), (eA0 (rf 69) (ck 69) 20 f_toldCount_e), (eA0 (rf 73) (ck 73) 132 f_keptHas), (eA0 (rf 74) (ck 74) 20 f_keptNote), (eA0 (rf 75) (ck 75) 20 f_keptCount)]) (hS : va_S A s.heap H locs) (hl : lv_has ls 2 [(1, .int L1e), (0, .ref mq)]), W p l e (headSpec (Cond.code yX12_back cX12_back 2 (some .int) :: wsL_law) ({ frames := 0, cells := 0, slots := 0, locals := 0 })).room s m ([.ref mq] : List Value).toArray below meth c H locs 0 0 (MQ below (va_Qi (fun (r : Int32) (u : (Int32) × (Int32) × (Int32) × (Int32) × (Nat → Int32) × (Nat → Int32) × (Nat → Int32)) => r = (fq_back f_noteHas f_toldNote f_toldCount f_keptHas f_keptNote f_keptCount (g 16) (g 59) (g 67) (g 70) (g 71) (g 72)).1 ∧ u = (fq_back f_noteHas f_toldNote f_toldCount f_keptHas f_keptNote f_keptCount (g 16) (g 59) (g 67) (g 70) (g 71) (g 72)).2) (fun (u : (Int32) × (Int32) × (Int32) × (Int32) × (Nat → Int32) × (Nat → Int32) × (Nat → Int32)) t => va_P (dC, dI) vwCl [(mq, .inr (12, mF (upd (upd (upd (upd g 2 u.1) 16 u.2.1) 59 u.2.2.1) 67 u.2.2.2.1) gl rf)), (eA0 (rf 40) (ck 40) 264 u.2.2.2.2.1), (eA0 (rf 68) (ck 68) 20 u.2.2.2.2.2.1), (eA0 (rf 69) (ck 69) 20 u.2.2.2.2.2.2), (eA0 (rf 73) (ck 73) 132 f_keptHas), (eA0 (rf 74) (ck 74) 20 f_keptNote), (eA0 (rf 75) (ck 75) 20 f_keptCount)] t.heap ∧ va_K (dC, dI) vwCl [] t ∧ va_D A [(mq, .inr (12, mF (upd (upd (upd (upd g 2 u.1) 16 u.2.1) 59 u.2.2.1) 67 u.2.2.2.1) gl rf)), (eA0 (rf 40) (ck 40) 264 u.2.2.2.2.1), (eA0 (rf 68) (ck 68) 20 u.2.2.2.2.2.1), (eA0 (rf 69) (ck 69) 20 u.2.2.2.2.2.2), (eA0 (rf 73) (ck 73) 132 f_keptHas), (eA0 (rf 74) (ck 74) 20 f_keptNote), (eA0 (rf 75) (ck 75) 20 f_keptCount)]) A) ([.ref mq] : List Value).toArray s 0 0 A) (F0 m 59 ls []) := by
        intro n
        induction n with
        | zero =>
          intro L1e f_toldNote_e f_toldCount_e h0_e hf_e hI_e H locs ls hP hD hS hl
          refine lv_iload_n hx hb dX12_back_59 rfl (lv_at hl 0 rfl) ?_
          refine lv_bipush (v := 20) hx hb dX12_back_60 (by decide) ?_
          refine lv_icmp_ge (tgt := 95) hx hb dX12_back_62 (by decide) (fun c_7 => ?_) (fun c_7 => absurd c_7 (fun h => h (xi_z hf_e)))
          exact hexit_5 L1e f_toldNote_e f_toldCount_e  (hI_e.trans (by rw [fq_back_e]; try rfl)) _ _ ls hP hD hS (lv_sub hl [0, 1] rfl)
        | succ n ih =>
          intro L1e f_toldNote_e f_toldCount_e h0_e hf_e hI_e H locs ls hP hD hS hl
          refine lv_iload_n hx hb dX12_back_59 rfl (lv_at hl 0 rfl) ?_
          refine lv_bipush (v := 20) hx hb dX12_back_60 (by decide) ?_
          refine lv_icmp_ge (tgt := 95) hx hb dX12_back_62 (by decide) (fun c_8 => ?_) (fun c_8 => ?_)
          · exact hexit_5 L1e f_toldNote_e f_toldCount_e  (hI_e.trans (by rw [fq_back_e]; (try rw [if_pos c_8]); try rfl)) _ _ ls hP hD hS (lv_sub hl [0, 1] rfl)
          · refine lv_aload_n hx hb dX12_back_65 rfl (lv_at hl 1 rfl) ?_
            refine va_get (D := (dC, dI)) (ci := 12) (v := .ref (rf 68)) (C := RX12) (T := TX12) (N := 76) hx hb htw inlX12 hown hK hP 0 rfl rfl 68 (by decide) (htw _ (ck_10 _ (List.mem_of_getElem? (i := 10) rfl))) (fun _ h9 => h9) rfl dX12_back_66 ?_
            refine lv_iload_n hx hb dX12_back_69 rfl (lv_at hl 0 rfl) ?_
            refine lv_aload_n hx hb dX12_back_70 rfl (lv_at hl 1 rfl) ?_
            refine va_get (D := (dC, dI)) (ci := 12) (v := .ref (rf 74)) (C := RX12) (T := TX12) (N := 76) hx hb htw inlX12 hown hK hP 0 rfl rfl 74 (by decide) (htw _ (ck_10 _ (List.mem_of_getElem? (i := 13) rfl))) (fun _ h9 => h9) rfl dX12_back_71 ?_
            refine lv_iload_n hx hb dX12_back_74 rfl (lv_at hl 0 rfl) ?_
            refine va_iald hx hb hK hP 5 4 rfl rfl (xg_inr (N := 20) rfl (gq_back_s0 (y0 := L1e) c_8 h0_e).1 (gq_back_s0 (y0 := L1e) c_8 h0_e).2) dX12_back_75 ?_
            refine va_iast hx hb hK hP hD hS 2 1 rfl rfl (xg_inr (N := 20) rfl (gq_back_s1 (y0 := L1e) c_8 h0_e).1 (gq_back_s1 (y0 := L1e) c_8 h0_e).2) dX12_back_76 (fun H locs hP hD hS => ?_)
            have hP : va_P (dC, dI) vwCl [(mq, .inr (12, mF (upd (upd (upd g 2 0) 16 (g 71)) 67 (g 72)) gl rf)), (eA0 (rf 40) (ck 40) 264 f_noteHas_dx), (eA0 (rf 68) (ck 68) 20 (upd f_toldNote_e L1e.toNatClampNeg (f_keptNote L1e.toNatClampNeg))), (eA0 (rf 69) (ck 69) 20 f_toldCount_e), (eA0 (rf 73) (ck 73) 132 f_keptHas), (eA0 (rf 74) (ck 74) 20 f_keptNote), (eA0 (rf 75) (ck 75) 20 f_keptCount)] H := hP
            have hD : va_D A [(mq, .inr (12, mF (upd (upd (upd g 2 0) 16 (g 71)) 67 (g 72)) gl rf)), (eA0 (rf 40) (ck 40) 264 f_noteHas_dx), (eA0 (rf 68) (ck 68) 20 (upd f_toldNote_e L1e.toNatClampNeg (f_keptNote L1e.toNatClampNeg))), (eA0 (rf 69) (ck 69) 20 f_toldCount_e), (eA0 (rf 73) (ck 73) 132 f_keptHas), (eA0 (rf 74) (ck 74) 20 f_keptNote), (eA0 (rf 75) (ck 75) 20 f_keptCount)] := hD
            refine lv_aload_n hx hb dX12_back_77 rfl (lv_at hl 1 rfl) ?_
            refine va_get (D := (dC, dI)) (ci := 12) (v := .ref (rf 69)) (C := RX12) (T := TX12) (N := 76) hx hb htw inlX12 hown hK hP 0 rfl rfl 69 (by decide) (htw _ (ck_10 _ (List.mem_of_getElem? (i := 11) rfl))) (fun _ h9 => h9) rfl dX12_back_78 ?_
            refine lv_iload_n hx hb dX12_back_81 rfl (lv_at hl 0 rfl) ?_
            refine lv_aload_n hx hb dX12_back_82 rfl (lv_at hl 1 rfl) ?_
            refine va_get (D := (dC, dI)) (ci := 12) (v := .ref (rf 75)) (C := RX12) (T := TX12) (N := 76) hx hb htw inlX12 hown hK hP 0 rfl rfl 75 (by decide) (htw _ (ck_10 _ (List.mem_of_getElem? (i := 14) rfl))) (fun _ h9 => h9) rfl dX12_back_83 ?_
            refine lv_iload_n hx hb dX12_back_86 rfl (lv_at hl 0 rfl) ?_
            refine va_iald hx hb hK hP 6 5 rfl rfl (xg_inr (N := 20) rfl (gq_back_s2 (y0 := L1e) c_8 h0_e).1 (gq_back_s2 (y0 := L1e) c_8 h0_e).2) dX12_back_87 ?_
            refine va_iast hx hb hK hP hD hS 3 2 rfl rfl (xg_inr (N := 20) rfl (gq_back_s3 (y0 := L1e) c_8 h0_e).1 (gq_back_s3 (y0 := L1e) c_8 h0_e).2) dX12_back_88 (fun H locs hP hD hS => ?_)
            have hP : va_P (dC, dI) vwCl [(mq, .inr (12, mF (upd (upd (upd g 2 0) 16 (g 71)) 67 (g 72)) gl rf)), (eA0 (rf 40) (ck 40) 264 f_noteHas_dx), (eA0 (rf 68) (ck 68) 20 (upd f_toldNote_e L1e.toNatClampNeg (f_keptNote L1e.toNatClampNeg))), (eA0 (rf 69) (ck 69) 20 (upd f_toldCount_e L1e.toNatClampNeg (f_keptCount L1e.toNatClampNeg))), (eA0 (rf 73) (ck 73) 132 f_keptHas), (eA0 (rf 74) (ck 74) 20 f_keptNote), (eA0 (rf 75) (ck 75) 20 f_keptCount)] H := hP
            have hD : va_D A [(mq, .inr (12, mF (upd (upd (upd g 2 0) 16 (g 71)) 67 (g 72)) gl rf)), (eA0 (rf 40) (ck 40) 264 f_noteHas_dx), (eA0 (rf 68) (ck 68) 20 (upd f_toldNote_e L1e.toNatClampNeg (f_keptNote L1e.toNatClampNeg))), (eA0 (rf 69) (ck 69) 20 (upd f_toldCount_e L1e.toNatClampNeg (f_keptCount L1e.toNatClampNeg))), (eA0 (rf 73) (ck 73) 132 f_keptHas), (eA0 (rf 74) (ck 74) 20 f_keptNote), (eA0 (rf 75) (ck 75) 20 f_keptCount)] := hD
            refine lv_iinc (v := (L1e + 1)) (lv' := [(1, .int (L1e + 1)), (0, .ref mq)]) hx hb dX12_back_89 hl (k := 0) rfl (rfl) (by decide) rfl (fun ls hl => ?_)
            refine lv_goto (tgt := 59) hx hb dX12_back_92 (by decide) ?_
            exact ih (L1e + 1) (upd f_toldNote_e L1e.toNatClampNeg (f_keptNote L1e.toNatClampNeg)) (upd f_toldCount_e L1e.toNatClampNeg (f_keptCount L1e.toNatClampNeg)) (gq_back_s4 (y0 := L1e) c_8 h0_e) (by rw [xi_s' c_8]; omega) (hI_e.trans (by rw [fq_back_e]; (try rw [if_neg c_8]); try rfl)) H locs ls hP hD hS (lv_sub hl [0, 1] rfl)
      exact hloop_6 20 (0 : Int32) f_toldNote f_toldCount (gq_back_s5 ) (by decide) (hX_4) _ _ ls hP hD hS (lv_sub hl [0, 1] rfl)
    have hloop_11 : ∀ (n : Nat) (L1d : Int32) (f_noteHas_d : Nat → Int32) (h0_d : ¬ L1d < 0) (hf_d : (132 : Int32).toInt ≤ L1d.toInt + (n : Int)) (hI_d : X_2 = fq_back_d f_keptHas n L1d f_noteHas_d) (H : Heap) (locs : List Loc) (ls : Array Slot) (hP : va_P (dC, dI) vwCl [(mq, .inr (12, mF (upd (upd (upd g 2 0) 16 (g 71)) 67 (g 72)) gl rf)), (eA0 (rf 40) (ck 40) 264 f_noteHas_d), (eA0 (rf 68) (ck 68) 20 f_toldNote), (eA0 (rf 69) (ck 69) 20 f_toldCount), (eA0 (rf 73) (ck 73) 132 f_keptHas), (eA0 (rf 74) (ck 74) 20 f_keptNote), (eA0 (rf 75) (ck 75) 20 f_keptCount)] H) (hD : va_D A [(mq, .inr (12, mF (upd (upd (upd g 2 0) 16 (g 71)) 67 (g 72)) gl rf)), (eA0 (rf 40) (ck 40) 264 f_noteHas_d), (eA0 (rf 68) (ck 68) 20 f_toldNote), (eA0 (rf 69) (ck 69) 20 f_toldCount), (eA0 (rf 73) (ck 73) 132 f_keptHas), (eA0 (rf 74) (ck 74) 20 f_keptNote), (eA0 (rf 75) (ck 75) 20 f_keptCount)]) (hS : va_S A s.heap H locs) (hl : lv_has ls 2 [(1, .int L1d), (0, .ref mq)]), W p l e (headSpec (Cond.code yX12_back cX12_back 2 (some .int) :: wsL_law) ({ frames := 0, cells := 0, slots := 0, locals := 0 })).room s m ([.ref mq] : List Value).toArray below meth c H locs 0 0 (MQ below (va_Qi (fun (r : Int32) (u : (Int32) × (Int32) × (Int32) × (Int32) × (Nat → Int32) × (Nat → Int32) × (Nat → Int32)) => r = (fq_back f_noteHas f_toldNote f_toldCount f_keptHas f_keptNote f_keptCount (g 16) (g 59) (g 67) (g 70) (g 71) (g 72)).1 ∧ u = (fq_back f_noteHas f_toldNote f_toldCount f_keptHas f_keptNote f_keptCount (g 16) (g 59) (g 67) (g 70) (g 71) (g 72)).2) (fun (u : (Int32) × (Int32) × (Int32) × (Int32) × (Nat → Int32) × (Nat → Int32) × (Nat → Int32)) t => va_P (dC, dI) vwCl [(mq, .inr (12, mF (upd (upd (upd (upd g 2 u.1) 16 u.2.1) 59 u.2.2.1) 67 u.2.2.2.1) gl rf)), (eA0 (rf 40) (ck 40) 264 u.2.2.2.2.1), (eA0 (rf 68) (ck 68) 20 u.2.2.2.2.2.1), (eA0 (rf 69) (ck 69) 20 u.2.2.2.2.2.2), (eA0 (rf 73) (ck 73) 132 f_keptHas), (eA0 (rf 74) (ck 74) 20 f_keptNote), (eA0 (rf 75) (ck 75) 20 f_keptCount)] t.heap ∧ va_K (dC, dI) vwCl [] t ∧ va_D A [(mq, .inr (12, mF (upd (upd (upd (upd g 2 u.1) 16 u.2.1) 59 u.2.2.1) 67 u.2.2.2.1) gl rf)), (eA0 (rf 40) (ck 40) 264 u.2.2.2.2.1), (eA0 (rf 68) (ck 68) 20 u.2.2.2.2.2.1), (eA0 (rf 69) (ck 69) 20 u.2.2.2.2.2.2), (eA0 (rf 73) (ck 73) 132 f_keptHas), (eA0 (rf 74) (ck 74) 20 f_keptNote), (eA0 (rf 75) (ck 75) 20 f_keptCount)]) A) ([.ref mq] : List Value).toArray s 0 0 A) (F0 m 32 ls []) := by
      intro n
      induction n with
      | zero =>
        intro L1d f_noteHas_d h0_d hf_d hI_d H locs ls hP hD hS hl
        refine lv_iload_n hx hb dX12_back_32 rfl (lv_at hl 0 rfl) ?_
        refine lv_sipush (v := 132) hx hb dX12_back_33 (by decide) ?_
        refine lv_icmp_ge (tgt := 57) hx hb dX12_back_36 (by decide) (fun c_12 => ?_) (fun c_12 => absurd c_12 (fun h => h (xi_z hf_d)))
        exact hexit_3 L1d f_noteHas_d  (hI_d.trans (by rw [fq_back_d]; try rfl)) _ _ ls hP hD hS (lv_sub hl [0, 1] rfl)
      | succ n ih =>
        intro L1d f_noteHas_d h0_d hf_d hI_d H locs ls hP hD hS hl
        refine lv_iload_n hx hb dX12_back_32 rfl (lv_at hl 0 rfl) ?_
        refine lv_sipush (v := 132) hx hb dX12_back_33 (by decide) ?_
        refine lv_icmp_ge (tgt := 57) hx hb dX12_back_36 (by decide) (fun c_13 => ?_) (fun c_13 => ?_)
        · exact hexit_3 L1d f_noteHas_d  (hI_d.trans (by rw [fq_back_d]; (try rw [if_pos c_13]); try rfl)) _ _ ls hP hD hS (lv_sub hl [0, 1] rfl)
        · refine lv_aload_n hx hb dX12_back_39 rfl (lv_at hl 1 rfl) ?_
          refine va_get (D := (dC, dI)) (ci := 12) (v := .ref (rf 40)) (C := RX12) (T := TX12) (N := 76) hx hb htw inlX12 hown hK hP 0 rfl rfl 40 (by decide) (htw _ (ck_9 _ (List.mem_of_getElem? (i := 20) rfl))) (fun _ h9 => h9) rfl dX12_back_40 ?_
          refine lv_iload_n hx hb dX12_back_43 rfl (lv_at hl 0 rfl) ?_
          refine lv_aload_n hx hb dX12_back_44 rfl (lv_at hl 1 rfl) ?_
          refine va_get (D := (dC, dI)) (ci := 12) (v := .ref (rf 73)) (C := RX12) (T := TX12) (N := 76) hx hb htw inlX12 hown hK hP 0 rfl rfl 73 (by decide) (htw _ (ck_10 _ (List.mem_of_getElem? (i := 12) rfl))) (fun _ h9 => h9) rfl dX12_back_45 ?_
          refine lv_iload_n hx hb dX12_back_48 rfl (lv_at hl 0 rfl) ?_
          refine va_iald hx hb hK hP 4 3 rfl rfl (xg_inr (N := 132) rfl (gq_back_s6 (y0 := L1d) c_13 h0_d).1 (gq_back_s6 (y0 := L1d) c_13 h0_d).2) dX12_back_49 ?_
          refine va_iast hx hb hK hP hD hS 1 0 rfl rfl (xg_inr (N := 264) rfl (gq_back_s7 (y0 := L1d) c_13 h0_d).1 (gq_back_s7 (y0 := L1d) c_13 h0_d).2) dX12_back_50 (fun H locs hP hD hS => ?_)
          have hP : va_P (dC, dI) vwCl [(mq, .inr (12, mF (upd (upd (upd g 2 0) 16 (g 71)) 67 (g 72)) gl rf)), (eA0 (rf 40) (ck 40) 264 (upd f_noteHas_d L1d.toNatClampNeg (f_keptHas L1d.toNatClampNeg))), (eA0 (rf 68) (ck 68) 20 f_toldNote), (eA0 (rf 69) (ck 69) 20 f_toldCount), (eA0 (rf 73) (ck 73) 132 f_keptHas), (eA0 (rf 74) (ck 74) 20 f_keptNote), (eA0 (rf 75) (ck 75) 20 f_keptCount)] H := hP
          have hD : va_D A [(mq, .inr (12, mF (upd (upd (upd g 2 0) 16 (g 71)) 67 (g 72)) gl rf)), (eA0 (rf 40) (ck 40) 264 (upd f_noteHas_d L1d.toNatClampNeg (f_keptHas L1d.toNatClampNeg))), (eA0 (rf 68) (ck 68) 20 f_toldNote), (eA0 (rf 69) (ck 69) 20 f_toldCount), (eA0 (rf 73) (ck 73) 132 f_keptHas), (eA0 (rf 74) (ck 74) 20 f_keptNote), (eA0 (rf 75) (ck 75) 20 f_keptCount)] := hD
          refine lv_iinc (v := (L1d + 1)) (lv' := [(1, .int (L1d + 1)), (0, .ref mq)]) hx hb dX12_back_51 hl (k := 0) rfl (rfl) (by decide) rfl (fun ls hl => ?_)
          refine lv_goto (tgt := 32) hx hb dX12_back_54 (by decide) ?_
          exact ih (L1d + 1) (upd f_noteHas_d L1d.toNatClampNeg (f_keptHas L1d.toNatClampNeg)) (gq_back_s8 (y0 := L1d) c_13 h0_d) (by rw [xi_s' c_13]; omega) (hI_d.trans (by rw [fq_back_d]; (try rw [if_neg c_13]); try rfl)) H locs ls hP hD hS (lv_sub hl [0, 1] rfl)
    exact hloop_11 132 (0 : Int32) f_noteHas (gq_back_s9 ) (by decide) (hX_2) _ _ ls hP hD hS (lv_sub hl [0, 1] rfl)
  · refine lv_iconst (v := (-1)) hx hb dX12_back_12 (by decide) ?_
    refine W.widen (k := 0) (n := 0) (by omega) (by omega) ?_
    obtain ⟨hP9, hD9⟩ := zsub2 (ws' := [(mq, .inr (12, mF (upd g 2 0) gl rf)), (eA0 (rf 40) (ck 40) 264 f_noteHas), (eA0 (rf 68) (ck 68) 20 f_toldNote), (eA0 (rf 69) (ck 69) 20 f_toldCount), (eA0 (rf 73) (ck 73) 132 f_keptHas), (eA0 (rf 74) (ck 74) 20 f_keptNote), (eA0 (rf 75) (ck 75) 20 f_keptCount)]) hP hD [0, 1, 2, 3, 4, 5, 6] (by decide) rfl
    have hK9 := hK.sub (tys' := []) [] rfl
    exact W.iret (v := (-1)) hx hb hr (fun t ht hW => ⟨⟨(-1), (0, (g 16), (g 59), (g 67), f_noteHas, f_toldNote, f_toldCount), rfl, ((fun e9 => ⟨by rw [e9], by rw [e9]⟩ : fq_back f_noteHas f_toldNote f_toldCount f_keptHas f_keptNote f_keptCount (g 16) (g 59) (g 67) (g 70) (g 71) (g 72) = ((-1 : Int32), (0 : Int32), (g 16), (g 59), (g 67), f_noteHas, f_toldNote, f_toldCount) → _) ((by rw [fq_back]; (try rw [if_pos c_1]); try rfl))), by rw [ht]; exact hP9, va_K.moved hW.alike hK9, hD9⟩, hS.F ht⟩) hS.2.2 dX12_back_13
