def fq_feed_j (a0 : Int32) (a1 : Int32) (a2 : Int32) (a3 : Int32) (a4 : Int32) (L6d : Int32) : (Int32) := (if 4 ≤ L6d then (if 8 ≤ L6d then (if 12 ≤ L6d then (if 16 ≤ L6d then a4 else a3) else a2) else a1) else a0)
def fq_feed_d (a0 : Int32) (a1 : Int32) (a2 : Int32) (a3 : Int32) (a4 : Int32) (m_tapeSize : Int32) : Nat → (Int32) → (Nat → Int32) → (Int32) × (Nat → Int32)
  | 0, L6d, f_tape_d => (L6d, f_tape_d)
  | n + 1, L6d, f_tape_d => (if 20 ≤ L6d then (L6d, f_tape_d) else (xL (fq_feed_j a0 a1 a2 a3 a4 L6d) (fun X_7 => fq_feed_d a0 a1 a2 a3 a4 m_tapeSize n (L6d + 1) (upd f_tape_d ((m_tapeSize + L6d).toNatClampNeg) ((X_7 >>> ((24 - (8 * (L6d - L6d / 4 * 4))) &&& 31)) &&& 255)))))
def fq_feed (f_tape : Nat → Int32) (a0 : Int32) (a1 : Int32) (a2 : Int32) (a3 : Int32) (a4 : Int32) (m_tapeSize : Int32) : Int32 × (Int32) × (Int32) × (Nat → Int32) := (if (m_tapeSize + 20) ≤ 900 then (xL (fq_feed_d a0 a1 a2 a3 a4 m_tapeSize 20 (0 : Int32) f_tape) (fun X_2 => ((m_tapeSize + 20), (0 : Int32), (m_tapeSize + 20), X_2.2))) else ((-1 : Int32), (0 : Int32), m_tapeSize, f_tape))
theorem gq_feed_s0 {y0 : Int32} {y1 : Int32} (h0 : (y0 + 20) ≤ 900) (h1 : ¬ (20 ≤ y1)) (h2 : ¬ (y1 < 0)) (h3 : ¬ (y0 < 0)) (h4 : y0 ≤ 900) : ¬ ((y0 + y1) < 0) ∧ ¬ (900 ≤ (y0 + y1)) := by lia
theorem gq_feed_s1 {y0 : Int32} (h0 : ¬ (20 ≤ y0)) (h1 : ¬ (y0 < 0)) : ¬ ((y0 + 1) < 0) := by lia
theorem gq_feed_s2  : ¬ ((0 : Int32) < 0) := (by decide)
theorem dX12_feed_0 : decode cX12_feed 0 = .ok (.aload_n 0, 1) := zk_42 (by decide +kernel)
theorem dX12_feed_1 : decode cX12_feed 1 = .ok (.iconst 0, 1) := zk_3 (by decide +kernel)
theorem dX12_feed_2 : decode cX12_feed 2 = .ok (.putfield 119, 3) := zk_181 (by decide +kernel)
theorem dX12_feed_5 : decode cX12_feed 5 = .ok (.aload_n 0, 1) := zk_42 (by decide +kernel)
theorem dX12_feed_6 : decode cX12_feed 6 = .ok (.getfield 122, 3) := zk_180 (by decide +kernel)
theorem dX12_feed_9 : decode cX12_feed 9 = .ok (.bipush 20, 2) := zk_16 (by decide +kernel)
theorem dX12_feed_11 : decode cX12_feed 11 = .ok (.iadd, 1) := zk_96 (by decide +kernel)
theorem dX12_feed_12 : decode cX12_feed 12 = .ok (.sipush 900, 3) := zk_17 (by decide +kernel)
theorem dX12_feed_15 : decode cX12_feed 15 = .ok (.if_icmp .le 5, 3) := zk_164 (by decide +kernel)
theorem dX12_feed_20 : decode cX12_feed 20 = .ok (.iconst 0, 1) := zk_3 (by decide +kernel)
theorem dX12_feed_21 : decode cX12_feed 21 = .ok (.istore 6, 2) := zk_54 (by decide +kernel)
theorem dX12_feed_113 : decode cX12_feed 113 = .ok (.aload_n 0, 1) := zk_42 (by decide +kernel)
theorem dX12_feed_114 : decode cX12_feed 114 = .ok (.dup, 1) := zk_89 (by decide +kernel)
theorem dX12_feed_115 : decode cX12_feed 115 = .ok (.getfield 122, 3) := zk_180 (by decide +kernel)
theorem dX12_feed_118 : decode cX12_feed 118 = .ok (.bipush 20, 2) := zk_16 (by decide +kernel)
theorem dX12_feed_120 : decode cX12_feed 120 = .ok (.iadd, 1) := zk_96 (by decide +kernel)
theorem dX12_feed_121 : decode cX12_feed 121 = .ok (.putfield 122, 3) := zk_181 (by decide +kernel)
theorem dX12_feed_124 : decode cX12_feed 124 = .ok (.aload_n 0, 1) := zk_42 (by decide +kernel)
theorem dX12_feed_125 : decode cX12_feed 125 = .ok (.getfield 122, 3) := zk_180 (by decide +kernel)
theorem dX12_feed_128 : decode cX12_feed 128 = .ok (.ireturn, 1) := zk_172 (by decide +kernel)
theorem dX12_feed_23 : decode cX12_feed 23 = .ok (.iload 6, 2) := zk_21 (by decide +kernel)
theorem dX12_feed_25 : decode cX12_feed 25 = .ok (.bipush 20, 2) := zk_16 (by decide +kernel)
theorem dX12_feed_27 : decode cX12_feed 27 = .ok (.if_icmp .ge 86, 3) := zk_162 (by decide +kernel)
theorem dX12_feed_30 : decode cX12_feed 30 = .ok (.iload 6, 2) := zk_21 (by decide +kernel)
theorem dX12_feed_32 : decode cX12_feed 32 = .ok (.iconst 4, 1) := zk_7 (by decide +kernel)
theorem dX12_feed_76 : decode cX12_feed 76 = .ok (.istore 7, 2) := zk_54 (by decide +kernel)
theorem dX12_feed_78 : decode cX12_feed 78 = .ok (.aload_n 0, 1) := zk_42 (by decide +kernel)
theorem dX12_feed_79 : decode cX12_feed 79 = .ok (.getfield 7, 3) := zk_180 (by decide +kernel)
theorem dX12_feed_82 : decode cX12_feed 82 = .ok (.aload_n 0, 1) := zk_42 (by decide +kernel)
theorem dX12_feed_83 : decode cX12_feed 83 = .ok (.getfield 122, 3) := zk_180 (by decide +kernel)
theorem dX12_feed_86 : decode cX12_feed 86 = .ok (.iload 6, 2) := zk_21 (by decide +kernel)
theorem dX12_feed_88 : decode cX12_feed 88 = .ok (.iadd, 1) := zk_96 (by decide +kernel)
theorem dX12_feed_89 : decode cX12_feed 89 = .ok (.iload 7, 2) := zk_21 (by decide +kernel)
theorem dX12_feed_91 : decode cX12_feed 91 = .ok (.bipush 24, 2) := zk_16 (by decide +kernel)
theorem dX12_feed_93 : decode cX12_feed 93 = .ok (.bipush 8, 2) := zk_16 (by decide +kernel)
theorem dX12_feed_95 : decode cX12_feed 95 = .ok (.iload 6, 2) := zk_21 (by decide +kernel)
theorem dX12_feed_97 : decode cX12_feed 97 = .ok (.iconst 4, 1) := zk_7 (by decide +kernel)
theorem dX12_feed_98 : decode cX12_feed 98 = .ok (.irem, 1) := zk_112 (by decide +kernel)
theorem dX12_feed_99 : decode cX12_feed 99 = .ok (.imul, 1) := zk_104 (by decide +kernel)
theorem dX12_feed_100 : decode cX12_feed 100 = .ok (.isub, 1) := zk_100 (by decide +kernel)
theorem dX12_feed_101 : decode cX12_feed 101 = .ok (.ishr, 1) := zk_122 (by decide +kernel)
theorem dX12_feed_102 : decode cX12_feed 102 = .ok (.sipush 255, 3) := zk_17 (by decide +kernel)
theorem dX12_feed_105 : decode cX12_feed 105 = .ok (.iand, 1) := zk_126 (by decide +kernel)
theorem dX12_feed_106 : decode cX12_feed 106 = .ok (.iastore, 1) := zk_79 (by decide +kernel)
theorem dX12_feed_107 : decode cX12_feed 107 = .ok (.iinc 6 1, 3) := zk_132 (by decide +kernel)
theorem dX12_feed_110 : decode cX12_feed 110 = .ok (.goto (-87), 3) := zk_167 (by decide +kernel)
theorem dX12_feed_33 : decode cX12_feed 33 = .ok (.if_icmp .ge 7, 3) := zk_162 (by decide +kernel)
theorem dX12_feed_40 : decode cX12_feed 40 = .ok (.iload 6, 2) := zk_21 (by decide +kernel)
theorem dX12_feed_42 : decode cX12_feed 42 = .ok (.bipush 8, 2) := zk_16 (by decide +kernel)
theorem dX12_feed_44 : decode cX12_feed 44 = .ok (.if_icmp .ge 7, 3) := zk_162 (by decide +kernel)
theorem dX12_feed_51 : decode cX12_feed 51 = .ok (.iload 6, 2) := zk_21 (by decide +kernel)
theorem dX12_feed_53 : decode cX12_feed 53 = .ok (.bipush 12, 2) := zk_16 (by decide +kernel)
theorem dX12_feed_55 : decode cX12_feed 55 = .ok (.if_icmp .ge 7, 3) := zk_162 (by decide +kernel)
theorem dX12_feed_62 : decode cX12_feed 62 = .ok (.iload 6, 2) := zk_21 (by decide +kernel)
theorem dX12_feed_64 : decode cX12_feed 64 = .ok (.bipush 16, 2) := zk_16 (by decide +kernel)
theorem dX12_feed_66 : decode cX12_feed 66 = .ok (.if_icmp .ge 8, 3) := zk_162 (by decide +kernel)
theorem dX12_feed_74 : decode cX12_feed 74 = .ok (.iload 5, 2) := zk_21 (by decide +kernel)
theorem dX12_feed_69 : decode cX12_feed 69 = .ok (.iload 4, 2) := zk_21 (by decide +kernel)
theorem dX12_feed_71 : decode cX12_feed 71 = .ok (.goto 5, 3) := zk_167 (by decide +kernel)
theorem dX12_feed_58 : decode cX12_feed 58 = .ok (.iload_n 3, 1) := zk_29 (by decide +kernel)
theorem dX12_feed_59 : decode cX12_feed 59 = .ok (.goto 17, 3) := zk_167 (by decide +kernel)
theorem dX12_feed_47 : decode cX12_feed 47 = .ok (.iload_n 2, 1) := zk_28 (by decide +kernel)
theorem dX12_feed_48 : decode cX12_feed 48 = .ok (.goto 28, 3) := zk_167 (by decide +kernel)
theorem dX12_feed_36 : decode cX12_feed 36 = .ok (.iload_n 1, 1) := zk_27 (by decide +kernel)
theorem dX12_feed_37 : decode cX12_feed 37 = .ok (.goto 39, 3) := zk_167 (by decide +kernel)
theorem dX12_feed_18 : decode cX12_feed 18 = .ok (.iconst (-1), 1) := zk_2 (by decide +kernel)
theorem dX12_feed_19 : decode cX12_feed 19 = .ok (.ireturn, 1) := zk_172 (by decide +kernel)
set_option maxHeartbeats 4000000 in
set_option maxRecDepth 100000 in
theorem gq_feed (l : Launch) (dC : Nat → ClassId) (dI : Nat → Nat → Nat) (mq : Nat) (g : Nat → Int32) (gl : Nat → Int64) (rf : Nat → Nat) (ck : Nat → ClassId) (f_tape : Nat → Int32) (a0 : Int32) (a1 : Int32) (a2 : Int32) (a3 : Int32) (a4 : Int32) (sz : Nat) (hts0 : ¬ (g 1) < 0) (hts9 : (g 1) ≤ 900) : Met l yX12_feed (Cond.code yX12_feed cX12_feed 8 (some .int) :: wsL_law) ({ frames := 0, cells := 0, slots := 0, locals := 0 }) (va_Pc [.ref mq, .int a0, .int a1, .int a2, .int a3, .int a4] (fun U => U.heap.size = sz ∧ va_P (dC, dI) vwCl [(mq, .inr (12, mF g gl rf)), (eA0 (rf 0) (ck 0) 900 f_tape)] U.heap ∧ va_K (dC, dI) vwCl [((ck 0), .int)] U ∧ va_D (fun _ => True) [(mq, .inr (12, mF g gl rf)), (eA0 (rf 0) (ck 0) 900 f_tape)])) (va_Qi (fun (r : Int32) (u : (Int32) × (Int32) × (Nat → Int32)) => r = (fq_feed f_tape a0 a1 a2 a3 a4 (g 1)).1 ∧ u = (fq_feed f_tape a0 a1 a2 a3 a4 (g 1)).2) (fun (u : (Int32) × (Int32) × (Nat → Int32)) t => va_P (dC, dI) vwCl [(mq, .inr (12, mF (upd (upd g 1 u.2.1) 2 u.1) gl rf)), (eA0 (rf 0) (ck 0) 900 u.2.2)] t.heap ∧ va_K (dC, dI) vwCl [] t ∧ va_D (va_A [(mq, .inr (12, mF g gl rf)), (eA0 (rf 0) (ck 0) 900 f_tape)] sz) [(mq, .inr (12, mF (upd (upd g 1 u.2.1) 2 u.1) gl rf)), (eA0 (rf 0) (ck 0) 900 u.2.2)]) (va_A [(mq, .inr (12, mF g gl rf)), (eA0 (rf 0) (ck 0) 900 f_tape)] sz)) 0 0 (va_A [(mq, .inr (12, mF g gl rf)), (eA0 (rf 0) (ck 0) 900 f_tape)] sz) := by
  refine Met.ofW (cc := cX12_feed) (maxL := 8) (ret := (some .int)) (by decide) rfl ?_
  intro p e s m args below meth c s₁ B hml hv
  obtain ⟨rfl, hsz, hP, hK, hD0⟩ := hv
  have hx := B.exec
  have hb := B.bytes
  have hr := B.returns
  have hts := atoms_spec (ws := Cond.code yX12_feed cX12_feed 8 (some .int) :: wsL_law) B.pre
  have htw : ∀ w ∈ wsL_law, w.before _ s = true := fun w h => hts w (List.mem_cons_of_mem _ h)
  have hown : s.vm.findClass RX12 = some m.cls := findClass_of_methodNamed B.named
  have hlocks := B.notSynchronized
  subst hsz
  have hD := hD0.self (sz := s.heap.size)
  generalize hAe : va_A [(mq, .inr (12, mF g gl rf)), (eA0 (rf 0) (ck 0) 900 f_tape)] s.heap.size = A at hD ⊢
  have hA : ∀ q : Nat, s.heap.size ≤ q → A q := fun q h => by rw [← hAe]; exact Or.inr h
  obtain ⟨H, rH⟩ : ∃ z : Heap, z = s.heap := ⟨_, rfl⟩
  have hS : va_S A s.heap H [] := by rw [rH]; exact va_S.rf
  have hP : va_P (dC, dI) vwCl [(mq, .inr (12, mF g gl rf)), (eA0 (rf 0) (ck 0) 900 f_tape)] H := by rw [rH]; exact hP
  rw [← rH]
  have hl := lv_entry ([.ref mq, .int a0, .int a1, .int a2, .int a3, .int a4]) (n := 8) (Nat.le_of_ble_eq_true rfl)
  rw [lg_entry_eq]
  generalize (lg_sl ([.ref mq, .int a0, .int a1, .int a2, .int a3, .int a4]) ++ List.replicate (8 - (lg_sl ([.ref mq, .int a0, .int a1, .int a2, .int a3, .int a4])).length) Slot.unset).toArray = ls at hl ⊢
  have hl : lv_has ls 8 [(0, .ref mq), (1, .int a0), (2, .int a1), (3, .int a2), (4, .int a3), (5, .int a4)] := hl
  refine lv_aload_n hx hb dX12_feed_0 rfl (lv_at hl 0 rfl) ?_
  refine lv_iconst (v := 0) hx hb dX12_feed_1 (by decide) ?_
  refine va_put (D := (dC, dI)) (ci := 12) (v := .int 0) (ty := tyX12 2) (C := RX12) (T := TX12) (N := 76) hx hb htw inlX12 tyX12 tyX12_ok nmX12 hown hK hP hD hS 0 rfl rfl 2 (by decide) (htw _ (ck_12 _ (List.mem_of_getElem? (i := 16) rfl))) (fun _ h9 => h9) rfl (tyX12_ok 2 (by decide)) rfl rfl (Nat.le_of_ble_eq_true rfl) dX12_feed_2 (fun H locs hP hD hS => ?_)
  obtain ⟨hP, hD⟩ := zre [(mq, .inr (12, mF (upd g 2 0) gl rf)), (eA0 (rf 0) (ck 0) 900 f_tape)] hP hD rfl
  refine lv_aload_n hx hb dX12_feed_5 rfl (lv_at hl 0 rfl) ?_
  refine va_get (D := (dC, dI)) (ci := 12) (v := .int (g 1)) (C := RX12) (T := TX12) (N := 76) hx hb htw inlX12 hown hK hP 0 rfl rfl 1 (by decide) (htw _ (ck_12 _ (List.mem_of_getElem? (i := 17) rfl))) (fun _ h9 => h9) rfl dX12_feed_6 ?_
  refine lv_bipush (v := 20) hx hb dX12_feed_9 (by decide) ?_
  refine lv_iadd hx hb dX12_feed_11 ?_
  refine lv_sipush (v := 900) hx hb dX12_feed_12 (by decide) ?_
  refine lv_icmp_le (tgt := 20) hx hb dX12_feed_15 (by decide) (fun c_1 => ?_) (fun c_1 => ?_)
  · refine lv_iconst (v := 0) hx hb dX12_feed_20 (by decide) ?_
    refine lv_istore (lv' := [(6, .int 0), (0, .ref mq), (1, .int a0), (2, .int a1), (3, .int a2), (4, .int a3), (5, .int a4)]) hx hb dX12_feed_21 hl (by decide) rfl (fun ls hl => ?_)
    obtain ⟨X_2, hX_2⟩ : ∃ X9 : (Int32) × (Nat → Int32), X9 = fq_feed_d a0 a1 a2 a3 a4 (g 1) 20 (0 : Int32) f_tape := ⟨_, rfl⟩
    have hexit_3 : ∀ (L6dx : Int32) (f_tape_dx : Nat → Int32)  (hE9 : X_2 = (L6dx, f_tape_dx)) (H : Heap) (locs : List Loc) (ls : Array Slot) (hP : va_P (dC, dI) vwCl [(mq, .inr (12, mF (upd g 2 0) gl rf)), (eA0 (rf 0) (ck 0) 900 f_tape_dx)] H) (hD : va_D A [(mq, .inr (12, mF (upd g 2 0) gl rf)), (eA0 (rf 0) (ck 0) 900 f_tape_dx)]) (hS : va_S A s.heap H locs) (hl : lv_has ls 8 [(6, .int L6dx), (0, .ref mq), (1, .int a0), (2, .int a1), (3, .int a2), (4, .int a3), (5, .int a4)]), W p l e (headSpec (Cond.code yX12_feed cX12_feed 8 (some .int) :: wsL_law) ({ frames := 0, cells := 0, slots := 0, locals := 0 })).room s m ([.ref mq, .int a0, .int a1, .int a2, .int a3, .int a4] : List Value).toArray below meth c H locs 0 0 (MQ below (va_Qi (fun (r : Int32) (u : (Int32) × (Int32) × (Nat → Int32)) => r = (fq_feed f_tape a0 a1 a2 a3 a4 (g 1)).1 ∧ u = (fq_feed f_tape a0 a1 a2 a3 a4 (g 1)).2) (fun (u : (Int32) × (Int32) × (Nat → Int32)) t => va_P (dC, dI) vwCl [(mq, .inr (12, mF (upd (upd g 1 u.2.1) 2 u.1) gl rf)), (eA0 (rf 0) (ck 0) 900 u.2.2)] t.heap ∧ va_K (dC, dI) vwCl [] t ∧ va_D A [(mq, .inr (12, mF (upd (upd g 1 u.2.1) 2 u.1) gl rf)), (eA0 (rf 0) (ck 0) 900 u.2.2)]) A) ([.ref mq, .int a0, .int a1, .int a2, .int a3, .int a4] : List Value).toArray s 0 0 A) (F0 m 113 ls []) := by
      intro L6dx f_tape_dx  hE9 H locs ls hP hD hS hl
      have hq_L6dx : L6dx = X_2.1 := by rw [hE9]
      have hq_f_tape_dx : f_tape_dx = X_2.2 := by rw [hE9]
      refine lv_aload_n hx hb dX12_feed_113 rfl (lv_at hl 1 rfl) ?_
      refine lv_dup hx hb dX12_feed_114 rfl ?_
      refine va_get (D := (dC, dI)) (ci := 12) (v := .int (g 1)) (C := RX12) (T := TX12) (N := 76) hx hb htw inlX12 hown hK hP 0 rfl rfl 1 (by decide) (htw _ (ck_12 _ (List.mem_of_getElem? (i := 17) rfl))) (fun _ h9 => h9) rfl dX12_feed_115 ?_
      refine lv_bipush (v := 20) hx hb dX12_feed_118 (by decide) ?_
      refine lv_iadd hx hb dX12_feed_120 ?_
      refine va_put (D := (dC, dI)) (ci := 12) (v := .int ((g 1) + 20)) (ty := tyX12 1) (C := RX12) (T := TX12) (N := 76) hx hb htw inlX12 tyX12 tyX12_ok nmX12 hown hK hP hD hS 0 rfl rfl 1 (by decide) (htw _ (ck_12 _ (List.mem_of_getElem? (i := 17) rfl))) (fun _ h9 => h9) rfl (tyX12_ok 1 (by decide)) rfl rfl (Nat.le_of_ble_eq_true rfl) dX12_feed_121 (fun H locs hP hD hS => ?_)
      have hP : va_P (dC, dI) vwCl [(mq, .inr (12, mF (upd (upd g 1 ((g 1) + 20)) 2 0) gl rf)), (eA0 (rf 0) (ck 0) 900 f_tape_dx)] H := hP
      have hD : va_D A [(mq, .inr (12, mF (upd (upd g 1 ((g 1) + 20)) 2 0) gl rf)), (eA0 (rf 0) (ck 0) 900 f_tape_dx)] := hD
      refine lv_aload_n hx hb dX12_feed_124 rfl (lv_at hl 1 rfl) ?_
      refine va_get (D := (dC, dI)) (ci := 12) (v := .int ((g 1) + 20)) (C := RX12) (T := TX12) (N := 76) hx hb htw inlX12 hown hK hP 0 rfl rfl 1 (by decide) (htw _ (ck_12 _ (List.mem_of_getElem? (i := 17) rfl))) (fun _ h9 => h9) rfl dX12_feed_125 ?_
      refine W.widen (k := 0) (n := 0) (by omega) (by omega) ?_
      have hP9 := hP
      have hD9 := hD
      have hK9 := hK.sub (tys' := []) [] rfl
      exact W.iret (v := ((g 1) + 20)) hx hb hr (fun t ht hW => ⟨⟨((g 1) + 20), (0, ((g 1) + 20), f_tape_dx), rfl, ((fun e9 => ⟨by rw [e9], by rw [e9]⟩ : fq_feed f_tape a0 a1 a2 a3 a4 (g 1) = (((g 1) + 20), (0 : Int32), ((g 1) + 20), f_tape_dx) → _) ((by rw [fq_feed]; (try rw [if_pos c_1]); (try rw [← hX_2]); (try rw [xL_eq]); (try rw [← hq_L6dx]); (try rw [← hq_f_tape_dx]); try rfl))), by rw [ht]; exact hP9, va_K.moved hW.alike hK9, hD9⟩, hS.F ht⟩) hS.2.2 dX12_feed_128
    have hloop_4 : ∀ (n : Nat) (L6d : Int32) (f_tape_d : Nat → Int32) (h0_d : ¬ L6d < 0) (hf_d : (20 : Int32).toInt ≤ L6d.toInt + (n : Int)) (hI_d : X_2 = fq_feed_d a0 a1 a2 a3 a4 (g 1) n L6d f_tape_d) (H : Heap) (locs : List Loc) (ls : Array Slot) (hP : va_P (dC, dI) vwCl [(mq, .inr (12, mF (upd g 2 0) gl rf)), (eA0 (rf 0) (ck 0) 900 f_tape_d)] H) (hD : va_D A [(mq, .inr (12, mF (upd g 2 0) gl rf)), (eA0 (rf 0) (ck 0) 900 f_tape_d)]) (hS : va_S A s.heap H locs) (hl : lv_has ls 8 [(6, .int L6d), (0, .ref mq), (1, .int a0), (2, .int a1), (3, .int a2), (4, .int a3), (5, .int a4)]), W p l e (headSpec (Cond.code yX12_feed cX12_feed 8 (some .int) :: wsL_law) ({ frames := 0, cells := 0, slots := 0, locals := 0 })).room s m ([.ref mq, .int a0, .int a1, .int a2, .int a3, .int a4] : List Value).toArray below meth c H locs 0 0 (MQ below (va_Qi (fun (r : Int32) (u : (Int32) × (Int32) × (Nat → Int32)) => r = (fq_feed f_tape a0 a1 a2 a3 a4 (g 1)).1 ∧ u = (fq_feed f_tape a0 a1 a2 a3 a4 (g 1)).2) (fun (u : (Int32) × (Int32) × (Nat → Int32)) t => va_P (dC, dI) vwCl [(mq, .inr (12, mF (upd (upd g 1 u.2.1) 2 u.1) gl rf)), (eA0 (rf 0) (ck 0) 900 u.2.2)] t.heap ∧ va_K (dC, dI) vwCl [] t ∧ va_D A [(mq, .inr (12, mF (upd (upd g 1 u.2.1) 2 u.1) gl rf)), (eA0 (rf 0) (ck 0) 900 u.2.2)]) A) ([.ref mq, .int a0, .int a1, .int a2, .int a3, .int a4] : List Value).toArray s 0 0 A) (F0 m 23 ls []) := by
      intro n
      induction n with
      | zero =>
        intro L6d f_tape_d h0_d hf_d hI_d H locs ls hP hD hS hl
        refine lv_iload hx hb dX12_feed_23 (lv_at hl 0 rfl) ?_
        refine lv_bipush (v := 20) hx hb dX12_feed_25 (by decide) ?_
        refine lv_icmp_ge (tgt := 113) hx hb dX12_feed_27 (by decide) (fun c_5 => ?_) (fun c_5 => absurd c_5 (fun h => h (xi_z hf_d)))
        exact hexit_3 L6d f_tape_d  (hI_d.trans (by rw [fq_feed_d]; try rfl)) _ _ ls hP hD hS (lv_sub hl [0, 1, 2, 3, 4, 5, 6] rfl)
      | succ n ih =>
        intro L6d f_tape_d h0_d hf_d hI_d H locs ls hP hD hS hl
        refine lv_iload hx hb dX12_feed_23 (lv_at hl 0 rfl) ?_
        refine lv_bipush (v := 20) hx hb dX12_feed_25 (by decide) ?_
        refine lv_icmp_ge (tgt := 113) hx hb dX12_feed_27 (by decide) (fun c_6 => ?_) (fun c_6 => ?_)
        · exact hexit_3 L6d f_tape_d  (hI_d.trans (by rw [fq_feed_d]; (try rw [if_pos c_6]); try rfl)) _ _ ls hP hD hS (lv_sub hl [0, 1, 2, 3, 4, 5, 6] rfl)
        · refine lv_iload hx hb dX12_feed_30 (lv_at hl 0 rfl) ?_
          refine lv_iconst (v := 4) hx hb dX12_feed_32 (by decide) ?_
          obtain ⟨X_7, hX_7⟩ : ∃ X9 : (Int32), X9 = fq_feed_j a0 a1 a2 a3 a4 L6d := ⟨_, rfl⟩
          have hjoin_8 : ∀ (S0j : Int32)  (hE9 : X_7 = S0j) (H : Heap) (locs : List Loc) (ls : Array Slot) (hP : va_P (dC, dI) vwCl [(mq, .inr (12, mF (upd g 2 0) gl rf)), (eA0 (rf 0) (ck 0) 900 f_tape_d)] H) (hD : va_D A [(mq, .inr (12, mF (upd g 2 0) gl rf)), (eA0 (rf 0) (ck 0) 900 f_tape_d)]) (hS : va_S A s.heap H locs) (hl : lv_has ls 8 [(6, .int L6d), (0, .ref mq), (1, .int a0), (2, .int a1), (3, .int a2), (4, .int a3), (5, .int a4)]), W p l e (headSpec (Cond.code yX12_feed cX12_feed 8 (some .int) :: wsL_law) ({ frames := 0, cells := 0, slots := 0, locals := 0 })).room s m ([.ref mq, .int a0, .int a1, .int a2, .int a3, .int a4] : List Value).toArray below meth c H locs 0 0 (MQ below (va_Qi (fun (r : Int32) (u : (Int32) × (Int32) × (Nat → Int32)) => r = (fq_feed f_tape a0 a1 a2 a3 a4 (g 1)).1 ∧ u = (fq_feed f_tape a0 a1 a2 a3 a4 (g 1)).2) (fun (u : (Int32) × (Int32) × (Nat → Int32)) t => va_P (dC, dI) vwCl [(mq, .inr (12, mF (upd (upd g 1 u.2.1) 2 u.1) gl rf)), (eA0 (rf 0) (ck 0) 900 u.2.2)] t.heap ∧ va_K (dC, dI) vwCl [] t ∧ va_D A [(mq, .inr (12, mF (upd (upd g 1 u.2.1) 2 u.1) gl rf)), (eA0 (rf 0) (ck 0) 900 u.2.2)]) A) ([.ref mq, .int a0, .int a1, .int a2, .int a3, .int a4] : List Value).toArray s 0 0 A) (F0 m 76 ls [.int S0j]) := by
            intro S0j  hE9 H locs ls hP hD hS hl
            have hq_S0j : S0j = X_7 := by rw [hE9]
            refine lv_istore (lv' := [(7, .int S0j), (6, .int L6d), (0, .ref mq), (1, .int a0), (2, .int a1), (3, .int a2), (4, .int a3), (5, .int a4)]) hx hb dX12_feed_76 hl (by decide) rfl (fun ls hl => ?_)
            refine lv_aload_n hx hb dX12_feed_78 rfl (lv_at hl 2 rfl) ?_
            refine va_get (D := (dC, dI)) (ci := 12) (v := .ref (rf 0)) (C := RX12) (T := TX12) (N := 76) hx hb htw inlX12 hown hK hP 0 rfl rfl 0 (by decide) (htw _ (ck_9 _ (List.mem_of_getElem? (i := 4) rfl))) (fun _ h9 => h9) rfl dX12_feed_79 ?_
            refine lv_aload_n hx hb dX12_feed_82 rfl (lv_at hl 2 rfl) ?_
            refine va_get (D := (dC, dI)) (ci := 12) (v := .int (g 1)) (C := RX12) (T := TX12) (N := 76) hx hb htw inlX12 hown hK hP 0 rfl rfl 1 (by decide) (htw _ (ck_12 _ (List.mem_of_getElem? (i := 17) rfl))) (fun _ h9 => h9) rfl dX12_feed_83 ?_
            refine lv_iload hx hb dX12_feed_86 (lv_at hl 1 rfl) ?_
            refine lv_iadd hx hb dX12_feed_88 ?_
            refine lv_iload hx hb dX12_feed_89 (lv_at hl 0 rfl) ?_
            refine lv_bipush (v := 24) hx hb dX12_feed_91 (by decide) ?_
            refine lv_bipush (v := 8) hx hb dX12_feed_93 (by decide) ?_
            refine lv_iload hx hb dX12_feed_95 (lv_at hl 1 rfl) ?_
            refine lv_iconst (v := 4) hx hb dX12_feed_97 (by decide) ?_
            refine lv_irem hx hb dX12_feed_98 (by decide) ?_
            refine lv_imul hx hb dX12_feed_99 ?_
            refine lv_isub hx hb dX12_feed_100 ?_
            refine lv_ishr hx hb dX12_feed_101 ?_
            refine lv_sipush (v := 255) hx hb dX12_feed_102 (by decide) ?_
            refine lv_iand hx hb dX12_feed_105 ?_
            refine va_iast hx hb hK hP hD hS 1 0 rfl rfl (xg_inr (N := 900) rfl (gq_feed_s0 (y0 := g 1) (y1 := L6d) c_1 c_6 h0_d hts0 hts9).1 (gq_feed_s0 (y0 := g 1) (y1 := L6d) c_1 c_6 h0_d hts0 hts9).2) dX12_feed_106 (fun H locs hP hD hS => ?_)
            obtain ⟨hP, hD⟩ := zre [(mq, .inr (12, mF (upd g 2 0) gl rf)), (eA0 (rf 0) (ck 0) 900 (upd f_tape_d (((g 1) + L6d).toNatClampNeg) ((S0j >>> ((24 - (8 * (L6d - L6d / 4 * 4))) &&& 31)) &&& 255)))] hP hD rfl
            refine lv_iinc (v := (L6d + 1)) (lv' := [(6, .int (L6d + 1)), (7, .int S0j), (0, .ref mq), (1, .int a0), (2, .int a1), (3, .int a2), (4, .int a3), (5, .int a4)]) hx hb dX12_feed_107 hl (k := 1) rfl (rfl) (by decide) rfl (fun ls hl => ?_)
            refine lv_goto (tgt := 23) hx hb dX12_feed_110 (by decide) ?_
            exact ih (L6d + 1) (upd f_tape_d (((g 1) + L6d).toNatClampNeg) ((S0j >>> ((24 - (8 * (L6d - L6d / 4 * 4))) &&& 31)) &&& 255)) (gq_feed_s1 (y0 := L6d) c_6 h0_d) (by rw [xi_s' c_6]; omega) (hI_d.trans (by rw [fq_feed_d]; (try rw [if_neg c_6]); (try rw [← hX_7]); (try rw [xL_eq]); (try rw [← hq_S0j]); try rfl)) H locs ls hP hD hS (lv_sub hl [0, 2, 3, 4, 5, 6, 7] rfl)
          refine lv_icmp_ge (tgt := 40) hx hb dX12_feed_33 (by decide) (fun c_10 => ?_) (fun c_10 => ?_)
          · refine lv_iload hx hb dX12_feed_40 (lv_at hl 0 rfl) ?_
            refine lv_bipush (v := 8) hx hb dX12_feed_42 (by decide) ?_
            refine lv_icmp_ge (tgt := 51) hx hb dX12_feed_44 (by decide) (fun c_11 => ?_) (fun c_11 => ?_)
            · refine lv_iload hx hb dX12_feed_51 (lv_at hl 0 rfl) ?_
              refine lv_bipush (v := 12) hx hb dX12_feed_53 (by decide) ?_
              refine lv_icmp_ge (tgt := 62) hx hb dX12_feed_55 (by decide) (fun c_12 => ?_) (fun c_12 => ?_)
              · refine lv_iload hx hb dX12_feed_62 (lv_at hl 0 rfl) ?_
                refine lv_bipush (v := 16) hx hb dX12_feed_64 (by decide) ?_
                refine lv_icmp_ge (tgt := 74) hx hb dX12_feed_66 (by decide) (fun c_13 => ?_) (fun c_13 => ?_)
                · refine lv_iload hx hb dX12_feed_74 (lv_at hl 6 rfl) ?_
                  exact hjoin_8 a4  (hX_7.trans (by rw [fq_feed_j]; (try rw [if_pos c_10]); (try rw [if_pos c_11]); (try rw [if_pos c_12]); (try rw [if_pos c_13]); try rfl)) _ _ ls hP hD hS (lv_sub hl [0, 1, 2, 3, 4, 5, 6] rfl)
                · refine lv_iload hx hb dX12_feed_69 (lv_at hl 5 rfl) ?_
                  refine lv_goto (tgt := 76) hx hb dX12_feed_71 (by decide) ?_
                  exact hjoin_8 a3  (hX_7.trans (by rw [fq_feed_j]; (try rw [if_pos c_10]); (try rw [if_pos c_11]); (try rw [if_pos c_12]); (try rw [if_neg c_13]); try rfl)) _ _ ls hP hD hS (lv_sub hl [0, 1, 2, 3, 4, 5, 6] rfl)
              · refine lv_iload_n hx hb dX12_feed_58 rfl (lv_at hl 4 rfl) ?_
                refine lv_goto (tgt := 76) hx hb dX12_feed_59 (by decide) ?_
                exact hjoin_8 a2  (hX_7.trans (by rw [fq_feed_j]; (try rw [if_pos c_10]); (try rw [if_pos c_11]); (try rw [if_neg c_12]); try rfl)) _ _ ls hP hD hS (lv_sub hl [0, 1, 2, 3, 4, 5, 6] rfl)
            · refine lv_iload_n hx hb dX12_feed_47 rfl (lv_at hl 3 rfl) ?_
              refine lv_goto (tgt := 76) hx hb dX12_feed_48 (by decide) ?_
              exact hjoin_8 a1  (hX_7.trans (by rw [fq_feed_j]; (try rw [if_pos c_10]); (try rw [if_neg c_11]); try rfl)) _ _ ls hP hD hS (lv_sub hl [0, 1, 2, 3, 4, 5, 6] rfl)
          · refine lv_iload_n hx hb dX12_feed_36 rfl (lv_at hl 2 rfl) ?_
            refine lv_goto (tgt := 76) hx hb dX12_feed_37 (by decide) ?_
            exact hjoin_8 a0  (hX_7.trans (by rw [fq_feed_j]; (try rw [if_neg c_10]); try rfl)) _ _ ls hP hD hS (lv_sub hl [0, 1, 2, 3, 4, 5, 6] rfl)
    exact hloop_4 20 (0 : Int32) f_tape (gq_feed_s2 ) (by decide) (hX_2) _ _ ls hP hD hS (lv_sub hl [0, 1, 2, 3, 4, 5, 6] rfl)
  · refine lv_iconst (v := (-1)) hx hb dX12_feed_18 (by decide) ?_
    refine W.widen (k := 0) (n := 0) (by omega) (by omega) ?_
    have hP9 := hP
    have hD9 := hD
    have hK9 := hK.sub (tys' := []) [] rfl
    exact W.iret (v := (-1)) hx hb hr (fun t ht hW => ⟨⟨(-1), (0, (g 1), f_tape), rfl, ((fun e9 => ⟨by rw [e9], by rw [e9]⟩ : fq_feed f_tape a0 a1 a2 a3 a4 (g 1) = ((-1 : Int32), (0 : Int32), (g 1), f_tape) → _) ((by rw [fq_feed]; (try rw [if_neg c_1]); try rfl))), by rw [ht]; exact hP9, va_K.moved hW.alike hK9, hD9⟩, hS.F ht⟩) hS.2.2 dX12_feed_19
