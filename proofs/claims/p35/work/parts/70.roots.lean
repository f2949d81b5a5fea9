def fq_layRoots_a (f_noteHas : Nat → Int32) (a0 : Int32) (L2d : Int32) (r_4 : Int32) : (Int32) := (if r_4 = 0 then (0 : Int32) else (xL ((fq_isOf a0 (f_noteHas (((11 * L2d) + 9).toNatClampNeg)))) (fun r_15 => (if r_15 = 0 then (0 : Int32) else (1 : Int32)))))
def fq_layRoots_d (f_noteHas : Nat → Int32) (a0 : Int32) (m_notes : Int32) : Nat → (Int32) → (Nat → Int32) → (Nat → Int32) → (Nat → Int32) × (Nat → Int32)
  | 0, L2d, f_root_d, f_off_d => (f_root_d, f_off_d)
  | n + 1, L2d, f_root_d, f_off_d => (if m_notes ≤ L2d then (f_root_d, f_off_d) else (xL ((fq_isOf (f_noteHas ((11 * L2d).toNatClampNeg)) (7 : Int32))) (fun r_4 => (xL (fq_layRoots_a f_noteHas a0 L2d r_4) (fun X_5 => (if X_5 = 0 then fq_layRoots_d f_noteHas a0 m_notes n (L2d + 1) (upd f_root_d L2d.toNatClampNeg L2d) (upd f_off_d L2d.toNatClampNeg 0) else fq_layRoots_d f_noteHas a0 m_notes n (L2d + 1) (upd f_root_d L2d.toNatClampNeg (f_root_d ((f_noteHas (((11 * L2d) + 9).toNatClampNeg)).toNatClampNeg))) (upd f_off_d L2d.toNatClampNeg ((f_off_d ((f_noteHas (((11 * L2d) + 9).toNatClampNeg)).toNatClampNeg)) + (f_noteHas (((11 * L2d) + 10).toNatClampNeg))))))))))
def fq_layRoots (f_noteHas : Nat → Int32) (f_root : Nat → Int32) (f_off : Nat → Int32) (a0 : Int32) (m_notes : Int32) : (Nat → Int32) × (Nat → Int32) := fq_layRoots_d f_noteHas a0 m_notes 12 (0 : Int32) f_root f_off
theorem gq_layRoots_s0 {y0 : Int32} {y1 : Int32} (h0 : ¬ (y1 ≤ y0)) (h1 : ¬ (y0 < 0)) (h2 : ¬ (y1 < 0)) (h3 : y1 ≤ 12) : ¬ (y0 < 0) ∧ y0 ≤ 11 := by lia
theorem gq_layRoots_s1  : ¬ ((9 : Int32) < 0) ∧ (9 : Int32) ≤ 10 := ⟨(by decide), (by decide)⟩
theorem gq_layRoots_s2 {y0 : Int32} {y1 : Int32} (h0 : ¬ (y1 ≤ y0)) (h1 : ¬ (y0 < 0)) (h2 : ¬ (y1 < 0)) (h3 : y1 ≤ 12) : ¬ (y0 < 0) ∧ y0 ≤ 11 := gq_layRoots_s0 h0 h1 h2 h3
theorem gq_layRoots_s3 {y0 : Int32} {y1 : Int32} (h0 : ¬ (y1 ≤ y0)) (h1 : ¬ (y0 < 0)) (h2 : ¬ (y1 < 0)) (h3 : y1 ≤ 12) : ¬ (y0 < 0) ∧ ¬ (12 ≤ y0) := by lia
theorem gq_layRoots_s4 {y0 : Int32} {y1 : Int32} (h0 : ¬ (y1 ≤ y0)) (h1 : ¬ (y0 < 0)) (h2 : ¬ (y1 < 0)) (h3 : y1 ≤ 12) : ¬ (y0 < 0) ∧ ¬ (12 ≤ y0) := gq_layRoots_s3 h0 h1 h2 h3
theorem gq_layRoots_s5 {y0 : Int32} {y1 : Int32} (h0 : ¬ (y1 ≤ y0)) (h1 : ¬ (y0 < 0)) (h2 : ¬ (y1 < 0)) (h3 : y1 ≤ 12) : ¬ ((y0 + 1) < 0) := gq_layAllCan_s4 h0 h1 h2 h3
theorem gq_layRoots_s6 {y0 : Int32} {y1 : Int32} {y2 : Int32} (h0 : ¬ (y0 < 0)) (h1 : y0 < y1) (h2 : ¬ (y2 ≤ y1)) (h3 : ¬ (y1 < 0)) (h4 : ¬ (y2 < 0)) (h5 : y2 ≤ 12) : ¬ (y0 < 0) ∧ ¬ (12 ≤ y0) := by lia
theorem gq_layRoots_s7 {y0 : Int32} {y1 : Int32} (h0 : ¬ (y1 ≤ y0)) (h1 : ¬ (y0 < 0)) (h2 : ¬ (y1 < 0)) (h3 : y1 ≤ 12) : ¬ (y0 < 0) ∧ ¬ (12 ≤ y0) := gq_layRoots_s3 h0 h1 h2 h3
theorem gq_layRoots_s8 {y0 : Int32} {y1 : Int32} {y2 : Int32} (h0 : ¬ (y0 < 0)) (h1 : y0 < y1) (h2 : ¬ (y2 ≤ y1)) (h3 : ¬ (y1 < 0)) (h4 : ¬ (y2 < 0)) (h5 : y2 ≤ 12) : ¬ (y0 < 0) ∧ ¬ (12 ≤ y0) := gq_layRoots_s6 h0 h1 h2 h3 h4 h5
theorem gq_layRoots_s9 {y0 : Int32} {y1 : Int32} (h0 : ¬ (y1 ≤ y0)) (h1 : ¬ (y0 < 0)) (h2 : ¬ (y1 < 0)) (h3 : y1 ≤ 12) : ¬ (y0 < 0) ∧ y0 ≤ 11 := gq_layRoots_s0 h0 h1 h2 h3
theorem gq_layRoots_s10  : ¬ ((10 : Int32) < 0) ∧ (10 : Int32) ≤ 10 := ⟨(by decide), (by decide)⟩
theorem gq_layRoots_s11 {y0 : Int32} {y1 : Int32} (h0 : ¬ (y1 ≤ y0)) (h1 : ¬ (y0 < 0)) (h2 : ¬ (y1 < 0)) (h3 : y1 ≤ 12) : ¬ (y0 < 0) ∧ ¬ (12 ≤ y0) := gq_layRoots_s3 h0 h1 h2 h3
theorem gq_layRoots_s12 {y0 : Int32} {y1 : Int32} (h0 : ¬ (y1 ≤ y0)) (h1 : ¬ (y0 < 0)) (h2 : ¬ (y1 < 0)) (h3 : y1 ≤ 12) : ¬ ((y0 + 1) < 0) := gq_layAllCan_s4 h0 h1 h2 h3
theorem gq_layRoots_s13  : ¬ ((0 : Int32) < 0) := (by decide)
theorem dX12_layRoots_0 : decode cX12_layRoots 0 = .ok (.iconst 0, 1) := zk_3 (by decide +kernel)
theorem dX12_layRoots_1 : decode cX12_layRoots 1 = .ok (.istore_n 2, 1) := zk_61 (by decide +kernel)
theorem dX12_layRoots_2 : decode cX12_layRoots 2 = .ok (.iload_n 2, 1) := zk_28 (by decide +kernel)
theorem dX12_layRoots_3 : decode cX12_layRoots 3 = .ok (.aload_n 0, 1) := zk_42 (by decide +kernel)
theorem dX12_layRoots_4 : decode cX12_layRoots 4 = .ok (.getfield 229, 3) := zk_180 (by decide +kernel)
theorem dX12_layRoots_7 : decode cX12_layRoots 7 = .ok (.if_icmp .ge 109, 3) := zk_162 (by decide +kernel)
theorem dX12_layRoots_116 : decode cX12_layRoots 116 = .ok (.return_, 1) := zk_177 (by decide +kernel)
theorem dX12_layRoots_10 : decode cX12_layRoots 10 = .ok (.aload_n 0, 1) := zk_42 (by decide +kernel)
theorem dX12_layRoots_11 : decode cX12_layRoots 11 = .ok (.getfield 60, 3) := zk_180 (by decide +kernel)
theorem dX12_layRoots_14 : decode cX12_layRoots 14 = .ok (.bipush 11, 2) := zk_16 (by decide +kernel)
theorem dX12_layRoots_16 : decode cX12_layRoots 16 = .ok (.iload_n 2, 1) := zk_28 (by decide +kernel)
theorem dX12_layRoots_17 : decode cX12_layRoots 17 = .ok (.imul, 1) := zk_104 (by decide +kernel)
theorem dX12_layRoots_18 : decode cX12_layRoots 18 = .ok (.bipush 9, 2) := zk_16 (by decide +kernel)
theorem dX12_layRoots_20 : decode cX12_layRoots 20 = .ok (.iadd, 1) := zk_96 (by decide +kernel)
theorem dX12_layRoots_21 : decode cX12_layRoots 21 = .ok (.iaload, 1) := zk_46 (by decide +kernel)
theorem dX12_layRoots_22 : decode cX12_layRoots 22 = .ok (.istore_n 3, 1) := zk_62 (by decide +kernel)
theorem dX12_layRoots_23 : decode cX12_layRoots 23 = .ok (.aload_n 0, 1) := zk_42 (by decide +kernel)
theorem dX12_layRoots_24 : decode cX12_layRoots 24 = .ok (.getfield 60, 3) := zk_180 (by decide +kernel)
theorem dX12_layRoots_27 : decode cX12_layRoots 27 = .ok (.bipush 11, 2) := zk_16 (by decide +kernel)
theorem dX12_layRoots_29 : decode cX12_layRoots 29 = .ok (.iload_n 2, 1) := zk_28 (by decide +kernel)
theorem dX12_layRoots_30 : decode cX12_layRoots 30 = .ok (.imul, 1) := zk_104 (by decide +kernel)
theorem dX12_layRoots_31 : decode cX12_layRoots 31 = .ok (.iaload, 1) := zk_46 (by decide +kernel)
theorem dX12_layRoots_32 : decode cX12_layRoots 32 = .ok (.bipush 7, 2) := zk_16 (by decide +kernel)
theorem dX12_layRoots_34 : decode cX12_layRoots 34 = .ok (.invokestatic 297, 3) := zk_184 (by decide +kernel)
theorem dX12_layRoots_53 : decode cX12_layRoots 53 = .ok (.istore 4, 2) := zk_54 (by decide +kernel)
theorem dX12_layRoots_55 : decode cX12_layRoots 55 = .ok (.aload_n 0, 1) := zk_42 (by decide +kernel)
theorem dX12_layRoots_56 : decode cX12_layRoots 56 = .ok (.getfield 92, 3) := zk_180 (by decide +kernel)
theorem dX12_layRoots_59 : decode cX12_layRoots 59 = .ok (.iload_n 2, 1) := zk_28 (by decide +kernel)
theorem dX12_layRoots_60 : decode cX12_layRoots 60 = .ok (.iload 4, 2) := zk_21 (by decide +kernel)
theorem dX12_layRoots_62 : decode cX12_layRoots 62 = .ok (.ifCond .eq 12, 3) := zk_153 (by decide +kernel)
theorem dX12_layRoots_74 : decode cX12_layRoots 74 = .ok (.iload_n 2, 1) := zk_28 (by decide +kernel)
theorem dX12_layRoots_75 : decode cX12_layRoots 75 = .ok (.iastore, 1) := zk_79 (by decide +kernel)
theorem dX12_layRoots_76 : decode cX12_layRoots 76 = .ok (.aload_n 0, 1) := zk_42 (by decide +kernel)
theorem dX12_layRoots_77 : decode cX12_layRoots 77 = .ok (.getfield 95, 3) := zk_180 (by decide +kernel)
theorem dX12_layRoots_80 : decode cX12_layRoots 80 = .ok (.iload_n 2, 1) := zk_28 (by decide +kernel)
theorem dX12_layRoots_81 : decode cX12_layRoots 81 = .ok (.iload 4, 2) := zk_21 (by decide +kernel)
theorem dX12_layRoots_83 : decode cX12_layRoots 83 = .ok (.ifCond .eq 25, 3) := zk_153 (by decide +kernel)
theorem dX12_layRoots_108 : decode cX12_layRoots 108 = .ok (.iconst 0, 1) := zk_3 (by decide +kernel)
theorem dX12_layRoots_109 : decode cX12_layRoots 109 = .ok (.iastore, 1) := zk_79 (by decide +kernel)
theorem dX12_layRoots_110 : decode cX12_layRoots 110 = .ok (.iinc 2 1, 3) := zk_132 (by decide +kernel)
theorem dX12_layRoots_113 : decode cX12_layRoots 113 = .ok (.goto (-111), 3) := zk_167 (by decide +kernel)
theorem dX12_layRoots_65 : decode cX12_layRoots 65 = .ok (.aload_n 0, 1) := zk_42 (by decide +kernel)
theorem dX12_layRoots_66 : decode cX12_layRoots 66 = .ok (.getfield 92, 3) := zk_180 (by decide +kernel)
theorem dX12_layRoots_69 : decode cX12_layRoots 69 = .ok (.iload_n 3, 1) := zk_29 (by decide +kernel)
theorem dX12_layRoots_70 : decode cX12_layRoots 70 = .ok (.iaload, 1) := zk_46 (by decide +kernel)
theorem dX12_layRoots_71 : decode cX12_layRoots 71 = .ok (.goto 4, 3) := zk_167 (by decide +kernel)
theorem dX12_layRoots_86 : decode cX12_layRoots 86 = .ok (.aload_n 0, 1) := zk_42 (by decide +kernel)
theorem dX12_layRoots_87 : decode cX12_layRoots 87 = .ok (.getfield 95, 3) := zk_180 (by decide +kernel)
theorem dX12_layRoots_90 : decode cX12_layRoots 90 = .ok (.iload_n 3, 1) := zk_29 (by decide +kernel)
theorem dX12_layRoots_91 : decode cX12_layRoots 91 = .ok (.iaload, 1) := zk_46 (by decide +kernel)
theorem dX12_layRoots_92 : decode cX12_layRoots 92 = .ok (.aload_n 0, 1) := zk_42 (by decide +kernel)
theorem dX12_layRoots_93 : decode cX12_layRoots 93 = .ok (.getfield 60, 3) := zk_180 (by decide +kernel)
theorem dX12_layRoots_96 : decode cX12_layRoots 96 = .ok (.bipush 11, 2) := zk_16 (by decide +kernel)
theorem dX12_layRoots_98 : decode cX12_layRoots 98 = .ok (.iload_n 2, 1) := zk_28 (by decide +kernel)
theorem dX12_layRoots_99 : decode cX12_layRoots 99 = .ok (.imul, 1) := zk_104 (by decide +kernel)
theorem dX12_layRoots_100 : decode cX12_layRoots 100 = .ok (.bipush 10, 2) := zk_16 (by decide +kernel)
theorem dX12_layRoots_102 : decode cX12_layRoots 102 = .ok (.iadd, 1) := zk_96 (by decide +kernel)
theorem dX12_layRoots_103 : decode cX12_layRoots 103 = .ok (.iaload, 1) := zk_46 (by decide +kernel)
theorem dX12_layRoots_104 : decode cX12_layRoots 104 = .ok (.iadd, 1) := zk_96 (by decide +kernel)
theorem dX12_layRoots_105 : decode cX12_layRoots 105 = .ok (.goto 4, 3) := zk_167 (by decide +kernel)
theorem dX12_layRoots_37 : decode cX12_layRoots 37 = .ok (.ifCond .eq 15, 3) := zk_153 (by decide +kernel)
theorem dX12_layRoots_52 : decode cX12_layRoots 52 = .ok (.iconst 0, 1) := zk_3 (by decide +kernel)
theorem dX12_layRoots_40 : decode cX12_layRoots 40 = .ok (.iload_n 1, 1) := zk_27 (by decide +kernel)
theorem dX12_layRoots_41 : decode cX12_layRoots 41 = .ok (.iload_n 3, 1) := zk_29 (by decide +kernel)
theorem dX12_layRoots_42 : decode cX12_layRoots 42 = .ok (.invokestatic 297, 3) := zk_184 (by decide +kernel)
theorem dX12_layRoots_45 : decode cX12_layRoots 45 = .ok (.ifCond .eq 7, 3) := zk_153 (by decide +kernel)
theorem dX12_layRoots_48 : decode cX12_layRoots 48 = .ok (.iconst 1, 1) := zk_4 (by decide +kernel)
theorem dX12_layRoots_49 : decode cX12_layRoots 49 = .ok (.goto 4, 3) := zk_167 (by decide +kernel)
set_option maxHeartbeats 4000000 in
set_option maxRecDepth 100000 in
theorem gq_layRoots (l : Launch) (dC : Nat → ClassId) (dI : Nat → Nat → Nat) (mq : Nat) (g : Nat → Int32) (gl : Nat → Int64) (rf : Nat → Nat) (ck : Nat → ClassId) (f_noteHas : Nat → Int32) (f_root : Nat → Int32) (f_off : Nat → Int32) (a0 : Int32) (sz : Nat) (hnt0 : ¬ (g 16) < 0) (hnt2 : (g 16) ≤ 12) (hNA : ∀ k : Int32, ¬ k < 0 → k < (g 16) → (¬ fq_isOf (f_noteHas ((11 * k).toNatClampNeg)) 5 = 0 → ¬ (f_noteHas (((11 * k) + 7).toNatClampNeg)) < 0 ∧ (f_noteHas (((11 * k) + 7).toNatClampNeg)) < (g 14)) ∧ (¬ fq_isOf (f_noteHas ((11 * k).toNatClampNeg)) 6 = 0 → ¬ (f_noteHas (((11 * k) + 8).toNatClampNeg)) < 0 ∧ (f_noteHas (((11 * k) + 8).toNatClampNeg)) < (g 13)) ∧ (¬ fq_isOf (f_noteHas ((11 * k).toNatClampNeg)) 7 = 0 → ¬ (f_noteHas (((11 * k) + 9).toNatClampNeg)) < 0 ∧ (f_noteHas (((11 * k) + 9).toNatClampNeg)) < k)) : Met l yX12_layRoots (Cond.code yX12_layRoots cX12_layRoots 5 none :: wsL_law) ({ frames := 1, cells := 0, slots := 0, locals := 21 }) (va_Pc [.ref mq, .int a0] (fun U => U.heap.size = sz ∧ va_P (dC, dI) vwCl [(mq, .inr (12, mF g gl rf)), (eA0 (rf 40) (ck 40) 264 f_noteHas), (eA0 (rf 65) (ck 65) 12 f_root), (eA0 (rf 66) (ck 66) 12 f_off)] U.heap ∧ va_K (dC, dI) vwCl [((ck 40), .int), ((ck 65), .int), ((ck 66), .int)] U ∧ va_D (fun _ => True) [(mq, .inr (12, mF g gl rf)), (eA0 (rf 40) (ck 40) 264 f_noteHas), (eA0 (rf 65) (ck 65) 12 f_root), (eA0 (rf 66) (ck 66) 12 f_off)])) (va_Qv (fun (u : (Nat → Int32) × (Nat → Int32)) => u = fq_layRoots f_noteHas f_root f_off a0 (g 16)) (fun (u : (Nat → Int32) × (Nat → Int32)) t => va_P (dC, dI) vwCl [(mq, .inr (12, mF g gl rf)), (eA0 (rf 40) (ck 40) 264 f_noteHas), (eA0 (rf 65) (ck 65) 12 u.1), (eA0 (rf 66) (ck 66) 12 u.2)] t.heap ∧ va_K (dC, dI) vwCl [] t ∧ va_D (va_A [(mq, .inr (12, mF g gl rf)), (eA0 (rf 40) (ck 40) 264 f_noteHas), (eA0 (rf 65) (ck 65) 12 f_root), (eA0 (rf 66) (ck 66) 12 f_off)] sz) [(mq, .inr (12, mF g gl rf)), (eA0 (rf 40) (ck 40) 264 f_noteHas), (eA0 (rf 65) (ck 65) 12 u.1), (eA0 (rf 66) (ck 66) 12 u.2)]) (va_A [(mq, .inr (12, mF g gl rf)), (eA0 (rf 40) (ck 40) 264 f_noteHas), (eA0 (rf 65) (ck 65) 12 f_root), (eA0 (rf 66) (ck 66) 12 f_off)] sz)) 0 0 (va_A [(mq, .inr (12, mF g gl rf)), (eA0 (rf 40) (ck 40) 264 f_noteHas), (eA0 (rf 65) (ck 65) 12 f_root), (eA0 (rf 66) (ck 66) 12 f_off)] sz) := by
  refine Met.ofW (cc := cX12_layRoots) (maxL := 5) (ret := none) (by decide) rfl ?_
  intro p e s m args below meth c s₁ B hml hv
  obtain ⟨rfl, hsz, hP, hK, hD0⟩ := hv
  have hx := B.exec
  have hb := B.bytes
  have hr := B.returns
  have hts := atoms_spec (ws := Cond.code yX12_layRoots cX12_layRoots 5 none :: wsL_law) B.pre
  have htw : ∀ w ∈ wsL_law, w.before _ s = true := fun w h => hts w (List.mem_cons_of_mem _ h)
  have hown : s.vm.findClass RX12 = some m.cls := findClass_of_methodNamed B.named
  have hlocks := B.notSynchronized
  subst hsz
  have hD := hD0.self (sz := s.heap.size)
  generalize hAe : va_A [(mq, .inr (12, mF g gl rf)), (eA0 (rf 40) (ck 40) 264 f_noteHas), (eA0 (rf 65) (ck 65) 12 f_root), (eA0 (rf 66) (ck 66) 12 f_off)] s.heap.size = A at hD ⊢
  have hA : ∀ q : Nat, s.heap.size ≤ q → A q := fun q h => by rw [← hAe]; exact Or.inr h
  obtain ⟨H, rH⟩ : ∃ z : Heap, z = s.heap := ⟨_, rfl⟩
  have hS : va_S A s.heap H [] := by rw [rH]; exact va_S.rf
  have hP : va_P (dC, dI) vwCl [(mq, .inr (12, mF g gl rf)), (eA0 (rf 40) (ck 40) 264 f_noteHas), (eA0 (rf 65) (ck 65) 12 f_root), (eA0 (rf 66) (ck 66) 12 f_off)] H := by rw [rH]; exact hP
  rw [← rH]
  have hl := lv_entry ([.ref mq, .int a0]) (n := 5) (Nat.le_of_ble_eq_true rfl)
  rw [lg_entry_eq]
  generalize (lg_sl ([.ref mq, .int a0]) ++ List.replicate (5 - (lg_sl ([.ref mq, .int a0])).length) Slot.unset).toArray = ls at hl ⊢
  have hl : lv_has ls 5 [(0, .ref mq), (1, .int a0)] := hl
  refine lv_iconst (v := 0) hx hb dX12_layRoots_0 (by decide) ?_
  refine lv_istore_n (lv' := [(2, .int 0), (0, .ref mq), (1, .int a0)]) hx hb dX12_layRoots_1 rfl hl (by decide) rfl (fun ls hl => ?_)
  have hloop_1 : ∀ (n : Nat) (L2d : Int32) (f_root_d : Nat → Int32) (f_off_d : Nat → Int32) (h0_d : ¬ L2d < 0) (hf_d : (g 16).toInt ≤ L2d.toInt + (n : Int)) (hI_d : fq_layRoots f_noteHas f_root f_off a0 (g 16) = fq_layRoots_d f_noteHas a0 (g 16) n L2d f_root_d f_off_d) (H : Heap) (locs : List Loc) (ls : Array Slot) (hP : va_P (dC, dI) vwCl [(mq, .inr (12, mF g gl rf)), (eA0 (rf 40) (ck 40) 264 f_noteHas), (eA0 (rf 65) (ck 65) 12 f_root_d), (eA0 (rf 66) (ck 66) 12 f_off_d)] H) (hD : va_D A [(mq, .inr (12, mF g gl rf)), (eA0 (rf 40) (ck 40) 264 f_noteHas), (eA0 (rf 65) (ck 65) 12 f_root_d), (eA0 (rf 66) (ck 66) 12 f_off_d)]) (hS : va_S A s.heap H locs) (hl : lv_has ls 5 [(2, .int L2d), (0, .ref mq), (1, .int a0)]), W p l e (headSpec (Cond.code yX12_layRoots cX12_layRoots 5 none :: wsL_law) ({ frames := 1, cells := 0, slots := 0, locals := 21 })).room s m ([.ref mq, .int a0] : List Value).toArray below meth c H locs 0 0 (MQ below (va_Qv (fun (u : (Nat → Int32) × (Nat → Int32)) => u = fq_layRoots f_noteHas f_root f_off a0 (g 16)) (fun (u : (Nat → Int32) × (Nat → Int32)) t => va_P (dC, dI) vwCl [(mq, .inr (12, mF g gl rf)), (eA0 (rf 40) (ck 40) 264 f_noteHas), (eA0 (rf 65) (ck 65) 12 u.1), (eA0 (rf 66) (ck 66) 12 u.2)] t.heap ∧ va_K (dC, dI) vwCl [] t ∧ va_D A [(mq, .inr (12, mF g gl rf)), (eA0 (rf 40) (ck 40) 264 f_noteHas), (eA0 (rf 65) (ck 65) 12 u.1), (eA0 (rf 66) (ck 66) 12 u.2)]) A) ([.ref mq, .int a0] : List Value).toArray s 0 0 A) (F0 m 2 ls []) := by
    intro n
    induction n with
    | zero =>
      intro L2d f_root_d f_off_d h0_d hf_d hI_d H locs ls hP hD hS hl
      refine lv_iload_n hx hb dX12_layRoots_2 rfl (lv_at hl 0 rfl) ?_
      refine lv_aload_n hx hb dX12_layRoots_3 rfl (lv_at hl 1 rfl) ?_
      refine va_get (D := (dC, dI)) (ci := 12) (v := .int (g 16)) (C := RX12) (T := TX12) (N := 76) hx hb htw inlX12 hown hK hP 0 rfl rfl 16 (by decide) (htw _ (ck_11 _ (List.mem_of_getElem? (i := 13) rfl))) (fun _ h9 => h9) rfl dX12_layRoots_4 ?_
      refine lv_icmp_ge (tgt := 116) hx hb dX12_layRoots_7 (by decide) (fun c_2 => ?_) (fun c_2 => absurd c_2 (fun h => h (xi_z hf_d)))
      refine W.widen (k := 0) (n := 0) (by omega) (by omega) ?_
      obtain ⟨hP9, hD9⟩ := zsub2 (ws' := [(mq, .inr (12, mF g gl rf)), (eA0 (rf 40) (ck 40) 264 f_noteHas), (eA0 (rf 65) (ck 65) 12 f_root_d), (eA0 (rf 66) (ck 66) 12 f_off_d)]) hP hD [0, 1, 2, 3] (by decide) rfl
      have hK9 := hK.sub (tys' := []) [] rfl
      exact W.vret hx hb hr (fun t ht hW => ⟨⟨(f_root_d, f_off_d), rfl, (Eq.symm (hI_d.trans (by rw [fq_layRoots_d]; try rfl))), by rw [ht]; exact hP9, va_K.moved hW.alike hK9, hD9⟩, hS.F ht⟩) hS.2.2 dX12_layRoots_116
    | succ n ih =>
      intro L2d f_root_d f_off_d h0_d hf_d hI_d H locs ls hP hD hS hl
      refine lv_iload_n hx hb dX12_layRoots_2 rfl (lv_at hl 0 rfl) ?_
      refine lv_aload_n hx hb dX12_layRoots_3 rfl (lv_at hl 1 rfl) ?_
      refine va_get (D := (dC, dI)) (ci := 12) (v := .int (g 16)) (C := RX12) (T := TX12) (N := 76) hx hb htw inlX12 hown hK hP 0 rfl rfl 16 (by decide) (htw _ (ck_11 _ (List.mem_of_getElem? (i := 13) rfl))) (fun _ h9 => h9) rfl dX12_layRoots_4 ?_
      refine lv_icmp_ge (tgt := 116) hx hb dX12_layRoots_7 (by decide) (fun c_3 => ?_) (fun c_3 => ?_)
      · refine W.widen (k := 0) (n := 0) (by omega) (by omega) ?_
        obtain ⟨hP9, hD9⟩ := zsub2 (ws' := [(mq, .inr (12, mF g gl rf)), (eA0 (rf 40) (ck 40) 264 f_noteHas), (eA0 (rf 65) (ck 65) 12 f_root_d), (eA0 (rf 66) (ck 66) 12 f_off_d)]) hP hD [0, 1, 2, 3] (by decide) rfl
        have hK9 := hK.sub (tys' := []) [] rfl
        exact W.vret hx hb hr (fun t ht hW => ⟨⟨(f_root_d, f_off_d), rfl, (Eq.symm (hI_d.trans (by rw [fq_layRoots_d]; (try rw [if_pos c_3]); try rfl))), by rw [ht]; exact hP9, va_K.moved hW.alike hK9, hD9⟩, hS.F ht⟩) hS.2.2 dX12_layRoots_116
      · refine lv_aload_n hx hb dX12_layRoots_10 rfl (lv_at hl 1 rfl) ?_
        refine va_get (D := (dC, dI)) (ci := 12) (v := .ref (rf 40)) (C := RX12) (T := TX12) (N := 76) hx hb htw inlX12 hown hK hP 0 rfl rfl 40 (by decide) (htw _ (ck_9 _ (List.mem_of_getElem? (i := 20) rfl))) (fun _ h9 => h9) rfl dX12_layRoots_11 ?_
        refine lv_bipush (v := 11) hx hb dX12_layRoots_14 (by decide) ?_
        refine lv_iload_n hx hb dX12_layRoots_16 rfl (lv_at hl 0 rfl) ?_
        refine lv_imul hx hb dX12_layRoots_17 ?_
        refine lv_bipush (v := 9) hx hb dX12_layRoots_18 (by decide) ?_
        refine lv_iadd hx hb dX12_layRoots_20 ?_
        refine va_iald hx hb hK hP 1 0 rfl rfl (xn_b (gq_layRoots_s0 (y0 := L2d) (y1 := g 16) c_3 h0_d hnt0 hnt2).1 (gq_layRoots_s0 (y0 := L2d) (y1 := g 16) c_3 h0_d hnt0 hnt2).2 (gq_layRoots_s1 ).1 (gq_layRoots_s1 ).2) dX12_layRoots_21 ?_
        refine lv_istore_n (lv' := [(3, .int (f_noteHas (((11 * L2d) + 9).toNatClampNeg))), (2, .int L2d), (0, .ref mq), (1, .int a0)]) hx hb dX12_layRoots_22 rfl hl (by decide) rfl (fun ls hl => ?_)
        refine lv_aload_n hx hb dX12_layRoots_23 rfl (lv_at hl 2 rfl) ?_
        refine va_get (D := (dC, dI)) (ci := 12) (v := .ref (rf 40)) (C := RX12) (T := TX12) (N := 76) hx hb htw inlX12 hown hK hP 0 rfl rfl 40 (by decide) (htw _ (ck_9 _ (List.mem_of_getElem? (i := 20) rfl))) (fun _ h9 => h9) rfl dX12_layRoots_24 ?_
        refine lv_bipush (v := 11) hx hb dX12_layRoots_27 (by decide) ?_
        refine lv_iload_n hx hb dX12_layRoots_29 rfl (lv_at hl 1 rfl) ?_
        refine lv_imul hx hb dX12_layRoots_30 ?_
        refine va_iald hx hb hK hP 1 0 rfl rfl (xn_a (gq_layRoots_s2 (y0 := L2d) (y1 := g 16) c_3 h0_d hnt0 hnt2).1 (gq_layRoots_s2 (y0 := L2d) (y1 := g 16) c_3 h0_d hnt0 hnt2).2) dX12_layRoots_31 ?_
        refine lv_bipush (v := 7) hx hb dX12_layRoots_32 (by decide) ?_
        have hPc := hP.sub (ws' := []) [] rfl
        have hKc := hK.sub (tys' := []) [] rfl
        refine vp_callSi (W.runS (As := [.int (f_noteHas ((11 * L2d).toNatClampNeg)), .int 7]) (rest := []) ⟨hx, hb, hml, hown, htw⟩ (gq_isOf l dC dI (f_noteHas ((11 * L2d).toNatClampNeg)) (7 : Int32)) (va_cwS 2 htw (xg_S (ck_31 _ (List.mem_of_getElem? (i := 10) rfl)) (ck_31 _ (List.mem_of_getElem? (i := 11) rfl)) (ck_1 _ (List.mem_of_getElem? (i := 5) rfl)) (ck_31 _ (List.mem_of_getElem? (i := 12) rfl))) rfl rfl rfl (by exact ⟨hdc_14.1, hdc_14.2, hdd_8⟩) ⟨Nat.le_of_ble_eq_true rfl, Nat.le_of_ble_eq_true rfl⟩) ⟨fun a U g mk q => by obtain ⟨q0, qP, qK⟩ := q; exact ⟨q0, qP, va_K.moved (u := U) (U := U.calling g mk a) (Vm.Alike.refl U.vm) qK⟩, fun U hU hW => ⟨rfl, by rw [hU]; exact hPc, va_K.moved hW.alike hKc⟩⟩ rfl rfl hl.1 rfl (lv_room (Nat.le_of_ble_eq_true rfl)) dX12_layRoots_34 ⟨Nat.le_of_ble_eq_true rfl, Nat.le_of_ble_eq_true rfl⟩) (fun r_4 hw => ?_)
        try dsimp only at hw
        obtain ⟨hw, hb_r_4⟩ := hw
        have hq_r_4 : r_4 = (fq_isOf (f_noteHas ((11 * L2d).toNatClampNeg)) (7 : Int32)) := hw
        obtain ⟨X_5, hX_5⟩ : ∃ X9 : (Int32), X9 = fq_layRoots_a f_noteHas a0 L2d r_4 := ⟨_, rfl⟩
        have hjoin_6 : ∀ (S0a : Int32) (hj7 : S0a = 0 ∨ (¬ (f_noteHas (((11 * L2d) + 9).toNatClampNeg)) < 0 ∧ (f_noteHas (((11 * L2d) + 9).toNatClampNeg)) < L2d)) (hE9 : X_5 = S0a) (H : Heap) (locs : List Loc) (ls : Array Slot) (hP : va_P (dC, dI) vwCl [(mq, .inr (12, mF g gl rf)), (eA0 (rf 40) (ck 40) 264 f_noteHas), (eA0 (rf 65) (ck 65) 12 f_root_d), (eA0 (rf 66) (ck 66) 12 f_off_d)] H) (hD : va_D A [(mq, .inr (12, mF g gl rf)), (eA0 (rf 40) (ck 40) 264 f_noteHas), (eA0 (rf 65) (ck 65) 12 f_root_d), (eA0 (rf 66) (ck 66) 12 f_off_d)]) (hS : va_S A s.heap H locs) (hl : lv_has ls 5 [(3, .int (f_noteHas (((11 * L2d) + 9).toNatClampNeg))), (2, .int L2d), (0, .ref mq), (1, .int a0)]), W p l e (headSpec (Cond.code yX12_layRoots cX12_layRoots 5 none :: wsL_law) ({ frames := 1, cells := 0, slots := 0, locals := 21 })).room s m ([.ref mq, .int a0] : List Value).toArray below meth c H locs 0 0 (MQ below (va_Qv (fun (u : (Nat → Int32) × (Nat → Int32)) => u = fq_layRoots f_noteHas f_root f_off a0 (g 16)) (fun (u : (Nat → Int32) × (Nat → Int32)) t => va_P (dC, dI) vwCl [(mq, .inr (12, mF g gl rf)), (eA0 (rf 40) (ck 40) 264 f_noteHas), (eA0 (rf 65) (ck 65) 12 u.1), (eA0 (rf 66) (ck 66) 12 u.2)] t.heap ∧ va_K (dC, dI) vwCl [] t ∧ va_D A [(mq, .inr (12, mF g gl rf)), (eA0 (rf 40) (ck 40) 264 f_noteHas), (eA0 (rf 65) (ck 65) 12 u.1), (eA0 (rf 66) (ck 66) 12 u.2)]) A) ([.ref mq, .int a0] : List Value).toArray s 0 0 A) (F0 m 53 ls [.int S0a]) := by
          intro S0a hj7 hE9 H locs ls hP hD hS hl
          have hq_S0a : S0a = X_5 := by rw [hE9]
          refine lv_istore (lv' := [(4, .int S0a), (3, .int (f_noteHas (((11 * L2d) + 9).toNatClampNeg))), (2, .int L2d), (0, .ref mq), (1, .int a0)]) hx hb dX12_layRoots_53 hl (by decide) rfl (fun ls hl => ?_)
          refine lv_aload_n hx hb dX12_layRoots_55 rfl (lv_at hl 3 rfl) ?_
          refine va_get (D := (dC, dI)) (ci := 12) (v := .ref (rf 65)) (C := RX12) (T := TX12) (N := 76) hx hb htw inlX12 hown hK hP 0 rfl rfl 65 (by decide) (htw _ (ck_10 _ (List.mem_of_getElem? (i := 8) rfl))) (fun _ h9 => h9) rfl dX12_layRoots_56 ?_
          refine lv_iload_n hx hb dX12_layRoots_59 rfl (lv_at hl 2 rfl) ?_
          refine lv_iload hx hb dX12_layRoots_60 (lv_at hl 0 rfl) ?_
          refine lv_if_eq (tgt := 74) hx hb dX12_layRoots_62 (by decide) (fun c_7 => ?_) (fun c_7 => ?_)
          · refine lv_iload_n hx hb dX12_layRoots_74 rfl (lv_at hl 2 rfl) ?_
            refine va_iast hx hb hK hP hD hS 2 1 rfl rfl (xg_inr (N := 12) rfl (gq_layRoots_s3 (y0 := L2d) (y1 := g 16) c_3 h0_d hnt0 hnt2).1 (gq_layRoots_s3 (y0 := L2d) (y1 := g 16) c_3 h0_d hnt0 hnt2).2) dX12_layRoots_75 (fun H locs hP hD hS => ?_)
            obtain ⟨hP, hD⟩ := zre [(mq, .inr (12, mF g gl rf)), (eA0 (rf 40) (ck 40) 264 f_noteHas), (eA0 (rf 65) (ck 65) 12 (upd f_root_d L2d.toNatClampNeg L2d)), (eA0 (rf 66) (ck 66) 12 f_off_d)] hP hD rfl
            refine lv_aload_n hx hb dX12_layRoots_76 rfl (lv_at hl 3 rfl) ?_
            refine va_get (D := (dC, dI)) (ci := 12) (v := .ref (rf 66)) (C := RX12) (T := TX12) (N := 76) hx hb htw inlX12 hown hK hP 0 rfl rfl 66 (by decide) (htw _ (ck_10 _ (List.mem_of_getElem? (i := 9) rfl))) (fun _ h9 => h9) rfl dX12_layRoots_77 ?_
            refine lv_iload_n hx hb dX12_layRoots_80 rfl (lv_at hl 2 rfl) ?_
            refine lv_iload hx hb dX12_layRoots_81 (lv_at hl 0 rfl) ?_
            refine lv_if_eq (tgt := 108) hx hb dX12_layRoots_83 (by decide) (fun c_9 => ?_) (fun c_9 => absurd c_9 (fun h9 => h9 c_7))
            refine lv_iconst (v := 0) hx hb dX12_layRoots_108 (by decide) ?_
            refine va_iast hx hb hK hP hD hS 3 2 rfl rfl (xg_inr (N := 12) rfl (gq_layRoots_s4 (y0 := L2d) (y1 := g 16) c_3 h0_d hnt0 hnt2).1 (gq_layRoots_s4 (y0 := L2d) (y1 := g 16) c_3 h0_d hnt0 hnt2).2) dX12_layRoots_109 (fun H locs hP hD hS => ?_)
            obtain ⟨hP, hD⟩ := zre [(mq, .inr (12, mF g gl rf)), (eA0 (rf 40) (ck 40) 264 f_noteHas), (eA0 (rf 65) (ck 65) 12 (upd f_root_d L2d.toNatClampNeg L2d)), (eA0 (rf 66) (ck 66) 12 (upd f_off_d L2d.toNatClampNeg 0))] hP hD rfl
            refine lv_iinc (v := (L2d + 1)) (lv' := [(2, .int (L2d + 1)), (4, .int S0a), (3, .int (f_noteHas (((11 * L2d) + 9).toNatClampNeg))), (0, .ref mq), (1, .int a0)]) hx hb dX12_layRoots_110 hl (k := 2) rfl (rfl) (by decide) rfl (fun ls hl => ?_)
            refine lv_goto (tgt := 2) hx hb dX12_layRoots_113 (by decide) ?_
            exact ih (L2d + 1) (upd f_root_d L2d.toNatClampNeg L2d) (upd f_off_d L2d.toNatClampNeg 0) (gq_layRoots_s5 (y0 := L2d) (y1 := g 16) c_3 h0_d hnt0 hnt2) (by rw [xi_s' c_3]; omega) (hI_d.trans (by rw [fq_layRoots_d]; (try rw [if_neg c_3]); (try rw [← hq_r_4]); (try rw [xL_eq]); (try rw [← hX_5]); (try rw [xL_eq]); (try rw [← hq_S0a]); (try rw [if_pos c_7]); try rfl)) H locs ls hP hD hS (lv_sub hl [0, 3, 4] rfl)
          · refine lv_aload_n hx hb dX12_layRoots_65 rfl (lv_at hl 3 rfl) ?_
            refine va_get (D := (dC, dI)) (ci := 12) (v := .ref (rf 65)) (C := RX12) (T := TX12) (N := 76) hx hb htw inlX12 hown hK hP 0 rfl rfl 65 (by decide) (htw _ (ck_10 _ (List.mem_of_getElem? (i := 8) rfl))) (fun _ h9 => h9) rfl dX12_layRoots_66 ?_
            refine lv_iload_n hx hb dX12_layRoots_69 rfl (lv_at hl 1 rfl) ?_
            refine va_iald hx hb hK hP 2 1 rfl rfl (xg_inr (N := 12) rfl (gq_layRoots_s6 (y0 := f_noteHas (((11 * L2d) + 9).toNatClampNeg)) (y1 := L2d) (y2 := g 16) (hj7.resolve_left c_7).1 (hj7.resolve_left c_7).2 c_3 h0_d hnt0 hnt2).1 (gq_layRoots_s6 (y0 := f_noteHas (((11 * L2d) + 9).toNatClampNeg)) (y1 := L2d) (y2 := g 16) (hj7.resolve_left c_7).1 (hj7.resolve_left c_7).2 c_3 h0_d hnt0 hnt2).2) dX12_layRoots_70 ?_
            refine lv_goto (tgt := 75) hx hb dX12_layRoots_71 (by decide) ?_
            refine va_iast hx hb hK hP hD hS 2 1 rfl rfl (xg_inr (N := 12) rfl (gq_layRoots_s7 (y0 := L2d) (y1 := g 16) c_3 h0_d hnt0 hnt2).1 (gq_layRoots_s7 (y0 := L2d) (y1 := g 16) c_3 h0_d hnt0 hnt2).2) dX12_layRoots_75 (fun H locs hP hD hS => ?_)
            obtain ⟨hP, hD⟩ := zre [(mq, .inr (12, mF g gl rf)), (eA0 (rf 40) (ck 40) 264 f_noteHas), (eA0 (rf 65) (ck 65) 12 (upd f_root_d L2d.toNatClampNeg (f_root_d ((f_noteHas (((11 * L2d) + 9).toNatClampNeg)).toNatClampNeg)))), (eA0 (rf 66) (ck 66) 12 f_off_d)] hP hD rfl
            refine lv_aload_n hx hb dX12_layRoots_76 rfl (lv_at hl 3 rfl) ?_
            refine va_get (D := (dC, dI)) (ci := 12) (v := .ref (rf 66)) (C := RX12) (T := TX12) (N := 76) hx hb htw inlX12 hown hK hP 0 rfl rfl 66 (by decide) (htw _ (ck_10 _ (List.mem_of_getElem? (i := 9) rfl))) (fun _ h9 => h9) rfl dX12_layRoots_77 ?_
            refine lv_iload_n hx hb dX12_layRoots_80 rfl (lv_at hl 2 rfl) ?_
            refine lv_iload hx hb dX12_layRoots_81 (lv_at hl 0 rfl) ?_
            refine lv_if_eq (tgt := 108) hx hb dX12_layRoots_83 (by decide) (fun c_12 => absurd c_12 (c_7)) (fun c_12 => ?_)
            refine lv_aload_n hx hb dX12_layRoots_86 rfl (lv_at hl 3 rfl) ?_
            refine va_get (D := (dC, dI)) (ci := 12) (v := .ref (rf 66)) (C := RX12) (T := TX12) (N := 76) hx hb htw inlX12 hown hK hP 0 rfl rfl 66 (by decide) (htw _ (ck_10 _ (List.mem_of_getElem? (i := 9) rfl))) (fun _ h9 => h9) rfl dX12_layRoots_87 ?_
            refine lv_iload_n hx hb dX12_layRoots_90 rfl (lv_at hl 1 rfl) ?_
            refine va_iald hx hb hK hP 3 2 rfl rfl (xg_inr (N := 12) rfl (gq_layRoots_s8 (y0 := f_noteHas (((11 * L2d) + 9).toNatClampNeg)) (y1 := L2d) (y2 := g 16) (hj7.resolve_left c_12).1 (hj7.resolve_left c_12).2 c_3 h0_d hnt0 hnt2).1 (gq_layRoots_s8 (y0 := f_noteHas (((11 * L2d) + 9).toNatClampNeg)) (y1 := L2d) (y2 := g 16) (hj7.resolve_left c_12).1 (hj7.resolve_left c_12).2 c_3 h0_d hnt0 hnt2).2) dX12_layRoots_91 ?_
            refine lv_aload_n hx hb dX12_layRoots_92 rfl (lv_at hl 3 rfl) ?_
            refine va_get (D := (dC, dI)) (ci := 12) (v := .ref (rf 40)) (C := RX12) (T := TX12) (N := 76) hx hb htw inlX12 hown hK hP 0 rfl rfl 40 (by decide) (htw _ (ck_9 _ (List.mem_of_getElem? (i := 20) rfl))) (fun _ h9 => h9) rfl dX12_layRoots_93 ?_
            refine lv_bipush (v := 11) hx hb dX12_layRoots_96 (by decide) ?_
            refine lv_iload_n hx hb dX12_layRoots_98 rfl (lv_at hl 2 rfl) ?_
            refine lv_imul hx hb dX12_layRoots_99 ?_
            refine lv_bipush (v := 10) hx hb dX12_layRoots_100 (by decide) ?_
            refine lv_iadd hx hb dX12_layRoots_102 ?_
            refine va_iald hx hb hK hP 1 0 rfl rfl (xn_b (gq_layRoots_s9 (y0 := L2d) (y1 := g 16) c_3 h0_d hnt0 hnt2).1 (gq_layRoots_s9 (y0 := L2d) (y1 := g 16) c_3 h0_d hnt0 hnt2).2 (gq_layRoots_s10 ).1 (gq_layRoots_s10 ).2) dX12_layRoots_103 ?_
            refine lv_iadd hx hb dX12_layRoots_104 ?_
            refine lv_goto (tgt := 109) hx hb dX12_layRoots_105 (by decide) ?_
            refine va_iast hx hb hK hP hD hS 3 2 rfl rfl (xg_inr (N := 12) rfl (gq_layRoots_s11 (y0 := L2d) (y1 := g 16) c_3 h0_d hnt0 hnt2).1 (gq_layRoots_s11 (y0 := L2d) (y1 := g 16) c_3 h0_d hnt0 hnt2).2) dX12_layRoots_109 (fun H locs hP hD hS => ?_)
            obtain ⟨hP, hD⟩ := zre [(mq, .inr (12, mF g gl rf)), (eA0 (rf 40) (ck 40) 264 f_noteHas), (eA0 (rf 65) (ck 65) 12 (upd f_root_d L2d.toNatClampNeg (f_root_d ((f_noteHas (((11 * L2d) + 9).toNatClampNeg)).toNatClampNeg)))), (eA0 (rf 66) (ck 66) 12 (upd f_off_d L2d.toNatClampNeg ((f_off_d ((f_noteHas (((11 * L2d) + 9).toNatClampNeg)).toNatClampNeg)) + (f_noteHas (((11 * L2d) + 10).toNatClampNeg)))))] hP hD rfl
            refine lv_iinc (v := (L2d + 1)) (lv' := [(2, .int (L2d + 1)), (4, .int S0a), (3, .int (f_noteHas (((11 * L2d) + 9).toNatClampNeg))), (0, .ref mq), (1, .int a0)]) hx hb dX12_layRoots_110 hl (k := 2) rfl (rfl) (by decide) rfl (fun ls hl => ?_)
            refine lv_goto (tgt := 2) hx hb dX12_layRoots_113 (by decide) ?_
            exact ih (L2d + 1) (upd f_root_d L2d.toNatClampNeg (f_root_d ((f_noteHas (((11 * L2d) + 9).toNatClampNeg)).toNatClampNeg))) (upd f_off_d L2d.toNatClampNeg ((f_off_d ((f_noteHas (((11 * L2d) + 9).toNatClampNeg)).toNatClampNeg)) + (f_noteHas (((11 * L2d) + 10).toNatClampNeg)))) (gq_layRoots_s12 (y0 := L2d) (y1 := g 16) c_3 h0_d hnt0 hnt2) (by rw [xi_s' c_3]; omega) (hI_d.trans (by rw [fq_layRoots_d]; (try rw [if_neg c_3]); (try rw [← hq_r_4]); (try rw [xL_eq]); (try rw [← hX_5]); (try rw [xL_eq]); (try rw [← hq_S0a]); (try rw [if_neg c_7]); try rfl)) H locs ls hP hD hS (lv_sub hl [0, 3, 4] rfl)
        refine lv_if_eq (tgt := 52) hx hb dX12_layRoots_37 (by decide) (fun c_14 => ?_) (fun c_14 => ?_)
        · refine lv_iconst (v := 0) hx hb dX12_layRoots_52 (by decide) ?_
          exact hjoin_6 (0 : Int32) (Or.inl rfl) (hX_5.trans (by rw [fq_layRoots_a]; (try rw [if_pos c_14]); try rfl)) _ _ ls hP hD hS (lv_sub hl [0, 1, 2, 3] rfl)
        · refine lv_iload_n hx hb dX12_layRoots_40 rfl (lv_at hl 3 rfl) ?_
          refine lv_iload_n hx hb dX12_layRoots_41 rfl (lv_at hl 0 rfl) ?_
          have hPc := hP.sub (ws' := []) [] rfl
          have hKc := hK.sub (tys' := []) [] rfl
          refine vp_callSi (W.runS (As := [.int a0, .int (f_noteHas (((11 * L2d) + 9).toNatClampNeg))]) (rest := []) ⟨hx, hb, hml, hown, htw⟩ (gq_isOf l dC dI a0 (f_noteHas (((11 * L2d) + 9).toNatClampNeg))) (va_cwS 2 htw (xg_S (ck_31 _ (List.mem_of_getElem? (i := 10) rfl)) (ck_31 _ (List.mem_of_getElem? (i := 11) rfl)) (ck_1 _ (List.mem_of_getElem? (i := 5) rfl)) (ck_31 _ (List.mem_of_getElem? (i := 12) rfl))) rfl rfl rfl (by exact ⟨hdc_14.1, hdc_14.2, hdd_8⟩) ⟨Nat.le_of_ble_eq_true rfl, Nat.le_of_ble_eq_true rfl⟩) ⟨fun a U g mk q => by obtain ⟨q0, qP, qK⟩ := q; exact ⟨q0, qP, va_K.moved (u := U) (U := U.calling g mk a) (Vm.Alike.refl U.vm) qK⟩, fun U hU hW => ⟨rfl, by rw [hU]; exact hPc, va_K.moved hW.alike hKc⟩⟩ rfl rfl hl.1 rfl (lv_room (Nat.le_of_ble_eq_true rfl)) dX12_layRoots_42 ⟨Nat.le_of_ble_eq_true rfl, Nat.le_of_ble_eq_true rfl⟩) (fun r_15 hw => ?_)
          try dsimp only at hw
          obtain ⟨hw, hb_r_15⟩ := hw
          have hq_r_15 : r_15 = (fq_isOf a0 (f_noteHas (((11 * L2d) + 9).toNatClampNeg))) := hw
          refine lv_if_eq (tgt := 52) hx hb dX12_layRoots_45 (by decide) (fun c_16 => ?_) (fun c_16 => ?_)
          · refine lv_iconst (v := 0) hx hb dX12_layRoots_52 (by decide) ?_
            exact hjoin_6 (0 : Int32) (Or.inl rfl) (hX_5.trans (by rw [fq_layRoots_a]; (try rw [if_neg c_14]); (try rw [← hq_r_15]); (try rw [xL_eq]); (try rw [if_pos c_16]); try rfl)) _ _ ls hP hD hS (lv_sub hl [0, 1, 2, 3] rfl)
          · refine lv_iconst (v := 1) hx hb dX12_layRoots_48 (by decide) ?_
            refine lv_goto (tgt := 53) hx hb dX12_layRoots_49 (by decide) ?_
            exact hjoin_6 (1 : Int32) (Or.inr ⟨((hNA L2d h0_d (Int32.not_le.mp c_3)).2.2 (fun q => c_14 (hq_r_4.trans q))).1, ((hNA L2d h0_d (Int32.not_le.mp c_3)).2.2 (fun q => c_14 (hq_r_4.trans q))).2⟩) (hX_5.trans (by rw [fq_layRoots_a]; (try rw [if_neg c_14]); (try rw [← hq_r_15]); (try rw [xL_eq]); (try rw [if_neg c_16]); try rfl)) _ _ ls hP hD hS (lv_sub hl [0, 1, 2, 3] rfl)
  exact hloop_1 12 (0 : Int32) f_root f_off (gq_layRoots_s13 ) (by have := xi_le hnt2; have e9 : (12 : Int32).toInt = 12 := rfl; have e0 : (0 : Int32).toInt = 0 := rfl; omega) ((by rw [fq_layRoots])) _ _ ls hP hD hS (lv_sub hl [0, 1, 2] rfl)

def fq_allCan_d (f_can : Nat → Int32) (f_root : Nat → Int32) (f_off : Nat → Int32) (a0 : Int32) (a1 : Int32) (a2 : Int32) (m_notes : Int32) : Nat → (Int32) → Int32
  | 0, L4d => (1 : Int32)
  | n + 1, L4d => (if m_notes ≤ L4d then (1 : Int32) else (xL ((fq_isOf a0 L4d)) (fun r_4 => (if r_4 = 0 then fq_allCan_d f_can f_root f_off a0 a1 a2 m_notes n (L4d + 1) else (if f_root L4d.toNatClampNeg = a1 then (if (a2 + (f_off L4d.toNatClampNeg)) < 0 then (0 : Int32) else (if 19999 < (a2 + (f_off L4d.toNatClampNeg)) then (0 : Int32) else (if f_can (((20000 * L4d) + (a2 + (f_off L4d.toNatClampNeg))).toNatClampNeg) = 0 then (0 : Int32) else fq_allCan_d f_can f_root f_off a0 a1 a2 m_notes n (L4d + 1)))) else fq_allCan_d f_can f_root f_off a0 a1 a2 m_notes n (L4d + 1))))))
def fq_allCan (f_can : Nat → Int32) (f_root : Nat → Int32) (f_off : Nat → Int32) (a0 : Int32) (a1 : Int32) (a2 : Int32) (m_notes : Int32) : Int32 := fq_allCan_d f_can f_root f_off a0 a1 a2 m_notes 12 (0 : Int32)
theorem gq_allCan_s0 {y0 : Int32} {y1 : Int32} (h0 : ¬ (y1 ≤ y0)) (h1 : ¬ (y0 < 0)) (h2 : ¬ (y1 < 0)) (h3 : y1 ≤ 12) : ¬ ((y0 + 1) < 0) := gq_layAllCan_s4 h0 h1 h2 h3
theorem gq_allCan_s1 {y0 : Int32} {y1 : Int32} (h0 : ¬ (y1 ≤ y0)) (h1 : ¬ (y0 < 0)) (h2 : ¬ (y1 < 0)) (h3 : y1 ≤ 12) : ¬ (y0 < 0) ∧ ¬ (12 ≤ y0) := gq_layRoots_s3 h0 h1 h2 h3
theorem gq_allCan_s2 {y0 : Int32} {y1 : Int32} (h0 : ¬ (y1 ≤ y0)) (h1 : ¬ (y0 < 0)) (h2 : ¬ (y1 < 0)) (h3 : y1 ≤ 12) : ¬ (y0 < 0) ∧ ¬ (12 ≤ y0) := gq_layRoots_s3 h0 h1 h2 h3
theorem gq_allCan_s3 {y0 : Int32} {y1 : Int32} (h0 : ¬ (y1 ≤ y0)) (h1 : ¬ (y0 < 0)) (h2 : ¬ (y1 < 0)) (h3 : y1 ≤ 12) : ¬ (y0 < 0) ∧ y0 ≤ 11 := gq_layRoots_s0 h0 h1 h2 h3
theorem gq_allCan_s4 {y0 : Int32} {y1 : Int32} (h0 : ¬ ((y0 + y1) < 0)) (h1 : ¬ (19999 < (y0 + y1))) : ¬ ((y0 + y1) < 0) ∧ (y0 + y1) ≤ 19999 := by lia
theorem gq_allCan_s5 {y0 : Int32} {y1 : Int32} (h0 : ¬ (y1 ≤ y0)) (h1 : ¬ (y0 < 0)) (h2 : ¬ (y1 < 0)) (h3 : y1 ≤ 12) : ¬ ((y0 + 1) < 0) := gq_layAllCan_s4 h0 h1 h2 h3
theorem gq_allCan_s6 {y0 : Int32} {y1 : Int32} (h0 : ¬ (y1 ≤ y0)) (h1 : ¬ (y0 < 0)) (h2 : ¬ (y1 < 0)) (h3 : y1 ≤ 12) : ¬ ((y0 + 1) < 0) := gq_layAllCan_s4 h0 h1 h2 h3
theorem gq_allCan_s7  : ¬ ((0 : Int32) < 0) := (by decide)
theorem dX12_allCan_0 : decode cX12_allCan 0 = .ok (.iconst 0, 1) := zk_3 (by decide +kernel)
theorem dX12_allCan_1 : decode cX12_allCan 1 = .ok (.istore 4, 2) := zk_54 (by decide +kernel)
theorem dX12_allCan_3 : decode cX12_allCan 3 = .ok (.iload 4, 2) := zk_21 (by decide +kernel)
theorem dX12_allCan_5 : decode cX12_allCan 5 = .ok (.aload_n 0, 1) := zk_42 (by decide +kernel)
theorem dX12_allCan_6 : decode cX12_allCan 6 = .ok (.getfield 229, 3) := zk_180 (by decide +kernel)
theorem dX12_allCan_9 : decode cX12_allCan 9 = .ok (.if_icmp .ge 75, 3) := zk_162 (by decide +kernel)
theorem dX12_allCan_84 : decode cX12_allCan 84 = .ok (.iconst 1, 1) := zk_4 (by decide +kernel)
theorem dX12_allCan_85 : decode cX12_allCan 85 = .ok (.ireturn, 1) := zk_172 (by decide +kernel)
theorem dX12_allCan_12 : decode cX12_allCan 12 = .ok (.iload_n 1, 1) := zk_27 (by decide +kernel)
theorem dX12_allCan_13 : decode cX12_allCan 13 = .ok (.iload 4, 2) := zk_21 (by decide +kernel)
theorem dX12_allCan_15 : decode cX12_allCan 15 = .ok (.invokestatic 297, 3) := zk_184 (by decide +kernel)
theorem dX12_allCan_18 : decode cX12_allCan 18 = .ok (.ifCond .eq 60, 3) := zk_153 (by decide +kernel)
theorem dX12_allCan_78 : decode cX12_allCan 78 = .ok (.iinc 4 1, 3) := zk_132 (by decide +kernel)
theorem dX12_allCan_81 : decode cX12_allCan 81 = .ok (.goto (-78), 3) := zk_167 (by decide +kernel)
theorem dX12_allCan_21 : decode cX12_allCan 21 = .ok (.aload_n 0, 1) := zk_42 (by decide +kernel)
theorem dX12_allCan_22 : decode cX12_allCan 22 = .ok (.getfield 92, 3) := zk_180 (by decide +kernel)
theorem dX12_allCan_25 : decode cX12_allCan 25 = .ok (.iload 4, 2) := zk_21 (by decide +kernel)
theorem dX12_allCan_27 : decode cX12_allCan 27 = .ok (.iaload, 1) := zk_46 (by decide +kernel)
theorem dX12_allCan_28 : decode cX12_allCan 28 = .ok (.iload_n 2, 1) := zk_28 (by decide +kernel)
theorem dX12_allCan_29 : decode cX12_allCan 29 = .ok (.if_icmp .eq 6, 3) := zk_159 (by decide +kernel)
theorem dX12_allCan_35 : decode cX12_allCan 35 = .ok (.iload_n 3, 1) := zk_29 (by decide +kernel)
theorem dX12_allCan_36 : decode cX12_allCan 36 = .ok (.aload_n 0, 1) := zk_42 (by decide +kernel)
theorem dX12_allCan_37 : decode cX12_allCan 37 = .ok (.getfield 95, 3) := zk_180 (by decide +kernel)
theorem dX12_allCan_40 : decode cX12_allCan 40 = .ok (.iload 4, 2) := zk_21 (by decide +kernel)
theorem dX12_allCan_42 : decode cX12_allCan 42 = .ok (.iaload, 1) := zk_46 (by decide +kernel)
theorem dX12_allCan_43 : decode cX12_allCan 43 = .ok (.iadd, 1) := zk_96 (by decide +kernel)
theorem dX12_allCan_44 : decode cX12_allCan 44 = .ok (.istore 5, 2) := zk_54 (by decide +kernel)
theorem dX12_allCan_46 : decode cX12_allCan 46 = .ok (.iload 5, 2) := zk_21 (by decide +kernel)
theorem dX12_allCan_48 : decode cX12_allCan 48 = .ok (.ifCond .lt 28, 3) := zk_155 (by decide +kernel)
theorem dX12_allCan_76 : decode cX12_allCan 76 = .ok (.iconst 0, 1) := zk_3 (by decide +kernel)
theorem dX12_allCan_77 : decode cX12_allCan 77 = .ok (.ireturn, 1) := zk_172 (by decide +kernel)
theorem dX12_allCan_51 : decode cX12_allCan 51 = .ok (.iload 5, 2) := zk_21 (by decide +kernel)
theorem dX12_allCan_53 : decode cX12_allCan 53 = .ok (.sipush 19999, 3) := zk_17 (by decide +kernel)
theorem dX12_allCan_56 : decode cX12_allCan 56 = .ok (.if_icmp .gt 20, 3) := zk_163 (by decide +kernel)
theorem dX12_allCan_59 : decode cX12_allCan 59 = .ok (.aload_n 0, 1) := zk_42 (by decide +kernel)
theorem dX12_allCan_60 : decode cX12_allCan 60 = .ok (.getfield 88, 3) := zk_180 (by decide +kernel)
theorem dX12_allCan_63 : decode cX12_allCan 63 = .ok (.sipush 20000, 3) := zk_17 (by decide +kernel)
theorem dX12_allCan_66 : decode cX12_allCan 66 = .ok (.iload 4, 2) := zk_21 (by decide +kernel)
theorem dX12_allCan_68 : decode cX12_allCan 68 = .ok (.imul, 1) := zk_104 (by decide +kernel)
theorem dX12_allCan_69 : decode cX12_allCan 69 = .ok (.iload 5, 2) := zk_21 (by decide +kernel)
theorem dX12_allCan_71 : decode cX12_allCan 71 = .ok (.iadd, 1) := zk_96 (by decide +kernel)
theorem dX12_allCan_72 : decode cX12_allCan 72 = .ok (.baload, 1) := zk_51 (by decide +kernel)
theorem dX12_allCan_73 : decode cX12_allCan 73 = .ok (.ifCond .ne 5, 3) := zk_154 (by decide +kernel)
theorem dX12_allCan_32 : decode cX12_allCan 32 = .ok (.goto 46, 3) := zk_167 (by decide +kernel)
set_option maxHeartbeats 4000000 in
set_option maxRecDepth 100000 in
theorem gq_allCan (l : Launch) (dC : Nat → ClassId) (dI : Nat → Nat → Nat) (mq : Nat) (g : Nat → Int32) (gl : Nat → Int64) (rf : Nat → Nat) (ck : Nat → ClassId) (f_can : Nat → Int32) (f_root : Nat → Int32) (f_off : Nat → Int32) (a0 : Int32) (a1 : Int32) (a2 : Int32) (hnt0 : ¬ (g 16) < 0) (hnt2 : (g 16) ≤ 12) : Met l yX12_allCan (Cond.code yX12_allCan cX12_allCan 6 (some .boolean) :: wsL_law) ({ frames := 1, cells := 0, slots := 0, locals := 21 }) (va_Pc [.ref mq, .int a0, .int a1, .int a2] (fun U => va_P (dC, dI) vwCl [(mq, .inr (12, mF g gl rf)), (eA0 (rf 61) (ck 61) 240000 f_can), (eA0 (rf 65) (ck 65) 12 f_root), (eA0 (rf 66) (ck 66) 12 f_off)] U.heap ∧ va_K (dC, dI) vwCl [((ck 61), .boolean), ((ck 65), .int), ((ck 66), .int)] U)) (vp_Si (fun r => (r = fq_allCan f_can f_root f_off a0 a1 a2 (g 16)) ∧ (r = 0 ∨ r = 1))) 0 0 (fun _ => False) := by
  refine Met.ofW (cc := cX12_allCan) (maxL := 6) (ret := (some .boolean)) (by decide) rfl ?_
  intro p e s m args below meth c s₁ B hml hv
  obtain ⟨rfl, hP, hK⟩ := hv
  have hx := B.exec
  have hb := B.bytes
  have hr := B.returns
  have hts := atoms_spec (ws := Cond.code yX12_allCan cX12_allCan 6 (some .boolean) :: wsL_law) B.pre
  have htw : ∀ w ∈ wsL_law, w.before _ s = true := fun w h => hts w (List.mem_cons_of_mem _ h)
  have hown : s.vm.findClass RX12 = some m.cls := findClass_of_methodNamed B.named
  have hlocks := B.notSynchronized
  have hl := lv_entry ([.ref mq, .int a0, .int a1, .int a2]) (n := 6) (Nat.le_of_ble_eq_true rfl)
  rw [lg_entry_eq]
  generalize (lg_sl ([.ref mq, .int a0, .int a1, .int a2]) ++ List.replicate (6 - (lg_sl ([.ref mq, .int a0, .int a1, .int a2])).length) Slot.unset).toArray = ls at hl ⊢
  have hl : lv_has ls 6 [(0, .ref mq), (1, .int a0), (2, .int a1), (3, .int a2)] := hl
  refine lv_iconst (v := 0) hx hb dX12_allCan_0 (by decide) ?_
  refine lv_istore (lv' := [(4, .int 0), (0, .ref mq), (1, .int a0), (2, .int a1), (3, .int a2)]) hx hb dX12_allCan_1 hl (by decide) rfl (fun ls hl => ?_)
  have hloop_1 : ∀ (n : Nat) (L4d : Int32) (h0_d : ¬ L4d < 0) (hf_d : (g 16).toInt ≤ L4d.toInt + (n : Int)) (hI_d : fq_allCan f_can f_root f_off a0 a1 a2 (g 16) = fq_allCan_d f_can f_root f_off a0 a1 a2 (g 16) n L4d) (ls : Array Slot) (hl : lv_has ls 6 [(4, .int L4d), (0, .ref mq), (1, .int a0), (2, .int a1), (3, .int a2)]), W p l e (headSpec (Cond.code yX12_allCan cX12_allCan 6 (some .boolean) :: wsL_law) ({ frames := 1, cells := 0, slots := 0, locals := 21 })).room s m ([.ref mq, .int a0, .int a1, .int a2] : List Value).toArray below meth c s.heap [] 0 0 (MQ below (vp_Si (fun r => (r = fq_allCan f_can f_root f_off a0 a1 a2 (g 16)) ∧ (r = 0 ∨ r = 1))) ([.ref mq, .int a0, .int a1, .int a2] : List Value).toArray s 0 0 (fun _ => False)) (F0 m 3 ls []) := by
    intro n
    induction n with
    | zero =>
      intro L4d h0_d hf_d hI_d ls hl
      refine lv_iload hx hb dX12_allCan_3 (lv_at hl 0 rfl) ?_
      refine lv_aload_n hx hb dX12_allCan_5 rfl (lv_at hl 1 rfl) ?_
      refine va_get (D := (dC, dI)) (ci := 12) (v := .int (g 16)) (C := RX12) (T := TX12) (N := 76) hx hb htw inlX12 hown hK hP 0 rfl rfl 16 (by decide) (htw _ (ck_11 _ (List.mem_of_getElem? (i := 13) rfl))) (fun _ h9 => h9) rfl dX12_allCan_6 ?_
      refine lv_icmp_ge (tgt := 84) hx hb dX12_allCan_9 (by decide) (fun c_2 => ?_) (fun c_2 => absurd c_2 (fun h => h (xi_z hf_d)))
      refine lv_iconst (v := 1) hx hb dX12_allCan_84 (by decide) ?_
      exact W.zret (v := 1) hx hb hr (by first | rfl | decide) (fun t ht hW => ⟨1, rfl, ⟨(Eq.symm (hI_d.trans (by rw [fq_allCan_d]; try rfl))), Or.inr rfl⟩, ht⟩) (fun _ h => by cases h) dX12_allCan_85
    | succ n ih =>
      intro L4d h0_d hf_d hI_d ls hl
      refine lv_iload hx hb dX12_allCan_3 (lv_at hl 0 rfl) ?_
      refine lv_aload_n hx hb dX12_allCan_5 rfl (lv_at hl 1 rfl) ?_
      refine va_get (D := (dC, dI)) (ci := 12) (v := .int (g 16)) (C := RX12) (T := TX12) (N := 76) hx hb htw inlX12 hown hK hP 0 rfl rfl 16 (by decide) (htw _ (ck_11 _ (List.mem_of_getElem? (i := 13) rfl))) (fun _ h9 => h9) rfl dX12_allCan_6 ?_
      refine lv_icmp_ge (tgt := 84) hx hb dX12_allCan_9 (by decide) (fun c_3 => ?_) (fun c_3 => ?_)
      · refine lv_iconst (v := 1) hx hb dX12_allCan_84 (by decide) ?_
        exact W.zret (v := 1) hx hb hr (by first | rfl | decide) (fun t ht hW => ⟨1, rfl, ⟨(Eq.symm (hI_d.trans (by rw [fq_allCan_d]; (try rw [if_pos c_3]); try rfl))), Or.inr rfl⟩, ht⟩) (fun _ h => by cases h) dX12_allCan_85
      · refine lv_iload_n hx hb dX12_allCan_12 rfl (lv_at hl 2 rfl) ?_
        refine lv_iload hx hb dX12_allCan_13 (lv_at hl 0 rfl) ?_
        have hPc := hP.sub (ws' := []) [] rfl
        have hKc := hK.sub (tys' := []) [] rfl
        refine vp_callSi (W.runS (As := [.int a0, .int L4d]) (rest := []) ⟨hx, hb, hml, hown, htw⟩ (gq_isOf l dC dI a0 L4d) (va_cwS 2 htw (xg_S (ck_31 _ (List.mem_of_getElem? (i := 10) rfl)) (ck_31 _ (List.mem_of_getElem? (i := 11) rfl)) (ck_1 _ (List.mem_of_getElem? (i := 5) rfl)) (ck_31 _ (List.mem_of_getElem? (i := 12) rfl))) rfl rfl rfl (by exact ⟨hdc_14.1, hdc_14.2, hdd_8⟩) ⟨Nat.le_of_ble_eq_true rfl, Nat.le_of_ble_eq_true rfl⟩) ⟨fun a U g mk q => by obtain ⟨q0, qP, qK⟩ := q; exact ⟨q0, qP, va_K.moved (u := U) (U := U.calling g mk a) (Vm.Alike.refl U.vm) qK⟩, fun U hU hW => ⟨rfl, by rw [hU]; exact hPc, va_K.moved hW.alike hKc⟩⟩ rfl rfl hl.1 rfl (lv_room (Nat.le_of_ble_eq_true rfl)) dX12_allCan_15 ⟨Nat.le_of_ble_eq_true rfl, Nat.le_of_ble_eq_true rfl⟩) (fun r_4 hw => ?_)
        try dsimp only at hw
        obtain ⟨hw, hb_r_4⟩ := hw
        have hq_r_4 : r_4 = (fq_isOf a0 L4d) := hw
        refine lv_if_eq (tgt := 78) hx hb dX12_allCan_18 (by decide) (fun c_5 => ?_) (fun c_5 => ?_)
        · refine lv_iinc (v := (L4d + 1)) (lv' := [(4, .int (L4d + 1)), (0, .ref mq), (1, .int a0), (2, .int a1), (3, .int a2)]) hx hb dX12_allCan_78 hl (k := 0) rfl (rfl) (by decide) rfl (fun ls hl => ?_)
          refine lv_goto (tgt := 3) hx hb dX12_allCan_81 (by decide) ?_
          exact ih (L4d + 1) (gq_allCan_s0 (y0 := L4d) (y1 := g 16) c_3 h0_d hnt0 hnt2) (by rw [xi_s' c_3]; omega) (hI_d.trans (by rw [fq_allCan_d]; (try rw [if_neg c_3]); (try rw [← hq_r_4]); (try rw [xL_eq]); (try rw [if_pos c_5]); try rfl)) ls (lv_sub hl [0, 1, 2, 3, 4] rfl)
        · refine lv_aload_n hx hb dX12_allCan_21 rfl (lv_at hl 1 rfl) ?_
          refine va_get (D := (dC, dI)) (ci := 12) (v := .ref (rf 65)) (C := RX12) (T := TX12) (N := 76) hx hb htw inlX12 hown hK hP 0 rfl rfl 65 (by decide) (htw _ (ck_10 _ (List.mem_of_getElem? (i := 8) rfl))) (fun _ h9 => h9) rfl dX12_allCan_22 ?_
          refine lv_iload hx hb dX12_allCan_25 (lv_at hl 0 rfl) ?_
          refine va_iald hx hb hK hP 2 1 rfl rfl (xg_inr (N := 12) rfl (gq_allCan_s1 (y0 := L4d) (y1 := g 16) c_3 h0_d hnt0 hnt2).1 (gq_allCan_s1 (y0 := L4d) (y1 := g 16) c_3 h0_d hnt0 hnt2).2) dX12_allCan_27 ?_
          refine lv_iload_n hx hb dX12_allCan_28 rfl (lv_at hl 3 rfl) ?_
          refine lv_icmp_eq (tgt := 35) hx hb dX12_allCan_29 (by decide) (fun c_6 => ?_) (fun c_6 => ?_)
          · refine lv_iload_n hx hb dX12_allCan_35 rfl (lv_at hl 4 rfl) ?_
            refine lv_aload_n hx hb dX12_allCan_36 rfl (lv_at hl 1 rfl) ?_
            refine va_get (D := (dC, dI)) (ci := 12) (v := .ref (rf 66)) (C := RX12) (T := TX12) (N := 76) hx hb htw inlX12 hown hK hP 0 rfl rfl 66 (by decide) (htw _ (ck_10 _ (List.mem_of_getElem? (i := 9) rfl))) (fun _ h9 => h9) rfl dX12_allCan_37 ?_
            refine lv_iload hx hb dX12_allCan_40 (lv_at hl 0 rfl) ?_
            refine va_iald hx hb hK hP 3 2 rfl rfl (xg_inr (N := 12) rfl (gq_allCan_s2 (y0 := L4d) (y1 := g 16) c_3 h0_d hnt0 hnt2).1 (gq_allCan_s2 (y0 := L4d) (y1 := g 16) c_3 h0_d hnt0 hnt2).2) dX12_allCan_42 ?_
            refine lv_iadd hx hb dX12_allCan_43 ?_
            refine lv_istore (lv' := [(5, .int (a2 + (f_off L4d.toNatClampNeg))), (4, .int L4d), (0, .ref mq), (1, .int a0), (2, .int a1), (3, .int a2)]) hx hb dX12_allCan_44 hl (by decide) rfl (fun ls hl => ?_)
            refine lv_iload hx hb dX12_allCan_46 (lv_at hl 0 rfl) ?_
            refine lv_if_lt (tgt := 76) hx hb dX12_allCan_48 (by decide) (fun c_7 => ?_) (fun c_7 => ?_)
            · refine lv_iconst (v := 0) hx hb dX12_allCan_76 (by decide) ?_
              exact W.zret (v := 0) hx hb hr (by first | rfl | decide) (fun t ht hW => ⟨0, rfl, ⟨(Eq.symm (hI_d.trans (by rw [fq_allCan_d]; (try rw [if_neg c_3]); (try rw [← hq_r_4]); (try rw [xL_eq]); (try rw [if_neg c_5]); (try rw [if_pos c_6]); (try rw [if_pos c_7]); try rfl))), Or.inl rfl⟩, ht⟩) (fun _ h => by cases h) dX12_allCan_77
            · refine lv_iload hx hb dX12_allCan_51 (lv_at hl 0 rfl) ?_
              refine lv_sipush (v := 19999) hx hb dX12_allCan_53 (by decide) ?_
              refine lv_icmp_gt (tgt := 76) hx hb dX12_allCan_56 (by decide) (fun c_8 => ?_) (fun c_8 => ?_)
              · refine lv_iconst (v := 0) hx hb dX12_allCan_76 (by decide) ?_
                exact W.zret (v := 0) hx hb hr (by first | rfl | decide) (fun t ht hW => ⟨0, rfl, ⟨(Eq.symm (hI_d.trans (by rw [fq_allCan_d]; (try rw [if_neg c_3]); (try rw [← hq_r_4]); (try rw [xL_eq]); (try rw [if_neg c_5]); (try rw [if_pos c_6]); (try rw [if_neg c_7]); (try rw [if_pos c_8]); try rfl))), Or.inl rfl⟩, ht⟩) (fun _ h => by cases h) dX12_allCan_77
              · refine lv_aload_n hx hb dX12_allCan_59 rfl (lv_at hl 2 rfl) ?_
                refine va_get (D := (dC, dI)) (ci := 12) (v := .ref (rf 61)) (C := RX12) (T := TX12) (N := 76) hx hb htw inlX12 hown hK hP 0 rfl rfl 61 (by decide) (htw _ (ck_10 _ (List.mem_of_getElem? (i := 7) rfl))) (fun _ h9 => h9) rfl dX12_allCan_60 ?_
                refine lv_sipush (v := 20000) hx hb dX12_allCan_63 (by decide) ?_
                refine lv_iload hx hb dX12_allCan_66 (lv_at hl 1 rfl) ?_
                refine lv_imul hx hb dX12_allCan_68 ?_
                refine lv_iload hx hb dX12_allCan_69 (lv_at hl 0 rfl) ?_
                refine lv_iadd hx hb dX12_allCan_71 ?_
                refine va_zald hx hb hK hP 1 0 rfl rfl (xn_can (gq_allCan_s3 (y0 := L4d) (y1 := g 16) c_3 h0_d hnt0 hnt2).1 (gq_allCan_s3 (y0 := L4d) (y1 := g 16) c_3 h0_d hnt0 hnt2).2 (gq_allCan_s4 (y0 := a2) (y1 := f_off L4d.toNatClampNeg) c_7 c_8).1 (gq_allCan_s4 (y0 := a2) (y1 := f_off L4d.toNatClampNeg) c_7 c_8).2) dX12_allCan_72 ?_
                refine lv_if_ne (tgt := 78) hx hb dX12_allCan_73 (by decide) (fun c_9 => ?_) (fun c_9 => ?_)
                · refine lv_iinc (v := (L4d + 1)) (lv' := [(4, .int (L4d + 1)), (5, .int (a2 + (f_off L4d.toNatClampNeg))), (0, .ref mq), (1, .int a0), (2, .int a1), (3, .int a2)]) hx hb dX12_allCan_78 hl (k := 1) rfl (rfl) (by decide) rfl (fun ls hl => ?_)
                  refine lv_goto (tgt := 3) hx hb dX12_allCan_81 (by decide) ?_
                  exact ih (L4d + 1) (gq_allCan_s5 (y0 := L4d) (y1 := g 16) c_3 h0_d hnt0 hnt2) (by rw [xi_s' c_3]; omega) (hI_d.trans (by rw [fq_allCan_d]; (try rw [if_neg c_3]); (try rw [← hq_r_4]); (try rw [xL_eq]); (try rw [if_neg c_5]); (try rw [if_pos c_6]); (try rw [if_neg c_7]); (try rw [if_neg c_8]); (try rw [if_neg c_9]); try rfl)) ls (lv_sub hl [0, 2, 3, 4, 5] rfl)
                · refine lv_iconst (v := 0) hx hb dX12_allCan_76 (by decide) ?_
                  exact W.zret (v := 0) hx hb hr (by first | rfl | decide) (fun t ht hW => ⟨0, rfl, ⟨(Eq.symm (hI_d.trans (by rw [fq_allCan_d]; (try rw [if_neg c_3]); (try rw [← hq_r_4]); (try rw [xL_eq]); (try rw [if_neg c_5]); (try rw [if_pos c_6]); (try rw [if_neg c_7]); (try rw [if_neg c_8]); (try rw [if_pos c_9]); try rfl))), Or.inl rfl⟩, ht⟩) (fun _ h => by cases h) dX12_allCan_77
          · refine lv_goto (tgt := 78) hx hb dX12_allCan_32 (by decide) ?_
            refine lv_iinc (v := (L4d + 1)) (lv' := [(4, .int (L4d + 1)), (0, .ref mq), (1, .int a0), (2, .int a1), (3, .int a2)]) hx hb dX12_allCan_78 hl (k := 0) rfl (rfl) (by decide) rfl (fun ls hl => ?_)
            refine lv_goto (tgt := 3) hx hb dX12_allCan_81 (by decide) ?_
            exact ih (L4d + 1) (gq_allCan_s6 (y0 := L4d) (y1 := g 16) c_3 h0_d hnt0 hnt2) (by rw [xi_s' c_3]; omega) (hI_d.trans (by rw [fq_allCan_d]; (try rw [if_neg c_3]); (try rw [← hq_r_4]); (try rw [xL_eq]); (try rw [if_neg c_5]); (try rw [if_neg c_6]); try rfl)) ls (lv_sub hl [0, 1, 2, 3, 4] rfl)
  exact hloop_1 12 (0 : Int32) (gq_allCan_s7 ) (by have := xi_le hnt2; have e9 : (12 : Int32).toInt = 12 := rfl; have e0 : (0 : Int32).toInt = 0 := rfl; omega) ((by rw [fq_allCan])) ls (lv_sub hl [0, 1, 2, 3, 4] rfl)

def fq_layRoot_d (f_can : Nat → Int32) (f_root : Nat → Int32) (f_off : Nat → Int32) (a0 : Int32) (a1 : Int32) (a2 : Int32) (m_notes : Int32) : Nat → (Int32) → (Int32) → (Int32) → (Int32) → (Int32) × (Int32) × (Int32)
  | 0, L4d, m_manyGot_d, m_firstGot_d, m_lastGot_d => (m_manyGot_d, m_firstGot_d, m_lastGot_d)
  | n + 1, L4d, m_manyGot_d, m_firstGot_d, m_lastGot_d => (if 20000 ≤ L4d then (m_manyGot_d, m_firstGot_d, m_lastGot_d) else (if a2 = 0 then (xL ((fq_allCan f_can f_root f_off a0 a1 L4d m_notes)) (fun r_5 => (if r_5 = 0 then fq_layRoot_d f_can f_root f_off a0 a1 a2 m_notes n (L4d + 1) m_manyGot_d m_firstGot_d m_lastGot_d else (if 0 ≤ m_firstGot_d then fq_layRoot_d f_can f_root f_off a0 a1 a2 m_notes n (L4d + 1) (m_manyGot_d + 1) m_firstGot_d L4d else fq_layRoot_d f_can f_root f_off a0 a1 a2 m_notes n (L4d + 1) (m_manyGot_d + 1) L4d L4d)))) else (if 0 < m_manyGot_d then (m_manyGot_d, m_firstGot_d, m_lastGot_d) else (xL ((fq_allCan f_can f_root f_off a0 a1 L4d m_notes)) (fun r_9 => (if r_9 = 0 then fq_layRoot_d f_can f_root f_off a0 a1 a2 m_notes n (L4d + 1) m_manyGot_d m_firstGot_d m_lastGot_d else (if 0 ≤ m_firstGot_d then fq_layRoot_d f_can f_root f_off a0 a1 a2 m_notes n (L4d + 1) (m_manyGot_d + 1) m_firstGot_d L4d else fq_layRoot_d f_can f_root f_off a0 a1 a2 m_notes n (L4d + 1) (m_manyGot_d + 1) L4d L4d)))))))
def fq_layRoot (f_can : Nat → Int32) (f_root : Nat → Int32) (f_off : Nat → Int32) (a0 : Int32) (a1 : Int32) (a2 : Int32) (m_notes : Int32) : (Int32) × (Int32) × (Int32) := fq_layRoot_d f_can f_root f_off a0 a1 a2 m_notes 20000 (0 : Int32) (0 : Int32) (-1 : Int32) (-1 : Int32)
theorem gq_layRoot_s0 {y0 : Int32} (h0 : ¬ (20000 ≤ y0)) (h1 : ¬ (y0 < 0)) : ¬ ((y0 + 1) < 0) := by lia
theorem gq_layRoot_s1 {y0 : Int32} (h0 : ¬ (20000 ≤ y0)) (h1 : ¬ (y0 < 0)) : ¬ ((y0 + 1) < 0) := by lia
theorem gq_layRoot_s2 {y0 : Int32} (h0 : ¬ (20000 ≤ y0)) (h1 : ¬ (y0 < 0)) : ¬ ((y0 + 1) < 0) := by lia
theorem gq_layRoot_s3 {y0 : Int32} (h0 : ¬ (20000 ≤ y0)) (h1 : ¬ (y0 < 0)) : ¬ ((y0 + 1) < 0) := by lia
theorem gq_layRoot_s4 {y0 : Int32} (h0 : ¬ (20000 ≤ y0)) (h1 : ¬ (y0 < 0)) : ¬ ((y0 + 1) < 0) := by lia
theorem gq_layRoot_s5 {y0 : Int32} (h0 : ¬ (20000 ≤ y0)) (h1 : ¬ (y0 < 0)) : ¬ ((y0 + 1) < 0) := by lia
theorem gq_layRoot_s6  : ¬ ((0 : Int32) < 0) := (by decide)
theorem dX12_layRoot_0 : decode cX12_layRoot 0 = .ok (.aload_n 0, 1) := zk_42 (by decide +kernel)
theorem dX12_layRoot_1 : decode cX12_layRoot 1 = .ok (.iconst 0, 1) := zk_3 (by decide +kernel)
theorem dX12_layRoot_2 : decode cX12_layRoot 2 = .ok (.putfield 497, 3) := zk_181 (by decide +kernel)
theorem dX12_layRoot_5 : decode cX12_layRoot 5 = .ok (.aload_n 0, 1) := zk_42 (by decide +kernel)
theorem dX12_layRoot_6 : decode cX12_layRoot 6 = .ok (.iconst (-1), 1) := zk_2 (by decide +kernel)
theorem dX12_layRoot_7 : decode cX12_layRoot 7 = .ok (.putfield 500, 3) := zk_181 (by decide +kernel)
theorem dX12_layRoot_10 : decode cX12_layRoot 10 = .ok (.aload_n 0, 1) := zk_42 (by decide +kernel)
theorem dX12_layRoot_11 : decode cX12_layRoot 11 = .ok (.iconst (-1), 1) := zk_2 (by decide +kernel)
theorem dX12_layRoot_12 : decode cX12_layRoot 12 = .ok (.putfield 503, 3) := zk_181 (by decide +kernel)
theorem dX12_layRoot_15 : decode cX12_layRoot 15 = .ok (.iconst 0, 1) := zk_3 (by decide +kernel)
theorem dX12_layRoot_16 : decode cX12_layRoot 16 = .ok (.istore 4, 2) := zk_54 (by decide +kernel)
theorem dX12_layRoot_18 : decode cX12_layRoot 18 = .ok (.iload 4, 2) := zk_21 (by decide +kernel)
theorem dX12_layRoot_20 : decode cX12_layRoot 20 = .ok (.sipush 20000, 3) := zk_17 (by decide +kernel)
theorem dX12_layRoot_23 : decode cX12_layRoot 23 = .ok (.if_icmp .ge 63, 3) := zk_162 (by decide +kernel)
theorem dX12_layRoot_86 : decode cX12_layRoot 86 = .ok (.return_, 1) := zk_177 (by decide +kernel)
theorem dX12_layRoot_26 : decode cX12_layRoot 26 = .ok (.iload_n 3, 1) := zk_29 (by decide +kernel)
theorem dX12_layRoot_27 : decode cX12_layRoot 27 = .ok (.ifCond .eq 10, 3) := zk_153 (by decide +kernel)
theorem dX12_layRoot_37 : decode cX12_layRoot 37 = .ok (.aload_n 0, 1) := zk_42 (by decide +kernel)
theorem dX12_layRoot_38 : decode cX12_layRoot 38 = .ok (.iload_n 1, 1) := zk_27 (by decide +kernel)
theorem dX12_layRoot_39 : decode cX12_layRoot 39 = .ok (.iload_n 2, 1) := zk_28 (by decide +kernel)
theorem dX12_layRoot_40 : decode cX12_layRoot 40 = .ok (.iload 4, 2) := zk_21 (by decide +kernel)
theorem dX12_layRoot_42 : decode cX12_layRoot 42 = .ok (.invokevirtual 515, 3) := zk_182 (by decide +kernel)
theorem dX12_layRoot_45 : decode cX12_layRoot 45 = .ok (.ifCond .ne 6, 3) := zk_154 (by decide +kernel)
theorem dX12_layRoot_51 : decode cX12_layRoot 51 = .ok (.aload_n 0, 1) := zk_42 (by decide +kernel)
theorem dX12_layRoot_52 : decode cX12_layRoot 52 = .ok (.dup, 1) := zk_89 (by decide +kernel)
theorem dX12_layRoot_53 : decode cX12_layRoot 53 = .ok (.getfield 497, 3) := zk_180 (by decide +kernel)
theorem dX12_layRoot_56 : decode cX12_layRoot 56 = .ok (.iconst 1, 1) := zk_4 (by decide +kernel)
theorem dX12_layRoot_57 : decode cX12_layRoot 57 = .ok (.iadd, 1) := zk_96 (by decide +kernel)
theorem dX12_layRoot_58 : decode cX12_layRoot 58 = .ok (.putfield 497, 3) := zk_181 (by decide +kernel)
theorem dX12_layRoot_61 : decode cX12_layRoot 61 = .ok (.aload_n 0, 1) := zk_42 (by decide +kernel)
theorem dX12_layRoot_62 : decode cX12_layRoot 62 = .ok (.getfield 500, 3) := zk_180 (by decide +kernel)
theorem dX12_layRoot_65 : decode cX12_layRoot 65 = .ok (.ifCond .ge 9, 3) := zk_156 (by decide +kernel)
theorem dX12_layRoot_74 : decode cX12_layRoot 74 = .ok (.aload_n 0, 1) := zk_42 (by decide +kernel)
theorem dX12_layRoot_75 : decode cX12_layRoot 75 = .ok (.iload 4, 2) := zk_21 (by decide +kernel)
theorem dX12_layRoot_77 : decode cX12_layRoot 77 = .ok (.putfield 503, 3) := zk_181 (by decide +kernel)
theorem dX12_layRoot_80 : decode cX12_layRoot 80 = .ok (.iinc 4 1, 3) := zk_132 (by decide +kernel)
theorem dX12_layRoot_83 : decode cX12_layRoot 83 = .ok (.goto (-65), 3) := zk_167 (by decide +kernel)
theorem dX12_layRoot_68 : decode cX12_layRoot 68 = .ok (.aload_n 0, 1) := zk_42 (by decide +kernel)
theorem dX12_layRoot_69 : decode cX12_layRoot 69 = .ok (.iload 4, 2) := zk_21 (by decide +kernel)
theorem dX12_layRoot_71 : decode cX12_layRoot 71 = .ok (.putfield 500, 3) := zk_181 (by decide +kernel)
theorem dX12_layRoot_48 : decode cX12_layRoot 48 = .ok (.goto 32, 3) := zk_167 (by decide +kernel)
theorem dX12_layRoot_30 : decode cX12_layRoot 30 = .ok (.aload_n 0, 1) := zk_42 (by decide +kernel)
theorem dX12_layRoot_31 : decode cX12_layRoot 31 = .ok (.getfield 497, 3) := zk_180 (by decide +kernel)
theorem dX12_layRoot_34 : decode cX12_layRoot 34 = .ok (.ifCond .gt 52, 3) := zk_157 (by decide +kernel)
set_option maxHeartbeats 4000000 in
set_option maxRecDepth 100000 in
theorem gq_layRoot (l : Launch) (dC : Nat → ClassId) (dI : Nat → Nat → Nat) (mq : Nat) (g : Nat → Int32) (gl : Nat → Int64) (rf : Nat → Nat) (ck : Nat → ClassId) (f_can : Nat → Int32) (f_root : Nat → Int32) (f_off : Nat → Int32) (a0 : Int32) (a1 : Int32) (a2 : Int32) (sz : Nat) (hnt0 : ¬ (g 16) < 0) (hnt2 : (g 16) ≤ 12) : Met l yX12_layRoot (Cond.code yX12_layRoot cX12_layRoot 5 none :: wsL_law) ({ frames := 2, cells := 0, slots := 0, locals := 46 }) (va_Pc [.ref mq, .int a0, .int a1, .int a2] (fun U => U.heap.size = sz ∧ va_P (dC, dI) vwCl [(mq, .inr (12, mF g gl rf)), (eA0 (rf 61) (ck 61) 240000 f_can), (eA0 (rf 65) (ck 65) 12 f_root), (eA0 (rf 66) (ck 66) 12 f_off)] U.heap ∧ va_K (dC, dI) vwCl [((ck 61), .boolean), ((ck 65), .int), ((ck 66), .int)] U ∧ va_D (fun _ => True) [(mq, .inr (12, mF g gl rf)), (eA0 (rf 61) (ck 61) 240000 f_can), (eA0 (rf 65) (ck 65) 12 f_root), (eA0 (rf 66) (ck 66) 12 f_off)])) (va_Qv (fun (u : (Int32) × (Int32) × (Int32)) => u = fq_layRoot f_can f_root f_off a0 a1 a2 (g 16)) (fun (u : (Int32) × (Int32) × (Int32)) t => va_P (dC, dI) vwCl [(mq, .inr (12, mF (upd (upd (upd g 62 u.1) 63 u.2.1) 64 u.2.2) gl rf)), (eA0 (rf 61) (ck 61) 240000 f_can), (eA0 (rf 65) (ck 65) 12 f_root), (eA0 (rf 66) (ck 66) 12 f_off)] t.heap ∧ va_K (dC, dI) vwCl [] t ∧ va_D (va_A [(mq, .inr (12, mF g gl rf)), (eA0 (rf 61) (ck 61) 240000 f_can), (eA0 (rf 65) (ck 65) 12 f_root), (eA0 (rf 66) (ck 66) 12 f_off)] sz) [(mq, .inr (12, mF (upd (upd (upd g 62 u.1) 63 u.2.1) 64 u.2.2) gl rf)), (eA0 (rf 61) (ck 61) 240000 f_can), (eA0 (rf 65) (ck 65) 12 f_root), (eA0 (rf 66) (ck 66) 12 f_off)]) (va_A [(mq, .inr (12, mF g gl rf)), (eA0 (rf 61) (ck 61) 240000 f_can), (eA0 (rf 65) (ck 65) 12 f_root), (eA0 (rf 66) (ck 66) 12 f_off)] sz)) 0 0 (va_A [(mq, .inr (12, mF g gl rf)), (eA0 (rf 61) (ck 61) 240000 f_can), (eA0 (rf 65) (ck 65) 12 f_root), (eA0 (rf 66) (ck 66) 12 f_off)] sz) := by
  refine Met.ofW (cc := cX12_layRoot) (maxL := 5) (ret := none) (by decide) rfl ?_
  intro p e s m args below meth c s₁ B hml hv
  obtain ⟨rfl, hsz, hP, hK, hD0⟩ := hv
  have hx := B.exec
  have hb := B.bytes
  have hr := B.returns
  have hts := atoms_spec (ws := Cond.code yX12_layRoot cX12_layRoot 5 none :: wsL_law) B.pre
  have htw : ∀ w ∈ wsL_law, w.before _ s = true := fun w h => hts w (List.mem_cons_of_mem _ h)
  have hown : s.vm.findClass RX12 = some m.cls := findClass_of_methodNamed B.named
  have hlocks := B.notSynchronized
  subst hsz
  have hD := hD0.self (sz := s.heap.size)
  generalize hAe : va_A [(mq, .inr (12, mF g gl rf)), (eA0 (rf 61) (ck 61) 240000 f_can), (eA0 (rf 65) (ck 65) 12 f_root), (eA0 (rf 66) (ck 66) 12 f_off)] s.heap.size = A at hD ⊢
  have hA : ∀ q : Nat, s.heap.size ≤ q → A q := fun q h => by rw [← hAe]; exact Or.inr h
  obtain ⟨H, rH⟩ : ∃ z : Heap, z = s.heap := ⟨_, rfl⟩
  have hS : va_S A s.heap H [] := by rw [rH]; exact va_S.rf
  have hP : va_P (dC, dI) vwCl [(mq, .inr (12, mF g gl rf)), (eA0 (rf 61) (ck 61) 240000 f_can), (eA0 (rf 65) (ck 65) 12 f_root), (eA0 (rf 66) (ck 66) 12 f_off)] H := by rw [rH]; exact hP
  rw [← rH]
  have hl := lv_entry ([.ref mq, .int a0, .int a1, .int a2]) (n := 5) (Nat.le_of_ble_eq_true rfl)
  rw [lg_entry_eq]
  generalize (lg_sl ([.ref mq, .int a0, .int a1, .int a2]) ++ List.replicate (5 - (lg_sl ([.ref mq, .int a0, .int a1, .int a2])).length) Slot.unset).toArray = ls at hl ⊢
  have hl : lv_has ls 5 [(0, .ref mq), (1, .int a0), (2, .int a1), (3, .int a2)] := hl
  refine lv_aload_n hx hb dX12_layRoot_0 rfl (lv_at hl 0 rfl) ?_
  refine lv_iconst (v := 0) hx hb dX12_layRoot_1 (by decide) ?_
  refine va_put (D := (dC, dI)) (ci := 12) (v := .int 0) (ty := tyX12 62) (C := RX12) (T := TX12) (N := 76) hx hb htw inlX12 tyX12 tyX12_ok nmX12 hown hK hP hD hS 0 rfl rfl 62 (by decide) (htw _ (ck_59 _ (List.mem_of_getElem? (i := 0) rfl))) (fun _ h9 => h9) rfl (tyX12_ok 62 (by decide)) rfl rfl (Nat.le_of_ble_eq_true rfl) dX12_layRoot_2 (fun H locs hP hD hS => ?_)
  obtain ⟨hP, hD⟩ := zre [(mq, .inr (12, mF (upd g 62 0) gl rf)), (eA0 (rf 61) (ck 61) 240000 f_can), (eA0 (rf 65) (ck 65) 12 f_root), (eA0 (rf 66) (ck 66) 12 f_off)] hP hD rfl
  refine lv_aload_n hx hb dX12_layRoot_5 rfl (lv_at hl 0 rfl) ?_
  refine lv_iconst (v := (-1)) hx hb dX12_layRoot_6 (by decide) ?_
  refine va_put (D := (dC, dI)) (ci := 12) (v := .int (-1)) (ty := tyX12 63) (C := RX12) (T := TX12) (N := 76) hx hb htw inlX12 tyX12 tyX12_ok nmX12 hown hK hP hD hS 0 rfl rfl 63 (by decide) (htw _ (ck_59 _ (List.mem_of_getElem? (i := 1) rfl))) (fun _ h9 => h9) rfl (tyX12_ok 63 (by decide)) rfl rfl (Nat.le_of_ble_eq_true rfl) dX12_layRoot_7 (fun H locs hP hD hS => ?_)
  have hP : va_P (dC, dI) vwCl [(mq, .inr (12, mF (upd (upd g 62 0) 63 (-1)) gl rf)), (eA0 (rf 61) (ck 61) 240000 f_can), (eA0 (rf 65) (ck 65) 12 f_root), (eA0 (rf 66) (ck 66) 12 f_off)] H := hP
  have hD : va_D A [(mq, .inr (12, mF (upd (upd g 62 0) 63 (-1)) gl rf)), (eA0 (rf 61) (ck 61) 240000 f_can), (eA0 (rf 65) (ck 65) 12 f_root), (eA0 (rf 66) (ck 66) 12 f_off)] := hD
  refine lv_aload_n hx hb dX12_layRoot_10 rfl (lv_at hl 0 rfl) ?_
  refine lv_iconst (v := (-1)) hx hb dX12_layRoot_11 (by decide) ?_
  refine va_put (D := (dC, dI)) (ci := 12) (v := .int (-1)) (ty := tyX12 64) (C := RX12) (T := TX12) (N := 76) hx hb htw inlX12 tyX12 tyX12_ok nmX12 hown hK hP hD hS 0 rfl rfl 64 (by decide) (htw _ (ck_59 _ (List.mem_of_getElem? (i := 2) rfl))) (fun _ h9 => h9) rfl (tyX12_ok 64 (by decide)) rfl rfl (Nat.le_of_ble_eq_true rfl) dX12_layRoot_12 (fun H locs hP hD hS => ?_)
  have hP : va_P (dC, dI) vwCl [(mq, .inr (12, mF (upd (upd (upd g 62 0) 63 (-1)) 64 (-1)) gl rf)), (eA0 (rf 61) (ck 61) 240000 f_can), (eA0 (rf 65) (ck 65) 12 f_root), (eA0 (rf 66) (ck 66) 12 f_off)] H := hP
  have hD : va_D A [(mq, .inr (12, mF (upd (upd (upd g 62 0) 63 (-1)) 64 (-1)) gl rf)), (eA0 (rf 61) (ck 61) 240000 f_can), (eA0 (rf 65) (ck 65) 12 f_root), (eA0 (rf 66) (ck 66) 12 f_off)] := hD
  refine lv_iconst (v := 0) hx hb dX12_layRoot_15 (by decide) ?_
  refine lv_istore (lv' := [(4, .int 0), (0, .ref mq), (1, .int a0), (2, .int a1), (3, .int a2)]) hx hb dX12_layRoot_16 hl (by decide) rfl (fun ls hl => ?_)
  have hloop_1 : ∀ (n : Nat) (L4d : Int32) (m_manyGot_d : Int32) (m_firstGot_d : Int32) (m_lastGot_d : Int32) (h0_d : ¬ L4d < 0) (hf_d : (20000 : Int32).toInt ≤ L4d.toInt + (n : Int)) (hI_d : fq_layRoot f_can f_root f_off a0 a1 a2 (g 16) = fq_layRoot_d f_can f_root f_off a0 a1 a2 (g 16) n L4d m_manyGot_d m_firstGot_d m_lastGot_d) (H : Heap) (locs : List Loc) (ls : Array Slot) (hP : va_P (dC, dI) vwCl [(mq, .inr (12, mF (upd (upd (upd g 62 m_manyGot_d) 63 m_firstGot_d) 64 m_lastGot_d) gl rf)), (eA0 (rf 61) (ck 61) 240000 f_can), (eA0 (rf 65) (ck 65) 12 f_root), (eA0 (rf 66) (ck 66) 12 f_off)] H) (hD : va_D A [(mq, .inr (12, mF (upd (upd (upd g 62 m_manyGot_d) 63 m_firstGot_d) 64 m_lastGot_d) gl rf)), (eA0 (rf 61) (ck 61) 240000 f_can), (eA0 (rf 65) (ck 65) 12 f_root), (eA0 (rf 66) (ck 66) 12 f_off)]) (hS : va_S A s.heap H locs) (hl : lv_has ls 5 [(4, .int L4d), (0, .ref mq), (1, .int a0), (2, .int a1), (3, .int a2)]), W p l e (headSpec (Cond.code yX12_layRoot cX12_layRoot 5 none :: wsL_law) ({ frames := 2, cells := 0, slots := 0, locals := 46 })).room s m ([.ref mq, .int a0, .int a1, .int a2] : List Value).toArray below meth c H locs 0 0 (MQ below (va_Qv (fun (u : (Int32) × (Int32) × (Int32)) => u = fq_layRoot f_can f_root f_off a0 a1 a2 (g 16)) (fun (u : (Int32) × (Int32) × (Int32)) t => va_P (dC, dI) vwCl [(mq, .inr (12, mF (upd (upd (upd g 62 u.1) 63 u.2.1) 64 u.2.2) gl rf)), (eA0 (rf 61) (ck 61) 240000 f_can), (eA0 (rf 65) (ck 65) 12 f_root), (eA0 (rf 66) (ck 66) 12 f_off)] t.heap ∧ va_K (dC, dI) vwCl [] t ∧ va_D A [(mq, .inr (12, mF (upd (upd (upd g 62 u.1) 63 u.2.1) 64 u.2.2) gl rf)), (eA0 (rf 61) (ck 61) 240000 f_can), (eA0 (rf 65) (ck 65) 12 f_root), (eA0 (rf 66) (ck 66) 12 f_off)]) A) ([.ref mq, .int a0, .int a1, .int a2] : List Value).toArray s 0 0 A) (F0 m 18 ls []) := by
    intro n
    induction n with
    | zero =>
      intro L4d m_manyGot_d m_firstGot_d m_lastGot_d h0_d hf_d hI_d H locs ls hP hD hS hl
      refine lv_iload hx hb dX12_layRoot_18 (lv_at hl 0 rfl) ?_
      refine lv_sipush (v := 20000) hx hb dX12_layRoot_20 (by decide) ?_
      refine lv_icmp_ge (tgt := 86) hx hb dX12_layRoot_23 (by decide) (fun c_2 => ?_) (fun c_2 => absurd c_2 (fun h => h (xi_z hf_d)))
      refine W.widen (k := 0) (n := 0) (by omega) (by omega) ?_
      obtain ⟨hP9, hD9⟩ := zsub2 (ws' := [(mq, .inr (12, mF (upd (upd (upd g 62 m_manyGot_d) 63 m_firstGot_d) 64 m_lastGot_d) gl rf)), (eA0 (rf 61) (ck 61) 240000 f_can), (eA0 (rf 65) (ck 65) 12 f_root), (eA0 (rf 66) (ck 66) 12 f_off)]) hP hD [0, 1, 2, 3] (by decide) rfl
      have hK9 := hK.sub (tys' := []) [] rfl
      exact W.vret hx hb hr (fun t ht hW => ⟨⟨(m_manyGot_d, m_firstGot_d, m_lastGot_d), rfl, (Eq.symm (hI_d.trans (by rw [fq_layRoot_d]; try rfl))), by rw [ht]; exact hP9, va_K.moved hW.alike hK9, hD9⟩, hS.F ht⟩) hS.2.2 dX12_layRoot_86
    | succ n ih =>
      intro L4d m_manyGot_d m_firstGot_d m_lastGot_d h0_d hf_d hI_d H locs ls hP hD hS hl
      refine lv_iload hx hb dX12_layRoot_18 (lv_at hl 0 rfl) ?_
      refine lv_sipush (v := 20000) hx hb dX12_layRoot_20 (by decide) ?_
      refine lv_icmp_ge (tgt := 86) hx hb dX12_layRoot_23 (by decide) (fun c_3 => ?_) (fun c_3 => ?_)
      · refine W.widen (k := 0) (n := 0) (by omega) (by omega) ?_
        obtain ⟨hP9, hD9⟩ := zsub2 (ws' := [(mq, .inr (12, mF (upd (upd (upd g 62 m_manyGot_d) 63 m_firstGot_d) 64 m_lastGot_d) gl rf)), (eA0 (rf 61) (ck 61) 240000 f_can), (eA0 (rf 65) (ck 65) 12 f_root), (eA0 (rf 66) (ck 66) 12 f_off)]) hP hD [0, 1, 2, 3] (by decide) rfl
        have hK9 := hK.sub (tys' := []) [] rfl
        exact W.vret hx hb hr (fun t ht hW => ⟨⟨(m_manyGot_d, m_firstGot_d, m_lastGot_d), rfl, (Eq.symm (hI_d.trans (by rw [fq_layRoot_d]; (try rw [if_pos c_3]); try rfl))), by rw [ht]; exact hP9, va_K.moved hW.alike hK9, hD9⟩, hS.F ht⟩) hS.2.2 dX12_layRoot_86
      · refine lv_iload_n hx hb dX12_layRoot_26 rfl (lv_at hl 4 rfl) ?_
        refine lv_if_eq (tgt := 37) hx hb dX12_layRoot_27 (by decide) (fun c_4 => ?_) (fun c_4 => ?_)
        · refine lv_aload_n hx hb dX12_layRoot_37 rfl (lv_at hl 1 rfl) ?_
          refine lv_iload_n hx hb dX12_layRoot_38 rfl (lv_at hl 2 rfl) ?_
          refine lv_iload_n hx hb dX12_layRoot_39 rfl (lv_at hl 3 rfl) ?_
          refine lv_iload hx hb dX12_layRoot_40 (lv_at hl 0 rfl) ?_
          have hPc := hP.sub (ws' := [(mq, .inr (12, mF (upd (upd (upd g 62 m_manyGot_d) 63 m_firstGot_d) 64 m_lastGot_d) gl rf)), (eA0 (rf 61) (ck 61) 240000 f_can), (eA0 (rf 65) (ck 65) 12 f_root), (eA0 (rf 66) (ck 66) 12 f_off)]) [0, 1, 2, 3] rfl
          have hKc := hK.sub (tys' := [((ck 61), .boolean), ((ck 65), .int), ((ck 66), .int)]) [0, 1, 2] rfl
          refine vp_callSi (W.runV (As := [.int a0, .int a1, .int L4d]) (rest := []) ⟨hx, hb, hml, hown, htw⟩ (gq_allCan l dC dI mq (upd (upd (upd g 62 m_manyGot_d) 63 m_firstGot_d) 64 m_lastGot_d) gl rf ck f_can f_root f_off a0 a1 L4d hnt0 hnt2) (cwV 3 htw (xg_V (ck_61 _ (List.mem_of_getElem? (i := 11) rfl)) (ck_61 _ (List.mem_of_getElem? (i := 12) rfl)) (ck_61 _ (List.mem_of_getElem? (i := 13) rfl)) (ck_1 _ (List.mem_of_getElem? (i := 5) rfl)) (ck_61 _ (List.mem_of_getElem? (i := 14) rfl))) rfl rfl rfl (by exact ⟨rfl, hdc_14.1, hdc_14.2, hdd_38⟩) ⟨Nat.le_of_ble_eq_true rfl, Nat.le_of_ble_eq_true rfl⟩) ⟨fun a U g mk q => by obtain ⟨q0, qP, qK⟩ := q; exact ⟨q0, qP, va_K.moved (u := U) (U := U.calling g mk a) (Vm.Alike.refl U.vm) qK⟩, va_recv hKc hPc (ci := 12) (q0 := 0) rfl rfl, fun U hU hW => ⟨rfl, by rw [hU]; exact hPc, va_K.moved hW.alike hKc⟩⟩ rfl rfl hl.1 rfl (lv_room (Nat.le_of_ble_eq_true rfl)) dX12_layRoot_42 ⟨Nat.le_of_ble_eq_true rfl, Nat.le_of_ble_eq_true rfl⟩) (fun r_5 hw => ?_)
          try dsimp only at hw
          obtain ⟨hw, hb_r_5⟩ := hw
          have hq_r_5 : r_5 = (fq_allCan f_can f_root f_off a0 a1 L4d (g 16)) := hw
          refine lv_if_ne (tgt := 51) hx hb dX12_layRoot_45 (by decide) (fun c_6 => ?_) (fun c_6 => ?_)
          · refine lv_aload_n hx hb dX12_layRoot_51 rfl (lv_at hl 1 rfl) ?_
            refine lv_dup hx hb dX12_layRoot_52 rfl ?_
            refine va_get (D := (dC, dI)) (ci := 12) (v := .int m_manyGot_d) (C := RX12) (T := TX12) (N := 76) hx hb htw inlX12 hown hK hP 0 rfl rfl 62 (by decide) (htw _ (ck_59 _ (List.mem_of_getElem? (i := 0) rfl))) (fun _ h9 => h9) rfl dX12_layRoot_53 ?_
            refine lv_iconst (v := 1) hx hb dX12_layRoot_56 (by decide) ?_
            refine lv_iadd hx hb dX12_layRoot_57 ?_
            refine va_put (D := (dC, dI)) (ci := 12) (v := .int (m_manyGot_d + 1)) (ty := tyX12 62) (C := RX12) (T := TX12) (N := 76) hx hb htw inlX12 tyX12 tyX12_ok nmX12 hown hK hP hD hS 0 rfl rfl 62 (by decide) (htw _ (ck_59 _ (List.mem_of_getElem? (i := 0) rfl))) (fun _ h9 => h9) rfl (tyX12_ok 62 (by decide)) rfl rfl (Nat.le_of_ble_eq_true rfl) dX12_layRoot_58 (fun H locs hP hD hS => ?_)
            have hP : va_P (dC, dI) vwCl [(mq, .inr (12, mF (upd (upd (upd g 62 (m_manyGot_d + 1)) 63 m_firstGot_d) 64 m_lastGot_d) gl rf)), (eA0 (rf 61) (ck 61) 240000 f_can), (eA0 (rf 65) (ck 65) 12 f_root), (eA0 (rf 66) (ck 66) 12 f_off)] H := hP
            have hD : va_D A [(mq, .inr (12, mF (upd (upd (upd g 62 (m_manyGot_d + 1)) 63 m_firstGot_d) 64 m_lastGot_d) gl rf)), (eA0 (rf 61) (ck 61) 240000 f_can), (eA0 (rf 65) (ck 65) 12 f_root), (eA0 (rf 66) (ck 66) 12 f_off)] := hD
            refine lv_aload_n hx hb dX12_layRoot_61 rfl (lv_at hl 1 rfl) ?_
            refine va_get (D := (dC, dI)) (ci := 12) (v := .int m_firstGot_d) (C := RX12) (T := TX12) (N := 76) hx hb htw inlX12 hown hK hP 0 rfl rfl 63 (by decide) (htw _ (ck_59 _ (List.mem_of_getElem? (i := 1) rfl))) (fun _ h9 => h9) rfl dX12_layRoot_62 ?_
            refine lv_if_ge (tgt := 74) hx hb dX12_layRoot_65 (by decide) (fun c_7 => ?_) (fun c_7 => ?_)
            · refine lv_aload_n hx hb dX12_layRoot_74 rfl (lv_at hl 1 rfl) ?_
              refine lv_iload hx hb dX12_layRoot_75 (lv_at hl 0 rfl) ?_
              refine va_put (D := (dC, dI)) (ci := 12) (v := .int L4d) (ty := tyX12 64) (C := RX12) (T := TX12) (N := 76) hx hb htw inlX12 tyX12 tyX12_ok nmX12 hown hK hP hD hS 0 rfl rfl 64 (by decide) (htw _ (ck_59 _ (List.mem_of_getElem? (i := 2) rfl))) (fun _ h9 => h9) rfl (tyX12_ok 64 (by decide)) rfl rfl (Nat.le_of_ble_eq_true rfl) dX12_layRoot_77 (fun H locs hP hD hS => ?_)
              have hP : va_P (dC, dI) vwCl [(mq, .inr (12, mF (upd (upd (upd g 62 (m_manyGot_d + 1)) 63 m_firstGot_d) 64 L4d) gl rf)), (eA0 (rf 61) (ck 61) 240000 f_can), (eA0 (rf 65) (ck 65) 12 f_root), (eA0 (rf 66) (ck 66) 12 f_off)] H := hP
              have hD : va_D A [(mq, .inr (12, mF (upd (upd (upd g 62 (m_manyGot_d + 1)) 63 m_firstGot_d) 64 L4d) gl rf)), (eA0 (rf 61) (ck 61) 240000 f_can), (eA0 (rf 65) (ck 65) 12 f_root), (eA0 (rf 66) (ck 66) 12 f_off)] := hD
              refine lv_iinc (v := (L4d + 1)) (lv' := [(4, .int (L4d + 1)), (0, .ref mq), (1, .int a0), (2, .int a1), (3, .int a2)]) hx hb dX12_layRoot_80 hl (k := 0) rfl (rfl) (by decide) rfl (fun ls hl => ?_)
              refine lv_goto (tgt := 18) hx hb dX12_layRoot_83 (by decide) ?_
              exact ih (L4d + 1) (m_manyGot_d + 1) m_firstGot_d L4d (gq_layRoot_s0 (y0 := L4d) c_3 h0_d) (by rw [xi_s' c_3]; omega) (hI_d.trans (by rw [fq_layRoot_d]; (try rw [if_neg c_3]); (try rw [if_pos c_4]); (try rw [← hq_r_5]); (try rw [xL_eq]); (try rw [if_neg c_6]); (try rw [if_pos c_7]); try rfl)) H locs ls hP hD hS (lv_sub hl [0, 1, 2, 3, 4] rfl)
            · refine lv_aload_n hx hb dX12_layRoot_68 rfl (lv_at hl 1 rfl) ?_
              refine lv_iload hx hb dX12_layRoot_69 (lv_at hl 0 rfl) ?_
              refine va_put (D := (dC, dI)) (ci := 12) (v := .int L4d) (ty := tyX12 63) (C := RX12) (T := TX12) (N := 76) hx hb htw inlX12 tyX12 tyX12_ok nmX12 hown hK hP hD hS 0 rfl rfl 63 (by decide) (htw _ (ck_59 _ (List.mem_of_getElem? (i := 1) rfl))) (fun _ h9 => h9) rfl (tyX12_ok 63 (by decide)) rfl rfl (Nat.le_of_ble_eq_true rfl) dX12_layRoot_71 (fun H locs hP hD hS => ?_)
              have hP : va_P (dC, dI) vwCl [(mq, .inr (12, mF (upd (upd (upd g 62 (m_manyGot_d + 1)) 63 L4d) 64 m_lastGot_d) gl rf)), (eA0 (rf 61) (ck 61) 240000 f_can), (eA0 (rf 65) (ck 65) 12 f_root), (eA0 (rf 66) (ck 66) 12 f_off)] H := hP
              have hD : va_D A [(mq, .inr (12, mF (upd (upd (upd g 62 (m_manyGot_d + 1)) 63 L4d) 64 m_lastGot_d) gl rf)), (eA0 (rf 61) (ck 61) 240000 f_can), (eA0 (rf 65) (ck 65) 12 f_root), (eA0 (rf 66) (ck 66) 12 f_off)] := hD
              refine lv_aload_n hx hb dX12_layRoot_74 rfl (lv_at hl 1 rfl) ?_
              refine lv_iload hx hb dX12_layRoot_75 (lv_at hl 0 rfl) ?_
              refine va_put (D := (dC, dI)) (ci := 12) (v := .int L4d) (ty := tyX12 64) (C := RX12) (T := TX12) (N := 76) hx hb htw inlX12 tyX12 tyX12_ok nmX12 hown hK hP hD hS 0 rfl rfl 64 (by decide) (htw _ (ck_59 _ (List.mem_of_getElem? (i := 2) rfl))) (fun _ h9 => h9) rfl (tyX12_ok 64 (by decide)) rfl rfl (Nat.le_of_ble_eq_true rfl) dX12_layRoot_77 (fun H locs hP hD hS => ?_)
              have hP : va_P (dC, dI) vwCl [(mq, .inr (12, mF (upd (upd (upd g 62 (m_manyGot_d + 1)) 63 L4d) 64 L4d) gl rf)), (eA0 (rf 61) (ck 61) 240000 f_can), (eA0 (rf 65) (ck 65) 12 f_root), (eA0 (rf 66) (ck 66) 12 f_off)] H := hP
              have hD : va_D A [(mq, .inr (12, mF (upd (upd (upd g 62 (m_manyGot_d + 1)) 63 L4d) 64 L4d) gl rf)), (eA0 (rf 61) (ck 61) 240000 f_can), (eA0 (rf 65) (ck 65) 12 f_root), (eA0 (rf 66) (ck 66) 12 f_off)] := hD
              refine lv_iinc (v := (L4d + 1)) (lv' := [(4, .int (L4d + 1)), (0, .ref mq), (1, .int a0), (2, .int a1), (3, .int a2)]) hx hb dX12_layRoot_80 hl (k := 0) rfl (rfl) (by decide) rfl (fun ls hl => ?_)
              refine lv_goto (tgt := 18) hx hb dX12_layRoot_83 (by decide) ?_
              exact ih (L4d + 1) (m_manyGot_d + 1) L4d L4d (gq_layRoot_s1 (y0 := L4d) c_3 h0_d) (by rw [xi_s' c_3]; omega) (hI_d.trans (by rw [fq_layRoot_d]; (try rw [if_neg c_3]); (try rw [if_pos c_4]); (try rw [← hq_r_5]); (try rw [xL_eq]); (try rw [if_neg c_6]); (try rw [if_neg c_7]); try rfl)) H locs ls hP hD hS (lv_sub hl [0, 1, 2, 3, 4] rfl)
          · refine lv_goto (tgt := 80) hx hb dX12_layRoot_48 (by decide) ?_
            refine lv_iinc (v := (L4d + 1)) (lv' := [(4, .int (L4d + 1)), (0, .ref mq), (1, .int a0), (2, .int a1), (3, .int a2)]) hx hb dX12_layRoot_80 hl (k := 0) rfl (rfl) (by decide) rfl (fun ls hl => ?_)
            refine lv_goto (tgt := 18) hx hb dX12_layRoot_83 (by decide) ?_
            exact ih (L4d + 1) m_manyGot_d m_firstGot_d m_lastGot_d (gq_layRoot_s2 (y0 := L4d) c_3 h0_d) (by rw [xi_s' c_3]; omega) (hI_d.trans (by rw [fq_layRoot_d]; (try rw [if_neg c_3]); (try rw [if_pos c_4]); (try rw [← hq_r_5]); (try rw [xL_eq]); (try rw [if_pos c_6]); try rfl)) H locs ls hP hD hS (lv_sub hl [0, 1, 2, 3, 4] rfl)
        · refine lv_aload_n hx hb dX12_layRoot_30 rfl (lv_at hl 1 rfl) ?_
          refine va_get (D := (dC, dI)) (ci := 12) (v := .int m_manyGot_d) (C := RX12) (T := TX12) (N := 76) hx hb htw inlX12 hown hK hP 0 rfl rfl 62 (by decide) (htw _ (ck_59 _ (List.mem_of_getElem? (i := 0) rfl))) (fun _ h9 => h9) rfl dX12_layRoot_31 ?_
          refine lv_if_gt (tgt := 86) hx hb dX12_layRoot_34 (by decide) (fun c_8 => ?_) (fun c_8 => ?_)
          · refine W.widen (k := 0) (n := 0) (by omega) (by omega) ?_
            obtain ⟨hP9, hD9⟩ := zsub2 (ws' := [(mq, .inr (12, mF (upd (upd (upd g 62 m_manyGot_d) 63 m_firstGot_d) 64 m_lastGot_d) gl rf)), (eA0 (rf 61) (ck 61) 240000 f_can), (eA0 (rf 65) (ck 65) 12 f_root), (eA0 (rf 66) (ck 66) 12 f_off)]) hP hD [0, 1, 2, 3] (by decide) rfl
            have hK9 := hK.sub (tys' := []) [] rfl
            exact W.vret hx hb hr (fun t ht hW => ⟨⟨(m_manyGot_d, m_firstGot_d, m_lastGot_d), rfl, (Eq.symm (hI_d.trans (by rw [fq_layRoot_d]; (try rw [if_neg c_3]); (try rw [if_neg c_4]); (try rw [if_pos c_8]); try rfl))), by rw [ht]; exact hP9, va_K.moved hW.alike hK9, hD9⟩, hS.F ht⟩) hS.2.2 dX12_layRoot_86
          · refine lv_aload_n hx hb dX12_layRoot_37 rfl (lv_at hl 1 rfl) ?_
            refine lv_iload_n hx hb dX12_layRoot_38 rfl (lv_at hl 2 rfl) ?_
            refine lv_iload_n hx hb dX12_layRoot_39 rfl (lv_at hl 3 rfl) ?_
            refine lv_iload hx hb dX12_layRoot_40 (lv_at hl 0 rfl) ?_
            have hPc := hP.sub (ws' := [(mq, .inr (12, mF (upd (upd (upd g 62 m_manyGot_d) 63 m_firstGot_d) 64 m_lastGot_d) gl rf)), (eA0 (rf 61) (ck 61) 240000 f_can), (eA0 (rf 65) (ck 65) 12 f_root), (eA0 (rf 66) (ck 66) 12 f_off)]) [0, 1, 2, 3] rfl
            have hKc := hK.sub (tys' := [((ck 61), .boolean), ((ck 65), .int), ((ck 66), .int)]) [0, 1, 2] rfl
            refine vp_callSi (W.runV (As := [.int a0, .int a1, .int L4d]) (rest := []) ⟨hx, hb, hml, hown, htw⟩ (gq_allCan l dC dI mq (upd (upd (upd g 62 m_manyGot_d) 63 m_firstGot_d) 64 m_lastGot_d) gl rf ck f_can f_root f_off a0 a1 L4d hnt0 hnt2) (cwV 3 htw (xg_V (ck_61 _ (List.mem_of_getElem? (i := 11) rfl)) (ck_61 _ (List.mem_of_getElem? (i := 12) rfl)) (ck_61 _ (List.mem_of_getElem? (i := 13) rfl)) (ck_1 _ (List.mem_of_getElem? (i := 5) rfl)) (ck_61 _ (List.mem_of_getElem? (i := 14) rfl))) rfl rfl rfl (by exact ⟨rfl, hdc_14.1, hdc_14.2, hdd_38⟩) ⟨Nat.le_of_ble_eq_true rfl, Nat.le_of_ble_eq_true rfl⟩) ⟨fun a U g mk q => by obtain ⟨q0, qP, qK⟩ := q; exact ⟨q0, qP, va_K.moved (u := U) (U := U.calling g mk a) (Vm.Alike.refl U.vm) qK⟩, va_recv hKc hPc (ci := 12) (q0 := 0) rfl rfl, fun U hU hW => ⟨rfl, by rw [hU]; exact hPc, va_K.moved hW.alike hKc⟩⟩ rfl rfl hl.1 rfl (lv_room (Nat.le_of_ble_eq_true rfl)) dX12_layRoot_42 ⟨Nat.le_of_ble_eq_true rfl, Nat.le_of_ble_eq_true rfl⟩) (fun r_9 hw => ?_)
            try dsimp only at hw
            obtain ⟨hw, hb_r_9⟩ := hw
            have hq_r_9 : r_9 = (fq_allCan f_can f_root f_off a0 a1 L4d (g 16)) := hw
            refine lv_if_ne (tgt := 51) hx hb dX12_layRoot_45 (by decide) (fun c_10 => ?_) (fun c_10 => ?_)
            · refine lv_aload_n hx hb dX12_layRoot_51 rfl (lv_at hl 1 rfl) ?_
              refine lv_dup hx hb dX12_layRoot_52 rfl ?_
              refine va_get (D := (dC, dI)) (ci := 12) (v := .int m_manyGot_d) (C := RX12) (T := TX12) (N := 76) hx hb htw inlX12 hown hK hP 0 rfl rfl 62 (by decide) (htw _ (ck_59 _ (List.mem_of_getElem? (i := 0) rfl))) (fun _ h9 => h9) rfl dX12_layRoot_53 ?_
              refine lv_iconst (v := 1) hx hb dX12_layRoot_56 (by decide) ?_
              refine lv_iadd hx hb dX12_layRoot_57 ?_
              refine va_put (D := (dC, dI)) (ci := 12) (v := .int (m_manyGot_d + 1)) (ty := tyX12 62) (C := RX12) (T := TX12) (N := 76) hx hb htw inlX12 tyX12 tyX12_ok nmX12 hown hK hP hD hS 0 rfl rfl 62 (by decide) (htw _ (ck_59 _ (List.mem_of_getElem? (i := 0) rfl))) (fun _ h9 => h9) rfl (tyX12_ok 62 (by decide)) rfl rfl (Nat.le_of_ble_eq_true rfl) dX12_layRoot_58 (fun H locs hP hD hS => ?_)
              have hP : va_P (dC, dI) vwCl [(mq, .inr (12, mF (upd (upd (upd g 62 (m_manyGot_d + 1)) 63 m_firstGot_d) 64 m_lastGot_d) gl rf)), (eA0 (rf 61) (ck 61) 240000 f_can), (eA0 (rf 65) (ck 65) 12 f_root), (eA0 (rf 66) (ck 66) 12 f_off)] H := hP
              have hD : va_D A [(mq, .inr (12, mF (upd (upd (upd g 62 (m_manyGot_d + 1)) 63 m_firstGot_d) 64 m_lastGot_d) gl rf)), (eA0 (rf 61) (ck 61) 240000 f_can), (eA0 (rf 65) (ck 65) 12 f_root), (eA0 (rf 66) (ck 66) 12 f_off)] := hD
              refine lv_aload_n hx hb dX12_layRoot_61 rfl (lv_at hl 1 rfl) ?_
              refine va_get (D := (dC, dI)) (ci := 12) (v := .int m_firstGot_d) (C := RX12) (T := TX12) (N := 76) hx hb htw inlX12 hown hK hP 0 rfl rfl 63 (by decide) (htw _ (ck_59 _ (List.mem_of_getElem? (i := 1) rfl))) (fun _ h9 => h9) rfl dX12_layRoot_62 ?_
              refine lv_if_ge (tgt := 74) hx hb dX12_layRoot_65 (by decide) (fun c_11 => ?_) (fun c_11 => ?_)
              · refine lv_aload_n hx hb dX12_layRoot_74 rfl (lv_at hl 1 rfl) ?_
                refine lv_iload hx hb dX12_layRoot_75 (lv_at hl 0 rfl) ?_
                refine va_put (D := (dC, dI)) (ci := 12) (v := .int L4d) (ty := tyX12 64) (C := RX12) (T := TX12) (N := 76) hx hb htw inlX12 tyX12 tyX12_ok nmX12 hown hK hP hD hS 0 rfl rfl 64 (by decide) (htw _ (ck_59 _ (List.mem_of_getElem? (i := 2) rfl))) (fun _ h9 => h9) rfl (tyX12_ok 64 (by decide)) rfl rfl (Nat.le_of_ble_eq_true rfl) dX12_layRoot_77 (fun H locs hP hD hS => ?_)
                have hP : va_P (dC, dI) vwCl [(mq, .inr (12, mF (upd (upd (upd g 62 (m_manyGot_d + 1)) 63 m_firstGot_d) 64 L4d) gl rf)), (eA0 (rf 61) (ck 61) 240000 f_can), (eA0 (rf 65) (ck 65) 12 f_root), (eA0 (rf 66) (ck 66) 12 f_off)] H := hP
                have hD : va_D A [(mq, .inr (12, mF (upd (upd (upd g 62 (m_manyGot_d + 1)) 63 m_firstGot_d) 64 L4d) gl rf)), (eA0 (rf 61) (ck 61) 240000 f_can), (eA0 (rf 65) (ck 65) 12 f_root), (eA0 (rf 66) (ck 66) 12 f_off)] := hD
                refine lv_iinc (v := (L4d + 1)) (lv' := [(4, .int (L4d + 1)), (0, .ref mq), (1, .int a0), (2, .int a1), (3, .int a2)]) hx hb dX12_layRoot_80 hl (k := 0) rfl (rfl) (by decide) rfl (fun ls hl => ?_)
                refine lv_goto (tgt := 18) hx hb dX12_layRoot_83 (by decide) ?_
                exact ih (L4d + 1) (m_manyGot_d + 1) m_firstGot_d L4d (gq_layRoot_s3 (y0 := L4d) c_3 h0_d) (by rw [xi_s' c_3]; omega) (hI_d.trans (by rw [fq_layRoot_d]; (try rw [if_neg c_3]); (try rw [if_neg c_4]); (try rw [if_neg c_8]); (try rw [← hq_r_9]); (try rw [xL_eq]); (try rw [if_neg c_10]); (try rw [if_pos c_11]); try rfl)) H locs ls hP hD hS (lv_sub hl [0, 1, 2, 3, 4] rfl)
              · refine lv_aload_n hx hb dX12_layRoot_68 rfl (lv_at hl 1 rfl) ?_
                refine lv_iload hx hb dX12_layRoot_69 (lv_at hl 0 rfl) ?_
                refine va_put (D := (dC, dI)) (ci := 12) (v := .int L4d) (ty := tyX12 63) (C := RX12) (T := TX12) (N := 76) hx hb htw inlX12 tyX12 tyX12_ok nmX12 hown hK hP hD hS 0 rfl rfl 63 (by decide) (htw _ (ck_59 _ (List.mem_of_getElem? (i := 1) rfl))) (fun _ h9 => h9) rfl (tyX12_ok 63 (by decide)) rfl rfl (Nat.le_of_ble_eq_true rfl) dX12_layRoot_71 (fun H locs hP hD hS => ?_)
                have hP : va_P (dC, dI) vwCl [(mq, .inr (12, mF (upd (upd (upd g 62 (m_manyGot_d + 1)) 63 L4d) 64 m_lastGot_d) gl rf)), (eA0 (rf 61) (ck 61) 240000 f_can), (eA0 (rf 65) (ck 65) 12 f_root), (eA0 (rf 66) (ck 66) 12 f_off)] H := hP
                have hD : va_D A [(mq, .inr (12, mF (upd (upd (upd g 62 (m_manyGot_d + 1)) 63 L4d) 64 m_lastGot_d) gl rf)), (eA0 (rf 61) (ck 61) 240000 f_can), (eA0 (rf 65) (ck 65) 12 f_root), (eA0 (rf 66) (ck 66) 12 f_off)] := hD
                refine lv_aload_n hx hb dX12_layRoot_74 rfl (lv_at hl 1 rfl) ?_
                refine lv_iload hx hb dX12_layRoot_75 (lv_at hl 0 rfl) ?_
                refine va_put (D := (dC, dI)) (ci := 12) (v := .int L4d) (ty := tyX12 64) (C := RX12) (T := TX12) (N := 76) hx hb htw inlX12 tyX12 tyX12_ok nmX12 hown hK hP hD hS 0 rfl rfl 64 (by decide) (htw _ (ck_59 _ (List.mem_of_getElem? (i := 2) rfl))) (fun _ h9 => h9) rfl (tyX12_ok 64 (by decide)) rfl rfl (Nat.le_of_ble_eq_true rfl) dX12_layRoot_77 (fun H locs hP hD hS => ?_)
                have hP : va_P (dC, dI) vwCl [(mq, .inr (12, mF (upd (upd (upd g 62 (m_manyGot_d + 1)) 63 L4d) 64 L4d) gl rf)), (eA0 (rf 61) (ck 61) 240000 f_can), (eA0 (rf 65) (ck 65) 12 f_root), (eA0 (rf 66) (ck 66) 12 f_off)] H := hP
                have hD : va_D A [(mq, .inr (12, mF (upd (upd (upd g 62 (m_manyGot_d + 1)) 63 L4d) 64 L4d) gl rf)), (eA0 (rf 61) (ck 61) 240000 f_can), (eA0 (rf 65) (ck 65) 12 f_root), (eA0 (rf 66) (ck 66) 12 f_off)] := hD
                refine lv_iinc (v := (L4d + 1)) (lv' := [(4, .int (L4d + 1)), (0, .ref mq), (1, .int a0), (2, .int a1), (3, .int a2)]) hx hb dX12_layRoot_80 hl (k := 0) rfl (rfl) (by decide) rfl (fun ls hl => ?_)
                refine lv_goto (tgt := 18) hx hb dX12_layRoot_83 (by decide) ?_
                exact ih (L4d + 1) (m_manyGot_d + 1) L4d L4d (gq_layRoot_s4 (y0 := L4d) c_3 h0_d) (by rw [xi_s' c_3]; omega) (hI_d.trans (by rw [fq_layRoot_d]; (try rw [if_neg c_3]); (try rw [if_neg c_4]); (try rw [if_neg c_8]); (try rw [← hq_r_9]); (try rw [xL_eq]); (try rw [if_neg c_10]); (try rw [if_neg c_11]); try rfl)) H locs ls hP hD hS (lv_sub hl [0, 1, 2, 3, 4] rfl)
            · refine lv_goto (tgt := 80) hx hb dX12_layRoot_48 (by decide) ?_
              refine lv_iinc (v := (L4d + 1)) (lv' := [(4, .int (L4d + 1)), (0, .ref mq), (1, .int a0), (2, .int a1), (3, .int a2)]) hx hb dX12_layRoot_80 hl (k := 0) rfl (rfl) (by decide) rfl (fun ls hl => ?_)
              refine lv_goto (tgt := 18) hx hb dX12_layRoot_83 (by decide) ?_
              exact ih (L4d + 1) m_manyGot_d m_firstGot_d m_lastGot_d (gq_layRoot_s5 (y0 := L4d) c_3 h0_d) (by rw [xi_s' c_3]; omega) (hI_d.trans (by rw [fq_layRoot_d]; (try rw [if_neg c_3]); (try rw [if_neg c_4]); (try rw [if_neg c_8]); (try rw [← hq_r_9]); (try rw [xL_eq]); (try rw [if_pos c_10]); try rfl)) H locs ls hP hD hS (lv_sub hl [0, 1, 2, 3, 4] rfl)
  exact hloop_1 20000 (0 : Int32) (0 : Int32) (-1 : Int32) (-1 : Int32) (gq_layRoot_s6 ) (by decide) ((by rw [fq_layRoot])) _ _ ls hP hD hS (lv_sub hl [0, 1, 2, 3, 4] rfl)
