def fq_layAllCan_d (f_sky : Nat → Int32) (f_landHas : Nat → Int32) (f_first : Nat → Int32) (f_last : Nat → Int32) (f_born : Nat → Int64) (f_died : Nat → Int64) (f_noteHas : Nat → Int32) (f_knot : Nat → Int32) (f_part : Nat → Int32) (f_other : Nat → Int32) (m_lands : Int32) (m_notes : Int32) : Nat → (Int32) → (Int64) → (Int64) → (Int32) → (Nat → Int64) → (Nat → Int64) → (Nat → Int32) → (Int64) × (Int64) × (Int32) × (Nat → Int64) × (Nat → Int64) × (Nat → Int32)
  | 0, L1d, m_gotYear_d, m_gotDay_d, m_isError_d, f_names_d, f_value_d, f_can_d => (m_gotYear_d, m_gotDay_d, m_isError_d, f_names_d, f_value_d, f_can_d)
  | n + 1, L1d, m_gotYear_d, m_gotDay_d, m_isError_d, f_names_d, f_value_d, f_can_d => (if m_notes ≤ L1d then (m_gotYear_d, m_gotDay_d, m_isError_d, f_names_d, f_value_d, f_can_d) else (xL ((fq_layCan f_sky f_landHas f_first f_last f_born f_died f_noteHas f_knot f_part f_other f_names_d f_value_d f_can_d L1d m_lands m_gotYear_d m_gotDay_d m_isError_d)) (fun u_5 => fq_layAllCan_d f_sky f_landHas f_first f_last f_born f_died f_noteHas f_knot f_part f_other m_lands m_notes n (L1d + 1) u_5.1 u_5.2.1 u_5.2.2.1 u_5.2.2.2.1 u_5.2.2.2.2.1 u_5.2.2.2.2.2)))
def fq_layAllCan (f_sky : Nat → Int32) (f_landHas : Nat → Int32) (f_first : Nat → Int32) (f_last : Nat → Int32) (f_born : Nat → Int64) (f_died : Nat → Int64) (f_noteHas : Nat → Int32) (f_knot : Nat → Int32) (f_part : Nat → Int32) (f_other : Nat → Int32) (f_names : Nat → Int64) (f_value : Nat → Int64) (f_can : Nat → Int32) (m_lands : Int32) (m_notes : Int32) (m_gotYear : Int64) (m_gotDay : Int64) (m_isError : Int32) : (Int64) × (Int64) × (Int32) × (Nat → Int64) × (Nat → Int64) × (Nat → Int32) := fq_layAllCan_d f_sky f_landHas f_first f_last f_born f_died f_noteHas f_knot f_part f_other m_lands m_notes 12 (0 : Int32) m_gotYear m_gotDay m_isError f_names f_value f_can
theorem gq_layAllCan_s0 {y0 : Int32} {y1 : Int32} (h0 : ¬ (y1 ≤ y0)) (h1 : ¬ (y0 < 0)) (h2 : ¬ (y1 < 0)) (h3 : y1 ≤ 12) : ¬ (y0 < 0) := h1
theorem gq_layAllCan_s1 {y0 : Int32} {y1 : Int32} (h0 : ¬ (y1 ≤ y0)) (h1 : ¬ (y0 < 0)) (h2 : ¬ (y1 < 0)) (h3 : y1 ≤ 12) : y0 ≤ 11 := by lia
theorem gq_layAllCan_s2 {y0 : Int32} {y1 : Int32} (h0 : ¬ (y1 ≤ y0)) (h1 : ¬ (y0 < 0)) (h2 : ¬ (y1 < 0)) (h3 : y1 ≤ 12) : ¬ (y0 < 0) ∧ y0 < y1 := by lia
theorem gq_layAllCan_s3 {y0 : Int32} {y1 : Int32} (h0 : ¬ (y1 ≤ y0)) (h1 : ¬ (y0 < 0)) (h2 : ¬ (y1 < 0)) (h3 : y1 ≤ 12) : ¬ (y0 < 0) ∧ y0 < y1 := gq_layAllCan_s2 h0 h1 h2 h3
theorem gq_layAllCan_s4 {y0 : Int32} {y1 : Int32} (h0 : ¬ (y1 ≤ y0)) (h1 : ¬ (y0 < 0)) (h2 : ¬ (y1 < 0)) (h3 : y1 ≤ 12) : ¬ ((y0 + 1) < 0) := by lia
theorem gq_layAllCan_s5  : ¬ ((0 : Int32) < 0) := (by decide)
theorem dX12_layAllCan_0 : decode cX12_layAllCan 0 = .ok (.iconst 0, 1) := zk_3 (by decide +kernel)
theorem dX12_layAllCan_1 : decode cX12_layAllCan 1 = .ok (.istore_n 1, 1) := zk_60 (by decide +kernel)
theorem dX12_layAllCan_2 : decode cX12_layAllCan 2 = .ok (.iload_n 1, 1) := zk_27 (by decide +kernel)
theorem dX12_layAllCan_3 : decode cX12_layAllCan 3 = .ok (.aload_n 0, 1) := zk_42 (by decide +kernel)
theorem dX12_layAllCan_4 : decode cX12_layAllCan 4 = .ok (.getfield 229, 3) := zk_180 (by decide +kernel)
theorem dX12_layAllCan_7 : decode cX12_layAllCan 7 = .ok (.if_icmp .ge 14, 3) := zk_162 (by decide +kernel)
theorem dX12_layAllCan_21 : decode cX12_layAllCan 21 = .ok (.return_, 1) := zk_177 (by decide +kernel)
theorem dX12_layAllCan_10 : decode cX12_layAllCan 10 = .ok (.aload_n 0, 1) := zk_42 (by decide +kernel)
theorem dX12_layAllCan_11 : decode cX12_layAllCan 11 = .ok (.iload_n 1, 1) := zk_27 (by decide +kernel)
theorem dX12_layAllCan_12 : decode cX12_layAllCan 12 = .ok (.invokevirtual 509, 3) := zk_182 (by decide +kernel)
theorem dX12_layAllCan_15 : decode cX12_layAllCan 15 = .ok (.iinc 1 1, 3) := zk_132 (by decide +kernel)
theorem dX12_layAllCan_18 : decode cX12_layAllCan 18 = .ok (.goto (-16), 3) := zk_167 (by decide +kernel)
set_option maxHeartbeats 4000000 in
set_option maxRecDepth 100000 in
theorem gq_layAllCan (l : Launch) (dC : Nat → ClassId) (dI : Nat → Nat → Nat) (mq : Nat) (g : Nat → Int32) (gl : Nat → Int64) (rf : Nat → Nat) (ck : Nat → ClassId) (f_sky : Nat → Int32) (f_landHas : Nat → Int32) (f_first : Nat → Int32) (f_last : Nat → Int32) (f_born : Nat → Int64) (f_died : Nat → Int64) (f_noteHas : Nat → Int32) (f_knot : Nat → Int32) (f_part : Nat → Int32) (f_other : Nat → Int32) (f_names : Nat → Int64) (f_value : Nat → Int64) (f_can : Nat → Int32) (sz : Nat) (hnt0 : ¬ (g 16) < 0) (hnt2 : (g 16) ≤ 12) (hfe0 : ¬ (g 13) < 0) (hfe4 : (g 13) ≤ 4) (hFA : ∀ k : Int32, ¬ k < 0 → k < (g 13) → ¬ (f_first k.toNatClampNeg) < 0 ∧ (f_last k.toNatClampNeg) ≤ 64 ∧ ¬ (f_last k.toNatClampNeg) < 1) (hKA : ∀ k : Nat, k < 64 → xKV f_knot f_part f_other k) (hln0 : ¬ (g 12) < 0) (hln4 : (g 12) ≤ 4) (hLZ : ∀ k : Int32, ¬ k < 0 → k < (g 12) → ¬ (f_landHas ((3 * k).toNatClampNeg)) = 0) (hs0 : ¬ (f_sky 0) < 1) (hs2 : ¬ (f_sky 2) < 1) (hs5 : ¬ (f_sky 5) < 1) (hp0 : ¬ (g 14) < 0) (hp6 : (g 14) ≤ 6) (hNA : ∀ k : Int32, ¬ k < 0 → k < (g 16) → (¬ fq_isOf (f_noteHas ((11 * k).toNatClampNeg)) 5 = 0 → ¬ (f_noteHas (((11 * k) + 7).toNatClampNeg)) < 0 ∧ (f_noteHas (((11 * k) + 7).toNatClampNeg)) < (g 14)) ∧ (¬ fq_isOf (f_noteHas ((11 * k).toNatClampNeg)) 6 = 0 → ¬ (f_noteHas (((11 * k) + 8).toNatClampNeg)) < 0 ∧ (f_noteHas (((11 * k) + 8).toNatClampNeg)) < (g 13)) ∧ (¬ fq_isOf (f_noteHas ((11 * k).toNatClampNeg)) 7 = 0 → ¬ (f_noteHas (((11 * k) + 9).toNatClampNeg)) < 0 ∧ (f_noteHas (((11 * k) + 9).toNatClampNeg)) < k)) : Met l yX12_layAllCan (Cond.code yX12_layAllCan cX12_layAllCan 2 none :: wsL_law) ({ frames := 5, cells := 0, slots := 0, locals := 127 }) (va_Pc [.ref mq] (fun U => U.heap.size = sz ∧ va_P (dC, dI) vwCl [(mq, .inr (12, mF g gl rf)), (eA0 (rf 24) (ck 24) 14 f_sky), (eA0 (rf 29) (ck 29) 24 f_landHas), (eA0 (rf 31) (ck 31) 8 f_first), (eA0 (rf 32) (ck 32) 8 f_last), (eA1 (rf 34) (ck 34) 12 f_born), (eA1 (rf 35) (ck 35) 12 f_died), (eA0 (rf 40) (ck 40) 264 f_noteHas), (eA0 (rf 41) (ck 41) 128 f_knot), (eA0 (rf 42) (ck 42) 128 f_part), (eA0 (rf 43) (ck 43) 128 f_other), (eA1 (rf 55) (ck 55) 6 f_names), (eA1 (rf 56) (ck 56) 64 f_value), (eA0 (rf 61) (ck 61) 240000 f_can)] U.heap ∧ va_K (dC, dI) vwCl [((ck 24), .int), ((ck 29), .int), ((ck 31), .int), ((ck 32), .int), ((ck 34), .long), ((ck 35), .long), ((ck 40), .int), ((ck 41), .int), ((ck 42), .int), ((ck 43), .int), ((ck 55), .long), ((ck 56), .long), ((ck 61), .boolean)] U ∧ va_D (fun _ => True) [(mq, .inr (12, mF g gl rf)), (eA0 (rf 24) (ck 24) 14 f_sky), (eA0 (rf 29) (ck 29) 24 f_landHas), (eA0 (rf 31) (ck 31) 8 f_first), (eA0 (rf 32) (ck 32) 8 f_last), (eA1 (rf 34) (ck 34) 12 f_born), (eA1 (rf 35) (ck 35) 12 f_died), (eA0 (rf 40) (ck 40) 264 f_noteHas), (eA0 (rf 41) (ck 41) 128 f_knot), (eA0 (rf 42) (ck 42) 128 f_part), (eA0 (rf 43) (ck 43) 128 f_other), (eA1 (rf 55) (ck 55) 6 f_names), (eA1 (rf 56) (ck 56) 64 f_value), (eA0 (rf 61) (ck 61) 240000 f_can)])) (va_Qv (fun (u : (Int64) × (Int64) × (Int32) × (Nat → Int64) × (Nat → Int64) × (Nat → Int32)) => u = fq_layAllCan f_sky f_landHas f_first f_last f_born f_died f_noteHas f_knot f_part f_other f_names f_value f_can (g 12) (g 16) (gl 53) (gl 54) (g 57)) (fun (u : (Int64) × (Int64) × (Int32) × (Nat → Int64) × (Nat → Int64) × (Nat → Int32)) t => va_P (dC, dI) vwCl [(mq, .inr (12, mF (upd g 57 u.2.2.1) (vp_updL (vp_updL gl 53 u.1) 54 u.2.1) rf)), (eA0 (rf 24) (ck 24) 14 f_sky), (eA0 (rf 29) (ck 29) 24 f_landHas), (eA0 (rf 31) (ck 31) 8 f_first), (eA0 (rf 32) (ck 32) 8 f_last), (eA1 (rf 34) (ck 34) 12 f_born), (eA1 (rf 35) (ck 35) 12 f_died), (eA0 (rf 40) (ck 40) 264 f_noteHas), (eA0 (rf 41) (ck 41) 128 f_knot), (eA0 (rf 42) (ck 42) 128 f_part), (eA0 (rf 43) (ck 43) 128 f_other), (eA1 (rf 55) (ck 55) 6 u.2.2.2.1), (eA1 (rf 56) (ck 56) 64 u.2.2.2.2.1), (eA0 (rf 61) (ck 61) 240000 u.2.2.2.2.2)] t.heap ∧ va_K (dC, dI) vwCl [] t ∧ va_D (va_A [(mq, .inr (12, mF g gl rf)), (eA0 (rf 24) (ck 24) 14 f_sky), (eA0 (rf 29) (ck 29) 24 f_landHas), (eA0 (rf 31) (ck 31) 8 f_first), (eA0 (rf 32) (ck 32) 8 f_last), (eA1 (rf 34) (ck 34) 12 f_born), (eA1 (rf 35) (ck 35) 12 f_died), (eA0 (rf 40) (ck 40) 264 f_noteHas), (eA0 (rf 41) (ck 41) 128 f_knot), (eA0 (rf 42) (ck 42) 128 f_part), (eA0 (rf 43) (ck 43) 128 f_other), (eA1 (rf 55) (ck 55) 6 f_names), (eA1 (rf 56) (ck 56) 64 f_value), (eA0 (rf 61) (ck 61) 240000 f_can)] sz) [(mq, .inr (12, mF (upd g 57 u.2.2.1) (vp_updL (vp_updL gl 53 u.1) 54 u.2.1) rf)), (eA0 (rf 24) (ck 24) 14 f_sky), (eA0 (rf 29) (ck 29) 24 f_landHas), (eA0 (rf 31) (ck 31) 8 f_first), (eA0 (rf 32) (ck 32) 8 f_last), (eA1 (rf 34) (ck 34) 12 f_born), (eA1 (rf 35) (ck 35) 12 f_died), (eA0 (rf 40) (ck 40) 264 f_noteHas), (eA0 (rf 41) (ck 41) 128 f_knot), (eA0 (rf 42) (ck 42) 128 f_part), (eA0 (rf 43) (ck 43) 128 f_other), (eA1 (rf 55) (ck 55) 6 u.2.2.2.1), (eA1 (rf 56) (ck 56) 64 u.2.2.2.2.1), (eA0 (rf 61) (ck 61) 240000 u.2.2.2.2.2)]) (va_A [(mq, .inr (12, mF g gl rf)), (eA0 (rf 24) (ck 24) 14 f_sky), (eA0 (rf 29) (ck 29) 24 f_landHas), (eA0 (rf 31) (ck 31) 8 f_first), (eA0 (rf 32) (ck 32) 8 f_last), (eA1 (rf 34) (ck 34) 12 f_born), (eA1 (rf 35) (ck 35) 12 f_died), (eA0 (rf 40) (ck 40) 264 f_noteHas), (eA0 (rf 41) (ck 41) 128 f_knot), (eA0 (rf 42) (ck 42) 128 f_part), (eA0 (rf 43) (ck 43) 128 f_other), (eA1 (rf 55) (ck 55) 6 f_names), (eA1 (rf 56) (ck 56) 64 f_value), (eA0 (rf 61) (ck 61) 240000 f_can)] sz)) 0 0 (va_A [(mq, .inr (12, mF g gl rf)), (eA0 (rf 24) (ck 24) 14 f_sky), (eA0 (rf 29) (ck 29) 24 f_landHas), (eA0 (rf 31) (ck 31) 8 f_first), (eA0 (rf 32) (ck 32) 8 f_last), (eA1 (rf 34) (ck 34) 12 f_born), (eA1 (rf 35) (ck 35) 12 f_died), (eA0 (rf 40) (ck 40) 264 f_noteHas), (eA0 (rf 41) (ck 41) 128 f_knot), (eA0 (rf 42) (ck 42) 128 f_part), (eA0 (rf 43) (ck 43) 128 f_other), (eA1 (rf 55) (ck 55) 6 f_names), (eA1 (rf 56) (ck 56) 64 f_value), (eA0 (rf 61) (ck 61) 240000 f_can)] sz) := by
  refine Met.ofW (cc := cX12_layAllCan) (maxL := 2) (ret := none) (by decide) rfl ?_
  intro p e s m args below meth c s₁ B hml hv
  obtain ⟨rfl, hsz, hP, hK, hD0⟩ := hv
  have hx := B.exec
  have hb := B.bytes
  have hr := B.returns
  have hts := atoms_spec (ws := Cond.code yX12_layAllCan cX12_layAllCan 2 none :: wsL_law) B.pre
  have htw : ∀ w ∈ wsL_law, w.before _ s = true := fun w h => hts w (List.mem_cons_of_mem _ h)
  have hown : s.vm.findClass RX12 = some m.cls := findClass_of_methodNamed B.named
  have hlocks := B.notSynchronized
  subst hsz
  have hD := hD0.self (sz := s.heap.size)
  generalize hAe : va_A [(mq, .inr (12, mF g gl rf)), (eA0 (rf 24) (ck 24) 14 f_sky), (eA0 (rf 29) (ck 29) 24 f_landHas), (eA0 (rf 31) (ck 31) 8 f_first), (eA0 (rf 32) (ck 32) 8 f_last), (eA1 (rf 34) (ck 34) 12 f_born), (eA1 (rf 35) (ck 35) 12 f_died), (eA0 (rf 40) (ck 40) 264 f_noteHas), (eA0 (rf 41) (ck 41) 128 f_knot), (eA0 (rf 42) (ck 42) 128 f_part), (eA0 (rf 43) (ck 43) 128 f_other), (eA1 (rf 55) (ck 55) 6 f_names), (eA1 (rf 56) (ck 56) 64 f_value), (eA0 (rf 61) (ck 61) 240000 f_can)] s.heap.size = A at hD ⊢
  have hA : ∀ q : Nat, s.heap.size ≤ q → A q := fun q h => by rw [← hAe]; exact Or.inr h
  obtain ⟨H, rH⟩ : ∃ z : Heap, z = s.heap := ⟨_, rfl⟩
  have hS : va_S A s.heap H [] := by rw [rH]; exact va_S.rf
  have hP : va_P (dC, dI) vwCl [(mq, .inr (12, mF g gl rf)), (eA0 (rf 24) (ck 24) 14 f_sky), (eA0 (rf 29) (ck 29) 24 f_landHas), (eA0 (rf 31) (ck 31) 8 f_first), (eA0 (rf 32) (ck 32) 8 f_last), (eA1 (rf 34) (ck 34) 12 f_born), (eA1 (rf 35) (ck 35) 12 f_died), (eA0 (rf 40) (ck 40) 264 f_noteHas), (eA0 (rf 41) (ck 41) 128 f_knot), (eA0 (rf 42) (ck 42) 128 f_part), (eA0 (rf 43) (ck 43) 128 f_other), (eA1 (rf 55) (ck 55) 6 f_names), (eA1 (rf 56) (ck 56) 64 f_value), (eA0 (rf 61) (ck 61) 240000 f_can)] H := by rw [rH]; exact hP
  rw [← rH]
  have hl := lv_entry ([.ref mq]) (n := 2) (Nat.le_of_ble_eq_true rfl)
  rw [lg_entry_eq]
  generalize (lg_sl ([.ref mq]) ++ List.replicate (2 - (lg_sl ([.ref mq])).length) Slot.unset).toArray = ls at hl ⊢
  have hl : lv_has ls 2 [(0, .ref mq)] := hl
  refine lv_iconst (v := 0) hx hb dX12_layAllCan_0 (by decide) ?_
  refine lv_istore_n (lv' := [(1, .int 0), (0, .ref mq)]) hx hb dX12_layAllCan_1 rfl hl (by decide) rfl (fun ls hl => ?_)
  have hloop_1 : ∀ (n : Nat) (L1d : Int32) (m_gotYear_d : Int64) (m_gotDay_d : Int64) (m_isError_d : Int32) (f_names_d : Nat → Int64) (f_value_d : Nat → Int64) (f_can_d : Nat → Int32) (h0_d : ¬ L1d < 0) (hf_d : (g 16).toInt ≤ L1d.toInt + (n : Int)) (hI_d : fq_layAllCan f_sky f_landHas f_first f_last f_born f_died f_noteHas f_knot f_part f_other f_names f_value f_can (g 12) (g 16) (gl 53) (gl 54) (g 57) = fq_layAllCan_d f_sky f_landHas f_first f_last f_born f_died f_noteHas f_knot f_part f_other (g 12) (g 16) n L1d m_gotYear_d m_gotDay_d m_isError_d f_names_d f_value_d f_can_d) (H : Heap) (locs : List Loc) (ls : Array Slot) (hP : va_P (dC, dI) vwCl [(mq, .inr (12, mF (upd g 57 m_isError_d) (vp_updL (vp_updL gl 53 m_gotYear_d) 54 m_gotDay_d) rf)), (eA0 (rf 24) (ck 24) 14 f_sky), (eA0 (rf 29) (ck 29) 24 f_landHas), (eA0 (rf 31) (ck 31) 8 f_first), (eA0 (rf 32) (ck 32) 8 f_last), (eA1 (rf 34) (ck 34) 12 f_born), (eA1 (rf 35) (ck 35) 12 f_died), (eA0 (rf 40) (ck 40) 264 f_noteHas), (eA0 (rf 41) (ck 41) 128 f_knot), (eA0 (rf 42) (ck 42) 128 f_part), (eA0 (rf 43) (ck 43) 128 f_other), (eA1 (rf 55) (ck 55) 6 f_names_d), (eA1 (rf 56) (ck 56) 64 f_value_d), (eA0 (rf 61) (ck 61) 240000 f_can_d)] H) (hD : va_D A [(mq, .inr (12, mF (upd g 57 m_isError_d) (vp_updL (vp_updL gl 53 m_gotYear_d) 54 m_gotDay_d) rf)), (eA0 (rf 24) (ck 24) 14 f_sky), (eA0 (rf 29) (ck 29) 24 f_landHas), (eA0 (rf 31) (ck 31) 8 f_first), (eA0 (rf 32) (ck 32) 8 f_last), (eA1 (rf 34) (ck 34) 12 f_born), (eA1 (rf 35) (ck 35) 12 f_died), (eA0 (rf 40) (ck 40) 264 f_noteHas), (eA0 (rf 41) (ck 41) 128 f_knot), (eA0 (rf 42) (ck 42) 128 f_part), (eA0 (rf 43) (ck 43) 128 f_other), (eA1 (rf 55) (ck 55) 6 f_names_d), (eA1 (rf 56) (ck 56) 64 f_value_d), (eA0 (rf 61) (ck 61) 240000 f_can_d)]) (hS : va_S A s.heap H locs) (hl : lv_has ls 2 [(1, .int L1d), (0, .ref mq)]), W p l e (headSpec (Cond.code yX12_layAllCan cX12_layAllCan 2 none :: wsL_law) ({ frames := 5, cells := 0, slots := 0, locals := 127 })).room s m ([.ref mq] : List Value).toArray below meth c H locs 0 0 (MQ below (va_Qv (fun (u : (Int64) × (Int64) × (Int32) × (Nat → Int64) × (Nat → Int64) × (Nat → Int32)) => u = fq_layAllCan f_sky f_landHas f_first f_last f_born f_died f_noteHas f_knot f_part f_other f_names f_value f_can (g 12) (g 16) (gl 53) (gl 54) (g 57)) (fun (u : (Int64) × (Int64) × (Int32) × (Nat → Int64) × (Nat → Int64) × (Nat → Int32)) t => va_P (dC, dI) vwCl [(mq, .inr (12, mF (upd g 57 u.2.2.1) (vp_updL (vp_updL gl 53 u.1) 54 u.2.1) rf)), (eA0 (rf 24) (ck 24) 14 f_sky), (eA0 (rf 29) (ck 29) 24 f_landHas), (eA0 (rf 31) (ck 31) 8 f_first), (eA0 (rf 32) (ck 32) 8 f_last), (eA1 (rf 34) (ck 34) 12 f_born), (eA1 (rf 35) (ck 35) 12 f_died), (eA0 (rf 40) (ck 40) 264 f_noteHas), (eA0 (rf 41) (ck 41) 128 f_knot), (eA0 (rf 42) (ck 42) 128 f_part), (eA0 (rf 43) (ck 43) 128 f_other), (eA1 (rf 55) (ck 55) 6 u.2.2.2.1), (eA1 (rf 56) (ck 56) 64 u.2.2.2.2.1), (eA0 (rf 61) (ck 61) 240000 u.2.2.2.2.2)] t.heap ∧ va_K (dC, dI) vwCl [] t ∧ va_D A [(mq, .inr (12, mF (upd g 57 u.2.2.1) (vp_updL (vp_updL gl 53 u.1) 54 u.2.1) rf)), (eA0 (rf 24) (ck 24) 14 f_sky), (eA0 (rf 29) (ck 29) 24 f_landHas), (eA0 (rf 31) (ck 31) 8 f_first), (eA0 (rf 32) (ck 32) 8 f_last), (eA1 (rf 34) (ck 34) 12 f_born), (eA1 (rf 35) (ck 35) 12 f_died), (eA0 (rf 40) (ck 40) 264 f_noteHas), (eA0 (rf 41) (ck 41) 128 f_knot), (eA0 (rf 42) (ck 42) 128 f_part), (eA0 (rf 43) (ck 43) 128 f_other), (eA1 (rf 55) (ck 55) 6 u.2.2.2.1), (eA1 (rf 56) (ck 56) 64 u.2.2.2.2.1), (eA0 (rf 61) (ck 61) 240000 u.2.2.2.2.2)]) A) ([.ref mq] : List Value).toArray s 0 0 A) (F0 m 2 ls []) := by
    intro n
    induction n with
    | zero =>
      intro L1d m_gotYear_d m_gotDay_d m_isError_d f_names_d f_value_d f_can_d h0_d hf_d hI_d H locs ls hP hD hS hl
      refine lv_iload_n hx hb dX12_layAllCan_2 rfl (lv_at hl 0 rfl) ?_
      refine lv_aload_n hx hb dX12_layAllCan_3 rfl (lv_at hl 1 rfl) ?_
      refine va_get (D := (dC, dI)) (ci := 12) (v := .int (g 16)) (C := RX12) (T := TX12) (N := 76) hx hb htw inlX12 hown hK hP 0 rfl rfl 16 (by decide) (htw _ (ck_11 _ (List.mem_of_getElem? (i := 13) rfl))) (fun _ h9 => h9) rfl dX12_layAllCan_4 ?_
      refine lv_icmp_ge (tgt := 21) hx hb dX12_layAllCan_7 (by decide) (fun c_2 => ?_) (fun c_2 => absurd c_2 (fun h => h (xi_z hf_d)))
      refine W.widen (k := 0) (n := 0) (by omega) (by omega) ?_
      obtain ⟨hP9, hD9⟩ := zsub2 (ws' := [(mq, .inr (12, mF (upd g 57 m_isError_d) (vp_updL (vp_updL gl 53 m_gotYear_d) 54 m_gotDay_d) rf)), (eA0 (rf 24) (ck 24) 14 f_sky), (eA0 (rf 29) (ck 29) 24 f_landHas), (eA0 (rf 31) (ck 31) 8 f_first), (eA0 (rf 32) (ck 32) 8 f_last), (eA1 (rf 34) (ck 34) 12 f_born), (eA1 (rf 35) (ck 35) 12 f_died), (eA0 (rf 40) (ck 40) 264 f_noteHas), (eA0 (rf 41) (ck 41) 128 f_knot), (eA0 (rf 42) (ck 42) 128 f_part), (eA0 (rf 43) (ck 43) 128 f_other), (eA1 (rf 55) (ck 55) 6 f_names_d), (eA1 (rf 56) (ck 56) 64 f_value_d), (eA0 (rf 61) (ck 61) 240000 f_can_d)]) hP hD [0, 1, 2, 3, 4, 5, 6, 7, 8, 9, 10, 11, 12, 13] (by decide +kernel) rfl
      have hK9 := hK.sub (tys' := []) [] rfl
      exact W.vret hx hb hr (fun t ht hW => ⟨⟨(m_gotYear_d, m_gotDay_d, m_isError_d, f_names_d, f_value_d, f_can_d), rfl, (Eq.symm (hI_d.trans (by rw [fq_layAllCan_d]; try rfl))), by rw [ht]; exact hP9, va_K.moved hW.alike hK9, hD9⟩, hS.F ht⟩) hS.2.2 dX12_layAllCan_21
    | succ n ih =>
      intro L1d m_gotYear_d m_gotDay_d m_isError_d f_names_d f_value_d f_can_d h0_d hf_d hI_d H locs ls hP hD hS hl
      refine lv_iload_n hx hb dX12_layAllCan_2 rfl (lv_at hl 0 rfl) ?_
      refine lv_aload_n hx hb dX12_layAllCan_3 rfl (lv_at hl 1 rfl) ?_
      refine va_get (D := (dC, dI)) (ci := 12) (v := .int (g 16)) (C := RX12) (T := TX12) (N := 76) hx hb htw inlX12 hown hK hP 0 rfl rfl 16 (by decide) (htw _ (ck_11 _ (List.mem_of_getElem? (i := 13) rfl))) (fun _ h9 => h9) rfl dX12_layAllCan_4 ?_
      refine lv_icmp_ge (tgt := 21) hx hb dX12_layAllCan_7 (by decide) (fun c_3 => ?_) (fun c_3 => ?_)
      · refine W.widen (k := 0) (n := 0) (by omega) (by omega) ?_
        obtain ⟨hP9, hD9⟩ := zsub2 (ws' := [(mq, .inr (12, mF (upd g 57 m_isError_d) (vp_updL (vp_updL gl 53 m_gotYear_d) 54 m_gotDay_d) rf)), (eA0 (rf 24) (ck 24) 14 f_sky), (eA0 (rf 29) (ck 29) 24 f_landHas), (eA0 (rf 31) (ck 31) 8 f_first), (eA0 (rf 32) (ck 32) 8 f_last), (eA1 (rf 34) (ck 34) 12 f_born), (eA1 (rf 35) (ck 35) 12 f_died), (eA0 (rf 40) (ck 40) 264 f_noteHas), (eA0 (rf 41) (ck 41) 128 f_knot), (eA0 (rf 42) (ck 42) 128 f_part), (eA0 (rf 43) (ck 43) 128 f_other), (eA1 (rf 55) (ck 55) 6 f_names_d), (eA1 (rf 56) (ck 56) 64 f_value_d), (eA0 (rf 61) (ck 61) 240000 f_can_d)]) hP hD [0, 1, 2, 3, 4, 5, 6, 7, 8, 9, 10, 11, 12, 13] (by decide +kernel) rfl
        have hK9 := hK.sub (tys' := []) [] rfl
        exact W.vret hx hb hr (fun t ht hW => ⟨⟨(m_gotYear_d, m_gotDay_d, m_isError_d, f_names_d, f_value_d, f_can_d), rfl, (Eq.symm (hI_d.trans (by rw [fq_layAllCan_d]; (try rw [if_pos c_3]); try rfl))), by rw [ht]; exact hP9, va_K.moved hW.alike hK9, hD9⟩, hS.F ht⟩) hS.2.2 dX12_layAllCan_21
      · refine lv_aload_n hx hb dX12_layAllCan_10 rfl (lv_at hl 1 rfl) ?_
        refine lv_iload_n hx hb dX12_layAllCan_11 rfl (lv_at hl 0 rfl) ?_
        obtain ⟨hPc, hDc, hFc, hCc⟩ := zsub3 (ws' := [(mq, .inr (12, mF (upd g 57 m_isError_d) (vp_updL (vp_updL gl 53 m_gotYear_d) 54 m_gotDay_d) rf)), (eA0 (rf 24) (ck 24) 14 f_sky), (eA0 (rf 29) (ck 29) 24 f_landHas), (eA0 (rf 31) (ck 31) 8 f_first), (eA0 (rf 32) (ck 32) 8 f_last), (eA1 (rf 34) (ck 34) 12 f_born), (eA1 (rf 35) (ck 35) 12 f_died), (eA0 (rf 40) (ck 40) 264 f_noteHas), (eA0 (rf 41) (ck 41) 128 f_knot), (eA0 (rf 42) (ck 42) 128 f_part), (eA0 (rf 43) (ck 43) 128 f_other), (eA1 (rf 55) (ck 55) 6 f_names_d), (eA1 (rf 56) (ck 56) 64 f_value_d), (eA0 (rf 61) (ck 61) 240000 f_can_d)]) hP hD hS hA [0, 1, 2, 3, 4, 5, 6, 7, 8, 9, 10, 11, 12, 13] (by decide +kernel) rfl
        have hKc := hK.sub (tys' := [((ck 24), .int), ((ck 29), .int), ((ck 31), .int), ((ck 32), .int), ((ck 34), .long), ((ck 35), .long), ((ck 40), .int), ((ck 41), .int), ((ck 42), .int), ((ck 43), .int), ((ck 55), .long), ((ck 56), .long), ((ck 61), .boolean)]) [0, 1, 2, 3, 4, 5, 6, 7, 8, 9, 10, 11, 12] rfl
        refine va_callv (va_runV (As := [.int L1d]) (rest := []) ⟨hx, hb, hml, hown, htw⟩ (gq_layCan l dC dI mq (upd g 57 m_isError_d) (vp_updL (vp_updL gl 53 m_gotYear_d) 54 m_gotDay_d) rf ck f_sky f_landHas f_first f_last f_born f_died f_noteHas f_knot f_part f_other f_names_d f_value_d f_can_d L1d H.size (gq_layAllCan_s0 (y0 := L1d) (y1 := g 16) c_3 h0_d hnt0 hnt2) (gq_layAllCan_s1 (y0 := L1d) (y1 := g 16) c_3 h0_d hnt0 hnt2) hfe0 hfe4 hFA hKA hln0 hln4 hLZ hs0 hs2 hs5 hp0 hp6 (hNA L1d (gq_layAllCan_s2 (y0 := L1d) (y1 := g 16) c_3 h0_d hnt0 hnt2).1 (gq_layAllCan_s2 (y0 := L1d) (y1 := g 16) c_3 h0_d hnt0 hnt2).2).1 (hNA L1d (gq_layAllCan_s3 (y0 := L1d) (y1 := g 16) c_3 h0_d hnt0 hnt2).1 (gq_layAllCan_s3 (y0 := L1d) (y1 := g 16) c_3 h0_d hnt0 hnt2).2).2.1) (cwV 1 htw (xg_V (ck_59 _ (List.mem_of_getElem? (i := 7) rfl)) (ck_59 _ (List.mem_of_getElem? (i := 8) rfl)) (ck_59 _ (List.mem_of_getElem? (i := 9) rfl)) (ck_1 _ (List.mem_of_getElem? (i := 5) rfl)) (ck_59 _ (List.mem_of_getElem? (i := 10) rfl))) rfl rfl rfl (by exact ⟨rfl, hdc_14.1, hdc_14.2, hdd_9⟩) ⟨Nat.le_of_ble_eq_true rfl, Nat.le_of_ble_eq_true rfl⟩) ⟨fun a U g mk q => by obtain ⟨q0, q1, qP, qK, qD⟩ := q; exact ⟨q0, q1, qP, va_K.moved (u := U) (U := U.calling g mk a) (Vm.Alike.refl U.vm) qK, qD⟩, va_recv hKc hPc (ci := 12) (q0 := 0) rfl rfl, fun U hU hW => ⟨rfl, by rw [hU], by rw [hU]; exact hPc, va_K.moved hW.alike hKc, hDc.weaken (fun _ _ _ _ => trivial)⟩⟩ rfl rfl hl.1 rfl (lv_room (Nat.le_of_ble_eq_true rfl)) dX12_layAllCan_12 ⟨Nat.le_of_ble_eq_true rfl, Nat.le_of_ble_eq_true rfl⟩) hS (fun q _ h => hFc q h) hFc (fun u_5 t H1 locs ht hvm hw hB hz1 hk1 hS => ?_)
        try dsimp only at hw
        obtain ⟨hP1, hK1, hD1⟩ := hB
        rw [ht] at hP1
        have hK1 := va_K.moved hvm.symm hK1
        have hK1 : va_K (dC, dI) vwCl [] s := hK1
        obtain ⟨hP, hD⟩ := va_join (wr := []) (w1 := [(mq, .inr (12, mF (upd g 57 u_5.2.2.1) (vp_updL (vp_updL gl 53 u_5.1) 54 u_5.2.1) rf)), (eA0 (rf 24) (ck 24) 14 f_sky), (eA0 (rf 29) (ck 29) 24 f_landHas), (eA0 (rf 31) (ck 31) 8 f_first), (eA0 (rf 32) (ck 32) 8 f_last), (eA1 (rf 34) (ck 34) 12 f_born), (eA1 (rf 35) (ck 35) 12 f_died), (eA0 (rf 40) (ck 40) 264 f_noteHas), (eA0 (rf 41) (ck 41) 128 f_knot), (eA0 (rf 42) (ck 42) 128 f_part), (eA0 (rf 43) (ck 43) 128 f_other), (eA1 (rf 55) (ck 55) 6 u_5.2.2.2.1), (eA1 (rf 56) (ck 56) 64 u_5.2.2.2.2.1), (eA0 (rf 61) (ck 61) 240000 u_5.2.2.2.2.2)]) hP hD [0, 1, 2, 3, 4, 5, 6, 7, 8, 9, 10, 11, 12, 13] [] hCc rfl (by decide +kernel) (by decide +kernel) hk1 hFc hP1 hD1
        generalize H1 = H at hP hS ⊢
        obtain ⟨hP, hD⟩ := zre [(mq, .inr (12, mF (upd g 57 u_5.2.2.1) (vp_updL (vp_updL gl 53 u_5.1) 54 u_5.2.1) rf)), (eA0 (rf 24) (ck 24) 14 f_sky), (eA0 (rf 29) (ck 29) 24 f_landHas), (eA0 (rf 31) (ck 31) 8 f_first), (eA0 (rf 32) (ck 32) 8 f_last), (eA1 (rf 34) (ck 34) 12 f_born), (eA1 (rf 35) (ck 35) 12 f_died), (eA0 (rf 40) (ck 40) 264 f_noteHas), (eA0 (rf 41) (ck 41) 128 f_knot), (eA0 (rf 42) (ck 42) 128 f_part), (eA0 (rf 43) (ck 43) 128 f_other), (eA1 (rf 55) (ck 55) 6 u_5.2.2.2.1), (eA1 (rf 56) (ck 56) 64 u_5.2.2.2.2.1), (eA0 (rf 61) (ck 61) 240000 u_5.2.2.2.2.2)] hP hD rfl
        refine W.widen (k := 0) (n := 0) (by omega) (by omega) ?_
        have hq_u_5 : u_5 = (fq_layCan f_sky f_landHas f_first f_last f_born f_died f_noteHas f_knot f_part f_other f_names_d f_value_d f_can_d L1d (g 12) m_gotYear_d m_gotDay_d m_isError_d) := hw
        refine lv_iinc (v := (L1d + 1)) (lv' := [(1, .int (L1d + 1)), (0, .ref mq)]) hx hb dX12_layAllCan_15 hl (k := 0) rfl (rfl) (by decide) rfl (fun ls hl => ?_)
        refine lv_goto (tgt := 2) hx hb dX12_layAllCan_18 (by decide) ?_
        exact ih (L1d + 1) u_5.1 u_5.2.1 u_5.2.2.1 u_5.2.2.2.1 u_5.2.2.2.2.1 u_5.2.2.2.2.2 (gq_layAllCan_s4 (y0 := L1d) (y1 := g 16) c_3 h0_d hnt0 hnt2) (by rw [xi_s' c_3]; omega) (hI_d.trans (by rw [fq_layAllCan_d]; (try rw [if_neg c_3]); (try rw [← hq_u_5]); (try rw [xL_eq]); try rfl)) H locs ls hP hD hS (lv_sub hl [0, 1] rfl)
  exact hloop_1 12 (0 : Int32) (gl 53) (gl 54) (g 57) f_names f_value f_can (gq_layAllCan_s5 ) (by have := xi_le hnt2; have e9 : (12 : Int32).toInt = 12 := rfl; have e0 : (0 : Int32).toInt = 0 := rfl; omega) ((by rw [fq_layAllCan])) _ _ ls hP hD hS (lv_sub hl [0, 1] rfl)

def fq_told3 (a0 : Int32) (m_manyGot : Int32) (m_firstGot : Int32) (m_lastGot : Int32) : Int32 := (if a0 = 0 then m_manyGot else (if a0 = 1 then m_firstGot else m_lastGot))
theorem dX12_told3_0 : decode cX12_told3 0 = .ok (.iload_n 1, 1) := zk_27 (by decide +kernel)
theorem dX12_told3_1 : decode cX12_told3 1 = .ok (.ifCond .ne 10, 3) := zk_154 (by decide +kernel)
theorem dX12_told3_11 : decode cX12_told3 11 = .ok (.iload_n 1, 1) := zk_27 (by decide +kernel)
theorem dX12_told3_12 : decode cX12_told3 12 = .ok (.iconst 1, 1) := zk_4 (by decide +kernel)
theorem dX12_told3_13 : decode cX12_told3 13 = .ok (.if_icmp .ne 10, 3) := zk_160 (by decide +kernel)
theorem dX12_told3_23 : decode cX12_told3 23 = .ok (.aload_n 0, 1) := zk_42 (by decide +kernel)
theorem dX12_told3_24 : decode cX12_told3 24 = .ok (.getfield 503, 3) := zk_180 (by decide +kernel)
theorem dX12_told3_27 : decode cX12_told3 27 = .ok (.ireturn, 1) := zk_172 (by decide +kernel)
theorem dX12_told3_16 : decode cX12_told3 16 = .ok (.aload_n 0, 1) := zk_42 (by decide +kernel)
theorem dX12_told3_17 : decode cX12_told3 17 = .ok (.getfield 500, 3) := zk_180 (by decide +kernel)
theorem dX12_told3_20 : decode cX12_told3 20 = .ok (.goto 7, 3) := zk_167 (by decide +kernel)
theorem dX12_told3_4 : decode cX12_told3 4 = .ok (.aload_n 0, 1) := zk_42 (by decide +kernel)
theorem dX12_told3_5 : decode cX12_told3 5 = .ok (.getfield 497, 3) := zk_180 (by decide +kernel)
theorem dX12_told3_8 : decode cX12_told3 8 = .ok (.goto 19, 3) := zk_167 (by decide +kernel)
set_option maxHeartbeats 4000000 in
set_option maxRecDepth 100000 in
theorem gq_told3 (l : Launch) (dC : Nat → ClassId) (dI : Nat → Nat → Nat) (mq : Nat) (g : Nat → Int32) (gl : Nat → Int64) (rf : Nat → Nat) (a0 : Int32) : Met l yX12_told3 (Cond.code yX12_told3 cX12_told3 2 (some .int) :: wsL_law) ({ frames := 0, cells := 0, slots := 0, locals := 0 }) (va_Pc [.ref mq, .int a0] (fun U => va_P (dC, dI) vwCl [(mq, .inr (12, mF g gl rf))] U.heap ∧ va_K (dC, dI) vwCl [] U)) (vp_Si (fun r => r = fq_told3 a0 (g 62) (g 63) (g 64))) 0 0 (fun _ => False) := by
  refine Met.ofW (cc := cX12_told3) (maxL := 2) (ret := (some .int)) (by decide) rfl ?_
  intro p e s m args below meth c s₁ B hml hv
  obtain ⟨rfl, hP, hK⟩ := hv
  have hx := B.exec
  have hb := B.bytes
  have hr := B.returns
  have hts := atoms_spec (ws := Cond.code yX12_told3 cX12_told3 2 (some .int) :: wsL_law) B.pre
  have htw : ∀ w ∈ wsL_law, w.before _ s = true := fun w h => hts w (List.mem_cons_of_mem _ h)
  have hown : s.vm.findClass RX12 = some m.cls := findClass_of_methodNamed B.named
  have hlocks := B.notSynchronized
  have hl := lv_entry ([.ref mq, .int a0]) (n := 2) (Nat.le_of_ble_eq_true rfl)
  rw [lg_entry_eq]
  generalize (lg_sl ([.ref mq, .int a0]) ++ List.replicate (2 - (lg_sl ([.ref mq, .int a0])).length) Slot.unset).toArray = ls at hl ⊢
  have hl : lv_has ls 2 [(0, .ref mq), (1, .int a0)] := hl
  refine lv_iload_n hx hb dX12_told3_0 rfl (lv_at hl 1 rfl) ?_
  refine lv_if_ne (tgt := 11) hx hb dX12_told3_1 (by decide) (fun c_1 => ?_) (fun c_1 => ?_)
  · refine lv_iload_n hx hb dX12_told3_11 rfl (lv_at hl 1 rfl) ?_
    refine lv_iconst (v := 1) hx hb dX12_told3_12 (by decide) ?_
    refine lv_icmp_ne (tgt := 23) hx hb dX12_told3_13 (by decide) (fun c_2 => ?_) (fun c_2 => ?_)
    · refine lv_aload_n hx hb dX12_told3_23 rfl (lv_at hl 0 rfl) ?_
      refine va_get (D := (dC, dI)) (ci := 12) (v := .int (g 64)) (C := RX12) (T := TX12) (N := 76) hx hb htw inlX12 hown hK hP 0 rfl rfl 64 (by decide) (htw _ (ck_59 _ (List.mem_of_getElem? (i := 2) rfl))) (fun _ h9 => h9) rfl dX12_told3_24 ?_
      exact W.iret (v := (g 64)) hx hb hr (fun t ht hW => ⟨(g 64), rfl, (Eq.symm ((by rw [fq_told3]; (try rw [if_neg c_1]); (try rw [if_neg c_2]); try rfl))), ht⟩) (fun _ h => by cases h) dX12_told3_27
    · refine lv_aload_n hx hb dX12_told3_16 rfl (lv_at hl 0 rfl) ?_
      refine va_get (D := (dC, dI)) (ci := 12) (v := .int (g 63)) (C := RX12) (T := TX12) (N := 76) hx hb htw inlX12 hown hK hP 0 rfl rfl 63 (by decide) (htw _ (ck_59 _ (List.mem_of_getElem? (i := 1) rfl))) (fun _ h9 => h9) rfl dX12_told3_17 ?_
      refine lv_goto (tgt := 27) hx hb dX12_told3_20 (by decide) ?_
      exact W.iret (v := (g 63)) hx hb hr (fun t ht hW => ⟨(g 63), rfl, (Eq.symm ((by rw [fq_told3]; (try rw [if_neg c_1]); (try rw [if_pos c_2]); try rfl))), ht⟩) (fun _ h => by cases h) dX12_told3_27
  · refine lv_aload_n hx hb dX12_told3_4 rfl (lv_at hl 0 rfl) ?_
    refine va_get (D := (dC, dI)) (ci := 12) (v := .int (g 62)) (C := RX12) (T := TX12) (N := 76) hx hb htw inlX12 hown hK hP 0 rfl rfl 62 (by decide) (htw _ (ck_59 _ (List.mem_of_getElem? (i := 0) rfl))) (fun _ h9 => h9) rfl dX12_told3_5 ?_
    refine lv_goto (tgt := 27) hx hb dX12_told3_8 (by decide) ?_
    exact W.iret (v := (g 62)) hx hb hr (fun t ht hW => ⟨(g 62), rfl, (Eq.symm ((by rw [fq_told3]; (try rw [if_pos c_1]); try rfl))), ht⟩) (fun _ h => by cases h) dX12_told3_27

theorem xn_all {n : Int32} (h0 : ¬ n < 0) (h : n ≤ 12) : (((1 : Int32) <<< (n &&& 31)) - 1) ≤ 4095 := by
  rcases (show n = 0 ∨ n = 1 ∨ n = 2 ∨ n = 3 ∨ n = 4 ∨ n = 5 ∨ n = 6 ∨ n = 7 ∨ n = 8 ∨ n = 9 ∨ n = 10 ∨ n = 11 ∨ n = 12 by lia) with rfl | rfl | rfl | rfl | rfl | rfl | rfl | rfl | rfl | rfl | rfl | rfl | rfl <;> decide

def fq_allNotes (m_notes : Int32) : Int32 := ((1 <<< (m_notes &&& 31)) - 1)
theorem dX12_allNotes_0 : decode cX12_allNotes 0 = .ok (.iconst 1, 1) := zk_4 (by decide +kernel)
theorem dX12_allNotes_1 : decode cX12_allNotes 1 = .ok (.aload_n 0, 1) := zk_42 (by decide +kernel)
theorem dX12_allNotes_2 : decode cX12_allNotes 2 = .ok (.getfield 229, 3) := zk_180 (by decide +kernel)
theorem dX12_allNotes_5 : decode cX12_allNotes 5 = .ok (.ishl, 1) := zk_120 (by decide +kernel)
theorem dX12_allNotes_6 : decode cX12_allNotes 6 = .ok (.iconst 1, 1) := zk_4 (by decide +kernel)
theorem dX12_allNotes_7 : decode cX12_allNotes 7 = .ok (.isub, 1) := zk_100 (by decide +kernel)
theorem dX12_allNotes_8 : decode cX12_allNotes 8 = .ok (.ireturn, 1) := zk_172 (by decide +kernel)
set_option maxHeartbeats 4000000 in
set_option maxRecDepth 100000 in
theorem gq_allNotes (l : Launch) (dC : Nat → ClassId) (dI : Nat → Nat → Nat) (mq : Nat) (g : Nat → Int32) (gl : Nat → Int64) (rf : Nat → Nat) (hnt0 : ¬ (g 16) < 0) (hnt2 : (g 16) ≤ 12) : Met l yX12_allNotes (Cond.code yX12_allNotes cX12_allNotes 1 (some .int) :: wsL_law) ({ frames := 0, cells := 0, slots := 0, locals := 0 }) (va_Pc [.ref mq] (fun U => va_P (dC, dI) vwCl [(mq, .inr (12, mF g gl rf))] U.heap ∧ va_K (dC, dI) vwCl [] U)) (vp_Si (fun r => (r = fq_allNotes (g 16)) ∧ (r ≤ 4095))) 0 0 (fun _ => False) := by
  refine Met.ofW (cc := cX12_allNotes) (maxL := 1) (ret := (some .int)) (by decide) rfl ?_
  intro p e s m args below meth c s₁ B hml hv
  obtain ⟨rfl, hP, hK⟩ := hv
  have hx := B.exec
  have hb := B.bytes
  have hr := B.returns
  have hts := atoms_spec (ws := Cond.code yX12_allNotes cX12_allNotes 1 (some .int) :: wsL_law) B.pre
  have htw : ∀ w ∈ wsL_law, w.before _ s = true := fun w h => hts w (List.mem_cons_of_mem _ h)
  have hown : s.vm.findClass RX12 = some m.cls := findClass_of_methodNamed B.named
  have hlocks := B.notSynchronized
  have hl := lv_entry ([.ref mq]) (n := 1) (Nat.le_of_ble_eq_true rfl)
  rw [lg_entry_eq]
  generalize (lg_sl ([.ref mq]) ++ List.replicate (1 - (lg_sl ([.ref mq])).length) Slot.unset).toArray = ls at hl ⊢
  have hl : lv_has ls 1 [(0, .ref mq)] := hl
  refine lv_iconst (v := 1) hx hb dX12_allNotes_0 (by decide) ?_
  refine lv_aload_n hx hb dX12_allNotes_1 rfl (lv_at hl 0 rfl) ?_
  refine va_get (D := (dC, dI)) (ci := 12) (v := .int (g 16)) (C := RX12) (T := TX12) (N := 76) hx hb htw inlX12 hown hK hP 0 rfl rfl 16 (by decide) (htw _ (ck_11 _ (List.mem_of_getElem? (i := 13) rfl))) (fun _ h9 => h9) rfl dX12_allNotes_2 ?_
  refine lv_ishl hx hb dX12_allNotes_5 ?_
  refine lv_iconst (v := 1) hx hb dX12_allNotes_6 (by decide) ?_
  refine lv_isub hx hb dX12_allNotes_7 ?_
  exact W.iret (v := ((1 <<< ((g 16) &&& 31)) - 1)) hx hb hr (fun t ht hW => ⟨((1 <<< ((g 16) &&& 31)) - 1), rfl, ⟨(Eq.symm ((by rw [fq_allNotes]))), (xn_all hnt0 hnt2)⟩, ht⟩) (fun _ h => by cases h) dX12_allNotes_8

def fq_manyOf_d (a0 : Int32) : Nat → (Int32) → (Int32) → Int32
  | 0, L1d, L2d => L1d
  | n + 1, L1d, L2d => (if 12 ≤ L2d then L1d else fq_manyOf_d a0 n (L1d + ((a0 >>> (L2d &&& 31)) &&& 1)) (L2d + 1))
def fq_manyOf (a0 : Int32) : Int32 := fq_manyOf_d a0 12 (0 : Int32) (0 : Int32)
theorem gq_manyOf_s0 {y0 : Int32} (h0 : ¬ (12 ≤ y0)) (h1 : ¬ (y0 < 0)) : ¬ ((y0 + 1) < 0) := by lia
theorem gq_manyOf_s1  : ¬ ((0 : Int32) < 0) := (by decide)
theorem dX12_manyOf_0 : decode cX12_manyOf 0 = .ok (.iconst 0, 1) := zk_3 (by decide +kernel)
theorem dX12_manyOf_1 : decode cX12_manyOf 1 = .ok (.istore_n 1, 1) := zk_60 (by decide +kernel)
theorem dX12_manyOf_2 : decode cX12_manyOf 2 = .ok (.iconst 0, 1) := zk_3 (by decide +kernel)
theorem dX12_manyOf_3 : decode cX12_manyOf 3 = .ok (.istore_n 2, 1) := zk_61 (by decide +kernel)
theorem dX12_manyOf_4 : decode cX12_manyOf 4 = .ok (.iload_n 2, 1) := zk_28 (by decide +kernel)
theorem dX12_manyOf_5 : decode cX12_manyOf 5 = .ok (.bipush 12, 2) := zk_16 (by decide +kernel)
theorem dX12_manyOf_7 : decode cX12_manyOf 7 = .ok (.if_icmp .ge 17, 3) := zk_162 (by decide +kernel)
theorem dX12_manyOf_24 : decode cX12_manyOf 24 = .ok (.iload_n 1, 1) := zk_27 (by decide +kernel)
theorem dX12_manyOf_25 : decode cX12_manyOf 25 = .ok (.ireturn, 1) := zk_172 (by decide +kernel)
theorem dX12_manyOf_10 : decode cX12_manyOf 10 = .ok (.iload_n 1, 1) := zk_27 (by decide +kernel)
theorem dX12_manyOf_11 : decode cX12_manyOf 11 = .ok (.iload_n 0, 1) := zk_26 (by decide +kernel)
theorem dX12_manyOf_12 : decode cX12_manyOf 12 = .ok (.iload_n 2, 1) := zk_28 (by decide +kernel)
theorem dX12_manyOf_13 : decode cX12_manyOf 13 = .ok (.ishr, 1) := zk_122 (by decide +kernel)
theorem dX12_manyOf_14 : decode cX12_manyOf 14 = .ok (.iconst 1, 1) := zk_4 (by decide +kernel)
theorem dX12_manyOf_15 : decode cX12_manyOf 15 = .ok (.iand, 1) := zk_126 (by decide +kernel)
theorem dX12_manyOf_16 : decode cX12_manyOf 16 = .ok (.iadd, 1) := zk_96 (by decide +kernel)
theorem dX12_manyOf_17 : decode cX12_manyOf 17 = .ok (.istore_n 1, 1) := zk_60 (by decide +kernel)
theorem dX12_manyOf_18 : decode cX12_manyOf 18 = .ok (.iinc 2 1, 3) := zk_132 (by decide +kernel)
theorem dX12_manyOf_21 : decode cX12_manyOf 21 = .ok (.goto (-17), 3) := zk_167 (by decide +kernel)
set_option maxHeartbeats 4000000 in
set_option maxRecDepth 100000 in
theorem gq_manyOf (l : Launch) (dC : Nat → ClassId) (dI : Nat → Nat → Nat) (a0 : Int32) : Met l yX12_manyOf (Cond.code yX12_manyOf cX12_manyOf 3 (some .int) :: wsL_law) ({ frames := 0, cells := 0, slots := 0, locals := 0 }) (va_Pc [.int a0] (fun U => va_P (dC, dI) vwCl [] U.heap ∧ va_K (dC, dI) vwCl [] U)) (vp_Si (fun r => r = fq_manyOf a0)) 0 0 (fun _ => False) := by
  refine Met.ofW (cc := cX12_manyOf) (maxL := 3) (ret := (some .int)) (by decide) rfl ?_
  intro p e s m args below meth c s₁ B hml hv
  obtain ⟨rfl, hP, hK⟩ := hv
  have hx := B.exec
  have hb := B.bytes
  have hr := B.returns
  have hts := atoms_spec (ws := Cond.code yX12_manyOf cX12_manyOf 3 (some .int) :: wsL_law) B.pre
  have htw : ∀ w ∈ wsL_law, w.before _ s = true := fun w h => hts w (List.mem_cons_of_mem _ h)
  have hown : s.vm.findClass RX12 = some m.cls := findClass_of_methodNamed B.named
  have hlocks := B.notSynchronized
  have hl := lv_entry ([.int a0]) (n := 3) (Nat.le_of_ble_eq_true rfl)
  rw [lg_entry_eq]
  generalize (lg_sl ([.int a0]) ++ List.replicate (3 - (lg_sl ([.int a0])).length) Slot.unset).toArray = ls at hl ⊢
  have hl : lv_has ls 3 [(0, .int a0)] := hl
  refine lv_iconst (v := 0) hx hb dX12_manyOf_0 (by decide) ?_
  refine lv_istore_n (lv' := [(1, .int 0), (0, .int a0)]) hx hb dX12_manyOf_1 rfl hl (by decide) rfl (fun ls hl => ?_)
  refine lv_iconst (v := 0) hx hb dX12_manyOf_2 (by decide) ?_
  refine lv_istore_n (lv' := [(2, .int 0), (1, .int 0), (0, .int a0)]) hx hb dX12_manyOf_3 rfl hl (by decide) rfl (fun ls hl => ?_)
  have hloop_1 : ∀ (n : Nat) (L1d : Int32) (L2d : Int32) (h0_d : ¬ L2d < 0) (hf_d : (12 : Int32).toInt ≤ L2d.toInt + (n : Int)) (hI_d : fq_manyOf a0 = fq_manyOf_d a0 n L1d L2d) (ls : Array Slot) (hl : lv_has ls 3 [(2, .int L2d), (1, .int L1d), (0, .int a0)]), W p l e (headSpec (Cond.code yX12_manyOf cX12_manyOf 3 (some .int) :: wsL_law) ({ frames := 0, cells := 0, slots := 0, locals := 0 })).room s m ([.int a0] : List Value).toArray below meth c s.heap [] 0 0 (MQ below (vp_Si (fun r => r = fq_manyOf a0)) ([.int a0] : List Value).toArray s 0 0 (fun _ => False)) (F0 m 4 ls []) := by
    intro n
    induction n with
    | zero =>
      intro L1d L2d h0_d hf_d hI_d ls hl
      refine lv_iload_n hx hb dX12_manyOf_4 rfl (lv_at hl 0 rfl) ?_
      refine lv_bipush (v := 12) hx hb dX12_manyOf_5 (by decide) ?_
      refine lv_icmp_ge (tgt := 24) hx hb dX12_manyOf_7 (by decide) (fun c_2 => ?_) (fun c_2 => absurd c_2 (fun h => h (xi_z hf_d)))
      refine lv_iload_n hx hb dX12_manyOf_24 rfl (lv_at hl 1 rfl) ?_
      exact W.iret (v := L1d) hx hb hr (fun t ht hW => ⟨L1d, rfl, (Eq.symm (hI_d.trans (by rw [fq_manyOf_d]; try rfl))), ht⟩) (fun _ h => by cases h) dX12_manyOf_25
    | succ n ih =>
      intro L1d L2d h0_d hf_d hI_d ls hl
      refine lv_iload_n hx hb dX12_manyOf_4 rfl (lv_at hl 0 rfl) ?_
      refine lv_bipush (v := 12) hx hb dX12_manyOf_5 (by decide) ?_
      refine lv_icmp_ge (tgt := 24) hx hb dX12_manyOf_7 (by decide) (fun c_3 => ?_) (fun c_3 => ?_)
      · refine lv_iload_n hx hb dX12_manyOf_24 rfl (lv_at hl 1 rfl) ?_
        exact W.iret (v := L1d) hx hb hr (fun t ht hW => ⟨L1d, rfl, (Eq.symm (hI_d.trans (by rw [fq_manyOf_d]; (try rw [if_pos c_3]); try rfl))), ht⟩) (fun _ h => by cases h) dX12_manyOf_25
      · refine lv_iload_n hx hb dX12_manyOf_10 rfl (lv_at hl 1 rfl) ?_
        refine lv_iload_n hx hb dX12_manyOf_11 rfl (lv_at hl 2 rfl) ?_
        refine lv_iload_n hx hb dX12_manyOf_12 rfl (lv_at hl 0 rfl) ?_
        refine lv_ishr hx hb dX12_manyOf_13 ?_
        refine lv_iconst (v := 1) hx hb dX12_manyOf_14 (by decide) ?_
        refine lv_iand hx hb dX12_manyOf_15 ?_
        refine lv_iadd hx hb dX12_manyOf_16 ?_
        refine lv_istore_n (lv' := [(1, .int (L1d + ((a0 >>> (L2d &&& 31)) &&& 1))), (2, .int L2d), (0, .int a0)]) hx hb dX12_manyOf_17 rfl hl (by decide) rfl (fun ls hl => ?_)
        refine lv_iinc (v := (L2d + 1)) (lv' := [(2, .int (L2d + 1)), (1, .int (L1d + ((a0 >>> (L2d &&& 31)) &&& 1))), (0, .int a0)]) hx hb dX12_manyOf_18 hl (k := 1) rfl (rfl) (by decide) rfl (fun ls hl => ?_)
        refine lv_goto (tgt := 4) hx hb dX12_manyOf_21 (by decide) ?_
        exact ih (L1d + ((a0 >>> (L2d &&& 31)) &&& 1)) (L2d + 1) (gq_manyOf_s0 (y0 := L2d) c_3 h0_d) (by rw [xi_s' c_3]; omega) (hI_d.trans (by rw [fq_manyOf_d]; (try rw [if_neg c_3]); try rfl)) ls (lv_sub hl [0, 1, 2] rfl)
  exact hloop_1 12 (0 : Int32) (0 : Int32) (gq_manyOf_s1 ) (by decide) ((by rw [fq_manyOf])) ls (lv_sub hl [0, 1, 2] rfl)

def fq_alone_d (a0 : Int32) (a1 : Int32) : Nat → (Int32) → (Int64) → (Int64) → (Int32) → (Int32) → (Int32) → (Int32) → (Nat → Int64) → (Nat → Int64) → (Nat → Int32) → Int32 × (Int32) × (Int64) × (Int64) × (Int32) × (Int32) × (Int32) × (Int32) × (Nat → Int64) × (Nat → Int64) × (Nat → Int32)
  | 0, L3d, m_gotYear_d, m_gotDay_d, m_isError_d, m_manyGot_d, m_firstGot_d, m_lastGot_d, f_names_d, f_value_d, f_can_d => (xL ((fq_told3 a1 m_manyGot_d m_firstGot_d m_lastGot_d)) (fun r_19 => (r_19, (0 : Int32), m_gotYear_d, m_gotDay_d, m_isError_d, m_manyGot_d, m_firstGot_d, m_lastGot_d, f_names_d, f_value_d, f_can_d)))
  | n + 1, L3d, m_gotYear_d, m_gotDay_d, m_isError_d, m_manyGot_d, m_firstGot_d, m_lastGot_d, f_names_d, f_value_d, f_can_d => (if 20000 ≤ L3d then (xL ((fq_told3 a1 m_manyGot_d m_firstGot_d m_lastGot_d)) (fun r_21 => (r_21, (0 : Int32), m_gotYear_d, m_gotDay_d, m_isError_d, m_manyGot_d, m_firstGot_d, m_lastGot_d, f_names_d, f_value_d, f_can_d))) else (if f_can_d (((20000 * a0) + L3d).toNatClampNeg) = 0 then fq_alone_d a0 a1 n (L3d + 1) m_gotYear_d m_gotDay_d m_isError_d m_manyGot_d m_firstGot_d m_lastGot_d f_names_d f_value_d f_can_d else (if 0 ≤ m_firstGot_d then fq_alone_d a0 a1 n (L3d + 1) m_gotYear_d m_gotDay_d m_isError_d (m_manyGot_d + 1) m_firstGot_d L3d f_names_d f_value_d f_can_d else fq_alone_d a0 a1 n (L3d + 1) m_gotYear_d m_gotDay_d m_isError_d (m_manyGot_d + 1) L3d L3d f_names_d f_value_d f_can_d)))
def fq_alone (f_sky : Nat → Int32) (f_landHas : Nat → Int32) (f_first : Nat → Int32) (f_last : Nat → Int32) (f_born : Nat → Int64) (f_died : Nat → Int64) (f_noteHas : Nat → Int32) (f_knot : Nat → Int32) (f_part : Nat → Int32) (f_other : Nat → Int32) (f_names : Nat → Int64) (f_value : Nat → Int64) (f_can : Nat → Int32) (a0 : Int32) (a1 : Int32) (m_lands : Int32) (m_notes : Int32) (m_gotYear : Int64) (m_gotDay : Int64) (m_isError : Int32) (m_manyGot : Int32) (m_firstGot : Int32) (m_lastGot : Int32) : Int32 × (Int32) × (Int64) × (Int64) × (Int32) × (Int32) × (Int32) × (Int32) × (Nat → Int64) × (Nat → Int64) × (Nat → Int32) := (xL ((fq_isNote a0 m_notes)) (fun r_1 => (if r_1 = 0 then ((-1 : Int32), (0 : Int32), m_gotYear, m_gotDay, m_isError, m_manyGot, m_firstGot, m_lastGot, f_names, f_value, f_can) else (xL ((fq_isIn a1 (0 : Int32) (2 : Int32))) (fun r_5 => (if r_5 = 0 then ((-1 : Int32), (0 : Int32), m_gotYear, m_gotDay, m_isError, m_manyGot, m_firstGot, m_lastGot, f_names, f_value, f_can) else (xL ((fq_layCan f_sky f_landHas f_first f_last f_born f_died f_noteHas f_knot f_part f_other f_names f_value f_can a0 m_lands m_gotYear m_gotDay m_isError)) (fun u_10 => fq_alone_d a0 a1 20000 (0 : Int32) u_10.1 u_10.2.1 u_10.2.2.1 (0 : Int32) (-1 : Int32) (-1 : Int32) u_10.2.2.2.1 u_10.2.2.2.2.1 u_10.2.2.2.2.2))))))))
theorem gq_alone_s0 {y0 : Int32} {y1 : Int32} (h0 : ¬ (y0 < 0)) (h1 : y0 < y1) (h2 : ¬ (y1 < 0)) (h3 : y1 ≤ 12) : ¬ (y0 < 0) := h0
theorem gq_alone_s1 {y0 : Int32} {y1 : Int32} (h0 : ¬ (y0 < 0)) (h1 : y0 < y1) (h2 : ¬ (y1 < 0)) (h3 : y1 ≤ 12) : y0 ≤ 11 := by lia
theorem gq_alone_s2 {y0 : Int32} {y1 : Int32} (h0 : ¬ (y0 < 0)) (h1 : y0 < y1) (h2 : ¬ (y1 < 0)) (h3 : y1 ≤ 12) : ¬ (y0 < 0) ∧ y0 < y1 := ⟨h0, h1⟩
theorem gq_alone_s3 {y0 : Int32} {y1 : Int32} (h0 : ¬ (y0 < 0)) (h1 : y0 < y1) (h2 : ¬ (y1 < 0)) (h3 : y1 ≤ 12) : ¬ (y0 < 0) ∧ y0 < y1 := gq_alone_s2 h0 h1 h2 h3
theorem gq_alone_s4 {y0 : Int32} {y1 : Int32} (h0 : ¬ (y0 < 0)) (h1 : y0 < y1) (h2 : ¬ (y1 < 0)) (h3 : y1 ≤ 12) : ¬ (y0 < 0) ∧ y0 ≤ 11 := by lia
theorem gq_alone_s5 {y0 : Int32} (h0 : ¬ (20000 ≤ y0)) (h1 : ¬ (y0 < 0)) : ¬ (y0 < 0) ∧ y0 ≤ 19999 := by lia
theorem gq_alone_s6 {y0 : Int32} (h0 : ¬ (20000 ≤ y0)) (h1 : ¬ (y0 < 0)) : ¬ ((y0 + 1) < 0) := by lia
theorem gq_alone_s7 {y0 : Int32} (h0 : ¬ (20000 ≤ y0)) (h1 : ¬ (y0 < 0)) : ¬ ((y0 + 1) < 0) := by lia
theorem gq_alone_s8 {y0 : Int32} (h0 : ¬ (20000 ≤ y0)) (h1 : ¬ (y0 < 0)) : ¬ ((y0 + 1) < 0) := by lia
theorem gq_alone_s9  : ¬ ((0 : Int32) < 0) := (by decide)
theorem dX12_alone_0 : decode cX12_alone 0 = .ok (.aload_n 0, 1) := zk_42 (by decide +kernel)
theorem dX12_alone_1 : decode cX12_alone 1 = .ok (.iconst 0, 1) := zk_3 (by decide +kernel)
theorem dX12_alone_2 : decode cX12_alone 2 = .ok (.putfield 119, 3) := zk_181 (by decide +kernel)
theorem dX12_alone_5 : decode cX12_alone 5 = .ok (.aload_n 0, 1) := zk_42 (by decide +kernel)
theorem dX12_alone_6 : decode cX12_alone 6 = .ok (.iload_n 1, 1) := zk_27 (by decide +kernel)
theorem dX12_alone_7 : decode cX12_alone 7 = .ok (.invokevirtual 506, 3) := zk_182 (by decide +kernel)
theorem dX12_alone_10 : decode cX12_alone 10 = .ok (.ifCond .eq 12, 3) := zk_153 (by decide +kernel)
theorem dX12_alone_22 : decode cX12_alone 22 = .ok (.iconst (-1), 1) := zk_2 (by decide +kernel)
theorem dX12_alone_23 : decode cX12_alone 23 = .ok (.ireturn, 1) := zk_172 (by decide +kernel)
theorem dX12_alone_13 : decode cX12_alone 13 = .ok (.iload_n 2, 1) := zk_28 (by decide +kernel)
theorem dX12_alone_14 : decode cX12_alone 14 = .ok (.iconst 0, 1) := zk_3 (by decide +kernel)
theorem dX12_alone_15 : decode cX12_alone 15 = .ok (.iconst 2, 1) := zk_5 (by decide +kernel)
theorem dX12_alone_16 : decode cX12_alone 16 = .ok (.invokestatic 166, 3) := zk_184 (by decide +kernel)
theorem dX12_alone_19 : decode cX12_alone 19 = .ok (.ifCond .ne 5, 3) := zk_154 (by decide +kernel)
theorem dX12_alone_24 : decode cX12_alone 24 = .ok (.aload_n 0, 1) := zk_42 (by decide +kernel)
theorem dX12_alone_25 : decode cX12_alone 25 = .ok (.iload_n 1, 1) := zk_27 (by decide +kernel)
theorem dX12_alone_26 : decode cX12_alone 26 = .ok (.invokevirtual 509, 3) := zk_182 (by decide +kernel)
theorem dX12_alone_29 : decode cX12_alone 29 = .ok (.aload_n 0, 1) := zk_42 (by decide +kernel)
theorem dX12_alone_30 : decode cX12_alone 30 = .ok (.iconst 0, 1) := zk_3 (by decide +kernel)
theorem dX12_alone_31 : decode cX12_alone 31 = .ok (.putfield 497, 3) := zk_181 (by decide +kernel)
theorem dX12_alone_34 : decode cX12_alone 34 = .ok (.aload_n 0, 1) := zk_42 (by decide +kernel)
theorem dX12_alone_35 : decode cX12_alone 35 = .ok (.iconst (-1), 1) := zk_2 (by decide +kernel)
theorem dX12_alone_36 : decode cX12_alone 36 = .ok (.putfield 500, 3) := zk_181 (by decide +kernel)
theorem dX12_alone_39 : decode cX12_alone 39 = .ok (.aload_n 0, 1) := zk_42 (by decide +kernel)
theorem dX12_alone_40 : decode cX12_alone 40 = .ok (.iconst (-1), 1) := zk_2 (by decide +kernel)
theorem dX12_alone_41 : decode cX12_alone 41 = .ok (.putfield 503, 3) := zk_181 (by decide +kernel)
theorem dX12_alone_44 : decode cX12_alone 44 = .ok (.iconst 0, 1) := zk_3 (by decide +kernel)
theorem dX12_alone_45 : decode cX12_alone 45 = .ok (.istore_n 3, 1) := zk_62 (by decide +kernel)
theorem dX12_alone_46 : decode cX12_alone 46 = .ok (.iload_n 3, 1) := zk_29 (by decide +kernel)
theorem dX12_alone_47 : decode cX12_alone 47 = .ok (.sipush 20000, 3) := zk_17 (by decide +kernel)
theorem dX12_alone_50 : decode cX12_alone 50 = .ok (.if_icmp .ge 54, 3) := zk_162 (by decide +kernel)
theorem dX12_alone_104 : decode cX12_alone 104 = .ok (.aload_n 0, 1) := zk_42 (by decide +kernel)
theorem dX12_alone_105 : decode cX12_alone 105 = .ok (.iload_n 2, 1) := zk_28 (by decide +kernel)
theorem dX12_alone_106 : decode cX12_alone 106 = .ok (.invokevirtual 512, 3) := zk_182 (by decide +kernel)
theorem dX12_alone_109 : decode cX12_alone 109 = .ok (.ireturn, 1) := zk_172 (by decide +kernel)
theorem dX12_alone_53 : decode cX12_alone 53 = .ok (.aload_n 0, 1) := zk_42 (by decide +kernel)
theorem dX12_alone_54 : decode cX12_alone 54 = .ok (.getfield 88, 3) := zk_180 (by decide +kernel)
theorem dX12_alone_57 : decode cX12_alone 57 = .ok (.sipush 20000, 3) := zk_17 (by decide +kernel)
theorem dX12_alone_60 : decode cX12_alone 60 = .ok (.iload_n 1, 1) := zk_27 (by decide +kernel)
theorem dX12_alone_61 : decode cX12_alone 61 = .ok (.imul, 1) := zk_104 (by decide +kernel)
theorem dX12_alone_62 : decode cX12_alone 62 = .ok (.iload_n 3, 1) := zk_29 (by decide +kernel)
theorem dX12_alone_63 : decode cX12_alone 63 = .ok (.iadd, 1) := zk_96 (by decide +kernel)
theorem dX12_alone_64 : decode cX12_alone 64 = .ok (.baload, 1) := zk_51 (by decide +kernel)
theorem dX12_alone_65 : decode cX12_alone 65 = .ok (.ifCond .ne 6, 3) := zk_154 (by decide +kernel)
theorem dX12_alone_71 : decode cX12_alone 71 = .ok (.aload_n 0, 1) := zk_42 (by decide +kernel)
theorem dX12_alone_72 : decode cX12_alone 72 = .ok (.dup, 1) := zk_89 (by decide +kernel)
theorem dX12_alone_73 : decode cX12_alone 73 = .ok (.getfield 497, 3) := zk_180 (by decide +kernel)
theorem dX12_alone_76 : decode cX12_alone 76 = .ok (.iconst 1, 1) := zk_4 (by decide +kernel)
theorem dX12_alone_77 : decode cX12_alone 77 = .ok (.iadd, 1) := zk_96 (by decide +kernel)
theorem dX12_alone_78 : decode cX12_alone 78 = .ok (.putfield 497, 3) := zk_181 (by decide +kernel)
theorem dX12_alone_81 : decode cX12_alone 81 = .ok (.aload_n 0, 1) := zk_42 (by decide +kernel)
theorem dX12_alone_82 : decode cX12_alone 82 = .ok (.getfield 500, 3) := zk_180 (by decide +kernel)
theorem dX12_alone_85 : decode cX12_alone 85 = .ok (.ifCond .ge 8, 3) := zk_156 (by decide +kernel)
theorem dX12_alone_93 : decode cX12_alone 93 = .ok (.aload_n 0, 1) := zk_42 (by decide +kernel)
theorem dX12_alone_94 : decode cX12_alone 94 = .ok (.iload_n 3, 1) := zk_29 (by decide +kernel)
theorem dX12_alone_95 : decode cX12_alone 95 = .ok (.putfield 503, 3) := zk_181 (by decide +kernel)
theorem dX12_alone_98 : decode cX12_alone 98 = .ok (.iinc 3 1, 3) := zk_132 (by decide +kernel)
theorem dX12_alone_101 : decode cX12_alone 101 = .ok (.goto (-55), 3) := zk_167 (by decide +kernel)
theorem dX12_alone_88 : decode cX12_alone 88 = .ok (.aload_n 0, 1) := zk_42 (by decide +kernel)
theorem dX12_alone_89 : decode cX12_alone 89 = .ok (.iload_n 3, 1) := zk_29 (by decide +kernel)
theorem dX12_alone_90 : decode cX12_alone 90 = .ok (.putfield 500, 3) := zk_181 (by decide +kernel)
theorem dX12_alone_68 : decode cX12_alone 68 = .ok (.goto 30, 3) := zk_167 (by decide +kernel)
set_option maxHeartbeats 4000000 in
set_option maxRecDepth 100000 in
theorem gq_alone (l : Launch) (dC : Nat → ClassId) (dI : Nat → Nat → Nat) (mq : Nat) (g : Nat → Int32) (gl : Nat → Int64) (rf : Nat → Nat) (ck : Nat → ClassId) (f_sky : Nat → Int32) (f_landHas : Nat → Int32) (f_first : Nat → Int32) (f_last : Nat → Int32) (f_born : Nat → Int64) (f_died : Nat → Int64) (f_noteHas : Nat → Int32) (f_knot : Nat → Int32) (f_part : Nat → Int32) (f_other : Nat → Int32) (f_names : Nat → Int64) (f_value : Nat → Int64) (f_can : Nat → Int32) (a0 : Int32) (a1 : Int32) (sz : Nat) (hnt0 : ¬ (g 16) < 0) (hnt2 : (g 16) ≤ 12) (hfe0 : ¬ (g 13) < 0) (hfe4 : (g 13) ≤ 4) (hFA : ∀ k : Int32, ¬ k < 0 → k < (g 13) → ¬ (f_first k.toNatClampNeg) < 0 ∧ (f_last k.toNatClampNeg) ≤ 64 ∧ ¬ (f_last k.toNatClampNeg) < 1) (hKA : ∀ k : Nat, k < 64 → xKV f_knot f_part f_other k) (hln0 : ¬ (g 12) < 0) (hln4 : (g 12) ≤ 4) (hLZ : ∀ k : Int32, ¬ k < 0 → k < (g 12) → ¬ (f_landHas ((3 * k).toNatClampNeg)) = 0) (hs0 : ¬ (f_sky 0) < 1) (hs2 : ¬ (f_sky 2) < 1) (hs5 : ¬ (f_sky 5) < 1) (hp0 : ¬ (g 14) < 0) (hp6 : (g 14) ≤ 6) (hNA : ∀ k : Int32, ¬ k < 0 → k < (g 16) → (¬ fq_isOf (f_noteHas ((11 * k).toNatClampNeg)) 5 = 0 → ¬ (f_noteHas (((11 * k) + 7).toNatClampNeg)) < 0 ∧ (f_noteHas (((11 * k) + 7).toNatClampNeg)) < (g 14)) ∧ (¬ fq_isOf (f_noteHas ((11 * k).toNatClampNeg)) 6 = 0 → ¬ (f_noteHas (((11 * k) + 8).toNatClampNeg)) < 0 ∧ (f_noteHas (((11 * k) + 8).toNatClampNeg)) < (g 13)) ∧ (¬ fq_isOf (f_noteHas ((11 * k).toNatClampNeg)) 7 = 0 → ¬ (f_noteHas (((11 * k) + 9).toNatClampNeg)) < 0 ∧ (f_noteHas (((11 * k) + 9).toNatClampNeg)) < k)) : Met l yX12_alone (Cond.code yX12_alone cX12_alone 4 (some .int) :: wsL_law) ({ frames := 5, cells := 0, slots := 0, locals := 127 }) (va_Pc [.ref mq, .int a0, .int a1] (fun U => U.heap.size = sz ∧ va_P (dC, dI) vwCl [(mq, .inr (12, mF g gl rf)), (eA0 (rf 24) (ck 24) 14 f_sky), (eA0 (rf 29) (ck 29) 24 f_landHas), (eA0 (rf 31) (ck 31) 8 f_first), (eA0 (rf 32) (ck 32) 8 f_last), (eA1 (rf 34) (ck 34) 12 f_born), (eA1 (rf 35) (ck 35) 12 f_died), (eA0 (rf 40) (ck 40) 264 f_noteHas), (eA0 (rf 41) (ck 41) 128 f_knot), (eA0 (rf 42) (ck 42) 128 f_part), (eA0 (rf 43) (ck 43) 128 f_other), (eA1 (rf 55) (ck 55) 6 f_names), (eA1 (rf 56) (ck 56) 64 f_value), (eA0 (rf 61) (ck 61) 240000 f_can)] U.heap ∧ va_K (dC, dI) vwCl [((ck 24), .int), ((ck 29), .int), ((ck 31), .int), ((ck 32), .int), ((ck 34), .long), ((ck 35), .long), ((ck 40), .int), ((ck 41), .int), ((ck 42), .int), ((ck 43), .int), ((ck 55), .long), ((ck 56), .long), ((ck 61), .boolean)] U ∧ va_D (fun _ => True) [(mq, .inr (12, mF g gl rf)), (eA0 (rf 24) (ck 24) 14 f_sky), (eA0 (rf 29) (ck 29) 24 f_landHas), (eA0 (rf 31) (ck 31) 8 f_first), (eA0 (rf 32) (ck 32) 8 f_last), (eA1 (rf 34) (ck 34) 12 f_born), (eA1 (rf 35) (ck 35) 12 f_died), (eA0 (rf 40) (ck 40) 264 f_noteHas), (eA0 (rf 41) (ck 41) 128 f_knot), (eA0 (rf 42) (ck 42) 128 f_part), (eA0 (rf 43) (ck 43) 128 f_other), (eA1 (rf 55) (ck 55) 6 f_names), (eA1 (rf 56) (ck 56) 64 f_value), (eA0 (rf 61) (ck 61) 240000 f_can)])) (va_Qi (fun (r : Int32) (u : (Int32) × (Int64) × (Int64) × (Int32) × (Int32) × (Int32) × (Int32) × (Nat → Int64) × (Nat → Int64) × (Nat → Int32)) => r = (fq_alone f_sky f_landHas f_first f_last f_born f_died f_noteHas f_knot f_part f_other f_names f_value f_can a0 a1 (g 12) (g 16) (gl 53) (gl 54) (g 57) (g 62) (g 63) (g 64)).1 ∧ u = (fq_alone f_sky f_landHas f_first f_last f_born f_died f_noteHas f_knot f_part f_other f_names f_value f_can a0 a1 (g 12) (g 16) (gl 53) (gl 54) (g 57) (g 62) (g 63) (g 64)).2) (fun (u : (Int32) × (Int64) × (Int64) × (Int32) × (Int32) × (Int32) × (Int32) × (Nat → Int64) × (Nat → Int64) × (Nat → Int32)) t => va_P (dC, dI) vwCl [(mq, .inr (12, mF (upd (upd (upd (upd (upd g 2 u.1) 57 u.2.2.2.1) 62 u.2.2.2.2.1) 63 u.2.2.2.2.2.1) 64 u.2.2.2.2.2.2.1) (vp_updL (vp_updL gl 53 u.2.1) 54 u.2.2.1) rf)), (eA0 (rf 24) (ck 24) 14 f_sky), (eA0 (rf 29) (ck 29) 24 f_landHas), (eA0 (rf 31) (ck 31) 8 f_first), (eA0 (rf 32) (ck 32) 8 f_last), (eA1 (rf 34) (ck 34) 12 f_born), (eA1 (rf 35) (ck 35) 12 f_died), (eA0 (rf 40) (ck 40) 264 f_noteHas), (eA0 (rf 41) (ck 41) 128 f_knot), (eA0 (rf 42) (ck 42) 128 f_part), (eA0 (rf 43) (ck 43) 128 f_other), (eA1 (rf 55) (ck 55) 6 u.2.2.2.2.2.2.2.1), (eA1 (rf 56) (ck 56) 64 u.2.2.2.2.2.2.2.2.1), (eA0 (rf 61) (ck 61) 240000 u.2.2.2.2.2.2.2.2.2)] t.heap ∧ va_K (dC, dI) vwCl [] t ∧ va_D (va_A [(mq, .inr (12, mF g gl rf)), (eA0 (rf 24) (ck 24) 14 f_sky), (eA0 (rf 29) (ck 29) 24 f_landHas), (eA0 (rf 31) (ck 31) 8 f_first), (eA0 (rf 32) (ck 32) 8 f_last), (eA1 (rf 34) (ck 34) 12 f_born), (eA1 (rf 35) (ck 35) 12 f_died), (eA0 (rf 40) (ck 40) 264 f_noteHas), (eA0 (rf 41) (ck 41) 128 f_knot), (eA0 (rf 42) (ck 42) 128 f_part), (eA0 (rf 43) (ck 43) 128 f_other), (eA1 (rf 55) (ck 55) 6 f_names), (eA1 (rf 56) (ck 56) 64 f_value), (eA0 (rf 61) (ck 61) 240000 f_can)] sz) [(mq, .inr (12, mF (upd (upd (upd (upd (upd g 2 u.1) 57 u.2.2.2.1) 62 u.2.2.2.2.1) 63 u.2.2.2.2.2.1) 64 u.2.2.2.2.2.2.1) (vp_updL (vp_updL gl 53 u.2.1) 54 u.2.2.1) rf)), (eA0 (rf 24) (ck 24) 14 f_sky), (eA0 (rf 29) (ck 29) 24 f_landHas), (eA0 (rf 31) (ck 31) 8 f_first), (eA0 (rf 32) (ck 32) 8 f_last), (eA1 (rf 34) (ck 34) 12 f_born), (eA1 (rf 35) (ck 35) 12 f_died), (eA0 (rf 40) (ck 40) 264 f_noteHas), (eA0 (rf 41) (ck 41) 128 f_knot), (eA0 (rf 42) (ck 42) 128 f_part), (eA0 (rf 43) (ck 43) 128 f_other), (eA1 (rf 55) (ck 55) 6 u.2.2.2.2.2.2.2.1), (eA1 (rf 56) (ck 56) 64 u.2.2.2.2.2.2.2.2.1), (eA0 (rf 61) (ck 61) 240000 u.2.2.2.2.2.2.2.2.2)]) (va_A [(mq, .inr (12, mF g gl rf)), (eA0 (rf 24) (ck 24) 14 f_sky), (eA0 (rf 29) (ck 29) 24 f_landHas), (eA0 (rf 31) (ck 31) 8 f_first), (eA0 (rf 32) (ck 32) 8 f_last), (eA1 (rf 34) (ck 34) 12 f_born), (eA1 (rf 35) (ck 35) 12 f_died), (eA0 (rf 40) (ck 40) 264 f_noteHas), (eA0 (rf 41) (ck 41) 128 f_knot), (eA0 (rf 42) (ck 42) 128 f_part), (eA0 (rf 43) (ck 43) 128 f_other), (eA1 (rf 55) (ck 55) 6 f_names), (eA1 (rf 56) (ck 56) 64 f_value), (eA0 (rf 61) (ck 61) 240000 f_can)] sz)) 0 0 (va_A [(mq, .inr (12, mF g gl rf)), (eA0 (rf 24) (ck 24) 14 f_sky), (eA0 (rf 29) (ck 29) 24 f_landHas), (eA0 (rf 31) (ck 31) 8 f_first), (eA0 (rf 32) (ck 32) 8 f_last), (eA1 (rf 34) (ck 34) 12 f_born), (eA1 (rf 35) (ck 35) 12 f_died), (eA0 (rf 40) (ck 40) 264 f_noteHas), (eA0 (rf 41) (ck 41) 128 f_knot), (eA0 (rf 42) (ck 42) 128 f_part), (eA0 (rf 43) (ck 43) 128 f_other), (eA1 (rf 55) (ck 55) 6 f_names), (eA1 (rf 56) (ck 56) 64 f_value), (eA0 (rf 61) (ck 61) 240000 f_can)] sz) := by
  refine Met.ofW (cc := cX12_alone) (maxL := 4) (ret := (some .int)) (by decide) rfl ?_
  intro p e s m args below meth c s₁ B hml hv
  obtain ⟨rfl, hsz, hP, hK, hD0⟩ := hv
  have hx := B.exec
  have hb := B.bytes
  have hr := B.returns
  have hts := atoms_spec (ws := Cond.code yX12_alone cX12_alone 4 (some .int) :: wsL_law) B.pre
  have htw : ∀ w ∈ wsL_law, w.before _ s = true := fun w h => hts w (List.mem_cons_of_mem _ h)
  have hown : s.vm.findClass RX12 = some m.cls := findClass_of_methodNamed B.named
  have hlocks := B.notSynchronized
  subst hsz
  have hD := hD0.self (sz := s.heap.size)
  generalize hAe : va_A [(mq, .inr (12, mF g gl rf)), (eA0 (rf 24) (ck 24) 14 f_sky), (eA0 (rf 29) (ck 29) 24 f_landHas), (eA0 (rf 31) (ck 31) 8 f_first), (eA0 (rf 32) (ck 32) 8 f_last), (eA1 (rf 34) (ck 34) 12 f_born), (eA1 (rf 35) (ck 35) 12 f_died), (eA0 (rf 40) (ck 40) 264 f_noteHas), (eA0 (rf 41) (ck 41) 128 f_knot), (eA0 (rf 42) (ck 42) 128 f_part), (eA0 (rf 43) (ck 43) 128 f_other), (eA1 (rf 55) (ck 55) 6 f_names), (eA1 (rf 56) (ck 56) 64 f_value), (eA0 (rf 61) (ck 61) 240000 f_can)] s.heap.size = A at hD ⊢
  have hA : ∀ q : Nat, s.heap.size ≤ q → A q := fun q h => by rw [← hAe]; exact Or.inr h
  obtain ⟨H, rH⟩ : ∃ z : Heap, z = s.heap := ⟨_, rfl⟩
  have hS : va_S A s.heap H [] := by rw [rH]; exact va_S.rf
  have hP : va_P (dC, dI) vwCl [(mq, .inr (12, mF g gl rf)), (eA0 (rf 24) (ck 24) 14 f_sky), (eA0 (rf 29) (ck 29) 24 f_landHas), (eA0 (rf 31) (ck 31) 8 f_first), (eA0 (rf 32) (ck 32) 8 f_last), (eA1 (rf 34) (ck 34) 12 f_born), (eA1 (rf 35) (ck 35) 12 f_died), (eA0 (rf 40) (ck 40) 264 f_noteHas), (eA0 (rf 41) (ck 41) 128 f_knot), (eA0 (rf 42) (ck 42) 128 f_part), (eA0 (rf 43) (ck 43) 128 f_other), (eA1 (rf 55) (ck 55) 6 f_names), (eA1 (rf 56) (ck 56) 64 f_value), (eA0 (rf 61) (ck 61) 240000 f_can)] H := by rw [rH]; exact hP
  rw [← rH]
  have hl := lv_entry ([.ref mq, .int a0, .int a1]) (n := 4) (Nat.le_of_ble_eq_true rfl)
  rw [lg_entry_eq]
  generalize (lg_sl ([.ref mq, .int a0, .int a1]) ++ List.replicate (4 - (lg_sl ([.ref mq, .int a0, .int a1])).length) Slot.unset).toArray = ls at hl ⊢
  have hl : lv_has ls 4 [(0, .ref mq), (1, .int a0), (2, .int a1)] := hl
  refine lv_aload_n hx hb dX12_alone_0 rfl (lv_at hl 0 rfl) ?_
  refine lv_iconst (v := 0) hx hb dX12_alone_1 (by decide) ?_
  refine va_put (D := (dC, dI)) (ci := 12) (v := .int 0) (ty := tyX12 2) (C := RX12) (T := TX12) (N := 76) hx hb htw inlX12 tyX12 tyX12_ok nmX12 hown hK hP hD hS 0 rfl rfl 2 (by decide) (htw _ (ck_12 _ (List.mem_of_getElem? (i := 16) rfl))) (fun _ h9 => h9) rfl (tyX12_ok 2 (by decide)) rfl rfl (Nat.le_of_ble_eq_true rfl) dX12_alone_2 (fun H locs hP hD hS => ?_)
  obtain ⟨hP, hD⟩ := zre [(mq, .inr (12, mF (upd g 2 0) gl rf)), (eA0 (rf 24) (ck 24) 14 f_sky), (eA0 (rf 29) (ck 29) 24 f_landHas), (eA0 (rf 31) (ck 31) 8 f_first), (eA0 (rf 32) (ck 32) 8 f_last), (eA1 (rf 34) (ck 34) 12 f_born), (eA1 (rf 35) (ck 35) 12 f_died), (eA0 (rf 40) (ck 40) 264 f_noteHas), (eA0 (rf 41) (ck 41) 128 f_knot), (eA0 (rf 42) (ck 42) 128 f_part), (eA0 (rf 43) (ck 43) 128 f_other), (eA1 (rf 55) (ck 55) 6 f_names), (eA1 (rf 56) (ck 56) 64 f_value), (eA0 (rf 61) (ck 61) 240000 f_can)] hP hD rfl
  refine lv_aload_n hx hb dX12_alone_5 rfl (lv_at hl 0 rfl) ?_
  refine lv_iload_n hx hb dX12_alone_6 rfl (lv_at hl 1 rfl) ?_
  have hPc := hP.sub (ws' := [(mq, .inr (12, mF (upd g 2 0) gl rf))]) [0] rfl
  have hKc := hK.sub (tys' := []) [] rfl
  refine vp_callSi (W.runV (As := [.int a0]) (rest := []) ⟨hx, hb, hml, hown, htw⟩ (gq_isNote l dC dI mq (upd g 2 0) gl rf a0) (cwV 1 htw (xg_V (ck_59 _ (List.mem_of_getElem? (i := 3) rfl)) (ck_59 _ (List.mem_of_getElem? (i := 4) rfl)) (ck_59 _ (List.mem_of_getElem? (i := 5) rfl)) (ck_1 _ (List.mem_of_getElem? (i := 5) rfl)) (ck_59 _ (List.mem_of_getElem? (i := 6) rfl))) rfl rfl rfl (by exact ⟨rfl, hdc_14.1, hdc_14.2, hdd_26⟩) ⟨Nat.le_of_ble_eq_true rfl, Nat.le_of_ble_eq_true rfl⟩) ⟨fun a U g mk q => by obtain ⟨q0, qP, qK⟩ := q; exact ⟨q0, qP, va_K.moved (u := U) (U := U.calling g mk a) (Vm.Alike.refl U.vm) qK⟩, va_recv hKc hPc (ci := 12) (q0 := 0) rfl rfl, fun U hU hW => ⟨rfl, by rw [hU]; exact hPc, va_K.moved hW.alike hKc⟩⟩ rfl rfl hl.1 rfl (lv_room (Nat.le_of_ble_eq_true rfl)) dX12_alone_7 ⟨Nat.le_of_ble_eq_true rfl, Nat.le_of_ble_eq_true rfl⟩) (fun r_1 hw => ?_)
  try dsimp only at hw
  obtain ⟨hw, hb_r_1, hp_2, hp_3⟩ := hw
  have hq_r_1 : r_1 = (fq_isNote a0 (g 16)) := hw
  refine lv_if_eq (tgt := 22) hx hb dX12_alone_10 (by decide) (fun c_4 => ?_) (fun c_4 => ?_)
  · refine lv_iconst (v := (-1)) hx hb dX12_alone_22 (by decide) ?_
    refine W.widen (k := 0) (n := 0) (by omega) (by omega) ?_
    have hP9 := hP
    have hD9 := hD
    have hK9 := hK.sub (tys' := []) [] rfl
    exact W.iret (v := (-1)) hx hb hr (fun t ht hW => ⟨⟨(-1), (0, (gl 53), (gl 54), (g 57), (g 62), (g 63), (g 64), f_names, f_value, f_can), rfl, ((fun e9 => ⟨by rw [e9], by rw [e9]⟩ : fq_alone f_sky f_landHas f_first f_last f_born f_died f_noteHas f_knot f_part f_other f_names f_value f_can a0 a1 (g 12) (g 16) (gl 53) (gl 54) (g 57) (g 62) (g 63) (g 64) = ((-1 : Int32), (0 : Int32), (gl 53), (gl 54), (g 57), (g 62), (g 63), (g 64), f_names, f_value, f_can) → _) ((by rw [fq_alone]; (try rw [← hq_r_1]); (try rw [xL_eq]); (try rw [if_pos c_4]); try rfl))), by rw [ht]; exact hP9, va_K.moved hW.alike hK9, hD9⟩, hS.F ht⟩) hS.2.2 dX12_alone_23
  · refine lv_iload_n hx hb dX12_alone_13 rfl (lv_at hl 2 rfl) ?_
    refine lv_iconst (v := 0) hx hb dX12_alone_14 (by decide) ?_
    refine lv_iconst (v := 2) hx hb dX12_alone_15 (by decide) ?_
    have hPc := hP.sub (ws' := []) [] rfl
    have hKc := hK.sub (tys' := []) [] rfl
    refine vp_callSi (W.runS (As := [.int a1, .int 0, .int 2]) (rest := []) ⟨hx, hb, hml, hown, htw⟩ (gq_isIn l dC dI a1 (0 : Int32) (2 : Int32)) (va_cwS 3 htw (xg_S (ck_26 _ (List.mem_of_getElem? (i := 17) rfl)) (ck_26 _ (List.mem_of_getElem? (i := 18) rfl)) (ck_1 _ (List.mem_of_getElem? (i := 5) rfl)) (ck_26 _ (List.mem_of_getElem? (i := 19) rfl))) rfl rfl rfl (by exact ⟨hdc_14.1, hdc_14.2, hdd_38⟩) ⟨Nat.le_of_ble_eq_true rfl, Nat.le_of_ble_eq_true rfl⟩) ⟨fun a U g mk q => by obtain ⟨q0, qP, qK⟩ := q; exact ⟨q0, qP, va_K.moved (u := U) (U := U.calling g mk a) (Vm.Alike.refl U.vm) qK⟩, fun U hU hW => ⟨rfl, by rw [hU]; exact hPc, va_K.moved hW.alike hKc⟩⟩ rfl rfl hl.1 rfl (lv_room (Nat.le_of_ble_eq_true rfl)) dX12_alone_16 ⟨Nat.le_of_ble_eq_true rfl, Nat.le_of_ble_eq_true rfl⟩) (fun r_5 hw => ?_)
    try dsimp only at hw
    obtain ⟨hw, hb_r_5, hp_6, hp_7⟩ := hw
    have hq_r_5 : r_5 = (fq_isIn a1 (0 : Int32) (2 : Int32)) := hw
    refine lv_if_ne (tgt := 24) hx hb dX12_alone_19 (by decide) (fun c_8 => ?_) (fun c_8 => ?_)
    · refine lv_aload_n hx hb dX12_alone_24 rfl (lv_at hl 0 rfl) ?_
      refine lv_iload_n hx hb dX12_alone_25 rfl (lv_at hl 1 rfl) ?_
      obtain ⟨hPc, hDc, hFc, hCc⟩ := zsub3 (ws' := [(mq, .inr (12, mF (upd g 2 0) gl rf)), (eA0 (rf 24) (ck 24) 14 f_sky), (eA0 (rf 29) (ck 29) 24 f_landHas), (eA0 (rf 31) (ck 31) 8 f_first), (eA0 (rf 32) (ck 32) 8 f_last), (eA1 (rf 34) (ck 34) 12 f_born), (eA1 (rf 35) (ck 35) 12 f_died), (eA0 (rf 40) (ck 40) 264 f_noteHas), (eA0 (rf 41) (ck 41) 128 f_knot), (eA0 (rf 42) (ck 42) 128 f_part), (eA0 (rf 43) (ck 43) 128 f_other), (eA1 (rf 55) (ck 55) 6 f_names), (eA1 (rf 56) (ck 56) 64 f_value), (eA0 (rf 61) (ck 61) 240000 f_can)]) hP hD hS hA [0, 1, 2, 3, 4, 5, 6, 7, 8, 9, 10, 11, 12, 13] (by decide +kernel) rfl
      have hKc := hK.sub (tys' := [((ck 24), .int), ((ck 29), .int), ((ck 31), .int), ((ck 32), .int), ((ck 34), .long), ((ck 35), .long), ((ck 40), .int), ((ck 41), .int), ((ck 42), .int), ((ck 43), .int), ((ck 55), .long), ((ck 56), .long), ((ck 61), .boolean)]) [0, 1, 2, 3, 4, 5, 6, 7, 8, 9, 10, 11, 12] rfl
      refine va_callv (va_runV (As := [.int a0]) (rest := []) ⟨hx, hb, hml, hown, htw⟩ (gq_layCan l dC dI mq (upd g 2 0) gl rf ck f_sky f_landHas f_first f_last f_born f_died f_noteHas f_knot f_part f_other f_names f_value f_can a0 H.size (gq_alone_s0 (y0 := a0) (y1 := g 16) (hp_2.resolve_left c_4) (hp_3.resolve_left c_4) hnt0 hnt2) (gq_alone_s1 (y0 := a0) (y1 := g 16) (hp_2.resolve_left c_4) (hp_3.resolve_left c_4) hnt0 hnt2) hfe0 hfe4 hFA hKA hln0 hln4 hLZ hs0 hs2 hs5 hp0 hp6 (hNA a0 (gq_alone_s2 (y0 := a0) (y1 := g 16) (hp_2.resolve_left c_4) (hp_3.resolve_left c_4) hnt0 hnt2).1 (gq_alone_s2 (y0 := a0) (y1 := g 16) (hp_2.resolve_left c_4) (hp_3.resolve_left c_4) hnt0 hnt2).2).1 (hNA a0 (gq_alone_s3 (y0 := a0) (y1 := g 16) (hp_2.resolve_left c_4) (hp_3.resolve_left c_4) hnt0 hnt2).1 (gq_alone_s3 (y0 := a0) (y1 := g 16) (hp_2.resolve_left c_4) (hp_3.resolve_left c_4) hnt0 hnt2).2).2.1) (cwV 1 htw (xg_V (ck_59 _ (List.mem_of_getElem? (i := 7) rfl)) (ck_59 _ (List.mem_of_getElem? (i := 8) rfl)) (ck_59 _ (List.mem_of_getElem? (i := 9) rfl)) (ck_1 _ (List.mem_of_getElem? (i := 5) rfl)) (ck_59 _ (List.mem_of_getElem? (i := 10) rfl))) rfl rfl rfl (by exact ⟨rfl, hdc_14.1, hdc_14.2, hdd_9⟩) ⟨Nat.le_of_ble_eq_true rfl, Nat.le_of_ble_eq_true rfl⟩) ⟨fun a U g mk q => by obtain ⟨q0, q1, qP, qK, qD⟩ := q; exact ⟨q0, q1, qP, va_K.moved (u := U) (U := U.calling g mk a) (Vm.Alike.refl U.vm) qK, qD⟩, va_recv hKc hPc (ci := 12) (q0 := 0) rfl rfl, fun U hU hW => ⟨rfl, by rw [hU], by rw [hU]; exact hPc, va_K.moved hW.alike hKc, hDc.weaken (fun _ _ _ _ => trivial)⟩⟩ rfl rfl hl.1 rfl (lv_room (Nat.le_of_ble_eq_true rfl)) dX12_alone_26 ⟨Nat.le_of_ble_eq_true rfl, Nat.le_of_ble_eq_true rfl⟩) hS (fun q _ h => hFc q h) hFc (fun u_10 t H1 locs ht hvm hw hB hz1 hk1 hS => ?_)
      try dsimp only at hw
      obtain ⟨hP1, hK1, hD1⟩ := hB
      rw [ht] at hP1
      have hK1 := va_K.moved hvm.symm hK1
      have hK1 : va_K (dC, dI) vwCl [] s := hK1
      obtain ⟨hP, hD⟩ := va_join (wr := []) (w1 := [(mq, .inr (12, mF (upd (upd g 2 0) 57 u_10.2.2.1) (vp_updL (vp_updL gl 53 u_10.1) 54 u_10.2.1) rf)), (eA0 (rf 24) (ck 24) 14 f_sky), (eA0 (rf 29) (ck 29) 24 f_landHas), (eA0 (rf 31) (ck 31) 8 f_first), (eA0 (rf 32) (ck 32) 8 f_last), (eA1 (rf 34) (ck 34) 12 f_born), (eA1 (rf 35) (ck 35) 12 f_died), (eA0 (rf 40) (ck 40) 264 f_noteHas), (eA0 (rf 41) (ck 41) 128 f_knot), (eA0 (rf 42) (ck 42) 128 f_part), (eA0 (rf 43) (ck 43) 128 f_other), (eA1 (rf 55) (ck 55) 6 u_10.2.2.2.1), (eA1 (rf 56) (ck 56) 64 u_10.2.2.2.2.1), (eA0 (rf 61) (ck 61) 240000 u_10.2.2.2.2.2)]) hP hD [0, 1, 2, 3, 4, 5, 6, 7, 8, 9, 10, 11, 12, 13] [] hCc rfl (by decide +kernel) (by decide +kernel) hk1 hFc hP1 hD1
      generalize H1 = H at hP hS ⊢
      have hP : va_P (dC, dI) vwCl [(mq, .inr (12, mF (upd (upd g 2 0) 57 u_10.2.2.1) (vp_updL (vp_updL gl 53 u_10.1) 54 u_10.2.1) rf)), (eA0 (rf 24) (ck 24) 14 f_sky), (eA0 (rf 29) (ck 29) 24 f_landHas), (eA0 (rf 31) (ck 31) 8 f_first), (eA0 (rf 32) (ck 32) 8 f_last), (eA1 (rf 34) (ck 34) 12 f_born), (eA1 (rf 35) (ck 35) 12 f_died), (eA0 (rf 40) (ck 40) 264 f_noteHas), (eA0 (rf 41) (ck 41) 128 f_knot), (eA0 (rf 42) (ck 42) 128 f_part), (eA0 (rf 43) (ck 43) 128 f_other), (eA1 (rf 55) (ck 55) 6 u_10.2.2.2.1), (eA1 (rf 56) (ck 56) 64 u_10.2.2.2.2.1), (eA0 (rf 61) (ck 61) 240000 u_10.2.2.2.2.2)] H := hP
      have hD : va_D A [(mq, .inr (12, mF (upd (upd g 2 0) 57 u_10.2.2.1) (vp_updL (vp_updL gl 53 u_10.1) 54 u_10.2.1) rf)), (eA0 (rf 24) (ck 24) 14 f_sky), (eA0 (rf 29) (ck 29) 24 f_landHas), (eA0 (rf 31) (ck 31) 8 f_first), (eA0 (rf 32) (ck 32) 8 f_last), (eA1 (rf 34) (ck 34) 12 f_born), (eA1 (rf 35) (ck 35) 12 f_died), (eA0 (rf 40) (ck 40) 264 f_noteHas), (eA0 (rf 41) (ck 41) 128 f_knot), (eA0 (rf 42) (ck 42) 128 f_part), (eA0 (rf 43) (ck 43) 128 f_other), (eA1 (rf 55) (ck 55) 6 u_10.2.2.2.1), (eA1 (rf 56) (ck 56) 64 u_10.2.2.2.2.1), (eA0 (rf 61) (ck 61) 240000 u_10.2.2.2.2.2)] := hD
      refine W.widen (k := 0) (n := 0) (by omega) (by omega) ?_
      have hq_u_10 : u_10 = (fq_layCan f_sky f_landHas f_first f_last f_born f_died f_noteHas f_knot f_part f_other f_names f_value f_can a0 (g 12) (gl 53) (gl 54) (g 57)) := hw
      refine lv_aload_n hx hb dX12_alone_29 rfl (lv_at hl 0 rfl) ?_
      refine lv_iconst (v := 0) hx hb dX12_alone_30 (by decide) ?_
      refine va_put (D := (dC, dI)) (ci := 12) (v := .int 0) (ty := tyX12 62) (C := RX12) (T := TX12) (N := 76) hx hb htw inlX12 tyX12 tyX12_ok nmX12 hown hK hP hD hS 0 rfl rfl 62 (by decide) (htw _ (ck_59 _ (List.mem_of_getElem? (i := 0) rfl))) (fun _ h9 => h9) rfl (tyX12_ok 62 (by decide)) rfl rfl (Nat.le_of_ble_eq_true rfl) dX12_alone_31 (fun H locs hP hD hS => ?_)
      have hP : va_P (dC, dI) vwCl [(mq, .inr (12, mF (upd (upd (upd g 2 0) 57 u_10.2.2.1) 62 0) (vp_updL (vp_updL gl 53 u_10.1) 54 u_10.2.1) rf)), (eA0 (rf 24) (ck 24) 14 f_sky), (eA0 (rf 29) (ck 29) 24 f_landHas), (eA0 (rf 31) (ck 31) 8 f_first), (eA0 (rf 32) (ck 32) 8 f_last), (eA1 (rf 34) (ck 34) 12 f_born), (eA1 (rf 35) (ck 35) 12 f_died), (eA0 (rf 40) (ck 40) 264 f_noteHas), (eA0 (rf 41) (ck 41) 128 f_knot), (eA0 (rf 42) (ck 42) 128 f_part), (eA0 (rf 43) (ck 43) 128 f_other), (eA1 (rf 55) (ck 55) 6 u_10.2.2.2.1), (eA1 (rf 56) (ck 56) 64 u_10.2.2.2.2.1), (eA0 (rf 61) (ck 61) 240000 u_10.2.2.2.2.2)] H := hP
      have hD : va_D A [(mq, .inr (12, mF (upd (upd (upd g 2 0) 57 u_10.2.2.1) 62 0) (vp_updL (vp_updL gl 53 u_10.1) 54 u_10.2.1) rf)), (eA0 (rf 24) (ck 24) 14 f_sky), (eA0 (rf 29) (ck 29) 24 f_landHas), (eA0 (rf 31) (ck 31) 8 f_first), (eA0 (rf 32) (ck 32) 8 f_last), (eA1 (rf 34) (ck 34) 12 f_born), (eA1 (rf 35) (ck 35) 12 f_died), (eA0 (rf 40) (ck 40) 264 f_noteHas), (eA0 (rf 41) (ck 41) 128 f_knot), (eA0 (rf 42) (ck 42) 128 f_part), (eA0 (rf 43) (ck 43) 128 f_other), (eA1 (rf 55) (ck 55) 6 u_10.2.2.2.1), (eA1 (rf 56) (ck 56) 64 u_10.2.2.2.2.1), (eA0 (rf 61) (ck 61) 240000 u_10.2.2.2.2.2)] := hD
      refine lv_aload_n hx hb dX12_alone_34 rfl (lv_at hl 0 rfl) ?_
      refine lv_iconst (v := (-1)) hx hb dX12_alone_35 (by decide) ?_
      refine va_put (D := (dC, dI)) (ci := 12) (v := .int (-1)) (ty := tyX12 63) (C := RX12) (T := TX12) (N := 76) hx hb htw inlX12 tyX12 tyX12_ok nmX12 hown hK hP hD hS 0 rfl rfl 63 (by decide) (htw _ (ck_59 _ (List.mem_of_getElem? (i := 1) rfl))) (fun _ h9 => h9) rfl (tyX12_ok 63 (by decide)) rfl rfl (Nat.le_of_ble_eq_true rfl) dX12_alone_36 (fun H locs hP hD hS => ?_)
      have hP : va_P (dC, dI) vwCl [(mq, .inr (12, mF (upd (upd (upd (upd g 2 0) 57 u_10.2.2.1) 62 0) 63 (-1)) (vp_updL (vp_updL gl 53 u_10.1) 54 u_10.2.1) rf)), (eA0 (rf 24) (ck 24) 14 f_sky), (eA0 (rf 29) (ck 29) 24 f_landHas), (eA0 (rf 31) (ck 31) 8 f_first), (eA0 (rf 32) (ck 32) 8 f_last), (eA1 (rf 34) (ck 34) 12 f_born), (eA1 (rf 35) (ck 35) 12 f_died), (eA0 (rf 40) (ck 40) 264 f_noteHas), (eA0 (rf 41) (ck 41) 128 f_knot), (eA0 (rf 42) (ck 42) 128 f_part), (eA0 (rf 43) (ck 43) 128 f_other), (eA1 (rf 55) (ck 55) 6 u_10.2.2.2.1), (eA1 (rf 56) (ck 56) 64 u_10.2.2.2.2.1), (eA0 (rf 61) (ck 61) 240000 u_10.2.2.2.2.2)] H := hP
      have hD : va_D A [(mq, .inr (12, mF (upd (upd (upd (upd g 2 0) 57 u_10.2.2.1) 62 0) 63 (-1)) (vp_updL (vp_updL gl 53 u_10.1) 54 u_10.2.1) rf)), (eA0 (rf 24) (ck 24) 14 f_sky), (eA0 (rf 29) (ck 29) 24 f_landHas), (eA0 (rf 31) (ck 31) 8 f_first), (eA0 (rf 32) (ck 32) 8 f_last), (eA1 (rf 34) (ck 34) 12 f_born), (eA1 (rf 35) (ck 35) 12 f_died), (eA0 (rf 40) (ck 40) 264 f_noteHas), (eA0 (rf 41) (ck 41) 128 f_knot), (eA0 (rf 42) (ck 42) 128 f_part), (eA0 (rf 43) (ck 43) 128 f_other), (eA1 (rf 55) (ck 55) 6 u_10.2.2.2.1), (eA1 (rf 56) (ck 56) 64 u_10.2.2.2.2.1), (eA0 (rf 61) (ck 61) 240000 u_10.2.2.2.2.2)] := hD
      refine lv_aload_n hx hb dX12_alone_39 rfl (lv_at hl 0 rfl) ?_
      refine lv_iconst (v := (-1)) hx hb dX12_alone_40 (by decide) ?_
      refine va_put (D := (dC, dI)) (ci := 12) (v := .int (-1)) (ty := tyX12 64) (C := RX12) (T := TX12) (N := 76) hx hb htw inlX12 tyX12 tyX12_ok nmX12 hown hK hP hD hS 0 rfl rfl 64 (by decide) (htw _ (ck_59 _ (List.mem_of_getElem? (i := 2) rfl))) (fun _ h9 => h9) rfl (tyX12_ok 64 (by decide)) rfl rfl (Nat.le_of_ble_eq_true rfl) dX12_alone_41 (fun H locs hP hD hS => ?_)
      have hP : va_P (dC, dI) vwCl [(mq, .inr (12, mF (upd (upd (upd (upd (upd g 2 0) 57 u_10.2.2.1) 62 0) 63 (-1)) 64 (-1)) (vp_updL (vp_updL gl 53 u_10.1) 54 u_10.2.1) rf)), (eA0 (rf 24) (ck 24) 14 f_sky), (eA0 (rf 29) (ck 29) 24 f_landHas), (eA0 (rf 31) (ck 31) 8 f_first), (eA0 (rf 32) (ck 32) 8 f_last), (eA1 (rf 34) (ck 34) 12 f_born), (eA1 (rf 35) (ck 35) 12 f_died), (eA0 (rf 40) (ck 40) 264 f_noteHas), (eA0 (rf 41) (ck 41) 128 f_knot), (eA0 (rf 42) (ck 42) 128 f_part), (eA0 (rf 43) (ck 43) 128 f_other), (eA1 (rf 55) (ck 55) 6 u_10.2.2.2.1), (eA1 (rf 56) (ck 56) 64 u_10.2.2.2.2.1), (eA0 (rf 61) (ck 61) 240000 u_10.2.2.2.2.2)] H := hP
      have hD : va_D A [(mq, .inr (12, mF (upd (upd (upd (upd (upd g 2 0) 57 u_10.2.2.1) 62 0) 63 (-1)) 64 (-1)) (vp_updL (vp_updL gl 53 u_10.1) 54 u_10.2.1) rf)), (eA0 (rf 24) (ck 24) 14 f_sky), (eA0 (rf 29) (ck 29) 24 f_landHas), (eA0 (rf 31) (ck 31) 8 f_first), (eA0 (rf 32) (ck 32) 8 f_last), (eA1 (rf 34) (ck 34) 12 f_born), (eA1 (rf 35) (ck 35) 12 f_died), (eA0 (rf 40) (ck 40) 264 f_noteHas), (eA0 (rf 41) (ck 41) 128 f_knot), (eA0 (rf 42) (ck 42) 128 f_part), (eA0 (rf 43) (ck 43) 128 f_other), (eA1 (rf 55) (ck 55) 6 u_10.2.2.2.1), (eA1 (rf 56) (ck 56) 64 u_10.2.2.2.2.1), (eA0 (rf 61) (ck 61) 240000 u_10.2.2.2.2.2)] := hD
      refine lv_iconst (v := 0) hx hb dX12_alone_44 (by decide) ?_
      refine lv_istore_n (lv' := [(3, .int 0), (0, .ref mq), (1, .int a0), (2, .int a1)]) hx hb dX12_alone_45 rfl hl (by decide) rfl (fun ls hl => ?_)
      have hloop_17 : ∀ (n : Nat) (L3d : Int32) (m_gotYear_d : Int64) (m_gotDay_d : Int64) (m_isError_d : Int32) (m_manyGot_d : Int32) (m_firstGot_d : Int32) (m_lastGot_d : Int32) (f_names_d : Nat → Int64) (f_value_d : Nat → Int64) (f_can_d : Nat → Int32) (h0_d : ¬ L3d < 0) (hf_d : (20000 : Int32).toInt ≤ L3d.toInt + (n : Int)) (hI_d : fq_alone f_sky f_landHas f_first f_last f_born f_died f_noteHas f_knot f_part f_other f_names f_value f_can a0 a1 (g 12) (g 16) (gl 53) (gl 54) (g 57) (g 62) (g 63) (g 64) = fq_alone_d a0 a1 n L3d m_gotYear_d m_gotDay_d m_isError_d m_manyGot_d m_firstGot_d m_lastGot_d f_names_d f_value_d f_can_d) (H : Heap) (locs : List Loc) (ls : Array Slot) (hP : va_P (dC, dI) vwCl [(mq, .inr (12, mF (upd (upd (upd (upd (upd g 2 0) 57 m_isError_d) 62 m_manyGot_d) 63 m_firstGot_d) 64 m_lastGot_d) (vp_updL (vp_updL gl 53 m_gotYear_d) 54 m_gotDay_d) rf)), (eA0 (rf 24) (ck 24) 14 f_sky), (eA0 (rf 29) (ck 29) 24 f_landHas), (eA0 (rf 31) (ck 31) 8 f_first), (eA0 (rf 32) (ck 32) 8 f_last), (eA1 (rf 34) (ck 34) 12 f_born), (eA1 (rf 35) (ck 35) 12 f_died), (eA0 (rf 40) (ck 40) 264 f_noteHas), (eA0 (rf 41) (ck 41) 128 f_knot), (eA0 (rf 42) (ck 42) 128 f_part), (eA0 (rf 43) (ck 43) 128 f_other), (eA1 (rf 55) (ck 55) 6 f_names_d), (eA1 (rf 56) (ck 56) 64 f_value_d), (eA0 (rf 61) (ck 61) 240000 f_can_d)] H) (hD : va_D A [(mq, .inr (12, mF (upd (upd (upd (upd (upd g 2 0) 57 m_isError_d) 62 m_manyGot_d) 63 m_firstGot_d) 64 m_lastGot_d) (vp_updL (vp_updL gl 53 m_gotYear_d) 54 m_gotDay_d) rf)), (eA0 (rf 24) (ck 24) 14 f_sky), (eA0 (rf 29) (ck 29) 24 f_landHas), (eA0 (rf 31) (ck 31) 8 f_first), (eA0 (rf 32) (ck 32) 8 f_last), (eA1 (rf 34) (ck 34) 12 f_born), (eA1 (rf 35) (ck 35) 12 f_died), (eA0 (rf 40) (ck 40) 264 f_noteHas), (eA0 (rf 41) (ck 41) 128 f_knot), (eA0 (rf 42) (ck 42) 128 f_part), (eA0 (rf 43) (ck 43) 128 f_other), (eA1 (rf 55) (ck 55) 6 f_names_d), (eA1 (rf 56) (ck 56) 64 f_value_d), (eA0 (rf 61) (ck 61) 240000 f_can_d)]) (hS : va_S A s.heap H locs) (hl : lv_has ls 4 [(3, .int L3d), (0, .ref mq), (1, .int a0), (2, .int a1)]), W p l e (headSpec (Cond.code yX12_alone cX12_alone 4 (some .int) :: wsL_law) ({ frames := 5, cells := 0, slots := 0, locals := 127 })).room s m ([.ref mq, .int a0, .int a1] : List Value).toArray below meth c H locs 0 0 (MQ below (va_Qi (fun (r : Int32) (u : (Int32) × (Int64) × (Int64) × (Int32) × (Int32) × (Int32) × (Int32) × (Nat → Int64) × (Nat → Int64) × (Nat → Int32)) => r = (fq_alone f_sky f_landHas f_first f_last f_born f_died f_noteHas f_knot f_part f_other f_names f_value f_can a0 a1 (g 12) (g 16) (gl 53) (gl 54) (g 57) (g 62) (g 63) (g 64)).1 ∧ u = (fq_alone f_sky f_landHas f_first f_last f_born f_died f_noteHas f_knot f_part f_other f_names f_value f_can a0 a1 (g 12) (g 16) (gl 53) (gl 54) (g 57) (g 62) (g 63) (g 64)).2) (fun (u : (Int32) × (Int64) × (Int64) × (Int32) × (Int32) × (Int32) × (Int32) × (Nat → Int64) × (Nat → Int64) × (Nat → Int32)) t => va_P (dC, dI) vwCl [(mq, .inr (12, mF (upd (upd (upd (upd (upd g 2 u.1) 57 u.2.2.2.1) 62 u.2.2.2.2.1) 63 u.2.2.2.2.2.1) 64 u.2.2.2.2.2.2.1) (vp_updL (vp_updL gl 53 u.2.1) 54 u.2.2.1) rf)), (eA0 (rf 24) (ck 24) 14 f_sky), (eA0 (rf 29) (ck 29) 24 f_landHas), (eA0 (rf 31) (ck 31) 8 f_first), (eA0 (rf 32) (ck 32) 8 f_last), (eA1 (rf 34) (ck 34) 12 f_born), (eA1 (rf 35) (ck 35) 12 f_died), (eA0 (rf 40) (ck 40) 264 f_noteHas), (eA0 (rf 41) (ck 41) 128 f_knot), (eA0 (rf 42) (ck 42) 128 f_part), (eA0 (rf 43) (ck 43) 128 f_other), (eA1 (rf 55) (ck 55) 6 u.2.2.2.2.2.2.2.1), (eA1 (rf 56) (ck 56) 64 u.2.2.2.2.2.2.2.2.1), (eA0 (rf 61) (ck 61) 240000 u.2.2.2.2.2.2.2.2.2)] t.heap ∧ va_K (dC, dI) vwCl [] t ∧ va_D A [(mq, .inr (12, mF (upd (upd (upd (upd (upd g 2 u.1) 57 u.2.2.2.1) 62 u.2.2.2.2.1) 63 u.2.2.2.2.2.1) 64 u.2.2.2.2.2.2.1) (vp_updL (vp_updL gl 53 u.2.1) 54 u.2.2.1) rf)), (eA0 (rf 24) (ck 24) 14 f_sky), (eA0 (rf 29) (ck 29) 24 f_landHas), (eA0 (rf 31) (ck 31) 8 f_first), (eA0 (rf 32) (ck 32) 8 f_last), (eA1 (rf 34) (ck 34) 12 f_born), (eA1 (rf 35) (ck 35) 12 f_died), (eA0 (rf 40) (ck 40) 264 f_noteHas), (eA0 (rf 41) (ck 41) 128 f_knot), (eA0 (rf 42) (ck 42) 128 f_part), (eA0 (rf 43) (ck 43) 128 f_other), (eA1 (rf 55) (ck 55) 6 u.2.2.2.2.2.2.2.1), (eA1 (rf 56) (ck 56) 64 u.2.2.2.2.2.2.2.2.1), (eA0 (rf 61) (ck 61) 240000 u.2.2.2.2.2.2.2.2.2)]) A) ([.ref mq, .int a0, .int a1] : List Value).toArray s 0 0 A) (F0 m 46 ls []) := by
        intro n
        induction n with
        | zero =>
          intro L3d m_gotYear_d m_gotDay_d m_isError_d m_manyGot_d m_firstGot_d m_lastGot_d f_names_d f_value_d f_can_d h0_d hf_d hI_d H locs ls hP hD hS hl
          refine lv_iload_n hx hb dX12_alone_46 rfl (lv_at hl 0 rfl) ?_
          refine lv_sipush (v := 20000) hx hb dX12_alone_47 (by decide) ?_
          refine lv_icmp_ge (tgt := 104) hx hb dX12_alone_50 (by decide) (fun c_18 => ?_) (fun c_18 => absurd c_18 (fun h => h (xi_z hf_d)))
          refine lv_aload_n hx hb dX12_alone_104 rfl (lv_at hl 1 rfl) ?_
          refine lv_iload_n hx hb dX12_alone_105 rfl (lv_at hl 3 rfl) ?_
          have hPc := hP.sub (ws' := [(mq, .inr (12, mF (upd (upd (upd (upd (upd g 2 0) 57 m_isError_d) 62 m_manyGot_d) 63 m_firstGot_d) 64 m_lastGot_d) (vp_updL (vp_updL gl 53 m_gotYear_d) 54 m_gotDay_d) rf))]) [0] rfl
          have hKc := hK.sub (tys' := []) [] rfl
          refine vp_callSi (W.runV (As := [.int a1]) (rest := []) ⟨hx, hb, hml, hown, htw⟩ (gq_told3 l dC dI mq (upd (upd (upd (upd (upd g 2 0) 57 m_isError_d) 62 m_manyGot_d) 63 m_firstGot_d) 64 m_lastGot_d) (vp_updL (vp_updL gl 53 m_gotYear_d) 54 m_gotDay_d) rf a1) (cwV 1 htw (xg_V (ck_59 _ (List.mem_of_getElem? (i := 15) rfl)) (ck_59 _ (List.mem_of_getElem? (i := 16) rfl)) (ck_59 _ (List.mem_of_getElem? (i := 17) rfl)) (ck_1 _ (List.mem_of_getElem? (i := 5) rfl)) (ck_59 _ (List.mem_of_getElem? (i := 18) rfl))) rfl rfl rfl (by exact ⟨rfl, hdc_14.1, hdc_14.2, hdd_2⟩) ⟨Nat.le_of_ble_eq_true rfl, Nat.le_of_ble_eq_true rfl⟩) ⟨fun a U g mk q => by obtain ⟨q0, qP, qK⟩ := q; exact ⟨q0, qP, va_K.moved (u := U) (U := U.calling g mk a) (Vm.Alike.refl U.vm) qK⟩, va_recv hKc hPc (ci := 12) (q0 := 0) rfl rfl, fun U hU hW => ⟨rfl, by rw [hU]; exact hPc, va_K.moved hW.alike hKc⟩⟩ rfl rfl hl.1 rfl (lv_room (Nat.le_of_ble_eq_true rfl)) dX12_alone_106 ⟨Nat.le_of_ble_eq_true rfl, Nat.le_of_ble_eq_true rfl⟩) (fun r_19 hw => ?_)
          try dsimp only at hw
          have hq_r_19 : r_19 = (fq_told3 a1 m_manyGot_d m_firstGot_d m_lastGot_d) := hw
          refine W.widen (k := 0) (n := 0) (by omega) (by omega) ?_
          obtain ⟨hP9, hD9⟩ := zsub2 (ws' := [(mq, .inr (12, mF (upd (upd (upd (upd (upd g 2 0) 57 m_isError_d) 62 m_manyGot_d) 63 m_firstGot_d) 64 m_lastGot_d) (vp_updL (vp_updL gl 53 m_gotYear_d) 54 m_gotDay_d) rf)), (eA0 (rf 24) (ck 24) 14 f_sky), (eA0 (rf 29) (ck 29) 24 f_landHas), (eA0 (rf 31) (ck 31) 8 f_first), (eA0 (rf 32) (ck 32) 8 f_last), (eA1 (rf 34) (ck 34) 12 f_born), (eA1 (rf 35) (ck 35) 12 f_died), (eA0 (rf 40) (ck 40) 264 f_noteHas), (eA0 (rf 41) (ck 41) 128 f_knot), (eA0 (rf 42) (ck 42) 128 f_part), (eA0 (rf 43) (ck 43) 128 f_other), (eA1 (rf 55) (ck 55) 6 f_names_d), (eA1 (rf 56) (ck 56) 64 f_value_d), (eA0 (rf 61) (ck 61) 240000 f_can_d)]) hP hD [0, 1, 2, 3, 4, 5, 6, 7, 8, 9, 10, 11, 12, 13] (by decide +kernel) rfl
          have hK9 := hK.sub (tys' := []) [] rfl
          exact W.iret (v := r_19) hx hb hr (fun t ht hW => ⟨⟨r_19, (0, m_gotYear_d, m_gotDay_d, m_isError_d, m_manyGot_d, m_firstGot_d, m_lastGot_d, f_names_d, f_value_d, f_can_d), rfl, ((fun e9 => ⟨by rw [e9], by rw [e9]⟩ : fq_alone f_sky f_landHas f_first f_last f_born f_died f_noteHas f_knot f_part f_other f_names f_value f_can a0 a1 (g 12) (g 16) (gl 53) (gl 54) (g 57) (g 62) (g 63) (g 64) = (r_19, (0 : Int32), m_gotYear_d, m_gotDay_d, m_isError_d, m_manyGot_d, m_firstGot_d, m_lastGot_d, f_names_d, f_value_d, f_can_d) → _) (hI_d.trans (by rw [fq_alone_d]; (try rw [← hq_r_19]); (try rw [xL_eq]); try rfl))), by rw [ht]; exact hP9, va_K.moved hW.alike hK9, hD9⟩, hS.F ht⟩) hS.2.2 dX12_alone_109
        | succ n ih =>
          intro L3d m_gotYear_d m_gotDay_d m_isError_d m_manyGot_d m_firstGot_d m_lastGot_d f_names_d f_value_d f_can_d h0_d hf_d hI_d H locs ls hP hD hS hl
          refine lv_iload_n hx hb dX12_alone_46 rfl (lv_at hl 0 rfl) ?_
          refine lv_sipush (v := 20000) hx hb dX12_alone_47 (by decide) ?_
          refine lv_icmp_ge (tgt := 104) hx hb dX12_alone_50 (by decide) (fun c_20 => ?_) (fun c_20 => ?_)
          · refine lv_aload_n hx hb dX12_alone_104 rfl (lv_at hl 1 rfl) ?_
            refine lv_iload_n hx hb dX12_alone_105 rfl (lv_at hl 3 rfl) ?_
            have hPc := hP.sub (ws' := [(mq, .inr (12, mF (upd (upd (upd (upd (upd g 2 0) 57 m_isError_d) 62 m_manyGot_d) 63 m_firstGot_d) 64 m_lastGot_d) (vp_updL (vp_updL gl 53 m_gotYear_d) 54 m_gotDay_d) rf))]) [0] rfl
            have hKc := hK.sub (tys' := []) [] rfl
            refine vp_callSi (W.runV (As := [.int a1]) (rest := []) ⟨hx, hb, hml, hown, htw⟩ (gq_told3 l dC dI mq (upd (upd (upd (upd (upd g 2 0) 57 m_isError_d) 62 m_manyGot_d) 63 m_firstGot_d) 64 m_lastGot_d) (vp_updL (vp_updL gl 53 m_gotYear_d) 54 m_gotDay_d) rf a1) (cwV 1 htw (xg_V (ck_59 _ (List.mem_of_getElem? (i := 15) rfl)) (ck_59 _ (List.mem_of_getElem? (i := 16) rfl)) (ck_59 _ (List.mem_of_getElem? (i := 17) rfl)) (ck_1 _ (List.mem_of_getElem? (i := 5) rfl)) (ck_59 _ (List.mem_of_getElem? (i := 18) rfl))) rfl rfl rfl (by exact ⟨rfl, hdc_14.1, hdc_14.2, hdd_2⟩) ⟨Nat.le_of_ble_eq_true rfl, Nat.le_of_ble_eq_true rfl⟩) ⟨fun a U g mk q => by obtain ⟨q0, qP, qK⟩ := q; exact ⟨q0, qP, va_K.moved (u := U) (U := U.calling g mk a) (Vm.Alike.refl U.vm) qK⟩, va_recv hKc hPc (ci := 12) (q0 := 0) rfl rfl, fun U hU hW => ⟨rfl, by rw [hU]; exact hPc, va_K.moved hW.alike hKc⟩⟩ rfl rfl hl.1 rfl (lv_room (Nat.le_of_ble_eq_true rfl)) dX12_alone_106 ⟨Nat.le_of_ble_eq_true rfl, Nat.le_of_ble_eq_true rfl⟩) (fun r_21 hw => ?_)
            try dsimp only at hw
            have hq_r_21 : r_21 = (fq_told3 a1 m_manyGot_d m_firstGot_d m_lastGot_d) := hw
            refine W.widen (k := 0) (n := 0) (by omega) (by omega) ?_
            obtain ⟨hP9, hD9⟩ := zsub2 (ws' := [(mq, .inr (12, mF (upd (upd (upd (upd (upd g 2 0) 57 m_isError_d) 62 m_manyGot_d) 63 m_firstGot_d) 64 m_lastGot_d) (vp_updL (vp_updL gl 53 m_gotYear_d) 54 m_gotDay_d) rf)), (eA0 (rf 24) (ck 24) 14 f_sky), (eA0 (rf 29) (ck 29) 24 f_landHas), (eA0 (rf 31) (ck 31) 8 f_first), (eA0 (rf 32) (ck 32) 8 f_last), (eA1 (rf 34) (ck 34) 12 f_born), (eA1 (rf 35) (ck 35) 12 f_died), (eA0 (rf 40) (ck 40) 264 f_noteHas), (eA0 (rf 41) (ck 41) 128 f_knot), (eA0 (rf 42) (ck 42) 128 f_part), (eA0 (rf 43) (ck 43) 128 f_other), (eA1 (rf 55) (ck 55) 6 f_names_d), (eA1 (rf 56) (ck 56) 64 f_value_d), (eA0 (rf 61) (ck 61) 240000 f_can_d)]) hP hD [0, 1, 2, 3, 4, 5, 6, 7, 8, 9, 10, 11, 12, 13] (by decide +kernel) rfl
            have hK9 := hK.sub (tys' := []) [] rfl
            exact W.iret (v := r_21) hx hb hr (fun t ht hW => ⟨⟨r_21, (0, m_gotYear_d, m_gotDay_d, m_isError_d, m_manyGot_d, m_firstGot_d, m_lastGot_d, f_names_d, f_value_d, f_can_d), rfl, ((fun e9 => ⟨by rw [e9], by rw [e9]⟩ : fq_alone f_sky f_landHas f_first f_last f_born f_died f_noteHas f_knot f_part f_other f_names f_value f_can a0 a1 (g 12) (g 16) (gl 53) (gl 54) (g 57) (g 62) (g 63) (g 64) = (r_21, (0 : Int32), m_gotYear_d, m_gotDay_d, m_isError_d, m_manyGot_d, m_firstGot_d, m_lastGot_d, f_names_d, f_value_d, f_can_d) → _) (hI_d.trans (by rw [fq_alone_d]; (try rw [if_pos c_20]); (try rw [← hq_r_21]); (try rw [xL_eq]); try rfl))), by rw [ht]; exact hP9, va_K.moved hW.alike hK9, hD9⟩, hS.F ht⟩) hS.2.2 dX12_alone_109
          · refine lv_aload_n hx hb dX12_alone_53 rfl (lv_at hl 1 rfl) ?_
            refine va_get (D := (dC, dI)) (ci := 12) (v := .ref (rf 61)) (C := RX12) (T := TX12) (N := 76) hx hb htw inlX12 hown hK hP 0 rfl rfl 61 (by decide) (htw _ (ck_10 _ (List.mem_of_getElem? (i := 7) rfl))) (fun _ h9 => h9) rfl dX12_alone_54 ?_
            refine lv_sipush (v := 20000) hx hb dX12_alone_57 (by decide) ?_
            refine lv_iload_n hx hb dX12_alone_60 rfl (lv_at hl 2 rfl) ?_
            refine lv_imul hx hb dX12_alone_61 ?_
            refine lv_iload_n hx hb dX12_alone_62 rfl (lv_at hl 0 rfl) ?_
            refine lv_iadd hx hb dX12_alone_63 ?_
            refine va_zald hx hb hK hP 13 12 rfl rfl (xn_can (gq_alone_s4 (y0 := a0) (y1 := g 16) (hp_2.resolve_left c_4) (hp_3.resolve_left c_4) hnt0 hnt2).1 (gq_alone_s4 (y0 := a0) (y1 := g 16) (hp_2.resolve_left c_4) (hp_3.resolve_left c_4) hnt0 hnt2).2 (gq_alone_s5 (y0 := L3d) c_20 h0_d).1 (gq_alone_s5 (y0 := L3d) c_20 h0_d).2) dX12_alone_64 ?_
            refine lv_if_ne (tgt := 71) hx hb dX12_alone_65 (by decide) (fun c_22 => ?_) (fun c_22 => ?_)
            · refine lv_aload_n hx hb dX12_alone_71 rfl (lv_at hl 1 rfl) ?_
              refine lv_dup hx hb dX12_alone_72 rfl ?_
              refine va_get (D := (dC, dI)) (ci := 12) (v := .int m_manyGot_d) (C := RX12) (T := TX12) (N := 76) hx hb htw inlX12 hown hK hP 0 rfl rfl 62 (by decide) (htw _ (ck_59 _ (List.mem_of_getElem? (i := 0) rfl))) (fun _ h9 => h9) rfl dX12_alone_73 ?_
              refine lv_iconst (v := 1) hx hb dX12_alone_76 (by decide) ?_
              refine lv_iadd hx hb dX12_alone_77 ?_
              refine va_put (D := (dC, dI)) (ci := 12) (v := .int (m_manyGot_d + 1)) (ty := tyX12 62) (C := RX12) (T := TX12) (N := 76) hx hb htw inlX12 tyX12 tyX12_ok nmX12 hown hK hP hD hS 0 rfl rfl 62 (by decide) (htw _ (ck_59 _ (List.mem_of_getElem? (i := 0) rfl))) (fun _ h9 => h9) rfl (tyX12_ok 62 (by decide)) rfl rfl (Nat.le_of_ble_eq_true rfl) dX12_alone_78 (fun H locs hP hD hS => ?_)
              have hP : va_P (dC, dI) vwCl [(mq, .inr (12, mF (upd (upd (upd (upd (upd g 2 0) 57 m_isError_d) 62 (m_manyGot_d + 1)) 63 m_firstGot_d) 64 m_lastGot_d) (vp_updL (vp_updL gl 53 m_gotYear_d) 54 m_gotDay_d) rf)), (eA0 (rf 24) (ck 24) 14 f_sky), (eA0 (rf 29) (ck 29) 24 f_landHas), (eA0 (rf 31) (ck 31) 8 f_first), (eA0 (rf 32) (ck 32) 8 f_last), (eA1 (rf 34) (ck 34) 12 f_born), (eA1 (rf 35) (ck 35) 12 f_died), (eA0 (rf 40) (ck 40) 264 f_noteHas), (eA0 (rf 41) (ck 41) 128 f_knot), (eA0 (rf 42) (ck 42) 128 f_part), (eA0 (rf 43) (ck 43) 128 f_other), (eA1 (rf 55) (ck 55) 6 f_names_d), (eA1 (rf 56) (ck 56) 64 f_value_d), (eA0 (rf 61) (ck 61) 240000 f_can_d)] H := hP
              have hD : va_D A [(mq, .inr (12, mF (upd (upd (upd (upd (upd g 2 0) 57 m_isError_d) 62 (m_manyGot_d + 1)) 63 m_firstGot_d) 64 m_lastGot_d) (vp_updL (vp_updL gl 53 m_gotYear_d) 54 m_gotDay_d) rf)), (eA0 (rf 24) (ck 24) 14 f_sky), (eA0 (rf 29) (ck 29) 24 f_landHas), (eA0 (rf 31) (ck 31) 8 f_first), (eA0 (rf 32) (ck 32) 8 f_last), (eA1 (rf 34) (ck 34) 12 f_born), (eA1 (rf 35) (ck 35) 12 f_died), (eA0 (rf 40) (ck 40) 264 f_noteHas), (eA0 (rf 41) (ck 41) 128 f_knot), (eA0 (rf 42) (ck 42) 128 f_part), (eA0 (rf 43) (ck 43) 128 f_other), (eA1 (rf 55) (ck 55) 6 f_names_d), (eA1 (rf 56) (ck 56) 64 f_value_d), (eA0 (rf 61) (ck 61) 240000 f_can_d)] := hD
              refine lv_aload_n hx hb dX12_alone_81 rfl (lv_at hl 1 rfl) ?_
              refine va_get (D := (dC, dI)) (ci := 12) (v := .int m_firstGot_d) (C := RX12) (T := TX12) (N := 76) hx hb htw inlX12 hown hK hP 0 rfl rfl 63 (by decide) (htw _ (ck_59 _ (List.mem_of_getElem? (i := 1) rfl))) (fun _ h9 => h9) rfl dX12_alone_82 ?_
              refine lv_if_ge (tgt := 93) hx hb dX12_alone_85 (by decide) (fun c_23 => ?_) (fun c_23 => ?_)
              · refine lv_aload_n hx hb dX12_alone_93 rfl (lv_at hl 1 rfl) ?_
                refine lv_iload_n hx hb dX12_alone_94 rfl (lv_at hl 0 rfl) ?_
                refine va_put (D := (dC, dI)) (ci := 12) (v := .int L3d) (ty := tyX12 64) (C := RX12) (T := TX12) (N := 76) hx hb htw inlX12 tyX12 tyX12_ok nmX12 hown hK hP hD hS 0 rfl rfl 64 (by decide) (htw _ (ck_59 _ (List.mem_of_getElem? (i := 2) rfl))) (fun _ h9 => h9) rfl (tyX12_ok 64 (by decide)) rfl rfl (Nat.le_of_ble_eq_true rfl) dX12_alone_95 (fun H locs hP hD hS => ?_)
                have hP : va_P (dC, dI) vwCl [(mq, .inr (12, mF (upd (upd (upd (upd (upd g 2 0) 57 m_isError_d) 62 (m_manyGot_d + 1)) 63 m_firstGot_d) 64 L3d) (vp_updL (vp_updL gl 53 m_gotYear_d) 54 m_gotDay_d) rf)), (eA0 (rf 24) (ck 24) 14 f_sky), (eA0 (rf 29) (ck 29) 24 f_landHas), (eA0 (rf 31) (ck 31) 8 f_first), (eA0 (rf 32) (ck 32) 8 f_last), (eA1 (rf 34) (ck 34) 12 f_born), (eA1 (rf 35) (ck 35) 12 f_died), (eA0 (rf 40) (ck 40) 264 f_noteHas), (eA0 (rf 41) (ck 41) 128 f_knot), (eA0 (rf 42) (ck 42) 128 f_part), (eA0 (rf 43) (ck 43) 128 f_other), (eA1 (rf 55) (ck 55) 6 f_names_d), (eA1 (rf 56) (ck 56) 64 f_value_d), (eA0 (rf 61) (ck 61) 240000 f_can_d)] H := hP
                have hD : va_D A [(mq, .inr (12, mF (upd (upd (upd (upd (upd g 2 0) 57 m_isError_d) 62 (m_manyGot_d + 1)) 63 m_firstGot_d) 64 L3d) (vp_updL (vp_updL gl 53 m_gotYear_d) 54 m_gotDay_d) rf)), (eA0 (rf 24) (ck 24) 14 f_sky), (eA0 (rf 29) (ck 29) 24 f_landHas), (eA0 (rf 31) (ck 31) 8 f_first), (eA0 (rf 32) (ck 32) 8 f_last), (eA1 (rf 34) (ck 34) 12 f_born), (eA1 (rf 35) (ck 35) 12 f_died), (eA0 (rf 40) (ck 40) 264 f_noteHas), (eA0 (rf 41) (ck 41) 128 f_knot), (eA0 (rf 42) (ck 42) 128 f_part), (eA0 (rf 43) (ck 43) 128 f_other), (eA1 (rf 55) (ck 55) 6 f_names_d), (eA1 (rf 56) (ck 56) 64 f_value_d), (eA0 (rf 61) (ck 61) 240000 f_can_d)] := hD
                refine lv_iinc (v := (L3d + 1)) (lv' := [(3, .int (L3d + 1)), (0, .ref mq), (1, .int a0), (2, .int a1)]) hx hb dX12_alone_98 hl (k := 0) rfl (rfl) (by decide) rfl (fun ls hl => ?_)
                refine lv_goto (tgt := 46) hx hb dX12_alone_101 (by decide) ?_
                exact ih (L3d + 1) m_gotYear_d m_gotDay_d m_isError_d (m_manyGot_d + 1) m_firstGot_d L3d f_names_d f_value_d f_can_d (gq_alone_s6 (y0 := L3d) c_20 h0_d) (by rw [xi_s' c_20]; omega) (hI_d.trans (by rw [fq_alone_d]; (try rw [if_neg c_20]); (try rw [if_neg c_22]); (try rw [if_pos c_23]); try rfl)) H locs ls hP hD hS (lv_sub hl [0, 1, 2, 3] rfl)
              · refine lv_aload_n hx hb dX12_alone_88 rfl (lv_at hl 1 rfl) ?_
                refine lv_iload_n hx hb dX12_alone_89 rfl (lv_at hl 0 rfl) ?_
                refine va_put (D := (dC, dI)) (ci := 12) (v := .int L3d) (ty := tyX12 63) (C := RX12) (T := TX12) (N := 76) hx hb htw inlX12 tyX12 tyX12_ok nmX12 hown hK hP hD hS 0 rfl rfl 63 (by decide) (htw _ (ck_59 _ (List.mem_of_getElem? (i := 1) rfl))) (fun _ h9 => h9) rfl (tyX12_ok 63 (by decide)) rfl rfl (Nat.le_of_ble_eq_true rfl) dX12_alone_90 (fun H locs hP hD hS => ?_)
                have hP : va_P (dC, dI) vwCl [(mq, .inr (12, mF (upd (upd (upd (upd (upd g 2 0) 57 m_isError_d) 62 (m_manyGot_d + 1)) 63 L3d) 64 m_lastGot_d) (vp_updL (vp_updL gl 53 m_gotYear_d) 54 m_gotDay_d) rf)), (eA0 (rf 24) (ck 24) 14 f_sky), (eA0 (rf 29) (ck 29) 24 f_landHas), (eA0 (rf 31) (ck 31) 8 f_first), (eA0 (rf 32) (ck 32) 8 f_last), (eA1 (rf 34) (ck 34) 12 f_born), (eA1 (rf 35) (ck 35) 12 f_died), (eA0 (rf 40) (ck 40) 264 f_noteHas), (eA0 (rf 41) (ck 41) 128 f_knot), (eA0 (rf 42) (ck 42) 128 f_part), (eA0 (rf 43) (ck 43) 128 f_other), (eA1 (rf 55) (ck 55) 6 f_names_d), (eA1 (rf 56) (ck 56) 64 f_value_d), (eA0 (rf 61) (ck 61) 240000 f_can_d)] H := hP
                have hD : va_D A [(mq, .inr (12, mF (upd (upd (upd (upd (upd g 2 0) 57 m_isError_d) 62 (m_manyGot_d + 1)) 63 L3d) 64 m_lastGot_d) (vp_updL (vp_updL gl 53 m_gotYear_d) 54 m_gotDay_d) rf)), (eA0 (rf 24) (ck 24) 14 f_sky), (eA0 (rf 29) (ck 29) 24 f_landHas), (eA0 (rf 31) (ck 31) 8 f_first), (eA0 (rf 32) (ck 32) 8 f_last), (eA1 (rf 34) (ck 34) 12 f_born), (eA1 (rf 35) (ck 35) 12 f_died), (eA0 (rf 40) (ck 40) 264 f_noteHas), (eA0 (rf 41) (ck 41) 128 f_knot), (eA0 (rf 42) (ck 42) 128 f_part), (eA0 (rf 43) (ck 43) 128 f_other), (eA1 (rf 55) (ck 55) 6 f_names_d), (eA1 (rf 56) (ck 56) 64 f_value_d), (eA0 (rf 61) (ck 61) 240000 f_can_d)] := hD
                refine lv_aload_n hx hb dX12_alone_93 rfl (lv_at hl 1 rfl) ?_
                refine lv_iload_n hx hb dX12_alone_94 rfl (lv_at hl 0 rfl) ?_
                refine va_put (D := (dC, dI)) (ci := 12) (v := .int L3d) (ty := tyX12 64) (C := RX12) (T := TX12) (N := 76) hx hb htw inlX12 tyX12 tyX12_ok nmX12 hown hK hP hD hS 0 rfl rfl 64 (by decide) (htw _ (ck_59 _ (List.mem_of_getElem? (i := 2) rfl))) (fun _ h9 => h9) rfl (tyX12_ok 64 (by decide)) rfl rfl (Nat.le_of_ble_eq_true rfl) dX12_alone_95 (fun H locs hP hD hS => ?_)
                have hP : va_P (dC, dI) vwCl [(mq, .inr (12, mF (upd (upd (upd (upd (upd g 2 0) 57 m_isError_d) 62 (m_manyGot_d + 1)) 63 L3d) 64 L3d) (vp_updL (vp_updL gl 53 m_gotYear_d) 54 m_gotDay_d) rf)), (eA0 (rf 24) (ck 24) 14 f_sky), (eA0 (rf 29) (ck 29) 24 f_landHas), (eA0 (rf 31) (ck 31) 8 f_first), (eA0 (rf 32) (ck 32) 8 f_last), (eA1 (rf 34) (ck 34) 12 f_born), (eA1 (rf 35) (ck 35) 12 f_died), (eA0 (rf 40) (ck 40) 264 f_noteHas), (eA0 (rf 41) (ck 41) 128 f_knot), (eA0 (rf 42) (ck 42) 128 f_part), (eA0 (rf 43) (ck 43) 128 f_other), (eA1 (rf 55) (ck 55) 6 f_names_d), (eA1 (rf 56) (ck 56) 64 f_value_d), (eA0 (rf 61) (ck 61) 240000 f_can_d)] H := hP
                have hD : va_D A [(mq, .inr (12, mF (upd (upd (upd (upd (upd g 2 0) 57 m_isError_d) 62 (m_manyGot_d + 1)) 63 L3d) 64 L3d) (vp_updL (vp_updL gl 53 m_gotYear_d) 54 m_gotDay_d) rf)), (eA0 (rf 24) (ck 24) 14 f_sky), (eA0 (rf 29) (ck 29) 24 f_landHas), (eA0 (rf 31) (ck 31) 8 f_first), (eA0 (rf 32) (ck 32) 8 f_last), (eA1 (rf 34) (ck 34) 12 f_born), (eA1 (rf 35) (ck 35) 12 f_died), (eA0 (rf 40) (ck 40) 264 f_noteHas), (eA0 (rf 41) (ck 41) 128 f_knot), (eA0 (rf 42) (ck 42) 128 f_part), (eA0 (rf 43) (ck 43) 128 f_other), (eA1 (rf 55) (ck 55) 6 f_names_d), (eA1 (rf 56) (ck 56) 64 f_value_d), (eA0 (rf 61) (ck 61) 240000 f_can_d)] := hD
                refine lv_iinc (v := (L3d + 1)) (lv' := [(3, .int (L3d + 1)), (0, .ref mq), (1, .int a0), (2, .int a1)]) hx hb dX12_alone_98 hl (k := 0) rfl (rfl) (by decide) rfl (fun ls hl => ?_)
                refine lv_goto (tgt := 46) hx hb dX12_alone_101 (by decide) ?_
                exact ih (L3d + 1) m_gotYear_d m_gotDay_d m_isError_d (m_manyGot_d + 1) L3d L3d f_names_d f_value_d f_can_d (gq_alone_s7 (y0 := L3d) c_20 h0_d) (by rw [xi_s' c_20]; omega) (hI_d.trans (by rw [fq_alone_d]; (try rw [if_neg c_20]); (try rw [if_neg c_22]); (try rw [if_neg c_23]); try rfl)) H locs ls hP hD hS (lv_sub hl [0, 1, 2, 3] rfl)
            · refine lv_goto (tgt := 98) hx hb dX12_alone_68 (by decide) ?_
              refine lv_iinc (v := (L3d + 1)) (lv' := [(3, .int (L3d + 1)), (0, .ref mq), (1, .int a0), (2, .int a1)]) hx hb dX12_alone_98 hl (k := 0) rfl (rfl) (by decide) rfl (fun ls hl => ?_)
              refine lv_goto (tgt := 46) hx hb dX12_alone_101 (by decide) ?_
              exact ih (L3d + 1) m_gotYear_d m_gotDay_d m_isError_d m_manyGot_d m_firstGot_d m_lastGot_d f_names_d f_value_d f_can_d (gq_alone_s8 (y0 := L3d) c_20 h0_d) (by rw [xi_s' c_20]; omega) (hI_d.trans (by rw [fq_alone_d]; (try rw [if_neg c_20]); (try rw [if_pos c_22]); try rfl)) H locs ls hP hD hS (lv_sub hl [0, 1, 2, 3] rfl)
      exact hloop_17 20000 (0 : Int32) u_10.1 u_10.2.1 u_10.2.2.1 (0 : Int32) (-1 : Int32) (-1 : Int32) u_10.2.2.2.1 u_10.2.2.2.2.1 u_10.2.2.2.2.2 (gq_alone_s9 ) (by decide) ((by rw [fq_alone]; (try rw [← hq_r_1]); (try rw [xL_eq]); (try rw [if_neg c_4]); (try rw [← hq_r_5]); (try rw [xL_eq]); (try rw [if_neg c_8]); (try rw [← hq_u_10]); (try rw [xL_eq]); try rfl)) _ _ ls hP hD hS (lv_sub hl [0, 1, 2, 3] rfl)
    · refine lv_iconst (v := (-1)) hx hb dX12_alone_22 (by decide) ?_
      refine W.widen (k := 0) (n := 0) (by omega) (by omega) ?_
      obtain ⟨hP9, hD9⟩ := zsub2 (ws' := [(mq, .inr (12, mF (upd g 2 0) gl rf)), (eA0 (rf 24) (ck 24) 14 f_sky), (eA0 (rf 29) (ck 29) 24 f_landHas), (eA0 (rf 31) (ck 31) 8 f_first), (eA0 (rf 32) (ck 32) 8 f_last), (eA1 (rf 34) (ck 34) 12 f_born), (eA1 (rf 35) (ck 35) 12 f_died), (eA0 (rf 40) (ck 40) 264 f_noteHas), (eA0 (rf 41) (ck 41) 128 f_knot), (eA0 (rf 42) (ck 42) 128 f_part), (eA0 (rf 43) (ck 43) 128 f_other), (eA1 (rf 55) (ck 55) 6 f_names), (eA1 (rf 56) (ck 56) 64 f_value), (eA0 (rf 61) (ck 61) 240000 f_can)]) hP hD [0, 1, 2, 3, 4, 5, 6, 7, 8, 9, 10, 11, 12, 13] (by decide +kernel) rfl
      have hK9 := hK.sub (tys' := []) [] rfl
      exact W.iret (v := (-1)) hx hb hr (fun t ht hW => ⟨⟨(-1), (0, (gl 53), (gl 54), (g 57), (g 62), (g 63), (g 64), f_names, f_value, f_can), rfl, ((fun e9 => ⟨by rw [e9], by rw [e9]⟩ : fq_alone f_sky f_landHas f_first f_last f_born f_died f_noteHas f_knot f_part f_other f_names f_value f_can a0 a1 (g 12) (g 16) (gl 53) (gl 54) (g 57) (g 62) (g 63) (g 64) = ((-1 : Int32), (0 : Int32), (gl 53), (gl 54), (g 57), (g 62), (g 63), (g 64), f_names, f_value, f_can) → _) ((by rw [fq_alone]; (try rw [← hq_r_1]); (try rw [xL_eq]); (try rw [if_neg c_4]); (try rw [← hq_r_5]); (try rw [xL_eq]); (try rw [if_pos c_8]); try rfl))), by rw [ht]; exact hP9, va_K.moved hW.alike hK9, hD9⟩, hS.F ht⟩) hS.2.2 dX12_alone_23
