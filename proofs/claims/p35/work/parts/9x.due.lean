theorem gy_festiveOf_s0  : (-2 : Int64) ≤ 1000000000001 := (by decide)
theorem gy_festiveOf_s1  : (-2 : Int64) ≤ 1000000000001 := (by decide)
theorem gy_festiveOf_s2  : (-2 : Int64) ≤ 1000000000001 := (by decide)
theorem gy_festiveOf_s3 {y0 : Int32} {y1 : Int32} (h0 : y0 < y1) (h1 : y1 ≤ 4) : y0 < 4 := by lia
theorem gy_festiveOf_s4 {y0 : Int64} (h0 : y0 ≤ 1000000000001) : y0 ≤ 2000000000000 := by lia
theorem gy_festiveOf_s5 {y0 : Int64} (h0 : ¬ (y0 < 0)) (h1 : y0 ≤ 1000000000001) : ¬ ((y0 + 1) < 0) := by lia
theorem gy_festiveOf_s6 {y0 : Int64} (h0 : ¬ (1000000000000 < y0)) (h1 : ¬ (y0 < 0)) (h2 : y0 ≤ 1000000000001) : (y0 + 1) ≤ 1000000000001 := by lia
theorem gy_festiveOf_s7 {y0 : Int64} (h0 : ¬ (y0 < 0)) (h1 : y0 ≤ 1000000000001) : ¬ (y0 < (-3000000000)) ∧ y0 ≤ 2000000000000 := by lia
set_option maxHeartbeats 4000000 in
set_option maxRecDepth 100000 in
theorem gy_festiveOf (l : Launch) (dC : Nat → ClassId) (dI : Nat → Nat → Nat) (mq : Nat) (g : Nat → Int32) (gl : Nat → Int64) (rf : Nat → Nat) (ck : Nat → ClassId) (f_sky : Nat → Int32) (f_landHas : Nat → Int32) (f_first : Nat → Int32) (f_last : Nat → Int32) (f_knot : Nat → Int32) (f_part : Nat → Int32) (f_other : Nat → Int32) (f_names : Nat → Int64) (f_value : Nat → Int64) (a0 : Int32) (a1 : Int64) (sz : Nat) (hf0 : ¬ a0 < 0) (hff : a0 < (g 13)) (hc0 : ¬ a1 < 0) (hc9 : a1 ≤ 1000000000001) (hfe0 : ¬ (g 13) < 0) (hfe4 : (g 13) ≤ 4) (hFA : ∀ k : Int32, ¬ k < 0 → k < (g 13) → ¬ (f_first k.toNatClampNeg) < 0 ∧ (f_last k.toNatClampNeg) ≤ 64 ∧ ¬ (f_last k.toNatClampNeg) < 1) (hKA : ∀ k : Nat, k < 64 → xKV f_knot f_part f_other k) (hln0 : ¬ (g 12) < 0) (hln4 : (g 12) ≤ 4) (hLZ : ∀ k : Int32, ¬ k < 0 → k < (g 12) → ¬ (f_landHas ((3 * k).toNatClampNeg)) = 0) (hs0 : ¬ (f_sky 0) < 1) (hs2 : ¬ (f_sky 2) < 1) (hs5 : ¬ (f_sky 5) < 1) : Met l yX12_festiveOf (Cond.code yX12_festiveOf cX12_festiveOf 6 (some .long) :: wsL_law) ({ frames := 3, cells := 0, slots := 0, locals := 81 }) (va_Pc [.ref mq, .int a0, .long a1] (fun U => U.heap.size = sz ∧ va_P (dC, dI) vwCl [(mq, .inr (12, mF g gl rf)), (eA0 (rf 24) (ck 24) 14 f_sky), (eA0 (rf 29) (ck 29) 24 f_landHas), (eA0 (rf 31) (ck 31) 8 f_first), (eA0 (rf 32) (ck 32) 8 f_last), (eA0 (rf 41) (ck 41) 128 f_knot), (eA0 (rf 42) (ck 42) 128 f_part), (eA0 (rf 43) (ck 43) 128 f_other), (eA1 (rf 55) (ck 55) 6 f_names), (eA1 (rf 56) (ck 56) 64 f_value)] U.heap ∧ va_K (dC, dI) vwCl [((ck 24), .int), ((ck 29), .int), ((ck 31), .int), ((ck 32), .int), ((ck 41), .int), ((ck 42), .int), ((ck 43), .int), ((ck 55), .long), ((ck 56), .long)] U ∧ va_D (fun _ => True) [(mq, .inr (12, mF g gl rf)), (eA0 (rf 24) (ck 24) 14 f_sky), (eA0 (rf 29) (ck 29) 24 f_landHas), (eA0 (rf 31) (ck 31) 8 f_first), (eA0 (rf 32) (ck 32) 8 f_last), (eA0 (rf 41) (ck 41) 128 f_knot), (eA0 (rf 42) (ck 42) 128 f_part), (eA0 (rf 43) (ck 43) 128 f_other), (eA1 (rf 55) (ck 55) 6 f_names), (eA1 (rf 56) (ck 56) 64 f_value)])) (va_Ql (fun (r : Int64) (u : (Int64) × (Int64) × (Int32) × (Nat → Int64) × (Nat → Int64)) => (r = (fq_festiveOf f_sky f_landHas f_first f_last f_knot f_part f_other f_names f_value a0 a1 (g 12) (gl 53) (gl 54) (g 57)).1 ∧ u = (fq_festiveOf f_sky f_landHas f_first f_last f_knot f_part f_other f_names f_value a0 a1 (g 12) (gl 53) (gl 54) (g 57)).2) ∧ (r ≤ 1000000000001)) (fun (u : (Int64) × (Int64) × (Int32) × (Nat → Int64) × (Nat → Int64)) t => va_P (dC, dI) vwCl [(mq, .inr (12, mF (upd g 57 u.2.2.1) (vp_updL (vp_updL gl 53 u.1) 54 u.2.1) rf)), (eA0 (rf 24) (ck 24) 14 f_sky), (eA0 (rf 29) (ck 29) 24 f_landHas), (eA0 (rf 31) (ck 31) 8 f_first), (eA0 (rf 32) (ck 32) 8 f_last), (eA0 (rf 41) (ck 41) 128 f_knot), (eA0 (rf 42) (ck 42) 128 f_part), (eA0 (rf 43) (ck 43) 128 f_other), (eA1 (rf 55) (ck 55) 6 u.2.2.2.1), (eA1 (rf 56) (ck 56) 64 u.2.2.2.2)] t.heap ∧ va_K (dC, dI) vwCl [] t ∧ va_D (va_A [(mq, .inr (12, mF g gl rf)), (eA0 (rf 24) (ck 24) 14 f_sky), (eA0 (rf 29) (ck 29) 24 f_landHas), (eA0 (rf 31) (ck 31) 8 f_first), (eA0 (rf 32) (ck 32) 8 f_last), (eA0 (rf 41) (ck 41) 128 f_knot), (eA0 (rf 42) (ck 42) 128 f_part), (eA0 (rf 43) (ck 43) 128 f_other), (eA1 (rf 55) (ck 55) 6 f_names), (eA1 (rf 56) (ck 56) 64 f_value)] sz) [(mq, .inr (12, mF (upd g 57 u.2.2.1) (vp_updL (vp_updL gl 53 u.1) 54 u.2.1) rf)), (eA0 (rf 24) (ck 24) 14 f_sky), (eA0 (rf 29) (ck 29) 24 f_landHas), (eA0 (rf 31) (ck 31) 8 f_first), (eA0 (rf 32) (ck 32) 8 f_last), (eA0 (rf 41) (ck 41) 128 f_knot), (eA0 (rf 42) (ck 42) 128 f_part), (eA0 (rf 43) (ck 43) 128 f_other), (eA1 (rf 55) (ck 55) 6 u.2.2.2.1), (eA1 (rf 56) (ck 56) 64 u.2.2.2.2)]) (va_A [(mq, .inr (12, mF g gl rf)), (eA0 (rf 24) (ck 24) 14 f_sky), (eA0 (rf 29) (ck 29) 24 f_landHas), (eA0 (rf 31) (ck 31) 8 f_first), (eA0 (rf 32) (ck 32) 8 f_last), (eA0 (rf 41) (ck 41) 128 f_knot), (eA0 (rf 42) (ck 42) 128 f_part), (eA0 (rf 43) (ck 43) 128 f_other), (eA1 (rf 55) (ck 55) 6 f_names), (eA1 (rf 56) (ck 56) 64 f_value)] sz)) 0 0 (va_A [(mq, .inr (12, mF g gl rf)), (eA0 (rf 24) (ck 24) 14 f_sky), (eA0 (rf 29) (ck 29) 24 f_landHas), (eA0 (rf 31) (ck 31) 8 f_first), (eA0 (rf 32) (ck 32) 8 f_last), (eA0 (rf 41) (ck 41) 128 f_knot), (eA0 (rf 42) (ck 42) 128 f_part), (eA0 (rf 43) (ck 43) 128 f_other), (eA1 (rf 55) (ck 55) 6 f_names), (eA1 (rf 56) (ck 56) 64 f_value)] sz) := by
  refine Met.ofW (cc := cX12_festiveOf) (maxL := 6) (ret := (some .long)) (by decide) rfl ?_
  intro p e s m args below meth c s₁ B hml hv
  obtain ⟨rfl, hsz, hP, hK, hD0⟩ := hv
  have hx := B.exec
  have hb := B.bytes
  have hr := B.returns
  have hts := atoms_spec (ws := Cond.code yX12_festiveOf cX12_festiveOf 6 (some .long) :: wsL_law) B.pre
  have htw : ∀ w ∈ wsL_law, w.before _ s = true := fun w h => hts w (List.mem_cons_of_mem _ h)
  have hown : s.vm.findClass RX12 = some m.cls := findClass_of_methodNamed B.named
  have hlocks := B.notSynchronized
  subst hsz
  have hD := hD0.self (sz := s.heap.size)
  generalize hAe : va_A [(mq, .inr (12, mF g gl rf)), (eA0 (rf 24) (ck 24) 14 f_sky), (eA0 (rf 29) (ck 29) 24 f_landHas), (eA0 (rf 31) (ck 31) 8 f_first), (eA0 (rf 32) (ck 32) 8 f_last), (eA0 (rf 41) (ck 41) 128 f_knot), (eA0 (rf 42) (ck 42) 128 f_part), (eA0 (rf 43) (ck 43) 128 f_other), (eA1 (rf 55) (ck 55) 6 f_names), (eA1 (rf 56) (ck 56) 64 f_value)] s.heap.size = A at hD ⊢
  have hA : ∀ q : Nat, s.heap.size ≤ q → A q := fun q h => by rw [← hAe]; exact Or.inr h
  obtain ⟨H, rH⟩ : ∃ z : Heap, z = s.heap := ⟨_, rfl⟩
  have hS : va_S A s.heap H [] := by rw [rH]; exact va_S.rf
  have hP : va_P (dC, dI) vwCl [(mq, .inr (12, mF g gl rf)), (eA0 (rf 24) (ck 24) 14 f_sky), (eA0 (rf 29) (ck 29) 24 f_landHas), (eA0 (rf 31) (ck 31) 8 f_first), (eA0 (rf 32) (ck 32) 8 f_last), (eA0 (rf 41) (ck 41) 128 f_knot), (eA0 (rf 42) (ck 42) 128 f_part), (eA0 (rf 43) (ck 43) 128 f_other), (eA1 (rf 55) (ck 55) 6 f_names), (eA1 (rf 56) (ck 56) 64 f_value)] H := by rw [rH]; exact hP
  rw [← rH]
  have hl := lv_entry ([.ref mq, .int a0, .long a1]) (n := 6) (Nat.le_of_ble_eq_true rfl)
  rw [lg_entry_eq]
  generalize (lg_sl ([.ref mq, .int a0, .long a1]) ++ List.replicate (6 - (lg_sl ([.ref mq, .int a0, .long a1])).length) Slot.unset).toArray = ls at hl ⊢
  have hl : lv_has ls 6 [(0, .ref mq), (1, .int a0), (2, .long a1)] := hl
  refine lv_lload_n hx hb dX12_festiveOf_0 rfl (lv_at hl 2 rfl) ?_
  refine lv_lstore (lv' := [(4, .long a1), (0, .ref mq), (1, .int a0), (2, .long a1)]) hx hb dX12_festiveOf_1 hl (by decide) rfl (fun ls hl => ?_)
  have hloop_1 : ∀ (n : Nat) (L4d : Int64) (m_gotYear_d : Int64) (m_gotDay_d : Int64) (m_isError_d : Int32) (f_names_d : Nat → Int64) (f_value_d : Nat → Int64) (hf_d : (a1 + 20000).toInt ≤ L4d.toInt + (n : Int)) (h0_d : ¬ L4d < 0) (h9_d : L4d ≤ 1000000000001) (hI_d : fq_festiveOf f_sky f_landHas f_first f_last f_knot f_part f_other f_names f_value a0 a1 (g 12) (gl 53) (gl 54) (g 57) = fq_festiveOf_d f_sky f_landHas f_first f_last f_knot f_part f_other a0 a1 (g 12) n L4d m_gotYear_d m_gotDay_d m_isError_d f_names_d f_value_d) (H : Heap) (locs : List Loc) (ls : Array Slot) (hP : va_P (dC, dI) vwCl [(mq, .inr (12, mF (upd g 57 m_isError_d) (vp_updL (vp_updL gl 53 m_gotYear_d) 54 m_gotDay_d) rf)), (eA0 (rf 24) (ck 24) 14 f_sky), (eA0 (rf 29) (ck 29) 24 f_landHas), (eA0 (rf 31) (ck 31) 8 f_first), (eA0 (rf 32) (ck 32) 8 f_last), (eA0 (rf 41) (ck 41) 128 f_knot), (eA0 (rf 42) (ck 42) 128 f_part), (eA0 (rf 43) (ck 43) 128 f_other), (eA1 (rf 55) (ck 55) 6 f_names_d), (eA1 (rf 56) (ck 56) 64 f_value_d)] H) (hD : va_D A [(mq, .inr (12, mF (upd g 57 m_isError_d) (vp_updL (vp_updL gl 53 m_gotYear_d) 54 m_gotDay_d) rf)), (eA0 (rf 24) (ck 24) 14 f_sky), (eA0 (rf 29) (ck 29) 24 f_landHas), (eA0 (rf 31) (ck 31) 8 f_first), (eA0 (rf 32) (ck 32) 8 f_last), (eA0 (rf 41) (ck 41) 128 f_knot), (eA0 (rf 42) (ck 42) 128 f_part), (eA0 (rf 43) (ck 43) 128 f_other), (eA1 (rf 55) (ck 55) 6 f_names_d), (eA1 (rf 56) (ck 56) 64 f_value_d)]) (hS : va_S A s.heap H locs) (hl : lv_has ls 6 [(4, .long L4d), (0, .ref mq), (1, .int a0), (2, .long a1)]), W p l e (headSpec (Cond.code yX12_festiveOf cX12_festiveOf 6 (some .long) :: wsL_law) ({ frames := 3, cells := 0, slots := 0, locals := 81 })).room s m ([.ref mq, .int a0, .long a1] : List Value).toArray below meth c H locs 0 0 (MQ below (va_Ql (fun (r : Int64) (u : (Int64) × (Int64) × (Int32) × (Nat → Int64) × (Nat → Int64)) => (r = (fq_festiveOf f_sky f_landHas f_first f_last f_knot f_part f_other f_names f_value a0 a1 (g 12) (gl 53) (gl 54) (g 57)).1 ∧ u = (fq_festiveOf f_sky f_landHas f_first f_last f_knot f_part f_other f_names f_value a0 a1 (g 12) (gl 53) (gl 54) (g 57)).2) ∧ (r ≤ 1000000000001)) (fun (u : (Int64) × (Int64) × (Int32) × (Nat → Int64) × (Nat → Int64)) t => va_P (dC, dI) vwCl [(mq, .inr (12, mF (upd g 57 u.2.2.1) (vp_updL (vp_updL gl 53 u.1) 54 u.2.1) rf)), (eA0 (rf 24) (ck 24) 14 f_sky), (eA0 (rf 29) (ck 29) 24 f_landHas), (eA0 (rf 31) (ck 31) 8 f_first), (eA0 (rf 32) (ck 32) 8 f_last), (eA0 (rf 41) (ck 41) 128 f_knot), (eA0 (rf 42) (ck 42) 128 f_part), (eA0 (rf 43) (ck 43) 128 f_other), (eA1 (rf 55) (ck 55) 6 u.2.2.2.1), (eA1 (rf 56) (ck 56) 64 u.2.2.2.2)] t.heap ∧ va_K (dC, dI) vwCl [] t ∧ va_D A [(mq, .inr (12, mF (upd g 57 u.2.2.1) (vp_updL (vp_updL gl 53 u.1) 54 u.2.1) rf)), (eA0 (rf 24) (ck 24) 14 f_sky), (eA0 (rf 29) (ck 29) 24 f_landHas), (eA0 (rf 31) (ck 31) 8 f_first), (eA0 (rf 32) (ck 32) 8 f_last), (eA0 (rf 41) (ck 41) 128 f_knot), (eA0 (rf 42) (ck 42) 128 f_part), (eA0 (rf 43) (ck 43) 128 f_other), (eA1 (rf 55) (ck 55) 6 u.2.2.2.1), (eA1 (rf 56) (ck 56) 64 u.2.2.2.2)]) A) ([.ref mq, .int a0, .long a1] : List Value).toArray s 0 0 A) (F0 m 3 ls []) := by
    intro n
    induction n with
    | zero =>
      intro L4d m_gotYear_d m_gotDay_d m_isError_d f_names_d f_value_d hf_d h0_d h9_d hI_d H locs ls hP hD hS hl
      refine lv_lload hx hb dX12_festiveOf_3 (lv_at hl 0 rfl) ?_
      refine lv_lload_n hx hb dX12_festiveOf_5 rfl (lv_at hl 3 rfl) ?_
      refine lv_ldc2 (v := 20000) hx hb hown (htw _ (ck_43 _ (List.mem_of_getElem? (i := 21) rfl))) dX12_festiveOf_6 ?_
      refine lv_ladd hx hb dX12_festiveOf_9 ?_
      refine W.lcmp hx hb dX12_festiveOf_10 ?_
      refine lv_if_ge (tgt := 47) hx hb dX12_festiveOf_11 (by decide) (fun c_2 => ?_) (fun c_2 => absurd c_2 (fun h => h ((lg_cmp_ge _ _).mpr (xj_z hf_d))))
      refine lv_ldc2 (v := (-2)) hx hb hown (htw _ (ck_43 _ (List.mem_of_getElem? (i := 22) rfl))) dX12_festiveOf_47 ?_
      refine W.widen (k := 0) (n := 0) (by omega) (by omega) ?_
      obtain ⟨hP9, hD9⟩ := zsub2 (ws' := [(mq, .inr (12, mF (upd g 57 m_isError_d) (vp_updL (vp_updL gl 53 m_gotYear_d) 54 m_gotDay_d) rf)), (eA0 (rf 24) (ck 24) 14 f_sky), (eA0 (rf 29) (ck 29) 24 f_landHas), (eA0 (rf 31) (ck 31) 8 f_first), (eA0 (rf 32) (ck 32) 8 f_last), (eA0 (rf 41) (ck 41) 128 f_knot), (eA0 (rf 42) (ck 42) 128 f_part), (eA0 (rf 43) (ck 43) 128 f_other), (eA1 (rf 55) (ck 55) 6 f_names_d), (eA1 (rf 56) (ck 56) 64 f_value_d)]) hP hD [0, 1, 2, 3, 4, 5, 6, 7, 8, 9] (by decide +kernel) rfl
      have hK9 := hK.sub (tys' := []) [] rfl
      exact W.lret (v := (-2)) hx hb hr (fun t ht hW => ⟨⟨(-2), (m_gotYear_d, m_gotDay_d, m_isError_d, f_names_d, f_value_d), rfl, ⟨((fun e9 => ⟨by rw [e9], by rw [e9]⟩ : fq_festiveOf f_sky f_landHas f_first f_last f_knot f_part f_other f_names f_value a0 a1 (g 12) (gl 53) (gl 54) (g 57) = ((-2 : Int64), m_gotYear_d, m_gotDay_d, m_isError_d, f_names_d, f_value_d) → _) (hI_d.trans (by rw [fq_festiveOf_d]; try rfl))), (gy_festiveOf_s0 )⟩, by rw [ht]; exact hP9, va_K.moved hW.alike hK9, hD9⟩, hS.F ht⟩) hS.2.2 dX12_festiveOf_50
    | succ n ih =>
      intro L4d m_gotYear_d m_gotDay_d m_isError_d f_names_d f_value_d hf_d h0_d h9_d hI_d H locs ls hP hD hS hl
      refine lv_lload hx hb dX12_festiveOf_3 (lv_at hl 0 rfl) ?_
      refine lv_lload_n hx hb dX12_festiveOf_5 rfl (lv_at hl 3 rfl) ?_
      refine lv_ldc2 (v := 20000) hx hb hown (htw _ (ck_43 _ (List.mem_of_getElem? (i := 21) rfl))) dX12_festiveOf_6 ?_
      refine lv_ladd hx hb dX12_festiveOf_9 ?_
      refine W.lcmp hx hb dX12_festiveOf_10 ?_
      refine lv_if_ge (tgt := 47) hx hb dX12_festiveOf_11 (by decide) (fun c_3 => ?_) (fun c_3 => ?_)
      · refine lv_ldc2 (v := (-2)) hx hb hown (htw _ (ck_43 _ (List.mem_of_getElem? (i := 22) rfl))) dX12_festiveOf_47 ?_
        refine W.widen (k := 0) (n := 0) (by omega) (by omega) ?_
        obtain ⟨hP9, hD9⟩ := zsub2 (ws' := [(mq, .inr (12, mF (upd g 57 m_isError_d) (vp_updL (vp_updL gl 53 m_gotYear_d) 54 m_gotDay_d) rf)), (eA0 (rf 24) (ck 24) 14 f_sky), (eA0 (rf 29) (ck 29) 24 f_landHas), (eA0 (rf 31) (ck 31) 8 f_first), (eA0 (rf 32) (ck 32) 8 f_last), (eA0 (rf 41) (ck 41) 128 f_knot), (eA0 (rf 42) (ck 42) 128 f_part), (eA0 (rf 43) (ck 43) 128 f_other), (eA1 (rf 55) (ck 55) 6 f_names_d), (eA1 (rf 56) (ck 56) 64 f_value_d)]) hP hD [0, 1, 2, 3, 4, 5, 6, 7, 8, 9] (by decide +kernel) rfl
        have hK9 := hK.sub (tys' := []) [] rfl
        exact W.lret (v := (-2)) hx hb hr (fun t ht hW => ⟨⟨(-2), (m_gotYear_d, m_gotDay_d, m_isError_d, f_names_d, f_value_d), rfl, ⟨((fun e9 => ⟨by rw [e9], by rw [e9]⟩ : fq_festiveOf f_sky f_landHas f_first f_last f_knot f_part f_other f_names f_value a0 a1 (g 12) (gl 53) (gl 54) (g 57) = ((-2 : Int64), m_gotYear_d, m_gotDay_d, m_isError_d, f_names_d, f_value_d) → _) (hI_d.trans (by rw [fq_festiveOf_d]; (try rw [if_pos c_3]); try rfl))), (gy_festiveOf_s1 )⟩, by rw [ht]; exact hP9, va_K.moved hW.alike hK9, hD9⟩, hS.F ht⟩) hS.2.2 dX12_festiveOf_50
      · refine lv_lload hx hb dX12_festiveOf_14 (lv_at hl 0 rfl) ?_
        refine lv_ldc2 (v := 1000000000000) hx hb hown (htw _ (ck_29 _ (List.mem_of_getElem? (i := 22) rfl))) dX12_festiveOf_16 ?_
        refine W.lcmp hx hb dX12_festiveOf_19 ?_
        refine lv_if_gt (tgt := 47) hx hb dX12_festiveOf_20 (by decide) (fun c_4 => ?_) (fun c_4 => ?_)
        · refine lv_ldc2 (v := (-2)) hx hb hown (htw _ (ck_43 _ (List.mem_of_getElem? (i := 22) rfl))) dX12_festiveOf_47 ?_
          refine W.widen (k := 0) (n := 0) (by omega) (by omega) ?_
          obtain ⟨hP9, hD9⟩ := zsub2 (ws' := [(mq, .inr (12, mF (upd g 57 m_isError_d) (vp_updL (vp_updL gl 53 m_gotYear_d) 54 m_gotDay_d) rf)), (eA0 (rf 24) (ck 24) 14 f_sky), (eA0 (rf 29) (ck 29) 24 f_landHas), (eA0 (rf 31) (ck 31) 8 f_first), (eA0 (rf 32) (ck 32) 8 f_last), (eA0 (rf 41) (ck 41) 128 f_knot), (eA0 (rf 42) (ck 42) 128 f_part), (eA0 (rf 43) (ck 43) 128 f_other), (eA1 (rf 55) (ck 55) 6 f_names_d), (eA1 (rf 56) (ck 56) 64 f_value_d)]) hP hD [0, 1, 2, 3, 4, 5, 6, 7, 8, 9] (by decide +kernel) rfl
          have hK9 := hK.sub (tys' := []) [] rfl
          exact W.lret (v := (-2)) hx hb hr (fun t ht hW => ⟨⟨(-2), (m_gotYear_d, m_gotDay_d, m_isError_d, f_names_d, f_value_d), rfl, ⟨((fun e9 => ⟨by rw [e9], by rw [e9]⟩ : fq_festiveOf f_sky f_landHas f_first f_last f_knot f_part f_other f_names f_value a0 a1 (g 12) (gl 53) (gl 54) (g 57) = ((-2 : Int64), m_gotYear_d, m_gotDay_d, m_isError_d, f_names_d, f_value_d) → _) (hI_d.trans (by rw [fq_festiveOf_d]; (try rw [if_neg c_3]); (try rw [if_pos c_4]); try rfl))), (gy_festiveOf_s2 )⟩, by rw [ht]; exact hP9, va_K.moved hW.alike hK9, hD9⟩, hS.F ht⟩) hS.2.2 dX12_festiveOf_50
        · refine lv_aload_n hx hb dX12_festiveOf_23 rfl (lv_at hl 1 rfl) ?_
          refine lv_iload_n hx hb dX12_festiveOf_24 rfl (lv_at hl 2 rfl) ?_
          refine lv_lload hx hb dX12_festiveOf_25 (lv_at hl 0 rfl) ?_
          obtain ⟨hPc, hDc, hFc, hCc⟩ := zsub3 (ws' := [(mq, .inr (12, mF (upd g 57 m_isError_d) (vp_updL (vp_updL gl 53 m_gotYear_d) 54 m_gotDay_d) rf)), (eA0 (rf 24) (ck 24) 14 f_sky), (eA0 (rf 29) (ck 29) 24 f_landHas), (eA0 (rf 31) (ck 31) 8 f_first), (eA0 (rf 32) (ck 32) 8 f_last), (eA0 (rf 41) (ck 41) 128 f_knot), (eA0 (rf 42) (ck 42) 128 f_part), (eA0 (rf 43) (ck 43) 128 f_other), (eA1 (rf 55) (ck 55) 6 f_names_d), (eA1 (rf 56) (ck 56) 64 f_value_d)]) hP hD hS hA [0, 1, 2, 3, 4, 5, 6, 7, 8, 9] (by decide +kernel) rfl
          have hKc := hK.sub (tys' := [((ck 24), .int), ((ck 29), .int), ((ck 31), .int), ((ck 32), .int), ((ck 41), .int), ((ck 42), .int), ((ck 43), .int), ((ck 55), .long), ((ck 56), .long)]) [0, 1, 2, 3, 4, 5, 6, 7, 8] rfl
          refine va_calll (va_runV (As := [.int a0, .long L4d]) (rest := []) ⟨hx, hb, hml, hown, htw⟩ (gq_sumOf l dC dI mq (upd g 57 m_isError_d) (vp_updL (vp_updL gl 53 m_gotYear_d) 54 m_gotDay_d) rf ck f_sky f_landHas f_first f_last f_knot f_part f_other f_names_d f_value_d a0 L4d H.size hf0 (gy_festiveOf_s3 (y0 := a0) (y1 := g 13) hff hfe4) (hFA a0 (And.intro hf0 hff).1 (And.intro hf0 hff).2).1 (hFA a0 (And.intro hf0 hff).1 (And.intro hf0 hff).2).2.1 (hFA a0 (And.intro hf0 hff).1 (And.intro hf0 hff).2).2.2 hKA hln0 hln4 hLZ hs0 hs2 hs5 h0_d (gy_festiveOf_s4 (y0 := L4d) h9_d)) (cwV 2 htw (xg_V (ck_40 _ (List.mem_of_getElem? (i := 22) rfl)) (ck_40 _ (List.mem_of_getElem? (i := 23) rfl)) (ck_41 _ (List.mem_of_getElem? (i := 0) rfl)) (ck_1 _ (List.mem_of_getElem? (i := 5) rfl)) (ck_41 _ (List.mem_of_getElem? (i := 1) rfl))) rfl rfl rfl (by exact ⟨rfl, hdc_14.1, hdc_14.2, hdd_41⟩) ⟨Nat.le_of_ble_eq_true rfl, Nat.le_of_ble_eq_true rfl⟩) ⟨fun a U g mk q => by obtain ⟨q0, q1, qP, qK, qD⟩ := q; exact ⟨q0, q1, qP, va_K.moved (u := U) (U := U.calling g mk a) (Vm.Alike.refl U.vm) qK, qD⟩, va_recv hKc hPc (ci := 12) (q0 := 0) rfl rfl, fun U hU hW => ⟨rfl, by rw [hU], by rw [hU]; exact hPc, va_K.moved hW.alike hKc, hDc.weaken (fun _ _ _ _ => trivial)⟩⟩ rfl rfl hl.1 rfl (lv_room (Nat.le_of_ble_eq_true rfl)) dX12_festiveOf_27 ⟨Nat.le_of_ble_eq_true rfl, Nat.le_of_ble_eq_true rfl⟩) hS (fun q _ h => hFc q h) hFc (fun r_5 u_6 t H1 locs ht hvm hw hB hz1 hk1 hS => ?_)
          try dsimp only at hw
          obtain ⟨hP1, hK1, hD1⟩ := hB
          rw [ht] at hP1
          have hK1 := va_K.moved hvm.symm hK1
          have hK1 : va_K (dC, dI) vwCl [] s := hK1
          obtain ⟨hP, hD⟩ := va_join (wr := []) (w1 := [(mq, .inr (12, mF (upd g 57 u_6.2.2.1) (vp_updL (vp_updL gl 53 u_6.1) 54 u_6.2.1) rf)), (eA0 (rf 24) (ck 24) 14 f_sky), (eA0 (rf 29) (ck 29) 24 f_landHas), (eA0 (rf 31) (ck 31) 8 f_first), (eA0 (rf 32) (ck 32) 8 f_last), (eA0 (rf 41) (ck 41) 128 f_knot), (eA0 (rf 42) (ck 42) 128 f_part), (eA0 (rf 43) (ck 43) 128 f_other), (eA1 (rf 55) (ck 55) 6 u_6.2.2.2.1), (eA1 (rf 56) (ck 56) 64 u_6.2.2.2.2)]) hP hD [0, 1, 2, 3, 4, 5, 6, 7, 8, 9] [] hCc rfl (by decide +kernel) (by decide +kernel) hk1 hFc hP1 hD1
          generalize H1 = H at hP hS ⊢
          obtain ⟨hP, hD⟩ := zre [(mq, .inr (12, mF (upd g 57 u_6.2.2.1) (vp_updL (vp_updL gl 53 u_6.1) 54 u_6.2.1) rf)), (eA0 (rf 24) (ck 24) 14 f_sky), (eA0 (rf 29) (ck 29) 24 f_landHas), (eA0 (rf 31) (ck 31) 8 f_first), (eA0 (rf 32) (ck 32) 8 f_last), (eA0 (rf 41) (ck 41) 128 f_knot), (eA0 (rf 42) (ck 42) 128 f_part), (eA0 (rf 43) (ck 43) 128 f_other), (eA1 (rf 55) (ck 55) 6 u_6.2.2.2.1), (eA1 (rf 56) (ck 56) 64 u_6.2.2.2.2)] hP hD rfl
          refine W.widen (k := 0) (n := 0) (by omega) (by omega) ?_
          obtain ⟨X_12, hX_12⟩ : ∃ X9 : Int64 × (Int64) × (Int64) × (Int32) × (Nat → Int64) × (Nat → Int64), X9 = (fq_sumOf f_sky f_landHas f_first f_last f_knot f_part f_other f_names_d f_value_d a0 L4d (g 12) m_gotYear_d m_gotDay_d) := ⟨_, rfl⟩
          have hq_r_5 : r_5 = X_12.1 := by rw [hX_12]; exact hw.1
          have hq_u_6 : u_6 = X_12.2 := by rw [hX_12]; exact hw.2
          refine lv_lconst (v := 0) hx hb dX12_festiveOf_30 (by decide) ?_
          refine W.lcmp hx hb dX12_festiveOf_31 ?_
          refine lv_if_eq (tgt := 38) hx hb dX12_festiveOf_32 (by decide) (fun c_13 => ?_) (fun c_13 => ?_)
          · refine lv_lload hx hb dX12_festiveOf_38 (lv_at hl 0 rfl) ?_
            refine lv_lconst (v := 1) hx hb dX12_festiveOf_40 (by decide) ?_
            refine lv_ladd hx hb dX12_festiveOf_41 ?_
            refine lv_lstore (lv' := [(4, .long (L4d + 1)), (0, .ref mq), (1, .int a0), (2, .long a1)]) hx hb dX12_festiveOf_42 hl (by decide) rfl (fun ls hl => ?_)
            refine lv_goto (tgt := 3) hx hb dX12_festiveOf_44 (by decide) ?_
            exact ih (L4d + 1) u_6.1 u_6.2.1 u_6.2.2.1 u_6.2.2.2.1 u_6.2.2.2.2 (by rw [xj_s (Int64.not_le.mp (fun q => c_3 ((lg_cmp_ge _ _).mpr q)))]; omega) (gy_festiveOf_s5 (y0 := L4d) h0_d h9_d) (gy_festiveOf_s6 (y0 := L4d) (fun q9 => c_4 ((lg_cmp_gt _ _).mpr q9)) h0_d h9_d) (hI_d.trans (by rw [fq_festiveOf_d]; (try rw [if_neg c_3]); (try rw [if_neg c_4]); (try rw [← hX_12]); (try rw [xL_eq]); (try rw [← hq_r_5]); (try rw [← hq_u_6]); (try rw [if_pos c_13]); try rfl)) H locs ls hP hD hS (lv_sub hl [0, 1, 2, 3] rfl)
          · refine lv_lload hx hb dX12_festiveOf_35 (lv_at hl 0 rfl) ?_
            refine W.widen (k := 0) (n := 0) (by omega) (by omega) ?_
            have hP9 := hP
            have hD9 := hD
            have hK9 := hK.sub (tys' := []) [] rfl
            exact W.lret (v := L4d) hx hb hr (fun t ht hW => ⟨⟨L4d, (u_6.1, u_6.2.1, u_6.2.2.1, u_6.2.2.2.1, u_6.2.2.2.2), rfl, ⟨((fun e9 => ⟨by rw [e9], by rw [e9]⟩ : fq_festiveOf f_sky f_landHas f_first f_last f_knot f_part f_other f_names f_value a0 a1 (g 12) (gl 53) (gl 54) (g 57) = (L4d, u_6.1, u_6.2.1, u_6.2.2.1, u_6.2.2.2.1, u_6.2.2.2.2) → _) (hI_d.trans (by rw [fq_festiveOf_d]; (try rw [if_neg c_3]); (try rw [if_neg c_4]); (try rw [← hX_12]); (try rw [xL_eq]); (try rw [← hq_r_5]); (try rw [← hq_u_6]); (try rw [if_neg c_13]); try rfl))), h9_d⟩, by rw [ht]; exact hP9, va_K.moved hW.alike hK9, hD9⟩, hS.F ht⟩) hS.2.2 dX12_festiveOf_37
  exact hloop_1 20000 a1 (gl 53) (gl 54) (g 57) f_names f_value (by rw [xj_add (gy_festiveOf_s7 (y0 := a1) hc0 hc9).1 (gy_festiveOf_s7 (y0 := a1) hc0 hc9).2 (by decide) (by decide)]; have e9 : (20000 : Int64).toInt = 20000 := rfl; omega) hc0 hc9 ((by rw [fq_festiveOf])) _ _ ls hP hD hS (lv_sub hl [0, 1, 2, 3] rfl)

theorem gy_yearsLater_s0  : (-1 : Int64) ≤ 1000000000000 := (by decide)
set_option maxHeartbeats 4000000 in
set_option maxRecDepth 100000 in
theorem gy_yearsLater (l : Launch) (dC : Nat → ClassId) (dI : Nat → Nat → Nat) (mq : Nat) (g : Nat → Int32) (gl : Nat → Int64) (rf : Nat → Nat) (ck : Nat → ClassId) (f_landHas : Nat → Int32) (a0 : Int32) (a1 : Int64) (a2 : Int64) (hl0 : ¬ a0 < 0) (hl7 : a0 ≤ 7) : Met l yX12_yearsLater (Cond.code yX12_yearsLater cX12_yearsLater 6 (some .long) :: wsL_law) ({ frames := 3, cells := 0, slots := 0, locals := 73 }) (va_Pc [.ref mq, .int a0, .long a1, .long a2] (fun U => va_P (dC, dI) vwCl [(mq, .inr (12, mF g gl rf)), (eA0 (rf 29) (ck 29) 24 f_landHas)] U.heap ∧ va_K (dC, dI) vwCl [((ck 29), .int)] U)) (vp_Sl (fun r => (r = fq_yearsLater f_landHas a0 a1 a2) ∧ (r ≤ 1000000000000))) 0 0 (fun _ => False) := by
  refine Met.ofW (cc := cX12_yearsLater) (maxL := 6) (ret := (some .long)) (by decide) rfl ?_
  intro p e s m args below meth c s₁ B hml hv
  obtain ⟨rfl, hP, hK⟩ := hv
  have hx := B.exec
  have hb := B.bytes
  have hr := B.returns
  have hts := atoms_spec (ws := Cond.code yX12_yearsLater cX12_yearsLater 6 (some .long) :: wsL_law) B.pre
  have htw : ∀ w ∈ wsL_law, w.before _ s = true := fun w h => hts w (List.mem_cons_of_mem _ h)
  have hown : s.vm.findClass RX12 = some m.cls := findClass_of_methodNamed B.named
  have hlocks := B.notSynchronized
  have hl := lv_entry ([.ref mq, .int a0, .long a1, .long a2]) (n := 6) (Nat.le_of_ble_eq_true rfl)
  rw [lg_entry_eq]
  generalize (lg_sl ([.ref mq, .int a0, .long a1, .long a2]) ++ List.replicate (6 - (lg_sl ([.ref mq, .int a0, .long a1, .long a2])).length) Slot.unset).toArray = ls at hl ⊢
  have hl : lv_has ls 6 [(0, .ref mq), (1, .int a0), (2, .long a1), (4, .long a2)] := hl
  refine lv_aload_n hx hb dX12_yearsLater_0 rfl (lv_at hl 0 rfl) ?_
  refine lv_iload_n hx hb dX12_yearsLater_1 rfl (lv_at hl 1 rfl) ?_
  refine lv_lload_n hx hb dX12_yearsLater_2 rfl (lv_at hl 2 rfl) ?_
  have hPc := hP.sub (ws' := [(mq, .inr (12, mF g gl rf)), (eA0 (rf 29) (ck 29) 24 f_landHas)]) [0, 1] rfl
  have hKc := hK.sub (tys' := [((ck 29), .int)]) [0] rfl
  refine vp_callSi (W.runV (As := [.int a0, .long a1]) (rest := []) ⟨hx, hb, hml, hown, htw⟩ (gq_isYear l dC dI mq g gl rf ck f_landHas a0 a1 hl0 hl7) (cwV 2 htw (xg_V (ck_29 _ (List.mem_of_getElem? (i := 23) rfl)) (ck_30 _ (List.mem_of_getElem? (i := 0) rfl)) (ck_30 _ (List.mem_of_getElem? (i := 1) rfl)) (ck_1 _ (List.mem_of_getElem? (i := 5) rfl)) (ck_30 _ (List.mem_of_getElem? (i := 2) rfl))) rfl rfl rfl (by exact ⟨rfl, hdc_14.1, hdc_14.2, hdd_42⟩) ⟨Nat.le_of_ble_eq_true rfl, Nat.le_of_ble_eq_true rfl⟩) ⟨fun a U g mk q => by obtain ⟨q0, qP, qK⟩ := q; exact ⟨q0, qP, va_K.moved (u := U) (U := U.calling g mk a) (Vm.Alike.refl U.vm) qK⟩, va_recv hKc hPc (ci := 12) (q0 := 0) rfl rfl, fun U hU hW => ⟨rfl, by rw [hU]; exact hPc, va_K.moved hW.alike hKc⟩⟩ rfl rfl hl.1 rfl (lv_room (Nat.le_of_ble_eq_true rfl)) dX12_yearsLater_3 ⟨Nat.le_of_ble_eq_true rfl, Nat.le_of_ble_eq_true rfl⟩) (fun r_1 hw => ?_)
  try dsimp only at hw
  obtain ⟨hw, hb_r_1⟩ := hw
  have hq_r_1 : r_1 = (fq_isYear f_landHas a0 a1) := hw
  refine lv_if_ne (tgt := 13) hx hb dX12_yearsLater_6 (by decide) (fun c_2 => ?_) (fun c_2 => ?_)
  · refine lv_aload_n hx hb dX12_yearsLater_13 rfl (lv_at hl 0 rfl) ?_
    refine lv_iload_n hx hb dX12_yearsLater_14 rfl (lv_at hl 1 rfl) ?_
    refine lv_lload_n hx hb dX12_yearsLater_15 rfl (lv_at hl 2 rfl) ?_
    have hPc := hP.sub (ws' := [(mq, .inr (12, mF g gl rf)), (eA0 (rf 29) (ck 29) 24 f_landHas)]) [0, 1] rfl
    have hKc := hK.sub (tys' := [((ck 29), .int)]) [0] rfl
    refine vp_callSl (W.runV (As := [.int a0, .long a1]) (rest := []) ⟨hx, hb, hml, hown, htw⟩ (gq_lengthOf l dC dI mq g gl rf ck f_landHas a0 a1 hl0 hl7) (cwV 2 htw (xg_V (ck_30 _ (List.mem_of_getElem? (i := 3) rfl)) (ck_30 _ (List.mem_of_getElem? (i := 4) rfl)) (ck_30 _ (List.mem_of_getElem? (i := 5) rfl)) (ck_1 _ (List.mem_of_getElem? (i := 5) rfl)) (ck_30 _ (List.mem_of_getElem? (i := 6) rfl))) rfl rfl rfl (by exact ⟨rfl, hdc_14.1, hdc_14.2, hdd_41⟩) ⟨Nat.le_of_ble_eq_true rfl, Nat.le_of_ble_eq_true rfl⟩) ⟨fun a U g mk q => by obtain ⟨q0, qP, qK⟩ := q; exact ⟨q0, qP, va_K.moved (u := U) (U := U.calling g mk a) (Vm.Alike.refl U.vm) qK⟩, va_recv hKc hPc (ci := 12) (q0 := 0) rfl rfl, fun U hU hW => ⟨rfl, by rw [hU]; exact hPc, va_K.moved hW.alike hKc⟩⟩ rfl rfl hl.1 rfl (lv_room (Nat.le_of_ble_eq_true rfl)) dX12_yearsLater_16 ⟨Nat.le_of_ble_eq_true rfl, Nat.le_of_ble_eq_true rfl⟩) (fun r_3 hw => ?_)
    try dsimp only at hw
    have hq_r_3 : r_3 = (fq_lengthOf f_landHas a0 a1) := hw
    refine lv_lload hx hb dX12_yearsLater_19 (lv_at hl 3 rfl) ?_
    refine W.lcmp hx hb dX12_yearsLater_21 ?_
    refine lv_if_lt (tgt := 34) hx hb dX12_yearsLater_22 (by decide) (fun c_4 => ?_) (fun c_4 => ?_)
    · refine lv_aload_n hx hb dX12_yearsLater_34 rfl (lv_at hl 0 rfl) ?_
      refine lv_iload_n hx hb dX12_yearsLater_35 rfl (lv_at hl 1 rfl) ?_
      refine lv_lload_n hx hb dX12_yearsLater_36 rfl (lv_at hl 2 rfl) ?_
      refine lv_lconst (v := 1) hx hb dX12_yearsLater_37 (by decide) ?_
      refine lv_ladd hx hb dX12_yearsLater_38 ?_
      refine lv_lconst (v := 1) hx hb dX12_yearsLater_39 (by decide) ?_
      have hPc := hP.sub (ws' := [(mq, .inr (12, mF g gl rf)), (eA0 (rf 29) (ck 29) 24 f_landHas)]) [0, 1] rfl
      have hKc := hK.sub (tys' := [((ck 29), .int)]) [0] rfl
      refine vp_callSl (W.runV (As := [.int a0, .long (a1 + 1), .long 1]) (rest := []) ⟨hx, hb, hml, hown, htw⟩ (gy_countOf l dC dI mq g gl rf ck f_landHas a0 (a1 + 1) (1 : Int64) hl0 hl7) (cwV 3 htw (xg_V (ck_29 _ (List.mem_of_getElem? (i := 18) rfl)) (ck_29 _ (List.mem_of_getElem? (i := 19) rfl)) (ck_29 _ (List.mem_of_getElem? (i := 20) rfl)) (ck_1 _ (List.mem_of_getElem? (i := 5) rfl)) (ck_29 _ (List.mem_of_getElem? (i := 21) rfl))) rfl rfl rfl (by exact ⟨rfl, hdc_14.1, hdc_14.2, hdd_11⟩) ⟨Nat.le_of_ble_eq_true rfl, Nat.le_of_ble_eq_true rfl⟩) ⟨fun a U g mk q => by obtain ⟨q0, qP, qK⟩ := q; exact ⟨q0, qP, va_K.moved (u := U) (U := U.calling g mk a) (Vm.Alike.refl U.vm) qK⟩, va_recv hKc hPc (ci := 12) (q0 := 0) rfl rfl, fun U hU hW => ⟨rfl, by rw [hU]; exact hPc, va_K.moved hW.alike hKc⟩⟩ rfl rfl hl.1 rfl (lv_room (Nat.le_of_ble_eq_true rfl)) dX12_yearsLater_40 ⟨Nat.le_of_ble_eq_true rfl, Nat.le_of_ble_eq_true rfl⟩) (fun r_5 hw => ?_)
      try dsimp only at hw
      obtain ⟨hw, hp_6⟩ := hw
      have hq_r_5 : r_5 = (fq_countOf f_landHas a0 (a1 + 1) (1 : Int64)) := hw
      exact W.lret (v := r_5) hx hb hr (fun t ht hW => ⟨r_5, rfl, ⟨(Eq.symm ((by rw [fq_yearsLater]; (try rw [← hq_r_1]); (try rw [xL_eq]); (try rw [if_neg c_2]); (try rw [← hq_r_3]); (try rw [xL_eq]); (try rw [if_pos c_4]); (try rw [← hq_r_5]); (try rw [xL_eq]); try rfl))), hp_6⟩, ht⟩) (fun _ h => by cases h) dX12_yearsLater_43
    · refine lv_aload_n hx hb dX12_yearsLater_25 rfl (lv_at hl 0 rfl) ?_
      refine lv_iload_n hx hb dX12_yearsLater_26 rfl (lv_at hl 1 rfl) ?_
      refine lv_lload_n hx hb dX12_yearsLater_27 rfl (lv_at hl 2 rfl) ?_
      refine lv_lload hx hb dX12_yearsLater_28 (lv_at hl 3 rfl) ?_
      have hPc := hP.sub (ws' := [(mq, .inr (12, mF g gl rf)), (eA0 (rf 29) (ck 29) 24 f_landHas)]) [0, 1] rfl
      have hKc := hK.sub (tys' := [((ck 29), .int)]) [0] rfl
      refine vp_callSl (W.runV (As := [.int a0, .long a1, .long a2]) (rest := []) ⟨hx, hb, hml, hown, htw⟩ (gy_countOf l dC dI mq g gl rf ck f_landHas a0 a1 a2 hl0 hl7) (cwV 3 htw (xg_V (ck_29 _ (List.mem_of_getElem? (i := 18) rfl)) (ck_29 _ (List.mem_of_getElem? (i := 19) rfl)) (ck_29 _ (List.mem_of_getElem? (i := 20) rfl)) (ck_1 _ (List.mem_of_getElem? (i := 5) rfl)) (ck_29 _ (List.mem_of_getElem? (i := 21) rfl))) rfl rfl rfl (by exact ⟨rfl, hdc_14.1, hdc_14.2, hdd_11⟩) ⟨Nat.le_of_ble_eq_true rfl, Nat.le_of_ble_eq_true rfl⟩) ⟨fun a U g mk q => by obtain ⟨q0, qP, qK⟩ := q; exact ⟨q0, qP, va_K.moved (u := U) (U := U.calling g mk a) (Vm.Alike.refl U.vm) qK⟩, va_recv hKc hPc (ci := 12) (q0 := 0) rfl rfl, fun U hU hW => ⟨rfl, by rw [hU]; exact hPc, va_K.moved hW.alike hKc⟩⟩ rfl rfl hl.1 rfl (lv_room (Nat.le_of_ble_eq_true rfl)) dX12_yearsLater_30 ⟨Nat.le_of_ble_eq_true rfl, Nat.le_of_ble_eq_true rfl⟩) (fun r_7 hw => ?_)
      try dsimp only at hw
      obtain ⟨hw, hp_8⟩ := hw
      have hq_r_7 : r_7 = (fq_countOf f_landHas a0 a1 a2) := hw
      exact W.lret (v := r_7) hx hb hr (fun t ht hW => ⟨r_7, rfl, ⟨(Eq.symm ((by rw [fq_yearsLater]; (try rw [← hq_r_1]); (try rw [xL_eq]); (try rw [if_neg c_2]); (try rw [← hq_r_3]); (try rw [xL_eq]); (try rw [if_neg c_4]); (try rw [← hq_r_7]); (try rw [xL_eq]); try rfl))), hp_8⟩, ht⟩) (fun _ h => by cases h) dX12_yearsLater_33
  · refine lv_ldc2 (v := (-1)) hx hb hown (htw _ (ck_29 _ (List.mem_of_getElem? (i := 13) rfl))) dX12_yearsLater_9 ?_
    exact W.lret (v := (-1)) hx hb hr (fun t ht hW => ⟨(-1), rfl, ⟨(Eq.symm ((by rw [fq_yearsLater]; (try rw [← hq_r_1]); (try rw [xL_eq]); (try rw [if_pos c_2]); try rfl))), (gy_yearsLater_s0 )⟩, ht⟩) (fun _ h => by cases h) dX12_yearsLater_12

def fq_dueOf (f_sky : Nat → Int32) (f_landHas : Nat → Int32) (f_first : Nat → Int32) (f_last : Nat → Int32) (f_deedOn : Nat → Int64) (f_deedHas : Nat → Int32) (f_knot : Nat → Int32) (f_part : Nat → Int32) (f_other : Nat → Int32) (f_names : Nat → Int64) (f_value : Nat → Int64) (a0 : Int32) (a1 : Int32) (m_lands : Int32) (m_gotYear : Int64) (m_gotDay : Int64) (m_isError : Int32) : Int64 × (Int64) × (Int64) × (Int32) × (Nat → Int64) × (Nat → Int64) := (if f_deedHas ((3 * a0).toNatClampNeg) = 0 then (xL ((fq_yearsLater f_landHas a1 (m_gotYear + ((f_deedHas (((3 * a0) + 1).toNatClampNeg)).toInt64)) m_gotDay)) (fun r_13 => (r_13, m_gotYear, m_gotDay, m_isError, f_names, f_value))) else (if f_deedHas ((3 * a0).toNatClampNeg) = 2 then (xL ((fq_festiveOf f_sky f_landHas f_first f_last f_knot f_part f_other f_names f_value (f_deedHas (((3 * a0) + 1).toNatClampNeg)) ((f_deedOn a0.toNatClampNeg) + 1) m_lands m_gotYear m_gotDay m_isError)) (fun X_12 => (X_12.1, X_12.2.1, X_12.2.2.1, X_12.2.2.2.1, X_12.2.2.2.2.1, X_12.2.2.2.2.2))) else (if lg_cmp ((f_deedOn a0.toNatClampNeg) + ((f_deedHas (((3 * a0) + 1).toNatClampNeg)).toInt64)) 1000000000000 ≤ 0 then (((f_deedOn a0.toNatClampNeg) + ((f_deedHas (((3 * a0) + 1).toNatClampNeg)).toInt64)), m_gotYear, m_gotDay, m_isError, f_names, f_value) else ((-1 : Int64), m_gotYear, m_gotDay, m_isError, f_names, f_value))))
theorem gq_dueOf_s0 {y0 : Int32} (h0 : ¬ (y0 < 0)) (h1 : y0 < 4) : ¬ (((3 * y0) + 1) < 0) ∧ ¬ (24 ≤ ((3 * y0) + 1)) := by lia
theorem gq_dueOf_s1 {y0 : Int32} (h0 : ¬ (y0 < 0)) (h1 : y0 < 4) : ¬ ((3 * y0) < 0) ∧ ¬ (24 ≤ (3 * y0)) := by lia
theorem gq_dueOf_s2 {y0 : Int32} (h0 : ¬ (y0 < 0)) (h1 : y0 < 4) : ¬ ((3 * y0) < 0) ∧ ¬ (24 ≤ (3 * y0)) := by lia
theorem gq_dueOf_s3 {y0 : Int32} (h0 : ¬ (y0 < 0)) (h1 : y0 < 4) : ¬ (y0 < 0) ∧ ¬ (8 ≤ y0) := by lia
theorem gq_dueOf_s4 {y0 : Int32} (h0 : ¬ (y0 < 0)) (h1 : y0 < 4) : ¬ (y0 < 0) ∧ ¬ (8 ≤ y0) := by lia
theorem gq_dueOf_s5 {y0 : Int64} {y1 : Int64} (h0 : (y0 + y1) ≤ 1000000000000) (h1 : ¬ (y0 < 0)) (h2 : y0 ≤ 1000000000000) : (y0 + y1) ≤ 2000000000000 := by lia
theorem gq_dueOf_s6  : (-1 : Int64) ≤ 2000000000000 := (by decide)
theorem gq_dueOf_s7 {y0 : Int32} (h0 : ¬ (y0 < 0)) (h1 : y0 < 4) : ¬ (y0 < 0) ∧ ¬ (8 ≤ y0) := by lia
theorem gq_dueOf_s8 {y0 : Int64} (h0 : ¬ (y0 < 0)) (h1 : y0 ≤ 1000000000000) : ¬ ((y0 + 1) < 0) := by lia
theorem gq_dueOf_s9 {y0 : Int64} (h0 : ¬ (y0 < 0)) (h1 : y0 ≤ 1000000000000) : (y0 + 1) ≤ 1000000000001 := by lia
theorem gq_dueOf_s10 {y0 : Int64} (h0 : y0 ≤ 1000000000001) : y0 ≤ 2000000000000 := by lia
theorem gq_dueOf_s11 {y0 : Int64} (h0 : y0 ≤ 1000000000000) : y0 ≤ 2000000000000 := by lia
theorem dX12_dueOf_0 : decode cX12_dueOf 0 = .ok (.aload_n 0, 1) := zk_42 (by decide +kernel)
theorem dX12_dueOf_1 : decode cX12_dueOf 1 = .ok (.getfield 54, 3) := zk_180 (by decide +kernel)
theorem dX12_dueOf_4 : decode cX12_dueOf 4 = .ok (.iconst 3, 1) := zk_6 (by decide +kernel)
theorem dX12_dueOf_5 : decode cX12_dueOf 5 = .ok (.iload_n 1, 1) := zk_27 (by decide +kernel)
theorem dX12_dueOf_6 : decode cX12_dueOf 6 = .ok (.imul, 1) := zk_104 (by decide +kernel)
theorem dX12_dueOf_7 : decode cX12_dueOf 7 = .ok (.iconst 1, 1) := zk_4 (by decide +kernel)
theorem dX12_dueOf_8 : decode cX12_dueOf 8 = .ok (.iadd, 1) := zk_96 (by decide +kernel)
theorem dX12_dueOf_9 : decode cX12_dueOf 9 = .ok (.iaload, 1) := zk_46 (by decide +kernel)
theorem dX12_dueOf_10 : decode cX12_dueOf 10 = .ok (.istore_n 3, 1) := zk_62 (by decide +kernel)
theorem dX12_dueOf_11 : decode cX12_dueOf 11 = .ok (.aload_n 0, 1) := zk_42 (by decide +kernel)
theorem dX12_dueOf_12 : decode cX12_dueOf 12 = .ok (.getfield 54, 3) := zk_180 (by decide +kernel)
theorem dX12_dueOf_15 : decode cX12_dueOf 15 = .ok (.iconst 3, 1) := zk_6 (by decide +kernel)
theorem dX12_dueOf_16 : decode cX12_dueOf 16 = .ok (.iload_n 1, 1) := zk_27 (by decide +kernel)
theorem dX12_dueOf_17 : decode cX12_dueOf 17 = .ok (.imul, 1) := zk_104 (by decide +kernel)
theorem dX12_dueOf_18 : decode cX12_dueOf 18 = .ok (.iaload, 1) := zk_46 (by decide +kernel)
theorem dX12_dueOf_19 : decode cX12_dueOf 19 = .ok (.ifCond .ne 20, 3) := zk_154 (by decide +kernel)
theorem dX12_dueOf_39 : decode cX12_dueOf 39 = .ok (.aload_n 0, 1) := zk_42 (by decide +kernel)
theorem dX12_dueOf_40 : decode cX12_dueOf 40 = .ok (.getfield 54, 3) := zk_180 (by decide +kernel)
theorem dX12_dueOf_43 : decode cX12_dueOf 43 = .ok (.iconst 3, 1) := zk_6 (by decide +kernel)
theorem dX12_dueOf_44 : decode cX12_dueOf 44 = .ok (.iload_n 1, 1) := zk_27 (by decide +kernel)
theorem dX12_dueOf_45 : decode cX12_dueOf 45 = .ok (.imul, 1) := zk_104 (by decide +kernel)
theorem dX12_dueOf_46 : decode cX12_dueOf 46 = .ok (.iaload, 1) := zk_46 (by decide +kernel)
theorem dX12_dueOf_47 : decode cX12_dueOf 47 = .ok (.iconst 2, 1) := zk_5 (by decide +kernel)
theorem dX12_dueOf_48 : decode cX12_dueOf 48 = .ok (.if_icmp .ne 17, 3) := zk_160 (by decide +kernel)
theorem dX12_dueOf_65 : decode cX12_dueOf 65 = .ok (.aload_n 0, 1) := zk_42 (by decide +kernel)
theorem dX12_dueOf_66 : decode cX12_dueOf 66 = .ok (.getfield 51, 3) := zk_180 (by decide +kernel)
theorem dX12_dueOf_69 : decode cX12_dueOf 69 = .ok (.iload_n 1, 1) := zk_27 (by decide +kernel)
theorem dX12_dueOf_70 : decode cX12_dueOf 70 = .ok (.laload, 1) := zk_47 (by decide +kernel)
theorem dX12_dueOf_71 : decode cX12_dueOf 71 = .ok (.iload_n 3, 1) := zk_29 (by decide +kernel)
theorem dX12_dueOf_72 : decode cX12_dueOf 72 = .ok (.i2l, 1) := zk_133 (by decide +kernel)
theorem dX12_dueOf_73 : decode cX12_dueOf 73 = .ok (.ladd, 1) := zk_97 (by decide +kernel)
theorem dX12_dueOf_74 : decode cX12_dueOf 74 = .ok (.ldc2_w 125, 3) := zk_20 (by decide +kernel)
theorem dX12_dueOf_77 : decode cX12_dueOf 77 = .ok (.lcmp, 1) := zk_148 (by decide +kernel)
theorem dX12_dueOf_78 : decode cX12_dueOf 78 = .ok (.ifCond .le 9, 3) := zk_158 (by decide +kernel)
theorem dX12_dueOf_87 : decode cX12_dueOf 87 = .ok (.aload_n 0, 1) := zk_42 (by decide +kernel)
theorem dX12_dueOf_88 : decode cX12_dueOf 88 = .ok (.getfield 51, 3) := zk_180 (by decide +kernel)
theorem dX12_dueOf_91 : decode cX12_dueOf 91 = .ok (.iload_n 1, 1) := zk_27 (by decide +kernel)
theorem dX12_dueOf_92 : decode cX12_dueOf 92 = .ok (.laload, 1) := zk_47 (by decide +kernel)
theorem dX12_dueOf_93 : decode cX12_dueOf 93 = .ok (.iload_n 3, 1) := zk_29 (by decide +kernel)
theorem dX12_dueOf_94 : decode cX12_dueOf 94 = .ok (.i2l, 1) := zk_133 (by decide +kernel)
theorem dX12_dueOf_95 : decode cX12_dueOf 95 = .ok (.ladd, 1) := zk_97 (by decide +kernel)
theorem dX12_dueOf_96 : decode cX12_dueOf 96 = .ok (.lreturn, 1) := zk_173 (by decide +kernel)
theorem dX12_dueOf_81 : decode cX12_dueOf 81 = .ok (.ldc2_w 273, 3) := zk_20 (by decide +kernel)
theorem dX12_dueOf_84 : decode cX12_dueOf 84 = .ok (.goto 12, 3) := zk_167 (by decide +kernel)
theorem dX12_dueOf_51 : decode cX12_dueOf 51 = .ok (.aload_n 0, 1) := zk_42 (by decide +kernel)
theorem dX12_dueOf_52 : decode cX12_dueOf 52 = .ok (.iload_n 3, 1) := zk_29 (by decide +kernel)
theorem dX12_dueOf_53 : decode cX12_dueOf 53 = .ok (.aload_n 0, 1) := zk_42 (by decide +kernel)
theorem dX12_dueOf_54 : decode cX12_dueOf 54 = .ok (.getfield 51, 3) := zk_180 (by decide +kernel)
theorem dX12_dueOf_57 : decode cX12_dueOf 57 = .ok (.iload_n 1, 1) := zk_27 (by decide +kernel)
theorem dX12_dueOf_58 : decode cX12_dueOf 58 = .ok (.laload, 1) := zk_47 (by decide +kernel)
theorem dX12_dueOf_59 : decode cX12_dueOf 59 = .ok (.lconst 1, 1) := zk_10 (by decide +kernel)
theorem dX12_dueOf_60 : decode cX12_dueOf 60 = .ok (.ladd, 1) := zk_97 (by decide +kernel)
theorem dX12_dueOf_61 : decode cX12_dueOf 61 = .ok (.invokevirtual 458, 3) := zk_182 (by decide +kernel)
theorem dX12_dueOf_64 : decode cX12_dueOf 64 = .ok (.lreturn, 1) := zk_173 (by decide +kernel)
theorem dX12_dueOf_22 : decode cX12_dueOf 22 = .ok (.aload_n 0, 1) := zk_42 (by decide +kernel)
theorem dX12_dueOf_23 : decode cX12_dueOf 23 = .ok (.iload_n 2, 1) := zk_28 (by decide +kernel)
theorem dX12_dueOf_24 : decode cX12_dueOf 24 = .ok (.aload_n 0, 1) := zk_42 (by decide +kernel)
theorem dX12_dueOf_25 : decode cX12_dueOf 25 = .ok (.getfield 396, 3) := zk_180 (by decide +kernel)
theorem dX12_dueOf_28 : decode cX12_dueOf 28 = .ok (.iload_n 3, 1) := zk_29 (by decide +kernel)
theorem dX12_dueOf_29 : decode cX12_dueOf 29 = .ok (.i2l, 1) := zk_133 (by decide +kernel)
theorem dX12_dueOf_30 : decode cX12_dueOf 30 = .ok (.ladd, 1) := zk_97 (by decide +kernel)
theorem dX12_dueOf_31 : decode cX12_dueOf 31 = .ok (.aload_n 0, 1) := zk_42 (by decide +kernel)
theorem dX12_dueOf_32 : decode cX12_dueOf 32 = .ok (.getfield 399, 3) := zk_180 (by decide +kernel)
theorem dX12_dueOf_35 : decode cX12_dueOf 35 = .ok (.invokevirtual 477, 3) := zk_182 (by decide +kernel)
theorem dX12_dueOf_38 : decode cX12_dueOf 38 = .ok (.lreturn, 1) := zk_173 (by decide +kernel)
set_option maxHeartbeats 4000000 in
set_option maxRecDepth 100000 in
theorem gq_dueOf (l : Launch) (dC : Nat → ClassId) (dI : Nat → Nat → Nat) (mq : Nat) (g : Nat → Int32) (gl : Nat → Int64) (rf : Nat → Nat) (ck : Nat → ClassId) (f_sky : Nat → Int32) (f_landHas : Nat → Int32) (f_first : Nat → Int32) (f_last : Nat → Int32) (f_deedOn : Nat → Int64) (f_deedHas : Nat → Int32) (f_knot : Nat → Int32) (f_part : Nat → Int32) (f_other : Nat → Int32) (f_names : Nat → Int64) (f_value : Nat → Int64) (a0 : Int32) (a1 : Int32) (sz : Nat) (hd0 : ¬ a0 < 0) (hd4 : a0 < 4) (hl0 : ¬ a1 < 0) (hl7 : a1 ≤ 7) (hDO0 : ¬ (f_deedOn a0.toNatClampNeg) < 0) (hDO9 : (f_deedOn a0.toNatClampNeg) ≤ 1000000000000) (hDK : (f_deedHas ((3 * a0).toNatClampNeg)) = 2 → ¬ (f_deedHas (((3 * a0) + 1).toNatClampNeg)) < 0 ∧ (f_deedHas (((3 * a0) + 1).toNatClampNeg)) < (g 13)) (hfe0 : ¬ (g 13) < 0) (hfe4 : (g 13) ≤ 4) (hFA : ∀ k : Int32, ¬ k < 0 → k < (g 13) → ¬ (f_first k.toNatClampNeg) < 0 ∧ (f_last k.toNatClampNeg) ≤ 64 ∧ ¬ (f_last k.toNatClampNeg) < 1) (hKA : ∀ k : Nat, k < 64 → xKV f_knot f_part f_other k) (hln0 : ¬ (g 12) < 0) (hln4 : (g 12) ≤ 4) (hLZ : ∀ k : Int32, ¬ k < 0 → k < (g 12) → ¬ (f_landHas ((3 * k).toNatClampNeg)) = 0) (hs0 : ¬ (f_sky 0) < 1) (hs2 : ¬ (f_sky 2) < 1) (hs5 : ¬ (f_sky 5) < 1) : Met l yX12_dueOf (Cond.code yX12_dueOf cX12_dueOf 4 (some .long) :: wsL_law) ({ frames := 4, cells := 0, slots := 0, locals := 106 }) (va_Pc [.ref mq, .int a0, .int a1] (fun U => U.heap.size = sz ∧ va_P (dC, dI) vwCl [(mq, .inr (12, mF g gl rf)), (eA0 (rf 24) (ck 24) 14 f_sky), (eA0 (rf 29) (ck 29) 24 f_landHas), (eA0 (rf 31) (ck 31) 8 f_first), (eA0 (rf 32) (ck 32) 8 f_last), (eA1 (rf 37) (ck 37) 8 f_deedOn), (eA0 (rf 38) (ck 38) 24 f_deedHas), (eA0 (rf 41) (ck 41) 128 f_knot), (eA0 (rf 42) (ck 42) 128 f_part), (eA0 (rf 43) (ck 43) 128 f_other), (eA1 (rf 55) (ck 55) 6 f_names), (eA1 (rf 56) (ck 56) 64 f_value)] U.heap ∧ va_K (dC, dI) vwCl [((ck 24), .int), ((ck 29), .int), ((ck 31), .int), ((ck 32), .int), ((ck 37), .long), ((ck 38), .int), ((ck 41), .int), ((ck 42), .int), ((ck 43), .int), ((ck 55), .long), ((ck 56), .long)] U ∧ va_D (fun _ => True) [(mq, .inr (12, mF g gl rf)), (eA0 (rf 24) (ck 24) 14 f_sky), (eA0 (rf 29) (ck 29) 24 f_landHas), (eA0 (rf 31) (ck 31) 8 f_first), (eA0 (rf 32) (ck 32) 8 f_last), (eA1 (rf 37) (ck 37) 8 f_deedOn), (eA0 (rf 38) (ck 38) 24 f_deedHas), (eA0 (rf 41) (ck 41) 128 f_knot), (eA0 (rf 42) (ck 42) 128 f_part), (eA0 (rf 43) (ck 43) 128 f_other), (eA1 (rf 55) (ck 55) 6 f_names), (eA1 (rf 56) (ck 56) 64 f_value)])) (va_Ql (fun (r : Int64) (u : (Int64) × (Int64) × (Int32) × (Nat → Int64) × (Nat → Int64)) => (r = (fq_dueOf f_sky f_landHas f_first f_last f_deedOn f_deedHas f_knot f_part f_other f_names f_value a0 a1 (g 12) (gl 53) (gl 54) (g 57)).1 ∧ u = (fq_dueOf f_sky f_landHas f_first f_last f_deedOn f_deedHas f_knot f_part f_other f_names f_value a0 a1 (g 12) (gl 53) (gl 54) (g 57)).2) ∧ (r ≤ 2000000000000)) (fun (u : (Int64) × (Int64) × (Int32) × (Nat → Int64) × (Nat → Int64)) t => va_P (dC, dI) vwCl [(mq, .inr (12, mF (upd g 57 u.2.2.1) (vp_updL (vp_updL gl 53 u.1) 54 u.2.1) rf)), (eA0 (rf 24) (ck 24) 14 f_sky), (eA0 (rf 29) (ck 29) 24 f_landHas), (eA0 (rf 31) (ck 31) 8 f_first), (eA0 (rf 32) (ck 32) 8 f_last), (eA1 (rf 37) (ck 37) 8 f_deedOn), (eA0 (rf 38) (ck 38) 24 f_deedHas), (eA0 (rf 41) (ck 41) 128 f_knot), (eA0 (rf 42) (ck 42) 128 f_part), (eA0 (rf 43) (ck 43) 128 f_other), (eA1 (rf 55) (ck 55) 6 u.2.2.2.1), (eA1 (rf 56) (ck 56) 64 u.2.2.2.2)] t.heap ∧ va_K (dC, dI) vwCl [] t ∧ va_D (va_A [(mq, .inr (12, mF g gl rf)), (eA0 (rf 24) (ck 24) 14 f_sky), (eA0 (rf 29) (ck 29) 24 f_landHas), (eA0 (rf 31) (ck 31) 8 f_first), (eA0 (rf 32) (ck 32) 8 f_last), (eA1 (rf 37) (ck 37) 8 f_deedOn), (eA0 (rf 38) (ck 38) 24 f_deedHas), (eA0 (rf 41) (ck 41) 128 f_knot), (eA0 (rf 42) (ck 42) 128 f_part), (eA0 (rf 43) (ck 43) 128 f_other), (eA1 (rf 55) (ck 55) 6 f_names), (eA1 (rf 56) (ck 56) 64 f_value)] sz) [(mq, .inr (12, mF (upd g 57 u.2.2.1) (vp_updL (vp_updL gl 53 u.1) 54 u.2.1) rf)), (eA0 (rf 24) (ck 24) 14 f_sky), (eA0 (rf 29) (ck 29) 24 f_landHas), (eA0 (rf 31) (ck 31) 8 f_first), (eA0 (rf 32) (ck 32) 8 f_last), (eA1 (rf 37) (ck 37) 8 f_deedOn), (eA0 (rf 38) (ck 38) 24 f_deedHas), (eA0 (rf 41) (ck 41) 128 f_knot), (eA0 (rf 42) (ck 42) 128 f_part), (eA0 (rf 43) (ck 43) 128 f_other), (eA1 (rf 55) (ck 55) 6 u.2.2.2.1), (eA1 (rf 56) (ck 56) 64 u.2.2.2.2)]) (va_A [(mq, .inr (12, mF g gl rf)), (eA0 (rf 24) (ck 24) 14 f_sky), (eA0 (rf 29) (ck 29) 24 f_landHas), (eA0 (rf 31) (ck 31) 8 f_first), (eA0 (rf 32) (ck 32) 8 f_last), (eA1 (rf 37) (ck 37) 8 f_deedOn), (eA0 (rf 38) (ck 38) 24 f_deedHas), (eA0 (rf 41) (ck 41) 128 f_knot), (eA0 (rf 42) (ck 42) 128 f_part), (eA0 (rf 43) (ck 43) 128 f_other), (eA1 (rf 55) (ck 55) 6 f_names), (eA1 (rf 56) (ck 56) 64 f_value)] sz)) 0 0 (va_A [(mq, .inr (12, mF g gl rf)), (eA0 (rf 24) (ck 24) 14 f_sky), (eA0 (rf 29) (ck 29) 24 f_landHas), (eA0 (rf 31) (ck 31) 8 f_first), (eA0 (rf 32) (ck 32) 8 f_last), (eA1 (rf 37) (ck 37) 8 f_deedOn), (eA0 (rf 38) (ck 38) 24 f_deedHas), (eA0 (rf 41) (ck 41) 128 f_knot), (eA0 (rf 42) (ck 42) 128 f_part), (eA0 (rf 43) (ck 43) 128 f_other), (eA1 (rf 55) (ck 55) 6 f_names), (eA1 (rf 56) (ck 56) 64 f_value)] sz) := by
  refine Met.ofW (cc := cX12_dueOf) (maxL := 4) (ret := (some .long)) (by decide) rfl ?_
  intro p e s m args below meth c s₁ B hml hv
  obtain ⟨rfl, hsz, hP, hK, hD0⟩ := hv
  have hx := B.exec
  have hb := B.bytes
  have hr := B.returns
  have hts := atoms_spec (ws := Cond.code yX12_dueOf cX12_dueOf 4 (some .long) :: wsL_law) B.pre
  have htw : ∀ w ∈ wsL_law, w.before _ s = true := fun w h => hts w (List.mem_cons_of_mem _ h)
  have hown : s.vm.findClass RX12 = some m.cls := findClass_of_methodNamed B.named
  have hlocks := B.notSynchronized
  subst hsz
  have hD := hD0.self (sz := s.heap.size)
  generalize hAe : va_A [(mq, .inr (12, mF g gl rf)), (eA0 (rf 24) (ck 24) 14 f_sky), (eA0 (rf 29) (ck 29) 24 f_landHas), (eA0 (rf 31) (ck 31) 8 f_first), (eA0 (rf 32) (ck 32) 8 f_last), (eA1 (rf 37) (ck 37) 8 f_deedOn), (eA0 (rf 38) (ck 38) 24 f_deedHas), (eA0 (rf 41) (ck 41) 128 f_knot), (eA0 (rf 42) (ck 42) 128 f_part), (eA0 (rf 43) (ck 43) 128 f_other), (eA1 (rf 55) (ck 55) 6 f_names), (eA1 (rf 56) (ck 56) 64 f_value)] s.heap.size = A at hD ⊢
  have hA : ∀ q : Nat, s.heap.size ≤ q → A q := fun q h => by rw [← hAe]; exact Or.inr h
  obtain ⟨H, rH⟩ : ∃ z : Heap, z = s.heap := ⟨_, rfl⟩
  have hS : va_S A s.heap H [] := by rw [rH]; exact va_S.rf
  have hP : va_P (dC, dI) vwCl [(mq, .inr (12, mF g gl rf)), (eA0 (rf 24) (ck 24) 14 f_sky), (eA0 (rf 29) (ck 29) 24 f_landHas), (eA0 (rf 31) (ck 31) 8 f_first), (eA0 (rf 32) (ck 32) 8 f_last), (eA1 (rf 37) (ck 37) 8 f_deedOn), (eA0 (rf 38) (ck 38) 24 f_deedHas), (eA0 (rf 41) (ck 41) 128 f_knot), (eA0 (rf 42) (ck 42) 128 f_part), (eA0 (rf 43) (ck 43) 128 f_other), (eA1 (rf 55) (ck 55) 6 f_names), (eA1 (rf 56) (ck 56) 64 f_value)] H := by rw [rH]; exact hP
  rw [← rH]
  have hl := lv_entry ([.ref mq, .int a0, .int a1]) (n := 4) (Nat.le_of_ble_eq_true rfl)
  rw [lg_entry_eq]
  generalize (lg_sl ([.ref mq, .int a0, .int a1]) ++ List.replicate (4 - (lg_sl ([.ref mq, .int a0, .int a1])).length) Slot.unset).toArray = ls at hl ⊢
  have hl : lv_has ls 4 [(0, .ref mq), (1, .int a0), (2, .int a1)] := hl
  refine lv_aload_n hx hb dX12_dueOf_0 rfl (lv_at hl 0 rfl) ?_
  refine va_get (D := (dC, dI)) (ci := 12) (v := .ref (rf 38)) (C := RX12) (T := TX12) (N := 76) hx hb htw inlX12 hown hK hP 0 rfl rfl 38 (by decide) (htw _ (ck_9 _ (List.mem_of_getElem? (i := 18) rfl))) (fun _ h9 => h9) rfl dX12_dueOf_1 ?_
  refine lv_iconst (v := 3) hx hb dX12_dueOf_4 (by decide) ?_
  refine lv_iload_n hx hb dX12_dueOf_5 rfl (lv_at hl 1 rfl) ?_
  refine lv_imul hx hb dX12_dueOf_6 ?_
  refine lv_iconst (v := 1) hx hb dX12_dueOf_7 (by decide) ?_
  refine lv_iadd hx hb dX12_dueOf_8 ?_
  refine va_iald hx hb hK hP 6 5 rfl rfl (xg_inr (N := 24) rfl (gq_dueOf_s0 (y0 := a0) hd0 hd4).1 (gq_dueOf_s0 (y0 := a0) hd0 hd4).2) dX12_dueOf_9 ?_
  refine lv_istore_n (lv' := [(3, .int (f_deedHas (((3 * a0) + 1).toNatClampNeg))), (0, .ref mq), (1, .int a0), (2, .int a1)]) hx hb dX12_dueOf_10 rfl hl (by decide) rfl (fun ls hl => ?_)
  refine lv_aload_n hx hb dX12_dueOf_11 rfl (lv_at hl 1 rfl) ?_
  refine va_get (D := (dC, dI)) (ci := 12) (v := .ref (rf 38)) (C := RX12) (T := TX12) (N := 76) hx hb htw inlX12 hown hK hP 0 rfl rfl 38 (by decide) (htw _ (ck_9 _ (List.mem_of_getElem? (i := 18) rfl))) (fun _ h9 => h9) rfl dX12_dueOf_12 ?_
  refine lv_iconst (v := 3) hx hb dX12_dueOf_15 (by decide) ?_
  refine lv_iload_n hx hb dX12_dueOf_16 rfl (lv_at hl 2 rfl) ?_
  refine lv_imul hx hb dX12_dueOf_17 ?_
  refine va_iald hx hb hK hP 6 5 rfl rfl (xg_inr (N := 24) rfl (gq_dueOf_s1 (y0 := a0) hd0 hd4).1 (gq_dueOf_s1 (y0 := a0) hd0 hd4).2) dX12_dueOf_18 ?_
  refine lv_if_ne (tgt := 39) hx hb dX12_dueOf_19 (by decide) (fun c_1 => ?_) (fun c_1 => ?_)
  · refine lv_aload_n hx hb dX12_dueOf_39 rfl (lv_at hl 1 rfl) ?_
    refine va_get (D := (dC, dI)) (ci := 12) (v := .ref (rf 38)) (C := RX12) (T := TX12) (N := 76) hx hb htw inlX12 hown hK hP 0 rfl rfl 38 (by decide) (htw _ (ck_9 _ (List.mem_of_getElem? (i := 18) rfl))) (fun _ h9 => h9) rfl dX12_dueOf_40 ?_
    refine lv_iconst (v := 3) hx hb dX12_dueOf_43 (by decide) ?_
    refine lv_iload_n hx hb dX12_dueOf_44 rfl (lv_at hl 2 rfl) ?_
    refine lv_imul hx hb dX12_dueOf_45 ?_
    refine va_iald hx hb hK hP 6 5 rfl rfl (xg_inr (N := 24) rfl (gq_dueOf_s2 (y0 := a0) hd0 hd4).1 (gq_dueOf_s2 (y0 := a0) hd0 hd4).2) dX12_dueOf_46 ?_
    refine lv_iconst (v := 2) hx hb dX12_dueOf_47 (by decide) ?_
    refine lv_icmp_ne (tgt := 65) hx hb dX12_dueOf_48 (by decide) (fun c_2 => ?_) (fun c_2 => ?_)
    · refine lv_aload_n hx hb dX12_dueOf_65 rfl (lv_at hl 1 rfl) ?_
      refine va_get (D := (dC, dI)) (ci := 12) (v := .ref (rf 37)) (C := RX12) (T := TX12) (N := 76) hx hb htw inlX12 hown hK hP 0 rfl rfl 37 (by decide) (htw _ (ck_9 _ (List.mem_of_getElem? (i := 17) rfl))) (fun _ h9 => h9) rfl dX12_dueOf_66 ?_
      refine lv_iload_n hx hb dX12_dueOf_69 rfl (lv_at hl 2 rfl) ?_
      refine va_lald hx hb hK hP 5 4 rfl rfl (xg_inr (N := 8) rfl (gq_dueOf_s3 (y0 := a0) hd0 hd4).1 (gq_dueOf_s3 (y0 := a0) hd0 hd4).2) dX12_dueOf_70 ?_
      refine lv_iload_n hx hb dX12_dueOf_71 rfl (lv_at hl 0 rfl) ?_
      refine lv_i2l (v := (f_deedHas (((3 * a0) + 1).toNatClampNeg)).toInt64) hx hb dX12_dueOf_72 rfl ?_
      refine lv_ladd hx hb dX12_dueOf_73 ?_
      refine lv_ldc2 (v := 1000000000000) hx hb hown (htw _ (ck_29 _ (List.mem_of_getElem? (i := 22) rfl))) dX12_dueOf_74 ?_
      refine W.lcmp hx hb dX12_dueOf_77 ?_
      refine lv_if_le (tgt := 87) hx hb dX12_dueOf_78 (by decide) (fun c_3 => ?_) (fun c_3 => ?_)
      · refine lv_aload_n hx hb dX12_dueOf_87 rfl (lv_at hl 1 rfl) ?_
        refine va_get (D := (dC, dI)) (ci := 12) (v := .ref (rf 37)) (C := RX12) (T := TX12) (N := 76) hx hb htw inlX12 hown hK hP 0 rfl rfl 37 (by decide) (htw _ (ck_9 _ (List.mem_of_getElem? (i := 17) rfl))) (fun _ h9 => h9) rfl dX12_dueOf_88 ?_
        refine lv_iload_n hx hb dX12_dueOf_91 rfl (lv_at hl 2 rfl) ?_
        refine va_lald hx hb hK hP 5 4 rfl rfl (xg_inr (N := 8) rfl (gq_dueOf_s4 (y0 := a0) hd0 hd4).1 (gq_dueOf_s4 (y0 := a0) hd0 hd4).2) dX12_dueOf_92 ?_
        refine lv_iload_n hx hb dX12_dueOf_93 rfl (lv_at hl 0 rfl) ?_
        refine lv_i2l (v := (f_deedHas (((3 * a0) + 1).toNatClampNeg)).toInt64) hx hb dX12_dueOf_94 rfl ?_
        refine lv_ladd hx hb dX12_dueOf_95 ?_
        refine W.widen (k := 0) (n := 0) (by omega) (by omega) ?_
        have hP9 := hP
        have hD9 := hD
        have hK9 := hK.sub (tys' := []) [] rfl
        exact W.lret (v := ((f_deedOn a0.toNatClampNeg) + ((f_deedHas (((3 * a0) + 1).toNatClampNeg)).toInt64))) hx hb hr (fun t ht hW => ⟨⟨((f_deedOn a0.toNatClampNeg) + ((f_deedHas (((3 * a0) + 1).toNatClampNeg)).toInt64)), ((gl 53), (gl 54), (g 57), f_names, f_value), rfl, ⟨((fun e9 => ⟨by rw [e9], by rw [e9]⟩ : fq_dueOf f_sky f_landHas f_first f_last f_deedOn f_deedHas f_knot f_part f_other f_names f_value a0 a1 (g 12) (gl 53) (gl 54) (g 57) = (((f_deedOn a0.toNatClampNeg) + ((f_deedHas (((3 * a0) + 1).toNatClampNeg)).toInt64)), (gl 53), (gl 54), (g 57), f_names, f_value) → _) ((by rw [fq_dueOf]; (try rw [if_neg c_1]); (try rw [if_neg c_2]); (try rw [if_pos c_3]); try rfl))), (gq_dueOf_s5 (y0 := f_deedOn a0.toNatClampNeg) (y1 := (f_deedHas (((3 * a0) + 1).toNatClampNeg)).toInt64) ((lg_cmp_le _ _).mp c_3) hDO0 hDO9)⟩, by rw [ht]; exact hP9, va_K.moved hW.alike hK9, hD9⟩, hS.F ht⟩) hS.2.2 dX12_dueOf_96
      · refine lv_ldc2 (v := (-1)) hx hb hown (htw _ (ck_29 _ (List.mem_of_getElem? (i := 13) rfl))) dX12_dueOf_81 ?_
        refine lv_goto (tgt := 96) hx hb dX12_dueOf_84 (by decide) ?_
        refine W.widen (k := 0) (n := 0) (by omega) (by omega) ?_
        have hP9 := hP
        have hD9 := hD
        have hK9 := hK.sub (tys' := []) [] rfl
        exact W.lret (v := (-1)) hx hb hr (fun t ht hW => ⟨⟨(-1), ((gl 53), (gl 54), (g 57), f_names, f_value), rfl, ⟨((fun e9 => ⟨by rw [e9], by rw [e9]⟩ : fq_dueOf f_sky f_landHas f_first f_last f_deedOn f_deedHas f_knot f_part f_other f_names f_value a0 a1 (g 12) (gl 53) (gl 54) (g 57) = ((-1 : Int64), (gl 53), (gl 54), (g 57), f_names, f_value) → _) ((by rw [fq_dueOf]; (try rw [if_neg c_1]); (try rw [if_neg c_2]); (try rw [if_neg c_3]); try rfl))), (gq_dueOf_s6 )⟩, by rw [ht]; exact hP9, va_K.moved hW.alike hK9, hD9⟩, hS.F ht⟩) hS.2.2 dX12_dueOf_96
    · refine lv_aload_n hx hb dX12_dueOf_51 rfl (lv_at hl 1 rfl) ?_
      refine lv_iload_n hx hb dX12_dueOf_52 rfl (lv_at hl 0 rfl) ?_
      refine lv_aload_n hx hb dX12_dueOf_53 rfl (lv_at hl 1 rfl) ?_
      refine va_get (D := (dC, dI)) (ci := 12) (v := .ref (rf 37)) (C := RX12) (T := TX12) (N := 76) hx hb htw inlX12 hown hK hP 0 rfl rfl 37 (by decide) (htw _ (ck_9 _ (List.mem_of_getElem? (i := 17) rfl))) (fun _ h9 => h9) rfl dX12_dueOf_54 ?_
      refine lv_iload_n hx hb dX12_dueOf_57 rfl (lv_at hl 2 rfl) ?_
      refine va_lald hx hb hK hP 5 4 rfl rfl (xg_inr (N := 8) rfl (gq_dueOf_s7 (y0 := a0) hd0 hd4).1 (gq_dueOf_s7 (y0 := a0) hd0 hd4).2) dX12_dueOf_58 ?_
      refine lv_lconst (v := 1) hx hb dX12_dueOf_59 (by decide) ?_
      refine lv_ladd hx hb dX12_dueOf_60 ?_
      obtain ⟨hPc, hDc, hFc, hCc⟩ := zsub3 (ws' := [(mq, .inr (12, mF g gl rf)), (eA0 (rf 24) (ck 24) 14 f_sky), (eA0 (rf 29) (ck 29) 24 f_landHas), (eA0 (rf 31) (ck 31) 8 f_first), (eA0 (rf 32) (ck 32) 8 f_last), (eA0 (rf 41) (ck 41) 128 f_knot), (eA0 (rf 42) (ck 42) 128 f_part), (eA0 (rf 43) (ck 43) 128 f_other), (eA1 (rf 55) (ck 55) 6 f_names), (eA1 (rf 56) (ck 56) 64 f_value)]) hP hD hS hA [0, 1, 2, 3, 4, 7, 8, 9, 10, 11] (by decide +kernel) rfl
      have hKc := hK.sub (tys' := [((ck 24), .int), ((ck 29), .int), ((ck 31), .int), ((ck 32), .int), ((ck 41), .int), ((ck 42), .int), ((ck 43), .int), ((ck 55), .long), ((ck 56), .long)]) [0, 1, 2, 3, 6, 7, 8, 9, 10] rfl
      refine va_calll (va_runV (As := [.int (f_deedHas (((3 * a0) + 1).toNatClampNeg)), .long ((f_deedOn a0.toNatClampNeg) + 1)]) (rest := []) ⟨hx, hb, hml, hown, htw⟩ (gy_festiveOf l dC dI mq g gl rf ck f_sky f_landHas f_first f_last f_knot f_part f_other f_names f_value (f_deedHas (((3 * a0) + 1).toNatClampNeg)) ((f_deedOn a0.toNatClampNeg) + 1) H.size (hDK c_2).1 (hDK c_2).2 (gq_dueOf_s8 (y0 := f_deedOn a0.toNatClampNeg) hDO0 hDO9) (gq_dueOf_s9 (y0 := f_deedOn a0.toNatClampNeg) hDO0 hDO9) hfe0 hfe4 hFA hKA hln0 hln4 hLZ hs0 hs2 hs5) (cwV 2 htw (xg_V (ck_43 _ (List.mem_of_getElem? (i := 17) rfl)) (ck_43 _ (List.mem_of_getElem? (i := 18) rfl)) (ck_43 _ (List.mem_of_getElem? (i := 19) rfl)) (ck_1 _ (List.mem_of_getElem? (i := 5) rfl)) (ck_43 _ (List.mem_of_getElem? (i := 20) rfl))) rfl rfl rfl (by exact ⟨rfl, hdc_14.1, hdc_14.2, hdd_41⟩) ⟨Nat.le_of_ble_eq_true rfl, Nat.le_of_ble_eq_true rfl⟩) ⟨fun a U g mk q => by obtain ⟨q0, q1, qP, qK, qD⟩ := q; exact ⟨q0, q1, qP, va_K.moved (u := U) (U := U.calling g mk a) (Vm.Alike.refl U.vm) qK, qD⟩, va_recv hKc hPc (ci := 12) (q0 := 0) rfl rfl, fun U hU hW => ⟨rfl, by rw [hU], by rw [hU]; exact hPc, va_K.moved hW.alike hKc, hDc.weaken (fun _ _ _ _ => trivial)⟩⟩ rfl rfl hl.1 rfl (lv_room (Nat.le_of_ble_eq_true rfl)) dX12_dueOf_61 ⟨Nat.le_of_ble_eq_true rfl, Nat.le_of_ble_eq_true rfl⟩) hS (fun q _ h => hFc q h) hFc (fun r_4 u_5 t H1 locs ht hvm hw hB hz1 hk1 hS => ?_)
      try dsimp only at hw
      obtain ⟨hP1, hK1, hD1⟩ := hB
      rw [ht] at hP1
      have hK1 := va_K.moved hvm.symm hK1
      have hK1 : va_K (dC, dI) vwCl [] s := hK1
      obtain ⟨hP, hD⟩ := va_join (wr := [(eA1 (rf 37) (ck 37) 8 f_deedOn), (eA0 (rf 38) (ck 38) 24 f_deedHas)]) (w1 := [(mq, .inr (12, mF (upd g 57 u_5.2.2.1) (vp_updL (vp_updL gl 53 u_5.1) 54 u_5.2.1) rf)), (eA0 (rf 24) (ck 24) 14 f_sky), (eA0 (rf 29) (ck 29) 24 f_landHas), (eA0 (rf 31) (ck 31) 8 f_first), (eA0 (rf 32) (ck 32) 8 f_last), (eA0 (rf 41) (ck 41) 128 f_knot), (eA0 (rf 42) (ck 42) 128 f_part), (eA0 (rf 43) (ck 43) 128 f_other), (eA1 (rf 55) (ck 55) 6 u_5.2.2.2.1), (eA1 (rf 56) (ck 56) 64 u_5.2.2.2.2)]) hP hD [0, 1, 2, 3, 4, 7, 8, 9, 10, 11] [5, 6] hCc rfl (by decide +kernel) (by decide +kernel) hk1 hFc hP1 hD1
      generalize H1 = H at hP hS ⊢
      obtain ⟨hP, hD⟩ := zre [(eA1 (rf 37) (ck 37) 8 f_deedOn), (eA0 (rf 38) (ck 38) 24 f_deedHas), (mq, .inr (12, mF (upd g 57 u_5.2.2.1) (vp_updL (vp_updL gl 53 u_5.1) 54 u_5.2.1) rf)), (eA0 (rf 24) (ck 24) 14 f_sky), (eA0 (rf 29) (ck 29) 24 f_landHas), (eA0 (rf 31) (ck 31) 8 f_first), (eA0 (rf 32) (ck 32) 8 f_last), (eA0 (rf 41) (ck 41) 128 f_knot), (eA0 (rf 42) (ck 42) 128 f_part), (eA0 (rf 43) (ck 43) 128 f_other), (eA1 (rf 55) (ck 55) 6 u_5.2.2.2.1), (eA1 (rf 56) (ck 56) 64 u_5.2.2.2.2)] hP hD rfl
      refine W.widen (k := 0) (n := 0) (by omega) (by omega) ?_
      obtain ⟨hw, hp_11⟩ := hw
      obtain ⟨X_12, hX_12⟩ : ∃ X9 : Int64 × (Int64) × (Int64) × (Int32) × (Nat → Int64) × (Nat → Int64), X9 = (fq_festiveOf f_sky f_landHas f_first f_last f_knot f_part f_other f_names f_value (f_deedHas (((3 * a0) + 1).toNatClampNeg)) ((f_deedOn a0.toNatClampNeg) + 1) (g 12) (gl 53) (gl 54) (g 57)) := ⟨_, rfl⟩
      have hq_r_4 : r_4 = X_12.1 := by rw [hX_12]; exact hw.1
      have hq_u_5 : u_5 = X_12.2 := by rw [hX_12]; exact hw.2
      refine W.widen (k := 0) (n := 0) (by omega) (by omega) ?_
      obtain ⟨hP9, hD9⟩ := zsub2 (ws' := [(mq, .inr (12, mF (upd g 57 u_5.2.2.1) (vp_updL (vp_updL gl 53 u_5.1) 54 u_5.2.1) rf)), (eA0 (rf 24) (ck 24) 14 f_sky), (eA0 (rf 29) (ck 29) 24 f_landHas), (eA0 (rf 31) (ck 31) 8 f_first), (eA0 (rf 32) (ck 32) 8 f_last), (eA1 (rf 37) (ck 37) 8 f_deedOn), (eA0 (rf 38) (ck 38) 24 f_deedHas), (eA0 (rf 41) (ck 41) 128 f_knot), (eA0 (rf 42) (ck 42) 128 f_part), (eA0 (rf 43) (ck 43) 128 f_other), (eA1 (rf 55) (ck 55) 6 u_5.2.2.2.1), (eA1 (rf 56) (ck 56) 64 u_5.2.2.2.2)]) hP hD [2, 3, 4, 5, 6, 0, 1, 7, 8, 9, 10, 11] (by decide +kernel) rfl
      have hK9 := hK.sub (tys' := []) [] rfl
      exact W.lret (v := r_4) hx hb hr (fun t ht hW => ⟨⟨r_4, (u_5.1, u_5.2.1, u_5.2.2.1, u_5.2.2.2.1, u_5.2.2.2.2), rfl, ⟨((fun e9 => ⟨by rw [e9], by rw [e9]⟩ : fq_dueOf f_sky f_landHas f_first f_last f_deedOn f_deedHas f_knot f_part f_other f_names f_value a0 a1 (g 12) (gl 53) (gl 54) (g 57) = (r_4, u_5.1, u_5.2.1, u_5.2.2.1, u_5.2.2.2.1, u_5.2.2.2.2) → _) ((by rw [fq_dueOf]; (try rw [if_neg c_1]); (try rw [if_pos c_2]); (try rw [← hX_12]); (try rw [xL_eq]); (try rw [← hq_r_4]); (try rw [← hq_u_5]); try rfl))), (gq_dueOf_s10 (y0 := r_4) hp_11)⟩, by rw [ht]; exact hP9, va_K.moved hW.alike hK9, hD9⟩, hS.F ht⟩) hS.2.2 dX12_dueOf_64
  · refine lv_aload_n hx hb dX12_dueOf_22 rfl (lv_at hl 1 rfl) ?_
    refine lv_iload_n hx hb dX12_dueOf_23 rfl (lv_at hl 3 rfl) ?_
    refine lv_aload_n hx hb dX12_dueOf_24 rfl (lv_at hl 1 rfl) ?_
    refine va_get (D := (dC, dI)) (ci := 12) (v := .long (gl 53)) (C := RX12) (T := TX12) (N := 76) hx hb htw inlX12 hown hK hP 0 rfl rfl 53 (by decide) (htw _ (ck_36 _ (List.mem_of_getElem? (i := 6) rfl))) (fun _ h9 => h9) rfl dX12_dueOf_25 ?_
    refine lv_iload_n hx hb dX12_dueOf_28 rfl (lv_at hl 0 rfl) ?_
    refine lv_i2l (v := (f_deedHas (((3 * a0) + 1).toNatClampNeg)).toInt64) hx hb dX12_dueOf_29 rfl ?_
    refine lv_ladd hx hb dX12_dueOf_30 ?_
    refine lv_aload_n hx hb dX12_dueOf_31 rfl (lv_at hl 1 rfl) ?_
    refine va_get (D := (dC, dI)) (ci := 12) (v := .long (gl 54)) (C := RX12) (T := TX12) (N := 76) hx hb htw inlX12 hown hK hP 0 rfl rfl 54 (by decide) (htw _ (ck_36 _ (List.mem_of_getElem? (i := 7) rfl))) (fun _ h9 => h9) rfl dX12_dueOf_32 ?_
    have hPc := hP.sub (ws' := [(mq, .inr (12, mF g gl rf)), (eA0 (rf 29) (ck 29) 24 f_landHas)]) [0, 2] rfl
    have hKc := hK.sub (tys' := [((ck 29), .int)]) [1] rfl
    refine vp_callSl (W.runV (As := [.int a1, .long ((gl 53) + ((f_deedHas (((3 * a0) + 1).toNatClampNeg)).toInt64)), .long (gl 54)]) (rest := []) ⟨hx, hb, hml, hown, htw⟩ (gy_yearsLater l dC dI mq g gl rf ck f_landHas a1 ((gl 53) + ((f_deedHas (((3 * a0) + 1).toNatClampNeg)).toInt64)) (gl 54) hl0 hl7) (cwV 3 htw (xg_V (ck_50 _ (List.mem_of_getElem? (i := 8) rfl)) (ck_50 _ (List.mem_of_getElem? (i := 9) rfl)) (ck_50 _ (List.mem_of_getElem? (i := 10) rfl)) (ck_1 _ (List.mem_of_getElem? (i := 5) rfl)) (ck_50 _ (List.mem_of_getElem? (i := 11) rfl))) rfl rfl rfl (by exact ⟨rfl, hdc_14.1, hdc_14.2, hdd_11⟩) ⟨Nat.le_of_ble_eq_true rfl, Nat.le_of_ble_eq_true rfl⟩) ⟨fun a U g mk q => by obtain ⟨q0, qP, qK⟩ := q; exact ⟨q0, qP, va_K.moved (u := U) (U := U.calling g mk a) (Vm.Alike.refl U.vm) qK⟩, va_recv hKc hPc (ci := 12) (q0 := 0) rfl rfl, fun U hU hW => ⟨rfl, by rw [hU]; exact hPc, va_K.moved hW.alike hKc⟩⟩ rfl rfl hl.1 rfl (lv_room (Nat.le_of_ble_eq_true rfl)) dX12_dueOf_35 ⟨Nat.le_of_ble_eq_true rfl, Nat.le_of_ble_eq_true rfl⟩) (fun r_13 hw => ?_)
    try dsimp only at hw
    obtain ⟨hw, hp_14⟩ := hw
    have hq_r_13 : r_13 = (fq_yearsLater f_landHas a1 ((gl 53) + ((f_deedHas (((3 * a0) + 1).toNatClampNeg)).toInt64)) (gl 54)) := hw
    refine W.widen (k := 0) (n := 0) (by omega) (by omega) ?_
    have hP9 := hP
    have hD9 := hD
    have hK9 := hK.sub (tys' := []) [] rfl
    exact W.lret (v := r_13) hx hb hr (fun t ht hW => ⟨⟨r_13, ((gl 53), (gl 54), (g 57), f_names, f_value), rfl, ⟨((fun e9 => ⟨by rw [e9], by rw [e9]⟩ : fq_dueOf f_sky f_landHas f_first f_last f_deedOn f_deedHas f_knot f_part f_other f_names f_value a0 a1 (g 12) (gl 53) (gl 54) (g 57) = (r_13, (gl 53), (gl 54), (g 57), f_names, f_value) → _) ((by rw [fq_dueOf]; (try rw [if_pos c_1]); (try rw [← hq_r_13]); (try rw [xL_eq]); try rfl))), (gq_dueOf_s11 (y0 := r_13) hp_14)⟩, by rw [ht]; exact hP9, va_K.moved hW.alike hK9, hD9⟩, hS.F ht⟩) hS.2.2 dX12_dueOf_38
