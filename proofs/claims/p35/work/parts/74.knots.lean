def fq_rank (a0 : Int32) : Int32 := (if a0 < 13 then (if a0 < 11 then (if a0 < 5 then (if a0 = 2 then (3 : Int32) else (if a0 = 3 then (2 : Int32) else (if a0 = 4 then (1 : Int32) else (0 : Int32)))) else (4 : Int32)) else (5 : Int32)) else (6 : Int32))
theorem dX12_rank_0 : decode cX12_rank 0 = .ok (.iload_n 0, 1) := zk_26 (by decide +kernel)
theorem dX12_rank_1 : decode cX12_rank 1 = .ok (.bipush 13, 2) := zk_16 (by decide +kernel)
theorem dX12_rank_3 : decode cX12_rank 3 = .ok (.if_icmp .lt 8, 3) := zk_161 (by decide +kernel)
theorem dX12_rank_11 : decode cX12_rank 11 = .ok (.iload_n 0, 1) := zk_26 (by decide +kernel)
theorem dX12_rank_12 : decode cX12_rank 12 = .ok (.bipush 11, 2) := zk_16 (by decide +kernel)
theorem dX12_rank_14 : decode cX12_rank 14 = .ok (.if_icmp .lt 7, 3) := zk_161 (by decide +kernel)
theorem dX12_rank_21 : decode cX12_rank 21 = .ok (.iload_n 0, 1) := zk_26 (by decide +kernel)
theorem dX12_rank_22 : decode cX12_rank 22 = .ok (.iconst 5, 1) := zk_8 (by decide +kernel)
theorem dX12_rank_23 : decode cX12_rank 23 = .ok (.if_icmp .lt 7, 3) := zk_161 (by decide +kernel)
theorem dX12_rank_30 : decode cX12_rank 30 = .ok (.iload_n 0, 1) := zk_26 (by decide +kernel)
theorem dX12_rank_31 : decode cX12_rank 31 = .ok (.iconst 2, 1) := zk_5 (by decide +kernel)
theorem dX12_rank_32 : decode cX12_rank 32 = .ok (.if_icmp .ne 7, 3) := zk_160 (by decide +kernel)
theorem dX12_rank_39 : decode cX12_rank 39 = .ok (.iload_n 0, 1) := zk_26 (by decide +kernel)
theorem dX12_rank_40 : decode cX12_rank 40 = .ok (.iconst 3, 1) := zk_6 (by decide +kernel)
theorem dX12_rank_41 : decode cX12_rank 41 = .ok (.if_icmp .ne 7, 3) := zk_160 (by decide +kernel)
theorem dX12_rank_48 : decode cX12_rank 48 = .ok (.iload_n 0, 1) := zk_26 (by decide +kernel)
theorem dX12_rank_49 : decode cX12_rank 49 = .ok (.iconst 4, 1) := zk_7 (by decide +kernel)
theorem dX12_rank_50 : decode cX12_rank 50 = .ok (.if_icmp .ne 7, 3) := zk_160 (by decide +kernel)
theorem dX12_rank_57 : decode cX12_rank 57 = .ok (.iconst 0, 1) := zk_3 (by decide +kernel)
theorem dX12_rank_58 : decode cX12_rank 58 = .ok (.ireturn, 1) := zk_172 (by decide +kernel)
theorem dX12_rank_53 : decode cX12_rank 53 = .ok (.iconst 1, 1) := zk_4 (by decide +kernel)
theorem dX12_rank_54 : decode cX12_rank 54 = .ok (.goto 4, 3) := zk_167 (by decide +kernel)
theorem dX12_rank_44 : decode cX12_rank 44 = .ok (.iconst 2, 1) := zk_5 (by decide +kernel)
theorem dX12_rank_45 : decode cX12_rank 45 = .ok (.goto 13, 3) := zk_167 (by decide +kernel)
theorem dX12_rank_35 : decode cX12_rank 35 = .ok (.iconst 3, 1) := zk_6 (by decide +kernel)
theorem dX12_rank_36 : decode cX12_rank 36 = .ok (.goto 22, 3) := zk_167 (by decide +kernel)
theorem dX12_rank_26 : decode cX12_rank 26 = .ok (.iconst 4, 1) := zk_7 (by decide +kernel)
theorem dX12_rank_27 : decode cX12_rank 27 = .ok (.goto 31, 3) := zk_167 (by decide +kernel)
theorem dX12_rank_17 : decode cX12_rank 17 = .ok (.iconst 5, 1) := zk_8 (by decide +kernel)
theorem dX12_rank_18 : decode cX12_rank 18 = .ok (.goto 40, 3) := zk_167 (by decide +kernel)
theorem dX12_rank_6 : decode cX12_rank 6 = .ok (.bipush 6, 2) := zk_16 (by decide +kernel)
theorem dX12_rank_8 : decode cX12_rank 8 = .ok (.goto 50, 3) := zk_167 (by decide +kernel)
set_option maxHeartbeats 4000000 in
set_option maxRecDepth 100000 in
theorem gq_rank (l : Launch) (dC : Nat → ClassId) (dI : Nat → Nat → Nat) (a0 : Int32) : Met l yX12_rank (Cond.code yX12_rank cX12_rank 1 (some .int) :: wsL_law) ({ frames := 0, cells := 0, slots := 0, locals := 0 }) (va_Pc [.int a0] (fun U => va_P (dC, dI) vwCl [] U.heap ∧ va_K (dC, dI) vwCl [] U)) (vp_Si (fun r => r = fq_rank a0)) 0 0 (fun _ => False) := by
  refine Met.ofW (cc := cX12_rank) (maxL := 1) (ret := (some .int)) (by decide) rfl ?_
  intro p e s m args below meth c s₁ B hml hv
  obtain ⟨rfl, hP, hK⟩ := hv
  have hx := B.exec
  have hb := B.bytes
  have hr := B.returns
  have hts := atoms_spec (ws := Cond.code yX12_rank cX12_rank 1 (some .int) :: wsL_law) B.pre
  have htw : ∀ w ∈ wsL_law, w.before _ s = true := fun w h => hts w (List.mem_cons_of_mem _ h)
  have hown : s.vm.findClass RX12 = some m.cls := findClass_of_methodNamed B.named
  have hlocks := B.notSynchronized
  have hl := lv_entry ([.int a0]) (n := 1) (Nat.le_of_ble_eq_true rfl)
  rw [lg_entry_eq]
  generalize (lg_sl ([.int a0]) ++ List.replicate (1 - (lg_sl ([.int a0])).length) Slot.unset).toArray = ls at hl ⊢
  have hl : lv_has ls 1 [(0, .int a0)] := hl
  refine lv_iload_n hx hb dX12_rank_0 rfl (lv_at hl 0 rfl) ?_
  refine lv_bipush (v := 13) hx hb dX12_rank_1 (by decide) ?_
  refine lv_icmp_lt (tgt := 11) hx hb dX12_rank_3 (by decide) (fun c_1 => ?_) (fun c_1 => ?_)
  · refine lv_iload_n hx hb dX12_rank_11 rfl (lv_at hl 0 rfl) ?_
    refine lv_bipush (v := 11) hx hb dX12_rank_12 (by decide) ?_
    refine lv_icmp_lt (tgt := 21) hx hb dX12_rank_14 (by decide) (fun c_2 => ?_) (fun c_2 => ?_)
    · refine lv_iload_n hx hb dX12_rank_21 rfl (lv_at hl 0 rfl) ?_
      refine lv_iconst (v := 5) hx hb dX12_rank_22 (by decide) ?_
      refine lv_icmp_lt (tgt := 30) hx hb dX12_rank_23 (by decide) (fun c_3 => ?_) (fun c_3 => ?_)
      · refine lv_iload_n hx hb dX12_rank_30 rfl (lv_at hl 0 rfl) ?_
        refine lv_iconst (v := 2) hx hb dX12_rank_31 (by decide) ?_
        refine lv_icmp_ne (tgt := 39) hx hb dX12_rank_32 (by decide) (fun c_4 => ?_) (fun c_4 => ?_)
        · refine lv_iload_n hx hb dX12_rank_39 rfl (lv_at hl 0 rfl) ?_
          refine lv_iconst (v := 3) hx hb dX12_rank_40 (by decide) ?_
          refine lv_icmp_ne (tgt := 48) hx hb dX12_rank_41 (by decide) (fun c_5 => ?_) (fun c_5 => ?_)
          · refine lv_iload_n hx hb dX12_rank_48 rfl (lv_at hl 0 rfl) ?_
            refine lv_iconst (v := 4) hx hb dX12_rank_49 (by decide) ?_
            refine lv_icmp_ne (tgt := 57) hx hb dX12_rank_50 (by decide) (fun c_6 => ?_) (fun c_6 => ?_)
            · refine lv_iconst (v := 0) hx hb dX12_rank_57 (by decide) ?_
              exact W.iret (v := 0) hx hb hr (fun t ht hW => ⟨0, rfl, (Eq.symm ((by rw [fq_rank]; (try rw [if_pos c_1]); (try rw [if_pos c_2]); (try rw [if_pos c_3]); (try rw [if_neg c_4]); (try rw [if_neg c_5]); (try rw [if_neg c_6]); try rfl))), ht⟩) (fun _ h => by cases h) dX12_rank_58
            · refine lv_iconst (v := 1) hx hb dX12_rank_53 (by decide) ?_
              refine lv_goto (tgt := 58) hx hb dX12_rank_54 (by decide) ?_
              exact W.iret (v := 1) hx hb hr (fun t ht hW => ⟨1, rfl, (Eq.symm ((by rw [fq_rank]; (try rw [if_pos c_1]); (try rw [if_pos c_2]); (try rw [if_pos c_3]); (try rw [if_neg c_4]); (try rw [if_neg c_5]); (try rw [if_pos c_6]); try rfl))), ht⟩) (fun _ h => by cases h) dX12_rank_58
          · refine lv_iconst (v := 2) hx hb dX12_rank_44 (by decide) ?_
            refine lv_goto (tgt := 58) hx hb dX12_rank_45 (by decide) ?_
            exact W.iret (v := 2) hx hb hr (fun t ht hW => ⟨2, rfl, (Eq.symm ((by rw [fq_rank]; (try rw [if_pos c_1]); (try rw [if_pos c_2]); (try rw [if_pos c_3]); (try rw [if_neg c_4]); (try rw [if_pos c_5]); try rfl))), ht⟩) (fun _ h => by cases h) dX12_rank_58
        · refine lv_iconst (v := 3) hx hb dX12_rank_35 (by decide) ?_
          refine lv_goto (tgt := 58) hx hb dX12_rank_36 (by decide) ?_
          exact W.iret (v := 3) hx hb hr (fun t ht hW => ⟨3, rfl, (Eq.symm ((by rw [fq_rank]; (try rw [if_pos c_1]); (try rw [if_pos c_2]); (try rw [if_pos c_3]); (try rw [if_pos c_4]); try rfl))), ht⟩) (fun _ h => by cases h) dX12_rank_58
      · refine lv_iconst (v := 4) hx hb dX12_rank_26 (by decide) ?_
        refine lv_goto (tgt := 58) hx hb dX12_rank_27 (by decide) ?_
        exact W.iret (v := 4) hx hb hr (fun t ht hW => ⟨4, rfl, (Eq.symm ((by rw [fq_rank]; (try rw [if_pos c_1]); (try rw [if_pos c_2]); (try rw [if_neg c_3]); try rfl))), ht⟩) (fun _ h => by cases h) dX12_rank_58
    · refine lv_iconst (v := 5) hx hb dX12_rank_17 (by decide) ?_
      refine lv_goto (tgt := 58) hx hb dX12_rank_18 (by decide) ?_
      exact W.iret (v := 5) hx hb hr (fun t ht hW => ⟨5, rfl, (Eq.symm ((by rw [fq_rank]; (try rw [if_pos c_1]); (try rw [if_neg c_2]); try rfl))), ht⟩) (fun _ h => by cases h) dX12_rank_58
  · refine lv_bipush (v := 6) hx hb dX12_rank_6 (by decide) ?_
    refine lv_goto (tgt := 58) hx hb dX12_rank_8 (by decide) ?_
    exact W.iret (v := 6) hx hb hr (fun t ht hW => ⟨6, rfl, (Eq.symm ((by rw [fq_rank]; (try rw [if_neg c_1]); try rfl))), ht⟩) (fun _ h => by cases h) dX12_rank_58

def fq_grown (f_knot : Nat → Int32) (f_part : Nat → Int32) (f_other : Nat → Int32) (f_held : Nat → Int32) (a0 : Int32) (a1 : Int32) (a2 : Int32) (m_knotsRead : Int32) (m_helds : Int32) : (Int32) × (Int32) × (Nat → Int32) × (Nat → Int32) × (Nat → Int32) × (Nat → Int32) := ((m_knotsRead + 1), (m_helds + 1), (upd f_knot ((64 + m_knotsRead).toNatClampNeg) a0), (upd f_part ((64 + m_knotsRead).toNatClampNeg) a1), (upd f_other ((64 + m_knotsRead).toNatClampNeg) a2), (upd f_held (m_helds.toNatClampNeg) m_knotsRead))
theorem gq_grown_s0 {y0 : Int32} (h0 : ¬ (y0 < 0)) (h1 : y0 < 64) : ¬ ((64 + y0) < 0) ∧ ¬ (128 ≤ (64 + y0)) := by lia
theorem gq_grown_s1 {y0 : Int32} (h0 : ¬ (y0 < 0)) (h1 : y0 < 64) : ¬ ((64 + y0) < 0) ∧ ¬ (128 ≤ (64 + y0)) := by lia
theorem gq_grown_s2 {y0 : Int32} (h0 : ¬ (y0 < 0)) (h1 : y0 < 64) : ¬ ((64 + y0) < 0) ∧ ¬ (128 ≤ (64 + y0)) := by lia
theorem gq_grown_s3 {y0 : Int32} (h0 : ¬ (y0 < 0)) (h1 : y0 < 96) : ¬ (y0 < 0) ∧ ¬ (96 ≤ y0) := by lia
theorem dX12_grown_0 : decode cX12_grown 0 = .ok (.aload_n 0, 1) := zk_42 (by decide +kernel)
theorem dX12_grown_1 : decode cX12_grown 1 = .ok (.getfield 63, 3) := zk_180 (by decide +kernel)
theorem dX12_grown_4 : decode cX12_grown 4 = .ok (.bipush 64, 2) := zk_16 (by decide +kernel)
theorem dX12_grown_6 : decode cX12_grown 6 = .ok (.aload_n 0, 1) := zk_42 (by decide +kernel)
theorem dX12_grown_7 : decode cX12_grown 7 = .ok (.getfield 201, 3) := zk_180 (by decide +kernel)
theorem dX12_grown_10 : decode cX12_grown 10 = .ok (.iadd, 1) := zk_96 (by decide +kernel)
theorem dX12_grown_11 : decode cX12_grown 11 = .ok (.iload_n 1, 1) := zk_27 (by decide +kernel)
theorem dX12_grown_12 : decode cX12_grown 12 = .ok (.iastore, 1) := zk_79 (by decide +kernel)
theorem dX12_grown_13 : decode cX12_grown 13 = .ok (.aload_n 0, 1) := zk_42 (by decide +kernel)
theorem dX12_grown_14 : decode cX12_grown 14 = .ok (.getfield 66, 3) := zk_180 (by decide +kernel)
theorem dX12_grown_17 : decode cX12_grown 17 = .ok (.bipush 64, 2) := zk_16 (by decide +kernel)
theorem dX12_grown_19 : decode cX12_grown 19 = .ok (.aload_n 0, 1) := zk_42 (by decide +kernel)
theorem dX12_grown_20 : decode cX12_grown 20 = .ok (.getfield 201, 3) := zk_180 (by decide +kernel)
theorem dX12_grown_23 : decode cX12_grown 23 = .ok (.iadd, 1) := zk_96 (by decide +kernel)
theorem dX12_grown_24 : decode cX12_grown 24 = .ok (.iload_n 2, 1) := zk_28 (by decide +kernel)
theorem dX12_grown_25 : decode cX12_grown 25 = .ok (.iastore, 1) := zk_79 (by decide +kernel)
theorem dX12_grown_26 : decode cX12_grown 26 = .ok (.aload_n 0, 1) := zk_42 (by decide +kernel)
theorem dX12_grown_27 : decode cX12_grown 27 = .ok (.getfield 69, 3) := zk_180 (by decide +kernel)
theorem dX12_grown_30 : decode cX12_grown 30 = .ok (.bipush 64, 2) := zk_16 (by decide +kernel)
theorem dX12_grown_32 : decode cX12_grown 32 = .ok (.aload_n 0, 1) := zk_42 (by decide +kernel)
theorem dX12_grown_33 : decode cX12_grown 33 = .ok (.getfield 201, 3) := zk_180 (by decide +kernel)
theorem dX12_grown_36 : decode cX12_grown 36 = .ok (.iadd, 1) := zk_96 (by decide +kernel)
theorem dX12_grown_37 : decode cX12_grown 37 = .ok (.iload_n 3, 1) := zk_29 (by decide +kernel)
theorem dX12_grown_38 : decode cX12_grown 38 = .ok (.iastore, 1) := zk_79 (by decide +kernel)
theorem dX12_grown_39 : decode cX12_grown 39 = .ok (.aload_n 0, 1) := zk_42 (by decide +kernel)
theorem dX12_grown_40 : decode cX12_grown 40 = .ok (.getfield 75, 3) := zk_180 (by decide +kernel)
theorem dX12_grown_43 : decode cX12_grown 43 = .ok (.aload_n 0, 1) := zk_42 (by decide +kernel)
theorem dX12_grown_44 : decode cX12_grown 44 = .ok (.getfield 330, 3) := zk_180 (by decide +kernel)
theorem dX12_grown_47 : decode cX12_grown 47 = .ok (.aload_n 0, 1) := zk_42 (by decide +kernel)
theorem dX12_grown_48 : decode cX12_grown 48 = .ok (.getfield 201, 3) := zk_180 (by decide +kernel)
theorem dX12_grown_51 : decode cX12_grown 51 = .ok (.iastore, 1) := zk_79 (by decide +kernel)
theorem dX12_grown_52 : decode cX12_grown 52 = .ok (.aload_n 0, 1) := zk_42 (by decide +kernel)
theorem dX12_grown_53 : decode cX12_grown 53 = .ok (.dup, 1) := zk_89 (by decide +kernel)
theorem dX12_grown_54 : decode cX12_grown 54 = .ok (.getfield 330, 3) := zk_180 (by decide +kernel)
theorem dX12_grown_57 : decode cX12_grown 57 = .ok (.iconst 1, 1) := zk_4 (by decide +kernel)
theorem dX12_grown_58 : decode cX12_grown 58 = .ok (.iadd, 1) := zk_96 (by decide +kernel)
theorem dX12_grown_59 : decode cX12_grown 59 = .ok (.putfield 330, 3) := zk_181 (by decide +kernel)
theorem dX12_grown_62 : decode cX12_grown 62 = .ok (.aload_n 0, 1) := zk_42 (by decide +kernel)
theorem dX12_grown_63 : decode cX12_grown 63 = .ok (.dup, 1) := zk_89 (by decide +kernel)
theorem dX12_grown_64 : decode cX12_grown 64 = .ok (.getfield 201, 3) := zk_180 (by decide +kernel)
theorem dX12_grown_67 : decode cX12_grown 67 = .ok (.iconst 1, 1) := zk_4 (by decide +kernel)
theorem dX12_grown_68 : decode cX12_grown 68 = .ok (.iadd, 1) := zk_96 (by decide +kernel)
theorem dX12_grown_69 : decode cX12_grown 69 = .ok (.putfield 201, 3) := zk_181 (by decide +kernel)
theorem dX12_grown_72 : decode cX12_grown 72 = .ok (.return_, 1) := zk_177 (by decide +kernel)
set_option maxHeartbeats 4000000 in
set_option maxRecDepth 100000 in
theorem gq_grown (l : Launch) (dC : Nat → ClassId) (dI : Nat → Nat → Nat) (mq : Nat) (g : Nat → Int32) (gl : Nat → Int64) (rf : Nat → Nat) (ck : Nat → ClassId) (f_knot : Nat → Int32) (f_part : Nat → Int32) (f_other : Nat → Int32) (f_held : Nat → Int32) (a0 : Int32) (a1 : Int32) (a2 : Int32) (sz : Nat) (hkr0 : ¬ (g 23) < 0) (hkr4 : (g 23) < 64) (hhe0 : ¬ (g 48) < 0) (hhe9 : (g 48) < 96) : Met l yX12_grown (Cond.code yX12_grown cX12_grown 4 none :: wsL_law) ({ frames := 0, cells := 0, slots := 0, locals := 0 }) (va_Pc [.ref mq, .int a0, .int a1, .int a2] (fun U => U.heap.size = sz ∧ va_P (dC, dI) vwCl [(mq, .inr (12, mF g gl rf)), (eA0 (rf 41) (ck 41) 128 f_knot), (eA0 (rf 42) (ck 42) 128 f_part), (eA0 (rf 43) (ck 43) 128 f_other), (eA0 (rf 46) (ck 46) 96 f_held)] U.heap ∧ va_K (dC, dI) vwCl [((ck 41), .int), ((ck 42), .int), ((ck 43), .int), ((ck 46), .int)] U ∧ va_D (fun _ => True) [(mq, .inr (12, mF g gl rf)), (eA0 (rf 41) (ck 41) 128 f_knot), (eA0 (rf 42) (ck 42) 128 f_part), (eA0 (rf 43) (ck 43) 128 f_other), (eA0 (rf 46) (ck 46) 96 f_held)])) (va_Qv (fun (u : (Int32) × (Int32) × (Nat → Int32) × (Nat → Int32) × (Nat → Int32) × (Nat → Int32)) => u = fq_grown f_knot f_part f_other f_held a0 a1 a2 (g 23) (g 48)) (fun (u : (Int32) × (Int32) × (Nat → Int32) × (Nat → Int32) × (Nat → Int32) × (Nat → Int32)) t => va_P (dC, dI) vwCl [(mq, .inr (12, mF (upd (upd g 23 u.1) 48 u.2.1) gl rf)), (eA0 (rf 41) (ck 41) 128 u.2.2.1), (eA0 (rf 42) (ck 42) 128 u.2.2.2.1), (eA0 (rf 43) (ck 43) 128 u.2.2.2.2.1), (eA0 (rf 46) (ck 46) 96 u.2.2.2.2.2)] t.heap ∧ va_K (dC, dI) vwCl [] t ∧ va_D (va_A [(mq, .inr (12, mF g gl rf)), (eA0 (rf 41) (ck 41) 128 f_knot), (eA0 (rf 42) (ck 42) 128 f_part), (eA0 (rf 43) (ck 43) 128 f_other), (eA0 (rf 46) (ck 46) 96 f_held)] sz) [(mq, .inr (12, mF (upd (upd g 23 u.1) 48 u.2.1) gl rf)), (eA0 (rf 41) (ck 41) 128 u.2.2.1), (eA0 (rf 42) (ck 42) 128 u.2.2.2.1), (eA0 (rf 43) (ck 43) 128 u.2.2.2.2.1), (eA0 (rf 46) (ck 46) 96 u.2.2.2.2.2)]) (va_A [(mq, .inr (12, mF g gl rf)), (eA0 (rf 41) (ck 41) 128 f_knot), (eA0 (rf 42) (ck 42) 128 f_part), (eA0 (rf 43) (ck 43) 128 f_other), (eA0 (rf 46) (ck 46) 96 f_held)] sz)) 0 0 (va_A [(mq, .inr (12, mF g gl rf)), (eA0 (rf 41) (ck 41) 128 f_knot), (eA0 (rf 42) (ck 42) 128 f_part), (eA0 (rf 43) (ck 43) 128 f_other), (eA0 (rf 46) (ck 46) 96 f_held)] sz) := by
  refine Met.ofW (cc := cX12_grown) (maxL := 4) (ret := none) (by decide) rfl ?_
  intro p e s m args below meth c s₁ B hml hv
  obtain ⟨rfl, hsz, hP, hK, hD0⟩ := hv
  have hx := B.exec
  have hb := B.bytes
  have hr := B.returns
  have hts := atoms_spec (ws := Cond.code yX12_grown cX12_grown 4 none :: wsL_law) B.pre
  have htw : ∀ w ∈ wsL_law, w.before _ s = true := fun w h => hts w (List.mem_cons_of_mem _ h)
  have hown : s.vm.findClass RX12 = some m.cls := findClass_of_methodNamed B.named
  have hlocks := B.notSynchronized
  subst hsz
  have hD := hD0.self (sz := s.heap.size)
  generalize hAe : va_A [(mq, .inr (12, mF g gl rf)), (eA0 (rf 41) (ck 41) 128 f_knot), (eA0 (rf 42) (ck 42) 128 f_part), (eA0 (rf 43) (ck 43) 128 f_other), (eA0 (rf 46) (ck 46) 96 f_held)] s.heap.size = A at hD ⊢
  have hA : ∀ q : Nat, s.heap.size ≤ q → A q := fun q h => by rw [← hAe]; exact Or.inr h
  obtain ⟨H, rH⟩ : ∃ z : Heap, z = s.heap := ⟨_, rfl⟩
  have hS : va_S A s.heap H [] := by rw [rH]; exact va_S.rf
  have hP : va_P (dC, dI) vwCl [(mq, .inr (12, mF g gl rf)), (eA0 (rf 41) (ck 41) 128 f_knot), (eA0 (rf 42) (ck 42) 128 f_part), (eA0 (rf 43) (ck 43) 128 f_other), (eA0 (rf 46) (ck 46) 96 f_held)] H := by rw [rH]; exact hP
  rw [← rH]
  have hl := lv_entry ([.ref mq, .int a0, .int a1, .int a2]) (n := 4) (Nat.le_of_ble_eq_true rfl)
  rw [lg_entry_eq]
  generalize (lg_sl ([.ref mq, .int a0, .int a1, .int a2]) ++ List.replicate (4 - (lg_sl ([.ref mq, .int a0, .int a1, .int a2])).length) Slot.unset).toArray = ls at hl ⊢
  have hl : lv_has ls 4 [(0, .ref mq), (1, .int a0), (2, .int a1), (3, .int a2)] := hl
  refine lv_aload_n hx hb dX12_grown_0 rfl (lv_at hl 0 rfl) ?_
  refine va_get (D := (dC, dI)) (ci := 12) (v := .ref (rf 41)) (C := RX12) (T := TX12) (N := 76) hx hb htw inlX12 hown hK hP 0 rfl rfl 41 (by decide) (htw _ (ck_9 _ (List.mem_of_getElem? (i := 21) rfl))) (fun _ h9 => h9) rfl dX12_grown_1 ?_
  refine lv_bipush (v := 64) hx hb dX12_grown_4 (by decide) ?_
  refine lv_aload_n hx hb dX12_grown_6 rfl (lv_at hl 0 rfl) ?_
  refine va_get (D := (dC, dI)) (ci := 12) (v := .int (g 23)) (C := RX12) (T := TX12) (N := 76) hx hb htw inlX12 hown hK hP 0 rfl rfl 23 (by decide) (htw _ (ck_11 _ (List.mem_of_getElem? (i := 0) rfl))) (fun _ h9 => h9) rfl dX12_grown_7 ?_
  refine lv_iadd hx hb dX12_grown_10 ?_
  refine lv_iload_n hx hb dX12_grown_11 rfl (lv_at hl 1 rfl) ?_
  refine va_iast hx hb hK hP hD hS 1 0 rfl rfl (xg_inr (N := 128) rfl (gq_grown_s0 (y0 := g 23) hkr0 hkr4).1 (gq_grown_s0 (y0 := g 23) hkr0 hkr4).2) dX12_grown_12 (fun H locs hP hD hS => ?_)
  obtain ⟨hP, hD⟩ := zre [(mq, .inr (12, mF g gl rf)), (eA0 (rf 41) (ck 41) 128 (upd f_knot ((64 + (g 23)).toNatClampNeg) a0)), (eA0 (rf 42) (ck 42) 128 f_part), (eA0 (rf 43) (ck 43) 128 f_other), (eA0 (rf 46) (ck 46) 96 f_held)] hP hD rfl
  refine lv_aload_n hx hb dX12_grown_13 rfl (lv_at hl 0 rfl) ?_
  refine va_get (D := (dC, dI)) (ci := 12) (v := .ref (rf 42)) (C := RX12) (T := TX12) (N := 76) hx hb htw inlX12 hown hK hP 0 rfl rfl 42 (by decide) (htw _ (ck_9 _ (List.mem_of_getElem? (i := 22) rfl))) (fun _ h9 => h9) rfl dX12_grown_14 ?_
  refine lv_bipush (v := 64) hx hb dX12_grown_17 (by decide) ?_
  refine lv_aload_n hx hb dX12_grown_19 rfl (lv_at hl 0 rfl) ?_
  refine va_get (D := (dC, dI)) (ci := 12) (v := .int (g 23)) (C := RX12) (T := TX12) (N := 76) hx hb htw inlX12 hown hK hP 0 rfl rfl 23 (by decide) (htw _ (ck_11 _ (List.mem_of_getElem? (i := 0) rfl))) (fun _ h9 => h9) rfl dX12_grown_20 ?_
  refine lv_iadd hx hb dX12_grown_23 ?_
  refine lv_iload_n hx hb dX12_grown_24 rfl (lv_at hl 2 rfl) ?_
  refine va_iast hx hb hK hP hD hS 2 1 rfl rfl (xg_inr (N := 128) rfl (gq_grown_s1 (y0 := g 23) hkr0 hkr4).1 (gq_grown_s1 (y0 := g 23) hkr0 hkr4).2) dX12_grown_25 (fun H locs hP hD hS => ?_)
  obtain ⟨hP, hD⟩ := zre [(mq, .inr (12, mF g gl rf)), (eA0 (rf 41) (ck 41) 128 (upd f_knot ((64 + (g 23)).toNatClampNeg) a0)), (eA0 (rf 42) (ck 42) 128 (upd f_part ((64 + (g 23)).toNatClampNeg) a1)), (eA0 (rf 43) (ck 43) 128 f_other), (eA0 (rf 46) (ck 46) 96 f_held)] hP hD rfl
  refine lv_aload_n hx hb dX12_grown_26 rfl (lv_at hl 0 rfl) ?_
  refine va_get (D := (dC, dI)) (ci := 12) (v := .ref (rf 43)) (C := RX12) (T := TX12) (N := 76) hx hb htw inlX12 hown hK hP 0 rfl rfl 43 (by decide) (htw _ (ck_9 _ (List.mem_of_getElem? (i := 23) rfl))) (fun _ h9 => h9) rfl dX12_grown_27 ?_
  refine lv_bipush (v := 64) hx hb dX12_grown_30 (by decide) ?_
  refine lv_aload_n hx hb dX12_grown_32 rfl (lv_at hl 0 rfl) ?_
  refine va_get (D := (dC, dI)) (ci := 12) (v := .int (g 23)) (C := RX12) (T := TX12) (N := 76) hx hb htw inlX12 hown hK hP 0 rfl rfl 23 (by decide) (htw _ (ck_11 _ (List.mem_of_getElem? (i := 0) rfl))) (fun _ h9 => h9) rfl dX12_grown_33 ?_
  refine lv_iadd hx hb dX12_grown_36 ?_
  refine lv_iload_n hx hb dX12_grown_37 rfl (lv_at hl 3 rfl) ?_
  refine va_iast hx hb hK hP hD hS 3 2 rfl rfl (xg_inr (N := 128) rfl (gq_grown_s2 (y0 := g 23) hkr0 hkr4).1 (gq_grown_s2 (y0 := g 23) hkr0 hkr4).2) dX12_grown_38 (fun H locs hP hD hS => ?_)
  obtain ⟨hP, hD⟩ := zre [(mq, .inr (12, mF g gl rf)), (eA0 (rf 41) (ck 41) 128 (upd f_knot ((64 + (g 23)).toNatClampNeg) a0)), (eA0 (rf 42) (ck 42) 128 (upd f_part ((64 + (g 23)).toNatClampNeg) a1)), (eA0 (rf 43) (ck 43) 128 (upd f_other ((64 + (g 23)).toNatClampNeg) a2)), (eA0 (rf 46) (ck 46) 96 f_held)] hP hD rfl
  refine lv_aload_n hx hb dX12_grown_39 rfl (lv_at hl 0 rfl) ?_
  refine va_get (D := (dC, dI)) (ci := 12) (v := .ref (rf 46)) (C := RX12) (T := TX12) (N := 76) hx hb htw inlX12 hown hK hP 0 rfl rfl 46 (by decide) (htw _ (ck_10 _ (List.mem_of_getElem? (i := 1) rfl))) (fun _ h9 => h9) rfl dX12_grown_40 ?_
  refine lv_aload_n hx hb dX12_grown_43 rfl (lv_at hl 0 rfl) ?_
  refine va_get (D := (dC, dI)) (ci := 12) (v := .int (g 48)) (C := RX12) (T := TX12) (N := 76) hx hb htw inlX12 hown hK hP 0 rfl rfl 48 (by decide) (htw _ (ck_27 _ (List.mem_of_getElem? (i := 17) rfl))) (fun _ h9 => h9) rfl dX12_grown_44 ?_
  refine lv_aload_n hx hb dX12_grown_47 rfl (lv_at hl 0 rfl) ?_
  refine va_get (D := (dC, dI)) (ci := 12) (v := .int (g 23)) (C := RX12) (T := TX12) (N := 76) hx hb htw inlX12 hown hK hP 0 rfl rfl 23 (by decide) (htw _ (ck_11 _ (List.mem_of_getElem? (i := 0) rfl))) (fun _ h9 => h9) rfl dX12_grown_48 ?_
  refine va_iast hx hb hK hP hD hS 4 3 rfl rfl (xg_inr (N := 96) rfl (gq_grown_s3 (y0 := g 48) hhe0 hhe9).1 (gq_grown_s3 (y0 := g 48) hhe0 hhe9).2) dX12_grown_51 (fun H locs hP hD hS => ?_)
  obtain ⟨hP, hD⟩ := zre [(mq, .inr (12, mF g gl rf)), (eA0 (rf 41) (ck 41) 128 (upd f_knot ((64 + (g 23)).toNatClampNeg) a0)), (eA0 (rf 42) (ck 42) 128 (upd f_part ((64 + (g 23)).toNatClampNeg) a1)), (eA0 (rf 43) (ck 43) 128 (upd f_other ((64 + (g 23)).toNatClampNeg) a2)), (eA0 (rf 46) (ck 46) 96 (upd f_held ((g 48).toNatClampNeg) (g 23)))] hP hD rfl
  refine lv_aload_n hx hb dX12_grown_52 rfl (lv_at hl 0 rfl) ?_
  refine lv_dup hx hb dX12_grown_53 rfl ?_
  refine va_get (D := (dC, dI)) (ci := 12) (v := .int (g 48)) (C := RX12) (T := TX12) (N := 76) hx hb htw inlX12 hown hK hP 0 rfl rfl 48 (by decide) (htw _ (ck_27 _ (List.mem_of_getElem? (i := 17) rfl))) (fun _ h9 => h9) rfl dX12_grown_54 ?_
  refine lv_iconst (v := 1) hx hb dX12_grown_57 (by decide) ?_
  refine lv_iadd hx hb dX12_grown_58 ?_
  refine va_put (D := (dC, dI)) (ci := 12) (v := .int ((g 48) + 1)) (ty := tyX12 48) (C := RX12) (T := TX12) (N := 76) hx hb htw inlX12 tyX12 tyX12_ok nmX12 hown hK hP hD hS 0 rfl rfl 48 (by decide) (htw _ (ck_27 _ (List.mem_of_getElem? (i := 17) rfl))) (fun _ h9 => h9) rfl (tyX12_ok 48 (by decide)) rfl rfl (Nat.le_of_ble_eq_true rfl) dX12_grown_59 (fun H locs hP hD hS => ?_)
  obtain ⟨hP, hD⟩ := zre [(mq, .inr (12, mF (upd g 48 ((g 48) + 1)) gl rf)), (eA0 (rf 41) (ck 41) 128 (upd f_knot ((64 + (g 23)).toNatClampNeg) a0)), (eA0 (rf 42) (ck 42) 128 (upd f_part ((64 + (g 23)).toNatClampNeg) a1)), (eA0 (rf 43) (ck 43) 128 (upd f_other ((64 + (g 23)).toNatClampNeg) a2)), (eA0 (rf 46) (ck 46) 96 (upd f_held ((g 48).toNatClampNeg) (g 23)))] hP hD rfl
  refine lv_aload_n hx hb dX12_grown_62 rfl (lv_at hl 0 rfl) ?_
  refine lv_dup hx hb dX12_grown_63 rfl ?_
  refine va_get (D := (dC, dI)) (ci := 12) (v := .int (g 23)) (C := RX12) (T := TX12) (N := 76) hx hb htw inlX12 hown hK hP 0 rfl rfl 23 (by decide) (htw _ (ck_11 _ (List.mem_of_getElem? (i := 0) rfl))) (fun _ h9 => h9) rfl dX12_grown_64 ?_
  refine lv_iconst (v := 1) hx hb dX12_grown_67 (by decide) ?_
  refine lv_iadd hx hb dX12_grown_68 ?_
  refine va_put (D := (dC, dI)) (ci := 12) (v := .int ((g 23) + 1)) (ty := tyX12 23) (C := RX12) (T := TX12) (N := 76) hx hb htw inlX12 tyX12 tyX12_ok nmX12 hown hK hP hD hS 0 rfl rfl 23 (by decide) (htw _ (ck_11 _ (List.mem_of_getElem? (i := 0) rfl))) (fun _ h9 => h9) rfl (tyX12_ok 23 (by decide)) rfl rfl (Nat.le_of_ble_eq_true rfl) dX12_grown_69 (fun H locs hP hD hS => ?_)
  have hP : va_P (dC, dI) vwCl [(mq, .inr (12, mF (upd (upd g 23 ((g 23) + 1)) 48 ((g 48) + 1)) gl rf)), (eA0 (rf 41) (ck 41) 128 (upd f_knot ((64 + (g 23)).toNatClampNeg) a0)), (eA0 (rf 42) (ck 42) 128 (upd f_part ((64 + (g 23)).toNatClampNeg) a1)), (eA0 (rf 43) (ck 43) 128 (upd f_other ((64 + (g 23)).toNatClampNeg) a2)), (eA0 (rf 46) (ck 46) 96 (upd f_held ((g 48).toNatClampNeg) (g 23)))] H := hP
  have hD : va_D A [(mq, .inr (12, mF (upd (upd g 23 ((g 23) + 1)) 48 ((g 48) + 1)) gl rf)), (eA0 (rf 41) (ck 41) 128 (upd f_knot ((64 + (g 23)).toNatClampNeg) a0)), (eA0 (rf 42) (ck 42) 128 (upd f_part ((64 + (g 23)).toNatClampNeg) a1)), (eA0 (rf 43) (ck 43) 128 (upd f_other ((64 + (g 23)).toNatClampNeg) a2)), (eA0 (rf 46) (ck 46) 96 (upd f_held ((g 48).toNatClampNeg) (g 23)))] := hD
  refine W.widen (k := 0) (n := 0) (by omega) (by omega) ?_
  have hP9 := hP
  have hD9 := hD
  have hK9 := hK.sub (tys' := []) [] rfl
  exact W.vret hx hb hr (fun t ht hW => ⟨⟨(((g 23) + 1), ((g 48) + 1), (upd f_knot ((64 + (g 23)).toNatClampNeg) a0), (upd f_part ((64 + (g 23)).toNatClampNeg) a1), (upd f_other ((64 + (g 23)).toNatClampNeg) a2), (upd f_held ((g 48).toNatClampNeg) (g 23))), rfl, (Eq.symm ((by rw [fq_grown]))), by rw [ht]; exact hP9, va_K.moved hW.alike hK9, hD9⟩, hS.F ht⟩) hS.2.2 dX12_grown_72

def fq_dropHeld (f_held : Nat → Int32) (m_helds : Int32) : Int32 × (Int32) := (f_held ((m_helds - 1).toNatClampNeg), (m_helds - 1))
theorem gq_dropHeld_s0 {y0 : Int32} (h0 : ¬ (y0 < 1)) (h1 : y0 ≤ 96) : ¬ ((y0 - 1) < 0) ∧ ¬ (96 ≤ (y0 - 1)) := by lia
theorem dX12_dropHeld_0 : decode cX12_dropHeld 0 = .ok (.aload_n 0, 1) := zk_42 (by decide +kernel)
theorem dX12_dropHeld_1 : decode cX12_dropHeld 1 = .ok (.dup, 1) := zk_89 (by decide +kernel)
theorem dX12_dropHeld_2 : decode cX12_dropHeld 2 = .ok (.getfield 330, 3) := zk_180 (by decide +kernel)
theorem dX12_dropHeld_5 : decode cX12_dropHeld 5 = .ok (.iconst 1, 1) := zk_4 (by decide +kernel)
theorem dX12_dropHeld_6 : decode cX12_dropHeld 6 = .ok (.isub, 1) := zk_100 (by decide +kernel)
theorem dX12_dropHeld_7 : decode cX12_dropHeld 7 = .ok (.putfield 330, 3) := zk_181 (by decide +kernel)
theorem dX12_dropHeld_10 : decode cX12_dropHeld 10 = .ok (.aload_n 0, 1) := zk_42 (by decide +kernel)
theorem dX12_dropHeld_11 : decode cX12_dropHeld 11 = .ok (.getfield 75, 3) := zk_180 (by decide +kernel)
theorem dX12_dropHeld_14 : decode cX12_dropHeld 14 = .ok (.aload_n 0, 1) := zk_42 (by decide +kernel)
theorem dX12_dropHeld_15 : decode cX12_dropHeld 15 = .ok (.getfield 330, 3) := zk_180 (by decide +kernel)
theorem dX12_dropHeld_18 : decode cX12_dropHeld 18 = .ok (.iaload, 1) := zk_46 (by decide +kernel)
theorem dX12_dropHeld_19 : decode cX12_dropHeld 19 = .ok (.ireturn, 1) := zk_172 (by decide +kernel)
set_option maxHeartbeats 4000000 in
set_option maxRecDepth 100000 in
theorem gq_dropHeld (l : Launch) (dC : Nat → ClassId) (dI : Nat → Nat → Nat) (mq : Nat) (g : Nat → Int32) (gl : Nat → Int64) (rf : Nat → Nat) (ck : Nat → ClassId) (f_held : Nat → Int32) (sz : Nat) (hh1 : ¬ (g 48) < 1) (hh9 : (g 48) ≤ 96) : Met l yX12_dropHeld (Cond.code yX12_dropHeld cX12_dropHeld 1 (some .int) :: wsL_law) ({ frames := 0, cells := 0, slots := 0, locals := 0 }) (va_Pc [.ref mq] (fun U => U.heap.size = sz ∧ va_P (dC, dI) vwCl [(mq, .inr (12, mF g gl rf)), (eA0 (rf 46) (ck 46) 96 f_held)] U.heap ∧ va_K (dC, dI) vwCl [((ck 46), .int)] U ∧ va_D (fun _ => True) [(mq, .inr (12, mF g gl rf)), (eA0 (rf 46) (ck 46) 96 f_held)])) (va_Qi (fun (r : Int32) (u : (Int32)) => r = (fq_dropHeld f_held (g 48)).1 ∧ u = (fq_dropHeld f_held (g 48)).2) (fun (u : (Int32)) t => va_P (dC, dI) vwCl [(mq, .inr (12, mF (upd g 48 u) gl rf)), (eA0 (rf 46) (ck 46) 96 f_held)] t.heap ∧ va_K (dC, dI) vwCl [] t ∧ va_D (va_A [(mq, .inr (12, mF g gl rf)), (eA0 (rf 46) (ck 46) 96 f_held)] sz) [(mq, .inr (12, mF (upd g 48 u) gl rf)), (eA0 (rf 46) (ck 46) 96 f_held)]) (va_A [(mq, .inr (12, mF g gl rf)), (eA0 (rf 46) (ck 46) 96 f_held)] sz)) 0 0 (va_A [(mq, .inr (12, mF g gl rf)), (eA0 (rf 46) (ck 46) 96 f_held)] sz) := by
  refine Met.ofW (cc := cX12_dropHeld) (maxL := 1) (ret := (some .int)) (by decide) rfl ?_
  intro p e s m args below meth c s₁ B hml hv
  obtain ⟨rfl, hsz, hP, hK, hD0⟩ := hv
  have hx := B.exec
  have hb := B.bytes
  have hr := B.returns
  have hts := atoms_spec (ws := Cond.code yX12_dropHeld cX12_dropHeld 1 (some .int) :: wsL_law) B.pre
  have htw : ∀ w ∈ wsL_law, w.before _ s = true := fun w h => hts w (List.mem_cons_of_mem _ h)
  have hown : s.vm.findClass RX12 = some m.cls := findClass_of_methodNamed B.named
  have hlocks := B.notSynchronized
  subst hsz
  have hD := hD0.self (sz := s.heap.size)
  generalize hAe : va_A [(mq, .inr (12, mF g gl rf)), (eA0 (rf 46) (ck 46) 96 f_held)] s.heap.size = A at hD ⊢
  have hA : ∀ q : Nat, s.heap.size ≤ q → A q := fun q h => by rw [← hAe]; exact Or.inr h
  obtain ⟨H, rH⟩ : ∃ z : Heap, z = s.heap := ⟨_, rfl⟩
  have hS : va_S A s.heap H [] := by rw [rH]; exact va_S.rf
  have hP : va_P (dC, dI) vwCl [(mq, .inr (12, mF g gl rf)), (eA0 (rf 46) (ck 46) 96 f_held)] H := by rw [rH]; exact hP
  rw [← rH]
  have hl := lv_entry ([.ref mq]) (n := 1) (Nat.le_of_ble_eq_true rfl)
  rw [lg_entry_eq]
  generalize (lg_sl ([.ref mq]) ++ List.replicate (1 - (lg_sl ([.ref mq])).length) Slot.unset).toArray = ls at hl ⊢
  have hl : lv_has ls 1 [(0, .ref mq)] := hl
  refine lv_aload_n hx hb dX12_dropHeld_0 rfl (lv_at hl 0 rfl) ?_
  refine lv_dup hx hb dX12_dropHeld_1 rfl ?_
  refine va_get (D := (dC, dI)) (ci := 12) (v := .int (g 48)) (C := RX12) (T := TX12) (N := 76) hx hb htw inlX12 hown hK hP 0 rfl rfl 48 (by decide) (htw _ (ck_27 _ (List.mem_of_getElem? (i := 17) rfl))) (fun _ h9 => h9) rfl dX12_dropHeld_2 ?_
  refine lv_iconst (v := 1) hx hb dX12_dropHeld_5 (by decide) ?_
  refine lv_isub hx hb dX12_dropHeld_6 ?_
  refine va_put (D := (dC, dI)) (ci := 12) (v := .int ((g 48) - 1)) (ty := tyX12 48) (C := RX12) (T := TX12) (N := 76) hx hb htw inlX12 tyX12 tyX12_ok nmX12 hown hK hP hD hS 0 rfl rfl 48 (by decide) (htw _ (ck_27 _ (List.mem_of_getElem? (i := 17) rfl))) (fun _ h9 => h9) rfl (tyX12_ok 48 (by decide)) rfl rfl (Nat.le_of_ble_eq_true rfl) dX12_dropHeld_7 (fun H locs hP hD hS => ?_)
  obtain ⟨hP, hD⟩ := zre [(mq, .inr (12, mF (upd g 48 ((g 48) - 1)) gl rf)), (eA0 (rf 46) (ck 46) 96 f_held)] hP hD rfl
  refine lv_aload_n hx hb dX12_dropHeld_10 rfl (lv_at hl 0 rfl) ?_
  refine va_get (D := (dC, dI)) (ci := 12) (v := .ref (rf 46)) (C := RX12) (T := TX12) (N := 76) hx hb htw inlX12 hown hK hP 0 rfl rfl 46 (by decide) (htw _ (ck_10 _ (List.mem_of_getElem? (i := 1) rfl))) (fun _ h9 => h9) rfl dX12_dropHeld_11 ?_
  refine lv_aload_n hx hb dX12_dropHeld_14 rfl (lv_at hl 0 rfl) ?_
  refine va_get (D := (dC, dI)) (ci := 12) (v := .int ((g 48) - 1)) (C := RX12) (T := TX12) (N := 76) hx hb htw inlX12 hown hK hP 0 rfl rfl 48 (by decide) (htw _ (ck_27 _ (List.mem_of_getElem? (i := 17) rfl))) (fun _ h9 => h9) rfl dX12_dropHeld_15 ?_
  refine va_iald hx hb hK hP 1 0 rfl rfl (xg_inr (N := 96) rfl (gq_dropHeld_s0 (y0 := g 48) hh1 hh9).1 (gq_dropHeld_s0 (y0 := g 48) hh1 hh9).2) dX12_dropHeld_18 ?_
  refine W.widen (k := 0) (n := 0) (by omega) (by omega) ?_
  have hP9 := hP
  have hD9 := hD
  have hK9 := hK.sub (tys' := []) [] rfl
  exact W.iret (v := f_held (((g 48) - 1).toNatClampNeg)) hx hb hr (fun t ht hW => ⟨⟨f_held (((g 48) - 1).toNatClampNeg), ((g 48) - 1), rfl, ((fun e9 => ⟨by rw [e9], by rw [e9]⟩ : fq_dropHeld f_held (g 48) = (f_held (((g 48) - 1).toNatClampNeg), ((g 48) - 1)) → _) ((by rw [fq_dropHeld]))), by rw [ht]; exact hP9, va_K.moved hW.alike hK9, hD9⟩, hS.F ht⟩) hS.2.2 dX12_dropHeld_19

def fq_isCounted (m_fault : Int32) (m_faultPlace : Int32) (m_at : Int32) (m_counted : Int32) : Int32 × (Int32) × (Int32) × (Int32) := (if m_counted = 64 then (xL ((fq_wrong (2 : Int32) m_at)) (fun X_7 => (X_7.1, m_counted, X_7.2.1, X_7.2.2))) else ((1 : Int32), (m_counted + 1), m_fault, m_faultPlace))
theorem dX12_isCounted_0 : decode cX12_isCounted 0 = .ok (.aload_n 0, 1) := zk_42 (by decide +kernel)
theorem dX12_isCounted_1 : decode cX12_isCounted 1 = .ok (.getfield 204, 3) := zk_180 (by decide +kernel)
theorem dX12_isCounted_4 : decode cX12_isCounted 4 = .ok (.bipush 64, 2) := zk_16 (by decide +kernel)
theorem dX12_isCounted_6 : decode cX12_isCounted 6 = .ok (.if_icmp .ne 9, 3) := zk_160 (by decide +kernel)
theorem dX12_isCounted_15 : decode cX12_isCounted 15 = .ok (.aload_n 0, 1) := zk_42 (by decide +kernel)
theorem dX12_isCounted_16 : decode cX12_isCounted 16 = .ok (.dup, 1) := zk_89 (by decide +kernel)
theorem dX12_isCounted_17 : decode cX12_isCounted 17 = .ok (.getfield 204, 3) := zk_180 (by decide +kernel)
theorem dX12_isCounted_20 : decode cX12_isCounted 20 = .ok (.iconst 1, 1) := zk_4 (by decide +kernel)
theorem dX12_isCounted_21 : decode cX12_isCounted 21 = .ok (.iadd, 1) := zk_96 (by decide +kernel)
theorem dX12_isCounted_22 : decode cX12_isCounted 22 = .ok (.putfield 204, 3) := zk_181 (by decide +kernel)
theorem dX12_isCounted_25 : decode cX12_isCounted 25 = .ok (.iconst 1, 1) := zk_4 (by decide +kernel)
theorem dX12_isCounted_26 : decode cX12_isCounted 26 = .ok (.ireturn, 1) := zk_172 (by decide +kernel)
theorem dX12_isCounted_9 : decode cX12_isCounted 9 = .ok (.aload_n 0, 1) := zk_42 (by decide +kernel)
theorem dX12_isCounted_10 : decode cX12_isCounted 10 = .ok (.iconst 2, 1) := zk_5 (by decide +kernel)
theorem dX12_isCounted_11 : decode cX12_isCounted 11 = .ok (.invokevirtual 163, 3) := zk_182 (by decide +kernel)
theorem dX12_isCounted_14 : decode cX12_isCounted 14 = .ok (.ireturn, 1) := zk_172 (by decide +kernel)
set_option maxHeartbeats 4000000 in
set_option maxRecDepth 100000 in
theorem gq_isCounted (l : Launch) (dC : Nat → ClassId) (dI : Nat → Nat → Nat) (mq : Nat) (g : Nat → Int32) (gl : Nat → Int64) (rf : Nat → Nat) (sz : Nat) : Met l yX12_isCounted (Cond.code yX12_isCounted cX12_isCounted 1 (some .boolean) :: wsL_law) ({ frames := 1, cells := 0, slots := 0, locals := 21 }) (va_Pc [.ref mq] (fun U => U.heap.size = sz ∧ va_P (dC, dI) vwCl [(mq, .inr (12, mF g gl rf))] U.heap ∧ va_K (dC, dI) vwCl [] U ∧ va_D (fun _ => True) [(mq, .inr (12, mF g gl rf))])) (va_Qi (fun (r : Int32) (u : (Int32) × (Int32) × (Int32)) => (r = (fq_isCounted (g 4) (g 5) (g 10) (g 50)).1 ∧ u = (fq_isCounted (g 4) (g 5) (g 10) (g 50)).2) ∧ (r = 0 ∨ r = 1)) (fun (u : (Int32) × (Int32) × (Int32)) t => va_P (dC, dI) vwCl [(mq, .inr (12, mF (upd (upd (upd g 4 u.2.1) 5 u.2.2) 50 u.1) gl rf))] t.heap ∧ va_K (dC, dI) vwCl [] t ∧ va_D (va_A [(mq, .inr (12, mF g gl rf))] sz) [(mq, .inr (12, mF (upd (upd (upd g 4 u.2.1) 5 u.2.2) 50 u.1) gl rf))]) (va_A [(mq, .inr (12, mF g gl rf))] sz)) 0 0 (va_A [(mq, .inr (12, mF g gl rf))] sz) := by
  refine Met.ofW (cc := cX12_isCounted) (maxL := 1) (ret := (some .boolean)) (by decide) rfl ?_
  intro p e s m args below meth c s₁ B hml hv
  obtain ⟨rfl, hsz, hP, hK, hD0⟩ := hv
  have hx := B.exec
  have hb := B.bytes
  have hr := B.returns
  have hts := atoms_spec (ws := Cond.code yX12_isCounted cX12_isCounted 1 (some .boolean) :: wsL_law) B.pre
  have htw : ∀ w ∈ wsL_law, w.before _ s = true := fun w h => hts w (List.mem_cons_of_mem _ h)
  have hown : s.vm.findClass RX12 = some m.cls := findClass_of_methodNamed B.named
  have hlocks := B.notSynchronized
  subst hsz
  have hD := hD0.self (sz := s.heap.size)
  generalize hAe : va_A [(mq, .inr (12, mF g gl rf))] s.heap.size = A at hD ⊢
  have hA : ∀ q : Nat, s.heap.size ≤ q → A q := fun q h => by rw [← hAe]; exact Or.inr h
  obtain ⟨H, rH⟩ : ∃ z : Heap, z = s.heap := ⟨_, rfl⟩
  have hS : va_S A s.heap H [] := by rw [rH]; exact va_S.rf
  have hP : va_P (dC, dI) vwCl [(mq, .inr (12, mF g gl rf))] H := by rw [rH]; exact hP
  rw [← rH]
  have hl := lv_entry ([.ref mq]) (n := 1) (Nat.le_of_ble_eq_true rfl)
  rw [lg_entry_eq]
  generalize (lg_sl ([.ref mq]) ++ List.replicate (1 - (lg_sl ([.ref mq])).length) Slot.unset).toArray = ls at hl ⊢
  have hl : lv_has ls 1 [(0, .ref mq)] := hl
  refine lv_aload_n hx hb dX12_isCounted_0 rfl (lv_at hl 0 rfl) ?_
  refine va_get (D := (dC, dI)) (ci := 12) (v := .int (g 50)) (C := RX12) (T := TX12) (N := 76) hx hb htw inlX12 hown hK hP 0 rfl rfl 50 (by decide) (htw _ (ck_11 _ (List.mem_of_getElem? (i := 1) rfl))) (fun _ h9 => h9) rfl dX12_isCounted_1 ?_
  refine lv_bipush (v := 64) hx hb dX12_isCounted_4 (by decide) ?_
  refine lv_icmp_ne (tgt := 15) hx hb dX12_isCounted_6 (by decide) (fun c_1 => ?_) (fun c_1 => ?_)
  · refine lv_aload_n hx hb dX12_isCounted_15 rfl (lv_at hl 0 rfl) ?_
    refine lv_dup hx hb dX12_isCounted_16 rfl ?_
    refine va_get (D := (dC, dI)) (ci := 12) (v := .int (g 50)) (C := RX12) (T := TX12) (N := 76) hx hb htw inlX12 hown hK hP 0 rfl rfl 50 (by decide) (htw _ (ck_11 _ (List.mem_of_getElem? (i := 1) rfl))) (fun _ h9 => h9) rfl dX12_isCounted_17 ?_
    refine lv_iconst (v := 1) hx hb dX12_isCounted_20 (by decide) ?_
    refine lv_iadd hx hb dX12_isCounted_21 ?_
    refine va_put (D := (dC, dI)) (ci := 12) (v := .int ((g 50) + 1)) (ty := tyX12 50) (C := RX12) (T := TX12) (N := 76) hx hb htw inlX12 tyX12 tyX12_ok nmX12 hown hK hP hD hS 0 rfl rfl 50 (by decide) (htw _ (ck_11 _ (List.mem_of_getElem? (i := 1) rfl))) (fun _ h9 => h9) rfl (tyX12_ok 50 (by decide)) rfl rfl (Nat.le_of_ble_eq_true rfl) dX12_isCounted_22 (fun H locs hP hD hS => ?_)
    obtain ⟨hP, hD⟩ := zre [(mq, .inr (12, mF (upd g 50 ((g 50) + 1)) gl rf))] hP hD rfl
    refine lv_iconst (v := 1) hx hb dX12_isCounted_25 (by decide) ?_
    refine W.widen (k := 0) (n := 0) (by omega) (by omega) ?_
    have hP9 := hP
    have hD9 := hD
    have hK9 := hK.sub (tys' := []) [] rfl
    exact W.zret (v := 1) hx hb hr (by first | rfl | decide) (fun t ht hW => ⟨⟨1, (((g 50) + 1), (g 4), (g 5)), rfl, ⟨((fun e9 => ⟨by rw [e9], by rw [e9]⟩ : fq_isCounted (g 4) (g 5) (g 10) (g 50) = ((1 : Int32), ((g 50) + 1), (g 4), (g 5)) → _) ((by rw [fq_isCounted]; (try rw [if_neg c_1]); try rfl))), Or.inr rfl⟩, by rw [ht]; exact hP9, va_K.moved hW.alike hK9, hD9⟩, hS.F ht⟩) hS.2.2 dX12_isCounted_26
  · refine lv_aload_n hx hb dX12_isCounted_9 rfl (lv_at hl 0 rfl) ?_
    refine lv_iconst (v := 2) hx hb dX12_isCounted_10 (by decide) ?_
    obtain ⟨hPc, hDc, hFc, hCc⟩ := zsub3 (ws' := [(mq, .inr (12, mF g gl rf))]) hP hD hS hA [0] (by decide) rfl
    have hKc := hK.sub (tys' := []) [] rfl
    refine va_calli (va_runV (As := [.int 2]) (rest := []) ⟨hx, hb, hml, hown, htw⟩ (gq_wrong l dC dI mq g gl rf (2 : Int32) H.size) (cwV 1 htw (xg_V (ck_25 _ (List.mem_of_getElem? (i := 21) rfl)) (ck_25 _ (List.mem_of_getElem? (i := 22) rfl)) (ck_25 _ (List.mem_of_getElem? (i := 23) rfl)) (ck_1 _ (List.mem_of_getElem? (i := 5) rfl)) (ck_26 _ (List.mem_of_getElem? (i := 0) rfl))) rfl rfl rfl (by exact ⟨rfl, hdc_14.1, hdc_14.2, hdd_26⟩) ⟨Nat.le_of_ble_eq_true rfl, Nat.le_of_ble_eq_true rfl⟩) ⟨fun a U g mk q => by obtain ⟨q0, q1, qP, qK, qD⟩ := q; exact ⟨q0, q1, qP, va_K.moved (u := U) (U := U.calling g mk a) (Vm.Alike.refl U.vm) qK, qD⟩, va_recv hKc hPc (ci := 12) (q0 := 0) rfl rfl, fun U hU hW => ⟨rfl, by rw [hU], by rw [hU]; exact hPc, va_K.moved hW.alike hKc, hDc.weaken (fun _ _ _ _ => trivial)⟩⟩ rfl rfl hl.1 rfl (lv_room (Nat.le_of_ble_eq_true rfl)) dX12_isCounted_11 ⟨Nat.le_of_ble_eq_true rfl, Nat.le_of_ble_eq_true rfl⟩) hS (fun q _ h => hFc q h) hFc (fun r_2 u_3 t H1 locs ht hvm hw hB hz1 hk1 hS => ?_)
    try dsimp only at hw
    obtain ⟨hP1, hK1, hD1⟩ := hB
    rw [ht] at hP1
    have hK1 := va_K.moved hvm.symm hK1
    have hK1 : va_K (dC, dI) vwCl [] s := hK1
    obtain ⟨hP, hD⟩ := va_join (wr := []) (w1 := [(mq, .inr (12, mF (upd (upd g 4 u_3.1) 5 u_3.2) gl rf))]) hP hD [0] [] hCc rfl (by decide) (by decide) hk1 hFc hP1 hD1
    generalize H1 = H at hP hS ⊢
    have hP : va_P (dC, dI) vwCl [(mq, .inr (12, mF (upd (upd g 4 u_3.1) 5 u_3.2) gl rf))] H := hP
    have hD : va_D A [(mq, .inr (12, mF (upd (upd g 4 u_3.1) 5 u_3.2) gl rf))] := hD
    refine W.widen (k := 0) (n := 0) (by omega) (by omega) ?_
    obtain ⟨hw, hb_r_2, hp_6⟩ := hw
    obtain ⟨X_7, hX_7⟩ : ∃ X9 : Int32 × (Int32) × (Int32), X9 = (fq_wrong (2 : Int32) (g 10)) := ⟨_, rfl⟩
    have hq_r_2 : r_2 = X_7.1 := by rw [hX_7]; exact hw.1
    have hq_u_3 : u_3 = X_7.2 := by rw [hX_7]; exact hw.2
    refine W.widen (k := 0) (n := 0) (by omega) (by omega) ?_
    have hP9 := hP
    have hD9 := hD
    have hK9 := hK.sub (tys' := []) [] rfl
    exact W.zret (v := r_2) hx hb hr (xz_nar hb_r_2) (fun t ht hW => ⟨⟨r_2, ((g 50), u_3.1, u_3.2), rfl, ⟨((fun e9 => ⟨by rw [e9], by rw [e9]⟩ : fq_isCounted (g 4) (g 5) (g 10) (g 50) = (r_2, (g 50), u_3.1, u_3.2) → _) ((by rw [fq_isCounted]; (try rw [if_pos c_1]); (try rw [← hX_7]); (try rw [xL_eq]); (try rw [← hq_r_2]); (try rw [← hq_u_3]); try rfl))), hb_r_2⟩, by rw [ht]; exact hP9, va_K.moved hW.alike hK9, hD9⟩, hS.F ht⟩) hS.2.2 dX12_isCounted_14

def fq_waitsFor (f_wait : Nat → Int32) (a0 : Int32) (m_waits : Int32) : (Int32) × (Nat → Int32) := ((m_waits + 1), (upd f_wait (m_waits.toNatClampNeg) a0))
theorem gq_waitsFor_s0 {y0 : Int32} (h0 : ¬ (y0 < 0)) (h1 : y0 < 96) : ¬ (y0 < 0) ∧ ¬ (96 ≤ y0) := by lia
theorem dX12_waitsFor_0 : decode cX12_waitsFor 0 = .ok (.aload_n 0, 1) := zk_42 (by decide +kernel)
theorem dX12_waitsFor_1 : decode cX12_waitsFor 1 = .ok (.getfield 72, 3) := zk_180 (by decide +kernel)
theorem dX12_waitsFor_4 : decode cX12_waitsFor 4 = .ok (.aload_n 0, 1) := zk_42 (by decide +kernel)
theorem dX12_waitsFor_5 : decode cX12_waitsFor 5 = .ok (.getfield 333, 3) := zk_180 (by decide +kernel)
theorem dX12_waitsFor_8 : decode cX12_waitsFor 8 = .ok (.iload_n 1, 1) := zk_27 (by decide +kernel)
theorem dX12_waitsFor_9 : decode cX12_waitsFor 9 = .ok (.iastore, 1) := zk_79 (by decide +kernel)
theorem dX12_waitsFor_10 : decode cX12_waitsFor 10 = .ok (.aload_n 0, 1) := zk_42 (by decide +kernel)
theorem dX12_waitsFor_11 : decode cX12_waitsFor 11 = .ok (.dup, 1) := zk_89 (by decide +kernel)
theorem dX12_waitsFor_12 : decode cX12_waitsFor 12 = .ok (.getfield 333, 3) := zk_180 (by decide +kernel)
theorem dX12_waitsFor_15 : decode cX12_waitsFor 15 = .ok (.iconst 1, 1) := zk_4 (by decide +kernel)
theorem dX12_waitsFor_16 : decode cX12_waitsFor 16 = .ok (.iadd, 1) := zk_96 (by decide +kernel)
theorem dX12_waitsFor_17 : decode cX12_waitsFor 17 = .ok (.putfield 333, 3) := zk_181 (by decide +kernel)
theorem dX12_waitsFor_20 : decode cX12_waitsFor 20 = .ok (.return_, 1) := zk_177 (by decide +kernel)
set_option maxHeartbeats 4000000 in
set_option maxRecDepth 100000 in
theorem gq_waitsFor (l : Launch) (dC : Nat → ClassId) (dI : Nat → Nat → Nat) (mq : Nat) (g : Nat → Int32) (gl : Nat → Int64) (rf : Nat → Nat) (ck : Nat → ClassId) (f_wait : Nat → Int32) (a0 : Int32) (sz : Nat) (hw0 : ¬ (g 47) < 0) (hw9 : (g 47) < 96) : Met l yX12_waitsFor (Cond.code yX12_waitsFor cX12_waitsFor 2 none :: wsL_law) ({ frames := 0, cells := 0, slots := 0, locals := 0 }) (va_Pc [.ref mq, .int a0] (fun U => U.heap.size = sz ∧ va_P (dC, dI) vwCl [(mq, .inr (12, mF g gl rf)), (eA0 (rf 45) (ck 45) 96 f_wait)] U.heap ∧ va_K (dC, dI) vwCl [((ck 45), .int)] U ∧ va_D (fun _ => True) [(mq, .inr (12, mF g gl rf)), (eA0 (rf 45) (ck 45) 96 f_wait)])) (va_Qv (fun (u : (Int32) × (Nat → Int32)) => u = fq_waitsFor f_wait a0 (g 47)) (fun (u : (Int32) × (Nat → Int32)) t => va_P (dC, dI) vwCl [(mq, .inr (12, mF (upd g 47 u.1) gl rf)), (eA0 (rf 45) (ck 45) 96 u.2)] t.heap ∧ va_K (dC, dI) vwCl [] t ∧ va_D (va_A [(mq, .inr (12, mF g gl rf)), (eA0 (rf 45) (ck 45) 96 f_wait)] sz) [(mq, .inr (12, mF (upd g 47 u.1) gl rf)), (eA0 (rf 45) (ck 45) 96 u.2)]) (va_A [(mq, .inr (12, mF g gl rf)), (eA0 (rf 45) (ck 45) 96 f_wait)] sz)) 0 0 (va_A [(mq, .inr (12, mF g gl rf)), (eA0 (rf 45) (ck 45) 96 f_wait)] sz) := by
  refine Met.ofW (cc := cX12_waitsFor) (maxL := 2) (ret := none) (by decide) rfl ?_
  intro p e s m args below meth c s₁ B hml hv
  obtain ⟨rfl, hsz, hP, hK, hD0⟩ := hv
  have hx := B.exec
  have hb := B.bytes
  have hr := B.returns
  have hts := atoms_spec (ws := Cond.code yX12_waitsFor cX12_waitsFor 2 none :: wsL_law) B.pre
  have htw : ∀ w ∈ wsL_law, w.before _ s = true := fun w h => hts w (List.mem_cons_of_mem _ h)
  have hown : s.vm.findClass RX12 = some m.cls := findClass_of_methodNamed B.named
  have hlocks := B.notSynchronized
  subst hsz
  have hD := hD0.self (sz := s.heap.size)
  generalize hAe : va_A [(mq, .inr (12, mF g gl rf)), (eA0 (rf 45) (ck 45) 96 f_wait)] s.heap.size = A at hD ⊢
  have hA : ∀ q : Nat, s.heap.size ≤ q → A q := fun q h => by rw [← hAe]; exact Or.inr h
  obtain ⟨H, rH⟩ : ∃ z : Heap, z = s.heap := ⟨_, rfl⟩
  have hS : va_S A s.heap H [] := by rw [rH]; exact va_S.rf
  have hP : va_P (dC, dI) vwCl [(mq, .inr (12, mF g gl rf)), (eA0 (rf 45) (ck 45) 96 f_wait)] H := by rw [rH]; exact hP
  rw [← rH]
  have hl := lv_entry ([.ref mq, .int a0]) (n := 2) (Nat.le_of_ble_eq_true rfl)
  rw [lg_entry_eq]
  generalize (lg_sl ([.ref mq, .int a0]) ++ List.replicate (2 - (lg_sl ([.ref mq, .int a0])).length) Slot.unset).toArray = ls at hl ⊢
  have hl : lv_has ls 2 [(0, .ref mq), (1, .int a0)] := hl
  refine lv_aload_n hx hb dX12_waitsFor_0 rfl (lv_at hl 0 rfl) ?_
  refine va_get (D := (dC, dI)) (ci := 12) (v := .ref (rf 45)) (C := RX12) (T := TX12) (N := 76) hx hb htw inlX12 hown hK hP 0 rfl rfl 45 (by decide) (htw _ (ck_10 _ (List.mem_of_getElem? (i := 0) rfl))) (fun _ h9 => h9) rfl dX12_waitsFor_1 ?_
  refine lv_aload_n hx hb dX12_waitsFor_4 rfl (lv_at hl 0 rfl) ?_
  refine va_get (D := (dC, dI)) (ci := 12) (v := .int (g 47)) (C := RX12) (T := TX12) (N := 76) hx hb htw inlX12 hown hK hP 0 rfl rfl 47 (by decide) (htw _ (ck_27 _ (List.mem_of_getElem? (i := 16) rfl))) (fun _ h9 => h9) rfl dX12_waitsFor_5 ?_
  refine lv_iload_n hx hb dX12_waitsFor_8 rfl (lv_at hl 1 rfl) ?_
  refine va_iast hx hb hK hP hD hS 1 0 rfl rfl (xg_inr (N := 96) rfl (gq_waitsFor_s0 (y0 := g 47) hw0 hw9).1 (gq_waitsFor_s0 (y0 := g 47) hw0 hw9).2) dX12_waitsFor_9 (fun H locs hP hD hS => ?_)
  obtain ⟨hP, hD⟩ := zre [(mq, .inr (12, mF g gl rf)), (eA0 (rf 45) (ck 45) 96 (upd f_wait ((g 47).toNatClampNeg) a0))] hP hD rfl
  refine lv_aload_n hx hb dX12_waitsFor_10 rfl (lv_at hl 0 rfl) ?_
  refine lv_dup hx hb dX12_waitsFor_11 rfl ?_
  refine va_get (D := (dC, dI)) (ci := 12) (v := .int (g 47)) (C := RX12) (T := TX12) (N := 76) hx hb htw inlX12 hown hK hP 0 rfl rfl 47 (by decide) (htw _ (ck_27 _ (List.mem_of_getElem? (i := 16) rfl))) (fun _ h9 => h9) rfl dX12_waitsFor_12 ?_
  refine lv_iconst (v := 1) hx hb dX12_waitsFor_15 (by decide) ?_
  refine lv_iadd hx hb dX12_waitsFor_16 ?_
  refine va_put (D := (dC, dI)) (ci := 12) (v := .int ((g 47) + 1)) (ty := tyX12 47) (C := RX12) (T := TX12) (N := 76) hx hb htw inlX12 tyX12 tyX12_ok nmX12 hown hK hP hD hS 0 rfl rfl 47 (by decide) (htw _ (ck_27 _ (List.mem_of_getElem? (i := 16) rfl))) (fun _ h9 => h9) rfl (tyX12_ok 47 (by decide)) rfl rfl (Nat.le_of_ble_eq_true rfl) dX12_waitsFor_17 (fun H locs hP hD hS => ?_)
  obtain ⟨hP, hD⟩ := zre [(mq, .inr (12, mF (upd g 47 ((g 47) + 1)) gl rf)), (eA0 (rf 45) (ck 45) 96 (upd f_wait ((g 47).toNatClampNeg) a0))] hP hD rfl
  refine W.widen (k := 0) (n := 0) (by omega) (by omega) ?_
  have hP9 := hP
  have hD9 := hD
  have hK9 := hK.sub (tys' := []) [] rfl
  exact W.vret hx hb hr (fun t ht hW => ⟨⟨(((g 47) + 1), (upd f_wait ((g 47).toNatClampNeg) a0)), rfl, (Eq.symm ((by rw [fq_waitsFor]))), by rw [ht]; exact hP9, va_K.moved hW.alike hK9, hD9⟩, hS.F ht⟩) hS.2.2 dX12_waitsFor_20

def fq_nameMet (m_kind : Int32) (m_which : Int32) : Int32 := (if m_kind = 1 then (if m_which = 6 then (2 : Int32) else (if m_which = 7 then (3 : Int32) else (if m_which = 8 then (-1 : Int32) else (if m_which = 9 then (-1 : Int32) else (if m_which = 10 then (-1 : Int32) else (if m_which = 11 then (-1 : Int32) else (if m_which = 12 then (-1 : Int32) else (if m_which = 13 then (-1 : Int32) else (if m_which = 14 then (-1 : Int32) else (if m_which = 15 then (-1 : Int32) else (if m_which = 16 then (-1 : Int32) else (if m_which = 17 then (-1 : Int32) else (if m_which = 18 then (-1 : Int32) else (if m_which = 19 then (0 : Int32) else (if m_which = 20 then (1 : Int32) else (if m_which = 21 then (4 : Int32) else (if m_which = 22 then (5 : Int32) else (-1 : Int32)))))))))))))))))) else (-1 : Int32))
theorem gq_nameMet_s0  : (2 : Int32) < 6 := (by decide)
theorem gq_nameMet_s1  : ¬ ((2 : Int32) < (-1)) := (by decide)
theorem gq_nameMet_s2  : (3 : Int32) < 6 := (by decide)
theorem gq_nameMet_s3  : ¬ ((3 : Int32) < (-1)) := (by decide)
theorem gq_nameMet_s4  : (-1 : Int32) < 6 := (by decide)
theorem gq_nameMet_s5  : ¬ ((-1 : Int32) < (-1)) := (by decide)
theorem gq_nameMet_s6  : (-1 : Int32) < 6 := (by decide)
theorem gq_nameMet_s7  : ¬ ((-1 : Int32) < (-1)) := (by decide)
theorem gq_nameMet_s8  : (-1 : Int32) < 6 := (by decide)
theorem gq_nameMet_s9  : ¬ ((-1 : Int32) < (-1)) := (by decide)
theorem gq_nameMet_s10  : (-1 : Int32) < 6 := (by decide)
theorem gq_nameMet_s11  : ¬ ((-1 : Int32) < (-1)) := (by decide)
theorem gq_nameMet_s12  : (-1 : Int32) < 6 := (by decide)
theorem gq_nameMet_s13  : ¬ ((-1 : Int32) < (-1)) := (by decide)
theorem gq_nameMet_s14  : (-1 : Int32) < 6 := (by decide)
theorem gq_nameMet_s15  : ¬ ((-1 : Int32) < (-1)) := (by decide)
theorem gq_nameMet_s16  : (-1 : Int32) < 6 := (by decide)
theorem gq_nameMet_s17  : ¬ ((-1 : Int32) < (-1)) := (by decide)
theorem gq_nameMet_s18  : (-1 : Int32) < 6 := (by decide)
theorem gq_nameMet_s19  : ¬ ((-1 : Int32) < (-1)) := (by decide)
theorem gq_nameMet_s20  : (-1 : Int32) < 6 := (by decide)
theorem gq_nameMet_s21  : ¬ ((-1 : Int32) < (-1)) := (by decide)
theorem gq_nameMet_s22  : (-1 : Int32) < 6 := (by decide)
theorem gq_nameMet_s23  : ¬ ((-1 : Int32) < (-1)) := (by decide)
theorem gq_nameMet_s24  : (-1 : Int32) < 6 := (by decide)
theorem gq_nameMet_s25  : ¬ ((-1 : Int32) < (-1)) := (by decide)
theorem gq_nameMet_s26  : (0 : Int32) < 6 := (by decide)
theorem gq_nameMet_s27  : ¬ ((0 : Int32) < (-1)) := (by decide)
theorem gq_nameMet_s28  : (1 : Int32) < 6 := (by decide)
theorem gq_nameMet_s29  : ¬ ((1 : Int32) < (-1)) := (by decide)
theorem gq_nameMet_s30  : (4 : Int32) < 6 := (by decide)
theorem gq_nameMet_s31  : ¬ ((4 : Int32) < (-1)) := (by decide)
theorem gq_nameMet_s32  : (5 : Int32) < 6 := (by decide)
theorem gq_nameMet_s33  : ¬ ((5 : Int32) < (-1)) := (by decide)
theorem gq_nameMet_s34  : (-1 : Int32) < 6 := (by decide)
theorem gq_nameMet_s35  : ¬ ((-1 : Int32) < (-1)) := (by decide)
theorem gq_nameMet_s36  : (-1 : Int32) < 6 := (by decide)
theorem gq_nameMet_s37  : ¬ ((-1 : Int32) < (-1)) := (by decide)
theorem dX12_nameMet_0 : decode cX12_nameMet 0 = .ok (.aload_n 0, 1) := zk_42 (by decide +kernel)
theorem dX12_nameMet_1 : decode cX12_nameMet 1 = .ok (.getfield 139, 3) := zk_180 (by decide +kernel)
theorem dX12_nameMet_4 : decode cX12_nameMet 4 = .ok (.iconst 1, 1) := zk_4 (by decide +kernel)
theorem dX12_nameMet_5 : decode cX12_nameMet 5 = .ok (.if_icmp .eq 5, 3) := zk_159 (by decide +kernel)
theorem dX12_nameMet_10 : decode cX12_nameMet 10 = .ok (.aload_n 0, 1) := zk_42 (by decide +kernel)
theorem dX12_nameMet_11 : decode cX12_nameMet 11 = .ok (.getfield 150, 3) := zk_180 (by decide +kernel)
theorem dX12_nameMet_14 : decode cX12_nameMet 14 = .ok (.tableswitch 94 6 22 #[86, 88, 94, 94, 94, 94, 94, 94, 94, 94, 94, 94, 94, 82, 84, 90, 92], 82) := by decide +kernel
theorem dX12_nameMet_100 : decode cX12_nameMet 100 = .ok (.iconst 2, 1) := zk_5 (by decide +kernel)
theorem dX12_nameMet_101 : decode cX12_nameMet 101 = .ok (.ireturn, 1) := zk_172 (by decide +kernel)
theorem dX12_nameMet_102 : decode cX12_nameMet 102 = .ok (.iconst 3, 1) := zk_6 (by decide +kernel)
theorem dX12_nameMet_103 : decode cX12_nameMet 103 = .ok (.ireturn, 1) := zk_172 (by decide +kernel)
theorem dX12_nameMet_108 : decode cX12_nameMet 108 = .ok (.iconst (-1), 1) := zk_2 (by decide +kernel)
theorem dX12_nameMet_109 : decode cX12_nameMet 109 = .ok (.ireturn, 1) := zk_172 (by decide +kernel)
theorem dX12_nameMet_96 : decode cX12_nameMet 96 = .ok (.iconst 0, 1) := zk_3 (by decide +kernel)
theorem dX12_nameMet_97 : decode cX12_nameMet 97 = .ok (.ireturn, 1) := zk_172 (by decide +kernel)
theorem dX12_nameMet_98 : decode cX12_nameMet 98 = .ok (.iconst 1, 1) := zk_4 (by decide +kernel)
theorem dX12_nameMet_99 : decode cX12_nameMet 99 = .ok (.ireturn, 1) := zk_172 (by decide +kernel)
theorem dX12_nameMet_104 : decode cX12_nameMet 104 = .ok (.iconst 4, 1) := zk_7 (by decide +kernel)
theorem dX12_nameMet_105 : decode cX12_nameMet 105 = .ok (.ireturn, 1) := zk_172 (by decide +kernel)
theorem dX12_nameMet_106 : decode cX12_nameMet 106 = .ok (.iconst 5, 1) := zk_8 (by decide +kernel)
theorem dX12_nameMet_107 : decode cX12_nameMet 107 = .ok (.ireturn, 1) := zk_172 (by decide +kernel)
theorem dX12_nameMet_8 : decode cX12_nameMet 8 = .ok (.iconst (-1), 1) := zk_2 (by decide +kernel)
theorem dX12_nameMet_9 : decode cX12_nameMet 9 = .ok (.ireturn, 1) := zk_172 (by decide +kernel)
set_option maxHeartbeats 4000000 in
set_option maxRecDepth 100000 in
theorem gq_nameMet (l : Launch) (dC : Nat → ClassId) (dI : Nat → Nat → Nat) (mq : Nat) (g : Nat → Int32) (gl : Nat → Int64) (rf : Nat → Nat) : Met l yX12_nameMet (Cond.code yX12_nameMet cX12_nameMet 1 (some .int) :: wsL_law) ({ frames := 0, cells := 0, slots := 0, locals := 0 }) (va_Pc [.ref mq] (fun U => va_P (dC, dI) vwCl [(mq, .inr (12, mF g gl rf))] U.heap ∧ va_K (dC, dI) vwCl [] U)) (vp_Si (fun r => (r = fq_nameMet (g 8) (g 9)) ∧ (r < 6) ∧ (¬ r < (-1)))) 0 0 (fun _ => False) := by
  refine Met.ofW (cc := cX12_nameMet) (maxL := 1) (ret := (some .int)) (by decide) rfl ?_
  intro p e s m args below meth c s₁ B hml hv
  obtain ⟨rfl, hP, hK⟩ := hv
  have hx := B.exec
  have hb := B.bytes
  have hr := B.returns
  have hts := atoms_spec (ws := Cond.code yX12_nameMet cX12_nameMet 1 (some .int) :: wsL_law) B.pre
  have htw : ∀ w ∈ wsL_law, w.before _ s = true := fun w h => hts w (List.mem_cons_of_mem _ h)
  have hown : s.vm.findClass RX12 = some m.cls := findClass_of_methodNamed B.named
  have hlocks := B.notSynchronized
  have hl := lv_entry ([.ref mq]) (n := 1) (Nat.le_of_ble_eq_true rfl)
  rw [lg_entry_eq]
  generalize (lg_sl ([.ref mq]) ++ List.replicate (1 - (lg_sl ([.ref mq])).length) Slot.unset).toArray = ls at hl ⊢
  have hl : lv_has ls 1 [(0, .ref mq)] := hl
  refine lv_aload_n hx hb dX12_nameMet_0 rfl (lv_at hl 0 rfl) ?_
  refine va_get (D := (dC, dI)) (ci := 12) (v := .int (g 8)) (C := RX12) (T := TX12) (N := 76) hx hb htw inlX12 hown hK hP 0 rfl rfl 8 (by decide) (htw _ (ck_24 _ (List.mem_of_getElem? (i := 13) rfl))) (fun _ h9 => h9) rfl dX12_nameMet_1 ?_
  refine lv_iconst (v := 1) hx hb dX12_nameMet_4 (by decide) ?_
  refine lv_icmp_eq (tgt := 10) hx hb dX12_nameMet_5 (by decide) (fun c_1 => ?_) (fun c_1 => ?_)
  · refine lv_aload_n hx hb dX12_nameMet_10 rfl (lv_at hl 0 rfl) ?_
    refine va_get (D := (dC, dI)) (ci := 12) (v := .int (g 9)) (C := RX12) (T := TX12) (N := 76) hx hb htw inlX12 hown hK hP 0 rfl rfl 9 (by decide) (htw _ (ck_24 _ (List.mem_of_getElem? (i := 19) rfl))) (fun _ h9 => h9) rfl dX12_nameMet_11 ?_
    by_cases h_2 : (g 9) = 6
    · refine lv_tableIn (off := 86) (tgt := 100) hx hb dX12_nameMet_14 (by rw [h_2]; decide) (by rw [h_2]; decide) (by rw [h_2]; decide) (by decide) ?_
      refine lv_iconst (v := 2) hx hb dX12_nameMet_100 (by decide) ?_
      exact W.iret (v := 2) hx hb hr (fun t ht hW => ⟨2, rfl, ⟨(Eq.symm ((by rw [fq_nameMet]; (try rw [if_pos c_1]); (try rw [if_pos h_2]); try rfl))), (gq_nameMet_s0 ), (gq_nameMet_s1 )⟩, ht⟩) (fun _ h => by cases h) dX12_nameMet_101
    by_cases h_3 : (g 9) = 7
    · refine lv_tableIn (off := 88) (tgt := 102) hx hb dX12_nameMet_14 (by rw [h_3]; decide) (by rw [h_3]; decide) (by rw [h_3]; decide) (by decide) ?_
      refine lv_iconst (v := 3) hx hb dX12_nameMet_102 (by decide) ?_
      exact W.iret (v := 3) hx hb hr (fun t ht hW => ⟨3, rfl, ⟨(Eq.symm ((by rw [fq_nameMet]; (try rw [if_pos c_1]); (try rw [if_neg h_2]); (try rw [if_pos h_3]); try rfl))), (gq_nameMet_s2 ), (gq_nameMet_s3 )⟩, ht⟩) (fun _ h => by cases h) dX12_nameMet_103
    by_cases h_4 : (g 9) = 8
    · refine lv_tableIn (off := 94) (tgt := 108) hx hb dX12_nameMet_14 (by rw [h_4]; decide) (by rw [h_4]; decide) (by rw [h_4]; decide) (by decide) ?_
      refine lv_iconst (v := (-1)) hx hb dX12_nameMet_108 (by decide) ?_
      exact W.iret (v := (-1)) hx hb hr (fun t ht hW => ⟨(-1), rfl, ⟨(Eq.symm ((by rw [fq_nameMet]; (try rw [if_pos c_1]); (try rw [if_neg h_2]); (try rw [if_neg h_3]); (try rw [if_pos h_4]); try rfl))), (gq_nameMet_s4 ), (gq_nameMet_s5 )⟩, ht⟩) (fun _ h => by cases h) dX12_nameMet_109
    by_cases h_5 : (g 9) = 9
    · refine lv_tableIn (off := 94) (tgt := 108) hx hb dX12_nameMet_14 (by rw [h_5]; decide) (by rw [h_5]; decide) (by rw [h_5]; decide) (by decide) ?_
      refine lv_iconst (v := (-1)) hx hb dX12_nameMet_108 (by decide) ?_
      exact W.iret (v := (-1)) hx hb hr (fun t ht hW => ⟨(-1), rfl, ⟨(Eq.symm ((by rw [fq_nameMet]; (try rw [if_pos c_1]); (try rw [if_neg h_2]); (try rw [if_neg h_3]); (try rw [if_neg h_4]); (try rw [if_pos h_5]); try rfl))), (gq_nameMet_s6 ), (gq_nameMet_s7 )⟩, ht⟩) (fun _ h => by cases h) dX12_nameMet_109
    by_cases h_6 : (g 9) = 10
    · refine lv_tableIn (off := 94) (tgt := 108) hx hb dX12_nameMet_14 (by rw [h_6]; decide) (by rw [h_6]; decide) (by rw [h_6]; decide) (by decide) ?_
      refine lv_iconst (v := (-1)) hx hb dX12_nameMet_108 (by decide) ?_
      exact W.iret (v := (-1)) hx hb hr (fun t ht hW => ⟨(-1), rfl, ⟨(Eq.symm ((by rw [fq_nameMet]; (try rw [if_pos c_1]); (try rw [if_neg h_2]); (try rw [if_neg h_3]); (try rw [if_neg h_4]); (try rw [if_neg h_5]); (try rw [if_pos h_6]); try rfl))), (gq_nameMet_s8 ), (gq_nameMet_s9 )⟩, ht⟩) (fun _ h => by cases h) dX12_nameMet_109
    by_cases h_7 : (g 9) = 11
    · refine lv_tableIn (off := 94) (tgt := 108) hx hb dX12_nameMet_14 (by rw [h_7]; decide) (by rw [h_7]; decide) (by rw [h_7]; decide) (by decide) ?_
      refine lv_iconst (v := (-1)) hx hb dX12_nameMet_108 (by decide) ?_
      exact W.iret (v := (-1)) hx hb hr (fun t ht hW => ⟨(-1), rfl, ⟨(Eq.symm ((by rw [fq_nameMet]; (try rw [if_pos c_1]); (try rw [if_neg h_2]); (try rw [if_neg h_3]); (try rw [if_neg h_4]); (try rw [if_neg h_5]); (try rw [if_neg h_6]); (try rw [if_pos h_7]); try rfl))), (gq_nameMet_s10 ), (gq_nameMet_s11 )⟩, ht⟩) (fun _ h => by cases h) dX12_nameMet_109
    by_cases h_8 : (g 9) = 12
    · refine lv_tableIn (off := 94) (tgt := 108) hx hb dX12_nameMet_14 (by rw [h_8]; decide) (by rw [h_8]; decide) (by rw [h_8]; decide) (by decide) ?_
      refine lv_iconst (v := (-1)) hx hb dX12_nameMet_108 (by decide) ?_
      exact W.iret (v := (-1)) hx hb hr (fun t ht hW => ⟨(-1), rfl, ⟨(Eq.symm ((by rw [fq_nameMet]; (try rw [if_pos c_1]); (try rw [if_neg h_2]); (try rw [if_neg h_3]); (try rw [if_neg h_4]); (try rw [if_neg h_5]); (try rw [if_neg h_6]); (try rw [if_neg h_7]); (try rw [if_pos h_8]); try rfl))), (gq_nameMet_s12 ), (gq_nameMet_s13 )⟩, ht⟩) (fun _ h => by cases h) dX12_nameMet_109
    by_cases h_9 : (g 9) = 13
    · refine lv_tableIn (off := 94) (tgt := 108) hx hb dX12_nameMet_14 (by rw [h_9]; decide) (by rw [h_9]; decide) (by rw [h_9]; decide) (by decide) ?_
      refine lv_iconst (v := (-1)) hx hb dX12_nameMet_108 (by decide) ?_
      exact W.iret (v := (-1)) hx hb hr (fun t ht hW => ⟨(-1), rfl, ⟨(Eq.symm ((by rw [fq_nameMet]; (try rw [if_pos c_1]); (try rw [if_neg h_2]); (try rw [if_neg h_3]); (try rw [if_neg h_4]); (try rw [if_neg h_5]); (try rw [if_neg h_6]); (try rw [if_neg h_7]); (try rw [if_neg h_8]); (try rw [if_pos h_9]); try rfl))), (gq_nameMet_s14 ), (gq_nameMet_s15 )⟩, ht⟩) (fun _ h => by cases h) dX12_nameMet_109
    by_cases h_10 : (g 9) = 14
    · refine lv_tableIn (off := 94) (tgt := 108) hx hb dX12_nameMet_14 (by rw [h_10]; decide) (by rw [h_10]; decide) (by rw [h_10]; decide) (by decide) ?_
      refine lv_iconst (v := (-1)) hx hb dX12_nameMet_108 (by decide) ?_
      exact W.iret (v := (-1)) hx hb hr (fun t ht hW => ⟨(-1), rfl, ⟨(Eq.symm ((by rw [fq_nameMet]; (try rw [if_pos c_1]); (try rw [if_neg h_2]); (try rw [if_neg h_3]); (try rw [if_neg h_4]); (try rw [if_neg h_5]); (try rw [if_neg h_6]); (try rw [if_neg h_7]); (try rw [if_neg h_8]); (try rw [if_neg h_9]); (try rw [if_pos h_10]); try rfl))), (gq_nameMet_s16 ), (gq_nameMet_s17 )⟩, ht⟩) (fun _ h => by cases h) dX12_nameMet_109
    by_cases h_11 : (g 9) = 15
    · refine lv_tableIn (off := 94) (tgt := 108) hx hb dX12_nameMet_14 (by rw [h_11]; decide) (by rw [h_11]; decide) (by rw [h_11]; decide) (by decide) ?_
      refine lv_iconst (v := (-1)) hx hb dX12_nameMet_108 (by decide) ?_
      exact W.iret (v := (-1)) hx hb hr (fun t ht hW => ⟨(-1), rfl, ⟨(Eq.symm ((by rw [fq_nameMet]; (try rw [if_pos c_1]); (try rw [if_neg h_2]); (try rw [if_neg h_3]); (try rw [if_neg h_4]); (try rw [if_neg h_5]); (try rw [if_neg h_6]); (try rw [if_neg h_7]); (try rw [if_neg h_8]); (try rw [if_neg h_9]); (try rw [if_neg h_10]); (try rw [if_pos h_11]); try rfl))), (gq_nameMet_s18 ), (gq_nameMet_s19 )⟩, ht⟩) (fun _ h => by cases h) dX12_nameMet_109
    by_cases h_12 : (g 9) = 16
    · refine lv_tableIn (off := 94) (tgt := 108) hx hb dX12_nameMet_14 (by rw [h_12]; decide) (by rw [h_12]; decide) (by rw [h_12]; decide) (by decide) ?_
      refine lv_iconst (v := (-1)) hx hb dX12_nameMet_108 (by decide) ?_
      exact W.iret (v := (-1)) hx hb hr (fun t ht hW => ⟨(-1), rfl, ⟨(Eq.symm ((by rw [fq_nameMet]; (try rw [if_pos c_1]); (try rw [if_neg h_2]); (try rw [if_neg h_3]); (try rw [if_neg h_4]); (try rw [if_neg h_5]); (try rw [if_neg h_6]); (try rw [if_neg h_7]); (try rw [if_neg h_8]); (try rw [if_neg h_9]); (try rw [if_neg h_10]); (try rw [if_neg h_11]); (try rw [if_pos h_12]); try rfl))), (gq_nameMet_s20 ), (gq_nameMet_s21 )⟩, ht⟩) (fun _ h => by cases h) dX12_nameMet_109
    by_cases h_13 : (g 9) = 17
    · refine lv_tableIn (off := 94) (tgt := 108) hx hb dX12_nameMet_14 (by rw [h_13]; decide) (by rw [h_13]; decide) (by rw [h_13]; decide) (by decide) ?_
      refine lv_iconst (v := (-1)) hx hb dX12_nameMet_108 (by decide) ?_
      exact W.iret (v := (-1)) hx hb hr (fun t ht hW => ⟨(-1), rfl, ⟨(Eq.symm ((by rw [fq_nameMet]; (try rw [if_pos c_1]); (try rw [if_neg h_2]); (try rw [if_neg h_3]); (try rw [if_neg h_4]); (try rw [if_neg h_5]); (try rw [if_neg h_6]); (try rw [if_neg h_7]); (try rw [if_neg h_8]); (try rw [if_neg h_9]); (try rw [if_neg h_10]); (try rw [if_neg h_11]); (try rw [if_neg h_12]); (try rw [if_pos h_13]); try rfl))), (gq_nameMet_s22 ), (gq_nameMet_s23 )⟩, ht⟩) (fun _ h => by cases h) dX12_nameMet_109
    by_cases h_14 : (g 9) = 18
    · refine lv_tableIn (off := 94) (tgt := 108) hx hb dX12_nameMet_14 (by rw [h_14]; decide) (by rw [h_14]; decide) (by rw [h_14]; decide) (by decide) ?_
      refine lv_iconst (v := (-1)) hx hb dX12_nameMet_108 (by decide) ?_
      exact W.iret (v := (-1)) hx hb hr (fun t ht hW => ⟨(-1), rfl, ⟨(Eq.symm ((by rw [fq_nameMet]; (try rw [if_pos c_1]); (try rw [if_neg h_2]); (try rw [if_neg h_3]); (try rw [if_neg h_4]); (try rw [if_neg h_5]); (try rw [if_neg h_6]); (try rw [if_neg h_7]); (try rw [if_neg h_8]); (try rw [if_neg h_9]); (try rw [if_neg h_10]); (try rw [if_neg h_11]); (try rw [if_neg h_12]); (try rw [if_neg h_13]); (try rw [if_pos h_14]); try rfl))), (gq_nameMet_s24 ), (gq_nameMet_s25 )⟩, ht⟩) (fun _ h => by cases h) dX12_nameMet_109
    by_cases h_15 : (g 9) = 19
    · refine lv_tableIn (off := 82) (tgt := 96) hx hb dX12_nameMet_14 (by rw [h_15]; decide) (by rw [h_15]; decide) (by rw [h_15]; decide) (by decide) ?_
      refine lv_iconst (v := 0) hx hb dX12_nameMet_96 (by decide) ?_
      exact W.iret (v := 0) hx hb hr (fun t ht hW => ⟨0, rfl, ⟨(Eq.symm ((by rw [fq_nameMet]; (try rw [if_pos c_1]); (try rw [if_neg h_2]); (try rw [if_neg h_3]); (try rw [if_neg h_4]); (try rw [if_neg h_5]); (try rw [if_neg h_6]); (try rw [if_neg h_7]); (try rw [if_neg h_8]); (try rw [if_neg h_9]); (try rw [if_neg h_10]); (try rw [if_neg h_11]); (try rw [if_neg h_12]); (try rw [if_neg h_13]); (try rw [if_neg h_14]); (try rw [if_pos h_15]); try rfl))), (gq_nameMet_s26 ), (gq_nameMet_s27 )⟩, ht⟩) (fun _ h => by cases h) dX12_nameMet_97
    by_cases h_16 : (g 9) = 20
    · refine lv_tableIn (off := 84) (tgt := 98) hx hb dX12_nameMet_14 (by rw [h_16]; decide) (by rw [h_16]; decide) (by rw [h_16]; decide) (by decide) ?_
      refine lv_iconst (v := 1) hx hb dX12_nameMet_98 (by decide) ?_
      exact W.iret (v := 1) hx hb hr (fun t ht hW => ⟨1, rfl, ⟨(Eq.symm ((by rw [fq_nameMet]; (try rw [if_pos c_1]); (try rw [if_neg h_2]); (try rw [if_neg h_3]); (try rw [if_neg h_4]); (try rw [if_neg h_5]); (try rw [if_neg h_6]); (try rw [if_neg h_7]); (try rw [if_neg h_8]); (try rw [if_neg h_9]); (try rw [if_neg h_10]); (try rw [if_neg h_11]); (try rw [if_neg h_12]); (try rw [if_neg h_13]); (try rw [if_neg h_14]); (try rw [if_neg h_15]); (try rw [if_pos h_16]); try rfl))), (gq_nameMet_s28 ), (gq_nameMet_s29 )⟩, ht⟩) (fun _ h => by cases h) dX12_nameMet_99
    by_cases h_17 : (g 9) = 21
    · refine lv_tableIn (off := 90) (tgt := 104) hx hb dX12_nameMet_14 (by rw [h_17]; decide) (by rw [h_17]; decide) (by rw [h_17]; decide) (by decide) ?_
      refine lv_iconst (v := 4) hx hb dX12_nameMet_104 (by decide) ?_
      exact W.iret (v := 4) hx hb hr (fun t ht hW => ⟨4, rfl, ⟨(Eq.symm ((by rw [fq_nameMet]; (try rw [if_pos c_1]); (try rw [if_neg h_2]); (try rw [if_neg h_3]); (try rw [if_neg h_4]); (try rw [if_neg h_5]); (try rw [if_neg h_6]); (try rw [if_neg h_7]); (try rw [if_neg h_8]); (try rw [if_neg h_9]); (try rw [if_neg h_10]); (try rw [if_neg h_11]); (try rw [if_neg h_12]); (try rw [if_neg h_13]); (try rw [if_neg h_14]); (try rw [if_neg h_15]); (try rw [if_neg h_16]); (try rw [if_pos h_17]); try rfl))), (gq_nameMet_s30 ), (gq_nameMet_s31 )⟩, ht⟩) (fun _ h => by cases h) dX12_nameMet_105
    by_cases h_18 : (g 9) = 22
    · refine lv_tableIn (off := 92) (tgt := 106) hx hb dX12_nameMet_14 (by rw [h_18]; decide) (by rw [h_18]; decide) (by rw [h_18]; decide) (by decide) ?_
      refine lv_iconst (v := 5) hx hb dX12_nameMet_106 (by decide) ?_
      exact W.iret (v := 5) hx hb hr (fun t ht hW => ⟨5, rfl, ⟨(Eq.symm ((by rw [fq_nameMet]; (try rw [if_pos c_1]); (try rw [if_neg h_2]); (try rw [if_neg h_3]); (try rw [if_neg h_4]); (try rw [if_neg h_5]); (try rw [if_neg h_6]); (try rw [if_neg h_7]); (try rw [if_neg h_8]); (try rw [if_neg h_9]); (try rw [if_neg h_10]); (try rw [if_neg h_11]); (try rw [if_neg h_12]); (try rw [if_neg h_13]); (try rw [if_neg h_14]); (try rw [if_neg h_15]); (try rw [if_neg h_16]); (try rw [if_neg h_17]); (try rw [if_pos h_18]); try rfl))), (gq_nameMet_s32 ), (gq_nameMet_s33 )⟩, ht⟩) (fun _ h => by cases h) dX12_nameMet_107
    refine lv_tableOut (tgt := 108) hx hb dX12_nameMet_14 (by have a0 := xg_ne h_2; have a1 := xg_ne h_3; have a2 := xg_ne h_4; have a3 := xg_ne h_5; have a4 := xg_ne h_6; have a5 := xg_ne h_7; have a6 := xg_ne h_8; have a7 := xg_ne h_9; have a8 := xg_ne h_10; have a9 := xg_ne h_11; have a10 := xg_ne h_12; have a11 := xg_ne h_13; have a12 := xg_ne h_14; have a13 := xg_ne h_15; have a14 := xg_ne h_16; have a15 := xg_ne h_17; have a16 := xg_ne h_18; have b0 : (6 : Int32).toInt = 6 := rfl; have b1 : (7 : Int32).toInt = 7 := rfl; have b2 : (8 : Int32).toInt = 8 := rfl; have b3 : (9 : Int32).toInt = 9 := rfl; have b4 : (10 : Int32).toInt = 10 := rfl; have b5 : (11 : Int32).toInt = 11 := rfl; have b6 : (12 : Int32).toInt = 12 := rfl; have b7 : (13 : Int32).toInt = 13 := rfl; have b8 : (14 : Int32).toInt = 14 := rfl; have b9 : (15 : Int32).toInt = 15 := rfl; have b10 : (16 : Int32).toInt = 16 := rfl; have b11 : (17 : Int32).toInt = 17 := rfl; have b12 : (18 : Int32).toInt = 18 := rfl; have b13 : (19 : Int32).toInt = 19 := rfl; have b14 : (20 : Int32).toInt = 20 := rfl; have b15 : (21 : Int32).toInt = 21 := rfl; have b16 : (22 : Int32).toInt = 22 := rfl; omega) (by decide) ?_
    refine lv_iconst (v := (-1)) hx hb dX12_nameMet_108 (by decide) ?_
    exact W.iret (v := (-1)) hx hb hr (fun t ht hW => ⟨(-1), rfl, ⟨(Eq.symm ((by rw [fq_nameMet]; (try rw [if_pos c_1]); (try rw [if_neg h_2]); (try rw [if_neg h_3]); (try rw [if_neg h_4]); (try rw [if_neg h_5]); (try rw [if_neg h_6]); (try rw [if_neg h_7]); (try rw [if_neg h_8]); (try rw [if_neg h_9]); (try rw [if_neg h_10]); (try rw [if_neg h_11]); (try rw [if_neg h_12]); (try rw [if_neg h_13]); (try rw [if_neg h_14]); (try rw [if_neg h_15]); (try rw [if_neg h_16]); (try rw [if_neg h_17]); (try rw [if_neg h_18]); try rfl))), (gq_nameMet_s34 ), (gq_nameMet_s35 )⟩, ht⟩) (fun _ h => by cases h) dX12_nameMet_109
  · refine lv_iconst (v := (-1)) hx hb dX12_nameMet_8 (by decide) ?_
    exact W.iret (v := (-1)) hx hb hr (fun t ht hW => ⟨(-1), rfl, ⟨(Eq.symm ((by rw [fq_nameMet]; (try rw [if_neg c_1]); try rfl))), (gq_nameMet_s36 ), (gq_nameMet_s37 )⟩, ht⟩) (fun _ h => by cases h) dX12_nameMet_9

def fq_noteWord (m_kind : Int32) (m_which : Int32) : Int32 := (if m_kind = 1 then (if m_which = 1 then (6 : Int32) else (if m_which = 2 then (-1 : Int32) else (if m_which = 3 then (-1 : Int32) else (if m_which = 4 then (-1 : Int32) else (if m_which = 5 then (-1 : Int32) else (if m_which = 6 then (2 : Int32) else (if m_which = 7 then (3 : Int32) else (if m_which = 8 then (-1 : Int32) else (if m_which = 9 then (-1 : Int32) else (if m_which = 10 then (-1 : Int32) else (if m_which = 11 then (-1 : Int32) else (if m_which = 12 then (-1 : Int32) else (if m_which = 13 then (-1 : Int32) else (if m_which = 14 then (5 : Int32) else (if m_which = 15 then (7 : Int32) else (if m_which = 16 then (-1 : Int32) else (if m_which = 17 then (-1 : Int32) else (if m_which = 18 then (-1 : Int32) else (if m_which = 19 then (1 : Int32) else (if m_which = 20 then (0 : Int32) else (if m_which = 21 then (4 : Int32) else (-1 : Int32)))))))))))))))))))))) else (-1 : Int32))
theorem gq_noteWord_s0  : (6 : Int32) < 8 := (by decide)
theorem gq_noteWord_s1  : ¬ ((6 : Int32) < (-1)) := (by decide)
theorem gq_noteWord_s2  : (-1 : Int32) < 8 := (by decide)
theorem gq_noteWord_s3  : ¬ ((-1 : Int32) < (-1)) := (by decide)
theorem gq_noteWord_s4  : (-1 : Int32) < 8 := (by decide)
theorem gq_noteWord_s5  : ¬ ((-1 : Int32) < (-1)) := (by decide)
theorem gq_noteWord_s6  : (-1 : Int32) < 8 := (by decide)
theorem gq_noteWord_s7  : ¬ ((-1 : Int32) < (-1)) := (by decide)
theorem gq_noteWord_s8  : (-1 : Int32) < 8 := (by decide)
theorem gq_noteWord_s9  : ¬ ((-1 : Int32) < (-1)) := (by decide)
theorem gq_noteWord_s10  : (2 : Int32) < 8 := (by decide)
theorem gq_noteWord_s11  : ¬ ((2 : Int32) < (-1)) := (by decide)
theorem gq_noteWord_s12  : (3 : Int32) < 8 := (by decide)
theorem gq_noteWord_s13  : ¬ ((3 : Int32) < (-1)) := (by decide)
theorem gq_noteWord_s14  : (-1 : Int32) < 8 := (by decide)
theorem gq_noteWord_s15  : ¬ ((-1 : Int32) < (-1)) := (by decide)
theorem gq_noteWord_s16  : (-1 : Int32) < 8 := (by decide)
theorem gq_noteWord_s17  : ¬ ((-1 : Int32) < (-1)) := (by decide)
theorem gq_noteWord_s18  : (-1 : Int32) < 8 := (by decide)
theorem gq_noteWord_s19  : ¬ ((-1 : Int32) < (-1)) := (by decide)
theorem gq_noteWord_s20  : (-1 : Int32) < 8 := (by decide)
theorem gq_noteWord_s21  : ¬ ((-1 : Int32) < (-1)) := (by decide)
theorem gq_noteWord_s22  : (-1 : Int32) < 8 := (by decide)
theorem gq_noteWord_s23  : ¬ ((-1 : Int32) < (-1)) := (by decide)
theorem gq_noteWord_s24  : (-1 : Int32) < 8 := (by decide)
theorem gq_noteWord_s25  : ¬ ((-1 : Int32) < (-1)) := (by decide)
theorem gq_noteWord_s26  : (5 : Int32) < 8 := (by decide)
theorem gq_noteWord_s27  : ¬ ((5 : Int32) < (-1)) := (by decide)
theorem gq_noteWord_s28  : (7 : Int32) < 8 := (by decide)
theorem gq_noteWord_s29  : ¬ ((7 : Int32) < (-1)) := (by decide)
theorem gq_noteWord_s30  : (-1 : Int32) < 8 := (by decide)
theorem gq_noteWord_s31  : ¬ ((-1 : Int32) < (-1)) := (by decide)
theorem gq_noteWord_s32  : (-1 : Int32) < 8 := (by decide)
theorem gq_noteWord_s33  : ¬ ((-1 : Int32) < (-1)) := (by decide)
theorem gq_noteWord_s34  : (-1 : Int32) < 8 := (by decide)
theorem gq_noteWord_s35  : ¬ ((-1 : Int32) < (-1)) := (by decide)
theorem gq_noteWord_s36  : (1 : Int32) < 8 := (by decide)
theorem gq_noteWord_s37  : ¬ ((1 : Int32) < (-1)) := (by decide)
theorem gq_noteWord_s38  : (0 : Int32) < 8 := (by decide)
theorem gq_noteWord_s39  : ¬ ((0 : Int32) < (-1)) := (by decide)
theorem gq_noteWord_s40  : (4 : Int32) < 8 := (by decide)
theorem gq_noteWord_s41  : ¬ ((4 : Int32) < (-1)) := (by decide)
theorem gq_noteWord_s42  : (-1 : Int32) < 8 := (by decide)
theorem gq_noteWord_s43  : ¬ ((-1 : Int32) < (-1)) := (by decide)
theorem gq_noteWord_s44  : (-1 : Int32) < 8 := (by decide)
theorem gq_noteWord_s45  : ¬ ((-1 : Int32) < (-1)) := (by decide)
theorem dX12_noteWord_0 : decode cX12_noteWord 0 = .ok (.aload_n 0, 1) := zk_42 (by decide +kernel)
theorem dX12_noteWord_1 : decode cX12_noteWord 1 = .ok (.getfield 139, 3) := zk_180 (by decide +kernel)
theorem dX12_noteWord_4 : decode cX12_noteWord 4 = .ok (.iconst 1, 1) := zk_4 (by decide +kernel)
theorem dX12_noteWord_5 : decode cX12_noteWord 5 = .ok (.if_icmp .eq 5, 3) := zk_159 (by decide +kernel)
theorem dX12_noteWord_10 : decode cX12_noteWord 10 = .ok (.aload_n 0, 1) := zk_42 (by decide +kernel)
theorem dX12_noteWord_11 : decode cX12_noteWord 11 = .ok (.getfield 150, 3) := zk_180 (by decide +kernel)
theorem dX12_noteWord_14 : decode cX12_noteWord 14 = .ok (.tableswitch 116 1 21 #[110, 116, 116, 116, 116, 102, 104, 116, 116, 116, 116, 116, 116, 108, 113, 116, 116, 116, 100, 98, 106], 98) := by decide +kernel
theorem dX12_noteWord_124 : decode cX12_noteWord 124 = .ok (.bipush 6, 2) := zk_16 (by decide +kernel)
theorem dX12_noteWord_126 : decode cX12_noteWord 126 = .ok (.ireturn, 1) := zk_172 (by decide +kernel)
theorem dX12_noteWord_130 : decode cX12_noteWord 130 = .ok (.iconst (-1), 1) := zk_2 (by decide +kernel)
theorem dX12_noteWord_131 : decode cX12_noteWord 131 = .ok (.ireturn, 1) := zk_172 (by decide +kernel)
theorem dX12_noteWord_116 : decode cX12_noteWord 116 = .ok (.iconst 2, 1) := zk_5 (by decide +kernel)
theorem dX12_noteWord_117 : decode cX12_noteWord 117 = .ok (.ireturn, 1) := zk_172 (by decide +kernel)
theorem dX12_noteWord_118 : decode cX12_noteWord 118 = .ok (.iconst 3, 1) := zk_6 (by decide +kernel)
theorem dX12_noteWord_119 : decode cX12_noteWord 119 = .ok (.ireturn, 1) := zk_172 (by decide +kernel)
theorem dX12_noteWord_122 : decode cX12_noteWord 122 = .ok (.iconst 5, 1) := zk_8 (by decide +kernel)
theorem dX12_noteWord_123 : decode cX12_noteWord 123 = .ok (.ireturn, 1) := zk_172 (by decide +kernel)
theorem dX12_noteWord_127 : decode cX12_noteWord 127 = .ok (.bipush 7, 2) := zk_16 (by decide +kernel)
theorem dX12_noteWord_129 : decode cX12_noteWord 129 = .ok (.ireturn, 1) := zk_172 (by decide +kernel)
theorem dX12_noteWord_114 : decode cX12_noteWord 114 = .ok (.iconst 1, 1) := zk_4 (by decide +kernel)
theorem dX12_noteWord_115 : decode cX12_noteWord 115 = .ok (.ireturn, 1) := zk_172 (by decide +kernel)
theorem dX12_noteWord_112 : decode cX12_noteWord 112 = .ok (.iconst 0, 1) := zk_3 (by decide +kernel)
theorem dX12_noteWord_113 : decode cX12_noteWord 113 = .ok (.ireturn, 1) := zk_172 (by decide +kernel)
theorem dX12_noteWord_120 : decode cX12_noteWord 120 = .ok (.iconst 4, 1) := zk_7 (by decide +kernel)
theorem dX12_noteWord_121 : decode cX12_noteWord 121 = .ok (.ireturn, 1) := zk_172 (by decide +kernel)
theorem dX12_noteWord_8 : decode cX12_noteWord 8 = .ok (.iconst (-1), 1) := zk_2 (by decide +kernel)
theorem dX12_noteWord_9 : decode cX12_noteWord 9 = .ok (.ireturn, 1) := zk_172 (by decide +kernel)
set_option maxHeartbeats 4000000 in
set_option maxRecDepth 100000 in
theorem gq_noteWord (l : Launch) (dC : Nat → ClassId) (dI : Nat → Nat → Nat) (mq : Nat) (g : Nat → Int32) (gl : Nat → Int64) (rf : Nat → Nat) : Met l yX12_noteWord (Cond.code yX12_noteWord cX12_noteWord 1 (some .int) :: wsL_law) ({ frames := 0, cells := 0, slots := 0, locals := 0 }) (va_Pc [.ref mq] (fun U => va_P (dC, dI) vwCl [(mq, .inr (12, mF g gl rf))] U.heap ∧ va_K (dC, dI) vwCl [] U)) (vp_Si (fun r => (r = fq_noteWord (g 8) (g 9)) ∧ (r < 8) ∧ (¬ r < (-1)))) 0 0 (fun _ => False) := by
  refine Met.ofW (cc := cX12_noteWord) (maxL := 1) (ret := (some .int)) (by decide) rfl ?_
  intro p e s m args below meth c s₁ B hml hv
  obtain ⟨rfl, hP, hK⟩ := hv
  have hx := B.exec
  have hb := B.bytes
  have hr := B.returns
  have hts := atoms_spec (ws := Cond.code yX12_noteWord cX12_noteWord 1 (some .int) :: wsL_law) B.pre
  have htw : ∀ w ∈ wsL_law, w.before _ s = true := fun w h => hts w (List.mem_cons_of_mem _ h)
  have hown : s.vm.findClass RX12 = some m.cls := findClass_of_methodNamed B.named
  have hlocks := B.notSynchronized
  have hl := lv_entry ([.ref mq]) (n := 1) (Nat.le_of_ble_eq_true rfl)
  rw [lg_entry_eq]
  generalize (lg_sl ([.ref mq]) ++ List.replicate (1 - (lg_sl ([.ref mq])).length) Slot.unset).toArray = ls at hl ⊢
  have hl : lv_has ls 1 [(0, .ref mq)] := hl
  refine lv_aload_n hx hb dX12_noteWord_0 rfl (lv_at hl 0 rfl) ?_
  refine va_get (D := (dC, dI)) (ci := 12) (v := .int (g 8)) (C := RX12) (T := TX12) (N := 76) hx hb htw inlX12 hown hK hP 0 rfl rfl 8 (by decide) (htw _ (ck_24 _ (List.mem_of_getElem? (i := 13) rfl))) (fun _ h9 => h9) rfl dX12_noteWord_1 ?_
  refine lv_iconst (v := 1) hx hb dX12_noteWord_4 (by decide) ?_
  refine lv_icmp_eq (tgt := 10) hx hb dX12_noteWord_5 (by decide) (fun c_1 => ?_) (fun c_1 => ?_)
  · refine lv_aload_n hx hb dX12_noteWord_10 rfl (lv_at hl 0 rfl) ?_
    refine va_get (D := (dC, dI)) (ci := 12) (v := .int (g 9)) (C := RX12) (T := TX12) (N := 76) hx hb htw inlX12 hown hK hP 0 rfl rfl 9 (by decide) (htw _ (ck_24 _ (List.mem_of_getElem? (i := 19) rfl))) (fun _ h9 => h9) rfl dX12_noteWord_11 ?_
    by_cases h_2 : (g 9) = 1
    · refine lv_tableIn (off := 110) (tgt := 124) hx hb dX12_noteWord_14 (by rw [h_2]; decide) (by rw [h_2]; decide) (by rw [h_2]; decide) (by decide) ?_
      refine lv_bipush (v := 6) hx hb dX12_noteWord_124 (by decide) ?_
      exact W.iret (v := 6) hx hb hr (fun t ht hW => ⟨6, rfl, ⟨(Eq.symm ((by rw [fq_noteWord]; (try rw [if_pos c_1]); (try rw [if_pos h_2]); try rfl))), (gq_noteWord_s0 ), (gq_noteWord_s1 )⟩, ht⟩) (fun _ h => by cases h) dX12_noteWord_126
    by_cases h_3 : (g 9) = 2
    · refine lv_tableIn (off := 116) (tgt := 130) hx hb dX12_noteWord_14 (by rw [h_3]; decide) (by rw [h_3]; decide) (by rw [h_3]; decide) (by decide) ?_
      refine lv_iconst (v := (-1)) hx hb dX12_noteWord_130 (by decide) ?_
      exact W.iret (v := (-1)) hx hb hr (fun t ht hW => ⟨(-1), rfl, ⟨(Eq.symm ((by rw [fq_noteWord]; (try rw [if_pos c_1]); (try rw [if_neg h_2]); (try rw [if_pos h_3]); try rfl))), (gq_noteWord_s2 ), (gq_noteWord_s3 )⟩, ht⟩) (fun _ h => by cases h) dX12_noteWord_131
    by_cases h_4 : (g 9) = 3
    · refine lv_tableIn (off := 116) (tgt := 130) hx hb dX12_noteWord_14 (by rw [h_4]; decide) (by rw [h_4]; decide) (by rw [h_4]; decide) (by decide) ?_
      refine lv_iconst (v := (-1)) hx hb dX12_noteWord_130 (by decide) ?_
      exact W.iret (v := (-1)) hx hb hr (fun t ht hW => ⟨(-1), rfl, ⟨(Eq.symm ((by rw [fq_noteWord]; (try rw [if_pos c_1]); (try rw [if_neg h_2]); (try rw [if_neg h_3]); (try rw [if_pos h_4]); try rfl))), (gq_noteWord_s4 ), (gq_noteWord_s5 )⟩, ht⟩) (fun _ h => by cases h) dX12_noteWord_131
    by_cases h_5 : (g 9) = 4
    · refine lv_tableIn (off := 116) (tgt := 130) hx hb dX12_noteWord_14 (by rw [h_5]; decide) (by rw [h_5]; decide) (by rw [h_5]; decide) (by decide) ?_
      refine lv_iconst (v := (-1)) hx hb dX12_noteWord_130 (by decide) ?_
      exact W.iret (v := (-1)) hx hb hr (fun t ht hW => ⟨(-1), rfl, ⟨(Eq.symm ((by rw [fq_noteWord]; (try rw [if_pos c_1]); (try rw [if_neg h_2]); (try rw [if_neg h_3]); (try rw [if_neg h_4]); (try rw [if_pos h_5]); try rfl))), (gq_noteWord_s6 ), (gq_noteWord_s7 )⟩, ht⟩) (fun _ h => by cases h) dX12_noteWord_131
    by_cases h_6 : (g 9) = 5
    · refine lv_tableIn (off := 116) (tgt := 130) hx hb dX12_noteWord_14 (by rw [h_6]; decide) (by rw [h_6]; decide) (by rw [h_6]; decide) (by decide) ?_
      refine lv_iconst (v := (-1)) hx hb dX12_noteWord_130 (by decide) ?_
      exact W.iret (v := (-1)) hx hb hr (fun t ht hW => ⟨(-1), rfl, ⟨(Eq.symm ((by rw [fq_noteWord]; (try rw [if_pos c_1]); (try rw [if_neg h_2]); (try rw [if_neg h_3]); (try rw [if_neg h_4]); (try rw [if_neg h_5]); (try rw [if_pos h_6]); try rfl))), (gq_noteWord_s8 ), (gq_noteWord_s9 )⟩, ht⟩) (fun _ h => by cases h) dX12_noteWord_131
    by_cases h_7 : (g 9) = 6
    · refine lv_tableIn (off := 102) (tgt := 116) hx hb dX12_noteWord_14 (by rw [h_7]; decide) (by rw [h_7]; decide) (by rw [h_7]; decide) (by decide) ?_
      refine lv_iconst (v := 2) hx hb dX12_noteWord_116 (by decide) ?_
      exact W.iret (v := 2) hx hb hr (fun t ht hW => ⟨2, rfl, ⟨(Eq.symm ((by rw [fq_noteWord]; (try rw [if_pos c_1]); (try rw [if_neg h_2]); (try rw [if_neg h_3]); (try rw [if_neg h_4]); (try rw [if_neg h_5]); (try rw [if_neg h_6]); (try rw [if_pos h_7]); try rfl))), (gq_noteWord_s10 ), (gq_noteWord_s11 )⟩, ht⟩) (fun _ h => by cases h) dX12_noteWord_117
    by_cases h_8 : (g 9) = 7
    · refine lv_tableIn (off := 104) (tgt := 118) hx hb dX12_noteWord_14 (by rw [h_8]; decide) (by rw [h_8]; decide) (by rw [h_8]; decide) (by decide) ?_
      refine lv_iconst (v := 3) hx hb dX12_noteWord_118 (by decide) ?_
      exact W.iret (v := 3) hx hb hr (fun t ht hW => ⟨3, rfl, ⟨(Eq.symm ((by rw [fq_noteWord]; (try rw [if_pos c_1]); (try rw [if_neg h_2]); (try rw [if_neg h_3]); (try rw [if_neg h_4]); (try rw [if_neg h_5]); (try rw [if_neg h_6]); (try rw [if_neg h_7]); (try rw [if_pos h_8]); try rfl))), (gq_noteWord_s12 ), (gq_noteWord_s13 )⟩, ht⟩) (fun _ h => by cases h) dX12_noteWord_119
    by_cases h_9 : (g 9) = 8
    · refine lv_tableIn (off := 116) (tgt := 130) hx hb dX12_noteWord_14 (by rw [h_9]; decide) (by rw [h_9]; decide) (by rw [h_9]; decide) (by decide) ?_
      refine lv_iconst (v := (-1)) hx hb dX12_noteWord_130 (by decide) ?_
      exact W.iret (v := (-1)) hx hb hr (fun t ht hW => ⟨(-1), rfl, ⟨(Eq.symm ((by rw [fq_noteWord]; (try rw [if_pos c_1]); (try rw [if_neg h_2]); (try rw [if_neg h_3]); (try rw [if_neg h_4]); (try rw [if_neg h_5]); (try rw [if_neg h_6]); (try rw [if_neg h_7]); (try rw [if_neg h_8]); (try rw [if_pos h_9]); try rfl))), (gq_noteWord_s14 ), (gq_noteWord_s15 )⟩, ht⟩) (fun _ h => by cases h) dX12_noteWord_131
    by_cases h_10 : (g 9) = 9
    · refine lv_tableIn (off := 116) (tgt := 130) hx hb dX12_noteWord_14 (by rw [h_10]; decide) (by rw [h_10]; decide) (by rw [h_10]; decide) (by decide) ?_
      refine lv_iconst (v := (-1)) hx hb dX12_noteWord_130 (by decide) ?_
      exact W.iret (v := (-1)) hx hb hr (fun t ht hW => ⟨(-1), rfl, ⟨(Eq.symm ((by rw [fq_noteWord]; (try rw [if_pos c_1]); (try rw [if_neg h_2]); (try rw [if_neg h_3]); (try rw [if_neg h_4]); (try rw [if_neg h_5]); (try rw [if_neg h_6]); (try rw [if_neg h_7]); (try rw [if_neg h_8]); (try rw [if_neg h_9]); (try rw [if_pos h_10]); try rfl))), (gq_noteWord_s16 ), (gq_noteWord_s17 )⟩, ht⟩) (fun _ h => by cases h) dX12_noteWord_131
    by_cases h_11 : (g 9) = 10
    · refine lv_tableIn (off := 116) (tgt := 130) hx hb dX12_noteWord_14 (by rw [h_11]; decide) (by rw [h_11]; decide) (by rw [h_11]; decide) (by decide) ?_
      refine lv_iconst (v := (-1)) hx hb dX12_noteWord_130 (by decide) ?_
      exact W.iret (v := (-1)) hx hb hr (fun t ht hW => ⟨(-1), rfl, ⟨(Eq.symm ((by rw [fq_noteWord]; (try rw [if_pos c_1]); (try rw [if_neg h_2]); (try rw [if_neg h_3]); (try rw [if_neg h_4]); (try rw [if_neg h_5]); (try rw [if_neg h_6]); (try rw [if_neg h_7]); (try rw [if_neg h_8]); (try rw [if_neg h_9]); (try rw [if_neg h_10]); (try rw [if_pos h_11]); try rfl))), (gq_noteWord_s18 ), (gq_noteWord_s19 )⟩, ht⟩) (fun _ h => by cases h) dX12_noteWord_131
    by_cases h_12 : (g 9) = 11
    · refine lv_tableIn (off := 116) (tgt := 130) hx hb dX12_noteWord_14 (by rw [h_12]; decide) (by rw [h_12]; decide) (by rw [h_12]; decide) (by decide) ?_
      refine lv_iconst (v := (-1)) hx hb dX12_noteWord_130 (by decide) ?_
      exact W.iret (v := (-1)) hx hb hr (fun t ht hW => ⟨(-1), rfl, ⟨(Eq.symm ((by rw [fq_noteWord]; (try rw [if_pos c_1]); (try rw [if_neg h_2]); (try rw [if_neg h_3]); (try rw [if_neg h_4]); (try rw [if_neg h_5]); (try rw [if_neg h_6]); (try rw [if_neg h_7]); (try rw [if_neg h_8]); (try rw [if_neg h_9]); (try rw [if_neg h_10]); (try rw [if_neg h_11]); (try rw [if_pos h_12]); try rfl))), (gq_noteWord_s20 ), (gq_noteWord_s21 )⟩, ht⟩) (fun _ h => by cases h) dX12_noteWord_131
    by_cases h_13 : (g 9) = 12
    · refine lv_tableIn (off := 116) (tgt := 130) hx hb dX12_noteWord_14 (by rw [h_13]; decide) (by rw [h_13]; decide) (by rw [h_13]; decide) (by decide) ?_
      refine lv_iconst (v := (-1)) hx hb dX12_noteWord_130 (by decide) ?_
      exact W.iret (v := (-1)) hx hb hr (fun t ht hW => ⟨(-1), rfl, ⟨(Eq.symm ((by rw [fq_noteWord]; (try rw [if_pos c_1]); (try rw [if_neg h_2]); (try rw [if_neg h_3]); (try rw [if_neg h_4]); (try rw [if_neg h_5]); (try rw [if_neg h_6]); (try rw [if_neg h_7]); (try rw [if_neg h_8]); (try rw [if_neg h_9]); (try rw [if_neg h_10]); (try rw [if_neg h_11]); (try rw [if_neg h_12]); (try rw [if_pos h_13]); try rfl))), (gq_noteWord_s22 ), (gq_noteWord_s23 )⟩, ht⟩) (fun _ h => by cases h) dX12_noteWord_131
    by_cases h_14 : (g 9) = 13
    · refine lv_tableIn (off := 116) (tgt := 130) hx hb dX12_noteWord_14 (by rw [h_14]; decide) (by rw [h_14]; decide) (by rw [h_14]; decide) (by decide) ?_
      refine lv_iconst (v := (-1)) hx hb dX12_noteWord_130 (by decide) ?_
      exact W.iret (v := (-1)) hx hb hr (fun t ht hW => ⟨(-1), rfl, ⟨(Eq.symm ((by rw [fq_noteWord]; (try rw [if_pos c_1]); (try rw [if_neg h_2]); (try rw [if_neg h_3]); (try rw [if_neg h_4]); (try rw [if_neg h_5]); (try rw [if_neg h_6]); (try rw [if_neg h_7]); (try rw [if_neg h_8]); (try rw [if_neg h_9]); (try rw [if_neg h_10]); (try rw [if_neg h_11]); (try rw [if_neg h_12]); (try rw [if_neg h_13]); (try rw [if_pos h_14]); try rfl))), (gq_noteWord_s24 ), (gq_noteWord_s25 )⟩, ht⟩) (fun _ h => by cases h) dX12_noteWord_131
    by_cases h_15 : (g 9) = 14
    · refine lv_tableIn (off := 108) (tgt := 122) hx hb dX12_noteWord_14 (by rw [h_15]; decide) (by rw [h_15]; decide) (by rw [h_15]; decide) (by decide) ?_
      refine lv_iconst (v := 5) hx hb dX12_noteWord_122 (by decide) ?_
      exact W.iret (v := 5) hx hb hr (fun t ht hW => ⟨5, rfl, ⟨(Eq.symm ((by rw [fq_noteWord]; (try rw [if_pos c_1]); (try rw [if_neg h_2]); (try rw [if_neg h_3]); (try rw [if_neg h_4]); (try rw [if_neg h_5]); (try rw [if_neg h_6]); (try rw [if_neg h_7]); (try rw [if_neg h_8]); (try rw [if_neg h_9]); (try rw [if_neg h_10]); (try rw [if_neg h_11]); (try rw [if_neg h_12]); (try rw [if_neg h_13]); (try rw [if_neg h_14]); (try rw [if_pos h_15]); try rfl))), (gq_noteWord_s26 ), (gq_noteWord_s27 )⟩, ht⟩) (fun _ h => by cases h) dX12_noteWord_123
    by_cases h_16 : (g 9) = 15
    · refine lv_tableIn (off := 113) (tgt := 127) hx hb dX12_noteWord_14 (by rw [h_16]; decide) (by rw [h_16]; decide) (by rw [h_16]; decide) (by decide) ?_
      refine lv_bipush (v := 7) hx hb dX12_noteWord_127 (by decide) ?_
      exact W.iret (v := 7) hx hb hr (fun t ht hW => ⟨7, rfl, ⟨(Eq.symm ((by rw [fq_noteWord]; (try rw [if_pos c_1]); (try rw [if_neg h_2]); (try rw [if_neg h_3]); (try rw [if_neg h_4]); (try rw [if_neg h_5]); (try rw [if_neg h_6]); (try rw [if_neg h_7]); (try rw [if_neg h_8]); (try rw [if_neg h_9]); (try rw [if_neg h_10]); (try rw [if_neg h_11]); (try rw [if_neg h_12]); (try rw [if_neg h_13]); (try rw [if_neg h_14]); (try rw [if_neg h_15]); (try rw [if_pos h_16]); try rfl))), (gq_noteWord_s28 ), (gq_noteWord_s29 )⟩, ht⟩) (fun _ h => by cases h) dX12_noteWord_129
    by_cases h_17 : (g 9) = 16
    · refine lv_tableIn (off := 116) (tgt := 130) hx hb dX12_noteWord_14 (by rw [h_17]; decide) (by rw [h_17]; decide) (by rw [h_17]; decide) (by decide) ?_
      refine lv_iconst (v := (-1)) hx hb dX12_noteWord_130 (by decide) ?_
      exact W.iret (v := (-1)) hx hb hr (fun t ht hW => ⟨(-1), rfl, ⟨(Eq.symm ((by rw [fq_noteWord]; (try rw [if_pos c_1]); (try rw [if_neg h_2]); (try rw [if_neg h_3]); (try rw [if_neg h_4]); (try rw [if_neg h_5]); (try rw [if_neg h_6]); (try rw [if_neg h_7]); (try rw [if_neg h_8]); (try rw [if_neg h_9]); (try rw [if_neg h_10]); (try rw [if_neg h_11]); (try rw [if_neg h_12]); (try rw [if_neg h_13]); (try rw [if_neg h_14]); (try rw [if_neg h_15]); (try rw [if_neg h_16]); (try rw [if_pos h_17]); try rfl))), (gq_noteWord_s30 ), (gq_noteWord_s31 )⟩, ht⟩) (fun _ h => by cases h) dX12_noteWord_131
    by_cases h_18 : (g 9) = 17
    · refine lv_tableIn (off := 116) (tgt := 130) hx hb dX12_noteWord_14 (by rw [h_18]; decide) (by rw [h_18]; decide) (by rw [h_18]; decide) (by decide) ?_
      refine lv_iconst (v := (-1)) hx hb dX12_noteWord_130 (by decide) ?_
      exact W.iret (v := (-1)) hx hb hr (fun t ht hW => ⟨(-1), rfl, ⟨(Eq.symm ((by rw [fq_noteWord]; (try rw [if_pos c_1]); (try rw [if_neg h_2]); (try rw [if_neg h_3]); (try rw [if_neg h_4]); (try rw [if_neg h_5]); (try rw [if_neg h_6]); (try rw [if_neg h_7]); (try rw [if_neg h_8]); (try rw [if_neg h_9]); (try rw [if_neg h_10]); (try rw [if_neg h_11]); (try rw [if_neg h_12]); (try rw [if_neg h_13]); (try rw [if_neg h_14]); (try rw [if_neg h_15]); (try rw [if_neg h_16]); (try rw [if_neg h_17]); (try rw [if_pos h_18]); try rfl))), (gq_noteWord_s32 ), (gq_noteWord_s33 )⟩, ht⟩) (fun _ h => by cases h) dX12_noteWord_131
    by_cases h_19 : (g 9) = 18
    · refine lv_tableIn (off := 116) (tgt := 130) hx hb dX12_noteWord_14 (by rw [h_19]; decide) (by rw [h_19]; decide) (by rw [h_19]; decide) (by decide) ?_
      refine lv_iconst (v := (-1)) hx hb dX12_noteWord_130 (by decide) ?_
      exact W.iret (v := (-1)) hx hb hr (fun t ht hW => ⟨(-1), rfl, ⟨(Eq.symm ((by rw [fq_noteWord]; (try rw [if_pos c_1]); (try rw [if_neg h_2]); (try rw [if_neg h_3]); (try rw [if_neg h_4]); (try rw [if_neg h_5]); (try rw [if_neg h_6]); (try rw [if_neg h_7]); (try rw [if_neg h_8]); (try rw [if_neg h_9]); (try rw [if_neg h_10]); (try rw [if_neg h_11]); (try rw [if_neg h_12]); (try rw [if_neg h_13]); (try rw [if_neg h_14]); (try rw [if_neg h_15]); (try rw [if_neg h_16]); (try rw [if_neg h_17]); (try rw [if_neg h_18]); (try rw [if_pos h_19]); try rfl))), (gq_noteWord_s34 ), (gq_noteWord_s35 )⟩, ht⟩) (fun _ h => by cases h) dX12_noteWord_131
    by_cases h_20 : (g 9) = 19
    · refine lv_tableIn (off := 100) (tgt := 114) hx hb dX12_noteWord_14 (by rw [h_20]; decide) (by rw [h_20]; decide) (by rw [h_20]; decide) (by decide) ?_
      refine lv_iconst (v := 1) hx hb dX12_noteWord_114 (by decide) ?_
      exact W.iret (v := 1) hx hb hr (fun t ht hW => ⟨1, rfl, ⟨(Eq.symm ((by rw [fq_noteWord]; (try rw [if_pos c_1]); (try rw [if_neg h_2]); (try rw [if_neg h_3]); (try rw [if_neg h_4]); (try rw [if_neg h_5]); (try rw [if_neg h_6]); (try rw [if_neg h_7]); (try rw [if_neg h_8]); (try rw [if_neg h_9]); (try rw [if_neg h_10]); (try rw [if_neg h_11]); (try rw [if_neg h_12]); (try rw [if_neg h_13]); (try rw [if_neg h_14]); (try rw [if_neg h_15]); (try rw [if_neg h_16]); (try rw [if_neg h_17]); (try rw [if_neg h_18]); (try rw [if_neg h_19]); (try rw [if_pos h_20]); try rfl))), (gq_noteWord_s36 ), (gq_noteWord_s37 )⟩, ht⟩) (fun _ h => by cases h) dX12_noteWord_115
    by_cases h_21 : (g 9) = 20
    · refine lv_tableIn (off := 98) (tgt := 112) hx hb dX12_noteWord_14 (by rw [h_21]; decide) (by rw [h_21]; decide) (by rw [h_21]; decide) (by decide) ?_
      refine lv_iconst (v := 0) hx hb dX12_noteWord_112 (by decide) ?_
      exact W.iret (v := 0) hx hb hr (fun t ht hW => ⟨0, rfl, ⟨(Eq.symm ((by rw [fq_noteWord]; (try rw [if_pos c_1]); (try rw [if_neg h_2]); (try rw [if_neg h_3]); (try rw [if_neg h_4]); (try rw [if_neg h_5]); (try rw [if_neg h_6]); (try rw [if_neg h_7]); (try rw [if_neg h_8]); (try rw [if_neg h_9]); (try rw [if_neg h_10]); (try rw [if_neg h_11]); (try rw [if_neg h_12]); (try rw [if_neg h_13]); (try rw [if_neg h_14]); (try rw [if_neg h_15]); (try rw [if_neg h_16]); (try rw [if_neg h_17]); (try rw [if_neg h_18]); (try rw [if_neg h_19]); (try rw [if_neg h_20]); (try rw [if_pos h_21]); try rfl))), (gq_noteWord_s38 ), (gq_noteWord_s39 )⟩, ht⟩) (fun _ h => by cases h) dX12_noteWord_113
    by_cases h_22 : (g 9) = 21
    · refine lv_tableIn (off := 106) (tgt := 120) hx hb dX12_noteWord_14 (by rw [h_22]; decide) (by rw [h_22]; decide) (by rw [h_22]; decide) (by decide) ?_
      refine lv_iconst (v := 4) hx hb dX12_noteWord_120 (by decide) ?_
      exact W.iret (v := 4) hx hb hr (fun t ht hW => ⟨4, rfl, ⟨(Eq.symm ((by rw [fq_noteWord]; (try rw [if_pos c_1]); (try rw [if_neg h_2]); (try rw [if_neg h_3]); (try rw [if_neg h_4]); (try rw [if_neg h_5]); (try rw [if_neg h_6]); (try rw [if_neg h_7]); (try rw [if_neg h_8]); (try rw [if_neg h_9]); (try rw [if_neg h_10]); (try rw [if_neg h_11]); (try rw [if_neg h_12]); (try rw [if_neg h_13]); (try rw [if_neg h_14]); (try rw [if_neg h_15]); (try rw [if_neg h_16]); (try rw [if_neg h_17]); (try rw [if_neg h_18]); (try rw [if_neg h_19]); (try rw [if_neg h_20]); (try rw [if_neg h_21]); (try rw [if_pos h_22]); try rfl))), (gq_noteWord_s40 ), (gq_noteWord_s41 )⟩, ht⟩) (fun _ h => by cases h) dX12_noteWord_121
    refine lv_tableOut (tgt := 130) hx hb dX12_noteWord_14 (by have a0 := xg_ne h_2; have a1 := xg_ne h_3; have a2 := xg_ne h_4; have a3 := xg_ne h_5; have a4 := xg_ne h_6; have a5 := xg_ne h_7; have a6 := xg_ne h_8; have a7 := xg_ne h_9; have a8 := xg_ne h_10; have a9 := xg_ne h_11; have a10 := xg_ne h_12; have a11 := xg_ne h_13; have a12 := xg_ne h_14; have a13 := xg_ne h_15; have a14 := xg_ne h_16; have a15 := xg_ne h_17; have a16 := xg_ne h_18; have a17 := xg_ne h_19; have a18 := xg_ne h_20; have a19 := xg_ne h_21; have a20 := xg_ne h_22; have b0 : (1 : Int32).toInt = 1 := rfl; have b1 : (2 : Int32).toInt = 2 := rfl; have b2 : (3 : Int32).toInt = 3 := rfl; have b3 : (4 : Int32).toInt = 4 := rfl; have b4 : (5 : Int32).toInt = 5 := rfl; have b5 : (6 : Int32).toInt = 6 := rfl; have b6 : (7 : Int32).toInt = 7 := rfl; have b7 : (8 : Int32).toInt = 8 := rfl; have b8 : (9 : Int32).toInt = 9 := rfl; have b9 : (10 : Int32).toInt = 10 := rfl; have b10 : (11 : Int32).toInt = 11 := rfl; have b11 : (12 : Int32).toInt = 12 := rfl; have b12 : (13 : Int32).toInt = 13 := rfl; have b13 : (14 : Int32).toInt = 14 := rfl; have b14 : (15 : Int32).toInt = 15 := rfl; have b15 : (16 : Int32).toInt = 16 := rfl; have b16 : (17 : Int32).toInt = 17 := rfl; have b17 : (18 : Int32).toInt = 18 := rfl; have b18 : (19 : Int32).toInt = 19 := rfl; have b19 : (20 : Int32).toInt = 20 := rfl; have b20 : (21 : Int32).toInt = 21 := rfl; omega) (by decide) ?_
    refine lv_iconst (v := (-1)) hx hb dX12_noteWord_130 (by decide) ?_
    exact W.iret (v := (-1)) hx hb hr (fun t ht hW => ⟨(-1), rfl, ⟨(Eq.symm ((by rw [fq_noteWord]; (try rw [if_pos c_1]); (try rw [if_neg h_2]); (try rw [if_neg h_3]); (try rw [if_neg h_4]); (try rw [if_neg h_5]); (try rw [if_neg h_6]); (try rw [if_neg h_7]); (try rw [if_neg h_8]); (try rw [if_neg h_9]); (try rw [if_neg h_10]); (try rw [if_neg h_11]); (try rw [if_neg h_12]); (try rw [if_neg h_13]); (try rw [if_neg h_14]); (try rw [if_neg h_15]); (try rw [if_neg h_16]); (try rw [if_neg h_17]); (try rw [if_neg h_18]); (try rw [if_neg h_19]); (try rw [if_neg h_20]); (try rw [if_neg h_21]); (try rw [if_neg h_22]); try rfl))), (gq_noteWord_s42 ), (gq_noteWord_s43 )⟩, ht⟩) (fun _ h => by cases h) dX12_noteWord_131
  · refine lv_iconst (v := (-1)) hx hb dX12_noteWord_8 (by decide) ?_
    exact W.iret (v := (-1)) hx hb hr (fun t ht hW => ⟨(-1), rfl, ⟨(Eq.symm ((by rw [fq_noteWord]; (try rw [if_neg c_1]); try rfl))), (gq_noteWord_s44 ), (gq_noteWord_s45 )⟩, ht⟩) (fun _ h => by cases h) dX12_noteWord_9
