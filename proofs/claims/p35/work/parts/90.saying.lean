def fp_sayingOf (a0 : Int32) : Int32 := (if a0 = 2 then (2 : Int32) else (if a0 = 3 then (3 : Int32) else (if a0 = 4 then (-1 : Int32) else (if a0 = 5 then (6 : Int32) else (if a0 = 6 then (-1 : Int32) else (if a0 = 7 then (-1 : Int32) else (if a0 = 8 then (-1 : Int32) else (if a0 = 9 then (-1 : Int32) else (if a0 = 10 then (-1 : Int32) else (if a0 = 11 then (-1 : Int32) else (if a0 = 12 then (-1 : Int32) else (if a0 = 13 then (-1 : Int32) else (if a0 = 14 then (0 : Int32) else (if a0 = 15 then (1 : Int32) else (if a0 = 16 then (4 : Int32) else (if a0 = 17 then (5 : Int32) else (if a0 = 18 then (7 : Int32) else (-1 : Int32))))))))))))))))))
theorem gp_sayingOf_s0  : (2 : Int32) < 8 := (by decide)
theorem gp_sayingOf_s1  : ¬ ((2 : Int32) < (-1)) := (by decide)
theorem gp_sayingOf_s2  : (3 : Int32) < 8 := (by decide)
theorem gp_sayingOf_s3  : ¬ ((3 : Int32) < (-1)) := (by decide)
theorem gp_sayingOf_s4  : (-1 : Int32) < 8 := (by decide)
theorem gp_sayingOf_s5  : ¬ ((-1 : Int32) < (-1)) := (by decide)
theorem gp_sayingOf_s6  : (6 : Int32) < 8 := (by decide)
theorem gp_sayingOf_s7  : ¬ ((6 : Int32) < (-1)) := (by decide)
theorem gp_sayingOf_s8  : (-1 : Int32) < 8 := (by decide)
theorem gp_sayingOf_s9  : ¬ ((-1 : Int32) < (-1)) := (by decide)
theorem gp_sayingOf_s10  : (-1 : Int32) < 8 := (by decide)
theorem gp_sayingOf_s11  : ¬ ((-1 : Int32) < (-1)) := (by decide)
theorem gp_sayingOf_s12  : (-1 : Int32) < 8 := (by decide)
theorem gp_sayingOf_s13  : ¬ ((-1 : Int32) < (-1)) := (by decide)
theorem gp_sayingOf_s14  : (-1 : Int32) < 8 := (by decide)
theorem gp_sayingOf_s15  : ¬ ((-1 : Int32) < (-1)) := (by decide)
theorem gp_sayingOf_s16  : (-1 : Int32) < 8 := (by decide)
theorem gp_sayingOf_s17  : ¬ ((-1 : Int32) < (-1)) := (by decide)
theorem gp_sayingOf_s18  : (-1 : Int32) < 8 := (by decide)
theorem gp_sayingOf_s19  : ¬ ((-1 : Int32) < (-1)) := (by decide)
theorem gp_sayingOf_s20  : (-1 : Int32) < 8 := (by decide)
theorem gp_sayingOf_s21  : ¬ ((-1 : Int32) < (-1)) := (by decide)
theorem gp_sayingOf_s22  : (-1 : Int32) < 8 := (by decide)
theorem gp_sayingOf_s23  : ¬ ((-1 : Int32) < (-1)) := (by decide)
theorem gp_sayingOf_s24  : (0 : Int32) < 8 := (by decide)
theorem gp_sayingOf_s25  : ¬ ((0 : Int32) < (-1)) := (by decide)
theorem gp_sayingOf_s26  : (1 : Int32) < 8 := (by decide)
theorem gp_sayingOf_s27  : ¬ ((1 : Int32) < (-1)) := (by decide)
theorem gp_sayingOf_s28  : (4 : Int32) < 8 := (by decide)
theorem gp_sayingOf_s29  : ¬ ((4 : Int32) < (-1)) := (by decide)
theorem gp_sayingOf_s30  : (5 : Int32) < 8 := (by decide)
theorem gp_sayingOf_s31  : ¬ ((5 : Int32) < (-1)) := (by decide)
theorem gp_sayingOf_s32  : (7 : Int32) < 8 := (by decide)
theorem gp_sayingOf_s33  : ¬ ((7 : Int32) < (-1)) := (by decide)
theorem gp_sayingOf_s34  : (-1 : Int32) < 8 := (by decide)
theorem gp_sayingOf_s35  : ¬ ((-1 : Int32) < (-1)) := (by decide)
theorem dX7_sayingOf_0 : decode cX7_sayingOf 0 = .ok (.iload_n 0, 1) := zk_26 (by decide +kernel)
theorem dX7_sayingOf_1 : decode cX7_sayingOf 1 = .ok (.tableswitch 101 2 18 #[87, 89, 101, 95, 101, 101, 101, 101, 101, 101, 101, 101, 83, 85, 91, 93, 98], 83) := by decide +kernel
theorem dX7_sayingOf_88 : decode cX7_sayingOf 88 = .ok (.iconst 2, 1) := zk_5 (by decide +kernel)
theorem dX7_sayingOf_89 : decode cX7_sayingOf 89 = .ok (.ireturn, 1) := zk_172 (by decide +kernel)
theorem dX7_sayingOf_90 : decode cX7_sayingOf 90 = .ok (.iconst 3, 1) := zk_6 (by decide +kernel)
theorem dX7_sayingOf_91 : decode cX7_sayingOf 91 = .ok (.ireturn, 1) := zk_172 (by decide +kernel)
theorem dX7_sayingOf_102 : decode cX7_sayingOf 102 = .ok (.iconst (-1), 1) := zk_2 (by decide +kernel)
theorem dX7_sayingOf_103 : decode cX7_sayingOf 103 = .ok (.ireturn, 1) := zk_172 (by decide +kernel)
theorem dX7_sayingOf_96 : decode cX7_sayingOf 96 = .ok (.bipush 6, 2) := zk_16 (by decide +kernel)
theorem dX7_sayingOf_98 : decode cX7_sayingOf 98 = .ok (.ireturn, 1) := zk_172 (by decide +kernel)
theorem dX7_sayingOf_84 : decode cX7_sayingOf 84 = .ok (.iconst 0, 1) := zk_3 (by decide +kernel)
theorem dX7_sayingOf_85 : decode cX7_sayingOf 85 = .ok (.ireturn, 1) := zk_172 (by decide +kernel)
theorem dX7_sayingOf_86 : decode cX7_sayingOf 86 = .ok (.iconst 1, 1) := zk_4 (by decide +kernel)
theorem dX7_sayingOf_87 : decode cX7_sayingOf 87 = .ok (.ireturn, 1) := zk_172 (by decide +kernel)
theorem dX7_sayingOf_92 : decode cX7_sayingOf 92 = .ok (.iconst 4, 1) := zk_7 (by decide +kernel)
theorem dX7_sayingOf_93 : decode cX7_sayingOf 93 = .ok (.ireturn, 1) := zk_172 (by decide +kernel)
theorem dX7_sayingOf_94 : decode cX7_sayingOf 94 = .ok (.iconst 5, 1) := zk_8 (by decide +kernel)
theorem dX7_sayingOf_95 : decode cX7_sayingOf 95 = .ok (.ireturn, 1) := zk_172 (by decide +kernel)
theorem dX7_sayingOf_99 : decode cX7_sayingOf 99 = .ok (.bipush 7, 2) := zk_16 (by decide +kernel)
theorem dX7_sayingOf_101 : decode cX7_sayingOf 101 = .ok (.ireturn, 1) := zk_172 (by decide +kernel)
set_option maxHeartbeats 4000000 in
set_option maxRecDepth 100000 in
theorem gp_sayingOf (l : Launch) (dC : Nat → ClassId) (dI : Nat → Nat → Nat) (a0 : Int32) : Met l yX7_sayingOf (Cond.code yX7_sayingOf cX7_sayingOf 1 (some .int) :: wsL_law) ({ frames := 0, cells := 0, slots := 0, locals := 0 }) (va_Pc [.int a0] (fun U => va_P (dC, dI) vwCl [] U.heap ∧ va_K (dC, dI) vwCl [] U)) (vp_Si (fun r => (r = fp_sayingOf a0) ∧ (r < 8) ∧ (¬ r < (-1)))) 0 0 (fun _ => False) := by
  refine Met.ofW (cc := cX7_sayingOf) (maxL := 1) (ret := (some .int)) (by decide) rfl ?_
  intro p e s m args below meth c s₁ B hml hv
  obtain ⟨rfl, hP, hK⟩ := hv
  have hx := B.exec
  have hb := B.bytes
  have hr := B.returns
  have hts := atoms_spec (ws := Cond.code yX7_sayingOf cX7_sayingOf 1 (some .int) :: wsL_law) B.pre
  have htw : ∀ w ∈ wsL_law, w.before _ s = true := fun w h => hts w (List.mem_cons_of_mem _ h)
  have hown : s.vm.findClass RX7 = some m.cls := findClass_of_methodNamed B.named
  have hlocks := B.notSynchronized
  have hl := lv_entry ([.int a0]) (n := 1) (Nat.le_of_ble_eq_true rfl)
  rw [lg_entry_eq]
  generalize (lg_sl ([.int a0]) ++ List.replicate (1 - (lg_sl ([.int a0])).length) Slot.unset).toArray = ls at hl ⊢
  have hl : lv_has ls 1 [(0, .int a0)] := hl
  refine lv_iload_n hx hb dX7_sayingOf_0 rfl (lv_at hl 0 rfl) ?_
  by_cases h_1 : a0 = 2
  · subst h_1
    refine lv_tableIn (off := 87) (tgt := 88) hx hb dX7_sayingOf_1 (by decide) (by decide) (by decide) (by decide) ?_
    refine lv_iconst (v := 2) hx hb dX7_sayingOf_88 (by decide) ?_
    exact W.iret (v := 2) hx hb hr (fun t ht hW => ⟨2, rfl, ⟨(Eq.symm ((by rw [fp_sayingOf]; (try rw [if_pos rfl]); try rfl))), (gp_sayingOf_s0 ), (gp_sayingOf_s1 )⟩, ht⟩) (fun _ h => by cases h) dX7_sayingOf_89
  by_cases h_2 : a0 = 3
  · subst h_2
    refine lv_tableIn (off := 89) (tgt := 90) hx hb dX7_sayingOf_1 (by decide) (by decide) (by decide) (by decide) ?_
    refine lv_iconst (v := 3) hx hb dX7_sayingOf_90 (by decide) ?_
    exact W.iret (v := 3) hx hb hr (fun t ht hW => ⟨3, rfl, ⟨(Eq.symm ((by rw [fp_sayingOf]; (try rw [if_neg h_1]); (try rw [if_pos rfl]); try rfl))), (gp_sayingOf_s2 ), (gp_sayingOf_s3 )⟩, ht⟩) (fun _ h => by cases h) dX7_sayingOf_91
  by_cases h_3 : a0 = 4
  · subst h_3
    refine lv_tableIn (off := 101) (tgt := 102) hx hb dX7_sayingOf_1 (by decide) (by decide) (by decide) (by decide) ?_
    refine lv_iconst (v := (-1)) hx hb dX7_sayingOf_102 (by decide) ?_
    exact W.iret (v := (-1)) hx hb hr (fun t ht hW => ⟨(-1), rfl, ⟨(Eq.symm ((by rw [fp_sayingOf]; (try rw [if_neg h_1]); (try rw [if_neg h_2]); (try rw [if_pos rfl]); try rfl))), (gp_sayingOf_s4 ), (gp_sayingOf_s5 )⟩, ht⟩) (fun _ h => by cases h) dX7_sayingOf_103
  by_cases h_4 : a0 = 5
  · subst h_4
    refine lv_tableIn (off := 95) (tgt := 96) hx hb dX7_sayingOf_1 (by decide) (by decide) (by decide) (by decide) ?_
    refine lv_bipush (v := 6) hx hb dX7_sayingOf_96 (by decide) ?_
    exact W.iret (v := 6) hx hb hr (fun t ht hW => ⟨6, rfl, ⟨(Eq.symm ((by rw [fp_sayingOf]; (try rw [if_neg h_1]); (try rw [if_neg h_2]); (try rw [if_neg h_3]); (try rw [if_pos rfl]); try rfl))), (gp_sayingOf_s6 ), (gp_sayingOf_s7 )⟩, ht⟩) (fun _ h => by cases h) dX7_sayingOf_98
  by_cases h_5 : a0 = 6
  · subst h_5
    refine lv_tableIn (off := 101) (tgt := 102) hx hb dX7_sayingOf_1 (by decide) (by decide) (by decide) (by decide) ?_
    refine lv_iconst (v := (-1)) hx hb dX7_sayingOf_102 (by decide) ?_
    exact W.iret (v := (-1)) hx hb hr (fun t ht hW => ⟨(-1), rfl, ⟨(Eq.symm ((by rw [fp_sayingOf]; (try rw [if_neg h_1]); (try rw [if_neg h_2]); (try rw [if_neg h_3]); (try rw [if_neg h_4]); (try rw [if_pos rfl]); try rfl))), (gp_sayingOf_s8 ), (gp_sayingOf_s9 )⟩, ht⟩) (fun _ h => by cases h) dX7_sayingOf_103
  by_cases h_6 : a0 = 7
  · subst h_6
    refine lv_tableIn (off := 101) (tgt := 102) hx hb dX7_sayingOf_1 (by decide) (by decide) (by decide) (by decide) ?_
    refine lv_iconst (v := (-1)) hx hb dX7_sayingOf_102 (by decide) ?_
    exact W.iret (v := (-1)) hx hb hr (fun t ht hW => ⟨(-1), rfl, ⟨(Eq.symm ((by rw [fp_sayingOf]; (try rw [if_neg h_1]); (try rw [if_neg h_2]); (try rw [if_neg h_3]); (try rw [if_neg h_4]); (try rw [if_neg h_5]); (try rw [if_pos rfl]); try rfl))), (gp_sayingOf_s10 ), (gp_sayingOf_s11 )⟩, ht⟩) (fun _ h => by cases h) dX7_sayingOf_103
  by_cases h_7 : a0 = 8
  · subst h_7
    refine lv_tableIn (off := 101) (tgt := 102) hx hb dX7_sayingOf_1 (by decide) (by decide) (by decide) (by decide) ?_
    refine lv_iconst (v := (-1)) hx hb dX7_sayingOf_102 (by decide) ?_
    exact W.iret (v := (-1)) hx hb hr (fun t ht hW => ⟨(-1), rfl, ⟨(Eq.symm ((by rw [fp_sayingOf]; (try rw [if_neg h_1]); (try rw [if_neg h_2]); (try rw [if_neg h_3]); (try rw [if_neg h_4]); (try rw [if_neg h_5]); (try rw [if_neg h_6]); (try rw [if_pos rfl]); try rfl))), (gp_sayingOf_s12 ), (gp_sayingOf_s13 )⟩, ht⟩) (fun _ h => by cases h) dX7_sayingOf_103
  by_cases h_8 : a0 = 9
  · subst h_8
    refine lv_tableIn (off := 101) (tgt := 102) hx hb dX7_sayingOf_1 (by decide) (by decide) (by decide) (by decide) ?_
    refine lv_iconst (v := (-1)) hx hb dX7_sayingOf_102 (by decide) ?_
    exact W.iret (v := (-1)) hx hb hr (fun t ht hW => ⟨(-1), rfl, ⟨(Eq.symm ((by rw [fp_sayingOf]; (try rw [if_neg h_1]); (try rw [if_neg h_2]); (try rw [if_neg h_3]); (try rw [if_neg h_4]); (try rw [if_neg h_5]); (try rw [if_neg h_6]); (try rw [if_neg h_7]); (try rw [if_pos rfl]); try rfl))), (gp_sayingOf_s14 ), (gp_sayingOf_s15 )⟩, ht⟩) (fun _ h => by cases h) dX7_sayingOf_103
  by_cases h_9 : a0 = 10
  · subst h_9
    refine lv_tableIn (off := 101) (tgt := 102) hx hb dX7_sayingOf_1 (by decide) (by decide) (by decide) (by decide) ?_
    refine lv_iconst (v := (-1)) hx hb dX7_sayingOf_102 (by decide) ?_
    exact W.iret (v := (-1)) hx hb hr (fun t ht hW => ⟨(-1), rfl, ⟨(Eq.symm ((by rw [fp_sayingOf]; (try rw [if_neg h_1]); (try rw [if_neg h_2]); (try rw [if_neg h_3]); (try rw [if_neg h_4]); (try rw [if_neg h_5]); (try rw [if_neg h_6]); (try rw [if_neg h_7]); (try rw [if_neg h_8]); (try rw [if_pos rfl]); try rfl))), (gp_sayingOf_s16 ), (gp_sayingOf_s17 )⟩, ht⟩) (fun _ h => by cases h) dX7_sayingOf_103
  by_cases h_10 : a0 = 11
  · subst h_10
    refine lv_tableIn (off := 101) (tgt := 102) hx hb dX7_sayingOf_1 (by decide) (by decide) (by decide) (by decide) ?_
    refine lv_iconst (v := (-1)) hx hb dX7_sayingOf_102 (by decide) ?_
    exact W.iret (v := (-1)) hx hb hr (fun t ht hW => ⟨(-1), rfl, ⟨(Eq.symm ((by rw [fp_sayingOf]; (try rw [if_neg h_1]); (try rw [if_neg h_2]); (try rw [if_neg h_3]); (try rw [if_neg h_4]); (try rw [if_neg h_5]); (try rw [if_neg h_6]); (try rw [if_neg h_7]); (try rw [if_neg h_8]); (try rw [if_neg h_9]); (try rw [if_pos rfl]); try rfl))), (gp_sayingOf_s18 ), (gp_sayingOf_s19 )⟩, ht⟩) (fun _ h => by cases h) dX7_sayingOf_103
  by_cases h_11 : a0 = 12
  · subst h_11
    refine lv_tableIn (off := 101) (tgt := 102) hx hb dX7_sayingOf_1 (by decide) (by decide) (by decide) (by decide) ?_
    refine lv_iconst (v := (-1)) hx hb dX7_sayingOf_102 (by decide) ?_
    exact W.iret (v := (-1)) hx hb hr (fun t ht hW => ⟨(-1), rfl, ⟨(Eq.symm ((by rw [fp_sayingOf]; (try rw [if_neg h_1]); (try rw [if_neg h_2]); (try rw [if_neg h_3]); (try rw [if_neg h_4]); (try rw [if_neg h_5]); (try rw [if_neg h_6]); (try rw [if_neg h_7]); (try rw [if_neg h_8]); (try rw [if_neg h_9]); (try rw [if_neg h_10]); (try rw [if_pos rfl]); try rfl))), (gp_sayingOf_s20 ), (gp_sayingOf_s21 )⟩, ht⟩) (fun _ h => by cases h) dX7_sayingOf_103
  by_cases h_12 : a0 = 13
  · subst h_12
    refine lv_tableIn (off := 101) (tgt := 102) hx hb dX7_sayingOf_1 (by decide) (by decide) (by decide) (by decide) ?_
    refine lv_iconst (v := (-1)) hx hb dX7_sayingOf_102 (by decide) ?_
    exact W.iret (v := (-1)) hx hb hr (fun t ht hW => ⟨(-1), rfl, ⟨(Eq.symm ((by rw [fp_sayingOf]; (try rw [if_neg h_1]); (try rw [if_neg h_2]); (try rw [if_neg h_3]); (try rw [if_neg h_4]); (try rw [if_neg h_5]); (try rw [if_neg h_6]); (try rw [if_neg h_7]); (try rw [if_neg h_8]); (try rw [if_neg h_9]); (try rw [if_neg h_10]); (try rw [if_neg h_11]); (try rw [if_pos rfl]); try rfl))), (gp_sayingOf_s22 ), (gp_sayingOf_s23 )⟩, ht⟩) (fun _ h => by cases h) dX7_sayingOf_103
  by_cases h_13 : a0 = 14
  · subst h_13
    refine lv_tableIn (off := 83) (tgt := 84) hx hb dX7_sayingOf_1 (by decide) (by decide) (by decide) (by decide) ?_
    refine lv_iconst (v := 0) hx hb dX7_sayingOf_84 (by decide) ?_
    exact W.iret (v := 0) hx hb hr (fun t ht hW => ⟨0, rfl, ⟨(Eq.symm ((by rw [fp_sayingOf]; (try rw [if_neg h_1]); (try rw [if_neg h_2]); (try rw [if_neg h_3]); (try rw [if_neg h_4]); (try rw [if_neg h_5]); (try rw [if_neg h_6]); (try rw [if_neg h_7]); (try rw [if_neg h_8]); (try rw [if_neg h_9]); (try rw [if_neg h_10]); (try rw [if_neg h_11]); (try rw [if_neg h_12]); (try rw [if_pos rfl]); try rfl))), (gp_sayingOf_s24 ), (gp_sayingOf_s25 )⟩, ht⟩) (fun _ h => by cases h) dX7_sayingOf_85
  by_cases h_14 : a0 = 15
  · subst h_14
    refine lv_tableIn (off := 85) (tgt := 86) hx hb dX7_sayingOf_1 (by decide) (by decide) (by decide) (by decide) ?_
    refine lv_iconst (v := 1) hx hb dX7_sayingOf_86 (by decide) ?_
    exact W.iret (v := 1) hx hb hr (fun t ht hW => ⟨1, rfl, ⟨(Eq.symm ((by rw [fp_sayingOf]; (try rw [if_neg h_1]); (try rw [if_neg h_2]); (try rw [if_neg h_3]); (try rw [if_neg h_4]); (try rw [if_neg h_5]); (try rw [if_neg h_6]); (try rw [if_neg h_7]); (try rw [if_neg h_8]); (try rw [if_neg h_9]); (try rw [if_neg h_10]); (try rw [if_neg h_11]); (try rw [if_neg h_12]); (try rw [if_neg h_13]); (try rw [if_pos rfl]); try rfl))), (gp_sayingOf_s26 ), (gp_sayingOf_s27 )⟩, ht⟩) (fun _ h => by cases h) dX7_sayingOf_87
  by_cases h_15 : a0 = 16
  · subst h_15
    refine lv_tableIn (off := 91) (tgt := 92) hx hb dX7_sayingOf_1 (by decide) (by decide) (by decide) (by decide) ?_
    refine lv_iconst (v := 4) hx hb dX7_sayingOf_92 (by decide) ?_
    exact W.iret (v := 4) hx hb hr (fun t ht hW => ⟨4, rfl, ⟨(Eq.symm ((by rw [fp_sayingOf]; (try rw [if_neg h_1]); (try rw [if_neg h_2]); (try rw [if_neg h_3]); (try rw [if_neg h_4]); (try rw [if_neg h_5]); (try rw [if_neg h_6]); (try rw [if_neg h_7]); (try rw [if_neg h_8]); (try rw [if_neg h_9]); (try rw [if_neg h_10]); (try rw [if_neg h_11]); (try rw [if_neg h_12]); (try rw [if_neg h_13]); (try rw [if_neg h_14]); (try rw [if_pos rfl]); try rfl))), (gp_sayingOf_s28 ), (gp_sayingOf_s29 )⟩, ht⟩) (fun _ h => by cases h) dX7_sayingOf_93
  by_cases h_16 : a0 = 17
  · subst h_16
    refine lv_tableIn (off := 93) (tgt := 94) hx hb dX7_sayingOf_1 (by decide) (by decide) (by decide) (by decide) ?_
    refine lv_iconst (v := 5) hx hb dX7_sayingOf_94 (by decide) ?_
    exact W.iret (v := 5) hx hb hr (fun t ht hW => ⟨5, rfl, ⟨(Eq.symm ((by rw [fp_sayingOf]; (try rw [if_neg h_1]); (try rw [if_neg h_2]); (try rw [if_neg h_3]); (try rw [if_neg h_4]); (try rw [if_neg h_5]); (try rw [if_neg h_6]); (try rw [if_neg h_7]); (try rw [if_neg h_8]); (try rw [if_neg h_9]); (try rw [if_neg h_10]); (try rw [if_neg h_11]); (try rw [if_neg h_12]); (try rw [if_neg h_13]); (try rw [if_neg h_14]); (try rw [if_neg h_15]); (try rw [if_pos rfl]); try rfl))), (gp_sayingOf_s30 ), (gp_sayingOf_s31 )⟩, ht⟩) (fun _ h => by cases h) dX7_sayingOf_95
  by_cases h_17 : a0 = 18
  · subst h_17
    refine lv_tableIn (off := 98) (tgt := 99) hx hb dX7_sayingOf_1 (by decide) (by decide) (by decide) (by decide) ?_
    refine lv_bipush (v := 7) hx hb dX7_sayingOf_99 (by decide) ?_
    exact W.iret (v := 7) hx hb hr (fun t ht hW => ⟨7, rfl, ⟨(Eq.symm ((by rw [fp_sayingOf]; (try rw [if_neg h_1]); (try rw [if_neg h_2]); (try rw [if_neg h_3]); (try rw [if_neg h_4]); (try rw [if_neg h_5]); (try rw [if_neg h_6]); (try rw [if_neg h_7]); (try rw [if_neg h_8]); (try rw [if_neg h_9]); (try rw [if_neg h_10]); (try rw [if_neg h_11]); (try rw [if_neg h_12]); (try rw [if_neg h_13]); (try rw [if_neg h_14]); (try rw [if_neg h_15]); (try rw [if_neg h_16]); (try rw [if_pos rfl]); try rfl))), (gp_sayingOf_s32 ), (gp_sayingOf_s33 )⟩, ht⟩) (fun _ h => by cases h) dX7_sayingOf_101
  refine lv_tableOut (tgt := 102) hx hb dX7_sayingOf_1 (by have a0 := xg_ne h_1; have a1 := xg_ne h_2; have a2 := xg_ne h_3; have a3 := xg_ne h_4; have a4 := xg_ne h_5; have a5 := xg_ne h_6; have a6 := xg_ne h_7; have a7 := xg_ne h_8; have a8 := xg_ne h_9; have a9 := xg_ne h_10; have a10 := xg_ne h_11; have a11 := xg_ne h_12; have a12 := xg_ne h_13; have a13 := xg_ne h_14; have a14 := xg_ne h_15; have a15 := xg_ne h_16; have a16 := xg_ne h_17; have b0 : (2 : Int32).toInt = 2 := rfl; have b1 : (3 : Int32).toInt = 3 := rfl; have b2 : (4 : Int32).toInt = 4 := rfl; have b3 : (5 : Int32).toInt = 5 := rfl; have b4 : (6 : Int32).toInt = 6 := rfl; have b5 : (7 : Int32).toInt = 7 := rfl; have b6 : (8 : Int32).toInt = 8 := rfl; have b7 : (9 : Int32).toInt = 9 := rfl; have b8 : (10 : Int32).toInt = 10 := rfl; have b9 : (11 : Int32).toInt = 11 := rfl; have b10 : (12 : Int32).toInt = 12 := rfl; have b11 : (13 : Int32).toInt = 13 := rfl; have b12 : (14 : Int32).toInt = 14 := rfl; have b13 : (15 : Int32).toInt = 15 := rfl; have b14 : (16 : Int32).toInt = 16 := rfl; have b15 : (17 : Int32).toInt = 17 := rfl; have b16 : (18 : Int32).toInt = 18 := rfl; omega) (by decide) ?_
  refine lv_iconst (v := (-1)) hx hb dX7_sayingOf_102 (by decide) ?_
  exact W.iret (v := (-1)) hx hb hr (fun t ht hW => ⟨(-1), rfl, ⟨(Eq.symm ((by rw [fp_sayingOf]; (try rw [if_neg h_1]); (try rw [if_neg h_2]); (try rw [if_neg h_3]); (try rw [if_neg h_4]); (try rw [if_neg h_5]); (try rw [if_neg h_6]); (try rw [if_neg h_7]); (try rw [if_neg h_8]); (try rw [if_neg h_9]); (try rw [if_neg h_10]); (try rw [if_neg h_11]); (try rw [if_neg h_12]); (try rw [if_neg h_13]); (try rw [if_neg h_14]); (try rw [if_neg h_15]); (try rw [if_neg h_16]); (try rw [if_neg h_17]); try rfl))), (gp_sayingOf_s34 ), (gp_sayingOf_s35 )⟩, ht⟩) (fun _ h => by cases h) dX7_sayingOf_103

def fp_readSaying (pfa : Int32) (pfp : Int32) (lxe : Int32) (lxa : Int32) (lxt : Int32) (lxp : Int32) (lxn : Int32) (lxl : Int32) (fBy : Nat → Int32) (fCo : Nat → Int32) (fTo : Nat → Int32) (fNm : Nat → Nat → Int32) (fNs : Nat → Int32) (fNf : Nat → Int32) (fNz : Nat → Int32) (a0 : Int32) (a1 : Int32) : Int32 × (Int32) × (Int32) × (Int32) × (Int32) × (Int32) × (Int32) × (Int32) × (Nat → Int32) × (Nat → Int32) × (Nat → Int32) := (if a1 = 5 then (xL ((fp_known2 pfa pfp lxe lxa lxt lxp lxn lxl fBy fCo fTo fNm)) (fun X_2 => (if X_2.1 = 1 then ((1 : Int32), X_2.2.2.1, X_2.2.2.2.1, X_2.2.2.2.2.1, X_2.2.2.2.2.2.1, X_2.2.2.2.2.2.2.1, X_2.2.2.2.2.2.2.2.1, X_2.2.2.2.2.2.2.2.2, fNs, fNf, fNz) else (xL ((fn_add fNs fNf fNz a0 (5 : Int32) X_2.2.1 (0 : Int32))) (fun u_22 => ((0 : Int32), X_2.2.2.1, X_2.2.2.2.1, X_2.2.2.2.2.1, X_2.2.2.2.2.2.1, X_2.2.2.2.2.2.2.1, X_2.2.2.2.2.2.2.2.1, X_2.2.2.2.2.2.2.2.2, u_22.1, u_22.2.1, u_22.2.2)))))) else (if a1 = 6 then (xL ((fp_known1 pfa pfp lxe lxa lxt lxp lxn lxl fBy fCo fTo fNm)) (fun X_27 => (if X_27.1 = 1 then ((1 : Int32), X_27.2.2.1, X_27.2.2.2.1, X_27.2.2.2.2.1, X_27.2.2.2.2.2.1, X_27.2.2.2.2.2.2.1, X_27.2.2.2.2.2.2.2.1, X_27.2.2.2.2.2.2.2.2, fNs, fNf, fNz) else (xL ((fn_add fNs fNf fNz a0 (6 : Int32) X_27.2.1 (0 : Int32))) (fun u_47 => ((0 : Int32), X_27.2.2.1, X_27.2.2.2.1, X_27.2.2.2.2.1, X_27.2.2.2.2.2.1, X_27.2.2.2.2.2.2.1, X_27.2.2.2.2.2.2.2.1, X_27.2.2.2.2.2.2.2.2, u_47.1, u_47.2.1, u_47.2.2)))))) else (if a1 = 7 then (xL ((fp_known4 pfa pfp lxe lxa lxt lxp lxn lxl fBy fCo fTo fNm)) (fun X_52 => (if X_52.1 = 1 then ((1 : Int32), X_52.2.2.1, X_52.2.2.2.1, X_52.2.2.2.2.1, X_52.2.2.2.2.2.1, X_52.2.2.2.2.2.2.1, X_52.2.2.2.2.2.2.2.1, X_52.2.2.2.2.2.2.2.2, fNs, fNf, fNz) else (xL ((fp_signedUpTo X_52.2.2.1 X_52.2.2.2.1 lxe X_52.2.2.2.2.1 X_52.2.2.2.2.2.1 X_52.2.2.2.2.2.2.1 X_52.2.2.2.2.2.2.2.1 X_52.2.2.2.2.2.2.2.2 fBy fCo (9999 : Int32))) (fun X_71 => (if X_71.1 = 1 then ((1 : Int32), X_71.2.2.1, X_71.2.2.2.1, X_71.2.2.2.2.1, X_71.2.2.2.2.2.1, X_71.2.2.2.2.2.2.1, X_71.2.2.2.2.2.2.2.1, X_71.2.2.2.2.2.2.2.2, fNs, fNf, fNz) else (xL ((fn_add fNs fNf fNz a0 (7 : Int32) X_52.2.1 X_71.2.1)) (fun u_91 => ((0 : Int32), X_71.2.2.1, X_71.2.2.2.1, X_71.2.2.2.2.1, X_71.2.2.2.2.2.1, X_71.2.2.2.2.2.2.1, X_71.2.2.2.2.2.2.2.1, X_71.2.2.2.2.2.2.2.2, u_91.1, u_91.2.1, u_91.2.2))))))))) else (xL ((fp_numberIn pfa pfp lxe lxa lxt lxp lxn lxl fBy fCo (xk_least a1.toNatClampNeg) (xk_mosts a1.toNatClampNeg))) (fun X_95 => (if X_95.1 = 1 then ((1 : Int32), X_95.2.2.1, X_95.2.2.2.1, X_95.2.2.2.2.1, X_95.2.2.2.2.2.1, X_95.2.2.2.2.2.2.1, X_95.2.2.2.2.2.2.2.1, X_95.2.2.2.2.2.2.2.2, fNs, fNf, fNz) else (if a1 = 0 then (xL ((fp_numberIn X_95.2.2.1 X_95.2.2.2.1 lxe X_95.2.2.2.2.1 X_95.2.2.2.2.2.1 X_95.2.2.2.2.2.2.1 X_95.2.2.2.2.2.2.2.1 X_95.2.2.2.2.2.2.2.2 fBy fCo X_95.2.1 (xk_mosts a1.toNatClampNeg))) (fun X_122 => (if X_122.1 = 1 then ((1 : Int32), X_122.2.2.1, X_122.2.2.2.1, X_122.2.2.2.2.1, X_122.2.2.2.2.2.1, X_122.2.2.2.2.2.2.1, X_122.2.2.2.2.2.2.2.1, X_122.2.2.2.2.2.2.2.2, fNs, fNf, fNz) else (xL ((fn_add fNs fNf fNz a0 a1 X_95.2.1 X_122.2.1)) (fun u_144 => ((0 : Int32), X_122.2.2.1, X_122.2.2.2.1, X_122.2.2.2.2.1, X_122.2.2.2.2.2.1, X_122.2.2.2.2.2.2.1, X_122.2.2.2.2.2.2.2.1, X_122.2.2.2.2.2.2.2.2, u_144.1, u_144.2.1, u_144.2.2)))))) else (xL ((fn_add fNs fNf fNz a0 a1 X_95.2.1 (0 : Int32))) (fun u_118 => ((0 : Int32), X_95.2.2.1, X_95.2.2.2.1, X_95.2.2.2.2.1, X_95.2.2.2.2.2.1, X_95.2.2.2.2.2.2.1, X_95.2.2.2.2.2.2.2.1, X_95.2.2.2.2.2.2.2.2, u_118.1, u_118.2.1, u_118.2.2))))))))))
theorem gp_readSaying_s0 {y0 : Int32} (h0 : ¬ (y0 < 0)) : ¬ (y0 < 0) := h0
theorem gp_readSaying_s1 {y0 : Int32} (h0 : ¬ (y0 < 0)) : ¬ (y0 < 0) := h0
theorem gp_readSaying_s2 {y0 : Int32} (h0 : ¬ (y0 < 0)) : ¬ (y0 < 0) := h0
theorem gp_readSaying_s3 {y0 : Int32} (h0 : ¬ (y0 < 0)) : ¬ (y0 < 0) := h0
theorem gp_readSaying_s4 {y0 : Int32} (h0 : ¬ (y0 = 5)) (h1 : ¬ (y0 = 6)) (h2 : ¬ (y0 = 7)) (h3 : ¬ (y0 < 0)) (h4 : y0 < 8) : ¬ (y0 < 0) ∧ ¬ (5 ≤ y0) := by lia
theorem gp_readSaying_s5 {y0 : Int32} (h0 : ¬ (y0 = 5)) (h1 : ¬ (y0 = 6)) (h2 : ¬ (y0 = 7)) (h3 : ¬ (y0 < 0)) (h4 : y0 < 8) : ¬ (y0 < 0) ∧ ¬ (5 ≤ y0) := gp_readSaying_s4 h0 h1 h2 h3 h4
theorem gp_readSaying_s6 {y0 : Int32} (h0 : ¬ (y0 < 0)) : ¬ (y0 < 0) := h0
theorem gp_readSaying_s7 {y0 : Int32} (h0 : ¬ (y0 = 5)) (h1 : ¬ (y0 = 6)) (h2 : ¬ (y0 = 7)) (h3 : y0 = 0) (h4 : ¬ (y0 < 0)) (h5 : y0 < 8) : ¬ (y0 < 0) ∧ ¬ (5 ≤ y0) := by lia
theorem gp_readSaying_s8 {y0 : Int32} (h0 : ¬ (y0 < 0)) : ¬ (y0 < 0) := h0
theorem gp_readSaying_s9 {y0 : Int32} (h0 : ¬ (y0 < 0)) : ¬ (y0 < 0) := h0
theorem dX7_readSaying_0 : decode cX7_readSaying 0 = .ok (.iconst 0, 1) := zk_3 (by decide +kernel)
theorem dX7_readSaying_1 : decode cX7_readSaying 1 = .ok (.istore 4, 2) := zk_54 (by decide +kernel)
theorem dX7_readSaying_3 : decode cX7_readSaying 3 = .ok (.iload_n 2, 1) := zk_28 (by decide +kernel)
theorem dX7_readSaying_4 : decode cX7_readSaying 4 = .ok (.tableswitch 64 5 7 #[28, 37, 46], 28) := by decide +kernel
theorem dX7_readSaying_32 : decode cX7_readSaying 32 = .ok (.aload_n 0, 1) := zk_42 (by decide +kernel)
theorem dX7_readSaying_33 : decode cX7_readSaying 33 = .ok (.iconst 2, 1) := zk_5 (by decide +kernel)
theorem dX7_readSaying_34 : decode cX7_readSaying 34 = .ok (.invokevirtual 197, 3) := zk_182 (by decide +kernel)
theorem dX7_readSaying_37 : decode cX7_readSaying 37 = .ok (.istore_n 3, 1) := zk_62 (by decide +kernel)
theorem dX7_readSaying_38 : decode cX7_readSaying 38 = .ok (.goto 65, 3) := zk_167 (by decide +kernel)
theorem dX7_readSaying_103 : decode cX7_readSaying 103 = .ok (.aload_n 0, 1) := zk_42 (by decide +kernel)
theorem dX7_readSaying_104 : decode cX7_readSaying 104 = .ok (.getfield 31, 3) := zk_180 (by decide +kernel)
theorem dX7_readSaying_107 : decode cX7_readSaying 107 = .ok (.getfield 203, 3) := zk_180 (by decide +kernel)
theorem dX7_readSaying_110 : decode cX7_readSaying 110 = .ok (.iload_n 1, 1) := zk_27 (by decide +kernel)
theorem dX7_readSaying_111 : decode cX7_readSaying 111 = .ok (.iload_n 2, 1) := zk_28 (by decide +kernel)
theorem dX7_readSaying_112 : decode cX7_readSaying 112 = .ok (.iload_n 3, 1) := zk_29 (by decide +kernel)
theorem dX7_readSaying_113 : decode cX7_readSaying 113 = .ok (.iload 4, 2) := zk_21 (by decide +kernel)
theorem dX7_readSaying_115 : decode cX7_readSaying 115 = .ok (.invokevirtual 232, 3) := zk_182 (by decide +kernel)
theorem dX7_readSaying_118 : decode cX7_readSaying 118 = .ok (.return_, 1) := zk_177 (by decide +kernel)
theorem dX7_readSaying_41 : decode cX7_readSaying 41 = .ok (.aload_n 0, 1) := zk_42 (by decide +kernel)
theorem dX7_readSaying_42 : decode cX7_readSaying 42 = .ok (.iconst 1, 1) := zk_4 (by decide +kernel)
theorem dX7_readSaying_43 : decode cX7_readSaying 43 = .ok (.invokevirtual 197, 3) := zk_182 (by decide +kernel)
theorem dX7_readSaying_46 : decode cX7_readSaying 46 = .ok (.istore_n 3, 1) := zk_62 (by decide +kernel)
theorem dX7_readSaying_47 : decode cX7_readSaying 47 = .ok (.goto 56, 3) := zk_167 (by decide +kernel)
theorem dX7_readSaying_50 : decode cX7_readSaying 50 = .ok (.aload_n 0, 1) := zk_42 (by decide +kernel)
theorem dX7_readSaying_51 : decode cX7_readSaying 51 = .ok (.iconst 4, 1) := zk_7 (by decide +kernel)
theorem dX7_readSaying_52 : decode cX7_readSaying 52 = .ok (.invokevirtual 197, 3) := zk_182 (by decide +kernel)
theorem dX7_readSaying_55 : decode cX7_readSaying 55 = .ok (.istore_n 3, 1) := zk_62 (by decide +kernel)
theorem dX7_readSaying_56 : decode cX7_readSaying 56 = .ok (.aload_n 0, 1) := zk_42 (by decide +kernel)
theorem dX7_readSaying_57 : decode cX7_readSaying 57 = .ok (.sipush 9999, 3) := zk_17 (by decide +kernel)
theorem dX7_readSaying_60 : decode cX7_readSaying 60 = .ok (.invokevirtual 114, 3) := zk_182 (by decide +kernel)
theorem dX7_readSaying_63 : decode cX7_readSaying 63 = .ok (.istore 4, 2) := zk_54 (by decide +kernel)
theorem dX7_readSaying_65 : decode cX7_readSaying 65 = .ok (.goto 38, 3) := zk_167 (by decide +kernel)
theorem dX7_readSaying_68 : decode cX7_readSaying 68 = .ok (.aload_n 0, 1) := zk_42 (by decide +kernel)
theorem dX7_readSaying_69 : decode cX7_readSaying 69 = .ok (.getstatic 226, 3) := zk_178 (by decide +kernel)
theorem dX7_readSaying_72 : decode cX7_readSaying 72 = .ok (.iload_n 2, 1) := zk_28 (by decide +kernel)
theorem dX7_readSaying_73 : decode cX7_readSaying 73 = .ok (.iaload, 1) := zk_46 (by decide +kernel)
theorem dX7_readSaying_74 : decode cX7_readSaying 74 = .ok (.getstatic 229, 3) := zk_178 (by decide +kernel)
theorem dX7_readSaying_77 : decode cX7_readSaying 77 = .ok (.iload_n 2, 1) := zk_28 (by decide +kernel)
theorem dX7_readSaying_78 : decode cX7_readSaying 78 = .ok (.iaload, 1) := zk_46 (by decide +kernel)
theorem dX7_readSaying_79 : decode cX7_readSaying 79 = .ok (.invokevirtual 105, 3) := zk_182 (by decide +kernel)
theorem dX7_readSaying_82 : decode cX7_readSaying 82 = .ok (.istore_n 3, 1) := zk_62 (by decide +kernel)
theorem dX7_readSaying_83 : decode cX7_readSaying 83 = .ok (.iload_n 2, 1) := zk_28 (by decide +kernel)
theorem dX7_readSaying_84 : decode cX7_readSaying 84 = .ok (.ifCond .ne 16, 3) := zk_154 (by decide +kernel)
theorem dX7_readSaying_100 : decode cX7_readSaying 100 = .ok (.iconst 0, 1) := zk_3 (by decide +kernel)
theorem dX7_readSaying_101 : decode cX7_readSaying 101 = .ok (.istore 4, 2) := zk_54 (by decide +kernel)
theorem dX7_readSaying_87 : decode cX7_readSaying 87 = .ok (.aload_n 0, 1) := zk_42 (by decide +kernel)
theorem dX7_readSaying_88 : decode cX7_readSaying 88 = .ok (.iload_n 3, 1) := zk_29 (by decide +kernel)
theorem dX7_readSaying_89 : decode cX7_readSaying 89 = .ok (.getstatic 229, 3) := zk_178 (by decide +kernel)
theorem dX7_readSaying_92 : decode cX7_readSaying 92 = .ok (.iload_n 2, 1) := zk_28 (by decide +kernel)
theorem dX7_readSaying_93 : decode cX7_readSaying 93 = .ok (.iaload, 1) := zk_46 (by decide +kernel)
theorem dX7_readSaying_94 : decode cX7_readSaying 94 = .ok (.invokevirtual 105, 3) := zk_182 (by decide +kernel)
theorem dX7_readSaying_97 : decode cX7_readSaying 97 = .ok (.goto 4, 3) := zk_167 (by decide +kernel)
set_option maxHeartbeats 4000000 in
set_option maxRecDepth 100000 in
theorem gp_readSaying (l : Launch) (hst : l.stackTraces = false) (dC : Nat → ClassId) (dI : Nat → Nat → Nat) (pa : Nat) (lx : Nat) (bk : Nat) (pfa : Int32) (pfp : Int32) (psk : Int32) (phe : Nat) (phr : Nat) (phs : Int32) (pop : Int32) (lby : Nat) (lfi : Int32) (lco : Nat) (lxe : Int32) (lxa : Int32) (lxt : Int32) (lxp : Int32) (lxn : Int32) (lxl : Int32) (cBy : ClassId) (fBy : Nat → Int32) (cCo : ClassId) (fCo : Nat → Int32) (bto : Nat) (bnm : Nat) (bla : Nat) (bsk : Nat) (bru : Nat) (bbo : Nat) (bdi : Nat) (bda : Nat) (bdk : Nat) (bdt : Nat) (bdp : Nat) (bno : Nat) (cTo : ClassId) (fTo : Nat → Int32) (cNm : ClassId) (Nm : Nat → Nat) (cNr : ClassId) (fNm : Nat → Nat → Int32) (ns : Int32) (nsa : Nat) (nfa : Nat) (nza : Nat) (cNs : ClassId) (fNs : Nat → Int32) (cNf : ClassId) (fNf : Nat → Int32) (cNz : ClassId) (fNz : Nat → Int32) (a0 : Int32) (a1 : Int32) (sL : Nat → Nat) (sz : Nat) (h0_lxa : ¬ lxa < 0) (h9_lxe : lxe ≤ 900) (hsw0 : ¬ a1 < 0) (hsw8 : a1 < 8) : vx_Met l yX7_readSaying (Cond.code yX7_readSaying cX7_readSaying 5 none :: wsL_law) ({ frames := 8, cells := 1, slots := 6, locals := 128 }) (va_Pc [.ref pa, .int a0, .int a1] (fun U => U.heap.size = sz ∧ va_P (dC, dI) vwCl [(eO7a pa lx bk pfa pfp psk phe phr phs pop), (eO3a lx lby lfi lco lxe lxa lxt lxp lxn lxl), (eA0 lby cBy 900 fBy), (eA0 lco cCo 23 fCo), (eO0a bk bto bnm bla bsk bru bbo bdi bda bdk bdt bdp bno), (eA0 bto cTo 5 fTo), (eA4 bnm cNm 5 (fun k => some (Nm k))), (eA0 (Nm 1) cNr 12 (fNm 1)), (eA0 (Nm 2) cNr 12 (fNm 2)), (eA0 (Nm 4) cNr 12 (fNm 4)), (eO6a bno ns nsa nfa nza), (eA0 nsa cNs 12 fNs), (eA0 nfa cNf 96 fNf), (eA0 nza cNz 96 fNz)] U.heap ∧ va_K (dC, dI) vwCl [(cBy, .byte), (cCo, .int), (cTo, .int), (cNm, .array .int), (cNr, .int), (cNr, .int), (cNr, .int), (cNs, .int), (cNf, .int), (cNz, .int)] U ∧ va_D (fun _ => True) [(eO7a pa lx bk pfa pfp psk phe phr phs pop), (eO3a lx lby lfi lco lxe lxa lxt lxp lxn lxl), (eA0 lby cBy 900 fBy), (eA0 lco cCo 23 fCo), (eO0a bk bto bnm bla bsk bru bbo bdi bda bdk bdt bdp bno), (eA0 bto cTo 5 fTo), (eA4 bnm cNm 5 (fun k => some (Nm k))), (eA0 (Nm 1) cNr 12 (fNm 1)), (eA0 (Nm 2) cNr 12 (fNm 2)), (eA0 (Nm 4) cNr 12 (fNm 4)), (eO6a bno ns nsa nfa nza), (eA0 nsa cNs 12 fNs), (eA0 nfa cNf 96 fNf), (eA0 nza cNz 96 fNz)] ∧ xl sL (va_A [(eO7a pa lx bk pfa pfp psk phe phr phs pop), (eO3a lx lby lfi lco lxe lxa lxt lxp lxn lxl), (eA0 lby cBy 900 fBy), (eA0 lco cCo 23 fCo), (eO0a bk bto bnm bla bsk bru bbo bdi bda bdk bdt bdp bno), (eA0 bto cTo 5 fTo), (eA4 bnm cNm 5 (fun k => some (Nm k))), (eA0 (Nm 1) cNr 12 (fNm 1)), (eA0 (Nm 2) cNr 12 (fNm 2)), (eA0 (Nm 4) cNr 12 (fNm 4)), (eO6a bno ns nsa nfa nza), (eA0 nsa cNs 12 fNs), (eA0 nfa cNf 96 fNf), (eA0 nza cNz 96 fNz)] sz) U U.heap)) (va_Qv (fun (u : (Int32) × (Int32) × (Int32) × (Int32) × (Int32) × (Int32) × (Int32) × (Nat → Int32) × (Nat → Int32) × (Nat → Int32)) => ((fp_readSaying pfa pfp lxe lxa lxt lxp lxn lxl fBy fCo fTo fNm fNs fNf fNz a0 a1).1 = 0 ∧ u = (fp_readSaying pfa pfp lxe lxa lxt lxp lxn lxl fBy fCo fTo fNm fNs fNf fNz a0 a1).2) ∧ (¬ u.2.2.1 < 0)) (fun (u : (Int32) × (Int32) × (Int32) × (Int32) × (Int32) × (Int32) × (Int32) × (Nat → Int32) × (Nat → Int32) × (Nat → Int32)) t => (va_P (dC, dI) vwCl [(eO7a pa lx bk u.1 u.2.1 psk phe phr phs pop), (eO3a lx lby lfi lco lxe u.2.2.1 u.2.2.2.1 u.2.2.2.2.1 u.2.2.2.2.2.1 u.2.2.2.2.2.2.1), (eA0 lby cBy 900 fBy), (eA0 lco cCo 23 fCo), (eO0a bk bto bnm bla bsk bru bbo bdi bda bdk bdt bdp bno), (eA0 bto cTo 5 fTo), (eA4 bnm cNm 5 (fun k => some (Nm k))), (eA0 (Nm 1) cNr 12 (fNm 1)), (eA0 (Nm 2) cNr 12 (fNm 2)), (eA0 (Nm 4) cNr 12 (fNm 4)), (eO6a bno ns nsa nfa nza), (eA0 nsa cNs 12 u.2.2.2.2.2.2.2.1), (eA0 nfa cNf 96 u.2.2.2.2.2.2.2.2.1), (eA0 nza cNz 96 u.2.2.2.2.2.2.2.2.2)] t.heap ∧ va_K (dC, dI) vwCl [] t ∧ va_D (va_A [(eO7a pa lx bk pfa pfp psk phe phr phs pop), (eO3a lx lby lfi lco lxe lxa lxt lxp lxn lxl), (eA0 lby cBy 900 fBy), (eA0 lco cCo 23 fCo), (eO0a bk bto bnm bla bsk bru bbo bdi bda bdk bdt bdp bno), (eA0 bto cTo 5 fTo), (eA4 bnm cNm 5 (fun k => some (Nm k))), (eA0 (Nm 1) cNr 12 (fNm 1)), (eA0 (Nm 2) cNr 12 (fNm 2)), (eA0 (Nm 4) cNr 12 (fNm 4)), (eO6a bno ns nsa nfa nza), (eA0 nsa cNs 12 fNs), (eA0 nfa cNf 96 fNf), (eA0 nza cNz 96 fNz)] sz) [(eO7a pa lx bk u.1 u.2.1 psk phe phr phs pop), (eO3a lx lby lfi lco lxe u.2.2.1 u.2.2.2.1 u.2.2.2.2.1 u.2.2.2.2.2.1 u.2.2.2.2.2.2.1), (eA0 lby cBy 900 fBy), (eA0 lco cCo 23 fCo), (eO0a bk bto bnm bla bsk bru bbo bdi bda bdk bdt bdp bno), (eA0 bto cTo 5 fTo), (eA4 bnm cNm 5 (fun k => some (Nm k))), (eA0 (Nm 1) cNr 12 (fNm 1)), (eA0 (Nm 2) cNr 12 (fNm 2)), (eA0 (Nm 4) cNr 12 (fNm 4)), (eO6a bno ns nsa nfa nza), (eA0 nsa cNs 12 u.2.2.2.2.2.2.2.1), (eA0 nfa cNf 96 u.2.2.2.2.2.2.2.2.1), (eA0 nza cNz 96 u.2.2.2.2.2.2.2.2.2)]) ∧ t.heap.size = sz) (va_A [(eO7a pa lx bk pfa pfp psk phe phr phs pop), (eO3a lx lby lfi lco lxe lxa lxt lxp lxn lxl), (eA0 lby cBy 900 fBy), (eA0 lco cCo 23 fCo), (eO0a bk bto bnm bla bsk bru bbo bdi bda bdk bdt bdp bno), (eA0 bto cTo 5 fTo), (eA4 bnm cNm 5 (fun k => some (Nm k))), (eA0 (Nm 1) cNr 12 (fNm 1)), (eA0 (Nm 2) cNr 12 (fNm 2)), (eA0 (Nm 4) cNr 12 (fNm 4)), (eO6a bno ns nsa nfa nza), (eA0 nsa cNs 12 fNs), (eA0 nfa cNf 96 fNf), (eA0 nza cNz 96 fNz)] sz)) (vx_X (fun (u : (Int32) × (Int32) × (Int32) × (Int32) × (Int32) × (Int32) × (Int32) × (Nat → Int32) × (Nat → Int32) × (Nat → Int32)) => (fp_readSaying pfa pfp lxe lxa lxt lxp lxn lxl fBy fCo fTo fNm fNs fNf fNz a0 a1).1 = 1 ∧ u = (fp_readSaying pfa pfp lxe lxa lxt lxp lxn lxl fBy fCo fTo fNm fNs fNf fNz a0 a1).2) (fun (E : String) (u : (Int32) × (Int32) × (Int32) × (Int32) × (Int32) × (Int32) × (Int32) × (Nat → Int32) × (Nat → Int32) × (Nat → Int32)) (t : State) => E = "java/lang/IllegalStateException" ∧ va_P (dC, dI) vwCl [(eO7a pa lx bk u.1 u.2.1 psk phe phr phs pop), (eO3a lx lby lfi lco lxe u.2.2.1 u.2.2.2.1 u.2.2.2.2.1 u.2.2.2.2.2.1 u.2.2.2.2.2.2.1), (eA0 lby cBy 900 fBy), (eA0 lco cCo 23 fCo), (eO0a bk bto bnm bla bsk bru bbo bdi bda bdk bdt bdp bno), (eA0 bto cTo 5 fTo), (eA4 bnm cNm 5 (fun k => some (Nm k))), (eA0 (Nm 1) cNr 12 (fNm 1)), (eA0 (Nm 2) cNr 12 (fNm 2)), (eA0 (Nm 4) cNr 12 (fNm 4)), (eO6a bno ns nsa nfa nza), (eA0 nsa cNs 12 u.2.2.2.2.2.2.2.1), (eA0 nfa cNf 96 u.2.2.2.2.2.2.2.2.1), (eA0 nza cNz 96 u.2.2.2.2.2.2.2.2.2)] t.heap ∧ va_K (dC, dI) vwCl [] t ∧ va_D (va_A [(eO7a pa lx bk pfa pfp psk phe phr phs pop), (eO3a lx lby lfi lco lxe lxa lxt lxp lxn lxl), (eA0 lby cBy 900 fBy), (eA0 lco cCo 23 fCo), (eO0a bk bto bnm bla bsk bru bbo bdi bda bdk bdt bdp bno), (eA0 bto cTo 5 fTo), (eA4 bnm cNm 5 (fun k => some (Nm k))), (eA0 (Nm 1) cNr 12 (fNm 1)), (eA0 (Nm 2) cNr 12 (fNm 2)), (eA0 (Nm 4) cNr 12 (fNm 4)), (eO6a bno ns nsa nfa nza), (eA0 nsa cNs 12 fNs), (eA0 nfa cNf 96 fNf), (eA0 nza cNz 96 fNz)] sz) [(eO7a pa lx bk u.1 u.2.1 psk phe phr phs pop), (eO3a lx lby lfi lco lxe u.2.2.1 u.2.2.2.1 u.2.2.2.2.1 u.2.2.2.2.2.1 u.2.2.2.2.2.2.1), (eA0 lby cBy 900 fBy), (eA0 lco cCo 23 fCo), (eO0a bk bto bnm bla bsk bru bbo bdi bda bdk bdt bdp bno), (eA0 bto cTo 5 fTo), (eA4 bnm cNm 5 (fun k => some (Nm k))), (eA0 (Nm 1) cNr 12 (fNm 1)), (eA0 (Nm 2) cNr 12 (fNm 2)), (eA0 (Nm 4) cNr 12 (fNm 4)), (eO6a bno ns nsa nfa nza), (eA0 nsa cNs 12 u.2.2.2.2.2.2.2.1), (eA0 nfa cNf 96 u.2.2.2.2.2.2.2.2.1), (eA0 nza cNz 96 u.2.2.2.2.2.2.2.2.2)]) (va_A [(eO7a pa lx bk pfa pfp psk phe phr phs pop), (eO3a lx lby lfi lco lxe lxa lxt lxp lxn lxl), (eA0 lby cBy 900 fBy), (eA0 lco cCo 23 fCo), (eO0a bk bto bnm bla bsk bru bbo bdi bda bdk bdt bdp bno), (eA0 bto cTo 5 fTo), (eA4 bnm cNm 5 (fun k => some (Nm k))), (eA0 (Nm 1) cNr 12 (fNm 1)), (eA0 (Nm 2) cNr 12 (fNm 2)), (eA0 (Nm 4) cNr 12 (fNm 4)), (eO6a bno ns nsa nfa nza), (eA0 nsa cNs 12 fNs), (eA0 nfa cNf 96 fNf), (eA0 nza cNz 96 fNz)] sz)) 1 6 (va_A [(eO7a pa lx bk pfa pfp psk phe phr phs pop), (eO3a lx lby lfi lco lxe lxa lxt lxp lxn lxl), (eA0 lby cBy 900 fBy), (eA0 lco cCo 23 fCo), (eO0a bk bto bnm bla bsk bru bbo bdi bda bdk bdt bdp bno), (eA0 bto cTo 5 fTo), (eA4 bnm cNm 5 (fun k => some (Nm k))), (eA0 (Nm 1) cNr 12 (fNm 1)), (eA0 (Nm 2) cNr 12 (fNm 2)), (eA0 (Nm 4) cNr 12 (fNm 4)), (eO6a bno ns nsa nfa nza), (eA0 nsa cNs 12 fNs), (eA0 nfa cNf 96 fNf), (eA0 nza cNz 96 fNz)] sz) := by
  refine vx_ofW (cc := cX7_readSaying) (maxL := 5) (ret := none) (by decide) rfl ?_
  intro p e s m args below meth c s₁ B hml hex hv
  obtain ⟨rfl, hsz, hP, hK, hD0, hXL⟩ := hv
  have hx := B.exec
  have hb := B.bytes
  have hr := B.returns
  have hts := atoms_spec (ws := Cond.code yX7_readSaying cX7_readSaying 5 none :: wsL_law) B.pre
  have htw : ∀ w ∈ wsL_law, w.before _ s = true := fun w h => hts w (List.mem_cons_of_mem _ h)
  have hown : s.vm.findClass RX7 = some m.cls := findClass_of_methodNamed B.named
  have hlocks := B.notSynchronized
  subst hsz
  have hD := hD0.self (sz := s.heap.size)
  generalize hAe : va_A [(eO7a pa lx bk pfa pfp psk phe phr phs pop), (eO3a lx lby lfi lco lxe lxa lxt lxp lxn lxl), (eA0 lby cBy 900 fBy), (eA0 lco cCo 23 fCo), (eO0a bk bto bnm bla bsk bru bbo bdi bda bdk bdt bdp bno), (eA0 bto cTo 5 fTo), (eA4 bnm cNm 5 (fun k => some (Nm k))), (eA0 (Nm 1) cNr 12 (fNm 1)), (eA0 (Nm 2) cNr 12 (fNm 2)), (eA0 (Nm 4) cNr 12 (fNm 4)), (eO6a bno ns nsa nfa nza), (eA0 nsa cNs 12 fNs), (eA0 nfa cNf 96 fNf), (eA0 nza cNz 96 fNz)] s.heap.size = A at hD hXL ⊢
  have hA : ∀ q : Nat, s.heap.size ≤ q → A q := fun q h => by rw [← hAe]; exact Or.inr h
  obtain ⟨H, rH⟩ : ∃ z : Heap, z = s.heap := ⟨_, rfl⟩
  have hS : va_S A s.heap H [] := by rw [rH]; exact va_S.rf
  have hP : va_P (dC, dI) vwCl [(eO7a pa lx bk pfa pfp psk phe phr phs pop), (eO3a lx lby lfi lco lxe lxa lxt lxp lxn lxl), (eA0 lby cBy 900 fBy), (eA0 lco cCo 23 fCo), (eO0a bk bto bnm bla bsk bru bbo bdi bda bdk bdt bdp bno), (eA0 bto cTo 5 fTo), (eA4 bnm cNm 5 (fun k => some (Nm k))), (eA0 (Nm 1) cNr 12 (fNm 1)), (eA0 (Nm 2) cNr 12 (fNm 2)), (eA0 (Nm 4) cNr 12 (fNm 4)), (eO6a bno ns nsa nfa nza), (eA0 nsa cNs 12 fNs), (eA0 nfa cNf 96 fNf), (eA0 nza cNz 96 fNz)] H := by rw [rH]; exact hP
  rw [← rH]
  have hl := lv_entry ([.ref pa, .int a0, .int a1]) (n := 5) (Nat.le_of_ble_eq_true rfl)
  rw [lg_entry_eq]
  generalize (lg_sl ([.ref pa, .int a0, .int a1]) ++ List.replicate (5 - (lg_sl ([.ref pa, .int a0, .int a1])).length) Slot.unset).toArray = ls at hl ⊢
  have hl : lv_has ls 5 [(0, .ref pa), (1, .int a0), (2, .int a1)] := hl
  refine lv_iconst (v := 0) hx hb dX7_readSaying_0 (by decide) ?_
  refine lv_istore (lv' := [(4, .int 0), (0, .ref pa), (1, .int a0), (2, .int a1)]) hx hb dX7_readSaying_1 hl (by decide) rfl (fun ls hl => ?_)
  refine lv_iload_n hx hb dX7_readSaying_3 rfl (lv_at hl 3 rfl) ?_
  by_cases h_1 : a1 = 5
  · subst h_1
    refine lv_tableIn (off := 28) (tgt := 32) hx hb dX7_readSaying_4 (by decide) (by decide) (by decide) (by decide) ?_
    refine lv_aload_n hx hb dX7_readSaying_32 rfl (lv_at hl 1 rfl) ?_
    refine lv_iconst (v := 2) hx hb dX7_readSaying_33 (by decide) ?_
    refine xs_size (fun hHz => ?_)
    obtain ⟨hPc, hDc, hFc, hCc⟩ := zsub3 (ws' := [(eO7a pa lx bk pfa pfp psk phe phr phs pop), (eO3a lx lby lfi lco lxe lxa lxt lxp lxn lxl), (eA0 lby cBy 900 fBy), (eA0 lco cCo 23 fCo), (eO0a bk bto bnm bla bsk bru bbo bdi bda bdk bdt bdp bno), (eA0 bto cTo 5 fTo), (eA4 bnm cNm 5 (fun k => some (Nm k))), (eA0 (Nm 2) cNr 12 (fNm 2))]) hP hD hS hA [0, 1, 2, 3, 4, 5, 6, 8] (by decide +kernel) rfl
    have hKc := hK.sub (tys' := [(cBy, .byte), (cCo, .int), (cTo, .int), (cNm, .array .int), (cNr, .int)]) [0, 1, 2, 3, 4] rfl
    obtain ⟨X_2, hX_2⟩ : ∃ X9 : Int32 × Int32 × (Int32) × (Int32) × (Int32) × (Int32) × (Int32) × (Int32) × (Int32), X9 = (fp_known2 pfa pfp lxe lxa lxt lxp lxn lxl fBy fCo fTo fNm) := ⟨_, rfl⟩
    refine vx_calli (vx_runV (As := [.int 2]) (rest := []) ⟨hx, hb, hml, hown, htw⟩ (gp_known2 l hst dC dI pa lx bk pfa pfp psk phe phr phs pop lby lfi lco lxe lxa lxt lxp lxn lxl cBy fBy cCo fCo bto bnm bla bsk bru bbo bdi bda bdk bdt bdp bno cTo fTo cNm Nm cNr fNm sL H.size h0_lxa h9_lxe) (cwV 1 htw (xg_V (ck_22 _ (List.mem_of_getElem? (i := 12) rfl)) (ck_22 _ (List.mem_of_getElem? (i := 13) rfl)) (ck_22 _ (List.mem_of_getElem? (i := 14) rfl)) (ck_1 _ (List.mem_of_getElem? (i := 16) rfl)) (ck_22 _ (List.mem_of_getElem? (i := 15) rfl))) rfl rfl rfl (by exact ⟨rfl, hdc_15.1, hdc_15.2, hdd_2⟩) ⟨Nat.le_of_ble_eq_true rfl, Nat.le_of_ble_eq_true rfl⟩) ⟨fun a U g mk q => by obtain ⟨q0, q1, qP, qK, qD, qx0⟩ := q; exact ⟨q0, q1, qP, va_K.moved (u := U) (U := U.calling g mk a) (Vm.Alike.refl U.vm) qK, qD, xl.calling qx0⟩, va_recv hKc hPc (ci := 7) (q0 := 0) rfl rfl, fun U hU hW => ⟨rfl, by rw [hU], by rw [hU]; exact hPc, va_K.moved hW.alike hKc, hDc.weaken (fun _ _ _ _ => trivial), by rw [hU]; exact xl.warm hW ((xl.kept hXL hS.2.1).narrow hFc)⟩⟩ rfl rfl hl.1 rfl (lv_room (Nat.le_of_ble_eq_true rfl)) dX7_readSaying_34 ⟨Nat.le_of_ble_eq_true rfl, Nat.le_of_ble_eq_true rfl⟩) hS (fun q _ h => hFc q h) hFc (fun q _ h => hFc q h) (fun E ce q9 u_3 t H1 locs ht hvm hw hB hz1 hk1 hS hcell hcv hcl => ?_) (fun r_4 u_5 t H1 locs ht hvm hw hB hz1 hk1 hS => ?_)
    · obtain ⟨hE9, hB⟩ := hB
      subst hE9
      obtain ⟨hP1, hK1, hD1⟩ := hB
      rw [ht] at hP1
      have hK1 := va_K.moved hvm.symm hK1
      have hK1 : va_K (dC, dI) vwCl [] s := hK1
      obtain ⟨hP, hD⟩ := va_join (wr := [(eA0 (Nm 1) cNr 12 (fNm 1)), (eA0 (Nm 4) cNr 12 (fNm 4)), (eO6a bno ns nsa nfa nza), (eA0 nsa cNs 12 fNs), (eA0 nfa cNf 96 fNf), (eA0 nza cNz 96 fNz)]) (w1 := [(eO7a pa lx bk u_3.1 u_3.2.1 psk phe phr phs pop), (eO3a lx lby lfi lco lxe u_3.2.2.1 u_3.2.2.2.1 u_3.2.2.2.2.1 u_3.2.2.2.2.2.1 u_3.2.2.2.2.2.2), (eA0 lby cBy 900 fBy), (eA0 lco cCo 23 fCo), (eO0a bk bto bnm bla bsk bru bbo bdi bda bdk bdt bdp bno), (eA0 bto cTo 5 fTo), (eA4 bnm cNm 5 (fun k => some (Nm k))), (eA0 (Nm 2) cNr 12 (fNm 2))]) hP hD [0, 1, 2, 3, 4, 5, 6, 8] [7, 9, 10, 11, 12, 13] hCc rfl (by decide +kernel) (by decide +kernel) hk1 hFc hP1 hD1
      generalize H1 = H at hP hS hcell ⊢
      obtain ⟨hP, hD⟩ := zre [(eA0 (Nm 1) cNr 12 (fNm 1)), (eA0 (Nm 4) cNr 12 (fNm 4)), (eO6a bno ns nsa nfa nza), (eA0 nsa cNs 12 fNs), (eA0 nfa cNf 96 fNf), (eA0 nza cNz 96 fNz), (eO7a pa lx bk u_3.1 u_3.2.1 psk phe phr phs pop), (eO3a lx lby lfi lco lxe u_3.2.2.1 u_3.2.2.2.1 u_3.2.2.2.2.1 u_3.2.2.2.2.2.1 u_3.2.2.2.2.2.2), (eA0 lby cBy 900 fBy), (eA0 lco cCo 23 fCo), (eO0a bk bto bnm bla bsk bru bbo bdi bda bdk bdt bdp bno), (eA0 bto cTo 5 fTo), (eA4 bnm cNm 5 (fun k => some (Nm k))), (eA0 (Nm 2) cNr 12 (fNm 2))] hP hD rfl
      have hTX_2 : X_2.1 = 1 := by rw [hX_2]; exact hw.1
      have hq_u_3 : u_3 = X_2.2.2 := by rw [hX_2]; exact hw.2
      obtain ⟨hP9, hD9⟩ := zsub2 (ws' := [(eO7a pa lx bk u_3.1 u_3.2.1 psk phe phr phs pop), (eO3a lx lby lfi lco lxe u_3.2.2.1 u_3.2.2.2.1 u_3.2.2.2.2.1 u_3.2.2.2.2.2.1 u_3.2.2.2.2.2.2), (eA0 lby cBy 900 fBy), (eA0 lco cCo 23 fCo), (eO0a bk bto bnm bla bsk bru bbo bdi bda bdk bdt bdp bno), (eA0 bto cTo 5 fTo), (eA4 bnm cNm 5 (fun k => some (Nm k))), (eA0 (Nm 1) cNr 12 (fNm 1)), (eA0 (Nm 2) cNr 12 (fNm 2)), (eA0 (Nm 4) cNr 12 (fNm 4)), (eO6a bno ns nsa nfa nza), (eA0 nsa cNs 12 fNs), (eA0 nfa cNf 96 fNf), (eA0 nza cNz 96 fNz)]) hP hD [6, 7, 8, 9, 10, 11, 12, 0, 13, 1, 2, 3, 4, 5] (by decide +kernel) rfl
      have hK9 := hK.sub (tys' := []) [] rfl
      exact vx_widen (k := 1) (n := 6) (Nat.le_of_ble_eq_true rfl) (Nat.le_of_ble_eq_true rfl) (vx_out (fun x h9 => (hex x h9).elim) hlocks hcell hcv hcl (fun t ht hal => ⟨(u_3.1, u_3.2.1, u_3.2.2.1, u_3.2.2.2.1, u_3.2.2.2.2.1, u_3.2.2.2.2.2.1, u_3.2.2.2.2.2.2, fNs, fNf, fNz), ((fun e9 => ⟨by rw [e9], by rw [e9]⟩ : fp_readSaying pfa pfp lxe lxa lxt lxp lxn lxl fBy fCo fTo fNm fNs fNf fNz a0 (5 : Int32) = ((1 : Int32), u_3.1, u_3.2.1, u_3.2.2.1, u_3.2.2.2.1, u_3.2.2.2.2.1, u_3.2.2.2.2.2.1, u_3.2.2.2.2.2.2, fNs, fNf, fNz) → _) ((by rw [fp_readSaying]; (try rw [if_pos rfl]); (try rw [← hX_2]); (try rw [xL_eq]); (try rw [if_pos hTX_2]); (try rw [← hq_u_3]); try rfl))), ⟨rfl, by rw [ht]; exact hP9, va_K.moved hal hK9, hD9⟩, hS.F ht⟩) hS.2.2 (Nat.le_of_ble_eq_true rfl) (Nat.le_of_ble_eq_true rfl))
    · obtain ⟨hB, hsz9⟩ := hB
      obtain ⟨hP1, hK1, hD1⟩ := hB
      rw [ht] at hP1
      have hK1 := va_K.moved hvm.symm hK1
      have hK1 : va_K (dC, dI) vwCl [] s := hK1
      obtain ⟨hP, hD⟩ := va_join (wr := [(eA0 (Nm 1) cNr 12 (fNm 1)), (eA0 (Nm 4) cNr 12 (fNm 4)), (eO6a bno ns nsa nfa nza), (eA0 nsa cNs 12 fNs), (eA0 nfa cNf 96 fNf), (eA0 nza cNz 96 fNz)]) (w1 := [(eO7a pa lx bk u_5.1 u_5.2.1 psk phe phr phs pop), (eO3a lx lby lfi lco lxe u_5.2.2.1 u_5.2.2.2.1 u_5.2.2.2.2.1 u_5.2.2.2.2.2.1 u_5.2.2.2.2.2.2), (eA0 lby cBy 900 fBy), (eA0 lco cCo 23 fCo), (eO0a bk bto bnm bla bsk bru bbo bdi bda bdk bdt bdp bno), (eA0 bto cTo 5 fTo), (eA4 bnm cNm 5 (fun k => some (Nm k))), (eA0 (Nm 2) cNr 12 (fNm 2))]) hP hD [0, 1, 2, 3, 4, 5, 6, 8] [7, 9, 10, 11, 12, 13] rfl rfl (by decide +kernel) (by decide +kernel) hk1 hFc hP1 hD1
      refine xs_tight (show H1.size = s.heap.size by rw [← ht, hsz9]; exact hHz) ?_
      generalize H1 = H at hP hS ⊢
      obtain ⟨hP, hD⟩ := zre [(eA0 (Nm 1) cNr 12 (fNm 1)), (eA0 (Nm 4) cNr 12 (fNm 4)), (eO6a bno ns nsa nfa nza), (eA0 nsa cNs 12 fNs), (eA0 nfa cNf 96 fNf), (eA0 nza cNz 96 fNz), (eO7a pa lx bk u_5.1 u_5.2.1 psk phe phr phs pop), (eO3a lx lby lfi lco lxe u_5.2.2.1 u_5.2.2.2.1 u_5.2.2.2.2.1 u_5.2.2.2.2.2.1 u_5.2.2.2.2.2.2), (eA0 lby cBy 900 fBy), (eA0 lco cCo 23 fCo), (eO0a bk bto bnm bla bsk bru bbo bdi bda bdk bdt bdp bno), (eA0 bto cTo 5 fTo), (eA4 bnm cNm 5 (fun k => some (Nm k))), (eA0 (Nm 2) cNr 12 (fNm 2))] hP hD rfl
      obtain ⟨hw, hp_20⟩ := hw
      have hTX_2 : ¬ X_2.1 = 1 := by rw [hX_2, hw.1]; decide
      have hq_r_4 : r_4 = X_2.2.1 := by rw [hX_2]; exact hw.2.1
      have hq_u_5 : u_5 = X_2.2.2 := by rw [hX_2]; exact hw.2.2
      refine lv_istore_n (lv' := [(3, .int r_4), (4, .int 0), (0, .ref pa), (1, .int a0), (2, .int 5)]) hx hb dX7_readSaying_37 rfl hl (by decide) rfl (fun ls hl => ?_)
      refine lv_goto (tgt := 103) hx hb dX7_readSaying_38 (by decide) ?_
      refine lv_aload_n hx hb dX7_readSaying_103 rfl (lv_at hl 2 rfl) ?_
      refine va_get (D := (dC, dI)) (ci := 7) (v := .ref bk) (C := RX7) (T := TX7) (N := 9) hx hb htw inlX7 hown hK hP 6 rfl rfl 1 (by decide) (htw _ (ck_13 _ (List.mem_of_getElem? (i := 6) rfl))) (fun _ h9 => h9) rfl dX7_readSaying_104 ?_
      refine va_get (D := (dC, dI)) (ci := 0) (v := .ref bno) (C := RX0) (T := TX0) (N := 12) hx hb htw inlX0 hown hK hP 10 rfl rfl 11 (by decide) (htw _ (ck_23 _ (List.mem_of_getElem? (i := 0) rfl))) (fun _ h9 => h9) rfl dX7_readSaying_107 ?_
      refine lv_iload_n hx hb dX7_readSaying_110 rfl (lv_at hl 3 rfl) ?_
      refine lv_iload_n hx hb dX7_readSaying_111 rfl (lv_at hl 4 rfl) ?_
      refine lv_iload_n hx hb dX7_readSaying_112 rfl (lv_at hl 0 rfl) ?_
      refine lv_iload hx hb dX7_readSaying_113 (lv_at hl 1 rfl) ?_
      obtain ⟨hPc, hDc, hFc, hCc⟩ := zsub3 (ws' := [(eO6a bno ns nsa nfa nza), (eA0 nsa cNs 12 fNs), (eA0 nfa cNf 96 fNf), (eA0 nza cNz 96 fNz)]) hP hD hS hA [2, 3, 4, 5] (by decide) rfl
      have hKc := hK.sub (tys' := [(cNs, .int), (cNf, .int), (cNz, .int)]) [7, 8, 9] rfl
      refine va_callv (va_runV (As := [.int a0, .int 5, .int r_4, .int 0]) (rest := []) ⟨hx, hb, hml, hown, htw⟩ (gn_add l dC dI bno ns nsa nfa nza cNs fNs cNf fNf cNz fNz a0 (5 : Int32) r_4 (0 : Int32) H.size) (cwV 4 htw (xg_V (ck_23 _ (List.mem_of_getElem? (i := 17) rfl)) (ck_23 _ (List.mem_of_getElem? (i := 18) rfl)) (ck_23 _ (List.mem_of_getElem? (i := 19) rfl)) (ck_2 _ (List.mem_of_getElem? (i := 11) rfl)) (ck_23 _ (List.mem_of_getElem? (i := 20) rfl))) rfl rfl rfl (by exact ⟨rfl, hdc_3.1, hdc_3.2, hdd_49⟩) ⟨Nat.le_of_ble_eq_true rfl, Nat.le_of_ble_eq_true rfl⟩) ⟨fun a U g mk q => by obtain ⟨q0, q1, qP, qK, qD⟩ := q; exact ⟨q0, q1, qP, va_K.moved (u := U) (U := U.calling g mk a) (Vm.Alike.refl U.vm) qK, qD⟩, va_recv hKc hPc (ci := 6) (q0 := 0) rfl rfl, fun U hU hW => ⟨rfl, by rw [hU], by rw [hU]; exact hPc, va_K.moved hW.alike hKc, hDc.weaken (fun _ _ _ _ => trivial)⟩⟩ rfl rfl hl.1 rfl (lv_room (Nat.le_of_ble_eq_true rfl)) dX7_readSaying_115 ⟨Nat.le_of_ble_eq_true rfl, Nat.le_of_ble_eq_true rfl⟩) hS (fun q _ h => hFc q h) hFc (fun u_22 t H1 locs ht hvm hw hB hz1 hk1 hS => ?_)
      try dsimp only at hw
      obtain ⟨hP1, hK1, hD1⟩ := hB
      rw [ht] at hP1
      have hK1 := va_K.moved hvm.symm hK1
      have hK1 : va_K (dC, dI) vwCl [] s := hK1
      obtain ⟨hP, hD⟩ := va_join (wr := [(eA0 (Nm 1) cNr 12 (fNm 1)), (eA0 (Nm 4) cNr 12 (fNm 4)), (eO7a pa lx bk u_5.1 u_5.2.1 psk phe phr phs pop), (eO3a lx lby lfi lco lxe u_5.2.2.1 u_5.2.2.2.1 u_5.2.2.2.2.1 u_5.2.2.2.2.2.1 u_5.2.2.2.2.2.2), (eA0 lby cBy 900 fBy), (eA0 lco cCo 23 fCo), (eO0a bk bto bnm bla bsk bru bbo bdi bda bdk bdt bdp bno), (eA0 bto cTo 5 fTo), (eA4 bnm cNm 5 (fun k => some (Nm k))), (eA0 (Nm 2) cNr 12 (fNm 2))]) (w1 := [(eO6a bno ns nsa nfa nza), (eA0 nsa cNs 12 u_22.1), (eA0 nfa cNf 96 u_22.2.1), (eA0 nza cNz 96 u_22.2.2)]) hP hD [2, 3, 4, 5] [0, 1, 6, 7, 8, 9, 10, 11, 12, 13] hCc rfl (by decide +kernel) (by decide +kernel) hk1 hFc hP1 hD1
      generalize H1 = H at hP hS ⊢
      obtain ⟨hP, hD⟩ := zre [(eA0 (Nm 1) cNr 12 (fNm 1)), (eA0 (Nm 4) cNr 12 (fNm 4)), (eO7a pa lx bk u_5.1 u_5.2.1 psk phe phr phs pop), (eO3a lx lby lfi lco lxe u_5.2.2.1 u_5.2.2.2.1 u_5.2.2.2.2.1 u_5.2.2.2.2.2.1 u_5.2.2.2.2.2.2), (eA0 lby cBy 900 fBy), (eA0 lco cCo 23 fCo), (eO0a bk bto bnm bla bsk bru bbo bdi bda bdk bdt bdp bno), (eA0 bto cTo 5 fTo), (eA4 bnm cNm 5 (fun k => some (Nm k))), (eA0 (Nm 2) cNr 12 (fNm 2)), (eO6a bno ns nsa nfa nza), (eA0 nsa cNs 12 u_22.1), (eA0 nfa cNf 96 u_22.2.1), (eA0 nza cNz 96 u_22.2.2)] hP hD rfl
      refine W.widen (k := 0) (n := 0) (by omega) (by omega) ?_
      have hq_u_22 : u_22 = (fn_add fNs fNf fNz a0 (5 : Int32) r_4 (0 : Int32)) := hw
      refine xs_size (fun hHz => ?_)
      refine vx_ret ?_
      refine W.widen (k := 1) (n := 6) (by omega) (by omega) ?_
      obtain ⟨hP9, hD9⟩ := zsub2 (ws' := [(eO7a pa lx bk u_5.1 u_5.2.1 psk phe phr phs pop), (eO3a lx lby lfi lco lxe u_5.2.2.1 u_5.2.2.2.1 u_5.2.2.2.2.1 u_5.2.2.2.2.2.1 u_5.2.2.2.2.2.2), (eA0 lby cBy 900 fBy), (eA0 lco cCo 23 fCo), (eO0a bk bto bnm bla bsk bru bbo bdi bda bdk bdt bdp bno), (eA0 bto cTo 5 fTo), (eA4 bnm cNm 5 (fun k => some (Nm k))), (eA0 (Nm 1) cNr 12 (fNm 1)), (eA0 (Nm 2) cNr 12 (fNm 2)), (eA0 (Nm 4) cNr 12 (fNm 4)), (eO6a bno ns nsa nfa nza), (eA0 nsa cNs 12 u_22.1), (eA0 nfa cNf 96 u_22.2.1), (eA0 nza cNz 96 u_22.2.2)]) hP hD [2, 3, 4, 5, 6, 7, 8, 0, 9, 1, 10, 11, 12, 13] (by decide +kernel) rfl
      have hK9 := hK.sub (tys' := []) [] rfl
      exact W.vret hx hb hr (fun t ht hW => ⟨⟨(u_5.1, u_5.2.1, u_5.2.2.1, u_5.2.2.2.1, u_5.2.2.2.2.1, u_5.2.2.2.2.2.1, u_5.2.2.2.2.2.2, u_22.1, u_22.2.1, u_22.2.2), rfl, ⟨((fun e9 => ⟨by rw [e9], by rw [e9]⟩ : fp_readSaying pfa pfp lxe lxa lxt lxp lxn lxl fBy fCo fTo fNm fNs fNf fNz a0 (5 : Int32) = ((0 : Int32), u_5.1, u_5.2.1, u_5.2.2.1, u_5.2.2.2.1, u_5.2.2.2.2.1, u_5.2.2.2.2.2.1, u_5.2.2.2.2.2.2, u_22.1, u_22.2.1, u_22.2.2) → _) ((by rw [fp_readSaying]; (try rw [if_pos rfl]); (try rw [← hX_2]); (try rw [xL_eq]); (try rw [if_neg hTX_2]); (try rw [← hq_r_4]); (try rw [← hq_u_5]); (try rw [← hq_u_22]); (try rw [xL_eq]); try rfl))), (gp_readSaying_s0 (y0 := u_5.2.2.1) hp_20)⟩, ⟨by rw [ht]; exact hP9, va_K.moved hW.alike hK9, hD9⟩, by rw [ht]; first | exact hHz | exact hHz.trans (by rw [rH])⟩, hS.F ht⟩) hS.2.2 dX7_readSaying_118
  by_cases h_26 : a1 = 6
  · subst h_26
    refine lv_tableIn (off := 37) (tgt := 41) hx hb dX7_readSaying_4 (by decide) (by decide) (by decide) (by decide) ?_
    refine lv_aload_n hx hb dX7_readSaying_41 rfl (lv_at hl 1 rfl) ?_
    refine lv_iconst (v := 1) hx hb dX7_readSaying_42 (by decide) ?_
    refine xs_size (fun hHz => ?_)
    obtain ⟨hPc, hDc, hFc, hCc⟩ := zsub3 (ws' := [(eO7a pa lx bk pfa pfp psk phe phr phs pop), (eO3a lx lby lfi lco lxe lxa lxt lxp lxn lxl), (eA0 lby cBy 900 fBy), (eA0 lco cCo 23 fCo), (eO0a bk bto bnm bla bsk bru bbo bdi bda bdk bdt bdp bno), (eA0 bto cTo 5 fTo), (eA4 bnm cNm 5 (fun k => some (Nm k))), (eA0 (Nm 1) cNr 12 (fNm 1))]) hP hD hS hA [0, 1, 2, 3, 4, 5, 6, 7] (by decide +kernel) rfl
    have hKc := hK.sub (tys' := [(cBy, .byte), (cCo, .int), (cTo, .int), (cNm, .array .int), (cNr, .int)]) [0, 1, 2, 3, 4] rfl
    obtain ⟨X_27, hX_27⟩ : ∃ X9 : Int32 × Int32 × (Int32) × (Int32) × (Int32) × (Int32) × (Int32) × (Int32) × (Int32), X9 = (fp_known1 pfa pfp lxe lxa lxt lxp lxn lxl fBy fCo fTo fNm) := ⟨_, rfl⟩
    refine vx_calli (vx_runV (As := [.int 1]) (rest := []) ⟨hx, hb, hml, hown, htw⟩ (gp_known1 l hst dC dI pa lx bk pfa pfp psk phe phr phs pop lby lfi lco lxe lxa lxt lxp lxn lxl cBy fBy cCo fCo bto bnm bla bsk bru bbo bdi bda bdk bdt bdp bno cTo fTo cNm Nm cNr fNm sL H.size h0_lxa h9_lxe) (cwV 1 htw (xg_V (ck_22 _ (List.mem_of_getElem? (i := 12) rfl)) (ck_22 _ (List.mem_of_getElem? (i := 13) rfl)) (ck_22 _ (List.mem_of_getElem? (i := 14) rfl)) (ck_1 _ (List.mem_of_getElem? (i := 16) rfl)) (ck_22 _ (List.mem_of_getElem? (i := 15) rfl))) rfl rfl rfl (by exact ⟨rfl, hdc_15.1, hdc_15.2, hdd_2⟩) ⟨Nat.le_of_ble_eq_true rfl, Nat.le_of_ble_eq_true rfl⟩) ⟨fun a U g mk q => by obtain ⟨q0, q1, qP, qK, qD, qx0⟩ := q; exact ⟨q0, q1, qP, va_K.moved (u := U) (U := U.calling g mk a) (Vm.Alike.refl U.vm) qK, qD, xl.calling qx0⟩, va_recv hKc hPc (ci := 7) (q0 := 0) rfl rfl, fun U hU hW => ⟨rfl, by rw [hU], by rw [hU]; exact hPc, va_K.moved hW.alike hKc, hDc.weaken (fun _ _ _ _ => trivial), by rw [hU]; exact xl.warm hW ((xl.kept hXL hS.2.1).narrow hFc)⟩⟩ rfl rfl hl.1 rfl (lv_room (Nat.le_of_ble_eq_true rfl)) dX7_readSaying_43 ⟨Nat.le_of_ble_eq_true rfl, Nat.le_of_ble_eq_true rfl⟩) hS (fun q _ h => hFc q h) hFc (fun q _ h => hFc q h) (fun E ce q9 u_28 t H1 locs ht hvm hw hB hz1 hk1 hS hcell hcv hcl => ?_) (fun r_29 u_30 t H1 locs ht hvm hw hB hz1 hk1 hS => ?_)
    · obtain ⟨hE9, hB⟩ := hB
      subst hE9
      obtain ⟨hP1, hK1, hD1⟩ := hB
      rw [ht] at hP1
      have hK1 := va_K.moved hvm.symm hK1
      have hK1 : va_K (dC, dI) vwCl [] s := hK1
      obtain ⟨hP, hD⟩ := va_join (wr := [(eA0 (Nm 2) cNr 12 (fNm 2)), (eA0 (Nm 4) cNr 12 (fNm 4)), (eO6a bno ns nsa nfa nza), (eA0 nsa cNs 12 fNs), (eA0 nfa cNf 96 fNf), (eA0 nza cNz 96 fNz)]) (w1 := [(eO7a pa lx bk u_28.1 u_28.2.1 psk phe phr phs pop), (eO3a lx lby lfi lco lxe u_28.2.2.1 u_28.2.2.2.1 u_28.2.2.2.2.1 u_28.2.2.2.2.2.1 u_28.2.2.2.2.2.2), (eA0 lby cBy 900 fBy), (eA0 lco cCo 23 fCo), (eO0a bk bto bnm bla bsk bru bbo bdi bda bdk bdt bdp bno), (eA0 bto cTo 5 fTo), (eA4 bnm cNm 5 (fun k => some (Nm k))), (eA0 (Nm 1) cNr 12 (fNm 1))]) hP hD [0, 1, 2, 3, 4, 5, 6, 7] [8, 9, 10, 11, 12, 13] hCc rfl (by decide +kernel) (by decide +kernel) hk1 hFc hP1 hD1
      generalize H1 = H at hP hS hcell ⊢
      obtain ⟨hP, hD⟩ := zre [(eA0 (Nm 2) cNr 12 (fNm 2)), (eA0 (Nm 4) cNr 12 (fNm 4)), (eO6a bno ns nsa nfa nza), (eA0 nsa cNs 12 fNs), (eA0 nfa cNf 96 fNf), (eA0 nza cNz 96 fNz), (eO7a pa lx bk u_28.1 u_28.2.1 psk phe phr phs pop), (eO3a lx lby lfi lco lxe u_28.2.2.1 u_28.2.2.2.1 u_28.2.2.2.2.1 u_28.2.2.2.2.2.1 u_28.2.2.2.2.2.2), (eA0 lby cBy 900 fBy), (eA0 lco cCo 23 fCo), (eO0a bk bto bnm bla bsk bru bbo bdi bda bdk bdt bdp bno), (eA0 bto cTo 5 fTo), (eA4 bnm cNm 5 (fun k => some (Nm k))), (eA0 (Nm 1) cNr 12 (fNm 1))] hP hD rfl
      have hTX_27 : X_27.1 = 1 := by rw [hX_27]; exact hw.1
      have hq_u_28 : u_28 = X_27.2.2 := by rw [hX_27]; exact hw.2
      obtain ⟨hP9, hD9⟩ := zsub2 (ws' := [(eO7a pa lx bk u_28.1 u_28.2.1 psk phe phr phs pop), (eO3a lx lby lfi lco lxe u_28.2.2.1 u_28.2.2.2.1 u_28.2.2.2.2.1 u_28.2.2.2.2.2.1 u_28.2.2.2.2.2.2), (eA0 lby cBy 900 fBy), (eA0 lco cCo 23 fCo), (eO0a bk bto bnm bla bsk bru bbo bdi bda bdk bdt bdp bno), (eA0 bto cTo 5 fTo), (eA4 bnm cNm 5 (fun k => some (Nm k))), (eA0 (Nm 1) cNr 12 (fNm 1)), (eA0 (Nm 2) cNr 12 (fNm 2)), (eA0 (Nm 4) cNr 12 (fNm 4)), (eO6a bno ns nsa nfa nza), (eA0 nsa cNs 12 fNs), (eA0 nfa cNf 96 fNf), (eA0 nza cNz 96 fNz)]) hP hD [6, 7, 8, 9, 10, 11, 12, 13, 0, 1, 2, 3, 4, 5] (by decide +kernel) rfl
      have hK9 := hK.sub (tys' := []) [] rfl
      exact vx_widen (k := 1) (n := 6) (Nat.le_of_ble_eq_true rfl) (Nat.le_of_ble_eq_true rfl) (vx_out (fun x h9 => (hex x h9).elim) hlocks hcell hcv hcl (fun t ht hal => ⟨(u_28.1, u_28.2.1, u_28.2.2.1, u_28.2.2.2.1, u_28.2.2.2.2.1, u_28.2.2.2.2.2.1, u_28.2.2.2.2.2.2, fNs, fNf, fNz), ((fun e9 => ⟨by rw [e9], by rw [e9]⟩ : fp_readSaying pfa pfp lxe lxa lxt lxp lxn lxl fBy fCo fTo fNm fNs fNf fNz a0 (6 : Int32) = ((1 : Int32), u_28.1, u_28.2.1, u_28.2.2.1, u_28.2.2.2.1, u_28.2.2.2.2.1, u_28.2.2.2.2.2.1, u_28.2.2.2.2.2.2, fNs, fNf, fNz) → _) ((by rw [fp_readSaying]; (try rw [if_neg h_1]); (try rw [if_pos rfl]); (try rw [← hX_27]); (try rw [xL_eq]); (try rw [if_pos hTX_27]); (try rw [← hq_u_28]); try rfl))), ⟨rfl, by rw [ht]; exact hP9, va_K.moved hal hK9, hD9⟩, hS.F ht⟩) hS.2.2 (Nat.le_of_ble_eq_true rfl) (Nat.le_of_ble_eq_true rfl))
    · obtain ⟨hB, hsz9⟩ := hB
      obtain ⟨hP1, hK1, hD1⟩ := hB
      rw [ht] at hP1
      have hK1 := va_K.moved hvm.symm hK1
      have hK1 : va_K (dC, dI) vwCl [] s := hK1
      obtain ⟨hP, hD⟩ := va_join (wr := [(eA0 (Nm 2) cNr 12 (fNm 2)), (eA0 (Nm 4) cNr 12 (fNm 4)), (eO6a bno ns nsa nfa nza), (eA0 nsa cNs 12 fNs), (eA0 nfa cNf 96 fNf), (eA0 nza cNz 96 fNz)]) (w1 := [(eO7a pa lx bk u_30.1 u_30.2.1 psk phe phr phs pop), (eO3a lx lby lfi lco lxe u_30.2.2.1 u_30.2.2.2.1 u_30.2.2.2.2.1 u_30.2.2.2.2.2.1 u_30.2.2.2.2.2.2), (eA0 lby cBy 900 fBy), (eA0 lco cCo 23 fCo), (eO0a bk bto bnm bla bsk bru bbo bdi bda bdk bdt bdp bno), (eA0 bto cTo 5 fTo), (eA4 bnm cNm 5 (fun k => some (Nm k))), (eA0 (Nm 1) cNr 12 (fNm 1))]) hP hD [0, 1, 2, 3, 4, 5, 6, 7] [8, 9, 10, 11, 12, 13] rfl rfl (by decide +kernel) (by decide +kernel) hk1 hFc hP1 hD1
      refine xs_tight (show H1.size = s.heap.size by rw [← ht, hsz9]; exact hHz) ?_
      generalize H1 = H at hP hS ⊢
      obtain ⟨hP, hD⟩ := zre [(eA0 (Nm 2) cNr 12 (fNm 2)), (eA0 (Nm 4) cNr 12 (fNm 4)), (eO6a bno ns nsa nfa nza), (eA0 nsa cNs 12 fNs), (eA0 nfa cNf 96 fNf), (eA0 nza cNz 96 fNz), (eO7a pa lx bk u_30.1 u_30.2.1 psk phe phr phs pop), (eO3a lx lby lfi lco lxe u_30.2.2.1 u_30.2.2.2.1 u_30.2.2.2.2.1 u_30.2.2.2.2.2.1 u_30.2.2.2.2.2.2), (eA0 lby cBy 900 fBy), (eA0 lco cCo 23 fCo), (eO0a bk bto bnm bla bsk bru bbo bdi bda bdk bdt bdp bno), (eA0 bto cTo 5 fTo), (eA4 bnm cNm 5 (fun k => some (Nm k))), (eA0 (Nm 1) cNr 12 (fNm 1))] hP hD rfl
      obtain ⟨hw, hp_45⟩ := hw
      have hTX_27 : ¬ X_27.1 = 1 := by rw [hX_27, hw.1]; decide
      have hq_r_29 : r_29 = X_27.2.1 := by rw [hX_27]; exact hw.2.1
      have hq_u_30 : u_30 = X_27.2.2 := by rw [hX_27]; exact hw.2.2
      refine lv_istore_n (lv' := [(3, .int r_29), (4, .int 0), (0, .ref pa), (1, .int a0), (2, .int 6)]) hx hb dX7_readSaying_46 rfl hl (by decide) rfl (fun ls hl => ?_)
      refine lv_goto (tgt := 103) hx hb dX7_readSaying_47 (by decide) ?_
      refine lv_aload_n hx hb dX7_readSaying_103 rfl (lv_at hl 2 rfl) ?_
      refine va_get (D := (dC, dI)) (ci := 7) (v := .ref bk) (C := RX7) (T := TX7) (N := 9) hx hb htw inlX7 hown hK hP 6 rfl rfl 1 (by decide) (htw _ (ck_13 _ (List.mem_of_getElem? (i := 6) rfl))) (fun _ h9 => h9) rfl dX7_readSaying_104 ?_
      refine va_get (D := (dC, dI)) (ci := 0) (v := .ref bno) (C := RX0) (T := TX0) (N := 12) hx hb htw inlX0 hown hK hP 10 rfl rfl 11 (by decide) (htw _ (ck_23 _ (List.mem_of_getElem? (i := 0) rfl))) (fun _ h9 => h9) rfl dX7_readSaying_107 ?_
      refine lv_iload_n hx hb dX7_readSaying_110 rfl (lv_at hl 3 rfl) ?_
      refine lv_iload_n hx hb dX7_readSaying_111 rfl (lv_at hl 4 rfl) ?_
      refine lv_iload_n hx hb dX7_readSaying_112 rfl (lv_at hl 0 rfl) ?_
      refine lv_iload hx hb dX7_readSaying_113 (lv_at hl 1 rfl) ?_
      obtain ⟨hPc, hDc, hFc, hCc⟩ := zsub3 (ws' := [(eO6a bno ns nsa nfa nza), (eA0 nsa cNs 12 fNs), (eA0 nfa cNf 96 fNf), (eA0 nza cNz 96 fNz)]) hP hD hS hA [2, 3, 4, 5] (by decide) rfl
      have hKc := hK.sub (tys' := [(cNs, .int), (cNf, .int), (cNz, .int)]) [7, 8, 9] rfl
      refine va_callv (va_runV (As := [.int a0, .int 6, .int r_29, .int 0]) (rest := []) ⟨hx, hb, hml, hown, htw⟩ (gn_add l dC dI bno ns nsa nfa nza cNs fNs cNf fNf cNz fNz a0 (6 : Int32) r_29 (0 : Int32) H.size) (cwV 4 htw (xg_V (ck_23 _ (List.mem_of_getElem? (i := 17) rfl)) (ck_23 _ (List.mem_of_getElem? (i := 18) rfl)) (ck_23 _ (List.mem_of_getElem? (i := 19) rfl)) (ck_2 _ (List.mem_of_getElem? (i := 11) rfl)) (ck_23 _ (List.mem_of_getElem? (i := 20) rfl))) rfl rfl rfl (by exact ⟨rfl, hdc_3.1, hdc_3.2, hdd_49⟩) ⟨Nat.le_of_ble_eq_true rfl, Nat.le_of_ble_eq_true rfl⟩) ⟨fun a U g mk q => by obtain ⟨q0, q1, qP, qK, qD⟩ := q; exact ⟨q0, q1, qP, va_K.moved (u := U) (U := U.calling g mk a) (Vm.Alike.refl U.vm) qK, qD⟩, va_recv hKc hPc (ci := 6) (q0 := 0) rfl rfl, fun U hU hW => ⟨rfl, by rw [hU], by rw [hU]; exact hPc, va_K.moved hW.alike hKc, hDc.weaken (fun _ _ _ _ => trivial)⟩⟩ rfl rfl hl.1 rfl (lv_room (Nat.le_of_ble_eq_true rfl)) dX7_readSaying_115 ⟨Nat.le_of_ble_eq_true rfl, Nat.le_of_ble_eq_true rfl⟩) hS (fun q _ h => hFc q h) hFc (fun u_47 t H1 locs ht hvm hw hB hz1 hk1 hS => ?_)
      try dsimp only at hw
      obtain ⟨hP1, hK1, hD1⟩ := hB
      rw [ht] at hP1
      have hK1 := va_K.moved hvm.symm hK1
      have hK1 : va_K (dC, dI) vwCl [] s := hK1
      obtain ⟨hP, hD⟩ := va_join (wr := [(eA0 (Nm 2) cNr 12 (fNm 2)), (eA0 (Nm 4) cNr 12 (fNm 4)), (eO7a pa lx bk u_30.1 u_30.2.1 psk phe phr phs pop), (eO3a lx lby lfi lco lxe u_30.2.2.1 u_30.2.2.2.1 u_30.2.2.2.2.1 u_30.2.2.2.2.2.1 u_30.2.2.2.2.2.2), (eA0 lby cBy 900 fBy), (eA0 lco cCo 23 fCo), (eO0a bk bto bnm bla bsk bru bbo bdi bda bdk bdt bdp bno), (eA0 bto cTo 5 fTo), (eA4 bnm cNm 5 (fun k => some (Nm k))), (eA0 (Nm 1) cNr 12 (fNm 1))]) (w1 := [(eO6a bno ns nsa nfa nza), (eA0 nsa cNs 12 u_47.1), (eA0 nfa cNf 96 u_47.2.1), (eA0 nza cNz 96 u_47.2.2)]) hP hD [2, 3, 4, 5] [0, 1, 6, 7, 8, 9, 10, 11, 12, 13] hCc rfl (by decide +kernel) (by decide +kernel) hk1 hFc hP1 hD1
      generalize H1 = H at hP hS ⊢
      obtain ⟨hP, hD⟩ := zre [(eA0 (Nm 2) cNr 12 (fNm 2)), (eA0 (Nm 4) cNr 12 (fNm 4)), (eO7a pa lx bk u_30.1 u_30.2.1 psk phe phr phs pop), (eO3a lx lby lfi lco lxe u_30.2.2.1 u_30.2.2.2.1 u_30.2.2.2.2.1 u_30.2.2.2.2.2.1 u_30.2.2.2.2.2.2), (eA0 lby cBy 900 fBy), (eA0 lco cCo 23 fCo), (eO0a bk bto bnm bla bsk bru bbo bdi bda bdk bdt bdp bno), (eA0 bto cTo 5 fTo), (eA4 bnm cNm 5 (fun k => some (Nm k))), (eA0 (Nm 1) cNr 12 (fNm 1)), (eO6a bno ns nsa nfa nza), (eA0 nsa cNs 12 u_47.1), (eA0 nfa cNf 96 u_47.2.1), (eA0 nza cNz 96 u_47.2.2)] hP hD rfl
      refine W.widen (k := 0) (n := 0) (by omega) (by omega) ?_
      have hq_u_47 : u_47 = (fn_add fNs fNf fNz a0 (6 : Int32) r_29 (0 : Int32)) := hw
      refine xs_size (fun hHz => ?_)
      refine vx_ret ?_
      refine W.widen (k := 1) (n := 6) (by omega) (by omega) ?_
      obtain ⟨hP9, hD9⟩ := zsub2 (ws' := [(eO7a pa lx bk u_30.1 u_30.2.1 psk phe phr phs pop), (eO3a lx lby lfi lco lxe u_30.2.2.1 u_30.2.2.2.1 u_30.2.2.2.2.1 u_30.2.2.2.2.2.1 u_30.2.2.2.2.2.2), (eA0 lby cBy 900 fBy), (eA0 lco cCo 23 fCo), (eO0a bk bto bnm bla bsk bru bbo bdi bda bdk bdt bdp bno), (eA0 bto cTo 5 fTo), (eA4 bnm cNm 5 (fun k => some (Nm k))), (eA0 (Nm 1) cNr 12 (fNm 1)), (eA0 (Nm 2) cNr 12 (fNm 2)), (eA0 (Nm 4) cNr 12 (fNm 4)), (eO6a bno ns nsa nfa nza), (eA0 nsa cNs 12 u_47.1), (eA0 nfa cNf 96 u_47.2.1), (eA0 nza cNz 96 u_47.2.2)]) hP hD [2, 3, 4, 5, 6, 7, 8, 9, 0, 1, 10, 11, 12, 13] (by decide +kernel) rfl
      have hK9 := hK.sub (tys' := []) [] rfl
      exact W.vret hx hb hr (fun t ht hW => ⟨⟨(u_30.1, u_30.2.1, u_30.2.2.1, u_30.2.2.2.1, u_30.2.2.2.2.1, u_30.2.2.2.2.2.1, u_30.2.2.2.2.2.2, u_47.1, u_47.2.1, u_47.2.2), rfl, ⟨((fun e9 => ⟨by rw [e9], by rw [e9]⟩ : fp_readSaying pfa pfp lxe lxa lxt lxp lxn lxl fBy fCo fTo fNm fNs fNf fNz a0 (6 : Int32) = ((0 : Int32), u_30.1, u_30.2.1, u_30.2.2.1, u_30.2.2.2.1, u_30.2.2.2.2.1, u_30.2.2.2.2.2.1, u_30.2.2.2.2.2.2, u_47.1, u_47.2.1, u_47.2.2) → _) ((by rw [fp_readSaying]; (try rw [if_neg h_1]); (try rw [if_pos rfl]); (try rw [← hX_27]); (try rw [xL_eq]); (try rw [if_neg hTX_27]); (try rw [← hq_r_29]); (try rw [← hq_u_30]); (try rw [← hq_u_47]); (try rw [xL_eq]); try rfl))), (gp_readSaying_s1 (y0 := u_30.2.2.1) hp_45)⟩, ⟨by rw [ht]; exact hP9, va_K.moved hW.alike hK9, hD9⟩, by rw [ht]; first | exact hHz | exact hHz.trans (by rw [rH])⟩, hS.F ht⟩) hS.2.2 dX7_readSaying_118
  by_cases h_51 : a1 = 7
  · subst h_51
    refine lv_tableIn (off := 46) (tgt := 50) hx hb dX7_readSaying_4 (by decide) (by decide) (by decide) (by decide) ?_
    refine lv_aload_n hx hb dX7_readSaying_50 rfl (lv_at hl 1 rfl) ?_
    refine lv_iconst (v := 4) hx hb dX7_readSaying_51 (by decide) ?_
    refine xs_size (fun hHz => ?_)
    obtain ⟨hPc, hDc, hFc, hCc⟩ := zsub3 (ws' := [(eO7a pa lx bk pfa pfp psk phe phr phs pop), (eO3a lx lby lfi lco lxe lxa lxt lxp lxn lxl), (eA0 lby cBy 900 fBy), (eA0 lco cCo 23 fCo), (eO0a bk bto bnm bla bsk bru bbo bdi bda bdk bdt bdp bno), (eA0 bto cTo 5 fTo), (eA4 bnm cNm 5 (fun k => some (Nm k))), (eA0 (Nm 4) cNr 12 (fNm 4))]) hP hD hS hA [0, 1, 2, 3, 4, 5, 6, 9] (by decide +kernel) rfl
    have hKc := hK.sub (tys' := [(cBy, .byte), (cCo, .int), (cTo, .int), (cNm, .array .int), (cNr, .int)]) [0, 1, 2, 3, 4] rfl
    obtain ⟨X_52, hX_52⟩ : ∃ X9 : Int32 × Int32 × (Int32) × (Int32) × (Int32) × (Int32) × (Int32) × (Int32) × (Int32), X9 = (fp_known4 pfa pfp lxe lxa lxt lxp lxn lxl fBy fCo fTo fNm) := ⟨_, rfl⟩
    refine vx_calli (vx_runV (As := [.int 4]) (rest := []) ⟨hx, hb, hml, hown, htw⟩ (gp_known4 l hst dC dI pa lx bk pfa pfp psk phe phr phs pop lby lfi lco lxe lxa lxt lxp lxn lxl cBy fBy cCo fCo bto bnm bla bsk bru bbo bdi bda bdk bdt bdp bno cTo fTo cNm Nm cNr fNm sL H.size h0_lxa h9_lxe) (cwV 1 htw (xg_V (ck_22 _ (List.mem_of_getElem? (i := 12) rfl)) (ck_22 _ (List.mem_of_getElem? (i := 13) rfl)) (ck_22 _ (List.mem_of_getElem? (i := 14) rfl)) (ck_1 _ (List.mem_of_getElem? (i := 16) rfl)) (ck_22 _ (List.mem_of_getElem? (i := 15) rfl))) rfl rfl rfl (by exact ⟨rfl, hdc_15.1, hdc_15.2, hdd_2⟩) ⟨Nat.le_of_ble_eq_true rfl, Nat.le_of_ble_eq_true rfl⟩) ⟨fun a U g mk q => by obtain ⟨q0, q1, qP, qK, qD, qx0⟩ := q; exact ⟨q0, q1, qP, va_K.moved (u := U) (U := U.calling g mk a) (Vm.Alike.refl U.vm) qK, qD, xl.calling qx0⟩, va_recv hKc hPc (ci := 7) (q0 := 0) rfl rfl, fun U hU hW => ⟨rfl, by rw [hU], by rw [hU]; exact hPc, va_K.moved hW.alike hKc, hDc.weaken (fun _ _ _ _ => trivial), by rw [hU]; exact xl.warm hW ((xl.kept hXL hS.2.1).narrow hFc)⟩⟩ rfl rfl hl.1 rfl (lv_room (Nat.le_of_ble_eq_true rfl)) dX7_readSaying_52 ⟨Nat.le_of_ble_eq_true rfl, Nat.le_of_ble_eq_true rfl⟩) hS (fun q _ h => hFc q h) hFc (fun q _ h => hFc q h) (fun E ce q9 u_53 t H1 locs ht hvm hw hB hz1 hk1 hS hcell hcv hcl => ?_) (fun r_54 u_55 t H1 locs ht hvm hw hB hz1 hk1 hS => ?_)
    · obtain ⟨hE9, hB⟩ := hB
      subst hE9
      obtain ⟨hP1, hK1, hD1⟩ := hB
      rw [ht] at hP1
      have hK1 := va_K.moved hvm.symm hK1
      have hK1 : va_K (dC, dI) vwCl [] s := hK1
      obtain ⟨hP, hD⟩ := va_join (wr := [(eA0 (Nm 1) cNr 12 (fNm 1)), (eA0 (Nm 2) cNr 12 (fNm 2)), (eO6a bno ns nsa nfa nza), (eA0 nsa cNs 12 fNs), (eA0 nfa cNf 96 fNf), (eA0 nza cNz 96 fNz)]) (w1 := [(eO7a pa lx bk u_53.1 u_53.2.1 psk phe phr phs pop), (eO3a lx lby lfi lco lxe u_53.2.2.1 u_53.2.2.2.1 u_53.2.2.2.2.1 u_53.2.2.2.2.2.1 u_53.2.2.2.2.2.2), (eA0 lby cBy 900 fBy), (eA0 lco cCo 23 fCo), (eO0a bk bto bnm bla bsk bru bbo bdi bda bdk bdt bdp bno), (eA0 bto cTo 5 fTo), (eA4 bnm cNm 5 (fun k => some (Nm k))), (eA0 (Nm 4) cNr 12 (fNm 4))]) hP hD [0, 1, 2, 3, 4, 5, 6, 9] [7, 8, 10, 11, 12, 13] hCc rfl (by decide +kernel) (by decide +kernel) hk1 hFc hP1 hD1
      generalize H1 = H at hP hS hcell ⊢
      obtain ⟨hP, hD⟩ := zre [(eA0 (Nm 1) cNr 12 (fNm 1)), (eA0 (Nm 2) cNr 12 (fNm 2)), (eO6a bno ns nsa nfa nza), (eA0 nsa cNs 12 fNs), (eA0 nfa cNf 96 fNf), (eA0 nza cNz 96 fNz), (eO7a pa lx bk u_53.1 u_53.2.1 psk phe phr phs pop), (eO3a lx lby lfi lco lxe u_53.2.2.1 u_53.2.2.2.1 u_53.2.2.2.2.1 u_53.2.2.2.2.2.1 u_53.2.2.2.2.2.2), (eA0 lby cBy 900 fBy), (eA0 lco cCo 23 fCo), (eO0a bk bto bnm bla bsk bru bbo bdi bda bdk bdt bdp bno), (eA0 bto cTo 5 fTo), (eA4 bnm cNm 5 (fun k => some (Nm k))), (eA0 (Nm 4) cNr 12 (fNm 4))] hP hD rfl
      have hTX_52 : X_52.1 = 1 := by rw [hX_52]; exact hw.1
      have hq_u_53 : u_53 = X_52.2.2 := by rw [hX_52]; exact hw.2
      obtain ⟨hP9, hD9⟩ := zsub2 (ws' := [(eO7a pa lx bk u_53.1 u_53.2.1 psk phe phr phs pop), (eO3a lx lby lfi lco lxe u_53.2.2.1 u_53.2.2.2.1 u_53.2.2.2.2.1 u_53.2.2.2.2.2.1 u_53.2.2.2.2.2.2), (eA0 lby cBy 900 fBy), (eA0 lco cCo 23 fCo), (eO0a bk bto bnm bla bsk bru bbo bdi bda bdk bdt bdp bno), (eA0 bto cTo 5 fTo), (eA4 bnm cNm 5 (fun k => some (Nm k))), (eA0 (Nm 1) cNr 12 (fNm 1)), (eA0 (Nm 2) cNr 12 (fNm 2)), (eA0 (Nm 4) cNr 12 (fNm 4)), (eO6a bno ns nsa nfa nza), (eA0 nsa cNs 12 fNs), (eA0 nfa cNf 96 fNf), (eA0 nza cNz 96 fNz)]) hP hD [6, 7, 8, 9, 10, 11, 12, 0, 1, 13, 2, 3, 4, 5] (by decide +kernel) rfl
      have hK9 := hK.sub (tys' := []) [] rfl
      exact vx_widen (k := 1) (n := 6) (Nat.le_of_ble_eq_true rfl) (Nat.le_of_ble_eq_true rfl) (vx_out (fun x h9 => (hex x h9).elim) hlocks hcell hcv hcl (fun t ht hal => ⟨(u_53.1, u_53.2.1, u_53.2.2.1, u_53.2.2.2.1, u_53.2.2.2.2.1, u_53.2.2.2.2.2.1, u_53.2.2.2.2.2.2, fNs, fNf, fNz), ((fun e9 => ⟨by rw [e9], by rw [e9]⟩ : fp_readSaying pfa pfp lxe lxa lxt lxp lxn lxl fBy fCo fTo fNm fNs fNf fNz a0 (7 : Int32) = ((1 : Int32), u_53.1, u_53.2.1, u_53.2.2.1, u_53.2.2.2.1, u_53.2.2.2.2.1, u_53.2.2.2.2.2.1, u_53.2.2.2.2.2.2, fNs, fNf, fNz) → _) ((by rw [fp_readSaying]; (try rw [if_neg h_1]); (try rw [if_neg h_26]); (try rw [if_pos rfl]); (try rw [← hX_52]); (try rw [xL_eq]); (try rw [if_pos hTX_52]); (try rw [← hq_u_53]); try rfl))), ⟨rfl, by rw [ht]; exact hP9, va_K.moved hal hK9, hD9⟩, hS.F ht⟩) hS.2.2 (Nat.le_of_ble_eq_true rfl) (Nat.le_of_ble_eq_true rfl))
    · obtain ⟨hB, hsz9⟩ := hB
      obtain ⟨hP1, hK1, hD1⟩ := hB
      rw [ht] at hP1
      have hK1 := va_K.moved hvm.symm hK1
      have hK1 : va_K (dC, dI) vwCl [] s := hK1
      obtain ⟨hP, hD⟩ := va_join (wr := [(eA0 (Nm 1) cNr 12 (fNm 1)), (eA0 (Nm 2) cNr 12 (fNm 2)), (eO6a bno ns nsa nfa nza), (eA0 nsa cNs 12 fNs), (eA0 nfa cNf 96 fNf), (eA0 nza cNz 96 fNz)]) (w1 := [(eO7a pa lx bk u_55.1 u_55.2.1 psk phe phr phs pop), (eO3a lx lby lfi lco lxe u_55.2.2.1 u_55.2.2.2.1 u_55.2.2.2.2.1 u_55.2.2.2.2.2.1 u_55.2.2.2.2.2.2), (eA0 lby cBy 900 fBy), (eA0 lco cCo 23 fCo), (eO0a bk bto bnm bla bsk bru bbo bdi bda bdk bdt bdp bno), (eA0 bto cTo 5 fTo), (eA4 bnm cNm 5 (fun k => some (Nm k))), (eA0 (Nm 4) cNr 12 (fNm 4))]) hP hD [0, 1, 2, 3, 4, 5, 6, 9] [7, 8, 10, 11, 12, 13] rfl rfl (by decide +kernel) (by decide +kernel) hk1 hFc hP1 hD1
      refine xs_tight (show H1.size = s.heap.size by rw [← ht, hsz9]; exact hHz) ?_
      generalize H1 = H at hP hS ⊢
      obtain ⟨hP, hD⟩ := zre [(eA0 (Nm 1) cNr 12 (fNm 1)), (eA0 (Nm 2) cNr 12 (fNm 2)), (eO6a bno ns nsa nfa nza), (eA0 nsa cNs 12 fNs), (eA0 nfa cNf 96 fNf), (eA0 nza cNz 96 fNz), (eO7a pa lx bk u_55.1 u_55.2.1 psk phe phr phs pop), (eO3a lx lby lfi lco lxe u_55.2.2.1 u_55.2.2.2.1 u_55.2.2.2.2.1 u_55.2.2.2.2.2.1 u_55.2.2.2.2.2.2), (eA0 lby cBy 900 fBy), (eA0 lco cCo 23 fCo), (eO0a bk bto bnm bla bsk bru bbo bdi bda bdk bdt bdp bno), (eA0 bto cTo 5 fTo), (eA4 bnm cNm 5 (fun k => some (Nm k))), (eA0 (Nm 4) cNr 12 (fNm 4))] hP hD rfl
      obtain ⟨hw, hp_70⟩ := hw
      have hTX_52 : ¬ X_52.1 = 1 := by rw [hX_52, hw.1]; decide
      have hq_r_54 : r_54 = X_52.2.1 := by rw [hX_52]; exact hw.2.1
      have hq_u_55 : u_55 = X_52.2.2 := by rw [hX_52]; exact hw.2.2
      refine lv_istore_n (lv' := [(3, .int r_54), (4, .int 0), (0, .ref pa), (1, .int a0), (2, .int 7)]) hx hb dX7_readSaying_55 rfl hl (by decide) rfl (fun ls hl => ?_)
      refine lv_aload_n hx hb dX7_readSaying_56 rfl (lv_at hl 2 rfl) ?_
      refine lv_sipush (v := 9999) hx hb dX7_readSaying_57 (by decide) ?_
      refine xs_size (fun hHz => ?_)
      obtain ⟨hPc, hDc, hFc, hCc⟩ := zsub3 (ws' := [(eO7a pa lx bk u_55.1 u_55.2.1 psk phe phr phs pop), (eO3a lx lby lfi lco lxe u_55.2.2.1 u_55.2.2.2.1 u_55.2.2.2.2.1 u_55.2.2.2.2.2.1 u_55.2.2.2.2.2.2), (eA0 lby cBy 900 fBy), (eA0 lco cCo 23 fCo)]) hP hD hS hA [6, 7, 8, 9] (by decide) rfl
      have hKc := hK.sub (tys' := [(cBy, .byte), (cCo, .int)]) [0, 1] rfl
      obtain ⟨X_71, hX_71⟩ : ∃ X9 : Int32 × Int32 × (Int32) × (Int32) × (Int32) × (Int32) × (Int32) × (Int32) × (Int32), X9 = (fp_signedUpTo u_55.1 u_55.2.1 lxe u_55.2.2.1 u_55.2.2.2.1 u_55.2.2.2.2.1 u_55.2.2.2.2.2.1 u_55.2.2.2.2.2.2 fBy fCo (9999 : Int32)) := ⟨_, rfl⟩
      refine vx_calli (vx_runV (As := [.int 9999]) (rest := []) ⟨hx, hb, hml, hown, htw⟩ (gp_signedUpTo l hst dC dI pa lx bk u_55.1 u_55.2.1 psk phe phr phs pop lby lfi lco lxe u_55.2.2.1 u_55.2.2.2.1 u_55.2.2.2.2.1 u_55.2.2.2.2.2.1 u_55.2.2.2.2.2.2 cBy fBy cCo fCo (9999 : Int32) sL H.size (gp_readSaying_s2 (y0 := u_55.2.2.1) hp_70) h9_lxe) (cwV 1 htw (xg_V (ck_16 _ (List.mem_of_getElem? (i := 21) rfl)) (ck_16 _ (List.mem_of_getElem? (i := 22) rfl)) (ck_16 _ (List.mem_of_getElem? (i := 23) rfl)) (ck_1 _ (List.mem_of_getElem? (i := 16) rfl)) (ck_17 _ (List.mem_of_getElem? (i := 0) rfl))) rfl rfl rfl (by exact ⟨rfl, hdc_15.1, hdc_15.2, hdd_2⟩) ⟨Nat.le_of_ble_eq_true rfl, Nat.le_of_ble_eq_true rfl⟩) ⟨fun a U g mk q => by obtain ⟨q0, q1, qP, qK, qD, qx0⟩ := q; exact ⟨q0, q1, qP, va_K.moved (u := U) (U := U.calling g mk a) (Vm.Alike.refl U.vm) qK, qD, xl.calling qx0⟩, va_recv hKc hPc (ci := 7) (q0 := 0) rfl rfl, fun U hU hW => ⟨rfl, by rw [hU], by rw [hU]; exact hPc, va_K.moved hW.alike hKc, hDc.weaken (fun _ _ _ _ => trivial), by rw [hU]; exact xl.warm hW ((xl.kept hXL hS.2.1).narrow hFc)⟩⟩ rfl rfl hl.1 rfl (lv_room (Nat.le_of_ble_eq_true rfl)) dX7_readSaying_60 ⟨Nat.le_of_ble_eq_true rfl, Nat.le_of_ble_eq_true rfl⟩) hS (fun q _ h => hFc q h) hFc (fun q _ h => hFc q h) (fun E ce q9 u_72 t H1 locs ht hvm hw hB hz1 hk1 hS hcell hcv hcl => ?_) (fun r_73 u_74 t H1 locs ht hvm hw hB hz1 hk1 hS => ?_)
      · obtain ⟨hE9, hB⟩ := hB
        subst hE9
        obtain ⟨hP1, hK1, hD1⟩ := hB
        rw [ht] at hP1
        have hK1 := va_K.moved hvm.symm hK1
        have hK1 : va_K (dC, dI) vwCl [] s := hK1
        obtain ⟨hP, hD⟩ := va_join (wr := [(eA0 (Nm 1) cNr 12 (fNm 1)), (eA0 (Nm 2) cNr 12 (fNm 2)), (eO6a bno ns nsa nfa nza), (eA0 nsa cNs 12 fNs), (eA0 nfa cNf 96 fNf), (eA0 nza cNz 96 fNz), (eO0a bk bto bnm bla bsk bru bbo bdi bda bdk bdt bdp bno), (eA0 bto cTo 5 fTo), (eA4 bnm cNm 5 (fun k => some (Nm k))), (eA0 (Nm 4) cNr 12 (fNm 4))]) (w1 := [(eO7a pa lx bk u_72.1 u_72.2.1 psk phe phr phs pop), (eO3a lx lby lfi lco lxe u_72.2.2.1 u_72.2.2.2.1 u_72.2.2.2.2.1 u_72.2.2.2.2.2.1 u_72.2.2.2.2.2.2), (eA0 lby cBy 900 fBy), (eA0 lco cCo 23 fCo)]) hP hD [6, 7, 8, 9] [0, 1, 2, 3, 4, 5, 10, 11, 12, 13] hCc rfl (by decide +kernel) (by decide +kernel) hk1 hFc hP1 hD1
        generalize H1 = H at hP hS hcell ⊢
        obtain ⟨hP, hD⟩ := zre [(eA0 (Nm 1) cNr 12 (fNm 1)), (eA0 (Nm 2) cNr 12 (fNm 2)), (eO6a bno ns nsa nfa nza), (eA0 nsa cNs 12 fNs), (eA0 nfa cNf 96 fNf), (eA0 nza cNz 96 fNz), (eO0a bk bto bnm bla bsk bru bbo bdi bda bdk bdt bdp bno), (eA0 bto cTo 5 fTo), (eA4 bnm cNm 5 (fun k => some (Nm k))), (eA0 (Nm 4) cNr 12 (fNm 4)), (eO7a pa lx bk u_72.1 u_72.2.1 psk phe phr phs pop), (eO3a lx lby lfi lco lxe u_72.2.2.1 u_72.2.2.2.1 u_72.2.2.2.2.1 u_72.2.2.2.2.2.1 u_72.2.2.2.2.2.2), (eA0 lby cBy 900 fBy), (eA0 lco cCo 23 fCo)] hP hD rfl
        have hTX_71 : X_71.1 = 1 := by rw [hX_71]; exact hw.1
        have hq_u_72 : u_72 = X_71.2.2 := by rw [hX_71]; exact hw.2
        obtain ⟨hP9, hD9⟩ := zsub2 (ws' := [(eO7a pa lx bk u_72.1 u_72.2.1 psk phe phr phs pop), (eO3a lx lby lfi lco lxe u_72.2.2.1 u_72.2.2.2.1 u_72.2.2.2.2.1 u_72.2.2.2.2.2.1 u_72.2.2.2.2.2.2), (eA0 lby cBy 900 fBy), (eA0 lco cCo 23 fCo), (eO0a bk bto bnm bla bsk bru bbo bdi bda bdk bdt bdp bno), (eA0 bto cTo 5 fTo), (eA4 bnm cNm 5 (fun k => some (Nm k))), (eA0 (Nm 1) cNr 12 (fNm 1)), (eA0 (Nm 2) cNr 12 (fNm 2)), (eA0 (Nm 4) cNr 12 (fNm 4)), (eO6a bno ns nsa nfa nza), (eA0 nsa cNs 12 fNs), (eA0 nfa cNf 96 fNf), (eA0 nza cNz 96 fNz)]) hP hD [10, 11, 12, 13, 6, 7, 8, 0, 1, 9, 2, 3, 4, 5] (by decide +kernel) rfl
        have hK9 := hK.sub (tys' := []) [] rfl
        exact vx_widen (k := 1) (n := 6) (Nat.le_of_ble_eq_true rfl) (Nat.le_of_ble_eq_true rfl) (vx_out (fun x h9 => (hex x h9).elim) hlocks hcell hcv hcl (fun t ht hal => ⟨(u_72.1, u_72.2.1, u_72.2.2.1, u_72.2.2.2.1, u_72.2.2.2.2.1, u_72.2.2.2.2.2.1, u_72.2.2.2.2.2.2, fNs, fNf, fNz), ((fun e9 => ⟨by rw [e9], by rw [e9]⟩ : fp_readSaying pfa pfp lxe lxa lxt lxp lxn lxl fBy fCo fTo fNm fNs fNf fNz a0 (7 : Int32) = ((1 : Int32), u_72.1, u_72.2.1, u_72.2.2.1, u_72.2.2.2.1, u_72.2.2.2.2.1, u_72.2.2.2.2.2.1, u_72.2.2.2.2.2.2, fNs, fNf, fNz) → _) ((by rw [fp_readSaying]; (try rw [if_neg h_1]); (try rw [if_neg h_26]); (try rw [if_pos rfl]); (try rw [← hX_52]); (try rw [xL_eq]); (try rw [if_neg hTX_52]); (try rw [← hq_r_54]); (try rw [← hq_u_55]); (try rw [← hX_71]); (try rw [xL_eq]); (try rw [if_pos hTX_71]); (try rw [← hq_u_72]); try rfl))), ⟨rfl, by rw [ht]; exact hP9, va_K.moved hal hK9, hD9⟩, hS.F ht⟩) hS.2.2 (Nat.le_of_ble_eq_true rfl) (Nat.le_of_ble_eq_true rfl))
      · obtain ⟨hB, hsz9⟩ := hB
        obtain ⟨hP1, hK1, hD1⟩ := hB
        rw [ht] at hP1
        have hK1 := va_K.moved hvm.symm hK1
        have hK1 : va_K (dC, dI) vwCl [] s := hK1
        obtain ⟨hP, hD⟩ := va_join (wr := [(eA0 (Nm 1) cNr 12 (fNm 1)), (eA0 (Nm 2) cNr 12 (fNm 2)), (eO6a bno ns nsa nfa nza), (eA0 nsa cNs 12 fNs), (eA0 nfa cNf 96 fNf), (eA0 nza cNz 96 fNz), (eO0a bk bto bnm bla bsk bru bbo bdi bda bdk bdt bdp bno), (eA0 bto cTo 5 fTo), (eA4 bnm cNm 5 (fun k => some (Nm k))), (eA0 (Nm 4) cNr 12 (fNm 4))]) (w1 := [(eO7a pa lx bk u_74.1 u_74.2.1 psk phe phr phs pop), (eO3a lx lby lfi lco lxe u_74.2.2.1 u_74.2.2.2.1 u_74.2.2.2.2.1 u_74.2.2.2.2.2.1 u_74.2.2.2.2.2.2), (eA0 lby cBy 900 fBy), (eA0 lco cCo 23 fCo)]) hP hD [6, 7, 8, 9] [0, 1, 2, 3, 4, 5, 10, 11, 12, 13] rfl rfl (by decide +kernel) (by decide +kernel) hk1 hFc hP1 hD1
        refine xs_tight (show H1.size = s.heap.size by rw [← ht, hsz9]; exact hHz) ?_
        generalize H1 = H at hP hS ⊢
        obtain ⟨hP, hD⟩ := zre [(eA0 (Nm 1) cNr 12 (fNm 1)), (eA0 (Nm 2) cNr 12 (fNm 2)), (eO6a bno ns nsa nfa nza), (eA0 nsa cNs 12 fNs), (eA0 nfa cNf 96 fNf), (eA0 nza cNz 96 fNz), (eO0a bk bto bnm bla bsk bru bbo bdi bda bdk bdt bdp bno), (eA0 bto cTo 5 fTo), (eA4 bnm cNm 5 (fun k => some (Nm k))), (eA0 (Nm 4) cNr 12 (fNm 4)), (eO7a pa lx bk u_74.1 u_74.2.1 psk phe phr phs pop), (eO3a lx lby lfi lco lxe u_74.2.2.1 u_74.2.2.2.1 u_74.2.2.2.2.1 u_74.2.2.2.2.2.1 u_74.2.2.2.2.2.2), (eA0 lby cBy 900 fBy), (eA0 lco cCo 23 fCo)] hP hD rfl
        obtain ⟨hw, hp_89⟩ := hw
        have hTX_71 : ¬ X_71.1 = 1 := by rw [hX_71, hw.1]; decide
        have hq_r_73 : r_73 = X_71.2.1 := by rw [hX_71]; exact hw.2.1
        have hq_u_74 : u_74 = X_71.2.2 := by rw [hX_71]; exact hw.2.2
        refine lv_istore (lv' := [(4, .int r_73), (3, .int r_54), (0, .ref pa), (1, .int a0), (2, .int 7)]) hx hb dX7_readSaying_63 hl (by decide) rfl (fun ls hl => ?_)
        refine lv_goto (tgt := 103) hx hb dX7_readSaying_65 (by decide) ?_
        refine lv_aload_n hx hb dX7_readSaying_103 rfl (lv_at hl 2 rfl) ?_
        refine va_get (D := (dC, dI)) (ci := 7) (v := .ref bk) (C := RX7) (T := TX7) (N := 9) hx hb htw inlX7 hown hK hP 10 rfl rfl 1 (by decide) (htw _ (ck_13 _ (List.mem_of_getElem? (i := 6) rfl))) (fun _ h9 => h9) rfl dX7_readSaying_104 ?_
        refine va_get (D := (dC, dI)) (ci := 0) (v := .ref bno) (C := RX0) (T := TX0) (N := 12) hx hb htw inlX0 hown hK hP 6 rfl rfl 11 (by decide) (htw _ (ck_23 _ (List.mem_of_getElem? (i := 0) rfl))) (fun _ h9 => h9) rfl dX7_readSaying_107 ?_
        refine lv_iload_n hx hb dX7_readSaying_110 rfl (lv_at hl 3 rfl) ?_
        refine lv_iload_n hx hb dX7_readSaying_111 rfl (lv_at hl 4 rfl) ?_
        refine lv_iload_n hx hb dX7_readSaying_112 rfl (lv_at hl 1 rfl) ?_
        refine lv_iload hx hb dX7_readSaying_113 (lv_at hl 0 rfl) ?_
        obtain ⟨hPc, hDc, hFc, hCc⟩ := zsub3 (ws' := [(eO6a bno ns nsa nfa nza), (eA0 nsa cNs 12 fNs), (eA0 nfa cNf 96 fNf), (eA0 nza cNz 96 fNz)]) hP hD hS hA [2, 3, 4, 5] (by decide) rfl
        have hKc := hK.sub (tys' := [(cNs, .int), (cNf, .int), (cNz, .int)]) [7, 8, 9] rfl
        refine va_callv (va_runV (As := [.int a0, .int 7, .int r_54, .int r_73]) (rest := []) ⟨hx, hb, hml, hown, htw⟩ (gn_add l dC dI bno ns nsa nfa nza cNs fNs cNf fNf cNz fNz a0 (7 : Int32) r_54 r_73 H.size) (cwV 4 htw (xg_V (ck_23 _ (List.mem_of_getElem? (i := 17) rfl)) (ck_23 _ (List.mem_of_getElem? (i := 18) rfl)) (ck_23 _ (List.mem_of_getElem? (i := 19) rfl)) (ck_2 _ (List.mem_of_getElem? (i := 11) rfl)) (ck_23 _ (List.mem_of_getElem? (i := 20) rfl))) rfl rfl rfl (by exact ⟨rfl, hdc_3.1, hdc_3.2, hdd_49⟩) ⟨Nat.le_of_ble_eq_true rfl, Nat.le_of_ble_eq_true rfl⟩) ⟨fun a U g mk q => by obtain ⟨q0, q1, qP, qK, qD⟩ := q; exact ⟨q0, q1, qP, va_K.moved (u := U) (U := U.calling g mk a) (Vm.Alike.refl U.vm) qK, qD⟩, va_recv hKc hPc (ci := 6) (q0 := 0) rfl rfl, fun U hU hW => ⟨rfl, by rw [hU], by rw [hU]; exact hPc, va_K.moved hW.alike hKc, hDc.weaken (fun _ _ _ _ => trivial)⟩⟩ rfl rfl hl.1 rfl (lv_room (Nat.le_of_ble_eq_true rfl)) dX7_readSaying_115 ⟨Nat.le_of_ble_eq_true rfl, Nat.le_of_ble_eq_true rfl⟩) hS (fun q _ h => hFc q h) hFc (fun u_91 t H1 locs ht hvm hw hB hz1 hk1 hS => ?_)
        try dsimp only at hw
        obtain ⟨hP1, hK1, hD1⟩ := hB
        rw [ht] at hP1
        have hK1 := va_K.moved hvm.symm hK1
        have hK1 : va_K (dC, dI) vwCl [] s := hK1
        obtain ⟨hP, hD⟩ := va_join (wr := [(eA0 (Nm 1) cNr 12 (fNm 1)), (eA0 (Nm 2) cNr 12 (fNm 2)), (eO0a bk bto bnm bla bsk bru bbo bdi bda bdk bdt bdp bno), (eA0 bto cTo 5 fTo), (eA4 bnm cNm 5 (fun k => some (Nm k))), (eA0 (Nm 4) cNr 12 (fNm 4)), (eO7a pa lx bk u_74.1 u_74.2.1 psk phe phr phs pop), (eO3a lx lby lfi lco lxe u_74.2.2.1 u_74.2.2.2.1 u_74.2.2.2.2.1 u_74.2.2.2.2.2.1 u_74.2.2.2.2.2.2), (eA0 lby cBy 900 fBy), (eA0 lco cCo 23 fCo)]) (w1 := [(eO6a bno ns nsa nfa nza), (eA0 nsa cNs 12 u_91.1), (eA0 nfa cNf 96 u_91.2.1), (eA0 nza cNz 96 u_91.2.2)]) hP hD [2, 3, 4, 5] [0, 1, 6, 7, 8, 9, 10, 11, 12, 13] hCc rfl (by decide +kernel) (by decide +kernel) hk1 hFc hP1 hD1
        generalize H1 = H at hP hS ⊢
        obtain ⟨hP, hD⟩ := zre [(eA0 (Nm 1) cNr 12 (fNm 1)), (eA0 (Nm 2) cNr 12 (fNm 2)), (eO0a bk bto bnm bla bsk bru bbo bdi bda bdk bdt bdp bno), (eA0 bto cTo 5 fTo), (eA4 bnm cNm 5 (fun k => some (Nm k))), (eA0 (Nm 4) cNr 12 (fNm 4)), (eO7a pa lx bk u_74.1 u_74.2.1 psk phe phr phs pop), (eO3a lx lby lfi lco lxe u_74.2.2.1 u_74.2.2.2.1 u_74.2.2.2.2.1 u_74.2.2.2.2.2.1 u_74.2.2.2.2.2.2), (eA0 lby cBy 900 fBy), (eA0 lco cCo 23 fCo), (eO6a bno ns nsa nfa nza), (eA0 nsa cNs 12 u_91.1), (eA0 nfa cNf 96 u_91.2.1), (eA0 nza cNz 96 u_91.2.2)] hP hD rfl
        refine W.widen (k := 0) (n := 0) (by omega) (by omega) ?_
        have hq_u_91 : u_91 = (fn_add fNs fNf fNz a0 (7 : Int32) r_54 r_73) := hw
        refine xs_size (fun hHz => ?_)
        refine vx_ret ?_
        refine W.widen (k := 1) (n := 6) (by omega) (by omega) ?_
        obtain ⟨hP9, hD9⟩ := zsub2 (ws' := [(eO7a pa lx bk u_74.1 u_74.2.1 psk phe phr phs pop), (eO3a lx lby lfi lco lxe u_74.2.2.1 u_74.2.2.2.1 u_74.2.2.2.2.1 u_74.2.2.2.2.2.1 u_74.2.2.2.2.2.2), (eA0 lby cBy 900 fBy), (eA0 lco cCo 23 fCo), (eO0a bk bto bnm bla bsk bru bbo bdi bda bdk bdt bdp bno), (eA0 bto cTo 5 fTo), (eA4 bnm cNm 5 (fun k => some (Nm k))), (eA0 (Nm 1) cNr 12 (fNm 1)), (eA0 (Nm 2) cNr 12 (fNm 2)), (eA0 (Nm 4) cNr 12 (fNm 4)), (eO6a bno ns nsa nfa nza), (eA0 nsa cNs 12 u_91.1), (eA0 nfa cNf 96 u_91.2.1), (eA0 nza cNz 96 u_91.2.2)]) hP hD [6, 7, 8, 9, 2, 3, 4, 0, 1, 5, 10, 11, 12, 13] (by decide +kernel) rfl
        have hK9 := hK.sub (tys' := []) [] rfl
        exact W.vret hx hb hr (fun t ht hW => ⟨⟨(u_74.1, u_74.2.1, u_74.2.2.1, u_74.2.2.2.1, u_74.2.2.2.2.1, u_74.2.2.2.2.2.1, u_74.2.2.2.2.2.2, u_91.1, u_91.2.1, u_91.2.2), rfl, ⟨((fun e9 => ⟨by rw [e9], by rw [e9]⟩ : fp_readSaying pfa pfp lxe lxa lxt lxp lxn lxl fBy fCo fTo fNm fNs fNf fNz a0 (7 : Int32) = ((0 : Int32), u_74.1, u_74.2.1, u_74.2.2.1, u_74.2.2.2.1, u_74.2.2.2.2.1, u_74.2.2.2.2.2.1, u_74.2.2.2.2.2.2, u_91.1, u_91.2.1, u_91.2.2) → _) ((by rw [fp_readSaying]; (try rw [if_neg h_1]); (try rw [if_neg h_26]); (try rw [if_pos rfl]); (try rw [← hX_52]); (try rw [xL_eq]); (try rw [if_neg hTX_52]); (try rw [← hq_r_54]); (try rw [← hq_u_55]); (try rw [← hX_71]); (try rw [xL_eq]); (try rw [if_neg hTX_71]); (try rw [← hq_r_73]); (try rw [← hq_u_74]); (try rw [← hq_u_91]); (try rw [xL_eq]); try rfl))), (gp_readSaying_s3 (y0 := u_74.2.2.1) hp_89)⟩, ⟨by rw [ht]; exact hP9, va_K.moved hW.alike hK9, hD9⟩, by rw [ht]; first | exact hHz | exact hHz.trans (by rw [rH])⟩, hS.F ht⟩) hS.2.2 dX7_readSaying_118
  refine lv_tableOut (tgt := 68) hx hb dX7_readSaying_4 (by have a0 := xg_ne h_1; have a1 := xg_ne h_26; have a2 := xg_ne h_51; have b0 : (5 : Int32).toInt = 5 := rfl; have b1 : (6 : Int32).toInt = 6 := rfl; have b2 : (7 : Int32).toInt = 7 := rfl; omega) (by decide) ?_
  refine lv_aload_n hx hb dX7_readSaying_68 rfl (lv_at hl 1 rfl) ?_
  refine va_getsN hx hb hXL.2.2.2.1 hS hown (va_Nw.use rfl (hXL.2.2.2.2.2.2.2.2.1)) (fun _ h9 => h9) dX7_readSaying_69 ?_
  refine lv_iload_n hx hb dX7_readSaying_72 rfl (lv_at hl 3 rfl) ?_
  refine va_ti hx hb hXL.2.2.2.2.1 hS (xg_inr (N := 5) rfl (gp_readSaying_s4 (y0 := a1) h_1 h_26 h_51 hsw0 hsw8).1 (gp_readSaying_s4 (y0 := a1) h_1 h_26 h_51 hsw0 hsw8).2) (v := .int (xk_least a1.toNatClampNeg)) rfl dX7_readSaying_73 ?_
  refine va_getsN hx hb hXL.2.2.2.2.2.1 hS hown (va_Nw.use rfl (hXL.2.2.2.2.2.2.2.2.2)) (fun _ h9 => h9) dX7_readSaying_74 ?_
  refine lv_iload_n hx hb dX7_readSaying_77 rfl (lv_at hl 3 rfl) ?_
  refine va_ti hx hb hXL.2.2.2.2.2.2.1 hS (xg_inr (N := 5) rfl (gp_readSaying_s5 (y0 := a1) h_1 h_26 h_51 hsw0 hsw8).1 (gp_readSaying_s5 (y0 := a1) h_1 h_26 h_51 hsw0 hsw8).2) (v := .int (xk_mosts a1.toNatClampNeg)) rfl dX7_readSaying_78 ?_
  refine xs_size (fun hHz => ?_)
  obtain ⟨hPc, hDc, hFc, hCc⟩ := zsub3 (ws' := [(eO7a pa lx bk pfa pfp psk phe phr phs pop), (eO3a lx lby lfi lco lxe lxa lxt lxp lxn lxl), (eA0 lby cBy 900 fBy), (eA0 lco cCo 23 fCo)]) hP hD hS hA [0, 1, 2, 3] (by decide) rfl
  have hKc := hK.sub (tys' := [(cBy, .byte), (cCo, .int)]) [0, 1] rfl
  obtain ⟨X_95, hX_95⟩ : ∃ X9 : Int32 × Int32 × (Int32) × (Int32) × (Int32) × (Int32) × (Int32) × (Int32) × (Int32), X9 = (fp_numberIn pfa pfp lxe lxa lxt lxp lxn lxl fBy fCo (xk_least a1.toNatClampNeg) (xk_mosts a1.toNatClampNeg)) := ⟨_, rfl⟩
  refine vx_calli (vx_runV (As := [.int (xk_least a1.toNatClampNeg), .int (xk_mosts a1.toNatClampNeg)]) (rest := []) ⟨hx, hb, hml, hown, htw⟩ (gp_numberIn l hst dC dI pa lx bk pfa pfp psk phe phr phs pop lby lfi lco lxe lxa lxt lxp lxn lxl cBy fBy cCo fCo (xk_least a1.toNatClampNeg) (xk_mosts a1.toNatClampNeg) sL H.size h0_lxa h9_lxe) (cwV 2 htw (xg_V (ck_16 _ (List.mem_of_getElem? (i := 16) rfl)) (ck_16 _ (List.mem_of_getElem? (i := 17) rfl)) (ck_16 _ (List.mem_of_getElem? (i := 18) rfl)) (ck_1 _ (List.mem_of_getElem? (i := 16) rfl)) (ck_16 _ (List.mem_of_getElem? (i := 19) rfl))) rfl rfl rfl (by exact ⟨rfl, hdc_15.1, hdc_15.2, hdd_7⟩) ⟨Nat.le_of_ble_eq_true rfl, Nat.le_of_ble_eq_true rfl⟩) ⟨fun a U g mk q => by obtain ⟨q0, q1, qP, qK, qD, qx0⟩ := q; exact ⟨q0, q1, qP, va_K.moved (u := U) (U := U.calling g mk a) (Vm.Alike.refl U.vm) qK, qD, xl.calling qx0⟩, va_recv hKc hPc (ci := 7) (q0 := 0) rfl rfl, fun U hU hW => ⟨rfl, by rw [hU], by rw [hU]; exact hPc, va_K.moved hW.alike hKc, hDc.weaken (fun _ _ _ _ => trivial), by rw [hU]; exact xl.warm hW ((xl.kept hXL hS.2.1).narrow hFc)⟩⟩ rfl rfl hl.1 rfl (lv_room (Nat.le_of_ble_eq_true rfl)) dX7_readSaying_79 ⟨Nat.le_of_ble_eq_true rfl, Nat.le_of_ble_eq_true rfl⟩) hS (fun q _ h => hFc q h) hFc (fun q _ h => hFc q h) (fun E ce q9 u_96 t H1 locs ht hvm hw hB hz1 hk1 hS hcell hcv hcl => ?_) (fun r_97 u_98 t H1 locs ht hvm hw hB hz1 hk1 hS => ?_)
  · obtain ⟨hE9, hB⟩ := hB
    subst hE9
    obtain ⟨hP1, hK1, hD1⟩ := hB
    rw [ht] at hP1
    have hK1 := va_K.moved hvm.symm hK1
    have hK1 : va_K (dC, dI) vwCl [] s := hK1
    obtain ⟨hP, hD⟩ := va_join (wr := [(eO0a bk bto bnm bla bsk bru bbo bdi bda bdk bdt bdp bno), (eA0 bto cTo 5 fTo), (eA4 bnm cNm 5 (fun k => some (Nm k))), (eA0 (Nm 1) cNr 12 (fNm 1)), (eA0 (Nm 2) cNr 12 (fNm 2)), (eA0 (Nm 4) cNr 12 (fNm 4)), (eO6a bno ns nsa nfa nza), (eA0 nsa cNs 12 fNs), (eA0 nfa cNf 96 fNf), (eA0 nza cNz 96 fNz)]) (w1 := [(eO7a pa lx bk u_96.1 u_96.2.1 psk phe phr phs pop), (eO3a lx lby lfi lco lxe u_96.2.2.1 u_96.2.2.2.1 u_96.2.2.2.2.1 u_96.2.2.2.2.2.1 u_96.2.2.2.2.2.2), (eA0 lby cBy 900 fBy), (eA0 lco cCo 23 fCo)]) hP hD [0, 1, 2, 3] [4, 5, 6, 7, 8, 9, 10, 11, 12, 13] hCc rfl (by decide +kernel) (by decide +kernel) hk1 hFc hP1 hD1
    generalize H1 = H at hP hS hcell ⊢
    obtain ⟨hP, hD⟩ := zre [(eO0a bk bto bnm bla bsk bru bbo bdi bda bdk bdt bdp bno), (eA0 bto cTo 5 fTo), (eA4 bnm cNm 5 (fun k => some (Nm k))), (eA0 (Nm 1) cNr 12 (fNm 1)), (eA0 (Nm 2) cNr 12 (fNm 2)), (eA0 (Nm 4) cNr 12 (fNm 4)), (eO6a bno ns nsa nfa nza), (eA0 nsa cNs 12 fNs), (eA0 nfa cNf 96 fNf), (eA0 nza cNz 96 fNz), (eO7a pa lx bk u_96.1 u_96.2.1 psk phe phr phs pop), (eO3a lx lby lfi lco lxe u_96.2.2.1 u_96.2.2.2.1 u_96.2.2.2.2.1 u_96.2.2.2.2.2.1 u_96.2.2.2.2.2.2), (eA0 lby cBy 900 fBy), (eA0 lco cCo 23 fCo)] hP hD rfl
    have hTX_95 : X_95.1 = 1 := by rw [hX_95]; exact hw.1
    have hq_u_96 : u_96 = X_95.2.2 := by rw [hX_95]; exact hw.2
    obtain ⟨hP9, hD9⟩ := zsub2 (ws' := [(eO7a pa lx bk u_96.1 u_96.2.1 psk phe phr phs pop), (eO3a lx lby lfi lco lxe u_96.2.2.1 u_96.2.2.2.1 u_96.2.2.2.2.1 u_96.2.2.2.2.2.1 u_96.2.2.2.2.2.2), (eA0 lby cBy 900 fBy), (eA0 lco cCo 23 fCo), (eO0a bk bto bnm bla bsk bru bbo bdi bda bdk bdt bdp bno), (eA0 bto cTo 5 fTo), (eA4 bnm cNm 5 (fun k => some (Nm k))), (eA0 (Nm 1) cNr 12 (fNm 1)), (eA0 (Nm 2) cNr 12 (fNm 2)), (eA0 (Nm 4) cNr 12 (fNm 4)), (eO6a bno ns nsa nfa nza), (eA0 nsa cNs 12 fNs), (eA0 nfa cNf 96 fNf), (eA0 nza cNz 96 fNz)]) hP hD [10, 11, 12, 13, 0, 1, 2, 3, 4, 5, 6, 7, 8, 9] (by decide +kernel) rfl
    have hK9 := hK.sub (tys' := []) [] rfl
    exact vx_widen (k := 1) (n := 6) (Nat.le_of_ble_eq_true rfl) (Nat.le_of_ble_eq_true rfl) (vx_out (fun x h9 => (hex x h9).elim) hlocks hcell hcv hcl (fun t ht hal => ⟨(u_96.1, u_96.2.1, u_96.2.2.1, u_96.2.2.2.1, u_96.2.2.2.2.1, u_96.2.2.2.2.2.1, u_96.2.2.2.2.2.2, fNs, fNf, fNz), ((fun e9 => ⟨by rw [e9], by rw [e9]⟩ : fp_readSaying pfa pfp lxe lxa lxt lxp lxn lxl fBy fCo fTo fNm fNs fNf fNz a0 a1 = ((1 : Int32), u_96.1, u_96.2.1, u_96.2.2.1, u_96.2.2.2.1, u_96.2.2.2.2.1, u_96.2.2.2.2.2.1, u_96.2.2.2.2.2.2, fNs, fNf, fNz) → _) ((by rw [fp_readSaying]; (try rw [if_neg h_1]); (try rw [if_neg h_26]); (try rw [if_neg h_51]); (try rw [← hX_95]); (try rw [xL_eq]); (try rw [if_pos hTX_95]); (try rw [← hq_u_96]); try rfl))), ⟨rfl, by rw [ht]; exact hP9, va_K.moved hal hK9, hD9⟩, hS.F ht⟩) hS.2.2 (Nat.le_of_ble_eq_true rfl) (Nat.le_of_ble_eq_true rfl))
  · obtain ⟨hB, hsz9⟩ := hB
    obtain ⟨hP1, hK1, hD1⟩ := hB
    rw [ht] at hP1
    have hK1 := va_K.moved hvm.symm hK1
    have hK1 : va_K (dC, dI) vwCl [] s := hK1
    obtain ⟨hP, hD⟩ := va_join (wr := [(eO0a bk bto bnm bla bsk bru bbo bdi bda bdk bdt bdp bno), (eA0 bto cTo 5 fTo), (eA4 bnm cNm 5 (fun k => some (Nm k))), (eA0 (Nm 1) cNr 12 (fNm 1)), (eA0 (Nm 2) cNr 12 (fNm 2)), (eA0 (Nm 4) cNr 12 (fNm 4)), (eO6a bno ns nsa nfa nza), (eA0 nsa cNs 12 fNs), (eA0 nfa cNf 96 fNf), (eA0 nza cNz 96 fNz)]) (w1 := [(eO7a pa lx bk u_98.1 u_98.2.1 psk phe phr phs pop), (eO3a lx lby lfi lco lxe u_98.2.2.1 u_98.2.2.2.1 u_98.2.2.2.2.1 u_98.2.2.2.2.2.1 u_98.2.2.2.2.2.2), (eA0 lby cBy 900 fBy), (eA0 lco cCo 23 fCo)]) hP hD [0, 1, 2, 3] [4, 5, 6, 7, 8, 9, 10, 11, 12, 13] rfl rfl (by decide +kernel) (by decide +kernel) hk1 hFc hP1 hD1
    refine xs_tight (show H1.size = s.heap.size by rw [← ht, hsz9]; exact hHz) ?_
    generalize H1 = H at hP hS ⊢
    obtain ⟨hP, hD⟩ := zre [(eO0a bk bto bnm bla bsk bru bbo bdi bda bdk bdt bdp bno), (eA0 bto cTo 5 fTo), (eA4 bnm cNm 5 (fun k => some (Nm k))), (eA0 (Nm 1) cNr 12 (fNm 1)), (eA0 (Nm 2) cNr 12 (fNm 2)), (eA0 (Nm 4) cNr 12 (fNm 4)), (eO6a bno ns nsa nfa nza), (eA0 nsa cNs 12 fNs), (eA0 nfa cNf 96 fNf), (eA0 nza cNz 96 fNz), (eO7a pa lx bk u_98.1 u_98.2.1 psk phe phr phs pop), (eO3a lx lby lfi lco lxe u_98.2.2.1 u_98.2.2.2.1 u_98.2.2.2.2.1 u_98.2.2.2.2.2.1 u_98.2.2.2.2.2.2), (eA0 lby cBy 900 fBy), (eA0 lco cCo 23 fCo)] hP hD rfl
    obtain ⟨hw, hp_113, hp_114, hp_115⟩ := hw
    have hTX_95 : ¬ X_95.1 = 1 := by rw [hX_95, hw.1]; decide
    have hq_r_97 : r_97 = X_95.2.1 := by rw [hX_95]; exact hw.2.1
    have hq_u_98 : u_98 = X_95.2.2 := by rw [hX_95]; exact hw.2.2
    refine lv_istore_n (lv' := [(3, .int r_97), (4, .int 0), (0, .ref pa), (1, .int a0), (2, .int a1)]) hx hb dX7_readSaying_82 rfl hl (by decide) rfl (fun ls hl => ?_)
    refine lv_iload_n hx hb dX7_readSaying_83 rfl (lv_at hl 4 rfl) ?_
    refine lv_if_ne (tgt := 100) hx hb dX7_readSaying_84 (by decide) (fun c_116 => ?_) (fun c_116 => ?_)
    · refine lv_iconst (v := 0) hx hb dX7_readSaying_100 (by decide) ?_
      refine lv_istore (lv' := [(4, .int 0), (3, .int r_97), (0, .ref pa), (1, .int a0), (2, .int a1)]) hx hb dX7_readSaying_101 hl (by decide) rfl (fun ls hl => ?_)
      refine lv_aload_n hx hb dX7_readSaying_103 rfl (lv_at hl 2 rfl) ?_
      refine va_get (D := (dC, dI)) (ci := 7) (v := .ref bk) (C := RX7) (T := TX7) (N := 9) hx hb htw inlX7 hown hK hP 10 rfl rfl 1 (by decide) (htw _ (ck_13 _ (List.mem_of_getElem? (i := 6) rfl))) (fun _ h9 => h9) rfl dX7_readSaying_104 ?_
      refine va_get (D := (dC, dI)) (ci := 0) (v := .ref bno) (C := RX0) (T := TX0) (N := 12) hx hb htw inlX0 hown hK hP 0 rfl rfl 11 (by decide) (htw _ (ck_23 _ (List.mem_of_getElem? (i := 0) rfl))) (fun _ h9 => h9) rfl dX7_readSaying_107 ?_
      refine lv_iload_n hx hb dX7_readSaying_110 rfl (lv_at hl 3 rfl) ?_
      refine lv_iload_n hx hb dX7_readSaying_111 rfl (lv_at hl 4 rfl) ?_
      refine lv_iload_n hx hb dX7_readSaying_112 rfl (lv_at hl 1 rfl) ?_
      refine lv_iload hx hb dX7_readSaying_113 (lv_at hl 0 rfl) ?_
      obtain ⟨hPc, hDc, hFc, hCc⟩ := zsub3 (ws' := [(eO6a bno ns nsa nfa nza), (eA0 nsa cNs 12 fNs), (eA0 nfa cNf 96 fNf), (eA0 nza cNz 96 fNz)]) hP hD hS hA [6, 7, 8, 9] (by decide) rfl
      have hKc := hK.sub (tys' := [(cNs, .int), (cNf, .int), (cNz, .int)]) [7, 8, 9] rfl
      refine va_callv (va_runV (As := [.int a0, .int a1, .int r_97, .int 0]) (rest := []) ⟨hx, hb, hml, hown, htw⟩ (gn_add l dC dI bno ns nsa nfa nza cNs fNs cNf fNf cNz fNz a0 a1 r_97 (0 : Int32) H.size) (cwV 4 htw (xg_V (ck_23 _ (List.mem_of_getElem? (i := 17) rfl)) (ck_23 _ (List.mem_of_getElem? (i := 18) rfl)) (ck_23 _ (List.mem_of_getElem? (i := 19) rfl)) (ck_2 _ (List.mem_of_getElem? (i := 11) rfl)) (ck_23 _ (List.mem_of_getElem? (i := 20) rfl))) rfl rfl rfl (by exact ⟨rfl, hdc_3.1, hdc_3.2, hdd_49⟩) ⟨Nat.le_of_ble_eq_true rfl, Nat.le_of_ble_eq_true rfl⟩) ⟨fun a U g mk q => by obtain ⟨q0, q1, qP, qK, qD⟩ := q; exact ⟨q0, q1, qP, va_K.moved (u := U) (U := U.calling g mk a) (Vm.Alike.refl U.vm) qK, qD⟩, va_recv hKc hPc (ci := 6) (q0 := 0) rfl rfl, fun U hU hW => ⟨rfl, by rw [hU], by rw [hU]; exact hPc, va_K.moved hW.alike hKc, hDc.weaken (fun _ _ _ _ => trivial)⟩⟩ rfl rfl hl.1 rfl (lv_room (Nat.le_of_ble_eq_true rfl)) dX7_readSaying_115 ⟨Nat.le_of_ble_eq_true rfl, Nat.le_of_ble_eq_true rfl⟩) hS (fun q _ h => hFc q h) hFc (fun u_118 t H1 locs ht hvm hw hB hz1 hk1 hS => ?_)
      try dsimp only at hw
      obtain ⟨hP1, hK1, hD1⟩ := hB
      rw [ht] at hP1
      have hK1 := va_K.moved hvm.symm hK1
      have hK1 : va_K (dC, dI) vwCl [] s := hK1
      obtain ⟨hP, hD⟩ := va_join (wr := [(eO0a bk bto bnm bla bsk bru bbo bdi bda bdk bdt bdp bno), (eA0 bto cTo 5 fTo), (eA4 bnm cNm 5 (fun k => some (Nm k))), (eA0 (Nm 1) cNr 12 (fNm 1)), (eA0 (Nm 2) cNr 12 (fNm 2)), (eA0 (Nm 4) cNr 12 (fNm 4)), (eO7a pa lx bk u_98.1 u_98.2.1 psk phe phr phs pop), (eO3a lx lby lfi lco lxe u_98.2.2.1 u_98.2.2.2.1 u_98.2.2.2.2.1 u_98.2.2.2.2.2.1 u_98.2.2.2.2.2.2), (eA0 lby cBy 900 fBy), (eA0 lco cCo 23 fCo)]) (w1 := [(eO6a bno ns nsa nfa nza), (eA0 nsa cNs 12 u_118.1), (eA0 nfa cNf 96 u_118.2.1), (eA0 nza cNz 96 u_118.2.2)]) hP hD [6, 7, 8, 9] [0, 1, 2, 3, 4, 5, 10, 11, 12, 13] hCc rfl (by decide +kernel) (by decide +kernel) hk1 hFc hP1 hD1
      generalize H1 = H at hP hS ⊢
      obtain ⟨hP, hD⟩ := zre [(eO0a bk bto bnm bla bsk bru bbo bdi bda bdk bdt bdp bno), (eA0 bto cTo 5 fTo), (eA4 bnm cNm 5 (fun k => some (Nm k))), (eA0 (Nm 1) cNr 12 (fNm 1)), (eA0 (Nm 2) cNr 12 (fNm 2)), (eA0 (Nm 4) cNr 12 (fNm 4)), (eO7a pa lx bk u_98.1 u_98.2.1 psk phe phr phs pop), (eO3a lx lby lfi lco lxe u_98.2.2.1 u_98.2.2.2.1 u_98.2.2.2.2.1 u_98.2.2.2.2.2.1 u_98.2.2.2.2.2.2), (eA0 lby cBy 900 fBy), (eA0 lco cCo 23 fCo), (eO6a bno ns nsa nfa nza), (eA0 nsa cNs 12 u_118.1), (eA0 nfa cNf 96 u_118.2.1), (eA0 nza cNz 96 u_118.2.2)] hP hD rfl
      refine W.widen (k := 0) (n := 0) (by omega) (by omega) ?_
      have hq_u_118 : u_118 = (fn_add fNs fNf fNz a0 a1 r_97 (0 : Int32)) := hw
      refine xs_size (fun hHz => ?_)
      refine vx_ret ?_
      refine W.widen (k := 1) (n := 6) (by omega) (by omega) ?_
      obtain ⟨hP9, hD9⟩ := zsub2 (ws' := [(eO7a pa lx bk u_98.1 u_98.2.1 psk phe phr phs pop), (eO3a lx lby lfi lco lxe u_98.2.2.1 u_98.2.2.2.1 u_98.2.2.2.2.1 u_98.2.2.2.2.2.1 u_98.2.2.2.2.2.2), (eA0 lby cBy 900 fBy), (eA0 lco cCo 23 fCo), (eO0a bk bto bnm bla bsk bru bbo bdi bda bdk bdt bdp bno), (eA0 bto cTo 5 fTo), (eA4 bnm cNm 5 (fun k => some (Nm k))), (eA0 (Nm 1) cNr 12 (fNm 1)), (eA0 (Nm 2) cNr 12 (fNm 2)), (eA0 (Nm 4) cNr 12 (fNm 4)), (eO6a bno ns nsa nfa nza), (eA0 nsa cNs 12 u_118.1), (eA0 nfa cNf 96 u_118.2.1), (eA0 nza cNz 96 u_118.2.2)]) hP hD [6, 7, 8, 9, 0, 1, 2, 3, 4, 5, 10, 11, 12, 13] (by decide +kernel) rfl
      have hK9 := hK.sub (tys' := []) [] rfl
      exact W.vret hx hb hr (fun t ht hW => ⟨⟨(u_98.1, u_98.2.1, u_98.2.2.1, u_98.2.2.2.1, u_98.2.2.2.2.1, u_98.2.2.2.2.2.1, u_98.2.2.2.2.2.2, u_118.1, u_118.2.1, u_118.2.2), rfl, ⟨((fun e9 => ⟨by rw [e9], by rw [e9]⟩ : fp_readSaying pfa pfp lxe lxa lxt lxp lxn lxl fBy fCo fTo fNm fNs fNf fNz a0 a1 = ((0 : Int32), u_98.1, u_98.2.1, u_98.2.2.1, u_98.2.2.2.1, u_98.2.2.2.2.1, u_98.2.2.2.2.2.1, u_98.2.2.2.2.2.2, u_118.1, u_118.2.1, u_118.2.2) → _) ((by rw [fp_readSaying]; (try rw [if_neg h_1]); (try rw [if_neg h_26]); (try rw [if_neg h_51]); (try rw [← hX_95]); (try rw [xL_eq]); (try rw [if_neg hTX_95]); (try rw [← hq_r_97]); (try rw [← hq_u_98]); (try rw [if_neg c_116]); (try rw [← hq_u_118]); (try rw [xL_eq]); try rfl))), (gp_readSaying_s6 (y0 := u_98.2.2.1) hp_113)⟩, ⟨by rw [ht]; exact hP9, va_K.moved hW.alike hK9, hD9⟩, by rw [ht]; first | exact hHz | exact hHz.trans (by rw [rH])⟩, hS.F ht⟩) hS.2.2 dX7_readSaying_118
    · refine lv_aload_n hx hb dX7_readSaying_87 rfl (lv_at hl 2 rfl) ?_
      refine lv_iload_n hx hb dX7_readSaying_88 rfl (lv_at hl 0 rfl) ?_
      refine va_getsN hx hb hXL.2.2.2.2.2.1 hS hown (va_Nw.use rfl (hXL.2.2.2.2.2.2.2.2.2)) (fun _ h9 => h9) dX7_readSaying_89 ?_
      refine lv_iload_n hx hb dX7_readSaying_92 rfl (lv_at hl 4 rfl) ?_
      refine va_ti hx hb hXL.2.2.2.2.2.2.1 hS (xg_inr (N := 5) rfl (gp_readSaying_s7 (y0 := a1) h_1 h_26 h_51 c_116 hsw0 hsw8).1 (gp_readSaying_s7 (y0 := a1) h_1 h_26 h_51 c_116 hsw0 hsw8).2) (v := .int (xk_mosts a1.toNatClampNeg)) rfl dX7_readSaying_93 ?_
      refine xs_size (fun hHz => ?_)
      obtain ⟨hPc, hDc, hFc, hCc⟩ := zsub3 (ws' := [(eO7a pa lx bk u_98.1 u_98.2.1 psk phe phr phs pop), (eO3a lx lby lfi lco lxe u_98.2.2.1 u_98.2.2.2.1 u_98.2.2.2.2.1 u_98.2.2.2.2.2.1 u_98.2.2.2.2.2.2), (eA0 lby cBy 900 fBy), (eA0 lco cCo 23 fCo)]) hP hD hS hA [10, 11, 12, 13] (by decide) rfl
      have hKc := hK.sub (tys' := [(cBy, .byte), (cCo, .int)]) [0, 1] rfl
      obtain ⟨X_122, hX_122⟩ : ∃ X9 : Int32 × Int32 × (Int32) × (Int32) × (Int32) × (Int32) × (Int32) × (Int32) × (Int32), X9 = (fp_numberIn u_98.1 u_98.2.1 lxe u_98.2.2.1 u_98.2.2.2.1 u_98.2.2.2.2.1 u_98.2.2.2.2.2.1 u_98.2.2.2.2.2.2 fBy fCo r_97 (xk_mosts a1.toNatClampNeg)) := ⟨_, rfl⟩
      refine vx_calli (vx_runV (As := [.int r_97, .int (xk_mosts a1.toNatClampNeg)]) (rest := []) ⟨hx, hb, hml, hown, htw⟩ (gp_numberIn l hst dC dI pa lx bk u_98.1 u_98.2.1 psk phe phr phs pop lby lfi lco lxe u_98.2.2.1 u_98.2.2.2.1 u_98.2.2.2.2.1 u_98.2.2.2.2.2.1 u_98.2.2.2.2.2.2 cBy fBy cCo fCo r_97 (xk_mosts a1.toNatClampNeg) sL H.size (gp_readSaying_s8 (y0 := u_98.2.2.1) hp_113) h9_lxe) (cwV 2 htw (xg_V (ck_16 _ (List.mem_of_getElem? (i := 16) rfl)) (ck_16 _ (List.mem_of_getElem? (i := 17) rfl)) (ck_16 _ (List.mem_of_getElem? (i := 18) rfl)) (ck_1 _ (List.mem_of_getElem? (i := 16) rfl)) (ck_16 _ (List.mem_of_getElem? (i := 19) rfl))) rfl rfl rfl (by exact ⟨rfl, hdc_15.1, hdc_15.2, hdd_7⟩) ⟨Nat.le_of_ble_eq_true rfl, Nat.le_of_ble_eq_true rfl⟩) ⟨fun a U g mk q => by obtain ⟨q0, q1, qP, qK, qD, qx0⟩ := q; exact ⟨q0, q1, qP, va_K.moved (u := U) (U := U.calling g mk a) (Vm.Alike.refl U.vm) qK, qD, xl.calling qx0⟩, va_recv hKc hPc (ci := 7) (q0 := 0) rfl rfl, fun U hU hW => ⟨rfl, by rw [hU], by rw [hU]; exact hPc, va_K.moved hW.alike hKc, hDc.weaken (fun _ _ _ _ => trivial), by rw [hU]; exact xl.warm hW ((xl.kept hXL hS.2.1).narrow hFc)⟩⟩ rfl rfl hl.1 rfl (lv_room (Nat.le_of_ble_eq_true rfl)) dX7_readSaying_94 ⟨Nat.le_of_ble_eq_true rfl, Nat.le_of_ble_eq_true rfl⟩) hS (fun q _ h => hFc q h) hFc (fun q _ h => hFc q h) (fun E ce q9 u_123 t H1 locs ht hvm hw hB hz1 hk1 hS hcell hcv hcl => ?_) (fun r_124 u_125 t H1 locs ht hvm hw hB hz1 hk1 hS => ?_)
      · obtain ⟨hE9, hB⟩ := hB
        subst hE9
        obtain ⟨hP1, hK1, hD1⟩ := hB
        rw [ht] at hP1
        have hK1 := va_K.moved hvm.symm hK1
        have hK1 : va_K (dC, dI) vwCl [] s := hK1
        obtain ⟨hP, hD⟩ := va_join (wr := [(eO0a bk bto bnm bla bsk bru bbo bdi bda bdk bdt bdp bno), (eA0 bto cTo 5 fTo), (eA4 bnm cNm 5 (fun k => some (Nm k))), (eA0 (Nm 1) cNr 12 (fNm 1)), (eA0 (Nm 2) cNr 12 (fNm 2)), (eA0 (Nm 4) cNr 12 (fNm 4)), (eO6a bno ns nsa nfa nza), (eA0 nsa cNs 12 fNs), (eA0 nfa cNf 96 fNf), (eA0 nza cNz 96 fNz)]) (w1 := [(eO7a pa lx bk u_123.1 u_123.2.1 psk phe phr phs pop), (eO3a lx lby lfi lco lxe u_123.2.2.1 u_123.2.2.2.1 u_123.2.2.2.2.1 u_123.2.2.2.2.2.1 u_123.2.2.2.2.2.2), (eA0 lby cBy 900 fBy), (eA0 lco cCo 23 fCo)]) hP hD [10, 11, 12, 13] [0, 1, 2, 3, 4, 5, 6, 7, 8, 9] hCc rfl (by decide +kernel) (by decide +kernel) hk1 hFc hP1 hD1
        generalize H1 = H at hP hS hcell ⊢
        obtain ⟨hP, hD⟩ := zre [(eO0a bk bto bnm bla bsk bru bbo bdi bda bdk bdt bdp bno), (eA0 bto cTo 5 fTo), (eA4 bnm cNm 5 (fun k => some (Nm k))), (eA0 (Nm 1) cNr 12 (fNm 1)), (eA0 (Nm 2) cNr 12 (fNm 2)), (eA0 (Nm 4) cNr 12 (fNm 4)), (eO6a bno ns nsa nfa nza), (eA0 nsa cNs 12 fNs), (eA0 nfa cNf 96 fNf), (eA0 nza cNz 96 fNz), (eO7a pa lx bk u_123.1 u_123.2.1 psk phe phr phs pop), (eO3a lx lby lfi lco lxe u_123.2.2.1 u_123.2.2.2.1 u_123.2.2.2.2.1 u_123.2.2.2.2.2.1 u_123.2.2.2.2.2.2), (eA0 lby cBy 900 fBy), (eA0 lco cCo 23 fCo)] hP hD rfl
        have hTX_122 : X_122.1 = 1 := by rw [hX_122]; exact hw.1
        have hq_u_123 : u_123 = X_122.2.2 := by rw [hX_122]; exact hw.2
        obtain ⟨hP9, hD9⟩ := zsub2 (ws' := [(eO7a pa lx bk u_123.1 u_123.2.1 psk phe phr phs pop), (eO3a lx lby lfi lco lxe u_123.2.2.1 u_123.2.2.2.1 u_123.2.2.2.2.1 u_123.2.2.2.2.2.1 u_123.2.2.2.2.2.2), (eA0 lby cBy 900 fBy), (eA0 lco cCo 23 fCo), (eO0a bk bto bnm bla bsk bru bbo bdi bda bdk bdt bdp bno), (eA0 bto cTo 5 fTo), (eA4 bnm cNm 5 (fun k => some (Nm k))), (eA0 (Nm 1) cNr 12 (fNm 1)), (eA0 (Nm 2) cNr 12 (fNm 2)), (eA0 (Nm 4) cNr 12 (fNm 4)), (eO6a bno ns nsa nfa nza), (eA0 nsa cNs 12 fNs), (eA0 nfa cNf 96 fNf), (eA0 nza cNz 96 fNz)]) hP hD [10, 11, 12, 13, 0, 1, 2, 3, 4, 5, 6, 7, 8, 9] (by decide +kernel) rfl
        have hK9 := hK.sub (tys' := []) [] rfl
        exact vx_widen (k := 1) (n := 6) (Nat.le_of_ble_eq_true rfl) (Nat.le_of_ble_eq_true rfl) (vx_out (fun x h9 => (hex x h9).elim) hlocks hcell hcv hcl (fun t ht hal => ⟨(u_123.1, u_123.2.1, u_123.2.2.1, u_123.2.2.2.1, u_123.2.2.2.2.1, u_123.2.2.2.2.2.1, u_123.2.2.2.2.2.2, fNs, fNf, fNz), ((fun e9 => ⟨by rw [e9], by rw [e9]⟩ : fp_readSaying pfa pfp lxe lxa lxt lxp lxn lxl fBy fCo fTo fNm fNs fNf fNz a0 a1 = ((1 : Int32), u_123.1, u_123.2.1, u_123.2.2.1, u_123.2.2.2.1, u_123.2.2.2.2.1, u_123.2.2.2.2.2.1, u_123.2.2.2.2.2.2, fNs, fNf, fNz) → _) ((by rw [fp_readSaying]; (try rw [if_neg h_1]); (try rw [if_neg h_26]); (try rw [if_neg h_51]); (try rw [← hX_95]); (try rw [xL_eq]); (try rw [if_neg hTX_95]); (try rw [← hq_r_97]); (try rw [← hq_u_98]); (try rw [if_pos c_116]); (try rw [← hX_122]); (try rw [xL_eq]); (try rw [if_pos hTX_122]); (try rw [← hq_u_123]); try rfl))), ⟨rfl, by rw [ht]; exact hP9, va_K.moved hal hK9, hD9⟩, hS.F ht⟩) hS.2.2 (Nat.le_of_ble_eq_true rfl) (Nat.le_of_ble_eq_true rfl))
      · obtain ⟨hB, hsz9⟩ := hB
        obtain ⟨hP1, hK1, hD1⟩ := hB
        rw [ht] at hP1
        have hK1 := va_K.moved hvm.symm hK1
        have hK1 : va_K (dC, dI) vwCl [] s := hK1
        obtain ⟨hP, hD⟩ := va_join (wr := [(eO0a bk bto bnm bla bsk bru bbo bdi bda bdk bdt bdp bno), (eA0 bto cTo 5 fTo), (eA4 bnm cNm 5 (fun k => some (Nm k))), (eA0 (Nm 1) cNr 12 (fNm 1)), (eA0 (Nm 2) cNr 12 (fNm 2)), (eA0 (Nm 4) cNr 12 (fNm 4)), (eO6a bno ns nsa nfa nza), (eA0 nsa cNs 12 fNs), (eA0 nfa cNf 96 fNf), (eA0 nza cNz 96 fNz)]) (w1 := [(eO7a pa lx bk u_125.1 u_125.2.1 psk phe phr phs pop), (eO3a lx lby lfi lco lxe u_125.2.2.1 u_125.2.2.2.1 u_125.2.2.2.2.1 u_125.2.2.2.2.2.1 u_125.2.2.2.2.2.2), (eA0 lby cBy 900 fBy), (eA0 lco cCo 23 fCo)]) hP hD [10, 11, 12, 13] [0, 1, 2, 3, 4, 5, 6, 7, 8, 9] rfl rfl (by decide +kernel) (by decide +kernel) hk1 hFc hP1 hD1
        refine xs_tight (show H1.size = s.heap.size by rw [← ht, hsz9]; exact hHz) ?_
        generalize H1 = H at hP hS ⊢
        obtain ⟨hP, hD⟩ := zre [(eO0a bk bto bnm bla bsk bru bbo bdi bda bdk bdt bdp bno), (eA0 bto cTo 5 fTo), (eA4 bnm cNm 5 (fun k => some (Nm k))), (eA0 (Nm 1) cNr 12 (fNm 1)), (eA0 (Nm 2) cNr 12 (fNm 2)), (eA0 (Nm 4) cNr 12 (fNm 4)), (eO6a bno ns nsa nfa nza), (eA0 nsa cNs 12 fNs), (eA0 nfa cNf 96 fNf), (eA0 nza cNz 96 fNz), (eO7a pa lx bk u_125.1 u_125.2.1 psk phe phr phs pop), (eO3a lx lby lfi lco lxe u_125.2.2.1 u_125.2.2.2.1 u_125.2.2.2.2.1 u_125.2.2.2.2.2.1 u_125.2.2.2.2.2.2), (eA0 lby cBy 900 fBy), (eA0 lco cCo 23 fCo)] hP hD rfl
        obtain ⟨hw, hp_140, hp_141, hp_142⟩ := hw
        have hTX_122 : ¬ X_122.1 = 1 := by rw [hX_122, hw.1]; decide
        have hq_r_124 : r_124 = X_122.2.1 := by rw [hX_122]; exact hw.2.1
        have hq_u_125 : u_125 = X_122.2.2 := by rw [hX_122]; exact hw.2.2
        refine lv_goto (tgt := 101) hx hb dX7_readSaying_97 (by decide) ?_
        refine lv_istore (lv' := [(4, .int r_124), (3, .int r_97), (0, .ref pa), (1, .int a0), (2, .int a1)]) hx hb dX7_readSaying_101 hl (by decide) rfl (fun ls hl => ?_)
        refine lv_aload_n hx hb dX7_readSaying_103 rfl (lv_at hl 2 rfl) ?_
        refine va_get (D := (dC, dI)) (ci := 7) (v := .ref bk) (C := RX7) (T := TX7) (N := 9) hx hb htw inlX7 hown hK hP 10 rfl rfl 1 (by decide) (htw _ (ck_13 _ (List.mem_of_getElem? (i := 6) rfl))) (fun _ h9 => h9) rfl dX7_readSaying_104 ?_
        refine va_get (D := (dC, dI)) (ci := 0) (v := .ref bno) (C := RX0) (T := TX0) (N := 12) hx hb htw inlX0 hown hK hP 0 rfl rfl 11 (by decide) (htw _ (ck_23 _ (List.mem_of_getElem? (i := 0) rfl))) (fun _ h9 => h9) rfl dX7_readSaying_107 ?_
        refine lv_iload_n hx hb dX7_readSaying_110 rfl (lv_at hl 3 rfl) ?_
        refine lv_iload_n hx hb dX7_readSaying_111 rfl (lv_at hl 4 rfl) ?_
        refine lv_iload_n hx hb dX7_readSaying_112 rfl (lv_at hl 1 rfl) ?_
        refine lv_iload hx hb dX7_readSaying_113 (lv_at hl 0 rfl) ?_
        obtain ⟨hPc, hDc, hFc, hCc⟩ := zsub3 (ws' := [(eO6a bno ns nsa nfa nza), (eA0 nsa cNs 12 fNs), (eA0 nfa cNf 96 fNf), (eA0 nza cNz 96 fNz)]) hP hD hS hA [6, 7, 8, 9] (by decide) rfl
        have hKc := hK.sub (tys' := [(cNs, .int), (cNf, .int), (cNz, .int)]) [7, 8, 9] rfl
        refine va_callv (va_runV (As := [.int a0, .int a1, .int r_97, .int r_124]) (rest := []) ⟨hx, hb, hml, hown, htw⟩ (gn_add l dC dI bno ns nsa nfa nza cNs fNs cNf fNf cNz fNz a0 a1 r_97 r_124 H.size) (cwV 4 htw (xg_V (ck_23 _ (List.mem_of_getElem? (i := 17) rfl)) (ck_23 _ (List.mem_of_getElem? (i := 18) rfl)) (ck_23 _ (List.mem_of_getElem? (i := 19) rfl)) (ck_2 _ (List.mem_of_getElem? (i := 11) rfl)) (ck_23 _ (List.mem_of_getElem? (i := 20) rfl))) rfl rfl rfl (by exact ⟨rfl, hdc_3.1, hdc_3.2, hdd_49⟩) ⟨Nat.le_of_ble_eq_true rfl, Nat.le_of_ble_eq_true rfl⟩) ⟨fun a U g mk q => by obtain ⟨q0, q1, qP, qK, qD⟩ := q; exact ⟨q0, q1, qP, va_K.moved (u := U) (U := U.calling g mk a) (Vm.Alike.refl U.vm) qK, qD⟩, va_recv hKc hPc (ci := 6) (q0 := 0) rfl rfl, fun U hU hW => ⟨rfl, by rw [hU], by rw [hU]; exact hPc, va_K.moved hW.alike hKc, hDc.weaken (fun _ _ _ _ => trivial)⟩⟩ rfl rfl hl.1 rfl (lv_room (Nat.le_of_ble_eq_true rfl)) dX7_readSaying_115 ⟨Nat.le_of_ble_eq_true rfl, Nat.le_of_ble_eq_true rfl⟩) hS (fun q _ h => hFc q h) hFc (fun u_144 t H1 locs ht hvm hw hB hz1 hk1 hS => ?_)
        try dsimp only at hw
        obtain ⟨hP1, hK1, hD1⟩ := hB
        rw [ht] at hP1
        have hK1 := va_K.moved hvm.symm hK1
        have hK1 : va_K (dC, dI) vwCl [] s := hK1
        obtain ⟨hP, hD⟩ := va_join (wr := [(eO0a bk bto bnm bla bsk bru bbo bdi bda bdk bdt bdp bno), (eA0 bto cTo 5 fTo), (eA4 bnm cNm 5 (fun k => some (Nm k))), (eA0 (Nm 1) cNr 12 (fNm 1)), (eA0 (Nm 2) cNr 12 (fNm 2)), (eA0 (Nm 4) cNr 12 (fNm 4)), (eO7a pa lx bk u_125.1 u_125.2.1 psk phe phr phs pop), (eO3a lx lby lfi lco lxe u_125.2.2.1 u_125.2.2.2.1 u_125.2.2.2.2.1 u_125.2.2.2.2.2.1 u_125.2.2.2.2.2.2), (eA0 lby cBy 900 fBy), (eA0 lco cCo 23 fCo)]) (w1 := [(eO6a bno ns nsa nfa nza), (eA0 nsa cNs 12 u_144.1), (eA0 nfa cNf 96 u_144.2.1), (eA0 nza cNz 96 u_144.2.2)]) hP hD [6, 7, 8, 9] [0, 1, 2, 3, 4, 5, 10, 11, 12, 13] hCc rfl (by decide +kernel) (by decide +kernel) hk1 hFc hP1 hD1
        generalize H1 = H at hP hS ⊢
        obtain ⟨hP, hD⟩ := zre [(eO0a bk bto bnm bla bsk bru bbo bdi bda bdk bdt bdp bno), (eA0 bto cTo 5 fTo), (eA4 bnm cNm 5 (fun k => some (Nm k))), (eA0 (Nm 1) cNr 12 (fNm 1)), (eA0 (Nm 2) cNr 12 (fNm 2)), (eA0 (Nm 4) cNr 12 (fNm 4)), (eO7a pa lx bk u_125.1 u_125.2.1 psk phe phr phs pop), (eO3a lx lby lfi lco lxe u_125.2.2.1 u_125.2.2.2.1 u_125.2.2.2.2.1 u_125.2.2.2.2.2.1 u_125.2.2.2.2.2.2), (eA0 lby cBy 900 fBy), (eA0 lco cCo 23 fCo), (eO6a bno ns nsa nfa nza), (eA0 nsa cNs 12 u_144.1), (eA0 nfa cNf 96 u_144.2.1), (eA0 nza cNz 96 u_144.2.2)] hP hD rfl
        refine W.widen (k := 0) (n := 0) (by omega) (by omega) ?_
        have hq_u_144 : u_144 = (fn_add fNs fNf fNz a0 a1 r_97 r_124) := hw
        refine xs_size (fun hHz => ?_)
        refine vx_ret ?_
        refine W.widen (k := 1) (n := 6) (by omega) (by omega) ?_
        obtain ⟨hP9, hD9⟩ := zsub2 (ws' := [(eO7a pa lx bk u_125.1 u_125.2.1 psk phe phr phs pop), (eO3a lx lby lfi lco lxe u_125.2.2.1 u_125.2.2.2.1 u_125.2.2.2.2.1 u_125.2.2.2.2.2.1 u_125.2.2.2.2.2.2), (eA0 lby cBy 900 fBy), (eA0 lco cCo 23 fCo), (eO0a bk bto bnm bla bsk bru bbo bdi bda bdk bdt bdp bno), (eA0 bto cTo 5 fTo), (eA4 bnm cNm 5 (fun k => some (Nm k))), (eA0 (Nm 1) cNr 12 (fNm 1)), (eA0 (Nm 2) cNr 12 (fNm 2)), (eA0 (Nm 4) cNr 12 (fNm 4)), (eO6a bno ns nsa nfa nza), (eA0 nsa cNs 12 u_144.1), (eA0 nfa cNf 96 u_144.2.1), (eA0 nza cNz 96 u_144.2.2)]) hP hD [6, 7, 8, 9, 0, 1, 2, 3, 4, 5, 10, 11, 12, 13] (by decide +kernel) rfl
        have hK9 := hK.sub (tys' := []) [] rfl
        exact W.vret hx hb hr (fun t ht hW => ⟨⟨(u_125.1, u_125.2.1, u_125.2.2.1, u_125.2.2.2.1, u_125.2.2.2.2.1, u_125.2.2.2.2.2.1, u_125.2.2.2.2.2.2, u_144.1, u_144.2.1, u_144.2.2), rfl, ⟨((fun e9 => ⟨by rw [e9], by rw [e9]⟩ : fp_readSaying pfa pfp lxe lxa lxt lxp lxn lxl fBy fCo fTo fNm fNs fNf fNz a0 a1 = ((0 : Int32), u_125.1, u_125.2.1, u_125.2.2.1, u_125.2.2.2.1, u_125.2.2.2.2.1, u_125.2.2.2.2.2.1, u_125.2.2.2.2.2.2, u_144.1, u_144.2.1, u_144.2.2) → _) ((by rw [fp_readSaying]; (try rw [if_neg h_1]); (try rw [if_neg h_26]); (try rw [if_neg h_51]); (try rw [← hX_95]); (try rw [xL_eq]); (try rw [if_neg hTX_95]); (try rw [← hq_r_97]); (try rw [← hq_u_98]); (try rw [if_pos c_116]); (try rw [← hX_122]); (try rw [xL_eq]); (try rw [if_neg hTX_122]); (try rw [← hq_r_124]); (try rw [← hq_u_125]); (try rw [← hq_u_144]); (try rw [xL_eq]); try rfl))), (gp_readSaying_s9 (y0 := u_125.2.2.1) hp_140)⟩, ⟨by rw [ht]; exact hP9, va_K.moved hW.alike hK9, hD9⟩, by rw [ht]; first | exact hHz | exact hHz.trans (by rw [rH])⟩, hS.F ht⟩) hS.2.2 dX7_readSaying_118
