def fq_canSay (a0 : Int32) (a1 : Int32) (a2 : Int32) (a3 : Int32) (m_feasts : Int32) (m_people : Int32) : Int32 := (if a1 = 0 then (xL ((fq_isIn a2 (1 : Int32) (9999 : Int32))) (fun r_2 => (if r_2 = 0 then (0 : Int32) else (xL ((fq_isIn a3 a2 (9999 : Int32))) (fun r_6 => (if r_6 = 0 then (0 : Int32) else (1 : Int32))))))) else (if a1 = 1 then (xL ((fq_isIn a2 (1 : Int32) (99999 : Int32))) (fun r_11 => r_11)) else (if a1 = 2 then (xL ((fq_isIn a2 (0 : Int32) (99999 : Int32))) (fun r_15 => r_15)) else (if a1 = 3 then (xL ((fq_isIn a2 (0 : Int32) (7 : Int32))) (fun r_19 => r_19)) else (if a1 = 4 then (xL ((fq_isIn a2 (0 : Int32) (3 : Int32))) (fun r_23 => r_23)) else (if a1 = 5 then (xL ((fq_isPerson a2 m_people)) (fun r_27 => r_27)) else (if a1 = 6 then (xL ((fq_isFeast a2 m_feasts)) (fun r_31 => r_31)) else (if a1 = 7 then (xL ((fq_isIn a2 (0 : Int32) (a0 - 1))) (fun r_35 => (if r_35 = 0 then (0 : Int32) else (xL ((fq_isIn a3 (-9999 : Int32) (9999 : Int32))) (fun r_39 => (if r_39 = 0 then (0 : Int32) else (1 : Int32))))))) else (0 : Int32)))))))))
theorem gq_canSay_s0  : ¬ ((0 : Int32) < 0) := (by decide)
theorem gq_canSay_s1  : (0 : Int32) < 8 := (by decide)
theorem gq_canSay_s2  : ¬ ((1 : Int32) < 0) := (by decide)
theorem gq_canSay_s3  : (1 : Int32) < 8 := (by decide)
theorem gq_canSay_s4  : ¬ ((2 : Int32) < 0) := (by decide)
theorem gq_canSay_s5  : (2 : Int32) < 8 := (by decide)
theorem gq_canSay_s6  : ¬ ((3 : Int32) < 0) := (by decide)
theorem gq_canSay_s7  : (3 : Int32) < 8 := (by decide)
theorem gq_canSay_s8  : ¬ ((4 : Int32) < 0) := (by decide)
theorem gq_canSay_s9  : (4 : Int32) < 8 := (by decide)
theorem gq_canSay_s10  : ¬ ((5 : Int32) < 0) := (by decide)
theorem gq_canSay_s11  : (5 : Int32) < 8 := (by decide)
theorem gq_canSay_s12  : ¬ ((6 : Int32) < 0) := (by decide)
theorem gq_canSay_s13  : (6 : Int32) < 8 := (by decide)
theorem gq_canSay_s14  : ¬ ((7 : Int32) < 0) := (by decide)
theorem gq_canSay_s15  : (7 : Int32) < 8 := (by decide)
theorem dX12_canSay_0 : decode cX12_canSay 0 = .ok (.iload_n 2, 1) := zk_28 (by decide +kernel)
theorem dX12_canSay_1 : decode cX12_canSay 1 = .ok (.tableswitch 150 0 7 #[47, 76, 84, 92, 100, 107, 113, 119], 47) := by decide +kernel
theorem dX12_canSay_48 : decode cX12_canSay 48 = .ok (.iload_n 3, 1) := zk_29 (by decide +kernel)
theorem dX12_canSay_49 : decode cX12_canSay 49 = .ok (.iconst 1, 1) := zk_4 (by decide +kernel)
theorem dX12_canSay_50 : decode cX12_canSay 50 = .ok (.sipush 9999, 3) := zk_17 (by decide +kernel)
theorem dX12_canSay_53 : decode cX12_canSay 53 = .ok (.invokestatic 166, 3) := zk_184 (by decide +kernel)
theorem dX12_canSay_56 : decode cX12_canSay 56 = .ok (.ifCond .eq 19, 3) := zk_153 (by decide +kernel)
theorem dX12_canSay_75 : decode cX12_canSay 75 = .ok (.iconst 0, 1) := zk_3 (by decide +kernel)
theorem dX12_canSay_76 : decode cX12_canSay 76 = .ok (.ireturn, 1) := zk_172 (by decide +kernel)
theorem dX12_canSay_59 : decode cX12_canSay 59 = .ok (.iload 4, 2) := zk_21 (by decide +kernel)
theorem dX12_canSay_61 : decode cX12_canSay 61 = .ok (.iload_n 3, 1) := zk_29 (by decide +kernel)
theorem dX12_canSay_62 : decode cX12_canSay 62 = .ok (.sipush 9999, 3) := zk_17 (by decide +kernel)
theorem dX12_canSay_65 : decode cX12_canSay 65 = .ok (.invokestatic 166, 3) := zk_184 (by decide +kernel)
theorem dX12_canSay_68 : decode cX12_canSay 68 = .ok (.ifCond .eq 7, 3) := zk_153 (by decide +kernel)
theorem dX12_canSay_71 : decode cX12_canSay 71 = .ok (.iconst 1, 1) := zk_4 (by decide +kernel)
theorem dX12_canSay_72 : decode cX12_canSay 72 = .ok (.goto 4, 3) := zk_167 (by decide +kernel)
theorem dX12_canSay_77 : decode cX12_canSay 77 = .ok (.iload_n 3, 1) := zk_29 (by decide +kernel)
theorem dX12_canSay_78 : decode cX12_canSay 78 = .ok (.iconst 1, 1) := zk_4 (by decide +kernel)
theorem dX12_canSay_79 : decode cX12_canSay 79 = .ok (.ldc 159, 2) := zk_18 (by decide +kernel)
theorem dX12_canSay_81 : decode cX12_canSay 81 = .ok (.invokestatic 166, 3) := zk_184 (by decide +kernel)
theorem dX12_canSay_84 : decode cX12_canSay 84 = .ok (.ireturn, 1) := zk_172 (by decide +kernel)
theorem dX12_canSay_85 : decode cX12_canSay 85 = .ok (.iload_n 3, 1) := zk_29 (by decide +kernel)
theorem dX12_canSay_86 : decode cX12_canSay 86 = .ok (.iconst 0, 1) := zk_3 (by decide +kernel)
theorem dX12_canSay_87 : decode cX12_canSay 87 = .ok (.ldc 159, 2) := zk_18 (by decide +kernel)
theorem dX12_canSay_89 : decode cX12_canSay 89 = .ok (.invokestatic 166, 3) := zk_184 (by decide +kernel)
theorem dX12_canSay_92 : decode cX12_canSay 92 = .ok (.ireturn, 1) := zk_172 (by decide +kernel)
theorem dX12_canSay_93 : decode cX12_canSay 93 = .ok (.iload_n 3, 1) := zk_29 (by decide +kernel)
theorem dX12_canSay_94 : decode cX12_canSay 94 = .ok (.iconst 0, 1) := zk_3 (by decide +kernel)
theorem dX12_canSay_95 : decode cX12_canSay 95 = .ok (.bipush 7, 2) := zk_16 (by decide +kernel)
theorem dX12_canSay_97 : decode cX12_canSay 97 = .ok (.invokestatic 166, 3) := zk_184 (by decide +kernel)
theorem dX12_canSay_100 : decode cX12_canSay 100 = .ok (.ireturn, 1) := zk_172 (by decide +kernel)
theorem dX12_canSay_101 : decode cX12_canSay 101 = .ok (.iload_n 3, 1) := zk_29 (by decide +kernel)
theorem dX12_canSay_102 : decode cX12_canSay 102 = .ok (.iconst 0, 1) := zk_3 (by decide +kernel)
theorem dX12_canSay_103 : decode cX12_canSay 103 = .ok (.iconst 3, 1) := zk_6 (by decide +kernel)
theorem dX12_canSay_104 : decode cX12_canSay 104 = .ok (.invokestatic 166, 3) := zk_184 (by decide +kernel)
theorem dX12_canSay_107 : decode cX12_canSay 107 = .ok (.ireturn, 1) := zk_172 (by decide +kernel)
theorem dX12_canSay_108 : decode cX12_canSay 108 = .ok (.aload_n 0, 1) := zk_42 (by decide +kernel)
theorem dX12_canSay_109 : decode cX12_canSay 109 = .ok (.iload_n 3, 1) := zk_29 (by decide +kernel)
theorem dX12_canSay_110 : decode cX12_canSay 110 = .ok (.invokevirtual 463, 3) := zk_182 (by decide +kernel)
theorem dX12_canSay_113 : decode cX12_canSay 113 = .ok (.ireturn, 1) := zk_172 (by decide +kernel)
theorem dX12_canSay_114 : decode cX12_canSay 114 = .ok (.aload_n 0, 1) := zk_42 (by decide +kernel)
theorem dX12_canSay_115 : decode cX12_canSay 115 = .ok (.iload_n 3, 1) := zk_29 (by decide +kernel)
theorem dX12_canSay_116 : decode cX12_canSay 116 = .ok (.invokevirtual 448, 3) := zk_182 (by decide +kernel)
theorem dX12_canSay_119 : decode cX12_canSay 119 = .ok (.ireturn, 1) := zk_172 (by decide +kernel)
theorem dX12_canSay_120 : decode cX12_canSay 120 = .ok (.iload_n 3, 1) := zk_29 (by decide +kernel)
theorem dX12_canSay_121 : decode cX12_canSay 121 = .ok (.iconst 0, 1) := zk_3 (by decide +kernel)
theorem dX12_canSay_122 : decode cX12_canSay 122 = .ok (.iload_n 1, 1) := zk_27 (by decide +kernel)
theorem dX12_canSay_123 : decode cX12_canSay 123 = .ok (.iconst 1, 1) := zk_4 (by decide +kernel)
theorem dX12_canSay_124 : decode cX12_canSay 124 = .ok (.isub, 1) := zk_100 (by decide +kernel)
theorem dX12_canSay_125 : decode cX12_canSay 125 = .ok (.invokestatic 166, 3) := zk_184 (by decide +kernel)
theorem dX12_canSay_128 : decode cX12_canSay 128 = .ok (.ifCond .eq 21, 3) := zk_153 (by decide +kernel)
theorem dX12_canSay_149 : decode cX12_canSay 149 = .ok (.iconst 0, 1) := zk_3 (by decide +kernel)
theorem dX12_canSay_150 : decode cX12_canSay 150 = .ok (.ireturn, 1) := zk_172 (by decide +kernel)
theorem dX12_canSay_131 : decode cX12_canSay 131 = .ok (.iload 4, 2) := zk_21 (by decide +kernel)
theorem dX12_canSay_133 : decode cX12_canSay 133 = .ok (.sipush (-9999), 3) := zk_17 (by decide +kernel)
theorem dX12_canSay_136 : decode cX12_canSay 136 = .ok (.sipush 9999, 3) := zk_17 (by decide +kernel)
theorem dX12_canSay_139 : decode cX12_canSay 139 = .ok (.invokestatic 166, 3) := zk_184 (by decide +kernel)
theorem dX12_canSay_142 : decode cX12_canSay 142 = .ok (.ifCond .eq 7, 3) := zk_153 (by decide +kernel)
theorem dX12_canSay_145 : decode cX12_canSay 145 = .ok (.iconst 1, 1) := zk_4 (by decide +kernel)
theorem dX12_canSay_146 : decode cX12_canSay 146 = .ok (.goto 4, 3) := zk_167 (by decide +kernel)
theorem dX12_canSay_151 : decode cX12_canSay 151 = .ok (.iconst 0, 1) := zk_3 (by decide +kernel)
theorem dX12_canSay_152 : decode cX12_canSay 152 = .ok (.ireturn, 1) := zk_172 (by decide +kernel)
set_option maxHeartbeats 4000000 in
set_option maxRecDepth 100000 in
theorem gq_canSay (l : Launch) (dC : Nat → ClassId) (dI : Nat → Nat → Nat) (mq : Nat) (g : Nat → Int32) (gl : Nat → Int64) (rf : Nat → Nat) (a0 : Int32) (a1 : Int32) (a2 : Int32) (a3 : Int32) : Met l yX12_canSay (Cond.code yX12_canSay cX12_canSay 5 (some .boolean) :: wsL_law) ({ frames := 1, cells := 0, slots := 0, locals := 22 }) (va_Pc [.ref mq, .int a0, .int a1, .int a2, .int a3] (fun U => va_P (dC, dI) vwCl [(mq, .inr (12, mF g gl rf))] U.heap ∧ va_K (dC, dI) vwCl [] U)) (vp_Si (fun r => (r = fq_canSay a0 a1 a2 a3 (g 13) (g 14)) ∧ (r = 0 ∨ r = 1) ∧ (r = 0 ∨ ¬ a1 < 0) ∧ (r = 0 ∨ a1 < 8))) 0 0 (fun _ => False) := by
  refine Met.ofW (cc := cX12_canSay) (maxL := 5) (ret := (some .boolean)) (by decide) rfl ?_
  intro p e s m args below meth c s₁ B hml hv
  obtain ⟨rfl, hP, hK⟩ := hv
  have hx := B.exec
  have hb := B.bytes
  have hr := B.returns
  have hts := atoms_spec (ws := Cond.code yX12_canSay cX12_canSay 5 (some .boolean) :: wsL_law) B.pre
  have htw : ∀ w ∈ wsL_law, w.before _ s = true := fun w h => hts w (List.mem_cons_of_mem _ h)
  have hown : s.vm.findClass RX12 = some m.cls := findClass_of_methodNamed B.named
  have hlocks := B.notSynchronized
  have hl := lv_entry ([.ref mq, .int a0, .int a1, .int a2, .int a3]) (n := 5) (Nat.le_of_ble_eq_true rfl)
  rw [lg_entry_eq]
  generalize (lg_sl ([.ref mq, .int a0, .int a1, .int a2, .int a3]) ++ List.replicate (5 - (lg_sl ([.ref mq, .int a0, .int a1, .int a2, .int a3])).length) Slot.unset).toArray = ls at hl ⊢
  have hl : lv_has ls 5 [(0, .ref mq), (1, .int a0), (2, .int a1), (3, .int a2), (4, .int a3)] := hl
  refine lv_iload_n hx hb dX12_canSay_0 rfl (lv_at hl 2 rfl) ?_
  by_cases h_1 : a1 = 0
  · subst h_1
    refine lv_tableIn (off := 47) (tgt := 48) hx hb dX12_canSay_1 (by decide) (by decide) (by decide) (by decide) ?_
    refine lv_iload_n hx hb dX12_canSay_48 rfl (lv_at hl 3 rfl) ?_
    refine lv_iconst (v := 1) hx hb dX12_canSay_49 (by decide) ?_
    refine lv_sipush (v := 9999) hx hb dX12_canSay_50 (by decide) ?_
    have hPc := hP.sub (ws' := []) [] rfl
    have hKc := hK.sub (tys' := []) [] rfl
    refine vp_callSi (W.runS (As := [.int a2, .int 1, .int 9999]) (rest := []) ⟨hx, hb, hml, hown, htw⟩ (gq_isIn l dC dI a2 (1 : Int32) (9999 : Int32)) (va_cwS 3 htw (xg_S (ck_26 _ (List.mem_of_getElem? (i := 17) rfl)) (ck_26 _ (List.mem_of_getElem? (i := 18) rfl)) (ck_1 _ (List.mem_of_getElem? (i := 5) rfl)) (ck_26 _ (List.mem_of_getElem? (i := 19) rfl))) rfl rfl rfl (by exact ⟨hdc_14.1, hdc_14.2, hdd_38⟩) ⟨Nat.le_of_ble_eq_true rfl, Nat.le_of_ble_eq_true rfl⟩) ⟨fun a U g mk q => by obtain ⟨q0, qP, qK⟩ := q; exact ⟨q0, qP, va_K.moved (u := U) (U := U.calling g mk a) (Vm.Alike.refl U.vm) qK⟩, fun U hU hW => ⟨rfl, by rw [hU]; exact hPc, va_K.moved hW.alike hKc⟩⟩ rfl rfl hl.1 rfl (lv_room (Nat.le_of_ble_eq_true rfl)) dX12_canSay_53 ⟨Nat.le_of_ble_eq_true rfl, Nat.le_of_ble_eq_true rfl⟩) (fun r_2 hw => ?_)
    try dsimp only at hw
    obtain ⟨hw, hb_r_2, hp_3, hp_4⟩ := hw
    have hq_r_2 : r_2 = (fq_isIn a2 (1 : Int32) (9999 : Int32)) := hw
    refine lv_if_eq (tgt := 75) hx hb dX12_canSay_56 (by decide) (fun c_5 => ?_) (fun c_5 => ?_)
    · refine lv_iconst (v := 0) hx hb dX12_canSay_75 (by decide) ?_
      exact W.zret (v := 0) hx hb hr (by first | rfl | decide) (fun t ht hW => ⟨0, rfl, ⟨(Eq.symm ((by rw [fq_canSay]; (try rw [if_pos rfl]); (try rw [← hq_r_2]); (try rw [xL_eq]); (try rw [if_pos c_5]); try rfl))), Or.inl rfl, Or.inl rfl, Or.inl rfl⟩, ht⟩) (fun _ h => by cases h) dX12_canSay_76
    · refine lv_iload hx hb dX12_canSay_59 (lv_at hl 4 rfl) ?_
      refine lv_iload_n hx hb dX12_canSay_61 rfl (lv_at hl 3 rfl) ?_
      refine lv_sipush (v := 9999) hx hb dX12_canSay_62 (by decide) ?_
      have hPc := hP.sub (ws' := []) [] rfl
      have hKc := hK.sub (tys' := []) [] rfl
      refine vp_callSi (W.runS (As := [.int a3, .int a2, .int 9999]) (rest := []) ⟨hx, hb, hml, hown, htw⟩ (gq_isIn l dC dI a3 a2 (9999 : Int32)) (va_cwS 3 htw (xg_S (ck_26 _ (List.mem_of_getElem? (i := 17) rfl)) (ck_26 _ (List.mem_of_getElem? (i := 18) rfl)) (ck_1 _ (List.mem_of_getElem? (i := 5) rfl)) (ck_26 _ (List.mem_of_getElem? (i := 19) rfl))) rfl rfl rfl (by exact ⟨hdc_14.1, hdc_14.2, hdd_38⟩) ⟨Nat.le_of_ble_eq_true rfl, Nat.le_of_ble_eq_true rfl⟩) ⟨fun a U g mk q => by obtain ⟨q0, qP, qK⟩ := q; exact ⟨q0, qP, va_K.moved (u := U) (U := U.calling g mk a) (Vm.Alike.refl U.vm) qK⟩, fun U hU hW => ⟨rfl, by rw [hU]; exact hPc, va_K.moved hW.alike hKc⟩⟩ rfl rfl hl.1 rfl (lv_room (Nat.le_of_ble_eq_true rfl)) dX12_canSay_65 ⟨Nat.le_of_ble_eq_true rfl, Nat.le_of_ble_eq_true rfl⟩) (fun r_6 hw => ?_)
      try dsimp only at hw
      obtain ⟨hw, hb_r_6, hp_7, hp_8⟩ := hw
      have hq_r_6 : r_6 = (fq_isIn a3 a2 (9999 : Int32)) := hw
      refine lv_if_eq (tgt := 75) hx hb dX12_canSay_68 (by decide) (fun c_9 => ?_) (fun c_9 => ?_)
      · refine lv_iconst (v := 0) hx hb dX12_canSay_75 (by decide) ?_
        exact W.zret (v := 0) hx hb hr (by first | rfl | decide) (fun t ht hW => ⟨0, rfl, ⟨(Eq.symm ((by rw [fq_canSay]; (try rw [if_pos rfl]); (try rw [← hq_r_2]); (try rw [xL_eq]); (try rw [if_neg c_5]); (try rw [← hq_r_6]); (try rw [xL_eq]); (try rw [if_pos c_9]); try rfl))), Or.inl rfl, Or.inl rfl, Or.inl rfl⟩, ht⟩) (fun _ h => by cases h) dX12_canSay_76
      · refine lv_iconst (v := 1) hx hb dX12_canSay_71 (by decide) ?_
        refine lv_goto (tgt := 76) hx hb dX12_canSay_72 (by decide) ?_
        exact W.zret (v := 1) hx hb hr (by first | rfl | decide) (fun t ht hW => ⟨1, rfl, ⟨(Eq.symm ((by rw [fq_canSay]; (try rw [if_pos rfl]); (try rw [← hq_r_2]); (try rw [xL_eq]); (try rw [if_neg c_5]); (try rw [← hq_r_6]); (try rw [xL_eq]); (try rw [if_neg c_9]); try rfl))), Or.inr rfl, (Or.inr (gq_canSay_s0 )), (Or.inr (gq_canSay_s1 ))⟩, ht⟩) (fun _ h => by cases h) dX12_canSay_76
  by_cases h_10 : a1 = 1
  · subst h_10
    refine lv_tableIn (off := 76) (tgt := 77) hx hb dX12_canSay_1 (by decide) (by decide) (by decide) (by decide) ?_
    refine lv_iload_n hx hb dX12_canSay_77 rfl (lv_at hl 3 rfl) ?_
    refine lv_iconst (v := 1) hx hb dX12_canSay_78 (by decide) ?_
    refine lv_ldc (v := 99999) hx hb hown (htw _ (ck_24 _ (List.mem_of_getElem? (i := 20) rfl))) dX12_canSay_79 ?_
    have hPc := hP.sub (ws' := []) [] rfl
    have hKc := hK.sub (tys' := []) [] rfl
    refine vp_callSi (W.runS (As := [.int a2, .int 1, .int 99999]) (rest := []) ⟨hx, hb, hml, hown, htw⟩ (gq_isIn l dC dI a2 (1 : Int32) (99999 : Int32)) (va_cwS 3 htw (xg_S (ck_26 _ (List.mem_of_getElem? (i := 17) rfl)) (ck_26 _ (List.mem_of_getElem? (i := 18) rfl)) (ck_1 _ (List.mem_of_getElem? (i := 5) rfl)) (ck_26 _ (List.mem_of_getElem? (i := 19) rfl))) rfl rfl rfl (by exact ⟨hdc_14.1, hdc_14.2, hdd_38⟩) ⟨Nat.le_of_ble_eq_true rfl, Nat.le_of_ble_eq_true rfl⟩) ⟨fun a U g mk q => by obtain ⟨q0, qP, qK⟩ := q; exact ⟨q0, qP, va_K.moved (u := U) (U := U.calling g mk a) (Vm.Alike.refl U.vm) qK⟩, fun U hU hW => ⟨rfl, by rw [hU]; exact hPc, va_K.moved hW.alike hKc⟩⟩ rfl rfl hl.1 rfl (lv_room (Nat.le_of_ble_eq_true rfl)) dX12_canSay_81 ⟨Nat.le_of_ble_eq_true rfl, Nat.le_of_ble_eq_true rfl⟩) (fun r_11 hw => ?_)
    try dsimp only at hw
    obtain ⟨hw, hb_r_11, hp_12, hp_13⟩ := hw
    have hq_r_11 : r_11 = (fq_isIn a2 (1 : Int32) (99999 : Int32)) := hw
    exact W.zret (v := r_11) hx hb hr (xz_nar hb_r_11) (fun t ht hW => ⟨r_11, rfl, ⟨(Eq.symm ((by rw [fq_canSay]; (try rw [if_neg h_1]); (try rw [if_pos rfl]); (try rw [← hq_r_11]); (try rw [xL_eq]); try rfl))), hb_r_11, (Or.inr (gq_canSay_s2 )), (Or.inr (gq_canSay_s3 ))⟩, ht⟩) (fun _ h => by cases h) dX12_canSay_84
  by_cases h_14 : a1 = 2
  · subst h_14
    refine lv_tableIn (off := 84) (tgt := 85) hx hb dX12_canSay_1 (by decide) (by decide) (by decide) (by decide) ?_
    refine lv_iload_n hx hb dX12_canSay_85 rfl (lv_at hl 3 rfl) ?_
    refine lv_iconst (v := 0) hx hb dX12_canSay_86 (by decide) ?_
    refine lv_ldc (v := 99999) hx hb hown (htw _ (ck_24 _ (List.mem_of_getElem? (i := 20) rfl))) dX12_canSay_87 ?_
    have hPc := hP.sub (ws' := []) [] rfl
    have hKc := hK.sub (tys' := []) [] rfl
    refine vp_callSi (W.runS (As := [.int a2, .int 0, .int 99999]) (rest := []) ⟨hx, hb, hml, hown, htw⟩ (gq_isIn l dC dI a2 (0 : Int32) (99999 : Int32)) (va_cwS 3 htw (xg_S (ck_26 _ (List.mem_of_getElem? (i := 17) rfl)) (ck_26 _ (List.mem_of_getElem? (i := 18) rfl)) (ck_1 _ (List.mem_of_getElem? (i := 5) rfl)) (ck_26 _ (List.mem_of_getElem? (i := 19) rfl))) rfl rfl rfl (by exact ⟨hdc_14.1, hdc_14.2, hdd_38⟩) ⟨Nat.le_of_ble_eq_true rfl, Nat.le_of_ble_eq_true rfl⟩) ⟨fun a U g mk q => by obtain ⟨q0, qP, qK⟩ := q; exact ⟨q0, qP, va_K.moved (u := U) (U := U.calling g mk a) (Vm.Alike.refl U.vm) qK⟩, fun U hU hW => ⟨rfl, by rw [hU]; exact hPc, va_K.moved hW.alike hKc⟩⟩ rfl rfl hl.1 rfl (lv_room (Nat.le_of_ble_eq_true rfl)) dX12_canSay_89 ⟨Nat.le_of_ble_eq_true rfl, Nat.le_of_ble_eq_true rfl⟩) (fun r_15 hw => ?_)
    try dsimp only at hw
    obtain ⟨hw, hb_r_15, hp_16, hp_17⟩ := hw
    have hq_r_15 : r_15 = (fq_isIn a2 (0 : Int32) (99999 : Int32)) := hw
    exact W.zret (v := r_15) hx hb hr (xz_nar hb_r_15) (fun t ht hW => ⟨r_15, rfl, ⟨(Eq.symm ((by rw [fq_canSay]; (try rw [if_neg h_1]); (try rw [if_neg h_10]); (try rw [if_pos rfl]); (try rw [← hq_r_15]); (try rw [xL_eq]); try rfl))), hb_r_15, (Or.inr (gq_canSay_s4 )), (Or.inr (gq_canSay_s5 ))⟩, ht⟩) (fun _ h => by cases h) dX12_canSay_92
  by_cases h_18 : a1 = 3
  · subst h_18
    refine lv_tableIn (off := 92) (tgt := 93) hx hb dX12_canSay_1 (by decide) (by decide) (by decide) (by decide) ?_
    refine lv_iload_n hx hb dX12_canSay_93 rfl (lv_at hl 3 rfl) ?_
    refine lv_iconst (v := 0) hx hb dX12_canSay_94 (by decide) ?_
    refine lv_bipush (v := 7) hx hb dX12_canSay_95 (by decide) ?_
    have hPc := hP.sub (ws' := []) [] rfl
    have hKc := hK.sub (tys' := []) [] rfl
    refine vp_callSi (W.runS (As := [.int a2, .int 0, .int 7]) (rest := []) ⟨hx, hb, hml, hown, htw⟩ (gq_isIn l dC dI a2 (0 : Int32) (7 : Int32)) (va_cwS 3 htw (xg_S (ck_26 _ (List.mem_of_getElem? (i := 17) rfl)) (ck_26 _ (List.mem_of_getElem? (i := 18) rfl)) (ck_1 _ (List.mem_of_getElem? (i := 5) rfl)) (ck_26 _ (List.mem_of_getElem? (i := 19) rfl))) rfl rfl rfl (by exact ⟨hdc_14.1, hdc_14.2, hdd_38⟩) ⟨Nat.le_of_ble_eq_true rfl, Nat.le_of_ble_eq_true rfl⟩) ⟨fun a U g mk q => by obtain ⟨q0, qP, qK⟩ := q; exact ⟨q0, qP, va_K.moved (u := U) (U := U.calling g mk a) (Vm.Alike.refl U.vm) qK⟩, fun U hU hW => ⟨rfl, by rw [hU]; exact hPc, va_K.moved hW.alike hKc⟩⟩ rfl rfl hl.1 rfl (lv_room (Nat.le_of_ble_eq_true rfl)) dX12_canSay_97 ⟨Nat.le_of_ble_eq_true rfl, Nat.le_of_ble_eq_true rfl⟩) (fun r_19 hw => ?_)
    try dsimp only at hw
    obtain ⟨hw, hb_r_19, hp_20, hp_21⟩ := hw
    have hq_r_19 : r_19 = (fq_isIn a2 (0 : Int32) (7 : Int32)) := hw
    exact W.zret (v := r_19) hx hb hr (xz_nar hb_r_19) (fun t ht hW => ⟨r_19, rfl, ⟨(Eq.symm ((by rw [fq_canSay]; (try rw [if_neg h_1]); (try rw [if_neg h_10]); (try rw [if_neg h_14]); (try rw [if_pos rfl]); (try rw [← hq_r_19]); (try rw [xL_eq]); try rfl))), hb_r_19, (Or.inr (gq_canSay_s6 )), (Or.inr (gq_canSay_s7 ))⟩, ht⟩) (fun _ h => by cases h) dX12_canSay_100
  by_cases h_22 : a1 = 4
  · subst h_22
    refine lv_tableIn (off := 100) (tgt := 101) hx hb dX12_canSay_1 (by decide) (by decide) (by decide) (by decide) ?_
    refine lv_iload_n hx hb dX12_canSay_101 rfl (lv_at hl 3 rfl) ?_
    refine lv_iconst (v := 0) hx hb dX12_canSay_102 (by decide) ?_
    refine lv_iconst (v := 3) hx hb dX12_canSay_103 (by decide) ?_
    have hPc := hP.sub (ws' := []) [] rfl
    have hKc := hK.sub (tys' := []) [] rfl
    refine vp_callSi (W.runS (As := [.int a2, .int 0, .int 3]) (rest := []) ⟨hx, hb, hml, hown, htw⟩ (gq_isIn l dC dI a2 (0 : Int32) (3 : Int32)) (va_cwS 3 htw (xg_S (ck_26 _ (List.mem_of_getElem? (i := 17) rfl)) (ck_26 _ (List.mem_of_getElem? (i := 18) rfl)) (ck_1 _ (List.mem_of_getElem? (i := 5) rfl)) (ck_26 _ (List.mem_of_getElem? (i := 19) rfl))) rfl rfl rfl (by exact ⟨hdc_14.1, hdc_14.2, hdd_38⟩) ⟨Nat.le_of_ble_eq_true rfl, Nat.le_of_ble_eq_true rfl⟩) ⟨fun a U g mk q => by obtain ⟨q0, qP, qK⟩ := q; exact ⟨q0, qP, va_K.moved (u := U) (U := U.calling g mk a) (Vm.Alike.refl U.vm) qK⟩, fun U hU hW => ⟨rfl, by rw [hU]; exact hPc, va_K.moved hW.alike hKc⟩⟩ rfl rfl hl.1 rfl (lv_room (Nat.le_of_ble_eq_true rfl)) dX12_canSay_104 ⟨Nat.le_of_ble_eq_true rfl, Nat.le_of_ble_eq_true rfl⟩) (fun r_23 hw => ?_)
    try dsimp only at hw
    obtain ⟨hw, hb_r_23, hp_24, hp_25⟩ := hw
    have hq_r_23 : r_23 = (fq_isIn a2 (0 : Int32) (3 : Int32)) := hw
    exact W.zret (v := r_23) hx hb hr (xz_nar hb_r_23) (fun t ht hW => ⟨r_23, rfl, ⟨(Eq.symm ((by rw [fq_canSay]; (try rw [if_neg h_1]); (try rw [if_neg h_10]); (try rw [if_neg h_14]); (try rw [if_neg h_18]); (try rw [if_pos rfl]); (try rw [← hq_r_23]); (try rw [xL_eq]); try rfl))), hb_r_23, (Or.inr (gq_canSay_s8 )), (Or.inr (gq_canSay_s9 ))⟩, ht⟩) (fun _ h => by cases h) dX12_canSay_107
  by_cases h_26 : a1 = 5
  · subst h_26
    refine lv_tableIn (off := 107) (tgt := 108) hx hb dX12_canSay_1 (by decide) (by decide) (by decide) (by decide) ?_
    refine lv_aload_n hx hb dX12_canSay_108 rfl (lv_at hl 0 rfl) ?_
    refine lv_iload_n hx hb dX12_canSay_109 rfl (lv_at hl 3 rfl) ?_
    have hPc := hP.sub (ws' := [(mq, .inr (12, mF g gl rf))]) [0] rfl
    have hKc := hK.sub (tys' := []) [] rfl
    refine vp_callSi (W.runV (As := [.int a2]) (rest := []) ⟨hx, hb, hml, hown, htw⟩ (gq_isPerson l dC dI mq g gl rf a2) (cwV 1 htw (xg_V (ck_44 _ (List.mem_of_getElem? (i := 20) rfl)) (ck_44 _ (List.mem_of_getElem? (i := 21) rfl)) (ck_44 _ (List.mem_of_getElem? (i := 22) rfl)) (ck_1 _ (List.mem_of_getElem? (i := 5) rfl)) (ck_44 _ (List.mem_of_getElem? (i := 23) rfl))) rfl rfl rfl (by exact ⟨rfl, hdc_14.1, hdc_14.2, hdd_26⟩) ⟨Nat.le_of_ble_eq_true rfl, Nat.le_of_ble_eq_true rfl⟩) ⟨fun a U g mk q => by obtain ⟨q0, qP, qK⟩ := q; exact ⟨q0, qP, va_K.moved (u := U) (U := U.calling g mk a) (Vm.Alike.refl U.vm) qK⟩, va_recv hKc hPc (ci := 12) (q0 := 0) rfl rfl, fun U hU hW => ⟨rfl, by rw [hU]; exact hPc, va_K.moved hW.alike hKc⟩⟩ rfl rfl hl.1 rfl (lv_room (Nat.le_of_ble_eq_true rfl)) dX12_canSay_110 ⟨Nat.le_of_ble_eq_true rfl, Nat.le_of_ble_eq_true rfl⟩) (fun r_27 hw => ?_)
    try dsimp only at hw
    obtain ⟨hw, hb_r_27, hp_28, hp_29⟩ := hw
    have hq_r_27 : r_27 = (fq_isPerson a2 (g 14)) := hw
    exact W.zret (v := r_27) hx hb hr (xz_nar hb_r_27) (fun t ht hW => ⟨r_27, rfl, ⟨(Eq.symm ((by rw [fq_canSay]; (try rw [if_neg h_1]); (try rw [if_neg h_10]); (try rw [if_neg h_14]); (try rw [if_neg h_18]); (try rw [if_neg h_22]); (try rw [if_pos rfl]); (try rw [← hq_r_27]); (try rw [xL_eq]); try rfl))), hb_r_27, (Or.inr (gq_canSay_s10 )), (Or.inr (gq_canSay_s11 ))⟩, ht⟩) (fun _ h => by cases h) dX12_canSay_113
  by_cases h_30 : a1 = 6
  · subst h_30
    refine lv_tableIn (off := 113) (tgt := 114) hx hb dX12_canSay_1 (by decide) (by decide) (by decide) (by decide) ?_
    refine lv_aload_n hx hb dX12_canSay_114 rfl (lv_at hl 0 rfl) ?_
    refine lv_iload_n hx hb dX12_canSay_115 rfl (lv_at hl 3 rfl) ?_
    have hPc := hP.sub (ws' := [(mq, .inr (12, mF g gl rf))]) [0] rfl
    have hKc := hK.sub (tys' := []) [] rfl
    refine vp_callSi (W.runV (As := [.int a2]) (rest := []) ⟨hx, hb, hml, hown, htw⟩ (gq_isFeast l dC dI mq g gl rf a2) (cwV 1 htw (xg_V (ck_40 _ (List.mem_of_getElem? (i := 18) rfl)) (ck_40 _ (List.mem_of_getElem? (i := 19) rfl)) (ck_40 _ (List.mem_of_getElem? (i := 20) rfl)) (ck_1 _ (List.mem_of_getElem? (i := 5) rfl)) (ck_40 _ (List.mem_of_getElem? (i := 21) rfl))) rfl rfl rfl (by exact ⟨rfl, hdc_14.1, hdc_14.2, hdd_26⟩) ⟨Nat.le_of_ble_eq_true rfl, Nat.le_of_ble_eq_true rfl⟩) ⟨fun a U g mk q => by obtain ⟨q0, qP, qK⟩ := q; exact ⟨q0, qP, va_K.moved (u := U) (U := U.calling g mk a) (Vm.Alike.refl U.vm) qK⟩, va_recv hKc hPc (ci := 12) (q0 := 0) rfl rfl, fun U hU hW => ⟨rfl, by rw [hU]; exact hPc, va_K.moved hW.alike hKc⟩⟩ rfl rfl hl.1 rfl (lv_room (Nat.le_of_ble_eq_true rfl)) dX12_canSay_116 ⟨Nat.le_of_ble_eq_true rfl, Nat.le_of_ble_eq_true rfl⟩) (fun r_31 hw => ?_)
    try dsimp only at hw
    obtain ⟨hw, hb_r_31, hp_32, hp_33⟩ := hw
    have hq_r_31 : r_31 = (fq_isFeast a2 (g 13)) := hw
    exact W.zret (v := r_31) hx hb hr (xz_nar hb_r_31) (fun t ht hW => ⟨r_31, rfl, ⟨(Eq.symm ((by rw [fq_canSay]; (try rw [if_neg h_1]); (try rw [if_neg h_10]); (try rw [if_neg h_14]); (try rw [if_neg h_18]); (try rw [if_neg h_22]); (try rw [if_neg h_26]); (try rw [if_pos rfl]); (try rw [← hq_r_31]); (try rw [xL_eq]); try rfl))), hb_r_31, (Or.inr (gq_canSay_s12 )), (Or.inr (gq_canSay_s13 ))⟩, ht⟩) (fun _ h => by cases h) dX12_canSay_119
  by_cases h_34 : a1 = 7
  · subst h_34
    refine lv_tableIn (off := 119) (tgt := 120) hx hb dX12_canSay_1 (by decide) (by decide) (by decide) (by decide) ?_
    refine lv_iload_n hx hb dX12_canSay_120 rfl (lv_at hl 3 rfl) ?_
    refine lv_iconst (v := 0) hx hb dX12_canSay_121 (by decide) ?_
    refine lv_iload_n hx hb dX12_canSay_122 rfl (lv_at hl 1 rfl) ?_
    refine lv_iconst (v := 1) hx hb dX12_canSay_123 (by decide) ?_
    refine lv_isub hx hb dX12_canSay_124 ?_
    have hPc := hP.sub (ws' := []) [] rfl
    have hKc := hK.sub (tys' := []) [] rfl
    refine vp_callSi (W.runS (As := [.int a2, .int 0, .int (a0 - 1)]) (rest := []) ⟨hx, hb, hml, hown, htw⟩ (gq_isIn l dC dI a2 (0 : Int32) (a0 - 1)) (va_cwS 3 htw (xg_S (ck_26 _ (List.mem_of_getElem? (i := 17) rfl)) (ck_26 _ (List.mem_of_getElem? (i := 18) rfl)) (ck_1 _ (List.mem_of_getElem? (i := 5) rfl)) (ck_26 _ (List.mem_of_getElem? (i := 19) rfl))) rfl rfl rfl (by exact ⟨hdc_14.1, hdc_14.2, hdd_38⟩) ⟨Nat.le_of_ble_eq_true rfl, Nat.le_of_ble_eq_true rfl⟩) ⟨fun a U g mk q => by obtain ⟨q0, qP, qK⟩ := q; exact ⟨q0, qP, va_K.moved (u := U) (U := U.calling g mk a) (Vm.Alike.refl U.vm) qK⟩, fun U hU hW => ⟨rfl, by rw [hU]; exact hPc, va_K.moved hW.alike hKc⟩⟩ rfl rfl hl.1 rfl (lv_room (Nat.le_of_ble_eq_true rfl)) dX12_canSay_125 ⟨Nat.le_of_ble_eq_true rfl, Nat.le_of_ble_eq_true rfl⟩) (fun r_35 hw => ?_)
    try dsimp only at hw
    obtain ⟨hw, hb_r_35, hp_36, hp_37⟩ := hw
    have hq_r_35 : r_35 = (fq_isIn a2 (0 : Int32) (a0 - 1)) := hw
    refine lv_if_eq (tgt := 149) hx hb dX12_canSay_128 (by decide) (fun c_38 => ?_) (fun c_38 => ?_)
    · refine lv_iconst (v := 0) hx hb dX12_canSay_149 (by decide) ?_
      exact W.zret (v := 0) hx hb hr (by first | rfl | decide) (fun t ht hW => ⟨0, rfl, ⟨(Eq.symm ((by rw [fq_canSay]; (try rw [if_neg h_1]); (try rw [if_neg h_10]); (try rw [if_neg h_14]); (try rw [if_neg h_18]); (try rw [if_neg h_22]); (try rw [if_neg h_26]); (try rw [if_neg h_30]); (try rw [if_pos rfl]); (try rw [← hq_r_35]); (try rw [xL_eq]); (try rw [if_pos c_38]); try rfl))), Or.inl rfl, Or.inl rfl, Or.inl rfl⟩, ht⟩) (fun _ h => by cases h) dX12_canSay_150
    · refine lv_iload hx hb dX12_canSay_131 (lv_at hl 4 rfl) ?_
      refine lv_sipush (v := (-9999)) hx hb dX12_canSay_133 (by decide) ?_
      refine lv_sipush (v := 9999) hx hb dX12_canSay_136 (by decide) ?_
      have hPc := hP.sub (ws' := []) [] rfl
      have hKc := hK.sub (tys' := []) [] rfl
      refine vp_callSi (W.runS (As := [.int a3, .int (-9999), .int 9999]) (rest := []) ⟨hx, hb, hml, hown, htw⟩ (gq_isIn l dC dI a3 (-9999 : Int32) (9999 : Int32)) (va_cwS 3 htw (xg_S (ck_26 _ (List.mem_of_getElem? (i := 17) rfl)) (ck_26 _ (List.mem_of_getElem? (i := 18) rfl)) (ck_1 _ (List.mem_of_getElem? (i := 5) rfl)) (ck_26 _ (List.mem_of_getElem? (i := 19) rfl))) rfl rfl rfl (by exact ⟨hdc_14.1, hdc_14.2, hdd_38⟩) ⟨Nat.le_of_ble_eq_true rfl, Nat.le_of_ble_eq_true rfl⟩) ⟨fun a U g mk q => by obtain ⟨q0, qP, qK⟩ := q; exact ⟨q0, qP, va_K.moved (u := U) (U := U.calling g mk a) (Vm.Alike.refl U.vm) qK⟩, fun U hU hW => ⟨rfl, by rw [hU]; exact hPc, va_K.moved hW.alike hKc⟩⟩ rfl rfl hl.1 rfl (lv_room (Nat.le_of_ble_eq_true rfl)) dX12_canSay_139 ⟨Nat.le_of_ble_eq_true rfl, Nat.le_of_ble_eq_true rfl⟩) (fun r_39 hw => ?_)
      try dsimp only at hw
      obtain ⟨hw, hb_r_39, hp_40, hp_41⟩ := hw
      have hq_r_39 : r_39 = (fq_isIn a3 (-9999 : Int32) (9999 : Int32)) := hw
      refine lv_if_eq (tgt := 149) hx hb dX12_canSay_142 (by decide) (fun c_42 => ?_) (fun c_42 => ?_)
      · refine lv_iconst (v := 0) hx hb dX12_canSay_149 (by decide) ?_
        exact W.zret (v := 0) hx hb hr (by first | rfl | decide) (fun t ht hW => ⟨0, rfl, ⟨(Eq.symm ((by rw [fq_canSay]; (try rw [if_neg h_1]); (try rw [if_neg h_10]); (try rw [if_neg h_14]); (try rw [if_neg h_18]); (try rw [if_neg h_22]); (try rw [if_neg h_26]); (try rw [if_neg h_30]); (try rw [if_pos rfl]); (try rw [← hq_r_35]); (try rw [xL_eq]); (try rw [if_neg c_38]); (try rw [← hq_r_39]); (try rw [xL_eq]); (try rw [if_pos c_42]); try rfl))), Or.inl rfl, Or.inl rfl, Or.inl rfl⟩, ht⟩) (fun _ h => by cases h) dX12_canSay_150
      · refine lv_iconst (v := 1) hx hb dX12_canSay_145 (by decide) ?_
        refine lv_goto (tgt := 150) hx hb dX12_canSay_146 (by decide) ?_
        exact W.zret (v := 1) hx hb hr (by first | rfl | decide) (fun t ht hW => ⟨1, rfl, ⟨(Eq.symm ((by rw [fq_canSay]; (try rw [if_neg h_1]); (try rw [if_neg h_10]); (try rw [if_neg h_14]); (try rw [if_neg h_18]); (try rw [if_neg h_22]); (try rw [if_neg h_26]); (try rw [if_neg h_30]); (try rw [if_pos rfl]); (try rw [← hq_r_35]); (try rw [xL_eq]); (try rw [if_neg c_38]); (try rw [← hq_r_39]); (try rw [xL_eq]); (try rw [if_neg c_42]); try rfl))), Or.inr rfl, (Or.inr (gq_canSay_s14 )), (Or.inr (gq_canSay_s15 ))⟩, ht⟩) (fun _ h => by cases h) dX12_canSay_150
  refine lv_tableOut (tgt := 151) hx hb dX12_canSay_1 (by have a0 := xg_ne h_1; have a1 := xg_ne h_10; have a2 := xg_ne h_14; have a3 := xg_ne h_18; have a4 := xg_ne h_22; have a5 := xg_ne h_26; have a6 := xg_ne h_30; have a7 := xg_ne h_34; have b0 : (0 : Int32).toInt = 0 := rfl; have b1 : (1 : Int32).toInt = 1 := rfl; have b2 : (2 : Int32).toInt = 2 := rfl; have b3 : (3 : Int32).toInt = 3 := rfl; have b4 : (4 : Int32).toInt = 4 := rfl; have b5 : (5 : Int32).toInt = 5 := rfl; have b6 : (6 : Int32).toInt = 6 := rfl; have b7 : (7 : Int32).toInt = 7 := rfl; omega) (by decide) ?_
  refine lv_iconst (v := 0) hx hb dX12_canSay_151 (by decide) ?_
  exact W.zret (v := 0) hx hb hr (by first | rfl | decide) (fun t ht hW => ⟨0, rfl, ⟨(Eq.symm ((by rw [fq_canSay]; (try rw [if_neg h_1]); (try rw [if_neg h_10]); (try rw [if_neg h_14]); (try rw [if_neg h_18]); (try rw [if_neg h_22]); (try rw [if_neg h_26]); (try rw [if_neg h_30]); (try rw [if_neg h_34]); try rfl))), Or.inl rfl, Or.inl rfl, Or.inl rfl⟩, ht⟩) (fun _ h => by cases h) dX12_canSay_152

def fq_says_a (a0 : Int32) : (Int32) := (if a0 = 0 then (1 : Int32) else (2 + a0))
def fq_says (f_noteHas : Nat → Int32) (f_undo : Nat → Int32) (a0 : Int32) (a1 : Int32) (a2 : Int32) (m_feasts : Int32) (m_people : Int32) (m_notes : Int32) (m_undos : Int32) : Int32 × (Int32) × (Int32) × (Nat → Int32) × (Nat → Int32) := (if (m_notes - 1) < 0 then ((0 : Int32), (0 : Int32), m_undos, f_noteHas, f_undo) else (xL ((fq_canSay (m_notes - 1) a0 a1 a2 m_feasts m_people)) (fun r_2 => (if r_2 = 0 then ((0 : Int32), (0 : Int32), m_undos, f_noteHas, f_undo) else (xL ((fq_isOf (f_noteHas ((11 * (m_notes - 1)).toNatClampNeg)) a0)) (fun r_6 => (if r_6 = 0 then (xL (fq_says_a a0) (fun X_9 => (if a0 = 0 then (if a0 = 7 then ((1 : Int32), (0 : Int32), (m_undos + 1), (upd (upd (upd (upd f_noteHas ((11 * (m_notes - 1)).toNatClampNeg) ((f_noteHas ((11 * (m_notes - 1)).toNatClampNeg)) ||| (1 <<< (a0 &&& 31)))) (((11 * (m_notes - 1)) + X_9).toNatClampNeg) a1) (((11 * (m_notes - 1)) + 2).toNatClampNeg) a2) (((11 * (m_notes - 1)) + 10).toNatClampNeg) a2), (upd f_undo (m_undos.toNatClampNeg) a0)) else ((1 : Int32), (0 : Int32), (m_undos + 1), (upd (upd (upd f_noteHas ((11 * (m_notes - 1)).toNatClampNeg) ((f_noteHas ((11 * (m_notes - 1)).toNatClampNeg)) ||| (1 <<< (a0 &&& 31)))) (((11 * (m_notes - 1)) + X_9).toNatClampNeg) a1) (((11 * (m_notes - 1)) + 2).toNatClampNeg) a2), (upd f_undo (m_undos.toNatClampNeg) a0))) else (if a0 = 7 then ((1 : Int32), (0 : Int32), (m_undos + 1), (upd (upd (upd f_noteHas ((11 * (m_notes - 1)).toNatClampNeg) ((f_noteHas ((11 * (m_notes - 1)).toNatClampNeg)) ||| (1 <<< (a0 &&& 31)))) (((11 * (m_notes - 1)) + X_9).toNatClampNeg) a1) (((11 * (m_notes - 1)) + 10).toNatClampNeg) a2), (upd f_undo (m_undos.toNatClampNeg) a0)) else ((1 : Int32), (0 : Int32), (m_undos + 1), (upd (upd f_noteHas ((11 * (m_notes - 1)).toNatClampNeg) ((f_noteHas ((11 * (m_notes - 1)).toNatClampNeg)) ||| (1 <<< (a0 &&& 31)))) (((11 * (m_notes - 1)) + X_9).toNatClampNeg) a1), (upd f_undo (m_undos.toNatClampNeg) a0)))))) else ((0 : Int32), (0 : Int32), m_undos, f_noteHas, f_undo))))))))
theorem gq_says_s0 {y0 : Int32} (h0 : ¬ ((y0 - 1) < 0)) (h1 : ¬ (y0 < 0)) (h2 : y0 ≤ 12) : ¬ ((y0 - 1) < 0) ∧ (y0 - 1) ≤ 11 := by lia
theorem gq_says_s1 {y0 : Int32} (h0 : ¬ ((y0 - 1) < 0)) (h1 : ¬ (y0 < 0)) (h2 : y0 ≤ 12) : ¬ ((y0 - 1) < 0) ∧ (y0 - 1) ≤ 11 := by lia
theorem gq_says_s2 {y0 : Int32} (h0 : ¬ ((y0 - 1) < 0)) (h1 : ¬ (y0 < 0)) (h2 : y0 ≤ 12) : ¬ ((y0 - 1) < 0) ∧ (y0 - 1) ≤ 11 := by lia
theorem gq_says_s3 {y0 : Int32} (h0 : ¬ ((y0 - 1) < 0)) (h1 : ¬ (y0 < 0)) (h2 : y0 ≤ 12) : ¬ ((y0 - 1) < 0) ∧ (y0 - 1) ≤ 11 := by lia
theorem gq_says_s4 {y0 : Int32} (h0 : ¬ (y0 < 0)) (h1 : y0 ≤ 10) : ¬ (y0 < 0) ∧ y0 ≤ 10 := ⟨h0, h1⟩
theorem gq_says_s5 {y0 : Int32} (h0 : ¬ (y0 < 0)) (h1 : y0 < 128) : ¬ (y0 < 0) ∧ ¬ (128 ≤ y0) := by lia
theorem gq_says_s6 {y0 : Int32} (h0 : ¬ ((y0 - 1) < 0)) (h1 : ¬ (y0 < 0)) (h2 : y0 ≤ 12) : ¬ ((y0 - 1) < 0) ∧ (y0 - 1) ≤ 11 := by lia
theorem gq_says_s7  : ¬ ((10 : Int32) < 0) ∧ (10 : Int32) ≤ 10 := ⟨(by decide), (by decide)⟩
theorem gq_says_s8 {y0 : Int32} (h0 : ¬ (y0 < 0)) (h1 : y0 < 128) : ¬ (y0 < 0) ∧ ¬ (128 ≤ y0) := by lia
theorem gq_says_s9 {y0 : Int32} (h0 : ¬ ((y0 - 1) < 0)) (h1 : ¬ (y0 < 0)) (h2 : y0 ≤ 12) : ¬ ((y0 - 1) < 0) ∧ (y0 - 1) ≤ 11 := by lia
theorem gq_says_s10  : ¬ ((2 : Int32) < 0) ∧ (2 : Int32) ≤ 10 := ⟨(by decide), (by decide)⟩
theorem gq_says_s11 {y0 : Int32} (h0 : ¬ (y0 < 0)) (h1 : y0 < 128) : ¬ (y0 < 0) ∧ ¬ (128 ≤ y0) := by lia
theorem gq_says_s12 {y0 : Int32} (h0 : ¬ ((y0 - 1) < 0)) (h1 : ¬ (y0 < 0)) (h2 : y0 ≤ 12) : ¬ ((y0 - 1) < 0) ∧ (y0 - 1) ≤ 11 := by lia
theorem gq_says_s13  : ¬ ((10 : Int32) < 0) ∧ (10 : Int32) ≤ 10 := ⟨(by decide), (by decide)⟩
theorem gq_says_s14 {y0 : Int32} (h0 : ¬ (y0 < 0)) (h1 : y0 < 128) : ¬ (y0 < 0) ∧ ¬ (128 ≤ y0) := by lia
theorem gq_says_s15 {y0 : Int32} (h0 : ¬ (y0 = 0)) (h1 : ¬ (y0 < 0)) (h2 : y0 < 8) : ¬ ((2 + y0) < 0) := by lia
theorem gq_says_s16 {y0 : Int32} (h0 : ¬ (y0 = 0)) (h1 : ¬ (y0 < 0)) (h2 : y0 < 8) : (2 + y0) ≤ 10 := by lia
theorem gq_says_s17  : ¬ ((1 : Int32) < 0) := (by decide)
theorem gq_says_s18  : (1 : Int32) ≤ 10 := (by decide)
theorem dX12_says_0 : decode cX12_says 0 = .ok (.aload_n 0, 1) := zk_42 (by decide +kernel)
theorem dX12_says_1 : decode cX12_says 1 = .ok (.iconst 0, 1) := zk_3 (by decide +kernel)
theorem dX12_says_2 : decode cX12_says 2 = .ok (.putfield 119, 3) := zk_181 (by decide +kernel)
theorem dX12_says_5 : decode cX12_says 5 = .ok (.aload_n 0, 1) := zk_42 (by decide +kernel)
theorem dX12_says_6 : decode cX12_says 6 = .ok (.getfield 229, 3) := zk_180 (by decide +kernel)
theorem dX12_says_9 : decode cX12_says 9 = .ok (.iconst 1, 1) := zk_4 (by decide +kernel)
theorem dX12_says_10 : decode cX12_says 10 = .ok (.isub, 1) := zk_100 (by decide +kernel)
theorem dX12_says_11 : decode cX12_says 11 = .ok (.istore 4, 2) := zk_54 (by decide +kernel)
theorem dX12_says_13 : decode cX12_says 13 = .ok (.iload 4, 2) := zk_21 (by decide +kernel)
theorem dX12_says_15 : decode cX12_says 15 = .ok (.ifCond .lt 32, 3) := zk_155 (by decide +kernel)
theorem dX12_says_47 : decode cX12_says 47 = .ok (.iconst 0, 1) := zk_3 (by decide +kernel)
theorem dX12_says_48 : decode cX12_says 48 = .ok (.ireturn, 1) := zk_172 (by decide +kernel)
theorem dX12_says_18 : decode cX12_says 18 = .ok (.aload_n 0, 1) := zk_42 (by decide +kernel)
theorem dX12_says_19 : decode cX12_says 19 = .ok (.iload 4, 2) := zk_21 (by decide +kernel)
theorem dX12_says_21 : decode cX12_says 21 = .ok (.iload_n 1, 1) := zk_27 (by decide +kernel)
theorem dX12_says_22 : decode cX12_says 22 = .ok (.iload_n 2, 1) := zk_28 (by decide +kernel)
theorem dX12_says_23 : decode cX12_says 23 = .ok (.iload_n 3, 1) := zk_29 (by decide +kernel)
theorem dX12_says_24 : decode cX12_says 24 = .ok (.invokevirtual 490, 3) := zk_182 (by decide +kernel)
theorem dX12_says_27 : decode cX12_says 27 = .ok (.ifCond .eq 20, 3) := zk_153 (by decide +kernel)
theorem dX12_says_30 : decode cX12_says 30 = .ok (.aload_n 0, 1) := zk_42 (by decide +kernel)
theorem dX12_says_31 : decode cX12_says 31 = .ok (.getfield 60, 3) := zk_180 (by decide +kernel)
theorem dX12_says_34 : decode cX12_says 34 = .ok (.bipush 11, 2) := zk_16 (by decide +kernel)
theorem dX12_says_36 : decode cX12_says 36 = .ok (.iload 4, 2) := zk_21 (by decide +kernel)
theorem dX12_says_38 : decode cX12_says 38 = .ok (.imul, 1) := zk_104 (by decide +kernel)
theorem dX12_says_39 : decode cX12_says 39 = .ok (.iaload, 1) := zk_46 (by decide +kernel)
theorem dX12_says_40 : decode cX12_says 40 = .ok (.iload_n 1, 1) := zk_27 (by decide +kernel)
theorem dX12_says_41 : decode cX12_says 41 = .ok (.invokestatic 297, 3) := zk_184 (by decide +kernel)
theorem dX12_says_44 : decode cX12_says 44 = .ok (.ifCond .eq 5, 3) := zk_153 (by decide +kernel)
theorem dX12_says_49 : decode cX12_says 49 = .ok (.aload_n 0, 1) := zk_42 (by decide +kernel)
theorem dX12_says_50 : decode cX12_says 50 = .ok (.getfield 60, 3) := zk_180 (by decide +kernel)
theorem dX12_says_53 : decode cX12_says 53 = .ok (.bipush 11, 2) := zk_16 (by decide +kernel)
theorem dX12_says_55 : decode cX12_says 55 = .ok (.iload 4, 2) := zk_21 (by decide +kernel)
theorem dX12_says_57 : decode cX12_says 57 = .ok (.imul, 1) := zk_104 (by decide +kernel)
theorem dX12_says_58 : decode cX12_says 58 = .ok (.dup2, 1) := zk_92 (by decide +kernel)
theorem dX12_says_59 : decode cX12_says 59 = .ok (.iaload, 1) := zk_46 (by decide +kernel)
theorem dX12_says_60 : decode cX12_says 60 = .ok (.iconst 1, 1) := zk_4 (by decide +kernel)
theorem dX12_says_61 : decode cX12_says 61 = .ok (.iload_n 1, 1) := zk_27 (by decide +kernel)
theorem dX12_says_62 : decode cX12_says 62 = .ok (.ishl, 1) := zk_120 (by decide +kernel)
theorem dX12_says_63 : decode cX12_says 63 = .ok (.ior, 1) := zk_128 (by decide +kernel)
theorem dX12_says_64 : decode cX12_says 64 = .ok (.iastore, 1) := zk_79 (by decide +kernel)
theorem dX12_says_65 : decode cX12_says 65 = .ok (.aload_n 0, 1) := zk_42 (by decide +kernel)
theorem dX12_says_66 : decode cX12_says 66 = .ok (.getfield 60, 3) := zk_180 (by decide +kernel)
theorem dX12_says_69 : decode cX12_says 69 = .ok (.bipush 11, 2) := zk_16 (by decide +kernel)
theorem dX12_says_71 : decode cX12_says 71 = .ok (.iload 4, 2) := zk_21 (by decide +kernel)
theorem dX12_says_73 : decode cX12_says 73 = .ok (.imul, 1) := zk_104 (by decide +kernel)
theorem dX12_says_74 : decode cX12_says 74 = .ok (.iload_n 1, 1) := zk_27 (by decide +kernel)
theorem dX12_says_85 : decode cX12_says 85 = .ok (.iadd, 1) := zk_96 (by decide +kernel)
theorem dX12_says_86 : decode cX12_says 86 = .ok (.iload_n 2, 1) := zk_28 (by decide +kernel)
theorem dX12_says_87 : decode cX12_says 87 = .ok (.iastore, 1) := zk_79 (by decide +kernel)
theorem dX12_says_88 : decode cX12_says 88 = .ok (.iload_n 1, 1) := zk_27 (by decide +kernel)
theorem dX12_says_89 : decode cX12_says 89 = .ok (.ifCond .ne 16, 3) := zk_154 (by decide +kernel)
theorem dX12_says_105 : decode cX12_says 105 = .ok (.iload_n 1, 1) := zk_27 (by decide +kernel)
theorem dX12_says_106 : decode cX12_says 106 = .ok (.bipush 7, 2) := zk_16 (by decide +kernel)
theorem dX12_says_108 : decode cX12_says 108 = .ok (.if_icmp .ne 17, 3) := zk_160 (by decide +kernel)
theorem dX12_says_125 : decode cX12_says 125 = .ok (.aload_n 0, 1) := zk_42 (by decide +kernel)
theorem dX12_says_126 : decode cX12_says 126 = .ok (.getfield 84, 3) := zk_180 (by decide +kernel)
theorem dX12_says_129 : decode cX12_says 129 = .ok (.aload_n 0, 1) := zk_42 (by decide +kernel)
theorem dX12_says_130 : decode cX12_says 130 = .ok (.getfield 249, 3) := zk_180 (by decide +kernel)
theorem dX12_says_133 : decode cX12_says 133 = .ok (.iload_n 1, 1) := zk_27 (by decide +kernel)
theorem dX12_says_134 : decode cX12_says 134 = .ok (.iastore, 1) := zk_79 (by decide +kernel)
theorem dX12_says_135 : decode cX12_says 135 = .ok (.aload_n 0, 1) := zk_42 (by decide +kernel)
theorem dX12_says_136 : decode cX12_says 136 = .ok (.dup, 1) := zk_89 (by decide +kernel)
theorem dX12_says_137 : decode cX12_says 137 = .ok (.getfield 249, 3) := zk_180 (by decide +kernel)
theorem dX12_says_140 : decode cX12_says 140 = .ok (.iconst 1, 1) := zk_4 (by decide +kernel)
theorem dX12_says_141 : decode cX12_says 141 = .ok (.iadd, 1) := zk_96 (by decide +kernel)
theorem dX12_says_142 : decode cX12_says 142 = .ok (.putfield 249, 3) := zk_181 (by decide +kernel)
theorem dX12_says_145 : decode cX12_says 145 = .ok (.iconst 1, 1) := zk_4 (by decide +kernel)
theorem dX12_says_146 : decode cX12_says 146 = .ok (.ireturn, 1) := zk_172 (by decide +kernel)
theorem dX12_says_111 : decode cX12_says 111 = .ok (.aload_n 0, 1) := zk_42 (by decide +kernel)
theorem dX12_says_112 : decode cX12_says 112 = .ok (.getfield 60, 3) := zk_180 (by decide +kernel)
theorem dX12_says_115 : decode cX12_says 115 = .ok (.bipush 11, 2) := zk_16 (by decide +kernel)
theorem dX12_says_117 : decode cX12_says 117 = .ok (.iload 4, 2) := zk_21 (by decide +kernel)
theorem dX12_says_119 : decode cX12_says 119 = .ok (.imul, 1) := zk_104 (by decide +kernel)
theorem dX12_says_120 : decode cX12_says 120 = .ok (.bipush 10, 2) := zk_16 (by decide +kernel)
theorem dX12_says_122 : decode cX12_says 122 = .ok (.iadd, 1) := zk_96 (by decide +kernel)
theorem dX12_says_123 : decode cX12_says 123 = .ok (.iload_n 3, 1) := zk_29 (by decide +kernel)
theorem dX12_says_124 : decode cX12_says 124 = .ok (.iastore, 1) := zk_79 (by decide +kernel)
theorem dX12_says_92 : decode cX12_says 92 = .ok (.aload_n 0, 1) := zk_42 (by decide +kernel)
theorem dX12_says_93 : decode cX12_says 93 = .ok (.getfield 60, 3) := zk_180 (by decide +kernel)
theorem dX12_says_96 : decode cX12_says 96 = .ok (.bipush 11, 2) := zk_16 (by decide +kernel)
theorem dX12_says_98 : decode cX12_says 98 = .ok (.iload 4, 2) := zk_21 (by decide +kernel)
theorem dX12_says_100 : decode cX12_says 100 = .ok (.imul, 1) := zk_104 (by decide +kernel)
theorem dX12_says_101 : decode cX12_says 101 = .ok (.iconst 2, 1) := zk_5 (by decide +kernel)
theorem dX12_says_102 : decode cX12_says 102 = .ok (.iadd, 1) := zk_96 (by decide +kernel)
theorem dX12_says_103 : decode cX12_says 103 = .ok (.iload_n 3, 1) := zk_29 (by decide +kernel)
theorem dX12_says_104 : decode cX12_says 104 = .ok (.iastore, 1) := zk_79 (by decide +kernel)
theorem dX12_says_75 : decode cX12_says 75 = .ok (.ifCond .ne 7, 3) := zk_154 (by decide +kernel)
theorem dX12_says_82 : decode cX12_says 82 = .ok (.iconst 2, 1) := zk_5 (by decide +kernel)
theorem dX12_says_83 : decode cX12_says 83 = .ok (.iload_n 1, 1) := zk_27 (by decide +kernel)
theorem dX12_says_84 : decode cX12_says 84 = .ok (.iadd, 1) := zk_96 (by decide +kernel)
theorem dX12_says_78 : decode cX12_says 78 = .ok (.iconst 1, 1) := zk_4 (by decide +kernel)
theorem dX12_says_79 : decode cX12_says 79 = .ok (.goto 6, 3) := zk_167 (by decide +kernel)
set_option maxHeartbeats 4000000 in
set_option maxRecDepth 100000 in
theorem gq_says (l : Launch) (dC : Nat → ClassId) (dI : Nat → Nat → Nat) (mq : Nat) (g : Nat → Int32) (gl : Nat → Int64) (rf : Nat → Nat) (ck : Nat → ClassId) (f_noteHas : Nat → Int32) (f_undo : Nat → Int32) (a0 : Int32) (a1 : Int32) (a2 : Int32) (sz : Nat) (hnt0 : ¬ (g 16) < 0) (hnt2 : (g 16) ≤ 12) (hun0 : ¬ (g 59) < 0) (hun8 : (g 59) < 128) : Met l yX12_says (Cond.code yX12_says cX12_says 5 (some .boolean) :: wsL_law) ({ frames := 2, cells := 0, slots := 0, locals := 46 }) (va_Pc [.ref mq, .int a0, .int a1, .int a2] (fun U => U.heap.size = sz ∧ va_P (dC, dI) vwCl [(mq, .inr (12, mF g gl rf)), (eA0 (rf 40) (ck 40) 264 f_noteHas), (eA0 (rf 60) (ck 60) 128 f_undo)] U.heap ∧ va_K (dC, dI) vwCl [((ck 40), .int), ((ck 60), .int)] U ∧ va_D (fun _ => True) [(mq, .inr (12, mF g gl rf)), (eA0 (rf 40) (ck 40) 264 f_noteHas), (eA0 (rf 60) (ck 60) 128 f_undo)])) (va_Qi (fun (r : Int32) (u : (Int32) × (Int32) × (Nat → Int32) × (Nat → Int32)) => (r = (fq_says f_noteHas f_undo a0 a1 a2 (g 13) (g 14) (g 16) (g 59)).1 ∧ u = (fq_says f_noteHas f_undo a0 a1 a2 (g 13) (g 14) (g 16) (g 59)).2) ∧ (r = 0 ∨ r = 1)) (fun (u : (Int32) × (Int32) × (Nat → Int32) × (Nat → Int32)) t => va_P (dC, dI) vwCl [(mq, .inr (12, mF (upd (upd g 2 u.1) 59 u.2.1) gl rf)), (eA0 (rf 40) (ck 40) 264 u.2.2.1), (eA0 (rf 60) (ck 60) 128 u.2.2.2)] t.heap ∧ va_K (dC, dI) vwCl [] t ∧ va_D (va_A [(mq, .inr (12, mF g gl rf)), (eA0 (rf 40) (ck 40) 264 f_noteHas), (eA0 (rf 60) (ck 60) 128 f_undo)] sz) [(mq, .inr (12, mF (upd (upd g 2 u.1) 59 u.2.1) gl rf)), (eA0 (rf 40) (ck 40) 264 u.2.2.1), (eA0 (rf 60) (ck 60) 128 u.2.2.2)]) (va_A [(mq, .inr (12, mF g gl rf)), (eA0 (rf 40) (ck 40) 264 f_noteHas), (eA0 (rf 60) (ck 60) 128 f_undo)] sz)) 0 0 (va_A [(mq, .inr (12, mF g gl rf)), (eA0 (rf 40) (ck 40) 264 f_noteHas), (eA0 (rf 60) (ck 60) 128 f_undo)] sz) := by
  refine Met.ofW (cc := cX12_says) (maxL := 5) (ret := (some .boolean)) (by decide) rfl ?_
  intro p e s m args below meth c s₁ B hml hv
  obtain ⟨rfl, hsz, hP, hK, hD0⟩ := hv
  have hx := B.exec
  have hb := B.bytes
  have hr := B.returns
  have hts := atoms_spec (ws := Cond.code yX12_says cX12_says 5 (some .boolean) :: wsL_law) B.pre
  have htw : ∀ w ∈ wsL_law, w.before _ s = true := fun w h => hts w (List.mem_cons_of_mem _ h)
  have hown : s.vm.findClass RX12 = some m.cls := findClass_of_methodNamed B.named
  have hlocks := B.notSynchronized
  subst hsz
  have hD := hD0.self (sz := s.heap.size)
  generalize hAe : va_A [(mq, .inr (12, mF g gl rf)), (eA0 (rf 40) (ck 40) 264 f_noteHas), (eA0 (rf 60) (ck 60) 128 f_undo)] s.heap.size = A at hD ⊢
  have hA : ∀ q : Nat, s.heap.size ≤ q → A q := fun q h => by rw [← hAe]; exact Or.inr h
  obtain ⟨H, rH⟩ : ∃ z : Heap, z = s.heap := ⟨_, rfl⟩
  have hS : va_S A s.heap H [] := by rw [rH]; exact va_S.rf
  have hP : va_P (dC, dI) vwCl [(mq, .inr (12, mF g gl rf)), (eA0 (rf 40) (ck 40) 264 f_noteHas), (eA0 (rf 60) (ck 60) 128 f_undo)] H := by rw [rH]; exact hP
  rw [← rH]
  have hl := lv_entry ([.ref mq, .int a0, .int a1, .int a2]) (n := 5) (Nat.le_of_ble_eq_true rfl)
  rw [lg_entry_eq]
  generalize (lg_sl ([.ref mq, .int a0, .int a1, .int a2]) ++ List.replicate (5 - (lg_sl ([.ref mq, .int a0, .int a1, .int a2])).length) Slot.unset).toArray = ls at hl ⊢
  have hl : lv_has ls 5 [(0, .ref mq), (1, .int a0), (2, .int a1), (3, .int a2)] := hl
  refine lv_aload_n hx hb dX12_says_0 rfl (lv_at hl 0 rfl) ?_
  refine lv_iconst (v := 0) hx hb dX12_says_1 (by decide) ?_
  refine va_put (D := (dC, dI)) (ci := 12) (v := .int 0) (ty := tyX12 2) (C := RX12) (T := TX12) (N := 76) hx hb htw inlX12 tyX12 tyX12_ok nmX12 hown hK hP hD hS 0 rfl rfl 2 (by decide) (htw _ (ck_12 _ (List.mem_of_getElem? (i := 16) rfl))) (fun _ h9 => h9) rfl (tyX12_ok 2 (by decide)) rfl rfl (Nat.le_of_ble_eq_true rfl) dX12_says_2 (fun H locs hP hD hS => ?_)
  obtain ⟨hP, hD⟩ := zre [(mq, .inr (12, mF (upd g 2 0) gl rf)), (eA0 (rf 40) (ck 40) 264 f_noteHas), (eA0 (rf 60) (ck 60) 128 f_undo)] hP hD rfl
  refine lv_aload_n hx hb dX12_says_5 rfl (lv_at hl 0 rfl) ?_
  refine va_get (D := (dC, dI)) (ci := 12) (v := .int (g 16)) (C := RX12) (T := TX12) (N := 76) hx hb htw inlX12 hown hK hP 0 rfl rfl 16 (by decide) (htw _ (ck_11 _ (List.mem_of_getElem? (i := 13) rfl))) (fun _ h9 => h9) rfl dX12_says_6 ?_
  refine lv_iconst (v := 1) hx hb dX12_says_9 (by decide) ?_
  refine lv_isub hx hb dX12_says_10 ?_
  refine lv_istore (lv' := [(4, .int ((g 16) - 1)), (0, .ref mq), (1, .int a0), (2, .int a1), (3, .int a2)]) hx hb dX12_says_11 hl (by decide) rfl (fun ls hl => ?_)
  refine lv_iload hx hb dX12_says_13 (lv_at hl 0 rfl) ?_
  refine lv_if_lt (tgt := 47) hx hb dX12_says_15 (by decide) (fun c_1 => ?_) (fun c_1 => ?_)
  · refine lv_iconst (v := 0) hx hb dX12_says_47 (by decide) ?_
    refine W.widen (k := 0) (n := 0) (by omega) (by omega) ?_
    have hP9 := hP
    have hD9 := hD
    have hK9 := hK.sub (tys' := []) [] rfl
    exact W.zret (v := 0) hx hb hr (by first | rfl | decide) (fun t ht hW => ⟨⟨0, (0, (g 59), f_noteHas, f_undo), rfl, ⟨((fun e9 => ⟨by rw [e9], by rw [e9]⟩ : fq_says f_noteHas f_undo a0 a1 a2 (g 13) (g 14) (g 16) (g 59) = ((0 : Int32), (0 : Int32), (g 59), f_noteHas, f_undo) → _) ((by rw [fq_says]; (try rw [if_pos c_1]); try rfl))), Or.inl rfl⟩, by rw [ht]; exact hP9, va_K.moved hW.alike hK9, hD9⟩, hS.F ht⟩) hS.2.2 dX12_says_48
  · refine lv_aload_n hx hb dX12_says_18 rfl (lv_at hl 1 rfl) ?_
    refine lv_iload hx hb dX12_says_19 (lv_at hl 0 rfl) ?_
    refine lv_iload_n hx hb dX12_says_21 rfl (lv_at hl 2 rfl) ?_
    refine lv_iload_n hx hb dX12_says_22 rfl (lv_at hl 3 rfl) ?_
    refine lv_iload_n hx hb dX12_says_23 rfl (lv_at hl 4 rfl) ?_
    have hPc := hP.sub (ws' := [(mq, .inr (12, mF (upd g 2 0) gl rf))]) [0] rfl
    have hKc := hK.sub (tys' := []) [] rfl
    refine vp_callSi (W.runV (As := [.int ((g 16) - 1), .int a0, .int a1, .int a2]) (rest := []) ⟨hx, hb, hml, hown, htw⟩ (gq_canSay l dC dI mq (upd g 2 0) gl rf ((g 16) - 1) a0 a1 a2) (cwV 4 htw (xg_V (ck_53 _ (List.mem_of_getElem? (i := 6) rfl)) (ck_53 _ (List.mem_of_getElem? (i := 7) rfl)) (ck_53 _ (List.mem_of_getElem? (i := 8) rfl)) (ck_1 _ (List.mem_of_getElem? (i := 5) rfl)) (ck_53 _ (List.mem_of_getElem? (i := 9) rfl))) rfl rfl rfl (by exact ⟨rfl, hdc_14.1, hdc_14.2, hdd_44⟩) ⟨Nat.le_of_ble_eq_true rfl, Nat.le_of_ble_eq_true rfl⟩) ⟨fun a U g mk q => by obtain ⟨q0, qP, qK⟩ := q; exact ⟨q0, qP, va_K.moved (u := U) (U := U.calling g mk a) (Vm.Alike.refl U.vm) qK⟩, va_recv hKc hPc (ci := 12) (q0 := 0) rfl rfl, fun U hU hW => ⟨rfl, by rw [hU]; exact hPc, va_K.moved hW.alike hKc⟩⟩ rfl rfl hl.1 rfl (lv_room (Nat.le_of_ble_eq_true rfl)) dX12_says_24 ⟨Nat.le_of_ble_eq_true rfl, Nat.le_of_ble_eq_true rfl⟩) (fun r_2 hw => ?_)
    try dsimp only at hw
    obtain ⟨hw, hb_r_2, hp_3, hp_4⟩ := hw
    have hq_r_2 : r_2 = (fq_canSay ((g 16) - 1) a0 a1 a2 (g 13) (g 14)) := hw
    refine lv_if_eq (tgt := 47) hx hb dX12_says_27 (by decide) (fun c_5 => ?_) (fun c_5 => ?_)
    · refine lv_iconst (v := 0) hx hb dX12_says_47 (by decide) ?_
      refine W.widen (k := 0) (n := 0) (by omega) (by omega) ?_
      have hP9 := hP
      have hD9 := hD
      have hK9 := hK.sub (tys' := []) [] rfl
      exact W.zret (v := 0) hx hb hr (by first | rfl | decide) (fun t ht hW => ⟨⟨0, (0, (g 59), f_noteHas, f_undo), rfl, ⟨((fun e9 => ⟨by rw [e9], by rw [e9]⟩ : fq_says f_noteHas f_undo a0 a1 a2 (g 13) (g 14) (g 16) (g 59) = ((0 : Int32), (0 : Int32), (g 59), f_noteHas, f_undo) → _) ((by rw [fq_says]; (try rw [if_neg c_1]); (try rw [← hq_r_2]); (try rw [xL_eq]); (try rw [if_pos c_5]); try rfl))), Or.inl rfl⟩, by rw [ht]; exact hP9, va_K.moved hW.alike hK9, hD9⟩, hS.F ht⟩) hS.2.2 dX12_says_48
    · refine lv_aload_n hx hb dX12_says_30 rfl (lv_at hl 1 rfl) ?_
      refine va_get (D := (dC, dI)) (ci := 12) (v := .ref (rf 40)) (C := RX12) (T := TX12) (N := 76) hx hb htw inlX12 hown hK hP 0 rfl rfl 40 (by decide) (htw _ (ck_9 _ (List.mem_of_getElem? (i := 20) rfl))) (fun _ h9 => h9) rfl dX12_says_31 ?_
      refine lv_bipush (v := 11) hx hb dX12_says_34 (by decide) ?_
      refine lv_iload hx hb dX12_says_36 (lv_at hl 0 rfl) ?_
      refine lv_imul hx hb dX12_says_38 ?_
      refine va_iald hx hb hK hP 1 0 rfl rfl (xn_a (gq_says_s0 (y0 := g 16) c_1 hnt0 hnt2).1 (gq_says_s0 (y0 := g 16) c_1 hnt0 hnt2).2) dX12_says_39 ?_
      refine lv_iload_n hx hb dX12_says_40 rfl (lv_at hl 2 rfl) ?_
      have hPc := hP.sub (ws' := []) [] rfl
      have hKc := hK.sub (tys' := []) [] rfl
      refine vp_callSi (W.runS (As := [.int (f_noteHas ((11 * ((g 16) - 1)).toNatClampNeg)), .int a0]) (rest := []) ⟨hx, hb, hml, hown, htw⟩ (gq_isOf l dC dI (f_noteHas ((11 * ((g 16) - 1)).toNatClampNeg)) a0) (va_cwS 2 htw (xg_S (ck_31 _ (List.mem_of_getElem? (i := 10) rfl)) (ck_31 _ (List.mem_of_getElem? (i := 11) rfl)) (ck_1 _ (List.mem_of_getElem? (i := 5) rfl)) (ck_31 _ (List.mem_of_getElem? (i := 12) rfl))) rfl rfl rfl (by exact ⟨hdc_14.1, hdc_14.2, hdd_8⟩) ⟨Nat.le_of_ble_eq_true rfl, Nat.le_of_ble_eq_true rfl⟩) ⟨fun a U g mk q => by obtain ⟨q0, qP, qK⟩ := q; exact ⟨q0, qP, va_K.moved (u := U) (U := U.calling g mk a) (Vm.Alike.refl U.vm) qK⟩, fun U hU hW => ⟨rfl, by rw [hU]; exact hPc, va_K.moved hW.alike hKc⟩⟩ rfl rfl hl.1 rfl (lv_room (Nat.le_of_ble_eq_true rfl)) dX12_says_41 ⟨Nat.le_of_ble_eq_true rfl, Nat.le_of_ble_eq_true rfl⟩) (fun r_6 hw => ?_)
      try dsimp only at hw
      obtain ⟨hw, hb_r_6⟩ := hw
      have hq_r_6 : r_6 = (fq_isOf (f_noteHas ((11 * ((g 16) - 1)).toNatClampNeg)) a0) := hw
      refine lv_if_eq (tgt := 49) hx hb dX12_says_44 (by decide) (fun c_7 => ?_) (fun c_7 => ?_)
      · refine lv_aload_n hx hb dX12_says_49 rfl (lv_at hl 1 rfl) ?_
        refine va_get (D := (dC, dI)) (ci := 12) (v := .ref (rf 40)) (C := RX12) (T := TX12) (N := 76) hx hb htw inlX12 hown hK hP 0 rfl rfl 40 (by decide) (htw _ (ck_9 _ (List.mem_of_getElem? (i := 20) rfl))) (fun _ h9 => h9) rfl dX12_says_50 ?_
        refine lv_bipush (v := 11) hx hb dX12_says_53 (by decide) ?_
        refine lv_iload hx hb dX12_says_55 (lv_at hl 0 rfl) ?_
        refine lv_imul hx hb dX12_says_57 ?_
        refine lv_dup2_11 hx hb dX12_says_58 rfl rfl ?_
        refine va_iald hx hb hK hP 1 0 rfl rfl (xn_a (gq_says_s1 (y0 := g 16) c_1 hnt0 hnt2).1 (gq_says_s1 (y0 := g 16) c_1 hnt0 hnt2).2) dX12_says_59 ?_
        refine lv_iconst (v := 1) hx hb dX12_says_60 (by decide) ?_
        refine lv_iload_n hx hb dX12_says_61 rfl (lv_at hl 2 rfl) ?_
        refine lv_ishl hx hb dX12_says_62 ?_
        refine lv_ior hx hb dX12_says_63 ?_
        refine va_iast hx hb hK hP hD hS 1 0 rfl rfl (xn_a (gq_says_s2 (y0 := g 16) c_1 hnt0 hnt2).1 (gq_says_s2 (y0 := g 16) c_1 hnt0 hnt2).2) dX12_says_64 (fun H locs hP hD hS => ?_)
        obtain ⟨hP, hD⟩ := zre [(mq, .inr (12, mF (upd g 2 0) gl rf)), (eA0 (rf 40) (ck 40) 264 (upd f_noteHas ((11 * ((g 16) - 1)).toNatClampNeg) ((f_noteHas ((11 * ((g 16) - 1)).toNatClampNeg)) ||| (1 <<< (a0 &&& 31))))), (eA0 (rf 60) (ck 60) 128 f_undo)] hP hD rfl
        refine lv_aload_n hx hb dX12_says_65 rfl (lv_at hl 1 rfl) ?_
        refine va_get (D := (dC, dI)) (ci := 12) (v := .ref (rf 40)) (C := RX12) (T := TX12) (N := 76) hx hb htw inlX12 hown hK hP 0 rfl rfl 40 (by decide) (htw _ (ck_9 _ (List.mem_of_getElem? (i := 20) rfl))) (fun _ h9 => h9) rfl dX12_says_66 ?_
        refine lv_bipush (v := 11) hx hb dX12_says_69 (by decide) ?_
        refine lv_iload hx hb dX12_says_71 (lv_at hl 0 rfl) ?_
        refine lv_imul hx hb dX12_says_73 ?_
        refine lv_iload_n hx hb dX12_says_74 rfl (lv_at hl 2 rfl) ?_
        obtain ⟨X_9, hX_9⟩ : ∃ X9 : (Int32), X9 = fq_says_a a0 := ⟨_, rfl⟩
        have hjoin_10 : ∀ (S0a : Int32) (hj0 : ¬ S0a < 0) (hj9 : S0a ≤ 10) (hE9 : X_9 = S0a) (H : Heap) (locs : List Loc) (ls : Array Slot) (hP : va_P (dC, dI) vwCl [(mq, .inr (12, mF (upd g 2 0) gl rf)), (eA0 (rf 40) (ck 40) 264 (upd f_noteHas ((11 * ((g 16) - 1)).toNatClampNeg) ((f_noteHas ((11 * ((g 16) - 1)).toNatClampNeg)) ||| (1 <<< (a0 &&& 31))))), (eA0 (rf 60) (ck 60) 128 f_undo)] H) (hD : va_D A [(mq, .inr (12, mF (upd g 2 0) gl rf)), (eA0 (rf 40) (ck 40) 264 (upd f_noteHas ((11 * ((g 16) - 1)).toNatClampNeg) ((f_noteHas ((11 * ((g 16) - 1)).toNatClampNeg)) ||| (1 <<< (a0 &&& 31))))), (eA0 (rf 60) (ck 60) 128 f_undo)]) (hS : va_S A s.heap H locs) (hl : lv_has ls 5 [(4, .int ((g 16) - 1)), (0, .ref mq), (1, .int a0), (2, .int a1), (3, .int a2)]), W p l e (headSpec (Cond.code yX12_says cX12_says 5 (some .boolean) :: wsL_law) ({ frames := 2, cells := 0, slots := 0, locals := 46 })).room s m ([.ref mq, .int a0, .int a1, .int a2] : List Value).toArray below meth c H locs 0 0 (MQ below (va_Qi (fun (r : Int32) (u : (Int32) × (Int32) × (Nat → Int32) × (Nat → Int32)) => (r = (fq_says f_noteHas f_undo a0 a1 a2 (g 13) (g 14) (g 16) (g 59)).1 ∧ u = (fq_says f_noteHas f_undo a0 a1 a2 (g 13) (g 14) (g 16) (g 59)).2) ∧ (r = 0 ∨ r = 1)) (fun (u : (Int32) × (Int32) × (Nat → Int32) × (Nat → Int32)) t => va_P (dC, dI) vwCl [(mq, .inr (12, mF (upd (upd g 2 u.1) 59 u.2.1) gl rf)), (eA0 (rf 40) (ck 40) 264 u.2.2.1), (eA0 (rf 60) (ck 60) 128 u.2.2.2)] t.heap ∧ va_K (dC, dI) vwCl [] t ∧ va_D A [(mq, .inr (12, mF (upd (upd g 2 u.1) 59 u.2.1) gl rf)), (eA0 (rf 40) (ck 40) 264 u.2.2.1), (eA0 (rf 60) (ck 60) 128 u.2.2.2)]) A) ([.ref mq, .int a0, .int a1, .int a2] : List Value).toArray s 0 0 A) (F0 m 85 ls [.int S0a, .int (11 * ((g 16) - 1)), .ref (rf 40)]) := by
          intro S0a hj0 hj9 hE9 H locs ls hP hD hS hl
          have hq_S0a : S0a = X_9 := by rw [hE9]
          refine lv_iadd hx hb dX12_says_85 ?_
          refine lv_iload_n hx hb dX12_says_86 rfl (lv_at hl 3 rfl) ?_
          refine va_iast hx hb hK hP hD hS 1 0 rfl rfl (xn_b (gq_says_s3 (y0 := g 16) c_1 hnt0 hnt2).1 (gq_says_s3 (y0 := g 16) c_1 hnt0 hnt2).2 (gq_says_s4 (y0 := S0a) hj0 hj9).1 (gq_says_s4 (y0 := S0a) hj0 hj9).2) dX12_says_87 (fun H locs hP hD hS => ?_)
          have hP : va_P (dC, dI) vwCl [(mq, .inr (12, mF (upd g 2 0) gl rf)), (eA0 (rf 40) (ck 40) 264 (upd (upd f_noteHas ((11 * ((g 16) - 1)).toNatClampNeg) ((f_noteHas ((11 * ((g 16) - 1)).toNatClampNeg)) ||| (1 <<< (a0 &&& 31)))) (((11 * ((g 16) - 1)) + S0a).toNatClampNeg) a1)), (eA0 (rf 60) (ck 60) 128 f_undo)] H := hP
          have hD : va_D A [(mq, .inr (12, mF (upd g 2 0) gl rf)), (eA0 (rf 40) (ck 40) 264 (upd (upd f_noteHas ((11 * ((g 16) - 1)).toNatClampNeg) ((f_noteHas ((11 * ((g 16) - 1)).toNatClampNeg)) ||| (1 <<< (a0 &&& 31)))) (((11 * ((g 16) - 1)) + S0a).toNatClampNeg) a1)), (eA0 (rf 60) (ck 60) 128 f_undo)] := hD
          refine lv_iload_n hx hb dX12_says_88 rfl (lv_at hl 2 rfl) ?_
          refine lv_if_ne (tgt := 105) hx hb dX12_says_89 (by decide) (fun c_12 => ?_) (fun c_12 => ?_)
          · refine lv_iload_n hx hb dX12_says_105 rfl (lv_at hl 2 rfl) ?_
            refine lv_bipush (v := 7) hx hb dX12_says_106 (by decide) ?_
            refine lv_icmp_ne (tgt := 125) hx hb dX12_says_108 (by decide) (fun c_13 => ?_) (fun c_13 => ?_)
            · refine lv_aload_n hx hb dX12_says_125 rfl (lv_at hl 1 rfl) ?_
              refine va_get (D := (dC, dI)) (ci := 12) (v := .ref (rf 60)) (C := RX12) (T := TX12) (N := 76) hx hb htw inlX12 hown hK hP 0 rfl rfl 60 (by decide) (htw _ (ck_10 _ (List.mem_of_getElem? (i := 4) rfl))) (fun _ h9 => h9) rfl dX12_says_126 ?_
              refine lv_aload_n hx hb dX12_says_129 rfl (lv_at hl 1 rfl) ?_
              refine va_get (D := (dC, dI)) (ci := 12) (v := .int (g 59)) (C := RX12) (T := TX12) (N := 76) hx hb htw inlX12 hown hK hP 0 rfl rfl 59 (by decide) (htw _ (ck_11 _ (List.mem_of_getElem? (i := 17) rfl))) (fun _ h9 => h9) rfl dX12_says_130 ?_
              refine lv_iload_n hx hb dX12_says_133 rfl (lv_at hl 2 rfl) ?_
              refine va_iast hx hb hK hP hD hS 2 1 rfl rfl (xg_inr (N := 128) rfl (gq_says_s5 (y0 := g 59) hun0 hun8).1 (gq_says_s5 (y0 := g 59) hun0 hun8).2) dX12_says_134 (fun H locs hP hD hS => ?_)
              have hP : va_P (dC, dI) vwCl [(mq, .inr (12, mF (upd g 2 0) gl rf)), (eA0 (rf 40) (ck 40) 264 (upd (upd f_noteHas ((11 * ((g 16) - 1)).toNatClampNeg) ((f_noteHas ((11 * ((g 16) - 1)).toNatClampNeg)) ||| (1 <<< (a0 &&& 31)))) (((11 * ((g 16) - 1)) + S0a).toNatClampNeg) a1)), (eA0 (rf 60) (ck 60) 128 (upd f_undo ((g 59).toNatClampNeg) a0))] H := hP
              have hD : va_D A [(mq, .inr (12, mF (upd g 2 0) gl rf)), (eA0 (rf 40) (ck 40) 264 (upd (upd f_noteHas ((11 * ((g 16) - 1)).toNatClampNeg) ((f_noteHas ((11 * ((g 16) - 1)).toNatClampNeg)) ||| (1 <<< (a0 &&& 31)))) (((11 * ((g 16) - 1)) + S0a).toNatClampNeg) a1)), (eA0 (rf 60) (ck 60) 128 (upd f_undo ((g 59).toNatClampNeg) a0))] := hD
              refine lv_aload_n hx hb dX12_says_135 rfl (lv_at hl 1 rfl) ?_
              refine lv_dup hx hb dX12_says_136 rfl ?_
              refine va_get (D := (dC, dI)) (ci := 12) (v := .int (g 59)) (C := RX12) (T := TX12) (N := 76) hx hb htw inlX12 hown hK hP 0 rfl rfl 59 (by decide) (htw _ (ck_11 _ (List.mem_of_getElem? (i := 17) rfl))) (fun _ h9 => h9) rfl dX12_says_137 ?_
              refine lv_iconst (v := 1) hx hb dX12_says_140 (by decide) ?_
              refine lv_iadd hx hb dX12_says_141 ?_
              refine va_put (D := (dC, dI)) (ci := 12) (v := .int ((g 59) + 1)) (ty := tyX12 59) (C := RX12) (T := TX12) (N := 76) hx hb htw inlX12 tyX12 tyX12_ok nmX12 hown hK hP hD hS 0 rfl rfl 59 (by decide) (htw _ (ck_11 _ (List.mem_of_getElem? (i := 17) rfl))) (fun _ h9 => h9) rfl (tyX12_ok 59 (by decide)) rfl rfl (Nat.le_of_ble_eq_true rfl) dX12_says_142 (fun H locs hP hD hS => ?_)
              have hP : va_P (dC, dI) vwCl [(mq, .inr (12, mF (upd (upd g 2 0) 59 ((g 59) + 1)) gl rf)), (eA0 (rf 40) (ck 40) 264 (upd (upd f_noteHas ((11 * ((g 16) - 1)).toNatClampNeg) ((f_noteHas ((11 * ((g 16) - 1)).toNatClampNeg)) ||| (1 <<< (a0 &&& 31)))) (((11 * ((g 16) - 1)) + S0a).toNatClampNeg) a1)), (eA0 (rf 60) (ck 60) 128 (upd f_undo ((g 59).toNatClampNeg) a0))] H := hP
              have hD : va_D A [(mq, .inr (12, mF (upd (upd g 2 0) 59 ((g 59) + 1)) gl rf)), (eA0 (rf 40) (ck 40) 264 (upd (upd f_noteHas ((11 * ((g 16) - 1)).toNatClampNeg) ((f_noteHas ((11 * ((g 16) - 1)).toNatClampNeg)) ||| (1 <<< (a0 &&& 31)))) (((11 * ((g 16) - 1)) + S0a).toNatClampNeg) a1)), (eA0 (rf 60) (ck 60) 128 (upd f_undo ((g 59).toNatClampNeg) a0))] := hD
              refine lv_iconst (v := 1) hx hb dX12_says_145 (by decide) ?_
              refine W.widen (k := 0) (n := 0) (by omega) (by omega) ?_
              have hP9 := hP
              have hD9 := hD
              have hK9 := hK.sub (tys' := []) [] rfl
              exact W.zret (v := 1) hx hb hr (by first | rfl | decide) (fun t ht hW => ⟨⟨1, (0, ((g 59) + 1), (upd (upd f_noteHas ((11 * ((g 16) - 1)).toNatClampNeg) ((f_noteHas ((11 * ((g 16) - 1)).toNatClampNeg)) ||| (1 <<< (a0 &&& 31)))) (((11 * ((g 16) - 1)) + S0a).toNatClampNeg) a1), (upd f_undo ((g 59).toNatClampNeg) a0)), rfl, ⟨((fun e9 => ⟨by rw [e9], by rw [e9]⟩ : fq_says f_noteHas f_undo a0 a1 a2 (g 13) (g 14) (g 16) (g 59) = ((1 : Int32), (0 : Int32), ((g 59) + 1), (upd (upd f_noteHas ((11 * ((g 16) - 1)).toNatClampNeg) ((f_noteHas ((11 * ((g 16) - 1)).toNatClampNeg)) ||| (1 <<< (a0 &&& 31)))) (((11 * ((g 16) - 1)) + S0a).toNatClampNeg) a1), (upd f_undo ((g 59).toNatClampNeg) a0)) → _) ((by rw [fq_says]; (try rw [if_neg c_1]); (try rw [← hq_r_2]); (try rw [xL_eq]); (try rw [if_neg c_5]); (try rw [← hq_r_6]); (try rw [xL_eq]); (try rw [if_pos c_7]); (try rw [← hX_9]); (try rw [xL_eq]); (try rw [← hq_S0a]); (try rw [if_neg c_12]); (try rw [if_neg c_13]); try rfl))), Or.inr rfl⟩, by rw [ht]; exact hP9, va_K.moved hW.alike hK9, hD9⟩, hS.F ht⟩) hS.2.2 dX12_says_146
            · refine lv_aload_n hx hb dX12_says_111 rfl (lv_at hl 1 rfl) ?_
              refine va_get (D := (dC, dI)) (ci := 12) (v := .ref (rf 40)) (C := RX12) (T := TX12) (N := 76) hx hb htw inlX12 hown hK hP 0 rfl rfl 40 (by decide) (htw _ (ck_9 _ (List.mem_of_getElem? (i := 20) rfl))) (fun _ h9 => h9) rfl dX12_says_112 ?_
              refine lv_bipush (v := 11) hx hb dX12_says_115 (by decide) ?_
              refine lv_iload hx hb dX12_says_117 (lv_at hl 0 rfl) ?_
              refine lv_imul hx hb dX12_says_119 ?_
              refine lv_bipush (v := 10) hx hb dX12_says_120 (by decide) ?_
              refine lv_iadd hx hb dX12_says_122 ?_
              refine lv_iload_n hx hb dX12_says_123 rfl (lv_at hl 4 rfl) ?_
              refine va_iast hx hb hK hP hD hS 1 0 rfl rfl (xn_b (gq_says_s6 (y0 := g 16) c_1 hnt0 hnt2).1 (gq_says_s6 (y0 := g 16) c_1 hnt0 hnt2).2 (gq_says_s7 ).1 (gq_says_s7 ).2) dX12_says_124 (fun H locs hP hD hS => ?_)
              have hP : va_P (dC, dI) vwCl [(mq, .inr (12, mF (upd g 2 0) gl rf)), (eA0 (rf 40) (ck 40) 264 (upd (upd (upd f_noteHas ((11 * ((g 16) - 1)).toNatClampNeg) ((f_noteHas ((11 * ((g 16) - 1)).toNatClampNeg)) ||| (1 <<< (a0 &&& 31)))) (((11 * ((g 16) - 1)) + S0a).toNatClampNeg) a1) (((11 * ((g 16) - 1)) + 10).toNatClampNeg) a2)), (eA0 (rf 60) (ck 60) 128 f_undo)] H := hP
              have hD : va_D A [(mq, .inr (12, mF (upd g 2 0) gl rf)), (eA0 (rf 40) (ck 40) 264 (upd (upd (upd f_noteHas ((11 * ((g 16) - 1)).toNatClampNeg) ((f_noteHas ((11 * ((g 16) - 1)).toNatClampNeg)) ||| (1 <<< (a0 &&& 31)))) (((11 * ((g 16) - 1)) + S0a).toNatClampNeg) a1) (((11 * ((g 16) - 1)) + 10).toNatClampNeg) a2)), (eA0 (rf 60) (ck 60) 128 f_undo)] := hD
              refine lv_aload_n hx hb dX12_says_125 rfl (lv_at hl 1 rfl) ?_
              refine va_get (D := (dC, dI)) (ci := 12) (v := .ref (rf 60)) (C := RX12) (T := TX12) (N := 76) hx hb htw inlX12 hown hK hP 0 rfl rfl 60 (by decide) (htw _ (ck_10 _ (List.mem_of_getElem? (i := 4) rfl))) (fun _ h9 => h9) rfl dX12_says_126 ?_
              refine lv_aload_n hx hb dX12_says_129 rfl (lv_at hl 1 rfl) ?_
              refine va_get (D := (dC, dI)) (ci := 12) (v := .int (g 59)) (C := RX12) (T := TX12) (N := 76) hx hb htw inlX12 hown hK hP 0 rfl rfl 59 (by decide) (htw _ (ck_11 _ (List.mem_of_getElem? (i := 17) rfl))) (fun _ h9 => h9) rfl dX12_says_130 ?_
              refine lv_iload_n hx hb dX12_says_133 rfl (lv_at hl 2 rfl) ?_
              refine va_iast hx hb hK hP hD hS 2 1 rfl rfl (xg_inr (N := 128) rfl (gq_says_s8 (y0 := g 59) hun0 hun8).1 (gq_says_s8 (y0 := g 59) hun0 hun8).2) dX12_says_134 (fun H locs hP hD hS => ?_)
              have hP : va_P (dC, dI) vwCl [(mq, .inr (12, mF (upd g 2 0) gl rf)), (eA0 (rf 40) (ck 40) 264 (upd (upd (upd f_noteHas ((11 * ((g 16) - 1)).toNatClampNeg) ((f_noteHas ((11 * ((g 16) - 1)).toNatClampNeg)) ||| (1 <<< (a0 &&& 31)))) (((11 * ((g 16) - 1)) + S0a).toNatClampNeg) a1) (((11 * ((g 16) - 1)) + 10).toNatClampNeg) a2)), (eA0 (rf 60) (ck 60) 128 (upd f_undo ((g 59).toNatClampNeg) a0))] H := hP
              have hD : va_D A [(mq, .inr (12, mF (upd g 2 0) gl rf)), (eA0 (rf 40) (ck 40) 264 (upd (upd (upd f_noteHas ((11 * ((g 16) - 1)).toNatClampNeg) ((f_noteHas ((11 * ((g 16) - 1)).toNatClampNeg)) ||| (1 <<< (a0 &&& 31)))) (((11 * ((g 16) - 1)) + S0a).toNatClampNeg) a1) (((11 * ((g 16) - 1)) + 10).toNatClampNeg) a2)), (eA0 (rf 60) (ck 60) 128 (upd f_undo ((g 59).toNatClampNeg) a0))] := hD
              refine lv_aload_n hx hb dX12_says_135 rfl (lv_at hl 1 rfl) ?_
              refine lv_dup hx hb dX12_says_136 rfl ?_
              refine va_get (D := (dC, dI)) (ci := 12) (v := .int (g 59)) (C := RX12) (T := TX12) (N := 76) hx hb htw inlX12 hown hK hP 0 rfl rfl 59 (by decide) (htw _ (ck_11 _ (List.mem_of_getElem? (i := 17) rfl))) (fun _ h9 => h9) rfl dX12_says_137 ?_
              refine lv_iconst (v := 1) hx hb dX12_says_140 (by decide) ?_
              refine lv_iadd hx hb dX12_says_141 ?_
              refine va_put (D := (dC, dI)) (ci := 12) (v := .int ((g 59) + 1)) (ty := tyX12 59) (C := RX12) (T := TX12) (N := 76) hx hb htw inlX12 tyX12 tyX12_ok nmX12 hown hK hP hD hS 0 rfl rfl 59 (by decide) (htw _ (ck_11 _ (List.mem_of_getElem? (i := 17) rfl))) (fun _ h9 => h9) rfl (tyX12_ok 59 (by decide)) rfl rfl (Nat.le_of_ble_eq_true rfl) dX12_says_142 (fun H locs hP hD hS => ?_)
              have hP : va_P (dC, dI) vwCl [(mq, .inr (12, mF (upd (upd g 2 0) 59 ((g 59) + 1)) gl rf)), (eA0 (rf 40) (ck 40) 264 (upd (upd (upd f_noteHas ((11 * ((g 16) - 1)).toNatClampNeg) ((f_noteHas ((11 * ((g 16) - 1)).toNatClampNeg)) ||| (1 <<< (a0 &&& 31)))) (((11 * ((g 16) - 1)) + S0a).toNatClampNeg) a1) (((11 * ((g 16) - 1)) + 10).toNatClampNeg) a2)), (eA0 (rf 60) (ck 60) 128 (upd f_undo ((g 59).toNatClampNeg) a0))] H := hP
              have hD : va_D A [(mq, .inr (12, mF (upd (upd g 2 0) 59 ((g 59) + 1)) gl rf)), (eA0 (rf 40) (ck 40) 264 (upd (upd (upd f_noteHas ((11 * ((g 16) - 1)).toNatClampNeg) ((f_noteHas ((11 * ((g 16) - 1)).toNatClampNeg)) ||| (1 <<< (a0 &&& 31)))) (((11 * ((g 16) - 1)) + S0a).toNatClampNeg) a1) (((11 * ((g 16) - 1)) + 10).toNatClampNeg) a2)), (eA0 (rf 60) (ck 60) 128 (upd f_undo ((g 59).toNatClampNeg) a0))] := hD
              refine lv_iconst (v := 1) hx hb dX12_says_145 (by decide) ?_
              refine W.widen (k := 0) (n := 0) (by omega) (by omega) ?_
              have hP9 := hP
              have hD9 := hD
              have hK9 := hK.sub (tys' := []) [] rfl
              exact W.zret (v := 1) hx hb hr (by first | rfl | decide) (fun t ht hW => ⟨⟨1, (0, ((g 59) + 1), (upd (upd (upd f_noteHas ((11 * ((g 16) - 1)).toNatClampNeg) ((f_noteHas ((11 * ((g 16) - 1)).toNatClampNeg)) ||| (1 <<< (a0 &&& 31)))) (((11 * ((g 16) - 1)) + S0a).toNatClampNeg) a1) (((11 * ((g 16) - 1)) + 10).toNatClampNeg) a2), (upd f_undo ((g 59).toNatClampNeg) a0)), rfl, ⟨((fun e9 => ⟨by rw [e9], by rw [e9]⟩ : fq_says f_noteHas f_undo a0 a1 a2 (g 13) (g 14) (g 16) (g 59) = ((1 : Int32), (0 : Int32), ((g 59) + 1), (upd (upd (upd f_noteHas ((11 * ((g 16) - 1)).toNatClampNeg) ((f_noteHas ((11 * ((g 16) - 1)).toNatClampNeg)) ||| (1 <<< (a0 &&& 31)))) (((11 * ((g 16) - 1)) + S0a).toNatClampNeg) a1) (((11 * ((g 16) - 1)) + 10).toNatClampNeg) a2), (upd f_undo ((g 59).toNatClampNeg) a0)) → _) ((by rw [fq_says]; (try rw [if_neg c_1]); (try rw [← hq_r_2]); (try rw [xL_eq]); (try rw [if_neg c_5]); (try rw [← hq_r_6]); (try rw [xL_eq]); (try rw [if_pos c_7]); (try rw [← hX_9]); (try rw [xL_eq]); (try rw [← hq_S0a]); (try rw [if_neg c_12]); (try rw [if_pos c_13]); try rfl))), Or.inr rfl⟩, by rw [ht]; exact hP9, va_K.moved hW.alike hK9, hD9⟩, hS.F ht⟩) hS.2.2 dX12_says_146
          · refine lv_aload_n hx hb dX12_says_92 rfl (lv_at hl 1 rfl) ?_
            refine va_get (D := (dC, dI)) (ci := 12) (v := .ref (rf 40)) (C := RX12) (T := TX12) (N := 76) hx hb htw inlX12 hown hK hP 0 rfl rfl 40 (by decide) (htw _ (ck_9 _ (List.mem_of_getElem? (i := 20) rfl))) (fun _ h9 => h9) rfl dX12_says_93 ?_
            refine lv_bipush (v := 11) hx hb dX12_says_96 (by decide) ?_
            refine lv_iload hx hb dX12_says_98 (lv_at hl 0 rfl) ?_
            refine lv_imul hx hb dX12_says_100 ?_
            refine lv_iconst (v := 2) hx hb dX12_says_101 (by decide) ?_
            refine lv_iadd hx hb dX12_says_102 ?_
            refine lv_iload_n hx hb dX12_says_103 rfl (lv_at hl 4 rfl) ?_
            refine va_iast hx hb hK hP hD hS 1 0 rfl rfl (xn_b (gq_says_s9 (y0 := g 16) c_1 hnt0 hnt2).1 (gq_says_s9 (y0 := g 16) c_1 hnt0 hnt2).2 (gq_says_s10 ).1 (gq_says_s10 ).2) dX12_says_104 (fun H locs hP hD hS => ?_)
            have hP : va_P (dC, dI) vwCl [(mq, .inr (12, mF (upd g 2 0) gl rf)), (eA0 (rf 40) (ck 40) 264 (upd (upd (upd f_noteHas ((11 * ((g 16) - 1)).toNatClampNeg) ((f_noteHas ((11 * ((g 16) - 1)).toNatClampNeg)) ||| (1 <<< (a0 &&& 31)))) (((11 * ((g 16) - 1)) + S0a).toNatClampNeg) a1) (((11 * ((g 16) - 1)) + 2).toNatClampNeg) a2)), (eA0 (rf 60) (ck 60) 128 f_undo)] H := hP
            have hD : va_D A [(mq, .inr (12, mF (upd g 2 0) gl rf)), (eA0 (rf 40) (ck 40) 264 (upd (upd (upd f_noteHas ((11 * ((g 16) - 1)).toNatClampNeg) ((f_noteHas ((11 * ((g 16) - 1)).toNatClampNeg)) ||| (1 <<< (a0 &&& 31)))) (((11 * ((g 16) - 1)) + S0a).toNatClampNeg) a1) (((11 * ((g 16) - 1)) + 2).toNatClampNeg) a2)), (eA0 (rf 60) (ck 60) 128 f_undo)] := hD
            refine lv_iload_n hx hb dX12_says_105 rfl (lv_at hl 2 rfl) ?_
            refine lv_bipush (v := 7) hx hb dX12_says_106 (by decide) ?_
            refine lv_icmp_ne (tgt := 125) hx hb dX12_says_108 (by decide) (fun c_18 => ?_) (fun c_18 => ?_)
            · refine lv_aload_n hx hb dX12_says_125 rfl (lv_at hl 1 rfl) ?_
              refine va_get (D := (dC, dI)) (ci := 12) (v := .ref (rf 60)) (C := RX12) (T := TX12) (N := 76) hx hb htw inlX12 hown hK hP 0 rfl rfl 60 (by decide) (htw _ (ck_10 _ (List.mem_of_getElem? (i := 4) rfl))) (fun _ h9 => h9) rfl dX12_says_126 ?_
              refine lv_aload_n hx hb dX12_says_129 rfl (lv_at hl 1 rfl) ?_
              refine va_get (D := (dC, dI)) (ci := 12) (v := .int (g 59)) (C := RX12) (T := TX12) (N := 76) hx hb htw inlX12 hown hK hP 0 rfl rfl 59 (by decide) (htw _ (ck_11 _ (List.mem_of_getElem? (i := 17) rfl))) (fun _ h9 => h9) rfl dX12_says_130 ?_
              refine lv_iload_n hx hb dX12_says_133 rfl (lv_at hl 2 rfl) ?_
              refine va_iast hx hb hK hP hD hS 2 1 rfl rfl (xg_inr (N := 128) rfl (gq_says_s11 (y0 := g 59) hun0 hun8).1 (gq_says_s11 (y0 := g 59) hun0 hun8).2) dX12_says_134 (fun H locs hP hD hS => ?_)
              have hP : va_P (dC, dI) vwCl [(mq, .inr (12, mF (upd g 2 0) gl rf)), (eA0 (rf 40) (ck 40) 264 (upd (upd (upd f_noteHas ((11 * ((g 16) - 1)).toNatClampNeg) ((f_noteHas ((11 * ((g 16) - 1)).toNatClampNeg)) ||| (1 <<< (a0 &&& 31)))) (((11 * ((g 16) - 1)) + S0a).toNatClampNeg) a1) (((11 * ((g 16) - 1)) + 2).toNatClampNeg) a2)), (eA0 (rf 60) (ck 60) 128 (upd f_undo ((g 59).toNatClampNeg) a0))] H := hP
              have hD : va_D A [(mq, .inr (12, mF (upd g 2 0) gl rf)), (eA0 (rf 40) (ck 40) 264 (upd (upd (upd f_noteHas ((11 * ((g 16) - 1)).toNatClampNeg) ((f_noteHas ((11 * ((g 16) - 1)).toNatClampNeg)) ||| (1 <<< (a0 &&& 31)))) (((11 * ((g 16) - 1)) + S0a).toNatClampNeg) a1) (((11 * ((g 16) - 1)) + 2).toNatClampNeg) a2)), (eA0 (rf 60) (ck 60) 128 (upd f_undo ((g 59).toNatClampNeg) a0))] := hD
              refine lv_aload_n hx hb dX12_says_135 rfl (lv_at hl 1 rfl) ?_
              refine lv_dup hx hb dX12_says_136 rfl ?_
              refine va_get (D := (dC, dI)) (ci := 12) (v := .int (g 59)) (C := RX12) (T := TX12) (N := 76) hx hb htw inlX12 hown hK hP 0 rfl rfl 59 (by decide) (htw _ (ck_11 _ (List.mem_of_getElem? (i := 17) rfl))) (fun _ h9 => h9) rfl dX12_says_137 ?_
              refine lv_iconst (v := 1) hx hb dX12_says_140 (by decide) ?_
              refine lv_iadd hx hb dX12_says_141 ?_
              refine va_put (D := (dC, dI)) (ci := 12) (v := .int ((g 59) + 1)) (ty := tyX12 59) (C := RX12) (T := TX12) (N := 76) hx hb htw inlX12 tyX12 tyX12_ok nmX12 hown hK hP hD hS 0 rfl rfl 59 (by decide) (htw _ (ck_11 _ (List.mem_of_getElem? (i := 17) rfl))) (fun _ h9 => h9) rfl (tyX12_ok 59 (by decide)) rfl rfl (Nat.le_of_ble_eq_true rfl) dX12_says_142 (fun H locs hP hD hS => ?_)
              have hP : va_P (dC, dI) vwCl [(mq, .inr (12, mF (upd (upd g 2 0) 59 ((g 59) + 1)) gl rf)), (eA0 (rf 40) (ck 40) 264 (upd (upd (upd f_noteHas ((11 * ((g 16) - 1)).toNatClampNeg) ((f_noteHas ((11 * ((g 16) - 1)).toNatClampNeg)) ||| (1 <<< (a0 &&& 31)))) (((11 * ((g 16) - 1)) + S0a).toNatClampNeg) a1) (((11 * ((g 16) - 1)) + 2).toNatClampNeg) a2)), (eA0 (rf 60) (ck 60) 128 (upd f_undo ((g 59).toNatClampNeg) a0))] H := hP
              have hD : va_D A [(mq, .inr (12, mF (upd (upd g 2 0) 59 ((g 59) + 1)) gl rf)), (eA0 (rf 40) (ck 40) 264 (upd (upd (upd f_noteHas ((11 * ((g 16) - 1)).toNatClampNeg) ((f_noteHas ((11 * ((g 16) - 1)).toNatClampNeg)) ||| (1 <<< (a0 &&& 31)))) (((11 * ((g 16) - 1)) + S0a).toNatClampNeg) a1) (((11 * ((g 16) - 1)) + 2).toNatClampNeg) a2)), (eA0 (rf 60) (ck 60) 128 (upd f_undo ((g 59).toNatClampNeg) a0))] := hD
              refine lv_iconst (v := 1) hx hb dX12_says_145 (by decide) ?_
              refine W.widen (k := 0) (n := 0) (by omega) (by omega) ?_
              have hP9 := hP
              have hD9 := hD
              have hK9 := hK.sub (tys' := []) [] rfl
              exact W.zret (v := 1) hx hb hr (by first | rfl | decide) (fun t ht hW => ⟨⟨1, (0, ((g 59) + 1), (upd (upd (upd f_noteHas ((11 * ((g 16) - 1)).toNatClampNeg) ((f_noteHas ((11 * ((g 16) - 1)).toNatClampNeg)) ||| (1 <<< (a0 &&& 31)))) (((11 * ((g 16) - 1)) + S0a).toNatClampNeg) a1) (((11 * ((g 16) - 1)) + 2).toNatClampNeg) a2), (upd f_undo ((g 59).toNatClampNeg) a0)), rfl, ⟨((fun e9 => ⟨by rw [e9], by rw [e9]⟩ : fq_says f_noteHas f_undo a0 a1 a2 (g 13) (g 14) (g 16) (g 59) = ((1 : Int32), (0 : Int32), ((g 59) + 1), (upd (upd (upd f_noteHas ((11 * ((g 16) - 1)).toNatClampNeg) ((f_noteHas ((11 * ((g 16) - 1)).toNatClampNeg)) ||| (1 <<< (a0 &&& 31)))) (((11 * ((g 16) - 1)) + S0a).toNatClampNeg) a1) (((11 * ((g 16) - 1)) + 2).toNatClampNeg) a2), (upd f_undo ((g 59).toNatClampNeg) a0)) → _) ((by rw [fq_says]; (try rw [if_neg c_1]); (try rw [← hq_r_2]); (try rw [xL_eq]); (try rw [if_neg c_5]); (try rw [← hq_r_6]); (try rw [xL_eq]); (try rw [if_pos c_7]); (try rw [← hX_9]); (try rw [xL_eq]); (try rw [← hq_S0a]); (try rw [if_pos c_12]); (try rw [if_neg c_18]); try rfl))), Or.inr rfl⟩, by rw [ht]; exact hP9, va_K.moved hW.alike hK9, hD9⟩, hS.F ht⟩) hS.2.2 dX12_says_146
            · refine lv_aload_n hx hb dX12_says_111 rfl (lv_at hl 1 rfl) ?_
              refine va_get (D := (dC, dI)) (ci := 12) (v := .ref (rf 40)) (C := RX12) (T := TX12) (N := 76) hx hb htw inlX12 hown hK hP 0 rfl rfl 40 (by decide) (htw _ (ck_9 _ (List.mem_of_getElem? (i := 20) rfl))) (fun _ h9 => h9) rfl dX12_says_112 ?_
              refine lv_bipush (v := 11) hx hb dX12_says_115 (by decide) ?_
              refine lv_iload hx hb dX12_says_117 (lv_at hl 0 rfl) ?_
              refine lv_imul hx hb dX12_says_119 ?_
              refine lv_bipush (v := 10) hx hb dX12_says_120 (by decide) ?_
              refine lv_iadd hx hb dX12_says_122 ?_
              refine lv_iload_n hx hb dX12_says_123 rfl (lv_at hl 4 rfl) ?_
              refine va_iast hx hb hK hP hD hS 1 0 rfl rfl (xn_b (gq_says_s12 (y0 := g 16) c_1 hnt0 hnt2).1 (gq_says_s12 (y0 := g 16) c_1 hnt0 hnt2).2 (gq_says_s13 ).1 (gq_says_s13 ).2) dX12_says_124 (fun H locs hP hD hS => ?_)
              have hP : va_P (dC, dI) vwCl [(mq, .inr (12, mF (upd g 2 0) gl rf)), (eA0 (rf 40) (ck 40) 264 (upd (upd (upd (upd f_noteHas ((11 * ((g 16) - 1)).toNatClampNeg) ((f_noteHas ((11 * ((g 16) - 1)).toNatClampNeg)) ||| (1 <<< (a0 &&& 31)))) (((11 * ((g 16) - 1)) + S0a).toNatClampNeg) a1) (((11 * ((g 16) - 1)) + 2).toNatClampNeg) a2) (((11 * ((g 16) - 1)) + 10).toNatClampNeg) a2)), (eA0 (rf 60) (ck 60) 128 f_undo)] H := hP
              have hD : va_D A [(mq, .inr (12, mF (upd g 2 0) gl rf)), (eA0 (rf 40) (ck 40) 264 (upd (upd (upd (upd f_noteHas ((11 * ((g 16) - 1)).toNatClampNeg) ((f_noteHas ((11 * ((g 16) - 1)).toNatClampNeg)) ||| (1 <<< (a0 &&& 31)))) (((11 * ((g 16) - 1)) + S0a).toNatClampNeg) a1) (((11 * ((g 16) - 1)) + 2).toNatClampNeg) a2) (((11 * ((g 16) - 1)) + 10).toNatClampNeg) a2)), (eA0 (rf 60) (ck 60) 128 f_undo)] := hD
              refine lv_aload_n hx hb dX12_says_125 rfl (lv_at hl 1 rfl) ?_
              refine va_get (D := (dC, dI)) (ci := 12) (v := .ref (rf 60)) (C := RX12) (T := TX12) (N := 76) hx hb htw inlX12 hown hK hP 0 rfl rfl 60 (by decide) (htw _ (ck_10 _ (List.mem_of_getElem? (i := 4) rfl))) (fun _ h9 => h9) rfl dX12_says_126 ?_
              refine lv_aload_n hx hb dX12_says_129 rfl (lv_at hl 1 rfl) ?_
              refine va_get (D := (dC, dI)) (ci := 12) (v := .int (g 59)) (C := RX12) (T := TX12) (N := 76) hx hb htw inlX12 hown hK hP 0 rfl rfl 59 (by decide) (htw _ (ck_11 _ (List.mem_of_getElem? (i := 17) rfl))) (fun _ h9 => h9) rfl dX12_says_130 ?_
              refine lv_iload_n hx hb dX12_says_133 rfl (lv_at hl 2 rfl) ?_
              refine va_iast hx hb hK hP hD hS 2 1 rfl rfl (xg_inr (N := 128) rfl (gq_says_s14 (y0 := g 59) hun0 hun8).1 (gq_says_s14 (y0 := g 59) hun0 hun8).2) dX12_says_134 (fun H locs hP hD hS => ?_)
              have hP : va_P (dC, dI) vwCl [(mq, .inr (12, mF (upd g 2 0) gl rf)), (eA0 (rf 40) (ck 40) 264 (upd (upd (upd (upd f_noteHas ((11 * ((g 16) - 1)).toNatClampNeg) ((f_noteHas ((11 * ((g 16) - 1)).toNatClampNeg)) ||| (1 <<< (a0 &&& 31)))) (((11 * ((g 16) - 1)) + S0a).toNatClampNeg) a1) (((11 * ((g 16) - 1)) + 2).toNatClampNeg) a2) (((11 * ((g 16) - 1)) + 10).toNatClampNeg) a2)), (eA0 (rf 60) (ck 60) 128 (upd f_undo ((g 59).toNatClampNeg) a0))] H := hP
              have hD : va_D A [(mq, .inr (12, mF (upd g 2 0) gl rf)), (eA0 (rf 40) (ck 40) 264 (upd (upd (upd (upd f_noteHas ((11 * ((g 16) - 1)).toNatClampNeg) ((f_noteHas ((11 * ((g 16) - 1)).toNatClampNeg)) ||| (1 <<< (a0 &&& 31)))) (((11 * ((g 16) - 1)) + S0a).toNatClampNeg) a1) (((11 * ((g 16) - 1)) + 2).toNatClampNeg) a2) (((11 * ((g 16) - 1)) + 10).toNatClampNeg) a2)), (eA0 (rf 60) (ck 60) 128 (upd f_undo ((g 59).toNatClampNeg) a0))] := hD
              refine lv_aload_n hx hb dX12_says_135 rfl (lv_at hl 1 rfl) ?_
              refine lv_dup hx hb dX12_says_136 rfl ?_
              refine va_get (D := (dC, dI)) (ci := 12) (v := .int (g 59)) (C := RX12) (T := TX12) (N := 76) hx hb htw inlX12 hown hK hP 0 rfl rfl 59 (by decide) (htw _ (ck_11 _ (List.mem_of_getElem? (i := 17) rfl))) (fun _ h9 => h9) rfl dX12_says_137 ?_
              refine lv_iconst (v := 1) hx hb dX12_says_140 (by decide) ?_
              refine lv_iadd hx hb dX12_says_141 ?_
              refine va_put (D := (dC, dI)) (ci := 12) (v := .int ((g 59) + 1)) (ty := tyX12 59) (C := RX12) (T := TX12) (N := 76) hx hb htw inlX12 tyX12 tyX12_ok nmX12 hown hK hP hD hS 0 rfl rfl 59 (by decide) (htw _ (ck_11 _ (List.mem_of_getElem? (i := 17) rfl))) (fun _ h9 => h9) rfl (tyX12_ok 59 (by decide)) rfl rfl (Nat.le_of_ble_eq_true rfl) dX12_says_142 (fun H locs hP hD hS => ?_)
              have hP : va_P (dC, dI) vwCl [(mq, .inr (12, mF (upd (upd g 2 0) 59 ((g 59) + 1)) gl rf)), (eA0 (rf 40) (ck 40) 264 (upd (upd (upd (upd f_noteHas ((11 * ((g 16) - 1)).toNatClampNeg) ((f_noteHas ((11 * ((g 16) - 1)).toNatClampNeg)) ||| (1 <<< (a0 &&& 31)))) (((11 * ((g 16) - 1)) + S0a).toNatClampNeg) a1) (((11 * ((g 16) - 1)) + 2).toNatClampNeg) a2) (((11 * ((g 16) - 1)) + 10).toNatClampNeg) a2)), (eA0 (rf 60) (ck 60) 128 (upd f_undo ((g 59).toNatClampNeg) a0))] H := hP
              have hD : va_D A [(mq, .inr (12, mF (upd (upd g 2 0) 59 ((g 59) + 1)) gl rf)), (eA0 (rf 40) (ck 40) 264 (upd (upd (upd (upd f_noteHas ((11 * ((g 16) - 1)).toNatClampNeg) ((f_noteHas ((11 * ((g 16) - 1)).toNatClampNeg)) ||| (1 <<< (a0 &&& 31)))) (((11 * ((g 16) - 1)) + S0a).toNatClampNeg) a1) (((11 * ((g 16) - 1)) + 2).toNatClampNeg) a2) (((11 * ((g 16) - 1)) + 10).toNatClampNeg) a2)), (eA0 (rf 60) (ck 60) 128 (upd f_undo ((g 59).toNatClampNeg) a0))] := hD
              refine lv_iconst (v := 1) hx hb dX12_says_145 (by decide) ?_
              refine W.widen (k := 0) (n := 0) (by omega) (by omega) ?_
              have hP9 := hP
              have hD9 := hD
              have hK9 := hK.sub (tys' := []) [] rfl
              exact W.zret (v := 1) hx hb hr (by first | rfl | decide) (fun t ht hW => ⟨⟨1, (0, ((g 59) + 1), (upd (upd (upd (upd f_noteHas ((11 * ((g 16) - 1)).toNatClampNeg) ((f_noteHas ((11 * ((g 16) - 1)).toNatClampNeg)) ||| (1 <<< (a0 &&& 31)))) (((11 * ((g 16) - 1)) + S0a).toNatClampNeg) a1) (((11 * ((g 16) - 1)) + 2).toNatClampNeg) a2) (((11 * ((g 16) - 1)) + 10).toNatClampNeg) a2), (upd f_undo ((g 59).toNatClampNeg) a0)), rfl, ⟨((fun e9 => ⟨by rw [e9], by rw [e9]⟩ : fq_says f_noteHas f_undo a0 a1 a2 (g 13) (g 14) (g 16) (g 59) = ((1 : Int32), (0 : Int32), ((g 59) + 1), (upd (upd (upd (upd f_noteHas ((11 * ((g 16) - 1)).toNatClampNeg) ((f_noteHas ((11 * ((g 16) - 1)).toNatClampNeg)) ||| (1 <<< (a0 &&& 31)))) (((11 * ((g 16) - 1)) + S0a).toNatClampNeg) a1) (((11 * ((g 16) - 1)) + 2).toNatClampNeg) a2) (((11 * ((g 16) - 1)) + 10).toNatClampNeg) a2), (upd f_undo ((g 59).toNatClampNeg) a0)) → _) ((by rw [fq_says]; (try rw [if_neg c_1]); (try rw [← hq_r_2]); (try rw [xL_eq]); (try rw [if_neg c_5]); (try rw [← hq_r_6]); (try rw [xL_eq]); (try rw [if_pos c_7]); (try rw [← hX_9]); (try rw [xL_eq]); (try rw [← hq_S0a]); (try rw [if_pos c_12]); (try rw [if_pos c_18]); try rfl))), Or.inr rfl⟩, by rw [ht]; exact hP9, va_K.moved hW.alike hK9, hD9⟩, hS.F ht⟩) hS.2.2 dX12_says_146
        refine lv_if_ne (tgt := 82) hx hb dX12_says_75 (by decide) (fun c_22 => ?_) (fun c_22 => ?_)
        · refine lv_iconst (v := 2) hx hb dX12_says_82 (by decide) ?_
          refine lv_iload_n hx hb dX12_says_83 rfl (lv_at hl 2 rfl) ?_
          refine lv_iadd hx hb dX12_says_84 ?_
          exact hjoin_10 (2 + a0) (gq_says_s15 (y0 := a0) c_22 (hp_3.resolve_left c_5) (hp_4.resolve_left c_5)) (gq_says_s16 (y0 := a0) c_22 (hp_3.resolve_left c_5) (hp_4.resolve_left c_5)) (hX_9.trans (by rw [fq_says_a]; (try rw [if_neg c_22]); try rfl)) _ _ ls hP hD hS (lv_sub hl [0, 1, 2, 3, 4] rfl)
        · refine lv_iconst (v := 1) hx hb dX12_says_78 (by decide) ?_
          refine lv_goto (tgt := 85) hx hb dX12_says_79 (by decide) ?_
          exact hjoin_10 (1 : Int32) (gq_says_s17 ) (gq_says_s18 ) (hX_9.trans (by rw [fq_says_a]; (try rw [if_pos c_22]); try rfl)) _ _ ls hP hD hS (lv_sub hl [0, 1, 2, 3, 4] rfl)
      · refine lv_iconst (v := 0) hx hb dX12_says_47 (by decide) ?_
        refine W.widen (k := 0) (n := 0) (by omega) (by omega) ?_
        obtain ⟨hP9, hD9⟩ := zsub2 (ws' := [(mq, .inr (12, mF (upd g 2 0) gl rf)), (eA0 (rf 40) (ck 40) 264 f_noteHas), (eA0 (rf 60) (ck 60) 128 f_undo)]) hP hD [0, 1, 2] (by decide) rfl
        have hK9 := hK.sub (tys' := []) [] rfl
        exact W.zret (v := 0) hx hb hr (by first | rfl | decide) (fun t ht hW => ⟨⟨0, (0, (g 59), f_noteHas, f_undo), rfl, ⟨((fun e9 => ⟨by rw [e9], by rw [e9]⟩ : fq_says f_noteHas f_undo a0 a1 a2 (g 13) (g 14) (g 16) (g 59) = ((0 : Int32), (0 : Int32), (g 59), f_noteHas, f_undo) → _) ((by rw [fq_says]; (try rw [if_neg c_1]); (try rw [← hq_r_2]); (try rw [xL_eq]); (try rw [if_neg c_5]); (try rw [← hq_r_6]); (try rw [xL_eq]); (try rw [if_neg c_7]); try rfl))), Or.inl rfl⟩, by rw [ht]; exact hP9, va_K.moved hW.alike hK9, hD9⟩, hS.F ht⟩) hS.2.2 dX12_says_48
