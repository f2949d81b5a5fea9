def fd_topsIn_d (fRw : Nat → Nat → Int64) (fSh : Nat → Int32) (a0 : Int32) (a1 : Int32) : Nat → (Int64) → (Int32) → Int64
  | 0, L3d, L5d => L3d
  | n + 1, L3d, L5d => (if 12 ≤ L5d then L3d else (if lg_cmp L3d 0 = 0 then L3d else (if ((a0 >>> (L5d &&& 31)) &&& 1) = (1 : Int32) then (xL ((fd_bitsFrom (fRw L5d.toNatClampNeg) ((a1 * 64) + (fSh L5d.toNatClampNeg)))) (fun r_6 => fd_topsIn_d fRw fSh a0 a1 n (L3d &&& r_6) (L5d + 1))) else fd_topsIn_d fRw fSh a0 a1 n L3d (L5d + 1))))
def fd_topsIn (fRw : Nat → Nat → Int64) (fSh : Nat → Int32) (a0 : Int32) (a1 : Int32) : Int64 := fd_topsIn_d fRw fSh a0 a1 12 (-1 : Int64) (0 : Int32)
theorem gd_topsIn_s0 {y0 : Int32} (h0 : ¬ (12 ≤ y0)) (h1 : ¬ (y0 < 0)) : ¬ ((y0 + 1) < 0) := by lia
theorem gd_topsIn_s1 {y0 : Int32} (h0 : ¬ (12 ≤ y0)) (h1 : ¬ (y0 < 0)) : ¬ (y0 < 0) ∧ ¬ (12 ≤ y0) := ⟨h1, h0⟩
theorem gd_topsIn_s2 {y0 : Int32} (h0 : ¬ (12 ≤ y0)) (h1 : ¬ (y0 < 0)) : ¬ (y0 < 0) ∧ ¬ (12 ≤ y0) := ⟨h1, h0⟩
theorem gd_topsIn_s3 {y0 : Int32} (h0 : ¬ (12 ≤ y0)) (h1 : ¬ (y0 < 0)) : ¬ (y0 < 0) ∧ ¬ (12 ≤ y0) := ⟨h1, h0⟩
theorem gd_topsIn_s4 {y0 : Int32} (h0 : ¬ (12 ≤ y0)) (h1 : ¬ (y0 < 0)) : ¬ ((y0 + 1) < 0) := by lia
theorem gd_topsIn_s5  : ¬ ((0 : Int32) < 0) := (by decide)
theorem dX5_topsIn_0 : decode cX5_topsIn 0 = .ok (.ldc2_w 127, 3) := zk_20 (by decide +kernel)
theorem dX5_topsIn_3 : decode cX5_topsIn 3 = .ok (.lstore_n 3, 1) := zk_66 (by decide +kernel)
theorem dX5_topsIn_4 : decode cX5_topsIn 4 = .ok (.iconst 0, 1) := zk_3 (by decide +kernel)
theorem dX5_topsIn_5 : decode cX5_topsIn 5 = .ok (.istore 5, 2) := zk_54 (by decide +kernel)
theorem dX5_topsIn_7 : decode cX5_topsIn 7 = .ok (.iload 5, 2) := zk_21 (by decide +kernel)
theorem dX5_topsIn_9 : decode cX5_topsIn 9 = .ok (.bipush 12, 2) := zk_16 (by decide +kernel)
theorem dX5_topsIn_11 : decode cX5_topsIn 11 = .ok (.if_icmp .ge 50, 3) := zk_162 (by decide +kernel)
theorem dX5_topsIn_61 : decode cX5_topsIn 61 = .ok (.lload_n 3, 1) := zk_33 (by decide +kernel)
theorem dX5_topsIn_62 : decode cX5_topsIn 62 = .ok (.lreturn, 1) := zk_173 (by decide +kernel)
theorem dX5_topsIn_14 : decode cX5_topsIn 14 = .ok (.lload_n 3, 1) := zk_33 (by decide +kernel)
theorem dX5_topsIn_15 : decode cX5_topsIn 15 = .ok (.lconst 0, 1) := zk_9 (by decide +kernel)
theorem dX5_topsIn_16 : decode cX5_topsIn 16 = .ok (.lcmp, 1) := zk_148 (by decide +kernel)
theorem dX5_topsIn_17 : decode cX5_topsIn 17 = .ok (.ifCond .eq 44, 3) := zk_153 (by decide +kernel)
theorem dX5_topsIn_20 : decode cX5_topsIn 20 = .ok (.iload_n 1, 1) := zk_27 (by decide +kernel)
theorem dX5_topsIn_21 : decode cX5_topsIn 21 = .ok (.iload 5, 2) := zk_21 (by decide +kernel)
theorem dX5_topsIn_23 : decode cX5_topsIn 23 = .ok (.ishr, 1) := zk_122 (by decide +kernel)
theorem dX5_topsIn_24 : decode cX5_topsIn 24 = .ok (.iconst 1, 1) := zk_4 (by decide +kernel)
theorem dX5_topsIn_25 : decode cX5_topsIn 25 = .ok (.iand, 1) := zk_126 (by decide +kernel)
theorem dX5_topsIn_26 : decode cX5_topsIn 26 = .ok (.iconst 1, 1) := zk_4 (by decide +kernel)
theorem dX5_topsIn_27 : decode cX5_topsIn 27 = .ok (.if_icmp .ne 28, 3) := zk_160 (by decide +kernel)
theorem dX5_topsIn_55 : decode cX5_topsIn 55 = .ok (.iinc 5 1, 3) := zk_132 (by decide +kernel)
theorem dX5_topsIn_58 : decode cX5_topsIn 58 = .ok (.goto (-51), 3) := zk_167 (by decide +kernel)
theorem dX5_topsIn_30 : decode cX5_topsIn 30 = .ok (.lload_n 3, 1) := zk_33 (by decide +kernel)
theorem dX5_topsIn_31 : decode cX5_topsIn 31 = .ok (.aload_n 0, 1) := zk_42 (by decide +kernel)
theorem dX5_topsIn_32 : decode cX5_topsIn 32 = .ok (.getfield 13, 3) := zk_180 (by decide +kernel)
theorem dX5_topsIn_35 : decode cX5_topsIn 35 = .ok (.iload 5, 2) := zk_21 (by decide +kernel)
theorem dX5_topsIn_37 : decode cX5_topsIn 37 = .ok (.aaload, 1) := zk_50 (by decide +kernel)
theorem dX5_topsIn_38 : decode cX5_topsIn 38 = .ok (.iload_n 2, 1) := zk_28 (by decide +kernel)
theorem dX5_topsIn_39 : decode cX5_topsIn 39 = .ok (.bipush 64, 2) := zk_16 (by decide +kernel)
theorem dX5_topsIn_41 : decode cX5_topsIn 41 = .ok (.imul, 1) := zk_104 (by decide +kernel)
theorem dX5_topsIn_42 : decode cX5_topsIn 42 = .ok (.aload_n 0, 1) := zk_42 (by decide +kernel)
theorem dX5_topsIn_43 : decode cX5_topsIn 43 = .ok (.getfield 16, 3) := zk_180 (by decide +kernel)
theorem dX5_topsIn_46 : decode cX5_topsIn 46 = .ok (.iload 5, 2) := zk_21 (by decide +kernel)
theorem dX5_topsIn_48 : decode cX5_topsIn 48 = .ok (.iaload, 1) := zk_46 (by decide +kernel)
theorem dX5_topsIn_49 : decode cX5_topsIn 49 = .ok (.iadd, 1) := zk_96 (by decide +kernel)
theorem dX5_topsIn_50 : decode cX5_topsIn 50 = .ok (.invokestatic 160, 3) := zk_184 (by decide +kernel)
theorem dX5_topsIn_53 : decode cX5_topsIn 53 = .ok (.land, 1) := zk_127 (by decide +kernel)
theorem dX5_topsIn_54 : decode cX5_topsIn 54 = .ok (.lstore_n 3, 1) := zk_66 (by decide +kernel)
set_option maxHeartbeats 4000000 in
set_option maxRecDepth 100000 in
theorem gd_topsIn (l : Launch) (dC : Nat → ClassId) (dI : Nat → Nat → Nat) (xdy : Nat) (drw : Nat) (dfr : Int32) (dsh : Nat) (dto : Nat) (dmo : Nat) (dwi : Nat) (cDr : ClassId) (Rw : Nat → Nat) (cRr : ClassId) (fRw : Nat → Nat → Int64) (cSh : ClassId) (fSh : Nat → Int32) (a0 : Int32) (a1 : Int32) : Met l yX5_topsIn (Cond.code yX5_topsIn cX5_topsIn 6 (some .long) :: wsL_law) ({ frames := 1, cells := 0, slots := 0, locals := 27 }) (va_Pc [.ref xdy, .int a0, .int a1] (fun U => va_P (dC, dI) vwCl [(eO5a xdy drw dfr dsh dto dmo dwi), (eA4 drw cDr 12 (fun k => some (Rw k))), (eA1 (Rw 0) cRr 313 (fRw 0)), (eA1 (Rw 1) cRr 313 (fRw 1)), (eA1 (Rw 2) cRr 313 (fRw 2)), (eA1 (Rw 3) cRr 313 (fRw 3)), (eA1 (Rw 4) cRr 313 (fRw 4)), (eA1 (Rw 5) cRr 313 (fRw 5)), (eA1 (Rw 6) cRr 313 (fRw 6)), (eA1 (Rw 7) cRr 313 (fRw 7)), (eA1 (Rw 8) cRr 313 (fRw 8)), (eA1 (Rw 9) cRr 313 (fRw 9)), (eA1 (Rw 10) cRr 313 (fRw 10)), (eA1 (Rw 11) cRr 313 (fRw 11)), (eA0 dsh cSh 12 fSh)] U.heap ∧ va_K (dC, dI) vwCl [(cDr, .array .long), (cRr, .long), (cRr, .long), (cRr, .long), (cRr, .long), (cRr, .long), (cRr, .long), (cRr, .long), (cRr, .long), (cRr, .long), (cRr, .long), (cRr, .long), (cRr, .long), (cSh, .int)] U)) (vp_Sl (fun r => r = fd_topsIn fRw fSh a0 a1)) 0 0 (fun _ => False) := by
  refine Met.ofW (cc := cX5_topsIn) (maxL := 6) (ret := (some .long)) (by decide) rfl ?_
  intro p e s m args below meth c s₁ B hml hv
  obtain ⟨rfl, hP, hK⟩ := hv
  have hx := B.exec
  have hb := B.bytes
  have hr := B.returns
  have hts := atoms_spec (ws := Cond.code yX5_topsIn cX5_topsIn 6 (some .long) :: wsL_law) B.pre
  have htw : ∀ w ∈ wsL_law, w.before _ s = true := fun w h => hts w (List.mem_cons_of_mem _ h)
  have hown : s.vm.findClass RX5 = some m.cls := findClass_of_methodNamed B.named
  have hlocks := B.notSynchronized
  have hl := lv_entry ([.ref xdy, .int a0, .int a1]) (n := 6) (Nat.le_of_ble_eq_true rfl)
  rw [lg_entry_eq]
  generalize (lg_sl ([.ref xdy, .int a0, .int a1]) ++ List.replicate (6 - (lg_sl ([.ref xdy, .int a0, .int a1])).length) Slot.unset).toArray = ls at hl ⊢
  have hl : lv_has ls 6 [(0, .ref xdy), (1, .int a0), (2, .int a1)] := hl
  refine lv_ldc2 (v := (-1)) hx hb hown (htw _ (ck_56 _ (List.mem_of_getElem? (i := 22) rfl))) dX5_topsIn_0 ?_
  refine lv_lstore_n (lv' := [(3, .long (-1)), (0, .ref xdy), (1, .int a0), (2, .int a1)]) hx hb dX5_topsIn_3 rfl hl (by decide) rfl (fun ls hl => ?_)
  refine lv_iconst (v := 0) hx hb dX5_topsIn_4 (by decide) ?_
  refine lv_istore (lv' := [(5, .int 0), (3, .long (-1)), (0, .ref xdy), (1, .int a0), (2, .int a1)]) hx hb dX5_topsIn_5 hl (by decide) rfl (fun ls hl => ?_)
  have hloop_1 : ∀ (n : Nat) (L3d : Int64) (L5d : Int32) (h0_d : ¬ L5d < 0) (hf_d : (12 : Int32).toInt ≤ L5d.toInt + (n : Int)) (hI_d : fd_topsIn fRw fSh a0 a1 = fd_topsIn_d fRw fSh a0 a1 n L3d L5d) (ls : Array Slot) (hl : lv_has ls 6 [(5, .int L5d), (3, .long L3d), (0, .ref xdy), (1, .int a0), (2, .int a1)]), W p l e (headSpec (Cond.code yX5_topsIn cX5_topsIn 6 (some .long) :: wsL_law) ({ frames := 1, cells := 0, slots := 0, locals := 27 })).room s m ([.ref xdy, .int a0, .int a1] : List Value).toArray below meth c s.heap [] 0 0 (MQ below (vp_Sl (fun r => r = fd_topsIn fRw fSh a0 a1)) ([.ref xdy, .int a0, .int a1] : List Value).toArray s 0 0 (fun _ => False)) (F0 m 7 ls []) := by
    intro n
    induction n with
    | zero =>
      intro L3d L5d h0_d hf_d hI_d ls hl
      refine lv_iload hx hb dX5_topsIn_7 (lv_at hl 0 rfl) ?_
      refine lv_bipush (v := 12) hx hb dX5_topsIn_9 (by decide) ?_
      refine lv_icmp_ge (tgt := 61) hx hb dX5_topsIn_11 (by decide) (fun c_2 => ?_) (fun c_2 => absurd c_2 (fun h => h (xi_z hf_d)))
      refine lv_lload_n hx hb dX5_topsIn_61 rfl (lv_at hl 1 rfl) ?_
      exact W.lret (v := L3d) hx hb hr (fun t ht hW => ⟨L3d, rfl, (Eq.symm (hI_d.trans (by rw [fd_topsIn_d]; try rfl))), ht⟩) (fun _ h => by cases h) dX5_topsIn_62
    | succ n ih =>
      intro L3d L5d h0_d hf_d hI_d ls hl
      refine lv_iload hx hb dX5_topsIn_7 (lv_at hl 0 rfl) ?_
      refine lv_bipush (v := 12) hx hb dX5_topsIn_9 (by decide) ?_
      refine lv_icmp_ge (tgt := 61) hx hb dX5_topsIn_11 (by decide) (fun c_3 => ?_) (fun c_3 => ?_)
      · refine lv_lload_n hx hb dX5_topsIn_61 rfl (lv_at hl 1 rfl) ?_
        exact W.lret (v := L3d) hx hb hr (fun t ht hW => ⟨L3d, rfl, (Eq.symm (hI_d.trans (by rw [fd_topsIn_d]; (try rw [if_pos c_3]); try rfl))), ht⟩) (fun _ h => by cases h) dX5_topsIn_62
      · refine lv_lload_n hx hb dX5_topsIn_14 rfl (lv_at hl 1 rfl) ?_
        refine lv_lconst (v := 0) hx hb dX5_topsIn_15 (by decide) ?_
        refine W.lcmp hx hb dX5_topsIn_16 ?_
        refine lv_if_eq (tgt := 61) hx hb dX5_topsIn_17 (by decide) (fun c_4 => ?_) (fun c_4 => ?_)
        · refine lv_lload_n hx hb dX5_topsIn_61 rfl (lv_at hl 1 rfl) ?_
          exact W.lret (v := L3d) hx hb hr (fun t ht hW => ⟨L3d, rfl, (Eq.symm (hI_d.trans (by rw [fd_topsIn_d]; (try rw [if_neg c_3]); (try rw [if_pos c_4]); try rfl))), ht⟩) (fun _ h => by cases h) dX5_topsIn_62
        · refine lv_iload_n hx hb dX5_topsIn_20 rfl (lv_at hl 3 rfl) ?_
          refine lv_iload hx hb dX5_topsIn_21 (lv_at hl 0 rfl) ?_
          refine lv_ishr hx hb dX5_topsIn_23 ?_
          refine lv_iconst (v := 1) hx hb dX5_topsIn_24 (by decide) ?_
          refine lv_iand hx hb dX5_topsIn_25 ?_
          refine lv_iconst (v := 1) hx hb dX5_topsIn_26 (by decide) ?_
          refine lv_icmp_ne (tgt := 55) hx hb dX5_topsIn_27 (by decide) (fun c_5 => ?_) (fun c_5 => ?_)
          · refine lv_iinc (v := (L5d + 1)) (lv' := [(5, .int (L5d + 1)), (3, .long L3d), (0, .ref xdy), (1, .int a0), (2, .int a1)]) hx hb dX5_topsIn_55 hl (k := 0) rfl (rfl) (by decide) rfl (fun ls hl => ?_)
            refine lv_goto (tgt := 7) hx hb dX5_topsIn_58 (by decide) ?_
            exact ih L3d (L5d + 1) (gd_topsIn_s0 (y0 := L5d) c_3 h0_d) (by rw [xi_s' c_3]; omega) (hI_d.trans (by rw [fd_topsIn_d]; (try rw [if_neg c_3]); (try rw [if_neg c_4]); (try rw [if_neg c_5]); try rfl)) ls (lv_sub hl [0, 1, 2, 3, 4] rfl)
          · refine lv_lload_n hx hb dX5_topsIn_30 rfl (lv_at hl 1 rfl) ?_
            refine lv_aload_n hx hb dX5_topsIn_31 rfl (lv_at hl 2 rfl) ?_
            refine va_get (D := (dC, dI)) (ci := 5) (v := .ref drw) (C := RX5) (T := TX5) (N := 6) hx hb htw inlX5 hown hK hP 0 rfl rfl 0 (by decide) (htw _ (ck_8 _ (List.mem_of_getElem? (i := 6) rfl))) (fun _ h9 => h9) rfl dX5_topsIn_32 ?_
            refine lv_iload hx hb dX5_topsIn_35 (lv_at hl 0 rfl) ?_
            refine xg_aldq hx hb hK hP 1 0 rfl rfl rfl (xg_inr (N := 12) rfl (gd_topsIn_s1 (y0 := L5d) c_3 h0_d).1 (gd_topsIn_s1 (y0 := L5d) c_3 h0_d).2) dX5_topsIn_37 ?_
            refine W.eq (g2 := F0 m 38 ls [.ref (Rw L5d.toNatClampNeg), .long L3d]) rfl ?_
            have hP : va_P (dC, dI) vwCl [(eO5a xdy drw dfr dsh dto dmo dwi), (eA4 drw cDr 12 (fun k => some (Rw k))), (eA1 (Rw 0) cRr 313 (fRw 0)), (eA1 (Rw 1) cRr 313 (fRw 1)), (eA1 (Rw 2) cRr 313 (fRw 2)), (eA1 (Rw 3) cRr 313 (fRw 3)), (eA1 (Rw 4) cRr 313 (fRw 4)), (eA1 (Rw 5) cRr 313 (fRw 5)), (eA1 (Rw 6) cRr 313 (fRw 6)), (eA1 (Rw 7) cRr 313 (fRw 7)), (eA1 (Rw 8) cRr 313 (fRw 8)), (eA1 (Rw 9) cRr 313 (fRw 9)), (eA1 (Rw 10) cRr 313 (fRw 10)), (eA1 (Rw 11) cRr 313 (fRw 11)), (eA0 dsh cSh 12 fSh), ((Rw L5d.toNatClampNeg), .inl (cRr, 313, .inr (.inl (fRw L5d.toNatClampNeg))))] s.heap := xb_PN hP (fun k => (Rw k, .inl (cRr, 313, .inr (.inl (fRw k))))) 2 12 (by intro j hj; rcases (show j = 0 ∨ j = 1 ∨ j = 2 ∨ j = 3 ∨ j = 4 ∨ j = 5 ∨ j = 6 ∨ j = 7 ∨ j = 8 ∨ j = 9 ∨ j = 10 ∨ j = 11 by omega) with rfl | rfl | rfl | rfl | rfl | rfl | rfl | rfl | rfl | rfl | rfl | rfl <;> rfl) (i := L5d) (xg_inr (N := 12) rfl (gd_topsIn_s2 (y0 := L5d) c_3 h0_d).1 (gd_topsIn_s2 (y0 := L5d) c_3 h0_d).2)
            refine lv_iload_n hx hb dX5_topsIn_38 rfl (lv_at hl 4 rfl) ?_
            refine lv_bipush (v := 64) hx hb dX5_topsIn_39 (by decide) ?_
            refine lv_imul hx hb dX5_topsIn_41 ?_
            refine lv_aload_n hx hb dX5_topsIn_42 rfl (lv_at hl 2 rfl) ?_
            refine va_get (D := (dC, dI)) (ci := 5) (v := .ref dsh) (C := RX5) (T := TX5) (N := 6) hx hb htw inlX5 hown hK hP 0 rfl rfl 2 (by decide) (htw _ (ck_8 _ (List.mem_of_getElem? (i := 7) rfl))) (fun _ h9 => h9) rfl dX5_topsIn_43 ?_
            refine lv_iload hx hb dX5_topsIn_46 (lv_at hl 0 rfl) ?_
            refine va_iald hx hb hK hP 14 13 rfl rfl (xg_inr (N := 12) rfl (gd_topsIn_s3 (y0 := L5d) c_3 h0_d).1 (gd_topsIn_s3 (y0 := L5d) c_3 h0_d).2) dX5_topsIn_48 ?_
            refine lv_iadd hx hb dX5_topsIn_49 ?_
            have hPc := hP.sub (ws' := [((Rw L5d.toNatClampNeg), .inl (cRr, 313, .inr (.inl (fRw L5d.toNatClampNeg))))]) [15] rfl
            have hKc := hK.sub (tys' := [(cRr, .long)]) [1] rfl
            refine vp_callSl (W.runS (As := [.ref (Rw L5d.toNatClampNeg), .int ((a1 * 64) + (fSh L5d.toNatClampNeg))]) (rest := [.long L3d]) ⟨hx, hb, hml, hown, htw⟩ (gd_bitsFrom l dC dI (Rw L5d.toNatClampNeg) cRr (fRw L5d.toNatClampNeg) ((a1 * 64) + (fSh L5d.toNatClampNeg))) (va_cwS 2 htw (xg_S (ck_57 _ (List.mem_of_getElem? (i := 20) rfl)) (ck_57 _ (List.mem_of_getElem? (i := 21) rfl)) (ck_2 _ (List.mem_of_getElem? (i := 1) rfl)) (ck_57 _ (List.mem_of_getElem? (i := 22) rfl))) rfl rfl rfl (by exact ⟨hdc_10.1, hdc_10.2, hdd_24⟩) ⟨Nat.le_of_ble_eq_true rfl, Nat.le_of_ble_eq_true rfl⟩) ⟨fun a U g mk q => by obtain ⟨q0, qP, qK⟩ := q; exact ⟨q0, qP, va_K.moved (u := U) (U := U.calling g mk a) (Vm.Alike.refl U.vm) qK⟩, fun U hU hW => ⟨rfl, by rw [hU]; exact hPc, va_K.moved hW.alike hKc⟩⟩ rfl rfl hl.1 rfl (lv_room (Nat.le_of_ble_eq_true rfl)) dX5_topsIn_50 ⟨Nat.le_of_ble_eq_true rfl, Nat.le_of_ble_eq_true rfl⟩) (fun r_6 hw => ?_)
            try dsimp only at hw
            have hq_r_6 : r_6 = (fd_bitsFrom (fRw L5d.toNatClampNeg) ((a1 * 64) + (fSh L5d.toNatClampNeg))) := hw
            refine lv_land hx hb dX5_topsIn_53 ?_
            refine lv_lstore_n (lv' := [(3, .long (L3d &&& r_6)), (5, .int L5d), (0, .ref xdy), (1, .int a0), (2, .int a1)]) hx hb dX5_topsIn_54 rfl hl (by decide) rfl (fun ls hl => ?_)
            refine lv_iinc (v := (L5d + 1)) (lv' := [(5, .int (L5d + 1)), (3, .long (L3d &&& r_6)), (0, .ref xdy), (1, .int a0), (2, .int a1)]) hx hb dX5_topsIn_55 hl (k := 1) rfl (rfl) (by decide) rfl (fun ls hl => ?_)
            refine lv_goto (tgt := 7) hx hb dX5_topsIn_58 (by decide) ?_
            exact ih (L3d &&& r_6) (L5d + 1) (gd_topsIn_s4 (y0 := L5d) c_3 h0_d) (by rw [xi_s' c_3]; omega) (hI_d.trans (by rw [fd_topsIn_d]; (try rw [if_neg c_3]); (try rw [if_neg c_4]); (try rw [if_pos c_5]); (try rw [← hq_r_6]); (try rw [xL_eq]); try rfl)) ls (lv_sub hl [0, 1, 2, 3, 4] rfl)
  exact hloop_1 12 (-1 : Int64) (0 : Int32) (gd_topsIn_s5 ) (by decide) ((by rw [fd_topsIn])) ls (lv_sub hl [0, 1, 2, 3, 4] rfl)

def fd_canHold_d (fRw : Nat → Nat → Int64) (fSh : Nat → Int32) (a0 : Int32) : Nat → (Int32) → Int32
  | 0, L2d => (0 : Int32)
  | n + 1, L2d => (if 313 ≤ L2d then (0 : Int32) else (xL ((fd_topsIn fRw fSh a0 L2d)) (fun r_4 => (if lg_cmp r_4 0 = 0 then fd_canHold_d fRw fSh a0 n (L2d + 1) else (1 : Int32)))))
def fd_canHold (fRw : Nat → Nat → Int64) (fSh : Nat → Int32) (a0 : Int32) : Int32 := fd_canHold_d fRw fSh a0 313 (0 : Int32)
theorem gd_canHold_s0 {y0 : Int32} (h0 : ¬ (313 ≤ y0)) (h1 : ¬ (y0 < 0)) : ¬ ((y0 + 1) < 0) := by lia
theorem gd_canHold_s1  : ¬ ((0 : Int32) < 0) := (by decide)
theorem dX5_canHold_0 : decode cX5_canHold 0 = .ok (.iconst 0, 1) := zk_3 (by decide +kernel)
theorem dX5_canHold_1 : decode cX5_canHold 1 = .ok (.istore_n 2, 1) := zk_61 (by decide +kernel)
theorem dX5_canHold_2 : decode cX5_canHold 2 = .ok (.iload_n 2, 1) := zk_28 (by decide +kernel)
theorem dX5_canHold_3 : decode cX5_canHold 3 = .ok (.sipush 313, 3) := zk_17 (by decide +kernel)
theorem dX5_canHold_6 : decode cX5_canHold 6 = .ok (.if_icmp .ge 22, 3) := zk_162 (by decide +kernel)
theorem dX5_canHold_28 : decode cX5_canHold 28 = .ok (.iconst 0, 1) := zk_3 (by decide +kernel)
theorem dX5_canHold_29 : decode cX5_canHold 29 = .ok (.ireturn, 1) := zk_172 (by decide +kernel)
theorem dX5_canHold_9 : decode cX5_canHold 9 = .ok (.aload_n 0, 1) := zk_42 (by decide +kernel)
theorem dX5_canHold_10 : decode cX5_canHold 10 = .ok (.iload_n 1, 1) := zk_27 (by decide +kernel)
theorem dX5_canHold_11 : decode cX5_canHold 11 = .ok (.iload_n 2, 1) := zk_28 (by decide +kernel)
theorem dX5_canHold_12 : decode cX5_canHold 12 = .ok (.invokevirtual 156, 3) := zk_182 (by decide +kernel)
theorem dX5_canHold_15 : decode cX5_canHold 15 = .ok (.lconst 0, 1) := zk_9 (by decide +kernel)
theorem dX5_canHold_16 : decode cX5_canHold 16 = .ok (.lcmp, 1) := zk_148 (by decide +kernel)
theorem dX5_canHold_17 : decode cX5_canHold 17 = .ok (.ifCond .eq 5, 3) := zk_153 (by decide +kernel)
theorem dX5_canHold_22 : decode cX5_canHold 22 = .ok (.iinc 2 1, 3) := zk_132 (by decide +kernel)
theorem dX5_canHold_25 : decode cX5_canHold 25 = .ok (.goto (-23), 3) := zk_167 (by decide +kernel)
theorem dX5_canHold_20 : decode cX5_canHold 20 = .ok (.iconst 1, 1) := zk_4 (by decide +kernel)
theorem dX5_canHold_21 : decode cX5_canHold 21 = .ok (.ireturn, 1) := zk_172 (by decide +kernel)
set_option maxHeartbeats 4000000 in
set_option maxRecDepth 100000 in
theorem gd_canHold (l : Launch) (dC : Nat → ClassId) (dI : Nat → Nat → Nat) (xdy : Nat) (drw : Nat) (dfr : Int32) (dsh : Nat) (dto : Nat) (dmo : Nat) (dwi : Nat) (cDr : ClassId) (Rw : Nat → Nat) (cRr : ClassId) (fRw : Nat → Nat → Int64) (cSh : ClassId) (fSh : Nat → Int32) (a0 : Int32) : Met l yX5_canHold (Cond.code yX5_canHold cX5_canHold 3 (some .boolean) :: wsL_law) ({ frames := 2, cells := 0, slots := 0, locals := 52 }) (va_Pc [.ref xdy, .int a0] (fun U => va_P (dC, dI) vwCl [(eO5a xdy drw dfr dsh dto dmo dwi), (eA4 drw cDr 12 (fun k => some (Rw k))), (eA1 (Rw 0) cRr 313 (fRw 0)), (eA1 (Rw 1) cRr 313 (fRw 1)), (eA1 (Rw 2) cRr 313 (fRw 2)), (eA1 (Rw 3) cRr 313 (fRw 3)), (eA1 (Rw 4) cRr 313 (fRw 4)), (eA1 (Rw 5) cRr 313 (fRw 5)), (eA1 (Rw 6) cRr 313 (fRw 6)), (eA1 (Rw 7) cRr 313 (fRw 7)), (eA1 (Rw 8) cRr 313 (fRw 8)), (eA1 (Rw 9) cRr 313 (fRw 9)), (eA1 (Rw 10) cRr 313 (fRw 10)), (eA1 (Rw 11) cRr 313 (fRw 11)), (eA0 dsh cSh 12 fSh)] U.heap ∧ va_K (dC, dI) vwCl [(cDr, .array .long), (cRr, .long), (cRr, .long), (cRr, .long), (cRr, .long), (cRr, .long), (cRr, .long), (cRr, .long), (cRr, .long), (cRr, .long), (cRr, .long), (cRr, .long), (cRr, .long), (cSh, .int)] U)) (vp_Si (fun r => r = fd_canHold fRw fSh a0)) 0 0 (fun _ => False) := by
  refine Met.ofW (cc := cX5_canHold) (maxL := 3) (ret := (some .boolean)) (by decide) rfl ?_
  intro p e s m args below meth c s₁ B hml hv
  obtain ⟨rfl, hP, hK⟩ := hv
  have hx := B.exec
  have hb := B.bytes
  have hr := B.returns
  have hts := atoms_spec (ws := Cond.code yX5_canHold cX5_canHold 3 (some .boolean) :: wsL_law) B.pre
  have htw : ∀ w ∈ wsL_law, w.before _ s = true := fun w h => hts w (List.mem_cons_of_mem _ h)
  have hown : s.vm.findClass RX5 = some m.cls := findClass_of_methodNamed B.named
  have hlocks := B.notSynchronized
  have hl := lv_entry ([.ref xdy, .int a0]) (n := 3) (Nat.le_of_ble_eq_true rfl)
  rw [lg_entry_eq]
  generalize (lg_sl ([.ref xdy, .int a0]) ++ List.replicate (3 - (lg_sl ([.ref xdy, .int a0])).length) Slot.unset).toArray = ls at hl ⊢
  have hl : lv_has ls 3 [(0, .ref xdy), (1, .int a0)] := hl
  refine lv_iconst (v := 0) hx hb dX5_canHold_0 (by decide) ?_
  refine lv_istore_n (lv' := [(2, .int 0), (0, .ref xdy), (1, .int a0)]) hx hb dX5_canHold_1 rfl hl (by decide) rfl (fun ls hl => ?_)
  have hloop_1 : ∀ (n : Nat) (L2d : Int32) (h0_d : ¬ L2d < 0) (hf_d : (313 : Int32).toInt ≤ L2d.toInt + (n : Int)) (hI_d : fd_canHold fRw fSh a0 = fd_canHold_d fRw fSh a0 n L2d) (ls : Array Slot) (hl : lv_has ls 3 [(2, .int L2d), (0, .ref xdy), (1, .int a0)]), W p l e (headSpec (Cond.code yX5_canHold cX5_canHold 3 (some .boolean) :: wsL_law) ({ frames := 2, cells := 0, slots := 0, locals := 52 })).room s m ([.ref xdy, .int a0] : List Value).toArray below meth c s.heap [] 0 0 (MQ below (vp_Si (fun r => r = fd_canHold fRw fSh a0)) ([.ref xdy, .int a0] : List Value).toArray s 0 0 (fun _ => False)) (F0 m 2 ls []) := by
    intro n
    induction n with
    | zero =>
      intro L2d h0_d hf_d hI_d ls hl
      refine lv_iload_n hx hb dX5_canHold_2 rfl (lv_at hl 0 rfl) ?_
      refine lv_sipush (v := 313) hx hb dX5_canHold_3 (by decide) ?_
      refine lv_icmp_ge (tgt := 28) hx hb dX5_canHold_6 (by decide) (fun c_2 => ?_) (fun c_2 => absurd c_2 (fun h => h (xi_z hf_d)))
      refine lv_iconst (v := 0) hx hb dX5_canHold_28 (by decide) ?_
      exact W.zret (v := 0) hx hb hr (by first | rfl | decide) (fun t ht hW => ⟨0, rfl, (Eq.symm (hI_d.trans (by rw [fd_canHold_d]; try rfl))), ht⟩) (fun _ h => by cases h) dX5_canHold_29
    | succ n ih =>
      intro L2d h0_d hf_d hI_d ls hl
      refine lv_iload_n hx hb dX5_canHold_2 rfl (lv_at hl 0 rfl) ?_
      refine lv_sipush (v := 313) hx hb dX5_canHold_3 (by decide) ?_
      refine lv_icmp_ge (tgt := 28) hx hb dX5_canHold_6 (by decide) (fun c_3 => ?_) (fun c_3 => ?_)
      · refine lv_iconst (v := 0) hx hb dX5_canHold_28 (by decide) ?_
        exact W.zret (v := 0) hx hb hr (by first | rfl | decide) (fun t ht hW => ⟨0, rfl, (Eq.symm (hI_d.trans (by rw [fd_canHold_d]; (try rw [if_pos c_3]); try rfl))), ht⟩) (fun _ h => by cases h) dX5_canHold_29
      · refine lv_aload_n hx hb dX5_canHold_9 rfl (lv_at hl 1 rfl) ?_
        refine lv_iload_n hx hb dX5_canHold_10 rfl (lv_at hl 2 rfl) ?_
        refine lv_iload_n hx hb dX5_canHold_11 rfl (lv_at hl 0 rfl) ?_
        have hPc := hP.sub (ws' := [(eO5a xdy drw dfr dsh dto dmo dwi), (eA4 drw cDr 12 (fun k => some (Rw k))), (eA1 (Rw 0) cRr 313 (fRw 0)), (eA1 (Rw 1) cRr 313 (fRw 1)), (eA1 (Rw 2) cRr 313 (fRw 2)), (eA1 (Rw 3) cRr 313 (fRw 3)), (eA1 (Rw 4) cRr 313 (fRw 4)), (eA1 (Rw 5) cRr 313 (fRw 5)), (eA1 (Rw 6) cRr 313 (fRw 6)), (eA1 (Rw 7) cRr 313 (fRw 7)), (eA1 (Rw 8) cRr 313 (fRw 8)), (eA1 (Rw 9) cRr 313 (fRw 9)), (eA1 (Rw 10) cRr 313 (fRw 10)), (eA1 (Rw 11) cRr 313 (fRw 11)), (eA0 dsh cSh 12 fSh)]) [0, 1, 2, 3, 4, 5, 6, 7, 8, 9, 10, 11, 12, 13, 14] rfl
        have hKc := hK.sub (tys' := [(cDr, .array .long), (cRr, .long), (cRr, .long), (cRr, .long), (cRr, .long), (cRr, .long), (cRr, .long), (cRr, .long), (cRr, .long), (cRr, .long), (cRr, .long), (cRr, .long), (cRr, .long), (cSh, .int)]) [0, 1, 1, 1, 1, 1, 1, 1, 1, 1, 1, 1, 1, 13] rfl
        refine vp_callSl (W.runV (As := [.int a0, .int L2d]) (rest := []) ⟨hx, hb, hml, hown, htw⟩ (gd_topsIn l dC dI xdy drw dfr dsh dto dmo dwi cDr Rw cRr fRw cSh fSh a0 L2d) (cwV 2 htw (xg_V (ck_57 _ (List.mem_of_getElem? (i := 16) rfl)) (ck_57 _ (List.mem_of_getElem? (i := 17) rfl)) (ck_57 _ (List.mem_of_getElem? (i := 18) rfl)) (ck_2 _ (List.mem_of_getElem? (i := 1) rfl)) (ck_57 _ (List.mem_of_getElem? (i := 19) rfl))) rfl rfl rfl (by exact ⟨rfl, hdc_10.1, hdc_10.2, hdd_25⟩) ⟨Nat.le_of_ble_eq_true rfl, Nat.le_of_ble_eq_true rfl⟩) ⟨fun a U g mk q => by obtain ⟨q0, qP, qK⟩ := q; exact ⟨q0, qP, va_K.moved (u := U) (U := U.calling g mk a) (Vm.Alike.refl U.vm) qK⟩, va_recv hKc hPc (ci := 5) (q0 := 0) rfl rfl, fun U hU hW => ⟨rfl, by rw [hU]; exact hPc, va_K.moved hW.alike hKc⟩⟩ rfl rfl hl.1 rfl (lv_room (Nat.le_of_ble_eq_true rfl)) dX5_canHold_12 ⟨Nat.le_of_ble_eq_true rfl, Nat.le_of_ble_eq_true rfl⟩) (fun r_4 hw => ?_)
        try dsimp only at hw
        have hq_r_4 : r_4 = (fd_topsIn fRw fSh a0 L2d) := hw
        refine lv_lconst (v := 0) hx hb dX5_canHold_15 (by decide) ?_
        refine W.lcmp hx hb dX5_canHold_16 ?_
        refine lv_if_eq (tgt := 22) hx hb dX5_canHold_17 (by decide) (fun c_5 => ?_) (fun c_5 => ?_)
        · refine lv_iinc (v := (L2d + 1)) (lv' := [(2, .int (L2d + 1)), (0, .ref xdy), (1, .int a0)]) hx hb dX5_canHold_22 hl (k := 0) rfl (rfl) (by decide) rfl (fun ls hl => ?_)
          refine lv_goto (tgt := 2) hx hb dX5_canHold_25 (by decide) ?_
          exact ih (L2d + 1) (gd_canHold_s0 (y0 := L2d) c_3 h0_d) (by rw [xi_s' c_3]; omega) (hI_d.trans (by rw [fd_canHold_d]; (try rw [if_neg c_3]); (try rw [← hq_r_4]); (try rw [xL_eq]); (try rw [if_pos c_5]); try rfl)) ls (lv_sub hl [0, 1, 2] rfl)
        · refine lv_iconst (v := 1) hx hb dX5_canHold_20 (by decide) ?_
          exact W.zret (v := 1) hx hb hr (by first | rfl | decide) (fun t ht hW => ⟨1, rfl, (Eq.symm (hI_d.trans (by rw [fd_canHold_d]; (try rw [if_neg c_3]); (try rw [← hq_r_4]); (try rw [xL_eq]); (try rw [if_neg c_5]); try rfl))), ht⟩) (fun _ h => by cases h) dX5_canHold_21
  exact hloop_1 313 (0 : Int32) (gd_canHold_s1 ) (by decide) ((by rw [fd_canHold])) ls (lv_sub hl [0, 1, 2] rfl)

def fd_treeOf_d (fTp : Nat → Int32) (a0 : Int32) (a1 : Int32) : Nat → (Int32) → (Int32) → Int32
  | 0, L3d, L4d => (if a1 ≤ L4d then L3d else L3d)
  | n + 1, L3d, L4d => (if a1 ≤ L4d then L3d else (if 12 ≤ L4d then L3d else (if fTp L4d.toNatClampNeg = a0 then fd_treeOf_d fTp a0 a1 n (L3d ||| (1 <<< (L4d &&& 31))) (L4d + 1) else fd_treeOf_d fTp a0 a1 n L3d (L4d + 1))))
def fd_treeOf (fTp : Nat → Int32) (a0 : Int32) (a1 : Int32) : Int32 := fd_treeOf_d fTp a0 a1 12 (0 : Int32) (0 : Int32)
theorem gd_treeOf_s0 {y0 : Int32} {y1 : Int32} (h0 : ¬ (y1 ≤ y0)) (h1 : ¬ (12 ≤ y0)) (h2 : ¬ (y0 < 0)) : ¬ (y0 < 0) ∧ ¬ (12 ≤ y0) := ⟨h2, h1⟩
theorem gd_treeOf_s1 {y0 : Int32} {y1 : Int32} (h0 : ¬ (y1 ≤ y0)) (h1 : ¬ (12 ≤ y0)) (h2 : ¬ (y0 < 0)) : ¬ ((y0 + 1) < 0) := by lia
theorem gd_treeOf_s2 {y0 : Int32} {y1 : Int32} (h0 : ¬ (y1 ≤ y0)) (h1 : ¬ (12 ≤ y0)) (h2 : ¬ (y0 < 0)) : ¬ ((y0 + 1) < 0) := by lia
theorem gd_treeOf_s3  : ¬ ((0 : Int32) < 0) := (by decide)
theorem dX5_treeOf_0 : decode cX5_treeOf 0 = .ok (.iconst 0, 1) := zk_3 (by decide +kernel)
theorem dX5_treeOf_1 : decode cX5_treeOf 1 = .ok (.istore_n 3, 1) := zk_62 (by decide +kernel)
theorem dX5_treeOf_2 : decode cX5_treeOf 2 = .ok (.iconst 0, 1) := zk_3 (by decide +kernel)
theorem dX5_treeOf_3 : decode cX5_treeOf 3 = .ok (.istore 4, 2) := zk_54 (by decide +kernel)
theorem dX5_treeOf_5 : decode cX5_treeOf 5 = .ok (.iload 4, 2) := zk_21 (by decide +kernel)
theorem dX5_treeOf_7 : decode cX5_treeOf 7 = .ok (.iload_n 2, 1) := zk_28 (by decide +kernel)
theorem dX5_treeOf_8 : decode cX5_treeOf 8 = .ok (.if_icmp .ge 34, 3) := zk_162 (by decide +kernel)
theorem dX5_treeOf_42 : decode cX5_treeOf 42 = .ok (.iload_n 3, 1) := zk_29 (by decide +kernel)
theorem dX5_treeOf_43 : decode cX5_treeOf 43 = .ok (.ireturn, 1) := zk_172 (by decide +kernel)
theorem dX5_treeOf_11 : decode cX5_treeOf 11 = .ok (.iload 4, 2) := zk_21 (by decide +kernel)
theorem dX5_treeOf_13 : decode cX5_treeOf 13 = .ok (.bipush 12, 2) := zk_16 (by decide +kernel)
theorem dX5_treeOf_15 : decode cX5_treeOf 15 = .ok (.if_icmp .ge 27, 3) := zk_162 (by decide +kernel)
theorem dX5_treeOf_18 : decode cX5_treeOf 18 = .ok (.aload_n 0, 1) := zk_42 (by decide +kernel)
theorem dX5_treeOf_19 : decode cX5_treeOf 19 = .ok (.getfield 20, 3) := zk_180 (by decide +kernel)
theorem dX5_treeOf_22 : decode cX5_treeOf 22 = .ok (.iload 4, 2) := zk_21 (by decide +kernel)
theorem dX5_treeOf_24 : decode cX5_treeOf 24 = .ok (.iaload, 1) := zk_46 (by decide +kernel)
theorem dX5_treeOf_25 : decode cX5_treeOf 25 = .ok (.iload_n 1, 1) := zk_27 (by decide +kernel)
theorem dX5_treeOf_26 : decode cX5_treeOf 26 = .ok (.if_icmp .ne 10, 3) := zk_160 (by decide +kernel)
theorem dX5_treeOf_36 : decode cX5_treeOf 36 = .ok (.iinc 4 1, 3) := zk_132 (by decide +kernel)
theorem dX5_treeOf_39 : decode cX5_treeOf 39 = .ok (.goto (-34), 3) := zk_167 (by decide +kernel)
theorem dX5_treeOf_29 : decode cX5_treeOf 29 = .ok (.iload_n 3, 1) := zk_29 (by decide +kernel)
theorem dX5_treeOf_30 : decode cX5_treeOf 30 = .ok (.iconst 1, 1) := zk_4 (by decide +kernel)
theorem dX5_treeOf_31 : decode cX5_treeOf 31 = .ok (.iload 4, 2) := zk_21 (by decide +kernel)
theorem dX5_treeOf_33 : decode cX5_treeOf 33 = .ok (.ishl, 1) := zk_120 (by decide +kernel)
theorem dX5_treeOf_34 : decode cX5_treeOf 34 = .ok (.ior, 1) := zk_128 (by decide +kernel)
theorem dX5_treeOf_35 : decode cX5_treeOf 35 = .ok (.istore_n 3, 1) := zk_62 (by decide +kernel)
set_option maxHeartbeats 4000000 in
set_option maxRecDepth 100000 in
theorem gd_treeOf (l : Launch) (dC : Nat → ClassId) (dI : Nat → Nat → Nat) (xdy : Nat) (drw : Nat) (dfr : Int32) (dsh : Nat) (dto : Nat) (dmo : Nat) (dwi : Nat) (cTp : ClassId) (fTp : Nat → Int32) (a0 : Int32) (a1 : Int32) : Met l yX5_treeOf (Cond.code yX5_treeOf cX5_treeOf 5 (some .int) :: wsL_law) ({ frames := 0, cells := 0, slots := 0, locals := 0 }) (va_Pc [.ref xdy, .int a0, .int a1] (fun U => va_P (dC, dI) vwCl [(eO5a xdy drw dfr dsh dto dmo dwi), (eA0 dto cTp 12 fTp)] U.heap ∧ va_K (dC, dI) vwCl [(cTp, .int)] U)) (vp_Si (fun r => r = fd_treeOf fTp a0 a1)) 0 0 (fun _ => False) := by
  refine Met.ofW (cc := cX5_treeOf) (maxL := 5) (ret := (some .int)) (by decide) rfl ?_
  intro p e s m args below meth c s₁ B hml hv
  obtain ⟨rfl, hP, hK⟩ := hv
  have hx := B.exec
  have hb := B.bytes
  have hr := B.returns
  have hts := atoms_spec (ws := Cond.code yX5_treeOf cX5_treeOf 5 (some .int) :: wsL_law) B.pre
  have htw : ∀ w ∈ wsL_law, w.before _ s = true := fun w h => hts w (List.mem_cons_of_mem _ h)
  have hown : s.vm.findClass RX5 = some m.cls := findClass_of_methodNamed B.named
  have hlocks := B.notSynchronized
  have hl := lv_entry ([.ref xdy, .int a0, .int a1]) (n := 5) (Nat.le_of_ble_eq_true rfl)
  rw [lg_entry_eq]
  generalize (lg_sl ([.ref xdy, .int a0, .int a1]) ++ List.replicate (5 - (lg_sl ([.ref xdy, .int a0, .int a1])).length) Slot.unset).toArray = ls at hl ⊢
  have hl : lv_has ls 5 [(0, .ref xdy), (1, .int a0), (2, .int a1)] := hl
  refine lv_iconst (v := 0) hx hb dX5_treeOf_0 (by decide) ?_
  refine lv_istore_n (lv' := [(3, .int 0), (0, .ref xdy), (1, .int a0), (2, .int a1)]) hx hb dX5_treeOf_1 rfl hl (by decide) rfl (fun ls hl => ?_)
  refine lv_iconst (v := 0) hx hb dX5_treeOf_2 (by decide) ?_
  refine lv_istore (lv' := [(4, .int 0), (3, .int 0), (0, .ref xdy), (1, .int a0), (2, .int a1)]) hx hb dX5_treeOf_3 hl (by decide) rfl (fun ls hl => ?_)
  have hloop_1 : ∀ (n : Nat) (L3d : Int32) (L4d : Int32) (h0_d : ¬ L4d < 0) (hf_d : (12 : Int32).toInt ≤ L4d.toInt + (n : Int)) (hI_d : fd_treeOf fTp a0 a1 = fd_treeOf_d fTp a0 a1 n L3d L4d) (ls : Array Slot) (hl : lv_has ls 5 [(4, .int L4d), (3, .int L3d), (0, .ref xdy), (1, .int a0), (2, .int a1)]), W p l e (headSpec (Cond.code yX5_treeOf cX5_treeOf 5 (some .int) :: wsL_law) ({ frames := 0, cells := 0, slots := 0, locals := 0 })).room s m ([.ref xdy, .int a0, .int a1] : List Value).toArray below meth c s.heap [] 0 0 (MQ below (vp_Si (fun r => r = fd_treeOf fTp a0 a1)) ([.ref xdy, .int a0, .int a1] : List Value).toArray s 0 0 (fun _ => False)) (F0 m 5 ls []) := by
    intro n
    induction n with
    | zero =>
      intro L3d L4d h0_d hf_d hI_d ls hl
      refine lv_iload hx hb dX5_treeOf_5 (lv_at hl 0 rfl) ?_
      refine lv_iload_n hx hb dX5_treeOf_7 rfl (lv_at hl 4 rfl) ?_
      refine lv_icmp_ge (tgt := 42) hx hb dX5_treeOf_8 (by decide) (fun c_2 => ?_) (fun c_2 => ?_)
      · refine lv_iload_n hx hb dX5_treeOf_42 rfl (lv_at hl 1 rfl) ?_
        exact W.iret (v := L3d) hx hb hr (fun t ht hW => ⟨L3d, rfl, (Eq.symm (hI_d.trans (by rw [fd_treeOf_d]; (try rw [if_pos c_2]); try rfl))), ht⟩) (fun _ h => by cases h) dX5_treeOf_43
      · refine lv_iload hx hb dX5_treeOf_11 (lv_at hl 0 rfl) ?_
        refine lv_bipush (v := 12) hx hb dX5_treeOf_13 (by decide) ?_
        refine lv_icmp_ge (tgt := 42) hx hb dX5_treeOf_15 (by decide) (fun c_3 => ?_) (fun c_3 => absurd c_3 (fun h => h (xi_z hf_d)))
        refine lv_iload_n hx hb dX5_treeOf_42 rfl (lv_at hl 1 rfl) ?_
        exact W.iret (v := L3d) hx hb hr (fun t ht hW => ⟨L3d, rfl, (Eq.symm (hI_d.trans (by rw [fd_treeOf_d]; (try rw [if_neg c_2]); try rfl))), ht⟩) (fun _ h => by cases h) dX5_treeOf_43
    | succ n ih =>
      intro L3d L4d h0_d hf_d hI_d ls hl
      refine lv_iload hx hb dX5_treeOf_5 (lv_at hl 0 rfl) ?_
      refine lv_iload_n hx hb dX5_treeOf_7 rfl (lv_at hl 4 rfl) ?_
      refine lv_icmp_ge (tgt := 42) hx hb dX5_treeOf_8 (by decide) (fun c_4 => ?_) (fun c_4 => ?_)
      · refine lv_iload_n hx hb dX5_treeOf_42 rfl (lv_at hl 1 rfl) ?_
        exact W.iret (v := L3d) hx hb hr (fun t ht hW => ⟨L3d, rfl, (Eq.symm (hI_d.trans (by rw [fd_treeOf_d]; (try rw [if_pos c_4]); try rfl))), ht⟩) (fun _ h => by cases h) dX5_treeOf_43
      · refine lv_iload hx hb dX5_treeOf_11 (lv_at hl 0 rfl) ?_
        refine lv_bipush (v := 12) hx hb dX5_treeOf_13 (by decide) ?_
        refine lv_icmp_ge (tgt := 42) hx hb dX5_treeOf_15 (by decide) (fun c_5 => ?_) (fun c_5 => ?_)
        · refine lv_iload_n hx hb dX5_treeOf_42 rfl (lv_at hl 1 rfl) ?_
          exact W.iret (v := L3d) hx hb hr (fun t ht hW => ⟨L3d, rfl, (Eq.symm (hI_d.trans (by rw [fd_treeOf_d]; (try rw [if_neg c_4]); (try rw [if_pos c_5]); try rfl))), ht⟩) (fun _ h => by cases h) dX5_treeOf_43
        · refine lv_aload_n hx hb dX5_treeOf_18 rfl (lv_at hl 2 rfl) ?_
          refine va_get (D := (dC, dI)) (ci := 5) (v := .ref dto) (C := RX5) (T := TX5) (N := 6) hx hb htw inlX5 hown hK hP 0 rfl rfl 3 (by decide) (htw _ (ck_8 _ (List.mem_of_getElem? (i := 8) rfl))) (fun _ h9 => h9) rfl dX5_treeOf_19 ?_
          refine lv_iload hx hb dX5_treeOf_22 (lv_at hl 0 rfl) ?_
          refine va_iald hx hb hK hP 1 0 rfl rfl (xg_inr (N := 12) rfl (gd_treeOf_s0 (y0 := L4d) (y1 := a1) c_4 c_5 h0_d).1 (gd_treeOf_s0 (y0 := L4d) (y1 := a1) c_4 c_5 h0_d).2) dX5_treeOf_24 ?_
          refine lv_iload_n hx hb dX5_treeOf_25 rfl (lv_at hl 3 rfl) ?_
          refine lv_icmp_ne (tgt := 36) hx hb dX5_treeOf_26 (by decide) (fun c_6 => ?_) (fun c_6 => ?_)
          · refine lv_iinc (v := (L4d + 1)) (lv' := [(4, .int (L4d + 1)), (3, .int L3d), (0, .ref xdy), (1, .int a0), (2, .int a1)]) hx hb dX5_treeOf_36 hl (k := 0) rfl (rfl) (by decide) rfl (fun ls hl => ?_)
            refine lv_goto (tgt := 5) hx hb dX5_treeOf_39 (by decide) ?_
            exact ih L3d (L4d + 1) (gd_treeOf_s1 (y0 := L4d) (y1 := a1) c_4 c_5 h0_d) (by rw [xi_s' c_5]; omega) (hI_d.trans (by rw [fd_treeOf_d]; (try rw [if_neg c_4]); (try rw [if_neg c_5]); (try rw [if_neg c_6]); try rfl)) ls (lv_sub hl [0, 1, 2, 3, 4] rfl)
          · refine lv_iload_n hx hb dX5_treeOf_29 rfl (lv_at hl 1 rfl) ?_
            refine lv_iconst (v := 1) hx hb dX5_treeOf_30 (by decide) ?_
            refine lv_iload hx hb dX5_treeOf_31 (lv_at hl 0 rfl) ?_
            refine lv_ishl hx hb dX5_treeOf_33 ?_
            refine lv_ior hx hb dX5_treeOf_34 ?_
            refine lv_istore_n (lv' := [(3, .int (L3d ||| (1 <<< (L4d &&& 31)))), (4, .int L4d), (0, .ref xdy), (1, .int a0), (2, .int a1)]) hx hb dX5_treeOf_35 rfl hl (by decide) rfl (fun ls hl => ?_)
            refine lv_iinc (v := (L4d + 1)) (lv' := [(4, .int (L4d + 1)), (3, .int (L3d ||| (1 <<< (L4d &&& 31)))), (0, .ref xdy), (1, .int a0), (2, .int a1)]) hx hb dX5_treeOf_36 hl (k := 1) rfl (rfl) (by decide) rfl (fun ls hl => ?_)
            refine lv_goto (tgt := 5) hx hb dX5_treeOf_39 (by decide) ?_
            exact ih (L3d ||| (1 <<< (L4d &&& 31))) (L4d + 1) (gd_treeOf_s2 (y0 := L4d) (y1 := a1) c_4 c_5 h0_d) (by rw [xi_s' c_5]; omega) (hI_d.trans (by rw [fd_treeOf_d]; (try rw [if_neg c_4]); (try rw [if_neg c_5]); (try rw [if_pos c_6]); try rfl)) ls (lv_sub hl [0, 1, 2, 3, 4] rfl)
  exact hloop_1 12 (0 : Int32) (0 : Int32) (gd_treeOf_s3 ) (by decide) ((by rw [fd_treeOf])) ls (lv_sub hl [0, 1, 2, 3, 4] rfl)

def fd_allHold_d (fRw : Nat → Nat → Int64) (fSh : Nat → Int32) (fTp : Nat → Int32) (a0 : Int32) : Nat → (Int32) → Int32
  | 0, L2d => (if a0 ≤ L2d then (1 : Int32) else (1 : Int32))
  | n + 1, L2d => (if a0 ≤ L2d then (1 : Int32) else (if 12 ≤ L2d then (1 : Int32) else (if fTp L2d.toNatClampNeg = L2d then (xL ((fd_treeOf fTp L2d a0)) (fun r_7 => (xL ((fd_canHold fRw fSh r_7)) (fun r_8 => (if r_8 = 0 then (0 : Int32) else fd_allHold_d fRw fSh fTp a0 n (L2d + 1)))))) else fd_allHold_d fRw fSh fTp a0 n (L2d + 1))))
def fd_allHold (fRw : Nat → Nat → Int64) (fSh : Nat → Int32) (fTp : Nat → Int32) (a0 : Int32) : Int32 := fd_allHold_d fRw fSh fTp a0 12 (0 : Int32)
theorem gd_allHold_s0 {y0 : Int32} {y1 : Int32} (h0 : ¬ (y1 ≤ y0)) (h1 : ¬ (12 ≤ y0)) (h2 : ¬ (y0 < 0)) : ¬ (y0 < 0) ∧ ¬ (12 ≤ y0) := ⟨h2, h1⟩
theorem gd_allHold_s1 {y0 : Int32} {y1 : Int32} {y2 : Int32} (h0 : ¬ (y1 ≤ y0)) (h1 : ¬ (12 ≤ y0)) (h2 : ¬ (y2 = y0)) (h3 : ¬ (y0 < 0)) : ¬ ((y0 + 1) < 0) := by lia
theorem gd_allHold_s2 {y0 : Int32} {y1 : Int32} {y2 : Int32} (h0 : ¬ (y1 ≤ y0)) (h1 : ¬ (12 ≤ y0)) (h2 : y2 = y0) (h3 : ¬ (y0 < 0)) : ¬ ((y0 + 1) < 0) := by lia
theorem gd_allHold_s3  : ¬ ((0 : Int32) < 0) := (by decide)
theorem dX5_allHold_0 : decode cX5_allHold 0 = .ok (.iconst 0, 1) := zk_3 (by decide +kernel)
theorem dX5_allHold_1 : decode cX5_allHold 1 = .ok (.istore_n 2, 1) := zk_61 (by decide +kernel)
theorem dX5_allHold_2 : decode cX5_allHold 2 = .ok (.iload_n 2, 1) := zk_28 (by decide +kernel)
theorem dX5_allHold_3 : decode cX5_allHold 3 = .ok (.iload_n 1, 1) := zk_27 (by decide +kernel)
theorem dX5_allHold_4 : decode cX5_allHold 4 = .ok (.if_icmp .ge 40, 3) := zk_162 (by decide +kernel)
theorem dX5_allHold_44 : decode cX5_allHold 44 = .ok (.iconst 1, 1) := zk_4 (by decide +kernel)
theorem dX5_allHold_45 : decode cX5_allHold 45 = .ok (.ireturn, 1) := zk_172 (by decide +kernel)
theorem dX5_allHold_7 : decode cX5_allHold 7 = .ok (.iload_n 2, 1) := zk_28 (by decide +kernel)
theorem dX5_allHold_8 : decode cX5_allHold 8 = .ok (.bipush 12, 2) := zk_16 (by decide +kernel)
theorem dX5_allHold_10 : decode cX5_allHold 10 = .ok (.if_icmp .ge 34, 3) := zk_162 (by decide +kernel)
theorem dX5_allHold_13 : decode cX5_allHold 13 = .ok (.aload_n 0, 1) := zk_42 (by decide +kernel)
theorem dX5_allHold_14 : decode cX5_allHold 14 = .ok (.getfield 20, 3) := zk_180 (by decide +kernel)
theorem dX5_allHold_17 : decode cX5_allHold 17 = .ok (.iload_n 2, 1) := zk_28 (by decide +kernel)
theorem dX5_allHold_18 : decode cX5_allHold 18 = .ok (.iaload, 1) := zk_46 (by decide +kernel)
theorem dX5_allHold_19 : decode cX5_allHold 19 = .ok (.iload_n 2, 1) := zk_28 (by decide +kernel)
theorem dX5_allHold_20 : decode cX5_allHold 20 = .ok (.if_icmp .ne 18, 3) := zk_160 (by decide +kernel)
theorem dX5_allHold_38 : decode cX5_allHold 38 = .ok (.iinc 2 1, 3) := zk_132 (by decide +kernel)
theorem dX5_allHold_41 : decode cX5_allHold 41 = .ok (.goto (-39), 3) := zk_167 (by decide +kernel)
theorem dX5_allHold_23 : decode cX5_allHold 23 = .ok (.aload_n 0, 1) := zk_42 (by decide +kernel)
theorem dX5_allHold_24 : decode cX5_allHold 24 = .ok (.aload_n 0, 1) := zk_42 (by decide +kernel)
theorem dX5_allHold_25 : decode cX5_allHold 25 = .ok (.iload_n 2, 1) := zk_28 (by decide +kernel)
theorem dX5_allHold_26 : decode cX5_allHold 26 = .ok (.iload_n 1, 1) := zk_27 (by decide +kernel)
theorem dX5_allHold_27 : decode cX5_allHold 27 = .ok (.invokevirtual 141, 3) := zk_182 (by decide +kernel)
theorem dX5_allHold_30 : decode cX5_allHold 30 = .ok (.invokevirtual 147, 3) := zk_182 (by decide +kernel)
theorem dX5_allHold_33 : decode cX5_allHold 33 = .ok (.ifCond .ne 5, 3) := zk_154 (by decide +kernel)
theorem dX5_allHold_36 : decode cX5_allHold 36 = .ok (.iconst 0, 1) := zk_3 (by decide +kernel)
theorem dX5_allHold_37 : decode cX5_allHold 37 = .ok (.ireturn, 1) := zk_172 (by decide +kernel)
set_option maxHeartbeats 4000000 in
set_option maxRecDepth 100000 in
theorem gd_allHold (l : Launch) (dC : Nat → ClassId) (dI : Nat → Nat → Nat) (xdy : Nat) (drw : Nat) (dfr : Int32) (dsh : Nat) (dto : Nat) (dmo : Nat) (dwi : Nat) (cDr : ClassId) (Rw : Nat → Nat) (cRr : ClassId) (fRw : Nat → Nat → Int64) (cSh : ClassId) (fSh : Nat → Int32) (cTp : ClassId) (fTp : Nat → Int32) (a0 : Int32) : Met l yX5_allHold (Cond.code yX5_allHold cX5_allHold 3 (some .boolean) :: wsL_law) ({ frames := 3, cells := 0, slots := 0, locals := 74 }) (va_Pc [.ref xdy, .int a0] (fun U => va_P (dC, dI) vwCl [(eO5a xdy drw dfr dsh dto dmo dwi), (eA4 drw cDr 12 (fun k => some (Rw k))), (eA1 (Rw 0) cRr 313 (fRw 0)), (eA1 (Rw 1) cRr 313 (fRw 1)), (eA1 (Rw 2) cRr 313 (fRw 2)), (eA1 (Rw 3) cRr 313 (fRw 3)), (eA1 (Rw 4) cRr 313 (fRw 4)), (eA1 (Rw 5) cRr 313 (fRw 5)), (eA1 (Rw 6) cRr 313 (fRw 6)), (eA1 (Rw 7) cRr 313 (fRw 7)), (eA1 (Rw 8) cRr 313 (fRw 8)), (eA1 (Rw 9) cRr 313 (fRw 9)), (eA1 (Rw 10) cRr 313 (fRw 10)), (eA1 (Rw 11) cRr 313 (fRw 11)), (eA0 dsh cSh 12 fSh), (eA0 dto cTp 12 fTp)] U.heap ∧ va_K (dC, dI) vwCl [(cDr, .array .long), (cRr, .long), (cRr, .long), (cRr, .long), (cRr, .long), (cRr, .long), (cRr, .long), (cRr, .long), (cRr, .long), (cRr, .long), (cRr, .long), (cRr, .long), (cRr, .long), (cSh, .int), (cTp, .int)] U)) (vp_Si (fun r => r = fd_allHold fRw fSh fTp a0)) 0 0 (fun _ => False) := by
  refine Met.ofW (cc := cX5_allHold) (maxL := 3) (ret := (some .boolean)) (by decide) rfl ?_
  intro p e s m args below meth c s₁ B hml hv
  obtain ⟨rfl, hP, hK⟩ := hv
  have hx := B.exec
  have hb := B.bytes
  have hr := B.returns
  have hts := atoms_spec (ws := Cond.code yX5_allHold cX5_allHold 3 (some .boolean) :: wsL_law) B.pre
  have htw : ∀ w ∈ wsL_law, w.before _ s = true := fun w h => hts w (List.mem_cons_of_mem _ h)
  have hown : s.vm.findClass RX5 = some m.cls := findClass_of_methodNamed B.named
  have hlocks := B.notSynchronized
  have hl := lv_entry ([.ref xdy, .int a0]) (n := 3) (Nat.le_of_ble_eq_true rfl)
  rw [lg_entry_eq]
  generalize (lg_sl ([.ref xdy, .int a0]) ++ List.replicate (3 - (lg_sl ([.ref xdy, .int a0])).length) Slot.unset).toArray = ls at hl ⊢
  have hl : lv_has ls 3 [(0, .ref xdy), (1, .int a0)] := hl
  refine lv_iconst (v := 0) hx hb dX5_allHold_0 (by decide) ?_
  refine lv_istore_n (lv' := [(2, .int 0), (0, .ref xdy), (1, .int a0)]) hx hb dX5_allHold_1 rfl hl (by decide) rfl (fun ls hl => ?_)
  have hloop_1 : ∀ (n : Nat) (L2d : Int32) (h0_d : ¬ L2d < 0) (hf_d : (12 : Int32).toInt ≤ L2d.toInt + (n : Int)) (hI_d : fd_allHold fRw fSh fTp a0 = fd_allHold_d fRw fSh fTp a0 n L2d) (ls : Array Slot) (hl : lv_has ls 3 [(2, .int L2d), (0, .ref xdy), (1, .int a0)]), W p l e (headSpec (Cond.code yX5_allHold cX5_allHold 3 (some .boolean) :: wsL_law) ({ frames := 3, cells := 0, slots := 0, locals := 74 })).room s m ([.ref xdy, .int a0] : List Value).toArray below meth c s.heap [] 0 0 (MQ below (vp_Si (fun r => r = fd_allHold fRw fSh fTp a0)) ([.ref xdy, .int a0] : List Value).toArray s 0 0 (fun _ => False)) (F0 m 2 ls []) := by
    intro n
    induction n with
    | zero =>
      intro L2d h0_d hf_d hI_d ls hl
      refine lv_iload_n hx hb dX5_allHold_2 rfl (lv_at hl 0 rfl) ?_
      refine lv_iload_n hx hb dX5_allHold_3 rfl (lv_at hl 2 rfl) ?_
      refine lv_icmp_ge (tgt := 44) hx hb dX5_allHold_4 (by decide) (fun c_2 => ?_) (fun c_2 => ?_)
      · refine lv_iconst (v := 1) hx hb dX5_allHold_44 (by decide) ?_
        exact W.zret (v := 1) hx hb hr (by first | rfl | decide) (fun t ht hW => ⟨1, rfl, (Eq.symm (hI_d.trans (by rw [fd_allHold_d]; (try rw [if_pos c_2]); try rfl))), ht⟩) (fun _ h => by cases h) dX5_allHold_45
      · refine lv_iload_n hx hb dX5_allHold_7 rfl (lv_at hl 0 rfl) ?_
        refine lv_bipush (v := 12) hx hb dX5_allHold_8 (by decide) ?_
        refine lv_icmp_ge (tgt := 44) hx hb dX5_allHold_10 (by decide) (fun c_3 => ?_) (fun c_3 => absurd c_3 (fun h => h (xi_z hf_d)))
        refine lv_iconst (v := 1) hx hb dX5_allHold_44 (by decide) ?_
        exact W.zret (v := 1) hx hb hr (by first | rfl | decide) (fun t ht hW => ⟨1, rfl, (Eq.symm (hI_d.trans (by rw [fd_allHold_d]; (try rw [if_neg c_2]); try rfl))), ht⟩) (fun _ h => by cases h) dX5_allHold_45
    | succ n ih =>
      intro L2d h0_d hf_d hI_d ls hl
      refine lv_iload_n hx hb dX5_allHold_2 rfl (lv_at hl 0 rfl) ?_
      refine lv_iload_n hx hb dX5_allHold_3 rfl (lv_at hl 2 rfl) ?_
      refine lv_icmp_ge (tgt := 44) hx hb dX5_allHold_4 (by decide) (fun c_4 => ?_) (fun c_4 => ?_)
      · refine lv_iconst (v := 1) hx hb dX5_allHold_44 (by decide) ?_
        exact W.zret (v := 1) hx hb hr (by first | rfl | decide) (fun t ht hW => ⟨1, rfl, (Eq.symm (hI_d.trans (by rw [fd_allHold_d]; (try rw [if_pos c_4]); try rfl))), ht⟩) (fun _ h => by cases h) dX5_allHold_45
      · refine lv_iload_n hx hb dX5_allHold_7 rfl (lv_at hl 0 rfl) ?_
        refine lv_bipush (v := 12) hx hb dX5_allHold_8 (by decide) ?_
        refine lv_icmp_ge (tgt := 44) hx hb dX5_allHold_10 (by decide) (fun c_5 => ?_) (fun c_5 => ?_)
        · refine lv_iconst (v := 1) hx hb dX5_allHold_44 (by decide) ?_
          exact W.zret (v := 1) hx hb hr (by first | rfl | decide) (fun t ht hW => ⟨1, rfl, (Eq.symm (hI_d.trans (by rw [fd_allHold_d]; (try rw [if_neg c_4]); (try rw [if_pos c_5]); try rfl))), ht⟩) (fun _ h => by cases h) dX5_allHold_45
        · refine lv_aload_n hx hb dX5_allHold_13 rfl (lv_at hl 1 rfl) ?_
          refine va_get (D := (dC, dI)) (ci := 5) (v := .ref dto) (C := RX5) (T := TX5) (N := 6) hx hb htw inlX5 hown hK hP 0 rfl rfl 3 (by decide) (htw _ (ck_8 _ (List.mem_of_getElem? (i := 8) rfl))) (fun _ h9 => h9) rfl dX5_allHold_14 ?_
          refine lv_iload_n hx hb dX5_allHold_17 rfl (lv_at hl 0 rfl) ?_
          refine va_iald hx hb hK hP 15 14 rfl rfl (xg_inr (N := 12) rfl (gd_allHold_s0 (y0 := L2d) (y1 := a0) c_4 c_5 h0_d).1 (gd_allHold_s0 (y0 := L2d) (y1 := a0) c_4 c_5 h0_d).2) dX5_allHold_18 ?_
          refine lv_iload_n hx hb dX5_allHold_19 rfl (lv_at hl 0 rfl) ?_
          refine lv_icmp_ne (tgt := 38) hx hb dX5_allHold_20 (by decide) (fun c_6 => ?_) (fun c_6 => ?_)
          · refine lv_iinc (v := (L2d + 1)) (lv' := [(2, .int (L2d + 1)), (0, .ref xdy), (1, .int a0)]) hx hb dX5_allHold_38 hl (k := 0) rfl (rfl) (by decide) rfl (fun ls hl => ?_)
            refine lv_goto (tgt := 2) hx hb dX5_allHold_41 (by decide) ?_
            exact ih (L2d + 1) (gd_allHold_s1 (y0 := L2d) (y1 := a0) (y2 := fTp L2d.toNatClampNeg) c_4 c_5 c_6 h0_d) (by rw [xi_s' c_5]; omega) (hI_d.trans (by rw [fd_allHold_d]; (try rw [if_neg c_4]); (try rw [if_neg c_5]); (try rw [if_neg c_6]); try rfl)) ls (lv_sub hl [0, 1, 2] rfl)
          · refine lv_aload_n hx hb dX5_allHold_23 rfl (lv_at hl 1 rfl) ?_
            refine lv_aload_n hx hb dX5_allHold_24 rfl (lv_at hl 1 rfl) ?_
            refine lv_iload_n hx hb dX5_allHold_25 rfl (lv_at hl 0 rfl) ?_
            refine lv_iload_n hx hb dX5_allHold_26 rfl (lv_at hl 2 rfl) ?_
            have hPc := hP.sub (ws' := [(eO5a xdy drw dfr dsh dto dmo dwi), (eA0 dto cTp 12 fTp)]) [0, 15] rfl
            have hKc := hK.sub (tys' := [(cTp, .int)]) [14] rfl
            refine vp_callSi (W.runV (As := [.int L2d, .int a0]) (rest := [.ref xdy]) ⟨hx, hb, hml, hown, htw⟩ (gd_treeOf l dC dI xdy drw dfr dsh dto dmo dwi cTp fTp L2d a0) (cwV 2 htw (xg_V (ck_60 _ (List.mem_of_getElem? (i := 7) rfl)) (ck_60 _ (List.mem_of_getElem? (i := 8) rfl)) (ck_60 _ (List.mem_of_getElem? (i := 9) rfl)) (ck_2 _ (List.mem_of_getElem? (i := 1) rfl)) (ck_60 _ (List.mem_of_getElem? (i := 10) rfl))) rfl rfl rfl (by exact ⟨rfl, hdc_10.1, hdc_10.2, hdd_7⟩) ⟨Nat.le_of_ble_eq_true rfl, Nat.le_of_ble_eq_true rfl⟩) ⟨fun a U g mk q => by obtain ⟨q0, qP, qK⟩ := q; exact ⟨q0, qP, va_K.moved (u := U) (U := U.calling g mk a) (Vm.Alike.refl U.vm) qK⟩, va_recv hKc hPc (ci := 5) (q0 := 0) rfl rfl, fun U hU hW => ⟨rfl, by rw [hU]; exact hPc, va_K.moved hW.alike hKc⟩⟩ rfl rfl hl.1 rfl (lv_room (Nat.le_of_ble_eq_true rfl)) dX5_allHold_27 ⟨Nat.le_of_ble_eq_true rfl, Nat.le_of_ble_eq_true rfl⟩) (fun r_7 hw => ?_)
            try dsimp only at hw
            have hq_r_7 : r_7 = (fd_treeOf fTp L2d a0) := hw
            have hPc := hP.sub (ws' := [(eO5a xdy drw dfr dsh dto dmo dwi), (eA4 drw cDr 12 (fun k => some (Rw k))), (eA1 (Rw 0) cRr 313 (fRw 0)), (eA1 (Rw 1) cRr 313 (fRw 1)), (eA1 (Rw 2) cRr 313 (fRw 2)), (eA1 (Rw 3) cRr 313 (fRw 3)), (eA1 (Rw 4) cRr 313 (fRw 4)), (eA1 (Rw 5) cRr 313 (fRw 5)), (eA1 (Rw 6) cRr 313 (fRw 6)), (eA1 (Rw 7) cRr 313 (fRw 7)), (eA1 (Rw 8) cRr 313 (fRw 8)), (eA1 (Rw 9) cRr 313 (fRw 9)), (eA1 (Rw 10) cRr 313 (fRw 10)), (eA1 (Rw 11) cRr 313 (fRw 11)), (eA0 dsh cSh 12 fSh)]) [0, 1, 2, 3, 4, 5, 6, 7, 8, 9, 10, 11, 12, 13, 14] rfl
            have hKc := hK.sub (tys' := [(cDr, .array .long), (cRr, .long), (cRr, .long), (cRr, .long), (cRr, .long), (cRr, .long), (cRr, .long), (cRr, .long), (cRr, .long), (cRr, .long), (cRr, .long), (cRr, .long), (cRr, .long), (cSh, .int)]) [0, 1, 1, 1, 1, 1, 1, 1, 1, 1, 1, 1, 1, 13] rfl
            refine vp_callSi (W.runV (As := [.int r_7]) (rest := []) ⟨hx, hb, hml, hown, htw⟩ (gd_canHold l dC dI xdy drw dfr dsh dto dmo dwi cDr Rw cRr fRw cSh fSh r_7) (cwV 1 htw (xg_V (ck_60 _ (List.mem_of_getElem? (i := 11) rfl)) (ck_60 _ (List.mem_of_getElem? (i := 12) rfl)) (ck_60 _ (List.mem_of_getElem? (i := 13) rfl)) (ck_2 _ (List.mem_of_getElem? (i := 1) rfl)) (ck_60 _ (List.mem_of_getElem? (i := 14) rfl))) rfl rfl rfl (by exact ⟨rfl, hdc_10.1, hdc_10.2, hdd_26⟩) ⟨Nat.le_of_ble_eq_true rfl, Nat.le_of_ble_eq_true rfl⟩) ⟨fun a U g mk q => by obtain ⟨q0, qP, qK⟩ := q; exact ⟨q0, qP, va_K.moved (u := U) (U := U.calling g mk a) (Vm.Alike.refl U.vm) qK⟩, va_recv hKc hPc (ci := 5) (q0 := 0) rfl rfl, fun U hU hW => ⟨rfl, by rw [hU]; exact hPc, va_K.moved hW.alike hKc⟩⟩ rfl rfl hl.1 rfl (lv_room (Nat.le_of_ble_eq_true rfl)) dX5_allHold_30 ⟨Nat.le_of_ble_eq_true rfl, Nat.le_of_ble_eq_true rfl⟩) (fun r_8 hw => ?_)
            try dsimp only at hw
            have hq_r_8 : r_8 = (fd_canHold fRw fSh r_7) := hw
            refine lv_if_ne (tgt := 38) hx hb dX5_allHold_33 (by decide) (fun c_9 => ?_) (fun c_9 => ?_)
            · refine lv_iinc (v := (L2d + 1)) (lv' := [(2, .int (L2d + 1)), (0, .ref xdy), (1, .int a0)]) hx hb dX5_allHold_38 hl (k := 0) rfl (rfl) (by decide) rfl (fun ls hl => ?_)
              refine lv_goto (tgt := 2) hx hb dX5_allHold_41 (by decide) ?_
              exact ih (L2d + 1) (gd_allHold_s2 (y0 := L2d) (y1 := a0) (y2 := fTp L2d.toNatClampNeg) c_4 c_5 c_6 h0_d) (by rw [xi_s' c_5]; omega) (hI_d.trans (by rw [fd_allHold_d]; (try rw [if_neg c_4]); (try rw [if_neg c_5]); (try rw [if_pos c_6]); (try rw [← hq_r_7]); (try rw [xL_eq]); (try rw [← hq_r_8]); (try rw [xL_eq]); (try rw [if_neg c_9]); try rfl)) ls (lv_sub hl [0, 1, 2] rfl)
            · refine lv_iconst (v := 0) hx hb dX5_allHold_36 (by decide) ?_
              exact W.zret (v := 0) hx hb hr (by first | rfl | decide) (fun t ht hW => ⟨0, rfl, (Eq.symm (hI_d.trans (by rw [fd_allHold_d]; (try rw [if_neg c_4]); (try rw [if_neg c_5]); (try rw [if_pos c_6]); (try rw [← hq_r_7]); (try rw [xL_eq]); (try rw [← hq_r_8]); (try rw [xL_eq]); (try rw [if_pos c_9]); try rfl))), ht⟩) (fun _ h => by cases h) dX5_allHold_37
  exact hloop_1 12 (0 : Int32) (gd_allHold_s3 ) (by decide) ((by rw [fd_allHold])) ls (lv_sub hl [0, 1, 2] rfl)

def fd_layOut_d (ns : Int32) (fNs : Nat → Int32) (fNf : Nat → Int32) (fNz : Nat → Int32) (a0 : Int32) : Nat → (Int32) → (Int32) → (Nat → Int32) → (Nat → Int32) → Int32 × (Nat → Int32) × (Nat → Int32)
  | 0, L3d, L4d, fSh_d, fTp_d => (if ns ≤ L4d then (L3d, fSh_d, fTp_d) else (L3d, fSh_d, fTp_d))
  | n + 1, L3d, L4d, fSh_d, fTp_d => (if ns ≤ L4d then (L3d, fSh_d, fTp_d) else (if 12 ≤ L4d then (L3d, fSh_d, fTp_d) else (if ((a0 >>> (L4d &&& 31)) &&& 1) = (0 : Int32) then fd_layOut_d ns fNs fNf fNz a0 n L3d (L4d + 1) fSh_d fTp_d else (xL (fn_askedOf fNs fNf L4d (7 : Int32)) (fun r_7 => (if r_7 < 0 then fd_layOut_d ns fNs fNf fNz a0 n (L3d + 1) (L4d + 1) (upd fSh_d L4d.toNatClampNeg 0) (upd fTp_d L4d.toNatClampNeg L4d) else (if L4d ≤ r_7 then fd_layOut_d ns fNs fNf fNz a0 n (L3d + 1) (L4d + 1) (upd fSh_d L4d.toNatClampNeg 0) (upd fTp_d L4d.toNatClampNeg L4d) else (if ((a0 >>> (r_7 &&& 31)) &&& 1) = (1 : Int32) then (xL (fn_secondOf fNz L4d (7 : Int32)) (fun r_18 => fd_layOut_d ns fNs fNf fNz a0 n L3d (L4d + 1) (upd fSh_d L4d.toNatClampNeg ((fSh_d r_7.toNatClampNeg) + r_18)) (upd fTp_d L4d.toNatClampNeg (fTp_d r_7.toNatClampNeg)))) else fd_layOut_d ns fNs fNf fNz a0 n (L3d + 1) (L4d + 1) (upd fSh_d L4d.toNatClampNeg 0) (upd fTp_d L4d.toNatClampNeg L4d)))))))))
def fd_layOut (fSh : Nat → Int32) (fTp : Nat → Int32) (ns : Int32) (fNs : Nat → Int32) (fNf : Nat → Int32) (fNz : Nat → Int32) (a0 : Int32) : Int32 × (Nat → Int32) × (Nat → Int32) := fd_layOut_d ns fNs fNf fNz a0 12 (0 : Int32) (0 : Int32) fSh fTp
theorem gd_layOut_s0 {y0 : Int32} {y1 : Int32} (h0 : ¬ (y1 ≤ y0)) (h1 : ¬ (12 ≤ y0)) (h2 : ¬ (y0 < 0)) : ¬ (y0 < 0) ∧ ¬ (12 ≤ y0) := ⟨h2, h1⟩
theorem gd_layOut_s1 {y0 : Int32} {y1 : Int32} (h0 : ¬ (y1 ≤ y0)) (h1 : ¬ (12 ≤ y0)) (h2 : ¬ (y0 < 0)) : ¬ (y0 < 0) ∧ ¬ (12 ≤ y0) := ⟨h2, h1⟩
theorem gd_layOut_s2 {y0 : Int32} {y1 : Int32} (h0 : ¬ (y1 ≤ y0)) (h1 : ¬ (12 ≤ y0)) (h2 : ¬ (y0 < 0)) : ¬ ((y0 + 1) < 0) := by lia
theorem gd_layOut_s3 {y0 : Int32} {y1 : Int32} {y2 : Int32} (h0 : ¬ (y1 ≤ y0)) (h1 : ¬ (12 ≤ y0)) (h2 : ¬ (y2 < 0)) (h3 : y0 ≤ y2) (h4 : ¬ (y0 < 0)) : ¬ (y0 < 0) ∧ ¬ (12 ≤ y0) := ⟨h4, h1⟩
theorem gd_layOut_s4 {y0 : Int32} {y1 : Int32} {y2 : Int32} (h0 : ¬ (y1 ≤ y0)) (h1 : ¬ (12 ≤ y0)) (h2 : ¬ (y2 < 0)) (h3 : y0 ≤ y2) (h4 : ¬ (y0 < 0)) : ¬ (y0 < 0) ∧ ¬ (12 ≤ y0) := gd_layOut_s3 h0 h1 h2 h3 h4
theorem gd_layOut_s5 {y0 : Int32} {y1 : Int32} {y2 : Int32} (h0 : ¬ (y1 ≤ y0)) (h1 : ¬ (12 ≤ y0)) (h2 : ¬ (y2 < 0)) (h3 : y0 ≤ y2) (h4 : ¬ (y0 < 0)) : ¬ ((y0 + 1) < 0) := by lia
theorem gd_layOut_s6 {y0 : Int32} {y1 : Int32} {y2 : Int32} (h0 : ¬ (y1 ≤ y0)) (h1 : ¬ (12 ≤ y0)) (h2 : ¬ (y2 < 0)) (h3 : ¬ (y0 ≤ y2)) (h4 : ¬ (y0 < 0)) : ¬ (y0 < 0) ∧ ¬ (12 ≤ y0) := ⟨h4, h1⟩
theorem gd_layOut_s7 {y0 : Int32} {y1 : Int32} {y2 : Int32} (h0 : ¬ (y1 ≤ y0)) (h1 : ¬ (12 ≤ y0)) (h2 : ¬ (y2 < 0)) (h3 : ¬ (y0 ≤ y2)) (h4 : ¬ (y0 < 0)) : ¬ (y0 < 0) ∧ ¬ (12 ≤ y0) := gd_layOut_s6 h0 h1 h2 h3 h4
theorem gd_layOut_s8 {y0 : Int32} {y1 : Int32} {y2 : Int32} (h0 : ¬ (y1 ≤ y0)) (h1 : ¬ (12 ≤ y0)) (h2 : ¬ (y2 < 0)) (h3 : ¬ (y0 ≤ y2)) (h4 : ¬ (y0 < 0)) : ¬ ((y0 + 1) < 0) := by lia
theorem gd_layOut_s9 {y0 : Int32} {y1 : Int32} {y2 : Int32} (h0 : ¬ (y1 ≤ y2)) (h1 : ¬ (12 ≤ y2)) (h2 : ¬ (y0 < 0)) (h3 : ¬ (y2 ≤ y0)) (h4 : ¬ (y2 < 0)) : ¬ (y0 < 0) ∧ ¬ (12 ≤ y0) := by lia
theorem gd_layOut_s10 {y0 : Int32} {y1 : Int32} {y2 : Int32} (h0 : ¬ (y1 ≤ y0)) (h1 : ¬ (12 ≤ y0)) (h2 : ¬ (y2 < 0)) (h3 : ¬ (y0 ≤ y2)) (h4 : ¬ (y0 < 0)) : ¬ (y0 < 0) ∧ ¬ (12 ≤ y0) := gd_layOut_s6 h0 h1 h2 h3 h4
theorem gd_layOut_s11 {y0 : Int32} {y1 : Int32} {y2 : Int32} (h0 : ¬ (y1 ≤ y2)) (h1 : ¬ (12 ≤ y2)) (h2 : ¬ (y0 < 0)) (h3 : ¬ (y2 ≤ y0)) (h4 : ¬ (y2 < 0)) : ¬ (y0 < 0) ∧ ¬ (12 ≤ y0) := gd_layOut_s9 h0 h1 h2 h3 h4
theorem gd_layOut_s12 {y0 : Int32} {y1 : Int32} {y2 : Int32} (h0 : ¬ (y1 ≤ y0)) (h1 : ¬ (12 ≤ y0)) (h2 : ¬ (y2 < 0)) (h3 : ¬ (y0 ≤ y2)) (h4 : ¬ (y0 < 0)) : ¬ (y0 < 0) ∧ ¬ (12 ≤ y0) := gd_layOut_s6 h0 h1 h2 h3 h4
theorem gd_layOut_s13 {y0 : Int32} {y1 : Int32} {y2 : Int32} (h0 : ¬ (y1 ≤ y0)) (h1 : ¬ (12 ≤ y0)) (h2 : ¬ (y2 < 0)) (h3 : ¬ (y0 ≤ y2)) (h4 : ¬ (y0 < 0)) : ¬ ((y0 + 1) < 0) := gd_layOut_s8 h0 h1 h2 h3 h4
theorem gd_layOut_s14 {y0 : Int32} {y1 : Int32} (h0 : ¬ (y1 ≤ y0)) (h1 : ¬ (12 ≤ y0)) (h2 : ¬ (y0 < 0)) : ¬ ((y0 + 1) < 0) := by lia
theorem gd_layOut_s15  : ¬ ((0 : Int32) < 0) := (by decide)
theorem dX5_layOut_0 : decode cX5_layOut 0 = .ok (.iconst 0, 1) := zk_3 (by decide +kernel)
theorem dX5_layOut_1 : decode cX5_layOut 1 = .ok (.istore_n 3, 1) := zk_62 (by decide +kernel)
theorem dX5_layOut_2 : decode cX5_layOut 2 = .ok (.iconst 0, 1) := zk_3 (by decide +kernel)
theorem dX5_layOut_3 : decode cX5_layOut 3 = .ok (.istore 4, 2) := zk_54 (by decide +kernel)
theorem dX5_layOut_5 : decode cX5_layOut 5 = .ok (.iload 4, 2) := zk_21 (by decide +kernel)
theorem dX5_layOut_7 : decode cX5_layOut 7 = .ok (.aload_n 1, 1) := zk_43 (by decide +kernel)
theorem dX5_layOut_8 : decode cX5_layOut 8 = .ok (.getfield 56, 3) := zk_180 (by decide +kernel)
theorem dX5_layOut_11 : decode cX5_layOut 11 = .ok (.if_icmp .ge 120, 3) := zk_162 (by decide +kernel)
theorem dX5_layOut_131 : decode cX5_layOut 131 = .ok (.iload_n 3, 1) := zk_29 (by decide +kernel)
theorem dX5_layOut_132 : decode cX5_layOut 132 = .ok (.ireturn, 1) := zk_172 (by decide +kernel)
theorem dX5_layOut_14 : decode cX5_layOut 14 = .ok (.iload 4, 2) := zk_21 (by decide +kernel)
theorem dX5_layOut_16 : decode cX5_layOut 16 = .ok (.bipush 12, 2) := zk_16 (by decide +kernel)
theorem dX5_layOut_18 : decode cX5_layOut 18 = .ok (.if_icmp .ge 113, 3) := zk_162 (by decide +kernel)
theorem dX5_layOut_21 : decode cX5_layOut 21 = .ok (.iload_n 2, 1) := zk_28 (by decide +kernel)
theorem dX5_layOut_22 : decode cX5_layOut 22 = .ok (.iload 4, 2) := zk_21 (by decide +kernel)
theorem dX5_layOut_24 : decode cX5_layOut 24 = .ok (.ishr, 1) := zk_122 (by decide +kernel)
theorem dX5_layOut_25 : decode cX5_layOut 25 = .ok (.iconst 1, 1) := zk_4 (by decide +kernel)
theorem dX5_layOut_26 : decode cX5_layOut 26 = .ok (.iand, 1) := zk_126 (by decide +kernel)
theorem dX5_layOut_27 : decode cX5_layOut 27 = .ok (.ifCond .ne 6, 3) := zk_154 (by decide +kernel)
theorem dX5_layOut_33 : decode cX5_layOut 33 = .ok (.aload_n 1, 1) := zk_43 (by decide +kernel)
theorem dX5_layOut_34 : decode cX5_layOut 34 = .ok (.iload 4, 2) := zk_21 (by decide +kernel)
theorem dX5_layOut_36 : decode cX5_layOut 36 = .ok (.bipush 7, 2) := zk_16 (by decide +kernel)
theorem dX5_layOut_38 : decode cX5_layOut 38 = .ok (.invokevirtual 109, 3) := zk_182 (by decide +kernel)
theorem dX5_layOut_41 : decode cX5_layOut 41 = .ok (.istore 5, 2) := zk_54 (by decide +kernel)
theorem dX5_layOut_43 : decode cX5_layOut 43 = .ok (.iload 5, 2) := zk_21 (by decide +kernel)
theorem dX5_layOut_45 : decode cX5_layOut 45 = .ok (.ifCond .lt 60, 3) := zk_155 (by decide +kernel)
theorem dX5_layOut_105 : decode cX5_layOut 105 = .ok (.aload_n 0, 1) := zk_42 (by decide +kernel)
theorem dX5_layOut_106 : decode cX5_layOut 106 = .ok (.getfield 20, 3) := zk_180 (by decide +kernel)
theorem dX5_layOut_109 : decode cX5_layOut 109 = .ok (.iload 4, 2) := zk_21 (by decide +kernel)
theorem dX5_layOut_111 : decode cX5_layOut 111 = .ok (.iload 4, 2) := zk_21 (by decide +kernel)
theorem dX5_layOut_113 : decode cX5_layOut 113 = .ok (.iastore, 1) := zk_79 (by decide +kernel)
theorem dX5_layOut_114 : decode cX5_layOut 114 = .ok (.aload_n 0, 1) := zk_42 (by decide +kernel)
theorem dX5_layOut_115 : decode cX5_layOut 115 = .ok (.getfield 16, 3) := zk_180 (by decide +kernel)
theorem dX5_layOut_118 : decode cX5_layOut 118 = .ok (.iload 4, 2) := zk_21 (by decide +kernel)
theorem dX5_layOut_120 : decode cX5_layOut 120 = .ok (.iconst 0, 1) := zk_3 (by decide +kernel)
theorem dX5_layOut_121 : decode cX5_layOut 121 = .ok (.iastore, 1) := zk_79 (by decide +kernel)
theorem dX5_layOut_122 : decode cX5_layOut 122 = .ok (.iinc 3 1, 3) := zk_132 (by decide +kernel)
theorem dX5_layOut_125 : decode cX5_layOut 125 = .ok (.iinc 4 1, 3) := zk_132 (by decide +kernel)
theorem dX5_layOut_128 : decode cX5_layOut 128 = .ok (.goto (-123), 3) := zk_167 (by decide +kernel)
theorem dX5_layOut_48 : decode cX5_layOut 48 = .ok (.iload 5, 2) := zk_21 (by decide +kernel)
theorem dX5_layOut_50 : decode cX5_layOut 50 = .ok (.iload 4, 2) := zk_21 (by decide +kernel)
theorem dX5_layOut_52 : decode cX5_layOut 52 = .ok (.if_icmp .ge 53, 3) := zk_162 (by decide +kernel)
theorem dX5_layOut_55 : decode cX5_layOut 55 = .ok (.iload_n 2, 1) := zk_28 (by decide +kernel)
theorem dX5_layOut_56 : decode cX5_layOut 56 = .ok (.iload 5, 2) := zk_21 (by decide +kernel)
theorem dX5_layOut_58 : decode cX5_layOut 58 = .ok (.ishr, 1) := zk_122 (by decide +kernel)
theorem dX5_layOut_59 : decode cX5_layOut 59 = .ok (.iconst 1, 1) := zk_4 (by decide +kernel)
theorem dX5_layOut_60 : decode cX5_layOut 60 = .ok (.iand, 1) := zk_126 (by decide +kernel)
theorem dX5_layOut_61 : decode cX5_layOut 61 = .ok (.iconst 1, 1) := zk_4 (by decide +kernel)
theorem dX5_layOut_62 : decode cX5_layOut 62 = .ok (.if_icmp .ne 43, 3) := zk_160 (by decide +kernel)
theorem dX5_layOut_65 : decode cX5_layOut 65 = .ok (.aload_n 0, 1) := zk_42 (by decide +kernel)
theorem dX5_layOut_66 : decode cX5_layOut 66 = .ok (.getfield 20, 3) := zk_180 (by decide +kernel)
theorem dX5_layOut_69 : decode cX5_layOut 69 = .ok (.iload 4, 2) := zk_21 (by decide +kernel)
theorem dX5_layOut_71 : decode cX5_layOut 71 = .ok (.aload_n 0, 1) := zk_42 (by decide +kernel)
theorem dX5_layOut_72 : decode cX5_layOut 72 = .ok (.getfield 20, 3) := zk_180 (by decide +kernel)
theorem dX5_layOut_75 : decode cX5_layOut 75 = .ok (.iload 5, 2) := zk_21 (by decide +kernel)
theorem dX5_layOut_77 : decode cX5_layOut 77 = .ok (.iaload, 1) := zk_46 (by decide +kernel)
theorem dX5_layOut_78 : decode cX5_layOut 78 = .ok (.iastore, 1) := zk_79 (by decide +kernel)
theorem dX5_layOut_79 : decode cX5_layOut 79 = .ok (.aload_n 0, 1) := zk_42 (by decide +kernel)
theorem dX5_layOut_80 : decode cX5_layOut 80 = .ok (.getfield 16, 3) := zk_180 (by decide +kernel)
theorem dX5_layOut_83 : decode cX5_layOut 83 = .ok (.iload 4, 2) := zk_21 (by decide +kernel)
theorem dX5_layOut_85 : decode cX5_layOut 85 = .ok (.aload_n 0, 1) := zk_42 (by decide +kernel)
theorem dX5_layOut_86 : decode cX5_layOut 86 = .ok (.getfield 16, 3) := zk_180 (by decide +kernel)
theorem dX5_layOut_89 : decode cX5_layOut 89 = .ok (.iload 5, 2) := zk_21 (by decide +kernel)
theorem dX5_layOut_91 : decode cX5_layOut 91 = .ok (.iaload, 1) := zk_46 (by decide +kernel)
theorem dX5_layOut_92 : decode cX5_layOut 92 = .ok (.aload_n 1, 1) := zk_43 (by decide +kernel)
theorem dX5_layOut_93 : decode cX5_layOut 93 = .ok (.iload 4, 2) := zk_21 (by decide +kernel)
theorem dX5_layOut_95 : decode cX5_layOut 95 = .ok (.bipush 7, 2) := zk_16 (by decide +kernel)
theorem dX5_layOut_97 : decode cX5_layOut 97 = .ok (.invokevirtual 144, 3) := zk_182 (by decide +kernel)
theorem dX5_layOut_100 : decode cX5_layOut 100 = .ok (.iadd, 1) := zk_96 (by decide +kernel)
theorem dX5_layOut_101 : decode cX5_layOut 101 = .ok (.iastore, 1) := zk_79 (by decide +kernel)
theorem dX5_layOut_102 : decode cX5_layOut 102 = .ok (.goto 23, 3) := zk_167 (by decide +kernel)
theorem dX5_layOut_30 : decode cX5_layOut 30 = .ok (.goto 95, 3) := zk_167 (by decide +kernel)
set_option maxHeartbeats 4000000 in
set_option maxRecDepth 100000 in
theorem gd_layOut (l : Launch) (dC : Nat → ClassId) (dI : Nat → Nat → Nat) (xdy : Nat) (drw : Nat) (dfr : Int32) (dsh : Nat) (dto : Nat) (dmo : Nat) (dwi : Nat) (cSh : ClassId) (fSh : Nat → Int32) (cTp : ClassId) (fTp : Nat → Int32) (bno : Nat) (ns : Int32) (nsa : Nat) (nfa : Nat) (nza : Nat) (cNs : ClassId) (fNs : Nat → Int32) (cNf : ClassId) (fNf : Nat → Int32) (cNz : ClassId) (fNz : Nat → Int32) (a0 : Int32) (sz : Nat) : Met l yX5_layOut (Cond.code yX5_layOut cX5_layOut 6 (some .int) :: wsL_law) ({ frames := 3, cells := 0, slots := 0, locals := 67 }) (va_Pc [.ref xdy, .ref bno, .int a0] (fun U => U.heap.size = sz ∧ va_P (dC, dI) vwCl [(eO5a xdy drw dfr dsh dto dmo dwi), (eA0 dsh cSh 12 fSh), (eA0 dto cTp 12 fTp), (eO6a bno ns nsa nfa nza), (eA0 nsa cNs 12 fNs), (eA0 nfa cNf 96 fNf), (eA0 nza cNz 96 fNz)] U.heap ∧ va_K (dC, dI) vwCl [(cSh, .int), (cTp, .int), (cNs, .int), (cNf, .int), (cNz, .int)] U ∧ va_D (fun _ => True) [(eO5a xdy drw dfr dsh dto dmo dwi), (eA0 dsh cSh 12 fSh), (eA0 dto cTp 12 fTp), (eO6a bno ns nsa nfa nza), (eA0 nsa cNs 12 fNs), (eA0 nfa cNf 96 fNf), (eA0 nza cNz 96 fNz)])) (va_Qi (fun (r : Int32) (u : (Nat → Int32) × (Nat → Int32)) => r = (fd_layOut fSh fTp ns fNs fNf fNz a0).1 ∧ u = (fd_layOut fSh fTp ns fNs fNf fNz a0).2) (fun (u : (Nat → Int32) × (Nat → Int32)) t => va_P (dC, dI) vwCl [(eO5a xdy drw dfr dsh dto dmo dwi), (eA0 dsh cSh 12 u.1), (eA0 dto cTp 12 u.2), (eO6a bno ns nsa nfa nza), (eA0 nsa cNs 12 fNs), (eA0 nfa cNf 96 fNf), (eA0 nza cNz 96 fNz)] t.heap ∧ va_K (dC, dI) vwCl [] t ∧ va_D (va_A [(eO5a xdy drw dfr dsh dto dmo dwi), (eA0 dsh cSh 12 fSh), (eA0 dto cTp 12 fTp), (eO6a bno ns nsa nfa nza), (eA0 nsa cNs 12 fNs), (eA0 nfa cNf 96 fNf), (eA0 nza cNz 96 fNz)] sz) [(eO5a xdy drw dfr dsh dto dmo dwi), (eA0 dsh cSh 12 u.1), (eA0 dto cTp 12 u.2), (eO6a bno ns nsa nfa nza), (eA0 nsa cNs 12 fNs), (eA0 nfa cNf 96 fNf), (eA0 nza cNz 96 fNz)]) (va_A [(eO5a xdy drw dfr dsh dto dmo dwi), (eA0 dsh cSh 12 fSh), (eA0 dto cTp 12 fTp), (eO6a bno ns nsa nfa nza), (eA0 nsa cNs 12 fNs), (eA0 nfa cNf 96 fNf), (eA0 nza cNz 96 fNz)] sz)) 0 0 (va_A [(eO5a xdy drw dfr dsh dto dmo dwi), (eA0 dsh cSh 12 fSh), (eA0 dto cTp 12 fTp), (eO6a bno ns nsa nfa nza), (eA0 nsa cNs 12 fNs), (eA0 nfa cNf 96 fNf), (eA0 nza cNz 96 fNz)] sz) := by
  refine Met.ofW (cc := cX5_layOut) (maxL := 6) (ret := (some .int)) (by decide) rfl ?_
  intro p e s m args below meth c s₁ B hml hv
  obtain ⟨rfl, hsz, hP, hK, hD0⟩ := hv
  have hx := B.exec
  have hb := B.bytes
  have hr := B.returns
  have hts := atoms_spec (ws := Cond.code yX5_layOut cX5_layOut 6 (some .int) :: wsL_law) B.pre
  have htw : ∀ w ∈ wsL_law, w.before _ s = true := fun w h => hts w (List.mem_cons_of_mem _ h)
  have hown : s.vm.findClass RX5 = some m.cls := findClass_of_methodNamed B.named
  have hlocks := B.notSynchronized
  subst hsz
  have hD := hD0.self (sz := s.heap.size)
  generalize hAe : va_A [(eO5a xdy drw dfr dsh dto dmo dwi), (eA0 dsh cSh 12 fSh), (eA0 dto cTp 12 fTp), (eO6a bno ns nsa nfa nza), (eA0 nsa cNs 12 fNs), (eA0 nfa cNf 96 fNf), (eA0 nza cNz 96 fNz)] s.heap.size = A at hD ⊢
  have hA : ∀ q : Nat, s.heap.size ≤ q → A q := fun q h => by rw [← hAe]; exact Or.inr h
  obtain ⟨H, rH⟩ : ∃ z : Heap, z = s.heap := ⟨_, rfl⟩
  have hS : va_S A s.heap H [] := by rw [rH]; exact va_S.rf
  have hP : va_P (dC, dI) vwCl [(eO5a xdy drw dfr dsh dto dmo dwi), (eA0 dsh cSh 12 fSh), (eA0 dto cTp 12 fTp), (eO6a bno ns nsa nfa nza), (eA0 nsa cNs 12 fNs), (eA0 nfa cNf 96 fNf), (eA0 nza cNz 96 fNz)] H := by rw [rH]; exact hP
  rw [← rH]
  have hl := lv_entry ([.ref xdy, .ref bno, .int a0]) (n := 6) (Nat.le_of_ble_eq_true rfl)
  rw [lg_entry_eq]
  generalize (lg_sl ([.ref xdy, .ref bno, .int a0]) ++ List.replicate (6 - (lg_sl ([.ref xdy, .ref bno, .int a0])).length) Slot.unset).toArray = ls at hl ⊢
  have hl : lv_has ls 6 [(0, .ref xdy), (1, .ref bno), (2, .int a0)] := hl
  refine lv_iconst (v := 0) hx hb dX5_layOut_0 (by decide) ?_
  refine lv_istore_n (lv' := [(3, .int 0), (0, .ref xdy), (1, .ref bno), (2, .int a0)]) hx hb dX5_layOut_1 rfl hl (by decide) rfl (fun ls hl => ?_)
  refine lv_iconst (v := 0) hx hb dX5_layOut_2 (by decide) ?_
  refine lv_istore (lv' := [(4, .int 0), (3, .int 0), (0, .ref xdy), (1, .ref bno), (2, .int a0)]) hx hb dX5_layOut_3 hl (by decide) rfl (fun ls hl => ?_)
  have hloop_1 : ∀ (n : Nat) (L3d : Int32) (L4d : Int32) (fSh_d : Nat → Int32) (fTp_d : Nat → Int32) (h0_d : ¬ L4d < 0) (hf_d : (12 : Int32).toInt ≤ L4d.toInt + (n : Int)) (hI_d : fd_layOut fSh fTp ns fNs fNf fNz a0 = fd_layOut_d ns fNs fNf fNz a0 n L3d L4d fSh_d fTp_d) (H : Heap) (locs : List Loc) (ls : Array Slot) (hP : va_P (dC, dI) vwCl [(eO5a xdy drw dfr dsh dto dmo dwi), (eA0 dsh cSh 12 fSh_d), (eA0 dto cTp 12 fTp_d), (eO6a bno ns nsa nfa nza), (eA0 nsa cNs 12 fNs), (eA0 nfa cNf 96 fNf), (eA0 nza cNz 96 fNz)] H) (hD : va_D A [(eO5a xdy drw dfr dsh dto dmo dwi), (eA0 dsh cSh 12 fSh_d), (eA0 dto cTp 12 fTp_d), (eO6a bno ns nsa nfa nza), (eA0 nsa cNs 12 fNs), (eA0 nfa cNf 96 fNf), (eA0 nza cNz 96 fNz)]) (hS : va_S A s.heap H locs) (hl : lv_has ls 6 [(4, .int L4d), (3, .int L3d), (0, .ref xdy), (1, .ref bno), (2, .int a0)]), W p l e (headSpec (Cond.code yX5_layOut cX5_layOut 6 (some .int) :: wsL_law) ({ frames := 3, cells := 0, slots := 0, locals := 67 })).room s m ([.ref xdy, .ref bno, .int a0] : List Value).toArray below meth c H locs 0 0 (MQ below (va_Qi (fun (r : Int32) (u : (Nat → Int32) × (Nat → Int32)) => r = (fd_layOut fSh fTp ns fNs fNf fNz a0).1 ∧ u = (fd_layOut fSh fTp ns fNs fNf fNz a0).2) (fun (u : (Nat → Int32) × (Nat → Int32)) t => va_P (dC, dI) vwCl [(eO5a xdy drw dfr dsh dto dmo dwi), (eA0 dsh cSh 12 u.1), (eA0 dto cTp 12 u.2), (eO6a bno ns nsa nfa nza), (eA0 nsa cNs 12 fNs), (eA0 nfa cNf 96 fNf), (eA0 nza cNz 96 fNz)] t.heap ∧ va_K (dC, dI) vwCl [] t ∧ va_D A [(eO5a xdy drw dfr dsh dto dmo dwi), (eA0 dsh cSh 12 u.1), (eA0 dto cTp 12 u.2), (eO6a bno ns nsa nfa nza), (eA0 nsa cNs 12 fNs), (eA0 nfa cNf 96 fNf), (eA0 nza cNz 96 fNz)]) A) ([.ref xdy, .ref bno, .int a0] : List Value).toArray s 0 0 A) (F0 m 5 ls []) := by
    intro n
    induction n with
    | zero =>
      intro L3d L4d fSh_d fTp_d h0_d hf_d hI_d H locs ls hP hD hS hl
      refine lv_iload hx hb dX5_layOut_5 (lv_at hl 0 rfl) ?_
      refine lv_aload_n hx hb dX5_layOut_7 rfl (lv_at hl 3 rfl) ?_
      refine va_get (D := (dC, dI)) (ci := 6) (v := .int ns) (C := RX6) (T := TX6) (N := 4) hx hb htw inlX6 hown hK hP 3 rfl rfl 0 (by decide) (htw _ (ck_54 _ (List.mem_of_getElem? (i := 10) rfl))) (fun _ h9 => h9) rfl dX5_layOut_8 ?_
      refine lv_icmp_ge (tgt := 131) hx hb dX5_layOut_11 (by decide) (fun c_2 => ?_) (fun c_2 => ?_)
      · refine lv_iload_n hx hb dX5_layOut_131 rfl (lv_at hl 1 rfl) ?_
        refine W.widen (k := 0) (n := 0) (by omega) (by omega) ?_
        obtain ⟨hP9, hD9⟩ := zsub2 (ws' := [(eO5a xdy drw dfr dsh dto dmo dwi), (eA0 dsh cSh 12 fSh_d), (eA0 dto cTp 12 fTp_d), (eO6a bno ns nsa nfa nza), (eA0 nsa cNs 12 fNs), (eA0 nfa cNf 96 fNf), (eA0 nza cNz 96 fNz)]) hP hD [0, 1, 2, 3, 4, 5, 6] (by decide) rfl
        have hK9 := hK.sub (tys' := []) [] rfl
        exact W.iret (v := L3d) hx hb hr (fun t ht hW => ⟨⟨L3d, (fSh_d, fTp_d), rfl, ((fun e9 => ⟨by rw [e9], by rw [e9]⟩ : fd_layOut fSh fTp ns fNs fNf fNz a0 = (L3d, fSh_d, fTp_d) → _) (hI_d.trans (by rw [fd_layOut_d]; (try rw [if_pos c_2]); try rfl))), by rw [ht]; exact hP9, va_K.moved hW.alike hK9, hD9⟩, hS.F ht⟩) hS.2.2 dX5_layOut_132
      · refine lv_iload hx hb dX5_layOut_14 (lv_at hl 0 rfl) ?_
        refine lv_bipush (v := 12) hx hb dX5_layOut_16 (by decide) ?_
        refine lv_icmp_ge (tgt := 131) hx hb dX5_layOut_18 (by decide) (fun c_3 => ?_) (fun c_3 => absurd c_3 (fun h => h (xi_z hf_d)))
        refine lv_iload_n hx hb dX5_layOut_131 rfl (lv_at hl 1 rfl) ?_
        refine W.widen (k := 0) (n := 0) (by omega) (by omega) ?_
        obtain ⟨hP9, hD9⟩ := zsub2 (ws' := [(eO5a xdy drw dfr dsh dto dmo dwi), (eA0 dsh cSh 12 fSh_d), (eA0 dto cTp 12 fTp_d), (eO6a bno ns nsa nfa nza), (eA0 nsa cNs 12 fNs), (eA0 nfa cNf 96 fNf), (eA0 nza cNz 96 fNz)]) hP hD [0, 1, 2, 3, 4, 5, 6] (by decide) rfl
        have hK9 := hK.sub (tys' := []) [] rfl
        exact W.iret (v := L3d) hx hb hr (fun t ht hW => ⟨⟨L3d, (fSh_d, fTp_d), rfl, ((fun e9 => ⟨by rw [e9], by rw [e9]⟩ : fd_layOut fSh fTp ns fNs fNf fNz a0 = (L3d, fSh_d, fTp_d) → _) (hI_d.trans (by rw [fd_layOut_d]; (try rw [if_neg c_2]); try rfl))), by rw [ht]; exact hP9, va_K.moved hW.alike hK9, hD9⟩, hS.F ht⟩) hS.2.2 dX5_layOut_132
    | succ n ih =>
      intro L3d L4d fSh_d fTp_d h0_d hf_d hI_d H locs ls hP hD hS hl
      refine lv_iload hx hb dX5_layOut_5 (lv_at hl 0 rfl) ?_
      refine lv_aload_n hx hb dX5_layOut_7 rfl (lv_at hl 3 rfl) ?_
      refine va_get (D := (dC, dI)) (ci := 6) (v := .int ns) (C := RX6) (T := TX6) (N := 4) hx hb htw inlX6 hown hK hP 3 rfl rfl 0 (by decide) (htw _ (ck_54 _ (List.mem_of_getElem? (i := 10) rfl))) (fun _ h9 => h9) rfl dX5_layOut_8 ?_
      refine lv_icmp_ge (tgt := 131) hx hb dX5_layOut_11 (by decide) (fun c_4 => ?_) (fun c_4 => ?_)
      · refine lv_iload_n hx hb dX5_layOut_131 rfl (lv_at hl 1 rfl) ?_
        refine W.widen (k := 0) (n := 0) (by omega) (by omega) ?_
        obtain ⟨hP9, hD9⟩ := zsub2 (ws' := [(eO5a xdy drw dfr dsh dto dmo dwi), (eA0 dsh cSh 12 fSh_d), (eA0 dto cTp 12 fTp_d), (eO6a bno ns nsa nfa nza), (eA0 nsa cNs 12 fNs), (eA0 nfa cNf 96 fNf), (eA0 nza cNz 96 fNz)]) hP hD [0, 1, 2, 3, 4, 5, 6] (by decide) rfl
        have hK9 := hK.sub (tys' := []) [] rfl
        exact W.iret (v := L3d) hx hb hr (fun t ht hW => ⟨⟨L3d, (fSh_d, fTp_d), rfl, ((fun e9 => ⟨by rw [e9], by rw [e9]⟩ : fd_layOut fSh fTp ns fNs fNf fNz a0 = (L3d, fSh_d, fTp_d) → _) (hI_d.trans (by rw [fd_layOut_d]; (try rw [if_pos c_4]); try rfl))), by rw [ht]; exact hP9, va_K.moved hW.alike hK9, hD9⟩, hS.F ht⟩) hS.2.2 dX5_layOut_132
      · refine lv_iload hx hb dX5_layOut_14 (lv_at hl 0 rfl) ?_
        refine lv_bipush (v := 12) hx hb dX5_layOut_16 (by decide) ?_
        refine lv_icmp_ge (tgt := 131) hx hb dX5_layOut_18 (by decide) (fun c_5 => ?_) (fun c_5 => ?_)
        · refine lv_iload_n hx hb dX5_layOut_131 rfl (lv_at hl 1 rfl) ?_
          refine W.widen (k := 0) (n := 0) (by omega) (by omega) ?_
          obtain ⟨hP9, hD9⟩ := zsub2 (ws' := [(eO5a xdy drw dfr dsh dto dmo dwi), (eA0 dsh cSh 12 fSh_d), (eA0 dto cTp 12 fTp_d), (eO6a bno ns nsa nfa nza), (eA0 nsa cNs 12 fNs), (eA0 nfa cNf 96 fNf), (eA0 nza cNz 96 fNz)]) hP hD [0, 1, 2, 3, 4, 5, 6] (by decide) rfl
          have hK9 := hK.sub (tys' := []) [] rfl
          exact W.iret (v := L3d) hx hb hr (fun t ht hW => ⟨⟨L3d, (fSh_d, fTp_d), rfl, ((fun e9 => ⟨by rw [e9], by rw [e9]⟩ : fd_layOut fSh fTp ns fNs fNf fNz a0 = (L3d, fSh_d, fTp_d) → _) (hI_d.trans (by rw [fd_layOut_d]; (try rw [if_neg c_4]); (try rw [if_pos c_5]); try rfl))), by rw [ht]; exact hP9, va_K.moved hW.alike hK9, hD9⟩, hS.F ht⟩) hS.2.2 dX5_layOut_132
        · refine lv_iload_n hx hb dX5_layOut_21 rfl (lv_at hl 4 rfl) ?_
          refine lv_iload hx hb dX5_layOut_22 (lv_at hl 0 rfl) ?_
          refine lv_ishr hx hb dX5_layOut_24 ?_
          refine lv_iconst (v := 1) hx hb dX5_layOut_25 (by decide) ?_
          refine lv_iand hx hb dX5_layOut_26 ?_
          refine lv_if_ne (tgt := 33) hx hb dX5_layOut_27 (by decide) (fun c_6 => ?_) (fun c_6 => ?_)
          · refine lv_aload_n hx hb dX5_layOut_33 rfl (lv_at hl 3 rfl) ?_
            refine lv_iload hx hb dX5_layOut_34 (lv_at hl 0 rfl) ?_
            refine lv_bipush (v := 7) hx hb dX5_layOut_36 (by decide) ?_
            have hPc := hP.sub (ws' := [(eO6a bno ns nsa nfa nza), (eA0 nsa cNs 12 fNs), (eA0 nfa cNf 96 fNf)]) [3, 4, 5] rfl
            have hKc := hK.sub (tys' := [(cNs, .int), (cNf, .int)]) [2, 3] rfl
            refine vp_callSi (W.runV (As := [.int L4d, .int 7]) (rest := []) ⟨hx, hb, hml, hown, htw⟩ (gn_askedOf l dC dI bno ns nsa nfa nza cNs fNs cNf fNf L4d (7 : Int32)) (cwV 2 htw (xg_V (ck_56 _ (List.mem_of_getElem? (i := 9) rfl)) (ck_56 _ (List.mem_of_getElem? (i := 10) rfl)) (ck_56 _ (List.mem_of_getElem? (i := 11) rfl)) (ck_2 _ (List.mem_of_getElem? (i := 11) rfl)) (ck_56 _ (List.mem_of_getElem? (i := 12) rfl))) rfl rfl rfl (by exact ⟨rfl, hdc_3.1, hdc_3.2, hdd_7⟩) ⟨Nat.le_of_ble_eq_true rfl, Nat.le_of_ble_eq_true rfl⟩) ⟨fun a U g mk q => by obtain ⟨q0, qP, qK⟩ := q; exact ⟨q0, qP, va_K.moved (u := U) (U := U.calling g mk a) (Vm.Alike.refl U.vm) qK⟩, va_recv hKc hPc (ci := 6) (q0 := 0) rfl rfl, fun U hU hW => ⟨rfl, by rw [hU]; exact hPc, va_K.moved hW.alike hKc⟩⟩ rfl rfl hl.1 rfl (lv_room (Nat.le_of_ble_eq_true rfl)) dX5_layOut_38 ⟨Nat.le_of_ble_eq_true rfl, Nat.le_of_ble_eq_true rfl⟩) (fun r_7 hw => ?_)
            try dsimp only at hw
            have hq_r_7 : r_7 = fn_askedOf fNs fNf L4d (7 : Int32) := hw
            refine lv_istore (lv' := [(5, .int r_7), (4, .int L4d), (3, .int L3d), (0, .ref xdy), (1, .ref bno), (2, .int a0)]) hx hb dX5_layOut_41 hl (by decide) rfl (fun ls hl => ?_)
            refine lv_iload hx hb dX5_layOut_43 (lv_at hl 0 rfl) ?_
            refine lv_if_lt (tgt := 105) hx hb dX5_layOut_45 (by decide) (fun c_8 => ?_) (fun c_8 => ?_)
            · refine lv_aload_n hx hb dX5_layOut_105 rfl (lv_at hl 3 rfl) ?_
              refine va_get (D := (dC, dI)) (ci := 5) (v := .ref dto) (C := RX5) (T := TX5) (N := 6) hx hb htw inlX5 hown hK hP 0 rfl rfl 3 (by decide) (htw _ (ck_8 _ (List.mem_of_getElem? (i := 8) rfl))) (fun _ h9 => h9) rfl dX5_layOut_106 ?_
              refine lv_iload hx hb dX5_layOut_109 (lv_at hl 1 rfl) ?_
              refine lv_iload hx hb dX5_layOut_111 (lv_at hl 1 rfl) ?_
              refine va_iast hx hb hK hP hD hS 2 1 rfl rfl (xg_inr (N := 12) rfl (gd_layOut_s0 (y0 := L4d) (y1 := ns) c_4 c_5 h0_d).1 (gd_layOut_s0 (y0 := L4d) (y1 := ns) c_4 c_5 h0_d).2) dX5_layOut_113 (fun H locs hP hD hS => ?_)
              obtain ⟨hP, hD⟩ := zre [(eO5a xdy drw dfr dsh dto dmo dwi), (eA0 dsh cSh 12 fSh_d), (eA0 dto cTp 12 (upd fTp_d L4d.toNatClampNeg L4d)), (eO6a bno ns nsa nfa nza), (eA0 nsa cNs 12 fNs), (eA0 nfa cNf 96 fNf), (eA0 nza cNz 96 fNz)] hP hD rfl
              refine lv_aload_n hx hb dX5_layOut_114 rfl (lv_at hl 3 rfl) ?_
              refine va_get (D := (dC, dI)) (ci := 5) (v := .ref dsh) (C := RX5) (T := TX5) (N := 6) hx hb htw inlX5 hown hK hP 0 rfl rfl 2 (by decide) (htw _ (ck_8 _ (List.mem_of_getElem? (i := 7) rfl))) (fun _ h9 => h9) rfl dX5_layOut_115 ?_
              refine lv_iload hx hb dX5_layOut_118 (lv_at hl 1 rfl) ?_
              refine lv_iconst (v := 0) hx hb dX5_layOut_120 (by decide) ?_
              refine va_iast hx hb hK hP hD hS 1 0 rfl rfl (xg_inr (N := 12) rfl (gd_layOut_s1 (y0 := L4d) (y1 := ns) c_4 c_5 h0_d).1 (gd_layOut_s1 (y0 := L4d) (y1 := ns) c_4 c_5 h0_d).2) dX5_layOut_121 (fun H locs hP hD hS => ?_)
              obtain ⟨hP, hD⟩ := zre [(eO5a xdy drw dfr dsh dto dmo dwi), (eA0 dsh cSh 12 (upd fSh_d L4d.toNatClampNeg 0)), (eA0 dto cTp 12 (upd fTp_d L4d.toNatClampNeg L4d)), (eO6a bno ns nsa nfa nza), (eA0 nsa cNs 12 fNs), (eA0 nfa cNf 96 fNf), (eA0 nza cNz 96 fNz)] hP hD rfl
              refine lv_iinc (v := (L3d + 1)) (lv' := [(3, .int (L3d + 1)), (5, .int r_7), (4, .int L4d), (0, .ref xdy), (1, .ref bno), (2, .int a0)]) hx hb dX5_layOut_122 hl (k := 2) rfl (rfl) (by decide) rfl (fun ls hl => ?_)
              refine lv_iinc (v := (L4d + 1)) (lv' := [(4, .int (L4d + 1)), (3, .int (L3d + 1)), (5, .int r_7), (0, .ref xdy), (1, .ref bno), (2, .int a0)]) hx hb dX5_layOut_125 hl (k := 2) rfl (rfl) (by decide) rfl (fun ls hl => ?_)
              refine lv_goto (tgt := 5) hx hb dX5_layOut_128 (by decide) ?_
              exact ih (L3d + 1) (L4d + 1) (upd fSh_d L4d.toNatClampNeg 0) (upd fTp_d L4d.toNatClampNeg L4d) (gd_layOut_s2 (y0 := L4d) (y1 := ns) c_4 c_5 h0_d) (by rw [xi_s' c_5]; omega) (hI_d.trans (by rw [fd_layOut_d]; (try rw [if_neg c_4]); (try rw [if_neg c_5]); (try rw [if_neg c_6]); (try rw [← hq_r_7]); (try rw [xL_eq]); (try rw [if_pos c_8]); try rfl)) H locs ls hP hD hS (lv_sub hl [0, 1, 3, 4, 5] rfl)
            · refine lv_iload hx hb dX5_layOut_48 (lv_at hl 0 rfl) ?_
              refine lv_iload hx hb dX5_layOut_50 (lv_at hl 1 rfl) ?_
              refine lv_icmp_ge (tgt := 105) hx hb dX5_layOut_52 (by decide) (fun c_11 => ?_) (fun c_11 => ?_)
              · refine lv_aload_n hx hb dX5_layOut_105 rfl (lv_at hl 3 rfl) ?_
                refine va_get (D := (dC, dI)) (ci := 5) (v := .ref dto) (C := RX5) (T := TX5) (N := 6) hx hb htw inlX5 hown hK hP 0 rfl rfl 3 (by decide) (htw _ (ck_8 _ (List.mem_of_getElem? (i := 8) rfl))) (fun _ h9 => h9) rfl dX5_layOut_106 ?_
                refine lv_iload hx hb dX5_layOut_109 (lv_at hl 1 rfl) ?_
                refine lv_iload hx hb dX5_layOut_111 (lv_at hl 1 rfl) ?_
                refine va_iast hx hb hK hP hD hS 2 1 rfl rfl (xg_inr (N := 12) rfl (gd_layOut_s3 (y0 := L4d) (y1 := ns) (y2 := r_7) c_4 c_5 c_8 c_11 h0_d).1 (gd_layOut_s3 (y0 := L4d) (y1 := ns) (y2 := r_7) c_4 c_5 c_8 c_11 h0_d).2) dX5_layOut_113 (fun H locs hP hD hS => ?_)
                obtain ⟨hP, hD⟩ := zre [(eO5a xdy drw dfr dsh dto dmo dwi), (eA0 dsh cSh 12 fSh_d), (eA0 dto cTp 12 (upd fTp_d L4d.toNatClampNeg L4d)), (eO6a bno ns nsa nfa nza), (eA0 nsa cNs 12 fNs), (eA0 nfa cNf 96 fNf), (eA0 nza cNz 96 fNz)] hP hD rfl
                refine lv_aload_n hx hb dX5_layOut_114 rfl (lv_at hl 3 rfl) ?_
                refine va_get (D := (dC, dI)) (ci := 5) (v := .ref dsh) (C := RX5) (T := TX5) (N := 6) hx hb htw inlX5 hown hK hP 0 rfl rfl 2 (by decide) (htw _ (ck_8 _ (List.mem_of_getElem? (i := 7) rfl))) (fun _ h9 => h9) rfl dX5_layOut_115 ?_
                refine lv_iload hx hb dX5_layOut_118 (lv_at hl 1 rfl) ?_
                refine lv_iconst (v := 0) hx hb dX5_layOut_120 (by decide) ?_
                refine va_iast hx hb hK hP hD hS 1 0 rfl rfl (xg_inr (N := 12) rfl (gd_layOut_s4 (y0 := L4d) (y1 := ns) (y2 := r_7) c_4 c_5 c_8 c_11 h0_d).1 (gd_layOut_s4 (y0 := L4d) (y1 := ns) (y2 := r_7) c_4 c_5 c_8 c_11 h0_d).2) dX5_layOut_121 (fun H locs hP hD hS => ?_)
                obtain ⟨hP, hD⟩ := zre [(eO5a xdy drw dfr dsh dto dmo dwi), (eA0 dsh cSh 12 (upd fSh_d L4d.toNatClampNeg 0)), (eA0 dto cTp 12 (upd fTp_d L4d.toNatClampNeg L4d)), (eO6a bno ns nsa nfa nza), (eA0 nsa cNs 12 fNs), (eA0 nfa cNf 96 fNf), (eA0 nza cNz 96 fNz)] hP hD rfl
                refine lv_iinc (v := (L3d + 1)) (lv' := [(3, .int (L3d + 1)), (5, .int r_7), (4, .int L4d), (0, .ref xdy), (1, .ref bno), (2, .int a0)]) hx hb dX5_layOut_122 hl (k := 2) rfl (rfl) (by decide) rfl (fun ls hl => ?_)
                refine lv_iinc (v := (L4d + 1)) (lv' := [(4, .int (L4d + 1)), (3, .int (L3d + 1)), (5, .int r_7), (0, .ref xdy), (1, .ref bno), (2, .int a0)]) hx hb dX5_layOut_125 hl (k := 2) rfl (rfl) (by decide) rfl (fun ls hl => ?_)
                refine lv_goto (tgt := 5) hx hb dX5_layOut_128 (by decide) ?_
                exact ih (L3d + 1) (L4d + 1) (upd fSh_d L4d.toNatClampNeg 0) (upd fTp_d L4d.toNatClampNeg L4d) (gd_layOut_s5 (y0 := L4d) (y1 := ns) (y2 := r_7) c_4 c_5 c_8 c_11 h0_d) (by rw [xi_s' c_5]; omega) (hI_d.trans (by rw [fd_layOut_d]; (try rw [if_neg c_4]); (try rw [if_neg c_5]); (try rw [if_neg c_6]); (try rw [← hq_r_7]); (try rw [xL_eq]); (try rw [if_neg c_8]); (try rw [if_pos c_11]); try rfl)) H locs ls hP hD hS (lv_sub hl [0, 1, 3, 4, 5] rfl)
              · refine lv_iload_n hx hb dX5_layOut_55 rfl (lv_at hl 5 rfl) ?_
                refine lv_iload hx hb dX5_layOut_56 (lv_at hl 0 rfl) ?_
                refine lv_ishr hx hb dX5_layOut_58 ?_
                refine lv_iconst (v := 1) hx hb dX5_layOut_59 (by decide) ?_
                refine lv_iand hx hb dX5_layOut_60 ?_
                refine lv_iconst (v := 1) hx hb dX5_layOut_61 (by decide) ?_
                refine lv_icmp_ne (tgt := 105) hx hb dX5_layOut_62 (by decide) (fun c_14 => ?_) (fun c_14 => ?_)
                · refine lv_aload_n hx hb dX5_layOut_105 rfl (lv_at hl 3 rfl) ?_
                  refine va_get (D := (dC, dI)) (ci := 5) (v := .ref dto) (C := RX5) (T := TX5) (N := 6) hx hb htw inlX5 hown hK hP 0 rfl rfl 3 (by decide) (htw _ (ck_8 _ (List.mem_of_getElem? (i := 8) rfl))) (fun _ h9 => h9) rfl dX5_layOut_106 ?_
                  refine lv_iload hx hb dX5_layOut_109 (lv_at hl 1 rfl) ?_
                  refine lv_iload hx hb dX5_layOut_111 (lv_at hl 1 rfl) ?_
                  refine va_iast hx hb hK hP hD hS 2 1 rfl rfl (xg_inr (N := 12) rfl (gd_layOut_s6 (y0 := L4d) (y1 := ns) (y2 := r_7) c_4 c_5 c_8 c_11 h0_d).1 (gd_layOut_s6 (y0 := L4d) (y1 := ns) (y2 := r_7) c_4 c_5 c_8 c_11 h0_d).2) dX5_layOut_113 (fun H locs hP hD hS => ?_)
                  obtain ⟨hP, hD⟩ := zre [(eO5a xdy drw dfr dsh dto dmo dwi), (eA0 dsh cSh 12 fSh_d), (eA0 dto cTp 12 (upd fTp_d L4d.toNatClampNeg L4d)), (eO6a bno ns nsa nfa nza), (eA0 nsa cNs 12 fNs), (eA0 nfa cNf 96 fNf), (eA0 nza cNz 96 fNz)] hP hD rfl
                  refine lv_aload_n hx hb dX5_layOut_114 rfl (lv_at hl 3 rfl) ?_
                  refine va_get (D := (dC, dI)) (ci := 5) (v := .ref dsh) (C := RX5) (T := TX5) (N := 6) hx hb htw inlX5 hown hK hP 0 rfl rfl 2 (by decide) (htw _ (ck_8 _ (List.mem_of_getElem? (i := 7) rfl))) (fun _ h9 => h9) rfl dX5_layOut_115 ?_
                  refine lv_iload hx hb dX5_layOut_118 (lv_at hl 1 rfl) ?_
                  refine lv_iconst (v := 0) hx hb dX5_layOut_120 (by decide) ?_
                  refine va_iast hx hb hK hP hD hS 1 0 rfl rfl (xg_inr (N := 12) rfl (gd_layOut_s7 (y0 := L4d) (y1 := ns) (y2 := r_7) c_4 c_5 c_8 c_11 h0_d).1 (gd_layOut_s7 (y0 := L4d) (y1 := ns) (y2 := r_7) c_4 c_5 c_8 c_11 h0_d).2) dX5_layOut_121 (fun H locs hP hD hS => ?_)
                  obtain ⟨hP, hD⟩ := zre [(eO5a xdy drw dfr dsh dto dmo dwi), (eA0 dsh cSh 12 (upd fSh_d L4d.toNatClampNeg 0)), (eA0 dto cTp 12 (upd fTp_d L4d.toNatClampNeg L4d)), (eO6a bno ns nsa nfa nza), (eA0 nsa cNs 12 fNs), (eA0 nfa cNf 96 fNf), (eA0 nza cNz 96 fNz)] hP hD rfl
                  refine lv_iinc (v := (L3d + 1)) (lv' := [(3, .int (L3d + 1)), (5, .int r_7), (4, .int L4d), (0, .ref xdy), (1, .ref bno), (2, .int a0)]) hx hb dX5_layOut_122 hl (k := 2) rfl (rfl) (by decide) rfl (fun ls hl => ?_)
                  refine lv_iinc (v := (L4d + 1)) (lv' := [(4, .int (L4d + 1)), (3, .int (L3d + 1)), (5, .int r_7), (0, .ref xdy), (1, .ref bno), (2, .int a0)]) hx hb dX5_layOut_125 hl (k := 2) rfl (rfl) (by decide) rfl (fun ls hl => ?_)
                  refine lv_goto (tgt := 5) hx hb dX5_layOut_128 (by decide) ?_
                  exact ih (L3d + 1) (L4d + 1) (upd fSh_d L4d.toNatClampNeg 0) (upd fTp_d L4d.toNatClampNeg L4d) (gd_layOut_s8 (y0 := L4d) (y1 := ns) (y2 := r_7) c_4 c_5 c_8 c_11 h0_d) (by rw [xi_s' c_5]; omega) (hI_d.trans (by rw [fd_layOut_d]; (try rw [if_neg c_4]); (try rw [if_neg c_5]); (try rw [if_neg c_6]); (try rw [← hq_r_7]); (try rw [xL_eq]); (try rw [if_neg c_8]); (try rw [if_neg c_11]); (try rw [if_neg c_14]); try rfl)) H locs ls hP hD hS (lv_sub hl [0, 1, 3, 4, 5] rfl)
                · refine lv_aload_n hx hb dX5_layOut_65 rfl (lv_at hl 3 rfl) ?_
                  refine va_get (D := (dC, dI)) (ci := 5) (v := .ref dto) (C := RX5) (T := TX5) (N := 6) hx hb htw inlX5 hown hK hP 0 rfl rfl 3 (by decide) (htw _ (ck_8 _ (List.mem_of_getElem? (i := 8) rfl))) (fun _ h9 => h9) rfl dX5_layOut_66 ?_
                  refine lv_iload hx hb dX5_layOut_69 (lv_at hl 1 rfl) ?_
                  refine lv_aload_n hx hb dX5_layOut_71 rfl (lv_at hl 3 rfl) ?_
                  refine va_get (D := (dC, dI)) (ci := 5) (v := .ref dto) (C := RX5) (T := TX5) (N := 6) hx hb htw inlX5 hown hK hP 0 rfl rfl 3 (by decide) (htw _ (ck_8 _ (List.mem_of_getElem? (i := 8) rfl))) (fun _ h9 => h9) rfl dX5_layOut_72 ?_
                  refine lv_iload hx hb dX5_layOut_75 (lv_at hl 0 rfl) ?_
                  refine va_iald hx hb hK hP 2 1 rfl rfl (xg_inr (N := 12) rfl (gd_layOut_s9 (y0 := r_7) (y1 := ns) (y2 := L4d) c_4 c_5 c_8 c_11 h0_d).1 (gd_layOut_s9 (y0 := r_7) (y1 := ns) (y2 := L4d) c_4 c_5 c_8 c_11 h0_d).2) dX5_layOut_77 ?_
                  refine va_iast hx hb hK hP hD hS 2 1 rfl rfl (xg_inr (N := 12) rfl (gd_layOut_s10 (y0 := L4d) (y1 := ns) (y2 := r_7) c_4 c_5 c_8 c_11 h0_d).1 (gd_layOut_s10 (y0 := L4d) (y1 := ns) (y2 := r_7) c_4 c_5 c_8 c_11 h0_d).2) dX5_layOut_78 (fun H locs hP hD hS => ?_)
                  obtain ⟨hP, hD⟩ := zre [(eO5a xdy drw dfr dsh dto dmo dwi), (eA0 dsh cSh 12 fSh_d), (eA0 dto cTp 12 (upd fTp_d L4d.toNatClampNeg (fTp_d r_7.toNatClampNeg))), (eO6a bno ns nsa nfa nza), (eA0 nsa cNs 12 fNs), (eA0 nfa cNf 96 fNf), (eA0 nza cNz 96 fNz)] hP hD rfl
                  refine lv_aload_n hx hb dX5_layOut_79 rfl (lv_at hl 3 rfl) ?_
                  refine va_get (D := (dC, dI)) (ci := 5) (v := .ref dsh) (C := RX5) (T := TX5) (N := 6) hx hb htw inlX5 hown hK hP 0 rfl rfl 2 (by decide) (htw _ (ck_8 _ (List.mem_of_getElem? (i := 7) rfl))) (fun _ h9 => h9) rfl dX5_layOut_80 ?_
                  refine lv_iload hx hb dX5_layOut_83 (lv_at hl 1 rfl) ?_
                  refine lv_aload_n hx hb dX5_layOut_85 rfl (lv_at hl 3 rfl) ?_
                  refine va_get (D := (dC, dI)) (ci := 5) (v := .ref dsh) (C := RX5) (T := TX5) (N := 6) hx hb htw inlX5 hown hK hP 0 rfl rfl 2 (by decide) (htw _ (ck_8 _ (List.mem_of_getElem? (i := 7) rfl))) (fun _ h9 => h9) rfl dX5_layOut_86 ?_
                  refine lv_iload hx hb dX5_layOut_89 (lv_at hl 0 rfl) ?_
                  refine va_iald hx hb hK hP 1 0 rfl rfl (xg_inr (N := 12) rfl (gd_layOut_s11 (y0 := r_7) (y1 := ns) (y2 := L4d) c_4 c_5 c_8 c_11 h0_d).1 (gd_layOut_s11 (y0 := r_7) (y1 := ns) (y2 := L4d) c_4 c_5 c_8 c_11 h0_d).2) dX5_layOut_91 ?_
                  refine lv_aload_n hx hb dX5_layOut_92 rfl (lv_at hl 4 rfl) ?_
                  refine lv_iload hx hb dX5_layOut_93 (lv_at hl 1 rfl) ?_
                  refine lv_bipush (v := 7) hx hb dX5_layOut_95 (by decide) ?_
                  have hPc := hP.sub (ws' := [(eO6a bno ns nsa nfa nza), (eA0 nza cNz 96 fNz)]) [3, 6] rfl
                  have hKc := hK.sub (tys' := [(cNz, .int)]) [4] rfl
                  refine vp_callSi (W.runV (As := [.int L4d, .int 7]) (rest := [.int (fSh_d r_7.toNatClampNeg), .int L4d, .ref dsh]) ⟨hx, hb, hml, hown, htw⟩ (gn_secondOf l dC dI bno ns nsa nfa nza cNz fNz L4d (7 : Int32)) (cwV 2 htw (xg_V (ck_57 _ (List.mem_of_getElem? (i := 11) rfl)) (ck_55 _ (List.mem_of_getElem? (i := 19) rfl)) (ck_55 _ (List.mem_of_getElem? (i := 20) rfl)) (ck_2 _ (List.mem_of_getElem? (i := 11) rfl)) (ck_55 _ (List.mem_of_getElem? (i := 21) rfl))) rfl rfl rfl (by exact ⟨rfl, hdc_3.1, hdc_3.2, hdd_7⟩) ⟨Nat.le_of_ble_eq_true rfl, Nat.le_of_ble_eq_true rfl⟩) ⟨fun a U g mk q => by obtain ⟨q0, qP, qK⟩ := q; exact ⟨q0, qP, va_K.moved (u := U) (U := U.calling g mk a) (Vm.Alike.refl U.vm) qK⟩, va_recv hKc hPc (ci := 6) (q0 := 0) rfl rfl, fun U hU hW => ⟨rfl, by rw [hU]; exact hPc, va_K.moved hW.alike hKc⟩⟩ rfl rfl hl.1 rfl (lv_room (Nat.le_of_ble_eq_true rfl)) dX5_layOut_97 ⟨Nat.le_of_ble_eq_true rfl, Nat.le_of_ble_eq_true rfl⟩) (fun r_18 hw => ?_)
                  try dsimp only at hw
                  have hq_r_18 : r_18 = fn_secondOf fNz L4d (7 : Int32) := hw
                  refine lv_iadd hx hb dX5_layOut_100 ?_
                  refine va_iast hx hb hK hP hD hS 1 0 rfl rfl (xg_inr (N := 12) rfl (gd_layOut_s12 (y0 := L4d) (y1 := ns) (y2 := r_7) c_4 c_5 c_8 c_11 h0_d).1 (gd_layOut_s12 (y0 := L4d) (y1 := ns) (y2 := r_7) c_4 c_5 c_8 c_11 h0_d).2) dX5_layOut_101 (fun H locs hP hD hS => ?_)
                  obtain ⟨hP, hD⟩ := zre [(eO5a xdy drw dfr dsh dto dmo dwi), (eA0 dsh cSh 12 (upd fSh_d L4d.toNatClampNeg ((fSh_d r_7.toNatClampNeg) + r_18))), (eA0 dto cTp 12 (upd fTp_d L4d.toNatClampNeg (fTp_d r_7.toNatClampNeg))), (eO6a bno ns nsa nfa nza), (eA0 nsa cNs 12 fNs), (eA0 nfa cNf 96 fNf), (eA0 nza cNz 96 fNz)] hP hD rfl
                  refine lv_goto (tgt := 125) hx hb dX5_layOut_102 (by decide) ?_
                  refine lv_iinc (v := (L4d + 1)) (lv' := [(4, .int (L4d + 1)), (5, .int r_7), (3, .int L3d), (0, .ref xdy), (1, .ref bno), (2, .int a0)]) hx hb dX5_layOut_125 hl (k := 1) rfl (rfl) (by decide) rfl (fun ls hl => ?_)
                  refine lv_goto (tgt := 5) hx hb dX5_layOut_128 (by decide) ?_
                  exact ih L3d (L4d + 1) (upd fSh_d L4d.toNatClampNeg ((fSh_d r_7.toNatClampNeg) + r_18)) (upd fTp_d L4d.toNatClampNeg (fTp_d r_7.toNatClampNeg)) (gd_layOut_s13 (y0 := L4d) (y1 := ns) (y2 := r_7) c_4 c_5 c_8 c_11 h0_d) (by rw [xi_s' c_5]; omega) (hI_d.trans (by rw [fd_layOut_d]; (try rw [if_neg c_4]); (try rw [if_neg c_5]); (try rw [if_neg c_6]); (try rw [← hq_r_7]); (try rw [xL_eq]); (try rw [if_neg c_8]); (try rw [if_neg c_11]); (try rw [if_pos c_14]); (try rw [← hq_r_18]); (try rw [xL_eq]); try rfl)) H locs ls hP hD hS (lv_sub hl [0, 2, 3, 4, 5] rfl)
          · refine lv_goto (tgt := 125) hx hb dX5_layOut_30 (by decide) ?_
            refine lv_iinc (v := (L4d + 1)) (lv' := [(4, .int (L4d + 1)), (3, .int L3d), (0, .ref xdy), (1, .ref bno), (2, .int a0)]) hx hb dX5_layOut_125 hl (k := 0) rfl (rfl) (by decide) rfl (fun ls hl => ?_)
            refine lv_goto (tgt := 5) hx hb dX5_layOut_128 (by decide) ?_
            exact ih L3d (L4d + 1) fSh_d fTp_d (gd_layOut_s14 (y0 := L4d) (y1 := ns) c_4 c_5 h0_d) (by rw [xi_s' c_5]; omega) (hI_d.trans (by rw [fd_layOut_d]; (try rw [if_neg c_4]); (try rw [if_neg c_5]); (try rw [if_pos c_6]); try rfl)) H locs ls hP hD hS (lv_sub hl [0, 1, 2, 3, 4] rfl)
  exact hloop_1 12 (0 : Int32) (0 : Int32) fSh fTp (gd_layOut_s15 ) (by decide) ((by rw [fd_layOut])) _ _ ls hP hD hS (lv_sub hl [0, 1, 2, 3, 4] rfl)

def fd_tell_d (fRw : Nat → Nat → Int64) (fSh : Nat → Int32) (a0 : Int32) (a1 : Int32) (a2 : Int32) : Nat → (Int32) → (Int32) → (Int32) → (Int32) → Int32
  | 0, L4d, L5d, L6d, L7d => (if a2 = 0 then L4d else (if a2 = 1 then L5d else L6d))
  | n + 1, L4d, L5d, L6d, L7d => (if 313 ≤ L7d then (if a2 = 0 then L4d else (if a2 = 1 then L5d else L6d)) else (xL ((fd_topsIn fRw fSh a0 L7d)) (fun r_8 => (if lg_cmp r_8 0 = 0 then fd_tell_d fRw fSh a0 a1 a2 n L4d L5d L6d (L7d + 1) else (xL ((fj_bitCountJ r_8)) (fun r_10 => (if L5d = (-1) then (xL ((fj_ntzJ r_8)) (fun r_13 => (xL ((fj_nlzJ r_8)) (fun r_14 => fd_tell_d fRw fSh a0 a1 a2 n (L4d + r_10) (((L7d * 64) + a1) + r_13) ((((L7d * 64) + a1) + 63) - r_14) (L7d + 1))))) else (xL ((fj_nlzJ r_8)) (fun r_12 => fd_tell_d fRw fSh a0 a1 a2 n (L4d + r_10) L5d ((((L7d * 64) + a1) + 63) - r_12) (L7d + 1))))))))))
def fd_tell (fRw : Nat → Nat → Int64) (fSh : Nat → Int32) (a0 : Int32) (a1 : Int32) (a2 : Int32) : Int32 := fd_tell_d fRw fSh a0 a1 a2 313 (0 : Int32) (-1 : Int32) (-1 : Int32) (0 : Int32)
theorem gd_tell_s0 {y0 : Int32} (h0 : ¬ (313 ≤ y0)) (h1 : ¬ (y0 < 0)) : ¬ ((y0 + 1) < 0) := by lia
theorem gd_tell_s1 {y0 : Int32} (h0 : ¬ (313 ≤ y0)) (h1 : ¬ (y0 < 0)) : ¬ ((y0 + 1) < 0) := by lia
theorem gd_tell_s2 {y0 : Int32} (h0 : ¬ (313 ≤ y0)) (h1 : ¬ (y0 < 0)) : ¬ ((y0 + 1) < 0) := by lia
theorem gd_tell_s3  : ¬ ((0 : Int32) < 0) := (by decide)
theorem dX5_tell_0 : decode cX5_tell 0 = .ok (.iconst 0, 1) := zk_3 (by decide +kernel)
theorem dX5_tell_1 : decode cX5_tell 1 = .ok (.istore 4, 2) := zk_54 (by decide +kernel)
theorem dX5_tell_3 : decode cX5_tell 3 = .ok (.iconst (-1), 1) := zk_2 (by decide +kernel)
theorem dX5_tell_4 : decode cX5_tell 4 = .ok (.istore 5, 2) := zk_54 (by decide +kernel)
theorem dX5_tell_6 : decode cX5_tell 6 = .ok (.iconst (-1), 1) := zk_2 (by decide +kernel)
theorem dX5_tell_7 : decode cX5_tell 7 = .ok (.istore 6, 2) := zk_54 (by decide +kernel)
theorem dX5_tell_9 : decode cX5_tell 9 = .ok (.iconst 0, 1) := zk_3 (by decide +kernel)
theorem dX5_tell_10 : decode cX5_tell 10 = .ok (.istore 7, 2) := zk_54 (by decide +kernel)
theorem dX5_tell_12 : decode cX5_tell 12 = .ok (.iload 7, 2) := zk_21 (by decide +kernel)
theorem dX5_tell_14 : decode cX5_tell 14 = .ok (.sipush 313, 3) := zk_17 (by decide +kernel)
theorem dX5_tell_17 : decode cX5_tell 17 = .ok (.if_icmp .ge 77, 3) := zk_162 (by decide +kernel)
theorem dX5_tell_94 : decode cX5_tell 94 = .ok (.iload_n 3, 1) := zk_29 (by decide +kernel)
theorem dX5_tell_95 : decode cX5_tell 95 = .ok (.ifCond .ne 6, 3) := zk_154 (by decide +kernel)
theorem dX5_tell_101 : decode cX5_tell 101 = .ok (.iload_n 3, 1) := zk_29 (by decide +kernel)
theorem dX5_tell_102 : decode cX5_tell 102 = .ok (.iconst 1, 1) := zk_4 (by decide +kernel)
theorem dX5_tell_103 : decode cX5_tell 103 = .ok (.if_icmp .ne 8, 3) := zk_160 (by decide +kernel)
theorem dX5_tell_111 : decode cX5_tell 111 = .ok (.iload 6, 2) := zk_21 (by decide +kernel)
theorem dX5_tell_113 : decode cX5_tell 113 = .ok (.ireturn, 1) := zk_172 (by decide +kernel)
theorem dX5_tell_106 : decode cX5_tell 106 = .ok (.iload 5, 2) := zk_21 (by decide +kernel)
theorem dX5_tell_108 : decode cX5_tell 108 = .ok (.goto 5, 3) := zk_167 (by decide +kernel)
theorem dX5_tell_98 : decode cX5_tell 98 = .ok (.iload 4, 2) := zk_21 (by decide +kernel)
theorem dX5_tell_100 : decode cX5_tell 100 = .ok (.ireturn, 1) := zk_172 (by decide +kernel)
theorem dX5_tell_20 : decode cX5_tell 20 = .ok (.aload_n 0, 1) := zk_42 (by decide +kernel)
theorem dX5_tell_21 : decode cX5_tell 21 = .ok (.iload_n 1, 1) := zk_27 (by decide +kernel)
theorem dX5_tell_22 : decode cX5_tell 22 = .ok (.iload 7, 2) := zk_21 (by decide +kernel)
theorem dX5_tell_24 : decode cX5_tell 24 = .ok (.invokevirtual 156, 3) := zk_182 (by decide +kernel)
theorem dX5_tell_27 : decode cX5_tell 27 = .ok (.lstore 8, 2) := zk_55 (by decide +kernel)
theorem dX5_tell_29 : decode cX5_tell 29 = .ok (.lload 8, 2) := zk_22 (by decide +kernel)
theorem dX5_tell_31 : decode cX5_tell 31 = .ok (.lconst 0, 1) := zk_9 (by decide +kernel)
theorem dX5_tell_32 : decode cX5_tell 32 = .ok (.lcmp, 1) := zk_148 (by decide +kernel)
theorem dX5_tell_33 : decode cX5_tell 33 = .ok (.ifCond .ne 6, 3) := zk_154 (by decide +kernel)
theorem dX5_tell_39 : decode cX5_tell 39 = .ok (.iload 4, 2) := zk_21 (by decide +kernel)
theorem dX5_tell_41 : decode cX5_tell 41 = .ok (.lload 8, 2) := zk_22 (by decide +kernel)
theorem dX5_tell_43 : decode cX5_tell 43 = .ok (.invokestatic 164, 3) := zk_184 (by decide +kernel)
theorem dX5_tell_46 : decode cX5_tell 46 = .ok (.iadd, 1) := zk_96 (by decide +kernel)
theorem dX5_tell_47 : decode cX5_tell 47 = .ok (.istore 4, 2) := zk_54 (by decide +kernel)
theorem dX5_tell_49 : decode cX5_tell 49 = .ok (.iload 5, 2) := zk_21 (by decide +kernel)
theorem dX5_tell_51 : decode cX5_tell 51 = .ok (.iconst (-1), 1) := zk_2 (by decide +kernel)
theorem dX5_tell_52 : decode cX5_tell 52 = .ok (.if_icmp .ne 18, 3) := zk_160 (by decide +kernel)
theorem dX5_tell_70 : decode cX5_tell 70 = .ok (.iload 7, 2) := zk_21 (by decide +kernel)
theorem dX5_tell_72 : decode cX5_tell 72 = .ok (.bipush 64, 2) := zk_16 (by decide +kernel)
theorem dX5_tell_74 : decode cX5_tell 74 = .ok (.imul, 1) := zk_104 (by decide +kernel)
theorem dX5_tell_75 : decode cX5_tell 75 = .ok (.iload_n 2, 1) := zk_28 (by decide +kernel)
theorem dX5_tell_76 : decode cX5_tell 76 = .ok (.iadd, 1) := zk_96 (by decide +kernel)
theorem dX5_tell_77 : decode cX5_tell 77 = .ok (.bipush 63, 2) := zk_16 (by decide +kernel)
theorem dX5_tell_79 : decode cX5_tell 79 = .ok (.iadd, 1) := zk_96 (by decide +kernel)
theorem dX5_tell_80 : decode cX5_tell 80 = .ok (.lload 8, 2) := zk_22 (by decide +kernel)
theorem dX5_tell_82 : decode cX5_tell 82 = .ok (.invokestatic 172, 3) := zk_184 (by decide +kernel)
theorem dX5_tell_85 : decode cX5_tell 85 = .ok (.isub, 1) := zk_100 (by decide +kernel)
theorem dX5_tell_86 : decode cX5_tell 86 = .ok (.istore 6, 2) := zk_54 (by decide +kernel)
theorem dX5_tell_88 : decode cX5_tell 88 = .ok (.iinc 7 1, 3) := zk_132 (by decide +kernel)
theorem dX5_tell_91 : decode cX5_tell 91 = .ok (.goto (-79), 3) := zk_167 (by decide +kernel)
theorem dX5_tell_55 : decode cX5_tell 55 = .ok (.iload 7, 2) := zk_21 (by decide +kernel)
theorem dX5_tell_57 : decode cX5_tell 57 = .ok (.bipush 64, 2) := zk_16 (by decide +kernel)
theorem dX5_tell_59 : decode cX5_tell 59 = .ok (.imul, 1) := zk_104 (by decide +kernel)
theorem dX5_tell_60 : decode cX5_tell 60 = .ok (.iload_n 2, 1) := zk_28 (by decide +kernel)
theorem dX5_tell_61 : decode cX5_tell 61 = .ok (.iadd, 1) := zk_96 (by decide +kernel)
theorem dX5_tell_62 : decode cX5_tell 62 = .ok (.lload 8, 2) := zk_22 (by decide +kernel)
theorem dX5_tell_64 : decode cX5_tell 64 = .ok (.invokestatic 169, 3) := zk_184 (by decide +kernel)
theorem dX5_tell_67 : decode cX5_tell 67 = .ok (.iadd, 1) := zk_96 (by decide +kernel)
theorem dX5_tell_68 : decode cX5_tell 68 = .ok (.istore 5, 2) := zk_54 (by decide +kernel)
theorem dX5_tell_36 : decode cX5_tell 36 = .ok (.goto 52, 3) := zk_167 (by decide +kernel)
set_option maxHeartbeats 4000000 in
set_option maxRecDepth 100000 in
theorem gd_tell (l : Launch) (dC : Nat → ClassId) (dI : Nat → Nat → Nat) (xdy : Nat) (drw : Nat) (dfr : Int32) (dsh : Nat) (dto : Nat) (dmo : Nat) (dwi : Nat) (cDr : ClassId) (Rw : Nat → Nat) (cRr : ClassId) (fRw : Nat → Nat → Int64) (cSh : ClassId) (fSh : Nat → Int32) (a0 : Int32) (a1 : Int32) (a2 : Int32) : Met l yX5_tell (Cond.code yX5_tell cX5_tell 10 (some .int) :: wsL_law) ({ frames := 2, cells := 0, slots := 0, locals := 52 }) (va_Pc [.ref xdy, .int a0, .int a1, .int a2] (fun U => va_P (dC, dI) vwCl [(eO5a xdy drw dfr dsh dto dmo dwi), (eA4 drw cDr 12 (fun k => some (Rw k))), (eA1 (Rw 0) cRr 313 (fRw 0)), (eA1 (Rw 1) cRr 313 (fRw 1)), (eA1 (Rw 2) cRr 313 (fRw 2)), (eA1 (Rw 3) cRr 313 (fRw 3)), (eA1 (Rw 4) cRr 313 (fRw 4)), (eA1 (Rw 5) cRr 313 (fRw 5)), (eA1 (Rw 6) cRr 313 (fRw 6)), (eA1 (Rw 7) cRr 313 (fRw 7)), (eA1 (Rw 8) cRr 313 (fRw 8)), (eA1 (Rw 9) cRr 313 (fRw 9)), (eA1 (Rw 10) cRr 313 (fRw 10)), (eA1 (Rw 11) cRr 313 (fRw 11)), (eA0 dsh cSh 12 fSh)] U.heap ∧ va_K (dC, dI) vwCl [(cDr, .array .long), (cRr, .long), (cRr, .long), (cRr, .long), (cRr, .long), (cRr, .long), (cRr, .long), (cRr, .long), (cRr, .long), (cRr, .long), (cRr, .long), (cRr, .long), (cRr, .long), (cSh, .int)] U)) (vp_Si (fun r => r = fd_tell fRw fSh a0 a1 a2)) 0 0 (fun _ => False) := by
  refine Met.ofW (cc := cX5_tell) (maxL := 10) (ret := (some .int)) (by decide) rfl ?_
  intro p e s m args below meth c s₁ B hml hv
  obtain ⟨rfl, hP, hK⟩ := hv
  have hx := B.exec
  have hb := B.bytes
  have hr := B.returns
  have hts := atoms_spec (ws := Cond.code yX5_tell cX5_tell 10 (some .int) :: wsL_law) B.pre
  have htw : ∀ w ∈ wsL_law, w.before _ s = true := fun w h => hts w (List.mem_cons_of_mem _ h)
  have hown : s.vm.findClass RX5 = some m.cls := findClass_of_methodNamed B.named
  have hlocks := B.notSynchronized
  have hl := lv_entry ([.ref xdy, .int a0, .int a1, .int a2]) (n := 10) (Nat.le_of_ble_eq_true rfl)
  rw [lg_entry_eq]
  generalize (lg_sl ([.ref xdy, .int a0, .int a1, .int a2]) ++ List.replicate (10 - (lg_sl ([.ref xdy, .int a0, .int a1, .int a2])).length) Slot.unset).toArray = ls at hl ⊢
  have hl : lv_has ls 10 [(0, .ref xdy), (1, .int a0), (2, .int a1), (3, .int a2)] := hl
  refine lv_iconst (v := 0) hx hb dX5_tell_0 (by decide) ?_
  refine lv_istore (lv' := [(4, .int 0), (0, .ref xdy), (1, .int a0), (2, .int a1), (3, .int a2)]) hx hb dX5_tell_1 hl (by decide) rfl (fun ls hl => ?_)
  refine lv_iconst (v := (-1)) hx hb dX5_tell_3 (by decide) ?_
  refine lv_istore (lv' := [(5, .int (-1)), (4, .int 0), (0, .ref xdy), (1, .int a0), (2, .int a1), (3, .int a2)]) hx hb dX5_tell_4 hl (by decide) rfl (fun ls hl => ?_)
  refine lv_iconst (v := (-1)) hx hb dX5_tell_6 (by decide) ?_
  refine lv_istore (lv' := [(6, .int (-1)), (5, .int (-1)), (4, .int 0), (0, .ref xdy), (1, .int a0), (2, .int a1), (3, .int a2)]) hx hb dX5_tell_7 hl (by decide) rfl (fun ls hl => ?_)
  refine lv_iconst (v := 0) hx hb dX5_tell_9 (by decide) ?_
  refine lv_istore (lv' := [(7, .int 0), (6, .int (-1)), (5, .int (-1)), (4, .int 0), (0, .ref xdy), (1, .int a0), (2, .int a1), (3, .int a2)]) hx hb dX5_tell_10 hl (by decide) rfl (fun ls hl => ?_)
  have hloop_1 : ∀ (n : Nat) (L4d : Int32) (L5d : Int32) (L6d : Int32) (L7d : Int32) (h0_d : ¬ L7d < 0) (hf_d : (313 : Int32).toInt ≤ L7d.toInt + (n : Int)) (hI_d : fd_tell fRw fSh a0 a1 a2 = fd_tell_d fRw fSh a0 a1 a2 n L4d L5d L6d L7d) (ls : Array Slot) (hl : lv_has ls 10 [(7, .int L7d), (6, .int L6d), (5, .int L5d), (4, .int L4d), (0, .ref xdy), (1, .int a0), (2, .int a1), (3, .int a2)]), W p l e (headSpec (Cond.code yX5_tell cX5_tell 10 (some .int) :: wsL_law) ({ frames := 2, cells := 0, slots := 0, locals := 52 })).room s m ([.ref xdy, .int a0, .int a1, .int a2] : List Value).toArray below meth c s.heap [] 0 0 (MQ below (vp_Si (fun r => r = fd_tell fRw fSh a0 a1 a2)) ([.ref xdy, .int a0, .int a1, .int a2] : List Value).toArray s 0 0 (fun _ => False)) (F0 m 12 ls []) := by
    intro n
    induction n with
    | zero =>
      intro L4d L5d L6d L7d h0_d hf_d hI_d ls hl
      refine lv_iload hx hb dX5_tell_12 (lv_at hl 0 rfl) ?_
      refine lv_sipush (v := 313) hx hb dX5_tell_14 (by decide) ?_
      refine lv_icmp_ge (tgt := 94) hx hb dX5_tell_17 (by decide) (fun c_2 => ?_) (fun c_2 => absurd c_2 (fun h => h (xi_z hf_d)))
      refine lv_iload_n hx hb dX5_tell_94 rfl (lv_at hl 7 rfl) ?_
      refine lv_if_ne (tgt := 101) hx hb dX5_tell_95 (by decide) (fun c_3 => ?_) (fun c_3 => ?_)
      · refine lv_iload_n hx hb dX5_tell_101 rfl (lv_at hl 7 rfl) ?_
        refine lv_iconst (v := 1) hx hb dX5_tell_102 (by decide) ?_
        refine lv_icmp_ne (tgt := 111) hx hb dX5_tell_103 (by decide) (fun c_4 => ?_) (fun c_4 => ?_)
        · refine lv_iload hx hb dX5_tell_111 (lv_at hl 1 rfl) ?_
          exact W.iret (v := L6d) hx hb hr (fun t ht hW => ⟨L6d, rfl, (Eq.symm (hI_d.trans (by rw [fd_tell_d]; (try rw [if_neg c_3]); (try rw [if_neg c_4]); try rfl))), ht⟩) (fun _ h => by cases h) dX5_tell_113
        · refine lv_iload hx hb dX5_tell_106 (lv_at hl 2 rfl) ?_
          refine lv_goto (tgt := 113) hx hb dX5_tell_108 (by decide) ?_
          exact W.iret (v := L5d) hx hb hr (fun t ht hW => ⟨L5d, rfl, (Eq.symm (hI_d.trans (by rw [fd_tell_d]; (try rw [if_neg c_3]); (try rw [if_pos c_4]); try rfl))), ht⟩) (fun _ h => by cases h) dX5_tell_113
      · refine lv_iload hx hb dX5_tell_98 (lv_at hl 3 rfl) ?_
        exact W.iret (v := L4d) hx hb hr (fun t ht hW => ⟨L4d, rfl, (Eq.symm (hI_d.trans (by rw [fd_tell_d]; (try rw [if_pos c_3]); try rfl))), ht⟩) (fun _ h => by cases h) dX5_tell_100
    | succ n ih =>
      intro L4d L5d L6d L7d h0_d hf_d hI_d ls hl
      refine lv_iload hx hb dX5_tell_12 (lv_at hl 0 rfl) ?_
      refine lv_sipush (v := 313) hx hb dX5_tell_14 (by decide) ?_
      refine lv_icmp_ge (tgt := 94) hx hb dX5_tell_17 (by decide) (fun c_5 => ?_) (fun c_5 => ?_)
      · refine lv_iload_n hx hb dX5_tell_94 rfl (lv_at hl 7 rfl) ?_
        refine lv_if_ne (tgt := 101) hx hb dX5_tell_95 (by decide) (fun c_6 => ?_) (fun c_6 => ?_)
        · refine lv_iload_n hx hb dX5_tell_101 rfl (lv_at hl 7 rfl) ?_
          refine lv_iconst (v := 1) hx hb dX5_tell_102 (by decide) ?_
          refine lv_icmp_ne (tgt := 111) hx hb dX5_tell_103 (by decide) (fun c_7 => ?_) (fun c_7 => ?_)
          · refine lv_iload hx hb dX5_tell_111 (lv_at hl 1 rfl) ?_
            exact W.iret (v := L6d) hx hb hr (fun t ht hW => ⟨L6d, rfl, (Eq.symm (hI_d.trans (by rw [fd_tell_d]; (try rw [if_pos c_5]); (try rw [if_neg c_6]); (try rw [if_neg c_7]); try rfl))), ht⟩) (fun _ h => by cases h) dX5_tell_113
          · refine lv_iload hx hb dX5_tell_106 (lv_at hl 2 rfl) ?_
            refine lv_goto (tgt := 113) hx hb dX5_tell_108 (by decide) ?_
            exact W.iret (v := L5d) hx hb hr (fun t ht hW => ⟨L5d, rfl, (Eq.symm (hI_d.trans (by rw [fd_tell_d]; (try rw [if_pos c_5]); (try rw [if_neg c_6]); (try rw [if_pos c_7]); try rfl))), ht⟩) (fun _ h => by cases h) dX5_tell_113
        · refine lv_iload hx hb dX5_tell_98 (lv_at hl 3 rfl) ?_
          exact W.iret (v := L4d) hx hb hr (fun t ht hW => ⟨L4d, rfl, (Eq.symm (hI_d.trans (by rw [fd_tell_d]; (try rw [if_pos c_5]); (try rw [if_pos c_6]); try rfl))), ht⟩) (fun _ h => by cases h) dX5_tell_100
      · refine lv_aload_n hx hb dX5_tell_20 rfl (lv_at hl 4 rfl) ?_
        refine lv_iload_n hx hb dX5_tell_21 rfl (lv_at hl 5 rfl) ?_
        refine lv_iload hx hb dX5_tell_22 (lv_at hl 0 rfl) ?_
        have hPc := hP.sub (ws' := [(eO5a xdy drw dfr dsh dto dmo dwi), (eA4 drw cDr 12 (fun k => some (Rw k))), (eA1 (Rw 0) cRr 313 (fRw 0)), (eA1 (Rw 1) cRr 313 (fRw 1)), (eA1 (Rw 2) cRr 313 (fRw 2)), (eA1 (Rw 3) cRr 313 (fRw 3)), (eA1 (Rw 4) cRr 313 (fRw 4)), (eA1 (Rw 5) cRr 313 (fRw 5)), (eA1 (Rw 6) cRr 313 (fRw 6)), (eA1 (Rw 7) cRr 313 (fRw 7)), (eA1 (Rw 8) cRr 313 (fRw 8)), (eA1 (Rw 9) cRr 313 (fRw 9)), (eA1 (Rw 10) cRr 313 (fRw 10)), (eA1 (Rw 11) cRr 313 (fRw 11)), (eA0 dsh cSh 12 fSh)]) [0, 1, 2, 3, 4, 5, 6, 7, 8, 9, 10, 11, 12, 13, 14] rfl
        have hKc := hK.sub (tys' := [(cDr, .array .long), (cRr, .long), (cRr, .long), (cRr, .long), (cRr, .long), (cRr, .long), (cRr, .long), (cRr, .long), (cRr, .long), (cRr, .long), (cRr, .long), (cRr, .long), (cRr, .long), (cSh, .int)]) [0, 1, 1, 1, 1, 1, 1, 1, 1, 1, 1, 1, 1, 13] rfl
        refine vp_callSl (W.runV (As := [.int a0, .int L7d]) (rest := []) ⟨hx, hb, hml, hown, htw⟩ (gd_topsIn l dC dI xdy drw dfr dsh dto dmo dwi cDr Rw cRr fRw cSh fSh a0 L7d) (cwV 2 htw (xg_V (ck_57 _ (List.mem_of_getElem? (i := 16) rfl)) (ck_57 _ (List.mem_of_getElem? (i := 17) rfl)) (ck_57 _ (List.mem_of_getElem? (i := 18) rfl)) (ck_2 _ (List.mem_of_getElem? (i := 1) rfl)) (ck_57 _ (List.mem_of_getElem? (i := 19) rfl))) rfl rfl rfl (by exact ⟨rfl, hdc_10.1, hdc_10.2, hdd_25⟩) ⟨Nat.le_of_ble_eq_true rfl, Nat.le_of_ble_eq_true rfl⟩) ⟨fun a U g mk q => by obtain ⟨q0, qP, qK⟩ := q; exact ⟨q0, qP, va_K.moved (u := U) (U := U.calling g mk a) (Vm.Alike.refl U.vm) qK⟩, va_recv hKc hPc (ci := 5) (q0 := 0) rfl rfl, fun U hU hW => ⟨rfl, by rw [hU]; exact hPc, va_K.moved hW.alike hKc⟩⟩ rfl rfl hl.1 rfl (lv_room (Nat.le_of_ble_eq_true rfl)) dX5_tell_24 ⟨Nat.le_of_ble_eq_true rfl, Nat.le_of_ble_eq_true rfl⟩) (fun r_8 hw => ?_)
        try dsimp only at hw
        have hq_r_8 : r_8 = (fd_topsIn fRw fSh a0 L7d) := hw
        refine lv_lstore (lv' := [(8, .long r_8), (7, .int L7d), (6, .int L6d), (5, .int L5d), (4, .int L4d), (0, .ref xdy), (1, .int a0), (2, .int a1), (3, .int a2)]) hx hb dX5_tell_27 hl (by decide) rfl (fun ls hl => ?_)
        refine lv_lload hx hb dX5_tell_29 (lv_at hl 0 rfl) ?_
        refine lv_lconst (v := 0) hx hb dX5_tell_31 (by decide) ?_
        refine W.lcmp hx hb dX5_tell_32 ?_
        refine lv_if_ne (tgt := 39) hx hb dX5_tell_33 (by decide) (fun c_9 => ?_) (fun c_9 => ?_)
        · refine lv_iload hx hb dX5_tell_39 (lv_at hl 4 rfl) ?_
          refine lv_lload hx hb dX5_tell_41 (lv_at hl 0 rfl) ?_
          have hPc := hP.sub (ws' := []) [] rfl
          have hKc := hK.sub (tys' := []) [] rfl
          refine vp_callSi (W.runS (As := [.long r_8]) (rest := [.int L4d]) ⟨hx, hb, hml, hown, htw⟩ (gj_bitCountJ l dC dI r_8) (va_cwS 1 htw (xg_S (ck_57 _ (List.mem_of_getElem? (i := 23) rfl)) (ck_58 _ (List.mem_of_getElem? (i := 0) rfl)) (ck_58 _ (List.mem_of_getElem? (i := 1) rfl)) (ck_58 _ (List.mem_of_getElem? (i := 2) rfl))) rfl rfl rfl (by exact ⟨hdc_13.1, hdc_13.2, hdd_6⟩) ⟨Nat.le_of_ble_eq_true rfl, Nat.le_of_ble_eq_true rfl⟩) ⟨fun a U g mk q => by obtain ⟨q0, qP, qK⟩ := q; exact ⟨q0, qP, va_K.moved (u := U) (U := U.calling g mk a) (Vm.Alike.refl U.vm) qK⟩, fun U hU hW => ⟨rfl, by rw [hU]; exact hPc, va_K.moved hW.alike hKc⟩⟩ rfl rfl hl.1 rfl (lv_room (Nat.le_of_ble_eq_true rfl)) dX5_tell_43 ⟨Nat.le_of_ble_eq_true rfl, Nat.le_of_ble_eq_true rfl⟩) (fun r_10 hw => ?_)
          try dsimp only at hw
          have hq_r_10 : r_10 = (fj_bitCountJ r_8) := hw
          refine lv_iadd hx hb dX5_tell_46 ?_
          refine lv_istore (lv' := [(4, .int (L4d + r_10)), (8, .long r_8), (7, .int L7d), (6, .int L6d), (5, .int L5d), (0, .ref xdy), (1, .int a0), (2, .int a1), (3, .int a2)]) hx hb dX5_tell_47 hl (by decide) rfl (fun ls hl => ?_)
          refine lv_iload hx hb dX5_tell_49 (lv_at hl 4 rfl) ?_
          refine lv_iconst (v := (-1)) hx hb dX5_tell_51 (by decide) ?_
          refine lv_icmp_ne (tgt := 70) hx hb dX5_tell_52 (by decide) (fun c_11 => ?_) (fun c_11 => ?_)
          · refine lv_iload hx hb dX5_tell_70 (lv_at hl 2 rfl) ?_
            refine lv_bipush (v := 64) hx hb dX5_tell_72 (by decide) ?_
            refine lv_imul hx hb dX5_tell_74 ?_
            refine lv_iload_n hx hb dX5_tell_75 rfl (lv_at hl 7 rfl) ?_
            refine lv_iadd hx hb dX5_tell_76 ?_
            refine lv_bipush (v := 63) hx hb dX5_tell_77 (by decide) ?_
            refine lv_iadd hx hb dX5_tell_79 ?_
            refine lv_lload hx hb dX5_tell_80 (lv_at hl 1 rfl) ?_
            have hPc := hP.sub (ws' := []) [] rfl
            have hKc := hK.sub (tys' := []) [] rfl
            refine vp_callSi (W.runS (As := [.long r_8]) (rest := [.int (((L7d * 64) + a1) + 63)]) ⟨hx, hb, hml, hown, htw⟩ (gj_nlzJ l dC dI r_8) (va_cwS 1 htw (xg_S (ck_58 _ (List.mem_of_getElem? (i := 14) rfl)) (ck_58 _ (List.mem_of_getElem? (i := 15) rfl)) (ck_58 _ (List.mem_of_getElem? (i := 1) rfl)) (ck_58 _ (List.mem_of_getElem? (i := 16) rfl))) rfl rfl rfl (by exact ⟨hdc_13.1, hdc_13.2, hdd_6⟩) ⟨Nat.le_of_ble_eq_true rfl, Nat.le_of_ble_eq_true rfl⟩) ⟨fun a U g mk q => by obtain ⟨q0, qP, qK⟩ := q; exact ⟨q0, qP, va_K.moved (u := U) (U := U.calling g mk a) (Vm.Alike.refl U.vm) qK⟩, fun U hU hW => ⟨rfl, by rw [hU]; exact hPc, va_K.moved hW.alike hKc⟩⟩ rfl rfl hl.1 rfl (lv_room (Nat.le_of_ble_eq_true rfl)) dX5_tell_82 ⟨Nat.le_of_ble_eq_true rfl, Nat.le_of_ble_eq_true rfl⟩) (fun r_12 hw => ?_)
            try dsimp only at hw
            have hq_r_12 : r_12 = (fj_nlzJ r_8) := hw
            refine lv_isub hx hb dX5_tell_85 ?_
            refine lv_istore (lv' := [(6, .int ((((L7d * 64) + a1) + 63) - r_12)), (4, .int (L4d + r_10)), (8, .long r_8), (7, .int L7d), (5, .int L5d), (0, .ref xdy), (1, .int a0), (2, .int a1), (3, .int a2)]) hx hb dX5_tell_86 hl (by decide) rfl (fun ls hl => ?_)
            refine lv_iinc (v := (L7d + 1)) (lv' := [(7, .int (L7d + 1)), (6, .int ((((L7d * 64) + a1) + 63) - r_12)), (4, .int (L4d + r_10)), (8, .long r_8), (5, .int L5d), (0, .ref xdy), (1, .int a0), (2, .int a1), (3, .int a2)]) hx hb dX5_tell_88 hl (k := 3) rfl (rfl) (by decide) rfl (fun ls hl => ?_)
            refine lv_goto (tgt := 12) hx hb dX5_tell_91 (by decide) ?_
            exact ih (L4d + r_10) L5d ((((L7d * 64) + a1) + 63) - r_12) (L7d + 1) (gd_tell_s0 (y0 := L7d) c_5 h0_d) (by rw [xi_s' c_5]; omega) (hI_d.trans (by rw [fd_tell_d]; (try rw [if_neg c_5]); (try rw [← hq_r_8]); (try rw [xL_eq]); (try rw [if_neg c_9]); (try rw [← hq_r_10]); (try rw [xL_eq]); (try rw [if_neg c_11]); (try rw [← hq_r_12]); (try rw [xL_eq]); try rfl)) ls (lv_sub hl [0, 1, 4, 2, 5, 6, 7, 8] rfl)
          · refine lv_iload hx hb dX5_tell_55 (lv_at hl 2 rfl) ?_
            refine lv_bipush (v := 64) hx hb dX5_tell_57 (by decide) ?_
            refine lv_imul hx hb dX5_tell_59 ?_
            refine lv_iload_n hx hb dX5_tell_60 rfl (lv_at hl 7 rfl) ?_
            refine lv_iadd hx hb dX5_tell_61 ?_
            refine lv_lload hx hb dX5_tell_62 (lv_at hl 1 rfl) ?_
            have hPc := hP.sub (ws' := []) [] rfl
            have hKc := hK.sub (tys' := []) [] rfl
            refine vp_callSi (W.runS (As := [.long r_8]) (rest := [.int ((L7d * 64) + a1)]) ⟨hx, hb, hml, hown, htw⟩ (gj_ntzJ l dC dI r_8) (va_cwS 1 htw (xg_S (ck_58 _ (List.mem_of_getElem? (i := 6) rfl)) (ck_58 _ (List.mem_of_getElem? (i := 7) rfl)) (ck_58 _ (List.mem_of_getElem? (i := 1) rfl)) (ck_58 _ (List.mem_of_getElem? (i := 8) rfl))) rfl rfl rfl (by exact ⟨hdc_13.1, hdc_13.2, hdd_6⟩) ⟨Nat.le_of_ble_eq_true rfl, Nat.le_of_ble_eq_true rfl⟩) ⟨fun a U g mk q => by obtain ⟨q0, qP, qK⟩ := q; exact ⟨q0, qP, va_K.moved (u := U) (U := U.calling g mk a) (Vm.Alike.refl U.vm) qK⟩, fun U hU hW => ⟨rfl, by rw [hU]; exact hPc, va_K.moved hW.alike hKc⟩⟩ rfl rfl hl.1 rfl (lv_room (Nat.le_of_ble_eq_true rfl)) dX5_tell_64 ⟨Nat.le_of_ble_eq_true rfl, Nat.le_of_ble_eq_true rfl⟩) (fun r_13 hw => ?_)
            try dsimp only at hw
            have hq_r_13 : r_13 = (fj_ntzJ r_8) := hw
            refine lv_iadd hx hb dX5_tell_67 ?_
            refine lv_istore (lv' := [(5, .int (((L7d * 64) + a1) + r_13)), (4, .int (L4d + r_10)), (8, .long r_8), (7, .int L7d), (6, .int L6d), (0, .ref xdy), (1, .int a0), (2, .int a1), (3, .int a2)]) hx hb dX5_tell_68 hl (by decide) rfl (fun ls hl => ?_)
            refine lv_iload hx hb dX5_tell_70 (lv_at hl 3 rfl) ?_
            refine lv_bipush (v := 64) hx hb dX5_tell_72 (by decide) ?_
            refine lv_imul hx hb dX5_tell_74 ?_
            refine lv_iload_n hx hb dX5_tell_75 rfl (lv_at hl 7 rfl) ?_
            refine lv_iadd hx hb dX5_tell_76 ?_
            refine lv_bipush (v := 63) hx hb dX5_tell_77 (by decide) ?_
            refine lv_iadd hx hb dX5_tell_79 ?_
            refine lv_lload hx hb dX5_tell_80 (lv_at hl 2 rfl) ?_
            have hPc := hP.sub (ws' := []) [] rfl
            have hKc := hK.sub (tys' := []) [] rfl
            refine vp_callSi (W.runS (As := [.long r_8]) (rest := [.int (((L7d * 64) + a1) + 63)]) ⟨hx, hb, hml, hown, htw⟩ (gj_nlzJ l dC dI r_8) (va_cwS 1 htw (xg_S (ck_58 _ (List.mem_of_getElem? (i := 14) rfl)) (ck_58 _ (List.mem_of_getElem? (i := 15) rfl)) (ck_58 _ (List.mem_of_getElem? (i := 1) rfl)) (ck_58 _ (List.mem_of_getElem? (i := 16) rfl))) rfl rfl rfl (by exact ⟨hdc_13.1, hdc_13.2, hdd_6⟩) ⟨Nat.le_of_ble_eq_true rfl, Nat.le_of_ble_eq_true rfl⟩) ⟨fun a U g mk q => by obtain ⟨q0, qP, qK⟩ := q; exact ⟨q0, qP, va_K.moved (u := U) (U := U.calling g mk a) (Vm.Alike.refl U.vm) qK⟩, fun U hU hW => ⟨rfl, by rw [hU]; exact hPc, va_K.moved hW.alike hKc⟩⟩ rfl rfl hl.1 rfl (lv_room (Nat.le_of_ble_eq_true rfl)) dX5_tell_82 ⟨Nat.le_of_ble_eq_true rfl, Nat.le_of_ble_eq_true rfl⟩) (fun r_14 hw => ?_)
            try dsimp only at hw
            have hq_r_14 : r_14 = (fj_nlzJ r_8) := hw
            refine lv_isub hx hb dX5_tell_85 ?_
            refine lv_istore (lv' := [(6, .int ((((L7d * 64) + a1) + 63) - r_14)), (5, .int (((L7d * 64) + a1) + r_13)), (4, .int (L4d + r_10)), (8, .long r_8), (7, .int L7d), (0, .ref xdy), (1, .int a0), (2, .int a1), (3, .int a2)]) hx hb dX5_tell_86 hl (by decide) rfl (fun ls hl => ?_)
            refine lv_iinc (v := (L7d + 1)) (lv' := [(7, .int (L7d + 1)), (6, .int ((((L7d * 64) + a1) + 63) - r_14)), (5, .int (((L7d * 64) + a1) + r_13)), (4, .int (L4d + r_10)), (8, .long r_8), (0, .ref xdy), (1, .int a0), (2, .int a1), (3, .int a2)]) hx hb dX5_tell_88 hl (k := 4) rfl (rfl) (by decide) rfl (fun ls hl => ?_)
            refine lv_goto (tgt := 12) hx hb dX5_tell_91 (by decide) ?_
            exact ih (L4d + r_10) (((L7d * 64) + a1) + r_13) ((((L7d * 64) + a1) + 63) - r_14) (L7d + 1) (gd_tell_s1 (y0 := L7d) c_5 h0_d) (by rw [xi_s' c_5]; omega) (hI_d.trans (by rw [fd_tell_d]; (try rw [if_neg c_5]); (try rw [← hq_r_8]); (try rw [xL_eq]); (try rw [if_neg c_9]); (try rw [← hq_r_10]); (try rw [xL_eq]); (try rw [if_pos c_11]); (try rw [← hq_r_13]); (try rw [xL_eq]); (try rw [← hq_r_14]); (try rw [xL_eq]); try rfl)) ls (lv_sub hl [0, 1, 2, 3, 5, 6, 7, 8] rfl)
        · refine lv_goto (tgt := 88) hx hb dX5_tell_36 (by decide) ?_
          refine lv_iinc (v := (L7d + 1)) (lv' := [(7, .int (L7d + 1)), (8, .long r_8), (6, .int L6d), (5, .int L5d), (4, .int L4d), (0, .ref xdy), (1, .int a0), (2, .int a1), (3, .int a2)]) hx hb dX5_tell_88 hl (k := 1) rfl (rfl) (by decide) rfl (fun ls hl => ?_)
          refine lv_goto (tgt := 12) hx hb dX5_tell_91 (by decide) ?_
          exact ih L4d L5d L6d (L7d + 1) (gd_tell_s2 (y0 := L7d) c_5 h0_d) (by rw [xi_s' c_5]; omega) (hI_d.trans (by rw [fd_tell_d]; (try rw [if_neg c_5]); (try rw [← hq_r_8]); (try rw [xL_eq]); (try rw [if_pos c_9]); try rfl)) ls (lv_sub hl [0, 2, 3, 4, 5, 6, 7, 8] rfl)
  exact hloop_1 313 (0 : Int32) (-1 : Int32) (-1 : Int32) (0 : Int32) (gd_tell_s3 ) (by decide) ((by rw [fd_tell])) ls (lv_sub hl [0, 1, 2, 3, 4, 5, 6, 7] rfl)
