def fb_early (fTo : Nat → Int32) (FI : Nat → Int32) (GR : Nat → Int32) (FR : Nat → Int32) (fBo : Nat → Int64) (fNs : Nat → Int32) (fNf : Nat → Int32) (a0 : Int32) : Int64 := (xL (fn_does fNs a0 (0 : Int32)) (fun r_1 => (if r_1 = 0 then (xL (fn_firstOf fNf a0 (5 : Int32)) (fun r_3 => (xL (fn_does fNs a0 (5 : Int32)) (fun r_4 => (if r_4 = 0 then (0 : Int64) else (xL (fb_has fTo (2 : Int32) r_3) (fun r_6 => (if r_6 = 0 then (0 : Int64) else (if (fBo r_3.toNatClampNeg) < 0 then 0 else (fBo r_3.toNatClampNeg)))))))))) else (if fb_landIs fTo (0 : Int32) = 0 then (xL (fn_firstOf fNf a0 (0 : Int32)) (fun r_10 => (20000 : Int64))) else (xL (fn_firstOf fNf a0 (0 : Int32)) (fun r_11 => (xL (fl_isThere (FI 0) (GR 0) (FR 0) r_11.toInt64) (fun r_12 => (if r_12 = 0 then (20000 : Int64) else (xL (fl_beginOf (FI 0) (GR 0) (FR 0) r_11.toInt64) (fun r_14 => (xL (fn_firstOf fNf a0 (5 : Int32)) (fun r_15 => (xL (fn_does fNs a0 (5 : Int32)) (fun r_16 => (if r_16 = 0 then r_14 else (xL (fb_has fTo (2 : Int32) r_15) (fun r_18 => (if r_18 = 0 then r_14 else (if (fBo r_15.toNatClampNeg) < r_14 then r_14 else (fBo r_15.toNatClampNeg)))))))))))))))))))))
theorem gb_early_s0 {y0 : Int32} {y1 : Int32} (h0 : y1 ≤ 6) (h1 : ¬ (y1 ≤ y0)) (h2 : ¬ (y0 < 0)) : ¬ (y0 < 0) ∧ ¬ (6 ≤ y0) := by lia
theorem gb_early_s1 {y0 : Int32} {y1 : Int32} (h0 : y1 ≤ 6) (h1 : ¬ (y1 ≤ y0)) (h2 : ¬ (y0 < 0)) : ¬ (y0 < 0) ∧ ¬ (6 ≤ y0) := by lia
theorem dX0_earliestOf_0 : decode cX0_earliestOf 0 = .ok (.lconst 0, 1) := zk_9 (by decide +kernel)
theorem dX0_earliestOf_1 : decode cX0_earliestOf 1 = .ok (.lstore_n 2, 1) := zk_65 (by decide +kernel)
theorem dX0_earliestOf_2 : decode cX0_earliestOf 2 = .ok (.aload_n 0, 1) := zk_42 (by decide +kernel)
theorem dX0_earliestOf_3 : decode cX0_earliestOf 3 = .ok (.getfield 65, 3) := zk_180 (by decide +kernel)
theorem dX0_earliestOf_6 : decode cX0_earliestOf 6 = .ok (.iload_n 1, 1) := zk_27 (by decide +kernel)
theorem dX0_earliestOf_7 : decode cX0_earliestOf 7 = .ok (.iconst 0, 1) := zk_3 (by decide +kernel)
theorem dX0_earliestOf_8 : decode cX0_earliestOf 8 = .ok (.invokevirtual 88, 3) := zk_182 (by decide +kernel)
theorem dX0_earliestOf_11 : decode cX0_earliestOf 11 = .ok (.ifCond .eq 50, 3) := zk_153 (by decide +kernel)
theorem dX0_earliestOf_61 : decode cX0_earliestOf 61 = .ok (.aload_n 0, 1) := zk_42 (by decide +kernel)
theorem dX0_earliestOf_62 : decode cX0_earliestOf 62 = .ok (.getfield 65, 3) := zk_180 (by decide +kernel)
theorem dX0_earliestOf_65 : decode cX0_earliestOf 65 = .ok (.iload_n 1, 1) := zk_27 (by decide +kernel)
theorem dX0_earliestOf_66 : decode cX0_earliestOf 66 = .ok (.iconst 5, 1) := zk_8 (by decide +kernel)
theorem dX0_earliestOf_67 : decode cX0_earliestOf 67 = .ok (.invokevirtual 95, 3) := zk_182 (by decide +kernel)
theorem dX0_earliestOf_70 : decode cX0_earliestOf 70 = .ok (.istore 4, 2) := zk_54 (by decide +kernel)
theorem dX0_earliestOf_72 : decode cX0_earliestOf 72 = .ok (.aload_n 0, 1) := zk_42 (by decide +kernel)
theorem dX0_earliestOf_73 : decode cX0_earliestOf 73 = .ok (.getfield 65, 3) := zk_180 (by decide +kernel)
theorem dX0_earliestOf_76 : decode cX0_earliestOf 76 = .ok (.iload_n 1, 1) := zk_27 (by decide +kernel)
theorem dX0_earliestOf_77 : decode cX0_earliestOf 77 = .ok (.iconst 5, 1) := zk_8 (by decide +kernel)
theorem dX0_earliestOf_78 : decode cX0_earliestOf 78 = .ok (.invokevirtual 88, 3) := zk_182 (by decide +kernel)
theorem dX0_earliestOf_81 : decode cX0_earliestOf 81 = .ok (.ifCond .eq 25, 3) := zk_153 (by decide +kernel)
theorem dX0_earliestOf_106 : decode cX0_earliestOf 106 = .ok (.lload_n 2, 1) := zk_32 (by decide +kernel)
theorem dX0_earliestOf_107 : decode cX0_earliestOf 107 = .ok (.lreturn, 1) := zk_173 (by decide +kernel)
theorem dX0_earliestOf_84 : decode cX0_earliestOf 84 = .ok (.aload_n 0, 1) := zk_42 (by decide +kernel)
theorem dX0_earliestOf_85 : decode cX0_earliestOf 85 = .ok (.iconst 2, 1) := zk_5 (by decide +kernel)
theorem dX0_earliestOf_86 : decode cX0_earliestOf 86 = .ok (.iload 4, 2) := zk_21 (by decide +kernel)
theorem dX0_earliestOf_88 : decode cX0_earliestOf 88 = .ok (.invokevirtual 84, 3) := zk_182 (by decide +kernel)
theorem dX0_earliestOf_91 : decode cX0_earliestOf 91 = .ok (.ifCond .eq 15, 3) := zk_153 (by decide +kernel)
theorem dX0_earliestOf_94 : decode cX0_earliestOf 94 = .ok (.lload_n 2, 1) := zk_32 (by decide +kernel)
theorem dX0_earliestOf_95 : decode cX0_earliestOf 95 = .ok (.aload_n 0, 1) := zk_42 (by decide +kernel)
theorem dX0_earliestOf_96 : decode cX0_earliestOf 96 = .ok (.getfield 43, 3) := zk_180 (by decide +kernel)
theorem dX0_earliestOf_99 : decode cX0_earliestOf 99 = .ok (.iload 4, 2) := zk_21 (by decide +kernel)
theorem dX0_earliestOf_101 : decode cX0_earliestOf 101 = .ok (.laload, 1) := zk_47 (by decide +kernel)
theorem dX0_earliestOf_102 : decode cX0_earliestOf 102 = .ok (.invokestatic 109, 3) := zk_184 (by decide +kernel)
theorem dX0_earliestOf_105 : decode cX0_earliestOf 105 = .ok (.lstore_n 2, 1) := zk_65 (by decide +kernel)
theorem dX0_earliestOf_14 : decode cX0_earliestOf 14 = .ok (.aload_n 0, 1) := zk_42 (by decide +kernel)
theorem dX0_earliestOf_15 : decode cX0_earliestOf 15 = .ok (.iconst 0, 1) := zk_3 (by decide +kernel)
theorem dX0_earliestOf_16 : decode cX0_earliestOf 16 = .ok (.invokevirtual 91, 3) := zk_182 (by decide +kernel)
theorem dX0_earliestOf_19 : decode cX0_earliestOf 19 = .ok (.astore 4, 2) := zk_58 (by decide +kernel)
theorem dX0_earliestOf_21 : decode cX0_earliestOf 21 = .ok (.aload_n 0, 1) := zk_42 (by decide +kernel)
theorem dX0_earliestOf_22 : decode cX0_earliestOf 22 = .ok (.getfield 65, 3) := zk_180 (by decide +kernel)
theorem dX0_earliestOf_25 : decode cX0_earliestOf 25 = .ok (.iload_n 1, 1) := zk_27 (by decide +kernel)
theorem dX0_earliestOf_26 : decode cX0_earliestOf 26 = .ok (.iconst 0, 1) := zk_3 (by decide +kernel)
theorem dX0_earliestOf_27 : decode cX0_earliestOf 27 = .ok (.invokevirtual 95, 3) := zk_182 (by decide +kernel)
theorem dX0_earliestOf_30 : decode cX0_earliestOf 30 = .ok (.istore 5, 2) := zk_54 (by decide +kernel)
theorem dX0_earliestOf_32 : decode cX0_earliestOf 32 = .ok (.aload 4, 2) := zk_25 (by decide +kernel)
theorem dX0_earliestOf_34 : decode cX0_earliestOf 34 = .ok (.ifnull 14, 3) := zk_198 (by decide +kernel)
theorem dX0_earliestOf_48 : decode cX0_earliestOf 48 = .ok (.ldc2_w 103, 3) := zk_20 (by decide +kernel)
theorem dX0_earliestOf_51 : decode cX0_earliestOf 51 = .ok (.lreturn, 1) := zk_173 (by decide +kernel)
theorem dX0_earliestOf_37 : decode cX0_earliestOf 37 = .ok (.aload 4, 2) := zk_25 (by decide +kernel)
theorem dX0_earliestOf_39 : decode cX0_earliestOf 39 = .ok (.iload 5, 2) := zk_21 (by decide +kernel)
theorem dX0_earliestOf_41 : decode cX0_earliestOf 41 = .ok (.i2l, 1) := zk_133 (by decide +kernel)
theorem dX0_earliestOf_42 : decode cX0_earliestOf 42 = .ok (.invokevirtual 99, 3) := zk_182 (by decide +kernel)
theorem dX0_earliestOf_45 : decode cX0_earliestOf 45 = .ok (.ifCond .ne 7, 3) := zk_154 (by decide +kernel)
theorem dX0_earliestOf_52 : decode cX0_earliestOf 52 = .ok (.aload 4, 2) := zk_25 (by decide +kernel)
theorem dX0_earliestOf_54 : decode cX0_earliestOf 54 = .ok (.iload 5, 2) := zk_21 (by decide +kernel)
theorem dX0_earliestOf_56 : decode cX0_earliestOf 56 = .ok (.i2l, 1) := zk_133 (by decide +kernel)
theorem dX0_earliestOf_57 : decode cX0_earliestOf 57 = .ok (.invokevirtual 105, 3) := zk_182 (by decide +kernel)
theorem dX0_earliestOf_60 : decode cX0_earliestOf 60 = .ok (.lstore_n 2, 1) := zk_65 (by decide +kernel)
set_option maxHeartbeats 4000000 in
set_option maxRecDepth 100000 in
theorem gb_early (l : Launch) (dC : Nat → ClassId) (dI : Nat → Nat → Nat) (bk : Nat) (bto : Nat) (bnm : Nat) (bla : Nat) (bsk : Nat) (bru : Nat) (bbo : Nat) (bdi : Nat) (bda : Nat) (bdk : Nat) (bdt : Nat) (bdp : Nat) (bno : Nat) (cTo : ClassId) (fTo : Nat → Int32) (cLa : ClassId) (La : Nat → Nat) (FI : Nat → Int32) (GR : Nat → Int32) (FR : Nat → Int32) (cBb : ClassId) (fBo : Nat → Int64) (ns : Int32) (nsa : Nat) (nfa : Nat) (nza : Nat) (cNs : ClassId) (fNs : Nat → Int32) (cNf : ClassId) (fNf : Nat → Int32) (a0 : Int32) (ht2 : (fTo 2) ≤ 6) : Met l yX0_earliestOf (Cond.code yX0_earliestOf cX0_earliestOf 6 (some .long) :: wsL_law) ({ frames := 2, cells := 0, slots := 0, locals := 45 }) (va_Pc [.ref bk, .int a0] (fun U => va_P (dC, dI) vwCl [(eO0a bk bto bnm bla bsk bru bbo bdi bda bdk bdt bdp bno), (eA0 bto cTo 5 fTo), (eA4 bla cLa 4 (fun k => some (La k))), (eO1a (La 0) (FI 0) (GR 0) (FR 0)), (eA1 bbo cBb 6 fBo), (eO6a bno ns nsa nfa nza), (eA0 nsa cNs 12 fNs), (eA0 nfa cNf 96 fNf)] U.heap ∧ va_K (dC, dI) vwCl [(cTo, .int), (cLa, .object RX1), (cBb, .long), (cNs, .int), (cNf, .int)] U)) (vp_Sl (fun r => r = fb_early fTo FI GR FR fBo fNs fNf a0)) 0 0 (fun _ => False) := by
  refine Met.ofW (cc := cX0_earliestOf) (maxL := 6) (ret := (some .long)) (by decide) rfl ?_
  intro p e s m args below meth c s₁ B hml hv
  obtain ⟨rfl, hP, hK⟩ := hv
  have hx := B.exec
  have hb := B.bytes
  have hr := B.returns
  have hts := atoms_spec (ws := Cond.code yX0_earliestOf cX0_earliestOf 6 (some .long) :: wsL_law) B.pre
  have htw : ∀ w ∈ wsL_law, w.before _ s = true := fun w h => hts w (List.mem_cons_of_mem _ h)
  have hown : s.vm.findClass RX0 = some m.cls := findClass_of_methodNamed B.named
  have hlocks := B.notSynchronized
  have hl := lv_entry ([.ref bk, .int a0]) (n := 6) (Nat.le_of_ble_eq_true rfl)
  rw [lg_entry_eq]
  generalize (lg_sl ([.ref bk, .int a0]) ++ List.replicate (6 - (lg_sl ([.ref bk, .int a0])).length) Slot.unset).toArray = ls at hl ⊢
  have hl : lv_has ls 6 [(0, .ref bk), (1, .int a0)] := hl
  refine lv_lconst (v := 0) hx hb dX0_earliestOf_0 (by decide) ?_
  refine lv_lstore_n (lv' := [(2, .long 0), (0, .ref bk), (1, .int a0)]) hx hb dX0_earliestOf_1 rfl hl (by decide) rfl (fun ls hl => ?_)
  refine lv_aload_n hx hb dX0_earliestOf_2 rfl (lv_at hl 1 rfl) ?_
  refine va_get (D := (dC, dI)) (ci := 0) (v := .ref bno) (C := RX0) (T := TX0) (N := 12) hx hb htw inlX0 hown hK hP 0 rfl rfl 11 (by decide) (htw _ (ck_6 _ (List.mem_of_getElem? (i := 17) rfl))) (fun _ h9 => h9) rfl dX0_earliestOf_3 ?_
  refine lv_iload_n hx hb dX0_earliestOf_6 rfl (lv_at hl 2 rfl) ?_
  refine lv_iconst (v := 0) hx hb dX0_earliestOf_7 (by decide) ?_
  have hPc := hP.sub (ws' := [(eO6a bno ns nsa nfa nza), (eA0 nsa cNs 12 fNs)]) [5, 6] rfl
  have hKc := hK.sub (tys' := [(cNs, .int)]) [3] rfl
  refine vp_callSi (W.runV (As := [.int a0, .int 0]) (rest := []) ⟨hx, hb, hml, hown, htw⟩ (gn_does l dC dI bno ns nsa nfa nza cNs fNs a0 (0 : Int32)) (cwV 2 htw (xg_V (ck_55 _ (List.mem_of_getElem? (i := 2) rfl)) (ck_23 _ (List.mem_of_getElem? (i := 10) rfl)) (ck_23 _ (List.mem_of_getElem? (i := 11) rfl)) (ck_2 _ (List.mem_of_getElem? (i := 11) rfl)) (ck_23 _ (List.mem_of_getElem? (i := 12) rfl))) rfl rfl rfl (by exact ⟨rfl, hdc_3.1, hdc_3.2, hdd_8⟩) ⟨Nat.le_of_ble_eq_true rfl, Nat.le_of_ble_eq_true rfl⟩) ⟨fun a U g mk q => by obtain ⟨q0, qP, qK⟩ := q; exact ⟨q0, qP, va_K.moved (u := U) (U := U.calling g mk a) (Vm.Alike.refl U.vm) qK⟩, va_recv hKc hPc (ci := 6) (q0 := 0) rfl rfl, fun U hU hW => ⟨rfl, by rw [hU]; exact hPc, va_K.moved hW.alike hKc⟩⟩ rfl rfl hl.1 rfl (lv_room (Nat.le_of_ble_eq_true rfl)) dX0_earliestOf_8 ⟨Nat.le_of_ble_eq_true rfl, Nat.le_of_ble_eq_true rfl⟩) (fun r_1 hw => ?_)
  try dsimp only at hw
  have hq_r_1 : r_1 = fn_does fNs a0 (0 : Int32) := hw
  refine lv_if_eq (tgt := 61) hx hb dX0_earliestOf_11 (by decide) (fun c_2 => ?_) (fun c_2 => ?_)
  · refine lv_aload_n hx hb dX0_earliestOf_61 rfl (lv_at hl 1 rfl) ?_
    refine va_get (D := (dC, dI)) (ci := 0) (v := .ref bno) (C := RX0) (T := TX0) (N := 12) hx hb htw inlX0 hown hK hP 0 rfl rfl 11 (by decide) (htw _ (ck_6 _ (List.mem_of_getElem? (i := 17) rfl))) (fun _ h9 => h9) rfl dX0_earliestOf_62 ?_
    refine lv_iload_n hx hb dX0_earliestOf_65 rfl (lv_at hl 2 rfl) ?_
    refine lv_iconst (v := 5) hx hb dX0_earliestOf_66 (by decide) ?_
    have hPc := hP.sub (ws' := [(eO6a bno ns nsa nfa nza), (eA0 nfa cNf 96 fNf)]) [5, 7] rfl
    have hKc := hK.sub (tys' := [(cNf, .int)]) [4] rfl
    refine vp_callSi (W.runV (As := [.int a0, .int 5]) (rest := []) ⟨hx, hb, hml, hown, htw⟩ (gn_firstOf l dC dI bno ns nsa nfa nza cNf fNf a0 (5 : Int32)) (cwV 2 htw (xg_V (ck_55 _ (List.mem_of_getElem? (i := 4) rfl)) (ck_55 _ (List.mem_of_getElem? (i := 5) rfl)) (ck_55 _ (List.mem_of_getElem? (i := 6) rfl)) (ck_2 _ (List.mem_of_getElem? (i := 11) rfl)) (ck_55 _ (List.mem_of_getElem? (i := 7) rfl))) rfl rfl rfl (by exact ⟨rfl, hdc_3.1, hdc_3.2, hdd_7⟩) ⟨Nat.le_of_ble_eq_true rfl, Nat.le_of_ble_eq_true rfl⟩) ⟨fun a U g mk q => by obtain ⟨q0, qP, qK⟩ := q; exact ⟨q0, qP, va_K.moved (u := U) (U := U.calling g mk a) (Vm.Alike.refl U.vm) qK⟩, va_recv hKc hPc (ci := 6) (q0 := 0) rfl rfl, fun U hU hW => ⟨rfl, by rw [hU]; exact hPc, va_K.moved hW.alike hKc⟩⟩ rfl rfl hl.1 rfl (lv_room (Nat.le_of_ble_eq_true rfl)) dX0_earliestOf_67 ⟨Nat.le_of_ble_eq_true rfl, Nat.le_of_ble_eq_true rfl⟩) (fun r_3 hw => ?_)
    try dsimp only at hw
    have hq_r_3 : r_3 = fn_firstOf fNf a0 (5 : Int32) := hw
    refine lv_istore (lv' := [(4, .int r_3), (2, .long 0), (0, .ref bk), (1, .int a0)]) hx hb dX0_earliestOf_70 hl (by decide) rfl (fun ls hl => ?_)
    refine lv_aload_n hx hb dX0_earliestOf_72 rfl (lv_at hl 2 rfl) ?_
    refine va_get (D := (dC, dI)) (ci := 0) (v := .ref bno) (C := RX0) (T := TX0) (N := 12) hx hb htw inlX0 hown hK hP 0 rfl rfl 11 (by decide) (htw _ (ck_6 _ (List.mem_of_getElem? (i := 17) rfl))) (fun _ h9 => h9) rfl dX0_earliestOf_73 ?_
    refine lv_iload_n hx hb dX0_earliestOf_76 rfl (lv_at hl 3 rfl) ?_
    refine lv_iconst (v := 5) hx hb dX0_earliestOf_77 (by decide) ?_
    have hPc := hP.sub (ws' := [(eO6a bno ns nsa nfa nza), (eA0 nsa cNs 12 fNs)]) [5, 6] rfl
    have hKc := hK.sub (tys' := [(cNs, .int)]) [3] rfl
    refine vp_callSi (W.runV (As := [.int a0, .int 5]) (rest := []) ⟨hx, hb, hml, hown, htw⟩ (gn_does l dC dI bno ns nsa nfa nza cNs fNs a0 (5 : Int32)) (cwV 2 htw (xg_V (ck_55 _ (List.mem_of_getElem? (i := 2) rfl)) (ck_23 _ (List.mem_of_getElem? (i := 10) rfl)) (ck_23 _ (List.mem_of_getElem? (i := 11) rfl)) (ck_2 _ (List.mem_of_getElem? (i := 11) rfl)) (ck_23 _ (List.mem_of_getElem? (i := 12) rfl))) rfl rfl rfl (by exact ⟨rfl, hdc_3.1, hdc_3.2, hdd_8⟩) ⟨Nat.le_of_ble_eq_true rfl, Nat.le_of_ble_eq_true rfl⟩) ⟨fun a U g mk q => by obtain ⟨q0, qP, qK⟩ := q; exact ⟨q0, qP, va_K.moved (u := U) (U := U.calling g mk a) (Vm.Alike.refl U.vm) qK⟩, va_recv hKc hPc (ci := 6) (q0 := 0) rfl rfl, fun U hU hW => ⟨rfl, by rw [hU]; exact hPc, va_K.moved hW.alike hKc⟩⟩ rfl rfl hl.1 rfl (lv_room (Nat.le_of_ble_eq_true rfl)) dX0_earliestOf_78 ⟨Nat.le_of_ble_eq_true rfl, Nat.le_of_ble_eq_true rfl⟩) (fun r_4 hw => ?_)
    try dsimp only at hw
    have hq_r_4 : r_4 = fn_does fNs a0 (5 : Int32) := hw
    refine lv_if_eq (tgt := 106) hx hb dX0_earliestOf_81 (by decide) (fun c_5 => ?_) (fun c_5 => ?_)
    · refine lv_lload_n hx hb dX0_earliestOf_106 rfl (lv_at hl 1 rfl) ?_
      exact W.lret (v := 0) hx hb hr (fun t ht hW => ⟨0, rfl, (Eq.symm ((by rw [fb_early]; (try rw [← hq_r_1]); (try rw [xL_eq]); (try rw [if_pos c_2]); (try rw [← hq_r_3]); (try rw [xL_eq]); (try rw [← hq_r_4]); (try rw [xL_eq]); (try rw [if_pos c_5]); try rfl))), ht⟩) (fun _ h => by cases h) dX0_earliestOf_107
    · refine lv_aload_n hx hb dX0_earliestOf_84 rfl (lv_at hl 2 rfl) ?_
      refine lv_iconst (v := 2) hx hb dX0_earliestOf_85 (by decide) ?_
      refine lv_iload hx hb dX0_earliestOf_86 (lv_at hl 0 rfl) ?_
      have hPc := hP.sub (ws' := [(eO0a bk bto bnm bla bsk bru bbo bdi bda bdk bdt bdp bno), (eA0 bto cTo 5 fTo)]) [0, 1] rfl
      have hKc := hK.sub (tys' := [(cTo, .int)]) [0] rfl
      refine vp_callSi (W.runV (As := [.int 2, .int r_3]) (rest := []) ⟨hx, hb, hml, hown, htw⟩ (gb_has l dC dI bk bto bnm bla bsk bru bbo bdi bda bdk bdt bdp bno cTo fTo (2 : Int32) r_3) (cwV 2 htw (xg_V (ck_21 _ (List.mem_of_getElem? (i := 1) rfl)) (ck_21 _ (List.mem_of_getElem? (i := 2) rfl)) (ck_21 _ (List.mem_of_getElem? (i := 3) rfl)) (ck_1 _ (List.mem_of_getElem? (i := 20) rfl)) (ck_21 _ (List.mem_of_getElem? (i := 4) rfl))) rfl rfl rfl (by exact ⟨rfl, hdc_6.1, hdc_6.2, hdd_8⟩) ⟨Nat.le_of_ble_eq_true rfl, Nat.le_of_ble_eq_true rfl⟩) ⟨fun a U g mk q => by obtain ⟨q0, qP, qK⟩ := q; exact ⟨q0, qP, va_K.moved (u := U) (U := U.calling g mk a) (Vm.Alike.refl U.vm) qK⟩, va_recv hKc hPc (ci := 0) (q0 := 0) rfl rfl, fun U hU hW => ⟨rfl, by rw [hU]; exact hPc, va_K.moved hW.alike hKc⟩⟩ rfl rfl hl.1 rfl (lv_room (Nat.le_of_ble_eq_true rfl)) dX0_earliestOf_88 ⟨Nat.le_of_ble_eq_true rfl, Nat.le_of_ble_eq_true rfl⟩) (fun r_6 hw => ?_)
      try dsimp only at hw
      have hq_r_6 : r_6 = fb_has fTo (2 : Int32) r_3 := hw
      refine lv_if_eq (tgt := 106) hx hb dX0_earliestOf_91 (by decide) (fun c_7 => ?_) (fun c_7 => ?_)
      · refine lv_lload_n hx hb dX0_earliestOf_106 rfl (lv_at hl 1 rfl) ?_
        exact W.lret (v := 0) hx hb hr (fun t ht hW => ⟨0, rfl, (Eq.symm ((by rw [fb_early]; (try rw [← hq_r_1]); (try rw [xL_eq]); (try rw [if_pos c_2]); (try rw [← hq_r_3]); (try rw [xL_eq]); (try rw [← hq_r_4]); (try rw [xL_eq]); (try rw [if_neg c_5]); (try rw [← hq_r_6]); (try rw [xL_eq]); (try rw [if_pos c_7]); try rfl))), ht⟩) (fun _ h => by cases h) dX0_earliestOf_107
      · refine lv_lload_n hx hb dX0_earliestOf_94 rfl (lv_at hl 1 rfl) ?_
        refine lv_aload_n hx hb dX0_earliestOf_95 rfl (lv_at hl 2 rfl) ?_
        refine va_get (D := (dC, dI)) (ci := 0) (v := .ref bbo) (C := RX0) (T := TX0) (N := 12) hx hb htw inlX0 hown hK hP 0 rfl rfl 5 (by decide) (htw _ (ck_6 _ (List.mem_of_getElem? (i := 10) rfl))) (fun _ h9 => h9) rfl dX0_earliestOf_96 ?_
        refine lv_iload hx hb dX0_earliestOf_99 (lv_at hl 0 rfl) ?_
        refine va_lald hx hb hK hP 4 2 rfl rfl (xg_inr (N := 6) rfl (gb_early_s0 (y0 := r_3) (y1 := fTo 2) ht2 (xb_hasin hq_r_6 c_7).2 (xb_hasin hq_r_6 c_7).1).1 (gb_early_s0 (y0 := r_3) (y1 := fTo 2) ht2 (xb_hasin hq_r_6 c_7).2 (xb_hasin hq_r_6 c_7).1).2) dX0_earliestOf_101 ?_
        refine va_mmax_long hx hb (by rw [hml]; exact hl.1.symm) hown (htw _ (ck_55 _ (List.mem_of_getElem? (i := 1) rfl))) (htw _ (ck_45 _ (List.mem_of_getElem? (i := 12) rfl))) (htw _ (ck_14 _ (List.mem_of_getElem? (i := 8) rfl))) (htw _ (ck_45 _ (List.mem_of_getElem? (i := 13) rfl))) (Nat.le_of_ble_eq_true rfl) (Nat.le_of_ble_eq_true rfl) (Nat.le_of_ble_eq_true rfl) (Nat.le_of_ble_eq_true rfl) dX0_earliestOf_102 ?_
        refine lv_lstore_n (lv' := [(2, .long (if (fBo r_3.toNatClampNeg) < 0 then 0 else (fBo r_3.toNatClampNeg))), (4, .int r_3), (0, .ref bk), (1, .int a0)]) hx hb dX0_earliestOf_105 rfl hl (by decide) rfl (fun ls hl => ?_)
        refine lv_lload_n hx hb dX0_earliestOf_106 rfl (lv_at hl 0 rfl) ?_
        exact W.lret (v := (if (fBo r_3.toNatClampNeg) < 0 then 0 else (fBo r_3.toNatClampNeg))) hx hb hr (fun t ht hW => ⟨(if (fBo r_3.toNatClampNeg) < 0 then 0 else (fBo r_3.toNatClampNeg)), rfl, (Eq.symm ((by rw [fb_early]; (try rw [← hq_r_1]); (try rw [xL_eq]); (try rw [if_pos c_2]); (try rw [← hq_r_3]); (try rw [xL_eq]); (try rw [← hq_r_4]); (try rw [xL_eq]); (try rw [if_neg c_5]); (try rw [← hq_r_6]); (try rw [xL_eq]); (try rw [if_neg c_7]); try rfl))), ht⟩) (fun _ h => by cases h) dX0_earliestOf_107
  · refine lv_aload_n hx hb dX0_earliestOf_14 rfl (lv_at hl 1 rfl) ?_
    refine lv_iconst (v := 0) hx hb dX0_earliestOf_15 (by decide) ?_
    have hPc := hP.sub (ws' := [(eO0a bk bto bnm bla bsk bru bbo bdi bda bdk bdt bdp bno), (eA0 bto cTo 5 fTo), (eA4 bla cLa 4 (fun k => some (La k)))]) [0, 1, 2] rfl
    have hKc := hK.sub (tys' := [(cTo, .int), (cLa, .object RX1)]) [0, 1] rfl
    refine va_csq (W.runV (As := [.int 0]) (rest := []) ⟨hx, hb, hml, hown, htw⟩ (gb_landAt l dC dI bk bto bnm bla bsk bru bbo bdi bda bdk bdt bdp bno cTo fTo cLa La (0 : Int32)) (cwV 1 htw (xg_V (ck_55 _ (List.mem_of_getElem? (i := 3) rfl)) (ck_20 _ (List.mem_of_getElem? (i := 22) rfl)) (ck_20 _ (List.mem_of_getElem? (i := 23) rfl)) (ck_1 _ (List.mem_of_getElem? (i := 20) rfl)) (ck_21 _ (List.mem_of_getElem? (i := 0) rfl))) rfl rfl rfl (by exact ⟨rfl, hdc_6.1, hdc_6.2, hdd_15⟩) ⟨Nat.le_of_ble_eq_true rfl, Nat.le_of_ble_eq_true rfl⟩) ⟨fun a U g mk q => by obtain ⟨q0, qP, qK⟩ := q; exact ⟨q0, qP, va_K.moved (u := U) (U := U.calling g mk a) (Vm.Alike.refl U.vm) qK⟩, va_recv hKc hPc (ci := 0) (q0 := 0) rfl rfl, fun U hU hW => ⟨rfl, by rw [hU]; exact hPc, va_K.moved hW.alike hKc⟩⟩ rfl rfl hl.1 rfl (lv_room (Nat.le_of_ble_eq_true rfl)) dX0_earliestOf_16 ⟨Nat.le_of_ble_eq_true rfl, Nat.le_of_ble_eq_true rfl⟩) (fun r_8 hw => ?_)
    try dsimp only at hw
    by_cases hz_9 : fb_landIs fTo (0 : Int32) = 0
    · obtain rfl : r_8 = none := by rw [hw, if_pos hz_9]
      refine W.eq (g2 := F0 m 19 ls [.null]) rfl ?_
      refine lv_astoreN (lv' := [(4, .null), (2, .long 0), (0, .ref bk), (1, .int a0)]) hx hb dX0_earliestOf_19 hl (by decide) rfl (fun ls hl => ?_)
      refine lv_aload_n hx hb dX0_earliestOf_21 rfl (lv_at hl 2 rfl) ?_
      refine va_get (D := (dC, dI)) (ci := 0) (v := .ref bno) (C := RX0) (T := TX0) (N := 12) hx hb htw inlX0 hown hK hP 0 rfl rfl 11 (by decide) (htw _ (ck_6 _ (List.mem_of_getElem? (i := 17) rfl))) (fun _ h9 => h9) rfl dX0_earliestOf_22 ?_
      refine lv_iload_n hx hb dX0_earliestOf_25 rfl (lv_at hl 3 rfl) ?_
      refine lv_iconst (v := 0) hx hb dX0_earliestOf_26 (by decide) ?_
      have hPc := hP.sub (ws' := [(eO6a bno ns nsa nfa nza), (eA0 nfa cNf 96 fNf)]) [5, 7] rfl
      have hKc := hK.sub (tys' := [(cNf, .int)]) [4] rfl
      refine vp_callSi (W.runV (As := [.int a0, .int 0]) (rest := []) ⟨hx, hb, hml, hown, htw⟩ (gn_firstOf l dC dI bno ns nsa nfa nza cNf fNf a0 (0 : Int32)) (cwV 2 htw (xg_V (ck_55 _ (List.mem_of_getElem? (i := 4) rfl)) (ck_55 _ (List.mem_of_getElem? (i := 5) rfl)) (ck_55 _ (List.mem_of_getElem? (i := 6) rfl)) (ck_2 _ (List.mem_of_getElem? (i := 11) rfl)) (ck_55 _ (List.mem_of_getElem? (i := 7) rfl))) rfl rfl rfl (by exact ⟨rfl, hdc_3.1, hdc_3.2, hdd_7⟩) ⟨Nat.le_of_ble_eq_true rfl, Nat.le_of_ble_eq_true rfl⟩) ⟨fun a U g mk q => by obtain ⟨q0, qP, qK⟩ := q; exact ⟨q0, qP, va_K.moved (u := U) (U := U.calling g mk a) (Vm.Alike.refl U.vm) qK⟩, va_recv hKc hPc (ci := 6) (q0 := 0) rfl rfl, fun U hU hW => ⟨rfl, by rw [hU]; exact hPc, va_K.moved hW.alike hKc⟩⟩ rfl rfl hl.1 rfl (lv_room (Nat.le_of_ble_eq_true rfl)) dX0_earliestOf_27 ⟨Nat.le_of_ble_eq_true rfl, Nat.le_of_ble_eq_true rfl⟩) (fun r_10 hw => ?_)
      try dsimp only at hw
      have hq_r_10 : r_10 = fn_firstOf fNf a0 (0 : Int32) := hw
      refine lv_istore (lv' := [(5, .int r_10), (4, .null), (2, .long 0), (0, .ref bk), (1, .int a0)]) hx hb dX0_earliestOf_30 hl (by decide) rfl (fun ls hl => ?_)
      refine lv_aloadN hx hb dX0_earliestOf_32 (lv_at hl 1 rfl) ?_
      refine lv_ifnullN (tgt := 48) hx hb dX0_earliestOf_34 (by decide) ?_
      refine lv_ldc2 (v := 20000) hx hb hown (htw _ (ck_55 _ (List.mem_of_getElem? (i := 0) rfl))) dX0_earliestOf_48 ?_
      exact W.lret (v := 20000) hx hb hr (fun t ht hW => ⟨20000, rfl, (Eq.symm ((by rw [fb_early]; (try rw [← hq_r_1]); (try rw [xL_eq]); (try rw [if_neg c_2]); (try rw [if_pos hz_9]); (try rw [← hq_r_10]); (try rw [xL_eq]); try rfl))), ht⟩) (fun _ h => by cases h) dX0_earliestOf_51
    · obtain rfl : r_8 = some (La 0) := by rw [hw, if_neg hz_9]; rfl
      refine W.eq (g2 := F0 m 19 ls [.ref (La 0)]) rfl ?_
      refine lv_astore (lv' := [(4, .ref (La 0)), (2, .long 0), (0, .ref bk), (1, .int a0)]) hx hb dX0_earliestOf_19 hl (by decide) rfl (fun ls hl => ?_)
      refine lv_aload_n hx hb dX0_earliestOf_21 rfl (lv_at hl 2 rfl) ?_
      refine va_get (D := (dC, dI)) (ci := 0) (v := .ref bno) (C := RX0) (T := TX0) (N := 12) hx hb htw inlX0 hown hK hP 0 rfl rfl 11 (by decide) (htw _ (ck_6 _ (List.mem_of_getElem? (i := 17) rfl))) (fun _ h9 => h9) rfl dX0_earliestOf_22 ?_
      refine lv_iload_n hx hb dX0_earliestOf_25 rfl (lv_at hl 3 rfl) ?_
      refine lv_iconst (v := 0) hx hb dX0_earliestOf_26 (by decide) ?_
      have hPc := hP.sub (ws' := [(eO6a bno ns nsa nfa nza), (eA0 nfa cNf 96 fNf)]) [5, 7] rfl
      have hKc := hK.sub (tys' := [(cNf, .int)]) [4] rfl
      refine vp_callSi (W.runV (As := [.int a0, .int 0]) (rest := []) ⟨hx, hb, hml, hown, htw⟩ (gn_firstOf l dC dI bno ns nsa nfa nza cNf fNf a0 (0 : Int32)) (cwV 2 htw (xg_V (ck_55 _ (List.mem_of_getElem? (i := 4) rfl)) (ck_55 _ (List.mem_of_getElem? (i := 5) rfl)) (ck_55 _ (List.mem_of_getElem? (i := 6) rfl)) (ck_2 _ (List.mem_of_getElem? (i := 11) rfl)) (ck_55 _ (List.mem_of_getElem? (i := 7) rfl))) rfl rfl rfl (by exact ⟨rfl, hdc_3.1, hdc_3.2, hdd_7⟩) ⟨Nat.le_of_ble_eq_true rfl, Nat.le_of_ble_eq_true rfl⟩) ⟨fun a U g mk q => by obtain ⟨q0, qP, qK⟩ := q; exact ⟨q0, qP, va_K.moved (u := U) (U := U.calling g mk a) (Vm.Alike.refl U.vm) qK⟩, va_recv hKc hPc (ci := 6) (q0 := 0) rfl rfl, fun U hU hW => ⟨rfl, by rw [hU]; exact hPc, va_K.moved hW.alike hKc⟩⟩ rfl rfl hl.1 rfl (lv_room (Nat.le_of_ble_eq_true rfl)) dX0_earliestOf_27 ⟨Nat.le_of_ble_eq_true rfl, Nat.le_of_ble_eq_true rfl⟩) (fun r_11 hw => ?_)
      try dsimp only at hw
      have hq_r_11 : r_11 = fn_firstOf fNf a0 (0 : Int32) := hw
      refine lv_istore (lv' := [(5, .int r_11), (4, .ref (La 0)), (2, .long 0), (0, .ref bk), (1, .int a0)]) hx hb dX0_earliestOf_30 hl (by decide) rfl (fun ls hl => ?_)
      refine lv_aload hx hb dX0_earliestOf_32 (lv_at hl 1 rfl) ?_
      refine lv_ifnull hx hb dX0_earliestOf_34 ?_
      refine lv_aload hx hb dX0_earliestOf_37 (lv_at hl 1 rfl) ?_
      refine lv_iload hx hb dX0_earliestOf_39 (lv_at hl 0 rfl) ?_
      refine lv_i2l (v := r_11.toInt64) hx hb dX0_earliestOf_41 rfl ?_
      have hPc := hP.sub (ws' := [(eO1a (La 0) (FI 0) (GR 0) (FR 0))]) [3] rfl
      have hKc := hK.sub (tys' := []) [] rfl
      refine vp_callSi (W.runV (As := [.long r_11.toInt64]) (rest := []) ⟨hx, hb, hml, hown, htw⟩ (gl_isThere l dC dI (La 0) (FI 0) (GR 0) (FR 0) r_11.toInt64) (cwV 1 htw (xg_V (ck_55 _ (List.mem_of_getElem? (i := 8) rfl)) (ck_21 _ (List.mem_of_getElem? (i := 6) rfl)) (ck_21 _ (List.mem_of_getElem? (i := 7) rfl)) (ck_6 _ (List.mem_of_getElem? (i := 19) rfl)) (ck_21 _ (List.mem_of_getElem? (i := 8) rfl))) rfl rfl rfl (by exact ⟨rfl, hdc_0.1, hdc_0.2, hdd_1⟩) ⟨Nat.le_of_ble_eq_true rfl, Nat.le_of_ble_eq_true rfl⟩) ⟨fun a U g mk q => by obtain ⟨q0, qP, qK⟩ := q; exact ⟨q0, qP, va_K.moved (u := U) (U := U.calling g mk a) (Vm.Alike.refl U.vm) qK⟩, va_recv hKc hPc (ci := 1) (q0 := 0) rfl rfl, fun U hU hW => ⟨rfl, by rw [hU]; exact hPc, va_K.moved hW.alike hKc⟩⟩ rfl rfl hl.1 rfl (lv_room (Nat.le_of_ble_eq_true rfl)) dX0_earliestOf_42 ⟨Nat.le_of_ble_eq_true rfl, Nat.le_of_ble_eq_true rfl⟩) (fun r_12 hw => ?_)
      try dsimp only at hw
      have hq_r_12 : r_12 = fl_isThere (FI 0) (GR 0) (FR 0) r_11.toInt64 := hw
      refine lv_if_ne (tgt := 52) hx hb dX0_earliestOf_45 (by decide) (fun c_13 => ?_) (fun c_13 => ?_)
      · refine lv_aload hx hb dX0_earliestOf_52 (lv_at hl 1 rfl) ?_
        refine lv_iload hx hb dX0_earliestOf_54 (lv_at hl 0 rfl) ?_
        refine lv_i2l (v := r_11.toInt64) hx hb dX0_earliestOf_56 rfl ?_
        have hPc := hP.sub (ws' := [(eO1a (La 0) (FI 0) (GR 0) (FR 0))]) [3] rfl
        have hKc := hK.sub (tys' := []) [] rfl
        refine vp_callSl (W.runV (As := [.long r_11.toInt64]) (rest := []) ⟨hx, hb, hml, hown, htw⟩ (gl_beginOf l dC dI (La 0) (FI 0) (GR 0) (FR 0) r_11.toInt64) (cwV 1 htw (xg_V (ck_55 _ (List.mem_of_getElem? (i := 9) rfl)) (ck_21 _ (List.mem_of_getElem? (i := 21) rfl)) (ck_21 _ (List.mem_of_getElem? (i := 22) rfl)) (ck_6 _ (List.mem_of_getElem? (i := 19) rfl)) (ck_21 _ (List.mem_of_getElem? (i := 23) rfl))) rfl rfl rfl (by exact ⟨rfl, hdc_0.1, hdc_0.2, hdd_0⟩) ⟨Nat.le_of_ble_eq_true rfl, Nat.le_of_ble_eq_true rfl⟩) ⟨fun a U g mk q => by obtain ⟨q0, qP, qK⟩ := q; exact ⟨q0, qP, va_K.moved (u := U) (U := U.calling g mk a) (Vm.Alike.refl U.vm) qK⟩, va_recv hKc hPc (ci := 1) (q0 := 0) rfl rfl, fun U hU hW => ⟨rfl, by rw [hU]; exact hPc, va_K.moved hW.alike hKc⟩⟩ rfl rfl hl.1 rfl (lv_room (Nat.le_of_ble_eq_true rfl)) dX0_earliestOf_57 ⟨Nat.le_of_ble_eq_true rfl, Nat.le_of_ble_eq_true rfl⟩) (fun r_14 hw => ?_)
        try dsimp only at hw
        have hq_r_14 : r_14 = fl_beginOf (FI 0) (GR 0) (FR 0) r_11.toInt64 := hw
        refine lv_lstore_n (lv' := [(2, .long r_14), (5, .int r_11), (4, .ref (La 0)), (0, .ref bk), (1, .int a0)]) hx hb dX0_earliestOf_60 rfl hl (by decide) rfl (fun ls hl => ?_)
        refine lv_aload_n hx hb dX0_earliestOf_61 rfl (lv_at hl 3 rfl) ?_
        refine va_get (D := (dC, dI)) (ci := 0) (v := .ref bno) (C := RX0) (T := TX0) (N := 12) hx hb htw inlX0 hown hK hP 0 rfl rfl 11 (by decide) (htw _ (ck_6 _ (List.mem_of_getElem? (i := 17) rfl))) (fun _ h9 => h9) rfl dX0_earliestOf_62 ?_
        refine lv_iload_n hx hb dX0_earliestOf_65 rfl (lv_at hl 4 rfl) ?_
        refine lv_iconst (v := 5) hx hb dX0_earliestOf_66 (by decide) ?_
        have hPc := hP.sub (ws' := [(eO6a bno ns nsa nfa nza), (eA0 nfa cNf 96 fNf)]) [5, 7] rfl
        have hKc := hK.sub (tys' := [(cNf, .int)]) [4] rfl
        refine vp_callSi (W.runV (As := [.int a0, .int 5]) (rest := []) ⟨hx, hb, hml, hown, htw⟩ (gn_firstOf l dC dI bno ns nsa nfa nza cNf fNf a0 (5 : Int32)) (cwV 2 htw (xg_V (ck_55 _ (List.mem_of_getElem? (i := 4) rfl)) (ck_55 _ (List.mem_of_getElem? (i := 5) rfl)) (ck_55 _ (List.mem_of_getElem? (i := 6) rfl)) (ck_2 _ (List.mem_of_getElem? (i := 11) rfl)) (ck_55 _ (List.mem_of_getElem? (i := 7) rfl))) rfl rfl rfl (by exact ⟨rfl, hdc_3.1, hdc_3.2, hdd_7⟩) ⟨Nat.le_of_ble_eq_true rfl, Nat.le_of_ble_eq_true rfl⟩) ⟨fun a U g mk q => by obtain ⟨q0, qP, qK⟩ := q; exact ⟨q0, qP, va_K.moved (u := U) (U := U.calling g mk a) (Vm.Alike.refl U.vm) qK⟩, va_recv hKc hPc (ci := 6) (q0 := 0) rfl rfl, fun U hU hW => ⟨rfl, by rw [hU]; exact hPc, va_K.moved hW.alike hKc⟩⟩ rfl rfl hl.1 rfl (lv_room (Nat.le_of_ble_eq_true rfl)) dX0_earliestOf_67 ⟨Nat.le_of_ble_eq_true rfl, Nat.le_of_ble_eq_true rfl⟩) (fun r_15 hw => ?_)
        try dsimp only at hw
        have hq_r_15 : r_15 = fn_firstOf fNf a0 (5 : Int32) := hw
        refine lv_istore (lv' := [(4, .int r_15), (2, .long r_14), (5, .int r_11), (0, .ref bk), (1, .int a0)]) hx hb dX0_earliestOf_70 hl (by decide) rfl (fun ls hl => ?_)
        refine lv_aload_n hx hb dX0_earliestOf_72 rfl (lv_at hl 3 rfl) ?_
        refine va_get (D := (dC, dI)) (ci := 0) (v := .ref bno) (C := RX0) (T := TX0) (N := 12) hx hb htw inlX0 hown hK hP 0 rfl rfl 11 (by decide) (htw _ (ck_6 _ (List.mem_of_getElem? (i := 17) rfl))) (fun _ h9 => h9) rfl dX0_earliestOf_73 ?_
        refine lv_iload_n hx hb dX0_earliestOf_76 rfl (lv_at hl 4 rfl) ?_
        refine lv_iconst (v := 5) hx hb dX0_earliestOf_77 (by decide) ?_
        have hPc := hP.sub (ws' := [(eO6a bno ns nsa nfa nza), (eA0 nsa cNs 12 fNs)]) [5, 6] rfl
        have hKc := hK.sub (tys' := [(cNs, .int)]) [3] rfl
        refine vp_callSi (W.runV (As := [.int a0, .int 5]) (rest := []) ⟨hx, hb, hml, hown, htw⟩ (gn_does l dC dI bno ns nsa nfa nza cNs fNs a0 (5 : Int32)) (cwV 2 htw (xg_V (ck_55 _ (List.mem_of_getElem? (i := 2) rfl)) (ck_23 _ (List.mem_of_getElem? (i := 10) rfl)) (ck_23 _ (List.mem_of_getElem? (i := 11) rfl)) (ck_2 _ (List.mem_of_getElem? (i := 11) rfl)) (ck_23 _ (List.mem_of_getElem? (i := 12) rfl))) rfl rfl rfl (by exact ⟨rfl, hdc_3.1, hdc_3.2, hdd_8⟩) ⟨Nat.le_of_ble_eq_true rfl, Nat.le_of_ble_eq_true rfl⟩) ⟨fun a U g mk q => by obtain ⟨q0, qP, qK⟩ := q; exact ⟨q0, qP, va_K.moved (u := U) (U := U.calling g mk a) (Vm.Alike.refl U.vm) qK⟩, va_recv hKc hPc (ci := 6) (q0 := 0) rfl rfl, fun U hU hW => ⟨rfl, by rw [hU]; exact hPc, va_K.moved hW.alike hKc⟩⟩ rfl rfl hl.1 rfl (lv_room (Nat.le_of_ble_eq_true rfl)) dX0_earliestOf_78 ⟨Nat.le_of_ble_eq_true rfl, Nat.le_of_ble_eq_true rfl⟩) (fun r_16 hw => ?_)
        try dsimp only at hw
        have hq_r_16 : r_16 = fn_does fNs a0 (5 : Int32) := hw
        refine lv_if_eq (tgt := 106) hx hb dX0_earliestOf_81 (by decide) (fun c_17 => ?_) (fun c_17 => ?_)
        · refine lv_lload_n hx hb dX0_earliestOf_106 rfl (lv_at hl 1 rfl) ?_
          exact W.lret (v := r_14) hx hb hr (fun t ht hW => ⟨r_14, rfl, (Eq.symm ((by rw [fb_early]; (try rw [← hq_r_1]); (try rw [xL_eq]); (try rw [if_neg c_2]); (try rw [if_neg hz_9]); (try rw [← hq_r_11]); (try rw [xL_eq]); (try rw [← hq_r_12]); (try rw [xL_eq]); (try rw [if_neg c_13]); (try rw [← hq_r_14]); (try rw [xL_eq]); (try rw [← hq_r_15]); (try rw [xL_eq]); (try rw [← hq_r_16]); (try rw [xL_eq]); (try rw [if_pos c_17]); try rfl))), ht⟩) (fun _ h => by cases h) dX0_earliestOf_107
        · refine lv_aload_n hx hb dX0_earliestOf_84 rfl (lv_at hl 3 rfl) ?_
          refine lv_iconst (v := 2) hx hb dX0_earliestOf_85 (by decide) ?_
          refine lv_iload hx hb dX0_earliestOf_86 (lv_at hl 0 rfl) ?_
          have hPc := hP.sub (ws' := [(eO0a bk bto bnm bla bsk bru bbo bdi bda bdk bdt bdp bno), (eA0 bto cTo 5 fTo)]) [0, 1] rfl
          have hKc := hK.sub (tys' := [(cTo, .int)]) [0] rfl
          refine vp_callSi (W.runV (As := [.int 2, .int r_15]) (rest := []) ⟨hx, hb, hml, hown, htw⟩ (gb_has l dC dI bk bto bnm bla bsk bru bbo bdi bda bdk bdt bdp bno cTo fTo (2 : Int32) r_15) (cwV 2 htw (xg_V (ck_21 _ (List.mem_of_getElem? (i := 1) rfl)) (ck_21 _ (List.mem_of_getElem? (i := 2) rfl)) (ck_21 _ (List.mem_of_getElem? (i := 3) rfl)) (ck_1 _ (List.mem_of_getElem? (i := 20) rfl)) (ck_21 _ (List.mem_of_getElem? (i := 4) rfl))) rfl rfl rfl (by exact ⟨rfl, hdc_6.1, hdc_6.2, hdd_8⟩) ⟨Nat.le_of_ble_eq_true rfl, Nat.le_of_ble_eq_true rfl⟩) ⟨fun a U g mk q => by obtain ⟨q0, qP, qK⟩ := q; exact ⟨q0, qP, va_K.moved (u := U) (U := U.calling g mk a) (Vm.Alike.refl U.vm) qK⟩, va_recv hKc hPc (ci := 0) (q0 := 0) rfl rfl, fun U hU hW => ⟨rfl, by rw [hU]; exact hPc, va_K.moved hW.alike hKc⟩⟩ rfl rfl hl.1 rfl (lv_room (Nat.le_of_ble_eq_true rfl)) dX0_earliestOf_88 ⟨Nat.le_of_ble_eq_true rfl, Nat.le_of_ble_eq_true rfl⟩) (fun r_18 hw => ?_)
          try dsimp only at hw
          have hq_r_18 : r_18 = fb_has fTo (2 : Int32) r_15 := hw
          refine lv_if_eq (tgt := 106) hx hb dX0_earliestOf_91 (by decide) (fun c_19 => ?_) (fun c_19 => ?_)
          · refine lv_lload_n hx hb dX0_earliestOf_106 rfl (lv_at hl 1 rfl) ?_
            exact W.lret (v := r_14) hx hb hr (fun t ht hW => ⟨r_14, rfl, (Eq.symm ((by rw [fb_early]; (try rw [← hq_r_1]); (try rw [xL_eq]); (try rw [if_neg c_2]); (try rw [if_neg hz_9]); (try rw [← hq_r_11]); (try rw [xL_eq]); (try rw [← hq_r_12]); (try rw [xL_eq]); (try rw [if_neg c_13]); (try rw [← hq_r_14]); (try rw [xL_eq]); (try rw [← hq_r_15]); (try rw [xL_eq]); (try rw [← hq_r_16]); (try rw [xL_eq]); (try rw [if_neg c_17]); (try rw [← hq_r_18]); (try rw [xL_eq]); (try rw [if_pos c_19]); try rfl))), ht⟩) (fun _ h => by cases h) dX0_earliestOf_107
          · refine lv_lload_n hx hb dX0_earliestOf_94 rfl (lv_at hl 1 rfl) ?_
            refine lv_aload_n hx hb dX0_earliestOf_95 rfl (lv_at hl 3 rfl) ?_
            refine va_get (D := (dC, dI)) (ci := 0) (v := .ref bbo) (C := RX0) (T := TX0) (N := 12) hx hb htw inlX0 hown hK hP 0 rfl rfl 5 (by decide) (htw _ (ck_6 _ (List.mem_of_getElem? (i := 10) rfl))) (fun _ h9 => h9) rfl dX0_earliestOf_96 ?_
            refine lv_iload hx hb dX0_earliestOf_99 (lv_at hl 0 rfl) ?_
            refine va_lald hx hb hK hP 4 2 rfl rfl (xg_inr (N := 6) rfl (gb_early_s1 (y0 := r_15) (y1 := fTo 2) ht2 (xb_hasin hq_r_18 c_19).2 (xb_hasin hq_r_18 c_19).1).1 (gb_early_s1 (y0 := r_15) (y1 := fTo 2) ht2 (xb_hasin hq_r_18 c_19).2 (xb_hasin hq_r_18 c_19).1).2) dX0_earliestOf_101 ?_
            refine va_mmax_long hx hb (by rw [hml]; exact hl.1.symm) hown (htw _ (ck_55 _ (List.mem_of_getElem? (i := 1) rfl))) (htw _ (ck_45 _ (List.mem_of_getElem? (i := 12) rfl))) (htw _ (ck_14 _ (List.mem_of_getElem? (i := 8) rfl))) (htw _ (ck_45 _ (List.mem_of_getElem? (i := 13) rfl))) (Nat.le_of_ble_eq_true rfl) (Nat.le_of_ble_eq_true rfl) (Nat.le_of_ble_eq_true rfl) (Nat.le_of_ble_eq_true rfl) dX0_earliestOf_102 ?_
            refine lv_lstore_n (lv' := [(2, .long (if (fBo r_15.toNatClampNeg) < r_14 then r_14 else (fBo r_15.toNatClampNeg))), (4, .int r_15), (5, .int r_11), (0, .ref bk), (1, .int a0)]) hx hb dX0_earliestOf_105 rfl hl (by decide) rfl (fun ls hl => ?_)
            refine lv_lload_n hx hb dX0_earliestOf_106 rfl (lv_at hl 0 rfl) ?_
            exact W.lret (v := (if (fBo r_15.toNatClampNeg) < r_14 then r_14 else (fBo r_15.toNatClampNeg))) hx hb hr (fun t ht hW => ⟨(if (fBo r_15.toNatClampNeg) < r_14 then r_14 else (fBo r_15.toNatClampNeg)), rfl, (Eq.symm ((by rw [fb_early]; (try rw [← hq_r_1]); (try rw [xL_eq]); (try rw [if_neg c_2]); (try rw [if_neg hz_9]); (try rw [← hq_r_11]); (try rw [xL_eq]); (try rw [← hq_r_12]); (try rw [xL_eq]); (try rw [if_neg c_13]); (try rw [← hq_r_14]); (try rw [xL_eq]); (try rw [← hq_r_15]); (try rw [xL_eq]); (try rw [← hq_r_16]); (try rw [xL_eq]); (try rw [if_neg c_17]); (try rw [← hq_r_18]); (try rw [xL_eq]); (try rw [if_neg c_19]); try rfl))), ht⟩) (fun _ h => by cases h) dX0_earliestOf_107
      · refine lv_ldc2 (v := 20000) hx hb hown (htw _ (ck_55 _ (List.mem_of_getElem? (i := 0) rfl))) dX0_earliestOf_48 ?_
        exact W.lret (v := 20000) hx hb hr (fun t ht hW => ⟨20000, rfl, (Eq.symm ((by rw [fb_early]; (try rw [← hq_r_1]); (try rw [xL_eq]); (try rw [if_neg c_2]); (try rw [if_neg hz_9]); (try rw [← hq_r_11]); (try rw [xL_eq]); (try rw [← hq_r_12]); (try rw [xL_eq]); (try rw [if_pos c_13]); try rfl))), ht⟩) (fun _ h => by cases h) dX0_earliestOf_51

def fb_late (fTo : Nat → Int32) (FI : Nat → Int32) (GR : Nat → Int32) (FR : Nat → Int32) (fDi : Nat → Int64) (fNs : Nat → Int32) (fNf : Nat → Int32) (fNz : Nat → Int32) (a0 : Int32) : Int64 := (if fb_landIs fTo (0 : Int32) = 0 then (xL (fn_does fNs a0 (0 : Int32)) (fun r_3 => (if r_3 = 0 then (xL (fn_firstOf fNf a0 (5 : Int32)) (fun r_5 => (xL (fn_does fNs a0 (5 : Int32)) (fun r_6 => (if r_6 = 0 then (19999 : Int64) else (xL (fb_has fTo (2 : Int32) r_5) (fun r_8 => (if r_8 = 0 then (19999 : Int64) else (if lg_cmp (fDi r_5.toNatClampNeg) (-1) = 0 then (19999 : Int64) else (if (fDi r_5.toNatClampNeg) < 19999 then (fDi r_5.toNatClampNeg) else 19999)))))))))) else (xL (fn_firstOf fNf a0 (5 : Int32)) (fun r_11 => (xL (fn_does fNs a0 (5 : Int32)) (fun r_12 => (if r_12 = 0 then (19999 : Int64) else (xL (fb_has fTo (2 : Int32) r_11) (fun r_14 => (if r_14 = 0 then (19999 : Int64) else (if lg_cmp (fDi r_11.toNatClampNeg) (-1) = 0 then (19999 : Int64) else (if (fDi r_11.toNatClampNeg) < 19999 then (fDi r_11.toNatClampNeg) else 19999))))))))))))) else (xL (fn_does fNs a0 (0 : Int32)) (fun r_17 => (if r_17 = 0 then (xL (fn_firstOf fNf a0 (5 : Int32)) (fun r_19 => (xL (fn_does fNs a0 (5 : Int32)) (fun r_20 => (if r_20 = 0 then (19999 : Int64) else (xL (fb_has fTo (2 : Int32) r_19) (fun r_22 => (if r_22 = 0 then (19999 : Int64) else (if lg_cmp (fDi r_19.toNatClampNeg) (-1) = 0 then (19999 : Int64) else (if (fDi r_19.toNatClampNeg) < 19999 then (fDi r_19.toNatClampNeg) else 19999)))))))))) else (xL (fn_secondOf fNz a0 (0 : Int32)) (fun r_25 => (if 0 ≤ (GR 0) then (xL (fl_beginOf (FI 0) (GR 0) (FR 0) r_25.toInt64) (fun r_27 => (xL (fl_lengthOf (FI 0) (GR 0) (FR 0) r_25.toInt64) (fun r_28 => (xL (fn_firstOf fNf a0 (5 : Int32)) (fun r_29 => (xL (fn_does fNs a0 (5 : Int32)) (fun r_30 => (if r_30 = 0 then (if ((r_27 + r_28) - 1) < 19999 then ((r_27 + r_28) - 1) else 19999) else (xL (fb_has fTo (2 : Int32) r_29) (fun r_32 => (if r_32 = 0 then (if ((r_27 + r_28) - 1) < 19999 then ((r_27 + r_28) - 1) else 19999) else (if lg_cmp (fDi r_29.toNatClampNeg) (-1) = 0 then (if ((r_27 + r_28) - 1) < 19999 then ((r_27 + r_28) - 1) else 19999) else (if (fDi r_29.toNatClampNeg) < (if ((r_27 + r_28) - 1) < 19999 then ((r_27 + r_28) - 1) else 19999) then (fDi r_29.toNatClampNeg) else (if ((r_27 + r_28) - 1) < 19999 then ((r_27 + r_28) - 1) else 19999))))))))))))))) else (xL (fl_lastYear (FI 0) (GR 0) (FR 0)) (fun r_35 => (xL (fl_beginOf (FI 0) (GR 0) (FR 0) (if r_35 < r_25.toInt64 then r_35 else r_25.toInt64)) (fun r_36 => (xL (fl_lengthOf (FI 0) (GR 0) (FR 0) (if r_35 < r_25.toInt64 then r_35 else r_25.toInt64)) (fun r_37 => (xL (fn_firstOf fNf a0 (5 : Int32)) (fun r_38 => (xL (fn_does fNs a0 (5 : Int32)) (fun r_39 => (if r_39 = 0 then (if ((r_36 + r_37) - 1) < 19999 then ((r_36 + r_37) - 1) else 19999) else (xL (fb_has fTo (2 : Int32) r_38) (fun r_41 => (if r_41 = 0 then (if ((r_36 + r_37) - 1) < 19999 then ((r_36 + r_37) - 1) else 19999) else (if lg_cmp (fDi r_38.toNatClampNeg) (-1) = 0 then (if ((r_36 + r_37) - 1) < 19999 then ((r_36 + r_37) - 1) else 19999) else (if (fDi r_38.toNatClampNeg) < (if ((r_36 + r_37) - 1) < 19999 then ((r_36 + r_37) - 1) else 19999) then (fDi r_38.toNatClampNeg) else (if ((r_36 + r_37) - 1) < 19999 then ((r_36 + r_37) - 1) else 19999))))))))))))))))))))))))
theorem gb_late_s0 {y0 : Int32} {y1 : Int32} (h0 : y1 ≤ 6) (h1 : ¬ (y1 ≤ y0)) (h2 : ¬ (y0 < 0)) : ¬ (y0 < 0) ∧ ¬ (6 ≤ y0) := by lia
theorem gb_late_s1 {y0 : Int32} {y1 : Int32} (h0 : y1 ≤ 6) (h1 : ¬ (y1 ≤ y0)) (h2 : ¬ (y0 < 0)) : ¬ (y0 < 0) ∧ ¬ (6 ≤ y0) := by lia
theorem gb_late_s2 {y0 : Int32} {y1 : Int32} (h0 : y1 ≤ 6) (h1 : ¬ (y1 ≤ y0)) (h2 : ¬ (y0 < 0)) : ¬ (y0 < 0) ∧ ¬ (6 ≤ y0) := by lia
theorem gb_late_s3 {y0 : Int32} {y1 : Int32} (h0 : y1 ≤ 6) (h1 : ¬ (y1 ≤ y0)) (h2 : ¬ (y0 < 0)) : ¬ (y0 < 0) ∧ ¬ (6 ≤ y0) := by lia
theorem gb_late_s4 {y0 : Int32} {y1 : Int32} (h0 : y1 ≤ 6) (h1 : ¬ (y1 ≤ y0)) (h2 : ¬ (y0 < 0)) : ¬ (y0 < 0) ∧ ¬ (6 ≤ y0) := by lia
theorem gb_late_s5 {y0 : Int32} {y1 : Int32} (h0 : y1 ≤ 6) (h1 : ¬ (y1 ≤ y0)) (h2 : ¬ (y0 < 0)) : ¬ (y0 < 0) ∧ ¬ (6 ≤ y0) := by lia
theorem gb_late_s6 {y0 : Int32} {y1 : Int32} (h0 : y1 ≤ 6) (h1 : ¬ (y1 ≤ y0)) (h2 : ¬ (y0 < 0)) : ¬ (y0 < 0) ∧ ¬ (6 ≤ y0) := by lia
theorem gb_late_s7 {y0 : Int32} {y1 : Int32} (h0 : y1 ≤ 6) (h1 : ¬ (y1 ≤ y0)) (h2 : ¬ (y0 < 0)) : ¬ (y0 < 0) ∧ ¬ (6 ≤ y0) := by lia
theorem gb_late_s8 {y0 : Int32} {y1 : Int32} (h0 : y1 ≤ 6) (h1 : ¬ (y1 ≤ y0)) (h2 : ¬ (y0 < 0)) : ¬ (y0 < 0) ∧ ¬ (6 ≤ y0) := by lia
theorem gb_late_s9 {y0 : Int32} {y1 : Int32} (h0 : y1 ≤ 6) (h1 : ¬ (y1 ≤ y0)) (h2 : ¬ (y0 < 0)) : ¬ (y0 < 0) ∧ ¬ (6 ≤ y0) := by lia
theorem dX0_latestOf_0 : decode cX0_latestOf 0 = .ok (.ldc2_w 115, 3) := zk_20 (by decide +kernel)
theorem dX0_latestOf_3 : decode cX0_latestOf 3 = .ok (.lstore_n 2, 1) := zk_65 (by decide +kernel)
theorem dX0_latestOf_4 : decode cX0_latestOf 4 = .ok (.aload_n 0, 1) := zk_42 (by decide +kernel)
theorem dX0_latestOf_5 : decode cX0_latestOf 5 = .ok (.iconst 0, 1) := zk_3 (by decide +kernel)
theorem dX0_latestOf_6 : decode cX0_latestOf 6 = .ok (.invokevirtual 91, 3) := zk_182 (by decide +kernel)
theorem dX0_latestOf_9 : decode cX0_latestOf 9 = .ok (.astore 4, 2) := zk_58 (by decide +kernel)
theorem dX0_latestOf_11 : decode cX0_latestOf 11 = .ok (.aload_n 0, 1) := zk_42 (by decide +kernel)
theorem dX0_latestOf_12 : decode cX0_latestOf 12 = .ok (.getfield 65, 3) := zk_180 (by decide +kernel)
theorem dX0_latestOf_15 : decode cX0_latestOf 15 = .ok (.iload_n 1, 1) := zk_27 (by decide +kernel)
theorem dX0_latestOf_16 : decode cX0_latestOf 16 = .ok (.iconst 0, 1) := zk_3 (by decide +kernel)
theorem dX0_latestOf_17 : decode cX0_latestOf 17 = .ok (.invokevirtual 88, 3) := zk_182 (by decide +kernel)
theorem dX0_latestOf_20 : decode cX0_latestOf 20 = .ok (.ifCond .eq 67, 3) := zk_153 (by decide +kernel)
theorem dX0_latestOf_87 : decode cX0_latestOf 87 = .ok (.aload_n 0, 1) := zk_42 (by decide +kernel)
theorem dX0_latestOf_88 : decode cX0_latestOf 88 = .ok (.getfield 65, 3) := zk_180 (by decide +kernel)
theorem dX0_latestOf_91 : decode cX0_latestOf 91 = .ok (.iload_n 1, 1) := zk_27 (by decide +kernel)
theorem dX0_latestOf_92 : decode cX0_latestOf 92 = .ok (.iconst 5, 1) := zk_8 (by decide +kernel)
theorem dX0_latestOf_93 : decode cX0_latestOf 93 = .ok (.invokevirtual 95, 3) := zk_182 (by decide +kernel)
theorem dX0_latestOf_96 : decode cX0_latestOf 96 = .ok (.istore 5, 2) := zk_54 (by decide +kernel)
theorem dX0_latestOf_98 : decode cX0_latestOf 98 = .ok (.aload_n 0, 1) := zk_42 (by decide +kernel)
theorem dX0_latestOf_99 : decode cX0_latestOf 99 = .ok (.getfield 65, 3) := zk_180 (by decide +kernel)
theorem dX0_latestOf_102 : decode cX0_latestOf 102 = .ok (.iload_n 1, 1) := zk_27 (by decide +kernel)
theorem dX0_latestOf_103 : decode cX0_latestOf 103 = .ok (.iconst 5, 1) := zk_8 (by decide +kernel)
theorem dX0_latestOf_104 : decode cX0_latestOf 104 = .ok (.invokevirtual 88, 3) := zk_182 (by decide +kernel)
theorem dX0_latestOf_107 : decode cX0_latestOf 107 = .ok (.ifCond .eq 39, 3) := zk_153 (by decide +kernel)
theorem dX0_latestOf_146 : decode cX0_latestOf 146 = .ok (.lload_n 2, 1) := zk_32 (by decide +kernel)
theorem dX0_latestOf_147 : decode cX0_latestOf 147 = .ok (.lreturn, 1) := zk_173 (by decide +kernel)
theorem dX0_latestOf_110 : decode cX0_latestOf 110 = .ok (.aload_n 0, 1) := zk_42 (by decide +kernel)
theorem dX0_latestOf_111 : decode cX0_latestOf 111 = .ok (.iconst 2, 1) := zk_5 (by decide +kernel)
theorem dX0_latestOf_112 : decode cX0_latestOf 112 = .ok (.iload 5, 2) := zk_21 (by decide +kernel)
theorem dX0_latestOf_114 : decode cX0_latestOf 114 = .ok (.invokevirtual 84, 3) := zk_182 (by decide +kernel)
theorem dX0_latestOf_117 : decode cX0_latestOf 117 = .ok (.ifCond .eq 29, 3) := zk_153 (by decide +kernel)
theorem dX0_latestOf_120 : decode cX0_latestOf 120 = .ok (.aload_n 0, 1) := zk_42 (by decide +kernel)
theorem dX0_latestOf_121 : decode cX0_latestOf 121 = .ok (.getfield 47, 3) := zk_180 (by decide +kernel)
theorem dX0_latestOf_124 : decode cX0_latestOf 124 = .ok (.iload 5, 2) := zk_21 (by decide +kernel)
theorem dX0_latestOf_126 : decode cX0_latestOf 126 = .ok (.laload, 1) := zk_47 (by decide +kernel)
theorem dX0_latestOf_127 : decode cX0_latestOf 127 = .ok (.ldc2_w 133, 3) := zk_20 (by decide +kernel)
theorem dX0_latestOf_130 : decode cX0_latestOf 130 = .ok (.lcmp, 1) := zk_148 (by decide +kernel)
theorem dX0_latestOf_131 : decode cX0_latestOf 131 = .ok (.ifCond .eq 15, 3) := zk_153 (by decide +kernel)
theorem dX0_latestOf_134 : decode cX0_latestOf 134 = .ok (.lload_n 2, 1) := zk_32 (by decide +kernel)
theorem dX0_latestOf_135 : decode cX0_latestOf 135 = .ok (.aload_n 0, 1) := zk_42 (by decide +kernel)
theorem dX0_latestOf_136 : decode cX0_latestOf 136 = .ok (.getfield 47, 3) := zk_180 (by decide +kernel)
theorem dX0_latestOf_139 : decode cX0_latestOf 139 = .ok (.iload 5, 2) := zk_21 (by decide +kernel)
theorem dX0_latestOf_141 : decode cX0_latestOf 141 = .ok (.laload, 1) := zk_47 (by decide +kernel)
theorem dX0_latestOf_142 : decode cX0_latestOf 142 = .ok (.invokestatic 127, 3) := zk_184 (by decide +kernel)
theorem dX0_latestOf_145 : decode cX0_latestOf 145 = .ok (.lstore_n 2, 1) := zk_65 (by decide +kernel)
theorem dX0_latestOf_23 : decode cX0_latestOf 23 = .ok (.aload 4, 2) := zk_25 (by decide +kernel)
theorem dX0_latestOf_25 : decode cX0_latestOf 25 = .ok (.ifnull 62, 3) := zk_198 (by decide +kernel)
theorem dX0_latestOf_28 : decode cX0_latestOf 28 = .ok (.aload_n 0, 1) := zk_42 (by decide +kernel)
theorem dX0_latestOf_29 : decode cX0_latestOf 29 = .ok (.getfield 65, 3) := zk_180 (by decide +kernel)
theorem dX0_latestOf_32 : decode cX0_latestOf 32 = .ok (.iload_n 1, 1) := zk_27 (by decide +kernel)
theorem dX0_latestOf_33 : decode cX0_latestOf 33 = .ok (.iconst 0, 1) := zk_3 (by decide +kernel)
theorem dX0_latestOf_34 : decode cX0_latestOf 34 = .ok (.invokevirtual 117, 3) := zk_182 (by decide +kernel)
theorem dX0_latestOf_37 : decode cX0_latestOf 37 = .ok (.i2l, 1) := zk_133 (by decide +kernel)
theorem dX0_latestOf_38 : decode cX0_latestOf 38 = .ok (.lstore 5, 2) := zk_55 (by decide +kernel)
theorem dX0_latestOf_40 : decode cX0_latestOf 40 = .ok (.aload 4, 2) := zk_25 (by decide +kernel)
theorem dX0_latestOf_42 : decode cX0_latestOf 42 = .ok (.getfield 120, 3) := zk_180 (by decide +kernel)
theorem dX0_latestOf_45 : decode cX0_latestOf 45 = .ok (.ifCond .ge 16, 3) := zk_156 (by decide +kernel)
theorem dX0_latestOf_61 : decode cX0_latestOf 61 = .ok (.lload 5, 2) := zk_22 (by decide +kernel)
theorem dX0_latestOf_63 : decode cX0_latestOf 63 = .ok (.lstore 7, 2) := zk_55 (by decide +kernel)
theorem dX0_latestOf_65 : decode cX0_latestOf 65 = .ok (.lload_n 2, 1) := zk_32 (by decide +kernel)
theorem dX0_latestOf_66 : decode cX0_latestOf 66 = .ok (.aload 4, 2) := zk_25 (by decide +kernel)
theorem dX0_latestOf_68 : decode cX0_latestOf 68 = .ok (.lload 7, 2) := zk_22 (by decide +kernel)
theorem dX0_latestOf_70 : decode cX0_latestOf 70 = .ok (.invokevirtual 105, 3) := zk_182 (by decide +kernel)
theorem dX0_latestOf_73 : decode cX0_latestOf 73 = .ok (.aload 4, 2) := zk_25 (by decide +kernel)
theorem dX0_latestOf_75 : decode cX0_latestOf 75 = .ok (.lload 7, 2) := zk_22 (by decide +kernel)
theorem dX0_latestOf_77 : decode cX0_latestOf 77 = .ok (.invokevirtual 130, 3) := zk_182 (by decide +kernel)
theorem dX0_latestOf_80 : decode cX0_latestOf 80 = .ok (.ladd, 1) := zk_97 (by decide +kernel)
theorem dX0_latestOf_81 : decode cX0_latestOf 81 = .ok (.lconst 1, 1) := zk_10 (by decide +kernel)
theorem dX0_latestOf_82 : decode cX0_latestOf 82 = .ok (.lsub, 1) := zk_101 (by decide +kernel)
theorem dX0_latestOf_83 : decode cX0_latestOf 83 = .ok (.invokestatic 127, 3) := zk_184 (by decide +kernel)
theorem dX0_latestOf_86 : decode cX0_latestOf 86 = .ok (.lstore_n 2, 1) := zk_65 (by decide +kernel)
theorem dX0_latestOf_48 : decode cX0_latestOf 48 = .ok (.lload 5, 2) := zk_22 (by decide +kernel)
theorem dX0_latestOf_50 : decode cX0_latestOf 50 = .ok (.aload 4, 2) := zk_25 (by decide +kernel)
theorem dX0_latestOf_52 : decode cX0_latestOf 52 = .ok (.invokevirtual 123, 3) := zk_182 (by decide +kernel)
theorem dX0_latestOf_55 : decode cX0_latestOf 55 = .ok (.invokestatic 127, 3) := zk_184 (by decide +kernel)
theorem dX0_latestOf_58 : decode cX0_latestOf 58 = .ok (.goto 5, 3) := zk_167 (by decide +kernel)
set_option maxHeartbeats 4000000 in
set_option maxRecDepth 100000 in
theorem gb_late (l : Launch) (dC : Nat → ClassId) (dI : Nat → Nat → Nat) (bk : Nat) (bto : Nat) (bnm : Nat) (bla : Nat) (bsk : Nat) (bru : Nat) (bbo : Nat) (bdi : Nat) (bda : Nat) (bdk : Nat) (bdt : Nat) (bdp : Nat) (bno : Nat) (cTo : ClassId) (fTo : Nat → Int32) (cLa : ClassId) (La : Nat → Nat) (FI : Nat → Int32) (GR : Nat → Int32) (FR : Nat → Int32) (cBi : ClassId) (fDi : Nat → Int64) (ns : Int32) (nsa : Nat) (nfa : Nat) (nza : Nat) (cNs : ClassId) (fNs : Nat → Int32) (cNf : ClassId) (fNf : Nat → Int32) (cNz : ClassId) (fNz : Nat → Int32) (a0 : Int32) (ht2 : (fTo 2) ≤ 6) : Met l yX0_latestOf (Cond.code yX0_latestOf cX0_latestOf 9 (some .long) :: wsL_law) ({ frames := 2, cells := 0, slots := 0, locals := 45 }) (va_Pc [.ref bk, .int a0] (fun U => va_P (dC, dI) vwCl [(eO0a bk bto bnm bla bsk bru bbo bdi bda bdk bdt bdp bno), (eA0 bto cTo 5 fTo), (eA4 bla cLa 4 (fun k => some (La k))), (eO1a (La 0) (FI 0) (GR 0) (FR 0)), (eA1 bdi cBi 6 fDi), (eO6a bno ns nsa nfa nza), (eA0 nsa cNs 12 fNs), (eA0 nfa cNf 96 fNf), (eA0 nza cNz 96 fNz)] U.heap ∧ va_K (dC, dI) vwCl [(cTo, .int), (cLa, .object RX1), (cBi, .long), (cNs, .int), (cNf, .int), (cNz, .int)] U ∧ xN U)) (vp_Sl (fun r => r = fb_late fTo FI GR FR fDi fNs fNf fNz a0)) 0 0 (fun _ => False) := by
  refine Met.ofW (cc := cX0_latestOf) (maxL := 9) (ret := (some .long)) (by decide) rfl ?_
  intro p e s m args below meth c s₁ B hml hv
  obtain ⟨rfl, hP, hK, hNx⟩ := hv
  have hx := B.exec
  have hb := B.bytes
  have hr := B.returns
  have hts := atoms_spec (ws := Cond.code yX0_latestOf cX0_latestOf 9 (some .long) :: wsL_law) B.pre
  have htw : ∀ w ∈ wsL_law, w.before _ s = true := fun w h => hts w (List.mem_cons_of_mem _ h)
  have hown : s.vm.findClass RX0 = some m.cls := findClass_of_methodNamed B.named
  have hlocks := B.notSynchronized
  have hl := lv_entry ([.ref bk, .int a0]) (n := 9) (Nat.le_of_ble_eq_true rfl)
  rw [lg_entry_eq]
  generalize (lg_sl ([.ref bk, .int a0]) ++ List.replicate (9 - (lg_sl ([.ref bk, .int a0])).length) Slot.unset).toArray = ls at hl ⊢
  have hl : lv_has ls 9 [(0, .ref bk), (1, .int a0)] := hl
  refine lv_ldc2 (v := 19999) hx hb hown (htw _ (ck_55 _ (List.mem_of_getElem? (i := 14) rfl))) dX0_latestOf_0 ?_
  refine lv_lstore_n (lv' := [(2, .long 19999), (0, .ref bk), (1, .int a0)]) hx hb dX0_latestOf_3 rfl hl (by decide) rfl (fun ls hl => ?_)
  refine lv_aload_n hx hb dX0_latestOf_4 rfl (lv_at hl 1 rfl) ?_
  refine lv_iconst (v := 0) hx hb dX0_latestOf_5 (by decide) ?_
  have hPc := hP.sub (ws' := [(eO0a bk bto bnm bla bsk bru bbo bdi bda bdk bdt bdp bno), (eA0 bto cTo 5 fTo), (eA4 bla cLa 4 (fun k => some (La k)))]) [0, 1, 2] rfl
  have hKc := hK.sub (tys' := [(cTo, .int), (cLa, .object RX1)]) [0, 1] rfl
  refine va_csq (W.runV (As := [.int 0]) (rest := []) ⟨hx, hb, hml, hown, htw⟩ (gb_landAt l dC dI bk bto bnm bla bsk bru bbo bdi bda bdk bdt bdp bno cTo fTo cLa La (0 : Int32)) (cwV 1 htw (xg_V (ck_55 _ (List.mem_of_getElem? (i := 3) rfl)) (ck_20 _ (List.mem_of_getElem? (i := 22) rfl)) (ck_20 _ (List.mem_of_getElem? (i := 23) rfl)) (ck_1 _ (List.mem_of_getElem? (i := 20) rfl)) (ck_21 _ (List.mem_of_getElem? (i := 0) rfl))) rfl rfl rfl (by exact ⟨rfl, hdc_6.1, hdc_6.2, hdd_15⟩) ⟨Nat.le_of_ble_eq_true rfl, Nat.le_of_ble_eq_true rfl⟩) ⟨fun a U g mk q => by obtain ⟨q0, qP, qK⟩ := q; exact ⟨q0, qP, va_K.moved (u := U) (U := U.calling g mk a) (Vm.Alike.refl U.vm) qK⟩, va_recv hKc hPc (ci := 0) (q0 := 0) rfl rfl, fun U hU hW => ⟨rfl, by rw [hU]; exact hPc, va_K.moved hW.alike hKc⟩⟩ rfl rfl hl.1 rfl (lv_room (Nat.le_of_ble_eq_true rfl)) dX0_latestOf_6 ⟨Nat.le_of_ble_eq_true rfl, Nat.le_of_ble_eq_true rfl⟩) (fun r_1 hw => ?_)
  try dsimp only at hw
  by_cases hz_2 : fb_landIs fTo (0 : Int32) = 0
  · obtain rfl : r_1 = none := by rw [hw, if_pos hz_2]
    refine W.eq (g2 := F0 m 9 ls [.null]) rfl ?_
    refine lv_astoreN (lv' := [(4, .null), (2, .long 19999), (0, .ref bk), (1, .int a0)]) hx hb dX0_latestOf_9 hl (by decide) rfl (fun ls hl => ?_)
    refine lv_aload_n hx hb dX0_latestOf_11 rfl (lv_at hl 2 rfl) ?_
    refine va_get (D := (dC, dI)) (ci := 0) (v := .ref bno) (C := RX0) (T := TX0) (N := 12) hx hb htw inlX0 hown hK hP 0 rfl rfl 11 (by decide) (htw _ (ck_6 _ (List.mem_of_getElem? (i := 17) rfl))) (fun _ h9 => h9) rfl dX0_latestOf_12 ?_
    refine lv_iload_n hx hb dX0_latestOf_15 rfl (lv_at hl 3 rfl) ?_
    refine lv_iconst (v := 0) hx hb dX0_latestOf_16 (by decide) ?_
    have hPc := hP.sub (ws' := [(eO6a bno ns nsa nfa nza), (eA0 nsa cNs 12 fNs)]) [5, 6] rfl
    have hKc := hK.sub (tys' := [(cNs, .int)]) [3] rfl
    refine vp_callSi (W.runV (As := [.int a0, .int 0]) (rest := []) ⟨hx, hb, hml, hown, htw⟩ (gn_does l dC dI bno ns nsa nfa nza cNs fNs a0 (0 : Int32)) (cwV 2 htw (xg_V (ck_55 _ (List.mem_of_getElem? (i := 2) rfl)) (ck_23 _ (List.mem_of_getElem? (i := 10) rfl)) (ck_23 _ (List.mem_of_getElem? (i := 11) rfl)) (ck_2 _ (List.mem_of_getElem? (i := 11) rfl)) (ck_23 _ (List.mem_of_getElem? (i := 12) rfl))) rfl rfl rfl (by exact ⟨rfl, hdc_3.1, hdc_3.2, hdd_8⟩) ⟨Nat.le_of_ble_eq_true rfl, Nat.le_of_ble_eq_true rfl⟩) ⟨fun a U g mk q => by obtain ⟨q0, qP, qK⟩ := q; exact ⟨q0, qP, va_K.moved (u := U) (U := U.calling g mk a) (Vm.Alike.refl U.vm) qK⟩, va_recv hKc hPc (ci := 6) (q0 := 0) rfl rfl, fun U hU hW => ⟨rfl, by rw [hU]; exact hPc, va_K.moved hW.alike hKc⟩⟩ rfl rfl hl.1 rfl (lv_room (Nat.le_of_ble_eq_true rfl)) dX0_latestOf_17 ⟨Nat.le_of_ble_eq_true rfl, Nat.le_of_ble_eq_true rfl⟩) (fun r_3 hw => ?_)
    try dsimp only at hw
    have hq_r_3 : r_3 = fn_does fNs a0 (0 : Int32) := hw
    refine lv_if_eq (tgt := 87) hx hb dX0_latestOf_20 (by decide) (fun c_4 => ?_) (fun c_4 => ?_)
    · refine lv_aload_n hx hb dX0_latestOf_87 rfl (lv_at hl 2 rfl) ?_
      refine va_get (D := (dC, dI)) (ci := 0) (v := .ref bno) (C := RX0) (T := TX0) (N := 12) hx hb htw inlX0 hown hK hP 0 rfl rfl 11 (by decide) (htw _ (ck_6 _ (List.mem_of_getElem? (i := 17) rfl))) (fun _ h9 => h9) rfl dX0_latestOf_88 ?_
      refine lv_iload_n hx hb dX0_latestOf_91 rfl (lv_at hl 3 rfl) ?_
      refine lv_iconst (v := 5) hx hb dX0_latestOf_92 (by decide) ?_
      have hPc := hP.sub (ws' := [(eO6a bno ns nsa nfa nza), (eA0 nfa cNf 96 fNf)]) [5, 7] rfl
      have hKc := hK.sub (tys' := [(cNf, .int)]) [4] rfl
      refine vp_callSi (W.runV (As := [.int a0, .int 5]) (rest := []) ⟨hx, hb, hml, hown, htw⟩ (gn_firstOf l dC dI bno ns nsa nfa nza cNf fNf a0 (5 : Int32)) (cwV 2 htw (xg_V (ck_55 _ (List.mem_of_getElem? (i := 4) rfl)) (ck_55 _ (List.mem_of_getElem? (i := 5) rfl)) (ck_55 _ (List.mem_of_getElem? (i := 6) rfl)) (ck_2 _ (List.mem_of_getElem? (i := 11) rfl)) (ck_55 _ (List.mem_of_getElem? (i := 7) rfl))) rfl rfl rfl (by exact ⟨rfl, hdc_3.1, hdc_3.2, hdd_7⟩) ⟨Nat.le_of_ble_eq_true rfl, Nat.le_of_ble_eq_true rfl⟩) ⟨fun a U g mk q => by obtain ⟨q0, qP, qK⟩ := q; exact ⟨q0, qP, va_K.moved (u := U) (U := U.calling g mk a) (Vm.Alike.refl U.vm) qK⟩, va_recv hKc hPc (ci := 6) (q0 := 0) rfl rfl, fun U hU hW => ⟨rfl, by rw [hU]; exact hPc, va_K.moved hW.alike hKc⟩⟩ rfl rfl hl.1 rfl (lv_room (Nat.le_of_ble_eq_true rfl)) dX0_latestOf_93 ⟨Nat.le_of_ble_eq_true rfl, Nat.le_of_ble_eq_true rfl⟩) (fun r_5 hw => ?_)
      try dsimp only at hw
      have hq_r_5 : r_5 = fn_firstOf fNf a0 (5 : Int32) := hw
      refine lv_istore (lv' := [(5, .int r_5), (4, .null), (2, .long 19999), (0, .ref bk), (1, .int a0)]) hx hb dX0_latestOf_96 hl (by decide) rfl (fun ls hl => ?_)
      refine lv_aload_n hx hb dX0_latestOf_98 rfl (lv_at hl 3 rfl) ?_
      refine va_get (D := (dC, dI)) (ci := 0) (v := .ref bno) (C := RX0) (T := TX0) (N := 12) hx hb htw inlX0 hown hK hP 0 rfl rfl 11 (by decide) (htw _ (ck_6 _ (List.mem_of_getElem? (i := 17) rfl))) (fun _ h9 => h9) rfl dX0_latestOf_99 ?_
      refine lv_iload_n hx hb dX0_latestOf_102 rfl (lv_at hl 4 rfl) ?_
      refine lv_iconst (v := 5) hx hb dX0_latestOf_103 (by decide) ?_
      have hPc := hP.sub (ws' := [(eO6a bno ns nsa nfa nza), (eA0 nsa cNs 12 fNs)]) [5, 6] rfl
      have hKc := hK.sub (tys' := [(cNs, .int)]) [3] rfl
      refine vp_callSi (W.runV (As := [.int a0, .int 5]) (rest := []) ⟨hx, hb, hml, hown, htw⟩ (gn_does l dC dI bno ns nsa nfa nza cNs fNs a0 (5 : Int32)) (cwV 2 htw (xg_V (ck_55 _ (List.mem_of_getElem? (i := 2) rfl)) (ck_23 _ (List.mem_of_getElem? (i := 10) rfl)) (ck_23 _ (List.mem_of_getElem? (i := 11) rfl)) (ck_2 _ (List.mem_of_getElem? (i := 11) rfl)) (ck_23 _ (List.mem_of_getElem? (i := 12) rfl))) rfl rfl rfl (by exact ⟨rfl, hdc_3.1, hdc_3.2, hdd_8⟩) ⟨Nat.le_of_ble_eq_true rfl, Nat.le_of_ble_eq_true rfl⟩) ⟨fun a U g mk q => by obtain ⟨q0, qP, qK⟩ := q; exact ⟨q0, qP, va_K.moved (u := U) (U := U.calling g mk a) (Vm.Alike.refl U.vm) qK⟩, va_recv hKc hPc (ci := 6) (q0 := 0) rfl rfl, fun U hU hW => ⟨rfl, by rw [hU]; exact hPc, va_K.moved hW.alike hKc⟩⟩ rfl rfl hl.1 rfl (lv_room (Nat.le_of_ble_eq_true rfl)) dX0_latestOf_104 ⟨Nat.le_of_ble_eq_true rfl, Nat.le_of_ble_eq_true rfl⟩) (fun r_6 hw => ?_)
      try dsimp only at hw
      have hq_r_6 : r_6 = fn_does fNs a0 (5 : Int32) := hw
      refine lv_if_eq (tgt := 146) hx hb dX0_latestOf_107 (by decide) (fun c_7 => ?_) (fun c_7 => ?_)
      · refine lv_lload_n hx hb dX0_latestOf_146 rfl (lv_at hl 2 rfl) ?_
        exact W.lret (v := 19999) hx hb hr (fun t ht hW => ⟨19999, rfl, (Eq.symm ((by rw [fb_late]; (try rw [if_pos hz_2]); (try rw [← hq_r_3]); (try rw [xL_eq]); (try rw [if_pos c_4]); (try rw [← hq_r_5]); (try rw [xL_eq]); (try rw [← hq_r_6]); (try rw [xL_eq]); (try rw [if_pos c_7]); try rfl))), ht⟩) (fun _ h => by cases h) dX0_latestOf_147
      · refine lv_aload_n hx hb dX0_latestOf_110 rfl (lv_at hl 3 rfl) ?_
        refine lv_iconst (v := 2) hx hb dX0_latestOf_111 (by decide) ?_
        refine lv_iload hx hb dX0_latestOf_112 (lv_at hl 0 rfl) ?_
        have hPc := hP.sub (ws' := [(eO0a bk bto bnm bla bsk bru bbo bdi bda bdk bdt bdp bno), (eA0 bto cTo 5 fTo)]) [0, 1] rfl
        have hKc := hK.sub (tys' := [(cTo, .int)]) [0] rfl
        refine vp_callSi (W.runV (As := [.int 2, .int r_5]) (rest := []) ⟨hx, hb, hml, hown, htw⟩ (gb_has l dC dI bk bto bnm bla bsk bru bbo bdi bda bdk bdt bdp bno cTo fTo (2 : Int32) r_5) (cwV 2 htw (xg_V (ck_21 _ (List.mem_of_getElem? (i := 1) rfl)) (ck_21 _ (List.mem_of_getElem? (i := 2) rfl)) (ck_21 _ (List.mem_of_getElem? (i := 3) rfl)) (ck_1 _ (List.mem_of_getElem? (i := 20) rfl)) (ck_21 _ (List.mem_of_getElem? (i := 4) rfl))) rfl rfl rfl (by exact ⟨rfl, hdc_6.1, hdc_6.2, hdd_8⟩) ⟨Nat.le_of_ble_eq_true rfl, Nat.le_of_ble_eq_true rfl⟩) ⟨fun a U g mk q => by obtain ⟨q0, qP, qK⟩ := q; exact ⟨q0, qP, va_K.moved (u := U) (U := U.calling g mk a) (Vm.Alike.refl U.vm) qK⟩, va_recv hKc hPc (ci := 0) (q0 := 0) rfl rfl, fun U hU hW => ⟨rfl, by rw [hU]; exact hPc, va_K.moved hW.alike hKc⟩⟩ rfl rfl hl.1 rfl (lv_room (Nat.le_of_ble_eq_true rfl)) dX0_latestOf_114 ⟨Nat.le_of_ble_eq_true rfl, Nat.le_of_ble_eq_true rfl⟩) (fun r_8 hw => ?_)
        try dsimp only at hw
        have hq_r_8 : r_8 = fb_has fTo (2 : Int32) r_5 := hw
        refine lv_if_eq (tgt := 146) hx hb dX0_latestOf_117 (by decide) (fun c_9 => ?_) (fun c_9 => ?_)
        · refine lv_lload_n hx hb dX0_latestOf_146 rfl (lv_at hl 2 rfl) ?_
          exact W.lret (v := 19999) hx hb hr (fun t ht hW => ⟨19999, rfl, (Eq.symm ((by rw [fb_late]; (try rw [if_pos hz_2]); (try rw [← hq_r_3]); (try rw [xL_eq]); (try rw [if_pos c_4]); (try rw [← hq_r_5]); (try rw [xL_eq]); (try rw [← hq_r_6]); (try rw [xL_eq]); (try rw [if_neg c_7]); (try rw [← hq_r_8]); (try rw [xL_eq]); (try rw [if_pos c_9]); try rfl))), ht⟩) (fun _ h => by cases h) dX0_latestOf_147
        · refine lv_aload_n hx hb dX0_latestOf_120 rfl (lv_at hl 3 rfl) ?_
          refine va_get (D := (dC, dI)) (ci := 0) (v := .ref bdi) (C := RX0) (T := TX0) (N := 12) hx hb htw inlX0 hown hK hP 0 rfl rfl 6 (by decide) (htw _ (ck_6 _ (List.mem_of_getElem? (i := 11) rfl))) (fun _ h9 => h9) rfl dX0_latestOf_121 ?_
          refine lv_iload hx hb dX0_latestOf_124 (lv_at hl 0 rfl) ?_
          refine va_lald hx hb hK hP 4 2 rfl rfl (xg_inr (N := 6) rfl (gb_late_s0 (y0 := r_5) (y1 := fTo 2) ht2 (xb_hasin hq_r_8 c_9).2 (xb_hasin hq_r_8 c_9).1).1 (gb_late_s0 (y0 := r_5) (y1 := fTo 2) ht2 (xb_hasin hq_r_8 c_9).2 (xb_hasin hq_r_8 c_9).1).2) dX0_latestOf_126 ?_
          refine lv_ldc2 (v := (-1)) hx hb hown (htw _ (ck_55 _ (List.mem_of_getElem? (i := 17) rfl))) dX0_latestOf_127 ?_
          refine W.lcmp hx hb dX0_latestOf_130 ?_
          refine lv_if_eq (tgt := 146) hx hb dX0_latestOf_131 (by decide) (fun c_10 => ?_) (fun c_10 => ?_)
          · refine lv_lload_n hx hb dX0_latestOf_146 rfl (lv_at hl 2 rfl) ?_
            exact W.lret (v := 19999) hx hb hr (fun t ht hW => ⟨19999, rfl, (Eq.symm ((by rw [fb_late]; (try rw [if_pos hz_2]); (try rw [← hq_r_3]); (try rw [xL_eq]); (try rw [if_pos c_4]); (try rw [← hq_r_5]); (try rw [xL_eq]); (try rw [← hq_r_6]); (try rw [xL_eq]); (try rw [if_neg c_7]); (try rw [← hq_r_8]); (try rw [xL_eq]); (try rw [if_neg c_9]); (try rw [if_pos c_10]); try rfl))), ht⟩) (fun _ h => by cases h) dX0_latestOf_147
          · refine lv_lload_n hx hb dX0_latestOf_134 rfl (lv_at hl 2 rfl) ?_
            refine lv_aload_n hx hb dX0_latestOf_135 rfl (lv_at hl 3 rfl) ?_
            refine va_get (D := (dC, dI)) (ci := 0) (v := .ref bdi) (C := RX0) (T := TX0) (N := 12) hx hb htw inlX0 hown hK hP 0 rfl rfl 6 (by decide) (htw _ (ck_6 _ (List.mem_of_getElem? (i := 11) rfl))) (fun _ h9 => h9) rfl dX0_latestOf_136 ?_
            refine lv_iload hx hb dX0_latestOf_139 (lv_at hl 0 rfl) ?_
            refine va_lald hx hb hK hP 4 2 rfl rfl (xg_inr (N := 6) rfl (gb_late_s1 (y0 := r_5) (y1 := fTo 2) ht2 (xb_hasin hq_r_8 c_9).2 (xb_hasin hq_r_8 c_9).1).1 (gb_late_s1 (y0 := r_5) (y1 := fTo 2) ht2 (xb_hasin hq_r_8 c_9).2 (xb_hasin hq_r_8 c_9).1).2) dX0_latestOf_141 ?_
            refine va_mmin_long hx hb (by rw [hml]; exact hl.1.symm) hown (htw _ (ck_55 _ (List.mem_of_getElem? (i := 16) rfl))) (htw _ (ck_45 _ (List.mem_of_getElem? (i := 9) rfl))) (htw _ (ck_14 _ (List.mem_of_getElem? (i := 8) rfl))) (htw _ (ck_45 _ (List.mem_of_getElem? (i := 10) rfl))) (Nat.le_of_ble_eq_true rfl) (Nat.le_of_ble_eq_true rfl) (Nat.le_of_ble_eq_true rfl) (Nat.le_of_ble_eq_true rfl) dX0_latestOf_142 ?_
            refine lv_lstore_n (lv' := [(2, .long (if (fDi r_5.toNatClampNeg) < 19999 then (fDi r_5.toNatClampNeg) else 19999)), (5, .int r_5), (4, .null), (0, .ref bk), (1, .int a0)]) hx hb dX0_latestOf_145 rfl hl (by decide) rfl (fun ls hl => ?_)
            refine lv_lload_n hx hb dX0_latestOf_146 rfl (lv_at hl 0 rfl) ?_
            exact W.lret (v := (if (fDi r_5.toNatClampNeg) < 19999 then (fDi r_5.toNatClampNeg) else 19999)) hx hb hr (fun t ht hW => ⟨(if (fDi r_5.toNatClampNeg) < 19999 then (fDi r_5.toNatClampNeg) else 19999), rfl, (Eq.symm ((by rw [fb_late]; (try rw [if_pos hz_2]); (try rw [← hq_r_3]); (try rw [xL_eq]); (try rw [if_pos c_4]); (try rw [← hq_r_5]); (try rw [xL_eq]); (try rw [← hq_r_6]); (try rw [xL_eq]); (try rw [if_neg c_7]); (try rw [← hq_r_8]); (try rw [xL_eq]); (try rw [if_neg c_9]); (try rw [if_neg c_10]); try rfl))), ht⟩) (fun _ h => by cases h) dX0_latestOf_147
    · refine lv_aloadN hx hb dX0_latestOf_23 (lv_at hl 0 rfl) ?_
      refine lv_ifnullN (tgt := 87) hx hb dX0_latestOf_25 (by decide) ?_
      refine lv_aload_n hx hb dX0_latestOf_87 rfl (lv_at hl 2 rfl) ?_
      refine va_get (D := (dC, dI)) (ci := 0) (v := .ref bno) (C := RX0) (T := TX0) (N := 12) hx hb htw inlX0 hown hK hP 0 rfl rfl 11 (by decide) (htw _ (ck_6 _ (List.mem_of_getElem? (i := 17) rfl))) (fun _ h9 => h9) rfl dX0_latestOf_88 ?_
      refine lv_iload_n hx hb dX0_latestOf_91 rfl (lv_at hl 3 rfl) ?_
      refine lv_iconst (v := 5) hx hb dX0_latestOf_92 (by decide) ?_
      have hPc := hP.sub (ws' := [(eO6a bno ns nsa nfa nza), (eA0 nfa cNf 96 fNf)]) [5, 7] rfl
      have hKc := hK.sub (tys' := [(cNf, .int)]) [4] rfl
      refine vp_callSi (W.runV (As := [.int a0, .int 5]) (rest := []) ⟨hx, hb, hml, hown, htw⟩ (gn_firstOf l dC dI bno ns nsa nfa nza cNf fNf a0 (5 : Int32)) (cwV 2 htw (xg_V (ck_55 _ (List.mem_of_getElem? (i := 4) rfl)) (ck_55 _ (List.mem_of_getElem? (i := 5) rfl)) (ck_55 _ (List.mem_of_getElem? (i := 6) rfl)) (ck_2 _ (List.mem_of_getElem? (i := 11) rfl)) (ck_55 _ (List.mem_of_getElem? (i := 7) rfl))) rfl rfl rfl (by exact ⟨rfl, hdc_3.1, hdc_3.2, hdd_7⟩) ⟨Nat.le_of_ble_eq_true rfl, Nat.le_of_ble_eq_true rfl⟩) ⟨fun a U g mk q => by obtain ⟨q0, qP, qK⟩ := q; exact ⟨q0, qP, va_K.moved (u := U) (U := U.calling g mk a) (Vm.Alike.refl U.vm) qK⟩, va_recv hKc hPc (ci := 6) (q0 := 0) rfl rfl, fun U hU hW => ⟨rfl, by rw [hU]; exact hPc, va_K.moved hW.alike hKc⟩⟩ rfl rfl hl.1 rfl (lv_room (Nat.le_of_ble_eq_true rfl)) dX0_latestOf_93 ⟨Nat.le_of_ble_eq_true rfl, Nat.le_of_ble_eq_true rfl⟩) (fun r_11 hw => ?_)
      try dsimp only at hw
      have hq_r_11 : r_11 = fn_firstOf fNf a0 (5 : Int32) := hw
      refine lv_istore (lv' := [(5, .int r_11), (4, .null), (2, .long 19999), (0, .ref bk), (1, .int a0)]) hx hb dX0_latestOf_96 hl (by decide) rfl (fun ls hl => ?_)
      refine lv_aload_n hx hb dX0_latestOf_98 rfl (lv_at hl 3 rfl) ?_
      refine va_get (D := (dC, dI)) (ci := 0) (v := .ref bno) (C := RX0) (T := TX0) (N := 12) hx hb htw inlX0 hown hK hP 0 rfl rfl 11 (by decide) (htw _ (ck_6 _ (List.mem_of_getElem? (i := 17) rfl))) (fun _ h9 => h9) rfl dX0_latestOf_99 ?_
      refine lv_iload_n hx hb dX0_latestOf_102 rfl (lv_at hl 4 rfl) ?_
      refine lv_iconst (v := 5) hx hb dX0_latestOf_103 (by decide) ?_
      have hPc := hP.sub (ws' := [(eO6a bno ns nsa nfa nza), (eA0 nsa cNs 12 fNs)]) [5, 6] rfl
      have hKc := hK.sub (tys' := [(cNs, .int)]) [3] rfl
      refine vp_callSi (W.runV (As := [.int a0, .int 5]) (rest := []) ⟨hx, hb, hml, hown, htw⟩ (gn_does l dC dI bno ns nsa nfa nza cNs fNs a0 (5 : Int32)) (cwV 2 htw (xg_V (ck_55 _ (List.mem_of_getElem? (i := 2) rfl)) (ck_23 _ (List.mem_of_getElem? (i := 10) rfl)) (ck_23 _ (List.mem_of_getElem? (i := 11) rfl)) (ck_2 _ (List.mem_of_getElem? (i := 11) rfl)) (ck_23 _ (List.mem_of_getElem? (i := 12) rfl))) rfl rfl rfl (by exact ⟨rfl, hdc_3.1, hdc_3.2, hdd_8⟩) ⟨Nat.le_of_ble_eq_true rfl, Nat.le_of_ble_eq_true rfl⟩) ⟨fun a U g mk q => by obtain ⟨q0, qP, qK⟩ := q; exact ⟨q0, qP, va_K.moved (u := U) (U := U.calling g mk a) (Vm.Alike.refl U.vm) qK⟩, va_recv hKc hPc (ci := 6) (q0 := 0) rfl rfl, fun U hU hW => ⟨rfl, by rw [hU]; exact hPc, va_K.moved hW.alike hKc⟩⟩ rfl rfl hl.1 rfl (lv_room (Nat.le_of_ble_eq_true rfl)) dX0_latestOf_104 ⟨Nat.le_of_ble_eq_true rfl, Nat.le_of_ble_eq_true rfl⟩) (fun r_12 hw => ?_)
      try dsimp only at hw
      have hq_r_12 : r_12 = fn_does fNs a0 (5 : Int32) := hw
      refine lv_if_eq (tgt := 146) hx hb dX0_latestOf_107 (by decide) (fun c_13 => ?_) (fun c_13 => ?_)
      · refine lv_lload_n hx hb dX0_latestOf_146 rfl (lv_at hl 2 rfl) ?_
        exact W.lret (v := 19999) hx hb hr (fun t ht hW => ⟨19999, rfl, (Eq.symm ((by rw [fb_late]; (try rw [if_pos hz_2]); (try rw [← hq_r_3]); (try rw [xL_eq]); (try rw [if_neg c_4]); (try rw [← hq_r_11]); (try rw [xL_eq]); (try rw [← hq_r_12]); (try rw [xL_eq]); (try rw [if_pos c_13]); try rfl))), ht⟩) (fun _ h => by cases h) dX0_latestOf_147
      · refine lv_aload_n hx hb dX0_latestOf_110 rfl (lv_at hl 3 rfl) ?_
        refine lv_iconst (v := 2) hx hb dX0_latestOf_111 (by decide) ?_
        refine lv_iload hx hb dX0_latestOf_112 (lv_at hl 0 rfl) ?_
        have hPc := hP.sub (ws' := [(eO0a bk bto bnm bla bsk bru bbo bdi bda bdk bdt bdp bno), (eA0 bto cTo 5 fTo)]) [0, 1] rfl
        have hKc := hK.sub (tys' := [(cTo, .int)]) [0] rfl
        refine vp_callSi (W.runV (As := [.int 2, .int r_11]) (rest := []) ⟨hx, hb, hml, hown, htw⟩ (gb_has l dC dI bk bto bnm bla bsk bru bbo bdi bda bdk bdt bdp bno cTo fTo (2 : Int32) r_11) (cwV 2 htw (xg_V (ck_21 _ (List.mem_of_getElem? (i := 1) rfl)) (ck_21 _ (List.mem_of_getElem? (i := 2) rfl)) (ck_21 _ (List.mem_of_getElem? (i := 3) rfl)) (ck_1 _ (List.mem_of_getElem? (i := 20) rfl)) (ck_21 _ (List.mem_of_getElem? (i := 4) rfl))) rfl rfl rfl (by exact ⟨rfl, hdc_6.1, hdc_6.2, hdd_8⟩) ⟨Nat.le_of_ble_eq_true rfl, Nat.le_of_ble_eq_true rfl⟩) ⟨fun a U g mk q => by obtain ⟨q0, qP, qK⟩ := q; exact ⟨q0, qP, va_K.moved (u := U) (U := U.calling g mk a) (Vm.Alike.refl U.vm) qK⟩, va_recv hKc hPc (ci := 0) (q0 := 0) rfl rfl, fun U hU hW => ⟨rfl, by rw [hU]; exact hPc, va_K.moved hW.alike hKc⟩⟩ rfl rfl hl.1 rfl (lv_room (Nat.le_of_ble_eq_true rfl)) dX0_latestOf_114 ⟨Nat.le_of_ble_eq_true rfl, Nat.le_of_ble_eq_true rfl⟩) (fun r_14 hw => ?_)
        try dsimp only at hw
        have hq_r_14 : r_14 = fb_has fTo (2 : Int32) r_11 := hw
        refine lv_if_eq (tgt := 146) hx hb dX0_latestOf_117 (by decide) (fun c_15 => ?_) (fun c_15 => ?_)
        · refine lv_lload_n hx hb dX0_latestOf_146 rfl (lv_at hl 2 rfl) ?_
          exact W.lret (v := 19999) hx hb hr (fun t ht hW => ⟨19999, rfl, (Eq.symm ((by rw [fb_late]; (try rw [if_pos hz_2]); (try rw [← hq_r_3]); (try rw [xL_eq]); (try rw [if_neg c_4]); (try rw [← hq_r_11]); (try rw [xL_eq]); (try rw [← hq_r_12]); (try rw [xL_eq]); (try rw [if_neg c_13]); (try rw [← hq_r_14]); (try rw [xL_eq]); (try rw [if_pos c_15]); try rfl))), ht⟩) (fun _ h => by cases h) dX0_latestOf_147
        · refine lv_aload_n hx hb dX0_latestOf_120 rfl (lv_at hl 3 rfl) ?_
          refine va_get (D := (dC, dI)) (ci := 0) (v := .ref bdi) (C := RX0) (T := TX0) (N := 12) hx hb htw inlX0 hown hK hP 0 rfl rfl 6 (by decide) (htw _ (ck_6 _ (List.mem_of_getElem? (i := 11) rfl))) (fun _ h9 => h9) rfl dX0_latestOf_121 ?_
          refine lv_iload hx hb dX0_latestOf_124 (lv_at hl 0 rfl) ?_
          refine va_lald hx hb hK hP 4 2 rfl rfl (xg_inr (N := 6) rfl (gb_late_s2 (y0 := r_11) (y1 := fTo 2) ht2 (xb_hasin hq_r_14 c_15).2 (xb_hasin hq_r_14 c_15).1).1 (gb_late_s2 (y0 := r_11) (y1 := fTo 2) ht2 (xb_hasin hq_r_14 c_15).2 (xb_hasin hq_r_14 c_15).1).2) dX0_latestOf_126 ?_
          refine lv_ldc2 (v := (-1)) hx hb hown (htw _ (ck_55 _ (List.mem_of_getElem? (i := 17) rfl))) dX0_latestOf_127 ?_
          refine W.lcmp hx hb dX0_latestOf_130 ?_
          refine lv_if_eq (tgt := 146) hx hb dX0_latestOf_131 (by decide) (fun c_16 => ?_) (fun c_16 => ?_)
          · refine lv_lload_n hx hb dX0_latestOf_146 rfl (lv_at hl 2 rfl) ?_
            exact W.lret (v := 19999) hx hb hr (fun t ht hW => ⟨19999, rfl, (Eq.symm ((by rw [fb_late]; (try rw [if_pos hz_2]); (try rw [← hq_r_3]); (try rw [xL_eq]); (try rw [if_neg c_4]); (try rw [← hq_r_11]); (try rw [xL_eq]); (try rw [← hq_r_12]); (try rw [xL_eq]); (try rw [if_neg c_13]); (try rw [← hq_r_14]); (try rw [xL_eq]); (try rw [if_neg c_15]); (try rw [if_pos c_16]); try rfl))), ht⟩) (fun _ h => by cases h) dX0_latestOf_147
          · refine lv_lload_n hx hb dX0_latestOf_134 rfl (lv_at hl 2 rfl) ?_
            refine lv_aload_n hx hb dX0_latestOf_135 rfl (lv_at hl 3 rfl) ?_
            refine va_get (D := (dC, dI)) (ci := 0) (v := .ref bdi) (C := RX0) (T := TX0) (N := 12) hx hb htw inlX0 hown hK hP 0 rfl rfl 6 (by decide) (htw _ (ck_6 _ (List.mem_of_getElem? (i := 11) rfl))) (fun _ h9 => h9) rfl dX0_latestOf_136 ?_
            refine lv_iload hx hb dX0_latestOf_139 (lv_at hl 0 rfl) ?_
            refine va_lald hx hb hK hP 4 2 rfl rfl (xg_inr (N := 6) rfl (gb_late_s3 (y0 := r_11) (y1 := fTo 2) ht2 (xb_hasin hq_r_14 c_15).2 (xb_hasin hq_r_14 c_15).1).1 (gb_late_s3 (y0 := r_11) (y1 := fTo 2) ht2 (xb_hasin hq_r_14 c_15).2 (xb_hasin hq_r_14 c_15).1).2) dX0_latestOf_141 ?_
            refine va_mmin_long hx hb (by rw [hml]; exact hl.1.symm) hown (htw _ (ck_55 _ (List.mem_of_getElem? (i := 16) rfl))) (htw _ (ck_45 _ (List.mem_of_getElem? (i := 9) rfl))) (htw _ (ck_14 _ (List.mem_of_getElem? (i := 8) rfl))) (htw _ (ck_45 _ (List.mem_of_getElem? (i := 10) rfl))) (Nat.le_of_ble_eq_true rfl) (Nat.le_of_ble_eq_true rfl) (Nat.le_of_ble_eq_true rfl) (Nat.le_of_ble_eq_true rfl) dX0_latestOf_142 ?_
            refine lv_lstore_n (lv' := [(2, .long (if (fDi r_11.toNatClampNeg) < 19999 then (fDi r_11.toNatClampNeg) else 19999)), (5, .int r_11), (4, .null), (0, .ref bk), (1, .int a0)]) hx hb dX0_latestOf_145 rfl hl (by decide) rfl (fun ls hl => ?_)
            refine lv_lload_n hx hb dX0_latestOf_146 rfl (lv_at hl 0 rfl) ?_
            exact W.lret (v := (if (fDi r_11.toNatClampNeg) < 19999 then (fDi r_11.toNatClampNeg) else 19999)) hx hb hr (fun t ht hW => ⟨(if (fDi r_11.toNatClampNeg) < 19999 then (fDi r_11.toNatClampNeg) else 19999), rfl, (Eq.symm ((by rw [fb_late]; (try rw [if_pos hz_2]); (try rw [← hq_r_3]); (try rw [xL_eq]); (try rw [if_neg c_4]); (try rw [← hq_r_11]); (try rw [xL_eq]); (try rw [← hq_r_12]); (try rw [xL_eq]); (try rw [if_neg c_13]); (try rw [← hq_r_14]); (try rw [xL_eq]); (try rw [if_neg c_15]); (try rw [if_neg c_16]); try rfl))), ht⟩) (fun _ h => by cases h) dX0_latestOf_147
  · obtain rfl : r_1 = some (La 0) := by rw [hw, if_neg hz_2]; rfl
    refine W.eq (g2 := F0 m 9 ls [.ref (La 0)]) rfl ?_
    refine lv_astore (lv' := [(4, .ref (La 0)), (2, .long 19999), (0, .ref bk), (1, .int a0)]) hx hb dX0_latestOf_9 hl (by decide) rfl (fun ls hl => ?_)
    refine lv_aload_n hx hb dX0_latestOf_11 rfl (lv_at hl 2 rfl) ?_
    refine va_get (D := (dC, dI)) (ci := 0) (v := .ref bno) (C := RX0) (T := TX0) (N := 12) hx hb htw inlX0 hown hK hP 0 rfl rfl 11 (by decide) (htw _ (ck_6 _ (List.mem_of_getElem? (i := 17) rfl))) (fun _ h9 => h9) rfl dX0_latestOf_12 ?_
    refine lv_iload_n hx hb dX0_latestOf_15 rfl (lv_at hl 3 rfl) ?_
    refine lv_iconst (v := 0) hx hb dX0_latestOf_16 (by decide) ?_
    have hPc := hP.sub (ws' := [(eO6a bno ns nsa nfa nza), (eA0 nsa cNs 12 fNs)]) [5, 6] rfl
    have hKc := hK.sub (tys' := [(cNs, .int)]) [3] rfl
    refine vp_callSi (W.runV (As := [.int a0, .int 0]) (rest := []) ⟨hx, hb, hml, hown, htw⟩ (gn_does l dC dI bno ns nsa nfa nza cNs fNs a0 (0 : Int32)) (cwV 2 htw (xg_V (ck_55 _ (List.mem_of_getElem? (i := 2) rfl)) (ck_23 _ (List.mem_of_getElem? (i := 10) rfl)) (ck_23 _ (List.mem_of_getElem? (i := 11) rfl)) (ck_2 _ (List.mem_of_getElem? (i := 11) rfl)) (ck_23 _ (List.mem_of_getElem? (i := 12) rfl))) rfl rfl rfl (by exact ⟨rfl, hdc_3.1, hdc_3.2, hdd_8⟩) ⟨Nat.le_of_ble_eq_true rfl, Nat.le_of_ble_eq_true rfl⟩) ⟨fun a U g mk q => by obtain ⟨q0, qP, qK⟩ := q; exact ⟨q0, qP, va_K.moved (u := U) (U := U.calling g mk a) (Vm.Alike.refl U.vm) qK⟩, va_recv hKc hPc (ci := 6) (q0 := 0) rfl rfl, fun U hU hW => ⟨rfl, by rw [hU]; exact hPc, va_K.moved hW.alike hKc⟩⟩ rfl rfl hl.1 rfl (lv_room (Nat.le_of_ble_eq_true rfl)) dX0_latestOf_17 ⟨Nat.le_of_ble_eq_true rfl, Nat.le_of_ble_eq_true rfl⟩) (fun r_17 hw => ?_)
    try dsimp only at hw
    have hq_r_17 : r_17 = fn_does fNs a0 (0 : Int32) := hw
    refine lv_if_eq (tgt := 87) hx hb dX0_latestOf_20 (by decide) (fun c_18 => ?_) (fun c_18 => ?_)
    · refine lv_aload_n hx hb dX0_latestOf_87 rfl (lv_at hl 2 rfl) ?_
      refine va_get (D := (dC, dI)) (ci := 0) (v := .ref bno) (C := RX0) (T := TX0) (N := 12) hx hb htw inlX0 hown hK hP 0 rfl rfl 11 (by decide) (htw _ (ck_6 _ (List.mem_of_getElem? (i := 17) rfl))) (fun _ h9 => h9) rfl dX0_latestOf_88 ?_
      refine lv_iload_n hx hb dX0_latestOf_91 rfl (lv_at hl 3 rfl) ?_
      refine lv_iconst (v := 5) hx hb dX0_latestOf_92 (by decide) ?_
      have hPc := hP.sub (ws' := [(eO6a bno ns nsa nfa nza), (eA0 nfa cNf 96 fNf)]) [5, 7] rfl
      have hKc := hK.sub (tys' := [(cNf, .int)]) [4] rfl
      refine vp_callSi (W.runV (As := [.int a0, .int 5]) (rest := []) ⟨hx, hb, hml, hown, htw⟩ (gn_firstOf l dC dI bno ns nsa nfa nza cNf fNf a0 (5 : Int32)) (cwV 2 htw (xg_V (ck_55 _ (List.mem_of_getElem? (i := 4) rfl)) (ck_55 _ (List.mem_of_getElem? (i := 5) rfl)) (ck_55 _ (List.mem_of_getElem? (i := 6) rfl)) (ck_2 _ (List.mem_of_getElem? (i := 11) rfl)) (ck_55 _ (List.mem_of_getElem? (i := 7) rfl))) rfl rfl rfl (by exact ⟨rfl, hdc_3.1, hdc_3.2, hdd_7⟩) ⟨Nat.le_of_ble_eq_true rfl, Nat.le_of_ble_eq_true rfl⟩) ⟨fun a U g mk q => by obtain ⟨q0, qP, qK⟩ := q; exact ⟨q0, qP, va_K.moved (u := U) (U := U.calling g mk a) (Vm.Alike.refl U.vm) qK⟩, va_recv hKc hPc (ci := 6) (q0 := 0) rfl rfl, fun U hU hW => ⟨rfl, by rw [hU]; exact hPc, va_K.moved hW.alike hKc⟩⟩ rfl rfl hl.1 rfl (lv_room (Nat.le_of_ble_eq_true rfl)) dX0_latestOf_93 ⟨Nat.le_of_ble_eq_true rfl, Nat.le_of_ble_eq_true rfl⟩) (fun r_19 hw => ?_)
      try dsimp only at hw
      have hq_r_19 : r_19 = fn_firstOf fNf a0 (5 : Int32) := hw
      refine lv_istore (lv' := [(5, .int r_19), (4, .ref (La 0)), (2, .long 19999), (0, .ref bk), (1, .int a0)]) hx hb dX0_latestOf_96 hl (by decide) rfl (fun ls hl => ?_)
      refine lv_aload_n hx hb dX0_latestOf_98 rfl (lv_at hl 3 rfl) ?_
      refine va_get (D := (dC, dI)) (ci := 0) (v := .ref bno) (C := RX0) (T := TX0) (N := 12) hx hb htw inlX0 hown hK hP 0 rfl rfl 11 (by decide) (htw _ (ck_6 _ (List.mem_of_getElem? (i := 17) rfl))) (fun _ h9 => h9) rfl dX0_latestOf_99 ?_
      refine lv_iload_n hx hb dX0_latestOf_102 rfl (lv_at hl 4 rfl) ?_
      refine lv_iconst (v := 5) hx hb dX0_latestOf_103 (by decide) ?_
      have hPc := hP.sub (ws' := [(eO6a bno ns nsa nfa nza), (eA0 nsa cNs 12 fNs)]) [5, 6] rfl
      have hKc := hK.sub (tys' := [(cNs, .int)]) [3] rfl
      refine vp_callSi (W.runV (As := [.int a0, .int 5]) (rest := []) ⟨hx, hb, hml, hown, htw⟩ (gn_does l dC dI bno ns nsa nfa nza cNs fNs a0 (5 : Int32)) (cwV 2 htw (xg_V (ck_55 _ (List.mem_of_getElem? (i := 2) rfl)) (ck_23 _ (List.mem_of_getElem? (i := 10) rfl)) (ck_23 _ (List.mem_of_getElem? (i := 11) rfl)) (ck_2 _ (List.mem_of_getElem? (i := 11) rfl)) (ck_23 _ (List.mem_of_getElem? (i := 12) rfl))) rfl rfl rfl (by exact ⟨rfl, hdc_3.1, hdc_3.2, hdd_8⟩) ⟨Nat.le_of_ble_eq_true rfl, Nat.le_of_ble_eq_true rfl⟩) ⟨fun a U g mk q => by obtain ⟨q0, qP, qK⟩ := q; exact ⟨q0, qP, va_K.moved (u := U) (U := U.calling g mk a) (Vm.Alike.refl U.vm) qK⟩, va_recv hKc hPc (ci := 6) (q0 := 0) rfl rfl, fun U hU hW => ⟨rfl, by rw [hU]; exact hPc, va_K.moved hW.alike hKc⟩⟩ rfl rfl hl.1 rfl (lv_room (Nat.le_of_ble_eq_true rfl)) dX0_latestOf_104 ⟨Nat.le_of_ble_eq_true rfl, Nat.le_of_ble_eq_true rfl⟩) (fun r_20 hw => ?_)
      try dsimp only at hw
      have hq_r_20 : r_20 = fn_does fNs a0 (5 : Int32) := hw
      refine lv_if_eq (tgt := 146) hx hb dX0_latestOf_107 (by decide) (fun c_21 => ?_) (fun c_21 => ?_)
      · refine lv_lload_n hx hb dX0_latestOf_146 rfl (lv_at hl 2 rfl) ?_
        exact W.lret (v := 19999) hx hb hr (fun t ht hW => ⟨19999, rfl, (Eq.symm ((by rw [fb_late]; (try rw [if_neg hz_2]); (try rw [← hq_r_17]); (try rw [xL_eq]); (try rw [if_pos c_18]); (try rw [← hq_r_19]); (try rw [xL_eq]); (try rw [← hq_r_20]); (try rw [xL_eq]); (try rw [if_pos c_21]); try rfl))), ht⟩) (fun _ h => by cases h) dX0_latestOf_147
      · refine lv_aload_n hx hb dX0_latestOf_110 rfl (lv_at hl 3 rfl) ?_
        refine lv_iconst (v := 2) hx hb dX0_latestOf_111 (by decide) ?_
        refine lv_iload hx hb dX0_latestOf_112 (lv_at hl 0 rfl) ?_
        have hPc := hP.sub (ws' := [(eO0a bk bto bnm bla bsk bru bbo bdi bda bdk bdt bdp bno), (eA0 bto cTo 5 fTo)]) [0, 1] rfl
        have hKc := hK.sub (tys' := [(cTo, .int)]) [0] rfl
        refine vp_callSi (W.runV (As := [.int 2, .int r_19]) (rest := []) ⟨hx, hb, hml, hown, htw⟩ (gb_has l dC dI bk bto bnm bla bsk bru bbo bdi bda bdk bdt bdp bno cTo fTo (2 : Int32) r_19) (cwV 2 htw (xg_V (ck_21 _ (List.mem_of_getElem? (i := 1) rfl)) (ck_21 _ (List.mem_of_getElem? (i := 2) rfl)) (ck_21 _ (List.mem_of_getElem? (i := 3) rfl)) (ck_1 _ (List.mem_of_getElem? (i := 20) rfl)) (ck_21 _ (List.mem_of_getElem? (i := 4) rfl))) rfl rfl rfl (by exact ⟨rfl, hdc_6.1, hdc_6.2, hdd_8⟩) ⟨Nat.le_of_ble_eq_true rfl, Nat.le_of_ble_eq_true rfl⟩) ⟨fun a U g mk q => by obtain ⟨q0, qP, qK⟩ := q; exact ⟨q0, qP, va_K.moved (u := U) (U := U.calling g mk a) (Vm.Alike.refl U.vm) qK⟩, va_recv hKc hPc (ci := 0) (q0 := 0) rfl rfl, fun U hU hW => ⟨rfl, by rw [hU]; exact hPc, va_K.moved hW.alike hKc⟩⟩ rfl rfl hl.1 rfl (lv_room (Nat.le_of_ble_eq_true rfl)) dX0_latestOf_114 ⟨Nat.le_of_ble_eq_true rfl, Nat.le_of_ble_eq_true rfl⟩) (fun r_22 hw => ?_)
        try dsimp only at hw
        have hq_r_22 : r_22 = fb_has fTo (2 : Int32) r_19 := hw
        refine lv_if_eq (tgt := 146) hx hb dX0_latestOf_117 (by decide) (fun c_23 => ?_) (fun c_23 => ?_)
        · refine lv_lload_n hx hb dX0_latestOf_146 rfl (lv_at hl 2 rfl) ?_
          exact W.lret (v := 19999) hx hb hr (fun t ht hW => ⟨19999, rfl, (Eq.symm ((by rw [fb_late]; (try rw [if_neg hz_2]); (try rw [← hq_r_17]); (try rw [xL_eq]); (try rw [if_pos c_18]); (try rw [← hq_r_19]); (try rw [xL_eq]); (try rw [← hq_r_20]); (try rw [xL_eq]); (try rw [if_neg c_21]); (try rw [← hq_r_22]); (try rw [xL_eq]); (try rw [if_pos c_23]); try rfl))), ht⟩) (fun _ h => by cases h) dX0_latestOf_147
        · refine lv_aload_n hx hb dX0_latestOf_120 rfl (lv_at hl 3 rfl) ?_
          refine va_get (D := (dC, dI)) (ci := 0) (v := .ref bdi) (C := RX0) (T := TX0) (N := 12) hx hb htw inlX0 hown hK hP 0 rfl rfl 6 (by decide) (htw _ (ck_6 _ (List.mem_of_getElem? (i := 11) rfl))) (fun _ h9 => h9) rfl dX0_latestOf_121 ?_
          refine lv_iload hx hb dX0_latestOf_124 (lv_at hl 0 rfl) ?_
          refine va_lald hx hb hK hP 4 2 rfl rfl (xg_inr (N := 6) rfl (gb_late_s4 (y0 := r_19) (y1 := fTo 2) ht2 (xb_hasin hq_r_22 c_23).2 (xb_hasin hq_r_22 c_23).1).1 (gb_late_s4 (y0 := r_19) (y1 := fTo 2) ht2 (xb_hasin hq_r_22 c_23).2 (xb_hasin hq_r_22 c_23).1).2) dX0_latestOf_126 ?_
          refine lv_ldc2 (v := (-1)) hx hb hown (htw _ (ck_55 _ (List.mem_of_getElem? (i := 17) rfl))) dX0_latestOf_127 ?_
          refine W.lcmp hx hb dX0_latestOf_130 ?_
          refine lv_if_eq (tgt := 146) hx hb dX0_latestOf_131 (by decide) (fun c_24 => ?_) (fun c_24 => ?_)
          · refine lv_lload_n hx hb dX0_latestOf_146 rfl (lv_at hl 2 rfl) ?_
            exact W.lret (v := 19999) hx hb hr (fun t ht hW => ⟨19999, rfl, (Eq.symm ((by rw [fb_late]; (try rw [if_neg hz_2]); (try rw [← hq_r_17]); (try rw [xL_eq]); (try rw [if_pos c_18]); (try rw [← hq_r_19]); (try rw [xL_eq]); (try rw [← hq_r_20]); (try rw [xL_eq]); (try rw [if_neg c_21]); (try rw [← hq_r_22]); (try rw [xL_eq]); (try rw [if_neg c_23]); (try rw [if_pos c_24]); try rfl))), ht⟩) (fun _ h => by cases h) dX0_latestOf_147
          · refine lv_lload_n hx hb dX0_latestOf_134 rfl (lv_at hl 2 rfl) ?_
            refine lv_aload_n hx hb dX0_latestOf_135 rfl (lv_at hl 3 rfl) ?_
            refine va_get (D := (dC, dI)) (ci := 0) (v := .ref bdi) (C := RX0) (T := TX0) (N := 12) hx hb htw inlX0 hown hK hP 0 rfl rfl 6 (by decide) (htw _ (ck_6 _ (List.mem_of_getElem? (i := 11) rfl))) (fun _ h9 => h9) rfl dX0_latestOf_136 ?_
            refine lv_iload hx hb dX0_latestOf_139 (lv_at hl 0 rfl) ?_
            refine va_lald hx hb hK hP 4 2 rfl rfl (xg_inr (N := 6) rfl (gb_late_s5 (y0 := r_19) (y1 := fTo 2) ht2 (xb_hasin hq_r_22 c_23).2 (xb_hasin hq_r_22 c_23).1).1 (gb_late_s5 (y0 := r_19) (y1 := fTo 2) ht2 (xb_hasin hq_r_22 c_23).2 (xb_hasin hq_r_22 c_23).1).2) dX0_latestOf_141 ?_
            refine va_mmin_long hx hb (by rw [hml]; exact hl.1.symm) hown (htw _ (ck_55 _ (List.mem_of_getElem? (i := 16) rfl))) (htw _ (ck_45 _ (List.mem_of_getElem? (i := 9) rfl))) (htw _ (ck_14 _ (List.mem_of_getElem? (i := 8) rfl))) (htw _ (ck_45 _ (List.mem_of_getElem? (i := 10) rfl))) (Nat.le_of_ble_eq_true rfl) (Nat.le_of_ble_eq_true rfl) (Nat.le_of_ble_eq_true rfl) (Nat.le_of_ble_eq_true rfl) dX0_latestOf_142 ?_
            refine lv_lstore_n (lv' := [(2, .long (if (fDi r_19.toNatClampNeg) < 19999 then (fDi r_19.toNatClampNeg) else 19999)), (5, .int r_19), (4, .ref (La 0)), (0, .ref bk), (1, .int a0)]) hx hb dX0_latestOf_145 rfl hl (by decide) rfl (fun ls hl => ?_)
            refine lv_lload_n hx hb dX0_latestOf_146 rfl (lv_at hl 0 rfl) ?_
            exact W.lret (v := (if (fDi r_19.toNatClampNeg) < 19999 then (fDi r_19.toNatClampNeg) else 19999)) hx hb hr (fun t ht hW => ⟨(if (fDi r_19.toNatClampNeg) < 19999 then (fDi r_19.toNatClampNeg) else 19999), rfl, (Eq.symm ((by rw [fb_late]; (try rw [if_neg hz_2]); (try rw [← hq_r_17]); (try rw [xL_eq]); (try rw [if_pos c_18]); (try rw [← hq_r_19]); (try rw [xL_eq]); (try rw [← hq_r_20]); (try rw [xL_eq]); (try rw [if_neg c_21]); (try rw [← hq_r_22]); (try rw [xL_eq]); (try rw [if_neg c_23]); (try rw [if_neg c_24]); try rfl))), ht⟩) (fun _ h => by cases h) dX0_latestOf_147
    · refine lv_aload hx hb dX0_latestOf_23 (lv_at hl 0 rfl) ?_
      refine lv_ifnull hx hb dX0_latestOf_25 ?_
      refine lv_aload_n hx hb dX0_latestOf_28 rfl (lv_at hl 2 rfl) ?_
      refine va_get (D := (dC, dI)) (ci := 0) (v := .ref bno) (C := RX0) (T := TX0) (N := 12) hx hb htw inlX0 hown hK hP 0 rfl rfl 11 (by decide) (htw _ (ck_6 _ (List.mem_of_getElem? (i := 17) rfl))) (fun _ h9 => h9) rfl dX0_latestOf_29 ?_
      refine lv_iload_n hx hb dX0_latestOf_32 rfl (lv_at hl 3 rfl) ?_
      refine lv_iconst (v := 0) hx hb dX0_latestOf_33 (by decide) ?_
      have hPc := hP.sub (ws' := [(eO6a bno ns nsa nfa nza), (eA0 nza cNz 96 fNz)]) [5, 8] rfl
      have hKc := hK.sub (tys' := [(cNz, .int)]) [5] rfl
      refine vp_callSi (W.runV (As := [.int a0, .int 0]) (rest := []) ⟨hx, hb, hml, hown, htw⟩ (gn_secondOf l dC dI bno ns nsa nfa nza cNz fNz a0 (0 : Int32)) (cwV 2 htw (xg_V (ck_55 _ (List.mem_of_getElem? (i := 18) rfl)) (ck_55 _ (List.mem_of_getElem? (i := 19) rfl)) (ck_55 _ (List.mem_of_getElem? (i := 20) rfl)) (ck_2 _ (List.mem_of_getElem? (i := 11) rfl)) (ck_55 _ (List.mem_of_getElem? (i := 21) rfl))) rfl rfl rfl (by exact ⟨rfl, hdc_3.1, hdc_3.2, hdd_7⟩) ⟨Nat.le_of_ble_eq_true rfl, Nat.le_of_ble_eq_true rfl⟩) ⟨fun a U g mk q => by obtain ⟨q0, qP, qK⟩ := q; exact ⟨q0, qP, va_K.moved (u := U) (U := U.calling g mk a) (Vm.Alike.refl U.vm) qK⟩, va_recv hKc hPc (ci := 6) (q0 := 0) rfl rfl, fun U hU hW => ⟨rfl, by rw [hU]; exact hPc, va_K.moved hW.alike hKc⟩⟩ rfl rfl hl.1 rfl (lv_room (Nat.le_of_ble_eq_true rfl)) dX0_latestOf_34 ⟨Nat.le_of_ble_eq_true rfl, Nat.le_of_ble_eq_true rfl⟩) (fun r_25 hw => ?_)
      try dsimp only at hw
      have hq_r_25 : r_25 = fn_secondOf fNz a0 (0 : Int32) := hw
      refine lv_i2l (v := r_25.toInt64) hx hb dX0_latestOf_37 rfl ?_
      refine lv_lstore (lv' := [(5, .long r_25.toInt64), (4, .ref (La 0)), (2, .long 19999), (0, .ref bk), (1, .int a0)]) hx hb dX0_latestOf_38 hl (by decide) rfl (fun ls hl => ?_)
      refine lv_aload hx hb dX0_latestOf_40 (lv_at hl 1 rfl) ?_
      refine va_get (D := (dC, dI)) (ci := 1) (v := .int (GR 0)) (C := RX1) (T := TX1) (N := 3) hx hb htw inlX1 hown hK hP 3 rfl rfl 1 (by decide) (htw _ (ck_55 _ (List.mem_of_getElem? (i := 15) rfl))) (fun _ h9 => h9) rfl dX0_latestOf_42 ?_
      refine lv_if_ge (tgt := 61) hx hb dX0_latestOf_45 (by decide) (fun c_26 => ?_) (fun c_26 => ?_)
      · refine lv_lload hx hb dX0_latestOf_61 (lv_at hl 0 rfl) ?_
        refine lv_lstore (lv' := [(7, .long r_25.toInt64), (5, .long r_25.toInt64), (4, .ref (La 0)), (2, .long 19999), (0, .ref bk), (1, .int a0)]) hx hb dX0_latestOf_63 hl (by decide) rfl (fun ls hl => ?_)
        refine lv_lload_n hx hb dX0_latestOf_65 rfl (lv_at hl 3 rfl) ?_
        refine lv_aload hx hb dX0_latestOf_66 (lv_at hl 2 rfl) ?_
        refine lv_lload hx hb dX0_latestOf_68 (lv_at hl 0 rfl) ?_
        have hPc := hP.sub (ws' := [(eO1a (La 0) (FI 0) (GR 0) (FR 0))]) [3] rfl
        have hKc := hK.sub (tys' := []) [] rfl
        refine vp_callSl (W.runV (As := [.long r_25.toInt64]) (rest := [.long 19999]) ⟨hx, hb, hml, hown, htw⟩ (gl_beginOf l dC dI (La 0) (FI 0) (GR 0) (FR 0) r_25.toInt64) (cwV 1 htw (xg_V (ck_55 _ (List.mem_of_getElem? (i := 9) rfl)) (ck_21 _ (List.mem_of_getElem? (i := 21) rfl)) (ck_21 _ (List.mem_of_getElem? (i := 22) rfl)) (ck_6 _ (List.mem_of_getElem? (i := 19) rfl)) (ck_21 _ (List.mem_of_getElem? (i := 23) rfl))) rfl rfl rfl (by exact ⟨rfl, hdc_0.1, hdc_0.2, hdd_0⟩) ⟨Nat.le_of_ble_eq_true rfl, Nat.le_of_ble_eq_true rfl⟩) ⟨fun a U g mk q => by obtain ⟨q0, qP, qK⟩ := q; exact ⟨q0, qP, va_K.moved (u := U) (U := U.calling g mk a) (Vm.Alike.refl U.vm) qK⟩, va_recv hKc hPc (ci := 1) (q0 := 0) rfl rfl, fun U hU hW => ⟨rfl, by rw [hU]; exact hPc, va_K.moved hW.alike hKc⟩⟩ rfl rfl hl.1 rfl (lv_room (Nat.le_of_ble_eq_true rfl)) dX0_latestOf_70 ⟨Nat.le_of_ble_eq_true rfl, Nat.le_of_ble_eq_true rfl⟩) (fun r_27 hw => ?_)
        try dsimp only at hw
        have hq_r_27 : r_27 = fl_beginOf (FI 0) (GR 0) (FR 0) r_25.toInt64 := hw
        refine lv_aload hx hb dX0_latestOf_73 (lv_at hl 2 rfl) ?_
        refine lv_lload hx hb dX0_latestOf_75 (lv_at hl 0 rfl) ?_
        have hPc := hP.sub (ws' := [(eO1a (La 0) (FI 0) (GR 0) (FR 0))]) [3] rfl
        have hKc := hK.sub (tys' := []) [] rfl
        refine vp_callSl (W.runV (As := [.long r_25.toInt64]) (rest := [.long r_27, .long 19999]) ⟨hx, hb, hml, hown, htw⟩ (gl_lengthOf l dC dI (La 0) (FI 0) (GR 0) (FR 0) r_25.toInt64) (cwV 1 htw (xg_V (ck_55 _ (List.mem_of_getElem? (i := 23) rfl)) (ck_21 _ (List.mem_of_getElem? (i := 10) rfl)) (ck_21 _ (List.mem_of_getElem? (i := 11) rfl)) (ck_6 _ (List.mem_of_getElem? (i := 19) rfl)) (ck_21 _ (List.mem_of_getElem? (i := 12) rfl))) rfl rfl rfl (by exact ⟨rfl, hdc_0.1, hdc_0.2, hdd_0⟩) ⟨Nat.le_of_ble_eq_true rfl, Nat.le_of_ble_eq_true rfl⟩) ⟨fun a U g mk q => by obtain ⟨q0, qP, qK⟩ := q; exact ⟨q0, qP, va_K.moved (u := U) (U := U.calling g mk a) (Vm.Alike.refl U.vm) qK⟩, va_recv hKc hPc (ci := 1) (q0 := 0) rfl rfl, fun U hU hW => ⟨rfl, by rw [hU]; exact hPc, va_K.moved hW.alike hKc⟩⟩ rfl rfl hl.1 rfl (lv_room (Nat.le_of_ble_eq_true rfl)) dX0_latestOf_77 ⟨Nat.le_of_ble_eq_true rfl, Nat.le_of_ble_eq_true rfl⟩) (fun r_28 hw => ?_)
        try dsimp only at hw
        have hq_r_28 : r_28 = fl_lengthOf (FI 0) (GR 0) (FR 0) r_25.toInt64 := hw
        refine lv_ladd hx hb dX0_latestOf_80 ?_
        refine lv_lconst (v := 1) hx hb dX0_latestOf_81 (by decide) ?_
        refine lv_lsub hx hb dX0_latestOf_82 ?_
        refine va_mmin_long hx hb (by rw [hml]; exact hl.1.symm) hown (htw _ (ck_55 _ (List.mem_of_getElem? (i := 16) rfl))) (htw _ (ck_45 _ (List.mem_of_getElem? (i := 9) rfl))) (htw _ (ck_14 _ (List.mem_of_getElem? (i := 8) rfl))) (htw _ (ck_45 _ (List.mem_of_getElem? (i := 10) rfl))) (Nat.le_of_ble_eq_true rfl) (Nat.le_of_ble_eq_true rfl) (Nat.le_of_ble_eq_true rfl) (Nat.le_of_ble_eq_true rfl) dX0_latestOf_83 ?_
        refine lv_lstore_n (lv' := [(2, .long (if ((r_27 + r_28) - 1) < 19999 then ((r_27 + r_28) - 1) else 19999)), (7, .long r_25.toInt64), (5, .long r_25.toInt64), (4, .ref (La 0)), (0, .ref bk), (1, .int a0)]) hx hb dX0_latestOf_86 rfl hl (by decide) rfl (fun ls hl => ?_)
        refine lv_aload_n hx hb dX0_latestOf_87 rfl (lv_at hl 4 rfl) ?_
        refine va_get (D := (dC, dI)) (ci := 0) (v := .ref bno) (C := RX0) (T := TX0) (N := 12) hx hb htw inlX0 hown hK hP 0 rfl rfl 11 (by decide) (htw _ (ck_6 _ (List.mem_of_getElem? (i := 17) rfl))) (fun _ h9 => h9) rfl dX0_latestOf_88 ?_
        refine lv_iload_n hx hb dX0_latestOf_91 rfl (lv_at hl 5 rfl) ?_
        refine lv_iconst (v := 5) hx hb dX0_latestOf_92 (by decide) ?_
        have hPc := hP.sub (ws' := [(eO6a bno ns nsa nfa nza), (eA0 nfa cNf 96 fNf)]) [5, 7] rfl
        have hKc := hK.sub (tys' := [(cNf, .int)]) [4] rfl
        refine vp_callSi (W.runV (As := [.int a0, .int 5]) (rest := []) ⟨hx, hb, hml, hown, htw⟩ (gn_firstOf l dC dI bno ns nsa nfa nza cNf fNf a0 (5 : Int32)) (cwV 2 htw (xg_V (ck_55 _ (List.mem_of_getElem? (i := 4) rfl)) (ck_55 _ (List.mem_of_getElem? (i := 5) rfl)) (ck_55 _ (List.mem_of_getElem? (i := 6) rfl)) (ck_2 _ (List.mem_of_getElem? (i := 11) rfl)) (ck_55 _ (List.mem_of_getElem? (i := 7) rfl))) rfl rfl rfl (by exact ⟨rfl, hdc_3.1, hdc_3.2, hdd_7⟩) ⟨Nat.le_of_ble_eq_true rfl, Nat.le_of_ble_eq_true rfl⟩) ⟨fun a U g mk q => by obtain ⟨q0, qP, qK⟩ := q; exact ⟨q0, qP, va_K.moved (u := U) (U := U.calling g mk a) (Vm.Alike.refl U.vm) qK⟩, va_recv hKc hPc (ci := 6) (q0 := 0) rfl rfl, fun U hU hW => ⟨rfl, by rw [hU]; exact hPc, va_K.moved hW.alike hKc⟩⟩ rfl rfl hl.1 rfl (lv_room (Nat.le_of_ble_eq_true rfl)) dX0_latestOf_93 ⟨Nat.le_of_ble_eq_true rfl, Nat.le_of_ble_eq_true rfl⟩) (fun r_29 hw => ?_)
        try dsimp only at hw
        have hq_r_29 : r_29 = fn_firstOf fNf a0 (5 : Int32) := hw
        refine lv_istore (lv' := [(5, .int r_29), (2, .long (if ((r_27 + r_28) - 1) < 19999 then ((r_27 + r_28) - 1) else 19999)), (7, .long r_25.toInt64), (4, .ref (La 0)), (0, .ref bk), (1, .int a0)]) hx hb dX0_latestOf_96 hl (by decide) rfl (fun ls hl => ?_)
        refine lv_aload_n hx hb dX0_latestOf_98 rfl (lv_at hl 4 rfl) ?_
        refine va_get (D := (dC, dI)) (ci := 0) (v := .ref bno) (C := RX0) (T := TX0) (N := 12) hx hb htw inlX0 hown hK hP 0 rfl rfl 11 (by decide) (htw _ (ck_6 _ (List.mem_of_getElem? (i := 17) rfl))) (fun _ h9 => h9) rfl dX0_latestOf_99 ?_
        refine lv_iload_n hx hb dX0_latestOf_102 rfl (lv_at hl 5 rfl) ?_
        refine lv_iconst (v := 5) hx hb dX0_latestOf_103 (by decide) ?_
        have hPc := hP.sub (ws' := [(eO6a bno ns nsa nfa nza), (eA0 nsa cNs 12 fNs)]) [5, 6] rfl
        have hKc := hK.sub (tys' := [(cNs, .int)]) [3] rfl
        refine vp_callSi (W.runV (As := [.int a0, .int 5]) (rest := []) ⟨hx, hb, hml, hown, htw⟩ (gn_does l dC dI bno ns nsa nfa nza cNs fNs a0 (5 : Int32)) (cwV 2 htw (xg_V (ck_55 _ (List.mem_of_getElem? (i := 2) rfl)) (ck_23 _ (List.mem_of_getElem? (i := 10) rfl)) (ck_23 _ (List.mem_of_getElem? (i := 11) rfl)) (ck_2 _ (List.mem_of_getElem? (i := 11) rfl)) (ck_23 _ (List.mem_of_getElem? (i := 12) rfl))) rfl rfl rfl (by exact ⟨rfl, hdc_3.1, hdc_3.2, hdd_8⟩) ⟨Nat.le_of_ble_eq_true rfl, Nat.le_of_ble_eq_true rfl⟩) ⟨fun a U g mk q => by obtain ⟨q0, qP, qK⟩ := q; exact ⟨q0, qP, va_K.moved (u := U) (U := U.calling g mk a) (Vm.Alike.refl U.vm) qK⟩, va_recv hKc hPc (ci := 6) (q0 := 0) rfl rfl, fun U hU hW => ⟨rfl, by rw [hU]; exact hPc, va_K.moved hW.alike hKc⟩⟩ rfl rfl hl.1 rfl (lv_room (Nat.le_of_ble_eq_true rfl)) dX0_latestOf_104 ⟨Nat.le_of_ble_eq_true rfl, Nat.le_of_ble_eq_true rfl⟩) (fun r_30 hw => ?_)
        try dsimp only at hw
        have hq_r_30 : r_30 = fn_does fNs a0 (5 : Int32) := hw
        refine lv_if_eq (tgt := 146) hx hb dX0_latestOf_107 (by decide) (fun c_31 => ?_) (fun c_31 => ?_)
        · refine lv_lload_n hx hb dX0_latestOf_146 rfl (lv_at hl 1 rfl) ?_
          exact W.lret (v := (if ((r_27 + r_28) - 1) < 19999 then ((r_27 + r_28) - 1) else 19999)) hx hb hr (fun t ht hW => ⟨(if ((r_27 + r_28) - 1) < 19999 then ((r_27 + r_28) - 1) else 19999), rfl, (Eq.symm ((by rw [fb_late]; (try rw [if_neg hz_2]); (try rw [← hq_r_17]); (try rw [xL_eq]); (try rw [if_neg c_18]); (try rw [← hq_r_25]); (try rw [xL_eq]); (try rw [if_pos c_26]); (try rw [← hq_r_27]); (try rw [xL_eq]); (try rw [← hq_r_28]); (try rw [xL_eq]); (try rw [← hq_r_29]); (try rw [xL_eq]); (try rw [← hq_r_30]); (try rw [xL_eq]); (try rw [if_pos c_31]); try rfl))), ht⟩) (fun _ h => by cases h) dX0_latestOf_147
        · refine lv_aload_n hx hb dX0_latestOf_110 rfl (lv_at hl 4 rfl) ?_
          refine lv_iconst (v := 2) hx hb dX0_latestOf_111 (by decide) ?_
          refine lv_iload hx hb dX0_latestOf_112 (lv_at hl 0 rfl) ?_
          have hPc := hP.sub (ws' := [(eO0a bk bto bnm bla bsk bru bbo bdi bda bdk bdt bdp bno), (eA0 bto cTo 5 fTo)]) [0, 1] rfl
          have hKc := hK.sub (tys' := [(cTo, .int)]) [0] rfl
          refine vp_callSi (W.runV (As := [.int 2, .int r_29]) (rest := []) ⟨hx, hb, hml, hown, htw⟩ (gb_has l dC dI bk bto bnm bla bsk bru bbo bdi bda bdk bdt bdp bno cTo fTo (2 : Int32) r_29) (cwV 2 htw (xg_V (ck_21 _ (List.mem_of_getElem? (i := 1) rfl)) (ck_21 _ (List.mem_of_getElem? (i := 2) rfl)) (ck_21 _ (List.mem_of_getElem? (i := 3) rfl)) (ck_1 _ (List.mem_of_getElem? (i := 20) rfl)) (ck_21 _ (List.mem_of_getElem? (i := 4) rfl))) rfl rfl rfl (by exact ⟨rfl, hdc_6.1, hdc_6.2, hdd_8⟩) ⟨Nat.le_of_ble_eq_true rfl, Nat.le_of_ble_eq_true rfl⟩) ⟨fun a U g mk q => by obtain ⟨q0, qP, qK⟩ := q; exact ⟨q0, qP, va_K.moved (u := U) (U := U.calling g mk a) (Vm.Alike.refl U.vm) qK⟩, va_recv hKc hPc (ci := 0) (q0 := 0) rfl rfl, fun U hU hW => ⟨rfl, by rw [hU]; exact hPc, va_K.moved hW.alike hKc⟩⟩ rfl rfl hl.1 rfl (lv_room (Nat.le_of_ble_eq_true rfl)) dX0_latestOf_114 ⟨Nat.le_of_ble_eq_true rfl, Nat.le_of_ble_eq_true rfl⟩) (fun r_32 hw => ?_)
          try dsimp only at hw
          have hq_r_32 : r_32 = fb_has fTo (2 : Int32) r_29 := hw
          refine lv_if_eq (tgt := 146) hx hb dX0_latestOf_117 (by decide) (fun c_33 => ?_) (fun c_33 => ?_)
          · refine lv_lload_n hx hb dX0_latestOf_146 rfl (lv_at hl 1 rfl) ?_
            exact W.lret (v := (if ((r_27 + r_28) - 1) < 19999 then ((r_27 + r_28) - 1) else 19999)) hx hb hr (fun t ht hW => ⟨(if ((r_27 + r_28) - 1) < 19999 then ((r_27 + r_28) - 1) else 19999), rfl, (Eq.symm ((by rw [fb_late]; (try rw [if_neg hz_2]); (try rw [← hq_r_17]); (try rw [xL_eq]); (try rw [if_neg c_18]); (try rw [← hq_r_25]); (try rw [xL_eq]); (try rw [if_pos c_26]); (try rw [← hq_r_27]); (try rw [xL_eq]); (try rw [← hq_r_28]); (try rw [xL_eq]); (try rw [← hq_r_29]); (try rw [xL_eq]); (try rw [← hq_r_30]); (try rw [xL_eq]); (try rw [if_neg c_31]); (try rw [← hq_r_32]); (try rw [xL_eq]); (try rw [if_pos c_33]); try rfl))), ht⟩) (fun _ h => by cases h) dX0_latestOf_147
          · refine lv_aload_n hx hb dX0_latestOf_120 rfl (lv_at hl 4 rfl) ?_
            refine va_get (D := (dC, dI)) (ci := 0) (v := .ref bdi) (C := RX0) (T := TX0) (N := 12) hx hb htw inlX0 hown hK hP 0 rfl rfl 6 (by decide) (htw _ (ck_6 _ (List.mem_of_getElem? (i := 11) rfl))) (fun _ h9 => h9) rfl dX0_latestOf_121 ?_
            refine lv_iload hx hb dX0_latestOf_124 (lv_at hl 0 rfl) ?_
            refine va_lald hx hb hK hP 4 2 rfl rfl (xg_inr (N := 6) rfl (gb_late_s6 (y0 := r_29) (y1 := fTo 2) ht2 (xb_hasin hq_r_32 c_33).2 (xb_hasin hq_r_32 c_33).1).1 (gb_late_s6 (y0 := r_29) (y1 := fTo 2) ht2 (xb_hasin hq_r_32 c_33).2 (xb_hasin hq_r_32 c_33).1).2) dX0_latestOf_126 ?_
            refine lv_ldc2 (v := (-1)) hx hb hown (htw _ (ck_55 _ (List.mem_of_getElem? (i := 17) rfl))) dX0_latestOf_127 ?_
            refine W.lcmp hx hb dX0_latestOf_130 ?_
            refine lv_if_eq (tgt := 146) hx hb dX0_latestOf_131 (by decide) (fun c_34 => ?_) (fun c_34 => ?_)
            · refine lv_lload_n hx hb dX0_latestOf_146 rfl (lv_at hl 1 rfl) ?_
              exact W.lret (v := (if ((r_27 + r_28) - 1) < 19999 then ((r_27 + r_28) - 1) else 19999)) hx hb hr (fun t ht hW => ⟨(if ((r_27 + r_28) - 1) < 19999 then ((r_27 + r_28) - 1) else 19999), rfl, (Eq.symm ((by rw [fb_late]; (try rw [if_neg hz_2]); (try rw [← hq_r_17]); (try rw [xL_eq]); (try rw [if_neg c_18]); (try rw [← hq_r_25]); (try rw [xL_eq]); (try rw [if_pos c_26]); (try rw [← hq_r_27]); (try rw [xL_eq]); (try rw [← hq_r_28]); (try rw [xL_eq]); (try rw [← hq_r_29]); (try rw [xL_eq]); (try rw [← hq_r_30]); (try rw [xL_eq]); (try rw [if_neg c_31]); (try rw [← hq_r_32]); (try rw [xL_eq]); (try rw [if_neg c_33]); (try rw [if_pos c_34]); try rfl))), ht⟩) (fun _ h => by cases h) dX0_latestOf_147
            · refine lv_lload_n hx hb dX0_latestOf_134 rfl (lv_at hl 1 rfl) ?_
              refine lv_aload_n hx hb dX0_latestOf_135 rfl (lv_at hl 4 rfl) ?_
              refine va_get (D := (dC, dI)) (ci := 0) (v := .ref bdi) (C := RX0) (T := TX0) (N := 12) hx hb htw inlX0 hown hK hP 0 rfl rfl 6 (by decide) (htw _ (ck_6 _ (List.mem_of_getElem? (i := 11) rfl))) (fun _ h9 => h9) rfl dX0_latestOf_136 ?_
              refine lv_iload hx hb dX0_latestOf_139 (lv_at hl 0 rfl) ?_
              refine va_lald hx hb hK hP 4 2 rfl rfl (xg_inr (N := 6) rfl (gb_late_s7 (y0 := r_29) (y1 := fTo 2) ht2 (xb_hasin hq_r_32 c_33).2 (xb_hasin hq_r_32 c_33).1).1 (gb_late_s7 (y0 := r_29) (y1 := fTo 2) ht2 (xb_hasin hq_r_32 c_33).2 (xb_hasin hq_r_32 c_33).1).2) dX0_latestOf_141 ?_
              refine va_mmin_long hx hb (by rw [hml]; exact hl.1.symm) hown (htw _ (ck_55 _ (List.mem_of_getElem? (i := 16) rfl))) (htw _ (ck_45 _ (List.mem_of_getElem? (i := 9) rfl))) (htw _ (ck_14 _ (List.mem_of_getElem? (i := 8) rfl))) (htw _ (ck_45 _ (List.mem_of_getElem? (i := 10) rfl))) (Nat.le_of_ble_eq_true rfl) (Nat.le_of_ble_eq_true rfl) (Nat.le_of_ble_eq_true rfl) (Nat.le_of_ble_eq_true rfl) dX0_latestOf_142 ?_
              refine lv_lstore_n (lv' := [(2, .long (if (fDi r_29.toNatClampNeg) < (if ((r_27 + r_28) - 1) < 19999 then ((r_27 + r_28) - 1) else 19999) then (fDi r_29.toNatClampNeg) else (if ((r_27 + r_28) - 1) < 19999 then ((r_27 + r_28) - 1) else 19999))), (5, .int r_29), (7, .long r_25.toInt64), (4, .ref (La 0)), (0, .ref bk), (1, .int a0)]) hx hb dX0_latestOf_145 rfl hl (by decide) rfl (fun ls hl => ?_)
              refine lv_lload_n hx hb dX0_latestOf_146 rfl (lv_at hl 0 rfl) ?_
              exact W.lret (v := (if (fDi r_29.toNatClampNeg) < (if ((r_27 + r_28) - 1) < 19999 then ((r_27 + r_28) - 1) else 19999) then (fDi r_29.toNatClampNeg) else (if ((r_27 + r_28) - 1) < 19999 then ((r_27 + r_28) - 1) else 19999))) hx hb hr (fun t ht hW => ⟨(if (fDi r_29.toNatClampNeg) < (if ((r_27 + r_28) - 1) < 19999 then ((r_27 + r_28) - 1) else 19999) then (fDi r_29.toNatClampNeg) else (if ((r_27 + r_28) - 1) < 19999 then ((r_27 + r_28) - 1) else 19999)), rfl, (Eq.symm ((by rw [fb_late]; (try rw [if_neg hz_2]); (try rw [← hq_r_17]); (try rw [xL_eq]); (try rw [if_neg c_18]); (try rw [← hq_r_25]); (try rw [xL_eq]); (try rw [if_pos c_26]); (try rw [← hq_r_27]); (try rw [xL_eq]); (try rw [← hq_r_28]); (try rw [xL_eq]); (try rw [← hq_r_29]); (try rw [xL_eq]); (try rw [← hq_r_30]); (try rw [xL_eq]); (try rw [if_neg c_31]); (try rw [← hq_r_32]); (try rw [xL_eq]); (try rw [if_neg c_33]); (try rw [if_neg c_34]); try rfl))), ht⟩) (fun _ h => by cases h) dX0_latestOf_147
      · refine lv_lload hx hb dX0_latestOf_48 (lv_at hl 0 rfl) ?_
        refine lv_aload hx hb dX0_latestOf_50 (lv_at hl 1 rfl) ?_
        have hPc := hP.sub (ws' := [(eO1a (La 0) (FI 0) (GR 0) (FR 0))]) [3] rfl
        have hKc := hK.sub (tys' := []) [] rfl
        refine vp_callSl (W.runV (As := []) (rest := [.long r_25.toInt64]) ⟨hx, hb, hml, hown, htw⟩ (gl_lastYear l dC dI (La 0) (FI 0) (GR 0) (FR 0)) (cwV 0 htw (xg_V (ck_55 _ (List.mem_of_getElem? (i := 22) rfl)) (ck_35 _ (List.mem_of_getElem? (i := 22) rfl)) (ck_35 _ (List.mem_of_getElem? (i := 23) rfl)) (ck_6 _ (List.mem_of_getElem? (i := 19) rfl)) (ck_36 _ (List.mem_of_getElem? (i := 0) rfl))) rfl rfl rfl (by exact ⟨rfl, hdc_0.1, hdc_0.2, hdd_3⟩) ⟨Nat.le_of_ble_eq_true rfl, Nat.le_of_ble_eq_true rfl⟩) ⟨fun a U g mk q => by obtain ⟨q0, qP, qK, qx⟩ := q; exact ⟨q0, qP, va_K.moved (u := U) (U := U.calling g mk a) (Vm.Alike.refl U.vm) qK, xN.calling qx⟩, va_recv hKc hPc (ci := 1) (q0 := 0) rfl rfl, fun U hU hW => ⟨rfl, by rw [hU]; exact hPc, va_K.moved hW.alike hKc, xN.warm hW hNx⟩⟩ rfl rfl hl.1 rfl (lv_room (Nat.le_of_ble_eq_true rfl)) dX0_latestOf_52 ⟨Nat.le_of_ble_eq_true rfl, Nat.le_of_ble_eq_true rfl⟩) (fun r_35 hw => ?_)
        try dsimp only at hw
        have hq_r_35 : r_35 = fl_lastYear (FI 0) (GR 0) (FR 0) := hw
        refine va_mmin_long hx hb (by rw [hml]; exact hl.1.symm) hown (htw _ (ck_55 _ (List.mem_of_getElem? (i := 16) rfl))) (htw _ (ck_45 _ (List.mem_of_getElem? (i := 9) rfl))) (htw _ (ck_14 _ (List.mem_of_getElem? (i := 8) rfl))) (htw _ (ck_45 _ (List.mem_of_getElem? (i := 10) rfl))) (Nat.le_of_ble_eq_true rfl) (Nat.le_of_ble_eq_true rfl) (Nat.le_of_ble_eq_true rfl) (Nat.le_of_ble_eq_true rfl) dX0_latestOf_55 ?_
        refine lv_goto (tgt := 63) hx hb dX0_latestOf_58 (by decide) ?_
        refine lv_lstore (lv' := [(7, .long (if r_35 < r_25.toInt64 then r_35 else r_25.toInt64)), (5, .long r_25.toInt64), (4, .ref (La 0)), (2, .long 19999), (0, .ref bk), (1, .int a0)]) hx hb dX0_latestOf_63 hl (by decide) rfl (fun ls hl => ?_)
        refine lv_lload_n hx hb dX0_latestOf_65 rfl (lv_at hl 3 rfl) ?_
        refine lv_aload hx hb dX0_latestOf_66 (lv_at hl 2 rfl) ?_
        refine lv_lload hx hb dX0_latestOf_68 (lv_at hl 0 rfl) ?_
        have hPc := hP.sub (ws' := [(eO1a (La 0) (FI 0) (GR 0) (FR 0))]) [3] rfl
        have hKc := hK.sub (tys' := []) [] rfl
        refine vp_callSl (W.runV (As := [.long (if r_35 < r_25.toInt64 then r_35 else r_25.toInt64)]) (rest := [.long 19999]) ⟨hx, hb, hml, hown, htw⟩ (gl_beginOf l dC dI (La 0) (FI 0) (GR 0) (FR 0) (if r_35 < r_25.toInt64 then r_35 else r_25.toInt64)) (cwV 1 htw (xg_V (ck_55 _ (List.mem_of_getElem? (i := 9) rfl)) (ck_21 _ (List.mem_of_getElem? (i := 21) rfl)) (ck_21 _ (List.mem_of_getElem? (i := 22) rfl)) (ck_6 _ (List.mem_of_getElem? (i := 19) rfl)) (ck_21 _ (List.mem_of_getElem? (i := 23) rfl))) rfl rfl rfl (by exact ⟨rfl, hdc_0.1, hdc_0.2, hdd_0⟩) ⟨Nat.le_of_ble_eq_true rfl, Nat.le_of_ble_eq_true rfl⟩) ⟨fun a U g mk q => by obtain ⟨q0, qP, qK⟩ := q; exact ⟨q0, qP, va_K.moved (u := U) (U := U.calling g mk a) (Vm.Alike.refl U.vm) qK⟩, va_recv hKc hPc (ci := 1) (q0 := 0) rfl rfl, fun U hU hW => ⟨rfl, by rw [hU]; exact hPc, va_K.moved hW.alike hKc⟩⟩ rfl rfl hl.1 rfl (lv_room (Nat.le_of_ble_eq_true rfl)) dX0_latestOf_70 ⟨Nat.le_of_ble_eq_true rfl, Nat.le_of_ble_eq_true rfl⟩) (fun r_36 hw => ?_)
        try dsimp only at hw
        have hq_r_36 : r_36 = fl_beginOf (FI 0) (GR 0) (FR 0) (if r_35 < r_25.toInt64 then r_35 else r_25.toInt64) := hw
        refine lv_aload hx hb dX0_latestOf_73 (lv_at hl 2 rfl) ?_
        refine lv_lload hx hb dX0_latestOf_75 (lv_at hl 0 rfl) ?_
        have hPc := hP.sub (ws' := [(eO1a (La 0) (FI 0) (GR 0) (FR 0))]) [3] rfl
        have hKc := hK.sub (tys' := []) [] rfl
        refine vp_callSl (W.runV (As := [.long (if r_35 < r_25.toInt64 then r_35 else r_25.toInt64)]) (rest := [.long r_36, .long 19999]) ⟨hx, hb, hml, hown, htw⟩ (gl_lengthOf l dC dI (La 0) (FI 0) (GR 0) (FR 0) (if r_35 < r_25.toInt64 then r_35 else r_25.toInt64)) (cwV 1 htw (xg_V (ck_55 _ (List.mem_of_getElem? (i := 23) rfl)) (ck_21 _ (List.mem_of_getElem? (i := 10) rfl)) (ck_21 _ (List.mem_of_getElem? (i := 11) rfl)) (ck_6 _ (List.mem_of_getElem? (i := 19) rfl)) (ck_21 _ (List.mem_of_getElem? (i := 12) rfl))) rfl rfl rfl (by exact ⟨rfl, hdc_0.1, hdc_0.2, hdd_0⟩) ⟨Nat.le_of_ble_eq_true rfl, Nat.le_of_ble_eq_true rfl⟩) ⟨fun a U g mk q => by obtain ⟨q0, qP, qK⟩ := q; exact ⟨q0, qP, va_K.moved (u := U) (U := U.calling g mk a) (Vm.Alike.refl U.vm) qK⟩, va_recv hKc hPc (ci := 1) (q0 := 0) rfl rfl, fun U hU hW => ⟨rfl, by rw [hU]; exact hPc, va_K.moved hW.alike hKc⟩⟩ rfl rfl hl.1 rfl (lv_room (Nat.le_of_ble_eq_true rfl)) dX0_latestOf_77 ⟨Nat.le_of_ble_eq_true rfl, Nat.le_of_ble_eq_true rfl⟩) (fun r_37 hw => ?_)
        try dsimp only at hw
        have hq_r_37 : r_37 = fl_lengthOf (FI 0) (GR 0) (FR 0) (if r_35 < r_25.toInt64 then r_35 else r_25.toInt64) := hw
        refine lv_ladd hx hb dX0_latestOf_80 ?_
        refine lv_lconst (v := 1) hx hb dX0_latestOf_81 (by decide) ?_
        refine lv_lsub hx hb dX0_latestOf_82 ?_
        refine va_mmin_long hx hb (by rw [hml]; exact hl.1.symm) hown (htw _ (ck_55 _ (List.mem_of_getElem? (i := 16) rfl))) (htw _ (ck_45 _ (List.mem_of_getElem? (i := 9) rfl))) (htw _ (ck_14 _ (List.mem_of_getElem? (i := 8) rfl))) (htw _ (ck_45 _ (List.mem_of_getElem? (i := 10) rfl))) (Nat.le_of_ble_eq_true rfl) (Nat.le_of_ble_eq_true rfl) (Nat.le_of_ble_eq_true rfl) (Nat.le_of_ble_eq_true rfl) dX0_latestOf_83 ?_
        refine lv_lstore_n (lv' := [(2, .long (if ((r_36 + r_37) - 1) < 19999 then ((r_36 + r_37) - 1) else 19999)), (7, .long (if r_35 < r_25.toInt64 then r_35 else r_25.toInt64)), (5, .long r_25.toInt64), (4, .ref (La 0)), (0, .ref bk), (1, .int a0)]) hx hb dX0_latestOf_86 rfl hl (by decide) rfl (fun ls hl => ?_)
        refine lv_aload_n hx hb dX0_latestOf_87 rfl (lv_at hl 4 rfl) ?_
        refine va_get (D := (dC, dI)) (ci := 0) (v := .ref bno) (C := RX0) (T := TX0) (N := 12) hx hb htw inlX0 hown hK hP 0 rfl rfl 11 (by decide) (htw _ (ck_6 _ (List.mem_of_getElem? (i := 17) rfl))) (fun _ h9 => h9) rfl dX0_latestOf_88 ?_
        refine lv_iload_n hx hb dX0_latestOf_91 rfl (lv_at hl 5 rfl) ?_
        refine lv_iconst (v := 5) hx hb dX0_latestOf_92 (by decide) ?_
        have hPc := hP.sub (ws' := [(eO6a bno ns nsa nfa nza), (eA0 nfa cNf 96 fNf)]) [5, 7] rfl
        have hKc := hK.sub (tys' := [(cNf, .int)]) [4] rfl
        refine vp_callSi (W.runV (As := [.int a0, .int 5]) (rest := []) ⟨hx, hb, hml, hown, htw⟩ (gn_firstOf l dC dI bno ns nsa nfa nza cNf fNf a0 (5 : Int32)) (cwV 2 htw (xg_V (ck_55 _ (List.mem_of_getElem? (i := 4) rfl)) (ck_55 _ (List.mem_of_getElem? (i := 5) rfl)) (ck_55 _ (List.mem_of_getElem? (i := 6) rfl)) (ck_2 _ (List.mem_of_getElem? (i := 11) rfl)) (ck_55 _ (List.mem_of_getElem? (i := 7) rfl))) rfl rfl rfl (by exact ⟨rfl, hdc_3.1, hdc_3.2, hdd_7⟩) ⟨Nat.le_of_ble_eq_true rfl, Nat.le_of_ble_eq_true rfl⟩) ⟨fun a U g mk q => by obtain ⟨q0, qP, qK⟩ := q; exact ⟨q0, qP, va_K.moved (u := U) (U := U.calling g mk a) (Vm.Alike.refl U.vm) qK⟩, va_recv hKc hPc (ci := 6) (q0 := 0) rfl rfl, fun U hU hW => ⟨rfl, by rw [hU]; exact hPc, va_K.moved hW.alike hKc⟩⟩ rfl rfl hl.1 rfl (lv_room (Nat.le_of_ble_eq_true rfl)) dX0_latestOf_93 ⟨Nat.le_of_ble_eq_true rfl, Nat.le_of_ble_eq_true rfl⟩) (fun r_38 hw => ?_)
        try dsimp only at hw
        have hq_r_38 : r_38 = fn_firstOf fNf a0 (5 : Int32) := hw
        refine lv_istore (lv' := [(5, .int r_38), (2, .long (if ((r_36 + r_37) - 1) < 19999 then ((r_36 + r_37) - 1) else 19999)), (7, .long (if r_35 < r_25.toInt64 then r_35 else r_25.toInt64)), (4, .ref (La 0)), (0, .ref bk), (1, .int a0)]) hx hb dX0_latestOf_96 hl (by decide) rfl (fun ls hl => ?_)
        refine lv_aload_n hx hb dX0_latestOf_98 rfl (lv_at hl 4 rfl) ?_
        refine va_get (D := (dC, dI)) (ci := 0) (v := .ref bno) (C := RX0) (T := TX0) (N := 12) hx hb htw inlX0 hown hK hP 0 rfl rfl 11 (by decide) (htw _ (ck_6 _ (List.mem_of_getElem? (i := 17) rfl))) (fun _ h9 => h9) rfl dX0_latestOf_99 ?_
        refine lv_iload_n hx hb dX0_latestOf_102 rfl (lv_at hl 5 rfl) ?_
        refine lv_iconst (v := 5) hx hb dX0_latestOf_103 (by decide) ?_
        have hPc := hP.sub (ws' := [(eO6a bno ns nsa nfa nza), (eA0 nsa cNs 12 fNs)]) [5, 6] rfl
        have hKc := hK.sub (tys' := [(cNs, .int)]) [3] rfl
        refine vp_callSi (W.runV (As := [.int a0, .int 5]) (rest := []) ⟨hx, hb, hml, hown, htw⟩ (gn_does l dC dI bno ns nsa nfa nza cNs fNs a0 (5 : Int32)) (cwV 2 htw (xg_V (ck_55 _ (List.mem_of_getElem? (i := 2) rfl)) (ck_23 _ (List.mem_of_getElem? (i := 10) rfl)) (ck_23 _ (List.mem_of_getElem? (i := 11) rfl)) (ck_2 _ (List.mem_of_getElem? (i := 11) rfl)) (ck_23 _ (List.mem_of_getElem? (i := 12) rfl))) rfl rfl rfl (by exact ⟨rfl, hdc_3.1, hdc_3.2, hdd_8⟩) ⟨Nat.le_of_ble_eq_true rfl, Nat.le_of_ble_eq_true rfl⟩) ⟨fun a U g mk q => by obtain ⟨q0, qP, qK⟩ := q; exact ⟨q0, qP, va_K.moved (u := U) (U := U.calling g mk a) (Vm.Alike.refl U.vm) qK⟩, va_recv hKc hPc (ci := 6) (q0 := 0) rfl rfl, fun U hU hW => ⟨rfl, by rw [hU]; exact hPc, va_K.moved hW.alike hKc⟩⟩ rfl rfl hl.1 rfl (lv_room (Nat.le_of_ble_eq_true rfl)) dX0_latestOf_104 ⟨Nat.le_of_ble_eq_true rfl, Nat.le_of_ble_eq_true rfl⟩) (fun r_39 hw => ?_)
        try dsimp only at hw
        have hq_r_39 : r_39 = fn_does fNs a0 (5 : Int32) := hw
        refine lv_if_eq (tgt := 146) hx hb dX0_latestOf_107 (by decide) (fun c_40 => ?_) (fun c_40 => ?_)
        · refine lv_lload_n hx hb dX0_latestOf_146 rfl (lv_at hl 1 rfl) ?_
          exact W.lret (v := (if ((r_36 + r_37) - 1) < 19999 then ((r_36 + r_37) - 1) else 19999)) hx hb hr (fun t ht hW => ⟨(if ((r_36 + r_37) - 1) < 19999 then ((r_36 + r_37) - 1) else 19999), rfl, (Eq.symm ((by rw [fb_late]; (try rw [if_neg hz_2]); (try rw [← hq_r_17]); (try rw [xL_eq]); (try rw [if_neg c_18]); (try rw [← hq_r_25]); (try rw [xL_eq]); (try rw [if_neg c_26]); (try rw [← hq_r_35]); (try rw [xL_eq]); (try rw [← hq_r_36]); (try rw [xL_eq]); (try rw [← hq_r_37]); (try rw [xL_eq]); (try rw [← hq_r_38]); (try rw [xL_eq]); (try rw [← hq_r_39]); (try rw [xL_eq]); (try rw [if_pos c_40]); try rfl))), ht⟩) (fun _ h => by cases h) dX0_latestOf_147
        · refine lv_aload_n hx hb dX0_latestOf_110 rfl (lv_at hl 4 rfl) ?_
          refine lv_iconst (v := 2) hx hb dX0_latestOf_111 (by decide) ?_
          refine lv_iload hx hb dX0_latestOf_112 (lv_at hl 0 rfl) ?_
          have hPc := hP.sub (ws' := [(eO0a bk bto bnm bla bsk bru bbo bdi bda bdk bdt bdp bno), (eA0 bto cTo 5 fTo)]) [0, 1] rfl
          have hKc := hK.sub (tys' := [(cTo, .int)]) [0] rfl
          refine vp_callSi (W.runV (As := [.int 2, .int r_38]) (rest := []) ⟨hx, hb, hml, hown, htw⟩ (gb_has l dC dI bk bto bnm bla bsk bru bbo bdi bda bdk bdt bdp bno cTo fTo (2 : Int32) r_38) (cwV 2 htw (xg_V (ck_21 _ (List.mem_of_getElem? (i := 1) rfl)) (ck_21 _ (List.mem_of_getElem? (i := 2) rfl)) (ck_21 _ (List.mem_of_getElem? (i := 3) rfl)) (ck_1 _ (List.mem_of_getElem? (i := 20) rfl)) (ck_21 _ (List.mem_of_getElem? (i := 4) rfl))) rfl rfl rfl (by exact ⟨rfl, hdc_6.1, hdc_6.2, hdd_8⟩) ⟨Nat.le_of_ble_eq_true rfl, Nat.le_of_ble_eq_true rfl⟩) ⟨fun a U g mk q => by obtain ⟨q0, qP, qK⟩ := q; exact ⟨q0, qP, va_K.moved (u := U) (U := U.calling g mk a) (Vm.Alike.refl U.vm) qK⟩, va_recv hKc hPc (ci := 0) (q0 := 0) rfl rfl, fun U hU hW => ⟨rfl, by rw [hU]; exact hPc, va_K.moved hW.alike hKc⟩⟩ rfl rfl hl.1 rfl (lv_room (Nat.le_of_ble_eq_true rfl)) dX0_latestOf_114 ⟨Nat.le_of_ble_eq_true rfl, Nat.le_of_ble_eq_true rfl⟩) (fun r_41 hw => ?_)
          try dsimp only at hw
          have hq_r_41 : r_41 = fb_has fTo (2 : Int32) r_38 := hw
          refine lv_if_eq (tgt := 146) hx hb dX0_latestOf_117 (by decide) (fun c_42 => ?_) (fun c_42 => ?_)
          · refine lv_lload_n hx hb dX0_latestOf_146 rfl (lv_at hl 1 rfl) ?_
            exact W.lret (v := (if ((r_36 + r_37) - 1) < 19999 then ((r_36 + r_37) - 1) else 19999)) hx hb hr (fun t ht hW => ⟨(if ((r_36 + r_37) - 1) < 19999 then ((r_36 + r_37) - 1) else 19999), rfl, (Eq.symm ((by rw [fb_late]; (try rw [if_neg hz_2]); (try rw [← hq_r_17]); (try rw [xL_eq]); (try rw [if_neg c_18]); (try rw [← hq_r_25]); (try rw [xL_eq]); (try rw [if_neg c_26]); (try rw [← hq_r_35]); (try rw [xL_eq]); (try rw [← hq_r_36]); (try rw [xL_eq]); (try rw [← hq_r_37]); (try rw [xL_eq]); (try rw [← hq_r_38]); (try rw [xL_eq]); (try rw [← hq_r_39]); (try rw [xL_eq]); (try rw [if_neg c_40]); (try rw [← hq_r_41]); (try rw [xL_eq]); (try rw [if_pos c_42]); try rfl))), ht⟩) (fun _ h => by cases h) dX0_latestOf_147
          · refine lv_aload_n hx hb dX0_latestOf_120 rfl (lv_at hl 4 rfl) ?_
            refine va_get (D := (dC, dI)) (ci := 0) (v := .ref bdi) (C := RX0) (T := TX0) (N := 12) hx hb htw inlX0 hown hK hP 0 rfl rfl 6 (by decide) (htw _ (ck_6 _ (List.mem_of_getElem? (i := 11) rfl))) (fun _ h9 => h9) rfl dX0_latestOf_121 ?_
            refine lv_iload hx hb dX0_latestOf_124 (lv_at hl 0 rfl) ?_
            refine va_lald hx hb hK hP 4 2 rfl rfl (xg_inr (N := 6) rfl (gb_late_s8 (y0 := r_38) (y1 := fTo 2) ht2 (xb_hasin hq_r_41 c_42).2 (xb_hasin hq_r_41 c_42).1).1 (gb_late_s8 (y0 := r_38) (y1 := fTo 2) ht2 (xb_hasin hq_r_41 c_42).2 (xb_hasin hq_r_41 c_42).1).2) dX0_latestOf_126 ?_
            refine lv_ldc2 (v := (-1)) hx hb hown (htw _ (ck_55 _ (List.mem_of_getElem? (i := 17) rfl))) dX0_latestOf_127 ?_
            refine W.lcmp hx hb dX0_latestOf_130 ?_
            refine lv_if_eq (tgt := 146) hx hb dX0_latestOf_131 (by decide) (fun c_43 => ?_) (fun c_43 => ?_)
            · refine lv_lload_n hx hb dX0_latestOf_146 rfl (lv_at hl 1 rfl) ?_
              exact W.lret (v := (if ((r_36 + r_37) - 1) < 19999 then ((r_36 + r_37) - 1) else 19999)) hx hb hr (fun t ht hW => ⟨(if ((r_36 + r_37) - 1) < 19999 then ((r_36 + r_37) - 1) else 19999), rfl, (Eq.symm ((by rw [fb_late]; (try rw [if_neg hz_2]); (try rw [← hq_r_17]); (try rw [xL_eq]); (try rw [if_neg c_18]); (try rw [← hq_r_25]); (try rw [xL_eq]); (try rw [if_neg c_26]); (try rw [← hq_r_35]); (try rw [xL_eq]); (try rw [← hq_r_36]); (try rw [xL_eq]); (try rw [← hq_r_37]); (try rw [xL_eq]); (try rw [← hq_r_38]); (try rw [xL_eq]); (try rw [← hq_r_39]); (try rw [xL_eq]); (try rw [if_neg c_40]); (try rw [← hq_r_41]); (try rw [xL_eq]); (try rw [if_neg c_42]); (try rw [if_pos c_43]); try rfl))), ht⟩) (fun _ h => by cases h) dX0_latestOf_147
            · refine lv_lload_n hx hb dX0_latestOf_134 rfl (lv_at hl 1 rfl) ?_
              refine lv_aload_n hx hb dX0_latestOf_135 rfl (lv_at hl 4 rfl) ?_
              refine va_get (D := (dC, dI)) (ci := 0) (v := .ref bdi) (C := RX0) (T := TX0) (N := 12) hx hb htw inlX0 hown hK hP 0 rfl rfl 6 (by decide) (htw _ (ck_6 _ (List.mem_of_getElem? (i := 11) rfl))) (fun _ h9 => h9) rfl dX0_latestOf_136 ?_
              refine lv_iload hx hb dX0_latestOf_139 (lv_at hl 0 rfl) ?_
              refine va_lald hx hb hK hP 4 2 rfl rfl (xg_inr (N := 6) rfl (gb_late_s9 (y0 := r_38) (y1 := fTo 2) ht2 (xb_hasin hq_r_41 c_42).2 (xb_hasin hq_r_41 c_42).1).1 (gb_late_s9 (y0 := r_38) (y1 := fTo 2) ht2 (xb_hasin hq_r_41 c_42).2 (xb_hasin hq_r_41 c_42).1).2) dX0_latestOf_141 ?_
              refine va_mmin_long hx hb (by rw [hml]; exact hl.1.symm) hown (htw _ (ck_55 _ (List.mem_of_getElem? (i := 16) rfl))) (htw _ (ck_45 _ (List.mem_of_getElem? (i := 9) rfl))) (htw _ (ck_14 _ (List.mem_of_getElem? (i := 8) rfl))) (htw _ (ck_45 _ (List.mem_of_getElem? (i := 10) rfl))) (Nat.le_of_ble_eq_true rfl) (Nat.le_of_ble_eq_true rfl) (Nat.le_of_ble_eq_true rfl) (Nat.le_of_ble_eq_true rfl) dX0_latestOf_142 ?_
              refine lv_lstore_n (lv' := [(2, .long (if (fDi r_38.toNatClampNeg) < (if ((r_36 + r_37) - 1) < 19999 then ((r_36 + r_37) - 1) else 19999) then (fDi r_38.toNatClampNeg) else (if ((r_36 + r_37) - 1) < 19999 then ((r_36 + r_37) - 1) else 19999))), (5, .int r_38), (7, .long (if r_35 < r_25.toInt64 then r_35 else r_25.toInt64)), (4, .ref (La 0)), (0, .ref bk), (1, .int a0)]) hx hb dX0_latestOf_145 rfl hl (by decide) rfl (fun ls hl => ?_)
              refine lv_lload_n hx hb dX0_latestOf_146 rfl (lv_at hl 0 rfl) ?_
              exact W.lret (v := (if (fDi r_38.toNatClampNeg) < (if ((r_36 + r_37) - 1) < 19999 then ((r_36 + r_37) - 1) else 19999) then (fDi r_38.toNatClampNeg) else (if ((r_36 + r_37) - 1) < 19999 then ((r_36 + r_37) - 1) else 19999))) hx hb hr (fun t ht hW => ⟨(if (fDi r_38.toNatClampNeg) < (if ((r_36 + r_37) - 1) < 19999 then ((r_36 + r_37) - 1) else 19999) then (fDi r_38.toNatClampNeg) else (if ((r_36 + r_37) - 1) < 19999 then ((r_36 + r_37) - 1) else 19999)), rfl, (Eq.symm ((by rw [fb_late]; (try rw [if_neg hz_2]); (try rw [← hq_r_17]); (try rw [xL_eq]); (try rw [if_neg c_18]); (try rw [← hq_r_25]); (try rw [xL_eq]); (try rw [if_neg c_26]); (try rw [← hq_r_35]); (try rw [xL_eq]); (try rw [← hq_r_36]); (try rw [xL_eq]); (try rw [← hq_r_37]); (try rw [xL_eq]); (try rw [← hq_r_38]); (try rw [xL_eq]); (try rw [← hq_r_39]); (try rw [xL_eq]); (try rw [if_neg c_40]); (try rw [← hq_r_41]); (try rw [xL_eq]); (try rw [if_neg c_42]); (try rw [if_neg c_43]); try rfl))), ht⟩) (fun _ h => by cases h) dX0_latestOf_147
