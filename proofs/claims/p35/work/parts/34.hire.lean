def fx_hire_d (FI : Nat → Int32) (GR : Nat → Int32) (FR : Nat → Int32) (a0 : Int32) (a1 : Int64) (a2 : Int32) (a3 : Int32) : Nat → (Int64) → (Int64) → (Int32) → Int64
  | 0, L7d, L9d, L11d => L7d
  | n + 1, L7d, L9d, L11d => (if a2 < L11d then L7d else (xL (fl_endedBy (FI a0.toNatClampNeg) (GR a0.toNatClampNeg) (FR a0.toNatClampNeg) ((a1 + L11d.toInt64) + a3.toInt64)) (fun r_13 => (xL (fl_endedBy (FI a0.toNatClampNeg) (GR a0.toNatClampNeg) (FR a0.toNatClampNeg) (a1 + L11d.toInt64)) (fun r_14 => (if lg_cmp (r_13 - r_14) L9d ≤ 0 then fx_hire_d FI GR FR a0 a1 a2 a3 n L7d L9d (L11d + 1) else fx_hire_d FI GR FR a0 a1 a2 a3 n (a1 + L11d.toInt64) (r_13 - r_14) (L11d + 1)))))))
def fx_hire (fTo : Nat → Int32) (FI : Nat → Int32) (GR : Nat → Int32) (FR : Nat → Int32) (a0 : Int32) (a1 : Int64) (a2 : Int32) (a3 : Int32) : Int64 := (if fb_landIs fTo a0 = 0 then (-1 : Int64) else (xL (fx_isCount a1) (fun r_3 => (if r_3 = 0 then (-1 : Int64) else (if a2 < 0 then (-1 : Int64) else (if 999 < a2 then (-1 : Int64) else (if a3 < 1 then (-1 : Int64) else (if 99999 < a3 then (-1 : Int64) else (if lg_cmp ((a1 + a2.toInt64) + a3.toInt64) 1000000000000 ≤ 0 then fx_hire_d FI GR FR a0 a1 a2 a3 1000 a1 (-1 : Int64) (0 : Int32) else (-1 : Int64))))))))))
theorem gx_hire_s0 {y0 : Int32} {y1 : Int32} (h0 : ¬ (y1 < 0)) (h1 : ¬ (999 < y1)) (h2 : ¬ (y1 < y0)) (h3 : ¬ (y0 < 0)) : ¬ ((y0 + 1) < 0) := by lia
theorem gx_hire_s1 {y0 : Int32} {y1 : Int32} (h0 : ¬ (y0 < 0)) (h1 : ¬ (999 < y0)) (h2 : ¬ (y0 < y1)) (h3 : ¬ (y1 < 0)) : y0 < 2000000000 := by lia
theorem gx_hire_s2 {y0 : Int32} {y1 : Int32} (h0 : ¬ (y1 < 0)) (h1 : ¬ (999 < y1)) (h2 : ¬ (y1 < y0)) (h3 : ¬ (y0 < 0)) : ¬ ((y0 + 1) < 0) := gx_hire_s0 h0 h1 h2 h3
theorem gx_hire_s3 {y0 : Int32} {y1 : Int32} (h0 : ¬ (y0 < 0)) (h1 : ¬ (999 < y0)) (h2 : ¬ (y0 < y1)) (h3 : ¬ (y1 < 0)) : y0 < 2000000000 := gx_hire_s1 h0 h1 h2 h3
theorem gx_hire_s4  : ¬ ((0 : Int32) < 0) := (by decide)
theorem dX11_hire_0 : decode cX11_hire 0 = .ok (.aload_n 0, 1) := zk_42 (by decide +kernel)
theorem dX11_hire_1 : decode cX11_hire 1 = .ok (.getfield 19, 3) := zk_180 (by decide +kernel)
theorem dX11_hire_4 : decode cX11_hire 4 = .ok (.iload_n 1, 1) := zk_27 (by decide +kernel)
theorem dX11_hire_5 : decode cX11_hire 5 = .ok (.invokevirtual 112, 3) := zk_182 (by decide +kernel)
theorem dX11_hire_8 : decode cX11_hire 8 = .ok (.astore 6, 2) := zk_58 (by decide +kernel)
theorem dX11_hire_10 : decode cX11_hire 10 = .ok (.aload 6, 2) := zk_25 (by decide +kernel)
theorem dX11_hire_12 : decode cX11_hire 12 = .ok (.ifnull 52, 3) := zk_198 (by decide +kernel)
theorem dX11_hire_64 : decode cX11_hire 64 = .ok (.ldc2_w 143, 3) := zk_20 (by decide +kernel)
theorem dX11_hire_67 : decode cX11_hire 67 = .ok (.lreturn, 1) := zk_173 (by decide +kernel)
theorem dX11_hire_15 : decode cX11_hire 15 = .ok (.lload_n 2, 1) := zk_32 (by decide +kernel)
theorem dX11_hire_16 : decode cX11_hire 16 = .ok (.invokestatic 149, 3) := zk_184 (by decide +kernel)
theorem dX11_hire_19 : decode cX11_hire 19 = .ok (.ifCond .eq 45, 3) := zk_153 (by decide +kernel)
theorem dX11_hire_22 : decode cX11_hire 22 = .ok (.iload 4, 2) := zk_21 (by decide +kernel)
theorem dX11_hire_24 : decode cX11_hire 24 = .ok (.ifCond .lt 40, 3) := zk_155 (by decide +kernel)
theorem dX11_hire_27 : decode cX11_hire 27 = .ok (.iload 4, 2) := zk_21 (by decide +kernel)
theorem dX11_hire_29 : decode cX11_hire 29 = .ok (.sipush 999, 3) := zk_17 (by decide +kernel)
theorem dX11_hire_32 : decode cX11_hire 32 = .ok (.if_icmp .gt 32, 3) := zk_163 (by decide +kernel)
theorem dX11_hire_35 : decode cX11_hire 35 = .ok (.iload 5, 2) := zk_21 (by decide +kernel)
theorem dX11_hire_37 : decode cX11_hire 37 = .ok (.iconst 1, 1) := zk_4 (by decide +kernel)
theorem dX11_hire_38 : decode cX11_hire 38 = .ok (.if_icmp .lt 26, 3) := zk_161 (by decide +kernel)
theorem dX11_hire_41 : decode cX11_hire 41 = .ok (.iload 5, 2) := zk_21 (by decide +kernel)
theorem dX11_hire_43 : decode cX11_hire 43 = .ok (.ldc 249, 2) := zk_18 (by decide +kernel)
theorem dX11_hire_45 : decode cX11_hire 45 = .ok (.if_icmp .gt 19, 3) := zk_163 (by decide +kernel)
theorem dX11_hire_48 : decode cX11_hire 48 = .ok (.lload_n 2, 1) := zk_32 (by decide +kernel)
theorem dX11_hire_49 : decode cX11_hire 49 = .ok (.iload 4, 2) := zk_21 (by decide +kernel)
theorem dX11_hire_51 : decode cX11_hire 51 = .ok (.i2l, 1) := zk_133 (by decide +kernel)
theorem dX11_hire_52 : decode cX11_hire 52 = .ok (.ladd, 1) := zk_97 (by decide +kernel)
theorem dX11_hire_53 : decode cX11_hire 53 = .ok (.iload 5, 2) := zk_21 (by decide +kernel)
theorem dX11_hire_55 : decode cX11_hire 55 = .ok (.i2l, 1) := zk_133 (by decide +kernel)
theorem dX11_hire_56 : decode cX11_hire 56 = .ok (.ladd, 1) := zk_97 (by decide +kernel)
theorem dX11_hire_57 : decode cX11_hire 57 = .ok (.ldc2_w 209, 3) := zk_20 (by decide +kernel)
theorem dX11_hire_60 : decode cX11_hire 60 = .ok (.lcmp, 1) := zk_148 (by decide +kernel)
theorem dX11_hire_61 : decode cX11_hire 61 = .ok (.ifCond .le 7, 3) := zk_158 (by decide +kernel)
theorem dX11_hire_68 : decode cX11_hire 68 = .ok (.lload_n 2, 1) := zk_32 (by decide +kernel)
theorem dX11_hire_69 : decode cX11_hire 69 = .ok (.lstore 7, 2) := zk_55 (by decide +kernel)
theorem dX11_hire_71 : decode cX11_hire 71 = .ok (.ldc2_w 143, 3) := zk_20 (by decide +kernel)
theorem dX11_hire_74 : decode cX11_hire 74 = .ok (.lstore 9, 2) := zk_55 (by decide +kernel)
theorem dX11_hire_76 : decode cX11_hire 76 = .ok (.iconst 0, 1) := zk_3 (by decide +kernel)
theorem dX11_hire_77 : decode cX11_hire 77 = .ok (.istore 11, 2) := zk_54 (by decide +kernel)
theorem dX11_hire_79 : decode cX11_hire 79 = .ok (.iload 11, 2) := zk_21 (by decide +kernel)
theorem dX11_hire_81 : decode cX11_hire 81 = .ok (.iload 4, 2) := zk_21 (by decide +kernel)
theorem dX11_hire_83 : decode cX11_hire 83 = .ok (.if_icmp .gt 55, 3) := zk_163 (by decide +kernel)
theorem dX11_hire_138 : decode cX11_hire 138 = .ok (.lload 7, 2) := zk_22 (by decide +kernel)
theorem dX11_hire_140 : decode cX11_hire 140 = .ok (.lreturn, 1) := zk_173 (by decide +kernel)
theorem dX11_hire_86 : decode cX11_hire 86 = .ok (.aload 6, 2) := zk_25 (by decide +kernel)
theorem dX11_hire_88 : decode cX11_hire 88 = .ok (.lload_n 2, 1) := zk_32 (by decide +kernel)
theorem dX11_hire_89 : decode cX11_hire 89 = .ok (.iload 11, 2) := zk_21 (by decide +kernel)
theorem dX11_hire_91 : decode cX11_hire 91 = .ok (.i2l, 1) := zk_133 (by decide +kernel)
theorem dX11_hire_92 : decode cX11_hire 92 = .ok (.ladd, 1) := zk_97 (by decide +kernel)
theorem dX11_hire_93 : decode cX11_hire 93 = .ok (.iload 5, 2) := zk_21 (by decide +kernel)
theorem dX11_hire_95 : decode cX11_hire 95 = .ok (.i2l, 1) := zk_133 (by decide +kernel)
theorem dX11_hire_96 : decode cX11_hire 96 = .ok (.ladd, 1) := zk_97 (by decide +kernel)
theorem dX11_hire_97 : decode cX11_hire 97 = .ok (.invokevirtual 274, 3) := zk_182 (by decide +kernel)
theorem dX11_hire_100 : decode cX11_hire 100 = .ok (.aload 6, 2) := zk_25 (by decide +kernel)
theorem dX11_hire_102 : decode cX11_hire 102 = .ok (.lload_n 2, 1) := zk_32 (by decide +kernel)
theorem dX11_hire_103 : decode cX11_hire 103 = .ok (.iload 11, 2) := zk_21 (by decide +kernel)
theorem dX11_hire_105 : decode cX11_hire 105 = .ok (.i2l, 1) := zk_133 (by decide +kernel)
theorem dX11_hire_106 : decode cX11_hire 106 = .ok (.ladd, 1) := zk_97 (by decide +kernel)
theorem dX11_hire_107 : decode cX11_hire 107 = .ok (.invokevirtual 274, 3) := zk_182 (by decide +kernel)
theorem dX11_hire_110 : decode cX11_hire 110 = .ok (.lsub, 1) := zk_101 (by decide +kernel)
theorem dX11_hire_111 : decode cX11_hire 111 = .ok (.lstore 12, 2) := zk_55 (by decide +kernel)
theorem dX11_hire_113 : decode cX11_hire 113 = .ok (.lload 12, 2) := zk_22 (by decide +kernel)
theorem dX11_hire_115 : decode cX11_hire 115 = .ok (.lload 9, 2) := zk_22 (by decide +kernel)
theorem dX11_hire_117 : decode cX11_hire 117 = .ok (.lcmp, 1) := zk_148 (by decide +kernel)
theorem dX11_hire_118 : decode cX11_hire 118 = .ok (.ifCond .le 14, 3) := zk_158 (by decide +kernel)
theorem dX11_hire_132 : decode cX11_hire 132 = .ok (.iinc 11 1, 3) := zk_132 (by decide +kernel)
theorem dX11_hire_135 : decode cX11_hire 135 = .ok (.goto (-56), 3) := zk_167 (by decide +kernel)
theorem dX11_hire_121 : decode cX11_hire 121 = .ok (.lload 12, 2) := zk_22 (by decide +kernel)
theorem dX11_hire_123 : decode cX11_hire 123 = .ok (.lstore 9, 2) := zk_55 (by decide +kernel)
theorem dX11_hire_125 : decode cX11_hire 125 = .ok (.lload_n 2, 1) := zk_32 (by decide +kernel)
theorem dX11_hire_126 : decode cX11_hire 126 = .ok (.iload 11, 2) := zk_21 (by decide +kernel)
theorem dX11_hire_128 : decode cX11_hire 128 = .ok (.i2l, 1) := zk_133 (by decide +kernel)
theorem dX11_hire_129 : decode cX11_hire 129 = .ok (.ladd, 1) := zk_97 (by decide +kernel)
theorem dX11_hire_130 : decode cX11_hire 130 = .ok (.lstore 7, 2) := zk_55 (by decide +kernel)
set_option maxHeartbeats 4000000 in
set_option maxRecDepth 100000 in
theorem gx_hire (l : Launch) (dC : Nat → ClassId) (dI : Nat → Nat → Nat) (x : Nat) (pa : Nat) (bk : Nat) (xsp : Nat) (xdy : Nat) (le : Nat) (xst : Nat) (xsc : Int32) (xim : Nat) (xil : Nat) (xik : Int32) (xmo : Nat) (xom : Nat) (wi : Nat) (bto : Nat) (bnm : Nat) (bla : Nat) (bsk : Nat) (bru : Nat) (bbo : Nat) (bdi : Nat) (bda : Nat) (bdk : Nat) (bdt : Nat) (bdp : Nat) (bno : Nat) (cTo : ClassId) (fTo : Nat → Int32) (cLa : ClassId) (La : Nat → Nat) (FI : Nat → Int32) (GR : Nat → Int32) (FR : Nat → Int32) (a0 : Int32) (a1 : Int64) (a2 : Int32) (a3 : Int32) : Met l yX11_hire (Cond.code yX11_hire cX11_hire 14 (some .long) :: wsL_law) ({ frames := 4, cells := 0, slots := 0, locals := 96 }) (va_Pc [.ref x, .int a0, .long a1, .int a2, .int a3] (fun U => va_P (dC, dI) vwCl [(eO11a x pa bk xsp xdy le xst xsc xim xil xik xmo xom wi), (eO0a bk bto bnm bla bsk bru bbo bdi bda bdk bdt bdp bno), (eA0 bto cTo 5 fTo), (eA4 bla cLa 4 (fun k => some (La k))), (eO1a (La 0) (FI 0) (GR 0) (FR 0)), (eO1a (La 1) (FI 1) (GR 1) (FR 1)), (eO1a (La 2) (FI 2) (GR 2) (FR 2)), (eO1a (La 3) (FI 3) (GR 3) (FR 3))] U.heap ∧ va_K (dC, dI) vwCl [(cTo, .int), (cLa, .object RX1)] U ∧ xN U)) (vp_Sl (fun r => r = fx_hire fTo FI GR FR a0 a1 a2 a3)) 0 0 (fun _ => False) := by
  refine Met.ofW (cc := cX11_hire) (maxL := 14) (ret := (some .long)) (by decide) rfl ?_
  intro p e s m args below meth c s₁ B hml hv
  obtain ⟨rfl, hP, hK, hNx⟩ := hv
  have hx := B.exec
  have hb := B.bytes
  have hr := B.returns
  have hts := atoms_spec (ws := Cond.code yX11_hire cX11_hire 14 (some .long) :: wsL_law) B.pre
  have htw : ∀ w ∈ wsL_law, w.before _ s = true := fun w h => hts w (List.mem_cons_of_mem _ h)
  have hown : s.vm.findClass RX11 = some m.cls := findClass_of_methodNamed B.named
  have hlocks := B.notSynchronized
  have hl := lv_entry ([.ref x, .int a0, .long a1, .int a2, .int a3]) (n := 14) (Nat.le_of_ble_eq_true rfl)
  rw [lg_entry_eq]
  generalize (lg_sl ([.ref x, .int a0, .long a1, .int a2, .int a3]) ++ List.replicate (14 - (lg_sl ([.ref x, .int a0, .long a1, .int a2, .int a3])).length) Slot.unset).toArray = ls at hl ⊢
  have hl : lv_has ls 14 [(0, .ref x), (1, .int a0), (2, .long a1), (4, .int a2), (5, .int a3)] := hl
  refine lv_aload_n hx hb dX11_hire_0 rfl (lv_at hl 0 rfl) ?_
  refine va_get (D := (dC, dI)) (ci := 11) (v := .ref bk) (C := RX11) (T := TX11) (N := 13) hx hb htw inlX11 hown hK hP 0 rfl rfl 1 (by decide) (htw _ (ck_1 _ (List.mem_of_getElem? (i := 21) rfl))) (fun _ h9 => h9) rfl dX11_hire_1 ?_
  refine lv_iload_n hx hb dX11_hire_4 rfl (lv_at hl 1 rfl) ?_
  have hPc := hP.sub (ws' := [(eO0a bk bto bnm bla bsk bru bbo bdi bda bdk bdt bdp bno), (eA0 bto cTo 5 fTo), (eA4 bla cLa 4 (fun k => some (La k)))]) [1, 2, 3] rfl
  have hKc := hK.sub (tys' := [(cTo, .int), (cLa, .object RX1)]) [0, 1] rfl
  refine va_csq (W.runV (As := [.int a0]) (rest := []) ⟨hx, hb, hml, hown, htw⟩ (gb_landAt l dC dI bk bto bnm bla bsk bru bbo bdi bda bdk bdt bdp bno cTo fTo cLa La a0) (cwV 1 htw (xg_V (ck_33 _ (List.mem_of_getElem? (i := 21) rfl)) (ck_20 _ (List.mem_of_getElem? (i := 22) rfl)) (ck_20 _ (List.mem_of_getElem? (i := 23) rfl)) (ck_1 _ (List.mem_of_getElem? (i := 20) rfl)) (ck_21 _ (List.mem_of_getElem? (i := 0) rfl))) rfl rfl rfl (by exact ⟨rfl, hdc_6.1, hdc_6.2, hdd_15⟩) ⟨Nat.le_of_ble_eq_true rfl, Nat.le_of_ble_eq_true rfl⟩) ⟨fun a U g mk q => by obtain ⟨q0, qP, qK⟩ := q; exact ⟨q0, qP, va_K.moved (u := U) (U := U.calling g mk a) (Vm.Alike.refl U.vm) qK⟩, va_recv hKc hPc (ci := 0) (q0 := 0) rfl rfl, fun U hU hW => ⟨rfl, by rw [hU]; exact hPc, va_K.moved hW.alike hKc⟩⟩ rfl rfl hl.1 rfl (lv_room (Nat.le_of_ble_eq_true rfl)) dX11_hire_5 ⟨Nat.le_of_ble_eq_true rfl, Nat.le_of_ble_eq_true rfl⟩) (fun r_1 hw => ?_)
  try dsimp only at hw
  by_cases hz_2 : fb_landIs fTo a0 = 0
  · obtain rfl : r_1 = none := by rw [hw, if_pos hz_2]
    refine W.eq (g2 := F0 m 8 ls [.null]) rfl ?_
    refine lv_astoreN (lv' := [(6, .null), (0, .ref x), (1, .int a0), (2, .long a1), (4, .int a2), (5, .int a3)]) hx hb dX11_hire_8 hl (by decide) rfl (fun ls hl => ?_)
    refine lv_aloadN hx hb dX11_hire_10 (lv_at hl 0 rfl) ?_
    refine lv_ifnullN (tgt := 64) hx hb dX11_hire_12 (by decide) ?_
    refine lv_ldc2 (v := (-1)) hx hb hown (htw _ (ck_34 _ (List.mem_of_getElem? (i := 14) rfl))) dX11_hire_64 ?_
    exact W.lret (v := (-1)) hx hb hr (fun t ht hW => ⟨(-1), rfl, (Eq.symm ((by rw [fx_hire]; (try rw [if_pos hz_2]); try rfl))), ht⟩) (fun _ h => by cases h) dX11_hire_67
  · obtain rfl : r_1 = some (La a0.toNatClampNeg) := by rw [hw, if_neg hz_2]
    have hP : va_P (dC, dI) vwCl [(eO11a x pa bk xsp xdy le xst xsc xim xil xik xmo xom wi), (eO0a bk bto bnm bla bsk bru bbo bdi bda bdk bdt bdp bno), (eA0 bto cTo 5 fTo), (eA4 bla cLa 4 (fun k => some (La k))), (eO1a (La 0) (FI 0) (GR 0) (FR 0)), (eO1a (La 1) (FI 1) (GR 1) (FR 1)), (eO1a (La 2) (FI 2) (GR 2) (FR 2)), (eO1a (La 3) (FI 3) (GR 3) (FR 3)), ((La a0.toNatClampNeg), .inr (1, [.int (FI a0.toNatClampNeg), .int (GR a0.toNatClampNeg), .int (FR a0.toNatClampNeg)]))] s.heap := xb_P4 hP (fun k => (La k, .inr (1, [.int (FI k), .int (GR k), .int (FR k)]))) 4 rfl rfl rfl rfl (i := a0) (xg_inr (N := 4) rfl (fb_landIn hz_2).1 (fb_landIn hz_2).2)
    refine W.eq (g2 := F0 m 8 ls [.ref (La a0.toNatClampNeg)]) rfl ?_
    refine lv_astore (lv' := [(6, .ref (La a0.toNatClampNeg)), (0, .ref x), (1, .int a0), (2, .long a1), (4, .int a2), (5, .int a3)]) hx hb dX11_hire_8 hl (by decide) rfl (fun ls hl => ?_)
    refine lv_aload hx hb dX11_hire_10 (lv_at hl 0 rfl) ?_
    refine lv_ifnull hx hb dX11_hire_12 ?_
    refine lv_lload_n hx hb dX11_hire_15 rfl (lv_at hl 3 rfl) ?_
    have hPc := hP.sub (ws' := []) [] rfl
    have hKc := hK.sub (tys' := []) [] rfl
    refine vp_callSi (W.runS (As := [.long a1]) (rest := []) ⟨hx, hb, hml, hown, htw⟩ (gx_isCount l dC dI a1) (va_cwS 1 htw (xg_S (ck_35 _ (List.mem_of_getElem? (i := 11) rfl)) (ck_35 _ (List.mem_of_getElem? (i := 12) rfl)) (ck_1 _ (List.mem_of_getElem? (i := 2) rfl)) (ck_35 _ (List.mem_of_getElem? (i := 13) rfl))) rfl rfl rfl (by exact ⟨hdc_8.1, hdc_8.2, hdd_1⟩) ⟨Nat.le_of_ble_eq_true rfl, Nat.le_of_ble_eq_true rfl⟩) ⟨fun a U g mk q => by obtain ⟨q0, qP, qK⟩ := q; exact ⟨q0, qP, va_K.moved (u := U) (U := U.calling g mk a) (Vm.Alike.refl U.vm) qK⟩, fun U hU hW => ⟨rfl, by rw [hU]; exact hPc, va_K.moved hW.alike hKc⟩⟩ rfl rfl hl.1 rfl (lv_room (Nat.le_of_ble_eq_true rfl)) dX11_hire_16 ⟨Nat.le_of_ble_eq_true rfl, Nat.le_of_ble_eq_true rfl⟩) (fun r_3 hw => ?_)
    try dsimp only at hw
    have hq_r_3 : r_3 = fx_isCount a1 := hw
    refine lv_if_eq (tgt := 64) hx hb dX11_hire_19 (by decide) (fun c_4 => ?_) (fun c_4 => ?_)
    · refine lv_ldc2 (v := (-1)) hx hb hown (htw _ (ck_34 _ (List.mem_of_getElem? (i := 14) rfl))) dX11_hire_64 ?_
      exact W.lret (v := (-1)) hx hb hr (fun t ht hW => ⟨(-1), rfl, (Eq.symm ((by rw [fx_hire]; (try rw [if_neg hz_2]); (try rw [← hq_r_3]); (try rw [xL_eq]); (try rw [if_pos c_4]); try rfl))), ht⟩) (fun _ h => by cases h) dX11_hire_67
    · refine lv_iload hx hb dX11_hire_22 (lv_at hl 4 rfl) ?_
      refine lv_if_lt (tgt := 64) hx hb dX11_hire_24 (by decide) (fun c_5 => ?_) (fun c_5 => ?_)
      · refine lv_ldc2 (v := (-1)) hx hb hown (htw _ (ck_34 _ (List.mem_of_getElem? (i := 14) rfl))) dX11_hire_64 ?_
        exact W.lret (v := (-1)) hx hb hr (fun t ht hW => ⟨(-1), rfl, (Eq.symm ((by rw [fx_hire]; (try rw [if_neg hz_2]); (try rw [← hq_r_3]); (try rw [xL_eq]); (try rw [if_neg c_4]); (try rw [if_pos c_5]); try rfl))), ht⟩) (fun _ h => by cases h) dX11_hire_67
      · refine lv_iload hx hb dX11_hire_27 (lv_at hl 4 rfl) ?_
        refine lv_sipush (v := 999) hx hb dX11_hire_29 (by decide) ?_
        refine lv_icmp_gt (tgt := 64) hx hb dX11_hire_32 (by decide) (fun c_6 => ?_) (fun c_6 => ?_)
        · refine lv_ldc2 (v := (-1)) hx hb hown (htw _ (ck_34 _ (List.mem_of_getElem? (i := 14) rfl))) dX11_hire_64 ?_
          exact W.lret (v := (-1)) hx hb hr (fun t ht hW => ⟨(-1), rfl, (Eq.symm ((by rw [fx_hire]; (try rw [if_neg hz_2]); (try rw [← hq_r_3]); (try rw [xL_eq]); (try rw [if_neg c_4]); (try rw [if_neg c_5]); (try rw [if_pos c_6]); try rfl))), ht⟩) (fun _ h => by cases h) dX11_hire_67
        · refine lv_iload hx hb dX11_hire_35 (lv_at hl 5 rfl) ?_
          refine lv_iconst (v := 1) hx hb dX11_hire_37 (by decide) ?_
          refine lv_icmp_lt (tgt := 64) hx hb dX11_hire_38 (by decide) (fun c_7 => ?_) (fun c_7 => ?_)
          · refine lv_ldc2 (v := (-1)) hx hb hown (htw _ (ck_34 _ (List.mem_of_getElem? (i := 14) rfl))) dX11_hire_64 ?_
            exact W.lret (v := (-1)) hx hb hr (fun t ht hW => ⟨(-1), rfl, (Eq.symm ((by rw [fx_hire]; (try rw [if_neg hz_2]); (try rw [← hq_r_3]); (try rw [xL_eq]); (try rw [if_neg c_4]); (try rw [if_neg c_5]); (try rw [if_neg c_6]); (try rw [if_pos c_7]); try rfl))), ht⟩) (fun _ h => by cases h) dX11_hire_67
          · refine lv_iload hx hb dX11_hire_41 (lv_at hl 5 rfl) ?_
            refine lv_ldc (v := 99999) hx hb hown (htw _ (ck_48 _ (List.mem_of_getElem? (i := 8) rfl))) dX11_hire_43 ?_
            refine lv_icmp_gt (tgt := 64) hx hb dX11_hire_45 (by decide) (fun c_8 => ?_) (fun c_8 => ?_)
            · refine lv_ldc2 (v := (-1)) hx hb hown (htw _ (ck_34 _ (List.mem_of_getElem? (i := 14) rfl))) dX11_hire_64 ?_
              exact W.lret (v := (-1)) hx hb hr (fun t ht hW => ⟨(-1), rfl, (Eq.symm ((by rw [fx_hire]; (try rw [if_neg hz_2]); (try rw [← hq_r_3]); (try rw [xL_eq]); (try rw [if_neg c_4]); (try rw [if_neg c_5]); (try rw [if_neg c_6]); (try rw [if_neg c_7]); (try rw [if_pos c_8]); try rfl))), ht⟩) (fun _ h => by cases h) dX11_hire_67
            · refine lv_lload_n hx hb dX11_hire_48 rfl (lv_at hl 3 rfl) ?_
              refine lv_iload hx hb dX11_hire_49 (lv_at hl 4 rfl) ?_
              refine lv_i2l (v := a2.toInt64) hx hb dX11_hire_51 rfl ?_
              refine lv_ladd hx hb dX11_hire_52 ?_
              refine lv_iload hx hb dX11_hire_53 (lv_at hl 5 rfl) ?_
              refine lv_i2l (v := a3.toInt64) hx hb dX11_hire_55 rfl ?_
              refine lv_ladd hx hb dX11_hire_56 ?_
              refine lv_ldc2 (v := 1000000000000) hx hb hown (htw _ (ck_35 _ (List.mem_of_getElem? (i := 14) rfl))) dX11_hire_57 ?_
              refine W.lcmp hx hb dX11_hire_60 ?_
              refine lv_if_le (tgt := 68) hx hb dX11_hire_61 (by decide) (fun c_9 => ?_) (fun c_9 => ?_)
              · refine lv_lload_n hx hb dX11_hire_68 rfl (lv_at hl 3 rfl) ?_
                refine lv_lstore (lv' := [(7, .long a1), (6, .ref (La a0.toNatClampNeg)), (0, .ref x), (1, .int a0), (2, .long a1), (4, .int a2), (5, .int a3)]) hx hb dX11_hire_69 hl (by decide) rfl (fun ls hl => ?_)
                refine lv_ldc2 (v := (-1)) hx hb hown (htw _ (ck_34 _ (List.mem_of_getElem? (i := 14) rfl))) dX11_hire_71 ?_
                refine lv_lstore (lv' := [(9, .long (-1)), (7, .long a1), (6, .ref (La a0.toNatClampNeg)), (0, .ref x), (1, .int a0), (2, .long a1), (4, .int a2), (5, .int a3)]) hx hb dX11_hire_74 hl (by decide) rfl (fun ls hl => ?_)
                refine lv_iconst (v := 0) hx hb dX11_hire_76 (by decide) ?_
                refine lv_istore (lv' := [(11, .int 0), (9, .long (-1)), (7, .long a1), (6, .ref (La a0.toNatClampNeg)), (0, .ref x), (1, .int a0), (2, .long a1), (4, .int a2), (5, .int a3)]) hx hb dX11_hire_77 hl (by decide) rfl (fun ls hl => ?_)
                have hloop_10 : ∀ (n : Nat) (L7d : Int64) (L9d : Int64) (L11d : Int32) (h0_d : ¬ L11d < 0) (hf_d : a2.toInt < L11d.toInt + (n : Int)) (hI_d : fx_hire fTo FI GR FR a0 a1 a2 a3 = fx_hire_d FI GR FR a0 a1 a2 a3 n L7d L9d L11d) (ls : Array Slot) (hl : lv_has ls 14 [(11, .int L11d), (9, .long L9d), (7, .long L7d), (6, .ref (La a0.toNatClampNeg)), (0, .ref x), (1, .int a0), (2, .long a1), (4, .int a2), (5, .int a3)]), W p l e (headSpec (Cond.code yX11_hire cX11_hire 14 (some .long) :: wsL_law) ({ frames := 4, cells := 0, slots := 0, locals := 96 })).room s m ([.ref x, .int a0, .long a1, .int a2, .int a3] : List Value).toArray below meth c s.heap [] 0 0 (MQ below (vp_Sl (fun r => r = fx_hire fTo FI GR FR a0 a1 a2 a3)) ([.ref x, .int a0, .long a1, .int a2, .int a3] : List Value).toArray s 0 0 (fun _ => False)) (F0 m 79 ls []) := by
                  intro n
                  induction n with
                  | zero =>
                    intro L7d L9d L11d h0_d hf_d hI_d ls hl
                    refine lv_iload hx hb dX11_hire_79 (lv_at hl 0 rfl) ?_
                    refine lv_iload hx hb dX11_hire_81 (lv_at hl 7 rfl) ?_
                    refine lv_icmp_gt (tgt := 138) hx hb dX11_hire_83 (by decide) (fun c_11 => ?_) (fun c_11 => absurd c_11 (fun h => h (xi_zlt hf_d)))
                    refine lv_lload hx hb dX11_hire_138 (lv_at hl 2 rfl) ?_
                    exact W.lret (v := L7d) hx hb hr (fun t ht hW => ⟨L7d, rfl, (Eq.symm (hI_d.trans (by rw [fx_hire_d]; try rfl))), ht⟩) (fun _ h => by cases h) dX11_hire_140
                  | succ n ih =>
                    intro L7d L9d L11d h0_d hf_d hI_d ls hl
                    refine lv_iload hx hb dX11_hire_79 (lv_at hl 0 rfl) ?_
                    refine lv_iload hx hb dX11_hire_81 (lv_at hl 7 rfl) ?_
                    refine lv_icmp_gt (tgt := 138) hx hb dX11_hire_83 (by decide) (fun c_12 => ?_) (fun c_12 => ?_)
                    · refine lv_lload hx hb dX11_hire_138 (lv_at hl 2 rfl) ?_
                      exact W.lret (v := L7d) hx hb hr (fun t ht hW => ⟨L7d, rfl, (Eq.symm (hI_d.trans (by rw [fx_hire_d]; (try rw [if_pos c_12]); try rfl))), ht⟩) (fun _ h => by cases h) dX11_hire_140
                    · refine lv_aload hx hb dX11_hire_86 (lv_at hl 3 rfl) ?_
                      refine lv_lload_n hx hb dX11_hire_88 rfl (lv_at hl 6 rfl) ?_
                      refine lv_iload hx hb dX11_hire_89 (lv_at hl 0 rfl) ?_
                      refine lv_i2l (v := L11d.toInt64) hx hb dX11_hire_91 rfl ?_
                      refine lv_ladd hx hb dX11_hire_92 ?_
                      refine lv_iload hx hb dX11_hire_93 (lv_at hl 8 rfl) ?_
                      refine lv_i2l (v := a3.toInt64) hx hb dX11_hire_95 rfl ?_
                      refine lv_ladd hx hb dX11_hire_96 ?_
                      have hPc := hP.sub (ws' := [((La a0.toNatClampNeg), .inr (1, [.int (FI a0.toNatClampNeg), .int (GR a0.toNatClampNeg), .int (FR a0.toNatClampNeg)]))]) [8] rfl
                      have hKc := hK.sub (tys' := []) [] rfl
                      refine vp_callSl (W.runV (As := [.long ((a1 + L11d.toInt64) + a3.toInt64)]) (rest := []) ⟨hx, hb, hml, hown, htw⟩ (gl_endedBy l dC dI (La a0.toNatClampNeg) (FI a0.toNatClampNeg) (GR a0.toNatClampNeg) (FR a0.toNatClampNeg) ((a1 + L11d.toInt64) + a3.toInt64)) (cwV 1 htw (xg_V (ck_49 _ (List.mem_of_getElem? (i := 20) rfl)) (ck_49 _ (List.mem_of_getElem? (i := 21) rfl)) (ck_49 _ (List.mem_of_getElem? (i := 22) rfl)) (ck_6 _ (List.mem_of_getElem? (i := 19) rfl)) (ck_49 _ (List.mem_of_getElem? (i := 23) rfl))) rfl rfl rfl (by exact ⟨rfl, hdc_0.1, hdc_0.2, hdd_0⟩) ⟨Nat.le_of_ble_eq_true rfl, Nat.le_of_ble_eq_true rfl⟩) ⟨fun a U g mk q => by obtain ⟨q0, qP, qK, qx⟩ := q; exact ⟨q0, qP, va_K.moved (u := U) (U := U.calling g mk a) (Vm.Alike.refl U.vm) qK, xN.calling qx⟩, va_recv hKc hPc (ci := 1) (q0 := 0) rfl rfl, fun U hU hW => ⟨rfl, by rw [hU]; exact hPc, va_K.moved hW.alike hKc, xN.warm hW hNx⟩⟩ rfl rfl hl.1 rfl (lv_room (Nat.le_of_ble_eq_true rfl)) dX11_hire_97 ⟨Nat.le_of_ble_eq_true rfl, Nat.le_of_ble_eq_true rfl⟩) (fun r_13 hw => ?_)
                      try dsimp only at hw
                      have hq_r_13 : r_13 = fl_endedBy (FI a0.toNatClampNeg) (GR a0.toNatClampNeg) (FR a0.toNatClampNeg) ((a1 + L11d.toInt64) + a3.toInt64) := hw
                      refine lv_aload hx hb dX11_hire_100 (lv_at hl 3 rfl) ?_
                      refine lv_lload_n hx hb dX11_hire_102 rfl (lv_at hl 6 rfl) ?_
                      refine lv_iload hx hb dX11_hire_103 (lv_at hl 0 rfl) ?_
                      refine lv_i2l (v := L11d.toInt64) hx hb dX11_hire_105 rfl ?_
                      refine lv_ladd hx hb dX11_hire_106 ?_
                      have hPc := hP.sub (ws' := [((La a0.toNatClampNeg), .inr (1, [.int (FI a0.toNatClampNeg), .int (GR a0.toNatClampNeg), .int (FR a0.toNatClampNeg)]))]) [8] rfl
                      have hKc := hK.sub (tys' := []) [] rfl
                      refine vp_callSl (W.runV (As := [.long (a1 + L11d.toInt64)]) (rest := [.long r_13]) ⟨hx, hb, hml, hown, htw⟩ (gl_endedBy l dC dI (La a0.toNatClampNeg) (FI a0.toNatClampNeg) (GR a0.toNatClampNeg) (FR a0.toNatClampNeg) (a1 + L11d.toInt64)) (cwV 1 htw (xg_V (ck_49 _ (List.mem_of_getElem? (i := 20) rfl)) (ck_49 _ (List.mem_of_getElem? (i := 21) rfl)) (ck_49 _ (List.mem_of_getElem? (i := 22) rfl)) (ck_6 _ (List.mem_of_getElem? (i := 19) rfl)) (ck_49 _ (List.mem_of_getElem? (i := 23) rfl))) rfl rfl rfl (by exact ⟨rfl, hdc_0.1, hdc_0.2, hdd_0⟩) ⟨Nat.le_of_ble_eq_true rfl, Nat.le_of_ble_eq_true rfl⟩) ⟨fun a U g mk q => by obtain ⟨q0, qP, qK, qx⟩ := q; exact ⟨q0, qP, va_K.moved (u := U) (U := U.calling g mk a) (Vm.Alike.refl U.vm) qK, xN.calling qx⟩, va_recv hKc hPc (ci := 1) (q0 := 0) rfl rfl, fun U hU hW => ⟨rfl, by rw [hU]; exact hPc, va_K.moved hW.alike hKc, xN.warm hW hNx⟩⟩ rfl rfl hl.1 rfl (lv_room (Nat.le_of_ble_eq_true rfl)) dX11_hire_107 ⟨Nat.le_of_ble_eq_true rfl, Nat.le_of_ble_eq_true rfl⟩) (fun r_14 hw => ?_)
                      try dsimp only at hw
                      have hq_r_14 : r_14 = fl_endedBy (FI a0.toNatClampNeg) (GR a0.toNatClampNeg) (FR a0.toNatClampNeg) (a1 + L11d.toInt64) := hw
                      refine lv_lsub hx hb dX11_hire_110 ?_
                      refine lv_lstore (lv' := [(12, .long (r_13 - r_14)), (11, .int L11d), (9, .long L9d), (7, .long L7d), (6, .ref (La a0.toNatClampNeg)), (0, .ref x), (1, .int a0), (2, .long a1), (4, .int a2), (5, .int a3)]) hx hb dX11_hire_111 hl (by decide) rfl (fun ls hl => ?_)
                      refine lv_lload hx hb dX11_hire_113 (lv_at hl 0 rfl) ?_
                      refine lv_lload hx hb dX11_hire_115 (lv_at hl 2 rfl) ?_
                      refine W.lcmp hx hb dX11_hire_117 ?_
                      refine lv_if_le (tgt := 132) hx hb dX11_hire_118 (by decide) (fun c_15 => ?_) (fun c_15 => ?_)
                      · refine lv_iinc (v := (L11d + 1)) (lv' := [(11, .int (L11d + 1)), (12, .long (r_13 - r_14)), (9, .long L9d), (7, .long L7d), (6, .ref (La a0.toNatClampNeg)), (0, .ref x), (1, .int a0), (2, .long a1), (4, .int a2), (5, .int a3)]) hx hb dX11_hire_132 hl (k := 1) rfl (rfl) (by decide) rfl (fun ls hl => ?_)
                        refine lv_goto (tgt := 79) hx hb dX11_hire_135 (by decide) ?_
                        exact ih L7d L9d (L11d + 1) (gx_hire_s0 (y0 := L11d) (y1 := a2) c_5 c_6 c_12 h0_d) (by rw [xi_sle c_12 (gx_hire_s1 (y0 := a2) (y1 := L11d) c_5 c_6 c_12 h0_d)]; omega) (hI_d.trans (by rw [fx_hire_d]; (try rw [if_neg c_12]); (try rw [← hq_r_13]); (try rw [xL_eq]); (try rw [← hq_r_14]); (try rw [xL_eq]); (try rw [if_pos c_15]); try rfl)) ls (lv_sub hl [0, 2, 3, 4, 5, 6, 7, 8, 9] rfl)
                      · refine lv_lload hx hb dX11_hire_121 (lv_at hl 0 rfl) ?_
                        refine lv_lstore (lv' := [(9, .long (r_13 - r_14)), (12, .long (r_13 - r_14)), (11, .int L11d), (7, .long L7d), (6, .ref (La a0.toNatClampNeg)), (0, .ref x), (1, .int a0), (2, .long a1), (4, .int a2), (5, .int a3)]) hx hb dX11_hire_123 hl (by decide) rfl (fun ls hl => ?_)
                        refine lv_lload_n hx hb dX11_hire_125 rfl (lv_at hl 7 rfl) ?_
                        refine lv_iload hx hb dX11_hire_126 (lv_at hl 2 rfl) ?_
                        refine lv_i2l (v := L11d.toInt64) hx hb dX11_hire_128 rfl ?_
                        refine lv_ladd hx hb dX11_hire_129 ?_
                        refine lv_lstore (lv' := [(7, .long (a1 + L11d.toInt64)), (9, .long (r_13 - r_14)), (12, .long (r_13 - r_14)), (11, .int L11d), (6, .ref (La a0.toNatClampNeg)), (0, .ref x), (1, .int a0), (2, .long a1), (4, .int a2), (5, .int a3)]) hx hb dX11_hire_130 hl (by decide) rfl (fun ls hl => ?_)
                        refine lv_iinc (v := (L11d + 1)) (lv' := [(11, .int (L11d + 1)), (7, .long (a1 + L11d.toInt64)), (9, .long (r_13 - r_14)), (12, .long (r_13 - r_14)), (6, .ref (La a0.toNatClampNeg)), (0, .ref x), (1, .int a0), (2, .long a1), (4, .int a2), (5, .int a3)]) hx hb dX11_hire_132 hl (k := 3) rfl (rfl) (by decide) rfl (fun ls hl => ?_)
                        refine lv_goto (tgt := 79) hx hb dX11_hire_135 (by decide) ?_
                        exact ih (a1 + L11d.toInt64) (r_13 - r_14) (L11d + 1) (gx_hire_s2 (y0 := L11d) (y1 := a2) c_5 c_6 c_12 h0_d) (by rw [xi_sle c_12 (gx_hire_s3 (y0 := a2) (y1 := L11d) c_5 c_6 c_12 h0_d)]; omega) (hI_d.trans (by rw [fx_hire_d]; (try rw [if_neg c_12]); (try rw [← hq_r_13]); (try rw [xL_eq]); (try rw [← hq_r_14]); (try rw [xL_eq]); (try rw [if_neg c_15]); try rfl)) ls (lv_sub hl [0, 2, 1, 4, 5, 6, 7, 8, 9] rfl)
                exact hloop_10 1000 a1 (-1 : Int64) (0 : Int32) (gx_hire_s4 ) (by have h9 := xi_le (Int32.not_lt.mp c_6); have e9 : (999 : Int32).toInt = 999 := rfl; have e0 : (0 : Int32).toInt = 0 := rfl; omega) ((by rw [fx_hire]; (try rw [if_neg hz_2]); (try rw [← hq_r_3]); (try rw [xL_eq]); (try rw [if_neg c_4]); (try rw [if_neg c_5]); (try rw [if_neg c_6]); (try rw [if_neg c_7]); (try rw [if_neg c_8]); (try rw [if_pos c_9]); try rfl)) ls (lv_sub hl [0, 1, 2, 3, 4, 5, 6, 7, 8] rfl)
              · refine lv_ldc2 (v := (-1)) hx hb hown (htw _ (ck_34 _ (List.mem_of_getElem? (i := 14) rfl))) dX11_hire_64 ?_
                exact W.lret (v := (-1)) hx hb hr (fun t ht hW => ⟨(-1), rfl, (Eq.symm ((by rw [fx_hire]; (try rw [if_neg hz_2]); (try rw [← hq_r_3]); (try rw [xL_eq]); (try rw [if_neg c_4]); (try rw [if_neg c_5]); (try rw [if_neg c_6]); (try rw [if_neg c_7]); (try rw [if_neg c_8]); (try rw [if_neg c_9]); try rfl))), ht⟩) (fun _ h => by cases h) dX11_hire_67

def fx_parts_d (a2 : Int32) : Nat → (Int64) → (Int32) → (Int32) → (Int32) → Int32
  | 0, L5d, L7d, L8d, L9d => (if a2 = 0 then L7d else L8d)
  | n + 1, L5d, L7d, L8d, L9d => (if 99 < L9d then (if a2 = 0 then L7d else L8d) else (if lg_cmp (L5d - L5d / L9d.toInt64 * L9d.toInt64) 0 = 0 then fx_parts_d a2 n L5d (L7d + 1) L9d (L9d + 1) else fx_parts_d a2 n L5d L7d L8d (L9d + 1)))
def fx_parts (fTo : Nat → Int32) (FI : Nat → Int32) (GR : Nat → Int32) (FR : Nat → Int32) (a0 : Int32) (a1 : Int32) (a2 : Int32) : Int32 := (if fb_landIs fTo a0 = 0 then (-1 : Int32) else (xL (fl_canBeAsked (FI a0.toNatClampNeg) (GR a0.toNatClampNeg) (FR a0.toNatClampNeg) a1.toInt64) (fun r_3 => (if r_3 = 0 then (-1 : Int32) else (if a2 < 0 then (-1 : Int32) else (if a2 ≤ 1 then (xL (fl_lengthOf (FI a0.toNatClampNeg) (GR a0.toNatClampNeg) (FR a0.toNatClampNeg) a1.toInt64) (fun r_7 => fx_parts_d a2 99 r_7 (0 : Int32) (0 : Int32) (1 : Int32))) else (-1 : Int32)))))))
theorem gx_parts_s0 {y0 : Int32} (h0 : ¬ (99 < y0)) (h1 : ¬ (y0 < 1)) : ¬ (y0 = 0) := by lia
theorem gx_parts_s1 {y0 : Int32} (h0 : ¬ (99 < y0)) (h1 : ¬ (y0 < 1)) : ¬ ((y0 + 1) < 1) := by lia
theorem gx_parts_s2 {y0 : Int32} (h0 : ¬ (99 < y0)) (h1 : ¬ (y0 < 1)) : ¬ ((y0 + 1) < 1) := by lia
theorem gx_parts_s3  : ¬ ((1 : Int32) < 1) := (by decide)
theorem dX11_parts_0 : decode cX11_parts 0 = .ok (.aload_n 0, 1) := zk_42 (by decide +kernel)
theorem dX11_parts_1 : decode cX11_parts 1 = .ok (.getfield 19, 3) := zk_180 (by decide +kernel)
theorem dX11_parts_4 : decode cX11_parts 4 = .ok (.iload_n 1, 1) := zk_27 (by decide +kernel)
theorem dX11_parts_5 : decode cX11_parts 5 = .ok (.invokevirtual 112, 3) := zk_182 (by decide +kernel)
theorem dX11_parts_8 : decode cX11_parts 8 = .ok (.astore 4, 2) := zk_58 (by decide +kernel)
theorem dX11_parts_10 : decode cX11_parts 10 = .ok (.aload 4, 2) := zk_25 (by decide +kernel)
theorem dX11_parts_12 : decode cX11_parts 12 = .ok (.ifnull 22, 3) := zk_198 (by decide +kernel)
theorem dX11_parts_34 : decode cX11_parts 34 = .ok (.iconst (-1), 1) := zk_2 (by decide +kernel)
theorem dX11_parts_35 : decode cX11_parts 35 = .ok (.ireturn, 1) := zk_172 (by decide +kernel)
theorem dX11_parts_15 : decode cX11_parts 15 = .ok (.aload 4, 2) := zk_25 (by decide +kernel)
theorem dX11_parts_17 : decode cX11_parts 17 = .ok (.iload_n 2, 1) := zk_28 (by decide +kernel)
theorem dX11_parts_18 : decode cX11_parts 18 = .ok (.i2l, 1) := zk_133 (by decide +kernel)
theorem dX11_parts_19 : decode cX11_parts 19 = .ok (.invokevirtual 139, 3) := zk_182 (by decide +kernel)
theorem dX11_parts_22 : decode cX11_parts 22 = .ok (.ifCond .eq 12, 3) := zk_153 (by decide +kernel)
theorem dX11_parts_25 : decode cX11_parts 25 = .ok (.iload_n 3, 1) := zk_29 (by decide +kernel)
theorem dX11_parts_26 : decode cX11_parts 26 = .ok (.ifCond .lt 8, 3) := zk_155 (by decide +kernel)
theorem dX11_parts_29 : decode cX11_parts 29 = .ok (.iload_n 3, 1) := zk_29 (by decide +kernel)
theorem dX11_parts_30 : decode cX11_parts 30 = .ok (.iconst 1, 1) := zk_4 (by decide +kernel)
theorem dX11_parts_31 : decode cX11_parts 31 = .ok (.if_icmp .le 5, 3) := zk_164 (by decide +kernel)
theorem dX11_parts_36 : decode cX11_parts 36 = .ok (.aload 4, 2) := zk_25 (by decide +kernel)
theorem dX11_parts_38 : decode cX11_parts 38 = .ok (.iload_n 2, 1) := zk_28 (by decide +kernel)
theorem dX11_parts_39 : decode cX11_parts 39 = .ok (.i2l, 1) := zk_133 (by decide +kernel)
theorem dX11_parts_40 : decode cX11_parts 40 = .ok (.invokevirtual 145, 3) := zk_182 (by decide +kernel)
theorem dX11_parts_43 : decode cX11_parts 43 = .ok (.lstore 5, 2) := zk_55 (by decide +kernel)
theorem dX11_parts_45 : decode cX11_parts 45 = .ok (.iconst 0, 1) := zk_3 (by decide +kernel)
theorem dX11_parts_46 : decode cX11_parts 46 = .ok (.istore 7, 2) := zk_54 (by decide +kernel)
theorem dX11_parts_48 : decode cX11_parts 48 = .ok (.iconst 0, 1) := zk_3 (by decide +kernel)
theorem dX11_parts_49 : decode cX11_parts 49 = .ok (.istore 8, 2) := zk_54 (by decide +kernel)
theorem dX11_parts_51 : decode cX11_parts 51 = .ok (.iconst 1, 1) := zk_4 (by decide +kernel)
theorem dX11_parts_52 : decode cX11_parts 52 = .ok (.istore 9, 2) := zk_54 (by decide +kernel)
theorem dX11_parts_54 : decode cX11_parts 54 = .ok (.iload 9, 2) := zk_21 (by decide +kernel)
theorem dX11_parts_56 : decode cX11_parts 56 = .ok (.bipush 99, 2) := zk_16 (by decide +kernel)
theorem dX11_parts_58 : decode cX11_parts 58 = .ok (.if_icmp .gt 27, 3) := zk_163 (by decide +kernel)
theorem dX11_parts_85 : decode cX11_parts 85 = .ok (.iload_n 3, 1) := zk_29 (by decide +kernel)
theorem dX11_parts_86 : decode cX11_parts 86 = .ok (.ifCond .ne 8, 3) := zk_154 (by decide +kernel)
theorem dX11_parts_94 : decode cX11_parts 94 = .ok (.iload 8, 2) := zk_21 (by decide +kernel)
theorem dX11_parts_96 : decode cX11_parts 96 = .ok (.ireturn, 1) := zk_172 (by decide +kernel)
theorem dX11_parts_89 : decode cX11_parts 89 = .ok (.iload 7, 2) := zk_21 (by decide +kernel)
theorem dX11_parts_91 : decode cX11_parts 91 = .ok (.goto 5, 3) := zk_167 (by decide +kernel)
theorem dX11_parts_61 : decode cX11_parts 61 = .ok (.lload 5, 2) := zk_22 (by decide +kernel)
theorem dX11_parts_63 : decode cX11_parts 63 = .ok (.iload 9, 2) := zk_21 (by decide +kernel)
theorem dX11_parts_65 : decode cX11_parts 65 = .ok (.i2l, 1) := zk_133 (by decide +kernel)
theorem dX11_parts_66 : decode cX11_parts 66 = .ok (.lrem, 1) := zk_113 (by decide +kernel)
theorem dX11_parts_67 : decode cX11_parts 67 = .ok (.lconst 0, 1) := zk_9 (by decide +kernel)
theorem dX11_parts_68 : decode cX11_parts 68 = .ok (.lcmp, 1) := zk_148 (by decide +kernel)
theorem dX11_parts_69 : decode cX11_parts 69 = .ok (.ifCond .ne 10, 3) := zk_154 (by decide +kernel)
theorem dX11_parts_79 : decode cX11_parts 79 = .ok (.iinc 9 1, 3) := zk_132 (by decide +kernel)
theorem dX11_parts_82 : decode cX11_parts 82 = .ok (.goto (-28), 3) := zk_167 (by decide +kernel)
theorem dX11_parts_72 : decode cX11_parts 72 = .ok (.iinc 7 1, 3) := zk_132 (by decide +kernel)
theorem dX11_parts_75 : decode cX11_parts 75 = .ok (.iload 9, 2) := zk_21 (by decide +kernel)
theorem dX11_parts_77 : decode cX11_parts 77 = .ok (.istore 8, 2) := zk_54 (by decide +kernel)
set_option maxHeartbeats 4000000 in
set_option maxRecDepth 100000 in
theorem gx_parts (l : Launch) (dC : Nat → ClassId) (dI : Nat → Nat → Nat) (x : Nat) (pa : Nat) (bk : Nat) (xsp : Nat) (xdy : Nat) (le : Nat) (xst : Nat) (xsc : Int32) (xim : Nat) (xil : Nat) (xik : Int32) (xmo : Nat) (xom : Nat) (wi : Nat) (bto : Nat) (bnm : Nat) (bla : Nat) (bsk : Nat) (bru : Nat) (bbo : Nat) (bdi : Nat) (bda : Nat) (bdk : Nat) (bdt : Nat) (bdp : Nat) (bno : Nat) (cTo : ClassId) (fTo : Nat → Int32) (cLa : ClassId) (La : Nat → Nat) (FI : Nat → Int32) (GR : Nat → Int32) (FR : Nat → Int32) (a0 : Int32) (a1 : Int32) (a2 : Int32) : Met l yX11_parts (Cond.code yX11_parts cX11_parts 10 (some .int) :: wsL_law) ({ frames := 3, cells := 0, slots := 0, locals := 66 }) (va_Pc [.ref x, .int a0, .int a1, .int a2] (fun U => va_P (dC, dI) vwCl [(eO11a x pa bk xsp xdy le xst xsc xim xil xik xmo xom wi), (eO0a bk bto bnm bla bsk bru bbo bdi bda bdk bdt bdp bno), (eA0 bto cTo 5 fTo), (eA4 bla cLa 4 (fun k => some (La k))), (eO1a (La 0) (FI 0) (GR 0) (FR 0)), (eO1a (La 1) (FI 1) (GR 1) (FR 1)), (eO1a (La 2) (FI 2) (GR 2) (FR 2)), (eO1a (La 3) (FI 3) (GR 3) (FR 3))] U.heap ∧ va_K (dC, dI) vwCl [(cTo, .int), (cLa, .object RX1)] U)) (vp_Si (fun r => r = fx_parts fTo FI GR FR a0 a1 a2)) 0 0 (fun _ => False) := by
  refine Met.ofW (cc := cX11_parts) (maxL := 10) (ret := (some .int)) (by decide) rfl ?_
  intro p e s m args below meth c s₁ B hml hv
  obtain ⟨rfl, hP, hK⟩ := hv
  have hx := B.exec
  have hb := B.bytes
  have hr := B.returns
  have hts := atoms_spec (ws := Cond.code yX11_parts cX11_parts 10 (some .int) :: wsL_law) B.pre
  have htw : ∀ w ∈ wsL_law, w.before _ s = true := fun w h => hts w (List.mem_cons_of_mem _ h)
  have hown : s.vm.findClass RX11 = some m.cls := findClass_of_methodNamed B.named
  have hlocks := B.notSynchronized
  have hl := lv_entry ([.ref x, .int a0, .int a1, .int a2]) (n := 10) (Nat.le_of_ble_eq_true rfl)
  rw [lg_entry_eq]
  generalize (lg_sl ([.ref x, .int a0, .int a1, .int a2]) ++ List.replicate (10 - (lg_sl ([.ref x, .int a0, .int a1, .int a2])).length) Slot.unset).toArray = ls at hl ⊢
  have hl : lv_has ls 10 [(0, .ref x), (1, .int a0), (2, .int a1), (3, .int a2)] := hl
  refine lv_aload_n hx hb dX11_parts_0 rfl (lv_at hl 0 rfl) ?_
  refine va_get (D := (dC, dI)) (ci := 11) (v := .ref bk) (C := RX11) (T := TX11) (N := 13) hx hb htw inlX11 hown hK hP 0 rfl rfl 1 (by decide) (htw _ (ck_1 _ (List.mem_of_getElem? (i := 21) rfl))) (fun _ h9 => h9) rfl dX11_parts_1 ?_
  refine lv_iload_n hx hb dX11_parts_4 rfl (lv_at hl 1 rfl) ?_
  have hPc := hP.sub (ws' := [(eO0a bk bto bnm bla bsk bru bbo bdi bda bdk bdt bdp bno), (eA0 bto cTo 5 fTo), (eA4 bla cLa 4 (fun k => some (La k)))]) [1, 2, 3] rfl
  have hKc := hK.sub (tys' := [(cTo, .int), (cLa, .object RX1)]) [0, 1] rfl
  refine va_csq (W.runV (As := [.int a0]) (rest := []) ⟨hx, hb, hml, hown, htw⟩ (gb_landAt l dC dI bk bto bnm bla bsk bru bbo bdi bda bdk bdt bdp bno cTo fTo cLa La a0) (cwV 1 htw (xg_V (ck_33 _ (List.mem_of_getElem? (i := 21) rfl)) (ck_20 _ (List.mem_of_getElem? (i := 22) rfl)) (ck_20 _ (List.mem_of_getElem? (i := 23) rfl)) (ck_1 _ (List.mem_of_getElem? (i := 20) rfl)) (ck_21 _ (List.mem_of_getElem? (i := 0) rfl))) rfl rfl rfl (by exact ⟨rfl, hdc_6.1, hdc_6.2, hdd_15⟩) ⟨Nat.le_of_ble_eq_true rfl, Nat.le_of_ble_eq_true rfl⟩) ⟨fun a U g mk q => by obtain ⟨q0, qP, qK⟩ := q; exact ⟨q0, qP, va_K.moved (u := U) (U := U.calling g mk a) (Vm.Alike.refl U.vm) qK⟩, va_recv hKc hPc (ci := 0) (q0 := 0) rfl rfl, fun U hU hW => ⟨rfl, by rw [hU]; exact hPc, va_K.moved hW.alike hKc⟩⟩ rfl rfl hl.1 rfl (lv_room (Nat.le_of_ble_eq_true rfl)) dX11_parts_5 ⟨Nat.le_of_ble_eq_true rfl, Nat.le_of_ble_eq_true rfl⟩) (fun r_1 hw => ?_)
  try dsimp only at hw
  by_cases hz_2 : fb_landIs fTo a0 = 0
  · obtain rfl : r_1 = none := by rw [hw, if_pos hz_2]
    refine W.eq (g2 := F0 m 8 ls [.null]) rfl ?_
    refine lv_astoreN (lv' := [(4, .null), (0, .ref x), (1, .int a0), (2, .int a1), (3, .int a2)]) hx hb dX11_parts_8 hl (by decide) rfl (fun ls hl => ?_)
    refine lv_aloadN hx hb dX11_parts_10 (lv_at hl 0 rfl) ?_
    refine lv_ifnullN (tgt := 34) hx hb dX11_parts_12 (by decide) ?_
    refine lv_iconst (v := (-1)) hx hb dX11_parts_34 (by decide) ?_
    exact W.iret (v := (-1)) hx hb hr (fun t ht hW => ⟨(-1), rfl, (Eq.symm ((by rw [fx_parts]; (try rw [if_pos hz_2]); try rfl))), ht⟩) (fun _ h => by cases h) dX11_parts_35
  · obtain rfl : r_1 = some (La a0.toNatClampNeg) := by rw [hw, if_neg hz_2]
    have hP : va_P (dC, dI) vwCl [(eO11a x pa bk xsp xdy le xst xsc xim xil xik xmo xom wi), (eO0a bk bto bnm bla bsk bru bbo bdi bda bdk bdt bdp bno), (eA0 bto cTo 5 fTo), (eA4 bla cLa 4 (fun k => some (La k))), (eO1a (La 0) (FI 0) (GR 0) (FR 0)), (eO1a (La 1) (FI 1) (GR 1) (FR 1)), (eO1a (La 2) (FI 2) (GR 2) (FR 2)), (eO1a (La 3) (FI 3) (GR 3) (FR 3)), ((La a0.toNatClampNeg), .inr (1, [.int (FI a0.toNatClampNeg), .int (GR a0.toNatClampNeg), .int (FR a0.toNatClampNeg)]))] s.heap := xb_P4 hP (fun k => (La k, .inr (1, [.int (FI k), .int (GR k), .int (FR k)]))) 4 rfl rfl rfl rfl (i := a0) (xg_inr (N := 4) rfl (fb_landIn hz_2).1 (fb_landIn hz_2).2)
    refine W.eq (g2 := F0 m 8 ls [.ref (La a0.toNatClampNeg)]) rfl ?_
    refine lv_astore (lv' := [(4, .ref (La a0.toNatClampNeg)), (0, .ref x), (1, .int a0), (2, .int a1), (3, .int a2)]) hx hb dX11_parts_8 hl (by decide) rfl (fun ls hl => ?_)
    refine lv_aload hx hb dX11_parts_10 (lv_at hl 0 rfl) ?_
    refine lv_ifnull hx hb dX11_parts_12 ?_
    refine lv_aload hx hb dX11_parts_15 (lv_at hl 0 rfl) ?_
    refine lv_iload_n hx hb dX11_parts_17 rfl (lv_at hl 3 rfl) ?_
    refine lv_i2l (v := a1.toInt64) hx hb dX11_parts_18 rfl ?_
    have hPc := hP.sub (ws' := [((La a0.toNatClampNeg), .inr (1, [.int (FI a0.toNatClampNeg), .int (GR a0.toNatClampNeg), .int (FR a0.toNatClampNeg)]))]) [8] rfl
    have hKc := hK.sub (tys' := []) [] rfl
    refine vp_callSi (W.runV (As := [.long a1.toInt64]) (rest := []) ⟨hx, hb, hml, hown, htw⟩ (gl_canBeAsked l dC dI (La a0.toNatClampNeg) (FI a0.toNatClampNeg) (GR a0.toNatClampNeg) (FR a0.toNatClampNeg) a1.toInt64) (cwV 1 htw (xg_V (ck_34 _ (List.mem_of_getElem? (i := 15) rfl)) (ck_34 _ (List.mem_of_getElem? (i := 16) rfl)) (ck_34 _ (List.mem_of_getElem? (i := 17) rfl)) (ck_6 _ (List.mem_of_getElem? (i := 19) rfl)) (ck_34 _ (List.mem_of_getElem? (i := 18) rfl))) rfl rfl rfl (by exact ⟨rfl, hdc_0.1, hdc_0.2, hdd_1⟩) ⟨Nat.le_of_ble_eq_true rfl, Nat.le_of_ble_eq_true rfl⟩) ⟨fun a U g mk q => by obtain ⟨q0, qP, qK⟩ := q; exact ⟨q0, qP, va_K.moved (u := U) (U := U.calling g mk a) (Vm.Alike.refl U.vm) qK⟩, va_recv hKc hPc (ci := 1) (q0 := 0) rfl rfl, fun U hU hW => ⟨rfl, by rw [hU]; exact hPc, va_K.moved hW.alike hKc⟩⟩ rfl rfl hl.1 rfl (lv_room (Nat.le_of_ble_eq_true rfl)) dX11_parts_19 ⟨Nat.le_of_ble_eq_true rfl, Nat.le_of_ble_eq_true rfl⟩) (fun r_3 hw => ?_)
    try dsimp only at hw
    have hq_r_3 : r_3 = fl_canBeAsked (FI a0.toNatClampNeg) (GR a0.toNatClampNeg) (FR a0.toNatClampNeg) a1.toInt64 := hw
    refine lv_if_eq (tgt := 34) hx hb dX11_parts_22 (by decide) (fun c_4 => ?_) (fun c_4 => ?_)
    · refine lv_iconst (v := (-1)) hx hb dX11_parts_34 (by decide) ?_
      exact W.iret (v := (-1)) hx hb hr (fun t ht hW => ⟨(-1), rfl, (Eq.symm ((by rw [fx_parts]; (try rw [if_neg hz_2]); (try rw [← hq_r_3]); (try rw [xL_eq]); (try rw [if_pos c_4]); try rfl))), ht⟩) (fun _ h => by cases h) dX11_parts_35
    · refine lv_iload_n hx hb dX11_parts_25 rfl (lv_at hl 4 rfl) ?_
      refine lv_if_lt (tgt := 34) hx hb dX11_parts_26 (by decide) (fun c_5 => ?_) (fun c_5 => ?_)
      · refine lv_iconst (v := (-1)) hx hb dX11_parts_34 (by decide) ?_
        exact W.iret (v := (-1)) hx hb hr (fun t ht hW => ⟨(-1), rfl, (Eq.symm ((by rw [fx_parts]; (try rw [if_neg hz_2]); (try rw [← hq_r_3]); (try rw [xL_eq]); (try rw [if_neg c_4]); (try rw [if_pos c_5]); try rfl))), ht⟩) (fun _ h => by cases h) dX11_parts_35
      · refine lv_iload_n hx hb dX11_parts_29 rfl (lv_at hl 4 rfl) ?_
        refine lv_iconst (v := 1) hx hb dX11_parts_30 (by decide) ?_
        refine lv_icmp_le (tgt := 36) hx hb dX11_parts_31 (by decide) (fun c_6 => ?_) (fun c_6 => ?_)
        · refine lv_aload hx hb dX11_parts_36 (lv_at hl 0 rfl) ?_
          refine lv_iload_n hx hb dX11_parts_38 rfl (lv_at hl 3 rfl) ?_
          refine lv_i2l (v := a1.toInt64) hx hb dX11_parts_39 rfl ?_
          have hPc := hP.sub (ws' := [((La a0.toNatClampNeg), .inr (1, [.int (FI a0.toNatClampNeg), .int (GR a0.toNatClampNeg), .int (FR a0.toNatClampNeg)]))]) [8] rfl
          have hKc := hK.sub (tys' := []) [] rfl
          refine vp_callSl (W.runV (As := [.long a1.toInt64]) (rest := []) ⟨hx, hb, hml, hown, htw⟩ (gl_lengthOf l dC dI (La a0.toNatClampNeg) (FI a0.toNatClampNeg) (GR a0.toNatClampNeg) (FR a0.toNatClampNeg) a1.toInt64) (cwV 1 htw (xg_V (ck_34 _ (List.mem_of_getElem? (i := 21) rfl)) (ck_21 _ (List.mem_of_getElem? (i := 10) rfl)) (ck_21 _ (List.mem_of_getElem? (i := 11) rfl)) (ck_6 _ (List.mem_of_getElem? (i := 19) rfl)) (ck_21 _ (List.mem_of_getElem? (i := 12) rfl))) rfl rfl rfl (by exact ⟨rfl, hdc_0.1, hdc_0.2, hdd_0⟩) ⟨Nat.le_of_ble_eq_true rfl, Nat.le_of_ble_eq_true rfl⟩) ⟨fun a U g mk q => by obtain ⟨q0, qP, qK⟩ := q; exact ⟨q0, qP, va_K.moved (u := U) (U := U.calling g mk a) (Vm.Alike.refl U.vm) qK⟩, va_recv hKc hPc (ci := 1) (q0 := 0) rfl rfl, fun U hU hW => ⟨rfl, by rw [hU]; exact hPc, va_K.moved hW.alike hKc⟩⟩ rfl rfl hl.1 rfl (lv_room (Nat.le_of_ble_eq_true rfl)) dX11_parts_40 ⟨Nat.le_of_ble_eq_true rfl, Nat.le_of_ble_eq_true rfl⟩) (fun r_7 hw => ?_)
          try dsimp only at hw
          have hq_r_7 : r_7 = fl_lengthOf (FI a0.toNatClampNeg) (GR a0.toNatClampNeg) (FR a0.toNatClampNeg) a1.toInt64 := hw
          refine lv_lstore (lv' := [(5, .long r_7), (4, .ref (La a0.toNatClampNeg)), (0, .ref x), (1, .int a0), (2, .int a1), (3, .int a2)]) hx hb dX11_parts_43 hl (by decide) rfl (fun ls hl => ?_)
          refine lv_iconst (v := 0) hx hb dX11_parts_45 (by decide) ?_
          refine lv_istore (lv' := [(7, .int 0), (5, .long r_7), (4, .ref (La a0.toNatClampNeg)), (0, .ref x), (1, .int a0), (2, .int a1), (3, .int a2)]) hx hb dX11_parts_46 hl (by decide) rfl (fun ls hl => ?_)
          refine lv_iconst (v := 0) hx hb dX11_parts_48 (by decide) ?_
          refine lv_istore (lv' := [(8, .int 0), (7, .int 0), (5, .long r_7), (4, .ref (La a0.toNatClampNeg)), (0, .ref x), (1, .int a0), (2, .int a1), (3, .int a2)]) hx hb dX11_parts_49 hl (by decide) rfl (fun ls hl => ?_)
          refine lv_iconst (v := 1) hx hb dX11_parts_51 (by decide) ?_
          refine lv_istore (lv' := [(9, .int 1), (8, .int 0), (7, .int 0), (5, .long r_7), (4, .ref (La a0.toNatClampNeg)), (0, .ref x), (1, .int a0), (2, .int a1), (3, .int a2)]) hx hb dX11_parts_52 hl (by decide) rfl (fun ls hl => ?_)
          have hloop_8 : ∀ (n : Nat) (L5d : Int64) (L7d : Int32) (L8d : Int32) (L9d : Int32) (h0_d : ¬ L9d < 1) (hf_d : (99 : Int32).toInt < L9d.toInt + (n : Int)) (hI_d : fx_parts fTo FI GR FR a0 a1 a2 = fx_parts_d a2 n L5d L7d L8d L9d) (ls : Array Slot) (hl : lv_has ls 10 [(9, .int L9d), (8, .int L8d), (7, .int L7d), (5, .long L5d), (4, .ref (La a0.toNatClampNeg)), (0, .ref x), (1, .int a0), (2, .int a1), (3, .int a2)]), W p l e (headSpec (Cond.code yX11_parts cX11_parts 10 (some .int) :: wsL_law) ({ frames := 3, cells := 0, slots := 0, locals := 66 })).room s m ([.ref x, .int a0, .int a1, .int a2] : List Value).toArray below meth c s.heap [] 0 0 (MQ below (vp_Si (fun r => r = fx_parts fTo FI GR FR a0 a1 a2)) ([.ref x, .int a0, .int a1, .int a2] : List Value).toArray s 0 0 (fun _ => False)) (F0 m 54 ls []) := by
            intro n
            induction n with
            | zero =>
              intro L5d L7d L8d L9d h0_d hf_d hI_d ls hl
              refine lv_iload hx hb dX11_parts_54 (lv_at hl 0 rfl) ?_
              refine lv_bipush (v := 99) hx hb dX11_parts_56 (by decide) ?_
              refine lv_icmp_gt (tgt := 85) hx hb dX11_parts_58 (by decide) (fun c_9 => ?_) (fun c_9 => absurd c_9 (fun h => h (xi_zlt hf_d)))
              refine lv_iload_n hx hb dX11_parts_85 rfl (lv_at hl 8 rfl) ?_
              refine lv_if_ne (tgt := 94) hx hb dX11_parts_86 (by decide) (fun c_10 => ?_) (fun c_10 => ?_)
              · refine lv_iload hx hb dX11_parts_94 (lv_at hl 1 rfl) ?_
                exact W.iret (v := L8d) hx hb hr (fun t ht hW => ⟨L8d, rfl, (Eq.symm (hI_d.trans (by rw [fx_parts_d]; (try rw [if_neg c_10]); try rfl))), ht⟩) (fun _ h => by cases h) dX11_parts_96
              · refine lv_iload hx hb dX11_parts_89 (lv_at hl 2 rfl) ?_
                refine lv_goto (tgt := 96) hx hb dX11_parts_91 (by decide) ?_
                exact W.iret (v := L7d) hx hb hr (fun t ht hW => ⟨L7d, rfl, (Eq.symm (hI_d.trans (by rw [fx_parts_d]; (try rw [if_pos c_10]); try rfl))), ht⟩) (fun _ h => by cases h) dX11_parts_96
            | succ n ih =>
              intro L5d L7d L8d L9d h0_d hf_d hI_d ls hl
              refine lv_iload hx hb dX11_parts_54 (lv_at hl 0 rfl) ?_
              refine lv_bipush (v := 99) hx hb dX11_parts_56 (by decide) ?_
              refine lv_icmp_gt (tgt := 85) hx hb dX11_parts_58 (by decide) (fun c_11 => ?_) (fun c_11 => ?_)
              · refine lv_iload_n hx hb dX11_parts_85 rfl (lv_at hl 8 rfl) ?_
                refine lv_if_ne (tgt := 94) hx hb dX11_parts_86 (by decide) (fun c_12 => ?_) (fun c_12 => ?_)
                · refine lv_iload hx hb dX11_parts_94 (lv_at hl 1 rfl) ?_
                  exact W.iret (v := L8d) hx hb hr (fun t ht hW => ⟨L8d, rfl, (Eq.symm (hI_d.trans (by rw [fx_parts_d]; (try rw [if_pos c_11]); (try rw [if_neg c_12]); try rfl))), ht⟩) (fun _ h => by cases h) dX11_parts_96
                · refine lv_iload hx hb dX11_parts_89 (lv_at hl 2 rfl) ?_
                  refine lv_goto (tgt := 96) hx hb dX11_parts_91 (by decide) ?_
                  exact W.iret (v := L7d) hx hb hr (fun t ht hW => ⟨L7d, rfl, (Eq.symm (hI_d.trans (by rw [fx_parts_d]; (try rw [if_pos c_11]); (try rw [if_pos c_12]); try rfl))), ht⟩) (fun _ h => by cases h) dX11_parts_96
              · refine lv_lload hx hb dX11_parts_61 (lv_at hl 3 rfl) ?_
                refine lv_iload hx hb dX11_parts_63 (lv_at hl 0 rfl) ?_
                refine lv_i2l (v := L9d.toInt64) hx hb dX11_parts_65 rfl ?_
                refine lv_lrem hx hb dX11_parts_66 (xg_nz64 (gx_parts_s0 (y0 := L9d) c_11 h0_d)) ?_
                refine lv_lconst (v := 0) hx hb dX11_parts_67 (by decide) ?_
                refine W.lcmp hx hb dX11_parts_68 ?_
                refine lv_if_ne (tgt := 79) hx hb dX11_parts_69 (by decide) (fun c_13 => ?_) (fun c_13 => ?_)
                · refine lv_iinc (v := (L9d + 1)) (lv' := [(9, .int (L9d + 1)), (8, .int L8d), (7, .int L7d), (5, .long L5d), (4, .ref (La a0.toNatClampNeg)), (0, .ref x), (1, .int a0), (2, .int a1), (3, .int a2)]) hx hb dX11_parts_79 hl (k := 0) rfl (rfl) (by decide) rfl (fun ls hl => ?_)
                  refine lv_goto (tgt := 54) hx hb dX11_parts_82 (by decide) ?_
                  exact ih L5d L7d L8d (L9d + 1) (gx_parts_s1 (y0 := L9d) c_11 h0_d) (by rw [xi_sle c_11 (by decide)]; omega) (hI_d.trans (by rw [fx_parts_d]; (try rw [if_neg c_11]); (try rw [if_neg c_13]); try rfl)) ls (lv_sub hl [0, 1, 2, 3, 4, 5, 6, 7, 8] rfl)
                · refine lv_iinc (v := (L7d + 1)) (lv' := [(7, .int (L7d + 1)), (9, .int L9d), (8, .int L8d), (5, .long L5d), (4, .ref (La a0.toNatClampNeg)), (0, .ref x), (1, .int a0), (2, .int a1), (3, .int a2)]) hx hb dX11_parts_72 hl (k := 2) rfl (rfl) (by decide) rfl (fun ls hl => ?_)
                  refine lv_iload hx hb dX11_parts_75 (lv_at hl 1 rfl) ?_
                  refine lv_istore (lv' := [(8, .int L9d), (7, .int (L7d + 1)), (9, .int L9d), (5, .long L5d), (4, .ref (La a0.toNatClampNeg)), (0, .ref x), (1, .int a0), (2, .int a1), (3, .int a2)]) hx hb dX11_parts_77 hl (by decide) rfl (fun ls hl => ?_)
                  refine lv_iinc (v := (L9d + 1)) (lv' := [(9, .int (L9d + 1)), (8, .int L9d), (7, .int (L7d + 1)), (5, .long L5d), (4, .ref (La a0.toNatClampNeg)), (0, .ref x), (1, .int a0), (2, .int a1), (3, .int a2)]) hx hb dX11_parts_79 hl (k := 2) rfl (rfl) (by decide) rfl (fun ls hl => ?_)
                  refine lv_goto (tgt := 54) hx hb dX11_parts_82 (by decide) ?_
                  exact ih L5d (L7d + 1) L9d (L9d + 1) (gx_parts_s2 (y0 := L9d) c_11 h0_d) (by rw [xi_sle c_11 (by decide)]; omega) (hI_d.trans (by rw [fx_parts_d]; (try rw [if_neg c_11]); (try rw [if_pos c_13]); try rfl)) ls (lv_sub hl [0, 1, 2, 3, 4, 5, 6, 7, 8] rfl)
          exact hloop_8 99 r_7 (0 : Int32) (0 : Int32) (1 : Int32) (gx_parts_s3 ) (by decide) ((by rw [fx_parts]; (try rw [if_neg hz_2]); (try rw [← hq_r_3]); (try rw [xL_eq]); (try rw [if_neg c_4]); (try rw [if_neg c_5]); (try rw [if_pos c_6]); (try rw [← hq_r_7]); (try rw [xL_eq]); try rfl)) ls (lv_sub hl [0, 1, 2, 3, 4, 5, 6, 7, 8] rfl)
        · refine lv_iconst (v := (-1)) hx hb dX11_parts_34 (by decide) ?_
          exact W.iret (v := (-1)) hx hb hr (fun t ht hW => ⟨(-1), rfl, (Eq.symm ((by rw [fx_parts]; (try rw [if_neg hz_2]); (try rw [← hq_r_3]); (try rw [xL_eq]); (try rw [if_neg c_4]); (try rw [if_neg c_5]); (try rw [if_neg c_6]); try rfl))), ht⟩) (fun _ h => by cases h) dX11_parts_35

def fx_months_d (FI : Nat → Int32) (GR : Nat → Int32) (FR : Nat → Int32) (a0 : Int32) (a1 : Int32) (a2 : Int32) : Nat → (Int32) → Int32
  | 0, L5d => (-2 : Int32)
  | n + 1, L5d => (if 1000 ≤ L5d then (-2 : Int32) else (xL (fl_canBeAsked (FI a0.toNatClampNeg) (GR a0.toNatClampNeg) (FR a0.toNatClampNeg) (a1.toInt64 + L5d.toInt64)) (fun r_10 => (if r_10 = 0 then (-2 : Int32) else (xL (fl_lengthOf (FI a0.toNatClampNeg) (GR a0.toNatClampNeg) (FR a0.toNatClampNeg) (a1.toInt64 + L5d.toInt64)) (fun r_12 => (if lg_cmp (r_12 - r_12 / a2.toInt64 * a2.toInt64) 0 = 0 then (a1.toInt64 + L5d.toInt64).toInt32 else fx_months_d FI GR FR a0 a1 a2 n (L5d + 1))))))))
def fx_months (fTo : Nat → Int32) (FI : Nat → Int32) (GR : Nat → Int32) (FR : Nat → Int32) (a0 : Int32) (a1 : Int32) (a2 : Int32) : Int32 := (if fb_landIs fTo a0 = 0 then (-1 : Int32) else (xL (fl_canBeAsked (FI a0.toNatClampNeg) (GR a0.toNatClampNeg) (FR a0.toNatClampNeg) a1.toInt64) (fun r_3 => (if r_3 = 0 then (-1 : Int32) else (if a2 < 1 then (-1 : Int32) else (if a2 ≤ 99 then fx_months_d FI GR FR a0 a1 a2 1000 (0 : Int32) else (-1 : Int32)))))))
theorem gx_months_s0 {y0 : Int32} (h0 : ¬ (y0 < 1)) (h1 : y0 ≤ 99) : ¬ (y0 = 0) := by lia
theorem gx_months_s1 {y0 : Int32} (h0 : ¬ (1000 ≤ y0)) (h1 : ¬ (y0 < 0)) : ¬ ((y0 + 1) < 0) := by lia
theorem gx_months_s2  : ¬ ((0 : Int32) < 0) := (by decide)
theorem dX11_months_0 : decode cX11_months 0 = .ok (.aload_n 0, 1) := zk_42 (by decide +kernel)
theorem dX11_months_1 : decode cX11_months 1 = .ok (.getfield 19, 3) := zk_180 (by decide +kernel)
theorem dX11_months_4 : decode cX11_months 4 = .ok (.iload_n 1, 1) := zk_27 (by decide +kernel)
theorem dX11_months_5 : decode cX11_months 5 = .ok (.invokevirtual 112, 3) := zk_182 (by decide +kernel)
theorem dX11_months_8 : decode cX11_months 8 = .ok (.astore 4, 2) := zk_58 (by decide +kernel)
theorem dX11_months_10 : decode cX11_months 10 = .ok (.aload 4, 2) := zk_25 (by decide +kernel)
theorem dX11_months_12 : decode cX11_months 12 = .ok (.ifnull 24, 3) := zk_198 (by decide +kernel)
theorem dX11_months_36 : decode cX11_months 36 = .ok (.iconst (-1), 1) := zk_2 (by decide +kernel)
theorem dX11_months_37 : decode cX11_months 37 = .ok (.ireturn, 1) := zk_172 (by decide +kernel)
theorem dX11_months_15 : decode cX11_months 15 = .ok (.aload 4, 2) := zk_25 (by decide +kernel)
theorem dX11_months_17 : decode cX11_months 17 = .ok (.iload_n 2, 1) := zk_28 (by decide +kernel)
theorem dX11_months_18 : decode cX11_months 18 = .ok (.i2l, 1) := zk_133 (by decide +kernel)
theorem dX11_months_19 : decode cX11_months 19 = .ok (.invokevirtual 139, 3) := zk_182 (by decide +kernel)
theorem dX11_months_22 : decode cX11_months 22 = .ok (.ifCond .eq 14, 3) := zk_153 (by decide +kernel)
theorem dX11_months_25 : decode cX11_months 25 = .ok (.iload_n 3, 1) := zk_29 (by decide +kernel)
theorem dX11_months_26 : decode cX11_months 26 = .ok (.iconst 1, 1) := zk_4 (by decide +kernel)
theorem dX11_months_27 : decode cX11_months 27 = .ok (.if_icmp .lt 9, 3) := zk_161 (by decide +kernel)
theorem dX11_months_30 : decode cX11_months 30 = .ok (.iload_n 3, 1) := zk_29 (by decide +kernel)
theorem dX11_months_31 : decode cX11_months 31 = .ok (.bipush 99, 2) := zk_16 (by decide +kernel)
theorem dX11_months_33 : decode cX11_months 33 = .ok (.if_icmp .le 5, 3) := zk_164 (by decide +kernel)
theorem dX11_months_38 : decode cX11_months 38 = .ok (.iconst 0, 1) := zk_3 (by decide +kernel)
theorem dX11_months_39 : decode cX11_months 39 = .ok (.istore 5, 2) := zk_54 (by decide +kernel)
theorem dX11_months_41 : decode cX11_months 41 = .ok (.iload 5, 2) := zk_21 (by decide +kernel)
theorem dX11_months_43 : decode cX11_months 43 = .ok (.sipush 1000, 3) := zk_17 (by decide +kernel)
theorem dX11_months_46 : decode cX11_months 46 = .ok (.if_icmp .ge 49, 3) := zk_162 (by decide +kernel)
theorem dX11_months_95 : decode cX11_months 95 = .ok (.bipush (-2), 2) := zk_16 (by decide +kernel)
theorem dX11_months_97 : decode cX11_months 97 = .ok (.ireturn, 1) := zk_172 (by decide +kernel)
theorem dX11_months_49 : decode cX11_months 49 = .ok (.iload_n 2, 1) := zk_28 (by decide +kernel)
theorem dX11_months_50 : decode cX11_months 50 = .ok (.i2l, 1) := zk_133 (by decide +kernel)
theorem dX11_months_51 : decode cX11_months 51 = .ok (.iload 5, 2) := zk_21 (by decide +kernel)
theorem dX11_months_53 : decode cX11_months 53 = .ok (.i2l, 1) := zk_133 (by decide +kernel)
theorem dX11_months_54 : decode cX11_months 54 = .ok (.ladd, 1) := zk_97 (by decide +kernel)
theorem dX11_months_55 : decode cX11_months 55 = .ok (.lstore 6, 2) := zk_55 (by decide +kernel)
theorem dX11_months_57 : decode cX11_months 57 = .ok (.aload 4, 2) := zk_25 (by decide +kernel)
theorem dX11_months_59 : decode cX11_months 59 = .ok (.lload 6, 2) := zk_22 (by decide +kernel)
theorem dX11_months_61 : decode cX11_months 61 = .ok (.invokevirtual 139, 3) := zk_182 (by decide +kernel)
theorem dX11_months_64 : decode cX11_months 64 = .ok (.ifCond .ne 6, 3) := zk_154 (by decide +kernel)
theorem dX11_months_70 : decode cX11_months 70 = .ok (.aload 4, 2) := zk_25 (by decide +kernel)
theorem dX11_months_72 : decode cX11_months 72 = .ok (.lload 6, 2) := zk_22 (by decide +kernel)
theorem dX11_months_74 : decode cX11_months 74 = .ok (.invokevirtual 145, 3) := zk_182 (by decide +kernel)
theorem dX11_months_77 : decode cX11_months 77 = .ok (.iload_n 3, 1) := zk_29 (by decide +kernel)
theorem dX11_months_78 : decode cX11_months 78 = .ok (.i2l, 1) := zk_133 (by decide +kernel)
theorem dX11_months_79 : decode cX11_months 79 = .ok (.lrem, 1) := zk_113 (by decide +kernel)
theorem dX11_months_80 : decode cX11_months 80 = .ok (.lconst 0, 1) := zk_9 (by decide +kernel)
theorem dX11_months_81 : decode cX11_months 81 = .ok (.lcmp, 1) := zk_148 (by decide +kernel)
theorem dX11_months_82 : decode cX11_months 82 = .ok (.ifCond .ne 7, 3) := zk_154 (by decide +kernel)
theorem dX11_months_89 : decode cX11_months 89 = .ok (.iinc 5 1, 3) := zk_132 (by decide +kernel)
theorem dX11_months_92 : decode cX11_months 92 = .ok (.goto (-51), 3) := zk_167 (by decide +kernel)
theorem dX11_months_85 : decode cX11_months 85 = .ok (.lload 6, 2) := zk_22 (by decide +kernel)
theorem dX11_months_87 : decode cX11_months 87 = .ok (.l2i, 1) := zk_136 (by decide +kernel)
theorem dX11_months_88 : decode cX11_months 88 = .ok (.ireturn, 1) := zk_172 (by decide +kernel)
theorem dX11_months_67 : decode cX11_months 67 = .ok (.bipush (-2), 2) := zk_16 (by decide +kernel)
theorem dX11_months_69 : decode cX11_months 69 = .ok (.ireturn, 1) := zk_172 (by decide +kernel)
set_option maxHeartbeats 4000000 in
set_option maxRecDepth 100000 in
theorem gx_months (l : Launch) (dC : Nat → ClassId) (dI : Nat → Nat → Nat) (x : Nat) (pa : Nat) (bk : Nat) (xsp : Nat) (xdy : Nat) (le : Nat) (xst : Nat) (xsc : Int32) (xim : Nat) (xil : Nat) (xik : Int32) (xmo : Nat) (xom : Nat) (wi : Nat) (bto : Nat) (bnm : Nat) (bla : Nat) (bsk : Nat) (bru : Nat) (bbo : Nat) (bdi : Nat) (bda : Nat) (bdk : Nat) (bdt : Nat) (bdp : Nat) (bno : Nat) (cTo : ClassId) (fTo : Nat → Int32) (cLa : ClassId) (La : Nat → Nat) (FI : Nat → Int32) (GR : Nat → Int32) (FR : Nat → Int32) (a0 : Int32) (a1 : Int32) (a2 : Int32) : Met l yX11_months (Cond.code yX11_months cX11_months 8 (some .int) :: wsL_law) ({ frames := 3, cells := 0, slots := 0, locals := 66 }) (va_Pc [.ref x, .int a0, .int a1, .int a2] (fun U => va_P (dC, dI) vwCl [(eO11a x pa bk xsp xdy le xst xsc xim xil xik xmo xom wi), (eO0a bk bto bnm bla bsk bru bbo bdi bda bdk bdt bdp bno), (eA0 bto cTo 5 fTo), (eA4 bla cLa 4 (fun k => some (La k))), (eO1a (La 0) (FI 0) (GR 0) (FR 0)), (eO1a (La 1) (FI 1) (GR 1) (FR 1)), (eO1a (La 2) (FI 2) (GR 2) (FR 2)), (eO1a (La 3) (FI 3) (GR 3) (FR 3))] U.heap ∧ va_K (dC, dI) vwCl [(cTo, .int), (cLa, .object RX1)] U)) (vp_Si (fun r => r = fx_months fTo FI GR FR a0 a1 a2)) 0 0 (fun _ => False) := by
  refine Met.ofW (cc := cX11_months) (maxL := 8) (ret := (some .int)) (by decide) rfl ?_
  intro p e s m args below meth c s₁ B hml hv
  obtain ⟨rfl, hP, hK⟩ := hv
  have hx := B.exec
  have hb := B.bytes
  have hr := B.returns
  have hts := atoms_spec (ws := Cond.code yX11_months cX11_months 8 (some .int) :: wsL_law) B.pre
  have htw : ∀ w ∈ wsL_law, w.before _ s = true := fun w h => hts w (List.mem_cons_of_mem _ h)
  have hown : s.vm.findClass RX11 = some m.cls := findClass_of_methodNamed B.named
  have hlocks := B.notSynchronized
  have hl := lv_entry ([.ref x, .int a0, .int a1, .int a2]) (n := 8) (Nat.le_of_ble_eq_true rfl)
  rw [lg_entry_eq]
  generalize (lg_sl ([.ref x, .int a0, .int a1, .int a2]) ++ List.replicate (8 - (lg_sl ([.ref x, .int a0, .int a1, .int a2])).length) Slot.unset).toArray = ls at hl ⊢
  have hl : lv_has ls 8 [(0, .ref x), (1, .int a0), (2, .int a1), (3, .int a2)] := hl
  refine lv_aload_n hx hb dX11_months_0 rfl (lv_at hl 0 rfl) ?_
  refine va_get (D := (dC, dI)) (ci := 11) (v := .ref bk) (C := RX11) (T := TX11) (N := 13) hx hb htw inlX11 hown hK hP 0 rfl rfl 1 (by decide) (htw _ (ck_1 _ (List.mem_of_getElem? (i := 21) rfl))) (fun _ h9 => h9) rfl dX11_months_1 ?_
  refine lv_iload_n hx hb dX11_months_4 rfl (lv_at hl 1 rfl) ?_
  have hPc := hP.sub (ws' := [(eO0a bk bto bnm bla bsk bru bbo bdi bda bdk bdt bdp bno), (eA0 bto cTo 5 fTo), (eA4 bla cLa 4 (fun k => some (La k)))]) [1, 2, 3] rfl
  have hKc := hK.sub (tys' := [(cTo, .int), (cLa, .object RX1)]) [0, 1] rfl
  refine va_csq (W.runV (As := [.int a0]) (rest := []) ⟨hx, hb, hml, hown, htw⟩ (gb_landAt l dC dI bk bto bnm bla bsk bru bbo bdi bda bdk bdt bdp bno cTo fTo cLa La a0) (cwV 1 htw (xg_V (ck_33 _ (List.mem_of_getElem? (i := 21) rfl)) (ck_20 _ (List.mem_of_getElem? (i := 22) rfl)) (ck_20 _ (List.mem_of_getElem? (i := 23) rfl)) (ck_1 _ (List.mem_of_getElem? (i := 20) rfl)) (ck_21 _ (List.mem_of_getElem? (i := 0) rfl))) rfl rfl rfl (by exact ⟨rfl, hdc_6.1, hdc_6.2, hdd_15⟩) ⟨Nat.le_of_ble_eq_true rfl, Nat.le_of_ble_eq_true rfl⟩) ⟨fun a U g mk q => by obtain ⟨q0, qP, qK⟩ := q; exact ⟨q0, qP, va_K.moved (u := U) (U := U.calling g mk a) (Vm.Alike.refl U.vm) qK⟩, va_recv hKc hPc (ci := 0) (q0 := 0) rfl rfl, fun U hU hW => ⟨rfl, by rw [hU]; exact hPc, va_K.moved hW.alike hKc⟩⟩ rfl rfl hl.1 rfl (lv_room (Nat.le_of_ble_eq_true rfl)) dX11_months_5 ⟨Nat.le_of_ble_eq_true rfl, Nat.le_of_ble_eq_true rfl⟩) (fun r_1 hw => ?_)
  try dsimp only at hw
  by_cases hz_2 : fb_landIs fTo a0 = 0
  · obtain rfl : r_1 = none := by rw [hw, if_pos hz_2]
    refine W.eq (g2 := F0 m 8 ls [.null]) rfl ?_
    refine lv_astoreN (lv' := [(4, .null), (0, .ref x), (1, .int a0), (2, .int a1), (3, .int a2)]) hx hb dX11_months_8 hl (by decide) rfl (fun ls hl => ?_)
    refine lv_aloadN hx hb dX11_months_10 (lv_at hl 0 rfl) ?_
    refine lv_ifnullN (tgt := 36) hx hb dX11_months_12 (by decide) ?_
    refine lv_iconst (v := (-1)) hx hb dX11_months_36 (by decide) ?_
    exact W.iret (v := (-1)) hx hb hr (fun t ht hW => ⟨(-1), rfl, (Eq.symm ((by rw [fx_months]; (try rw [if_pos hz_2]); try rfl))), ht⟩) (fun _ h => by cases h) dX11_months_37
  · obtain rfl : r_1 = some (La a0.toNatClampNeg) := by rw [hw, if_neg hz_2]
    have hP : va_P (dC, dI) vwCl [(eO11a x pa bk xsp xdy le xst xsc xim xil xik xmo xom wi), (eO0a bk bto bnm bla bsk bru bbo bdi bda bdk bdt bdp bno), (eA0 bto cTo 5 fTo), (eA4 bla cLa 4 (fun k => some (La k))), (eO1a (La 0) (FI 0) (GR 0) (FR 0)), (eO1a (La 1) (FI 1) (GR 1) (FR 1)), (eO1a (La 2) (FI 2) (GR 2) (FR 2)), (eO1a (La 3) (FI 3) (GR 3) (FR 3)), ((La a0.toNatClampNeg), .inr (1, [.int (FI a0.toNatClampNeg), .int (GR a0.toNatClampNeg), .int (FR a0.toNatClampNeg)]))] s.heap := xb_P4 hP (fun k => (La k, .inr (1, [.int (FI k), .int (GR k), .int (FR k)]))) 4 rfl rfl rfl rfl (i := a0) (xg_inr (N := 4) rfl (fb_landIn hz_2).1 (fb_landIn hz_2).2)
    refine W.eq (g2 := F0 m 8 ls [.ref (La a0.toNatClampNeg)]) rfl ?_
    refine lv_astore (lv' := [(4, .ref (La a0.toNatClampNeg)), (0, .ref x), (1, .int a0), (2, .int a1), (3, .int a2)]) hx hb dX11_months_8 hl (by decide) rfl (fun ls hl => ?_)
    refine lv_aload hx hb dX11_months_10 (lv_at hl 0 rfl) ?_
    refine lv_ifnull hx hb dX11_months_12 ?_
    refine lv_aload hx hb dX11_months_15 (lv_at hl 0 rfl) ?_
    refine lv_iload_n hx hb dX11_months_17 rfl (lv_at hl 3 rfl) ?_
    refine lv_i2l (v := a1.toInt64) hx hb dX11_months_18 rfl ?_
    have hPc := hP.sub (ws' := [((La a0.toNatClampNeg), .inr (1, [.int (FI a0.toNatClampNeg), .int (GR a0.toNatClampNeg), .int (FR a0.toNatClampNeg)]))]) [8] rfl
    have hKc := hK.sub (tys' := []) [] rfl
    refine vp_callSi (W.runV (As := [.long a1.toInt64]) (rest := []) ⟨hx, hb, hml, hown, htw⟩ (gl_canBeAsked l dC dI (La a0.toNatClampNeg) (FI a0.toNatClampNeg) (GR a0.toNatClampNeg) (FR a0.toNatClampNeg) a1.toInt64) (cwV 1 htw (xg_V (ck_34 _ (List.mem_of_getElem? (i := 15) rfl)) (ck_34 _ (List.mem_of_getElem? (i := 16) rfl)) (ck_34 _ (List.mem_of_getElem? (i := 17) rfl)) (ck_6 _ (List.mem_of_getElem? (i := 19) rfl)) (ck_34 _ (List.mem_of_getElem? (i := 18) rfl))) rfl rfl rfl (by exact ⟨rfl, hdc_0.1, hdc_0.2, hdd_1⟩) ⟨Nat.le_of_ble_eq_true rfl, Nat.le_of_ble_eq_true rfl⟩) ⟨fun a U g mk q => by obtain ⟨q0, qP, qK⟩ := q; exact ⟨q0, qP, va_K.moved (u := U) (U := U.calling g mk a) (Vm.Alike.refl U.vm) qK⟩, va_recv hKc hPc (ci := 1) (q0 := 0) rfl rfl, fun U hU hW => ⟨rfl, by rw [hU]; exact hPc, va_K.moved hW.alike hKc⟩⟩ rfl rfl hl.1 rfl (lv_room (Nat.le_of_ble_eq_true rfl)) dX11_months_19 ⟨Nat.le_of_ble_eq_true rfl, Nat.le_of_ble_eq_true rfl⟩) (fun r_3 hw => ?_)
    try dsimp only at hw
    have hq_r_3 : r_3 = fl_canBeAsked (FI a0.toNatClampNeg) (GR a0.toNatClampNeg) (FR a0.toNatClampNeg) a1.toInt64 := hw
    refine lv_if_eq (tgt := 36) hx hb dX11_months_22 (by decide) (fun c_4 => ?_) (fun c_4 => ?_)
    · refine lv_iconst (v := (-1)) hx hb dX11_months_36 (by decide) ?_
      exact W.iret (v := (-1)) hx hb hr (fun t ht hW => ⟨(-1), rfl, (Eq.symm ((by rw [fx_months]; (try rw [if_neg hz_2]); (try rw [← hq_r_3]); (try rw [xL_eq]); (try rw [if_pos c_4]); try rfl))), ht⟩) (fun _ h => by cases h) dX11_months_37
    · refine lv_iload_n hx hb dX11_months_25 rfl (lv_at hl 4 rfl) ?_
      refine lv_iconst (v := 1) hx hb dX11_months_26 (by decide) ?_
      refine lv_icmp_lt (tgt := 36) hx hb dX11_months_27 (by decide) (fun c_5 => ?_) (fun c_5 => ?_)
      · refine lv_iconst (v := (-1)) hx hb dX11_months_36 (by decide) ?_
        exact W.iret (v := (-1)) hx hb hr (fun t ht hW => ⟨(-1), rfl, (Eq.symm ((by rw [fx_months]; (try rw [if_neg hz_2]); (try rw [← hq_r_3]); (try rw [xL_eq]); (try rw [if_neg c_4]); (try rw [if_pos c_5]); try rfl))), ht⟩) (fun _ h => by cases h) dX11_months_37
      · refine lv_iload_n hx hb dX11_months_30 rfl (lv_at hl 4 rfl) ?_
        refine lv_bipush (v := 99) hx hb dX11_months_31 (by decide) ?_
        refine lv_icmp_le (tgt := 38) hx hb dX11_months_33 (by decide) (fun c_6 => ?_) (fun c_6 => ?_)
        · refine lv_iconst (v := 0) hx hb dX11_months_38 (by decide) ?_
          refine lv_istore (lv' := [(5, .int 0), (4, .ref (La a0.toNatClampNeg)), (0, .ref x), (1, .int a0), (2, .int a1), (3, .int a2)]) hx hb dX11_months_39 hl (by decide) rfl (fun ls hl => ?_)
          have hloop_7 : ∀ (n : Nat) (L5d : Int32) (h0_d : ¬ L5d < 0) (hf_d : (1000 : Int32).toInt ≤ L5d.toInt + (n : Int)) (hI_d : fx_months fTo FI GR FR a0 a1 a2 = fx_months_d FI GR FR a0 a1 a2 n L5d) (ls : Array Slot) (hl : lv_has ls 8 [(5, .int L5d), (4, .ref (La a0.toNatClampNeg)), (0, .ref x), (1, .int a0), (2, .int a1), (3, .int a2)]), W p l e (headSpec (Cond.code yX11_months cX11_months 8 (some .int) :: wsL_law) ({ frames := 3, cells := 0, slots := 0, locals := 66 })).room s m ([.ref x, .int a0, .int a1, .int a2] : List Value).toArray below meth c s.heap [] 0 0 (MQ below (vp_Si (fun r => r = fx_months fTo FI GR FR a0 a1 a2)) ([.ref x, .int a0, .int a1, .int a2] : List Value).toArray s 0 0 (fun _ => False)) (F0 m 41 ls []) := by
            intro n
            induction n with
            | zero =>
              intro L5d h0_d hf_d hI_d ls hl
              refine lv_iload hx hb dX11_months_41 (lv_at hl 0 rfl) ?_
              refine lv_sipush (v := 1000) hx hb dX11_months_43 (by decide) ?_
              refine lv_icmp_ge (tgt := 95) hx hb dX11_months_46 (by decide) (fun c_8 => ?_) (fun c_8 => absurd c_8 (fun h => h (xi_z hf_d)))
              refine lv_bipush (v := (-2)) hx hb dX11_months_95 (by decide) ?_
              exact W.iret (v := (-2)) hx hb hr (fun t ht hW => ⟨(-2), rfl, (Eq.symm (hI_d.trans (by rw [fx_months_d]; try rfl))), ht⟩) (fun _ h => by cases h) dX11_months_97
            | succ n ih =>
              intro L5d h0_d hf_d hI_d ls hl
              refine lv_iload hx hb dX11_months_41 (lv_at hl 0 rfl) ?_
              refine lv_sipush (v := 1000) hx hb dX11_months_43 (by decide) ?_
              refine lv_icmp_ge (tgt := 95) hx hb dX11_months_46 (by decide) (fun c_9 => ?_) (fun c_9 => ?_)
              · refine lv_bipush (v := (-2)) hx hb dX11_months_95 (by decide) ?_
                exact W.iret (v := (-2)) hx hb hr (fun t ht hW => ⟨(-2), rfl, (Eq.symm (hI_d.trans (by rw [fx_months_d]; (try rw [if_pos c_9]); try rfl))), ht⟩) (fun _ h => by cases h) dX11_months_97
              · refine lv_iload_n hx hb dX11_months_49 rfl (lv_at hl 4 rfl) ?_
                refine lv_i2l (v := a1.toInt64) hx hb dX11_months_50 rfl ?_
                refine lv_iload hx hb dX11_months_51 (lv_at hl 0 rfl) ?_
                refine lv_i2l (v := L5d.toInt64) hx hb dX11_months_53 rfl ?_
                refine lv_ladd hx hb dX11_months_54 ?_
                refine lv_lstore (lv' := [(6, .long (a1.toInt64 + L5d.toInt64)), (5, .int L5d), (4, .ref (La a0.toNatClampNeg)), (0, .ref x), (1, .int a0), (2, .int a1), (3, .int a2)]) hx hb dX11_months_55 hl (by decide) rfl (fun ls hl => ?_)
                refine lv_aload hx hb dX11_months_57 (lv_at hl 2 rfl) ?_
                refine lv_lload hx hb dX11_months_59 (lv_at hl 0 rfl) ?_
                have hPc := hP.sub (ws' := [((La a0.toNatClampNeg), .inr (1, [.int (FI a0.toNatClampNeg), .int (GR a0.toNatClampNeg), .int (FR a0.toNatClampNeg)]))]) [8] rfl
                have hKc := hK.sub (tys' := []) [] rfl
                refine vp_callSi (W.runV (As := [.long (a1.toInt64 + L5d.toInt64)]) (rest := []) ⟨hx, hb, hml, hown, htw⟩ (gl_canBeAsked l dC dI (La a0.toNatClampNeg) (FI a0.toNatClampNeg) (GR a0.toNatClampNeg) (FR a0.toNatClampNeg) (a1.toInt64 + L5d.toInt64)) (cwV 1 htw (xg_V (ck_34 _ (List.mem_of_getElem? (i := 15) rfl)) (ck_34 _ (List.mem_of_getElem? (i := 16) rfl)) (ck_34 _ (List.mem_of_getElem? (i := 17) rfl)) (ck_6 _ (List.mem_of_getElem? (i := 19) rfl)) (ck_34 _ (List.mem_of_getElem? (i := 18) rfl))) rfl rfl rfl (by exact ⟨rfl, hdc_0.1, hdc_0.2, hdd_1⟩) ⟨Nat.le_of_ble_eq_true rfl, Nat.le_of_ble_eq_true rfl⟩) ⟨fun a U g mk q => by obtain ⟨q0, qP, qK⟩ := q; exact ⟨q0, qP, va_K.moved (u := U) (U := U.calling g mk a) (Vm.Alike.refl U.vm) qK⟩, va_recv hKc hPc (ci := 1) (q0 := 0) rfl rfl, fun U hU hW => ⟨rfl, by rw [hU]; exact hPc, va_K.moved hW.alike hKc⟩⟩ rfl rfl hl.1 rfl (lv_room (Nat.le_of_ble_eq_true rfl)) dX11_months_61 ⟨Nat.le_of_ble_eq_true rfl, Nat.le_of_ble_eq_true rfl⟩) (fun r_10 hw => ?_)
                try dsimp only at hw
                have hq_r_10 : r_10 = fl_canBeAsked (FI a0.toNatClampNeg) (GR a0.toNatClampNeg) (FR a0.toNatClampNeg) (a1.toInt64 + L5d.toInt64) := hw
                refine lv_if_ne (tgt := 70) hx hb dX11_months_64 (by decide) (fun c_11 => ?_) (fun c_11 => ?_)
                · refine lv_aload hx hb dX11_months_70 (lv_at hl 2 rfl) ?_
                  refine lv_lload hx hb dX11_months_72 (lv_at hl 0 rfl) ?_
                  have hPc := hP.sub (ws' := [((La a0.toNatClampNeg), .inr (1, [.int (FI a0.toNatClampNeg), .int (GR a0.toNatClampNeg), .int (FR a0.toNatClampNeg)]))]) [8] rfl
                  have hKc := hK.sub (tys' := []) [] rfl
                  refine vp_callSl (W.runV (As := [.long (a1.toInt64 + L5d.toInt64)]) (rest := []) ⟨hx, hb, hml, hown, htw⟩ (gl_lengthOf l dC dI (La a0.toNatClampNeg) (FI a0.toNatClampNeg) (GR a0.toNatClampNeg) (FR a0.toNatClampNeg) (a1.toInt64 + L5d.toInt64)) (cwV 1 htw (xg_V (ck_34 _ (List.mem_of_getElem? (i := 21) rfl)) (ck_21 _ (List.mem_of_getElem? (i := 10) rfl)) (ck_21 _ (List.mem_of_getElem? (i := 11) rfl)) (ck_6 _ (List.mem_of_getElem? (i := 19) rfl)) (ck_21 _ (List.mem_of_getElem? (i := 12) rfl))) rfl rfl rfl (by exact ⟨rfl, hdc_0.1, hdc_0.2, hdd_0⟩) ⟨Nat.le_of_ble_eq_true rfl, Nat.le_of_ble_eq_true rfl⟩) ⟨fun a U g mk q => by obtain ⟨q0, qP, qK⟩ := q; exact ⟨q0, qP, va_K.moved (u := U) (U := U.calling g mk a) (Vm.Alike.refl U.vm) qK⟩, va_recv hKc hPc (ci := 1) (q0 := 0) rfl rfl, fun U hU hW => ⟨rfl, by rw [hU]; exact hPc, va_K.moved hW.alike hKc⟩⟩ rfl rfl hl.1 rfl (lv_room (Nat.le_of_ble_eq_true rfl)) dX11_months_74 ⟨Nat.le_of_ble_eq_true rfl, Nat.le_of_ble_eq_true rfl⟩) (fun r_12 hw => ?_)
                  try dsimp only at hw
                  have hq_r_12 : r_12 = fl_lengthOf (FI a0.toNatClampNeg) (GR a0.toNatClampNeg) (FR a0.toNatClampNeg) (a1.toInt64 + L5d.toInt64) := hw
                  refine lv_iload_n hx hb dX11_months_77 rfl (lv_at hl 6 rfl) ?_
                  refine lv_i2l (v := a2.toInt64) hx hb dX11_months_78 rfl ?_
                  refine lv_lrem hx hb dX11_months_79 (xg_nz64 (gx_months_s0 (y0 := a2) c_5 c_6)) ?_
                  refine lv_lconst (v := 0) hx hb dX11_months_80 (by decide) ?_
                  refine W.lcmp hx hb dX11_months_81 ?_
                  refine lv_if_ne (tgt := 89) hx hb dX11_months_82 (by decide) (fun c_13 => ?_) (fun c_13 => ?_)
                  · refine lv_iinc (v := (L5d + 1)) (lv' := [(5, .int (L5d + 1)), (6, .long (a1.toInt64 + L5d.toInt64)), (4, .ref (La a0.toNatClampNeg)), (0, .ref x), (1, .int a0), (2, .int a1), (3, .int a2)]) hx hb dX11_months_89 hl (k := 1) rfl (rfl) (by decide) rfl (fun ls hl => ?_)
                    refine lv_goto (tgt := 41) hx hb dX11_months_92 (by decide) ?_
                    exact ih (L5d + 1) (gx_months_s1 (y0 := L5d) c_9 h0_d) (by rw [xi_s' c_9]; omega) (hI_d.trans (by rw [fx_months_d]; (try rw [if_neg c_9]); (try rw [← hq_r_10]); (try rw [xL_eq]); (try rw [if_neg c_11]); (try rw [← hq_r_12]); (try rw [xL_eq]); (try rw [if_neg c_13]); try rfl)) ls (lv_sub hl [0, 2, 3, 4, 5, 6] rfl)
                  · refine lv_lload hx hb dX11_months_85 (lv_at hl 0 rfl) ?_
                    refine lv_l2i (v := (a1.toInt64 + L5d.toInt64).toInt32) hx hb dX11_months_87 rfl ?_
                    exact W.iret (v := (a1.toInt64 + L5d.toInt64).toInt32) hx hb hr (fun t ht hW => ⟨(a1.toInt64 + L5d.toInt64).toInt32, rfl, (Eq.symm (hI_d.trans (by rw [fx_months_d]; (try rw [if_neg c_9]); (try rw [← hq_r_10]); (try rw [xL_eq]); (try rw [if_neg c_11]); (try rw [← hq_r_12]); (try rw [xL_eq]); (try rw [if_pos c_13]); try rfl))), ht⟩) (fun _ h => by cases h) dX11_months_88
                · refine lv_bipush (v := (-2)) hx hb dX11_months_67 (by decide) ?_
                  exact W.iret (v := (-2)) hx hb hr (fun t ht hW => ⟨(-2), rfl, (Eq.symm (hI_d.trans (by rw [fx_months_d]; (try rw [if_neg c_9]); (try rw [← hq_r_10]); (try rw [xL_eq]); (try rw [if_pos c_11]); try rfl))), ht⟩) (fun _ h => by cases h) dX11_months_69
          exact hloop_7 1000 (0 : Int32) (gx_months_s2 ) (by decide) ((by rw [fx_months]; (try rw [if_neg hz_2]); (try rw [← hq_r_3]); (try rw [xL_eq]); (try rw [if_neg c_4]); (try rw [if_neg c_5]); (try rw [if_pos c_6]); try rfl)) ls (lv_sub hl [0, 1, 2, 3, 4, 5] rfl)
        · refine lv_iconst (v := (-1)) hx hb dX11_months_36 (by decide) ?_
          exact W.iret (v := (-1)) hx hb hr (fun t ht hW => ⟨(-1), rfl, (Eq.symm ((by rw [fx_months]; (try rw [if_neg hz_2]); (try rw [← hq_r_3]); (try rw [xL_eq]); (try rw [if_neg c_4]); (try rw [if_neg c_5]); (try rw [if_neg c_6]); try rfl))), ht⟩) (fun _ h => by cases h) dX11_months_37
