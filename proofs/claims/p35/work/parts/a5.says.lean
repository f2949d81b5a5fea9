theorem fb_has01 {f : Nat → Int32} {k a r : Int32} (h : r = fb_has f k a) : r = 0 ∨ r = 1 := by
  rw [h, fb_has]
  repeat' split
  all_goals first | exact Or.inl rfl | exact Or.inr rfl

def fx_canBeSaid (fTo : Nat → Int32) (a0 : Int32) (a1 : Int32) (a2 : Int32) (a3 : Int32) : Int32 := (if a0 = 5 then (xL (fb_has fTo (2 : Int32) a1) (fun r_2 => r_2)) else (if a0 = 6 then (xL (fb_has fTo (1 : Int32) a1) (fun r_4 => r_4)) else (if a0 = 7 then (if a1 < 0 then (0 : Int32) else (if a3 ≤ a1 then (0 : Int32) else (if a2 < (-9999) then (0 : Int32) else (if 9999 < a2 then (0 : Int32) else (1 : Int32))))) else (if a0 < 0 then (0 : Int32) else (if 5 ≤ a0 then (0 : Int32) else (if a1 < (xk_least a0.toNatClampNeg) then (0 : Int32) else (if a1 ≤ (xk_mosts a0.toNatClampNeg) then (if a0 = 0 then (if a2 < a1 then (0 : Int32) else (if (xk_mosts a0.toNatClampNeg) < a2 then (0 : Int32) else (1 : Int32))) else (1 : Int32)) else (0 : Int32))))))))
theorem gx_canBeSaid_s0 {y0 : Int32} (h0 : ¬ (y0 = 5)) (h1 : ¬ (y0 = 6)) (h2 : ¬ (y0 = 7)) (h3 : ¬ (y0 < 0)) (h4 : ¬ (5 ≤ y0)) : ¬ (y0 < 0) ∧ ¬ (5 ≤ y0) := ⟨h3, h4⟩
theorem gx_canBeSaid_s1 {y0 : Int32} (h0 : ¬ (y0 = 5)) (h1 : ¬ (y0 = 6)) (h2 : ¬ (y0 = 7)) (h3 : ¬ (y0 < 0)) (h4 : ¬ (5 ≤ y0)) : ¬ (y0 < 0) ∧ ¬ (5 ≤ y0) := gx_canBeSaid_s0 h0 h1 h2 h3 h4
theorem gx_canBeSaid_s2 {y0 : Int32} (h0 : ¬ (y0 = 5)) (h1 : ¬ (y0 = 6)) (h2 : ¬ (y0 = 7)) (h3 : ¬ (y0 < 0)) (h4 : ¬ (5 ≤ y0)) (h5 : y0 = 0) : ¬ (y0 < 0) ∧ ¬ (5 ≤ y0) := ⟨h3, h4⟩
theorem dX11_canBeSaid_0 : decode cX11_canBeSaid 0 = .ok (.iload_n 1, 1) := zk_27 (by decide +kernel)
theorem dX11_canBeSaid_1 : decode cX11_canBeSaid 1 = .ok (.tableswitch 77 5 7 #[27, 37, 47], 27) := by decide +kernel
theorem dX11_canBeSaid_28 : decode cX11_canBeSaid 28 = .ok (.aload_n 0, 1) := zk_42 (by decide +kernel)
theorem dX11_canBeSaid_29 : decode cX11_canBeSaid 29 = .ok (.getfield 19, 3) := zk_180 (by decide +kernel)
theorem dX11_canBeSaid_32 : decode cX11_canBeSaid 32 = .ok (.iconst 2, 1) := zk_5 (by decide +kernel)
theorem dX11_canBeSaid_33 : decode cX11_canBeSaid 33 = .ok (.iload_n 2, 1) := zk_28 (by decide +kernel)
theorem dX11_canBeSaid_34 : decode cX11_canBeSaid 34 = .ok (.invokevirtual 178, 3) := zk_182 (by decide +kernel)
theorem dX11_canBeSaid_37 : decode cX11_canBeSaid 37 = .ok (.ireturn, 1) := zk_172 (by decide +kernel)
theorem dX11_canBeSaid_38 : decode cX11_canBeSaid 38 = .ok (.aload_n 0, 1) := zk_42 (by decide +kernel)
theorem dX11_canBeSaid_39 : decode cX11_canBeSaid 39 = .ok (.getfield 19, 3) := zk_180 (by decide +kernel)
theorem dX11_canBeSaid_42 : decode cX11_canBeSaid 42 = .ok (.iconst 1, 1) := zk_4 (by decide +kernel)
theorem dX11_canBeSaid_43 : decode cX11_canBeSaid 43 = .ok (.iload_n 2, 1) := zk_28 (by decide +kernel)
theorem dX11_canBeSaid_44 : decode cX11_canBeSaid 44 = .ok (.invokevirtual 178, 3) := zk_182 (by decide +kernel)
theorem dX11_canBeSaid_47 : decode cX11_canBeSaid 47 = .ok (.ireturn, 1) := zk_172 (by decide +kernel)
theorem dX11_canBeSaid_48 : decode cX11_canBeSaid 48 = .ok (.iload_n 2, 1) := zk_28 (by decide +kernel)
theorem dX11_canBeSaid_49 : decode cX11_canBeSaid 49 = .ok (.ifCond .lt 27, 3) := zk_155 (by decide +kernel)
theorem dX11_canBeSaid_76 : decode cX11_canBeSaid 76 = .ok (.iconst 0, 1) := zk_3 (by decide +kernel)
theorem dX11_canBeSaid_77 : decode cX11_canBeSaid 77 = .ok (.ireturn, 1) := zk_172 (by decide +kernel)
theorem dX11_canBeSaid_52 : decode cX11_canBeSaid 52 = .ok (.iload_n 2, 1) := zk_28 (by decide +kernel)
theorem dX11_canBeSaid_53 : decode cX11_canBeSaid 53 = .ok (.iload 4, 2) := zk_21 (by decide +kernel)
theorem dX11_canBeSaid_55 : decode cX11_canBeSaid 55 = .ok (.if_icmp .ge 21, 3) := zk_162 (by decide +kernel)
theorem dX11_canBeSaid_58 : decode cX11_canBeSaid 58 = .ok (.iload_n 3, 1) := zk_29 (by decide +kernel)
theorem dX11_canBeSaid_59 : decode cX11_canBeSaid 59 = .ok (.sipush (-9999), 3) := zk_17 (by decide +kernel)
theorem dX11_canBeSaid_62 : decode cX11_canBeSaid 62 = .ok (.if_icmp .lt 14, 3) := zk_161 (by decide +kernel)
theorem dX11_canBeSaid_65 : decode cX11_canBeSaid 65 = .ok (.iload_n 3, 1) := zk_29 (by decide +kernel)
theorem dX11_canBeSaid_66 : decode cX11_canBeSaid 66 = .ok (.sipush 9999, 3) := zk_17 (by decide +kernel)
theorem dX11_canBeSaid_69 : decode cX11_canBeSaid 69 = .ok (.if_icmp .gt 7, 3) := zk_163 (by decide +kernel)
theorem dX11_canBeSaid_72 : decode cX11_canBeSaid 72 = .ok (.iconst 1, 1) := zk_4 (by decide +kernel)
theorem dX11_canBeSaid_73 : decode cX11_canBeSaid 73 = .ok (.goto 4, 3) := zk_167 (by decide +kernel)
theorem dX11_canBeSaid_78 : decode cX11_canBeSaid 78 = .ok (.iload_n 1, 1) := zk_27 (by decide +kernel)
theorem dX11_canBeSaid_79 : decode cX11_canBeSaid 79 = .ok (.ifCond .lt 29, 3) := zk_155 (by decide +kernel)
theorem dX11_canBeSaid_108 : decode cX11_canBeSaid 108 = .ok (.iconst 0, 1) := zk_3 (by decide +kernel)
theorem dX11_canBeSaid_109 : decode cX11_canBeSaid 109 = .ok (.ireturn, 1) := zk_172 (by decide +kernel)
theorem dX11_canBeSaid_82 : decode cX11_canBeSaid 82 = .ok (.iload_n 1, 1) := zk_27 (by decide +kernel)
theorem dX11_canBeSaid_83 : decode cX11_canBeSaid 83 = .ok (.getstatic 308, 3) := zk_178 (by decide +kernel)
theorem dX11_canBeSaid_86 : decode cX11_canBeSaid 86 = .ok (.arraylength, 1) := zk_190 (by decide +kernel)
theorem dX11_canBeSaid_87 : decode cX11_canBeSaid 87 = .ok (.if_icmp .ge 21, 3) := zk_162 (by decide +kernel)
theorem dX11_canBeSaid_90 : decode cX11_canBeSaid 90 = .ok (.iload_n 2, 1) := zk_28 (by decide +kernel)
theorem dX11_canBeSaid_91 : decode cX11_canBeSaid 91 = .ok (.getstatic 308, 3) := zk_178 (by decide +kernel)
theorem dX11_canBeSaid_94 : decode cX11_canBeSaid 94 = .ok (.iload_n 1, 1) := zk_27 (by decide +kernel)
theorem dX11_canBeSaid_95 : decode cX11_canBeSaid 95 = .ok (.iaload, 1) := zk_46 (by decide +kernel)
theorem dX11_canBeSaid_96 : decode cX11_canBeSaid 96 = .ok (.if_icmp .lt 12, 3) := zk_161 (by decide +kernel)
theorem dX11_canBeSaid_99 : decode cX11_canBeSaid 99 = .ok (.iload_n 2, 1) := zk_28 (by decide +kernel)
theorem dX11_canBeSaid_100 : decode cX11_canBeSaid 100 = .ok (.getstatic 311, 3) := zk_178 (by decide +kernel)
theorem dX11_canBeSaid_103 : decode cX11_canBeSaid 103 = .ok (.iload_n 1, 1) := zk_27 (by decide +kernel)
theorem dX11_canBeSaid_104 : decode cX11_canBeSaid 104 = .ok (.iaload, 1) := zk_46 (by decide +kernel)
theorem dX11_canBeSaid_105 : decode cX11_canBeSaid 105 = .ok (.if_icmp .le 5, 3) := zk_164 (by decide +kernel)
theorem dX11_canBeSaid_110 : decode cX11_canBeSaid 110 = .ok (.iload_n 1, 1) := zk_27 (by decide +kernel)
theorem dX11_canBeSaid_111 : decode cX11_canBeSaid 111 = .ok (.ifCond .ne 17, 3) := zk_154 (by decide +kernel)
theorem dX11_canBeSaid_128 : decode cX11_canBeSaid 128 = .ok (.iconst 1, 1) := zk_4 (by decide +kernel)
theorem dX11_canBeSaid_129 : decode cX11_canBeSaid 129 = .ok (.goto 4, 3) := zk_167 (by decide +kernel)
theorem dX11_canBeSaid_133 : decode cX11_canBeSaid 133 = .ok (.ireturn, 1) := zk_172 (by decide +kernel)
theorem dX11_canBeSaid_114 : decode cX11_canBeSaid 114 = .ok (.iload_n 3, 1) := zk_29 (by decide +kernel)
theorem dX11_canBeSaid_115 : decode cX11_canBeSaid 115 = .ok (.iload_n 2, 1) := zk_28 (by decide +kernel)
theorem dX11_canBeSaid_116 : decode cX11_canBeSaid 116 = .ok (.if_icmp .lt 16, 3) := zk_161 (by decide +kernel)
theorem dX11_canBeSaid_132 : decode cX11_canBeSaid 132 = .ok (.iconst 0, 1) := zk_3 (by decide +kernel)
theorem dX11_canBeSaid_119 : decode cX11_canBeSaid 119 = .ok (.iload_n 3, 1) := zk_29 (by decide +kernel)
theorem dX11_canBeSaid_120 : decode cX11_canBeSaid 120 = .ok (.getstatic 311, 3) := zk_178 (by decide +kernel)
theorem dX11_canBeSaid_123 : decode cX11_canBeSaid 123 = .ok (.iload_n 1, 1) := zk_27 (by decide +kernel)
theorem dX11_canBeSaid_124 : decode cX11_canBeSaid 124 = .ok (.iaload, 1) := zk_46 (by decide +kernel)
theorem dX11_canBeSaid_125 : decode cX11_canBeSaid 125 = .ok (.if_icmp .gt 7, 3) := zk_163 (by decide +kernel)
set_option maxHeartbeats 4000000 in
set_option maxRecDepth 100000 in
theorem gx_canBeSaid (l : Launch) (hst : l.stackTraces = false) (dC : Nat → ClassId) (dI : Nat → Nat → Nat) (x : Nat) (pa : Nat) (bk : Nat) (xsp : Nat) (xdy : Nat) (le : Nat) (xst : Nat) (xsc : Int32) (xim : Nat) (xil : Nat) (xik : Int32) (xmo : Nat) (xom : Nat) (wi : Nat) (bto : Nat) (bnm : Nat) (bla : Nat) (bsk : Nat) (bru : Nat) (bbo : Nat) (bdi : Nat) (bda : Nat) (bdk : Nat) (bdt : Nat) (bdp : Nat) (bno : Nat) (cTo : ClassId) (fTo : Nat → Int32) (a0 : Int32) (a1 : Int32) (a2 : Int32) (a3 : Int32) (sL : Nat → Nat) (sz : Nat) : Met l yX11_canBeSaid (Cond.code yX11_canBeSaid cX11_canBeSaid 5 (some .boolean) :: wsL_law) ({ frames := 1, cells := 0, slots := 0, locals := 22 }) (va_Pc [.ref x, .int a0, .int a1, .int a2, .int a3] (fun U => U.heap.size = sz ∧ va_P (dC, dI) vwCl [(eO11a x pa bk xsp xdy le xst xsc xim xil xik xmo xom wi), (eO0a bk bto bnm bla bsk bru bbo bdi bda bdk bdt bdp bno), (eA0 bto cTo 5 fTo)] U.heap ∧ va_K (dC, dI) vwCl [(cTo, .int)] U ∧ va_D (fun _ => True) [(eO11a x pa bk xsp xdy le xst xsc xim xil xik xmo xom wi), (eO0a bk bto bnm bla bsk bru bbo bdi bda bdk bdt bdp bno), (eA0 bto cTo 5 fTo)] ∧ xl sL (va_A [(eO11a x pa bk xsp xdy le xst xsc xim xil xik xmo xom wi), (eO0a bk bto bnm bla bsk bru bbo bdi bda bdk bdt bdp bno), (eA0 bto cTo 5 fTo)] sz) U U.heap)) (va_Qi (fun (r : Int32) (u : Unit) => (r = fx_canBeSaid fTo a0 a1 a2 a3) ∧ (r = 0 ∨ r = 1)) (fun (u : Unit) t => va_P (dC, dI) vwCl [(eO11a x pa bk xsp xdy le xst xsc xim xil xik xmo xom wi), (eO0a bk bto bnm bla bsk bru bbo bdi bda bdk bdt bdp bno), (eA0 bto cTo 5 fTo)] t.heap ∧ va_K (dC, dI) vwCl [] t ∧ va_D (va_A [(eO11a x pa bk xsp xdy le xst xsc xim xil xik xmo xom wi), (eO0a bk bto bnm bla bsk bru bbo bdi bda bdk bdt bdp bno), (eA0 bto cTo 5 fTo)] sz) [(eO11a x pa bk xsp xdy le xst xsc xim xil xik xmo xom wi), (eO0a bk bto bnm bla bsk bru bbo bdi bda bdk bdt bdp bno), (eA0 bto cTo 5 fTo)]) (va_A [(eO11a x pa bk xsp xdy le xst xsc xim xil xik xmo xom wi), (eO0a bk bto bnm bla bsk bru bbo bdi bda bdk bdt bdp bno), (eA0 bto cTo 5 fTo)] sz)) 0 0 (va_A [(eO11a x pa bk xsp xdy le xst xsc xim xil xik xmo xom wi), (eO0a bk bto bnm bla bsk bru bbo bdi bda bdk bdt bdp bno), (eA0 bto cTo 5 fTo)] sz) := by
  refine Met.ofW (cc := cX11_canBeSaid) (maxL := 5) (ret := (some .boolean)) (by decide) rfl ?_
  intro p e s m args below meth c s₁ B hml hv
  obtain ⟨rfl, hsz, hP, hK, hD0, hXL⟩ := hv
  have hx := B.exec
  have hb := B.bytes
  have hr := B.returns
  have hts := atoms_spec (ws := Cond.code yX11_canBeSaid cX11_canBeSaid 5 (some .boolean) :: wsL_law) B.pre
  have htw : ∀ w ∈ wsL_law, w.before _ s = true := fun w h => hts w (List.mem_cons_of_mem _ h)
  have hown : s.vm.findClass RX11 = some m.cls := findClass_of_methodNamed B.named
  have hlocks := B.notSynchronized
  subst hsz
  have hD := hD0.self (sz := s.heap.size)
  generalize hAe : va_A [(eO11a x pa bk xsp xdy le xst xsc xim xil xik xmo xom wi), (eO0a bk bto bnm bla bsk bru bbo bdi bda bdk bdt bdp bno), (eA0 bto cTo 5 fTo)] s.heap.size = A at hD hXL ⊢
  have hA : ∀ q : Nat, s.heap.size ≤ q → A q := fun q h => by rw [← hAe]; exact Or.inr h
  obtain ⟨H, rH⟩ : ∃ z : Heap, z = s.heap := ⟨_, rfl⟩
  have hS : va_S A s.heap H [] := by rw [rH]; exact va_S.rf
  have hP : va_P (dC, dI) vwCl [(eO11a x pa bk xsp xdy le xst xsc xim xil xik xmo xom wi), (eO0a bk bto bnm bla bsk bru bbo bdi bda bdk bdt bdp bno), (eA0 bto cTo 5 fTo)] H := by rw [rH]; exact hP
  rw [← rH]
  have hl := lv_entry ([.ref x, .int a0, .int a1, .int a2, .int a3]) (n := 5) (Nat.le_of_ble_eq_true rfl)
  rw [lg_entry_eq]
  generalize (lg_sl ([.ref x, .int a0, .int a1, .int a2, .int a3]) ++ List.replicate (5 - (lg_sl ([.ref x, .int a0, .int a1, .int a2, .int a3])).length) Slot.unset).toArray = ls at hl ⊢
  have hl : lv_has ls 5 [(0, .ref x), (1, .int a0), (2, .int a1), (3, .int a2), (4, .int a3)] := hl
  refine lv_iload_n hx hb dX11_canBeSaid_0 rfl (lv_at hl 1 rfl) ?_
  by_cases h_1 : a0 = 5
  · subst h_1
    refine lv_tableIn (off := 27) (tgt := 28) hx hb dX11_canBeSaid_1 (by decide) (by decide) (by decide) (by decide) ?_
    refine lv_aload_n hx hb dX11_canBeSaid_28 rfl (lv_at hl 0 rfl) ?_
    refine va_get (D := (dC, dI)) (ci := 11) (v := .ref bk) (C := RX11) (T := TX11) (N := 13) hx hb htw inlX11 hown hK hP 0 rfl rfl 1 (by decide) (htw _ (ck_1 _ (List.mem_of_getElem? (i := 21) rfl))) (fun _ h9 => h9) rfl dX11_canBeSaid_29 ?_
    refine lv_iconst (v := 2) hx hb dX11_canBeSaid_32 (by decide) ?_
    refine lv_iload_n hx hb dX11_canBeSaid_33 rfl (lv_at hl 2 rfl) ?_
    have hPc := hP.sub (ws' := [(eO0a bk bto bnm bla bsk bru bbo bdi bda bdk bdt bdp bno), (eA0 bto cTo 5 fTo)]) [1, 2] rfl
    have hKc := hK.sub (tys' := [(cTo, .int)]) [0] rfl
    refine vp_callSi (W.runV (As := [.int 2, .int a1]) (rest := []) ⟨hx, hb, hml, hown, htw⟩ (gb_has l dC dI bk bto bnm bla bsk bru bbo bdi bda bdk bdt bdp bno cTo fTo (2 : Int32) a1) (cwV 2 htw (xg_V (ck_38 _ (List.mem_of_getElem? (i := 15) rfl)) (ck_21 _ (List.mem_of_getElem? (i := 2) rfl)) (ck_21 _ (List.mem_of_getElem? (i := 3) rfl)) (ck_1 _ (List.mem_of_getElem? (i := 20) rfl)) (ck_21 _ (List.mem_of_getElem? (i := 4) rfl))) rfl rfl rfl (by exact ⟨rfl, hdc_6.1, hdc_6.2, hdd_8⟩) ⟨Nat.le_of_ble_eq_true rfl, Nat.le_of_ble_eq_true rfl⟩) ⟨fun a U g mk q => by obtain ⟨q0, qP, qK⟩ := q; exact ⟨q0, qP, va_K.moved (u := U) (U := U.calling g mk a) (Vm.Alike.refl U.vm) qK⟩, va_recv hKc hPc (ci := 0) (q0 := 0) rfl rfl, fun U hU hW => ⟨rfl, by rw [hU]; exact hPc, va_K.moved hW.alike hKc⟩⟩ rfl rfl hl.1 rfl (lv_room (Nat.le_of_ble_eq_true rfl)) dX11_canBeSaid_34 ⟨Nat.le_of_ble_eq_true rfl, Nat.le_of_ble_eq_true rfl⟩) (fun r_2 hw => ?_)
    try dsimp only at hw
    have hq_r_2 : r_2 = fb_has fTo (2 : Int32) a1 := hw
    refine W.widen (k := 0) (n := 0) (by omega) (by omega) ?_
    have hP9 := hP
    have hD9 := hD
    have hK9 := hK.sub (tys' := []) [] rfl
    exact W.zret (v := r_2) hx hb hr (xz_nar (fb_has01 hq_r_2)) (fun t ht hW => ⟨⟨r_2, (), rfl, ⟨(Eq.symm ((by rw [fx_canBeSaid]; (try rw [if_pos rfl]); (try rw [← hq_r_2]); (try rw [xL_eq]); try rfl))), (fb_has01 hq_r_2)⟩, by rw [ht]; exact hP9, va_K.moved hW.alike hK9, hD9⟩, hS.F ht⟩) hS.2.2 dX11_canBeSaid_37
  by_cases h_3 : a0 = 6
  · subst h_3
    refine lv_tableIn (off := 37) (tgt := 38) hx hb dX11_canBeSaid_1 (by decide) (by decide) (by decide) (by decide) ?_
    refine lv_aload_n hx hb dX11_canBeSaid_38 rfl (lv_at hl 0 rfl) ?_
    refine va_get (D := (dC, dI)) (ci := 11) (v := .ref bk) (C := RX11) (T := TX11) (N := 13) hx hb htw inlX11 hown hK hP 0 rfl rfl 1 (by decide) (htw _ (ck_1 _ (List.mem_of_getElem? (i := 21) rfl))) (fun _ h9 => h9) rfl dX11_canBeSaid_39 ?_
    refine lv_iconst (v := 1) hx hb dX11_canBeSaid_42 (by decide) ?_
    refine lv_iload_n hx hb dX11_canBeSaid_43 rfl (lv_at hl 2 rfl) ?_
    have hPc := hP.sub (ws' := [(eO0a bk bto bnm bla bsk bru bbo bdi bda bdk bdt bdp bno), (eA0 bto cTo 5 fTo)]) [1, 2] rfl
    have hKc := hK.sub (tys' := [(cTo, .int)]) [0] rfl
    refine vp_callSi (W.runV (As := [.int 1, .int a1]) (rest := []) ⟨hx, hb, hml, hown, htw⟩ (gb_has l dC dI bk bto bnm bla bsk bru bbo bdi bda bdk bdt bdp bno cTo fTo (1 : Int32) a1) (cwV 2 htw (xg_V (ck_38 _ (List.mem_of_getElem? (i := 15) rfl)) (ck_21 _ (List.mem_of_getElem? (i := 2) rfl)) (ck_21 _ (List.mem_of_getElem? (i := 3) rfl)) (ck_1 _ (List.mem_of_getElem? (i := 20) rfl)) (ck_21 _ (List.mem_of_getElem? (i := 4) rfl))) rfl rfl rfl (by exact ⟨rfl, hdc_6.1, hdc_6.2, hdd_8⟩) ⟨Nat.le_of_ble_eq_true rfl, Nat.le_of_ble_eq_true rfl⟩) ⟨fun a U g mk q => by obtain ⟨q0, qP, qK⟩ := q; exact ⟨q0, qP, va_K.moved (u := U) (U := U.calling g mk a) (Vm.Alike.refl U.vm) qK⟩, va_recv hKc hPc (ci := 0) (q0 := 0) rfl rfl, fun U hU hW => ⟨rfl, by rw [hU]; exact hPc, va_K.moved hW.alike hKc⟩⟩ rfl rfl hl.1 rfl (lv_room (Nat.le_of_ble_eq_true rfl)) dX11_canBeSaid_44 ⟨Nat.le_of_ble_eq_true rfl, Nat.le_of_ble_eq_true rfl⟩) (fun r_4 hw => ?_)
    try dsimp only at hw
    have hq_r_4 : r_4 = fb_has fTo (1 : Int32) a1 := hw
    refine W.widen (k := 0) (n := 0) (by omega) (by omega) ?_
    have hP9 := hP
    have hD9 := hD
    have hK9 := hK.sub (tys' := []) [] rfl
    exact W.zret (v := r_4) hx hb hr (xz_nar (fb_has01 hq_r_4)) (fun t ht hW => ⟨⟨r_4, (), rfl, ⟨(Eq.symm ((by rw [fx_canBeSaid]; (try rw [if_neg h_1]); (try rw [if_pos rfl]); (try rw [← hq_r_4]); (try rw [xL_eq]); try rfl))), (fb_has01 hq_r_4)⟩, by rw [ht]; exact hP9, va_K.moved hW.alike hK9, hD9⟩, hS.F ht⟩) hS.2.2 dX11_canBeSaid_47
  by_cases h_5 : a0 = 7
  · subst h_5
    refine lv_tableIn (off := 47) (tgt := 48) hx hb dX11_canBeSaid_1 (by decide) (by decide) (by decide) (by decide) ?_
    refine lv_iload_n hx hb dX11_canBeSaid_48 rfl (lv_at hl 2 rfl) ?_
    refine lv_if_lt (tgt := 76) hx hb dX11_canBeSaid_49 (by decide) (fun c_6 => ?_) (fun c_6 => ?_)
    · refine lv_iconst (v := 0) hx hb dX11_canBeSaid_76 (by decide) ?_
      refine W.widen (k := 0) (n := 0) (by omega) (by omega) ?_
      have hP9 := hP
      have hD9 := hD
      have hK9 := hK.sub (tys' := []) [] rfl
      exact W.zret (v := 0) hx hb hr (by first | rfl | decide) (fun t ht hW => ⟨⟨0, (), rfl, ⟨(Eq.symm ((by rw [fx_canBeSaid]; (try rw [if_neg h_1]); (try rw [if_neg h_3]); (try rw [if_pos rfl]); (try rw [if_pos c_6]); try rfl))), Or.inl rfl⟩, by rw [ht]; exact hP9, va_K.moved hW.alike hK9, hD9⟩, hS.F ht⟩) hS.2.2 dX11_canBeSaid_77
    · refine lv_iload_n hx hb dX11_canBeSaid_52 rfl (lv_at hl 2 rfl) ?_
      refine lv_iload hx hb dX11_canBeSaid_53 (lv_at hl 4 rfl) ?_
      refine lv_icmp_ge (tgt := 76) hx hb dX11_canBeSaid_55 (by decide) (fun c_7 => ?_) (fun c_7 => ?_)
      · refine lv_iconst (v := 0) hx hb dX11_canBeSaid_76 (by decide) ?_
        refine W.widen (k := 0) (n := 0) (by omega) (by omega) ?_
        have hP9 := hP
        have hD9 := hD
        have hK9 := hK.sub (tys' := []) [] rfl
        exact W.zret (v := 0) hx hb hr (by first | rfl | decide) (fun t ht hW => ⟨⟨0, (), rfl, ⟨(Eq.symm ((by rw [fx_canBeSaid]; (try rw [if_neg h_1]); (try rw [if_neg h_3]); (try rw [if_pos rfl]); (try rw [if_neg c_6]); (try rw [if_pos c_7]); try rfl))), Or.inl rfl⟩, by rw [ht]; exact hP9, va_K.moved hW.alike hK9, hD9⟩, hS.F ht⟩) hS.2.2 dX11_canBeSaid_77
      · refine lv_iload_n hx hb dX11_canBeSaid_58 rfl (lv_at hl 3 rfl) ?_
        refine lv_sipush (v := (-9999)) hx hb dX11_canBeSaid_59 (by decide) ?_
        refine lv_icmp_lt (tgt := 76) hx hb dX11_canBeSaid_62 (by decide) (fun c_8 => ?_) (fun c_8 => ?_)
        · refine lv_iconst (v := 0) hx hb dX11_canBeSaid_76 (by decide) ?_
          refine W.widen (k := 0) (n := 0) (by omega) (by omega) ?_
          have hP9 := hP
          have hD9 := hD
          have hK9 := hK.sub (tys' := []) [] rfl
          exact W.zret (v := 0) hx hb hr (by first | rfl | decide) (fun t ht hW => ⟨⟨0, (), rfl, ⟨(Eq.symm ((by rw [fx_canBeSaid]; (try rw [if_neg h_1]); (try rw [if_neg h_3]); (try rw [if_pos rfl]); (try rw [if_neg c_6]); (try rw [if_neg c_7]); (try rw [if_pos c_8]); try rfl))), Or.inl rfl⟩, by rw [ht]; exact hP9, va_K.moved hW.alike hK9, hD9⟩, hS.F ht⟩) hS.2.2 dX11_canBeSaid_77
        · refine lv_iload_n hx hb dX11_canBeSaid_65 rfl (lv_at hl 3 rfl) ?_
          refine lv_sipush (v := 9999) hx hb dX11_canBeSaid_66 (by decide) ?_
          refine lv_icmp_gt (tgt := 76) hx hb dX11_canBeSaid_69 (by decide) (fun c_9 => ?_) (fun c_9 => ?_)
          · refine lv_iconst (v := 0) hx hb dX11_canBeSaid_76 (by decide) ?_
            refine W.widen (k := 0) (n := 0) (by omega) (by omega) ?_
            have hP9 := hP
            have hD9 := hD
            have hK9 := hK.sub (tys' := []) [] rfl
            exact W.zret (v := 0) hx hb hr (by first | rfl | decide) (fun t ht hW => ⟨⟨0, (), rfl, ⟨(Eq.symm ((by rw [fx_canBeSaid]; (try rw [if_neg h_1]); (try rw [if_neg h_3]); (try rw [if_pos rfl]); (try rw [if_neg c_6]); (try rw [if_neg c_7]); (try rw [if_neg c_8]); (try rw [if_pos c_9]); try rfl))), Or.inl rfl⟩, by rw [ht]; exact hP9, va_K.moved hW.alike hK9, hD9⟩, hS.F ht⟩) hS.2.2 dX11_canBeSaid_77
          · refine lv_iconst (v := 1) hx hb dX11_canBeSaid_72 (by decide) ?_
            refine lv_goto (tgt := 77) hx hb dX11_canBeSaid_73 (by decide) ?_
            refine W.widen (k := 0) (n := 0) (by omega) (by omega) ?_
            have hP9 := hP
            have hD9 := hD
            have hK9 := hK.sub (tys' := []) [] rfl
            exact W.zret (v := 1) hx hb hr (by first | rfl | decide) (fun t ht hW => ⟨⟨1, (), rfl, ⟨(Eq.symm ((by rw [fx_canBeSaid]; (try rw [if_neg h_1]); (try rw [if_neg h_3]); (try rw [if_pos rfl]); (try rw [if_neg c_6]); (try rw [if_neg c_7]); (try rw [if_neg c_8]); (try rw [if_neg c_9]); try rfl))), Or.inr rfl⟩, by rw [ht]; exact hP9, va_K.moved hW.alike hK9, hD9⟩, hS.F ht⟩) hS.2.2 dX11_canBeSaid_77
  refine lv_tableOut (tgt := 78) hx hb dX11_canBeSaid_1 (by have a0 := xg_ne h_1; have a1 := xg_ne h_3; have a2 := xg_ne h_5; have b0 : (5 : Int32).toInt = 5 := rfl; have b1 : (6 : Int32).toInt = 6 := rfl; have b2 : (7 : Int32).toInt = 7 := rfl; omega) (by decide) ?_
  refine lv_iload_n hx hb dX11_canBeSaid_78 rfl (lv_at hl 1 rfl) ?_
  refine lv_if_lt (tgt := 108) hx hb dX11_canBeSaid_79 (by decide) (fun c_10 => ?_) (fun c_10 => ?_)
  · refine lv_iconst (v := 0) hx hb dX11_canBeSaid_108 (by decide) ?_
    refine W.widen (k := 0) (n := 0) (by omega) (by omega) ?_
    have hP9 := hP
    have hD9 := hD
    have hK9 := hK.sub (tys' := []) [] rfl
    exact W.zret (v := 0) hx hb hr (by first | rfl | decide) (fun t ht hW => ⟨⟨0, (), rfl, ⟨(Eq.symm ((by rw [fx_canBeSaid]; (try rw [if_neg h_1]); (try rw [if_neg h_3]); (try rw [if_neg h_5]); (try rw [if_pos c_10]); try rfl))), Or.inl rfl⟩, by rw [ht]; exact hP9, va_K.moved hW.alike hK9, hD9⟩, hS.F ht⟩) hS.2.2 dX11_canBeSaid_109
  · refine lv_iload_n hx hb dX11_canBeSaid_82 rfl (lv_at hl 1 rfl) ?_
    refine va_gets hx hb hXL.2.2.2.1 hS hown (htw _ (ck_52 _ (List.mem_of_getElem? (i := 23) rfl))) (fun _ h9 => h9) dX11_canBeSaid_83 ?_
    refine va_tlen hx hb hXL.2.2.2.2.1 hS (v := 5) rfl dX11_canBeSaid_86 ?_
    refine lv_icmp_ge (tgt := 108) hx hb dX11_canBeSaid_87 (by decide) (fun c_11 => ?_) (fun c_11 => ?_)
    · refine lv_iconst (v := 0) hx hb dX11_canBeSaid_108 (by decide) ?_
      refine W.widen (k := 0) (n := 0) (by omega) (by omega) ?_
      have hP9 := hP
      have hD9 := hD
      have hK9 := hK.sub (tys' := []) [] rfl
      exact W.zret (v := 0) hx hb hr (by first | rfl | decide) (fun t ht hW => ⟨⟨0, (), rfl, ⟨(Eq.symm ((by rw [fx_canBeSaid]; (try rw [if_neg h_1]); (try rw [if_neg h_3]); (try rw [if_neg h_5]); (try rw [if_neg c_10]); (try rw [if_pos c_11]); try rfl))), Or.inl rfl⟩, by rw [ht]; exact hP9, va_K.moved hW.alike hK9, hD9⟩, hS.F ht⟩) hS.2.2 dX11_canBeSaid_109
    · refine lv_iload_n hx hb dX11_canBeSaid_90 rfl (lv_at hl 2 rfl) ?_
      refine va_gets hx hb hXL.2.2.2.1 hS hown (htw _ (ck_52 _ (List.mem_of_getElem? (i := 23) rfl))) (fun _ h9 => h9) dX11_canBeSaid_91 ?_
      refine lv_iload_n hx hb dX11_canBeSaid_94 rfl (lv_at hl 1 rfl) ?_
      refine va_ti hx hb hXL.2.2.2.2.1 hS (xg_inr (N := 5) rfl (gx_canBeSaid_s0 (y0 := a0) h_1 h_3 h_5 c_10 c_11).1 (gx_canBeSaid_s0 (y0 := a0) h_1 h_3 h_5 c_10 c_11).2) (v := .int (xk_least a0.toNatClampNeg)) rfl dX11_canBeSaid_95 ?_
      refine lv_icmp_lt (tgt := 108) hx hb dX11_canBeSaid_96 (by decide) (fun c_12 => ?_) (fun c_12 => ?_)
      · refine lv_iconst (v := 0) hx hb dX11_canBeSaid_108 (by decide) ?_
        refine W.widen (k := 0) (n := 0) (by omega) (by omega) ?_
        have hP9 := hP
        have hD9 := hD
        have hK9 := hK.sub (tys' := []) [] rfl
        exact W.zret (v := 0) hx hb hr (by first | rfl | decide) (fun t ht hW => ⟨⟨0, (), rfl, ⟨(Eq.symm ((by rw [fx_canBeSaid]; (try rw [if_neg h_1]); (try rw [if_neg h_3]); (try rw [if_neg h_5]); (try rw [if_neg c_10]); (try rw [if_neg c_11]); (try rw [if_pos c_12]); try rfl))), Or.inl rfl⟩, by rw [ht]; exact hP9, va_K.moved hW.alike hK9, hD9⟩, hS.F ht⟩) hS.2.2 dX11_canBeSaid_109
      · refine lv_iload_n hx hb dX11_canBeSaid_99 rfl (lv_at hl 2 rfl) ?_
        refine va_gets hx hb hXL.2.2.2.2.2.1 hS hown (htw _ (ck_53 _ (List.mem_of_getElem? (i := 0) rfl))) (fun _ h9 => h9) dX11_canBeSaid_100 ?_
        refine lv_iload_n hx hb dX11_canBeSaid_103 rfl (lv_at hl 1 rfl) ?_
        refine va_ti hx hb hXL.2.2.2.2.2.2.1 hS (xg_inr (N := 5) rfl (gx_canBeSaid_s1 (y0 := a0) h_1 h_3 h_5 c_10 c_11).1 (gx_canBeSaid_s1 (y0 := a0) h_1 h_3 h_5 c_10 c_11).2) (v := .int (xk_mosts a0.toNatClampNeg)) rfl dX11_canBeSaid_104 ?_
        refine lv_icmp_le (tgt := 110) hx hb dX11_canBeSaid_105 (by decide) (fun c_13 => ?_) (fun c_13 => ?_)
        · refine lv_iload_n hx hb dX11_canBeSaid_110 rfl (lv_at hl 1 rfl) ?_
          refine lv_if_ne (tgt := 128) hx hb dX11_canBeSaid_111 (by decide) (fun c_14 => ?_) (fun c_14 => ?_)
          · refine lv_iconst (v := 1) hx hb dX11_canBeSaid_128 (by decide) ?_
            refine lv_goto (tgt := 133) hx hb dX11_canBeSaid_129 (by decide) ?_
            refine W.widen (k := 0) (n := 0) (by omega) (by omega) ?_
            have hP9 := hP
            have hD9 := hD
            have hK9 := hK.sub (tys' := []) [] rfl
            exact W.zret (v := 1) hx hb hr (by first | rfl | decide) (fun t ht hW => ⟨⟨1, (), rfl, ⟨(Eq.symm ((by rw [fx_canBeSaid]; (try rw [if_neg h_1]); (try rw [if_neg h_3]); (try rw [if_neg h_5]); (try rw [if_neg c_10]); (try rw [if_neg c_11]); (try rw [if_neg c_12]); (try rw [if_pos c_13]); (try rw [if_neg c_14]); try rfl))), Or.inr rfl⟩, by rw [ht]; exact hP9, va_K.moved hW.alike hK9, hD9⟩, hS.F ht⟩) hS.2.2 dX11_canBeSaid_133
          · refine lv_iload_n hx hb dX11_canBeSaid_114 rfl (lv_at hl 3 rfl) ?_
            refine lv_iload_n hx hb dX11_canBeSaid_115 rfl (lv_at hl 2 rfl) ?_
            refine lv_icmp_lt (tgt := 132) hx hb dX11_canBeSaid_116 (by decide) (fun c_15 => ?_) (fun c_15 => ?_)
            · refine lv_iconst (v := 0) hx hb dX11_canBeSaid_132 (by decide) ?_
              refine W.widen (k := 0) (n := 0) (by omega) (by omega) ?_
              have hP9 := hP
              have hD9 := hD
              have hK9 := hK.sub (tys' := []) [] rfl
              exact W.zret (v := 0) hx hb hr (by first | rfl | decide) (fun t ht hW => ⟨⟨0, (), rfl, ⟨(Eq.symm ((by rw [fx_canBeSaid]; (try rw [if_neg h_1]); (try rw [if_neg h_3]); (try rw [if_neg h_5]); (try rw [if_neg c_10]); (try rw [if_neg c_11]); (try rw [if_neg c_12]); (try rw [if_pos c_13]); (try rw [if_pos c_14]); (try rw [if_pos c_15]); try rfl))), Or.inl rfl⟩, by rw [ht]; exact hP9, va_K.moved hW.alike hK9, hD9⟩, hS.F ht⟩) hS.2.2 dX11_canBeSaid_133
            · refine lv_iload_n hx hb dX11_canBeSaid_119 rfl (lv_at hl 3 rfl) ?_
              refine va_gets hx hb hXL.2.2.2.2.2.1 hS hown (htw _ (ck_53 _ (List.mem_of_getElem? (i := 0) rfl))) (fun _ h9 => h9) dX11_canBeSaid_120 ?_
              refine lv_iload_n hx hb dX11_canBeSaid_123 rfl (lv_at hl 1 rfl) ?_
              refine va_ti hx hb hXL.2.2.2.2.2.2.1 hS (xg_inr (N := 5) rfl (gx_canBeSaid_s2 (y0 := a0) h_1 h_3 h_5 c_10 c_11 c_14).1 (gx_canBeSaid_s2 (y0 := a0) h_1 h_3 h_5 c_10 c_11 c_14).2) (v := .int (xk_mosts a0.toNatClampNeg)) rfl dX11_canBeSaid_124 ?_
              refine lv_icmp_gt (tgt := 132) hx hb dX11_canBeSaid_125 (by decide) (fun c_16 => ?_) (fun c_16 => ?_)
              · refine lv_iconst (v := 0) hx hb dX11_canBeSaid_132 (by decide) ?_
                refine W.widen (k := 0) (n := 0) (by omega) (by omega) ?_
                have hP9 := hP
                have hD9 := hD
                have hK9 := hK.sub (tys' := []) [] rfl
                exact W.zret (v := 0) hx hb hr (by first | rfl | decide) (fun t ht hW => ⟨⟨0, (), rfl, ⟨(Eq.symm ((by rw [fx_canBeSaid]; (try rw [if_neg h_1]); (try rw [if_neg h_3]); (try rw [if_neg h_5]); (try rw [if_neg c_10]); (try rw [if_neg c_11]); (try rw [if_neg c_12]); (try rw [if_pos c_13]); (try rw [if_pos c_14]); (try rw [if_neg c_15]); (try rw [if_pos c_16]); try rfl))), Or.inl rfl⟩, by rw [ht]; exact hP9, va_K.moved hW.alike hK9, hD9⟩, hS.F ht⟩) hS.2.2 dX11_canBeSaid_133
              · refine lv_iconst (v := 1) hx hb dX11_canBeSaid_128 (by decide) ?_
                refine lv_goto (tgt := 133) hx hb dX11_canBeSaid_129 (by decide) ?_
                refine W.widen (k := 0) (n := 0) (by omega) (by omega) ?_
                have hP9 := hP
                have hD9 := hD
                have hK9 := hK.sub (tys' := []) [] rfl
                exact W.zret (v := 1) hx hb hr (by first | rfl | decide) (fun t ht hW => ⟨⟨1, (), rfl, ⟨(Eq.symm ((by rw [fx_canBeSaid]; (try rw [if_neg h_1]); (try rw [if_neg h_3]); (try rw [if_neg h_5]); (try rw [if_neg c_10]); (try rw [if_neg c_11]); (try rw [if_neg c_12]); (try rw [if_pos c_13]); (try rw [if_pos c_14]); (try rw [if_neg c_15]); (try rw [if_neg c_16]); try rfl))), Or.inr rfl⟩, by rw [ht]; exact hP9, va_K.moved hW.alike hK9, hD9⟩, hS.F ht⟩) hS.2.2 dX11_canBeSaid_133
        · refine lv_iconst (v := 0) hx hb dX11_canBeSaid_108 (by decide) ?_
          refine W.widen (k := 0) (n := 0) (by omega) (by omega) ?_
          have hP9 := hP
          have hD9 := hD
          have hK9 := hK.sub (tys' := []) [] rfl
          exact W.zret (v := 0) hx hb hr (by first | rfl | decide) (fun t ht hW => ⟨⟨0, (), rfl, ⟨(Eq.symm ((by rw [fx_canBeSaid]; (try rw [if_neg h_1]); (try rw [if_neg h_3]); (try rw [if_neg h_5]); (try rw [if_neg c_10]); (try rw [if_neg c_11]); (try rw [if_neg c_12]); (try rw [if_neg c_13]); try rfl))), Or.inl rfl⟩, by rw [ht]; exact hP9, va_K.moved hW.alike hK9, hD9⟩, hS.F ht⟩) hS.2.2 dX11_canBeSaid_109

def fx_says (xsc : Int32) (fSt : Nat → Int32) (dfr : Int32) (fTo : Nat → Int32) (ns : Int32) (fNs : Nat → Int32) (fNf : Nat → Int32) (fNz : Nat → Int32) (a0 : Int32) (a1 : Int32) (a2 : Int32) : Int32 × (Int32) × (Nat → Int32) × (Int32) × (Nat → Int32) × (Nat → Int32) × (Nat → Int32) := (if a0 < 0 then ((0 : Int32), xsc, fSt, dfr, fNs, fNf, fNz) else (if 8 ≤ a0 then ((0 : Int32), xsc, fSt, dfr, fNs, fNf, fNz) else (if (ns - 1) < 0 then ((0 : Int32), xsc, fSt, dfr, fNs, fNf, fNz) else (if xsc < 108 then (xL (fn_does fNs (ns - 1) a0) (fun r_5 => (if r_5 = 0 then (xL ((fx_canBeSaid fTo a0 a1 a2 (ns - 1))) (fun r_7 => (if r_7 = 0 then ((0 : Int32), xsc, fSt, dfr, fNs, fNf, fNz) else (xL ((fn_add fNs fNf fNz (ns - 1) a0 a1 a2)) (fun u_11 => (xL ((fd_stale dfr (ns - 1))) (fun u_16 => ((1 : Int32), (xsc + 1), (upd fSt xsc.toNatClampNeg a0), u_16, u_11.1, u_11.2.1, u_11.2.2)))))))) else ((0 : Int32), xsc, fSt, dfr, fNs, fNf, fNz)))) else ((0 : Int32), xsc, fSt, dfr, fNs, fNf, fNz)))))
theorem gx_says_s0 {y0 : Int32} (h0 : ¬ (y0 < 0)) (h1 : y0 ≤ 108) : ¬ (y0 < 0) := h0
theorem gx_says_s1 {y0 : Int32} (h0 : ¬ (y0 < 0)) (h1 : y0 ≤ 108) : y0 ≤ 108 := h1
theorem gx_says_s2 {y0 : Int32} (h0 : ¬ (y0 < 0)) (h1 : y0 ≤ 108) : ¬ (y0 < 0) := h0
theorem gx_says_s3 {y0 : Int32} (h0 : ¬ (y0 < 0)) (h1 : y0 ≤ 108) : y0 ≤ 108 := h1
theorem gx_says_s4 {y0 : Int32} (h0 : ¬ (y0 < 0)) (h1 : y0 ≤ 108) : ¬ (y0 < 0) := h0
theorem gx_says_s5 {y0 : Int32} (h0 : ¬ (y0 < 0)) (h1 : y0 ≤ 108) : y0 ≤ 108 := h1
theorem gx_says_s6 {y0 : Int32} (h0 : y0 < 108) (h1 : ¬ (y0 < 0)) (h2 : y0 ≤ 108) : ¬ (y0 < 0) := h1
theorem gx_says_s7 {y0 : Int32} (h0 : y0 < 108) (h1 : ¬ (y0 < 0)) (h2 : y0 ≤ 108) : y0 ≤ 108 := h2
theorem gx_says_s8 {y0 : Int32} (h0 : y0 < 108) (h1 : ¬ (y0 < 0)) (h2 : y0 ≤ 108) : ¬ (y0 < 0) ∧ ¬ (108 ≤ y0) := by lia
theorem gx_says_s9 {y0 : Int32} (h0 : y0 < 108) (h1 : ¬ (y0 < 0)) (h2 : y0 ≤ 108) : ¬ ((y0 + 1) < 0) := by lia
theorem gx_says_s10 {y0 : Int32} (h0 : y0 < 108) (h1 : ¬ (y0 < 0)) (h2 : y0 ≤ 108) : (y0 + 1) ≤ 108 := by lia
theorem gx_says_s11 {y0 : Int32} (h0 : y0 < 108) (h1 : ¬ (y0 < 0)) (h2 : y0 ≤ 108) : ¬ (y0 < 0) := h1
theorem gx_says_s12 {y0 : Int32} (h0 : y0 < 108) (h1 : ¬ (y0 < 0)) (h2 : y0 ≤ 108) : y0 ≤ 108 := h2
theorem gx_says_s13 {y0 : Int32} (h0 : ¬ (y0 < 108)) (h1 : ¬ (y0 < 0)) (h2 : y0 ≤ 108) : ¬ (y0 < 0) := h1
theorem gx_says_s14 {y0 : Int32} (h0 : ¬ (y0 < 108)) (h1 : ¬ (y0 < 0)) (h2 : y0 ≤ 108) : y0 ≤ 108 := h2
theorem dX11_says_0 : decode cX11_says 0 = .ok (.aload_n 0, 1) := zk_42 (by decide +kernel)
theorem dX11_says_1 : decode cX11_says 1 = .ok (.getfield 19, 3) := zk_180 (by decide +kernel)
theorem dX11_says_4 : decode cX11_says 4 = .ok (.getfield 290, 3) := zk_180 (by decide +kernel)
theorem dX11_says_7 : decode cX11_says 7 = .ok (.astore 4, 2) := zk_58 (by decide +kernel)
theorem dX11_says_9 : decode cX11_says 9 = .ok (.aload 4, 2) := zk_25 (by decide +kernel)
theorem dX11_says_11 : decode cX11_says 11 = .ok (.getfield 293, 3) := zk_180 (by decide +kernel)
theorem dX11_says_14 : decode cX11_says 14 = .ok (.iconst 1, 1) := zk_4 (by decide +kernel)
theorem dX11_says_15 : decode cX11_says 15 = .ok (.isub, 1) := zk_100 (by decide +kernel)
theorem dX11_says_16 : decode cX11_says 16 = .ok (.istore 5, 2) := zk_54 (by decide +kernel)
theorem dX11_says_18 : decode cX11_says 18 = .ok (.iload_n 1, 1) := zk_27 (by decide +kernel)
theorem dX11_says_19 : decode cX11_says 19 = .ok (.ifCond .lt 26, 3) := zk_155 (by decide +kernel)
theorem dX11_says_45 : decode cX11_says 45 = .ok (.iconst 0, 1) := zk_3 (by decide +kernel)
theorem dX11_says_46 : decode cX11_says 46 = .ok (.ireturn, 1) := zk_172 (by decide +kernel)
theorem dX11_says_22 : decode cX11_says 22 = .ok (.iload_n 1, 1) := zk_27 (by decide +kernel)
theorem dX11_says_23 : decode cX11_says 23 = .ok (.bipush 8, 2) := zk_16 (by decide +kernel)
theorem dX11_says_25 : decode cX11_says 25 = .ok (.if_icmp .ge 20, 3) := zk_162 (by decide +kernel)
theorem dX11_says_28 : decode cX11_says 28 = .ok (.iload 5, 2) := zk_21 (by decide +kernel)
theorem dX11_says_30 : decode cX11_says 30 = .ok (.ifCond .lt 15, 3) := zk_155 (by decide +kernel)
theorem dX11_says_33 : decode cX11_says 33 = .ok (.aload_n 0, 1) := zk_42 (by decide +kernel)
theorem dX11_says_34 : decode cX11_says 34 = .ok (.getfield 92, 3) := zk_180 (by decide +kernel)
theorem dX11_says_37 : decode cX11_says 37 = .ok (.aload_n 0, 1) := zk_42 (by decide +kernel)
theorem dX11_says_38 : decode cX11_says 38 = .ok (.getfield 40, 3) := zk_180 (by decide +kernel)
theorem dX11_says_41 : decode cX11_says 41 = .ok (.arraylength, 1) := zk_190 (by decide +kernel)
theorem dX11_says_42 : decode cX11_says 42 = .ok (.if_icmp .lt 5, 3) := zk_161 (by decide +kernel)
theorem dX11_says_47 : decode cX11_says 47 = .ok (.aload 4, 2) := zk_25 (by decide +kernel)
theorem dX11_says_49 : decode cX11_says 49 = .ok (.iload 5, 2) := zk_21 (by decide +kernel)
theorem dX11_says_51 : decode cX11_says 51 = .ok (.iload_n 1, 1) := zk_27 (by decide +kernel)
theorem dX11_says_52 : decode cX11_says 52 = .ok (.invokevirtual 297, 3) := zk_182 (by decide +kernel)
theorem dX11_says_55 : decode cX11_says 55 = .ok (.ifCond .ne 15, 3) := zk_154 (by decide +kernel)
theorem dX11_says_70 : decode cX11_says 70 = .ok (.iconst 0, 1) := zk_3 (by decide +kernel)
theorem dX11_says_71 : decode cX11_says 71 = .ok (.ireturn, 1) := zk_172 (by decide +kernel)
theorem dX11_says_58 : decode cX11_says 58 = .ok (.aload_n 0, 1) := zk_42 (by decide +kernel)
theorem dX11_says_59 : decode cX11_says 59 = .ok (.iload_n 1, 1) := zk_27 (by decide +kernel)
theorem dX11_says_60 : decode cX11_says 60 = .ok (.iload_n 2, 1) := zk_28 (by decide +kernel)
theorem dX11_says_61 : decode cX11_says 61 = .ok (.iload_n 3, 1) := zk_29 (by decide +kernel)
theorem dX11_says_62 : decode cX11_says 62 = .ok (.iload 5, 2) := zk_21 (by decide +kernel)
theorem dX11_says_64 : decode cX11_says 64 = .ok (.invokevirtual 300, 3) := zk_182 (by decide +kernel)
theorem dX11_says_67 : decode cX11_says 67 = .ok (.ifCond .ne 5, 3) := zk_154 (by decide +kernel)
theorem dX11_says_72 : decode cX11_says 72 = .ok (.aload 4, 2) := zk_25 (by decide +kernel)
theorem dX11_says_74 : decode cX11_says 74 = .ok (.iload 5, 2) := zk_21 (by decide +kernel)
theorem dX11_says_76 : decode cX11_says 76 = .ok (.iload_n 1, 1) := zk_27 (by decide +kernel)
theorem dX11_says_77 : decode cX11_says 77 = .ok (.iload_n 2, 1) := zk_28 (by decide +kernel)
theorem dX11_says_78 : decode cX11_says 78 = .ok (.iload_n 3, 1) := zk_29 (by decide +kernel)
theorem dX11_says_79 : decode cX11_says 79 = .ok (.invokevirtual 304, 3) := zk_182 (by decide +kernel)
theorem dX11_says_82 : decode cX11_says 82 = .ok (.aload_n 0, 1) := zk_42 (by decide +kernel)
theorem dX11_says_83 : decode cX11_says 83 = .ok (.getfield 29, 3) := zk_180 (by decide +kernel)
theorem dX11_says_86 : decode cX11_says 86 = .ok (.iload 5, 2) := zk_21 (by decide +kernel)
theorem dX11_says_88 : decode cX11_says 88 = .ok (.invokevirtual 89, 3) := zk_182 (by decide +kernel)
theorem dX11_says_91 : decode cX11_says 91 = .ok (.aload_n 0, 1) := zk_42 (by decide +kernel)
theorem dX11_says_92 : decode cX11_says 92 = .ok (.getfield 40, 3) := zk_180 (by decide +kernel)
theorem dX11_says_95 : decode cX11_says 95 = .ok (.aload_n 0, 1) := zk_42 (by decide +kernel)
theorem dX11_says_96 : decode cX11_says 96 = .ok (.getfield 92, 3) := zk_180 (by decide +kernel)
theorem dX11_says_99 : decode cX11_says 99 = .ok (.iload_n 1, 1) := zk_27 (by decide +kernel)
theorem dX11_says_100 : decode cX11_says 100 = .ok (.iastore, 1) := zk_79 (by decide +kernel)
theorem dX11_says_101 : decode cX11_says 101 = .ok (.aload_n 0, 1) := zk_42 (by decide +kernel)
theorem dX11_says_102 : decode cX11_says 102 = .ok (.dup, 1) := zk_89 (by decide +kernel)
theorem dX11_says_103 : decode cX11_says 103 = .ok (.getfield 92, 3) := zk_180 (by decide +kernel)
theorem dX11_says_106 : decode cX11_says 106 = .ok (.iconst 1, 1) := zk_4 (by decide +kernel)
theorem dX11_says_107 : decode cX11_says 107 = .ok (.iadd, 1) := zk_96 (by decide +kernel)
theorem dX11_says_108 : decode cX11_says 108 = .ok (.putfield 92, 3) := zk_181 (by decide +kernel)
theorem dX11_says_111 : decode cX11_says 111 = .ok (.iconst 1, 1) := zk_4 (by decide +kernel)
theorem dX11_says_112 : decode cX11_says 112 = .ok (.ireturn, 1) := zk_172 (by decide +kernel)
set_option maxHeartbeats 4000000 in
set_option maxRecDepth 100000 in
theorem gx_says (l : Launch) (hst : l.stackTraces = false) (dC : Nat → ClassId) (dI : Nat → Nat → Nat) (x : Nat) (pa : Nat) (bk : Nat) (xsp : Nat) (xdy : Nat) (le : Nat) (xst : Nat) (xsc : Int32) (xim : Nat) (xil : Nat) (xik : Int32) (xmo : Nat) (xom : Nat) (wi : Nat) (cSt : ClassId) (fSt : Nat → Int32) (drw : Nat) (dfr : Int32) (dsh : Nat) (dto : Nat) (dmo : Nat) (dwi : Nat) (bto : Nat) (bnm : Nat) (bla : Nat) (bsk : Nat) (bru : Nat) (bbo : Nat) (bdi : Nat) (bda : Nat) (bdk : Nat) (bdt : Nat) (bdp : Nat) (bno : Nat) (cTo : ClassId) (fTo : Nat → Int32) (ns : Int32) (nsa : Nat) (nfa : Nat) (nza : Nat) (cNs : ClassId) (fNs : Nat → Int32) (cNf : ClassId) (fNf : Nat → Int32) (cNz : ClassId) (fNz : Nat → Int32) (a0 : Int32) (a1 : Int32) (a2 : Int32) (sL : Nat → Nat) (sz : Nat) (h0_sc : ¬ xsc < 0) (h8_sc : xsc ≤ 108) : Met l yX11_says (Cond.code yX11_says cX11_says 6 (some .boolean) :: wsL_law) ({ frames := 2, cells := 0, slots := 0, locals := 47 }) (va_Pc [.ref x, .int a0, .int a1, .int a2] (fun U => U.heap.size = sz ∧ va_P (dC, dI) vwCl [(eO11a x pa bk xsp xdy le xst xsc xim xil xik xmo xom wi), (eA0 xst cSt 108 fSt), (eO5a xdy drw dfr dsh dto dmo dwi), (eO0a bk bto bnm bla bsk bru bbo bdi bda bdk bdt bdp bno), (eA0 bto cTo 5 fTo), (eO6a bno ns nsa nfa nza), (eA0 nsa cNs 12 fNs), (eA0 nfa cNf 96 fNf), (eA0 nza cNz 96 fNz)] U.heap ∧ va_K (dC, dI) vwCl [(cSt, .int), (cTo, .int), (cNs, .int), (cNf, .int), (cNz, .int)] U ∧ va_D (fun _ => True) [(eO11a x pa bk xsp xdy le xst xsc xim xil xik xmo xom wi), (eA0 xst cSt 108 fSt), (eO5a xdy drw dfr dsh dto dmo dwi), (eO0a bk bto bnm bla bsk bru bbo bdi bda bdk bdt bdp bno), (eA0 bto cTo 5 fTo), (eO6a bno ns nsa nfa nza), (eA0 nsa cNs 12 fNs), (eA0 nfa cNf 96 fNf), (eA0 nza cNz 96 fNz)] ∧ xl sL (va_A [(eO11a x pa bk xsp xdy le xst xsc xim xil xik xmo xom wi), (eA0 xst cSt 108 fSt), (eO5a xdy drw dfr dsh dto dmo dwi), (eO0a bk bto bnm bla bsk bru bbo bdi bda bdk bdt bdp bno), (eA0 bto cTo 5 fTo), (eO6a bno ns nsa nfa nza), (eA0 nsa cNs 12 fNs), (eA0 nfa cNf 96 fNf), (eA0 nza cNz 96 fNz)] sz) U U.heap)) (va_Qi (fun (r : Int32) (u : (Int32) × (Nat → Int32) × (Int32) × (Nat → Int32) × (Nat → Int32) × (Nat → Int32)) => (r = (fx_says xsc fSt dfr fTo ns fNs fNf fNz a0 a1 a2).1 ∧ u = (fx_says xsc fSt dfr fTo ns fNs fNf fNz a0 a1 a2).2) ∧ (r = 0 ∨ r = 1) ∧ (¬ u.1 < 0) ∧ (u.1 ≤ 108)) (fun (u : (Int32) × (Nat → Int32) × (Int32) × (Nat → Int32) × (Nat → Int32) × (Nat → Int32)) t => va_P (dC, dI) vwCl [(eO11a x pa bk xsp xdy le xst u.1 xim xil xik xmo xom wi), (eA0 xst cSt 108 u.2.1), (eO5a xdy drw u.2.2.1 dsh dto dmo dwi), (eO0a bk bto bnm bla bsk bru bbo bdi bda bdk bdt bdp bno), (eA0 bto cTo 5 fTo), (eO6a bno ns nsa nfa nza), (eA0 nsa cNs 12 u.2.2.2.1), (eA0 nfa cNf 96 u.2.2.2.2.1), (eA0 nza cNz 96 u.2.2.2.2.2)] t.heap ∧ va_K (dC, dI) vwCl [] t ∧ va_D (va_A [(eO11a x pa bk xsp xdy le xst xsc xim xil xik xmo xom wi), (eA0 xst cSt 108 fSt), (eO5a xdy drw dfr dsh dto dmo dwi), (eO0a bk bto bnm bla bsk bru bbo bdi bda bdk bdt bdp bno), (eA0 bto cTo 5 fTo), (eO6a bno ns nsa nfa nza), (eA0 nsa cNs 12 fNs), (eA0 nfa cNf 96 fNf), (eA0 nza cNz 96 fNz)] sz) [(eO11a x pa bk xsp xdy le xst u.1 xim xil xik xmo xom wi), (eA0 xst cSt 108 u.2.1), (eO5a xdy drw u.2.2.1 dsh dto dmo dwi), (eO0a bk bto bnm bla bsk bru bbo bdi bda bdk bdt bdp bno), (eA0 bto cTo 5 fTo), (eO6a bno ns nsa nfa nza), (eA0 nsa cNs 12 u.2.2.2.1), (eA0 nfa cNf 96 u.2.2.2.2.1), (eA0 nza cNz 96 u.2.2.2.2.2)]) (va_A [(eO11a x pa bk xsp xdy le xst xsc xim xil xik xmo xom wi), (eA0 xst cSt 108 fSt), (eO5a xdy drw dfr dsh dto dmo dwi), (eO0a bk bto bnm bla bsk bru bbo bdi bda bdk bdt bdp bno), (eA0 bto cTo 5 fTo), (eO6a bno ns nsa nfa nza), (eA0 nsa cNs 12 fNs), (eA0 nfa cNf 96 fNf), (eA0 nza cNz 96 fNz)] sz)) 0 0 (va_A [(eO11a x pa bk xsp xdy le xst xsc xim xil xik xmo xom wi), (eA0 xst cSt 108 fSt), (eO5a xdy drw dfr dsh dto dmo dwi), (eO0a bk bto bnm bla bsk bru bbo bdi bda bdk bdt bdp bno), (eA0 bto cTo 5 fTo), (eO6a bno ns nsa nfa nza), (eA0 nsa cNs 12 fNs), (eA0 nfa cNf 96 fNf), (eA0 nza cNz 96 fNz)] sz) := by
  refine Met.ofW (cc := cX11_says) (maxL := 6) (ret := (some .boolean)) (by decide) rfl ?_
  intro p e s m args below meth c s₁ B hml hv
  obtain ⟨rfl, hsz, hP, hK, hD0, hXL⟩ := hv
  have hx := B.exec
  have hb := B.bytes
  have hr := B.returns
  have hts := atoms_spec (ws := Cond.code yX11_says cX11_says 6 (some .boolean) :: wsL_law) B.pre
  have htw : ∀ w ∈ wsL_law, w.before _ s = true := fun w h => hts w (List.mem_cons_of_mem _ h)
  have hown : s.vm.findClass RX11 = some m.cls := findClass_of_methodNamed B.named
  have hlocks := B.notSynchronized
  subst hsz
  have hD := hD0.self (sz := s.heap.size)
  generalize hAe : va_A [(eO11a x pa bk xsp xdy le xst xsc xim xil xik xmo xom wi), (eA0 xst cSt 108 fSt), (eO5a xdy drw dfr dsh dto dmo dwi), (eO0a bk bto bnm bla bsk bru bbo bdi bda bdk bdt bdp bno), (eA0 bto cTo 5 fTo), (eO6a bno ns nsa nfa nza), (eA0 nsa cNs 12 fNs), (eA0 nfa cNf 96 fNf), (eA0 nza cNz 96 fNz)] s.heap.size = A at hD hXL ⊢
  have hA : ∀ q : Nat, s.heap.size ≤ q → A q := fun q h => by rw [← hAe]; exact Or.inr h
  obtain ⟨H, rH⟩ : ∃ z : Heap, z = s.heap := ⟨_, rfl⟩
  have hS : va_S A s.heap H [] := by rw [rH]; exact va_S.rf
  have hP : va_P (dC, dI) vwCl [(eO11a x pa bk xsp xdy le xst xsc xim xil xik xmo xom wi), (eA0 xst cSt 108 fSt), (eO5a xdy drw dfr dsh dto dmo dwi), (eO0a bk bto bnm bla bsk bru bbo bdi bda bdk bdt bdp bno), (eA0 bto cTo 5 fTo), (eO6a bno ns nsa nfa nza), (eA0 nsa cNs 12 fNs), (eA0 nfa cNf 96 fNf), (eA0 nza cNz 96 fNz)] H := by rw [rH]; exact hP
  rw [← rH]
  have hl := lv_entry ([.ref x, .int a0, .int a1, .int a2]) (n := 6) (Nat.le_of_ble_eq_true rfl)
  rw [lg_entry_eq]
  generalize (lg_sl ([.ref x, .int a0, .int a1, .int a2]) ++ List.replicate (6 - (lg_sl ([.ref x, .int a0, .int a1, .int a2])).length) Slot.unset).toArray = ls at hl ⊢
  have hl : lv_has ls 6 [(0, .ref x), (1, .int a0), (2, .int a1), (3, .int a2)] := hl
  refine lv_aload_n hx hb dX11_says_0 rfl (lv_at hl 0 rfl) ?_
  refine va_get (D := (dC, dI)) (ci := 11) (v := .ref bk) (C := RX11) (T := TX11) (N := 13) hx hb htw inlX11 hown hK hP 0 rfl rfl 1 (by decide) (htw _ (ck_1 _ (List.mem_of_getElem? (i := 21) rfl))) (fun _ h9 => h9) rfl dX11_says_1 ?_
  refine va_get (D := (dC, dI)) (ci := 0) (v := .ref bno) (C := RX0) (T := TX0) (N := 12) hx hb htw inlX0 hown hK hP 3 rfl rfl 11 (by decide) (htw _ (ck_52 _ (List.mem_of_getElem? (i := 7) rfl))) (fun _ h9 => h9) rfl dX11_says_4 ?_
  refine lv_astore (lv' := [(4, .ref bno), (0, .ref x), (1, .int a0), (2, .int a1), (3, .int a2)]) hx hb dX11_says_7 hl (by decide) rfl (fun ls hl => ?_)
  refine lv_aload hx hb dX11_says_9 (lv_at hl 0 rfl) ?_
  refine va_get (D := (dC, dI)) (ci := 6) (v := .int ns) (C := RX6) (T := TX6) (N := 4) hx hb htw inlX6 hown hK hP 5 rfl rfl 0 (by decide) (htw _ (ck_52 _ (List.mem_of_getElem? (i := 8) rfl))) (fun _ h9 => h9) rfl dX11_says_11 ?_
  refine lv_iconst (v := 1) hx hb dX11_says_14 (by decide) ?_
  refine lv_isub hx hb dX11_says_15 ?_
  refine lv_istore (lv' := [(5, .int (ns - 1)), (4, .ref bno), (0, .ref x), (1, .int a0), (2, .int a1), (3, .int a2)]) hx hb dX11_says_16 hl (by decide) rfl (fun ls hl => ?_)
  refine lv_iload_n hx hb dX11_says_18 rfl (lv_at hl 3 rfl) ?_
  refine lv_if_lt (tgt := 45) hx hb dX11_says_19 (by decide) (fun c_1 => ?_) (fun c_1 => ?_)
  · refine lv_iconst (v := 0) hx hb dX11_says_45 (by decide) ?_
    refine W.widen (k := 0) (n := 0) (by omega) (by omega) ?_
    have hP9 := hP
    have hD9 := hD
    have hK9 := hK.sub (tys' := []) [] rfl
    exact W.zret (v := 0) hx hb hr (by first | rfl | decide) (fun t ht hW => ⟨⟨0, (xsc, fSt, dfr, fNs, fNf, fNz), rfl, ⟨((fun e9 => ⟨by rw [e9], by rw [e9]⟩ : fx_says xsc fSt dfr fTo ns fNs fNf fNz a0 a1 a2 = ((0 : Int32), xsc, fSt, dfr, fNs, fNf, fNz) → _) ((by rw [fx_says]; (try rw [if_pos c_1]); try rfl))), Or.inl rfl, (gx_says_s0 (y0 := xsc) h0_sc h8_sc), (gx_says_s1 (y0 := xsc) h0_sc h8_sc)⟩, by rw [ht]; exact hP9, va_K.moved hW.alike hK9, hD9⟩, hS.F ht⟩) hS.2.2 dX11_says_46
  · refine lv_iload_n hx hb dX11_says_22 rfl (lv_at hl 3 rfl) ?_
    refine lv_bipush (v := 8) hx hb dX11_says_23 (by decide) ?_
    refine lv_icmp_ge (tgt := 45) hx hb dX11_says_25 (by decide) (fun c_2 => ?_) (fun c_2 => ?_)
    · refine lv_iconst (v := 0) hx hb dX11_says_45 (by decide) ?_
      refine W.widen (k := 0) (n := 0) (by omega) (by omega) ?_
      have hP9 := hP
      have hD9 := hD
      have hK9 := hK.sub (tys' := []) [] rfl
      exact W.zret (v := 0) hx hb hr (by first | rfl | decide) (fun t ht hW => ⟨⟨0, (xsc, fSt, dfr, fNs, fNf, fNz), rfl, ⟨((fun e9 => ⟨by rw [e9], by rw [e9]⟩ : fx_says xsc fSt dfr fTo ns fNs fNf fNz a0 a1 a2 = ((0 : Int32), xsc, fSt, dfr, fNs, fNf, fNz) → _) ((by rw [fx_says]; (try rw [if_neg c_1]); (try rw [if_pos c_2]); try rfl))), Or.inl rfl, (gx_says_s2 (y0 := xsc) h0_sc h8_sc), (gx_says_s3 (y0 := xsc) h0_sc h8_sc)⟩, by rw [ht]; exact hP9, va_K.moved hW.alike hK9, hD9⟩, hS.F ht⟩) hS.2.2 dX11_says_46
    · refine lv_iload hx hb dX11_says_28 (lv_at hl 0 rfl) ?_
      refine lv_if_lt (tgt := 45) hx hb dX11_says_30 (by decide) (fun c_3 => ?_) (fun c_3 => ?_)
      · refine lv_iconst (v := 0) hx hb dX11_says_45 (by decide) ?_
        refine W.widen (k := 0) (n := 0) (by omega) (by omega) ?_
        have hP9 := hP
        have hD9 := hD
        have hK9 := hK.sub (tys' := []) [] rfl
        exact W.zret (v := 0) hx hb hr (by first | rfl | decide) (fun t ht hW => ⟨⟨0, (xsc, fSt, dfr, fNs, fNf, fNz), rfl, ⟨((fun e9 => ⟨by rw [e9], by rw [e9]⟩ : fx_says xsc fSt dfr fTo ns fNs fNf fNz a0 a1 a2 = ((0 : Int32), xsc, fSt, dfr, fNs, fNf, fNz) → _) ((by rw [fx_says]; (try rw [if_neg c_1]); (try rw [if_neg c_2]); (try rw [if_pos c_3]); try rfl))), Or.inl rfl, (gx_says_s4 (y0 := xsc) h0_sc h8_sc), (gx_says_s5 (y0 := xsc) h0_sc h8_sc)⟩, by rw [ht]; exact hP9, va_K.moved hW.alike hK9, hD9⟩, hS.F ht⟩) hS.2.2 dX11_says_46
      · refine lv_aload_n hx hb dX11_says_33 rfl (lv_at hl 2 rfl) ?_
        refine va_get (D := (dC, dI)) (ci := 11) (v := .int xsc) (C := RX11) (T := TX11) (N := 13) hx hb htw inlX11 hown hK hP 0 rfl rfl 6 (by decide) (htw _ (ck_12 _ (List.mem_of_getElem? (i := 22) rfl))) (fun _ h9 => h9) rfl dX11_says_34 ?_
        refine lv_aload_n hx hb dX11_says_37 rfl (lv_at hl 2 rfl) ?_
        refine va_get (D := (dC, dI)) (ci := 11) (v := .ref xst) (C := RX11) (T := TX11) (N := 13) hx hb htw inlX11 hown hK hP 0 rfl rfl 5 (by decide) (htw _ (ck_2 _ (List.mem_of_getElem? (i := 8) rfl))) (fun _ h9 => h9) rfl dX11_says_38 ?_
        refine va_alen hx hb hK hP 1 0 rfl rfl (v := 108) rfl dX11_says_41 ?_
        refine lv_icmp_lt (tgt := 47) hx hb dX11_says_42 (by decide) (fun c_4 => ?_) (fun c_4 => ?_)
        · refine lv_aload hx hb dX11_says_47 (lv_at hl 1 rfl) ?_
          refine lv_iload hx hb dX11_says_49 (lv_at hl 0 rfl) ?_
          refine lv_iload_n hx hb dX11_says_51 rfl (lv_at hl 3 rfl) ?_
          have hPc := hP.sub (ws' := [(eO6a bno ns nsa nfa nza), (eA0 nsa cNs 12 fNs)]) [5, 6] rfl
          have hKc := hK.sub (tys' := [(cNs, .int)]) [2] rfl
          refine vp_callSi (W.runV (As := [.int (ns - 1), .int a0]) (rest := []) ⟨hx, hb, hml, hown, htw⟩ (gn_does l dC dI bno ns nsa nfa nza cNs fNs (ns - 1) a0) (cwV 2 htw (xg_V (ck_52 _ (List.mem_of_getElem? (i := 18) rfl)) (ck_23 _ (List.mem_of_getElem? (i := 10) rfl)) (ck_23 _ (List.mem_of_getElem? (i := 11) rfl)) (ck_2 _ (List.mem_of_getElem? (i := 11) rfl)) (ck_23 _ (List.mem_of_getElem? (i := 12) rfl))) rfl rfl rfl (by exact ⟨rfl, hdc_3.1, hdc_3.2, hdd_8⟩) ⟨Nat.le_of_ble_eq_true rfl, Nat.le_of_ble_eq_true rfl⟩) ⟨fun a U g mk q => by obtain ⟨q0, qP, qK⟩ := q; exact ⟨q0, qP, va_K.moved (u := U) (U := U.calling g mk a) (Vm.Alike.refl U.vm) qK⟩, va_recv hKc hPc (ci := 6) (q0 := 0) rfl rfl, fun U hU hW => ⟨rfl, by rw [hU]; exact hPc, va_K.moved hW.alike hKc⟩⟩ rfl rfl hl.1 rfl (lv_room (Nat.le_of_ble_eq_true rfl)) dX11_says_52 ⟨Nat.le_of_ble_eq_true rfl, Nat.le_of_ble_eq_true rfl⟩) (fun r_5 hw => ?_)
          try dsimp only at hw
          have hq_r_5 : r_5 = fn_does fNs (ns - 1) a0 := hw
          refine lv_if_ne (tgt := 70) hx hb dX11_says_55 (by decide) (fun c_6 => ?_) (fun c_6 => ?_)
          · refine lv_iconst (v := 0) hx hb dX11_says_70 (by decide) ?_
            refine W.widen (k := 0) (n := 0) (by omega) (by omega) ?_
            have hP9 := hP
            have hD9 := hD
            have hK9 := hK.sub (tys' := []) [] rfl
            exact W.zret (v := 0) hx hb hr (by first | rfl | decide) (fun t ht hW => ⟨⟨0, (xsc, fSt, dfr, fNs, fNf, fNz), rfl, ⟨((fun e9 => ⟨by rw [e9], by rw [e9]⟩ : fx_says xsc fSt dfr fTo ns fNs fNf fNz a0 a1 a2 = ((0 : Int32), xsc, fSt, dfr, fNs, fNf, fNz) → _) ((by rw [fx_says]; (try rw [if_neg c_1]); (try rw [if_neg c_2]); (try rw [if_neg c_3]); (try rw [if_pos c_4]); (try rw [← hq_r_5]); (try rw [xL_eq]); (try rw [if_neg c_6]); try rfl))), Or.inl rfl, (gx_says_s6 (y0 := xsc) c_4 h0_sc h8_sc), (gx_says_s7 (y0 := xsc) c_4 h0_sc h8_sc)⟩, by rw [ht]; exact hP9, va_K.moved hW.alike hK9, hD9⟩, hS.F ht⟩) hS.2.2 dX11_says_71
          · refine lv_aload_n hx hb dX11_says_58 rfl (lv_at hl 2 rfl) ?_
            refine lv_iload_n hx hb dX11_says_59 rfl (lv_at hl 3 rfl) ?_
            refine lv_iload_n hx hb dX11_says_60 rfl (lv_at hl 4 rfl) ?_
            refine lv_iload_n hx hb dX11_says_61 rfl (lv_at hl 5 rfl) ?_
            refine lv_iload hx hb dX11_says_62 (lv_at hl 0 rfl) ?_
            obtain ⟨hPc, hDc, hFc, hCc⟩ := zsub3 (ws' := [(eO11a x pa bk xsp xdy le xst xsc xim xil xik xmo xom wi), (eO0a bk bto bnm bla bsk bru bbo bdi bda bdk bdt bdp bno), (eA0 bto cTo 5 fTo)]) hP hD hS hA [0, 3, 4] (by decide) rfl
            have hKc := hK.sub (tys' := [(cTo, .int)]) [1] rfl
            refine va_calli (va_runV (As := [.int a0, .int a1, .int a2, .int (ns - 1)]) (rest := []) ⟨hx, hb, hml, hown, htw⟩ (gx_canBeSaid l hst dC dI x pa bk xsp xdy le xst xsc xim xil xik xmo xom wi bto bnm bla bsk bru bbo bdi bda bdk bdt bdp bno cTo fTo a0 a1 a2 (ns - 1) sL H.size) (cwV 4 htw (xg_V (ck_52 _ (List.mem_of_getElem? (i := 19) rfl)) (ck_52 _ (List.mem_of_getElem? (i := 20) rfl)) (ck_52 _ (List.mem_of_getElem? (i := 21) rfl)) (ck_1 _ (List.mem_of_getElem? (i := 2) rfl)) (ck_52 _ (List.mem_of_getElem? (i := 22) rfl))) rfl rfl rfl (by exact ⟨rfl, hdc_8.1, hdc_8.2, hdd_44⟩) ⟨Nat.le_of_ble_eq_true rfl, Nat.le_of_ble_eq_true rfl⟩) ⟨fun a U g mk q => by obtain ⟨q0, q1, qP, qK, qD, qx0⟩ := q; exact ⟨q0, q1, qP, va_K.moved (u := U) (U := U.calling g mk a) (Vm.Alike.refl U.vm) qK, qD, xl.calling qx0⟩, va_recv hKc hPc (ci := 11) (q0 := 0) rfl rfl, fun U hU hW => ⟨rfl, by rw [hU], by rw [hU]; exact hPc, va_K.moved hW.alike hKc, hDc.weaken (fun _ _ _ _ => trivial), by rw [hU]; exact xl.warm hW ((xl.kept hXL hS.2.1).narrow hFc)⟩⟩ rfl rfl hl.1 rfl (lv_room (Nat.le_of_ble_eq_true rfl)) dX11_says_64 ⟨Nat.le_of_ble_eq_true rfl, Nat.le_of_ble_eq_true rfl⟩) hS (fun q _ h => hFc q h) hFc (fun r_7 u_8 t H1 locs ht hvm hw hB hz1 hk1 hS => ?_)
            try dsimp only at hw
            obtain ⟨hP1, hK1, hD1⟩ := hB
            rw [ht] at hP1
            have hK1 := va_K.moved hvm.symm hK1
            have hK1 : va_K (dC, dI) vwCl [] s := hK1
            obtain ⟨hP, hD⟩ := va_join (wr := [(eA0 xst cSt 108 fSt), (eO5a xdy drw dfr dsh dto dmo dwi), (eO6a bno ns nsa nfa nza), (eA0 nsa cNs 12 fNs), (eA0 nfa cNf 96 fNf), (eA0 nza cNz 96 fNz)]) (w1 := [(eO11a x pa bk xsp xdy le xst xsc xim xil xik xmo xom wi), (eO0a bk bto bnm bla bsk bru bbo bdi bda bdk bdt bdp bno), (eA0 bto cTo 5 fTo)]) hP hD [0, 3, 4] [1, 2, 5, 6, 7, 8] hCc rfl (by decide) (by decide) hk1 hFc hP1 hD1
            generalize H1 = H at hP hS ⊢
            obtain ⟨hP, hD⟩ := zre [(eA0 xst cSt 108 fSt), (eO5a xdy drw dfr dsh dto dmo dwi), (eO6a bno ns nsa nfa nza), (eA0 nsa cNs 12 fNs), (eA0 nfa cNf 96 fNf), (eA0 nza cNz 96 fNz), (eO11a x pa bk xsp xdy le xst xsc xim xil xik xmo xom wi), (eO0a bk bto bnm bla bsk bru bbo bdi bda bdk bdt bdp bno), (eA0 bto cTo 5 fTo)] hP hD rfl
            refine W.widen (k := 0) (n := 0) (by omega) (by omega) ?_
            obtain ⟨hw, hb_r_7⟩ := hw
            have hq_r_7 : r_7 = (fx_canBeSaid fTo a0 a1 a2 (ns - 1)) := hw
            refine lv_if_ne (tgt := 72) hx hb dX11_says_67 (by decide) (fun c_9 => ?_) (fun c_9 => ?_)
            · refine lv_aload hx hb dX11_says_72 (lv_at hl 1 rfl) ?_
              refine lv_iload hx hb dX11_says_74 (lv_at hl 0 rfl) ?_
              refine lv_iload_n hx hb dX11_says_76 rfl (lv_at hl 3 rfl) ?_
              refine lv_iload_n hx hb dX11_says_77 rfl (lv_at hl 4 rfl) ?_
              refine lv_iload_n hx hb dX11_says_78 rfl (lv_at hl 5 rfl) ?_
              obtain ⟨hPc, hDc, hFc, hCc⟩ := zsub3 (ws' := [(eO6a bno ns nsa nfa nza), (eA0 nsa cNs 12 fNs), (eA0 nfa cNf 96 fNf), (eA0 nza cNz 96 fNz)]) hP hD hS hA [2, 3, 4, 5] (by decide) rfl
              have hKc := hK.sub (tys' := [(cNs, .int), (cNf, .int), (cNz, .int)]) [2, 3, 4] rfl
              refine va_callv (va_runV (As := [.int (ns - 1), .int a0, .int a1, .int a2]) (rest := []) ⟨hx, hb, hml, hown, htw⟩ (gn_add l dC dI bno ns nsa nfa nza cNs fNs cNf fNf cNz fNz (ns - 1) a0 a1 a2 H.size) (cwV 4 htw (xg_V (ck_53 _ (List.mem_of_getElem? (i := 1) rfl)) (ck_23 _ (List.mem_of_getElem? (i := 18) rfl)) (ck_23 _ (List.mem_of_getElem? (i := 19) rfl)) (ck_2 _ (List.mem_of_getElem? (i := 11) rfl)) (ck_23 _ (List.mem_of_getElem? (i := 20) rfl))) rfl rfl rfl (by exact ⟨rfl, hdc_3.1, hdc_3.2, hdd_49⟩) ⟨Nat.le_of_ble_eq_true rfl, Nat.le_of_ble_eq_true rfl⟩) ⟨fun a U g mk q => by obtain ⟨q0, q1, qP, qK, qD⟩ := q; exact ⟨q0, q1, qP, va_K.moved (u := U) (U := U.calling g mk a) (Vm.Alike.refl U.vm) qK, qD⟩, va_recv hKc hPc (ci := 6) (q0 := 0) rfl rfl, fun U hU hW => ⟨rfl, by rw [hU], by rw [hU]; exact hPc, va_K.moved hW.alike hKc, hDc.weaken (fun _ _ _ _ => trivial)⟩⟩ rfl rfl hl.1 rfl (lv_room (Nat.le_of_ble_eq_true rfl)) dX11_says_79 ⟨Nat.le_of_ble_eq_true rfl, Nat.le_of_ble_eq_true rfl⟩) hS (fun q _ h => hFc q h) hFc (fun u_11 t H1 locs ht hvm hw hB hz1 hk1 hS => ?_)
              try dsimp only at hw
              obtain ⟨hP1, hK1, hD1⟩ := hB
              rw [ht] at hP1
              have hK1 := va_K.moved hvm.symm hK1
              have hK1 : va_K (dC, dI) vwCl [] s := hK1
              obtain ⟨hP, hD⟩ := va_join (wr := [(eA0 xst cSt 108 fSt), (eO5a xdy drw dfr dsh dto dmo dwi), (eO11a x pa bk xsp xdy le xst xsc xim xil xik xmo xom wi), (eO0a bk bto bnm bla bsk bru bbo bdi bda bdk bdt bdp bno), (eA0 bto cTo 5 fTo)]) (w1 := [(eO6a bno ns nsa nfa nza), (eA0 nsa cNs 12 u_11.1), (eA0 nfa cNf 96 u_11.2.1), (eA0 nza cNz 96 u_11.2.2)]) hP hD [2, 3, 4, 5] [0, 1, 6, 7, 8] hCc rfl (by decide) (by decide) hk1 hFc hP1 hD1
              generalize H1 = H at hP hS ⊢
              obtain ⟨hP, hD⟩ := zre [(eA0 xst cSt 108 fSt), (eO5a xdy drw dfr dsh dto dmo dwi), (eO11a x pa bk xsp xdy le xst xsc xim xil xik xmo xom wi), (eO0a bk bto bnm bla bsk bru bbo bdi bda bdk bdt bdp bno), (eA0 bto cTo 5 fTo), (eO6a bno ns nsa nfa nza), (eA0 nsa cNs 12 u_11.1), (eA0 nfa cNf 96 u_11.2.1), (eA0 nza cNz 96 u_11.2.2)] hP hD rfl
              refine W.widen (k := 0) (n := 0) (by omega) (by omega) ?_
              have hq_u_11 : u_11 = (fn_add fNs fNf fNz (ns - 1) a0 a1 a2) := hw
              refine lv_aload_n hx hb dX11_says_82 rfl (lv_at hl 2 rfl) ?_
              refine va_get (D := (dC, dI)) (ci := 11) (v := .ref xdy) (C := RX11) (T := TX11) (N := 13) hx hb htw inlX11 hown hK hP 2 rfl rfl 3 (by decide) (htw _ (ck_2 _ (List.mem_of_getElem? (i := 2) rfl))) (fun _ h9 => h9) rfl dX11_says_83 ?_
              refine lv_iload hx hb dX11_says_86 (lv_at hl 0 rfl) ?_
              obtain ⟨hPc, hDc, hFc, hCc⟩ := zsub3 (ws' := [(eO5a xdy drw dfr dsh dto dmo dwi)]) hP hD hS hA [1] (by decide) rfl
              have hKc := hK.sub (tys' := []) [] rfl
              refine va_callv (va_runV (As := [.int (ns - 1)]) (rest := []) ⟨hx, hb, hml, hown, htw⟩ (gd_stale l dC dI xdy drw dfr dsh dto dmo dwi (ns - 1) H.size) (cwV 1 htw (xg_V (ck_24 _ (List.mem_of_getElem? (i := 0) rfl)) (ck_24 _ (List.mem_of_getElem? (i := 1) rfl)) (ck_24 _ (List.mem_of_getElem? (i := 2) rfl)) (ck_2 _ (List.mem_of_getElem? (i := 1) rfl)) (ck_24 _ (List.mem_of_getElem? (i := 3) rfl))) rfl rfl rfl (by exact ⟨rfl, hdc_10.1, hdc_10.2, hdd_9⟩) ⟨Nat.le_of_ble_eq_true rfl, Nat.le_of_ble_eq_true rfl⟩) ⟨fun a U g mk q => by obtain ⟨q0, q1, qP, qK, qD⟩ := q; exact ⟨q0, q1, qP, va_K.moved (u := U) (U := U.calling g mk a) (Vm.Alike.refl U.vm) qK, qD⟩, va_recv hKc hPc (ci := 5) (q0 := 0) rfl rfl, fun U hU hW => ⟨rfl, by rw [hU], by rw [hU]; exact hPc, va_K.moved hW.alike hKc, hDc.weaken (fun _ _ _ _ => trivial)⟩⟩ rfl rfl hl.1 rfl (lv_room (Nat.le_of_ble_eq_true rfl)) dX11_says_88 ⟨Nat.le_of_ble_eq_true rfl, Nat.le_of_ble_eq_true rfl⟩) hS (fun q _ h => hFc q h) hFc (fun u_16 t H1 locs ht hvm hw hB hz1 hk1 hS => ?_)
              try dsimp only at hw
              obtain ⟨hP1, hK1, hD1⟩ := hB
              rw [ht] at hP1
              have hK1 := va_K.moved hvm.symm hK1
              have hK1 : va_K (dC, dI) vwCl [] s := hK1
              obtain ⟨hP, hD⟩ := va_join (wr := [(eA0 xst cSt 108 fSt), (eO11a x pa bk xsp xdy le xst xsc xim xil xik xmo xom wi), (eO0a bk bto bnm bla bsk bru bbo bdi bda bdk bdt bdp bno), (eA0 bto cTo 5 fTo), (eO6a bno ns nsa nfa nza), (eA0 nsa cNs 12 u_11.1), (eA0 nfa cNf 96 u_11.2.1), (eA0 nza cNz 96 u_11.2.2)]) (w1 := [(eO5a xdy drw u_16 dsh dto dmo dwi)]) hP hD [1] [0, 2, 3, 4, 5, 6, 7, 8] hCc rfl (by decide +kernel) (by decide +kernel) hk1 hFc hP1 hD1
              generalize H1 = H at hP hS ⊢
              obtain ⟨hP, hD⟩ := zre [(eA0 xst cSt 108 fSt), (eO11a x pa bk xsp xdy le xst xsc xim xil xik xmo xom wi), (eO0a bk bto bnm bla bsk bru bbo bdi bda bdk bdt bdp bno), (eA0 bto cTo 5 fTo), (eO6a bno ns nsa nfa nza), (eA0 nsa cNs 12 u_11.1), (eA0 nfa cNf 96 u_11.2.1), (eA0 nza cNz 96 u_11.2.2), (eO5a xdy drw u_16 dsh dto dmo dwi)] hP hD rfl
              refine W.widen (k := 0) (n := 0) (by omega) (by omega) ?_
              have hq_u_16 : u_16 = (fd_stale dfr (ns - 1)) := hw
              refine lv_aload_n hx hb dX11_says_91 rfl (lv_at hl 2 rfl) ?_
              refine va_get (D := (dC, dI)) (ci := 11) (v := .ref xst) (C := RX11) (T := TX11) (N := 13) hx hb htw inlX11 hown hK hP 1 rfl rfl 5 (by decide) (htw _ (ck_2 _ (List.mem_of_getElem? (i := 8) rfl))) (fun _ h9 => h9) rfl dX11_says_92 ?_
              refine lv_aload_n hx hb dX11_says_95 rfl (lv_at hl 2 rfl) ?_
              refine va_get (D := (dC, dI)) (ci := 11) (v := .int xsc) (C := RX11) (T := TX11) (N := 13) hx hb htw inlX11 hown hK hP 1 rfl rfl 6 (by decide) (htw _ (ck_12 _ (List.mem_of_getElem? (i := 22) rfl))) (fun _ h9 => h9) rfl dX11_says_96 ?_
              refine lv_iload_n hx hb dX11_says_99 rfl (lv_at hl 3 rfl) ?_
              refine va_iast hx hb hK hP hD hS 0 0 rfl rfl (xg_inr (N := 108) rfl (gx_says_s8 (y0 := xsc) c_4 h0_sc h8_sc).1 (gx_says_s8 (y0 := xsc) c_4 h0_sc h8_sc).2) dX11_says_100 (fun H locs hP hD hS => ?_)
              obtain ⟨hP, hD⟩ := zre [(eA0 xst cSt 108 (upd fSt xsc.toNatClampNeg a0)), (eO11a x pa bk xsp xdy le xst xsc xim xil xik xmo xom wi), (eO0a bk bto bnm bla bsk bru bbo bdi bda bdk bdt bdp bno), (eA0 bto cTo 5 fTo), (eO6a bno ns nsa nfa nza), (eA0 nsa cNs 12 u_11.1), (eA0 nfa cNf 96 u_11.2.1), (eA0 nza cNz 96 u_11.2.2), (eO5a xdy drw u_16 dsh dto dmo dwi)] hP hD rfl
              refine lv_aload_n hx hb dX11_says_101 rfl (lv_at hl 2 rfl) ?_
              refine lv_dup hx hb dX11_says_102 rfl ?_
              refine va_get (D := (dC, dI)) (ci := 11) (v := .int xsc) (C := RX11) (T := TX11) (N := 13) hx hb htw inlX11 hown hK hP 1 rfl rfl 6 (by decide) (htw _ (ck_12 _ (List.mem_of_getElem? (i := 22) rfl))) (fun _ h9 => h9) rfl dX11_says_103 ?_
              refine lv_iconst (v := 1) hx hb dX11_says_106 (by decide) ?_
              refine lv_iadd hx hb dX11_says_107 ?_
              refine va_put (D := (dC, dI)) (ci := 11) (v := .int (xsc + 1)) (ty := tyX11 6) (C := RX11) (T := TX11) (N := 13) hx hb htw inlX11 tyX11 tyX11_ok nmX11 hown hK hP hD hS 1 rfl rfl 6 (by decide) (htw _ (ck_12 _ (List.mem_of_getElem? (i := 22) rfl))) (fun _ h9 => h9) rfl (tyX11_ok 6 (by decide)) rfl rfl (Nat.le_of_ble_eq_true rfl) dX11_says_108 (fun H locs hP hD hS => ?_)
              obtain ⟨hP, hD⟩ := zre [(eA0 xst cSt 108 (upd fSt xsc.toNatClampNeg a0)), (eO11a x pa bk xsp xdy le xst (xsc + 1) xim xil xik xmo xom wi), (eO0a bk bto bnm bla bsk bru bbo bdi bda bdk bdt bdp bno), (eA0 bto cTo 5 fTo), (eO6a bno ns nsa nfa nza), (eA0 nsa cNs 12 u_11.1), (eA0 nfa cNf 96 u_11.2.1), (eA0 nza cNz 96 u_11.2.2), (eO5a xdy drw u_16 dsh dto dmo dwi)] hP hD rfl
              refine lv_iconst (v := 1) hx hb dX11_says_111 (by decide) ?_
              refine W.widen (k := 0) (n := 0) (by omega) (by omega) ?_
              obtain ⟨hP9, hD9⟩ := zsub2 (ws' := [(eO11a x pa bk xsp xdy le xst (xsc + 1) xim xil xik xmo xom wi), (eA0 xst cSt 108 (upd fSt xsc.toNatClampNeg a0)), (eO5a xdy drw u_16 dsh dto dmo dwi), (eO0a bk bto bnm bla bsk bru bbo bdi bda bdk bdt bdp bno), (eA0 bto cTo 5 fTo), (eO6a bno ns nsa nfa nza), (eA0 nsa cNs 12 u_11.1), (eA0 nfa cNf 96 u_11.2.1), (eA0 nza cNz 96 u_11.2.2)]) hP hD [1, 0, 8, 2, 3, 4, 5, 6, 7] (by decide +kernel) rfl
              have hK9 := hK.sub (tys' := []) [] rfl
              exact W.zret (v := 1) hx hb hr (by first | rfl | decide) (fun t ht hW => ⟨⟨1, ((xsc + 1), (upd fSt xsc.toNatClampNeg a0), u_16, u_11.1, u_11.2.1, u_11.2.2), rfl, ⟨((fun e9 => ⟨by rw [e9], by rw [e9]⟩ : fx_says xsc fSt dfr fTo ns fNs fNf fNz a0 a1 a2 = ((1 : Int32), (xsc + 1), (upd fSt xsc.toNatClampNeg a0), u_16, u_11.1, u_11.2.1, u_11.2.2) → _) ((by rw [fx_says]; (try rw [if_neg c_1]); (try rw [if_neg c_2]); (try rw [if_neg c_3]); (try rw [if_pos c_4]); (try rw [← hq_r_5]); (try rw [xL_eq]); (try rw [if_pos c_6]); (try rw [← hq_r_7]); (try rw [xL_eq]); (try rw [if_neg c_9]); (try rw [← hq_u_11]); (try rw [xL_eq]); (try rw [← hq_u_16]); (try rw [xL_eq]); try rfl))), Or.inr rfl, (gx_says_s9 (y0 := xsc) c_4 h0_sc h8_sc), (gx_says_s10 (y0 := xsc) c_4 h0_sc h8_sc)⟩, by rw [ht]; exact hP9, va_K.moved hW.alike hK9, hD9⟩, hS.F ht⟩) hS.2.2 dX11_says_112
            · refine lv_iconst (v := 0) hx hb dX11_says_70 (by decide) ?_
              refine W.widen (k := 0) (n := 0) (by omega) (by omega) ?_
              obtain ⟨hP9, hD9⟩ := zsub2 (ws' := [(eO11a x pa bk xsp xdy le xst xsc xim xil xik xmo xom wi), (eA0 xst cSt 108 fSt), (eO5a xdy drw dfr dsh dto dmo dwi), (eO0a bk bto bnm bla bsk bru bbo bdi bda bdk bdt bdp bno), (eA0 bto cTo 5 fTo), (eO6a bno ns nsa nfa nza), (eA0 nsa cNs 12 fNs), (eA0 nfa cNf 96 fNf), (eA0 nza cNz 96 fNz)]) hP hD [6, 0, 1, 7, 8, 2, 3, 4, 5] (by decide +kernel) rfl
              have hK9 := hK.sub (tys' := []) [] rfl
              exact W.zret (v := 0) hx hb hr (by first | rfl | decide) (fun t ht hW => ⟨⟨0, (xsc, fSt, dfr, fNs, fNf, fNz), rfl, ⟨((fun e9 => ⟨by rw [e9], by rw [e9]⟩ : fx_says xsc fSt dfr fTo ns fNs fNf fNz a0 a1 a2 = ((0 : Int32), xsc, fSt, dfr, fNs, fNf, fNz) → _) ((by rw [fx_says]; (try rw [if_neg c_1]); (try rw [if_neg c_2]); (try rw [if_neg c_3]); (try rw [if_pos c_4]); (try rw [← hq_r_5]); (try rw [xL_eq]); (try rw [if_pos c_6]); (try rw [← hq_r_7]); (try rw [xL_eq]); (try rw [if_pos c_9]); try rfl))), Or.inl rfl, (gx_says_s11 (y0 := xsc) c_4 h0_sc h8_sc), (gx_says_s12 (y0 := xsc) c_4 h0_sc h8_sc)⟩, by rw [ht]; exact hP9, va_K.moved hW.alike hK9, hD9⟩, hS.F ht⟩) hS.2.2 dX11_says_71
        · refine lv_iconst (v := 0) hx hb dX11_says_45 (by decide) ?_
          refine W.widen (k := 0) (n := 0) (by omega) (by omega) ?_
          have hP9 := hP
          have hD9 := hD
          have hK9 := hK.sub (tys' := []) [] rfl
          exact W.zret (v := 0) hx hb hr (by first | rfl | decide) (fun t ht hW => ⟨⟨0, (xsc, fSt, dfr, fNs, fNf, fNz), rfl, ⟨((fun e9 => ⟨by rw [e9], by rw [e9]⟩ : fx_says xsc fSt dfr fTo ns fNs fNf fNz a0 a1 a2 = ((0 : Int32), xsc, fSt, dfr, fNs, fNf, fNz) → _) ((by rw [fx_says]; (try rw [if_neg c_1]); (try rw [if_neg c_2]); (try rw [if_neg c_3]); (try rw [if_neg c_4]); try rfl))), Or.inl rfl, (gx_says_s13 (y0 := xsc) c_4 h0_sc h8_sc), (gx_says_s14 (y0 := xsc) c_4 h0_sc h8_sc)⟩, by rw [ht]; exact hP9, va_K.moved hW.alike hK9, hD9⟩, hS.F ht⟩) hS.2.2 dX11_says_46
