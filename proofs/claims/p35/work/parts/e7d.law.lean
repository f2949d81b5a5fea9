theorem dL_law_1898 : decode cL_law 1898 = .ok (.aload_n 1, 1) := zk_43 (by decide +kernel)
theorem dL_law_1899 : decode cL_law 1899 = .ok (.aload_n 0, 1) := zk_42 (by decide +kernel)
theorem dL_law_1900 : decode cL_law 1900 = .ok (.iload 4, 2) := zk_21 (by decide +kernel)
theorem dL_law_1902 : decode cL_law 1902 = .ok (.iconst 1, 1) := zk_4 (by decide +kernel)
theorem dL_law_1903 : decode cL_law 1903 = .ok (.iadd, 1) := zk_96 (by decide +kernel)
theorem dL_law_1904 : decode cL_law 1904 = .ok (.iaload, 1) := zk_46 (by decide +kernel)
theorem dL_law_1905 : decode cL_law 1905 = .ok (.aload_n 0, 1) := zk_42 (by decide +kernel)
theorem dL_law_1906 : decode cL_law 1906 = .ok (.iload 4, 2) := zk_21 (by decide +kernel)
theorem dL_law_1908 : decode cL_law 1908 = .ok (.iconst 2, 1) := zk_5 (by decide +kernel)
theorem dL_law_1909 : decode cL_law 1909 = .ok (.iadd, 1) := zk_96 (by decide +kernel)
theorem dL_law_1910 : decode cL_law 1910 = .ok (.iaload, 1) := zk_46 (by decide +kernel)
theorem dL_law_1911 : decode cL_law 1911 = .ok (.invokevirtual 166, 3) := zk_182 (by decide +kernel)
theorem dL_law_1914 : decode cL_law 1914 = .ok (.pop, 1) := zk_87 (by decide +kernel)
theorem dL_law_1915 : decode cL_law 1915 = .ok (.aload_n 2, 1) := zk_44 (by decide +kernel)
theorem dL_law_1916 : decode cL_law 1916 = .ok (.aload_n 0, 1) := zk_42 (by decide +kernel)
theorem dL_law_1917 : decode cL_law 1917 = .ok (.iload 4, 2) := zk_21 (by decide +kernel)
theorem dL_law_1919 : decode cL_law 1919 = .ok (.iconst 1, 1) := zk_4 (by decide +kernel)
theorem dL_law_1920 : decode cL_law 1920 = .ok (.iadd, 1) := zk_96 (by decide +kernel)
theorem dL_law_1921 : decode cL_law 1921 = .ok (.iaload, 1) := zk_46 (by decide +kernel)
theorem dL_law_1922 : decode cL_law 1922 = .ok (.aload_n 0, 1) := zk_42 (by decide +kernel)
theorem dL_law_1923 : decode cL_law 1923 = .ok (.iload 4, 2) := zk_21 (by decide +kernel)
theorem dL_law_1925 : decode cL_law 1925 = .ok (.iconst 2, 1) := zk_5 (by decide +kernel)
theorem dL_law_1926 : decode cL_law 1926 = .ok (.iadd, 1) := zk_96 (by decide +kernel)
theorem dL_law_1927 : decode cL_law 1927 = .ok (.iaload, 1) := zk_46 (by decide +kernel)
theorem dL_law_1928 : decode cL_law 1928 = .ok (.invokevirtual 169, 3) := zk_182 (by decide +kernel)
theorem dL_law_1931 : decode cL_law 1931 = .ok (.pop, 1) := zk_87 (by decide +kernel)
theorem dL_law_1932 : decode cL_law 1932 = .ok (.goto 80, 3) := zk_167 (by decide +kernel)
set_option maxHeartbeats 4000000 in
set_option maxRecDepth 100000 in
theorem law_told (l : Launch) (hst : l.stackTraces = false) {p : Program} {e : Env} {s : State} {m : MethodId} {below : List Frame} {meth : Method} {c : Code} {bs L : Nat} {xs : Nat → Int32} (C0 : lw_At p s m meth c bs L xs) (dC : Nat → ClassId) (dI : Nat → Nat → Nat) (A : Nat → Prop) (hAe : ∀ q, A q ↔ s.heap.size ≤ q) (x : Nat) (pa : Nat) (bk : Nat) (xsp : Nat) (xdy : Nat) (le : Nat) (xst : Nat) (xsc : Int32) (xim : Nat) (xil : Nat) (xik : Int32) (xmo : Nat) (xom : Nat) (wi : Nat) (lz : Int32) (lna : Nat) (lca : Nat) (cLn : ClassId) (fLn : Nat → Int32) (cLc : ClassId) (fLc : Nat → Int32) (bto : Nat) (bnm : Nat) (bla : Nat) (bsk : Nat) (bru : Nat) (bbo : Nat) (bdi : Nat) (bda : Nat) (bdk : Nat) (bdt : Nat) (bdp : Nat) (bno : Nat) (ns : Int32) (nsa : Nat) (nfa : Nat) (nza : Nat) (mq : Nat) (g : Nat → Int32) (gl : Nat → Int64) (rf : Nat → Nat) (ck : Nat → ClassId) (f_toldNote : Nat → Int32) (f_toldCount : Nat → Int32) (o3 : Nat) (h0_lz : ¬ lz < 0) (h2_lz : lz ≤ 20) (hto0 : ¬ (g 67) < 0) (hto2 : (g 67) ≤ 20) (hnt0 : ¬ (g 16) < 0) (hnt2 : (g 16) ≤ 12) (sL : Nat → Nat)  (i y1 y2 : Int32) (hi1 : vp_in (i + 1) L) (hy1 : xs (i + 1).toNatClampNeg = y1) (hi2 : vp_in (i + 2) L) (hy2 : xs (i + 2).toNatClampNeg = y2)  (Bp : Nat → Prop) (H0 : Heap) (locs : List Loc) (ls : Array Slot) (ce sl : Nat) (hce : ce + 1 ≤ 601024) (hsl : sl + 6 ≤ 7293034) (hK : va_K (dC, dI) vwCl [(cLn, .int), (cLc, .int), ((ck 68), .int), ((ck 69), .int)] s) (hP : va_P (dC, dI) vwCl [(eO11a x pa bk xsp xdy le xst xsc xim xil xik xmo xom wi), (eO2a le lz lna lca), (eA0 lna cLn 20 fLn), (eA0 lca cLc 20 fLc), (eO0a bk bto bnm bla bsk bru bbo bdi bda bdk bdt bdp bno), (eO6a bno ns nsa nfa nza), (mq, .inr (12, mF g gl rf)), (eA0 (rf 68) (ck 68) 20 f_toldNote), (eA0 (rf 69) (ck 69) 20 f_toldCount)] H0) (hD : va_D A [(eO11a x pa bk xsp xdy le xst xsc xim xil xik xmo xom wi), (eO2a le lz lna lca), (eA0 lna cLn 20 fLn), (eA0 lca cLc 20 fLc), (eO0a bk bto bnm bla bsk bru bbo bdi bda bdk bdt bdp bno), (eO6a bno ns nsa nfa nza), (mq, .inr (12, mF g gl rf)), (eA0 (rf 68) (ck 68) 20 f_toldNote), (eA0 (rf 69) (ck 69) 20 f_toldCount)]) (hBs : yB Bp [(eO11a x pa bk xsp xdy le xst xsc xim xil xik xmo xom wi), (eO2a le lz lna lca), (eA0 lna cLn 20 fLn), (eA0 lca cLc 20 fLc), (eO0a bk bto bnm bla bsk bru bbo bdi bda bdk bdt bdp bno), (eO6a bno ns nsa nfa nza), (mq, .inr (12, mF g gl rf)), (eA0 (rf 68) (ck 68) 20 f_toldNote), (eA0 (rf 69) (ck 69) 20 f_toldCount)]) (hS : va_S A s.heap H0 locs) (hl : lv_has ls 7 [(4, .int i), (3, .ref o3), (2, .ref mq), (1, .ref x), (0, .ref bs)]) (kk1 : ∀ (X_10 : Int32 × (Int32) × (Nat → Int32) × (Nat → Int32)), X_10 = (fx_told lz fLn fLc ns y1 y2) → ∀ (r_3 : Int32), r_3 = X_10.1 → ∀ (u_4 : (Int32) × (Nat → Int32) × (Nat → Int32)), u_4 = X_10.2 → ∀ (X_19 : Int32 × (Int32) × (Int32) × (Nat → Int32) × (Nat → Int32)), X_19 = (fq_told f_toldNote f_toldCount y1 y2 (g 16) (g 67)) → ∀ (r_13 : Int32), r_13 = X_19.1 → ∀ (u_14 : (Int32) × (Int32) × (Nat → Int32) × (Nat → Int32)), u_14 = X_19.2 → (¬ u_4.1 < 0) → (u_4.1 ≤ 20) → ∀ (H : Heap) (locs : List Loc) (ls : Array Slot), va_P (dC, dI) vwCl [(eO11a x pa bk xsp xdy le xst xsc xim xil xik xmo xom wi), (eO2a le u_4.1 lna lca), (eA0 lna cLn 20 u_4.2.1), (eA0 lca cLc 20 u_4.2.2), (eO0a bk bto bnm bla bsk bru bbo bdi bda bdk bdt bdp bno), (eO6a bno ns nsa nfa nza), (mq, .inr (12, mF (upd (upd g 2 u_14.1) 67 u_14.2.1) gl rf)), (eA0 (rf 68) (ck 68) 20 u_14.2.2.1), (eA0 (rf 69) (ck 69) 20 u_14.2.2.2)] H → va_S A s.heap H locs → lv_has ls 7 [(4, .int i), (3, .ref o3), (2, .ref mq), (1, .ref x), (0, .ref bs)] → H0.size ≤ H.size → (∀ q : Nat, q < H0.size → ¬ Bp q → H[q]? = H0[q]?) → W p l e room_1 s m #[Value.ref bs] below meth c H locs (ce + 1) (sl + 6) (lw_Z below #[Value.ref bs] s) (F0 m 2012 ls [])) : W p l e room_1 s m #[Value.ref bs] below meth c H0 locs ce sl (lw_Z below #[Value.ref bs] s) (F0 m 1898 ls []) := by
  obtain ⟨hx, hb, hr, hml, hown, hts, hX, hbl, hlocks, hgv⟩ := id C0
  have htw : ∀ w ∈ wsL_law, w.before _ s = true := fun w h => hts w (wsL_law_in w h)
  have hown : s.vm.findClass RL = some m.cls := hown
  have hA : ∀ q : Nat, s.heap.size ≤ q → A q := fun q h => (hAe q).mpr h
  have hbA : ¬ A bs := fun h => absurd ((hAe bs).mp h) (Nat.not_le.mpr hbl)
  obtain ⟨H, rH⟩ : ∃ z : Heap, z = H0 := ⟨_, rfl⟩
  have hfr : ∀ q : Nat, q < H0.size → ¬ Bp q → H[q]? = H0[q]? := fun q _ _ => by rw [rH]
  have hz0 : H0.size ≤ H.size := by rw [rH]; exact Nat.le_refl _
  rw [← rH] at hP hS ⊢
  refine lv_aload_n hx hb dL_law_1898 rfl (lv_at hl 3 rfl) ?_
  refine lv_aload_n hx hb dL_law_1899 rfl (lv_at hl 4 rfl) ?_
  refine lv_iload hx hb dL_law_1900 (lv_at hl 0 rfl) ?_
  refine lv_iconst (v := 1) hx hb dL_law_1902 (by decide) ?_
  refine lv_iadd hx hb dL_law_1903 ?_
  refine va_sld hx hb hX hbl hbA hS hi1 dL_law_1904 ?_
  rw [hy1]
  refine lv_aload_n hx hb dL_law_1905 rfl (lv_at hl 4 rfl) ?_
  refine lv_iload hx hb dL_law_1906 (lv_at hl 0 rfl) ?_
  refine lv_iconst (v := 2) hx hb dL_law_1908 (by decide) ?_
  refine lv_iadd hx hb dL_law_1909 ?_
  refine va_sld hx hb hX hbl hbA hS hi2 dL_law_1910 ?_
  rw [hy2]
  obtain ⟨hPc, hDc, hFc, hCc⟩ := zsub3 (ws' := [(eO11a x pa bk xsp xdy le xst xsc xim xil xik xmo xom wi), (eO2a le lz lna lca), (eA0 lna cLn 20 fLn), (eA0 lca cLc 20 fLc), (eO0a bk bto bnm bla bsk bru bbo bdi bda bdk bdt bdp bno), (eO6a bno ns nsa nfa nza)]) hP hD hS hA [0, 1, 2, 3, 4, 5] (by decide) rfl
  have hKc := hK.sub (tys' := [(cLn, .int), (cLc, .int)]) [0, 1] rfl
  refine va_calli (va_runV (As := [.int y1, .int y2]) (rest := []) ⟨hx, hb, hml, hown, htw⟩ (gz_told l dC dI x pa bk xsp xdy le xst xsc xim xil xik xmo xom wi lz lna lca cLn fLn cLc fLc bto bnm bla bsk bru bbo bdi bda bdk bdt bdp bno ns nsa nfa nza y1 y2 H.size h0_lz h2_lz) (cwV 2 htw (xg_V (ck_62 _ (List.mem_of_getElem? (i := 16) rfl)) (ck_62 _ (List.mem_of_getElem? (i := 17) rfl)) (ck_62 _ (List.mem_of_getElem? (i := 18) rfl)) (ck_1 _ (List.mem_of_getElem? (i := 2) rfl)) (ck_62 _ (List.mem_of_getElem? (i := 19) rfl))) rfl rfl rfl (by exact ⟨rfl, hdc_8.1, hdc_8.2, hdd_7⟩) ⟨Nat.le_of_ble_eq_true rfl, Nat.le_of_ble_eq_true rfl⟩) ⟨fun a U g mk q => by obtain ⟨q0, q1, qP, qK, qD⟩ := q; exact ⟨q0, q1, qP, va_K.moved (u := U) (U := U.calling g mk a) (Vm.Alike.refl U.vm) qK, qD⟩, va_recv hKc hPc (ci := 11) (q0 := 0) rfl rfl, fun U hU hW => ⟨rfl, by rw [hU], by rw [hU]; exact hPc, va_K.moved hW.alike hKc, hDc.weaken (fun _ _ _ _ => trivial)⟩⟩ rfl rfl hl.1 rfl (lv_room (Nat.le_of_ble_eq_true rfl)) dL_law_1911 ⟨by first | exact Nat.le_of_ble_eq_true rfl | exact yR (n := 0) (by omega) rfl, by first | exact Nat.le_of_ble_eq_true rfl | exact yR2 (n := 0) (by omega) rfl⟩) hS (fun q _ h => hFc q h) hFc (fun r_3 u_4 t H1 locs ht hvm hw hB hz1 hk1 hS => ?_)
  try dsimp only at hw
  obtain ⟨hP1, hK1, hD1⟩ := hB
  rw [ht] at hP1
  have hK1 := va_K.moved hvm.symm hK1
  have hK1 : va_K (dC, dI) vwCl [] s := hK1
  obtain ⟨hP, hD⟩ := va_join (wr := [(mq, .inr (12, mF g gl rf)), (eA0 (rf 68) (ck 68) 20 f_toldNote), (eA0 (rf 69) (ck 69) 20 f_toldCount)]) (w1 := [(eO11a x pa bk xsp xdy le xst xsc xim xil xik xmo xom wi), (eO2a le u_4.1 lna lca), (eA0 lna cLn 20 u_4.2.1), (eA0 lca cLc 20 u_4.2.2), (eO0a bk bto bnm bla bsk bru bbo bdi bda bdk bdt bdp bno), (eO6a bno ns nsa nfa nza)]) hP hD [0, 1, 2, 3, 4, 5] [6, 7, 8] hCc rfl (by decide) (by decide) hk1 hFc hP1 hD1
  have hfr := yF (wc := [(eO11a x pa bk xsp xdy le xst xsc xim xil xik xmo xom wi), (eO2a le lz lna lca), (eA0 lna cLn 20 fLn), (eA0 lca cLc 20 fLc), (eO0a bk bto bnm bla bsk bru bbo bdi bda bdk bdt bdp bno), (eO6a bno ns nsa nfa nza)]) hBs [0, 1, 2, 3, 4, 5] rfl hz0 hfr hk1
  have hz0 := Nat.le_trans hz0 hz1
  generalize H1 = H at hP hS hfr hz0 ⊢
  obtain ⟨hP, hD⟩ := zre [(mq, .inr (12, mF g gl rf)), (eA0 (rf 68) (ck 68) 20 f_toldNote), (eA0 (rf 69) (ck 69) 20 f_toldCount), (eO11a x pa bk xsp xdy le xst xsc xim xil xik xmo xom wi), (eO2a le u_4.1 lna lca), (eA0 lna cLn 20 u_4.2.1), (eA0 lca cLc 20 u_4.2.2), (eO0a bk bto bnm bla bsk bru bbo bdi bda bdk bdt bdp bno), (eO6a bno ns nsa nfa nza)] hP hD rfl
  refine W.widen (k := ce + 0) (n := sl + 0) (by omega) (by omega) ?_
  obtain ⟨hw, hp_8, hp_9⟩ := hw
  obtain ⟨X_10, hX_10⟩ : ∃ X9 : Int32 × (Int32) × (Nat → Int32) × (Nat → Int32), X9 = (fx_told lz fLn fLc ns y1 y2) := ⟨_, rfl⟩
  have hq_r_3 : r_3 = X_10.1 := by rw [hX_10]; exact hw.1
  have hq_u_4 : u_4 = X_10.2 := by rw [hX_10]; exact hw.2
  refine lv_pop hx hb dL_law_1914 rfl ?_
  refine lv_aload_n hx hb dL_law_1915 rfl (lv_at hl 2 rfl) ?_
  refine lv_aload_n hx hb dL_law_1916 rfl (lv_at hl 4 rfl) ?_
  refine lv_iload hx hb dL_law_1917 (lv_at hl 0 rfl) ?_
  refine lv_iconst (v := 1) hx hb dL_law_1919 (by decide) ?_
  refine lv_iadd hx hb dL_law_1920 ?_
  refine va_sld hx hb hX hbl hbA hS hi1 dL_law_1921 ?_
  rw [hy1]
  refine lv_aload_n hx hb dL_law_1922 rfl (lv_at hl 4 rfl) ?_
  refine lv_iload hx hb dL_law_1923 (lv_at hl 0 rfl) ?_
  refine lv_iconst (v := 2) hx hb dL_law_1925 (by decide) ?_
  refine lv_iadd hx hb dL_law_1926 ?_
  refine va_sld hx hb hX hbl hbA hS hi2 dL_law_1927 ?_
  rw [hy2]
  obtain ⟨hPc, hDc, hFc, hCc⟩ := zsub3 (ws' := [(mq, .inr (12, mF g gl rf)), (eA0 (rf 68) (ck 68) 20 f_toldNote), (eA0 (rf 69) (ck 69) 20 f_toldCount)]) hP hD hS hA [0, 1, 2] (by decide) rfl
  have hKc := hK.sub (tys' := [((ck 68), .int), ((ck 69), .int)]) [2, 3] rfl
  refine va_calli (va_runV (As := [.int y1, .int y2]) (rest := []) ⟨hx, hb, hml, hown, htw⟩ (gq_told l dC dI mq g gl rf ck f_toldNote f_toldCount y1 y2 H.size hto0 hto2 hnt0 hnt2) (cwV 2 htw (xg_V (ck_63 _ (List.mem_of_getElem? (i := 1) rfl)) (ck_63 _ (List.mem_of_getElem? (i := 2) rfl)) (ck_63 _ (List.mem_of_getElem? (i := 3) rfl)) (ck_1 _ (List.mem_of_getElem? (i := 5) rfl)) (ck_63 _ (List.mem_of_getElem? (i := 4) rfl))) rfl rfl rfl (by exact ⟨rfl, hdc_14.1, hdc_14.2, hdd_7⟩) ⟨Nat.le_of_ble_eq_true rfl, Nat.le_of_ble_eq_true rfl⟩) ⟨fun a U g mk q => by obtain ⟨q0, q1, qP, qK, qD⟩ := q; exact ⟨q0, q1, qP, va_K.moved (u := U) (U := U.calling g mk a) (Vm.Alike.refl U.vm) qK, qD⟩, va_recv hKc hPc (ci := 12) (q0 := 0) rfl rfl, fun U hU hW => ⟨rfl, by rw [hU], by rw [hU]; exact hPc, va_K.moved hW.alike hKc, hDc.weaken (fun _ _ _ _ => trivial)⟩⟩ rfl rfl hl.1 rfl (lv_room (Nat.le_of_ble_eq_true rfl)) dL_law_1928 ⟨by first | exact Nat.le_of_ble_eq_true rfl | exact yR (n := 0) (by omega) rfl, by first | exact Nat.le_of_ble_eq_true rfl | exact yR2 (n := 0) (by omega) rfl⟩) hS (fun q _ h => hFc q h) hFc (fun r_13 u_14 t H1 locs ht hvm hw hB hz1 hk1 hS => ?_)
  try dsimp only at hw
  obtain ⟨hP1, hK1, hD1⟩ := hB
  rw [ht] at hP1
  have hK1 := va_K.moved hvm.symm hK1
  have hK1 : va_K (dC, dI) vwCl [] s := hK1
  obtain ⟨hP, hD⟩ := va_join (wr := [(eO11a x pa bk xsp xdy le xst xsc xim xil xik xmo xom wi), (eO2a le u_4.1 lna lca), (eA0 lna cLn 20 u_4.2.1), (eA0 lca cLc 20 u_4.2.2), (eO0a bk bto bnm bla bsk bru bbo bdi bda bdk bdt bdp bno), (eO6a bno ns nsa nfa nza)]) (w1 := [(mq, .inr (12, mF (upd (upd g 2 u_14.1) 67 u_14.2.1) gl rf)), (eA0 (rf 68) (ck 68) 20 u_14.2.2.1), (eA0 (rf 69) (ck 69) 20 u_14.2.2.2)]) hP hD [0, 1, 2] [3, 4, 5, 6, 7, 8] hCc rfl (by decide) (by decide) hk1 hFc hP1 hD1
  have hfr := yF (wc := [(mq, .inr (12, mF g gl rf)), (eA0 (rf 68) (ck 68) 20 f_toldNote), (eA0 (rf 69) (ck 69) 20 f_toldCount)]) hBs [6, 7, 8] rfl hz0 hfr hk1
  have hz0 := Nat.le_trans hz0 hz1
  generalize H1 = H at hP hS hfr hz0 ⊢
  have hP : va_P (dC, dI) vwCl [(eO11a x pa bk xsp xdy le xst xsc xim xil xik xmo xom wi), (eO2a le u_4.1 lna lca), (eA0 lna cLn 20 u_4.2.1), (eA0 lca cLc 20 u_4.2.2), (eO0a bk bto bnm bla bsk bru bbo bdi bda bdk bdt bdp bno), (eO6a bno ns nsa nfa nza), (mq, .inr (12, mF (upd (upd g 2 u_14.1) 67 u_14.2.1) gl rf)), (eA0 (rf 68) (ck 68) 20 u_14.2.2.1), (eA0 (rf 69) (ck 69) 20 u_14.2.2.2)] H := hP
  have hD : va_D A [(eO11a x pa bk xsp xdy le xst xsc xim xil xik xmo xom wi), (eO2a le u_4.1 lna lca), (eA0 lna cLn 20 u_4.2.1), (eA0 lca cLc 20 u_4.2.2), (eO0a bk bto bnm bla bsk bru bbo bdi bda bdk bdt bdp bno), (eO6a bno ns nsa nfa nza), (mq, .inr (12, mF (upd (upd g 2 u_14.1) 67 u_14.2.1) gl rf)), (eA0 (rf 68) (ck 68) 20 u_14.2.2.1), (eA0 (rf 69) (ck 69) 20 u_14.2.2.2)] := hD
  refine W.widen (k := ce + 0) (n := sl + 0) (by omega) (by omega) ?_
  obtain ⟨X_19, hX_19⟩ : ∃ X9 : Int32 × (Int32) × (Int32) × (Nat → Int32) × (Nat → Int32), X9 = (fq_told f_toldNote f_toldCount y1 y2 (g 16) (g 67)) := ⟨_, rfl⟩
  have hq_r_13 : r_13 = X_19.1 := by rw [hX_19]; exact hw.1
  have hq_u_14 : u_14 = X_19.2 := by rw [hX_19]; exact hw.2
  refine lv_pop hx hb dL_law_1931 rfl ?_
  refine lv_goto (tgt := 2012) hx hb dL_law_1932 (by decide) ?_
  refine W.widen (k := ce + 1) (n := sl + 6) (by omega) (by omega) ?_
  exact kk1 X_10 hX_10 r_3 hq_r_3 u_4 hq_u_4 X_19 hX_19 r_13 hq_r_13 u_14 hq_u_14 hp_8 hp_9 H locs ls (hP.sub (ws' := [(eO11a x pa bk xsp xdy le xst xsc xim xil xik xmo xom wi), (eO2a le u_4.1 lna lca), (eA0 lna cLn 20 u_4.2.1), (eA0 lca cLc 20 u_4.2.2), (eO0a bk bto bnm bla bsk bru bbo bdi bda bdk bdt bdp bno), (eO6a bno ns nsa nfa nza), (mq, .inr (12, mF (upd (upd g 2 u_14.1) 67 u_14.2.1) gl rf)), (eA0 (rf 68) (ck 68) 20 u_14.2.2.1), (eA0 (rf 69) (ck 69) 20 u_14.2.2.2)]) [0, 1, 2, 3, 4, 5, 6, 7, 8] rfl) hS (lv_sub hl [0, 1, 2, 3, 4] rfl) hz0 hfr
