theorem dL_law_810 : decode cL_law 810 = .ok (.aload_n 1, 1) := zk_43 (by decide +kernel)
theorem dL_law_811 : decode cL_law 811 = .ok (.aload_n 0, 1) := zk_42 (by decide +kernel)
theorem dL_law_812 : decode cL_law 812 = .ok (.iload 4, 2) := zk_21 (by decide +kernel)
theorem dL_law_814 : decode cL_law 814 = .ok (.iconst 1, 1) := zk_4 (by decide +kernel)
theorem dL_law_815 : decode cL_law 815 = .ok (.iadd, 1) := zk_96 (by decide +kernel)
theorem dL_law_816 : decode cL_law 816 = .ok (.iaload, 1) := zk_46 (by decide +kernel)
theorem dL_law_817 : decode cL_law 817 = .ok (.aload_n 0, 1) := zk_42 (by decide +kernel)
theorem dL_law_818 : decode cL_law 818 = .ok (.iload 4, 2) := zk_21 (by decide +kernel)
theorem dL_law_820 : decode cL_law 820 = .ok (.iconst 2, 1) := zk_5 (by decide +kernel)
theorem dL_law_821 : decode cL_law 821 = .ok (.iadd, 1) := zk_96 (by decide +kernel)
theorem dL_law_822 : decode cL_law 822 = .ok (.iaload, 1) := zk_46 (by decide +kernel)
theorem dL_law_823 : decode cL_law 823 = .ok (.i2l, 1) := zk_133 (by decide +kernel)
theorem dL_law_824 : decode cL_law 824 = .ok (.bipush 32, 2) := zk_16 (by decide +kernel)
theorem dL_law_826 : decode cL_law 826 = .ok (.lshl, 1) := zk_121 (by decide +kernel)
theorem dL_law_827 : decode cL_law 827 = .ok (.aload_n 0, 1) := zk_42 (by decide +kernel)
theorem dL_law_828 : decode cL_law 828 = .ok (.iload 4, 2) := zk_21 (by decide +kernel)
theorem dL_law_830 : decode cL_law 830 = .ok (.iconst 3, 1) := zk_6 (by decide +kernel)
theorem dL_law_831 : decode cL_law 831 = .ok (.iadd, 1) := zk_96 (by decide +kernel)
theorem dL_law_832 : decode cL_law 832 = .ok (.iaload, 1) := zk_46 (by decide +kernel)
theorem dL_law_833 : decode cL_law 833 = .ok (.i2l, 1) := zk_133 (by decide +kernel)
theorem dL_law_834 : decode cL_law 834 = .ok (.ldc2_w 50, 3) := zk_20 (by decide +kernel)
theorem dL_law_837 : decode cL_law 837 = .ok (.land, 1) := zk_127 (by decide +kernel)
theorem dL_law_838 : decode cL_law 838 = .ok (.lor, 1) := zk_129 (by decide +kernel)
theorem dL_law_839 : decode cL_law 839 = .ok (.invokevirtual 77, 3) := zk_182 (by decide +kernel)
theorem dL_law_842 : decode cL_law 842 = .ok (.pop2, 1) := zk_88 (by decide +kernel)
theorem dL_law_843 : decode cL_law 843 = .ok (.aload_n 2, 1) := zk_44 (by decide +kernel)
theorem dL_law_844 : decode cL_law 844 = .ok (.aload_n 0, 1) := zk_42 (by decide +kernel)
theorem dL_law_845 : decode cL_law 845 = .ok (.iload 4, 2) := zk_21 (by decide +kernel)
theorem dL_law_847 : decode cL_law 847 = .ok (.iconst 1, 1) := zk_4 (by decide +kernel)
theorem dL_law_848 : decode cL_law 848 = .ok (.iadd, 1) := zk_96 (by decide +kernel)
theorem dL_law_849 : decode cL_law 849 = .ok (.iaload, 1) := zk_46 (by decide +kernel)
theorem dL_law_850 : decode cL_law 850 = .ok (.aload_n 0, 1) := zk_42 (by decide +kernel)
theorem dL_law_851 : decode cL_law 851 = .ok (.iload 4, 2) := zk_21 (by decide +kernel)
theorem dL_law_853 : decode cL_law 853 = .ok (.iconst 2, 1) := zk_5 (by decide +kernel)
theorem dL_law_854 : decode cL_law 854 = .ok (.iadd, 1) := zk_96 (by decide +kernel)
theorem dL_law_855 : decode cL_law 855 = .ok (.iaload, 1) := zk_46 (by decide +kernel)
theorem dL_law_856 : decode cL_law 856 = .ok (.i2l, 1) := zk_133 (by decide +kernel)
theorem dL_law_857 : decode cL_law 857 = .ok (.bipush 32, 2) := zk_16 (by decide +kernel)
theorem dL_law_859 : decode cL_law 859 = .ok (.lshl, 1) := zk_121 (by decide +kernel)
theorem dL_law_860 : decode cL_law 860 = .ok (.aload_n 0, 1) := zk_42 (by decide +kernel)
theorem dL_law_861 : decode cL_law 861 = .ok (.iload 4, 2) := zk_21 (by decide +kernel)
theorem dL_law_863 : decode cL_law 863 = .ok (.iconst 3, 1) := zk_6 (by decide +kernel)
theorem dL_law_864 : decode cL_law 864 = .ok (.iadd, 1) := zk_96 (by decide +kernel)
theorem dL_law_865 : decode cL_law 865 = .ok (.iaload, 1) := zk_46 (by decide +kernel)
theorem dL_law_866 : decode cL_law 866 = .ok (.i2l, 1) := zk_133 (by decide +kernel)
theorem dL_law_867 : decode cL_law 867 = .ok (.ldc2_w 50, 3) := zk_20 (by decide +kernel)
theorem dL_law_870 : decode cL_law 870 = .ok (.land, 1) := zk_127 (by decide +kernel)
theorem dL_law_871 : decode cL_law 871 = .ok (.lor, 1) := zk_129 (by decide +kernel)
theorem dL_law_872 : decode cL_law 872 = .ok (.invokevirtual 80, 3) := zk_182 (by decide +kernel)
theorem dL_law_875 : decode cL_law 875 = .ok (.pop2, 1) := zk_88 (by decide +kernel)
theorem dL_law_876 : decode cL_law 876 = .ok (.goto 1136, 3) := zk_167 (by decide +kernel)
set_option maxHeartbeats 4000000 in
set_option maxRecDepth 100000 in
theorem law_rule (l : Launch) (hst : l.stackTraces = false) {p : Program} {e : Env} {s : State} {m : MethodId} {below : List Frame} {meth : Method} {c : Code} {bs L : Nat} {xs : Nat → Int32} (C0 : lw_At p s m meth c bs L xs) (dC : Nat → ClassId) (dI : Nat → Nat → Nat) (A : Nat → Prop) (hAe : ∀ q, A q ↔ s.heap.size ≤ q) (x : Nat) (pa : Nat) (bk : Nat) (xsp : Nat) (xdy : Nat) (le : Nat) (xst : Nat) (xsc : Int32) (xim : Nat) (xil : Nat) (xik : Int32) (xmo : Nat) (xom : Nat) (wi : Nat) (mla : Value) (mct : Int64) (myr : Int64) (mdy : Int64) (mlg : Int64) (bto : Nat) (bnm : Nat) (bla : Nat) (bsk : Nat) (bru : Nat) (bbo : Nat) (bdi : Nat) (bda : Nat) (bdk : Nat) (bdt : Nat) (bdp : Nat) (bno : Nat) (cTo : ClassId) (fTo : Nat → Int32) (cLa : ClassId) (La : Nat → Nat) (FI : Nat → Int32) (GR : Nat → Int32) (FR : Nat → Int32) (wd : Int32) (wf : Int32) (mp : Int32) (mb : Int32) (mo : Int32) (sp : Int32) (sb : Int32) (rco : Nat) (rsz : Int32) (ren : Nat) (rst : Nat) (rkn : Int32) (cRc : ClassId) (fRc : Nat → Int32) (cRe : ClassId) (fRe : Nat → Int32) (cRs : ClassId) (fRs : Nat → Int64) (mq : Nat) (g : Nat → Int32) (gl : Nat → Int64) (rf : Nat → Nat) (ck : Nat → ClassId) (f_sky : Nat → Int32) (f_landHas : Nat → Int32) (f_first : Nat → Int32) (f_last : Nat → Int32) (f_knot : Nat → Int32) (f_part : Nat → Int32) (f_other : Nat → Int32) (f_names : Nat → Int64) (f_value : Nat → Int64) (o3 : Nat) (hE : ∀ k, ¬ fRe k < 0) (hfe0 : ¬ (g 13) < 0) (hfe4 : (g 13) ≤ 4) (hFA : ∀ k : Int32, ¬ k < 0 → k < (g 13) → ¬ (f_first k.toNatClampNeg) < 0 ∧ (f_last k.toNatClampNeg) ≤ 64 ∧ ¬ (f_last k.toNatClampNeg) < 1) (hKA : ∀ k : Nat, k < 64 → xKV f_knot f_part f_other k) (hln0 : ¬ (g 12) < 0) (hln4 : (g 12) ≤ 4) (hLZ : ∀ k : Int32, ¬ k < 0 → k < (g 12) → ¬ (f_landHas ((3 * k).toNatClampNeg)) = 0) (hs0 : ¬ (f_sky 0) < 1) (hs2 : ¬ (f_sky 2) < 1) (hs5 : ¬ (f_sky 5) < 1) (sL : Nat → Nat) (hNx : xN s) (i y1 y2 y3 : Int32) (hi1 : vp_in (i + 1) L) (hy1 : xs (i + 1).toNatClampNeg = y1) (hi2 : vp_in (i + 2) L) (hy2 : xs (i + 2).toNatClampNeg = y2) (hi3 : vp_in (i + 3) L) (hy3 : xs (i + 3).toNatClampNeg = y3)  (Bp : Nat → Prop) (H0 : Heap) (locs : List Loc) (ls : Array Slot) (ce sl : Nat) (hce : ce + 1 ≤ 601024) (hsl : sl + 6 ≤ 7293034) (hK : va_K (dC, dI) vwCl [(cTo, .int), (cLa, .object RX1), (cRc, .int), (cRe, .int), (cRs, .long), ((ck 24), .int), ((ck 29), .int), ((ck 31), .int), ((ck 32), .int), ((ck 41), .int), ((ck 42), .int), ((ck 43), .int), ((ck 55), .long), ((ck 56), .long)] s) (hP : va_P (dC, dI) vwCl [(eO11a x pa bk xsp xdy le xst xsc xim xil xik xmo xom wi), (xmo, .inr (4, [mla, .long mct, .long myr, .long mdy, .long mlg])), (eO0a bk bto bnm bla bsk bru bbo bdi bda bdk bdt bdp bno), (eA0 bto cTo 5 fTo), (eA4 bla cLa 4 (fun k => some (La k))), (eO1a (La 0) (FI 0) (GR 0) (FR 0)), (eO9a bsk wd wf mp mb mo sp sb), (eO8a bru rco rsz ren rst rkn), (eA0 rco cRc 64 fRc), (eA0 ren cRe 4 fRe), (eA1 rst cRs 64 fRs), (mq, .inr (12, mF g gl rf)), (eA0 (rf 24) (ck 24) 14 f_sky), (eA0 (rf 29) (ck 29) 24 f_landHas), (eA0 (rf 31) (ck 31) 8 f_first), (eA0 (rf 32) (ck 32) 8 f_last), (eA0 (rf 41) (ck 41) 128 f_knot), (eA0 (rf 42) (ck 42) 128 f_part), (eA0 (rf 43) (ck 43) 128 f_other), (eA1 (rf 55) (ck 55) 6 f_names), (eA1 (rf 56) (ck 56) 64 f_value)] H0) (hD : va_D A [(eO11a x pa bk xsp xdy le xst xsc xim xil xik xmo xom wi), (xmo, .inr (4, [mla, .long mct, .long myr, .long mdy, .long mlg])), (eO0a bk bto bnm bla bsk bru bbo bdi bda bdk bdt bdp bno), (eA0 bto cTo 5 fTo), (eA4 bla cLa 4 (fun k => some (La k))), (eO1a (La 0) (FI 0) (GR 0) (FR 0)), (eO9a bsk wd wf mp mb mo sp sb), (eO8a bru rco rsz ren rst rkn), (eA0 rco cRc 64 fRc), (eA0 ren cRe 4 fRe), (eA1 rst cRs 64 fRs), (mq, .inr (12, mF g gl rf)), (eA0 (rf 24) (ck 24) 14 f_sky), (eA0 (rf 29) (ck 29) 24 f_landHas), (eA0 (rf 31) (ck 31) 8 f_first), (eA0 (rf 32) (ck 32) 8 f_last), (eA0 (rf 41) (ck 41) 128 f_knot), (eA0 (rf 42) (ck 42) 128 f_part), (eA0 (rf 43) (ck 43) 128 f_other), (eA1 (rf 55) (ck 55) 6 f_names), (eA1 (rf 56) (ck 56) 64 f_value)]) (hBs : yB Bp [(eO11a x pa bk xsp xdy le xst xsc xim xil xik xmo xom wi), (xmo, .inr (4, [mla, .long mct, .long myr, .long mdy, .long mlg])), (eO0a bk bto bnm bla bsk bru bbo bdi bda bdk bdt bdp bno), (eA0 bto cTo 5 fTo), (eA4 bla cLa 4 (fun k => some (La k))), (eO1a (La 0) (FI 0) (GR 0) (FR 0)), (eO9a bsk wd wf mp mb mo sp sb), (eO8a bru rco rsz ren rst rkn), (eA0 rco cRc 64 fRc), (eA0 ren cRe 4 fRe), (eA1 rst cRs 64 fRs), (mq, .inr (12, mF g gl rf)), (eA0 (rf 24) (ck 24) 14 f_sky), (eA0 (rf 29) (ck 29) 24 f_landHas), (eA0 (rf 31) (ck 31) 8 f_first), (eA0 (rf 32) (ck 32) 8 f_last), (eA0 (rf 41) (ck 41) 128 f_knot), (eA0 (rf 42) (ck 42) 128 f_part), (eA0 (rf 43) (ck 43) 128 f_other), (eA1 (rf 55) (ck 55) 6 f_names), (eA1 (rf 56) (ck 56) 64 f_value)]) (hS : va_S A s.heap H0 locs) (hl : lv_has ls 7 [(4, .int i), (3, .ref o3), (2, .ref mq), (1, .ref x), (0, .ref bs)]) (kk1 : ∀ (X_12 : Int64 × (Nat → Int64) × (Value) × (Int64) × (Int64) × (Int64) × (Int64)), X_12 = (fx_rule mla mct myr mdy mlg fTo La FI GR FR wd wf mp mb mo sp sb fRc fRe fRs y1 ((y2.toInt64 <<< ((32 : Int32).toInt64 &&& 63)) ||| (y3.toInt64 &&& 4294967295))) → ∀ (r_4 : Int64), r_4 = X_12.1 → ∀ (u_5 : (Nat → Int64) × (Value) × (Int64) × (Int64) × (Int64) × (Int64)), u_5 = X_12.2 → ∀ (X_24 : Int64 × (Int32) × (Int64) × (Int64) × (Int32) × (Nat → Int64) × (Nat → Int64)), X_24 = (fq_rule f_sky f_landHas f_first f_last f_knot f_part f_other f_names f_value y1 ((y2.toInt64 <<< ((32 : Int32).toInt64 &&& 63)) ||| (y3.toInt64 &&& 4294967295)) (g 12) (g 13) (gl 53) (gl 54) (g 57)) → ∀ (r_16 : Int64), r_16 = X_24.1 → ∀ (u_17 : (Int32) × (Int64) × (Int64) × (Int32) × (Nat → Int64) × (Nat → Int64)), u_17 = X_24.2 → ∀ (H : Heap) (locs : List Loc) (ls : Array Slot), va_P (dC, dI) vwCl [(eO11a x pa bk xsp xdy le xst xsc xim xil xik xmo xom wi), (xmo, .inr (4, [u_5.2.1, .long u_5.2.2.1, .long u_5.2.2.2.1, .long u_5.2.2.2.2.1, .long u_5.2.2.2.2.2])), (eO0a bk bto bnm bla bsk bru bbo bdi bda bdk bdt bdp bno), (eA0 bto cTo 5 fTo), (eA4 bla cLa 4 (fun k => some (La k))), (eO1a (La 0) (FI 0) (GR 0) (FR 0)), (eO9a bsk wd wf mp mb mo sp sb), (eO8a bru rco rsz ren rst rkn), (eA0 rco cRc 64 fRc), (eA0 ren cRe 4 fRe), (eA1 rst cRs 64 u_5.1), (mq, .inr (12, mF (upd (upd g 2 u_17.1) 57 u_17.2.2.2.1) (vp_updL (vp_updL gl 53 u_17.2.1) 54 u_17.2.2.1) rf)), (eA0 (rf 24) (ck 24) 14 f_sky), (eA0 (rf 29) (ck 29) 24 f_landHas), (eA0 (rf 31) (ck 31) 8 f_first), (eA0 (rf 32) (ck 32) 8 f_last), (eA0 (rf 41) (ck 41) 128 f_knot), (eA0 (rf 42) (ck 42) 128 f_part), (eA0 (rf 43) (ck 43) 128 f_other), (eA1 (rf 55) (ck 55) 6 u_17.2.2.2.2.1), (eA1 (rf 56) (ck 56) 64 u_17.2.2.2.2.2)] H → va_S A s.heap H locs → lv_has ls 7 [(4, .int i), (3, .ref o3), (2, .ref mq), (1, .ref x), (0, .ref bs)] → H0.size ≤ H.size → (∀ q : Nat, q < H0.size → ¬ Bp q → H[q]? = H0[q]?) → W p l e room_1 s m #[Value.ref bs] below meth c H locs (ce + 1) (sl + 6) (lw_Z below #[Value.ref bs] s) (F0 m 2012 ls [])) : W p l e room_1 s m #[Value.ref bs] below meth c H0 locs ce sl (lw_Z below #[Value.ref bs] s) (F0 m 810 ls []) := by
  obtain ⟨hx, hb, hr, hml, hown, hts, hX, hbl, hlocks, hgv⟩ := id C0
  have htw : ∀ w ∈ wsL_law, w.before _ s = true := fun w h => hts w (wsL_law_in w h)
  have hown : s.vm.findClass RL = some m.cls := hown
  have hA : ∀ q : Nat, s.heap.size ≤ q → A q := fun q h => (hAe q).mpr h
  have hbA : ¬ A bs := fun h => absurd ((hAe bs).mp h) (Nat.not_le.mpr hbl)
  obtain ⟨H, rH⟩ : ∃ z : Heap, z = H0 := ⟨_, rfl⟩
  have hfr : ∀ q : Nat, q < H0.size → ¬ Bp q → H[q]? = H0[q]? := fun q _ _ => by rw [rH]
  have hz0 : H0.size ≤ H.size := by rw [rH]; exact Nat.le_refl _
  rw [← rH] at hP hS ⊢
  refine lv_aload_n hx hb dL_law_810 rfl (lv_at hl 3 rfl) ?_
  refine lv_aload_n hx hb dL_law_811 rfl (lv_at hl 4 rfl) ?_
  refine lv_iload hx hb dL_law_812 (lv_at hl 0 rfl) ?_
  refine lv_iconst (v := 1) hx hb dL_law_814 (by decide) ?_
  refine lv_iadd hx hb dL_law_815 ?_
  refine va_sld hx hb hX hbl hbA hS hi1 dL_law_816 ?_
  rw [hy1]
  refine lv_aload_n hx hb dL_law_817 rfl (lv_at hl 4 rfl) ?_
  refine lv_iload hx hb dL_law_818 (lv_at hl 0 rfl) ?_
  refine lv_iconst (v := 2) hx hb dL_law_820 (by decide) ?_
  refine lv_iadd hx hb dL_law_821 ?_
  refine va_sld hx hb hX hbl hbA hS hi2 dL_law_822 ?_
  rw [hy2]
  refine lv_i2l (v := y2.toInt64) hx hb dL_law_823 rfl ?_
  refine lv_bipush (v := 32) hx hb dL_law_824 (by decide) ?_
  refine lv_lshl (v := (y2.toInt64 <<< ((32 : Int32).toInt64 &&& 63))) hx hb dL_law_826 rfl ?_
  refine lv_aload_n hx hb dL_law_827 rfl (lv_at hl 4 rfl) ?_
  refine lv_iload hx hb dL_law_828 (lv_at hl 0 rfl) ?_
  refine lv_iconst (v := 3) hx hb dL_law_830 (by decide) ?_
  refine lv_iadd hx hb dL_law_831 ?_
  refine va_sld hx hb hX hbl hbA hS hi3 dL_law_832 ?_
  rw [hy3]
  refine lv_i2l (v := y3.toInt64) hx hb dL_law_833 rfl ?_
  refine lv_ldc2 (v := 4294967295) hx hb hown (htw _ (ck_1 _ (List.mem_of_getElem? (i := 7) rfl))) dL_law_834 ?_
  refine lv_land hx hb dL_law_837 ?_
  refine lv_lor hx hb dL_law_838 ?_
  obtain ⟨hPc, hDc, hFc, hCc⟩ := zsub3 (ws' := [(eO11a x pa bk xsp xdy le xst xsc xim xil xik xmo xom wi), (xmo, .inr (4, [mla, .long mct, .long myr, .long mdy, .long mlg])), (eO0a bk bto bnm bla bsk bru bbo bdi bda bdk bdt bdp bno), (eA0 bto cTo 5 fTo), (eA4 bla cLa 4 (fun k => some (La k))), (eO1a (La 0) (FI 0) (GR 0) (FR 0)), (eO9a bsk wd wf mp mb mo sp sb), (eO8a bru rco rsz ren rst rkn), (eA0 rco cRc 64 fRc), (eA0 ren cRe 4 fRe), (eA1 rst cRs 64 fRs)]) hP hD hS hA [0, 1, 2, 3, 4, 5, 6, 7, 8, 9, 10] (by decide +kernel) rfl
  have hKc := hK.sub (tys' := [(cTo, .int), (cLa, .object RX1), (cRc, .int), (cRe, .int), (cRs, .long)]) [0, 1, 2, 3, 4] rfl
  refine va_calll (va_runV (As := [.int y1, .long ((y2.toInt64 <<< ((32 : Int32).toInt64 &&& 63)) ||| (y3.toInt64 &&& 4294967295))]) (rest := []) ⟨hx, hb, hml, hown, htw⟩ (gx_rule l dC dI x pa bk xsp xdy le xst xsc xim xil xik xmo xom wi mla mct myr mdy mlg bto bnm bla bsk bru bbo bdi bda bdk bdt bdp bno cTo fTo cLa La FI GR FR wd wf mp mb mo sp sb rco rsz ren rst rkn cRc fRc cRe fRe cRs fRs y1 ((y2.toInt64 <<< ((32 : Int32).toInt64 &&& 63)) ||| (y3.toInt64 &&& 4294967295)) H.size hE) (cwV 2 htw (xg_V (ck_43 _ (List.mem_of_getElem? (i := 23) rfl)) (ck_44 _ (List.mem_of_getElem? (i := 0) rfl)) (ck_44 _ (List.mem_of_getElem? (i := 1) rfl)) (ck_1 _ (List.mem_of_getElem? (i := 2) rfl)) (ck_44 _ (List.mem_of_getElem? (i := 2) rfl))) rfl rfl rfl (by exact ⟨rfl, hdc_8.1, hdc_8.2, hdd_41⟩) ⟨Nat.le_of_ble_eq_true rfl, Nat.le_of_ble_eq_true rfl⟩) ⟨fun a U g mk q => by obtain ⟨q0, q1, qP, qK, qD, qx0⟩ := q; exact ⟨q0, q1, qP, va_K.moved (u := U) (U := U.calling g mk a) (Vm.Alike.refl U.vm) qK, qD, xN.calling qx0⟩, va_recv hKc hPc (ci := 11) (q0 := 0) rfl rfl, fun U hU hW => ⟨rfl, by rw [hU], by rw [hU]; exact hPc, va_K.moved hW.alike hKc, hDc.weaken (fun _ _ _ _ => trivial), xN.warm hW hNx⟩⟩ rfl rfl hl.1 rfl (lv_room (Nat.le_of_ble_eq_true rfl)) dL_law_839 ⟨by first | exact Nat.le_of_ble_eq_true rfl | exact yR (n := 0) (by omega) rfl, by first | exact Nat.le_of_ble_eq_true rfl | exact yR2 (n := 0) (by omega) rfl⟩) hS (fun q _ h => hFc q h) hFc (fun r_4 u_5 t H1 locs ht hvm hw hB hz1 hk1 hS => ?_)
  try dsimp only at hw
  obtain ⟨hP1, hK1, hD1⟩ := hB
  rw [ht] at hP1
  have hK1 := va_K.moved hvm.symm hK1
  have hK1 : va_K (dC, dI) vwCl [] s := hK1
  obtain ⟨hP, hD⟩ := va_join (wr := [(mq, .inr (12, mF g gl rf)), (eA0 (rf 24) (ck 24) 14 f_sky), (eA0 (rf 29) (ck 29) 24 f_landHas), (eA0 (rf 31) (ck 31) 8 f_first), (eA0 (rf 32) (ck 32) 8 f_last), (eA0 (rf 41) (ck 41) 128 f_knot), (eA0 (rf 42) (ck 42) 128 f_part), (eA0 (rf 43) (ck 43) 128 f_other), (eA1 (rf 55) (ck 55) 6 f_names), (eA1 (rf 56) (ck 56) 64 f_value)]) (w1 := [(eO11a x pa bk xsp xdy le xst xsc xim xil xik xmo xom wi), (xmo, .inr (4, [u_5.2.1, .long u_5.2.2.1, .long u_5.2.2.2.1, .long u_5.2.2.2.2.1, .long u_5.2.2.2.2.2])), (eO0a bk bto bnm bla bsk bru bbo bdi bda bdk bdt bdp bno), (eA0 bto cTo 5 fTo), (eA4 bla cLa 4 (fun k => some (La k))), (eO1a (La 0) (FI 0) (GR 0) (FR 0)), (eO9a bsk wd wf mp mb mo sp sb), (eO8a bru rco rsz ren rst rkn), (eA0 rco cRc 64 fRc), (eA0 ren cRe 4 fRe), (eA1 rst cRs 64 u_5.1)]) hP hD [0, 1, 2, 3, 4, 5, 6, 7, 8, 9, 10] [11, 12, 13, 14, 15, 16, 17, 18, 19, 20] hCc rfl (by decide +kernel) (by decide +kernel) hk1 hFc hP1 hD1
  have hfr := yF (wc := [(eO11a x pa bk xsp xdy le xst xsc xim xil xik xmo xom wi), (xmo, .inr (4, [mla, .long mct, .long myr, .long mdy, .long mlg])), (eO0a bk bto bnm bla bsk bru bbo bdi bda bdk bdt bdp bno), (eA0 bto cTo 5 fTo), (eA4 bla cLa 4 (fun k => some (La k))), (eO1a (La 0) (FI 0) (GR 0) (FR 0)), (eO9a bsk wd wf mp mb mo sp sb), (eO8a bru rco rsz ren rst rkn), (eA0 rco cRc 64 fRc), (eA0 ren cRe 4 fRe), (eA1 rst cRs 64 fRs)]) hBs [0, 1, 2, 3, 4, 5, 6, 7, 8, 9, 10] rfl hz0 hfr hk1
  have hz0 := Nat.le_trans hz0 hz1
  generalize H1 = H at hP hS hfr hz0 ⊢
  obtain ⟨hP, hD⟩ := zre [(mq, .inr (12, mF g gl rf)), (eA0 (rf 24) (ck 24) 14 f_sky), (eA0 (rf 29) (ck 29) 24 f_landHas), (eA0 (rf 31) (ck 31) 8 f_first), (eA0 (rf 32) (ck 32) 8 f_last), (eA0 (rf 41) (ck 41) 128 f_knot), (eA0 (rf 42) (ck 42) 128 f_part), (eA0 (rf 43) (ck 43) 128 f_other), (eA1 (rf 55) (ck 55) 6 f_names), (eA1 (rf 56) (ck 56) 64 f_value), (eO11a x pa bk xsp xdy le xst xsc xim xil xik xmo xom wi), (xmo, .inr (4, [u_5.2.1, .long u_5.2.2.1, .long u_5.2.2.2.1, .long u_5.2.2.2.2.1, .long u_5.2.2.2.2.2])), (eO0a bk bto bnm bla bsk bru bbo bdi bda bdk bdt bdp bno), (eA0 bto cTo 5 fTo), (eA4 bla cLa 4 (fun k => some (La k))), (eO1a (La 0) (FI 0) (GR 0) (FR 0)), (eO9a bsk wd wf mp mb mo sp sb), (eO8a bru rco rsz ren rst rkn), (eA0 rco cRc 64 fRc), (eA0 ren cRe 4 fRe), (eA1 rst cRs 64 u_5.1)] hP hD rfl
  refine W.widen (k := ce + 0) (n := sl + 0) (by omega) (by omega) ?_
  obtain ⟨X_12, hX_12⟩ : ∃ X9 : Int64 × (Nat → Int64) × (Value) × (Int64) × (Int64) × (Int64) × (Int64), X9 = (fx_rule mla mct myr mdy mlg fTo La FI GR FR wd wf mp mb mo sp sb fRc fRe fRs y1 ((y2.toInt64 <<< ((32 : Int32).toInt64 &&& 63)) ||| (y3.toInt64 &&& 4294967295))) := ⟨_, rfl⟩
  have hq_r_4 : r_4 = X_12.1 := by rw [hX_12]; exact hw.1
  have hq_u_5 : u_5 = X_12.2 := by rw [hX_12]; exact hw.2
  refine lv_pop2_2 hx hb dL_law_842 rfl ?_
  refine lv_aload_n hx hb dL_law_843 rfl (lv_at hl 2 rfl) ?_
  refine lv_aload_n hx hb dL_law_844 rfl (lv_at hl 4 rfl) ?_
  refine lv_iload hx hb dL_law_845 (lv_at hl 0 rfl) ?_
  refine lv_iconst (v := 1) hx hb dL_law_847 (by decide) ?_
  refine lv_iadd hx hb dL_law_848 ?_
  refine va_sld hx hb hX hbl hbA hS hi1 dL_law_849 ?_
  rw [hy1]
  refine lv_aload_n hx hb dL_law_850 rfl (lv_at hl 4 rfl) ?_
  refine lv_iload hx hb dL_law_851 (lv_at hl 0 rfl) ?_
  refine lv_iconst (v := 2) hx hb dL_law_853 (by decide) ?_
  refine lv_iadd hx hb dL_law_854 ?_
  refine va_sld hx hb hX hbl hbA hS hi2 dL_law_855 ?_
  rw [hy2]
  refine lv_i2l (v := y2.toInt64) hx hb dL_law_856 rfl ?_
  refine lv_bipush (v := 32) hx hb dL_law_857 (by decide) ?_
  refine lv_lshl (v := (y2.toInt64 <<< ((32 : Int32).toInt64 &&& 63))) hx hb dL_law_859 rfl ?_
  refine lv_aload_n hx hb dL_law_860 rfl (lv_at hl 4 rfl) ?_
  refine lv_iload hx hb dL_law_861 (lv_at hl 0 rfl) ?_
  refine lv_iconst (v := 3) hx hb dL_law_863 (by decide) ?_
  refine lv_iadd hx hb dL_law_864 ?_
  refine va_sld hx hb hX hbl hbA hS hi3 dL_law_865 ?_
  rw [hy3]
  refine lv_i2l (v := y3.toInt64) hx hb dL_law_866 rfl ?_
  refine lv_ldc2 (v := 4294967295) hx hb hown (htw _ (ck_1 _ (List.mem_of_getElem? (i := 7) rfl))) dL_law_867 ?_
  refine lv_land hx hb dL_law_870 ?_
  refine lv_lor hx hb dL_law_871 ?_
  obtain ⟨hPc, hDc, hFc, hCc⟩ := zsub3 (ws' := [(mq, .inr (12, mF g gl rf)), (eA0 (rf 24) (ck 24) 14 f_sky), (eA0 (rf 29) (ck 29) 24 f_landHas), (eA0 (rf 31) (ck 31) 8 f_first), (eA0 (rf 32) (ck 32) 8 f_last), (eA0 (rf 41) (ck 41) 128 f_knot), (eA0 (rf 42) (ck 42) 128 f_part), (eA0 (rf 43) (ck 43) 128 f_other), (eA1 (rf 55) (ck 55) 6 f_names), (eA1 (rf 56) (ck 56) 64 f_value)]) hP hD hS hA [0, 1, 2, 3, 4, 5, 6, 7, 8, 9] (by decide +kernel) rfl
  have hKc := hK.sub (tys' := [((ck 24), .int), ((ck 29), .int), ((ck 31), .int), ((ck 32), .int), ((ck 41), .int), ((ck 42), .int), ((ck 43), .int), ((ck 55), .long), ((ck 56), .long)]) [5, 6, 7, 8, 9, 10, 11, 12, 13] rfl
  refine va_calll (va_runV (As := [.int y1, .long ((y2.toInt64 <<< ((32 : Int32).toInt64 &&& 63)) ||| (y3.toInt64 &&& 4294967295))]) (rest := []) ⟨hx, hb, hml, hown, htw⟩ (gq_rule l dC dI mq g gl rf ck f_sky f_landHas f_first f_last f_knot f_part f_other f_names f_value y1 ((y2.toInt64 <<< ((32 : Int32).toInt64 &&& 63)) ||| (y3.toInt64 &&& 4294967295)) H.size hfe0 hfe4 hFA hKA hln0 hln4 hLZ hs0 hs2 hs5) (cwV 2 htw (xg_V (ck_44 _ (List.mem_of_getElem? (i := 5) rfl)) (ck_44 _ (List.mem_of_getElem? (i := 6) rfl)) (ck_44 _ (List.mem_of_getElem? (i := 7) rfl)) (ck_1 _ (List.mem_of_getElem? (i := 5) rfl)) (ck_44 _ (List.mem_of_getElem? (i := 8) rfl))) rfl rfl rfl (by exact ⟨rfl, hdc_14.1, hdc_14.2, hdd_41⟩) ⟨Nat.le_of_ble_eq_true rfl, Nat.le_of_ble_eq_true rfl⟩) ⟨fun a U g mk q => by obtain ⟨q0, q1, qP, qK, qD⟩ := q; exact ⟨q0, q1, qP, va_K.moved (u := U) (U := U.calling g mk a) (Vm.Alike.refl U.vm) qK, qD⟩, va_recv hKc hPc (ci := 12) (q0 := 0) rfl rfl, fun U hU hW => ⟨rfl, by rw [hU], by rw [hU]; exact hPc, va_K.moved hW.alike hKc, hDc.weaken (fun _ _ _ _ => trivial)⟩⟩ rfl rfl hl.1 rfl (lv_room (Nat.le_of_ble_eq_true rfl)) dL_law_872 ⟨by first | exact Nat.le_of_ble_eq_true rfl | exact yR (n := 0) (by omega) rfl, by first | exact Nat.le_of_ble_eq_true rfl | exact yR2 (n := 0) (by omega) rfl⟩) hS (fun q _ h => hFc q h) hFc (fun r_16 u_17 t H1 locs ht hvm hw hB hz1 hk1 hS => ?_)
  try dsimp only at hw
  obtain ⟨hP1, hK1, hD1⟩ := hB
  rw [ht] at hP1
  have hK1 := va_K.moved hvm.symm hK1
  have hK1 : va_K (dC, dI) vwCl [] s := hK1
  obtain ⟨hP, hD⟩ := va_join (wr := [(eO11a x pa bk xsp xdy le xst xsc xim xil xik xmo xom wi), (xmo, .inr (4, [u_5.2.1, .long u_5.2.2.1, .long u_5.2.2.2.1, .long u_5.2.2.2.2.1, .long u_5.2.2.2.2.2])), (eO0a bk bto bnm bla bsk bru bbo bdi bda bdk bdt bdp bno), (eA0 bto cTo 5 fTo), (eA4 bla cLa 4 (fun k => some (La k))), (eO1a (La 0) (FI 0) (GR 0) (FR 0)), (eO9a bsk wd wf mp mb mo sp sb), (eO8a bru rco rsz ren rst rkn), (eA0 rco cRc 64 fRc), (eA0 ren cRe 4 fRe), (eA1 rst cRs 64 u_5.1)]) (w1 := [(mq, .inr (12, mF (upd (upd g 2 u_17.1) 57 u_17.2.2.2.1) (vp_updL (vp_updL gl 53 u_17.2.1) 54 u_17.2.2.1) rf)), (eA0 (rf 24) (ck 24) 14 f_sky), (eA0 (rf 29) (ck 29) 24 f_landHas), (eA0 (rf 31) (ck 31) 8 f_first), (eA0 (rf 32) (ck 32) 8 f_last), (eA0 (rf 41) (ck 41) 128 f_knot), (eA0 (rf 42) (ck 42) 128 f_part), (eA0 (rf 43) (ck 43) 128 f_other), (eA1 (rf 55) (ck 55) 6 u_17.2.2.2.2.1), (eA1 (rf 56) (ck 56) 64 u_17.2.2.2.2.2)]) hP hD [0, 1, 2, 3, 4, 5, 6, 7, 8, 9] [10, 11, 12, 13, 14, 15, 16, 17, 18, 19, 20] hCc rfl (by decide +kernel) (by decide +kernel) hk1 hFc hP1 hD1
  have hfr := yF (wc := [(mq, .inr (12, mF g gl rf)), (eA0 (rf 24) (ck 24) 14 f_sky), (eA0 (rf 29) (ck 29) 24 f_landHas), (eA0 (rf 31) (ck 31) 8 f_first), (eA0 (rf 32) (ck 32) 8 f_last), (eA0 (rf 41) (ck 41) 128 f_knot), (eA0 (rf 42) (ck 42) 128 f_part), (eA0 (rf 43) (ck 43) 128 f_other), (eA1 (rf 55) (ck 55) 6 f_names), (eA1 (rf 56) (ck 56) 64 f_value)]) hBs [11, 12, 13, 14, 15, 16, 17, 18, 19, 20] rfl hz0 hfr hk1
  have hz0 := Nat.le_trans hz0 hz1
  generalize H1 = H at hP hS hfr hz0 ⊢
  have hP : va_P (dC, dI) vwCl [(eO11a x pa bk xsp xdy le xst xsc xim xil xik xmo xom wi), (xmo, .inr (4, [u_5.2.1, .long u_5.2.2.1, .long u_5.2.2.2.1, .long u_5.2.2.2.2.1, .long u_5.2.2.2.2.2])), (eO0a bk bto bnm bla bsk bru bbo bdi bda bdk bdt bdp bno), (eA0 bto cTo 5 fTo), (eA4 bla cLa 4 (fun k => some (La k))), (eO1a (La 0) (FI 0) (GR 0) (FR 0)), (eO9a bsk wd wf mp mb mo sp sb), (eO8a bru rco rsz ren rst rkn), (eA0 rco cRc 64 fRc), (eA0 ren cRe 4 fRe), (eA1 rst cRs 64 u_5.1), (mq, .inr (12, mF (upd (upd g 2 u_17.1) 57 u_17.2.2.2.1) (vp_updL (vp_updL gl 53 u_17.2.1) 54 u_17.2.2.1) rf)), (eA0 (rf 24) (ck 24) 14 f_sky), (eA0 (rf 29) (ck 29) 24 f_landHas), (eA0 (rf 31) (ck 31) 8 f_first), (eA0 (rf 32) (ck 32) 8 f_last), (eA0 (rf 41) (ck 41) 128 f_knot), (eA0 (rf 42) (ck 42) 128 f_part), (eA0 (rf 43) (ck 43) 128 f_other), (eA1 (rf 55) (ck 55) 6 u_17.2.2.2.2.1), (eA1 (rf 56) (ck 56) 64 u_17.2.2.2.2.2)] H := hP
  have hD : va_D A [(eO11a x pa bk xsp xdy le xst xsc xim xil xik xmo xom wi), (xmo, .inr (4, [u_5.2.1, .long u_5.2.2.1, .long u_5.2.2.2.1, .long u_5.2.2.2.2.1, .long u_5.2.2.2.2.2])), (eO0a bk bto bnm bla bsk bru bbo bdi bda bdk bdt bdp bno), (eA0 bto cTo 5 fTo), (eA4 bla cLa 4 (fun k => some (La k))), (eO1a (La 0) (FI 0) (GR 0) (FR 0)), (eO9a bsk wd wf mp mb mo sp sb), (eO8a bru rco rsz ren rst rkn), (eA0 rco cRc 64 fRc), (eA0 ren cRe 4 fRe), (eA1 rst cRs 64 u_5.1), (mq, .inr (12, mF (upd (upd g 2 u_17.1) 57 u_17.2.2.2.1) (vp_updL (vp_updL gl 53 u_17.2.1) 54 u_17.2.2.1) rf)), (eA0 (rf 24) (ck 24) 14 f_sky), (eA0 (rf 29) (ck 29) 24 f_landHas), (eA0 (rf 31) (ck 31) 8 f_first), (eA0 (rf 32) (ck 32) 8 f_last), (eA0 (rf 41) (ck 41) 128 f_knot), (eA0 (rf 42) (ck 42) 128 f_part), (eA0 (rf 43) (ck 43) 128 f_other), (eA1 (rf 55) (ck 55) 6 u_17.2.2.2.2.1), (eA1 (rf 56) (ck 56) 64 u_17.2.2.2.2.2)] := hD
  refine W.widen (k := ce + 0) (n := sl + 0) (by omega) (by omega) ?_
  obtain ⟨X_24, hX_24⟩ : ∃ X9 : Int64 × (Int32) × (Int64) × (Int64) × (Int32) × (Nat → Int64) × (Nat → Int64), X9 = (fq_rule f_sky f_landHas f_first f_last f_knot f_part f_other f_names f_value y1 ((y2.toInt64 <<< ((32 : Int32).toInt64 &&& 63)) ||| (y3.toInt64 &&& 4294967295)) (g 12) (g 13) (gl 53) (gl 54) (g 57)) := ⟨_, rfl⟩
  have hq_r_16 : r_16 = X_24.1 := by rw [hX_24]; exact hw.1
  have hq_u_17 : u_17 = X_24.2 := by rw [hX_24]; exact hw.2
  refine lv_pop2_2 hx hb dL_law_875 rfl ?_
  refine lv_goto (tgt := 2012) hx hb dL_law_876 (by decide) ?_
  refine W.widen (k := ce + 1) (n := sl + 6) (by omega) (by omega) ?_
  exact kk1 X_12 hX_12 r_4 hq_r_4 u_5 hq_u_5 X_24 hX_24 r_16 hq_r_16 u_17 hq_u_17 H locs ls (hP.sub (ws' := [(eO11a x pa bk xsp xdy le xst xsc xim xil xik xmo xom wi), (xmo, .inr (4, [u_5.2.1, .long u_5.2.2.1, .long u_5.2.2.2.1, .long u_5.2.2.2.2.1, .long u_5.2.2.2.2.2])), (eO0a bk bto bnm bla bsk bru bbo bdi bda bdk bdt bdp bno), (eA0 bto cTo 5 fTo), (eA4 bla cLa 4 (fun k => some (La k))), (eO1a (La 0) (FI 0) (GR 0) (FR 0)), (eO9a bsk wd wf mp mb mo sp sb), (eO8a bru rco rsz ren rst rkn), (eA0 rco cRc 64 fRc), (eA0 ren cRe 4 fRe), (eA1 rst cRs 64 u_5.1), (mq, .inr (12, mF (upd (upd g 2 u_17.1) 57 u_17.2.2.2.1) (vp_updL (vp_updL gl 53 u_17.2.1) 54 u_17.2.2.1) rf)), (eA0 (rf 24) (ck 24) 14 f_sky), (eA0 (rf 29) (ck 29) 24 f_landHas), (eA0 (rf 31) (ck 31) 8 f_first), (eA0 (rf 32) (ck 32) 8 f_last), (eA0 (rf 41) (ck 41) 128 f_knot), (eA0 (rf 42) (ck 42) 128 f_part), (eA0 (rf 43) (ck 43) 128 f_other), (eA1 (rf 55) (ck 55) 6 u_17.2.2.2.2.1), (eA1 (rf 56) (ck 56) 64 u_17.2.2.2.2.2)]) [0, 1, 2, 3, 4, 5, 6, 7, 8, 9, 10, 11, 12, 13, 14, 15, 16, 17, 18, 19, 20] rfl) hS (lv_sub hl [0, 1, 2, 3, 4] rfl) hz0 hfr

theorem dL_law_879 : decode cL_law 879 = .ok (.aload_n 1, 1) := zk_43 (by decide +kernel)
theorem dL_law_880 : decode cL_law 880 = .ok (.aload_n 0, 1) := zk_42 (by decide +kernel)
theorem dL_law_881 : decode cL_law 881 = .ok (.iload 4, 2) := zk_21 (by decide +kernel)
theorem dL_law_883 : decode cL_law 883 = .ok (.iconst 1, 1) := zk_4 (by decide +kernel)
theorem dL_law_884 : decode cL_law 884 = .ok (.iadd, 1) := zk_96 (by decide +kernel)
theorem dL_law_885 : decode cL_law 885 = .ok (.iaload, 1) := zk_46 (by decide +kernel)
theorem dL_law_886 : decode cL_law 886 = .ok (.aload_n 0, 1) := zk_42 (by decide +kernel)
theorem dL_law_887 : decode cL_law 887 = .ok (.iload 4, 2) := zk_21 (by decide +kernel)
theorem dL_law_889 : decode cL_law 889 = .ok (.iconst 2, 1) := zk_5 (by decide +kernel)
theorem dL_law_890 : decode cL_law 890 = .ok (.iadd, 1) := zk_96 (by decide +kernel)
theorem dL_law_891 : decode cL_law 891 = .ok (.iaload, 1) := zk_46 (by decide +kernel)
theorem dL_law_892 : decode cL_law 892 = .ok (.invokevirtual 81, 3) := zk_182 (by decide +kernel)
theorem dL_law_895 : decode cL_law 895 = .ok (.pop2, 1) := zk_88 (by decide +kernel)
theorem dL_law_896 : decode cL_law 896 = .ok (.aload_n 2, 1) := zk_44 (by decide +kernel)
theorem dL_law_897 : decode cL_law 897 = .ok (.aload_n 0, 1) := zk_42 (by decide +kernel)
theorem dL_law_898 : decode cL_law 898 = .ok (.iload 4, 2) := zk_21 (by decide +kernel)
theorem dL_law_900 : decode cL_law 900 = .ok (.iconst 1, 1) := zk_4 (by decide +kernel)
theorem dL_law_901 : decode cL_law 901 = .ok (.iadd, 1) := zk_96 (by decide +kernel)
theorem dL_law_902 : decode cL_law 902 = .ok (.iaload, 1) := zk_46 (by decide +kernel)
theorem dL_law_903 : decode cL_law 903 = .ok (.aload_n 0, 1) := zk_42 (by decide +kernel)
theorem dL_law_904 : decode cL_law 904 = .ok (.iload 4, 2) := zk_21 (by decide +kernel)
theorem dL_law_906 : decode cL_law 906 = .ok (.iconst 2, 1) := zk_5 (by decide +kernel)
theorem dL_law_907 : decode cL_law 907 = .ok (.iadd, 1) := zk_96 (by decide +kernel)
theorem dL_law_908 : decode cL_law 908 = .ok (.iaload, 1) := zk_46 (by decide +kernel)
theorem dL_law_909 : decode cL_law 909 = .ok (.invokevirtual 84, 3) := zk_182 (by decide +kernel)
theorem dL_law_912 : decode cL_law 912 = .ok (.pop2, 1) := zk_88 (by decide +kernel)
theorem dL_law_913 : decode cL_law 913 = .ok (.goto 1099, 3) := zk_167 (by decide +kernel)
set_option maxHeartbeats 4000000 in
set_option maxRecDepth 100000 in
theorem law_life (l : Launch) (hst : l.stackTraces = false) {p : Program} {e : Env} {s : State} {m : MethodId} {below : List Frame} {meth : Method} {c : Code} {bs L : Nat} {xs : Nat → Int32} (C0 : lw_At p s m meth c bs L xs) (dC : Nat → ClassId) (dI : Nat → Nat → Nat) (A : Nat → Prop) (hAe : ∀ q, A q ↔ s.heap.size ≤ q) (x : Nat) (pa : Nat) (bk : Nat) (xsp : Nat) (xdy : Nat) (le : Nat) (xst : Nat) (xsc : Int32) (xim : Nat) (xil : Nat) (xik : Int32) (xmo : Nat) (xom : Nat) (wi : Nat) (bto : Nat) (bnm : Nat) (bla : Nat) (bsk : Nat) (bru : Nat) (bbo : Nat) (bdi : Nat) (bda : Nat) (bdk : Nat) (bdt : Nat) (bdp : Nat) (bno : Nat) (cTo : ClassId) (fTo : Nat → Int32) (cBb : ClassId) (fBo : Nat → Int64) (cBi : ClassId) (fDi : Nat → Int64) (mq : Nat) (g : Nat → Int32) (gl : Nat → Int64) (rf : Nat → Nat) (ck : Nat → ClassId) (f_born : Nat → Int64) (f_died : Nat → Int64) (o3 : Nat) (ht2 : (fTo 2) ≤ 6) (hp0 : ¬ (g 14) < 0) (hp6 : (g 14) ≤ 6) (sL : Nat → Nat)  (i y1 y2 : Int32) (hi1 : vp_in (i + 1) L) (hy1 : xs (i + 1).toNatClampNeg = y1) (hi2 : vp_in (i + 2) L) (hy2 : xs (i + 2).toNatClampNeg = y2)  (Bp : Nat → Prop) (H0 : Heap) (locs : List Loc) (ls : Array Slot) (ce sl : Nat) (hce : ce + 1 ≤ 601024) (hsl : sl + 6 ≤ 7293034) (hK : va_K (dC, dI) vwCl [(cTo, .int), (cBb, .long), (cBi, .long), ((ck 34), .long), ((ck 35), .long)] s) (hP : va_P (dC, dI) vwCl [(eO11a x pa bk xsp xdy le xst xsc xim xil xik xmo xom wi), (eO0a bk bto bnm bla bsk bru bbo bdi bda bdk bdt bdp bno), (eA0 bto cTo 5 fTo), (eA1 bbo cBb 6 fBo), (eA1 bdi cBi 6 fDi), (mq, .inr (12, mF g gl rf)), (eA1 (rf 34) (ck 34) 12 f_born), (eA1 (rf 35) (ck 35) 12 f_died)] H0) (hD : va_D A [(eO11a x pa bk xsp xdy le xst xsc xim xil xik xmo xom wi), (eO0a bk bto bnm bla bsk bru bbo bdi bda bdk bdt bdp bno), (eA0 bto cTo 5 fTo), (eA1 bbo cBb 6 fBo), (eA1 bdi cBi 6 fDi), (mq, .inr (12, mF g gl rf)), (eA1 (rf 34) (ck 34) 12 f_born), (eA1 (rf 35) (ck 35) 12 f_died)]) (hBs : yB Bp [(eO11a x pa bk xsp xdy le xst xsc xim xil xik xmo xom wi), (eO0a bk bto bnm bla bsk bru bbo bdi bda bdk bdt bdp bno), (eA0 bto cTo 5 fTo), (eA1 bbo cBb 6 fBo), (eA1 bdi cBi 6 fDi), (mq, .inr (12, mF g gl rf)), (eA1 (rf 34) (ck 34) 12 f_born), (eA1 (rf 35) (ck 35) 12 f_died)]) (hS : va_S A s.heap H0 locs) (hl : lv_has ls 7 [(4, .int i), (3, .ref o3), (2, .ref mq), (1, .ref x), (0, .ref bs)]) (kk1 : ∀ (r_3 : Int64), r_3 = (fx_life fTo fBo fDi y1 y2) → ∀ (X_9 : Int64 × (Int32)), X_9 = (fq_life f_born f_died y1 y2 (g 14)) → ∀ (r_6 : Int64), r_6 = X_9.1 → ∀ (u_7 : (Int32)), u_7 = X_9.2 → ∀ (H : Heap) (locs : List Loc) (ls : Array Slot), va_P (dC, dI) vwCl [(eO11a x pa bk xsp xdy le xst xsc xim xil xik xmo xom wi), (eO0a bk bto bnm bla bsk bru bbo bdi bda bdk bdt bdp bno), (eA0 bto cTo 5 fTo), (eA1 bbo cBb 6 fBo), (eA1 bdi cBi 6 fDi), (mq, .inr (12, mF (upd g 2 u_7) gl rf)), (eA1 (rf 34) (ck 34) 12 f_born), (eA1 (rf 35) (ck 35) 12 f_died)] H → va_S A s.heap H locs → lv_has ls 7 [(4, .int i), (3, .ref o3), (2, .ref mq), (1, .ref x), (0, .ref bs)] → H0.size ≤ H.size → (∀ q : Nat, q < H0.size → ¬ Bp q → H[q]? = H0[q]?) → W p l e room_1 s m #[Value.ref bs] below meth c H locs (ce + 1) (sl + 6) (lw_Z below #[Value.ref bs] s) (F0 m 2012 ls [])) : W p l e room_1 s m #[Value.ref bs] below meth c H0 locs ce sl (lw_Z below #[Value.ref bs] s) (F0 m 879 ls []) := by
  obtain ⟨hx, hb, hr, hml, hown, hts, hX, hbl, hlocks, hgv⟩ := id C0
  have htw : ∀ w ∈ wsL_law, w.before _ s = true := fun w h => hts w (wsL_law_in w h)
  have hown : s.vm.findClass RL = some m.cls := hown
  have hA : ∀ q : Nat, s.heap.size ≤ q → A q := fun q h => (hAe q).mpr h
  have hbA : ¬ A bs := fun h => absurd ((hAe bs).mp h) (Nat.not_le.mpr hbl)
  obtain ⟨H, rH⟩ : ∃ z : Heap, z = H0 := ⟨_, rfl⟩
  have hfr : ∀ q : Nat, q < H0.size → ¬ Bp q → H[q]? = H0[q]? := fun q _ _ => by rw [rH]
  have hz0 : H0.size ≤ H.size := by rw [rH]; exact Nat.le_refl _
  rw [← rH] at hP hS ⊢
  refine lv_aload_n hx hb dL_law_879 rfl (lv_at hl 3 rfl) ?_
  refine lv_aload_n hx hb dL_law_880 rfl (lv_at hl 4 rfl) ?_
  refine lv_iload hx hb dL_law_881 (lv_at hl 0 rfl) ?_
  refine lv_iconst (v := 1) hx hb dL_law_883 (by decide) ?_
  refine lv_iadd hx hb dL_law_884 ?_
  refine va_sld hx hb hX hbl hbA hS hi1 dL_law_885 ?_
  rw [hy1]
  refine lv_aload_n hx hb dL_law_886 rfl (lv_at hl 4 rfl) ?_
  refine lv_iload hx hb dL_law_887 (lv_at hl 0 rfl) ?_
  refine lv_iconst (v := 2) hx hb dL_law_889 (by decide) ?_
  refine lv_iadd hx hb dL_law_890 ?_
  refine va_sld hx hb hX hbl hbA hS hi2 dL_law_891 ?_
  rw [hy2]
  have hPc := hP.sub (ws' := [(eO11a x pa bk xsp xdy le xst xsc xim xil xik xmo xom wi), (eO0a bk bto bnm bla bsk bru bbo bdi bda bdk bdt bdp bno), (eA0 bto cTo 5 fTo), (eA1 bbo cBb 6 fBo), (eA1 bdi cBi 6 fDi)]) [0, 1, 2, 3, 4] rfl
  have hKc := hK.sub (tys' := [(cTo, .int), (cBb, .long), (cBi, .long)]) [0, 1, 2] rfl
  refine vp_callSl (W.runV (As := [.int y1, .int y2]) (rest := []) ⟨hx, hb, hml, hown, htw⟩ (gx_life l dC dI x pa bk xsp xdy le xst xsc xim xil xik xmo xom wi bto bnm bla bsk bru bbo bdi bda bdk bdt bdp bno cTo fTo cBb fBo cBi fDi y1 y2 ht2) (cwV 2 htw (xg_V (ck_44 _ (List.mem_of_getElem? (i := 10) rfl)) (ck_44 _ (List.mem_of_getElem? (i := 11) rfl)) (ck_44 _ (List.mem_of_getElem? (i := 12) rfl)) (ck_1 _ (List.mem_of_getElem? (i := 2) rfl)) (ck_44 _ (List.mem_of_getElem? (i := 13) rfl))) rfl rfl rfl (by exact ⟨rfl, hdc_8.1, hdc_8.2, hdd_25⟩) ⟨Nat.le_of_ble_eq_true rfl, Nat.le_of_ble_eq_true rfl⟩) ⟨fun a U g mk q => by obtain ⟨q0, qP, qK⟩ := q; exact ⟨q0, qP, va_K.moved (u := U) (U := U.calling g mk a) (Vm.Alike.refl U.vm) qK⟩, va_recv hKc hPc (ci := 11) (q0 := 0) rfl rfl, fun U hU hW => ⟨rfl, by rw [hU]; exact hPc, va_K.moved hW.alike hKc⟩⟩ rfl rfl hl.1 rfl (lv_room (Nat.le_of_ble_eq_true rfl)) dL_law_892 ⟨by first | exact Nat.le_of_ble_eq_true rfl | exact yR (n := 0) (by omega) rfl, by first | exact Nat.le_of_ble_eq_true rfl | exact yR2 (n := 0) (by omega) rfl⟩) (fun r_3 hw => ?_)
  try dsimp only at hw
  have hq_r_3 : r_3 = (fx_life fTo fBo fDi y1 y2) := hw
  refine lv_pop2_2 hx hb dL_law_895 rfl ?_
  refine lv_aload_n hx hb dL_law_896 rfl (lv_at hl 2 rfl) ?_
  refine lv_aload_n hx hb dL_law_897 rfl (lv_at hl 4 rfl) ?_
  refine lv_iload hx hb dL_law_898 (lv_at hl 0 rfl) ?_
  refine lv_iconst (v := 1) hx hb dL_law_900 (by decide) ?_
  refine lv_iadd hx hb dL_law_901 ?_
  refine va_sld hx hb hX hbl hbA hS hi1 dL_law_902 ?_
  rw [hy1]
  refine lv_aload_n hx hb dL_law_903 rfl (lv_at hl 4 rfl) ?_
  refine lv_iload hx hb dL_law_904 (lv_at hl 0 rfl) ?_
  refine lv_iconst (v := 2) hx hb dL_law_906 (by decide) ?_
  refine lv_iadd hx hb dL_law_907 ?_
  refine va_sld hx hb hX hbl hbA hS hi2 dL_law_908 ?_
  rw [hy2]
  obtain ⟨hPc, hDc, hFc, hCc⟩ := zsub3 (ws' := [(mq, .inr (12, mF g gl rf)), (eA1 (rf 34) (ck 34) 12 f_born), (eA1 (rf 35) (ck 35) 12 f_died)]) hP hD hS hA [5, 6, 7] (by decide) rfl
  have hKc := hK.sub (tys' := [((ck 34), .long), ((ck 35), .long)]) [3, 4] rfl
  refine va_calll (va_runV (As := [.int y1, .int y2]) (rest := []) ⟨hx, hb, hml, hown, htw⟩ (gq_life l dC dI mq g gl rf ck f_born f_died y1 y2 H.size hp0 hp6) (cwV 2 htw (xg_V (ck_44 _ (List.mem_of_getElem? (i := 16) rfl)) (ck_44 _ (List.mem_of_getElem? (i := 17) rfl)) (ck_44 _ (List.mem_of_getElem? (i := 18) rfl)) (ck_1 _ (List.mem_of_getElem? (i := 5) rfl)) (ck_44 _ (List.mem_of_getElem? (i := 19) rfl))) rfl rfl rfl (by exact ⟨rfl, hdc_14.1, hdc_14.2, hdd_25⟩) ⟨Nat.le_of_ble_eq_true rfl, Nat.le_of_ble_eq_true rfl⟩) ⟨fun a U g mk q => by obtain ⟨q0, q1, qP, qK, qD⟩ := q; exact ⟨q0, q1, qP, va_K.moved (u := U) (U := U.calling g mk a) (Vm.Alike.refl U.vm) qK, qD⟩, va_recv hKc hPc (ci := 12) (q0 := 0) rfl rfl, fun U hU hW => ⟨rfl, by rw [hU], by rw [hU]; exact hPc, va_K.moved hW.alike hKc, hDc.weaken (fun _ _ _ _ => trivial)⟩⟩ rfl rfl hl.1 rfl (lv_room (Nat.le_of_ble_eq_true rfl)) dL_law_909 ⟨by first | exact Nat.le_of_ble_eq_true rfl | exact yR (n := 0) (by omega) rfl, by first | exact Nat.le_of_ble_eq_true rfl | exact yR2 (n := 0) (by omega) rfl⟩) hS (fun q _ h => hFc q h) hFc (fun r_6 u_7 t H1 locs ht hvm hw hB hz1 hk1 hS => ?_)
  try dsimp only at hw
  obtain ⟨hP1, hK1, hD1⟩ := hB
  rw [ht] at hP1
  have hK1 := va_K.moved hvm.symm hK1
  have hK1 : va_K (dC, dI) vwCl [] s := hK1
  obtain ⟨hP, hD⟩ := va_join (wr := [(eO11a x pa bk xsp xdy le xst xsc xim xil xik xmo xom wi), (eO0a bk bto bnm bla bsk bru bbo bdi bda bdk bdt bdp bno), (eA0 bto cTo 5 fTo), (eA1 bbo cBb 6 fBo), (eA1 bdi cBi 6 fDi)]) (w1 := [(mq, .inr (12, mF (upd g 2 u_7) gl rf)), (eA1 (rf 34) (ck 34) 12 f_born), (eA1 (rf 35) (ck 35) 12 f_died)]) hP hD [5, 6, 7] [0, 1, 2, 3, 4] hCc rfl (by decide) (by decide) hk1 hFc hP1 hD1
  have hfr := yF (wc := [(mq, .inr (12, mF g gl rf)), (eA1 (rf 34) (ck 34) 12 f_born), (eA1 (rf 35) (ck 35) 12 f_died)]) hBs [5, 6, 7] rfl hz0 hfr hk1
  have hz0 := Nat.le_trans hz0 hz1
  generalize H1 = H at hP hS hfr hz0 ⊢
  obtain ⟨hP, hD⟩ := zre [(eO11a x pa bk xsp xdy le xst xsc xim xil xik xmo xom wi), (eO0a bk bto bnm bla bsk bru bbo bdi bda bdk bdt bdp bno), (eA0 bto cTo 5 fTo), (eA1 bbo cBb 6 fBo), (eA1 bdi cBi 6 fDi), (mq, .inr (12, mF (upd g 2 u_7) gl rf)), (eA1 (rf 34) (ck 34) 12 f_born), (eA1 (rf 35) (ck 35) 12 f_died)] hP hD rfl
  refine W.widen (k := ce + 0) (n := sl + 0) (by omega) (by omega) ?_
  obtain ⟨X_9, hX_9⟩ : ∃ X9 : Int64 × (Int32), X9 = (fq_life f_born f_died y1 y2 (g 14)) := ⟨_, rfl⟩
  have hq_r_6 : r_6 = X_9.1 := by rw [hX_9]; exact hw.1
  have hq_u_7 : u_7 = X_9.2 := by rw [hX_9]; exact hw.2
  refine lv_pop2_2 hx hb dL_law_912 rfl ?_
  refine lv_goto (tgt := 2012) hx hb dL_law_913 (by decide) ?_
  refine W.widen (k := ce + 1) (n := sl + 6) (by omega) (by omega) ?_
  exact kk1 r_3 hq_r_3 X_9 hX_9 r_6 hq_r_6 u_7 hq_u_7 H locs ls (hP.sub (ws' := [(eO11a x pa bk xsp xdy le xst xsc xim xil xik xmo xom wi), (eO0a bk bto bnm bla bsk bru bbo bdi bda bdk bdt bdp bno), (eA0 bto cTo 5 fTo), (eA1 bbo cBb 6 fBo), (eA1 bdi cBi 6 fDi), (mq, .inr (12, mF (upd g 2 u_7) gl rf)), (eA1 (rf 34) (ck 34) 12 f_born), (eA1 (rf 35) (ck 35) 12 f_died)]) [0, 1, 2, 3, 4, 5, 6, 7] rfl) hS (lv_sub hl [0, 1, 2, 3, 4] rfl) hz0 hfr

theorem dL_law_916 : decode cL_law 916 = .ok (.aload_n 1, 1) := zk_43 (by decide +kernel)
theorem dL_law_917 : decode cL_law 917 = .ok (.aload_n 0, 1) := zk_42 (by decide +kernel)
theorem dL_law_918 : decode cL_law 918 = .ok (.iload 4, 2) := zk_21 (by decide +kernel)
theorem dL_law_920 : decode cL_law 920 = .ok (.iconst 1, 1) := zk_4 (by decide +kernel)
theorem dL_law_921 : decode cL_law 921 = .ok (.iadd, 1) := zk_96 (by decide +kernel)
theorem dL_law_922 : decode cL_law 922 = .ok (.iaload, 1) := zk_46 (by decide +kernel)
theorem dL_law_923 : decode cL_law 923 = .ok (.aload_n 0, 1) := zk_42 (by decide +kernel)
theorem dL_law_924 : decode cL_law 924 = .ok (.iload 4, 2) := zk_21 (by decide +kernel)
theorem dL_law_926 : decode cL_law 926 = .ok (.iconst 2, 1) := zk_5 (by decide +kernel)
theorem dL_law_927 : decode cL_law 927 = .ok (.iadd, 1) := zk_96 (by decide +kernel)
theorem dL_law_928 : decode cL_law 928 = .ok (.iaload, 1) := zk_46 (by decide +kernel)
theorem dL_law_929 : decode cL_law 929 = .ok (.i2l, 1) := zk_133 (by decide +kernel)
theorem dL_law_930 : decode cL_law 930 = .ok (.bipush 32, 2) := zk_16 (by decide +kernel)
theorem dL_law_932 : decode cL_law 932 = .ok (.lshl, 1) := zk_121 (by decide +kernel)
theorem dL_law_933 : decode cL_law 933 = .ok (.aload_n 0, 1) := zk_42 (by decide +kernel)
theorem dL_law_934 : decode cL_law 934 = .ok (.iload 4, 2) := zk_21 (by decide +kernel)
theorem dL_law_936 : decode cL_law 936 = .ok (.iconst 3, 1) := zk_6 (by decide +kernel)
theorem dL_law_937 : decode cL_law 937 = .ok (.iadd, 1) := zk_96 (by decide +kernel)
theorem dL_law_938 : decode cL_law 938 = .ok (.iaload, 1) := zk_46 (by decide +kernel)
theorem dL_law_939 : decode cL_law 939 = .ok (.i2l, 1) := zk_133 (by decide +kernel)
theorem dL_law_940 : decode cL_law 940 = .ok (.ldc2_w 50, 3) := zk_20 (by decide +kernel)
theorem dL_law_943 : decode cL_law 943 = .ok (.land, 1) := zk_127 (by decide +kernel)
theorem dL_law_944 : decode cL_law 944 = .ok (.lor, 1) := zk_129 (by decide +kernel)
theorem dL_law_945 : decode cL_law 945 = .ok (.aload_n 0, 1) := zk_42 (by decide +kernel)
theorem dL_law_946 : decode cL_law 946 = .ok (.iload 4, 2) := zk_21 (by decide +kernel)
theorem dL_law_948 : decode cL_law 948 = .ok (.iconst 4, 1) := zk_7 (by decide +kernel)
theorem dL_law_949 : decode cL_law 949 = .ok (.iadd, 1) := zk_96 (by decide +kernel)
theorem dL_law_950 : decode cL_law 950 = .ok (.iaload, 1) := zk_46 (by decide +kernel)
theorem dL_law_951 : decode cL_law 951 = .ok (.invokevirtual 85, 3) := zk_182 (by decide +kernel)
theorem dL_law_954 : decode cL_law 954 = .ok (.pop2, 1) := zk_88 (by decide +kernel)
theorem dL_law_955 : decode cL_law 955 = .ok (.aload_n 2, 1) := zk_44 (by decide +kernel)
theorem dL_law_956 : decode cL_law 956 = .ok (.aload_n 0, 1) := zk_42 (by decide +kernel)
theorem dL_law_957 : decode cL_law 957 = .ok (.iload 4, 2) := zk_21 (by decide +kernel)
theorem dL_law_959 : decode cL_law 959 = .ok (.iconst 1, 1) := zk_4 (by decide +kernel)
theorem dL_law_960 : decode cL_law 960 = .ok (.iadd, 1) := zk_96 (by decide +kernel)
theorem dL_law_961 : decode cL_law 961 = .ok (.iaload, 1) := zk_46 (by decide +kernel)
theorem dL_law_962 : decode cL_law 962 = .ok (.aload_n 0, 1) := zk_42 (by decide +kernel)
theorem dL_law_963 : decode cL_law 963 = .ok (.iload 4, 2) := zk_21 (by decide +kernel)
theorem dL_law_965 : decode cL_law 965 = .ok (.iconst 2, 1) := zk_5 (by decide +kernel)
theorem dL_law_966 : decode cL_law 966 = .ok (.iadd, 1) := zk_96 (by decide +kernel)
theorem dL_law_967 : decode cL_law 967 = .ok (.iaload, 1) := zk_46 (by decide +kernel)
theorem dL_law_968 : decode cL_law 968 = .ok (.i2l, 1) := zk_133 (by decide +kernel)
theorem dL_law_969 : decode cL_law 969 = .ok (.bipush 32, 2) := zk_16 (by decide +kernel)
theorem dL_law_971 : decode cL_law 971 = .ok (.lshl, 1) := zk_121 (by decide +kernel)
theorem dL_law_972 : decode cL_law 972 = .ok (.aload_n 0, 1) := zk_42 (by decide +kernel)
theorem dL_law_973 : decode cL_law 973 = .ok (.iload 4, 2) := zk_21 (by decide +kernel)
theorem dL_law_975 : decode cL_law 975 = .ok (.iconst 3, 1) := zk_6 (by decide +kernel)
theorem dL_law_976 : decode cL_law 976 = .ok (.iadd, 1) := zk_96 (by decide +kernel)
theorem dL_law_977 : decode cL_law 977 = .ok (.iaload, 1) := zk_46 (by decide +kernel)
theorem dL_law_978 : decode cL_law 978 = .ok (.i2l, 1) := zk_133 (by decide +kernel)
theorem dL_law_979 : decode cL_law 979 = .ok (.ldc2_w 50, 3) := zk_20 (by decide +kernel)
theorem dL_law_982 : decode cL_law 982 = .ok (.land, 1) := zk_127 (by decide +kernel)
theorem dL_law_983 : decode cL_law 983 = .ok (.lor, 1) := zk_129 (by decide +kernel)
theorem dL_law_984 : decode cL_law 984 = .ok (.aload_n 0, 1) := zk_42 (by decide +kernel)
theorem dL_law_985 : decode cL_law 985 = .ok (.iload 4, 2) := zk_21 (by decide +kernel)
theorem dL_law_987 : decode cL_law 987 = .ok (.iconst 4, 1) := zk_7 (by decide +kernel)
theorem dL_law_988 : decode cL_law 988 = .ok (.iadd, 1) := zk_96 (by decide +kernel)
theorem dL_law_989 : decode cL_law 989 = .ok (.iaload, 1) := zk_46 (by decide +kernel)
theorem dL_law_990 : decode cL_law 990 = .ok (.invokevirtual 88, 3) := zk_182 (by decide +kernel)
theorem dL_law_993 : decode cL_law 993 = .ok (.pop2, 1) := zk_88 (by decide +kernel)
theorem dL_law_994 : decode cL_law 994 = .ok (.goto 1018, 3) := zk_167 (by decide +kernel)
set_option maxHeartbeats 4000000 in
set_option maxRecDepth 100000 in
theorem law_age (l : Launch) (hst : l.stackTraces = false) {p : Program} {e : Env} {s : State} {m : MethodId} {below : List Frame} {meth : Method} {c : Code} {bs L : Nat} {xs : Nat → Int32} (C0 : lw_At p s m meth c bs L xs) (dC : Nat → ClassId) (dI : Nat → Nat → Nat) (A : Nat → Prop) (hAe : ∀ q, A q ↔ s.heap.size ≤ q) (x : Nat) (pa : Nat) (bk : Nat) (xsp : Nat) (xdy : Nat) (le : Nat) (xst : Nat) (xsc : Int32) (xim : Nat) (xil : Nat) (xik : Int32) (xmo : Nat) (xom : Nat) (wi : Nat) (bto : Nat) (bnm : Nat) (bla : Nat) (bsk : Nat) (bru : Nat) (bbo : Nat) (bdi : Nat) (bda : Nat) (bdk : Nat) (bdt : Nat) (bdp : Nat) (bno : Nat) (cTo : ClassId) (fTo : Nat → Int32) (cLa : ClassId) (La : Nat → Nat) (FI : Nat → Int32) (GR : Nat → Int32) (FR : Nat → Int32) (cBb : ClassId) (fBo : Nat → Int64) (mq : Nat) (g : Nat → Int32) (gl : Nat → Int64) (rf : Nat → Nat) (ck : Nat → ClassId) (f_landHas : Nat → Int32) (f_born : Nat → Int64) (o3 : Nat) (ht2 : (fTo 2) ≤ 6) (hln0 : ¬ (g 12) < 0) (hln4 : (g 12) ≤ 4) (hLZ : ∀ k : Int32, ¬ k < 0 → k < (g 12) → ¬ (f_landHas ((3 * k).toNatClampNeg)) = 0) (hLZ1 : ∀ k : Int32, ¬ k < 0 → k < (g 12) → ¬ (f_landHas ((3 * k).toNatClampNeg)) < 1) (hp0 : ¬ (g 14) < 0) (hp6 : (g 14) ≤ 6) (hBO : ∀ k : Int32, ¬ k < 0 → k < (g 14) → ¬ (f_born k.toNatClampNeg) < 0 ∧ (f_born k.toNatClampNeg) ≤ 1000000000000) (sL : Nat → Nat) (hNx : xN s) (i y1 y2 y3 y4 : Int32) (hi1 : vp_in (i + 1) L) (hy1 : xs (i + 1).toNatClampNeg = y1) (hi2 : vp_in (i + 2) L) (hy2 : xs (i + 2).toNatClampNeg = y2) (hi3 : vp_in (i + 3) L) (hy3 : xs (i + 3).toNatClampNeg = y3) (hi4 : vp_in (i + 4) L) (hy4 : xs (i + 4).toNatClampNeg = y4)  (Bp : Nat → Prop) (H0 : Heap) (locs : List Loc) (ls : Array Slot) (ce sl : Nat) (hce : ce + 1 ≤ 601024) (hsl : sl + 6 ≤ 7293034) (hK : va_K (dC, dI) vwCl [(cTo, .int), (cLa, .object RX1), (cBb, .long), ((ck 29), .int), ((ck 34), .long)] s) (hP : va_P (dC, dI) vwCl [(eO11a x pa bk xsp xdy le xst xsc xim xil xik xmo xom wi), (eO0a bk bto bnm bla bsk bru bbo bdi bda bdk bdt bdp bno), (eA0 bto cTo 5 fTo), (eA4 bla cLa 4 (fun k => some (La k))), (eO1a (La 0) (FI 0) (GR 0) (FR 0)), (eO1a (La 1) (FI 1) (GR 1) (FR 1)), (eO1a (La 2) (FI 2) (GR 2) (FR 2)), (eO1a (La 3) (FI 3) (GR 3) (FR 3)), (eA1 bbo cBb 6 fBo), (mq, .inr (12, mF g gl rf)), (eA0 (rf 29) (ck 29) 24 f_landHas), (eA1 (rf 34) (ck 34) 12 f_born)] H0) (hD : va_D A [(eO11a x pa bk xsp xdy le xst xsc xim xil xik xmo xom wi), (eO0a bk bto bnm bla bsk bru bbo bdi bda bdk bdt bdp bno), (eA0 bto cTo 5 fTo), (eA4 bla cLa 4 (fun k => some (La k))), (eO1a (La 0) (FI 0) (GR 0) (FR 0)), (eO1a (La 1) (FI 1) (GR 1) (FR 1)), (eO1a (La 2) (FI 2) (GR 2) (FR 2)), (eO1a (La 3) (FI 3) (GR 3) (FR 3)), (eA1 bbo cBb 6 fBo), (mq, .inr (12, mF g gl rf)), (eA0 (rf 29) (ck 29) 24 f_landHas), (eA1 (rf 34) (ck 34) 12 f_born)]) (hBs : yB Bp [(eO11a x pa bk xsp xdy le xst xsc xim xil xik xmo xom wi), (eO0a bk bto bnm bla bsk bru bbo bdi bda bdk bdt bdp bno), (eA0 bto cTo 5 fTo), (eA4 bla cLa 4 (fun k => some (La k))), (eO1a (La 0) (FI 0) (GR 0) (FR 0)), (eO1a (La 1) (FI 1) (GR 1) (FR 1)), (eO1a (La 2) (FI 2) (GR 2) (FR 2)), (eO1a (La 3) (FI 3) (GR 3) (FR 3)), (eA1 bbo cBb 6 fBo), (mq, .inr (12, mF g gl rf)), (eA0 (rf 29) (ck 29) 24 f_landHas), (eA1 (rf 34) (ck 34) 12 f_born)]) (hS : va_S A s.heap H0 locs) (hl : lv_has ls 7 [(4, .int i), (3, .ref o3), (2, .ref mq), (1, .ref x), (0, .ref bs)]) (kk1 : ∀ (r_5 : Int64), r_5 = (fx_age fTo FI GR FR fBo y1 ((y2.toInt64 <<< ((32 : Int32).toInt64 &&& 63)) ||| (y3.toInt64 &&& 4294967295)) y4) → ∀ (X_15 : Int64 × (Int32) × (Int64) × (Int64)), X_15 = (fq_age f_landHas f_born y1 ((y2.toInt64 <<< ((32 : Int32).toInt64 &&& 63)) ||| (y3.toInt64 &&& 4294967295)) y4 (g 12) (g 14) (gl 53) (gl 54)) → ∀ (r_10 : Int64), r_10 = X_15.1 → ∀ (u_11 : (Int32) × (Int64) × (Int64)), u_11 = X_15.2 → ∀ (H : Heap) (locs : List Loc) (ls : Array Slot), va_P (dC, dI) vwCl [(eO11a x pa bk xsp xdy le xst xsc xim xil xik xmo xom wi), (eO0a bk bto bnm bla bsk bru bbo bdi bda bdk bdt bdp bno), (eA0 bto cTo 5 fTo), (eA4 bla cLa 4 (fun k => some (La k))), (eO1a (La 0) (FI 0) (GR 0) (FR 0)), (eO1a (La 1) (FI 1) (GR 1) (FR 1)), (eO1a (La 2) (FI 2) (GR 2) (FR 2)), (eO1a (La 3) (FI 3) (GR 3) (FR 3)), (eA1 bbo cBb 6 fBo), (mq, .inr (12, mF (upd g 2 u_11.1) (vp_updL (vp_updL gl 53 u_11.2.1) 54 u_11.2.2) rf)), (eA0 (rf 29) (ck 29) 24 f_landHas), (eA1 (rf 34) (ck 34) 12 f_born)] H → va_S A s.heap H locs → lv_has ls 7 [(4, .int i), (3, .ref o3), (2, .ref mq), (1, .ref x), (0, .ref bs)] → H0.size ≤ H.size → (∀ q : Nat, q < H0.size → ¬ Bp q → H[q]? = H0[q]?) → W p l e room_1 s m #[Value.ref bs] below meth c H locs (ce + 1) (sl + 6) (lw_Z below #[Value.ref bs] s) (F0 m 2012 ls [])) : W p l e room_1 s m #[Value.ref bs] below meth c H0 locs ce sl (lw_Z below #[Value.ref bs] s) (F0 m 916 ls []) := by
  obtain ⟨hx, hb, hr, hml, hown, hts, hX, hbl, hlocks, hgv⟩ := id C0
  have htw : ∀ w ∈ wsL_law, w.before _ s = true := fun w h => hts w (wsL_law_in w h)
  have hown : s.vm.findClass RL = some m.cls := hown
  have hA : ∀ q : Nat, s.heap.size ≤ q → A q := fun q h => (hAe q).mpr h
  have hbA : ¬ A bs := fun h => absurd ((hAe bs).mp h) (Nat.not_le.mpr hbl)
  obtain ⟨H, rH⟩ : ∃ z : Heap, z = H0 := ⟨_, rfl⟩
  have hfr : ∀ q : Nat, q < H0.size → ¬ Bp q → H[q]? = H0[q]? := fun q _ _ => by rw [rH]
  have hz0 : H0.size ≤ H.size := by rw [rH]; exact Nat.le_refl _
  rw [← rH] at hP hS ⊢
  refine lv_aload_n hx hb dL_law_916 rfl (lv_at hl 3 rfl) ?_
  refine lv_aload_n hx hb dL_law_917 rfl (lv_at hl 4 rfl) ?_
  refine lv_iload hx hb dL_law_918 (lv_at hl 0 rfl) ?_
  refine lv_iconst (v := 1) hx hb dL_law_920 (by decide) ?_
  refine lv_iadd hx hb dL_law_921 ?_
  refine va_sld hx hb hX hbl hbA hS hi1 dL_law_922 ?_
  rw [hy1]
  refine lv_aload_n hx hb dL_law_923 rfl (lv_at hl 4 rfl) ?_
  refine lv_iload hx hb dL_law_924 (lv_at hl 0 rfl) ?_
  refine lv_iconst (v := 2) hx hb dL_law_926 (by decide) ?_
  refine lv_iadd hx hb dL_law_927 ?_
  refine va_sld hx hb hX hbl hbA hS hi2 dL_law_928 ?_
  rw [hy2]
  refine lv_i2l (v := y2.toInt64) hx hb dL_law_929 rfl ?_
  refine lv_bipush (v := 32) hx hb dL_law_930 (by decide) ?_
  refine lv_lshl (v := (y2.toInt64 <<< ((32 : Int32).toInt64 &&& 63))) hx hb dL_law_932 rfl ?_
  refine lv_aload_n hx hb dL_law_933 rfl (lv_at hl 4 rfl) ?_
  refine lv_iload hx hb dL_law_934 (lv_at hl 0 rfl) ?_
  refine lv_iconst (v := 3) hx hb dL_law_936 (by decide) ?_
  refine lv_iadd hx hb dL_law_937 ?_
  refine va_sld hx hb hX hbl hbA hS hi3 dL_law_938 ?_
  rw [hy3]
  refine lv_i2l (v := y3.toInt64) hx hb dL_law_939 rfl ?_
  refine lv_ldc2 (v := 4294967295) hx hb hown (htw _ (ck_1 _ (List.mem_of_getElem? (i := 7) rfl))) dL_law_940 ?_
  refine lv_land hx hb dL_law_943 ?_
  refine lv_lor hx hb dL_law_944 ?_
  refine lv_aload_n hx hb dL_law_945 rfl (lv_at hl 4 rfl) ?_
  refine lv_iload hx hb dL_law_946 (lv_at hl 0 rfl) ?_
  refine lv_iconst (v := 4) hx hb dL_law_948 (by decide) ?_
  refine lv_iadd hx hb dL_law_949 ?_
  refine va_sld hx hb hX hbl hbA hS hi4 dL_law_950 ?_
  rw [hy4]
  have hPc := hP.sub (ws' := [(eO11a x pa bk xsp xdy le xst xsc xim xil xik xmo xom wi), (eO0a bk bto bnm bla bsk bru bbo bdi bda bdk bdt bdp bno), (eA0 bto cTo 5 fTo), (eA4 bla cLa 4 (fun k => some (La k))), (eO1a (La 0) (FI 0) (GR 0) (FR 0)), (eO1a (La 1) (FI 1) (GR 1) (FR 1)), (eO1a (La 2) (FI 2) (GR 2) (FR 2)), (eO1a (La 3) (FI 3) (GR 3) (FR 3)), (eA1 bbo cBb 6 fBo)]) [0, 1, 2, 3, 4, 5, 6, 7, 8] rfl
  have hKc := hK.sub (tys' := [(cTo, .int), (cLa, .object RX1), (cBb, .long)]) [0, 1, 2] rfl
  refine vp_callSl (W.runV (As := [.int y1, .long ((y2.toInt64 <<< ((32 : Int32).toInt64 &&& 63)) ||| (y3.toInt64 &&& 4294967295)), .int y4]) (rest := []) ⟨hx, hb, hml, hown, htw⟩ (gx_age l dC dI x pa bk xsp xdy le xst xsc xim xil xik xmo xom wi bto bnm bla bsk bru bbo bdi bda bdk bdt bdp bno cTo fTo cLa La FI GR FR cBb fBo y1 ((y2.toInt64 <<< ((32 : Int32).toInt64 &&& 63)) ||| (y3.toInt64 &&& 4294967295)) y4 ht2) (cwV 3 htw (xg_V (ck_45 _ (List.mem_of_getElem? (i := 0) rfl)) (ck_45 _ (List.mem_of_getElem? (i := 1) rfl)) (ck_45 _ (List.mem_of_getElem? (i := 2) rfl)) (ck_1 _ (List.mem_of_getElem? (i := 2) rfl)) (ck_45 _ (List.mem_of_getElem? (i := 3) rfl))) rfl rfl rfl (by exact ⟨rfl, hdc_8.1, hdc_8.2, hdd_58⟩) ⟨Nat.le_of_ble_eq_true rfl, Nat.le_of_ble_eq_true rfl⟩) ⟨fun a U g mk q => by obtain ⟨q0, qP, qK, qx⟩ := q; exact ⟨q0, qP, va_K.moved (u := U) (U := U.calling g mk a) (Vm.Alike.refl U.vm) qK, xN.calling qx⟩, va_recv hKc hPc (ci := 11) (q0 := 0) rfl rfl, fun U hU hW => ⟨rfl, by rw [hU]; exact hPc, va_K.moved hW.alike hKc, xN.warm hW hNx⟩⟩ rfl rfl hl.1 rfl (lv_room (Nat.le_of_ble_eq_true rfl)) dL_law_951 ⟨by first | exact Nat.le_of_ble_eq_true rfl | exact yR (n := 0) (by omega) rfl, by first | exact Nat.le_of_ble_eq_true rfl | exact yR2 (n := 0) (by omega) rfl⟩) (fun r_5 hw => ?_)
  try dsimp only at hw
  have hq_r_5 : r_5 = (fx_age fTo FI GR FR fBo y1 ((y2.toInt64 <<< ((32 : Int32).toInt64 &&& 63)) ||| (y3.toInt64 &&& 4294967295)) y4) := hw
  refine lv_pop2_2 hx hb dL_law_954 rfl ?_
  refine lv_aload_n hx hb dL_law_955 rfl (lv_at hl 2 rfl) ?_
  refine lv_aload_n hx hb dL_law_956 rfl (lv_at hl 4 rfl) ?_
  refine lv_iload hx hb dL_law_957 (lv_at hl 0 rfl) ?_
  refine lv_iconst (v := 1) hx hb dL_law_959 (by decide) ?_
  refine lv_iadd hx hb dL_law_960 ?_
  refine va_sld hx hb hX hbl hbA hS hi1 dL_law_961 ?_
  rw [hy1]
  refine lv_aload_n hx hb dL_law_962 rfl (lv_at hl 4 rfl) ?_
  refine lv_iload hx hb dL_law_963 (lv_at hl 0 rfl) ?_
  refine lv_iconst (v := 2) hx hb dL_law_965 (by decide) ?_
  refine lv_iadd hx hb dL_law_966 ?_
  refine va_sld hx hb hX hbl hbA hS hi2 dL_law_967 ?_
  rw [hy2]
  refine lv_i2l (v := y2.toInt64) hx hb dL_law_968 rfl ?_
  refine lv_bipush (v := 32) hx hb dL_law_969 (by decide) ?_
  refine lv_lshl (v := (y2.toInt64 <<< ((32 : Int32).toInt64 &&& 63))) hx hb dL_law_971 rfl ?_
  refine lv_aload_n hx hb dL_law_972 rfl (lv_at hl 4 rfl) ?_
  refine lv_iload hx hb dL_law_973 (lv_at hl 0 rfl) ?_
  refine lv_iconst (v := 3) hx hb dL_law_975 (by decide) ?_
  refine lv_iadd hx hb dL_law_976 ?_
  refine va_sld hx hb hX hbl hbA hS hi3 dL_law_977 ?_
  rw [hy3]
  refine lv_i2l (v := y3.toInt64) hx hb dL_law_978 rfl ?_
  refine lv_ldc2 (v := 4294967295) hx hb hown (htw _ (ck_1 _ (List.mem_of_getElem? (i := 7) rfl))) dL_law_979 ?_
  refine lv_land hx hb dL_law_982 ?_
  refine lv_lor hx hb dL_law_983 ?_
  refine lv_aload_n hx hb dL_law_984 rfl (lv_at hl 4 rfl) ?_
  refine lv_iload hx hb dL_law_985 (lv_at hl 0 rfl) ?_
  refine lv_iconst (v := 4) hx hb dL_law_987 (by decide) ?_
  refine lv_iadd hx hb dL_law_988 ?_
  refine va_sld hx hb hX hbl hbA hS hi4 dL_law_989 ?_
  rw [hy4]
  obtain ⟨hPc, hDc, hFc, hCc⟩ := zsub3 (ws' := [(mq, .inr (12, mF g gl rf)), (eA0 (rf 29) (ck 29) 24 f_landHas), (eA1 (rf 34) (ck 34) 12 f_born)]) hP hD hS hA [9, 10, 11] (by decide) rfl
  have hKc := hK.sub (tys' := [((ck 29), .int), ((ck 34), .long)]) [3, 4] rfl
  refine va_calll (va_runV (As := [.int y1, .long ((y2.toInt64 <<< ((32 : Int32).toInt64 &&& 63)) ||| (y3.toInt64 &&& 4294967295)), .int y4]) (rest := []) ⟨hx, hb, hml, hown, htw⟩ (gq_age l dC dI mq g gl rf ck f_landHas f_born y1 ((y2.toInt64 <<< ((32 : Int32).toInt64 &&& 63)) ||| (y3.toInt64 &&& 4294967295)) y4 H.size hln0 hln4 hLZ hLZ1 hp0 hp6 hBO) (cwV 3 htw (xg_V (ck_45 _ (List.mem_of_getElem? (i := 15) rfl)) (ck_45 _ (List.mem_of_getElem? (i := 16) rfl)) (ck_45 _ (List.mem_of_getElem? (i := 17) rfl)) (ck_1 _ (List.mem_of_getElem? (i := 5) rfl)) (ck_45 _ (List.mem_of_getElem? (i := 18) rfl))) rfl rfl rfl (by exact ⟨rfl, hdc_14.1, hdc_14.2, hdd_58⟩) ⟨Nat.le_of_ble_eq_true rfl, Nat.le_of_ble_eq_true rfl⟩) ⟨fun a U g mk q => by obtain ⟨q0, q1, qP, qK, qD⟩ := q; exact ⟨q0, q1, qP, va_K.moved (u := U) (U := U.calling g mk a) (Vm.Alike.refl U.vm) qK, qD⟩, va_recv hKc hPc (ci := 12) (q0 := 0) rfl rfl, fun U hU hW => ⟨rfl, by rw [hU], by rw [hU]; exact hPc, va_K.moved hW.alike hKc, hDc.weaken (fun _ _ _ _ => trivial)⟩⟩ rfl rfl hl.1 rfl (lv_room (Nat.le_of_ble_eq_true rfl)) dL_law_990 ⟨by first | exact Nat.le_of_ble_eq_true rfl | exact yR (n := 0) (by omega) rfl, by first | exact Nat.le_of_ble_eq_true rfl | exact yR2 (n := 0) (by omega) rfl⟩) hS (fun q _ h => hFc q h) hFc (fun r_10 u_11 t H1 locs ht hvm hw hB hz1 hk1 hS => ?_)
  try dsimp only at hw
  obtain ⟨hP1, hK1, hD1⟩ := hB
  rw [ht] at hP1
  have hK1 := va_K.moved hvm.symm hK1
  have hK1 : va_K (dC, dI) vwCl [] s := hK1
  obtain ⟨hP, hD⟩ := va_join (wr := [(eO11a x pa bk xsp xdy le xst xsc xim xil xik xmo xom wi), (eO0a bk bto bnm bla bsk bru bbo bdi bda bdk bdt bdp bno), (eA0 bto cTo 5 fTo), (eA4 bla cLa 4 (fun k => some (La k))), (eO1a (La 0) (FI 0) (GR 0) (FR 0)), (eO1a (La 1) (FI 1) (GR 1) (FR 1)), (eO1a (La 2) (FI 2) (GR 2) (FR 2)), (eO1a (La 3) (FI 3) (GR 3) (FR 3)), (eA1 bbo cBb 6 fBo)]) (w1 := [(mq, .inr (12, mF (upd g 2 u_11.1) (vp_updL (vp_updL gl 53 u_11.2.1) 54 u_11.2.2) rf)), (eA0 (rf 29) (ck 29) 24 f_landHas), (eA1 (rf 34) (ck 34) 12 f_born)]) hP hD [9, 10, 11] [0, 1, 2, 3, 4, 5, 6, 7, 8] hCc rfl (by decide +kernel) (by decide +kernel) hk1 hFc hP1 hD1
  have hfr := yF (wc := [(mq, .inr (12, mF g gl rf)), (eA0 (rf 29) (ck 29) 24 f_landHas), (eA1 (rf 34) (ck 34) 12 f_born)]) hBs [9, 10, 11] rfl hz0 hfr hk1
  have hz0 := Nat.le_trans hz0 hz1
  generalize H1 = H at hP hS hfr hz0 ⊢
  obtain ⟨hP, hD⟩ := zre [(eO11a x pa bk xsp xdy le xst xsc xim xil xik xmo xom wi), (eO0a bk bto bnm bla bsk bru bbo bdi bda bdk bdt bdp bno), (eA0 bto cTo 5 fTo), (eA4 bla cLa 4 (fun k => some (La k))), (eO1a (La 0) (FI 0) (GR 0) (FR 0)), (eO1a (La 1) (FI 1) (GR 1) (FR 1)), (eO1a (La 2) (FI 2) (GR 2) (FR 2)), (eO1a (La 3) (FI 3) (GR 3) (FR 3)), (eA1 bbo cBb 6 fBo), (mq, .inr (12, mF (upd g 2 u_11.1) (vp_updL (vp_updL gl 53 u_11.2.1) 54 u_11.2.2) rf)), (eA0 (rf 29) (ck 29) 24 f_landHas), (eA1 (rf 34) (ck 34) 12 f_born)] hP hD rfl
  refine W.widen (k := ce + 0) (n := sl + 0) (by omega) (by omega) ?_
  obtain ⟨X_15, hX_15⟩ : ∃ X9 : Int64 × (Int32) × (Int64) × (Int64), X9 = (fq_age f_landHas f_born y1 ((y2.toInt64 <<< ((32 : Int32).toInt64 &&& 63)) ||| (y3.toInt64 &&& 4294967295)) y4 (g 12) (g 14) (gl 53) (gl 54)) := ⟨_, rfl⟩
  have hq_r_10 : r_10 = X_15.1 := by rw [hX_15]; exact hw.1
  have hq_u_11 : u_11 = X_15.2 := by rw [hX_15]; exact hw.2
  refine lv_pop2_2 hx hb dL_law_993 rfl ?_
  refine lv_goto (tgt := 2012) hx hb dL_law_994 (by decide) ?_
  refine W.widen (k := ce + 1) (n := sl + 6) (by omega) (by omega) ?_
  exact kk1 r_5 hq_r_5 X_15 hX_15 r_10 hq_r_10 u_11 hq_u_11 H locs ls (hP.sub (ws' := [(eO11a x pa bk xsp xdy le xst xsc xim xil xik xmo xom wi), (eO0a bk bto bnm bla bsk bru bbo bdi bda bdk bdt bdp bno), (eA0 bto cTo 5 fTo), (eA4 bla cLa 4 (fun k => some (La k))), (eO1a (La 0) (FI 0) (GR 0) (FR 0)), (eO1a (La 1) (FI 1) (GR 1) (FR 1)), (eO1a (La 2) (FI 2) (GR 2) (FR 2)), (eO1a (La 3) (FI 3) (GR 3) (FR 3)), (eA1 bbo cBb 6 fBo), (mq, .inr (12, mF (upd g 2 u_11.1) (vp_updL (vp_updL gl 53 u_11.2.1) 54 u_11.2.2) rf)), (eA0 (rf 29) (ck 29) 24 f_landHas), (eA1 (rf 34) (ck 34) 12 f_born)]) [0, 1, 2, 3, 4, 5, 6, 7, 8, 9, 10, 11] rfl) hS (lv_sub hl [0, 1, 2, 3, 4] rfl) hz0 hfr

theorem dL_law_997 : decode cL_law 997 = .ok (.aload_n 1, 1) := zk_43 (by decide +kernel)
theorem dL_law_998 : decode cL_law 998 = .ok (.aload_n 0, 1) := zk_42 (by decide +kernel)
theorem dL_law_999 : decode cL_law 999 = .ok (.iload 4, 2) := zk_21 (by decide +kernel)
theorem dL_law_1001 : decode cL_law 1001 = .ok (.iconst 1, 1) := zk_4 (by decide +kernel)
theorem dL_law_1002 : decode cL_law 1002 = .ok (.iadd, 1) := zk_96 (by decide +kernel)
theorem dL_law_1003 : decode cL_law 1003 = .ok (.iaload, 1) := zk_46 (by decide +kernel)
theorem dL_law_1004 : decode cL_law 1004 = .ok (.aload_n 0, 1) := zk_42 (by decide +kernel)
theorem dL_law_1005 : decode cL_law 1005 = .ok (.iload 4, 2) := zk_21 (by decide +kernel)
theorem dL_law_1007 : decode cL_law 1007 = .ok (.iconst 2, 1) := zk_5 (by decide +kernel)
theorem dL_law_1008 : decode cL_law 1008 = .ok (.iadd, 1) := zk_96 (by decide +kernel)
theorem dL_law_1009 : decode cL_law 1009 = .ok (.iaload, 1) := zk_46 (by decide +kernel)
theorem dL_law_1010 : decode cL_law 1010 = .ok (.invokevirtual 89, 3) := zk_182 (by decide +kernel)
theorem dL_law_1013 : decode cL_law 1013 = .ok (.pop, 1) := zk_87 (by decide +kernel)
theorem dL_law_1014 : decode cL_law 1014 = .ok (.aload_n 2, 1) := zk_44 (by decide +kernel)
theorem dL_law_1015 : decode cL_law 1015 = .ok (.aload_n 0, 1) := zk_42 (by decide +kernel)
theorem dL_law_1016 : decode cL_law 1016 = .ok (.iload 4, 2) := zk_21 (by decide +kernel)
theorem dL_law_1018 : decode cL_law 1018 = .ok (.iconst 1, 1) := zk_4 (by decide +kernel)
theorem dL_law_1019 : decode cL_law 1019 = .ok (.iadd, 1) := zk_96 (by decide +kernel)
theorem dL_law_1020 : decode cL_law 1020 = .ok (.iaload, 1) := zk_46 (by decide +kernel)
theorem dL_law_1021 : decode cL_law 1021 = .ok (.aload_n 0, 1) := zk_42 (by decide +kernel)
theorem dL_law_1022 : decode cL_law 1022 = .ok (.iload 4, 2) := zk_21 (by decide +kernel)
theorem dL_law_1024 : decode cL_law 1024 = .ok (.iconst 2, 1) := zk_5 (by decide +kernel)
theorem dL_law_1025 : decode cL_law 1025 = .ok (.iadd, 1) := zk_96 (by decide +kernel)
theorem dL_law_1026 : decode cL_law 1026 = .ok (.iaload, 1) := zk_46 (by decide +kernel)
theorem dL_law_1027 : decode cL_law 1027 = .ok (.invokevirtual 92, 3) := zk_182 (by decide +kernel)
theorem dL_law_1030 : decode cL_law 1030 = .ok (.pop, 1) := zk_87 (by decide +kernel)
theorem dL_law_1031 : decode cL_law 1031 = .ok (.goto 981, 3) := zk_167 (by decide +kernel)
set_option maxHeartbeats 4000000 in
set_option maxRecDepth 100000 in
theorem law_elder (l : Launch) (hst : l.stackTraces = false) {p : Program} {e : Env} {s : State} {m : MethodId} {below : List Frame} {meth : Method} {c : Code} {bs L : Nat} {xs : Nat → Int32} (C0 : lw_At p s m meth c bs L xs) (dC : Nat → ClassId) (dI : Nat → Nat → Nat) (A : Nat → Prop) (hAe : ∀ q, A q ↔ s.heap.size ≤ q) (x : Nat) (pa : Nat) (bk : Nat) (xsp : Nat) (xdy : Nat) (le : Nat) (xst : Nat) (xsc : Int32) (xim : Nat) (xil : Nat) (xik : Int32) (xmo : Nat) (xom : Nat) (wi : Nat) (bto : Nat) (bnm : Nat) (bla : Nat) (bsk : Nat) (bru : Nat) (bbo : Nat) (bdi : Nat) (bda : Nat) (bdk : Nat) (bdt : Nat) (bdp : Nat) (bno : Nat) (cTo : ClassId) (fTo : Nat → Int32) (cBb : ClassId) (fBo : Nat → Int64) (mq : Nat) (g : Nat → Int32) (gl : Nat → Int64) (rf : Nat → Nat) (ck : Nat → ClassId) (f_born : Nat → Int64) (o3 : Nat) (ht2 : (fTo 2) ≤ 6) (hp0 : ¬ (g 14) < 0) (hp6 : (g 14) ≤ 6) (sL : Nat → Nat)  (i y1 y2 : Int32) (hi1 : vp_in (i + 1) L) (hy1 : xs (i + 1).toNatClampNeg = y1) (hi2 : vp_in (i + 2) L) (hy2 : xs (i + 2).toNatClampNeg = y2)  (Bp : Nat → Prop) (H0 : Heap) (locs : List Loc) (ls : Array Slot) (ce sl : Nat) (hce : ce + 1 ≤ 601024) (hsl : sl + 6 ≤ 7293034) (hK : va_K (dC, dI) vwCl [(cTo, .int), (cBb, .long), ((ck 34), .long)] s) (hP : va_P (dC, dI) vwCl [(eO11a x pa bk xsp xdy le xst xsc xim xil xik xmo xom wi), (eO0a bk bto bnm bla bsk bru bbo bdi bda bdk bdt bdp bno), (eA0 bto cTo 5 fTo), (eA1 bbo cBb 6 fBo), (mq, .inr (12, mF g gl rf)), (eA1 (rf 34) (ck 34) 12 f_born)] H0) (hD : va_D A [(eO11a x pa bk xsp xdy le xst xsc xim xil xik xmo xom wi), (eO0a bk bto bnm bla bsk bru bbo bdi bda bdk bdt bdp bno), (eA0 bto cTo 5 fTo), (eA1 bbo cBb 6 fBo), (mq, .inr (12, mF g gl rf)), (eA1 (rf 34) (ck 34) 12 f_born)]) (hBs : yB Bp [(eO11a x pa bk xsp xdy le xst xsc xim xil xik xmo xom wi), (eO0a bk bto bnm bla bsk bru bbo bdi bda bdk bdt bdp bno), (eA0 bto cTo 5 fTo), (eA1 bbo cBb 6 fBo), (mq, .inr (12, mF g gl rf)), (eA1 (rf 34) (ck 34) 12 f_born)]) (hS : va_S A s.heap H0 locs) (hl : lv_has ls 7 [(4, .int i), (3, .ref o3), (2, .ref mq), (1, .ref x), (0, .ref bs)]) (kk1 : ∀ (r_3 : Int32), r_3 = (fx_elder fTo fBo y1 y2) → ∀ (X_9 : Int32 × (Int32)), X_9 = (fq_elder f_born y1 y2 (g 14)) → ∀ (r_6 : Int32), r_6 = X_9.1 → ∀ (u_7 : (Int32)), u_7 = X_9.2 → ∀ (H : Heap) (locs : List Loc) (ls : Array Slot), va_P (dC, dI) vwCl [(eO11a x pa bk xsp xdy le xst xsc xim xil xik xmo xom wi), (eO0a bk bto bnm bla bsk bru bbo bdi bda bdk bdt bdp bno), (eA0 bto cTo 5 fTo), (eA1 bbo cBb 6 fBo), (mq, .inr (12, mF (upd g 2 u_7) gl rf)), (eA1 (rf 34) (ck 34) 12 f_born)] H → va_S A s.heap H locs → lv_has ls 7 [(4, .int i), (3, .ref o3), (2, .ref mq), (1, .ref x), (0, .ref bs)] → H0.size ≤ H.size → (∀ q : Nat, q < H0.size → ¬ Bp q → H[q]? = H0[q]?) → W p l e room_1 s m #[Value.ref bs] below meth c H locs (ce + 1) (sl + 6) (lw_Z below #[Value.ref bs] s) (F0 m 2012 ls [])) : W p l e room_1 s m #[Value.ref bs] below meth c H0 locs ce sl (lw_Z below #[Value.ref bs] s) (F0 m 997 ls []) := by
  obtain ⟨hx, hb, hr, hml, hown, hts, hX, hbl, hlocks, hgv⟩ := id C0
  have htw : ∀ w ∈ wsL_law, w.before _ s = true := fun w h => hts w (wsL_law_in w h)
  have hown : s.vm.findClass RL = some m.cls := hown
  have hA : ∀ q : Nat, s.heap.size ≤ q → A q := fun q h => (hAe q).mpr h
  have hbA : ¬ A bs := fun h => absurd ((hAe bs).mp h) (Nat.not_le.mpr hbl)
  obtain ⟨H, rH⟩ : ∃ z : Heap, z = H0 := ⟨_, rfl⟩
  have hfr : ∀ q : Nat, q < H0.size → ¬ Bp q → H[q]? = H0[q]? := fun q _ _ => by rw [rH]
  have hz0 : H0.size ≤ H.size := by rw [rH]; exact Nat.le_refl _
  rw [← rH] at hP hS ⊢
  refine lv_aload_n hx hb dL_law_997 rfl (lv_at hl 3 rfl) ?_
  refine lv_aload_n hx hb dL_law_998 rfl (lv_at hl 4 rfl) ?_
  refine lv_iload hx hb dL_law_999 (lv_at hl 0 rfl) ?_
  refine lv_iconst (v := 1) hx hb dL_law_1001 (by decide) ?_
  refine lv_iadd hx hb dL_law_1002 ?_
  refine va_sld hx hb hX hbl hbA hS hi1 dL_law_1003 ?_
  rw [hy1]
  refine lv_aload_n hx hb dL_law_1004 rfl (lv_at hl 4 rfl) ?_
  refine lv_iload hx hb dL_law_1005 (lv_at hl 0 rfl) ?_
  refine lv_iconst (v := 2) hx hb dL_law_1007 (by decide) ?_
  refine lv_iadd hx hb dL_law_1008 ?_
  refine va_sld hx hb hX hbl hbA hS hi2 dL_law_1009 ?_
  rw [hy2]
  have hPc := hP.sub (ws' := [(eO11a x pa bk xsp xdy le xst xsc xim xil xik xmo xom wi), (eO0a bk bto bnm bla bsk bru bbo bdi bda bdk bdt bdp bno), (eA0 bto cTo 5 fTo), (eA1 bbo cBb 6 fBo)]) [0, 1, 2, 3] rfl
  have hKc := hK.sub (tys' := [(cTo, .int), (cBb, .long)]) [0, 1] rfl
  refine vp_callSi (W.runV (As := [.int y1, .int y2]) (rest := []) ⟨hx, hb, hml, hown, htw⟩ (gx_elder l dC dI x pa bk xsp xdy le xst xsc xim xil xik xmo xom wi bto bnm bla bsk bru bbo bdi bda bdk bdt bdp bno cTo fTo cBb fBo y1 y2 ht2) (cwV 2 htw (xg_V (ck_45 _ (List.mem_of_getElem? (i := 19) rfl)) (ck_45 _ (List.mem_of_getElem? (i := 20) rfl)) (ck_45 _ (List.mem_of_getElem? (i := 21) rfl)) (ck_1 _ (List.mem_of_getElem? (i := 2) rfl)) (ck_45 _ (List.mem_of_getElem? (i := 22) rfl))) rfl rfl rfl (by exact ⟨rfl, hdc_8.1, hdc_8.2, hdd_7⟩) ⟨Nat.le_of_ble_eq_true rfl, Nat.le_of_ble_eq_true rfl⟩) ⟨fun a U g mk q => by obtain ⟨q0, qP, qK⟩ := q; exact ⟨q0, qP, va_K.moved (u := U) (U := U.calling g mk a) (Vm.Alike.refl U.vm) qK⟩, va_recv hKc hPc (ci := 11) (q0 := 0) rfl rfl, fun U hU hW => ⟨rfl, by rw [hU]; exact hPc, va_K.moved hW.alike hKc⟩⟩ rfl rfl hl.1 rfl (lv_room (Nat.le_of_ble_eq_true rfl)) dL_law_1010 ⟨by first | exact Nat.le_of_ble_eq_true rfl | exact yR (n := 0) (by omega) rfl, by first | exact Nat.le_of_ble_eq_true rfl | exact yR2 (n := 0) (by omega) rfl⟩) (fun r_3 hw => ?_)
  try dsimp only at hw
  have hq_r_3 : r_3 = (fx_elder fTo fBo y1 y2) := hw
  refine lv_pop hx hb dL_law_1013 rfl ?_
  refine lv_aload_n hx hb dL_law_1014 rfl (lv_at hl 2 rfl) ?_
  refine lv_aload_n hx hb dL_law_1015 rfl (lv_at hl 4 rfl) ?_
  refine lv_iload hx hb dL_law_1016 (lv_at hl 0 rfl) ?_
  refine lv_iconst (v := 1) hx hb dL_law_1018 (by decide) ?_
  refine lv_iadd hx hb dL_law_1019 ?_
  refine va_sld hx hb hX hbl hbA hS hi1 dL_law_1020 ?_
  rw [hy1]
  refine lv_aload_n hx hb dL_law_1021 rfl (lv_at hl 4 rfl) ?_
  refine lv_iload hx hb dL_law_1022 (lv_at hl 0 rfl) ?_
  refine lv_iconst (v := 2) hx hb dL_law_1024 (by decide) ?_
  refine lv_iadd hx hb dL_law_1025 ?_
  refine va_sld hx hb hX hbl hbA hS hi2 dL_law_1026 ?_
  rw [hy2]
  obtain ⟨hPc, hDc, hFc, hCc⟩ := zsub3 (ws' := [(mq, .inr (12, mF g gl rf)), (eA1 (rf 34) (ck 34) 12 f_born)]) hP hD hS hA [4, 5] (by decide) rfl
  have hKc := hK.sub (tys' := [((ck 34), .long)]) [2] rfl
  refine va_calli (va_runV (As := [.int y1, .int y2]) (rest := []) ⟨hx, hb, hml, hown, htw⟩ (gq_elder l dC dI mq g gl rf ck f_born y1 y2 H.size hp0 hp6) (cwV 2 htw (xg_V (ck_45 _ (List.mem_of_getElem? (i := 23) rfl)) (ck_46 _ (List.mem_of_getElem? (i := 0) rfl)) (ck_46 _ (List.mem_of_getElem? (i := 1) rfl)) (ck_1 _ (List.mem_of_getElem? (i := 5) rfl)) (ck_46 _ (List.mem_of_getElem? (i := 2) rfl))) rfl rfl rfl (by exact ⟨rfl, hdc_14.1, hdc_14.2, hdd_7⟩) ⟨Nat.le_of_ble_eq_true rfl, Nat.le_of_ble_eq_true rfl⟩) ⟨fun a U g mk q => by obtain ⟨q0, q1, qP, qK, qD⟩ := q; exact ⟨q0, q1, qP, va_K.moved (u := U) (U := U.calling g mk a) (Vm.Alike.refl U.vm) qK, qD⟩, va_recv hKc hPc (ci := 12) (q0 := 0) rfl rfl, fun U hU hW => ⟨rfl, by rw [hU], by rw [hU]; exact hPc, va_K.moved hW.alike hKc, hDc.weaken (fun _ _ _ _ => trivial)⟩⟩ rfl rfl hl.1 rfl (lv_room (Nat.le_of_ble_eq_true rfl)) dL_law_1027 ⟨by first | exact Nat.le_of_ble_eq_true rfl | exact yR (n := 0) (by omega) rfl, by first | exact Nat.le_of_ble_eq_true rfl | exact yR2 (n := 0) (by omega) rfl⟩) hS (fun q _ h => hFc q h) hFc (fun r_6 u_7 t H1 locs ht hvm hw hB hz1 hk1 hS => ?_)
  try dsimp only at hw
  obtain ⟨hP1, hK1, hD1⟩ := hB
  rw [ht] at hP1
  have hK1 := va_K.moved hvm.symm hK1
  have hK1 : va_K (dC, dI) vwCl [] s := hK1
  obtain ⟨hP, hD⟩ := va_join (wr := [(eO11a x pa bk xsp xdy le xst xsc xim xil xik xmo xom wi), (eO0a bk bto bnm bla bsk bru bbo bdi bda bdk bdt bdp bno), (eA0 bto cTo 5 fTo), (eA1 bbo cBb 6 fBo)]) (w1 := [(mq, .inr (12, mF (upd g 2 u_7) gl rf)), (eA1 (rf 34) (ck 34) 12 f_born)]) hP hD [4, 5] [0, 1, 2, 3] hCc rfl (by decide) (by decide) hk1 hFc hP1 hD1
  have hfr := yF (wc := [(mq, .inr (12, mF g gl rf)), (eA1 (rf 34) (ck 34) 12 f_born)]) hBs [4, 5] rfl hz0 hfr hk1
  have hz0 := Nat.le_trans hz0 hz1
  generalize H1 = H at hP hS hfr hz0 ⊢
  obtain ⟨hP, hD⟩ := zre [(eO11a x pa bk xsp xdy le xst xsc xim xil xik xmo xom wi), (eO0a bk bto bnm bla bsk bru bbo bdi bda bdk bdt bdp bno), (eA0 bto cTo 5 fTo), (eA1 bbo cBb 6 fBo), (mq, .inr (12, mF (upd g 2 u_7) gl rf)), (eA1 (rf 34) (ck 34) 12 f_born)] hP hD rfl
  refine W.widen (k := ce + 0) (n := sl + 0) (by omega) (by omega) ?_
  obtain ⟨X_9, hX_9⟩ : ∃ X9 : Int32 × (Int32), X9 = (fq_elder f_born y1 y2 (g 14)) := ⟨_, rfl⟩
  have hq_r_6 : r_6 = X_9.1 := by rw [hX_9]; exact hw.1
  have hq_u_7 : u_7 = X_9.2 := by rw [hX_9]; exact hw.2
  refine lv_pop hx hb dL_law_1030 rfl ?_
  refine lv_goto (tgt := 2012) hx hb dL_law_1031 (by decide) ?_
  refine W.widen (k := ce + 1) (n := sl + 6) (by omega) (by omega) ?_
  exact kk1 r_3 hq_r_3 X_9 hX_9 r_6 hq_r_6 u_7 hq_u_7 H locs ls (hP.sub (ws' := [(eO11a x pa bk xsp xdy le xst xsc xim xil xik xmo xom wi), (eO0a bk bto bnm bla bsk bru bbo bdi bda bdk bdt bdp bno), (eA0 bto cTo 5 fTo), (eA1 bbo cBb 6 fBo), (mq, .inr (12, mF (upd g 2 u_7) gl rf)), (eA1 (rf 34) (ck 34) 12 f_born)]) [0, 1, 2, 3, 4, 5] rfl) hS (lv_sub hl [0, 1, 2, 3, 4] rfl) hz0 hfr

theorem dL_law_1034 : decode cL_law 1034 = .ok (.aload_n 1, 1) := zk_43 (by decide +kernel)
theorem dL_law_1035 : decode cL_law 1035 = .ok (.aload_n 0, 1) := zk_42 (by decide +kernel)
theorem dL_law_1036 : decode cL_law 1036 = .ok (.iload 4, 2) := zk_21 (by decide +kernel)
theorem dL_law_1038 : decode cL_law 1038 = .ok (.iconst 1, 1) := zk_4 (by decide +kernel)
theorem dL_law_1039 : decode cL_law 1039 = .ok (.iadd, 1) := zk_96 (by decide +kernel)
theorem dL_law_1040 : decode cL_law 1040 = .ok (.iaload, 1) := zk_46 (by decide +kernel)
theorem dL_law_1041 : decode cL_law 1041 = .ok (.aload_n 0, 1) := zk_42 (by decide +kernel)
theorem dL_law_1042 : decode cL_law 1042 = .ok (.iload 4, 2) := zk_21 (by decide +kernel)
theorem dL_law_1044 : decode cL_law 1044 = .ok (.iconst 2, 1) := zk_5 (by decide +kernel)
theorem dL_law_1045 : decode cL_law 1045 = .ok (.iadd, 1) := zk_96 (by decide +kernel)
theorem dL_law_1046 : decode cL_law 1046 = .ok (.iaload, 1) := zk_46 (by decide +kernel)
theorem dL_law_1047 : decode cL_law 1047 = .ok (.aload_n 0, 1) := zk_42 (by decide +kernel)
theorem dL_law_1048 : decode cL_law 1048 = .ok (.iload 4, 2) := zk_21 (by decide +kernel)
theorem dL_law_1050 : decode cL_law 1050 = .ok (.iconst 3, 1) := zk_6 (by decide +kernel)
theorem dL_law_1051 : decode cL_law 1051 = .ok (.iadd, 1) := zk_96 (by decide +kernel)
theorem dL_law_1052 : decode cL_law 1052 = .ok (.iaload, 1) := zk_46 (by decide +kernel)
theorem dL_law_1053 : decode cL_law 1053 = .ok (.aload_n 0, 1) := zk_42 (by decide +kernel)
theorem dL_law_1054 : decode cL_law 1054 = .ok (.iload 4, 2) := zk_21 (by decide +kernel)
theorem dL_law_1056 : decode cL_law 1056 = .ok (.iconst 4, 1) := zk_7 (by decide +kernel)
theorem dL_law_1057 : decode cL_law 1057 = .ok (.iadd, 1) := zk_96 (by decide +kernel)
theorem dL_law_1058 : decode cL_law 1058 = .ok (.iaload, 1) := zk_46 (by decide +kernel)
theorem dL_law_1059 : decode cL_law 1059 = .ok (.i2l, 1) := zk_133 (by decide +kernel)
theorem dL_law_1060 : decode cL_law 1060 = .ok (.bipush 32, 2) := zk_16 (by decide +kernel)
theorem dL_law_1062 : decode cL_law 1062 = .ok (.lshl, 1) := zk_121 (by decide +kernel)
theorem dL_law_1063 : decode cL_law 1063 = .ok (.aload_n 0, 1) := zk_42 (by decide +kernel)
theorem dL_law_1064 : decode cL_law 1064 = .ok (.iload 4, 2) := zk_21 (by decide +kernel)
theorem dL_law_1066 : decode cL_law 1066 = .ok (.iconst 5, 1) := zk_8 (by decide +kernel)
theorem dL_law_1067 : decode cL_law 1067 = .ok (.iadd, 1) := zk_96 (by decide +kernel)
theorem dL_law_1068 : decode cL_law 1068 = .ok (.iaload, 1) := zk_46 (by decide +kernel)
theorem dL_law_1069 : decode cL_law 1069 = .ok (.i2l, 1) := zk_133 (by decide +kernel)
theorem dL_law_1070 : decode cL_law 1070 = .ok (.ldc2_w 50, 3) := zk_20 (by decide +kernel)
theorem dL_law_1073 : decode cL_law 1073 = .ok (.land, 1) := zk_127 (by decide +kernel)
theorem dL_law_1074 : decode cL_law 1074 = .ok (.lor, 1) := zk_129 (by decide +kernel)
theorem dL_law_1075 : decode cL_law 1075 = .ok (.invokevirtual 93, 3) := zk_182 (by decide +kernel)
theorem dL_law_1078 : decode cL_law 1078 = .ok (.pop2, 1) := zk_88 (by decide +kernel)
theorem dL_law_1079 : decode cL_law 1079 = .ok (.aload_n 2, 1) := zk_44 (by decide +kernel)
theorem dL_law_1080 : decode cL_law 1080 = .ok (.aload_n 0, 1) := zk_42 (by decide +kernel)
theorem dL_law_1081 : decode cL_law 1081 = .ok (.iload 4, 2) := zk_21 (by decide +kernel)
theorem dL_law_1083 : decode cL_law 1083 = .ok (.iconst 1, 1) := zk_4 (by decide +kernel)
theorem dL_law_1084 : decode cL_law 1084 = .ok (.iadd, 1) := zk_96 (by decide +kernel)
theorem dL_law_1085 : decode cL_law 1085 = .ok (.iaload, 1) := zk_46 (by decide +kernel)
theorem dL_law_1086 : decode cL_law 1086 = .ok (.aload_n 0, 1) := zk_42 (by decide +kernel)
theorem dL_law_1087 : decode cL_law 1087 = .ok (.iload 4, 2) := zk_21 (by decide +kernel)
theorem dL_law_1089 : decode cL_law 1089 = .ok (.iconst 2, 1) := zk_5 (by decide +kernel)
theorem dL_law_1090 : decode cL_law 1090 = .ok (.iadd, 1) := zk_96 (by decide +kernel)
theorem dL_law_1091 : decode cL_law 1091 = .ok (.iaload, 1) := zk_46 (by decide +kernel)
theorem dL_law_1092 : decode cL_law 1092 = .ok (.aload_n 0, 1) := zk_42 (by decide +kernel)
theorem dL_law_1093 : decode cL_law 1093 = .ok (.iload 4, 2) := zk_21 (by decide +kernel)
theorem dL_law_1095 : decode cL_law 1095 = .ok (.iconst 3, 1) := zk_6 (by decide +kernel)
theorem dL_law_1096 : decode cL_law 1096 = .ok (.iadd, 1) := zk_96 (by decide +kernel)
theorem dL_law_1097 : decode cL_law 1097 = .ok (.iaload, 1) := zk_46 (by decide +kernel)
theorem dL_law_1098 : decode cL_law 1098 = .ok (.aload_n 0, 1) := zk_42 (by decide +kernel)
theorem dL_law_1099 : decode cL_law 1099 = .ok (.iload 4, 2) := zk_21 (by decide +kernel)
theorem dL_law_1101 : decode cL_law 1101 = .ok (.iconst 4, 1) := zk_7 (by decide +kernel)
theorem dL_law_1102 : decode cL_law 1102 = .ok (.iadd, 1) := zk_96 (by decide +kernel)
theorem dL_law_1103 : decode cL_law 1103 = .ok (.iaload, 1) := zk_46 (by decide +kernel)
theorem dL_law_1104 : decode cL_law 1104 = .ok (.i2l, 1) := zk_133 (by decide +kernel)
theorem dL_law_1105 : decode cL_law 1105 = .ok (.bipush 32, 2) := zk_16 (by decide +kernel)
theorem dL_law_1107 : decode cL_law 1107 = .ok (.lshl, 1) := zk_121 (by decide +kernel)
theorem dL_law_1108 : decode cL_law 1108 = .ok (.aload_n 0, 1) := zk_42 (by decide +kernel)
theorem dL_law_1109 : decode cL_law 1109 = .ok (.iload 4, 2) := zk_21 (by decide +kernel)
theorem dL_law_1111 : decode cL_law 1111 = .ok (.iconst 5, 1) := zk_8 (by decide +kernel)
theorem dL_law_1112 : decode cL_law 1112 = .ok (.iadd, 1) := zk_96 (by decide +kernel)
theorem dL_law_1113 : decode cL_law 1113 = .ok (.iaload, 1) := zk_46 (by decide +kernel)
theorem dL_law_1114 : decode cL_law 1114 = .ok (.i2l, 1) := zk_133 (by decide +kernel)
theorem dL_law_1115 : decode cL_law 1115 = .ok (.ldc2_w 50, 3) := zk_20 (by decide +kernel)
theorem dL_law_1118 : decode cL_law 1118 = .ok (.land, 1) := zk_127 (by decide +kernel)
theorem dL_law_1119 : decode cL_law 1119 = .ok (.lor, 1) := zk_129 (by decide +kernel)
theorem dL_law_1120 : decode cL_law 1120 = .ok (.invokevirtual 97, 3) := zk_182 (by decide +kernel)
theorem dL_law_1123 : decode cL_law 1123 = .ok (.pop2, 1) := zk_88 (by decide +kernel)
theorem dL_law_1124 : decode cL_law 1124 = .ok (.goto 888, 3) := zk_167 (by decide +kernel)
set_option maxHeartbeats 4000000 in
set_option maxRecDepth 100000 in
theorem law_often (l : Launch) (hst : l.stackTraces = false) {p : Program} {e : Env} {s : State} {m : MethodId} {below : List Frame} {meth : Method} {c : Code} {bs L : Nat} {xs : Nat → Int32} (C0 : lw_At p s m meth c bs L xs) (dC : Nat → ClassId) (dI : Nat → Nat → Nat) (A : Nat → Prop) (hAe : ∀ q, A q ↔ s.heap.size ≤ q) (x : Nat) (pa : Nat) (bk : Nat) (xsp : Nat) (xdy : Nat) (le : Nat) (xst : Nat) (xsc : Int32) (xim : Nat) (xil : Nat) (xik : Int32) (xmo : Nat) (xom : Nat) (wi : Nat) (bto : Nat) (bnm : Nat) (bla : Nat) (bsk : Nat) (bru : Nat) (bbo : Nat) (bdi : Nat) (bda : Nat) (bdk : Nat) (bdt : Nat) (bdp : Nat) (bno : Nat) (cTo : ClassId) (fTo : Nat → Int32) (cLa : ClassId) (La : Nat → Nat) (FI : Nat → Int32) (GR : Nat → Int32) (FR : Nat → Int32) (mq : Nat) (g : Nat → Int32) (gl : Nat → Int64) (rf : Nat → Nat) (ck : Nat → ClassId) (f_landHas : Nat → Int32) (o3 : Nat) (hln0 : ¬ (g 12) < 0) (hln4 : (g 12) ≤ 4) (sL : Nat → Nat) (hNx : xN s) (i y1 y2 y3 y4 y5 : Int32) (hi1 : vp_in (i + 1) L) (hy1 : xs (i + 1).toNatClampNeg = y1) (hi2 : vp_in (i + 2) L) (hy2 : xs (i + 2).toNatClampNeg = y2) (hi3 : vp_in (i + 3) L) (hy3 : xs (i + 3).toNatClampNeg = y3) (hi4 : vp_in (i + 4) L) (hy4 : xs (i + 4).toNatClampNeg = y4) (hi5 : vp_in (i + 5) L) (hy5 : xs (i + 5).toNatClampNeg = y5)  (Bp : Nat → Prop) (H0 : Heap) (locs : List Loc) (ls : Array Slot) (ce sl : Nat) (hce : ce + 1 ≤ 601024) (hsl : sl + 6 ≤ 7293034) (hK : va_K (dC, dI) vwCl [(cTo, .int), (cLa, .object RX1), ((ck 29), .int)] s) (hP : va_P (dC, dI) vwCl [(eO11a x pa bk xsp xdy le xst xsc xim xil xik xmo xom wi), (eO0a bk bto bnm bla bsk bru bbo bdi bda bdk bdt bdp bno), (eA0 bto cTo 5 fTo), (eA4 bla cLa 4 (fun k => some (La k))), (eO1a (La 0) (FI 0) (GR 0) (FR 0)), (eO1a (La 1) (FI 1) (GR 1) (FR 1)), (eO1a (La 2) (FI 2) (GR 2) (FR 2)), (eO1a (La 3) (FI 3) (GR 3) (FR 3)), (mq, .inr (12, mF g gl rf)), (eA0 (rf 29) (ck 29) 24 f_landHas)] H0) (hD : va_D A [(eO11a x pa bk xsp xdy le xst xsc xim xil xik xmo xom wi), (eO0a bk bto bnm bla bsk bru bbo bdi bda bdk bdt bdp bno), (eA0 bto cTo 5 fTo), (eA4 bla cLa 4 (fun k => some (La k))), (eO1a (La 0) (FI 0) (GR 0) (FR 0)), (eO1a (La 1) (FI 1) (GR 1) (FR 1)), (eO1a (La 2) (FI 2) (GR 2) (FR 2)), (eO1a (La 3) (FI 3) (GR 3) (FR 3)), (mq, .inr (12, mF g gl rf)), (eA0 (rf 29) (ck 29) 24 f_landHas)]) (hBs : yB Bp [(eO11a x pa bk xsp xdy le xst xsc xim xil xik xmo xom wi), (eO0a bk bto bnm bla bsk bru bbo bdi bda bdk bdt bdp bno), (eA0 bto cTo 5 fTo), (eA4 bla cLa 4 (fun k => some (La k))), (eO1a (La 0) (FI 0) (GR 0) (FR 0)), (eO1a (La 1) (FI 1) (GR 1) (FR 1)), (eO1a (La 2) (FI 2) (GR 2) (FR 2)), (eO1a (La 3) (FI 3) (GR 3) (FR 3)), (mq, .inr (12, mF g gl rf)), (eA0 (rf 29) (ck 29) 24 f_landHas)]) (hS : va_S A s.heap H0 locs) (hl : lv_has ls 7 [(4, .int i), (3, .ref o3), (2, .ref mq), (1, .ref x), (0, .ref bs)]) (kk1 : ∀ (r_6 : Int64), r_6 = (fx_often fTo FI GR FR y1 y2 y3 ((y4.toInt64 <<< ((32 : Int32).toInt64 &&& 63)) ||| (y5.toInt64 &&& 4294967295))) → ∀ (X_15 : Int64 × (Int32)), X_15 = (fq_often f_landHas y1 y2 y3 ((y4.toInt64 <<< ((32 : Int32).toInt64 &&& 63)) ||| (y5.toInt64 &&& 4294967295)) (g 12)) → ∀ (r_12 : Int64), r_12 = X_15.1 → ∀ (u_13 : (Int32)), u_13 = X_15.2 → ∀ (H : Heap) (locs : List Loc) (ls : Array Slot), va_P (dC, dI) vwCl [(eO11a x pa bk xsp xdy le xst xsc xim xil xik xmo xom wi), (eO0a bk bto bnm bla bsk bru bbo bdi bda bdk bdt bdp bno), (eA0 bto cTo 5 fTo), (eA4 bla cLa 4 (fun k => some (La k))), (eO1a (La 0) (FI 0) (GR 0) (FR 0)), (eO1a (La 1) (FI 1) (GR 1) (FR 1)), (eO1a (La 2) (FI 2) (GR 2) (FR 2)), (eO1a (La 3) (FI 3) (GR 3) (FR 3)), (mq, .inr (12, mF (upd g 2 u_13) gl rf)), (eA0 (rf 29) (ck 29) 24 f_landHas)] H → va_S A s.heap H locs → lv_has ls 7 [(4, .int i), (3, .ref o3), (2, .ref mq), (1, .ref x), (0, .ref bs)] → H0.size ≤ H.size → (∀ q : Nat, q < H0.size → ¬ Bp q → H[q]? = H0[q]?) → W p l e room_1 s m #[Value.ref bs] below meth c H locs (ce + 1) (sl + 6) (lw_Z below #[Value.ref bs] s) (F0 m 2012 ls [])) : W p l e room_1 s m #[Value.ref bs] below meth c H0 locs ce sl (lw_Z below #[Value.ref bs] s) (F0 m 1034 ls []) := by
  obtain ⟨hx, hb, hr, hml, hown, hts, hX, hbl, hlocks, hgv⟩ := id C0
  have htw : ∀ w ∈ wsL_law, w.before _ s = true := fun w h => hts w (wsL_law_in w h)
  have hown : s.vm.findClass RL = some m.cls := hown
  have hA : ∀ q : Nat, s.heap.size ≤ q → A q := fun q h => (hAe q).mpr h
  have hbA : ¬ A bs := fun h => absurd ((hAe bs).mp h) (Nat.not_le.mpr hbl)
  obtain ⟨H, rH⟩ : ∃ z : Heap, z = H0 := ⟨_, rfl⟩
  have hfr : ∀ q : Nat, q < H0.size → ¬ Bp q → H[q]? = H0[q]? := fun q _ _ => by rw [rH]
  have hz0 : H0.size ≤ H.size := by rw [rH]; exact Nat.le_refl _
  rw [← rH] at hP hS ⊢
  refine lv_aload_n hx hb dL_law_1034 rfl (lv_at hl 3 rfl) ?_
  refine lv_aload_n hx hb dL_law_1035 rfl (lv_at hl 4 rfl) ?_
  refine lv_iload hx hb dL_law_1036 (lv_at hl 0 rfl) ?_
  refine lv_iconst (v := 1) hx hb dL_law_1038 (by decide) ?_
  refine lv_iadd hx hb dL_law_1039 ?_
  refine va_sld hx hb hX hbl hbA hS hi1 dL_law_1040 ?_
  rw [hy1]
  refine lv_aload_n hx hb dL_law_1041 rfl (lv_at hl 4 rfl) ?_
  refine lv_iload hx hb dL_law_1042 (lv_at hl 0 rfl) ?_
  refine lv_iconst (v := 2) hx hb dL_law_1044 (by decide) ?_
  refine lv_iadd hx hb dL_law_1045 ?_
  refine va_sld hx hb hX hbl hbA hS hi2 dL_law_1046 ?_
  rw [hy2]
  refine lv_aload_n hx hb dL_law_1047 rfl (lv_at hl 4 rfl) ?_
  refine lv_iload hx hb dL_law_1048 (lv_at hl 0 rfl) ?_
  refine lv_iconst (v := 3) hx hb dL_law_1050 (by decide) ?_
  refine lv_iadd hx hb dL_law_1051 ?_
  refine va_sld hx hb hX hbl hbA hS hi3 dL_law_1052 ?_
  rw [hy3]
  refine lv_aload_n hx hb dL_law_1053 rfl (lv_at hl 4 rfl) ?_
  refine lv_iload hx hb dL_law_1054 (lv_at hl 0 rfl) ?_
  refine lv_iconst (v := 4) hx hb dL_law_1056 (by decide) ?_
  refine lv_iadd hx hb dL_law_1057 ?_
  refine va_sld hx hb hX hbl hbA hS hi4 dL_law_1058 ?_
  rw [hy4]
  refine lv_i2l (v := y4.toInt64) hx hb dL_law_1059 rfl ?_
  refine lv_bipush (v := 32) hx hb dL_law_1060 (by decide) ?_
  refine lv_lshl (v := (y4.toInt64 <<< ((32 : Int32).toInt64 &&& 63))) hx hb dL_law_1062 rfl ?_
  refine lv_aload_n hx hb dL_law_1063 rfl (lv_at hl 4 rfl) ?_
  refine lv_iload hx hb dL_law_1064 (lv_at hl 0 rfl) ?_
  refine lv_iconst (v := 5) hx hb dL_law_1066 (by decide) ?_
  refine lv_iadd hx hb dL_law_1067 ?_
  refine va_sld hx hb hX hbl hbA hS hi5 dL_law_1068 ?_
  rw [hy5]
  refine lv_i2l (v := y5.toInt64) hx hb dL_law_1069 rfl ?_
  refine lv_ldc2 (v := 4294967295) hx hb hown (htw _ (ck_1 _ (List.mem_of_getElem? (i := 7) rfl))) dL_law_1070 ?_
  refine lv_land hx hb dL_law_1073 ?_
  refine lv_lor hx hb dL_law_1074 ?_
  have hPc := hP.sub (ws' := [(eO11a x pa bk xsp xdy le xst xsc xim xil xik xmo xom wi), (eO0a bk bto bnm bla bsk bru bbo bdi bda bdk bdt bdp bno), (eA0 bto cTo 5 fTo), (eA4 bla cLa 4 (fun k => some (La k))), (eO1a (La 0) (FI 0) (GR 0) (FR 0)), (eO1a (La 1) (FI 1) (GR 1) (FR 1)), (eO1a (La 2) (FI 2) (GR 2) (FR 2)), (eO1a (La 3) (FI 3) (GR 3) (FR 3))]) [0, 1, 2, 3, 4, 5, 6, 7] rfl
  have hKc := hK.sub (tys' := [(cTo, .int), (cLa, .object RX1)]) [0, 1] rfl
  refine vp_callSl (W.runV (As := [.int y1, .int y2, .int y3, .long ((y4.toInt64 <<< ((32 : Int32).toInt64 &&& 63)) ||| (y5.toInt64 &&& 4294967295))]) (rest := []) ⟨hx, hb, hml, hown, htw⟩ (gx_often l dC dI x pa bk xsp xdy le xst xsc xim xil xik xmo xom wi bto bnm bla bsk bru bbo bdi bda bdk bdt bdp bno cTo fTo cLa La FI GR FR y1 y2 y3 ((y4.toInt64 <<< ((32 : Int32).toInt64 &&& 63)) ||| (y5.toInt64 &&& 4294967295))) (cwV 4 htw (xg_V (ck_46 _ (List.mem_of_getElem? (i := 3) rfl)) (ck_46 _ (List.mem_of_getElem? (i := 4) rfl)) (ck_46 _ (List.mem_of_getElem? (i := 5) rfl)) (ck_1 _ (List.mem_of_getElem? (i := 2) rfl)) (ck_46 _ (List.mem_of_getElem? (i := 6) rfl))) rfl rfl rfl (by exact ⟨rfl, hdc_8.1, hdc_8.2, hdd_61⟩) ⟨Nat.le_of_ble_eq_true rfl, Nat.le_of_ble_eq_true rfl⟩) ⟨fun a U g mk q => by obtain ⟨q0, qP, qK, qx⟩ := q; exact ⟨q0, qP, va_K.moved (u := U) (U := U.calling g mk a) (Vm.Alike.refl U.vm) qK, xN.calling qx⟩, va_recv hKc hPc (ci := 11) (q0 := 0) rfl rfl, fun U hU hW => ⟨rfl, by rw [hU]; exact hPc, va_K.moved hW.alike hKc, xN.warm hW hNx⟩⟩ rfl rfl hl.1 rfl (lv_room (Nat.le_of_ble_eq_true rfl)) dL_law_1075 ⟨by first | exact Nat.le_of_ble_eq_true rfl | exact yR (n := 0) (by omega) rfl, by first | exact Nat.le_of_ble_eq_true rfl | exact yR2 (n := 0) (by omega) rfl⟩) (fun r_6 hw => ?_)
  try dsimp only at hw
  have hq_r_6 : r_6 = (fx_often fTo FI GR FR y1 y2 y3 ((y4.toInt64 <<< ((32 : Int32).toInt64 &&& 63)) ||| (y5.toInt64 &&& 4294967295))) := hw
  refine lv_pop2_2 hx hb dL_law_1078 rfl ?_
  refine lv_aload_n hx hb dL_law_1079 rfl (lv_at hl 2 rfl) ?_
  refine lv_aload_n hx hb dL_law_1080 rfl (lv_at hl 4 rfl) ?_
  refine lv_iload hx hb dL_law_1081 (lv_at hl 0 rfl) ?_
  refine lv_iconst (v := 1) hx hb dL_law_1083 (by decide) ?_
  refine lv_iadd hx hb dL_law_1084 ?_
  refine va_sld hx hb hX hbl hbA hS hi1 dL_law_1085 ?_
  rw [hy1]
  refine lv_aload_n hx hb dL_law_1086 rfl (lv_at hl 4 rfl) ?_
  refine lv_iload hx hb dL_law_1087 (lv_at hl 0 rfl) ?_
  refine lv_iconst (v := 2) hx hb dL_law_1089 (by decide) ?_
  refine lv_iadd hx hb dL_law_1090 ?_
  refine va_sld hx hb hX hbl hbA hS hi2 dL_law_1091 ?_
  rw [hy2]
  refine lv_aload_n hx hb dL_law_1092 rfl (lv_at hl 4 rfl) ?_
  refine lv_iload hx hb dL_law_1093 (lv_at hl 0 rfl) ?_
  refine lv_iconst (v := 3) hx hb dL_law_1095 (by decide) ?_
  refine lv_iadd hx hb dL_law_1096 ?_
  refine va_sld hx hb hX hbl hbA hS hi3 dL_law_1097 ?_
  rw [hy3]
  refine lv_aload_n hx hb dL_law_1098 rfl (lv_at hl 4 rfl) ?_
  refine lv_iload hx hb dL_law_1099 (lv_at hl 0 rfl) ?_
  refine lv_iconst (v := 4) hx hb dL_law_1101 (by decide) ?_
  refine lv_iadd hx hb dL_law_1102 ?_
  refine va_sld hx hb hX hbl hbA hS hi4 dL_law_1103 ?_
  rw [hy4]
  refine lv_i2l (v := y4.toInt64) hx hb dL_law_1104 rfl ?_
  refine lv_bipush (v := 32) hx hb dL_law_1105 (by decide) ?_
  refine lv_lshl (v := (y4.toInt64 <<< ((32 : Int32).toInt64 &&& 63))) hx hb dL_law_1107 rfl ?_
  refine lv_aload_n hx hb dL_law_1108 rfl (lv_at hl 4 rfl) ?_
  refine lv_iload hx hb dL_law_1109 (lv_at hl 0 rfl) ?_
  refine lv_iconst (v := 5) hx hb dL_law_1111 (by decide) ?_
  refine lv_iadd hx hb dL_law_1112 ?_
  refine va_sld hx hb hX hbl hbA hS hi5 dL_law_1113 ?_
  rw [hy5]
  refine lv_i2l (v := y5.toInt64) hx hb dL_law_1114 rfl ?_
  refine lv_ldc2 (v := 4294967295) hx hb hown (htw _ (ck_1 _ (List.mem_of_getElem? (i := 7) rfl))) dL_law_1115 ?_
  refine lv_land hx hb dL_law_1118 ?_
  refine lv_lor hx hb dL_law_1119 ?_
  obtain ⟨hPc, hDc, hFc, hCc⟩ := zsub3 (ws' := [(mq, .inr (12, mF g gl rf)), (eA0 (rf 29) (ck 29) 24 f_landHas)]) hP hD hS hA [8, 9] (by decide) rfl
  have hKc := hK.sub (tys' := [((ck 29), .int)]) [2] rfl
  refine va_calll (va_runV (As := [.int y1, .int y2, .int y3, .long ((y4.toInt64 <<< ((32 : Int32).toInt64 &&& 63)) ||| (y5.toInt64 &&& 4294967295))]) (rest := []) ⟨hx, hb, hml, hown, htw⟩ (gq_often l dC dI mq g gl rf ck f_landHas y1 y2 y3 ((y4.toInt64 <<< ((32 : Int32).toInt64 &&& 63)) ||| (y5.toInt64 &&& 4294967295)) H.size hln0 hln4) (cwV 4 htw (xg_V (ck_46 _ (List.mem_of_getElem? (i := 12) rfl)) (ck_46 _ (List.mem_of_getElem? (i := 13) rfl)) (ck_46 _ (List.mem_of_getElem? (i := 14) rfl)) (ck_1 _ (List.mem_of_getElem? (i := 5) rfl)) (ck_46 _ (List.mem_of_getElem? (i := 15) rfl))) rfl rfl rfl (by exact ⟨rfl, hdc_14.1, hdc_14.2, hdd_61⟩) ⟨Nat.le_of_ble_eq_true rfl, Nat.le_of_ble_eq_true rfl⟩) ⟨fun a U g mk q => by obtain ⟨q0, q1, qP, qK, qD⟩ := q; exact ⟨q0, q1, qP, va_K.moved (u := U) (U := U.calling g mk a) (Vm.Alike.refl U.vm) qK, qD⟩, va_recv hKc hPc (ci := 12) (q0 := 0) rfl rfl, fun U hU hW => ⟨rfl, by rw [hU], by rw [hU]; exact hPc, va_K.moved hW.alike hKc, hDc.weaken (fun _ _ _ _ => trivial)⟩⟩ rfl rfl hl.1 rfl (lv_room (Nat.le_of_ble_eq_true rfl)) dL_law_1120 ⟨by first | exact Nat.le_of_ble_eq_true rfl | exact yR (n := 0) (by omega) rfl, by first | exact Nat.le_of_ble_eq_true rfl | exact yR2 (n := 0) (by omega) rfl⟩) hS (fun q _ h => hFc q h) hFc (fun r_12 u_13 t H1 locs ht hvm hw hB hz1 hk1 hS => ?_)
  try dsimp only at hw
  obtain ⟨hP1, hK1, hD1⟩ := hB
  rw [ht] at hP1
  have hK1 := va_K.moved hvm.symm hK1
  have hK1 : va_K (dC, dI) vwCl [] s := hK1
  obtain ⟨hP, hD⟩ := va_join (wr := [(eO11a x pa bk xsp xdy le xst xsc xim xil xik xmo xom wi), (eO0a bk bto bnm bla bsk bru bbo bdi bda bdk bdt bdp bno), (eA0 bto cTo 5 fTo), (eA4 bla cLa 4 (fun k => some (La k))), (eO1a (La 0) (FI 0) (GR 0) (FR 0)), (eO1a (La 1) (FI 1) (GR 1) (FR 1)), (eO1a (La 2) (FI 2) (GR 2) (FR 2)), (eO1a (La 3) (FI 3) (GR 3) (FR 3))]) (w1 := [(mq, .inr (12, mF (upd g 2 u_13) gl rf)), (eA0 (rf 29) (ck 29) 24 f_landHas)]) hP hD [8, 9] [0, 1, 2, 3, 4, 5, 6, 7] hCc rfl (by decide +kernel) (by decide +kernel) hk1 hFc hP1 hD1
  have hfr := yF (wc := [(mq, .inr (12, mF g gl rf)), (eA0 (rf 29) (ck 29) 24 f_landHas)]) hBs [8, 9] rfl hz0 hfr hk1
  have hz0 := Nat.le_trans hz0 hz1
  generalize H1 = H at hP hS hfr hz0 ⊢
  obtain ⟨hP, hD⟩ := zre [(eO11a x pa bk xsp xdy le xst xsc xim xil xik xmo xom wi), (eO0a bk bto bnm bla bsk bru bbo bdi bda bdk bdt bdp bno), (eA0 bto cTo 5 fTo), (eA4 bla cLa 4 (fun k => some (La k))), (eO1a (La 0) (FI 0) (GR 0) (FR 0)), (eO1a (La 1) (FI 1) (GR 1) (FR 1)), (eO1a (La 2) (FI 2) (GR 2) (FR 2)), (eO1a (La 3) (FI 3) (GR 3) (FR 3)), (mq, .inr (12, mF (upd g 2 u_13) gl rf)), (eA0 (rf 29) (ck 29) 24 f_landHas)] hP hD rfl
  refine W.widen (k := ce + 0) (n := sl + 0) (by omega) (by omega) ?_
  obtain ⟨X_15, hX_15⟩ : ∃ X9 : Int64 × (Int32), X9 = (fq_often f_landHas y1 y2 y3 ((y4.toInt64 <<< ((32 : Int32).toInt64 &&& 63)) ||| (y5.toInt64 &&& 4294967295)) (g 12)) := ⟨_, rfl⟩
  have hq_r_12 : r_12 = X_15.1 := by rw [hX_15]; exact hw.1
  have hq_u_13 : u_13 = X_15.2 := by rw [hX_15]; exact hw.2
  refine lv_pop2_2 hx hb dL_law_1123 rfl ?_
  refine lv_goto (tgt := 2012) hx hb dL_law_1124 (by decide) ?_
  refine W.widen (k := ce + 1) (n := sl + 6) (by omega) (by omega) ?_
  exact kk1 r_6 hq_r_6 X_15 hX_15 r_12 hq_r_12 u_13 hq_u_13 H locs ls (hP.sub (ws' := [(eO11a x pa bk xsp xdy le xst xsc xim xil xik xmo xom wi), (eO0a bk bto bnm bla bsk bru bbo bdi bda bdk bdt bdp bno), (eA0 bto cTo 5 fTo), (eA4 bla cLa 4 (fun k => some (La k))), (eO1a (La 0) (FI 0) (GR 0) (FR 0)), (eO1a (La 1) (FI 1) (GR 1) (FR 1)), (eO1a (La 2) (FI 2) (GR 2) (FR 2)), (eO1a (La 3) (FI 3) (GR 3) (FR 3)), (mq, .inr (12, mF (upd g 2 u_13) gl rf)), (eA0 (rf 29) (ck 29) 24 f_landHas)]) [0, 1, 2, 3, 4, 5, 6, 7, 8, 9] rfl) hS (lv_sub hl [0, 1, 2, 3, 4] rfl) hz0 hfr
