theorem dL_law_772 : decode cL_law 772 = .ok (.aload_n 1, 1) := by decide +kernel
theorem dL_law_773 : decode cL_law 773 = .ok (.aload_n 0, 1) := by decide +kernel
theorem dL_law_774 : decode cL_law 774 = .ok (.iload 4, 2) := by decide +kernel
theorem dL_law_776 : decode cL_law 776 = .ok (.iconst 1, 1) := by decide +kernel
theorem dL_law_777 : decode cL_law 777 = .ok (.iadd, 1) := by decide +kernel
theorem dL_law_778 : decode cL_law 778 = .ok (.iaload, 1) := by decide +kernel
theorem dL_law_779 : decode cL_law 779 = .ok (.aload_n 0, 1) := by decide +kernel
theorem dL_law_780 : decode cL_law 780 = .ok (.iload 4, 2) := by decide +kernel
theorem dL_law_782 : decode cL_law 782 = .ok (.iconst 2, 1) := by decide +kernel
theorem dL_law_783 : decode cL_law 783 = .ok (.iadd, 1) := by decide +kernel
theorem dL_law_784 : decode cL_law 784 = .ok (.iaload, 1) := by decide +kernel
theorem dL_law_785 : decode cL_law 785 = .ok (.i2l, 1) := by decide +kernel
theorem dL_law_786 : decode cL_law 786 = .ok (.bipush 32, 2) := by decide +kernel
theorem dL_law_788 : decode cL_law 788 = .ok (.lshl, 1) := by decide +kernel
theorem dL_law_789 : decode cL_law 789 = .ok (.aload_n 0, 1) := by decide +kernel
theorem dL_law_790 : decode cL_law 790 = .ok (.iload 4, 2) := by decide +kernel
theorem dL_law_792 : decode cL_law 792 = .ok (.iconst 3, 1) := by decide +kernel
theorem dL_law_793 : decode cL_law 793 = .ok (.iadd, 1) := by decide +kernel
theorem dL_law_794 : decode cL_law 794 = .ok (.iaload, 1) := by decide +kernel
theorem dL_law_795 : decode cL_law 795 = .ok (.i2l, 1) := by decide +kernel
theorem dL_law_796 : decode cL_law 796 = .ok (.ldc2_w 54, 3) := by decide +kernel
theorem dL_law_799 : decode cL_law 799 = .ok (.land, 1) := by decide +kernel
theorem dL_law_800 : decode cL_law 800 = .ok (.lor, 1) := by decide +kernel
theorem dL_law_801 : decode cL_law 801 = .ok (.invokevirtual 76, 3) := by decide +kernel
theorem dL_law_804 : decode cL_law 804 = .ok (.aload_n 2, 1) := by decide +kernel
theorem dL_law_805 : decode cL_law 805 = .ok (.aload_n 0, 1) := by decide +kernel
theorem dL_law_806 : decode cL_law 806 = .ok (.iload 4, 2) := by decide +kernel
theorem dL_law_808 : decode cL_law 808 = .ok (.iconst 1, 1) := by decide +kernel
theorem dL_law_809 : decode cL_law 809 = .ok (.iadd, 1) := by decide +kernel
theorem dL_law_810 : decode cL_law 810 = .ok (.iaload, 1) := by decide +kernel
theorem dL_law_811 : decode cL_law 811 = .ok (.aload_n 0, 1) := by decide +kernel
theorem dL_law_812 : decode cL_law 812 = .ok (.iload 4, 2) := by decide +kernel
theorem dL_law_814 : decode cL_law 814 = .ok (.iconst 2, 1) := by decide +kernel
theorem dL_law_815 : decode cL_law 815 = .ok (.iadd, 1) := by decide +kernel
theorem dL_law_816 : decode cL_law 816 = .ok (.iaload, 1) := by decide +kernel
theorem dL_law_817 : decode cL_law 817 = .ok (.i2l, 1) := by decide +kernel
theorem dL_law_818 : decode cL_law 818 = .ok (.bipush 32, 2) := by decide +kernel
theorem dL_law_820 : decode cL_law 820 = .ok (.lshl, 1) := by decide +kernel
theorem dL_law_821 : decode cL_law 821 = .ok (.aload_n 0, 1) := by decide +kernel
theorem dL_law_822 : decode cL_law 822 = .ok (.iload 4, 2) := by decide +kernel
theorem dL_law_824 : decode cL_law 824 = .ok (.iconst 3, 1) := by decide +kernel
theorem dL_law_825 : decode cL_law 825 = .ok (.iadd, 1) := by decide +kernel
theorem dL_law_826 : decode cL_law 826 = .ok (.iaload, 1) := by decide +kernel
theorem dL_law_827 : decode cL_law 827 = .ok (.i2l, 1) := by decide +kernel
theorem dL_law_828 : decode cL_law 828 = .ok (.ldc2_w 54, 3) := by decide +kernel
theorem dL_law_831 : decode cL_law 831 = .ok (.land, 1) := by decide +kernel
theorem dL_law_832 : decode cL_law 832 = .ok (.lor, 1) := by decide +kernel
theorem dL_law_833 : decode cL_law 833 = .ok (.invokevirtual 80, 3) := by decide +kernel
theorem dL_law_836 : decode cL_law 836 = .ok (.lcmp, 1) := by decide +kernel
theorem dL_law_837 : decode cL_law 837 = .ok (.ifCond .eq 1216, 3) := by decide +kernel
set_option maxHeartbeats 4000000 in
set_option maxRecDepth 100000 in
theorem law_festive (l : Launch) (hst : l.stackTraces = false) {p : Program} {e : Env} {s : State} {m : MethodId} {below : List Frame} {meth : Method} {c : Code} {bs : Nat} {xs : Nat → Int32} (C0 : lw_At p s m meth c bs 6 xs) (dC : Nat → ClassId) (dI : Nat → Nat → Nat) (A : Nat → Prop) (hAe : ∀ q, A q ↔ s.heap.size ≤ q) (xpa : Nat) (b : Nat) (xsp : Nat) (xdy : Nat) (xle : Nat) (xst : Nat) (xim : Nat) (xil : Nat) (xmo : Nat) (xom : Nat) (xwi : Nat) (bto : Nat) (bnm : Nat) (bla : Nat) (bsk : Nat) (bru : Nat) (bbo : Nat) (bdi : Nat) (bda : Nat) (bdk : Nat) (bdt : Nat) (bdp : Nat) (bno : Nat) (bcT : ClassId) (mtp : Nat) (mywords : Nat) (msk : Nat) (mln : Nat) (mlh : Nat) (mfn : Nat) (mfi : Nat) (mla : Nat) (mpn : Nat) (mbo : Nat) (mdi : Nat) (mdn : Nat) (mdo : Nat) (mdh : Nat) (mnn : Nat) (mnh : Nat) (mkn : Nat) (mpt : Nat) (mot : Nat) (mywait : Nat) (myheld : Nat) (mynames : Nat) (myvalue : Nat) (mun : Nat) (mycan : Nat) (myroot : Nat) (myoff : Nat) (mtn : Nat) (mtc : Nat) (mkh : Nat) (mkt : Nat) (mkc : Nat) (x : Nat) (mq : Nat) (o3 : Nat)  (H : Heap) (locs : List Loc) (ls : Array Slot) (hK : va_K (dC, dI) vwCl [(bcT, .int)] s) (hP : va_P (dC, dI) vwCl [(x, .inr (11, [.ref xpa, .ref b, .ref xsp, .ref xdy, .ref xle, .ref xst, .int 0, .ref xim, .ref xil, .int 0, .ref xmo, .ref xom, .ref xwi])), (b, .inr (0, [.ref bto, .ref bnm, .ref bla, .ref bsk, .ref bru, .ref bbo, .ref bdi, .ref bda, .ref bdk, .ref bdt, .ref bdp, .ref bno])), (bto, .inl (bcT, 5, .inl (fun _ => 0))), (mq, .inr (12, [.ref mtp, .int 0, .int 0, .ref mywords, .int 0, .int (-1), .int 0, .int 0, .int 0, .int 0, .int 0, .int 0, .int 0, .int 0, .int 0, .int 0, .int 0, .int 0, .int 0, .int 0, .int 0, .int 0, .int 0, .int 0, .ref msk, .int 0, .int 0, .int 0, .ref mln, .ref mlh, .ref mfn, .ref mfi, .ref mla, .ref mpn, .ref mbo, .ref mdi, .ref mdn, .ref mdo, .ref mdh, .ref mnn, .ref mnh, .ref mkn, .ref mpt, .ref mot, .long 0, .ref mywait, .ref myheld, .int 0, .int 0, .int 0, .int 0, .int 0, .int 0, .long 0, .long 0, .ref mynames, .ref myvalue, .int 0, .int 0, .int 0, .ref mun, .ref mycan, .int 0, .int 0, .int 0, .ref myroot, .ref myoff, .int 0, .ref mtn, .ref mtc, .int 0, .int 0, .int 0, .ref mkh, .ref mkt, .ref mkc]))] H) (hD : va_D A [(x, .inr (11, [.ref xpa, .ref b, .ref xsp, .ref xdy, .ref xle, .ref xst, .int 0, .ref xim, .ref xil, .int 0, .ref xmo, .ref xom, .ref xwi])), (b, .inr (0, [.ref bto, .ref bnm, .ref bla, .ref bsk, .ref bru, .ref bbo, .ref bdi, .ref bda, .ref bdk, .ref bdt, .ref bdp, .ref bno])), (bto, .inl (bcT, 5, .inl (fun _ => 0))), (mq, .inr (12, [.ref mtp, .int 0, .int 0, .ref mywords, .int 0, .int (-1), .int 0, .int 0, .int 0, .int 0, .int 0, .int 0, .int 0, .int 0, .int 0, .int 0, .int 0, .int 0, .int 0, .int 0, .int 0, .int 0, .int 0, .int 0, .ref msk, .int 0, .int 0, .int 0, .ref mln, .ref mlh, .ref mfn, .ref mfi, .ref mla, .ref mpn, .ref mbo, .ref mdi, .ref mdn, .ref mdo, .ref mdh, .ref mnn, .ref mnh, .ref mkn, .ref mpt, .ref mot, .long 0, .ref mywait, .ref myheld, .int 0, .int 0, .int 0, .int 0, .int 0, .int 0, .long 0, .long 0, .ref mynames, .ref myvalue, .int 0, .int 0, .int 0, .ref mun, .ref mycan, .int 0, .int 0, .int 0, .ref myroot, .ref myoff, .int 0, .ref mtn, .ref mtc, .int 0, .int 0, .int 0, .ref mkh, .ref mkt, .ref mkc]))]) (hS : va_S A s.heap H locs) (hl : lv_has ls 7 [(4, .int 0), (3, .ref o3), (2, .ref mq), (1, .ref x), (0, .ref bs)]) : W p l e room_1 s m #[Value.ref bs] below meth c H locs 129 248806 (lw_Z below #[Value.ref bs] s) (F0 m 772 ls []) := by
  obtain ⟨hx, hb, hr, hml, hown, hts, hX, hbl, hlocks, hgv⟩ := id C0
  have htw : ∀ w ∈ wsL_law, w.before _ s = true := fun w h => hts w (wsL_law_in w h)
  have hown : s.vm.findClass RL = some m.cls := hown
  have hA : ∀ q : Nat, s.heap.size ≤ q → A q := fun q h => (hAe q).mpr h
  have hbA : ¬ A bs := fun h => absurd ((hAe bs).mp h) (Nat.not_le.mpr hbl)
  refine lv_aload_n hx hb dL_law_772 rfl (lv_at hl 3 rfl) ?_
  refine lv_aload_n hx hb dL_law_773 rfl (lv_at hl 4 rfl) ?_
  refine lv_iload hx hb dL_law_774 (lv_at hl 0 rfl) ?_
  refine lv_iconst (v := 1) hx hb dL_law_776 (by decide) ?_
  refine lv_iadd hx hb dL_law_777 ?_
  refine lv_topi (fun z_1 ez_1 => ?_)
  obtain rfl : z_1 = 1 := ez_1.trans (by decide)
  refine va_sld hx hb hX hbl hbA hS (by unfold vp_in; decide) dL_law_778 ?_
  refine lv_topi (fun z_2 ez_2 => ?_)
  obtain rfl : z_2 = xs 1 := ez_2
  refine lv_aload_n hx hb dL_law_779 rfl (lv_at hl 4 rfl) ?_
  refine lv_iload hx hb dL_law_780 (lv_at hl 0 rfl) ?_
  refine lv_iconst (v := 2) hx hb dL_law_782 (by decide) ?_
  refine lv_iadd hx hb dL_law_783 ?_
  refine lv_topi (fun z_3 ez_3 => ?_)
  obtain rfl : z_3 = 2 := ez_3.trans (by decide)
  refine va_sld hx hb hX hbl hbA hS (by unfold vp_in; decide) dL_law_784 ?_
  refine lv_topi (fun z_4 ez_4 => ?_)
  obtain rfl : z_4 = xs 2 := ez_4
  refine lv_i2l (v := (xs 2).toInt64) hx hb dL_law_785 rfl ?_
  refine lv_bipush (v := 32) hx hb dL_law_786 (by decide) ?_
  refine lv_lshl (v := (((xs 2).toInt64) <<< ((32 : Int32).toInt64 &&& 63))) hx hb dL_law_788 rfl ?_
  refine lv_aload_n hx hb dL_law_789 rfl (lv_at hl 4 rfl) ?_
  refine lv_iload hx hb dL_law_790 (lv_at hl 0 rfl) ?_
  refine lv_iconst (v := 3) hx hb dL_law_792 (by decide) ?_
  refine lv_iadd hx hb dL_law_793 ?_
  refine lv_topi (fun z_5 ez_5 => ?_)
  obtain rfl : z_5 = 3 := ez_5.trans (by decide)
  refine va_sld hx hb hX hbl hbA hS (by unfold vp_in; decide) dL_law_794 ?_
  refine lv_topi (fun z_6 ez_6 => ?_)
  obtain rfl : z_6 = xs 3 := ez_6
  refine lv_i2l (v := (xs 3).toInt64) hx hb dL_law_795 rfl ?_
  refine lv_ldc2 (v := 4294967295) hx hb hown (htw _ (ck_1 _ (List.mem_of_getElem? (i := 7) rfl))) dL_law_796 ?_
  refine lv_land hx hb dL_law_799 ?_
  refine lv_lor hx hb dL_law_800 ?_
  have hPc := hP.sub (ws' := [(x, .inr (11, [.ref xpa, .ref b, .ref xsp, .ref xdy, .ref xle, .ref xst, .int 0, .ref xim, .ref xil, .int 0, .ref xmo, .ref xom, .ref xwi])), (b, .inr (0, [.ref bto, .ref bnm, .ref bla, .ref bsk, .ref bru, .ref bbo, .ref bdi, .ref bda, .ref bdk, .ref bdt, .ref bdp, .ref bno])), (bto, .inl (bcT, 5, .inl (fun _ => 0)))]) [0, 1, 2] rfl
  have hKc := hK.sub (tys' := [(bcT, .int)]) [0] rfl
  refine vp_callSl (W.runV (As := [.int (xs 1), .long ((((xs 2).toInt64) <<< ((32 : Int32).toInt64 &&& 63)) ||| (((xs 3).toInt64) &&& 4294967295))]) (rest := []) ⟨hx, hb, hml, hown, htw⟩ (mx_festive l dC dI x xpa xsp xdy xle xst xim xil xmo xom xwi b bto bnm bla bsk bru bbo bdi bda bdk bdt bdp bno bcT (xs 1) ((((xs 2).toInt64) <<< ((32 : Int32).toInt64 &&& 63)) ||| (((xs 3).toInt64) &&& 4294967295))) (cwV 2 htw (xg_V (ck_41 _ (List.mem_of_getElem? (i := 23) rfl)) (ck_42 _ (List.mem_of_getElem? (i := 0) rfl)) (ck_42 _ (List.mem_of_getElem? (i := 1) rfl)) (ck_1 _ (List.mem_of_getElem? (i := 2) rfl)) (ck_42 _ (List.mem_of_getElem? (i := 2) rfl))) rfl rfl rfl (by decide +kernel) ⟨Nat.le_of_ble_eq_true rfl, Nat.le_of_ble_eq_true rfl⟩) ⟨fun a U g mk q => by obtain ⟨q0, qP, qK⟩ := q; exact ⟨q0, qP, va_K.moved (u := U) (U := U.calling g mk a) (Vm.Alike.refl U.vm) qK⟩, va_recv hKc hPc (ci := 11) (q0 := 0) rfl rfl, fun U hU hW => ⟨rfl, by rw [hU]; exact hPc, va_K.moved hW.alike hKc⟩⟩ rfl rfl hl.1 rfl (lv_room (Nat.le_of_ble_eq_true rfl)) dL_law_801 ⟨Nat.le_of_ble_eq_true rfl, Nat.le_of_ble_eq_true rfl⟩) (fun r_7 hw => ?_)
  try dsimp only at hw
  obtain rfl : r_7 = (-1) := hw
  refine lv_aload_n hx hb dL_law_804 rfl (lv_at hl 2 rfl) ?_
  refine lv_aload_n hx hb dL_law_805 rfl (lv_at hl 4 rfl) ?_
  refine lv_iload hx hb dL_law_806 (lv_at hl 0 rfl) ?_
  refine lv_iconst (v := 1) hx hb dL_law_808 (by decide) ?_
  refine lv_iadd hx hb dL_law_809 ?_
  refine lv_topi (fun z_8 ez_8 => ?_)
  obtain rfl : z_8 = 1 := ez_8.trans (by decide)
  refine va_sld hx hb hX hbl hbA hS (by unfold vp_in; decide) dL_law_810 ?_
  refine lv_topi (fun z_9 ez_9 => ?_)
  obtain rfl : z_9 = xs 1 := ez_9
  refine lv_aload_n hx hb dL_law_811 rfl (lv_at hl 4 rfl) ?_
  refine lv_iload hx hb dL_law_812 (lv_at hl 0 rfl) ?_
  refine lv_iconst (v := 2) hx hb dL_law_814 (by decide) ?_
  refine lv_iadd hx hb dL_law_815 ?_
  refine lv_topi (fun z_10 ez_10 => ?_)
  obtain rfl : z_10 = 2 := ez_10.trans (by decide)
  refine va_sld hx hb hX hbl hbA hS (by unfold vp_in; decide) dL_law_816 ?_
  refine lv_topi (fun z_11 ez_11 => ?_)
  obtain rfl : z_11 = xs 2 := ez_11
  refine lv_i2l (v := (xs 2).toInt64) hx hb dL_law_817 rfl ?_
  refine lv_bipush (v := 32) hx hb dL_law_818 (by decide) ?_
  refine lv_lshl (v := (((xs 2).toInt64) <<< ((32 : Int32).toInt64 &&& 63))) hx hb dL_law_820 rfl ?_
  refine lv_aload_n hx hb dL_law_821 rfl (lv_at hl 4 rfl) ?_
  refine lv_iload hx hb dL_law_822 (lv_at hl 0 rfl) ?_
  refine lv_iconst (v := 3) hx hb dL_law_824 (by decide) ?_
  refine lv_iadd hx hb dL_law_825 ?_
  refine lv_topi (fun z_12 ez_12 => ?_)
  obtain rfl : z_12 = 3 := ez_12.trans (by decide)
  refine va_sld hx hb hX hbl hbA hS (by unfold vp_in; decide) dL_law_826 ?_
  refine lv_topi (fun z_13 ez_13 => ?_)
  obtain rfl : z_13 = xs 3 := ez_13
  refine lv_i2l (v := (xs 3).toInt64) hx hb dL_law_827 rfl ?_
  refine lv_ldc2 (v := 4294967295) hx hb hown (htw _ (ck_1 _ (List.mem_of_getElem? (i := 7) rfl))) dL_law_828 ?_
  refine lv_land hx hb dL_law_831 ?_
  refine lv_lor hx hb dL_law_832 ?_
  have hPc := hP.sub (ws' := [(mq, .inr (12, [.ref mtp, .int 0, .int 0, .ref mywords, .int 0, .int (-1), .int 0, .int 0, .int 0, .int 0, .int 0, .int 0, .int 0, .int 0, .int 0, .int 0, .int 0, .int 0, .int 0, .int 0, .int 0, .int 0, .int 0, .int 0, .ref msk, .int 0, .int 0, .int 0, .ref mln, .ref mlh, .ref mfn, .ref mfi, .ref mla, .ref mpn, .ref mbo, .ref mdi, .ref mdn, .ref mdo, .ref mdh, .ref mnn, .ref mnh, .ref mkn, .ref mpt, .ref mot, .long 0, .ref mywait, .ref myheld, .int 0, .int 0, .int 0, .int 0, .int 0, .int 0, .long 0, .long 0, .ref mynames, .ref myvalue, .int 0, .int 0, .int 0, .ref mun, .ref mycan, .int 0, .int 0, .int 0, .ref myroot, .ref myoff, .int 0, .ref mtn, .ref mtc, .int 0, .int 0, .int 0, .ref mkh, .ref mkt, .ref mkc]))]) [3] rfl
  have hKc := hK.sub (tys' := []) [] rfl
  have hDc := hD.sub (ws' := [(mq, .inr (12, [.ref mtp, .int 0, .int 0, .ref mywords, .int 0, .int (-1), .int 0, .int 0, .int 0, .int 0, .int 0, .int 0, .int 0, .int 0, .int 0, .int 0, .int 0, .int 0, .int 0, .int 0, .int 0, .int 0, .int 0, .int 0, .ref msk, .int 0, .int 0, .int 0, .ref mln, .ref mlh, .ref mfn, .ref mfi, .ref mla, .ref mpn, .ref mbo, .ref mdi, .ref mdn, .ref mdo, .ref mdh, .ref mnn, .ref mnh, .ref mkn, .ref mpt, .ref mot, .long 0, .ref mywait, .ref myheld, .int 0, .int 0, .int 0, .int 0, .int 0, .int 0, .long 0, .long 0, .ref mynames, .ref myvalue, .int 0, .int 0, .int 0, .ref mun, .ref mycan, .int 0, .int 0, .int 0, .ref myroot, .ref myoff, .int 0, .ref mtn, .ref mtc, .int 0, .int 0, .int 0, .ref mkh, .ref mkt, .ref mkc]))]) [3] (by decide) rfl
  have hFc := va_free (wc := [(mq, .inr (12, [.ref mtp, .int 0, .int 0, .ref mywords, .int 0, .int (-1), .int 0, .int 0, .int 0, .int 0, .int 0, .int 0, .int 0, .int 0, .int 0, .int 0, .int 0, .int 0, .int 0, .int 0, .int 0, .int 0, .int 0, .int 0, .ref msk, .int 0, .int 0, .int 0, .ref mln, .ref mlh, .ref mfn, .ref mfi, .ref mla, .ref mpn, .ref mbo, .ref mdi, .ref mdn, .ref mdo, .ref mdh, .ref mnn, .ref mnh, .ref mkn, .ref mpt, .ref mot, .long 0, .ref mywait, .ref myheld, .int 0, .int 0, .int 0, .int 0, .int 0, .int 0, .long 0, .long 0, .ref mynames, .ref myvalue, .int 0, .int 0, .int 0, .ref mun, .ref mycan, .int 0, .int 0, .int 0, .ref myroot, .ref myoff, .int 0, .ref mtn, .ref mtc, .int 0, .int 0, .int 0, .ref mkh, .ref mkt, .ref mkc]))]) hD hS hA [3] rfl
  refine va_calll (va_runV (As := [.int (xs 1), .long ((((xs 2).toInt64) <<< ((32 : Int32).toInt64 &&& 63)) ||| (((xs 3).toInt64) &&& 4294967295))]) (rest := [.long (-1)]) ⟨hx, hb, hml, hown, htw⟩ (mm_festive l dC dI mq ([.ref mtp, .int 0, .int 0, .ref mywords, .int 0, .int (-1), .int 0, .int 0, .int 0, .int 0, .int 0, .int 0, .int 0, .int 0, .int 0, .int 0, .int 0, .int 0, .int 0, .int 0, .int 0, .int 0, .int 0, .int 0, .ref msk, .int 0, .int 0, .int 0, .ref mln, .ref mlh, .ref mfn, .ref mfi, .ref mla, .ref mpn, .ref mbo, .ref mdi, .ref mdn, .ref mdo, .ref mdh, .ref mnn, .ref mnh, .ref mkn, .ref mpt, .ref mot, .long 0, .ref mywait, .ref myheld, .int 0, .int 0, .int 0, .int 0, .int 0, .int 0, .long 0, .long 0, .ref mynames, .ref myvalue, .int 0, .int 0, .int 0, .ref mun, .ref mycan, .int 0, .int 0, .int 0, .ref myroot, .ref myoff, .int 0, .ref mtn, .ref mtc, .int 0, .int 0, .int 0, .ref mkh, .ref mkt, .ref mkc]) (xs 1) ((((xs 2).toInt64) <<< ((32 : Int32).toInt64 &&& 63)) ||| (((xs 3).toInt64) &&& 4294967295)) H.size rfl rfl) (cwV 2 htw (xg_V (ck_43 _ (List.mem_of_getElem? (i := 17) rfl)) (ck_43 _ (List.mem_of_getElem? (i := 18) rfl)) (ck_43 _ (List.mem_of_getElem? (i := 19) rfl)) (ck_1 _ (List.mem_of_getElem? (i := 5) rfl)) (ck_43 _ (List.mem_of_getElem? (i := 20) rfl))) rfl rfl rfl (by decide +kernel) ⟨Nat.le_of_ble_eq_true rfl, Nat.le_of_ble_eq_true rfl⟩) ⟨fun a U g mk q => by obtain ⟨q0, q1, qP, qK, qD⟩ := q; exact ⟨q0, q1, qP, va_K.moved (u := U) (U := U.calling g mk a) (Vm.Alike.refl U.vm) qK, qD⟩, va_recv hKc hPc (ci := 12) (q0 := 0) rfl rfl, fun U hU hW => ⟨rfl, by rw [hU], by rw [hU]; exact hPc, va_K.moved hW.alike hKc, hDc.weaken (fun _ _ _ _ => trivial)⟩⟩ rfl rfl hl.1 rfl (lv_room (Nat.le_of_ble_eq_true rfl)) dL_law_833 ⟨Nat.le_of_ble_eq_true rfl, Nat.le_of_ble_eq_true rfl⟩) hS (fun q _ h => hFc q h) hFc (fun r_14 u_15 t H1 locs ht hvm hw hB hz1 hk1 hS => ?_)
  try dsimp only at hw
  have hP1 : va_P (dC, dI) vwCl [] H1 := fun k q h => by simp at h
  have hD1 : va_D (va_A [(mq, .inr (12, [.ref mtp, .int 0, .int 0, .ref mywords, .int 0, .int (-1), .int 0, .int 0, .int 0, .int 0, .int 0, .int 0, .int 0, .int 0, .int 0, .int 0, .int 0, .int 0, .int 0, .int 0, .int 0, .int 0, .int 0, .int 0, .ref msk, .int 0, .int 0, .int 0, .ref mln, .ref mlh, .ref mfn, .ref mfi, .ref mla, .ref mpn, .ref mbo, .ref mdi, .ref mdn, .ref mdo, .ref mdh, .ref mnn, .ref mnh, .ref mkn, .ref mpt, .ref mot, .long 0, .ref mywait, .ref myheld, .int 0, .int 0, .int 0, .int 0, .int 0, .int 0, .long 0, .long 0, .ref mynames, .ref myvalue, .int 0, .int 0, .int 0, .ref mun, .ref mycan, .int 0, .int 0, .int 0, .ref myroot, .ref myoff, .int 0, .ref mtn, .ref mtc, .int 0, .int 0, .int 0, .ref mkh, .ref mkt, .ref mkc]))] H.size) [] := ⟨fun i j p q h => by simp at h, fun k q h => by simp at h⟩
  obtain ⟨hP, hD⟩ := va_join (wr := [(x, .inr (11, [.ref xpa, .ref b, .ref xsp, .ref xdy, .ref xle, .ref xst, .int 0, .ref xim, .ref xil, .int 0, .ref xmo, .ref xom, .ref xwi])), (b, .inr (0, [.ref bto, .ref bnm, .ref bla, .ref bsk, .ref bru, .ref bbo, .ref bdi, .ref bda, .ref bdk, .ref bdt, .ref bdp, .ref bno])), (bto, .inl (bcT, 5, .inl (fun _ => 0)))]) (w1 := []) hP hD [3] [0, 1, 2] rfl rfl (by decide) (by decide) hk1 hFc hP1 hD1
  generalize H1 = H at hP hS ⊢
  have hP : va_P (dC, dI) vwCl [(x, .inr (11, [.ref xpa, .ref b, .ref xsp, .ref xdy, .ref xle, .ref xst, .int 0, .ref xim, .ref xil, .int 0, .ref xmo, .ref xom, .ref xwi])), (b, .inr (0, [.ref bto, .ref bnm, .ref bla, .ref bsk, .ref bru, .ref bbo, .ref bdi, .ref bda, .ref bdk, .ref bdt, .ref bdp, .ref bno])), (bto, .inl (bcT, 5, .inl (fun _ => 0)))] H := hP
  have hD : va_D A [(x, .inr (11, [.ref xpa, .ref b, .ref xsp, .ref xdy, .ref xle, .ref xst, .int 0, .ref xim, .ref xil, .int 0, .ref xmo, .ref xom, .ref xwi])), (b, .inr (0, [.ref bto, .ref bnm, .ref bla, .ref bsk, .ref bru, .ref bbo, .ref bdi, .ref bda, .ref bdk, .ref bdt, .ref bdp, .ref bno])), (bto, .inl (bcT, 5, .inl (fun _ => 0)))] := hD
  refine W.widen (k := 129) (n := 248806) (by omega) (by omega) ?_
  obtain rfl : r_14 = (-1) := hw
  refine W.lcmp hx hb dL_law_836 ?_
  refine lv_if_eq (tgt := 2053) hx hb dL_law_837 (by decide) (fun _ => ?_) (fun c => absurd c (by decide))
  refine lv_iinc (v := 6) (lv' := [(4, .int 6), (3, .ref o3), (2, .ref mq), (1, .ref x), (0, .ref bs)]) hx hb dL_law_2053 hl (k := 0) rfl (by decide) (by decide) rfl (fun ls hl => ?_)
  refine lv_goto (tgt := 23) hx hb dL_law_2056 (by decide) ?_
  refine lv_iload hx hb dL_law_23 (lv_at hl 0 rfl) ?_
  refine lv_aload_n hx hb dL_law_25 rfl (lv_at hl 4 rfl) ?_
  refine va_slen hx hb hX hbl hbA hS dL_law_26 ?_
  refine lv_topi (fun z_16 ez_16 => ?_)
  obtain rfl : z_16 = 6 := ez_16.trans (by decide)
  refine lv_bipush (v := 6) hx hb dL_law_27 (by decide) ?_
  refine lv_isub hx hb dL_law_29 ?_
  refine lv_topi (fun z_17 ez_17 => ?_)
  obtain rfl : z_17 = 0 := ez_17.trans (by decide)
  refine lv_icmp_gt (tgt := 2059) hx hb dL_law_30 (by decide) (fun _ => ?_) (fun c => absurd c (by decide))
  refine lv_iconst (v := 1) hx hb dL_law_2059 (by decide) ?_
  refine va_forget (fun q hq => (hAe _).mp (hS.2.2 q hq)) ?_
  refine W.widen (k := 600002) (n := 7302232) (by omega) (by omega) ?_
  exact lw_ret hx hb hr hlocks dL_law_2060

theorem dL_law_842 : decode cL_law 842 = .ok (.aload_n 1, 1) := by decide +kernel
theorem dL_law_843 : decode cL_law 843 = .ok (.aload_n 0, 1) := by decide +kernel
theorem dL_law_844 : decode cL_law 844 = .ok (.iload 4, 2) := by decide +kernel
theorem dL_law_846 : decode cL_law 846 = .ok (.iconst 1, 1) := by decide +kernel
theorem dL_law_847 : decode cL_law 847 = .ok (.iadd, 1) := by decide +kernel
theorem dL_law_848 : decode cL_law 848 = .ok (.iaload, 1) := by decide +kernel
theorem dL_law_849 : decode cL_law 849 = .ok (.aload_n 0, 1) := by decide +kernel
theorem dL_law_850 : decode cL_law 850 = .ok (.iload 4, 2) := by decide +kernel
theorem dL_law_852 : decode cL_law 852 = .ok (.iconst 2, 1) := by decide +kernel
theorem dL_law_853 : decode cL_law 853 = .ok (.iadd, 1) := by decide +kernel
theorem dL_law_854 : decode cL_law 854 = .ok (.iaload, 1) := by decide +kernel
theorem dL_law_855 : decode cL_law 855 = .ok (.i2l, 1) := by decide +kernel
theorem dL_law_856 : decode cL_law 856 = .ok (.bipush 32, 2) := by decide +kernel
theorem dL_law_858 : decode cL_law 858 = .ok (.lshl, 1) := by decide +kernel
theorem dL_law_859 : decode cL_law 859 = .ok (.aload_n 0, 1) := by decide +kernel
theorem dL_law_860 : decode cL_law 860 = .ok (.iload 4, 2) := by decide +kernel
theorem dL_law_862 : decode cL_law 862 = .ok (.iconst 3, 1) := by decide +kernel
theorem dL_law_863 : decode cL_law 863 = .ok (.iadd, 1) := by decide +kernel
theorem dL_law_864 : decode cL_law 864 = .ok (.iaload, 1) := by decide +kernel
theorem dL_law_865 : decode cL_law 865 = .ok (.i2l, 1) := by decide +kernel
theorem dL_law_866 : decode cL_law 866 = .ok (.ldc2_w 54, 3) := by decide +kernel
theorem dL_law_869 : decode cL_law 869 = .ok (.land, 1) := by decide +kernel
theorem dL_law_870 : decode cL_law 870 = .ok (.lor, 1) := by decide +kernel
theorem dL_law_871 : decode cL_law 871 = .ok (.invokevirtual 81, 3) := by decide +kernel
theorem dL_law_874 : decode cL_law 874 = .ok (.aload_n 2, 1) := by decide +kernel
theorem dL_law_875 : decode cL_law 875 = .ok (.aload_n 0, 1) := by decide +kernel
theorem dL_law_876 : decode cL_law 876 = .ok (.iload 4, 2) := by decide +kernel
theorem dL_law_878 : decode cL_law 878 = .ok (.iconst 1, 1) := by decide +kernel
theorem dL_law_879 : decode cL_law 879 = .ok (.iadd, 1) := by decide +kernel
theorem dL_law_880 : decode cL_law 880 = .ok (.iaload, 1) := by decide +kernel
theorem dL_law_881 : decode cL_law 881 = .ok (.aload_n 0, 1) := by decide +kernel
theorem dL_law_882 : decode cL_law 882 = .ok (.iload 4, 2) := by decide +kernel
theorem dL_law_884 : decode cL_law 884 = .ok (.iconst 2, 1) := by decide +kernel
theorem dL_law_885 : decode cL_law 885 = .ok (.iadd, 1) := by decide +kernel
theorem dL_law_886 : decode cL_law 886 = .ok (.iaload, 1) := by decide +kernel
theorem dL_law_887 : decode cL_law 887 = .ok (.i2l, 1) := by decide +kernel
theorem dL_law_888 : decode cL_law 888 = .ok (.bipush 32, 2) := by decide +kernel
theorem dL_law_890 : decode cL_law 890 = .ok (.lshl, 1) := by decide +kernel
theorem dL_law_891 : decode cL_law 891 = .ok (.aload_n 0, 1) := by decide +kernel
theorem dL_law_892 : decode cL_law 892 = .ok (.iload 4, 2) := by decide +kernel
theorem dL_law_894 : decode cL_law 894 = .ok (.iconst 3, 1) := by decide +kernel
theorem dL_law_895 : decode cL_law 895 = .ok (.iadd, 1) := by decide +kernel
theorem dL_law_896 : decode cL_law 896 = .ok (.iaload, 1) := by decide +kernel
theorem dL_law_897 : decode cL_law 897 = .ok (.i2l, 1) := by decide +kernel
theorem dL_law_898 : decode cL_law 898 = .ok (.ldc2_w 54, 3) := by decide +kernel
theorem dL_law_901 : decode cL_law 901 = .ok (.land, 1) := by decide +kernel
theorem dL_law_902 : decode cL_law 902 = .ok (.lor, 1) := by decide +kernel
theorem dL_law_903 : decode cL_law 903 = .ok (.invokevirtual 84, 3) := by decide +kernel
theorem dL_law_906 : decode cL_law 906 = .ok (.lcmp, 1) := by decide +kernel
theorem dL_law_907 : decode cL_law 907 = .ok (.ifCond .eq 1146, 3) := by decide +kernel
set_option maxHeartbeats 4000000 in
set_option maxRecDepth 100000 in
theorem law_rule (l : Launch) (hst : l.stackTraces = false) {p : Program} {e : Env} {s : State} {m : MethodId} {below : List Frame} {meth : Method} {c : Code} {bs : Nat} {xs : Nat → Int32} (C0 : lw_At p s m meth c bs 6 xs) (dC : Nat → ClassId) (dI : Nat → Nat → Nat) (A : Nat → Prop) (hAe : ∀ q, A q ↔ s.heap.size ≤ q) (xpa : Nat) (b : Nat) (xsp : Nat) (xdy : Nat) (xle : Nat) (xst : Nat) (xim : Nat) (xil : Nat) (xmo : Nat) (xom : Nat) (xwi : Nat) (bto : Nat) (bnm : Nat) (bla : Nat) (bsk : Nat) (bru : Nat) (bbo : Nat) (bdi : Nat) (bda : Nat) (bdk : Nat) (bdt : Nat) (bdp : Nat) (bno : Nat) (bcT : ClassId) (mtp : Nat) (mywords : Nat) (msk : Nat) (mln : Nat) (mlh : Nat) (mfn : Nat) (mfi : Nat) (mla : Nat) (mpn : Nat) (mbo : Nat) (mdi : Nat) (mdn : Nat) (mdo : Nat) (mdh : Nat) (mnn : Nat) (mnh : Nat) (mkn : Nat) (mpt : Nat) (mot : Nat) (mywait : Nat) (myheld : Nat) (mynames : Nat) (myvalue : Nat) (mun : Nat) (mycan : Nat) (myroot : Nat) (myoff : Nat) (mtn : Nat) (mtc : Nat) (mkh : Nat) (mkt : Nat) (mkc : Nat) (x : Nat) (mq : Nat) (o3 : Nat)  (H : Heap) (locs : List Loc) (ls : Array Slot) (hK : va_K (dC, dI) vwCl [(bcT, .int)] s) (hP : va_P (dC, dI) vwCl [(x, .inr (11, [.ref xpa, .ref b, .ref xsp, .ref xdy, .ref xle, .ref xst, .int 0, .ref xim, .ref xil, .int 0, .ref xmo, .ref xom, .ref xwi])), (b, .inr (0, [.ref bto, .ref bnm, .ref bla, .ref bsk, .ref bru, .ref bbo, .ref bdi, .ref bda, .ref bdk, .ref bdt, .ref bdp, .ref bno])), (bto, .inl (bcT, 5, .inl (fun _ => 0))), (mq, .inr (12, [.ref mtp, .int 0, .int 0, .ref mywords, .int 0, .int (-1), .int 0, .int 0, .int 0, .int 0, .int 0, .int 0, .int 0, .int 0, .int 0, .int 0, .int 0, .int 0, .int 0, .int 0, .int 0, .int 0, .int 0, .int 0, .ref msk, .int 0, .int 0, .int 0, .ref mln, .ref mlh, .ref mfn, .ref mfi, .ref mla, .ref mpn, .ref mbo, .ref mdi, .ref mdn, .ref mdo, .ref mdh, .ref mnn, .ref mnh, .ref mkn, .ref mpt, .ref mot, .long 0, .ref mywait, .ref myheld, .int 0, .int 0, .int 0, .int 0, .int 0, .int 0, .long 0, .long 0, .ref mynames, .ref myvalue, .int 0, .int 0, .int 0, .ref mun, .ref mycan, .int 0, .int 0, .int 0, .ref myroot, .ref myoff, .int 0, .ref mtn, .ref mtc, .int 0, .int 0, .int 0, .ref mkh, .ref mkt, .ref mkc]))] H) (hD : va_D A [(x, .inr (11, [.ref xpa, .ref b, .ref xsp, .ref xdy, .ref xle, .ref xst, .int 0, .ref xim, .ref xil, .int 0, .ref xmo, .ref xom, .ref xwi])), (b, .inr (0, [.ref bto, .ref bnm, .ref bla, .ref bsk, .ref bru, .ref bbo, .ref bdi, .ref bda, .ref bdk, .ref bdt, .ref bdp, .ref bno])), (bto, .inl (bcT, 5, .inl (fun _ => 0))), (mq, .inr (12, [.ref mtp, .int 0, .int 0, .ref mywords, .int 0, .int (-1), .int 0, .int 0, .int 0, .int 0, .int 0, .int 0, .int 0, .int 0, .int 0, .int 0, .int 0, .int 0, .int 0, .int 0, .int 0, .int 0, .int 0, .int 0, .ref msk, .int 0, .int 0, .int 0, .ref mln, .ref mlh, .ref mfn, .ref mfi, .ref mla, .ref mpn, .ref mbo, .ref mdi, .ref mdn, .ref mdo, .ref mdh, .ref mnn, .ref mnh, .ref mkn, .ref mpt, .ref mot, .long 0, .ref mywait, .ref myheld, .int 0, .int 0, .int 0, .int 0, .int 0, .int 0, .long 0, .long 0, .ref mynames, .ref myvalue, .int 0, .int 0, .int 0, .ref mun, .ref mycan, .int 0, .int 0, .int 0, .ref myroot, .ref myoff, .int 0, .ref mtn, .ref mtc, .int 0, .int 0, .int 0, .ref mkh, .ref mkt, .ref mkc]))]) (hS : va_S A s.heap H locs) (hl : lv_has ls 7 [(4, .int 0), (3, .ref o3), (2, .ref mq), (1, .ref x), (0, .ref bs)]) : W p l e room_1 s m #[Value.ref bs] below meth c H locs 129 248806 (lw_Z below #[Value.ref bs] s) (F0 m 842 ls []) := by
  obtain ⟨hx, hb, hr, hml, hown, hts, hX, hbl, hlocks, hgv⟩ := id C0
  have htw : ∀ w ∈ wsL_law, w.before _ s = true := fun w h => hts w (wsL_law_in w h)
  have hown : s.vm.findClass RL = some m.cls := hown
  have hA : ∀ q : Nat, s.heap.size ≤ q → A q := fun q h => (hAe q).mpr h
  have hbA : ¬ A bs := fun h => absurd ((hAe bs).mp h) (Nat.not_le.mpr hbl)
  refine lv_aload_n hx hb dL_law_842 rfl (lv_at hl 3 rfl) ?_
  refine lv_aload_n hx hb dL_law_843 rfl (lv_at hl 4 rfl) ?_
  refine lv_iload hx hb dL_law_844 (lv_at hl 0 rfl) ?_
  refine lv_iconst (v := 1) hx hb dL_law_846 (by decide) ?_
  refine lv_iadd hx hb dL_law_847 ?_
  refine lv_topi (fun z_1 ez_1 => ?_)
  obtain rfl : z_1 = 1 := ez_1.trans (by decide)
  refine va_sld hx hb hX hbl hbA hS (by unfold vp_in; decide) dL_law_848 ?_
  refine lv_topi (fun z_2 ez_2 => ?_)
  obtain rfl : z_2 = xs 1 := ez_2
  refine lv_aload_n hx hb dL_law_849 rfl (lv_at hl 4 rfl) ?_
  refine lv_iload hx hb dL_law_850 (lv_at hl 0 rfl) ?_
  refine lv_iconst (v := 2) hx hb dL_law_852 (by decide) ?_
  refine lv_iadd hx hb dL_law_853 ?_
  refine lv_topi (fun z_3 ez_3 => ?_)
  obtain rfl : z_3 = 2 := ez_3.trans (by decide)
  refine va_sld hx hb hX hbl hbA hS (by unfold vp_in; decide) dL_law_854 ?_
  refine lv_topi (fun z_4 ez_4 => ?_)
  obtain rfl : z_4 = xs 2 := ez_4
  refine lv_i2l (v := (xs 2).toInt64) hx hb dL_law_855 rfl ?_
  refine lv_bipush (v := 32) hx hb dL_law_856 (by decide) ?_
  refine lv_lshl (v := (((xs 2).toInt64) <<< ((32 : Int32).toInt64 &&& 63))) hx hb dL_law_858 rfl ?_
  refine lv_aload_n hx hb dL_law_859 rfl (lv_at hl 4 rfl) ?_
  refine lv_iload hx hb dL_law_860 (lv_at hl 0 rfl) ?_
  refine lv_iconst (v := 3) hx hb dL_law_862 (by decide) ?_
  refine lv_iadd hx hb dL_law_863 ?_
  refine lv_topi (fun z_5 ez_5 => ?_)
  obtain rfl : z_5 = 3 := ez_5.trans (by decide)
  refine va_sld hx hb hX hbl hbA hS (by unfold vp_in; decide) dL_law_864 ?_
  refine lv_topi (fun z_6 ez_6 => ?_)
  obtain rfl : z_6 = xs 3 := ez_6
  refine lv_i2l (v := (xs 3).toInt64) hx hb dL_law_865 rfl ?_
  refine lv_ldc2 (v := 4294967295) hx hb hown (htw _ (ck_1 _ (List.mem_of_getElem? (i := 7) rfl))) dL_law_866 ?_
  refine lv_land hx hb dL_law_869 ?_
  refine lv_lor hx hb dL_law_870 ?_
  have hPc := hP.sub (ws' := [(x, .inr (11, [.ref xpa, .ref b, .ref xsp, .ref xdy, .ref xle, .ref xst, .int 0, .ref xim, .ref xil, .int 0, .ref xmo, .ref xom, .ref xwi])), (b, .inr (0, [.ref bto, .ref bnm, .ref bla, .ref bsk, .ref bru, .ref bbo, .ref bdi, .ref bda, .ref bdk, .ref bdt, .ref bdp, .ref bno])), (bto, .inl (bcT, 5, .inl (fun _ => 0)))]) [0, 1, 2] rfl
  have hKc := hK.sub (tys' := [(bcT, .int)]) [0] rfl
  refine vp_callSl (W.runV (As := [.int (xs 1), .long ((((xs 2).toInt64) <<< ((32 : Int32).toInt64 &&& 63)) ||| (((xs 3).toInt64) &&& 4294967295))]) (rest := []) ⟨hx, hb, hml, hown, htw⟩ (mx_rule l dC dI x xpa xsp xdy xle xst xim xil xmo xom xwi b bto bnm bla bsk bru bbo bdi bda bdk bdt bdp bno bcT (xs 1) ((((xs 2).toInt64) <<< ((32 : Int32).toInt64 &&& 63)) ||| (((xs 3).toInt64) &&& 4294967295))) (cwV 2 htw (xg_V (ck_44 _ (List.mem_of_getElem? (i := 3) rfl)) (ck_44 _ (List.mem_of_getElem? (i := 4) rfl)) (ck_44 _ (List.mem_of_getElem? (i := 5) rfl)) (ck_1 _ (List.mem_of_getElem? (i := 2) rfl)) (ck_44 _ (List.mem_of_getElem? (i := 6) rfl))) rfl rfl rfl (by decide +kernel) ⟨Nat.le_of_ble_eq_true rfl, Nat.le_of_ble_eq_true rfl⟩) ⟨fun a U g mk q => by obtain ⟨q0, qP, qK⟩ := q; exact ⟨q0, qP, va_K.moved (u := U) (U := U.calling g mk a) (Vm.Alike.refl U.vm) qK⟩, va_recv hKc hPc (ci := 11) (q0 := 0) rfl rfl, fun U hU hW => ⟨rfl, by rw [hU]; exact hPc, va_K.moved hW.alike hKc⟩⟩ rfl rfl hl.1 rfl (lv_room (Nat.le_of_ble_eq_true rfl)) dL_law_871 ⟨Nat.le_of_ble_eq_true rfl, Nat.le_of_ble_eq_true rfl⟩) (fun r_7 hw => ?_)
  try dsimp only at hw
  obtain rfl : r_7 = (-9223372036854775808) := hw
  refine lv_aload_n hx hb dL_law_874 rfl (lv_at hl 2 rfl) ?_
  refine lv_aload_n hx hb dL_law_875 rfl (lv_at hl 4 rfl) ?_
  refine lv_iload hx hb dL_law_876 (lv_at hl 0 rfl) ?_
  refine lv_iconst (v := 1) hx hb dL_law_878 (by decide) ?_
  refine lv_iadd hx hb dL_law_879 ?_
  refine lv_topi (fun z_8 ez_8 => ?_)
  obtain rfl : z_8 = 1 := ez_8.trans (by decide)
  refine va_sld hx hb hX hbl hbA hS (by unfold vp_in; decide) dL_law_880 ?_
  refine lv_topi (fun z_9 ez_9 => ?_)
  obtain rfl : z_9 = xs 1 := ez_9
  refine lv_aload_n hx hb dL_law_881 rfl (lv_at hl 4 rfl) ?_
  refine lv_iload hx hb dL_law_882 (lv_at hl 0 rfl) ?_
  refine lv_iconst (v := 2) hx hb dL_law_884 (by decide) ?_
  refine lv_iadd hx hb dL_law_885 ?_
  refine lv_topi (fun z_10 ez_10 => ?_)
  obtain rfl : z_10 = 2 := ez_10.trans (by decide)
  refine va_sld hx hb hX hbl hbA hS (by unfold vp_in; decide) dL_law_886 ?_
  refine lv_topi (fun z_11 ez_11 => ?_)
  obtain rfl : z_11 = xs 2 := ez_11
  refine lv_i2l (v := (xs 2).toInt64) hx hb dL_law_887 rfl ?_
  refine lv_bipush (v := 32) hx hb dL_law_888 (by decide) ?_
  refine lv_lshl (v := (((xs 2).toInt64) <<< ((32 : Int32).toInt64 &&& 63))) hx hb dL_law_890 rfl ?_
  refine lv_aload_n hx hb dL_law_891 rfl (lv_at hl 4 rfl) ?_
  refine lv_iload hx hb dL_law_892 (lv_at hl 0 rfl) ?_
  refine lv_iconst (v := 3) hx hb dL_law_894 (by decide) ?_
  refine lv_iadd hx hb dL_law_895 ?_
  refine lv_topi (fun z_12 ez_12 => ?_)
  obtain rfl : z_12 = 3 := ez_12.trans (by decide)
  refine va_sld hx hb hX hbl hbA hS (by unfold vp_in; decide) dL_law_896 ?_
  refine lv_topi (fun z_13 ez_13 => ?_)
  obtain rfl : z_13 = xs 3 := ez_13
  refine lv_i2l (v := (xs 3).toInt64) hx hb dL_law_897 rfl ?_
  refine lv_ldc2 (v := 4294967295) hx hb hown (htw _ (ck_1 _ (List.mem_of_getElem? (i := 7) rfl))) dL_law_898 ?_
  refine lv_land hx hb dL_law_901 ?_
  refine lv_lor hx hb dL_law_902 ?_
  have hPc := hP.sub (ws' := [(mq, .inr (12, [.ref mtp, .int 0, .int 0, .ref mywords, .int 0, .int (-1), .int 0, .int 0, .int 0, .int 0, .int 0, .int 0, .int 0, .int 0, .int 0, .int 0, .int 0, .int 0, .int 0, .int 0, .int 0, .int 0, .int 0, .int 0, .ref msk, .int 0, .int 0, .int 0, .ref mln, .ref mlh, .ref mfn, .ref mfi, .ref mla, .ref mpn, .ref mbo, .ref mdi, .ref mdn, .ref mdo, .ref mdh, .ref mnn, .ref mnh, .ref mkn, .ref mpt, .ref mot, .long 0, .ref mywait, .ref myheld, .int 0, .int 0, .int 0, .int 0, .int 0, .int 0, .long 0, .long 0, .ref mynames, .ref myvalue, .int 0, .int 0, .int 0, .ref mun, .ref mycan, .int 0, .int 0, .int 0, .ref myroot, .ref myoff, .int 0, .ref mtn, .ref mtc, .int 0, .int 0, .int 0, .ref mkh, .ref mkt, .ref mkc]))]) [3] rfl
  have hKc := hK.sub (tys' := []) [] rfl
  have hDc := hD.sub (ws' := [(mq, .inr (12, [.ref mtp, .int 0, .int 0, .ref mywords, .int 0, .int (-1), .int 0, .int 0, .int 0, .int 0, .int 0, .int 0, .int 0, .int 0, .int 0, .int 0, .int 0, .int 0, .int 0, .int 0, .int 0, .int 0, .int 0, .int 0, .ref msk, .int 0, .int 0, .int 0, .ref mln, .ref mlh, .ref mfn, .ref mfi, .ref mla, .ref mpn, .ref mbo, .ref mdi, .ref mdn, .ref mdo, .ref mdh, .ref mnn, .ref mnh, .ref mkn, .ref mpt, .ref mot, .long 0, .ref mywait, .ref myheld, .int 0, .int 0, .int 0, .int 0, .int 0, .int 0, .long 0, .long 0, .ref mynames, .ref myvalue, .int 0, .int 0, .int 0, .ref mun, .ref mycan, .int 0, .int 0, .int 0, .ref myroot, .ref myoff, .int 0, .ref mtn, .ref mtc, .int 0, .int 0, .int 0, .ref mkh, .ref mkt, .ref mkc]))]) [3] (by decide) rfl
  have hFc := va_free (wc := [(mq, .inr (12, [.ref mtp, .int 0, .int 0, .ref mywords, .int 0, .int (-1), .int 0, .int 0, .int 0, .int 0, .int 0, .int 0, .int 0, .int 0, .int 0, .int 0, .int 0, .int 0, .int 0, .int 0, .int 0, .int 0, .int 0, .int 0, .ref msk, .int 0, .int 0, .int 0, .ref mln, .ref mlh, .ref mfn, .ref mfi, .ref mla, .ref mpn, .ref mbo, .ref mdi, .ref mdn, .ref mdo, .ref mdh, .ref mnn, .ref mnh, .ref mkn, .ref mpt, .ref mot, .long 0, .ref mywait, .ref myheld, .int 0, .int 0, .int 0, .int 0, .int 0, .int 0, .long 0, .long 0, .ref mynames, .ref myvalue, .int 0, .int 0, .int 0, .ref mun, .ref mycan, .int 0, .int 0, .int 0, .ref myroot, .ref myoff, .int 0, .ref mtn, .ref mtc, .int 0, .int 0, .int 0, .ref mkh, .ref mkt, .ref mkc]))]) hD hS hA [3] rfl
  refine va_calll (va_runV (As := [.int (xs 1), .long ((((xs 2).toInt64) <<< ((32 : Int32).toInt64 &&& 63)) ||| (((xs 3).toInt64) &&& 4294967295))]) (rest := [.long (-9223372036854775808)]) ⟨hx, hb, hml, hown, htw⟩ (mm_rule l dC dI mq ([.ref mtp, .int 0, .int 0, .ref mywords, .int 0, .int (-1), .int 0, .int 0, .int 0, .int 0, .int 0, .int 0, .int 0, .int 0, .int 0, .int 0, .int 0, .int 0, .int 0, .int 0, .int 0, .int 0, .int 0, .int 0, .ref msk, .int 0, .int 0, .int 0, .ref mln, .ref mlh, .ref mfn, .ref mfi, .ref mla, .ref mpn, .ref mbo, .ref mdi, .ref mdn, .ref mdo, .ref mdh, .ref mnn, .ref mnh, .ref mkn, .ref mpt, .ref mot, .long 0, .ref mywait, .ref myheld, .int 0, .int 0, .int 0, .int 0, .int 0, .int 0, .long 0, .long 0, .ref mynames, .ref myvalue, .int 0, .int 0, .int 0, .ref mun, .ref mycan, .int 0, .int 0, .int 0, .ref myroot, .ref myoff, .int 0, .ref mtn, .ref mtc, .int 0, .int 0, .int 0, .ref mkh, .ref mkt, .ref mkc]) (xs 1) ((((xs 2).toInt64) <<< ((32 : Int32).toInt64 &&& 63)) ||| (((xs 3).toInt64) &&& 4294967295)) H.size rfl rfl) (cwV 2 htw (xg_V (ck_44 _ (List.mem_of_getElem? (i := 9) rfl)) (ck_44 _ (List.mem_of_getElem? (i := 10) rfl)) (ck_44 _ (List.mem_of_getElem? (i := 11) rfl)) (ck_1 _ (List.mem_of_getElem? (i := 5) rfl)) (ck_44 _ (List.mem_of_getElem? (i := 12) rfl))) rfl rfl rfl (by decide +kernel) ⟨Nat.le_of_ble_eq_true rfl, Nat.le_of_ble_eq_true rfl⟩) ⟨fun a U g mk q => by obtain ⟨q0, q1, qP, qK, qD⟩ := q; exact ⟨q0, q1, qP, va_K.moved (u := U) (U := U.calling g mk a) (Vm.Alike.refl U.vm) qK, qD⟩, va_recv hKc hPc (ci := 12) (q0 := 0) rfl rfl, fun U hU hW => ⟨rfl, by rw [hU], by rw [hU]; exact hPc, va_K.moved hW.alike hKc, hDc.weaken (fun _ _ _ _ => trivial)⟩⟩ rfl rfl hl.1 rfl (lv_room (Nat.le_of_ble_eq_true rfl)) dL_law_903 ⟨Nat.le_of_ble_eq_true rfl, Nat.le_of_ble_eq_true rfl⟩) hS (fun q _ h => hFc q h) hFc (fun r_14 u_15 t H1 locs ht hvm hw hB hz1 hk1 hS => ?_)
  try dsimp only at hw
  have hP1 : va_P (dC, dI) vwCl [] H1 := fun k q h => by simp at h
  have hD1 : va_D (va_A [(mq, .inr (12, [.ref mtp, .int 0, .int 0, .ref mywords, .int 0, .int (-1), .int 0, .int 0, .int 0, .int 0, .int 0, .int 0, .int 0, .int 0, .int 0, .int 0, .int 0, .int 0, .int 0, .int 0, .int 0, .int 0, .int 0, .int 0, .ref msk, .int 0, .int 0, .int 0, .ref mln, .ref mlh, .ref mfn, .ref mfi, .ref mla, .ref mpn, .ref mbo, .ref mdi, .ref mdn, .ref mdo, .ref mdh, .ref mnn, .ref mnh, .ref mkn, .ref mpt, .ref mot, .long 0, .ref mywait, .ref myheld, .int 0, .int 0, .int 0, .int 0, .int 0, .int 0, .long 0, .long 0, .ref mynames, .ref myvalue, .int 0, .int 0, .int 0, .ref mun, .ref mycan, .int 0, .int 0, .int 0, .ref myroot, .ref myoff, .int 0, .ref mtn, .ref mtc, .int 0, .int 0, .int 0, .ref mkh, .ref mkt, .ref mkc]))] H.size) [] := ⟨fun i j p q h => by simp at h, fun k q h => by simp at h⟩
  obtain ⟨hP, hD⟩ := va_join (wr := [(x, .inr (11, [.ref xpa, .ref b, .ref xsp, .ref xdy, .ref xle, .ref xst, .int 0, .ref xim, .ref xil, .int 0, .ref xmo, .ref xom, .ref xwi])), (b, .inr (0, [.ref bto, .ref bnm, .ref bla, .ref bsk, .ref bru, .ref bbo, .ref bdi, .ref bda, .ref bdk, .ref bdt, .ref bdp, .ref bno])), (bto, .inl (bcT, 5, .inl (fun _ => 0)))]) (w1 := []) hP hD [3] [0, 1, 2] rfl rfl (by decide) (by decide) hk1 hFc hP1 hD1
  generalize H1 = H at hP hS ⊢
  have hP : va_P (dC, dI) vwCl [(x, .inr (11, [.ref xpa, .ref b, .ref xsp, .ref xdy, .ref xle, .ref xst, .int 0, .ref xim, .ref xil, .int 0, .ref xmo, .ref xom, .ref xwi])), (b, .inr (0, [.ref bto, .ref bnm, .ref bla, .ref bsk, .ref bru, .ref bbo, .ref bdi, .ref bda, .ref bdk, .ref bdt, .ref bdp, .ref bno])), (bto, .inl (bcT, 5, .inl (fun _ => 0)))] H := hP
  have hD : va_D A [(x, .inr (11, [.ref xpa, .ref b, .ref xsp, .ref xdy, .ref xle, .ref xst, .int 0, .ref xim, .ref xil, .int 0, .ref xmo, .ref xom, .ref xwi])), (b, .inr (0, [.ref bto, .ref bnm, .ref bla, .ref bsk, .ref bru, .ref bbo, .ref bdi, .ref bda, .ref bdk, .ref bdt, .ref bdp, .ref bno])), (bto, .inl (bcT, 5, .inl (fun _ => 0)))] := hD
  refine W.widen (k := 129) (n := 248806) (by omega) (by omega) ?_
  obtain rfl : r_14 = (-9223372036854775808) := hw
  refine W.lcmp hx hb dL_law_906 ?_
  refine lv_if_eq (tgt := 2053) hx hb dL_law_907 (by decide) (fun _ => ?_) (fun c => absurd c (by decide))
  refine lv_iinc (v := 6) (lv' := [(4, .int 6), (3, .ref o3), (2, .ref mq), (1, .ref x), (0, .ref bs)]) hx hb dL_law_2053 hl (k := 0) rfl (by decide) (by decide) rfl (fun ls hl => ?_)
  refine lv_goto (tgt := 23) hx hb dL_law_2056 (by decide) ?_
  refine lv_iload hx hb dL_law_23 (lv_at hl 0 rfl) ?_
  refine lv_aload_n hx hb dL_law_25 rfl (lv_at hl 4 rfl) ?_
  refine va_slen hx hb hX hbl hbA hS dL_law_26 ?_
  refine lv_topi (fun z_16 ez_16 => ?_)
  obtain rfl : z_16 = 6 := ez_16.trans (by decide)
  refine lv_bipush (v := 6) hx hb dL_law_27 (by decide) ?_
  refine lv_isub hx hb dL_law_29 ?_
  refine lv_topi (fun z_17 ez_17 => ?_)
  obtain rfl : z_17 = 0 := ez_17.trans (by decide)
  refine lv_icmp_gt (tgt := 2059) hx hb dL_law_30 (by decide) (fun _ => ?_) (fun c => absurd c (by decide))
  refine lv_iconst (v := 1) hx hb dL_law_2059 (by decide) ?_
  refine va_forget (fun q hq => (hAe _).mp (hS.2.2 q hq)) ?_
  refine W.widen (k := 600002) (n := 7302232) (by omega) (by omega) ?_
  exact lw_ret hx hb hr hlocks dL_law_2060

theorem dL_law_912 : decode cL_law 912 = .ok (.aload_n 1, 1) := by decide +kernel
theorem dL_law_913 : decode cL_law 913 = .ok (.aload_n 0, 1) := by decide +kernel
theorem dL_law_914 : decode cL_law 914 = .ok (.iload 4, 2) := by decide +kernel
theorem dL_law_916 : decode cL_law 916 = .ok (.iconst 1, 1) := by decide +kernel
theorem dL_law_917 : decode cL_law 917 = .ok (.iadd, 1) := by decide +kernel
theorem dL_law_918 : decode cL_law 918 = .ok (.iaload, 1) := by decide +kernel
theorem dL_law_919 : decode cL_law 919 = .ok (.aload_n 0, 1) := by decide +kernel
theorem dL_law_920 : decode cL_law 920 = .ok (.iload 4, 2) := by decide +kernel
theorem dL_law_922 : decode cL_law 922 = .ok (.iconst 2, 1) := by decide +kernel
theorem dL_law_923 : decode cL_law 923 = .ok (.iadd, 1) := by decide +kernel
theorem dL_law_924 : decode cL_law 924 = .ok (.iaload, 1) := by decide +kernel
theorem dL_law_925 : decode cL_law 925 = .ok (.invokevirtual 85, 3) := by decide +kernel
theorem dL_law_928 : decode cL_law 928 = .ok (.aload_n 2, 1) := by decide +kernel
theorem dL_law_929 : decode cL_law 929 = .ok (.aload_n 0, 1) := by decide +kernel
theorem dL_law_930 : decode cL_law 930 = .ok (.iload 4, 2) := by decide +kernel
theorem dL_law_932 : decode cL_law 932 = .ok (.iconst 1, 1) := by decide +kernel
theorem dL_law_933 : decode cL_law 933 = .ok (.iadd, 1) := by decide +kernel
theorem dL_law_934 : decode cL_law 934 = .ok (.iaload, 1) := by decide +kernel
theorem dL_law_935 : decode cL_law 935 = .ok (.aload_n 0, 1) := by decide +kernel
theorem dL_law_936 : decode cL_law 936 = .ok (.iload 4, 2) := by decide +kernel
theorem dL_law_938 : decode cL_law 938 = .ok (.iconst 2, 1) := by decide +kernel
theorem dL_law_939 : decode cL_law 939 = .ok (.iadd, 1) := by decide +kernel
theorem dL_law_940 : decode cL_law 940 = .ok (.iaload, 1) := by decide +kernel
theorem dL_law_941 : decode cL_law 941 = .ok (.invokevirtual 88, 3) := by decide +kernel
theorem dL_law_944 : decode cL_law 944 = .ok (.lcmp, 1) := by decide +kernel
theorem dL_law_945 : decode cL_law 945 = .ok (.ifCond .eq 1108, 3) := by decide +kernel
set_option maxHeartbeats 4000000 in
set_option maxRecDepth 100000 in
theorem law_life (l : Launch) (hst : l.stackTraces = false) {p : Program} {e : Env} {s : State} {m : MethodId} {below : List Frame} {meth : Method} {c : Code} {bs : Nat} {xs : Nat → Int32} (C0 : lw_At p s m meth c bs 6 xs) (dC : Nat → ClassId) (dI : Nat → Nat → Nat) (A : Nat → Prop) (hAe : ∀ q, A q ↔ s.heap.size ≤ q) (xpa : Nat) (b : Nat) (xsp : Nat) (xdy : Nat) (xle : Nat) (xst : Nat) (xim : Nat) (xil : Nat) (xmo : Nat) (xom : Nat) (xwi : Nat) (bto : Nat) (bnm : Nat) (bla : Nat) (bsk : Nat) (bru : Nat) (bbo : Nat) (bdi : Nat) (bda : Nat) (bdk : Nat) (bdt : Nat) (bdp : Nat) (bno : Nat) (bcT : ClassId) (mtp : Nat) (mywords : Nat) (msk : Nat) (mln : Nat) (mlh : Nat) (mfn : Nat) (mfi : Nat) (mla : Nat) (mpn : Nat) (mbo : Nat) (mdi : Nat) (mdn : Nat) (mdo : Nat) (mdh : Nat) (mnn : Nat) (mnh : Nat) (mkn : Nat) (mpt : Nat) (mot : Nat) (mywait : Nat) (myheld : Nat) (mynames : Nat) (myvalue : Nat) (mun : Nat) (mycan : Nat) (myroot : Nat) (myoff : Nat) (mtn : Nat) (mtc : Nat) (mkh : Nat) (mkt : Nat) (mkc : Nat) (x : Nat) (mq : Nat) (o3 : Nat)  (H : Heap) (locs : List Loc) (ls : Array Slot) (hK : va_K (dC, dI) vwCl [(bcT, .int)] s) (hP : va_P (dC, dI) vwCl [(x, .inr (11, [.ref xpa, .ref b, .ref xsp, .ref xdy, .ref xle, .ref xst, .int 0, .ref xim, .ref xil, .int 0, .ref xmo, .ref xom, .ref xwi])), (b, .inr (0, [.ref bto, .ref bnm, .ref bla, .ref bsk, .ref bru, .ref bbo, .ref bdi, .ref bda, .ref bdk, .ref bdt, .ref bdp, .ref bno])), (bto, .inl (bcT, 5, .inl (fun _ => 0))), (mq, .inr (12, [.ref mtp, .int 0, .int 0, .ref mywords, .int 0, .int (-1), .int 0, .int 0, .int 0, .int 0, .int 0, .int 0, .int 0, .int 0, .int 0, .int 0, .int 0, .int 0, .int 0, .int 0, .int 0, .int 0, .int 0, .int 0, .ref msk, .int 0, .int 0, .int 0, .ref mln, .ref mlh, .ref mfn, .ref mfi, .ref mla, .ref mpn, .ref mbo, .ref mdi, .ref mdn, .ref mdo, .ref mdh, .ref mnn, .ref mnh, .ref mkn, .ref mpt, .ref mot, .long 0, .ref mywait, .ref myheld, .int 0, .int 0, .int 0, .int 0, .int 0, .int 0, .long 0, .long 0, .ref mynames, .ref myvalue, .int 0, .int 0, .int 0, .ref mun, .ref mycan, .int 0, .int 0, .int 0, .ref myroot, .ref myoff, .int 0, .ref mtn, .ref mtc, .int 0, .int 0, .int 0, .ref mkh, .ref mkt, .ref mkc]))] H) (hD : va_D A [(x, .inr (11, [.ref xpa, .ref b, .ref xsp, .ref xdy, .ref xle, .ref xst, .int 0, .ref xim, .ref xil, .int 0, .ref xmo, .ref xom, .ref xwi])), (b, .inr (0, [.ref bto, .ref bnm, .ref bla, .ref bsk, .ref bru, .ref bbo, .ref bdi, .ref bda, .ref bdk, .ref bdt, .ref bdp, .ref bno])), (bto, .inl (bcT, 5, .inl (fun _ => 0))), (mq, .inr (12, [.ref mtp, .int 0, .int 0, .ref mywords, .int 0, .int (-1), .int 0, .int 0, .int 0, .int 0, .int 0, .int 0, .int 0, .int 0, .int 0, .int 0, .int 0, .int 0, .int 0, .int 0, .int 0, .int 0, .int 0, .int 0, .ref msk, .int 0, .int 0, .int 0, .ref mln, .ref mlh, .ref mfn, .ref mfi, .ref mla, .ref mpn, .ref mbo, .ref mdi, .ref mdn, .ref mdo, .ref mdh, .ref mnn, .ref mnh, .ref mkn, .ref mpt, .ref mot, .long 0, .ref mywait, .ref myheld, .int 0, .int 0, .int 0, .int 0, .int 0, .int 0, .long 0, .long 0, .ref mynames, .ref myvalue, .int 0, .int 0, .int 0, .ref mun, .ref mycan, .int 0, .int 0, .int 0, .ref myroot, .ref myoff, .int 0, .ref mtn, .ref mtc, .int 0, .int 0, .int 0, .ref mkh, .ref mkt, .ref mkc]))]) (hS : va_S A s.heap H locs) (hl : lv_has ls 7 [(4, .int 0), (3, .ref o3), (2, .ref mq), (1, .ref x), (0, .ref bs)]) : W p l e room_1 s m #[Value.ref bs] below meth c H locs 129 248806 (lw_Z below #[Value.ref bs] s) (F0 m 912 ls []) := by
  obtain ⟨hx, hb, hr, hml, hown, hts, hX, hbl, hlocks, hgv⟩ := id C0
  have htw : ∀ w ∈ wsL_law, w.before _ s = true := fun w h => hts w (wsL_law_in w h)
  have hown : s.vm.findClass RL = some m.cls := hown
  have hA : ∀ q : Nat, s.heap.size ≤ q → A q := fun q h => (hAe q).mpr h
  have hbA : ¬ A bs := fun h => absurd ((hAe bs).mp h) (Nat.not_le.mpr hbl)
  refine lv_aload_n hx hb dL_law_912 rfl (lv_at hl 3 rfl) ?_
  refine lv_aload_n hx hb dL_law_913 rfl (lv_at hl 4 rfl) ?_
  refine lv_iload hx hb dL_law_914 (lv_at hl 0 rfl) ?_
  refine lv_iconst (v := 1) hx hb dL_law_916 (by decide) ?_
  refine lv_iadd hx hb dL_law_917 ?_
  refine lv_topi (fun z_1 ez_1 => ?_)
  obtain rfl : z_1 = 1 := ez_1.trans (by decide)
  refine va_sld hx hb hX hbl hbA hS (by unfold vp_in; decide) dL_law_918 ?_
  refine lv_topi (fun z_2 ez_2 => ?_)
  obtain rfl : z_2 = xs 1 := ez_2
  refine lv_aload_n hx hb dL_law_919 rfl (lv_at hl 4 rfl) ?_
  refine lv_iload hx hb dL_law_920 (lv_at hl 0 rfl) ?_
  refine lv_iconst (v := 2) hx hb dL_law_922 (by decide) ?_
  refine lv_iadd hx hb dL_law_923 ?_
  refine lv_topi (fun z_3 ez_3 => ?_)
  obtain rfl : z_3 = 2 := ez_3.trans (by decide)
  refine va_sld hx hb hX hbl hbA hS (by unfold vp_in; decide) dL_law_924 ?_
  refine lv_topi (fun z_4 ez_4 => ?_)
  obtain rfl : z_4 = xs 2 := ez_4
  have hPc := hP.sub (ws' := [(x, .inr (11, [.ref xpa, .ref b, .ref xsp, .ref xdy, .ref xle, .ref xst, .int 0, .ref xim, .ref xil, .int 0, .ref xmo, .ref xom, .ref xwi])), (b, .inr (0, [.ref bto, .ref bnm, .ref bla, .ref bsk, .ref bru, .ref bbo, .ref bdi, .ref bda, .ref bdk, .ref bdt, .ref bdp, .ref bno])), (bto, .inl (bcT, 5, .inl (fun _ => 0)))]) [0, 1, 2] rfl
  have hKc := hK.sub (tys' := [(bcT, .int)]) [0] rfl
  refine vp_callSl (W.runV (As := [.int (xs 1), .int (xs 2)]) (rest := []) ⟨hx, hb, hml, hown, htw⟩ (mx_life l dC dI x xpa xsp xdy xle xst xim xil xmo xom xwi b bto bnm bla bsk bru bbo bdi bda bdk bdt bdp bno bcT (xs 1) (xs 2)) (cwV 2 htw (xg_V (ck_44 _ (List.mem_of_getElem? (i := 14) rfl)) (ck_44 _ (List.mem_of_getElem? (i := 15) rfl)) (ck_44 _ (List.mem_of_getElem? (i := 16) rfl)) (ck_1 _ (List.mem_of_getElem? (i := 2) rfl)) (ck_44 _ (List.mem_of_getElem? (i := 17) rfl))) rfl rfl rfl (by decide +kernel) ⟨Nat.le_of_ble_eq_true rfl, Nat.le_of_ble_eq_true rfl⟩) ⟨fun a U g mk q => by obtain ⟨q0, qP, qK⟩ := q; exact ⟨q0, qP, va_K.moved (u := U) (U := U.calling g mk a) (Vm.Alike.refl U.vm) qK⟩, va_recv hKc hPc (ci := 11) (q0 := 0) rfl rfl, fun U hU hW => ⟨rfl, by rw [hU]; exact hPc, va_K.moved hW.alike hKc⟩⟩ rfl rfl hl.1 rfl (lv_room (Nat.le_of_ble_eq_true rfl)) dL_law_925 ⟨Nat.le_of_ble_eq_true rfl, Nat.le_of_ble_eq_true rfl⟩) (fun r_5 hw => ?_)
  try dsimp only at hw
  obtain rfl : r_5 = (-1) := hw
  refine lv_aload_n hx hb dL_law_928 rfl (lv_at hl 2 rfl) ?_
  refine lv_aload_n hx hb dL_law_929 rfl (lv_at hl 4 rfl) ?_
  refine lv_iload hx hb dL_law_930 (lv_at hl 0 rfl) ?_
  refine lv_iconst (v := 1) hx hb dL_law_932 (by decide) ?_
  refine lv_iadd hx hb dL_law_933 ?_
  refine lv_topi (fun z_6 ez_6 => ?_)
  obtain rfl : z_6 = 1 := ez_6.trans (by decide)
  refine va_sld hx hb hX hbl hbA hS (by unfold vp_in; decide) dL_law_934 ?_
  refine lv_topi (fun z_7 ez_7 => ?_)
  obtain rfl : z_7 = xs 1 := ez_7
  refine lv_aload_n hx hb dL_law_935 rfl (lv_at hl 4 rfl) ?_
  refine lv_iload hx hb dL_law_936 (lv_at hl 0 rfl) ?_
  refine lv_iconst (v := 2) hx hb dL_law_938 (by decide) ?_
  refine lv_iadd hx hb dL_law_939 ?_
  refine lv_topi (fun z_8 ez_8 => ?_)
  obtain rfl : z_8 = 2 := ez_8.trans (by decide)
  refine va_sld hx hb hX hbl hbA hS (by unfold vp_in; decide) dL_law_940 ?_
  refine lv_topi (fun z_9 ez_9 => ?_)
  obtain rfl : z_9 = xs 2 := ez_9
  have hPc := hP.sub (ws' := [(mq, .inr (12, [.ref mtp, .int 0, .int 0, .ref mywords, .int 0, .int (-1), .int 0, .int 0, .int 0, .int 0, .int 0, .int 0, .int 0, .int 0, .int 0, .int 0, .int 0, .int 0, .int 0, .int 0, .int 0, .int 0, .int 0, .int 0, .ref msk, .int 0, .int 0, .int 0, .ref mln, .ref mlh, .ref mfn, .ref mfi, .ref mla, .ref mpn, .ref mbo, .ref mdi, .ref mdn, .ref mdo, .ref mdh, .ref mnn, .ref mnh, .ref mkn, .ref mpt, .ref mot, .long 0, .ref mywait, .ref myheld, .int 0, .int 0, .int 0, .int 0, .int 0, .int 0, .long 0, .long 0, .ref mynames, .ref myvalue, .int 0, .int 0, .int 0, .ref mun, .ref mycan, .int 0, .int 0, .int 0, .ref myroot, .ref myoff, .int 0, .ref mtn, .ref mtc, .int 0, .int 0, .int 0, .ref mkh, .ref mkt, .ref mkc]))]) [3] rfl
  have hKc := hK.sub (tys' := []) [] rfl
  have hDc := hD.sub (ws' := [(mq, .inr (12, [.ref mtp, .int 0, .int 0, .ref mywords, .int 0, .int (-1), .int 0, .int 0, .int 0, .int 0, .int 0, .int 0, .int 0, .int 0, .int 0, .int 0, .int 0, .int 0, .int 0, .int 0, .int 0, .int 0, .int 0, .int 0, .ref msk, .int 0, .int 0, .int 0, .ref mln, .ref mlh, .ref mfn, .ref mfi, .ref mla, .ref mpn, .ref mbo, .ref mdi, .ref mdn, .ref mdo, .ref mdh, .ref mnn, .ref mnh, .ref mkn, .ref mpt, .ref mot, .long 0, .ref mywait, .ref myheld, .int 0, .int 0, .int 0, .int 0, .int 0, .int 0, .long 0, .long 0, .ref mynames, .ref myvalue, .int 0, .int 0, .int 0, .ref mun, .ref mycan, .int 0, .int 0, .int 0, .ref myroot, .ref myoff, .int 0, .ref mtn, .ref mtc, .int 0, .int 0, .int 0, .ref mkh, .ref mkt, .ref mkc]))]) [3] (by decide) rfl
  have hFc := va_free (wc := [(mq, .inr (12, [.ref mtp, .int 0, .int 0, .ref mywords, .int 0, .int (-1), .int 0, .int 0, .int 0, .int 0, .int 0, .int 0, .int 0, .int 0, .int 0, .int 0, .int 0, .int 0, .int 0, .int 0, .int 0, .int 0, .int 0, .int 0, .ref msk, .int 0, .int 0, .int 0, .ref mln, .ref mlh, .ref mfn, .ref mfi, .ref mla, .ref mpn, .ref mbo, .ref mdi, .ref mdn, .ref mdo, .ref mdh, .ref mnn, .ref mnh, .ref mkn, .ref mpt, .ref mot, .long 0, .ref mywait, .ref myheld, .int 0, .int 0, .int 0, .int 0, .int 0, .int 0, .long 0, .long 0, .ref mynames, .ref myvalue, .int 0, .int 0, .int 0, .ref mun, .ref mycan, .int 0, .int 0, .int 0, .ref myroot, .ref myoff, .int 0, .ref mtn, .ref mtc, .int 0, .int 0, .int 0, .ref mkh, .ref mkt, .ref mkc]))]) hD hS hA [3] rfl
  refine va_calll (va_runV (As := [.int (xs 1), .int (xs 2)]) (rest := [.long (-1)]) ⟨hx, hb, hml, hown, htw⟩ (mm_life l dC dI mq ([.ref mtp, .int 0, .int 0, .ref mywords, .int 0, .int (-1), .int 0, .int 0, .int 0, .int 0, .int 0, .int 0, .int 0, .int 0, .int 0, .int 0, .int 0, .int 0, .int 0, .int 0, .int 0, .int 0, .int 0, .int 0, .ref msk, .int 0, .int 0, .int 0, .ref mln, .ref mlh, .ref mfn, .ref mfi, .ref mla, .ref mpn, .ref mbo, .ref mdi, .ref mdn, .ref mdo, .ref mdh, .ref mnn, .ref mnh, .ref mkn, .ref mpt, .ref mot, .long 0, .ref mywait, .ref myheld, .int 0, .int 0, .int 0, .int 0, .int 0, .int 0, .long 0, .long 0, .ref mynames, .ref myvalue, .int 0, .int 0, .int 0, .ref mun, .ref mycan, .int 0, .int 0, .int 0, .ref myroot, .ref myoff, .int 0, .ref mtn, .ref mtc, .int 0, .int 0, .int 0, .ref mkh, .ref mkt, .ref mkc]) (xs 1) (xs 2) H.size rfl rfl) (cwV 2 htw (xg_V (ck_44 _ (List.mem_of_getElem? (i := 20) rfl)) (ck_44 _ (List.mem_of_getElem? (i := 21) rfl)) (ck_44 _ (List.mem_of_getElem? (i := 22) rfl)) (ck_1 _ (List.mem_of_getElem? (i := 5) rfl)) (ck_44 _ (List.mem_of_getElem? (i := 23) rfl))) rfl rfl rfl (by decide +kernel) ⟨Nat.le_of_ble_eq_true rfl, Nat.le_of_ble_eq_true rfl⟩) ⟨fun a U g mk q => by obtain ⟨q0, q1, qP, qK, qD⟩ := q; exact ⟨q0, q1, qP, va_K.moved (u := U) (U := U.calling g mk a) (Vm.Alike.refl U.vm) qK, qD⟩, va_recv hKc hPc (ci := 12) (q0 := 0) rfl rfl, fun U hU hW => ⟨rfl, by rw [hU], by rw [hU]; exact hPc, va_K.moved hW.alike hKc, hDc.weaken (fun _ _ _ _ => trivial)⟩⟩ rfl rfl hl.1 rfl (lv_room (Nat.le_of_ble_eq_true rfl)) dL_law_941 ⟨Nat.le_of_ble_eq_true rfl, Nat.le_of_ble_eq_true rfl⟩) hS (fun q _ h => hFc q h) hFc (fun r_10 u_11 t H1 locs ht hvm hw hB hz1 hk1 hS => ?_)
  try dsimp only at hw
  have hP1 : va_P (dC, dI) vwCl [] H1 := fun k q h => by simp at h
  have hD1 : va_D (va_A [(mq, .inr (12, [.ref mtp, .int 0, .int 0, .ref mywords, .int 0, .int (-1), .int 0, .int 0, .int 0, .int 0, .int 0, .int 0, .int 0, .int 0, .int 0, .int 0, .int 0, .int 0, .int 0, .int 0, .int 0, .int 0, .int 0, .int 0, .ref msk, .int 0, .int 0, .int 0, .ref mln, .ref mlh, .ref mfn, .ref mfi, .ref mla, .ref mpn, .ref mbo, .ref mdi, .ref mdn, .ref mdo, .ref mdh, .ref mnn, .ref mnh, .ref mkn, .ref mpt, .ref mot, .long 0, .ref mywait, .ref myheld, .int 0, .int 0, .int 0, .int 0, .int 0, .int 0, .long 0, .long 0, .ref mynames, .ref myvalue, .int 0, .int 0, .int 0, .ref mun, .ref mycan, .int 0, .int 0, .int 0, .ref myroot, .ref myoff, .int 0, .ref mtn, .ref mtc, .int 0, .int 0, .int 0, .ref mkh, .ref mkt, .ref mkc]))] H.size) [] := ⟨fun i j p q h => by simp at h, fun k q h => by simp at h⟩
  obtain ⟨hP, hD⟩ := va_join (wr := [(x, .inr (11, [.ref xpa, .ref b, .ref xsp, .ref xdy, .ref xle, .ref xst, .int 0, .ref xim, .ref xil, .int 0, .ref xmo, .ref xom, .ref xwi])), (b, .inr (0, [.ref bto, .ref bnm, .ref bla, .ref bsk, .ref bru, .ref bbo, .ref bdi, .ref bda, .ref bdk, .ref bdt, .ref bdp, .ref bno])), (bto, .inl (bcT, 5, .inl (fun _ => 0)))]) (w1 := []) hP hD [3] [0, 1, 2] rfl rfl (by decide) (by decide) hk1 hFc hP1 hD1
  generalize H1 = H at hP hS ⊢
  have hP : va_P (dC, dI) vwCl [(x, .inr (11, [.ref xpa, .ref b, .ref xsp, .ref xdy, .ref xle, .ref xst, .int 0, .ref xim, .ref xil, .int 0, .ref xmo, .ref xom, .ref xwi])), (b, .inr (0, [.ref bto, .ref bnm, .ref bla, .ref bsk, .ref bru, .ref bbo, .ref bdi, .ref bda, .ref bdk, .ref bdt, .ref bdp, .ref bno])), (bto, .inl (bcT, 5, .inl (fun _ => 0)))] H := hP
  have hD : va_D A [(x, .inr (11, [.ref xpa, .ref b, .ref xsp, .ref xdy, .ref xle, .ref xst, .int 0, .ref xim, .ref xil, .int 0, .ref xmo, .ref xom, .ref xwi])), (b, .inr (0, [.ref bto, .ref bnm, .ref bla, .ref bsk, .ref bru, .ref bbo, .ref bdi, .ref bda, .ref bdk, .ref bdt, .ref bdp, .ref bno])), (bto, .inl (bcT, 5, .inl (fun _ => 0)))] := hD
  refine W.widen (k := 129) (n := 248806) (by omega) (by omega) ?_
  obtain rfl : r_10 = (-1) := hw
  refine W.lcmp hx hb dL_law_944 ?_
  refine lv_if_eq (tgt := 2053) hx hb dL_law_945 (by decide) (fun _ => ?_) (fun c => absurd c (by decide))
  refine lv_iinc (v := 6) (lv' := [(4, .int 6), (3, .ref o3), (2, .ref mq), (1, .ref x), (0, .ref bs)]) hx hb dL_law_2053 hl (k := 0) rfl (by decide) (by decide) rfl (fun ls hl => ?_)
  refine lv_goto (tgt := 23) hx hb dL_law_2056 (by decide) ?_
  refine lv_iload hx hb dL_law_23 (lv_at hl 0 rfl) ?_
  refine lv_aload_n hx hb dL_law_25 rfl (lv_at hl 4 rfl) ?_
  refine va_slen hx hb hX hbl hbA hS dL_law_26 ?_
  refine lv_topi (fun z_12 ez_12 => ?_)
  obtain rfl : z_12 = 6 := ez_12.trans (by decide)
  refine lv_bipush (v := 6) hx hb dL_law_27 (by decide) ?_
  refine lv_isub hx hb dL_law_29 ?_
  refine lv_topi (fun z_13 ez_13 => ?_)
  obtain rfl : z_13 = 0 := ez_13.trans (by decide)
  refine lv_icmp_gt (tgt := 2059) hx hb dL_law_30 (by decide) (fun _ => ?_) (fun c => absurd c (by decide))
  refine lv_iconst (v := 1) hx hb dL_law_2059 (by decide) ?_
  refine va_forget (fun q hq => (hAe _).mp (hS.2.2 q hq)) ?_
  refine W.widen (k := 600002) (n := 7302232) (by omega) (by omega) ?_
  exact lw_ret hx hb hr hlocks dL_law_2060

theorem dL_law_950 : decode cL_law 950 = .ok (.aload_n 1, 1) := by decide +kernel
theorem dL_law_951 : decode cL_law 951 = .ok (.aload_n 0, 1) := by decide +kernel
theorem dL_law_952 : decode cL_law 952 = .ok (.iload 4, 2) := by decide +kernel
theorem dL_law_954 : decode cL_law 954 = .ok (.iconst 1, 1) := by decide +kernel
theorem dL_law_955 : decode cL_law 955 = .ok (.iadd, 1) := by decide +kernel
theorem dL_law_956 : decode cL_law 956 = .ok (.iaload, 1) := by decide +kernel
theorem dL_law_957 : decode cL_law 957 = .ok (.aload_n 0, 1) := by decide +kernel
theorem dL_law_958 : decode cL_law 958 = .ok (.iload 4, 2) := by decide +kernel
theorem dL_law_960 : decode cL_law 960 = .ok (.iconst 2, 1) := by decide +kernel
theorem dL_law_961 : decode cL_law 961 = .ok (.iadd, 1) := by decide +kernel
theorem dL_law_962 : decode cL_law 962 = .ok (.iaload, 1) := by decide +kernel
theorem dL_law_963 : decode cL_law 963 = .ok (.i2l, 1) := by decide +kernel
theorem dL_law_964 : decode cL_law 964 = .ok (.bipush 32, 2) := by decide +kernel
theorem dL_law_966 : decode cL_law 966 = .ok (.lshl, 1) := by decide +kernel
theorem dL_law_967 : decode cL_law 967 = .ok (.aload_n 0, 1) := by decide +kernel
theorem dL_law_968 : decode cL_law 968 = .ok (.iload 4, 2) := by decide +kernel
theorem dL_law_970 : decode cL_law 970 = .ok (.iconst 3, 1) := by decide +kernel
theorem dL_law_971 : decode cL_law 971 = .ok (.iadd, 1) := by decide +kernel
theorem dL_law_972 : decode cL_law 972 = .ok (.iaload, 1) := by decide +kernel
theorem dL_law_973 : decode cL_law 973 = .ok (.i2l, 1) := by decide +kernel
theorem dL_law_974 : decode cL_law 974 = .ok (.ldc2_w 54, 3) := by decide +kernel
theorem dL_law_977 : decode cL_law 977 = .ok (.land, 1) := by decide +kernel
theorem dL_law_978 : decode cL_law 978 = .ok (.lor, 1) := by decide +kernel
theorem dL_law_979 : decode cL_law 979 = .ok (.aload_n 0, 1) := by decide +kernel
theorem dL_law_980 : decode cL_law 980 = .ok (.iload 4, 2) := by decide +kernel
theorem dL_law_982 : decode cL_law 982 = .ok (.iconst 4, 1) := by decide +kernel
theorem dL_law_983 : decode cL_law 983 = .ok (.iadd, 1) := by decide +kernel
theorem dL_law_984 : decode cL_law 984 = .ok (.iaload, 1) := by decide +kernel
theorem dL_law_985 : decode cL_law 985 = .ok (.invokevirtual 89, 3) := by decide +kernel
theorem dL_law_988 : decode cL_law 988 = .ok (.aload_n 2, 1) := by decide +kernel
theorem dL_law_989 : decode cL_law 989 = .ok (.aload_n 0, 1) := by decide +kernel
theorem dL_law_990 : decode cL_law 990 = .ok (.iload 4, 2) := by decide +kernel
theorem dL_law_992 : decode cL_law 992 = .ok (.iconst 1, 1) := by decide +kernel
theorem dL_law_993 : decode cL_law 993 = .ok (.iadd, 1) := by decide +kernel
theorem dL_law_994 : decode cL_law 994 = .ok (.iaload, 1) := by decide +kernel
theorem dL_law_995 : decode cL_law 995 = .ok (.aload_n 0, 1) := by decide +kernel
theorem dL_law_996 : decode cL_law 996 = .ok (.iload 4, 2) := by decide +kernel
theorem dL_law_998 : decode cL_law 998 = .ok (.iconst 2, 1) := by decide +kernel
theorem dL_law_999 : decode cL_law 999 = .ok (.iadd, 1) := by decide +kernel
theorem dL_law_1000 : decode cL_law 1000 = .ok (.iaload, 1) := by decide +kernel
theorem dL_law_1001 : decode cL_law 1001 = .ok (.i2l, 1) := by decide +kernel
theorem dL_law_1002 : decode cL_law 1002 = .ok (.bipush 32, 2) := by decide +kernel
theorem dL_law_1004 : decode cL_law 1004 = .ok (.lshl, 1) := by decide +kernel
theorem dL_law_1005 : decode cL_law 1005 = .ok (.aload_n 0, 1) := by decide +kernel
theorem dL_law_1006 : decode cL_law 1006 = .ok (.iload 4, 2) := by decide +kernel
theorem dL_law_1008 : decode cL_law 1008 = .ok (.iconst 3, 1) := by decide +kernel
theorem dL_law_1009 : decode cL_law 1009 = .ok (.iadd, 1) := by decide +kernel
theorem dL_law_1010 : decode cL_law 1010 = .ok (.iaload, 1) := by decide +kernel
theorem dL_law_1011 : decode cL_law 1011 = .ok (.i2l, 1) := by decide +kernel
theorem dL_law_1012 : decode cL_law 1012 = .ok (.ldc2_w 54, 3) := by decide +kernel
theorem dL_law_1015 : decode cL_law 1015 = .ok (.land, 1) := by decide +kernel
theorem dL_law_1016 : decode cL_law 1016 = .ok (.lor, 1) := by decide +kernel
theorem dL_law_1017 : decode cL_law 1017 = .ok (.aload_n 0, 1) := by decide +kernel
theorem dL_law_1018 : decode cL_law 1018 = .ok (.iload 4, 2) := by decide +kernel
theorem dL_law_1020 : decode cL_law 1020 = .ok (.iconst 4, 1) := by decide +kernel
theorem dL_law_1021 : decode cL_law 1021 = .ok (.iadd, 1) := by decide +kernel
theorem dL_law_1022 : decode cL_law 1022 = .ok (.iaload, 1) := by decide +kernel
theorem dL_law_1023 : decode cL_law 1023 = .ok (.invokevirtual 92, 3) := by decide +kernel
theorem dL_law_1026 : decode cL_law 1026 = .ok (.lcmp, 1) := by decide +kernel
theorem dL_law_1027 : decode cL_law 1027 = .ok (.ifCond .eq 1026, 3) := by decide +kernel
set_option maxHeartbeats 4000000 in
set_option maxRecDepth 100000 in
theorem law_age (l : Launch) (hst : l.stackTraces = false) {p : Program} {e : Env} {s : State} {m : MethodId} {below : List Frame} {meth : Method} {c : Code} {bs : Nat} {xs : Nat → Int32} (C0 : lw_At p s m meth c bs 6 xs) (dC : Nat → ClassId) (dI : Nat → Nat → Nat) (A : Nat → Prop) (hAe : ∀ q, A q ↔ s.heap.size ≤ q) (xpa : Nat) (b : Nat) (xsp : Nat) (xdy : Nat) (xle : Nat) (xst : Nat) (xim : Nat) (xil : Nat) (xmo : Nat) (xom : Nat) (xwi : Nat) (bto : Nat) (bnm : Nat) (bla : Nat) (bsk : Nat) (bru : Nat) (bbo : Nat) (bdi : Nat) (bda : Nat) (bdk : Nat) (bdt : Nat) (bdp : Nat) (bno : Nat) (bcT : ClassId) (mtp : Nat) (mywords : Nat) (msk : Nat) (mln : Nat) (mlh : Nat) (mfn : Nat) (mfi : Nat) (mla : Nat) (mpn : Nat) (mbo : Nat) (mdi : Nat) (mdn : Nat) (mdo : Nat) (mdh : Nat) (mnn : Nat) (mnh : Nat) (mkn : Nat) (mpt : Nat) (mot : Nat) (mywait : Nat) (myheld : Nat) (mynames : Nat) (myvalue : Nat) (mun : Nat) (mycan : Nat) (myroot : Nat) (myoff : Nat) (mtn : Nat) (mtc : Nat) (mkh : Nat) (mkt : Nat) (mkc : Nat) (x : Nat) (mq : Nat) (o3 : Nat)  (H : Heap) (locs : List Loc) (ls : Array Slot) (hK : va_K (dC, dI) vwCl [(bcT, .int)] s) (hP : va_P (dC, dI) vwCl [(x, .inr (11, [.ref xpa, .ref b, .ref xsp, .ref xdy, .ref xle, .ref xst, .int 0, .ref xim, .ref xil, .int 0, .ref xmo, .ref xom, .ref xwi])), (b, .inr (0, [.ref bto, .ref bnm, .ref bla, .ref bsk, .ref bru, .ref bbo, .ref bdi, .ref bda, .ref bdk, .ref bdt, .ref bdp, .ref bno])), (bto, .inl (bcT, 5, .inl (fun _ => 0))), (mq, .inr (12, [.ref mtp, .int 0, .int 0, .ref mywords, .int 0, .int (-1), .int 0, .int 0, .int 0, .int 0, .int 0, .int 0, .int 0, .int 0, .int 0, .int 0, .int 0, .int 0, .int 0, .int 0, .int 0, .int 0, .int 0, .int 0, .ref msk, .int 0, .int 0, .int 0, .ref mln, .ref mlh, .ref mfn, .ref mfi, .ref mla, .ref mpn, .ref mbo, .ref mdi, .ref mdn, .ref mdo, .ref mdh, .ref mnn, .ref mnh, .ref mkn, .ref mpt, .ref mot, .long 0, .ref mywait, .ref myheld, .int 0, .int 0, .int 0, .int 0, .int 0, .int 0, .long 0, .long 0, .ref mynames, .ref myvalue, .int 0, .int 0, .int 0, .ref mun, .ref mycan, .int 0, .int 0, .int 0, .ref myroot, .ref myoff, .int 0, .ref mtn, .ref mtc, .int 0, .int 0, .int 0, .ref mkh, .ref mkt, .ref mkc]))] H) (hD : va_D A [(x, .inr (11, [.ref xpa, .ref b, .ref xsp, .ref xdy, .ref xle, .ref xst, .int 0, .ref xim, .ref xil, .int 0, .ref xmo, .ref xom, .ref xwi])), (b, .inr (0, [.ref bto, .ref bnm, .ref bla, .ref bsk, .ref bru, .ref bbo, .ref bdi, .ref bda, .ref bdk, .ref bdt, .ref bdp, .ref bno])), (bto, .inl (bcT, 5, .inl (fun _ => 0))), (mq, .inr (12, [.ref mtp, .int 0, .int 0, .ref mywords, .int 0, .int (-1), .int 0, .int 0, .int 0, .int 0, .int 0, .int 0, .int 0, .int 0, .int 0, .int 0, .int 0, .int 0, .int 0, .int 0, .int 0, .int 0, .int 0, .int 0, .ref msk, .int 0, .int 0, .int 0, .ref mln, .ref mlh, .ref mfn, .ref mfi, .ref mla, .ref mpn, .ref mbo, .ref mdi, .ref mdn, .ref mdo, .ref mdh, .ref mnn, .ref mnh, .ref mkn, .ref mpt, .ref mot, .long 0, .ref mywait, .ref myheld, .int 0, .int 0, .int 0, .int 0, .int 0, .int 0, .long 0, .long 0, .ref mynames, .ref myvalue, .int 0, .int 0, .int 0, .ref mun, .ref mycan, .int 0, .int 0, .int 0, .ref myroot, .ref myoff, .int 0, .ref mtn, .ref mtc, .int 0, .int 0, .int 0, .ref mkh, .ref mkt, .ref mkc]))]) (hS : va_S A s.heap H locs) (hl : lv_has ls 7 [(4, .int 0), (3, .ref o3), (2, .ref mq), (1, .ref x), (0, .ref bs)]) : W p l e room_1 s m #[Value.ref bs] below meth c H locs 129 248806 (lw_Z below #[Value.ref bs] s) (F0 m 950 ls []) := by
  obtain ⟨hx, hb, hr, hml, hown, hts, hX, hbl, hlocks, hgv⟩ := id C0
  have htw : ∀ w ∈ wsL_law, w.before _ s = true := fun w h => hts w (wsL_law_in w h)
  have hown : s.vm.findClass RL = some m.cls := hown
  have hA : ∀ q : Nat, s.heap.size ≤ q → A q := fun q h => (hAe q).mpr h
  have hbA : ¬ A bs := fun h => absurd ((hAe bs).mp h) (Nat.not_le.mpr hbl)
  refine lv_aload_n hx hb dL_law_950 rfl (lv_at hl 3 rfl) ?_
  refine lv_aload_n hx hb dL_law_951 rfl (lv_at hl 4 rfl) ?_
  refine lv_iload hx hb dL_law_952 (lv_at hl 0 rfl) ?_
  refine lv_iconst (v := 1) hx hb dL_law_954 (by decide) ?_
  refine lv_iadd hx hb dL_law_955 ?_
  refine lv_topi (fun z_1 ez_1 => ?_)
  obtain rfl : z_1 = 1 := ez_1.trans (by decide)
  refine va_sld hx hb hX hbl hbA hS (by unfold vp_in; decide) dL_law_956 ?_
  refine lv_topi (fun z_2 ez_2 => ?_)
  obtain rfl : z_2 = xs 1 := ez_2
  refine lv_aload_n hx hb dL_law_957 rfl (lv_at hl 4 rfl) ?_
  refine lv_iload hx hb dL_law_958 (lv_at hl 0 rfl) ?_
  refine lv_iconst (v := 2) hx hb dL_law_960 (by decide) ?_
  refine lv_iadd hx hb dL_law_961 ?_
  refine lv_topi (fun z_3 ez_3 => ?_)
  obtain rfl : z_3 = 2 := ez_3.trans (by decide)
  refine va_sld hx hb hX hbl hbA hS (by unfold vp_in; decide) dL_law_962 ?_
  refine lv_topi (fun z_4 ez_4 => ?_)
  obtain rfl : z_4 = xs 2 := ez_4
  refine lv_i2l (v := (xs 2).toInt64) hx hb dL_law_963 rfl ?_
  refine lv_bipush (v := 32) hx hb dL_law_964 (by decide) ?_
  refine lv_lshl (v := (((xs 2).toInt64) <<< ((32 : Int32).toInt64 &&& 63))) hx hb dL_law_966 rfl ?_
  refine lv_aload_n hx hb dL_law_967 rfl (lv_at hl 4 rfl) ?_
  refine lv_iload hx hb dL_law_968 (lv_at hl 0 rfl) ?_
  refine lv_iconst (v := 3) hx hb dL_law_970 (by decide) ?_
  refine lv_iadd hx hb dL_law_971 ?_
  refine lv_topi (fun z_5 ez_5 => ?_)
  obtain rfl : z_5 = 3 := ez_5.trans (by decide)
  refine va_sld hx hb hX hbl hbA hS (by unfold vp_in; decide) dL_law_972 ?_
  refine lv_topi (fun z_6 ez_6 => ?_)
  obtain rfl : z_6 = xs 3 := ez_6
  refine lv_i2l (v := (xs 3).toInt64) hx hb dL_law_973 rfl ?_
  refine lv_ldc2 (v := 4294967295) hx hb hown (htw _ (ck_1 _ (List.mem_of_getElem? (i := 7) rfl))) dL_law_974 ?_
  refine lv_land hx hb dL_law_977 ?_
  refine lv_lor hx hb dL_law_978 ?_
  refine lv_aload_n hx hb dL_law_979 rfl (lv_at hl 4 rfl) ?_
  refine lv_iload hx hb dL_law_980 (lv_at hl 0 rfl) ?_
  refine lv_iconst (v := 4) hx hb dL_law_982 (by decide) ?_
  refine lv_iadd hx hb dL_law_983 ?_
  refine lv_topi (fun z_7 ez_7 => ?_)
  obtain rfl : z_7 = 4 := ez_7.trans (by decide)
  refine va_sld hx hb hX hbl hbA hS (by unfold vp_in; decide) dL_law_984 ?_
  refine lv_topi (fun z_8 ez_8 => ?_)
  obtain rfl : z_8 = xs 4 := ez_8
  have hPc := hP.sub (ws' := [(x, .inr (11, [.ref xpa, .ref b, .ref xsp, .ref xdy, .ref xle, .ref xst, .int 0, .ref xim, .ref xil, .int 0, .ref xmo, .ref xom, .ref xwi])), (b, .inr (0, [.ref bto, .ref bnm, .ref bla, .ref bsk, .ref bru, .ref bbo, .ref bdi, .ref bda, .ref bdk, .ref bdt, .ref bdp, .ref bno])), (bto, .inl (bcT, 5, .inl (fun _ => 0)))]) [0, 1, 2] rfl
  have hKc := hK.sub (tys' := [(bcT, .int)]) [0] rfl
  refine vp_callSl (W.runV (As := [.int (xs 1), .long ((((xs 2).toInt64) <<< ((32 : Int32).toInt64 &&& 63)) ||| (((xs 3).toInt64) &&& 4294967295)), .int (xs 4)]) (rest := []) ⟨hx, hb, hml, hown, htw⟩ (mx_age l dC dI x xpa xsp xdy xle xst xim xil xmo xom xwi b bto bnm bla bsk bru bbo bdi bda bdk bdt bdp bno bcT (xs 1) ((((xs 2).toInt64) <<< ((32 : Int32).toInt64 &&& 63)) ||| (((xs 3).toInt64) &&& 4294967295)) (xs 4)) (cwV 3 htw (xg_V (ck_45 _ (List.mem_of_getElem? (i := 4) rfl)) (ck_45 _ (List.mem_of_getElem? (i := 5) rfl)) (ck_45 _ (List.mem_of_getElem? (i := 6) rfl)) (ck_1 _ (List.mem_of_getElem? (i := 2) rfl)) (ck_45 _ (List.mem_of_getElem? (i := 7) rfl))) rfl rfl rfl (by decide +kernel) ⟨Nat.le_of_ble_eq_true rfl, Nat.le_of_ble_eq_true rfl⟩) ⟨fun a U g mk q => by obtain ⟨q0, qP, qK⟩ := q; exact ⟨q0, qP, va_K.moved (u := U) (U := U.calling g mk a) (Vm.Alike.refl U.vm) qK⟩, va_recv hKc hPc (ci := 11) (q0 := 0) rfl rfl, fun U hU hW => ⟨rfl, by rw [hU]; exact hPc, va_K.moved hW.alike hKc⟩⟩ rfl rfl hl.1 rfl (lv_room (Nat.le_of_ble_eq_true rfl)) dL_law_985 ⟨Nat.le_of_ble_eq_true rfl, Nat.le_of_ble_eq_true rfl⟩) (fun r_9 hw => ?_)
  try dsimp only at hw
  obtain rfl : r_9 = (-1) := hw
  refine lv_aload_n hx hb dL_law_988 rfl (lv_at hl 2 rfl) ?_
  refine lv_aload_n hx hb dL_law_989 rfl (lv_at hl 4 rfl) ?_
  refine lv_iload hx hb dL_law_990 (lv_at hl 0 rfl) ?_
  refine lv_iconst (v := 1) hx hb dL_law_992 (by decide) ?_
  refine lv_iadd hx hb dL_law_993 ?_
  refine lv_topi (fun z_10 ez_10 => ?_)
  obtain rfl : z_10 = 1 := ez_10.trans (by decide)
  refine va_sld hx hb hX hbl hbA hS (by unfold vp_in; decide) dL_law_994 ?_
  refine lv_topi (fun z_11 ez_11 => ?_)
  obtain rfl : z_11 = xs 1 := ez_11
  refine lv_aload_n hx hb dL_law_995 rfl (lv_at hl 4 rfl) ?_
  refine lv_iload hx hb dL_law_996 (lv_at hl 0 rfl) ?_
  refine lv_iconst (v := 2) hx hb dL_law_998 (by decide) ?_
  refine lv_iadd hx hb dL_law_999 ?_
  refine lv_topi (fun z_12 ez_12 => ?_)
  obtain rfl : z_12 = 2 := ez_12.trans (by decide)
  refine va_sld hx hb hX hbl hbA hS (by unfold vp_in; decide) dL_law_1000 ?_
  refine lv_topi (fun z_13 ez_13 => ?_)
  obtain rfl : z_13 = xs 2 := ez_13
  refine lv_i2l (v := (xs 2).toInt64) hx hb dL_law_1001 rfl ?_
  refine lv_bipush (v := 32) hx hb dL_law_1002 (by decide) ?_
  refine lv_lshl (v := (((xs 2).toInt64) <<< ((32 : Int32).toInt64 &&& 63))) hx hb dL_law_1004 rfl ?_
  refine lv_aload_n hx hb dL_law_1005 rfl (lv_at hl 4 rfl) ?_
  refine lv_iload hx hb dL_law_1006 (lv_at hl 0 rfl) ?_
  refine lv_iconst (v := 3) hx hb dL_law_1008 (by decide) ?_
  refine lv_iadd hx hb dL_law_1009 ?_
  refine lv_topi (fun z_14 ez_14 => ?_)
  obtain rfl : z_14 = 3 := ez_14.trans (by decide)
  refine va_sld hx hb hX hbl hbA hS (by unfold vp_in; decide) dL_law_1010 ?_
  refine lv_topi (fun z_15 ez_15 => ?_)
  obtain rfl : z_15 = xs 3 := ez_15
  refine lv_i2l (v := (xs 3).toInt64) hx hb dL_law_1011 rfl ?_
  refine lv_ldc2 (v := 4294967295) hx hb hown (htw _ (ck_1 _ (List.mem_of_getElem? (i := 7) rfl))) dL_law_1012 ?_
  refine lv_land hx hb dL_law_1015 ?_
  refine lv_lor hx hb dL_law_1016 ?_
  refine lv_aload_n hx hb dL_law_1017 rfl (lv_at hl 4 rfl) ?_
  refine lv_iload hx hb dL_law_1018 (lv_at hl 0 rfl) ?_
  refine lv_iconst (v := 4) hx hb dL_law_1020 (by decide) ?_
  refine lv_iadd hx hb dL_law_1021 ?_
  refine lv_topi (fun z_16 ez_16 => ?_)
  obtain rfl : z_16 = 4 := ez_16.trans (by decide)
  refine va_sld hx hb hX hbl hbA hS (by unfold vp_in; decide) dL_law_1022 ?_
  refine lv_topi (fun z_17 ez_17 => ?_)
  obtain rfl : z_17 = xs 4 := ez_17
  have hPc := hP.sub (ws' := [(mq, .inr (12, [.ref mtp, .int 0, .int 0, .ref mywords, .int 0, .int (-1), .int 0, .int 0, .int 0, .int 0, .int 0, .int 0, .int 0, .int 0, .int 0, .int 0, .int 0, .int 0, .int 0, .int 0, .int 0, .int 0, .int 0, .int 0, .ref msk, .int 0, .int 0, .int 0, .ref mln, .ref mlh, .ref mfn, .ref mfi, .ref mla, .ref mpn, .ref mbo, .ref mdi, .ref mdn, .ref mdo, .ref mdh, .ref mnn, .ref mnh, .ref mkn, .ref mpt, .ref mot, .long 0, .ref mywait, .ref myheld, .int 0, .int 0, .int 0, .int 0, .int 0, .int 0, .long 0, .long 0, .ref mynames, .ref myvalue, .int 0, .int 0, .int 0, .ref mun, .ref mycan, .int 0, .int 0, .int 0, .ref myroot, .ref myoff, .int 0, .ref mtn, .ref mtc, .int 0, .int 0, .int 0, .ref mkh, .ref mkt, .ref mkc]))]) [3] rfl
  have hKc := hK.sub (tys' := []) [] rfl
  have hDc := hD.sub (ws' := [(mq, .inr (12, [.ref mtp, .int 0, .int 0, .ref mywords, .int 0, .int (-1), .int 0, .int 0, .int 0, .int 0, .int 0, .int 0, .int 0, .int 0, .int 0, .int 0, .int 0, .int 0, .int 0, .int 0, .int 0, .int 0, .int 0, .int 0, .ref msk, .int 0, .int 0, .int 0, .ref mln, .ref mlh, .ref mfn, .ref mfi, .ref mla, .ref mpn, .ref mbo, .ref mdi, .ref mdn, .ref mdo, .ref mdh, .ref mnn, .ref mnh, .ref mkn, .ref mpt, .ref mot, .long 0, .ref mywait, .ref myheld, .int 0, .int 0, .int 0, .int 0, .int 0, .int 0, .long 0, .long 0, .ref mynames, .ref myvalue, .int 0, .int 0, .int 0, .ref mun, .ref mycan, .int 0, .int 0, .int 0, .ref myroot, .ref myoff, .int 0, .ref mtn, .ref mtc, .int 0, .int 0, .int 0, .ref mkh, .ref mkt, .ref mkc]))]) [3] (by decide) rfl
  have hFc := va_free (wc := [(mq, .inr (12, [.ref mtp, .int 0, .int 0, .ref mywords, .int 0, .int (-1), .int 0, .int 0, .int 0, .int 0, .int 0, .int 0, .int 0, .int 0, .int 0, .int 0, .int 0, .int 0, .int 0, .int 0, .int 0, .int 0, .int 0, .int 0, .ref msk, .int 0, .int 0, .int 0, .ref mln, .ref mlh, .ref mfn, .ref mfi, .ref mla, .ref mpn, .ref mbo, .ref mdi, .ref mdn, .ref mdo, .ref mdh, .ref mnn, .ref mnh, .ref mkn, .ref mpt, .ref mot, .long 0, .ref mywait, .ref myheld, .int 0, .int 0, .int 0, .int 0, .int 0, .int 0, .long 0, .long 0, .ref mynames, .ref myvalue, .int 0, .int 0, .int 0, .ref mun, .ref mycan, .int 0, .int 0, .int 0, .ref myroot, .ref myoff, .int 0, .ref mtn, .ref mtc, .int 0, .int 0, .int 0, .ref mkh, .ref mkt, .ref mkc]))]) hD hS hA [3] rfl
  refine va_calll (va_runV (As := [.int (xs 1), .long ((((xs 2).toInt64) <<< ((32 : Int32).toInt64 &&& 63)) ||| (((xs 3).toInt64) &&& 4294967295)), .int (xs 4)]) (rest := [.long (-1)]) ⟨hx, hb, hml, hown, htw⟩ (mm_age l dC dI mq ([.ref mtp, .int 0, .int 0, .ref mywords, .int 0, .int (-1), .int 0, .int 0, .int 0, .int 0, .int 0, .int 0, .int 0, .int 0, .int 0, .int 0, .int 0, .int 0, .int 0, .int 0, .int 0, .int 0, .int 0, .int 0, .ref msk, .int 0, .int 0, .int 0, .ref mln, .ref mlh, .ref mfn, .ref mfi, .ref mla, .ref mpn, .ref mbo, .ref mdi, .ref mdn, .ref mdo, .ref mdh, .ref mnn, .ref mnh, .ref mkn, .ref mpt, .ref mot, .long 0, .ref mywait, .ref myheld, .int 0, .int 0, .int 0, .int 0, .int 0, .int 0, .long 0, .long 0, .ref mynames, .ref myvalue, .int 0, .int 0, .int 0, .ref mun, .ref mycan, .int 0, .int 0, .int 0, .ref myroot, .ref myoff, .int 0, .ref mtn, .ref mtc, .int 0, .int 0, .int 0, .ref mkh, .ref mkt, .ref mkc]) (xs 1) ((((xs 2).toInt64) <<< ((32 : Int32).toInt64 &&& 63)) ||| (((xs 3).toInt64) &&& 4294967295)) (xs 4) H.size rfl rfl) (cwV 3 htw (xg_V (ck_45 _ (List.mem_of_getElem? (i := 19) rfl)) (ck_45 _ (List.mem_of_getElem? (i := 20) rfl)) (ck_45 _ (List.mem_of_getElem? (i := 21) rfl)) (ck_1 _ (List.mem_of_getElem? (i := 5) rfl)) (ck_45 _ (List.mem_of_getElem? (i := 22) rfl))) rfl rfl rfl (by decide +kernel) ⟨Nat.le_of_ble_eq_true rfl, Nat.le_of_ble_eq_true rfl⟩) ⟨fun a U g mk q => by obtain ⟨q0, q1, qP, qK, qD⟩ := q; exact ⟨q0, q1, qP, va_K.moved (u := U) (U := U.calling g mk a) (Vm.Alike.refl U.vm) qK, qD⟩, va_recv hKc hPc (ci := 12) (q0 := 0) rfl rfl, fun U hU hW => ⟨rfl, by rw [hU], by rw [hU]; exact hPc, va_K.moved hW.alike hKc, hDc.weaken (fun _ _ _ _ => trivial)⟩⟩ rfl rfl hl.1 rfl (lv_room (Nat.le_of_ble_eq_true rfl)) dL_law_1023 ⟨Nat.le_of_ble_eq_true rfl, Nat.le_of_ble_eq_true rfl⟩) hS (fun q _ h => hFc q h) hFc (fun r_18 u_19 t H1 locs ht hvm hw hB hz1 hk1 hS => ?_)
  try dsimp only at hw
  have hP1 : va_P (dC, dI) vwCl [] H1 := fun k q h => by simp at h
  have hD1 : va_D (va_A [(mq, .inr (12, [.ref mtp, .int 0, .int 0, .ref mywords, .int 0, .int (-1), .int 0, .int 0, .int 0, .int 0, .int 0, .int 0, .int 0, .int 0, .int 0, .int 0, .int 0, .int 0, .int 0, .int 0, .int 0, .int 0, .int 0, .int 0, .ref msk, .int 0, .int 0, .int 0, .ref mln, .ref mlh, .ref mfn, .ref mfi, .ref mla, .ref mpn, .ref mbo, .ref mdi, .ref mdn, .ref mdo, .ref mdh, .ref mnn, .ref mnh, .ref mkn, .ref mpt, .ref mot, .long 0, .ref mywait, .ref myheld, .int 0, .int 0, .int 0, .int 0, .int 0, .int 0, .long 0, .long 0, .ref mynames, .ref myvalue, .int 0, .int 0, .int 0, .ref mun, .ref mycan, .int 0, .int 0, .int 0, .ref myroot, .ref myoff, .int 0, .ref mtn, .ref mtc, .int 0, .int 0, .int 0, .ref mkh, .ref mkt, .ref mkc]))] H.size) [] := ⟨fun i j p q h => by simp at h, fun k q h => by simp at h⟩
  obtain ⟨hP, hD⟩ := va_join (wr := [(x, .inr (11, [.ref xpa, .ref b, .ref xsp, .ref xdy, .ref xle, .ref xst, .int 0, .ref xim, .ref xil, .int 0, .ref xmo, .ref xom, .ref xwi])), (b, .inr (0, [.ref bto, .ref bnm, .ref bla, .ref bsk, .ref bru, .ref bbo, .ref bdi, .ref bda, .ref bdk, .ref bdt, .ref bdp, .ref bno])), (bto, .inl (bcT, 5, .inl (fun _ => 0)))]) (w1 := []) hP hD [3] [0, 1, 2] rfl rfl (by decide) (by decide) hk1 hFc hP1 hD1
  generalize H1 = H at hP hS ⊢
  have hP : va_P (dC, dI) vwCl [(x, .inr (11, [.ref xpa, .ref b, .ref xsp, .ref xdy, .ref xle, .ref xst, .int 0, .ref xim, .ref xil, .int 0, .ref xmo, .ref xom, .ref xwi])), (b, .inr (0, [.ref bto, .ref bnm, .ref bla, .ref bsk, .ref bru, .ref bbo, .ref bdi, .ref bda, .ref bdk, .ref bdt, .ref bdp, .ref bno])), (bto, .inl (bcT, 5, .inl (fun _ => 0)))] H := hP
  have hD : va_D A [(x, .inr (11, [.ref xpa, .ref b, .ref xsp, .ref xdy, .ref xle, .ref xst, .int 0, .ref xim, .ref xil, .int 0, .ref xmo, .ref xom, .ref xwi])), (b, .inr (0, [.ref bto, .ref bnm, .ref bla, .ref bsk, .ref bru, .ref bbo, .ref bdi, .ref bda, .ref bdk, .ref bdt, .ref bdp, .ref bno])), (bto, .inl (bcT, 5, .inl (fun _ => 0)))] := hD
  refine W.widen (k := 129) (n := 248806) (by omega) (by omega) ?_
  obtain rfl : r_18 = (-1) := hw
  refine W.lcmp hx hb dL_law_1026 ?_
  refine lv_if_eq (tgt := 2053) hx hb dL_law_1027 (by decide) (fun _ => ?_) (fun c => absurd c (by decide))
  refine lv_iinc (v := 6) (lv' := [(4, .int 6), (3, .ref o3), (2, .ref mq), (1, .ref x), (0, .ref bs)]) hx hb dL_law_2053 hl (k := 0) rfl (by decide) (by decide) rfl (fun ls hl => ?_)
  refine lv_goto (tgt := 23) hx hb dL_law_2056 (by decide) ?_
  refine lv_iload hx hb dL_law_23 (lv_at hl 0 rfl) ?_
  refine lv_aload_n hx hb dL_law_25 rfl (lv_at hl 4 rfl) ?_
  refine va_slen hx hb hX hbl hbA hS dL_law_26 ?_
  refine lv_topi (fun z_20 ez_20 => ?_)
  obtain rfl : z_20 = 6 := ez_20.trans (by decide)
  refine lv_bipush (v := 6) hx hb dL_law_27 (by decide) ?_
  refine lv_isub hx hb dL_law_29 ?_
  refine lv_topi (fun z_21 ez_21 => ?_)
  obtain rfl : z_21 = 0 := ez_21.trans (by decide)
  refine lv_icmp_gt (tgt := 2059) hx hb dL_law_30 (by decide) (fun _ => ?_) (fun c => absurd c (by decide))
  refine lv_iconst (v := 1) hx hb dL_law_2059 (by decide) ?_
  refine va_forget (fun q hq => (hAe _).mp (hS.2.2 q hq)) ?_
  refine W.widen (k := 600002) (n := 7302232) (by omega) (by omega) ?_
  exact lw_ret hx hb hr hlocks dL_law_2060

theorem dL_law_1032 : decode cL_law 1032 = .ok (.aload_n 1, 1) := by decide +kernel
theorem dL_law_1033 : decode cL_law 1033 = .ok (.aload_n 0, 1) := by decide +kernel
theorem dL_law_1034 : decode cL_law 1034 = .ok (.iload 4, 2) := by decide +kernel
theorem dL_law_1036 : decode cL_law 1036 = .ok (.iconst 1, 1) := by decide +kernel
theorem dL_law_1037 : decode cL_law 1037 = .ok (.iadd, 1) := by decide +kernel
theorem dL_law_1038 : decode cL_law 1038 = .ok (.iaload, 1) := by decide +kernel
theorem dL_law_1039 : decode cL_law 1039 = .ok (.aload_n 0, 1) := by decide +kernel
theorem dL_law_1040 : decode cL_law 1040 = .ok (.iload 4, 2) := by decide +kernel
theorem dL_law_1042 : decode cL_law 1042 = .ok (.iconst 2, 1) := by decide +kernel
theorem dL_law_1043 : decode cL_law 1043 = .ok (.iadd, 1) := by decide +kernel
theorem dL_law_1044 : decode cL_law 1044 = .ok (.iaload, 1) := by decide +kernel
theorem dL_law_1045 : decode cL_law 1045 = .ok (.invokevirtual 93, 3) := by decide +kernel
theorem dL_law_1048 : decode cL_law 1048 = .ok (.aload_n 2, 1) := by decide +kernel
theorem dL_law_1049 : decode cL_law 1049 = .ok (.aload_n 0, 1) := by decide +kernel
theorem dL_law_1050 : decode cL_law 1050 = .ok (.iload 4, 2) := by decide +kernel
theorem dL_law_1052 : decode cL_law 1052 = .ok (.iconst 1, 1) := by decide +kernel
theorem dL_law_1053 : decode cL_law 1053 = .ok (.iadd, 1) := by decide +kernel
theorem dL_law_1054 : decode cL_law 1054 = .ok (.iaload, 1) := by decide +kernel
theorem dL_law_1055 : decode cL_law 1055 = .ok (.aload_n 0, 1) := by decide +kernel
theorem dL_law_1056 : decode cL_law 1056 = .ok (.iload 4, 2) := by decide +kernel
theorem dL_law_1058 : decode cL_law 1058 = .ok (.iconst 2, 1) := by decide +kernel
theorem dL_law_1059 : decode cL_law 1059 = .ok (.iadd, 1) := by decide +kernel
theorem dL_law_1060 : decode cL_law 1060 = .ok (.iaload, 1) := by decide +kernel
theorem dL_law_1061 : decode cL_law 1061 = .ok (.invokevirtual 96, 3) := by decide +kernel
theorem dL_law_1064 : decode cL_law 1064 = .ok (.if_icmp .eq 989, 3) := by decide +kernel
set_option maxHeartbeats 4000000 in
set_option maxRecDepth 100000 in
theorem law_elder (l : Launch) (hst : l.stackTraces = false) {p : Program} {e : Env} {s : State} {m : MethodId} {below : List Frame} {meth : Method} {c : Code} {bs : Nat} {xs : Nat → Int32} (C0 : lw_At p s m meth c bs 6 xs) (dC : Nat → ClassId) (dI : Nat → Nat → Nat) (A : Nat → Prop) (hAe : ∀ q, A q ↔ s.heap.size ≤ q) (xpa : Nat) (b : Nat) (xsp : Nat) (xdy : Nat) (xle : Nat) (xst : Nat) (xim : Nat) (xil : Nat) (xmo : Nat) (xom : Nat) (xwi : Nat) (bto : Nat) (bnm : Nat) (bla : Nat) (bsk : Nat) (bru : Nat) (bbo : Nat) (bdi : Nat) (bda : Nat) (bdk : Nat) (bdt : Nat) (bdp : Nat) (bno : Nat) (bcT : ClassId) (mtp : Nat) (mywords : Nat) (msk : Nat) (mln : Nat) (mlh : Nat) (mfn : Nat) (mfi : Nat) (mla : Nat) (mpn : Nat) (mbo : Nat) (mdi : Nat) (mdn : Nat) (mdo : Nat) (mdh : Nat) (mnn : Nat) (mnh : Nat) (mkn : Nat) (mpt : Nat) (mot : Nat) (mywait : Nat) (myheld : Nat) (mynames : Nat) (myvalue : Nat) (mun : Nat) (mycan : Nat) (myroot : Nat) (myoff : Nat) (mtn : Nat) (mtc : Nat) (mkh : Nat) (mkt : Nat) (mkc : Nat) (x : Nat) (mq : Nat) (o3 : Nat)  (H : Heap) (locs : List Loc) (ls : Array Slot) (hK : va_K (dC, dI) vwCl [(bcT, .int)] s) (hP : va_P (dC, dI) vwCl [(x, .inr (11, [.ref xpa, .ref b, .ref xsp, .ref xdy, .ref xle, .ref xst, .int 0, .ref xim, .ref xil, .int 0, .ref xmo, .ref xom, .ref xwi])), (b, .inr (0, [.ref bto, .ref bnm, .ref bla, .ref bsk, .ref bru, .ref bbo, .ref bdi, .ref bda, .ref bdk, .ref bdt, .ref bdp, .ref bno])), (bto, .inl (bcT, 5, .inl (fun _ => 0))), (mq, .inr (12, [.ref mtp, .int 0, .int 0, .ref mywords, .int 0, .int (-1), .int 0, .int 0, .int 0, .int 0, .int 0, .int 0, .int 0, .int 0, .int 0, .int 0, .int 0, .int 0, .int 0, .int 0, .int 0, .int 0, .int 0, .int 0, .ref msk, .int 0, .int 0, .int 0, .ref mln, .ref mlh, .ref mfn, .ref mfi, .ref mla, .ref mpn, .ref mbo, .ref mdi, .ref mdn, .ref mdo, .ref mdh, .ref mnn, .ref mnh, .ref mkn, .ref mpt, .ref mot, .long 0, .ref mywait, .ref myheld, .int 0, .int 0, .int 0, .int 0, .int 0, .int 0, .long 0, .long 0, .ref mynames, .ref myvalue, .int 0, .int 0, .int 0, .ref mun, .ref mycan, .int 0, .int 0, .int 0, .ref myroot, .ref myoff, .int 0, .ref mtn, .ref mtc, .int 0, .int 0, .int 0, .ref mkh, .ref mkt, .ref mkc]))] H) (hD : va_D A [(x, .inr (11, [.ref xpa, .ref b, .ref xsp, .ref xdy, .ref xle, .ref xst, .int 0, .ref xim, .ref xil, .int 0, .ref xmo, .ref xom, .ref xwi])), (b, .inr (0, [.ref bto, .ref bnm, .ref bla, .ref bsk, .ref bru, .ref bbo, .ref bdi, .ref bda, .ref bdk, .ref bdt, .ref bdp, .ref bno])), (bto, .inl (bcT, 5, .inl (fun _ => 0))), (mq, .inr (12, [.ref mtp, .int 0, .int 0, .ref mywords, .int 0, .int (-1), .int 0, .int 0, .int 0, .int 0, .int 0, .int 0, .int 0, .int 0, .int 0, .int 0, .int 0, .int 0, .int 0, .int 0, .int 0, .int 0, .int 0, .int 0, .ref msk, .int 0, .int 0, .int 0, .ref mln, .ref mlh, .ref mfn, .ref mfi, .ref mla, .ref mpn, .ref mbo, .ref mdi, .ref mdn, .ref mdo, .ref mdh, .ref mnn, .ref mnh, .ref mkn, .ref mpt, .ref mot, .long 0, .ref mywait, .ref myheld, .int 0, .int 0, .int 0, .int 0, .int 0, .int 0, .long 0, .long 0, .ref mynames, .ref myvalue, .int 0, .int 0, .int 0, .ref mun, .ref mycan, .int 0, .int 0, .int 0, .ref myroot, .ref myoff, .int 0, .ref mtn, .ref mtc, .int 0, .int 0, .int 0, .ref mkh, .ref mkt, .ref mkc]))]) (hS : va_S A s.heap H locs) (hl : lv_has ls 7 [(4, .int 0), (3, .ref o3), (2, .ref mq), (1, .ref x), (0, .ref bs)]) : W p l e room_1 s m #[Value.ref bs] below meth c H locs 129 248806 (lw_Z below #[Value.ref bs] s) (F0 m 1032 ls []) := by
  obtain ⟨hx, hb, hr, hml, hown, hts, hX, hbl, hlocks, hgv⟩ := id C0
  have htw : ∀ w ∈ wsL_law, w.before _ s = true := fun w h => hts w (wsL_law_in w h)
  have hown : s.vm.findClass RL = some m.cls := hown
  have hA : ∀ q : Nat, s.heap.size ≤ q → A q := fun q h => (hAe q).mpr h
  have hbA : ¬ A bs := fun h => absurd ((hAe bs).mp h) (Nat.not_le.mpr hbl)
  refine lv_aload_n hx hb dL_law_1032 rfl (lv_at hl 3 rfl) ?_
  refine lv_aload_n hx hb dL_law_1033 rfl (lv_at hl 4 rfl) ?_
  refine lv_iload hx hb dL_law_1034 (lv_at hl 0 rfl) ?_
  refine lv_iconst (v := 1) hx hb dL_law_1036 (by decide) ?_
  refine lv_iadd hx hb dL_law_1037 ?_
  refine lv_topi (fun z_1 ez_1 => ?_)
  obtain rfl : z_1 = 1 := ez_1.trans (by decide)
  refine va_sld hx hb hX hbl hbA hS (by unfold vp_in; decide) dL_law_1038 ?_
  refine lv_topi (fun z_2 ez_2 => ?_)
  obtain rfl : z_2 = xs 1 := ez_2
  refine lv_aload_n hx hb dL_law_1039 rfl (lv_at hl 4 rfl) ?_
  refine lv_iload hx hb dL_law_1040 (lv_at hl 0 rfl) ?_
  refine lv_iconst (v := 2) hx hb dL_law_1042 (by decide) ?_
  refine lv_iadd hx hb dL_law_1043 ?_
  refine lv_topi (fun z_3 ez_3 => ?_)
  obtain rfl : z_3 = 2 := ez_3.trans (by decide)
  refine va_sld hx hb hX hbl hbA hS (by unfold vp_in; decide) dL_law_1044 ?_
  refine lv_topi (fun z_4 ez_4 => ?_)
  obtain rfl : z_4 = xs 2 := ez_4
  have hPc := hP.sub (ws' := [(x, .inr (11, [.ref xpa, .ref b, .ref xsp, .ref xdy, .ref xle, .ref xst, .int 0, .ref xim, .ref xil, .int 0, .ref xmo, .ref xom, .ref xwi])), (b, .inr (0, [.ref bto, .ref bnm, .ref bla, .ref bsk, .ref bru, .ref bbo, .ref bdi, .ref bda, .ref bdk, .ref bdt, .ref bdp, .ref bno])), (bto, .inl (bcT, 5, .inl (fun _ => 0)))]) [0, 1, 2] rfl
  have hKc := hK.sub (tys' := [(bcT, .int)]) [0] rfl
  refine vp_callSi (W.runV (As := [.int (xs 1), .int (xs 2)]) (rest := []) ⟨hx, hb, hml, hown, htw⟩ (mx_elder l dC dI x xpa xsp xdy xle xst xim xil xmo xom xwi b bto bnm bla bsk bru bbo bdi bda bdk bdt bdp bno bcT (xs 1) (xs 2)) (cwV 2 htw (xg_V (ck_45 _ (List.mem_of_getElem? (i := 23) rfl)) (ck_46 _ (List.mem_of_getElem? (i := 0) rfl)) (ck_46 _ (List.mem_of_getElem? (i := 1) rfl)) (ck_1 _ (List.mem_of_getElem? (i := 2) rfl)) (ck_46 _ (List.mem_of_getElem? (i := 2) rfl))) rfl rfl rfl (by decide +kernel) ⟨Nat.le_of_ble_eq_true rfl, Nat.le_of_ble_eq_true rfl⟩) ⟨fun a U g mk q => by obtain ⟨q0, qP, qK⟩ := q; exact ⟨q0, qP, va_K.moved (u := U) (U := U.calling g mk a) (Vm.Alike.refl U.vm) qK⟩, va_recv hKc hPc (ci := 11) (q0 := 0) rfl rfl, fun U hU hW => ⟨rfl, by rw [hU]; exact hPc, va_K.moved hW.alike hKc⟩⟩ rfl rfl hl.1 rfl (lv_room (Nat.le_of_ble_eq_true rfl)) dL_law_1045 ⟨Nat.le_of_ble_eq_true rfl, Nat.le_of_ble_eq_true rfl⟩) (fun r_5 hw => ?_)
  try dsimp only at hw
  obtain rfl : r_5 = (-1) := hw
  refine lv_aload_n hx hb dL_law_1048 rfl (lv_at hl 2 rfl) ?_
  refine lv_aload_n hx hb dL_law_1049 rfl (lv_at hl 4 rfl) ?_
  refine lv_iload hx hb dL_law_1050 (lv_at hl 0 rfl) ?_
  refine lv_iconst (v := 1) hx hb dL_law_1052 (by decide) ?_
  refine lv_iadd hx hb dL_law_1053 ?_
  refine lv_topi (fun z_6 ez_6 => ?_)
  obtain rfl : z_6 = 1 := ez_6.trans (by decide)
  refine va_sld hx hb hX hbl hbA hS (by unfold vp_in; decide) dL_law_1054 ?_
  refine lv_topi (fun z_7 ez_7 => ?_)
  obtain rfl : z_7 = xs 1 := ez_7
  refine lv_aload_n hx hb dL_law_1055 rfl (lv_at hl 4 rfl) ?_
  refine lv_iload hx hb dL_law_1056 (lv_at hl 0 rfl) ?_
  refine lv_iconst (v := 2) hx hb dL_law_1058 (by decide) ?_
  refine lv_iadd hx hb dL_law_1059 ?_
  refine lv_topi (fun z_8 ez_8 => ?_)
  obtain rfl : z_8 = 2 := ez_8.trans (by decide)
  refine va_sld hx hb hX hbl hbA hS (by unfold vp_in; decide) dL_law_1060 ?_
  refine lv_topi (fun z_9 ez_9 => ?_)
  obtain rfl : z_9 = xs 2 := ez_9
  have hPc := hP.sub (ws' := [(mq, .inr (12, [.ref mtp, .int 0, .int 0, .ref mywords, .int 0, .int (-1), .int 0, .int 0, .int 0, .int 0, .int 0, .int 0, .int 0, .int 0, .int 0, .int 0, .int 0, .int 0, .int 0, .int 0, .int 0, .int 0, .int 0, .int 0, .ref msk, .int 0, .int 0, .int 0, .ref mln, .ref mlh, .ref mfn, .ref mfi, .ref mla, .ref mpn, .ref mbo, .ref mdi, .ref mdn, .ref mdo, .ref mdh, .ref mnn, .ref mnh, .ref mkn, .ref mpt, .ref mot, .long 0, .ref mywait, .ref myheld, .int 0, .int 0, .int 0, .int 0, .int 0, .int 0, .long 0, .long 0, .ref mynames, .ref myvalue, .int 0, .int 0, .int 0, .ref mun, .ref mycan, .int 0, .int 0, .int 0, .ref myroot, .ref myoff, .int 0, .ref mtn, .ref mtc, .int 0, .int 0, .int 0, .ref mkh, .ref mkt, .ref mkc]))]) [3] rfl
  have hKc := hK.sub (tys' := []) [] rfl
  have hDc := hD.sub (ws' := [(mq, .inr (12, [.ref mtp, .int 0, .int 0, .ref mywords, .int 0, .int (-1), .int 0, .int 0, .int 0, .int 0, .int 0, .int 0, .int 0, .int 0, .int 0, .int 0, .int 0, .int 0, .int 0, .int 0, .int 0, .int 0, .int 0, .int 0, .ref msk, .int 0, .int 0, .int 0, .ref mln, .ref mlh, .ref mfn, .ref mfi, .ref mla, .ref mpn, .ref mbo, .ref mdi, .ref mdn, .ref mdo, .ref mdh, .ref mnn, .ref mnh, .ref mkn, .ref mpt, .ref mot, .long 0, .ref mywait, .ref myheld, .int 0, .int 0, .int 0, .int 0, .int 0, .int 0, .long 0, .long 0, .ref mynames, .ref myvalue, .int 0, .int 0, .int 0, .ref mun, .ref mycan, .int 0, .int 0, .int 0, .ref myroot, .ref myoff, .int 0, .ref mtn, .ref mtc, .int 0, .int 0, .int 0, .ref mkh, .ref mkt, .ref mkc]))]) [3] (by decide) rfl
  have hFc := va_free (wc := [(mq, .inr (12, [.ref mtp, .int 0, .int 0, .ref mywords, .int 0, .int (-1), .int 0, .int 0, .int 0, .int 0, .int 0, .int 0, .int 0, .int 0, .int 0, .int 0, .int 0, .int 0, .int 0, .int 0, .int 0, .int 0, .int 0, .int 0, .ref msk, .int 0, .int 0, .int 0, .ref mln, .ref mlh, .ref mfn, .ref mfi, .ref mla, .ref mpn, .ref mbo, .ref mdi, .ref mdn, .ref mdo, .ref mdh, .ref mnn, .ref mnh, .ref mkn, .ref mpt, .ref mot, .long 0, .ref mywait, .ref myheld, .int 0, .int 0, .int 0, .int 0, .int 0, .int 0, .long 0, .long 0, .ref mynames, .ref myvalue, .int 0, .int 0, .int 0, .ref mun, .ref mycan, .int 0, .int 0, .int 0, .ref myroot, .ref myoff, .int 0, .ref mtn, .ref mtc, .int 0, .int 0, .int 0, .ref mkh, .ref mkt, .ref mkc]))]) hD hS hA [3] rfl
  refine va_calli (va_runV (As := [.int (xs 1), .int (xs 2)]) (rest := [.int (-1)]) ⟨hx, hb, hml, hown, htw⟩ (mm_elder l dC dI mq ([.ref mtp, .int 0, .int 0, .ref mywords, .int 0, .int (-1), .int 0, .int 0, .int 0, .int 0, .int 0, .int 0, .int 0, .int 0, .int 0, .int 0, .int 0, .int 0, .int 0, .int 0, .int 0, .int 0, .int 0, .int 0, .ref msk, .int 0, .int 0, .int 0, .ref mln, .ref mlh, .ref mfn, .ref mfi, .ref mla, .ref mpn, .ref mbo, .ref mdi, .ref mdn, .ref mdo, .ref mdh, .ref mnn, .ref mnh, .ref mkn, .ref mpt, .ref mot, .long 0, .ref mywait, .ref myheld, .int 0, .int 0, .int 0, .int 0, .int 0, .int 0, .long 0, .long 0, .ref mynames, .ref myvalue, .int 0, .int 0, .int 0, .ref mun, .ref mycan, .int 0, .int 0, .int 0, .ref myroot, .ref myoff, .int 0, .ref mtn, .ref mtc, .int 0, .int 0, .int 0, .ref mkh, .ref mkt, .ref mkc]) (xs 1) (xs 2) H.size rfl rfl) (cwV 2 htw (xg_V (ck_46 _ (List.mem_of_getElem? (i := 3) rfl)) (ck_46 _ (List.mem_of_getElem? (i := 4) rfl)) (ck_46 _ (List.mem_of_getElem? (i := 5) rfl)) (ck_1 _ (List.mem_of_getElem? (i := 5) rfl)) (ck_46 _ (List.mem_of_getElem? (i := 6) rfl))) rfl rfl rfl (by decide +kernel) ⟨Nat.le_of_ble_eq_true rfl, Nat.le_of_ble_eq_true rfl⟩) ⟨fun a U g mk q => by obtain ⟨q0, q1, qP, qK, qD⟩ := q; exact ⟨q0, q1, qP, va_K.moved (u := U) (U := U.calling g mk a) (Vm.Alike.refl U.vm) qK, qD⟩, va_recv hKc hPc (ci := 12) (q0 := 0) rfl rfl, fun U hU hW => ⟨rfl, by rw [hU], by rw [hU]; exact hPc, va_K.moved hW.alike hKc, hDc.weaken (fun _ _ _ _ => trivial)⟩⟩ rfl rfl hl.1 rfl (lv_room (Nat.le_of_ble_eq_true rfl)) dL_law_1061 ⟨Nat.le_of_ble_eq_true rfl, Nat.le_of_ble_eq_true rfl⟩) hS (fun q _ h => hFc q h) hFc (fun r_10 u_11 t H1 locs ht hvm hw hB hz1 hk1 hS => ?_)
  try dsimp only at hw
  have hP1 : va_P (dC, dI) vwCl [] H1 := fun k q h => by simp at h
  have hD1 : va_D (va_A [(mq, .inr (12, [.ref mtp, .int 0, .int 0, .ref mywords, .int 0, .int (-1), .int 0, .int 0, .int 0, .int 0, .int 0, .int 0, .int 0, .int 0, .int 0, .int 0, .int 0, .int 0, .int 0, .int 0, .int 0, .int 0, .int 0, .int 0, .ref msk, .int 0, .int 0, .int 0, .ref mln, .ref mlh, .ref mfn, .ref mfi, .ref mla, .ref mpn, .ref mbo, .ref mdi, .ref mdn, .ref mdo, .ref mdh, .ref mnn, .ref mnh, .ref mkn, .ref mpt, .ref mot, .long 0, .ref mywait, .ref myheld, .int 0, .int 0, .int 0, .int 0, .int 0, .int 0, .long 0, .long 0, .ref mynames, .ref myvalue, .int 0, .int 0, .int 0, .ref mun, .ref mycan, .int 0, .int 0, .int 0, .ref myroot, .ref myoff, .int 0, .ref mtn, .ref mtc, .int 0, .int 0, .int 0, .ref mkh, .ref mkt, .ref mkc]))] H.size) [] := ⟨fun i j p q h => by simp at h, fun k q h => by simp at h⟩
  obtain ⟨hP, hD⟩ := va_join (wr := [(x, .inr (11, [.ref xpa, .ref b, .ref xsp, .ref xdy, .ref xle, .ref xst, .int 0, .ref xim, .ref xil, .int 0, .ref xmo, .ref xom, .ref xwi])), (b, .inr (0, [.ref bto, .ref bnm, .ref bla, .ref bsk, .ref bru, .ref bbo, .ref bdi, .ref bda, .ref bdk, .ref bdt, .ref bdp, .ref bno])), (bto, .inl (bcT, 5, .inl (fun _ => 0)))]) (w1 := []) hP hD [3] [0, 1, 2] rfl rfl (by decide) (by decide) hk1 hFc hP1 hD1
  generalize H1 = H at hP hS ⊢
  have hP : va_P (dC, dI) vwCl [(x, .inr (11, [.ref xpa, .ref b, .ref xsp, .ref xdy, .ref xle, .ref xst, .int 0, .ref xim, .ref xil, .int 0, .ref xmo, .ref xom, .ref xwi])), (b, .inr (0, [.ref bto, .ref bnm, .ref bla, .ref bsk, .ref bru, .ref bbo, .ref bdi, .ref bda, .ref bdk, .ref bdt, .ref bdp, .ref bno])), (bto, .inl (bcT, 5, .inl (fun _ => 0)))] H := hP
  have hD : va_D A [(x, .inr (11, [.ref xpa, .ref b, .ref xsp, .ref xdy, .ref xle, .ref xst, .int 0, .ref xim, .ref xil, .int 0, .ref xmo, .ref xom, .ref xwi])), (b, .inr (0, [.ref bto, .ref bnm, .ref bla, .ref bsk, .ref bru, .ref bbo, .ref bdi, .ref bda, .ref bdk, .ref bdt, .ref bdp, .ref bno])), (bto, .inl (bcT, 5, .inl (fun _ => 0)))] := hD
  refine W.widen (k := 129) (n := 248806) (by omega) (by omega) ?_
  obtain rfl : r_10 = (-1) := hw
  refine lv_icmp_eq (tgt := 2053) hx hb dL_law_1064 (by decide) (fun _ => ?_) (fun c => absurd c (by decide))
  refine lv_iinc (v := 6) (lv' := [(4, .int 6), (3, .ref o3), (2, .ref mq), (1, .ref x), (0, .ref bs)]) hx hb dL_law_2053 hl (k := 0) rfl (by decide) (by decide) rfl (fun ls hl => ?_)
  refine lv_goto (tgt := 23) hx hb dL_law_2056 (by decide) ?_
  refine lv_iload hx hb dL_law_23 (lv_at hl 0 rfl) ?_
  refine lv_aload_n hx hb dL_law_25 rfl (lv_at hl 4 rfl) ?_
  refine va_slen hx hb hX hbl hbA hS dL_law_26 ?_
  refine lv_topi (fun z_12 ez_12 => ?_)
  obtain rfl : z_12 = 6 := ez_12.trans (by decide)
  refine lv_bipush (v := 6) hx hb dL_law_27 (by decide) ?_
  refine lv_isub hx hb dL_law_29 ?_
  refine lv_topi (fun z_13 ez_13 => ?_)
  obtain rfl : z_13 = 0 := ez_13.trans (by decide)
  refine lv_icmp_gt (tgt := 2059) hx hb dL_law_30 (by decide) (fun _ => ?_) (fun c => absurd c (by decide))
  refine lv_iconst (v := 1) hx hb dL_law_2059 (by decide) ?_
  refine va_forget (fun q hq => (hAe _).mp (hS.2.2 q hq)) ?_
  refine W.widen (k := 600002) (n := 7302232) (by omega) (by omega) ?_
  exact lw_ret hx hb hr hlocks dL_law_2060

theorem dL_law_1069 : decode cL_law 1069 = .ok (.aload_n 1, 1) := by decide +kernel
theorem dL_law_1070 : decode cL_law 1070 = .ok (.aload_n 0, 1) := by decide +kernel
theorem dL_law_1071 : decode cL_law 1071 = .ok (.iload 4, 2) := by decide +kernel
theorem dL_law_1073 : decode cL_law 1073 = .ok (.iconst 1, 1) := by decide +kernel
theorem dL_law_1074 : decode cL_law 1074 = .ok (.iadd, 1) := by decide +kernel
theorem dL_law_1075 : decode cL_law 1075 = .ok (.iaload, 1) := by decide +kernel
theorem dL_law_1076 : decode cL_law 1076 = .ok (.aload_n 0, 1) := by decide +kernel
theorem dL_law_1077 : decode cL_law 1077 = .ok (.iload 4, 2) := by decide +kernel
theorem dL_law_1079 : decode cL_law 1079 = .ok (.iconst 2, 1) := by decide +kernel
theorem dL_law_1080 : decode cL_law 1080 = .ok (.iadd, 1) := by decide +kernel
theorem dL_law_1081 : decode cL_law 1081 = .ok (.iaload, 1) := by decide +kernel
theorem dL_law_1082 : decode cL_law 1082 = .ok (.aload_n 0, 1) := by decide +kernel
theorem dL_law_1083 : decode cL_law 1083 = .ok (.iload 4, 2) := by decide +kernel
theorem dL_law_1085 : decode cL_law 1085 = .ok (.iconst 3, 1) := by decide +kernel
theorem dL_law_1086 : decode cL_law 1086 = .ok (.iadd, 1) := by decide +kernel
theorem dL_law_1087 : decode cL_law 1087 = .ok (.iaload, 1) := by decide +kernel
theorem dL_law_1088 : decode cL_law 1088 = .ok (.aload_n 0, 1) := by decide +kernel
theorem dL_law_1089 : decode cL_law 1089 = .ok (.iload 4, 2) := by decide +kernel
theorem dL_law_1091 : decode cL_law 1091 = .ok (.iconst 4, 1) := by decide +kernel
theorem dL_law_1092 : decode cL_law 1092 = .ok (.iadd, 1) := by decide +kernel
theorem dL_law_1093 : decode cL_law 1093 = .ok (.iaload, 1) := by decide +kernel
theorem dL_law_1094 : decode cL_law 1094 = .ok (.i2l, 1) := by decide +kernel
theorem dL_law_1095 : decode cL_law 1095 = .ok (.bipush 32, 2) := by decide +kernel
theorem dL_law_1097 : decode cL_law 1097 = .ok (.lshl, 1) := by decide +kernel
theorem dL_law_1098 : decode cL_law 1098 = .ok (.aload_n 0, 1) := by decide +kernel
theorem dL_law_1099 : decode cL_law 1099 = .ok (.iload 4, 2) := by decide +kernel
theorem dL_law_1101 : decode cL_law 1101 = .ok (.iconst 5, 1) := by decide +kernel
theorem dL_law_1102 : decode cL_law 1102 = .ok (.iadd, 1) := by decide +kernel
theorem dL_law_1103 : decode cL_law 1103 = .ok (.iaload, 1) := by decide +kernel
theorem dL_law_1104 : decode cL_law 1104 = .ok (.i2l, 1) := by decide +kernel
theorem dL_law_1105 : decode cL_law 1105 = .ok (.ldc2_w 54, 3) := by decide +kernel
theorem dL_law_1108 : decode cL_law 1108 = .ok (.land, 1) := by decide +kernel
theorem dL_law_1109 : decode cL_law 1109 = .ok (.lor, 1) := by decide +kernel
theorem dL_law_1110 : decode cL_law 1110 = .ok (.invokevirtual 97, 3) := by decide +kernel
theorem dL_law_1113 : decode cL_law 1113 = .ok (.aload_n 2, 1) := by decide +kernel
theorem dL_law_1114 : decode cL_law 1114 = .ok (.aload_n 0, 1) := by decide +kernel
theorem dL_law_1115 : decode cL_law 1115 = .ok (.iload 4, 2) := by decide +kernel
theorem dL_law_1117 : decode cL_law 1117 = .ok (.iconst 1, 1) := by decide +kernel
theorem dL_law_1118 : decode cL_law 1118 = .ok (.iadd, 1) := by decide +kernel
theorem dL_law_1119 : decode cL_law 1119 = .ok (.iaload, 1) := by decide +kernel
theorem dL_law_1120 : decode cL_law 1120 = .ok (.aload_n 0, 1) := by decide +kernel
theorem dL_law_1121 : decode cL_law 1121 = .ok (.iload 4, 2) := by decide +kernel
theorem dL_law_1123 : decode cL_law 1123 = .ok (.iconst 2, 1) := by decide +kernel
theorem dL_law_1124 : decode cL_law 1124 = .ok (.iadd, 1) := by decide +kernel
theorem dL_law_1125 : decode cL_law 1125 = .ok (.iaload, 1) := by decide +kernel
theorem dL_law_1126 : decode cL_law 1126 = .ok (.aload_n 0, 1) := by decide +kernel
theorem dL_law_1127 : decode cL_law 1127 = .ok (.iload 4, 2) := by decide +kernel
theorem dL_law_1129 : decode cL_law 1129 = .ok (.iconst 3, 1) := by decide +kernel
theorem dL_law_1130 : decode cL_law 1130 = .ok (.iadd, 1) := by decide +kernel
theorem dL_law_1131 : decode cL_law 1131 = .ok (.iaload, 1) := by decide +kernel
theorem dL_law_1132 : decode cL_law 1132 = .ok (.aload_n 0, 1) := by decide +kernel
theorem dL_law_1133 : decode cL_law 1133 = .ok (.iload 4, 2) := by decide +kernel
theorem dL_law_1135 : decode cL_law 1135 = .ok (.iconst 4, 1) := by decide +kernel
theorem dL_law_1136 : decode cL_law 1136 = .ok (.iadd, 1) := by decide +kernel
theorem dL_law_1137 : decode cL_law 1137 = .ok (.iaload, 1) := by decide +kernel
theorem dL_law_1138 : decode cL_law 1138 = .ok (.i2l, 1) := by decide +kernel
theorem dL_law_1139 : decode cL_law 1139 = .ok (.bipush 32, 2) := by decide +kernel
theorem dL_law_1141 : decode cL_law 1141 = .ok (.lshl, 1) := by decide +kernel
theorem dL_law_1142 : decode cL_law 1142 = .ok (.aload_n 0, 1) := by decide +kernel
theorem dL_law_1143 : decode cL_law 1143 = .ok (.iload 4, 2) := by decide +kernel
theorem dL_law_1145 : decode cL_law 1145 = .ok (.iconst 5, 1) := by decide +kernel
theorem dL_law_1146 : decode cL_law 1146 = .ok (.iadd, 1) := by decide +kernel
theorem dL_law_1147 : decode cL_law 1147 = .ok (.iaload, 1) := by decide +kernel
theorem dL_law_1148 : decode cL_law 1148 = .ok (.i2l, 1) := by decide +kernel
theorem dL_law_1149 : decode cL_law 1149 = .ok (.ldc2_w 54, 3) := by decide +kernel
theorem dL_law_1152 : decode cL_law 1152 = .ok (.land, 1) := by decide +kernel
theorem dL_law_1153 : decode cL_law 1153 = .ok (.lor, 1) := by decide +kernel
theorem dL_law_1154 : decode cL_law 1154 = .ok (.invokevirtual 101, 3) := by decide +kernel
theorem dL_law_1157 : decode cL_law 1157 = .ok (.lcmp, 1) := by decide +kernel
theorem dL_law_1158 : decode cL_law 1158 = .ok (.ifCond .eq 895, 3) := by decide +kernel
set_option maxHeartbeats 4000000 in
set_option maxRecDepth 100000 in
theorem law_often (l : Launch) (hst : l.stackTraces = false) {p : Program} {e : Env} {s : State} {m : MethodId} {below : List Frame} {meth : Method} {c : Code} {bs : Nat} {xs : Nat → Int32} (C0 : lw_At p s m meth c bs 6 xs) (dC : Nat → ClassId) (dI : Nat → Nat → Nat) (A : Nat → Prop) (hAe : ∀ q, A q ↔ s.heap.size ≤ q) (xpa : Nat) (b : Nat) (xsp : Nat) (xdy : Nat) (xle : Nat) (xst : Nat) (xim : Nat) (xil : Nat) (xmo : Nat) (xom : Nat) (xwi : Nat) (bto : Nat) (bnm : Nat) (bla : Nat) (bsk : Nat) (bru : Nat) (bbo : Nat) (bdi : Nat) (bda : Nat) (bdk : Nat) (bdt : Nat) (bdp : Nat) (bno : Nat) (bcT : ClassId) (mtp : Nat) (mywords : Nat) (msk : Nat) (mln : Nat) (mlh : Nat) (mfn : Nat) (mfi : Nat) (mla : Nat) (mpn : Nat) (mbo : Nat) (mdi : Nat) (mdn : Nat) (mdo : Nat) (mdh : Nat) (mnn : Nat) (mnh : Nat) (mkn : Nat) (mpt : Nat) (mot : Nat) (mywait : Nat) (myheld : Nat) (mynames : Nat) (myvalue : Nat) (mun : Nat) (mycan : Nat) (myroot : Nat) (myoff : Nat) (mtn : Nat) (mtc : Nat) (mkh : Nat) (mkt : Nat) (mkc : Nat) (x : Nat) (mq : Nat) (o3 : Nat)  (H : Heap) (locs : List Loc) (ls : Array Slot) (hK : va_K (dC, dI) vwCl [(bcT, .int)] s) (hP : va_P (dC, dI) vwCl [(x, .inr (11, [.ref xpa, .ref b, .ref xsp, .ref xdy, .ref xle, .ref xst, .int 0, .ref xim, .ref xil, .int 0, .ref xmo, .ref xom, .ref xwi])), (b, .inr (0, [.ref bto, .ref bnm, .ref bla, .ref bsk, .ref bru, .ref bbo, .ref bdi, .ref bda, .ref bdk, .ref bdt, .ref bdp, .ref bno])), (bto, .inl (bcT, 5, .inl (fun _ => 0))), (mq, .inr (12, [.ref mtp, .int 0, .int 0, .ref mywords, .int 0, .int (-1), .int 0, .int 0, .int 0, .int 0, .int 0, .int 0, .int 0, .int 0, .int 0, .int 0, .int 0, .int 0, .int 0, .int 0, .int 0, .int 0, .int 0, .int 0, .ref msk, .int 0, .int 0, .int 0, .ref mln, .ref mlh, .ref mfn, .ref mfi, .ref mla, .ref mpn, .ref mbo, .ref mdi, .ref mdn, .ref mdo, .ref mdh, .ref mnn, .ref mnh, .ref mkn, .ref mpt, .ref mot, .long 0, .ref mywait, .ref myheld, .int 0, .int 0, .int 0, .int 0, .int 0, .int 0, .long 0, .long 0, .ref mynames, .ref myvalue, .int 0, .int 0, .int 0, .ref mun, .ref mycan, .int 0, .int 0, .int 0, .ref myroot, .ref myoff, .int 0, .ref mtn, .ref mtc, .int 0, .int 0, .int 0, .ref mkh, .ref mkt, .ref mkc]))] H) (hD : va_D A [(x, .inr (11, [.ref xpa, .ref b, .ref xsp, .ref xdy, .ref xle, .ref xst, .int 0, .ref xim, .ref xil, .int 0, .ref xmo, .ref xom, .ref xwi])), (b, .inr (0, [.ref bto, .ref bnm, .ref bla, .ref bsk, .ref bru, .ref bbo, .ref bdi, .ref bda, .ref bdk, .ref bdt, .ref bdp, .ref bno])), (bto, .inl (bcT, 5, .inl (fun _ => 0))), (mq, .inr (12, [.ref mtp, .int 0, .int 0, .ref mywords, .int 0, .int (-1), .int 0, .int 0, .int 0, .int 0, .int 0, .int 0, .int 0, .int 0, .int 0, .int 0, .int 0, .int 0, .int 0, .int 0, .int 0, .int 0, .int 0, .int 0, .ref msk, .int 0, .int 0, .int 0, .ref mln, .ref mlh, .ref mfn, .ref mfi, .ref mla, .ref mpn, .ref mbo, .ref mdi, .ref mdn, .ref mdo, .ref mdh, .ref mnn, .ref mnh, .ref mkn, .ref mpt, .ref mot, .long 0, .ref mywait, .ref myheld, .int 0, .int 0, .int 0, .int 0, .int 0, .int 0, .long 0, .long 0, .ref mynames, .ref myvalue, .int 0, .int 0, .int 0, .ref mun, .ref mycan, .int 0, .int 0, .int 0, .ref myroot, .ref myoff, .int 0, .ref mtn, .ref mtc, .int 0, .int 0, .int 0, .ref mkh, .ref mkt, .ref mkc]))]) (hS : va_S A s.heap H locs) (hl : lv_has ls 7 [(4, .int 0), (3, .ref o3), (2, .ref mq), (1, .ref x), (0, .ref bs)]) : W p l e room_1 s m #[Value.ref bs] below meth c H locs 129 248806 (lw_Z below #[Value.ref bs] s) (F0 m 1069 ls []) := by
  obtain ⟨hx, hb, hr, hml, hown, hts, hX, hbl, hlocks, hgv⟩ := id C0
  have htw : ∀ w ∈ wsL_law, w.before _ s = true := fun w h => hts w (wsL_law_in w h)
  have hown : s.vm.findClass RL = some m.cls := hown
  have hA : ∀ q : Nat, s.heap.size ≤ q → A q := fun q h => (hAe q).mpr h
  have hbA : ¬ A bs := fun h => absurd ((hAe bs).mp h) (Nat.not_le.mpr hbl)
  refine lv_aload_n hx hb dL_law_1069 rfl (lv_at hl 3 rfl) ?_
  refine lv_aload_n hx hb dL_law_1070 rfl (lv_at hl 4 rfl) ?_
  refine lv_iload hx hb dL_law_1071 (lv_at hl 0 rfl) ?_
  refine lv_iconst (v := 1) hx hb dL_law_1073 (by decide) ?_
  refine lv_iadd hx hb dL_law_1074 ?_
  refine lv_topi (fun z_1 ez_1 => ?_)
  obtain rfl : z_1 = 1 := ez_1.trans (by decide)
  refine va_sld hx hb hX hbl hbA hS (by unfold vp_in; decide) dL_law_1075 ?_
  refine lv_topi (fun z_2 ez_2 => ?_)
  obtain rfl : z_2 = xs 1 := ez_2
  refine lv_aload_n hx hb dL_law_1076 rfl (lv_at hl 4 rfl) ?_
  refine lv_iload hx hb dL_law_1077 (lv_at hl 0 rfl) ?_
  refine lv_iconst (v := 2) hx hb dL_law_1079 (by decide) ?_
  refine lv_iadd hx hb dL_law_1080 ?_
  refine lv_topi (fun z_3 ez_3 => ?_)
  obtain rfl : z_3 = 2 := ez_3.trans (by decide)
  refine va_sld hx hb hX hbl hbA hS (by unfold vp_in; decide) dL_law_1081 ?_
  refine lv_topi (fun z_4 ez_4 => ?_)
  obtain rfl : z_4 = xs 2 := ez_4
  refine lv_aload_n hx hb dL_law_1082 rfl (lv_at hl 4 rfl) ?_
  refine lv_iload hx hb dL_law_1083 (lv_at hl 0 rfl) ?_
  refine lv_iconst (v := 3) hx hb dL_law_1085 (by decide) ?_
  refine lv_iadd hx hb dL_law_1086 ?_
  refine lv_topi (fun z_5 ez_5 => ?_)
  obtain rfl : z_5 = 3 := ez_5.trans (by decide)
  refine va_sld hx hb hX hbl hbA hS (by unfold vp_in; decide) dL_law_1087 ?_
  refine lv_topi (fun z_6 ez_6 => ?_)
  obtain rfl : z_6 = xs 3 := ez_6
  refine lv_aload_n hx hb dL_law_1088 rfl (lv_at hl 4 rfl) ?_
  refine lv_iload hx hb dL_law_1089 (lv_at hl 0 rfl) ?_
  refine lv_iconst (v := 4) hx hb dL_law_1091 (by decide) ?_
  refine lv_iadd hx hb dL_law_1092 ?_
  refine lv_topi (fun z_7 ez_7 => ?_)
  obtain rfl : z_7 = 4 := ez_7.trans (by decide)
  refine va_sld hx hb hX hbl hbA hS (by unfold vp_in; decide) dL_law_1093 ?_
  refine lv_topi (fun z_8 ez_8 => ?_)
  obtain rfl : z_8 = xs 4 := ez_8
  refine lv_i2l (v := (xs 4).toInt64) hx hb dL_law_1094 rfl ?_
  refine lv_bipush (v := 32) hx hb dL_law_1095 (by decide) ?_
  refine lv_lshl (v := (((xs 4).toInt64) <<< ((32 : Int32).toInt64 &&& 63))) hx hb dL_law_1097 rfl ?_
  refine lv_aload_n hx hb dL_law_1098 rfl (lv_at hl 4 rfl) ?_
  refine lv_iload hx hb dL_law_1099 (lv_at hl 0 rfl) ?_
  refine lv_iconst (v := 5) hx hb dL_law_1101 (by decide) ?_
  refine lv_iadd hx hb dL_law_1102 ?_
  refine lv_topi (fun z_9 ez_9 => ?_)
  obtain rfl : z_9 = 5 := ez_9.trans (by decide)
  refine va_sld hx hb hX hbl hbA hS (by unfold vp_in; decide) dL_law_1103 ?_
  refine lv_topi (fun z_10 ez_10 => ?_)
  obtain rfl : z_10 = xs 5 := ez_10
  refine lv_i2l (v := (xs 5).toInt64) hx hb dL_law_1104 rfl ?_
  refine lv_ldc2 (v := 4294967295) hx hb hown (htw _ (ck_1 _ (List.mem_of_getElem? (i := 7) rfl))) dL_law_1105 ?_
  refine lv_land hx hb dL_law_1108 ?_
  refine lv_lor hx hb dL_law_1109 ?_
  have hPc := hP.sub (ws' := [(x, .inr (11, [.ref xpa, .ref b, .ref xsp, .ref xdy, .ref xle, .ref xst, .int 0, .ref xim, .ref xil, .int 0, .ref xmo, .ref xom, .ref xwi])), (b, .inr (0, [.ref bto, .ref bnm, .ref bla, .ref bsk, .ref bru, .ref bbo, .ref bdi, .ref bda, .ref bdk, .ref bdt, .ref bdp, .ref bno])), (bto, .inl (bcT, 5, .inl (fun _ => 0)))]) [0, 1, 2] rfl
  have hKc := hK.sub (tys' := [(bcT, .int)]) [0] rfl
  refine vp_callSl (W.runV (As := [.int (xs 1), .int (xs 2), .int (xs 3), .long ((((xs 4).toInt64) <<< ((32 : Int32).toInt64 &&& 63)) ||| (((xs 5).toInt64) &&& 4294967295))]) (rest := []) ⟨hx, hb, hml, hown, htw⟩ (mx_often l dC dI x xpa xsp xdy xle xst xim xil xmo xom xwi b bto bnm bla bsk bru bbo bdi bda bdk bdt bdp bno bcT (xs 1) (xs 2) (xs 3) ((((xs 4).toInt64) <<< ((32 : Int32).toInt64 &&& 63)) ||| (((xs 5).toInt64) &&& 4294967295))) (cwV 4 htw (xg_V (ck_46 _ (List.mem_of_getElem? (i := 7) rfl)) (ck_46 _ (List.mem_of_getElem? (i := 8) rfl)) (ck_46 _ (List.mem_of_getElem? (i := 9) rfl)) (ck_1 _ (List.mem_of_getElem? (i := 2) rfl)) (ck_46 _ (List.mem_of_getElem? (i := 10) rfl))) rfl rfl rfl (by decide +kernel) ⟨Nat.le_of_ble_eq_true rfl, Nat.le_of_ble_eq_true rfl⟩) ⟨fun a U g mk q => by obtain ⟨q0, qP, qK⟩ := q; exact ⟨q0, qP, va_K.moved (u := U) (U := U.calling g mk a) (Vm.Alike.refl U.vm) qK⟩, va_recv hKc hPc (ci := 11) (q0 := 0) rfl rfl, fun U hU hW => ⟨rfl, by rw [hU]; exact hPc, va_K.moved hW.alike hKc⟩⟩ rfl rfl hl.1 rfl (lv_room (Nat.le_of_ble_eq_true rfl)) dL_law_1110 ⟨Nat.le_of_ble_eq_true rfl, Nat.le_of_ble_eq_true rfl⟩) (fun r_11 hw => ?_)
  try dsimp only at hw
  obtain rfl : r_11 = (-1) := hw
  refine lv_aload_n hx hb dL_law_1113 rfl (lv_at hl 2 rfl) ?_
  refine lv_aload_n hx hb dL_law_1114 rfl (lv_at hl 4 rfl) ?_
  refine lv_iload hx hb dL_law_1115 (lv_at hl 0 rfl) ?_
  refine lv_iconst (v := 1) hx hb dL_law_1117 (by decide) ?_
  refine lv_iadd hx hb dL_law_1118 ?_
  refine lv_topi (fun z_12 ez_12 => ?_)
  obtain rfl : z_12 = 1 := ez_12.trans (by decide)
  refine va_sld hx hb hX hbl hbA hS (by unfold vp_in; decide) dL_law_1119 ?_
  refine lv_topi (fun z_13 ez_13 => ?_)
  obtain rfl : z_13 = xs 1 := ez_13
  refine lv_aload_n hx hb dL_law_1120 rfl (lv_at hl 4 rfl) ?_
  refine lv_iload hx hb dL_law_1121 (lv_at hl 0 rfl) ?_
  refine lv_iconst (v := 2) hx hb dL_law_1123 (by decide) ?_
  refine lv_iadd hx hb dL_law_1124 ?_
  refine lv_topi (fun z_14 ez_14 => ?_)
  obtain rfl : z_14 = 2 := ez_14.trans (by decide)
  refine va_sld hx hb hX hbl hbA hS (by unfold vp_in; decide) dL_law_1125 ?_
  refine lv_topi (fun z_15 ez_15 => ?_)
  obtain rfl : z_15 = xs 2 := ez_15
  refine lv_aload_n hx hb dL_law_1126 rfl (lv_at hl 4 rfl) ?_
  refine lv_iload hx hb dL_law_1127 (lv_at hl 0 rfl) ?_
  refine lv_iconst (v := 3) hx hb dL_law_1129 (by decide) ?_
  refine lv_iadd hx hb dL_law_1130 ?_
  refine lv_topi (fun z_16 ez_16 => ?_)
  obtain rfl : z_16 = 3 := ez_16.trans (by decide)
  refine va_sld hx hb hX hbl hbA hS (by unfold vp_in; decide) dL_law_1131 ?_
  refine lv_topi (fun z_17 ez_17 => ?_)
  obtain rfl : z_17 = xs 3 := ez_17
  refine lv_aload_n hx hb dL_law_1132 rfl (lv_at hl 4 rfl) ?_
  refine lv_iload hx hb dL_law_1133 (lv_at hl 0 rfl) ?_
  refine lv_iconst (v := 4) hx hb dL_law_1135 (by decide) ?_
  refine lv_iadd hx hb dL_law_1136 ?_
  refine lv_topi (fun z_18 ez_18 => ?_)
  obtain rfl : z_18 = 4 := ez_18.trans (by decide)
  refine va_sld hx hb hX hbl hbA hS (by unfold vp_in; decide) dL_law_1137 ?_
  refine lv_topi (fun z_19 ez_19 => ?_)
  obtain rfl : z_19 = xs 4 := ez_19
  refine lv_i2l (v := (xs 4).toInt64) hx hb dL_law_1138 rfl ?_
  refine lv_bipush (v := 32) hx hb dL_law_1139 (by decide) ?_
  refine lv_lshl (v := (((xs 4).toInt64) <<< ((32 : Int32).toInt64 &&& 63))) hx hb dL_law_1141 rfl ?_
  refine lv_aload_n hx hb dL_law_1142 rfl (lv_at hl 4 rfl) ?_
  refine lv_iload hx hb dL_law_1143 (lv_at hl 0 rfl) ?_
  refine lv_iconst (v := 5) hx hb dL_law_1145 (by decide) ?_
  refine lv_iadd hx hb dL_law_1146 ?_
  refine lv_topi (fun z_20 ez_20 => ?_)
  obtain rfl : z_20 = 5 := ez_20.trans (by decide)
  refine va_sld hx hb hX hbl hbA hS (by unfold vp_in; decide) dL_law_1147 ?_
  refine lv_topi (fun z_21 ez_21 => ?_)
  obtain rfl : z_21 = xs 5 := ez_21
  refine lv_i2l (v := (xs 5).toInt64) hx hb dL_law_1148 rfl ?_
  refine lv_ldc2 (v := 4294967295) hx hb hown (htw _ (ck_1 _ (List.mem_of_getElem? (i := 7) rfl))) dL_law_1149 ?_
  refine lv_land hx hb dL_law_1152 ?_
  refine lv_lor hx hb dL_law_1153 ?_
  have hPc := hP.sub (ws' := [(mq, .inr (12, [.ref mtp, .int 0, .int 0, .ref mywords, .int 0, .int (-1), .int 0, .int 0, .int 0, .int 0, .int 0, .int 0, .int 0, .int 0, .int 0, .int 0, .int 0, .int 0, .int 0, .int 0, .int 0, .int 0, .int 0, .int 0, .ref msk, .int 0, .int 0, .int 0, .ref mln, .ref mlh, .ref mfn, .ref mfi, .ref mla, .ref mpn, .ref mbo, .ref mdi, .ref mdn, .ref mdo, .ref mdh, .ref mnn, .ref mnh, .ref mkn, .ref mpt, .ref mot, .long 0, .ref mywait, .ref myheld, .int 0, .int 0, .int 0, .int 0, .int 0, .int 0, .long 0, .long 0, .ref mynames, .ref myvalue, .int 0, .int 0, .int 0, .ref mun, .ref mycan, .int 0, .int 0, .int 0, .ref myroot, .ref myoff, .int 0, .ref mtn, .ref mtc, .int 0, .int 0, .int 0, .ref mkh, .ref mkt, .ref mkc]))]) [3] rfl
  have hKc := hK.sub (tys' := []) [] rfl
  have hDc := hD.sub (ws' := [(mq, .inr (12, [.ref mtp, .int 0, .int 0, .ref mywords, .int 0, .int (-1), .int 0, .int 0, .int 0, .int 0, .int 0, .int 0, .int 0, .int 0, .int 0, .int 0, .int 0, .int 0, .int 0, .int 0, .int 0, .int 0, .int 0, .int 0, .ref msk, .int 0, .int 0, .int 0, .ref mln, .ref mlh, .ref mfn, .ref mfi, .ref mla, .ref mpn, .ref mbo, .ref mdi, .ref mdn, .ref mdo, .ref mdh, .ref mnn, .ref mnh, .ref mkn, .ref mpt, .ref mot, .long 0, .ref mywait, .ref myheld, .int 0, .int 0, .int 0, .int 0, .int 0, .int 0, .long 0, .long 0, .ref mynames, .ref myvalue, .int 0, .int 0, .int 0, .ref mun, .ref mycan, .int 0, .int 0, .int 0, .ref myroot, .ref myoff, .int 0, .ref mtn, .ref mtc, .int 0, .int 0, .int 0, .ref mkh, .ref mkt, .ref mkc]))]) [3] (by decide) rfl
  have hFc := va_free (wc := [(mq, .inr (12, [.ref mtp, .int 0, .int 0, .ref mywords, .int 0, .int (-1), .int 0, .int 0, .int 0, .int 0, .int 0, .int 0, .int 0, .int 0, .int 0, .int 0, .int 0, .int 0, .int 0, .int 0, .int 0, .int 0, .int 0, .int 0, .ref msk, .int 0, .int 0, .int 0, .ref mln, .ref mlh, .ref mfn, .ref mfi, .ref mla, .ref mpn, .ref mbo, .ref mdi, .ref mdn, .ref mdo, .ref mdh, .ref mnn, .ref mnh, .ref mkn, .ref mpt, .ref mot, .long 0, .ref mywait, .ref myheld, .int 0, .int 0, .int 0, .int 0, .int 0, .int 0, .long 0, .long 0, .ref mynames, .ref myvalue, .int 0, .int 0, .int 0, .ref mun, .ref mycan, .int 0, .int 0, .int 0, .ref myroot, .ref myoff, .int 0, .ref mtn, .ref mtc, .int 0, .int 0, .int 0, .ref mkh, .ref mkt, .ref mkc]))]) hD hS hA [3] rfl
  refine va_calll (va_runV (As := [.int (xs 1), .int (xs 2), .int (xs 3), .long ((((xs 4).toInt64) <<< ((32 : Int32).toInt64 &&& 63)) ||| (((xs 5).toInt64) &&& 4294967295))]) (rest := [.long (-1)]) ⟨hx, hb, hml, hown, htw⟩ (mm_often l dC dI mq ([.ref mtp, .int 0, .int 0, .ref mywords, .int 0, .int (-1), .int 0, .int 0, .int 0, .int 0, .int 0, .int 0, .int 0, .int 0, .int 0, .int 0, .int 0, .int 0, .int 0, .int 0, .int 0, .int 0, .int 0, .int 0, .ref msk, .int 0, .int 0, .int 0, .ref mln, .ref mlh, .ref mfn, .ref mfi, .ref mla, .ref mpn, .ref mbo, .ref mdi, .ref mdn, .ref mdo, .ref mdh, .ref mnn, .ref mnh, .ref mkn, .ref mpt, .ref mot, .long 0, .ref mywait, .ref myheld, .int 0, .int 0, .int 0, .int 0, .int 0, .int 0, .long 0, .long 0, .ref mynames, .ref myvalue, .int 0, .int 0, .int 0, .ref mun, .ref mycan, .int 0, .int 0, .int 0, .ref myroot, .ref myoff, .int 0, .ref mtn, .ref mtc, .int 0, .int 0, .int 0, .ref mkh, .ref mkt, .ref mkc]) (xs 1) (xs 2) (xs 3) ((((xs 4).toInt64) <<< ((32 : Int32).toInt64 &&& 63)) ||| (((xs 5).toInt64) &&& 4294967295)) H.size rfl rfl) (cwV 4 htw (xg_V (ck_46 _ (List.mem_of_getElem? (i := 16) rfl)) (ck_46 _ (List.mem_of_getElem? (i := 17) rfl)) (ck_46 _ (List.mem_of_getElem? (i := 18) rfl)) (ck_1 _ (List.mem_of_getElem? (i := 5) rfl)) (ck_46 _ (List.mem_of_getElem? (i := 19) rfl))) rfl rfl rfl (by decide +kernel) ⟨Nat.le_of_ble_eq_true rfl, Nat.le_of_ble_eq_true rfl⟩) ⟨fun a U g mk q => by obtain ⟨q0, q1, qP, qK, qD⟩ := q; exact ⟨q0, q1, qP, va_K.moved (u := U) (U := U.calling g mk a) (Vm.Alike.refl U.vm) qK, qD⟩, va_recv hKc hPc (ci := 12) (q0 := 0) rfl rfl, fun U hU hW => ⟨rfl, by rw [hU], by rw [hU]; exact hPc, va_K.moved hW.alike hKc, hDc.weaken (fun _ _ _ _ => trivial)⟩⟩ rfl rfl hl.1 rfl (lv_room (Nat.le_of_ble_eq_true rfl)) dL_law_1154 ⟨Nat.le_of_ble_eq_true rfl, Nat.le_of_ble_eq_true rfl⟩) hS (fun q _ h => hFc q h) hFc (fun r_22 u_23 t H1 locs ht hvm hw hB hz1 hk1 hS => ?_)
  try dsimp only at hw
  have hP1 : va_P (dC, dI) vwCl [] H1 := fun k q h => by simp at h
  have hD1 : va_D (va_A [(mq, .inr (12, [.ref mtp, .int 0, .int 0, .ref mywords, .int 0, .int (-1), .int 0, .int 0, .int 0, .int 0, .int 0, .int 0, .int 0, .int 0, .int 0, .int 0, .int 0, .int 0, .int 0, .int 0, .int 0, .int 0, .int 0, .int 0, .ref msk, .int 0, .int 0, .int 0, .ref mln, .ref mlh, .ref mfn, .ref mfi, .ref mla, .ref mpn, .ref mbo, .ref mdi, .ref mdn, .ref mdo, .ref mdh, .ref mnn, .ref mnh, .ref mkn, .ref mpt, .ref mot, .long 0, .ref mywait, .ref myheld, .int 0, .int 0, .int 0, .int 0, .int 0, .int 0, .long 0, .long 0, .ref mynames, .ref myvalue, .int 0, .int 0, .int 0, .ref mun, .ref mycan, .int 0, .int 0, .int 0, .ref myroot, .ref myoff, .int 0, .ref mtn, .ref mtc, .int 0, .int 0, .int 0, .ref mkh, .ref mkt, .ref mkc]))] H.size) [] := ⟨fun i j p q h => by simp at h, fun k q h => by simp at h⟩
  obtain ⟨hP, hD⟩ := va_join (wr := [(x, .inr (11, [.ref xpa, .ref b, .ref xsp, .ref xdy, .ref xle, .ref xst, .int 0, .ref xim, .ref xil, .int 0, .ref xmo, .ref xom, .ref xwi])), (b, .inr (0, [.ref bto, .ref bnm, .ref bla, .ref bsk, .ref bru, .ref bbo, .ref bdi, .ref bda, .ref bdk, .ref bdt, .ref bdp, .ref bno])), (bto, .inl (bcT, 5, .inl (fun _ => 0)))]) (w1 := []) hP hD [3] [0, 1, 2] rfl rfl (by decide) (by decide) hk1 hFc hP1 hD1
  generalize H1 = H at hP hS ⊢
  have hP : va_P (dC, dI) vwCl [(x, .inr (11, [.ref xpa, .ref b, .ref xsp, .ref xdy, .ref xle, .ref xst, .int 0, .ref xim, .ref xil, .int 0, .ref xmo, .ref xom, .ref xwi])), (b, .inr (0, [.ref bto, .ref bnm, .ref bla, .ref bsk, .ref bru, .ref bbo, .ref bdi, .ref bda, .ref bdk, .ref bdt, .ref bdp, .ref bno])), (bto, .inl (bcT, 5, .inl (fun _ => 0)))] H := hP
  have hD : va_D A [(x, .inr (11, [.ref xpa, .ref b, .ref xsp, .ref xdy, .ref xle, .ref xst, .int 0, .ref xim, .ref xil, .int 0, .ref xmo, .ref xom, .ref xwi])), (b, .inr (0, [.ref bto, .ref bnm, .ref bla, .ref bsk, .ref bru, .ref bbo, .ref bdi, .ref bda, .ref bdk, .ref bdt, .ref bdp, .ref bno])), (bto, .inl (bcT, 5, .inl (fun _ => 0)))] := hD
  refine W.widen (k := 129) (n := 248806) (by omega) (by omega) ?_
  obtain rfl : r_22 = (-1) := hw
  refine W.lcmp hx hb dL_law_1157 ?_
  refine lv_if_eq (tgt := 2053) hx hb dL_law_1158 (by decide) (fun _ => ?_) (fun c => absurd c (by decide))
  refine lv_iinc (v := 6) (lv' := [(4, .int 6), (3, .ref o3), (2, .ref mq), (1, .ref x), (0, .ref bs)]) hx hb dL_law_2053 hl (k := 0) rfl (by decide) (by decide) rfl (fun ls hl => ?_)
  refine lv_goto (tgt := 23) hx hb dL_law_2056 (by decide) ?_
  refine lv_iload hx hb dL_law_23 (lv_at hl 0 rfl) ?_
  refine lv_aload_n hx hb dL_law_25 rfl (lv_at hl 4 rfl) ?_
  refine va_slen hx hb hX hbl hbA hS dL_law_26 ?_
  refine lv_topi (fun z_24 ez_24 => ?_)
  obtain rfl : z_24 = 6 := ez_24.trans (by decide)
  refine lv_bipush (v := 6) hx hb dL_law_27 (by decide) ?_
  refine lv_isub hx hb dL_law_29 ?_
  refine lv_topi (fun z_25 ez_25 => ?_)
  obtain rfl : z_25 = 0 := ez_25.trans (by decide)
  refine lv_icmp_gt (tgt := 2059) hx hb dL_law_30 (by decide) (fun _ => ?_) (fun c => absurd c (by decide))
  refine lv_iconst (v := 1) hx hb dL_law_2059 (by decide) ?_
  refine va_forget (fun q hq => (hAe _).mp (hS.2.2 q hq)) ?_
  refine W.widen (k := 600002) (n := 7302232) (by omega) (by omega) ?_
  exact lw_ret hx hb hr hlocks dL_law_2060

theorem dL_law_1163 : decode cL_law 1163 = .ok (.aload_n 1, 1) := by decide +kernel
theorem dL_law_1164 : decode cL_law 1164 = .ok (.aload_n 0, 1) := by decide +kernel
theorem dL_law_1165 : decode cL_law 1165 = .ok (.iload 4, 2) := by decide +kernel
theorem dL_law_1167 : decode cL_law 1167 = .ok (.iconst 1, 1) := by decide +kernel
theorem dL_law_1168 : decode cL_law 1168 = .ok (.iadd, 1) := by decide +kernel
theorem dL_law_1169 : decode cL_law 1169 = .ok (.iaload, 1) := by decide +kernel
theorem dL_law_1170 : decode cL_law 1170 = .ok (.aload_n 0, 1) := by decide +kernel
theorem dL_law_1171 : decode cL_law 1171 = .ok (.iload 4, 2) := by decide +kernel
theorem dL_law_1173 : decode cL_law 1173 = .ok (.iconst 2, 1) := by decide +kernel
theorem dL_law_1174 : decode cL_law 1174 = .ok (.iadd, 1) := by decide +kernel
theorem dL_law_1175 : decode cL_law 1175 = .ok (.iaload, 1) := by decide +kernel
theorem dL_law_1176 : decode cL_law 1176 = .ok (.invokevirtual 102, 3) := by decide +kernel
theorem dL_law_1179 : decode cL_law 1179 = .ok (.aload_n 2, 1) := by decide +kernel
theorem dL_law_1180 : decode cL_law 1180 = .ok (.aload_n 0, 1) := by decide +kernel
theorem dL_law_1181 : decode cL_law 1181 = .ok (.iload 4, 2) := by decide +kernel
theorem dL_law_1183 : decode cL_law 1183 = .ok (.iconst 1, 1) := by decide +kernel
theorem dL_law_1184 : decode cL_law 1184 = .ok (.iadd, 1) := by decide +kernel
theorem dL_law_1185 : decode cL_law 1185 = .ok (.iaload, 1) := by decide +kernel
theorem dL_law_1186 : decode cL_law 1186 = .ok (.aload_n 0, 1) := by decide +kernel
theorem dL_law_1187 : decode cL_law 1187 = .ok (.iload 4, 2) := by decide +kernel
theorem dL_law_1189 : decode cL_law 1189 = .ok (.iconst 2, 1) := by decide +kernel
theorem dL_law_1190 : decode cL_law 1190 = .ok (.iadd, 1) := by decide +kernel
theorem dL_law_1191 : decode cL_law 1191 = .ok (.iaload, 1) := by decide +kernel
theorem dL_law_1192 : decode cL_law 1192 = .ok (.invokevirtual 105, 3) := by decide +kernel
theorem dL_law_1195 : decode cL_law 1195 = .ok (.lcmp, 1) := by decide +kernel
theorem dL_law_1196 : decode cL_law 1196 = .ok (.ifCond .eq 857, 3) := by decide +kernel
set_option maxHeartbeats 4000000 in
set_option maxRecDepth 100000 in
theorem law_springs (l : Launch) (hst : l.stackTraces = false) {p : Program} {e : Env} {s : State} {m : MethodId} {below : List Frame} {meth : Method} {c : Code} {bs : Nat} {xs : Nat → Int32} (C0 : lw_At p s m meth c bs 6 xs) (dC : Nat → ClassId) (dI : Nat → Nat → Nat) (A : Nat → Prop) (hAe : ∀ q, A q ↔ s.heap.size ≤ q) (xpa : Nat) (b : Nat) (xsp : Nat) (xdy : Nat) (xle : Nat) (xst : Nat) (xim : Nat) (xil : Nat) (xmo : Nat) (xom : Nat) (xwi : Nat) (bto : Nat) (bnm : Nat) (bla : Nat) (bsk : Nat) (bru : Nat) (bbo : Nat) (bdi : Nat) (bda : Nat) (bdk : Nat) (bdt : Nat) (bdp : Nat) (bno : Nat) (bcT : ClassId) (mtp : Nat) (mywords : Nat) (msk : Nat) (mln : Nat) (mlh : Nat) (mfn : Nat) (mfi : Nat) (mla : Nat) (mpn : Nat) (mbo : Nat) (mdi : Nat) (mdn : Nat) (mdo : Nat) (mdh : Nat) (mnn : Nat) (mnh : Nat) (mkn : Nat) (mpt : Nat) (mot : Nat) (mywait : Nat) (myheld : Nat) (mynames : Nat) (myvalue : Nat) (mun : Nat) (mycan : Nat) (myroot : Nat) (myoff : Nat) (mtn : Nat) (mtc : Nat) (mkh : Nat) (mkt : Nat) (mkc : Nat) (x : Nat) (mq : Nat) (o3 : Nat)  (H : Heap) (locs : List Loc) (ls : Array Slot) (hK : va_K (dC, dI) vwCl [(bcT, .int)] s) (hP : va_P (dC, dI) vwCl [(x, .inr (11, [.ref xpa, .ref b, .ref xsp, .ref xdy, .ref xle, .ref xst, .int 0, .ref xim, .ref xil, .int 0, .ref xmo, .ref xom, .ref xwi])), (b, .inr (0, [.ref bto, .ref bnm, .ref bla, .ref bsk, .ref bru, .ref bbo, .ref bdi, .ref bda, .ref bdk, .ref bdt, .ref bdp, .ref bno])), (bto, .inl (bcT, 5, .inl (fun _ => 0))), (mq, .inr (12, [.ref mtp, .int 0, .int 0, .ref mywords, .int 0, .int (-1), .int 0, .int 0, .int 0, .int 0, .int 0, .int 0, .int 0, .int 0, .int 0, .int 0, .int 0, .int 0, .int 0, .int 0, .int 0, .int 0, .int 0, .int 0, .ref msk, .int 0, .int 0, .int 0, .ref mln, .ref mlh, .ref mfn, .ref mfi, .ref mla, .ref mpn, .ref mbo, .ref mdi, .ref mdn, .ref mdo, .ref mdh, .ref mnn, .ref mnh, .ref mkn, .ref mpt, .ref mot, .long 0, .ref mywait, .ref myheld, .int 0, .int 0, .int 0, .int 0, .int 0, .int 0, .long 0, .long 0, .ref mynames, .ref myvalue, .int 0, .int 0, .int 0, .ref mun, .ref mycan, .int 0, .int 0, .int 0, .ref myroot, .ref myoff, .int 0, .ref mtn, .ref mtc, .int 0, .int 0, .int 0, .ref mkh, .ref mkt, .ref mkc]))] H) (hD : va_D A [(x, .inr (11, [.ref xpa, .ref b, .ref xsp, .ref xdy, .ref xle, .ref xst, .int 0, .ref xim, .ref xil, .int 0, .ref xmo, .ref xom, .ref xwi])), (b, .inr (0, [.ref bto, .ref bnm, .ref bla, .ref bsk, .ref bru, .ref bbo, .ref bdi, .ref bda, .ref bdk, .ref bdt, .ref bdp, .ref bno])), (bto, .inl (bcT, 5, .inl (fun _ => 0))), (mq, .inr (12, [.ref mtp, .int 0, .int 0, .ref mywords, .int 0, .int (-1), .int 0, .int 0, .int 0, .int 0, .int 0, .int 0, .int 0, .int 0, .int 0, .int 0, .int 0, .int 0, .int 0, .int 0, .int 0, .int 0, .int 0, .int 0, .ref msk, .int 0, .int 0, .int 0, .ref mln, .ref mlh, .ref mfn, .ref mfi, .ref mla, .ref mpn, .ref mbo, .ref mdi, .ref mdn, .ref mdo, .ref mdh, .ref mnn, .ref mnh, .ref mkn, .ref mpt, .ref mot, .long 0, .ref mywait, .ref myheld, .int 0, .int 0, .int 0, .int 0, .int 0, .int 0, .long 0, .long 0, .ref mynames, .ref myvalue, .int 0, .int 0, .int 0, .ref mun, .ref mycan, .int 0, .int 0, .int 0, .ref myroot, .ref myoff, .int 0, .ref mtn, .ref mtc, .int 0, .int 0, .int 0, .ref mkh, .ref mkt, .ref mkc]))]) (hS : va_S A s.heap H locs) (hl : lv_has ls 7 [(4, .int 0), (3, .ref o3), (2, .ref mq), (1, .ref x), (0, .ref bs)]) : W p l e room_1 s m #[Value.ref bs] below meth c H locs 129 248806 (lw_Z below #[Value.ref bs] s) (F0 m 1163 ls []) := by
  obtain ⟨hx, hb, hr, hml, hown, hts, hX, hbl, hlocks, hgv⟩ := id C0
  have htw : ∀ w ∈ wsL_law, w.before _ s = true := fun w h => hts w (wsL_law_in w h)
  have hown : s.vm.findClass RL = some m.cls := hown
  have hA : ∀ q : Nat, s.heap.size ≤ q → A q := fun q h => (hAe q).mpr h
  have hbA : ¬ A bs := fun h => absurd ((hAe bs).mp h) (Nat.not_le.mpr hbl)
  refine lv_aload_n hx hb dL_law_1163 rfl (lv_at hl 3 rfl) ?_
  refine lv_aload_n hx hb dL_law_1164 rfl (lv_at hl 4 rfl) ?_
  refine lv_iload hx hb dL_law_1165 (lv_at hl 0 rfl) ?_
  refine lv_iconst (v := 1) hx hb dL_law_1167 (by decide) ?_
  refine lv_iadd hx hb dL_law_1168 ?_
  refine lv_topi (fun z_1 ez_1 => ?_)
  obtain rfl : z_1 = 1 := ez_1.trans (by decide)
  refine va_sld hx hb hX hbl hbA hS (by unfold vp_in; decide) dL_law_1169 ?_
  refine lv_topi (fun z_2 ez_2 => ?_)
  obtain rfl : z_2 = xs 1 := ez_2
  refine lv_aload_n hx hb dL_law_1170 rfl (lv_at hl 4 rfl) ?_
  refine lv_iload hx hb dL_law_1171 (lv_at hl 0 rfl) ?_
  refine lv_iconst (v := 2) hx hb dL_law_1173 (by decide) ?_
  refine lv_iadd hx hb dL_law_1174 ?_
  refine lv_topi (fun z_3 ez_3 => ?_)
  obtain rfl : z_3 = 2 := ez_3.trans (by decide)
  refine va_sld hx hb hX hbl hbA hS (by unfold vp_in; decide) dL_law_1175 ?_
  refine lv_topi (fun z_4 ez_4 => ?_)
  obtain rfl : z_4 = xs 2 := ez_4
  have hPc := hP.sub (ws' := [(x, .inr (11, [.ref xpa, .ref b, .ref xsp, .ref xdy, .ref xle, .ref xst, .int 0, .ref xim, .ref xil, .int 0, .ref xmo, .ref xom, .ref xwi])), (b, .inr (0, [.ref bto, .ref bnm, .ref bla, .ref bsk, .ref bru, .ref bbo, .ref bdi, .ref bda, .ref bdk, .ref bdt, .ref bdp, .ref bno])), (bto, .inl (bcT, 5, .inl (fun _ => 0)))]) [0, 1, 2] rfl
  have hKc := hK.sub (tys' := [(bcT, .int)]) [0] rfl
  refine vp_callSl (W.runV (As := [.int (xs 1), .int (xs 2)]) (rest := []) ⟨hx, hb, hml, hown, htw⟩ (mx_springs l dC dI x xpa xsp xdy xle xst xim xil xmo xom xwi b bto bnm bla bsk bru bbo bdi bda bdk bdt bdp bno bcT (xs 1) (xs 2)) (cwV 2 htw (xg_V (ck_46 _ (List.mem_of_getElem? (i := 20) rfl)) (ck_46 _ (List.mem_of_getElem? (i := 21) rfl)) (ck_46 _ (List.mem_of_getElem? (i := 22) rfl)) (ck_1 _ (List.mem_of_getElem? (i := 2) rfl)) (ck_46 _ (List.mem_of_getElem? (i := 23) rfl))) rfl rfl rfl (by decide +kernel) ⟨Nat.le_of_ble_eq_true rfl, Nat.le_of_ble_eq_true rfl⟩) ⟨fun a U g mk q => by obtain ⟨q0, qP, qK⟩ := q; exact ⟨q0, qP, va_K.moved (u := U) (U := U.calling g mk a) (Vm.Alike.refl U.vm) qK⟩, va_recv hKc hPc (ci := 11) (q0 := 0) rfl rfl, fun U hU hW => ⟨rfl, by rw [hU]; exact hPc, va_K.moved hW.alike hKc⟩⟩ rfl rfl hl.1 rfl (lv_room (Nat.le_of_ble_eq_true rfl)) dL_law_1176 ⟨Nat.le_of_ble_eq_true rfl, Nat.le_of_ble_eq_true rfl⟩) (fun r_5 hw => ?_)
  try dsimp only at hw
  obtain rfl : r_5 = (-1) := hw
  refine lv_aload_n hx hb dL_law_1179 rfl (lv_at hl 2 rfl) ?_
  refine lv_aload_n hx hb dL_law_1180 rfl (lv_at hl 4 rfl) ?_
  refine lv_iload hx hb dL_law_1181 (lv_at hl 0 rfl) ?_
  refine lv_iconst (v := 1) hx hb dL_law_1183 (by decide) ?_
  refine lv_iadd hx hb dL_law_1184 ?_
  refine lv_topi (fun z_6 ez_6 => ?_)
  obtain rfl : z_6 = 1 := ez_6.trans (by decide)
  refine va_sld hx hb hX hbl hbA hS (by unfold vp_in; decide) dL_law_1185 ?_
  refine lv_topi (fun z_7 ez_7 => ?_)
  obtain rfl : z_7 = xs 1 := ez_7
  refine lv_aload_n hx hb dL_law_1186 rfl (lv_at hl 4 rfl) ?_
  refine lv_iload hx hb dL_law_1187 (lv_at hl 0 rfl) ?_
  refine lv_iconst (v := 2) hx hb dL_law_1189 (by decide) ?_
  refine lv_iadd hx hb dL_law_1190 ?_
  refine lv_topi (fun z_8 ez_8 => ?_)
  obtain rfl : z_8 = 2 := ez_8.trans (by decide)
  refine va_sld hx hb hX hbl hbA hS (by unfold vp_in; decide) dL_law_1191 ?_
  refine lv_topi (fun z_9 ez_9 => ?_)
  obtain rfl : z_9 = xs 2 := ez_9
  have hPc := hP.sub (ws' := [(mq, .inr (12, [.ref mtp, .int 0, .int 0, .ref mywords, .int 0, .int (-1), .int 0, .int 0, .int 0, .int 0, .int 0, .int 0, .int 0, .int 0, .int 0, .int 0, .int 0, .int 0, .int 0, .int 0, .int 0, .int 0, .int 0, .int 0, .ref msk, .int 0, .int 0, .int 0, .ref mln, .ref mlh, .ref mfn, .ref mfi, .ref mla, .ref mpn, .ref mbo, .ref mdi, .ref mdn, .ref mdo, .ref mdh, .ref mnn, .ref mnh, .ref mkn, .ref mpt, .ref mot, .long 0, .ref mywait, .ref myheld, .int 0, .int 0, .int 0, .int 0, .int 0, .int 0, .long 0, .long 0, .ref mynames, .ref myvalue, .int 0, .int 0, .int 0, .ref mun, .ref mycan, .int 0, .int 0, .int 0, .ref myroot, .ref myoff, .int 0, .ref mtn, .ref mtc, .int 0, .int 0, .int 0, .ref mkh, .ref mkt, .ref mkc]))]) [3] rfl
  have hKc := hK.sub (tys' := []) [] rfl
  have hDc := hD.sub (ws' := [(mq, .inr (12, [.ref mtp, .int 0, .int 0, .ref mywords, .int 0, .int (-1), .int 0, .int 0, .int 0, .int 0, .int 0, .int 0, .int 0, .int 0, .int 0, .int 0, .int 0, .int 0, .int 0, .int 0, .int 0, .int 0, .int 0, .int 0, .ref msk, .int 0, .int 0, .int 0, .ref mln, .ref mlh, .ref mfn, .ref mfi, .ref mla, .ref mpn, .ref mbo, .ref mdi, .ref mdn, .ref mdo, .ref mdh, .ref mnn, .ref mnh, .ref mkn, .ref mpt, .ref mot, .long 0, .ref mywait, .ref myheld, .int 0, .int 0, .int 0, .int 0, .int 0, .int 0, .long 0, .long 0, .ref mynames, .ref myvalue, .int 0, .int 0, .int 0, .ref mun, .ref mycan, .int 0, .int 0, .int 0, .ref myroot, .ref myoff, .int 0, .ref mtn, .ref mtc, .int 0, .int 0, .int 0, .ref mkh, .ref mkt, .ref mkc]))]) [3] (by decide) rfl
  have hFc := va_free (wc := [(mq, .inr (12, [.ref mtp, .int 0, .int 0, .ref mywords, .int 0, .int (-1), .int 0, .int 0, .int 0, .int 0, .int 0, .int 0, .int 0, .int 0, .int 0, .int 0, .int 0, .int 0, .int 0, .int 0, .int 0, .int 0, .int 0, .int 0, .ref msk, .int 0, .int 0, .int 0, .ref mln, .ref mlh, .ref mfn, .ref mfi, .ref mla, .ref mpn, .ref mbo, .ref mdi, .ref mdn, .ref mdo, .ref mdh, .ref mnn, .ref mnh, .ref mkn, .ref mpt, .ref mot, .long 0, .ref mywait, .ref myheld, .int 0, .int 0, .int 0, .int 0, .int 0, .int 0, .long 0, .long 0, .ref mynames, .ref myvalue, .int 0, .int 0, .int 0, .ref mun, .ref mycan, .int 0, .int 0, .int 0, .ref myroot, .ref myoff, .int 0, .ref mtn, .ref mtc, .int 0, .int 0, .int 0, .ref mkh, .ref mkt, .ref mkc]))]) hD hS hA [3] rfl
  refine va_calll (va_runV (As := [.int (xs 1), .int (xs 2)]) (rest := [.long (-1)]) ⟨hx, hb, hml, hown, htw⟩ (mm_springs l dC dI mq ([.ref mtp, .int 0, .int 0, .ref mywords, .int 0, .int (-1), .int 0, .int 0, .int 0, .int 0, .int 0, .int 0, .int 0, .int 0, .int 0, .int 0, .int 0, .int 0, .int 0, .int 0, .int 0, .int 0, .int 0, .int 0, .ref msk, .int 0, .int 0, .int 0, .ref mln, .ref mlh, .ref mfn, .ref mfi, .ref mla, .ref mpn, .ref mbo, .ref mdi, .ref mdn, .ref mdo, .ref mdh, .ref mnn, .ref mnh, .ref mkn, .ref mpt, .ref mot, .long 0, .ref mywait, .ref myheld, .int 0, .int 0, .int 0, .int 0, .int 0, .int 0, .long 0, .long 0, .ref mynames, .ref myvalue, .int 0, .int 0, .int 0, .ref mun, .ref mycan, .int 0, .int 0, .int 0, .ref myroot, .ref myoff, .int 0, .ref mtn, .ref mtc, .int 0, .int 0, .int 0, .ref mkh, .ref mkt, .ref mkc]) (xs 1) (xs 2) H.size rfl rfl) (cwV 2 htw (xg_V (ck_47 _ (List.mem_of_getElem? (i := 8) rfl)) (ck_47 _ (List.mem_of_getElem? (i := 9) rfl)) (ck_47 _ (List.mem_of_getElem? (i := 10) rfl)) (ck_1 _ (List.mem_of_getElem? (i := 5) rfl)) (ck_47 _ (List.mem_of_getElem? (i := 11) rfl))) rfl rfl rfl (by decide +kernel) ⟨Nat.le_of_ble_eq_true rfl, Nat.le_of_ble_eq_true rfl⟩) ⟨fun a U g mk q => by obtain ⟨q0, q1, qP, qK, qD⟩ := q; exact ⟨q0, q1, qP, va_K.moved (u := U) (U := U.calling g mk a) (Vm.Alike.refl U.vm) qK, qD⟩, va_recv hKc hPc (ci := 12) (q0 := 0) rfl rfl, fun U hU hW => ⟨rfl, by rw [hU], by rw [hU]; exact hPc, va_K.moved hW.alike hKc, hDc.weaken (fun _ _ _ _ => trivial)⟩⟩ rfl rfl hl.1 rfl (lv_room (Nat.le_of_ble_eq_true rfl)) dL_law_1192 ⟨Nat.le_of_ble_eq_true rfl, Nat.le_of_ble_eq_true rfl⟩) hS (fun q _ h => hFc q h) hFc (fun r_10 u_11 t H1 locs ht hvm hw hB hz1 hk1 hS => ?_)
  try dsimp only at hw
  have hP1 : va_P (dC, dI) vwCl [] H1 := fun k q h => by simp at h
  have hD1 : va_D (va_A [(mq, .inr (12, [.ref mtp, .int 0, .int 0, .ref mywords, .int 0, .int (-1), .int 0, .int 0, .int 0, .int 0, .int 0, .int 0, .int 0, .int 0, .int 0, .int 0, .int 0, .int 0, .int 0, .int 0, .int 0, .int 0, .int 0, .int 0, .ref msk, .int 0, .int 0, .int 0, .ref mln, .ref mlh, .ref mfn, .ref mfi, .ref mla, .ref mpn, .ref mbo, .ref mdi, .ref mdn, .ref mdo, .ref mdh, .ref mnn, .ref mnh, .ref mkn, .ref mpt, .ref mot, .long 0, .ref mywait, .ref myheld, .int 0, .int 0, .int 0, .int 0, .int 0, .int 0, .long 0, .long 0, .ref mynames, .ref myvalue, .int 0, .int 0, .int 0, .ref mun, .ref mycan, .int 0, .int 0, .int 0, .ref myroot, .ref myoff, .int 0, .ref mtn, .ref mtc, .int 0, .int 0, .int 0, .ref mkh, .ref mkt, .ref mkc]))] H.size) [] := ⟨fun i j p q h => by simp at h, fun k q h => by simp at h⟩
  obtain ⟨hP, hD⟩ := va_join (wr := [(x, .inr (11, [.ref xpa, .ref b, .ref xsp, .ref xdy, .ref xle, .ref xst, .int 0, .ref xim, .ref xil, .int 0, .ref xmo, .ref xom, .ref xwi])), (b, .inr (0, [.ref bto, .ref bnm, .ref bla, .ref bsk, .ref bru, .ref bbo, .ref bdi, .ref bda, .ref bdk, .ref bdt, .ref bdp, .ref bno])), (bto, .inl (bcT, 5, .inl (fun _ => 0)))]) (w1 := []) hP hD [3] [0, 1, 2] rfl rfl (by decide) (by decide) hk1 hFc hP1 hD1
  generalize H1 = H at hP hS ⊢
  have hP : va_P (dC, dI) vwCl [(x, .inr (11, [.ref xpa, .ref b, .ref xsp, .ref xdy, .ref xle, .ref xst, .int 0, .ref xim, .ref xil, .int 0, .ref xmo, .ref xom, .ref xwi])), (b, .inr (0, [.ref bto, .ref bnm, .ref bla, .ref bsk, .ref bru, .ref bbo, .ref bdi, .ref bda, .ref bdk, .ref bdt, .ref bdp, .ref bno])), (bto, .inl (bcT, 5, .inl (fun _ => 0)))] H := hP
  have hD : va_D A [(x, .inr (11, [.ref xpa, .ref b, .ref xsp, .ref xdy, .ref xle, .ref xst, .int 0, .ref xim, .ref xil, .int 0, .ref xmo, .ref xom, .ref xwi])), (b, .inr (0, [.ref bto, .ref bnm, .ref bla, .ref bsk, .ref bru, .ref bbo, .ref bdi, .ref bda, .ref bdk, .ref bdt, .ref bdp, .ref bno])), (bto, .inl (bcT, 5, .inl (fun _ => 0)))] := hD
  refine W.widen (k := 129) (n := 248806) (by omega) (by omega) ?_
  obtain rfl : r_10 = (-1) := hw
  refine W.lcmp hx hb dL_law_1195 ?_
  refine lv_if_eq (tgt := 2053) hx hb dL_law_1196 (by decide) (fun _ => ?_) (fun c => absurd c (by decide))
  refine lv_iinc (v := 6) (lv' := [(4, .int 6), (3, .ref o3), (2, .ref mq), (1, .ref x), (0, .ref bs)]) hx hb dL_law_2053 hl (k := 0) rfl (by decide) (by decide) rfl (fun ls hl => ?_)
  refine lv_goto (tgt := 23) hx hb dL_law_2056 (by decide) ?_
  refine lv_iload hx hb dL_law_23 (lv_at hl 0 rfl) ?_
  refine lv_aload_n hx hb dL_law_25 rfl (lv_at hl 4 rfl) ?_
  refine va_slen hx hb hX hbl hbA hS dL_law_26 ?_
  refine lv_topi (fun z_12 ez_12 => ?_)
  obtain rfl : z_12 = 6 := ez_12.trans (by decide)
  refine lv_bipush (v := 6) hx hb dL_law_27 (by decide) ?_
  refine lv_isub hx hb dL_law_29 ?_
  refine lv_topi (fun z_13 ez_13 => ?_)
  obtain rfl : z_13 = 0 := ez_13.trans (by decide)
  refine lv_icmp_gt (tgt := 2059) hx hb dL_law_30 (by decide) (fun _ => ?_) (fun c => absurd c (by decide))
  refine lv_iconst (v := 1) hx hb dL_law_2059 (by decide) ?_
  refine va_forget (fun q hq => (hAe _).mp (hS.2.2 q hq)) ?_
  refine W.widen (k := 600002) (n := 7302232) (by omega) (by omega) ?_
  exact lw_ret hx hb hr hlocks dL_law_2060

theorem dL_law_1201 : decode cL_law 1201 = .ok (.aload_n 1, 1) := by decide +kernel
theorem dL_law_1202 : decode cL_law 1202 = .ok (.aload_n 0, 1) := by decide +kernel
theorem dL_law_1203 : decode cL_law 1203 = .ok (.iload 4, 2) := by decide +kernel
theorem dL_law_1205 : decode cL_law 1205 = .ok (.iconst 1, 1) := by decide +kernel
theorem dL_law_1206 : decode cL_law 1206 = .ok (.iadd, 1) := by decide +kernel
theorem dL_law_1207 : decode cL_law 1207 = .ok (.iaload, 1) := by decide +kernel
theorem dL_law_1208 : decode cL_law 1208 = .ok (.aload_n 0, 1) := by decide +kernel
theorem dL_law_1209 : decode cL_law 1209 = .ok (.iload 4, 2) := by decide +kernel
theorem dL_law_1211 : decode cL_law 1211 = .ok (.iconst 2, 1) := by decide +kernel
theorem dL_law_1212 : decode cL_law 1212 = .ok (.iadd, 1) := by decide +kernel
theorem dL_law_1213 : decode cL_law 1213 = .ok (.iaload, 1) := by decide +kernel
theorem dL_law_1214 : decode cL_law 1214 = .ok (.aload_n 0, 1) := by decide +kernel
theorem dL_law_1215 : decode cL_law 1215 = .ok (.iload 4, 2) := by decide +kernel
theorem dL_law_1217 : decode cL_law 1217 = .ok (.iconst 3, 1) := by decide +kernel
theorem dL_law_1218 : decode cL_law 1218 = .ok (.iadd, 1) := by decide +kernel
theorem dL_law_1219 : decode cL_law 1219 = .ok (.iaload, 1) := by decide +kernel
theorem dL_law_1220 : decode cL_law 1220 = .ok (.invokevirtual 106, 3) := by decide +kernel
theorem dL_law_1223 : decode cL_law 1223 = .ok (.aload_n 2, 1) := by decide +kernel
theorem dL_law_1224 : decode cL_law 1224 = .ok (.aload_n 0, 1) := by decide +kernel
theorem dL_law_1225 : decode cL_law 1225 = .ok (.iload 4, 2) := by decide +kernel
theorem dL_law_1227 : decode cL_law 1227 = .ok (.iconst 1, 1) := by decide +kernel
theorem dL_law_1228 : decode cL_law 1228 = .ok (.iadd, 1) := by decide +kernel
theorem dL_law_1229 : decode cL_law 1229 = .ok (.iaload, 1) := by decide +kernel
theorem dL_law_1230 : decode cL_law 1230 = .ok (.aload_n 0, 1) := by decide +kernel
theorem dL_law_1231 : decode cL_law 1231 = .ok (.iload 4, 2) := by decide +kernel
theorem dL_law_1233 : decode cL_law 1233 = .ok (.iconst 2, 1) := by decide +kernel
theorem dL_law_1234 : decode cL_law 1234 = .ok (.iadd, 1) := by decide +kernel
theorem dL_law_1235 : decode cL_law 1235 = .ok (.iaload, 1) := by decide +kernel
theorem dL_law_1236 : decode cL_law 1236 = .ok (.aload_n 0, 1) := by decide +kernel
theorem dL_law_1237 : decode cL_law 1237 = .ok (.iload 4, 2) := by decide +kernel
theorem dL_law_1239 : decode cL_law 1239 = .ok (.iconst 3, 1) := by decide +kernel
theorem dL_law_1240 : decode cL_law 1240 = .ok (.iadd, 1) := by decide +kernel
theorem dL_law_1241 : decode cL_law 1241 = .ok (.iaload, 1) := by decide +kernel
theorem dL_law_1242 : decode cL_law 1242 = .ok (.invokevirtual 110, 3) := by decide +kernel
theorem dL_law_1245 : decode cL_law 1245 = .ok (.if_icmp .eq 808, 3) := by decide +kernel
set_option maxHeartbeats 4000000 in
set_option maxRecDepth 100000 in
theorem law_many (l : Launch) (hst : l.stackTraces = false) {p : Program} {e : Env} {s : State} {m : MethodId} {below : List Frame} {meth : Method} {c : Code} {bs : Nat} {xs : Nat → Int32} (C0 : lw_At p s m meth c bs 6 xs) (dC : Nat → ClassId) (dI : Nat → Nat → Nat) (A : Nat → Prop) (hAe : ∀ q, A q ↔ s.heap.size ≤ q) (xpa : Nat) (b : Nat) (xsp : Nat) (xdy : Nat) (xle : Nat) (xst : Nat) (xim : Nat) (xil : Nat) (xmo : Nat) (xom : Nat) (xwi : Nat) (bto : Nat) (bnm : Nat) (bla : Nat) (bsk : Nat) (bru : Nat) (bbo : Nat) (bdi : Nat) (bda : Nat) (bdk : Nat) (bdt : Nat) (bdp : Nat) (bno : Nat) (bcT : ClassId) (mtp : Nat) (mywords : Nat) (msk : Nat) (mln : Nat) (mlh : Nat) (mfn : Nat) (mfi : Nat) (mla : Nat) (mpn : Nat) (mbo : Nat) (mdi : Nat) (mdn : Nat) (mdo : Nat) (mdh : Nat) (mnn : Nat) (mnh : Nat) (mkn : Nat) (mpt : Nat) (mot : Nat) (mywait : Nat) (myheld : Nat) (mynames : Nat) (myvalue : Nat) (mun : Nat) (mycan : Nat) (myroot : Nat) (myoff : Nat) (mtn : Nat) (mtc : Nat) (mkh : Nat) (mkt : Nat) (mkc : Nat) (x : Nat) (mq : Nat) (o3 : Nat)  (H : Heap) (locs : List Loc) (ls : Array Slot) (hK : va_K (dC, dI) vwCl [(bcT, .int)] s) (hP : va_P (dC, dI) vwCl [(x, .inr (11, [.ref xpa, .ref b, .ref xsp, .ref xdy, .ref xle, .ref xst, .int 0, .ref xim, .ref xil, .int 0, .ref xmo, .ref xom, .ref xwi])), (b, .inr (0, [.ref bto, .ref bnm, .ref bla, .ref bsk, .ref bru, .ref bbo, .ref bdi, .ref bda, .ref bdk, .ref bdt, .ref bdp, .ref bno])), (bto, .inl (bcT, 5, .inl (fun _ => 0))), (mq, .inr (12, [.ref mtp, .int 0, .int 0, .ref mywords, .int 0, .int (-1), .int 0, .int 0, .int 0, .int 0, .int 0, .int 0, .int 0, .int 0, .int 0, .int 0, .int 0, .int 0, .int 0, .int 0, .int 0, .int 0, .int 0, .int 0, .ref msk, .int 0, .int 0, .int 0, .ref mln, .ref mlh, .ref mfn, .ref mfi, .ref mla, .ref mpn, .ref mbo, .ref mdi, .ref mdn, .ref mdo, .ref mdh, .ref mnn, .ref mnh, .ref mkn, .ref mpt, .ref mot, .long 0, .ref mywait, .ref myheld, .int 0, .int 0, .int 0, .int 0, .int 0, .int 0, .long 0, .long 0, .ref mynames, .ref myvalue, .int 0, .int 0, .int 0, .ref mun, .ref mycan, .int 0, .int 0, .int 0, .ref myroot, .ref myoff, .int 0, .ref mtn, .ref mtc, .int 0, .int 0, .int 0, .ref mkh, .ref mkt, .ref mkc]))] H) (hD : va_D A [(x, .inr (11, [.ref xpa, .ref b, .ref xsp, .ref xdy, .ref xle, .ref xst, .int 0, .ref xim, .ref xil, .int 0, .ref xmo, .ref xom, .ref xwi])), (b, .inr (0, [.ref bto, .ref bnm, .ref bla, .ref bsk, .ref bru, .ref bbo, .ref bdi, .ref bda, .ref bdk, .ref bdt, .ref bdp, .ref bno])), (bto, .inl (bcT, 5, .inl (fun _ => 0))), (mq, .inr (12, [.ref mtp, .int 0, .int 0, .ref mywords, .int 0, .int (-1), .int 0, .int 0, .int 0, .int 0, .int 0, .int 0, .int 0, .int 0, .int 0, .int 0, .int 0, .int 0, .int 0, .int 0, .int 0, .int 0, .int 0, .int 0, .ref msk, .int 0, .int 0, .int 0, .ref mln, .ref mlh, .ref mfn, .ref mfi, .ref mla, .ref mpn, .ref mbo, .ref mdi, .ref mdn, .ref mdo, .ref mdh, .ref mnn, .ref mnh, .ref mkn, .ref mpt, .ref mot, .long 0, .ref mywait, .ref myheld, .int 0, .int 0, .int 0, .int 0, .int 0, .int 0, .long 0, .long 0, .ref mynames, .ref myvalue, .int 0, .int 0, .int 0, .ref mun, .ref mycan, .int 0, .int 0, .int 0, .ref myroot, .ref myoff, .int 0, .ref mtn, .ref mtc, .int 0, .int 0, .int 0, .ref mkh, .ref mkt, .ref mkc]))]) (hS : va_S A s.heap H locs) (hl : lv_has ls 7 [(4, .int 0), (3, .ref o3), (2, .ref mq), (1, .ref x), (0, .ref bs)]) : W p l e room_1 s m #[Value.ref bs] below meth c H locs 129 248806 (lw_Z below #[Value.ref bs] s) (F0 m 1201 ls []) := by
  obtain ⟨hx, hb, hr, hml, hown, hts, hX, hbl, hlocks, hgv⟩ := id C0
  have htw : ∀ w ∈ wsL_law, w.before _ s = true := fun w h => hts w (wsL_law_in w h)
  have hown : s.vm.findClass RL = some m.cls := hown
  have hA : ∀ q : Nat, s.heap.size ≤ q → A q := fun q h => (hAe q).mpr h
  have hbA : ¬ A bs := fun h => absurd ((hAe bs).mp h) (Nat.not_le.mpr hbl)
  refine lv_aload_n hx hb dL_law_1201 rfl (lv_at hl 3 rfl) ?_
  refine lv_aload_n hx hb dL_law_1202 rfl (lv_at hl 4 rfl) ?_
  refine lv_iload hx hb dL_law_1203 (lv_at hl 0 rfl) ?_
  refine lv_iconst (v := 1) hx hb dL_law_1205 (by decide) ?_
  refine lv_iadd hx hb dL_law_1206 ?_
  refine lv_topi (fun z_1 ez_1 => ?_)
  obtain rfl : z_1 = 1 := ez_1.trans (by decide)
  refine va_sld hx hb hX hbl hbA hS (by unfold vp_in; decide) dL_law_1207 ?_
  refine lv_topi (fun z_2 ez_2 => ?_)
  obtain rfl : z_2 = xs 1 := ez_2
  refine lv_aload_n hx hb dL_law_1208 rfl (lv_at hl 4 rfl) ?_
  refine lv_iload hx hb dL_law_1209 (lv_at hl 0 rfl) ?_
  refine lv_iconst (v := 2) hx hb dL_law_1211 (by decide) ?_
  refine lv_iadd hx hb dL_law_1212 ?_
  refine lv_topi (fun z_3 ez_3 => ?_)
  obtain rfl : z_3 = 2 := ez_3.trans (by decide)
  refine va_sld hx hb hX hbl hbA hS (by unfold vp_in; decide) dL_law_1213 ?_
  refine lv_topi (fun z_4 ez_4 => ?_)
  obtain rfl : z_4 = xs 2 := ez_4
  refine lv_aload_n hx hb dL_law_1214 rfl (lv_at hl 4 rfl) ?_
  refine lv_iload hx hb dL_law_1215 (lv_at hl 0 rfl) ?_
  refine lv_iconst (v := 3) hx hb dL_law_1217 (by decide) ?_
  refine lv_iadd hx hb dL_law_1218 ?_
  refine lv_topi (fun z_5 ez_5 => ?_)
  obtain rfl : z_5 = 3 := ez_5.trans (by decide)
  refine va_sld hx hb hX hbl hbA hS (by unfold vp_in; decide) dL_law_1219 ?_
  refine lv_topi (fun z_6 ez_6 => ?_)
  obtain rfl : z_6 = xs 3 := ez_6
  have hPc := hP.sub (ws' := [(x, .inr (11, [.ref xpa, .ref b, .ref xsp, .ref xdy, .ref xle, .ref xst, .int 0, .ref xim, .ref xil, .int 0, .ref xmo, .ref xom, .ref xwi])), (b, .inr (0, [.ref bto, .ref bnm, .ref bla, .ref bsk, .ref bru, .ref bbo, .ref bdi, .ref bda, .ref bdk, .ref bdt, .ref bdp, .ref bno])), (bto, .inl (bcT, 5, .inl (fun _ => 0)))]) [0, 1, 2] rfl
  have hKc := hK.sub (tys' := [(bcT, .int)]) [0] rfl
  refine vp_callSi (W.runV (As := [.int (xs 1), .int (xs 2), .int (xs 3)]) (rest := []) ⟨hx, hb, hml, hown, htw⟩ (mx_many l dC dI x xpa xsp xdy xle xst xim xil xmo xom xwi b bto bnm bla bsk bru bbo bdi bda bdk bdt bdp bno bcT (xs 1) (xs 2) (xs 3)) (cwV 3 htw (xg_V (ck_47 _ (List.mem_of_getElem? (i := 23) rfl)) (ck_48 _ (List.mem_of_getElem? (i := 0) rfl)) (ck_48 _ (List.mem_of_getElem? (i := 1) rfl)) (ck_1 _ (List.mem_of_getElem? (i := 2) rfl)) (ck_48 _ (List.mem_of_getElem? (i := 2) rfl))) rfl rfl rfl (by decide +kernel) ⟨Nat.le_of_ble_eq_true rfl, Nat.le_of_ble_eq_true rfl⟩) ⟨fun a U g mk q => by obtain ⟨q0, qP, qK⟩ := q; exact ⟨q0, qP, va_K.moved (u := U) (U := U.calling g mk a) (Vm.Alike.refl U.vm) qK⟩, va_recv hKc hPc (ci := 11) (q0 := 0) rfl rfl, fun U hU hW => ⟨rfl, by rw [hU]; exact hPc, va_K.moved hW.alike hKc⟩⟩ rfl rfl hl.1 rfl (lv_room (Nat.le_of_ble_eq_true rfl)) dL_law_1220 ⟨Nat.le_of_ble_eq_true rfl, Nat.le_of_ble_eq_true rfl⟩) (fun r_7 hw => ?_)
  try dsimp only at hw
  obtain rfl : r_7 = (-1) := hw
  refine lv_aload_n hx hb dL_law_1223 rfl (lv_at hl 2 rfl) ?_
  refine lv_aload_n hx hb dL_law_1224 rfl (lv_at hl 4 rfl) ?_
  refine lv_iload hx hb dL_law_1225 (lv_at hl 0 rfl) ?_
  refine lv_iconst (v := 1) hx hb dL_law_1227 (by decide) ?_
  refine lv_iadd hx hb dL_law_1228 ?_
  refine lv_topi (fun z_8 ez_8 => ?_)
  obtain rfl : z_8 = 1 := ez_8.trans (by decide)
  refine va_sld hx hb hX hbl hbA hS (by unfold vp_in; decide) dL_law_1229 ?_
  refine lv_topi (fun z_9 ez_9 => ?_)
  obtain rfl : z_9 = xs 1 := ez_9
  refine lv_aload_n hx hb dL_law_1230 rfl (lv_at hl 4 rfl) ?_
  refine lv_iload hx hb dL_law_1231 (lv_at hl 0 rfl) ?_
  refine lv_iconst (v := 2) hx hb dL_law_1233 (by decide) ?_
  refine lv_iadd hx hb dL_law_1234 ?_
  refine lv_topi (fun z_10 ez_10 => ?_)
  obtain rfl : z_10 = 2 := ez_10.trans (by decide)
  refine va_sld hx hb hX hbl hbA hS (by unfold vp_in; decide) dL_law_1235 ?_
  refine lv_topi (fun z_11 ez_11 => ?_)
  obtain rfl : z_11 = xs 2 := ez_11
  refine lv_aload_n hx hb dL_law_1236 rfl (lv_at hl 4 rfl) ?_
  refine lv_iload hx hb dL_law_1237 (lv_at hl 0 rfl) ?_
  refine lv_iconst (v := 3) hx hb dL_law_1239 (by decide) ?_
  refine lv_iadd hx hb dL_law_1240 ?_
  refine lv_topi (fun z_12 ez_12 => ?_)
  obtain rfl : z_12 = 3 := ez_12.trans (by decide)
  refine va_sld hx hb hX hbl hbA hS (by unfold vp_in; decide) dL_law_1241 ?_
  refine lv_topi (fun z_13 ez_13 => ?_)
  obtain rfl : z_13 = xs 3 := ez_13
  have hPc := hP.sub (ws' := [(mq, .inr (12, [.ref mtp, .int 0, .int 0, .ref mywords, .int 0, .int (-1), .int 0, .int 0, .int 0, .int 0, .int 0, .int 0, .int 0, .int 0, .int 0, .int 0, .int 0, .int 0, .int 0, .int 0, .int 0, .int 0, .int 0, .int 0, .ref msk, .int 0, .int 0, .int 0, .ref mln, .ref mlh, .ref mfn, .ref mfi, .ref mla, .ref mpn, .ref mbo, .ref mdi, .ref mdn, .ref mdo, .ref mdh, .ref mnn, .ref mnh, .ref mkn, .ref mpt, .ref mot, .long 0, .ref mywait, .ref myheld, .int 0, .int 0, .int 0, .int 0, .int 0, .int 0, .long 0, .long 0, .ref mynames, .ref myvalue, .int 0, .int 0, .int 0, .ref mun, .ref mycan, .int 0, .int 0, .int 0, .ref myroot, .ref myoff, .int 0, .ref mtn, .ref mtc, .int 0, .int 0, .int 0, .ref mkh, .ref mkt, .ref mkc]))]) [3] rfl
  have hKc := hK.sub (tys' := []) [] rfl
  have hDc := hD.sub (ws' := [(mq, .inr (12, [.ref mtp, .int 0, .int 0, .ref mywords, .int 0, .int (-1), .int 0, .int 0, .int 0, .int 0, .int 0, .int 0, .int 0, .int 0, .int 0, .int 0, .int 0, .int 0, .int 0, .int 0, .int 0, .int 0, .int 0, .int 0, .ref msk, .int 0, .int 0, .int 0, .ref mln, .ref mlh, .ref mfn, .ref mfi, .ref mla, .ref mpn, .ref mbo, .ref mdi, .ref mdn, .ref mdo, .ref mdh, .ref mnn, .ref mnh, .ref mkn, .ref mpt, .ref mot, .long 0, .ref mywait, .ref myheld, .int 0, .int 0, .int 0, .int 0, .int 0, .int 0, .long 0, .long 0, .ref mynames, .ref myvalue, .int 0, .int 0, .int 0, .ref mun, .ref mycan, .int 0, .int 0, .int 0, .ref myroot, .ref myoff, .int 0, .ref mtn, .ref mtc, .int 0, .int 0, .int 0, .ref mkh, .ref mkt, .ref mkc]))]) [3] (by decide) rfl
  have hFc := va_free (wc := [(mq, .inr (12, [.ref mtp, .int 0, .int 0, .ref mywords, .int 0, .int (-1), .int 0, .int 0, .int 0, .int 0, .int 0, .int 0, .int 0, .int 0, .int 0, .int 0, .int 0, .int 0, .int 0, .int 0, .int 0, .int 0, .int 0, .int 0, .ref msk, .int 0, .int 0, .int 0, .ref mln, .ref mlh, .ref mfn, .ref mfi, .ref mla, .ref mpn, .ref mbo, .ref mdi, .ref mdn, .ref mdo, .ref mdh, .ref mnn, .ref mnh, .ref mkn, .ref mpt, .ref mot, .long 0, .ref mywait, .ref myheld, .int 0, .int 0, .int 0, .int 0, .int 0, .int 0, .long 0, .long 0, .ref mynames, .ref myvalue, .int 0, .int 0, .int 0, .ref mun, .ref mycan, .int 0, .int 0, .int 0, .ref myroot, .ref myoff, .int 0, .ref mtn, .ref mtc, .int 0, .int 0, .int 0, .ref mkh, .ref mkt, .ref mkc]))]) hD hS hA [3] rfl
  refine va_calli (va_runV (As := [.int (xs 1), .int (xs 2), .int (xs 3)]) (rest := [.int (-1)]) ⟨hx, hb, hml, hown, htw⟩ (mm_many l dC dI mq ([.ref mtp, .int 0, .int 0, .ref mywords, .int 0, .int (-1), .int 0, .int 0, .int 0, .int 0, .int 0, .int 0, .int 0, .int 0, .int 0, .int 0, .int 0, .int 0, .int 0, .int 0, .int 0, .int 0, .int 0, .int 0, .ref msk, .int 0, .int 0, .int 0, .ref mln, .ref mlh, .ref mfn, .ref mfi, .ref mla, .ref mpn, .ref mbo, .ref mdi, .ref mdn, .ref mdo, .ref mdh, .ref mnn, .ref mnh, .ref mkn, .ref mpt, .ref mot, .long 0, .ref mywait, .ref myheld, .int 0, .int 0, .int 0, .int 0, .int 0, .int 0, .long 0, .long 0, .ref mynames, .ref myvalue, .int 0, .int 0, .int 0, .ref mun, .ref mycan, .int 0, .int 0, .int 0, .ref myroot, .ref myoff, .int 0, .ref mtn, .ref mtc, .int 0, .int 0, .int 0, .ref mkh, .ref mkt, .ref mkc]) (xs 1) (xs 2) (xs 3) H.size rfl rfl) (cwV 3 htw (xg_V (ck_48 _ (List.mem_of_getElem? (i := 3) rfl)) (ck_48 _ (List.mem_of_getElem? (i := 4) rfl)) (ck_48 _ (List.mem_of_getElem? (i := 5) rfl)) (ck_1 _ (List.mem_of_getElem? (i := 5) rfl)) (ck_48 _ (List.mem_of_getElem? (i := 6) rfl))) rfl rfl rfl (by decide +kernel) ⟨Nat.le_of_ble_eq_true rfl, Nat.le_of_ble_eq_true rfl⟩) ⟨fun a U g mk q => by obtain ⟨q0, q1, qP, qK, qD⟩ := q; exact ⟨q0, q1, qP, va_K.moved (u := U) (U := U.calling g mk a) (Vm.Alike.refl U.vm) qK, qD⟩, va_recv hKc hPc (ci := 12) (q0 := 0) rfl rfl, fun U hU hW => ⟨rfl, by rw [hU], by rw [hU]; exact hPc, va_K.moved hW.alike hKc, hDc.weaken (fun _ _ _ _ => trivial)⟩⟩ rfl rfl hl.1 rfl (lv_room (Nat.le_of_ble_eq_true rfl)) dL_law_1242 ⟨Nat.le_of_ble_eq_true rfl, Nat.le_of_ble_eq_true rfl⟩) hS (fun q _ h => hFc q h) hFc (fun r_14 u_15 t H1 locs ht hvm hw hB hz1 hk1 hS => ?_)
  try dsimp only at hw
  have hP1 : va_P (dC, dI) vwCl [] H1 := fun k q h => by simp at h
  have hD1 : va_D (va_A [(mq, .inr (12, [.ref mtp, .int 0, .int 0, .ref mywords, .int 0, .int (-1), .int 0, .int 0, .int 0, .int 0, .int 0, .int 0, .int 0, .int 0, .int 0, .int 0, .int 0, .int 0, .int 0, .int 0, .int 0, .int 0, .int 0, .int 0, .ref msk, .int 0, .int 0, .int 0, .ref mln, .ref mlh, .ref mfn, .ref mfi, .ref mla, .ref mpn, .ref mbo, .ref mdi, .ref mdn, .ref mdo, .ref mdh, .ref mnn, .ref mnh, .ref mkn, .ref mpt, .ref mot, .long 0, .ref mywait, .ref myheld, .int 0, .int 0, .int 0, .int 0, .int 0, .int 0, .long 0, .long 0, .ref mynames, .ref myvalue, .int 0, .int 0, .int 0, .ref mun, .ref mycan, .int 0, .int 0, .int 0, .ref myroot, .ref myoff, .int 0, .ref mtn, .ref mtc, .int 0, .int 0, .int 0, .ref mkh, .ref mkt, .ref mkc]))] H.size) [] := ⟨fun i j p q h => by simp at h, fun k q h => by simp at h⟩
  obtain ⟨hP, hD⟩ := va_join (wr := [(x, .inr (11, [.ref xpa, .ref b, .ref xsp, .ref xdy, .ref xle, .ref xst, .int 0, .ref xim, .ref xil, .int 0, .ref xmo, .ref xom, .ref xwi])), (b, .inr (0, [.ref bto, .ref bnm, .ref bla, .ref bsk, .ref bru, .ref bbo, .ref bdi, .ref bda, .ref bdk, .ref bdt, .ref bdp, .ref bno])), (bto, .inl (bcT, 5, .inl (fun _ => 0)))]) (w1 := []) hP hD [3] [0, 1, 2] rfl rfl (by decide) (by decide) hk1 hFc hP1 hD1
  generalize H1 = H at hP hS ⊢
  have hP : va_P (dC, dI) vwCl [(x, .inr (11, [.ref xpa, .ref b, .ref xsp, .ref xdy, .ref xle, .ref xst, .int 0, .ref xim, .ref xil, .int 0, .ref xmo, .ref xom, .ref xwi])), (b, .inr (0, [.ref bto, .ref bnm, .ref bla, .ref bsk, .ref bru, .ref bbo, .ref bdi, .ref bda, .ref bdk, .ref bdt, .ref bdp, .ref bno])), (bto, .inl (bcT, 5, .inl (fun _ => 0)))] H := hP
  have hD : va_D A [(x, .inr (11, [.ref xpa, .ref b, .ref xsp, .ref xdy, .ref xle, .ref xst, .int 0, .ref xim, .ref xil, .int 0, .ref xmo, .ref xom, .ref xwi])), (b, .inr (0, [.ref bto, .ref bnm, .ref bla, .ref bsk, .ref bru, .ref bbo, .ref bdi, .ref bda, .ref bdk, .ref bdt, .ref bdp, .ref bno])), (bto, .inl (bcT, 5, .inl (fun _ => 0)))] := hD
  refine W.widen (k := 129) (n := 248806) (by omega) (by omega) ?_
  obtain rfl : r_14 = (-1) := hw
  refine lv_icmp_eq (tgt := 2053) hx hb dL_law_1245 (by decide) (fun _ => ?_) (fun c => absurd c (by decide))
  refine lv_iinc (v := 6) (lv' := [(4, .int 6), (3, .ref o3), (2, .ref mq), (1, .ref x), (0, .ref bs)]) hx hb dL_law_2053 hl (k := 0) rfl (by decide) (by decide) rfl (fun ls hl => ?_)
  refine lv_goto (tgt := 23) hx hb dL_law_2056 (by decide) ?_
  refine lv_iload hx hb dL_law_23 (lv_at hl 0 rfl) ?_
  refine lv_aload_n hx hb dL_law_25 rfl (lv_at hl 4 rfl) ?_
  refine va_slen hx hb hX hbl hbA hS dL_law_26 ?_
  refine lv_topi (fun z_16 ez_16 => ?_)
  obtain rfl : z_16 = 6 := ez_16.trans (by decide)
  refine lv_bipush (v := 6) hx hb dL_law_27 (by decide) ?_
  refine lv_isub hx hb dL_law_29 ?_
  refine lv_topi (fun z_17 ez_17 => ?_)
  obtain rfl : z_17 = 0 := ez_17.trans (by decide)
  refine lv_icmp_gt (tgt := 2059) hx hb dL_law_30 (by decide) (fun _ => ?_) (fun c => absurd c (by decide))
  refine lv_iconst (v := 1) hx hb dL_law_2059 (by decide) ?_
  refine va_forget (fun q hq => (hAe _).mp (hS.2.2 q hq)) ?_
  refine W.widen (k := 600002) (n := 7302232) (by omega) (by omega) ?_
  exact lw_ret hx hb hr hlocks dL_law_2060

theorem dL_law_1250 : decode cL_law 1250 = .ok (.aload_n 1, 1) := by decide +kernel
theorem dL_law_1251 : decode cL_law 1251 = .ok (.aload_n 0, 1) := by decide +kernel
theorem dL_law_1252 : decode cL_law 1252 = .ok (.iload 4, 2) := by decide +kernel
theorem dL_law_1254 : decode cL_law 1254 = .ok (.iconst 1, 1) := by decide +kernel
theorem dL_law_1255 : decode cL_law 1255 = .ok (.iadd, 1) := by decide +kernel
theorem dL_law_1256 : decode cL_law 1256 = .ok (.iaload, 1) := by decide +kernel
theorem dL_law_1257 : decode cL_law 1257 = .ok (.i2l, 1) := by decide +kernel
theorem dL_law_1258 : decode cL_law 1258 = .ok (.bipush 32, 2) := by decide +kernel
theorem dL_law_1260 : decode cL_law 1260 = .ok (.lshl, 1) := by decide +kernel
theorem dL_law_1261 : decode cL_law 1261 = .ok (.aload_n 0, 1) := by decide +kernel
theorem dL_law_1262 : decode cL_law 1262 = .ok (.iload 4, 2) := by decide +kernel
theorem dL_law_1264 : decode cL_law 1264 = .ok (.iconst 2, 1) := by decide +kernel
theorem dL_law_1265 : decode cL_law 1265 = .ok (.iadd, 1) := by decide +kernel
theorem dL_law_1266 : decode cL_law 1266 = .ok (.iaload, 1) := by decide +kernel
theorem dL_law_1267 : decode cL_law 1267 = .ok (.i2l, 1) := by decide +kernel
theorem dL_law_1268 : decode cL_law 1268 = .ok (.ldc2_w 54, 3) := by decide +kernel
theorem dL_law_1271 : decode cL_law 1271 = .ok (.land, 1) := by decide +kernel
theorem dL_law_1272 : decode cL_law 1272 = .ok (.lor, 1) := by decide +kernel
theorem dL_law_1273 : decode cL_law 1273 = .ok (.aload_n 0, 1) := by decide +kernel
theorem dL_law_1274 : decode cL_law 1274 = .ok (.iload 4, 2) := by decide +kernel
theorem dL_law_1276 : decode cL_law 1276 = .ok (.iconst 3, 1) := by decide +kernel
theorem dL_law_1277 : decode cL_law 1277 = .ok (.iadd, 1) := by decide +kernel
theorem dL_law_1278 : decode cL_law 1278 = .ok (.iaload, 1) := by decide +kernel
theorem dL_law_1279 : decode cL_law 1279 = .ok (.aload_n 0, 1) := by decide +kernel
theorem dL_law_1280 : decode cL_law 1280 = .ok (.iload 4, 2) := by decide +kernel
theorem dL_law_1282 : decode cL_law 1282 = .ok (.iconst 4, 1) := by decide +kernel
theorem dL_law_1283 : decode cL_law 1283 = .ok (.iadd, 1) := by decide +kernel
theorem dL_law_1284 : decode cL_law 1284 = .ok (.iaload, 1) := by decide +kernel
theorem dL_law_1285 : decode cL_law 1285 = .ok (.aload_n 0, 1) := by decide +kernel
theorem dL_law_1286 : decode cL_law 1286 = .ok (.iload 4, 2) := by decide +kernel
theorem dL_law_1288 : decode cL_law 1288 = .ok (.iconst 5, 1) := by decide +kernel
theorem dL_law_1289 : decode cL_law 1289 = .ok (.iadd, 1) := by decide +kernel
theorem dL_law_1290 : decode cL_law 1290 = .ok (.iaload, 1) := by decide +kernel
theorem dL_law_1291 : decode cL_law 1291 = .ok (.invokevirtual 111, 3) := by decide +kernel
theorem dL_law_1294 : decode cL_law 1294 = .ok (.aload_n 2, 1) := by decide +kernel
theorem dL_law_1295 : decode cL_law 1295 = .ok (.aload_n 0, 1) := by decide +kernel
theorem dL_law_1296 : decode cL_law 1296 = .ok (.iload 4, 2) := by decide +kernel
theorem dL_law_1298 : decode cL_law 1298 = .ok (.iconst 1, 1) := by decide +kernel
theorem dL_law_1299 : decode cL_law 1299 = .ok (.iadd, 1) := by decide +kernel
theorem dL_law_1300 : decode cL_law 1300 = .ok (.iaload, 1) := by decide +kernel
theorem dL_law_1301 : decode cL_law 1301 = .ok (.i2l, 1) := by decide +kernel
theorem dL_law_1302 : decode cL_law 1302 = .ok (.bipush 32, 2) := by decide +kernel
theorem dL_law_1304 : decode cL_law 1304 = .ok (.lshl, 1) := by decide +kernel
theorem dL_law_1305 : decode cL_law 1305 = .ok (.aload_n 0, 1) := by decide +kernel
theorem dL_law_1306 : decode cL_law 1306 = .ok (.iload 4, 2) := by decide +kernel
theorem dL_law_1308 : decode cL_law 1308 = .ok (.iconst 2, 1) := by decide +kernel
theorem dL_law_1309 : decode cL_law 1309 = .ok (.iadd, 1) := by decide +kernel
theorem dL_law_1310 : decode cL_law 1310 = .ok (.iaload, 1) := by decide +kernel
theorem dL_law_1311 : decode cL_law 1311 = .ok (.i2l, 1) := by decide +kernel
theorem dL_law_1312 : decode cL_law 1312 = .ok (.ldc2_w 54, 3) := by decide +kernel
theorem dL_law_1315 : decode cL_law 1315 = .ok (.land, 1) := by decide +kernel
theorem dL_law_1316 : decode cL_law 1316 = .ok (.lor, 1) := by decide +kernel
theorem dL_law_1317 : decode cL_law 1317 = .ok (.aload_n 0, 1) := by decide +kernel
theorem dL_law_1318 : decode cL_law 1318 = .ok (.iload 4, 2) := by decide +kernel
theorem dL_law_1320 : decode cL_law 1320 = .ok (.iconst 3, 1) := by decide +kernel
theorem dL_law_1321 : decode cL_law 1321 = .ok (.iadd, 1) := by decide +kernel
theorem dL_law_1322 : decode cL_law 1322 = .ok (.iaload, 1) := by decide +kernel
theorem dL_law_1323 : decode cL_law 1323 = .ok (.aload_n 0, 1) := by decide +kernel
theorem dL_law_1324 : decode cL_law 1324 = .ok (.iload 4, 2) := by decide +kernel
theorem dL_law_1326 : decode cL_law 1326 = .ok (.iconst 4, 1) := by decide +kernel
theorem dL_law_1327 : decode cL_law 1327 = .ok (.iadd, 1) := by decide +kernel
theorem dL_law_1328 : decode cL_law 1328 = .ok (.iaload, 1) := by decide +kernel
theorem dL_law_1329 : decode cL_law 1329 = .ok (.aload_n 0, 1) := by decide +kernel
theorem dL_law_1330 : decode cL_law 1330 = .ok (.iload 4, 2) := by decide +kernel
theorem dL_law_1332 : decode cL_law 1332 = .ok (.iconst 5, 1) := by decide +kernel
theorem dL_law_1333 : decode cL_law 1333 = .ok (.iadd, 1) := by decide +kernel
theorem dL_law_1334 : decode cL_law 1334 = .ok (.iaload, 1) := by decide +kernel
theorem dL_law_1335 : decode cL_law 1335 = .ok (.invokevirtual 115, 3) := by decide +kernel
theorem dL_law_1338 : decode cL_law 1338 = .ok (.lcmp, 1) := by decide +kernel
theorem dL_law_1339 : decode cL_law 1339 = .ok (.ifCond .eq 714, 3) := by decide +kernel
set_option maxHeartbeats 4000000 in
set_option maxRecDepth 100000 in
theorem law_next (l : Launch) (hst : l.stackTraces = false) {p : Program} {e : Env} {s : State} {m : MethodId} {below : List Frame} {meth : Method} {c : Code} {bs : Nat} {xs : Nat → Int32} (C0 : lw_At p s m meth c bs 6 xs) (dC : Nat → ClassId) (dI : Nat → Nat → Nat) (A : Nat → Prop) (hAe : ∀ q, A q ↔ s.heap.size ≤ q) (xpa : Nat) (b : Nat) (xsp : Nat) (xdy : Nat) (xle : Nat) (xst : Nat) (xim : Nat) (xil : Nat) (xmo : Nat) (xom : Nat) (xwi : Nat) (bto : Nat) (bnm : Nat) (bla : Nat) (bsk : Nat) (bru : Nat) (bbo : Nat) (bdi : Nat) (bda : Nat) (bdk : Nat) (bdt : Nat) (bdp : Nat) (bno : Nat) (bcT : ClassId) (mtp : Nat) (mywords : Nat) (msk : Nat) (mln : Nat) (mlh : Nat) (mfn : Nat) (mfi : Nat) (mla : Nat) (mpn : Nat) (mbo : Nat) (mdi : Nat) (mdn : Nat) (mdo : Nat) (mdh : Nat) (mnn : Nat) (mnh : Nat) (mkn : Nat) (mpt : Nat) (mot : Nat) (mywait : Nat) (myheld : Nat) (mynames : Nat) (myvalue : Nat) (mun : Nat) (mycan : Nat) (myroot : Nat) (myoff : Nat) (mtn : Nat) (mtc : Nat) (mkh : Nat) (mkt : Nat) (mkc : Nat) (cmsk : ClassId) (gmsk : Nat → Int32) (x : Nat) (mq : Nat) (o3 : Nat) (hs0 : gmsk 0 = 7) (hs1 : gmsk 1 = 0) (hs2 : gmsk 2 = 59) (hs3 : gmsk 3 = 2) (hs4 : gmsk 4 = 0) (hs5 : gmsk 5 = 1461) (hs6 : gmsk 6 = 4) (H : Heap) (locs : List Loc) (ls : Array Slot) (hK : va_K (dC, dI) vwCl [(bcT, .int), (cmsk, .int)] s) (hP : va_P (dC, dI) vwCl [(x, .inr (11, [.ref xpa, .ref b, .ref xsp, .ref xdy, .ref xle, .ref xst, .int 0, .ref xim, .ref xil, .int 0, .ref xmo, .ref xom, .ref xwi])), (b, .inr (0, [.ref bto, .ref bnm, .ref bla, .ref bsk, .ref bru, .ref bbo, .ref bdi, .ref bda, .ref bdk, .ref bdt, .ref bdp, .ref bno])), (bto, .inl (bcT, 5, .inl (fun _ => 0))), (bsk, .inr (9, [.int 7, .int 0, .int 59, .int 2, .int 0, .int 1461, .int 4])), (xwi, .inr (10, [.int 0, .int 0, .int 0, .int 0, .int 0])), (xmo, .inr (4, [.null, .long 0, .long 0, .long 0, .long 0])), (mq, .inr (12, [.ref mtp, .int 0, .int 0, .ref mywords, .int 0, .int (-1), .int 0, .int 0, .int 0, .int 0, .int 0, .int 0, .int 0, .int 0, .int 0, .int 0, .int 0, .int 0, .int 0, .int 0, .int 0, .int 0, .int 0, .int 0, .ref msk, .int 0, .int 0, .int 0, .ref mln, .ref mlh, .ref mfn, .ref mfi, .ref mla, .ref mpn, .ref mbo, .ref mdi, .ref mdn, .ref mdo, .ref mdh, .ref mnn, .ref mnh, .ref mkn, .ref mpt, .ref mot, .long 0, .ref mywait, .ref myheld, .int 0, .int 0, .int 0, .int 0, .int 0, .int 0, .long 0, .long 0, .ref mynames, .ref myvalue, .int 0, .int 0, .int 0, .ref mun, .ref mycan, .int 0, .int 0, .int 0, .ref myroot, .ref myoff, .int 0, .ref mtn, .ref mtc, .int 0, .int 0, .int 0, .ref mkh, .ref mkt, .ref mkc])), (msk, .inl (cmsk, 14, .inl gmsk))] H) (hD : va_D A [(x, .inr (11, [.ref xpa, .ref b, .ref xsp, .ref xdy, .ref xle, .ref xst, .int 0, .ref xim, .ref xil, .int 0, .ref xmo, .ref xom, .ref xwi])), (b, .inr (0, [.ref bto, .ref bnm, .ref bla, .ref bsk, .ref bru, .ref bbo, .ref bdi, .ref bda, .ref bdk, .ref bdt, .ref bdp, .ref bno])), (bto, .inl (bcT, 5, .inl (fun _ => 0))), (bsk, .inr (9, [.int 7, .int 0, .int 59, .int 2, .int 0, .int 1461, .int 4])), (xwi, .inr (10, [.int 0, .int 0, .int 0, .int 0, .int 0])), (xmo, .inr (4, [.null, .long 0, .long 0, .long 0, .long 0])), (mq, .inr (12, [.ref mtp, .int 0, .int 0, .ref mywords, .int 0, .int (-1), .int 0, .int 0, .int 0, .int 0, .int 0, .int 0, .int 0, .int 0, .int 0, .int 0, .int 0, .int 0, .int 0, .int 0, .int 0, .int 0, .int 0, .int 0, .ref msk, .int 0, .int 0, .int 0, .ref mln, .ref mlh, .ref mfn, .ref mfi, .ref mla, .ref mpn, .ref mbo, .ref mdi, .ref mdn, .ref mdo, .ref mdh, .ref mnn, .ref mnh, .ref mkn, .ref mpt, .ref mot, .long 0, .ref mywait, .ref myheld, .int 0, .int 0, .int 0, .int 0, .int 0, .int 0, .long 0, .long 0, .ref mynames, .ref myvalue, .int 0, .int 0, .int 0, .ref mun, .ref mycan, .int 0, .int 0, .int 0, .ref myroot, .ref myoff, .int 0, .ref mtn, .ref mtc, .int 0, .int 0, .int 0, .ref mkh, .ref mkt, .ref mkc])), (msk, .inl (cmsk, 14, .inl gmsk))]) (hS : va_S A s.heap H locs) (hl : lv_has ls 7 [(4, .int 0), (3, .ref o3), (2, .ref mq), (1, .ref x), (0, .ref bs)]) : W p l e room_1 s m #[Value.ref bs] below meth c H locs 129 248806 (lw_Z below #[Value.ref bs] s) (F0 m 1250 ls []) := by
  obtain ⟨hx, hb, hr, hml, hown, hts, hX, hbl, hlocks, hgv⟩ := id C0
  have htw : ∀ w ∈ wsL_law, w.before _ s = true := fun w h => hts w (wsL_law_in w h)
  have hown : s.vm.findClass RL = some m.cls := hown
  have hA : ∀ q : Nat, s.heap.size ≤ q → A q := fun q h => (hAe q).mpr h
  have hbA : ¬ A bs := fun h => absurd ((hAe bs).mp h) (Nat.not_le.mpr hbl)
  refine lv_aload_n hx hb dL_law_1250 rfl (lv_at hl 3 rfl) ?_
  refine lv_aload_n hx hb dL_law_1251 rfl (lv_at hl 4 rfl) ?_
  refine lv_iload hx hb dL_law_1252 (lv_at hl 0 rfl) ?_
  refine lv_iconst (v := 1) hx hb dL_law_1254 (by decide) ?_
  refine lv_iadd hx hb dL_law_1255 ?_
  refine lv_topi (fun z_1 ez_1 => ?_)
  obtain rfl : z_1 = 1 := ez_1.trans (by decide)
  refine va_sld hx hb hX hbl hbA hS (by unfold vp_in; decide) dL_law_1256 ?_
  refine lv_topi (fun z_2 ez_2 => ?_)
  obtain rfl : z_2 = xs 1 := ez_2
  refine lv_i2l (v := (xs 1).toInt64) hx hb dL_law_1257 rfl ?_
  refine lv_bipush (v := 32) hx hb dL_law_1258 (by decide) ?_
  refine lv_lshl (v := (((xs 1).toInt64) <<< ((32 : Int32).toInt64 &&& 63))) hx hb dL_law_1260 rfl ?_
  refine lv_aload_n hx hb dL_law_1261 rfl (lv_at hl 4 rfl) ?_
  refine lv_iload hx hb dL_law_1262 (lv_at hl 0 rfl) ?_
  refine lv_iconst (v := 2) hx hb dL_law_1264 (by decide) ?_
  refine lv_iadd hx hb dL_law_1265 ?_
  refine lv_topi (fun z_3 ez_3 => ?_)
  obtain rfl : z_3 = 2 := ez_3.trans (by decide)
  refine va_sld hx hb hX hbl hbA hS (by unfold vp_in; decide) dL_law_1266 ?_
  refine lv_topi (fun z_4 ez_4 => ?_)
  obtain rfl : z_4 = xs 2 := ez_4
  refine lv_i2l (v := (xs 2).toInt64) hx hb dL_law_1267 rfl ?_
  refine lv_ldc2 (v := 4294967295) hx hb hown (htw _ (ck_1 _ (List.mem_of_getElem? (i := 7) rfl))) dL_law_1268 ?_
  refine lv_land hx hb dL_law_1271 ?_
  refine lv_lor hx hb dL_law_1272 ?_
  refine lv_aload_n hx hb dL_law_1273 rfl (lv_at hl 4 rfl) ?_
  refine lv_iload hx hb dL_law_1274 (lv_at hl 0 rfl) ?_
  refine lv_iconst (v := 3) hx hb dL_law_1276 (by decide) ?_
  refine lv_iadd hx hb dL_law_1277 ?_
  refine lv_topi (fun z_5 ez_5 => ?_)
  obtain rfl : z_5 = 3 := ez_5.trans (by decide)
  refine va_sld hx hb hX hbl hbA hS (by unfold vp_in; decide) dL_law_1278 ?_
  refine lv_topi (fun z_6 ez_6 => ?_)
  obtain rfl : z_6 = xs 3 := ez_6
  refine lv_aload_n hx hb dL_law_1279 rfl (lv_at hl 4 rfl) ?_
  refine lv_iload hx hb dL_law_1280 (lv_at hl 0 rfl) ?_
  refine lv_iconst (v := 4) hx hb dL_law_1282 (by decide) ?_
  refine lv_iadd hx hb dL_law_1283 ?_
  refine lv_topi (fun z_7 ez_7 => ?_)
  obtain rfl : z_7 = 4 := ez_7.trans (by decide)
  refine va_sld hx hb hX hbl hbA hS (by unfold vp_in; decide) dL_law_1284 ?_
  refine lv_topi (fun z_8 ez_8 => ?_)
  obtain rfl : z_8 = xs 4 := ez_8
  refine lv_aload_n hx hb dL_law_1285 rfl (lv_at hl 4 rfl) ?_
  refine lv_iload hx hb dL_law_1286 (lv_at hl 0 rfl) ?_
  refine lv_iconst (v := 5) hx hb dL_law_1288 (by decide) ?_
  refine lv_iadd hx hb dL_law_1289 ?_
  refine lv_topi (fun z_9 ez_9 => ?_)
  obtain rfl : z_9 = 5 := ez_9.trans (by decide)
  refine va_sld hx hb hX hbl hbA hS (by unfold vp_in; decide) dL_law_1290 ?_
  refine lv_topi (fun z_10 ez_10 => ?_)
  obtain rfl : z_10 = xs 5 := ez_10
  have hPc := hP.sub (ws' := [(x, .inr (11, [.ref xpa, .ref b, .ref xsp, .ref xdy, .ref xle, .ref xst, .int 0, .ref xim, .ref xil, .int 0, .ref xmo, .ref xom, .ref xwi])), (b, .inr (0, [.ref bto, .ref bnm, .ref bla, .ref bsk, .ref bru, .ref bbo, .ref bdi, .ref bda, .ref bdk, .ref bdt, .ref bdp, .ref bno])), (bto, .inl (bcT, 5, .inl (fun _ => 0))), (bsk, .inr (9, [.int 7, .int 0, .int 59, .int 2, .int 0, .int 1461, .int 4])), (xwi, .inr (10, [.int 0, .int 0, .int 0, .int 0, .int 0])), (xmo, .inr (4, [.null, .long 0, .long 0, .long 0, .long 0]))]) [0, 1, 2, 3, 4, 5] rfl
  have hKc := hK.sub (tys' := [(bcT, .int)]) [0] rfl
  have hDc := hD.sub (ws' := [(x, .inr (11, [.ref xpa, .ref b, .ref xsp, .ref xdy, .ref xle, .ref xst, .int 0, .ref xim, .ref xil, .int 0, .ref xmo, .ref xom, .ref xwi])), (b, .inr (0, [.ref bto, .ref bnm, .ref bla, .ref bsk, .ref bru, .ref bbo, .ref bdi, .ref bda, .ref bdk, .ref bdt, .ref bdp, .ref bno])), (bto, .inl (bcT, 5, .inl (fun _ => 0))), (bsk, .inr (9, [.int 7, .int 0, .int 59, .int 2, .int 0, .int 1461, .int 4])), (xwi, .inr (10, [.int 0, .int 0, .int 0, .int 0, .int 0])), (xmo, .inr (4, [.null, .long 0, .long 0, .long 0, .long 0]))]) [0, 1, 2, 3, 4, 5] (by decide) rfl
  have hFc := va_free (wc := [(x, .inr (11, [.ref xpa, .ref b, .ref xsp, .ref xdy, .ref xle, .ref xst, .int 0, .ref xim, .ref xil, .int 0, .ref xmo, .ref xom, .ref xwi])), (b, .inr (0, [.ref bto, .ref bnm, .ref bla, .ref bsk, .ref bru, .ref bbo, .ref bdi, .ref bda, .ref bdk, .ref bdt, .ref bdp, .ref bno])), (bto, .inl (bcT, 5, .inl (fun _ => 0))), (bsk, .inr (9, [.int 7, .int 0, .int 59, .int 2, .int 0, .int 1461, .int 4])), (xwi, .inr (10, [.int 0, .int 0, .int 0, .int 0, .int 0])), (xmo, .inr (4, [.null, .long 0, .long 0, .long 0, .long 0]))]) hD hS hA [0, 1, 2, 3, 4, 5] rfl
  refine va_calll (va_runV (As := [.long ((((xs 1).toInt64) <<< ((32 : Int32).toInt64 &&& 63)) ||| (((xs 2).toInt64) &&& 4294967295)), .int (xs 3), .int (xs 4), .int (xs 5)]) (rest := []) ⟨hx, hb, hml, hown, htw⟩ (mx_next l dC dI x xpa xsp xdy xle xst xim xil xmo xom xwi b bto bnm bla bsk bru bbo bdi bda bdk bdt bdp bno bcT ((((xs 1).toInt64) <<< ((32 : Int32).toInt64 &&& 63)) ||| (((xs 2).toInt64) &&& 4294967295)) (xs 3) (xs 4) (xs 5) H.size) (cwV 4 htw (xg_V (ck_48 _ (List.mem_of_getElem? (i := 8) rfl)) (ck_48 _ (List.mem_of_getElem? (i := 9) rfl)) (ck_48 _ (List.mem_of_getElem? (i := 10) rfl)) (ck_1 _ (List.mem_of_getElem? (i := 2) rfl)) (ck_48 _ (List.mem_of_getElem? (i := 11) rfl))) rfl rfl rfl (by decide +kernel) ⟨Nat.le_of_ble_eq_true rfl, Nat.le_of_ble_eq_true rfl⟩) ⟨fun a U g mk q => by obtain ⟨q0, q1, qP, qK, qD⟩ := q; exact ⟨q0, q1, qP, va_K.moved (u := U) (U := U.calling g mk a) (Vm.Alike.refl U.vm) qK, qD⟩, va_recv hKc hPc (ci := 11) (q0 := 0) rfl rfl, fun U hU hW => ⟨rfl, by rw [hU], by rw [hU]; exact hPc, va_K.moved hW.alike hKc, hDc.weaken (fun _ _ _ _ => trivial)⟩⟩ rfl rfl hl.1 rfl (lv_room (Nat.le_of_ble_eq_true rfl)) dL_law_1291 ⟨Nat.le_of_ble_eq_true rfl, Nat.le_of_ble_eq_true rfl⟩) hS (fun q _ h => hFc q h) hFc (fun r_11 u_12 t H1 locs ht hvm hw hB hz1 hk1 hS => ?_)
  try dsimp only at hw
  have hP1 : va_P (dC, dI) vwCl [] H1 := fun k q h => by simp at h
  have hD1 : va_D (va_A [(x, .inr (11, [.ref xpa, .ref b, .ref xsp, .ref xdy, .ref xle, .ref xst, .int 0, .ref xim, .ref xil, .int 0, .ref xmo, .ref xom, .ref xwi])), (b, .inr (0, [.ref bto, .ref bnm, .ref bla, .ref bsk, .ref bru, .ref bbo, .ref bdi, .ref bda, .ref bdk, .ref bdt, .ref bdp, .ref bno])), (bto, .inl (bcT, 5, .inl (fun _ => 0))), (bsk, .inr (9, [.int 7, .int 0, .int 59, .int 2, .int 0, .int 1461, .int 4])), (xwi, .inr (10, [.int 0, .int 0, .int 0, .int 0, .int 0])), (xmo, .inr (4, [.null, .long 0, .long 0, .long 0, .long 0]))] H.size) [] := ⟨fun i j p q h => by simp at h, fun k q h => by simp at h⟩
  obtain ⟨hP, hD⟩ := va_join (wr := [(mq, .inr (12, [.ref mtp, .int 0, .int 0, .ref mywords, .int 0, .int (-1), .int 0, .int 0, .int 0, .int 0, .int 0, .int 0, .int 0, .int 0, .int 0, .int 0, .int 0, .int 0, .int 0, .int 0, .int 0, .int 0, .int 0, .int 0, .ref msk, .int 0, .int 0, .int 0, .ref mln, .ref mlh, .ref mfn, .ref mfi, .ref mla, .ref mpn, .ref mbo, .ref mdi, .ref mdn, .ref mdo, .ref mdh, .ref mnn, .ref mnh, .ref mkn, .ref mpt, .ref mot, .long 0, .ref mywait, .ref myheld, .int 0, .int 0, .int 0, .int 0, .int 0, .int 0, .long 0, .long 0, .ref mynames, .ref myvalue, .int 0, .int 0, .int 0, .ref mun, .ref mycan, .int 0, .int 0, .int 0, .ref myroot, .ref myoff, .int 0, .ref mtn, .ref mtc, .int 0, .int 0, .int 0, .ref mkh, .ref mkt, .ref mkc])), (msk, .inl (cmsk, 14, .inl gmsk))]) (w1 := []) hP hD [0, 1, 2, 3, 4, 5] [6, 7] rfl rfl (by decide) (by decide) hk1 hFc hP1 hD1
  generalize H1 = H at hP hS ⊢
  have hP : va_P (dC, dI) vwCl [(mq, .inr (12, [.ref mtp, .int 0, .int 0, .ref mywords, .int 0, .int (-1), .int 0, .int 0, .int 0, .int 0, .int 0, .int 0, .int 0, .int 0, .int 0, .int 0, .int 0, .int 0, .int 0, .int 0, .int 0, .int 0, .int 0, .int 0, .ref msk, .int 0, .int 0, .int 0, .ref mln, .ref mlh, .ref mfn, .ref mfi, .ref mla, .ref mpn, .ref mbo, .ref mdi, .ref mdn, .ref mdo, .ref mdh, .ref mnn, .ref mnh, .ref mkn, .ref mpt, .ref mot, .long 0, .ref mywait, .ref myheld, .int 0, .int 0, .int 0, .int 0, .int 0, .int 0, .long 0, .long 0, .ref mynames, .ref myvalue, .int 0, .int 0, .int 0, .ref mun, .ref mycan, .int 0, .int 0, .int 0, .ref myroot, .ref myoff, .int 0, .ref mtn, .ref mtc, .int 0, .int 0, .int 0, .ref mkh, .ref mkt, .ref mkc])), (msk, .inl (cmsk, 14, .inl gmsk))] H := hP
  have hD : va_D A [(mq, .inr (12, [.ref mtp, .int 0, .int 0, .ref mywords, .int 0, .int (-1), .int 0, .int 0, .int 0, .int 0, .int 0, .int 0, .int 0, .int 0, .int 0, .int 0, .int 0, .int 0, .int 0, .int 0, .int 0, .int 0, .int 0, .int 0, .ref msk, .int 0, .int 0, .int 0, .ref mln, .ref mlh, .ref mfn, .ref mfi, .ref mla, .ref mpn, .ref mbo, .ref mdi, .ref mdn, .ref mdo, .ref mdh, .ref mnn, .ref mnh, .ref mkn, .ref mpt, .ref mot, .long 0, .ref mywait, .ref myheld, .int 0, .int 0, .int 0, .int 0, .int 0, .int 0, .long 0, .long 0, .ref mynames, .ref myvalue, .int 0, .int 0, .int 0, .ref mun, .ref mycan, .int 0, .int 0, .int 0, .ref myroot, .ref myoff, .int 0, .ref mtn, .ref mtc, .int 0, .int 0, .int 0, .ref mkh, .ref mkt, .ref mkc])), (msk, .inl (cmsk, 14, .inl gmsk))] := hD
  refine W.widen (k := 129) (n := 248806) (by omega) (by omega) ?_
  obtain rfl : r_11 = xr_next ((((xs 1).toInt64) <<< ((32 : Int32).toInt64 &&& 63)) ||| (((xs 2).toInt64) &&& 4294967295)) (xs 3) (xs 4) (xs 5) := hw
  refine lv_aload_n hx hb dL_law_1294 rfl (lv_at hl 2 rfl) ?_
  refine lv_aload_n hx hb dL_law_1295 rfl (lv_at hl 4 rfl) ?_
  refine lv_iload hx hb dL_law_1296 (lv_at hl 0 rfl) ?_
  refine lv_iconst (v := 1) hx hb dL_law_1298 (by decide) ?_
  refine lv_iadd hx hb dL_law_1299 ?_
  refine lv_topi (fun z_13 ez_13 => ?_)
  obtain rfl : z_13 = 1 := ez_13.trans (by decide)
  refine va_sld hx hb hX hbl hbA hS (by unfold vp_in; decide) dL_law_1300 ?_
  refine lv_topi (fun z_14 ez_14 => ?_)
  obtain rfl : z_14 = xs 1 := ez_14
  refine lv_i2l (v := (xs 1).toInt64) hx hb dL_law_1301 rfl ?_
  refine lv_bipush (v := 32) hx hb dL_law_1302 (by decide) ?_
  refine lv_lshl (v := (((xs 1).toInt64) <<< ((32 : Int32).toInt64 &&& 63))) hx hb dL_law_1304 rfl ?_
  refine lv_aload_n hx hb dL_law_1305 rfl (lv_at hl 4 rfl) ?_
  refine lv_iload hx hb dL_law_1306 (lv_at hl 0 rfl) ?_
  refine lv_iconst (v := 2) hx hb dL_law_1308 (by decide) ?_
  refine lv_iadd hx hb dL_law_1309 ?_
  refine lv_topi (fun z_15 ez_15 => ?_)
  obtain rfl : z_15 = 2 := ez_15.trans (by decide)
  refine va_sld hx hb hX hbl hbA hS (by unfold vp_in; decide) dL_law_1310 ?_
  refine lv_topi (fun z_16 ez_16 => ?_)
  obtain rfl : z_16 = xs 2 := ez_16
  refine lv_i2l (v := (xs 2).toInt64) hx hb dL_law_1311 rfl ?_
  refine lv_ldc2 (v := 4294967295) hx hb hown (htw _ (ck_1 _ (List.mem_of_getElem? (i := 7) rfl))) dL_law_1312 ?_
  refine lv_land hx hb dL_law_1315 ?_
  refine lv_lor hx hb dL_law_1316 ?_
  refine lv_aload_n hx hb dL_law_1317 rfl (lv_at hl 4 rfl) ?_
  refine lv_iload hx hb dL_law_1318 (lv_at hl 0 rfl) ?_
  refine lv_iconst (v := 3) hx hb dL_law_1320 (by decide) ?_
  refine lv_iadd hx hb dL_law_1321 ?_
  refine lv_topi (fun z_17 ez_17 => ?_)
  obtain rfl : z_17 = 3 := ez_17.trans (by decide)
  refine va_sld hx hb hX hbl hbA hS (by unfold vp_in; decide) dL_law_1322 ?_
  refine lv_topi (fun z_18 ez_18 => ?_)
  obtain rfl : z_18 = xs 3 := ez_18
  refine lv_aload_n hx hb dL_law_1323 rfl (lv_at hl 4 rfl) ?_
  refine lv_iload hx hb dL_law_1324 (lv_at hl 0 rfl) ?_
  refine lv_iconst (v := 4) hx hb dL_law_1326 (by decide) ?_
  refine lv_iadd hx hb dL_law_1327 ?_
  refine lv_topi (fun z_19 ez_19 => ?_)
  obtain rfl : z_19 = 4 := ez_19.trans (by decide)
  refine va_sld hx hb hX hbl hbA hS (by unfold vp_in; decide) dL_law_1328 ?_
  refine lv_topi (fun z_20 ez_20 => ?_)
  obtain rfl : z_20 = xs 4 := ez_20
  refine lv_aload_n hx hb dL_law_1329 rfl (lv_at hl 4 rfl) ?_
  refine lv_iload hx hb dL_law_1330 (lv_at hl 0 rfl) ?_
  refine lv_iconst (v := 5) hx hb dL_law_1332 (by decide) ?_
  refine lv_iadd hx hb dL_law_1333 ?_
  refine lv_topi (fun z_21 ez_21 => ?_)
  obtain rfl : z_21 = 5 := ez_21.trans (by decide)
  refine va_sld hx hb hX hbl hbA hS (by unfold vp_in; decide) dL_law_1334 ?_
  refine lv_topi (fun z_22 ez_22 => ?_)
  obtain rfl : z_22 = xs 5 := ez_22
  have hPc := hP.sub (ws' := [(mq, .inr (12, [.ref mtp, .int 0, .int 0, .ref mywords, .int 0, .int (-1), .int 0, .int 0, .int 0, .int 0, .int 0, .int 0, .int 0, .int 0, .int 0, .int 0, .int 0, .int 0, .int 0, .int 0, .int 0, .int 0, .int 0, .int 0, .ref msk, .int 0, .int 0, .int 0, .ref mln, .ref mlh, .ref mfn, .ref mfi, .ref mla, .ref mpn, .ref mbo, .ref mdi, .ref mdn, .ref mdo, .ref mdh, .ref mnn, .ref mnh, .ref mkn, .ref mpt, .ref mot, .long 0, .ref mywait, .ref myheld, .int 0, .int 0, .int 0, .int 0, .int 0, .int 0, .long 0, .long 0, .ref mynames, .ref myvalue, .int 0, .int 0, .int 0, .ref mun, .ref mycan, .int 0, .int 0, .int 0, .ref myroot, .ref myoff, .int 0, .ref mtn, .ref mtc, .int 0, .int 0, .int 0, .ref mkh, .ref mkt, .ref mkc])), (msk, .inl (cmsk, 14, .inl gmsk))]) [0, 1] rfl
  have hKc := hK.sub (tys' := [(cmsk, .int)]) [1] rfl
  have hDc := hD.sub (ws' := [(mq, .inr (12, [.ref mtp, .int 0, .int 0, .ref mywords, .int 0, .int (-1), .int 0, .int 0, .int 0, .int 0, .int 0, .int 0, .int 0, .int 0, .int 0, .int 0, .int 0, .int 0, .int 0, .int 0, .int 0, .int 0, .int 0, .int 0, .ref msk, .int 0, .int 0, .int 0, .ref mln, .ref mlh, .ref mfn, .ref mfi, .ref mla, .ref mpn, .ref mbo, .ref mdi, .ref mdn, .ref mdo, .ref mdh, .ref mnn, .ref mnh, .ref mkn, .ref mpt, .ref mot, .long 0, .ref mywait, .ref myheld, .int 0, .int 0, .int 0, .int 0, .int 0, .int 0, .long 0, .long 0, .ref mynames, .ref myvalue, .int 0, .int 0, .int 0, .ref mun, .ref mycan, .int 0, .int 0, .int 0, .ref myroot, .ref myoff, .int 0, .ref mtn, .ref mtc, .int 0, .int 0, .int 0, .ref mkh, .ref mkt, .ref mkc])), (msk, .inl (cmsk, 14, .inl gmsk))]) [0, 1] (by decide) rfl
  have hFc := va_free (wc := [(mq, .inr (12, [.ref mtp, .int 0, .int 0, .ref mywords, .int 0, .int (-1), .int 0, .int 0, .int 0, .int 0, .int 0, .int 0, .int 0, .int 0, .int 0, .int 0, .int 0, .int 0, .int 0, .int 0, .int 0, .int 0, .int 0, .int 0, .ref msk, .int 0, .int 0, .int 0, .ref mln, .ref mlh, .ref mfn, .ref mfi, .ref mla, .ref mpn, .ref mbo, .ref mdi, .ref mdn, .ref mdo, .ref mdh, .ref mnn, .ref mnh, .ref mkn, .ref mpt, .ref mot, .long 0, .ref mywait, .ref myheld, .int 0, .int 0, .int 0, .int 0, .int 0, .int 0, .long 0, .long 0, .ref mynames, .ref myvalue, .int 0, .int 0, .int 0, .ref mun, .ref mycan, .int 0, .int 0, .int 0, .ref myroot, .ref myoff, .int 0, .ref mtn, .ref mtc, .int 0, .int 0, .int 0, .ref mkh, .ref mkt, .ref mkc])), (msk, .inl (cmsk, 14, .inl gmsk))]) hD hS hA [0, 1] rfl
  refine va_calll (va_runV (As := [.long ((((xs 1).toInt64) <<< ((32 : Int32).toInt64 &&& 63)) ||| (((xs 2).toInt64) &&& 4294967295)), .int (xs 3), .int (xs 4), .int (xs 5)]) (rest := [.long (xr_next ((((xs 1).toInt64) <<< ((32 : Int32).toInt64 &&& 63)) ||| (((xs 2).toInt64) &&& 4294967295)) (xs 3) (xs 4) (xs 5))]) ⟨hx, hb, hml, hown, htw⟩ (mm_next l dC dI mq ([.ref mtp, .int 0, .int 0, .ref mywords, .int 0, .int (-1), .int 0, .int 0, .int 0, .int 0, .int 0, .int 0, .int 0, .int 0, .int 0, .int 0, .int 0, .int 0, .int 0, .int 0, .int 0, .int 0, .int 0, .int 0, .ref msk, .int 0, .int 0, .int 0, .ref mln, .ref mlh, .ref mfn, .ref mfi, .ref mla, .ref mpn, .ref mbo, .ref mdi, .ref mdn, .ref mdo, .ref mdh, .ref mnn, .ref mnh, .ref mkn, .ref mpt, .ref mot, .long 0, .ref mywait, .ref myheld, .int 0, .int 0, .int 0, .int 0, .int 0, .int 0, .long 0, .long 0, .ref mynames, .ref myvalue, .int 0, .int 0, .int 0, .ref mun, .ref mycan, .int 0, .int 0, .int 0, .ref myroot, .ref myoff, .int 0, .ref mtn, .ref mtc, .int 0, .int 0, .int 0, .ref mkh, .ref mkt, .ref mkc]) msk cmsk gmsk ((((xs 1).toInt64) <<< ((32 : Int32).toInt64 &&& 63)) ||| (((xs 2).toInt64) &&& 4294967295)) (xs 3) (xs 4) (xs 5) H.size rfl rfl rfl hs0 hs1 hs2 hs3 hs4 hs5 hs6) (cwV 4 htw (xg_V (ck_48 _ (List.mem_of_getElem? (i := 17) rfl)) (ck_48 _ (List.mem_of_getElem? (i := 18) rfl)) (ck_48 _ (List.mem_of_getElem? (i := 19) rfl)) (ck_1 _ (List.mem_of_getElem? (i := 5) rfl)) (ck_48 _ (List.mem_of_getElem? (i := 20) rfl))) rfl rfl rfl (by decide +kernel) ⟨Nat.le_of_ble_eq_true rfl, Nat.le_of_ble_eq_true rfl⟩) ⟨fun a U g mk q => by obtain ⟨q0, q1, qP, qK, qD⟩ := q; exact ⟨q0, q1, qP, va_K.moved (u := U) (U := U.calling g mk a) (Vm.Alike.refl U.vm) qK, qD⟩, va_recv hKc hPc (ci := 12) (q0 := 0) rfl rfl, fun U hU hW => ⟨rfl, by rw [hU], by rw [hU]; exact hPc, va_K.moved hW.alike hKc, hDc.weaken (fun _ _ _ _ => trivial)⟩⟩ rfl rfl hl.1 rfl (lv_room (Nat.le_of_ble_eq_true rfl)) dL_law_1335 ⟨Nat.le_of_ble_eq_true rfl, Nat.le_of_ble_eq_true rfl⟩) hS (fun q _ h => hFc q h) hFc (fun r_23 u_24 t H1 locs ht hvm hw hB hz1 hk1 hS => ?_)
  try dsimp only at hw
  have hP1 : va_P (dC, dI) vwCl [] H1 := fun k q h => by simp at h
  have hD1 : va_D (va_A [(mq, .inr (12, [.ref mtp, .int 0, .int 0, .ref mywords, .int 0, .int (-1), .int 0, .int 0, .int 0, .int 0, .int 0, .int 0, .int 0, .int 0, .int 0, .int 0, .int 0, .int 0, .int 0, .int 0, .int 0, .int 0, .int 0, .int 0, .ref msk, .int 0, .int 0, .int 0, .ref mln, .ref mlh, .ref mfn, .ref mfi, .ref mla, .ref mpn, .ref mbo, .ref mdi, .ref mdn, .ref mdo, .ref mdh, .ref mnn, .ref mnh, .ref mkn, .ref mpt, .ref mot, .long 0, .ref mywait, .ref myheld, .int 0, .int 0, .int 0, .int 0, .int 0, .int 0, .long 0, .long 0, .ref mynames, .ref myvalue, .int 0, .int 0, .int 0, .ref mun, .ref mycan, .int 0, .int 0, .int 0, .ref myroot, .ref myoff, .int 0, .ref mtn, .ref mtc, .int 0, .int 0, .int 0, .ref mkh, .ref mkt, .ref mkc])), (msk, .inl (cmsk, 14, .inl gmsk))] H.size) [] := ⟨fun i j p q h => by simp at h, fun k q h => by simp at h⟩
  obtain ⟨hP, hD⟩ := va_join (wr := []) (w1 := []) hP hD [0, 1] [] rfl rfl (by decide) (by decide) hk1 hFc hP1 hD1
  generalize H1 = H at hP hS ⊢
  have hP : va_P (dC, dI) vwCl [] H := hP
  have hD : va_D A [] := hD
  refine W.widen (k := 129) (n := 248806) (by omega) (by omega) ?_
  obtain rfl : r_23 = xr_next ((((xs 1).toInt64) <<< ((32 : Int32).toInt64 &&& 63)) ||| (((xs 2).toInt64) &&& 4294967295)) (xs 3) (xs 4) (xs 5) := hw
  refine W.lcmp hx hb dL_law_1338 ?_
  refine lv_if_eq (tgt := 2053) hx hb dL_law_1339 (by decide) (fun c_25 => ?_) (fun c_25 => absurd c_25 (fun h => h ((lg_cmp_eq _ _).mpr rfl)))
  refine lv_iinc (v := 6) (lv' := [(4, .int 6), (3, .ref o3), (2, .ref mq), (1, .ref x), (0, .ref bs)]) hx hb dL_law_2053 hl (k := 0) rfl (by decide) (by decide) rfl (fun ls hl => ?_)
  refine lv_goto (tgt := 23) hx hb dL_law_2056 (by decide) ?_
  refine lv_iload hx hb dL_law_23 (lv_at hl 0 rfl) ?_
  refine lv_aload_n hx hb dL_law_25 rfl (lv_at hl 4 rfl) ?_
  refine va_slen hx hb hX hbl hbA hS dL_law_26 ?_
  refine lv_topi (fun z_26 ez_26 => ?_)
  obtain rfl : z_26 = 6 := ez_26.trans (by decide)
  refine lv_bipush (v := 6) hx hb dL_law_27 (by decide) ?_
  refine lv_isub hx hb dL_law_29 ?_
  refine lv_topi (fun z_27 ez_27 => ?_)
  obtain rfl : z_27 = 0 := ez_27.trans (by decide)
  refine lv_icmp_gt (tgt := 2059) hx hb dL_law_30 (by decide) (fun _ => ?_) (fun c => absurd c (by decide))
  refine lv_iconst (v := 1) hx hb dL_law_2059 (by decide) ?_
  refine va_forget (fun q hq => (hAe _).mp (hS.2.2 q hq)) ?_
  refine W.widen (k := 600002) (n := 7302232) (by omega) (by omega) ?_
  exact lw_ret hx hb hr hlocks dL_law_2060

theorem dL_law_1344 : decode cL_law 1344 = .ok (.aload_n 1, 1) := by decide +kernel
theorem dL_law_1345 : decode cL_law 1345 = .ok (.aload_n 0, 1) := by decide +kernel
theorem dL_law_1346 : decode cL_law 1346 = .ok (.iload 4, 2) := by decide +kernel
theorem dL_law_1348 : decode cL_law 1348 = .ok (.iconst 1, 1) := by decide +kernel
theorem dL_law_1349 : decode cL_law 1349 = .ok (.iadd, 1) := by decide +kernel
theorem dL_law_1350 : decode cL_law 1350 = .ok (.iaload, 1) := by decide +kernel
theorem dL_law_1351 : decode cL_law 1351 = .ok (.aload_n 0, 1) := by decide +kernel
theorem dL_law_1352 : decode cL_law 1352 = .ok (.iload 4, 2) := by decide +kernel
theorem dL_law_1354 : decode cL_law 1354 = .ok (.iconst 2, 1) := by decide +kernel
theorem dL_law_1355 : decode cL_law 1355 = .ok (.iadd, 1) := by decide +kernel
theorem dL_law_1356 : decode cL_law 1356 = .ok (.iaload, 1) := by decide +kernel
theorem dL_law_1357 : decode cL_law 1357 = .ok (.aload_n 0, 1) := by decide +kernel
theorem dL_law_1358 : decode cL_law 1358 = .ok (.iload 4, 2) := by decide +kernel
theorem dL_law_1360 : decode cL_law 1360 = .ok (.iconst 3, 1) := by decide +kernel
theorem dL_law_1361 : decode cL_law 1361 = .ok (.iadd, 1) := by decide +kernel
theorem dL_law_1362 : decode cL_law 1362 = .ok (.iaload, 1) := by decide +kernel
theorem dL_law_1363 : decode cL_law 1363 = .ok (.i2l, 1) := by decide +kernel
theorem dL_law_1364 : decode cL_law 1364 = .ok (.bipush 32, 2) := by decide +kernel
theorem dL_law_1366 : decode cL_law 1366 = .ok (.lshl, 1) := by decide +kernel
theorem dL_law_1367 : decode cL_law 1367 = .ok (.aload_n 0, 1) := by decide +kernel
theorem dL_law_1368 : decode cL_law 1368 = .ok (.iload 4, 2) := by decide +kernel
theorem dL_law_1370 : decode cL_law 1370 = .ok (.iconst 4, 1) := by decide +kernel
theorem dL_law_1371 : decode cL_law 1371 = .ok (.iadd, 1) := by decide +kernel
theorem dL_law_1372 : decode cL_law 1372 = .ok (.iaload, 1) := by decide +kernel
theorem dL_law_1373 : decode cL_law 1373 = .ok (.i2l, 1) := by decide +kernel
theorem dL_law_1374 : decode cL_law 1374 = .ok (.ldc2_w 54, 3) := by decide +kernel
theorem dL_law_1377 : decode cL_law 1377 = .ok (.land, 1) := by decide +kernel
theorem dL_law_1378 : decode cL_law 1378 = .ok (.lor, 1) := by decide +kernel
theorem dL_law_1379 : decode cL_law 1379 = .ok (.aload_n 0, 1) := by decide +kernel
theorem dL_law_1380 : decode cL_law 1380 = .ok (.iload 4, 2) := by decide +kernel
theorem dL_law_1382 : decode cL_law 1382 = .ok (.iconst 5, 1) := by decide +kernel
theorem dL_law_1383 : decode cL_law 1383 = .ok (.iadd, 1) := by decide +kernel
theorem dL_law_1384 : decode cL_law 1384 = .ok (.iaload, 1) := by decide +kernel
theorem dL_law_1385 : decode cL_law 1385 = .ok (.ifCond .eq 7, 3) := by decide +kernel
theorem dL_law_1392 : decode cL_law 1392 = .ok (.iconst 0, 1) := by decide +kernel
theorem dL_law_1393 : decode cL_law 1393 = .ok (.invokevirtual 116, 3) := by decide +kernel
theorem dL_law_1396 : decode cL_law 1396 = .ok (.aload_n 2, 1) := by decide +kernel
theorem dL_law_1397 : decode cL_law 1397 = .ok (.aload_n 0, 1) := by decide +kernel
theorem dL_law_1398 : decode cL_law 1398 = .ok (.iload 4, 2) := by decide +kernel
theorem dL_law_1400 : decode cL_law 1400 = .ok (.iconst 1, 1) := by decide +kernel
theorem dL_law_1401 : decode cL_law 1401 = .ok (.iadd, 1) := by decide +kernel
theorem dL_law_1402 : decode cL_law 1402 = .ok (.iaload, 1) := by decide +kernel
theorem dL_law_1403 : decode cL_law 1403 = .ok (.aload_n 0, 1) := by decide +kernel
theorem dL_law_1404 : decode cL_law 1404 = .ok (.iload 4, 2) := by decide +kernel
theorem dL_law_1406 : decode cL_law 1406 = .ok (.iconst 2, 1) := by decide +kernel
theorem dL_law_1407 : decode cL_law 1407 = .ok (.iadd, 1) := by decide +kernel
theorem dL_law_1408 : decode cL_law 1408 = .ok (.iaload, 1) := by decide +kernel
theorem dL_law_1409 : decode cL_law 1409 = .ok (.aload_n 0, 1) := by decide +kernel
theorem dL_law_1410 : decode cL_law 1410 = .ok (.iload 4, 2) := by decide +kernel
theorem dL_law_1412 : decode cL_law 1412 = .ok (.iconst 3, 1) := by decide +kernel
theorem dL_law_1413 : decode cL_law 1413 = .ok (.iadd, 1) := by decide +kernel
theorem dL_law_1414 : decode cL_law 1414 = .ok (.iaload, 1) := by decide +kernel
theorem dL_law_1415 : decode cL_law 1415 = .ok (.i2l, 1) := by decide +kernel
theorem dL_law_1416 : decode cL_law 1416 = .ok (.bipush 32, 2) := by decide +kernel
theorem dL_law_1418 : decode cL_law 1418 = .ok (.lshl, 1) := by decide +kernel
theorem dL_law_1419 : decode cL_law 1419 = .ok (.aload_n 0, 1) := by decide +kernel
theorem dL_law_1420 : decode cL_law 1420 = .ok (.iload 4, 2) := by decide +kernel
theorem dL_law_1422 : decode cL_law 1422 = .ok (.iconst 4, 1) := by decide +kernel
theorem dL_law_1423 : decode cL_law 1423 = .ok (.iadd, 1) := by decide +kernel
theorem dL_law_1424 : decode cL_law 1424 = .ok (.iaload, 1) := by decide +kernel
theorem dL_law_1425 : decode cL_law 1425 = .ok (.i2l, 1) := by decide +kernel
theorem dL_law_1426 : decode cL_law 1426 = .ok (.ldc2_w 54, 3) := by decide +kernel
theorem dL_law_1429 : decode cL_law 1429 = .ok (.land, 1) := by decide +kernel
theorem dL_law_1430 : decode cL_law 1430 = .ok (.lor, 1) := by decide +kernel
theorem dL_law_1431 : decode cL_law 1431 = .ok (.aload_n 0, 1) := by decide +kernel
theorem dL_law_1432 : decode cL_law 1432 = .ok (.iload 4, 2) := by decide +kernel
theorem dL_law_1434 : decode cL_law 1434 = .ok (.iconst 5, 1) := by decide +kernel
theorem dL_law_1435 : decode cL_law 1435 = .ok (.iadd, 1) := by decide +kernel
theorem dL_law_1436 : decode cL_law 1436 = .ok (.iaload, 1) := by decide +kernel
theorem dL_law_1437 : decode cL_law 1437 = .ok (.ifCond .eq 7, 3) := by decide +kernel
theorem dL_law_1444 : decode cL_law 1444 = .ok (.iconst 0, 1) := by decide +kernel
theorem dL_law_1445 : decode cL_law 1445 = .ok (.invokevirtual 120, 3) := by decide +kernel
theorem dL_law_1448 : decode cL_law 1448 = .ok (.lcmp, 1) := by decide +kernel
theorem dL_law_1449 : decode cL_law 1449 = .ok (.ifCond .eq 604, 3) := by decide +kernel
theorem dL_law_1440 : decode cL_law 1440 = .ok (.iconst 1, 1) := by decide +kernel
theorem dL_law_1441 : decode cL_law 1441 = .ok (.goto 4, 3) := by decide +kernel
theorem dL_law_1388 : decode cL_law 1388 = .ok (.iconst 1, 1) := by decide +kernel
theorem dL_law_1389 : decode cL_law 1389 = .ok (.goto 4, 3) := by decide +kernel
set_option maxHeartbeats 4000000 in
set_option maxRecDepth 100000 in
theorem law_alike (l : Launch) (hst : l.stackTraces = false) {p : Program} {e : Env} {s : State} {m : MethodId} {below : List Frame} {meth : Method} {c : Code} {bs : Nat} {xs : Nat → Int32} (C0 : lw_At p s m meth c bs 6 xs) (dC : Nat → ClassId) (dI : Nat → Nat → Nat) (A : Nat → Prop) (hAe : ∀ q, A q ↔ s.heap.size ≤ q) (xpa : Nat) (b : Nat) (xsp : Nat) (xdy : Nat) (xle : Nat) (xst : Nat) (xim : Nat) (xil : Nat) (xmo : Nat) (xom : Nat) (xwi : Nat) (bto : Nat) (bnm : Nat) (bla : Nat) (bsk : Nat) (bru : Nat) (bbo : Nat) (bdi : Nat) (bda : Nat) (bdk : Nat) (bdt : Nat) (bdp : Nat) (bno : Nat) (bcT : ClassId) (mtp : Nat) (mywords : Nat) (msk : Nat) (mln : Nat) (mlh : Nat) (mfn : Nat) (mfi : Nat) (mla : Nat) (mpn : Nat) (mbo : Nat) (mdi : Nat) (mdn : Nat) (mdo : Nat) (mdh : Nat) (mnn : Nat) (mnh : Nat) (mkn : Nat) (mpt : Nat) (mot : Nat) (mywait : Nat) (myheld : Nat) (mynames : Nat) (myvalue : Nat) (mun : Nat) (mycan : Nat) (myroot : Nat) (myoff : Nat) (mtn : Nat) (mtc : Nat) (mkh : Nat) (mkt : Nat) (mkc : Nat) (x : Nat) (mq : Nat) (o3 : Nat)  (H : Heap) (locs : List Loc) (ls : Array Slot) (hK : va_K (dC, dI) vwCl [(bcT, .int)] s) (hP : va_P (dC, dI) vwCl [(x, .inr (11, [.ref xpa, .ref b, .ref xsp, .ref xdy, .ref xle, .ref xst, .int 0, .ref xim, .ref xil, .int 0, .ref xmo, .ref xom, .ref xwi])), (b, .inr (0, [.ref bto, .ref bnm, .ref bla, .ref bsk, .ref bru, .ref bbo, .ref bdi, .ref bda, .ref bdk, .ref bdt, .ref bdp, .ref bno])), (bto, .inl (bcT, 5, .inl (fun _ => 0))), (mq, .inr (12, [.ref mtp, .int 0, .int 0, .ref mywords, .int 0, .int (-1), .int 0, .int 0, .int 0, .int 0, .int 0, .int 0, .int 0, .int 0, .int 0, .int 0, .int 0, .int 0, .int 0, .int 0, .int 0, .int 0, .int 0, .int 0, .ref msk, .int 0, .int 0, .int 0, .ref mln, .ref mlh, .ref mfn, .ref mfi, .ref mla, .ref mpn, .ref mbo, .ref mdi, .ref mdn, .ref mdo, .ref mdh, .ref mnn, .ref mnh, .ref mkn, .ref mpt, .ref mot, .long 0, .ref mywait, .ref myheld, .int 0, .int 0, .int 0, .int 0, .int 0, .int 0, .long 0, .long 0, .ref mynames, .ref myvalue, .int 0, .int 0, .int 0, .ref mun, .ref mycan, .int 0, .int 0, .int 0, .ref myroot, .ref myoff, .int 0, .ref mtn, .ref mtc, .int 0, .int 0, .int 0, .ref mkh, .ref mkt, .ref mkc]))] H) (hD : va_D A [(x, .inr (11, [.ref xpa, .ref b, .ref xsp, .ref xdy, .ref xle, .ref xst, .int 0, .ref xim, .ref xil, .int 0, .ref xmo, .ref xom, .ref xwi])), (b, .inr (0, [.ref bto, .ref bnm, .ref bla, .ref bsk, .ref bru, .ref bbo, .ref bdi, .ref bda, .ref bdk, .ref bdt, .ref bdp, .ref bno])), (bto, .inl (bcT, 5, .inl (fun _ => 0))), (mq, .inr (12, [.ref mtp, .int 0, .int 0, .ref mywords, .int 0, .int (-1), .int 0, .int 0, .int 0, .int 0, .int 0, .int 0, .int 0, .int 0, .int 0, .int 0, .int 0, .int 0, .int 0, .int 0, .int 0, .int 0, .int 0, .int 0, .ref msk, .int 0, .int 0, .int 0, .ref mln, .ref mlh, .ref mfn, .ref mfi, .ref mla, .ref mpn, .ref mbo, .ref mdi, .ref mdn, .ref mdo, .ref mdh, .ref mnn, .ref mnh, .ref mkn, .ref mpt, .ref mot, .long 0, .ref mywait, .ref myheld, .int 0, .int 0, .int 0, .int 0, .int 0, .int 0, .long 0, .long 0, .ref mynames, .ref myvalue, .int 0, .int 0, .int 0, .ref mun, .ref mycan, .int 0, .int 0, .int 0, .ref myroot, .ref myoff, .int 0, .ref mtn, .ref mtc, .int 0, .int 0, .int 0, .ref mkh, .ref mkt, .ref mkc]))]) (hS : va_S A s.heap H locs) (hl : lv_has ls 7 [(4, .int 0), (3, .ref o3), (2, .ref mq), (1, .ref x), (0, .ref bs)]) : W p l e room_1 s m #[Value.ref bs] below meth c H locs 129 248806 (lw_Z below #[Value.ref bs] s) (F0 m 1344 ls []) := by
  obtain ⟨hx, hb, hr, hml, hown, hts, hX, hbl, hlocks, hgv⟩ := id C0
  have htw : ∀ w ∈ wsL_law, w.before _ s = true := fun w h => hts w (wsL_law_in w h)
  have hown : s.vm.findClass RL = some m.cls := hown
  have hA : ∀ q : Nat, s.heap.size ≤ q → A q := fun q h => (hAe q).mpr h
  have hbA : ¬ A bs := fun h => absurd ((hAe bs).mp h) (Nat.not_le.mpr hbl)
  refine lv_aload_n hx hb dL_law_1344 rfl (lv_at hl 3 rfl) ?_
  refine lv_aload_n hx hb dL_law_1345 rfl (lv_at hl 4 rfl) ?_
  refine lv_iload hx hb dL_law_1346 (lv_at hl 0 rfl) ?_
  refine lv_iconst (v := 1) hx hb dL_law_1348 (by decide) ?_
  refine lv_iadd hx hb dL_law_1349 ?_
  refine lv_topi (fun z_1 ez_1 => ?_)
  obtain rfl : z_1 = 1 := ez_1.trans (by decide)
  refine va_sld hx hb hX hbl hbA hS (by unfold vp_in; decide) dL_law_1350 ?_
  refine lv_topi (fun z_2 ez_2 => ?_)
  obtain rfl : z_2 = xs 1 := ez_2
  refine lv_aload_n hx hb dL_law_1351 rfl (lv_at hl 4 rfl) ?_
  refine lv_iload hx hb dL_law_1352 (lv_at hl 0 rfl) ?_
  refine lv_iconst (v := 2) hx hb dL_law_1354 (by decide) ?_
  refine lv_iadd hx hb dL_law_1355 ?_
  refine lv_topi (fun z_3 ez_3 => ?_)
  obtain rfl : z_3 = 2 := ez_3.trans (by decide)
  refine va_sld hx hb hX hbl hbA hS (by unfold vp_in; decide) dL_law_1356 ?_
  refine lv_topi (fun z_4 ez_4 => ?_)
  obtain rfl : z_4 = xs 2 := ez_4
  refine lv_aload_n hx hb dL_law_1357 rfl (lv_at hl 4 rfl) ?_
  refine lv_iload hx hb dL_law_1358 (lv_at hl 0 rfl) ?_
  refine lv_iconst (v := 3) hx hb dL_law_1360 (by decide) ?_
  refine lv_iadd hx hb dL_law_1361 ?_
  refine lv_topi (fun z_5 ez_5 => ?_)
  obtain rfl : z_5 = 3 := ez_5.trans (by decide)
  refine va_sld hx hb hX hbl hbA hS (by unfold vp_in; decide) dL_law_1362 ?_
  refine lv_topi (fun z_6 ez_6 => ?_)
  obtain rfl : z_6 = xs 3 := ez_6
  refine lv_i2l (v := (xs 3).toInt64) hx hb dL_law_1363 rfl ?_
  refine lv_bipush (v := 32) hx hb dL_law_1364 (by decide) ?_
  refine lv_lshl (v := (((xs 3).toInt64) <<< ((32 : Int32).toInt64 &&& 63))) hx hb dL_law_1366 rfl ?_
  refine lv_aload_n hx hb dL_law_1367 rfl (lv_at hl 4 rfl) ?_
  refine lv_iload hx hb dL_law_1368 (lv_at hl 0 rfl) ?_
  refine lv_iconst (v := 4) hx hb dL_law_1370 (by decide) ?_
  refine lv_iadd hx hb dL_law_1371 ?_
  refine lv_topi (fun z_7 ez_7 => ?_)
  obtain rfl : z_7 = 4 := ez_7.trans (by decide)
  refine va_sld hx hb hX hbl hbA hS (by unfold vp_in; decide) dL_law_1372 ?_
  refine lv_topi (fun z_8 ez_8 => ?_)
  obtain rfl : z_8 = xs 4 := ez_8
  refine lv_i2l (v := (xs 4).toInt64) hx hb dL_law_1373 rfl ?_
  refine lv_ldc2 (v := 4294967295) hx hb hown (htw _ (ck_1 _ (List.mem_of_getElem? (i := 7) rfl))) dL_law_1374 ?_
  refine lv_land hx hb dL_law_1377 ?_
  refine lv_lor hx hb dL_law_1378 ?_
  refine lv_aload_n hx hb dL_law_1379 rfl (lv_at hl 4 rfl) ?_
  refine lv_iload hx hb dL_law_1380 (lv_at hl 0 rfl) ?_
  refine lv_iconst (v := 5) hx hb dL_law_1382 (by decide) ?_
  refine lv_iadd hx hb dL_law_1383 ?_
  refine lv_topi (fun z_9 ez_9 => ?_)
  obtain rfl : z_9 = 5 := ez_9.trans (by decide)
  refine va_sld hx hb hX hbl hbA hS (by unfold vp_in; decide) dL_law_1384 ?_
  refine lv_topi (fun z_10 ez_10 => ?_)
  obtain rfl : z_10 = xs 5 := ez_10
  refine lv_if_eq (tgt := 1392) hx hb dL_law_1385 (by decide) (fun c_11 => ?_) (fun c_11 => ?_)
  · refine lv_iconst (v := 0) hx hb dL_law_1392 (by decide) ?_
    have hPc := hP.sub (ws' := [(x, .inr (11, [.ref xpa, .ref b, .ref xsp, .ref xdy, .ref xle, .ref xst, .int 0, .ref xim, .ref xil, .int 0, .ref xmo, .ref xom, .ref xwi])), (b, .inr (0, [.ref bto, .ref bnm, .ref bla, .ref bsk, .ref bru, .ref bbo, .ref bdi, .ref bda, .ref bdk, .ref bdt, .ref bdp, .ref bno])), (bto, .inl (bcT, 5, .inl (fun _ => 0)))]) [0, 1, 2] rfl
    have hKc := hK.sub (tys' := [(bcT, .int)]) [0] rfl
    refine vp_callSl (W.runV (As := [.int (xs 1), .int (xs 2), .long ((((xs 3).toInt64) <<< ((32 : Int32).toInt64 &&& 63)) ||| (((xs 4).toInt64) &&& 4294967295)), .int 0]) (rest := []) ⟨hx, hb, hml, hown, htw⟩ (mx_alike l dC dI x xpa xsp xdy xle xst xim xil xmo xom xwi b bto bnm bla bsk bru bbo bdi bda bdk bdt bdp bno bcT (xs 1) (xs 2) ((((xs 3).toInt64) <<< ((32 : Int32).toInt64 &&& 63)) ||| (((xs 4).toInt64) &&& 4294967295)) (0 : Int32)) (cwV 4 htw (xg_V (ck_48 _ (List.mem_of_getElem? (i := 21) rfl)) (ck_48 _ (List.mem_of_getElem? (i := 22) rfl)) (ck_48 _ (List.mem_of_getElem? (i := 23) rfl)) (ck_1 _ (List.mem_of_getElem? (i := 2) rfl)) (ck_49 _ (List.mem_of_getElem? (i := 0) rfl))) rfl rfl rfl (by decide +kernel) ⟨Nat.le_of_ble_eq_true rfl, Nat.le_of_ble_eq_true rfl⟩) ⟨fun a U g mk q => by obtain ⟨q0, qP, qK⟩ := q; exact ⟨q0, qP, va_K.moved (u := U) (U := U.calling g mk a) (Vm.Alike.refl U.vm) qK⟩, va_recv hKc hPc (ci := 11) (q0 := 0) rfl rfl, fun U hU hW => ⟨rfl, by rw [hU]; exact hPc, va_K.moved hW.alike hKc⟩⟩ rfl rfl hl.1 rfl (lv_room (Nat.le_of_ble_eq_true rfl)) dL_law_1393 ⟨Nat.le_of_ble_eq_true rfl, Nat.le_of_ble_eq_true rfl⟩) (fun r_12 hw => ?_)
    try dsimp only at hw
    obtain rfl : r_12 = (-1) := hw
    refine lv_aload_n hx hb dL_law_1396 rfl (lv_at hl 2 rfl) ?_
    refine lv_aload_n hx hb dL_law_1397 rfl (lv_at hl 4 rfl) ?_
    refine lv_iload hx hb dL_law_1398 (lv_at hl 0 rfl) ?_
    refine lv_iconst (v := 1) hx hb dL_law_1400 (by decide) ?_
    refine lv_iadd hx hb dL_law_1401 ?_
    refine lv_topi (fun z_13 ez_13 => ?_)
    obtain rfl : z_13 = 1 := ez_13.trans (by decide)
    refine va_sld hx hb hX hbl hbA hS (by unfold vp_in; decide) dL_law_1402 ?_
    refine lv_topi (fun z_14 ez_14 => ?_)
    obtain rfl : z_14 = xs 1 := ez_14
    refine lv_aload_n hx hb dL_law_1403 rfl (lv_at hl 4 rfl) ?_
    refine lv_iload hx hb dL_law_1404 (lv_at hl 0 rfl) ?_
    refine lv_iconst (v := 2) hx hb dL_law_1406 (by decide) ?_
    refine lv_iadd hx hb dL_law_1407 ?_
    refine lv_topi (fun z_15 ez_15 => ?_)
    obtain rfl : z_15 = 2 := ez_15.trans (by decide)
    refine va_sld hx hb hX hbl hbA hS (by unfold vp_in; decide) dL_law_1408 ?_
    refine lv_topi (fun z_16 ez_16 => ?_)
    obtain rfl : z_16 = xs 2 := ez_16
    refine lv_aload_n hx hb dL_law_1409 rfl (lv_at hl 4 rfl) ?_
    refine lv_iload hx hb dL_law_1410 (lv_at hl 0 rfl) ?_
    refine lv_iconst (v := 3) hx hb dL_law_1412 (by decide) ?_
    refine lv_iadd hx hb dL_law_1413 ?_
    refine lv_topi (fun z_17 ez_17 => ?_)
    obtain rfl : z_17 = 3 := ez_17.trans (by decide)
    refine va_sld hx hb hX hbl hbA hS (by unfold vp_in; decide) dL_law_1414 ?_
    refine lv_topi (fun z_18 ez_18 => ?_)
    obtain rfl : z_18 = xs 3 := ez_18
    refine lv_i2l (v := (xs 3).toInt64) hx hb dL_law_1415 rfl ?_
    refine lv_bipush (v := 32) hx hb dL_law_1416 (by decide) ?_
    refine lv_lshl (v := (((xs 3).toInt64) <<< ((32 : Int32).toInt64 &&& 63))) hx hb dL_law_1418 rfl ?_
    refine lv_aload_n hx hb dL_law_1419 rfl (lv_at hl 4 rfl) ?_
    refine lv_iload hx hb dL_law_1420 (lv_at hl 0 rfl) ?_
    refine lv_iconst (v := 4) hx hb dL_law_1422 (by decide) ?_
    refine lv_iadd hx hb dL_law_1423 ?_
    refine lv_topi (fun z_19 ez_19 => ?_)
    obtain rfl : z_19 = 4 := ez_19.trans (by decide)
    refine va_sld hx hb hX hbl hbA hS (by unfold vp_in; decide) dL_law_1424 ?_
    refine lv_topi (fun z_20 ez_20 => ?_)
    obtain rfl : z_20 = xs 4 := ez_20
    refine lv_i2l (v := (xs 4).toInt64) hx hb dL_law_1425 rfl ?_
    refine lv_ldc2 (v := 4294967295) hx hb hown (htw _ (ck_1 _ (List.mem_of_getElem? (i := 7) rfl))) dL_law_1426 ?_
    refine lv_land hx hb dL_law_1429 ?_
    refine lv_lor hx hb dL_law_1430 ?_
    refine lv_aload_n hx hb dL_law_1431 rfl (lv_at hl 4 rfl) ?_
    refine lv_iload hx hb dL_law_1432 (lv_at hl 0 rfl) ?_
    refine lv_iconst (v := 5) hx hb dL_law_1434 (by decide) ?_
    refine lv_iadd hx hb dL_law_1435 ?_
    refine lv_topi (fun z_21 ez_21 => ?_)
    obtain rfl : z_21 = 5 := ez_21.trans (by decide)
    refine va_sld hx hb hX hbl hbA hS (by unfold vp_in; decide) dL_law_1436 ?_
    refine lv_topi (fun z_22 ez_22 => ?_)
    obtain rfl : z_22 = xs 5 := ez_22
    refine lv_if_eq (tgt := 1444) hx hb dL_law_1437 (by decide) (fun c_23 => ?_) (fun c_23 => ?_)
    · refine lv_iconst (v := 0) hx hb dL_law_1444 (by decide) ?_
      have hPc := hP.sub (ws' := [(mq, .inr (12, [.ref mtp, .int 0, .int 0, .ref mywords, .int 0, .int (-1), .int 0, .int 0, .int 0, .int 0, .int 0, .int 0, .int 0, .int 0, .int 0, .int 0, .int 0, .int 0, .int 0, .int 0, .int 0, .int 0, .int 0, .int 0, .ref msk, .int 0, .int 0, .int 0, .ref mln, .ref mlh, .ref mfn, .ref mfi, .ref mla, .ref mpn, .ref mbo, .ref mdi, .ref mdn, .ref mdo, .ref mdh, .ref mnn, .ref mnh, .ref mkn, .ref mpt, .ref mot, .long 0, .ref mywait, .ref myheld, .int 0, .int 0, .int 0, .int 0, .int 0, .int 0, .long 0, .long 0, .ref mynames, .ref myvalue, .int 0, .int 0, .int 0, .ref mun, .ref mycan, .int 0, .int 0, .int 0, .ref myroot, .ref myoff, .int 0, .ref mtn, .ref mtc, .int 0, .int 0, .int 0, .ref mkh, .ref mkt, .ref mkc]))]) [3] rfl
      have hKc := hK.sub (tys' := []) [] rfl
      have hDc := hD.sub (ws' := [(mq, .inr (12, [.ref mtp, .int 0, .int 0, .ref mywords, .int 0, .int (-1), .int 0, .int 0, .int 0, .int 0, .int 0, .int 0, .int 0, .int 0, .int 0, .int 0, .int 0, .int 0, .int 0, .int 0, .int 0, .int 0, .int 0, .int 0, .ref msk, .int 0, .int 0, .int 0, .ref mln, .ref mlh, .ref mfn, .ref mfi, .ref mla, .ref mpn, .ref mbo, .ref mdi, .ref mdn, .ref mdo, .ref mdh, .ref mnn, .ref mnh, .ref mkn, .ref mpt, .ref mot, .long 0, .ref mywait, .ref myheld, .int 0, .int 0, .int 0, .int 0, .int 0, .int 0, .long 0, .long 0, .ref mynames, .ref myvalue, .int 0, .int 0, .int 0, .ref mun, .ref mycan, .int 0, .int 0, .int 0, .ref myroot, .ref myoff, .int 0, .ref mtn, .ref mtc, .int 0, .int 0, .int 0, .ref mkh, .ref mkt, .ref mkc]))]) [3] (by decide) rfl
      have hFc := va_free (wc := [(mq, .inr (12, [.ref mtp, .int 0, .int 0, .ref mywords, .int 0, .int (-1), .int 0, .int 0, .int 0, .int 0, .int 0, .int 0, .int 0, .int 0, .int 0, .int 0, .int 0, .int 0, .int 0, .int 0, .int 0, .int 0, .int 0, .int 0, .ref msk, .int 0, .int 0, .int 0, .ref mln, .ref mlh, .ref mfn, .ref mfi, .ref mla, .ref mpn, .ref mbo, .ref mdi, .ref mdn, .ref mdo, .ref mdh, .ref mnn, .ref mnh, .ref mkn, .ref mpt, .ref mot, .long 0, .ref mywait, .ref myheld, .int 0, .int 0, .int 0, .int 0, .int 0, .int 0, .long 0, .long 0, .ref mynames, .ref myvalue, .int 0, .int 0, .int 0, .ref mun, .ref mycan, .int 0, .int 0, .int 0, .ref myroot, .ref myoff, .int 0, .ref mtn, .ref mtc, .int 0, .int 0, .int 0, .ref mkh, .ref mkt, .ref mkc]))]) hD hS hA [3] rfl
      refine va_calll (va_runV (As := [.int (xs 1), .int (xs 2), .long ((((xs 3).toInt64) <<< ((32 : Int32).toInt64 &&& 63)) ||| (((xs 4).toInt64) &&& 4294967295)), .int 0]) (rest := [.long (-1)]) ⟨hx, hb, hml, hown, htw⟩ (mm_alike l dC dI mq ([.ref mtp, .int 0, .int 0, .ref mywords, .int 0, .int (-1), .int 0, .int 0, .int 0, .int 0, .int 0, .int 0, .int 0, .int 0, .int 0, .int 0, .int 0, .int 0, .int 0, .int 0, .int 0, .int 0, .int 0, .int 0, .ref msk, .int 0, .int 0, .int 0, .ref mln, .ref mlh, .ref mfn, .ref mfi, .ref mla, .ref mpn, .ref mbo, .ref mdi, .ref mdn, .ref mdo, .ref mdh, .ref mnn, .ref mnh, .ref mkn, .ref mpt, .ref mot, .long 0, .ref mywait, .ref myheld, .int 0, .int 0, .int 0, .int 0, .int 0, .int 0, .long 0, .long 0, .ref mynames, .ref myvalue, .int 0, .int 0, .int 0, .ref mun, .ref mycan, .int 0, .int 0, .int 0, .ref myroot, .ref myoff, .int 0, .ref mtn, .ref mtc, .int 0, .int 0, .int 0, .ref mkh, .ref mkt, .ref mkc]) (xs 1) (xs 2) ((((xs 3).toInt64) <<< ((32 : Int32).toInt64 &&& 63)) ||| (((xs 4).toInt64) &&& 4294967295)) (0 : Int32) H.size rfl rfl) (cwV 4 htw (xg_V (ck_49 _ (List.mem_of_getElem? (i := 3) rfl)) (ck_49 _ (List.mem_of_getElem? (i := 4) rfl)) (ck_49 _ (List.mem_of_getElem? (i := 5) rfl)) (ck_1 _ (List.mem_of_getElem? (i := 5) rfl)) (ck_49 _ (List.mem_of_getElem? (i := 6) rfl))) rfl rfl rfl (by decide +kernel) ⟨Nat.le_of_ble_eq_true rfl, Nat.le_of_ble_eq_true rfl⟩) ⟨fun a U g mk q => by obtain ⟨q0, q1, qP, qK, qD⟩ := q; exact ⟨q0, q1, qP, va_K.moved (u := U) (U := U.calling g mk a) (Vm.Alike.refl U.vm) qK, qD⟩, va_recv hKc hPc (ci := 12) (q0 := 0) rfl rfl, fun U hU hW => ⟨rfl, by rw [hU], by rw [hU]; exact hPc, va_K.moved hW.alike hKc, hDc.weaken (fun _ _ _ _ => trivial)⟩⟩ rfl rfl hl.1 rfl (lv_room (Nat.le_of_ble_eq_true rfl)) dL_law_1445 ⟨Nat.le_of_ble_eq_true rfl, Nat.le_of_ble_eq_true rfl⟩) hS (fun q _ h => hFc q h) hFc (fun r_24 u_25 t H1 locs ht hvm hw hB hz1 hk1 hS => ?_)
      try dsimp only at hw
      have hP1 : va_P (dC, dI) vwCl [] H1 := fun k q h => by simp at h
      have hD1 : va_D (va_A [(mq, .inr (12, [.ref mtp, .int 0, .int 0, .ref mywords, .int 0, .int (-1), .int 0, .int 0, .int 0, .int 0, .int 0, .int 0, .int 0, .int 0, .int 0, .int 0, .int 0, .int 0, .int 0, .int 0, .int 0, .int 0, .int 0, .int 0, .ref msk, .int 0, .int 0, .int 0, .ref mln, .ref mlh, .ref mfn, .ref mfi, .ref mla, .ref mpn, .ref mbo, .ref mdi, .ref mdn, .ref mdo, .ref mdh, .ref mnn, .ref mnh, .ref mkn, .ref mpt, .ref mot, .long 0, .ref mywait, .ref myheld, .int 0, .int 0, .int 0, .int 0, .int 0, .int 0, .long 0, .long 0, .ref mynames, .ref myvalue, .int 0, .int 0, .int 0, .ref mun, .ref mycan, .int 0, .int 0, .int 0, .ref myroot, .ref myoff, .int 0, .ref mtn, .ref mtc, .int 0, .int 0, .int 0, .ref mkh, .ref mkt, .ref mkc]))] H.size) [] := ⟨fun i j p q h => by simp at h, fun k q h => by simp at h⟩
      obtain ⟨hP, hD⟩ := va_join (wr := [(x, .inr (11, [.ref xpa, .ref b, .ref xsp, .ref xdy, .ref xle, .ref xst, .int 0, .ref xim, .ref xil, .int 0, .ref xmo, .ref xom, .ref xwi])), (b, .inr (0, [.ref bto, .ref bnm, .ref bla, .ref bsk, .ref bru, .ref bbo, .ref bdi, .ref bda, .ref bdk, .ref bdt, .ref bdp, .ref bno])), (bto, .inl (bcT, 5, .inl (fun _ => 0)))]) (w1 := []) hP hD [3] [0, 1, 2] rfl rfl (by decide) (by decide) hk1 hFc hP1 hD1
      generalize H1 = H at hP hS ⊢
      have hP : va_P (dC, dI) vwCl [(x, .inr (11, [.ref xpa, .ref b, .ref xsp, .ref xdy, .ref xle, .ref xst, .int 0, .ref xim, .ref xil, .int 0, .ref xmo, .ref xom, .ref xwi])), (b, .inr (0, [.ref bto, .ref bnm, .ref bla, .ref bsk, .ref bru, .ref bbo, .ref bdi, .ref bda, .ref bdk, .ref bdt, .ref bdp, .ref bno])), (bto, .inl (bcT, 5, .inl (fun _ => 0)))] H := hP
      have hD : va_D A [(x, .inr (11, [.ref xpa, .ref b, .ref xsp, .ref xdy, .ref xle, .ref xst, .int 0, .ref xim, .ref xil, .int 0, .ref xmo, .ref xom, .ref xwi])), (b, .inr (0, [.ref bto, .ref bnm, .ref bla, .ref bsk, .ref bru, .ref bbo, .ref bdi, .ref bda, .ref bdk, .ref bdt, .ref bdp, .ref bno])), (bto, .inl (bcT, 5, .inl (fun _ => 0)))] := hD
      refine W.widen (k := 129) (n := 248806) (by omega) (by omega) ?_
      obtain rfl : r_24 = (-1) := hw
      refine W.lcmp hx hb dL_law_1448 ?_
      refine lv_if_eq (tgt := 2053) hx hb dL_law_1449 (by decide) (fun _ => ?_) (fun c => absurd c (by decide))
      refine lv_iinc (v := 6) (lv' := [(4, .int 6), (3, .ref o3), (2, .ref mq), (1, .ref x), (0, .ref bs)]) hx hb dL_law_2053 hl (k := 0) rfl (by decide) (by decide) rfl (fun ls hl => ?_)
      refine lv_goto (tgt := 23) hx hb dL_law_2056 (by decide) ?_
      refine lv_iload hx hb dL_law_23 (lv_at hl 0 rfl) ?_
      refine lv_aload_n hx hb dL_law_25 rfl (lv_at hl 4 rfl) ?_
      refine va_slen hx hb hX hbl hbA hS dL_law_26 ?_
      refine lv_topi (fun z_26 ez_26 => ?_)
      obtain rfl : z_26 = 6 := ez_26.trans (by decide)
      refine lv_bipush (v := 6) hx hb dL_law_27 (by decide) ?_
      refine lv_isub hx hb dL_law_29 ?_
      refine lv_topi (fun z_27 ez_27 => ?_)
      obtain rfl : z_27 = 0 := ez_27.trans (by decide)
      refine lv_icmp_gt (tgt := 2059) hx hb dL_law_30 (by decide) (fun _ => ?_) (fun c => absurd c (by decide))
      refine lv_iconst (v := 1) hx hb dL_law_2059 (by decide) ?_
      refine va_forget (fun q hq => (hAe _).mp (hS.2.2 q hq)) ?_
      refine W.widen (k := 600002) (n := 7302232) (by omega) (by omega) ?_
      exact lw_ret hx hb hr hlocks dL_law_2060
    · refine lv_iconst (v := 1) hx hb dL_law_1440 (by decide) ?_
      refine lv_goto (tgt := 1445) hx hb dL_law_1441 (by decide) ?_
      have hPc := hP.sub (ws' := [(mq, .inr (12, [.ref mtp, .int 0, .int 0, .ref mywords, .int 0, .int (-1), .int 0, .int 0, .int 0, .int 0, .int 0, .int 0, .int 0, .int 0, .int 0, .int 0, .int 0, .int 0, .int 0, .int 0, .int 0, .int 0, .int 0, .int 0, .ref msk, .int 0, .int 0, .int 0, .ref mln, .ref mlh, .ref mfn, .ref mfi, .ref mla, .ref mpn, .ref mbo, .ref mdi, .ref mdn, .ref mdo, .ref mdh, .ref mnn, .ref mnh, .ref mkn, .ref mpt, .ref mot, .long 0, .ref mywait, .ref myheld, .int 0, .int 0, .int 0, .int 0, .int 0, .int 0, .long 0, .long 0, .ref mynames, .ref myvalue, .int 0, .int 0, .int 0, .ref mun, .ref mycan, .int 0, .int 0, .int 0, .ref myroot, .ref myoff, .int 0, .ref mtn, .ref mtc, .int 0, .int 0, .int 0, .ref mkh, .ref mkt, .ref mkc]))]) [3] rfl
      have hKc := hK.sub (tys' := []) [] rfl
      have hDc := hD.sub (ws' := [(mq, .inr (12, [.ref mtp, .int 0, .int 0, .ref mywords, .int 0, .int (-1), .int 0, .int 0, .int 0, .int 0, .int 0, .int 0, .int 0, .int 0, .int 0, .int 0, .int 0, .int 0, .int 0, .int 0, .int 0, .int 0, .int 0, .int 0, .ref msk, .int 0, .int 0, .int 0, .ref mln, .ref mlh, .ref mfn, .ref mfi, .ref mla, .ref mpn, .ref mbo, .ref mdi, .ref mdn, .ref mdo, .ref mdh, .ref mnn, .ref mnh, .ref mkn, .ref mpt, .ref mot, .long 0, .ref mywait, .ref myheld, .int 0, .int 0, .int 0, .int 0, .int 0, .int 0, .long 0, .long 0, .ref mynames, .ref myvalue, .int 0, .int 0, .int 0, .ref mun, .ref mycan, .int 0, .int 0, .int 0, .ref myroot, .ref myoff, .int 0, .ref mtn, .ref mtc, .int 0, .int 0, .int 0, .ref mkh, .ref mkt, .ref mkc]))]) [3] (by decide) rfl
      have hFc := va_free (wc := [(mq, .inr (12, [.ref mtp, .int 0, .int 0, .ref mywords, .int 0, .int (-1), .int 0, .int 0, .int 0, .int 0, .int 0, .int 0, .int 0, .int 0, .int 0, .int 0, .int 0, .int 0, .int 0, .int 0, .int 0, .int 0, .int 0, .int 0, .ref msk, .int 0, .int 0, .int 0, .ref mln, .ref mlh, .ref mfn, .ref mfi, .ref mla, .ref mpn, .ref mbo, .ref mdi, .ref mdn, .ref mdo, .ref mdh, .ref mnn, .ref mnh, .ref mkn, .ref mpt, .ref mot, .long 0, .ref mywait, .ref myheld, .int 0, .int 0, .int 0, .int 0, .int 0, .int 0, .long 0, .long 0, .ref mynames, .ref myvalue, .int 0, .int 0, .int 0, .ref mun, .ref mycan, .int 0, .int 0, .int 0, .ref myroot, .ref myoff, .int 0, .ref mtn, .ref mtc, .int 0, .int 0, .int 0, .ref mkh, .ref mkt, .ref mkc]))]) hD hS hA [3] rfl
      refine va_calll (va_runV (As := [.int (xs 1), .int (xs 2), .long ((((xs 3).toInt64) <<< ((32 : Int32).toInt64 &&& 63)) ||| (((xs 4).toInt64) &&& 4294967295)), .int 1]) (rest := [.long (-1)]) ⟨hx, hb, hml, hown, htw⟩ (mm_alike l dC dI mq ([.ref mtp, .int 0, .int 0, .ref mywords, .int 0, .int (-1), .int 0, .int 0, .int 0, .int 0, .int 0, .int 0, .int 0, .int 0, .int 0, .int 0, .int 0, .int 0, .int 0, .int 0, .int 0, .int 0, .int 0, .int 0, .ref msk, .int 0, .int 0, .int 0, .ref mln, .ref mlh, .ref mfn, .ref mfi, .ref mla, .ref mpn, .ref mbo, .ref mdi, .ref mdn, .ref mdo, .ref mdh, .ref mnn, .ref mnh, .ref mkn, .ref mpt, .ref mot, .long 0, .ref mywait, .ref myheld, .int 0, .int 0, .int 0, .int 0, .int 0, .int 0, .long 0, .long 0, .ref mynames, .ref myvalue, .int 0, .int 0, .int 0, .ref mun, .ref mycan, .int 0, .int 0, .int 0, .ref myroot, .ref myoff, .int 0, .ref mtn, .ref mtc, .int 0, .int 0, .int 0, .ref mkh, .ref mkt, .ref mkc]) (xs 1) (xs 2) ((((xs 3).toInt64) <<< ((32 : Int32).toInt64 &&& 63)) ||| (((xs 4).toInt64) &&& 4294967295)) (1 : Int32) H.size rfl rfl) (cwV 4 htw (xg_V (ck_49 _ (List.mem_of_getElem? (i := 3) rfl)) (ck_49 _ (List.mem_of_getElem? (i := 4) rfl)) (ck_49 _ (List.mem_of_getElem? (i := 5) rfl)) (ck_1 _ (List.mem_of_getElem? (i := 5) rfl)) (ck_49 _ (List.mem_of_getElem? (i := 6) rfl))) rfl rfl rfl (by decide +kernel) ⟨Nat.le_of_ble_eq_true rfl, Nat.le_of_ble_eq_true rfl⟩) ⟨fun a U g mk q => by obtain ⟨q0, q1, qP, qK, qD⟩ := q; exact ⟨q0, q1, qP, va_K.moved (u := U) (U := U.calling g mk a) (Vm.Alike.refl U.vm) qK, qD⟩, va_recv hKc hPc (ci := 12) (q0 := 0) rfl rfl, fun U hU hW => ⟨rfl, by rw [hU], by rw [hU]; exact hPc, va_K.moved hW.alike hKc, hDc.weaken (fun _ _ _ _ => trivial)⟩⟩ rfl rfl hl.1 rfl (lv_room (Nat.le_of_ble_eq_true rfl)) dL_law_1445 ⟨Nat.le_of_ble_eq_true rfl, Nat.le_of_ble_eq_true rfl⟩) hS (fun q _ h => hFc q h) hFc (fun r_28 u_29 t H1 locs ht hvm hw hB hz1 hk1 hS => ?_)
      try dsimp only at hw
      have hP1 : va_P (dC, dI) vwCl [] H1 := fun k q h => by simp at h
      have hD1 : va_D (va_A [(mq, .inr (12, [.ref mtp, .int 0, .int 0, .ref mywords, .int 0, .int (-1), .int 0, .int 0, .int 0, .int 0, .int 0, .int 0, .int 0, .int 0, .int 0, .int 0, .int 0, .int 0, .int 0, .int 0, .int 0, .int 0, .int 0, .int 0, .ref msk, .int 0, .int 0, .int 0, .ref mln, .ref mlh, .ref mfn, .ref mfi, .ref mla, .ref mpn, .ref mbo, .ref mdi, .ref mdn, .ref mdo, .ref mdh, .ref mnn, .ref mnh, .ref mkn, .ref mpt, .ref mot, .long 0, .ref mywait, .ref myheld, .int 0, .int 0, .int 0, .int 0, .int 0, .int 0, .long 0, .long 0, .ref mynames, .ref myvalue, .int 0, .int 0, .int 0, .ref mun, .ref mycan, .int 0, .int 0, .int 0, .ref myroot, .ref myoff, .int 0, .ref mtn, .ref mtc, .int 0, .int 0, .int 0, .ref mkh, .ref mkt, .ref mkc]))] H.size) [] := ⟨fun i j p q h => by simp at h, fun k q h => by simp at h⟩
      obtain ⟨hP, hD⟩ := va_join (wr := [(x, .inr (11, [.ref xpa, .ref b, .ref xsp, .ref xdy, .ref xle, .ref xst, .int 0, .ref xim, .ref xil, .int 0, .ref xmo, .ref xom, .ref xwi])), (b, .inr (0, [.ref bto, .ref bnm, .ref bla, .ref bsk, .ref bru, .ref bbo, .ref bdi, .ref bda, .ref bdk, .ref bdt, .ref bdp, .ref bno])), (bto, .inl (bcT, 5, .inl (fun _ => 0)))]) (w1 := []) hP hD [3] [0, 1, 2] rfl rfl (by decide) (by decide) hk1 hFc hP1 hD1
      generalize H1 = H at hP hS ⊢
      have hP : va_P (dC, dI) vwCl [(x, .inr (11, [.ref xpa, .ref b, .ref xsp, .ref xdy, .ref xle, .ref xst, .int 0, .ref xim, .ref xil, .int 0, .ref xmo, .ref xom, .ref xwi])), (b, .inr (0, [.ref bto, .ref bnm, .ref bla, .ref bsk, .ref bru, .ref bbo, .ref bdi, .ref bda, .ref bdk, .ref bdt, .ref bdp, .ref bno])), (bto, .inl (bcT, 5, .inl (fun _ => 0)))] H := hP
      have hD : va_D A [(x, .inr (11, [.ref xpa, .ref b, .ref xsp, .ref xdy, .ref xle, .ref xst, .int 0, .ref xim, .ref xil, .int 0, .ref xmo, .ref xom, .ref xwi])), (b, .inr (0, [.ref bto, .ref bnm, .ref bla, .ref bsk, .ref bru, .ref bbo, .ref bdi, .ref bda, .ref bdk, .ref bdt, .ref bdp, .ref bno])), (bto, .inl (bcT, 5, .inl (fun _ => 0)))] := hD
      refine W.widen (k := 129) (n := 248806) (by omega) (by omega) ?_
      obtain rfl : r_28 = (-1) := hw
      refine W.lcmp hx hb dL_law_1448 ?_
      refine lv_if_eq (tgt := 2053) hx hb dL_law_1449 (by decide) (fun _ => ?_) (fun c => absurd c (by decide))
      refine lv_iinc (v := 6) (lv' := [(4, .int 6), (3, .ref o3), (2, .ref mq), (1, .ref x), (0, .ref bs)]) hx hb dL_law_2053 hl (k := 0) rfl (by decide) (by decide) rfl (fun ls hl => ?_)
      refine lv_goto (tgt := 23) hx hb dL_law_2056 (by decide) ?_
      refine lv_iload hx hb dL_law_23 (lv_at hl 0 rfl) ?_
      refine lv_aload_n hx hb dL_law_25 rfl (lv_at hl 4 rfl) ?_
      refine va_slen hx hb hX hbl hbA hS dL_law_26 ?_
      refine lv_topi (fun z_30 ez_30 => ?_)
      obtain rfl : z_30 = 6 := ez_30.trans (by decide)
      refine lv_bipush (v := 6) hx hb dL_law_27 (by decide) ?_
      refine lv_isub hx hb dL_law_29 ?_
      refine lv_topi (fun z_31 ez_31 => ?_)
      obtain rfl : z_31 = 0 := ez_31.trans (by decide)
      refine lv_icmp_gt (tgt := 2059) hx hb dL_law_30 (by decide) (fun _ => ?_) (fun c => absurd c (by decide))
      refine lv_iconst (v := 1) hx hb dL_law_2059 (by decide) ?_
      refine va_forget (fun q hq => (hAe _).mp (hS.2.2 q hq)) ?_
      refine W.widen (k := 600002) (n := 7302232) (by omega) (by omega) ?_
      exact lw_ret hx hb hr hlocks dL_law_2060
  · refine lv_iconst (v := 1) hx hb dL_law_1388 (by decide) ?_
    refine lv_goto (tgt := 1393) hx hb dL_law_1389 (by decide) ?_
    have hPc := hP.sub (ws' := [(x, .inr (11, [.ref xpa, .ref b, .ref xsp, .ref xdy, .ref xle, .ref xst, .int 0, .ref xim, .ref xil, .int 0, .ref xmo, .ref xom, .ref xwi])), (b, .inr (0, [.ref bto, .ref bnm, .ref bla, .ref bsk, .ref bru, .ref bbo, .ref bdi, .ref bda, .ref bdk, .ref bdt, .ref bdp, .ref bno])), (bto, .inl (bcT, 5, .inl (fun _ => 0)))]) [0, 1, 2] rfl
    have hKc := hK.sub (tys' := [(bcT, .int)]) [0] rfl
    refine vp_callSl (W.runV (As := [.int (xs 1), .int (xs 2), .long ((((xs 3).toInt64) <<< ((32 : Int32).toInt64 &&& 63)) ||| (((xs 4).toInt64) &&& 4294967295)), .int 1]) (rest := []) ⟨hx, hb, hml, hown, htw⟩ (mx_alike l dC dI x xpa xsp xdy xle xst xim xil xmo xom xwi b bto bnm bla bsk bru bbo bdi bda bdk bdt bdp bno bcT (xs 1) (xs 2) ((((xs 3).toInt64) <<< ((32 : Int32).toInt64 &&& 63)) ||| (((xs 4).toInt64) &&& 4294967295)) (1 : Int32)) (cwV 4 htw (xg_V (ck_48 _ (List.mem_of_getElem? (i := 21) rfl)) (ck_48 _ (List.mem_of_getElem? (i := 22) rfl)) (ck_48 _ (List.mem_of_getElem? (i := 23) rfl)) (ck_1 _ (List.mem_of_getElem? (i := 2) rfl)) (ck_49 _ (List.mem_of_getElem? (i := 0) rfl))) rfl rfl rfl (by decide +kernel) ⟨Nat.le_of_ble_eq_true rfl, Nat.le_of_ble_eq_true rfl⟩) ⟨fun a U g mk q => by obtain ⟨q0, qP, qK⟩ := q; exact ⟨q0, qP, va_K.moved (u := U) (U := U.calling g mk a) (Vm.Alike.refl U.vm) qK⟩, va_recv hKc hPc (ci := 11) (q0 := 0) rfl rfl, fun U hU hW => ⟨rfl, by rw [hU]; exact hPc, va_K.moved hW.alike hKc⟩⟩ rfl rfl hl.1 rfl (lv_room (Nat.le_of_ble_eq_true rfl)) dL_law_1393 ⟨Nat.le_of_ble_eq_true rfl, Nat.le_of_ble_eq_true rfl⟩) (fun r_32 hw => ?_)
    try dsimp only at hw
    obtain rfl : r_32 = (-1) := hw
    refine lv_aload_n hx hb dL_law_1396 rfl (lv_at hl 2 rfl) ?_
    refine lv_aload_n hx hb dL_law_1397 rfl (lv_at hl 4 rfl) ?_
    refine lv_iload hx hb dL_law_1398 (lv_at hl 0 rfl) ?_
    refine lv_iconst (v := 1) hx hb dL_law_1400 (by decide) ?_
    refine lv_iadd hx hb dL_law_1401 ?_
    refine lv_topi (fun z_33 ez_33 => ?_)
    obtain rfl : z_33 = 1 := ez_33.trans (by decide)
    refine va_sld hx hb hX hbl hbA hS (by unfold vp_in; decide) dL_law_1402 ?_
    refine lv_topi (fun z_34 ez_34 => ?_)
    obtain rfl : z_34 = xs 1 := ez_34
    refine lv_aload_n hx hb dL_law_1403 rfl (lv_at hl 4 rfl) ?_
    refine lv_iload hx hb dL_law_1404 (lv_at hl 0 rfl) ?_
    refine lv_iconst (v := 2) hx hb dL_law_1406 (by decide) ?_
    refine lv_iadd hx hb dL_law_1407 ?_
    refine lv_topi (fun z_35 ez_35 => ?_)
    obtain rfl : z_35 = 2 := ez_35.trans (by decide)
    refine va_sld hx hb hX hbl hbA hS (by unfold vp_in; decide) dL_law_1408 ?_
    refine lv_topi (fun z_36 ez_36 => ?_)
    obtain rfl : z_36 = xs 2 := ez_36
    refine lv_aload_n hx hb dL_law_1409 rfl (lv_at hl 4 rfl) ?_
    refine lv_iload hx hb dL_law_1410 (lv_at hl 0 rfl) ?_
    refine lv_iconst (v := 3) hx hb dL_law_1412 (by decide) ?_
    refine lv_iadd hx hb dL_law_1413 ?_
    refine lv_topi (fun z_37 ez_37 => ?_)
    obtain rfl : z_37 = 3 := ez_37.trans (by decide)
    refine va_sld hx hb hX hbl hbA hS (by unfold vp_in; decide) dL_law_1414 ?_
    refine lv_topi (fun z_38 ez_38 => ?_)
    obtain rfl : z_38 = xs 3 := ez_38
    refine lv_i2l (v := (xs 3).toInt64) hx hb dL_law_1415 rfl ?_
    refine lv_bipush (v := 32) hx hb dL_law_1416 (by decide) ?_
    refine lv_lshl (v := (((xs 3).toInt64) <<< ((32 : Int32).toInt64 &&& 63))) hx hb dL_law_1418 rfl ?_
    refine lv_aload_n hx hb dL_law_1419 rfl (lv_at hl 4 rfl) ?_
    refine lv_iload hx hb dL_law_1420 (lv_at hl 0 rfl) ?_
    refine lv_iconst (v := 4) hx hb dL_law_1422 (by decide) ?_
    refine lv_iadd hx hb dL_law_1423 ?_
    refine lv_topi (fun z_39 ez_39 => ?_)
    obtain rfl : z_39 = 4 := ez_39.trans (by decide)
    refine va_sld hx hb hX hbl hbA hS (by unfold vp_in; decide) dL_law_1424 ?_
    refine lv_topi (fun z_40 ez_40 => ?_)
    obtain rfl : z_40 = xs 4 := ez_40
    refine lv_i2l (v := (xs 4).toInt64) hx hb dL_law_1425 rfl ?_
    refine lv_ldc2 (v := 4294967295) hx hb hown (htw _ (ck_1 _ (List.mem_of_getElem? (i := 7) rfl))) dL_law_1426 ?_
    refine lv_land hx hb dL_law_1429 ?_
    refine lv_lor hx hb dL_law_1430 ?_
    refine lv_aload_n hx hb dL_law_1431 rfl (lv_at hl 4 rfl) ?_
    refine lv_iload hx hb dL_law_1432 (lv_at hl 0 rfl) ?_
    refine lv_iconst (v := 5) hx hb dL_law_1434 (by decide) ?_
    refine lv_iadd hx hb dL_law_1435 ?_
    refine lv_topi (fun z_41 ez_41 => ?_)
    obtain rfl : z_41 = 5 := ez_41.trans (by decide)
    refine va_sld hx hb hX hbl hbA hS (by unfold vp_in; decide) dL_law_1436 ?_
    refine lv_topi (fun z_42 ez_42 => ?_)
    obtain rfl : z_42 = xs 5 := ez_42
    refine lv_if_eq (tgt := 1444) hx hb dL_law_1437 (by decide) (fun c_43 => ?_) (fun c_43 => ?_)
    · refine lv_iconst (v := 0) hx hb dL_law_1444 (by decide) ?_
      have hPc := hP.sub (ws' := [(mq, .inr (12, [.ref mtp, .int 0, .int 0, .ref mywords, .int 0, .int (-1), .int 0, .int 0, .int 0, .int 0, .int 0, .int 0, .int 0, .int 0, .int 0, .int 0, .int 0, .int 0, .int 0, .int 0, .int 0, .int 0, .int 0, .int 0, .ref msk, .int 0, .int 0, .int 0, .ref mln, .ref mlh, .ref mfn, .ref mfi, .ref mla, .ref mpn, .ref mbo, .ref mdi, .ref mdn, .ref mdo, .ref mdh, .ref mnn, .ref mnh, .ref mkn, .ref mpt, .ref mot, .long 0, .ref mywait, .ref myheld, .int 0, .int 0, .int 0, .int 0, .int 0, .int 0, .long 0, .long 0, .ref mynames, .ref myvalue, .int 0, .int 0, .int 0, .ref mun, .ref mycan, .int 0, .int 0, .int 0, .ref myroot, .ref myoff, .int 0, .ref mtn, .ref mtc, .int 0, .int 0, .int 0, .ref mkh, .ref mkt, .ref mkc]))]) [3] rfl
      have hKc := hK.sub (tys' := []) [] rfl
      have hDc := hD.sub (ws' := [(mq, .inr (12, [.ref mtp, .int 0, .int 0, .ref mywords, .int 0, .int (-1), .int 0, .int 0, .int 0, .int 0, .int 0, .int 0, .int 0, .int 0, .int 0, .int 0, .int 0, .int 0, .int 0, .int 0, .int 0, .int 0, .int 0, .int 0, .ref msk, .int 0, .int 0, .int 0, .ref mln, .ref mlh, .ref mfn, .ref mfi, .ref mla, .ref mpn, .ref mbo, .ref mdi, .ref mdn, .ref mdo, .ref mdh, .ref mnn, .ref mnh, .ref mkn, .ref mpt, .ref mot, .long 0, .ref mywait, .ref myheld, .int 0, .int 0, .int 0, .int 0, .int 0, .int 0, .long 0, .long 0, .ref mynames, .ref myvalue, .int 0, .int 0, .int 0, .ref mun, .ref mycan, .int 0, .int 0, .int 0, .ref myroot, .ref myoff, .int 0, .ref mtn, .ref mtc, .int 0, .int 0, .int 0, .ref mkh, .ref mkt, .ref mkc]))]) [3] (by decide) rfl
      have hFc := va_free (wc := [(mq, .inr (12, [.ref mtp, .int 0, .int 0, .ref mywords, .int 0, .int (-1), .int 0, .int 0, .int 0, .int 0, .int 0, .int 0, .int 0, .int 0, .int 0, .int 0, .int 0, .int 0, .int 0, .int 0, .int 0, .int 0, .int 0, .int 0, .ref msk, .int 0, .int 0, .int 0, .ref mln, .ref mlh, .ref mfn, .ref mfi, .ref mla, .ref mpn, .ref mbo, .ref mdi, .ref mdn, .ref mdo, .ref mdh, .ref mnn, .ref mnh, .ref mkn, .ref mpt, .ref mot, .long 0, .ref mywait, .ref myheld, .int 0, .int 0, .int 0, .int 0, .int 0, .int 0, .long 0, .long 0, .ref mynames, .ref myvalue, .int 0, .int 0, .int 0, .ref mun, .ref mycan, .int 0, .int 0, .int 0, .ref myroot, .ref myoff, .int 0, .ref mtn, .ref mtc, .int 0, .int 0, .int 0, .ref mkh, .ref mkt, .ref mkc]))]) hD hS hA [3] rfl
      refine va_calll (va_runV (As := [.int (xs 1), .int (xs 2), .long ((((xs 3).toInt64) <<< ((32 : Int32).toInt64 &&& 63)) ||| (((xs 4).toInt64) &&& 4294967295)), .int 0]) (rest := [.long (-1)]) ⟨hx, hb, hml, hown, htw⟩ (mm_alike l dC dI mq ([.ref mtp, .int 0, .int 0, .ref mywords, .int 0, .int (-1), .int 0, .int 0, .int 0, .int 0, .int 0, .int 0, .int 0, .int 0, .int 0, .int 0, .int 0, .int 0, .int 0, .int 0, .int 0, .int 0, .int 0, .int 0, .ref msk, .int 0, .int 0, .int 0, .ref mln, .ref mlh, .ref mfn, .ref mfi, .ref mla, .ref mpn, .ref mbo, .ref mdi, .ref mdn, .ref mdo, .ref mdh, .ref mnn, .ref mnh, .ref mkn, .ref mpt, .ref mot, .long 0, .ref mywait, .ref myheld, .int 0, .int 0, .int 0, .int 0, .int 0, .int 0, .long 0, .long 0, .ref mynames, .ref myvalue, .int 0, .int 0, .int 0, .ref mun, .ref mycan, .int 0, .int 0, .int 0, .ref myroot, .ref myoff, .int 0, .ref mtn, .ref mtc, .int 0, .int 0, .int 0, .ref mkh, .ref mkt, .ref mkc]) (xs 1) (xs 2) ((((xs 3).toInt64) <<< ((32 : Int32).toInt64 &&& 63)) ||| (((xs 4).toInt64) &&& 4294967295)) (0 : Int32) H.size rfl rfl) (cwV 4 htw (xg_V (ck_49 _ (List.mem_of_getElem? (i := 3) rfl)) (ck_49 _ (List.mem_of_getElem? (i := 4) rfl)) (ck_49 _ (List.mem_of_getElem? (i := 5) rfl)) (ck_1 _ (List.mem_of_getElem? (i := 5) rfl)) (ck_49 _ (List.mem_of_getElem? (i := 6) rfl))) rfl rfl rfl (by decide +kernel) ⟨Nat.le_of_ble_eq_true rfl, Nat.le_of_ble_eq_true rfl⟩) ⟨fun a U g mk q => by obtain ⟨q0, q1, qP, qK, qD⟩ := q; exact ⟨q0, q1, qP, va_K.moved (u := U) (U := U.calling g mk a) (Vm.Alike.refl U.vm) qK, qD⟩, va_recv hKc hPc (ci := 12) (q0 := 0) rfl rfl, fun U hU hW => ⟨rfl, by rw [hU], by rw [hU]; exact hPc, va_K.moved hW.alike hKc, hDc.weaken (fun _ _ _ _ => trivial)⟩⟩ rfl rfl hl.1 rfl (lv_room (Nat.le_of_ble_eq_true rfl)) dL_law_1445 ⟨Nat.le_of_ble_eq_true rfl, Nat.le_of_ble_eq_true rfl⟩) hS (fun q _ h => hFc q h) hFc (fun r_44 u_45 t H1 locs ht hvm hw hB hz1 hk1 hS => ?_)
      try dsimp only at hw
      have hP1 : va_P (dC, dI) vwCl [] H1 := fun k q h => by simp at h
      have hD1 : va_D (va_A [(mq, .inr (12, [.ref mtp, .int 0, .int 0, .ref mywords, .int 0, .int (-1), .int 0, .int 0, .int 0, .int 0, .int 0, .int 0, .int 0, .int 0, .int 0, .int 0, .int 0, .int 0, .int 0, .int 0, .int 0, .int 0, .int 0, .int 0, .ref msk, .int 0, .int 0, .int 0, .ref mln, .ref mlh, .ref mfn, .ref mfi, .ref mla, .ref mpn, .ref mbo, .ref mdi, .ref mdn, .ref mdo, .ref mdh, .ref mnn, .ref mnh, .ref mkn, .ref mpt, .ref mot, .long 0, .ref mywait, .ref myheld, .int 0, .int 0, .int 0, .int 0, .int 0, .int 0, .long 0, .long 0, .ref mynames, .ref myvalue, .int 0, .int 0, .int 0, .ref mun, .ref mycan, .int 0, .int 0, .int 0, .ref myroot, .ref myoff, .int 0, .ref mtn, .ref mtc, .int 0, .int 0, .int 0, .ref mkh, .ref mkt, .ref mkc]))] H.size) [] := ⟨fun i j p q h => by simp at h, fun k q h => by simp at h⟩
      obtain ⟨hP, hD⟩ := va_join (wr := [(x, .inr (11, [.ref xpa, .ref b, .ref xsp, .ref xdy, .ref xle, .ref xst, .int 0, .ref xim, .ref xil, .int 0, .ref xmo, .ref xom, .ref xwi])), (b, .inr (0, [.ref bto, .ref bnm, .ref bla, .ref bsk, .ref bru, .ref bbo, .ref bdi, .ref bda, .ref bdk, .ref bdt, .ref bdp, .ref bno])), (bto, .inl (bcT, 5, .inl (fun _ => 0)))]) (w1 := []) hP hD [3] [0, 1, 2] rfl rfl (by decide) (by decide) hk1 hFc hP1 hD1
      generalize H1 = H at hP hS ⊢
      have hP : va_P (dC, dI) vwCl [(x, .inr (11, [.ref xpa, .ref b, .ref xsp, .ref xdy, .ref xle, .ref xst, .int 0, .ref xim, .ref xil, .int 0, .ref xmo, .ref xom, .ref xwi])), (b, .inr (0, [.ref bto, .ref bnm, .ref bla, .ref bsk, .ref bru, .ref bbo, .ref bdi, .ref bda, .ref bdk, .ref bdt, .ref bdp, .ref bno])), (bto, .inl (bcT, 5, .inl (fun _ => 0)))] H := hP
      have hD : va_D A [(x, .inr (11, [.ref xpa, .ref b, .ref xsp, .ref xdy, .ref xle, .ref xst, .int 0, .ref xim, .ref xil, .int 0, .ref xmo, .ref xom, .ref xwi])), (b, .inr (0, [.ref bto, .ref bnm, .ref bla, .ref bsk, .ref bru, .ref bbo, .ref bdi, .ref bda, .ref bdk, .ref bdt, .ref bdp, .ref bno])), (bto, .inl (bcT, 5, .inl (fun _ => 0)))] := hD
      refine W.widen (k := 129) (n := 248806) (by omega) (by omega) ?_
      obtain rfl : r_44 = (-1) := hw
      refine W.lcmp hx hb dL_law_1448 ?_
      refine lv_if_eq (tgt := 2053) hx hb dL_law_1449 (by decide) (fun _ => ?_) (fun c => absurd c (by decide))
      refine lv_iinc (v := 6) (lv' := [(4, .int 6), (3, .ref o3), (2, .ref mq), (1, .ref x), (0, .ref bs)]) hx hb dL_law_2053 hl (k := 0) rfl (by decide) (by decide) rfl (fun ls hl => ?_)
      refine lv_goto (tgt := 23) hx hb dL_law_2056 (by decide) ?_
      refine lv_iload hx hb dL_law_23 (lv_at hl 0 rfl) ?_
      refine lv_aload_n hx hb dL_law_25 rfl (lv_at hl 4 rfl) ?_
      refine va_slen hx hb hX hbl hbA hS dL_law_26 ?_
      refine lv_topi (fun z_46 ez_46 => ?_)
      obtain rfl : z_46 = 6 := ez_46.trans (by decide)
      refine lv_bipush (v := 6) hx hb dL_law_27 (by decide) ?_
      refine lv_isub hx hb dL_law_29 ?_
      refine lv_topi (fun z_47 ez_47 => ?_)
      obtain rfl : z_47 = 0 := ez_47.trans (by decide)
      refine lv_icmp_gt (tgt := 2059) hx hb dL_law_30 (by decide) (fun _ => ?_) (fun c => absurd c (by decide))
      refine lv_iconst (v := 1) hx hb dL_law_2059 (by decide) ?_
      refine va_forget (fun q hq => (hAe _).mp (hS.2.2 q hq)) ?_
      refine W.widen (k := 600002) (n := 7302232) (by omega) (by omega) ?_
      exact lw_ret hx hb hr hlocks dL_law_2060
    · refine lv_iconst (v := 1) hx hb dL_law_1440 (by decide) ?_
      refine lv_goto (tgt := 1445) hx hb dL_law_1441 (by decide) ?_
      have hPc := hP.sub (ws' := [(mq, .inr (12, [.ref mtp, .int 0, .int 0, .ref mywords, .int 0, .int (-1), .int 0, .int 0, .int 0, .int 0, .int 0, .int 0, .int 0, .int 0, .int 0, .int 0, .int 0, .int 0, .int 0, .int 0, .int 0, .int 0, .int 0, .int 0, .ref msk, .int 0, .int 0, .int 0, .ref mln, .ref mlh, .ref mfn, .ref mfi, .ref mla, .ref mpn, .ref mbo, .ref mdi, .ref mdn, .ref mdo, .ref mdh, .ref mnn, .ref mnh, .ref mkn, .ref mpt, .ref mot, .long 0, .ref mywait, .ref myheld, .int 0, .int 0, .int 0, .int 0, .int 0, .int 0, .long 0, .long 0, .ref mynames, .ref myvalue, .int 0, .int 0, .int 0, .ref mun, .ref mycan, .int 0, .int 0, .int 0, .ref myroot, .ref myoff, .int 0, .ref mtn, .ref mtc, .int 0, .int 0, .int 0, .ref mkh, .ref mkt, .ref mkc]))]) [3] rfl
      have hKc := hK.sub (tys' := []) [] rfl
      have hDc := hD.sub (ws' := [(mq, .inr (12, [.ref mtp, .int 0, .int 0, .ref mywords, .int 0, .int (-1), .int 0, .int 0, .int 0, .int 0, .int 0, .int 0, .int 0, .int 0, .int 0, .int 0, .int 0, .int 0, .int 0, .int 0, .int 0, .int 0, .int 0, .int 0, .ref msk, .int 0, .int 0, .int 0, .ref mln, .ref mlh, .ref mfn, .ref mfi, .ref mla, .ref mpn, .ref mbo, .ref mdi, .ref mdn, .ref mdo, .ref mdh, .ref mnn, .ref mnh, .ref mkn, .ref mpt, .ref mot, .long 0, .ref mywait, .ref myheld, .int 0, .int 0, .int 0, .int 0, .int 0, .int 0, .long 0, .long 0, .ref mynames, .ref myvalue, .int 0, .int 0, .int 0, .ref mun, .ref mycan, .int 0, .int 0, .int 0, .ref myroot, .ref myoff, .int 0, .ref mtn, .ref mtc, .int 0, .int 0, .int 0, .ref mkh, .ref mkt, .ref mkc]))]) [3] (by decide) rfl
      have hFc := va_free (wc := [(mq, .inr (12, [.ref mtp, .int 0, .int 0, .ref mywords, .int 0, .int (-1), .int 0, .int 0, .int 0, .int 0, .int 0, .int 0, .int 0, .int 0, .int 0, .int 0, .int 0, .int 0, .int 0, .int 0, .int 0, .int 0, .int 0, .int 0, .ref msk, .int 0, .int 0, .int 0, .ref mln, .ref mlh, .ref mfn, .ref mfi, .ref mla, .ref mpn, .ref mbo, .ref mdi, .ref mdn, .ref mdo, .ref mdh, .ref mnn, .ref mnh, .ref mkn, .ref mpt, .ref mot, .long 0, .ref mywait, .ref myheld, .int 0, .int 0, .int 0, .int 0, .int 0, .int 0, .long 0, .long 0, .ref mynames, .ref myvalue, .int 0, .int 0, .int 0, .ref mun, .ref mycan, .int 0, .int 0, .int 0, .ref myroot, .ref myoff, .int 0, .ref mtn, .ref mtc, .int 0, .int 0, .int 0, .ref mkh, .ref mkt, .ref mkc]))]) hD hS hA [3] rfl
      refine va_calll (va_runV (As := [.int (xs 1), .int (xs 2), .long ((((xs 3).toInt64) <<< ((32 : Int32).toInt64 &&& 63)) ||| (((xs 4).toInt64) &&& 4294967295)), .int 1]) (rest := [.long (-1)]) ⟨hx, hb, hml, hown, htw⟩ (mm_alike l dC dI mq ([.ref mtp, .int 0, .int 0, .ref mywords, .int 0, .int (-1), .int 0, .int 0, .int 0, .int 0, .int 0, .int 0, .int 0, .int 0, .int 0, .int 0, .int 0, .int 0, .int 0, .int 0, .int 0, .int 0, .int 0, .int 0, .ref msk, .int 0, .int 0, .int 0, .ref mln, .ref mlh, .ref mfn, .ref mfi, .ref mla, .ref mpn, .ref mbo, .ref mdi, .ref mdn, .ref mdo, .ref mdh, .ref mnn, .ref mnh, .ref mkn, .ref mpt, .ref mot, .long 0, .ref mywait, .ref myheld, .int 0, .int 0, .int 0, .int 0, .int 0, .int 0, .long 0, .long 0, .ref mynames, .ref myvalue, .int 0, .int 0, .int 0, .ref mun, .ref mycan, .int 0, .int 0, .int 0, .ref myroot, .ref myoff, .int 0, .ref mtn, .ref mtc, .int 0, .int 0, .int 0, .ref mkh, .ref mkt, .ref mkc]) (xs 1) (xs 2) ((((xs 3).toInt64) <<< ((32 : Int32).toInt64 &&& 63)) ||| (((xs 4).toInt64) &&& 4294967295)) (1 : Int32) H.size rfl rfl) (cwV 4 htw (xg_V (ck_49 _ (List.mem_of_getElem? (i := 3) rfl)) (ck_49 _ (List.mem_of_getElem? (i := 4) rfl)) (ck_49 _ (List.mem_of_getElem? (i := 5) rfl)) (ck_1 _ (List.mem_of_getElem? (i := 5) rfl)) (ck_49 _ (List.mem_of_getElem? (i := 6) rfl))) rfl rfl rfl (by decide +kernel) ⟨Nat.le_of_ble_eq_true rfl, Nat.le_of_ble_eq_true rfl⟩) ⟨fun a U g mk q => by obtain ⟨q0, q1, qP, qK, qD⟩ := q; exact ⟨q0, q1, qP, va_K.moved (u := U) (U := U.calling g mk a) (Vm.Alike.refl U.vm) qK, qD⟩, va_recv hKc hPc (ci := 12) (q0 := 0) rfl rfl, fun U hU hW => ⟨rfl, by rw [hU], by rw [hU]; exact hPc, va_K.moved hW.alike hKc, hDc.weaken (fun _ _ _ _ => trivial)⟩⟩ rfl rfl hl.1 rfl (lv_room (Nat.le_of_ble_eq_true rfl)) dL_law_1445 ⟨Nat.le_of_ble_eq_true rfl, Nat.le_of_ble_eq_true rfl⟩) hS (fun q _ h => hFc q h) hFc (fun r_48 u_49 t H1 locs ht hvm hw hB hz1 hk1 hS => ?_)
      try dsimp only at hw
      have hP1 : va_P (dC, dI) vwCl [] H1 := fun k q h => by simp at h
      have hD1 : va_D (va_A [(mq, .inr (12, [.ref mtp, .int 0, .int 0, .ref mywords, .int 0, .int (-1), .int 0, .int 0, .int 0, .int 0, .int 0, .int 0, .int 0, .int 0, .int 0, .int 0, .int 0, .int 0, .int 0, .int 0, .int 0, .int 0, .int 0, .int 0, .ref msk, .int 0, .int 0, .int 0, .ref mln, .ref mlh, .ref mfn, .ref mfi, .ref mla, .ref mpn, .ref mbo, .ref mdi, .ref mdn, .ref mdo, .ref mdh, .ref mnn, .ref mnh, .ref mkn, .ref mpt, .ref mot, .long 0, .ref mywait, .ref myheld, .int 0, .int 0, .int 0, .int 0, .int 0, .int 0, .long 0, .long 0, .ref mynames, .ref myvalue, .int 0, .int 0, .int 0, .ref mun, .ref mycan, .int 0, .int 0, .int 0, .ref myroot, .ref myoff, .int 0, .ref mtn, .ref mtc, .int 0, .int 0, .int 0, .ref mkh, .ref mkt, .ref mkc]))] H.size) [] := ⟨fun i j p q h => by simp at h, fun k q h => by simp at h⟩
      obtain ⟨hP, hD⟩ := va_join (wr := [(x, .inr (11, [.ref xpa, .ref b, .ref xsp, .ref xdy, .ref xle, .ref xst, .int 0, .ref xim, .ref xil, .int 0, .ref xmo, .ref xom, .ref xwi])), (b, .inr (0, [.ref bto, .ref bnm, .ref bla, .ref bsk, .ref bru, .ref bbo, .ref bdi, .ref bda, .ref bdk, .ref bdt, .ref bdp, .ref bno])), (bto, .inl (bcT, 5, .inl (fun _ => 0)))]) (w1 := []) hP hD [3] [0, 1, 2] rfl rfl (by decide) (by decide) hk1 hFc hP1 hD1
      generalize H1 = H at hP hS ⊢
      have hP : va_P (dC, dI) vwCl [(x, .inr (11, [.ref xpa, .ref b, .ref xsp, .ref xdy, .ref xle, .ref xst, .int 0, .ref xim, .ref xil, .int 0, .ref xmo, .ref xom, .ref xwi])), (b, .inr (0, [.ref bto, .ref bnm, .ref bla, .ref bsk, .ref bru, .ref bbo, .ref bdi, .ref bda, .ref bdk, .ref bdt, .ref bdp, .ref bno])), (bto, .inl (bcT, 5, .inl (fun _ => 0)))] H := hP
      have hD : va_D A [(x, .inr (11, [.ref xpa, .ref b, .ref xsp, .ref xdy, .ref xle, .ref xst, .int 0, .ref xim, .ref xil, .int 0, .ref xmo, .ref xom, .ref xwi])), (b, .inr (0, [.ref bto, .ref bnm, .ref bla, .ref bsk, .ref bru, .ref bbo, .ref bdi, .ref bda, .ref bdk, .ref bdt, .ref bdp, .ref bno])), (bto, .inl (bcT, 5, .inl (fun _ => 0)))] := hD
      refine W.widen (k := 129) (n := 248806) (by omega) (by omega) ?_
      obtain rfl : r_48 = (-1) := hw
      refine W.lcmp hx hb dL_law_1448 ?_
      refine lv_if_eq (tgt := 2053) hx hb dL_law_1449 (by decide) (fun _ => ?_) (fun c => absurd c (by decide))
      refine lv_iinc (v := 6) (lv' := [(4, .int 6), (3, .ref o3), (2, .ref mq), (1, .ref x), (0, .ref bs)]) hx hb dL_law_2053 hl (k := 0) rfl (by decide) (by decide) rfl (fun ls hl => ?_)
      refine lv_goto (tgt := 23) hx hb dL_law_2056 (by decide) ?_
      refine lv_iload hx hb dL_law_23 (lv_at hl 0 rfl) ?_
      refine lv_aload_n hx hb dL_law_25 rfl (lv_at hl 4 rfl) ?_
      refine va_slen hx hb hX hbl hbA hS dL_law_26 ?_
      refine lv_topi (fun z_50 ez_50 => ?_)
      obtain rfl : z_50 = 6 := ez_50.trans (by decide)
      refine lv_bipush (v := 6) hx hb dL_law_27 (by decide) ?_
      refine lv_isub hx hb dL_law_29 ?_
      refine lv_topi (fun z_51 ez_51 => ?_)
      obtain rfl : z_51 = 0 := ez_51.trans (by decide)
      refine lv_icmp_gt (tgt := 2059) hx hb dL_law_30 (by decide) (fun _ => ?_) (fun c => absurd c (by decide))
      refine lv_iconst (v := 1) hx hb dL_law_2059 (by decide) ?_
      refine va_forget (fun q hq => (hAe _).mp (hS.2.2 q hq)) ?_
      refine W.widen (k := 600002) (n := 7302232) (by omega) (by omega) ?_
      exact lw_ret hx hb hr hlocks dL_law_2060
