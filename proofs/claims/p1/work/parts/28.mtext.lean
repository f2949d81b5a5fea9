theorem dX12_text_0 : decode cX12_text 0 = .ok (.aload_n 0, 1) := by decide +kernel
theorem dX12_text_1 : decode cX12_text 1 = .ok (.iconst 0, 1) := by decide +kernel
theorem dX12_text_2 : decode cX12_text 2 = .ok (.putfield 119, 3) := by decide +kernel
theorem dX12_text_5 : decode cX12_text 5 = .ok (.iload_n 1, 1) := by decide +kernel
theorem dX12_text_6 : decode cX12_text 6 = .ok (.ifCond .lt 11, 3) := by decide +kernel
theorem dX12_text_17 : decode cX12_text 17 = .ok (.bipush (-2), 2) := by decide +kernel
theorem dX12_text_19 : decode cX12_text 19 = .ok (.ireturn, 1) := by decide +kernel
theorem dX12_text_9 : decode cX12_text 9 = .ok (.iload_n 1, 1) := by decide +kernel
theorem dX12_text_10 : decode cX12_text 10 = .ok (.aload_n 0, 1) := by decide +kernel
theorem dX12_text_11 : decode cX12_text 11 = .ok (.getfield 122, 3) := by decide +kernel
theorem dX12_text_14 : decode cX12_text 14 = .ok (.if_icmp .le 6, 3) := by decide +kernel
theorem dX12_text_20 : decode cX12_text 20 = .ok (.aload_n 0, 1) := by decide +kernel
theorem dX12_text_21 : decode cX12_text 21 = .ok (.iload_n 1, 1) := by decide +kernel
theorem dX12_text_22 : decode cX12_text 22 = .ok (.putfield 133, 3) := by decide +kernel
theorem dX12_text_25 : decode cX12_text 25 = .ok (.aload_n 0, 1) := by decide +kernel
theorem dX12_text_26 : decode cX12_text 26 = .ok (.iconst 0, 1) := by decide +kernel
theorem dX12_text_27 : decode cX12_text 27 = .ok (.putfield 122, 3) := by decide +kernel
theorem dX12_text_30 : decode cX12_text 30 = .ok (.aload_n 0, 1) := by decide +kernel
theorem dX12_text_31 : decode cX12_text 31 = .ok (.iconst 0, 1) := by decide +kernel
theorem dX12_text_32 : decode cX12_text 32 = .ok (.putfield 127, 3) := by decide +kernel
theorem dX12_text_35 : decode cX12_text 35 = .ok (.aload_n 0, 1) := by decide +kernel
theorem dX12_text_36 : decode cX12_text 36 = .ok (.iconst (-1), 1) := by decide +kernel
theorem dX12_text_37 : decode cX12_text 37 = .ok (.putfield 16, 3) := by decide +kernel
theorem dX12_text_40 : decode cX12_text 40 = .ok (.aload_n 0, 1) := by decide +kernel
theorem dX12_text_41 : decode cX12_text 41 = .ok (.iconst 0, 1) := by decide +kernel
theorem dX12_text_42 : decode cX12_text 42 = .ok (.putfield 136, 3) := by decide +kernel
theorem dX12_text_45 : decode cX12_text 45 = .ok (.aload_n 0, 1) := by decide +kernel
theorem dX12_text_46 : decode cX12_text 46 = .ok (.invokevirtual 113, 3) := by decide +kernel
theorem dX12_text_49 : decode cX12_text 49 = .ok (.aload_n 0, 1) := by decide +kernel
theorem dX12_text_50 : decode cX12_text 50 = .ok (.invokevirtual 173, 3) := by decide +kernel
theorem dX12_text_53 : decode cX12_text 53 = .ok (.iconst 0, 1) := by decide +kernel
theorem dX12_text_54 : decode cX12_text 54 = .ok (.istore_n 2, 1) := by decide +kernel
theorem dX12_text_55 : decode cX12_text 55 = .ok (.aload_n 0, 1) := by decide +kernel
theorem dX12_text_56 : decode cX12_text 56 = .ok (.getfield 139, 3) := by decide +kernel
theorem dX12_text_59 : decode cX12_text 59 = .ok (.ifCond .eq 18, 3) := by decide +kernel
theorem dX12_text_77 : decode cX12_text 77 = .ok (.aload_n 0, 1) := by decide +kernel
theorem dX12_text_78 : decode cX12_text 78 = .ok (.invokevirtual 116, 3) := by decide +kernel
theorem dX12_text_81 : decode cX12_text 81 = .ok (.iload_n 2, 1) := by decide +kernel
theorem dX12_text_82 : decode cX12_text 82 = .ok (.ireturn, 1) := by decide +kernel
set_option maxHeartbeats 4000000 in
set_option maxRecDepth 100000 in
theorem mm_text (l : Launch) (dC : Nat → ClassId) (dI : Nat → Nat → Nat) (mq : Nat) (fs : List Value) (msk : Nat) (mln : Nat) (mlh : Nat) (mfn : Nat) (mfi : Nat) (mla : Nat) (mpn : Nat) (mbo : Nat) (mdi : Nat) (mdn : Nat) (mdo : Nat) (mdh : Nat) (mnn : Nat) (mnh : Nat) (mkn : Nat) (mpt : Nat) (mot : Nat) (cmsk : ClassId) (cmln : ClassId) (cmlh : ClassId) (cmfn : ClassId) (cmfi : ClassId) (cmla : ClassId) (cmpn : ClassId) (cmbo : ClassId) (cmdi : ClassId) (cmdn : ClassId) (cmdo : ClassId) (cmdh : ClassId) (cmnn : ClassId) (cmnh : ClassId) (cmkn : ClassId) (cmpt : ClassId) (cmot : ClassId) (fmsk : Nat → Int32) (fmln : Nat → Int32) (fmlh : Nat → Int32) (fmfn : Nat → Int32) (fmfi : Nat → Int32) (fmla : Nat → Int32) (fmpn : Nat → Int32) (fmbo : Nat → Int64) (fmdi : Nat → Int64) (fmdn : Nat → Int32) (fmdo : Nat → Int64) (fmdh : Nat → Int32) (fmnn : Nat → Int32) (fmnh : Nat → Int32) (fmkn : Nat → Int32) (fmpt : Nat → Int32) (fmot : Nat → Int32) (a0 : Int32) (sz : Nat) (hlen : fs.length = 76) (hf1 : fs[1]? = some (.int 0)) (hf24 : fs[24]? = some (.ref msk)) (hf28 : fs[28]? = some (.ref mln)) (hf29 : fs[29]? = some (.ref mlh)) (hf30 : fs[30]? = some (.ref mfn)) (hf31 : fs[31]? = some (.ref mfi)) (hf32 : fs[32]? = some (.ref mla)) (hf33 : fs[33]? = some (.ref mpn)) (hf34 : fs[34]? = some (.ref mbo)) (hf35 : fs[35]? = some (.ref mdi)) (hf36 : fs[36]? = some (.ref mdn)) (hf37 : fs[37]? = some (.ref mdo)) (hf38 : fs[38]? = some (.ref mdh)) (hf39 : fs[39]? = some (.ref mnn)) (hf40 : fs[40]? = some (.ref mnh)) (hf41 : fs[41]? = some (.ref mkn)) (hf42 : fs[42]? = some (.ref mpt)) (hf43 : fs[43]? = some (.ref mot)) : Met l yX12_text (Cond.code yX12_text cX12_text 3 (some .int) :: wsL_law) ({ frames := 2, cells := 0, slots := 0, locals := 42 }) (va_Pc [.ref mq, .int a0] (fun U => U.heap.size = sz ∧ va_P (dC, dI) vwCl [(mq, .inr (12, fs)), (msk, .inl (cmsk, 14, .inl fmsk)), (mln, .inl (cmln, 8, .inl fmln)), (mlh, .inl (cmlh, 24, .inl fmlh)), (mfn, .inl (cmfn, 8, .inl fmfn)), (mfi, .inl (cmfi, 8, .inl fmfi)), (mla, .inl (cmla, 8, .inl fmla)), (mpn, .inl (cmpn, 12, .inl fmpn)), (mbo, .inl (cmbo, 12, .inr (.inl fmbo))), (mdi, .inl (cmdi, 12, .inr (.inl fmdi))), (mdn, .inl (cmdn, 8, .inl fmdn)), (mdo, .inl (cmdo, 8, .inr (.inl fmdo))), (mdh, .inl (cmdh, 24, .inl fmdh)), (mnn, .inl (cmnn, 12, .inl fmnn)), (mnh, .inl (cmnh, 264, .inl fmnh)), (mkn, .inl (cmkn, 128, .inl fmkn)), (mpt, .inl (cmpt, 128, .inl fmpt)), (mot, .inl (cmot, 128, .inl fmot))] U.heap ∧ va_K (dC, dI) vwCl [(cmsk, .int), (cmln, .int), (cmlh, .int), (cmfn, .int), (cmfi, .int), (cmla, .int), (cmpn, .int), (cmbo, .long), (cmdi, .long), (cmdn, .int), (cmdo, .long), (cmdh, .int), (cmnn, .int), (cmnh, .int), (cmkn, .int), (cmpt, .int), (cmot, .int)] U ∧ va_D (fun _ => True) [(mq, .inr (12, fs)), (msk, .inl (cmsk, 14, .inl fmsk)), (mln, .inl (cmln, 8, .inl fmln)), (mlh, .inl (cmlh, 24, .inl fmlh)), (mfn, .inl (cmfn, 8, .inl fmfn)), (mfi, .inl (cmfi, 8, .inl fmfi)), (mla, .inl (cmla, 8, .inl fmla)), (mpn, .inl (cmpn, 12, .inl fmpn)), (mbo, .inl (cmbo, 12, .inr (.inl fmbo))), (mdi, .inl (cmdi, 12, .inr (.inl fmdi))), (mdn, .inl (cmdn, 8, .inl fmdn)), (mdo, .inl (cmdo, 8, .inr (.inl fmdo))), (mdh, .inl (cmdh, 24, .inl fmdh)), (mnn, .inl (cmnn, 12, .inl fmnn)), (mnh, .inl (cmnh, 264, .inl fmnh)), (mkn, .inl (cmkn, 128, .inl fmkn)), (mpt, .inl (cmpt, 128, .inl fmpt)), (mot, .inl (cmot, 128, .inl fmot))])) (va_Qi (fun (r : Int32) (u : Unit) => r = xr_text a0) (fun _ _ => True) (va_A [(mq, .inr (12, fs)), (msk, .inl (cmsk, 14, .inl fmsk)), (mln, .inl (cmln, 8, .inl fmln)), (mlh, .inl (cmlh, 24, .inl fmlh)), (mfn, .inl (cmfn, 8, .inl fmfn)), (mfi, .inl (cmfi, 8, .inl fmfi)), (mla, .inl (cmla, 8, .inl fmla)), (mpn, .inl (cmpn, 12, .inl fmpn)), (mbo, .inl (cmbo, 12, .inr (.inl fmbo))), (mdi, .inl (cmdi, 12, .inr (.inl fmdi))), (mdn, .inl (cmdn, 8, .inl fmdn)), (mdo, .inl (cmdo, 8, .inr (.inl fmdo))), (mdh, .inl (cmdh, 24, .inl fmdh)), (mnn, .inl (cmnn, 12, .inl fmnn)), (mnh, .inl (cmnh, 264, .inl fmnh)), (mkn, .inl (cmkn, 128, .inl fmkn)), (mpt, .inl (cmpt, 128, .inl fmpt)), (mot, .inl (cmot, 128, .inl fmot))] sz)) 0 0 (va_A [(mq, .inr (12, fs)), (msk, .inl (cmsk, 14, .inl fmsk)), (mln, .inl (cmln, 8, .inl fmln)), (mlh, .inl (cmlh, 24, .inl fmlh)), (mfn, .inl (cmfn, 8, .inl fmfn)), (mfi, .inl (cmfi, 8, .inl fmfi)), (mla, .inl (cmla, 8, .inl fmla)), (mpn, .inl (cmpn, 12, .inl fmpn)), (mbo, .inl (cmbo, 12, .inr (.inl fmbo))), (mdi, .inl (cmdi, 12, .inr (.inl fmdi))), (mdn, .inl (cmdn, 8, .inl fmdn)), (mdo, .inl (cmdo, 8, .inr (.inl fmdo))), (mdh, .inl (cmdh, 24, .inl fmdh)), (mnn, .inl (cmnn, 12, .inl fmnn)), (mnh, .inl (cmnh, 264, .inl fmnh)), (mkn, .inl (cmkn, 128, .inl fmkn)), (mpt, .inl (cmpt, 128, .inl fmpt)), (mot, .inl (cmot, 128, .inl fmot))] sz) := by
  refine Met.ofW (cc := cX12_text) (maxL := 3) (ret := (some .int)) (by decide) rfl ?_
  intro p e s m args below meth c s₁ B hml hv
  obtain ⟨rfl, hsz, hP, hK, hD0⟩ := hv
  have hx := B.exec
  have hb := B.bytes
  have hr := B.returns
  have hts := atoms_spec (ws := Cond.code yX12_text cX12_text 3 (some .int) :: wsL_law) B.pre
  have htw : ∀ w ∈ wsL_law, w.before _ s = true := fun w h => hts w (List.mem_cons_of_mem _ h)
  have hown : s.vm.findClass RX12 = some m.cls := findClass_of_methodNamed B.named
  have hlocks := B.notSynchronized
  subst hsz
  have hD := hD0.self (sz := s.heap.size)
  generalize hAe : va_A [(mq, .inr (12, fs)), (msk, .inl (cmsk, 14, .inl fmsk)), (mln, .inl (cmln, 8, .inl fmln)), (mlh, .inl (cmlh, 24, .inl fmlh)), (mfn, .inl (cmfn, 8, .inl fmfn)), (mfi, .inl (cmfi, 8, .inl fmfi)), (mla, .inl (cmla, 8, .inl fmla)), (mpn, .inl (cmpn, 12, .inl fmpn)), (mbo, .inl (cmbo, 12, .inr (.inl fmbo))), (mdi, .inl (cmdi, 12, .inr (.inl fmdi))), (mdn, .inl (cmdn, 8, .inl fmdn)), (mdo, .inl (cmdo, 8, .inr (.inl fmdo))), (mdh, .inl (cmdh, 24, .inl fmdh)), (mnn, .inl (cmnn, 12, .inl fmnn)), (mnh, .inl (cmnh, 264, .inl fmnh)), (mkn, .inl (cmkn, 128, .inl fmkn)), (mpt, .inl (cmpt, 128, .inl fmpt)), (mot, .inl (cmot, 128, .inl fmot))] s.heap.size = A at hD ⊢
  have hA : ∀ q : Nat, s.heap.size ≤ q → A q := fun q h => by rw [← hAe]; exact Or.inr h
  obtain ⟨H, rH⟩ : ∃ z : Heap, z = s.heap := ⟨_, rfl⟩
  have hS : va_S A s.heap H [] := by rw [rH]; exact va_S.rf
  have hP : va_P (dC, dI) vwCl [(mq, .inr (12, fs)), (msk, .inl (cmsk, 14, .inl fmsk)), (mln, .inl (cmln, 8, .inl fmln)), (mlh, .inl (cmlh, 24, .inl fmlh)), (mfn, .inl (cmfn, 8, .inl fmfn)), (mfi, .inl (cmfi, 8, .inl fmfi)), (mla, .inl (cmla, 8, .inl fmla)), (mpn, .inl (cmpn, 12, .inl fmpn)), (mbo, .inl (cmbo, 12, .inr (.inl fmbo))), (mdi, .inl (cmdi, 12, .inr (.inl fmdi))), (mdn, .inl (cmdn, 8, .inl fmdn)), (mdo, .inl (cmdo, 8, .inr (.inl fmdo))), (mdh, .inl (cmdh, 24, .inl fmdh)), (mnn, .inl (cmnn, 12, .inl fmnn)), (mnh, .inl (cmnh, 264, .inl fmnh)), (mkn, .inl (cmkn, 128, .inl fmkn)), (mpt, .inl (cmpt, 128, .inl fmpt)), (mot, .inl (cmot, 128, .inl fmot))] H := by rw [rH]; exact hP
  rw [← rH]
  have hl := lv_entry ([.ref mq, .int a0]) (n := 3) (Nat.le_of_ble_eq_true rfl)
  rw [lg_entry_eq]
  generalize (lg_sl ([.ref mq, .int a0]) ++ List.replicate (3 - (lg_sl ([.ref mq, .int a0])).length) Slot.unset).toArray = ls at hl ⊢
  have hl : lv_has ls 3 [(0, .ref mq), (1, .int a0)] := hl
  refine lv_aload_n hx hb dX12_text_0 rfl (lv_at hl 0 rfl) ?_
  refine lv_iconst (v := 0) hx hb dX12_text_1 (by decide) ?_
  refine va_put (D := (dC, dI)) (ci := 12) (v := .int 0) (ty := tyX12 2) (C := RX12) (T := TX12) (N := 76) hx hb htw inlX12 tyX12 tyX12_ok nmX12 hown hK hP hD hS 0 rfl rfl 2 (by decide) (htw _ (ck_12 _ (List.mem_of_getElem? (i := 16) rfl))) (fun _ h9 => h9) rfl (by decide +kernel) rfl rfl (by rw [hlen]; decide) dX12_text_2 (fun H locs hP hD hS => ?_)
  obtain ⟨fs_1, efs_1⟩ : ∃ g : List Value, g = (fs).set 2 (.int 0) := ⟨_, rfl⟩
  have hlen_2 : fs_1.length = 76 := by rw [efs_1, List.length_set]; exact hlen
  have hf_3 : fs_1[1]? = some (.int 0) := by rw [efs_1, List.getElem?_set_ne (by decide)]; exact hf1
  have hf_4 : fs_1[24]? = some (.ref msk) := by rw [efs_1, List.getElem?_set_ne (by decide)]; exact hf24
  have hf_5 : fs_1[28]? = some (.ref mln) := by rw [efs_1, List.getElem?_set_ne (by decide)]; exact hf28
  have hf_6 : fs_1[29]? = some (.ref mlh) := by rw [efs_1, List.getElem?_set_ne (by decide)]; exact hf29
  have hf_7 : fs_1[30]? = some (.ref mfn) := by rw [efs_1, List.getElem?_set_ne (by decide)]; exact hf30
  have hf_8 : fs_1[31]? = some (.ref mfi) := by rw [efs_1, List.getElem?_set_ne (by decide)]; exact hf31
  have hf_9 : fs_1[32]? = some (.ref mla) := by rw [efs_1, List.getElem?_set_ne (by decide)]; exact hf32
  have hf_10 : fs_1[33]? = some (.ref mpn) := by rw [efs_1, List.getElem?_set_ne (by decide)]; exact hf33
  have hf_11 : fs_1[34]? = some (.ref mbo) := by rw [efs_1, List.getElem?_set_ne (by decide)]; exact hf34
  have hf_12 : fs_1[35]? = some (.ref mdi) := by rw [efs_1, List.getElem?_set_ne (by decide)]; exact hf35
  have hf_13 : fs_1[36]? = some (.ref mdn) := by rw [efs_1, List.getElem?_set_ne (by decide)]; exact hf36
  have hf_14 : fs_1[37]? = some (.ref mdo) := by rw [efs_1, List.getElem?_set_ne (by decide)]; exact hf37
  have hf_15 : fs_1[38]? = some (.ref mdh) := by rw [efs_1, List.getElem?_set_ne (by decide)]; exact hf38
  have hf_16 : fs_1[39]? = some (.ref mnn) := by rw [efs_1, List.getElem?_set_ne (by decide)]; exact hf39
  have hf_17 : fs_1[40]? = some (.ref mnh) := by rw [efs_1, List.getElem?_set_ne (by decide)]; exact hf40
  have hf_18 : fs_1[41]? = some (.ref mkn) := by rw [efs_1, List.getElem?_set_ne (by decide)]; exact hf41
  have hf_19 : fs_1[42]? = some (.ref mpt) := by rw [efs_1, List.getElem?_set_ne (by decide)]; exact hf42
  have hf_20 : fs_1[43]? = some (.ref mot) := by rw [efs_1, List.getElem?_set_ne (by decide)]; exact hf43
  have hf_21 : fs_1[2]? = some (.int 0) := by rw [efs_1]; exact List.getElem?_set_self (by rw [hlen]; decide)
  rw [← efs_1] at hP hD
  have hP : va_P (dC, dI) vwCl [(mq, .inr (12, fs_1)), (msk, .inl (cmsk, 14, .inl fmsk)), (mln, .inl (cmln, 8, .inl fmln)), (mlh, .inl (cmlh, 24, .inl fmlh)), (mfn, .inl (cmfn, 8, .inl fmfn)), (mfi, .inl (cmfi, 8, .inl fmfi)), (mla, .inl (cmla, 8, .inl fmla)), (mpn, .inl (cmpn, 12, .inl fmpn)), (mbo, .inl (cmbo, 12, .inr (.inl fmbo))), (mdi, .inl (cmdi, 12, .inr (.inl fmdi))), (mdn, .inl (cmdn, 8, .inl fmdn)), (mdo, .inl (cmdo, 8, .inr (.inl fmdo))), (mdh, .inl (cmdh, 24, .inl fmdh)), (mnn, .inl (cmnn, 12, .inl fmnn)), (mnh, .inl (cmnh, 264, .inl fmnh)), (mkn, .inl (cmkn, 128, .inl fmkn)), (mpt, .inl (cmpt, 128, .inl fmpt)), (mot, .inl (cmot, 128, .inl fmot))] H := hP
  have hD : va_D A [(mq, .inr (12, fs_1)), (msk, .inl (cmsk, 14, .inl fmsk)), (mln, .inl (cmln, 8, .inl fmln)), (mlh, .inl (cmlh, 24, .inl fmlh)), (mfn, .inl (cmfn, 8, .inl fmfn)), (mfi, .inl (cmfi, 8, .inl fmfi)), (mla, .inl (cmla, 8, .inl fmla)), (mpn, .inl (cmpn, 12, .inl fmpn)), (mbo, .inl (cmbo, 12, .inr (.inl fmbo))), (mdi, .inl (cmdi, 12, .inr (.inl fmdi))), (mdn, .inl (cmdn, 8, .inl fmdn)), (mdo, .inl (cmdo, 8, .inr (.inl fmdo))), (mdh, .inl (cmdh, 24, .inl fmdh)), (mnn, .inl (cmnn, 12, .inl fmnn)), (mnh, .inl (cmnh, 264, .inl fmnh)), (mkn, .inl (cmkn, 128, .inl fmkn)), (mpt, .inl (cmpt, 128, .inl fmpt)), (mot, .inl (cmot, 128, .inl fmot))] := hD
  refine lv_iload_n hx hb dX12_text_5 rfl (lv_at hl 1 rfl) ?_
  refine lv_if_lt (tgt := 17) hx hb dX12_text_6 (by decide) (fun c_22 => ?_) (fun c_22 => ?_)
  · refine lv_bipush (v := (-2)) hx hb dX12_text_17 (by decide) ?_
    refine W.widen (k := 0) (n := 0) (by omega) (by omega) ?_
    exact W.iret (v := (-2)) hx hb hr (fun t ht hW => ⟨⟨(-2), (), rfl, (xm_text1 c_22).symm, trivial⟩, hS.F ht⟩) hS.2.2 dX12_text_19
  · refine lv_iload_n hx hb dX12_text_9 rfl (lv_at hl 1 rfl) ?_
    refine lv_aload_n hx hb dX12_text_10 rfl (lv_at hl 0 rfl) ?_
    refine va_get (D := (dC, dI)) (ci := 12) (v := .int 0) (C := RX12) (T := TX12) (N := 76) hx hb htw inlX12 hown hK hP 0 rfl rfl 1 (by decide) (htw _ (ck_12 _ (List.mem_of_getElem? (i := 17) rfl))) (fun _ h9 => h9) hf_3 dX12_text_11 ?_
    refine lv_icmp_le (tgt := 20) hx hb dX12_text_14 (by decide) (fun c_23 => ?_) (fun c_23 => ?_)
    · obtain rfl : a0 = 0 := xm_zero c_22 c_23
      refine lv_aload_n hx hb dX12_text_20 rfl (lv_at hl 0 rfl) ?_
      refine lv_iload_n hx hb dX12_text_21 rfl (lv_at hl 1 rfl) ?_
      refine va_put (D := (dC, dI)) (ci := 12) (v := .int 0) (ty := tyX12 6) (C := RX12) (T := TX12) (N := 76) hx hb htw inlX12 tyX12 tyX12_ok nmX12 hown hK hP hD hS 0 rfl rfl 6 (by decide) (htw _ (ck_24 _ (List.mem_of_getElem? (i := 10) rfl))) (fun _ h9 => h9) rfl (by decide +kernel) rfl rfl (by rw [hlen_2]; decide) dX12_text_22 (fun H locs hP hD hS => ?_)
      obtain ⟨fs_24, efs_24⟩ : ∃ g : List Value, g = (fs_1).set 6 (.int 0) := ⟨_, rfl⟩
      have hlen_25 : fs_24.length = 76 := by rw [efs_24, List.length_set]; exact hlen_2
      have hf_26 : fs_24[1]? = some (.int 0) := by rw [efs_24, List.getElem?_set_ne (by decide)]; exact hf_3
      have hf_27 : fs_24[24]? = some (.ref msk) := by rw [efs_24, List.getElem?_set_ne (by decide)]; exact hf_4
      have hf_28 : fs_24[28]? = some (.ref mln) := by rw [efs_24, List.getElem?_set_ne (by decide)]; exact hf_5
      have hf_29 : fs_24[29]? = some (.ref mlh) := by rw [efs_24, List.getElem?_set_ne (by decide)]; exact hf_6
      have hf_30 : fs_24[30]? = some (.ref mfn) := by rw [efs_24, List.getElem?_set_ne (by decide)]; exact hf_7
      have hf_31 : fs_24[31]? = some (.ref mfi) := by rw [efs_24, List.getElem?_set_ne (by decide)]; exact hf_8
      have hf_32 : fs_24[32]? = some (.ref mla) := by rw [efs_24, List.getElem?_set_ne (by decide)]; exact hf_9
      have hf_33 : fs_24[33]? = some (.ref mpn) := by rw [efs_24, List.getElem?_set_ne (by decide)]; exact hf_10
      have hf_34 : fs_24[34]? = some (.ref mbo) := by rw [efs_24, List.getElem?_set_ne (by decide)]; exact hf_11
      have hf_35 : fs_24[35]? = some (.ref mdi) := by rw [efs_24, List.getElem?_set_ne (by decide)]; exact hf_12
      have hf_36 : fs_24[36]? = some (.ref mdn) := by rw [efs_24, List.getElem?_set_ne (by decide)]; exact hf_13
      have hf_37 : fs_24[37]? = some (.ref mdo) := by rw [efs_24, List.getElem?_set_ne (by decide)]; exact hf_14
      have hf_38 : fs_24[38]? = some (.ref mdh) := by rw [efs_24, List.getElem?_set_ne (by decide)]; exact hf_15
      have hf_39 : fs_24[39]? = some (.ref mnn) := by rw [efs_24, List.getElem?_set_ne (by decide)]; exact hf_16
      have hf_40 : fs_24[40]? = some (.ref mnh) := by rw [efs_24, List.getElem?_set_ne (by decide)]; exact hf_17
      have hf_41 : fs_24[41]? = some (.ref mkn) := by rw [efs_24, List.getElem?_set_ne (by decide)]; exact hf_18
      have hf_42 : fs_24[42]? = some (.ref mpt) := by rw [efs_24, List.getElem?_set_ne (by decide)]; exact hf_19
      have hf_43 : fs_24[43]? = some (.ref mot) := by rw [efs_24, List.getElem?_set_ne (by decide)]; exact hf_20
      have hf_44 : fs_24[2]? = some (.int 0) := by rw [efs_24, List.getElem?_set_ne (by decide)]; exact hf_21
      have hf_45 : fs_24[6]? = some (.int 0) := by rw [efs_24]; exact List.getElem?_set_self (by rw [hlen_2]; decide)
      rw [← efs_24] at hP hD
      have hP : va_P (dC, dI) vwCl [(mq, .inr (12, fs_24)), (msk, .inl (cmsk, 14, .inl fmsk)), (mln, .inl (cmln, 8, .inl fmln)), (mlh, .inl (cmlh, 24, .inl fmlh)), (mfn, .inl (cmfn, 8, .inl fmfn)), (mfi, .inl (cmfi, 8, .inl fmfi)), (mla, .inl (cmla, 8, .inl fmla)), (mpn, .inl (cmpn, 12, .inl fmpn)), (mbo, .inl (cmbo, 12, .inr (.inl fmbo))), (mdi, .inl (cmdi, 12, .inr (.inl fmdi))), (mdn, .inl (cmdn, 8, .inl fmdn)), (mdo, .inl (cmdo, 8, .inr (.inl fmdo))), (mdh, .inl (cmdh, 24, .inl fmdh)), (mnn, .inl (cmnn, 12, .inl fmnn)), (mnh, .inl (cmnh, 264, .inl fmnh)), (mkn, .inl (cmkn, 128, .inl fmkn)), (mpt, .inl (cmpt, 128, .inl fmpt)), (mot, .inl (cmot, 128, .inl fmot))] H := hP
      have hD : va_D A [(mq, .inr (12, fs_24)), (msk, .inl (cmsk, 14, .inl fmsk)), (mln, .inl (cmln, 8, .inl fmln)), (mlh, .inl (cmlh, 24, .inl fmlh)), (mfn, .inl (cmfn, 8, .inl fmfn)), (mfi, .inl (cmfi, 8, .inl fmfi)), (mla, .inl (cmla, 8, .inl fmla)), (mpn, .inl (cmpn, 12, .inl fmpn)), (mbo, .inl (cmbo, 12, .inr (.inl fmbo))), (mdi, .inl (cmdi, 12, .inr (.inl fmdi))), (mdn, .inl (cmdn, 8, .inl fmdn)), (mdo, .inl (cmdo, 8, .inr (.inl fmdo))), (mdh, .inl (cmdh, 24, .inl fmdh)), (mnn, .inl (cmnn, 12, .inl fmnn)), (mnh, .inl (cmnh, 264, .inl fmnh)), (mkn, .inl (cmkn, 128, .inl fmkn)), (mpt, .inl (cmpt, 128, .inl fmpt)), (mot, .inl (cmot, 128, .inl fmot))] := hD
      refine lv_aload_n hx hb dX12_text_25 rfl (lv_at hl 0 rfl) ?_
      refine lv_iconst (v := 0) hx hb dX12_text_26 (by decide) ?_
      refine va_put (D := (dC, dI)) (ci := 12) (v := .int 0) (ty := tyX12 1) (C := RX12) (T := TX12) (N := 76) hx hb htw inlX12 tyX12 tyX12_ok nmX12 hown hK hP hD hS 0 rfl rfl 1 (by decide) (htw _ (ck_12 _ (List.mem_of_getElem? (i := 17) rfl))) (fun _ h9 => h9) rfl (by decide +kernel) rfl rfl (by rw [hlen_25]; decide) dX12_text_27 (fun H locs hP hD hS => ?_)
      obtain ⟨fs_46, efs_46⟩ : ∃ g : List Value, g = (fs_24).set 1 (.int 0) := ⟨_, rfl⟩
      have hlen_47 : fs_46.length = 76 := by rw [efs_46, List.length_set]; exact hlen_25
      have hf_48 : fs_46[24]? = some (.ref msk) := by rw [efs_46, List.getElem?_set_ne (by decide)]; exact hf_27
      have hf_49 : fs_46[28]? = some (.ref mln) := by rw [efs_46, List.getElem?_set_ne (by decide)]; exact hf_28
      have hf_50 : fs_46[29]? = some (.ref mlh) := by rw [efs_46, List.getElem?_set_ne (by decide)]; exact hf_29
      have hf_51 : fs_46[30]? = some (.ref mfn) := by rw [efs_46, List.getElem?_set_ne (by decide)]; exact hf_30
      have hf_52 : fs_46[31]? = some (.ref mfi) := by rw [efs_46, List.getElem?_set_ne (by decide)]; exact hf_31
      have hf_53 : fs_46[32]? = some (.ref mla) := by rw [efs_46, List.getElem?_set_ne (by decide)]; exact hf_32
      have hf_54 : fs_46[33]? = some (.ref mpn) := by rw [efs_46, List.getElem?_set_ne (by decide)]; exact hf_33
      have hf_55 : fs_46[34]? = some (.ref mbo) := by rw [efs_46, List.getElem?_set_ne (by decide)]; exact hf_34
      have hf_56 : fs_46[35]? = some (.ref mdi) := by rw [efs_46, List.getElem?_set_ne (by decide)]; exact hf_35
      have hf_57 : fs_46[36]? = some (.ref mdn) := by rw [efs_46, List.getElem?_set_ne (by decide)]; exact hf_36
      have hf_58 : fs_46[37]? = some (.ref mdo) := by rw [efs_46, List.getElem?_set_ne (by decide)]; exact hf_37
      have hf_59 : fs_46[38]? = some (.ref mdh) := by rw [efs_46, List.getElem?_set_ne (by decide)]; exact hf_38
      have hf_60 : fs_46[39]? = some (.ref mnn) := by rw [efs_46, List.getElem?_set_ne (by decide)]; exact hf_39
      have hf_61 : fs_46[40]? = some (.ref mnh) := by rw [efs_46, List.getElem?_set_ne (by decide)]; exact hf_40
      have hf_62 : fs_46[41]? = some (.ref mkn) := by rw [efs_46, List.getElem?_set_ne (by decide)]; exact hf_41
      have hf_63 : fs_46[42]? = some (.ref mpt) := by rw [efs_46, List.getElem?_set_ne (by decide)]; exact hf_42
      have hf_64 : fs_46[43]? = some (.ref mot) := by rw [efs_46, List.getElem?_set_ne (by decide)]; exact hf_43
      have hf_65 : fs_46[2]? = some (.int 0) := by rw [efs_46, List.getElem?_set_ne (by decide)]; exact hf_44
      have hf_66 : fs_46[6]? = some (.int 0) := by rw [efs_46, List.getElem?_set_ne (by decide)]; exact hf_45
      have hf_67 : fs_46[1]? = some (.int 0) := by rw [efs_46]; exact List.getElem?_set_self (by rw [hlen_25]; decide)
      rw [← efs_46] at hP hD
      have hP : va_P (dC, dI) vwCl [(mq, .inr (12, fs_46)), (msk, .inl (cmsk, 14, .inl fmsk)), (mln, .inl (cmln, 8, .inl fmln)), (mlh, .inl (cmlh, 24, .inl fmlh)), (mfn, .inl (cmfn, 8, .inl fmfn)), (mfi, .inl (cmfi, 8, .inl fmfi)), (mla, .inl (cmla, 8, .inl fmla)), (mpn, .inl (cmpn, 12, .inl fmpn)), (mbo, .inl (cmbo, 12, .inr (.inl fmbo))), (mdi, .inl (cmdi, 12, .inr (.inl fmdi))), (mdn, .inl (cmdn, 8, .inl fmdn)), (mdo, .inl (cmdo, 8, .inr (.inl fmdo))), (mdh, .inl (cmdh, 24, .inl fmdh)), (mnn, .inl (cmnn, 12, .inl fmnn)), (mnh, .inl (cmnh, 264, .inl fmnh)), (mkn, .inl (cmkn, 128, .inl fmkn)), (mpt, .inl (cmpt, 128, .inl fmpt)), (mot, .inl (cmot, 128, .inl fmot))] H := hP
      have hD : va_D A [(mq, .inr (12, fs_46)), (msk, .inl (cmsk, 14, .inl fmsk)), (mln, .inl (cmln, 8, .inl fmln)), (mlh, .inl (cmlh, 24, .inl fmlh)), (mfn, .inl (cmfn, 8, .inl fmfn)), (mfi, .inl (cmfi, 8, .inl fmfi)), (mla, .inl (cmla, 8, .inl fmla)), (mpn, .inl (cmpn, 12, .inl fmpn)), (mbo, .inl (cmbo, 12, .inr (.inl fmbo))), (mdi, .inl (cmdi, 12, .inr (.inl fmdi))), (mdn, .inl (cmdn, 8, .inl fmdn)), (mdo, .inl (cmdo, 8, .inr (.inl fmdo))), (mdh, .inl (cmdh, 24, .inl fmdh)), (mnn, .inl (cmnn, 12, .inl fmnn)), (mnh, .inl (cmnh, 264, .inl fmnh)), (mkn, .inl (cmkn, 128, .inl fmkn)), (mpt, .inl (cmpt, 128, .inl fmpt)), (mot, .inl (cmot, 128, .inl fmot))] := hD
      refine lv_aload_n hx hb dX12_text_30 rfl (lv_at hl 0 rfl) ?_
      refine lv_iconst (v := 0) hx hb dX12_text_31 (by decide) ?_
      refine va_put (D := (dC, dI)) (ci := 12) (v := .int 0) (ty := tyX12 4) (C := RX12) (T := TX12) (N := 76) hx hb htw inlX12 tyX12 tyX12_ok nmX12 hown hK hP hD hS 0 rfl rfl 4 (by decide) (htw _ (ck_24 _ (List.mem_of_getElem? (i := 11) rfl))) (fun _ h9 => h9) rfl (by decide +kernel) rfl rfl (by rw [hlen_47]; decide) dX12_text_32 (fun H locs hP hD hS => ?_)
      obtain ⟨fs_68, efs_68⟩ : ∃ g : List Value, g = (fs_46).set 4 (.int 0) := ⟨_, rfl⟩
      have hlen_69 : fs_68.length = 76 := by rw [efs_68, List.length_set]; exact hlen_47
      have hf_70 : fs_68[24]? = some (.ref msk) := by rw [efs_68, List.getElem?_set_ne (by decide)]; exact hf_48
      have hf_71 : fs_68[28]? = some (.ref mln) := by rw [efs_68, List.getElem?_set_ne (by decide)]; exact hf_49
      have hf_72 : fs_68[29]? = some (.ref mlh) := by rw [efs_68, List.getElem?_set_ne (by decide)]; exact hf_50
      have hf_73 : fs_68[30]? = some (.ref mfn) := by rw [efs_68, List.getElem?_set_ne (by decide)]; exact hf_51
      have hf_74 : fs_68[31]? = some (.ref mfi) := by rw [efs_68, List.getElem?_set_ne (by decide)]; exact hf_52
      have hf_75 : fs_68[32]? = some (.ref mla) := by rw [efs_68, List.getElem?_set_ne (by decide)]; exact hf_53
      have hf_76 : fs_68[33]? = some (.ref mpn) := by rw [efs_68, List.getElem?_set_ne (by decide)]; exact hf_54
      have hf_77 : fs_68[34]? = some (.ref mbo) := by rw [efs_68, List.getElem?_set_ne (by decide)]; exact hf_55
      have hf_78 : fs_68[35]? = some (.ref mdi) := by rw [efs_68, List.getElem?_set_ne (by decide)]; exact hf_56
      have hf_79 : fs_68[36]? = some (.ref mdn) := by rw [efs_68, List.getElem?_set_ne (by decide)]; exact hf_57
      have hf_80 : fs_68[37]? = some (.ref mdo) := by rw [efs_68, List.getElem?_set_ne (by decide)]; exact hf_58
      have hf_81 : fs_68[38]? = some (.ref mdh) := by rw [efs_68, List.getElem?_set_ne (by decide)]; exact hf_59
      have hf_82 : fs_68[39]? = some (.ref mnn) := by rw [efs_68, List.getElem?_set_ne (by decide)]; exact hf_60
      have hf_83 : fs_68[40]? = some (.ref mnh) := by rw [efs_68, List.getElem?_set_ne (by decide)]; exact hf_61
      have hf_84 : fs_68[41]? = some (.ref mkn) := by rw [efs_68, List.getElem?_set_ne (by decide)]; exact hf_62
      have hf_85 : fs_68[42]? = some (.ref mpt) := by rw [efs_68, List.getElem?_set_ne (by decide)]; exact hf_63
      have hf_86 : fs_68[43]? = some (.ref mot) := by rw [efs_68, List.getElem?_set_ne (by decide)]; exact hf_64
      have hf_87 : fs_68[2]? = some (.int 0) := by rw [efs_68, List.getElem?_set_ne (by decide)]; exact hf_65
      have hf_88 : fs_68[6]? = some (.int 0) := by rw [efs_68, List.getElem?_set_ne (by decide)]; exact hf_66
      have hf_89 : fs_68[1]? = some (.int 0) := by rw [efs_68, List.getElem?_set_ne (by decide)]; exact hf_67
      have hf_90 : fs_68[4]? = some (.int 0) := by rw [efs_68]; exact List.getElem?_set_self (by rw [hlen_47]; decide)
      rw [← efs_68] at hP hD
      have hP : va_P (dC, dI) vwCl [(mq, .inr (12, fs_68)), (msk, .inl (cmsk, 14, .inl fmsk)), (mln, .inl (cmln, 8, .inl fmln)), (mlh, .inl (cmlh, 24, .inl fmlh)), (mfn, .inl (cmfn, 8, .inl fmfn)), (mfi, .inl (cmfi, 8, .inl fmfi)), (mla, .inl (cmla, 8, .inl fmla)), (mpn, .inl (cmpn, 12, .inl fmpn)), (mbo, .inl (cmbo, 12, .inr (.inl fmbo))), (mdi, .inl (cmdi, 12, .inr (.inl fmdi))), (mdn, .inl (cmdn, 8, .inl fmdn)), (mdo, .inl (cmdo, 8, .inr (.inl fmdo))), (mdh, .inl (cmdh, 24, .inl fmdh)), (mnn, .inl (cmnn, 12, .inl fmnn)), (mnh, .inl (cmnh, 264, .inl fmnh)), (mkn, .inl (cmkn, 128, .inl fmkn)), (mpt, .inl (cmpt, 128, .inl fmpt)), (mot, .inl (cmot, 128, .inl fmot))] H := hP
      have hD : va_D A [(mq, .inr (12, fs_68)), (msk, .inl (cmsk, 14, .inl fmsk)), (mln, .inl (cmln, 8, .inl fmln)), (mlh, .inl (cmlh, 24, .inl fmlh)), (mfn, .inl (cmfn, 8, .inl fmfn)), (mfi, .inl (cmfi, 8, .inl fmfi)), (mla, .inl (cmla, 8, .inl fmla)), (mpn, .inl (cmpn, 12, .inl fmpn)), (mbo, .inl (cmbo, 12, .inr (.inl fmbo))), (mdi, .inl (cmdi, 12, .inr (.inl fmdi))), (mdn, .inl (cmdn, 8, .inl fmdn)), (mdo, .inl (cmdo, 8, .inr (.inl fmdo))), (mdh, .inl (cmdh, 24, .inl fmdh)), (mnn, .inl (cmnn, 12, .inl fmnn)), (mnh, .inl (cmnh, 264, .inl fmnh)), (mkn, .inl (cmkn, 128, .inl fmkn)), (mpt, .inl (cmpt, 128, .inl fmpt)), (mot, .inl (cmot, 128, .inl fmot))] := hD
      refine lv_aload_n hx hb dX12_text_35 rfl (lv_at hl 0 rfl) ?_
      refine lv_iconst (v := (-1)) hx hb dX12_text_36 (by decide) ?_
      refine va_put (D := (dC, dI)) (ci := 12) (v := .int (-1)) (ty := tyX12 5) (C := RX12) (T := TX12) (N := 76) hx hb htw inlX12 tyX12 tyX12_ok nmX12 hown hK hP hD hS 0 rfl rfl 5 (by decide) (htw _ (ck_9 _ (List.mem_of_getElem? (i := 6) rfl))) (fun _ h9 => h9) rfl (by decide +kernel) rfl rfl (by rw [hlen_69]; decide) dX12_text_37 (fun H locs hP hD hS => ?_)
      obtain ⟨fs_91, efs_91⟩ : ∃ g : List Value, g = (fs_68).set 5 (.int (-1)) := ⟨_, rfl⟩
      have hlen_92 : fs_91.length = 76 := by rw [efs_91, List.length_set]; exact hlen_69
      have hf_93 : fs_91[24]? = some (.ref msk) := by rw [efs_91, List.getElem?_set_ne (by decide)]; exact hf_70
      have hf_94 : fs_91[28]? = some (.ref mln) := by rw [efs_91, List.getElem?_set_ne (by decide)]; exact hf_71
      have hf_95 : fs_91[29]? = some (.ref mlh) := by rw [efs_91, List.getElem?_set_ne (by decide)]; exact hf_72
      have hf_96 : fs_91[30]? = some (.ref mfn) := by rw [efs_91, List.getElem?_set_ne (by decide)]; exact hf_73
      have hf_97 : fs_91[31]? = some (.ref mfi) := by rw [efs_91, List.getElem?_set_ne (by decide)]; exact hf_74
      have hf_98 : fs_91[32]? = some (.ref mla) := by rw [efs_91, List.getElem?_set_ne (by decide)]; exact hf_75
      have hf_99 : fs_91[33]? = some (.ref mpn) := by rw [efs_91, List.getElem?_set_ne (by decide)]; exact hf_76
      have hf_100 : fs_91[34]? = some (.ref mbo) := by rw [efs_91, List.getElem?_set_ne (by decide)]; exact hf_77
      have hf_101 : fs_91[35]? = some (.ref mdi) := by rw [efs_91, List.getElem?_set_ne (by decide)]; exact hf_78
      have hf_102 : fs_91[36]? = some (.ref mdn) := by rw [efs_91, List.getElem?_set_ne (by decide)]; exact hf_79
      have hf_103 : fs_91[37]? = some (.ref mdo) := by rw [efs_91, List.getElem?_set_ne (by decide)]; exact hf_80
      have hf_104 : fs_91[38]? = some (.ref mdh) := by rw [efs_91, List.getElem?_set_ne (by decide)]; exact hf_81
      have hf_105 : fs_91[39]? = some (.ref mnn) := by rw [efs_91, List.getElem?_set_ne (by decide)]; exact hf_82
      have hf_106 : fs_91[40]? = some (.ref mnh) := by rw [efs_91, List.getElem?_set_ne (by decide)]; exact hf_83
      have hf_107 : fs_91[41]? = some (.ref mkn) := by rw [efs_91, List.getElem?_set_ne (by decide)]; exact hf_84
      have hf_108 : fs_91[42]? = some (.ref mpt) := by rw [efs_91, List.getElem?_set_ne (by decide)]; exact hf_85
      have hf_109 : fs_91[43]? = some (.ref mot) := by rw [efs_91, List.getElem?_set_ne (by decide)]; exact hf_86
      have hf_110 : fs_91[2]? = some (.int 0) := by rw [efs_91, List.getElem?_set_ne (by decide)]; exact hf_87
      have hf_111 : fs_91[6]? = some (.int 0) := by rw [efs_91, List.getElem?_set_ne (by decide)]; exact hf_88
      have hf_112 : fs_91[1]? = some (.int 0) := by rw [efs_91, List.getElem?_set_ne (by decide)]; exact hf_89
      have hf_113 : fs_91[4]? = some (.int 0) := by rw [efs_91, List.getElem?_set_ne (by decide)]; exact hf_90
      have hf_114 : fs_91[5]? = some (.int (-1)) := by rw [efs_91]; exact List.getElem?_set_self (by rw [hlen_69]; decide)
      rw [← efs_91] at hP hD
      have hP : va_P (dC, dI) vwCl [(mq, .inr (12, fs_91)), (msk, .inl (cmsk, 14, .inl fmsk)), (mln, .inl (cmln, 8, .inl fmln)), (mlh, .inl (cmlh, 24, .inl fmlh)), (mfn, .inl (cmfn, 8, .inl fmfn)), (mfi, .inl (cmfi, 8, .inl fmfi)), (mla, .inl (cmla, 8, .inl fmla)), (mpn, .inl (cmpn, 12, .inl fmpn)), (mbo, .inl (cmbo, 12, .inr (.inl fmbo))), (mdi, .inl (cmdi, 12, .inr (.inl fmdi))), (mdn, .inl (cmdn, 8, .inl fmdn)), (mdo, .inl (cmdo, 8, .inr (.inl fmdo))), (mdh, .inl (cmdh, 24, .inl fmdh)), (mnn, .inl (cmnn, 12, .inl fmnn)), (mnh, .inl (cmnh, 264, .inl fmnh)), (mkn, .inl (cmkn, 128, .inl fmkn)), (mpt, .inl (cmpt, 128, .inl fmpt)), (mot, .inl (cmot, 128, .inl fmot))] H := hP
      have hD : va_D A [(mq, .inr (12, fs_91)), (msk, .inl (cmsk, 14, .inl fmsk)), (mln, .inl (cmln, 8, .inl fmln)), (mlh, .inl (cmlh, 24, .inl fmlh)), (mfn, .inl (cmfn, 8, .inl fmfn)), (mfi, .inl (cmfi, 8, .inl fmfi)), (mla, .inl (cmla, 8, .inl fmla)), (mpn, .inl (cmpn, 12, .inl fmpn)), (mbo, .inl (cmbo, 12, .inr (.inl fmbo))), (mdi, .inl (cmdi, 12, .inr (.inl fmdi))), (mdn, .inl (cmdn, 8, .inl fmdn)), (mdo, .inl (cmdo, 8, .inr (.inl fmdo))), (mdh, .inl (cmdh, 24, .inl fmdh)), (mnn, .inl (cmnn, 12, .inl fmnn)), (mnh, .inl (cmnh, 264, .inl fmnh)), (mkn, .inl (cmkn, 128, .inl fmkn)), (mpt, .inl (cmpt, 128, .inl fmpt)), (mot, .inl (cmot, 128, .inl fmot))] := hD
      refine lv_aload_n hx hb dX12_text_40 rfl (lv_at hl 0 rfl) ?_
      refine lv_iconst (v := 0) hx hb dX12_text_41 (by decide) ?_
      refine va_put (D := (dC, dI)) (ci := 12) (v := .int 0) (ty := tyX12 7) (C := RX12) (T := TX12) (N := 76) hx hb htw inlX12 tyX12 tyX12_ok nmX12 hown hK hP hD hS 0 rfl rfl 7 (by decide) (htw _ (ck_24 _ (List.mem_of_getElem? (i := 12) rfl))) (fun _ h9 => h9) rfl (by decide +kernel) rfl rfl (by rw [hlen_92]; decide) dX12_text_42 (fun H locs hP hD hS => ?_)
      obtain ⟨fs_115, efs_115⟩ : ∃ g : List Value, g = (fs_91).set 7 (.int 0) := ⟨_, rfl⟩
      have hlen_116 : fs_115.length = 76 := by rw [efs_115, List.length_set]; exact hlen_92
      have hf_117 : fs_115[24]? = some (.ref msk) := by rw [efs_115, List.getElem?_set_ne (by decide)]; exact hf_93
      have hf_118 : fs_115[28]? = some (.ref mln) := by rw [efs_115, List.getElem?_set_ne (by decide)]; exact hf_94
      have hf_119 : fs_115[29]? = some (.ref mlh) := by rw [efs_115, List.getElem?_set_ne (by decide)]; exact hf_95
      have hf_120 : fs_115[30]? = some (.ref mfn) := by rw [efs_115, List.getElem?_set_ne (by decide)]; exact hf_96
      have hf_121 : fs_115[31]? = some (.ref mfi) := by rw [efs_115, List.getElem?_set_ne (by decide)]; exact hf_97
      have hf_122 : fs_115[32]? = some (.ref mla) := by rw [efs_115, List.getElem?_set_ne (by decide)]; exact hf_98
      have hf_123 : fs_115[33]? = some (.ref mpn) := by rw [efs_115, List.getElem?_set_ne (by decide)]; exact hf_99
      have hf_124 : fs_115[34]? = some (.ref mbo) := by rw [efs_115, List.getElem?_set_ne (by decide)]; exact hf_100
      have hf_125 : fs_115[35]? = some (.ref mdi) := by rw [efs_115, List.getElem?_set_ne (by decide)]; exact hf_101
      have hf_126 : fs_115[36]? = some (.ref mdn) := by rw [efs_115, List.getElem?_set_ne (by decide)]; exact hf_102
      have hf_127 : fs_115[37]? = some (.ref mdo) := by rw [efs_115, List.getElem?_set_ne (by decide)]; exact hf_103
      have hf_128 : fs_115[38]? = some (.ref mdh) := by rw [efs_115, List.getElem?_set_ne (by decide)]; exact hf_104
      have hf_129 : fs_115[39]? = some (.ref mnn) := by rw [efs_115, List.getElem?_set_ne (by decide)]; exact hf_105
      have hf_130 : fs_115[40]? = some (.ref mnh) := by rw [efs_115, List.getElem?_set_ne (by decide)]; exact hf_106
      have hf_131 : fs_115[41]? = some (.ref mkn) := by rw [efs_115, List.getElem?_set_ne (by decide)]; exact hf_107
      have hf_132 : fs_115[42]? = some (.ref mpt) := by rw [efs_115, List.getElem?_set_ne (by decide)]; exact hf_108
      have hf_133 : fs_115[43]? = some (.ref mot) := by rw [efs_115, List.getElem?_set_ne (by decide)]; exact hf_109
      have hf_134 : fs_115[2]? = some (.int 0) := by rw [efs_115, List.getElem?_set_ne (by decide)]; exact hf_110
      have hf_135 : fs_115[6]? = some (.int 0) := by rw [efs_115, List.getElem?_set_ne (by decide)]; exact hf_111
      have hf_136 : fs_115[1]? = some (.int 0) := by rw [efs_115, List.getElem?_set_ne (by decide)]; exact hf_112
      have hf_137 : fs_115[4]? = some (.int 0) := by rw [efs_115, List.getElem?_set_ne (by decide)]; exact hf_113
      have hf_138 : fs_115[5]? = some (.int (-1)) := by rw [efs_115, List.getElem?_set_ne (by decide)]; exact hf_114
      have hf_139 : fs_115[7]? = some (.int 0) := by rw [efs_115]; exact List.getElem?_set_self (by rw [hlen_92]; decide)
      rw [← efs_115] at hP hD
      have hP : va_P (dC, dI) vwCl [(mq, .inr (12, fs_115)), (msk, .inl (cmsk, 14, .inl fmsk)), (mln, .inl (cmln, 8, .inl fmln)), (mlh, .inl (cmlh, 24, .inl fmlh)), (mfn, .inl (cmfn, 8, .inl fmfn)), (mfi, .inl (cmfi, 8, .inl fmfi)), (mla, .inl (cmla, 8, .inl fmla)), (mpn, .inl (cmpn, 12, .inl fmpn)), (mbo, .inl (cmbo, 12, .inr (.inl fmbo))), (mdi, .inl (cmdi, 12, .inr (.inl fmdi))), (mdn, .inl (cmdn, 8, .inl fmdn)), (mdo, .inl (cmdo, 8, .inr (.inl fmdo))), (mdh, .inl (cmdh, 24, .inl fmdh)), (mnn, .inl (cmnn, 12, .inl fmnn)), (mnh, .inl (cmnh, 264, .inl fmnh)), (mkn, .inl (cmkn, 128, .inl fmkn)), (mpt, .inl (cmpt, 128, .inl fmpt)), (mot, .inl (cmot, 128, .inl fmot))] H := hP
      have hD : va_D A [(mq, .inr (12, fs_115)), (msk, .inl (cmsk, 14, .inl fmsk)), (mln, .inl (cmln, 8, .inl fmln)), (mlh, .inl (cmlh, 24, .inl fmlh)), (mfn, .inl (cmfn, 8, .inl fmfn)), (mfi, .inl (cmfi, 8, .inl fmfi)), (mla, .inl (cmla, 8, .inl fmla)), (mpn, .inl (cmpn, 12, .inl fmpn)), (mbo, .inl (cmbo, 12, .inr (.inl fmbo))), (mdi, .inl (cmdi, 12, .inr (.inl fmdi))), (mdn, .inl (cmdn, 8, .inl fmdn)), (mdo, .inl (cmdo, 8, .inr (.inl fmdo))), (mdh, .inl (cmdh, 24, .inl fmdh)), (mnn, .inl (cmnn, 12, .inl fmnn)), (mnh, .inl (cmnh, 264, .inl fmnh)), (mkn, .inl (cmkn, 128, .inl fmkn)), (mpt, .inl (cmpt, 128, .inl fmpt)), (mot, .inl (cmot, 128, .inl fmot))] := hD
      refine lv_aload_n hx hb dX12_text_45 rfl (lv_at hl 0 rfl) ?_
      have hPc := hP.sub (ws' := [(mq, .inr (12, fs_115)), (msk, .inl (cmsk, 14, .inl fmsk))]) [0, 1] rfl
      have hKc := hK.sub (tys' := [(cmsk, .int)]) [0] rfl
      have hDc := hD.sub (ws' := [(mq, .inr (12, fs_115)), (msk, .inl (cmsk, 14, .inl fmsk))]) [0, 1] (by decide) rfl
      have hFc := va_free (wc := [(mq, .inr (12, fs_115)), (msk, .inl (cmsk, 14, .inl fmsk))]) hD hS hA [0, 1] rfl
      refine va_callv (va_runV (As := []) (rest := []) ⟨hx, hb, hml, hown, htw⟩ (mm_plain l dC dI mq fs_115 msk cmsk fmsk H.size hlen_116 hf_117) (cwV 0 htw (xg_V (ck_10 _ (List.mem_of_getElem? (i := 15) rfl)) (ck_10 _ (List.mem_of_getElem? (i := 16) rfl)) (ck_10 _ (List.mem_of_getElem? (i := 17) rfl)) (ck_1 _ (List.mem_of_getElem? (i := 5) rfl)) (ck_10 _ (List.mem_of_getElem? (i := 18) rfl))) rfl rfl rfl (by decide +kernel) ⟨Nat.le_of_ble_eq_true rfl, Nat.le_of_ble_eq_true rfl⟩) ⟨fun a U g mk q => by obtain ⟨q0, q1, qP, qK, qD⟩ := q; exact ⟨q0, q1, qP, va_K.moved (u := U) (U := U.calling g mk a) (Vm.Alike.refl U.vm) qK, qD⟩, va_recv hKc hPc (ci := 12) (q0 := 0) rfl rfl, fun U hU hW => ⟨rfl, by rw [hU], by rw [hU]; exact hPc, va_K.moved hW.alike hKc, hDc.weaken (fun _ _ _ _ => trivial)⟩⟩ rfl rfl hl.1 rfl (lv_room (Nat.le_of_ble_eq_true rfl)) dX12_text_46 ⟨Nat.le_of_ble_eq_true rfl, Nat.le_of_ble_eq_true rfl⟩) hS (fun q _ h => hFc q h) hFc (fun u_141 t H1 locs ht hvm hw hB hz1 hk1 hS => ?_)
      try dsimp only at hw
      obtain ⟨gs_142, gY_143⟩ := u_141
      obtain ⟨hP1, hK1, hD1⟩ := hB
      rw [ht] at hP1
      have hK1 := va_K.moved hvm.symm hK1
      have hP1 : va_P (dC, dI) vwCl [(mq, .inr (12, gs_142)), (msk, .inl (cmsk, 14, .inl gY_143))] H1 := hP1
      have hD1 : va_D (va_A [(mq, .inr (12, fs_115)), (msk, .inl (cmsk, 14, .inl fmsk))] H.size) [(mq, .inr (12, gs_142)), (msk, .inl (cmsk, 14, .inl gY_143))] := hD1
      have hK1 : va_K (dC, dI) vwCl [] s := hK1
      try dsimp only at hw
      obtain ⟨hP, hD⟩ := va_join (wr := [(mln, .inl (cmln, 8, .inl fmln)), (mlh, .inl (cmlh, 24, .inl fmlh)), (mfn, .inl (cmfn, 8, .inl fmfn)), (mfi, .inl (cmfi, 8, .inl fmfi)), (mla, .inl (cmla, 8, .inl fmla)), (mpn, .inl (cmpn, 12, .inl fmpn)), (mbo, .inl (cmbo, 12, .inr (.inl fmbo))), (mdi, .inl (cmdi, 12, .inr (.inl fmdi))), (mdn, .inl (cmdn, 8, .inl fmdn)), (mdo, .inl (cmdo, 8, .inr (.inl fmdo))), (mdh, .inl (cmdh, 24, .inl fmdh)), (mnn, .inl (cmnn, 12, .inl fmnn)), (mnh, .inl (cmnh, 264, .inl fmnh)), (mkn, .inl (cmkn, 128, .inl fmkn)), (mpt, .inl (cmpt, 128, .inl fmpt)), (mot, .inl (cmot, 128, .inl fmot))]) (w1 := [(mq, .inr (12, gs_142)), (msk, .inl (cmsk, 14, .inl gY_143))]) hP hD [0, 1] [2, 3, 4, 5, 6, 7, 8, 9, 10, 11, 12, 13, 14, 15, 16, 17] rfl rfl (by decide) (by decide) hk1 hFc hP1 hD1
      generalize H1 = H at hP hS ⊢
      have hP : va_P (dC, dI) vwCl [(mln, .inl (cmln, 8, .inl fmln)), (mlh, .inl (cmlh, 24, .inl fmlh)), (mfn, .inl (cmfn, 8, .inl fmfn)), (mfi, .inl (cmfi, 8, .inl fmfi)), (mla, .inl (cmla, 8, .inl fmla)), (mpn, .inl (cmpn, 12, .inl fmpn)), (mbo, .inl (cmbo, 12, .inr (.inl fmbo))), (mdi, .inl (cmdi, 12, .inr (.inl fmdi))), (mdn, .inl (cmdn, 8, .inl fmdn)), (mdo, .inl (cmdo, 8, .inr (.inl fmdo))), (mdh, .inl (cmdh, 24, .inl fmdh)), (mnn, .inl (cmnn, 12, .inl fmnn)), (mnh, .inl (cmnh, 264, .inl fmnh)), (mkn, .inl (cmkn, 128, .inl fmkn)), (mpt, .inl (cmpt, 128, .inl fmpt)), (mot, .inl (cmot, 128, .inl fmot)), (mq, .inr (12, gs_142)), (msk, .inl (cmsk, 14, .inl gY_143))] H := hP
      have hD : va_D A [(mln, .inl (cmln, 8, .inl fmln)), (mlh, .inl (cmlh, 24, .inl fmlh)), (mfn, .inl (cmfn, 8, .inl fmfn)), (mfi, .inl (cmfi, 8, .inl fmfi)), (mla, .inl (cmla, 8, .inl fmla)), (mpn, .inl (cmpn, 12, .inl fmpn)), (mbo, .inl (cmbo, 12, .inr (.inl fmbo))), (mdi, .inl (cmdi, 12, .inr (.inl fmdi))), (mdn, .inl (cmdn, 8, .inl fmdn)), (mdo, .inl (cmdo, 8, .inr (.inl fmdo))), (mdh, .inl (cmdh, 24, .inl fmdh)), (mnn, .inl (cmnn, 12, .inl fmnn)), (mnh, .inl (cmnh, 264, .inl fmnh)), (mkn, .inl (cmkn, 128, .inl fmkn)), (mpt, .inl (cmpt, 128, .inl fmpt)), (mot, .inl (cmot, 128, .inl fmot)), (mq, .inr (12, gs_142)), (msk, .inl (cmsk, 14, .inl gY_143))] := hD
      refine W.widen (k := 0) (n := 0) (by omega) (by omega) ?_
      obtain ⟨hg_144, hp_145, hp_146, hp_147, hp_148, hp_149, hp_150, hp_151⟩ := hw
      have hlen_152 : gs_142.length = 76 := by rw [hg_144]; simp only [List.length_set]; exact hlen_116
      have hf_153 : gs_142[24]? = some (.ref msk) := by rw [hg_144]; (repeat rw [List.getElem?_set_ne (by decide)]); exact hf_117
      have hf_154 : gs_142[28]? = some (.ref mln) := by rw [hg_144]; (repeat rw [List.getElem?_set_ne (by decide)]); exact hf_118
      have hf_155 : gs_142[29]? = some (.ref mlh) := by rw [hg_144]; (repeat rw [List.getElem?_set_ne (by decide)]); exact hf_119
      have hf_156 : gs_142[30]? = some (.ref mfn) := by rw [hg_144]; (repeat rw [List.getElem?_set_ne (by decide)]); exact hf_120
      have hf_157 : gs_142[31]? = some (.ref mfi) := by rw [hg_144]; (repeat rw [List.getElem?_set_ne (by decide)]); exact hf_121
      have hf_158 : gs_142[32]? = some (.ref mla) := by rw [hg_144]; (repeat rw [List.getElem?_set_ne (by decide)]); exact hf_122
      have hf_159 : gs_142[33]? = some (.ref mpn) := by rw [hg_144]; (repeat rw [List.getElem?_set_ne (by decide)]); exact hf_123
      have hf_160 : gs_142[34]? = some (.ref mbo) := by rw [hg_144]; (repeat rw [List.getElem?_set_ne (by decide)]); exact hf_124
      have hf_161 : gs_142[35]? = some (.ref mdi) := by rw [hg_144]; (repeat rw [List.getElem?_set_ne (by decide)]); exact hf_125
      have hf_162 : gs_142[36]? = some (.ref mdn) := by rw [hg_144]; (repeat rw [List.getElem?_set_ne (by decide)]); exact hf_126
      have hf_163 : gs_142[37]? = some (.ref mdo) := by rw [hg_144]; (repeat rw [List.getElem?_set_ne (by decide)]); exact hf_127
      have hf_164 : gs_142[38]? = some (.ref mdh) := by rw [hg_144]; (repeat rw [List.getElem?_set_ne (by decide)]); exact hf_128
      have hf_165 : gs_142[39]? = some (.ref mnn) := by rw [hg_144]; (repeat rw [List.getElem?_set_ne (by decide)]); exact hf_129
      have hf_166 : gs_142[40]? = some (.ref mnh) := by rw [hg_144]; (repeat rw [List.getElem?_set_ne (by decide)]); exact hf_130
      have hf_167 : gs_142[41]? = some (.ref mkn) := by rw [hg_144]; (repeat rw [List.getElem?_set_ne (by decide)]); exact hf_131
      have hf_168 : gs_142[42]? = some (.ref mpt) := by rw [hg_144]; (repeat rw [List.getElem?_set_ne (by decide)]); exact hf_132
      have hf_169 : gs_142[43]? = some (.ref mot) := by rw [hg_144]; (repeat rw [List.getElem?_set_ne (by decide)]); exact hf_133
      have hf_170 : gs_142[2]? = some (.int 0) := by rw [hg_144]; (repeat rw [List.getElem?_set_ne (by decide)]); exact hf_134
      have hf_171 : gs_142[6]? = some (.int 0) := by rw [hg_144]; (repeat rw [List.getElem?_set_ne (by decide)]); exact hf_135
      have hf_172 : gs_142[1]? = some (.int 0) := by rw [hg_144]; (repeat rw [List.getElem?_set_ne (by decide)]); exact hf_136
      have hf_173 : gs_142[4]? = some (.int 0) := by rw [hg_144]; (repeat rw [List.getElem?_set_ne (by decide)]); exact hf_137
      have hf_174 : gs_142[5]? = some (.int (-1)) := by rw [hg_144]; (repeat rw [List.getElem?_set_ne (by decide)]); exact hf_138
      have hf_175 : gs_142[7]? = some (.int 0) := by rw [hg_144]; (repeat rw [List.getElem?_set_ne (by decide)]); exact hf_139
      have hf_176 : gs_142[18]? = some (.int 0) := by rw [hg_144]; (repeat rw [List.getElem?_set_ne (by decide)]); exact List.getElem?_set_self (by (try simp only [List.length_set]); rw [hlen_116]; decide)
      have hf_177 : gs_142[19]? = some (.int 0) := by rw [hg_144]; (repeat rw [List.getElem?_set_ne (by decide)]); exact List.getElem?_set_self (by (try simp only [List.length_set]); rw [hlen_116]; decide)
      have hf_178 : gs_142[20]? = some (.int 0) := by rw [hg_144]; (repeat rw [List.getElem?_set_ne (by decide)]); exact List.getElem?_set_self (by (try simp only [List.length_set]); rw [hlen_116]; decide)
      have hf_179 : gs_142[21]? = some (.int 0) := by rw [hg_144]; (repeat rw [List.getElem?_set_ne (by decide)]); exact List.getElem?_set_self (by (try simp only [List.length_set]); rw [hlen_116]; decide)
      have hf_180 : gs_142[22]? = some (.int 0) := by rw [hg_144]; (repeat rw [List.getElem?_set_ne (by decide)]); exact List.getElem?_set_self (by (try simp only [List.length_set]); rw [hlen_116]; decide)
      have hf_181 : gs_142[23]? = some (.int 0) := by rw [hg_144]; (repeat rw [List.getElem?_set_ne (by decide)]); exact List.getElem?_set_self (by (try simp only [List.length_set]); rw [hlen_116]; decide)
      have hf_182 : gs_142[50]? = some (.int 0) := by rw [hg_144]; (repeat rw [List.getElem?_set_ne (by decide)]); exact List.getElem?_set_self (by (try simp only [List.length_set]); rw [hlen_116]; decide)
      have hf_183 : gs_142[25]? = some (.int 0) := by rw [hg_144]; (repeat rw [List.getElem?_set_ne (by decide)]); exact List.getElem?_set_self (by (try simp only [List.length_set]); rw [hlen_116]; decide)
      have hf_184 : gs_142[26]? = some (.int 0) := by rw [hg_144]; (repeat rw [List.getElem?_set_ne (by decide)]); exact List.getElem?_set_self (by (try simp only [List.length_set]); rw [hlen_116]; decide)
      have hf_185 : gs_142[27]? = some (.int 0) := by rw [hg_144]; (repeat rw [List.getElem?_set_ne (by decide)]); exact List.getElem?_set_self (by (try simp only [List.length_set]); rw [hlen_116]; decide)
      refine lv_aload_n hx hb dX12_text_49 rfl (lv_at hl 0 rfl) ?_
      have hPc := hP.sub (ws' := [(mq, .inr (12, gs_142))]) [16] rfl
      have hKc := hK.sub (tys' := []) [] rfl
      have hDc := hD.sub (ws' := [(mq, .inr (12, gs_142))]) [16] (by decide) rfl
      have hFc := va_free (wc := [(mq, .inr (12, gs_142))]) hD hS hA [16] rfl
      refine va_callv (va_runV (As := []) (rest := []) ⟨hx, hb, hml, hown, htw⟩ (mm_token l dC dI mq gs_142 H.size hlen_152 hf_175 hf_171) (cwV 0 htw (xg_V (ck_24 _ (List.mem_of_getElem? (i := 14) rfl)) (ck_24 _ (List.mem_of_getElem? (i := 15) rfl)) (ck_24 _ (List.mem_of_getElem? (i := 16) rfl)) (ck_1 _ (List.mem_of_getElem? (i := 5) rfl)) (ck_24 _ (List.mem_of_getElem? (i := 17) rfl))) rfl rfl rfl (by decide +kernel) ⟨Nat.le_of_ble_eq_true rfl, Nat.le_of_ble_eq_true rfl⟩) ⟨fun a U g mk q => by obtain ⟨q0, q1, qP, qK, qD⟩ := q; exact ⟨q0, q1, qP, va_K.moved (u := U) (U := U.calling g mk a) (Vm.Alike.refl U.vm) qK, qD⟩, va_recv hKc hPc (ci := 12) (q0 := 0) rfl rfl, fun U hU hW => ⟨rfl, by rw [hU], by rw [hU]; exact hPc, va_K.moved hW.alike hKc, hDc.weaken (fun _ _ _ _ => trivial)⟩⟩ rfl rfl hl.1 rfl (lv_room (Nat.le_of_ble_eq_true rfl)) dX12_text_50 ⟨Nat.le_of_ble_eq_true rfl, Nat.le_of_ble_eq_true rfl⟩) hS (fun q _ h => hFc q h) hFc (fun u_187 t H1 locs ht hvm hw hB hz1 hk1 hS => ?_)
      try dsimp only at hw
      obtain ⟨hP1, hK1, hD1⟩ := hB
      rw [ht] at hP1
      have hK1 := va_K.moved hvm.symm hK1
      have hP1 : va_P (dC, dI) vwCl [(mq, .inr (12, u_187))] H1 := hP1
      have hD1 : va_D (va_A [(mq, .inr (12, gs_142))] H.size) [(mq, .inr (12, u_187))] := hD1
      have hK1 : va_K (dC, dI) vwCl [] s := hK1
      obtain ⟨hP, hD⟩ := va_join (wr := [(mln, .inl (cmln, 8, .inl fmln)), (mlh, .inl (cmlh, 24, .inl fmlh)), (mfn, .inl (cmfn, 8, .inl fmfn)), (mfi, .inl (cmfi, 8, .inl fmfi)), (mla, .inl (cmla, 8, .inl fmla)), (mpn, .inl (cmpn, 12, .inl fmpn)), (mbo, .inl (cmbo, 12, .inr (.inl fmbo))), (mdi, .inl (cmdi, 12, .inr (.inl fmdi))), (mdn, .inl (cmdn, 8, .inl fmdn)), (mdo, .inl (cmdo, 8, .inr (.inl fmdo))), (mdh, .inl (cmdh, 24, .inl fmdh)), (mnn, .inl (cmnn, 12, .inl fmnn)), (mnh, .inl (cmnh, 264, .inl fmnh)), (mkn, .inl (cmkn, 128, .inl fmkn)), (mpt, .inl (cmpt, 128, .inl fmpt)), (mot, .inl (cmot, 128, .inl fmot)), (msk, .inl (cmsk, 14, .inl gY_143))]) (w1 := [(mq, .inr (12, u_187))]) hP hD [16] [0, 1, 2, 3, 4, 5, 6, 7, 8, 9, 10, 11, 12, 13, 14, 15, 17] rfl rfl (by decide) (by decide) hk1 hFc hP1 hD1
      generalize H1 = H at hP hS ⊢
      have hP : va_P (dC, dI) vwCl [(mln, .inl (cmln, 8, .inl fmln)), (mlh, .inl (cmlh, 24, .inl fmlh)), (mfn, .inl (cmfn, 8, .inl fmfn)), (mfi, .inl (cmfi, 8, .inl fmfi)), (mla, .inl (cmla, 8, .inl fmla)), (mpn, .inl (cmpn, 12, .inl fmpn)), (mbo, .inl (cmbo, 12, .inr (.inl fmbo))), (mdi, .inl (cmdi, 12, .inr (.inl fmdi))), (mdn, .inl (cmdn, 8, .inl fmdn)), (mdo, .inl (cmdo, 8, .inr (.inl fmdo))), (mdh, .inl (cmdh, 24, .inl fmdh)), (mnn, .inl (cmnn, 12, .inl fmnn)), (mnh, .inl (cmnh, 264, .inl fmnh)), (mkn, .inl (cmkn, 128, .inl fmkn)), (mpt, .inl (cmpt, 128, .inl fmpt)), (mot, .inl (cmot, 128, .inl fmot)), (msk, .inl (cmsk, 14, .inl gY_143)), (mq, .inr (12, u_187))] H := hP
      have hD : va_D A [(mln, .inl (cmln, 8, .inl fmln)), (mlh, .inl (cmlh, 24, .inl fmlh)), (mfn, .inl (cmfn, 8, .inl fmfn)), (mfi, .inl (cmfi, 8, .inl fmfi)), (mla, .inl (cmla, 8, .inl fmla)), (mpn, .inl (cmpn, 12, .inl fmpn)), (mbo, .inl (cmbo, 12, .inr (.inl fmbo))), (mdi, .inl (cmdi, 12, .inr (.inl fmdi))), (mdn, .inl (cmdn, 8, .inl fmdn)), (mdo, .inl (cmdo, 8, .inr (.inl fmdo))), (mdh, .inl (cmdh, 24, .inl fmdh)), (mnn, .inl (cmnn, 12, .inl fmnn)), (mnh, .inl (cmnh, 264, .inl fmnh)), (mkn, .inl (cmkn, 128, .inl fmkn)), (mpt, .inl (cmpt, 128, .inl fmpt)), (mot, .inl (cmot, 128, .inl fmot)), (msk, .inl (cmsk, 14, .inl gY_143)), (mq, .inr (12, u_187))] := hD
      refine W.widen (k := 0) (n := 0) (by omega) (by omega) ?_
      have hg_189 := hw
      have hlen_190 : u_187.length = 76 := by rw [hg_189]; simp only [List.length_set]; exact hlen_152
      have hf_191 : u_187[24]? = some (.ref msk) := by rw [hg_189]; (repeat rw [List.getElem?_set_ne (by decide)]); exact hf_153
      have hf_192 : u_187[28]? = some (.ref mln) := by rw [hg_189]; (repeat rw [List.getElem?_set_ne (by decide)]); exact hf_154
      have hf_193 : u_187[29]? = some (.ref mlh) := by rw [hg_189]; (repeat rw [List.getElem?_set_ne (by decide)]); exact hf_155
      have hf_194 : u_187[30]? = some (.ref mfn) := by rw [hg_189]; (repeat rw [List.getElem?_set_ne (by decide)]); exact hf_156
      have hf_195 : u_187[31]? = some (.ref mfi) := by rw [hg_189]; (repeat rw [List.getElem?_set_ne (by decide)]); exact hf_157
      have hf_196 : u_187[32]? = some (.ref mla) := by rw [hg_189]; (repeat rw [List.getElem?_set_ne (by decide)]); exact hf_158
      have hf_197 : u_187[33]? = some (.ref mpn) := by rw [hg_189]; (repeat rw [List.getElem?_set_ne (by decide)]); exact hf_159
      have hf_198 : u_187[34]? = some (.ref mbo) := by rw [hg_189]; (repeat rw [List.getElem?_set_ne (by decide)]); exact hf_160
      have hf_199 : u_187[35]? = some (.ref mdi) := by rw [hg_189]; (repeat rw [List.getElem?_set_ne (by decide)]); exact hf_161
      have hf_200 : u_187[36]? = some (.ref mdn) := by rw [hg_189]; (repeat rw [List.getElem?_set_ne (by decide)]); exact hf_162
      have hf_201 : u_187[37]? = some (.ref mdo) := by rw [hg_189]; (repeat rw [List.getElem?_set_ne (by decide)]); exact hf_163
      have hf_202 : u_187[38]? = some (.ref mdh) := by rw [hg_189]; (repeat rw [List.getElem?_set_ne (by decide)]); exact hf_164
      have hf_203 : u_187[39]? = some (.ref mnn) := by rw [hg_189]; (repeat rw [List.getElem?_set_ne (by decide)]); exact hf_165
      have hf_204 : u_187[40]? = some (.ref mnh) := by rw [hg_189]; (repeat rw [List.getElem?_set_ne (by decide)]); exact hf_166
      have hf_205 : u_187[41]? = some (.ref mkn) := by rw [hg_189]; (repeat rw [List.getElem?_set_ne (by decide)]); exact hf_167
      have hf_206 : u_187[42]? = some (.ref mpt) := by rw [hg_189]; (repeat rw [List.getElem?_set_ne (by decide)]); exact hf_168
      have hf_207 : u_187[43]? = some (.ref mot) := by rw [hg_189]; (repeat rw [List.getElem?_set_ne (by decide)]); exact hf_169
      have hf_208 : u_187[2]? = some (.int 0) := by rw [hg_189]; (repeat rw [List.getElem?_set_ne (by decide)]); exact hf_170
      have hf_209 : u_187[6]? = some (.int 0) := by rw [hg_189]; (repeat rw [List.getElem?_set_ne (by decide)]); exact hf_171
      have hf_210 : u_187[1]? = some (.int 0) := by rw [hg_189]; (repeat rw [List.getElem?_set_ne (by decide)]); exact hf_172
      have hf_211 : u_187[4]? = some (.int 0) := by rw [hg_189]; (repeat rw [List.getElem?_set_ne (by decide)]); exact hf_173
      have hf_212 : u_187[5]? = some (.int (-1)) := by rw [hg_189]; (repeat rw [List.getElem?_set_ne (by decide)]); exact hf_174
      have hf_213 : u_187[7]? = some (.int 0) := by rw [hg_189]; (repeat rw [List.getElem?_set_ne (by decide)]); exact hf_175
      have hf_214 : u_187[18]? = some (.int 0) := by rw [hg_189]; (repeat rw [List.getElem?_set_ne (by decide)]); exact hf_176
      have hf_215 : u_187[19]? = some (.int 0) := by rw [hg_189]; (repeat rw [List.getElem?_set_ne (by decide)]); exact hf_177
      have hf_216 : u_187[20]? = some (.int 0) := by rw [hg_189]; (repeat rw [List.getElem?_set_ne (by decide)]); exact hf_178
      have hf_217 : u_187[21]? = some (.int 0) := by rw [hg_189]; (repeat rw [List.getElem?_set_ne (by decide)]); exact hf_179
      have hf_218 : u_187[22]? = some (.int 0) := by rw [hg_189]; (repeat rw [List.getElem?_set_ne (by decide)]); exact hf_180
      have hf_219 : u_187[23]? = some (.int 0) := by rw [hg_189]; (repeat rw [List.getElem?_set_ne (by decide)]); exact hf_181
      have hf_220 : u_187[50]? = some (.int 0) := by rw [hg_189]; (repeat rw [List.getElem?_set_ne (by decide)]); exact hf_182
      have hf_221 : u_187[25]? = some (.int 0) := by rw [hg_189]; (repeat rw [List.getElem?_set_ne (by decide)]); exact hf_183
      have hf_222 : u_187[26]? = some (.int 0) := by rw [hg_189]; (repeat rw [List.getElem?_set_ne (by decide)]); exact hf_184
      have hf_223 : u_187[27]? = some (.int 0) := by rw [hg_189]; (repeat rw [List.getElem?_set_ne (by decide)]); exact hf_185
      have hf_224 : u_187[10]? = some (.int 0) := by rw [hg_189]; (repeat rw [List.getElem?_set_ne (by decide)]); exact List.getElem?_set_self (by (try simp only [List.length_set]); rw [hlen_152]; decide)
      have hf_225 : u_187[8]? = some (.int 0) := by rw [hg_189]; (repeat rw [List.getElem?_set_ne (by decide)]); exact List.getElem?_set_self (by (try simp only [List.length_set]); rw [hlen_152]; decide)
      refine lv_iconst (v := 0) hx hb dX12_text_53 (by decide) ?_
      refine lv_istore_n (lv' := [(2, .int 0), (0, .ref mq), (1, .int 0)]) hx hb dX12_text_54 rfl hl (by decide) rfl (fun ls hl => ?_)
      refine lv_aload_n hx hb dX12_text_55 rfl (lv_at hl 1 rfl) ?_
      refine va_get (D := (dC, dI)) (ci := 12) (v := .int 0) (C := RX12) (T := TX12) (N := 76) hx hb htw inlX12 hown hK hP 17 rfl rfl 8 (by decide) (htw _ (ck_24 _ (List.mem_of_getElem? (i := 13) rfl))) (fun _ h9 => h9) hf_225 dX12_text_56 ?_
      refine lv_if_eq (tgt := 77) hx hb dX12_text_59 (by decide) (fun _ => ?_) (fun c => absurd c (by decide))
      refine lv_aload_n hx hb dX12_text_77 rfl (lv_at hl 1 rfl) ?_
      have hPc := hP.sub (ws' := [(mq, .inr (12, u_187)), (msk, .inl (cmsk, 14, .inl gY_143)), (mln, .inl (cmln, 8, .inl fmln)), (mlh, .inl (cmlh, 24, .inl fmlh)), (mfn, .inl (cmfn, 8, .inl fmfn)), (mfi, .inl (cmfi, 8, .inl fmfi)), (mla, .inl (cmla, 8, .inl fmla)), (mpn, .inl (cmpn, 12, .inl fmpn)), (mbo, .inl (cmbo, 12, .inr (.inl fmbo))), (mdi, .inl (cmdi, 12, .inr (.inl fmdi))), (mdn, .inl (cmdn, 8, .inl fmdn)), (mdo, .inl (cmdo, 8, .inr (.inl fmdo))), (mdh, .inl (cmdh, 24, .inl fmdh)), (mnn, .inl (cmnn, 12, .inl fmnn)), (mnh, .inl (cmnh, 264, .inl fmnh)), (mkn, .inl (cmkn, 128, .inl fmkn)), (mpt, .inl (cmpt, 128, .inl fmpt)), (mot, .inl (cmot, 128, .inl fmot))]) [17, 16, 0, 1, 2, 3, 4, 5, 6, 7, 8, 9, 10, 11, 12, 13, 14, 15] rfl
      have hKc := hK.sub (tys' := [(cmsk, .int), (cmln, .int), (cmlh, .int), (cmfn, .int), (cmfi, .int), (cmla, .int), (cmpn, .int), (cmbo, .long), (cmdi, .long), (cmdn, .int), (cmdo, .long), (cmdh, .int), (cmnn, .int), (cmnh, .int), (cmkn, .int), (cmpt, .int), (cmot, .int)]) [0, 1, 2, 3, 4, 5, 6, 7, 8, 9, 10, 11, 12, 13, 14, 15, 16] rfl
      have hDc := hD.sub (ws' := [(mq, .inr (12, u_187)), (msk, .inl (cmsk, 14, .inl gY_143)), (mln, .inl (cmln, 8, .inl fmln)), (mlh, .inl (cmlh, 24, .inl fmlh)), (mfn, .inl (cmfn, 8, .inl fmfn)), (mfi, .inl (cmfi, 8, .inl fmfi)), (mla, .inl (cmla, 8, .inl fmla)), (mpn, .inl (cmpn, 12, .inl fmpn)), (mbo, .inl (cmbo, 12, .inr (.inl fmbo))), (mdi, .inl (cmdi, 12, .inr (.inl fmdi))), (mdn, .inl (cmdn, 8, .inl fmdn)), (mdo, .inl (cmdo, 8, .inr (.inl fmdo))), (mdh, .inl (cmdh, 24, .inl fmdh)), (mnn, .inl (cmnn, 12, .inl fmnn)), (mnh, .inl (cmnh, 264, .inl fmnh)), (mkn, .inl (cmkn, 128, .inl fmkn)), (mpt, .inl (cmpt, 128, .inl fmpt)), (mot, .inl (cmot, 128, .inl fmot))]) [17, 16, 0, 1, 2, 3, 4, 5, 6, 7, 8, 9, 10, 11, 12, 13, 14, 15] (by decide) rfl
      have hFc := va_free (wc := [(mq, .inr (12, u_187)), (msk, .inl (cmsk, 14, .inl gY_143)), (mln, .inl (cmln, 8, .inl fmln)), (mlh, .inl (cmlh, 24, .inl fmlh)), (mfn, .inl (cmfn, 8, .inl fmfn)), (mfi, .inl (cmfi, 8, .inl fmfi)), (mla, .inl (cmla, 8, .inl fmla)), (mpn, .inl (cmpn, 12, .inl fmpn)), (mbo, .inl (cmbo, 12, .inr (.inl fmbo))), (mdi, .inl (cmdi, 12, .inr (.inl fmdi))), (mdn, .inl (cmdn, 8, .inl fmdn)), (mdo, .inl (cmdo, 8, .inr (.inl fmdo))), (mdh, .inl (cmdh, 24, .inl fmdh)), (mnn, .inl (cmnn, 12, .inl fmnn)), (mnh, .inl (cmnh, 264, .inl fmnh)), (mkn, .inl (cmkn, 128, .inl fmkn)), (mpt, .inl (cmpt, 128, .inl fmpt)), (mot, .inl (cmot, 128, .inl fmot))]) hD hS hA [17, 16, 0, 1, 2, 3, 4, 5, 6, 7, 8, 9, 10, 11, 12, 13, 14, 15] rfl
      refine va_callv (va_runV (As := []) (rest := []) ⟨hx, hb, hml, hown, htw⟩ (mm_keepText l dC dI mq u_187 msk mln mlh mfn mfi mla mpn mbo mdi mdn mdo mdh mnn mnh mkn mpt mot cmsk cmln cmlh cmfn cmfi cmla cmpn cmbo cmdi cmdn cmdo cmdh cmnn cmnh cmkn cmpt cmot gY_143 fmln fmlh fmfn fmfi fmla fmpn fmbo fmdi fmdn fmdo fmdh fmnn fmnh fmkn fmpt fmot H.size hlen_190 hf_214 hf_215 hf_216 hf_217 hf_218 hf_219 hf_191 hf_192 hf_193 hf_194 hf_195 hf_196 hf_197 hf_198 hf_199 hf_200 hf_201 hf_202 hf_203 hf_204 hf_205 hf_206 hf_207) (cwV 0 htw (xg_V (ck_11 _ (List.mem_of_getElem? (i := 5) rfl)) (ck_11 _ (List.mem_of_getElem? (i := 6) rfl)) (ck_11 _ (List.mem_of_getElem? (i := 7) rfl)) (ck_1 _ (List.mem_of_getElem? (i := 5) rfl)) (ck_11 _ (List.mem_of_getElem? (i := 8) rfl))) rfl rfl rfl (by decide +kernel) ⟨Nat.le_of_ble_eq_true rfl, Nat.le_of_ble_eq_true rfl⟩) ⟨fun a U g mk q => by obtain ⟨q0, q1, qP, qK, qD⟩ := q; exact ⟨q0, q1, qP, va_K.moved (u := U) (U := U.calling g mk a) (Vm.Alike.refl U.vm) qK, qD⟩, va_recv hKc hPc (ci := 12) (q0 := 0) rfl rfl, fun U hU hW => ⟨rfl, by rw [hU], by rw [hU]; exact hPc, va_K.moved hW.alike hKc, hDc.weaken (fun _ _ _ _ => trivial)⟩⟩ rfl rfl hl.1 rfl (lv_room (Nat.le_of_ble_eq_true rfl)) dX12_text_78 ⟨Nat.le_of_ble_eq_true rfl, Nat.le_of_ble_eq_true rfl⟩) hS (fun q _ h => hFc q h) hFc (fun u_227 t H1 locs ht hvm hw hB hz1 hk1 hS => ?_)
      try dsimp only at hw
      obtain ⟨gs_228, gmsk_229, gmln_230, gmlh_231, gmfn_232, gmfi_233, gmla_234, gmpn_235, gmbo_236, gmdi_237, gmdn_238, gmdo_239, gmdh_240, gmnn_241, gmnh_242, gmkn_243, gmpt_244, gmot_245⟩ := u_227
      obtain ⟨hP1, hK1, hD1⟩ := hB
      rw [ht] at hP1
      have hK1 := va_K.moved hvm.symm hK1
      have hP1 : va_P (dC, dI) vwCl [(mq, .inr (12, gs_228)), (msk, .inl (cmsk, 14, .inl gmsk_229)), (mln, .inl (cmln, 8, .inl gmln_230)), (mlh, .inl (cmlh, 24, .inl gmlh_231)), (mfn, .inl (cmfn, 8, .inl gmfn_232)), (mfi, .inl (cmfi, 8, .inl gmfi_233)), (mla, .inl (cmla, 8, .inl gmla_234)), (mpn, .inl (cmpn, 12, .inl gmpn_235)), (mbo, .inl (cmbo, 12, .inr (.inl gmbo_236))), (mdi, .inl (cmdi, 12, .inr (.inl gmdi_237))), (mdn, .inl (cmdn, 8, .inl gmdn_238)), (mdo, .inl (cmdo, 8, .inr (.inl gmdo_239))), (mdh, .inl (cmdh, 24, .inl gmdh_240)), (mnn, .inl (cmnn, 12, .inl gmnn_241)), (mnh, .inl (cmnh, 264, .inl gmnh_242)), (mkn, .inl (cmkn, 128, .inl gmkn_243)), (mpt, .inl (cmpt, 128, .inl gmpt_244)), (mot, .inl (cmot, 128, .inl gmot_245))] H1 := hP1
      have hD1 : va_D (va_A [(mq, .inr (12, u_187)), (msk, .inl (cmsk, 14, .inl gY_143)), (mln, .inl (cmln, 8, .inl fmln)), (mlh, .inl (cmlh, 24, .inl fmlh)), (mfn, .inl (cmfn, 8, .inl fmfn)), (mfi, .inl (cmfi, 8, .inl fmfi)), (mla, .inl (cmla, 8, .inl fmla)), (mpn, .inl (cmpn, 12, .inl fmpn)), (mbo, .inl (cmbo, 12, .inr (.inl fmbo))), (mdi, .inl (cmdi, 12, .inr (.inl fmdi))), (mdn, .inl (cmdn, 8, .inl fmdn)), (mdo, .inl (cmdo, 8, .inr (.inl fmdo))), (mdh, .inl (cmdh, 24, .inl fmdh)), (mnn, .inl (cmnn, 12, .inl fmnn)), (mnh, .inl (cmnh, 264, .inl fmnh)), (mkn, .inl (cmkn, 128, .inl fmkn)), (mpt, .inl (cmpt, 128, .inl fmpt)), (mot, .inl (cmot, 128, .inl fmot))] H.size) [(mq, .inr (12, gs_228)), (msk, .inl (cmsk, 14, .inl gmsk_229)), (mln, .inl (cmln, 8, .inl gmln_230)), (mlh, .inl (cmlh, 24, .inl gmlh_231)), (mfn, .inl (cmfn, 8, .inl gmfn_232)), (mfi, .inl (cmfi, 8, .inl gmfi_233)), (mla, .inl (cmla, 8, .inl gmla_234)), (mpn, .inl (cmpn, 12, .inl gmpn_235)), (mbo, .inl (cmbo, 12, .inr (.inl gmbo_236))), (mdi, .inl (cmdi, 12, .inr (.inl gmdi_237))), (mdn, .inl (cmdn, 8, .inl gmdn_238)), (mdo, .inl (cmdo, 8, .inr (.inl gmdo_239))), (mdh, .inl (cmdh, 24, .inl gmdh_240)), (mnn, .inl (cmnn, 12, .inl gmnn_241)), (mnh, .inl (cmnh, 264, .inl gmnh_242)), (mkn, .inl (cmkn, 128, .inl gmkn_243)), (mpt, .inl (cmpt, 128, .inl gmpt_244)), (mot, .inl (cmot, 128, .inl gmot_245))] := hD1
      have hK1 : va_K (dC, dI) vwCl [] s := hK1
      try dsimp only at hw
      obtain ⟨hP, hD⟩ := va_join (wr := []) (w1 := [(mq, .inr (12, gs_228)), (msk, .inl (cmsk, 14, .inl gmsk_229)), (mln, .inl (cmln, 8, .inl gmln_230)), (mlh, .inl (cmlh, 24, .inl gmlh_231)), (mfn, .inl (cmfn, 8, .inl gmfn_232)), (mfi, .inl (cmfi, 8, .inl gmfi_233)), (mla, .inl (cmla, 8, .inl gmla_234)), (mpn, .inl (cmpn, 12, .inl gmpn_235)), (mbo, .inl (cmbo, 12, .inr (.inl gmbo_236))), (mdi, .inl (cmdi, 12, .inr (.inl gmdi_237))), (mdn, .inl (cmdn, 8, .inl gmdn_238)), (mdo, .inl (cmdo, 8, .inr (.inl gmdo_239))), (mdh, .inl (cmdh, 24, .inl gmdh_240)), (mnn, .inl (cmnn, 12, .inl gmnn_241)), (mnh, .inl (cmnh, 264, .inl gmnh_242)), (mkn, .inl (cmkn, 128, .inl gmkn_243)), (mpt, .inl (cmpt, 128, .inl gmpt_244)), (mot, .inl (cmot, 128, .inl gmot_245))]) hP hD [17, 16, 0, 1, 2, 3, 4, 5, 6, 7, 8, 9, 10, 11, 12, 13, 14, 15] [] rfl rfl (by decide) (by decide) hk1 hFc hP1 hD1
      generalize H1 = H at hP hS ⊢
      have hP : va_P (dC, dI) vwCl [(mq, .inr (12, gs_228)), (msk, .inl (cmsk, 14, .inl gmsk_229)), (mln, .inl (cmln, 8, .inl gmln_230)), (mlh, .inl (cmlh, 24, .inl gmlh_231)), (mfn, .inl (cmfn, 8, .inl gmfn_232)), (mfi, .inl (cmfi, 8, .inl gmfi_233)), (mla, .inl (cmla, 8, .inl gmla_234)), (mpn, .inl (cmpn, 12, .inl gmpn_235)), (mbo, .inl (cmbo, 12, .inr (.inl gmbo_236))), (mdi, .inl (cmdi, 12, .inr (.inl gmdi_237))), (mdn, .inl (cmdn, 8, .inl gmdn_238)), (mdo, .inl (cmdo, 8, .inr (.inl gmdo_239))), (mdh, .inl (cmdh, 24, .inl gmdh_240)), (mnn, .inl (cmnn, 12, .inl gmnn_241)), (mnh, .inl (cmnh, 264, .inl gmnh_242)), (mkn, .inl (cmkn, 128, .inl gmkn_243)), (mpt, .inl (cmpt, 128, .inl gmpt_244)), (mot, .inl (cmot, 128, .inl gmot_245))] H := hP
      have hD : va_D A [(mq, .inr (12, gs_228)), (msk, .inl (cmsk, 14, .inl gmsk_229)), (mln, .inl (cmln, 8, .inl gmln_230)), (mlh, .inl (cmlh, 24, .inl gmlh_231)), (mfn, .inl (cmfn, 8, .inl gmfn_232)), (mfi, .inl (cmfi, 8, .inl gmfi_233)), (mla, .inl (cmla, 8, .inl gmla_234)), (mpn, .inl (cmpn, 12, .inl gmpn_235)), (mbo, .inl (cmbo, 12, .inr (.inl gmbo_236))), (mdi, .inl (cmdi, 12, .inr (.inl gmdi_237))), (mdn, .inl (cmdn, 8, .inl gmdn_238)), (mdo, .inl (cmdo, 8, .inr (.inl gmdo_239))), (mdh, .inl (cmdh, 24, .inl gmdh_240)), (mnn, .inl (cmnn, 12, .inl gmnn_241)), (mnh, .inl (cmnh, 264, .inl gmnh_242)), (mkn, .inl (cmkn, 128, .inl gmkn_243)), (mpt, .inl (cmpt, 128, .inl gmpt_244)), (mot, .inl (cmot, 128, .inl gmot_245))] := hD
      refine W.widen (k := 0) (n := 0) (by omega) (by omega) ?_
      obtain ⟨hg_246, hk_247⟩ := hw
      refine lv_iload_n hx hb dX12_text_81 rfl (lv_at hl 0 rfl) ?_
      refine W.widen (k := 0) (n := 0) (by omega) (by omega) ?_
      exact W.iret (v := 0) hx hb hr (fun t ht hW => ⟨⟨0, (), rfl, rfl, trivial⟩, hS.F ht⟩) hS.2.2 dX12_text_82
    · refine lv_bipush (v := (-2)) hx hb dX12_text_17 (by decide) ?_
      refine W.widen (k := 0) (n := 0) (by omega) (by omega) ?_
      exact W.iret (v := (-2)) hx hb hr (fun t ht hW => ⟨⟨(-2), (), rfl, (xm_text2 c_23).symm, trivial⟩, hS.F ht⟩) hS.2.2 dX12_text_19
