theorem dX12_keep_0 : decode cX12_keep 0 = .ok (.aload_n 0, 1) := by decide +kernel
theorem dX12_keep_1 : decode cX12_keep 1 = .ok (.iconst 0, 1) := by decide +kernel
theorem dX12_keep_2 : decode cX12_keep 2 = .ok (.putfield 119, 3) := by decide +kernel
theorem dX12_keep_5 : decode cX12_keep 5 = .ok (.aload_n 0, 1) := by decide +kernel
theorem dX12_keep_6 : decode cX12_keep 6 = .ok (.iconst 1, 1) := by decide +kernel
theorem dX12_keep_7 : decode cX12_keep 7 = .ok (.putfield 252, 3) := by decide +kernel
theorem dX12_keep_10 : decode cX12_keep 10 = .ok (.aload_n 0, 1) := by decide +kernel
theorem dX12_keep_11 : decode cX12_keep 11 = .ok (.aload_n 0, 1) := by decide +kernel
theorem dX12_keep_12 : decode cX12_keep 12 = .ok (.getfield 229, 3) := by decide +kernel
theorem dX12_keep_15 : decode cX12_keep 15 = .ok (.putfield 540, 3) := by decide +kernel
theorem dX12_keep_18 : decode cX12_keep 18 = .ok (.aload_n 0, 1) := by decide +kernel
theorem dX12_keep_19 : decode cX12_keep 19 = .ok (.aload_n 0, 1) := by decide +kernel
theorem dX12_keep_20 : decode cX12_keep 20 = .ok (.getfield 246, 3) := by decide +kernel
theorem dX12_keep_23 : decode cX12_keep 23 = .ok (.putfield 543, 3) := by decide +kernel
theorem dX12_keep_26 : decode cX12_keep 26 = .ok (.iconst 0, 1) := by decide +kernel
theorem dX12_keep_27 : decode cX12_keep 27 = .ok (.istore_n 1, 1) := by decide +kernel
theorem dX12_keep_28 : decode cX12_keep 28 = .ok (.iload_n 1, 1) := by decide +kernel
theorem dX12_keep_29 : decode cX12_keep 29 = .ok (.sipush 132, 3) := by decide +kernel
theorem dX12_keep_32 : decode cX12_keep 32 = .ok (.if_icmp .ge 21, 3) := by decide +kernel
theorem dX12_keep_53 : decode cX12_keep 53 = .ok (.iconst 0, 1) := by decide +kernel
theorem dX12_keep_54 : decode cX12_keep 54 = .ok (.istore_n 1, 1) := by decide +kernel
theorem dX12_keep_55 : decode cX12_keep 55 = .ok (.iload_n 1, 1) := by decide +kernel
theorem dX12_keep_56 : decode cX12_keep 56 = .ok (.bipush 20, 2) := by decide +kernel
theorem dX12_keep_58 : decode cX12_keep 58 = .ok (.if_icmp .ge 33, 3) := by decide +kernel
theorem dX12_keep_91 : decode cX12_keep 91 = .ok (.aload_n 0, 1) := by decide +kernel
theorem dX12_keep_92 : decode cX12_keep 92 = .ok (.getfield 229, 3) := by decide +kernel
theorem dX12_keep_95 : decode cX12_keep 95 = .ok (.ireturn, 1) := by decide +kernel
theorem dX12_keep_61 : decode cX12_keep 61 = .ok (.aload_n 0, 1) := by decide +kernel
theorem dX12_keep_62 : decode cX12_keep 62 = .ok (.getfield 107, 3) := by decide +kernel
theorem dX12_keep_65 : decode cX12_keep 65 = .ok (.iload_n 1, 1) := by decide +kernel
theorem dX12_keep_66 : decode cX12_keep 66 = .ok (.aload_n 0, 1) := by decide +kernel
theorem dX12_keep_67 : decode cX12_keep 67 = .ok (.getfield 98, 3) := by decide +kernel
theorem dX12_keep_70 : decode cX12_keep 70 = .ok (.iload_n 1, 1) := by decide +kernel
theorem dX12_keep_71 : decode cX12_keep 71 = .ok (.iaload, 1) := by decide +kernel
theorem dX12_keep_72 : decode cX12_keep 72 = .ok (.iastore, 1) := by decide +kernel
theorem dX12_keep_73 : decode cX12_keep 73 = .ok (.aload_n 0, 1) := by decide +kernel
theorem dX12_keep_74 : decode cX12_keep 74 = .ok (.getfield 110, 3) := by decide +kernel
theorem dX12_keep_77 : decode cX12_keep 77 = .ok (.iload_n 1, 1) := by decide +kernel
theorem dX12_keep_78 : decode cX12_keep 78 = .ok (.aload_n 0, 1) := by decide +kernel
theorem dX12_keep_79 : decode cX12_keep 79 = .ok (.getfield 101, 3) := by decide +kernel
theorem dX12_keep_82 : decode cX12_keep 82 = .ok (.iload_n 1, 1) := by decide +kernel
theorem dX12_keep_83 : decode cX12_keep 83 = .ok (.iaload, 1) := by decide +kernel
theorem dX12_keep_84 : decode cX12_keep 84 = .ok (.iastore, 1) := by decide +kernel
theorem dX12_keep_85 : decode cX12_keep 85 = .ok (.iinc 1 1, 3) := by decide +kernel
theorem dX12_keep_88 : decode cX12_keep 88 = .ok (.goto (-33), 3) := by decide +kernel
theorem dX12_keep_35 : decode cX12_keep 35 = .ok (.aload_n 0, 1) := by decide +kernel
theorem dX12_keep_36 : decode cX12_keep 36 = .ok (.getfield 104, 3) := by decide +kernel
theorem dX12_keep_39 : decode cX12_keep 39 = .ok (.iload_n 1, 1) := by decide +kernel
theorem dX12_keep_40 : decode cX12_keep 40 = .ok (.aload_n 0, 1) := by decide +kernel
theorem dX12_keep_41 : decode cX12_keep 41 = .ok (.getfield 60, 3) := by decide +kernel
theorem dX12_keep_44 : decode cX12_keep 44 = .ok (.iload_n 1, 1) := by decide +kernel
theorem dX12_keep_45 : decode cX12_keep 45 = .ok (.iaload, 1) := by decide +kernel
theorem dX12_keep_46 : decode cX12_keep 46 = .ok (.iastore, 1) := by decide +kernel
theorem dX12_keep_47 : decode cX12_keep 47 = .ok (.iinc 1 1, 3) := by decide +kernel
theorem dX12_keep_50 : decode cX12_keep 50 = .ok (.goto (-22), 3) := by decide +kernel
set_option maxHeartbeats 4000000 in
set_option maxRecDepth 100000 in
theorem mm_keep (l : Launch) (dC : Nat → ClassId) (dI : Nat → Nat → Nat) (mq : Nat) (fs : List Value) (mnh : Nat) (mkh : Nat) (mkt : Nat) (mkc : Nat) (mtn : Nat) (mtc : Nat) (cmnh : ClassId) (cmkh : ClassId) (cmkt : ClassId) (cmkc : ClassId) (cmtn : ClassId) (cmtc : ClassId) (fmnh : Nat → Int32) (fmkh : Nat → Int32) (fmkt : Nat → Int32) (fmkc : Nat → Int32) (fmtn : Nat → Int32) (fmtc : Nat → Int32) (sz : Nat) (hlen : fs.length = 76) (hf16 : fs[16]? = some (.int 0)) (hf67 : fs[67]? = some (.int 0)) (hf40 : fs[40]? = some (.ref mnh)) (hf73 : fs[73]? = some (.ref mkh)) (hf74 : fs[74]? = some (.ref mkt)) (hf75 : fs[75]? = some (.ref mkc)) (hf68 : fs[68]? = some (.ref mtn)) (hf69 : fs[69]? = some (.ref mtc)) : Met l yX12_keep (Cond.code yX12_keep cX12_keep 2 (some .int) :: wsL_law) ({ frames := 0, cells := 0, slots := 0, locals := 0 }) (va_Pc [.ref mq] (fun U => U.heap.size = sz ∧ va_P (dC, dI) vwCl [(mq, .inr (12, fs)), (mnh, .inl (cmnh, 264, .inl fmnh)), (mkh, .inl (cmkh, 132, .inl fmkh)), (mkt, .inl (cmkt, 20, .inl fmkt)), (mkc, .inl (cmkc, 20, .inl fmkc)), (mtn, .inl (cmtn, 20, .inl fmtn)), (mtc, .inl (cmtc, 20, .inl fmtc))] U.heap ∧ va_K (dC, dI) vwCl [(cmnh, .int), (cmkh, .int), (cmkt, .int), (cmkc, .int), (cmtn, .int), (cmtc, .int)] U ∧ va_D (fun _ => True) [(mq, .inr (12, fs)), (mnh, .inl (cmnh, 264, .inl fmnh)), (mkh, .inl (cmkh, 132, .inl fmkh)), (mkt, .inl (cmkt, 20, .inl fmkt)), (mkc, .inl (cmkc, 20, .inl fmkc)), (mtn, .inl (cmtn, 20, .inl fmtn)), (mtc, .inl (cmtc, 20, .inl fmtc))])) (va_Qi (fun (r : Int32) (u : Unit) => r = 0) (fun _ _ => True) (va_A [(mq, .inr (12, fs)), (mnh, .inl (cmnh, 264, .inl fmnh)), (mkh, .inl (cmkh, 132, .inl fmkh)), (mkt, .inl (cmkt, 20, .inl fmkt)), (mkc, .inl (cmkc, 20, .inl fmkc)), (mtn, .inl (cmtn, 20, .inl fmtn)), (mtc, .inl (cmtc, 20, .inl fmtc))] sz)) 0 0 (va_A [(mq, .inr (12, fs)), (mnh, .inl (cmnh, 264, .inl fmnh)), (mkh, .inl (cmkh, 132, .inl fmkh)), (mkt, .inl (cmkt, 20, .inl fmkt)), (mkc, .inl (cmkc, 20, .inl fmkc)), (mtn, .inl (cmtn, 20, .inl fmtn)), (mtc, .inl (cmtc, 20, .inl fmtc))] sz) := by
  refine Met.ofW (cc := cX12_keep) (maxL := 2) (ret := (some .int)) (by decide) rfl ?_
  intro p e s m args below meth c s₁ B hml hv
  obtain ⟨rfl, hsz, hP, hK, hD0⟩ := hv
  have hx := B.exec
  have hb := B.bytes
  have hr := B.returns
  have hts := atoms_spec (ws := Cond.code yX12_keep cX12_keep 2 (some .int) :: wsL_law) B.pre
  have htw : ∀ w ∈ wsL_law, w.before _ s = true := fun w h => hts w (List.mem_cons_of_mem _ h)
  have hown : s.vm.findClass RX12 = some m.cls := findClass_of_methodNamed B.named
  have hlocks := B.notSynchronized
  subst hsz
  have hD := hD0.self (sz := s.heap.size)
  generalize hAe : va_A [(mq, .inr (12, fs)), (mnh, .inl (cmnh, 264, .inl fmnh)), (mkh, .inl (cmkh, 132, .inl fmkh)), (mkt, .inl (cmkt, 20, .inl fmkt)), (mkc, .inl (cmkc, 20, .inl fmkc)), (mtn, .inl (cmtn, 20, .inl fmtn)), (mtc, .inl (cmtc, 20, .inl fmtc))] s.heap.size = A at hD ⊢
  have hA : ∀ q : Nat, s.heap.size ≤ q → A q := fun q h => by rw [← hAe]; exact Or.inr h
  obtain ⟨H, rH⟩ : ∃ z : Heap, z = s.heap := ⟨_, rfl⟩
  have hS : va_S A s.heap H [] := by rw [rH]; exact va_S.rf
  have hP : va_P (dC, dI) vwCl [(mq, .inr (12, fs)), (mnh, .inl (cmnh, 264, .inl fmnh)), (mkh, .inl (cmkh, 132, .inl fmkh)), (mkt, .inl (cmkt, 20, .inl fmkt)), (mkc, .inl (cmkc, 20, .inl fmkc)), (mtn, .inl (cmtn, 20, .inl fmtn)), (mtc, .inl (cmtc, 20, .inl fmtc))] H := by rw [rH]; exact hP
  rw [← rH]
  have hl := lv_entry ([.ref mq]) (n := 2) (Nat.le_of_ble_eq_true rfl)
  rw [lg_entry_eq]
  generalize (lg_sl ([.ref mq]) ++ List.replicate (2 - (lg_sl ([.ref mq])).length) Slot.unset).toArray = ls at hl ⊢
  have hl : lv_has ls 2 [(0, .ref mq)] := hl
  refine lv_aload_n hx hb dX12_keep_0 rfl (lv_at hl 0 rfl) ?_
  refine lv_iconst (v := 0) hx hb dX12_keep_1 (by decide) ?_
  refine va_put (D := (dC, dI)) (ci := 12) (v := .int 0) (ty := tyX12 2) (C := RX12) (T := TX12) (N := 76) hx hb htw inlX12 tyX12 tyX12_ok nmX12 hown hK hP hD hS 0 rfl rfl 2 (by decide) (htw _ (ck_12 _ (List.mem_of_getElem? (i := 16) rfl))) (fun _ h9 => h9) rfl (by decide +kernel) rfl rfl (by rw [hlen]; decide) dX12_keep_2 (fun H locs hP hD hS => ?_)
  obtain ⟨fs_1, efs_1⟩ : ∃ g : List Value, g = (fs).set 2 (.int 0) := ⟨_, rfl⟩
  have hlen_2 : fs_1.length = 76 := by rw [efs_1, List.length_set]; exact hlen
  have hf_3 : fs_1[16]? = some (.int 0) := by rw [efs_1, List.getElem?_set_ne (by decide)]; exact hf16
  have hf_4 : fs_1[67]? = some (.int 0) := by rw [efs_1, List.getElem?_set_ne (by decide)]; exact hf67
  have hf_5 : fs_1[40]? = some (.ref mnh) := by rw [efs_1, List.getElem?_set_ne (by decide)]; exact hf40
  have hf_6 : fs_1[73]? = some (.ref mkh) := by rw [efs_1, List.getElem?_set_ne (by decide)]; exact hf73
  have hf_7 : fs_1[74]? = some (.ref mkt) := by rw [efs_1, List.getElem?_set_ne (by decide)]; exact hf74
  have hf_8 : fs_1[75]? = some (.ref mkc) := by rw [efs_1, List.getElem?_set_ne (by decide)]; exact hf75
  have hf_9 : fs_1[68]? = some (.ref mtn) := by rw [efs_1, List.getElem?_set_ne (by decide)]; exact hf68
  have hf_10 : fs_1[69]? = some (.ref mtc) := by rw [efs_1, List.getElem?_set_ne (by decide)]; exact hf69
  have hf_11 : fs_1[2]? = some (.int 0) := by rw [efs_1]; exact List.getElem?_set_self (by rw [hlen]; decide)
  rw [← efs_1] at hP hD
  have hP : va_P (dC, dI) vwCl [(mq, .inr (12, fs_1)), (mnh, .inl (cmnh, 264, .inl fmnh)), (mkh, .inl (cmkh, 132, .inl fmkh)), (mkt, .inl (cmkt, 20, .inl fmkt)), (mkc, .inl (cmkc, 20, .inl fmkc)), (mtn, .inl (cmtn, 20, .inl fmtn)), (mtc, .inl (cmtc, 20, .inl fmtc))] H := hP
  have hD : va_D A [(mq, .inr (12, fs_1)), (mnh, .inl (cmnh, 264, .inl fmnh)), (mkh, .inl (cmkh, 132, .inl fmkh)), (mkt, .inl (cmkt, 20, .inl fmkt)), (mkc, .inl (cmkc, 20, .inl fmkc)), (mtn, .inl (cmtn, 20, .inl fmtn)), (mtc, .inl (cmtc, 20, .inl fmtc))] := hD
  refine lv_aload_n hx hb dX12_keep_5 rfl (lv_at hl 0 rfl) ?_
  refine lv_iconst (v := 1) hx hb dX12_keep_6 (by decide) ?_
  refine va_put (D := (dC, dI)) (ci := 12) (v := .int 1) (ty := tyX12 70) (C := RX12) (T := TX12) (N := 76) hx hb htw inlX12 tyX12 tyX12_ok nmX12 hown hK hP hD hS 0 rfl rfl 70 (by decide) (htw _ (ck_11 _ (List.mem_of_getElem? (i := 18) rfl))) (fun _ h9 => h9) rfl (by decide +kernel) rfl rfl (by rw [hlen_2]; decide) dX12_keep_7 (fun H locs hP hD hS => ?_)
  obtain ⟨fs_12, efs_12⟩ : ∃ g : List Value, g = (fs_1).set 70 (.int 1) := ⟨_, rfl⟩
  have hlen_13 : fs_12.length = 76 := by rw [efs_12, List.length_set]; exact hlen_2
  have hf_14 : fs_12[16]? = some (.int 0) := by rw [efs_12, List.getElem?_set_ne (by decide)]; exact hf_3
  have hf_15 : fs_12[67]? = some (.int 0) := by rw [efs_12, List.getElem?_set_ne (by decide)]; exact hf_4
  have hf_16 : fs_12[40]? = some (.ref mnh) := by rw [efs_12, List.getElem?_set_ne (by decide)]; exact hf_5
  have hf_17 : fs_12[73]? = some (.ref mkh) := by rw [efs_12, List.getElem?_set_ne (by decide)]; exact hf_6
  have hf_18 : fs_12[74]? = some (.ref mkt) := by rw [efs_12, List.getElem?_set_ne (by decide)]; exact hf_7
  have hf_19 : fs_12[75]? = some (.ref mkc) := by rw [efs_12, List.getElem?_set_ne (by decide)]; exact hf_8
  have hf_20 : fs_12[68]? = some (.ref mtn) := by rw [efs_12, List.getElem?_set_ne (by decide)]; exact hf_9
  have hf_21 : fs_12[69]? = some (.ref mtc) := by rw [efs_12, List.getElem?_set_ne (by decide)]; exact hf_10
  have hf_22 : fs_12[2]? = some (.int 0) := by rw [efs_12, List.getElem?_set_ne (by decide)]; exact hf_11
  have hf_23 : fs_12[70]? = some (.int 1) := by rw [efs_12]; exact List.getElem?_set_self (by rw [hlen_2]; decide)
  rw [← efs_12] at hP hD
  have hP : va_P (dC, dI) vwCl [(mq, .inr (12, fs_12)), (mnh, .inl (cmnh, 264, .inl fmnh)), (mkh, .inl (cmkh, 132, .inl fmkh)), (mkt, .inl (cmkt, 20, .inl fmkt)), (mkc, .inl (cmkc, 20, .inl fmkc)), (mtn, .inl (cmtn, 20, .inl fmtn)), (mtc, .inl (cmtc, 20, .inl fmtc))] H := hP
  have hD : va_D A [(mq, .inr (12, fs_12)), (mnh, .inl (cmnh, 264, .inl fmnh)), (mkh, .inl (cmkh, 132, .inl fmkh)), (mkt, .inl (cmkt, 20, .inl fmkt)), (mkc, .inl (cmkc, 20, .inl fmkc)), (mtn, .inl (cmtn, 20, .inl fmtn)), (mtc, .inl (cmtc, 20, .inl fmtc))] := hD
  refine lv_aload_n hx hb dX12_keep_10 rfl (lv_at hl 0 rfl) ?_
  refine lv_aload_n hx hb dX12_keep_11 rfl (lv_at hl 0 rfl) ?_
  refine va_get (D := (dC, dI)) (ci := 12) (v := .int 0) (C := RX12) (T := TX12) (N := 76) hx hb htw inlX12 hown hK hP 0 rfl rfl 16 (by decide) (htw _ (ck_11 _ (List.mem_of_getElem? (i := 13) rfl))) (fun _ h9 => h9) hf_14 dX12_keep_12 ?_
  refine va_put (D := (dC, dI)) (ci := 12) (v := .int 0) (ty := tyX12 71) (C := RX12) (T := TX12) (N := 76) hx hb htw inlX12 tyX12 tyX12_ok nmX12 hown hK hP hD hS 0 rfl rfl 71 (by decide) (htw _ (ck_65 _ (List.mem_of_getElem? (i := 20) rfl))) (fun _ h9 => h9) rfl (by decide +kernel) rfl rfl (by rw [hlen_13]; decide) dX12_keep_15 (fun H locs hP hD hS => ?_)
  obtain ⟨fs_24, efs_24⟩ : ∃ g : List Value, g = (fs_12).set 71 (.int 0) := ⟨_, rfl⟩
  have hlen_25 : fs_24.length = 76 := by rw [efs_24, List.length_set]; exact hlen_13
  have hf_26 : fs_24[16]? = some (.int 0) := by rw [efs_24, List.getElem?_set_ne (by decide)]; exact hf_14
  have hf_27 : fs_24[67]? = some (.int 0) := by rw [efs_24, List.getElem?_set_ne (by decide)]; exact hf_15
  have hf_28 : fs_24[40]? = some (.ref mnh) := by rw [efs_24, List.getElem?_set_ne (by decide)]; exact hf_16
  have hf_29 : fs_24[73]? = some (.ref mkh) := by rw [efs_24, List.getElem?_set_ne (by decide)]; exact hf_17
  have hf_30 : fs_24[74]? = some (.ref mkt) := by rw [efs_24, List.getElem?_set_ne (by decide)]; exact hf_18
  have hf_31 : fs_24[75]? = some (.ref mkc) := by rw [efs_24, List.getElem?_set_ne (by decide)]; exact hf_19
  have hf_32 : fs_24[68]? = some (.ref mtn) := by rw [efs_24, List.getElem?_set_ne (by decide)]; exact hf_20
  have hf_33 : fs_24[69]? = some (.ref mtc) := by rw [efs_24, List.getElem?_set_ne (by decide)]; exact hf_21
  have hf_34 : fs_24[2]? = some (.int 0) := by rw [efs_24, List.getElem?_set_ne (by decide)]; exact hf_22
  have hf_35 : fs_24[70]? = some (.int 1) := by rw [efs_24, List.getElem?_set_ne (by decide)]; exact hf_23
  have hf_36 : fs_24[71]? = some (.int 0) := by rw [efs_24]; exact List.getElem?_set_self (by rw [hlen_13]; decide)
  rw [← efs_24] at hP hD
  have hP : va_P (dC, dI) vwCl [(mq, .inr (12, fs_24)), (mnh, .inl (cmnh, 264, .inl fmnh)), (mkh, .inl (cmkh, 132, .inl fmkh)), (mkt, .inl (cmkt, 20, .inl fmkt)), (mkc, .inl (cmkc, 20, .inl fmkc)), (mtn, .inl (cmtn, 20, .inl fmtn)), (mtc, .inl (cmtc, 20, .inl fmtc))] H := hP
  have hD : va_D A [(mq, .inr (12, fs_24)), (mnh, .inl (cmnh, 264, .inl fmnh)), (mkh, .inl (cmkh, 132, .inl fmkh)), (mkt, .inl (cmkt, 20, .inl fmkt)), (mkc, .inl (cmkc, 20, .inl fmkc)), (mtn, .inl (cmtn, 20, .inl fmtn)), (mtc, .inl (cmtc, 20, .inl fmtc))] := hD
  refine lv_aload_n hx hb dX12_keep_18 rfl (lv_at hl 0 rfl) ?_
  refine lv_aload_n hx hb dX12_keep_19 rfl (lv_at hl 0 rfl) ?_
  refine va_get (D := (dC, dI)) (ci := 12) (v := .int 0) (C := RX12) (T := TX12) (N := 76) hx hb htw inlX12 hown hK hP 0 rfl rfl 67 (by decide) (htw _ (ck_11 _ (List.mem_of_getElem? (i := 16) rfl))) (fun _ h9 => h9) hf_27 dX12_keep_20 ?_
  refine va_put (D := (dC, dI)) (ci := 12) (v := .int 0) (ty := tyX12 72) (C := RX12) (T := TX12) (N := 76) hx hb htw inlX12 tyX12 tyX12_ok nmX12 hown hK hP hD hS 0 rfl rfl 72 (by decide) (htw _ (ck_65 _ (List.mem_of_getElem? (i := 21) rfl))) (fun _ h9 => h9) rfl (by decide +kernel) rfl rfl (by rw [hlen_25]; decide) dX12_keep_23 (fun H locs hP hD hS => ?_)
  obtain ⟨fs_37, efs_37⟩ : ∃ g : List Value, g = (fs_24).set 72 (.int 0) := ⟨_, rfl⟩
  have hlen_38 : fs_37.length = 76 := by rw [efs_37, List.length_set]; exact hlen_25
  have hf_39 : fs_37[16]? = some (.int 0) := by rw [efs_37, List.getElem?_set_ne (by decide)]; exact hf_26
  have hf_40 : fs_37[67]? = some (.int 0) := by rw [efs_37, List.getElem?_set_ne (by decide)]; exact hf_27
  have hf_41 : fs_37[40]? = some (.ref mnh) := by rw [efs_37, List.getElem?_set_ne (by decide)]; exact hf_28
  have hf_42 : fs_37[73]? = some (.ref mkh) := by rw [efs_37, List.getElem?_set_ne (by decide)]; exact hf_29
  have hf_43 : fs_37[74]? = some (.ref mkt) := by rw [efs_37, List.getElem?_set_ne (by decide)]; exact hf_30
  have hf_44 : fs_37[75]? = some (.ref mkc) := by rw [efs_37, List.getElem?_set_ne (by decide)]; exact hf_31
  have hf_45 : fs_37[68]? = some (.ref mtn) := by rw [efs_37, List.getElem?_set_ne (by decide)]; exact hf_32
  have hf_46 : fs_37[69]? = some (.ref mtc) := by rw [efs_37, List.getElem?_set_ne (by decide)]; exact hf_33
  have hf_47 : fs_37[2]? = some (.int 0) := by rw [efs_37, List.getElem?_set_ne (by decide)]; exact hf_34
  have hf_48 : fs_37[70]? = some (.int 1) := by rw [efs_37, List.getElem?_set_ne (by decide)]; exact hf_35
  have hf_49 : fs_37[71]? = some (.int 0) := by rw [efs_37, List.getElem?_set_ne (by decide)]; exact hf_36
  have hf_50 : fs_37[72]? = some (.int 0) := by rw [efs_37]; exact List.getElem?_set_self (by rw [hlen_25]; decide)
  rw [← efs_37] at hP hD
  have hP : va_P (dC, dI) vwCl [(mq, .inr (12, fs_37)), (mnh, .inl (cmnh, 264, .inl fmnh)), (mkh, .inl (cmkh, 132, .inl fmkh)), (mkt, .inl (cmkt, 20, .inl fmkt)), (mkc, .inl (cmkc, 20, .inl fmkc)), (mtn, .inl (cmtn, 20, .inl fmtn)), (mtc, .inl (cmtc, 20, .inl fmtc))] H := hP
  have hD : va_D A [(mq, .inr (12, fs_37)), (mnh, .inl (cmnh, 264, .inl fmnh)), (mkh, .inl (cmkh, 132, .inl fmkh)), (mkt, .inl (cmkt, 20, .inl fmkt)), (mkc, .inl (cmkc, 20, .inl fmkc)), (mtn, .inl (cmtn, 20, .inl fmtn)), (mtc, .inl (cmtc, 20, .inl fmtc))] := hD
  refine lv_iconst (v := 0) hx hb dX12_keep_26 (by decide) ?_
  refine lv_istore_n (lv' := [(1, .int 0), (0, .ref mq)]) hx hb dX12_keep_27 rfl hl (by decide) rfl (fun ls hl => ?_)
  have hloop_51 : ∀ (n : Nat) (k : Nat) (g1 : Nat → Int32) (hk : k + n = 132) (H : Heap) (locs : List Loc) (ls : Array Slot) (hP : va_P (dC, dI) vwCl [(mq, .inr (12, fs_37)), (mnh, .inl (cmnh, 264, .inl fmnh)), (mkh, .inl (cmkh, 132, .inl g1)), (mkt, .inl (cmkt, 20, .inl fmkt)), (mkc, .inl (cmkc, 20, .inl fmkc)), (mtn, .inl (cmtn, 20, .inl fmtn)), (mtc, .inl (cmtc, 20, .inl fmtc))] H) (hD : va_D A [(mq, .inr (12, fs_37)), (mnh, .inl (cmnh, 264, .inl fmnh)), (mkh, .inl (cmkh, 132, .inl g1)), (mkt, .inl (cmkt, 20, .inl fmkt)), (mkc, .inl (cmkc, 20, .inl fmkc)), (mtn, .inl (cmtn, 20, .inl fmtn)), (mtc, .inl (cmtc, 20, .inl fmtc))]) (hS : va_S A s.heap H locs) (hl : lv_has ls 2 [(1, .int (nI k)), (0, .ref mq)]), W p l e (headSpec (Cond.code yX12_keep cX12_keep 2 (some .int) :: wsL_law) ({ frames := 0, cells := 0, slots := 0, locals := 0 })).room s m ([.ref mq] : List Value).toArray below meth c H locs 0 0 (MQ below (va_Qi (fun (r : Int32) (u : Unit) => r = 0) (fun _ _ => True) A) ([.ref mq] : List Value).toArray s 0 0 A) (F0 m 28 ls []) := by
    intro n
    induction n with
    | zero =>
      intro k g1 hk H locs ls hP hD hS hl
      obtain rfl : k = 132 := by omega
      refine lv_iload_n hx hb dX12_keep_28 rfl (lv_at hl 0 rfl) ?_
      refine lv_sipush (v := 132) hx hb dX12_keep_29 (by decide) ?_
      refine lv_icmp_ge (tgt := 53) hx hb dX12_keep_32 (by decide) (fun c_52 => ?_) (fun c_52 => absurd c_52 (fun h => h (by decide)))
      refine lv_iconst (v := 0) hx hb dX12_keep_53 (by decide) ?_
      refine lv_istore_n (lv' := [(1, .int 0), (0, .ref mq)]) hx hb dX12_keep_54 rfl hl (by decide) rfl (fun ls hl => ?_)
      have hloop_53 : ∀ (n : Nat) (k : Nat) (g2 : Nat → Int32) (g3 : Nat → Int32) (hk : k + n = 20) (H : Heap) (locs : List Loc) (ls : Array Slot) (hP : va_P (dC, dI) vwCl [(mq, .inr (12, fs_37)), (mnh, .inl (cmnh, 264, .inl fmnh)), (mkh, .inl (cmkh, 132, .inl g1)), (mkt, .inl (cmkt, 20, .inl g2)), (mkc, .inl (cmkc, 20, .inl g3)), (mtn, .inl (cmtn, 20, .inl fmtn)), (mtc, .inl (cmtc, 20, .inl fmtc))] H) (hD : va_D A [(mq, .inr (12, fs_37)), (mnh, .inl (cmnh, 264, .inl fmnh)), (mkh, .inl (cmkh, 132, .inl g1)), (mkt, .inl (cmkt, 20, .inl g2)), (mkc, .inl (cmkc, 20, .inl g3)), (mtn, .inl (cmtn, 20, .inl fmtn)), (mtc, .inl (cmtc, 20, .inl fmtc))]) (hS : va_S A s.heap H locs) (hl : lv_has ls 2 [(1, .int (nI k)), (0, .ref mq)]), W p l e (headSpec (Cond.code yX12_keep cX12_keep 2 (some .int) :: wsL_law) ({ frames := 0, cells := 0, slots := 0, locals := 0 })).room s m ([.ref mq] : List Value).toArray below meth c H locs 0 0 (MQ below (va_Qi (fun (r : Int32) (u : Unit) => r = 0) (fun _ _ => True) A) ([.ref mq] : List Value).toArray s 0 0 A) (F0 m 55 ls []) := by
        intro n
        induction n with
        | zero =>
          intro k g2 g3 hk H locs ls hP hD hS hl
          obtain rfl : k = 20 := by omega
          refine lv_iload_n hx hb dX12_keep_55 rfl (lv_at hl 0 rfl) ?_
          refine lv_bipush (v := 20) hx hb dX12_keep_56 (by decide) ?_
          refine lv_icmp_ge (tgt := 91) hx hb dX12_keep_58 (by decide) (fun c_54 => ?_) (fun c_54 => absurd c_54 (fun h => h (by decide)))
          refine lv_aload_n hx hb dX12_keep_91 rfl (lv_at hl 1 rfl) ?_
          refine va_get (D := (dC, dI)) (ci := 12) (v := .int 0) (C := RX12) (T := TX12) (N := 76) hx hb htw inlX12 hown hK hP 0 rfl rfl 16 (by decide) (htw _ (ck_11 _ (List.mem_of_getElem? (i := 13) rfl))) (fun _ h9 => h9) hf_39 dX12_keep_92 ?_
          refine W.widen (k := 0) (n := 0) (by omega) (by omega) ?_
          exact W.iret (v := 0) hx hb hr (fun t ht hW => ⟨⟨0, (), rfl, rfl, trivial⟩, hS.F ht⟩) hS.2.2 dX12_keep_95
        | succ n ih =>
          intro k g2 g3 hk H locs ls hP hD hS hl
          refine lv_iload_n hx hb dX12_keep_55 rfl (lv_at hl 0 rfl) ?_
          refine lv_bipush (v := 20) hx hb dX12_keep_56 (by decide) ?_
          refine lv_icmp_ge (tgt := 91) hx hb dX12_keep_58 (by decide) (fun c_55 => absurd c_55 (nI_ge (a := k) (b := 20) (by omega) (by decide))) (fun c_55 => ?_)
          refine lv_aload_n hx hb dX12_keep_61 rfl (lv_at hl 1 rfl) ?_
          refine va_get (D := (dC, dI)) (ci := 12) (v := .ref mkt) (C := RX12) (T := TX12) (N := 76) hx hb htw inlX12 hown hK hP 0 rfl rfl 74 (by decide) (htw _ (ck_10 _ (List.mem_of_getElem? (i := 13) rfl))) (fun _ h9 => h9) hf_43 dX12_keep_62 ?_
          refine lv_iload_n hx hb dX12_keep_65 rfl (lv_at hl 0 rfl) ?_
          refine lv_aload_n hx hb dX12_keep_66 rfl (lv_at hl 1 rfl) ?_
          refine va_get (D := (dC, dI)) (ci := 12) (v := .ref mtn) (C := RX12) (T := TX12) (N := 76) hx hb htw inlX12 hown hK hP 0 rfl rfl 68 (by decide) (htw _ (ck_10 _ (List.mem_of_getElem? (i := 10) rfl))) (fun _ h9 => h9) hf_45 dX12_keep_67 ?_
          refine lv_iload_n hx hb dX12_keep_70 rfl (lv_at hl 0 rfl) ?_
          refine va_iald hx hb hK hP 5 4 rfl rfl (vp_in_nI (n := k) (by omega) (by decide)) dX12_keep_71 ?_
          refine lv_topi (fun z_56 ez_56 => ?_)
          refine xg_iast hx hb hK hP hD hS 3 2 rfl rfl (vp_in_nI (n := k) (by omega) (by decide)) dX12_keep_72 (fun f_57 H locs hP hD hS => ?_)
          have hP : va_P (dC, dI) vwCl [(mq, .inr (12, fs_37)), (mnh, .inl (cmnh, 264, .inl fmnh)), (mkh, .inl (cmkh, 132, .inl g1)), (mkt, .inl (cmkt, 20, .inl f_57)), (mkc, .inl (cmkc, 20, .inl g3)), (mtn, .inl (cmtn, 20, .inl fmtn)), (mtc, .inl (cmtc, 20, .inl fmtc))] H := hP
          have hD : va_D A [(mq, .inr (12, fs_37)), (mnh, .inl (cmnh, 264, .inl fmnh)), (mkh, .inl (cmkh, 132, .inl g1)), (mkt, .inl (cmkt, 20, .inl f_57)), (mkc, .inl (cmkc, 20, .inl g3)), (mtn, .inl (cmtn, 20, .inl fmtn)), (mtc, .inl (cmtc, 20, .inl fmtc))] := hD
          refine lv_aload_n hx hb dX12_keep_73 rfl (lv_at hl 1 rfl) ?_
          refine va_get (D := (dC, dI)) (ci := 12) (v := .ref mkc) (C := RX12) (T := TX12) (N := 76) hx hb htw inlX12 hown hK hP 0 rfl rfl 75 (by decide) (htw _ (ck_10 _ (List.mem_of_getElem? (i := 14) rfl))) (fun _ h9 => h9) hf_44 dX12_keep_74 ?_
          refine lv_iload_n hx hb dX12_keep_77 rfl (lv_at hl 0 rfl) ?_
          refine lv_aload_n hx hb dX12_keep_78 rfl (lv_at hl 1 rfl) ?_
          refine va_get (D := (dC, dI)) (ci := 12) (v := .ref mtc) (C := RX12) (T := TX12) (N := 76) hx hb htw inlX12 hown hK hP 0 rfl rfl 69 (by decide) (htw _ (ck_10 _ (List.mem_of_getElem? (i := 11) rfl))) (fun _ h9 => h9) hf_46 dX12_keep_79 ?_
          refine lv_iload_n hx hb dX12_keep_82 rfl (lv_at hl 0 rfl) ?_
          refine va_iald hx hb hK hP 6 5 rfl rfl (vp_in_nI (n := k) (by omega) (by decide)) dX12_keep_83 ?_
          refine lv_topi (fun z_58 ez_58 => ?_)
          refine xg_iast hx hb hK hP hD hS 4 3 rfl rfl (vp_in_nI (n := k) (by omega) (by decide)) dX12_keep_84 (fun f_59 H locs hP hD hS => ?_)
          have hP : va_P (dC, dI) vwCl [(mq, .inr (12, fs_37)), (mnh, .inl (cmnh, 264, .inl fmnh)), (mkh, .inl (cmkh, 132, .inl g1)), (mkt, .inl (cmkt, 20, .inl f_57)), (mkc, .inl (cmkc, 20, .inl f_59)), (mtn, .inl (cmtn, 20, .inl fmtn)), (mtc, .inl (cmtc, 20, .inl fmtc))] H := hP
          have hD : va_D A [(mq, .inr (12, fs_37)), (mnh, .inl (cmnh, 264, .inl fmnh)), (mkh, .inl (cmkh, 132, .inl g1)), (mkt, .inl (cmkt, 20, .inl f_57)), (mkc, .inl (cmkc, 20, .inl f_59)), (mtn, .inl (cmtn, 20, .inl fmtn)), (mtc, .inl (cmtc, 20, .inl fmtc))] := hD
          refine lv_iinc (v := ((nI k) + 1)) (lv' := [(1, .int ((nI k) + 1)), (0, .ref mq)]) hx hb dX12_keep_85 hl (k := 0) rfl (rfl) (by decide) rfl (fun ls hl => ?_)
          refine lv_goto (tgt := 55) hx hb dX12_keep_88 (by decide) ?_
          have hl : lv_has ls 2 [(1, .int (nI (k + 1))), (0, .ref mq)] := by rw [← nI_1]; exact lv_sub hl [0, 1] rfl
          exact ih (k + 1) f_57 f_59 (by omega) H locs ls hP hD hS hl
      exact hloop_53 20 0 fmkt fmkc (by omega) _ _ ls hP hD hS (lv_sub hl [0, 1] rfl)
    | succ n ih =>
      intro k g1 hk H locs ls hP hD hS hl
      refine lv_iload_n hx hb dX12_keep_28 rfl (lv_at hl 0 rfl) ?_
      refine lv_sipush (v := 132) hx hb dX12_keep_29 (by decide) ?_
      refine lv_icmp_ge (tgt := 53) hx hb dX12_keep_32 (by decide) (fun c_60 => absurd c_60 (nI_ge (a := k) (b := 132) (by omega) (by decide))) (fun c_60 => ?_)
      refine lv_aload_n hx hb dX12_keep_35 rfl (lv_at hl 1 rfl) ?_
      refine va_get (D := (dC, dI)) (ci := 12) (v := .ref mkh) (C := RX12) (T := TX12) (N := 76) hx hb htw inlX12 hown hK hP 0 rfl rfl 73 (by decide) (htw _ (ck_10 _ (List.mem_of_getElem? (i := 12) rfl))) (fun _ h9 => h9) hf_42 dX12_keep_36 ?_
      refine lv_iload_n hx hb dX12_keep_39 rfl (lv_at hl 0 rfl) ?_
      refine lv_aload_n hx hb dX12_keep_40 rfl (lv_at hl 1 rfl) ?_
      refine va_get (D := (dC, dI)) (ci := 12) (v := .ref mnh) (C := RX12) (T := TX12) (N := 76) hx hb htw inlX12 hown hK hP 0 rfl rfl 40 (by decide) (htw _ (ck_9 _ (List.mem_of_getElem? (i := 20) rfl))) (fun _ h9 => h9) hf_41 dX12_keep_41 ?_
      refine lv_iload_n hx hb dX12_keep_44 rfl (lv_at hl 0 rfl) ?_
      refine va_iald hx hb hK hP 1 0 rfl rfl (vp_in_nI (n := k) (by omega) (by decide)) dX12_keep_45 ?_
      refine lv_topi (fun z_61 ez_61 => ?_)
      refine xg_iast hx hb hK hP hD hS 2 1 rfl rfl (vp_in_nI (n := k) (by omega) (by decide)) dX12_keep_46 (fun f_62 H locs hP hD hS => ?_)
      have hP : va_P (dC, dI) vwCl [(mq, .inr (12, fs_37)), (mnh, .inl (cmnh, 264, .inl fmnh)), (mkh, .inl (cmkh, 132, .inl f_62)), (mkt, .inl (cmkt, 20, .inl fmkt)), (mkc, .inl (cmkc, 20, .inl fmkc)), (mtn, .inl (cmtn, 20, .inl fmtn)), (mtc, .inl (cmtc, 20, .inl fmtc))] H := hP
      have hD : va_D A [(mq, .inr (12, fs_37)), (mnh, .inl (cmnh, 264, .inl fmnh)), (mkh, .inl (cmkh, 132, .inl f_62)), (mkt, .inl (cmkt, 20, .inl fmkt)), (mkc, .inl (cmkc, 20, .inl fmkc)), (mtn, .inl (cmtn, 20, .inl fmtn)), (mtc, .inl (cmtc, 20, .inl fmtc))] := hD
      refine lv_iinc (v := ((nI k) + 1)) (lv' := [(1, .int ((nI k) + 1)), (0, .ref mq)]) hx hb dX12_keep_47 hl (k := 0) rfl (rfl) (by decide) rfl (fun ls hl => ?_)
      refine lv_goto (tgt := 28) hx hb dX12_keep_50 (by decide) ?_
      have hl : lv_has ls 2 [(1, .int (nI (k + 1))), (0, .ref mq)] := by rw [← nI_1]; exact lv_sub hl [0, 1] rfl
      exact ih (k + 1) f_62 (by omega) H locs ls hP hD hS hl
  exact hloop_51 132 0 fmkh (by omega) _ _ ls hP hD hS (lv_sub hl [0, 1] rfl)
