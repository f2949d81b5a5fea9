def fs_weekDayOf (wd : Int32) (wf : Int32) (mp : Int32) (mb : Int32) (mo : Int32) (sp : Int32) (sb : Int32) (a0 : Int64) : Int32 := (if 1 ≤ wd then ((a0 + wf.toInt64) - (a0 + wf.toInt64) / wd.toInt64 * wd.toInt64).toInt32 else (0 : Int32))
theorem dX9_weekDayOf_0 : decode cX9_weekDayOf 0 = .ok (.aload_n 0, 1) := zk_42 (by decide +kernel)
theorem dX9_weekDayOf_1 : decode cX9_weekDayOf 1 = .ok (.getfield 7, 3) := zk_180 (by decide +kernel)
theorem dX9_weekDayOf_4 : decode cX9_weekDayOf 4 = .ok (.iconst 1, 1) := zk_4 (by decide +kernel)
theorem dX9_weekDayOf_5 : decode cX9_weekDayOf 5 = .ok (.if_icmp .ge 7, 3) := zk_162 (by decide +kernel)
theorem dX9_weekDayOf_12 : decode cX9_weekDayOf 12 = .ok (.lload_n 1, 1) := zk_31 (by decide +kernel)
theorem dX9_weekDayOf_13 : decode cX9_weekDayOf 13 = .ok (.aload_n 0, 1) := zk_42 (by decide +kernel)
theorem dX9_weekDayOf_14 : decode cX9_weekDayOf 14 = .ok (.getfield 13, 3) := zk_180 (by decide +kernel)
theorem dX9_weekDayOf_17 : decode cX9_weekDayOf 17 = .ok (.i2l, 1) := zk_133 (by decide +kernel)
theorem dX9_weekDayOf_18 : decode cX9_weekDayOf 18 = .ok (.ladd, 1) := zk_97 (by decide +kernel)
theorem dX9_weekDayOf_19 : decode cX9_weekDayOf 19 = .ok (.aload_n 0, 1) := zk_42 (by decide +kernel)
theorem dX9_weekDayOf_20 : decode cX9_weekDayOf 20 = .ok (.getfield 7, 3) := zk_180 (by decide +kernel)
theorem dX9_weekDayOf_23 : decode cX9_weekDayOf 23 = .ok (.i2l, 1) := zk_133 (by decide +kernel)
theorem dX9_weekDayOf_24 : decode cX9_weekDayOf 24 = .ok (.lrem, 1) := zk_113 (by decide +kernel)
theorem dX9_weekDayOf_25 : decode cX9_weekDayOf 25 = .ok (.l2i, 1) := zk_136 (by decide +kernel)
theorem dX9_weekDayOf_26 : decode cX9_weekDayOf 26 = .ok (.ireturn, 1) := zk_172 (by decide +kernel)
theorem dX9_weekDayOf_8 : decode cX9_weekDayOf 8 = .ok (.iconst 0, 1) := zk_3 (by decide +kernel)
theorem dX9_weekDayOf_9 : decode cX9_weekDayOf 9 = .ok (.goto 17, 3) := zk_167 (by decide +kernel)
set_option maxHeartbeats 4000000 in
set_option maxRecDepth 100000 in
theorem gs_weekDayOf (l : Launch) (dC : Nat → ClassId) (dI : Nat → Nat → Nat) (sk : Nat) (wd : Int32) (wf : Int32) (mp : Int32) (mb : Int32) (mo : Int32) (sp : Int32) (sb : Int32) (a0 : Int64) : Met l yX9_weekDayOf (Cond.code yX9_weekDayOf cX9_weekDayOf 3 (some .int) :: wsL_law) ({ frames := 0, cells := 0, slots := 0, locals := 0 }) (va_Pc [.ref sk, .long a0] (fun U => va_P (dC, dI) vwCl [(eO9a sk wd wf mp mb mo sp sb)] U.heap ∧ va_K (dC, dI) vwCl [] U)) (vp_Si (fun r => r = fs_weekDayOf wd wf mp mb mo sp sb a0)) 0 0 (fun _ => False) := by
  refine Met.ofW (cc := cX9_weekDayOf) (maxL := 3) (ret := (some .int)) (by decide) rfl ?_
  intro p e s m args below meth c s₁ B hml hv
  obtain ⟨rfl, hP, hK⟩ := hv
  have hx := B.exec
  have hb := B.bytes
  have hr := B.returns
  have hts := atoms_spec (ws := Cond.code yX9_weekDayOf cX9_weekDayOf 3 (some .int) :: wsL_law) B.pre
  have htw : ∀ w ∈ wsL_law, w.before _ s = true := fun w h => hts w (List.mem_cons_of_mem _ h)
  have hown : s.vm.findClass RX9 = some m.cls := findClass_of_methodNamed B.named
  have hlocks := B.notSynchronized
  have hl := lv_entry ([.ref sk, .long a0]) (n := 3) (Nat.le_of_ble_eq_true rfl)
  rw [lg_entry_eq]
  generalize (lg_sl ([.ref sk, .long a0]) ++ List.replicate (3 - (lg_sl ([.ref sk, .long a0])).length) Slot.unset).toArray = ls at hl ⊢
  have hl : lv_has ls 3 [(0, .ref sk), (1, .long a0)] := hl
  refine lv_aload_n hx hb dX9_weekDayOf_0 rfl (lv_at hl 0 rfl) ?_
  refine va_get (D := (dC, dI)) (ci := 9) (v := .int wd) (C := RX9) (T := TX9) (N := 7) hx hb htw inlX9 hown hK hP 0 rfl rfl 0 (by decide) (htw _ (ck_7 _ (List.mem_of_getElem? (i := 19) rfl))) (fun _ h9 => h9) rfl dX9_weekDayOf_1 ?_
  refine lv_iconst (v := 1) hx hb dX9_weekDayOf_4 (by decide) ?_
  refine lv_icmp_ge (tgt := 12) hx hb dX9_weekDayOf_5 (by decide) (fun c_1 => ?_) (fun c_1 => ?_)
  · refine lv_lload_n hx hb dX9_weekDayOf_12 rfl (lv_at hl 1 rfl) ?_
    refine lv_aload_n hx hb dX9_weekDayOf_13 rfl (lv_at hl 0 rfl) ?_
    refine va_get (D := (dC, dI)) (ci := 9) (v := .int wf) (C := RX9) (T := TX9) (N := 7) hx hb htw inlX9 hown hK hP 0 rfl rfl 1 (by decide) (htw _ (ck_7 _ (List.mem_of_getElem? (i := 20) rfl))) (fun _ h9 => h9) rfl dX9_weekDayOf_14 ?_
    refine lv_i2l (v := wf.toInt64) hx hb dX9_weekDayOf_17 rfl ?_
    refine lv_ladd hx hb dX9_weekDayOf_18 ?_
    refine lv_aload_n hx hb dX9_weekDayOf_19 rfl (lv_at hl 0 rfl) ?_
    refine va_get (D := (dC, dI)) (ci := 9) (v := .int wd) (C := RX9) (T := TX9) (N := 7) hx hb htw inlX9 hown hK hP 0 rfl rfl 0 (by decide) (htw _ (ck_7 _ (List.mem_of_getElem? (i := 19) rfl))) (fun _ h9 => h9) rfl dX9_weekDayOf_20 ?_
    refine lv_i2l (v := wd.toInt64) hx hb dX9_weekDayOf_23 rfl ?_
    refine lv_lrem hx hb dX9_weekDayOf_24 (xg_nzL (Int32.not_lt.mpr c_1)) ?_
    refine lv_l2i (v := ((a0 + wf.toInt64) - (a0 + wf.toInt64) / wd.toInt64 * wd.toInt64).toInt32) hx hb dX9_weekDayOf_25 rfl ?_
    exact W.iret (v := ((a0 + wf.toInt64) - (a0 + wf.toInt64) / wd.toInt64 * wd.toInt64).toInt32) hx hb hr (fun t ht hW => ⟨((a0 + wf.toInt64) - (a0 + wf.toInt64) / wd.toInt64 * wd.toInt64).toInt32, rfl, (by rw [fs_weekDayOf]; (try rw [if_pos c_1]); try rfl), ht⟩) (fun _ h => by cases h) dX9_weekDayOf_26
  · refine lv_iconst (v := 0) hx hb dX9_weekDayOf_8 (by decide) ?_
    refine lv_goto (tgt := 26) hx hb dX9_weekDayOf_9 (by decide) ?_
    exact W.iret (v := 0) hx hb hr (fun t ht hW => ⟨0, rfl, (by rw [fs_weekDayOf]; (try rw [if_neg c_1]); try rfl), ht⟩) (fun _ h => by cases h) dX9_weekDayOf_26

def fs_moonOf (wd : Int32) (wf : Int32) (mp : Int32) (mb : Int32) (mo : Int32) (sp : Int32) (sb : Int32) (a0 : Int64) : Int32 := (if 1 ≤ mp then (((((a0 * mb.toInt64) + mo.toInt64) - ((a0 * mb.toInt64) + mo.toInt64) / mp.toInt64 * mp.toInt64) * 8) / mp.toInt64).toInt32 else (0 : Int32))
theorem dX9_moonOf_0 : decode cX9_moonOf 0 = .ok (.aload_n 0, 1) := zk_42 (by decide +kernel)
theorem dX9_moonOf_1 : decode cX9_moonOf 1 = .ok (.getfield 16, 3) := zk_180 (by decide +kernel)
theorem dX9_moonOf_4 : decode cX9_moonOf 4 = .ok (.iconst 1, 1) := zk_4 (by decide +kernel)
theorem dX9_moonOf_5 : decode cX9_moonOf 5 = .ok (.if_icmp .ge 7, 3) := zk_162 (by decide +kernel)
theorem dX9_moonOf_12 : decode cX9_moonOf 12 = .ok (.lload_n 1, 1) := zk_31 (by decide +kernel)
theorem dX9_moonOf_13 : decode cX9_moonOf 13 = .ok (.aload_n 0, 1) := zk_42 (by decide +kernel)
theorem dX9_moonOf_14 : decode cX9_moonOf 14 = .ok (.getfield 19, 3) := zk_180 (by decide +kernel)
theorem dX9_moonOf_17 : decode cX9_moonOf 17 = .ok (.i2l, 1) := zk_133 (by decide +kernel)
theorem dX9_moonOf_18 : decode cX9_moonOf 18 = .ok (.lmul, 1) := zk_105 (by decide +kernel)
theorem dX9_moonOf_19 : decode cX9_moonOf 19 = .ok (.aload_n 0, 1) := zk_42 (by decide +kernel)
theorem dX9_moonOf_20 : decode cX9_moonOf 20 = .ok (.getfield 22, 3) := zk_180 (by decide +kernel)
theorem dX9_moonOf_23 : decode cX9_moonOf 23 = .ok (.i2l, 1) := zk_133 (by decide +kernel)
theorem dX9_moonOf_24 : decode cX9_moonOf 24 = .ok (.ladd, 1) := zk_97 (by decide +kernel)
theorem dX9_moonOf_25 : decode cX9_moonOf 25 = .ok (.aload_n 0, 1) := zk_42 (by decide +kernel)
theorem dX9_moonOf_26 : decode cX9_moonOf 26 = .ok (.getfield 16, 3) := zk_180 (by decide +kernel)
theorem dX9_moonOf_29 : decode cX9_moonOf 29 = .ok (.i2l, 1) := zk_133 (by decide +kernel)
theorem dX9_moonOf_30 : decode cX9_moonOf 30 = .ok (.lrem, 1) := zk_113 (by decide +kernel)
theorem dX9_moonOf_31 : decode cX9_moonOf 31 = .ok (.ldc2_w 31, 3) := zk_20 (by decide +kernel)
theorem dX9_moonOf_34 : decode cX9_moonOf 34 = .ok (.lmul, 1) := zk_105 (by decide +kernel)
theorem dX9_moonOf_35 : decode cX9_moonOf 35 = .ok (.aload_n 0, 1) := zk_42 (by decide +kernel)
theorem dX9_moonOf_36 : decode cX9_moonOf 36 = .ok (.getfield 16, 3) := zk_180 (by decide +kernel)
theorem dX9_moonOf_39 : decode cX9_moonOf 39 = .ok (.i2l, 1) := zk_133 (by decide +kernel)
theorem dX9_moonOf_40 : decode cX9_moonOf 40 = .ok (.ldiv, 1) := zk_109 (by decide +kernel)
theorem dX9_moonOf_41 : decode cX9_moonOf 41 = .ok (.l2i, 1) := zk_136 (by decide +kernel)
theorem dX9_moonOf_42 : decode cX9_moonOf 42 = .ok (.ireturn, 1) := zk_172 (by decide +kernel)
theorem dX9_moonOf_8 : decode cX9_moonOf 8 = .ok (.iconst 0, 1) := zk_3 (by decide +kernel)
theorem dX9_moonOf_9 : decode cX9_moonOf 9 = .ok (.goto 33, 3) := zk_167 (by decide +kernel)
set_option maxHeartbeats 4000000 in
set_option maxRecDepth 100000 in
theorem gs_moonOf (l : Launch) (dC : Nat → ClassId) (dI : Nat → Nat → Nat) (sk : Nat) (wd : Int32) (wf : Int32) (mp : Int32) (mb : Int32) (mo : Int32) (sp : Int32) (sb : Int32) (a0 : Int64) : Met l yX9_moonOf (Cond.code yX9_moonOf cX9_moonOf 3 (some .int) :: wsL_law) ({ frames := 0, cells := 0, slots := 0, locals := 0 }) (va_Pc [.ref sk, .long a0] (fun U => va_P (dC, dI) vwCl [(eO9a sk wd wf mp mb mo sp sb)] U.heap ∧ va_K (dC, dI) vwCl [] U)) (vp_Si (fun r => r = fs_moonOf wd wf mp mb mo sp sb a0)) 0 0 (fun _ => False) := by
  refine Met.ofW (cc := cX9_moonOf) (maxL := 3) (ret := (some .int)) (by decide) rfl ?_
  intro p e s m args below meth c s₁ B hml hv
  obtain ⟨rfl, hP, hK⟩ := hv
  have hx := B.exec
  have hb := B.bytes
  have hr := B.returns
  have hts := atoms_spec (ws := Cond.code yX9_moonOf cX9_moonOf 3 (some .int) :: wsL_law) B.pre
  have htw : ∀ w ∈ wsL_law, w.before _ s = true := fun w h => hts w (List.mem_cons_of_mem _ h)
  have hown : s.vm.findClass RX9 = some m.cls := findClass_of_methodNamed B.named
  have hlocks := B.notSynchronized
  have hl := lv_entry ([.ref sk, .long a0]) (n := 3) (Nat.le_of_ble_eq_true rfl)
  rw [lg_entry_eq]
  generalize (lg_sl ([.ref sk, .long a0]) ++ List.replicate (3 - (lg_sl ([.ref sk, .long a0])).length) Slot.unset).toArray = ls at hl ⊢
  have hl : lv_has ls 3 [(0, .ref sk), (1, .long a0)] := hl
  refine lv_aload_n hx hb dX9_moonOf_0 rfl (lv_at hl 0 rfl) ?_
  refine va_get (D := (dC, dI)) (ci := 9) (v := .int mp) (C := RX9) (T := TX9) (N := 7) hx hb htw inlX9 hown hK hP 0 rfl rfl 2 (by decide) (htw _ (ck_7 _ (List.mem_of_getElem? (i := 21) rfl))) (fun _ h9 => h9) rfl dX9_moonOf_1 ?_
  refine lv_iconst (v := 1) hx hb dX9_moonOf_4 (by decide) ?_
  refine lv_icmp_ge (tgt := 12) hx hb dX9_moonOf_5 (by decide) (fun c_1 => ?_) (fun c_1 => ?_)
  · refine lv_lload_n hx hb dX9_moonOf_12 rfl (lv_at hl 1 rfl) ?_
    refine lv_aload_n hx hb dX9_moonOf_13 rfl (lv_at hl 0 rfl) ?_
    refine va_get (D := (dC, dI)) (ci := 9) (v := .int mb) (C := RX9) (T := TX9) (N := 7) hx hb htw inlX9 hown hK hP 0 rfl rfl 3 (by decide) (htw _ (ck_7 _ (List.mem_of_getElem? (i := 22) rfl))) (fun _ h9 => h9) rfl dX9_moonOf_14 ?_
    refine lv_i2l (v := mb.toInt64) hx hb dX9_moonOf_17 rfl ?_
    refine lv_lmul hx hb dX9_moonOf_18 ?_
    refine lv_aload_n hx hb dX9_moonOf_19 rfl (lv_at hl 0 rfl) ?_
    refine va_get (D := (dC, dI)) (ci := 9) (v := .int mo) (C := RX9) (T := TX9) (N := 7) hx hb htw inlX9 hown hK hP 0 rfl rfl 4 (by decide) (htw _ (ck_7 _ (List.mem_of_getElem? (i := 23) rfl))) (fun _ h9 => h9) rfl dX9_moonOf_20 ?_
    refine lv_i2l (v := mo.toInt64) hx hb dX9_moonOf_23 rfl ?_
    refine lv_ladd hx hb dX9_moonOf_24 ?_
    refine lv_aload_n hx hb dX9_moonOf_25 rfl (lv_at hl 0 rfl) ?_
    refine va_get (D := (dC, dI)) (ci := 9) (v := .int mp) (C := RX9) (T := TX9) (N := 7) hx hb htw inlX9 hown hK hP 0 rfl rfl 2 (by decide) (htw _ (ck_7 _ (List.mem_of_getElem? (i := 21) rfl))) (fun _ h9 => h9) rfl dX9_moonOf_26 ?_
    refine lv_i2l (v := mp.toInt64) hx hb dX9_moonOf_29 rfl ?_
    refine lv_lrem hx hb dX9_moonOf_30 (xg_nzL (Int32.not_lt.mpr c_1)) ?_
    refine lv_ldc2 (v := 8) hx hb hown (htw _ (ck_37 _ (List.mem_of_getElem? (i := 18) rfl))) dX9_moonOf_31 ?_
    refine lv_lmul hx hb dX9_moonOf_34 ?_
    refine lv_aload_n hx hb dX9_moonOf_35 rfl (lv_at hl 0 rfl) ?_
    refine va_get (D := (dC, dI)) (ci := 9) (v := .int mp) (C := RX9) (T := TX9) (N := 7) hx hb htw inlX9 hown hK hP 0 rfl rfl 2 (by decide) (htw _ (ck_7 _ (List.mem_of_getElem? (i := 21) rfl))) (fun _ h9 => h9) rfl dX9_moonOf_36 ?_
    refine lv_i2l (v := mp.toInt64) hx hb dX9_moonOf_39 rfl ?_
    refine lv_ldiv hx hb dX9_moonOf_40 (xg_nzL (Int32.not_lt.mpr c_1)) ?_
    refine lv_l2i (v := (((((a0 * mb.toInt64) + mo.toInt64) - ((a0 * mb.toInt64) + mo.toInt64) / mp.toInt64 * mp.toInt64) * 8) / mp.toInt64).toInt32) hx hb dX9_moonOf_41 rfl ?_
    exact W.iret (v := (((((a0 * mb.toInt64) + mo.toInt64) - ((a0 * mb.toInt64) + mo.toInt64) / mp.toInt64 * mp.toInt64) * 8) / mp.toInt64).toInt32) hx hb hr (fun t ht hW => ⟨(((((a0 * mb.toInt64) + mo.toInt64) - ((a0 * mb.toInt64) + mo.toInt64) / mp.toInt64 * mp.toInt64) * 8) / mp.toInt64).toInt32, rfl, (by rw [fs_moonOf]; (try rw [if_pos c_1]); try rfl), ht⟩) (fun _ h => by cases h) dX9_moonOf_42
  · refine lv_iconst (v := 0) hx hb dX9_moonOf_8 (by decide) ?_
    refine lv_goto (tgt := 42) hx hb dX9_moonOf_9 (by decide) ?_
    exact W.iret (v := 0) hx hb hr (fun t ht hW => ⟨0, rfl, (by rw [fs_moonOf]; (try rw [if_neg c_1]); try rfl), ht⟩) (fun _ h => by cases h) dX9_moonOf_42

def fs_seasonOf (wd : Int32) (wf : Int32) (mp : Int32) (mb : Int32) (mo : Int32) (sp : Int32) (sb : Int32) (a0 : Int64) : Int32 := (if 1 ≤ sp then ((((a0 * sb.toInt64) - (a0 * sb.toInt64) / sp.toInt64 * sp.toInt64) * 4) / sp.toInt64).toInt32 else (0 : Int32))
theorem dX9_seasonOf_0 : decode cX9_seasonOf 0 = .ok (.aload_n 0, 1) := zk_42 (by decide +kernel)
theorem dX9_seasonOf_1 : decode cX9_seasonOf 1 = .ok (.getfield 25, 3) := zk_180 (by decide +kernel)
theorem dX9_seasonOf_4 : decode cX9_seasonOf 4 = .ok (.iconst 1, 1) := zk_4 (by decide +kernel)
theorem dX9_seasonOf_5 : decode cX9_seasonOf 5 = .ok (.if_icmp .ge 7, 3) := zk_162 (by decide +kernel)
theorem dX9_seasonOf_12 : decode cX9_seasonOf 12 = .ok (.lload_n 1, 1) := zk_31 (by decide +kernel)
theorem dX9_seasonOf_13 : decode cX9_seasonOf 13 = .ok (.aload_n 0, 1) := zk_42 (by decide +kernel)
theorem dX9_seasonOf_14 : decode cX9_seasonOf 14 = .ok (.getfield 28, 3) := zk_180 (by decide +kernel)
theorem dX9_seasonOf_17 : decode cX9_seasonOf 17 = .ok (.i2l, 1) := zk_133 (by decide +kernel)
theorem dX9_seasonOf_18 : decode cX9_seasonOf 18 = .ok (.lmul, 1) := zk_105 (by decide +kernel)
theorem dX9_seasonOf_19 : decode cX9_seasonOf 19 = .ok (.aload_n 0, 1) := zk_42 (by decide +kernel)
theorem dX9_seasonOf_20 : decode cX9_seasonOf 20 = .ok (.getfield 25, 3) := zk_180 (by decide +kernel)
theorem dX9_seasonOf_23 : decode cX9_seasonOf 23 = .ok (.i2l, 1) := zk_133 (by decide +kernel)
theorem dX9_seasonOf_24 : decode cX9_seasonOf 24 = .ok (.lrem, 1) := zk_113 (by decide +kernel)
theorem dX9_seasonOf_25 : decode cX9_seasonOf 25 = .ok (.ldc2_w 33, 3) := zk_20 (by decide +kernel)
theorem dX9_seasonOf_28 : decode cX9_seasonOf 28 = .ok (.lmul, 1) := zk_105 (by decide +kernel)
theorem dX9_seasonOf_29 : decode cX9_seasonOf 29 = .ok (.aload_n 0, 1) := zk_42 (by decide +kernel)
theorem dX9_seasonOf_30 : decode cX9_seasonOf 30 = .ok (.getfield 25, 3) := zk_180 (by decide +kernel)
theorem dX9_seasonOf_33 : decode cX9_seasonOf 33 = .ok (.i2l, 1) := zk_133 (by decide +kernel)
theorem dX9_seasonOf_34 : decode cX9_seasonOf 34 = .ok (.ldiv, 1) := zk_109 (by decide +kernel)
theorem dX9_seasonOf_35 : decode cX9_seasonOf 35 = .ok (.l2i, 1) := zk_136 (by decide +kernel)
theorem dX9_seasonOf_36 : decode cX9_seasonOf 36 = .ok (.ireturn, 1) := zk_172 (by decide +kernel)
theorem dX9_seasonOf_8 : decode cX9_seasonOf 8 = .ok (.iconst 0, 1) := zk_3 (by decide +kernel)
theorem dX9_seasonOf_9 : decode cX9_seasonOf 9 = .ok (.goto 27, 3) := zk_167 (by decide +kernel)
set_option maxHeartbeats 4000000 in
set_option maxRecDepth 100000 in
theorem gs_seasonOf (l : Launch) (dC : Nat → ClassId) (dI : Nat → Nat → Nat) (sk : Nat) (wd : Int32) (wf : Int32) (mp : Int32) (mb : Int32) (mo : Int32) (sp : Int32) (sb : Int32) (a0 : Int64) : Met l yX9_seasonOf (Cond.code yX9_seasonOf cX9_seasonOf 3 (some .int) :: wsL_law) ({ frames := 0, cells := 0, slots := 0, locals := 0 }) (va_Pc [.ref sk, .long a0] (fun U => va_P (dC, dI) vwCl [(eO9a sk wd wf mp mb mo sp sb)] U.heap ∧ va_K (dC, dI) vwCl [] U)) (vp_Si (fun r => r = fs_seasonOf wd wf mp mb mo sp sb a0)) 0 0 (fun _ => False) := by
  refine Met.ofW (cc := cX9_seasonOf) (maxL := 3) (ret := (some .int)) (by decide) rfl ?_
  intro p e s m args below meth c s₁ B hml hv
  obtain ⟨rfl, hP, hK⟩ := hv
  have hx := B.exec
  have hb := B.bytes
  have hr := B.returns
  have hts := atoms_spec (ws := Cond.code yX9_seasonOf cX9_seasonOf 3 (some .int) :: wsL_law) B.pre
  have htw : ∀ w ∈ wsL_law, w.before _ s = true := fun w h => hts w (List.mem_cons_of_mem _ h)
  have hown : s.vm.findClass RX9 = some m.cls := findClass_of_methodNamed B.named
  have hlocks := B.notSynchronized
  have hl := lv_entry ([.ref sk, .long a0]) (n := 3) (Nat.le_of_ble_eq_true rfl)
  rw [lg_entry_eq]
  generalize (lg_sl ([.ref sk, .long a0]) ++ List.replicate (3 - (lg_sl ([.ref sk, .long a0])).length) Slot.unset).toArray = ls at hl ⊢
  have hl : lv_has ls 3 [(0, .ref sk), (1, .long a0)] := hl
  refine lv_aload_n hx hb dX9_seasonOf_0 rfl (lv_at hl 0 rfl) ?_
  refine va_get (D := (dC, dI)) (ci := 9) (v := .int sp) (C := RX9) (T := TX9) (N := 7) hx hb htw inlX9 hown hK hP 0 rfl rfl 5 (by decide) (htw _ (ck_8 _ (List.mem_of_getElem? (i := 0) rfl))) (fun _ h9 => h9) rfl dX9_seasonOf_1 ?_
  refine lv_iconst (v := 1) hx hb dX9_seasonOf_4 (by decide) ?_
  refine lv_icmp_ge (tgt := 12) hx hb dX9_seasonOf_5 (by decide) (fun c_1 => ?_) (fun c_1 => ?_)
  · refine lv_lload_n hx hb dX9_seasonOf_12 rfl (lv_at hl 1 rfl) ?_
    refine lv_aload_n hx hb dX9_seasonOf_13 rfl (lv_at hl 0 rfl) ?_
    refine va_get (D := (dC, dI)) (ci := 9) (v := .int sb) (C := RX9) (T := TX9) (N := 7) hx hb htw inlX9 hown hK hP 0 rfl rfl 6 (by decide) (htw _ (ck_8 _ (List.mem_of_getElem? (i := 1) rfl))) (fun _ h9 => h9) rfl dX9_seasonOf_14 ?_
    refine lv_i2l (v := sb.toInt64) hx hb dX9_seasonOf_17 rfl ?_
    refine lv_lmul hx hb dX9_seasonOf_18 ?_
    refine lv_aload_n hx hb dX9_seasonOf_19 rfl (lv_at hl 0 rfl) ?_
    refine va_get (D := (dC, dI)) (ci := 9) (v := .int sp) (C := RX9) (T := TX9) (N := 7) hx hb htw inlX9 hown hK hP 0 rfl rfl 5 (by decide) (htw _ (ck_8 _ (List.mem_of_getElem? (i := 0) rfl))) (fun _ h9 => h9) rfl dX9_seasonOf_20 ?_
    refine lv_i2l (v := sp.toInt64) hx hb dX9_seasonOf_23 rfl ?_
    refine lv_lrem hx hb dX9_seasonOf_24 (xg_nzL (Int32.not_lt.mpr c_1)) ?_
    refine lv_ldc2 (v := 4) hx hb hown (htw _ (ck_37 _ (List.mem_of_getElem? (i := 23) rfl))) dX9_seasonOf_25 ?_
    refine lv_lmul hx hb dX9_seasonOf_28 ?_
    refine lv_aload_n hx hb dX9_seasonOf_29 rfl (lv_at hl 0 rfl) ?_
    refine va_get (D := (dC, dI)) (ci := 9) (v := .int sp) (C := RX9) (T := TX9) (N := 7) hx hb htw inlX9 hown hK hP 0 rfl rfl 5 (by decide) (htw _ (ck_8 _ (List.mem_of_getElem? (i := 0) rfl))) (fun _ h9 => h9) rfl dX9_seasonOf_30 ?_
    refine lv_i2l (v := sp.toInt64) hx hb dX9_seasonOf_33 rfl ?_
    refine lv_ldiv hx hb dX9_seasonOf_34 (xg_nzL (Int32.not_lt.mpr c_1)) ?_
    refine lv_l2i (v := ((((a0 * sb.toInt64) - (a0 * sb.toInt64) / sp.toInt64 * sp.toInt64) * 4) / sp.toInt64).toInt32) hx hb dX9_seasonOf_35 rfl ?_
    exact W.iret (v := ((((a0 * sb.toInt64) - (a0 * sb.toInt64) / sp.toInt64 * sp.toInt64) * 4) / sp.toInt64).toInt32) hx hb hr (fun t ht hW => ⟨((((a0 * sb.toInt64) - (a0 * sb.toInt64) / sp.toInt64 * sp.toInt64) * 4) / sp.toInt64).toInt32, rfl, (by rw [fs_seasonOf]; (try rw [if_pos c_1]); try rfl), ht⟩) (fun _ h => by cases h) dX9_seasonOf_36
  · refine lv_iconst (v := 0) hx hb dX9_seasonOf_8 (by decide) ?_
    refine lv_goto (tgt := 36) hx hb dX9_seasonOf_9 (by decide) ?_
    exact W.iret (v := 0) hx hb hr (fun t ht hW => ⟨0, rfl, (by rw [fs_seasonOf]; (try rw [if_neg c_1]); try rfl), ht⟩) (fun _ h => by cases h) dX9_seasonOf_36

def fr_knotOf (a0 : Int32) : Int32 := ((-1) - a0)
theorem dX8_knotOf_0 : decode cX8_knotOf 0 = .ok (.iconst (-1), 1) := zk_2 (by decide +kernel)
theorem dX8_knotOf_1 : decode cX8_knotOf 1 = .ok (.iload_n 0, 1) := zk_26 (by decide +kernel)
theorem dX8_knotOf_2 : decode cX8_knotOf 2 = .ok (.isub, 1) := zk_100 (by decide +kernel)
theorem dX8_knotOf_3 : decode cX8_knotOf 3 = .ok (.ireturn, 1) := zk_172 (by decide +kernel)
set_option maxHeartbeats 4000000 in
set_option maxRecDepth 100000 in
theorem gr_knotOf (l : Launch) (dC : Nat → ClassId) (dI : Nat → Nat → Nat) (a0 : Int32) : Met l yX8_knotOf (Cond.code yX8_knotOf cX8_knotOf 1 (some .int) :: wsL_law) ({ frames := 0, cells := 0, slots := 0, locals := 0 }) (va_Pc [.int a0] (fun U => va_P (dC, dI) vwCl [] U.heap ∧ va_K (dC, dI) vwCl [] U)) (vp_Si (fun r => r = fr_knotOf a0)) 0 0 (fun _ => False) := by
  refine Met.ofW (cc := cX8_knotOf) (maxL := 1) (ret := (some .int)) (by decide) rfl ?_
  intro p e s m args below meth c s₁ B hml hv
  obtain ⟨rfl, hP, hK⟩ := hv
  have hx := B.exec
  have hb := B.bytes
  have hr := B.returns
  have hts := atoms_spec (ws := Cond.code yX8_knotOf cX8_knotOf 1 (some .int) :: wsL_law) B.pre
  have htw : ∀ w ∈ wsL_law, w.before _ s = true := fun w h => hts w (List.mem_cons_of_mem _ h)
  have hown : s.vm.findClass RX8 = some m.cls := findClass_of_methodNamed B.named
  have hlocks := B.notSynchronized
  have hl := lv_entry ([.int a0]) (n := 1) (Nat.le_of_ble_eq_true rfl)
  rw [lg_entry_eq]
  generalize (lg_sl ([.int a0]) ++ List.replicate (1 - (lg_sl ([.int a0])).length) Slot.unset).toArray = ls at hl ⊢
  have hl : lv_has ls 1 [(0, .int a0)] := hl
  refine lv_iconst (v := (-1)) hx hb dX8_knotOf_0 (by decide) ?_
  refine lv_iload_n hx hb dX8_knotOf_1 rfl (lv_at hl 0 rfl) ?_
  refine lv_isub hx hb dX8_knotOf_2 ?_
  exact W.iret (v := ((-1) - a0)) hx hb hr (fun t ht hW => ⟨((-1) - a0), rfl, (rfl), ht⟩) (fun _ h => by cases h) dX8_knotOf_3

def fr_rankOf (a0 : Int32) : Int32 := (if a0 = 19 then (1 : Int32) else (if a0 = 20 then (2 : Int32) else (if a0 = 21 then (3 : Int32) else (if a0 = 22 then (0 : Int32) else (if a0 = 23 then (0 : Int32) else (if a0 = 24 then (0 : Int32) else (if a0 = 25 then (0 : Int32) else (if a0 = 26 then (0 : Int32) else (if a0 = 27 then (0 : Int32) else (if a0 = 28 then (5 : Int32) else (if a0 = 29 then (5 : Int32) else (if a0 = 30 then (6 : Int32) else (if a0 = 31 then (6 : Int32) else (if a0 = 32 then (6 : Int32) else (if a0 = 33 then (4 : Int32) else (if a0 = 34 then (4 : Int32) else (if a0 = 35 then (4 : Int32) else (if a0 = 36 then (4 : Int32) else (if a0 = 37 then (4 : Int32) else (if a0 = 38 then (4 : Int32) else (0 : Int32)))))))))))))))))))))
theorem dX8_rankOf_0 : decode cX8_rankOf 0 = .ok (.iload_n 0, 1) := zk_26 (by decide +kernel)
theorem dX8_rankOf_1 : decode cX8_rankOf 1 = .ok (.tableswitch 108 19 38 #[95, 97, 99, 108, 108, 108, 108, 108, 108, 103, 103, 105, 105, 105, 101, 101, 101, 101, 101, 101], 95) := by decide +kernel
theorem dX8_rankOf_96 : decode cX8_rankOf 96 = .ok (.iconst 1, 1) := zk_4 (by decide +kernel)
theorem dX8_rankOf_97 : decode cX8_rankOf 97 = .ok (.ireturn, 1) := zk_172 (by decide +kernel)
theorem dX8_rankOf_98 : decode cX8_rankOf 98 = .ok (.iconst 2, 1) := zk_5 (by decide +kernel)
theorem dX8_rankOf_99 : decode cX8_rankOf 99 = .ok (.ireturn, 1) := zk_172 (by decide +kernel)
theorem dX8_rankOf_100 : decode cX8_rankOf 100 = .ok (.iconst 3, 1) := zk_6 (by decide +kernel)
theorem dX8_rankOf_101 : decode cX8_rankOf 101 = .ok (.ireturn, 1) := zk_172 (by decide +kernel)
theorem dX8_rankOf_109 : decode cX8_rankOf 109 = .ok (.iconst 0, 1) := zk_3 (by decide +kernel)
theorem dX8_rankOf_110 : decode cX8_rankOf 110 = .ok (.ireturn, 1) := zk_172 (by decide +kernel)
theorem dX8_rankOf_104 : decode cX8_rankOf 104 = .ok (.iconst 5, 1) := zk_8 (by decide +kernel)
theorem dX8_rankOf_105 : decode cX8_rankOf 105 = .ok (.ireturn, 1) := zk_172 (by decide +kernel)
theorem dX8_rankOf_106 : decode cX8_rankOf 106 = .ok (.bipush 6, 2) := zk_16 (by decide +kernel)
theorem dX8_rankOf_108 : decode cX8_rankOf 108 = .ok (.ireturn, 1) := zk_172 (by decide +kernel)
theorem dX8_rankOf_102 : decode cX8_rankOf 102 = .ok (.iconst 4, 1) := zk_7 (by decide +kernel)
theorem dX8_rankOf_103 : decode cX8_rankOf 103 = .ok (.ireturn, 1) := zk_172 (by decide +kernel)
set_option maxHeartbeats 4000000 in
set_option maxRecDepth 100000 in
theorem gr_rankOf (l : Launch) (dC : Nat → ClassId) (dI : Nat → Nat → Nat) (a0 : Int32) : Met l yX8_rankOf (Cond.code yX8_rankOf cX8_rankOf 1 (some .int) :: wsL_law) ({ frames := 0, cells := 0, slots := 0, locals := 0 }) (va_Pc [.int a0] (fun U => va_P (dC, dI) vwCl [] U.heap ∧ va_K (dC, dI) vwCl [] U)) (vp_Si (fun r => r = fr_rankOf a0)) 0 0 (fun _ => False) := by
  refine Met.ofW (cc := cX8_rankOf) (maxL := 1) (ret := (some .int)) (by decide) rfl ?_
  intro p e s m args below meth c s₁ B hml hv
  obtain ⟨rfl, hP, hK⟩ := hv
  have hx := B.exec
  have hb := B.bytes
  have hr := B.returns
  have hts := atoms_spec (ws := Cond.code yX8_rankOf cX8_rankOf 1 (some .int) :: wsL_law) B.pre
  have htw : ∀ w ∈ wsL_law, w.before _ s = true := fun w h => hts w (List.mem_cons_of_mem _ h)
  have hown : s.vm.findClass RX8 = some m.cls := findClass_of_methodNamed B.named
  have hlocks := B.notSynchronized
  have hl := lv_entry ([.int a0]) (n := 1) (Nat.le_of_ble_eq_true rfl)
  rw [lg_entry_eq]
  generalize (lg_sl ([.int a0]) ++ List.replicate (1 - (lg_sl ([.int a0])).length) Slot.unset).toArray = ls at hl ⊢
  have hl : lv_has ls 1 [(0, .int a0)] := hl
  refine lv_iload_n hx hb dX8_rankOf_0 rfl (lv_at hl 0 rfl) ?_
  by_cases h_1 : a0 = 19
  · subst h_1
    refine lv_tableIn (off := 95) (tgt := 96) hx hb dX8_rankOf_1 (by decide) (by decide) (by decide) (by decide) ?_
    refine lv_iconst (v := 1) hx hb dX8_rankOf_96 (by decide) ?_
    exact W.iret (v := 1) hx hb hr (fun t ht hW => ⟨1, rfl, (by rw [fr_rankOf]; (try rw [if_pos rfl]); try rfl), ht⟩) (fun _ h => by cases h) dX8_rankOf_97
  by_cases h_2 : a0 = 20
  · subst h_2
    refine lv_tableIn (off := 97) (tgt := 98) hx hb dX8_rankOf_1 (by decide) (by decide) (by decide) (by decide) ?_
    refine lv_iconst (v := 2) hx hb dX8_rankOf_98 (by decide) ?_
    exact W.iret (v := 2) hx hb hr (fun t ht hW => ⟨2, rfl, (by rw [fr_rankOf]; (try rw [if_neg h_1]); (try rw [if_pos rfl]); try rfl), ht⟩) (fun _ h => by cases h) dX8_rankOf_99
  by_cases h_3 : a0 = 21
  · subst h_3
    refine lv_tableIn (off := 99) (tgt := 100) hx hb dX8_rankOf_1 (by decide) (by decide) (by decide) (by decide) ?_
    refine lv_iconst (v := 3) hx hb dX8_rankOf_100 (by decide) ?_
    exact W.iret (v := 3) hx hb hr (fun t ht hW => ⟨3, rfl, (by rw [fr_rankOf]; (try rw [if_neg h_1]); (try rw [if_neg h_2]); (try rw [if_pos rfl]); try rfl), ht⟩) (fun _ h => by cases h) dX8_rankOf_101
  by_cases h_4 : a0 = 22
  · subst h_4
    refine lv_tableIn (off := 108) (tgt := 109) hx hb dX8_rankOf_1 (by decide) (by decide) (by decide) (by decide) ?_
    refine lv_iconst (v := 0) hx hb dX8_rankOf_109 (by decide) ?_
    exact W.iret (v := 0) hx hb hr (fun t ht hW => ⟨0, rfl, (by rw [fr_rankOf]; (try rw [if_neg h_1]); (try rw [if_neg h_2]); (try rw [if_neg h_3]); (try rw [if_pos rfl]); try rfl), ht⟩) (fun _ h => by cases h) dX8_rankOf_110
  by_cases h_5 : a0 = 23
  · subst h_5
    refine lv_tableIn (off := 108) (tgt := 109) hx hb dX8_rankOf_1 (by decide) (by decide) (by decide) (by decide) ?_
    refine lv_iconst (v := 0) hx hb dX8_rankOf_109 (by decide) ?_
    exact W.iret (v := 0) hx hb hr (fun t ht hW => ⟨0, rfl, (by rw [fr_rankOf]; (try rw [if_neg h_1]); (try rw [if_neg h_2]); (try rw [if_neg h_3]); (try rw [if_neg h_4]); (try rw [if_pos rfl]); try rfl), ht⟩) (fun _ h => by cases h) dX8_rankOf_110
  by_cases h_6 : a0 = 24
  · subst h_6
    refine lv_tableIn (off := 108) (tgt := 109) hx hb dX8_rankOf_1 (by decide) (by decide) (by decide) (by decide) ?_
    refine lv_iconst (v := 0) hx hb dX8_rankOf_109 (by decide) ?_
    exact W.iret (v := 0) hx hb hr (fun t ht hW => ⟨0, rfl, (by rw [fr_rankOf]; (try rw [if_neg h_1]); (try rw [if_neg h_2]); (try rw [if_neg h_3]); (try rw [if_neg h_4]); (try rw [if_neg h_5]); (try rw [if_pos rfl]); try rfl), ht⟩) (fun _ h => by cases h) dX8_rankOf_110
  by_cases h_7 : a0 = 25
  · subst h_7
    refine lv_tableIn (off := 108) (tgt := 109) hx hb dX8_rankOf_1 (by decide) (by decide) (by decide) (by decide) ?_
    refine lv_iconst (v := 0) hx hb dX8_rankOf_109 (by decide) ?_
    exact W.iret (v := 0) hx hb hr (fun t ht hW => ⟨0, rfl, (by rw [fr_rankOf]; (try rw [if_neg h_1]); (try rw [if_neg h_2]); (try rw [if_neg h_3]); (try rw [if_neg h_4]); (try rw [if_neg h_5]); (try rw [if_neg h_6]); (try rw [if_pos rfl]); try rfl), ht⟩) (fun _ h => by cases h) dX8_rankOf_110
  by_cases h_8 : a0 = 26
  · subst h_8
    refine lv_tableIn (off := 108) (tgt := 109) hx hb dX8_rankOf_1 (by decide) (by decide) (by decide) (by decide) ?_
    refine lv_iconst (v := 0) hx hb dX8_rankOf_109 (by decide) ?_
    exact W.iret (v := 0) hx hb hr (fun t ht hW => ⟨0, rfl, (by rw [fr_rankOf]; (try rw [if_neg h_1]); (try rw [if_neg h_2]); (try rw [if_neg h_3]); (try rw [if_neg h_4]); (try rw [if_neg h_5]); (try rw [if_neg h_6]); (try rw [if_neg h_7]); (try rw [if_pos rfl]); try rfl), ht⟩) (fun _ h => by cases h) dX8_rankOf_110
  by_cases h_9 : a0 = 27
  · subst h_9
    refine lv_tableIn (off := 108) (tgt := 109) hx hb dX8_rankOf_1 (by decide) (by decide) (by decide) (by decide) ?_
    refine lv_iconst (v := 0) hx hb dX8_rankOf_109 (by decide) ?_
    exact W.iret (v := 0) hx hb hr (fun t ht hW => ⟨0, rfl, (by rw [fr_rankOf]; (try rw [if_neg h_1]); (try rw [if_neg h_2]); (try rw [if_neg h_3]); (try rw [if_neg h_4]); (try rw [if_neg h_5]); (try rw [if_neg h_6]); (try rw [if_neg h_7]); (try rw [if_neg h_8]); (try rw [if_pos rfl]); try rfl), ht⟩) (fun _ h => by cases h) dX8_rankOf_110
  by_cases h_10 : a0 = 28
  · subst h_10
    refine lv_tableIn (off := 103) (tgt := 104) hx hb dX8_rankOf_1 (by decide) (by decide) (by decide) (by decide) ?_
    refine lv_iconst (v := 5) hx hb dX8_rankOf_104 (by decide) ?_
    exact W.iret (v := 5) hx hb hr (fun t ht hW => ⟨5, rfl, (by rw [fr_rankOf]; (try rw [if_neg h_1]); (try rw [if_neg h_2]); (try rw [if_neg h_3]); (try rw [if_neg h_4]); (try rw [if_neg h_5]); (try rw [if_neg h_6]); (try rw [if_neg h_7]); (try rw [if_neg h_8]); (try rw [if_neg h_9]); (try rw [if_pos rfl]); try rfl), ht⟩) (fun _ h => by cases h) dX8_rankOf_105
  by_cases h_11 : a0 = 29
  · subst h_11
    refine lv_tableIn (off := 103) (tgt := 104) hx hb dX8_rankOf_1 (by decide) (by decide) (by decide) (by decide) ?_
    refine lv_iconst (v := 5) hx hb dX8_rankOf_104 (by decide) ?_
    exact W.iret (v := 5) hx hb hr (fun t ht hW => ⟨5, rfl, (by rw [fr_rankOf]; (try rw [if_neg h_1]); (try rw [if_neg h_2]); (try rw [if_neg h_3]); (try rw [if_neg h_4]); (try rw [if_neg h_5]); (try rw [if_neg h_6]); (try rw [if_neg h_7]); (try rw [if_neg h_8]); (try rw [if_neg h_9]); (try rw [if_neg h_10]); (try rw [if_pos rfl]); try rfl), ht⟩) (fun _ h => by cases h) dX8_rankOf_105
  by_cases h_12 : a0 = 30
  · subst h_12
    refine lv_tableIn (off := 105) (tgt := 106) hx hb dX8_rankOf_1 (by decide) (by decide) (by decide) (by decide) ?_
    refine lv_bipush (v := 6) hx hb dX8_rankOf_106 (by decide) ?_
    exact W.iret (v := 6) hx hb hr (fun t ht hW => ⟨6, rfl, (by rw [fr_rankOf]; (try rw [if_neg h_1]); (try rw [if_neg h_2]); (try rw [if_neg h_3]); (try rw [if_neg h_4]); (try rw [if_neg h_5]); (try rw [if_neg h_6]); (try rw [if_neg h_7]); (try rw [if_neg h_8]); (try rw [if_neg h_9]); (try rw [if_neg h_10]); (try rw [if_neg h_11]); (try rw [if_pos rfl]); try rfl), ht⟩) (fun _ h => by cases h) dX8_rankOf_108
  by_cases h_13 : a0 = 31
  · subst h_13
    refine lv_tableIn (off := 105) (tgt := 106) hx hb dX8_rankOf_1 (by decide) (by decide) (by decide) (by decide) ?_
    refine lv_bipush (v := 6) hx hb dX8_rankOf_106 (by decide) ?_
    exact W.iret (v := 6) hx hb hr (fun t ht hW => ⟨6, rfl, (by rw [fr_rankOf]; (try rw [if_neg h_1]); (try rw [if_neg h_2]); (try rw [if_neg h_3]); (try rw [if_neg h_4]); (try rw [if_neg h_5]); (try rw [if_neg h_6]); (try rw [if_neg h_7]); (try rw [if_neg h_8]); (try rw [if_neg h_9]); (try rw [if_neg h_10]); (try rw [if_neg h_11]); (try rw [if_neg h_12]); (try rw [if_pos rfl]); try rfl), ht⟩) (fun _ h => by cases h) dX8_rankOf_108
  by_cases h_14 : a0 = 32
  · subst h_14
    refine lv_tableIn (off := 105) (tgt := 106) hx hb dX8_rankOf_1 (by decide) (by decide) (by decide) (by decide) ?_
    refine lv_bipush (v := 6) hx hb dX8_rankOf_106 (by decide) ?_
    exact W.iret (v := 6) hx hb hr (fun t ht hW => ⟨6, rfl, (by rw [fr_rankOf]; (try rw [if_neg h_1]); (try rw [if_neg h_2]); (try rw [if_neg h_3]); (try rw [if_neg h_4]); (try rw [if_neg h_5]); (try rw [if_neg h_6]); (try rw [if_neg h_7]); (try rw [if_neg h_8]); (try rw [if_neg h_9]); (try rw [if_neg h_10]); (try rw [if_neg h_11]); (try rw [if_neg h_12]); (try rw [if_neg h_13]); (try rw [if_pos rfl]); try rfl), ht⟩) (fun _ h => by cases h) dX8_rankOf_108
  by_cases h_15 : a0 = 33
  · subst h_15
    refine lv_tableIn (off := 101) (tgt := 102) hx hb dX8_rankOf_1 (by decide) (by decide) (by decide) (by decide) ?_
    refine lv_iconst (v := 4) hx hb dX8_rankOf_102 (by decide) ?_
    exact W.iret (v := 4) hx hb hr (fun t ht hW => ⟨4, rfl, (by rw [fr_rankOf]; (try rw [if_neg h_1]); (try rw [if_neg h_2]); (try rw [if_neg h_3]); (try rw [if_neg h_4]); (try rw [if_neg h_5]); (try rw [if_neg h_6]); (try rw [if_neg h_7]); (try rw [if_neg h_8]); (try rw [if_neg h_9]); (try rw [if_neg h_10]); (try rw [if_neg h_11]); (try rw [if_neg h_12]); (try rw [if_neg h_13]); (try rw [if_neg h_14]); (try rw [if_pos rfl]); try rfl), ht⟩) (fun _ h => by cases h) dX8_rankOf_103
  by_cases h_16 : a0 = 34
  · subst h_16
    refine lv_tableIn (off := 101) (tgt := 102) hx hb dX8_rankOf_1 (by decide) (by decide) (by decide) (by decide) ?_
    refine lv_iconst (v := 4) hx hb dX8_rankOf_102 (by decide) ?_
    exact W.iret (v := 4) hx hb hr (fun t ht hW => ⟨4, rfl, (by rw [fr_rankOf]; (try rw [if_neg h_1]); (try rw [if_neg h_2]); (try rw [if_neg h_3]); (try rw [if_neg h_4]); (try rw [if_neg h_5]); (try rw [if_neg h_6]); (try rw [if_neg h_7]); (try rw [if_neg h_8]); (try rw [if_neg h_9]); (try rw [if_neg h_10]); (try rw [if_neg h_11]); (try rw [if_neg h_12]); (try rw [if_neg h_13]); (try rw [if_neg h_14]); (try rw [if_neg h_15]); (try rw [if_pos rfl]); try rfl), ht⟩) (fun _ h => by cases h) dX8_rankOf_103
  by_cases h_17 : a0 = 35
  · subst h_17
    refine lv_tableIn (off := 101) (tgt := 102) hx hb dX8_rankOf_1 (by decide) (by decide) (by decide) (by decide) ?_
    refine lv_iconst (v := 4) hx hb dX8_rankOf_102 (by decide) ?_
    exact W.iret (v := 4) hx hb hr (fun t ht hW => ⟨4, rfl, (by rw [fr_rankOf]; (try rw [if_neg h_1]); (try rw [if_neg h_2]); (try rw [if_neg h_3]); (try rw [if_neg h_4]); (try rw [if_neg h_5]); (try rw [if_neg h_6]); (try rw [if_neg h_7]); (try rw [if_neg h_8]); (try rw [if_neg h_9]); (try rw [if_neg h_10]); (try rw [if_neg h_11]); (try rw [if_neg h_12]); (try rw [if_neg h_13]); (try rw [if_neg h_14]); (try rw [if_neg h_15]); (try rw [if_neg h_16]); (try rw [if_pos rfl]); try rfl), ht⟩) (fun _ h => by cases h) dX8_rankOf_103
  by_cases h_18 : a0 = 36
  · subst h_18
    refine lv_tableIn (off := 101) (tgt := 102) hx hb dX8_rankOf_1 (by decide) (by decide) (by decide) (by decide) ?_
    refine lv_iconst (v := 4) hx hb dX8_rankOf_102 (by decide) ?_
    exact W.iret (v := 4) hx hb hr (fun t ht hW => ⟨4, rfl, (by rw [fr_rankOf]; (try rw [if_neg h_1]); (try rw [if_neg h_2]); (try rw [if_neg h_3]); (try rw [if_neg h_4]); (try rw [if_neg h_5]); (try rw [if_neg h_6]); (try rw [if_neg h_7]); (try rw [if_neg h_8]); (try rw [if_neg h_9]); (try rw [if_neg h_10]); (try rw [if_neg h_11]); (try rw [if_neg h_12]); (try rw [if_neg h_13]); (try rw [if_neg h_14]); (try rw [if_neg h_15]); (try rw [if_neg h_16]); (try rw [if_neg h_17]); (try rw [if_pos rfl]); try rfl), ht⟩) (fun _ h => by cases h) dX8_rankOf_103
  by_cases h_19 : a0 = 37
  · subst h_19
    refine lv_tableIn (off := 101) (tgt := 102) hx hb dX8_rankOf_1 (by decide) (by decide) (by decide) (by decide) ?_
    refine lv_iconst (v := 4) hx hb dX8_rankOf_102 (by decide) ?_
    exact W.iret (v := 4) hx hb hr (fun t ht hW => ⟨4, rfl, (by rw [fr_rankOf]; (try rw [if_neg h_1]); (try rw [if_neg h_2]); (try rw [if_neg h_3]); (try rw [if_neg h_4]); (try rw [if_neg h_5]); (try rw [if_neg h_6]); (try rw [if_neg h_7]); (try rw [if_neg h_8]); (try rw [if_neg h_9]); (try rw [if_neg h_10]); (try rw [if_neg h_11]); (try rw [if_neg h_12]); (try rw [if_neg h_13]); (try rw [if_neg h_14]); (try rw [if_neg h_15]); (try rw [if_neg h_16]); (try rw [if_neg h_17]); (try rw [if_neg h_18]); (try rw [if_pos rfl]); try rfl), ht⟩) (fun _ h => by cases h) dX8_rankOf_103
  by_cases h_20 : a0 = 38
  · subst h_20
    refine lv_tableIn (off := 101) (tgt := 102) hx hb dX8_rankOf_1 (by decide) (by decide) (by decide) (by decide) ?_
    refine lv_iconst (v := 4) hx hb dX8_rankOf_102 (by decide) ?_
    exact W.iret (v := 4) hx hb hr (fun t ht hW => ⟨4, rfl, (by rw [fr_rankOf]; (try rw [if_neg h_1]); (try rw [if_neg h_2]); (try rw [if_neg h_3]); (try rw [if_neg h_4]); (try rw [if_neg h_5]); (try rw [if_neg h_6]); (try rw [if_neg h_7]); (try rw [if_neg h_8]); (try rw [if_neg h_9]); (try rw [if_neg h_10]); (try rw [if_neg h_11]); (try rw [if_neg h_12]); (try rw [if_neg h_13]); (try rw [if_neg h_14]); (try rw [if_neg h_15]); (try rw [if_neg h_16]); (try rw [if_neg h_17]); (try rw [if_neg h_18]); (try rw [if_neg h_19]); (try rw [if_pos rfl]); try rfl), ht⟩) (fun _ h => by cases h) dX8_rankOf_103
  refine lv_tableOut (tgt := 109) hx hb dX8_rankOf_1 (by have a0 := xg_ne h_1; have a1 := xg_ne h_2; have a2 := xg_ne h_3; have a3 := xg_ne h_4; have a4 := xg_ne h_5; have a5 := xg_ne h_6; have a6 := xg_ne h_7; have a7 := xg_ne h_8; have a8 := xg_ne h_9; have a9 := xg_ne h_10; have a10 := xg_ne h_11; have a11 := xg_ne h_12; have a12 := xg_ne h_13; have a13 := xg_ne h_14; have a14 := xg_ne h_15; have a15 := xg_ne h_16; have a16 := xg_ne h_17; have a17 := xg_ne h_18; have a18 := xg_ne h_19; have a19 := xg_ne h_20; have b0 : (19 : Int32).toInt = 19 := rfl; have b1 : (20 : Int32).toInt = 20 := rfl; have b2 : (21 : Int32).toInt = 21 := rfl; have b3 : (22 : Int32).toInt = 22 := rfl; have b4 : (23 : Int32).toInt = 23 := rfl; have b5 : (24 : Int32).toInt = 24 := rfl; have b6 : (25 : Int32).toInt = 25 := rfl; have b7 : (26 : Int32).toInt = 26 := rfl; have b8 : (27 : Int32).toInt = 27 := rfl; have b9 : (28 : Int32).toInt = 28 := rfl; have b10 : (29 : Int32).toInt = 29 := rfl; have b11 : (30 : Int32).toInt = 30 := rfl; have b12 : (31 : Int32).toInt = 31 := rfl; have b13 : (32 : Int32).toInt = 32 := rfl; have b14 : (33 : Int32).toInt = 33 := rfl; have b15 : (34 : Int32).toInt = 34 := rfl; have b16 : (35 : Int32).toInt = 35 := rfl; have b17 : (36 : Int32).toInt = 36 := rfl; have b18 : (37 : Int32).toInt = 37 := rfl; have b19 : (38 : Int32).toInt = 38 := rfl; omega) (by decide) ?_
  refine lv_iconst (v := 0) hx hb dX8_rankOf_109 (by decide) ?_
  exact W.iret (v := 0) hx hb hr (fun t ht hW => ⟨0, rfl, (by rw [fr_rankOf]; (try rw [if_neg h_1]); (try rw [if_neg h_2]); (try rw [if_neg h_3]); (try rw [if_neg h_4]); (try rw [if_neg h_5]); (try rw [if_neg h_6]); (try rw [if_neg h_7]); (try rw [if_neg h_8]); (try rw [if_neg h_9]); (try rw [if_neg h_10]); (try rw [if_neg h_11]); (try rw [if_neg h_12]); (try rw [if_neg h_13]); (try rw [if_neg h_14]); (try rw [if_neg h_15]); (try rw [if_neg h_16]); (try rw [if_neg h_17]); (try rw [if_neg h_18]); (try rw [if_neg h_19]); (try rw [if_neg h_20]); try rfl), ht⟩) (fun _ h => by cases h) dX8_rankOf_110

def fr_takenBy (a0 : Int32) : Int32 := (if a0 = 21 then (1 : Int32) else (if (fr_rankOf a0) ≤ 0 then (0 : Int32) else (2 : Int32)))
theorem dX8_takenBy_0 : decode cX8_takenBy 0 = .ok (.iload_n 0, 1) := zk_26 (by decide +kernel)
theorem dX8_takenBy_1 : decode cX8_takenBy 1 = .ok (.bipush 21, 2) := zk_16 (by decide +kernel)
theorem dX8_takenBy_3 : decode cX8_takenBy 3 = .ok (.if_icmp .ne 5, 3) := zk_160 (by decide +kernel)
theorem dX8_takenBy_8 : decode cX8_takenBy 8 = .ok (.iload_n 0, 1) := zk_26 (by decide +kernel)
theorem dX8_takenBy_9 : decode cX8_takenBy 9 = .ok (.invokestatic 61, 3) := zk_184 (by decide +kernel)
theorem dX8_takenBy_12 : decode cX8_takenBy 12 = .ok (.ifCond .le 7, 3) := zk_158 (by decide +kernel)
theorem dX8_takenBy_19 : decode cX8_takenBy 19 = .ok (.iconst 0, 1) := zk_3 (by decide +kernel)
theorem dX8_takenBy_20 : decode cX8_takenBy 20 = .ok (.ireturn, 1) := zk_172 (by decide +kernel)
theorem dX8_takenBy_15 : decode cX8_takenBy 15 = .ok (.iconst 2, 1) := zk_5 (by decide +kernel)
theorem dX8_takenBy_16 : decode cX8_takenBy 16 = .ok (.goto 4, 3) := zk_167 (by decide +kernel)
theorem dX8_takenBy_6 : decode cX8_takenBy 6 = .ok (.iconst 1, 1) := zk_4 (by decide +kernel)
theorem dX8_takenBy_7 : decode cX8_takenBy 7 = .ok (.ireturn, 1) := zk_172 (by decide +kernel)
set_option maxHeartbeats 4000000 in
set_option maxRecDepth 100000 in
theorem gr_takenBy (l : Launch) (dC : Nat → ClassId) (dI : Nat → Nat → Nat) (a0 : Int32) : Met l yX8_takenBy (Cond.code yX8_takenBy cX8_takenBy 1 (some .int) :: wsL_law) ({ frames := 1, cells := 0, slots := 0, locals := 20 }) (va_Pc [.int a0] (fun U => va_P (dC, dI) vwCl [] U.heap ∧ va_K (dC, dI) vwCl [] U)) (vp_Si (fun r => r = fr_takenBy a0)) 0 0 (fun _ => False) := by
  refine Met.ofW (cc := cX8_takenBy) (maxL := 1) (ret := (some .int)) (by decide) rfl ?_
  intro p e s m args below meth c s₁ B hml hv
  obtain ⟨rfl, hP, hK⟩ := hv
  have hx := B.exec
  have hb := B.bytes
  have hr := B.returns
  have hts := atoms_spec (ws := Cond.code yX8_takenBy cX8_takenBy 1 (some .int) :: wsL_law) B.pre
  have htw : ∀ w ∈ wsL_law, w.before _ s = true := fun w h => hts w (List.mem_cons_of_mem _ h)
  have hown : s.vm.findClass RX8 = some m.cls := findClass_of_methodNamed B.named
  have hlocks := B.notSynchronized
  have hl := lv_entry ([.int a0]) (n := 1) (Nat.le_of_ble_eq_true rfl)
  rw [lg_entry_eq]
  generalize (lg_sl ([.int a0]) ++ List.replicate (1 - (lg_sl ([.int a0])).length) Slot.unset).toArray = ls at hl ⊢
  have hl : lv_has ls 1 [(0, .int a0)] := hl
  refine lv_iload_n hx hb dX8_takenBy_0 rfl (lv_at hl 0 rfl) ?_
  refine lv_bipush (v := 21) hx hb dX8_takenBy_1 (by decide) ?_
  refine lv_icmp_ne (tgt := 8) hx hb dX8_takenBy_3 (by decide) (fun c_1 => ?_) (fun c_1 => ?_)
  · refine lv_iload_n hx hb dX8_takenBy_8 rfl (lv_at hl 0 rfl) ?_
    have hPc := hP.sub (ws' := []) [] rfl
    have hKc := hK.sub (tys' := []) [] rfl
    refine vp_callSi (W.runS (As := [.int a0]) (rest := []) ⟨hx, hb, hml, hown, htw⟩ (gr_rankOf l dC dI a0) (va_cwS 1 htw (xg_S (ck_39 _ (List.mem_of_getElem? (i := 18) rfl)) (ck_19 _ (List.mem_of_getElem? (i := 4) rfl)) (ck_6 _ (List.mem_of_getElem? (i := 8) rfl)) (ck_19 _ (List.mem_of_getElem? (i := 5) rfl))) rfl rfl rfl (by exact ⟨hdc_1.1, hdc_1.2, hdd_2⟩) ⟨Nat.le_of_ble_eq_true rfl, Nat.le_of_ble_eq_true rfl⟩) ⟨fun a U g mk q => by obtain ⟨q0, qP, qK⟩ := q; exact ⟨q0, qP, va_K.moved (u := U) (U := U.calling g mk a) (Vm.Alike.refl U.vm) qK⟩, fun U hU hW => ⟨rfl, by rw [hU]; exact hPc, va_K.moved hW.alike hKc⟩⟩ rfl rfl hl.1 rfl (lv_room (Nat.le_of_ble_eq_true rfl)) dX8_takenBy_9 ⟨Nat.le_of_ble_eq_true rfl, Nat.le_of_ble_eq_true rfl⟩) (fun r_2 hw => ?_)
    try dsimp only at hw
    have hq_r_2 : r_2 = fr_rankOf a0 := hw
    refine lv_if_le (tgt := 19) hx hb dX8_takenBy_12 (by decide) (fun c_3 => ?_) (fun c_3 => ?_)
    · refine lv_iconst (v := 0) hx hb dX8_takenBy_19 (by decide) ?_
      exact W.iret (v := 0) hx hb hr (fun t ht hW => ⟨0, rfl, (by rw [fr_takenBy]; (try rw [← hq_r_2]); (try rw [if_neg c_1]); (try rw [if_pos c_3]); try rfl), ht⟩) (fun _ h => by cases h) dX8_takenBy_20
    · refine lv_iconst (v := 2) hx hb dX8_takenBy_15 (by decide) ?_
      refine lv_goto (tgt := 20) hx hb dX8_takenBy_16 (by decide) ?_
      exact W.iret (v := 2) hx hb hr (fun t ht hW => ⟨2, rfl, (by rw [fr_takenBy]; (try rw [← hq_r_2]); (try rw [if_neg c_1]); (try rw [if_neg c_3]); try rfl), ht⟩) (fun _ h => by cases h) dX8_takenBy_20
  · refine lv_iconst (v := 1) hx hb dX8_takenBy_6 (by decide) ?_
    exact W.iret (v := 1) hx hb hr (fun t ht hW => ⟨1, rfl, (by rw [fr_takenBy]; (try rw [if_pos c_1]); try rfl), ht⟩) (fun _ h => by cases h) dX8_takenBy_7

def fr_isName (a0 : Int32) : Int32 := (if a0 = 2 then (1 : Int32) else (if a0 = 3 then (1 : Int32) else (if a0 = 14 then (1 : Int32) else (if a0 = 15 then (1 : Int32) else (if a0 = 16 then (1 : Int32) else (if a0 = 22 then (1 : Int32) else (0 : Int32)))))))
theorem dX8_isName_0 : decode cX8_isName 0 = .ok (.iload_n 0, 1) := zk_26 (by decide +kernel)
theorem dX8_isName_1 : decode cX8_isName 1 = .ok (.lookupswitch 61 #[(2, 59), (3, 59), (14, 59), (15, 59), (16, 59), (22, 59)], 59) := by decide +kernel
theorem dX8_isName_60 : decode cX8_isName 60 = .ok (.iconst 1, 1) := zk_4 (by decide +kernel)
theorem dX8_isName_61 : decode cX8_isName 61 = .ok (.ireturn, 1) := zk_172 (by decide +kernel)
theorem dX8_isName_62 : decode cX8_isName 62 = .ok (.iconst 0, 1) := zk_3 (by decide +kernel)
theorem dX8_isName_63 : decode cX8_isName 63 = .ok (.ireturn, 1) := zk_172 (by decide +kernel)
set_option maxHeartbeats 4000000 in
set_option maxRecDepth 100000 in
theorem gr_isName (l : Launch) (dC : Nat → ClassId) (dI : Nat → Nat → Nat) (a0 : Int32) : Met l yX8_isName (Cond.code yX8_isName cX8_isName 1 (some .boolean) :: wsL_law) ({ frames := 0, cells := 0, slots := 0, locals := 0 }) (va_Pc [.int a0] (fun U => va_P (dC, dI) vwCl [] U.heap ∧ va_K (dC, dI) vwCl [] U)) (vp_Si (fun r => r = fr_isName a0)) 0 0 (fun _ => False) := by
  refine Met.ofW (cc := cX8_isName) (maxL := 1) (ret := (some .boolean)) (by decide) rfl ?_
  intro p e s m args below meth c s₁ B hml hv
  obtain ⟨rfl, hP, hK⟩ := hv
  have hx := B.exec
  have hb := B.bytes
  have hr := B.returns
  have hts := atoms_spec (ws := Cond.code yX8_isName cX8_isName 1 (some .boolean) :: wsL_law) B.pre
  have htw : ∀ w ∈ wsL_law, w.before _ s = true := fun w h => hts w (List.mem_cons_of_mem _ h)
  have hown : s.vm.findClass RX8 = some m.cls := findClass_of_methodNamed B.named
  have hlocks := B.notSynchronized
  have hl := lv_entry ([.int a0]) (n := 1) (Nat.le_of_ble_eq_true rfl)
  rw [lg_entry_eq]
  generalize (lg_sl ([.int a0]) ++ List.replicate (1 - (lg_sl ([.int a0])).length) Slot.unset).toArray = ls at hl ⊢
  have hl : lv_has ls 1 [(0, .int a0)] := hl
  refine lv_iload_n hx hb dX8_isName_0 rfl (lv_at hl 0 rfl) ?_
  by_cases h_1 : a0 = 2
  · subst h_1
    refine lv_lookup (off := 59) (tgt := 60) hx hb dX8_isName_1 (by decide) (by decide) (by decide) ?_
    refine lv_iconst (v := 1) hx hb dX8_isName_60 (by decide) ?_
    exact W.zret (v := 1) hx hb hr (by first | rfl | decide) (fun t ht hW => ⟨1, rfl, (by rw [fr_isName]; (try rw [if_pos rfl]); try rfl), ht⟩) (fun _ h => by cases h) dX8_isName_61
  by_cases h_2 : a0 = 3
  · subst h_2
    refine lv_lookup (off := 59) (tgt := 60) hx hb dX8_isName_1 (by decide) (by decide) (by decide) ?_
    refine lv_iconst (v := 1) hx hb dX8_isName_60 (by decide) ?_
    exact W.zret (v := 1) hx hb hr (by first | rfl | decide) (fun t ht hW => ⟨1, rfl, (by rw [fr_isName]; (try rw [if_neg h_1]); (try rw [if_pos rfl]); try rfl), ht⟩) (fun _ h => by cases h) dX8_isName_61
  by_cases h_3 : a0 = 14
  · subst h_3
    refine lv_lookup (off := 59) (tgt := 60) hx hb dX8_isName_1 (by decide) (by decide) (by decide) ?_
    refine lv_iconst (v := 1) hx hb dX8_isName_60 (by decide) ?_
    exact W.zret (v := 1) hx hb hr (by first | rfl | decide) (fun t ht hW => ⟨1, rfl, (by rw [fr_isName]; (try rw [if_neg h_1]); (try rw [if_neg h_2]); (try rw [if_pos rfl]); try rfl), ht⟩) (fun _ h => by cases h) dX8_isName_61
  by_cases h_4 : a0 = 15
  · subst h_4
    refine lv_lookup (off := 59) (tgt := 60) hx hb dX8_isName_1 (by decide) (by decide) (by decide) ?_
    refine lv_iconst (v := 1) hx hb dX8_isName_60 (by decide) ?_
    exact W.zret (v := 1) hx hb hr (by first | rfl | decide) (fun t ht hW => ⟨1, rfl, (by rw [fr_isName]; (try rw [if_neg h_1]); (try rw [if_neg h_2]); (try rw [if_neg h_3]); (try rw [if_pos rfl]); try rfl), ht⟩) (fun _ h => by cases h) dX8_isName_61
  by_cases h_5 : a0 = 16
  · subst h_5
    refine lv_lookup (off := 59) (tgt := 60) hx hb dX8_isName_1 (by decide) (by decide) (by decide) ?_
    refine lv_iconst (v := 1) hx hb dX8_isName_60 (by decide) ?_
    exact W.zret (v := 1) hx hb hr (by first | rfl | decide) (fun t ht hW => ⟨1, rfl, (by rw [fr_isName]; (try rw [if_neg h_1]); (try rw [if_neg h_2]); (try rw [if_neg h_3]); (try rw [if_neg h_4]); (try rw [if_pos rfl]); try rfl), ht⟩) (fun _ h => by cases h) dX8_isName_61
  by_cases h_6 : a0 = 22
  · subst h_6
    refine lv_lookup (off := 59) (tgt := 60) hx hb dX8_isName_1 (by decide) (by decide) (by decide) ?_
    refine lv_iconst (v := 1) hx hb dX8_isName_60 (by decide) ?_
    exact W.zret (v := 1) hx hb hr (by first | rfl | decide) (fun t ht hW => ⟨1, rfl, (by rw [fr_isName]; (try rw [if_neg h_1]); (try rw [if_neg h_2]); (try rw [if_neg h_3]); (try rw [if_neg h_4]); (try rw [if_neg h_5]); (try rw [if_pos rfl]); try rfl), ht⟩) (fun _ h => by cases h) dX8_isName_61
  refine lv_lookup (off := 61) (tgt := 62) hx hb dX8_isName_1 (by decide) (by have a0 := xg_ne h_1; have a1 := xg_ne h_2; have a2 := xg_ne h_3; have a3 := xg_ne h_4; have a4 := xg_ne h_5; have a5 := xg_ne h_6; have b0 : (2 : Int32).toInt = 2 := rfl; have b1 : (3 : Int32).toInt = 3 := rfl; have b2 : (14 : Int32).toInt = 14 := rfl; have b3 : (15 : Int32).toInt = 15 := rfl; have b4 : (16 : Int32).toInt = 16 := rfl; have b5 : (22 : Int32).toInt = 22 := rfl; simp only [Op.lookupswitch.offset]; (repeat (rw [if_neg (by omega)])); try rfl) (by decide) ?_
  refine lv_iconst (v := 0) hx hb dX8_isName_62 (by decide) ?_
  exact W.zret (v := 0) hx hb hr (by first | rfl | decide) (fun t ht hW => ⟨0, rfl, (by rw [fr_isName]; (try rw [if_neg h_1]); (try rw [if_neg h_2]); (try rw [if_neg h_3]); (try rw [if_neg h_4]); (try rw [if_neg h_5]); (try rw [if_neg h_6]); try rfl), ht⟩) (fun _ h => by cases h) dX8_isName_63

def fr_product (a0 : Int64) (a1 : Int64) : Int64 := (if 0 ≤ lg_cmp a0 0 then (if 0 ≤ lg_cmp a1 0 then (if lg_cmp a0 0 = 0 then (a0 * a1) else (if lg_cmp a1 (1000000000000 / a0) ≤ 0 then (a0 * a1) else (-9223372036854775808 : Int64))) else (if lg_cmp a0 0 = 0 then (a0 * a1) else (if lg_cmp (-a1) (1000000000000 / a0) ≤ 0 then (a0 * a1) else (-9223372036854775808 : Int64)))) else (if 0 ≤ lg_cmp a1 0 then (if lg_cmp (-a0) 0 = 0 then (a0 * a1) else (if lg_cmp a1 (1000000000000 / (-a0)) ≤ 0 then (a0 * a1) else (-9223372036854775808 : Int64))) else (if lg_cmp (-a0) 0 = 0 then (a0 * a1) else (if lg_cmp (-a1) (1000000000000 / (-a0)) ≤ 0 then (a0 * a1) else (-9223372036854775808 : Int64)))))
theorem dX8_product_0 : decode cX8_product 0 = .ok (.lload_n 0, 1) := zk_30 (by decide +kernel)
theorem dX8_product_1 : decode cX8_product 1 = .ok (.lconst 0, 1) := zk_9 (by decide +kernel)
theorem dX8_product_2 : decode cX8_product 2 = .ok (.lcmp, 1) := zk_148 (by decide +kernel)
theorem dX8_product_3 : decode cX8_product 3 = .ok (.ifCond .ge 8, 3) := zk_156 (by decide +kernel)
theorem dX8_product_11 : decode cX8_product 11 = .ok (.lload_n 0, 1) := zk_30 (by decide +kernel)
theorem dX8_product_12 : decode cX8_product 12 = .ok (.lstore 4, 2) := zk_55 (by decide +kernel)
theorem dX8_product_14 : decode cX8_product 14 = .ok (.lload_n 2, 1) := zk_32 (by decide +kernel)
theorem dX8_product_15 : decode cX8_product 15 = .ok (.lconst 0, 1) := zk_9 (by decide +kernel)
theorem dX8_product_16 : decode cX8_product 16 = .ok (.lcmp, 1) := zk_148 (by decide +kernel)
theorem dX8_product_17 : decode cX8_product 17 = .ok (.ifCond .ge 8, 3) := zk_156 (by decide +kernel)
theorem dX8_product_25 : decode cX8_product 25 = .ok (.lload_n 2, 1) := zk_32 (by decide +kernel)
theorem dX8_product_26 : decode cX8_product 26 = .ok (.lstore 6, 2) := zk_55 (by decide +kernel)
theorem dX8_product_28 : decode cX8_product 28 = .ok (.lload 4, 2) := zk_22 (by decide +kernel)
theorem dX8_product_30 : decode cX8_product 30 = .ok (.lconst 0, 1) := zk_9 (by decide +kernel)
theorem dX8_product_31 : decode cX8_product 31 = .ok (.lcmp, 1) := zk_148 (by decide +kernel)
theorem dX8_product_32 : decode cX8_product 32 = .ok (.ifCond .eq 19, 3) := zk_153 (by decide +kernel)
theorem dX8_product_51 : decode cX8_product 51 = .ok (.lload_n 0, 1) := zk_30 (by decide +kernel)
theorem dX8_product_52 : decode cX8_product 52 = .ok (.lload_n 2, 1) := zk_32 (by decide +kernel)
theorem dX8_product_53 : decode cX8_product 53 = .ok (.lmul, 1) := zk_105 (by decide +kernel)
theorem dX8_product_54 : decode cX8_product 54 = .ok (.lreturn, 1) := zk_173 (by decide +kernel)
theorem dX8_product_35 : decode cX8_product 35 = .ok (.lload 6, 2) := zk_22 (by decide +kernel)
theorem dX8_product_37 : decode cX8_product 37 = .ok (.ldc2_w 57, 3) := zk_20 (by decide +kernel)
theorem dX8_product_40 : decode cX8_product 40 = .ok (.lload 4, 2) := zk_22 (by decide +kernel)
theorem dX8_product_42 : decode cX8_product 42 = .ok (.ldiv, 1) := zk_109 (by decide +kernel)
theorem dX8_product_43 : decode cX8_product 43 = .ok (.lcmp, 1) := zk_148 (by decide +kernel)
theorem dX8_product_44 : decode cX8_product 44 = .ok (.ifCond .le 7, 3) := zk_158 (by decide +kernel)
theorem dX8_product_47 : decode cX8_product 47 = .ok (.ldc2_w 44, 3) := zk_20 (by decide +kernel)
theorem dX8_product_50 : decode cX8_product 50 = .ok (.lreturn, 1) := zk_173 (by decide +kernel)
theorem dX8_product_20 : decode cX8_product 20 = .ok (.lload_n 2, 1) := zk_32 (by decide +kernel)
theorem dX8_product_21 : decode cX8_product 21 = .ok (.lneg, 1) := zk_117 (by decide +kernel)
theorem dX8_product_22 : decode cX8_product 22 = .ok (.goto 4, 3) := zk_167 (by decide +kernel)
theorem dX8_product_6 : decode cX8_product 6 = .ok (.lload_n 0, 1) := zk_30 (by decide +kernel)
theorem dX8_product_7 : decode cX8_product 7 = .ok (.lneg, 1) := zk_117 (by decide +kernel)
theorem dX8_product_8 : decode cX8_product 8 = .ok (.goto 4, 3) := zk_167 (by decide +kernel)
set_option maxHeartbeats 4000000 in
set_option maxRecDepth 100000 in
theorem gr_product (l : Launch) (dC : Nat → ClassId) (dI : Nat → Nat → Nat) (a0 : Int64) (a1 : Int64) : Met l yX8_product (Cond.code yX8_product cX8_product 8 (some .long) :: wsL_law) ({ frames := 0, cells := 0, slots := 0, locals := 0 }) (va_Pc [.long a0, .long a1] (fun U => va_P (dC, dI) vwCl [] U.heap ∧ va_K (dC, dI) vwCl [] U)) (vp_Sl (fun r => r = fr_product a0 a1)) 0 0 (fun _ => False) := by
  refine Met.ofW (cc := cX8_product) (maxL := 8) (ret := (some .long)) (by decide) rfl ?_
  intro p e s m args below meth c s₁ B hml hv
  obtain ⟨rfl, hP, hK⟩ := hv
  have hx := B.exec
  have hb := B.bytes
  have hr := B.returns
  have hts := atoms_spec (ws := Cond.code yX8_product cX8_product 8 (some .long) :: wsL_law) B.pre
  have htw : ∀ w ∈ wsL_law, w.before _ s = true := fun w h => hts w (List.mem_cons_of_mem _ h)
  have hown : s.vm.findClass RX8 = some m.cls := findClass_of_methodNamed B.named
  have hlocks := B.notSynchronized
  have hl := lv_entry ([.long a0, .long a1]) (n := 8) (Nat.le_of_ble_eq_true rfl)
  rw [lg_entry_eq]
  generalize (lg_sl ([.long a0, .long a1]) ++ List.replicate (8 - (lg_sl ([.long a0, .long a1])).length) Slot.unset).toArray = ls at hl ⊢
  have hl : lv_has ls 8 [(0, .long a0), (2, .long a1)] := hl
  refine lv_lload_n hx hb dX8_product_0 rfl (lv_at hl 0 rfl) ?_
  refine lv_lconst (v := 0) hx hb dX8_product_1 (by decide) ?_
  refine W.lcmp hx hb dX8_product_2 ?_
  refine lv_if_ge (tgt := 11) hx hb dX8_product_3 (by decide) (fun c_1 => ?_) (fun c_1 => ?_)
  · refine lv_lload_n hx hb dX8_product_11 rfl (lv_at hl 0 rfl) ?_
    refine lv_lstore (lv' := [(4, .long a0), (0, .long a0), (2, .long a1)]) hx hb dX8_product_12 hl (by decide) rfl (fun ls hl => ?_)
    refine lv_lload_n hx hb dX8_product_14 rfl (lv_at hl 2 rfl) ?_
    refine lv_lconst (v := 0) hx hb dX8_product_15 (by decide) ?_
    refine W.lcmp hx hb dX8_product_16 ?_
    refine lv_if_ge (tgt := 25) hx hb dX8_product_17 (by decide) (fun c_2 => ?_) (fun c_2 => ?_)
    · refine lv_lload_n hx hb dX8_product_25 rfl (lv_at hl 2 rfl) ?_
      refine lv_lstore (lv' := [(6, .long a1), (4, .long a0), (0, .long a0), (2, .long a1)]) hx hb dX8_product_26 hl (by decide) rfl (fun ls hl => ?_)
      refine lv_lload hx hb dX8_product_28 (lv_at hl 1 rfl) ?_
      refine lv_lconst (v := 0) hx hb dX8_product_30 (by decide) ?_
      refine W.lcmp hx hb dX8_product_31 ?_
      refine lv_if_eq (tgt := 51) hx hb dX8_product_32 (by decide) (fun c_3 => ?_) (fun c_3 => ?_)
      · refine lv_lload_n hx hb dX8_product_51 rfl (lv_at hl 2 rfl) ?_
        refine lv_lload_n hx hb dX8_product_52 rfl (lv_at hl 3 rfl) ?_
        refine lv_lmul hx hb dX8_product_53 ?_
        exact W.lret (v := (a0 * a1)) hx hb hr (fun t ht hW => ⟨(a0 * a1), rfl, (by rw [fr_product]; (try rw [if_pos c_1]); (try rw [if_pos c_2]); (try rw [if_pos c_3]); try rfl), ht⟩) (fun _ h => by cases h) dX8_product_54
      · refine lv_lload hx hb dX8_product_35 (lv_at hl 0 rfl) ?_
        refine lv_ldc2 (v := 1000000000000) hx hb hown (htw _ (ck_39 _ (List.mem_of_getElem? (i := 13) rfl))) dX8_product_37 ?_
        refine lv_lload hx hb dX8_product_40 (lv_at hl 1 rfl) ?_
        refine lv_ldiv hx hb dX8_product_42 (xg_nzE c_3) ?_
        refine W.lcmp hx hb dX8_product_43 ?_
        refine lv_if_le (tgt := 51) hx hb dX8_product_44 (by decide) (fun c_4 => ?_) (fun c_4 => ?_)
        · refine lv_lload_n hx hb dX8_product_51 rfl (lv_at hl 2 rfl) ?_
          refine lv_lload_n hx hb dX8_product_52 rfl (lv_at hl 3 rfl) ?_
          refine lv_lmul hx hb dX8_product_53 ?_
          exact W.lret (v := (a0 * a1)) hx hb hr (fun t ht hW => ⟨(a0 * a1), rfl, (by rw [fr_product]; (try rw [if_pos c_1]); (try rw [if_pos c_2]); (try rw [if_neg c_3]); (try rw [if_pos c_4]); try rfl), ht⟩) (fun _ h => by cases h) dX8_product_54
        · refine lv_ldc2 (v := (-9223372036854775808)) hx hb hown (htw _ (ck_39 _ (List.mem_of_getElem? (i := 8) rfl))) dX8_product_47 ?_
          exact W.lret (v := (-9223372036854775808)) hx hb hr (fun t ht hW => ⟨(-9223372036854775808), rfl, (by rw [fr_product]; (try rw [if_pos c_1]); (try rw [if_pos c_2]); (try rw [if_neg c_3]); (try rw [if_neg c_4]); try rfl), ht⟩) (fun _ h => by cases h) dX8_product_50
    · refine lv_lload_n hx hb dX8_product_20 rfl (lv_at hl 2 rfl) ?_
      refine lv_lneg hx hb dX8_product_21 ?_
      refine lv_goto (tgt := 26) hx hb dX8_product_22 (by decide) ?_
      refine lv_lstore (lv' := [(6, .long (-a1)), (4, .long a0), (0, .long a0), (2, .long a1)]) hx hb dX8_product_26 hl (by decide) rfl (fun ls hl => ?_)
      refine lv_lload hx hb dX8_product_28 (lv_at hl 1 rfl) ?_
      refine lv_lconst (v := 0) hx hb dX8_product_30 (by decide) ?_
      refine W.lcmp hx hb dX8_product_31 ?_
      refine lv_if_eq (tgt := 51) hx hb dX8_product_32 (by decide) (fun c_5 => ?_) (fun c_5 => ?_)
      · refine lv_lload_n hx hb dX8_product_51 rfl (lv_at hl 2 rfl) ?_
        refine lv_lload_n hx hb dX8_product_52 rfl (lv_at hl 3 rfl) ?_
        refine lv_lmul hx hb dX8_product_53 ?_
        exact W.lret (v := (a0 * a1)) hx hb hr (fun t ht hW => ⟨(a0 * a1), rfl, (by rw [fr_product]; (try rw [if_pos c_1]); (try rw [if_neg c_2]); (try rw [if_pos c_5]); try rfl), ht⟩) (fun _ h => by cases h) dX8_product_54
      · refine lv_lload hx hb dX8_product_35 (lv_at hl 0 rfl) ?_
        refine lv_ldc2 (v := 1000000000000) hx hb hown (htw _ (ck_39 _ (List.mem_of_getElem? (i := 13) rfl))) dX8_product_37 ?_
        refine lv_lload hx hb dX8_product_40 (lv_at hl 1 rfl) ?_
        refine lv_ldiv hx hb dX8_product_42 (xg_nzE c_5) ?_
        refine W.lcmp hx hb dX8_product_43 ?_
        refine lv_if_le (tgt := 51) hx hb dX8_product_44 (by decide) (fun c_6 => ?_) (fun c_6 => ?_)
        · refine lv_lload_n hx hb dX8_product_51 rfl (lv_at hl 2 rfl) ?_
          refine lv_lload_n hx hb dX8_product_52 rfl (lv_at hl 3 rfl) ?_
          refine lv_lmul hx hb dX8_product_53 ?_
          exact W.lret (v := (a0 * a1)) hx hb hr (fun t ht hW => ⟨(a0 * a1), rfl, (by rw [fr_product]; (try rw [if_pos c_1]); (try rw [if_neg c_2]); (try rw [if_neg c_5]); (try rw [if_pos c_6]); try rfl), ht⟩) (fun _ h => by cases h) dX8_product_54
        · refine lv_ldc2 (v := (-9223372036854775808)) hx hb hown (htw _ (ck_39 _ (List.mem_of_getElem? (i := 8) rfl))) dX8_product_47 ?_
          exact W.lret (v := (-9223372036854775808)) hx hb hr (fun t ht hW => ⟨(-9223372036854775808), rfl, (by rw [fr_product]; (try rw [if_pos c_1]); (try rw [if_neg c_2]); (try rw [if_neg c_5]); (try rw [if_neg c_6]); try rfl), ht⟩) (fun _ h => by cases h) dX8_product_50
  · refine lv_lload_n hx hb dX8_product_6 rfl (lv_at hl 0 rfl) ?_
    refine lv_lneg hx hb dX8_product_7 ?_
    refine lv_goto (tgt := 12) hx hb dX8_product_8 (by decide) ?_
    refine lv_lstore (lv' := [(4, .long (-a0)), (0, .long a0), (2, .long a1)]) hx hb dX8_product_12 hl (by decide) rfl (fun ls hl => ?_)
    refine lv_lload_n hx hb dX8_product_14 rfl (lv_at hl 2 rfl) ?_
    refine lv_lconst (v := 0) hx hb dX8_product_15 (by decide) ?_
    refine W.lcmp hx hb dX8_product_16 ?_
    refine lv_if_ge (tgt := 25) hx hb dX8_product_17 (by decide) (fun c_7 => ?_) (fun c_7 => ?_)
    · refine lv_lload_n hx hb dX8_product_25 rfl (lv_at hl 2 rfl) ?_
      refine lv_lstore (lv' := [(6, .long a1), (4, .long (-a0)), (0, .long a0), (2, .long a1)]) hx hb dX8_product_26 hl (by decide) rfl (fun ls hl => ?_)
      refine lv_lload hx hb dX8_product_28 (lv_at hl 1 rfl) ?_
      refine lv_lconst (v := 0) hx hb dX8_product_30 (by decide) ?_
      refine W.lcmp hx hb dX8_product_31 ?_
      refine lv_if_eq (tgt := 51) hx hb dX8_product_32 (by decide) (fun c_8 => ?_) (fun c_8 => ?_)
      · refine lv_lload_n hx hb dX8_product_51 rfl (lv_at hl 2 rfl) ?_
        refine lv_lload_n hx hb dX8_product_52 rfl (lv_at hl 3 rfl) ?_
        refine lv_lmul hx hb dX8_product_53 ?_
        exact W.lret (v := (a0 * a1)) hx hb hr (fun t ht hW => ⟨(a0 * a1), rfl, (by rw [fr_product]; (try rw [if_neg c_1]); (try rw [if_pos c_7]); (try rw [if_pos c_8]); try rfl), ht⟩) (fun _ h => by cases h) dX8_product_54
      · refine lv_lload hx hb dX8_product_35 (lv_at hl 0 rfl) ?_
        refine lv_ldc2 (v := 1000000000000) hx hb hown (htw _ (ck_39 _ (List.mem_of_getElem? (i := 13) rfl))) dX8_product_37 ?_
        refine lv_lload hx hb dX8_product_40 (lv_at hl 1 rfl) ?_
        refine lv_ldiv hx hb dX8_product_42 (xg_nzE c_8) ?_
        refine W.lcmp hx hb dX8_product_43 ?_
        refine lv_if_le (tgt := 51) hx hb dX8_product_44 (by decide) (fun c_9 => ?_) (fun c_9 => ?_)
        · refine lv_lload_n hx hb dX8_product_51 rfl (lv_at hl 2 rfl) ?_
          refine lv_lload_n hx hb dX8_product_52 rfl (lv_at hl 3 rfl) ?_
          refine lv_lmul hx hb dX8_product_53 ?_
          exact W.lret (v := (a0 * a1)) hx hb hr (fun t ht hW => ⟨(a0 * a1), rfl, (by rw [fr_product]; (try rw [if_neg c_1]); (try rw [if_pos c_7]); (try rw [if_neg c_8]); (try rw [if_pos c_9]); try rfl), ht⟩) (fun _ h => by cases h) dX8_product_54
        · refine lv_ldc2 (v := (-9223372036854775808)) hx hb hown (htw _ (ck_39 _ (List.mem_of_getElem? (i := 8) rfl))) dX8_product_47 ?_
          exact W.lret (v := (-9223372036854775808)) hx hb hr (fun t ht hW => ⟨(-9223372036854775808), rfl, (by rw [fr_product]; (try rw [if_neg c_1]); (try rw [if_pos c_7]); (try rw [if_neg c_8]); (try rw [if_neg c_9]); try rfl), ht⟩) (fun _ h => by cases h) dX8_product_50
    · refine lv_lload_n hx hb dX8_product_20 rfl (lv_at hl 2 rfl) ?_
      refine lv_lneg hx hb dX8_product_21 ?_
      refine lv_goto (tgt := 26) hx hb dX8_product_22 (by decide) ?_
      refine lv_lstore (lv' := [(6, .long (-a1)), (4, .long (-a0)), (0, .long a0), (2, .long a1)]) hx hb dX8_product_26 hl (by decide) rfl (fun ls hl => ?_)
      refine lv_lload hx hb dX8_product_28 (lv_at hl 1 rfl) ?_
      refine lv_lconst (v := 0) hx hb dX8_product_30 (by decide) ?_
      refine W.lcmp hx hb dX8_product_31 ?_
      refine lv_if_eq (tgt := 51) hx hb dX8_product_32 (by decide) (fun c_10 => ?_) (fun c_10 => ?_)
      · refine lv_lload_n hx hb dX8_product_51 rfl (lv_at hl 2 rfl) ?_
        refine lv_lload_n hx hb dX8_product_52 rfl (lv_at hl 3 rfl) ?_
        refine lv_lmul hx hb dX8_product_53 ?_
        exact W.lret (v := (a0 * a1)) hx hb hr (fun t ht hW => ⟨(a0 * a1), rfl, (by rw [fr_product]; (try rw [if_neg c_1]); (try rw [if_neg c_7]); (try rw [if_pos c_10]); try rfl), ht⟩) (fun _ h => by cases h) dX8_product_54
      · refine lv_lload hx hb dX8_product_35 (lv_at hl 0 rfl) ?_
        refine lv_ldc2 (v := 1000000000000) hx hb hown (htw _ (ck_39 _ (List.mem_of_getElem? (i := 13) rfl))) dX8_product_37 ?_
        refine lv_lload hx hb dX8_product_40 (lv_at hl 1 rfl) ?_
        refine lv_ldiv hx hb dX8_product_42 (xg_nzE c_10) ?_
        refine W.lcmp hx hb dX8_product_43 ?_
        refine lv_if_le (tgt := 51) hx hb dX8_product_44 (by decide) (fun c_11 => ?_) (fun c_11 => ?_)
        · refine lv_lload_n hx hb dX8_product_51 rfl (lv_at hl 2 rfl) ?_
          refine lv_lload_n hx hb dX8_product_52 rfl (lv_at hl 3 rfl) ?_
          refine lv_lmul hx hb dX8_product_53 ?_
          exact W.lret (v := (a0 * a1)) hx hb hr (fun t ht hW => ⟨(a0 * a1), rfl, (by rw [fr_product]; (try rw [if_neg c_1]); (try rw [if_neg c_7]); (try rw [if_neg c_10]); (try rw [if_pos c_11]); try rfl), ht⟩) (fun _ h => by cases h) dX8_product_54
        · refine lv_ldc2 (v := (-9223372036854775808)) hx hb hown (htw _ (ck_39 _ (List.mem_of_getElem? (i := 8) rfl))) dX8_product_47 ?_
          exact W.lret (v := (-9223372036854775808)) hx hb hr (fun t ht hW => ⟨(-9223372036854775808), rfl, (by rw [fr_product]; (try rw [if_neg c_1]); (try rw [if_neg c_7]); (try rw [if_neg c_10]); (try rw [if_neg c_11]); try rfl), ht⟩) (fun _ h => by cases h) dX8_product_50
