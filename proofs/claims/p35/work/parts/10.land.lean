section XN
variable {p : Program} {l : Launch} {e : Env} {R : Room} {s : State} {m : MethodId} {args : Array Value} {below : List Frame} {meth : Method} {c : Code} {H : Heap} {locs : List Loc} {cells slots : Nat} {Q : State → Prop} {pc : Nat} {ls : Array Slot} {rest : List Value}
theorem xg_nSl {post : Int64 → Prop} {a : Array Value} {st0 : List Value} (hr : va_Run p l e R s m args below meth c H locs cells slots 0 0 (F0 m pc ls st0) rest (vp_Sl post a) (fun _ => False))
    (kk : ∀ r : Int64, post r → W p l e R s m args below meth c H locs cells slots Q (F0 m (pc + 3) ls (.long r :: rest))) : W p l e R s m args below meth c H locs cells slots Q (F0 m pc ls st0) := by
  intro T hT X
  obtain ⟨v, st0, t, T9, L, h0, X9, hL, e1, e2, ⟨r, hv, hp, hh⟩, st⟩ := hr T hT X
  cases hv
  obtain ⟨t2, a1, b1⟩ := kk r hp T9 (by rw [e1, hh, h0]) (Stand.forget X9 (fun q h => (hL q h).elim))
  exact ⟨t2, st t2 a1, b1⟩
end XN
theorem xg_nzC {y : Int64} (h : 0 ≤ lg_cmp y 1) : ¬ y = 0 := fun e => by
  rw [e] at h
  exact absurd h (by decide)
theorem xg_nzE {y : Int64} (h : ¬ lg_cmp y 0 = 0) : ¬ y = 0 := fun e => h ((lg_cmp_eq _ _).mpr e)
theorem xg_nzL {x : Int32} (h : ¬ x < 1) : ¬ x.toInt64 = 0 := fun e => h (by
  rw [← Int64.toInt_inj, Int32.toInt_toInt64] at e
  rw [Int32.lt_iff_toInt_lt]
  have h0 : (0 : Int64).toInt = 0 := rfl
  have h1 : (1 : Int32).toInt = 1 := rfl
  omega)

def fx_cut (a0 : Int64) (a1 : Int64) : Int64 := (if 0 ≤ lg_cmp a1 1 then (a0 / a1) else (0 : Int64))
theorem dX11_cut_0 : decode cX11_cut 0 = .ok (.lload_n 2, 1) := zk_32 (by decide +kernel)
theorem dX11_cut_1 : decode cX11_cut 1 = .ok (.lconst 1, 1) := zk_10 (by decide +kernel)
theorem dX11_cut_2 : decode cX11_cut 2 = .ok (.lcmp, 1) := zk_148 (by decide +kernel)
theorem dX11_cut_3 : decode cX11_cut 3 = .ok (.ifCond .ge 7, 3) := zk_156 (by decide +kernel)
theorem dX11_cut_10 : decode cX11_cut 10 = .ok (.lload_n 0, 1) := zk_30 (by decide +kernel)
theorem dX11_cut_11 : decode cX11_cut 11 = .ok (.lload_n 2, 1) := zk_32 (by decide +kernel)
theorem dX11_cut_12 : decode cX11_cut 12 = .ok (.ldiv, 1) := zk_109 (by decide +kernel)
theorem dX11_cut_13 : decode cX11_cut 13 = .ok (.lreturn, 1) := zk_173 (by decide +kernel)
theorem dX11_cut_6 : decode cX11_cut 6 = .ok (.lconst 0, 1) := zk_9 (by decide +kernel)
theorem dX11_cut_7 : decode cX11_cut 7 = .ok (.goto 6, 3) := zk_167 (by decide +kernel)
set_option maxHeartbeats 4000000 in
set_option maxRecDepth 100000 in
theorem gx_cut (l : Launch) (dC : Nat → ClassId) (dI : Nat → Nat → Nat) (a0 : Int64) (a1 : Int64) : Met l yX11_cut (Cond.code yX11_cut cX11_cut 4 (some .long) :: wsL_law) ({ frames := 0, cells := 0, slots := 0, locals := 0 }) (va_Pc [.long a0, .long a1] (fun U => va_P (dC, dI) vwCl [] U.heap ∧ va_K (dC, dI) vwCl [] U)) (vp_Sl (fun r => r = fx_cut a0 a1)) 0 0 (fun _ => False) := by
  refine Met.ofW (cc := cX11_cut) (maxL := 4) (ret := (some .long)) (by decide) rfl ?_
  intro p e s m args below meth c s₁ B hml hv
  obtain ⟨rfl, hP, hK⟩ := hv
  have hx := B.exec
  have hb := B.bytes
  have hr := B.returns
  have hts := atoms_spec (ws := Cond.code yX11_cut cX11_cut 4 (some .long) :: wsL_law) B.pre
  have htw : ∀ w ∈ wsL_law, w.before _ s = true := fun w h => hts w (List.mem_cons_of_mem _ h)
  have hown : s.vm.findClass RX11 = some m.cls := findClass_of_methodNamed B.named
  have hlocks := B.notSynchronized
  have hl := lv_entry ([.long a0, .long a1]) (n := 4) (Nat.le_of_ble_eq_true rfl)
  rw [lg_entry_eq]
  generalize (lg_sl ([.long a0, .long a1]) ++ List.replicate (4 - (lg_sl ([.long a0, .long a1])).length) Slot.unset).toArray = ls at hl ⊢
  have hl : lv_has ls 4 [(0, .long a0), (2, .long a1)] := hl
  refine lv_lload_n hx hb dX11_cut_0 rfl (lv_at hl 1 rfl) ?_
  refine lv_lconst (v := 1) hx hb dX11_cut_1 (by decide) ?_
  refine W.lcmp hx hb dX11_cut_2 ?_
  refine lv_if_ge (tgt := 10) hx hb dX11_cut_3 (by decide) (fun c_1 => ?_) (fun c_1 => ?_)
  · refine lv_lload_n hx hb dX11_cut_10 rfl (lv_at hl 0 rfl) ?_
    refine lv_lload_n hx hb dX11_cut_11 rfl (lv_at hl 1 rfl) ?_
    refine lv_ldiv hx hb dX11_cut_12 (xg_nzC c_1) ?_
    exact W.lret (v := (a0 / a1)) hx hb hr (fun t ht hW => ⟨(a0 / a1), rfl, (by rw [fx_cut]; (try rw [if_pos c_1]); try rfl), ht⟩) (fun _ h => by cases h) dX11_cut_13
  · refine lv_lconst (v := 0) hx hb dX11_cut_6 (by decide) ?_
    refine lv_goto (tgt := 13) hx hb dX11_cut_7 (by decide) ?_
    exact W.lret (v := 0) hx hb hr (fun t ht hW => ⟨0, rfl, (by rw [fx_cut]; (try rw [if_neg c_1]); try rfl), ht⟩) (fun _ h => by cases h) dX11_cut_13

def fx_isCount (a0 : Int64) : Int32 := (if lg_cmp a0 0 < 0 then (0 : Int32) else (if 0 < lg_cmp a0 1000000000000 then (0 : Int32) else (1 : Int32)))
theorem dX11_isCount_0 : decode cX11_isCount 0 = .ok (.lload_n 0, 1) := zk_30 (by decide +kernel)
theorem dX11_isCount_1 : decode cX11_isCount 1 = .ok (.lconst 0, 1) := zk_9 (by decide +kernel)
theorem dX11_isCount_2 : decode cX11_isCount 2 = .ok (.lcmp, 1) := zk_148 (by decide +kernel)
theorem dX11_isCount_3 : decode cX11_isCount 3 = .ok (.ifCond .lt 15, 3) := zk_155 (by decide +kernel)
theorem dX11_isCount_18 : decode cX11_isCount 18 = .ok (.iconst 0, 1) := zk_3 (by decide +kernel)
theorem dX11_isCount_19 : decode cX11_isCount 19 = .ok (.ireturn, 1) := zk_172 (by decide +kernel)
theorem dX11_isCount_6 : decode cX11_isCount 6 = .ok (.lload_n 0, 1) := zk_30 (by decide +kernel)
theorem dX11_isCount_7 : decode cX11_isCount 7 = .ok (.ldc2_w 209, 3) := zk_20 (by decide +kernel)
theorem dX11_isCount_10 : decode cX11_isCount 10 = .ok (.lcmp, 1) := zk_148 (by decide +kernel)
theorem dX11_isCount_11 : decode cX11_isCount 11 = .ok (.ifCond .gt 7, 3) := zk_157 (by decide +kernel)
theorem dX11_isCount_14 : decode cX11_isCount 14 = .ok (.iconst 1, 1) := zk_4 (by decide +kernel)
theorem dX11_isCount_15 : decode cX11_isCount 15 = .ok (.goto 4, 3) := zk_167 (by decide +kernel)
set_option maxHeartbeats 4000000 in
set_option maxRecDepth 100000 in
theorem gx_isCount (l : Launch) (dC : Nat → ClassId) (dI : Nat → Nat → Nat) (a0 : Int64) : Met l yX11_isCount (Cond.code yX11_isCount cX11_isCount 2 (some .boolean) :: wsL_law) ({ frames := 0, cells := 0, slots := 0, locals := 0 }) (va_Pc [.long a0] (fun U => va_P (dC, dI) vwCl [] U.heap ∧ va_K (dC, dI) vwCl [] U)) (vp_Si (fun r => r = fx_isCount a0)) 0 0 (fun _ => False) := by
  refine Met.ofW (cc := cX11_isCount) (maxL := 2) (ret := (some .boolean)) (by decide) rfl ?_
  intro p e s m args below meth c s₁ B hml hv
  obtain ⟨rfl, hP, hK⟩ := hv
  have hx := B.exec
  have hb := B.bytes
  have hr := B.returns
  have hts := atoms_spec (ws := Cond.code yX11_isCount cX11_isCount 2 (some .boolean) :: wsL_law) B.pre
  have htw : ∀ w ∈ wsL_law, w.before _ s = true := fun w h => hts w (List.mem_cons_of_mem _ h)
  have hown : s.vm.findClass RX11 = some m.cls := findClass_of_methodNamed B.named
  have hlocks := B.notSynchronized
  have hl := lv_entry ([.long a0]) (n := 2) (Nat.le_of_ble_eq_true rfl)
  rw [lg_entry_eq]
  generalize (lg_sl ([.long a0]) ++ List.replicate (2 - (lg_sl ([.long a0])).length) Slot.unset).toArray = ls at hl ⊢
  have hl : lv_has ls 2 [(0, .long a0)] := hl
  refine lv_lload_n hx hb dX11_isCount_0 rfl (lv_at hl 0 rfl) ?_
  refine lv_lconst (v := 0) hx hb dX11_isCount_1 (by decide) ?_
  refine W.lcmp hx hb dX11_isCount_2 ?_
  refine lv_if_lt (tgt := 18) hx hb dX11_isCount_3 (by decide) (fun c_1 => ?_) (fun c_1 => ?_)
  · refine lv_iconst (v := 0) hx hb dX11_isCount_18 (by decide) ?_
    exact W.zret (v := 0) hx hb hr (by first | rfl | decide) (fun t ht hW => ⟨0, rfl, (by rw [fx_isCount]; (try rw [if_pos c_1]); try rfl), ht⟩) (fun _ h => by cases h) dX11_isCount_19
  · refine lv_lload_n hx hb dX11_isCount_6 rfl (lv_at hl 0 rfl) ?_
    refine lv_ldc2 (v := 1000000000000) hx hb hown (htw _ (ck_35 _ (List.mem_of_getElem? (i := 14) rfl))) dX11_isCount_7 ?_
    refine W.lcmp hx hb dX11_isCount_10 ?_
    refine lv_if_gt (tgt := 18) hx hb dX11_isCount_11 (by decide) (fun c_2 => ?_) (fun c_2 => ?_)
    · refine lv_iconst (v := 0) hx hb dX11_isCount_18 (by decide) ?_
      exact W.zret (v := 0) hx hb hr (by first | rfl | decide) (fun t ht hW => ⟨0, rfl, (by rw [fx_isCount]; (try rw [if_neg c_1]); (try rw [if_pos c_2]); try rfl), ht⟩) (fun _ h => by cases h) dX11_isCount_19
    · refine lv_iconst (v := 1) hx hb dX11_isCount_14 (by decide) ?_
      refine lv_goto (tgt := 19) hx hb dX11_isCount_15 (by decide) ?_
      exact W.zret (v := 1) hx hb hr (by first | rfl | decide) (fun t ht hW => ⟨1, rfl, (by rw [fx_isCount]; (try rw [if_neg c_1]); (try rw [if_neg c_2]); try rfl), ht⟩) (fun _ h => by cases h) dX11_isCount_19

def fl_lengthOf (fi : Int32) (gr : Int32) (fr : Int32) (a0 : Int64) : Int64 := (fi.toInt64 + ((a0 - 1) * gr.toInt64))
theorem dX1_lengthOf_0 : decode cX1_lengthOf 0 = .ok (.aload_n 0, 1) := zk_42 (by decide +kernel)
theorem dX1_lengthOf_1 : decode cX1_lengthOf 1 = .ok (.getfield 9, 3) := zk_180 (by decide +kernel)
theorem dX1_lengthOf_4 : decode cX1_lengthOf 4 = .ok (.i2l, 1) := zk_133 (by decide +kernel)
theorem dX1_lengthOf_5 : decode cX1_lengthOf 5 = .ok (.lload_n 1, 1) := zk_31 (by decide +kernel)
theorem dX1_lengthOf_6 : decode cX1_lengthOf 6 = .ok (.lconst 1, 1) := zk_10 (by decide +kernel)
theorem dX1_lengthOf_7 : decode cX1_lengthOf 7 = .ok (.lsub, 1) := zk_101 (by decide +kernel)
theorem dX1_lengthOf_8 : decode cX1_lengthOf 8 = .ok (.aload_n 0, 1) := zk_42 (by decide +kernel)
theorem dX1_lengthOf_9 : decode cX1_lengthOf 9 = .ok (.getfield 25, 3) := zk_180 (by decide +kernel)
theorem dX1_lengthOf_12 : decode cX1_lengthOf 12 = .ok (.i2l, 1) := zk_133 (by decide +kernel)
theorem dX1_lengthOf_13 : decode cX1_lengthOf 13 = .ok (.lmul, 1) := zk_105 (by decide +kernel)
theorem dX1_lengthOf_14 : decode cX1_lengthOf 14 = .ok (.ladd, 1) := zk_97 (by decide +kernel)
theorem dX1_lengthOf_15 : decode cX1_lengthOf 15 = .ok (.lreturn, 1) := zk_173 (by decide +kernel)
set_option maxHeartbeats 4000000 in
set_option maxRecDepth 100000 in
theorem gl_lengthOf (l : Launch) (dC : Nat → ClassId) (dI : Nat → Nat → Nat) (la : Nat) (fi : Int32) (gr : Int32) (fr : Int32) (a0 : Int64) : Met l yX1_lengthOf (Cond.code yX1_lengthOf cX1_lengthOf 3 (some .long) :: wsL_law) ({ frames := 0, cells := 0, slots := 0, locals := 0 }) (va_Pc [.ref la, .long a0] (fun U => va_P (dC, dI) vwCl [(eO1a la fi gr fr)] U.heap ∧ va_K (dC, dI) vwCl [] U)) (vp_Sl (fun r => r = fl_lengthOf fi gr fr a0)) 0 0 (fun _ => False) := by
  refine Met.ofW (cc := cX1_lengthOf) (maxL := 3) (ret := (some .long)) (by decide) rfl ?_
  intro p e s m args below meth c s₁ B hml hv
  obtain ⟨rfl, hP, hK⟩ := hv
  have hx := B.exec
  have hb := B.bytes
  have hr := B.returns
  have hts := atoms_spec (ws := Cond.code yX1_lengthOf cX1_lengthOf 3 (some .long) :: wsL_law) B.pre
  have htw : ∀ w ∈ wsL_law, w.before _ s = true := fun w h => hts w (List.mem_cons_of_mem _ h)
  have hown : s.vm.findClass RX1 = some m.cls := findClass_of_methodNamed B.named
  have hlocks := B.notSynchronized
  have hl := lv_entry ([.ref la, .long a0]) (n := 3) (Nat.le_of_ble_eq_true rfl)
  rw [lg_entry_eq]
  generalize (lg_sl ([.ref la, .long a0]) ++ List.replicate (3 - (lg_sl ([.ref la, .long a0])).length) Slot.unset).toArray = ls at hl ⊢
  have hl : lv_has ls 3 [(0, .ref la), (1, .long a0)] := hl
  refine lv_aload_n hx hb dX1_lengthOf_0 rfl (lv_at hl 0 rfl) ?_
  refine va_get (D := (dC, dI)) (ci := 1) (v := .int fi) (C := RX1) (T := TX1) (N := 3) hx hb htw inlX1 hown hK hP 0 rfl rfl 0 (by decide) (htw _ (ck_7 _ (List.mem_of_getElem? (i := 14) rfl))) (fun _ h9 => h9) rfl dX1_lengthOf_1 ?_
  refine lv_i2l (v := fi.toInt64) hx hb dX1_lengthOf_4 rfl ?_
  refine lv_lload_n hx hb dX1_lengthOf_5 rfl (lv_at hl 1 rfl) ?_
  refine lv_lconst (v := 1) hx hb dX1_lengthOf_6 (by decide) ?_
  refine lv_lsub hx hb dX1_lengthOf_7 ?_
  refine lv_aload_n hx hb dX1_lengthOf_8 rfl (lv_at hl 0 rfl) ?_
  refine va_get (D := (dC, dI)) (ci := 1) (v := .int gr) (C := RX1) (T := TX1) (N := 3) hx hb htw inlX1 hown hK hP 0 rfl rfl 1 (by decide) (htw _ (ck_21 _ (List.mem_of_getElem? (i := 13) rfl))) (fun _ h9 => h9) rfl dX1_lengthOf_9 ?_
  refine lv_i2l (v := gr.toInt64) hx hb dX1_lengthOf_12 rfl ?_
  refine lv_lmul hx hb dX1_lengthOf_13 ?_
  refine lv_ladd hx hb dX1_lengthOf_14 ?_
  exact W.lret (v := (fi.toInt64 + ((a0 - 1) * gr.toInt64))) hx hb hr (fun t ht hW => ⟨(fi.toInt64 + ((a0 - 1) * gr.toInt64)), rfl, (rfl), ht⟩) (fun _ h => by cases h) dX1_lengthOf_15

def fl_isThere (fi : Int32) (gr : Int32) (fr : Int32) (a0 : Int64) : Int32 := (if lg_cmp a0 1 < 0 then (0 : Int32) else (if lg_cmp (fl_lengthOf fi gr fr a0) 1 < 0 then (0 : Int32) else (1 : Int32)))
theorem dX1_isThere_0 : decode cX1_isThere 0 = .ok (.lload_n 1, 1) := zk_31 (by decide +kernel)
theorem dX1_isThere_1 : decode cX1_isThere 1 = .ok (.lconst 1, 1) := zk_10 (by decide +kernel)
theorem dX1_isThere_2 : decode cX1_isThere 2 = .ok (.lcmp, 1) := zk_148 (by decide +kernel)
theorem dX1_isThere_3 : decode cX1_isThere 3 = .ok (.ifCond .lt 17, 3) := zk_155 (by decide +kernel)
theorem dX1_isThere_20 : decode cX1_isThere 20 = .ok (.iconst 0, 1) := zk_3 (by decide +kernel)
theorem dX1_isThere_21 : decode cX1_isThere 21 = .ok (.ireturn, 1) := zk_172 (by decide +kernel)
theorem dX1_isThere_6 : decode cX1_isThere 6 = .ok (.aload_n 0, 1) := zk_42 (by decide +kernel)
theorem dX1_isThere_7 : decode cX1_isThere 7 = .ok (.lload_n 1, 1) := zk_31 (by decide +kernel)
theorem dX1_isThere_8 : decode cX1_isThere 8 = .ok (.invokevirtual 15, 3) := zk_182 (by decide +kernel)
theorem dX1_isThere_11 : decode cX1_isThere 11 = .ok (.lconst 1, 1) := zk_10 (by decide +kernel)
theorem dX1_isThere_12 : decode cX1_isThere 12 = .ok (.lcmp, 1) := zk_148 (by decide +kernel)
theorem dX1_isThere_13 : decode cX1_isThere 13 = .ok (.ifCond .lt 7, 3) := zk_155 (by decide +kernel)
theorem dX1_isThere_16 : decode cX1_isThere 16 = .ok (.iconst 1, 1) := zk_4 (by decide +kernel)
theorem dX1_isThere_17 : decode cX1_isThere 17 = .ok (.goto 4, 3) := zk_167 (by decide +kernel)
set_option maxHeartbeats 4000000 in
set_option maxRecDepth 100000 in
theorem gl_isThere (l : Launch) (dC : Nat → ClassId) (dI : Nat → Nat → Nat) (la : Nat) (fi : Int32) (gr : Int32) (fr : Int32) (a0 : Int64) : Met l yX1_isThere (Cond.code yX1_isThere cX1_isThere 3 (some .boolean) :: wsL_law) ({ frames := 1, cells := 0, slots := 0, locals := 22 }) (va_Pc [.ref la, .long a0] (fun U => va_P (dC, dI) vwCl [(eO1a la fi gr fr)] U.heap ∧ va_K (dC, dI) vwCl [] U)) (vp_Si (fun r => r = fl_isThere fi gr fr a0)) 0 0 (fun _ => False) := by
  refine Met.ofW (cc := cX1_isThere) (maxL := 3) (ret := (some .boolean)) (by decide) rfl ?_
  intro p e s m args below meth c s₁ B hml hv
  obtain ⟨rfl, hP, hK⟩ := hv
  have hx := B.exec
  have hb := B.bytes
  have hr := B.returns
  have hts := atoms_spec (ws := Cond.code yX1_isThere cX1_isThere 3 (some .boolean) :: wsL_law) B.pre
  have htw : ∀ w ∈ wsL_law, w.before _ s = true := fun w h => hts w (List.mem_cons_of_mem _ h)
  have hown : s.vm.findClass RX1 = some m.cls := findClass_of_methodNamed B.named
  have hlocks := B.notSynchronized
  have hl := lv_entry ([.ref la, .long a0]) (n := 3) (Nat.le_of_ble_eq_true rfl)
  rw [lg_entry_eq]
  generalize (lg_sl ([.ref la, .long a0]) ++ List.replicate (3 - (lg_sl ([.ref la, .long a0])).length) Slot.unset).toArray = ls at hl ⊢
  have hl : lv_has ls 3 [(0, .ref la), (1, .long a0)] := hl
  refine lv_lload_n hx hb dX1_isThere_0 rfl (lv_at hl 1 rfl) ?_
  refine lv_lconst (v := 1) hx hb dX1_isThere_1 (by decide) ?_
  refine W.lcmp hx hb dX1_isThere_2 ?_
  refine lv_if_lt (tgt := 20) hx hb dX1_isThere_3 (by decide) (fun c_1 => ?_) (fun c_1 => ?_)
  · refine lv_iconst (v := 0) hx hb dX1_isThere_20 (by decide) ?_
    exact W.zret (v := 0) hx hb hr (by first | rfl | decide) (fun t ht hW => ⟨0, rfl, (by rw [fl_isThere]; (try rw [if_pos c_1]); try rfl), ht⟩) (fun _ h => by cases h) dX1_isThere_21
  · refine lv_aload_n hx hb dX1_isThere_6 rfl (lv_at hl 0 rfl) ?_
    refine lv_lload_n hx hb dX1_isThere_7 rfl (lv_at hl 1 rfl) ?_
    have hPc := hP.sub (ws' := [(eO1a la fi gr fr)]) [0] rfl
    have hKc := hK.sub (tys' := []) [] rfl
    refine vp_callSl (W.runV (As := [.long a0]) (rest := []) ⟨hx, hb, hml, hown, htw⟩ (gl_lengthOf l dC dI la fi gr fr a0) (cwV 1 htw (xg_V (ck_21 _ (List.mem_of_getElem? (i := 9) rfl)) (ck_21 _ (List.mem_of_getElem? (i := 10) rfl)) (ck_21 _ (List.mem_of_getElem? (i := 11) rfl)) (ck_6 _ (List.mem_of_getElem? (i := 19) rfl)) (ck_21 _ (List.mem_of_getElem? (i := 12) rfl))) rfl rfl rfl (by exact ⟨rfl, hdc_0.1, hdc_0.2, hdd_0⟩) ⟨Nat.le_of_ble_eq_true rfl, Nat.le_of_ble_eq_true rfl⟩) ⟨fun a U g mk q => by obtain ⟨q0, qP, qK⟩ := q; exact ⟨q0, qP, va_K.moved (u := U) (U := U.calling g mk a) (Vm.Alike.refl U.vm) qK⟩, va_recv hKc hPc (ci := 1) (q0 := 0) rfl rfl, fun U hU hW => ⟨rfl, by rw [hU]; exact hPc, va_K.moved hW.alike hKc⟩⟩ rfl rfl hl.1 rfl (lv_room (Nat.le_of_ble_eq_true rfl)) dX1_isThere_8 ⟨Nat.le_of_ble_eq_true rfl, Nat.le_of_ble_eq_true rfl⟩) (fun r_2 hw => ?_)
    try dsimp only at hw
    have hq_r_2 : r_2 = fl_lengthOf fi gr fr a0 := hw
    refine lv_lconst (v := 1) hx hb dX1_isThere_11 (by decide) ?_
    refine W.lcmp hx hb dX1_isThere_12 ?_
    refine lv_if_lt (tgt := 20) hx hb dX1_isThere_13 (by decide) (fun c_3 => ?_) (fun c_3 => ?_)
    · refine lv_iconst (v := 0) hx hb dX1_isThere_20 (by decide) ?_
      exact W.zret (v := 0) hx hb hr (by first | rfl | decide) (fun t ht hW => ⟨0, rfl, (by rw [fl_isThere]; (try rw [← hq_r_2]); (try rw [if_neg c_1]); (try rw [if_pos c_3]); try rfl), ht⟩) (fun _ h => by cases h) dX1_isThere_21
    · refine lv_iconst (v := 1) hx hb dX1_isThere_16 (by decide) ?_
      refine lv_goto (tgt := 21) hx hb dX1_isThere_17 (by decide) ?_
      exact W.zret (v := 1) hx hb hr (by first | rfl | decide) (fun t ht hW => ⟨1, rfl, (by rw [fl_isThere]; (try rw [← hq_r_2]); (try rw [if_neg c_1]); (try rw [if_neg c_3]); try rfl), ht⟩) (fun _ h => by cases h) dX1_isThere_21

def fl_canBeAsked (fi : Int32) (gr : Int32) (fr : Int32) (a0 : Int64) : Int32 := (if 0 < lg_cmp a0 1000000000 then (0 : Int32) else (if (fl_isThere fi gr fr a0) = 0 then (0 : Int32) else (1 : Int32)))
theorem dX1_canBeAsked_0 : decode cX1_canBeAsked 0 = .ok (.lload_n 1, 1) := zk_31 (by decide +kernel)
theorem dX1_canBeAsked_1 : decode cX1_canBeAsked 1 = .ok (.ldc2_w 19, 3) := zk_20 (by decide +kernel)
theorem dX1_canBeAsked_4 : decode cX1_canBeAsked 4 = .ok (.lcmp, 1) := zk_148 (by decide +kernel)
theorem dX1_canBeAsked_5 : decode cX1_canBeAsked 5 = .ok (.ifCond .gt 15, 3) := zk_157 (by decide +kernel)
theorem dX1_canBeAsked_20 : decode cX1_canBeAsked 20 = .ok (.iconst 0, 1) := zk_3 (by decide +kernel)
theorem dX1_canBeAsked_21 : decode cX1_canBeAsked 21 = .ok (.ireturn, 1) := zk_172 (by decide +kernel)
theorem dX1_canBeAsked_8 : decode cX1_canBeAsked 8 = .ok (.aload_n 0, 1) := zk_42 (by decide +kernel)
theorem dX1_canBeAsked_9 : decode cX1_canBeAsked 9 = .ok (.lload_n 1, 1) := zk_31 (by decide +kernel)
theorem dX1_canBeAsked_10 : decode cX1_canBeAsked 10 = .ok (.invokevirtual 21, 3) := zk_182 (by decide +kernel)
theorem dX1_canBeAsked_13 : decode cX1_canBeAsked 13 = .ok (.ifCond .eq 7, 3) := zk_153 (by decide +kernel)
theorem dX1_canBeAsked_16 : decode cX1_canBeAsked 16 = .ok (.iconst 1, 1) := zk_4 (by decide +kernel)
theorem dX1_canBeAsked_17 : decode cX1_canBeAsked 17 = .ok (.goto 4, 3) := zk_167 (by decide +kernel)
set_option maxHeartbeats 4000000 in
set_option maxRecDepth 100000 in
theorem gl_canBeAsked (l : Launch) (dC : Nat → ClassId) (dI : Nat → Nat → Nat) (la : Nat) (fi : Int32) (gr : Int32) (fr : Int32) (a0 : Int64) : Met l yX1_canBeAsked (Cond.code yX1_canBeAsked cX1_canBeAsked 3 (some .boolean) :: wsL_law) ({ frames := 2, cells := 0, slots := 0, locals := 44 }) (va_Pc [.ref la, .long a0] (fun U => va_P (dC, dI) vwCl [(eO1a la fi gr fr)] U.heap ∧ va_K (dC, dI) vwCl [] U)) (vp_Si (fun r => r = fl_canBeAsked fi gr fr a0)) 0 0 (fun _ => False) := by
  refine Met.ofW (cc := cX1_canBeAsked) (maxL := 3) (ret := (some .boolean)) (by decide) rfl ?_
  intro p e s m args below meth c s₁ B hml hv
  obtain ⟨rfl, hP, hK⟩ := hv
  have hx := B.exec
  have hb := B.bytes
  have hr := B.returns
  have hts := atoms_spec (ws := Cond.code yX1_canBeAsked cX1_canBeAsked 3 (some .boolean) :: wsL_law) B.pre
  have htw : ∀ w ∈ wsL_law, w.before _ s = true := fun w h => hts w (List.mem_cons_of_mem _ h)
  have hown : s.vm.findClass RX1 = some m.cls := findClass_of_methodNamed B.named
  have hlocks := B.notSynchronized
  have hl := lv_entry ([.ref la, .long a0]) (n := 3) (Nat.le_of_ble_eq_true rfl)
  rw [lg_entry_eq]
  generalize (lg_sl ([.ref la, .long a0]) ++ List.replicate (3 - (lg_sl ([.ref la, .long a0])).length) Slot.unset).toArray = ls at hl ⊢
  have hl : lv_has ls 3 [(0, .ref la), (1, .long a0)] := hl
  refine lv_lload_n hx hb dX1_canBeAsked_0 rfl (lv_at hl 1 rfl) ?_
  refine lv_ldc2 (v := 1000000000) hx hb hown (htw _ (ck_34 _ (List.mem_of_getElem? (i := 19) rfl))) dX1_canBeAsked_1 ?_
  refine W.lcmp hx hb dX1_canBeAsked_4 ?_
  refine lv_if_gt (tgt := 20) hx hb dX1_canBeAsked_5 (by decide) (fun c_1 => ?_) (fun c_1 => ?_)
  · refine lv_iconst (v := 0) hx hb dX1_canBeAsked_20 (by decide) ?_
    exact W.zret (v := 0) hx hb hr (by first | rfl | decide) (fun t ht hW => ⟨0, rfl, (by rw [fl_canBeAsked]; (try rw [if_pos c_1]); try rfl), ht⟩) (fun _ h => by cases h) dX1_canBeAsked_21
  · refine lv_aload_n hx hb dX1_canBeAsked_8 rfl (lv_at hl 0 rfl) ?_
    refine lv_lload_n hx hb dX1_canBeAsked_9 rfl (lv_at hl 1 rfl) ?_
    have hPc := hP.sub (ws' := [(eO1a la fi gr fr)]) [0] rfl
    have hKc := hK.sub (tys' := []) [] rfl
    refine vp_callSi (W.runV (As := [.long a0]) (rest := []) ⟨hx, hb, hml, hown, htw⟩ (gl_isThere l dC dI la fi gr fr a0) (cwV 1 htw (xg_V (ck_34 _ (List.mem_of_getElem? (i := 20) rfl)) (ck_21 _ (List.mem_of_getElem? (i := 6) rfl)) (ck_21 _ (List.mem_of_getElem? (i := 7) rfl)) (ck_6 _ (List.mem_of_getElem? (i := 19) rfl)) (ck_21 _ (List.mem_of_getElem? (i := 8) rfl))) rfl rfl rfl (by exact ⟨rfl, hdc_0.1, hdc_0.2, hdd_1⟩) ⟨Nat.le_of_ble_eq_true rfl, Nat.le_of_ble_eq_true rfl⟩) ⟨fun a U g mk q => by obtain ⟨q0, qP, qK⟩ := q; exact ⟨q0, qP, va_K.moved (u := U) (U := U.calling g mk a) (Vm.Alike.refl U.vm) qK⟩, va_recv hKc hPc (ci := 1) (q0 := 0) rfl rfl, fun U hU hW => ⟨rfl, by rw [hU]; exact hPc, va_K.moved hW.alike hKc⟩⟩ rfl rfl hl.1 rfl (lv_room (Nat.le_of_ble_eq_true rfl)) dX1_canBeAsked_10 ⟨Nat.le_of_ble_eq_true rfl, Nat.le_of_ble_eq_true rfl⟩) (fun r_2 hw => ?_)
    try dsimp only at hw
    have hq_r_2 : r_2 = fl_isThere fi gr fr a0 := hw
    refine lv_if_eq (tgt := 20) hx hb dX1_canBeAsked_13 (by decide) (fun c_3 => ?_) (fun c_3 => ?_)
    · refine lv_iconst (v := 0) hx hb dX1_canBeAsked_20 (by decide) ?_
      exact W.zret (v := 0) hx hb hr (by first | rfl | decide) (fun t ht hW => ⟨0, rfl, (by rw [fl_canBeAsked]; (try rw [← hq_r_2]); (try rw [if_neg c_1]); (try rw [if_pos c_3]); try rfl), ht⟩) (fun _ h => by cases h) dX1_canBeAsked_21
    · refine lv_iconst (v := 1) hx hb dX1_canBeAsked_16 (by decide) ?_
      refine lv_goto (tgt := 21) hx hb dX1_canBeAsked_17 (by decide) ?_
      exact W.zret (v := 1) hx hb hr (by first | rfl | decide) (fun t ht hW => ⟨1, rfl, (by rw [fl_canBeAsked]; (try rw [← hq_r_2]); (try rw [if_neg c_1]); (try rw [if_neg c_3]); try rfl), ht⟩) (fun _ h => by cases h) dX1_canBeAsked_21

def fl_beginOf (fi : Int32) (gr : Int32) (fr : Int32) (a0 : Int64) : Int64 := (if gr = 0 then (fr.toInt64 + ((a0 - 1) * fi.toInt64)) else (if lg_cmp (a0 - 1) 1500000 ≤ 0 then ((fr.toInt64 + ((a0 - 1) * fi.toInt64)) + (gr.toInt64 * (((a0 - 1) * ((a0 - 1) - 1)) / 2))) else (4000000000000 : Int64)))
theorem dX1_beginOf_0 : decode cX1_beginOf 0 = .ok (.lload_n 1, 1) := zk_31 (by decide +kernel)
theorem dX1_beginOf_1 : decode cX1_beginOf 1 = .ok (.lconst 1, 1) := zk_10 (by decide +kernel)
theorem dX1_beginOf_2 : decode cX1_beginOf 2 = .ok (.lsub, 1) := zk_101 (by decide +kernel)
theorem dX1_beginOf_3 : decode cX1_beginOf 3 = .ok (.lstore_n 3, 1) := zk_66 (by decide +kernel)
theorem dX1_beginOf_4 : decode cX1_beginOf 4 = .ok (.aload_n 0, 1) := zk_42 (by decide +kernel)
theorem dX1_beginOf_5 : decode cX1_beginOf 5 = .ok (.getfield 25, 3) := zk_180 (by decide +kernel)
theorem dX1_beginOf_8 : decode cX1_beginOf 8 = .ok (.ifCond .ne 17, 3) := zk_154 (by decide +kernel)
theorem dX1_beginOf_25 : decode cX1_beginOf 25 = .ok (.lload_n 3, 1) := zk_33 (by decide +kernel)
theorem dX1_beginOf_26 : decode cX1_beginOf 26 = .ok (.ldc2_w 31, 3) := zk_20 (by decide +kernel)
theorem dX1_beginOf_29 : decode cX1_beginOf 29 = .ok (.lcmp, 1) := zk_148 (by decide +kernel)
theorem dX1_beginOf_30 : decode cX1_beginOf 30 = .ok (.ifCond .le 7, 3) := zk_158 (by decide +kernel)
theorem dX1_beginOf_37 : decode cX1_beginOf 37 = .ok (.aload_n 0, 1) := zk_42 (by decide +kernel)
theorem dX1_beginOf_38 : decode cX1_beginOf 38 = .ok (.getfield 28, 3) := zk_180 (by decide +kernel)
theorem dX1_beginOf_41 : decode cX1_beginOf 41 = .ok (.i2l, 1) := zk_133 (by decide +kernel)
theorem dX1_beginOf_42 : decode cX1_beginOf 42 = .ok (.lload_n 3, 1) := zk_33 (by decide +kernel)
theorem dX1_beginOf_43 : decode cX1_beginOf 43 = .ok (.aload_n 0, 1) := zk_42 (by decide +kernel)
theorem dX1_beginOf_44 : decode cX1_beginOf 44 = .ok (.getfield 9, 3) := zk_180 (by decide +kernel)
theorem dX1_beginOf_47 : decode cX1_beginOf 47 = .ok (.i2l, 1) := zk_133 (by decide +kernel)
theorem dX1_beginOf_48 : decode cX1_beginOf 48 = .ok (.lmul, 1) := zk_105 (by decide +kernel)
theorem dX1_beginOf_49 : decode cX1_beginOf 49 = .ok (.ladd, 1) := zk_97 (by decide +kernel)
theorem dX1_beginOf_50 : decode cX1_beginOf 50 = .ok (.aload_n 0, 1) := zk_42 (by decide +kernel)
theorem dX1_beginOf_51 : decode cX1_beginOf 51 = .ok (.getfield 25, 3) := zk_180 (by decide +kernel)
theorem dX1_beginOf_54 : decode cX1_beginOf 54 = .ok (.i2l, 1) := zk_133 (by decide +kernel)
theorem dX1_beginOf_55 : decode cX1_beginOf 55 = .ok (.lload_n 3, 1) := zk_33 (by decide +kernel)
theorem dX1_beginOf_56 : decode cX1_beginOf 56 = .ok (.lload_n 3, 1) := zk_33 (by decide +kernel)
theorem dX1_beginOf_57 : decode cX1_beginOf 57 = .ok (.lconst 1, 1) := zk_10 (by decide +kernel)
theorem dX1_beginOf_58 : decode cX1_beginOf 58 = .ok (.lsub, 1) := zk_101 (by decide +kernel)
theorem dX1_beginOf_59 : decode cX1_beginOf 59 = .ok (.lmul, 1) := zk_105 (by decide +kernel)
theorem dX1_beginOf_60 : decode cX1_beginOf 60 = .ok (.ldc2_w 35, 3) := zk_20 (by decide +kernel)
theorem dX1_beginOf_63 : decode cX1_beginOf 63 = .ok (.ldiv, 1) := zk_109 (by decide +kernel)
theorem dX1_beginOf_64 : decode cX1_beginOf 64 = .ok (.lmul, 1) := zk_105 (by decide +kernel)
theorem dX1_beginOf_65 : decode cX1_beginOf 65 = .ok (.ladd, 1) := zk_97 (by decide +kernel)
theorem dX1_beginOf_66 : decode cX1_beginOf 66 = .ok (.lreturn, 1) := zk_173 (by decide +kernel)
theorem dX1_beginOf_33 : decode cX1_beginOf 33 = .ok (.ldc2_w 33, 3) := zk_20 (by decide +kernel)
theorem dX1_beginOf_36 : decode cX1_beginOf 36 = .ok (.lreturn, 1) := zk_173 (by decide +kernel)
theorem dX1_beginOf_11 : decode cX1_beginOf 11 = .ok (.aload_n 0, 1) := zk_42 (by decide +kernel)
theorem dX1_beginOf_12 : decode cX1_beginOf 12 = .ok (.getfield 28, 3) := zk_180 (by decide +kernel)
theorem dX1_beginOf_15 : decode cX1_beginOf 15 = .ok (.i2l, 1) := zk_133 (by decide +kernel)
theorem dX1_beginOf_16 : decode cX1_beginOf 16 = .ok (.lload_n 3, 1) := zk_33 (by decide +kernel)
theorem dX1_beginOf_17 : decode cX1_beginOf 17 = .ok (.aload_n 0, 1) := zk_42 (by decide +kernel)
theorem dX1_beginOf_18 : decode cX1_beginOf 18 = .ok (.getfield 9, 3) := zk_180 (by decide +kernel)
theorem dX1_beginOf_21 : decode cX1_beginOf 21 = .ok (.i2l, 1) := zk_133 (by decide +kernel)
theorem dX1_beginOf_22 : decode cX1_beginOf 22 = .ok (.lmul, 1) := zk_105 (by decide +kernel)
theorem dX1_beginOf_23 : decode cX1_beginOf 23 = .ok (.ladd, 1) := zk_97 (by decide +kernel)
theorem dX1_beginOf_24 : decode cX1_beginOf 24 = .ok (.lreturn, 1) := zk_173 (by decide +kernel)
set_option maxHeartbeats 4000000 in
set_option maxRecDepth 100000 in
theorem gl_beginOf (l : Launch) (dC : Nat → ClassId) (dI : Nat → Nat → Nat) (la : Nat) (fi : Int32) (gr : Int32) (fr : Int32) (a0 : Int64) : Met l yX1_beginOf (Cond.code yX1_beginOf cX1_beginOf 5 (some .long) :: wsL_law) ({ frames := 0, cells := 0, slots := 0, locals := 0 }) (va_Pc [.ref la, .long a0] (fun U => va_P (dC, dI) vwCl [(eO1a la fi gr fr)] U.heap ∧ va_K (dC, dI) vwCl [] U)) (vp_Sl (fun r => r = fl_beginOf fi gr fr a0)) 0 0 (fun _ => False) := by
  refine Met.ofW (cc := cX1_beginOf) (maxL := 5) (ret := (some .long)) (by decide) rfl ?_
  intro p e s m args below meth c s₁ B hml hv
  obtain ⟨rfl, hP, hK⟩ := hv
  have hx := B.exec
  have hb := B.bytes
  have hr := B.returns
  have hts := atoms_spec (ws := Cond.code yX1_beginOf cX1_beginOf 5 (some .long) :: wsL_law) B.pre
  have htw : ∀ w ∈ wsL_law, w.before _ s = true := fun w h => hts w (List.mem_cons_of_mem _ h)
  have hown : s.vm.findClass RX1 = some m.cls := findClass_of_methodNamed B.named
  have hlocks := B.notSynchronized
  have hl := lv_entry ([.ref la, .long a0]) (n := 5) (Nat.le_of_ble_eq_true rfl)
  rw [lg_entry_eq]
  generalize (lg_sl ([.ref la, .long a0]) ++ List.replicate (5 - (lg_sl ([.ref la, .long a0])).length) Slot.unset).toArray = ls at hl ⊢
  have hl : lv_has ls 5 [(0, .ref la), (1, .long a0)] := hl
  refine lv_lload_n hx hb dX1_beginOf_0 rfl (lv_at hl 1 rfl) ?_
  refine lv_lconst (v := 1) hx hb dX1_beginOf_1 (by decide) ?_
  refine lv_lsub hx hb dX1_beginOf_2 ?_
  refine lv_lstore_n (lv' := [(3, .long (a0 - 1)), (0, .ref la), (1, .long a0)]) hx hb dX1_beginOf_3 rfl hl (by decide) rfl (fun ls hl => ?_)
  refine lv_aload_n hx hb dX1_beginOf_4 rfl (lv_at hl 1 rfl) ?_
  refine va_get (D := (dC, dI)) (ci := 1) (v := .int gr) (C := RX1) (T := TX1) (N := 3) hx hb htw inlX1 hown hK hP 0 rfl rfl 1 (by decide) (htw _ (ck_21 _ (List.mem_of_getElem? (i := 13) rfl))) (fun _ h9 => h9) rfl dX1_beginOf_5 ?_
  refine lv_if_ne (tgt := 25) hx hb dX1_beginOf_8 (by decide) (fun c_1 => ?_) (fun c_1 => ?_)
  · refine lv_lload_n hx hb dX1_beginOf_25 rfl (lv_at hl 0 rfl) ?_
    refine lv_ldc2 (v := 1500000) hx hb hown (htw _ (ck_22 _ (List.mem_of_getElem? (i := 1) rfl))) dX1_beginOf_26 ?_
    refine W.lcmp hx hb dX1_beginOf_29 ?_
    refine lv_if_le (tgt := 37) hx hb dX1_beginOf_30 (by decide) (fun c_2 => ?_) (fun c_2 => ?_)
    · refine lv_aload_n hx hb dX1_beginOf_37 rfl (lv_at hl 1 rfl) ?_
      refine va_get (D := (dC, dI)) (ci := 1) (v := .int fr) (C := RX1) (T := TX1) (N := 3) hx hb htw inlX1 hown hK hP 0 rfl rfl 2 (by decide) (htw _ (ck_22 _ (List.mem_of_getElem? (i := 0) rfl))) (fun _ h9 => h9) rfl dX1_beginOf_38 ?_
      refine lv_i2l (v := fr.toInt64) hx hb dX1_beginOf_41 rfl ?_
      refine lv_lload_n hx hb dX1_beginOf_42 rfl (lv_at hl 0 rfl) ?_
      refine lv_aload_n hx hb dX1_beginOf_43 rfl (lv_at hl 1 rfl) ?_
      refine va_get (D := (dC, dI)) (ci := 1) (v := .int fi) (C := RX1) (T := TX1) (N := 3) hx hb htw inlX1 hown hK hP 0 rfl rfl 0 (by decide) (htw _ (ck_7 _ (List.mem_of_getElem? (i := 14) rfl))) (fun _ h9 => h9) rfl dX1_beginOf_44 ?_
      refine lv_i2l (v := fi.toInt64) hx hb dX1_beginOf_47 rfl ?_
      refine lv_lmul hx hb dX1_beginOf_48 ?_
      refine lv_ladd hx hb dX1_beginOf_49 ?_
      refine lv_aload_n hx hb dX1_beginOf_50 rfl (lv_at hl 1 rfl) ?_
      refine va_get (D := (dC, dI)) (ci := 1) (v := .int gr) (C := RX1) (T := TX1) (N := 3) hx hb htw inlX1 hown hK hP 0 rfl rfl 1 (by decide) (htw _ (ck_21 _ (List.mem_of_getElem? (i := 13) rfl))) (fun _ h9 => h9) rfl dX1_beginOf_51 ?_
      refine lv_i2l (v := gr.toInt64) hx hb dX1_beginOf_54 rfl ?_
      refine lv_lload_n hx hb dX1_beginOf_55 rfl (lv_at hl 0 rfl) ?_
      refine lv_lload_n hx hb dX1_beginOf_56 rfl (lv_at hl 0 rfl) ?_
      refine lv_lconst (v := 1) hx hb dX1_beginOf_57 (by decide) ?_
      refine lv_lsub hx hb dX1_beginOf_58 ?_
      refine lv_lmul hx hb dX1_beginOf_59 ?_
      refine lv_ldc2 (v := 2) hx hb hown (htw _ (ck_22 _ (List.mem_of_getElem? (i := 3) rfl))) dX1_beginOf_60 ?_
      refine lv_ldiv hx hb dX1_beginOf_63 (by decide) ?_
      refine lv_lmul hx hb dX1_beginOf_64 ?_
      refine lv_ladd hx hb dX1_beginOf_65 ?_
      exact W.lret (v := ((fr.toInt64 + ((a0 - 1) * fi.toInt64)) + (gr.toInt64 * (((a0 - 1) * ((a0 - 1) - 1)) / 2)))) hx hb hr (fun t ht hW => ⟨((fr.toInt64 + ((a0 - 1) * fi.toInt64)) + (gr.toInt64 * (((a0 - 1) * ((a0 - 1) - 1)) / 2))), rfl, (by rw [fl_beginOf]; (try rw [if_neg c_1]); (try rw [if_pos c_2]); try rfl), ht⟩) (fun _ h => by cases h) dX1_beginOf_66
    · refine lv_ldc2 (v := 4000000000000) hx hb hown (htw _ (ck_22 _ (List.mem_of_getElem? (i := 2) rfl))) dX1_beginOf_33 ?_
      exact W.lret (v := 4000000000000) hx hb hr (fun t ht hW => ⟨4000000000000, rfl, (by rw [fl_beginOf]; (try rw [if_neg c_1]); (try rw [if_neg c_2]); try rfl), ht⟩) (fun _ h => by cases h) dX1_beginOf_36
  · refine lv_aload_n hx hb dX1_beginOf_11 rfl (lv_at hl 1 rfl) ?_
    refine va_get (D := (dC, dI)) (ci := 1) (v := .int fr) (C := RX1) (T := TX1) (N := 3) hx hb htw inlX1 hown hK hP 0 rfl rfl 2 (by decide) (htw _ (ck_22 _ (List.mem_of_getElem? (i := 0) rfl))) (fun _ h9 => h9) rfl dX1_beginOf_12 ?_
    refine lv_i2l (v := fr.toInt64) hx hb dX1_beginOf_15 rfl ?_
    refine lv_lload_n hx hb dX1_beginOf_16 rfl (lv_at hl 0 rfl) ?_
    refine lv_aload_n hx hb dX1_beginOf_17 rfl (lv_at hl 1 rfl) ?_
    refine va_get (D := (dC, dI)) (ci := 1) (v := .int fi) (C := RX1) (T := TX1) (N := 3) hx hb htw inlX1 hown hK hP 0 rfl rfl 0 (by decide) (htw _ (ck_7 _ (List.mem_of_getElem? (i := 14) rfl))) (fun _ h9 => h9) rfl dX1_beginOf_18 ?_
    refine lv_i2l (v := fi.toInt64) hx hb dX1_beginOf_21 rfl ?_
    refine lv_lmul hx hb dX1_beginOf_22 ?_
    refine lv_ladd hx hb dX1_beginOf_23 ?_
    exact W.lret (v := (fr.toInt64 + ((a0 - 1) * fi.toInt64))) hx hb hr (fun t ht hW => ⟨(fr.toInt64 + ((a0 - 1) * fi.toInt64)), rfl, (by rw [fl_beginOf]; (try rw [if_pos c_1]); try rfl), ht⟩) (fun _ h => by cases h) dX1_beginOf_24

def fl_countOf (fi : Int32) (gr : Int32) (fr : Int32) (a0 : Int64) (a1 : Int64) : Int64 := (if lg_cmp a1 1 < 0 then (-1 : Int64) else (if lg_cmp a1 (fl_lengthOf fi gr fr a0) ≤ 0 then (if lg_cmp (((fl_beginOf fi gr fr a0) + a1) - 1) 1000000000000 ≤ 0 then (((fl_beginOf fi gr fr a0) + a1) - 1) else (-1 : Int64)) else (-1 : Int64)))
theorem dX1_countOf_0 : decode cX1_countOf 0 = .ok (.lload_n 3, 1) := zk_33 (by decide +kernel)
theorem dX1_countOf_1 : decode cX1_countOf 1 = .ok (.lconst 1, 1) := zk_10 (by decide +kernel)
theorem dX1_countOf_2 : decode cX1_countOf 2 = .ok (.lcmp, 1) := zk_148 (by decide +kernel)
theorem dX1_countOf_3 : decode cX1_countOf 3 = .ok (.ifCond .lt 13, 3) := zk_155 (by decide +kernel)
theorem dX1_countOf_16 : decode cX1_countOf 16 = .ok (.ldc2_w 48, 3) := zk_20 (by decide +kernel)
theorem dX1_countOf_19 : decode cX1_countOf 19 = .ok (.lreturn, 1) := zk_173 (by decide +kernel)
theorem dX1_countOf_6 : decode cX1_countOf 6 = .ok (.lload_n 3, 1) := zk_33 (by decide +kernel)
theorem dX1_countOf_7 : decode cX1_countOf 7 = .ok (.aload_n 0, 1) := zk_42 (by decide +kernel)
theorem dX1_countOf_8 : decode cX1_countOf 8 = .ok (.lload_n 1, 1) := zk_31 (by decide +kernel)
theorem dX1_countOf_9 : decode cX1_countOf 9 = .ok (.invokevirtual 15, 3) := zk_182 (by decide +kernel)
theorem dX1_countOf_12 : decode cX1_countOf 12 = .ok (.lcmp, 1) := zk_148 (by decide +kernel)
theorem dX1_countOf_13 : decode cX1_countOf 13 = .ok (.ifCond .le 7, 3) := zk_158 (by decide +kernel)
theorem dX1_countOf_20 : decode cX1_countOf 20 = .ok (.aload_n 0, 1) := zk_42 (by decide +kernel)
theorem dX1_countOf_21 : decode cX1_countOf 21 = .ok (.lload_n 1, 1) := zk_31 (by decide +kernel)
theorem dX1_countOf_22 : decode cX1_countOf 22 = .ok (.invokevirtual 45, 3) := zk_182 (by decide +kernel)
theorem dX1_countOf_25 : decode cX1_countOf 25 = .ok (.lload_n 3, 1) := zk_33 (by decide +kernel)
theorem dX1_countOf_26 : decode cX1_countOf 26 = .ok (.ladd, 1) := zk_97 (by decide +kernel)
theorem dX1_countOf_27 : decode cX1_countOf 27 = .ok (.lconst 1, 1) := zk_10 (by decide +kernel)
theorem dX1_countOf_28 : decode cX1_countOf 28 = .ok (.lsub, 1) := zk_101 (by decide +kernel)
theorem dX1_countOf_29 : decode cX1_countOf 29 = .ok (.lstore 5, 2) := zk_55 (by decide +kernel)
theorem dX1_countOf_31 : decode cX1_countOf 31 = .ok (.lload 5, 2) := zk_22 (by decide +kernel)
theorem dX1_countOf_33 : decode cX1_countOf 33 = .ok (.ldc2_w 50, 3) := zk_20 (by decide +kernel)
theorem dX1_countOf_36 : decode cX1_countOf 36 = .ok (.lcmp, 1) := zk_148 (by decide +kernel)
theorem dX1_countOf_37 : decode cX1_countOf 37 = .ok (.ifCond .le 9, 3) := zk_158 (by decide +kernel)
theorem dX1_countOf_46 : decode cX1_countOf 46 = .ok (.lload 5, 2) := zk_22 (by decide +kernel)
theorem dX1_countOf_48 : decode cX1_countOf 48 = .ok (.lreturn, 1) := zk_173 (by decide +kernel)
theorem dX1_countOf_40 : decode cX1_countOf 40 = .ok (.ldc2_w 48, 3) := zk_20 (by decide +kernel)
theorem dX1_countOf_43 : decode cX1_countOf 43 = .ok (.goto 5, 3) := zk_167 (by decide +kernel)
set_option maxHeartbeats 4000000 in
set_option maxRecDepth 100000 in
theorem gl_countOf (l : Launch) (dC : Nat → ClassId) (dI : Nat → Nat → Nat) (la : Nat) (fi : Int32) (gr : Int32) (fr : Int32) (a0 : Int64) (a1 : Int64) : Met l yX1_countOf (Cond.code yX1_countOf cX1_countOf 7 (some .long) :: wsL_law) ({ frames := 1, cells := 0, slots := 0, locals := 24 }) (va_Pc [.ref la, .long a0, .long a1] (fun U => va_P (dC, dI) vwCl [(eO1a la fi gr fr)] U.heap ∧ va_K (dC, dI) vwCl [] U)) (vp_Sl (fun r => r = fl_countOf fi gr fr a0 a1)) 0 0 (fun _ => False) := by
  refine Met.ofW (cc := cX1_countOf) (maxL := 7) (ret := (some .long)) (by decide) rfl ?_
  intro p e s m args below meth c s₁ B hml hv
  obtain ⟨rfl, hP, hK⟩ := hv
  have hx := B.exec
  have hb := B.bytes
  have hr := B.returns
  have hts := atoms_spec (ws := Cond.code yX1_countOf cX1_countOf 7 (some .long) :: wsL_law) B.pre
  have htw : ∀ w ∈ wsL_law, w.before _ s = true := fun w h => hts w (List.mem_cons_of_mem _ h)
  have hown : s.vm.findClass RX1 = some m.cls := findClass_of_methodNamed B.named
  have hlocks := B.notSynchronized
  have hl := lv_entry ([.ref la, .long a0, .long a1]) (n := 7) (Nat.le_of_ble_eq_true rfl)
  rw [lg_entry_eq]
  generalize (lg_sl ([.ref la, .long a0, .long a1]) ++ List.replicate (7 - (lg_sl ([.ref la, .long a0, .long a1])).length) Slot.unset).toArray = ls at hl ⊢
  have hl : lv_has ls 7 [(0, .ref la), (1, .long a0), (3, .long a1)] := hl
  refine lv_lload_n hx hb dX1_countOf_0 rfl (lv_at hl 2 rfl) ?_
  refine lv_lconst (v := 1) hx hb dX1_countOf_1 (by decide) ?_
  refine W.lcmp hx hb dX1_countOf_2 ?_
  refine lv_if_lt (tgt := 16) hx hb dX1_countOf_3 (by decide) (fun c_1 => ?_) (fun c_1 => ?_)
  · refine lv_ldc2 (v := (-1)) hx hb hown (htw _ (ck_21 _ (List.mem_of_getElem? (i := 18) rfl))) dX1_countOf_16 ?_
    exact W.lret (v := (-1)) hx hb hr (fun t ht hW => ⟨(-1), rfl, (by rw [fl_countOf]; (try rw [if_pos c_1]); try rfl), ht⟩) (fun _ h => by cases h) dX1_countOf_19
  · refine lv_lload_n hx hb dX1_countOf_6 rfl (lv_at hl 2 rfl) ?_
    refine lv_aload_n hx hb dX1_countOf_7 rfl (lv_at hl 0 rfl) ?_
    refine lv_lload_n hx hb dX1_countOf_8 rfl (lv_at hl 1 rfl) ?_
    have hPc := hP.sub (ws' := [(eO1a la fi gr fr)]) [0] rfl
    have hKc := hK.sub (tys' := []) [] rfl
    refine vp_callSl (W.runV (As := [.long a0]) (rest := [.long a1]) ⟨hx, hb, hml, hown, htw⟩ (gl_lengthOf l dC dI la fi gr fr a0) (cwV 1 htw (xg_V (ck_21 _ (List.mem_of_getElem? (i := 9) rfl)) (ck_21 _ (List.mem_of_getElem? (i := 10) rfl)) (ck_21 _ (List.mem_of_getElem? (i := 11) rfl)) (ck_6 _ (List.mem_of_getElem? (i := 19) rfl)) (ck_21 _ (List.mem_of_getElem? (i := 12) rfl))) rfl rfl rfl (by exact ⟨rfl, hdc_0.1, hdc_0.2, hdd_0⟩) ⟨Nat.le_of_ble_eq_true rfl, Nat.le_of_ble_eq_true rfl⟩) ⟨fun a U g mk q => by obtain ⟨q0, qP, qK⟩ := q; exact ⟨q0, qP, va_K.moved (u := U) (U := U.calling g mk a) (Vm.Alike.refl U.vm) qK⟩, va_recv hKc hPc (ci := 1) (q0 := 0) rfl rfl, fun U hU hW => ⟨rfl, by rw [hU]; exact hPc, va_K.moved hW.alike hKc⟩⟩ rfl rfl hl.1 rfl (lv_room (Nat.le_of_ble_eq_true rfl)) dX1_countOf_9 ⟨Nat.le_of_ble_eq_true rfl, Nat.le_of_ble_eq_true rfl⟩) (fun r_2 hw => ?_)
    try dsimp only at hw
    have hq_r_2 : r_2 = fl_lengthOf fi gr fr a0 := hw
    refine W.lcmp hx hb dX1_countOf_12 ?_
    refine lv_if_le (tgt := 20) hx hb dX1_countOf_13 (by decide) (fun c_3 => ?_) (fun c_3 => ?_)
    · refine lv_aload_n hx hb dX1_countOf_20 rfl (lv_at hl 0 rfl) ?_
      refine lv_lload_n hx hb dX1_countOf_21 rfl (lv_at hl 1 rfl) ?_
      have hPc := hP.sub (ws' := [(eO1a la fi gr fr)]) [0] rfl
      have hKc := hK.sub (tys' := []) [] rfl
      refine vp_callSl (W.runV (As := [.long a0]) (rest := []) ⟨hx, hb, hml, hown, htw⟩ (gl_beginOf l dC dI la fi gr fr a0) (cwV 1 htw (xg_V (ck_21 _ (List.mem_of_getElem? (i := 20) rfl)) (ck_21 _ (List.mem_of_getElem? (i := 21) rfl)) (ck_21 _ (List.mem_of_getElem? (i := 22) rfl)) (ck_6 _ (List.mem_of_getElem? (i := 19) rfl)) (ck_21 _ (List.mem_of_getElem? (i := 23) rfl))) rfl rfl rfl (by exact ⟨rfl, hdc_0.1, hdc_0.2, hdd_0⟩) ⟨Nat.le_of_ble_eq_true rfl, Nat.le_of_ble_eq_true rfl⟩) ⟨fun a U g mk q => by obtain ⟨q0, qP, qK⟩ := q; exact ⟨q0, qP, va_K.moved (u := U) (U := U.calling g mk a) (Vm.Alike.refl U.vm) qK⟩, va_recv hKc hPc (ci := 1) (q0 := 0) rfl rfl, fun U hU hW => ⟨rfl, by rw [hU]; exact hPc, va_K.moved hW.alike hKc⟩⟩ rfl rfl hl.1 rfl (lv_room (Nat.le_of_ble_eq_true rfl)) dX1_countOf_22 ⟨Nat.le_of_ble_eq_true rfl, Nat.le_of_ble_eq_true rfl⟩) (fun r_4 hw => ?_)
      try dsimp only at hw
      have hq_r_4 : r_4 = fl_beginOf fi gr fr a0 := hw
      refine lv_lload_n hx hb dX1_countOf_25 rfl (lv_at hl 2 rfl) ?_
      refine lv_ladd hx hb dX1_countOf_26 ?_
      refine lv_lconst (v := 1) hx hb dX1_countOf_27 (by decide) ?_
      refine lv_lsub hx hb dX1_countOf_28 ?_
      refine lv_lstore (lv' := [(5, .long ((r_4 + a1) - 1)), (0, .ref la), (1, .long a0), (3, .long a1)]) hx hb dX1_countOf_29 hl (by decide) rfl (fun ls hl => ?_)
      refine lv_lload hx hb dX1_countOf_31 (lv_at hl 0 rfl) ?_
      refine lv_ldc2 (v := 1000000000000) hx hb hown (htw _ (ck_21 _ (List.mem_of_getElem? (i := 19) rfl))) dX1_countOf_33 ?_
      refine W.lcmp hx hb dX1_countOf_36 ?_
      refine lv_if_le (tgt := 46) hx hb dX1_countOf_37 (by decide) (fun c_5 => ?_) (fun c_5 => ?_)
      · refine lv_lload hx hb dX1_countOf_46 (lv_at hl 0 rfl) ?_
        exact W.lret (v := ((r_4 + a1) - 1)) hx hb hr (fun t ht hW => ⟨((r_4 + a1) - 1), rfl, (by rw [fl_countOf]; (try rw [← hq_r_2]); (try rw [← hq_r_4]); (try rw [if_neg c_1]); (try rw [if_pos c_3]); (try rw [if_pos c_5]); try rfl), ht⟩) (fun _ h => by cases h) dX1_countOf_48
      · refine lv_ldc2 (v := (-1)) hx hb hown (htw _ (ck_21 _ (List.mem_of_getElem? (i := 18) rfl))) dX1_countOf_40 ?_
        refine lv_goto (tgt := 48) hx hb dX1_countOf_43 (by decide) ?_
        exact W.lret (v := (-1)) hx hb hr (fun t ht hW => ⟨(-1), rfl, (by rw [fl_countOf]; (try rw [← hq_r_2]); (try rw [← hq_r_4]); (try rw [if_neg c_1]); (try rw [if_pos c_3]); (try rw [if_neg c_5]); try rfl), ht⟩) (fun _ h => by cases h) dX1_countOf_48
    · refine lv_ldc2 (v := (-1)) hx hb hown (htw _ (ck_21 _ (List.mem_of_getElem? (i := 18) rfl))) dX1_countOf_16 ?_
      exact W.lret (v := (-1)) hx hb hr (fun t ht hW => ⟨(-1), rfl, (by rw [fl_countOf]; (try rw [← hq_r_2]); (try rw [if_neg c_1]); (try rw [if_neg c_3]); try rfl), ht⟩) (fun _ h => by cases h) dX1_countOf_19
