def fn_slotOf (a0 : Int32) (a1 : Int32) : Int32 := (if a0 < 0 then (-1 : Int32) else (if 12 ≤ a0 then (-1 : Int32) else (if a1 < 0 then (-1 : Int32) else (if 8 ≤ a1 then (-1 : Int32) else ((a0 * 8) + a1)))))
theorem dX6_slotOf_0 : decode cX6_slotOf 0 = .ok (.iload_n 0, 1) := zk_26 (by decide +kernel)
theorem dX6_slotOf_1 : decode cX6_slotOf 1 = .ok (.ifCond .lt 23, 3) := zk_155 (by decide +kernel)
theorem dX6_slotOf_24 : decode cX6_slotOf 24 = .ok (.iconst 0, 1) := zk_3 (by decide +kernel)
theorem dX6_slotOf_25 : decode cX6_slotOf 25 = .ok (.istore_n 2, 1) := zk_61 (by decide +kernel)
theorem dX6_slotOf_26 : decode cX6_slotOf 26 = .ok (.iload_n 2, 1) := zk_28 (by decide +kernel)
theorem dX6_slotOf_27 : decode cX6_slotOf 27 = .ok (.ifCond .eq 12, 3) := zk_153 (by decide +kernel)
theorem dX6_slotOf_39 : decode cX6_slotOf 39 = .ok (.iconst (-1), 1) := zk_2 (by decide +kernel)
theorem dX6_slotOf_40 : decode cX6_slotOf 40 = .ok (.ireturn, 1) := zk_172 (by decide +kernel)
theorem dX6_slotOf_4 : decode cX6_slotOf 4 = .ok (.iload_n 0, 1) := zk_26 (by decide +kernel)
theorem dX6_slotOf_5 : decode cX6_slotOf 5 = .ok (.bipush 12, 2) := zk_16 (by decide +kernel)
theorem dX6_slotOf_7 : decode cX6_slotOf 7 = .ok (.if_icmp .ge 17, 3) := zk_162 (by decide +kernel)
theorem dX6_slotOf_10 : decode cX6_slotOf 10 = .ok (.iload_n 1, 1) := zk_27 (by decide +kernel)
theorem dX6_slotOf_11 : decode cX6_slotOf 11 = .ok (.ifCond .lt 13, 3) := zk_155 (by decide +kernel)
theorem dX6_slotOf_14 : decode cX6_slotOf 14 = .ok (.iload_n 1, 1) := zk_27 (by decide +kernel)
theorem dX6_slotOf_15 : decode cX6_slotOf 15 = .ok (.bipush 8, 2) := zk_16 (by decide +kernel)
theorem dX6_slotOf_17 : decode cX6_slotOf 17 = .ok (.if_icmp .ge 7, 3) := zk_162 (by decide +kernel)
theorem dX6_slotOf_20 : decode cX6_slotOf 20 = .ok (.iconst 1, 1) := zk_4 (by decide +kernel)
theorem dX6_slotOf_21 : decode cX6_slotOf 21 = .ok (.goto 4, 3) := zk_167 (by decide +kernel)
theorem dX6_slotOf_30 : decode cX6_slotOf 30 = .ok (.iload_n 0, 1) := zk_26 (by decide +kernel)
theorem dX6_slotOf_31 : decode cX6_slotOf 31 = .ok (.bipush 8, 2) := zk_16 (by decide +kernel)
theorem dX6_slotOf_33 : decode cX6_slotOf 33 = .ok (.imul, 1) := zk_104 (by decide +kernel)
theorem dX6_slotOf_34 : decode cX6_slotOf 34 = .ok (.iload_n 1, 1) := zk_27 (by decide +kernel)
theorem dX6_slotOf_35 : decode cX6_slotOf 35 = .ok (.iadd, 1) := zk_96 (by decide +kernel)
theorem dX6_slotOf_36 : decode cX6_slotOf 36 = .ok (.goto 4, 3) := zk_167 (by decide +kernel)
set_option maxHeartbeats 4000000 in
set_option maxRecDepth 100000 in
theorem gn_slotOf (l : Launch) (dC : Nat → ClassId) (dI : Nat → Nat → Nat) (a0 : Int32) (a1 : Int32) : Met l yX6_slotOf (Cond.code yX6_slotOf cX6_slotOf 3 (some .int) :: wsL_law) ({ frames := 0, cells := 0, slots := 0, locals := 0 }) (va_Pc [.int a0, .int a1] (fun U => va_P (dC, dI) vwCl [] U.heap ∧ va_K (dC, dI) vwCl [] U)) (vp_Si (fun r => r = fn_slotOf a0 a1)) 0 0 (fun _ => False) := by
  refine Met.ofW (cc := cX6_slotOf) (maxL := 3) (ret := (some .int)) (by decide) rfl ?_
  intro p e s m args below meth c s₁ B hml hv
  obtain ⟨rfl, hP, hK⟩ := hv
  have hx := B.exec
  have hb := B.bytes
  have hr := B.returns
  have hts := atoms_spec (ws := Cond.code yX6_slotOf cX6_slotOf 3 (some .int) :: wsL_law) B.pre
  have htw : ∀ w ∈ wsL_law, w.before _ s = true := fun w h => hts w (List.mem_cons_of_mem _ h)
  have hown : s.vm.findClass RX6 = some m.cls := findClass_of_methodNamed B.named
  have hlocks := B.notSynchronized
  have hl := lv_entry ([.int a0, .int a1]) (n := 3) (Nat.le_of_ble_eq_true rfl)
  rw [lg_entry_eq]
  generalize (lg_sl ([.int a0, .int a1]) ++ List.replicate (3 - (lg_sl ([.int a0, .int a1])).length) Slot.unset).toArray = ls at hl ⊢
  have hl : lv_has ls 3 [(0, .int a0), (1, .int a1)] := hl
  refine lv_iload_n hx hb dX6_slotOf_0 rfl (lv_at hl 0 rfl) ?_
  refine lv_if_lt (tgt := 24) hx hb dX6_slotOf_1 (by decide) (fun c_1 => ?_) (fun c_1 => ?_)
  · refine lv_iconst (v := 0) hx hb dX6_slotOf_24 (by decide) ?_
    refine lv_istore_n (lv' := [(2, .int 0), (0, .int a0), (1, .int a1)]) hx hb dX6_slotOf_25 rfl hl (by decide) rfl (fun ls hl => ?_)
    refine lv_iload_n hx hb dX6_slotOf_26 rfl (lv_at hl 0 rfl) ?_
    refine lv_if_eq (tgt := 39) hx hb dX6_slotOf_27 (by decide) (fun _ => ?_) (fun c => absurd c (by decide))
    refine lv_iconst (v := (-1)) hx hb dX6_slotOf_39 (by decide) ?_
    exact W.iret (v := (-1)) hx hb hr (fun t ht hW => ⟨(-1), rfl, (by rw [fn_slotOf]; (try rw [if_pos c_1]); try rfl), ht⟩) (fun _ h => by cases h) dX6_slotOf_40
  · refine lv_iload_n hx hb dX6_slotOf_4 rfl (lv_at hl 0 rfl) ?_
    refine lv_bipush (v := 12) hx hb dX6_slotOf_5 (by decide) ?_
    refine lv_icmp_ge (tgt := 24) hx hb dX6_slotOf_7 (by decide) (fun c_2 => ?_) (fun c_2 => ?_)
    · refine lv_iconst (v := 0) hx hb dX6_slotOf_24 (by decide) ?_
      refine lv_istore_n (lv' := [(2, .int 0), (0, .int a0), (1, .int a1)]) hx hb dX6_slotOf_25 rfl hl (by decide) rfl (fun ls hl => ?_)
      refine lv_iload_n hx hb dX6_slotOf_26 rfl (lv_at hl 0 rfl) ?_
      refine lv_if_eq (tgt := 39) hx hb dX6_slotOf_27 (by decide) (fun _ => ?_) (fun c => absurd c (by decide))
      refine lv_iconst (v := (-1)) hx hb dX6_slotOf_39 (by decide) ?_
      exact W.iret (v := (-1)) hx hb hr (fun t ht hW => ⟨(-1), rfl, (by rw [fn_slotOf]; (try rw [if_neg c_1]); (try rw [if_pos c_2]); try rfl), ht⟩) (fun _ h => by cases h) dX6_slotOf_40
    · refine lv_iload_n hx hb dX6_slotOf_10 rfl (lv_at hl 1 rfl) ?_
      refine lv_if_lt (tgt := 24) hx hb dX6_slotOf_11 (by decide) (fun c_3 => ?_) (fun c_3 => ?_)
      · refine lv_iconst (v := 0) hx hb dX6_slotOf_24 (by decide) ?_
        refine lv_istore_n (lv' := [(2, .int 0), (0, .int a0), (1, .int a1)]) hx hb dX6_slotOf_25 rfl hl (by decide) rfl (fun ls hl => ?_)
        refine lv_iload_n hx hb dX6_slotOf_26 rfl (lv_at hl 0 rfl) ?_
        refine lv_if_eq (tgt := 39) hx hb dX6_slotOf_27 (by decide) (fun _ => ?_) (fun c => absurd c (by decide))
        refine lv_iconst (v := (-1)) hx hb dX6_slotOf_39 (by decide) ?_
        exact W.iret (v := (-1)) hx hb hr (fun t ht hW => ⟨(-1), rfl, (by rw [fn_slotOf]; (try rw [if_neg c_1]); (try rw [if_neg c_2]); (try rw [if_pos c_3]); try rfl), ht⟩) (fun _ h => by cases h) dX6_slotOf_40
      · refine lv_iload_n hx hb dX6_slotOf_14 rfl (lv_at hl 1 rfl) ?_
        refine lv_bipush (v := 8) hx hb dX6_slotOf_15 (by decide) ?_
        refine lv_icmp_ge (tgt := 24) hx hb dX6_slotOf_17 (by decide) (fun c_4 => ?_) (fun c_4 => ?_)
        · refine lv_iconst (v := 0) hx hb dX6_slotOf_24 (by decide) ?_
          refine lv_istore_n (lv' := [(2, .int 0), (0, .int a0), (1, .int a1)]) hx hb dX6_slotOf_25 rfl hl (by decide) rfl (fun ls hl => ?_)
          refine lv_iload_n hx hb dX6_slotOf_26 rfl (lv_at hl 0 rfl) ?_
          refine lv_if_eq (tgt := 39) hx hb dX6_slotOf_27 (by decide) (fun _ => ?_) (fun c => absurd c (by decide))
          refine lv_iconst (v := (-1)) hx hb dX6_slotOf_39 (by decide) ?_
          exact W.iret (v := (-1)) hx hb hr (fun t ht hW => ⟨(-1), rfl, (by rw [fn_slotOf]; (try rw [if_neg c_1]); (try rw [if_neg c_2]); (try rw [if_neg c_3]); (try rw [if_pos c_4]); try rfl), ht⟩) (fun _ h => by cases h) dX6_slotOf_40
        · refine lv_iconst (v := 1) hx hb dX6_slotOf_20 (by decide) ?_
          refine lv_goto (tgt := 25) hx hb dX6_slotOf_21 (by decide) ?_
          refine lv_istore_n (lv' := [(2, .int 1), (0, .int a0), (1, .int a1)]) hx hb dX6_slotOf_25 rfl hl (by decide) rfl (fun ls hl => ?_)
          refine lv_iload_n hx hb dX6_slotOf_26 rfl (lv_at hl 0 rfl) ?_
          refine lv_if_eq (tgt := 39) hx hb dX6_slotOf_27 (by decide) (fun c => absurd c (by decide)) (fun _ => ?_)
          refine lv_iload_n hx hb dX6_slotOf_30 rfl (lv_at hl 1 rfl) ?_
          refine lv_bipush (v := 8) hx hb dX6_slotOf_31 (by decide) ?_
          refine lv_imul hx hb dX6_slotOf_33 ?_
          refine lv_iload_n hx hb dX6_slotOf_34 rfl (lv_at hl 2 rfl) ?_
          refine lv_iadd hx hb dX6_slotOf_35 ?_
          refine lv_goto (tgt := 40) hx hb dX6_slotOf_36 (by decide) ?_
          exact W.iret (v := ((a0 * 8) + a1)) hx hb hr (fun t ht hW => ⟨((a0 * 8) + a1), rfl, (by rw [fn_slotOf]; (try rw [if_neg c_1]); (try rw [if_neg c_2]); (try rw [if_neg c_3]); (try rw [if_neg c_4]); try rfl), ht⟩) (fun _ h => by cases h) dX6_slotOf_40

theorem xn_slot {a b r : Int32} (hr : r = fn_slotOf a b) (h : ¬ r = (-1)) : vp_in r 96 := by
  subst hr
  revert h
  rw [fn_slotOf]
  split
  · intro h; exact absurd rfl h
  · split
    · intro h; exact absurd rfl h
    · split
      · intro h; exact absurd rfl h
      · split
        · intro h; exact absurd rfl h
        · intro _
          rename_i h1 h2 h3 h4 h5
          have e0 : (0 : Int32).toInt = 0 := rfl
          have e8 : (8 : Int32).toInt = 8 := rfl
          have e12 : (12 : Int32).toInt = 12 := rfl
          rw [Int32.lt_iff_toInt_lt] at h1 h3
          rw [Int32.le_iff_toInt_le] at h2 h4
          rw [e0] at h1 h3
          rw [e12] at h2
          rw [e8] at h4
          have q1 : (a.toInt * 8).bmod (2 ^ 32) = a.toInt * 8 := Int.bmod_eq_of_le (by omega) (by omega)
          have q2 : (a.toInt * 8 + b.toInt).bmod (2 ^ 32) = a.toInt * 8 + b.toInt := Int.bmod_eq_of_le (by omega) (by omega)
          rw [vp_in_iff, Int32.toInt_add, Int32.toInt_mul, e8, q1, q2]
          omega

def fn_does (fNs : Nat → Int32) (a0 : Int32) (a1 : Int32) : Int32 := (if a0 < 0 then (0 : Int32) else (if 12 ≤ a0 then (0 : Int32) else (if (((fNs a0.toNatClampNeg) >>> (a1 &&& 31)) &&& 1) = (1 : Int32) then (1 : Int32) else (0 : Int32))))
theorem dX6_does_0 : decode cX6_does 0 = .ok (.iload_n 1, 1) := zk_27 (by decide +kernel)
theorem dX6_does_1 : decode cX6_does 1 = .ok (.ifCond .lt 30, 3) := zk_155 (by decide +kernel)
theorem dX6_does_31 : decode cX6_does 31 = .ok (.iconst 0, 1) := zk_3 (by decide +kernel)
theorem dX6_does_32 : decode cX6_does 32 = .ok (.ireturn, 1) := zk_172 (by decide +kernel)
theorem dX6_does_4 : decode cX6_does 4 = .ok (.iload_n 1, 1) := zk_27 (by decide +kernel)
theorem dX6_does_5 : decode cX6_does 5 = .ok (.aload_n 0, 1) := zk_42 (by decide +kernel)
theorem dX6_does_6 : decode cX6_does 6 = .ok (.getfield 9, 3) := zk_180 (by decide +kernel)
theorem dX6_does_9 : decode cX6_does 9 = .ok (.arraylength, 1) := zk_190 (by decide +kernel)
theorem dX6_does_10 : decode cX6_does 10 = .ok (.if_icmp .ge 21, 3) := zk_162 (by decide +kernel)
theorem dX6_does_13 : decode cX6_does 13 = .ok (.aload_n 0, 1) := zk_42 (by decide +kernel)
theorem dX6_does_14 : decode cX6_does 14 = .ok (.getfield 9, 3) := zk_180 (by decide +kernel)
theorem dX6_does_17 : decode cX6_does 17 = .ok (.iload_n 1, 1) := zk_27 (by decide +kernel)
theorem dX6_does_18 : decode cX6_does 18 = .ok (.iaload, 1) := zk_46 (by decide +kernel)
theorem dX6_does_19 : decode cX6_does 19 = .ok (.iload_n 2, 1) := zk_28 (by decide +kernel)
theorem dX6_does_20 : decode cX6_does 20 = .ok (.ishr, 1) := zk_122 (by decide +kernel)
theorem dX6_does_21 : decode cX6_does 21 = .ok (.iconst 1, 1) := zk_4 (by decide +kernel)
theorem dX6_does_22 : decode cX6_does 22 = .ok (.iand, 1) := zk_126 (by decide +kernel)
theorem dX6_does_23 : decode cX6_does 23 = .ok (.iconst 1, 1) := zk_4 (by decide +kernel)
theorem dX6_does_24 : decode cX6_does 24 = .ok (.if_icmp .ne 7, 3) := zk_160 (by decide +kernel)
theorem dX6_does_27 : decode cX6_does 27 = .ok (.iconst 1, 1) := zk_4 (by decide +kernel)
theorem dX6_does_28 : decode cX6_does 28 = .ok (.goto 4, 3) := zk_167 (by decide +kernel)
set_option maxHeartbeats 4000000 in
set_option maxRecDepth 100000 in
theorem gn_does (l : Launch) (dC : Nat → ClassId) (dI : Nat → Nat → Nat) (no : Nat) (ns : Int32) (nsa : Nat) (nfa : Nat) (nza : Nat) (cNs : ClassId) (fNs : Nat → Int32) (a0 : Int32) (a1 : Int32) : Met l yX6_does (Cond.code yX6_does cX6_does 3 (some .boolean) :: wsL_law) ({ frames := 0, cells := 0, slots := 0, locals := 0 }) (va_Pc [.ref no, .int a0, .int a1] (fun U => va_P (dC, dI) vwCl [(eO6a no ns nsa nfa nza), (eA0 nsa cNs 12 fNs)] U.heap ∧ va_K (dC, dI) vwCl [(cNs, .int)] U)) (vp_Si (fun r => r = fn_does fNs a0 a1)) 0 0 (fun _ => False) := by
  refine Met.ofW (cc := cX6_does) (maxL := 3) (ret := (some .boolean)) (by decide) rfl ?_
  intro p e s m args below meth c s₁ B hml hv
  obtain ⟨rfl, hP, hK⟩ := hv
  have hx := B.exec
  have hb := B.bytes
  have hr := B.returns
  have hts := atoms_spec (ws := Cond.code yX6_does cX6_does 3 (some .boolean) :: wsL_law) B.pre
  have htw : ∀ w ∈ wsL_law, w.before _ s = true := fun w h => hts w (List.mem_cons_of_mem _ h)
  have hown : s.vm.findClass RX6 = some m.cls := findClass_of_methodNamed B.named
  have hlocks := B.notSynchronized
  have hl := lv_entry ([.ref no, .int a0, .int a1]) (n := 3) (Nat.le_of_ble_eq_true rfl)
  rw [lg_entry_eq]
  generalize (lg_sl ([.ref no, .int a0, .int a1]) ++ List.replicate (3 - (lg_sl ([.ref no, .int a0, .int a1])).length) Slot.unset).toArray = ls at hl ⊢
  have hl : lv_has ls 3 [(0, .ref no), (1, .int a0), (2, .int a1)] := hl
  refine lv_iload_n hx hb dX6_does_0 rfl (lv_at hl 1 rfl) ?_
  refine lv_if_lt (tgt := 31) hx hb dX6_does_1 (by decide) (fun c_1 => ?_) (fun c_1 => ?_)
  · refine lv_iconst (v := 0) hx hb dX6_does_31 (by decide) ?_
    exact W.zret (v := 0) hx hb hr (by first | rfl | decide) (fun t ht hW => ⟨0, rfl, (by rw [fn_does]; (try rw [if_pos c_1]); try rfl), ht⟩) (fun _ h => by cases h) dX6_does_32
  · refine lv_iload_n hx hb dX6_does_4 rfl (lv_at hl 1 rfl) ?_
    refine lv_aload_n hx hb dX6_does_5 rfl (lv_at hl 0 rfl) ?_
    refine va_get (D := (dC, dI)) (ci := 6) (v := .ref nsa) (C := RX6) (T := TX6) (N := 4) hx hb htw inlX6 hown hK hP 0 rfl rfl 1 (by decide) (htw _ (ck_7 _ (List.mem_of_getElem? (i := 8) rfl))) (fun _ h9 => h9) rfl dX6_does_6 ?_
    refine va_alen hx hb hK hP 1 0 rfl rfl (v := 12) rfl dX6_does_9 ?_
    refine lv_icmp_ge (tgt := 31) hx hb dX6_does_10 (by decide) (fun c_2 => ?_) (fun c_2 => ?_)
    · refine lv_iconst (v := 0) hx hb dX6_does_31 (by decide) ?_
      exact W.zret (v := 0) hx hb hr (by first | rfl | decide) (fun t ht hW => ⟨0, rfl, (by rw [fn_does]; (try rw [if_neg c_1]); (try rw [if_pos c_2]); try rfl), ht⟩) (fun _ h => by cases h) dX6_does_32
    · refine lv_aload_n hx hb dX6_does_13 rfl (lv_at hl 0 rfl) ?_
      refine va_get (D := (dC, dI)) (ci := 6) (v := .ref nsa) (C := RX6) (T := TX6) (N := 4) hx hb htw inlX6 hown hK hP 0 rfl rfl 1 (by decide) (htw _ (ck_7 _ (List.mem_of_getElem? (i := 8) rfl))) (fun _ h9 => h9) rfl dX6_does_14 ?_
      refine lv_iload_n hx hb dX6_does_17 rfl (lv_at hl 1 rfl) ?_
      refine va_iald hx hb hK hP 1 0 rfl rfl (xg_inr (N := 12) rfl c_1 c_2) dX6_does_18 ?_
      refine lv_iload_n hx hb dX6_does_19 rfl (lv_at hl 2 rfl) ?_
      refine lv_ishr hx hb dX6_does_20 ?_
      refine lv_iconst (v := 1) hx hb dX6_does_21 (by decide) ?_
      refine lv_iand hx hb dX6_does_22 ?_
      refine lv_iconst (v := 1) hx hb dX6_does_23 (by decide) ?_
      refine lv_icmp_ne (tgt := 31) hx hb dX6_does_24 (by decide) (fun c_3 => ?_) (fun c_3 => ?_)
      · refine lv_iconst (v := 0) hx hb dX6_does_31 (by decide) ?_
        exact W.zret (v := 0) hx hb hr (by first | rfl | decide) (fun t ht hW => ⟨0, rfl, (by rw [fn_does]; (try rw [if_neg c_1]); (try rw [if_neg c_2]); (try rw [if_neg c_3]); try rfl), ht⟩) (fun _ h => by cases h) dX6_does_32
      · refine lv_iconst (v := 1) hx hb dX6_does_27 (by decide) ?_
        refine lv_goto (tgt := 32) hx hb dX6_does_28 (by decide) ?_
        exact W.zret (v := 1) hx hb hr (by first | rfl | decide) (fun t ht hW => ⟨1, rfl, (by rw [fn_does]; (try rw [if_neg c_1]); (try rw [if_neg c_2]); (try rw [if_pos c_3]); try rfl), ht⟩) (fun _ h => by cases h) dX6_does_32

def fn_firstOf (fNf : Nat → Int32) (a0 : Int32) (a1 : Int32) : Int32 := (if (fn_slotOf a0 a1) = (-1) then (0 : Int32) else fNf (fn_slotOf a0 a1).toNatClampNeg)
theorem dX6_firstOf_0 : decode cX6_firstOf 0 = .ok (.iload_n 1, 1) := zk_27 (by decide +kernel)
theorem dX6_firstOf_1 : decode cX6_firstOf 1 = .ok (.iload_n 2, 1) := zk_28 (by decide +kernel)
theorem dX6_firstOf_2 : decode cX6_firstOf 2 = .ok (.invokestatic 21, 3) := zk_184 (by decide +kernel)
theorem dX6_firstOf_5 : decode cX6_firstOf 5 = .ok (.istore_n 3, 1) := zk_62 (by decide +kernel)
theorem dX6_firstOf_6 : decode cX6_firstOf 6 = .ok (.iload_n 3, 1) := zk_29 (by decide +kernel)
theorem dX6_firstOf_7 : decode cX6_firstOf 7 = .ok (.iconst (-1), 1) := zk_2 (by decide +kernel)
theorem dX6_firstOf_8 : decode cX6_firstOf 8 = .ok (.if_icmp .ne 7, 3) := zk_160 (by decide +kernel)
theorem dX6_firstOf_15 : decode cX6_firstOf 15 = .ok (.aload_n 0, 1) := zk_42 (by decide +kernel)
theorem dX6_firstOf_16 : decode cX6_firstOf 16 = .ok (.getfield 15, 3) := zk_180 (by decide +kernel)
theorem dX6_firstOf_19 : decode cX6_firstOf 19 = .ok (.iload_n 3, 1) := zk_29 (by decide +kernel)
theorem dX6_firstOf_20 : decode cX6_firstOf 20 = .ok (.iaload, 1) := zk_46 (by decide +kernel)
theorem dX6_firstOf_21 : decode cX6_firstOf 21 = .ok (.ireturn, 1) := zk_172 (by decide +kernel)
theorem dX6_firstOf_11 : decode cX6_firstOf 11 = .ok (.iconst 0, 1) := zk_3 (by decide +kernel)
theorem dX6_firstOf_12 : decode cX6_firstOf 12 = .ok (.goto 9, 3) := zk_167 (by decide +kernel)
set_option maxHeartbeats 4000000 in
set_option maxRecDepth 100000 in
theorem gn_firstOf (l : Launch) (dC : Nat → ClassId) (dI : Nat → Nat → Nat) (no : Nat) (ns : Int32) (nsa : Nat) (nfa : Nat) (nza : Nat) (cNf : ClassId) (fNf : Nat → Int32) (a0 : Int32) (a1 : Int32) : Met l yX6_firstOf (Cond.code yX6_firstOf cX6_firstOf 4 (some .int) :: wsL_law) ({ frames := 1, cells := 0, slots := 0, locals := 22 }) (va_Pc [.ref no, .int a0, .int a1] (fun U => va_P (dC, dI) vwCl [(eO6a no ns nsa nfa nza), (eA0 nfa cNf 96 fNf)] U.heap ∧ va_K (dC, dI) vwCl [(cNf, .int)] U)) (vp_Si (fun r => r = fn_firstOf fNf a0 a1)) 0 0 (fun _ => False) := by
  refine Met.ofW (cc := cX6_firstOf) (maxL := 4) (ret := (some .int)) (by decide) rfl ?_
  intro p e s m args below meth c s₁ B hml hv
  obtain ⟨rfl, hP, hK⟩ := hv
  have hx := B.exec
  have hb := B.bytes
  have hr := B.returns
  have hts := atoms_spec (ws := Cond.code yX6_firstOf cX6_firstOf 4 (some .int) :: wsL_law) B.pre
  have htw : ∀ w ∈ wsL_law, w.before _ s = true := fun w h => hts w (List.mem_cons_of_mem _ h)
  have hown : s.vm.findClass RX6 = some m.cls := findClass_of_methodNamed B.named
  have hlocks := B.notSynchronized
  have hl := lv_entry ([.ref no, .int a0, .int a1]) (n := 4) (Nat.le_of_ble_eq_true rfl)
  rw [lg_entry_eq]
  generalize (lg_sl ([.ref no, .int a0, .int a1]) ++ List.replicate (4 - (lg_sl ([.ref no, .int a0, .int a1])).length) Slot.unset).toArray = ls at hl ⊢
  have hl : lv_has ls 4 [(0, .ref no), (1, .int a0), (2, .int a1)] := hl
  refine lv_iload_n hx hb dX6_firstOf_0 rfl (lv_at hl 1 rfl) ?_
  refine lv_iload_n hx hb dX6_firstOf_1 rfl (lv_at hl 2 rfl) ?_
  have hPc := hP.sub (ws' := []) [] rfl
  have hKc := hK.sub (tys' := []) [] rfl
  refine vp_callSi (W.runS (As := [.int a0, .int a1]) (rest := []) ⟨hx, hb, hml, hown, htw⟩ (gn_slotOf l dC dI a0 a1) (va_cwS 2 htw (xg_S (ck_23 _ (List.mem_of_getElem? (i := 21) rfl)) (ck_23 _ (List.mem_of_getElem? (i := 22) rfl)) (ck_2 _ (List.mem_of_getElem? (i := 11) rfl)) (ck_23 _ (List.mem_of_getElem? (i := 23) rfl))) rfl rfl rfl (by exact ⟨hdc_3.1, hdc_3.2, hdd_7⟩) ⟨Nat.le_of_ble_eq_true rfl, Nat.le_of_ble_eq_true rfl⟩) ⟨fun a U g mk q => by obtain ⟨q0, qP, qK⟩ := q; exact ⟨q0, qP, va_K.moved (u := U) (U := U.calling g mk a) (Vm.Alike.refl U.vm) qK⟩, fun U hU hW => ⟨rfl, by rw [hU]; exact hPc, va_K.moved hW.alike hKc⟩⟩ rfl rfl hl.1 rfl (lv_room (Nat.le_of_ble_eq_true rfl)) dX6_firstOf_2 ⟨Nat.le_of_ble_eq_true rfl, Nat.le_of_ble_eq_true rfl⟩) (fun r_1 hw => ?_)
  try dsimp only at hw
  have hq_r_1 : r_1 = fn_slotOf a0 a1 := hw
  refine lv_istore_n (lv' := [(3, .int r_1), (0, .ref no), (1, .int a0), (2, .int a1)]) hx hb dX6_firstOf_5 rfl hl (by decide) rfl (fun ls hl => ?_)
  refine lv_iload_n hx hb dX6_firstOf_6 rfl (lv_at hl 0 rfl) ?_
  refine lv_iconst (v := (-1)) hx hb dX6_firstOf_7 (by decide) ?_
  refine lv_icmp_ne (tgt := 15) hx hb dX6_firstOf_8 (by decide) (fun c_2 => ?_) (fun c_2 => ?_)
  · refine lv_aload_n hx hb dX6_firstOf_15 rfl (lv_at hl 1 rfl) ?_
    refine va_get (D := (dC, dI)) (ci := 6) (v := .ref nfa) (C := RX6) (T := TX6) (N := 4) hx hb htw inlX6 hown hK hP 0 rfl rfl 2 (by decide) (htw _ (ck_7 _ (List.mem_of_getElem? (i := 9) rfl))) (fun _ h9 => h9) rfl dX6_firstOf_16 ?_
    refine lv_iload_n hx hb dX6_firstOf_19 rfl (lv_at hl 0 rfl) ?_
    refine va_iald hx hb hK hP 1 0 rfl rfl (xn_slot hq_r_1 c_2) dX6_firstOf_20 ?_
    exact W.iret (v := fNf r_1.toNatClampNeg) hx hb hr (fun t ht hW => ⟨fNf r_1.toNatClampNeg, rfl, (by rw [fn_firstOf]; (try rw [← hq_r_1]); (try rw [if_neg c_2]); try rfl), ht⟩) (fun _ h => by cases h) dX6_firstOf_21
  · refine lv_iconst (v := 0) hx hb dX6_firstOf_11 (by decide) ?_
    refine lv_goto (tgt := 21) hx hb dX6_firstOf_12 (by decide) ?_
    exact W.iret (v := 0) hx hb hr (fun t ht hW => ⟨0, rfl, (by rw [fn_firstOf]; (try rw [← hq_r_1]); (try rw [if_pos c_2]); try rfl), ht⟩) (fun _ h => by cases h) dX6_firstOf_21

def fn_secondOf (fNz : Nat → Int32) (a0 : Int32) (a1 : Int32) : Int32 := (if (fn_slotOf a0 a1) = (-1) then (0 : Int32) else fNz (fn_slotOf a0 a1).toNatClampNeg)
theorem dX6_secondOf_0 : decode cX6_secondOf 0 = .ok (.iload_n 1, 1) := zk_27 (by decide +kernel)
theorem dX6_secondOf_1 : decode cX6_secondOf 1 = .ok (.iload_n 2, 1) := zk_28 (by decide +kernel)
theorem dX6_secondOf_2 : decode cX6_secondOf 2 = .ok (.invokestatic 21, 3) := zk_184 (by decide +kernel)
theorem dX6_secondOf_5 : decode cX6_secondOf 5 = .ok (.istore_n 3, 1) := zk_62 (by decide +kernel)
theorem dX6_secondOf_6 : decode cX6_secondOf 6 = .ok (.iload_n 3, 1) := zk_29 (by decide +kernel)
theorem dX6_secondOf_7 : decode cX6_secondOf 7 = .ok (.iconst (-1), 1) := zk_2 (by decide +kernel)
theorem dX6_secondOf_8 : decode cX6_secondOf 8 = .ok (.if_icmp .ne 7, 3) := zk_160 (by decide +kernel)
theorem dX6_secondOf_15 : decode cX6_secondOf 15 = .ok (.aload_n 0, 1) := zk_42 (by decide +kernel)
theorem dX6_secondOf_16 : decode cX6_secondOf 16 = .ok (.getfield 18, 3) := zk_180 (by decide +kernel)
theorem dX6_secondOf_19 : decode cX6_secondOf 19 = .ok (.iload_n 3, 1) := zk_29 (by decide +kernel)
theorem dX6_secondOf_20 : decode cX6_secondOf 20 = .ok (.iaload, 1) := zk_46 (by decide +kernel)
theorem dX6_secondOf_21 : decode cX6_secondOf 21 = .ok (.ireturn, 1) := zk_172 (by decide +kernel)
theorem dX6_secondOf_11 : decode cX6_secondOf 11 = .ok (.iconst 0, 1) := zk_3 (by decide +kernel)
theorem dX6_secondOf_12 : decode cX6_secondOf 12 = .ok (.goto 9, 3) := zk_167 (by decide +kernel)
set_option maxHeartbeats 4000000 in
set_option maxRecDepth 100000 in
theorem gn_secondOf (l : Launch) (dC : Nat → ClassId) (dI : Nat → Nat → Nat) (no : Nat) (ns : Int32) (nsa : Nat) (nfa : Nat) (nza : Nat) (cNz : ClassId) (fNz : Nat → Int32) (a0 : Int32) (a1 : Int32) : Met l yX6_secondOf (Cond.code yX6_secondOf cX6_secondOf 4 (some .int) :: wsL_law) ({ frames := 1, cells := 0, slots := 0, locals := 22 }) (va_Pc [.ref no, .int a0, .int a1] (fun U => va_P (dC, dI) vwCl [(eO6a no ns nsa nfa nza), (eA0 nza cNz 96 fNz)] U.heap ∧ va_K (dC, dI) vwCl [(cNz, .int)] U)) (vp_Si (fun r => r = fn_secondOf fNz a0 a1)) 0 0 (fun _ => False) := by
  refine Met.ofW (cc := cX6_secondOf) (maxL := 4) (ret := (some .int)) (by decide) rfl ?_
  intro p e s m args below meth c s₁ B hml hv
  obtain ⟨rfl, hP, hK⟩ := hv
  have hx := B.exec
  have hb := B.bytes
  have hr := B.returns
  have hts := atoms_spec (ws := Cond.code yX6_secondOf cX6_secondOf 4 (some .int) :: wsL_law) B.pre
  have htw : ∀ w ∈ wsL_law, w.before _ s = true := fun w h => hts w (List.mem_cons_of_mem _ h)
  have hown : s.vm.findClass RX6 = some m.cls := findClass_of_methodNamed B.named
  have hlocks := B.notSynchronized
  have hl := lv_entry ([.ref no, .int a0, .int a1]) (n := 4) (Nat.le_of_ble_eq_true rfl)
  rw [lg_entry_eq]
  generalize (lg_sl ([.ref no, .int a0, .int a1]) ++ List.replicate (4 - (lg_sl ([.ref no, .int a0, .int a1])).length) Slot.unset).toArray = ls at hl ⊢
  have hl : lv_has ls 4 [(0, .ref no), (1, .int a0), (2, .int a1)] := hl
  refine lv_iload_n hx hb dX6_secondOf_0 rfl (lv_at hl 1 rfl) ?_
  refine lv_iload_n hx hb dX6_secondOf_1 rfl (lv_at hl 2 rfl) ?_
  have hPc := hP.sub (ws' := []) [] rfl
  have hKc := hK.sub (tys' := []) [] rfl
  refine vp_callSi (W.runS (As := [.int a0, .int a1]) (rest := []) ⟨hx, hb, hml, hown, htw⟩ (gn_slotOf l dC dI a0 a1) (va_cwS 2 htw (xg_S (ck_23 _ (List.mem_of_getElem? (i := 21) rfl)) (ck_23 _ (List.mem_of_getElem? (i := 22) rfl)) (ck_2 _ (List.mem_of_getElem? (i := 11) rfl)) (ck_23 _ (List.mem_of_getElem? (i := 23) rfl))) rfl rfl rfl (by exact ⟨hdc_3.1, hdc_3.2, hdd_7⟩) ⟨Nat.le_of_ble_eq_true rfl, Nat.le_of_ble_eq_true rfl⟩) ⟨fun a U g mk q => by obtain ⟨q0, qP, qK⟩ := q; exact ⟨q0, qP, va_K.moved (u := U) (U := U.calling g mk a) (Vm.Alike.refl U.vm) qK⟩, fun U hU hW => ⟨rfl, by rw [hU]; exact hPc, va_K.moved hW.alike hKc⟩⟩ rfl rfl hl.1 rfl (lv_room (Nat.le_of_ble_eq_true rfl)) dX6_secondOf_2 ⟨Nat.le_of_ble_eq_true rfl, Nat.le_of_ble_eq_true rfl⟩) (fun r_1 hw => ?_)
  try dsimp only at hw
  have hq_r_1 : r_1 = fn_slotOf a0 a1 := hw
  refine lv_istore_n (lv' := [(3, .int r_1), (0, .ref no), (1, .int a0), (2, .int a1)]) hx hb dX6_secondOf_5 rfl hl (by decide) rfl (fun ls hl => ?_)
  refine lv_iload_n hx hb dX6_secondOf_6 rfl (lv_at hl 0 rfl) ?_
  refine lv_iconst (v := (-1)) hx hb dX6_secondOf_7 (by decide) ?_
  refine lv_icmp_ne (tgt := 15) hx hb dX6_secondOf_8 (by decide) (fun c_2 => ?_) (fun c_2 => ?_)
  · refine lv_aload_n hx hb dX6_secondOf_15 rfl (lv_at hl 1 rfl) ?_
    refine va_get (D := (dC, dI)) (ci := 6) (v := .ref nza) (C := RX6) (T := TX6) (N := 4) hx hb htw inlX6 hown hK hP 0 rfl rfl 3 (by decide) (htw _ (ck_7 _ (List.mem_of_getElem? (i := 10) rfl))) (fun _ h9 => h9) rfl dX6_secondOf_16 ?_
    refine lv_iload_n hx hb dX6_secondOf_19 rfl (lv_at hl 0 rfl) ?_
    refine va_iald hx hb hK hP 1 0 rfl rfl (xn_slot hq_r_1 c_2) dX6_secondOf_20 ?_
    exact W.iret (v := fNz r_1.toNatClampNeg) hx hb hr (fun t ht hW => ⟨fNz r_1.toNatClampNeg, rfl, (by rw [fn_secondOf]; (try rw [← hq_r_1]); (try rw [if_neg c_2]); try rfl), ht⟩) (fun _ h => by cases h) dX6_secondOf_21
  · refine lv_iconst (v := 0) hx hb dX6_secondOf_11 (by decide) ?_
    refine lv_goto (tgt := 21) hx hb dX6_secondOf_12 (by decide) ?_
    exact W.iret (v := 0) hx hb hr (fun t ht hW => ⟨0, rfl, (by rw [fn_secondOf]; (try rw [← hq_r_1]); (try rw [if_pos c_2]); try rfl), ht⟩) (fun _ h => by cases h) dX6_secondOf_21

def fn_askedOf (fNs : Nat → Int32) (fNf : Nat → Int32) (a0 : Int32) (a1 : Int32) : Int32 := (if (fn_does fNs a0 a1) = 0 then (-1 : Int32) else (fn_firstOf fNf a0 a1))
theorem dX6_askedOf_0 : decode cX6_askedOf 0 = .ok (.aload_n 0, 1) := zk_42 (by decide +kernel)
theorem dX6_askedOf_1 : decode cX6_askedOf 1 = .ok (.iload_n 1, 1) := zk_27 (by decide +kernel)
theorem dX6_askedOf_2 : decode cX6_askedOf 2 = .ok (.iload_n 2, 1) := zk_28 (by decide +kernel)
theorem dX6_askedOf_3 : decode cX6_askedOf 3 = .ok (.invokevirtual 25, 3) := zk_182 (by decide +kernel)
theorem dX6_askedOf_6 : decode cX6_askedOf 6 = .ok (.ifCond .eq 12, 3) := zk_153 (by decide +kernel)
theorem dX6_askedOf_18 : decode cX6_askedOf 18 = .ok (.iconst (-1), 1) := zk_2 (by decide +kernel)
theorem dX6_askedOf_19 : decode cX6_askedOf 19 = .ok (.ireturn, 1) := zk_172 (by decide +kernel)
theorem dX6_askedOf_9 : decode cX6_askedOf 9 = .ok (.aload_n 0, 1) := zk_42 (by decide +kernel)
theorem dX6_askedOf_10 : decode cX6_askedOf 10 = .ok (.iload_n 1, 1) := zk_27 (by decide +kernel)
theorem dX6_askedOf_11 : decode cX6_askedOf 11 = .ok (.iload_n 2, 1) := zk_28 (by decide +kernel)
theorem dX6_askedOf_12 : decode cX6_askedOf 12 = .ok (.invokevirtual 29, 3) := zk_182 (by decide +kernel)
theorem dX6_askedOf_15 : decode cX6_askedOf 15 = .ok (.goto 4, 3) := zk_167 (by decide +kernel)
set_option maxHeartbeats 4000000 in
set_option maxRecDepth 100000 in
theorem gn_askedOf (l : Launch) (dC : Nat → ClassId) (dI : Nat → Nat → Nat) (no : Nat) (ns : Int32) (nsa : Nat) (nfa : Nat) (nza : Nat) (cNs : ClassId) (fNs : Nat → Int32) (cNf : ClassId) (fNf : Nat → Int32) (a0 : Int32) (a1 : Int32) : Met l yX6_askedOf (Cond.code yX6_askedOf cX6_askedOf 3 (some .int) :: wsL_law) ({ frames := 2, cells := 0, slots := 0, locals := 45 }) (va_Pc [.ref no, .int a0, .int a1] (fun U => va_P (dC, dI) vwCl [(eO6a no ns nsa nfa nza), (eA0 nsa cNs 12 fNs), (eA0 nfa cNf 96 fNf)] U.heap ∧ va_K (dC, dI) vwCl [(cNs, .int), (cNf, .int)] U)) (vp_Si (fun r => r = fn_askedOf fNs fNf a0 a1)) 0 0 (fun _ => False) := by
  refine Met.ofW (cc := cX6_askedOf) (maxL := 3) (ret := (some .int)) (by decide) rfl ?_
  intro p e s m args below meth c s₁ B hml hv
  obtain ⟨rfl, hP, hK⟩ := hv
  have hx := B.exec
  have hb := B.bytes
  have hr := B.returns
  have hts := atoms_spec (ws := Cond.code yX6_askedOf cX6_askedOf 3 (some .int) :: wsL_law) B.pre
  have htw : ∀ w ∈ wsL_law, w.before _ s = true := fun w h => hts w (List.mem_cons_of_mem _ h)
  have hown : s.vm.findClass RX6 = some m.cls := findClass_of_methodNamed B.named
  have hlocks := B.notSynchronized
  have hl := lv_entry ([.ref no, .int a0, .int a1]) (n := 3) (Nat.le_of_ble_eq_true rfl)
  rw [lg_entry_eq]
  generalize (lg_sl ([.ref no, .int a0, .int a1]) ++ List.replicate (3 - (lg_sl ([.ref no, .int a0, .int a1])).length) Slot.unset).toArray = ls at hl ⊢
  have hl : lv_has ls 3 [(0, .ref no), (1, .int a0), (2, .int a1)] := hl
  refine lv_aload_n hx hb dX6_askedOf_0 rfl (lv_at hl 0 rfl) ?_
  refine lv_iload_n hx hb dX6_askedOf_1 rfl (lv_at hl 1 rfl) ?_
  refine lv_iload_n hx hb dX6_askedOf_2 rfl (lv_at hl 2 rfl) ?_
  have hPc := hP.sub (ws' := [(eO6a no ns nsa nfa nza), (eA0 nsa cNs 12 fNs)]) [0, 1] rfl
  have hKc := hK.sub (tys' := [(cNs, .int)]) [0] rfl
  refine vp_callSi (W.runV (As := [.int a0, .int a1]) (rest := []) ⟨hx, hb, hml, hown, htw⟩ (gn_does l dC dI no ns nsa nfa nza cNs fNs a0 a1) (cwV 2 htw (xg_V (ck_56 _ (List.mem_of_getElem? (i := 13) rfl)) (ck_23 _ (List.mem_of_getElem? (i := 10) rfl)) (ck_23 _ (List.mem_of_getElem? (i := 11) rfl)) (ck_2 _ (List.mem_of_getElem? (i := 11) rfl)) (ck_23 _ (List.mem_of_getElem? (i := 12) rfl))) rfl rfl rfl (by exact ⟨rfl, hdc_3.1, hdc_3.2, hdd_8⟩) ⟨Nat.le_of_ble_eq_true rfl, Nat.le_of_ble_eq_true rfl⟩) ⟨fun a U g mk q => by obtain ⟨q0, qP, qK⟩ := q; exact ⟨q0, qP, va_K.moved (u := U) (U := U.calling g mk a) (Vm.Alike.refl U.vm) qK⟩, va_recv hKc hPc (ci := 6) (q0 := 0) rfl rfl, fun U hU hW => ⟨rfl, by rw [hU]; exact hPc, va_K.moved hW.alike hKc⟩⟩ rfl rfl hl.1 rfl (lv_room (Nat.le_of_ble_eq_true rfl)) dX6_askedOf_3 ⟨Nat.le_of_ble_eq_true rfl, Nat.le_of_ble_eq_true rfl⟩) (fun r_1 hw => ?_)
  try dsimp only at hw
  have hq_r_1 : r_1 = fn_does fNs a0 a1 := hw
  refine lv_if_eq (tgt := 18) hx hb dX6_askedOf_6 (by decide) (fun c_2 => ?_) (fun c_2 => ?_)
  · refine lv_iconst (v := (-1)) hx hb dX6_askedOf_18 (by decide) ?_
    exact W.iret (v := (-1)) hx hb hr (fun t ht hW => ⟨(-1), rfl, (by rw [fn_askedOf]; (try rw [← hq_r_1]); (try rw [if_pos c_2]); try rfl), ht⟩) (fun _ h => by cases h) dX6_askedOf_19
  · refine lv_aload_n hx hb dX6_askedOf_9 rfl (lv_at hl 0 rfl) ?_
    refine lv_iload_n hx hb dX6_askedOf_10 rfl (lv_at hl 1 rfl) ?_
    refine lv_iload_n hx hb dX6_askedOf_11 rfl (lv_at hl 2 rfl) ?_
    have hPc := hP.sub (ws' := [(eO6a no ns nsa nfa nza), (eA0 nfa cNf 96 fNf)]) [0, 2] rfl
    have hKc := hK.sub (tys' := [(cNf, .int)]) [1] rfl
    refine vp_callSi (W.runV (As := [.int a0, .int a1]) (rest := []) ⟨hx, hb, hml, hown, htw⟩ (gn_firstOf l dC dI no ns nsa nfa nza cNf fNf a0 a1) (cwV 2 htw (xg_V (ck_56 _ (List.mem_of_getElem? (i := 14) rfl)) (ck_55 _ (List.mem_of_getElem? (i := 5) rfl)) (ck_55 _ (List.mem_of_getElem? (i := 6) rfl)) (ck_2 _ (List.mem_of_getElem? (i := 11) rfl)) (ck_55 _ (List.mem_of_getElem? (i := 7) rfl))) rfl rfl rfl (by exact ⟨rfl, hdc_3.1, hdc_3.2, hdd_7⟩) ⟨Nat.le_of_ble_eq_true rfl, Nat.le_of_ble_eq_true rfl⟩) ⟨fun a U g mk q => by obtain ⟨q0, qP, qK⟩ := q; exact ⟨q0, qP, va_K.moved (u := U) (U := U.calling g mk a) (Vm.Alike.refl U.vm) qK⟩, va_recv hKc hPc (ci := 6) (q0 := 0) rfl rfl, fun U hU hW => ⟨rfl, by rw [hU]; exact hPc, va_K.moved hW.alike hKc⟩⟩ rfl rfl hl.1 rfl (lv_room (Nat.le_of_ble_eq_true rfl)) dX6_askedOf_12 ⟨Nat.le_of_ble_eq_true rfl, Nat.le_of_ble_eq_true rfl⟩) (fun r_3 hw => ?_)
    try dsimp only at hw
    have hq_r_3 : r_3 = fn_firstOf fNf a0 a1 := hw
    refine lv_goto (tgt := 19) hx hb dX6_askedOf_15 (by decide) ?_
    exact W.iret (v := r_3) hx hb hr (fun t ht hW => ⟨r_3, rfl, (by rw [fn_askedOf]; (try rw [← hq_r_1]); (try rw [← hq_r_3]); (try rw [if_neg c_2]); try rfl), ht⟩) (fun _ h => by cases h) dX6_askedOf_19
