def fb_find0_d (fTo : Nat → Int32) (fNm : Nat → Nat → Int32) (a1 : Int32) : Nat → (Int32) → Int32
  | 0, L3d => (if fTo ((0 : Int32).toNatClampNeg) ≤ L3d then (-1 : Int32) else (-1 : Int32))
  | n + 1, L3d => (if fTo ((0 : Int32).toNatClampNeg) ≤ L3d then (-1 : Int32) else (if 12 ≤ L3d then (-1 : Int32) else (if (fNm 0) L3d.toNatClampNeg = a1 then L3d else fb_find0_d fTo fNm a1 n (L3d + 1))))
def fb_find0 (fTo : Nat → Int32) (fNm : Nat → Nat → Int32) (a1 : Int32) : Int32 := fb_find0_d fTo fNm a1 12 (0 : Int32)
theorem gb_find0_s0 {y0 : Int32} {y1 : Int32} (h0 : ¬ (y1 ≤ y0)) (h1 : ¬ (12 ≤ y0)) (h2 : ¬ (y0 < 0)) : ¬ (y0 < 0) ∧ ¬ (12 ≤ y0) := ⟨h2, h1⟩
theorem gb_find0_s1 {y0 : Int32} {y1 : Int32} (h0 : ¬ (y1 ≤ y0)) (h1 : ¬ (12 ≤ y0)) (h2 : ¬ (y0 < 0)) : ¬ ((y0 + 1) < 0) := by lia
theorem gb_find0_s2  : ¬ ((0 : Int32) < 0) := (by decide)
theorem dX0_find_0 : decode cX0_find 0 = .ok (.iload_n 1, 1) := zk_27 (by decide +kernel)
theorem dX0_find_1 : decode cX0_find 1 = .ok (.ifCond .lt 8, 3) := zk_155 (by decide +kernel)
theorem dX0_find_4 : decode cX0_find 4 = .ok (.iload_n 1, 1) := zk_27 (by decide +kernel)
theorem dX0_find_5 : decode cX0_find 5 = .ok (.iconst 5, 1) := zk_8 (by decide +kernel)
theorem dX0_find_6 : decode cX0_find 6 = .ok (.if_icmp .lt 5, 3) := zk_161 (by decide +kernel)
theorem dX0_find_11 : decode cX0_find 11 = .ok (.iconst 0, 1) := zk_3 (by decide +kernel)
theorem dX0_find_12 : decode cX0_find 12 = .ok (.istore_n 3, 1) := zk_62 (by decide +kernel)
theorem dX0_find_13 : decode cX0_find 13 = .ok (.iload_n 3, 1) := zk_29 (by decide +kernel)
theorem dX0_find_14 : decode cX0_find 14 = .ok (.aload_n 0, 1) := zk_42 (by decide +kernel)
theorem dX0_find_15 : decode cX0_find 15 = .ok (.getfield 9, 3) := zk_180 (by decide +kernel)
theorem dX0_find_18 : decode cX0_find 18 = .ok (.iload_n 1, 1) := zk_27 (by decide +kernel)
theorem dX0_find_19 : decode cX0_find 19 = .ok (.iaload, 1) := zk_46 (by decide +kernel)
theorem dX0_find_20 : decode cX0_find 20 = .ok (.if_icmp .ge 34, 3) := zk_162 (by decide +kernel)
theorem dX0_find_54 : decode cX0_find 54 = .ok (.iconst (-1), 1) := zk_2 (by decide +kernel)
theorem dX0_find_55 : decode cX0_find 55 = .ok (.ireturn, 1) := zk_172 (by decide +kernel)
theorem dX0_find_23 : decode cX0_find 23 = .ok (.iload_n 3, 1) := zk_29 (by decide +kernel)
theorem dX0_find_24 : decode cX0_find 24 = .ok (.aload_n 0, 1) := zk_42 (by decide +kernel)
theorem dX0_find_25 : decode cX0_find 25 = .ok (.getfield 17, 3) := zk_180 (by decide +kernel)
theorem dX0_find_28 : decode cX0_find 28 = .ok (.iload_n 1, 1) := zk_27 (by decide +kernel)
theorem dX0_find_29 : decode cX0_find 29 = .ok (.aaload, 1) := zk_50 (by decide +kernel)
theorem dX0_find_30 : decode cX0_find 30 = .ok (.arraylength, 1) := zk_190 (by decide +kernel)
theorem dX0_find_31 : decode cX0_find 31 = .ok (.if_icmp .ge 23, 3) := zk_162 (by decide +kernel)
theorem dX0_find_34 : decode cX0_find 34 = .ok (.aload_n 0, 1) := zk_42 (by decide +kernel)
theorem dX0_find_35 : decode cX0_find 35 = .ok (.getfield 17, 3) := zk_180 (by decide +kernel)
theorem dX0_find_38 : decode cX0_find 38 = .ok (.iload_n 1, 1) := zk_27 (by decide +kernel)
theorem dX0_find_39 : decode cX0_find 39 = .ok (.aaload, 1) := zk_50 (by decide +kernel)
theorem dX0_find_40 : decode cX0_find 40 = .ok (.iload_n 3, 1) := zk_29 (by decide +kernel)
theorem dX0_find_41 : decode cX0_find 41 = .ok (.iaload, 1) := zk_46 (by decide +kernel)
theorem dX0_find_42 : decode cX0_find 42 = .ok (.iload_n 2, 1) := zk_28 (by decide +kernel)
theorem dX0_find_43 : decode cX0_find 43 = .ok (.if_icmp .ne 5, 3) := zk_160 (by decide +kernel)
theorem dX0_find_48 : decode cX0_find 48 = .ok (.iinc 3 1, 3) := zk_132 (by decide +kernel)
theorem dX0_find_51 : decode cX0_find 51 = .ok (.goto (-38), 3) := zk_167 (by decide +kernel)
theorem dX0_find_46 : decode cX0_find 46 = .ok (.iload_n 3, 1) := zk_29 (by decide +kernel)
theorem dX0_find_47 : decode cX0_find 47 = .ok (.ireturn, 1) := zk_172 (by decide +kernel)
set_option maxHeartbeats 4000000 in
set_option maxRecDepth 100000 in
theorem gb_find0 (l : Launch) (dC : Nat → ClassId) (dI : Nat → Nat → Nat) (bk : Nat) (bto : Nat) (bnm : Nat) (bla : Nat) (bsk : Nat) (bru : Nat) (bbo : Nat) (bdi : Nat) (bda : Nat) (bdk : Nat) (bdt : Nat) (bdp : Nat) (bno : Nat) (cTo : ClassId) (fTo : Nat → Int32) (cNm : ClassId) (Nm : Nat → Nat) (cNr : ClassId) (fNm : Nat → Nat → Int32) (a1 : Int32) : Met l yX0_find (Cond.code yX0_find cX0_find 4 (some .int) :: wsL_law) ({ frames := 0, cells := 0, slots := 0, locals := 0 }) (va_Pc [.ref bk, .int 0, .int a1] (fun U => va_P (dC, dI) vwCl [(eO0a bk bto bnm bla bsk bru bbo bdi bda bdk bdt bdp bno), (eA0 bto cTo 5 fTo), (eA4 bnm cNm 5 (fun k => some (Nm k))), (eA0 (Nm 0) cNr 12 (fNm 0))] U.heap ∧ va_K (dC, dI) vwCl [(cTo, .int), (cNm, .array .int), (cNr, .int)] U)) (vp_Si (fun r => r = fb_find0 fTo fNm a1)) 0 0 (fun _ => False) := by
  refine Met.ofW (cc := cX0_find) (maxL := 4) (ret := (some .int)) (by decide) rfl ?_
  intro p e s m args below meth c s₁ B hml hv
  obtain ⟨rfl, hP, hK⟩ := hv
  have hx := B.exec
  have hb := B.bytes
  have hr := B.returns
  have hts := atoms_spec (ws := Cond.code yX0_find cX0_find 4 (some .int) :: wsL_law) B.pre
  have htw : ∀ w ∈ wsL_law, w.before _ s = true := fun w h => hts w (List.mem_cons_of_mem _ h)
  have hown : s.vm.findClass RX0 = some m.cls := findClass_of_methodNamed B.named
  have hlocks := B.notSynchronized
  have hl := lv_entry ([.ref bk, .int 0, .int a1]) (n := 4) (Nat.le_of_ble_eq_true rfl)
  rw [lg_entry_eq]
  generalize (lg_sl ([.ref bk, .int 0, .int a1]) ++ List.replicate (4 - (lg_sl ([.ref bk, .int 0, .int a1])).length) Slot.unset).toArray = ls at hl ⊢
  have hl : lv_has ls 4 [(0, .ref bk), (1, .int 0), (2, .int a1)] := hl
  refine lv_iload_n hx hb dX0_find_0 rfl (lv_at hl 1 rfl) ?_
  refine lv_if_lt (tgt := 9) hx hb dX0_find_1 (by decide) (fun c => absurd c (by decide)) (fun _ => ?_)
  refine lv_iload_n hx hb dX0_find_4 rfl (lv_at hl 1 rfl) ?_
  refine lv_iconst (v := 5) hx hb dX0_find_5 (by decide) ?_
  refine lv_icmp_lt (tgt := 11) hx hb dX0_find_6 (by decide) (fun _ => ?_) (fun c => absurd c (by decide))
  refine lv_iconst (v := 0) hx hb dX0_find_11 (by decide) ?_
  refine lv_istore_n (lv' := [(3, .int 0), (0, .ref bk), (1, .int 0), (2, .int a1)]) hx hb dX0_find_12 rfl hl (by decide) rfl (fun ls hl => ?_)
  have hloop_1 : ∀ (n : Nat) (L3d : Int32) (h0_d : ¬ L3d < 0) (hf_d : (12 : Int32).toInt ≤ L3d.toInt + (n : Int)) (hI_d : fb_find0 fTo fNm a1 = fb_find0_d fTo fNm a1 n L3d) (ls : Array Slot) (hl : lv_has ls 4 [(3, .int L3d), (0, .ref bk), (1, .int 0), (2, .int a1)]), W p l e (headSpec (Cond.code yX0_find cX0_find 4 (some .int) :: wsL_law) ({ frames := 0, cells := 0, slots := 0, locals := 0 })).room s m ([.ref bk, .int 0, .int a1] : List Value).toArray below meth c s.heap [] 0 0 (MQ below (vp_Si (fun r => r = fb_find0 fTo fNm a1)) ([.ref bk, .int 0, .int a1] : List Value).toArray s 0 0 (fun _ => False)) (F0 m 13 ls []) := by
    intro n
    induction n with
    | zero =>
      intro L3d h0_d hf_d hI_d ls hl
      refine lv_iload_n hx hb dX0_find_13 rfl (lv_at hl 0 rfl) ?_
      refine lv_aload_n hx hb dX0_find_14 rfl (lv_at hl 1 rfl) ?_
      refine va_get (D := (dC, dI)) (ci := 0) (v := .ref bto) (C := RX0) (T := TX0) (N := 12) hx hb htw inlX0 hown hK hP 0 rfl rfl 0 (by decide) (htw _ (ck_5 _ (List.mem_of_getElem? (i := 21) rfl))) (fun _ h9 => h9) rfl dX0_find_15 ?_
      refine lv_iload_n hx hb dX0_find_18 rfl (lv_at hl 2 rfl) ?_
      refine va_iald hx hb hK hP 1 0 rfl rfl (by unfold vp_in; decide) dX0_find_19 ?_
      refine lv_icmp_ge (tgt := 54) hx hb dX0_find_20 (by decide) (fun c_2 => ?_) (fun c_2 => ?_)
      · refine lv_iconst (v := (-1)) hx hb dX0_find_54 (by decide) ?_
        exact W.iret (v := (-1)) hx hb hr (fun t ht hW => ⟨(-1), rfl, (Eq.symm (hI_d.trans (by rw [fb_find0_d]; (try rw [if_pos c_2]); try rfl))), ht⟩) (fun _ h => by cases h) dX0_find_55
      · refine lv_iload_n hx hb dX0_find_23 rfl (lv_at hl 0 rfl) ?_
        refine lv_aload_n hx hb dX0_find_24 rfl (lv_at hl 1 rfl) ?_
        refine va_get (D := (dC, dI)) (ci := 0) (v := .ref bnm) (C := RX0) (T := TX0) (N := 12) hx hb htw inlX0 hown hK hP 0 rfl rfl 1 (by decide) (htw _ (ck_5 _ (List.mem_of_getElem? (i := 23) rfl))) (fun _ h9 => h9) rfl dX0_find_25 ?_
        refine lv_iload_n hx hb dX0_find_28 rfl (lv_at hl 2 rfl) ?_
        refine xg_aldq hx hb hK hP 2 1 rfl rfl rfl (by unfold vp_in; decide) dX0_find_29 ?_
        refine W.eq (g2 := F0 m 30 ls [.ref (Nm 0), .int L3d]) rfl ?_
        refine va_alen hx hb hK hP 3 2 rfl rfl (v := 12) rfl dX0_find_30 ?_
        refine lv_icmp_ge (tgt := 54) hx hb dX0_find_31 (by decide) (fun c_3 => ?_) (fun c_3 => absurd c_3 (fun h => h (xi_z hf_d)))
        refine lv_iconst (v := (-1)) hx hb dX0_find_54 (by decide) ?_
        exact W.iret (v := (-1)) hx hb hr (fun t ht hW => ⟨(-1), rfl, (Eq.symm (hI_d.trans (by rw [fb_find0_d]; (try rw [if_neg c_2]); try rfl))), ht⟩) (fun _ h => by cases h) dX0_find_55
    | succ n ih =>
      intro L3d h0_d hf_d hI_d ls hl
      refine lv_iload_n hx hb dX0_find_13 rfl (lv_at hl 0 rfl) ?_
      refine lv_aload_n hx hb dX0_find_14 rfl (lv_at hl 1 rfl) ?_
      refine va_get (D := (dC, dI)) (ci := 0) (v := .ref bto) (C := RX0) (T := TX0) (N := 12) hx hb htw inlX0 hown hK hP 0 rfl rfl 0 (by decide) (htw _ (ck_5 _ (List.mem_of_getElem? (i := 21) rfl))) (fun _ h9 => h9) rfl dX0_find_15 ?_
      refine lv_iload_n hx hb dX0_find_18 rfl (lv_at hl 2 rfl) ?_
      refine va_iald hx hb hK hP 1 0 rfl rfl (by unfold vp_in; decide) dX0_find_19 ?_
      refine lv_icmp_ge (tgt := 54) hx hb dX0_find_20 (by decide) (fun c_4 => ?_) (fun c_4 => ?_)
      · refine lv_iconst (v := (-1)) hx hb dX0_find_54 (by decide) ?_
        exact W.iret (v := (-1)) hx hb hr (fun t ht hW => ⟨(-1), rfl, (Eq.symm (hI_d.trans (by rw [fb_find0_d]; (try rw [if_pos c_4]); try rfl))), ht⟩) (fun _ h => by cases h) dX0_find_55
      · refine lv_iload_n hx hb dX0_find_23 rfl (lv_at hl 0 rfl) ?_
        refine lv_aload_n hx hb dX0_find_24 rfl (lv_at hl 1 rfl) ?_
        refine va_get (D := (dC, dI)) (ci := 0) (v := .ref bnm) (C := RX0) (T := TX0) (N := 12) hx hb htw inlX0 hown hK hP 0 rfl rfl 1 (by decide) (htw _ (ck_5 _ (List.mem_of_getElem? (i := 23) rfl))) (fun _ h9 => h9) rfl dX0_find_25 ?_
        refine lv_iload_n hx hb dX0_find_28 rfl (lv_at hl 2 rfl) ?_
        refine xg_aldq hx hb hK hP 2 1 rfl rfl rfl (by unfold vp_in; decide) dX0_find_29 ?_
        refine W.eq (g2 := F0 m 30 ls [.ref (Nm 0), .int L3d]) rfl ?_
        refine va_alen hx hb hK hP 3 2 rfl rfl (v := 12) rfl dX0_find_30 ?_
        refine lv_icmp_ge (tgt := 54) hx hb dX0_find_31 (by decide) (fun c_5 => ?_) (fun c_5 => ?_)
        · refine lv_iconst (v := (-1)) hx hb dX0_find_54 (by decide) ?_
          exact W.iret (v := (-1)) hx hb hr (fun t ht hW => ⟨(-1), rfl, (Eq.symm (hI_d.trans (by rw [fb_find0_d]; (try rw [if_neg c_4]); (try rw [if_pos c_5]); try rfl))), ht⟩) (fun _ h => by cases h) dX0_find_55
        · refine lv_aload_n hx hb dX0_find_34 rfl (lv_at hl 1 rfl) ?_
          refine va_get (D := (dC, dI)) (ci := 0) (v := .ref bnm) (C := RX0) (T := TX0) (N := 12) hx hb htw inlX0 hown hK hP 0 rfl rfl 1 (by decide) (htw _ (ck_5 _ (List.mem_of_getElem? (i := 23) rfl))) (fun _ h9 => h9) rfl dX0_find_35 ?_
          refine lv_iload_n hx hb dX0_find_38 rfl (lv_at hl 2 rfl) ?_
          refine xg_aldq hx hb hK hP 2 1 rfl rfl rfl (by unfold vp_in; decide) dX0_find_39 ?_
          refine W.eq (g2 := F0 m 40 ls [.ref (Nm 0)]) rfl ?_
          refine lv_iload_n hx hb dX0_find_40 rfl (lv_at hl 0 rfl) ?_
          refine va_iald hx hb hK hP 3 2 rfl rfl (xg_inr (N := 12) rfl (gb_find0_s0 (y0 := L3d) (y1 := fTo ((0 : Int32).toNatClampNeg)) c_4 c_5 h0_d).1 (gb_find0_s0 (y0 := L3d) (y1 := fTo ((0 : Int32).toNatClampNeg)) c_4 c_5 h0_d).2) dX0_find_41 ?_
          refine lv_iload_n hx hb dX0_find_42 rfl (lv_at hl 3 rfl) ?_
          refine lv_icmp_ne (tgt := 48) hx hb dX0_find_43 (by decide) (fun c_6 => ?_) (fun c_6 => ?_)
          · refine lv_iinc (v := (L3d + 1)) (lv' := [(3, .int (L3d + 1)), (0, .ref bk), (1, .int 0), (2, .int a1)]) hx hb dX0_find_48 hl (k := 0) rfl (rfl) (by decide) rfl (fun ls hl => ?_)
            refine lv_goto (tgt := 13) hx hb dX0_find_51 (by decide) ?_
            exact ih (L3d + 1) (gb_find0_s1 (y0 := L3d) (y1 := fTo ((0 : Int32).toNatClampNeg)) c_4 c_5 h0_d) (by rw [xi_s' c_5]; omega) (hI_d.trans (by rw [fb_find0_d]; (try rw [if_neg c_4]); (try rw [if_neg c_5]); (try rw [if_neg c_6]); try rfl)) ls (lv_sub hl [0, 1, 2, 3] rfl)
          · refine lv_iload_n hx hb dX0_find_46 rfl (lv_at hl 0 rfl) ?_
            exact W.iret (v := L3d) hx hb hr (fun t ht hW => ⟨L3d, rfl, (Eq.symm (hI_d.trans (by rw [fb_find0_d]; (try rw [if_neg c_4]); (try rw [if_neg c_5]); (try rw [if_pos c_6]); try rfl))), ht⟩) (fun _ h => by cases h) dX0_find_47
  exact hloop_1 12 (0 : Int32) (gb_find0_s2 ) (by decide) ((by rw [fb_find0])) ls (lv_sub hl [0, 1, 2, 3] rfl)

def fb_find1_d (fTo : Nat → Int32) (fNm : Nat → Nat → Int32) (a1 : Int32) : Nat → (Int32) → Int32
  | 0, L3d => (if fTo ((1 : Int32).toNatClampNeg) ≤ L3d then (-1 : Int32) else (-1 : Int32))
  | n + 1, L3d => (if fTo ((1 : Int32).toNatClampNeg) ≤ L3d then (-1 : Int32) else (if 12 ≤ L3d then (-1 : Int32) else (if (fNm 1) L3d.toNatClampNeg = a1 then L3d else fb_find1_d fTo fNm a1 n (L3d + 1))))
def fb_find1 (fTo : Nat → Int32) (fNm : Nat → Nat → Int32) (a1 : Int32) : Int32 := fb_find1_d fTo fNm a1 12 (0 : Int32)
theorem gb_find1_s0 {y0 : Int32} {y1 : Int32} (h0 : ¬ (y1 ≤ y0)) (h1 : ¬ (12 ≤ y0)) (h2 : ¬ (y0 < 0)) : ¬ (y0 < 0) ∧ ¬ (12 ≤ y0) := ⟨h2, h1⟩
theorem gb_find1_s1 {y0 : Int32} {y1 : Int32} (h0 : ¬ (y1 ≤ y0)) (h1 : ¬ (12 ≤ y0)) (h2 : ¬ (y0 < 0)) : ¬ ((y0 + 1) < 0) := by lia
theorem gb_find1_s2  : ¬ ((0 : Int32) < 0) := (by decide)
set_option maxHeartbeats 4000000 in
set_option maxRecDepth 100000 in
theorem gb_find1 (l : Launch) (dC : Nat → ClassId) (dI : Nat → Nat → Nat) (bk : Nat) (bto : Nat) (bnm : Nat) (bla : Nat) (bsk : Nat) (bru : Nat) (bbo : Nat) (bdi : Nat) (bda : Nat) (bdk : Nat) (bdt : Nat) (bdp : Nat) (bno : Nat) (cTo : ClassId) (fTo : Nat → Int32) (cNm : ClassId) (Nm : Nat → Nat) (cNr : ClassId) (fNm : Nat → Nat → Int32) (a1 : Int32) : Met l yX0_find (Cond.code yX0_find cX0_find 4 (some .int) :: wsL_law) ({ frames := 0, cells := 0, slots := 0, locals := 0 }) (va_Pc [.ref bk, .int 1, .int a1] (fun U => va_P (dC, dI) vwCl [(eO0a bk bto bnm bla bsk bru bbo bdi bda bdk bdt bdp bno), (eA0 bto cTo 5 fTo), (eA4 bnm cNm 5 (fun k => some (Nm k))), (eA0 (Nm 1) cNr 12 (fNm 1))] U.heap ∧ va_K (dC, dI) vwCl [(cTo, .int), (cNm, .array .int), (cNr, .int)] U)) (vp_Si (fun r => r = fb_find1 fTo fNm a1)) 0 0 (fun _ => False) := by
  refine Met.ofW (cc := cX0_find) (maxL := 4) (ret := (some .int)) (by decide) rfl ?_
  intro p e s m args below meth c s₁ B hml hv
  obtain ⟨rfl, hP, hK⟩ := hv
  have hx := B.exec
  have hb := B.bytes
  have hr := B.returns
  have hts := atoms_spec (ws := Cond.code yX0_find cX0_find 4 (some .int) :: wsL_law) B.pre
  have htw : ∀ w ∈ wsL_law, w.before _ s = true := fun w h => hts w (List.mem_cons_of_mem _ h)
  have hown : s.vm.findClass RX0 = some m.cls := findClass_of_methodNamed B.named
  have hlocks := B.notSynchronized
  have hl := lv_entry ([.ref bk, .int 1, .int a1]) (n := 4) (Nat.le_of_ble_eq_true rfl)
  rw [lg_entry_eq]
  generalize (lg_sl ([.ref bk, .int 1, .int a1]) ++ List.replicate (4 - (lg_sl ([.ref bk, .int 1, .int a1])).length) Slot.unset).toArray = ls at hl ⊢
  have hl : lv_has ls 4 [(0, .ref bk), (1, .int 1), (2, .int a1)] := hl
  refine lv_iload_n hx hb dX0_find_0 rfl (lv_at hl 1 rfl) ?_
  refine lv_if_lt (tgt := 9) hx hb dX0_find_1 (by decide) (fun c => absurd c (by decide)) (fun _ => ?_)
  refine lv_iload_n hx hb dX0_find_4 rfl (lv_at hl 1 rfl) ?_
  refine lv_iconst (v := 5) hx hb dX0_find_5 (by decide) ?_
  refine lv_icmp_lt (tgt := 11) hx hb dX0_find_6 (by decide) (fun _ => ?_) (fun c => absurd c (by decide))
  refine lv_iconst (v := 0) hx hb dX0_find_11 (by decide) ?_
  refine lv_istore_n (lv' := [(3, .int 0), (0, .ref bk), (1, .int 1), (2, .int a1)]) hx hb dX0_find_12 rfl hl (by decide) rfl (fun ls hl => ?_)
  have hloop_1 : ∀ (n : Nat) (L3d : Int32) (h0_d : ¬ L3d < 0) (hf_d : (12 : Int32).toInt ≤ L3d.toInt + (n : Int)) (hI_d : fb_find1 fTo fNm a1 = fb_find1_d fTo fNm a1 n L3d) (ls : Array Slot) (hl : lv_has ls 4 [(3, .int L3d), (0, .ref bk), (1, .int 1), (2, .int a1)]), W p l e (headSpec (Cond.code yX0_find cX0_find 4 (some .int) :: wsL_law) ({ frames := 0, cells := 0, slots := 0, locals := 0 })).room s m ([.ref bk, .int 1, .int a1] : List Value).toArray below meth c s.heap [] 0 0 (MQ below (vp_Si (fun r => r = fb_find1 fTo fNm a1)) ([.ref bk, .int 1, .int a1] : List Value).toArray s 0 0 (fun _ => False)) (F0 m 13 ls []) := by
    intro n
    induction n with
    | zero =>
      intro L3d h0_d hf_d hI_d ls hl
      refine lv_iload_n hx hb dX0_find_13 rfl (lv_at hl 0 rfl) ?_
      refine lv_aload_n hx hb dX0_find_14 rfl (lv_at hl 1 rfl) ?_
      refine va_get (D := (dC, dI)) (ci := 0) (v := .ref bto) (C := RX0) (T := TX0) (N := 12) hx hb htw inlX0 hown hK hP 0 rfl rfl 0 (by decide) (htw _ (ck_5 _ (List.mem_of_getElem? (i := 21) rfl))) (fun _ h9 => h9) rfl dX0_find_15 ?_
      refine lv_iload_n hx hb dX0_find_18 rfl (lv_at hl 2 rfl) ?_
      refine va_iald hx hb hK hP 1 0 rfl rfl (by unfold vp_in; decide) dX0_find_19 ?_
      refine lv_icmp_ge (tgt := 54) hx hb dX0_find_20 (by decide) (fun c_2 => ?_) (fun c_2 => ?_)
      · refine lv_iconst (v := (-1)) hx hb dX0_find_54 (by decide) ?_
        exact W.iret (v := (-1)) hx hb hr (fun t ht hW => ⟨(-1), rfl, (Eq.symm (hI_d.trans (by rw [fb_find1_d]; (try rw [if_pos c_2]); try rfl))), ht⟩) (fun _ h => by cases h) dX0_find_55
      · refine lv_iload_n hx hb dX0_find_23 rfl (lv_at hl 0 rfl) ?_
        refine lv_aload_n hx hb dX0_find_24 rfl (lv_at hl 1 rfl) ?_
        refine va_get (D := (dC, dI)) (ci := 0) (v := .ref bnm) (C := RX0) (T := TX0) (N := 12) hx hb htw inlX0 hown hK hP 0 rfl rfl 1 (by decide) (htw _ (ck_5 _ (List.mem_of_getElem? (i := 23) rfl))) (fun _ h9 => h9) rfl dX0_find_25 ?_
        refine lv_iload_n hx hb dX0_find_28 rfl (lv_at hl 2 rfl) ?_
        refine xg_aldq hx hb hK hP 2 1 rfl rfl rfl (by unfold vp_in; decide) dX0_find_29 ?_
        refine W.eq (g2 := F0 m 30 ls [.ref (Nm 1), .int L3d]) rfl ?_
        refine va_alen hx hb hK hP 3 2 rfl rfl (v := 12) rfl dX0_find_30 ?_
        refine lv_icmp_ge (tgt := 54) hx hb dX0_find_31 (by decide) (fun c_3 => ?_) (fun c_3 => absurd c_3 (fun h => h (xi_z hf_d)))
        refine lv_iconst (v := (-1)) hx hb dX0_find_54 (by decide) ?_
        exact W.iret (v := (-1)) hx hb hr (fun t ht hW => ⟨(-1), rfl, (Eq.symm (hI_d.trans (by rw [fb_find1_d]; (try rw [if_neg c_2]); try rfl))), ht⟩) (fun _ h => by cases h) dX0_find_55
    | succ n ih =>
      intro L3d h0_d hf_d hI_d ls hl
      refine lv_iload_n hx hb dX0_find_13 rfl (lv_at hl 0 rfl) ?_
      refine lv_aload_n hx hb dX0_find_14 rfl (lv_at hl 1 rfl) ?_
      refine va_get (D := (dC, dI)) (ci := 0) (v := .ref bto) (C := RX0) (T := TX0) (N := 12) hx hb htw inlX0 hown hK hP 0 rfl rfl 0 (by decide) (htw _ (ck_5 _ (List.mem_of_getElem? (i := 21) rfl))) (fun _ h9 => h9) rfl dX0_find_15 ?_
      refine lv_iload_n hx hb dX0_find_18 rfl (lv_at hl 2 rfl) ?_
      refine va_iald hx hb hK hP 1 0 rfl rfl (by unfold vp_in; decide) dX0_find_19 ?_
      refine lv_icmp_ge (tgt := 54) hx hb dX0_find_20 (by decide) (fun c_4 => ?_) (fun c_4 => ?_)
      · refine lv_iconst (v := (-1)) hx hb dX0_find_54 (by decide) ?_
        exact W.iret (v := (-1)) hx hb hr (fun t ht hW => ⟨(-1), rfl, (Eq.symm (hI_d.trans (by rw [fb_find1_d]; (try rw [if_pos c_4]); try rfl))), ht⟩) (fun _ h => by cases h) dX0_find_55
      · refine lv_iload_n hx hb dX0_find_23 rfl (lv_at hl 0 rfl) ?_
        refine lv_aload_n hx hb dX0_find_24 rfl (lv_at hl 1 rfl) ?_
        refine va_get (D := (dC, dI)) (ci := 0) (v := .ref bnm) (C := RX0) (T := TX0) (N := 12) hx hb htw inlX0 hown hK hP 0 rfl rfl 1 (by decide) (htw _ (ck_5 _ (List.mem_of_getElem? (i := 23) rfl))) (fun _ h9 => h9) rfl dX0_find_25 ?_
        refine lv_iload_n hx hb dX0_find_28 rfl (lv_at hl 2 rfl) ?_
        refine xg_aldq hx hb hK hP 2 1 rfl rfl rfl (by unfold vp_in; decide) dX0_find_29 ?_
        refine W.eq (g2 := F0 m 30 ls [.ref (Nm 1), .int L3d]) rfl ?_
        refine va_alen hx hb hK hP 3 2 rfl rfl (v := 12) rfl dX0_find_30 ?_
        refine lv_icmp_ge (tgt := 54) hx hb dX0_find_31 (by decide) (fun c_5 => ?_) (fun c_5 => ?_)
        · refine lv_iconst (v := (-1)) hx hb dX0_find_54 (by decide) ?_
          exact W.iret (v := (-1)) hx hb hr (fun t ht hW => ⟨(-1), rfl, (Eq.symm (hI_d.trans (by rw [fb_find1_d]; (try rw [if_neg c_4]); (try rw [if_pos c_5]); try rfl))), ht⟩) (fun _ h => by cases h) dX0_find_55
        · refine lv_aload_n hx hb dX0_find_34 rfl (lv_at hl 1 rfl) ?_
          refine va_get (D := (dC, dI)) (ci := 0) (v := .ref bnm) (C := RX0) (T := TX0) (N := 12) hx hb htw inlX0 hown hK hP 0 rfl rfl 1 (by decide) (htw _ (ck_5 _ (List.mem_of_getElem? (i := 23) rfl))) (fun _ h9 => h9) rfl dX0_find_35 ?_
          refine lv_iload_n hx hb dX0_find_38 rfl (lv_at hl 2 rfl) ?_
          refine xg_aldq hx hb hK hP 2 1 rfl rfl rfl (by unfold vp_in; decide) dX0_find_39 ?_
          refine W.eq (g2 := F0 m 40 ls [.ref (Nm 1)]) rfl ?_
          refine lv_iload_n hx hb dX0_find_40 rfl (lv_at hl 0 rfl) ?_
          refine va_iald hx hb hK hP 3 2 rfl rfl (xg_inr (N := 12) rfl (gb_find1_s0 (y0 := L3d) (y1 := fTo ((1 : Int32).toNatClampNeg)) c_4 c_5 h0_d).1 (gb_find1_s0 (y0 := L3d) (y1 := fTo ((1 : Int32).toNatClampNeg)) c_4 c_5 h0_d).2) dX0_find_41 ?_
          refine lv_iload_n hx hb dX0_find_42 rfl (lv_at hl 3 rfl) ?_
          refine lv_icmp_ne (tgt := 48) hx hb dX0_find_43 (by decide) (fun c_6 => ?_) (fun c_6 => ?_)
          · refine lv_iinc (v := (L3d + 1)) (lv' := [(3, .int (L3d + 1)), (0, .ref bk), (1, .int 1), (2, .int a1)]) hx hb dX0_find_48 hl (k := 0) rfl (rfl) (by decide) rfl (fun ls hl => ?_)
            refine lv_goto (tgt := 13) hx hb dX0_find_51 (by decide) ?_
            exact ih (L3d + 1) (gb_find1_s1 (y0 := L3d) (y1 := fTo ((1 : Int32).toNatClampNeg)) c_4 c_5 h0_d) (by rw [xi_s' c_5]; omega) (hI_d.trans (by rw [fb_find1_d]; (try rw [if_neg c_4]); (try rw [if_neg c_5]); (try rw [if_neg c_6]); try rfl)) ls (lv_sub hl [0, 1, 2, 3] rfl)
          · refine lv_iload_n hx hb dX0_find_46 rfl (lv_at hl 0 rfl) ?_
            exact W.iret (v := L3d) hx hb hr (fun t ht hW => ⟨L3d, rfl, (Eq.symm (hI_d.trans (by rw [fb_find1_d]; (try rw [if_neg c_4]); (try rw [if_neg c_5]); (try rw [if_pos c_6]); try rfl))), ht⟩) (fun _ h => by cases h) dX0_find_47
  exact hloop_1 12 (0 : Int32) (gb_find1_s2 ) (by decide) ((by rw [fb_find1])) ls (lv_sub hl [0, 1, 2, 3] rfl)

def fb_find2_d (fTo : Nat → Int32) (fNm : Nat → Nat → Int32) (a1 : Int32) : Nat → (Int32) → Int32
  | 0, L3d => (if fTo ((2 : Int32).toNatClampNeg) ≤ L3d then (-1 : Int32) else (-1 : Int32))
  | n + 1, L3d => (if fTo ((2 : Int32).toNatClampNeg) ≤ L3d then (-1 : Int32) else (if 12 ≤ L3d then (-1 : Int32) else (if (fNm 2) L3d.toNatClampNeg = a1 then L3d else fb_find2_d fTo fNm a1 n (L3d + 1))))
def fb_find2 (fTo : Nat → Int32) (fNm : Nat → Nat → Int32) (a1 : Int32) : Int32 := fb_find2_d fTo fNm a1 12 (0 : Int32)
theorem gb_find2_s0 {y0 : Int32} {y1 : Int32} (h0 : ¬ (y1 ≤ y0)) (h1 : ¬ (12 ≤ y0)) (h2 : ¬ (y0 < 0)) : ¬ (y0 < 0) ∧ ¬ (12 ≤ y0) := ⟨h2, h1⟩
theorem gb_find2_s1 {y0 : Int32} {y1 : Int32} (h0 : ¬ (y1 ≤ y0)) (h1 : ¬ (12 ≤ y0)) (h2 : ¬ (y0 < 0)) : ¬ ((y0 + 1) < 0) := by lia
theorem gb_find2_s2  : ¬ ((0 : Int32) < 0) := (by decide)
set_option maxHeartbeats 4000000 in
set_option maxRecDepth 100000 in
theorem gb_find2 (l : Launch) (dC : Nat → ClassId) (dI : Nat → Nat → Nat) (bk : Nat) (bto : Nat) (bnm : Nat) (bla : Nat) (bsk : Nat) (bru : Nat) (bbo : Nat) (bdi : Nat) (bda : Nat) (bdk : Nat) (bdt : Nat) (bdp : Nat) (bno : Nat) (cTo : ClassId) (fTo : Nat → Int32) (cNm : ClassId) (Nm : Nat → Nat) (cNr : ClassId) (fNm : Nat → Nat → Int32) (a1 : Int32) : Met l yX0_find (Cond.code yX0_find cX0_find 4 (some .int) :: wsL_law) ({ frames := 0, cells := 0, slots := 0, locals := 0 }) (va_Pc [.ref bk, .int 2, .int a1] (fun U => va_P (dC, dI) vwCl [(eO0a bk bto bnm bla bsk bru bbo bdi bda bdk bdt bdp bno), (eA0 bto cTo 5 fTo), (eA4 bnm cNm 5 (fun k => some (Nm k))), (eA0 (Nm 2) cNr 12 (fNm 2))] U.heap ∧ va_K (dC, dI) vwCl [(cTo, .int), (cNm, .array .int), (cNr, .int)] U)) (vp_Si (fun r => r = fb_find2 fTo fNm a1)) 0 0 (fun _ => False) := by
  refine Met.ofW (cc := cX0_find) (maxL := 4) (ret := (some .int)) (by decide) rfl ?_
  intro p e s m args below meth c s₁ B hml hv
  obtain ⟨rfl, hP, hK⟩ := hv
  have hx := B.exec
  have hb := B.bytes
  have hr := B.returns
  have hts := atoms_spec (ws := Cond.code yX0_find cX0_find 4 (some .int) :: wsL_law) B.pre
  have htw : ∀ w ∈ wsL_law, w.before _ s = true := fun w h => hts w (List.mem_cons_of_mem _ h)
  have hown : s.vm.findClass RX0 = some m.cls := findClass_of_methodNamed B.named
  have hlocks := B.notSynchronized
  have hl := lv_entry ([.ref bk, .int 2, .int a1]) (n := 4) (Nat.le_of_ble_eq_true rfl)
  rw [lg_entry_eq]
  generalize (lg_sl ([.ref bk, .int 2, .int a1]) ++ List.replicate (4 - (lg_sl ([.ref bk, .int 2, .int a1])).length) Slot.unset).toArray = ls at hl ⊢
  have hl : lv_has ls 4 [(0, .ref bk), (1, .int 2), (2, .int a1)] := hl
  refine lv_iload_n hx hb dX0_find_0 rfl (lv_at hl 1 rfl) ?_
  refine lv_if_lt (tgt := 9) hx hb dX0_find_1 (by decide) (fun c => absurd c (by decide)) (fun _ => ?_)
  refine lv_iload_n hx hb dX0_find_4 rfl (lv_at hl 1 rfl) ?_
  refine lv_iconst (v := 5) hx hb dX0_find_5 (by decide) ?_
  refine lv_icmp_lt (tgt := 11) hx hb dX0_find_6 (by decide) (fun _ => ?_) (fun c => absurd c (by decide))
  refine lv_iconst (v := 0) hx hb dX0_find_11 (by decide) ?_
  refine lv_istore_n (lv' := [(3, .int 0), (0, .ref bk), (1, .int 2), (2, .int a1)]) hx hb dX0_find_12 rfl hl (by decide) rfl (fun ls hl => ?_)
  have hloop_1 : ∀ (n : Nat) (L3d : Int32) (h0_d : ¬ L3d < 0) (hf_d : (12 : Int32).toInt ≤ L3d.toInt + (n : Int)) (hI_d : fb_find2 fTo fNm a1 = fb_find2_d fTo fNm a1 n L3d) (ls : Array Slot) (hl : lv_has ls 4 [(3, .int L3d), (0, .ref bk), (1, .int 2), (2, .int a1)]), W p l e (headSpec (Cond.code yX0_find cX0_find 4 (some .int) :: wsL_law) ({ frames := 0, cells := 0, slots := 0, locals := 0 })).room s m ([.ref bk, .int 2, .int a1] : List Value).toArray below meth c s.heap [] 0 0 (MQ below (vp_Si (fun r => r = fb_find2 fTo fNm a1)) ([.ref bk, .int 2, .int a1] : List Value).toArray s 0 0 (fun _ => False)) (F0 m 13 ls []) := by
    intro n
    induction n with
    | zero =>
      intro L3d h0_d hf_d hI_d ls hl
      refine lv_iload_n hx hb dX0_find_13 rfl (lv_at hl 0 rfl) ?_
      refine lv_aload_n hx hb dX0_find_14 rfl (lv_at hl 1 rfl) ?_
      refine va_get (D := (dC, dI)) (ci := 0) (v := .ref bto) (C := RX0) (T := TX0) (N := 12) hx hb htw inlX0 hown hK hP 0 rfl rfl 0 (by decide) (htw _ (ck_5 _ (List.mem_of_getElem? (i := 21) rfl))) (fun _ h9 => h9) rfl dX0_find_15 ?_
      refine lv_iload_n hx hb dX0_find_18 rfl (lv_at hl 2 rfl) ?_
      refine va_iald hx hb hK hP 1 0 rfl rfl (by unfold vp_in; decide) dX0_find_19 ?_
      refine lv_icmp_ge (tgt := 54) hx hb dX0_find_20 (by decide) (fun c_2 => ?_) (fun c_2 => ?_)
      · refine lv_iconst (v := (-1)) hx hb dX0_find_54 (by decide) ?_
        exact W.iret (v := (-1)) hx hb hr (fun t ht hW => ⟨(-1), rfl, (Eq.symm (hI_d.trans (by rw [fb_find2_d]; (try rw [if_pos c_2]); try rfl))), ht⟩) (fun _ h => by cases h) dX0_find_55
      · refine lv_iload_n hx hb dX0_find_23 rfl (lv_at hl 0 rfl) ?_
        refine lv_aload_n hx hb dX0_find_24 rfl (lv_at hl 1 rfl) ?_
        refine va_get (D := (dC, dI)) (ci := 0) (v := .ref bnm) (C := RX0) (T := TX0) (N := 12) hx hb htw inlX0 hown hK hP 0 rfl rfl 1 (by decide) (htw _ (ck_5 _ (List.mem_of_getElem? (i := 23) rfl))) (fun _ h9 => h9) rfl dX0_find_25 ?_
        refine lv_iload_n hx hb dX0_find_28 rfl (lv_at hl 2 rfl) ?_
        refine xg_aldq hx hb hK hP 2 1 rfl rfl rfl (by unfold vp_in; decide) dX0_find_29 ?_
        refine W.eq (g2 := F0 m 30 ls [.ref (Nm 2), .int L3d]) rfl ?_
        refine va_alen hx hb hK hP 3 2 rfl rfl (v := 12) rfl dX0_find_30 ?_
        refine lv_icmp_ge (tgt := 54) hx hb dX0_find_31 (by decide) (fun c_3 => ?_) (fun c_3 => absurd c_3 (fun h => h (xi_z hf_d)))
        refine lv_iconst (v := (-1)) hx hb dX0_find_54 (by decide) ?_
        exact W.iret (v := (-1)) hx hb hr (fun t ht hW => ⟨(-1), rfl, (Eq.symm (hI_d.trans (by rw [fb_find2_d]; (try rw [if_neg c_2]); try rfl))), ht⟩) (fun _ h => by cases h) dX0_find_55
    | succ n ih =>
      intro L3d h0_d hf_d hI_d ls hl
      refine lv_iload_n hx hb dX0_find_13 rfl (lv_at hl 0 rfl) ?_
      refine lv_aload_n hx hb dX0_find_14 rfl (lv_at hl 1 rfl) ?_
      refine va_get (D := (dC, dI)) (ci := 0) (v := .ref bto) (C := RX0) (T := TX0) (N := 12) hx hb htw inlX0 hown hK hP 0 rfl rfl 0 (by decide) (htw _ (ck_5 _ (List.mem_of_getElem? (i := 21) rfl))) (fun _ h9 => h9) rfl dX0_find_15 ?_
      refine lv_iload_n hx hb dX0_find_18 rfl (lv_at hl 2 rfl) ?_
      refine va_iald hx hb hK hP 1 0 rfl rfl (by unfold vp_in; decide) dX0_find_19 ?_
      refine lv_icmp_ge (tgt := 54) hx hb dX0_find_20 (by decide) (fun c_4 => ?_) (fun c_4 => ?_)
      · refine lv_iconst (v := (-1)) hx hb dX0_find_54 (by decide) ?_
        exact W.iret (v := (-1)) hx hb hr (fun t ht hW => ⟨(-1), rfl, (Eq.symm (hI_d.trans (by rw [fb_find2_d]; (try rw [if_pos c_4]); try rfl))), ht⟩) (fun _ h => by cases h) dX0_find_55
      · refine lv_iload_n hx hb dX0_find_23 rfl (lv_at hl 0 rfl) ?_
        refine lv_aload_n hx hb dX0_find_24 rfl (lv_at hl 1 rfl) ?_
        refine va_get (D := (dC, dI)) (ci := 0) (v := .ref bnm) (C := RX0) (T := TX0) (N := 12) hx hb htw inlX0 hown hK hP 0 rfl rfl 1 (by decide) (htw _ (ck_5 _ (List.mem_of_getElem? (i := 23) rfl))) (fun _ h9 => h9) rfl dX0_find_25 ?_
        refine lv_iload_n hx hb dX0_find_28 rfl (lv_at hl 2 rfl) ?_
        refine xg_aldq hx hb hK hP 2 1 rfl rfl rfl (by unfold vp_in; decide) dX0_find_29 ?_
        refine W.eq (g2 := F0 m 30 ls [.ref (Nm 2), .int L3d]) rfl ?_
        refine va_alen hx hb hK hP 3 2 rfl rfl (v := 12) rfl dX0_find_30 ?_
        refine lv_icmp_ge (tgt := 54) hx hb dX0_find_31 (by decide) (fun c_5 => ?_) (fun c_5 => ?_)
        · refine lv_iconst (v := (-1)) hx hb dX0_find_54 (by decide) ?_
          exact W.iret (v := (-1)) hx hb hr (fun t ht hW => ⟨(-1), rfl, (Eq.symm (hI_d.trans (by rw [fb_find2_d]; (try rw [if_neg c_4]); (try rw [if_pos c_5]); try rfl))), ht⟩) (fun _ h => by cases h) dX0_find_55
        · refine lv_aload_n hx hb dX0_find_34 rfl (lv_at hl 1 rfl) ?_
          refine va_get (D := (dC, dI)) (ci := 0) (v := .ref bnm) (C := RX0) (T := TX0) (N := 12) hx hb htw inlX0 hown hK hP 0 rfl rfl 1 (by decide) (htw _ (ck_5 _ (List.mem_of_getElem? (i := 23) rfl))) (fun _ h9 => h9) rfl dX0_find_35 ?_
          refine lv_iload_n hx hb dX0_find_38 rfl (lv_at hl 2 rfl) ?_
          refine xg_aldq hx hb hK hP 2 1 rfl rfl rfl (by unfold vp_in; decide) dX0_find_39 ?_
          refine W.eq (g2 := F0 m 40 ls [.ref (Nm 2)]) rfl ?_
          refine lv_iload_n hx hb dX0_find_40 rfl (lv_at hl 0 rfl) ?_
          refine va_iald hx hb hK hP 3 2 rfl rfl (xg_inr (N := 12) rfl (gb_find2_s0 (y0 := L3d) (y1 := fTo ((2 : Int32).toNatClampNeg)) c_4 c_5 h0_d).1 (gb_find2_s0 (y0 := L3d) (y1 := fTo ((2 : Int32).toNatClampNeg)) c_4 c_5 h0_d).2) dX0_find_41 ?_
          refine lv_iload_n hx hb dX0_find_42 rfl (lv_at hl 3 rfl) ?_
          refine lv_icmp_ne (tgt := 48) hx hb dX0_find_43 (by decide) (fun c_6 => ?_) (fun c_6 => ?_)
          · refine lv_iinc (v := (L3d + 1)) (lv' := [(3, .int (L3d + 1)), (0, .ref bk), (1, .int 2), (2, .int a1)]) hx hb dX0_find_48 hl (k := 0) rfl (rfl) (by decide) rfl (fun ls hl => ?_)
            refine lv_goto (tgt := 13) hx hb dX0_find_51 (by decide) ?_
            exact ih (L3d + 1) (gb_find2_s1 (y0 := L3d) (y1 := fTo ((2 : Int32).toNatClampNeg)) c_4 c_5 h0_d) (by rw [xi_s' c_5]; omega) (hI_d.trans (by rw [fb_find2_d]; (try rw [if_neg c_4]); (try rw [if_neg c_5]); (try rw [if_neg c_6]); try rfl)) ls (lv_sub hl [0, 1, 2, 3] rfl)
          · refine lv_iload_n hx hb dX0_find_46 rfl (lv_at hl 0 rfl) ?_
            exact W.iret (v := L3d) hx hb hr (fun t ht hW => ⟨L3d, rfl, (Eq.symm (hI_d.trans (by rw [fb_find2_d]; (try rw [if_neg c_4]); (try rw [if_neg c_5]); (try rw [if_pos c_6]); try rfl))), ht⟩) (fun _ h => by cases h) dX0_find_47
  exact hloop_1 12 (0 : Int32) (gb_find2_s2 ) (by decide) ((by rw [fb_find2])) ls (lv_sub hl [0, 1, 2, 3] rfl)

def fb_find3_d (fTo : Nat → Int32) (fNm : Nat → Nat → Int32) (a1 : Int32) : Nat → (Int32) → Int32
  | 0, L3d => (if fTo ((3 : Int32).toNatClampNeg) ≤ L3d then (-1 : Int32) else (-1 : Int32))
  | n + 1, L3d => (if fTo ((3 : Int32).toNatClampNeg) ≤ L3d then (-1 : Int32) else (if 12 ≤ L3d then (-1 : Int32) else (if (fNm 3) L3d.toNatClampNeg = a1 then L3d else fb_find3_d fTo fNm a1 n (L3d + 1))))
def fb_find3 (fTo : Nat → Int32) (fNm : Nat → Nat → Int32) (a1 : Int32) : Int32 := fb_find3_d fTo fNm a1 12 (0 : Int32)
theorem gb_find3_s0 {y0 : Int32} {y1 : Int32} (h0 : ¬ (y1 ≤ y0)) (h1 : ¬ (12 ≤ y0)) (h2 : ¬ (y0 < 0)) : ¬ (y0 < 0) ∧ ¬ (12 ≤ y0) := ⟨h2, h1⟩
theorem gb_find3_s1 {y0 : Int32} {y1 : Int32} (h0 : ¬ (y1 ≤ y0)) (h1 : ¬ (12 ≤ y0)) (h2 : ¬ (y0 < 0)) : ¬ ((y0 + 1) < 0) := by lia
theorem gb_find3_s2  : ¬ ((0 : Int32) < 0) := (by decide)
set_option maxHeartbeats 4000000 in
set_option maxRecDepth 100000 in
theorem gb_find3 (l : Launch) (dC : Nat → ClassId) (dI : Nat → Nat → Nat) (bk : Nat) (bto : Nat) (bnm : Nat) (bla : Nat) (bsk : Nat) (bru : Nat) (bbo : Nat) (bdi : Nat) (bda : Nat) (bdk : Nat) (bdt : Nat) (bdp : Nat) (bno : Nat) (cTo : ClassId) (fTo : Nat → Int32) (cNm : ClassId) (Nm : Nat → Nat) (cNr : ClassId) (fNm : Nat → Nat → Int32) (a1 : Int32) : Met l yX0_find (Cond.code yX0_find cX0_find 4 (some .int) :: wsL_law) ({ frames := 0, cells := 0, slots := 0, locals := 0 }) (va_Pc [.ref bk, .int 3, .int a1] (fun U => va_P (dC, dI) vwCl [(eO0a bk bto bnm bla bsk bru bbo bdi bda bdk bdt bdp bno), (eA0 bto cTo 5 fTo), (eA4 bnm cNm 5 (fun k => some (Nm k))), (eA0 (Nm 3) cNr 12 (fNm 3))] U.heap ∧ va_K (dC, dI) vwCl [(cTo, .int), (cNm, .array .int), (cNr, .int)] U)) (vp_Si (fun r => r = fb_find3 fTo fNm a1)) 0 0 (fun _ => False) := by
  refine Met.ofW (cc := cX0_find) (maxL := 4) (ret := (some .int)) (by decide) rfl ?_
  intro p e s m args below meth c s₁ B hml hv
  obtain ⟨rfl, hP, hK⟩ := hv
  have hx := B.exec
  have hb := B.bytes
  have hr := B.returns
  have hts := atoms_spec (ws := Cond.code yX0_find cX0_find 4 (some .int) :: wsL_law) B.pre
  have htw : ∀ w ∈ wsL_law, w.before _ s = true := fun w h => hts w (List.mem_cons_of_mem _ h)
  have hown : s.vm.findClass RX0 = some m.cls := findClass_of_methodNamed B.named
  have hlocks := B.notSynchronized
  have hl := lv_entry ([.ref bk, .int 3, .int a1]) (n := 4) (Nat.le_of_ble_eq_true rfl)
  rw [lg_entry_eq]
  generalize (lg_sl ([.ref bk, .int 3, .int a1]) ++ List.replicate (4 - (lg_sl ([.ref bk, .int 3, .int a1])).length) Slot.unset).toArray = ls at hl ⊢
  have hl : lv_has ls 4 [(0, .ref bk), (1, .int 3), (2, .int a1)] := hl
  refine lv_iload_n hx hb dX0_find_0 rfl (lv_at hl 1 rfl) ?_
  refine lv_if_lt (tgt := 9) hx hb dX0_find_1 (by decide) (fun c => absurd c (by decide)) (fun _ => ?_)
  refine lv_iload_n hx hb dX0_find_4 rfl (lv_at hl 1 rfl) ?_
  refine lv_iconst (v := 5) hx hb dX0_find_5 (by decide) ?_
  refine lv_icmp_lt (tgt := 11) hx hb dX0_find_6 (by decide) (fun _ => ?_) (fun c => absurd c (by decide))
  refine lv_iconst (v := 0) hx hb dX0_find_11 (by decide) ?_
  refine lv_istore_n (lv' := [(3, .int 0), (0, .ref bk), (1, .int 3), (2, .int a1)]) hx hb dX0_find_12 rfl hl (by decide) rfl (fun ls hl => ?_)
  have hloop_1 : ∀ (n : Nat) (L3d : Int32) (h0_d : ¬ L3d < 0) (hf_d : (12 : Int32).toInt ≤ L3d.toInt + (n : Int)) (hI_d : fb_find3 fTo fNm a1 = fb_find3_d fTo fNm a1 n L3d) (ls : Array Slot) (hl : lv_has ls 4 [(3, .int L3d), (0, .ref bk), (1, .int 3), (2, .int a1)]), W p l e (headSpec (Cond.code yX0_find cX0_find 4 (some .int) :: wsL_law) ({ frames := 0, cells := 0, slots := 0, locals := 0 })).room s m ([.ref bk, .int 3, .int a1] : List Value).toArray below meth c s.heap [] 0 0 (MQ below (vp_Si (fun r => r = fb_find3 fTo fNm a1)) ([.ref bk, .int 3, .int a1] : List Value).toArray s 0 0 (fun _ => False)) (F0 m 13 ls []) := by
    intro n
    induction n with
    | zero =>
      intro L3d h0_d hf_d hI_d ls hl
      refine lv_iload_n hx hb dX0_find_13 rfl (lv_at hl 0 rfl) ?_
      refine lv_aload_n hx hb dX0_find_14 rfl (lv_at hl 1 rfl) ?_
      refine va_get (D := (dC, dI)) (ci := 0) (v := .ref bto) (C := RX0) (T := TX0) (N := 12) hx hb htw inlX0 hown hK hP 0 rfl rfl 0 (by decide) (htw _ (ck_5 _ (List.mem_of_getElem? (i := 21) rfl))) (fun _ h9 => h9) rfl dX0_find_15 ?_
      refine lv_iload_n hx hb dX0_find_18 rfl (lv_at hl 2 rfl) ?_
      refine va_iald hx hb hK hP 1 0 rfl rfl (by unfold vp_in; decide) dX0_find_19 ?_
      refine lv_icmp_ge (tgt := 54) hx hb dX0_find_20 (by decide) (fun c_2 => ?_) (fun c_2 => ?_)
      · refine lv_iconst (v := (-1)) hx hb dX0_find_54 (by decide) ?_
        exact W.iret (v := (-1)) hx hb hr (fun t ht hW => ⟨(-1), rfl, (Eq.symm (hI_d.trans (by rw [fb_find3_d]; (try rw [if_pos c_2]); try rfl))), ht⟩) (fun _ h => by cases h) dX0_find_55
      · refine lv_iload_n hx hb dX0_find_23 rfl (lv_at hl 0 rfl) ?_
        refine lv_aload_n hx hb dX0_find_24 rfl (lv_at hl 1 rfl) ?_
        refine va_get (D := (dC, dI)) (ci := 0) (v := .ref bnm) (C := RX0) (T := TX0) (N := 12) hx hb htw inlX0 hown hK hP 0 rfl rfl 1 (by decide) (htw _ (ck_5 _ (List.mem_of_getElem? (i := 23) rfl))) (fun _ h9 => h9) rfl dX0_find_25 ?_
        refine lv_iload_n hx hb dX0_find_28 rfl (lv_at hl 2 rfl) ?_
        refine xg_aldq hx hb hK hP 2 1 rfl rfl rfl (by unfold vp_in; decide) dX0_find_29 ?_
        refine W.eq (g2 := F0 m 30 ls [.ref (Nm 3), .int L3d]) rfl ?_
        refine va_alen hx hb hK hP 3 2 rfl rfl (v := 12) rfl dX0_find_30 ?_
        refine lv_icmp_ge (tgt := 54) hx hb dX0_find_31 (by decide) (fun c_3 => ?_) (fun c_3 => absurd c_3 (fun h => h (xi_z hf_d)))
        refine lv_iconst (v := (-1)) hx hb dX0_find_54 (by decide) ?_
        exact W.iret (v := (-1)) hx hb hr (fun t ht hW => ⟨(-1), rfl, (Eq.symm (hI_d.trans (by rw [fb_find3_d]; (try rw [if_neg c_2]); try rfl))), ht⟩) (fun _ h => by cases h) dX0_find_55
    | succ n ih =>
      intro L3d h0_d hf_d hI_d ls hl
      refine lv_iload_n hx hb dX0_find_13 rfl (lv_at hl 0 rfl) ?_
      refine lv_aload_n hx hb dX0_find_14 rfl (lv_at hl 1 rfl) ?_
      refine va_get (D := (dC, dI)) (ci := 0) (v := .ref bto) (C := RX0) (T := TX0) (N := 12) hx hb htw inlX0 hown hK hP 0 rfl rfl 0 (by decide) (htw _ (ck_5 _ (List.mem_of_getElem? (i := 21) rfl))) (fun _ h9 => h9) rfl dX0_find_15 ?_
      refine lv_iload_n hx hb dX0_find_18 rfl (lv_at hl 2 rfl) ?_
      refine va_iald hx hb hK hP 1 0 rfl rfl (by unfold vp_in; decide) dX0_find_19 ?_
      refine lv_icmp_ge (tgt := 54) hx hb dX0_find_20 (by decide) (fun c_4 => ?_) (fun c_4 => ?_)
      · refine lv_iconst (v := (-1)) hx hb dX0_find_54 (by decide) ?_
        exact W.iret (v := (-1)) hx hb hr (fun t ht hW => ⟨(-1), rfl, (Eq.symm (hI_d.trans (by rw [fb_find3_d]; (try rw [if_pos c_4]); try rfl))), ht⟩) (fun _ h => by cases h) dX0_find_55
      · refine lv_iload_n hx hb dX0_find_23 rfl (lv_at hl 0 rfl) ?_
        refine lv_aload_n hx hb dX0_find_24 rfl (lv_at hl 1 rfl) ?_
        refine va_get (D := (dC, dI)) (ci := 0) (v := .ref bnm) (C := RX0) (T := TX0) (N := 12) hx hb htw inlX0 hown hK hP 0 rfl rfl 1 (by decide) (htw _ (ck_5 _ (List.mem_of_getElem? (i := 23) rfl))) (fun _ h9 => h9) rfl dX0_find_25 ?_
        refine lv_iload_n hx hb dX0_find_28 rfl (lv_at hl 2 rfl) ?_
        refine xg_aldq hx hb hK hP 2 1 rfl rfl rfl (by unfold vp_in; decide) dX0_find_29 ?_
        refine W.eq (g2 := F0 m 30 ls [.ref (Nm 3), .int L3d]) rfl ?_
        refine va_alen hx hb hK hP 3 2 rfl rfl (v := 12) rfl dX0_find_30 ?_
        refine lv_icmp_ge (tgt := 54) hx hb dX0_find_31 (by decide) (fun c_5 => ?_) (fun c_5 => ?_)
        · refine lv_iconst (v := (-1)) hx hb dX0_find_54 (by decide) ?_
          exact W.iret (v := (-1)) hx hb hr (fun t ht hW => ⟨(-1), rfl, (Eq.symm (hI_d.trans (by rw [fb_find3_d]; (try rw [if_neg c_4]); (try rw [if_pos c_5]); try rfl))), ht⟩) (fun _ h => by cases h) dX0_find_55
        · refine lv_aload_n hx hb dX0_find_34 rfl (lv_at hl 1 rfl) ?_
          refine va_get (D := (dC, dI)) (ci := 0) (v := .ref bnm) (C := RX0) (T := TX0) (N := 12) hx hb htw inlX0 hown hK hP 0 rfl rfl 1 (by decide) (htw _ (ck_5 _ (List.mem_of_getElem? (i := 23) rfl))) (fun _ h9 => h9) rfl dX0_find_35 ?_
          refine lv_iload_n hx hb dX0_find_38 rfl (lv_at hl 2 rfl) ?_
          refine xg_aldq hx hb hK hP 2 1 rfl rfl rfl (by unfold vp_in; decide) dX0_find_39 ?_
          refine W.eq (g2 := F0 m 40 ls [.ref (Nm 3)]) rfl ?_
          refine lv_iload_n hx hb dX0_find_40 rfl (lv_at hl 0 rfl) ?_
          refine va_iald hx hb hK hP 3 2 rfl rfl (xg_inr (N := 12) rfl (gb_find3_s0 (y0 := L3d) (y1 := fTo ((3 : Int32).toNatClampNeg)) c_4 c_5 h0_d).1 (gb_find3_s0 (y0 := L3d) (y1 := fTo ((3 : Int32).toNatClampNeg)) c_4 c_5 h0_d).2) dX0_find_41 ?_
          refine lv_iload_n hx hb dX0_find_42 rfl (lv_at hl 3 rfl) ?_
          refine lv_icmp_ne (tgt := 48) hx hb dX0_find_43 (by decide) (fun c_6 => ?_) (fun c_6 => ?_)
          · refine lv_iinc (v := (L3d + 1)) (lv' := [(3, .int (L3d + 1)), (0, .ref bk), (1, .int 3), (2, .int a1)]) hx hb dX0_find_48 hl (k := 0) rfl (rfl) (by decide) rfl (fun ls hl => ?_)
            refine lv_goto (tgt := 13) hx hb dX0_find_51 (by decide) ?_
            exact ih (L3d + 1) (gb_find3_s1 (y0 := L3d) (y1 := fTo ((3 : Int32).toNatClampNeg)) c_4 c_5 h0_d) (by rw [xi_s' c_5]; omega) (hI_d.trans (by rw [fb_find3_d]; (try rw [if_neg c_4]); (try rw [if_neg c_5]); (try rw [if_neg c_6]); try rfl)) ls (lv_sub hl [0, 1, 2, 3] rfl)
          · refine lv_iload_n hx hb dX0_find_46 rfl (lv_at hl 0 rfl) ?_
            exact W.iret (v := L3d) hx hb hr (fun t ht hW => ⟨L3d, rfl, (Eq.symm (hI_d.trans (by rw [fb_find3_d]; (try rw [if_neg c_4]); (try rw [if_neg c_5]); (try rw [if_pos c_6]); try rfl))), ht⟩) (fun _ h => by cases h) dX0_find_47
  exact hloop_1 12 (0 : Int32) (gb_find3_s2 ) (by decide) ((by rw [fb_find3])) ls (lv_sub hl [0, 1, 2, 3] rfl)

def fb_find4_d (fTo : Nat → Int32) (fNm : Nat → Nat → Int32) (a1 : Int32) : Nat → (Int32) → Int32
  | 0, L3d => (if fTo ((4 : Int32).toNatClampNeg) ≤ L3d then (-1 : Int32) else (-1 : Int32))
  | n + 1, L3d => (if fTo ((4 : Int32).toNatClampNeg) ≤ L3d then (-1 : Int32) else (if 12 ≤ L3d then (-1 : Int32) else (if (fNm 4) L3d.toNatClampNeg = a1 then L3d else fb_find4_d fTo fNm a1 n (L3d + 1))))
def fb_find4 (fTo : Nat → Int32) (fNm : Nat → Nat → Int32) (a1 : Int32) : Int32 := fb_find4_d fTo fNm a1 12 (0 : Int32)
theorem gb_find4_s0 {y0 : Int32} {y1 : Int32} (h0 : ¬ (y1 ≤ y0)) (h1 : ¬ (12 ≤ y0)) (h2 : ¬ (y0 < 0)) : ¬ (y0 < 0) ∧ ¬ (12 ≤ y0) := ⟨h2, h1⟩
theorem gb_find4_s1 {y0 : Int32} {y1 : Int32} (h0 : ¬ (y1 ≤ y0)) (h1 : ¬ (12 ≤ y0)) (h2 : ¬ (y0 < 0)) : ¬ ((y0 + 1) < 0) := by lia
theorem gb_find4_s2  : ¬ ((0 : Int32) < 0) := (by decide)
set_option maxHeartbeats 4000000 in
set_option maxRecDepth 100000 in
theorem gb_find4 (l : Launch) (dC : Nat → ClassId) (dI : Nat → Nat → Nat) (bk : Nat) (bto : Nat) (bnm : Nat) (bla : Nat) (bsk : Nat) (bru : Nat) (bbo : Nat) (bdi : Nat) (bda : Nat) (bdk : Nat) (bdt : Nat) (bdp : Nat) (bno : Nat) (cTo : ClassId) (fTo : Nat → Int32) (cNm : ClassId) (Nm : Nat → Nat) (cNr : ClassId) (fNm : Nat → Nat → Int32) (a1 : Int32) : Met l yX0_find (Cond.code yX0_find cX0_find 4 (some .int) :: wsL_law) ({ frames := 0, cells := 0, slots := 0, locals := 0 }) (va_Pc [.ref bk, .int 4, .int a1] (fun U => va_P (dC, dI) vwCl [(eO0a bk bto bnm bla bsk bru bbo bdi bda bdk bdt bdp bno), (eA0 bto cTo 5 fTo), (eA4 bnm cNm 5 (fun k => some (Nm k))), (eA0 (Nm 4) cNr 12 (fNm 4))] U.heap ∧ va_K (dC, dI) vwCl [(cTo, .int), (cNm, .array .int), (cNr, .int)] U)) (vp_Si (fun r => r = fb_find4 fTo fNm a1)) 0 0 (fun _ => False) := by
  refine Met.ofW (cc := cX0_find) (maxL := 4) (ret := (some .int)) (by decide) rfl ?_
  intro p e s m args below meth c s₁ B hml hv
  obtain ⟨rfl, hP, hK⟩ := hv
  have hx := B.exec
  have hb := B.bytes
  have hr := B.returns
  have hts := atoms_spec (ws := Cond.code yX0_find cX0_find 4 (some .int) :: wsL_law) B.pre
  have htw : ∀ w ∈ wsL_law, w.before _ s = true := fun w h => hts w (List.mem_cons_of_mem _ h)
  have hown : s.vm.findClass RX0 = some m.cls := findClass_of_methodNamed B.named
  have hlocks := B.notSynchronized
  have hl := lv_entry ([.ref bk, .int 4, .int a1]) (n := 4) (Nat.le_of_ble_eq_true rfl)
  rw [lg_entry_eq]
  generalize (lg_sl ([.ref bk, .int 4, .int a1]) ++ List.replicate (4 - (lg_sl ([.ref bk, .int 4, .int a1])).length) Slot.unset).toArray = ls at hl ⊢
  have hl : lv_has ls 4 [(0, .ref bk), (1, .int 4), (2, .int a1)] := hl
  refine lv_iload_n hx hb dX0_find_0 rfl (lv_at hl 1 rfl) ?_
  refine lv_if_lt (tgt := 9) hx hb dX0_find_1 (by decide) (fun c => absurd c (by decide)) (fun _ => ?_)
  refine lv_iload_n hx hb dX0_find_4 rfl (lv_at hl 1 rfl) ?_
  refine lv_iconst (v := 5) hx hb dX0_find_5 (by decide) ?_
  refine lv_icmp_lt (tgt := 11) hx hb dX0_find_6 (by decide) (fun _ => ?_) (fun c => absurd c (by decide))
  refine lv_iconst (v := 0) hx hb dX0_find_11 (by decide) ?_
  refine lv_istore_n (lv' := [(3, .int 0), (0, .ref bk), (1, .int 4), (2, .int a1)]) hx hb dX0_find_12 rfl hl (by decide) rfl (fun ls hl => ?_)
  have hloop_1 : ∀ (n : Nat) (L3d : Int32) (h0_d : ¬ L3d < 0) (hf_d : (12 : Int32).toInt ≤ L3d.toInt + (n : Int)) (hI_d : fb_find4 fTo fNm a1 = fb_find4_d fTo fNm a1 n L3d) (ls : Array Slot) (hl : lv_has ls 4 [(3, .int L3d), (0, .ref bk), (1, .int 4), (2, .int a1)]), W p l e (headSpec (Cond.code yX0_find cX0_find 4 (some .int) :: wsL_law) ({ frames := 0, cells := 0, slots := 0, locals := 0 })).room s m ([.ref bk, .int 4, .int a1] : List Value).toArray below meth c s.heap [] 0 0 (MQ below (vp_Si (fun r => r = fb_find4 fTo fNm a1)) ([.ref bk, .int 4, .int a1] : List Value).toArray s 0 0 (fun _ => False)) (F0 m 13 ls []) := by
    intro n
    induction n with
    | zero =>
      intro L3d h0_d hf_d hI_d ls hl
      refine lv_iload_n hx hb dX0_find_13 rfl (lv_at hl 0 rfl) ?_
      refine lv_aload_n hx hb dX0_find_14 rfl (lv_at hl 1 rfl) ?_
      refine va_get (D := (dC, dI)) (ci := 0) (v := .ref bto) (C := RX0) (T := TX0) (N := 12) hx hb htw inlX0 hown hK hP 0 rfl rfl 0 (by decide) (htw _ (ck_5 _ (List.mem_of_getElem? (i := 21) rfl))) (fun _ h9 => h9) rfl dX0_find_15 ?_
      refine lv_iload_n hx hb dX0_find_18 rfl (lv_at hl 2 rfl) ?_
      refine va_iald hx hb hK hP 1 0 rfl rfl (by unfold vp_in; decide) dX0_find_19 ?_
      refine lv_icmp_ge (tgt := 54) hx hb dX0_find_20 (by decide) (fun c_2 => ?_) (fun c_2 => ?_)
      · refine lv_iconst (v := (-1)) hx hb dX0_find_54 (by decide) ?_
        exact W.iret (v := (-1)) hx hb hr (fun t ht hW => ⟨(-1), rfl, (Eq.symm (hI_d.trans (by rw [fb_find4_d]; (try rw [if_pos c_2]); try rfl))), ht⟩) (fun _ h => by cases h) dX0_find_55
      · refine lv_iload_n hx hb dX0_find_23 rfl (lv_at hl 0 rfl) ?_
        refine lv_aload_n hx hb dX0_find_24 rfl (lv_at hl 1 rfl) ?_
        refine va_get (D := (dC, dI)) (ci := 0) (v := .ref bnm) (C := RX0) (T := TX0) (N := 12) hx hb htw inlX0 hown hK hP 0 rfl rfl 1 (by decide) (htw _ (ck_5 _ (List.mem_of_getElem? (i := 23) rfl))) (fun _ h9 => h9) rfl dX0_find_25 ?_
        refine lv_iload_n hx hb dX0_find_28 rfl (lv_at hl 2 rfl) ?_
        refine xg_aldq hx hb hK hP 2 1 rfl rfl rfl (by unfold vp_in; decide) dX0_find_29 ?_
        refine W.eq (g2 := F0 m 30 ls [.ref (Nm 4), .int L3d]) rfl ?_
        refine va_alen hx hb hK hP 3 2 rfl rfl (v := 12) rfl dX0_find_30 ?_
        refine lv_icmp_ge (tgt := 54) hx hb dX0_find_31 (by decide) (fun c_3 => ?_) (fun c_3 => absurd c_3 (fun h => h (xi_z hf_d)))
        refine lv_iconst (v := (-1)) hx hb dX0_find_54 (by decide) ?_
        exact W.iret (v := (-1)) hx hb hr (fun t ht hW => ⟨(-1), rfl, (Eq.symm (hI_d.trans (by rw [fb_find4_d]; (try rw [if_neg c_2]); try rfl))), ht⟩) (fun _ h => by cases h) dX0_find_55
    | succ n ih =>
      intro L3d h0_d hf_d hI_d ls hl
      refine lv_iload_n hx hb dX0_find_13 rfl (lv_at hl 0 rfl) ?_
      refine lv_aload_n hx hb dX0_find_14 rfl (lv_at hl 1 rfl) ?_
      refine va_get (D := (dC, dI)) (ci := 0) (v := .ref bto) (C := RX0) (T := TX0) (N := 12) hx hb htw inlX0 hown hK hP 0 rfl rfl 0 (by decide) (htw _ (ck_5 _ (List.mem_of_getElem? (i := 21) rfl))) (fun _ h9 => h9) rfl dX0_find_15 ?_
      refine lv_iload_n hx hb dX0_find_18 rfl (lv_at hl 2 rfl) ?_
      refine va_iald hx hb hK hP 1 0 rfl rfl (by unfold vp_in; decide) dX0_find_19 ?_
      refine lv_icmp_ge (tgt := 54) hx hb dX0_find_20 (by decide) (fun c_4 => ?_) (fun c_4 => ?_)
      · refine lv_iconst (v := (-1)) hx hb dX0_find_54 (by decide) ?_
        exact W.iret (v := (-1)) hx hb hr (fun t ht hW => ⟨(-1), rfl, (Eq.symm (hI_d.trans (by rw [fb_find4_d]; (try rw [if_pos c_4]); try rfl))), ht⟩) (fun _ h => by cases h) dX0_find_55
      · refine lv_iload_n hx hb dX0_find_23 rfl (lv_at hl 0 rfl) ?_
        refine lv_aload_n hx hb dX0_find_24 rfl (lv_at hl 1 rfl) ?_
        refine va_get (D := (dC, dI)) (ci := 0) (v := .ref bnm) (C := RX0) (T := TX0) (N := 12) hx hb htw inlX0 hown hK hP 0 rfl rfl 1 (by decide) (htw _ (ck_5 _ (List.mem_of_getElem? (i := 23) rfl))) (fun _ h9 => h9) rfl dX0_find_25 ?_
        refine lv_iload_n hx hb dX0_find_28 rfl (lv_at hl 2 rfl) ?_
        refine xg_aldq hx hb hK hP 2 1 rfl rfl rfl (by unfold vp_in; decide) dX0_find_29 ?_
        refine W.eq (g2 := F0 m 30 ls [.ref (Nm 4), .int L3d]) rfl ?_
        refine va_alen hx hb hK hP 3 2 rfl rfl (v := 12) rfl dX0_find_30 ?_
        refine lv_icmp_ge (tgt := 54) hx hb dX0_find_31 (by decide) (fun c_5 => ?_) (fun c_5 => ?_)
        · refine lv_iconst (v := (-1)) hx hb dX0_find_54 (by decide) ?_
          exact W.iret (v := (-1)) hx hb hr (fun t ht hW => ⟨(-1), rfl, (Eq.symm (hI_d.trans (by rw [fb_find4_d]; (try rw [if_neg c_4]); (try rw [if_pos c_5]); try rfl))), ht⟩) (fun _ h => by cases h) dX0_find_55
        · refine lv_aload_n hx hb dX0_find_34 rfl (lv_at hl 1 rfl) ?_
          refine va_get (D := (dC, dI)) (ci := 0) (v := .ref bnm) (C := RX0) (T := TX0) (N := 12) hx hb htw inlX0 hown hK hP 0 rfl rfl 1 (by decide) (htw _ (ck_5 _ (List.mem_of_getElem? (i := 23) rfl))) (fun _ h9 => h9) rfl dX0_find_35 ?_
          refine lv_iload_n hx hb dX0_find_38 rfl (lv_at hl 2 rfl) ?_
          refine xg_aldq hx hb hK hP 2 1 rfl rfl rfl (by unfold vp_in; decide) dX0_find_39 ?_
          refine W.eq (g2 := F0 m 40 ls [.ref (Nm 4)]) rfl ?_
          refine lv_iload_n hx hb dX0_find_40 rfl (lv_at hl 0 rfl) ?_
          refine va_iald hx hb hK hP 3 2 rfl rfl (xg_inr (N := 12) rfl (gb_find4_s0 (y0 := L3d) (y1 := fTo ((4 : Int32).toNatClampNeg)) c_4 c_5 h0_d).1 (gb_find4_s0 (y0 := L3d) (y1 := fTo ((4 : Int32).toNatClampNeg)) c_4 c_5 h0_d).2) dX0_find_41 ?_
          refine lv_iload_n hx hb dX0_find_42 rfl (lv_at hl 3 rfl) ?_
          refine lv_icmp_ne (tgt := 48) hx hb dX0_find_43 (by decide) (fun c_6 => ?_) (fun c_6 => ?_)
          · refine lv_iinc (v := (L3d + 1)) (lv' := [(3, .int (L3d + 1)), (0, .ref bk), (1, .int 4), (2, .int a1)]) hx hb dX0_find_48 hl (k := 0) rfl (rfl) (by decide) rfl (fun ls hl => ?_)
            refine lv_goto (tgt := 13) hx hb dX0_find_51 (by decide) ?_
            exact ih (L3d + 1) (gb_find4_s1 (y0 := L3d) (y1 := fTo ((4 : Int32).toNatClampNeg)) c_4 c_5 h0_d) (by rw [xi_s' c_5]; omega) (hI_d.trans (by rw [fb_find4_d]; (try rw [if_neg c_4]); (try rw [if_neg c_5]); (try rw [if_neg c_6]); try rfl)) ls (lv_sub hl [0, 1, 2, 3] rfl)
          · refine lv_iload_n hx hb dX0_find_46 rfl (lv_at hl 0 rfl) ?_
            exact W.iret (v := L3d) hx hb hr (fun t ht hW => ⟨L3d, rfl, (Eq.symm (hI_d.trans (by rw [fb_find4_d]; (try rw [if_neg c_4]); (try rw [if_neg c_5]); (try rw [if_pos c_6]); try rfl))), ht⟩) (fun _ h => by cases h) dX0_find_47
  exact hloop_1 12 (0 : Int32) (gb_find4_s2 ) (by decide) ((by rw [fb_find4])) ls (lv_sub hl [0, 1, 2, 3] rfl)

theorem xb_hasin {fTo : Nat → Int32} {k a r : Int32} (hr : r = fb_has fTo k a) (h : ¬ r = 0) : ¬ a < 0 ∧ ¬ fTo k.toNatClampNeg ≤ a := by
  rw [hr, fb_has] at h
  by_cases h1 : k < 0
  · exact absurd (if_pos h1) h
  rw [if_neg h1] at h
  by_cases h2 : 5 ≤ k
  · exact absurd (if_pos h2) h
  rw [if_neg h2] at h
  by_cases h3 : a < 0
  · exact absurd (if_pos h3) h
  rw [if_neg h3] at h
  by_cases h4 : fTo k.toNatClampNeg ≤ a
  · exact absurd (if_pos h4) h
  · exact ⟨h3, h4⟩
