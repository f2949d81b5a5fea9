def fb_landIs (fTo : Nat → Int32) (a0 : Int32) : Int32 := if fb_has fTo 0 a0 = 0 then 0 else if 4 ≤ a0 then 0 else 1
theorem fb_landIn {fTo : Nat → Int32} {a0 : Int32} (h : ¬ fb_landIs fTo a0 = 0) : ¬ a0 < 0 ∧ ¬ 4 ≤ a0 := by
  rw [fb_landIs] at h
  by_cases h1 : fb_has fTo 0 a0 = 0
  · exact absurd (if_pos h1) h
  · rw [if_neg h1] at h
    by_cases h2 : 4 ≤ a0
    · exact absurd (if_pos h2) h
    · refine ⟨fun h3 => h1 ?_, h2⟩
      rw [fb_has]
      rw [if_pos h3]
      decide

theorem xb_hasnn {fTo : Nat → Int32} {k a0 r : Int32} (hr : r = fb_has fTo k a0) (h : ¬ r = 0) : ¬ a0 < 0 := fun h3 => h (by
  rw [hr, fb_has]
  first | (repeat' split) <;> first | rfl | (exact absurd h3 (by assumption)))

theorem dX0_landAt_0 : decode cX0_landAt 0 = .ok (.aload_n 0, 1) := zk_42 (by decide +kernel)
theorem dX0_landAt_1 : decode cX0_landAt 1 = .ok (.iconst 0, 1) := zk_3 (by decide +kernel)
theorem dX0_landAt_2 : decode cX0_landAt 2 = .ok (.iload_n 1, 1) := zk_27 (by decide +kernel)
theorem dX0_landAt_3 : decode cX0_landAt 3 = .ok (.invokevirtual 84, 3) := zk_182 (by decide +kernel)
theorem dX0_landAt_6 : decode cX0_landAt 6 = .ok (.ifCond .eq 21, 3) := zk_153 (by decide +kernel)
theorem dX0_landAt_27 : decode cX0_landAt 27 = .ok (.aconst_null, 1) := zk_1 (by decide +kernel)
theorem dX0_landAt_28 : decode cX0_landAt 28 = .ok (.areturn, 1) := zk_176 (by decide +kernel)
theorem dX0_landAt_9 : decode cX0_landAt 9 = .ok (.iload_n 1, 1) := zk_27 (by decide +kernel)
theorem dX0_landAt_10 : decode cX0_landAt 10 = .ok (.aload_n 0, 1) := zk_42 (by decide +kernel)
theorem dX0_landAt_11 : decode cX0_landAt 11 = .ok (.getfield 25, 3) := zk_180 (by decide +kernel)
theorem dX0_landAt_14 : decode cX0_landAt 14 = .ok (.arraylength, 1) := zk_190 (by decide +kernel)
theorem dX0_landAt_15 : decode cX0_landAt 15 = .ok (.if_icmp .ge 12, 3) := zk_162 (by decide +kernel)
theorem dX0_landAt_18 : decode cX0_landAt 18 = .ok (.aload_n 0, 1) := zk_42 (by decide +kernel)
theorem dX0_landAt_19 : decode cX0_landAt 19 = .ok (.getfield 25, 3) := zk_180 (by decide +kernel)
theorem dX0_landAt_22 : decode cX0_landAt 22 = .ok (.iload_n 1, 1) := zk_27 (by decide +kernel)
theorem dX0_landAt_23 : decode cX0_landAt 23 = .ok (.aaload, 1) := zk_50 (by decide +kernel)
theorem dX0_landAt_24 : decode cX0_landAt 24 = .ok (.goto 4, 3) := zk_167 (by decide +kernel)
set_option maxHeartbeats 4000000 in
set_option maxRecDepth 100000 in
theorem gb_landAt (l : Launch) (dC : Nat → ClassId) (dI : Nat → Nat → Nat) (bk : Nat) (bto : Nat) (bnm : Nat) (bla : Nat) (bsk : Nat) (bru : Nat) (bbo : Nat) (bdi : Nat) (bda : Nat) (bdk : Nat) (bdt : Nat) (bdp : Nat) (bno : Nat) (cTo : ClassId) (fTo : Nat → Int32) (cLa : ClassId) (La : Nat → Nat) (a0 : Int32) : Met l yX0_landAt (Cond.code yX0_landAt cX0_landAt 2 (some (.object "LongYears$Land")) :: wsL_law) ({ frames := 1, cells := 0, slots := 0, locals := 22 }) (va_Pc [.ref bk, .int a0] (fun U => va_P (dC, dI) vwCl [(eO0a bk bto bnm bla bsk bru bbo bdi bda bdk bdt bdp bno), (eA0 bto cTo 5 fTo), (eA4 bla cLa 4 (fun k => some (La k)))] U.heap ∧ va_K (dC, dI) vwCl [(cTo, .int), (cLa, .object RX1)] U)) (va_Sq (fun r => r = if fb_landIs fTo a0 = 0 then none else some (La a0.toNatClampNeg))) 0 0 (fun _ => False) := by
  refine Met.ofW (cc := cX0_landAt) (maxL := 2) (ret := (some (.object "LongYears$Land"))) (by decide) rfl ?_
  intro p e s m args below meth c s₁ B hml hv
  obtain ⟨rfl, hP, hK⟩ := hv
  have hx := B.exec
  have hb := B.bytes
  have hr := B.returns
  have hts := atoms_spec (ws := Cond.code yX0_landAt cX0_landAt 2 (some (.object "LongYears$Land")) :: wsL_law) B.pre
  have htw : ∀ w ∈ wsL_law, w.before _ s = true := fun w h => hts w (List.mem_cons_of_mem _ h)
  have hown : s.vm.findClass RX0 = some m.cls := findClass_of_methodNamed B.named
  have hlocks := B.notSynchronized
  have hl := lv_entry ([.ref bk, .int a0]) (n := 2) (Nat.le_of_ble_eq_true rfl)
  rw [lg_entry_eq]
  generalize (lg_sl ([.ref bk, .int a0]) ++ List.replicate (2 - (lg_sl ([.ref bk, .int a0])).length) Slot.unset).toArray = ls at hl ⊢
  have hl : lv_has ls 2 [(0, .ref bk), (1, .int a0)] := hl
  refine lv_aload_n hx hb dX0_landAt_0 rfl (lv_at hl 0 rfl) ?_
  refine lv_iconst (v := 0) hx hb dX0_landAt_1 (by decide) ?_
  refine lv_iload_n hx hb dX0_landAt_2 rfl (lv_at hl 1 rfl) ?_
  have hPc := hP.sub (ws' := [(eO0a bk bto bnm bla bsk bru bbo bdi bda bdk bdt bdp bno), (eA0 bto cTo 5 fTo)]) [0, 1] rfl
  have hKc := hK.sub (tys' := [(cTo, .int)]) [0] rfl
  refine vp_callSi (W.runV (As := [.int 0, .int a0]) (rest := []) ⟨hx, hb, hml, hown, htw⟩ (gb_has l dC dI bk bto bnm bla bsk bru bbo bdi bda bdk bdt bdp bno cTo fTo (0 : Int32) a0) (cwV 2 htw (xg_V (ck_21 _ (List.mem_of_getElem? (i := 1) rfl)) (ck_21 _ (List.mem_of_getElem? (i := 2) rfl)) (ck_21 _ (List.mem_of_getElem? (i := 3) rfl)) (ck_1 _ (List.mem_of_getElem? (i := 20) rfl)) (ck_21 _ (List.mem_of_getElem? (i := 4) rfl))) rfl rfl rfl (by exact ⟨rfl, hdc_6.1, hdc_6.2, hdd_8⟩) ⟨Nat.le_of_ble_eq_true rfl, Nat.le_of_ble_eq_true rfl⟩) ⟨fun a U g mk q => by obtain ⟨q0, qP, qK⟩ := q; exact ⟨q0, qP, va_K.moved (u := U) (U := U.calling g mk a) (Vm.Alike.refl U.vm) qK⟩, va_recv hKc hPc (ci := 0) (q0 := 0) rfl rfl, fun U hU hW => ⟨rfl, by rw [hU]; exact hPc, va_K.moved hW.alike hKc⟩⟩ rfl rfl hl.1 rfl (lv_room (Nat.le_of_ble_eq_true rfl)) dX0_landAt_3 ⟨Nat.le_of_ble_eq_true rfl, Nat.le_of_ble_eq_true rfl⟩) (fun r_1 hw => ?_)
  try dsimp only at hw
  have hq_r_1 : r_1 = fb_has fTo (0 : Int32) a0 := hw
  refine lv_if_eq (tgt := 27) hx hb dX0_landAt_6 (by decide) (fun c_2 => ?_) (fun c_2 => ?_)
  · refine lv_null hx hb dX0_landAt_27 ?_
    exact W.aret (v := .null) hx hb hr (by first | exact Or.inl ⟨_, rfl⟩ | exact Or.inr ⟨_, rfl⟩) (by first | exact Or.inl rfl | exact Or.inr ⟨_, rfl⟩) (fun t ht hW => ⟨none, rfl, (by rw [fb_landIs, ← hq_r_1, if_pos c_2]; rfl), ht⟩) (fun _ h => by cases h) dX0_landAt_28
  · refine lv_iload_n hx hb dX0_landAt_9 rfl (lv_at hl 1 rfl) ?_
    refine lv_aload_n hx hb dX0_landAt_10 rfl (lv_at hl 0 rfl) ?_
    refine va_get (D := (dC, dI)) (ci := 0) (v := .ref bla) (C := RX0) (T := TX0) (N := 12) hx hb htw inlX0 hown hK hP 0 rfl rfl 2 (by decide) (htw _ (ck_6 _ (List.mem_of_getElem? (i := 1) rfl))) (fun _ h9 => h9) rfl dX0_landAt_11 ?_
    refine va_alen hx hb hK hP 2 1 rfl rfl (v := 4) rfl dX0_landAt_14 ?_
    refine lv_icmp_ge (tgt := 27) hx hb dX0_landAt_15 (by decide) (fun c_3 => ?_) (fun c_3 => ?_)
    · refine lv_null hx hb dX0_landAt_27 ?_
      exact W.aret (v := .null) hx hb hr (by first | exact Or.inl ⟨_, rfl⟩ | exact Or.inr ⟨_, rfl⟩) (by first | exact Or.inl rfl | exact Or.inr ⟨_, rfl⟩) (fun t ht hW => ⟨none, rfl, (by rw [fb_landIs, ← hq_r_1, if_neg c_2, if_pos c_3]; rfl), ht⟩) (fun _ h => by cases h) dX0_landAt_28
    · refine lv_aload_n hx hb dX0_landAt_18 rfl (lv_at hl 0 rfl) ?_
      refine va_get (D := (dC, dI)) (ci := 0) (v := .ref bla) (C := RX0) (T := TX0) (N := 12) hx hb htw inlX0 hown hK hP 0 rfl rfl 2 (by decide) (htw _ (ck_6 _ (List.mem_of_getElem? (i := 1) rfl))) (fun _ h9 => h9) rfl dX0_landAt_19 ?_
      refine lv_iload_n hx hb dX0_landAt_22 rfl (lv_at hl 1 rfl) ?_
      refine xg_aldq hx hb hK hP 2 1 rfl rfl rfl (xg_inr (N := 4) rfl (xb_hasnn hq_r_1 c_2) c_3) dX0_landAt_23 ?_
      refine W.eq (g2 := F0 m 24 ls [.ref (La a0.toNatClampNeg)]) rfl ?_
      refine lv_goto (tgt := 28) hx hb dX0_landAt_24 (by decide) ?_
      exact W.aret (v := .ref (La a0.toNatClampNeg)) hx hb hr (by first | exact Or.inl ⟨_, rfl⟩ | exact Or.inr ⟨_, rfl⟩) (by first | exact Or.inl rfl | exact Or.inr ⟨_, rfl⟩) (fun t ht hW => ⟨some (La a0.toNatClampNeg), rfl, (by rw [fb_landIs, ← hq_r_1, if_neg c_2, if_neg c_3]; rfl), ht⟩) (fun _ h => by cases h) dX0_landAt_28
