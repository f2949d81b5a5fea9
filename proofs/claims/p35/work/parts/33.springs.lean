def fx_springsIn (wd : Int32) (wf : Int32) (mp : Int32) (mb : Int32) (mo : Int32) (sp : Int32) (sb : Int32) (fi : Int32) (gr : Int32) (fr : Int32) (a0 : Int64) : Int64 := (xL (fl_beginOf fi gr fr a0) (fun r_1 => (xL (fl_lengthOf fi gr fr a0) (fun r_2 => (xL (fs_springsBy wd wf mp mb mo sp sb ((r_1 + r_2) - 1)) (fun r_3 => (xL (fs_springsBy wd wf mp mb mo sp sb (r_1 - 1)) (fun r_4 => (r_3 - r_4)))))))))
theorem dX11_springsIn_0 : decode cX11_springsIn 0 = .ok (.aload_n 1, 1) := zk_43 (by decide +kernel)
theorem dX11_springsIn_1 : decode cX11_springsIn 1 = .ok (.lload_n 2, 1) := zk_32 (by decide +kernel)
theorem dX11_springsIn_2 : decode cX11_springsIn 2 = .ok (.invokevirtual 155, 3) := zk_182 (by decide +kernel)
theorem dX11_springsIn_5 : decode cX11_springsIn 5 = .ok (.lstore 4, 2) := zk_55 (by decide +kernel)
theorem dX11_springsIn_7 : decode cX11_springsIn 7 = .ok (.aload_n 0, 1) := zk_42 (by decide +kernel)
theorem dX11_springsIn_8 : decode cX11_springsIn 8 = .ok (.getfield 19, 3) := zk_180 (by decide +kernel)
theorem dX11_springsIn_11 : decode cX11_springsIn 11 = .ok (.getfield 162, 3) := zk_180 (by decide +kernel)
theorem dX11_springsIn_14 : decode cX11_springsIn 14 = .ok (.lload 4, 2) := zk_22 (by decide +kernel)
theorem dX11_springsIn_16 : decode cX11_springsIn 16 = .ok (.aload_n 1, 1) := zk_43 (by decide +kernel)
theorem dX11_springsIn_17 : decode cX11_springsIn 17 = .ok (.lload_n 2, 1) := zk_32 (by decide +kernel)
theorem dX11_springsIn_18 : decode cX11_springsIn 18 = .ok (.invokevirtual 145, 3) := zk_182 (by decide +kernel)
theorem dX11_springsIn_21 : decode cX11_springsIn 21 = .ok (.ladd, 1) := zk_97 (by decide +kernel)
theorem dX11_springsIn_22 : decode cX11_springsIn 22 = .ok (.lconst 1, 1) := zk_10 (by decide +kernel)
theorem dX11_springsIn_23 : decode cX11_springsIn 23 = .ok (.lsub, 1) := zk_101 (by decide +kernel)
theorem dX11_springsIn_24 : decode cX11_springsIn 24 = .ok (.invokevirtual 246, 3) := zk_182 (by decide +kernel)
theorem dX11_springsIn_27 : decode cX11_springsIn 27 = .ok (.aload_n 0, 1) := zk_42 (by decide +kernel)
theorem dX11_springsIn_28 : decode cX11_springsIn 28 = .ok (.getfield 19, 3) := zk_180 (by decide +kernel)
theorem dX11_springsIn_31 : decode cX11_springsIn 31 = .ok (.getfield 162, 3) := zk_180 (by decide +kernel)
theorem dX11_springsIn_34 : decode cX11_springsIn 34 = .ok (.lload 4, 2) := zk_22 (by decide +kernel)
theorem dX11_springsIn_36 : decode cX11_springsIn 36 = .ok (.lconst 1, 1) := zk_10 (by decide +kernel)
theorem dX11_springsIn_37 : decode cX11_springsIn 37 = .ok (.lsub, 1) := zk_101 (by decide +kernel)
theorem dX11_springsIn_38 : decode cX11_springsIn 38 = .ok (.invokevirtual 246, 3) := zk_182 (by decide +kernel)
theorem dX11_springsIn_41 : decode cX11_springsIn 41 = .ok (.lsub, 1) := zk_101 (by decide +kernel)
theorem dX11_springsIn_42 : decode cX11_springsIn 42 = .ok (.lreturn, 1) := zk_173 (by decide +kernel)
set_option maxHeartbeats 4000000 in
set_option maxRecDepth 100000 in
theorem gx_springsIn (l : Launch) (dC : Nat → ClassId) (dI : Nat → Nat → Nat) (x : Nat) (pa : Nat) (bk : Nat) (xsp : Nat) (xdy : Nat) (le : Nat) (xst : Nat) (xsc : Int32) (xim : Nat) (xil : Nat) (xik : Int32) (xmo : Nat) (xom : Nat) (wi : Nat) (bto : Nat) (bnm : Nat) (bla : Nat) (bsk : Nat) (bru : Nat) (bbo : Nat) (bdi : Nat) (bda : Nat) (bdk : Nat) (bdt : Nat) (bdp : Nat) (bno : Nat) (wd : Int32) (wf : Int32) (mp : Int32) (mb : Int32) (mo : Int32) (sp : Int32) (sb : Int32) (la : Nat) (fi : Int32) (gr : Int32) (fr : Int32) (a0 : Int64) : Met l yX11_springsIn (Cond.code yX11_springsIn cX11_springsIn 6 (some .long) :: wsL_law) ({ frames := 2, cells := 0, slots := 0, locals := 45 }) (va_Pc [.ref x, .ref la, .long a0] (fun U => va_P (dC, dI) vwCl [(eO11a x pa bk xsp xdy le xst xsc xim xil xik xmo xom wi), (eO0a bk bto bnm bla bsk bru bbo bdi bda bdk bdt bdp bno), (eO9a bsk wd wf mp mb mo sp sb), (eO1a la fi gr fr)] U.heap ∧ va_K (dC, dI) vwCl [] U ∧ xN U)) (vp_Sl (fun r => r = fx_springsIn wd wf mp mb mo sp sb fi gr fr a0)) 0 0 (fun _ => False) := by
  refine Met.ofW (cc := cX11_springsIn) (maxL := 6) (ret := (some .long)) (by decide) rfl ?_
  intro p e s m args below meth c s₁ B hml hv
  obtain ⟨rfl, hP, hK, hNx⟩ := hv
  have hx := B.exec
  have hb := B.bytes
  have hr := B.returns
  have hts := atoms_spec (ws := Cond.code yX11_springsIn cX11_springsIn 6 (some .long) :: wsL_law) B.pre
  have htw : ∀ w ∈ wsL_law, w.before _ s = true := fun w h => hts w (List.mem_cons_of_mem _ h)
  have hown : s.vm.findClass RX11 = some m.cls := findClass_of_methodNamed B.named
  have hlocks := B.notSynchronized
  have hl := lv_entry ([.ref x, .ref la, .long a0]) (n := 6) (Nat.le_of_ble_eq_true rfl)
  rw [lg_entry_eq]
  generalize (lg_sl ([.ref x, .ref la, .long a0]) ++ List.replicate (6 - (lg_sl ([.ref x, .ref la, .long a0])).length) Slot.unset).toArray = ls at hl ⊢
  have hl : lv_has ls 6 [(0, .ref x), (1, .ref la), (2, .long a0)] := hl
  refine lv_aload_n hx hb dX11_springsIn_0 rfl (lv_at hl 1 rfl) ?_
  refine lv_lload_n hx hb dX11_springsIn_1 rfl (lv_at hl 2 rfl) ?_
  have hPc := hP.sub (ws' := [(eO1a la fi gr fr)]) [3] rfl
  have hKc := hK.sub (tys' := []) [] rfl
  refine vp_callSl (W.runV (As := [.long a0]) (rest := []) ⟨hx, hb, hml, hown, htw⟩ (gl_beginOf l dC dI la fi gr fr a0) (cwV 1 htw (xg_V (ck_36 _ (List.mem_of_getElem? (i := 1) rfl)) (ck_21 _ (List.mem_of_getElem? (i := 21) rfl)) (ck_21 _ (List.mem_of_getElem? (i := 22) rfl)) (ck_6 _ (List.mem_of_getElem? (i := 19) rfl)) (ck_21 _ (List.mem_of_getElem? (i := 23) rfl))) rfl rfl rfl (by exact ⟨rfl, hdc_0.1, hdc_0.2, hdd_0⟩) ⟨Nat.le_of_ble_eq_true rfl, Nat.le_of_ble_eq_true rfl⟩) ⟨fun a U g mk q => by obtain ⟨q0, qP, qK⟩ := q; exact ⟨q0, qP, va_K.moved (u := U) (U := U.calling g mk a) (Vm.Alike.refl U.vm) qK⟩, va_recv hKc hPc (ci := 1) (q0 := 0) rfl rfl, fun U hU hW => ⟨rfl, by rw [hU]; exact hPc, va_K.moved hW.alike hKc⟩⟩ rfl rfl hl.1 rfl (lv_room (Nat.le_of_ble_eq_true rfl)) dX11_springsIn_2 ⟨Nat.le_of_ble_eq_true rfl, Nat.le_of_ble_eq_true rfl⟩) (fun r_1 hw => ?_)
  try dsimp only at hw
  have hq_r_1 : r_1 = fl_beginOf fi gr fr a0 := hw
  refine lv_lstore (lv' := [(4, .long r_1), (0, .ref x), (1, .ref la), (2, .long a0)]) hx hb dX11_springsIn_5 hl (by decide) rfl (fun ls hl => ?_)
  refine lv_aload_n hx hb dX11_springsIn_7 rfl (lv_at hl 1 rfl) ?_
  refine va_get (D := (dC, dI)) (ci := 11) (v := .ref bk) (C := RX11) (T := TX11) (N := 13) hx hb htw inlX11 hown hK hP 0 rfl rfl 1 (by decide) (htw _ (ck_1 _ (List.mem_of_getElem? (i := 21) rfl))) (fun _ h9 => h9) rfl dX11_springsIn_8 ?_
  refine va_get (D := (dC, dI)) (ci := 0) (v := .ref bsk) (C := RX0) (T := TX0) (N := 12) hx hb htw inlX0 hown hK hP 1 rfl rfl 3 (by decide) (htw _ (ck_37 _ (List.mem_of_getElem? (i := 9) rfl))) (fun _ h9 => h9) rfl dX11_springsIn_11 ?_
  refine lv_lload hx hb dX11_springsIn_14 (lv_at hl 0 rfl) ?_
  refine lv_aload_n hx hb dX11_springsIn_16 rfl (lv_at hl 2 rfl) ?_
  refine lv_lload_n hx hb dX11_springsIn_17 rfl (lv_at hl 3 rfl) ?_
  have hPc := hP.sub (ws' := [(eO1a la fi gr fr)]) [3] rfl
  have hKc := hK.sub (tys' := []) [] rfl
  refine vp_callSl (W.runV (As := [.long a0]) (rest := [.long r_1, .ref bsk]) ⟨hx, hb, hml, hown, htw⟩ (gl_lengthOf l dC dI la fi gr fr a0) (cwV 1 htw (xg_V (ck_34 _ (List.mem_of_getElem? (i := 21) rfl)) (ck_21 _ (List.mem_of_getElem? (i := 10) rfl)) (ck_21 _ (List.mem_of_getElem? (i := 11) rfl)) (ck_6 _ (List.mem_of_getElem? (i := 19) rfl)) (ck_21 _ (List.mem_of_getElem? (i := 12) rfl))) rfl rfl rfl (by exact ⟨rfl, hdc_0.1, hdc_0.2, hdd_0⟩) ⟨Nat.le_of_ble_eq_true rfl, Nat.le_of_ble_eq_true rfl⟩) ⟨fun a U g mk q => by obtain ⟨q0, qP, qK⟩ := q; exact ⟨q0, qP, va_K.moved (u := U) (U := U.calling g mk a) (Vm.Alike.refl U.vm) qK⟩, va_recv hKc hPc (ci := 1) (q0 := 0) rfl rfl, fun U hU hW => ⟨rfl, by rw [hU]; exact hPc, va_K.moved hW.alike hKc⟩⟩ rfl rfl hl.1 rfl (lv_room (Nat.le_of_ble_eq_true rfl)) dX11_springsIn_18 ⟨Nat.le_of_ble_eq_true rfl, Nat.le_of_ble_eq_true rfl⟩) (fun r_2 hw => ?_)
  try dsimp only at hw
  have hq_r_2 : r_2 = fl_lengthOf fi gr fr a0 := hw
  refine lv_ladd hx hb dX11_springsIn_21 ?_
  refine lv_lconst (v := 1) hx hb dX11_springsIn_22 (by decide) ?_
  refine lv_lsub hx hb dX11_springsIn_23 ?_
  have hPc := hP.sub (ws' := [(eO9a bsk wd wf mp mb mo sp sb)]) [2] rfl
  have hKc := hK.sub (tys' := []) [] rfl
  refine vp_callSl (W.runV (As := [.long ((r_1 + r_2) - 1)]) (rest := []) ⟨hx, hb, hml, hown, htw⟩ (gs_springsBy l dC dI bsk wd wf mp mb mo sp sb ((r_1 + r_2) - 1)) (cwV 1 htw (xg_V (ck_47 _ (List.mem_of_getElem? (i := 0) rfl)) (ck_47 _ (List.mem_of_getElem? (i := 1) rfl)) (ck_47 _ (List.mem_of_getElem? (i := 2) rfl)) (ck_6 _ (List.mem_of_getElem? (i := 4) rfl)) (ck_47 _ (List.mem_of_getElem? (i := 3) rfl))) rfl rfl rfl (by exact ⟨rfl, hdc_2.1, hdc_2.2, hdd_0⟩) ⟨Nat.le_of_ble_eq_true rfl, Nat.le_of_ble_eq_true rfl⟩) ⟨fun a U g mk q => by obtain ⟨q0, qP, qK, qx⟩ := q; exact ⟨q0, qP, va_K.moved (u := U) (U := U.calling g mk a) (Vm.Alike.refl U.vm) qK, xN.calling qx⟩, va_recv hKc hPc (ci := 9) (q0 := 0) rfl rfl, fun U hU hW => ⟨rfl, by rw [hU]; exact hPc, va_K.moved hW.alike hKc, xN.warm hW hNx⟩⟩ rfl rfl hl.1 rfl (lv_room (Nat.le_of_ble_eq_true rfl)) dX11_springsIn_24 ⟨Nat.le_of_ble_eq_true rfl, Nat.le_of_ble_eq_true rfl⟩) (fun r_3 hw => ?_)
  try dsimp only at hw
  have hq_r_3 : r_3 = fs_springsBy wd wf mp mb mo sp sb ((r_1 + r_2) - 1) := hw
  refine lv_aload_n hx hb dX11_springsIn_27 rfl (lv_at hl 1 rfl) ?_
  refine va_get (D := (dC, dI)) (ci := 11) (v := .ref bk) (C := RX11) (T := TX11) (N := 13) hx hb htw inlX11 hown hK hP 0 rfl rfl 1 (by decide) (htw _ (ck_1 _ (List.mem_of_getElem? (i := 21) rfl))) (fun _ h9 => h9) rfl dX11_springsIn_28 ?_
  refine va_get (D := (dC, dI)) (ci := 0) (v := .ref bsk) (C := RX0) (T := TX0) (N := 12) hx hb htw inlX0 hown hK hP 1 rfl rfl 3 (by decide) (htw _ (ck_37 _ (List.mem_of_getElem? (i := 9) rfl))) (fun _ h9 => h9) rfl dX11_springsIn_31 ?_
  refine lv_lload hx hb dX11_springsIn_34 (lv_at hl 0 rfl) ?_
  refine lv_lconst (v := 1) hx hb dX11_springsIn_36 (by decide) ?_
  refine lv_lsub hx hb dX11_springsIn_37 ?_
  have hPc := hP.sub (ws' := [(eO9a bsk wd wf mp mb mo sp sb)]) [2] rfl
  have hKc := hK.sub (tys' := []) [] rfl
  refine vp_callSl (W.runV (As := [.long (r_1 - 1)]) (rest := [.long r_3]) ⟨hx, hb, hml, hown, htw⟩ (gs_springsBy l dC dI bsk wd wf mp mb mo sp sb (r_1 - 1)) (cwV 1 htw (xg_V (ck_47 _ (List.mem_of_getElem? (i := 0) rfl)) (ck_47 _ (List.mem_of_getElem? (i := 1) rfl)) (ck_47 _ (List.mem_of_getElem? (i := 2) rfl)) (ck_6 _ (List.mem_of_getElem? (i := 4) rfl)) (ck_47 _ (List.mem_of_getElem? (i := 3) rfl))) rfl rfl rfl (by exact ⟨rfl, hdc_2.1, hdc_2.2, hdd_0⟩) ⟨Nat.le_of_ble_eq_true rfl, Nat.le_of_ble_eq_true rfl⟩) ⟨fun a U g mk q => by obtain ⟨q0, qP, qK, qx⟩ := q; exact ⟨q0, qP, va_K.moved (u := U) (U := U.calling g mk a) (Vm.Alike.refl U.vm) qK, xN.calling qx⟩, va_recv hKc hPc (ci := 9) (q0 := 0) rfl rfl, fun U hU hW => ⟨rfl, by rw [hU]; exact hPc, va_K.moved hW.alike hKc, xN.warm hW hNx⟩⟩ rfl rfl hl.1 rfl (lv_room (Nat.le_of_ble_eq_true rfl)) dX11_springsIn_38 ⟨Nat.le_of_ble_eq_true rfl, Nat.le_of_ble_eq_true rfl⟩) (fun r_4 hw => ?_)
  try dsimp only at hw
  have hq_r_4 : r_4 = fs_springsBy wd wf mp mb mo sp sb (r_1 - 1) := hw
  refine lv_lsub hx hb dX11_springsIn_41 ?_
  exact W.lret (v := (r_3 - r_4)) hx hb hr (fun t ht hW => ⟨(r_3 - r_4), rfl, (Eq.symm ((by rw [fx_springsIn]; (try rw [← hq_r_1]); (try rw [xL_eq]); (try rw [← hq_r_2]); (try rw [xL_eq]); (try rw [← hq_r_3]); (try rw [xL_eq]); (try rw [← hq_r_4]); (try rw [xL_eq]); try rfl))), ht⟩) (fun _ h => by cases h) dX11_springsIn_42

def fx_springs (fTo : Nat → Int32) (FI : Nat → Int32) (GR : Nat → Int32) (FR : Nat → Int32) (wd : Int32) (wf : Int32) (mp : Int32) (mb : Int32) (mo : Int32) (sp : Int32) (sb : Int32) (a0 : Int32) (a1 : Int32) : Int64 := (if fb_landIs fTo a0 = 0 then (-1 : Int64) else (xL (fl_canBeAsked (FI a0.toNatClampNeg) (GR a0.toNatClampNeg) (FR a0.toNatClampNeg) a1.toInt64) (fun r_3 => (if r_3 = 0 then (-1 : Int64) else (xL (fl_beginOf (FI a0.toNatClampNeg) (GR a0.toNatClampNeg) (FR a0.toNatClampNeg) a1.toInt64) (fun r_5 => (if lg_cmp r_5 1000000000000 ≤ 0 then (xL ((fx_springsIn wd wf mp mb mo sp sb (FI a0.toNatClampNeg) (GR a0.toNatClampNeg) (FR a0.toNatClampNeg) a1.toInt64)) (fun r_7 => r_7)) else (-1 : Int64))))))))
theorem dX11_springs_0 : decode cX11_springs 0 = .ok (.aload_n 0, 1) := zk_42 (by decide +kernel)
theorem dX11_springs_1 : decode cX11_springs 1 = .ok (.getfield 19, 3) := zk_180 (by decide +kernel)
theorem dX11_springs_4 : decode cX11_springs 4 = .ok (.iload_n 1, 1) := zk_27 (by decide +kernel)
theorem dX11_springs_5 : decode cX11_springs 5 = .ok (.invokevirtual 112, 3) := zk_182 (by decide +kernel)
theorem dX11_springs_8 : decode cX11_springs 8 = .ok (.astore_n 3, 1) := zk_78 (by decide +kernel)
theorem dX11_springs_9 : decode cX11_springs 9 = .ok (.aload_n 3, 1) := zk_45 (by decide +kernel)
theorem dX11_springs_10 : decode cX11_springs 10 = .ok (.ifnull 25, 3) := zk_198 (by decide +kernel)
theorem dX11_springs_35 : decode cX11_springs 35 = .ok (.ldc2_w 143, 3) := zk_20 (by decide +kernel)
theorem dX11_springs_38 : decode cX11_springs 38 = .ok (.lreturn, 1) := zk_173 (by decide +kernel)
theorem dX11_springs_13 : decode cX11_springs 13 = .ok (.aload_n 3, 1) := zk_45 (by decide +kernel)
theorem dX11_springs_14 : decode cX11_springs 14 = .ok (.iload_n 2, 1) := zk_28 (by decide +kernel)
theorem dX11_springs_15 : decode cX11_springs 15 = .ok (.i2l, 1) := zk_133 (by decide +kernel)
theorem dX11_springs_16 : decode cX11_springs 16 = .ok (.invokevirtual 139, 3) := zk_182 (by decide +kernel)
theorem dX11_springs_19 : decode cX11_springs 19 = .ok (.ifCond .eq 16, 3) := zk_153 (by decide +kernel)
theorem dX11_springs_22 : decode cX11_springs 22 = .ok (.aload_n 3, 1) := zk_45 (by decide +kernel)
theorem dX11_springs_23 : decode cX11_springs 23 = .ok (.iload_n 2, 1) := zk_28 (by decide +kernel)
theorem dX11_springs_24 : decode cX11_springs 24 = .ok (.i2l, 1) := zk_133 (by decide +kernel)
theorem dX11_springs_25 : decode cX11_springs 25 = .ok (.invokevirtual 155, 3) := zk_182 (by decide +kernel)
theorem dX11_springs_28 : decode cX11_springs 28 = .ok (.ldc2_w 209, 3) := zk_20 (by decide +kernel)
theorem dX11_springs_31 : decode cX11_springs 31 = .ok (.lcmp, 1) := zk_148 (by decide +kernel)
theorem dX11_springs_32 : decode cX11_springs 32 = .ok (.ifCond .le 7, 3) := zk_158 (by decide +kernel)
theorem dX11_springs_39 : decode cX11_springs 39 = .ok (.aload_n 0, 1) := zk_42 (by decide +kernel)
theorem dX11_springs_40 : decode cX11_springs 40 = .ok (.aload_n 3, 1) := zk_45 (by decide +kernel)
theorem dX11_springs_41 : decode cX11_springs 41 = .ok (.iload_n 2, 1) := zk_28 (by decide +kernel)
theorem dX11_springs_42 : decode cX11_springs 42 = .ok (.i2l, 1) := zk_133 (by decide +kernel)
theorem dX11_springs_43 : decode cX11_springs 43 = .ok (.invokevirtual 242, 3) := zk_182 (by decide +kernel)
theorem dX11_springs_46 : decode cX11_springs 46 = .ok (.lreturn, 1) := zk_173 (by decide +kernel)
set_option maxHeartbeats 4000000 in
set_option maxRecDepth 100000 in
theorem gx_springs (l : Launch) (dC : Nat → ClassId) (dI : Nat → Nat → Nat) (x : Nat) (pa : Nat) (bk : Nat) (xsp : Nat) (xdy : Nat) (le : Nat) (xst : Nat) (xsc : Int32) (xim : Nat) (xil : Nat) (xik : Int32) (xmo : Nat) (xom : Nat) (wi : Nat) (bto : Nat) (bnm : Nat) (bla : Nat) (bsk : Nat) (bru : Nat) (bbo : Nat) (bdi : Nat) (bda : Nat) (bdk : Nat) (bdt : Nat) (bdp : Nat) (bno : Nat) (cTo : ClassId) (fTo : Nat → Int32) (cLa : ClassId) (La : Nat → Nat) (FI : Nat → Int32) (GR : Nat → Int32) (FR : Nat → Int32) (wd : Int32) (wf : Int32) (mp : Int32) (mb : Int32) (mo : Int32) (sp : Int32) (sb : Int32) (a0 : Int32) (a1 : Int32) : Met l yX11_springs (Cond.code yX11_springs cX11_springs 4 (some .long) :: wsL_law) ({ frames := 3, cells := 0, slots := 0, locals := 70 }) (va_Pc [.ref x, .int a0, .int a1] (fun U => va_P (dC, dI) vwCl [(eO11a x pa bk xsp xdy le xst xsc xim xil xik xmo xom wi), (eO0a bk bto bnm bla bsk bru bbo bdi bda bdk bdt bdp bno), (eA0 bto cTo 5 fTo), (eA4 bla cLa 4 (fun k => some (La k))), (eO1a (La 0) (FI 0) (GR 0) (FR 0)), (eO1a (La 1) (FI 1) (GR 1) (FR 1)), (eO1a (La 2) (FI 2) (GR 2) (FR 2)), (eO1a (La 3) (FI 3) (GR 3) (FR 3)), (eO9a bsk wd wf mp mb mo sp sb)] U.heap ∧ va_K (dC, dI) vwCl [(cTo, .int), (cLa, .object RX1)] U ∧ xN U)) (vp_Sl (fun r => r = fx_springs fTo FI GR FR wd wf mp mb mo sp sb a0 a1)) 0 0 (fun _ => False) := by
  refine Met.ofW (cc := cX11_springs) (maxL := 4) (ret := (some .long)) (by decide) rfl ?_
  intro p e s m args below meth c s₁ B hml hv
  obtain ⟨rfl, hP, hK, hNx⟩ := hv
  have hx := B.exec
  have hb := B.bytes
  have hr := B.returns
  have hts := atoms_spec (ws := Cond.code yX11_springs cX11_springs 4 (some .long) :: wsL_law) B.pre
  have htw : ∀ w ∈ wsL_law, w.before _ s = true := fun w h => hts w (List.mem_cons_of_mem _ h)
  have hown : s.vm.findClass RX11 = some m.cls := findClass_of_methodNamed B.named
  have hlocks := B.notSynchronized
  have hl := lv_entry ([.ref x, .int a0, .int a1]) (n := 4) (Nat.le_of_ble_eq_true rfl)
  rw [lg_entry_eq]
  generalize (lg_sl ([.ref x, .int a0, .int a1]) ++ List.replicate (4 - (lg_sl ([.ref x, .int a0, .int a1])).length) Slot.unset).toArray = ls at hl ⊢
  have hl : lv_has ls 4 [(0, .ref x), (1, .int a0), (2, .int a1)] := hl
  refine lv_aload_n hx hb dX11_springs_0 rfl (lv_at hl 0 rfl) ?_
  refine va_get (D := (dC, dI)) (ci := 11) (v := .ref bk) (C := RX11) (T := TX11) (N := 13) hx hb htw inlX11 hown hK hP 0 rfl rfl 1 (by decide) (htw _ (ck_1 _ (List.mem_of_getElem? (i := 21) rfl))) (fun _ h9 => h9) rfl dX11_springs_1 ?_
  refine lv_iload_n hx hb dX11_springs_4 rfl (lv_at hl 1 rfl) ?_
  have hPc := hP.sub (ws' := [(eO0a bk bto bnm bla bsk bru bbo bdi bda bdk bdt bdp bno), (eA0 bto cTo 5 fTo), (eA4 bla cLa 4 (fun k => some (La k)))]) [1, 2, 3] rfl
  have hKc := hK.sub (tys' := [(cTo, .int), (cLa, .object RX1)]) [0, 1] rfl
  refine va_csq (W.runV (As := [.int a0]) (rest := []) ⟨hx, hb, hml, hown, htw⟩ (gb_landAt l dC dI bk bto bnm bla bsk bru bbo bdi bda bdk bdt bdp bno cTo fTo cLa La a0) (cwV 1 htw (xg_V (ck_33 _ (List.mem_of_getElem? (i := 21) rfl)) (ck_20 _ (List.mem_of_getElem? (i := 22) rfl)) (ck_20 _ (List.mem_of_getElem? (i := 23) rfl)) (ck_1 _ (List.mem_of_getElem? (i := 20) rfl)) (ck_21 _ (List.mem_of_getElem? (i := 0) rfl))) rfl rfl rfl (by exact ⟨rfl, hdc_6.1, hdc_6.2, hdd_15⟩) ⟨Nat.le_of_ble_eq_true rfl, Nat.le_of_ble_eq_true rfl⟩) ⟨fun a U g mk q => by obtain ⟨q0, qP, qK⟩ := q; exact ⟨q0, qP, va_K.moved (u := U) (U := U.calling g mk a) (Vm.Alike.refl U.vm) qK⟩, va_recv hKc hPc (ci := 0) (q0 := 0) rfl rfl, fun U hU hW => ⟨rfl, by rw [hU]; exact hPc, va_K.moved hW.alike hKc⟩⟩ rfl rfl hl.1 rfl (lv_room (Nat.le_of_ble_eq_true rfl)) dX11_springs_5 ⟨Nat.le_of_ble_eq_true rfl, Nat.le_of_ble_eq_true rfl⟩) (fun r_1 hw => ?_)
  try dsimp only at hw
  by_cases hz_2 : fb_landIs fTo a0 = 0
  · obtain rfl : r_1 = none := by rw [hw, if_pos hz_2]
    refine W.eq (g2 := F0 m 8 ls [.null]) rfl ?_
    refine lv_astore_nN (lv' := [(3, .null), (0, .ref x), (1, .int a0), (2, .int a1)]) hx hb dX11_springs_8 rfl hl (by decide) rfl (fun ls hl => ?_)
    refine lv_aload_nN hx hb dX11_springs_9 rfl (lv_at hl 0 rfl) ?_
    refine lv_ifnullN (tgt := 35) hx hb dX11_springs_10 (by decide) ?_
    refine lv_ldc2 (v := (-1)) hx hb hown (htw _ (ck_34 _ (List.mem_of_getElem? (i := 14) rfl))) dX11_springs_35 ?_
    exact W.lret (v := (-1)) hx hb hr (fun t ht hW => ⟨(-1), rfl, (Eq.symm ((by rw [fx_springs]; (try rw [if_pos hz_2]); try rfl))), ht⟩) (fun _ h => by cases h) dX11_springs_38
  · obtain rfl : r_1 = some (La a0.toNatClampNeg) := by rw [hw, if_neg hz_2]
    have hP : va_P (dC, dI) vwCl [(eO11a x pa bk xsp xdy le xst xsc xim xil xik xmo xom wi), (eO0a bk bto bnm bla bsk bru bbo bdi bda bdk bdt bdp bno), (eA0 bto cTo 5 fTo), (eA4 bla cLa 4 (fun k => some (La k))), (eO1a (La 0) (FI 0) (GR 0) (FR 0)), (eO1a (La 1) (FI 1) (GR 1) (FR 1)), (eO1a (La 2) (FI 2) (GR 2) (FR 2)), (eO1a (La 3) (FI 3) (GR 3) (FR 3)), (eO9a bsk wd wf mp mb mo sp sb), ((La a0.toNatClampNeg), .inr (1, [.int (FI a0.toNatClampNeg), .int (GR a0.toNatClampNeg), .int (FR a0.toNatClampNeg)]))] s.heap := xb_P4 hP (fun k => (La k, .inr (1, [.int (FI k), .int (GR k), .int (FR k)]))) 4 rfl rfl rfl rfl (i := a0) (xg_inr (N := 4) rfl (fb_landIn hz_2).1 (fb_landIn hz_2).2)
    refine W.eq (g2 := F0 m 8 ls [.ref (La a0.toNatClampNeg)]) rfl ?_
    refine lv_astore_n (lv' := [(3, .ref (La a0.toNatClampNeg)), (0, .ref x), (1, .int a0), (2, .int a1)]) hx hb dX11_springs_8 rfl hl (by decide) rfl (fun ls hl => ?_)
    refine lv_aload_n hx hb dX11_springs_9 rfl (lv_at hl 0 rfl) ?_
    refine lv_ifnull hx hb dX11_springs_10 ?_
    refine lv_aload_n hx hb dX11_springs_13 rfl (lv_at hl 0 rfl) ?_
    refine lv_iload_n hx hb dX11_springs_14 rfl (lv_at hl 3 rfl) ?_
    refine lv_i2l (v := a1.toInt64) hx hb dX11_springs_15 rfl ?_
    have hPc := hP.sub (ws' := [((La a0.toNatClampNeg), .inr (1, [.int (FI a0.toNatClampNeg), .int (GR a0.toNatClampNeg), .int (FR a0.toNatClampNeg)]))]) [9] rfl
    have hKc := hK.sub (tys' := []) [] rfl
    refine vp_callSi (W.runV (As := [.long a1.toInt64]) (rest := []) ⟨hx, hb, hml, hown, htw⟩ (gl_canBeAsked l dC dI (La a0.toNatClampNeg) (FI a0.toNatClampNeg) (GR a0.toNatClampNeg) (FR a0.toNatClampNeg) a1.toInt64) (cwV 1 htw (xg_V (ck_34 _ (List.mem_of_getElem? (i := 15) rfl)) (ck_34 _ (List.mem_of_getElem? (i := 16) rfl)) (ck_34 _ (List.mem_of_getElem? (i := 17) rfl)) (ck_6 _ (List.mem_of_getElem? (i := 19) rfl)) (ck_34 _ (List.mem_of_getElem? (i := 18) rfl))) rfl rfl rfl (by exact ⟨rfl, hdc_0.1, hdc_0.2, hdd_1⟩) ⟨Nat.le_of_ble_eq_true rfl, Nat.le_of_ble_eq_true rfl⟩) ⟨fun a U g mk q => by obtain ⟨q0, qP, qK⟩ := q; exact ⟨q0, qP, va_K.moved (u := U) (U := U.calling g mk a) (Vm.Alike.refl U.vm) qK⟩, va_recv hKc hPc (ci := 1) (q0 := 0) rfl rfl, fun U hU hW => ⟨rfl, by rw [hU]; exact hPc, va_K.moved hW.alike hKc⟩⟩ rfl rfl hl.1 rfl (lv_room (Nat.le_of_ble_eq_true rfl)) dX11_springs_16 ⟨Nat.le_of_ble_eq_true rfl, Nat.le_of_ble_eq_true rfl⟩) (fun r_3 hw => ?_)
    try dsimp only at hw
    have hq_r_3 : r_3 = fl_canBeAsked (FI a0.toNatClampNeg) (GR a0.toNatClampNeg) (FR a0.toNatClampNeg) a1.toInt64 := hw
    refine lv_if_eq (tgt := 35) hx hb dX11_springs_19 (by decide) (fun c_4 => ?_) (fun c_4 => ?_)
    · refine lv_ldc2 (v := (-1)) hx hb hown (htw _ (ck_34 _ (List.mem_of_getElem? (i := 14) rfl))) dX11_springs_35 ?_
      exact W.lret (v := (-1)) hx hb hr (fun t ht hW => ⟨(-1), rfl, (Eq.symm ((by rw [fx_springs]; (try rw [if_neg hz_2]); (try rw [← hq_r_3]); (try rw [xL_eq]); (try rw [if_pos c_4]); try rfl))), ht⟩) (fun _ h => by cases h) dX11_springs_38
    · refine lv_aload_n hx hb dX11_springs_22 rfl (lv_at hl 0 rfl) ?_
      refine lv_iload_n hx hb dX11_springs_23 rfl (lv_at hl 3 rfl) ?_
      refine lv_i2l (v := a1.toInt64) hx hb dX11_springs_24 rfl ?_
      have hPc := hP.sub (ws' := [((La a0.toNatClampNeg), .inr (1, [.int (FI a0.toNatClampNeg), .int (GR a0.toNatClampNeg), .int (FR a0.toNatClampNeg)]))]) [9] rfl
      have hKc := hK.sub (tys' := []) [] rfl
      refine vp_callSl (W.runV (As := [.long a1.toInt64]) (rest := []) ⟨hx, hb, hml, hown, htw⟩ (gl_beginOf l dC dI (La a0.toNatClampNeg) (FI a0.toNatClampNeg) (GR a0.toNatClampNeg) (FR a0.toNatClampNeg) a1.toInt64) (cwV 1 htw (xg_V (ck_36 _ (List.mem_of_getElem? (i := 1) rfl)) (ck_21 _ (List.mem_of_getElem? (i := 21) rfl)) (ck_21 _ (List.mem_of_getElem? (i := 22) rfl)) (ck_6 _ (List.mem_of_getElem? (i := 19) rfl)) (ck_21 _ (List.mem_of_getElem? (i := 23) rfl))) rfl rfl rfl (by exact ⟨rfl, hdc_0.1, hdc_0.2, hdd_0⟩) ⟨Nat.le_of_ble_eq_true rfl, Nat.le_of_ble_eq_true rfl⟩) ⟨fun a U g mk q => by obtain ⟨q0, qP, qK⟩ := q; exact ⟨q0, qP, va_K.moved (u := U) (U := U.calling g mk a) (Vm.Alike.refl U.vm) qK⟩, va_recv hKc hPc (ci := 1) (q0 := 0) rfl rfl, fun U hU hW => ⟨rfl, by rw [hU]; exact hPc, va_K.moved hW.alike hKc⟩⟩ rfl rfl hl.1 rfl (lv_room (Nat.le_of_ble_eq_true rfl)) dX11_springs_25 ⟨Nat.le_of_ble_eq_true rfl, Nat.le_of_ble_eq_true rfl⟩) (fun r_5 hw => ?_)
      try dsimp only at hw
      have hq_r_5 : r_5 = fl_beginOf (FI a0.toNatClampNeg) (GR a0.toNatClampNeg) (FR a0.toNatClampNeg) a1.toInt64 := hw
      refine lv_ldc2 (v := 1000000000000) hx hb hown (htw _ (ck_35 _ (List.mem_of_getElem? (i := 14) rfl))) dX11_springs_28 ?_
      refine W.lcmp hx hb dX11_springs_31 ?_
      refine lv_if_le (tgt := 39) hx hb dX11_springs_32 (by decide) (fun c_6 => ?_) (fun c_6 => ?_)
      · refine lv_aload_n hx hb dX11_springs_39 rfl (lv_at hl 1 rfl) ?_
        refine lv_aload_n hx hb dX11_springs_40 rfl (lv_at hl 0 rfl) ?_
        refine lv_iload_n hx hb dX11_springs_41 rfl (lv_at hl 3 rfl) ?_
        refine lv_i2l (v := a1.toInt64) hx hb dX11_springs_42 rfl ?_
        have hPc := hP.sub (ws' := [(eO11a x pa bk xsp xdy le xst xsc xim xil xik xmo xom wi), (eO0a bk bto bnm bla bsk bru bbo bdi bda bdk bdt bdp bno), (eO9a bsk wd wf mp mb mo sp sb), ((La a0.toNatClampNeg), .inr (1, [.int (FI a0.toNatClampNeg), .int (GR a0.toNatClampNeg), .int (FR a0.toNatClampNeg)]))]) [0, 1, 8, 9] rfl
        have hKc := hK.sub (tys' := []) [] rfl
        refine vp_callSl (W.runV (As := [.ref (La a0.toNatClampNeg), .long a1.toInt64]) (rest := []) ⟨hx, hb, hml, hown, htw⟩ (gx_springsIn l dC dI x pa bk xsp xdy le xst xsc xim xil xik xmo xom wi bto bnm bla bsk bru bbo bdi bda bdk bdt bdp bno wd wf mp mb mo sp sb (La a0.toNatClampNeg) (FI a0.toNatClampNeg) (GR a0.toNatClampNeg) (FR a0.toNatClampNeg) a1.toInt64) (cwV 2 htw (xg_V (ck_46 _ (List.mem_of_getElem? (i := 20) rfl)) (ck_46 _ (List.mem_of_getElem? (i := 21) rfl)) (ck_46 _ (List.mem_of_getElem? (i := 22) rfl)) (ck_1 _ (List.mem_of_getElem? (i := 2) rfl)) (ck_46 _ (List.mem_of_getElem? (i := 23) rfl))) rfl rfl rfl (by exact ⟨rfl, hdc_8.1, hdc_8.2, hdd_18⟩) ⟨Nat.le_of_ble_eq_true rfl, Nat.le_of_ble_eq_true rfl⟩) ⟨fun a U g mk q => by obtain ⟨q0, qP, qK, qx⟩ := q; exact ⟨q0, qP, va_K.moved (u := U) (U := U.calling g mk a) (Vm.Alike.refl U.vm) qK, xN.calling qx⟩, va_recv hKc hPc (ci := 11) (q0 := 0) rfl rfl, fun U hU hW => ⟨rfl, by rw [hU]; exact hPc, va_K.moved hW.alike hKc, xN.warm hW hNx⟩⟩ rfl rfl hl.1 rfl (lv_room (Nat.le_of_ble_eq_true rfl)) dX11_springs_43 ⟨Nat.le_of_ble_eq_true rfl, Nat.le_of_ble_eq_true rfl⟩) (fun r_7 hw => ?_)
        try dsimp only at hw
        have hq_r_7 : r_7 = (fx_springsIn wd wf mp mb mo sp sb (FI a0.toNatClampNeg) (GR a0.toNatClampNeg) (FR a0.toNatClampNeg) a1.toInt64) := hw
        exact W.lret (v := r_7) hx hb hr (fun t ht hW => ⟨r_7, rfl, (Eq.symm ((by rw [fx_springs]; (try rw [if_neg hz_2]); (try rw [← hq_r_3]); (try rw [xL_eq]); (try rw [if_neg c_4]); (try rw [← hq_r_5]); (try rw [xL_eq]); (try rw [if_pos c_6]); (try rw [← hq_r_7]); (try rw [xL_eq]); try rfl))), ht⟩) (fun _ h => by cases h) dX11_springs_46
      · refine lv_ldc2 (v := (-1)) hx hb hown (htw _ (ck_34 _ (List.mem_of_getElem? (i := 14) rfl))) dX11_springs_35 ?_
        exact W.lret (v := (-1)) hx hb hr (fun t ht hW => ⟨(-1), rfl, (Eq.symm ((by rw [fx_springs]; (try rw [if_neg hz_2]); (try rw [← hq_r_3]); (try rw [xL_eq]); (try rw [if_neg c_4]); (try rw [← hq_r_5]); (try rw [xL_eq]); (try rw [if_neg c_6]); try rfl))), ht⟩) (fun _ h => by cases h) dX11_springs_38

def fx_many_d (FI : Nat → Int32) (GR : Nat → Int32) (FR : Nat → Int32) (wd : Int32) (wf : Int32) (mp : Int32) (mb : Int32) (mo : Int32) (sp : Int32) (sb : Int32) (a0 : Int32) (a1 : Int32) (a2 : Int32) : Nat → (Int32) → Int32
  | 0, L5d => (-2 : Int32)
  | n + 1, L5d => (if 1000 ≤ L5d then (-2 : Int32) else (xL (fl_canBeAsked (FI a0.toNatClampNeg) (GR a0.toNatClampNeg) (FR a0.toNatClampNeg) (a1.toInt64 + L5d.toInt64)) (fun r_10 => (if r_10 = 0 then (-2 : Int32) else (xL (fl_beginOf (FI a0.toNatClampNeg) (GR a0.toNatClampNeg) (FR a0.toNatClampNeg) (a1.toInt64 + L5d.toInt64)) (fun r_12 => (if lg_cmp r_12 1000000000000 ≤ 0 then (xL ((fx_springsIn wd wf mp mb mo sp sb (FI a0.toNatClampNeg) (GR a0.toNatClampNeg) (FR a0.toNatClampNeg) (a1.toInt64 + L5d.toInt64))) (fun r_14 => (if lg_cmp r_14 a2.toInt64 = 0 then (a1.toInt64 + L5d.toInt64).toInt32 else fx_many_d FI GR FR wd wf mp mb mo sp sb a0 a1 a2 n (L5d + 1)))) else (-2 : Int32))))))))
def fx_many (fTo : Nat → Int32) (FI : Nat → Int32) (GR : Nat → Int32) (FR : Nat → Int32) (wd : Int32) (wf : Int32) (mp : Int32) (mb : Int32) (mo : Int32) (sp : Int32) (sb : Int32) (a0 : Int32) (a1 : Int32) (a2 : Int32) : Int32 := (if fb_landIs fTo a0 = 0 then (-1 : Int32) else (xL (fl_canBeAsked (FI a0.toNatClampNeg) (GR a0.toNatClampNeg) (FR a0.toNatClampNeg) a1.toInt64) (fun r_3 => (if r_3 = 0 then (-1 : Int32) else (if a2 < 0 then (-1 : Int32) else (if a2 ≤ 99 then fx_many_d FI GR FR wd wf mp mb mo sp sb a0 a1 a2 1000 (0 : Int32) else (-1 : Int32)))))))
theorem gx_many_s0 {y0 : Int32} (h0 : ¬ (1000 ≤ y0)) (h1 : ¬ (y0 < 0)) : ¬ ((y0 + 1) < 0) := by lia
theorem gx_many_s1  : ¬ ((0 : Int32) < 0) := (by decide)
theorem dX11_many_0 : decode cX11_many 0 = .ok (.aload_n 0, 1) := zk_42 (by decide +kernel)
theorem dX11_many_1 : decode cX11_many 1 = .ok (.getfield 19, 3) := zk_180 (by decide +kernel)
theorem dX11_many_4 : decode cX11_many 4 = .ok (.iload_n 1, 1) := zk_27 (by decide +kernel)
theorem dX11_many_5 : decode cX11_many 5 = .ok (.invokevirtual 112, 3) := zk_182 (by decide +kernel)
theorem dX11_many_8 : decode cX11_many 8 = .ok (.astore 4, 2) := zk_58 (by decide +kernel)
theorem dX11_many_10 : decode cX11_many 10 = .ok (.aload 4, 2) := zk_25 (by decide +kernel)
theorem dX11_many_12 : decode cX11_many 12 = .ok (.ifnull 23, 3) := zk_198 (by decide +kernel)
theorem dX11_many_35 : decode cX11_many 35 = .ok (.iconst (-1), 1) := zk_2 (by decide +kernel)
theorem dX11_many_36 : decode cX11_many 36 = .ok (.ireturn, 1) := zk_172 (by decide +kernel)
theorem dX11_many_15 : decode cX11_many 15 = .ok (.aload 4, 2) := zk_25 (by decide +kernel)
theorem dX11_many_17 : decode cX11_many 17 = .ok (.iload_n 2, 1) := zk_28 (by decide +kernel)
theorem dX11_many_18 : decode cX11_many 18 = .ok (.i2l, 1) := zk_133 (by decide +kernel)
theorem dX11_many_19 : decode cX11_many 19 = .ok (.invokevirtual 139, 3) := zk_182 (by decide +kernel)
theorem dX11_many_22 : decode cX11_many 22 = .ok (.ifCond .eq 13, 3) := zk_153 (by decide +kernel)
theorem dX11_many_25 : decode cX11_many 25 = .ok (.iload_n 3, 1) := zk_29 (by decide +kernel)
theorem dX11_many_26 : decode cX11_many 26 = .ok (.ifCond .lt 9, 3) := zk_155 (by decide +kernel)
theorem dX11_many_29 : decode cX11_many 29 = .ok (.iload_n 3, 1) := zk_29 (by decide +kernel)
theorem dX11_many_30 : decode cX11_many 30 = .ok (.bipush 99, 2) := zk_16 (by decide +kernel)
theorem dX11_many_32 : decode cX11_many 32 = .ok (.if_icmp .le 5, 3) := zk_164 (by decide +kernel)
theorem dX11_many_37 : decode cX11_many 37 = .ok (.iconst 0, 1) := zk_3 (by decide +kernel)
theorem dX11_many_38 : decode cX11_many 38 = .ok (.istore 5, 2) := zk_54 (by decide +kernel)
theorem dX11_many_40 : decode cX11_many 40 = .ok (.iload 5, 2) := zk_21 (by decide +kernel)
theorem dX11_many_42 : decode cX11_many 42 = .ok (.sipush 1000, 3) := zk_17 (by decide +kernel)
theorem dX11_many_45 : decode cX11_many 45 = .ok (.if_icmp .ge 62, 3) := zk_162 (by decide +kernel)
theorem dX11_many_107 : decode cX11_many 107 = .ok (.bipush (-2), 2) := zk_16 (by decide +kernel)
theorem dX11_many_109 : decode cX11_many 109 = .ok (.ireturn, 1) := zk_172 (by decide +kernel)
theorem dX11_many_48 : decode cX11_many 48 = .ok (.iload_n 2, 1) := zk_28 (by decide +kernel)
theorem dX11_many_49 : decode cX11_many 49 = .ok (.i2l, 1) := zk_133 (by decide +kernel)
theorem dX11_many_50 : decode cX11_many 50 = .ok (.iload 5, 2) := zk_21 (by decide +kernel)
theorem dX11_many_52 : decode cX11_many 52 = .ok (.i2l, 1) := zk_133 (by decide +kernel)
theorem dX11_many_53 : decode cX11_many 53 = .ok (.ladd, 1) := zk_97 (by decide +kernel)
theorem dX11_many_54 : decode cX11_many 54 = .ok (.lstore 6, 2) := zk_55 (by decide +kernel)
theorem dX11_many_56 : decode cX11_many 56 = .ok (.aload 4, 2) := zk_25 (by decide +kernel)
theorem dX11_many_58 : decode cX11_many 58 = .ok (.lload 6, 2) := zk_22 (by decide +kernel)
theorem dX11_many_60 : decode cX11_many 60 = .ok (.invokevirtual 139, 3) := zk_182 (by decide +kernel)
theorem dX11_many_63 : decode cX11_many 63 = .ok (.ifCond .eq 17, 3) := zk_153 (by decide +kernel)
theorem dX11_many_80 : decode cX11_many 80 = .ok (.bipush (-2), 2) := zk_16 (by decide +kernel)
theorem dX11_many_82 : decode cX11_many 82 = .ok (.ireturn, 1) := zk_172 (by decide +kernel)
theorem dX11_many_66 : decode cX11_many 66 = .ok (.aload 4, 2) := zk_25 (by decide +kernel)
theorem dX11_many_68 : decode cX11_many 68 = .ok (.lload 6, 2) := zk_22 (by decide +kernel)
theorem dX11_many_70 : decode cX11_many 70 = .ok (.invokevirtual 155, 3) := zk_182 (by decide +kernel)
theorem dX11_many_73 : decode cX11_many 73 = .ok (.ldc2_w 209, 3) := zk_20 (by decide +kernel)
theorem dX11_many_76 : decode cX11_many 76 = .ok (.lcmp, 1) := zk_148 (by decide +kernel)
theorem dX11_many_77 : decode cX11_many 77 = .ok (.ifCond .le 6, 3) := zk_158 (by decide +kernel)
theorem dX11_many_83 : decode cX11_many 83 = .ok (.aload_n 0, 1) := zk_42 (by decide +kernel)
theorem dX11_many_84 : decode cX11_many 84 = .ok (.aload 4, 2) := zk_25 (by decide +kernel)
theorem dX11_many_86 : decode cX11_many 86 = .ok (.lload 6, 2) := zk_22 (by decide +kernel)
theorem dX11_many_88 : decode cX11_many 88 = .ok (.invokevirtual 242, 3) := zk_182 (by decide +kernel)
theorem dX11_many_91 : decode cX11_many 91 = .ok (.iload_n 3, 1) := zk_29 (by decide +kernel)
theorem dX11_many_92 : decode cX11_many 92 = .ok (.i2l, 1) := zk_133 (by decide +kernel)
theorem dX11_many_93 : decode cX11_many 93 = .ok (.lcmp, 1) := zk_148 (by decide +kernel)
theorem dX11_many_94 : decode cX11_many 94 = .ok (.ifCond .ne 7, 3) := zk_154 (by decide +kernel)
theorem dX11_many_101 : decode cX11_many 101 = .ok (.iinc 5 1, 3) := zk_132 (by decide +kernel)
theorem dX11_many_104 : decode cX11_many 104 = .ok (.goto (-64), 3) := zk_167 (by decide +kernel)
theorem dX11_many_97 : decode cX11_many 97 = .ok (.lload 6, 2) := zk_22 (by decide +kernel)
theorem dX11_many_99 : decode cX11_many 99 = .ok (.l2i, 1) := zk_136 (by decide +kernel)
theorem dX11_many_100 : decode cX11_many 100 = .ok (.ireturn, 1) := zk_172 (by decide +kernel)
set_option maxHeartbeats 4000000 in
set_option maxRecDepth 100000 in
theorem gx_many (l : Launch) (dC : Nat → ClassId) (dI : Nat → Nat → Nat) (x : Nat) (pa : Nat) (bk : Nat) (xsp : Nat) (xdy : Nat) (le : Nat) (xst : Nat) (xsc : Int32) (xim : Nat) (xil : Nat) (xik : Int32) (xmo : Nat) (xom : Nat) (wi : Nat) (bto : Nat) (bnm : Nat) (bla : Nat) (bsk : Nat) (bru : Nat) (bbo : Nat) (bdi : Nat) (bda : Nat) (bdk : Nat) (bdt : Nat) (bdp : Nat) (bno : Nat) (cTo : ClassId) (fTo : Nat → Int32) (cLa : ClassId) (La : Nat → Nat) (FI : Nat → Int32) (GR : Nat → Int32) (FR : Nat → Int32) (wd : Int32) (wf : Int32) (mp : Int32) (mb : Int32) (mo : Int32) (sp : Int32) (sb : Int32) (a0 : Int32) (a1 : Int32) (a2 : Int32) : Met l yX11_many (Cond.code yX11_many cX11_many 8 (some .int) :: wsL_law) ({ frames := 3, cells := 0, slots := 0, locals := 70 }) (va_Pc [.ref x, .int a0, .int a1, .int a2] (fun U => va_P (dC, dI) vwCl [(eO11a x pa bk xsp xdy le xst xsc xim xil xik xmo xom wi), (eO0a bk bto bnm bla bsk bru bbo bdi bda bdk bdt bdp bno), (eA0 bto cTo 5 fTo), (eA4 bla cLa 4 (fun k => some (La k))), (eO1a (La 0) (FI 0) (GR 0) (FR 0)), (eO1a (La 1) (FI 1) (GR 1) (FR 1)), (eO1a (La 2) (FI 2) (GR 2) (FR 2)), (eO1a (La 3) (FI 3) (GR 3) (FR 3)), (eO9a bsk wd wf mp mb mo sp sb)] U.heap ∧ va_K (dC, dI) vwCl [(cTo, .int), (cLa, .object RX1)] U ∧ xN U)) (vp_Si (fun r => r = fx_many fTo FI GR FR wd wf mp mb mo sp sb a0 a1 a2)) 0 0 (fun _ => False) := by
  refine Met.ofW (cc := cX11_many) (maxL := 8) (ret := (some .int)) (by decide) rfl ?_
  intro p e s m args below meth c s₁ B hml hv
  obtain ⟨rfl, hP, hK, hNx⟩ := hv
  have hx := B.exec
  have hb := B.bytes
  have hr := B.returns
  have hts := atoms_spec (ws := Cond.code yX11_many cX11_many 8 (some .int) :: wsL_law) B.pre
  have htw : ∀ w ∈ wsL_law, w.before _ s = true := fun w h => hts w (List.mem_cons_of_mem _ h)
  have hown : s.vm.findClass RX11 = some m.cls := findClass_of_methodNamed B.named
  have hlocks := B.notSynchronized
  have hl := lv_entry ([.ref x, .int a0, .int a1, .int a2]) (n := 8) (Nat.le_of_ble_eq_true rfl)
  rw [lg_entry_eq]
  generalize (lg_sl ([.ref x, .int a0, .int a1, .int a2]) ++ List.replicate (8 - (lg_sl ([.ref x, .int a0, .int a1, .int a2])).length) Slot.unset).toArray = ls at hl ⊢
  have hl : lv_has ls 8 [(0, .ref x), (1, .int a0), (2, .int a1), (3, .int a2)] := hl
  refine lv_aload_n hx hb dX11_many_0 rfl (lv_at hl 0 rfl) ?_
  refine va_get (D := (dC, dI)) (ci := 11) (v := .ref bk) (C := RX11) (T := TX11) (N := 13) hx hb htw inlX11 hown hK hP 0 rfl rfl 1 (by decide) (htw _ (ck_1 _ (List.mem_of_getElem? (i := 21) rfl))) (fun _ h9 => h9) rfl dX11_many_1 ?_
  refine lv_iload_n hx hb dX11_many_4 rfl (lv_at hl 1 rfl) ?_
  have hPc := hP.sub (ws' := [(eO0a bk bto bnm bla bsk bru bbo bdi bda bdk bdt bdp bno), (eA0 bto cTo 5 fTo), (eA4 bla cLa 4 (fun k => some (La k)))]) [1, 2, 3] rfl
  have hKc := hK.sub (tys' := [(cTo, .int), (cLa, .object RX1)]) [0, 1] rfl
  refine va_csq (W.runV (As := [.int a0]) (rest := []) ⟨hx, hb, hml, hown, htw⟩ (gb_landAt l dC dI bk bto bnm bla bsk bru bbo bdi bda bdk bdt bdp bno cTo fTo cLa La a0) (cwV 1 htw (xg_V (ck_33 _ (List.mem_of_getElem? (i := 21) rfl)) (ck_20 _ (List.mem_of_getElem? (i := 22) rfl)) (ck_20 _ (List.mem_of_getElem? (i := 23) rfl)) (ck_1 _ (List.mem_of_getElem? (i := 20) rfl)) (ck_21 _ (List.mem_of_getElem? (i := 0) rfl))) rfl rfl rfl (by exact ⟨rfl, hdc_6.1, hdc_6.2, hdd_15⟩) ⟨Nat.le_of_ble_eq_true rfl, Nat.le_of_ble_eq_true rfl⟩) ⟨fun a U g mk q => by obtain ⟨q0, qP, qK⟩ := q; exact ⟨q0, qP, va_K.moved (u := U) (U := U.calling g mk a) (Vm.Alike.refl U.vm) qK⟩, va_recv hKc hPc (ci := 0) (q0 := 0) rfl rfl, fun U hU hW => ⟨rfl, by rw [hU]; exact hPc, va_K.moved hW.alike hKc⟩⟩ rfl rfl hl.1 rfl (lv_room (Nat.le_of_ble_eq_true rfl)) dX11_many_5 ⟨Nat.le_of_ble_eq_true rfl, Nat.le_of_ble_eq_true rfl⟩) (fun r_1 hw => ?_)
  try dsimp only at hw
  by_cases hz_2 : fb_landIs fTo a0 = 0
  · obtain rfl : r_1 = none := by rw [hw, if_pos hz_2]
    refine W.eq (g2 := F0 m 8 ls [.null]) rfl ?_
    refine lv_astoreN (lv' := [(4, .null), (0, .ref x), (1, .int a0), (2, .int a1), (3, .int a2)]) hx hb dX11_many_8 hl (by decide) rfl (fun ls hl => ?_)
    refine lv_aloadN hx hb dX11_many_10 (lv_at hl 0 rfl) ?_
    refine lv_ifnullN (tgt := 35) hx hb dX11_many_12 (by decide) ?_
    refine lv_iconst (v := (-1)) hx hb dX11_many_35 (by decide) ?_
    exact W.iret (v := (-1)) hx hb hr (fun t ht hW => ⟨(-1), rfl, (Eq.symm ((by rw [fx_many]; (try rw [if_pos hz_2]); try rfl))), ht⟩) (fun _ h => by cases h) dX11_many_36
  · obtain rfl : r_1 = some (La a0.toNatClampNeg) := by rw [hw, if_neg hz_2]
    have hP : va_P (dC, dI) vwCl [(eO11a x pa bk xsp xdy le xst xsc xim xil xik xmo xom wi), (eO0a bk bto bnm bla bsk bru bbo bdi bda bdk bdt bdp bno), (eA0 bto cTo 5 fTo), (eA4 bla cLa 4 (fun k => some (La k))), (eO1a (La 0) (FI 0) (GR 0) (FR 0)), (eO1a (La 1) (FI 1) (GR 1) (FR 1)), (eO1a (La 2) (FI 2) (GR 2) (FR 2)), (eO1a (La 3) (FI 3) (GR 3) (FR 3)), (eO9a bsk wd wf mp mb mo sp sb), ((La a0.toNatClampNeg), .inr (1, [.int (FI a0.toNatClampNeg), .int (GR a0.toNatClampNeg), .int (FR a0.toNatClampNeg)]))] s.heap := xb_P4 hP (fun k => (La k, .inr (1, [.int (FI k), .int (GR k), .int (FR k)]))) 4 rfl rfl rfl rfl (i := a0) (xg_inr (N := 4) rfl (fb_landIn hz_2).1 (fb_landIn hz_2).2)
    refine W.eq (g2 := F0 m 8 ls [.ref (La a0.toNatClampNeg)]) rfl ?_
    refine lv_astore (lv' := [(4, .ref (La a0.toNatClampNeg)), (0, .ref x), (1, .int a0), (2, .int a1), (3, .int a2)]) hx hb dX11_many_8 hl (by decide) rfl (fun ls hl => ?_)
    refine lv_aload hx hb dX11_many_10 (lv_at hl 0 rfl) ?_
    refine lv_ifnull hx hb dX11_many_12 ?_
    refine lv_aload hx hb dX11_many_15 (lv_at hl 0 rfl) ?_
    refine lv_iload_n hx hb dX11_many_17 rfl (lv_at hl 3 rfl) ?_
    refine lv_i2l (v := a1.toInt64) hx hb dX11_many_18 rfl ?_
    have hPc := hP.sub (ws' := [((La a0.toNatClampNeg), .inr (1, [.int (FI a0.toNatClampNeg), .int (GR a0.toNatClampNeg), .int (FR a0.toNatClampNeg)]))]) [9] rfl
    have hKc := hK.sub (tys' := []) [] rfl
    refine vp_callSi (W.runV (As := [.long a1.toInt64]) (rest := []) ⟨hx, hb, hml, hown, htw⟩ (gl_canBeAsked l dC dI (La a0.toNatClampNeg) (FI a0.toNatClampNeg) (GR a0.toNatClampNeg) (FR a0.toNatClampNeg) a1.toInt64) (cwV 1 htw (xg_V (ck_34 _ (List.mem_of_getElem? (i := 15) rfl)) (ck_34 _ (List.mem_of_getElem? (i := 16) rfl)) (ck_34 _ (List.mem_of_getElem? (i := 17) rfl)) (ck_6 _ (List.mem_of_getElem? (i := 19) rfl)) (ck_34 _ (List.mem_of_getElem? (i := 18) rfl))) rfl rfl rfl (by exact ⟨rfl, hdc_0.1, hdc_0.2, hdd_1⟩) ⟨Nat.le_of_ble_eq_true rfl, Nat.le_of_ble_eq_true rfl⟩) ⟨fun a U g mk q => by obtain ⟨q0, qP, qK⟩ := q; exact ⟨q0, qP, va_K.moved (u := U) (U := U.calling g mk a) (Vm.Alike.refl U.vm) qK⟩, va_recv hKc hPc (ci := 1) (q0 := 0) rfl rfl, fun U hU hW => ⟨rfl, by rw [hU]; exact hPc, va_K.moved hW.alike hKc⟩⟩ rfl rfl hl.1 rfl (lv_room (Nat.le_of_ble_eq_true rfl)) dX11_many_19 ⟨Nat.le_of_ble_eq_true rfl, Nat.le_of_ble_eq_true rfl⟩) (fun r_3 hw => ?_)
    try dsimp only at hw
    have hq_r_3 : r_3 = fl_canBeAsked (FI a0.toNatClampNeg) (GR a0.toNatClampNeg) (FR a0.toNatClampNeg) a1.toInt64 := hw
    refine lv_if_eq (tgt := 35) hx hb dX11_many_22 (by decide) (fun c_4 => ?_) (fun c_4 => ?_)
    · refine lv_iconst (v := (-1)) hx hb dX11_many_35 (by decide) ?_
      exact W.iret (v := (-1)) hx hb hr (fun t ht hW => ⟨(-1), rfl, (Eq.symm ((by rw [fx_many]; (try rw [if_neg hz_2]); (try rw [← hq_r_3]); (try rw [xL_eq]); (try rw [if_pos c_4]); try rfl))), ht⟩) (fun _ h => by cases h) dX11_many_36
    · refine lv_iload_n hx hb dX11_many_25 rfl (lv_at hl 4 rfl) ?_
      refine lv_if_lt (tgt := 35) hx hb dX11_many_26 (by decide) (fun c_5 => ?_) (fun c_5 => ?_)
      · refine lv_iconst (v := (-1)) hx hb dX11_many_35 (by decide) ?_
        exact W.iret (v := (-1)) hx hb hr (fun t ht hW => ⟨(-1), rfl, (Eq.symm ((by rw [fx_many]; (try rw [if_neg hz_2]); (try rw [← hq_r_3]); (try rw [xL_eq]); (try rw [if_neg c_4]); (try rw [if_pos c_5]); try rfl))), ht⟩) (fun _ h => by cases h) dX11_many_36
      · refine lv_iload_n hx hb dX11_many_29 rfl (lv_at hl 4 rfl) ?_
        refine lv_bipush (v := 99) hx hb dX11_many_30 (by decide) ?_
        refine lv_icmp_le (tgt := 37) hx hb dX11_many_32 (by decide) (fun c_6 => ?_) (fun c_6 => ?_)
        · refine lv_iconst (v := 0) hx hb dX11_many_37 (by decide) ?_
          refine lv_istore (lv' := [(5, .int 0), (4, .ref (La a0.toNatClampNeg)), (0, .ref x), (1, .int a0), (2, .int a1), (3, .int a2)]) hx hb dX11_many_38 hl (by decide) rfl (fun ls hl => ?_)
          have hloop_7 : ∀ (n : Nat) (L5d : Int32) (h0_d : ¬ L5d < 0) (hf_d : (1000 : Int32).toInt ≤ L5d.toInt + (n : Int)) (hI_d : fx_many fTo FI GR FR wd wf mp mb mo sp sb a0 a1 a2 = fx_many_d FI GR FR wd wf mp mb mo sp sb a0 a1 a2 n L5d) (ls : Array Slot) (hl : lv_has ls 8 [(5, .int L5d), (4, .ref (La a0.toNatClampNeg)), (0, .ref x), (1, .int a0), (2, .int a1), (3, .int a2)]), W p l e (headSpec (Cond.code yX11_many cX11_many 8 (some .int) :: wsL_law) ({ frames := 3, cells := 0, slots := 0, locals := 70 })).room s m ([.ref x, .int a0, .int a1, .int a2] : List Value).toArray below meth c s.heap [] 0 0 (MQ below (vp_Si (fun r => r = fx_many fTo FI GR FR wd wf mp mb mo sp sb a0 a1 a2)) ([.ref x, .int a0, .int a1, .int a2] : List Value).toArray s 0 0 (fun _ => False)) (F0 m 40 ls []) := by
            intro n
            induction n with
            | zero =>
              intro L5d h0_d hf_d hI_d ls hl
              refine lv_iload hx hb dX11_many_40 (lv_at hl 0 rfl) ?_
              refine lv_sipush (v := 1000) hx hb dX11_many_42 (by decide) ?_
              refine lv_icmp_ge (tgt := 107) hx hb dX11_many_45 (by decide) (fun c_8 => ?_) (fun c_8 => absurd c_8 (fun h => h (xi_z hf_d)))
              refine lv_bipush (v := (-2)) hx hb dX11_many_107 (by decide) ?_
              exact W.iret (v := (-2)) hx hb hr (fun t ht hW => ⟨(-2), rfl, (Eq.symm (hI_d.trans (by rw [fx_many_d]; try rfl))), ht⟩) (fun _ h => by cases h) dX11_many_109
            | succ n ih =>
              intro L5d h0_d hf_d hI_d ls hl
              refine lv_iload hx hb dX11_many_40 (lv_at hl 0 rfl) ?_
              refine lv_sipush (v := 1000) hx hb dX11_many_42 (by decide) ?_
              refine lv_icmp_ge (tgt := 107) hx hb dX11_many_45 (by decide) (fun c_9 => ?_) (fun c_9 => ?_)
              · refine lv_bipush (v := (-2)) hx hb dX11_many_107 (by decide) ?_
                exact W.iret (v := (-2)) hx hb hr (fun t ht hW => ⟨(-2), rfl, (Eq.symm (hI_d.trans (by rw [fx_many_d]; (try rw [if_pos c_9]); try rfl))), ht⟩) (fun _ h => by cases h) dX11_many_109
              · refine lv_iload_n hx hb dX11_many_48 rfl (lv_at hl 4 rfl) ?_
                refine lv_i2l (v := a1.toInt64) hx hb dX11_many_49 rfl ?_
                refine lv_iload hx hb dX11_many_50 (lv_at hl 0 rfl) ?_
                refine lv_i2l (v := L5d.toInt64) hx hb dX11_many_52 rfl ?_
                refine lv_ladd hx hb dX11_many_53 ?_
                refine lv_lstore (lv' := [(6, .long (a1.toInt64 + L5d.toInt64)), (5, .int L5d), (4, .ref (La a0.toNatClampNeg)), (0, .ref x), (1, .int a0), (2, .int a1), (3, .int a2)]) hx hb dX11_many_54 hl (by decide) rfl (fun ls hl => ?_)
                refine lv_aload hx hb dX11_many_56 (lv_at hl 2 rfl) ?_
                refine lv_lload hx hb dX11_many_58 (lv_at hl 0 rfl) ?_
                have hPc := hP.sub (ws' := [((La a0.toNatClampNeg), .inr (1, [.int (FI a0.toNatClampNeg), .int (GR a0.toNatClampNeg), .int (FR a0.toNatClampNeg)]))]) [9] rfl
                have hKc := hK.sub (tys' := []) [] rfl
                refine vp_callSi (W.runV (As := [.long (a1.toInt64 + L5d.toInt64)]) (rest := []) ⟨hx, hb, hml, hown, htw⟩ (gl_canBeAsked l dC dI (La a0.toNatClampNeg) (FI a0.toNatClampNeg) (GR a0.toNatClampNeg) (FR a0.toNatClampNeg) (a1.toInt64 + L5d.toInt64)) (cwV 1 htw (xg_V (ck_34 _ (List.mem_of_getElem? (i := 15) rfl)) (ck_34 _ (List.mem_of_getElem? (i := 16) rfl)) (ck_34 _ (List.mem_of_getElem? (i := 17) rfl)) (ck_6 _ (List.mem_of_getElem? (i := 19) rfl)) (ck_34 _ (List.mem_of_getElem? (i := 18) rfl))) rfl rfl rfl (by exact ⟨rfl, hdc_0.1, hdc_0.2, hdd_1⟩) ⟨Nat.le_of_ble_eq_true rfl, Nat.le_of_ble_eq_true rfl⟩) ⟨fun a U g mk q => by obtain ⟨q0, qP, qK⟩ := q; exact ⟨q0, qP, va_K.moved (u := U) (U := U.calling g mk a) (Vm.Alike.refl U.vm) qK⟩, va_recv hKc hPc (ci := 1) (q0 := 0) rfl rfl, fun U hU hW => ⟨rfl, by rw [hU]; exact hPc, va_K.moved hW.alike hKc⟩⟩ rfl rfl hl.1 rfl (lv_room (Nat.le_of_ble_eq_true rfl)) dX11_many_60 ⟨Nat.le_of_ble_eq_true rfl, Nat.le_of_ble_eq_true rfl⟩) (fun r_10 hw => ?_)
                try dsimp only at hw
                have hq_r_10 : r_10 = fl_canBeAsked (FI a0.toNatClampNeg) (GR a0.toNatClampNeg) (FR a0.toNatClampNeg) (a1.toInt64 + L5d.toInt64) := hw
                refine lv_if_eq (tgt := 80) hx hb dX11_many_63 (by decide) (fun c_11 => ?_) (fun c_11 => ?_)
                · refine lv_bipush (v := (-2)) hx hb dX11_many_80 (by decide) ?_
                  exact W.iret (v := (-2)) hx hb hr (fun t ht hW => ⟨(-2), rfl, (Eq.symm (hI_d.trans (by rw [fx_many_d]; (try rw [if_neg c_9]); (try rw [← hq_r_10]); (try rw [xL_eq]); (try rw [if_pos c_11]); try rfl))), ht⟩) (fun _ h => by cases h) dX11_many_82
                · refine lv_aload hx hb dX11_many_66 (lv_at hl 2 rfl) ?_
                  refine lv_lload hx hb dX11_many_68 (lv_at hl 0 rfl) ?_
                  have hPc := hP.sub (ws' := [((La a0.toNatClampNeg), .inr (1, [.int (FI a0.toNatClampNeg), .int (GR a0.toNatClampNeg), .int (FR a0.toNatClampNeg)]))]) [9] rfl
                  have hKc := hK.sub (tys' := []) [] rfl
                  refine vp_callSl (W.runV (As := [.long (a1.toInt64 + L5d.toInt64)]) (rest := []) ⟨hx, hb, hml, hown, htw⟩ (gl_beginOf l dC dI (La a0.toNatClampNeg) (FI a0.toNatClampNeg) (GR a0.toNatClampNeg) (FR a0.toNatClampNeg) (a1.toInt64 + L5d.toInt64)) (cwV 1 htw (xg_V (ck_36 _ (List.mem_of_getElem? (i := 1) rfl)) (ck_21 _ (List.mem_of_getElem? (i := 21) rfl)) (ck_21 _ (List.mem_of_getElem? (i := 22) rfl)) (ck_6 _ (List.mem_of_getElem? (i := 19) rfl)) (ck_21 _ (List.mem_of_getElem? (i := 23) rfl))) rfl rfl rfl (by exact ⟨rfl, hdc_0.1, hdc_0.2, hdd_0⟩) ⟨Nat.le_of_ble_eq_true rfl, Nat.le_of_ble_eq_true rfl⟩) ⟨fun a U g mk q => by obtain ⟨q0, qP, qK⟩ := q; exact ⟨q0, qP, va_K.moved (u := U) (U := U.calling g mk a) (Vm.Alike.refl U.vm) qK⟩, va_recv hKc hPc (ci := 1) (q0 := 0) rfl rfl, fun U hU hW => ⟨rfl, by rw [hU]; exact hPc, va_K.moved hW.alike hKc⟩⟩ rfl rfl hl.1 rfl (lv_room (Nat.le_of_ble_eq_true rfl)) dX11_many_70 ⟨Nat.le_of_ble_eq_true rfl, Nat.le_of_ble_eq_true rfl⟩) (fun r_12 hw => ?_)
                  try dsimp only at hw
                  have hq_r_12 : r_12 = fl_beginOf (FI a0.toNatClampNeg) (GR a0.toNatClampNeg) (FR a0.toNatClampNeg) (a1.toInt64 + L5d.toInt64) := hw
                  refine lv_ldc2 (v := 1000000000000) hx hb hown (htw _ (ck_35 _ (List.mem_of_getElem? (i := 14) rfl))) dX11_many_73 ?_
                  refine W.lcmp hx hb dX11_many_76 ?_
                  refine lv_if_le (tgt := 83) hx hb dX11_many_77 (by decide) (fun c_13 => ?_) (fun c_13 => ?_)
                  · refine lv_aload_n hx hb dX11_many_83 rfl (lv_at hl 3 rfl) ?_
                    refine lv_aload hx hb dX11_many_84 (lv_at hl 2 rfl) ?_
                    refine lv_lload hx hb dX11_many_86 (lv_at hl 0 rfl) ?_
                    have hPc := hP.sub (ws' := [(eO11a x pa bk xsp xdy le xst xsc xim xil xik xmo xom wi), (eO0a bk bto bnm bla bsk bru bbo bdi bda bdk bdt bdp bno), (eO9a bsk wd wf mp mb mo sp sb), ((La a0.toNatClampNeg), .inr (1, [.int (FI a0.toNatClampNeg), .int (GR a0.toNatClampNeg), .int (FR a0.toNatClampNeg)]))]) [0, 1, 8, 9] rfl
                    have hKc := hK.sub (tys' := []) [] rfl
                    refine vp_callSl (W.runV (As := [.ref (La a0.toNatClampNeg), .long (a1.toInt64 + L5d.toInt64)]) (rest := []) ⟨hx, hb, hml, hown, htw⟩ (gx_springsIn l dC dI x pa bk xsp xdy le xst xsc xim xil xik xmo xom wi bto bnm bla bsk bru bbo bdi bda bdk bdt bdp bno wd wf mp mb mo sp sb (La a0.toNatClampNeg) (FI a0.toNatClampNeg) (GR a0.toNatClampNeg) (FR a0.toNatClampNeg) (a1.toInt64 + L5d.toInt64)) (cwV 2 htw (xg_V (ck_46 _ (List.mem_of_getElem? (i := 20) rfl)) (ck_46 _ (List.mem_of_getElem? (i := 21) rfl)) (ck_46 _ (List.mem_of_getElem? (i := 22) rfl)) (ck_1 _ (List.mem_of_getElem? (i := 2) rfl)) (ck_46 _ (List.mem_of_getElem? (i := 23) rfl))) rfl rfl rfl (by exact ⟨rfl, hdc_8.1, hdc_8.2, hdd_18⟩) ⟨Nat.le_of_ble_eq_true rfl, Nat.le_of_ble_eq_true rfl⟩) ⟨fun a U g mk q => by obtain ⟨q0, qP, qK, qx⟩ := q; exact ⟨q0, qP, va_K.moved (u := U) (U := U.calling g mk a) (Vm.Alike.refl U.vm) qK, xN.calling qx⟩, va_recv hKc hPc (ci := 11) (q0 := 0) rfl rfl, fun U hU hW => ⟨rfl, by rw [hU]; exact hPc, va_K.moved hW.alike hKc, xN.warm hW hNx⟩⟩ rfl rfl hl.1 rfl (lv_room (Nat.le_of_ble_eq_true rfl)) dX11_many_88 ⟨Nat.le_of_ble_eq_true rfl, Nat.le_of_ble_eq_true rfl⟩) (fun r_14 hw => ?_)
                    try dsimp only at hw
                    have hq_r_14 : r_14 = (fx_springsIn wd wf mp mb mo sp sb (FI a0.toNatClampNeg) (GR a0.toNatClampNeg) (FR a0.toNatClampNeg) (a1.toInt64 + L5d.toInt64)) := hw
                    refine lv_iload_n hx hb dX11_many_91 rfl (lv_at hl 6 rfl) ?_
                    refine lv_i2l (v := a2.toInt64) hx hb dX11_many_92 rfl ?_
                    refine W.lcmp hx hb dX11_many_93 ?_
                    refine lv_if_ne (tgt := 101) hx hb dX11_many_94 (by decide) (fun c_15 => ?_) (fun c_15 => ?_)
                    · refine lv_iinc (v := (L5d + 1)) (lv' := [(5, .int (L5d + 1)), (6, .long (a1.toInt64 + L5d.toInt64)), (4, .ref (La a0.toNatClampNeg)), (0, .ref x), (1, .int a0), (2, .int a1), (3, .int a2)]) hx hb dX11_many_101 hl (k := 1) rfl (rfl) (by decide) rfl (fun ls hl => ?_)
                      refine lv_goto (tgt := 40) hx hb dX11_many_104 (by decide) ?_
                      exact ih (L5d + 1) (gx_many_s0 (y0 := L5d) c_9 h0_d) (by rw [xi_s' c_9]; omega) (hI_d.trans (by rw [fx_many_d]; (try rw [if_neg c_9]); (try rw [← hq_r_10]); (try rw [xL_eq]); (try rw [if_neg c_11]); (try rw [← hq_r_12]); (try rw [xL_eq]); (try rw [if_pos c_13]); (try rw [← hq_r_14]); (try rw [xL_eq]); (try rw [if_neg c_15]); try rfl)) ls (lv_sub hl [0, 2, 3, 4, 5, 6] rfl)
                    · refine lv_lload hx hb dX11_many_97 (lv_at hl 0 rfl) ?_
                      refine lv_l2i (v := (a1.toInt64 + L5d.toInt64).toInt32) hx hb dX11_many_99 rfl ?_
                      exact W.iret (v := (a1.toInt64 + L5d.toInt64).toInt32) hx hb hr (fun t ht hW => ⟨(a1.toInt64 + L5d.toInt64).toInt32, rfl, (Eq.symm (hI_d.trans (by rw [fx_many_d]; (try rw [if_neg c_9]); (try rw [← hq_r_10]); (try rw [xL_eq]); (try rw [if_neg c_11]); (try rw [← hq_r_12]); (try rw [xL_eq]); (try rw [if_pos c_13]); (try rw [← hq_r_14]); (try rw [xL_eq]); (try rw [if_pos c_15]); try rfl))), ht⟩) (fun _ h => by cases h) dX11_many_100
                  · refine lv_bipush (v := (-2)) hx hb dX11_many_80 (by decide) ?_
                    exact W.iret (v := (-2)) hx hb hr (fun t ht hW => ⟨(-2), rfl, (Eq.symm (hI_d.trans (by rw [fx_many_d]; (try rw [if_neg c_9]); (try rw [← hq_r_10]); (try rw [xL_eq]); (try rw [if_neg c_11]); (try rw [← hq_r_12]); (try rw [xL_eq]); (try rw [if_neg c_13]); try rfl))), ht⟩) (fun _ h => by cases h) dX11_many_82
          exact hloop_7 1000 (0 : Int32) (gx_many_s1 ) (by decide) ((by rw [fx_many]; (try rw [if_neg hz_2]); (try rw [← hq_r_3]); (try rw [xL_eq]); (try rw [if_neg c_4]); (try rw [if_neg c_5]); (try rw [if_pos c_6]); try rfl)) ls (lv_sub hl [0, 1, 2, 3, 4, 5] rfl)
        · refine lv_iconst (v := (-1)) hx hb dX11_many_35 (by decide) ?_
          exact W.iret (v := (-1)) hx hb hr (fun t ht hW => ⟨(-1), rfl, (Eq.symm ((by rw [fx_many]; (try rw [if_neg hz_2]); (try rw [← hq_r_3]); (try rw [xL_eq]); (try rw [if_neg c_4]); (try rw [if_neg c_5]); (try rw [if_neg c_6]); try rfl))), ht⟩) (fun _ h => by cases h) dX11_many_36

def fx_ends (fTo : Nat → Int32) (FI : Nat → Int32) (GR : Nat → Int32) (FR : Nat → Int32) (a0 : Int32) (a1 : Int64) (a2 : Int32) : Int32 := (if fb_landIs fTo a0 = 0 then (-1 : Int32) else (xL (fx_isCount a1) (fun r_3 => (if r_3 = 0 then (-1 : Int32) else (if a2 < 1 then (-1 : Int32) else (if 99999 < a2 then (-1 : Int32) else (if lg_cmp (a1 + a2.toInt64) 1000000000000 ≤ 0 then (xL (fl_endedBy (FI a0.toNatClampNeg) (GR a0.toNatClampNeg) (FR a0.toNatClampNeg) (a1 + a2.toInt64)) (fun r_8 => (xL (fl_endedBy (FI a0.toNatClampNeg) (GR a0.toNatClampNeg) (FR a0.toNatClampNeg) a1) (fun r_9 => (r_8 - r_9).toInt32)))) else (-1 : Int32))))))))
theorem dX11_ends_0 : decode cX11_ends 0 = .ok (.aload_n 0, 1) := zk_42 (by decide +kernel)
theorem dX11_ends_1 : decode cX11_ends 1 = .ok (.getfield 19, 3) := zk_180 (by decide +kernel)
theorem dX11_ends_4 : decode cX11_ends 4 = .ok (.iload_n 1, 1) := zk_27 (by decide +kernel)
theorem dX11_ends_5 : decode cX11_ends 5 = .ok (.invokevirtual 112, 3) := zk_182 (by decide +kernel)
theorem dX11_ends_8 : decode cX11_ends 8 = .ok (.astore 5, 2) := zk_58 (by decide +kernel)
theorem dX11_ends_10 : decode cX11_ends 10 = .ok (.aload 5, 2) := zk_25 (by decide +kernel)
theorem dX11_ends_12 : decode cX11_ends 12 = .ok (.ifnull 35, 3) := zk_198 (by decide +kernel)
theorem dX11_ends_47 : decode cX11_ends 47 = .ok (.iconst (-1), 1) := zk_2 (by decide +kernel)
theorem dX11_ends_48 : decode cX11_ends 48 = .ok (.ireturn, 1) := zk_172 (by decide +kernel)
theorem dX11_ends_15 : decode cX11_ends 15 = .ok (.lload_n 2, 1) := zk_32 (by decide +kernel)
theorem dX11_ends_16 : decode cX11_ends 16 = .ok (.invokestatic 149, 3) := zk_184 (by decide +kernel)
theorem dX11_ends_19 : decode cX11_ends 19 = .ok (.ifCond .eq 28, 3) := zk_153 (by decide +kernel)
theorem dX11_ends_22 : decode cX11_ends 22 = .ok (.iload 4, 2) := zk_21 (by decide +kernel)
theorem dX11_ends_24 : decode cX11_ends 24 = .ok (.iconst 1, 1) := zk_4 (by decide +kernel)
theorem dX11_ends_25 : decode cX11_ends 25 = .ok (.if_icmp .lt 22, 3) := zk_161 (by decide +kernel)
theorem dX11_ends_28 : decode cX11_ends 28 = .ok (.iload 4, 2) := zk_21 (by decide +kernel)
theorem dX11_ends_30 : decode cX11_ends 30 = .ok (.ldc 249, 2) := zk_18 (by decide +kernel)
theorem dX11_ends_32 : decode cX11_ends 32 = .ok (.if_icmp .gt 15, 3) := zk_163 (by decide +kernel)
theorem dX11_ends_35 : decode cX11_ends 35 = .ok (.lload_n 2, 1) := zk_32 (by decide +kernel)
theorem dX11_ends_36 : decode cX11_ends 36 = .ok (.iload 4, 2) := zk_21 (by decide +kernel)
theorem dX11_ends_38 : decode cX11_ends 38 = .ok (.i2l, 1) := zk_133 (by decide +kernel)
theorem dX11_ends_39 : decode cX11_ends 39 = .ok (.ladd, 1) := zk_97 (by decide +kernel)
theorem dX11_ends_40 : decode cX11_ends 40 = .ok (.ldc2_w 209, 3) := zk_20 (by decide +kernel)
theorem dX11_ends_43 : decode cX11_ends 43 = .ok (.lcmp, 1) := zk_148 (by decide +kernel)
theorem dX11_ends_44 : decode cX11_ends 44 = .ok (.ifCond .le 5, 3) := zk_158 (by decide +kernel)
theorem dX11_ends_49 : decode cX11_ends 49 = .ok (.aload 5, 2) := zk_25 (by decide +kernel)
theorem dX11_ends_51 : decode cX11_ends 51 = .ok (.lload_n 2, 1) := zk_32 (by decide +kernel)
theorem dX11_ends_52 : decode cX11_ends 52 = .ok (.iload 4, 2) := zk_21 (by decide +kernel)
theorem dX11_ends_54 : decode cX11_ends 54 = .ok (.i2l, 1) := zk_133 (by decide +kernel)
theorem dX11_ends_55 : decode cX11_ends 55 = .ok (.ladd, 1) := zk_97 (by decide +kernel)
theorem dX11_ends_56 : decode cX11_ends 56 = .ok (.invokevirtual 274, 3) := zk_182 (by decide +kernel)
theorem dX11_ends_59 : decode cX11_ends 59 = .ok (.aload 5, 2) := zk_25 (by decide +kernel)
theorem dX11_ends_61 : decode cX11_ends 61 = .ok (.lload_n 2, 1) := zk_32 (by decide +kernel)
theorem dX11_ends_62 : decode cX11_ends 62 = .ok (.invokevirtual 274, 3) := zk_182 (by decide +kernel)
theorem dX11_ends_65 : decode cX11_ends 65 = .ok (.lsub, 1) := zk_101 (by decide +kernel)
theorem dX11_ends_66 : decode cX11_ends 66 = .ok (.l2i, 1) := zk_136 (by decide +kernel)
theorem dX11_ends_67 : decode cX11_ends 67 = .ok (.ireturn, 1) := zk_172 (by decide +kernel)
set_option maxHeartbeats 4000000 in
set_option maxRecDepth 100000 in
theorem gx_ends (l : Launch) (dC : Nat → ClassId) (dI : Nat → Nat → Nat) (x : Nat) (pa : Nat) (bk : Nat) (xsp : Nat) (xdy : Nat) (le : Nat) (xst : Nat) (xsc : Int32) (xim : Nat) (xil : Nat) (xik : Int32) (xmo : Nat) (xom : Nat) (wi : Nat) (bto : Nat) (bnm : Nat) (bla : Nat) (bsk : Nat) (bru : Nat) (bbo : Nat) (bdi : Nat) (bda : Nat) (bdk : Nat) (bdt : Nat) (bdp : Nat) (bno : Nat) (cTo : ClassId) (fTo : Nat → Int32) (cLa : ClassId) (La : Nat → Nat) (FI : Nat → Int32) (GR : Nat → Int32) (FR : Nat → Int32) (a0 : Int32) (a1 : Int64) (a2 : Int32) : Met l yX11_ends (Cond.code yX11_ends cX11_ends 6 (some .int) :: wsL_law) ({ frames := 4, cells := 0, slots := 0, locals := 96 }) (va_Pc [.ref x, .int a0, .long a1, .int a2] (fun U => va_P (dC, dI) vwCl [(eO11a x pa bk xsp xdy le xst xsc xim xil xik xmo xom wi), (eO0a bk bto bnm bla bsk bru bbo bdi bda bdk bdt bdp bno), (eA0 bto cTo 5 fTo), (eA4 bla cLa 4 (fun k => some (La k))), (eO1a (La 0) (FI 0) (GR 0) (FR 0)), (eO1a (La 1) (FI 1) (GR 1) (FR 1)), (eO1a (La 2) (FI 2) (GR 2) (FR 2)), (eO1a (La 3) (FI 3) (GR 3) (FR 3))] U.heap ∧ va_K (dC, dI) vwCl [(cTo, .int), (cLa, .object RX1)] U ∧ xN U)) (vp_Si (fun r => r = fx_ends fTo FI GR FR a0 a1 a2)) 0 0 (fun _ => False) := by
  refine Met.ofW (cc := cX11_ends) (maxL := 6) (ret := (some .int)) (by decide) rfl ?_
  intro p e s m args below meth c s₁ B hml hv
  obtain ⟨rfl, hP, hK, hNx⟩ := hv
  have hx := B.exec
  have hb := B.bytes
  have hr := B.returns
  have hts := atoms_spec (ws := Cond.code yX11_ends cX11_ends 6 (some .int) :: wsL_law) B.pre
  have htw : ∀ w ∈ wsL_law, w.before _ s = true := fun w h => hts w (List.mem_cons_of_mem _ h)
  have hown : s.vm.findClass RX11 = some m.cls := findClass_of_methodNamed B.named
  have hlocks := B.notSynchronized
  have hl := lv_entry ([.ref x, .int a0, .long a1, .int a2]) (n := 6) (Nat.le_of_ble_eq_true rfl)
  rw [lg_entry_eq]
  generalize (lg_sl ([.ref x, .int a0, .long a1, .int a2]) ++ List.replicate (6 - (lg_sl ([.ref x, .int a0, .long a1, .int a2])).length) Slot.unset).toArray = ls at hl ⊢
  have hl : lv_has ls 6 [(0, .ref x), (1, .int a0), (2, .long a1), (4, .int a2)] := hl
  refine lv_aload_n hx hb dX11_ends_0 rfl (lv_at hl 0 rfl) ?_
  refine va_get (D := (dC, dI)) (ci := 11) (v := .ref bk) (C := RX11) (T := TX11) (N := 13) hx hb htw inlX11 hown hK hP 0 rfl rfl 1 (by decide) (htw _ (ck_1 _ (List.mem_of_getElem? (i := 21) rfl))) (fun _ h9 => h9) rfl dX11_ends_1 ?_
  refine lv_iload_n hx hb dX11_ends_4 rfl (lv_at hl 1 rfl) ?_
  have hPc := hP.sub (ws' := [(eO0a bk bto bnm bla bsk bru bbo bdi bda bdk bdt bdp bno), (eA0 bto cTo 5 fTo), (eA4 bla cLa 4 (fun k => some (La k)))]) [1, 2, 3] rfl
  have hKc := hK.sub (tys' := [(cTo, .int), (cLa, .object RX1)]) [0, 1] rfl
  refine va_csq (W.runV (As := [.int a0]) (rest := []) ⟨hx, hb, hml, hown, htw⟩ (gb_landAt l dC dI bk bto bnm bla bsk bru bbo bdi bda bdk bdt bdp bno cTo fTo cLa La a0) (cwV 1 htw (xg_V (ck_33 _ (List.mem_of_getElem? (i := 21) rfl)) (ck_20 _ (List.mem_of_getElem? (i := 22) rfl)) (ck_20 _ (List.mem_of_getElem? (i := 23) rfl)) (ck_1 _ (List.mem_of_getElem? (i := 20) rfl)) (ck_21 _ (List.mem_of_getElem? (i := 0) rfl))) rfl rfl rfl (by exact ⟨rfl, hdc_6.1, hdc_6.2, hdd_15⟩) ⟨Nat.le_of_ble_eq_true rfl, Nat.le_of_ble_eq_true rfl⟩) ⟨fun a U g mk q => by obtain ⟨q0, qP, qK⟩ := q; exact ⟨q0, qP, va_K.moved (u := U) (U := U.calling g mk a) (Vm.Alike.refl U.vm) qK⟩, va_recv hKc hPc (ci := 0) (q0 := 0) rfl rfl, fun U hU hW => ⟨rfl, by rw [hU]; exact hPc, va_K.moved hW.alike hKc⟩⟩ rfl rfl hl.1 rfl (lv_room (Nat.le_of_ble_eq_true rfl)) dX11_ends_5 ⟨Nat.le_of_ble_eq_true rfl, Nat.le_of_ble_eq_true rfl⟩) (fun r_1 hw => ?_)
  try dsimp only at hw
  by_cases hz_2 : fb_landIs fTo a0 = 0
  · obtain rfl : r_1 = none := by rw [hw, if_pos hz_2]
    refine W.eq (g2 := F0 m 8 ls [.null]) rfl ?_
    refine lv_astoreN (lv' := [(5, .null), (0, .ref x), (1, .int a0), (2, .long a1), (4, .int a2)]) hx hb dX11_ends_8 hl (by decide) rfl (fun ls hl => ?_)
    refine lv_aloadN hx hb dX11_ends_10 (lv_at hl 0 rfl) ?_
    refine lv_ifnullN (tgt := 47) hx hb dX11_ends_12 (by decide) ?_
    refine lv_iconst (v := (-1)) hx hb dX11_ends_47 (by decide) ?_
    exact W.iret (v := (-1)) hx hb hr (fun t ht hW => ⟨(-1), rfl, (Eq.symm ((by rw [fx_ends]; (try rw [if_pos hz_2]); try rfl))), ht⟩) (fun _ h => by cases h) dX11_ends_48
  · obtain rfl : r_1 = some (La a0.toNatClampNeg) := by rw [hw, if_neg hz_2]
    have hP : va_P (dC, dI) vwCl [(eO11a x pa bk xsp xdy le xst xsc xim xil xik xmo xom wi), (eO0a bk bto bnm bla bsk bru bbo bdi bda bdk bdt bdp bno), (eA0 bto cTo 5 fTo), (eA4 bla cLa 4 (fun k => some (La k))), (eO1a (La 0) (FI 0) (GR 0) (FR 0)), (eO1a (La 1) (FI 1) (GR 1) (FR 1)), (eO1a (La 2) (FI 2) (GR 2) (FR 2)), (eO1a (La 3) (FI 3) (GR 3) (FR 3)), ((La a0.toNatClampNeg), .inr (1, [.int (FI a0.toNatClampNeg), .int (GR a0.toNatClampNeg), .int (FR a0.toNatClampNeg)]))] s.heap := xb_P4 hP (fun k => (La k, .inr (1, [.int (FI k), .int (GR k), .int (FR k)]))) 4 rfl rfl rfl rfl (i := a0) (xg_inr (N := 4) rfl (fb_landIn hz_2).1 (fb_landIn hz_2).2)
    refine W.eq (g2 := F0 m 8 ls [.ref (La a0.toNatClampNeg)]) rfl ?_
    refine lv_astore (lv' := [(5, .ref (La a0.toNatClampNeg)), (0, .ref x), (1, .int a0), (2, .long a1), (4, .int a2)]) hx hb dX11_ends_8 hl (by decide) rfl (fun ls hl => ?_)
    refine lv_aload hx hb dX11_ends_10 (lv_at hl 0 rfl) ?_
    refine lv_ifnull hx hb dX11_ends_12 ?_
    refine lv_lload_n hx hb dX11_ends_15 rfl (lv_at hl 3 rfl) ?_
    have hPc := hP.sub (ws' := []) [] rfl
    have hKc := hK.sub (tys' := []) [] rfl
    refine vp_callSi (W.runS (As := [.long a1]) (rest := []) ⟨hx, hb, hml, hown, htw⟩ (gx_isCount l dC dI a1) (va_cwS 1 htw (xg_S (ck_35 _ (List.mem_of_getElem? (i := 11) rfl)) (ck_35 _ (List.mem_of_getElem? (i := 12) rfl)) (ck_1 _ (List.mem_of_getElem? (i := 2) rfl)) (ck_35 _ (List.mem_of_getElem? (i := 13) rfl))) rfl rfl rfl (by exact ⟨hdc_8.1, hdc_8.2, hdd_1⟩) ⟨Nat.le_of_ble_eq_true rfl, Nat.le_of_ble_eq_true rfl⟩) ⟨fun a U g mk q => by obtain ⟨q0, qP, qK⟩ := q; exact ⟨q0, qP, va_K.moved (u := U) (U := U.calling g mk a) (Vm.Alike.refl U.vm) qK⟩, fun U hU hW => ⟨rfl, by rw [hU]; exact hPc, va_K.moved hW.alike hKc⟩⟩ rfl rfl hl.1 rfl (lv_room (Nat.le_of_ble_eq_true rfl)) dX11_ends_16 ⟨Nat.le_of_ble_eq_true rfl, Nat.le_of_ble_eq_true rfl⟩) (fun r_3 hw => ?_)
    try dsimp only at hw
    have hq_r_3 : r_3 = fx_isCount a1 := hw
    refine lv_if_eq (tgt := 47) hx hb dX11_ends_19 (by decide) (fun c_4 => ?_) (fun c_4 => ?_)
    · refine lv_iconst (v := (-1)) hx hb dX11_ends_47 (by decide) ?_
      exact W.iret (v := (-1)) hx hb hr (fun t ht hW => ⟨(-1), rfl, (Eq.symm ((by rw [fx_ends]; (try rw [if_neg hz_2]); (try rw [← hq_r_3]); (try rw [xL_eq]); (try rw [if_pos c_4]); try rfl))), ht⟩) (fun _ h => by cases h) dX11_ends_48
    · refine lv_iload hx hb dX11_ends_22 (lv_at hl 4 rfl) ?_
      refine lv_iconst (v := 1) hx hb dX11_ends_24 (by decide) ?_
      refine lv_icmp_lt (tgt := 47) hx hb dX11_ends_25 (by decide) (fun c_5 => ?_) (fun c_5 => ?_)
      · refine lv_iconst (v := (-1)) hx hb dX11_ends_47 (by decide) ?_
        exact W.iret (v := (-1)) hx hb hr (fun t ht hW => ⟨(-1), rfl, (Eq.symm ((by rw [fx_ends]; (try rw [if_neg hz_2]); (try rw [← hq_r_3]); (try rw [xL_eq]); (try rw [if_neg c_4]); (try rw [if_pos c_5]); try rfl))), ht⟩) (fun _ h => by cases h) dX11_ends_48
      · refine lv_iload hx hb dX11_ends_28 (lv_at hl 4 rfl) ?_
        refine lv_ldc (v := 99999) hx hb hown (htw _ (ck_48 _ (List.mem_of_getElem? (i := 8) rfl))) dX11_ends_30 ?_
        refine lv_icmp_gt (tgt := 47) hx hb dX11_ends_32 (by decide) (fun c_6 => ?_) (fun c_6 => ?_)
        · refine lv_iconst (v := (-1)) hx hb dX11_ends_47 (by decide) ?_
          exact W.iret (v := (-1)) hx hb hr (fun t ht hW => ⟨(-1), rfl, (Eq.symm ((by rw [fx_ends]; (try rw [if_neg hz_2]); (try rw [← hq_r_3]); (try rw [xL_eq]); (try rw [if_neg c_4]); (try rw [if_neg c_5]); (try rw [if_pos c_6]); try rfl))), ht⟩) (fun _ h => by cases h) dX11_ends_48
        · refine lv_lload_n hx hb dX11_ends_35 rfl (lv_at hl 3 rfl) ?_
          refine lv_iload hx hb dX11_ends_36 (lv_at hl 4 rfl) ?_
          refine lv_i2l (v := a2.toInt64) hx hb dX11_ends_38 rfl ?_
          refine lv_ladd hx hb dX11_ends_39 ?_
          refine lv_ldc2 (v := 1000000000000) hx hb hown (htw _ (ck_35 _ (List.mem_of_getElem? (i := 14) rfl))) dX11_ends_40 ?_
          refine W.lcmp hx hb dX11_ends_43 ?_
          refine lv_if_le (tgt := 49) hx hb dX11_ends_44 (by decide) (fun c_7 => ?_) (fun c_7 => ?_)
          · refine lv_aload hx hb dX11_ends_49 (lv_at hl 0 rfl) ?_
            refine lv_lload_n hx hb dX11_ends_51 rfl (lv_at hl 3 rfl) ?_
            refine lv_iload hx hb dX11_ends_52 (lv_at hl 4 rfl) ?_
            refine lv_i2l (v := a2.toInt64) hx hb dX11_ends_54 rfl ?_
            refine lv_ladd hx hb dX11_ends_55 ?_
            have hPc := hP.sub (ws' := [((La a0.toNatClampNeg), .inr (1, [.int (FI a0.toNatClampNeg), .int (GR a0.toNatClampNeg), .int (FR a0.toNatClampNeg)]))]) [8] rfl
            have hKc := hK.sub (tys' := []) [] rfl
            refine vp_callSl (W.runV (As := [.long (a1 + a2.toInt64)]) (rest := []) ⟨hx, hb, hml, hown, htw⟩ (gl_endedBy l dC dI (La a0.toNatClampNeg) (FI a0.toNatClampNeg) (GR a0.toNatClampNeg) (FR a0.toNatClampNeg) (a1 + a2.toInt64)) (cwV 1 htw (xg_V (ck_49 _ (List.mem_of_getElem? (i := 20) rfl)) (ck_49 _ (List.mem_of_getElem? (i := 21) rfl)) (ck_49 _ (List.mem_of_getElem? (i := 22) rfl)) (ck_6 _ (List.mem_of_getElem? (i := 19) rfl)) (ck_49 _ (List.mem_of_getElem? (i := 23) rfl))) rfl rfl rfl (by exact ⟨rfl, hdc_0.1, hdc_0.2, hdd_0⟩) ⟨Nat.le_of_ble_eq_true rfl, Nat.le_of_ble_eq_true rfl⟩) ⟨fun a U g mk q => by obtain ⟨q0, qP, qK, qx⟩ := q; exact ⟨q0, qP, va_K.moved (u := U) (U := U.calling g mk a) (Vm.Alike.refl U.vm) qK, xN.calling qx⟩, va_recv hKc hPc (ci := 1) (q0 := 0) rfl rfl, fun U hU hW => ⟨rfl, by rw [hU]; exact hPc, va_K.moved hW.alike hKc, xN.warm hW hNx⟩⟩ rfl rfl hl.1 rfl (lv_room (Nat.le_of_ble_eq_true rfl)) dX11_ends_56 ⟨Nat.le_of_ble_eq_true rfl, Nat.le_of_ble_eq_true rfl⟩) (fun r_8 hw => ?_)
            try dsimp only at hw
            have hq_r_8 : r_8 = fl_endedBy (FI a0.toNatClampNeg) (GR a0.toNatClampNeg) (FR a0.toNatClampNeg) (a1 + a2.toInt64) := hw
            refine lv_aload hx hb dX11_ends_59 (lv_at hl 0 rfl) ?_
            refine lv_lload_n hx hb dX11_ends_61 rfl (lv_at hl 3 rfl) ?_
            have hPc := hP.sub (ws' := [((La a0.toNatClampNeg), .inr (1, [.int (FI a0.toNatClampNeg), .int (GR a0.toNatClampNeg), .int (FR a0.toNatClampNeg)]))]) [8] rfl
            have hKc := hK.sub (tys' := []) [] rfl
            refine vp_callSl (W.runV (As := [.long a1]) (rest := [.long r_8]) ⟨hx, hb, hml, hown, htw⟩ (gl_endedBy l dC dI (La a0.toNatClampNeg) (FI a0.toNatClampNeg) (GR a0.toNatClampNeg) (FR a0.toNatClampNeg) a1) (cwV 1 htw (xg_V (ck_49 _ (List.mem_of_getElem? (i := 20) rfl)) (ck_49 _ (List.mem_of_getElem? (i := 21) rfl)) (ck_49 _ (List.mem_of_getElem? (i := 22) rfl)) (ck_6 _ (List.mem_of_getElem? (i := 19) rfl)) (ck_49 _ (List.mem_of_getElem? (i := 23) rfl))) rfl rfl rfl (by exact ⟨rfl, hdc_0.1, hdc_0.2, hdd_0⟩) ⟨Nat.le_of_ble_eq_true rfl, Nat.le_of_ble_eq_true rfl⟩) ⟨fun a U g mk q => by obtain ⟨q0, qP, qK, qx⟩ := q; exact ⟨q0, qP, va_K.moved (u := U) (U := U.calling g mk a) (Vm.Alike.refl U.vm) qK, xN.calling qx⟩, va_recv hKc hPc (ci := 1) (q0 := 0) rfl rfl, fun U hU hW => ⟨rfl, by rw [hU]; exact hPc, va_K.moved hW.alike hKc, xN.warm hW hNx⟩⟩ rfl rfl hl.1 rfl (lv_room (Nat.le_of_ble_eq_true rfl)) dX11_ends_62 ⟨Nat.le_of_ble_eq_true rfl, Nat.le_of_ble_eq_true rfl⟩) (fun r_9 hw => ?_)
            try dsimp only at hw
            have hq_r_9 : r_9 = fl_endedBy (FI a0.toNatClampNeg) (GR a0.toNatClampNeg) (FR a0.toNatClampNeg) a1 := hw
            refine lv_lsub hx hb dX11_ends_65 ?_
            refine lv_l2i (v := (r_8 - r_9).toInt32) hx hb dX11_ends_66 rfl ?_
            exact W.iret (v := (r_8 - r_9).toInt32) hx hb hr (fun t ht hW => ⟨(r_8 - r_9).toInt32, rfl, (Eq.symm ((by rw [fx_ends]; (try rw [if_neg hz_2]); (try rw [← hq_r_3]); (try rw [xL_eq]); (try rw [if_neg c_4]); (try rw [if_neg c_5]); (try rw [if_neg c_6]); (try rw [if_pos c_7]); (try rw [← hq_r_8]); (try rw [xL_eq]); (try rw [← hq_r_9]); (try rw [xL_eq]); try rfl))), ht⟩) (fun _ h => by cases h) dX11_ends_67
          · refine lv_iconst (v := (-1)) hx hb dX11_ends_47 (by decide) ?_
            exact W.iret (v := (-1)) hx hb hr (fun t ht hW => ⟨(-1), rfl, (Eq.symm ((by rw [fx_ends]; (try rw [if_neg hz_2]); (try rw [← hq_r_3]); (try rw [xL_eq]); (try rw [if_neg c_4]); (try rw [if_neg c_5]); (try rw [if_neg c_6]); (try rw [if_neg c_7]); try rfl))), ht⟩) (fun _ h => by cases h) dX11_ends_48

theorem xi_zlt {a b : Int32} (h : a.toInt < b.toInt + ((0 : Nat) : Int)) : a < b := by
  rw [Int32.lt_iff_toInt_lt]
  omega
theorem xi_sle {i b : Int32} (h : ¬ b < i) (hb : b < 2000000000) : (i + 1).toInt = i.toInt + 1 := xi_s (b := 2000000000) (by lia)
