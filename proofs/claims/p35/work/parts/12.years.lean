def xN (U : State) : Prop := va_Nw (.methodLinkNest RX1 37 yX11_cut "LongYears") U ∧ va_Nw (.methodLinkNest RX9 35 yX11_cut "LongYears") U
theorem xN.warm {s U : State} (hW : s.WarmedH U.vm) (h : xN s) : xN U := ⟨va_Nw.warmM hW h.1, va_Nw.warmM hW h.2⟩
theorem xN.calling {U : State} {g : JFrame} {mk : MethodId} {a : Array Value} (h : xN U) : xN (U.calling g mk a) := ⟨va_Nw.same rfl (rfl : U.vm = (U.calling g mk a).vm) h.1, va_Nw.same rfl (rfl : U.vm = (U.calling g mk a).vm) h.2⟩

def fl_lastYear (fi : Int32) (gr : Int32) (fr : Int32) : Int64 := ((fx_cut ((fi - 1).toInt64) ((-gr).toInt64)) + 1)
theorem dX1_lastYear_0 : decode cX1_lastYear 0 = .ok (.aload_n 0, 1) := zk_42 (by decide +kernel)
theorem dX1_lastYear_1 : decode cX1_lastYear 1 = .ok (.getfield 9, 3) := zk_180 (by decide +kernel)
theorem dX1_lastYear_4 : decode cX1_lastYear 4 = .ok (.iconst 1, 1) := zk_4 (by decide +kernel)
theorem dX1_lastYear_5 : decode cX1_lastYear 5 = .ok (.isub, 1) := zk_100 (by decide +kernel)
theorem dX1_lastYear_6 : decode cX1_lastYear 6 = .ok (.i2l, 1) := zk_133 (by decide +kernel)
theorem dX1_lastYear_7 : decode cX1_lastYear 7 = .ok (.aload_n 0, 1) := zk_42 (by decide +kernel)
theorem dX1_lastYear_8 : decode cX1_lastYear 8 = .ok (.getfield 25, 3) := zk_180 (by decide +kernel)
theorem dX1_lastYear_11 : decode cX1_lastYear 11 = .ok (.ineg, 1) := zk_116 (by decide +kernel)
theorem dX1_lastYear_12 : decode cX1_lastYear 12 = .ok (.i2l, 1) := zk_133 (by decide +kernel)
theorem dX1_lastYear_13 : decode cX1_lastYear 13 = .ok (.invokestatic 37, 3) := zk_184 (by decide +kernel)
theorem dX1_lastYear_16 : decode cX1_lastYear 16 = .ok (.lconst 1, 1) := zk_10 (by decide +kernel)
theorem dX1_lastYear_17 : decode cX1_lastYear 17 = .ok (.ladd, 1) := zk_97 (by decide +kernel)
theorem dX1_lastYear_18 : decode cX1_lastYear 18 = .ok (.lreturn, 1) := zk_173 (by decide +kernel)
set_option maxHeartbeats 4000000 in
set_option maxRecDepth 100000 in
theorem gl_lastYear (l : Launch) (dC : Nat → ClassId) (dI : Nat → Nat → Nat) (la : Nat) (fi : Int32) (gr : Int32) (fr : Int32) : Met l yX1_lastYear (Cond.code yX1_lastYear cX1_lastYear 1 (some .long) :: wsL_law) ({ frames := 1, cells := 0, slots := 0, locals := 23 }) (va_Pc [.ref la] (fun U => va_P (dC, dI) vwCl [(eO1a la fi gr fr)] U.heap ∧ va_K (dC, dI) vwCl [] U ∧ xN U)) (vp_Sl (fun r => r = fl_lastYear fi gr fr)) 0 0 (fun _ => False) := by
  refine Met.ofW (cc := cX1_lastYear) (maxL := 1) (ret := (some .long)) (by decide) rfl ?_
  intro p e s m args below meth c s₁ B hml hv
  obtain ⟨rfl, hP, hK, hNx⟩ := hv
  have hx := B.exec
  have hb := B.bytes
  have hr := B.returns
  have hts := atoms_spec (ws := Cond.code yX1_lastYear cX1_lastYear 1 (some .long) :: wsL_law) B.pre
  have htw : ∀ w ∈ wsL_law, w.before _ s = true := fun w h => hts w (List.mem_cons_of_mem _ h)
  have hown : s.vm.findClass RX1 = some m.cls := findClass_of_methodNamed B.named
  have hlocks := B.notSynchronized
  have hl := lv_entry ([.ref la]) (n := 1) (Nat.le_of_ble_eq_true rfl)
  rw [lg_entry_eq]
  generalize (lg_sl ([.ref la]) ++ List.replicate (1 - (lg_sl ([.ref la])).length) Slot.unset).toArray = ls at hl ⊢
  have hl : lv_has ls 1 [(0, .ref la)] := hl
  refine lv_aload_n hx hb dX1_lastYear_0 rfl (lv_at hl 0 rfl) ?_
  refine va_get (D := (dC, dI)) (ci := 1) (v := .int fi) (C := RX1) (T := TX1) (N := 3) hx hb htw inlX1 hown hK hP 0 rfl rfl 0 (by decide) (htw _ (ck_7 _ (List.mem_of_getElem? (i := 14) rfl))) (fun _ h9 => h9) rfl dX1_lastYear_1 ?_
  refine lv_iconst (v := 1) hx hb dX1_lastYear_4 (by decide) ?_
  refine lv_isub hx hb dX1_lastYear_5 ?_
  refine lv_i2l (v := (fi - 1).toInt64) hx hb dX1_lastYear_6 rfl ?_
  refine lv_aload_n hx hb dX1_lastYear_7 rfl (lv_at hl 0 rfl) ?_
  refine va_get (D := (dC, dI)) (ci := 1) (v := .int gr) (C := RX1) (T := TX1) (N := 3) hx hb htw inlX1 hown hK hP 0 rfl rfl 1 (by decide) (htw _ (ck_21 _ (List.mem_of_getElem? (i := 13) rfl))) (fun _ h9 => h9) rfl dX1_lastYear_8 ?_
  refine lv_ineg hx hb dX1_lastYear_11 ?_
  refine lv_i2l (v := (-gr).toInt64) hx hb dX1_lastYear_12 rfl ?_
  have hPc := hP.sub (ws' := []) [] rfl
  have hKc := hK.sub (tys' := []) [] rfl
  refine xg_nSl (va_runSN (As := [.long ((fi - 1).toInt64), .long ((-gr).toInt64)]) (rest := []) ⟨hx, hb, hml, hown, htw⟩ (gx_cut l dC dI ((fi - 1).toInt64) ((-gr).toInt64)) ⟨va_cnB 2 htw (xg_code (ck_35 _ (List.mem_of_getElem? (i := 20) rfl))) rfl rfl rfl (hNx.1) (htw _ (ck_1 _ (List.mem_of_getElem? (i := 2) rfl))) (by decide +kernel) ⟨Nat.le_of_ble_eq_true rfl, Nat.le_of_ble_eq_true rfl⟩, (htw _ (ck_35 _ (List.mem_of_getElem? (i := 19) rfl))), trivial⟩ ⟨fun a U g mk q => by obtain ⟨q0, qP, qK⟩ := q; exact ⟨q0, qP, va_K.moved (u := U) (U := U.calling g mk a) (Vm.Alike.refl U.vm) qK⟩, fun U hU hW => ⟨rfl, by rw [hU]; exact hPc, va_K.moved hW.alike hKc⟩⟩ rfl rfl hl.1 rfl (lv_room (Nat.le_of_ble_eq_true rfl)) dX1_lastYear_13 ⟨Nat.le_of_ble_eq_true rfl, Nat.le_of_ble_eq_true rfl⟩) (fun r_1 hw => ?_)
  try dsimp only at hw
  have hq_r_1 : r_1 = fx_cut ((fi - 1).toInt64) ((-gr).toInt64) := hw
  refine lv_lconst (v := 1) hx hb dX1_lastYear_16 (by decide) ?_
  refine lv_ladd hx hb dX1_lastYear_17 ?_
  exact W.lret (v := (r_1 + 1)) hx hb hr (fun t ht hW => ⟨(r_1 + 1), rfl, (by rw [fl_lastYear]; (try rw [← hq_r_1]); try rfl), ht⟩) (fun _ h => by cases h) dX1_lastYear_18

def fl_yearOf_L (fi : Int32) (gr : Int32) (fr : Int32) (a0 : Int64) : Nat → Int64 → Int64 → Int64
  | 0, lo, hg => lo
  | n + 1, lo, hg => (if 0 ≤ lg_cmp lo hg then lo else (if 0 < lg_cmp (fl_beginOf fi gr fr (((lo + hg) + 1) / 2)) a0 then fl_yearOf_L fi gr fr a0 n lo ((((lo + hg) + 1) / 2) - 1) else fl_yearOf_L fi gr fr a0 n (((lo + hg) + 1) / 2) hg))
def fl_yearOf (fi : Int32) (gr : Int32) (fr : Int32) (a0 : Int64) : Int64 := (if 0 ≤ lg_cmp a0 fr.toInt64 then (if gr = 0 then ((fx_cut (a0 - fr.toInt64) fi.toInt64) + 1) else (if gr ≤ 0 then (if 0 ≤ gr then fl_yearOf_L fi gr fr a0 64 (1 : Int64) (fl_lastYear fi gr fr) else (if lg_cmp a0 ((fl_beginOf fi gr fr (fl_lastYear fi gr fr)) + (fl_lengthOf fi gr fr (fl_lastYear fi gr fr))) < 0 then fl_yearOf_L fi gr fr a0 64 (1 : Int64) (fl_lastYear fi gr fr) else (0 : Int64))) else (if 0 ≤ gr then fl_yearOf_L fi gr fr a0 64 (1 : Int64) (1500000 : Int64) else (if lg_cmp a0 ((fl_beginOf fi gr fr (1500000 : Int64)) + (fl_lengthOf fi gr fr (1500000 : Int64))) < 0 then fl_yearOf_L fi gr fr a0 64 (1 : Int64) (1500000 : Int64) else (0 : Int64))))) else (0 : Int64))
theorem dX1_yearOf_0 : decode cX1_yearOf 0 = .ok (.lload_n 1, 1) := zk_31 (by decide +kernel)
theorem dX1_yearOf_1 : decode cX1_yearOf 1 = .ok (.aload_n 0, 1) := zk_42 (by decide +kernel)
theorem dX1_yearOf_2 : decode cX1_yearOf 2 = .ok (.getfield 28, 3) := zk_180 (by decide +kernel)
theorem dX1_yearOf_5 : decode cX1_yearOf 5 = .ok (.i2l, 1) := zk_133 (by decide +kernel)
theorem dX1_yearOf_6 : decode cX1_yearOf 6 = .ok (.lcmp, 1) := zk_148 (by decide +kernel)
theorem dX1_yearOf_7 : decode cX1_yearOf 7 = .ok (.ifCond .ge 5, 3) := zk_156 (by decide +kernel)
theorem dX1_yearOf_12 : decode cX1_yearOf 12 = .ok (.aload_n 0, 1) := zk_42 (by decide +kernel)
theorem dX1_yearOf_13 : decode cX1_yearOf 13 = .ok (.getfield 25, 3) := zk_180 (by decide +kernel)
theorem dX1_yearOf_16 : decode cX1_yearOf 16 = .ok (.ifCond .ne 21, 3) := zk_154 (by decide +kernel)
theorem dX1_yearOf_37 : decode cX1_yearOf 37 = .ok (.lconst 1, 1) := zk_10 (by decide +kernel)
theorem dX1_yearOf_38 : decode cX1_yearOf 38 = .ok (.lstore_n 3, 1) := zk_66 (by decide +kernel)
theorem dX1_yearOf_39 : decode cX1_yearOf 39 = .ok (.aload_n 0, 1) := zk_42 (by decide +kernel)
theorem dX1_yearOf_40 : decode cX1_yearOf 40 = .ok (.getfield 25, 3) := zk_180 (by decide +kernel)
theorem dX1_yearOf_43 : decode cX1_yearOf 43 = .ok (.ifCond .le 9, 3) := zk_158 (by decide +kernel)
theorem dX1_yearOf_52 : decode cX1_yearOf 52 = .ok (.aload_n 0, 1) := zk_42 (by decide +kernel)
theorem dX1_yearOf_53 : decode cX1_yearOf 53 = .ok (.invokevirtual 41, 3) := zk_182 (by decide +kernel)
theorem dX1_yearOf_56 : decode cX1_yearOf 56 = .ok (.lstore 5, 2) := zk_55 (by decide +kernel)
theorem dX1_yearOf_58 : decode cX1_yearOf 58 = .ok (.aload_n 0, 1) := zk_42 (by decide +kernel)
theorem dX1_yearOf_59 : decode cX1_yearOf 59 = .ok (.getfield 25, 3) := zk_180 (by decide +kernel)
theorem dX1_yearOf_62 : decode cX1_yearOf 62 = .ok (.ifCond .ge 23, 3) := zk_156 (by decide +kernel)
theorem dX1_yearOf_85 : decode cX1_yearOf 85 = .ok (.iconst 0, 1) := zk_3 (by decide +kernel)
theorem dX1_yearOf_86 : decode cX1_yearOf 86 = .ok (.istore 7, 2) := zk_54 (by decide +kernel)
theorem dX1_yearOf_88 : decode cX1_yearOf 88 = .ok (.iload 7, 2) := zk_21 (by decide +kernel)
theorem dX1_yearOf_90 : decode cX1_yearOf 90 = .ok (.bipush 64, 2) := zk_16 (by decide +kernel)
theorem dX1_yearOf_92 : decode cX1_yearOf 92 = .ok (.if_icmp .ge 51, 3) := zk_162 (by decide +kernel)
theorem dX1_yearOf_143 : decode cX1_yearOf 143 = .ok (.lload_n 3, 1) := zk_33 (by decide +kernel)
theorem dX1_yearOf_144 : decode cX1_yearOf 144 = .ok (.lreturn, 1) := zk_173 (by decide +kernel)
theorem dX1_yearOf_95 : decode cX1_yearOf 95 = .ok (.lload_n 3, 1) := zk_33 (by decide +kernel)
theorem dX1_yearOf_96 : decode cX1_yearOf 96 = .ok (.lload 5, 2) := zk_22 (by decide +kernel)
theorem dX1_yearOf_98 : decode cX1_yearOf 98 = .ok (.lcmp, 1) := zk_148 (by decide +kernel)
theorem dX1_yearOf_99 : decode cX1_yearOf 99 = .ok (.ifCond .ge 44, 3) := zk_156 (by decide +kernel)
theorem dX1_yearOf_102 : decode cX1_yearOf 102 = .ok (.lload_n 3, 1) := zk_33 (by decide +kernel)
theorem dX1_yearOf_103 : decode cX1_yearOf 103 = .ok (.lload 5, 2) := zk_22 (by decide +kernel)
theorem dX1_yearOf_105 : decode cX1_yearOf 105 = .ok (.ladd, 1) := zk_97 (by decide +kernel)
theorem dX1_yearOf_106 : decode cX1_yearOf 106 = .ok (.lconst 1, 1) := zk_10 (by decide +kernel)
theorem dX1_yearOf_107 : decode cX1_yearOf 107 = .ok (.ladd, 1) := zk_97 (by decide +kernel)
theorem dX1_yearOf_108 : decode cX1_yearOf 108 = .ok (.ldc2_w 35, 3) := zk_20 (by decide +kernel)
theorem dX1_yearOf_111 : decode cX1_yearOf 111 = .ok (.ldiv, 1) := zk_109 (by decide +kernel)
theorem dX1_yearOf_112 : decode cX1_yearOf 112 = .ok (.lstore 8, 2) := zk_55 (by decide +kernel)
theorem dX1_yearOf_114 : decode cX1_yearOf 114 = .ok (.aload_n 0, 1) := zk_42 (by decide +kernel)
theorem dX1_yearOf_115 : decode cX1_yearOf 115 = .ok (.lload 8, 2) := zk_22 (by decide +kernel)
theorem dX1_yearOf_117 : decode cX1_yearOf 117 = .ok (.invokevirtual 45, 3) := zk_182 (by decide +kernel)
theorem dX1_yearOf_120 : decode cX1_yearOf 120 = .ok (.lload_n 1, 1) := zk_31 (by decide +kernel)
theorem dX1_yearOf_121 : decode cX1_yearOf 121 = .ok (.lcmp, 1) := zk_148 (by decide +kernel)
theorem dX1_yearOf_122 : decode cX1_yearOf 122 = .ok (.ifCond .gt 9, 3) := zk_157 (by decide +kernel)
theorem dX1_yearOf_131 : decode cX1_yearOf 131 = .ok (.lload 8, 2) := zk_22 (by decide +kernel)
theorem dX1_yearOf_133 : decode cX1_yearOf 133 = .ok (.lconst 1, 1) := zk_10 (by decide +kernel)
theorem dX1_yearOf_134 : decode cX1_yearOf 134 = .ok (.lsub, 1) := zk_101 (by decide +kernel)
theorem dX1_yearOf_135 : decode cX1_yearOf 135 = .ok (.lstore 5, 2) := zk_55 (by decide +kernel)
theorem dX1_yearOf_137 : decode cX1_yearOf 137 = .ok (.iinc 7 1, 3) := zk_132 (by decide +kernel)
theorem dX1_yearOf_140 : decode cX1_yearOf 140 = .ok (.goto (-52), 3) := zk_167 (by decide +kernel)
theorem dX1_yearOf_125 : decode cX1_yearOf 125 = .ok (.lload 8, 2) := zk_22 (by decide +kernel)
theorem dX1_yearOf_127 : decode cX1_yearOf 127 = .ok (.lstore_n 3, 1) := zk_66 (by decide +kernel)
theorem dX1_yearOf_128 : decode cX1_yearOf 128 = .ok (.goto 9, 3) := zk_167 (by decide +kernel)
theorem dX1_yearOf_65 : decode cX1_yearOf 65 = .ok (.lload_n 1, 1) := zk_31 (by decide +kernel)
theorem dX1_yearOf_66 : decode cX1_yearOf 66 = .ok (.aload_n 0, 1) := zk_42 (by decide +kernel)
theorem dX1_yearOf_67 : decode cX1_yearOf 67 = .ok (.lload 5, 2) := zk_22 (by decide +kernel)
theorem dX1_yearOf_69 : decode cX1_yearOf 69 = .ok (.invokevirtual 45, 3) := zk_182 (by decide +kernel)
theorem dX1_yearOf_72 : decode cX1_yearOf 72 = .ok (.aload_n 0, 1) := zk_42 (by decide +kernel)
theorem dX1_yearOf_73 : decode cX1_yearOf 73 = .ok (.lload 5, 2) := zk_22 (by decide +kernel)
theorem dX1_yearOf_75 : decode cX1_yearOf 75 = .ok (.invokevirtual 15, 3) := zk_182 (by decide +kernel)
theorem dX1_yearOf_78 : decode cX1_yearOf 78 = .ok (.ladd, 1) := zk_97 (by decide +kernel)
theorem dX1_yearOf_79 : decode cX1_yearOf 79 = .ok (.lcmp, 1) := zk_148 (by decide +kernel)
theorem dX1_yearOf_80 : decode cX1_yearOf 80 = .ok (.ifCond .lt 5, 3) := zk_155 (by decide +kernel)
theorem dX1_yearOf_83 : decode cX1_yearOf 83 = .ok (.lconst 0, 1) := zk_9 (by decide +kernel)
theorem dX1_yearOf_84 : decode cX1_yearOf 84 = .ok (.lreturn, 1) := zk_173 (by decide +kernel)
theorem dX1_yearOf_46 : decode cX1_yearOf 46 = .ok (.ldc2_w 31, 3) := zk_20 (by decide +kernel)
theorem dX1_yearOf_49 : decode cX1_yearOf 49 = .ok (.goto 7, 3) := zk_167 (by decide +kernel)
theorem dX1_yearOf_19 : decode cX1_yearOf 19 = .ok (.lload_n 1, 1) := zk_31 (by decide +kernel)
theorem dX1_yearOf_20 : decode cX1_yearOf 20 = .ok (.aload_n 0, 1) := zk_42 (by decide +kernel)
theorem dX1_yearOf_21 : decode cX1_yearOf 21 = .ok (.getfield 28, 3) := zk_180 (by decide +kernel)
theorem dX1_yearOf_24 : decode cX1_yearOf 24 = .ok (.i2l, 1) := zk_133 (by decide +kernel)
theorem dX1_yearOf_25 : decode cX1_yearOf 25 = .ok (.lsub, 1) := zk_101 (by decide +kernel)
theorem dX1_yearOf_26 : decode cX1_yearOf 26 = .ok (.aload_n 0, 1) := zk_42 (by decide +kernel)
theorem dX1_yearOf_27 : decode cX1_yearOf 27 = .ok (.getfield 9, 3) := zk_180 (by decide +kernel)
theorem dX1_yearOf_30 : decode cX1_yearOf 30 = .ok (.i2l, 1) := zk_133 (by decide +kernel)
theorem dX1_yearOf_31 : decode cX1_yearOf 31 = .ok (.invokestatic 37, 3) := zk_184 (by decide +kernel)
theorem dX1_yearOf_34 : decode cX1_yearOf 34 = .ok (.lconst 1, 1) := zk_10 (by decide +kernel)
theorem dX1_yearOf_35 : decode cX1_yearOf 35 = .ok (.ladd, 1) := zk_97 (by decide +kernel)
theorem dX1_yearOf_36 : decode cX1_yearOf 36 = .ok (.lreturn, 1) := zk_173 (by decide +kernel)
theorem dX1_yearOf_10 : decode cX1_yearOf 10 = .ok (.lconst 0, 1) := zk_9 (by decide +kernel)
theorem dX1_yearOf_11 : decode cX1_yearOf 11 = .ok (.lreturn, 1) := zk_173 (by decide +kernel)
set_option maxHeartbeats 4000000 in
set_option maxRecDepth 100000 in
theorem gl_yearOf (l : Launch) (dC : Nat → ClassId) (dI : Nat → Nat → Nat) (la : Nat) (fi : Int32) (gr : Int32) (fr : Int32) (a0 : Int64) : Met l yX1_yearOf (Cond.code yX1_yearOf cX1_yearOf 10 (some .long) :: wsL_law) ({ frames := 2, cells := 0, slots := 0, locals := 43 }) (va_Pc [.ref la, .long a0] (fun U => va_P (dC, dI) vwCl [(eO1a la fi gr fr)] U.heap ∧ va_K (dC, dI) vwCl [] U ∧ xN U)) (vp_Sl (fun r => r = fl_yearOf fi gr fr a0)) 0 0 (fun _ => False) := by
  refine Met.ofW (cc := cX1_yearOf) (maxL := 10) (ret := (some .long)) (by decide) rfl ?_
  intro p e s m args below meth c s₁ B hml hv
  obtain ⟨rfl, hP, hK, hNx⟩ := hv
  have hx := B.exec
  have hb := B.bytes
  have hr := B.returns
  have hts := atoms_spec (ws := Cond.code yX1_yearOf cX1_yearOf 10 (some .long) :: wsL_law) B.pre
  have htw : ∀ w ∈ wsL_law, w.before _ s = true := fun w h => hts w (List.mem_cons_of_mem _ h)
  have hown : s.vm.findClass RX1 = some m.cls := findClass_of_methodNamed B.named
  have hlocks := B.notSynchronized
  have hl := lv_entry ([.ref la, .long a0]) (n := 10) (Nat.le_of_ble_eq_true rfl)
  rw [lg_entry_eq]
  generalize (lg_sl ([.ref la, .long a0]) ++ List.replicate (10 - (lg_sl ([.ref la, .long a0])).length) Slot.unset).toArray = ls at hl ⊢
  have hl : lv_has ls 10 [(0, .ref la), (1, .long a0)] := hl
  refine lv_lload_n hx hb dX1_yearOf_0 rfl (lv_at hl 1 rfl) ?_
  refine lv_aload_n hx hb dX1_yearOf_1 rfl (lv_at hl 0 rfl) ?_
  refine va_get (D := (dC, dI)) (ci := 1) (v := .int fr) (C := RX1) (T := TX1) (N := 3) hx hb htw inlX1 hown hK hP 0 rfl rfl 2 (by decide) (htw _ (ck_22 _ (List.mem_of_getElem? (i := 0) rfl))) (fun _ h9 => h9) rfl dX1_yearOf_2 ?_
  refine lv_i2l (v := fr.toInt64) hx hb dX1_yearOf_5 rfl ?_
  refine W.lcmp hx hb dX1_yearOf_6 ?_
  refine lv_if_ge (tgt := 12) hx hb dX1_yearOf_7 (by decide) (fun c_1 => ?_) (fun c_1 => ?_)
  · refine lv_aload_n hx hb dX1_yearOf_12 rfl (lv_at hl 0 rfl) ?_
    refine va_get (D := (dC, dI)) (ci := 1) (v := .int gr) (C := RX1) (T := TX1) (N := 3) hx hb htw inlX1 hown hK hP 0 rfl rfl 1 (by decide) (htw _ (ck_21 _ (List.mem_of_getElem? (i := 13) rfl))) (fun _ h9 => h9) rfl dX1_yearOf_13 ?_
    refine lv_if_ne (tgt := 37) hx hb dX1_yearOf_16 (by decide) (fun c_2 => ?_) (fun c_2 => ?_)
    · refine lv_lconst (v := 1) hx hb dX1_yearOf_37 (by decide) ?_
      refine lv_lstore_n (lv' := [(3, .long 1), (0, .ref la), (1, .long a0)]) hx hb dX1_yearOf_38 rfl hl (by decide) rfl (fun ls hl => ?_)
      refine lv_aload_n hx hb dX1_yearOf_39 rfl (lv_at hl 1 rfl) ?_
      refine va_get (D := (dC, dI)) (ci := 1) (v := .int gr) (C := RX1) (T := TX1) (N := 3) hx hb htw inlX1 hown hK hP 0 rfl rfl 1 (by decide) (htw _ (ck_21 _ (List.mem_of_getElem? (i := 13) rfl))) (fun _ h9 => h9) rfl dX1_yearOf_40 ?_
      refine lv_if_le (tgt := 52) hx hb dX1_yearOf_43 (by decide) (fun c_3 => ?_) (fun c_3 => ?_)
      · refine lv_aload_n hx hb dX1_yearOf_52 rfl (lv_at hl 1 rfl) ?_
        have hPc := hP.sub (ws' := [(eO1a la fi gr fr)]) [0] rfl
        have hKc := hK.sub (tys' := []) [] rfl
        refine vp_callSl (W.runV (As := []) (rest := []) ⟨hx, hb, hml, hown, htw⟩ (gl_lastYear l dC dI la fi gr fr) (cwV 0 htw (xg_V (ck_35 _ (List.mem_of_getElem? (i := 21) rfl)) (ck_35 _ (List.mem_of_getElem? (i := 22) rfl)) (ck_35 _ (List.mem_of_getElem? (i := 23) rfl)) (ck_6 _ (List.mem_of_getElem? (i := 19) rfl)) (ck_36 _ (List.mem_of_getElem? (i := 0) rfl))) rfl rfl rfl (by exact ⟨rfl, hdc_0.1, hdc_0.2, hdd_3⟩) ⟨Nat.le_of_ble_eq_true rfl, Nat.le_of_ble_eq_true rfl⟩) ⟨fun a U g mk q => by obtain ⟨q0, qP, qK, qx⟩ := q; exact ⟨q0, qP, va_K.moved (u := U) (U := U.calling g mk a) (Vm.Alike.refl U.vm) qK, xN.calling qx⟩, va_recv hKc hPc (ci := 1) (q0 := 0) rfl rfl, fun U hU hW => ⟨rfl, by rw [hU]; exact hPc, va_K.moved hW.alike hKc, xN.warm hW hNx⟩⟩ rfl rfl hl.1 rfl (lv_room (Nat.le_of_ble_eq_true rfl)) dX1_yearOf_53 ⟨Nat.le_of_ble_eq_true rfl, Nat.le_of_ble_eq_true rfl⟩) (fun r_4 hw => ?_)
        try dsimp only at hw
        have hq_r_4 : r_4 = fl_lastYear fi gr fr := hw
        refine lv_lstore (lv' := [(5, .long r_4), (3, .long 1), (0, .ref la), (1, .long a0)]) hx hb dX1_yearOf_56 hl (by decide) rfl (fun ls hl => ?_)
        refine lv_aload_n hx hb dX1_yearOf_58 rfl (lv_at hl 2 rfl) ?_
        refine va_get (D := (dC, dI)) (ci := 1) (v := .int gr) (C := RX1) (T := TX1) (N := 3) hx hb htw inlX1 hown hK hP 0 rfl rfl 1 (by decide) (htw _ (ck_21 _ (List.mem_of_getElem? (i := 13) rfl))) (fun _ h9 => h9) rfl dX1_yearOf_59 ?_
        refine lv_if_ge (tgt := 85) hx hb dX1_yearOf_62 (by decide) (fun c_5 => ?_) (fun c_5 => ?_)
        · refine lv_iconst (v := 0) hx hb dX1_yearOf_85 (by decide) ?_
          refine lv_istore (lv' := [(7, .int 0), (5, .long r_4), (3, .long 1), (0, .ref la), (1, .long a0)]) hx hb dX1_yearOf_86 hl (by decide) rfl (fun ls hl => ?_)
          have hloop_6 : ∀ (n i : Nat) (lo : Int64) (hg : Int64) (hi : i + n = 64) (hI : fl_yearOf fi gr fr a0 = fl_yearOf_L fi gr fr a0 n lo hg) (ls : Array Slot) (hl : lv_has ls 10 [(7, .int (nI i)), (3, .long lo), (5, .long hg), (0, .ref la), (1, .long a0)]), W p l e (headSpec (Cond.code yX1_yearOf cX1_yearOf 10 (some .long) :: wsL_law) ({ frames := 2, cells := 0, slots := 0, locals := 43 })).room s m ([.ref la, .long a0] : List Value).toArray below meth c s.heap [] 0 0 (MQ below (vp_Sl (fun r => r = fl_yearOf fi gr fr a0)) ([.ref la, .long a0] : List Value).toArray s 0 0 (fun _ => False)) (F0 m 88 ls []) := by
            intro n
            induction n with
            | zero =>
              intro i lo hg hi hI ls hl
              obtain rfl : i = 64 := by omega
              refine lv_iload hx hb dX1_yearOf_88 (lv_at hl 0 rfl) ?_
              refine lv_bipush (v := 64) hx hb dX1_yearOf_90 (by decide) ?_
              refine lv_icmp_ge (tgt := 143) hx hb dX1_yearOf_92 (by decide) (fun c_7 => ?_) (fun c_7 => absurd c_7 (fun h => h (by decide)))
              refine lv_lload_n hx hb dX1_yearOf_143 rfl (lv_at hl 1 rfl) ?_
              exact W.lret (v := lo) hx hb hr (fun t ht hW => ⟨lo, rfl, (hI.trans (by rw [fl_yearOf_L]; (try rw [← hq_r_4]); try rfl)).symm, ht⟩) (fun _ h => by cases h) dX1_yearOf_144
            | succ n ih =>
              intro i lo hg hi hI ls hl
              refine lv_iload hx hb dX1_yearOf_88 (lv_at hl 0 rfl) ?_
              refine lv_bipush (v := 64) hx hb dX1_yearOf_90 (by decide) ?_
              refine lv_icmp_ge (tgt := 143) hx hb dX1_yearOf_92 (by decide) (fun c_8 => absurd c_8 (nI_ge (a := i) (b := 64) (by omega) (by decide))) (fun c_8 => ?_)
              refine lv_lload_n hx hb dX1_yearOf_95 rfl (lv_at hl 1 rfl) ?_
              refine lv_lload hx hb dX1_yearOf_96 (lv_at hl 2 rfl) ?_
              refine W.lcmp hx hb dX1_yearOf_98 ?_
              refine lv_if_ge (tgt := 143) hx hb dX1_yearOf_99 (by decide) (fun c_9 => ?_) (fun c_9 => ?_)
              · refine lv_lload_n hx hb dX1_yearOf_143 rfl (lv_at hl 1 rfl) ?_
                exact W.lret (v := lo) hx hb hr (fun t ht hW => ⟨lo, rfl, (hI.trans (by rw [fl_yearOf_L]; (try rw [← hq_r_4]); (try rw [if_pos c_9]); try rfl)).symm, ht⟩) (fun _ h => by cases h) dX1_yearOf_144
              · refine lv_lload_n hx hb dX1_yearOf_102 rfl (lv_at hl 1 rfl) ?_
                refine lv_lload hx hb dX1_yearOf_103 (lv_at hl 2 rfl) ?_
                refine lv_ladd hx hb dX1_yearOf_105 ?_
                refine lv_lconst (v := 1) hx hb dX1_yearOf_106 (by decide) ?_
                refine lv_ladd hx hb dX1_yearOf_107 ?_
                refine lv_ldc2 (v := 2) hx hb hown (htw _ (ck_22 _ (List.mem_of_getElem? (i := 3) rfl))) dX1_yearOf_108 ?_
                refine lv_ldiv hx hb dX1_yearOf_111 (by decide) ?_
                refine lv_lstore (lv' := [(8, .long (((lo + hg) + 1) / 2)), (7, .int (nI i)), (3, .long lo), (5, .long hg), (0, .ref la), (1, .long a0)]) hx hb dX1_yearOf_112 hl (by decide) rfl (fun ls hl => ?_)
                refine lv_aload_n hx hb dX1_yearOf_114 rfl (lv_at hl 4 rfl) ?_
                refine lv_lload hx hb dX1_yearOf_115 (lv_at hl 0 rfl) ?_
                have hPc := hP.sub (ws' := [(eO1a la fi gr fr)]) [0] rfl
                have hKc := hK.sub (tys' := []) [] rfl
                refine vp_callSl (W.runV (As := [.long (((lo + hg) + 1) / 2)]) (rest := []) ⟨hx, hb, hml, hown, htw⟩ (gl_beginOf l dC dI la fi gr fr (((lo + hg) + 1) / 2)) (cwV 1 htw (xg_V (ck_21 _ (List.mem_of_getElem? (i := 20) rfl)) (ck_21 _ (List.mem_of_getElem? (i := 21) rfl)) (ck_21 _ (List.mem_of_getElem? (i := 22) rfl)) (ck_6 _ (List.mem_of_getElem? (i := 19) rfl)) (ck_21 _ (List.mem_of_getElem? (i := 23) rfl))) rfl rfl rfl (by exact ⟨rfl, hdc_0.1, hdc_0.2, hdd_0⟩) ⟨Nat.le_of_ble_eq_true rfl, Nat.le_of_ble_eq_true rfl⟩) ⟨fun a U g mk q => by obtain ⟨q0, qP, qK⟩ := q; exact ⟨q0, qP, va_K.moved (u := U) (U := U.calling g mk a) (Vm.Alike.refl U.vm) qK⟩, va_recv hKc hPc (ci := 1) (q0 := 0) rfl rfl, fun U hU hW => ⟨rfl, by rw [hU]; exact hPc, va_K.moved hW.alike hKc⟩⟩ rfl rfl hl.1 rfl (lv_room (Nat.le_of_ble_eq_true rfl)) dX1_yearOf_117 ⟨Nat.le_of_ble_eq_true rfl, Nat.le_of_ble_eq_true rfl⟩) (fun r_10 hw => ?_)
                try dsimp only at hw
                have hq_r_10 : r_10 = fl_beginOf fi gr fr (((lo + hg) + 1) / 2) := hw
                refine lv_lload_n hx hb dX1_yearOf_120 rfl (lv_at hl 5 rfl) ?_
                refine W.lcmp hx hb dX1_yearOf_121 ?_
                refine lv_if_gt (tgt := 131) hx hb dX1_yearOf_122 (by decide) (fun c_11 => ?_) (fun c_11 => ?_)
                · refine lv_lload hx hb dX1_yearOf_131 (lv_at hl 0 rfl) ?_
                  refine lv_lconst (v := 1) hx hb dX1_yearOf_133 (by decide) ?_
                  refine lv_lsub hx hb dX1_yearOf_134 ?_
                  refine lv_lstore (lv' := [(5, .long ((((lo + hg) + 1) / 2) - 1)), (8, .long (((lo + hg) + 1) / 2)), (7, .int (nI i)), (3, .long lo), (0, .ref la), (1, .long a0)]) hx hb dX1_yearOf_135 hl (by decide) rfl (fun ls hl => ?_)
                  refine lv_iinc (v := ((nI i) + 1)) (lv' := [(7, .int ((nI i) + 1)), (5, .long ((((lo + hg) + 1) / 2) - 1)), (8, .long (((lo + hg) + 1) / 2)), (3, .long lo), (0, .ref la), (1, .long a0)]) hx hb dX1_yearOf_137 hl (k := 2) rfl (rfl) (by decide) rfl (fun ls hl => ?_)
                  refine lv_goto (tgt := 88) hx hb dX1_yearOf_140 (by decide) ?_
                  have hl : lv_has ls 10 [(7, .int (nI (i + 1))), (3, .long lo), (5, .long ((((lo + hg) + 1) / 2) - 1)), (0, .ref la), (1, .long a0)] := by rw [← nI_1]; exact lv_sub hl [0, 3, 1, 4, 5] rfl
                  exact ih (i + 1) lo ((((lo + hg) + 1) / 2) - 1) (by omega) (hI.trans (by rw [fl_yearOf_L]; (try rw [← hq_r_4]); (try rw [← hq_r_10]); (try rw [if_neg c_9]); (try rw [if_pos c_11]); try rfl)) ls hl
                · refine lv_lload hx hb dX1_yearOf_125 (lv_at hl 0 rfl) ?_
                  refine lv_lstore_n (lv' := [(3, .long (((lo + hg) + 1) / 2)), (8, .long (((lo + hg) + 1) / 2)), (7, .int (nI i)), (5, .long hg), (0, .ref la), (1, .long a0)]) hx hb dX1_yearOf_127 rfl hl (by decide) rfl (fun ls hl => ?_)
                  refine lv_goto (tgt := 137) hx hb dX1_yearOf_128 (by decide) ?_
                  refine lv_iinc (v := ((nI i) + 1)) (lv' := [(7, .int ((nI i) + 1)), (3, .long (((lo + hg) + 1) / 2)), (8, .long (((lo + hg) + 1) / 2)), (5, .long hg), (0, .ref la), (1, .long a0)]) hx hb dX1_yearOf_137 hl (k := 2) rfl (rfl) (by decide) rfl (fun ls hl => ?_)
                  refine lv_goto (tgt := 88) hx hb dX1_yearOf_140 (by decide) ?_
                  have hl : lv_has ls 10 [(7, .int (nI (i + 1))), (3, .long (((lo + hg) + 1) / 2)), (5, .long hg), (0, .ref la), (1, .long a0)] := by rw [← nI_1]; exact lv_sub hl [0, 1, 3, 4, 5] rfl
                  exact ih (i + 1) (((lo + hg) + 1) / 2) hg (by omega) (hI.trans (by rw [fl_yearOf_L]; (try rw [← hq_r_4]); (try rw [← hq_r_10]); (try rw [if_neg c_9]); (try rw [if_neg c_11]); try rfl)) ls hl
          exact hloop_6 64 0 1 r_4 rfl (by rw [fl_yearOf]; (try rw [← hq_r_4]); (try rw [if_pos c_1]); (try rw [if_neg c_2]); (try rw [if_pos c_3]); (try rw [if_pos c_5]); try rfl) ls (lv_sub hl [0, 2, 1, 3, 4] rfl)
        · refine lv_lload_n hx hb dX1_yearOf_65 rfl (lv_at hl 3 rfl) ?_
          refine lv_aload_n hx hb dX1_yearOf_66 rfl (lv_at hl 2 rfl) ?_
          refine lv_lload hx hb dX1_yearOf_67 (lv_at hl 0 rfl) ?_
          have hPc := hP.sub (ws' := [(eO1a la fi gr fr)]) [0] rfl
          have hKc := hK.sub (tys' := []) [] rfl
          refine vp_callSl (W.runV (As := [.long r_4]) (rest := [.long a0]) ⟨hx, hb, hml, hown, htw⟩ (gl_beginOf l dC dI la fi gr fr r_4) (cwV 1 htw (xg_V (ck_21 _ (List.mem_of_getElem? (i := 20) rfl)) (ck_21 _ (List.mem_of_getElem? (i := 21) rfl)) (ck_21 _ (List.mem_of_getElem? (i := 22) rfl)) (ck_6 _ (List.mem_of_getElem? (i := 19) rfl)) (ck_21 _ (List.mem_of_getElem? (i := 23) rfl))) rfl rfl rfl (by exact ⟨rfl, hdc_0.1, hdc_0.2, hdd_0⟩) ⟨Nat.le_of_ble_eq_true rfl, Nat.le_of_ble_eq_true rfl⟩) ⟨fun a U g mk q => by obtain ⟨q0, qP, qK⟩ := q; exact ⟨q0, qP, va_K.moved (u := U) (U := U.calling g mk a) (Vm.Alike.refl U.vm) qK⟩, va_recv hKc hPc (ci := 1) (q0 := 0) rfl rfl, fun U hU hW => ⟨rfl, by rw [hU]; exact hPc, va_K.moved hW.alike hKc⟩⟩ rfl rfl hl.1 rfl (lv_room (Nat.le_of_ble_eq_true rfl)) dX1_yearOf_69 ⟨Nat.le_of_ble_eq_true rfl, Nat.le_of_ble_eq_true rfl⟩) (fun r_12 hw => ?_)
          try dsimp only at hw
          have hq_r_12 : r_12 = fl_beginOf fi gr fr r_4 := hw
          refine lv_aload_n hx hb dX1_yearOf_72 rfl (lv_at hl 2 rfl) ?_
          refine lv_lload hx hb dX1_yearOf_73 (lv_at hl 0 rfl) ?_
          have hPc := hP.sub (ws' := [(eO1a la fi gr fr)]) [0] rfl
          have hKc := hK.sub (tys' := []) [] rfl
          refine vp_callSl (W.runV (As := [.long r_4]) (rest := [.long r_12, .long a0]) ⟨hx, hb, hml, hown, htw⟩ (gl_lengthOf l dC dI la fi gr fr r_4) (cwV 1 htw (xg_V (ck_21 _ (List.mem_of_getElem? (i := 9) rfl)) (ck_21 _ (List.mem_of_getElem? (i := 10) rfl)) (ck_21 _ (List.mem_of_getElem? (i := 11) rfl)) (ck_6 _ (List.mem_of_getElem? (i := 19) rfl)) (ck_21 _ (List.mem_of_getElem? (i := 12) rfl))) rfl rfl rfl (by exact ⟨rfl, hdc_0.1, hdc_0.2, hdd_0⟩) ⟨Nat.le_of_ble_eq_true rfl, Nat.le_of_ble_eq_true rfl⟩) ⟨fun a U g mk q => by obtain ⟨q0, qP, qK⟩ := q; exact ⟨q0, qP, va_K.moved (u := U) (U := U.calling g mk a) (Vm.Alike.refl U.vm) qK⟩, va_recv hKc hPc (ci := 1) (q0 := 0) rfl rfl, fun U hU hW => ⟨rfl, by rw [hU]; exact hPc, va_K.moved hW.alike hKc⟩⟩ rfl rfl hl.1 rfl (lv_room (Nat.le_of_ble_eq_true rfl)) dX1_yearOf_75 ⟨Nat.le_of_ble_eq_true rfl, Nat.le_of_ble_eq_true rfl⟩) (fun r_13 hw => ?_)
          try dsimp only at hw
          have hq_r_13 : r_13 = fl_lengthOf fi gr fr r_4 := hw
          refine lv_ladd hx hb dX1_yearOf_78 ?_
          refine W.lcmp hx hb dX1_yearOf_79 ?_
          refine lv_if_lt (tgt := 85) hx hb dX1_yearOf_80 (by decide) (fun c_14 => ?_) (fun c_14 => ?_)
          · refine lv_iconst (v := 0) hx hb dX1_yearOf_85 (by decide) ?_
            refine lv_istore (lv' := [(7, .int 0), (5, .long r_4), (3, .long 1), (0, .ref la), (1, .long a0)]) hx hb dX1_yearOf_86 hl (by decide) rfl (fun ls hl => ?_)
            have hloop_15 : ∀ (n i : Nat) (lo : Int64) (hg : Int64) (hi : i + n = 64) (hI : fl_yearOf fi gr fr a0 = fl_yearOf_L fi gr fr a0 n lo hg) (ls : Array Slot) (hl : lv_has ls 10 [(7, .int (nI i)), (3, .long lo), (5, .long hg), (0, .ref la), (1, .long a0)]), W p l e (headSpec (Cond.code yX1_yearOf cX1_yearOf 10 (some .long) :: wsL_law) ({ frames := 2, cells := 0, slots := 0, locals := 43 })).room s m ([.ref la, .long a0] : List Value).toArray below meth c s.heap [] 0 0 (MQ below (vp_Sl (fun r => r = fl_yearOf fi gr fr a0)) ([.ref la, .long a0] : List Value).toArray s 0 0 (fun _ => False)) (F0 m 88 ls []) := by
              intro n
              induction n with
              | zero =>
                intro i lo hg hi hI ls hl
                obtain rfl : i = 64 := by omega
                refine lv_iload hx hb dX1_yearOf_88 (lv_at hl 0 rfl) ?_
                refine lv_bipush (v := 64) hx hb dX1_yearOf_90 (by decide) ?_
                refine lv_icmp_ge (tgt := 143) hx hb dX1_yearOf_92 (by decide) (fun c_16 => ?_) (fun c_16 => absurd c_16 (fun h => h (by decide)))
                refine lv_lload_n hx hb dX1_yearOf_143 rfl (lv_at hl 1 rfl) ?_
                exact W.lret (v := lo) hx hb hr (fun t ht hW => ⟨lo, rfl, (hI.trans (by rw [fl_yearOf_L]; (try rw [← hq_r_4]); (try rw [← hq_r_12]); (try rw [← hq_r_13]); try rfl)).symm, ht⟩) (fun _ h => by cases h) dX1_yearOf_144
              | succ n ih =>
                intro i lo hg hi hI ls hl
                refine lv_iload hx hb dX1_yearOf_88 (lv_at hl 0 rfl) ?_
                refine lv_bipush (v := 64) hx hb dX1_yearOf_90 (by decide) ?_
                refine lv_icmp_ge (tgt := 143) hx hb dX1_yearOf_92 (by decide) (fun c_17 => absurd c_17 (nI_ge (a := i) (b := 64) (by omega) (by decide))) (fun c_17 => ?_)
                refine lv_lload_n hx hb dX1_yearOf_95 rfl (lv_at hl 1 rfl) ?_
                refine lv_lload hx hb dX1_yearOf_96 (lv_at hl 2 rfl) ?_
                refine W.lcmp hx hb dX1_yearOf_98 ?_
                refine lv_if_ge (tgt := 143) hx hb dX1_yearOf_99 (by decide) (fun c_18 => ?_) (fun c_18 => ?_)
                · refine lv_lload_n hx hb dX1_yearOf_143 rfl (lv_at hl 1 rfl) ?_
                  exact W.lret (v := lo) hx hb hr (fun t ht hW => ⟨lo, rfl, (hI.trans (by rw [fl_yearOf_L]; (try rw [← hq_r_4]); (try rw [← hq_r_12]); (try rw [← hq_r_13]); (try rw [if_pos c_18]); try rfl)).symm, ht⟩) (fun _ h => by cases h) dX1_yearOf_144
                · refine lv_lload_n hx hb dX1_yearOf_102 rfl (lv_at hl 1 rfl) ?_
                  refine lv_lload hx hb dX1_yearOf_103 (lv_at hl 2 rfl) ?_
                  refine lv_ladd hx hb dX1_yearOf_105 ?_
                  refine lv_lconst (v := 1) hx hb dX1_yearOf_106 (by decide) ?_
                  refine lv_ladd hx hb dX1_yearOf_107 ?_
                  refine lv_ldc2 (v := 2) hx hb hown (htw _ (ck_22 _ (List.mem_of_getElem? (i := 3) rfl))) dX1_yearOf_108 ?_
                  refine lv_ldiv hx hb dX1_yearOf_111 (by decide) ?_
                  refine lv_lstore (lv' := [(8, .long (((lo + hg) + 1) / 2)), (7, .int (nI i)), (3, .long lo), (5, .long hg), (0, .ref la), (1, .long a0)]) hx hb dX1_yearOf_112 hl (by decide) rfl (fun ls hl => ?_)
                  refine lv_aload_n hx hb dX1_yearOf_114 rfl (lv_at hl 4 rfl) ?_
                  refine lv_lload hx hb dX1_yearOf_115 (lv_at hl 0 rfl) ?_
                  have hPc := hP.sub (ws' := [(eO1a la fi gr fr)]) [0] rfl
                  have hKc := hK.sub (tys' := []) [] rfl
                  refine vp_callSl (W.runV (As := [.long (((lo + hg) + 1) / 2)]) (rest := []) ⟨hx, hb, hml, hown, htw⟩ (gl_beginOf l dC dI la fi gr fr (((lo + hg) + 1) / 2)) (cwV 1 htw (xg_V (ck_21 _ (List.mem_of_getElem? (i := 20) rfl)) (ck_21 _ (List.mem_of_getElem? (i := 21) rfl)) (ck_21 _ (List.mem_of_getElem? (i := 22) rfl)) (ck_6 _ (List.mem_of_getElem? (i := 19) rfl)) (ck_21 _ (List.mem_of_getElem? (i := 23) rfl))) rfl rfl rfl (by exact ⟨rfl, hdc_0.1, hdc_0.2, hdd_0⟩) ⟨Nat.le_of_ble_eq_true rfl, Nat.le_of_ble_eq_true rfl⟩) ⟨fun a U g mk q => by obtain ⟨q0, qP, qK⟩ := q; exact ⟨q0, qP, va_K.moved (u := U) (U := U.calling g mk a) (Vm.Alike.refl U.vm) qK⟩, va_recv hKc hPc (ci := 1) (q0 := 0) rfl rfl, fun U hU hW => ⟨rfl, by rw [hU]; exact hPc, va_K.moved hW.alike hKc⟩⟩ rfl rfl hl.1 rfl (lv_room (Nat.le_of_ble_eq_true rfl)) dX1_yearOf_117 ⟨Nat.le_of_ble_eq_true rfl, Nat.le_of_ble_eq_true rfl⟩) (fun r_19 hw => ?_)
                  try dsimp only at hw
                  have hq_r_19 : r_19 = fl_beginOf fi gr fr (((lo + hg) + 1) / 2) := hw
                  refine lv_lload_n hx hb dX1_yearOf_120 rfl (lv_at hl 5 rfl) ?_
                  refine W.lcmp hx hb dX1_yearOf_121 ?_
                  refine lv_if_gt (tgt := 131) hx hb dX1_yearOf_122 (by decide) (fun c_20 => ?_) (fun c_20 => ?_)
                  · refine lv_lload hx hb dX1_yearOf_131 (lv_at hl 0 rfl) ?_
                    refine lv_lconst (v := 1) hx hb dX1_yearOf_133 (by decide) ?_
                    refine lv_lsub hx hb dX1_yearOf_134 ?_
                    refine lv_lstore (lv' := [(5, .long ((((lo + hg) + 1) / 2) - 1)), (8, .long (((lo + hg) + 1) / 2)), (7, .int (nI i)), (3, .long lo), (0, .ref la), (1, .long a0)]) hx hb dX1_yearOf_135 hl (by decide) rfl (fun ls hl => ?_)
                    refine lv_iinc (v := ((nI i) + 1)) (lv' := [(7, .int ((nI i) + 1)), (5, .long ((((lo + hg) + 1) / 2) - 1)), (8, .long (((lo + hg) + 1) / 2)), (3, .long lo), (0, .ref la), (1, .long a0)]) hx hb dX1_yearOf_137 hl (k := 2) rfl (rfl) (by decide) rfl (fun ls hl => ?_)
                    refine lv_goto (tgt := 88) hx hb dX1_yearOf_140 (by decide) ?_
                    have hl : lv_has ls 10 [(7, .int (nI (i + 1))), (3, .long lo), (5, .long ((((lo + hg) + 1) / 2) - 1)), (0, .ref la), (1, .long a0)] := by rw [← nI_1]; exact lv_sub hl [0, 3, 1, 4, 5] rfl
                    exact ih (i + 1) lo ((((lo + hg) + 1) / 2) - 1) (by omega) (hI.trans (by rw [fl_yearOf_L]; (try rw [← hq_r_4]); (try rw [← hq_r_12]); (try rw [← hq_r_13]); (try rw [← hq_r_19]); (try rw [if_neg c_18]); (try rw [if_pos c_20]); try rfl)) ls hl
                  · refine lv_lload hx hb dX1_yearOf_125 (lv_at hl 0 rfl) ?_
                    refine lv_lstore_n (lv' := [(3, .long (((lo + hg) + 1) / 2)), (8, .long (((lo + hg) + 1) / 2)), (7, .int (nI i)), (5, .long hg), (0, .ref la), (1, .long a0)]) hx hb dX1_yearOf_127 rfl hl (by decide) rfl (fun ls hl => ?_)
                    refine lv_goto (tgt := 137) hx hb dX1_yearOf_128 (by decide) ?_
                    refine lv_iinc (v := ((nI i) + 1)) (lv' := [(7, .int ((nI i) + 1)), (3, .long (((lo + hg) + 1) / 2)), (8, .long (((lo + hg) + 1) / 2)), (5, .long hg), (0, .ref la), (1, .long a0)]) hx hb dX1_yearOf_137 hl (k := 2) rfl (rfl) (by decide) rfl (fun ls hl => ?_)
                    refine lv_goto (tgt := 88) hx hb dX1_yearOf_140 (by decide) ?_
                    have hl : lv_has ls 10 [(7, .int (nI (i + 1))), (3, .long (((lo + hg) + 1) / 2)), (5, .long hg), (0, .ref la), (1, .long a0)] := by rw [← nI_1]; exact lv_sub hl [0, 1, 3, 4, 5] rfl
                    exact ih (i + 1) (((lo + hg) + 1) / 2) hg (by omega) (hI.trans (by rw [fl_yearOf_L]; (try rw [← hq_r_4]); (try rw [← hq_r_12]); (try rw [← hq_r_13]); (try rw [← hq_r_19]); (try rw [if_neg c_18]); (try rw [if_neg c_20]); try rfl)) ls hl
            exact hloop_15 64 0 1 r_4 rfl (by rw [fl_yearOf]; (try rw [← hq_r_4]); (try rw [← hq_r_12]); (try rw [← hq_r_13]); (try rw [if_pos c_1]); (try rw [if_neg c_2]); (try rw [if_pos c_3]); (try rw [if_neg c_5]); (try rw [if_pos c_14]); try rfl) ls (lv_sub hl [0, 2, 1, 3, 4] rfl)
          · refine lv_lconst (v := 0) hx hb dX1_yearOf_83 (by decide) ?_
            exact W.lret (v := 0) hx hb hr (fun t ht hW => ⟨0, rfl, (by rw [fl_yearOf]; (try rw [← hq_r_4]); (try rw [← hq_r_12]); (try rw [← hq_r_13]); (try rw [if_pos c_1]); (try rw [if_neg c_2]); (try rw [if_pos c_3]); (try rw [if_neg c_5]); (try rw [if_neg c_14]); try rfl), ht⟩) (fun _ h => by cases h) dX1_yearOf_84
      · refine lv_ldc2 (v := 1500000) hx hb hown (htw _ (ck_22 _ (List.mem_of_getElem? (i := 1) rfl))) dX1_yearOf_46 ?_
        refine lv_goto (tgt := 56) hx hb dX1_yearOf_49 (by decide) ?_
        refine lv_lstore (lv' := [(5, .long 1500000), (3, .long 1), (0, .ref la), (1, .long a0)]) hx hb dX1_yearOf_56 hl (by decide) rfl (fun ls hl => ?_)
        refine lv_aload_n hx hb dX1_yearOf_58 rfl (lv_at hl 2 rfl) ?_
        refine va_get (D := (dC, dI)) (ci := 1) (v := .int gr) (C := RX1) (T := TX1) (N := 3) hx hb htw inlX1 hown hK hP 0 rfl rfl 1 (by decide) (htw _ (ck_21 _ (List.mem_of_getElem? (i := 13) rfl))) (fun _ h9 => h9) rfl dX1_yearOf_59 ?_
        refine lv_if_ge (tgt := 85) hx hb dX1_yearOf_62 (by decide) (fun c_21 => ?_) (fun c_21 => ?_)
        · refine lv_iconst (v := 0) hx hb dX1_yearOf_85 (by decide) ?_
          refine lv_istore (lv' := [(7, .int 0), (5, .long 1500000), (3, .long 1), (0, .ref la), (1, .long a0)]) hx hb dX1_yearOf_86 hl (by decide) rfl (fun ls hl => ?_)
          have hloop_22 : ∀ (n i : Nat) (lo : Int64) (hg : Int64) (hi : i + n = 64) (hI : fl_yearOf fi gr fr a0 = fl_yearOf_L fi gr fr a0 n lo hg) (ls : Array Slot) (hl : lv_has ls 10 [(7, .int (nI i)), (3, .long lo), (5, .long hg), (0, .ref la), (1, .long a0)]), W p l e (headSpec (Cond.code yX1_yearOf cX1_yearOf 10 (some .long) :: wsL_law) ({ frames := 2, cells := 0, slots := 0, locals := 43 })).room s m ([.ref la, .long a0] : List Value).toArray below meth c s.heap [] 0 0 (MQ below (vp_Sl (fun r => r = fl_yearOf fi gr fr a0)) ([.ref la, .long a0] : List Value).toArray s 0 0 (fun _ => False)) (F0 m 88 ls []) := by
            intro n
            induction n with
            | zero =>
              intro i lo hg hi hI ls hl
              obtain rfl : i = 64 := by omega
              refine lv_iload hx hb dX1_yearOf_88 (lv_at hl 0 rfl) ?_
              refine lv_bipush (v := 64) hx hb dX1_yearOf_90 (by decide) ?_
              refine lv_icmp_ge (tgt := 143) hx hb dX1_yearOf_92 (by decide) (fun c_23 => ?_) (fun c_23 => absurd c_23 (fun h => h (by decide)))
              refine lv_lload_n hx hb dX1_yearOf_143 rfl (lv_at hl 1 rfl) ?_
              exact W.lret (v := lo) hx hb hr (fun t ht hW => ⟨lo, rfl, (hI.trans (rfl)).symm, ht⟩) (fun _ h => by cases h) dX1_yearOf_144
            | succ n ih =>
              intro i lo hg hi hI ls hl
              refine lv_iload hx hb dX1_yearOf_88 (lv_at hl 0 rfl) ?_
              refine lv_bipush (v := 64) hx hb dX1_yearOf_90 (by decide) ?_
              refine lv_icmp_ge (tgt := 143) hx hb dX1_yearOf_92 (by decide) (fun c_24 => absurd c_24 (nI_ge (a := i) (b := 64) (by omega) (by decide))) (fun c_24 => ?_)
              refine lv_lload_n hx hb dX1_yearOf_95 rfl (lv_at hl 1 rfl) ?_
              refine lv_lload hx hb dX1_yearOf_96 (lv_at hl 2 rfl) ?_
              refine W.lcmp hx hb dX1_yearOf_98 ?_
              refine lv_if_ge (tgt := 143) hx hb dX1_yearOf_99 (by decide) (fun c_25 => ?_) (fun c_25 => ?_)
              · refine lv_lload_n hx hb dX1_yearOf_143 rfl (lv_at hl 1 rfl) ?_
                exact W.lret (v := lo) hx hb hr (fun t ht hW => ⟨lo, rfl, (hI.trans (by rw [fl_yearOf_L]; (try rw [if_pos c_25]); try rfl)).symm, ht⟩) (fun _ h => by cases h) dX1_yearOf_144
              · refine lv_lload_n hx hb dX1_yearOf_102 rfl (lv_at hl 1 rfl) ?_
                refine lv_lload hx hb dX1_yearOf_103 (lv_at hl 2 rfl) ?_
                refine lv_ladd hx hb dX1_yearOf_105 ?_
                refine lv_lconst (v := 1) hx hb dX1_yearOf_106 (by decide) ?_
                refine lv_ladd hx hb dX1_yearOf_107 ?_
                refine lv_ldc2 (v := 2) hx hb hown (htw _ (ck_22 _ (List.mem_of_getElem? (i := 3) rfl))) dX1_yearOf_108 ?_
                refine lv_ldiv hx hb dX1_yearOf_111 (by decide) ?_
                refine lv_lstore (lv' := [(8, .long (((lo + hg) + 1) / 2)), (7, .int (nI i)), (3, .long lo), (5, .long hg), (0, .ref la), (1, .long a0)]) hx hb dX1_yearOf_112 hl (by decide) rfl (fun ls hl => ?_)
                refine lv_aload_n hx hb dX1_yearOf_114 rfl (lv_at hl 4 rfl) ?_
                refine lv_lload hx hb dX1_yearOf_115 (lv_at hl 0 rfl) ?_
                have hPc := hP.sub (ws' := [(eO1a la fi gr fr)]) [0] rfl
                have hKc := hK.sub (tys' := []) [] rfl
                refine vp_callSl (W.runV (As := [.long (((lo + hg) + 1) / 2)]) (rest := []) ⟨hx, hb, hml, hown, htw⟩ (gl_beginOf l dC dI la fi gr fr (((lo + hg) + 1) / 2)) (cwV 1 htw (xg_V (ck_21 _ (List.mem_of_getElem? (i := 20) rfl)) (ck_21 _ (List.mem_of_getElem? (i := 21) rfl)) (ck_21 _ (List.mem_of_getElem? (i := 22) rfl)) (ck_6 _ (List.mem_of_getElem? (i := 19) rfl)) (ck_21 _ (List.mem_of_getElem? (i := 23) rfl))) rfl rfl rfl (by exact ⟨rfl, hdc_0.1, hdc_0.2, hdd_0⟩) ⟨Nat.le_of_ble_eq_true rfl, Nat.le_of_ble_eq_true rfl⟩) ⟨fun a U g mk q => by obtain ⟨q0, qP, qK⟩ := q; exact ⟨q0, qP, va_K.moved (u := U) (U := U.calling g mk a) (Vm.Alike.refl U.vm) qK⟩, va_recv hKc hPc (ci := 1) (q0 := 0) rfl rfl, fun U hU hW => ⟨rfl, by rw [hU]; exact hPc, va_K.moved hW.alike hKc⟩⟩ rfl rfl hl.1 rfl (lv_room (Nat.le_of_ble_eq_true rfl)) dX1_yearOf_117 ⟨Nat.le_of_ble_eq_true rfl, Nat.le_of_ble_eq_true rfl⟩) (fun r_26 hw => ?_)
                try dsimp only at hw
                have hq_r_26 : r_26 = fl_beginOf fi gr fr (((lo + hg) + 1) / 2) := hw
                refine lv_lload_n hx hb dX1_yearOf_120 rfl (lv_at hl 5 rfl) ?_
                refine W.lcmp hx hb dX1_yearOf_121 ?_
                refine lv_if_gt (tgt := 131) hx hb dX1_yearOf_122 (by decide) (fun c_27 => ?_) (fun c_27 => ?_)
                · refine lv_lload hx hb dX1_yearOf_131 (lv_at hl 0 rfl) ?_
                  refine lv_lconst (v := 1) hx hb dX1_yearOf_133 (by decide) ?_
                  refine lv_lsub hx hb dX1_yearOf_134 ?_
                  refine lv_lstore (lv' := [(5, .long ((((lo + hg) + 1) / 2) - 1)), (8, .long (((lo + hg) + 1) / 2)), (7, .int (nI i)), (3, .long lo), (0, .ref la), (1, .long a0)]) hx hb dX1_yearOf_135 hl (by decide) rfl (fun ls hl => ?_)
                  refine lv_iinc (v := ((nI i) + 1)) (lv' := [(7, .int ((nI i) + 1)), (5, .long ((((lo + hg) + 1) / 2) - 1)), (8, .long (((lo + hg) + 1) / 2)), (3, .long lo), (0, .ref la), (1, .long a0)]) hx hb dX1_yearOf_137 hl (k := 2) rfl (rfl) (by decide) rfl (fun ls hl => ?_)
                  refine lv_goto (tgt := 88) hx hb dX1_yearOf_140 (by decide) ?_
                  have hl : lv_has ls 10 [(7, .int (nI (i + 1))), (3, .long lo), (5, .long ((((lo + hg) + 1) / 2) - 1)), (0, .ref la), (1, .long a0)] := by rw [← nI_1]; exact lv_sub hl [0, 3, 1, 4, 5] rfl
                  exact ih (i + 1) lo ((((lo + hg) + 1) / 2) - 1) (by omega) (hI.trans (by rw [fl_yearOf_L]; (try rw [← hq_r_26]); (try rw [if_neg c_25]); (try rw [if_pos c_27]); try rfl)) ls hl
                · refine lv_lload hx hb dX1_yearOf_125 (lv_at hl 0 rfl) ?_
                  refine lv_lstore_n (lv' := [(3, .long (((lo + hg) + 1) / 2)), (8, .long (((lo + hg) + 1) / 2)), (7, .int (nI i)), (5, .long hg), (0, .ref la), (1, .long a0)]) hx hb dX1_yearOf_127 rfl hl (by decide) rfl (fun ls hl => ?_)
                  refine lv_goto (tgt := 137) hx hb dX1_yearOf_128 (by decide) ?_
                  refine lv_iinc (v := ((nI i) + 1)) (lv' := [(7, .int ((nI i) + 1)), (3, .long (((lo + hg) + 1) / 2)), (8, .long (((lo + hg) + 1) / 2)), (5, .long hg), (0, .ref la), (1, .long a0)]) hx hb dX1_yearOf_137 hl (k := 2) rfl (rfl) (by decide) rfl (fun ls hl => ?_)
                  refine lv_goto (tgt := 88) hx hb dX1_yearOf_140 (by decide) ?_
                  have hl : lv_has ls 10 [(7, .int (nI (i + 1))), (3, .long (((lo + hg) + 1) / 2)), (5, .long hg), (0, .ref la), (1, .long a0)] := by rw [← nI_1]; exact lv_sub hl [0, 1, 3, 4, 5] rfl
                  exact ih (i + 1) (((lo + hg) + 1) / 2) hg (by omega) (hI.trans (by rw [fl_yearOf_L]; (try rw [← hq_r_26]); (try rw [if_neg c_25]); (try rw [if_neg c_27]); try rfl)) ls hl
          exact hloop_22 64 0 1 1500000 rfl (by rw [fl_yearOf]; (try rw [if_pos c_1]); (try rw [if_neg c_2]); (try rw [if_neg c_3]); (try rw [if_pos c_21]); try rfl) ls (lv_sub hl [0, 2, 1, 3, 4] rfl)
        · refine lv_lload_n hx hb dX1_yearOf_65 rfl (lv_at hl 3 rfl) ?_
          refine lv_aload_n hx hb dX1_yearOf_66 rfl (lv_at hl 2 rfl) ?_
          refine lv_lload hx hb dX1_yearOf_67 (lv_at hl 0 rfl) ?_
          have hPc := hP.sub (ws' := [(eO1a la fi gr fr)]) [0] rfl
          have hKc := hK.sub (tys' := []) [] rfl
          refine vp_callSl (W.runV (As := [.long 1500000]) (rest := [.long a0]) ⟨hx, hb, hml, hown, htw⟩ (gl_beginOf l dC dI la fi gr fr (1500000 : Int64)) (cwV 1 htw (xg_V (ck_21 _ (List.mem_of_getElem? (i := 20) rfl)) (ck_21 _ (List.mem_of_getElem? (i := 21) rfl)) (ck_21 _ (List.mem_of_getElem? (i := 22) rfl)) (ck_6 _ (List.mem_of_getElem? (i := 19) rfl)) (ck_21 _ (List.mem_of_getElem? (i := 23) rfl))) rfl rfl rfl (by exact ⟨rfl, hdc_0.1, hdc_0.2, hdd_0⟩) ⟨Nat.le_of_ble_eq_true rfl, Nat.le_of_ble_eq_true rfl⟩) ⟨fun a U g mk q => by obtain ⟨q0, qP, qK⟩ := q; exact ⟨q0, qP, va_K.moved (u := U) (U := U.calling g mk a) (Vm.Alike.refl U.vm) qK⟩, va_recv hKc hPc (ci := 1) (q0 := 0) rfl rfl, fun U hU hW => ⟨rfl, by rw [hU]; exact hPc, va_K.moved hW.alike hKc⟩⟩ rfl rfl hl.1 rfl (lv_room (Nat.le_of_ble_eq_true rfl)) dX1_yearOf_69 ⟨Nat.le_of_ble_eq_true rfl, Nat.le_of_ble_eq_true rfl⟩) (fun r_28 hw => ?_)
          try dsimp only at hw
          have hq_r_28 : r_28 = fl_beginOf fi gr fr (1500000 : Int64) := hw
          refine lv_aload_n hx hb dX1_yearOf_72 rfl (lv_at hl 2 rfl) ?_
          refine lv_lload hx hb dX1_yearOf_73 (lv_at hl 0 rfl) ?_
          have hPc := hP.sub (ws' := [(eO1a la fi gr fr)]) [0] rfl
          have hKc := hK.sub (tys' := []) [] rfl
          refine vp_callSl (W.runV (As := [.long 1500000]) (rest := [.long r_28, .long a0]) ⟨hx, hb, hml, hown, htw⟩ (gl_lengthOf l dC dI la fi gr fr (1500000 : Int64)) (cwV 1 htw (xg_V (ck_21 _ (List.mem_of_getElem? (i := 9) rfl)) (ck_21 _ (List.mem_of_getElem? (i := 10) rfl)) (ck_21 _ (List.mem_of_getElem? (i := 11) rfl)) (ck_6 _ (List.mem_of_getElem? (i := 19) rfl)) (ck_21 _ (List.mem_of_getElem? (i := 12) rfl))) rfl rfl rfl (by exact ⟨rfl, hdc_0.1, hdc_0.2, hdd_0⟩) ⟨Nat.le_of_ble_eq_true rfl, Nat.le_of_ble_eq_true rfl⟩) ⟨fun a U g mk q => by obtain ⟨q0, qP, qK⟩ := q; exact ⟨q0, qP, va_K.moved (u := U) (U := U.calling g mk a) (Vm.Alike.refl U.vm) qK⟩, va_recv hKc hPc (ci := 1) (q0 := 0) rfl rfl, fun U hU hW => ⟨rfl, by rw [hU]; exact hPc, va_K.moved hW.alike hKc⟩⟩ rfl rfl hl.1 rfl (lv_room (Nat.le_of_ble_eq_true rfl)) dX1_yearOf_75 ⟨Nat.le_of_ble_eq_true rfl, Nat.le_of_ble_eq_true rfl⟩) (fun r_29 hw => ?_)
          try dsimp only at hw
          have hq_r_29 : r_29 = fl_lengthOf fi gr fr (1500000 : Int64) := hw
          refine lv_ladd hx hb dX1_yearOf_78 ?_
          refine W.lcmp hx hb dX1_yearOf_79 ?_
          refine lv_if_lt (tgt := 85) hx hb dX1_yearOf_80 (by decide) (fun c_30 => ?_) (fun c_30 => ?_)
          · refine lv_iconst (v := 0) hx hb dX1_yearOf_85 (by decide) ?_
            refine lv_istore (lv' := [(7, .int 0), (5, .long 1500000), (3, .long 1), (0, .ref la), (1, .long a0)]) hx hb dX1_yearOf_86 hl (by decide) rfl (fun ls hl => ?_)
            have hloop_31 : ∀ (n i : Nat) (lo : Int64) (hg : Int64) (hi : i + n = 64) (hI : fl_yearOf fi gr fr a0 = fl_yearOf_L fi gr fr a0 n lo hg) (ls : Array Slot) (hl : lv_has ls 10 [(7, .int (nI i)), (3, .long lo), (5, .long hg), (0, .ref la), (1, .long a0)]), W p l e (headSpec (Cond.code yX1_yearOf cX1_yearOf 10 (some .long) :: wsL_law) ({ frames := 2, cells := 0, slots := 0, locals := 43 })).room s m ([.ref la, .long a0] : List Value).toArray below meth c s.heap [] 0 0 (MQ below (vp_Sl (fun r => r = fl_yearOf fi gr fr a0)) ([.ref la, .long a0] : List Value).toArray s 0 0 (fun _ => False)) (F0 m 88 ls []) := by
              intro n
              induction n with
              | zero =>
                intro i lo hg hi hI ls hl
                obtain rfl : i = 64 := by omega
                refine lv_iload hx hb dX1_yearOf_88 (lv_at hl 0 rfl) ?_
                refine lv_bipush (v := 64) hx hb dX1_yearOf_90 (by decide) ?_
                refine lv_icmp_ge (tgt := 143) hx hb dX1_yearOf_92 (by decide) (fun c_32 => ?_) (fun c_32 => absurd c_32 (fun h => h (by decide)))
                refine lv_lload_n hx hb dX1_yearOf_143 rfl (lv_at hl 1 rfl) ?_
                exact W.lret (v := lo) hx hb hr (fun t ht hW => ⟨lo, rfl, (hI.trans (by rw [fl_yearOf_L]; (try rw [← hq_r_28]); (try rw [← hq_r_29]); try rfl)).symm, ht⟩) (fun _ h => by cases h) dX1_yearOf_144
              | succ n ih =>
                intro i lo hg hi hI ls hl
                refine lv_iload hx hb dX1_yearOf_88 (lv_at hl 0 rfl) ?_
                refine lv_bipush (v := 64) hx hb dX1_yearOf_90 (by decide) ?_
                refine lv_icmp_ge (tgt := 143) hx hb dX1_yearOf_92 (by decide) (fun c_33 => absurd c_33 (nI_ge (a := i) (b := 64) (by omega) (by decide))) (fun c_33 => ?_)
                refine lv_lload_n hx hb dX1_yearOf_95 rfl (lv_at hl 1 rfl) ?_
                refine lv_lload hx hb dX1_yearOf_96 (lv_at hl 2 rfl) ?_
                refine W.lcmp hx hb dX1_yearOf_98 ?_
                refine lv_if_ge (tgt := 143) hx hb dX1_yearOf_99 (by decide) (fun c_34 => ?_) (fun c_34 => ?_)
                · refine lv_lload_n hx hb dX1_yearOf_143 rfl (lv_at hl 1 rfl) ?_
                  exact W.lret (v := lo) hx hb hr (fun t ht hW => ⟨lo, rfl, (hI.trans (by rw [fl_yearOf_L]; (try rw [← hq_r_28]); (try rw [← hq_r_29]); (try rw [if_pos c_34]); try rfl)).symm, ht⟩) (fun _ h => by cases h) dX1_yearOf_144
                · refine lv_lload_n hx hb dX1_yearOf_102 rfl (lv_at hl 1 rfl) ?_
                  refine lv_lload hx hb dX1_yearOf_103 (lv_at hl 2 rfl) ?_
                  refine lv_ladd hx hb dX1_yearOf_105 ?_
                  refine lv_lconst (v := 1) hx hb dX1_yearOf_106 (by decide) ?_
                  refine lv_ladd hx hb dX1_yearOf_107 ?_
                  refine lv_ldc2 (v := 2) hx hb hown (htw _ (ck_22 _ (List.mem_of_getElem? (i := 3) rfl))) dX1_yearOf_108 ?_
                  refine lv_ldiv hx hb dX1_yearOf_111 (by decide) ?_
                  refine lv_lstore (lv' := [(8, .long (((lo + hg) + 1) / 2)), (7, .int (nI i)), (3, .long lo), (5, .long hg), (0, .ref la), (1, .long a0)]) hx hb dX1_yearOf_112 hl (by decide) rfl (fun ls hl => ?_)
                  refine lv_aload_n hx hb dX1_yearOf_114 rfl (lv_at hl 4 rfl) ?_
                  refine lv_lload hx hb dX1_yearOf_115 (lv_at hl 0 rfl) ?_
                  have hPc := hP.sub (ws' := [(eO1a la fi gr fr)]) [0] rfl
                  have hKc := hK.sub (tys' := []) [] rfl
                  refine vp_callSl (W.runV (As := [.long (((lo + hg) + 1) / 2)]) (rest := []) ⟨hx, hb, hml, hown, htw⟩ (gl_beginOf l dC dI la fi gr fr (((lo + hg) + 1) / 2)) (cwV 1 htw (xg_V (ck_21 _ (List.mem_of_getElem? (i := 20) rfl)) (ck_21 _ (List.mem_of_getElem? (i := 21) rfl)) (ck_21 _ (List.mem_of_getElem? (i := 22) rfl)) (ck_6 _ (List.mem_of_getElem? (i := 19) rfl)) (ck_21 _ (List.mem_of_getElem? (i := 23) rfl))) rfl rfl rfl (by exact ⟨rfl, hdc_0.1, hdc_0.2, hdd_0⟩) ⟨Nat.le_of_ble_eq_true rfl, Nat.le_of_ble_eq_true rfl⟩) ⟨fun a U g mk q => by obtain ⟨q0, qP, qK⟩ := q; exact ⟨q0, qP, va_K.moved (u := U) (U := U.calling g mk a) (Vm.Alike.refl U.vm) qK⟩, va_recv hKc hPc (ci := 1) (q0 := 0) rfl rfl, fun U hU hW => ⟨rfl, by rw [hU]; exact hPc, va_K.moved hW.alike hKc⟩⟩ rfl rfl hl.1 rfl (lv_room (Nat.le_of_ble_eq_true rfl)) dX1_yearOf_117 ⟨Nat.le_of_ble_eq_true rfl, Nat.le_of_ble_eq_true rfl⟩) (fun r_35 hw => ?_)
                  try dsimp only at hw
                  have hq_r_35 : r_35 = fl_beginOf fi gr fr (((lo + hg) + 1) / 2) := hw
                  refine lv_lload_n hx hb dX1_yearOf_120 rfl (lv_at hl 5 rfl) ?_
                  refine W.lcmp hx hb dX1_yearOf_121 ?_
                  refine lv_if_gt (tgt := 131) hx hb dX1_yearOf_122 (by decide) (fun c_36 => ?_) (fun c_36 => ?_)
                  · refine lv_lload hx hb dX1_yearOf_131 (lv_at hl 0 rfl) ?_
                    refine lv_lconst (v := 1) hx hb dX1_yearOf_133 (by decide) ?_
                    refine lv_lsub hx hb dX1_yearOf_134 ?_
                    refine lv_lstore (lv' := [(5, .long ((((lo + hg) + 1) / 2) - 1)), (8, .long (((lo + hg) + 1) / 2)), (7, .int (nI i)), (3, .long lo), (0, .ref la), (1, .long a0)]) hx hb dX1_yearOf_135 hl (by decide) rfl (fun ls hl => ?_)
                    refine lv_iinc (v := ((nI i) + 1)) (lv' := [(7, .int ((nI i) + 1)), (5, .long ((((lo + hg) + 1) / 2) - 1)), (8, .long (((lo + hg) + 1) / 2)), (3, .long lo), (0, .ref la), (1, .long a0)]) hx hb dX1_yearOf_137 hl (k := 2) rfl (rfl) (by decide) rfl (fun ls hl => ?_)
                    refine lv_goto (tgt := 88) hx hb dX1_yearOf_140 (by decide) ?_
                    have hl : lv_has ls 10 [(7, .int (nI (i + 1))), (3, .long lo), (5, .long ((((lo + hg) + 1) / 2) - 1)), (0, .ref la), (1, .long a0)] := by rw [← nI_1]; exact lv_sub hl [0, 3, 1, 4, 5] rfl
                    exact ih (i + 1) lo ((((lo + hg) + 1) / 2) - 1) (by omega) (hI.trans (by rw [fl_yearOf_L]; (try rw [← hq_r_28]); (try rw [← hq_r_29]); (try rw [← hq_r_35]); (try rw [if_neg c_34]); (try rw [if_pos c_36]); try rfl)) ls hl
                  · refine lv_lload hx hb dX1_yearOf_125 (lv_at hl 0 rfl) ?_
                    refine lv_lstore_n (lv' := [(3, .long (((lo + hg) + 1) / 2)), (8, .long (((lo + hg) + 1) / 2)), (7, .int (nI i)), (5, .long hg), (0, .ref la), (1, .long a0)]) hx hb dX1_yearOf_127 rfl hl (by decide) rfl (fun ls hl => ?_)
                    refine lv_goto (tgt := 137) hx hb dX1_yearOf_128 (by decide) ?_
                    refine lv_iinc (v := ((nI i) + 1)) (lv' := [(7, .int ((nI i) + 1)), (3, .long (((lo + hg) + 1) / 2)), (8, .long (((lo + hg) + 1) / 2)), (5, .long hg), (0, .ref la), (1, .long a0)]) hx hb dX1_yearOf_137 hl (k := 2) rfl (rfl) (by decide) rfl (fun ls hl => ?_)
                    refine lv_goto (tgt := 88) hx hb dX1_yearOf_140 (by decide) ?_
                    have hl : lv_has ls 10 [(7, .int (nI (i + 1))), (3, .long (((lo + hg) + 1) / 2)), (5, .long hg), (0, .ref la), (1, .long a0)] := by rw [← nI_1]; exact lv_sub hl [0, 1, 3, 4, 5] rfl
                    exact ih (i + 1) (((lo + hg) + 1) / 2) hg (by omega) (hI.trans (by rw [fl_yearOf_L]; (try rw [← hq_r_28]); (try rw [← hq_r_29]); (try rw [← hq_r_35]); (try rw [if_neg c_34]); (try rw [if_neg c_36]); try rfl)) ls hl
            exact hloop_31 64 0 1 1500000 rfl (by rw [fl_yearOf]; (try rw [← hq_r_28]); (try rw [← hq_r_29]); (try rw [if_pos c_1]); (try rw [if_neg c_2]); (try rw [if_neg c_3]); (try rw [if_neg c_21]); (try rw [if_pos c_30]); try rfl) ls (lv_sub hl [0, 2, 1, 3, 4] rfl)
          · refine lv_lconst (v := 0) hx hb dX1_yearOf_83 (by decide) ?_
            exact W.lret (v := 0) hx hb hr (fun t ht hW => ⟨0, rfl, (by rw [fl_yearOf]; (try rw [← hq_r_28]); (try rw [← hq_r_29]); (try rw [if_pos c_1]); (try rw [if_neg c_2]); (try rw [if_neg c_3]); (try rw [if_neg c_21]); (try rw [if_neg c_30]); try rfl), ht⟩) (fun _ h => by cases h) dX1_yearOf_84
    · refine lv_lload_n hx hb dX1_yearOf_19 rfl (lv_at hl 1 rfl) ?_
      refine lv_aload_n hx hb dX1_yearOf_20 rfl (lv_at hl 0 rfl) ?_
      refine va_get (D := (dC, dI)) (ci := 1) (v := .int fr) (C := RX1) (T := TX1) (N := 3) hx hb htw inlX1 hown hK hP 0 rfl rfl 2 (by decide) (htw _ (ck_22 _ (List.mem_of_getElem? (i := 0) rfl))) (fun _ h9 => h9) rfl dX1_yearOf_21 ?_
      refine lv_i2l (v := fr.toInt64) hx hb dX1_yearOf_24 rfl ?_
      refine lv_lsub hx hb dX1_yearOf_25 ?_
      refine lv_aload_n hx hb dX1_yearOf_26 rfl (lv_at hl 0 rfl) ?_
      refine va_get (D := (dC, dI)) (ci := 1) (v := .int fi) (C := RX1) (T := TX1) (N := 3) hx hb htw inlX1 hown hK hP 0 rfl rfl 0 (by decide) (htw _ (ck_7 _ (List.mem_of_getElem? (i := 14) rfl))) (fun _ h9 => h9) rfl dX1_yearOf_27 ?_
      refine lv_i2l (v := fi.toInt64) hx hb dX1_yearOf_30 rfl ?_
      have hPc := hP.sub (ws' := []) [] rfl
      have hKc := hK.sub (tys' := []) [] rfl
      refine xg_nSl (va_runSN (As := [.long (a0 - fr.toInt64), .long fi.toInt64]) (rest := []) ⟨hx, hb, hml, hown, htw⟩ (gx_cut l dC dI (a0 - fr.toInt64) fi.toInt64) ⟨va_cnB 2 htw (xg_code (ck_35 _ (List.mem_of_getElem? (i := 20) rfl))) rfl rfl rfl (hNx.1) (htw _ (ck_1 _ (List.mem_of_getElem? (i := 2) rfl))) (by decide +kernel) ⟨Nat.le_of_ble_eq_true rfl, Nat.le_of_ble_eq_true rfl⟩, (htw _ (ck_35 _ (List.mem_of_getElem? (i := 19) rfl))), trivial⟩ ⟨fun a U g mk q => by obtain ⟨q0, qP, qK⟩ := q; exact ⟨q0, qP, va_K.moved (u := U) (U := U.calling g mk a) (Vm.Alike.refl U.vm) qK⟩, fun U hU hW => ⟨rfl, by rw [hU]; exact hPc, va_K.moved hW.alike hKc⟩⟩ rfl rfl hl.1 rfl (lv_room (Nat.le_of_ble_eq_true rfl)) dX1_yearOf_31 ⟨Nat.le_of_ble_eq_true rfl, Nat.le_of_ble_eq_true rfl⟩) (fun r_37 hw => ?_)
      try dsimp only at hw
      have hq_r_37 : r_37 = fx_cut (a0 - fr.toInt64) fi.toInt64 := hw
      refine lv_lconst (v := 1) hx hb dX1_yearOf_34 (by decide) ?_
      refine lv_ladd hx hb dX1_yearOf_35 ?_
      exact W.lret (v := (r_37 + 1)) hx hb hr (fun t ht hW => ⟨(r_37 + 1), rfl, (by rw [fl_yearOf]; (try rw [← hq_r_37]); (try rw [if_pos c_1]); (try rw [if_pos c_2]); try rfl), ht⟩) (fun _ h => by cases h) dX1_yearOf_36
  · refine lv_lconst (v := 0) hx hb dX1_yearOf_10 (by decide) ?_
    exact W.lret (v := 0) hx hb hr (fun t ht hW => ⟨0, rfl, (by rw [fl_yearOf]; (try rw [if_neg c_1]); try rfl), ht⟩) (fun _ h => by cases h) dX1_yearOf_11

def fs_springsBy (wd : Int32) (wf : Int32) (mp : Int32) (mb : Int32) (mo : Int32) (sp : Int32) (sb : Int32) (a0 : Int64) : Int64 := (if 0 ≤ lg_cmp a0 0 then ((fx_cut (a0 * sb.toInt64) sp.toInt64) + 1) else (0 : Int64))
theorem dX9_springsBy_0 : decode cX9_springsBy 0 = .ok (.lload_n 1, 1) := zk_31 (by decide +kernel)
theorem dX9_springsBy_1 : decode cX9_springsBy 1 = .ok (.lconst 0, 1) := zk_9 (by decide +kernel)
theorem dX9_springsBy_2 : decode cX9_springsBy 2 = .ok (.lcmp, 1) := zk_148 (by decide +kernel)
theorem dX9_springsBy_3 : decode cX9_springsBy 3 = .ok (.ifCond .ge 7, 3) := zk_156 (by decide +kernel)
theorem dX9_springsBy_10 : decode cX9_springsBy 10 = .ok (.lload_n 1, 1) := zk_31 (by decide +kernel)
theorem dX9_springsBy_11 : decode cX9_springsBy 11 = .ok (.aload_n 0, 1) := zk_42 (by decide +kernel)
theorem dX9_springsBy_12 : decode cX9_springsBy 12 = .ok (.getfield 28, 3) := zk_180 (by decide +kernel)
theorem dX9_springsBy_15 : decode cX9_springsBy 15 = .ok (.i2l, 1) := zk_133 (by decide +kernel)
theorem dX9_springsBy_16 : decode cX9_springsBy 16 = .ok (.lmul, 1) := zk_105 (by decide +kernel)
theorem dX9_springsBy_17 : decode cX9_springsBy 17 = .ok (.aload_n 0, 1) := zk_42 (by decide +kernel)
theorem dX9_springsBy_18 : decode cX9_springsBy 18 = .ok (.getfield 25, 3) := zk_180 (by decide +kernel)
theorem dX9_springsBy_21 : decode cX9_springsBy 21 = .ok (.i2l, 1) := zk_133 (by decide +kernel)
theorem dX9_springsBy_22 : decode cX9_springsBy 22 = .ok (.invokestatic 35, 3) := zk_184 (by decide +kernel)
theorem dX9_springsBy_25 : decode cX9_springsBy 25 = .ok (.lconst 1, 1) := zk_10 (by decide +kernel)
theorem dX9_springsBy_26 : decode cX9_springsBy 26 = .ok (.ladd, 1) := zk_97 (by decide +kernel)
theorem dX9_springsBy_27 : decode cX9_springsBy 27 = .ok (.lreturn, 1) := zk_173 (by decide +kernel)
theorem dX9_springsBy_6 : decode cX9_springsBy 6 = .ok (.lconst 0, 1) := zk_9 (by decide +kernel)
theorem dX9_springsBy_7 : decode cX9_springsBy 7 = .ok (.goto 20, 3) := zk_167 (by decide +kernel)
set_option maxHeartbeats 4000000 in
set_option maxRecDepth 100000 in
theorem gs_springsBy (l : Launch) (dC : Nat → ClassId) (dI : Nat → Nat → Nat) (sk : Nat) (wd : Int32) (wf : Int32) (mp : Int32) (mb : Int32) (mo : Int32) (sp : Int32) (sb : Int32) (a0 : Int64) : Met l yX9_springsBy (Cond.code yX9_springsBy cX9_springsBy 3 (some .long) :: wsL_law) ({ frames := 1, cells := 0, slots := 0, locals := 23 }) (va_Pc [.ref sk, .long a0] (fun U => va_P (dC, dI) vwCl [(eO9a sk wd wf mp mb mo sp sb)] U.heap ∧ va_K (dC, dI) vwCl [] U ∧ xN U)) (vp_Sl (fun r => r = fs_springsBy wd wf mp mb mo sp sb a0)) 0 0 (fun _ => False) := by
  refine Met.ofW (cc := cX9_springsBy) (maxL := 3) (ret := (some .long)) (by decide) rfl ?_
  intro p e s m args below meth c s₁ B hml hv
  obtain ⟨rfl, hP, hK, hNx⟩ := hv
  have hx := B.exec
  have hb := B.bytes
  have hr := B.returns
  have hts := atoms_spec (ws := Cond.code yX9_springsBy cX9_springsBy 3 (some .long) :: wsL_law) B.pre
  have htw : ∀ w ∈ wsL_law, w.before _ s = true := fun w h => hts w (List.mem_cons_of_mem _ h)
  have hown : s.vm.findClass RX9 = some m.cls := findClass_of_methodNamed B.named
  have hlocks := B.notSynchronized
  have hl := lv_entry ([.ref sk, .long a0]) (n := 3) (Nat.le_of_ble_eq_true rfl)
  rw [lg_entry_eq]
  generalize (lg_sl ([.ref sk, .long a0]) ++ List.replicate (3 - (lg_sl ([.ref sk, .long a0])).length) Slot.unset).toArray = ls at hl ⊢
  have hl : lv_has ls 3 [(0, .ref sk), (1, .long a0)] := hl
  refine lv_lload_n hx hb dX9_springsBy_0 rfl (lv_at hl 1 rfl) ?_
  refine lv_lconst (v := 0) hx hb dX9_springsBy_1 (by decide) ?_
  refine W.lcmp hx hb dX9_springsBy_2 ?_
  refine lv_if_ge (tgt := 10) hx hb dX9_springsBy_3 (by decide) (fun c_1 => ?_) (fun c_1 => ?_)
  · refine lv_lload_n hx hb dX9_springsBy_10 rfl (lv_at hl 1 rfl) ?_
    refine lv_aload_n hx hb dX9_springsBy_11 rfl (lv_at hl 0 rfl) ?_
    refine va_get (D := (dC, dI)) (ci := 9) (v := .int sb) (C := RX9) (T := TX9) (N := 7) hx hb htw inlX9 hown hK hP 0 rfl rfl 6 (by decide) (htw _ (ck_8 _ (List.mem_of_getElem? (i := 1) rfl))) (fun _ h9 => h9) rfl dX9_springsBy_12 ?_
    refine lv_i2l (v := sb.toInt64) hx hb dX9_springsBy_15 rfl ?_
    refine lv_lmul hx hb dX9_springsBy_16 ?_
    refine lv_aload_n hx hb dX9_springsBy_17 rfl (lv_at hl 0 rfl) ?_
    refine va_get (D := (dC, dI)) (ci := 9) (v := .int sp) (C := RX9) (T := TX9) (N := 7) hx hb htw inlX9 hown hK hP 0 rfl rfl 5 (by decide) (htw _ (ck_8 _ (List.mem_of_getElem? (i := 0) rfl))) (fun _ h9 => h9) rfl dX9_springsBy_18 ?_
    refine lv_i2l (v := sp.toInt64) hx hb dX9_springsBy_21 rfl ?_
    have hPc := hP.sub (ws' := []) [] rfl
    have hKc := hK.sub (tys' := []) [] rfl
    refine xg_nSl (va_runSN (As := [.long (a0 * sb.toInt64), .long sp.toInt64]) (rest := []) ⟨hx, hb, hml, hown, htw⟩ (gx_cut l dC dI (a0 * sb.toInt64) sp.toInt64) ⟨va_cnB 2 htw (xg_code (ck_35 _ (List.mem_of_getElem? (i := 20) rfl))) rfl rfl rfl (hNx.2) (htw _ (ck_1 _ (List.mem_of_getElem? (i := 2) rfl))) (by decide +kernel) ⟨Nat.le_of_ble_eq_true rfl, Nat.le_of_ble_eq_true rfl⟩, (htw _ (ck_35 _ (List.mem_of_getElem? (i := 19) rfl))), trivial⟩ ⟨fun a U g mk q => by obtain ⟨q0, qP, qK⟩ := q; exact ⟨q0, qP, va_K.moved (u := U) (U := U.calling g mk a) (Vm.Alike.refl U.vm) qK⟩, fun U hU hW => ⟨rfl, by rw [hU]; exact hPc, va_K.moved hW.alike hKc⟩⟩ rfl rfl hl.1 rfl (lv_room (Nat.le_of_ble_eq_true rfl)) dX9_springsBy_22 ⟨Nat.le_of_ble_eq_true rfl, Nat.le_of_ble_eq_true rfl⟩) (fun r_2 hw => ?_)
    try dsimp only at hw
    have hq_r_2 : r_2 = fx_cut (a0 * sb.toInt64) sp.toInt64 := hw
    refine lv_lconst (v := 1) hx hb dX9_springsBy_25 (by decide) ?_
    refine lv_ladd hx hb dX9_springsBy_26 ?_
    exact W.lret (v := (r_2 + 1)) hx hb hr (fun t ht hW => ⟨(r_2 + 1), rfl, (by rw [fs_springsBy]; (try rw [← hq_r_2]); (try rw [if_pos c_1]); try rfl), ht⟩) (fun _ h => by cases h) dX9_springsBy_27
  · refine lv_lconst (v := 0) hx hb dX9_springsBy_6 (by decide) ?_
    refine lv_goto (tgt := 27) hx hb dX9_springsBy_7 (by decide) ?_
    exact W.lret (v := 0) hx hb hr (fun t ht hW => ⟨0, rfl, (by rw [fs_springsBy]; (try rw [if_neg c_1]); try rfl), ht⟩) (fun _ h => by cases h) dX9_springsBy_27

def fl_endedBy (fi : Int32) (gr : Int32) (fr : Int32) (a0 : Int64) : Int64 := (if 0 ≤ lg_cmp (a0 + 1) fr.toInt64 then (if lg_cmp (fl_yearOf fi gr fr (a0 + 1)) 0 = 0 then (fl_lastYear fi gr fr) else ((fl_yearOf fi gr fr (a0 + 1)) - 1)) else (0 : Int64))
theorem dX1_endedBy_0 : decode cX1_endedBy 0 = .ok (.lload_n 1, 1) := zk_31 (by decide +kernel)
theorem dX1_endedBy_1 : decode cX1_endedBy 1 = .ok (.lconst 1, 1) := zk_10 (by decide +kernel)
theorem dX1_endedBy_2 : decode cX1_endedBy 2 = .ok (.ladd, 1) := zk_97 (by decide +kernel)
theorem dX1_endedBy_3 : decode cX1_endedBy 3 = .ok (.aload_n 0, 1) := zk_42 (by decide +kernel)
theorem dX1_endedBy_4 : decode cX1_endedBy 4 = .ok (.getfield 28, 3) := zk_180 (by decide +kernel)
theorem dX1_endedBy_7 : decode cX1_endedBy 7 = .ok (.i2l, 1) := zk_133 (by decide +kernel)
theorem dX1_endedBy_8 : decode cX1_endedBy 8 = .ok (.lcmp, 1) := zk_148 (by decide +kernel)
theorem dX1_endedBy_9 : decode cX1_endedBy 9 = .ok (.ifCond .ge 5, 3) := zk_156 (by decide +kernel)
theorem dX1_endedBy_14 : decode cX1_endedBy 14 = .ok (.aload_n 0, 1) := zk_42 (by decide +kernel)
theorem dX1_endedBy_15 : decode cX1_endedBy 15 = .ok (.lload_n 1, 1) := zk_31 (by decide +kernel)
theorem dX1_endedBy_16 : decode cX1_endedBy 16 = .ok (.lconst 1, 1) := zk_10 (by decide +kernel)
theorem dX1_endedBy_17 : decode cX1_endedBy 17 = .ok (.ladd, 1) := zk_97 (by decide +kernel)
theorem dX1_endedBy_18 : decode cX1_endedBy 18 = .ok (.invokevirtual 52, 3) := zk_182 (by decide +kernel)
theorem dX1_endedBy_21 : decode cX1_endedBy 21 = .ok (.lstore_n 3, 1) := zk_66 (by decide +kernel)
theorem dX1_endedBy_22 : decode cX1_endedBy 22 = .ok (.lload_n 3, 1) := zk_33 (by decide +kernel)
theorem dX1_endedBy_23 : decode cX1_endedBy 23 = .ok (.lconst 0, 1) := zk_9 (by decide +kernel)
theorem dX1_endedBy_24 : decode cX1_endedBy 24 = .ok (.lcmp, 1) := zk_148 (by decide +kernel)
theorem dX1_endedBy_25 : decode cX1_endedBy 25 = .ok (.ifCond .ne 10, 3) := zk_154 (by decide +kernel)
theorem dX1_endedBy_35 : decode cX1_endedBy 35 = .ok (.lload_n 3, 1) := zk_33 (by decide +kernel)
theorem dX1_endedBy_36 : decode cX1_endedBy 36 = .ok (.lconst 1, 1) := zk_10 (by decide +kernel)
theorem dX1_endedBy_37 : decode cX1_endedBy 37 = .ok (.lsub, 1) := zk_101 (by decide +kernel)
theorem dX1_endedBy_38 : decode cX1_endedBy 38 = .ok (.lreturn, 1) := zk_173 (by decide +kernel)
theorem dX1_endedBy_28 : decode cX1_endedBy 28 = .ok (.aload_n 0, 1) := zk_42 (by decide +kernel)
theorem dX1_endedBy_29 : decode cX1_endedBy 29 = .ok (.invokevirtual 41, 3) := zk_182 (by decide +kernel)
theorem dX1_endedBy_32 : decode cX1_endedBy 32 = .ok (.goto 6, 3) := zk_167 (by decide +kernel)
theorem dX1_endedBy_12 : decode cX1_endedBy 12 = .ok (.lconst 0, 1) := zk_9 (by decide +kernel)
theorem dX1_endedBy_13 : decode cX1_endedBy 13 = .ok (.lreturn, 1) := zk_173 (by decide +kernel)
set_option maxHeartbeats 4000000 in
set_option maxRecDepth 100000 in
theorem gl_endedBy (l : Launch) (dC : Nat → ClassId) (dI : Nat → Nat → Nat) (la : Nat) (fi : Int32) (gr : Int32) (fr : Int32) (a0 : Int64) : Met l yX1_endedBy (Cond.code yX1_endedBy cX1_endedBy 5 (some .long) :: wsL_law) ({ frames := 3, cells := 0, slots := 0, locals := 72 }) (va_Pc [.ref la, .long a0] (fun U => va_P (dC, dI) vwCl [(eO1a la fi gr fr)] U.heap ∧ va_K (dC, dI) vwCl [] U ∧ xN U)) (vp_Sl (fun r => r = fl_endedBy fi gr fr a0)) 0 0 (fun _ => False) := by
  refine Met.ofW (cc := cX1_endedBy) (maxL := 5) (ret := (some .long)) (by decide) rfl ?_
  intro p e s m args below meth c s₁ B hml hv
  obtain ⟨rfl, hP, hK, hNx⟩ := hv
  have hx := B.exec
  have hb := B.bytes
  have hr := B.returns
  have hts := atoms_spec (ws := Cond.code yX1_endedBy cX1_endedBy 5 (some .long) :: wsL_law) B.pre
  have htw : ∀ w ∈ wsL_law, w.before _ s = true := fun w h => hts w (List.mem_cons_of_mem _ h)
  have hown : s.vm.findClass RX1 = some m.cls := findClass_of_methodNamed B.named
  have hlocks := B.notSynchronized
  have hl := lv_entry ([.ref la, .long a0]) (n := 5) (Nat.le_of_ble_eq_true rfl)
  rw [lg_entry_eq]
  generalize (lg_sl ([.ref la, .long a0]) ++ List.replicate (5 - (lg_sl ([.ref la, .long a0])).length) Slot.unset).toArray = ls at hl ⊢
  have hl : lv_has ls 5 [(0, .ref la), (1, .long a0)] := hl
  refine lv_lload_n hx hb dX1_endedBy_0 rfl (lv_at hl 1 rfl) ?_
  refine lv_lconst (v := 1) hx hb dX1_endedBy_1 (by decide) ?_
  refine lv_ladd hx hb dX1_endedBy_2 ?_
  refine lv_aload_n hx hb dX1_endedBy_3 rfl (lv_at hl 0 rfl) ?_
  refine va_get (D := (dC, dI)) (ci := 1) (v := .int fr) (C := RX1) (T := TX1) (N := 3) hx hb htw inlX1 hown hK hP 0 rfl rfl 2 (by decide) (htw _ (ck_22 _ (List.mem_of_getElem? (i := 0) rfl))) (fun _ h9 => h9) rfl dX1_endedBy_4 ?_
  refine lv_i2l (v := fr.toInt64) hx hb dX1_endedBy_7 rfl ?_
  refine W.lcmp hx hb dX1_endedBy_8 ?_
  refine lv_if_ge (tgt := 14) hx hb dX1_endedBy_9 (by decide) (fun c_1 => ?_) (fun c_1 => ?_)
  · refine lv_aload_n hx hb dX1_endedBy_14 rfl (lv_at hl 0 rfl) ?_
    refine lv_lload_n hx hb dX1_endedBy_15 rfl (lv_at hl 1 rfl) ?_
    refine lv_lconst (v := 1) hx hb dX1_endedBy_16 (by decide) ?_
    refine lv_ladd hx hb dX1_endedBy_17 ?_
    have hPc := hP.sub (ws' := [(eO1a la fi gr fr)]) [0] rfl
    have hKc := hK.sub (tys' := []) [] rfl
    refine vp_callSl (W.runV (As := [.long (a0 + 1)]) (rest := []) ⟨hx, hb, hml, hown, htw⟩ (gl_yearOf l dC dI la fi gr fr (a0 + 1)) (cwV 1 htw (xg_V (ck_45 _ (List.mem_of_getElem? (i := 14) rfl)) (ck_35 _ (List.mem_of_getElem? (i := 16) rfl)) (ck_35 _ (List.mem_of_getElem? (i := 17) rfl)) (ck_6 _ (List.mem_of_getElem? (i := 19) rfl)) (ck_35 _ (List.mem_of_getElem? (i := 18) rfl))) rfl rfl rfl (by exact ⟨rfl, hdc_0.1, hdc_0.2, hdd_0⟩) ⟨Nat.le_of_ble_eq_true rfl, Nat.le_of_ble_eq_true rfl⟩) ⟨fun a U g mk q => by obtain ⟨q0, qP, qK, qx⟩ := q; exact ⟨q0, qP, va_K.moved (u := U) (U := U.calling g mk a) (Vm.Alike.refl U.vm) qK, xN.calling qx⟩, va_recv hKc hPc (ci := 1) (q0 := 0) rfl rfl, fun U hU hW => ⟨rfl, by rw [hU]; exact hPc, va_K.moved hW.alike hKc, xN.warm hW hNx⟩⟩ rfl rfl hl.1 rfl (lv_room (Nat.le_of_ble_eq_true rfl)) dX1_endedBy_18 ⟨Nat.le_of_ble_eq_true rfl, Nat.le_of_ble_eq_true rfl⟩) (fun r_2 hw => ?_)
    try dsimp only at hw
    have hq_r_2 : r_2 = fl_yearOf fi gr fr (a0 + 1) := hw
    refine lv_lstore_n (lv' := [(3, .long r_2), (0, .ref la), (1, .long a0)]) hx hb dX1_endedBy_21 rfl hl (by decide) rfl (fun ls hl => ?_)
    refine lv_lload_n hx hb dX1_endedBy_22 rfl (lv_at hl 0 rfl) ?_
    refine lv_lconst (v := 0) hx hb dX1_endedBy_23 (by decide) ?_
    refine W.lcmp hx hb dX1_endedBy_24 ?_
    refine lv_if_ne (tgt := 35) hx hb dX1_endedBy_25 (by decide) (fun c_3 => ?_) (fun c_3 => ?_)
    · refine lv_lload_n hx hb dX1_endedBy_35 rfl (lv_at hl 0 rfl) ?_
      refine lv_lconst (v := 1) hx hb dX1_endedBy_36 (by decide) ?_
      refine lv_lsub hx hb dX1_endedBy_37 ?_
      exact W.lret (v := (r_2 - 1)) hx hb hr (fun t ht hW => ⟨(r_2 - 1), rfl, (by rw [fl_endedBy]; (try rw [← hq_r_2]); (try rw [if_pos c_1]); (try rw [if_neg c_3]); try rfl), ht⟩) (fun _ h => by cases h) dX1_endedBy_38
    · refine lv_aload_n hx hb dX1_endedBy_28 rfl (lv_at hl 1 rfl) ?_
      have hPc := hP.sub (ws' := [(eO1a la fi gr fr)]) [0] rfl
      have hKc := hK.sub (tys' := []) [] rfl
      refine vp_callSl (W.runV (As := []) (rest := []) ⟨hx, hb, hml, hown, htw⟩ (gl_lastYear l dC dI la fi gr fr) (cwV 0 htw (xg_V (ck_35 _ (List.mem_of_getElem? (i := 21) rfl)) (ck_35 _ (List.mem_of_getElem? (i := 22) rfl)) (ck_35 _ (List.mem_of_getElem? (i := 23) rfl)) (ck_6 _ (List.mem_of_getElem? (i := 19) rfl)) (ck_36 _ (List.mem_of_getElem? (i := 0) rfl))) rfl rfl rfl (by exact ⟨rfl, hdc_0.1, hdc_0.2, hdd_3⟩) ⟨Nat.le_of_ble_eq_true rfl, Nat.le_of_ble_eq_true rfl⟩) ⟨fun a U g mk q => by obtain ⟨q0, qP, qK, qx⟩ := q; exact ⟨q0, qP, va_K.moved (u := U) (U := U.calling g mk a) (Vm.Alike.refl U.vm) qK, xN.calling qx⟩, va_recv hKc hPc (ci := 1) (q0 := 0) rfl rfl, fun U hU hW => ⟨rfl, by rw [hU]; exact hPc, va_K.moved hW.alike hKc, xN.warm hW hNx⟩⟩ rfl rfl hl.1 rfl (lv_room (Nat.le_of_ble_eq_true rfl)) dX1_endedBy_29 ⟨Nat.le_of_ble_eq_true rfl, Nat.le_of_ble_eq_true rfl⟩) (fun r_4 hw => ?_)
      try dsimp only at hw
      have hq_r_4 : r_4 = fl_lastYear fi gr fr := hw
      refine lv_goto (tgt := 38) hx hb dX1_endedBy_32 (by decide) ?_
      exact W.lret (v := r_4) hx hb hr (fun t ht hW => ⟨r_4, rfl, (by rw [fl_endedBy]; (try rw [← hq_r_2]); (try rw [← hq_r_4]); (try rw [if_pos c_1]); (try rw [if_pos c_3]); try rfl), ht⟩) (fun _ h => by cases h) dX1_endedBy_38
  · refine lv_lconst (v := 0) hx hb dX1_endedBy_12 (by decide) ?_
    exact W.lret (v := 0) hx hb hr (fun t ht hW => ⟨0, rfl, (by rw [fl_endedBy]; (try rw [if_neg c_1]); try rfl), ht⟩) (fun _ h => by cases h) dX1_endedBy_13

def fl_yearsKept (fi : Int32) (gr : Int32) (fr : Int32) (a0 : Int64) (a1 : Int64) : Int64 := (if lg_cmp (fl_yearOf fi gr fr a0) 0 = 0 then (-1 : Int64) else (if lg_cmp (fl_yearOf fi gr fr a1) 0 = 0 then (if 0 ≤ gr then (if ((fl_lastYear fi gr fr) - (fl_yearOf fi gr fr a0)) < 0 then 0 else ((fl_lastYear fi gr fr) - (fl_yearOf fi gr fr a0))) else (if ((if ((fx_cut (fi.toInt64 - ((a0 - (fl_beginOf fi gr fr (fl_yearOf fi gr fr a0))) + 1)) ((-gr).toInt64)) + 1) < (fl_lastYear fi gr fr) then ((fx_cut (fi.toInt64 - ((a0 - (fl_beginOf fi gr fr (fl_yearOf fi gr fr a0))) + 1)) ((-gr).toInt64)) + 1) else (fl_lastYear fi gr fr)) - (fl_yearOf fi gr fr a0)) < 0 then 0 else ((if ((fx_cut (fi.toInt64 - ((a0 - (fl_beginOf fi gr fr (fl_yearOf fi gr fr a0))) + 1)) ((-gr).toInt64)) + 1) < (fl_lastYear fi gr fr) then ((fx_cut (fi.toInt64 - ((a0 - (fl_beginOf fi gr fr (fl_yearOf fi gr fr a0))) + 1)) ((-gr).toInt64)) + 1) else (fl_lastYear fi gr fr)) - (fl_yearOf fi gr fr a0)))) else (if 0 ≤ lg_cmp ((a1 - (fl_beginOf fi gr fr (fl_yearOf fi gr fr a1))) + 1) ((a0 - (fl_beginOf fi gr fr (fl_yearOf fi gr fr a0))) + 1) then (if 0 ≤ gr then (if ((fl_yearOf fi gr fr a1) - (fl_yearOf fi gr fr a0)) < 0 then 0 else ((fl_yearOf fi gr fr a1) - (fl_yearOf fi gr fr a0))) else (if ((if ((fx_cut (fi.toInt64 - ((a0 - (fl_beginOf fi gr fr (fl_yearOf fi gr fr a0))) + 1)) ((-gr).toInt64)) + 1) < (fl_yearOf fi gr fr a1) then ((fx_cut (fi.toInt64 - ((a0 - (fl_beginOf fi gr fr (fl_yearOf fi gr fr a0))) + 1)) ((-gr).toInt64)) + 1) else (fl_yearOf fi gr fr a1)) - (fl_yearOf fi gr fr a0)) < 0 then 0 else ((if ((fx_cut (fi.toInt64 - ((a0 - (fl_beginOf fi gr fr (fl_yearOf fi gr fr a0))) + 1)) ((-gr).toInt64)) + 1) < (fl_yearOf fi gr fr a1) then ((fx_cut (fi.toInt64 - ((a0 - (fl_beginOf fi gr fr (fl_yearOf fi gr fr a0))) + 1)) ((-gr).toInt64)) + 1) else (fl_yearOf fi gr fr a1)) - (fl_yearOf fi gr fr a0)))) else (if 0 ≤ gr then (if (((fl_yearOf fi gr fr a1) - 1) - (fl_yearOf fi gr fr a0)) < 0 then 0 else (((fl_yearOf fi gr fr a1) - 1) - (fl_yearOf fi gr fr a0))) else (if ((if ((fx_cut (fi.toInt64 - ((a0 - (fl_beginOf fi gr fr (fl_yearOf fi gr fr a0))) + 1)) ((-gr).toInt64)) + 1) < ((fl_yearOf fi gr fr a1) - 1) then ((fx_cut (fi.toInt64 - ((a0 - (fl_beginOf fi gr fr (fl_yearOf fi gr fr a0))) + 1)) ((-gr).toInt64)) + 1) else ((fl_yearOf fi gr fr a1) - 1)) - (fl_yearOf fi gr fr a0)) < 0 then 0 else ((if ((fx_cut (fi.toInt64 - ((a0 - (fl_beginOf fi gr fr (fl_yearOf fi gr fr a0))) + 1)) ((-gr).toInt64)) + 1) < ((fl_yearOf fi gr fr a1) - 1) then ((fx_cut (fi.toInt64 - ((a0 - (fl_beginOf fi gr fr (fl_yearOf fi gr fr a0))) + 1)) ((-gr).toInt64)) + 1) else ((fl_yearOf fi gr fr a1) - 1)) - (fl_yearOf fi gr fr a0)))))))
theorem dX1_yearsKept_0 : decode cX1_yearsKept 0 = .ok (.aload_n 0, 1) := zk_42 (by decide +kernel)
theorem dX1_yearsKept_1 : decode cX1_yearsKept 1 = .ok (.lload_n 1, 1) := zk_31 (by decide +kernel)
theorem dX1_yearsKept_2 : decode cX1_yearsKept 2 = .ok (.invokevirtual 52, 3) := zk_182 (by decide +kernel)
theorem dX1_yearsKept_5 : decode cX1_yearsKept 5 = .ok (.lstore 5, 2) := zk_55 (by decide +kernel)
theorem dX1_yearsKept_7 : decode cX1_yearsKept 7 = .ok (.lload 5, 2) := zk_22 (by decide +kernel)
theorem dX1_yearsKept_9 : decode cX1_yearsKept 9 = .ok (.lconst 0, 1) := zk_9 (by decide +kernel)
theorem dX1_yearsKept_10 : decode cX1_yearsKept 10 = .ok (.lcmp, 1) := zk_148 (by decide +kernel)
theorem dX1_yearsKept_11 : decode cX1_yearsKept 11 = .ok (.ifCond .ne 7, 3) := zk_154 (by decide +kernel)
theorem dX1_yearsKept_18 : decode cX1_yearsKept 18 = .ok (.lload_n 1, 1) := zk_31 (by decide +kernel)
theorem dX1_yearsKept_19 : decode cX1_yearsKept 19 = .ok (.aload_n 0, 1) := zk_42 (by decide +kernel)
theorem dX1_yearsKept_20 : decode cX1_yearsKept 20 = .ok (.lload 5, 2) := zk_22 (by decide +kernel)
theorem dX1_yearsKept_22 : decode cX1_yearsKept 22 = .ok (.invokevirtual 45, 3) := zk_182 (by decide +kernel)
theorem dX1_yearsKept_25 : decode cX1_yearsKept 25 = .ok (.lsub, 1) := zk_101 (by decide +kernel)
theorem dX1_yearsKept_26 : decode cX1_yearsKept 26 = .ok (.lconst 1, 1) := zk_10 (by decide +kernel)
theorem dX1_yearsKept_27 : decode cX1_yearsKept 27 = .ok (.ladd, 1) := zk_97 (by decide +kernel)
theorem dX1_yearsKept_28 : decode cX1_yearsKept 28 = .ok (.lstore 7, 2) := zk_55 (by decide +kernel)
theorem dX1_yearsKept_30 : decode cX1_yearsKept 30 = .ok (.aload_n 0, 1) := zk_42 (by decide +kernel)
theorem dX1_yearsKept_31 : decode cX1_yearsKept 31 = .ok (.lload_n 3, 1) := zk_33 (by decide +kernel)
theorem dX1_yearsKept_32 : decode cX1_yearsKept 32 = .ok (.invokevirtual 52, 3) := zk_182 (by decide +kernel)
theorem dX1_yearsKept_35 : decode cX1_yearsKept 35 = .ok (.lstore 9, 2) := zk_55 (by decide +kernel)
theorem dX1_yearsKept_37 : decode cX1_yearsKept 37 = .ok (.lload 9, 2) := zk_22 (by decide +kernel)
theorem dX1_yearsKept_39 : decode cX1_yearsKept 39 = .ok (.lconst 0, 1) := zk_9 (by decide +kernel)
theorem dX1_yearsKept_40 : decode cX1_yearsKept 40 = .ok (.lcmp, 1) := zk_148 (by decide +kernel)
theorem dX1_yearsKept_41 : decode cX1_yearsKept 41 = .ok (.ifCond .ne 12, 3) := zk_154 (by decide +kernel)
theorem dX1_yearsKept_53 : decode cX1_yearsKept 53 = .ok (.lload_n 3, 1) := zk_33 (by decide +kernel)
theorem dX1_yearsKept_54 : decode cX1_yearsKept 54 = .ok (.aload_n 0, 1) := zk_42 (by decide +kernel)
theorem dX1_yearsKept_55 : decode cX1_yearsKept 55 = .ok (.lload 9, 2) := zk_22 (by decide +kernel)
theorem dX1_yearsKept_57 : decode cX1_yearsKept 57 = .ok (.invokevirtual 45, 3) := zk_182 (by decide +kernel)
theorem dX1_yearsKept_60 : decode cX1_yearsKept 60 = .ok (.lsub, 1) := zk_101 (by decide +kernel)
theorem dX1_yearsKept_61 : decode cX1_yearsKept 61 = .ok (.lconst 1, 1) := zk_10 (by decide +kernel)
theorem dX1_yearsKept_62 : decode cX1_yearsKept 62 = .ok (.ladd, 1) := zk_97 (by decide +kernel)
theorem dX1_yearsKept_63 : decode cX1_yearsKept 63 = .ok (.lload 7, 2) := zk_22 (by decide +kernel)
theorem dX1_yearsKept_65 : decode cX1_yearsKept 65 = .ok (.lcmp, 1) := zk_148 (by decide +kernel)
theorem dX1_yearsKept_66 : decode cX1_yearsKept 66 = .ok (.ifCond .ge 9, 3) := zk_156 (by decide +kernel)
theorem dX1_yearsKept_75 : decode cX1_yearsKept 75 = .ok (.aload_n 0, 1) := zk_42 (by decide +kernel)
theorem dX1_yearsKept_76 : decode cX1_yearsKept 76 = .ok (.getfield 25, 3) := zk_180 (by decide +kernel)
theorem dX1_yearsKept_79 : decode cX1_yearsKept 79 = .ok (.ifCond .ge 29, 3) := zk_156 (by decide +kernel)
theorem dX1_yearsKept_108 : decode cX1_yearsKept 108 = .ok (.lconst 0, 1) := zk_9 (by decide +kernel)
theorem dX1_yearsKept_109 : decode cX1_yearsKept 109 = .ok (.lload 9, 2) := zk_22 (by decide +kernel)
theorem dX1_yearsKept_111 : decode cX1_yearsKept 111 = .ok (.lload 5, 2) := zk_22 (by decide +kernel)
theorem dX1_yearsKept_113 : decode cX1_yearsKept 113 = .ok (.lsub, 1) := zk_101 (by decide +kernel)
theorem dX1_yearsKept_114 : decode cX1_yearsKept 114 = .ok (.invokestatic 60, 3) := zk_184 (by decide +kernel)
theorem dX1_yearsKept_117 : decode cX1_yearsKept 117 = .ok (.lreturn, 1) := zk_173 (by decide +kernel)
theorem dX1_yearsKept_82 : decode cX1_yearsKept 82 = .ok (.lload 9, 2) := zk_22 (by decide +kernel)
theorem dX1_yearsKept_84 : decode cX1_yearsKept 84 = .ok (.aload_n 0, 1) := zk_42 (by decide +kernel)
theorem dX1_yearsKept_85 : decode cX1_yearsKept 85 = .ok (.getfield 9, 3) := zk_180 (by decide +kernel)
theorem dX1_yearsKept_88 : decode cX1_yearsKept 88 = .ok (.i2l, 1) := zk_133 (by decide +kernel)
theorem dX1_yearsKept_89 : decode cX1_yearsKept 89 = .ok (.lload 7, 2) := zk_22 (by decide +kernel)
theorem dX1_yearsKept_91 : decode cX1_yearsKept 91 = .ok (.lsub, 1) := zk_101 (by decide +kernel)
theorem dX1_yearsKept_92 : decode cX1_yearsKept 92 = .ok (.aload_n 0, 1) := zk_42 (by decide +kernel)
theorem dX1_yearsKept_93 : decode cX1_yearsKept 93 = .ok (.getfield 25, 3) := zk_180 (by decide +kernel)
theorem dX1_yearsKept_96 : decode cX1_yearsKept 96 = .ok (.ineg, 1) := zk_116 (by decide +kernel)
theorem dX1_yearsKept_97 : decode cX1_yearsKept 97 = .ok (.i2l, 1) := zk_133 (by decide +kernel)
theorem dX1_yearsKept_98 : decode cX1_yearsKept 98 = .ok (.invokestatic 37, 3) := zk_184 (by decide +kernel)
theorem dX1_yearsKept_101 : decode cX1_yearsKept 101 = .ok (.lconst 1, 1) := zk_10 (by decide +kernel)
theorem dX1_yearsKept_102 : decode cX1_yearsKept 102 = .ok (.ladd, 1) := zk_97 (by decide +kernel)
theorem dX1_yearsKept_103 : decode cX1_yearsKept 103 = .ok (.invokestatic 55, 3) := zk_184 (by decide +kernel)
theorem dX1_yearsKept_106 : decode cX1_yearsKept 106 = .ok (.lstore 9, 2) := zk_55 (by decide +kernel)
theorem dX1_yearsKept_69 : decode cX1_yearsKept 69 = .ok (.lload 9, 2) := zk_22 (by decide +kernel)
theorem dX1_yearsKept_71 : decode cX1_yearsKept 71 = .ok (.lconst 1, 1) := zk_10 (by decide +kernel)
theorem dX1_yearsKept_72 : decode cX1_yearsKept 72 = .ok (.lsub, 1) := zk_101 (by decide +kernel)
theorem dX1_yearsKept_73 : decode cX1_yearsKept 73 = .ok (.lstore 9, 2) := zk_55 (by decide +kernel)
theorem dX1_yearsKept_44 : decode cX1_yearsKept 44 = .ok (.aload_n 0, 1) := zk_42 (by decide +kernel)
theorem dX1_yearsKept_45 : decode cX1_yearsKept 45 = .ok (.invokevirtual 41, 3) := zk_182 (by decide +kernel)
theorem dX1_yearsKept_48 : decode cX1_yearsKept 48 = .ok (.lstore 9, 2) := zk_55 (by decide +kernel)
theorem dX1_yearsKept_50 : decode cX1_yearsKept 50 = .ok (.goto 25, 3) := zk_167 (by decide +kernel)
theorem dX1_yearsKept_14 : decode cX1_yearsKept 14 = .ok (.ldc2_w 48, 3) := zk_20 (by decide +kernel)
theorem dX1_yearsKept_17 : decode cX1_yearsKept 17 = .ok (.lreturn, 1) := zk_173 (by decide +kernel)
set_option maxHeartbeats 4000000 in
set_option maxRecDepth 100000 in
theorem gl_yearsKept (l : Launch) (dC : Nat → ClassId) (dI : Nat → Nat → Nat) (la : Nat) (fi : Int32) (gr : Int32) (fr : Int32) (a0 : Int64) (a1 : Int64) : Met l yX1_yearsKept (Cond.code yX1_yearsKept cX1_yearsKept 11 (some .long) :: wsL_law) ({ frames := 3, cells := 0, slots := 0, locals := 72 }) (va_Pc [.ref la, .long a0, .long a1] (fun U => va_P (dC, dI) vwCl [(eO1a la fi gr fr)] U.heap ∧ va_K (dC, dI) vwCl [] U ∧ xN U)) (vp_Sl (fun r => r = fl_yearsKept fi gr fr a0 a1)) 0 0 (fun _ => False) := by
  refine Met.ofW (cc := cX1_yearsKept) (maxL := 11) (ret := (some .long)) (by decide) rfl ?_
  intro p e s m args below meth c s₁ B hml hv
  obtain ⟨rfl, hP, hK, hNx⟩ := hv
  have hx := B.exec
  have hb := B.bytes
  have hr := B.returns
  have hts := atoms_spec (ws := Cond.code yX1_yearsKept cX1_yearsKept 11 (some .long) :: wsL_law) B.pre
  have htw : ∀ w ∈ wsL_law, w.before _ s = true := fun w h => hts w (List.mem_cons_of_mem _ h)
  have hown : s.vm.findClass RX1 = some m.cls := findClass_of_methodNamed B.named
  have hlocks := B.notSynchronized
  have hl := lv_entry ([.ref la, .long a0, .long a1]) (n := 11) (Nat.le_of_ble_eq_true rfl)
  rw [lg_entry_eq]
  generalize (lg_sl ([.ref la, .long a0, .long a1]) ++ List.replicate (11 - (lg_sl ([.ref la, .long a0, .long a1])).length) Slot.unset).toArray = ls at hl ⊢
  have hl : lv_has ls 11 [(0, .ref la), (1, .long a0), (3, .long a1)] := hl
  refine lv_aload_n hx hb dX1_yearsKept_0 rfl (lv_at hl 0 rfl) ?_
  refine lv_lload_n hx hb dX1_yearsKept_1 rfl (lv_at hl 1 rfl) ?_
  have hPc := hP.sub (ws' := [(eO1a la fi gr fr)]) [0] rfl
  have hKc := hK.sub (tys' := []) [] rfl
  refine vp_callSl (W.runV (As := [.long a0]) (rest := []) ⟨hx, hb, hml, hown, htw⟩ (gl_yearOf l dC dI la fi gr fr a0) (cwV 1 htw (xg_V (ck_45 _ (List.mem_of_getElem? (i := 14) rfl)) (ck_35 _ (List.mem_of_getElem? (i := 16) rfl)) (ck_35 _ (List.mem_of_getElem? (i := 17) rfl)) (ck_6 _ (List.mem_of_getElem? (i := 19) rfl)) (ck_35 _ (List.mem_of_getElem? (i := 18) rfl))) rfl rfl rfl (by exact ⟨rfl, hdc_0.1, hdc_0.2, hdd_0⟩) ⟨Nat.le_of_ble_eq_true rfl, Nat.le_of_ble_eq_true rfl⟩) ⟨fun a U g mk q => by obtain ⟨q0, qP, qK, qx⟩ := q; exact ⟨q0, qP, va_K.moved (u := U) (U := U.calling g mk a) (Vm.Alike.refl U.vm) qK, xN.calling qx⟩, va_recv hKc hPc (ci := 1) (q0 := 0) rfl rfl, fun U hU hW => ⟨rfl, by rw [hU]; exact hPc, va_K.moved hW.alike hKc, xN.warm hW hNx⟩⟩ rfl rfl hl.1 rfl (lv_room (Nat.le_of_ble_eq_true rfl)) dX1_yearsKept_2 ⟨Nat.le_of_ble_eq_true rfl, Nat.le_of_ble_eq_true rfl⟩) (fun r_1 hw => ?_)
  try dsimp only at hw
  have hq_r_1 : r_1 = fl_yearOf fi gr fr a0 := hw
  refine lv_lstore (lv' := [(5, .long r_1), (0, .ref la), (1, .long a0), (3, .long a1)]) hx hb dX1_yearsKept_5 hl (by decide) rfl (fun ls hl => ?_)
  refine lv_lload hx hb dX1_yearsKept_7 (lv_at hl 0 rfl) ?_
  refine lv_lconst (v := 0) hx hb dX1_yearsKept_9 (by decide) ?_
  refine W.lcmp hx hb dX1_yearsKept_10 ?_
  refine lv_if_ne (tgt := 18) hx hb dX1_yearsKept_11 (by decide) (fun c_2 => ?_) (fun c_2 => ?_)
  · refine lv_lload_n hx hb dX1_yearsKept_18 rfl (lv_at hl 2 rfl) ?_
    refine lv_aload_n hx hb dX1_yearsKept_19 rfl (lv_at hl 1 rfl) ?_
    refine lv_lload hx hb dX1_yearsKept_20 (lv_at hl 0 rfl) ?_
    have hPc := hP.sub (ws' := [(eO1a la fi gr fr)]) [0] rfl
    have hKc := hK.sub (tys' := []) [] rfl
    refine vp_callSl (W.runV (As := [.long r_1]) (rest := [.long a0]) ⟨hx, hb, hml, hown, htw⟩ (gl_beginOf l dC dI la fi gr fr r_1) (cwV 1 htw (xg_V (ck_21 _ (List.mem_of_getElem? (i := 20) rfl)) (ck_21 _ (List.mem_of_getElem? (i := 21) rfl)) (ck_21 _ (List.mem_of_getElem? (i := 22) rfl)) (ck_6 _ (List.mem_of_getElem? (i := 19) rfl)) (ck_21 _ (List.mem_of_getElem? (i := 23) rfl))) rfl rfl rfl (by exact ⟨rfl, hdc_0.1, hdc_0.2, hdd_0⟩) ⟨Nat.le_of_ble_eq_true rfl, Nat.le_of_ble_eq_true rfl⟩) ⟨fun a U g mk q => by obtain ⟨q0, qP, qK⟩ := q; exact ⟨q0, qP, va_K.moved (u := U) (U := U.calling g mk a) (Vm.Alike.refl U.vm) qK⟩, va_recv hKc hPc (ci := 1) (q0 := 0) rfl rfl, fun U hU hW => ⟨rfl, by rw [hU]; exact hPc, va_K.moved hW.alike hKc⟩⟩ rfl rfl hl.1 rfl (lv_room (Nat.le_of_ble_eq_true rfl)) dX1_yearsKept_22 ⟨Nat.le_of_ble_eq_true rfl, Nat.le_of_ble_eq_true rfl⟩) (fun r_3 hw => ?_)
    try dsimp only at hw
    have hq_r_3 : r_3 = fl_beginOf fi gr fr r_1 := hw
    refine lv_lsub hx hb dX1_yearsKept_25 ?_
    refine lv_lconst (v := 1) hx hb dX1_yearsKept_26 (by decide) ?_
    refine lv_ladd hx hb dX1_yearsKept_27 ?_
    refine lv_lstore (lv' := [(7, .long ((a0 - r_3) + 1)), (5, .long r_1), (0, .ref la), (1, .long a0), (3, .long a1)]) hx hb dX1_yearsKept_28 hl (by decide) rfl (fun ls hl => ?_)
    refine lv_aload_n hx hb dX1_yearsKept_30 rfl (lv_at hl 2 rfl) ?_
    refine lv_lload_n hx hb dX1_yearsKept_31 rfl (lv_at hl 4 rfl) ?_
    have hPc := hP.sub (ws' := [(eO1a la fi gr fr)]) [0] rfl
    have hKc := hK.sub (tys' := []) [] rfl
    refine vp_callSl (W.runV (As := [.long a1]) (rest := []) ⟨hx, hb, hml, hown, htw⟩ (gl_yearOf l dC dI la fi gr fr a1) (cwV 1 htw (xg_V (ck_45 _ (List.mem_of_getElem? (i := 14) rfl)) (ck_35 _ (List.mem_of_getElem? (i := 16) rfl)) (ck_35 _ (List.mem_of_getElem? (i := 17) rfl)) (ck_6 _ (List.mem_of_getElem? (i := 19) rfl)) (ck_35 _ (List.mem_of_getElem? (i := 18) rfl))) rfl rfl rfl (by exact ⟨rfl, hdc_0.1, hdc_0.2, hdd_0⟩) ⟨Nat.le_of_ble_eq_true rfl, Nat.le_of_ble_eq_true rfl⟩) ⟨fun a U g mk q => by obtain ⟨q0, qP, qK, qx⟩ := q; exact ⟨q0, qP, va_K.moved (u := U) (U := U.calling g mk a) (Vm.Alike.refl U.vm) qK, xN.calling qx⟩, va_recv hKc hPc (ci := 1) (q0 := 0) rfl rfl, fun U hU hW => ⟨rfl, by rw [hU]; exact hPc, va_K.moved hW.alike hKc, xN.warm hW hNx⟩⟩ rfl rfl hl.1 rfl (lv_room (Nat.le_of_ble_eq_true rfl)) dX1_yearsKept_32 ⟨Nat.le_of_ble_eq_true rfl, Nat.le_of_ble_eq_true rfl⟩) (fun r_4 hw => ?_)
    try dsimp only at hw
    have hq_r_4 : r_4 = fl_yearOf fi gr fr a1 := hw
    refine lv_lstore (lv' := [(9, .long r_4), (7, .long ((a0 - r_3) + 1)), (5, .long r_1), (0, .ref la), (1, .long a0), (3, .long a1)]) hx hb dX1_yearsKept_35 hl (by decide) rfl (fun ls hl => ?_)
    refine lv_lload hx hb dX1_yearsKept_37 (lv_at hl 0 rfl) ?_
    refine lv_lconst (v := 0) hx hb dX1_yearsKept_39 (by decide) ?_
    refine W.lcmp hx hb dX1_yearsKept_40 ?_
    refine lv_if_ne (tgt := 53) hx hb dX1_yearsKept_41 (by decide) (fun c_5 => ?_) (fun c_5 => ?_)
    · refine lv_lload_n hx hb dX1_yearsKept_53 rfl (lv_at hl 5 rfl) ?_
      refine lv_aload_n hx hb dX1_yearsKept_54 rfl (lv_at hl 3 rfl) ?_
      refine lv_lload hx hb dX1_yearsKept_55 (lv_at hl 0 rfl) ?_
      have hPc := hP.sub (ws' := [(eO1a la fi gr fr)]) [0] rfl
      have hKc := hK.sub (tys' := []) [] rfl
      refine vp_callSl (W.runV (As := [.long r_4]) (rest := [.long a1]) ⟨hx, hb, hml, hown, htw⟩ (gl_beginOf l dC dI la fi gr fr r_4) (cwV 1 htw (xg_V (ck_21 _ (List.mem_of_getElem? (i := 20) rfl)) (ck_21 _ (List.mem_of_getElem? (i := 21) rfl)) (ck_21 _ (List.mem_of_getElem? (i := 22) rfl)) (ck_6 _ (List.mem_of_getElem? (i := 19) rfl)) (ck_21 _ (List.mem_of_getElem? (i := 23) rfl))) rfl rfl rfl (by exact ⟨rfl, hdc_0.1, hdc_0.2, hdd_0⟩) ⟨Nat.le_of_ble_eq_true rfl, Nat.le_of_ble_eq_true rfl⟩) ⟨fun a U g mk q => by obtain ⟨q0, qP, qK⟩ := q; exact ⟨q0, qP, va_K.moved (u := U) (U := U.calling g mk a) (Vm.Alike.refl U.vm) qK⟩, va_recv hKc hPc (ci := 1) (q0 := 0) rfl rfl, fun U hU hW => ⟨rfl, by rw [hU]; exact hPc, va_K.moved hW.alike hKc⟩⟩ rfl rfl hl.1 rfl (lv_room (Nat.le_of_ble_eq_true rfl)) dX1_yearsKept_57 ⟨Nat.le_of_ble_eq_true rfl, Nat.le_of_ble_eq_true rfl⟩) (fun r_6 hw => ?_)
      try dsimp only at hw
      have hq_r_6 : r_6 = fl_beginOf fi gr fr r_4 := hw
      refine lv_lsub hx hb dX1_yearsKept_60 ?_
      refine lv_lconst (v := 1) hx hb dX1_yearsKept_61 (by decide) ?_
      refine lv_ladd hx hb dX1_yearsKept_62 ?_
      refine lv_lload hx hb dX1_yearsKept_63 (lv_at hl 1 rfl) ?_
      refine W.lcmp hx hb dX1_yearsKept_65 ?_
      refine lv_if_ge (tgt := 75) hx hb dX1_yearsKept_66 (by decide) (fun c_7 => ?_) (fun c_7 => ?_)
      · refine lv_aload_n hx hb dX1_yearsKept_75 rfl (lv_at hl 3 rfl) ?_
        refine va_get (D := (dC, dI)) (ci := 1) (v := .int gr) (C := RX1) (T := TX1) (N := 3) hx hb htw inlX1 hown hK hP 0 rfl rfl 1 (by decide) (htw _ (ck_21 _ (List.mem_of_getElem? (i := 13) rfl))) (fun _ h9 => h9) rfl dX1_yearsKept_76 ?_
        refine lv_if_ge (tgt := 108) hx hb dX1_yearsKept_79 (by decide) (fun c_8 => ?_) (fun c_8 => ?_)
        · refine lv_lconst (v := 0) hx hb dX1_yearsKept_108 (by decide) ?_
          refine lv_lload hx hb dX1_yearsKept_109 (lv_at hl 0 rfl) ?_
          refine lv_lload hx hb dX1_yearsKept_111 (lv_at hl 2 rfl) ?_
          refine lv_lsub hx hb dX1_yearsKept_113 ?_
          refine va_mmax_long hx hb (by rw [hml]; exact hl.1.symm) hown (htw _ (ck_45 _ (List.mem_of_getElem? (i := 11) rfl))) (htw _ (ck_45 _ (List.mem_of_getElem? (i := 12) rfl))) (htw _ (ck_14 _ (List.mem_of_getElem? (i := 8) rfl))) (htw _ (ck_45 _ (List.mem_of_getElem? (i := 13) rfl))) (Nat.le_of_ble_eq_true rfl) (Nat.le_of_ble_eq_true rfl) (Nat.le_of_ble_eq_true rfl) (Nat.le_of_ble_eq_true rfl) dX1_yearsKept_114 ?_
          exact W.lret (v := (if (r_4 - r_1) < 0 then 0 else (r_4 - r_1))) hx hb hr (fun t ht hW => ⟨(if (r_4 - r_1) < 0 then 0 else (r_4 - r_1)), rfl, (by rw [fl_yearsKept]; (try rw [← hq_r_1]); (try rw [← hq_r_3]); (try rw [← hq_r_4]); (try rw [← hq_r_6]); (try rw [if_neg c_2]); (try rw [if_neg c_5]); (try rw [if_pos c_7]); (try rw [if_pos c_8]); try rfl), ht⟩) (fun _ h => by cases h) dX1_yearsKept_117
        · refine lv_lload hx hb dX1_yearsKept_82 (lv_at hl 0 rfl) ?_
          refine lv_aload_n hx hb dX1_yearsKept_84 rfl (lv_at hl 3 rfl) ?_
          refine va_get (D := (dC, dI)) (ci := 1) (v := .int fi) (C := RX1) (T := TX1) (N := 3) hx hb htw inlX1 hown hK hP 0 rfl rfl 0 (by decide) (htw _ (ck_7 _ (List.mem_of_getElem? (i := 14) rfl))) (fun _ h9 => h9) rfl dX1_yearsKept_85 ?_
          refine lv_i2l (v := fi.toInt64) hx hb dX1_yearsKept_88 rfl ?_
          refine lv_lload hx hb dX1_yearsKept_89 (lv_at hl 1 rfl) ?_
          refine lv_lsub hx hb dX1_yearsKept_91 ?_
          refine lv_aload_n hx hb dX1_yearsKept_92 rfl (lv_at hl 3 rfl) ?_
          refine va_get (D := (dC, dI)) (ci := 1) (v := .int gr) (C := RX1) (T := TX1) (N := 3) hx hb htw inlX1 hown hK hP 0 rfl rfl 1 (by decide) (htw _ (ck_21 _ (List.mem_of_getElem? (i := 13) rfl))) (fun _ h9 => h9) rfl dX1_yearsKept_93 ?_
          refine lv_ineg hx hb dX1_yearsKept_96 ?_
          refine lv_i2l (v := (-gr).toInt64) hx hb dX1_yearsKept_97 rfl ?_
          have hPc := hP.sub (ws' := []) [] rfl
          have hKc := hK.sub (tys' := []) [] rfl
          refine xg_nSl (va_runSN (As := [.long (fi.toInt64 - ((a0 - r_3) + 1)), .long ((-gr).toInt64)]) (rest := [.long r_4]) ⟨hx, hb, hml, hown, htw⟩ (gx_cut l dC dI (fi.toInt64 - ((a0 - r_3) + 1)) ((-gr).toInt64)) ⟨va_cnB 2 htw (xg_code (ck_35 _ (List.mem_of_getElem? (i := 20) rfl))) rfl rfl rfl (hNx.1) (htw _ (ck_1 _ (List.mem_of_getElem? (i := 2) rfl))) (by decide +kernel) ⟨Nat.le_of_ble_eq_true rfl, Nat.le_of_ble_eq_true rfl⟩, (htw _ (ck_35 _ (List.mem_of_getElem? (i := 19) rfl))), trivial⟩ ⟨fun a U g mk q => by obtain ⟨q0, qP, qK⟩ := q; exact ⟨q0, qP, va_K.moved (u := U) (U := U.calling g mk a) (Vm.Alike.refl U.vm) qK⟩, fun U hU hW => ⟨rfl, by rw [hU]; exact hPc, va_K.moved hW.alike hKc⟩⟩ rfl rfl hl.1 rfl (lv_room (Nat.le_of_ble_eq_true rfl)) dX1_yearsKept_98 ⟨Nat.le_of_ble_eq_true rfl, Nat.le_of_ble_eq_true rfl⟩) (fun r_9 hw => ?_)
          try dsimp only at hw
          have hq_r_9 : r_9 = fx_cut (fi.toInt64 - ((a0 - r_3) + 1)) ((-gr).toInt64) := hw
          refine lv_lconst (v := 1) hx hb dX1_yearsKept_101 (by decide) ?_
          refine lv_ladd hx hb dX1_yearsKept_102 ?_
          refine va_mmin_long hx hb (by rw [hml]; exact hl.1.symm) hown (htw _ (ck_45 _ (List.mem_of_getElem? (i := 8) rfl))) (htw _ (ck_45 _ (List.mem_of_getElem? (i := 9) rfl))) (htw _ (ck_14 _ (List.mem_of_getElem? (i := 8) rfl))) (htw _ (ck_45 _ (List.mem_of_getElem? (i := 10) rfl))) (Nat.le_of_ble_eq_true rfl) (Nat.le_of_ble_eq_true rfl) (Nat.le_of_ble_eq_true rfl) (Nat.le_of_ble_eq_true rfl) dX1_yearsKept_103 ?_
          refine lv_lstore (lv' := [(9, .long (if (r_9 + 1) < r_4 then (r_9 + 1) else r_4)), (7, .long ((a0 - r_3) + 1)), (5, .long r_1), (0, .ref la), (1, .long a0), (3, .long a1)]) hx hb dX1_yearsKept_106 hl (by decide) rfl (fun ls hl => ?_)
          refine lv_lconst (v := 0) hx hb dX1_yearsKept_108 (by decide) ?_
          refine lv_lload hx hb dX1_yearsKept_109 (lv_at hl 0 rfl) ?_
          refine lv_lload hx hb dX1_yearsKept_111 (lv_at hl 2 rfl) ?_
          refine lv_lsub hx hb dX1_yearsKept_113 ?_
          refine va_mmax_long hx hb (by rw [hml]; exact hl.1.symm) hown (htw _ (ck_45 _ (List.mem_of_getElem? (i := 11) rfl))) (htw _ (ck_45 _ (List.mem_of_getElem? (i := 12) rfl))) (htw _ (ck_14 _ (List.mem_of_getElem? (i := 8) rfl))) (htw _ (ck_45 _ (List.mem_of_getElem? (i := 13) rfl))) (Nat.le_of_ble_eq_true rfl) (Nat.le_of_ble_eq_true rfl) (Nat.le_of_ble_eq_true rfl) (Nat.le_of_ble_eq_true rfl) dX1_yearsKept_114 ?_
          exact W.lret (v := (if ((if (r_9 + 1) < r_4 then (r_9 + 1) else r_4) - r_1) < 0 then 0 else ((if (r_9 + 1) < r_4 then (r_9 + 1) else r_4) - r_1))) hx hb hr (fun t ht hW => ⟨(if ((if (r_9 + 1) < r_4 then (r_9 + 1) else r_4) - r_1) < 0 then 0 else ((if (r_9 + 1) < r_4 then (r_9 + 1) else r_4) - r_1)), rfl, (by rw [fl_yearsKept]; (try rw [← hq_r_1]); (try rw [← hq_r_3]); (try rw [← hq_r_4]); (try rw [← hq_r_6]); (try rw [← hq_r_9]); (try rw [if_neg c_2]); (try rw [if_neg c_5]); (try rw [if_pos c_7]); (try rw [if_neg c_8]); try rfl), ht⟩) (fun _ h => by cases h) dX1_yearsKept_117
      · refine lv_lload hx hb dX1_yearsKept_69 (lv_at hl 0 rfl) ?_
        refine lv_lconst (v := 1) hx hb dX1_yearsKept_71 (by decide) ?_
        refine lv_lsub hx hb dX1_yearsKept_72 ?_
        refine lv_lstore (lv' := [(9, .long (r_4 - 1)), (7, .long ((a0 - r_3) + 1)), (5, .long r_1), (0, .ref la), (1, .long a0), (3, .long a1)]) hx hb dX1_yearsKept_73 hl (by decide) rfl (fun ls hl => ?_)
        refine lv_aload_n hx hb dX1_yearsKept_75 rfl (lv_at hl 3 rfl) ?_
        refine va_get (D := (dC, dI)) (ci := 1) (v := .int gr) (C := RX1) (T := TX1) (N := 3) hx hb htw inlX1 hown hK hP 0 rfl rfl 1 (by decide) (htw _ (ck_21 _ (List.mem_of_getElem? (i := 13) rfl))) (fun _ h9 => h9) rfl dX1_yearsKept_76 ?_
        refine lv_if_ge (tgt := 108) hx hb dX1_yearsKept_79 (by decide) (fun c_10 => ?_) (fun c_10 => ?_)
        · refine lv_lconst (v := 0) hx hb dX1_yearsKept_108 (by decide) ?_
          refine lv_lload hx hb dX1_yearsKept_109 (lv_at hl 0 rfl) ?_
          refine lv_lload hx hb dX1_yearsKept_111 (lv_at hl 2 rfl) ?_
          refine lv_lsub hx hb dX1_yearsKept_113 ?_
          refine va_mmax_long hx hb (by rw [hml]; exact hl.1.symm) hown (htw _ (ck_45 _ (List.mem_of_getElem? (i := 11) rfl))) (htw _ (ck_45 _ (List.mem_of_getElem? (i := 12) rfl))) (htw _ (ck_14 _ (List.mem_of_getElem? (i := 8) rfl))) (htw _ (ck_45 _ (List.mem_of_getElem? (i := 13) rfl))) (Nat.le_of_ble_eq_true rfl) (Nat.le_of_ble_eq_true rfl) (Nat.le_of_ble_eq_true rfl) (Nat.le_of_ble_eq_true rfl) dX1_yearsKept_114 ?_
          exact W.lret (v := (if ((r_4 - 1) - r_1) < 0 then 0 else ((r_4 - 1) - r_1))) hx hb hr (fun t ht hW => ⟨(if ((r_4 - 1) - r_1) < 0 then 0 else ((r_4 - 1) - r_1)), rfl, (by rw [fl_yearsKept]; (try rw [← hq_r_1]); (try rw [← hq_r_3]); (try rw [← hq_r_4]); (try rw [← hq_r_6]); (try rw [if_neg c_2]); (try rw [if_neg c_5]); (try rw [if_neg c_7]); (try rw [if_pos c_10]); try rfl), ht⟩) (fun _ h => by cases h) dX1_yearsKept_117
        · refine lv_lload hx hb dX1_yearsKept_82 (lv_at hl 0 rfl) ?_
          refine lv_aload_n hx hb dX1_yearsKept_84 rfl (lv_at hl 3 rfl) ?_
          refine va_get (D := (dC, dI)) (ci := 1) (v := .int fi) (C := RX1) (T := TX1) (N := 3) hx hb htw inlX1 hown hK hP 0 rfl rfl 0 (by decide) (htw _ (ck_7 _ (List.mem_of_getElem? (i := 14) rfl))) (fun _ h9 => h9) rfl dX1_yearsKept_85 ?_
          refine lv_i2l (v := fi.toInt64) hx hb dX1_yearsKept_88 rfl ?_
          refine lv_lload hx hb dX1_yearsKept_89 (lv_at hl 1 rfl) ?_
          refine lv_lsub hx hb dX1_yearsKept_91 ?_
          refine lv_aload_n hx hb dX1_yearsKept_92 rfl (lv_at hl 3 rfl) ?_
          refine va_get (D := (dC, dI)) (ci := 1) (v := .int gr) (C := RX1) (T := TX1) (N := 3) hx hb htw inlX1 hown hK hP 0 rfl rfl 1 (by decide) (htw _ (ck_21 _ (List.mem_of_getElem? (i := 13) rfl))) (fun _ h9 => h9) rfl dX1_yearsKept_93 ?_
          refine lv_ineg hx hb dX1_yearsKept_96 ?_
          refine lv_i2l (v := (-gr).toInt64) hx hb dX1_yearsKept_97 rfl ?_
          have hPc := hP.sub (ws' := []) [] rfl
          have hKc := hK.sub (tys' := []) [] rfl
          refine xg_nSl (va_runSN (As := [.long (fi.toInt64 - ((a0 - r_3) + 1)), .long ((-gr).toInt64)]) (rest := [.long (r_4 - 1)]) ⟨hx, hb, hml, hown, htw⟩ (gx_cut l dC dI (fi.toInt64 - ((a0 - r_3) + 1)) ((-gr).toInt64)) ⟨va_cnB 2 htw (xg_code (ck_35 _ (List.mem_of_getElem? (i := 20) rfl))) rfl rfl rfl (hNx.1) (htw _ (ck_1 _ (List.mem_of_getElem? (i := 2) rfl))) (by decide +kernel) ⟨Nat.le_of_ble_eq_true rfl, Nat.le_of_ble_eq_true rfl⟩, (htw _ (ck_35 _ (List.mem_of_getElem? (i := 19) rfl))), trivial⟩ ⟨fun a U g mk q => by obtain ⟨q0, qP, qK⟩ := q; exact ⟨q0, qP, va_K.moved (u := U) (U := U.calling g mk a) (Vm.Alike.refl U.vm) qK⟩, fun U hU hW => ⟨rfl, by rw [hU]; exact hPc, va_K.moved hW.alike hKc⟩⟩ rfl rfl hl.1 rfl (lv_room (Nat.le_of_ble_eq_true rfl)) dX1_yearsKept_98 ⟨Nat.le_of_ble_eq_true rfl, Nat.le_of_ble_eq_true rfl⟩) (fun r_11 hw => ?_)
          try dsimp only at hw
          have hq_r_11 : r_11 = fx_cut (fi.toInt64 - ((a0 - r_3) + 1)) ((-gr).toInt64) := hw
          refine lv_lconst (v := 1) hx hb dX1_yearsKept_101 (by decide) ?_
          refine lv_ladd hx hb dX1_yearsKept_102 ?_
          refine va_mmin_long hx hb (by rw [hml]; exact hl.1.symm) hown (htw _ (ck_45 _ (List.mem_of_getElem? (i := 8) rfl))) (htw _ (ck_45 _ (List.mem_of_getElem? (i := 9) rfl))) (htw _ (ck_14 _ (List.mem_of_getElem? (i := 8) rfl))) (htw _ (ck_45 _ (List.mem_of_getElem? (i := 10) rfl))) (Nat.le_of_ble_eq_true rfl) (Nat.le_of_ble_eq_true rfl) (Nat.le_of_ble_eq_true rfl) (Nat.le_of_ble_eq_true rfl) dX1_yearsKept_103 ?_
          refine lv_lstore (lv' := [(9, .long (if (r_11 + 1) < (r_4 - 1) then (r_11 + 1) else (r_4 - 1))), (7, .long ((a0 - r_3) + 1)), (5, .long r_1), (0, .ref la), (1, .long a0), (3, .long a1)]) hx hb dX1_yearsKept_106 hl (by decide) rfl (fun ls hl => ?_)
          refine lv_lconst (v := 0) hx hb dX1_yearsKept_108 (by decide) ?_
          refine lv_lload hx hb dX1_yearsKept_109 (lv_at hl 0 rfl) ?_
          refine lv_lload hx hb dX1_yearsKept_111 (lv_at hl 2 rfl) ?_
          refine lv_lsub hx hb dX1_yearsKept_113 ?_
          refine va_mmax_long hx hb (by rw [hml]; exact hl.1.symm) hown (htw _ (ck_45 _ (List.mem_of_getElem? (i := 11) rfl))) (htw _ (ck_45 _ (List.mem_of_getElem? (i := 12) rfl))) (htw _ (ck_14 _ (List.mem_of_getElem? (i := 8) rfl))) (htw _ (ck_45 _ (List.mem_of_getElem? (i := 13) rfl))) (Nat.le_of_ble_eq_true rfl) (Nat.le_of_ble_eq_true rfl) (Nat.le_of_ble_eq_true rfl) (Nat.le_of_ble_eq_true rfl) dX1_yearsKept_114 ?_
          exact W.lret (v := (if ((if (r_11 + 1) < (r_4 - 1) then (r_11 + 1) else (r_4 - 1)) - r_1) < 0 then 0 else ((if (r_11 + 1) < (r_4 - 1) then (r_11 + 1) else (r_4 - 1)) - r_1))) hx hb hr (fun t ht hW => ⟨(if ((if (r_11 + 1) < (r_4 - 1) then (r_11 + 1) else (r_4 - 1)) - r_1) < 0 then 0 else ((if (r_11 + 1) < (r_4 - 1) then (r_11 + 1) else (r_4 - 1)) - r_1)), rfl, (by rw [fl_yearsKept]; (try rw [← hq_r_1]); (try rw [← hq_r_3]); (try rw [← hq_r_4]); (try rw [← hq_r_6]); (try rw [← hq_r_11]); (try rw [if_neg c_2]); (try rw [if_neg c_5]); (try rw [if_neg c_7]); (try rw [if_neg c_10]); try rfl), ht⟩) (fun _ h => by cases h) dX1_yearsKept_117
    · refine lv_aload_n hx hb dX1_yearsKept_44 rfl (lv_at hl 3 rfl) ?_
      have hPc := hP.sub (ws' := [(eO1a la fi gr fr)]) [0] rfl
      have hKc := hK.sub (tys' := []) [] rfl
      refine vp_callSl (W.runV (As := []) (rest := []) ⟨hx, hb, hml, hown, htw⟩ (gl_lastYear l dC dI la fi gr fr) (cwV 0 htw (xg_V (ck_35 _ (List.mem_of_getElem? (i := 21) rfl)) (ck_35 _ (List.mem_of_getElem? (i := 22) rfl)) (ck_35 _ (List.mem_of_getElem? (i := 23) rfl)) (ck_6 _ (List.mem_of_getElem? (i := 19) rfl)) (ck_36 _ (List.mem_of_getElem? (i := 0) rfl))) rfl rfl rfl (by exact ⟨rfl, hdc_0.1, hdc_0.2, hdd_3⟩) ⟨Nat.le_of_ble_eq_true rfl, Nat.le_of_ble_eq_true rfl⟩) ⟨fun a U g mk q => by obtain ⟨q0, qP, qK, qx⟩ := q; exact ⟨q0, qP, va_K.moved (u := U) (U := U.calling g mk a) (Vm.Alike.refl U.vm) qK, xN.calling qx⟩, va_recv hKc hPc (ci := 1) (q0 := 0) rfl rfl, fun U hU hW => ⟨rfl, by rw [hU]; exact hPc, va_K.moved hW.alike hKc, xN.warm hW hNx⟩⟩ rfl rfl hl.1 rfl (lv_room (Nat.le_of_ble_eq_true rfl)) dX1_yearsKept_45 ⟨Nat.le_of_ble_eq_true rfl, Nat.le_of_ble_eq_true rfl⟩) (fun r_12 hw => ?_)
      try dsimp only at hw
      have hq_r_12 : r_12 = fl_lastYear fi gr fr := hw
      refine lv_lstore (lv' := [(9, .long r_12), (7, .long ((a0 - r_3) + 1)), (5, .long r_1), (0, .ref la), (1, .long a0), (3, .long a1)]) hx hb dX1_yearsKept_48 hl (by decide) rfl (fun ls hl => ?_)
      refine lv_goto (tgt := 75) hx hb dX1_yearsKept_50 (by decide) ?_
      refine lv_aload_n hx hb dX1_yearsKept_75 rfl (lv_at hl 3 rfl) ?_
      refine va_get (D := (dC, dI)) (ci := 1) (v := .int gr) (C := RX1) (T := TX1) (N := 3) hx hb htw inlX1 hown hK hP 0 rfl rfl 1 (by decide) (htw _ (ck_21 _ (List.mem_of_getElem? (i := 13) rfl))) (fun _ h9 => h9) rfl dX1_yearsKept_76 ?_
      refine lv_if_ge (tgt := 108) hx hb dX1_yearsKept_79 (by decide) (fun c_13 => ?_) (fun c_13 => ?_)
      · refine lv_lconst (v := 0) hx hb dX1_yearsKept_108 (by decide) ?_
        refine lv_lload hx hb dX1_yearsKept_109 (lv_at hl 0 rfl) ?_
        refine lv_lload hx hb dX1_yearsKept_111 (lv_at hl 2 rfl) ?_
        refine lv_lsub hx hb dX1_yearsKept_113 ?_
        refine va_mmax_long hx hb (by rw [hml]; exact hl.1.symm) hown (htw _ (ck_45 _ (List.mem_of_getElem? (i := 11) rfl))) (htw _ (ck_45 _ (List.mem_of_getElem? (i := 12) rfl))) (htw _ (ck_14 _ (List.mem_of_getElem? (i := 8) rfl))) (htw _ (ck_45 _ (List.mem_of_getElem? (i := 13) rfl))) (Nat.le_of_ble_eq_true rfl) (Nat.le_of_ble_eq_true rfl) (Nat.le_of_ble_eq_true rfl) (Nat.le_of_ble_eq_true rfl) dX1_yearsKept_114 ?_
        exact W.lret (v := (if (r_12 - r_1) < 0 then 0 else (r_12 - r_1))) hx hb hr (fun t ht hW => ⟨(if (r_12 - r_1) < 0 then 0 else (r_12 - r_1)), rfl, (by rw [fl_yearsKept]; (try rw [← hq_r_1]); (try rw [← hq_r_3]); (try rw [← hq_r_4]); (try rw [← hq_r_12]); (try rw [if_neg c_2]); (try rw [if_pos c_5]); (try rw [if_pos c_13]); try rfl), ht⟩) (fun _ h => by cases h) dX1_yearsKept_117
      · refine lv_lload hx hb dX1_yearsKept_82 (lv_at hl 0 rfl) ?_
        refine lv_aload_n hx hb dX1_yearsKept_84 rfl (lv_at hl 3 rfl) ?_
        refine va_get (D := (dC, dI)) (ci := 1) (v := .int fi) (C := RX1) (T := TX1) (N := 3) hx hb htw inlX1 hown hK hP 0 rfl rfl 0 (by decide) (htw _ (ck_7 _ (List.mem_of_getElem? (i := 14) rfl))) (fun _ h9 => h9) rfl dX1_yearsKept_85 ?_
        refine lv_i2l (v := fi.toInt64) hx hb dX1_yearsKept_88 rfl ?_
        refine lv_lload hx hb dX1_yearsKept_89 (lv_at hl 1 rfl) ?_
        refine lv_lsub hx hb dX1_yearsKept_91 ?_
        refine lv_aload_n hx hb dX1_yearsKept_92 rfl (lv_at hl 3 rfl) ?_
        refine va_get (D := (dC, dI)) (ci := 1) (v := .int gr) (C := RX1) (T := TX1) (N := 3) hx hb htw inlX1 hown hK hP 0 rfl rfl 1 (by decide) (htw _ (ck_21 _ (List.mem_of_getElem? (i := 13) rfl))) (fun _ h9 => h9) rfl dX1_yearsKept_93 ?_
        refine lv_ineg hx hb dX1_yearsKept_96 ?_
        refine lv_i2l (v := (-gr).toInt64) hx hb dX1_yearsKept_97 rfl ?_
        have hPc := hP.sub (ws' := []) [] rfl
        have hKc := hK.sub (tys' := []) [] rfl
        refine xg_nSl (va_runSN (As := [.long (fi.toInt64 - ((a0 - r_3) + 1)), .long ((-gr).toInt64)]) (rest := [.long r_12]) ⟨hx, hb, hml, hown, htw⟩ (gx_cut l dC dI (fi.toInt64 - ((a0 - r_3) + 1)) ((-gr).toInt64)) ⟨va_cnB 2 htw (xg_code (ck_35 _ (List.mem_of_getElem? (i := 20) rfl))) rfl rfl rfl (hNx.1) (htw _ (ck_1 _ (List.mem_of_getElem? (i := 2) rfl))) (by decide +kernel) ⟨Nat.le_of_ble_eq_true rfl, Nat.le_of_ble_eq_true rfl⟩, (htw _ (ck_35 _ (List.mem_of_getElem? (i := 19) rfl))), trivial⟩ ⟨fun a U g mk q => by obtain ⟨q0, qP, qK⟩ := q; exact ⟨q0, qP, va_K.moved (u := U) (U := U.calling g mk a) (Vm.Alike.refl U.vm) qK⟩, fun U hU hW => ⟨rfl, by rw [hU]; exact hPc, va_K.moved hW.alike hKc⟩⟩ rfl rfl hl.1 rfl (lv_room (Nat.le_of_ble_eq_true rfl)) dX1_yearsKept_98 ⟨Nat.le_of_ble_eq_true rfl, Nat.le_of_ble_eq_true rfl⟩) (fun r_14 hw => ?_)
        try dsimp only at hw
        have hq_r_14 : r_14 = fx_cut (fi.toInt64 - ((a0 - r_3) + 1)) ((-gr).toInt64) := hw
        refine lv_lconst (v := 1) hx hb dX1_yearsKept_101 (by decide) ?_
        refine lv_ladd hx hb dX1_yearsKept_102 ?_
        refine va_mmin_long hx hb (by rw [hml]; exact hl.1.symm) hown (htw _ (ck_45 _ (List.mem_of_getElem? (i := 8) rfl))) (htw _ (ck_45 _ (List.mem_of_getElem? (i := 9) rfl))) (htw _ (ck_14 _ (List.mem_of_getElem? (i := 8) rfl))) (htw _ (ck_45 _ (List.mem_of_getElem? (i := 10) rfl))) (Nat.le_of_ble_eq_true rfl) (Nat.le_of_ble_eq_true rfl) (Nat.le_of_ble_eq_true rfl) (Nat.le_of_ble_eq_true rfl) dX1_yearsKept_103 ?_
        refine lv_lstore (lv' := [(9, .long (if (r_14 + 1) < r_12 then (r_14 + 1) else r_12)), (7, .long ((a0 - r_3) + 1)), (5, .long r_1), (0, .ref la), (1, .long a0), (3, .long a1)]) hx hb dX1_yearsKept_106 hl (by decide) rfl (fun ls hl => ?_)
        refine lv_lconst (v := 0) hx hb dX1_yearsKept_108 (by decide) ?_
        refine lv_lload hx hb dX1_yearsKept_109 (lv_at hl 0 rfl) ?_
        refine lv_lload hx hb dX1_yearsKept_111 (lv_at hl 2 rfl) ?_
        refine lv_lsub hx hb dX1_yearsKept_113 ?_
        refine va_mmax_long hx hb (by rw [hml]; exact hl.1.symm) hown (htw _ (ck_45 _ (List.mem_of_getElem? (i := 11) rfl))) (htw _ (ck_45 _ (List.mem_of_getElem? (i := 12) rfl))) (htw _ (ck_14 _ (List.mem_of_getElem? (i := 8) rfl))) (htw _ (ck_45 _ (List.mem_of_getElem? (i := 13) rfl))) (Nat.le_of_ble_eq_true rfl) (Nat.le_of_ble_eq_true rfl) (Nat.le_of_ble_eq_true rfl) (Nat.le_of_ble_eq_true rfl) dX1_yearsKept_114 ?_
        exact W.lret (v := (if ((if (r_14 + 1) < r_12 then (r_14 + 1) else r_12) - r_1) < 0 then 0 else ((if (r_14 + 1) < r_12 then (r_14 + 1) else r_12) - r_1))) hx hb hr (fun t ht hW => ⟨(if ((if (r_14 + 1) < r_12 then (r_14 + 1) else r_12) - r_1) < 0 then 0 else ((if (r_14 + 1) < r_12 then (r_14 + 1) else r_12) - r_1)), rfl, (by rw [fl_yearsKept]; (try rw [← hq_r_1]); (try rw [← hq_r_3]); (try rw [← hq_r_4]); (try rw [← hq_r_12]); (try rw [← hq_r_14]); (try rw [if_neg c_2]); (try rw [if_pos c_5]); (try rw [if_neg c_13]); try rfl), ht⟩) (fun _ h => by cases h) dX1_yearsKept_117
  · refine lv_ldc2 (v := (-1)) hx hb hown (htw _ (ck_21 _ (List.mem_of_getElem? (i := 18) rfl))) dX1_yearsKept_14 ?_
    exact W.lret (v := (-1)) hx hb hr (fun t ht hW => ⟨(-1), rfl, (by rw [fl_yearsKept]; (try rw [← hq_r_1]); (try rw [if_pos c_2]); try rfl), ht⟩) (fun _ h => by cases h) dX1_yearsKept_17

def fl_yearsWithDay (fi : Int32) (gr : Int32) (fr : Int32) (a0 : Int64) (a1 : Int64) (a2 : Int64) : Int64 := (if lg_cmp a2 1000000000000 ≤ 0 then (if gr ≤ 0 then (if 0 ≤ gr then (if lg_cmp a2 fi.toInt64 ≤ 0 then (if ((a1 - a0) + 1) < 0 then 0 else ((a1 - a0) + 1)) else (0 : Int64)) else (if 0 < lg_cmp a2 fi.toInt64 then (if lg_cmp a2 fi.toInt64 ≤ 0 then (if ((a1 - a0) + 1) < 0 then 0 else ((a1 - a0) + 1)) else (0 : Int64)) else (if (((if ((fx_cut (fi.toInt64 - a2) ((-gr).toInt64)) + 1) < a1 then ((fx_cut (fi.toInt64 - a2) ((-gr).toInt64)) + 1) else a1) - a0) + 1) < 0 then 0 else (((if ((fx_cut (fi.toInt64 - a2) ((-gr).toInt64)) + 1) < a1 then ((fx_cut (fi.toInt64 - a2) ((-gr).toInt64)) + 1) else a1) - a0) + 1)))) else (if lg_cmp a2 fi.toInt64 ≤ 0 then (if 0 ≤ gr then (if ((a1 - a0) + 1) < 0 then 0 else ((a1 - a0) + 1)) else (if 0 < lg_cmp a2 fi.toInt64 then (if ((a1 - a0) + 1) < 0 then 0 else ((a1 - a0) + 1)) else (if (((if ((fx_cut (fi.toInt64 - a2) ((-gr).toInt64)) + 1) < a1 then ((fx_cut (fi.toInt64 - a2) ((-gr).toInt64)) + 1) else a1) - a0) + 1) < 0 then 0 else (((if ((fx_cut (fi.toInt64 - a2) ((-gr).toInt64)) + 1) < a1 then ((fx_cut (fi.toInt64 - a2) ((-gr).toInt64)) + 1) else a1) - a0) + 1)))) else (if ((a1 - (if ((fx_cut ((a2 - fi.toInt64) - 1) gr.toInt64) + 2) < a0 then a0 else ((fx_cut ((a2 - fi.toInt64) - 1) gr.toInt64) + 2))) + 1) < 0 then 0 else ((a1 - (if ((fx_cut ((a2 - fi.toInt64) - 1) gr.toInt64) + 2) < a0 then a0 else ((fx_cut ((a2 - fi.toInt64) - 1) gr.toInt64) + 2))) + 1)))) else (0 : Int64))
theorem dX1_yearsWithDay_0 : decode cX1_yearsWithDay 0 = .ok (.lload 5, 2) := zk_22 (by decide +kernel)
theorem dX1_yearsWithDay_2 : decode cX1_yearsWithDay 2 = .ok (.ldc2_w 50, 3) := zk_20 (by decide +kernel)
theorem dX1_yearsWithDay_5 : decode cX1_yearsWithDay 5 = .ok (.lcmp, 1) := zk_148 (by decide +kernel)
theorem dX1_yearsWithDay_6 : decode cX1_yearsWithDay 6 = .ok (.ifCond .le 5, 3) := zk_158 (by decide +kernel)
theorem dX1_yearsWithDay_11 : decode cX1_yearsWithDay 11 = .ok (.lload_n 1, 1) := zk_31 (by decide +kernel)
theorem dX1_yearsWithDay_12 : decode cX1_yearsWithDay 12 = .ok (.lstore 7, 2) := zk_55 (by decide +kernel)
theorem dX1_yearsWithDay_14 : decode cX1_yearsWithDay 14 = .ok (.lload_n 3, 1) := zk_33 (by decide +kernel)
theorem dX1_yearsWithDay_15 : decode cX1_yearsWithDay 15 = .ok (.lstore 9, 2) := zk_55 (by decide +kernel)
theorem dX1_yearsWithDay_17 : decode cX1_yearsWithDay 17 = .ok (.aload_n 0, 1) := zk_42 (by decide +kernel)
theorem dX1_yearsWithDay_18 : decode cX1_yearsWithDay 18 = .ok (.getfield 25, 3) := zk_180 (by decide +kernel)
theorem dX1_yearsWithDay_21 : decode cX1_yearsWithDay 21 = .ok (.ifCond .le 45, 3) := zk_158 (by decide +kernel)
theorem dX1_yearsWithDay_66 : decode cX1_yearsWithDay 66 = .ok (.aload_n 0, 1) := zk_42 (by decide +kernel)
theorem dX1_yearsWithDay_67 : decode cX1_yearsWithDay 67 = .ok (.getfield 25, 3) := zk_180 (by decide +kernel)
theorem dX1_yearsWithDay_70 : decode cX1_yearsWithDay 70 = .ok (.ifCond .ge 42, 3) := zk_156 (by decide +kernel)
theorem dX1_yearsWithDay_112 : decode cX1_yearsWithDay 112 = .ok (.lload 5, 2) := zk_22 (by decide +kernel)
theorem dX1_yearsWithDay_114 : decode cX1_yearsWithDay 114 = .ok (.aload_n 0, 1) := zk_42 (by decide +kernel)
theorem dX1_yearsWithDay_115 : decode cX1_yearsWithDay 115 = .ok (.getfield 9, 3) := zk_180 (by decide +kernel)
theorem dX1_yearsWithDay_118 : decode cX1_yearsWithDay 118 = .ok (.i2l, 1) := zk_133 (by decide +kernel)
theorem dX1_yearsWithDay_119 : decode cX1_yearsWithDay 119 = .ok (.lcmp, 1) := zk_148 (by decide +kernel)
theorem dX1_yearsWithDay_120 : decode cX1_yearsWithDay 120 = .ok (.ifCond .le 5, 3) := zk_158 (by decide +kernel)
theorem dX1_yearsWithDay_125 : decode cX1_yearsWithDay 125 = .ok (.lconst 0, 1) := zk_9 (by decide +kernel)
theorem dX1_yearsWithDay_126 : decode cX1_yearsWithDay 126 = .ok (.lload 9, 2) := zk_22 (by decide +kernel)
theorem dX1_yearsWithDay_128 : decode cX1_yearsWithDay 128 = .ok (.lload 7, 2) := zk_22 (by decide +kernel)
theorem dX1_yearsWithDay_130 : decode cX1_yearsWithDay 130 = .ok (.lsub, 1) := zk_101 (by decide +kernel)
theorem dX1_yearsWithDay_131 : decode cX1_yearsWithDay 131 = .ok (.lconst 1, 1) := zk_10 (by decide +kernel)
theorem dX1_yearsWithDay_132 : decode cX1_yearsWithDay 132 = .ok (.ladd, 1) := zk_97 (by decide +kernel)
theorem dX1_yearsWithDay_133 : decode cX1_yearsWithDay 133 = .ok (.invokestatic 60, 3) := zk_184 (by decide +kernel)
theorem dX1_yearsWithDay_136 : decode cX1_yearsWithDay 136 = .ok (.lreturn, 1) := zk_173 (by decide +kernel)
theorem dX1_yearsWithDay_123 : decode cX1_yearsWithDay 123 = .ok (.lconst 0, 1) := zk_9 (by decide +kernel)
theorem dX1_yearsWithDay_124 : decode cX1_yearsWithDay 124 = .ok (.lreturn, 1) := zk_173 (by decide +kernel)
theorem dX1_yearsWithDay_73 : decode cX1_yearsWithDay 73 = .ok (.lload 5, 2) := zk_22 (by decide +kernel)
theorem dX1_yearsWithDay_75 : decode cX1_yearsWithDay 75 = .ok (.aload_n 0, 1) := zk_42 (by decide +kernel)
theorem dX1_yearsWithDay_76 : decode cX1_yearsWithDay 76 = .ok (.getfield 9, 3) := zk_180 (by decide +kernel)
theorem dX1_yearsWithDay_79 : decode cX1_yearsWithDay 79 = .ok (.i2l, 1) := zk_133 (by decide +kernel)
theorem dX1_yearsWithDay_80 : decode cX1_yearsWithDay 80 = .ok (.lcmp, 1) := zk_148 (by decide +kernel)
theorem dX1_yearsWithDay_81 : decode cX1_yearsWithDay 81 = .ok (.ifCond .gt 31, 3) := zk_157 (by decide +kernel)
theorem dX1_yearsWithDay_84 : decode cX1_yearsWithDay 84 = .ok (.lload_n 3, 1) := zk_33 (by decide +kernel)
theorem dX1_yearsWithDay_85 : decode cX1_yearsWithDay 85 = .ok (.aload_n 0, 1) := zk_42 (by decide +kernel)
theorem dX1_yearsWithDay_86 : decode cX1_yearsWithDay 86 = .ok (.getfield 9, 3) := zk_180 (by decide +kernel)
theorem dX1_yearsWithDay_89 : decode cX1_yearsWithDay 89 = .ok (.i2l, 1) := zk_133 (by decide +kernel)
theorem dX1_yearsWithDay_90 : decode cX1_yearsWithDay 90 = .ok (.lload 5, 2) := zk_22 (by decide +kernel)
theorem dX1_yearsWithDay_92 : decode cX1_yearsWithDay 92 = .ok (.lsub, 1) := zk_101 (by decide +kernel)
theorem dX1_yearsWithDay_93 : decode cX1_yearsWithDay 93 = .ok (.aload_n 0, 1) := zk_42 (by decide +kernel)
theorem dX1_yearsWithDay_94 : decode cX1_yearsWithDay 94 = .ok (.getfield 25, 3) := zk_180 (by decide +kernel)
theorem dX1_yearsWithDay_97 : decode cX1_yearsWithDay 97 = .ok (.ineg, 1) := zk_116 (by decide +kernel)
theorem dX1_yearsWithDay_98 : decode cX1_yearsWithDay 98 = .ok (.i2l, 1) := zk_133 (by decide +kernel)
theorem dX1_yearsWithDay_99 : decode cX1_yearsWithDay 99 = .ok (.invokestatic 37, 3) := zk_184 (by decide +kernel)
theorem dX1_yearsWithDay_102 : decode cX1_yearsWithDay 102 = .ok (.lconst 1, 1) := zk_10 (by decide +kernel)
theorem dX1_yearsWithDay_103 : decode cX1_yearsWithDay 103 = .ok (.ladd, 1) := zk_97 (by decide +kernel)
theorem dX1_yearsWithDay_104 : decode cX1_yearsWithDay 104 = .ok (.invokestatic 55, 3) := zk_184 (by decide +kernel)
theorem dX1_yearsWithDay_107 : decode cX1_yearsWithDay 107 = .ok (.lstore 9, 2) := zk_55 (by decide +kernel)
theorem dX1_yearsWithDay_109 : decode cX1_yearsWithDay 109 = .ok (.goto 16, 3) := zk_167 (by decide +kernel)
theorem dX1_yearsWithDay_24 : decode cX1_yearsWithDay 24 = .ok (.lload 5, 2) := zk_22 (by decide +kernel)
theorem dX1_yearsWithDay_26 : decode cX1_yearsWithDay 26 = .ok (.aload_n 0, 1) := zk_42 (by decide +kernel)
theorem dX1_yearsWithDay_27 : decode cX1_yearsWithDay 27 = .ok (.getfield 9, 3) := zk_180 (by decide +kernel)
theorem dX1_yearsWithDay_30 : decode cX1_yearsWithDay 30 = .ok (.i2l, 1) := zk_133 (by decide +kernel)
theorem dX1_yearsWithDay_31 : decode cX1_yearsWithDay 31 = .ok (.lcmp, 1) := zk_148 (by decide +kernel)
theorem dX1_yearsWithDay_32 : decode cX1_yearsWithDay 32 = .ok (.ifCond .le 34, 3) := zk_158 (by decide +kernel)
theorem dX1_yearsWithDay_35 : decode cX1_yearsWithDay 35 = .ok (.lload_n 1, 1) := zk_31 (by decide +kernel)
theorem dX1_yearsWithDay_36 : decode cX1_yearsWithDay 36 = .ok (.lload 5, 2) := zk_22 (by decide +kernel)
theorem dX1_yearsWithDay_38 : decode cX1_yearsWithDay 38 = .ok (.aload_n 0, 1) := zk_42 (by decide +kernel)
theorem dX1_yearsWithDay_39 : decode cX1_yearsWithDay 39 = .ok (.getfield 9, 3) := zk_180 (by decide +kernel)
theorem dX1_yearsWithDay_42 : decode cX1_yearsWithDay 42 = .ok (.i2l, 1) := zk_133 (by decide +kernel)
theorem dX1_yearsWithDay_43 : decode cX1_yearsWithDay 43 = .ok (.lsub, 1) := zk_101 (by decide +kernel)
theorem dX1_yearsWithDay_44 : decode cX1_yearsWithDay 44 = .ok (.lconst 1, 1) := zk_10 (by decide +kernel)
theorem dX1_yearsWithDay_45 : decode cX1_yearsWithDay 45 = .ok (.lsub, 1) := zk_101 (by decide +kernel)
theorem dX1_yearsWithDay_46 : decode cX1_yearsWithDay 46 = .ok (.aload_n 0, 1) := zk_42 (by decide +kernel)
theorem dX1_yearsWithDay_47 : decode cX1_yearsWithDay 47 = .ok (.getfield 25, 3) := zk_180 (by decide +kernel)
theorem dX1_yearsWithDay_50 : decode cX1_yearsWithDay 50 = .ok (.i2l, 1) := zk_133 (by decide +kernel)
theorem dX1_yearsWithDay_51 : decode cX1_yearsWithDay 51 = .ok (.invokestatic 37, 3) := zk_184 (by decide +kernel)
theorem dX1_yearsWithDay_54 : decode cX1_yearsWithDay 54 = .ok (.ldc2_w 35, 3) := zk_20 (by decide +kernel)
theorem dX1_yearsWithDay_57 : decode cX1_yearsWithDay 57 = .ok (.ladd, 1) := zk_97 (by decide +kernel)
theorem dX1_yearsWithDay_58 : decode cX1_yearsWithDay 58 = .ok (.invokestatic 60, 3) := zk_184 (by decide +kernel)
theorem dX1_yearsWithDay_61 : decode cX1_yearsWithDay 61 = .ok (.lstore 7, 2) := zk_55 (by decide +kernel)
theorem dX1_yearsWithDay_63 : decode cX1_yearsWithDay 63 = .ok (.goto 62, 3) := zk_167 (by decide +kernel)
theorem dX1_yearsWithDay_9 : decode cX1_yearsWithDay 9 = .ok (.lconst 0, 1) := zk_9 (by decide +kernel)
theorem dX1_yearsWithDay_10 : decode cX1_yearsWithDay 10 = .ok (.lreturn, 1) := zk_173 (by decide +kernel)
set_option maxHeartbeats 4000000 in
set_option maxRecDepth 100000 in
theorem gl_yearsWithDay (l : Launch) (dC : Nat → ClassId) (dI : Nat → Nat → Nat) (la : Nat) (fi : Int32) (gr : Int32) (fr : Int32) (a0 : Int64) (a1 : Int64) (a2 : Int64) : Met l yX1_yearsWithDay (Cond.code yX1_yearsWithDay cX1_yearsWithDay 11 (some .long) :: wsL_law) ({ frames := 1, cells := 0, slots := 0, locals := 23 }) (va_Pc [.ref la, .long a0, .long a1, .long a2] (fun U => va_P (dC, dI) vwCl [(eO1a la fi gr fr)] U.heap ∧ va_K (dC, dI) vwCl [] U ∧ xN U)) (vp_Sl (fun r => r = fl_yearsWithDay fi gr fr a0 a1 a2)) 0 0 (fun _ => False) := by
  refine Met.ofW (cc := cX1_yearsWithDay) (maxL := 11) (ret := (some .long)) (by decide) rfl ?_
  intro p e s m args below meth c s₁ B hml hv
  obtain ⟨rfl, hP, hK, hNx⟩ := hv
  have hx := B.exec
  have hb := B.bytes
  have hr := B.returns
  have hts := atoms_spec (ws := Cond.code yX1_yearsWithDay cX1_yearsWithDay 11 (some .long) :: wsL_law) B.pre
  have htw : ∀ w ∈ wsL_law, w.before _ s = true := fun w h => hts w (List.mem_cons_of_mem _ h)
  have hown : s.vm.findClass RX1 = some m.cls := findClass_of_methodNamed B.named
  have hlocks := B.notSynchronized
  have hl := lv_entry ([.ref la, .long a0, .long a1, .long a2]) (n := 11) (Nat.le_of_ble_eq_true rfl)
  rw [lg_entry_eq]
  generalize (lg_sl ([.ref la, .long a0, .long a1, .long a2]) ++ List.replicate (11 - (lg_sl ([.ref la, .long a0, .long a1, .long a2])).length) Slot.unset).toArray = ls at hl ⊢
  have hl : lv_has ls 11 [(0, .ref la), (1, .long a0), (3, .long a1), (5, .long a2)] := hl
  refine lv_lload hx hb dX1_yearsWithDay_0 (lv_at hl 3 rfl) ?_
  refine lv_ldc2 (v := 1000000000000) hx hb hown (htw _ (ck_21 _ (List.mem_of_getElem? (i := 19) rfl))) dX1_yearsWithDay_2 ?_
  refine W.lcmp hx hb dX1_yearsWithDay_5 ?_
  refine lv_if_le (tgt := 11) hx hb dX1_yearsWithDay_6 (by decide) (fun c_1 => ?_) (fun c_1 => ?_)
  · refine lv_lload_n hx hb dX1_yearsWithDay_11 rfl (lv_at hl 1 rfl) ?_
    refine lv_lstore (lv' := [(7, .long a0), (0, .ref la), (1, .long a0), (3, .long a1), (5, .long a2)]) hx hb dX1_yearsWithDay_12 hl (by decide) rfl (fun ls hl => ?_)
    refine lv_lload_n hx hb dX1_yearsWithDay_14 rfl (lv_at hl 3 rfl) ?_
    refine lv_lstore (lv' := [(9, .long a1), (7, .long a0), (0, .ref la), (1, .long a0), (3, .long a1), (5, .long a2)]) hx hb dX1_yearsWithDay_15 hl (by decide) rfl (fun ls hl => ?_)
    refine lv_aload_n hx hb dX1_yearsWithDay_17 rfl (lv_at hl 2 rfl) ?_
    refine va_get (D := (dC, dI)) (ci := 1) (v := .int gr) (C := RX1) (T := TX1) (N := 3) hx hb htw inlX1 hown hK hP 0 rfl rfl 1 (by decide) (htw _ (ck_21 _ (List.mem_of_getElem? (i := 13) rfl))) (fun _ h9 => h9) rfl dX1_yearsWithDay_18 ?_
    refine lv_if_le (tgt := 66) hx hb dX1_yearsWithDay_21 (by decide) (fun c_2 => ?_) (fun c_2 => ?_)
    · refine lv_aload_n hx hb dX1_yearsWithDay_66 rfl (lv_at hl 2 rfl) ?_
      refine va_get (D := (dC, dI)) (ci := 1) (v := .int gr) (C := RX1) (T := TX1) (N := 3) hx hb htw inlX1 hown hK hP 0 rfl rfl 1 (by decide) (htw _ (ck_21 _ (List.mem_of_getElem? (i := 13) rfl))) (fun _ h9 => h9) rfl dX1_yearsWithDay_67 ?_
      refine lv_if_ge (tgt := 112) hx hb dX1_yearsWithDay_70 (by decide) (fun c_3 => ?_) (fun c_3 => ?_)
      · refine lv_lload hx hb dX1_yearsWithDay_112 (lv_at hl 5 rfl) ?_
        refine lv_aload_n hx hb dX1_yearsWithDay_114 rfl (lv_at hl 2 rfl) ?_
        refine va_get (D := (dC, dI)) (ci := 1) (v := .int fi) (C := RX1) (T := TX1) (N := 3) hx hb htw inlX1 hown hK hP 0 rfl rfl 0 (by decide) (htw _ (ck_7 _ (List.mem_of_getElem? (i := 14) rfl))) (fun _ h9 => h9) rfl dX1_yearsWithDay_115 ?_
        refine lv_i2l (v := fi.toInt64) hx hb dX1_yearsWithDay_118 rfl ?_
        refine W.lcmp hx hb dX1_yearsWithDay_119 ?_
        refine lv_if_le (tgt := 125) hx hb dX1_yearsWithDay_120 (by decide) (fun c_4 => ?_) (fun c_4 => ?_)
        · refine lv_lconst (v := 0) hx hb dX1_yearsWithDay_125 (by decide) ?_
          refine lv_lload hx hb dX1_yearsWithDay_126 (lv_at hl 0 rfl) ?_
          refine lv_lload hx hb dX1_yearsWithDay_128 (lv_at hl 1 rfl) ?_
          refine lv_lsub hx hb dX1_yearsWithDay_130 ?_
          refine lv_lconst (v := 1) hx hb dX1_yearsWithDay_131 (by decide) ?_
          refine lv_ladd hx hb dX1_yearsWithDay_132 ?_
          refine va_mmax_long hx hb (by rw [hml]; exact hl.1.symm) hown (htw _ (ck_45 _ (List.mem_of_getElem? (i := 11) rfl))) (htw _ (ck_45 _ (List.mem_of_getElem? (i := 12) rfl))) (htw _ (ck_14 _ (List.mem_of_getElem? (i := 8) rfl))) (htw _ (ck_45 _ (List.mem_of_getElem? (i := 13) rfl))) (Nat.le_of_ble_eq_true rfl) (Nat.le_of_ble_eq_true rfl) (Nat.le_of_ble_eq_true rfl) (Nat.le_of_ble_eq_true rfl) dX1_yearsWithDay_133 ?_
          exact W.lret (v := (if ((a1 - a0) + 1) < 0 then 0 else ((a1 - a0) + 1))) hx hb hr (fun t ht hW => ⟨(if ((a1 - a0) + 1) < 0 then 0 else ((a1 - a0) + 1)), rfl, (by rw [fl_yearsWithDay]; (try rw [if_pos c_1]); (try rw [if_pos c_2]); (try rw [if_pos c_3]); (try rw [if_pos c_4]); try rfl), ht⟩) (fun _ h => by cases h) dX1_yearsWithDay_136
        · refine lv_lconst (v := 0) hx hb dX1_yearsWithDay_123 (by decide) ?_
          exact W.lret (v := 0) hx hb hr (fun t ht hW => ⟨0, rfl, (by rw [fl_yearsWithDay]; (try rw [if_pos c_1]); (try rw [if_pos c_2]); (try rw [if_pos c_3]); (try rw [if_neg c_4]); try rfl), ht⟩) (fun _ h => by cases h) dX1_yearsWithDay_124
      · refine lv_lload hx hb dX1_yearsWithDay_73 (lv_at hl 5 rfl) ?_
        refine lv_aload_n hx hb dX1_yearsWithDay_75 rfl (lv_at hl 2 rfl) ?_
        refine va_get (D := (dC, dI)) (ci := 1) (v := .int fi) (C := RX1) (T := TX1) (N := 3) hx hb htw inlX1 hown hK hP 0 rfl rfl 0 (by decide) (htw _ (ck_7 _ (List.mem_of_getElem? (i := 14) rfl))) (fun _ h9 => h9) rfl dX1_yearsWithDay_76 ?_
        refine lv_i2l (v := fi.toInt64) hx hb dX1_yearsWithDay_79 rfl ?_
        refine W.lcmp hx hb dX1_yearsWithDay_80 ?_
        refine lv_if_gt (tgt := 112) hx hb dX1_yearsWithDay_81 (by decide) (fun c_5 => ?_) (fun c_5 => ?_)
        · refine lv_lload hx hb dX1_yearsWithDay_112 (lv_at hl 5 rfl) ?_
          refine lv_aload_n hx hb dX1_yearsWithDay_114 rfl (lv_at hl 2 rfl) ?_
          refine va_get (D := (dC, dI)) (ci := 1) (v := .int fi) (C := RX1) (T := TX1) (N := 3) hx hb htw inlX1 hown hK hP 0 rfl rfl 0 (by decide) (htw _ (ck_7 _ (List.mem_of_getElem? (i := 14) rfl))) (fun _ h9 => h9) rfl dX1_yearsWithDay_115 ?_
          refine lv_i2l (v := fi.toInt64) hx hb dX1_yearsWithDay_118 rfl ?_
          refine W.lcmp hx hb dX1_yearsWithDay_119 ?_
          refine lv_if_le (tgt := 125) hx hb dX1_yearsWithDay_120 (by decide) (fun c_6 => ?_) (fun c_6 => ?_)
          · refine lv_lconst (v := 0) hx hb dX1_yearsWithDay_125 (by decide) ?_
            refine lv_lload hx hb dX1_yearsWithDay_126 (lv_at hl 0 rfl) ?_
            refine lv_lload hx hb dX1_yearsWithDay_128 (lv_at hl 1 rfl) ?_
            refine lv_lsub hx hb dX1_yearsWithDay_130 ?_
            refine lv_lconst (v := 1) hx hb dX1_yearsWithDay_131 (by decide) ?_
            refine lv_ladd hx hb dX1_yearsWithDay_132 ?_
            refine va_mmax_long hx hb (by rw [hml]; exact hl.1.symm) hown (htw _ (ck_45 _ (List.mem_of_getElem? (i := 11) rfl))) (htw _ (ck_45 _ (List.mem_of_getElem? (i := 12) rfl))) (htw _ (ck_14 _ (List.mem_of_getElem? (i := 8) rfl))) (htw _ (ck_45 _ (List.mem_of_getElem? (i := 13) rfl))) (Nat.le_of_ble_eq_true rfl) (Nat.le_of_ble_eq_true rfl) (Nat.le_of_ble_eq_true rfl) (Nat.le_of_ble_eq_true rfl) dX1_yearsWithDay_133 ?_
            exact W.lret (v := (if ((a1 - a0) + 1) < 0 then 0 else ((a1 - a0) + 1))) hx hb hr (fun t ht hW => ⟨(if ((a1 - a0) + 1) < 0 then 0 else ((a1 - a0) + 1)), rfl, (by rw [fl_yearsWithDay]; (try rw [if_pos c_1]); (try rw [if_pos c_2]); (try rw [if_neg c_3]); (try rw [if_pos c_5]); (try rw [if_pos c_6]); try rfl), ht⟩) (fun _ h => by cases h) dX1_yearsWithDay_136
          · refine lv_lconst (v := 0) hx hb dX1_yearsWithDay_123 (by decide) ?_
            exact W.lret (v := 0) hx hb hr (fun t ht hW => ⟨0, rfl, (by rw [fl_yearsWithDay]; (try rw [if_pos c_1]); (try rw [if_pos c_2]); (try rw [if_neg c_3]); (try rw [if_pos c_5]); (try rw [if_neg c_6]); try rfl), ht⟩) (fun _ h => by cases h) dX1_yearsWithDay_124
        · refine lv_lload_n hx hb dX1_yearsWithDay_84 rfl (lv_at hl 4 rfl) ?_
          refine lv_aload_n hx hb dX1_yearsWithDay_85 rfl (lv_at hl 2 rfl) ?_
          refine va_get (D := (dC, dI)) (ci := 1) (v := .int fi) (C := RX1) (T := TX1) (N := 3) hx hb htw inlX1 hown hK hP 0 rfl rfl 0 (by decide) (htw _ (ck_7 _ (List.mem_of_getElem? (i := 14) rfl))) (fun _ h9 => h9) rfl dX1_yearsWithDay_86 ?_
          refine lv_i2l (v := fi.toInt64) hx hb dX1_yearsWithDay_89 rfl ?_
          refine lv_lload hx hb dX1_yearsWithDay_90 (lv_at hl 5 rfl) ?_
          refine lv_lsub hx hb dX1_yearsWithDay_92 ?_
          refine lv_aload_n hx hb dX1_yearsWithDay_93 rfl (lv_at hl 2 rfl) ?_
          refine va_get (D := (dC, dI)) (ci := 1) (v := .int gr) (C := RX1) (T := TX1) (N := 3) hx hb htw inlX1 hown hK hP 0 rfl rfl 1 (by decide) (htw _ (ck_21 _ (List.mem_of_getElem? (i := 13) rfl))) (fun _ h9 => h9) rfl dX1_yearsWithDay_94 ?_
          refine lv_ineg hx hb dX1_yearsWithDay_97 ?_
          refine lv_i2l (v := (-gr).toInt64) hx hb dX1_yearsWithDay_98 rfl ?_
          have hPc := hP.sub (ws' := []) [] rfl
          have hKc := hK.sub (tys' := []) [] rfl
          refine xg_nSl (va_runSN (As := [.long (fi.toInt64 - a2), .long ((-gr).toInt64)]) (rest := [.long a1]) ⟨hx, hb, hml, hown, htw⟩ (gx_cut l dC dI (fi.toInt64 - a2) ((-gr).toInt64)) ⟨va_cnB 2 htw (xg_code (ck_35 _ (List.mem_of_getElem? (i := 20) rfl))) rfl rfl rfl (hNx.1) (htw _ (ck_1 _ (List.mem_of_getElem? (i := 2) rfl))) (by decide +kernel) ⟨Nat.le_of_ble_eq_true rfl, Nat.le_of_ble_eq_true rfl⟩, (htw _ (ck_35 _ (List.mem_of_getElem? (i := 19) rfl))), trivial⟩ ⟨fun a U g mk q => by obtain ⟨q0, qP, qK⟩ := q; exact ⟨q0, qP, va_K.moved (u := U) (U := U.calling g mk a) (Vm.Alike.refl U.vm) qK⟩, fun U hU hW => ⟨rfl, by rw [hU]; exact hPc, va_K.moved hW.alike hKc⟩⟩ rfl rfl hl.1 rfl (lv_room (Nat.le_of_ble_eq_true rfl)) dX1_yearsWithDay_99 ⟨Nat.le_of_ble_eq_true rfl, Nat.le_of_ble_eq_true rfl⟩) (fun r_7 hw => ?_)
          try dsimp only at hw
          have hq_r_7 : r_7 = fx_cut (fi.toInt64 - a2) ((-gr).toInt64) := hw
          refine lv_lconst (v := 1) hx hb dX1_yearsWithDay_102 (by decide) ?_
          refine lv_ladd hx hb dX1_yearsWithDay_103 ?_
          refine va_mmin_long hx hb (by rw [hml]; exact hl.1.symm) hown (htw _ (ck_45 _ (List.mem_of_getElem? (i := 8) rfl))) (htw _ (ck_45 _ (List.mem_of_getElem? (i := 9) rfl))) (htw _ (ck_14 _ (List.mem_of_getElem? (i := 8) rfl))) (htw _ (ck_45 _ (List.mem_of_getElem? (i := 10) rfl))) (Nat.le_of_ble_eq_true rfl) (Nat.le_of_ble_eq_true rfl) (Nat.le_of_ble_eq_true rfl) (Nat.le_of_ble_eq_true rfl) dX1_yearsWithDay_104 ?_
          refine lv_lstore (lv' := [(9, .long (if (r_7 + 1) < a1 then (r_7 + 1) else a1)), (7, .long a0), (0, .ref la), (1, .long a0), (3, .long a1), (5, .long a2)]) hx hb dX1_yearsWithDay_107 hl (by decide) rfl (fun ls hl => ?_)
          refine lv_goto (tgt := 125) hx hb dX1_yearsWithDay_109 (by decide) ?_
          refine lv_lconst (v := 0) hx hb dX1_yearsWithDay_125 (by decide) ?_
          refine lv_lload hx hb dX1_yearsWithDay_126 (lv_at hl 0 rfl) ?_
          refine lv_lload hx hb dX1_yearsWithDay_128 (lv_at hl 1 rfl) ?_
          refine lv_lsub hx hb dX1_yearsWithDay_130 ?_
          refine lv_lconst (v := 1) hx hb dX1_yearsWithDay_131 (by decide) ?_
          refine lv_ladd hx hb dX1_yearsWithDay_132 ?_
          refine va_mmax_long hx hb (by rw [hml]; exact hl.1.symm) hown (htw _ (ck_45 _ (List.mem_of_getElem? (i := 11) rfl))) (htw _ (ck_45 _ (List.mem_of_getElem? (i := 12) rfl))) (htw _ (ck_14 _ (List.mem_of_getElem? (i := 8) rfl))) (htw _ (ck_45 _ (List.mem_of_getElem? (i := 13) rfl))) (Nat.le_of_ble_eq_true rfl) (Nat.le_of_ble_eq_true rfl) (Nat.le_of_ble_eq_true rfl) (Nat.le_of_ble_eq_true rfl) dX1_yearsWithDay_133 ?_
          exact W.lret (v := (if (((if (r_7 + 1) < a1 then (r_7 + 1) else a1) - a0) + 1) < 0 then 0 else (((if (r_7 + 1) < a1 then (r_7 + 1) else a1) - a0) + 1))) hx hb hr (fun t ht hW => ⟨(if (((if (r_7 + 1) < a1 then (r_7 + 1) else a1) - a0) + 1) < 0 then 0 else (((if (r_7 + 1) < a1 then (r_7 + 1) else a1) - a0) + 1)), rfl, (by rw [fl_yearsWithDay]; (try rw [← hq_r_7]); (try rw [if_pos c_1]); (try rw [if_pos c_2]); (try rw [if_neg c_3]); (try rw [if_neg c_5]); try rfl), ht⟩) (fun _ h => by cases h) dX1_yearsWithDay_136
    · refine lv_lload hx hb dX1_yearsWithDay_24 (lv_at hl 5 rfl) ?_
      refine lv_aload_n hx hb dX1_yearsWithDay_26 rfl (lv_at hl 2 rfl) ?_
      refine va_get (D := (dC, dI)) (ci := 1) (v := .int fi) (C := RX1) (T := TX1) (N := 3) hx hb htw inlX1 hown hK hP 0 rfl rfl 0 (by decide) (htw _ (ck_7 _ (List.mem_of_getElem? (i := 14) rfl))) (fun _ h9 => h9) rfl dX1_yearsWithDay_27 ?_
      refine lv_i2l (v := fi.toInt64) hx hb dX1_yearsWithDay_30 rfl ?_
      refine W.lcmp hx hb dX1_yearsWithDay_31 ?_
      refine lv_if_le (tgt := 66) hx hb dX1_yearsWithDay_32 (by decide) (fun c_8 => ?_) (fun c_8 => ?_)
      · refine lv_aload_n hx hb dX1_yearsWithDay_66 rfl (lv_at hl 2 rfl) ?_
        refine va_get (D := (dC, dI)) (ci := 1) (v := .int gr) (C := RX1) (T := TX1) (N := 3) hx hb htw inlX1 hown hK hP 0 rfl rfl 1 (by decide) (htw _ (ck_21 _ (List.mem_of_getElem? (i := 13) rfl))) (fun _ h9 => h9) rfl dX1_yearsWithDay_67 ?_
        refine lv_if_ge (tgt := 112) hx hb dX1_yearsWithDay_70 (by decide) (fun c_9 => ?_) (fun c_9 => ?_)
        · refine lv_lload hx hb dX1_yearsWithDay_112 (lv_at hl 5 rfl) ?_
          refine lv_aload_n hx hb dX1_yearsWithDay_114 rfl (lv_at hl 2 rfl) ?_
          refine va_get (D := (dC, dI)) (ci := 1) (v := .int fi) (C := RX1) (T := TX1) (N := 3) hx hb htw inlX1 hown hK hP 0 rfl rfl 0 (by decide) (htw _ (ck_7 _ (List.mem_of_getElem? (i := 14) rfl))) (fun _ h9 => h9) rfl dX1_yearsWithDay_115 ?_
          refine lv_i2l (v := fi.toInt64) hx hb dX1_yearsWithDay_118 rfl ?_
          refine W.lcmp hx hb dX1_yearsWithDay_119 ?_
          refine lv_if_le (tgt := 125) hx hb dX1_yearsWithDay_120 (by decide) (fun c_10 => ?_) (fun c_10 => absurd c_10 (fun h9 => h9 c_8))
          refine lv_lconst (v := 0) hx hb dX1_yearsWithDay_125 (by decide) ?_
          refine lv_lload hx hb dX1_yearsWithDay_126 (lv_at hl 0 rfl) ?_
          refine lv_lload hx hb dX1_yearsWithDay_128 (lv_at hl 1 rfl) ?_
          refine lv_lsub hx hb dX1_yearsWithDay_130 ?_
          refine lv_lconst (v := 1) hx hb dX1_yearsWithDay_131 (by decide) ?_
          refine lv_ladd hx hb dX1_yearsWithDay_132 ?_
          refine va_mmax_long hx hb (by rw [hml]; exact hl.1.symm) hown (htw _ (ck_45 _ (List.mem_of_getElem? (i := 11) rfl))) (htw _ (ck_45 _ (List.mem_of_getElem? (i := 12) rfl))) (htw _ (ck_14 _ (List.mem_of_getElem? (i := 8) rfl))) (htw _ (ck_45 _ (List.mem_of_getElem? (i := 13) rfl))) (Nat.le_of_ble_eq_true rfl) (Nat.le_of_ble_eq_true rfl) (Nat.le_of_ble_eq_true rfl) (Nat.le_of_ble_eq_true rfl) dX1_yearsWithDay_133 ?_
          exact W.lret (v := (if ((a1 - a0) + 1) < 0 then 0 else ((a1 - a0) + 1))) hx hb hr (fun t ht hW => ⟨(if ((a1 - a0) + 1) < 0 then 0 else ((a1 - a0) + 1)), rfl, (by rw [fl_yearsWithDay]; (try rw [if_pos c_1]); (try rw [if_neg c_2]); (try rw [if_pos c_8]); (try rw [if_pos c_9]); try rfl), ht⟩) (fun _ h => by cases h) dX1_yearsWithDay_136
        · refine lv_lload hx hb dX1_yearsWithDay_73 (lv_at hl 5 rfl) ?_
          refine lv_aload_n hx hb dX1_yearsWithDay_75 rfl (lv_at hl 2 rfl) ?_
          refine va_get (D := (dC, dI)) (ci := 1) (v := .int fi) (C := RX1) (T := TX1) (N := 3) hx hb htw inlX1 hown hK hP 0 rfl rfl 0 (by decide) (htw _ (ck_7 _ (List.mem_of_getElem? (i := 14) rfl))) (fun _ h9 => h9) rfl dX1_yearsWithDay_76 ?_
          refine lv_i2l (v := fi.toInt64) hx hb dX1_yearsWithDay_79 rfl ?_
          refine W.lcmp hx hb dX1_yearsWithDay_80 ?_
          refine lv_if_gt (tgt := 112) hx hb dX1_yearsWithDay_81 (by decide) (fun c_11 => ?_) (fun c_11 => ?_)
          · refine lv_lload hx hb dX1_yearsWithDay_112 (lv_at hl 5 rfl) ?_
            refine lv_aload_n hx hb dX1_yearsWithDay_114 rfl (lv_at hl 2 rfl) ?_
            refine va_get (D := (dC, dI)) (ci := 1) (v := .int fi) (C := RX1) (T := TX1) (N := 3) hx hb htw inlX1 hown hK hP 0 rfl rfl 0 (by decide) (htw _ (ck_7 _ (List.mem_of_getElem? (i := 14) rfl))) (fun _ h9 => h9) rfl dX1_yearsWithDay_115 ?_
            refine lv_i2l (v := fi.toInt64) hx hb dX1_yearsWithDay_118 rfl ?_
            refine W.lcmp hx hb dX1_yearsWithDay_119 ?_
            refine lv_if_le (tgt := 125) hx hb dX1_yearsWithDay_120 (by decide) (fun c_12 => ?_) (fun c_12 => absurd c_12 (fun h9 => h9 c_8))
            refine lv_lconst (v := 0) hx hb dX1_yearsWithDay_125 (by decide) ?_
            refine lv_lload hx hb dX1_yearsWithDay_126 (lv_at hl 0 rfl) ?_
            refine lv_lload hx hb dX1_yearsWithDay_128 (lv_at hl 1 rfl) ?_
            refine lv_lsub hx hb dX1_yearsWithDay_130 ?_
            refine lv_lconst (v := 1) hx hb dX1_yearsWithDay_131 (by decide) ?_
            refine lv_ladd hx hb dX1_yearsWithDay_132 ?_
            refine va_mmax_long hx hb (by rw [hml]; exact hl.1.symm) hown (htw _ (ck_45 _ (List.mem_of_getElem? (i := 11) rfl))) (htw _ (ck_45 _ (List.mem_of_getElem? (i := 12) rfl))) (htw _ (ck_14 _ (List.mem_of_getElem? (i := 8) rfl))) (htw _ (ck_45 _ (List.mem_of_getElem? (i := 13) rfl))) (Nat.le_of_ble_eq_true rfl) (Nat.le_of_ble_eq_true rfl) (Nat.le_of_ble_eq_true rfl) (Nat.le_of_ble_eq_true rfl) dX1_yearsWithDay_133 ?_
            exact W.lret (v := (if ((a1 - a0) + 1) < 0 then 0 else ((a1 - a0) + 1))) hx hb hr (fun t ht hW => ⟨(if ((a1 - a0) + 1) < 0 then 0 else ((a1 - a0) + 1)), rfl, (by rw [fl_yearsWithDay]; (try rw [if_pos c_1]); (try rw [if_neg c_2]); (try rw [if_pos c_8]); (try rw [if_neg c_9]); (try rw [if_pos c_11]); try rfl), ht⟩) (fun _ h => by cases h) dX1_yearsWithDay_136
          · refine lv_lload_n hx hb dX1_yearsWithDay_84 rfl (lv_at hl 4 rfl) ?_
            refine lv_aload_n hx hb dX1_yearsWithDay_85 rfl (lv_at hl 2 rfl) ?_
            refine va_get (D := (dC, dI)) (ci := 1) (v := .int fi) (C := RX1) (T := TX1) (N := 3) hx hb htw inlX1 hown hK hP 0 rfl rfl 0 (by decide) (htw _ (ck_7 _ (List.mem_of_getElem? (i := 14) rfl))) (fun _ h9 => h9) rfl dX1_yearsWithDay_86 ?_
            refine lv_i2l (v := fi.toInt64) hx hb dX1_yearsWithDay_89 rfl ?_
            refine lv_lload hx hb dX1_yearsWithDay_90 (lv_at hl 5 rfl) ?_
            refine lv_lsub hx hb dX1_yearsWithDay_92 ?_
            refine lv_aload_n hx hb dX1_yearsWithDay_93 rfl (lv_at hl 2 rfl) ?_
            refine va_get (D := (dC, dI)) (ci := 1) (v := .int gr) (C := RX1) (T := TX1) (N := 3) hx hb htw inlX1 hown hK hP 0 rfl rfl 1 (by decide) (htw _ (ck_21 _ (List.mem_of_getElem? (i := 13) rfl))) (fun _ h9 => h9) rfl dX1_yearsWithDay_94 ?_
            refine lv_ineg hx hb dX1_yearsWithDay_97 ?_
            refine lv_i2l (v := (-gr).toInt64) hx hb dX1_yearsWithDay_98 rfl ?_
            have hPc := hP.sub (ws' := []) [] rfl
            have hKc := hK.sub (tys' := []) [] rfl
            refine xg_nSl (va_runSN (As := [.long (fi.toInt64 - a2), .long ((-gr).toInt64)]) (rest := [.long a1]) ⟨hx, hb, hml, hown, htw⟩ (gx_cut l dC dI (fi.toInt64 - a2) ((-gr).toInt64)) ⟨va_cnB 2 htw (xg_code (ck_35 _ (List.mem_of_getElem? (i := 20) rfl))) rfl rfl rfl (hNx.1) (htw _ (ck_1 _ (List.mem_of_getElem? (i := 2) rfl))) (by decide +kernel) ⟨Nat.le_of_ble_eq_true rfl, Nat.le_of_ble_eq_true rfl⟩, (htw _ (ck_35 _ (List.mem_of_getElem? (i := 19) rfl))), trivial⟩ ⟨fun a U g mk q => by obtain ⟨q0, qP, qK⟩ := q; exact ⟨q0, qP, va_K.moved (u := U) (U := U.calling g mk a) (Vm.Alike.refl U.vm) qK⟩, fun U hU hW => ⟨rfl, by rw [hU]; exact hPc, va_K.moved hW.alike hKc⟩⟩ rfl rfl hl.1 rfl (lv_room (Nat.le_of_ble_eq_true rfl)) dX1_yearsWithDay_99 ⟨Nat.le_of_ble_eq_true rfl, Nat.le_of_ble_eq_true rfl⟩) (fun r_13 hw => ?_)
            try dsimp only at hw
            have hq_r_13 : r_13 = fx_cut (fi.toInt64 - a2) ((-gr).toInt64) := hw
            refine lv_lconst (v := 1) hx hb dX1_yearsWithDay_102 (by decide) ?_
            refine lv_ladd hx hb dX1_yearsWithDay_103 ?_
            refine va_mmin_long hx hb (by rw [hml]; exact hl.1.symm) hown (htw _ (ck_45 _ (List.mem_of_getElem? (i := 8) rfl))) (htw _ (ck_45 _ (List.mem_of_getElem? (i := 9) rfl))) (htw _ (ck_14 _ (List.mem_of_getElem? (i := 8) rfl))) (htw _ (ck_45 _ (List.mem_of_getElem? (i := 10) rfl))) (Nat.le_of_ble_eq_true rfl) (Nat.le_of_ble_eq_true rfl) (Nat.le_of_ble_eq_true rfl) (Nat.le_of_ble_eq_true rfl) dX1_yearsWithDay_104 ?_
            refine lv_lstore (lv' := [(9, .long (if (r_13 + 1) < a1 then (r_13 + 1) else a1)), (7, .long a0), (0, .ref la), (1, .long a0), (3, .long a1), (5, .long a2)]) hx hb dX1_yearsWithDay_107 hl (by decide) rfl (fun ls hl => ?_)
            refine lv_goto (tgt := 125) hx hb dX1_yearsWithDay_109 (by decide) ?_
            refine lv_lconst (v := 0) hx hb dX1_yearsWithDay_125 (by decide) ?_
            refine lv_lload hx hb dX1_yearsWithDay_126 (lv_at hl 0 rfl) ?_
            refine lv_lload hx hb dX1_yearsWithDay_128 (lv_at hl 1 rfl) ?_
            refine lv_lsub hx hb dX1_yearsWithDay_130 ?_
            refine lv_lconst (v := 1) hx hb dX1_yearsWithDay_131 (by decide) ?_
            refine lv_ladd hx hb dX1_yearsWithDay_132 ?_
            refine va_mmax_long hx hb (by rw [hml]; exact hl.1.symm) hown (htw _ (ck_45 _ (List.mem_of_getElem? (i := 11) rfl))) (htw _ (ck_45 _ (List.mem_of_getElem? (i := 12) rfl))) (htw _ (ck_14 _ (List.mem_of_getElem? (i := 8) rfl))) (htw _ (ck_45 _ (List.mem_of_getElem? (i := 13) rfl))) (Nat.le_of_ble_eq_true rfl) (Nat.le_of_ble_eq_true rfl) (Nat.le_of_ble_eq_true rfl) (Nat.le_of_ble_eq_true rfl) dX1_yearsWithDay_133 ?_
            exact W.lret (v := (if (((if (r_13 + 1) < a1 then (r_13 + 1) else a1) - a0) + 1) < 0 then 0 else (((if (r_13 + 1) < a1 then (r_13 + 1) else a1) - a0) + 1))) hx hb hr (fun t ht hW => ⟨(if (((if (r_13 + 1) < a1 then (r_13 + 1) else a1) - a0) + 1) < 0 then 0 else (((if (r_13 + 1) < a1 then (r_13 + 1) else a1) - a0) + 1)), rfl, (by rw [fl_yearsWithDay]; (try rw [← hq_r_13]); (try rw [if_pos c_1]); (try rw [if_neg c_2]); (try rw [if_pos c_8]); (try rw [if_neg c_9]); (try rw [if_neg c_11]); try rfl), ht⟩) (fun _ h => by cases h) dX1_yearsWithDay_136
      · refine lv_lload_n hx hb dX1_yearsWithDay_35 rfl (lv_at hl 3 rfl) ?_
        refine lv_lload hx hb dX1_yearsWithDay_36 (lv_at hl 5 rfl) ?_
        refine lv_aload_n hx hb dX1_yearsWithDay_38 rfl (lv_at hl 2 rfl) ?_
        refine va_get (D := (dC, dI)) (ci := 1) (v := .int fi) (C := RX1) (T := TX1) (N := 3) hx hb htw inlX1 hown hK hP 0 rfl rfl 0 (by decide) (htw _ (ck_7 _ (List.mem_of_getElem? (i := 14) rfl))) (fun _ h9 => h9) rfl dX1_yearsWithDay_39 ?_
        refine lv_i2l (v := fi.toInt64) hx hb dX1_yearsWithDay_42 rfl ?_
        refine lv_lsub hx hb dX1_yearsWithDay_43 ?_
        refine lv_lconst (v := 1) hx hb dX1_yearsWithDay_44 (by decide) ?_
        refine lv_lsub hx hb dX1_yearsWithDay_45 ?_
        refine lv_aload_n hx hb dX1_yearsWithDay_46 rfl (lv_at hl 2 rfl) ?_
        refine va_get (D := (dC, dI)) (ci := 1) (v := .int gr) (C := RX1) (T := TX1) (N := 3) hx hb htw inlX1 hown hK hP 0 rfl rfl 1 (by decide) (htw _ (ck_21 _ (List.mem_of_getElem? (i := 13) rfl))) (fun _ h9 => h9) rfl dX1_yearsWithDay_47 ?_
        refine lv_i2l (v := gr.toInt64) hx hb dX1_yearsWithDay_50 rfl ?_
        have hPc := hP.sub (ws' := []) [] rfl
        have hKc := hK.sub (tys' := []) [] rfl
        refine xg_nSl (va_runSN (As := [.long ((a2 - fi.toInt64) - 1), .long gr.toInt64]) (rest := [.long a0]) ⟨hx, hb, hml, hown, htw⟩ (gx_cut l dC dI ((a2 - fi.toInt64) - 1) gr.toInt64) ⟨va_cnB 2 htw (xg_code (ck_35 _ (List.mem_of_getElem? (i := 20) rfl))) rfl rfl rfl (hNx.1) (htw _ (ck_1 _ (List.mem_of_getElem? (i := 2) rfl))) (by decide +kernel) ⟨Nat.le_of_ble_eq_true rfl, Nat.le_of_ble_eq_true rfl⟩, (htw _ (ck_35 _ (List.mem_of_getElem? (i := 19) rfl))), trivial⟩ ⟨fun a U g mk q => by obtain ⟨q0, qP, qK⟩ := q; exact ⟨q0, qP, va_K.moved (u := U) (U := U.calling g mk a) (Vm.Alike.refl U.vm) qK⟩, fun U hU hW => ⟨rfl, by rw [hU]; exact hPc, va_K.moved hW.alike hKc⟩⟩ rfl rfl hl.1 rfl (lv_room (Nat.le_of_ble_eq_true rfl)) dX1_yearsWithDay_51 ⟨Nat.le_of_ble_eq_true rfl, Nat.le_of_ble_eq_true rfl⟩) (fun r_14 hw => ?_)
        try dsimp only at hw
        have hq_r_14 : r_14 = fx_cut ((a2 - fi.toInt64) - 1) gr.toInt64 := hw
        refine lv_ldc2 (v := 2) hx hb hown (htw _ (ck_22 _ (List.mem_of_getElem? (i := 3) rfl))) dX1_yearsWithDay_54 ?_
        refine lv_ladd hx hb dX1_yearsWithDay_57 ?_
        refine va_mmax_long hx hb (by rw [hml]; exact hl.1.symm) hown (htw _ (ck_45 _ (List.mem_of_getElem? (i := 11) rfl))) (htw _ (ck_45 _ (List.mem_of_getElem? (i := 12) rfl))) (htw _ (ck_14 _ (List.mem_of_getElem? (i := 8) rfl))) (htw _ (ck_45 _ (List.mem_of_getElem? (i := 13) rfl))) (Nat.le_of_ble_eq_true rfl) (Nat.le_of_ble_eq_true rfl) (Nat.le_of_ble_eq_true rfl) (Nat.le_of_ble_eq_true rfl) dX1_yearsWithDay_58 ?_
        refine lv_lstore (lv' := [(7, .long (if (r_14 + 2) < a0 then a0 else (r_14 + 2))), (9, .long a1), (0, .ref la), (1, .long a0), (3, .long a1), (5, .long a2)]) hx hb dX1_yearsWithDay_61 hl (by decide) rfl (fun ls hl => ?_)
        refine lv_goto (tgt := 125) hx hb dX1_yearsWithDay_63 (by decide) ?_
        refine lv_lconst (v := 0) hx hb dX1_yearsWithDay_125 (by decide) ?_
        refine lv_lload hx hb dX1_yearsWithDay_126 (lv_at hl 1 rfl) ?_
        refine lv_lload hx hb dX1_yearsWithDay_128 (lv_at hl 0 rfl) ?_
        refine lv_lsub hx hb dX1_yearsWithDay_130 ?_
        refine lv_lconst (v := 1) hx hb dX1_yearsWithDay_131 (by decide) ?_
        refine lv_ladd hx hb dX1_yearsWithDay_132 ?_
        refine va_mmax_long hx hb (by rw [hml]; exact hl.1.symm) hown (htw _ (ck_45 _ (List.mem_of_getElem? (i := 11) rfl))) (htw _ (ck_45 _ (List.mem_of_getElem? (i := 12) rfl))) (htw _ (ck_14 _ (List.mem_of_getElem? (i := 8) rfl))) (htw _ (ck_45 _ (List.mem_of_getElem? (i := 13) rfl))) (Nat.le_of_ble_eq_true rfl) (Nat.le_of_ble_eq_true rfl) (Nat.le_of_ble_eq_true rfl) (Nat.le_of_ble_eq_true rfl) dX1_yearsWithDay_133 ?_
        exact W.lret (v := (if ((a1 - (if (r_14 + 2) < a0 then a0 else (r_14 + 2))) + 1) < 0 then 0 else ((a1 - (if (r_14 + 2) < a0 then a0 else (r_14 + 2))) + 1))) hx hb hr (fun t ht hW => ⟨(if ((a1 - (if (r_14 + 2) < a0 then a0 else (r_14 + 2))) + 1) < 0 then 0 else ((a1 - (if (r_14 + 2) < a0 then a0 else (r_14 + 2))) + 1)), rfl, (by rw [fl_yearsWithDay]; (try rw [← hq_r_14]); (try rw [if_pos c_1]); (try rw [if_neg c_2]); (try rw [if_neg c_8]); try rfl), ht⟩) (fun _ h => by cases h) dX1_yearsWithDay_136
  · refine lv_lconst (v := 0) hx hb dX1_yearsWithDay_9 (by decide) ?_
    exact W.lret (v := 0) hx hb hr (fun t ht hW => ⟨0, rfl, (by rw [fl_yearsWithDay]; (try rw [if_neg c_1]); try rfl), ht⟩) (fun _ h => by cases h) dX1_yearsWithDay_10

def fl_yearsLater (fi : Int32) (gr : Int32) (fr : Int32) (a0 : Int64) (a1 : Int32) : Int64 := (if lg_cmp (fl_yearOf fi gr fr a0) 0 = 0 then (-1 : Int64) else (if (fl_isThere fi gr fr ((fl_yearOf fi gr fr a0) + a1.toInt64)) = 0 then (-1 : Int64) else (if 0 < lg_cmp ((a0 - (fl_beginOf fi gr fr (fl_yearOf fi gr fr a0))) + 1) (fl_lengthOf fi gr fr ((fl_yearOf fi gr fr a0) + a1.toInt64)) then (if (fl_isThere fi gr fr (((fl_yearOf fi gr fr a0) + a1.toInt64) + 1)) = 0 then (-1 : Int64) else (fl_countOf fi gr fr (((fl_yearOf fi gr fr a0) + a1.toInt64) + 1) (1 : Int64))) else (fl_countOf fi gr fr ((fl_yearOf fi gr fr a0) + a1.toInt64) ((a0 - (fl_beginOf fi gr fr (fl_yearOf fi gr fr a0))) + 1)))))
theorem dX1_yearsLater_0 : decode cX1_yearsLater 0 = .ok (.aload_n 0, 1) := zk_42 (by decide +kernel)
theorem dX1_yearsLater_1 : decode cX1_yearsLater 1 = .ok (.lload_n 1, 1) := zk_31 (by decide +kernel)
theorem dX1_yearsLater_2 : decode cX1_yearsLater 2 = .ok (.invokevirtual 52, 3) := zk_182 (by decide +kernel)
theorem dX1_yearsLater_5 : decode cX1_yearsLater 5 = .ok (.lstore 4, 2) := zk_55 (by decide +kernel)
theorem dX1_yearsLater_7 : decode cX1_yearsLater 7 = .ok (.lload 4, 2) := zk_22 (by decide +kernel)
theorem dX1_yearsLater_9 : decode cX1_yearsLater 9 = .ok (.iload_n 3, 1) := zk_29 (by decide +kernel)
theorem dX1_yearsLater_10 : decode cX1_yearsLater 10 = .ok (.i2l, 1) := zk_133 (by decide +kernel)
theorem dX1_yearsLater_11 : decode cX1_yearsLater 11 = .ok (.ladd, 1) := zk_97 (by decide +kernel)
theorem dX1_yearsLater_12 : decode cX1_yearsLater 12 = .ok (.lstore 6, 2) := zk_55 (by decide +kernel)
theorem dX1_yearsLater_14 : decode cX1_yearsLater 14 = .ok (.lload 4, 2) := zk_22 (by decide +kernel)
theorem dX1_yearsLater_16 : decode cX1_yearsLater 16 = .ok (.lconst 0, 1) := zk_9 (by decide +kernel)
theorem dX1_yearsLater_17 : decode cX1_yearsLater 17 = .ok (.lcmp, 1) := zk_148 (by decide +kernel)
theorem dX1_yearsLater_18 : decode cX1_yearsLater 18 = .ok (.ifCond .eq 12, 3) := zk_153 (by decide +kernel)
theorem dX1_yearsLater_30 : decode cX1_yearsLater 30 = .ok (.ldc2_w 48, 3) := zk_20 (by decide +kernel)
theorem dX1_yearsLater_33 : decode cX1_yearsLater 33 = .ok (.lreturn, 1) := zk_173 (by decide +kernel)
theorem dX1_yearsLater_21 : decode cX1_yearsLater 21 = .ok (.aload_n 0, 1) := zk_42 (by decide +kernel)
theorem dX1_yearsLater_22 : decode cX1_yearsLater 22 = .ok (.lload 6, 2) := zk_22 (by decide +kernel)
theorem dX1_yearsLater_24 : decode cX1_yearsLater 24 = .ok (.invokevirtual 21, 3) := zk_182 (by decide +kernel)
theorem dX1_yearsLater_27 : decode cX1_yearsLater 27 = .ok (.ifCond .ne 7, 3) := zk_154 (by decide +kernel)
theorem dX1_yearsLater_34 : decode cX1_yearsLater 34 = .ok (.lload_n 1, 1) := zk_31 (by decide +kernel)
theorem dX1_yearsLater_35 : decode cX1_yearsLater 35 = .ok (.aload_n 0, 1) := zk_42 (by decide +kernel)
theorem dX1_yearsLater_36 : decode cX1_yearsLater 36 = .ok (.lload 4, 2) := zk_22 (by decide +kernel)
theorem dX1_yearsLater_38 : decode cX1_yearsLater 38 = .ok (.invokevirtual 45, 3) := zk_182 (by decide +kernel)
theorem dX1_yearsLater_41 : decode cX1_yearsLater 41 = .ok (.lsub, 1) := zk_101 (by decide +kernel)
theorem dX1_yearsLater_42 : decode cX1_yearsLater 42 = .ok (.lconst 1, 1) := zk_10 (by decide +kernel)
theorem dX1_yearsLater_43 : decode cX1_yearsLater 43 = .ok (.ladd, 1) := zk_97 (by decide +kernel)
theorem dX1_yearsLater_44 : decode cX1_yearsLater 44 = .ok (.lstore 8, 2) := zk_55 (by decide +kernel)
theorem dX1_yearsLater_46 : decode cX1_yearsLater 46 = .ok (.lload 8, 2) := zk_22 (by decide +kernel)
theorem dX1_yearsLater_48 : decode cX1_yearsLater 48 = .ok (.aload_n 0, 1) := zk_42 (by decide +kernel)
theorem dX1_yearsLater_49 : decode cX1_yearsLater 49 = .ok (.lload 6, 2) := zk_22 (by decide +kernel)
theorem dX1_yearsLater_51 : decode cX1_yearsLater 51 = .ok (.invokevirtual 15, 3) := zk_182 (by decide +kernel)
theorem dX1_yearsLater_54 : decode cX1_yearsLater 54 = .ok (.lcmp, 1) := zk_148 (by decide +kernel)
theorem dX1_yearsLater_55 : decode cX1_yearsLater 55 = .ok (.ifCond .gt 12, 3) := zk_157 (by decide +kernel)
theorem dX1_yearsLater_67 : decode cX1_yearsLater 67 = .ok (.aload_n 0, 1) := zk_42 (by decide +kernel)
theorem dX1_yearsLater_68 : decode cX1_yearsLater 68 = .ok (.lload 6, 2) := zk_22 (by decide +kernel)
theorem dX1_yearsLater_70 : decode cX1_yearsLater 70 = .ok (.lconst 1, 1) := zk_10 (by decide +kernel)
theorem dX1_yearsLater_71 : decode cX1_yearsLater 71 = .ok (.ladd, 1) := zk_97 (by decide +kernel)
theorem dX1_yearsLater_72 : decode cX1_yearsLater 72 = .ok (.invokevirtual 21, 3) := zk_182 (by decide +kernel)
theorem dX1_yearsLater_75 : decode cX1_yearsLater 75 = .ok (.ifCond .eq 15, 3) := zk_153 (by decide +kernel)
theorem dX1_yearsLater_90 : decode cX1_yearsLater 90 = .ok (.ldc2_w 48, 3) := zk_20 (by decide +kernel)
theorem dX1_yearsLater_93 : decode cX1_yearsLater 93 = .ok (.lreturn, 1) := zk_173 (by decide +kernel)
theorem dX1_yearsLater_78 : decode cX1_yearsLater 78 = .ok (.aload_n 0, 1) := zk_42 (by decide +kernel)
theorem dX1_yearsLater_79 : decode cX1_yearsLater 79 = .ok (.lload 6, 2) := zk_22 (by decide +kernel)
theorem dX1_yearsLater_81 : decode cX1_yearsLater 81 = .ok (.lconst 1, 1) := zk_10 (by decide +kernel)
theorem dX1_yearsLater_82 : decode cX1_yearsLater 82 = .ok (.ladd, 1) := zk_97 (by decide +kernel)
theorem dX1_yearsLater_83 : decode cX1_yearsLater 83 = .ok (.lconst 1, 1) := zk_10 (by decide +kernel)
theorem dX1_yearsLater_84 : decode cX1_yearsLater 84 = .ok (.invokevirtual 63, 3) := zk_182 (by decide +kernel)
theorem dX1_yearsLater_87 : decode cX1_yearsLater 87 = .ok (.goto 6, 3) := zk_167 (by decide +kernel)
theorem dX1_yearsLater_58 : decode cX1_yearsLater 58 = .ok (.aload_n 0, 1) := zk_42 (by decide +kernel)
theorem dX1_yearsLater_59 : decode cX1_yearsLater 59 = .ok (.lload 6, 2) := zk_22 (by decide +kernel)
theorem dX1_yearsLater_61 : decode cX1_yearsLater 61 = .ok (.lload 8, 2) := zk_22 (by decide +kernel)
theorem dX1_yearsLater_63 : decode cX1_yearsLater 63 = .ok (.invokevirtual 63, 3) := zk_182 (by decide +kernel)
theorem dX1_yearsLater_66 : decode cX1_yearsLater 66 = .ok (.lreturn, 1) := zk_173 (by decide +kernel)
set_option maxHeartbeats 4000000 in
set_option maxRecDepth 100000 in
theorem gl_yearsLater (l : Launch) (dC : Nat → ClassId) (dI : Nat → Nat → Nat) (la : Nat) (fi : Int32) (gr : Int32) (fr : Int32) (a0 : Int64) (a1 : Int32) : Met l yX1_yearsLater (Cond.code yX1_yearsLater cX1_yearsLater 10 (some .long) :: wsL_law) ({ frames := 3, cells := 0, slots := 0, locals := 72 }) (va_Pc [.ref la, .long a0, .int a1] (fun U => va_P (dC, dI) vwCl [(eO1a la fi gr fr)] U.heap ∧ va_K (dC, dI) vwCl [] U ∧ xN U)) (vp_Sl (fun r => r = fl_yearsLater fi gr fr a0 a1)) 0 0 (fun _ => False) := by
  refine Met.ofW (cc := cX1_yearsLater) (maxL := 10) (ret := (some .long)) (by decide) rfl ?_
  intro p e s m args below meth c s₁ B hml hv
  obtain ⟨rfl, hP, hK, hNx⟩ := hv
  have hx := B.exec
  have hb := B.bytes
  have hr := B.returns
  have hts := atoms_spec (ws := Cond.code yX1_yearsLater cX1_yearsLater 10 (some .long) :: wsL_law) B.pre
  have htw : ∀ w ∈ wsL_law, w.before _ s = true := fun w h => hts w (List.mem_cons_of_mem _ h)
  have hown : s.vm.findClass RX1 = some m.cls := findClass_of_methodNamed B.named
  have hlocks := B.notSynchronized
  have hl := lv_entry ([.ref la, .long a0, .int a1]) (n := 10) (Nat.le_of_ble_eq_true rfl)
  rw [lg_entry_eq]
  generalize (lg_sl ([.ref la, .long a0, .int a1]) ++ List.replicate (10 - (lg_sl ([.ref la, .long a0, .int a1])).length) Slot.unset).toArray = ls at hl ⊢
  have hl : lv_has ls 10 [(0, .ref la), (1, .long a0), (3, .int a1)] := hl
  refine lv_aload_n hx hb dX1_yearsLater_0 rfl (lv_at hl 0 rfl) ?_
  refine lv_lload_n hx hb dX1_yearsLater_1 rfl (lv_at hl 1 rfl) ?_
  have hPc := hP.sub (ws' := [(eO1a la fi gr fr)]) [0] rfl
  have hKc := hK.sub (tys' := []) [] rfl
  refine vp_callSl (W.runV (As := [.long a0]) (rest := []) ⟨hx, hb, hml, hown, htw⟩ (gl_yearOf l dC dI la fi gr fr a0) (cwV 1 htw (xg_V (ck_45 _ (List.mem_of_getElem? (i := 14) rfl)) (ck_35 _ (List.mem_of_getElem? (i := 16) rfl)) (ck_35 _ (List.mem_of_getElem? (i := 17) rfl)) (ck_6 _ (List.mem_of_getElem? (i := 19) rfl)) (ck_35 _ (List.mem_of_getElem? (i := 18) rfl))) rfl rfl rfl (by exact ⟨rfl, hdc_0.1, hdc_0.2, hdd_0⟩) ⟨Nat.le_of_ble_eq_true rfl, Nat.le_of_ble_eq_true rfl⟩) ⟨fun a U g mk q => by obtain ⟨q0, qP, qK, qx⟩ := q; exact ⟨q0, qP, va_K.moved (u := U) (U := U.calling g mk a) (Vm.Alike.refl U.vm) qK, xN.calling qx⟩, va_recv hKc hPc (ci := 1) (q0 := 0) rfl rfl, fun U hU hW => ⟨rfl, by rw [hU]; exact hPc, va_K.moved hW.alike hKc, xN.warm hW hNx⟩⟩ rfl rfl hl.1 rfl (lv_room (Nat.le_of_ble_eq_true rfl)) dX1_yearsLater_2 ⟨Nat.le_of_ble_eq_true rfl, Nat.le_of_ble_eq_true rfl⟩) (fun r_1 hw => ?_)
  try dsimp only at hw
  have hq_r_1 : r_1 = fl_yearOf fi gr fr a0 := hw
  refine lv_lstore (lv' := [(4, .long r_1), (0, .ref la), (1, .long a0), (3, .int a1)]) hx hb dX1_yearsLater_5 hl (by decide) rfl (fun ls hl => ?_)
  refine lv_lload hx hb dX1_yearsLater_7 (lv_at hl 0 rfl) ?_
  refine lv_iload_n hx hb dX1_yearsLater_9 rfl (lv_at hl 3 rfl) ?_
  refine lv_i2l (v := a1.toInt64) hx hb dX1_yearsLater_10 rfl ?_
  refine lv_ladd hx hb dX1_yearsLater_11 ?_
  refine lv_lstore (lv' := [(6, .long (r_1 + a1.toInt64)), (4, .long r_1), (0, .ref la), (1, .long a0), (3, .int a1)]) hx hb dX1_yearsLater_12 hl (by decide) rfl (fun ls hl => ?_)
  refine lv_lload hx hb dX1_yearsLater_14 (lv_at hl 1 rfl) ?_
  refine lv_lconst (v := 0) hx hb dX1_yearsLater_16 (by decide) ?_
  refine W.lcmp hx hb dX1_yearsLater_17 ?_
  refine lv_if_eq (tgt := 30) hx hb dX1_yearsLater_18 (by decide) (fun c_2 => ?_) (fun c_2 => ?_)
  · refine lv_ldc2 (v := (-1)) hx hb hown (htw _ (ck_21 _ (List.mem_of_getElem? (i := 18) rfl))) dX1_yearsLater_30 ?_
    exact W.lret (v := (-1)) hx hb hr (fun t ht hW => ⟨(-1), rfl, (by rw [fl_yearsLater]; (try rw [← hq_r_1]); (try rw [if_pos c_2]); try rfl), ht⟩) (fun _ h => by cases h) dX1_yearsLater_33
  · refine lv_aload_n hx hb dX1_yearsLater_21 rfl (lv_at hl 2 rfl) ?_
    refine lv_lload hx hb dX1_yearsLater_22 (lv_at hl 0 rfl) ?_
    have hPc := hP.sub (ws' := [(eO1a la fi gr fr)]) [0] rfl
    have hKc := hK.sub (tys' := []) [] rfl
    refine vp_callSi (W.runV (As := [.long (r_1 + a1.toInt64)]) (rest := []) ⟨hx, hb, hml, hown, htw⟩ (gl_isThere l dC dI la fi gr fr (r_1 + a1.toInt64)) (cwV 1 htw (xg_V (ck_34 _ (List.mem_of_getElem? (i := 20) rfl)) (ck_21 _ (List.mem_of_getElem? (i := 6) rfl)) (ck_21 _ (List.mem_of_getElem? (i := 7) rfl)) (ck_6 _ (List.mem_of_getElem? (i := 19) rfl)) (ck_21 _ (List.mem_of_getElem? (i := 8) rfl))) rfl rfl rfl (by exact ⟨rfl, hdc_0.1, hdc_0.2, hdd_1⟩) ⟨Nat.le_of_ble_eq_true rfl, Nat.le_of_ble_eq_true rfl⟩) ⟨fun a U g mk q => by obtain ⟨q0, qP, qK⟩ := q; exact ⟨q0, qP, va_K.moved (u := U) (U := U.calling g mk a) (Vm.Alike.refl U.vm) qK⟩, va_recv hKc hPc (ci := 1) (q0 := 0) rfl rfl, fun U hU hW => ⟨rfl, by rw [hU]; exact hPc, va_K.moved hW.alike hKc⟩⟩ rfl rfl hl.1 rfl (lv_room (Nat.le_of_ble_eq_true rfl)) dX1_yearsLater_24 ⟨Nat.le_of_ble_eq_true rfl, Nat.le_of_ble_eq_true rfl⟩) (fun r_3 hw => ?_)
    try dsimp only at hw
    have hq_r_3 : r_3 = fl_isThere fi gr fr (r_1 + a1.toInt64) := hw
    refine lv_if_ne (tgt := 34) hx hb dX1_yearsLater_27 (by decide) (fun c_4 => ?_) (fun c_4 => ?_)
    · refine lv_lload_n hx hb dX1_yearsLater_34 rfl (lv_at hl 3 rfl) ?_
      refine lv_aload_n hx hb dX1_yearsLater_35 rfl (lv_at hl 2 rfl) ?_
      refine lv_lload hx hb dX1_yearsLater_36 (lv_at hl 1 rfl) ?_
      have hPc := hP.sub (ws' := [(eO1a la fi gr fr)]) [0] rfl
      have hKc := hK.sub (tys' := []) [] rfl
      refine vp_callSl (W.runV (As := [.long r_1]) (rest := [.long a0]) ⟨hx, hb, hml, hown, htw⟩ (gl_beginOf l dC dI la fi gr fr r_1) (cwV 1 htw (xg_V (ck_21 _ (List.mem_of_getElem? (i := 20) rfl)) (ck_21 _ (List.mem_of_getElem? (i := 21) rfl)) (ck_21 _ (List.mem_of_getElem? (i := 22) rfl)) (ck_6 _ (List.mem_of_getElem? (i := 19) rfl)) (ck_21 _ (List.mem_of_getElem? (i := 23) rfl))) rfl rfl rfl (by exact ⟨rfl, hdc_0.1, hdc_0.2, hdd_0⟩) ⟨Nat.le_of_ble_eq_true rfl, Nat.le_of_ble_eq_true rfl⟩) ⟨fun a U g mk q => by obtain ⟨q0, qP, qK⟩ := q; exact ⟨q0, qP, va_K.moved (u := U) (U := U.calling g mk a) (Vm.Alike.refl U.vm) qK⟩, va_recv hKc hPc (ci := 1) (q0 := 0) rfl rfl, fun U hU hW => ⟨rfl, by rw [hU]; exact hPc, va_K.moved hW.alike hKc⟩⟩ rfl rfl hl.1 rfl (lv_room (Nat.le_of_ble_eq_true rfl)) dX1_yearsLater_38 ⟨Nat.le_of_ble_eq_true rfl, Nat.le_of_ble_eq_true rfl⟩) (fun r_5 hw => ?_)
      try dsimp only at hw
      have hq_r_5 : r_5 = fl_beginOf fi gr fr r_1 := hw
      refine lv_lsub hx hb dX1_yearsLater_41 ?_
      refine lv_lconst (v := 1) hx hb dX1_yearsLater_42 (by decide) ?_
      refine lv_ladd hx hb dX1_yearsLater_43 ?_
      refine lv_lstore (lv' := [(8, .long ((a0 - r_5) + 1)), (6, .long (r_1 + a1.toInt64)), (4, .long r_1), (0, .ref la), (1, .long a0), (3, .int a1)]) hx hb dX1_yearsLater_44 hl (by decide) rfl (fun ls hl => ?_)
      refine lv_lload hx hb dX1_yearsLater_46 (lv_at hl 0 rfl) ?_
      refine lv_aload_n hx hb dX1_yearsLater_48 rfl (lv_at hl 3 rfl) ?_
      refine lv_lload hx hb dX1_yearsLater_49 (lv_at hl 1 rfl) ?_
      have hPc := hP.sub (ws' := [(eO1a la fi gr fr)]) [0] rfl
      have hKc := hK.sub (tys' := []) [] rfl
      refine vp_callSl (W.runV (As := [.long (r_1 + a1.toInt64)]) (rest := [.long ((a0 - r_5) + 1)]) ⟨hx, hb, hml, hown, htw⟩ (gl_lengthOf l dC dI la fi gr fr (r_1 + a1.toInt64)) (cwV 1 htw (xg_V (ck_21 _ (List.mem_of_getElem? (i := 9) rfl)) (ck_21 _ (List.mem_of_getElem? (i := 10) rfl)) (ck_21 _ (List.mem_of_getElem? (i := 11) rfl)) (ck_6 _ (List.mem_of_getElem? (i := 19) rfl)) (ck_21 _ (List.mem_of_getElem? (i := 12) rfl))) rfl rfl rfl (by exact ⟨rfl, hdc_0.1, hdc_0.2, hdd_0⟩) ⟨Nat.le_of_ble_eq_true rfl, Nat.le_of_ble_eq_true rfl⟩) ⟨fun a U g mk q => by obtain ⟨q0, qP, qK⟩ := q; exact ⟨q0, qP, va_K.moved (u := U) (U := U.calling g mk a) (Vm.Alike.refl U.vm) qK⟩, va_recv hKc hPc (ci := 1) (q0 := 0) rfl rfl, fun U hU hW => ⟨rfl, by rw [hU]; exact hPc, va_K.moved hW.alike hKc⟩⟩ rfl rfl hl.1 rfl (lv_room (Nat.le_of_ble_eq_true rfl)) dX1_yearsLater_51 ⟨Nat.le_of_ble_eq_true rfl, Nat.le_of_ble_eq_true rfl⟩) (fun r_6 hw => ?_)
      try dsimp only at hw
      have hq_r_6 : r_6 = fl_lengthOf fi gr fr (r_1 + a1.toInt64) := hw
      refine W.lcmp hx hb dX1_yearsLater_54 ?_
      refine lv_if_gt (tgt := 67) hx hb dX1_yearsLater_55 (by decide) (fun c_7 => ?_) (fun c_7 => ?_)
      · refine lv_aload_n hx hb dX1_yearsLater_67 rfl (lv_at hl 3 rfl) ?_
        refine lv_lload hx hb dX1_yearsLater_68 (lv_at hl 1 rfl) ?_
        refine lv_lconst (v := 1) hx hb dX1_yearsLater_70 (by decide) ?_
        refine lv_ladd hx hb dX1_yearsLater_71 ?_
        have hPc := hP.sub (ws' := [(eO1a la fi gr fr)]) [0] rfl
        have hKc := hK.sub (tys' := []) [] rfl
        refine vp_callSi (W.runV (As := [.long ((r_1 + a1.toInt64) + 1)]) (rest := []) ⟨hx, hb, hml, hown, htw⟩ (gl_isThere l dC dI la fi gr fr ((r_1 + a1.toInt64) + 1)) (cwV 1 htw (xg_V (ck_34 _ (List.mem_of_getElem? (i := 20) rfl)) (ck_21 _ (List.mem_of_getElem? (i := 6) rfl)) (ck_21 _ (List.mem_of_getElem? (i := 7) rfl)) (ck_6 _ (List.mem_of_getElem? (i := 19) rfl)) (ck_21 _ (List.mem_of_getElem? (i := 8) rfl))) rfl rfl rfl (by exact ⟨rfl, hdc_0.1, hdc_0.2, hdd_1⟩) ⟨Nat.le_of_ble_eq_true rfl, Nat.le_of_ble_eq_true rfl⟩) ⟨fun a U g mk q => by obtain ⟨q0, qP, qK⟩ := q; exact ⟨q0, qP, va_K.moved (u := U) (U := U.calling g mk a) (Vm.Alike.refl U.vm) qK⟩, va_recv hKc hPc (ci := 1) (q0 := 0) rfl rfl, fun U hU hW => ⟨rfl, by rw [hU]; exact hPc, va_K.moved hW.alike hKc⟩⟩ rfl rfl hl.1 rfl (lv_room (Nat.le_of_ble_eq_true rfl)) dX1_yearsLater_72 ⟨Nat.le_of_ble_eq_true rfl, Nat.le_of_ble_eq_true rfl⟩) (fun r_8 hw => ?_)
        try dsimp only at hw
        have hq_r_8 : r_8 = fl_isThere fi gr fr ((r_1 + a1.toInt64) + 1) := hw
        refine lv_if_eq (tgt := 90) hx hb dX1_yearsLater_75 (by decide) (fun c_9 => ?_) (fun c_9 => ?_)
        · refine lv_ldc2 (v := (-1)) hx hb hown (htw _ (ck_21 _ (List.mem_of_getElem? (i := 18) rfl))) dX1_yearsLater_90 ?_
          exact W.lret (v := (-1)) hx hb hr (fun t ht hW => ⟨(-1), rfl, (by rw [fl_yearsLater]; (try rw [← hq_r_1]); (try rw [← hq_r_3]); (try rw [← hq_r_5]); (try rw [← hq_r_6]); (try rw [← hq_r_8]); (try rw [if_neg c_2]); (try rw [if_neg c_4]); (try rw [if_pos c_7]); (try rw [if_pos c_9]); try rfl), ht⟩) (fun _ h => by cases h) dX1_yearsLater_93
        · refine lv_aload_n hx hb dX1_yearsLater_78 rfl (lv_at hl 3 rfl) ?_
          refine lv_lload hx hb dX1_yearsLater_79 (lv_at hl 1 rfl) ?_
          refine lv_lconst (v := 1) hx hb dX1_yearsLater_81 (by decide) ?_
          refine lv_ladd hx hb dX1_yearsLater_82 ?_
          refine lv_lconst (v := 1) hx hb dX1_yearsLater_83 (by decide) ?_
          have hPc := hP.sub (ws' := [(eO1a la fi gr fr)]) [0] rfl
          have hKc := hK.sub (tys' := []) [] rfl
          refine vp_callSl (W.runV (As := [.long ((r_1 + a1.toInt64) + 1), .long 1]) (rest := []) ⟨hx, hb, hml, hown, htw⟩ (gl_countOf l dC dI la fi gr fr ((r_1 + a1.toInt64) + 1) (1 : Int64)) (cwV 2 htw (xg_V (ck_49 _ (List.mem_of_getElem? (i := 19) rfl)) (ck_21 _ (List.mem_of_getElem? (i := 15) rfl)) (ck_21 _ (List.mem_of_getElem? (i := 16) rfl)) (ck_6 _ (List.mem_of_getElem? (i := 19) rfl)) (ck_21 _ (List.mem_of_getElem? (i := 17) rfl))) rfl rfl rfl (by exact ⟨rfl, hdc_0.1, hdc_0.2, hdd_4⟩) ⟨Nat.le_of_ble_eq_true rfl, Nat.le_of_ble_eq_true rfl⟩) ⟨fun a U g mk q => by obtain ⟨q0, qP, qK⟩ := q; exact ⟨q0, qP, va_K.moved (u := U) (U := U.calling g mk a) (Vm.Alike.refl U.vm) qK⟩, va_recv hKc hPc (ci := 1) (q0 := 0) rfl rfl, fun U hU hW => ⟨rfl, by rw [hU]; exact hPc, va_K.moved hW.alike hKc⟩⟩ rfl rfl hl.1 rfl (lv_room (Nat.le_of_ble_eq_true rfl)) dX1_yearsLater_84 ⟨Nat.le_of_ble_eq_true rfl, Nat.le_of_ble_eq_true rfl⟩) (fun r_10 hw => ?_)
          try dsimp only at hw
          have hq_r_10 : r_10 = fl_countOf fi gr fr ((r_1 + a1.toInt64) + 1) (1 : Int64) := hw
          refine lv_goto (tgt := 93) hx hb dX1_yearsLater_87 (by decide) ?_
          exact W.lret (v := r_10) hx hb hr (fun t ht hW => ⟨r_10, rfl, (by rw [fl_yearsLater]; (try rw [← hq_r_1]); (try rw [← hq_r_3]); (try rw [← hq_r_5]); (try rw [← hq_r_6]); (try rw [← hq_r_8]); (try rw [← hq_r_10]); (try rw [if_neg c_2]); (try rw [if_neg c_4]); (try rw [if_pos c_7]); (try rw [if_neg c_9]); try rfl), ht⟩) (fun _ h => by cases h) dX1_yearsLater_93
      · refine lv_aload_n hx hb dX1_yearsLater_58 rfl (lv_at hl 3 rfl) ?_
        refine lv_lload hx hb dX1_yearsLater_59 (lv_at hl 1 rfl) ?_
        refine lv_lload hx hb dX1_yearsLater_61 (lv_at hl 0 rfl) ?_
        have hPc := hP.sub (ws' := [(eO1a la fi gr fr)]) [0] rfl
        have hKc := hK.sub (tys' := []) [] rfl
        refine vp_callSl (W.runV (As := [.long (r_1 + a1.toInt64), .long ((a0 - r_5) + 1)]) (rest := []) ⟨hx, hb, hml, hown, htw⟩ (gl_countOf l dC dI la fi gr fr (r_1 + a1.toInt64) ((a0 - r_5) + 1)) (cwV 2 htw (xg_V (ck_49 _ (List.mem_of_getElem? (i := 19) rfl)) (ck_21 _ (List.mem_of_getElem? (i := 15) rfl)) (ck_21 _ (List.mem_of_getElem? (i := 16) rfl)) (ck_6 _ (List.mem_of_getElem? (i := 19) rfl)) (ck_21 _ (List.mem_of_getElem? (i := 17) rfl))) rfl rfl rfl (by exact ⟨rfl, hdc_0.1, hdc_0.2, hdd_4⟩) ⟨Nat.le_of_ble_eq_true rfl, Nat.le_of_ble_eq_true rfl⟩) ⟨fun a U g mk q => by obtain ⟨q0, qP, qK⟩ := q; exact ⟨q0, qP, va_K.moved (u := U) (U := U.calling g mk a) (Vm.Alike.refl U.vm) qK⟩, va_recv hKc hPc (ci := 1) (q0 := 0) rfl rfl, fun U hU hW => ⟨rfl, by rw [hU]; exact hPc, va_K.moved hW.alike hKc⟩⟩ rfl rfl hl.1 rfl (lv_room (Nat.le_of_ble_eq_true rfl)) dX1_yearsLater_63 ⟨Nat.le_of_ble_eq_true rfl, Nat.le_of_ble_eq_true rfl⟩) (fun r_11 hw => ?_)
        try dsimp only at hw
        have hq_r_11 : r_11 = fl_countOf fi gr fr (r_1 + a1.toInt64) ((a0 - r_5) + 1) := hw
        exact W.lret (v := r_11) hx hb hr (fun t ht hW => ⟨r_11, rfl, (by rw [fl_yearsLater]; (try rw [← hq_r_1]); (try rw [← hq_r_3]); (try rw [← hq_r_5]); (try rw [← hq_r_6]); (try rw [← hq_r_11]); (try rw [if_neg c_2]); (try rw [if_neg c_4]); (try rw [if_neg c_7]); try rfl), ht⟩) (fun _ h => by cases h) dX1_yearsLater_66
    · refine lv_ldc2 (v := (-1)) hx hb hown (htw _ (ck_21 _ (List.mem_of_getElem? (i := 18) rfl))) dX1_yearsLater_30 ?_
      exact W.lret (v := (-1)) hx hb hr (fun t ht hW => ⟨(-1), rfl, (by rw [fl_yearsLater]; (try rw [← hq_r_1]); (try rw [← hq_r_3]); (try rw [if_neg c_2]); (try rw [if_pos c_4]); try rfl), ht⟩) (fun _ h => by cases h) dX1_yearsLater_33
