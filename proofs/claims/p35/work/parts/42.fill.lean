def fj_fillJ_d (a1 : Int64) : Nat → (Int32) → (Nat → Int64) → (Nat → Int64)
  | 0, L3d, f0_d => f0_d
  | n + 1, L3d, f0_d => (if 313 ≤ L3d then f0_d else fj_fillJ_d a1 n (L3d + 1) (vp_updL f0_d L3d.toNatClampNeg a1))
def fj_fillJ (f0 : Nat → Int64) (a1 : Int64) : (Nat → Int64) := fj_fillJ_d a1 313 (0 : Int32) f0
theorem gj_fillJ_s0 {y0 : Int32} (h0 : ¬ (313 ≤ y0)) (h1 : ¬ (y0 < 0)) : ¬ (y0 < 0) ∧ ¬ (313 ≤ y0) := ⟨h1, h0⟩
theorem gj_fillJ_s1 {y0 : Int32} (h0 : ¬ (313 ≤ y0)) (h1 : ¬ (y0 < 0)) : ¬ ((y0 + 1) < 0) := by lia
theorem gj_fillJ_s2  : ¬ ((0 : Int32) < 0) := (by decide)
theorem dJ7_fill_d0a16_0 : decode cJ7_fill_d0a16 0 = .ok (.iconst 0, 1) := zk_3 (by decide +kernel)
theorem dJ7_fill_d0a16_1 : decode cJ7_fill_d0a16 1 = .ok (.istore_n 3, 1) := zk_62 (by decide +kernel)
theorem dJ7_fill_d0a16_2 : decode cJ7_fill_d0a16 2 = .ok (.aload_n 0, 1) := zk_42 (by decide +kernel)
theorem dJ7_fill_d0a16_3 : decode cJ7_fill_d0a16 3 = .ok (.arraylength, 1) := zk_190 (by decide +kernel)
theorem dJ7_fill_d0a16_4 : decode cJ7_fill_d0a16 4 = .ok (.istore 4, 2) := zk_54 (by decide +kernel)
theorem dJ7_fill_d0a16_6 : decode cJ7_fill_d0a16 6 = .ok (.iload_n 3, 1) := zk_29 (by decide +kernel)
theorem dJ7_fill_d0a16_7 : decode cJ7_fill_d0a16 7 = .ok (.iload 4, 2) := zk_21 (by decide +kernel)
theorem dJ7_fill_d0a16_9 : decode cJ7_fill_d0a16 9 = .ok (.if_icmp .ge 13, 3) := zk_162 (by decide +kernel)
theorem dJ7_fill_d0a16_22 : decode cJ7_fill_d0a16 22 = .ok (.return_, 1) := zk_177 (by decide +kernel)
theorem dJ7_fill_d0a16_12 : decode cJ7_fill_d0a16 12 = .ok (.aload_n 0, 1) := zk_42 (by decide +kernel)
theorem dJ7_fill_d0a16_13 : decode cJ7_fill_d0a16 13 = .ok (.iload_n 3, 1) := zk_29 (by decide +kernel)
theorem dJ7_fill_d0a16_14 : decode cJ7_fill_d0a16 14 = .ok (.lload_n 1, 1) := zk_31 (by decide +kernel)
theorem dJ7_fill_d0a16_15 : decode cJ7_fill_d0a16 15 = .ok (.lastore, 1) := zk_80 (by decide +kernel)
theorem dJ7_fill_d0a16_16 : decode cJ7_fill_d0a16 16 = .ok (.iinc 3 1, 3) := zk_132 (by decide +kernel)
theorem dJ7_fill_d0a16_19 : decode cJ7_fill_d0a16 19 = .ok (.goto (-13), 3) := zk_167 (by decide +kernel)
set_option maxHeartbeats 4000000 in
set_option maxRecDepth 100000 in
theorem gj_fillJ (l : Launch) (dC : Nat → ClassId) (dI : Nat → Nat → Nat) (ro : Nat) (cRo : ClassId) (f0 : Nat → Int64) (a1 : Int64) (sz : Nat) : Met l yJ7_fill_d0a16 (Cond.code yJ7_fill_d0a16 cJ7_fill_d0a16 5 none :: wsL_law) ({ frames := 0, cells := 0, slots := 0, locals := 0 }) (va_Pc [.ref ro, .long a1] (fun U => U.heap.size = sz ∧ va_P (dC, dI) vwCl [(eA1 ro cRo 313 f0)] U.heap ∧ va_K (dC, dI) vwCl [(cRo, .long)] U ∧ va_D (fun _ => True) [(eA1 ro cRo 313 f0)])) (va_Qv (fun (u : (Nat → Int64)) => u = fj_fillJ f0 a1) (fun (u : (Nat → Int64)) t => va_P (dC, dI) vwCl [(eA1 ro cRo 313 u)] t.heap ∧ va_K (dC, dI) vwCl [] t ∧ va_D (va_A [(eA1 ro cRo 313 f0)] sz) [(eA1 ro cRo 313 u)]) (va_A [(eA1 ro cRo 313 f0)] sz)) 0 0 (va_A [(eA1 ro cRo 313 f0)] sz) := by
  refine Met.ofW (cc := cJ7_fill_d0a16) (maxL := 5) (ret := none) (by decide) rfl ?_
  intro p e s m args below meth c s₁ B hml hv
  obtain ⟨rfl, hsz, hP, hK, hD0⟩ := hv
  have hx := B.exec
  have hb := B.bytes
  have hr := B.returns
  have hts := atoms_spec (ws := Cond.code yJ7_fill_d0a16 cJ7_fill_d0a16 5 none :: wsL_law) B.pre
  have htw : ∀ w ∈ wsL_law, w.before _ s = true := fun w h => hts w (List.mem_cons_of_mem _ h)
  have hown : s.vm.findClass RJ7 = some m.cls := findClass_of_methodNamed B.named
  have hlocks := B.notSynchronized
  subst hsz
  have hD := hD0.self (sz := s.heap.size)
  generalize hAe : va_A [(eA1 ro cRo 313 f0)] s.heap.size = A at hD ⊢
  have hA : ∀ q : Nat, s.heap.size ≤ q → A q := fun q h => by rw [← hAe]; exact Or.inr h
  obtain ⟨H, rH⟩ : ∃ z : Heap, z = s.heap := ⟨_, rfl⟩
  have hS : va_S A s.heap H [] := by rw [rH]; exact va_S.rf
  have hP : va_P (dC, dI) vwCl [(eA1 ro cRo 313 f0)] H := by rw [rH]; exact hP
  rw [← rH]
  have hl := lv_entry ([.ref ro, .long a1]) (n := 5) (Nat.le_of_ble_eq_true rfl)
  rw [lg_entry_eq]
  generalize (lg_sl ([.ref ro, .long a1]) ++ List.replicate (5 - (lg_sl ([.ref ro, .long a1])).length) Slot.unset).toArray = ls at hl ⊢
  have hl : lv_has ls 5 [(0, .ref ro), (1, .long a1)] := hl
  refine lv_iconst (v := 0) hx hb dJ7_fill_d0a16_0 (by decide) ?_
  refine lv_istore_n (lv' := [(3, .int 0), (0, .ref ro), (1, .long a1)]) hx hb dJ7_fill_d0a16_1 rfl hl (by decide) rfl (fun ls hl => ?_)
  refine lv_aload_n hx hb dJ7_fill_d0a16_2 rfl (lv_at hl 1 rfl) ?_
  refine va_alen hx hb hK hP 0 0 rfl rfl (v := 313) rfl dJ7_fill_d0a16_3 ?_
  refine lv_istore (lv' := [(4, .int 313), (3, .int 0), (0, .ref ro), (1, .long a1)]) hx hb dJ7_fill_d0a16_4 hl (by decide) rfl (fun ls hl => ?_)
  have hloop_1 : ∀ (n : Nat) (L3d : Int32) (f0_d : Nat → Int64) (h0_d : ¬ L3d < 0) (hf_d : (313 : Int32).toInt ≤ L3d.toInt + (n : Int)) (hI_d : fj_fillJ f0 a1 = fj_fillJ_d a1 n L3d f0_d) (H : Heap) (locs : List Loc) (ls : Array Slot) (hP : va_P (dC, dI) vwCl [(eA1 ro cRo 313 f0_d)] H) (hD : va_D A [(eA1 ro cRo 313 f0_d)]) (hS : va_S A s.heap H locs) (hl : lv_has ls 5 [(4, .int 313), (3, .int L3d), (0, .ref ro), (1, .long a1)]), W p l e (headSpec (Cond.code yJ7_fill_d0a16 cJ7_fill_d0a16 5 none :: wsL_law) ({ frames := 0, cells := 0, slots := 0, locals := 0 })).room s m ([.ref ro, .long a1] : List Value).toArray below meth c H locs 0 0 (MQ below (va_Qv (fun (u : (Nat → Int64)) => u = fj_fillJ f0 a1) (fun (u : (Nat → Int64)) t => va_P (dC, dI) vwCl [(eA1 ro cRo 313 u)] t.heap ∧ va_K (dC, dI) vwCl [] t ∧ va_D A [(eA1 ro cRo 313 u)]) A) ([.ref ro, .long a1] : List Value).toArray s 0 0 A) (F0 m 6 ls []) := by
    intro n
    induction n with
    | zero =>
      intro L3d f0_d h0_d hf_d hI_d H locs ls hP hD hS hl
      refine lv_iload_n hx hb dJ7_fill_d0a16_6 rfl (lv_at hl 1 rfl) ?_
      refine lv_iload hx hb dJ7_fill_d0a16_7 (lv_at hl 0 rfl) ?_
      refine lv_icmp_ge (tgt := 22) hx hb dJ7_fill_d0a16_9 (by decide) (fun c_2 => ?_) (fun c_2 => absurd c_2 (fun h => h (xi_z hf_d)))
      refine W.widen (k := 0) (n := 0) (by omega) (by omega) ?_
      obtain ⟨hP9, hD9⟩ := zsub2 (ws' := [(eA1 ro cRo 313 f0_d)]) hP hD [0] (by decide) rfl
      have hK9 := hK.sub (tys' := []) [] rfl
      exact W.vret hx hb hr (fun t ht hW => ⟨⟨f0_d, rfl, (Eq.symm (hI_d.trans (by rw [fj_fillJ_d]; try rfl))), by rw [ht]; exact hP9, va_K.moved hW.alike hK9, hD9⟩, hS.F ht⟩) hS.2.2 dJ7_fill_d0a16_22
    | succ n ih =>
      intro L3d f0_d h0_d hf_d hI_d H locs ls hP hD hS hl
      refine lv_iload_n hx hb dJ7_fill_d0a16_6 rfl (lv_at hl 1 rfl) ?_
      refine lv_iload hx hb dJ7_fill_d0a16_7 (lv_at hl 0 rfl) ?_
      refine lv_icmp_ge (tgt := 22) hx hb dJ7_fill_d0a16_9 (by decide) (fun c_3 => ?_) (fun c_3 => ?_)
      · refine W.widen (k := 0) (n := 0) (by omega) (by omega) ?_
        obtain ⟨hP9, hD9⟩ := zsub2 (ws' := [(eA1 ro cRo 313 f0_d)]) hP hD [0] (by decide) rfl
        have hK9 := hK.sub (tys' := []) [] rfl
        exact W.vret hx hb hr (fun t ht hW => ⟨⟨f0_d, rfl, (Eq.symm (hI_d.trans (by rw [fj_fillJ_d]; (try rw [if_pos c_3]); try rfl))), by rw [ht]; exact hP9, va_K.moved hW.alike hK9, hD9⟩, hS.F ht⟩) hS.2.2 dJ7_fill_d0a16_22
      · refine lv_aload_n hx hb dJ7_fill_d0a16_12 rfl (lv_at hl 2 rfl) ?_
        refine lv_iload_n hx hb dJ7_fill_d0a16_13 rfl (lv_at hl 1 rfl) ?_
        refine lv_lload_n hx hb dJ7_fill_d0a16_14 rfl (lv_at hl 3 rfl) ?_
        refine va_last hx hb hK hP hD hS 0 0 rfl rfl (xg_inr (N := 313) rfl (gj_fillJ_s0 (y0 := L3d) c_3 h0_d).1 (gj_fillJ_s0 (y0 := L3d) c_3 h0_d).2) dJ7_fill_d0a16_15 (fun H locs hP hD hS => ?_)
        obtain ⟨hP, hD⟩ := zre [(eA1 ro cRo 313 (vp_updL f0_d L3d.toNatClampNeg a1))] hP hD rfl
        refine lv_iinc (v := (L3d + 1)) (lv' := [(3, .int (L3d + 1)), (4, .int 313), (0, .ref ro), (1, .long a1)]) hx hb dJ7_fill_d0a16_16 hl (k := 1) rfl (rfl) (by decide) rfl (fun ls hl => ?_)
        refine lv_goto (tgt := 6) hx hb dJ7_fill_d0a16_19 (by decide) ?_
        exact ih (L3d + 1) (vp_updL f0_d L3d.toNatClampNeg a1) (gj_fillJ_s1 (y0 := L3d) c_3 h0_d) (by rw [xi_s' c_3]; omega) (hI_d.trans (by rw [fj_fillJ_d]; (try rw [if_neg c_3]); try rfl)) H locs ls hP hD hS (lv_sub hl [1, 0, 2, 3] rfl)
  exact hloop_1 313 (0 : Int32) f0 (gj_fillJ_s2 ) (by decide) ((by rw [fj_fillJ])) _ _ ls hP hD hS (lv_sub hl [0, 1, 2, 3] rfl)

def fd_fillAll_d (a1 : Int32) : Nat → (Int32) → (Nat → Int64) → (Int32) × (Nat → Int64)
  | 0, L5d, f0_d => (L5d, f0_d)
  | n + 1, L5d, f0_d => (if (a1 >>> (6 &&& 31)) < L5d then (L5d, f0_d) else fd_fillAll_d a1 n (L5d + 1) (vp_updL f0_d L5d.toNatClampNeg (-1)))
def fd_fillAll (f0 : Nat → Int64) (a0 : Int32) (a1 : Int32) : (Nat → Int64) := (if (a0 >>> (6 &&& 31)) < (0 : Int32) then f0 else (if (a1 >>> (6 &&& 31)) < (313 : Int32) then (xL (fd_fillAll_d a1 313 (a0 >>> (6 &&& 31)) f0) (fun X_3 => (vp_updL (vp_updL X_3.2 ((a0 >>> (6 &&& 31)).toNatClampNeg) ((X_3.2 ((a0 >>> (6 &&& 31)).toNatClampNeg)) &&& ((-1) <<< ((a0 &&& 63).toInt64 &&& 63)))) ((a1 >>> (6 &&& 31)).toNatClampNeg) (((vp_updL X_3.2 ((a0 >>> (6 &&& 31)).toNatClampNeg) ((X_3.2 ((a0 >>> (6 &&& 31)).toNatClampNeg)) &&& ((-1) <<< ((a0 &&& 63).toInt64 &&& 63)))) ((a1 >>> (6 &&& 31)).toNatClampNeg)) &&& (((-1 : Int64).toUInt64 >>> ((63 - (a1 &&& 63)).toInt64.toUInt64 &&& Int64.toUInt64 63)).toInt64))))) else f0))
theorem gd_fillAll_s0 {y0 : Int32} {y1 : Int32} (h0 : ¬ (y0 < 0)) (h1 : y1 < 313) (h2 : y0 ≤ y1) : ¬ (y0 < 0) ∧ ¬ (313 ≤ y0) := by lia
theorem gd_fillAll_s1 {y0 : Int32} {y1 : Int32} (h0 : ¬ (y0 < 0)) (h1 : y1 < 313) (h2 : y0 ≤ y1) : ¬ (y0 < 0) ∧ ¬ (313 ≤ y0) := by lia
theorem gd_fillAll_s2 {y0 : Int32} {y1 : Int32} (h0 : ¬ (y1 < 0)) (h1 : y0 < 313) (h2 : y1 ≤ y0) : ¬ (y0 < 0) ∧ ¬ (313 ≤ y0) := by lia
theorem gd_fillAll_s3 {y0 : Int32} {y1 : Int32} (h0 : ¬ (y1 < 0)) (h1 : y0 < 313) (h2 : y1 ≤ y0) : ¬ (y0 < 0) ∧ ¬ (313 ≤ y0) := by lia
theorem gd_fillAll_s4 {y0 : Int32} {y1 : Int32} {y2 : Int32} (h0 : ¬ (y1 < 0)) (h1 : y2 < 313) (h2 : ¬ (y2 < y0)) (h3 : ¬ (y0 < 0)) (h4 : y1 ≤ y2) : ¬ (y0 < 0) ∧ ¬ (313 ≤ y0) := by lia
theorem gd_fillAll_s5 {y0 : Int32} {y1 : Int32} {y2 : Int32} (h0 : ¬ (y1 < 0)) (h1 : y2 < 313) (h2 : ¬ (y2 < y0)) (h3 : ¬ (y0 < 0)) (h4 : y1 ≤ y2) : ¬ ((y0 + 1) < 0) := by lia
theorem gd_fillAll_s6 {y0 : Int32} {y1 : Int32} {y2 : Int32} (h0 : ¬ (y1 < 0)) (h1 : y0 < 313) (h2 : ¬ (y0 < y2)) (h3 : ¬ (y2 < 0)) (h4 : y1 ≤ y0) : y0 < 2000000000 := by lia
theorem gd_fillAll_s7 {y0 : Int32} {y1 : Int32} (h0 : ¬ (y0 < 0)) (h1 : y1 < 313) (h2 : y0 ≤ y1) : ¬ (y0 < 0) := h0
theorem dX5_fillAll_0 : decode cX5_fillAll 0 = .ok (.iload_n 1, 1) := zk_27 (by decide +kernel)
theorem dX5_fillAll_1 : decode cX5_fillAll 1 = .ok (.bipush 6, 2) := zk_16 (by decide +kernel)
theorem dX5_fillAll_3 : decode cX5_fillAll 3 = .ok (.ishr, 1) := zk_122 (by decide +kernel)
theorem dX5_fillAll_4 : decode cX5_fillAll 4 = .ok (.istore_n 3, 1) := zk_62 (by decide +kernel)
theorem dX5_fillAll_5 : decode cX5_fillAll 5 = .ok (.iload_n 2, 1) := zk_28 (by decide +kernel)
theorem dX5_fillAll_6 : decode cX5_fillAll 6 = .ok (.bipush 6, 2) := zk_16 (by decide +kernel)
theorem dX5_fillAll_8 : decode cX5_fillAll 8 = .ok (.ishr, 1) := zk_122 (by decide +kernel)
theorem dX5_fillAll_9 : decode cX5_fillAll 9 = .ok (.istore 4, 2) := zk_54 (by decide +kernel)
theorem dX5_fillAll_11 : decode cX5_fillAll 11 = .ok (.iload_n 3, 1) := zk_29 (by decide +kernel)
theorem dX5_fillAll_12 : decode cX5_fillAll 12 = .ok (.ifCond .lt 10, 3) := zk_155 (by decide +kernel)
theorem dX5_fillAll_22 : decode cX5_fillAll 22 = .ok (.return_, 1) := zk_177 (by decide +kernel)
theorem dX5_fillAll_15 : decode cX5_fillAll 15 = .ok (.iload 4, 2) := zk_21 (by decide +kernel)
theorem dX5_fillAll_17 : decode cX5_fillAll 17 = .ok (.aload_n 0, 1) := zk_42 (by decide +kernel)
theorem dX5_fillAll_18 : decode cX5_fillAll 18 = .ok (.arraylength, 1) := zk_190 (by decide +kernel)
theorem dX5_fillAll_19 : decode cX5_fillAll 19 = .ok (.if_icmp .lt 4, 3) := zk_161 (by decide +kernel)
theorem dX5_fillAll_23 : decode cX5_fillAll 23 = .ok (.iload_n 3, 1) := zk_29 (by decide +kernel)
theorem dX5_fillAll_24 : decode cX5_fillAll 24 = .ok (.istore 5, 2) := zk_54 (by decide +kernel)
theorem dX5_fillAll_46 : decode cX5_fillAll 46 = .ok (.aload_n 0, 1) := zk_42 (by decide +kernel)
theorem dX5_fillAll_47 : decode cX5_fillAll 47 = .ok (.iload_n 3, 1) := zk_29 (by decide +kernel)
theorem dX5_fillAll_48 : decode cX5_fillAll 48 = .ok (.dup2, 1) := zk_92 (by decide +kernel)
theorem dX5_fillAll_49 : decode cX5_fillAll 49 = .ok (.laload, 1) := zk_47 (by decide +kernel)
theorem dX5_fillAll_50 : decode cX5_fillAll 50 = .ok (.ldc2_w 127, 3) := zk_20 (by decide +kernel)
theorem dX5_fillAll_53 : decode cX5_fillAll 53 = .ok (.iload_n 1, 1) := zk_27 (by decide +kernel)
theorem dX5_fillAll_54 : decode cX5_fillAll 54 = .ok (.bipush 63, 2) := zk_16 (by decide +kernel)
theorem dX5_fillAll_56 : decode cX5_fillAll 56 = .ok (.iand, 1) := zk_126 (by decide +kernel)
theorem dX5_fillAll_57 : decode cX5_fillAll 57 = .ok (.lshl, 1) := zk_121 (by decide +kernel)
theorem dX5_fillAll_58 : decode cX5_fillAll 58 = .ok (.land, 1) := zk_127 (by decide +kernel)
theorem dX5_fillAll_59 : decode cX5_fillAll 59 = .ok (.lastore, 1) := zk_80 (by decide +kernel)
theorem dX5_fillAll_60 : decode cX5_fillAll 60 = .ok (.aload_n 0, 1) := zk_42 (by decide +kernel)
theorem dX5_fillAll_61 : decode cX5_fillAll 61 = .ok (.iload 4, 2) := zk_21 (by decide +kernel)
theorem dX5_fillAll_63 : decode cX5_fillAll 63 = .ok (.dup2, 1) := zk_92 (by decide +kernel)
theorem dX5_fillAll_64 : decode cX5_fillAll 64 = .ok (.laload, 1) := zk_47 (by decide +kernel)
theorem dX5_fillAll_65 : decode cX5_fillAll 65 = .ok (.ldc2_w 127, 3) := zk_20 (by decide +kernel)
theorem dX5_fillAll_68 : decode cX5_fillAll 68 = .ok (.bipush 63, 2) := zk_16 (by decide +kernel)
theorem dX5_fillAll_70 : decode cX5_fillAll 70 = .ok (.iload_n 2, 1) := zk_28 (by decide +kernel)
theorem dX5_fillAll_71 : decode cX5_fillAll 71 = .ok (.bipush 63, 2) := zk_16 (by decide +kernel)
theorem dX5_fillAll_73 : decode cX5_fillAll 73 = .ok (.iand, 1) := zk_126 (by decide +kernel)
theorem dX5_fillAll_74 : decode cX5_fillAll 74 = .ok (.isub, 1) := zk_100 (by decide +kernel)
theorem dX5_fillAll_75 : decode cX5_fillAll 75 = .ok (.lushr, 1) := zk_125 (by decide +kernel)
theorem dX5_fillAll_76 : decode cX5_fillAll 76 = .ok (.land, 1) := zk_127 (by decide +kernel)
theorem dX5_fillAll_77 : decode cX5_fillAll 77 = .ok (.lastore, 1) := zk_80 (by decide +kernel)
theorem dX5_fillAll_78 : decode cX5_fillAll 78 = .ok (.return_, 1) := zk_177 (by decide +kernel)
theorem dX5_fillAll_26 : decode cX5_fillAll 26 = .ok (.iload 5, 2) := zk_21 (by decide +kernel)
theorem dX5_fillAll_28 : decode cX5_fillAll 28 = .ok (.iload 4, 2) := zk_21 (by decide +kernel)
theorem dX5_fillAll_30 : decode cX5_fillAll 30 = .ok (.if_icmp .gt 16, 3) := zk_163 (by decide +kernel)
theorem dX5_fillAll_33 : decode cX5_fillAll 33 = .ok (.aload_n 0, 1) := zk_42 (by decide +kernel)
theorem dX5_fillAll_34 : decode cX5_fillAll 34 = .ok (.iload 5, 2) := zk_21 (by decide +kernel)
theorem dX5_fillAll_36 : decode cX5_fillAll 36 = .ok (.ldc2_w 127, 3) := zk_20 (by decide +kernel)
theorem dX5_fillAll_39 : decode cX5_fillAll 39 = .ok (.lastore, 1) := zk_80 (by decide +kernel)
theorem dX5_fillAll_40 : decode cX5_fillAll 40 = .ok (.iinc 5 1, 3) := zk_132 (by decide +kernel)
theorem dX5_fillAll_43 : decode cX5_fillAll 43 = .ok (.goto (-17), 3) := zk_167 (by decide +kernel)
set_option maxHeartbeats 4000000 in
set_option maxRecDepth 100000 in
theorem gd_fillAll (l : Launch) (dC : Nat → ClassId) (dI : Nat → Nat → Nat) (ro : Nat) (cRo : ClassId) (f0 : Nat → Int64) (a0 : Int32) (a1 : Int32) (sz : Nat) (hmono : (a0 >>> (6 &&& 31)) ≤ (a1 >>> (6 &&& 31))) : Met l yX5_fillAll (Cond.code yX5_fillAll cX5_fillAll 6 none :: wsL_law) ({ frames := 0, cells := 0, slots := 0, locals := 0 }) (va_Pc [.ref ro, .int a0, .int a1] (fun U => U.heap.size = sz ∧ va_P (dC, dI) vwCl [(eA1 ro cRo 313 f0)] U.heap ∧ va_K (dC, dI) vwCl [(cRo, .long)] U ∧ va_D (fun _ => True) [(eA1 ro cRo 313 f0)])) (va_Qv (fun (u : (Nat → Int64)) => u = fd_fillAll f0 a0 a1) (fun (u : (Nat → Int64)) t => va_P (dC, dI) vwCl [(eA1 ro cRo 313 u)] t.heap ∧ va_K (dC, dI) vwCl [] t ∧ va_D (va_A [(eA1 ro cRo 313 f0)] sz) [(eA1 ro cRo 313 u)]) (va_A [(eA1 ro cRo 313 f0)] sz)) 0 0 (va_A [(eA1 ro cRo 313 f0)] sz) := by
  refine Met.ofW (cc := cX5_fillAll) (maxL := 6) (ret := none) (by decide) rfl ?_
  intro p e s m args below meth c s₁ B hml hv
  obtain ⟨rfl, hsz, hP, hK, hD0⟩ := hv
  have hx := B.exec
  have hb := B.bytes
  have hr := B.returns
  have hts := atoms_spec (ws := Cond.code yX5_fillAll cX5_fillAll 6 none :: wsL_law) B.pre
  have htw : ∀ w ∈ wsL_law, w.before _ s = true := fun w h => hts w (List.mem_cons_of_mem _ h)
  have hown : s.vm.findClass RX5 = some m.cls := findClass_of_methodNamed B.named
  have hlocks := B.notSynchronized
  subst hsz
  have hD := hD0.self (sz := s.heap.size)
  generalize hAe : va_A [(eA1 ro cRo 313 f0)] s.heap.size = A at hD ⊢
  have hA : ∀ q : Nat, s.heap.size ≤ q → A q := fun q h => by rw [← hAe]; exact Or.inr h
  obtain ⟨H, rH⟩ : ∃ z : Heap, z = s.heap := ⟨_, rfl⟩
  have hS : va_S A s.heap H [] := by rw [rH]; exact va_S.rf
  have hP : va_P (dC, dI) vwCl [(eA1 ro cRo 313 f0)] H := by rw [rH]; exact hP
  rw [← rH]
  have hl := lv_entry ([.ref ro, .int a0, .int a1]) (n := 6) (Nat.le_of_ble_eq_true rfl)
  rw [lg_entry_eq]
  generalize (lg_sl ([.ref ro, .int a0, .int a1]) ++ List.replicate (6 - (lg_sl ([.ref ro, .int a0, .int a1])).length) Slot.unset).toArray = ls at hl ⊢
  have hl : lv_has ls 6 [(0, .ref ro), (1, .int a0), (2, .int a1)] := hl
  refine lv_iload_n hx hb dX5_fillAll_0 rfl (lv_at hl 1 rfl) ?_
  refine lv_bipush (v := 6) hx hb dX5_fillAll_1 (by decide) ?_
  refine lv_ishr hx hb dX5_fillAll_3 ?_
  refine lv_istore_n (lv' := [(3, .int (a0 >>> (6 &&& 31))), (0, .ref ro), (1, .int a0), (2, .int a1)]) hx hb dX5_fillAll_4 rfl hl (by decide) rfl (fun ls hl => ?_)
  refine lv_iload_n hx hb dX5_fillAll_5 rfl (lv_at hl 3 rfl) ?_
  refine lv_bipush (v := 6) hx hb dX5_fillAll_6 (by decide) ?_
  refine lv_ishr hx hb dX5_fillAll_8 ?_
  refine lv_istore (lv' := [(4, .int (a1 >>> (6 &&& 31))), (3, .int (a0 >>> (6 &&& 31))), (0, .ref ro), (1, .int a0), (2, .int a1)]) hx hb dX5_fillAll_9 hl (by decide) rfl (fun ls hl => ?_)
  refine lv_iload_n hx hb dX5_fillAll_11 rfl (lv_at hl 1 rfl) ?_
  refine lv_if_lt (tgt := 22) hx hb dX5_fillAll_12 (by decide) (fun c_1 => ?_) (fun c_1 => ?_)
  · refine W.widen (k := 0) (n := 0) (by omega) (by omega) ?_
    have hP9 := hP
    have hD9 := hD
    have hK9 := hK.sub (tys' := []) [] rfl
    exact W.vret hx hb hr (fun t ht hW => ⟨⟨f0, rfl, (Eq.symm ((by rw [fd_fillAll]; (try rw [if_pos c_1]); try rfl))), by rw [ht]; exact hP9, va_K.moved hW.alike hK9, hD9⟩, hS.F ht⟩) hS.2.2 dX5_fillAll_22
  · refine lv_iload hx hb dX5_fillAll_15 (lv_at hl 0 rfl) ?_
    refine lv_aload_n hx hb dX5_fillAll_17 rfl (lv_at hl 2 rfl) ?_
    refine va_alen hx hb hK hP 0 0 rfl rfl (v := 313) rfl dX5_fillAll_18 ?_
    refine lv_icmp_lt (tgt := 23) hx hb dX5_fillAll_19 (by decide) (fun c_2 => ?_) (fun c_2 => ?_)
    · refine lv_iload_n hx hb dX5_fillAll_23 rfl (lv_at hl 1 rfl) ?_
      refine lv_istore (lv' := [(5, .int (a0 >>> (6 &&& 31))), (4, .int (a1 >>> (6 &&& 31))), (3, .int (a0 >>> (6 &&& 31))), (0, .ref ro), (1, .int a0), (2, .int a1)]) hx hb dX5_fillAll_24 hl (by decide) rfl (fun ls hl => ?_)
      obtain ⟨X_3, hX_3⟩ : ∃ X9 : (Int32) × (Nat → Int64), X9 = fd_fillAll_d a1 313 (a0 >>> (6 &&& 31)) f0 := ⟨_, rfl⟩
      have hexit_4 : ∀ (L5dx : Int32) (f0_dx : Nat → Int64)  (hE9 : X_3 = (L5dx, f0_dx)) (H : Heap) (locs : List Loc) (ls : Array Slot) (hP : va_P (dC, dI) vwCl [(eA1 ro cRo 313 f0_dx)] H) (hD : va_D A [(eA1 ro cRo 313 f0_dx)]) (hS : va_S A s.heap H locs) (hl : lv_has ls 6 [(5, .int L5dx), (4, .int (a1 >>> (6 &&& 31))), (3, .int (a0 >>> (6 &&& 31))), (0, .ref ro), (1, .int a0), (2, .int a1)]), W p l e (headSpec (Cond.code yX5_fillAll cX5_fillAll 6 none :: wsL_law) ({ frames := 0, cells := 0, slots := 0, locals := 0 })).room s m ([.ref ro, .int a0, .int a1] : List Value).toArray below meth c H locs 0 0 (MQ below (va_Qv (fun (u : (Nat → Int64)) => u = fd_fillAll f0 a0 a1) (fun (u : (Nat → Int64)) t => va_P (dC, dI) vwCl [(eA1 ro cRo 313 u)] t.heap ∧ va_K (dC, dI) vwCl [] t ∧ va_D A [(eA1 ro cRo 313 u)]) A) ([.ref ro, .int a0, .int a1] : List Value).toArray s 0 0 A) (F0 m 46 ls []) := by
        intro L5dx f0_dx  hE9 H locs ls hP hD hS hl
        have hq_L5dx : L5dx = X_3.1 := by rw [hE9]
        have hq_f0_dx : f0_dx = X_3.2 := by rw [hE9]
        refine lv_aload_n hx hb dX5_fillAll_46 rfl (lv_at hl 3 rfl) ?_
        refine lv_iload_n hx hb dX5_fillAll_47 rfl (lv_at hl 2 rfl) ?_
        refine lv_dup2_11 hx hb dX5_fillAll_48 rfl rfl ?_
        refine va_lald hx hb hK hP 0 0 rfl rfl (xg_inr (N := 313) rfl (gd_fillAll_s0 (y0 := a0 >>> (6 &&& 31)) (y1 := a1 >>> (6 &&& 31)) c_1 c_2 hmono).1 (gd_fillAll_s0 (y0 := a0 >>> (6 &&& 31)) (y1 := a1 >>> (6 &&& 31)) c_1 c_2 hmono).2) dX5_fillAll_49 ?_
        refine lv_ldc2 (v := (-1)) hx hb hown (htw _ (ck_56 _ (List.mem_of_getElem? (i := 22) rfl))) dX5_fillAll_50 ?_
        refine lv_iload_n hx hb dX5_fillAll_53 rfl (lv_at hl 4 rfl) ?_
        refine lv_bipush (v := 63) hx hb dX5_fillAll_54 (by decide) ?_
        refine lv_iand hx hb dX5_fillAll_56 ?_
        refine lv_lshl (v := ((-1) <<< ((a0 &&& 63).toInt64 &&& 63))) hx hb dX5_fillAll_57 rfl ?_
        refine lv_land hx hb dX5_fillAll_58 ?_
        refine va_last hx hb hK hP hD hS 0 0 rfl rfl (xg_inr (N := 313) rfl (gd_fillAll_s1 (y0 := a0 >>> (6 &&& 31)) (y1 := a1 >>> (6 &&& 31)) c_1 c_2 hmono).1 (gd_fillAll_s1 (y0 := a0 >>> (6 &&& 31)) (y1 := a1 >>> (6 &&& 31)) c_1 c_2 hmono).2) dX5_fillAll_59 (fun H locs hP hD hS => ?_)
        obtain ⟨hP, hD⟩ := zre [(eA1 ro cRo 313 (vp_updL f0_dx ((a0 >>> (6 &&& 31)).toNatClampNeg) ((f0_dx ((a0 >>> (6 &&& 31)).toNatClampNeg)) &&& ((-1) <<< ((a0 &&& 63).toInt64 &&& 63)))))] hP hD rfl
        refine lv_aload_n hx hb dX5_fillAll_60 rfl (lv_at hl 3 rfl) ?_
        refine lv_iload hx hb dX5_fillAll_61 (lv_at hl 1 rfl) ?_
        refine lv_dup2_11 hx hb dX5_fillAll_63 rfl rfl ?_
        refine va_lald hx hb hK hP 0 0 rfl rfl (xg_inr (N := 313) rfl (gd_fillAll_s2 (y0 := a1 >>> (6 &&& 31)) (y1 := a0 >>> (6 &&& 31)) c_1 c_2 hmono).1 (gd_fillAll_s2 (y0 := a1 >>> (6 &&& 31)) (y1 := a0 >>> (6 &&& 31)) c_1 c_2 hmono).2) dX5_fillAll_64 ?_
        refine lv_ldc2 (v := (-1)) hx hb hown (htw _ (ck_56 _ (List.mem_of_getElem? (i := 22) rfl))) dX5_fillAll_65 ?_
        refine lv_bipush (v := 63) hx hb dX5_fillAll_68 (by decide) ?_
        refine lv_iload_n hx hb dX5_fillAll_70 rfl (lv_at hl 5 rfl) ?_
        refine lv_bipush (v := 63) hx hb dX5_fillAll_71 (by decide) ?_
        refine lv_iand hx hb dX5_fillAll_73 ?_
        refine lv_isub hx hb dX5_fillAll_74 ?_
        refine lv_lushr (v := ((-1 : Int64).toUInt64 >>> ((63 - (a1 &&& 63)).toInt64.toUInt64 &&& Int64.toUInt64 63)).toInt64) hx hb dX5_fillAll_75 rfl ?_
        refine lv_land hx hb dX5_fillAll_76 ?_
        refine va_last hx hb hK hP hD hS 0 0 rfl rfl (xg_inr (N := 313) rfl (gd_fillAll_s3 (y0 := a1 >>> (6 &&& 31)) (y1 := a0 >>> (6 &&& 31)) c_1 c_2 hmono).1 (gd_fillAll_s3 (y0 := a1 >>> (6 &&& 31)) (y1 := a0 >>> (6 &&& 31)) c_1 c_2 hmono).2) dX5_fillAll_77 (fun H locs hP hD hS => ?_)
        obtain ⟨hP, hD⟩ := zre [(eA1 ro cRo 313 (vp_updL (vp_updL f0_dx ((a0 >>> (6 &&& 31)).toNatClampNeg) ((f0_dx ((a0 >>> (6 &&& 31)).toNatClampNeg)) &&& ((-1) <<< ((a0 &&& 63).toInt64 &&& 63)))) ((a1 >>> (6 &&& 31)).toNatClampNeg) (((vp_updL f0_dx ((a0 >>> (6 &&& 31)).toNatClampNeg) ((f0_dx ((a0 >>> (6 &&& 31)).toNatClampNeg)) &&& ((-1) <<< ((a0 &&& 63).toInt64 &&& 63)))) ((a1 >>> (6 &&& 31)).toNatClampNeg)) &&& (((-1 : Int64).toUInt64 >>> ((63 - (a1 &&& 63)).toInt64.toUInt64 &&& Int64.toUInt64 63)).toInt64))))] hP hD rfl
        refine W.widen (k := 0) (n := 0) (by omega) (by omega) ?_
        have hP9 := hP
        have hD9 := hD
        have hK9 := hK.sub (tys' := []) [] rfl
        exact W.vret hx hb hr (fun t ht hW => ⟨⟨(vp_updL (vp_updL f0_dx ((a0 >>> (6 &&& 31)).toNatClampNeg) ((f0_dx ((a0 >>> (6 &&& 31)).toNatClampNeg)) &&& ((-1) <<< ((a0 &&& 63).toInt64 &&& 63)))) ((a1 >>> (6 &&& 31)).toNatClampNeg) (((vp_updL f0_dx ((a0 >>> (6 &&& 31)).toNatClampNeg) ((f0_dx ((a0 >>> (6 &&& 31)).toNatClampNeg)) &&& ((-1) <<< ((a0 &&& 63).toInt64 &&& 63)))) ((a1 >>> (6 &&& 31)).toNatClampNeg)) &&& (((-1 : Int64).toUInt64 >>> ((63 - (a1 &&& 63)).toInt64.toUInt64 &&& Int64.toUInt64 63)).toInt64))), rfl, (Eq.symm ((by rw [fd_fillAll]; (try rw [if_neg c_1]); (try rw [if_pos c_2]); (try rw [← hX_3]); (try rw [xL_eq]); (try rw [← hq_L5dx]); (try rw [← hq_f0_dx]); try rfl))), by rw [ht]; exact hP9, va_K.moved hW.alike hK9, hD9⟩, hS.F ht⟩) hS.2.2 dX5_fillAll_78
      have hloop_7 : ∀ (n : Nat) (L5d : Int32) (f0_d : Nat → Int64) (h0_d : ¬ L5d < 0) (hf_d : (a1 >>> (6 &&& 31)).toInt < L5d.toInt + (n : Int)) (hI_d : X_3 = fd_fillAll_d a1 n L5d f0_d) (H : Heap) (locs : List Loc) (ls : Array Slot) (hP : va_P (dC, dI) vwCl [(eA1 ro cRo 313 f0_d)] H) (hD : va_D A [(eA1 ro cRo 313 f0_d)]) (hS : va_S A s.heap H locs) (hl : lv_has ls 6 [(5, .int L5d), (4, .int (a1 >>> (6 &&& 31))), (3, .int (a0 >>> (6 &&& 31))), (0, .ref ro), (1, .int a0), (2, .int a1)]), W p l e (headSpec (Cond.code yX5_fillAll cX5_fillAll 6 none :: wsL_law) ({ frames := 0, cells := 0, slots := 0, locals := 0 })).room s m ([.ref ro, .int a0, .int a1] : List Value).toArray below meth c H locs 0 0 (MQ below (va_Qv (fun (u : (Nat → Int64)) => u = fd_fillAll f0 a0 a1) (fun (u : (Nat → Int64)) t => va_P (dC, dI) vwCl [(eA1 ro cRo 313 u)] t.heap ∧ va_K (dC, dI) vwCl [] t ∧ va_D A [(eA1 ro cRo 313 u)]) A) ([.ref ro, .int a0, .int a1] : List Value).toArray s 0 0 A) (F0 m 26 ls []) := by
        intro n
        induction n with
        | zero =>
          intro L5d f0_d h0_d hf_d hI_d H locs ls hP hD hS hl
          refine lv_iload hx hb dX5_fillAll_26 (lv_at hl 0 rfl) ?_
          refine lv_iload hx hb dX5_fillAll_28 (lv_at hl 1 rfl) ?_
          refine lv_icmp_gt (tgt := 46) hx hb dX5_fillAll_30 (by decide) (fun c_8 => ?_) (fun c_8 => absurd c_8 (fun h => h (xi_zlt hf_d)))
          exact hexit_4 L5d f0_d  (hI_d.trans (by rw [fd_fillAll_d]; try rfl)) _ _ ls hP hD hS (lv_sub hl [0, 1, 2, 3, 4, 5] rfl)
        | succ n ih =>
          intro L5d f0_d h0_d hf_d hI_d H locs ls hP hD hS hl
          refine lv_iload hx hb dX5_fillAll_26 (lv_at hl 0 rfl) ?_
          refine lv_iload hx hb dX5_fillAll_28 (lv_at hl 1 rfl) ?_
          refine lv_icmp_gt (tgt := 46) hx hb dX5_fillAll_30 (by decide) (fun c_9 => ?_) (fun c_9 => ?_)
          · exact hexit_4 L5d f0_d  (hI_d.trans (by rw [fd_fillAll_d]; (try rw [if_pos c_9]); try rfl)) _ _ ls hP hD hS (lv_sub hl [0, 1, 2, 3, 4, 5] rfl)
          · refine lv_aload_n hx hb dX5_fillAll_33 rfl (lv_at hl 3 rfl) ?_
            refine lv_iload hx hb dX5_fillAll_34 (lv_at hl 0 rfl) ?_
            refine lv_ldc2 (v := (-1)) hx hb hown (htw _ (ck_56 _ (List.mem_of_getElem? (i := 22) rfl))) dX5_fillAll_36 ?_
            refine va_last hx hb hK hP hD hS 0 0 rfl rfl (xg_inr (N := 313) rfl (gd_fillAll_s4 (y0 := L5d) (y1 := a0 >>> (6 &&& 31)) (y2 := a1 >>> (6 &&& 31)) c_1 c_2 c_9 h0_d hmono).1 (gd_fillAll_s4 (y0 := L5d) (y1 := a0 >>> (6 &&& 31)) (y2 := a1 >>> (6 &&& 31)) c_1 c_2 c_9 h0_d hmono).2) dX5_fillAll_39 (fun H locs hP hD hS => ?_)
            obtain ⟨hP, hD⟩ := zre [(eA1 ro cRo 313 (vp_updL f0_d L5d.toNatClampNeg (-1)))] hP hD rfl
            refine lv_iinc (v := (L5d + 1)) (lv' := [(5, .int (L5d + 1)), (4, .int (a1 >>> (6 &&& 31))), (3, .int (a0 >>> (6 &&& 31))), (0, .ref ro), (1, .int a0), (2, .int a1)]) hx hb dX5_fillAll_40 hl (k := 0) rfl (rfl) (by decide) rfl (fun ls hl => ?_)
            refine lv_goto (tgt := 26) hx hb dX5_fillAll_43 (by decide) ?_
            exact ih (L5d + 1) (vp_updL f0_d L5d.toNatClampNeg (-1)) (gd_fillAll_s5 (y0 := L5d) (y1 := a0 >>> (6 &&& 31)) (y2 := a1 >>> (6 &&& 31)) c_1 c_2 c_9 h0_d hmono) (by rw [xi_sle c_9 (gd_fillAll_s6 (y0 := a1 >>> (6 &&& 31)) (y1 := a0 >>> (6 &&& 31)) (y2 := L5d) c_1 c_2 c_9 h0_d hmono)]; omega) (hI_d.trans (by rw [fd_fillAll_d]; (try rw [if_neg c_9]); try rfl)) H locs ls hP hD hS (lv_sub hl [0, 1, 2, 3, 4, 5] rfl)
      exact hloop_7 313 (a0 >>> (6 &&& 31)) f0 (gd_fillAll_s7 (y0 := a0 >>> (6 &&& 31)) (y1 := a1 >>> (6 &&& 31)) c_1 c_2 hmono) (by have h9 := Int32.lt_iff_toInt_lt.mp c_2; have h8 := xi_nn c_1; have e9 : (313 : Int32).toInt = 313 := rfl; omega) (hX_3) _ _ ls hP hD hS (lv_sub hl [0, 1, 2, 3, 4, 5] rfl)
    · refine W.widen (k := 0) (n := 0) (by omega) (by omega) ?_
      have hP9 := hP
      have hD9 := hD
      have hK9 := hK.sub (tys' := []) [] rfl
      exact W.vret hx hb hr (fun t ht hW => ⟨⟨f0, rfl, (Eq.symm ((by rw [fd_fillAll]; (try rw [if_neg c_1]); (try rw [if_neg c_2]); try rfl))), by rw [ht]; exact hP9, va_K.moved hW.alike hK9, hD9⟩, hS.F ht⟩) hS.2.2 dX5_fillAll_22

def fd_fill_d (fTo : Nat → Int32) (La : Nat → Nat) (FI : Nat → Int32) (GR : Nat → Int32) (FR : Nat → Int32) (wd : Int32) (wf : Int32) (mp : Int32) (mb : Int32) (mo : Int32) (sp : Int32) (sb : Int32) (fRc : Nat → Int32) (fRe : Nat → Int32) : Nat → (Int64) → (Int64) → (Int32) → (Int64) → (Int64) → (Int64) → (Int64) → (Int32) → (Int32) → (Int32) → (Int32) → (Int32) → (Nat → Int64) → (Nat → Int64) → (Nat → Int64) × (Int32) × (Int32) × (Int32) × (Int32) × (Int32) × (Value) × (Int64) × (Int64) × (Int64) × (Int64) × (Nat → Int64)
  | 0, L4d, L6d, L8d, dct_d, dyr_d, ddy_d, dlg_d, v0_d, v1_d, v2_d, v3_d, v4_d, fRs_d, f0_d => (if 0 < lg_cmp L8d.toInt64 L6d then (f0_d, v0_d, v1_d, v2_d, v3_d, v4_d, (xm_la (fb_landIs fTo (0 : Int32)) (La 0)), dct_d, dyr_d, ddy_d, dlg_d, fRs_d) else (f0_d, v0_d, v1_d, v2_d, v3_d, v4_d, (xm_la (fb_landIs fTo (0 : Int32)) (La 0)), dct_d, dyr_d, ddy_d, dlg_d, fRs_d))
  | n + 1, L4d, L6d, L8d, dct_d, dyr_d, ddy_d, dlg_d, v0_d, v1_d, v2_d, v3_d, v4_d, fRs_d, f0_d => (if 0 < lg_cmp L8d.toInt64 L6d then (f0_d, v0_d, v1_d, v2_d, v3_d, v4_d, (xm_la (fb_landIs fTo (0 : Int32)) (La 0)), dct_d, dyr_d, ddy_d, dlg_d, fRs_d) else (if 20000 ≤ L8d then (f0_d, v0_d, v1_d, v2_d, v3_d, v4_d, (xm_la (fb_landIs fTo (0 : Int32)) (La 0)), dct_d, dyr_d, ddy_d, dlg_d, fRs_d) else (xL ((fw_isMet v0_d v1_d v2_d v3_d v4_d fRc fRe fRs_d dct_d dyr_d ddy_d dlg_d wd wf mp mb mo sp sb).1) (fun r_29 => (xL ((fw_isMet v0_d v1_d v2_d v3_d v4_d fRc fRe fRs_d dct_d dyr_d ddy_d dlg_d wd wf mp mb mo sp sb).2) (fun u_30 => (if r_29 = 0 then (xL ((fm_stepU dct_d dyr_d ddy_d dlg_d (FI 0) (GR 0) (FR 0) (fb_landIs fTo (0 : Int32)))) (fun u_34 => fd_fill_d fTo La FI GR FR wd wf mp mb mo sp sb fRc fRe n L4d L6d (L8d + 1) u_34.1 u_34.2.1 u_34.2.2.1 u_34.2.2.2 v0_d v1_d v2_d v3_d v4_d u_30 f0_d)) else (xL ((fm_stepU dct_d dyr_d ddy_d dlg_d (FI 0) (GR 0) (FR 0) (fb_landIs fTo (0 : Int32)))) (fun u_41 => fd_fill_d fTo La FI GR FR wd wf mp mb mo sp sb fRc fRe n L4d L6d (L8d + 1) u_41.1 u_41.2.1 u_41.2.2.1 u_41.2.2.2 v0_d v1_d v2_d v3_d v4_d u_30 (vp_updL f0_d ((L8d >>> (6 &&& 31)).toNatClampNeg) ((f0_d ((L8d >>> (6 &&& 31)).toNatClampNeg)) ||| (1 <<< ((L8d &&& 63).toInt64 &&& 63)))))))))))))
def fd_fill (f0 : Nat → Int64) (dla : Value) (dct : Int64) (dyr : Int64) (ddy : Int64) (dlg : Int64) (v0 : Int32) (v1 : Int32) (v2 : Int32) (v3 : Int32) (v4 : Int32) (fTo : Nat → Int32) (La : Nat → Nat) (FI : Nat → Int32) (GR : Nat → Int32) (FR : Nat → Int32) (wd : Int32) (wf : Int32) (mp : Int32) (mb : Int32) (mo : Int32) (sp : Int32) (sb : Int32) (fRc : Nat → Int32) (fRe : Nat → Int32) (fRs : Nat → Int64) (fBo : Nat → Int64) (fDi : Nat → Int64) (fNs : Nat → Int32) (fNf : Nat → Int32) (fNz : Nat → Int32) (a0 : Int32) : (Nat → Int64) × (Int32) × (Int32) × (Int32) × (Int32) × (Int32) × (Value) × (Int64) × (Int64) × (Int64) × (Int64) × (Nat → Int64) := (xL ((fj_fillJ f0 (0 : Int64))) (fun u_2 => (xL ((fb_early fTo FI GR FR fBo fNs fNf a0)) (fun r_4 => (xL ((fb_late fTo FI GR FR fDi fNs fNf fNz a0)) (fun r_5 => (if lg_cmp r_4 0 < 0 then (u_2, v0, v1, v2, v3, v4, dla, dct, dyr, ddy, dlg, fRs) else (if lg_cmp r_4 (if 19999 < r_5 then 19999 else r_5) ≤ 0 then (xL ((fd_readWish fNs fNf a0)) (fun u_9 => (xL (fw_isEmpty u_9.1 u_9.2.1 u_9.2.2.1 u_9.2.2.2.1 u_9.2.2.2.2) (fun r_15 => (if r_15 = 0 then (xL ((fm_seekU (FI 0) (GR 0) (FR 0) r_4 (fb_landIs fTo (0 : Int32)))) (fun u_19 => fd_fill_d fTo La FI GR FR wd wf mp mb mo sp sb fRc fRe 20000 r_4 (if 19999 < r_5 then 19999 else r_5) r_4.toInt32 u_19.1 u_19.2.1 u_19.2.2.1 u_19.2.2.2 u_9.1 u_9.2.1 u_9.2.2.1 u_9.2.2.2.1 u_9.2.2.2.2 fRs u_2)) else (xL ((fd_fillAll u_2 r_4.toInt32 ((if 19999 < r_5 then 19999 else r_5).toInt32))) (fun u_47 => (u_47, u_9.1, u_9.2.1, u_9.2.2.1, u_9.2.2.2.1, u_9.2.2.2.2, dla, dct, dyr, ddy, dlg, fRs)))))))) else (u_2, v0, v1, v2, v3, v4, dla, dct, dyr, ddy, dlg, fRs)))))))))
theorem gd_fill_s0 {y0 : Int32} (h0 : ¬ (y0 < 0)) (h1 : y0 < 12) : ¬ (y0 < 0) ∧ ¬ (12 ≤ y0) := by lia
theorem gd_fill_s1 {y0 : Int32} (h0 : ¬ (20000 ≤ y0)) (h1 : ¬ (y0 < 0)) : ¬ ((y0 + 1) < 0) := by lia
theorem gd_fill_s2 {y0 : Int32} (h0 : ¬ (20000 ≤ y0)) (h1 : ¬ (y0 < 0)) : ¬ (y0 < 0) ∧ y0 < 20000 := by lia
theorem gd_fill_s3 {y0 : Int32} (h0 : ¬ (20000 ≤ y0)) (h1 : ¬ (y0 < 0)) : ¬ (y0 < 0) ∧ y0 < 20000 := by lia
theorem gd_fill_s4 {y0 : Int32} (h0 : ¬ (20000 ≤ y0)) (h1 : ¬ (y0 < 0)) : ¬ ((y0 + 1) < 0) := by lia
theorem gd_fill_s5 {y0 : Int64} {y1 : Int64} (h0 : ¬ (y0 < 0)) (h1 : y0 ≤ (if 19999 < y1 then 19999 else y1)) : ¬ (y0 < 0) ∧ y0 ≤ 19999 := by grind
theorem gd_fill_s6 {y0 : Int64} {y1 : Int64} (h0 : ¬ (y0 < 0)) (h1 : y0 ≤ (if 19999 < y1 then 19999 else y1)) : ¬ (y0 < 0) ∧ y0 ≤ 19999 := by grind
theorem gd_fill_s7 {y0 : Int64} {y1 : Int64} (h0 : ¬ (y0 < 0)) (h1 : y0 ≤ (if 19999 < y1 then 19999 else y1)) : ¬ (y0 < 0) ∧ y0 ≤ (if 19999 < y1 then 19999 else y1) ∧ (if 19999 < y1 then 19999 else y1) ≤ 19999 := by grind
theorem dX5_fill_0 : decode cX5_fill 0 = .ok (.aload_n 0, 1) := zk_42 (by decide +kernel)
theorem dX5_fill_1 : decode cX5_fill 1 = .ok (.getfield 13, 3) := zk_180 (by decide +kernel)
theorem dX5_fill_4 : decode cX5_fill 4 = .ok (.iload_n 1, 1) := zk_27 (by decide +kernel)
theorem dX5_fill_5 : decode cX5_fill 5 = .ok (.aaload, 1) := zk_50 (by decide +kernel)
theorem dX5_fill_6 : decode cX5_fill 6 = .ok (.astore_n 3, 1) := zk_78 (by decide +kernel)
theorem dX5_fill_7 : decode cX5_fill 7 = .ok (.aload_n 3, 1) := zk_45 (by decide +kernel)
theorem dX5_fill_8 : decode cX5_fill 8 = .ok (.lconst 0, 1) := zk_9 (by decide +kernel)
theorem dX5_fill_9 : decode cX5_fill 9 = .ok (.invokestatic 65, 3) := zk_184 (by decide +kernel)
theorem dX5_fill_12 : decode cX5_fill 12 = .ok (.aload_n 2, 1) := zk_44 (by decide +kernel)
theorem dX5_fill_13 : decode cX5_fill 13 = .ok (.iload_n 1, 1) := zk_27 (by decide +kernel)
theorem dX5_fill_14 : decode cX5_fill 14 = .ok (.invokevirtual 70, 3) := zk_182 (by decide +kernel)
theorem dX5_fill_17 : decode cX5_fill 17 = .ok (.lstore 4, 2) := zk_55 (by decide +kernel)
theorem dX5_fill_19 : decode cX5_fill 19 = .ok (.aload_n 2, 1) := zk_44 (by decide +kernel)
theorem dX5_fill_20 : decode cX5_fill 20 = .ok (.iload_n 1, 1) := zk_27 (by decide +kernel)
theorem dX5_fill_21 : decode cX5_fill 21 = .ok (.invokevirtual 74, 3) := zk_182 (by decide +kernel)
theorem dX5_fill_24 : decode cX5_fill 24 = .ok (.ldc2_w 77, 3) := zk_20 (by decide +kernel)
theorem dX5_fill_27 : decode cX5_fill 27 = .ok (.invokestatic 79, 3) := zk_184 (by decide +kernel)
theorem dX5_fill_30 : decode cX5_fill 30 = .ok (.lstore 6, 2) := zk_55 (by decide +kernel)
theorem dX5_fill_32 : decode cX5_fill 32 = .ok (.lload 4, 2) := zk_22 (by decide +kernel)
theorem dX5_fill_34 : decode cX5_fill 34 = .ok (.lconst 0, 1) := zk_9 (by decide +kernel)
theorem dX5_fill_35 : decode cX5_fill 35 = .ok (.lcmp, 1) := zk_148 (by decide +kernel)
theorem dX5_fill_36 : decode cX5_fill 36 = .ok (.ifCond .lt 11, 3) := zk_155 (by decide +kernel)
theorem dX5_fill_47 : decode cX5_fill 47 = .ok (.return_, 1) := zk_177 (by decide +kernel)
theorem dX5_fill_39 : decode cX5_fill 39 = .ok (.lload 4, 2) := zk_22 (by decide +kernel)
theorem dX5_fill_41 : decode cX5_fill 41 = .ok (.lload 6, 2) := zk_22 (by decide +kernel)
theorem dX5_fill_43 : decode cX5_fill 43 = .ok (.lcmp, 1) := zk_148 (by decide +kernel)
theorem dX5_fill_44 : decode cX5_fill 44 = .ok (.ifCond .le 4, 3) := zk_158 (by decide +kernel)
theorem dX5_fill_48 : decode cX5_fill 48 = .ok (.aload_n 0, 1) := zk_42 (by decide +kernel)
theorem dX5_fill_49 : decode cX5_fill 49 = .ok (.aload_n 2, 1) := zk_44 (by decide +kernel)
theorem dX5_fill_50 : decode cX5_fill 50 = .ok (.getfield 50, 3) := zk_180 (by decide +kernel)
theorem dX5_fill_53 : decode cX5_fill 53 = .ok (.iload_n 1, 1) := zk_27 (by decide +kernel)
theorem dX5_fill_54 : decode cX5_fill 54 = .ok (.invokevirtual 82, 3) := zk_182 (by decide +kernel)
theorem dX5_fill_57 : decode cX5_fill 57 = .ok (.aload_n 0, 1) := zk_42 (by decide +kernel)
theorem dX5_fill_58 : decode cX5_fill 58 = .ok (.getfield 33, 3) := zk_180 (by decide +kernel)
theorem dX5_fill_61 : decode cX5_fill 61 = .ok (.invokevirtual 86, 3) := zk_182 (by decide +kernel)
theorem dX5_fill_64 : decode cX5_fill 64 = .ok (.ifCond .eq 14, 3) := zk_153 (by decide +kernel)
theorem dX5_fill_78 : decode cX5_fill 78 = .ok (.aload_n 0, 1) := zk_42 (by decide +kernel)
theorem dX5_fill_79 : decode cX5_fill 79 = .ok (.getfield 26, 3) := zk_180 (by decide +kernel)
theorem dX5_fill_82 : decode cX5_fill 82 = .ok (.aload_n 2, 1) := zk_44 (by decide +kernel)
theorem dX5_fill_83 : decode cX5_fill 83 = .ok (.iconst 0, 1) := zk_3 (by decide +kernel)
theorem dX5_fill_84 : decode cX5_fill 84 = .ok (.invokevirtual 94, 3) := zk_182 (by decide +kernel)
theorem dX5_fill_87 : decode cX5_fill 87 = .ok (.lload 4, 2) := zk_22 (by decide +kernel)
theorem dX5_fill_89 : decode cX5_fill 89 = .ok (.invokevirtual 98, 3) := zk_182 (by decide +kernel)
theorem dX5_fill_92 : decode cX5_fill 92 = .ok (.lload 4, 2) := zk_22 (by decide +kernel)
theorem dX5_fill_94 : decode cX5_fill 94 = .ok (.l2i, 1) := zk_136 (by decide +kernel)
theorem dX5_fill_95 : decode cX5_fill 95 = .ok (.istore 8, 2) := zk_54 (by decide +kernel)
theorem dX5_fill_97 : decode cX5_fill 97 = .ok (.iload 8, 2) := zk_21 (by decide +kernel)
theorem dX5_fill_99 : decode cX5_fill 99 = .ok (.i2l, 1) := zk_133 (by decide +kernel)
theorem dX5_fill_100 : decode cX5_fill 100 = .ok (.lload 6, 2) := zk_22 (by decide +kernel)
theorem dX5_fill_102 : decode cX5_fill 102 = .ok (.lcmp, 1) := zk_148 (by decide +kernel)
theorem dX5_fill_103 : decode cX5_fill 103 = .ok (.ifCond .gt 56, 3) := zk_157 (by decide +kernel)
theorem dX5_fill_159 : decode cX5_fill 159 = .ok (.return_, 1) := zk_177 (by decide +kernel)
theorem dX5_fill_106 : decode cX5_fill 106 = .ok (.iload 8, 2) := zk_21 (by decide +kernel)
theorem dX5_fill_108 : decode cX5_fill 108 = .ok (.sipush 20000, 3) := zk_17 (by decide +kernel)
theorem dX5_fill_111 : decode cX5_fill 111 = .ok (.if_icmp .ge 48, 3) := zk_162 (by decide +kernel)
theorem dX5_fill_114 : decode cX5_fill 114 = .ok (.aload_n 0, 1) := zk_42 (by decide +kernel)
theorem dX5_fill_115 : decode cX5_fill 115 = .ok (.getfield 33, 3) := zk_180 (by decide +kernel)
theorem dX5_fill_118 : decode cX5_fill 118 = .ok (.aload_n 0, 1) := zk_42 (by decide +kernel)
theorem dX5_fill_119 : decode cX5_fill 119 = .ok (.getfield 26, 3) := zk_180 (by decide +kernel)
theorem dX5_fill_122 : decode cX5_fill 122 = .ok (.aload_n 2, 1) := zk_44 (by decide +kernel)
theorem dX5_fill_123 : decode cX5_fill 123 = .ok (.invokevirtual 102, 3) := zk_182 (by decide +kernel)
theorem dX5_fill_126 : decode cX5_fill 126 = .ok (.ifCond .eq 20, 3) := zk_153 (by decide +kernel)
theorem dX5_fill_146 : decode cX5_fill 146 = .ok (.aload_n 0, 1) := zk_42 (by decide +kernel)
theorem dX5_fill_147 : decode cX5_fill 147 = .ok (.getfield 26, 3) := zk_180 (by decide +kernel)
theorem dX5_fill_150 : decode cX5_fill 150 = .ok (.invokevirtual 106, 3) := zk_182 (by decide +kernel)
theorem dX5_fill_153 : decode cX5_fill 153 = .ok (.iinc 8 1, 3) := zk_132 (by decide +kernel)
theorem dX5_fill_156 : decode cX5_fill 156 = .ok (.goto (-59), 3) := zk_167 (by decide +kernel)
theorem dX5_fill_129 : decode cX5_fill 129 = .ok (.aload_n 3, 1) := zk_45 (by decide +kernel)
theorem dX5_fill_130 : decode cX5_fill 130 = .ok (.iload 8, 2) := zk_21 (by decide +kernel)
theorem dX5_fill_132 : decode cX5_fill 132 = .ok (.bipush 6, 2) := zk_16 (by decide +kernel)
theorem dX5_fill_134 : decode cX5_fill 134 = .ok (.ishr, 1) := zk_122 (by decide +kernel)
theorem dX5_fill_135 : decode cX5_fill 135 = .ok (.dup2, 1) := zk_92 (by decide +kernel)
theorem dX5_fill_136 : decode cX5_fill 136 = .ok (.laload, 1) := zk_47 (by decide +kernel)
theorem dX5_fill_137 : decode cX5_fill 137 = .ok (.lconst 1, 1) := zk_10 (by decide +kernel)
theorem dX5_fill_138 : decode cX5_fill 138 = .ok (.iload 8, 2) := zk_21 (by decide +kernel)
theorem dX5_fill_140 : decode cX5_fill 140 = .ok (.bipush 63, 2) := zk_16 (by decide +kernel)
theorem dX5_fill_142 : decode cX5_fill 142 = .ok (.iand, 1) := zk_126 (by decide +kernel)
theorem dX5_fill_143 : decode cX5_fill 143 = .ok (.lshl, 1) := zk_121 (by decide +kernel)
theorem dX5_fill_144 : decode cX5_fill 144 = .ok (.lor, 1) := zk_129 (by decide +kernel)
theorem dX5_fill_145 : decode cX5_fill 145 = .ok (.lastore, 1) := zk_80 (by decide +kernel)
theorem dX5_fill_67 : decode cX5_fill 67 = .ok (.aload_n 3, 1) := zk_45 (by decide +kernel)
theorem dX5_fill_68 : decode cX5_fill 68 = .ok (.lload 4, 2) := zk_22 (by decide +kernel)
theorem dX5_fill_70 : decode cX5_fill 70 = .ok (.l2i, 1) := zk_136 (by decide +kernel)
theorem dX5_fill_71 : decode cX5_fill 71 = .ok (.lload 6, 2) := zk_22 (by decide +kernel)
theorem dX5_fill_73 : decode cX5_fill 73 = .ok (.l2i, 1) := zk_136 (by decide +kernel)
theorem dX5_fill_74 : decode cX5_fill 74 = .ok (.invokestatic 90, 3) := zk_184 (by decide +kernel)
theorem dX5_fill_77 : decode cX5_fill 77 = .ok (.return_, 1) := zk_177 (by decide +kernel)
set_option maxHeartbeats 4000000 in
set_option maxRecDepth 100000 in
theorem gd_fill (l : Launch) (dC : Nat → ClassId) (dI : Nat → Nat → Nat) (xdy : Nat) (drw : Nat) (dfr : Int32) (dsh : Nat) (dto : Nat) (dmo : Nat) (dwi : Nat) (cDr : ClassId) (Rw : Nat → Nat) (cRr : ClassId) (f0 : Nat → Int64) (dla : Value) (dct : Int64) (dyr : Int64) (ddy : Int64) (dlg : Int64) (v0 : Int32) (v1 : Int32) (v2 : Int32) (v3 : Int32) (v4 : Int32) (bk : Nat) (bto : Nat) (bnm : Nat) (bla : Nat) (bsk : Nat) (bru : Nat) (bbo : Nat) (bdi : Nat) (bda : Nat) (bdk : Nat) (bdt : Nat) (bdp : Nat) (bno : Nat) (cTo : ClassId) (fTo : Nat → Int32) (cLa : ClassId) (La : Nat → Nat) (FI : Nat → Int32) (GR : Nat → Int32) (FR : Nat → Int32) (wd : Int32) (wf : Int32) (mp : Int32) (mb : Int32) (mo : Int32) (sp : Int32) (sb : Int32) (rco : Nat) (rsz : Int32) (ren : Nat) (rst : Nat) (rkn : Int32) (cRc : ClassId) (fRc : Nat → Int32) (cRe : ClassId) (fRe : Nat → Int32) (cRs : ClassId) (fRs : Nat → Int64) (cBb : ClassId) (fBo : Nat → Int64) (cBi : ClassId) (fDi : Nat → Int64) (ns : Int32) (nsa : Nat) (nfa : Nat) (nza : Nat) (cNs : ClassId) (fNs : Nat → Int32) (cNf : ClassId) (fNf : Nat → Int32) (cNz : ClassId) (fNz : Nat → Int32) (a0 : Int32) (sz : Nat) (hn0 : ¬ a0 < 0) (hn2 : a0 < 12) (ht2 : (fTo 2) ≤ 6) (hE : ∀ k, ¬ fRe k < 0) : Met l yX5_fill (Cond.code yX5_fill cX5_fill 9 none :: wsL_law) ({ frames := 5, cells := 0, slots := 0, locals := 128 }) (va_Pc [.ref xdy, .int a0, .ref bk] (fun U => U.heap.size = sz ∧ va_P (dC, dI) vwCl [(eO5a xdy drw dfr dsh dto dmo dwi), (eA4 drw cDr 12 (fun k => some (Rw k))), ((Rw a0.toNatClampNeg), .inl (cRr, 313, .inr (.inl f0))), (dmo, .inr (4, [dla, .long dct, .long dyr, .long ddy, .long dlg])), (eO10a dwi v0 v1 v2 v3 v4), (eO0a bk bto bnm bla bsk bru bbo bdi bda bdk bdt bdp bno), (eA0 bto cTo 5 fTo), (eA4 bla cLa 4 (fun k => some (La k))), (eO1a (La 0) (FI 0) (GR 0) (FR 0)), (eO9a bsk wd wf mp mb mo sp sb), (eO8a bru rco rsz ren rst rkn), (eA0 rco cRc 64 fRc), (eA0 ren cRe 4 fRe), (eA1 rst cRs 64 fRs), (eA1 bbo cBb 6 fBo), (eA1 bdi cBi 6 fDi), (eO6a bno ns nsa nfa nza), (eA0 nsa cNs 12 fNs), (eA0 nfa cNf 96 fNf), (eA0 nza cNz 96 fNz)] U.heap ∧ va_K (dC, dI) vwCl [(cDr, .array .long), (cRr, .long), (cTo, .int), (cLa, .object RX1), (cRc, .int), (cRe, .int), (cRs, .long), (cBb, .long), (cBi, .long), (cNs, .int), (cNf, .int), (cNz, .int)] U ∧ va_D (fun _ => True) [(eO5a xdy drw dfr dsh dto dmo dwi), (eA4 drw cDr 12 (fun k => some (Rw k))), ((Rw a0.toNatClampNeg), .inl (cRr, 313, .inr (.inl f0))), (dmo, .inr (4, [dla, .long dct, .long dyr, .long ddy, .long dlg])), (eO10a dwi v0 v1 v2 v3 v4), (eO0a bk bto bnm bla bsk bru bbo bdi bda bdk bdt bdp bno), (eA0 bto cTo 5 fTo), (eA4 bla cLa 4 (fun k => some (La k))), (eO1a (La 0) (FI 0) (GR 0) (FR 0)), (eO9a bsk wd wf mp mb mo sp sb), (eO8a bru rco rsz ren rst rkn), (eA0 rco cRc 64 fRc), (eA0 ren cRe 4 fRe), (eA1 rst cRs 64 fRs), (eA1 bbo cBb 6 fBo), (eA1 bdi cBi 6 fDi), (eO6a bno ns nsa nfa nza), (eA0 nsa cNs 12 fNs), (eA0 nfa cNf 96 fNf), (eA0 nza cNz 96 fNz)] ∧ xN U)) (va_Qv (fun (u : (Nat → Int64) × (Int32) × (Int32) × (Int32) × (Int32) × (Int32) × (Value) × (Int64) × (Int64) × (Int64) × (Int64) × (Nat → Int64)) => u = fd_fill f0 dla dct dyr ddy dlg v0 v1 v2 v3 v4 fTo La FI GR FR wd wf mp mb mo sp sb fRc fRe fRs fBo fDi fNs fNf fNz a0) (fun (u : (Nat → Int64) × (Int32) × (Int32) × (Int32) × (Int32) × (Int32) × (Value) × (Int64) × (Int64) × (Int64) × (Int64) × (Nat → Int64)) t => va_P (dC, dI) vwCl [(eO5a xdy drw dfr dsh dto dmo dwi), (eA4 drw cDr 12 (fun k => some (Rw k))), ((Rw a0.toNatClampNeg), .inl (cRr, 313, .inr (.inl u.1))), (dmo, .inr (4, [u.2.2.2.2.2.2.1, .long u.2.2.2.2.2.2.2.1, .long u.2.2.2.2.2.2.2.2.1, .long u.2.2.2.2.2.2.2.2.2.1, .long u.2.2.2.2.2.2.2.2.2.2.1])), (eO10a dwi u.2.1 u.2.2.1 u.2.2.2.1 u.2.2.2.2.1 u.2.2.2.2.2.1), (eO0a bk bto bnm bla bsk bru bbo bdi bda bdk bdt bdp bno), (eA0 bto cTo 5 fTo), (eA4 bla cLa 4 (fun k => some (La k))), (eO1a (La 0) (FI 0) (GR 0) (FR 0)), (eO9a bsk wd wf mp mb mo sp sb), (eO8a bru rco rsz ren rst rkn), (eA0 rco cRc 64 fRc), (eA0 ren cRe 4 fRe), (eA1 rst cRs 64 u.2.2.2.2.2.2.2.2.2.2.2), (eA1 bbo cBb 6 fBo), (eA1 bdi cBi 6 fDi), (eO6a bno ns nsa nfa nza), (eA0 nsa cNs 12 fNs), (eA0 nfa cNf 96 fNf), (eA0 nza cNz 96 fNz)] t.heap ∧ va_K (dC, dI) vwCl [] t ∧ va_D (va_A [(eO5a xdy drw dfr dsh dto dmo dwi), (eA4 drw cDr 12 (fun k => some (Rw k))), ((Rw a0.toNatClampNeg), .inl (cRr, 313, .inr (.inl f0))), (dmo, .inr (4, [dla, .long dct, .long dyr, .long ddy, .long dlg])), (eO10a dwi v0 v1 v2 v3 v4), (eO0a bk bto bnm bla bsk bru bbo bdi bda bdk bdt bdp bno), (eA0 bto cTo 5 fTo), (eA4 bla cLa 4 (fun k => some (La k))), (eO1a (La 0) (FI 0) (GR 0) (FR 0)), (eO9a bsk wd wf mp mb mo sp sb), (eO8a bru rco rsz ren rst rkn), (eA0 rco cRc 64 fRc), (eA0 ren cRe 4 fRe), (eA1 rst cRs 64 fRs), (eA1 bbo cBb 6 fBo), (eA1 bdi cBi 6 fDi), (eO6a bno ns nsa nfa nza), (eA0 nsa cNs 12 fNs), (eA0 nfa cNf 96 fNf), (eA0 nza cNz 96 fNz)] sz) [(eO5a xdy drw dfr dsh dto dmo dwi), (eA4 drw cDr 12 (fun k => some (Rw k))), ((Rw a0.toNatClampNeg), .inl (cRr, 313, .inr (.inl u.1))), (dmo, .inr (4, [u.2.2.2.2.2.2.1, .long u.2.2.2.2.2.2.2.1, .long u.2.2.2.2.2.2.2.2.1, .long u.2.2.2.2.2.2.2.2.2.1, .long u.2.2.2.2.2.2.2.2.2.2.1])), (eO10a dwi u.2.1 u.2.2.1 u.2.2.2.1 u.2.2.2.2.1 u.2.2.2.2.2.1), (eO0a bk bto bnm bla bsk bru bbo bdi bda bdk bdt bdp bno), (eA0 bto cTo 5 fTo), (eA4 bla cLa 4 (fun k => some (La k))), (eO1a (La 0) (FI 0) (GR 0) (FR 0)), (eO9a bsk wd wf mp mb mo sp sb), (eO8a bru rco rsz ren rst rkn), (eA0 rco cRc 64 fRc), (eA0 ren cRe 4 fRe), (eA1 rst cRs 64 u.2.2.2.2.2.2.2.2.2.2.2), (eA1 bbo cBb 6 fBo), (eA1 bdi cBi 6 fDi), (eO6a bno ns nsa nfa nza), (eA0 nsa cNs 12 fNs), (eA0 nfa cNf 96 fNf), (eA0 nza cNz 96 fNz)]) (va_A [(eO5a xdy drw dfr dsh dto dmo dwi), (eA4 drw cDr 12 (fun k => some (Rw k))), ((Rw a0.toNatClampNeg), .inl (cRr, 313, .inr (.inl f0))), (dmo, .inr (4, [dla, .long dct, .long dyr, .long ddy, .long dlg])), (eO10a dwi v0 v1 v2 v3 v4), (eO0a bk bto bnm bla bsk bru bbo bdi bda bdk bdt bdp bno), (eA0 bto cTo 5 fTo), (eA4 bla cLa 4 (fun k => some (La k))), (eO1a (La 0) (FI 0) (GR 0) (FR 0)), (eO9a bsk wd wf mp mb mo sp sb), (eO8a bru rco rsz ren rst rkn), (eA0 rco cRc 64 fRc), (eA0 ren cRe 4 fRe), (eA1 rst cRs 64 fRs), (eA1 bbo cBb 6 fBo), (eA1 bdi cBi 6 fDi), (eO6a bno ns nsa nfa nza), (eA0 nsa cNs 12 fNs), (eA0 nfa cNf 96 fNf), (eA0 nza cNz 96 fNz)] sz)) 0 0 (va_A [(eO5a xdy drw dfr dsh dto dmo dwi), (eA4 drw cDr 12 (fun k => some (Rw k))), ((Rw a0.toNatClampNeg), .inl (cRr, 313, .inr (.inl f0))), (dmo, .inr (4, [dla, .long dct, .long dyr, .long ddy, .long dlg])), (eO10a dwi v0 v1 v2 v3 v4), (eO0a bk bto bnm bla bsk bru bbo bdi bda bdk bdt bdp bno), (eA0 bto cTo 5 fTo), (eA4 bla cLa 4 (fun k => some (La k))), (eO1a (La 0) (FI 0) (GR 0) (FR 0)), (eO9a bsk wd wf mp mb mo sp sb), (eO8a bru rco rsz ren rst rkn), (eA0 rco cRc 64 fRc), (eA0 ren cRe 4 fRe), (eA1 rst cRs 64 fRs), (eA1 bbo cBb 6 fBo), (eA1 bdi cBi 6 fDi), (eO6a bno ns nsa nfa nza), (eA0 nsa cNs 12 fNs), (eA0 nfa cNf 96 fNf), (eA0 nza cNz 96 fNz)] sz) := by
  refine Met.ofW (cc := cX5_fill) (maxL := 9) (ret := none) (by decide) rfl ?_
  intro p e s m args below meth c s₁ B hml hv
  obtain ⟨rfl, hsz, hP, hK, hD0, hNx⟩ := hv
  have hx := B.exec
  have hb := B.bytes
  have hr := B.returns
  have hts := atoms_spec (ws := Cond.code yX5_fill cX5_fill 9 none :: wsL_law) B.pre
  have htw : ∀ w ∈ wsL_law, w.before _ s = true := fun w h => hts w (List.mem_cons_of_mem _ h)
  have hown : s.vm.findClass RX5 = some m.cls := findClass_of_methodNamed B.named
  have hlocks := B.notSynchronized
  subst hsz
  have hD := hD0.self (sz := s.heap.size)
  generalize hAe : va_A [(eO5a xdy drw dfr dsh dto dmo dwi), (eA4 drw cDr 12 (fun k => some (Rw k))), ((Rw a0.toNatClampNeg), .inl (cRr, 313, .inr (.inl f0))), (dmo, .inr (4, [dla, .long dct, .long dyr, .long ddy, .long dlg])), (eO10a dwi v0 v1 v2 v3 v4), (eO0a bk bto bnm bla bsk bru bbo bdi bda bdk bdt bdp bno), (eA0 bto cTo 5 fTo), (eA4 bla cLa 4 (fun k => some (La k))), (eO1a (La 0) (FI 0) (GR 0) (FR 0)), (eO9a bsk wd wf mp mb mo sp sb), (eO8a bru rco rsz ren rst rkn), (eA0 rco cRc 64 fRc), (eA0 ren cRe 4 fRe), (eA1 rst cRs 64 fRs), (eA1 bbo cBb 6 fBo), (eA1 bdi cBi 6 fDi), (eO6a bno ns nsa nfa nza), (eA0 nsa cNs 12 fNs), (eA0 nfa cNf 96 fNf), (eA0 nza cNz 96 fNz)] s.heap.size = A at hD ⊢
  have hA : ∀ q : Nat, s.heap.size ≤ q → A q := fun q h => by rw [← hAe]; exact Or.inr h
  obtain ⟨H, rH⟩ : ∃ z : Heap, z = s.heap := ⟨_, rfl⟩
  have hS : va_S A s.heap H [] := by rw [rH]; exact va_S.rf
  have hP : va_P (dC, dI) vwCl [(eO5a xdy drw dfr dsh dto dmo dwi), (eA4 drw cDr 12 (fun k => some (Rw k))), ((Rw a0.toNatClampNeg), .inl (cRr, 313, .inr (.inl f0))), (dmo, .inr (4, [dla, .long dct, .long dyr, .long ddy, .long dlg])), (eO10a dwi v0 v1 v2 v3 v4), (eO0a bk bto bnm bla bsk bru bbo bdi bda bdk bdt bdp bno), (eA0 bto cTo 5 fTo), (eA4 bla cLa 4 (fun k => some (La k))), (eO1a (La 0) (FI 0) (GR 0) (FR 0)), (eO9a bsk wd wf mp mb mo sp sb), (eO8a bru rco rsz ren rst rkn), (eA0 rco cRc 64 fRc), (eA0 ren cRe 4 fRe), (eA1 rst cRs 64 fRs), (eA1 bbo cBb 6 fBo), (eA1 bdi cBi 6 fDi), (eO6a bno ns nsa nfa nza), (eA0 nsa cNs 12 fNs), (eA0 nfa cNf 96 fNf), (eA0 nza cNz 96 fNz)] H := by rw [rH]; exact hP
  rw [← rH]
  have hl := lv_entry ([.ref xdy, .int a0, .ref bk]) (n := 9) (Nat.le_of_ble_eq_true rfl)
  rw [lg_entry_eq]
  generalize (lg_sl ([.ref xdy, .int a0, .ref bk]) ++ List.replicate (9 - (lg_sl ([.ref xdy, .int a0, .ref bk])).length) Slot.unset).toArray = ls at hl ⊢
  have hl : lv_has ls 9 [(0, .ref xdy), (1, .int a0), (2, .ref bk)] := hl
  refine lv_aload_n hx hb dX5_fill_0 rfl (lv_at hl 0 rfl) ?_
  refine va_get (D := (dC, dI)) (ci := 5) (v := .ref drw) (C := RX5) (T := TX5) (N := 6) hx hb htw inlX5 hown hK hP 0 rfl rfl 0 (by decide) (htw _ (ck_8 _ (List.mem_of_getElem? (i := 6) rfl))) (fun _ h9 => h9) rfl dX5_fill_1 ?_
  refine lv_iload_n hx hb dX5_fill_4 rfl (lv_at hl 1 rfl) ?_
  refine xg_aldq hx hb hK hP 1 0 rfl rfl rfl (xg_inr (N := 12) rfl (gd_fill_s0 (y0 := a0) hn0 hn2).1 (gd_fill_s0 (y0 := a0) hn0 hn2).2) dX5_fill_5 ?_
  refine W.eq (g2 := F0 m 6 ls [.ref (Rw a0.toNatClampNeg)]) rfl ?_
  refine lv_astore_n (lv' := [(3, .ref (Rw a0.toNatClampNeg)), (0, .ref xdy), (1, .int a0), (2, .ref bk)]) hx hb dX5_fill_6 rfl hl (by decide) rfl (fun ls hl => ?_)
  refine lv_aload_n hx hb dX5_fill_7 rfl (lv_at hl 0 rfl) ?_
  refine lv_lconst (v := 0) hx hb dX5_fill_8 (by decide) ?_
  obtain ⟨hPc, hDc, hFc, hCc⟩ := zsub3 (ws' := [((Rw a0.toNatClampNeg), .inl (cRr, 313, .inr (.inl f0)))]) hP hD hS hA [2] (by decide) rfl
  have hKc := hK.sub (tys' := [(cRr, .long)]) [1] rfl
  refine va_callv (va_runS (As := [.ref (Rw a0.toNatClampNeg), .long 0]) (rest := []) ⟨hx, hb, hml, hown, htw⟩ (gj_fillJ l dC dI (Rw a0.toNatClampNeg) cRr f0 (0 : Int64) H.size) (va_cwS 2 htw (xg_S (ck_54 _ (List.mem_of_getElem? (i := 17) rfl)) (ck_54 _ (List.mem_of_getElem? (i := 18) rfl)) (ck_13 _ (List.mem_of_getElem? (i := 17) rfl)) (ck_54 _ (List.mem_of_getElem? (i := 19) rfl))) rfl rfl rfl (by exact ⟨hdc_5.1, hdc_5.2, hdd_29⟩) ⟨Nat.le_of_ble_eq_true rfl, Nat.le_of_ble_eq_true rfl⟩) ⟨fun a U g mk q => by obtain ⟨q0, q1, qP, qK, qD⟩ := q; exact ⟨q0, q1, qP, va_K.moved (u := U) (U := U.calling g mk a) (Vm.Alike.refl U.vm) qK, qD⟩, fun U hU hW => ⟨rfl, by rw [hU], by rw [hU]; exact hPc, va_K.moved hW.alike hKc, hDc.weaken (fun _ _ _ _ => trivial)⟩⟩ rfl rfl hl.1 rfl (lv_room (Nat.le_of_ble_eq_true rfl)) dX5_fill_9 ⟨Nat.le_of_ble_eq_true rfl, Nat.le_of_ble_eq_true rfl⟩) hS (fun q _ h => hFc q h) hFc (fun u_2 t H1 locs ht hvm hw hB hz1 hk1 hS => ?_)
  try dsimp only at hw
  obtain ⟨hP1, hK1, hD1⟩ := hB
  rw [ht] at hP1
  have hK1 := va_K.moved hvm.symm hK1
  have hK1 : va_K (dC, dI) vwCl [] s := hK1
  obtain ⟨hP, hD⟩ := va_join (wr := [(eO5a xdy drw dfr dsh dto dmo dwi), (eA4 drw cDr 12 (fun k => some (Rw k))), (dmo, .inr (4, [dla, .long dct, .long dyr, .long ddy, .long dlg])), (eO10a dwi v0 v1 v2 v3 v4), (eO0a bk bto bnm bla bsk bru bbo bdi bda bdk bdt bdp bno), (eA0 bto cTo 5 fTo), (eA4 bla cLa 4 (fun k => some (La k))), (eO1a (La 0) (FI 0) (GR 0) (FR 0)), (eO9a bsk wd wf mp mb mo sp sb), (eO8a bru rco rsz ren rst rkn), (eA0 rco cRc 64 fRc), (eA0 ren cRe 4 fRe), (eA1 rst cRs 64 fRs), (eA1 bbo cBb 6 fBo), (eA1 bdi cBi 6 fDi), (eO6a bno ns nsa nfa nza), (eA0 nsa cNs 12 fNs), (eA0 nfa cNf 96 fNf), (eA0 nza cNz 96 fNz)]) (w1 := [((Rw a0.toNatClampNeg), .inl (cRr, 313, .inr (.inl u_2)))]) hP hD [2] [0, 1, 3, 4, 5, 6, 7, 8, 9, 10, 11, 12, 13, 14, 15, 16, 17, 18, 19] hCc rfl (by decide +kernel) (by decide +kernel) hk1 hFc hP1 hD1
  generalize H1 = H at hP hS ⊢
  obtain ⟨hP, hD⟩ := zre [(eO5a xdy drw dfr dsh dto dmo dwi), (eA4 drw cDr 12 (fun k => some (Rw k))), (dmo, .inr (4, [dla, .long dct, .long dyr, .long ddy, .long dlg])), (eO10a dwi v0 v1 v2 v3 v4), (eO0a bk bto bnm bla bsk bru bbo bdi bda bdk bdt bdp bno), (eA0 bto cTo 5 fTo), (eA4 bla cLa 4 (fun k => some (La k))), (eO1a (La 0) (FI 0) (GR 0) (FR 0)), (eO9a bsk wd wf mp mb mo sp sb), (eO8a bru rco rsz ren rst rkn), (eA0 rco cRc 64 fRc), (eA0 ren cRe 4 fRe), (eA1 rst cRs 64 fRs), (eA1 bbo cBb 6 fBo), (eA1 bdi cBi 6 fDi), (eO6a bno ns nsa nfa nza), (eA0 nsa cNs 12 fNs), (eA0 nfa cNf 96 fNf), (eA0 nza cNz 96 fNz), ((Rw a0.toNatClampNeg), .inl (cRr, 313, .inr (.inl u_2)))] hP hD rfl
  refine W.widen (k := 0) (n := 0) (by omega) (by omega) ?_
  have hq_u_2 : u_2 = (fj_fillJ f0 (0 : Int64)) := hw
  refine lv_aload_n hx hb dX5_fill_12 rfl (lv_at hl 3 rfl) ?_
  refine lv_iload_n hx hb dX5_fill_13 rfl (lv_at hl 2 rfl) ?_
  have hPc := hP.sub (ws' := [(eO0a bk bto bnm bla bsk bru bbo bdi bda bdk bdt bdp bno), (eA0 bto cTo 5 fTo), (eA4 bla cLa 4 (fun k => some (La k))), (eO1a (La 0) (FI 0) (GR 0) (FR 0)), (eA1 bbo cBb 6 fBo), (eO6a bno ns nsa nfa nza), (eA0 nsa cNs 12 fNs), (eA0 nfa cNf 96 fNf)]) [4, 5, 6, 7, 13, 15, 16, 17] rfl
  have hKc := hK.sub (tys' := [(cTo, .int), (cLa, .object RX1), (cBb, .long), (cNs, .int), (cNf, .int)]) [2, 3, 7, 9, 10] rfl
  refine vp_callSl (W.runV (As := [.int a0]) (rest := []) ⟨hx, hb, hml, hown, htw⟩ (gb_early l dC dI bk bto bnm bla bsk bru bbo bdi bda bdk bdt bdp bno cTo fTo cLa La FI GR FR cBb fBo ns nsa nfa nza cNs fNs cNf fNf a0 ht2) (cwV 1 htw (xg_V (ck_54 _ (List.mem_of_getElem? (i := 20) rfl)) (ck_54 _ (List.mem_of_getElem? (i := 21) rfl)) (ck_54 _ (List.mem_of_getElem? (i := 22) rfl)) (ck_1 _ (List.mem_of_getElem? (i := 20) rfl)) (ck_54 _ (List.mem_of_getElem? (i := 23) rfl))) rfl rfl rfl (by exact ⟨rfl, hdc_6.1, hdc_6.2, hdd_30⟩) ⟨Nat.le_of_ble_eq_true rfl, Nat.le_of_ble_eq_true rfl⟩) ⟨fun a U g mk q => by obtain ⟨q0, qP, qK⟩ := q; exact ⟨q0, qP, va_K.moved (u := U) (U := U.calling g mk a) (Vm.Alike.refl U.vm) qK⟩, va_recv hKc hPc (ci := 0) (q0 := 0) rfl rfl, fun U hU hW => ⟨rfl, by rw [hU]; exact hPc, va_K.moved hW.alike hKc⟩⟩ rfl rfl hl.1 rfl (lv_room (Nat.le_of_ble_eq_true rfl)) dX5_fill_14 ⟨Nat.le_of_ble_eq_true rfl, Nat.le_of_ble_eq_true rfl⟩) (fun r_4 hw => ?_)
  try dsimp only at hw
  have hq_r_4 : r_4 = (fb_early fTo FI GR FR fBo fNs fNf a0) := hw
  refine lv_lstore (lv' := [(4, .long r_4), (3, .ref (Rw a0.toNatClampNeg)), (0, .ref xdy), (1, .int a0), (2, .ref bk)]) hx hb dX5_fill_17 hl (by decide) rfl (fun ls hl => ?_)
  refine lv_aload_n hx hb dX5_fill_19 rfl (lv_at hl 4 rfl) ?_
  refine lv_iload_n hx hb dX5_fill_20 rfl (lv_at hl 3 rfl) ?_
  have hPc := hP.sub (ws' := [(eO0a bk bto bnm bla bsk bru bbo bdi bda bdk bdt bdp bno), (eA0 bto cTo 5 fTo), (eA4 bla cLa 4 (fun k => some (La k))), (eO1a (La 0) (FI 0) (GR 0) (FR 0)), (eA1 bdi cBi 6 fDi), (eO6a bno ns nsa nfa nza), (eA0 nsa cNs 12 fNs), (eA0 nfa cNf 96 fNf), (eA0 nza cNz 96 fNz)]) [4, 5, 6, 7, 14, 15, 16, 17, 18] rfl
  have hKc := hK.sub (tys' := [(cTo, .int), (cLa, .object RX1), (cBi, .long), (cNs, .int), (cNf, .int), (cNz, .int)]) [2, 3, 8, 9, 10, 11] rfl
  refine vp_callSl (W.runV (As := [.int a0]) (rest := []) ⟨hx, hb, hml, hown, htw⟩ (gb_late l dC dI bk bto bnm bla bsk bru bbo bdi bda bdk bdt bdp bno cTo fTo cLa La FI GR FR cBi fDi ns nsa nfa nza cNs fNs cNf fNf cNz fNz a0 ht2) (cwV 1 htw (xg_V (ck_55 _ (List.mem_of_getElem? (i := 10) rfl)) (ck_55 _ (List.mem_of_getElem? (i := 11) rfl)) (ck_55 _ (List.mem_of_getElem? (i := 12) rfl)) (ck_1 _ (List.mem_of_getElem? (i := 20) rfl)) (ck_55 _ (List.mem_of_getElem? (i := 13) rfl))) rfl rfl rfl (by exact ⟨rfl, hdc_6.1, hdc_6.2, hdd_30⟩) ⟨Nat.le_of_ble_eq_true rfl, Nat.le_of_ble_eq_true rfl⟩) ⟨fun a U g mk q => by obtain ⟨q0, qP, qK, qx⟩ := q; exact ⟨q0, qP, va_K.moved (u := U) (U := U.calling g mk a) (Vm.Alike.refl U.vm) qK, xN.calling qx⟩, va_recv hKc hPc (ci := 0) (q0 := 0) rfl rfl, fun U hU hW => ⟨rfl, by rw [hU]; exact hPc, va_K.moved hW.alike hKc, xN.warm hW hNx⟩⟩ rfl rfl hl.1 rfl (lv_room (Nat.le_of_ble_eq_true rfl)) dX5_fill_21 ⟨Nat.le_of_ble_eq_true rfl, Nat.le_of_ble_eq_true rfl⟩) (fun r_5 hw => ?_)
  try dsimp only at hw
  have hq_r_5 : r_5 = (fb_late fTo FI GR FR fDi fNs fNf fNz a0) := hw
  refine lv_ldc2 (v := 19999) hx hb hown (htw _ (ck_54 _ (List.mem_of_getElem? (i := 15) rfl))) dX5_fill_24 ?_
  refine va_mmin_long hx hb (by rw [hml]; exact hl.1.symm) hown (htw _ (ck_54 _ (List.mem_of_getElem? (i := 16) rfl))) (htw _ (ck_45 _ (List.mem_of_getElem? (i := 9) rfl))) (htw _ (ck_14 _ (List.mem_of_getElem? (i := 8) rfl))) (htw _ (ck_45 _ (List.mem_of_getElem? (i := 10) rfl))) (Nat.le_of_ble_eq_true rfl) (Nat.le_of_ble_eq_true rfl) (Nat.le_of_ble_eq_true rfl) (Nat.le_of_ble_eq_true rfl) dX5_fill_27 ?_
  refine lv_lstore (lv' := [(6, .long (if 19999 < r_5 then 19999 else r_5)), (4, .long r_4), (3, .ref (Rw a0.toNatClampNeg)), (0, .ref xdy), (1, .int a0), (2, .ref bk)]) hx hb dX5_fill_30 hl (by decide) rfl (fun ls hl => ?_)
  refine lv_lload hx hb dX5_fill_32 (lv_at hl 1 rfl) ?_
  refine lv_lconst (v := 0) hx hb dX5_fill_34 (by decide) ?_
  refine W.lcmp hx hb dX5_fill_35 ?_
  refine lv_if_lt (tgt := 47) hx hb dX5_fill_36 (by decide) (fun c_6 => ?_) (fun c_6 => ?_)
  · refine W.widen (k := 0) (n := 0) (by omega) (by omega) ?_
    obtain ⟨hP9, hD9⟩ := zsub2 (ws' := [(eO5a xdy drw dfr dsh dto dmo dwi), (eA4 drw cDr 12 (fun k => some (Rw k))), ((Rw a0.toNatClampNeg), .inl (cRr, 313, .inr (.inl u_2))), (dmo, .inr (4, [dla, .long dct, .long dyr, .long ddy, .long dlg])), (eO10a dwi v0 v1 v2 v3 v4), (eO0a bk bto bnm bla bsk bru bbo bdi bda bdk bdt bdp bno), (eA0 bto cTo 5 fTo), (eA4 bla cLa 4 (fun k => some (La k))), (eO1a (La 0) (FI 0) (GR 0) (FR 0)), (eO9a bsk wd wf mp mb mo sp sb), (eO8a bru rco rsz ren rst rkn), (eA0 rco cRc 64 fRc), (eA0 ren cRe 4 fRe), (eA1 rst cRs 64 fRs), (eA1 bbo cBb 6 fBo), (eA1 bdi cBi 6 fDi), (eO6a bno ns nsa nfa nza), (eA0 nsa cNs 12 fNs), (eA0 nfa cNf 96 fNf), (eA0 nza cNz 96 fNz)]) hP hD [0, 1, 19, 2, 3, 4, 5, 6, 7, 8, 9, 10, 11, 12, 13, 14, 15, 16, 17, 18] (by decide +kernel) rfl
    have hK9 := hK.sub (tys' := []) [] rfl
    exact W.vret hx hb hr (fun t ht hW => ⟨⟨(u_2, v0, v1, v2, v3, v4, dla, dct, dyr, ddy, dlg, fRs), rfl, (Eq.symm ((by rw [fd_fill]; (try rw [← hq_u_2]); (try rw [xL_eq]); (try rw [← hq_r_4]); (try rw [xL_eq]); (try rw [← hq_r_5]); (try rw [xL_eq]); (try rw [if_pos c_6]); try rfl))), by rw [ht]; exact hP9, va_K.moved hW.alike hK9, hD9⟩, hS.F ht⟩) hS.2.2 dX5_fill_47
  · refine lv_lload hx hb dX5_fill_39 (lv_at hl 1 rfl) ?_
    refine lv_lload hx hb dX5_fill_41 (lv_at hl 0 rfl) ?_
    refine W.lcmp hx hb dX5_fill_43 ?_
    refine lv_if_le (tgt := 48) hx hb dX5_fill_44 (by decide) (fun c_7 => ?_) (fun c_7 => ?_)
    · refine lv_aload_n hx hb dX5_fill_48 rfl (lv_at hl 3 rfl) ?_
      refine lv_aload_n hx hb dX5_fill_49 rfl (lv_at hl 5 rfl) ?_
      refine va_get (D := (dC, dI)) (ci := 0) (v := .ref bno) (C := RX0) (T := TX0) (N := 12) hx hb htw inlX0 hown hK hP 4 rfl rfl 11 (by decide) (htw _ (ck_54 _ (List.mem_of_getElem? (i := 9) rfl))) (fun _ h9 => h9) rfl dX5_fill_50 ?_
      refine lv_iload_n hx hb dX5_fill_53 rfl (lv_at hl 4 rfl) ?_
      obtain ⟨hPc, hDc, hFc, hCc⟩ := zsub3 (ws' := [(eO5a xdy drw dfr dsh dto dmo dwi), (eO10a dwi v0 v1 v2 v3 v4), (eO6a bno ns nsa nfa nza), (eA0 nsa cNs 12 fNs), (eA0 nfa cNf 96 fNf)]) hP hD hS hA [0, 3, 15, 16, 17] (by decide) rfl
      have hKc := hK.sub (tys' := [(cNs, .int), (cNf, .int)]) [9, 10] rfl
      refine va_callv (va_runV (As := [.ref bno, .int a0]) (rest := []) ⟨hx, hb, hml, hown, htw⟩ (gd_readWish l dC dI xdy drw dfr dsh dto dmo dwi v0 v1 v2 v3 v4 bno ns nsa nfa nza cNs fNs cNf fNf a0 H.size) (cwV 2 htw (xg_V (ck_56 _ (List.mem_of_getElem? (i := 0) rfl)) (ck_56 _ (List.mem_of_getElem? (i := 1) rfl)) (ck_56 _ (List.mem_of_getElem? (i := 2) rfl)) (ck_2 _ (List.mem_of_getElem? (i := 1) rfl)) (ck_56 _ (List.mem_of_getElem? (i := 3) rfl))) rfl rfl rfl (by exact ⟨rfl, hdc_10.1, hdc_10.2, hdd_31⟩) ⟨Nat.le_of_ble_eq_true rfl, Nat.le_of_ble_eq_true rfl⟩) ⟨fun a U g mk q => by obtain ⟨q0, q1, qP, qK, qD⟩ := q; exact ⟨q0, q1, qP, va_K.moved (u := U) (U := U.calling g mk a) (Vm.Alike.refl U.vm) qK, qD⟩, va_recv hKc hPc (ci := 5) (q0 := 0) rfl rfl, fun U hU hW => ⟨rfl, by rw [hU], by rw [hU]; exact hPc, va_K.moved hW.alike hKc, hDc.weaken (fun _ _ _ _ => trivial)⟩⟩ rfl rfl hl.1 rfl (lv_room (Nat.le_of_ble_eq_true rfl)) dX5_fill_54 ⟨Nat.le_of_ble_eq_true rfl, Nat.le_of_ble_eq_true rfl⟩) hS (fun q _ h => hFc q h) hFc (fun u_9 t H1 locs ht hvm hw hB hz1 hk1 hS => ?_)
      try dsimp only at hw
      obtain ⟨hP1, hK1, hD1⟩ := hB
      rw [ht] at hP1
      have hK1 := va_K.moved hvm.symm hK1
      have hK1 : va_K (dC, dI) vwCl [] s := hK1
      obtain ⟨hP, hD⟩ := va_join (wr := [(eA4 drw cDr 12 (fun k => some (Rw k))), (dmo, .inr (4, [dla, .long dct, .long dyr, .long ddy, .long dlg])), (eO0a bk bto bnm bla bsk bru bbo bdi bda bdk bdt bdp bno), (eA0 bto cTo 5 fTo), (eA4 bla cLa 4 (fun k => some (La k))), (eO1a (La 0) (FI 0) (GR 0) (FR 0)), (eO9a bsk wd wf mp mb mo sp sb), (eO8a bru rco rsz ren rst rkn), (eA0 rco cRc 64 fRc), (eA0 ren cRe 4 fRe), (eA1 rst cRs 64 fRs), (eA1 bbo cBb 6 fBo), (eA1 bdi cBi 6 fDi), (eA0 nza cNz 96 fNz), ((Rw a0.toNatClampNeg), .inl (cRr, 313, .inr (.inl u_2)))]) (w1 := [(eO5a xdy drw dfr dsh dto dmo dwi), (eO10a dwi u_9.1 u_9.2.1 u_9.2.2.1 u_9.2.2.2.1 u_9.2.2.2.2), (eO6a bno ns nsa nfa nza), (eA0 nsa cNs 12 fNs), (eA0 nfa cNf 96 fNf)]) hP hD [0, 3, 15, 16, 17] [1, 2, 4, 5, 6, 7, 8, 9, 10, 11, 12, 13, 14, 18, 19] hCc rfl (by decide +kernel) (by decide +kernel) hk1 hFc hP1 hD1
      generalize H1 = H at hP hS ⊢
      obtain ⟨hP, hD⟩ := zre [(eA4 drw cDr 12 (fun k => some (Rw k))), (dmo, .inr (4, [dla, .long dct, .long dyr, .long ddy, .long dlg])), (eO0a bk bto bnm bla bsk bru bbo bdi bda bdk bdt bdp bno), (eA0 bto cTo 5 fTo), (eA4 bla cLa 4 (fun k => some (La k))), (eO1a (La 0) (FI 0) (GR 0) (FR 0)), (eO9a bsk wd wf mp mb mo sp sb), (eO8a bru rco rsz ren rst rkn), (eA0 rco cRc 64 fRc), (eA0 ren cRe 4 fRe), (eA1 rst cRs 64 fRs), (eA1 bbo cBb 6 fBo), (eA1 bdi cBi 6 fDi), (eA0 nza cNz 96 fNz), ((Rw a0.toNatClampNeg), .inl (cRr, 313, .inr (.inl u_2))), (eO5a xdy drw dfr dsh dto dmo dwi), (eO10a dwi u_9.1 u_9.2.1 u_9.2.2.1 u_9.2.2.2.1 u_9.2.2.2.2), (eO6a bno ns nsa nfa nza), (eA0 nsa cNs 12 fNs), (eA0 nfa cNf 96 fNf)] hP hD rfl
      refine W.widen (k := 0) (n := 0) (by omega) (by omega) ?_
      have hq_u_9 : u_9 = (fd_readWish fNs fNf a0) := hw
      refine lv_aload_n hx hb dX5_fill_57 rfl (lv_at hl 3 rfl) ?_
      refine va_get (D := (dC, dI)) (ci := 5) (v := .ref dwi) (C := RX5) (T := TX5) (N := 6) hx hb htw inlX5 hown hK hP 15 rfl rfl 5 (by decide) (htw _ (ck_8 _ (List.mem_of_getElem? (i := 12) rfl))) (fun _ h9 => h9) rfl dX5_fill_58 ?_
      have hPc := hP.sub (ws' := [(eO10a dwi u_9.1 u_9.2.1 u_9.2.2.1 u_9.2.2.2.1 u_9.2.2.2.2)]) [16] rfl
      have hKc := hK.sub (tys' := []) [] rfl
      refine vp_callSi (W.runV (As := []) (rest := []) ⟨hx, hb, hml, hown, htw⟩ (gw_isEmpty l dC dI dwi u_9.1 u_9.2.1 u_9.2.2.1 u_9.2.2.2.1 u_9.2.2.2.2) (cwV 0 htw (xg_V (ck_56 _ (List.mem_of_getElem? (i := 15) rfl)) (ck_56 _ (List.mem_of_getElem? (i := 16) rfl)) (ck_56 _ (List.mem_of_getElem? (i := 17) rfl)) (ck_2 _ (List.mem_of_getElem? (i := 21) rfl)) (ck_56 _ (List.mem_of_getElem? (i := 18) rfl))) rfl rfl rfl (by exact ⟨rfl, hdc_9.1, hdc_9.2, hdd_32⟩) ⟨Nat.le_of_ble_eq_true rfl, Nat.le_of_ble_eq_true rfl⟩) ⟨fun a U g mk q => by obtain ⟨q0, qP, qK⟩ := q; exact ⟨q0, qP, va_K.moved (u := U) (U := U.calling g mk a) (Vm.Alike.refl U.vm) qK⟩, va_recv hKc hPc (ci := 10) (q0 := 0) rfl rfl, fun U hU hW => ⟨rfl, by rw [hU]; exact hPc, va_K.moved hW.alike hKc⟩⟩ rfl rfl hl.1 rfl (lv_room (Nat.le_of_ble_eq_true rfl)) dX5_fill_61 ⟨Nat.le_of_ble_eq_true rfl, Nat.le_of_ble_eq_true rfl⟩) (fun r_15 hw => ?_)
      try dsimp only at hw
      have hq_r_15 : r_15 = fw_isEmpty u_9.1 u_9.2.1 u_9.2.2.1 u_9.2.2.2.1 u_9.2.2.2.2 := hw
      refine lv_if_eq (tgt := 78) hx hb dX5_fill_64 (by decide) (fun c_16 => ?_) (fun c_16 => ?_)
      · refine lv_aload_n hx hb dX5_fill_78 rfl (lv_at hl 3 rfl) ?_
        refine va_get (D := (dC, dI)) (ci := 5) (v := .ref dmo) (C := RX5) (T := TX5) (N := 6) hx hb htw inlX5 hown hK hP 15 rfl rfl 4 (by decide) (htw _ (ck_8 _ (List.mem_of_getElem? (i := 10) rfl))) (fun _ h9 => h9) rfl dX5_fill_79 ?_
        refine lv_aload_n hx hb dX5_fill_82 rfl (lv_at hl 5 rfl) ?_
        refine lv_iconst (v := 0) hx hb dX5_fill_83 (by decide) ?_
        have hPc := hP.sub (ws' := [(eO0a bk bto bnm bla bsk bru bbo bdi bda bdk bdt bdp bno), (eA0 bto cTo 5 fTo), (eA4 bla cLa 4 (fun k => some (La k)))]) [2, 3, 4] rfl
        have hKc := hK.sub (tys' := [(cTo, .int), (cLa, .object RX1)]) [2, 3] rfl
        refine va_csq (W.runV (As := [.int 0]) (rest := [.ref dmo]) ⟨hx, hb, hml, hown, htw⟩ (gb_landAt l dC dI bk bto bnm bla bsk bru bbo bdi bda bdk bdt bdp bno cTo fTo cLa La (0 : Int32)) (cwV 1 htw (xg_V (ck_56 _ (List.mem_of_getElem? (i := 23) rfl)) (ck_20 _ (List.mem_of_getElem? (i := 22) rfl)) (ck_20 _ (List.mem_of_getElem? (i := 23) rfl)) (ck_1 _ (List.mem_of_getElem? (i := 20) rfl)) (ck_21 _ (List.mem_of_getElem? (i := 0) rfl))) rfl rfl rfl (by exact ⟨rfl, hdc_6.1, hdc_6.2, hdd_15⟩) ⟨Nat.le_of_ble_eq_true rfl, Nat.le_of_ble_eq_true rfl⟩) ⟨fun a U g mk q => by obtain ⟨q0, qP, qK⟩ := q; exact ⟨q0, qP, va_K.moved (u := U) (U := U.calling g mk a) (Vm.Alike.refl U.vm) qK⟩, va_recv hKc hPc (ci := 0) (q0 := 0) rfl rfl, fun U hU hW => ⟨rfl, by rw [hU]; exact hPc, va_K.moved hW.alike hKc⟩⟩ rfl rfl hl.1 rfl (lv_room (Nat.le_of_ble_eq_true rfl)) dX5_fill_84 ⟨Nat.le_of_ble_eq_true rfl, Nat.le_of_ble_eq_true rfl⟩) (fun r_17 hw => ?_)
        try dsimp only at hw
        rw [show va_rf r_17 = xm_la (fb_landIs fTo (0 : Int32)) (La 0) from xm_rf hw]
        refine lv_lload hx hb dX5_fill_87 (lv_at hl 1 rfl) ?_
        obtain ⟨hPc, hDc, hFc, hCc⟩ := zsub3 (ws' := [(dmo, .inr (4, [dla, .long dct, .long dyr, .long ddy, .long dlg])), (eO1a (La 0) (FI 0) (GR 0) (FR 0))]) hP hD hS hA [1, 5] (by decide) rfl
        have hKc := hK.sub (tys' := []) [] rfl
        refine va_callv (va_runV (As := [(xm_la (fb_landIs fTo (0 : Int32)) (La 0)), .long r_4]) (rest := []) ⟨hx, hb, hml, hown, htw⟩ (gm_seekU l dC dI dmo dla dct dyr ddy dlg (La 0) (FI 0) (GR 0) (FR 0) r_4 (fb_landIs fTo (0 : Int32)) H.size) (cwV 2 htw (xg_V (ck_57 _ (List.mem_of_getElem? (i := 0) rfl)) (ck_38 _ (List.mem_of_getElem? (i := 17) rfl)) (ck_38 _ (List.mem_of_getElem? (i := 18) rfl)) (ck_2 _ (List.mem_of_getElem? (i := 16) rfl)) (ck_38 _ (List.mem_of_getElem? (i := 19) rfl))) rfl rfl rfl (by exact ⟨rfl, hdc_7.1, hdc_7.2, hdd_19⟩) ⟨Nat.le_of_ble_eq_true rfl, Nat.le_of_ble_eq_true rfl⟩) ⟨fun a U g mk q => by obtain ⟨q0, q1, qP, qK, qD, qx0⟩ := q; exact ⟨q0, q1, qP, va_K.moved (u := U) (U := U.calling g mk a) (Vm.Alike.refl U.vm) qK, qD, xN.calling qx0⟩, va_recv hKc hPc (ci := 4) (q0 := 0) rfl rfl, fun U hU hW => ⟨rfl, by rw [hU], by rw [hU]; exact hPc, va_K.moved hW.alike hKc, hDc.weaken (fun _ _ _ _ => trivial), xN.warm hW hNx⟩⟩ rfl rfl hl.1 rfl (lv_room (Nat.le_of_ble_eq_true rfl)) dX5_fill_89 ⟨Nat.le_of_ble_eq_true rfl, Nat.le_of_ble_eq_true rfl⟩) hS (fun q _ h => hFc q h) hFc (fun u_19 t H1 locs ht hvm hw hB hz1 hk1 hS => ?_)
        try dsimp only at hw
        obtain ⟨hP1, hK1, hD1⟩ := hB
        rw [ht] at hP1
        have hK1 := va_K.moved hvm.symm hK1
        have hK1 : va_K (dC, dI) vwCl [] s := hK1
        obtain ⟨hP, hD⟩ := va_join (wr := [(eA4 drw cDr 12 (fun k => some (Rw k))), (eO0a bk bto bnm bla bsk bru bbo bdi bda bdk bdt bdp bno), (eA0 bto cTo 5 fTo), (eA4 bla cLa 4 (fun k => some (La k))), (eO9a bsk wd wf mp mb mo sp sb), (eO8a bru rco rsz ren rst rkn), (eA0 rco cRc 64 fRc), (eA0 ren cRe 4 fRe), (eA1 rst cRs 64 fRs), (eA1 bbo cBb 6 fBo), (eA1 bdi cBi 6 fDi), (eA0 nza cNz 96 fNz), ((Rw a0.toNatClampNeg), .inl (cRr, 313, .inr (.inl u_2))), (eO5a xdy drw dfr dsh dto dmo dwi), (eO10a dwi u_9.1 u_9.2.1 u_9.2.2.1 u_9.2.2.2.1 u_9.2.2.2.2), (eO6a bno ns nsa nfa nza), (eA0 nsa cNs 12 fNs), (eA0 nfa cNf 96 fNf)]) (w1 := [(dmo, .inr (4, [(xm_la (fb_landIs fTo (0 : Int32)) (La 0)), .long u_19.1, .long u_19.2.1, .long u_19.2.2.1, .long u_19.2.2.2])), (eO1a (La 0) (FI 0) (GR 0) (FR 0))]) hP hD [1, 5] [0, 2, 3, 4, 6, 7, 8, 9, 10, 11, 12, 13, 14, 15, 16, 17, 18, 19] hCc rfl (by decide +kernel) (by decide +kernel) hk1 hFc hP1 hD1
        generalize H1 = H at hP hS ⊢
        obtain ⟨hP, hD⟩ := zre [(eA4 drw cDr 12 (fun k => some (Rw k))), (eO0a bk bto bnm bla bsk bru bbo bdi bda bdk bdt bdp bno), (eA0 bto cTo 5 fTo), (eA4 bla cLa 4 (fun k => some (La k))), (eO9a bsk wd wf mp mb mo sp sb), (eO8a bru rco rsz ren rst rkn), (eA0 rco cRc 64 fRc), (eA0 ren cRe 4 fRe), (eA1 rst cRs 64 fRs), (eA1 bbo cBb 6 fBo), (eA1 bdi cBi 6 fDi), (eA0 nza cNz 96 fNz), ((Rw a0.toNatClampNeg), .inl (cRr, 313, .inr (.inl u_2))), (eO5a xdy drw dfr dsh dto dmo dwi), (eO10a dwi u_9.1 u_9.2.1 u_9.2.2.1 u_9.2.2.2.1 u_9.2.2.2.2), (eO6a bno ns nsa nfa nza), (eA0 nsa cNs 12 fNs), (eA0 nfa cNf 96 fNf), (dmo, .inr (4, [(xm_la (fb_landIs fTo (0 : Int32)) (La 0)), .long u_19.1, .long u_19.2.1, .long u_19.2.2.1, .long u_19.2.2.2])), (eO1a (La 0) (FI 0) (GR 0) (FR 0))] hP hD rfl
        refine W.widen (k := 0) (n := 0) (by omega) (by omega) ?_
        have hq_u_19 : u_19 = (fm_seekU (FI 0) (GR 0) (FR 0) r_4 (fb_landIs fTo (0 : Int32))) := hw
        refine lv_lload hx hb dX5_fill_92 (lv_at hl 1 rfl) ?_
        refine lv_l2i (v := r_4.toInt32) hx hb dX5_fill_94 rfl ?_
        refine lv_istore (lv' := [(8, .int r_4.toInt32), (6, .long (if 19999 < r_5 then 19999 else r_5)), (4, .long r_4), (3, .ref (Rw a0.toNatClampNeg)), (0, .ref xdy), (1, .int a0), (2, .ref bk)]) hx hb dX5_fill_95 hl (by decide) rfl (fun ls hl => ?_)
        have hloop_24 : ∀ (n : Nat) (L4d : Int64) (L6d : Int64) (L8d : Int32) (dct_d : Int64) (dyr_d : Int64) (ddy_d : Int64) (dlg_d : Int64) (v0_d : Int32) (v1_d : Int32) (v2_d : Int32) (v3_d : Int32) (v4_d : Int32) (fRs_d : Nat → Int64) (f0_d : Nat → Int64) (h0_d : ¬ L8d < 0) (hf_d : (20000 : Int32).toInt ≤ L8d.toInt + (n : Int)) (hI_d : fd_fill f0 dla dct dyr ddy dlg v0 v1 v2 v3 v4 fTo La FI GR FR wd wf mp mb mo sp sb fRc fRe fRs fBo fDi fNs fNf fNz a0 = fd_fill_d fTo La FI GR FR wd wf mp mb mo sp sb fRc fRe n L4d L6d L8d dct_d dyr_d ddy_d dlg_d v0_d v1_d v2_d v3_d v4_d fRs_d f0_d) (H : Heap) (locs : List Loc) (ls : Array Slot) (hP : va_P (dC, dI) vwCl [(eA4 drw cDr 12 (fun k => some (Rw k))), (eO0a bk bto bnm bla bsk bru bbo bdi bda bdk bdt bdp bno), (eA0 bto cTo 5 fTo), (eA4 bla cLa 4 (fun k => some (La k))), (eO9a bsk wd wf mp mb mo sp sb), (eO8a bru rco rsz ren rst rkn), (eA0 rco cRc 64 fRc), (eA0 ren cRe 4 fRe), (eA1 rst cRs 64 fRs_d), (eA1 bbo cBb 6 fBo), (eA1 bdi cBi 6 fDi), (eA0 nza cNz 96 fNz), ((Rw a0.toNatClampNeg), .inl (cRr, 313, .inr (.inl f0_d))), (eO5a xdy drw dfr dsh dto dmo dwi), (eO10a dwi v0_d v1_d v2_d v3_d v4_d), (eO6a bno ns nsa nfa nza), (eA0 nsa cNs 12 fNs), (eA0 nfa cNf 96 fNf), (dmo, .inr (4, [(xm_la (fb_landIs fTo (0 : Int32)) (La 0)), .long dct_d, .long dyr_d, .long ddy_d, .long dlg_d])), (eO1a (La 0) (FI 0) (GR 0) (FR 0))] H) (hD : va_D A [(eA4 drw cDr 12 (fun k => some (Rw k))), (eO0a bk bto bnm bla bsk bru bbo bdi bda bdk bdt bdp bno), (eA0 bto cTo 5 fTo), (eA4 bla cLa 4 (fun k => some (La k))), (eO9a bsk wd wf mp mb mo sp sb), (eO8a bru rco rsz ren rst rkn), (eA0 rco cRc 64 fRc), (eA0 ren cRe 4 fRe), (eA1 rst cRs 64 fRs_d), (eA1 bbo cBb 6 fBo), (eA1 bdi cBi 6 fDi), (eA0 nza cNz 96 fNz), ((Rw a0.toNatClampNeg), .inl (cRr, 313, .inr (.inl f0_d))), (eO5a xdy drw dfr dsh dto dmo dwi), (eO10a dwi v0_d v1_d v2_d v3_d v4_d), (eO6a bno ns nsa nfa nza), (eA0 nsa cNs 12 fNs), (eA0 nfa cNf 96 fNf), (dmo, .inr (4, [(xm_la (fb_landIs fTo (0 : Int32)) (La 0)), .long dct_d, .long dyr_d, .long ddy_d, .long dlg_d])), (eO1a (La 0) (FI 0) (GR 0) (FR 0))]) (hS : va_S A s.heap H locs) (hl : lv_has ls 9 [(8, .int L8d), (6, .long L6d), (4, .long L4d), (3, .ref (Rw a0.toNatClampNeg)), (0, .ref xdy), (1, .int a0), (2, .ref bk)]), W p l e (headSpec (Cond.code yX5_fill cX5_fill 9 none :: wsL_law) ({ frames := 5, cells := 0, slots := 0, locals := 128 })).room s m ([.ref xdy, .int a0, .ref bk] : List Value).toArray below meth c H locs 0 0 (MQ below (va_Qv (fun (u : (Nat → Int64) × (Int32) × (Int32) × (Int32) × (Int32) × (Int32) × (Value) × (Int64) × (Int64) × (Int64) × (Int64) × (Nat → Int64)) => u = fd_fill f0 dla dct dyr ddy dlg v0 v1 v2 v3 v4 fTo La FI GR FR wd wf mp mb mo sp sb fRc fRe fRs fBo fDi fNs fNf fNz a0) (fun (u : (Nat → Int64) × (Int32) × (Int32) × (Int32) × (Int32) × (Int32) × (Value) × (Int64) × (Int64) × (Int64) × (Int64) × (Nat → Int64)) t => va_P (dC, dI) vwCl [(eO5a xdy drw dfr dsh dto dmo dwi), (eA4 drw cDr 12 (fun k => some (Rw k))), ((Rw a0.toNatClampNeg), .inl (cRr, 313, .inr (.inl u.1))), (dmo, .inr (4, [u.2.2.2.2.2.2.1, .long u.2.2.2.2.2.2.2.1, .long u.2.2.2.2.2.2.2.2.1, .long u.2.2.2.2.2.2.2.2.2.1, .long u.2.2.2.2.2.2.2.2.2.2.1])), (eO10a dwi u.2.1 u.2.2.1 u.2.2.2.1 u.2.2.2.2.1 u.2.2.2.2.2.1), (eO0a bk bto bnm bla bsk bru bbo bdi bda bdk bdt bdp bno), (eA0 bto cTo 5 fTo), (eA4 bla cLa 4 (fun k => some (La k))), (eO1a (La 0) (FI 0) (GR 0) (FR 0)), (eO9a bsk wd wf mp mb mo sp sb), (eO8a bru rco rsz ren rst rkn), (eA0 rco cRc 64 fRc), (eA0 ren cRe 4 fRe), (eA1 rst cRs 64 u.2.2.2.2.2.2.2.2.2.2.2), (eA1 bbo cBb 6 fBo), (eA1 bdi cBi 6 fDi), (eO6a bno ns nsa nfa nza), (eA0 nsa cNs 12 fNs), (eA0 nfa cNf 96 fNf), (eA0 nza cNz 96 fNz)] t.heap ∧ va_K (dC, dI) vwCl [] t ∧ va_D A [(eO5a xdy drw dfr dsh dto dmo dwi), (eA4 drw cDr 12 (fun k => some (Rw k))), ((Rw a0.toNatClampNeg), .inl (cRr, 313, .inr (.inl u.1))), (dmo, .inr (4, [u.2.2.2.2.2.2.1, .long u.2.2.2.2.2.2.2.1, .long u.2.2.2.2.2.2.2.2.1, .long u.2.2.2.2.2.2.2.2.2.1, .long u.2.2.2.2.2.2.2.2.2.2.1])), (eO10a dwi u.2.1 u.2.2.1 u.2.2.2.1 u.2.2.2.2.1 u.2.2.2.2.2.1), (eO0a bk bto bnm bla bsk bru bbo bdi bda bdk bdt bdp bno), (eA0 bto cTo 5 fTo), (eA4 bla cLa 4 (fun k => some (La k))), (eO1a (La 0) (FI 0) (GR 0) (FR 0)), (eO9a bsk wd wf mp mb mo sp sb), (eO8a bru rco rsz ren rst rkn), (eA0 rco cRc 64 fRc), (eA0 ren cRe 4 fRe), (eA1 rst cRs 64 u.2.2.2.2.2.2.2.2.2.2.2), (eA1 bbo cBb 6 fBo), (eA1 bdi cBi 6 fDi), (eO6a bno ns nsa nfa nza), (eA0 nsa cNs 12 fNs), (eA0 nfa cNf 96 fNf), (eA0 nza cNz 96 fNz)]) A) ([.ref xdy, .int a0, .ref bk] : List Value).toArray s 0 0 A) (F0 m 97 ls []) := by
          intro n
          induction n with
          | zero =>
            intro L4d L6d L8d dct_d dyr_d ddy_d dlg_d v0_d v1_d v2_d v3_d v4_d fRs_d f0_d h0_d hf_d hI_d H locs ls hP hD hS hl
            refine lv_iload hx hb dX5_fill_97 (lv_at hl 0 rfl) ?_
            refine lv_i2l (v := L8d.toInt64) hx hb dX5_fill_99 rfl ?_
            refine lv_lload hx hb dX5_fill_100 (lv_at hl 1 rfl) ?_
            refine W.lcmp hx hb dX5_fill_102 ?_
            refine lv_if_gt (tgt := 159) hx hb dX5_fill_103 (by decide) (fun c_25 => ?_) (fun c_25 => ?_)
            · refine W.widen (k := 0) (n := 0) (by omega) (by omega) ?_
              obtain ⟨hP9, hD9⟩ := zsub2 (ws' := [(eO5a xdy drw dfr dsh dto dmo dwi), (eA4 drw cDr 12 (fun k => some (Rw k))), ((Rw a0.toNatClampNeg), .inl (cRr, 313, .inr (.inl f0_d))), (dmo, .inr (4, [(xm_la (fb_landIs fTo (0 : Int32)) (La 0)), .long dct_d, .long dyr_d, .long ddy_d, .long dlg_d])), (eO10a dwi v0_d v1_d v2_d v3_d v4_d), (eO0a bk bto bnm bla bsk bru bbo bdi bda bdk bdt bdp bno), (eA0 bto cTo 5 fTo), (eA4 bla cLa 4 (fun k => some (La k))), (eO1a (La 0) (FI 0) (GR 0) (FR 0)), (eO9a bsk wd wf mp mb mo sp sb), (eO8a bru rco rsz ren rst rkn), (eA0 rco cRc 64 fRc), (eA0 ren cRe 4 fRe), (eA1 rst cRs 64 fRs_d), (eA1 bbo cBb 6 fBo), (eA1 bdi cBi 6 fDi), (eO6a bno ns nsa nfa nza), (eA0 nsa cNs 12 fNs), (eA0 nfa cNf 96 fNf), (eA0 nza cNz 96 fNz)]) hP hD [13, 0, 12, 18, 14, 1, 2, 3, 19, 4, 5, 6, 7, 8, 9, 10, 15, 16, 17, 11] (by decide +kernel) rfl
              have hK9 := hK.sub (tys' := []) [] rfl
              exact W.vret hx hb hr (fun t ht hW => ⟨⟨(f0_d, v0_d, v1_d, v2_d, v3_d, v4_d, (xm_la (fb_landIs fTo (0 : Int32)) (La 0)), dct_d, dyr_d, ddy_d, dlg_d, fRs_d), rfl, (Eq.symm (hI_d.trans (by rw [fd_fill_d]; (try rw [if_pos c_25]); try rfl))), by rw [ht]; exact hP9, va_K.moved hW.alike hK9, hD9⟩, hS.F ht⟩) hS.2.2 dX5_fill_159
            · refine lv_iload hx hb dX5_fill_106 (lv_at hl 0 rfl) ?_
              refine lv_sipush (v := 20000) hx hb dX5_fill_108 (by decide) ?_
              refine lv_icmp_ge (tgt := 159) hx hb dX5_fill_111 (by decide) (fun c_26 => ?_) (fun c_26 => absurd c_26 (fun h => h (xi_z hf_d)))
              refine W.widen (k := 0) (n := 0) (by omega) (by omega) ?_
              obtain ⟨hP9, hD9⟩ := zsub2 (ws' := [(eO5a xdy drw dfr dsh dto dmo dwi), (eA4 drw cDr 12 (fun k => some (Rw k))), ((Rw a0.toNatClampNeg), .inl (cRr, 313, .inr (.inl f0_d))), (dmo, .inr (4, [(xm_la (fb_landIs fTo (0 : Int32)) (La 0)), .long dct_d, .long dyr_d, .long ddy_d, .long dlg_d])), (eO10a dwi v0_d v1_d v2_d v3_d v4_d), (eO0a bk bto bnm bla bsk bru bbo bdi bda bdk bdt bdp bno), (eA0 bto cTo 5 fTo), (eA4 bla cLa 4 (fun k => some (La k))), (eO1a (La 0) (FI 0) (GR 0) (FR 0)), (eO9a bsk wd wf mp mb mo sp sb), (eO8a bru rco rsz ren rst rkn), (eA0 rco cRc 64 fRc), (eA0 ren cRe 4 fRe), (eA1 rst cRs 64 fRs_d), (eA1 bbo cBb 6 fBo), (eA1 bdi cBi 6 fDi), (eO6a bno ns nsa nfa nza), (eA0 nsa cNs 12 fNs), (eA0 nfa cNf 96 fNf), (eA0 nza cNz 96 fNz)]) hP hD [13, 0, 12, 18, 14, 1, 2, 3, 19, 4, 5, 6, 7, 8, 9, 10, 15, 16, 17, 11] (by decide +kernel) rfl
              have hK9 := hK.sub (tys' := []) [] rfl
              exact W.vret hx hb hr (fun t ht hW => ⟨⟨(f0_d, v0_d, v1_d, v2_d, v3_d, v4_d, (xm_la (fb_landIs fTo (0 : Int32)) (La 0)), dct_d, dyr_d, ddy_d, dlg_d, fRs_d), rfl, (Eq.symm (hI_d.trans (by rw [fd_fill_d]; (try rw [if_neg c_25]); try rfl))), by rw [ht]; exact hP9, va_K.moved hW.alike hK9, hD9⟩, hS.F ht⟩) hS.2.2 dX5_fill_159
          | succ n ih =>
            intro L4d L6d L8d dct_d dyr_d ddy_d dlg_d v0_d v1_d v2_d v3_d v4_d fRs_d f0_d h0_d hf_d hI_d H locs ls hP hD hS hl
            refine lv_iload hx hb dX5_fill_97 (lv_at hl 0 rfl) ?_
            refine lv_i2l (v := L8d.toInt64) hx hb dX5_fill_99 rfl ?_
            refine lv_lload hx hb dX5_fill_100 (lv_at hl 1 rfl) ?_
            refine W.lcmp hx hb dX5_fill_102 ?_
            refine lv_if_gt (tgt := 159) hx hb dX5_fill_103 (by decide) (fun c_27 => ?_) (fun c_27 => ?_)
            · refine W.widen (k := 0) (n := 0) (by omega) (by omega) ?_
              obtain ⟨hP9, hD9⟩ := zsub2 (ws' := [(eO5a xdy drw dfr dsh dto dmo dwi), (eA4 drw cDr 12 (fun k => some (Rw k))), ((Rw a0.toNatClampNeg), .inl (cRr, 313, .inr (.inl f0_d))), (dmo, .inr (4, [(xm_la (fb_landIs fTo (0 : Int32)) (La 0)), .long dct_d, .long dyr_d, .long ddy_d, .long dlg_d])), (eO10a dwi v0_d v1_d v2_d v3_d v4_d), (eO0a bk bto bnm bla bsk bru bbo bdi bda bdk bdt bdp bno), (eA0 bto cTo 5 fTo), (eA4 bla cLa 4 (fun k => some (La k))), (eO1a (La 0) (FI 0) (GR 0) (FR 0)), (eO9a bsk wd wf mp mb mo sp sb), (eO8a bru rco rsz ren rst rkn), (eA0 rco cRc 64 fRc), (eA0 ren cRe 4 fRe), (eA1 rst cRs 64 fRs_d), (eA1 bbo cBb 6 fBo), (eA1 bdi cBi 6 fDi), (eO6a bno ns nsa nfa nza), (eA0 nsa cNs 12 fNs), (eA0 nfa cNf 96 fNf), (eA0 nza cNz 96 fNz)]) hP hD [13, 0, 12, 18, 14, 1, 2, 3, 19, 4, 5, 6, 7, 8, 9, 10, 15, 16, 17, 11] (by decide +kernel) rfl
              have hK9 := hK.sub (tys' := []) [] rfl
              exact W.vret hx hb hr (fun t ht hW => ⟨⟨(f0_d, v0_d, v1_d, v2_d, v3_d, v4_d, (xm_la (fb_landIs fTo (0 : Int32)) (La 0)), dct_d, dyr_d, ddy_d, dlg_d, fRs_d), rfl, (Eq.symm (hI_d.trans (by rw [fd_fill_d]; (try rw [if_pos c_27]); try rfl))), by rw [ht]; exact hP9, va_K.moved hW.alike hK9, hD9⟩, hS.F ht⟩) hS.2.2 dX5_fill_159
            · refine lv_iload hx hb dX5_fill_106 (lv_at hl 0 rfl) ?_
              refine lv_sipush (v := 20000) hx hb dX5_fill_108 (by decide) ?_
              refine lv_icmp_ge (tgt := 159) hx hb dX5_fill_111 (by decide) (fun c_28 => ?_) (fun c_28 => ?_)
              · refine W.widen (k := 0) (n := 0) (by omega) (by omega) ?_
                obtain ⟨hP9, hD9⟩ := zsub2 (ws' := [(eO5a xdy drw dfr dsh dto dmo dwi), (eA4 drw cDr 12 (fun k => some (Rw k))), ((Rw a0.toNatClampNeg), .inl (cRr, 313, .inr (.inl f0_d))), (dmo, .inr (4, [(xm_la (fb_landIs fTo (0 : Int32)) (La 0)), .long dct_d, .long dyr_d, .long ddy_d, .long dlg_d])), (eO10a dwi v0_d v1_d v2_d v3_d v4_d), (eO0a bk bto bnm bla bsk bru bbo bdi bda bdk bdt bdp bno), (eA0 bto cTo 5 fTo), (eA4 bla cLa 4 (fun k => some (La k))), (eO1a (La 0) (FI 0) (GR 0) (FR 0)), (eO9a bsk wd wf mp mb mo sp sb), (eO8a bru rco rsz ren rst rkn), (eA0 rco cRc 64 fRc), (eA0 ren cRe 4 fRe), (eA1 rst cRs 64 fRs_d), (eA1 bbo cBb 6 fBo), (eA1 bdi cBi 6 fDi), (eO6a bno ns nsa nfa nza), (eA0 nsa cNs 12 fNs), (eA0 nfa cNf 96 fNf), (eA0 nza cNz 96 fNz)]) hP hD [13, 0, 12, 18, 14, 1, 2, 3, 19, 4, 5, 6, 7, 8, 9, 10, 15, 16, 17, 11] (by decide +kernel) rfl
                have hK9 := hK.sub (tys' := []) [] rfl
                exact W.vret hx hb hr (fun t ht hW => ⟨⟨(f0_d, v0_d, v1_d, v2_d, v3_d, v4_d, (xm_la (fb_landIs fTo (0 : Int32)) (La 0)), dct_d, dyr_d, ddy_d, dlg_d, fRs_d), rfl, (Eq.symm (hI_d.trans (by rw [fd_fill_d]; (try rw [if_neg c_27]); (try rw [if_pos c_28]); try rfl))), by rw [ht]; exact hP9, va_K.moved hW.alike hK9, hD9⟩, hS.F ht⟩) hS.2.2 dX5_fill_159
              · refine lv_aload_n hx hb dX5_fill_114 rfl (lv_at hl 4 rfl) ?_
                refine va_get (D := (dC, dI)) (ci := 5) (v := .ref dwi) (C := RX5) (T := TX5) (N := 6) hx hb htw inlX5 hown hK hP 13 rfl rfl 5 (by decide) (htw _ (ck_8 _ (List.mem_of_getElem? (i := 12) rfl))) (fun _ h9 => h9) rfl dX5_fill_115 ?_
                refine lv_aload_n hx hb dX5_fill_118 rfl (lv_at hl 4 rfl) ?_
                refine va_get (D := (dC, dI)) (ci := 5) (v := .ref dmo) (C := RX5) (T := TX5) (N := 6) hx hb htw inlX5 hown hK hP 13 rfl rfl 4 (by decide) (htw _ (ck_8 _ (List.mem_of_getElem? (i := 10) rfl))) (fun _ h9 => h9) rfl dX5_fill_119 ?_
                refine lv_aload_n hx hb dX5_fill_122 rfl (lv_at hl 6 rfl) ?_
                obtain ⟨hPc, hDc, hFc, hCc⟩ := zsub3 (ws' := [(eO10a dwi v0_d v1_d v2_d v3_d v4_d), (dmo, .inr (4, [(xm_la (fb_landIs fTo (0 : Int32)) (La 0)), .long dct_d, .long dyr_d, .long ddy_d, .long dlg_d])), (eO0a bk bto bnm bla bsk bru bbo bdi bda bdk bdt bdp bno), (eO9a bsk wd wf mp mb mo sp sb), (eO8a bru rco rsz ren rst rkn), (eA0 rco cRc 64 fRc), (eA0 ren cRe 4 fRe), (eA1 rst cRs 64 fRs_d)]) hP hD hS hA [14, 18, 1, 4, 5, 6, 7, 8] (by decide +kernel) rfl
                have hKc := hK.sub (tys' := [(cRc, .int), (cRe, .int), (cRs, .long)]) [4, 5, 6] rfl
                refine va_calli (va_runV (As := [.ref dmo, .ref bk]) (rest := []) ⟨hx, hb, hml, hown, htw⟩ (gw_isMet l dC dI dwi v0_d v1_d v2_d v3_d v4_d dmo (xm_la (fb_landIs fTo (0 : Int32)) (La 0)) dct_d dyr_d ddy_d dlg_d bk bto bnm bla bsk bru bbo bdi bda bdk bdt bdp bno rco rsz ren rst rkn cRc fRc cRe fRe cRs fRs_d wd wf mp mb mo sp sb H.size hE) (cwV 2 htw (xg_V (ck_57 _ (List.mem_of_getElem? (i := 1) rfl)) (ck_42 _ (List.mem_of_getElem? (i := 16) rfl)) (ck_42 _ (List.mem_of_getElem? (i := 17) rfl)) (ck_2 _ (List.mem_of_getElem? (i := 21) rfl)) (ck_42 _ (List.mem_of_getElem? (i := 18) rfl))) rfl rfl rfl (by exact ⟨rfl, hdc_9.1, hdc_9.2, hdd_20⟩) ⟨Nat.le_of_ble_eq_true rfl, Nat.le_of_ble_eq_true rfl⟩) ⟨fun a U g mk q => by obtain ⟨q0, q1, qP, qK, qD⟩ := q; exact ⟨q0, q1, qP, va_K.moved (u := U) (U := U.calling g mk a) (Vm.Alike.refl U.vm) qK, qD⟩, va_recv hKc hPc (ci := 10) (q0 := 0) rfl rfl, fun U hU hW => ⟨rfl, by rw [hU], by rw [hU]; exact hPc, va_K.moved hW.alike hKc, hDc.weaken (fun _ _ _ _ => trivial)⟩⟩ rfl rfl hl.1 rfl (lv_room (Nat.le_of_ble_eq_true rfl)) dX5_fill_123 ⟨Nat.le_of_ble_eq_true rfl, Nat.le_of_ble_eq_true rfl⟩) hS (fun q _ h => hFc q h) hFc (fun r_29 u_30 t H1 locs ht hvm hw hB hz1 hk1 hS => ?_)
                try dsimp only at hw
                obtain ⟨hP1, hK1, hD1⟩ := hB
                rw [ht] at hP1
                have hK1 := va_K.moved hvm.symm hK1
                have hK1 : va_K (dC, dI) vwCl [] s := hK1
                obtain ⟨hP, hD⟩ := va_join (wr := [(eA4 drw cDr 12 (fun k => some (Rw k))), (eA0 bto cTo 5 fTo), (eA4 bla cLa 4 (fun k => some (La k))), (eA1 bbo cBb 6 fBo), (eA1 bdi cBi 6 fDi), (eA0 nza cNz 96 fNz), ((Rw a0.toNatClampNeg), .inl (cRr, 313, .inr (.inl f0_d))), (eO5a xdy drw dfr dsh dto dmo dwi), (eO6a bno ns nsa nfa nza), (eA0 nsa cNs 12 fNs), (eA0 nfa cNf 96 fNf), (eO1a (La 0) (FI 0) (GR 0) (FR 0))]) (w1 := [(eO10a dwi v0_d v1_d v2_d v3_d v4_d), (dmo, .inr (4, [(xm_la (fb_landIs fTo (0 : Int32)) (La 0)), .long dct_d, .long dyr_d, .long ddy_d, .long dlg_d])), (eO0a bk bto bnm bla bsk bru bbo bdi bda bdk bdt bdp bno), (eO9a bsk wd wf mp mb mo sp sb), (eO8a bru rco rsz ren rst rkn), (eA0 rco cRc 64 fRc), (eA0 ren cRe 4 fRe), (eA1 rst cRs 64 u_30)]) hP hD [14, 18, 1, 4, 5, 6, 7, 8] [0, 2, 3, 9, 10, 11, 12, 13, 15, 16, 17, 19] hCc rfl (by decide +kernel) (by decide +kernel) hk1 hFc hP1 hD1
                generalize H1 = H at hP hS ⊢
                obtain ⟨hP, hD⟩ := zre [(eA4 drw cDr 12 (fun k => some (Rw k))), (eA0 bto cTo 5 fTo), (eA4 bla cLa 4 (fun k => some (La k))), (eA1 bbo cBb 6 fBo), (eA1 bdi cBi 6 fDi), (eA0 nza cNz 96 fNz), ((Rw a0.toNatClampNeg), .inl (cRr, 313, .inr (.inl f0_d))), (eO5a xdy drw dfr dsh dto dmo dwi), (eO6a bno ns nsa nfa nza), (eA0 nsa cNs 12 fNs), (eA0 nfa cNf 96 fNf), (eO1a (La 0) (FI 0) (GR 0) (FR 0)), (eO10a dwi v0_d v1_d v2_d v3_d v4_d), (dmo, .inr (4, [(xm_la (fb_landIs fTo (0 : Int32)) (La 0)), .long dct_d, .long dyr_d, .long ddy_d, .long dlg_d])), (eO0a bk bto bnm bla bsk bru bbo bdi bda bdk bdt bdp bno), (eO9a bsk wd wf mp mb mo sp sb), (eO8a bru rco rsz ren rst rkn), (eA0 rco cRc 64 fRc), (eA0 ren cRe 4 fRe), (eA1 rst cRs 64 u_30)] hP hD rfl
                refine W.widen (k := 0) (n := 0) (by omega) (by omega) ?_
                have hq_r_29 : r_29 = (fw_isMet v0_d v1_d v2_d v3_d v4_d fRc fRe fRs_d dct_d dyr_d ddy_d dlg_d wd wf mp mb mo sp sb).1 := hw.1
                have hq_u_30 : u_30 = (fw_isMet v0_d v1_d v2_d v3_d v4_d fRc fRe fRs_d dct_d dyr_d ddy_d dlg_d wd wf mp mb mo sp sb).2 := hw.2
                refine lv_if_eq (tgt := 146) hx hb dX5_fill_126 (by decide) (fun c_32 => ?_) (fun c_32 => ?_)
                · refine lv_aload_n hx hb dX5_fill_146 rfl (lv_at hl 4 rfl) ?_
                  refine va_get (D := (dC, dI)) (ci := 5) (v := .ref dmo) (C := RX5) (T := TX5) (N := 6) hx hb htw inlX5 hown hK hP 7 rfl rfl 4 (by decide) (htw _ (ck_8 _ (List.mem_of_getElem? (i := 10) rfl))) (fun _ h9 => h9) rfl dX5_fill_147 ?_
                  obtain ⟨hPc, hDc, hFc, hCc⟩ := zsub3 (ws' := [(dmo, .inr (4, [(xm_la (fb_landIs fTo (0 : Int32)) (La 0)), .long dct_d, .long dyr_d, .long ddy_d, .long dlg_d])), (eO1a (La 0) (FI 0) (GR 0) (FR 0))]) hP hD hS hA [13, 11] (by decide) rfl
                  have hKc := hK.sub (tys' := []) [] rfl
                  refine va_callv (va_runV (As := []) (rest := []) ⟨hx, hb, hml, hown, htw⟩ (gm_stepU l dC dI dmo dct_d dyr_d ddy_d dlg_d (La 0) (FI 0) (GR 0) (FR 0) (fb_landIs fTo (0 : Int32)) H.size) (cwV 0 htw (xg_V (ck_57 _ (List.mem_of_getElem? (i := 2) rfl)) (ck_43 _ (List.mem_of_getElem? (i := 4) rfl)) (ck_43 _ (List.mem_of_getElem? (i := 5) rfl)) (ck_2 _ (List.mem_of_getElem? (i := 16) rfl)) (ck_43 _ (List.mem_of_getElem? (i := 6) rfl))) rfl rfl rfl (by exact ⟨rfl, hdc_7.1, hdc_7.2, hdd_13⟩) ⟨Nat.le_of_ble_eq_true rfl, Nat.le_of_ble_eq_true rfl⟩) ⟨fun a U g mk q => by obtain ⟨q0, q1, qP, qK, qD⟩ := q; exact ⟨q0, q1, qP, va_K.moved (u := U) (U := U.calling g mk a) (Vm.Alike.refl U.vm) qK, qD⟩, va_recv hKc hPc (ci := 4) (q0 := 0) rfl rfl, fun U hU hW => ⟨rfl, by rw [hU], by rw [hU]; exact hPc, va_K.moved hW.alike hKc, hDc.weaken (fun _ _ _ _ => trivial)⟩⟩ rfl rfl hl.1 rfl (lv_room (Nat.le_of_ble_eq_true rfl)) dX5_fill_150 ⟨Nat.le_of_ble_eq_true rfl, Nat.le_of_ble_eq_true rfl⟩) hS (fun q _ h => hFc q h) hFc (fun u_34 t H1 locs ht hvm hw hB hz1 hk1 hS => ?_)
                  try dsimp only at hw
                  obtain ⟨hP1, hK1, hD1⟩ := hB
                  rw [ht] at hP1
                  have hK1 := va_K.moved hvm.symm hK1
                  have hK1 : va_K (dC, dI) vwCl [] s := hK1
                  obtain ⟨hP, hD⟩ := va_join (wr := [(eA4 drw cDr 12 (fun k => some (Rw k))), (eA0 bto cTo 5 fTo), (eA4 bla cLa 4 (fun k => some (La k))), (eA1 bbo cBb 6 fBo), (eA1 bdi cBi 6 fDi), (eA0 nza cNz 96 fNz), ((Rw a0.toNatClampNeg), .inl (cRr, 313, .inr (.inl f0_d))), (eO5a xdy drw dfr dsh dto dmo dwi), (eO6a bno ns nsa nfa nza), (eA0 nsa cNs 12 fNs), (eA0 nfa cNf 96 fNf), (eO10a dwi v0_d v1_d v2_d v3_d v4_d), (eO0a bk bto bnm bla bsk bru bbo bdi bda bdk bdt bdp bno), (eO9a bsk wd wf mp mb mo sp sb), (eO8a bru rco rsz ren rst rkn), (eA0 rco cRc 64 fRc), (eA0 ren cRe 4 fRe), (eA1 rst cRs 64 u_30)]) (w1 := [(dmo, .inr (4, [(xm_la (fb_landIs fTo (0 : Int32)) (La 0)), .long u_34.1, .long u_34.2.1, .long u_34.2.2.1, .long u_34.2.2.2])), (eO1a (La 0) (FI 0) (GR 0) (FR 0))]) hP hD [13, 11] [0, 1, 2, 3, 4, 5, 6, 7, 8, 9, 10, 12, 14, 15, 16, 17, 18, 19] hCc rfl (by decide +kernel) (by decide +kernel) hk1 hFc hP1 hD1
                  generalize H1 = H at hP hS ⊢
                  obtain ⟨hP, hD⟩ := zre [(eA4 drw cDr 12 (fun k => some (Rw k))), (eA0 bto cTo 5 fTo), (eA4 bla cLa 4 (fun k => some (La k))), (eA1 bbo cBb 6 fBo), (eA1 bdi cBi 6 fDi), (eA0 nza cNz 96 fNz), ((Rw a0.toNatClampNeg), .inl (cRr, 313, .inr (.inl f0_d))), (eO5a xdy drw dfr dsh dto dmo dwi), (eO6a bno ns nsa nfa nza), (eA0 nsa cNs 12 fNs), (eA0 nfa cNf 96 fNf), (eO10a dwi v0_d v1_d v2_d v3_d v4_d), (eO0a bk bto bnm bla bsk bru bbo bdi bda bdk bdt bdp bno), (eO9a bsk wd wf mp mb mo sp sb), (eO8a bru rco rsz ren rst rkn), (eA0 rco cRc 64 fRc), (eA0 ren cRe 4 fRe), (eA1 rst cRs 64 u_30), (dmo, .inr (4, [(xm_la (fb_landIs fTo (0 : Int32)) (La 0)), .long u_34.1, .long u_34.2.1, .long u_34.2.2.1, .long u_34.2.2.2])), (eO1a (La 0) (FI 0) (GR 0) (FR 0))] hP hD rfl
                  refine W.widen (k := 0) (n := 0) (by omega) (by omega) ?_
                  have hq_u_34 : u_34 = (fm_stepU dct_d dyr_d ddy_d dlg_d (FI 0) (GR 0) (FR 0) (fb_landIs fTo (0 : Int32))) := hw
                  refine lv_iinc (v := (L8d + 1)) (lv' := [(8, .int (L8d + 1)), (6, .long L6d), (4, .long L4d), (3, .ref (Rw a0.toNatClampNeg)), (0, .ref xdy), (1, .int a0), (2, .ref bk)]) hx hb dX5_fill_153 hl (k := 0) rfl (rfl) (by decide) rfl (fun ls hl => ?_)
                  refine lv_goto (tgt := 97) hx hb dX5_fill_156 (by decide) ?_
                  have hP := hP.sub (ws' := [(eA4 drw cDr 12 (fun k => some (Rw k))), (eO0a bk bto bnm bla bsk bru bbo bdi bda bdk bdt bdp bno), (eA0 bto cTo 5 fTo), (eA4 bla cLa 4 (fun k => some (La k))), (eO9a bsk wd wf mp mb mo sp sb), (eO8a bru rco rsz ren rst rkn), (eA0 rco cRc 64 fRc), (eA0 ren cRe 4 fRe), (eA1 rst cRs 64 u_30), (eA1 bbo cBb 6 fBo), (eA1 bdi cBi 6 fDi), (eA0 nza cNz 96 fNz), ((Rw a0.toNatClampNeg), .inl (cRr, 313, .inr (.inl f0_d))), (eO5a xdy drw dfr dsh dto dmo dwi), (eO10a dwi v0_d v1_d v2_d v3_d v4_d), (eO6a bno ns nsa nfa nza), (eA0 nsa cNs 12 fNs), (eA0 nfa cNf 96 fNf), (dmo, .inr (4, [(xm_la (fb_landIs fTo (0 : Int32)) (La 0)), .long u_34.1, .long u_34.2.1, .long u_34.2.2.1, .long u_34.2.2.2])), (eO1a (La 0) (FI 0) (GR 0) (FR 0))]) [0, 12, 1, 2, 13, 14, 15, 16, 17, 3, 4, 5, 6, 7, 11, 8, 9, 10, 18, 19] rfl
                  have hD := hD.sub (ws' := [(eA4 drw cDr 12 (fun k => some (Rw k))), (eO0a bk bto bnm bla bsk bru bbo bdi bda bdk bdt bdp bno), (eA0 bto cTo 5 fTo), (eA4 bla cLa 4 (fun k => some (La k))), (eO9a bsk wd wf mp mb mo sp sb), (eO8a bru rco rsz ren rst rkn), (eA0 rco cRc 64 fRc), (eA0 ren cRe 4 fRe), (eA1 rst cRs 64 u_30), (eA1 bbo cBb 6 fBo), (eA1 bdi cBi 6 fDi), (eA0 nza cNz 96 fNz), ((Rw a0.toNatClampNeg), .inl (cRr, 313, .inr (.inl f0_d))), (eO5a xdy drw dfr dsh dto dmo dwi), (eO10a dwi v0_d v1_d v2_d v3_d v4_d), (eO6a bno ns nsa nfa nza), (eA0 nsa cNs 12 fNs), (eA0 nfa cNf 96 fNf), (dmo, .inr (4, [(xm_la (fb_landIs fTo (0 : Int32)) (La 0)), .long u_34.1, .long u_34.2.1, .long u_34.2.2.1, .long u_34.2.2.2])), (eO1a (La 0) (FI 0) (GR 0) (FR 0))]) [0, 12, 1, 2, 13, 14, 15, 16, 17, 3, 4, 5, 6, 7, 11, 8, 9, 10, 18, 19] (by decide +kernel) rfl
                  exact ih L4d L6d (L8d + 1) u_34.1 u_34.2.1 u_34.2.2.1 u_34.2.2.2 v0_d v1_d v2_d v3_d v4_d u_30 f0_d (gd_fill_s1 (y0 := L8d) c_28 h0_d) (by rw [xi_s' c_28]; omega) (hI_d.trans (by rw [fd_fill_d]; (try rw [if_neg c_27]); (try rw [if_neg c_28]); (try rw [← hq_r_29]); (try rw [xL_eq]); (try rw [← hq_u_30]); (try rw [xL_eq]); (try rw [if_pos c_32]); (try rw [← hq_u_34]); (try rw [xL_eq]); try rfl)) H locs ls hP hD hS (lv_sub hl [0, 1, 2, 3, 4, 5, 6] rfl)
                · refine lv_aload_n hx hb dX5_fill_129 rfl (lv_at hl 3 rfl) ?_
                  refine lv_iload hx hb dX5_fill_130 (lv_at hl 0 rfl) ?_
                  refine lv_bipush (v := 6) hx hb dX5_fill_132 (by decide) ?_
                  refine lv_ishr hx hb dX5_fill_134 ?_
                  refine lv_dup2_11 hx hb dX5_fill_135 rfl rfl ?_
                  refine va_lald hx hb hK hP 6 1 rfl rfl (xi_shr6in (gd_fill_s2 (y0 := L8d) c_28 h0_d).1 (gd_fill_s2 (y0 := L8d) c_28 h0_d).2) dX5_fill_136 ?_
                  refine lv_lconst (v := 1) hx hb dX5_fill_137 (by decide) ?_
                  refine lv_iload hx hb dX5_fill_138 (lv_at hl 0 rfl) ?_
                  refine lv_bipush (v := 63) hx hb dX5_fill_140 (by decide) ?_
                  refine lv_iand hx hb dX5_fill_142 ?_
                  refine lv_lshl (v := (1 <<< ((L8d &&& 63).toInt64 &&& 63))) hx hb dX5_fill_143 rfl ?_
                  refine lv_lor hx hb dX5_fill_144 ?_
                  refine va_last hx hb hK hP hD hS 6 1 rfl rfl (xi_shr6in (gd_fill_s3 (y0 := L8d) c_28 h0_d).1 (gd_fill_s3 (y0 := L8d) c_28 h0_d).2) dX5_fill_145 (fun H locs hP hD hS => ?_)
                  obtain ⟨hP, hD⟩ := zre [(eA4 drw cDr 12 (fun k => some (Rw k))), (eA0 bto cTo 5 fTo), (eA4 bla cLa 4 (fun k => some (La k))), (eA1 bbo cBb 6 fBo), (eA1 bdi cBi 6 fDi), (eA0 nza cNz 96 fNz), ((Rw a0.toNatClampNeg), .inl (cRr, 313, .inr (.inl (vp_updL f0_d ((L8d >>> (6 &&& 31)).toNatClampNeg) ((f0_d ((L8d >>> (6 &&& 31)).toNatClampNeg)) ||| (1 <<< ((L8d &&& 63).toInt64 &&& 63))))))), (eO5a xdy drw dfr dsh dto dmo dwi), (eO6a bno ns nsa nfa nza), (eA0 nsa cNs 12 fNs), (eA0 nfa cNf 96 fNf), (eO1a (La 0) (FI 0) (GR 0) (FR 0)), (eO10a dwi v0_d v1_d v2_d v3_d v4_d), (dmo, .inr (4, [(xm_la (fb_landIs fTo (0 : Int32)) (La 0)), .long dct_d, .long dyr_d, .long ddy_d, .long dlg_d])), (eO0a bk bto bnm bla bsk bru bbo bdi bda bdk bdt bdp bno), (eO9a bsk wd wf mp mb mo sp sb), (eO8a bru rco rsz ren rst rkn), (eA0 rco cRc 64 fRc), (eA0 ren cRe 4 fRe), (eA1 rst cRs 64 u_30)] hP hD rfl
                  refine lv_aload_n hx hb dX5_fill_146 rfl (lv_at hl 4 rfl) ?_
                  refine va_get (D := (dC, dI)) (ci := 5) (v := .ref dmo) (C := RX5) (T := TX5) (N := 6) hx hb htw inlX5 hown hK hP 7 rfl rfl 4 (by decide) (htw _ (ck_8 _ (List.mem_of_getElem? (i := 10) rfl))) (fun _ h9 => h9) rfl dX5_fill_147 ?_
                  obtain ⟨hPc, hDc, hFc, hCc⟩ := zsub3 (ws' := [(dmo, .inr (4, [(xm_la (fb_landIs fTo (0 : Int32)) (La 0)), .long dct_d, .long dyr_d, .long ddy_d, .long dlg_d])), (eO1a (La 0) (FI 0) (GR 0) (FR 0))]) hP hD hS hA [13, 11] (by decide) rfl
                  have hKc := hK.sub (tys' := []) [] rfl
                  refine va_callv (va_runV (As := []) (rest := []) ⟨hx, hb, hml, hown, htw⟩ (gm_stepU l dC dI dmo dct_d dyr_d ddy_d dlg_d (La 0) (FI 0) (GR 0) (FR 0) (fb_landIs fTo (0 : Int32)) H.size) (cwV 0 htw (xg_V (ck_57 _ (List.mem_of_getElem? (i := 2) rfl)) (ck_43 _ (List.mem_of_getElem? (i := 4) rfl)) (ck_43 _ (List.mem_of_getElem? (i := 5) rfl)) (ck_2 _ (List.mem_of_getElem? (i := 16) rfl)) (ck_43 _ (List.mem_of_getElem? (i := 6) rfl))) rfl rfl rfl (by exact ⟨rfl, hdc_7.1, hdc_7.2, hdd_13⟩) ⟨Nat.le_of_ble_eq_true rfl, Nat.le_of_ble_eq_true rfl⟩) ⟨fun a U g mk q => by obtain ⟨q0, q1, qP, qK, qD⟩ := q; exact ⟨q0, q1, qP, va_K.moved (u := U) (U := U.calling g mk a) (Vm.Alike.refl U.vm) qK, qD⟩, va_recv hKc hPc (ci := 4) (q0 := 0) rfl rfl, fun U hU hW => ⟨rfl, by rw [hU], by rw [hU]; exact hPc, va_K.moved hW.alike hKc, hDc.weaken (fun _ _ _ _ => trivial)⟩⟩ rfl rfl hl.1 rfl (lv_room (Nat.le_of_ble_eq_true rfl)) dX5_fill_150 ⟨Nat.le_of_ble_eq_true rfl, Nat.le_of_ble_eq_true rfl⟩) hS (fun q _ h => hFc q h) hFc (fun u_41 t H1 locs ht hvm hw hB hz1 hk1 hS => ?_)
                  try dsimp only at hw
                  obtain ⟨hP1, hK1, hD1⟩ := hB
                  rw [ht] at hP1
                  have hK1 := va_K.moved hvm.symm hK1
                  have hK1 : va_K (dC, dI) vwCl [] s := hK1
                  obtain ⟨hP, hD⟩ := va_join (wr := [(eA4 drw cDr 12 (fun k => some (Rw k))), (eA0 bto cTo 5 fTo), (eA4 bla cLa 4 (fun k => some (La k))), (eA1 bbo cBb 6 fBo), (eA1 bdi cBi 6 fDi), (eA0 nza cNz 96 fNz), ((Rw a0.toNatClampNeg), .inl (cRr, 313, .inr (.inl (vp_updL f0_d ((L8d >>> (6 &&& 31)).toNatClampNeg) ((f0_d ((L8d >>> (6 &&& 31)).toNatClampNeg)) ||| (1 <<< ((L8d &&& 63).toInt64 &&& 63))))))), (eO5a xdy drw dfr dsh dto dmo dwi), (eO6a bno ns nsa nfa nza), (eA0 nsa cNs 12 fNs), (eA0 nfa cNf 96 fNf), (eO10a dwi v0_d v1_d v2_d v3_d v4_d), (eO0a bk bto bnm bla bsk bru bbo bdi bda bdk bdt bdp bno), (eO9a bsk wd wf mp mb mo sp sb), (eO8a bru rco rsz ren rst rkn), (eA0 rco cRc 64 fRc), (eA0 ren cRe 4 fRe), (eA1 rst cRs 64 u_30)]) (w1 := [(dmo, .inr (4, [(xm_la (fb_landIs fTo (0 : Int32)) (La 0)), .long u_41.1, .long u_41.2.1, .long u_41.2.2.1, .long u_41.2.2.2])), (eO1a (La 0) (FI 0) (GR 0) (FR 0))]) hP hD [13, 11] [0, 1, 2, 3, 4, 5, 6, 7, 8, 9, 10, 12, 14, 15, 16, 17, 18, 19] hCc rfl (by decide +kernel) (by decide +kernel) hk1 hFc hP1 hD1
                  generalize H1 = H at hP hS ⊢
                  obtain ⟨hP, hD⟩ := zre [(eA4 drw cDr 12 (fun k => some (Rw k))), (eA0 bto cTo 5 fTo), (eA4 bla cLa 4 (fun k => some (La k))), (eA1 bbo cBb 6 fBo), (eA1 bdi cBi 6 fDi), (eA0 nza cNz 96 fNz), ((Rw a0.toNatClampNeg), .inl (cRr, 313, .inr (.inl (vp_updL f0_d ((L8d >>> (6 &&& 31)).toNatClampNeg) ((f0_d ((L8d >>> (6 &&& 31)).toNatClampNeg)) ||| (1 <<< ((L8d &&& 63).toInt64 &&& 63))))))), (eO5a xdy drw dfr dsh dto dmo dwi), (eO6a bno ns nsa nfa nza), (eA0 nsa cNs 12 fNs), (eA0 nfa cNf 96 fNf), (eO10a dwi v0_d v1_d v2_d v3_d v4_d), (eO0a bk bto bnm bla bsk bru bbo bdi bda bdk bdt bdp bno), (eO9a bsk wd wf mp mb mo sp sb), (eO8a bru rco rsz ren rst rkn), (eA0 rco cRc 64 fRc), (eA0 ren cRe 4 fRe), (eA1 rst cRs 64 u_30), (dmo, .inr (4, [(xm_la (fb_landIs fTo (0 : Int32)) (La 0)), .long u_41.1, .long u_41.2.1, .long u_41.2.2.1, .long u_41.2.2.2])), (eO1a (La 0) (FI 0) (GR 0) (FR 0))] hP hD rfl
                  refine W.widen (k := 0) (n := 0) (by omega) (by omega) ?_
                  have hq_u_41 : u_41 = (fm_stepU dct_d dyr_d ddy_d dlg_d (FI 0) (GR 0) (FR 0) (fb_landIs fTo (0 : Int32))) := hw
                  refine lv_iinc (v := (L8d + 1)) (lv' := [(8, .int (L8d + 1)), (6, .long L6d), (4, .long L4d), (3, .ref (Rw a0.toNatClampNeg)), (0, .ref xdy), (1, .int a0), (2, .ref bk)]) hx hb dX5_fill_153 hl (k := 0) rfl (rfl) (by decide) rfl (fun ls hl => ?_)
                  refine lv_goto (tgt := 97) hx hb dX5_fill_156 (by decide) ?_
                  have hP := hP.sub (ws' := [(eA4 drw cDr 12 (fun k => some (Rw k))), (eO0a bk bto bnm bla bsk bru bbo bdi bda bdk bdt bdp bno), (eA0 bto cTo 5 fTo), (eA4 bla cLa 4 (fun k => some (La k))), (eO9a bsk wd wf mp mb mo sp sb), (eO8a bru rco rsz ren rst rkn), (eA0 rco cRc 64 fRc), (eA0 ren cRe 4 fRe), (eA1 rst cRs 64 u_30), (eA1 bbo cBb 6 fBo), (eA1 bdi cBi 6 fDi), (eA0 nza cNz 96 fNz), ((Rw a0.toNatClampNeg), .inl (cRr, 313, .inr (.inl (vp_updL f0_d ((L8d >>> (6 &&& 31)).toNatClampNeg) ((f0_d ((L8d >>> (6 &&& 31)).toNatClampNeg)) ||| (1 <<< ((L8d &&& 63).toInt64 &&& 63))))))), (eO5a xdy drw dfr dsh dto dmo dwi), (eO10a dwi v0_d v1_d v2_d v3_d v4_d), (eO6a bno ns nsa nfa nza), (eA0 nsa cNs 12 fNs), (eA0 nfa cNf 96 fNf), (dmo, .inr (4, [(xm_la (fb_landIs fTo (0 : Int32)) (La 0)), .long u_41.1, .long u_41.2.1, .long u_41.2.2.1, .long u_41.2.2.2])), (eO1a (La 0) (FI 0) (GR 0) (FR 0))]) [0, 12, 1, 2, 13, 14, 15, 16, 17, 3, 4, 5, 6, 7, 11, 8, 9, 10, 18, 19] rfl
                  have hD := hD.sub (ws' := [(eA4 drw cDr 12 (fun k => some (Rw k))), (eO0a bk bto bnm bla bsk bru bbo bdi bda bdk bdt bdp bno), (eA0 bto cTo 5 fTo), (eA4 bla cLa 4 (fun k => some (La k))), (eO9a bsk wd wf mp mb mo sp sb), (eO8a bru rco rsz ren rst rkn), (eA0 rco cRc 64 fRc), (eA0 ren cRe 4 fRe), (eA1 rst cRs 64 u_30), (eA1 bbo cBb 6 fBo), (eA1 bdi cBi 6 fDi), (eA0 nza cNz 96 fNz), ((Rw a0.toNatClampNeg), .inl (cRr, 313, .inr (.inl (vp_updL f0_d ((L8d >>> (6 &&& 31)).toNatClampNeg) ((f0_d ((L8d >>> (6 &&& 31)).toNatClampNeg)) ||| (1 <<< ((L8d &&& 63).toInt64 &&& 63))))))), (eO5a xdy drw dfr dsh dto dmo dwi), (eO10a dwi v0_d v1_d v2_d v3_d v4_d), (eO6a bno ns nsa nfa nza), (eA0 nsa cNs 12 fNs), (eA0 nfa cNf 96 fNf), (dmo, .inr (4, [(xm_la (fb_landIs fTo (0 : Int32)) (La 0)), .long u_41.1, .long u_41.2.1, .long u_41.2.2.1, .long u_41.2.2.2])), (eO1a (La 0) (FI 0) (GR 0) (FR 0))]) [0, 12, 1, 2, 13, 14, 15, 16, 17, 3, 4, 5, 6, 7, 11, 8, 9, 10, 18, 19] (by decide +kernel) rfl
                  exact ih L4d L6d (L8d + 1) u_41.1 u_41.2.1 u_41.2.2.1 u_41.2.2.2 v0_d v1_d v2_d v3_d v4_d u_30 (vp_updL f0_d ((L8d >>> (6 &&& 31)).toNatClampNeg) ((f0_d ((L8d >>> (6 &&& 31)).toNatClampNeg)) ||| (1 <<< ((L8d &&& 63).toInt64 &&& 63)))) (gd_fill_s4 (y0 := L8d) c_28 h0_d) (by rw [xi_s' c_28]; omega) (hI_d.trans (by rw [fd_fill_d]; (try rw [if_neg c_27]); (try rw [if_neg c_28]); (try rw [← hq_r_29]); (try rw [xL_eq]); (try rw [← hq_u_30]); (try rw [xL_eq]); (try rw [if_neg c_32]); (try rw [← hq_u_41]); (try rw [xL_eq]); try rfl)) H locs ls hP hD hS (lv_sub hl [0, 1, 2, 3, 4, 5, 6] rfl)
        exact hloop_24 20000 r_4 (if 19999 < r_5 then 19999 else r_5) r_4.toInt32 u_19.1 u_19.2.1 u_19.2.2.1 u_19.2.2.2 u_9.1 u_9.2.1 u_9.2.2.1 u_9.2.2.2.1 u_9.2.2.2.2 fRs u_2 (xf_nn6 (gd_fill_s5 (y0 := r_4) (y1 := r_5) (fun q9 => c_6 ((lg_cmp_lt _ _).mpr q9)) ((lg_cmp_le _ _).mp c_7)).1 (gd_fill_s5 (y0 := r_4) (y1 := r_5) (fun q9 => c_6 ((lg_cmp_lt _ _).mpr q9)) ((lg_cmp_le _ _).mp c_7)).2) (by have := xi_nn (xf_nn6 (gd_fill_s6 (y0 := r_4) (y1 := r_5) (fun q9 => c_6 ((lg_cmp_lt _ _).mpr q9)) ((lg_cmp_le _ _).mp c_7)).1 (gd_fill_s6 (y0 := r_4) (y1 := r_5) (fun q9 => c_6 ((lg_cmp_lt _ _).mpr q9)) ((lg_cmp_le _ _).mp c_7)).2); have e9 : (20000 : Int32).toInt = 20000 := rfl; omega) ((by rw [fd_fill]; (try rw [← hq_u_2]); (try rw [xL_eq]); (try rw [← hq_r_4]); (try rw [xL_eq]); (try rw [← hq_r_5]); (try rw [xL_eq]); (try rw [if_neg c_6]); (try rw [if_pos c_7]); (try rw [← hq_u_9]); (try rw [xL_eq]); (try rw [← hq_r_15]); (try rw [xL_eq]); (try rw [if_pos c_16]); (try rw [← hq_u_19]); (try rw [xL_eq]); try rfl)) _ _ ls hP hD hS (lv_sub hl [0, 1, 2, 3, 4, 5, 6] rfl)
      · refine lv_aload_n hx hb dX5_fill_67 rfl (lv_at hl 2 rfl) ?_
        refine lv_lload hx hb dX5_fill_68 (lv_at hl 1 rfl) ?_
        refine lv_l2i (v := r_4.toInt32) hx hb dX5_fill_70 rfl ?_
        refine lv_lload hx hb dX5_fill_71 (lv_at hl 0 rfl) ?_
        refine lv_l2i (v := (if 19999 < r_5 then 19999 else r_5).toInt32) hx hb dX5_fill_73 rfl ?_
        obtain ⟨hPc, hDc, hFc, hCc⟩ := zsub3 (ws' := [((Rw a0.toNatClampNeg), .inl (cRr, 313, .inr (.inl u_2)))]) hP hD hS hA [14] (by decide) rfl
        have hKc := hK.sub (tys' := [(cRr, .long)]) [1] rfl
        refine va_callv (va_runS (As := [.ref (Rw a0.toNatClampNeg), .int r_4.toInt32, .int ((if 19999 < r_5 then 19999 else r_5).toInt32)]) (rest := []) ⟨hx, hb, hml, hown, htw⟩ (gd_fillAll l dC dI (Rw a0.toNatClampNeg) cRr u_2 r_4.toInt32 ((if 19999 < r_5 then 19999 else r_5).toInt32) H.size (xf_mono (gd_fill_s7 (y0 := r_4) (y1 := r_5) (fun q9 => c_6 ((lg_cmp_lt _ _).mpr q9)) ((lg_cmp_le _ _).mp c_7)).1 (gd_fill_s7 (y0 := r_4) (y1 := r_5) (fun q9 => c_6 ((lg_cmp_lt _ _).mpr q9)) ((lg_cmp_le _ _).mp c_7)).2.1 (gd_fill_s7 (y0 := r_4) (y1 := r_5) (fun q9 => c_6 ((lg_cmp_lt _ _).mpr q9)) ((lg_cmp_le _ _).mp c_7)).2.2)) (va_cwS 3 htw (xg_S (ck_56 _ (List.mem_of_getElem? (i := 19) rfl)) (ck_56 _ (List.mem_of_getElem? (i := 20) rfl)) (ck_2 _ (List.mem_of_getElem? (i := 1) rfl)) (ck_56 _ (List.mem_of_getElem? (i := 21) rfl))) rfl rfl rfl (by exact ⟨hdc_10.1, hdc_10.2, hdd_33⟩) ⟨Nat.le_of_ble_eq_true rfl, Nat.le_of_ble_eq_true rfl⟩) ⟨fun a U g mk q => by obtain ⟨q0, q1, qP, qK, qD⟩ := q; exact ⟨q0, q1, qP, va_K.moved (u := U) (U := U.calling g mk a) (Vm.Alike.refl U.vm) qK, qD⟩, fun U hU hW => ⟨rfl, by rw [hU], by rw [hU]; exact hPc, va_K.moved hW.alike hKc, hDc.weaken (fun _ _ _ _ => trivial)⟩⟩ rfl rfl hl.1 rfl (lv_room (Nat.le_of_ble_eq_true rfl)) dX5_fill_74 ⟨Nat.le_of_ble_eq_true rfl, Nat.le_of_ble_eq_true rfl⟩) hS (fun q _ h => hFc q h) hFc (fun u_47 t H1 locs ht hvm hw hB hz1 hk1 hS => ?_)
        try dsimp only at hw
        obtain ⟨hP1, hK1, hD1⟩ := hB
        rw [ht] at hP1
        have hK1 := va_K.moved hvm.symm hK1
        have hK1 : va_K (dC, dI) vwCl [] s := hK1
        obtain ⟨hP, hD⟩ := va_join (wr := [(eA4 drw cDr 12 (fun k => some (Rw k))), (dmo, .inr (4, [dla, .long dct, .long dyr, .long ddy, .long dlg])), (eO0a bk bto bnm bla bsk bru bbo bdi bda bdk bdt bdp bno), (eA0 bto cTo 5 fTo), (eA4 bla cLa 4 (fun k => some (La k))), (eO1a (La 0) (FI 0) (GR 0) (FR 0)), (eO9a bsk wd wf mp mb mo sp sb), (eO8a bru rco rsz ren rst rkn), (eA0 rco cRc 64 fRc), (eA0 ren cRe 4 fRe), (eA1 rst cRs 64 fRs), (eA1 bbo cBb 6 fBo), (eA1 bdi cBi 6 fDi), (eA0 nza cNz 96 fNz), (eO5a xdy drw dfr dsh dto dmo dwi), (eO10a dwi u_9.1 u_9.2.1 u_9.2.2.1 u_9.2.2.2.1 u_9.2.2.2.2), (eO6a bno ns nsa nfa nza), (eA0 nsa cNs 12 fNs), (eA0 nfa cNf 96 fNf)]) (w1 := [((Rw a0.toNatClampNeg), .inl (cRr, 313, .inr (.inl u_47)))]) hP hD [14] [0, 1, 2, 3, 4, 5, 6, 7, 8, 9, 10, 11, 12, 13, 15, 16, 17, 18, 19] hCc rfl (by decide +kernel) (by decide +kernel) hk1 hFc hP1 hD1
        generalize H1 = H at hP hS ⊢
        obtain ⟨hP, hD⟩ := zre [(eA4 drw cDr 12 (fun k => some (Rw k))), (dmo, .inr (4, [dla, .long dct, .long dyr, .long ddy, .long dlg])), (eO0a bk bto bnm bla bsk bru bbo bdi bda bdk bdt bdp bno), (eA0 bto cTo 5 fTo), (eA4 bla cLa 4 (fun k => some (La k))), (eO1a (La 0) (FI 0) (GR 0) (FR 0)), (eO9a bsk wd wf mp mb mo sp sb), (eO8a bru rco rsz ren rst rkn), (eA0 rco cRc 64 fRc), (eA0 ren cRe 4 fRe), (eA1 rst cRs 64 fRs), (eA1 bbo cBb 6 fBo), (eA1 bdi cBi 6 fDi), (eA0 nza cNz 96 fNz), (eO5a xdy drw dfr dsh dto dmo dwi), (eO10a dwi u_9.1 u_9.2.1 u_9.2.2.1 u_9.2.2.2.1 u_9.2.2.2.2), (eO6a bno ns nsa nfa nza), (eA0 nsa cNs 12 fNs), (eA0 nfa cNf 96 fNf), ((Rw a0.toNatClampNeg), .inl (cRr, 313, .inr (.inl u_47)))] hP hD rfl
        refine W.widen (k := 0) (n := 0) (by omega) (by omega) ?_
        have hq_u_47 : u_47 = (fd_fillAll u_2 r_4.toInt32 ((if 19999 < r_5 then 19999 else r_5).toInt32)) := hw
        refine W.widen (k := 0) (n := 0) (by omega) (by omega) ?_
        obtain ⟨hP9, hD9⟩ := zsub2 (ws' := [(eO5a xdy drw dfr dsh dto dmo dwi), (eA4 drw cDr 12 (fun k => some (Rw k))), ((Rw a0.toNatClampNeg), .inl (cRr, 313, .inr (.inl u_47))), (dmo, .inr (4, [dla, .long dct, .long dyr, .long ddy, .long dlg])), (eO10a dwi u_9.1 u_9.2.1 u_9.2.2.1 u_9.2.2.2.1 u_9.2.2.2.2), (eO0a bk bto bnm bla bsk bru bbo bdi bda bdk bdt bdp bno), (eA0 bto cTo 5 fTo), (eA4 bla cLa 4 (fun k => some (La k))), (eO1a (La 0) (FI 0) (GR 0) (FR 0)), (eO9a bsk wd wf mp mb mo sp sb), (eO8a bru rco rsz ren rst rkn), (eA0 rco cRc 64 fRc), (eA0 ren cRe 4 fRe), (eA1 rst cRs 64 fRs), (eA1 bbo cBb 6 fBo), (eA1 bdi cBi 6 fDi), (eO6a bno ns nsa nfa nza), (eA0 nsa cNs 12 fNs), (eA0 nfa cNf 96 fNf), (eA0 nza cNz 96 fNz)]) hP hD [14, 0, 19, 1, 15, 2, 3, 4, 5, 6, 7, 8, 9, 10, 11, 12, 16, 17, 18, 13] (by decide +kernel) rfl
        have hK9 := hK.sub (tys' := []) [] rfl
        exact W.vret hx hb hr (fun t ht hW => ⟨⟨(u_47, u_9.1, u_9.2.1, u_9.2.2.1, u_9.2.2.2.1, u_9.2.2.2.2, dla, dct, dyr, ddy, dlg, fRs), rfl, (Eq.symm ((by rw [fd_fill]; (try rw [← hq_u_2]); (try rw [xL_eq]); (try rw [← hq_r_4]); (try rw [xL_eq]); (try rw [← hq_r_5]); (try rw [xL_eq]); (try rw [if_neg c_6]); (try rw [if_pos c_7]); (try rw [← hq_u_9]); (try rw [xL_eq]); (try rw [← hq_r_15]); (try rw [xL_eq]); (try rw [if_neg c_16]); (try rw [← hq_u_47]); (try rw [xL_eq]); try rfl))), by rw [ht]; exact hP9, va_K.moved hW.alike hK9, hD9⟩, hS.F ht⟩) hS.2.2 dX5_fill_77
    · refine W.widen (k := 0) (n := 0) (by omega) (by omega) ?_
      obtain ⟨hP9, hD9⟩ := zsub2 (ws' := [(eO5a xdy drw dfr dsh dto dmo dwi), (eA4 drw cDr 12 (fun k => some (Rw k))), ((Rw a0.toNatClampNeg), .inl (cRr, 313, .inr (.inl u_2))), (dmo, .inr (4, [dla, .long dct, .long dyr, .long ddy, .long dlg])), (eO10a dwi v0 v1 v2 v3 v4), (eO0a bk bto bnm bla bsk bru bbo bdi bda bdk bdt bdp bno), (eA0 bto cTo 5 fTo), (eA4 bla cLa 4 (fun k => some (La k))), (eO1a (La 0) (FI 0) (GR 0) (FR 0)), (eO9a bsk wd wf mp mb mo sp sb), (eO8a bru rco rsz ren rst rkn), (eA0 rco cRc 64 fRc), (eA0 ren cRe 4 fRe), (eA1 rst cRs 64 fRs), (eA1 bbo cBb 6 fBo), (eA1 bdi cBi 6 fDi), (eO6a bno ns nsa nfa nza), (eA0 nsa cNs 12 fNs), (eA0 nfa cNf 96 fNf), (eA0 nza cNz 96 fNz)]) hP hD [0, 1, 19, 2, 3, 4, 5, 6, 7, 8, 9, 10, 11, 12, 13, 14, 15, 16, 17, 18] (by decide +kernel) rfl
      have hK9 := hK.sub (tys' := []) [] rfl
      exact W.vret hx hb hr (fun t ht hW => ⟨⟨(u_2, v0, v1, v2, v3, v4, dla, dct, dyr, ddy, dlg, fRs), rfl, (Eq.symm ((by rw [fd_fill]; (try rw [← hq_u_2]); (try rw [xL_eq]); (try rw [← hq_r_4]); (try rw [xL_eq]); (try rw [← hq_r_5]); (try rw [xL_eq]); (try rw [if_neg c_6]); (try rw [if_neg c_7]); try rfl))), by rw [ht]; exact hP9, va_K.moved hW.alike hK9, hD9⟩, hS.F ht⟩) hS.2.2 dX5_fill_47
