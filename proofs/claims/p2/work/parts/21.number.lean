theorem xl_ge {a b : Int32} (h : b.toInt ≤ a.toInt + ((0 : Nat) : Int)) : b ≤ a := by
  rw [Int32.le_iff_toInt_le]
  omega
theorem xl_lt {a b : Int32} (hb : b.toInt ≤ 900) (h : ¬ b ≤ a) : a.toInt < 900 := by
  rw [Int32.le_iff_toInt_le] at h
  omega
theorem xl_in {a b : Int32} (h0 : 0 ≤ a.toInt) (hb : b.toInt ≤ 900) (h : ¬ b ≤ a) : vp_in a 900 := by
  have := xl_lt hb h
  rw [vp_in_iff]
  omega
theorem xl_up {a b : Int32} (h0 : 0 ≤ a.toInt) (hb : b.toInt ≤ 900) (h : ¬ b ≤ a) : (a + 1).toInt = a.toInt + 1 := by
  have := xl_lt hb h
  have e1 : (1 : Int32).toInt = 1 := rfl
  have q1 : (a.toInt + 1).bmod (2 ^ 32) = a.toInt + 1 := Int.bmod_eq_of_le (by omega) (by omega)
  rw [Int32.toInt_add, e1, q1]

def fe_readNumber_L (fBy : Nat → Int32) (lxe : Int32) : Nat → (Int32) → (Int32) → (Int32) × (Int32)
  | 0, ka, kn => (ka, kn)
  | n + 1, ka, kn => (if lxe ≤ ka then (ka, kn) else (if fBy ka.toNatClampNeg < 48 then (ka, kn) else (if 57 < fBy ka.toNatClampNeg then (ka, kn) else (if 1000000 ≤ kn then fe_readNumber_L fBy lxe n (ka + 1) kn else fe_readNumber_L fBy lxe n (ka + 1) (((kn * 10) + (fBy ka.toNatClampNeg)) - 48)))))
def fe_readNumber (fBy : Nat → Int32) (lxe : Int32) (lxa : Int32) : (Int32) × (Int32) := fe_readNumber_L fBy lxe 900 lxa (0 : Int32)
theorem dX3_readNumber_0 : decode cX3_readNumber 0 = .ok (.aload_n 0, 1) := by decide +kernel
theorem dX3_readNumber_1 : decode cX3_readNumber 1 = .ok (.iconst 0, 1) := by decide +kernel
theorem dX3_readNumber_2 : decode cX3_readNumber 2 = .ok (.putfield 69, 3) := by decide +kernel
theorem dX3_readNumber_5 : decode cX3_readNumber 5 = .ok (.aload_n 0, 1) := by decide +kernel
theorem dX3_readNumber_6 : decode cX3_readNumber 6 = .ok (.getfield 44, 3) := by decide +kernel
theorem dX3_readNumber_9 : decode cX3_readNumber 9 = .ok (.aload_n 0, 1) := by decide +kernel
theorem dX3_readNumber_10 : decode cX3_readNumber 10 = .ok (.getfield 41, 3) := by decide +kernel
theorem dX3_readNumber_13 : decode cX3_readNumber 13 = .ok (.if_icmp .ge 77, 3) := by decide +kernel
theorem dX3_readNumber_90 : decode cX3_readNumber 90 = .ok (.aload_n 0, 1) := by decide +kernel
theorem dX3_readNumber_91 : decode cX3_readNumber 91 = .ok (.bipush 24, 2) := by decide +kernel
theorem dX3_readNumber_93 : decode cX3_readNumber 93 = .ok (.putfield 53, 3) := by decide +kernel
theorem dX3_readNumber_96 : decode cX3_readNumber 96 = .ok (.return_, 1) := by decide +kernel
theorem dX3_readNumber_16 : decode cX3_readNumber 16 = .ok (.aload_n 0, 1) := by decide +kernel
theorem dX3_readNumber_17 : decode cX3_readNumber 17 = .ok (.getfield 9, 3) := by decide +kernel
theorem dX3_readNumber_20 : decode cX3_readNumber 20 = .ok (.aload_n 0, 1) := by decide +kernel
theorem dX3_readNumber_21 : decode cX3_readNumber 21 = .ok (.getfield 44, 3) := by decide +kernel
theorem dX3_readNumber_24 : decode cX3_readNumber 24 = .ok (.baload, 1) := by decide +kernel
theorem dX3_readNumber_25 : decode cX3_readNumber 25 = .ok (.bipush 48, 2) := by decide +kernel
theorem dX3_readNumber_27 : decode cX3_readNumber 27 = .ok (.if_icmp .lt 63, 3) := by decide +kernel
theorem dX3_readNumber_30 : decode cX3_readNumber 30 = .ok (.aload_n 0, 1) := by decide +kernel
theorem dX3_readNumber_31 : decode cX3_readNumber 31 = .ok (.getfield 9, 3) := by decide +kernel
theorem dX3_readNumber_34 : decode cX3_readNumber 34 = .ok (.aload_n 0, 1) := by decide +kernel
theorem dX3_readNumber_35 : decode cX3_readNumber 35 = .ok (.getfield 44, 3) := by decide +kernel
theorem dX3_readNumber_38 : decode cX3_readNumber 38 = .ok (.baload, 1) := by decide +kernel
theorem dX3_readNumber_39 : decode cX3_readNumber 39 = .ok (.bipush 57, 2) := by decide +kernel
theorem dX3_readNumber_41 : decode cX3_readNumber 41 = .ok (.if_icmp .gt 49, 3) := by decide +kernel
theorem dX3_readNumber_44 : decode cX3_readNumber 44 = .ok (.aload_n 0, 1) := by decide +kernel
theorem dX3_readNumber_45 : decode cX3_readNumber 45 = .ok (.getfield 69, 3) := by decide +kernel
theorem dX3_readNumber_48 : decode cX3_readNumber 48 = .ok (.ldc 72, 2) := by decide +kernel
theorem dX3_readNumber_50 : decode cX3_readNumber 50 = .ok (.if_icmp .ge 27, 3) := by decide +kernel
theorem dX3_readNumber_77 : decode cX3_readNumber 77 = .ok (.aload_n 0, 1) := by decide +kernel
theorem dX3_readNumber_78 : decode cX3_readNumber 78 = .ok (.dup, 1) := by decide +kernel
theorem dX3_readNumber_79 : decode cX3_readNumber 79 = .ok (.getfield 44, 3) := by decide +kernel
theorem dX3_readNumber_82 : decode cX3_readNumber 82 = .ok (.iconst 1, 1) := by decide +kernel
theorem dX3_readNumber_83 : decode cX3_readNumber 83 = .ok (.iadd, 1) := by decide +kernel
theorem dX3_readNumber_84 : decode cX3_readNumber 84 = .ok (.putfield 44, 3) := by decide +kernel
theorem dX3_readNumber_87 : decode cX3_readNumber 87 = .ok (.goto (-82), 3) := by decide +kernel
theorem dX3_readNumber_53 : decode cX3_readNumber 53 = .ok (.aload_n 0, 1) := by decide +kernel
theorem dX3_readNumber_54 : decode cX3_readNumber 54 = .ok (.aload_n 0, 1) := by decide +kernel
theorem dX3_readNumber_55 : decode cX3_readNumber 55 = .ok (.getfield 69, 3) := by decide +kernel
theorem dX3_readNumber_58 : decode cX3_readNumber 58 = .ok (.bipush 10, 2) := by decide +kernel
theorem dX3_readNumber_60 : decode cX3_readNumber 60 = .ok (.imul, 1) := by decide +kernel
theorem dX3_readNumber_61 : decode cX3_readNumber 61 = .ok (.aload_n 0, 1) := by decide +kernel
theorem dX3_readNumber_62 : decode cX3_readNumber 62 = .ok (.getfield 9, 3) := by decide +kernel
theorem dX3_readNumber_65 : decode cX3_readNumber 65 = .ok (.aload_n 0, 1) := by decide +kernel
theorem dX3_readNumber_66 : decode cX3_readNumber 66 = .ok (.getfield 44, 3) := by decide +kernel
theorem dX3_readNumber_69 : decode cX3_readNumber 69 = .ok (.baload, 1) := by decide +kernel
theorem dX3_readNumber_70 : decode cX3_readNumber 70 = .ok (.iadd, 1) := by decide +kernel
theorem dX3_readNumber_71 : decode cX3_readNumber 71 = .ok (.bipush 48, 2) := by decide +kernel
theorem dX3_readNumber_73 : decode cX3_readNumber 73 = .ok (.isub, 1) := by decide +kernel
theorem dX3_readNumber_74 : decode cX3_readNumber 74 = .ok (.putfield 69, 3) := by decide +kernel
set_option maxHeartbeats 4000000 in
set_option maxRecDepth 100000 in
theorem ge_readNumber (l : Launch) (dC : Nat → ClassId) (dI : Nat → Nat → Nat) (lx : Nat) (lby : Nat) (lfi : Int32) (lco : Nat) (lxe : Int32) (lxa : Int32) (lxt : Int32) (lxp : Int32) (lxn : Int32) (lxl : Int32) (cBy : ClassId) (fBy : Nat → Int32) (sz : Nat) (h0_lxa : 0 ≤ lxa.toInt) (h9_lxe : lxe.toInt ≤ 900) : Met l yX3_readNumber (Cond.code yX3_readNumber cX3_readNumber 1 none :: wsL_law) ({ frames := 0, cells := 0, slots := 0, locals := 0 }) (va_Pc [.ref lx] (fun U => U.heap.size = sz ∧ va_P (dC, dI) vwCl [(lx, .inr (3, [.ref lby, .int lfi, .ref lco, .int lxe, .int lxa, .int lxt, .int lxp, .int lxn, .int lxl])), (lby, .inl (cBy, 900, .inl fBy))] U.heap ∧ va_K (dC, dI) vwCl [(cBy, .byte)] U ∧ va_D (fun _ => True) [(lx, .inr (3, [.ref lby, .int lfi, .ref lco, .int lxe, .int lxa, .int lxt, .int lxp, .int lxn, .int lxl])), (lby, .inl (cBy, 900, .inl fBy))])) (va_Qv (fun (u : (Int32) × (Int32)) => u = fe_readNumber fBy lxe lxa) (fun (u : (Int32) × (Int32)) t => va_P (dC, dI) vwCl [(lx, .inr (3, [.ref lby, .int lfi, .ref lco, .int lxe, .int u.1, .int 24, .int lxp, .int u.2, .int lxl])), (lby, .inl (cBy, 900, .inl fBy))] t.heap ∧ va_K (dC, dI) vwCl [] t ∧ va_D (va_A [(lx, .inr (3, [.ref lby, .int lfi, .ref lco, .int lxe, .int lxa, .int lxt, .int lxp, .int lxn, .int lxl])), (lby, .inl (cBy, 900, .inl fBy))] sz) [(lx, .inr (3, [.ref lby, .int lfi, .ref lco, .int lxe, .int u.1, .int 24, .int lxp, .int u.2, .int lxl])), (lby, .inl (cBy, 900, .inl fBy))]) (va_A [(lx, .inr (3, [.ref lby, .int lfi, .ref lco, .int lxe, .int lxa, .int lxt, .int lxp, .int lxn, .int lxl])), (lby, .inl (cBy, 900, .inl fBy))] sz)) 0 0 (va_A [(lx, .inr (3, [.ref lby, .int lfi, .ref lco, .int lxe, .int lxa, .int lxt, .int lxp, .int lxn, .int lxl])), (lby, .inl (cBy, 900, .inl fBy))] sz) := by
  refine Met.ofW (cc := cX3_readNumber) (maxL := 1) (ret := none) (by decide) rfl ?_
  intro p e s m args below meth c s₁ B hml hv
  obtain ⟨rfl, hsz, hP, hK, hD0⟩ := hv
  have hx := B.exec
  have hb := B.bytes
  have hr := B.returns
  have hts := atoms_spec (ws := Cond.code yX3_readNumber cX3_readNumber 1 none :: wsL_law) B.pre
  have htw : ∀ w ∈ wsL_law, w.before _ s = true := fun w h => hts w (List.mem_cons_of_mem _ h)
  have hown : s.vm.findClass RX3 = some m.cls := findClass_of_methodNamed B.named
  have hlocks := B.notSynchronized
  subst hsz
  have hD := hD0.self (sz := s.heap.size)
  generalize hAe : va_A [(lx, .inr (3, [.ref lby, .int lfi, .ref lco, .int lxe, .int lxa, .int lxt, .int lxp, .int lxn, .int lxl])), (lby, .inl (cBy, 900, .inl fBy))] s.heap.size = A at hD ⊢
  have hA : ∀ q : Nat, s.heap.size ≤ q → A q := fun q h => by rw [← hAe]; exact Or.inr h
  obtain ⟨H, rH⟩ : ∃ z : Heap, z = s.heap := ⟨_, rfl⟩
  have hS : va_S A s.heap H [] := by rw [rH]; exact va_S.rf
  have hP : va_P (dC, dI) vwCl [(lx, .inr (3, [.ref lby, .int lfi, .ref lco, .int lxe, .int lxa, .int lxt, .int lxp, .int lxn, .int lxl])), (lby, .inl (cBy, 900, .inl fBy))] H := by rw [rH]; exact hP
  rw [← rH]
  have hl := lv_entry ([.ref lx]) (n := 1) (Nat.le_of_ble_eq_true rfl)
  rw [lg_entry_eq]
  generalize (lg_sl ([.ref lx]) ++ List.replicate (1 - (lg_sl ([.ref lx])).length) Slot.unset).toArray = ls at hl ⊢
  have hl : lv_has ls 1 [(0, .ref lx)] := hl
  refine lv_aload_n hx hb dX3_readNumber_0 rfl (lv_at hl 0 rfl) ?_
  refine lv_iconst (v := 0) hx hb dX3_readNumber_1 (by decide) ?_
  refine va_put (D := (dC, dI)) (ci := 3) (v := .int 0) (ty := tyX3 7) (C := RX3) (T := TX3) (N := 9) hx hb htw inlX3 tyX3 tyX3_ok nmX3 hown hK hP hD hS 0 rfl rfl 7 (by decide) (htw _ (ck_15 _ (List.mem_of_getElem? (i := 3) rfl))) (fun _ h9 => h9) rfl (by decide +kernel) rfl rfl (Nat.le_of_ble_eq_true rfl) dX3_readNumber_2 (fun H locs hP hD hS => ?_)
  have hP : va_P (dC, dI) vwCl [(lx, .inr (3, [.ref lby, .int lfi, .ref lco, .int lxe, .int lxa, .int lxt, .int lxp, .int 0, .int lxl])), (lby, .inl (cBy, 900, .inl fBy))] H := hP
  have hD : va_D A [(lx, .inr (3, [.ref lby, .int lfi, .ref lco, .int lxe, .int lxa, .int lxt, .int lxp, .int 0, .int lxl])), (lby, .inl (cBy, 900, .inl fBy))] := hD
  have hloop_1 : ∀ (n : Nat) (ka : Int32) (kn : Int32) (ha0 : 0 ≤ ka.toInt) (hfu : lxe.toInt ≤ ka.toInt + (n : Int)) (hI : fe_readNumber fBy lxe lxa = fe_readNumber_L fBy lxe n ka kn) (H : Heap) (locs : List Loc) (ls : Array Slot) (hP : va_P (dC, dI) vwCl [(lx, .inr (3, [.ref lby, .int lfi, .ref lco, .int lxe, .int ka, .int lxt, .int lxp, .int kn, .int lxl])), (lby, .inl (cBy, 900, .inl fBy))] H) (hD : va_D A [(lx, .inr (3, [.ref lby, .int lfi, .ref lco, .int lxe, .int ka, .int lxt, .int lxp, .int kn, .int lxl])), (lby, .inl (cBy, 900, .inl fBy))]) (hS : va_S A s.heap H locs) (hl : lv_has ls 1 [(0, .ref lx)]), W p l e (headSpec (Cond.code yX3_readNumber cX3_readNumber 1 none :: wsL_law) ({ frames := 0, cells := 0, slots := 0, locals := 0 })).room s m ([.ref lx] : List Value).toArray below meth c H locs 0 0 (MQ below (va_Qv (fun (u : (Int32) × (Int32)) => u = fe_readNumber fBy lxe lxa) (fun (u : (Int32) × (Int32)) t => va_P (dC, dI) vwCl [(lx, .inr (3, [.ref lby, .int lfi, .ref lco, .int lxe, .int u.1, .int 24, .int lxp, .int u.2, .int lxl])), (lby, .inl (cBy, 900, .inl fBy))] t.heap ∧ va_K (dC, dI) vwCl [] t ∧ va_D A [(lx, .inr (3, [.ref lby, .int lfi, .ref lco, .int lxe, .int u.1, .int 24, .int lxp, .int u.2, .int lxl])), (lby, .inl (cBy, 900, .inl fBy))]) A) ([.ref lx] : List Value).toArray s 0 0 A) (F0 m 5 ls []) := by
    intro n
    induction n with
    | zero =>
      intro ka kn ha0 hfu hI H locs ls hP hD hS hl
      refine lv_aload_n hx hb dX3_readNumber_5 rfl (lv_at hl 0 rfl) ?_
      refine va_get (D := (dC, dI)) (ci := 3) (v := .int ka) (C := RX3) (T := TX3) (N := 9) hx hb htw inlX3 hown hK hP 0 rfl rfl 4 (by decide) (htw _ (ck_14 _ (List.mem_of_getElem? (i := 11) rfl))) (fun _ h9 => h9) rfl dX3_readNumber_6 ?_
      refine lv_aload_n hx hb dX3_readNumber_9 rfl (lv_at hl 0 rfl) ?_
      refine va_get (D := (dC, dI)) (ci := 3) (v := .int lxe) (C := RX3) (T := TX3) (N := 9) hx hb htw inlX3 hown hK hP 0 rfl rfl 3 (by decide) (htw _ (ck_14 _ (List.mem_of_getElem? (i := 10) rfl))) (fun _ h9 => h9) rfl dX3_readNumber_10 ?_
      refine lv_icmp_ge (tgt := 90) hx hb dX3_readNumber_13 (by decide) (fun c_2 => ?_) (fun c_2 => absurd c_2 (fun h => h (xl_ge hfu)))
      refine lv_aload_n hx hb dX3_readNumber_90 rfl (lv_at hl 0 rfl) ?_
      refine lv_bipush (v := 24) hx hb dX3_readNumber_91 (by decide) ?_
      refine va_put (D := (dC, dI)) (ci := 3) (v := .int 24) (ty := tyX3 5) (C := RX3) (T := TX3) (N := 9) hx hb htw inlX3 tyX3 tyX3_ok nmX3 hown hK hP hD hS 0 rfl rfl 5 (by decide) (htw _ (ck_14 _ (List.mem_of_getElem? (i := 17) rfl))) (fun _ h9 => h9) rfl (by decide +kernel) rfl rfl (Nat.le_of_ble_eq_true rfl) dX3_readNumber_93 (fun H locs hP hD hS => ?_)
      have hP : va_P (dC, dI) vwCl [(lx, .inr (3, [.ref lby, .int lfi, .ref lco, .int lxe, .int ka, .int 24, .int lxp, .int kn, .int lxl])), (lby, .inl (cBy, 900, .inl fBy))] H := hP
      have hD : va_D A [(lx, .inr (3, [.ref lby, .int lfi, .ref lco, .int lxe, .int ka, .int 24, .int lxp, .int kn, .int lxl])), (lby, .inl (cBy, 900, .inl fBy))] := hD
      refine W.widen (k := 0) (n := 0) (by omega) (by omega) ?_
      have hP9 := hP.sub (ws' := [(lx, .inr (3, [.ref lby, .int lfi, .ref lco, .int lxe, .int ka, .int 24, .int lxp, .int kn, .int lxl])), (lby, .inl (cBy, 900, .inl fBy))]) [0, 1] rfl
      have hD9 := hD.sub (ws' := [(lx, .inr (3, [.ref lby, .int lfi, .ref lco, .int lxe, .int ka, .int 24, .int lxp, .int kn, .int lxl])), (lby, .inl (cBy, 900, .inl fBy))]) [0, 1] (by decide) rfl
      have hK9 := hK.sub (tys' := []) [] rfl
      exact W.vret hx hb hr (fun t ht hW => ⟨⟨(ka, kn), rfl, (hI.trans (rfl)).symm, by rw [ht]; exact hP9, va_K.moved hW.alike hK9, hD9⟩, hS.F ht⟩) hS.2.2 dX3_readNumber_96
    | succ n ih =>
      intro ka kn ha0 hfu hI H locs ls hP hD hS hl
      refine lv_aload_n hx hb dX3_readNumber_5 rfl (lv_at hl 0 rfl) ?_
      refine va_get (D := (dC, dI)) (ci := 3) (v := .int ka) (C := RX3) (T := TX3) (N := 9) hx hb htw inlX3 hown hK hP 0 rfl rfl 4 (by decide) (htw _ (ck_14 _ (List.mem_of_getElem? (i := 11) rfl))) (fun _ h9 => h9) rfl dX3_readNumber_6 ?_
      refine lv_aload_n hx hb dX3_readNumber_9 rfl (lv_at hl 0 rfl) ?_
      refine va_get (D := (dC, dI)) (ci := 3) (v := .int lxe) (C := RX3) (T := TX3) (N := 9) hx hb htw inlX3 hown hK hP 0 rfl rfl 3 (by decide) (htw _ (ck_14 _ (List.mem_of_getElem? (i := 10) rfl))) (fun _ h9 => h9) rfl dX3_readNumber_10 ?_
      refine lv_icmp_ge (tgt := 90) hx hb dX3_readNumber_13 (by decide) (fun c_3 => ?_) (fun c_3 => ?_)
      · refine lv_aload_n hx hb dX3_readNumber_90 rfl (lv_at hl 0 rfl) ?_
        refine lv_bipush (v := 24) hx hb dX3_readNumber_91 (by decide) ?_
        refine va_put (D := (dC, dI)) (ci := 3) (v := .int 24) (ty := tyX3 5) (C := RX3) (T := TX3) (N := 9) hx hb htw inlX3 tyX3 tyX3_ok nmX3 hown hK hP hD hS 0 rfl rfl 5 (by decide) (htw _ (ck_14 _ (List.mem_of_getElem? (i := 17) rfl))) (fun _ h9 => h9) rfl (by decide +kernel) rfl rfl (Nat.le_of_ble_eq_true rfl) dX3_readNumber_93 (fun H locs hP hD hS => ?_)
        have hP : va_P (dC, dI) vwCl [(lx, .inr (3, [.ref lby, .int lfi, .ref lco, .int lxe, .int ka, .int 24, .int lxp, .int kn, .int lxl])), (lby, .inl (cBy, 900, .inl fBy))] H := hP
        have hD : va_D A [(lx, .inr (3, [.ref lby, .int lfi, .ref lco, .int lxe, .int ka, .int 24, .int lxp, .int kn, .int lxl])), (lby, .inl (cBy, 900, .inl fBy))] := hD
        refine W.widen (k := 0) (n := 0) (by omega) (by omega) ?_
        have hP9 := hP.sub (ws' := [(lx, .inr (3, [.ref lby, .int lfi, .ref lco, .int lxe, .int ka, .int 24, .int lxp, .int kn, .int lxl])), (lby, .inl (cBy, 900, .inl fBy))]) [0, 1] rfl
        have hD9 := hD.sub (ws' := [(lx, .inr (3, [.ref lby, .int lfi, .ref lco, .int lxe, .int ka, .int 24, .int lxp, .int kn, .int lxl])), (lby, .inl (cBy, 900, .inl fBy))]) [0, 1] (by decide) rfl
        have hK9 := hK.sub (tys' := []) [] rfl
        exact W.vret hx hb hr (fun t ht hW => ⟨⟨(ka, kn), rfl, (hI.trans (by rw [fe_readNumber_L]; (try rw [if_pos c_3]); try rfl)).symm, by rw [ht]; exact hP9, va_K.moved hW.alike hK9, hD9⟩, hS.F ht⟩) hS.2.2 dX3_readNumber_96
      · refine lv_aload_n hx hb dX3_readNumber_16 rfl (lv_at hl 0 rfl) ?_
        refine va_get (D := (dC, dI)) (ci := 3) (v := .ref lby) (C := RX3) (T := TX3) (N := 9) hx hb htw inlX3 hown hK hP 0 rfl rfl 0 (by decide) (htw _ (ck_3 _ (List.mem_of_getElem? (i := 14) rfl))) (fun _ h9 => h9) rfl dX3_readNumber_17 ?_
        refine lv_aload_n hx hb dX3_readNumber_20 rfl (lv_at hl 0 rfl) ?_
        refine va_get (D := (dC, dI)) (ci := 3) (v := .int ka) (C := RX3) (T := TX3) (N := 9) hx hb htw inlX3 hown hK hP 0 rfl rfl 4 (by decide) (htw _ (ck_14 _ (List.mem_of_getElem? (i := 11) rfl))) (fun _ h9 => h9) rfl dX3_readNumber_21 ?_
        refine va_bald hx hb hK hP 1 0 rfl rfl (xl_in ha0 h9_lxe c_3) dX3_readNumber_24 ?_
        refine lv_bipush (v := 48) hx hb dX3_readNumber_25 (by decide) ?_
        refine lv_icmp_lt (tgt := 90) hx hb dX3_readNumber_27 (by decide) (fun c_4 => ?_) (fun c_4 => ?_)
        · refine lv_aload_n hx hb dX3_readNumber_90 rfl (lv_at hl 0 rfl) ?_
          refine lv_bipush (v := 24) hx hb dX3_readNumber_91 (by decide) ?_
          refine va_put (D := (dC, dI)) (ci := 3) (v := .int 24) (ty := tyX3 5) (C := RX3) (T := TX3) (N := 9) hx hb htw inlX3 tyX3 tyX3_ok nmX3 hown hK hP hD hS 0 rfl rfl 5 (by decide) (htw _ (ck_14 _ (List.mem_of_getElem? (i := 17) rfl))) (fun _ h9 => h9) rfl (by decide +kernel) rfl rfl (Nat.le_of_ble_eq_true rfl) dX3_readNumber_93 (fun H locs hP hD hS => ?_)
          have hP : va_P (dC, dI) vwCl [(lx, .inr (3, [.ref lby, .int lfi, .ref lco, .int lxe, .int ka, .int 24, .int lxp, .int kn, .int lxl])), (lby, .inl (cBy, 900, .inl fBy))] H := hP
          have hD : va_D A [(lx, .inr (3, [.ref lby, .int lfi, .ref lco, .int lxe, .int ka, .int 24, .int lxp, .int kn, .int lxl])), (lby, .inl (cBy, 900, .inl fBy))] := hD
          refine W.widen (k := 0) (n := 0) (by omega) (by omega) ?_
          have hP9 := hP.sub (ws' := [(lx, .inr (3, [.ref lby, .int lfi, .ref lco, .int lxe, .int ka, .int 24, .int lxp, .int kn, .int lxl])), (lby, .inl (cBy, 900, .inl fBy))]) [0, 1] rfl
          have hD9 := hD.sub (ws' := [(lx, .inr (3, [.ref lby, .int lfi, .ref lco, .int lxe, .int ka, .int 24, .int lxp, .int kn, .int lxl])), (lby, .inl (cBy, 900, .inl fBy))]) [0, 1] (by decide) rfl
          have hK9 := hK.sub (tys' := []) [] rfl
          exact W.vret hx hb hr (fun t ht hW => ⟨⟨(ka, kn), rfl, (hI.trans (by rw [fe_readNumber_L]; (try rw [if_neg c_3]); (try rw [if_pos c_4]); try rfl)).symm, by rw [ht]; exact hP9, va_K.moved hW.alike hK9, hD9⟩, hS.F ht⟩) hS.2.2 dX3_readNumber_96
        · refine lv_aload_n hx hb dX3_readNumber_30 rfl (lv_at hl 0 rfl) ?_
          refine va_get (D := (dC, dI)) (ci := 3) (v := .ref lby) (C := RX3) (T := TX3) (N := 9) hx hb htw inlX3 hown hK hP 0 rfl rfl 0 (by decide) (htw _ (ck_3 _ (List.mem_of_getElem? (i := 14) rfl))) (fun _ h9 => h9) rfl dX3_readNumber_31 ?_
          refine lv_aload_n hx hb dX3_readNumber_34 rfl (lv_at hl 0 rfl) ?_
          refine va_get (D := (dC, dI)) (ci := 3) (v := .int ka) (C := RX3) (T := TX3) (N := 9) hx hb htw inlX3 hown hK hP 0 rfl rfl 4 (by decide) (htw _ (ck_14 _ (List.mem_of_getElem? (i := 11) rfl))) (fun _ h9 => h9) rfl dX3_readNumber_35 ?_
          refine va_bald hx hb hK hP 1 0 rfl rfl (xl_in ha0 h9_lxe c_3) dX3_readNumber_38 ?_
          refine lv_bipush (v := 57) hx hb dX3_readNumber_39 (by decide) ?_
          refine lv_icmp_gt (tgt := 90) hx hb dX3_readNumber_41 (by decide) (fun c_5 => ?_) (fun c_5 => ?_)
          · refine lv_aload_n hx hb dX3_readNumber_90 rfl (lv_at hl 0 rfl) ?_
            refine lv_bipush (v := 24) hx hb dX3_readNumber_91 (by decide) ?_
            refine va_put (D := (dC, dI)) (ci := 3) (v := .int 24) (ty := tyX3 5) (C := RX3) (T := TX3) (N := 9) hx hb htw inlX3 tyX3 tyX3_ok nmX3 hown hK hP hD hS 0 rfl rfl 5 (by decide) (htw _ (ck_14 _ (List.mem_of_getElem? (i := 17) rfl))) (fun _ h9 => h9) rfl (by decide +kernel) rfl rfl (Nat.le_of_ble_eq_true rfl) dX3_readNumber_93 (fun H locs hP hD hS => ?_)
            have hP : va_P (dC, dI) vwCl [(lx, .inr (3, [.ref lby, .int lfi, .ref lco, .int lxe, .int ka, .int 24, .int lxp, .int kn, .int lxl])), (lby, .inl (cBy, 900, .inl fBy))] H := hP
            have hD : va_D A [(lx, .inr (3, [.ref lby, .int lfi, .ref lco, .int lxe, .int ka, .int 24, .int lxp, .int kn, .int lxl])), (lby, .inl (cBy, 900, .inl fBy))] := hD
            refine W.widen (k := 0) (n := 0) (by omega) (by omega) ?_
            have hP9 := hP.sub (ws' := [(lx, .inr (3, [.ref lby, .int lfi, .ref lco, .int lxe, .int ka, .int 24, .int lxp, .int kn, .int lxl])), (lby, .inl (cBy, 900, .inl fBy))]) [0, 1] rfl
            have hD9 := hD.sub (ws' := [(lx, .inr (3, [.ref lby, .int lfi, .ref lco, .int lxe, .int ka, .int 24, .int lxp, .int kn, .int lxl])), (lby, .inl (cBy, 900, .inl fBy))]) [0, 1] (by decide) rfl
            have hK9 := hK.sub (tys' := []) [] rfl
            exact W.vret hx hb hr (fun t ht hW => ⟨⟨(ka, kn), rfl, (hI.trans (by rw [fe_readNumber_L]; (try rw [if_neg c_3]); (try rw [if_neg c_4]); (try rw [if_pos c_5]); try rfl)).symm, by rw [ht]; exact hP9, va_K.moved hW.alike hK9, hD9⟩, hS.F ht⟩) hS.2.2 dX3_readNumber_96
          · refine lv_aload_n hx hb dX3_readNumber_44 rfl (lv_at hl 0 rfl) ?_
            refine va_get (D := (dC, dI)) (ci := 3) (v := .int kn) (C := RX3) (T := TX3) (N := 9) hx hb htw inlX3 hown hK hP 0 rfl rfl 7 (by decide) (htw _ (ck_15 _ (List.mem_of_getElem? (i := 3) rfl))) (fun _ h9 => h9) rfl dX3_readNumber_45 ?_
            refine lv_ldc (v := 1000000) hx hb hown (htw _ (ck_15 _ (List.mem_of_getElem? (i := 4) rfl))) dX3_readNumber_48 ?_
            refine lv_icmp_ge (tgt := 77) hx hb dX3_readNumber_50 (by decide) (fun c_6 => ?_) (fun c_6 => ?_)
            · refine lv_aload_n hx hb dX3_readNumber_77 rfl (lv_at hl 0 rfl) ?_
              refine lv_dup hx hb dX3_readNumber_78 rfl ?_
              refine va_get (D := (dC, dI)) (ci := 3) (v := .int ka) (C := RX3) (T := TX3) (N := 9) hx hb htw inlX3 hown hK hP 0 rfl rfl 4 (by decide) (htw _ (ck_14 _ (List.mem_of_getElem? (i := 11) rfl))) (fun _ h9 => h9) rfl dX3_readNumber_79 ?_
              refine lv_iconst (v := 1) hx hb dX3_readNumber_82 (by decide) ?_
              refine lv_iadd hx hb dX3_readNumber_83 ?_
              refine va_put (D := (dC, dI)) (ci := 3) (v := .int (ka + 1)) (ty := tyX3 4) (C := RX3) (T := TX3) (N := 9) hx hb htw inlX3 tyX3 tyX3_ok nmX3 hown hK hP hD hS 0 rfl rfl 4 (by decide) (htw _ (ck_14 _ (List.mem_of_getElem? (i := 11) rfl))) (fun _ h9 => h9) rfl (by decide +kernel) rfl rfl (Nat.le_of_ble_eq_true rfl) dX3_readNumber_84 (fun H locs hP hD hS => ?_)
              have hP : va_P (dC, dI) vwCl [(lx, .inr (3, [.ref lby, .int lfi, .ref lco, .int lxe, .int (ka + 1), .int lxt, .int lxp, .int kn, .int lxl])), (lby, .inl (cBy, 900, .inl fBy))] H := hP
              have hD : va_D A [(lx, .inr (3, [.ref lby, .int lfi, .ref lco, .int lxe, .int (ka + 1), .int lxt, .int lxp, .int kn, .int lxl])), (lby, .inl (cBy, 900, .inl fBy))] := hD
              refine lv_goto (tgt := 5) hx hb dX3_readNumber_87 (by decide) ?_
              exact ih (ka + 1) kn (by rw [xl_up ha0 h9_lxe c_3]; omega) (by rw [xl_up ha0 h9_lxe c_3]; omega) (hI.trans (by rw [fe_readNumber_L]; (try rw [if_neg c_3]); (try rw [if_neg c_4]); (try rw [if_neg c_5]); (try rw [if_pos c_6]); try rfl)) H locs ls hP hD hS (lv_sub hl [0] rfl)
            · refine lv_aload_n hx hb dX3_readNumber_53 rfl (lv_at hl 0 rfl) ?_
              refine lv_aload_n hx hb dX3_readNumber_54 rfl (lv_at hl 0 rfl) ?_
              refine va_get (D := (dC, dI)) (ci := 3) (v := .int kn) (C := RX3) (T := TX3) (N := 9) hx hb htw inlX3 hown hK hP 0 rfl rfl 7 (by decide) (htw _ (ck_15 _ (List.mem_of_getElem? (i := 3) rfl))) (fun _ h9 => h9) rfl dX3_readNumber_55 ?_
              refine lv_bipush (v := 10) hx hb dX3_readNumber_58 (by decide) ?_
              refine lv_imul hx hb dX3_readNumber_60 ?_
              refine lv_aload_n hx hb dX3_readNumber_61 rfl (lv_at hl 0 rfl) ?_
              refine va_get (D := (dC, dI)) (ci := 3) (v := .ref lby) (C := RX3) (T := TX3) (N := 9) hx hb htw inlX3 hown hK hP 0 rfl rfl 0 (by decide) (htw _ (ck_3 _ (List.mem_of_getElem? (i := 14) rfl))) (fun _ h9 => h9) rfl dX3_readNumber_62 ?_
              refine lv_aload_n hx hb dX3_readNumber_65 rfl (lv_at hl 0 rfl) ?_
              refine va_get (D := (dC, dI)) (ci := 3) (v := .int ka) (C := RX3) (T := TX3) (N := 9) hx hb htw inlX3 hown hK hP 0 rfl rfl 4 (by decide) (htw _ (ck_14 _ (List.mem_of_getElem? (i := 11) rfl))) (fun _ h9 => h9) rfl dX3_readNumber_66 ?_
              refine va_bald hx hb hK hP 1 0 rfl rfl (xl_in ha0 h9_lxe c_3) dX3_readNumber_69 ?_
              refine lv_iadd hx hb dX3_readNumber_70 ?_
              refine lv_bipush (v := 48) hx hb dX3_readNumber_71 (by decide) ?_
              refine lv_isub hx hb dX3_readNumber_73 ?_
              refine va_put (D := (dC, dI)) (ci := 3) (v := .int (((kn * 10) + (fBy ka.toNatClampNeg)) - 48)) (ty := tyX3 7) (C := RX3) (T := TX3) (N := 9) hx hb htw inlX3 tyX3 tyX3_ok nmX3 hown hK hP hD hS 0 rfl rfl 7 (by decide) (htw _ (ck_15 _ (List.mem_of_getElem? (i := 3) rfl))) (fun _ h9 => h9) rfl (by decide +kernel) rfl rfl (Nat.le_of_ble_eq_true rfl) dX3_readNumber_74 (fun H locs hP hD hS => ?_)
              have hP : va_P (dC, dI) vwCl [(lx, .inr (3, [.ref lby, .int lfi, .ref lco, .int lxe, .int ka, .int lxt, .int lxp, .int (((kn * 10) + (fBy ka.toNatClampNeg)) - 48), .int lxl])), (lby, .inl (cBy, 900, .inl fBy))] H := hP
              have hD : va_D A [(lx, .inr (3, [.ref lby, .int lfi, .ref lco, .int lxe, .int ka, .int lxt, .int lxp, .int (((kn * 10) + (fBy ka.toNatClampNeg)) - 48), .int lxl])), (lby, .inl (cBy, 900, .inl fBy))] := hD
              refine lv_aload_n hx hb dX3_readNumber_77 rfl (lv_at hl 0 rfl) ?_
              refine lv_dup hx hb dX3_readNumber_78 rfl ?_
              refine va_get (D := (dC, dI)) (ci := 3) (v := .int ka) (C := RX3) (T := TX3) (N := 9) hx hb htw inlX3 hown hK hP 0 rfl rfl 4 (by decide) (htw _ (ck_14 _ (List.mem_of_getElem? (i := 11) rfl))) (fun _ h9 => h9) rfl dX3_readNumber_79 ?_
              refine lv_iconst (v := 1) hx hb dX3_readNumber_82 (by decide) ?_
              refine lv_iadd hx hb dX3_readNumber_83 ?_
              refine va_put (D := (dC, dI)) (ci := 3) (v := .int (ka + 1)) (ty := tyX3 4) (C := RX3) (T := TX3) (N := 9) hx hb htw inlX3 tyX3 tyX3_ok nmX3 hown hK hP hD hS 0 rfl rfl 4 (by decide) (htw _ (ck_14 _ (List.mem_of_getElem? (i := 11) rfl))) (fun _ h9 => h9) rfl (by decide +kernel) rfl rfl (Nat.le_of_ble_eq_true rfl) dX3_readNumber_84 (fun H locs hP hD hS => ?_)
              have hP : va_P (dC, dI) vwCl [(lx, .inr (3, [.ref lby, .int lfi, .ref lco, .int lxe, .int (ka + 1), .int lxt, .int lxp, .int (((kn * 10) + (fBy ka.toNatClampNeg)) - 48), .int lxl])), (lby, .inl (cBy, 900, .inl fBy))] H := hP
              have hD : va_D A [(lx, .inr (3, [.ref lby, .int lfi, .ref lco, .int lxe, .int (ka + 1), .int lxt, .int lxp, .int (((kn * 10) + (fBy ka.toNatClampNeg)) - 48), .int lxl])), (lby, .inl (cBy, 900, .inl fBy))] := hD
              refine lv_goto (tgt := 5) hx hb dX3_readNumber_87 (by decide) ?_
              exact ih (ka + 1) (((kn * 10) + (fBy ka.toNatClampNeg)) - 48) (by rw [xl_up ha0 h9_lxe c_3]; omega) (by rw [xl_up ha0 h9_lxe c_3]; omega) (hI.trans (by rw [fe_readNumber_L]; (try rw [if_neg c_3]); (try rw [if_neg c_4]); (try rw [if_neg c_5]); (try rw [if_neg c_6]); try rfl)) H locs ls hP hD hS (lv_sub hl [0] rfl)
  exact hloop_1 900 lxa (0 : Int32) h0_lxa (by omega) (rfl) _ _ ls hP hD hS (lv_sub hl [0] rfl)
