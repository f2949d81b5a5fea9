theorem xi_shr6 (a : Int32) : (a >>> (6 &&& 31)).toInt = a.toInt / 64 := by
  show (BitVec.sshiftRight' a.toBitVec (((6 : Int32) &&& 31).toBitVec.smod 32)).toInt = _
  have e : (((6 : Int32) &&& 31).toBitVec.smod 32) = 6#32 := by decide
  rw [e, BitVec.toInt_sshiftRight']
  show a.toInt >>> 6 = a.toInt / 64
  rw [Int.shiftRight_eq_div_pow]
  rfl
theorem xi_shr6in {a : Int32} (h0 : ¬ a < 0) (h : a < 20000) : vp_in (a >>> (6 &&& 31)) 313 := by
  rw [vp_in_iff, xi_shr6]
  rw [Int32.lt_iff_toInt_lt] at h0 h
  have e0 : (0 : Int32).toInt = 0 := rfl
  have e2 : (20000 : Int32).toInt = 20000 := rfl
  omega
theorem xi_l2i {x : Int64} (h0 : ¬ x < 0) (h : x ≤ 19999) : x.toInt32.toInt = x.toInt := by
  rw [Int64.lt_iff_toInt_lt] at h0
  rw [Int64.le_iff_toInt_le] at h
  have e0 : (0 : Int64).toInt = 0 := rfl
  have e2 : (19999 : Int64).toInt = 19999 := rfl
  rw [Int64.toInt_toInt32]
  exact Int.bmod_eq_of_le (by omega) (by omega)
theorem xf_nn6 {x : Int64} (h0 : ¬ x < 0) (h : x ≤ 19999) : ¬ x.toInt32 < 0 := by
  rw [Int32.lt_iff_toInt_lt, xi_l2i h0 h]
  rw [Int64.lt_iff_toInt_lt] at h0
  have e0 : (0 : Int64).toInt = 0 := rfl
  have e1 : (0 : Int32).toInt = 0 := rfl
  omega
theorem xf_mono {s e : Int64} (h0 : ¬ s < 0) (h1 : s ≤ e) (h2 : e ≤ 19999) : (s.toInt32 >>> (6 &&& 31)) ≤ (e.toInt32 >>> (6 &&& 31)) := by
  rw [Int32.le_iff_toInt_le, xi_shr6, xi_shr6, xi_l2i h0 (by lia), xi_l2i (by lia) h2]
  rw [Int64.le_iff_toInt_le] at h1
  omega
theorem xi_c12 {i : Int32} (h0 : ¬ i < 0) (h : ¬ 12 ≤ i) : i = 0 ∨ i = 1 ∨ i = 2 ∨ i = 3 ∨ i = 4 ∨ i = 5 ∨ i = 6 ∨ i = 7 ∨ i = 8 ∨ i = 9 ∨ i = 10 ∨ i = 11 := by
  lia

def fd_tellAlone (fRw : Nat → Nat → Int64) (fSh : Nat → Int32) (fTp : Nat → Int32) (ns : Int32) (fNs : Nat → Int32) (fNf : Nat → Int32) (fNz : Nat → Int32) (a0 : Int32) (a1 : Int32) : Int32 × (Nat → Int32) × (Nat → Int32) := (xL ((fd_layOut fSh fTp ns fNs fNf fNz (1 <<< (a0 &&& 31)))) (fun X_5 => (xL ((fd_tell fRw X_5.2.1 (1 <<< (a0 &&& 31)) (0 : Int32) a1)) (fun r_6 => (r_6, X_5.2.1, X_5.2.2)))))
theorem dX5_tellAlone_0 : decode cX5_tellAlone 0 = .ok (.iconst 1, 1) := zk_4 (by decide +kernel)
theorem dX5_tellAlone_1 : decode cX5_tellAlone 1 = .ok (.iload_n 2, 1) := zk_28 (by decide +kernel)
theorem dX5_tellAlone_2 : decode cX5_tellAlone 2 = .ok (.ishl, 1) := zk_120 (by decide +kernel)
theorem dX5_tellAlone_3 : decode cX5_tellAlone 3 = .ok (.istore 4, 2) := zk_54 (by decide +kernel)
theorem dX5_tellAlone_5 : decode cX5_tellAlone 5 = .ok (.aload_n 0, 1) := zk_42 (by decide +kernel)
theorem dX5_tellAlone_6 : decode cX5_tellAlone 6 = .ok (.aload_n 1, 1) := zk_43 (by decide +kernel)
theorem dX5_tellAlone_7 : decode cX5_tellAlone 7 = .ok (.iload 4, 2) := zk_21 (by decide +kernel)
theorem dX5_tellAlone_9 : decode cX5_tellAlone 9 = .ok (.invokevirtual 129, 3) := zk_182 (by decide +kernel)
theorem dX5_tellAlone_12 : decode cX5_tellAlone 12 = .ok (.pop, 1) := zk_87 (by decide +kernel)
theorem dX5_tellAlone_13 : decode cX5_tellAlone 13 = .ok (.aload_n 0, 1) := zk_42 (by decide +kernel)
theorem dX5_tellAlone_14 : decode cX5_tellAlone 14 = .ok (.iload 4, 2) := zk_21 (by decide +kernel)
theorem dX5_tellAlone_16 : decode cX5_tellAlone 16 = .ok (.iconst 0, 1) := zk_3 (by decide +kernel)
theorem dX5_tellAlone_17 : decode cX5_tellAlone 17 = .ok (.iload_n 3, 1) := zk_29 (by decide +kernel)
theorem dX5_tellAlone_18 : decode cX5_tellAlone 18 = .ok (.invokevirtual 133, 3) := zk_182 (by decide +kernel)
theorem dX5_tellAlone_21 : decode cX5_tellAlone 21 = .ok (.ireturn, 1) := zk_172 (by decide +kernel)
set_option maxHeartbeats 4000000 in
set_option maxRecDepth 100000 in
theorem gd_tellAlone (l : Launch) (dC : Nat → ClassId) (dI : Nat → Nat → Nat) (xdy : Nat) (drw : Nat) (dfr : Int32) (dsh : Nat) (dto : Nat) (dmo : Nat) (dwi : Nat) (cDr : ClassId) (Rw : Nat → Nat) (cRr : ClassId) (fRw : Nat → Nat → Int64) (cSh : ClassId) (fSh : Nat → Int32) (cTp : ClassId) (fTp : Nat → Int32) (bno : Nat) (ns : Int32) (nsa : Nat) (nfa : Nat) (nza : Nat) (cNs : ClassId) (fNs : Nat → Int32) (cNf : ClassId) (fNf : Nat → Int32) (cNz : ClassId) (fNz : Nat → Int32) (a0 : Int32) (a1 : Int32) (sz : Nat) : Met l yX5_tellAlone (Cond.code yX5_tellAlone cX5_tellAlone 5 (some .int) :: wsL_law) ({ frames := 4, cells := 0, slots := 0, locals := 92 }) (va_Pc [.ref xdy, .ref bno, .int a0, .int a1] (fun U => U.heap.size = sz ∧ va_P (dC, dI) vwCl [(eO5a xdy drw dfr dsh dto dmo dwi), (eA4 drw cDr 12 (fun k => some (Rw k))), (eA1 (Rw 0) cRr 313 (fRw 0)), (eA1 (Rw 1) cRr 313 (fRw 1)), (eA1 (Rw 2) cRr 313 (fRw 2)), (eA1 (Rw 3) cRr 313 (fRw 3)), (eA1 (Rw 4) cRr 313 (fRw 4)), (eA1 (Rw 5) cRr 313 (fRw 5)), (eA1 (Rw 6) cRr 313 (fRw 6)), (eA1 (Rw 7) cRr 313 (fRw 7)), (eA1 (Rw 8) cRr 313 (fRw 8)), (eA1 (Rw 9) cRr 313 (fRw 9)), (eA1 (Rw 10) cRr 313 (fRw 10)), (eA1 (Rw 11) cRr 313 (fRw 11)), (eA0 dsh cSh 12 fSh), (eA0 dto cTp 12 fTp), (eO6a bno ns nsa nfa nza), (eA0 nsa cNs 12 fNs), (eA0 nfa cNf 96 fNf), (eA0 nza cNz 96 fNz)] U.heap ∧ va_K (dC, dI) vwCl [(cDr, .array .long), (cRr, .long), (cRr, .long), (cRr, .long), (cRr, .long), (cRr, .long), (cRr, .long), (cRr, .long), (cRr, .long), (cRr, .long), (cRr, .long), (cRr, .long), (cRr, .long), (cSh, .int), (cTp, .int), (cNs, .int), (cNf, .int), (cNz, .int)] U ∧ va_D (fun _ => True) [(eO5a xdy drw dfr dsh dto dmo dwi), (eA4 drw cDr 12 (fun k => some (Rw k))), (eA1 (Rw 0) cRr 313 (fRw 0)), (eA1 (Rw 1) cRr 313 (fRw 1)), (eA1 (Rw 2) cRr 313 (fRw 2)), (eA1 (Rw 3) cRr 313 (fRw 3)), (eA1 (Rw 4) cRr 313 (fRw 4)), (eA1 (Rw 5) cRr 313 (fRw 5)), (eA1 (Rw 6) cRr 313 (fRw 6)), (eA1 (Rw 7) cRr 313 (fRw 7)), (eA1 (Rw 8) cRr 313 (fRw 8)), (eA1 (Rw 9) cRr 313 (fRw 9)), (eA1 (Rw 10) cRr 313 (fRw 10)), (eA1 (Rw 11) cRr 313 (fRw 11)), (eA0 dsh cSh 12 fSh), (eA0 dto cTp 12 fTp), (eO6a bno ns nsa nfa nza), (eA0 nsa cNs 12 fNs), (eA0 nfa cNf 96 fNf), (eA0 nza cNz 96 fNz)])) (va_Qi (fun (r : Int32) (u : (Nat → Int32) × (Nat → Int32)) => r = (fd_tellAlone fRw fSh fTp ns fNs fNf fNz a0 a1).1 ∧ u = (fd_tellAlone fRw fSh fTp ns fNs fNf fNz a0 a1).2) (fun (u : (Nat → Int32) × (Nat → Int32)) t => va_P (dC, dI) vwCl [(eO5a xdy drw dfr dsh dto dmo dwi), (eA4 drw cDr 12 (fun k => some (Rw k))), (eA1 (Rw 0) cRr 313 (fRw 0)), (eA1 (Rw 1) cRr 313 (fRw 1)), (eA1 (Rw 2) cRr 313 (fRw 2)), (eA1 (Rw 3) cRr 313 (fRw 3)), (eA1 (Rw 4) cRr 313 (fRw 4)), (eA1 (Rw 5) cRr 313 (fRw 5)), (eA1 (Rw 6) cRr 313 (fRw 6)), (eA1 (Rw 7) cRr 313 (fRw 7)), (eA1 (Rw 8) cRr 313 (fRw 8)), (eA1 (Rw 9) cRr 313 (fRw 9)), (eA1 (Rw 10) cRr 313 (fRw 10)), (eA1 (Rw 11) cRr 313 (fRw 11)), (eA0 dsh cSh 12 u.1), (eA0 dto cTp 12 u.2), (eO6a bno ns nsa nfa nza), (eA0 nsa cNs 12 fNs), (eA0 nfa cNf 96 fNf), (eA0 nza cNz 96 fNz)] t.heap ∧ va_K (dC, dI) vwCl [] t ∧ va_D (va_A [(eO5a xdy drw dfr dsh dto dmo dwi), (eA4 drw cDr 12 (fun k => some (Rw k))), (eA1 (Rw 0) cRr 313 (fRw 0)), (eA1 (Rw 1) cRr 313 (fRw 1)), (eA1 (Rw 2) cRr 313 (fRw 2)), (eA1 (Rw 3) cRr 313 (fRw 3)), (eA1 (Rw 4) cRr 313 (fRw 4)), (eA1 (Rw 5) cRr 313 (fRw 5)), (eA1 (Rw 6) cRr 313 (fRw 6)), (eA1 (Rw 7) cRr 313 (fRw 7)), (eA1 (Rw 8) cRr 313 (fRw 8)), (eA1 (Rw 9) cRr 313 (fRw 9)), (eA1 (Rw 10) cRr 313 (fRw 10)), (eA1 (Rw 11) cRr 313 (fRw 11)), (eA0 dsh cSh 12 fSh), (eA0 dto cTp 12 fTp), (eO6a bno ns nsa nfa nza), (eA0 nsa cNs 12 fNs), (eA0 nfa cNf 96 fNf), (eA0 nza cNz 96 fNz)] sz) [(eO5a xdy drw dfr dsh dto dmo dwi), (eA4 drw cDr 12 (fun k => some (Rw k))), (eA1 (Rw 0) cRr 313 (fRw 0)), (eA1 (Rw 1) cRr 313 (fRw 1)), (eA1 (Rw 2) cRr 313 (fRw 2)), (eA1 (Rw 3) cRr 313 (fRw 3)), (eA1 (Rw 4) cRr 313 (fRw 4)), (eA1 (Rw 5) cRr 313 (fRw 5)), (eA1 (Rw 6) cRr 313 (fRw 6)), (eA1 (Rw 7) cRr 313 (fRw 7)), (eA1 (Rw 8) cRr 313 (fRw 8)), (eA1 (Rw 9) cRr 313 (fRw 9)), (eA1 (Rw 10) cRr 313 (fRw 10)), (eA1 (Rw 11) cRr 313 (fRw 11)), (eA0 dsh cSh 12 u.1), (eA0 dto cTp 12 u.2), (eO6a bno ns nsa nfa nza), (eA0 nsa cNs 12 fNs), (eA0 nfa cNf 96 fNf), (eA0 nza cNz 96 fNz)]) (va_A [(eO5a xdy drw dfr dsh dto dmo dwi), (eA4 drw cDr 12 (fun k => some (Rw k))), (eA1 (Rw 0) cRr 313 (fRw 0)), (eA1 (Rw 1) cRr 313 (fRw 1)), (eA1 (Rw 2) cRr 313 (fRw 2)), (eA1 (Rw 3) cRr 313 (fRw 3)), (eA1 (Rw 4) cRr 313 (fRw 4)), (eA1 (Rw 5) cRr 313 (fRw 5)), (eA1 (Rw 6) cRr 313 (fRw 6)), (eA1 (Rw 7) cRr 313 (fRw 7)), (eA1 (Rw 8) cRr 313 (fRw 8)), (eA1 (Rw 9) cRr 313 (fRw 9)), (eA1 (Rw 10) cRr 313 (fRw 10)), (eA1 (Rw 11) cRr 313 (fRw 11)), (eA0 dsh cSh 12 fSh), (eA0 dto cTp 12 fTp), (eO6a bno ns nsa nfa nza), (eA0 nsa cNs 12 fNs), (eA0 nfa cNf 96 fNf), (eA0 nza cNz 96 fNz)] sz)) 0 0 (va_A [(eO5a xdy drw dfr dsh dto dmo dwi), (eA4 drw cDr 12 (fun k => some (Rw k))), (eA1 (Rw 0) cRr 313 (fRw 0)), (eA1 (Rw 1) cRr 313 (fRw 1)), (eA1 (Rw 2) cRr 313 (fRw 2)), (eA1 (Rw 3) cRr 313 (fRw 3)), (eA1 (Rw 4) cRr 313 (fRw 4)), (eA1 (Rw 5) cRr 313 (fRw 5)), (eA1 (Rw 6) cRr 313 (fRw 6)), (eA1 (Rw 7) cRr 313 (fRw 7)), (eA1 (Rw 8) cRr 313 (fRw 8)), (eA1 (Rw 9) cRr 313 (fRw 9)), (eA1 (Rw 10) cRr 313 (fRw 10)), (eA1 (Rw 11) cRr 313 (fRw 11)), (eA0 dsh cSh 12 fSh), (eA0 dto cTp 12 fTp), (eO6a bno ns nsa nfa nza), (eA0 nsa cNs 12 fNs), (eA0 nfa cNf 96 fNf), (eA0 nza cNz 96 fNz)] sz) := by
  refine Met.ofW (cc := cX5_tellAlone) (maxL := 5) (ret := (some .int)) (by decide) rfl ?_
  intro p e s m args below meth c s₁ B hml hv
  obtain ⟨rfl, hsz, hP, hK, hD0⟩ := hv
  have hx := B.exec
  have hb := B.bytes
  have hr := B.returns
  have hts := atoms_spec (ws := Cond.code yX5_tellAlone cX5_tellAlone 5 (some .int) :: wsL_law) B.pre
  have htw : ∀ w ∈ wsL_law, w.before _ s = true := fun w h => hts w (List.mem_cons_of_mem _ h)
  have hown : s.vm.findClass RX5 = some m.cls := findClass_of_methodNamed B.named
  have hlocks := B.notSynchronized
  subst hsz
  have hD := hD0.self (sz := s.heap.size)
  generalize hAe : va_A [(eO5a xdy drw dfr dsh dto dmo dwi), (eA4 drw cDr 12 (fun k => some (Rw k))), (eA1 (Rw 0) cRr 313 (fRw 0)), (eA1 (Rw 1) cRr 313 (fRw 1)), (eA1 (Rw 2) cRr 313 (fRw 2)), (eA1 (Rw 3) cRr 313 (fRw 3)), (eA1 (Rw 4) cRr 313 (fRw 4)), (eA1 (Rw 5) cRr 313 (fRw 5)), (eA1 (Rw 6) cRr 313 (fRw 6)), (eA1 (Rw 7) cRr 313 (fRw 7)), (eA1 (Rw 8) cRr 313 (fRw 8)), (eA1 (Rw 9) cRr 313 (fRw 9)), (eA1 (Rw 10) cRr 313 (fRw 10)), (eA1 (Rw 11) cRr 313 (fRw 11)), (eA0 dsh cSh 12 fSh), (eA0 dto cTp 12 fTp), (eO6a bno ns nsa nfa nza), (eA0 nsa cNs 12 fNs), (eA0 nfa cNf 96 fNf), (eA0 nza cNz 96 fNz)] s.heap.size = A at hD ⊢
  have hA : ∀ q : Nat, s.heap.size ≤ q → A q := fun q h => by rw [← hAe]; exact Or.inr h
  obtain ⟨H, rH⟩ : ∃ z : Heap, z = s.heap := ⟨_, rfl⟩
  have hS : va_S A s.heap H [] := by rw [rH]; exact va_S.rf
  have hP : va_P (dC, dI) vwCl [(eO5a xdy drw dfr dsh dto dmo dwi), (eA4 drw cDr 12 (fun k => some (Rw k))), (eA1 (Rw 0) cRr 313 (fRw 0)), (eA1 (Rw 1) cRr 313 (fRw 1)), (eA1 (Rw 2) cRr 313 (fRw 2)), (eA1 (Rw 3) cRr 313 (fRw 3)), (eA1 (Rw 4) cRr 313 (fRw 4)), (eA1 (Rw 5) cRr 313 (fRw 5)), (eA1 (Rw 6) cRr 313 (fRw 6)), (eA1 (Rw 7) cRr 313 (fRw 7)), (eA1 (Rw 8) cRr 313 (fRw 8)), (eA1 (Rw 9) cRr 313 (fRw 9)), (eA1 (Rw 10) cRr 313 (fRw 10)), (eA1 (Rw 11) cRr 313 (fRw 11)), (eA0 dsh cSh 12 fSh), (eA0 dto cTp 12 fTp), (eO6a bno ns nsa nfa nza), (eA0 nsa cNs 12 fNs), (eA0 nfa cNf 96 fNf), (eA0 nza cNz 96 fNz)] H := by rw [rH]; exact hP
  rw [← rH]
  have hl := lv_entry ([.ref xdy, .ref bno, .int a0, .int a1]) (n := 5) (Nat.le_of_ble_eq_true rfl)
  rw [lg_entry_eq]
  generalize (lg_sl ([.ref xdy, .ref bno, .int a0, .int a1]) ++ List.replicate (5 - (lg_sl ([.ref xdy, .ref bno, .int a0, .int a1])).length) Slot.unset).toArray = ls at hl ⊢
  have hl : lv_has ls 5 [(0, .ref xdy), (1, .ref bno), (2, .int a0), (3, .int a1)] := hl
  refine lv_iconst (v := 1) hx hb dX5_tellAlone_0 (by decide) ?_
  refine lv_iload_n hx hb dX5_tellAlone_1 rfl (lv_at hl 2 rfl) ?_
  refine lv_ishl hx hb dX5_tellAlone_2 ?_
  refine lv_istore (lv' := [(4, .int (1 <<< (a0 &&& 31))), (0, .ref xdy), (1, .ref bno), (2, .int a0), (3, .int a1)]) hx hb dX5_tellAlone_3 hl (by decide) rfl (fun ls hl => ?_)
  refine lv_aload_n hx hb dX5_tellAlone_5 rfl (lv_at hl 1 rfl) ?_
  refine lv_aload_n hx hb dX5_tellAlone_6 rfl (lv_at hl 2 rfl) ?_
  refine lv_iload hx hb dX5_tellAlone_7 (lv_at hl 0 rfl) ?_
  obtain ⟨hPc, hDc, hFc, hCc⟩ := zsub3 (ws' := [(eO5a xdy drw dfr dsh dto dmo dwi), (eA0 dsh cSh 12 fSh), (eA0 dto cTp 12 fTp), (eO6a bno ns nsa nfa nza), (eA0 nsa cNs 12 fNs), (eA0 nfa cNf 96 fNf), (eA0 nza cNz 96 fNz)]) hP hD hS hA [0, 14, 15, 16, 17, 18, 19] (by decide) rfl
  have hKc := hK.sub (tys' := [(cSh, .int), (cTp, .int), (cNs, .int), (cNf, .int), (cNz, .int)]) [13, 14, 15, 16, 17] rfl
  refine va_calli (va_runV (As := [.ref bno, .int (1 <<< (a0 &&& 31))]) (rest := []) ⟨hx, hb, hml, hown, htw⟩ (gd_layOut l dC dI xdy drw dfr dsh dto dmo dwi cSh fSh cTp fTp bno ns nsa nfa nza cNs fNs cNf fNf cNz fNz (1 <<< (a0 &&& 31)) H.size) (cwV 2 htw (xg_V (ck_57 _ (List.mem_of_getElem? (i := 7) rfl)) (ck_57 _ (List.mem_of_getElem? (i := 8) rfl)) (ck_57 _ (List.mem_of_getElem? (i := 9) rfl)) (ck_2 _ (List.mem_of_getElem? (i := 1) rfl)) (ck_57 _ (List.mem_of_getElem? (i := 10) rfl))) rfl rfl rfl (by exact ⟨rfl, hdc_10.1, hdc_10.2, hdd_27⟩) ⟨Nat.le_of_ble_eq_true rfl, Nat.le_of_ble_eq_true rfl⟩) ⟨fun a U g mk q => by obtain ⟨q0, q1, qP, qK, qD⟩ := q; exact ⟨q0, q1, qP, va_K.moved (u := U) (U := U.calling g mk a) (Vm.Alike.refl U.vm) qK, qD⟩, va_recv hKc hPc (ci := 5) (q0 := 0) rfl rfl, fun U hU hW => ⟨rfl, by rw [hU], by rw [hU]; exact hPc, va_K.moved hW.alike hKc, hDc.weaken (fun _ _ _ _ => trivial)⟩⟩ rfl rfl hl.1 rfl (lv_room (Nat.le_of_ble_eq_true rfl)) dX5_tellAlone_9 ⟨Nat.le_of_ble_eq_true rfl, Nat.le_of_ble_eq_true rfl⟩) hS (fun q _ h => hFc q h) hFc (fun r_1 u_2 t H1 locs ht hvm hw hB hz1 hk1 hS => ?_)
  try dsimp only at hw
  obtain ⟨hP1, hK1, hD1⟩ := hB
  rw [ht] at hP1
  have hK1 := va_K.moved hvm.symm hK1
  have hK1 : va_K (dC, dI) vwCl [] s := hK1
  obtain ⟨hP, hD⟩ := va_join (wr := [(eA4 drw cDr 12 (fun k => some (Rw k))), (eA1 (Rw 0) cRr 313 (fRw 0)), (eA1 (Rw 1) cRr 313 (fRw 1)), (eA1 (Rw 2) cRr 313 (fRw 2)), (eA1 (Rw 3) cRr 313 (fRw 3)), (eA1 (Rw 4) cRr 313 (fRw 4)), (eA1 (Rw 5) cRr 313 (fRw 5)), (eA1 (Rw 6) cRr 313 (fRw 6)), (eA1 (Rw 7) cRr 313 (fRw 7)), (eA1 (Rw 8) cRr 313 (fRw 8)), (eA1 (Rw 9) cRr 313 (fRw 9)), (eA1 (Rw 10) cRr 313 (fRw 10)), (eA1 (Rw 11) cRr 313 (fRw 11))]) (w1 := [(eO5a xdy drw dfr dsh dto dmo dwi), (eA0 dsh cSh 12 u_2.1), (eA0 dto cTp 12 u_2.2), (eO6a bno ns nsa nfa nza), (eA0 nsa cNs 12 fNs), (eA0 nfa cNf 96 fNf), (eA0 nza cNz 96 fNz)]) hP hD [0, 14, 15, 16, 17, 18, 19] [1, 2, 3, 4, 5, 6, 7, 8, 9, 10, 11, 12, 13] hCc rfl (by decide +kernel) (by decide +kernel) hk1 hFc hP1 hD1
  generalize H1 = H at hP hS ⊢
  obtain ⟨hP, hD⟩ := zre [(eA4 drw cDr 12 (fun k => some (Rw k))), (eA1 (Rw 0) cRr 313 (fRw 0)), (eA1 (Rw 1) cRr 313 (fRw 1)), (eA1 (Rw 2) cRr 313 (fRw 2)), (eA1 (Rw 3) cRr 313 (fRw 3)), (eA1 (Rw 4) cRr 313 (fRw 4)), (eA1 (Rw 5) cRr 313 (fRw 5)), (eA1 (Rw 6) cRr 313 (fRw 6)), (eA1 (Rw 7) cRr 313 (fRw 7)), (eA1 (Rw 8) cRr 313 (fRw 8)), (eA1 (Rw 9) cRr 313 (fRw 9)), (eA1 (Rw 10) cRr 313 (fRw 10)), (eA1 (Rw 11) cRr 313 (fRw 11)), (eO5a xdy drw dfr dsh dto dmo dwi), (eA0 dsh cSh 12 u_2.1), (eA0 dto cTp 12 u_2.2), (eO6a bno ns nsa nfa nza), (eA0 nsa cNs 12 fNs), (eA0 nfa cNf 96 fNf), (eA0 nza cNz 96 fNz)] hP hD rfl
  refine W.widen (k := 0) (n := 0) (by omega) (by omega) ?_
  obtain ⟨X_5, hX_5⟩ : ∃ X9 : Int32 × (Nat → Int32) × (Nat → Int32), X9 = (fd_layOut fSh fTp ns fNs fNf fNz (1 <<< (a0 &&& 31))) := ⟨_, rfl⟩
  have hq_r_1 : r_1 = X_5.1 := by rw [hX_5]; exact hw.1
  have hq_u_2 : u_2 = X_5.2 := by rw [hX_5]; exact hw.2
  refine lv_pop hx hb dX5_tellAlone_12 rfl ?_
  refine lv_aload_n hx hb dX5_tellAlone_13 rfl (lv_at hl 1 rfl) ?_
  refine lv_iload hx hb dX5_tellAlone_14 (lv_at hl 0 rfl) ?_
  refine lv_iconst (v := 0) hx hb dX5_tellAlone_16 (by decide) ?_
  refine lv_iload_n hx hb dX5_tellAlone_17 rfl (lv_at hl 4 rfl) ?_
  have hPc := hP.sub (ws' := [(eO5a xdy drw dfr dsh dto dmo dwi), (eA4 drw cDr 12 (fun k => some (Rw k))), (eA1 (Rw 0) cRr 313 (fRw 0)), (eA1 (Rw 1) cRr 313 (fRw 1)), (eA1 (Rw 2) cRr 313 (fRw 2)), (eA1 (Rw 3) cRr 313 (fRw 3)), (eA1 (Rw 4) cRr 313 (fRw 4)), (eA1 (Rw 5) cRr 313 (fRw 5)), (eA1 (Rw 6) cRr 313 (fRw 6)), (eA1 (Rw 7) cRr 313 (fRw 7)), (eA1 (Rw 8) cRr 313 (fRw 8)), (eA1 (Rw 9) cRr 313 (fRw 9)), (eA1 (Rw 10) cRr 313 (fRw 10)), (eA1 (Rw 11) cRr 313 (fRw 11)), (eA0 dsh cSh 12 u_2.1)]) [13, 0, 1, 2, 3, 4, 5, 6, 7, 8, 9, 10, 11, 12, 14] rfl
  have hKc := hK.sub (tys' := [(cDr, .array .long), (cRr, .long), (cRr, .long), (cRr, .long), (cRr, .long), (cRr, .long), (cRr, .long), (cRr, .long), (cRr, .long), (cRr, .long), (cRr, .long), (cRr, .long), (cRr, .long), (cSh, .int)]) [0, 1, 1, 1, 1, 1, 1, 1, 1, 1, 1, 1, 1, 13] rfl
  refine vp_callSi (W.runV (As := [.int (1 <<< (a0 &&& 31)), .int 0, .int a1]) (rest := []) ⟨hx, hb, hml, hown, htw⟩ (gd_tell l dC dI xdy drw dfr dsh dto dmo dwi cDr Rw cRr fRw cSh u_2.1 (1 <<< (a0 &&& 31)) (0 : Int32) a1) (cwV 3 htw (xg_V (ck_57 _ (List.mem_of_getElem? (i := 12) rfl)) (ck_57 _ (List.mem_of_getElem? (i := 13) rfl)) (ck_57 _ (List.mem_of_getElem? (i := 14) rfl)) (ck_2 _ (List.mem_of_getElem? (i := 1) rfl)) (ck_57 _ (List.mem_of_getElem? (i := 15) rfl))) rfl rfl rfl (by exact ⟨rfl, hdc_10.1, hdc_10.2, hdd_28⟩) ⟨Nat.le_of_ble_eq_true rfl, Nat.le_of_ble_eq_true rfl⟩) ⟨fun a U g mk q => by obtain ⟨q0, qP, qK⟩ := q; exact ⟨q0, qP, va_K.moved (u := U) (U := U.calling g mk a) (Vm.Alike.refl U.vm) qK⟩, va_recv hKc hPc (ci := 5) (q0 := 0) rfl rfl, fun U hU hW => ⟨rfl, by rw [hU]; exact hPc, va_K.moved hW.alike hKc⟩⟩ rfl rfl hl.1 rfl (lv_room (Nat.le_of_ble_eq_true rfl)) dX5_tellAlone_18 ⟨Nat.le_of_ble_eq_true rfl, Nat.le_of_ble_eq_true rfl⟩) (fun r_6 hw => ?_)
  try dsimp only at hw
  have hq_r_6 : r_6 = (fd_tell fRw u_2.1 (1 <<< (a0 &&& 31)) (0 : Int32) a1) := hw
  refine W.widen (k := 0) (n := 0) (by omega) (by omega) ?_
  obtain ⟨hP9, hD9⟩ := zsub2 (ws' := [(eO5a xdy drw dfr dsh dto dmo dwi), (eA4 drw cDr 12 (fun k => some (Rw k))), (eA1 (Rw 0) cRr 313 (fRw 0)), (eA1 (Rw 1) cRr 313 (fRw 1)), (eA1 (Rw 2) cRr 313 (fRw 2)), (eA1 (Rw 3) cRr 313 (fRw 3)), (eA1 (Rw 4) cRr 313 (fRw 4)), (eA1 (Rw 5) cRr 313 (fRw 5)), (eA1 (Rw 6) cRr 313 (fRw 6)), (eA1 (Rw 7) cRr 313 (fRw 7)), (eA1 (Rw 8) cRr 313 (fRw 8)), (eA1 (Rw 9) cRr 313 (fRw 9)), (eA1 (Rw 10) cRr 313 (fRw 10)), (eA1 (Rw 11) cRr 313 (fRw 11)), (eA0 dsh cSh 12 u_2.1), (eA0 dto cTp 12 u_2.2), (eO6a bno ns nsa nfa nza), (eA0 nsa cNs 12 fNs), (eA0 nfa cNf 96 fNf), (eA0 nza cNz 96 fNz)]) hP hD [13, 0, 1, 2, 3, 4, 5, 6, 7, 8, 9, 10, 11, 12, 14, 15, 16, 17, 18, 19] (by decide +kernel) rfl
  have hK9 := hK.sub (tys' := []) [] rfl
  exact W.iret (v := r_6) hx hb hr (fun t ht hW => ⟨⟨r_6, (u_2.1, u_2.2), rfl, ((fun e9 => ⟨by rw [e9], by rw [e9]⟩ : fd_tellAlone fRw fSh fTp ns fNs fNf fNz a0 a1 = (r_6, u_2.1, u_2.2) → _) ((by rw [fd_tellAlone]; (try rw [← hX_5]); (try rw [xL_eq]); (try rw [← hq_r_1]); (try rw [← hq_u_2]); (try rw [← hq_r_6]); (try rw [xL_eq]); try rfl))), by rw [ht]; exact hP9, va_K.moved hW.alike hK9, hD9⟩, hS.F ht⟩) hS.2.2 dX5_tellAlone_21

def fd_tellTogether (fRw : Nat → Nat → Int64) (fSh : Nat → Int32) (fTp : Nat → Int32) (ns : Int32) (fNs : Nat → Int32) (fNf : Nat → Int32) (fNz : Nat → Int32) (a0 : Int32) (a1 : Int32) : Int32 × (Nat → Int32) × (Nat → Int32) := (xL ((fd_layOut fSh fTp ns fNs fNf fNz ((1 <<< (ns &&& 31)) - 1))) (fun X_5 => (if a0 < 0 then (if a1 = 0 then ((0 : Int32), X_5.2.1, X_5.2.2) else ((-1 : Int32), X_5.2.1, X_5.2.2)) else (if 12 ≤ a0 then (if a1 = 0 then ((0 : Int32), X_5.2.1, X_5.2.2) else ((-1 : Int32), X_5.2.1, X_5.2.2)) else (xL ((fd_allHold fRw X_5.2.1 X_5.2.2 ns)) (fun r_10 => (if r_10 = 0 then (if a1 = 0 then ((0 : Int32), X_5.2.1, X_5.2.2) else ((-1 : Int32), X_5.2.1, X_5.2.2)) else (xL ((fd_treeOf X_5.2.2 (X_5.2.2 a0.toNatClampNeg) ns)) (fun r_12 => (xL ((fd_tell fRw X_5.2.1 r_12 (X_5.2.1 a0.toNatClampNeg) a1)) (fun r_13 => (r_13, X_5.2.1, X_5.2.2))))))))))))
theorem gd_tellTogether_s0 {y0 : Int32} (h0 : ¬ (y0 < 0)) (h1 : ¬ (12 ≤ y0)) : ¬ (y0 < 0) ∧ ¬ (12 ≤ y0) := ⟨h0, h1⟩
theorem gd_tellTogether_s1 {y0 : Int32} (h0 : ¬ (y0 < 0)) (h1 : ¬ (12 ≤ y0)) : ¬ (y0 < 0) ∧ ¬ (12 ≤ y0) := ⟨h0, h1⟩
theorem dX5_tellTogether_0 : decode cX5_tellTogether 0 = .ok (.aload_n 0, 1) := zk_42 (by decide +kernel)
theorem dX5_tellTogether_1 : decode cX5_tellTogether 1 = .ok (.aload_n 1, 1) := zk_43 (by decide +kernel)
theorem dX5_tellTogether_2 : decode cX5_tellTogether 2 = .ok (.iconst 1, 1) := zk_4 (by decide +kernel)
theorem dX5_tellTogether_3 : decode cX5_tellTogether 3 = .ok (.aload_n 1, 1) := zk_43 (by decide +kernel)
theorem dX5_tellTogether_4 : decode cX5_tellTogether 4 = .ok (.getfield 56, 3) := zk_180 (by decide +kernel)
theorem dX5_tellTogether_7 : decode cX5_tellTogether 7 = .ok (.ishl, 1) := zk_120 (by decide +kernel)
theorem dX5_tellTogether_8 : decode cX5_tellTogether 8 = .ok (.iconst 1, 1) := zk_4 (by decide +kernel)
theorem dX5_tellTogether_9 : decode cX5_tellTogether 9 = .ok (.isub, 1) := zk_100 (by decide +kernel)
theorem dX5_tellTogether_10 : decode cX5_tellTogether 10 = .ok (.invokevirtual 129, 3) := zk_182 (by decide +kernel)
theorem dX5_tellTogether_13 : decode cX5_tellTogether 13 = .ok (.pop, 1) := zk_87 (by decide +kernel)
theorem dX5_tellTogether_14 : decode cX5_tellTogether 14 = .ok (.iload_n 2, 1) := zk_28 (by decide +kernel)
theorem dX5_tellTogether_15 : decode cX5_tellTogether 15 = .ok (.ifCond .lt 20, 3) := zk_155 (by decide +kernel)
theorem dX5_tellTogether_35 : decode cX5_tellTogether 35 = .ok (.iload_n 3, 1) := zk_29 (by decide +kernel)
theorem dX5_tellTogether_36 : decode cX5_tellTogether 36 = .ok (.ifCond .ne 7, 3) := zk_154 (by decide +kernel)
theorem dX5_tellTogether_43 : decode cX5_tellTogether 43 = .ok (.iconst (-1), 1) := zk_2 (by decide +kernel)
theorem dX5_tellTogether_44 : decode cX5_tellTogether 44 = .ok (.ireturn, 1) := zk_172 (by decide +kernel)
theorem dX5_tellTogether_39 : decode cX5_tellTogether 39 = .ok (.iconst 0, 1) := zk_3 (by decide +kernel)
theorem dX5_tellTogether_40 : decode cX5_tellTogether 40 = .ok (.goto 4, 3) := zk_167 (by decide +kernel)
theorem dX5_tellTogether_18 : decode cX5_tellTogether 18 = .ok (.iload_n 2, 1) := zk_28 (by decide +kernel)
theorem dX5_tellTogether_19 : decode cX5_tellTogether 19 = .ok (.bipush 12, 2) := zk_16 (by decide +kernel)
theorem dX5_tellTogether_21 : decode cX5_tellTogether 21 = .ok (.if_icmp .ge 14, 3) := zk_162 (by decide +kernel)
theorem dX5_tellTogether_24 : decode cX5_tellTogether 24 = .ok (.aload_n 0, 1) := zk_42 (by decide +kernel)
theorem dX5_tellTogether_25 : decode cX5_tellTogether 25 = .ok (.aload_n 1, 1) := zk_43 (by decide +kernel)
theorem dX5_tellTogether_26 : decode cX5_tellTogether 26 = .ok (.getfield 56, 3) := zk_180 (by decide +kernel)
theorem dX5_tellTogether_29 : decode cX5_tellTogether 29 = .ok (.invokevirtual 137, 3) := zk_182 (by decide +kernel)
theorem dX5_tellTogether_32 : decode cX5_tellTogether 32 = .ok (.ifCond .ne 13, 3) := zk_154 (by decide +kernel)
theorem dX5_tellTogether_45 : decode cX5_tellTogether 45 = .ok (.aload_n 0, 1) := zk_42 (by decide +kernel)
theorem dX5_tellTogether_46 : decode cX5_tellTogether 46 = .ok (.aload_n 0, 1) := zk_42 (by decide +kernel)
theorem dX5_tellTogether_47 : decode cX5_tellTogether 47 = .ok (.aload_n 0, 1) := zk_42 (by decide +kernel)
theorem dX5_tellTogether_48 : decode cX5_tellTogether 48 = .ok (.getfield 20, 3) := zk_180 (by decide +kernel)
theorem dX5_tellTogether_51 : decode cX5_tellTogether 51 = .ok (.iload_n 2, 1) := zk_28 (by decide +kernel)
theorem dX5_tellTogether_52 : decode cX5_tellTogether 52 = .ok (.iaload, 1) := zk_46 (by decide +kernel)
theorem dX5_tellTogether_53 : decode cX5_tellTogether 53 = .ok (.aload_n 1, 1) := zk_43 (by decide +kernel)
theorem dX5_tellTogether_54 : decode cX5_tellTogether 54 = .ok (.getfield 56, 3) := zk_180 (by decide +kernel)
theorem dX5_tellTogether_57 : decode cX5_tellTogether 57 = .ok (.invokevirtual 141, 3) := zk_182 (by decide +kernel)
theorem dX5_tellTogether_60 : decode cX5_tellTogether 60 = .ok (.aload_n 0, 1) := zk_42 (by decide +kernel)
theorem dX5_tellTogether_61 : decode cX5_tellTogether 61 = .ok (.getfield 16, 3) := zk_180 (by decide +kernel)
theorem dX5_tellTogether_64 : decode cX5_tellTogether 64 = .ok (.iload_n 2, 1) := zk_28 (by decide +kernel)
theorem dX5_tellTogether_65 : decode cX5_tellTogether 65 = .ok (.iaload, 1) := zk_46 (by decide +kernel)
theorem dX5_tellTogether_66 : decode cX5_tellTogether 66 = .ok (.iload_n 3, 1) := zk_29 (by decide +kernel)
theorem dX5_tellTogether_67 : decode cX5_tellTogether 67 = .ok (.invokevirtual 133, 3) := zk_182 (by decide +kernel)
theorem dX5_tellTogether_70 : decode cX5_tellTogether 70 = .ok (.ireturn, 1) := zk_172 (by decide +kernel)
set_option maxHeartbeats 4000000 in
set_option maxRecDepth 100000 in
theorem gd_tellTogether (l : Launch) (dC : Nat → ClassId) (dI : Nat → Nat → Nat) (xdy : Nat) (drw : Nat) (dfr : Int32) (dsh : Nat) (dto : Nat) (dmo : Nat) (dwi : Nat) (cDr : ClassId) (Rw : Nat → Nat) (cRr : ClassId) (fRw : Nat → Nat → Int64) (cSh : ClassId) (fSh : Nat → Int32) (cTp : ClassId) (fTp : Nat → Int32) (bno : Nat) (ns : Int32) (nsa : Nat) (nfa : Nat) (nza : Nat) (cNs : ClassId) (fNs : Nat → Int32) (cNf : ClassId) (fNf : Nat → Int32) (cNz : ClassId) (fNz : Nat → Int32) (a0 : Int32) (a1 : Int32) (sz : Nat) : Met l yX5_tellTogether (Cond.code yX5_tellTogether cX5_tellTogether 4 (some .int) :: wsL_law) ({ frames := 4, cells := 0, slots := 0, locals := 96 }) (va_Pc [.ref xdy, .ref bno, .int a0, .int a1] (fun U => U.heap.size = sz ∧ va_P (dC, dI) vwCl [(eO5a xdy drw dfr dsh dto dmo dwi), (eA4 drw cDr 12 (fun k => some (Rw k))), (eA1 (Rw 0) cRr 313 (fRw 0)), (eA1 (Rw 1) cRr 313 (fRw 1)), (eA1 (Rw 2) cRr 313 (fRw 2)), (eA1 (Rw 3) cRr 313 (fRw 3)), (eA1 (Rw 4) cRr 313 (fRw 4)), (eA1 (Rw 5) cRr 313 (fRw 5)), (eA1 (Rw 6) cRr 313 (fRw 6)), (eA1 (Rw 7) cRr 313 (fRw 7)), (eA1 (Rw 8) cRr 313 (fRw 8)), (eA1 (Rw 9) cRr 313 (fRw 9)), (eA1 (Rw 10) cRr 313 (fRw 10)), (eA1 (Rw 11) cRr 313 (fRw 11)), (eA0 dsh cSh 12 fSh), (eA0 dto cTp 12 fTp), (eO6a bno ns nsa nfa nza), (eA0 nsa cNs 12 fNs), (eA0 nfa cNf 96 fNf), (eA0 nza cNz 96 fNz)] U.heap ∧ va_K (dC, dI) vwCl [(cDr, .array .long), (cRr, .long), (cRr, .long), (cRr, .long), (cRr, .long), (cRr, .long), (cRr, .long), (cRr, .long), (cRr, .long), (cRr, .long), (cRr, .long), (cRr, .long), (cRr, .long), (cSh, .int), (cTp, .int), (cNs, .int), (cNf, .int), (cNz, .int)] U ∧ va_D (fun _ => True) [(eO5a xdy drw dfr dsh dto dmo dwi), (eA4 drw cDr 12 (fun k => some (Rw k))), (eA1 (Rw 0) cRr 313 (fRw 0)), (eA1 (Rw 1) cRr 313 (fRw 1)), (eA1 (Rw 2) cRr 313 (fRw 2)), (eA1 (Rw 3) cRr 313 (fRw 3)), (eA1 (Rw 4) cRr 313 (fRw 4)), (eA1 (Rw 5) cRr 313 (fRw 5)), (eA1 (Rw 6) cRr 313 (fRw 6)), (eA1 (Rw 7) cRr 313 (fRw 7)), (eA1 (Rw 8) cRr 313 (fRw 8)), (eA1 (Rw 9) cRr 313 (fRw 9)), (eA1 (Rw 10) cRr 313 (fRw 10)), (eA1 (Rw 11) cRr 313 (fRw 11)), (eA0 dsh cSh 12 fSh), (eA0 dto cTp 12 fTp), (eO6a bno ns nsa nfa nza), (eA0 nsa cNs 12 fNs), (eA0 nfa cNf 96 fNf), (eA0 nza cNz 96 fNz)])) (va_Qi (fun (r : Int32) (u : (Nat → Int32) × (Nat → Int32)) => r = (fd_tellTogether fRw fSh fTp ns fNs fNf fNz a0 a1).1 ∧ u = (fd_tellTogether fRw fSh fTp ns fNs fNf fNz a0 a1).2) (fun (u : (Nat → Int32) × (Nat → Int32)) t => va_P (dC, dI) vwCl [(eO5a xdy drw dfr dsh dto dmo dwi), (eA4 drw cDr 12 (fun k => some (Rw k))), (eA1 (Rw 0) cRr 313 (fRw 0)), (eA1 (Rw 1) cRr 313 (fRw 1)), (eA1 (Rw 2) cRr 313 (fRw 2)), (eA1 (Rw 3) cRr 313 (fRw 3)), (eA1 (Rw 4) cRr 313 (fRw 4)), (eA1 (Rw 5) cRr 313 (fRw 5)), (eA1 (Rw 6) cRr 313 (fRw 6)), (eA1 (Rw 7) cRr 313 (fRw 7)), (eA1 (Rw 8) cRr 313 (fRw 8)), (eA1 (Rw 9) cRr 313 (fRw 9)), (eA1 (Rw 10) cRr 313 (fRw 10)), (eA1 (Rw 11) cRr 313 (fRw 11)), (eA0 dsh cSh 12 u.1), (eA0 dto cTp 12 u.2), (eO6a bno ns nsa nfa nza), (eA0 nsa cNs 12 fNs), (eA0 nfa cNf 96 fNf), (eA0 nza cNz 96 fNz)] t.heap ∧ va_K (dC, dI) vwCl [] t ∧ va_D (va_A [(eO5a xdy drw dfr dsh dto dmo dwi), (eA4 drw cDr 12 (fun k => some (Rw k))), (eA1 (Rw 0) cRr 313 (fRw 0)), (eA1 (Rw 1) cRr 313 (fRw 1)), (eA1 (Rw 2) cRr 313 (fRw 2)), (eA1 (Rw 3) cRr 313 (fRw 3)), (eA1 (Rw 4) cRr 313 (fRw 4)), (eA1 (Rw 5) cRr 313 (fRw 5)), (eA1 (Rw 6) cRr 313 (fRw 6)), (eA1 (Rw 7) cRr 313 (fRw 7)), (eA1 (Rw 8) cRr 313 (fRw 8)), (eA1 (Rw 9) cRr 313 (fRw 9)), (eA1 (Rw 10) cRr 313 (fRw 10)), (eA1 (Rw 11) cRr 313 (fRw 11)), (eA0 dsh cSh 12 fSh), (eA0 dto cTp 12 fTp), (eO6a bno ns nsa nfa nza), (eA0 nsa cNs 12 fNs), (eA0 nfa cNf 96 fNf), (eA0 nza cNz 96 fNz)] sz) [(eO5a xdy drw dfr dsh dto dmo dwi), (eA4 drw cDr 12 (fun k => some (Rw k))), (eA1 (Rw 0) cRr 313 (fRw 0)), (eA1 (Rw 1) cRr 313 (fRw 1)), (eA1 (Rw 2) cRr 313 (fRw 2)), (eA1 (Rw 3) cRr 313 (fRw 3)), (eA1 (Rw 4) cRr 313 (fRw 4)), (eA1 (Rw 5) cRr 313 (fRw 5)), (eA1 (Rw 6) cRr 313 (fRw 6)), (eA1 (Rw 7) cRr 313 (fRw 7)), (eA1 (Rw 8) cRr 313 (fRw 8)), (eA1 (Rw 9) cRr 313 (fRw 9)), (eA1 (Rw 10) cRr 313 (fRw 10)), (eA1 (Rw 11) cRr 313 (fRw 11)), (eA0 dsh cSh 12 u.1), (eA0 dto cTp 12 u.2), (eO6a bno ns nsa nfa nza), (eA0 nsa cNs 12 fNs), (eA0 nfa cNf 96 fNf), (eA0 nza cNz 96 fNz)]) (va_A [(eO5a xdy drw dfr dsh dto dmo dwi), (eA4 drw cDr 12 (fun k => some (Rw k))), (eA1 (Rw 0) cRr 313 (fRw 0)), (eA1 (Rw 1) cRr 313 (fRw 1)), (eA1 (Rw 2) cRr 313 (fRw 2)), (eA1 (Rw 3) cRr 313 (fRw 3)), (eA1 (Rw 4) cRr 313 (fRw 4)), (eA1 (Rw 5) cRr 313 (fRw 5)), (eA1 (Rw 6) cRr 313 (fRw 6)), (eA1 (Rw 7) cRr 313 (fRw 7)), (eA1 (Rw 8) cRr 313 (fRw 8)), (eA1 (Rw 9) cRr 313 (fRw 9)), (eA1 (Rw 10) cRr 313 (fRw 10)), (eA1 (Rw 11) cRr 313 (fRw 11)), (eA0 dsh cSh 12 fSh), (eA0 dto cTp 12 fTp), (eO6a bno ns nsa nfa nza), (eA0 nsa cNs 12 fNs), (eA0 nfa cNf 96 fNf), (eA0 nza cNz 96 fNz)] sz)) 0 0 (va_A [(eO5a xdy drw dfr dsh dto dmo dwi), (eA4 drw cDr 12 (fun k => some (Rw k))), (eA1 (Rw 0) cRr 313 (fRw 0)), (eA1 (Rw 1) cRr 313 (fRw 1)), (eA1 (Rw 2) cRr 313 (fRw 2)), (eA1 (Rw 3) cRr 313 (fRw 3)), (eA1 (Rw 4) cRr 313 (fRw 4)), (eA1 (Rw 5) cRr 313 (fRw 5)), (eA1 (Rw 6) cRr 313 (fRw 6)), (eA1 (Rw 7) cRr 313 (fRw 7)), (eA1 (Rw 8) cRr 313 (fRw 8)), (eA1 (Rw 9) cRr 313 (fRw 9)), (eA1 (Rw 10) cRr 313 (fRw 10)), (eA1 (Rw 11) cRr 313 (fRw 11)), (eA0 dsh cSh 12 fSh), (eA0 dto cTp 12 fTp), (eO6a bno ns nsa nfa nza), (eA0 nsa cNs 12 fNs), (eA0 nfa cNf 96 fNf), (eA0 nza cNz 96 fNz)] sz) := by
  refine Met.ofW (cc := cX5_tellTogether) (maxL := 4) (ret := (some .int)) (by decide) rfl ?_
  intro p e s m args below meth c s₁ B hml hv
  obtain ⟨rfl, hsz, hP, hK, hD0⟩ := hv
  have hx := B.exec
  have hb := B.bytes
  have hr := B.returns
  have hts := atoms_spec (ws := Cond.code yX5_tellTogether cX5_tellTogether 4 (some .int) :: wsL_law) B.pre
  have htw : ∀ w ∈ wsL_law, w.before _ s = true := fun w h => hts w (List.mem_cons_of_mem _ h)
  have hown : s.vm.findClass RX5 = some m.cls := findClass_of_methodNamed B.named
  have hlocks := B.notSynchronized
  subst hsz
  have hD := hD0.self (sz := s.heap.size)
  generalize hAe : va_A [(eO5a xdy drw dfr dsh dto dmo dwi), (eA4 drw cDr 12 (fun k => some (Rw k))), (eA1 (Rw 0) cRr 313 (fRw 0)), (eA1 (Rw 1) cRr 313 (fRw 1)), (eA1 (Rw 2) cRr 313 (fRw 2)), (eA1 (Rw 3) cRr 313 (fRw 3)), (eA1 (Rw 4) cRr 313 (fRw 4)), (eA1 (Rw 5) cRr 313 (fRw 5)), (eA1 (Rw 6) cRr 313 (fRw 6)), (eA1 (Rw 7) cRr 313 (fRw 7)), (eA1 (Rw 8) cRr 313 (fRw 8)), (eA1 (Rw 9) cRr 313 (fRw 9)), (eA1 (Rw 10) cRr 313 (fRw 10)), (eA1 (Rw 11) cRr 313 (fRw 11)), (eA0 dsh cSh 12 fSh), (eA0 dto cTp 12 fTp), (eO6a bno ns nsa nfa nza), (eA0 nsa cNs 12 fNs), (eA0 nfa cNf 96 fNf), (eA0 nza cNz 96 fNz)] s.heap.size = A at hD ⊢
  have hA : ∀ q : Nat, s.heap.size ≤ q → A q := fun q h => by rw [← hAe]; exact Or.inr h
  obtain ⟨H, rH⟩ : ∃ z : Heap, z = s.heap := ⟨_, rfl⟩
  have hS : va_S A s.heap H [] := by rw [rH]; exact va_S.rf
  have hP : va_P (dC, dI) vwCl [(eO5a xdy drw dfr dsh dto dmo dwi), (eA4 drw cDr 12 (fun k => some (Rw k))), (eA1 (Rw 0) cRr 313 (fRw 0)), (eA1 (Rw 1) cRr 313 (fRw 1)), (eA1 (Rw 2) cRr 313 (fRw 2)), (eA1 (Rw 3) cRr 313 (fRw 3)), (eA1 (Rw 4) cRr 313 (fRw 4)), (eA1 (Rw 5) cRr 313 (fRw 5)), (eA1 (Rw 6) cRr 313 (fRw 6)), (eA1 (Rw 7) cRr 313 (fRw 7)), (eA1 (Rw 8) cRr 313 (fRw 8)), (eA1 (Rw 9) cRr 313 (fRw 9)), (eA1 (Rw 10) cRr 313 (fRw 10)), (eA1 (Rw 11) cRr 313 (fRw 11)), (eA0 dsh cSh 12 fSh), (eA0 dto cTp 12 fTp), (eO6a bno ns nsa nfa nza), (eA0 nsa cNs 12 fNs), (eA0 nfa cNf 96 fNf), (eA0 nza cNz 96 fNz)] H := by rw [rH]; exact hP
  rw [← rH]
  have hl := lv_entry ([.ref xdy, .ref bno, .int a0, .int a1]) (n := 4) (Nat.le_of_ble_eq_true rfl)
  rw [lg_entry_eq]
  generalize (lg_sl ([.ref xdy, .ref bno, .int a0, .int a1]) ++ List.replicate (4 - (lg_sl ([.ref xdy, .ref bno, .int a0, .int a1])).length) Slot.unset).toArray = ls at hl ⊢
  have hl : lv_has ls 4 [(0, .ref xdy), (1, .ref bno), (2, .int a0), (3, .int a1)] := hl
  refine lv_aload_n hx hb dX5_tellTogether_0 rfl (lv_at hl 0 rfl) ?_
  refine lv_aload_n hx hb dX5_tellTogether_1 rfl (lv_at hl 1 rfl) ?_
  refine lv_iconst (v := 1) hx hb dX5_tellTogether_2 (by decide) ?_
  refine lv_aload_n hx hb dX5_tellTogether_3 rfl (lv_at hl 1 rfl) ?_
  refine va_get (D := (dC, dI)) (ci := 6) (v := .int ns) (C := RX6) (T := TX6) (N := 4) hx hb htw inlX6 hown hK hP 16 rfl rfl 0 (by decide) (htw _ (ck_54 _ (List.mem_of_getElem? (i := 10) rfl))) (fun _ h9 => h9) rfl dX5_tellTogether_4 ?_
  refine lv_ishl hx hb dX5_tellTogether_7 ?_
  refine lv_iconst (v := 1) hx hb dX5_tellTogether_8 (by decide) ?_
  refine lv_isub hx hb dX5_tellTogether_9 ?_
  obtain ⟨hPc, hDc, hFc, hCc⟩ := zsub3 (ws' := [(eO5a xdy drw dfr dsh dto dmo dwi), (eA0 dsh cSh 12 fSh), (eA0 dto cTp 12 fTp), (eO6a bno ns nsa nfa nza), (eA0 nsa cNs 12 fNs), (eA0 nfa cNf 96 fNf), (eA0 nza cNz 96 fNz)]) hP hD hS hA [0, 14, 15, 16, 17, 18, 19] (by decide) rfl
  have hKc := hK.sub (tys' := [(cSh, .int), (cTp, .int), (cNs, .int), (cNf, .int), (cNz, .int)]) [13, 14, 15, 16, 17] rfl
  refine va_calli (va_runV (As := [.ref bno, .int ((1 <<< (ns &&& 31)) - 1)]) (rest := []) ⟨hx, hb, hml, hown, htw⟩ (gd_layOut l dC dI xdy drw dfr dsh dto dmo dwi cSh fSh cTp fTp bno ns nsa nfa nza cNs fNs cNf fNf cNz fNz ((1 <<< (ns &&& 31)) - 1) H.size) (cwV 2 htw (xg_V (ck_57 _ (List.mem_of_getElem? (i := 7) rfl)) (ck_57 _ (List.mem_of_getElem? (i := 8) rfl)) (ck_57 _ (List.mem_of_getElem? (i := 9) rfl)) (ck_2 _ (List.mem_of_getElem? (i := 1) rfl)) (ck_57 _ (List.mem_of_getElem? (i := 10) rfl))) rfl rfl rfl (by exact ⟨rfl, hdc_10.1, hdc_10.2, hdd_27⟩) ⟨Nat.le_of_ble_eq_true rfl, Nat.le_of_ble_eq_true rfl⟩) ⟨fun a U g mk q => by obtain ⟨q0, q1, qP, qK, qD⟩ := q; exact ⟨q0, q1, qP, va_K.moved (u := U) (U := U.calling g mk a) (Vm.Alike.refl U.vm) qK, qD⟩, va_recv hKc hPc (ci := 5) (q0 := 0) rfl rfl, fun U hU hW => ⟨rfl, by rw [hU], by rw [hU]; exact hPc, va_K.moved hW.alike hKc, hDc.weaken (fun _ _ _ _ => trivial)⟩⟩ rfl rfl hl.1 rfl (lv_room (Nat.le_of_ble_eq_true rfl)) dX5_tellTogether_10 ⟨Nat.le_of_ble_eq_true rfl, Nat.le_of_ble_eq_true rfl⟩) hS (fun q _ h => hFc q h) hFc (fun r_1 u_2 t H1 locs ht hvm hw hB hz1 hk1 hS => ?_)
  try dsimp only at hw
  obtain ⟨hP1, hK1, hD1⟩ := hB
  rw [ht] at hP1
  have hK1 := va_K.moved hvm.symm hK1
  have hK1 : va_K (dC, dI) vwCl [] s := hK1
  obtain ⟨hP, hD⟩ := va_join (wr := [(eA4 drw cDr 12 (fun k => some (Rw k))), (eA1 (Rw 0) cRr 313 (fRw 0)), (eA1 (Rw 1) cRr 313 (fRw 1)), (eA1 (Rw 2) cRr 313 (fRw 2)), (eA1 (Rw 3) cRr 313 (fRw 3)), (eA1 (Rw 4) cRr 313 (fRw 4)), (eA1 (Rw 5) cRr 313 (fRw 5)), (eA1 (Rw 6) cRr 313 (fRw 6)), (eA1 (Rw 7) cRr 313 (fRw 7)), (eA1 (Rw 8) cRr 313 (fRw 8)), (eA1 (Rw 9) cRr 313 (fRw 9)), (eA1 (Rw 10) cRr 313 (fRw 10)), (eA1 (Rw 11) cRr 313 (fRw 11))]) (w1 := [(eO5a xdy drw dfr dsh dto dmo dwi), (eA0 dsh cSh 12 u_2.1), (eA0 dto cTp 12 u_2.2), (eO6a bno ns nsa nfa nza), (eA0 nsa cNs 12 fNs), (eA0 nfa cNf 96 fNf), (eA0 nza cNz 96 fNz)]) hP hD [0, 14, 15, 16, 17, 18, 19] [1, 2, 3, 4, 5, 6, 7, 8, 9, 10, 11, 12, 13] hCc rfl (by decide +kernel) (by decide +kernel) hk1 hFc hP1 hD1
  generalize H1 = H at hP hS ⊢
  obtain ⟨hP, hD⟩ := zre [(eA4 drw cDr 12 (fun k => some (Rw k))), (eA1 (Rw 0) cRr 313 (fRw 0)), (eA1 (Rw 1) cRr 313 (fRw 1)), (eA1 (Rw 2) cRr 313 (fRw 2)), (eA1 (Rw 3) cRr 313 (fRw 3)), (eA1 (Rw 4) cRr 313 (fRw 4)), (eA1 (Rw 5) cRr 313 (fRw 5)), (eA1 (Rw 6) cRr 313 (fRw 6)), (eA1 (Rw 7) cRr 313 (fRw 7)), (eA1 (Rw 8) cRr 313 (fRw 8)), (eA1 (Rw 9) cRr 313 (fRw 9)), (eA1 (Rw 10) cRr 313 (fRw 10)), (eA1 (Rw 11) cRr 313 (fRw 11)), (eO5a xdy drw dfr dsh dto dmo dwi), (eA0 dsh cSh 12 u_2.1), (eA0 dto cTp 12 u_2.2), (eO6a bno ns nsa nfa nza), (eA0 nsa cNs 12 fNs), (eA0 nfa cNf 96 fNf), (eA0 nza cNz 96 fNz)] hP hD rfl
  refine W.widen (k := 0) (n := 0) (by omega) (by omega) ?_
  obtain ⟨X_5, hX_5⟩ : ∃ X9 : Int32 × (Nat → Int32) × (Nat → Int32), X9 = (fd_layOut fSh fTp ns fNs fNf fNz ((1 <<< (ns &&& 31)) - 1)) := ⟨_, rfl⟩
  have hq_r_1 : r_1 = X_5.1 := by rw [hX_5]; exact hw.1
  have hq_u_2 : u_2 = X_5.2 := by rw [hX_5]; exact hw.2
  refine lv_pop hx hb dX5_tellTogether_13 rfl ?_
  refine lv_iload_n hx hb dX5_tellTogether_14 rfl (lv_at hl 2 rfl) ?_
  refine lv_if_lt (tgt := 35) hx hb dX5_tellTogether_15 (by decide) (fun c_6 => ?_) (fun c_6 => ?_)
  · refine lv_iload_n hx hb dX5_tellTogether_35 rfl (lv_at hl 3 rfl) ?_
    refine lv_if_ne (tgt := 43) hx hb dX5_tellTogether_36 (by decide) (fun c_7 => ?_) (fun c_7 => ?_)
    · refine lv_iconst (v := (-1)) hx hb dX5_tellTogether_43 (by decide) ?_
      refine W.widen (k := 0) (n := 0) (by omega) (by omega) ?_
      obtain ⟨hP9, hD9⟩ := zsub2 (ws' := [(eO5a xdy drw dfr dsh dto dmo dwi), (eA4 drw cDr 12 (fun k => some (Rw k))), (eA1 (Rw 0) cRr 313 (fRw 0)), (eA1 (Rw 1) cRr 313 (fRw 1)), (eA1 (Rw 2) cRr 313 (fRw 2)), (eA1 (Rw 3) cRr 313 (fRw 3)), (eA1 (Rw 4) cRr 313 (fRw 4)), (eA1 (Rw 5) cRr 313 (fRw 5)), (eA1 (Rw 6) cRr 313 (fRw 6)), (eA1 (Rw 7) cRr 313 (fRw 7)), (eA1 (Rw 8) cRr 313 (fRw 8)), (eA1 (Rw 9) cRr 313 (fRw 9)), (eA1 (Rw 10) cRr 313 (fRw 10)), (eA1 (Rw 11) cRr 313 (fRw 11)), (eA0 dsh cSh 12 u_2.1), (eA0 dto cTp 12 u_2.2), (eO6a bno ns nsa nfa nza), (eA0 nsa cNs 12 fNs), (eA0 nfa cNf 96 fNf), (eA0 nza cNz 96 fNz)]) hP hD [13, 0, 1, 2, 3, 4, 5, 6, 7, 8, 9, 10, 11, 12, 14, 15, 16, 17, 18, 19] (by decide +kernel) rfl
      have hK9 := hK.sub (tys' := []) [] rfl
      exact W.iret (v := (-1)) hx hb hr (fun t ht hW => ⟨⟨(-1), (u_2.1, u_2.2), rfl, ((fun e9 => ⟨by rw [e9], by rw [e9]⟩ : fd_tellTogether fRw fSh fTp ns fNs fNf fNz a0 a1 = ((-1 : Int32), u_2.1, u_2.2) → _) ((by rw [fd_tellTogether]; (try rw [← hX_5]); (try rw [xL_eq]); (try rw [← hq_r_1]); (try rw [← hq_u_2]); (try rw [if_pos c_6]); (try rw [if_neg c_7]); try rfl))), by rw [ht]; exact hP9, va_K.moved hW.alike hK9, hD9⟩, hS.F ht⟩) hS.2.2 dX5_tellTogether_44
    · refine lv_iconst (v := 0) hx hb dX5_tellTogether_39 (by decide) ?_
      refine lv_goto (tgt := 44) hx hb dX5_tellTogether_40 (by decide) ?_
      refine W.widen (k := 0) (n := 0) (by omega) (by omega) ?_
      obtain ⟨hP9, hD9⟩ := zsub2 (ws' := [(eO5a xdy drw dfr dsh dto dmo dwi), (eA4 drw cDr 12 (fun k => some (Rw k))), (eA1 (Rw 0) cRr 313 (fRw 0)), (eA1 (Rw 1) cRr 313 (fRw 1)), (eA1 (Rw 2) cRr 313 (fRw 2)), (eA1 (Rw 3) cRr 313 (fRw 3)), (eA1 (Rw 4) cRr 313 (fRw 4)), (eA1 (Rw 5) cRr 313 (fRw 5)), (eA1 (Rw 6) cRr 313 (fRw 6)), (eA1 (Rw 7) cRr 313 (fRw 7)), (eA1 (Rw 8) cRr 313 (fRw 8)), (eA1 (Rw 9) cRr 313 (fRw 9)), (eA1 (Rw 10) cRr 313 (fRw 10)), (eA1 (Rw 11) cRr 313 (fRw 11)), (eA0 dsh cSh 12 u_2.1), (eA0 dto cTp 12 u_2.2), (eO6a bno ns nsa nfa nza), (eA0 nsa cNs 12 fNs), (eA0 nfa cNf 96 fNf), (eA0 nza cNz 96 fNz)]) hP hD [13, 0, 1, 2, 3, 4, 5, 6, 7, 8, 9, 10, 11, 12, 14, 15, 16, 17, 18, 19] (by decide +kernel) rfl
      have hK9 := hK.sub (tys' := []) [] rfl
      exact W.iret (v := 0) hx hb hr (fun t ht hW => ⟨⟨0, (u_2.1, u_2.2), rfl, ((fun e9 => ⟨by rw [e9], by rw [e9]⟩ : fd_tellTogether fRw fSh fTp ns fNs fNf fNz a0 a1 = ((0 : Int32), u_2.1, u_2.2) → _) ((by rw [fd_tellTogether]; (try rw [← hX_5]); (try rw [xL_eq]); (try rw [← hq_r_1]); (try rw [← hq_u_2]); (try rw [if_pos c_6]); (try rw [if_pos c_7]); try rfl))), by rw [ht]; exact hP9, va_K.moved hW.alike hK9, hD9⟩, hS.F ht⟩) hS.2.2 dX5_tellTogether_44
  · refine lv_iload_n hx hb dX5_tellTogether_18 rfl (lv_at hl 2 rfl) ?_
    refine lv_bipush (v := 12) hx hb dX5_tellTogether_19 (by decide) ?_
    refine lv_icmp_ge (tgt := 35) hx hb dX5_tellTogether_21 (by decide) (fun c_8 => ?_) (fun c_8 => ?_)
    · refine lv_iload_n hx hb dX5_tellTogether_35 rfl (lv_at hl 3 rfl) ?_
      refine lv_if_ne (tgt := 43) hx hb dX5_tellTogether_36 (by decide) (fun c_9 => ?_) (fun c_9 => ?_)
      · refine lv_iconst (v := (-1)) hx hb dX5_tellTogether_43 (by decide) ?_
        refine W.widen (k := 0) (n := 0) (by omega) (by omega) ?_
        obtain ⟨hP9, hD9⟩ := zsub2 (ws' := [(eO5a xdy drw dfr dsh dto dmo dwi), (eA4 drw cDr 12 (fun k => some (Rw k))), (eA1 (Rw 0) cRr 313 (fRw 0)), (eA1 (Rw 1) cRr 313 (fRw 1)), (eA1 (Rw 2) cRr 313 (fRw 2)), (eA1 (Rw 3) cRr 313 (fRw 3)), (eA1 (Rw 4) cRr 313 (fRw 4)), (eA1 (Rw 5) cRr 313 (fRw 5)), (eA1 (Rw 6) cRr 313 (fRw 6)), (eA1 (Rw 7) cRr 313 (fRw 7)), (eA1 (Rw 8) cRr 313 (fRw 8)), (eA1 (Rw 9) cRr 313 (fRw 9)), (eA1 (Rw 10) cRr 313 (fRw 10)), (eA1 (Rw 11) cRr 313 (fRw 11)), (eA0 dsh cSh 12 u_2.1), (eA0 dto cTp 12 u_2.2), (eO6a bno ns nsa nfa nza), (eA0 nsa cNs 12 fNs), (eA0 nfa cNf 96 fNf), (eA0 nza cNz 96 fNz)]) hP hD [13, 0, 1, 2, 3, 4, 5, 6, 7, 8, 9, 10, 11, 12, 14, 15, 16, 17, 18, 19] (by decide +kernel) rfl
        have hK9 := hK.sub (tys' := []) [] rfl
        exact W.iret (v := (-1)) hx hb hr (fun t ht hW => ⟨⟨(-1), (u_2.1, u_2.2), rfl, ((fun e9 => ⟨by rw [e9], by rw [e9]⟩ : fd_tellTogether fRw fSh fTp ns fNs fNf fNz a0 a1 = ((-1 : Int32), u_2.1, u_2.2) → _) ((by rw [fd_tellTogether]; (try rw [← hX_5]); (try rw [xL_eq]); (try rw [← hq_r_1]); (try rw [← hq_u_2]); (try rw [if_neg c_6]); (try rw [if_pos c_8]); (try rw [if_neg c_9]); try rfl))), by rw [ht]; exact hP9, va_K.moved hW.alike hK9, hD9⟩, hS.F ht⟩) hS.2.2 dX5_tellTogether_44
      · refine lv_iconst (v := 0) hx hb dX5_tellTogether_39 (by decide) ?_
        refine lv_goto (tgt := 44) hx hb dX5_tellTogether_40 (by decide) ?_
        refine W.widen (k := 0) (n := 0) (by omega) (by omega) ?_
        obtain ⟨hP9, hD9⟩ := zsub2 (ws' := [(eO5a xdy drw dfr dsh dto dmo dwi), (eA4 drw cDr 12 (fun k => some (Rw k))), (eA1 (Rw 0) cRr 313 (fRw 0)), (eA1 (Rw 1) cRr 313 (fRw 1)), (eA1 (Rw 2) cRr 313 (fRw 2)), (eA1 (Rw 3) cRr 313 (fRw 3)), (eA1 (Rw 4) cRr 313 (fRw 4)), (eA1 (Rw 5) cRr 313 (fRw 5)), (eA1 (Rw 6) cRr 313 (fRw 6)), (eA1 (Rw 7) cRr 313 (fRw 7)), (eA1 (Rw 8) cRr 313 (fRw 8)), (eA1 (Rw 9) cRr 313 (fRw 9)), (eA1 (Rw 10) cRr 313 (fRw 10)), (eA1 (Rw 11) cRr 313 (fRw 11)), (eA0 dsh cSh 12 u_2.1), (eA0 dto cTp 12 u_2.2), (eO6a bno ns nsa nfa nza), (eA0 nsa cNs 12 fNs), (eA0 nfa cNf 96 fNf), (eA0 nza cNz 96 fNz)]) hP hD [13, 0, 1, 2, 3, 4, 5, 6, 7, 8, 9, 10, 11, 12, 14, 15, 16, 17, 18, 19] (by decide +kernel) rfl
        have hK9 := hK.sub (tys' := []) [] rfl
        exact W.iret (v := 0) hx hb hr (fun t ht hW => ⟨⟨0, (u_2.1, u_2.2), rfl, ((fun e9 => ⟨by rw [e9], by rw [e9]⟩ : fd_tellTogether fRw fSh fTp ns fNs fNf fNz a0 a1 = ((0 : Int32), u_2.1, u_2.2) → _) ((by rw [fd_tellTogether]; (try rw [← hX_5]); (try rw [xL_eq]); (try rw [← hq_r_1]); (try rw [← hq_u_2]); (try rw [if_neg c_6]); (try rw [if_pos c_8]); (try rw [if_pos c_9]); try rfl))), by rw [ht]; exact hP9, va_K.moved hW.alike hK9, hD9⟩, hS.F ht⟩) hS.2.2 dX5_tellTogether_44
    · refine lv_aload_n hx hb dX5_tellTogether_24 rfl (lv_at hl 0 rfl) ?_
      refine lv_aload_n hx hb dX5_tellTogether_25 rfl (lv_at hl 1 rfl) ?_
      refine va_get (D := (dC, dI)) (ci := 6) (v := .int ns) (C := RX6) (T := TX6) (N := 4) hx hb htw inlX6 hown hK hP 16 rfl rfl 0 (by decide) (htw _ (ck_54 _ (List.mem_of_getElem? (i := 10) rfl))) (fun _ h9 => h9) rfl dX5_tellTogether_26 ?_
      have hPc := hP.sub (ws' := [(eO5a xdy drw dfr dsh dto dmo dwi), (eA4 drw cDr 12 (fun k => some (Rw k))), (eA1 (Rw 0) cRr 313 (fRw 0)), (eA1 (Rw 1) cRr 313 (fRw 1)), (eA1 (Rw 2) cRr 313 (fRw 2)), (eA1 (Rw 3) cRr 313 (fRw 3)), (eA1 (Rw 4) cRr 313 (fRw 4)), (eA1 (Rw 5) cRr 313 (fRw 5)), (eA1 (Rw 6) cRr 313 (fRw 6)), (eA1 (Rw 7) cRr 313 (fRw 7)), (eA1 (Rw 8) cRr 313 (fRw 8)), (eA1 (Rw 9) cRr 313 (fRw 9)), (eA1 (Rw 10) cRr 313 (fRw 10)), (eA1 (Rw 11) cRr 313 (fRw 11)), (eA0 dsh cSh 12 u_2.1), (eA0 dto cTp 12 u_2.2)]) [13, 0, 1, 2, 3, 4, 5, 6, 7, 8, 9, 10, 11, 12, 14, 15] rfl
      have hKc := hK.sub (tys' := [(cDr, .array .long), (cRr, .long), (cRr, .long), (cRr, .long), (cRr, .long), (cRr, .long), (cRr, .long), (cRr, .long), (cRr, .long), (cRr, .long), (cRr, .long), (cRr, .long), (cRr, .long), (cSh, .int), (cTp, .int)]) [0, 1, 1, 1, 1, 1, 1, 1, 1, 1, 1, 1, 1, 13, 14] rfl
      refine vp_callSi (W.runV (As := [.int ns]) (rest := []) ⟨hx, hb, hml, hown, htw⟩ (gd_allHold l dC dI xdy drw dfr dsh dto dmo dwi cDr Rw cRr fRw cSh u_2.1 cTp u_2.2 ns) (cwV 1 htw (xg_V (ck_60 _ (List.mem_of_getElem? (i := 3) rfl)) (ck_60 _ (List.mem_of_getElem? (i := 4) rfl)) (ck_60 _ (List.mem_of_getElem? (i := 5) rfl)) (ck_2 _ (List.mem_of_getElem? (i := 1) rfl)) (ck_60 _ (List.mem_of_getElem? (i := 6) rfl))) rfl rfl rfl (by exact ⟨rfl, hdc_10.1, hdc_10.2, hdd_26⟩) ⟨Nat.le_of_ble_eq_true rfl, Nat.le_of_ble_eq_true rfl⟩) ⟨fun a U g mk q => by obtain ⟨q0, qP, qK⟩ := q; exact ⟨q0, qP, va_K.moved (u := U) (U := U.calling g mk a) (Vm.Alike.refl U.vm) qK⟩, va_recv hKc hPc (ci := 5) (q0 := 0) rfl rfl, fun U hU hW => ⟨rfl, by rw [hU]; exact hPc, va_K.moved hW.alike hKc⟩⟩ rfl rfl hl.1 rfl (lv_room (Nat.le_of_ble_eq_true rfl)) dX5_tellTogether_29 ⟨Nat.le_of_ble_eq_true rfl, Nat.le_of_ble_eq_true rfl⟩) (fun r_10 hw => ?_)
      try dsimp only at hw
      have hq_r_10 : r_10 = (fd_allHold fRw u_2.1 u_2.2 ns) := hw
      refine lv_if_ne (tgt := 45) hx hb dX5_tellTogether_32 (by decide) (fun c_11 => ?_) (fun c_11 => ?_)
      · refine lv_aload_n hx hb dX5_tellTogether_45 rfl (lv_at hl 0 rfl) ?_
        refine lv_aload_n hx hb dX5_tellTogether_46 rfl (lv_at hl 0 rfl) ?_
        refine lv_aload_n hx hb dX5_tellTogether_47 rfl (lv_at hl 0 rfl) ?_
        refine va_get (D := (dC, dI)) (ci := 5) (v := .ref dto) (C := RX5) (T := TX5) (N := 6) hx hb htw inlX5 hown hK hP 13 rfl rfl 3 (by decide) (htw _ (ck_8 _ (List.mem_of_getElem? (i := 8) rfl))) (fun _ h9 => h9) rfl dX5_tellTogether_48 ?_
        refine lv_iload_n hx hb dX5_tellTogether_51 rfl (lv_at hl 2 rfl) ?_
        refine va_iald hx hb hK hP 15 14 rfl rfl (xg_inr (N := 12) rfl (gd_tellTogether_s0 (y0 := a0) c_6 c_8).1 (gd_tellTogether_s0 (y0 := a0) c_6 c_8).2) dX5_tellTogether_52 ?_
        refine lv_aload_n hx hb dX5_tellTogether_53 rfl (lv_at hl 1 rfl) ?_
        refine va_get (D := (dC, dI)) (ci := 6) (v := .int ns) (C := RX6) (T := TX6) (N := 4) hx hb htw inlX6 hown hK hP 16 rfl rfl 0 (by decide) (htw _ (ck_54 _ (List.mem_of_getElem? (i := 10) rfl))) (fun _ h9 => h9) rfl dX5_tellTogether_54 ?_
        have hPc := hP.sub (ws' := [(eO5a xdy drw dfr dsh dto dmo dwi), (eA0 dto cTp 12 u_2.2)]) [13, 15] rfl
        have hKc := hK.sub (tys' := [(cTp, .int)]) [14] rfl
        refine vp_callSi (W.runV (As := [.int (u_2.2 a0.toNatClampNeg), .int ns]) (rest := [.ref xdy]) ⟨hx, hb, hml, hown, htw⟩ (gd_treeOf l dC dI xdy drw dfr dsh dto dmo dwi cTp u_2.2 (u_2.2 a0.toNatClampNeg) ns) (cwV 2 htw (xg_V (ck_60 _ (List.mem_of_getElem? (i := 7) rfl)) (ck_60 _ (List.mem_of_getElem? (i := 8) rfl)) (ck_60 _ (List.mem_of_getElem? (i := 9) rfl)) (ck_2 _ (List.mem_of_getElem? (i := 1) rfl)) (ck_60 _ (List.mem_of_getElem? (i := 10) rfl))) rfl rfl rfl (by exact ⟨rfl, hdc_10.1, hdc_10.2, hdd_7⟩) ⟨Nat.le_of_ble_eq_true rfl, Nat.le_of_ble_eq_true rfl⟩) ⟨fun a U g mk q => by obtain ⟨q0, qP, qK⟩ := q; exact ⟨q0, qP, va_K.moved (u := U) (U := U.calling g mk a) (Vm.Alike.refl U.vm) qK⟩, va_recv hKc hPc (ci := 5) (q0 := 0) rfl rfl, fun U hU hW => ⟨rfl, by rw [hU]; exact hPc, va_K.moved hW.alike hKc⟩⟩ rfl rfl hl.1 rfl (lv_room (Nat.le_of_ble_eq_true rfl)) dX5_tellTogether_57 ⟨Nat.le_of_ble_eq_true rfl, Nat.le_of_ble_eq_true rfl⟩) (fun r_12 hw => ?_)
        try dsimp only at hw
        have hq_r_12 : r_12 = (fd_treeOf u_2.2 (u_2.2 a0.toNatClampNeg) ns) := hw
        refine lv_aload_n hx hb dX5_tellTogether_60 rfl (lv_at hl 0 rfl) ?_
        refine va_get (D := (dC, dI)) (ci := 5) (v := .ref dsh) (C := RX5) (T := TX5) (N := 6) hx hb htw inlX5 hown hK hP 13 rfl rfl 2 (by decide) (htw _ (ck_8 _ (List.mem_of_getElem? (i := 7) rfl))) (fun _ h9 => h9) rfl dX5_tellTogether_61 ?_
        refine lv_iload_n hx hb dX5_tellTogether_64 rfl (lv_at hl 2 rfl) ?_
        refine va_iald hx hb hK hP 14 13 rfl rfl (xg_inr (N := 12) rfl (gd_tellTogether_s1 (y0 := a0) c_6 c_8).1 (gd_tellTogether_s1 (y0 := a0) c_6 c_8).2) dX5_tellTogether_65 ?_
        refine lv_iload_n hx hb dX5_tellTogether_66 rfl (lv_at hl 3 rfl) ?_
        have hPc := hP.sub (ws' := [(eO5a xdy drw dfr dsh dto dmo dwi), (eA4 drw cDr 12 (fun k => some (Rw k))), (eA1 (Rw 0) cRr 313 (fRw 0)), (eA1 (Rw 1) cRr 313 (fRw 1)), (eA1 (Rw 2) cRr 313 (fRw 2)), (eA1 (Rw 3) cRr 313 (fRw 3)), (eA1 (Rw 4) cRr 313 (fRw 4)), (eA1 (Rw 5) cRr 313 (fRw 5)), (eA1 (Rw 6) cRr 313 (fRw 6)), (eA1 (Rw 7) cRr 313 (fRw 7)), (eA1 (Rw 8) cRr 313 (fRw 8)), (eA1 (Rw 9) cRr 313 (fRw 9)), (eA1 (Rw 10) cRr 313 (fRw 10)), (eA1 (Rw 11) cRr 313 (fRw 11)), (eA0 dsh cSh 12 u_2.1)]) [13, 0, 1, 2, 3, 4, 5, 6, 7, 8, 9, 10, 11, 12, 14] rfl
        have hKc := hK.sub (tys' := [(cDr, .array .long), (cRr, .long), (cRr, .long), (cRr, .long), (cRr, .long), (cRr, .long), (cRr, .long), (cRr, .long), (cRr, .long), (cRr, .long), (cRr, .long), (cRr, .long), (cRr, .long), (cSh, .int)]) [0, 1, 1, 1, 1, 1, 1, 1, 1, 1, 1, 1, 1, 13] rfl
        refine vp_callSi (W.runV (As := [.int r_12, .int (u_2.1 a0.toNatClampNeg), .int a1]) (rest := []) ⟨hx, hb, hml, hown, htw⟩ (gd_tell l dC dI xdy drw dfr dsh dto dmo dwi cDr Rw cRr fRw cSh u_2.1 r_12 (u_2.1 a0.toNatClampNeg) a1) (cwV 3 htw (xg_V (ck_57 _ (List.mem_of_getElem? (i := 12) rfl)) (ck_57 _ (List.mem_of_getElem? (i := 13) rfl)) (ck_57 _ (List.mem_of_getElem? (i := 14) rfl)) (ck_2 _ (List.mem_of_getElem? (i := 1) rfl)) (ck_57 _ (List.mem_of_getElem? (i := 15) rfl))) rfl rfl rfl (by exact ⟨rfl, hdc_10.1, hdc_10.2, hdd_28⟩) ⟨Nat.le_of_ble_eq_true rfl, Nat.le_of_ble_eq_true rfl⟩) ⟨fun a U g mk q => by obtain ⟨q0, qP, qK⟩ := q; exact ⟨q0, qP, va_K.moved (u := U) (U := U.calling g mk a) (Vm.Alike.refl U.vm) qK⟩, va_recv hKc hPc (ci := 5) (q0 := 0) rfl rfl, fun U hU hW => ⟨rfl, by rw [hU]; exact hPc, va_K.moved hW.alike hKc⟩⟩ rfl rfl hl.1 rfl (lv_room (Nat.le_of_ble_eq_true rfl)) dX5_tellTogether_67 ⟨Nat.le_of_ble_eq_true rfl, Nat.le_of_ble_eq_true rfl⟩) (fun r_13 hw => ?_)
        try dsimp only at hw
        have hq_r_13 : r_13 = (fd_tell fRw u_2.1 r_12 (u_2.1 a0.toNatClampNeg) a1) := hw
        refine W.widen (k := 0) (n := 0) (by omega) (by omega) ?_
        obtain ⟨hP9, hD9⟩ := zsub2 (ws' := [(eO5a xdy drw dfr dsh dto dmo dwi), (eA4 drw cDr 12 (fun k => some (Rw k))), (eA1 (Rw 0) cRr 313 (fRw 0)), (eA1 (Rw 1) cRr 313 (fRw 1)), (eA1 (Rw 2) cRr 313 (fRw 2)), (eA1 (Rw 3) cRr 313 (fRw 3)), (eA1 (Rw 4) cRr 313 (fRw 4)), (eA1 (Rw 5) cRr 313 (fRw 5)), (eA1 (Rw 6) cRr 313 (fRw 6)), (eA1 (Rw 7) cRr 313 (fRw 7)), (eA1 (Rw 8) cRr 313 (fRw 8)), (eA1 (Rw 9) cRr 313 (fRw 9)), (eA1 (Rw 10) cRr 313 (fRw 10)), (eA1 (Rw 11) cRr 313 (fRw 11)), (eA0 dsh cSh 12 u_2.1), (eA0 dto cTp 12 u_2.2), (eO6a bno ns nsa nfa nza), (eA0 nsa cNs 12 fNs), (eA0 nfa cNf 96 fNf), (eA0 nza cNz 96 fNz)]) hP hD [13, 0, 1, 2, 3, 4, 5, 6, 7, 8, 9, 10, 11, 12, 14, 15, 16, 17, 18, 19] (by decide +kernel) rfl
        have hK9 := hK.sub (tys' := []) [] rfl
        exact W.iret (v := r_13) hx hb hr (fun t ht hW => ⟨⟨r_13, (u_2.1, u_2.2), rfl, ((fun e9 => ⟨by rw [e9], by rw [e9]⟩ : fd_tellTogether fRw fSh fTp ns fNs fNf fNz a0 a1 = (r_13, u_2.1, u_2.2) → _) ((by rw [fd_tellTogether]; (try rw [← hX_5]); (try rw [xL_eq]); (try rw [← hq_r_1]); (try rw [← hq_u_2]); (try rw [if_neg c_6]); (try rw [if_neg c_8]); (try rw [← hq_r_10]); (try rw [xL_eq]); (try rw [if_neg c_11]); (try rw [← hq_r_12]); (try rw [xL_eq]); (try rw [← hq_r_13]); (try rw [xL_eq]); try rfl))), by rw [ht]; exact hP9, va_K.moved hW.alike hK9, hD9⟩, hS.F ht⟩) hS.2.2 dX5_tellTogether_70
      · refine lv_iload_n hx hb dX5_tellTogether_35 rfl (lv_at hl 3 rfl) ?_
        refine lv_if_ne (tgt := 43) hx hb dX5_tellTogether_36 (by decide) (fun c_14 => ?_) (fun c_14 => ?_)
        · refine lv_iconst (v := (-1)) hx hb dX5_tellTogether_43 (by decide) ?_
          refine W.widen (k := 0) (n := 0) (by omega) (by omega) ?_
          obtain ⟨hP9, hD9⟩ := zsub2 (ws' := [(eO5a xdy drw dfr dsh dto dmo dwi), (eA4 drw cDr 12 (fun k => some (Rw k))), (eA1 (Rw 0) cRr 313 (fRw 0)), (eA1 (Rw 1) cRr 313 (fRw 1)), (eA1 (Rw 2) cRr 313 (fRw 2)), (eA1 (Rw 3) cRr 313 (fRw 3)), (eA1 (Rw 4) cRr 313 (fRw 4)), (eA1 (Rw 5) cRr 313 (fRw 5)), (eA1 (Rw 6) cRr 313 (fRw 6)), (eA1 (Rw 7) cRr 313 (fRw 7)), (eA1 (Rw 8) cRr 313 (fRw 8)), (eA1 (Rw 9) cRr 313 (fRw 9)), (eA1 (Rw 10) cRr 313 (fRw 10)), (eA1 (Rw 11) cRr 313 (fRw 11)), (eA0 dsh cSh 12 u_2.1), (eA0 dto cTp 12 u_2.2), (eO6a bno ns nsa nfa nza), (eA0 nsa cNs 12 fNs), (eA0 nfa cNf 96 fNf), (eA0 nza cNz 96 fNz)]) hP hD [13, 0, 1, 2, 3, 4, 5, 6, 7, 8, 9, 10, 11, 12, 14, 15, 16, 17, 18, 19] (by decide +kernel) rfl
          have hK9 := hK.sub (tys' := []) [] rfl
          exact W.iret (v := (-1)) hx hb hr (fun t ht hW => ⟨⟨(-1), (u_2.1, u_2.2), rfl, ((fun e9 => ⟨by rw [e9], by rw [e9]⟩ : fd_tellTogether fRw fSh fTp ns fNs fNf fNz a0 a1 = ((-1 : Int32), u_2.1, u_2.2) → _) ((by rw [fd_tellTogether]; (try rw [← hX_5]); (try rw [xL_eq]); (try rw [← hq_r_1]); (try rw [← hq_u_2]); (try rw [if_neg c_6]); (try rw [if_neg c_8]); (try rw [← hq_r_10]); (try rw [xL_eq]); (try rw [if_pos c_11]); (try rw [if_neg c_14]); try rfl))), by rw [ht]; exact hP9, va_K.moved hW.alike hK9, hD9⟩, hS.F ht⟩) hS.2.2 dX5_tellTogether_44
        · refine lv_iconst (v := 0) hx hb dX5_tellTogether_39 (by decide) ?_
          refine lv_goto (tgt := 44) hx hb dX5_tellTogether_40 (by decide) ?_
          refine W.widen (k := 0) (n := 0) (by omega) (by omega) ?_
          obtain ⟨hP9, hD9⟩ := zsub2 (ws' := [(eO5a xdy drw dfr dsh dto dmo dwi), (eA4 drw cDr 12 (fun k => some (Rw k))), (eA1 (Rw 0) cRr 313 (fRw 0)), (eA1 (Rw 1) cRr 313 (fRw 1)), (eA1 (Rw 2) cRr 313 (fRw 2)), (eA1 (Rw 3) cRr 313 (fRw 3)), (eA1 (Rw 4) cRr 313 (fRw 4)), (eA1 (Rw 5) cRr 313 (fRw 5)), (eA1 (Rw 6) cRr 313 (fRw 6)), (eA1 (Rw 7) cRr 313 (fRw 7)), (eA1 (Rw 8) cRr 313 (fRw 8)), (eA1 (Rw 9) cRr 313 (fRw 9)), (eA1 (Rw 10) cRr 313 (fRw 10)), (eA1 (Rw 11) cRr 313 (fRw 11)), (eA0 dsh cSh 12 u_2.1), (eA0 dto cTp 12 u_2.2), (eO6a bno ns nsa nfa nza), (eA0 nsa cNs 12 fNs), (eA0 nfa cNf 96 fNf), (eA0 nza cNz 96 fNz)]) hP hD [13, 0, 1, 2, 3, 4, 5, 6, 7, 8, 9, 10, 11, 12, 14, 15, 16, 17, 18, 19] (by decide +kernel) rfl
          have hK9 := hK.sub (tys' := []) [] rfl
          exact W.iret (v := 0) hx hb hr (fun t ht hW => ⟨⟨0, (u_2.1, u_2.2), rfl, ((fun e9 => ⟨by rw [e9], by rw [e9]⟩ : fd_tellTogether fRw fSh fTp ns fNs fNf fNz a0 a1 = ((0 : Int32), u_2.1, u_2.2) → _) ((by rw [fd_tellTogether]; (try rw [← hX_5]); (try rw [xL_eq]); (try rw [← hq_r_1]); (try rw [← hq_u_2]); (try rw [if_neg c_6]); (try rw [if_neg c_8]); (try rw [← hq_r_10]); (try rw [xL_eq]); (try rw [if_pos c_11]); (try rw [if_pos c_14]); try rfl))), by rw [ht]; exact hP9, va_K.moved hW.alike hK9, hD9⟩, hS.F ht⟩) hS.2.2 dX5_tellTogether_44

def fd_readWish (fNs : Nat → Int32) (fNf : Nat → Int32) (a0 : Int32) : (Int32) × (Int32) × (Int32) × (Int32) × (Int32) := (xL (fn_askedOf fNs fNf a0 (1 : Int32)) (fun r_1 => (xL (fn_askedOf fNs fNf a0 (2 : Int32)) (fun r_2 => (xL (fn_askedOf fNs fNf a0 (3 : Int32)) (fun r_3 => (xL (fn_askedOf fNs fNf a0 (4 : Int32)) (fun r_4 => (xL (fn_askedOf fNs fNf a0 (6 : Int32)) (fun r_5 => (r_1, r_2, r_3, r_4, r_5)))))))))))
theorem dX5_readWish_0 : decode cX5_readWish 0 = .ok (.aload_n 0, 1) := zk_42 (by decide +kernel)
theorem dX5_readWish_1 : decode cX5_readWish 1 = .ok (.getfield 33, 3) := zk_180 (by decide +kernel)
theorem dX5_readWish_4 : decode cX5_readWish 4 = .ok (.aload_n 1, 1) := zk_43 (by decide +kernel)
theorem dX5_readWish_5 : decode cX5_readWish 5 = .ok (.iload_n 2, 1) := zk_28 (by decide +kernel)
theorem dX5_readWish_6 : decode cX5_readWish 6 = .ok (.iconst 1, 1) := zk_4 (by decide +kernel)
theorem dX5_readWish_7 : decode cX5_readWish 7 = .ok (.invokevirtual 109, 3) := zk_182 (by decide +kernel)
theorem dX5_readWish_10 : decode cX5_readWish 10 = .ok (.putfield 112, 3) := zk_181 (by decide +kernel)
theorem dX5_readWish_13 : decode cX5_readWish 13 = .ok (.aload_n 0, 1) := zk_42 (by decide +kernel)
theorem dX5_readWish_14 : decode cX5_readWish 14 = .ok (.getfield 33, 3) := zk_180 (by decide +kernel)
theorem dX5_readWish_17 : decode cX5_readWish 17 = .ok (.aload_n 1, 1) := zk_43 (by decide +kernel)
theorem dX5_readWish_18 : decode cX5_readWish 18 = .ok (.iload_n 2, 1) := zk_28 (by decide +kernel)
theorem dX5_readWish_19 : decode cX5_readWish 19 = .ok (.iconst 2, 1) := zk_5 (by decide +kernel)
theorem dX5_readWish_20 : decode cX5_readWish 20 = .ok (.invokevirtual 109, 3) := zk_182 (by decide +kernel)
theorem dX5_readWish_23 : decode cX5_readWish 23 = .ok (.putfield 115, 3) := zk_181 (by decide +kernel)
theorem dX5_readWish_26 : decode cX5_readWish 26 = .ok (.aload_n 0, 1) := zk_42 (by decide +kernel)
theorem dX5_readWish_27 : decode cX5_readWish 27 = .ok (.getfield 33, 3) := zk_180 (by decide +kernel)
theorem dX5_readWish_30 : decode cX5_readWish 30 = .ok (.aload_n 1, 1) := zk_43 (by decide +kernel)
theorem dX5_readWish_31 : decode cX5_readWish 31 = .ok (.iload_n 2, 1) := zk_28 (by decide +kernel)
theorem dX5_readWish_32 : decode cX5_readWish 32 = .ok (.iconst 3, 1) := zk_6 (by decide +kernel)
theorem dX5_readWish_33 : decode cX5_readWish 33 = .ok (.invokevirtual 109, 3) := zk_182 (by decide +kernel)
theorem dX5_readWish_36 : decode cX5_readWish 36 = .ok (.putfield 118, 3) := zk_181 (by decide +kernel)
theorem dX5_readWish_39 : decode cX5_readWish 39 = .ok (.aload_n 0, 1) := zk_42 (by decide +kernel)
theorem dX5_readWish_40 : decode cX5_readWish 40 = .ok (.getfield 33, 3) := zk_180 (by decide +kernel)
theorem dX5_readWish_43 : decode cX5_readWish 43 = .ok (.aload_n 1, 1) := zk_43 (by decide +kernel)
theorem dX5_readWish_44 : decode cX5_readWish 44 = .ok (.iload_n 2, 1) := zk_28 (by decide +kernel)
theorem dX5_readWish_45 : decode cX5_readWish 45 = .ok (.iconst 4, 1) := zk_7 (by decide +kernel)
theorem dX5_readWish_46 : decode cX5_readWish 46 = .ok (.invokevirtual 109, 3) := zk_182 (by decide +kernel)
theorem dX5_readWish_49 : decode cX5_readWish 49 = .ok (.putfield 121, 3) := zk_181 (by decide +kernel)
theorem dX5_readWish_52 : decode cX5_readWish 52 = .ok (.aload_n 0, 1) := zk_42 (by decide +kernel)
theorem dX5_readWish_53 : decode cX5_readWish 53 = .ok (.getfield 33, 3) := zk_180 (by decide +kernel)
theorem dX5_readWish_56 : decode cX5_readWish 56 = .ok (.aload_n 1, 1) := zk_43 (by decide +kernel)
theorem dX5_readWish_57 : decode cX5_readWish 57 = .ok (.iload_n 2, 1) := zk_28 (by decide +kernel)
theorem dX5_readWish_58 : decode cX5_readWish 58 = .ok (.bipush 6, 2) := zk_16 (by decide +kernel)
theorem dX5_readWish_60 : decode cX5_readWish 60 = .ok (.invokevirtual 109, 3) := zk_182 (by decide +kernel)
theorem dX5_readWish_63 : decode cX5_readWish 63 = .ok (.putfield 124, 3) := zk_181 (by decide +kernel)
theorem dX5_readWish_66 : decode cX5_readWish 66 = .ok (.return_, 1) := zk_177 (by decide +kernel)
set_option maxHeartbeats 4000000 in
set_option maxRecDepth 100000 in
theorem gd_readWish (l : Launch) (dC : Nat → ClassId) (dI : Nat → Nat → Nat) (xdy : Nat) (drw : Nat) (dfr : Int32) (dsh : Nat) (dto : Nat) (dmo : Nat) (dwi : Nat) (v0 : Int32) (v1 : Int32) (v2 : Int32) (v3 : Int32) (v4 : Int32) (bno : Nat) (ns : Int32) (nsa : Nat) (nfa : Nat) (nza : Nat) (cNs : ClassId) (fNs : Nat → Int32) (cNf : ClassId) (fNf : Nat → Int32) (a0 : Int32) (sz : Nat) : Met l yX5_readWish (Cond.code yX5_readWish cX5_readWish 3 none :: wsL_law) ({ frames := 3, cells := 0, slots := 0, locals := 67 }) (va_Pc [.ref xdy, .ref bno, .int a0] (fun U => U.heap.size = sz ∧ va_P (dC, dI) vwCl [(eO5a xdy drw dfr dsh dto dmo dwi), (eO10a dwi v0 v1 v2 v3 v4), (eO6a bno ns nsa nfa nza), (eA0 nsa cNs 12 fNs), (eA0 nfa cNf 96 fNf)] U.heap ∧ va_K (dC, dI) vwCl [(cNs, .int), (cNf, .int)] U ∧ va_D (fun _ => True) [(eO5a xdy drw dfr dsh dto dmo dwi), (eO10a dwi v0 v1 v2 v3 v4), (eO6a bno ns nsa nfa nza), (eA0 nsa cNs 12 fNs), (eA0 nfa cNf 96 fNf)])) (va_Qv (fun (u : (Int32) × (Int32) × (Int32) × (Int32) × (Int32)) => u = fd_readWish fNs fNf a0) (fun (u : (Int32) × (Int32) × (Int32) × (Int32) × (Int32)) t => va_P (dC, dI) vwCl [(eO5a xdy drw dfr dsh dto dmo dwi), (eO10a dwi u.1 u.2.1 u.2.2.1 u.2.2.2.1 u.2.2.2.2), (eO6a bno ns nsa nfa nza), (eA0 nsa cNs 12 fNs), (eA0 nfa cNf 96 fNf)] t.heap ∧ va_K (dC, dI) vwCl [] t ∧ va_D (va_A [(eO5a xdy drw dfr dsh dto dmo dwi), (eO10a dwi v0 v1 v2 v3 v4), (eO6a bno ns nsa nfa nza), (eA0 nsa cNs 12 fNs), (eA0 nfa cNf 96 fNf)] sz) [(eO5a xdy drw dfr dsh dto dmo dwi), (eO10a dwi u.1 u.2.1 u.2.2.1 u.2.2.2.1 u.2.2.2.2), (eO6a bno ns nsa nfa nza), (eA0 nsa cNs 12 fNs), (eA0 nfa cNf 96 fNf)]) (va_A [(eO5a xdy drw dfr dsh dto dmo dwi), (eO10a dwi v0 v1 v2 v3 v4), (eO6a bno ns nsa nfa nza), (eA0 nsa cNs 12 fNs), (eA0 nfa cNf 96 fNf)] sz)) 0 0 (va_A [(eO5a xdy drw dfr dsh dto dmo dwi), (eO10a dwi v0 v1 v2 v3 v4), (eO6a bno ns nsa nfa nza), (eA0 nsa cNs 12 fNs), (eA0 nfa cNf 96 fNf)] sz) := by
  refine Met.ofW (cc := cX5_readWish) (maxL := 3) (ret := none) (by decide) rfl ?_
  intro p e s m args below meth c s₁ B hml hv
  obtain ⟨rfl, hsz, hP, hK, hD0⟩ := hv
  have hx := B.exec
  have hb := B.bytes
  have hr := B.returns
  have hts := atoms_spec (ws := Cond.code yX5_readWish cX5_readWish 3 none :: wsL_law) B.pre
  have htw : ∀ w ∈ wsL_law, w.before _ s = true := fun w h => hts w (List.mem_cons_of_mem _ h)
  have hown : s.vm.findClass RX5 = some m.cls := findClass_of_methodNamed B.named
  have hlocks := B.notSynchronized
  subst hsz
  have hD := hD0.self (sz := s.heap.size)
  generalize hAe : va_A [(eO5a xdy drw dfr dsh dto dmo dwi), (eO10a dwi v0 v1 v2 v3 v4), (eO6a bno ns nsa nfa nza), (eA0 nsa cNs 12 fNs), (eA0 nfa cNf 96 fNf)] s.heap.size = A at hD ⊢
  have hA : ∀ q : Nat, s.heap.size ≤ q → A q := fun q h => by rw [← hAe]; exact Or.inr h
  obtain ⟨H, rH⟩ : ∃ z : Heap, z = s.heap := ⟨_, rfl⟩
  have hS : va_S A s.heap H [] := by rw [rH]; exact va_S.rf
  have hP : va_P (dC, dI) vwCl [(eO5a xdy drw dfr dsh dto dmo dwi), (eO10a dwi v0 v1 v2 v3 v4), (eO6a bno ns nsa nfa nza), (eA0 nsa cNs 12 fNs), (eA0 nfa cNf 96 fNf)] H := by rw [rH]; exact hP
  rw [← rH]
  have hl := lv_entry ([.ref xdy, .ref bno, .int a0]) (n := 3) (Nat.le_of_ble_eq_true rfl)
  rw [lg_entry_eq]
  generalize (lg_sl ([.ref xdy, .ref bno, .int a0]) ++ List.replicate (3 - (lg_sl ([.ref xdy, .ref bno, .int a0])).length) Slot.unset).toArray = ls at hl ⊢
  have hl : lv_has ls 3 [(0, .ref xdy), (1, .ref bno), (2, .int a0)] := hl
  refine lv_aload_n hx hb dX5_readWish_0 rfl (lv_at hl 0 rfl) ?_
  refine va_get (D := (dC, dI)) (ci := 5) (v := .ref dwi) (C := RX5) (T := TX5) (N := 6) hx hb htw inlX5 hown hK hP 0 rfl rfl 5 (by decide) (htw _ (ck_8 _ (List.mem_of_getElem? (i := 12) rfl))) (fun _ h9 => h9) rfl dX5_readWish_1 ?_
  refine lv_aload_n hx hb dX5_readWish_4 rfl (lv_at hl 1 rfl) ?_
  refine lv_iload_n hx hb dX5_readWish_5 rfl (lv_at hl 2 rfl) ?_
  refine lv_iconst (v := 1) hx hb dX5_readWish_6 (by decide) ?_
  have hPc := hP.sub (ws' := [(eO6a bno ns nsa nfa nza), (eA0 nsa cNs 12 fNs), (eA0 nfa cNf 96 fNf)]) [2, 3, 4] rfl
  have hKc := hK.sub (tys' := [(cNs, .int), (cNf, .int)]) [0, 1] rfl
  refine vp_callSi (W.runV (As := [.int a0, .int 1]) (rest := [.ref dwi]) ⟨hx, hb, hml, hown, htw⟩ (gn_askedOf l dC dI bno ns nsa nfa nza cNs fNs cNf fNf a0 (1 : Int32)) (cwV 2 htw (xg_V (ck_56 _ (List.mem_of_getElem? (i := 9) rfl)) (ck_56 _ (List.mem_of_getElem? (i := 10) rfl)) (ck_56 _ (List.mem_of_getElem? (i := 11) rfl)) (ck_2 _ (List.mem_of_getElem? (i := 11) rfl)) (ck_56 _ (List.mem_of_getElem? (i := 12) rfl))) rfl rfl rfl (by exact ⟨rfl, hdc_3.1, hdc_3.2, hdd_7⟩) ⟨Nat.le_of_ble_eq_true rfl, Nat.le_of_ble_eq_true rfl⟩) ⟨fun a U g mk q => by obtain ⟨q0, qP, qK⟩ := q; exact ⟨q0, qP, va_K.moved (u := U) (U := U.calling g mk a) (Vm.Alike.refl U.vm) qK⟩, va_recv hKc hPc (ci := 6) (q0 := 0) rfl rfl, fun U hU hW => ⟨rfl, by rw [hU]; exact hPc, va_K.moved hW.alike hKc⟩⟩ rfl rfl hl.1 rfl (lv_room (Nat.le_of_ble_eq_true rfl)) dX5_readWish_7 ⟨Nat.le_of_ble_eq_true rfl, Nat.le_of_ble_eq_true rfl⟩) (fun r_1 hw => ?_)
  try dsimp only at hw
  have hq_r_1 : r_1 = fn_askedOf fNs fNf a0 (1 : Int32) := hw
  refine va_put (D := (dC, dI)) (ci := 10) (v := .int r_1) (ty := tyX10 0) (C := RX10) (T := TX10) (N := 5) hx hb htw inlX10 tyX10 tyX10_ok nmX10 hown hK hP hD hS 1 rfl rfl 0 (by decide) (htw _ (ck_56 _ (List.mem_of_getElem? (i := 4) rfl))) (fun _ h9 => h9) rfl (tyX10_ok 0 (by decide)) rfl rfl (Nat.le_of_ble_eq_true rfl) dX5_readWish_10 (fun H locs hP hD hS => ?_)
  obtain ⟨hP, hD⟩ := zre [(eO5a xdy drw dfr dsh dto dmo dwi), (eO10a dwi r_1 v1 v2 v3 v4), (eO6a bno ns nsa nfa nza), (eA0 nsa cNs 12 fNs), (eA0 nfa cNf 96 fNf)] hP hD rfl
  refine lv_aload_n hx hb dX5_readWish_13 rfl (lv_at hl 0 rfl) ?_
  refine va_get (D := (dC, dI)) (ci := 5) (v := .ref dwi) (C := RX5) (T := TX5) (N := 6) hx hb htw inlX5 hown hK hP 0 rfl rfl 5 (by decide) (htw _ (ck_8 _ (List.mem_of_getElem? (i := 12) rfl))) (fun _ h9 => h9) rfl dX5_readWish_14 ?_
  refine lv_aload_n hx hb dX5_readWish_17 rfl (lv_at hl 1 rfl) ?_
  refine lv_iload_n hx hb dX5_readWish_18 rfl (lv_at hl 2 rfl) ?_
  refine lv_iconst (v := 2) hx hb dX5_readWish_19 (by decide) ?_
  have hPc := hP.sub (ws' := [(eO6a bno ns nsa nfa nza), (eA0 nsa cNs 12 fNs), (eA0 nfa cNf 96 fNf)]) [2, 3, 4] rfl
  have hKc := hK.sub (tys' := [(cNs, .int), (cNf, .int)]) [0, 1] rfl
  refine vp_callSi (W.runV (As := [.int a0, .int 2]) (rest := [.ref dwi]) ⟨hx, hb, hml, hown, htw⟩ (gn_askedOf l dC dI bno ns nsa nfa nza cNs fNs cNf fNf a0 (2 : Int32)) (cwV 2 htw (xg_V (ck_56 _ (List.mem_of_getElem? (i := 9) rfl)) (ck_56 _ (List.mem_of_getElem? (i := 10) rfl)) (ck_56 _ (List.mem_of_getElem? (i := 11) rfl)) (ck_2 _ (List.mem_of_getElem? (i := 11) rfl)) (ck_56 _ (List.mem_of_getElem? (i := 12) rfl))) rfl rfl rfl (by exact ⟨rfl, hdc_3.1, hdc_3.2, hdd_7⟩) ⟨Nat.le_of_ble_eq_true rfl, Nat.le_of_ble_eq_true rfl⟩) ⟨fun a U g mk q => by obtain ⟨q0, qP, qK⟩ := q; exact ⟨q0, qP, va_K.moved (u := U) (U := U.calling g mk a) (Vm.Alike.refl U.vm) qK⟩, va_recv hKc hPc (ci := 6) (q0 := 0) rfl rfl, fun U hU hW => ⟨rfl, by rw [hU]; exact hPc, va_K.moved hW.alike hKc⟩⟩ rfl rfl hl.1 rfl (lv_room (Nat.le_of_ble_eq_true rfl)) dX5_readWish_20 ⟨Nat.le_of_ble_eq_true rfl, Nat.le_of_ble_eq_true rfl⟩) (fun r_2 hw => ?_)
  try dsimp only at hw
  have hq_r_2 : r_2 = fn_askedOf fNs fNf a0 (2 : Int32) := hw
  refine va_put (D := (dC, dI)) (ci := 10) (v := .int r_2) (ty := tyX10 1) (C := RX10) (T := TX10) (N := 5) hx hb htw inlX10 tyX10 tyX10_ok nmX10 hown hK hP hD hS 1 rfl rfl 1 (by decide) (htw _ (ck_56 _ (List.mem_of_getElem? (i := 5) rfl))) (fun _ h9 => h9) rfl (tyX10_ok 1 (by decide)) rfl rfl (Nat.le_of_ble_eq_true rfl) dX5_readWish_23 (fun H locs hP hD hS => ?_)
  obtain ⟨hP, hD⟩ := zre [(eO5a xdy drw dfr dsh dto dmo dwi), (eO10a dwi r_1 r_2 v2 v3 v4), (eO6a bno ns nsa nfa nza), (eA0 nsa cNs 12 fNs), (eA0 nfa cNf 96 fNf)] hP hD rfl
  refine lv_aload_n hx hb dX5_readWish_26 rfl (lv_at hl 0 rfl) ?_
  refine va_get (D := (dC, dI)) (ci := 5) (v := .ref dwi) (C := RX5) (T := TX5) (N := 6) hx hb htw inlX5 hown hK hP 0 rfl rfl 5 (by decide) (htw _ (ck_8 _ (List.mem_of_getElem? (i := 12) rfl))) (fun _ h9 => h9) rfl dX5_readWish_27 ?_
  refine lv_aload_n hx hb dX5_readWish_30 rfl (lv_at hl 1 rfl) ?_
  refine lv_iload_n hx hb dX5_readWish_31 rfl (lv_at hl 2 rfl) ?_
  refine lv_iconst (v := 3) hx hb dX5_readWish_32 (by decide) ?_
  have hPc := hP.sub (ws' := [(eO6a bno ns nsa nfa nza), (eA0 nsa cNs 12 fNs), (eA0 nfa cNf 96 fNf)]) [2, 3, 4] rfl
  have hKc := hK.sub (tys' := [(cNs, .int), (cNf, .int)]) [0, 1] rfl
  refine vp_callSi (W.runV (As := [.int a0, .int 3]) (rest := [.ref dwi]) ⟨hx, hb, hml, hown, htw⟩ (gn_askedOf l dC dI bno ns nsa nfa nza cNs fNs cNf fNf a0 (3 : Int32)) (cwV 2 htw (xg_V (ck_56 _ (List.mem_of_getElem? (i := 9) rfl)) (ck_56 _ (List.mem_of_getElem? (i := 10) rfl)) (ck_56 _ (List.mem_of_getElem? (i := 11) rfl)) (ck_2 _ (List.mem_of_getElem? (i := 11) rfl)) (ck_56 _ (List.mem_of_getElem? (i := 12) rfl))) rfl rfl rfl (by exact ⟨rfl, hdc_3.1, hdc_3.2, hdd_7⟩) ⟨Nat.le_of_ble_eq_true rfl, Nat.le_of_ble_eq_true rfl⟩) ⟨fun a U g mk q => by obtain ⟨q0, qP, qK⟩ := q; exact ⟨q0, qP, va_K.moved (u := U) (U := U.calling g mk a) (Vm.Alike.refl U.vm) qK⟩, va_recv hKc hPc (ci := 6) (q0 := 0) rfl rfl, fun U hU hW => ⟨rfl, by rw [hU]; exact hPc, va_K.moved hW.alike hKc⟩⟩ rfl rfl hl.1 rfl (lv_room (Nat.le_of_ble_eq_true rfl)) dX5_readWish_33 ⟨Nat.le_of_ble_eq_true rfl, Nat.le_of_ble_eq_true rfl⟩) (fun r_3 hw => ?_)
  try dsimp only at hw
  have hq_r_3 : r_3 = fn_askedOf fNs fNf a0 (3 : Int32) := hw
  refine va_put (D := (dC, dI)) (ci := 10) (v := .int r_3) (ty := tyX10 2) (C := RX10) (T := TX10) (N := 5) hx hb htw inlX10 tyX10 tyX10_ok nmX10 hown hK hP hD hS 1 rfl rfl 2 (by decide) (htw _ (ck_56 _ (List.mem_of_getElem? (i := 6) rfl))) (fun _ h9 => h9) rfl (tyX10_ok 2 (by decide)) rfl rfl (Nat.le_of_ble_eq_true rfl) dX5_readWish_36 (fun H locs hP hD hS => ?_)
  obtain ⟨hP, hD⟩ := zre [(eO5a xdy drw dfr dsh dto dmo dwi), (eO10a dwi r_1 r_2 r_3 v3 v4), (eO6a bno ns nsa nfa nza), (eA0 nsa cNs 12 fNs), (eA0 nfa cNf 96 fNf)] hP hD rfl
  refine lv_aload_n hx hb dX5_readWish_39 rfl (lv_at hl 0 rfl) ?_
  refine va_get (D := (dC, dI)) (ci := 5) (v := .ref dwi) (C := RX5) (T := TX5) (N := 6) hx hb htw inlX5 hown hK hP 0 rfl rfl 5 (by decide) (htw _ (ck_8 _ (List.mem_of_getElem? (i := 12) rfl))) (fun _ h9 => h9) rfl dX5_readWish_40 ?_
  refine lv_aload_n hx hb dX5_readWish_43 rfl (lv_at hl 1 rfl) ?_
  refine lv_iload_n hx hb dX5_readWish_44 rfl (lv_at hl 2 rfl) ?_
  refine lv_iconst (v := 4) hx hb dX5_readWish_45 (by decide) ?_
  have hPc := hP.sub (ws' := [(eO6a bno ns nsa nfa nza), (eA0 nsa cNs 12 fNs), (eA0 nfa cNf 96 fNf)]) [2, 3, 4] rfl
  have hKc := hK.sub (tys' := [(cNs, .int), (cNf, .int)]) [0, 1] rfl
  refine vp_callSi (W.runV (As := [.int a0, .int 4]) (rest := [.ref dwi]) ⟨hx, hb, hml, hown, htw⟩ (gn_askedOf l dC dI bno ns nsa nfa nza cNs fNs cNf fNf a0 (4 : Int32)) (cwV 2 htw (xg_V (ck_56 _ (List.mem_of_getElem? (i := 9) rfl)) (ck_56 _ (List.mem_of_getElem? (i := 10) rfl)) (ck_56 _ (List.mem_of_getElem? (i := 11) rfl)) (ck_2 _ (List.mem_of_getElem? (i := 11) rfl)) (ck_56 _ (List.mem_of_getElem? (i := 12) rfl))) rfl rfl rfl (by exact ⟨rfl, hdc_3.1, hdc_3.2, hdd_7⟩) ⟨Nat.le_of_ble_eq_true rfl, Nat.le_of_ble_eq_true rfl⟩) ⟨fun a U g mk q => by obtain ⟨q0, qP, qK⟩ := q; exact ⟨q0, qP, va_K.moved (u := U) (U := U.calling g mk a) (Vm.Alike.refl U.vm) qK⟩, va_recv hKc hPc (ci := 6) (q0 := 0) rfl rfl, fun U hU hW => ⟨rfl, by rw [hU]; exact hPc, va_K.moved hW.alike hKc⟩⟩ rfl rfl hl.1 rfl (lv_room (Nat.le_of_ble_eq_true rfl)) dX5_readWish_46 ⟨Nat.le_of_ble_eq_true rfl, Nat.le_of_ble_eq_true rfl⟩) (fun r_4 hw => ?_)
  try dsimp only at hw
  have hq_r_4 : r_4 = fn_askedOf fNs fNf a0 (4 : Int32) := hw
  refine va_put (D := (dC, dI)) (ci := 10) (v := .int r_4) (ty := tyX10 3) (C := RX10) (T := TX10) (N := 5) hx hb htw inlX10 tyX10 tyX10_ok nmX10 hown hK hP hD hS 1 rfl rfl 3 (by decide) (htw _ (ck_56 _ (List.mem_of_getElem? (i := 7) rfl))) (fun _ h9 => h9) rfl (tyX10_ok 3 (by decide)) rfl rfl (Nat.le_of_ble_eq_true rfl) dX5_readWish_49 (fun H locs hP hD hS => ?_)
  obtain ⟨hP, hD⟩ := zre [(eO5a xdy drw dfr dsh dto dmo dwi), (eO10a dwi r_1 r_2 r_3 r_4 v4), (eO6a bno ns nsa nfa nza), (eA0 nsa cNs 12 fNs), (eA0 nfa cNf 96 fNf)] hP hD rfl
  refine lv_aload_n hx hb dX5_readWish_52 rfl (lv_at hl 0 rfl) ?_
  refine va_get (D := (dC, dI)) (ci := 5) (v := .ref dwi) (C := RX5) (T := TX5) (N := 6) hx hb htw inlX5 hown hK hP 0 rfl rfl 5 (by decide) (htw _ (ck_8 _ (List.mem_of_getElem? (i := 12) rfl))) (fun _ h9 => h9) rfl dX5_readWish_53 ?_
  refine lv_aload_n hx hb dX5_readWish_56 rfl (lv_at hl 1 rfl) ?_
  refine lv_iload_n hx hb dX5_readWish_57 rfl (lv_at hl 2 rfl) ?_
  refine lv_bipush (v := 6) hx hb dX5_readWish_58 (by decide) ?_
  have hPc := hP.sub (ws' := [(eO6a bno ns nsa nfa nza), (eA0 nsa cNs 12 fNs), (eA0 nfa cNf 96 fNf)]) [2, 3, 4] rfl
  have hKc := hK.sub (tys' := [(cNs, .int), (cNf, .int)]) [0, 1] rfl
  refine vp_callSi (W.runV (As := [.int a0, .int 6]) (rest := [.ref dwi]) ⟨hx, hb, hml, hown, htw⟩ (gn_askedOf l dC dI bno ns nsa nfa nza cNs fNs cNf fNf a0 (6 : Int32)) (cwV 2 htw (xg_V (ck_56 _ (List.mem_of_getElem? (i := 9) rfl)) (ck_56 _ (List.mem_of_getElem? (i := 10) rfl)) (ck_56 _ (List.mem_of_getElem? (i := 11) rfl)) (ck_2 _ (List.mem_of_getElem? (i := 11) rfl)) (ck_56 _ (List.mem_of_getElem? (i := 12) rfl))) rfl rfl rfl (by exact ⟨rfl, hdc_3.1, hdc_3.2, hdd_7⟩) ⟨Nat.le_of_ble_eq_true rfl, Nat.le_of_ble_eq_true rfl⟩) ⟨fun a U g mk q => by obtain ⟨q0, qP, qK⟩ := q; exact ⟨q0, qP, va_K.moved (u := U) (U := U.calling g mk a) (Vm.Alike.refl U.vm) qK⟩, va_recv hKc hPc (ci := 6) (q0 := 0) rfl rfl, fun U hU hW => ⟨rfl, by rw [hU]; exact hPc, va_K.moved hW.alike hKc⟩⟩ rfl rfl hl.1 rfl (lv_room (Nat.le_of_ble_eq_true rfl)) dX5_readWish_60 ⟨Nat.le_of_ble_eq_true rfl, Nat.le_of_ble_eq_true rfl⟩) (fun r_5 hw => ?_)
  try dsimp only at hw
  have hq_r_5 : r_5 = fn_askedOf fNs fNf a0 (6 : Int32) := hw
  refine va_put (D := (dC, dI)) (ci := 10) (v := .int r_5) (ty := tyX10 4) (C := RX10) (T := TX10) (N := 5) hx hb htw inlX10 tyX10 tyX10_ok nmX10 hown hK hP hD hS 1 rfl rfl 4 (by decide) (htw _ (ck_56 _ (List.mem_of_getElem? (i := 8) rfl))) (fun _ h9 => h9) rfl (tyX10_ok 4 (by decide)) rfl rfl (Nat.le_of_ble_eq_true rfl) dX5_readWish_63 (fun H locs hP hD hS => ?_)
  obtain ⟨hP, hD⟩ := zre [(eO5a xdy drw dfr dsh dto dmo dwi), (eO10a dwi r_1 r_2 r_3 r_4 r_5), (eO6a bno ns nsa nfa nza), (eA0 nsa cNs 12 fNs), (eA0 nfa cNf 96 fNf)] hP hD rfl
  refine W.widen (k := 0) (n := 0) (by omega) (by omega) ?_
  have hP9 := hP
  have hD9 := hD
  have hK9 := hK.sub (tys' := []) [] rfl
  exact W.vret hx hb hr (fun t ht hW => ⟨⟨(r_1, r_2, r_3, r_4, r_5), rfl, (Eq.symm ((by rw [fd_readWish]; (try rw [← hq_r_1]); (try rw [xL_eq]); (try rw [← hq_r_2]); (try rw [xL_eq]); (try rw [← hq_r_3]); (try rw [xL_eq]); (try rw [← hq_r_4]); (try rw [xL_eq]); (try rw [← hq_r_5]); (try rw [xL_eq]); try rfl))), by rw [ht]; exact hP9, va_K.moved hW.alike hK9, hD9⟩, hS.F ht⟩) hS.2.2 dX5_readWish_66

def fd_isOn (fRw : Nat → Nat → Int64) (a0 : Int32) (a1 : Int32) : Int32 := (if a0 < 0 then (0 : Int32) else (if 12 ≤ a0 then (0 : Int32) else (if a1 < 0 then (0 : Int32) else (if a1 < 20000 then (if lg_cmp ((((fRw a0.toNatClampNeg) ((a1 >>> (6 &&& 31)).toNatClampNeg)) >>> ((a1 &&& 63).toInt64 &&& 63)) &&& 1) 1 = (0 : Int32) then (1 : Int32) else (0 : Int32)) else (0 : Int32)))))
theorem gd_isOn_s0 {y0 : Int32} (h0 : ¬ (y0 < 0)) (h1 : ¬ (12 ≤ y0)) : ¬ (y0 < 0) ∧ ¬ (12 ≤ y0) := ⟨h0, h1⟩
theorem gd_isOn_s1 {y0 : Int32} (h0 : ¬ (y0 < 0)) (h1 : ¬ (12 ≤ y0)) : ¬ (y0 < 0) ∧ ¬ (12 ≤ y0) := ⟨h0, h1⟩
theorem gd_isOn_s2 {y0 : Int32} (h0 : ¬ (y0 < 0)) (h1 : y0 < 20000) : ¬ (y0 < 0) ∧ y0 < 20000 := ⟨h0, h1⟩
theorem dX5_isOn_0 : decode cX5_isOn 0 = .ok (.iload_n 1, 1) := zk_27 (by decide +kernel)
theorem dX5_isOn_1 : decode cX5_isOn 1 = .ok (.ifCond .lt 20, 3) := zk_155 (by decide +kernel)
theorem dX5_isOn_21 : decode cX5_isOn 21 = .ok (.iconst 0, 1) := zk_3 (by decide +kernel)
theorem dX5_isOn_22 : decode cX5_isOn 22 = .ok (.ireturn, 1) := zk_172 (by decide +kernel)
theorem dX5_isOn_4 : decode cX5_isOn 4 = .ok (.iload_n 1, 1) := zk_27 (by decide +kernel)
theorem dX5_isOn_5 : decode cX5_isOn 5 = .ok (.bipush 12, 2) := zk_16 (by decide +kernel)
theorem dX5_isOn_7 : decode cX5_isOn 7 = .ok (.if_icmp .ge 14, 3) := zk_162 (by decide +kernel)
theorem dX5_isOn_10 : decode cX5_isOn 10 = .ok (.iload_n 2, 1) := zk_28 (by decide +kernel)
theorem dX5_isOn_11 : decode cX5_isOn 11 = .ok (.ifCond .lt 10, 3) := zk_155 (by decide +kernel)
theorem dX5_isOn_14 : decode cX5_isOn 14 = .ok (.iload_n 2, 1) := zk_28 (by decide +kernel)
theorem dX5_isOn_15 : decode cX5_isOn 15 = .ok (.sipush 20000, 3) := zk_17 (by decide +kernel)
theorem dX5_isOn_18 : decode cX5_isOn 18 = .ok (.if_icmp .lt 5, 3) := zk_161 (by decide +kernel)
theorem dX5_isOn_23 : decode cX5_isOn 23 = .ok (.aload_n 0, 1) := zk_42 (by decide +kernel)
theorem dX5_isOn_24 : decode cX5_isOn 24 = .ok (.getfield 13, 3) := zk_180 (by decide +kernel)
theorem dX5_isOn_27 : decode cX5_isOn 27 = .ok (.iload_n 1, 1) := zk_27 (by decide +kernel)
theorem dX5_isOn_28 : decode cX5_isOn 28 = .ok (.aaload, 1) := zk_50 (by decide +kernel)
theorem dX5_isOn_29 : decode cX5_isOn 29 = .ok (.iload_n 2, 1) := zk_28 (by decide +kernel)
theorem dX5_isOn_30 : decode cX5_isOn 30 = .ok (.bipush 6, 2) := zk_16 (by decide +kernel)
theorem dX5_isOn_32 : decode cX5_isOn 32 = .ok (.ishr, 1) := zk_122 (by decide +kernel)
theorem dX5_isOn_33 : decode cX5_isOn 33 = .ok (.laload, 1) := zk_47 (by decide +kernel)
theorem dX5_isOn_34 : decode cX5_isOn 34 = .ok (.iload_n 2, 1) := zk_28 (by decide +kernel)
theorem dX5_isOn_35 : decode cX5_isOn 35 = .ok (.bipush 63, 2) := zk_16 (by decide +kernel)
theorem dX5_isOn_37 : decode cX5_isOn 37 = .ok (.iand, 1) := zk_126 (by decide +kernel)
theorem dX5_isOn_38 : decode cX5_isOn 38 = .ok (.lshr, 1) := zk_123 (by decide +kernel)
theorem dX5_isOn_39 : decode cX5_isOn 39 = .ok (.lconst 1, 1) := zk_10 (by decide +kernel)
theorem dX5_isOn_40 : decode cX5_isOn 40 = .ok (.land, 1) := zk_127 (by decide +kernel)
theorem dX5_isOn_41 : decode cX5_isOn 41 = .ok (.lconst 1, 1) := zk_10 (by decide +kernel)
theorem dX5_isOn_42 : decode cX5_isOn 42 = .ok (.lcmp, 1) := zk_148 (by decide +kernel)
theorem dX5_isOn_43 : decode cX5_isOn 43 = .ok (.ifCond .ne 7, 3) := zk_154 (by decide +kernel)
theorem dX5_isOn_50 : decode cX5_isOn 50 = .ok (.iconst 0, 1) := zk_3 (by decide +kernel)
theorem dX5_isOn_51 : decode cX5_isOn 51 = .ok (.ireturn, 1) := zk_172 (by decide +kernel)
theorem dX5_isOn_46 : decode cX5_isOn 46 = .ok (.iconst 1, 1) := zk_4 (by decide +kernel)
theorem dX5_isOn_47 : decode cX5_isOn 47 = .ok (.goto 4, 3) := zk_167 (by decide +kernel)
set_option maxHeartbeats 4000000 in
set_option maxRecDepth 100000 in
theorem gd_isOn (l : Launch) (dC : Nat → ClassId) (dI : Nat → Nat → Nat) (xdy : Nat) (drw : Nat) (dfr : Int32) (dsh : Nat) (dto : Nat) (dmo : Nat) (dwi : Nat) (cDr : ClassId) (Rw : Nat → Nat) (cRr : ClassId) (fRw : Nat → Nat → Int64) (a0 : Int32) (a1 : Int32) : Met l yX5_isOn (Cond.code yX5_isOn cX5_isOn 3 (some .boolean) :: wsL_law) ({ frames := 0, cells := 0, slots := 0, locals := 0 }) (va_Pc [.ref xdy, .int a0, .int a1] (fun U => va_P (dC, dI) vwCl [(eO5a xdy drw dfr dsh dto dmo dwi), (eA4 drw cDr 12 (fun k => some (Rw k))), (eA1 (Rw 0) cRr 313 (fRw 0)), (eA1 (Rw 1) cRr 313 (fRw 1)), (eA1 (Rw 2) cRr 313 (fRw 2)), (eA1 (Rw 3) cRr 313 (fRw 3)), (eA1 (Rw 4) cRr 313 (fRw 4)), (eA1 (Rw 5) cRr 313 (fRw 5)), (eA1 (Rw 6) cRr 313 (fRw 6)), (eA1 (Rw 7) cRr 313 (fRw 7)), (eA1 (Rw 8) cRr 313 (fRw 8)), (eA1 (Rw 9) cRr 313 (fRw 9)), (eA1 (Rw 10) cRr 313 (fRw 10)), (eA1 (Rw 11) cRr 313 (fRw 11))] U.heap ∧ va_K (dC, dI) vwCl [(cDr, .array .long), (cRr, .long), (cRr, .long), (cRr, .long), (cRr, .long), (cRr, .long), (cRr, .long), (cRr, .long), (cRr, .long), (cRr, .long), (cRr, .long), (cRr, .long), (cRr, .long)] U)) (vp_Si (fun r => r = fd_isOn fRw a0 a1)) 0 0 (fun _ => False) := by
  refine Met.ofW (cc := cX5_isOn) (maxL := 3) (ret := (some .boolean)) (by decide) rfl ?_
  intro p e s m args below meth c s₁ B hml hv
  obtain ⟨rfl, hP, hK⟩ := hv
  have hx := B.exec
  have hb := B.bytes
  have hr := B.returns
  have hts := atoms_spec (ws := Cond.code yX5_isOn cX5_isOn 3 (some .boolean) :: wsL_law) B.pre
  have htw : ∀ w ∈ wsL_law, w.before _ s = true := fun w h => hts w (List.mem_cons_of_mem _ h)
  have hown : s.vm.findClass RX5 = some m.cls := findClass_of_methodNamed B.named
  have hlocks := B.notSynchronized
  have hl := lv_entry ([.ref xdy, .int a0, .int a1]) (n := 3) (Nat.le_of_ble_eq_true rfl)
  rw [lg_entry_eq]
  generalize (lg_sl ([.ref xdy, .int a0, .int a1]) ++ List.replicate (3 - (lg_sl ([.ref xdy, .int a0, .int a1])).length) Slot.unset).toArray = ls at hl ⊢
  have hl : lv_has ls 3 [(0, .ref xdy), (1, .int a0), (2, .int a1)] := hl
  refine lv_iload_n hx hb dX5_isOn_0 rfl (lv_at hl 1 rfl) ?_
  refine lv_if_lt (tgt := 21) hx hb dX5_isOn_1 (by decide) (fun c_1 => ?_) (fun c_1 => ?_)
  · refine lv_iconst (v := 0) hx hb dX5_isOn_21 (by decide) ?_
    exact W.zret (v := 0) hx hb hr (by first | rfl | decide) (fun t ht hW => ⟨0, rfl, (Eq.symm ((by rw [fd_isOn]; (try rw [if_pos c_1]); try rfl))), ht⟩) (fun _ h => by cases h) dX5_isOn_22
  · refine lv_iload_n hx hb dX5_isOn_4 rfl (lv_at hl 1 rfl) ?_
    refine lv_bipush (v := 12) hx hb dX5_isOn_5 (by decide) ?_
    refine lv_icmp_ge (tgt := 21) hx hb dX5_isOn_7 (by decide) (fun c_2 => ?_) (fun c_2 => ?_)
    · refine lv_iconst (v := 0) hx hb dX5_isOn_21 (by decide) ?_
      exact W.zret (v := 0) hx hb hr (by first | rfl | decide) (fun t ht hW => ⟨0, rfl, (Eq.symm ((by rw [fd_isOn]; (try rw [if_neg c_1]); (try rw [if_pos c_2]); try rfl))), ht⟩) (fun _ h => by cases h) dX5_isOn_22
    · refine lv_iload_n hx hb dX5_isOn_10 rfl (lv_at hl 2 rfl) ?_
      refine lv_if_lt (tgt := 21) hx hb dX5_isOn_11 (by decide) (fun c_3 => ?_) (fun c_3 => ?_)
      · refine lv_iconst (v := 0) hx hb dX5_isOn_21 (by decide) ?_
        exact W.zret (v := 0) hx hb hr (by first | rfl | decide) (fun t ht hW => ⟨0, rfl, (Eq.symm ((by rw [fd_isOn]; (try rw [if_neg c_1]); (try rw [if_neg c_2]); (try rw [if_pos c_3]); try rfl))), ht⟩) (fun _ h => by cases h) dX5_isOn_22
      · refine lv_iload_n hx hb dX5_isOn_14 rfl (lv_at hl 2 rfl) ?_
        refine lv_sipush (v := 20000) hx hb dX5_isOn_15 (by decide) ?_
        refine lv_icmp_lt (tgt := 23) hx hb dX5_isOn_18 (by decide) (fun c_4 => ?_) (fun c_4 => ?_)
        · refine lv_aload_n hx hb dX5_isOn_23 rfl (lv_at hl 0 rfl) ?_
          refine va_get (D := (dC, dI)) (ci := 5) (v := .ref drw) (C := RX5) (T := TX5) (N := 6) hx hb htw inlX5 hown hK hP 0 rfl rfl 0 (by decide) (htw _ (ck_8 _ (List.mem_of_getElem? (i := 6) rfl))) (fun _ h9 => h9) rfl dX5_isOn_24 ?_
          refine lv_iload_n hx hb dX5_isOn_27 rfl (lv_at hl 1 rfl) ?_
          refine xg_aldq hx hb hK hP 1 0 rfl rfl rfl (xg_inr (N := 12) rfl (gd_isOn_s0 (y0 := a0) c_1 c_2).1 (gd_isOn_s0 (y0 := a0) c_1 c_2).2) dX5_isOn_28 ?_
          refine W.eq (g2 := F0 m 29 ls [.ref (Rw a0.toNatClampNeg)]) rfl ?_
          have hP : va_P (dC, dI) vwCl [(eO5a xdy drw dfr dsh dto dmo dwi), (eA4 drw cDr 12 (fun k => some (Rw k))), (eA1 (Rw 0) cRr 313 (fRw 0)), (eA1 (Rw 1) cRr 313 (fRw 1)), (eA1 (Rw 2) cRr 313 (fRw 2)), (eA1 (Rw 3) cRr 313 (fRw 3)), (eA1 (Rw 4) cRr 313 (fRw 4)), (eA1 (Rw 5) cRr 313 (fRw 5)), (eA1 (Rw 6) cRr 313 (fRw 6)), (eA1 (Rw 7) cRr 313 (fRw 7)), (eA1 (Rw 8) cRr 313 (fRw 8)), (eA1 (Rw 9) cRr 313 (fRw 9)), (eA1 (Rw 10) cRr 313 (fRw 10)), (eA1 (Rw 11) cRr 313 (fRw 11)), ((Rw a0.toNatClampNeg), .inl (cRr, 313, .inr (.inl (fRw a0.toNatClampNeg))))] s.heap := xb_PN hP (fun k => (Rw k, .inl (cRr, 313, .inr (.inl (fRw k))))) 2 12 (by intro j hj; rcases (show j = 0 ∨ j = 1 ∨ j = 2 ∨ j = 3 ∨ j = 4 ∨ j = 5 ∨ j = 6 ∨ j = 7 ∨ j = 8 ∨ j = 9 ∨ j = 10 ∨ j = 11 by omega) with rfl | rfl | rfl | rfl | rfl | rfl | rfl | rfl | rfl | rfl | rfl | rfl <;> rfl) (i := a0) (xg_inr (N := 12) rfl (gd_isOn_s1 (y0 := a0) c_1 c_2).1 (gd_isOn_s1 (y0 := a0) c_1 c_2).2)
          refine lv_iload_n hx hb dX5_isOn_29 rfl (lv_at hl 2 rfl) ?_
          refine lv_bipush (v := 6) hx hb dX5_isOn_30 (by decide) ?_
          refine lv_ishr hx hb dX5_isOn_32 ?_
          refine va_lald hx hb hK hP 14 1 rfl rfl (xi_shr6in (gd_isOn_s2 (y0 := a1) c_3 c_4).1 (gd_isOn_s2 (y0 := a1) c_3 c_4).2) dX5_isOn_33 ?_
          refine lv_iload_n hx hb dX5_isOn_34 rfl (lv_at hl 2 rfl) ?_
          refine lv_bipush (v := 63) hx hb dX5_isOn_35 (by decide) ?_
          refine lv_iand hx hb dX5_isOn_37 ?_
          refine lv_lshr (v := (((fRw a0.toNatClampNeg) ((a1 >>> (6 &&& 31)).toNatClampNeg)) >>> ((a1 &&& 63).toInt64 &&& 63))) hx hb dX5_isOn_38 rfl ?_
          refine lv_lconst (v := 1) hx hb dX5_isOn_39 (by decide) ?_
          refine lv_land hx hb dX5_isOn_40 ?_
          refine lv_lconst (v := 1) hx hb dX5_isOn_41 (by decide) ?_
          refine W.lcmp hx hb dX5_isOn_42 ?_
          refine lv_if_ne (tgt := 50) hx hb dX5_isOn_43 (by decide) (fun c_5 => ?_) (fun c_5 => ?_)
          · refine lv_iconst (v := 0) hx hb dX5_isOn_50 (by decide) ?_
            exact W.zret (v := 0) hx hb hr (by first | rfl | decide) (fun t ht hW => ⟨0, rfl, (Eq.symm ((by rw [fd_isOn]; (try rw [if_neg c_1]); (try rw [if_neg c_2]); (try rw [if_neg c_3]); (try rw [if_pos c_4]); (try rw [if_neg c_5]); try rfl))), ht⟩) (fun _ h => by cases h) dX5_isOn_51
          · refine lv_iconst (v := 1) hx hb dX5_isOn_46 (by decide) ?_
            refine lv_goto (tgt := 51) hx hb dX5_isOn_47 (by decide) ?_
            exact W.zret (v := 1) hx hb hr (by first | rfl | decide) (fun t ht hW => ⟨1, rfl, (Eq.symm ((by rw [fd_isOn]; (try rw [if_neg c_1]); (try rw [if_neg c_2]); (try rw [if_neg c_3]); (try rw [if_pos c_4]); (try rw [if_pos c_5]); try rfl))), ht⟩) (fun _ h => by cases h) dX5_isOn_51
        · refine lv_iconst (v := 0) hx hb dX5_isOn_21 (by decide) ?_
          exact W.zret (v := 0) hx hb hr (by first | rfl | decide) (fun t ht hW => ⟨0, rfl, (Eq.symm ((by rw [fd_isOn]; (try rw [if_neg c_1]); (try rw [if_neg c_2]); (try rw [if_neg c_3]); (try rw [if_neg c_4]); try rfl))), ht⟩) (fun _ h => by cases h) dX5_isOn_22
