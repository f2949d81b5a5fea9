/-- what holds at the head of the loop -/
def yI (v : YV) : Prop := (¬ v.iz < 0) ∧ (v.iz ≤ 20) ∧ (¬ v.lfi < 0) ∧ (v.lfi ≤ 900) ∧ (¬ v.lz < 0) ∧ (v.lz ≤ 20) ∧ (¬ v.xsc < 0) ∧ (v.xsc ≤ 108) ∧ (xT v.fTo) ∧ (xE v.fRe) ∧ (v.g 1 = v.lfi) ∧ (xLow (v.g 12) (v.g 13) (v.g 14) (v.g 15) (v.g 16) (v.g 58) v.f_landHas v.f_sky v.f_first v.f_last v.f_knot v.f_part v.f_other v.f_born v.f_deedOn v.f_deedHas v.f_noteHas) ∧ (xKU v.f_knot v.f_part v.f_other) ∧ (∀ k : Nat, ¬ v.f_toldCount k < 0 ∧ v.f_toldCount k < 20000) ∧ (¬ v.g 67 < 0) ∧ (v.g 67 ≤ 20) ∧ (v.f_words 117 = 32) ∧ (¬ v.g 59 < 0) ∧ (yPu v.f_undo v.f_noteHas (v.g 59) (v.g 16)) ∧ (v.g 70 = 0 ∨ yIm (v.g 71) (v.g 72) (v.g 14) (v.g 13) v.f_keptHas v.f_keptCount)
theorem yI.iz0 {v : YV} (h : yI v) : ¬ v.iz < 0 := h.1
theorem yI.iz2 {v : YV} (h : yI v) : v.iz ≤ 20 := h.2.1
theorem yI.fi0 {v : YV} (h : yI v) : ¬ v.lfi < 0 := h.2.2.1
theorem yI.fi9 {v : YV} (h : yI v) : v.lfi ≤ 900 := h.2.2.2.1
theorem yI.lz0 {v : YV} (h : yI v) : ¬ v.lz < 0 := h.2.2.2.2.1
theorem yI.lz2 {v : YV} (h : yI v) : v.lz ≤ 20 := h.2.2.2.2.2.1
theorem yI.sc0 {v : YV} (h : yI v) : ¬ v.xsc < 0 := h.2.2.2.2.2.2.1
theorem yI.sc8 {v : YV} (h : yI v) : v.xsc ≤ 108 := h.2.2.2.2.2.2.2.1
theorem yI.hT {v : YV} (h : yI v) : xT v.fTo := h.2.2.2.2.2.2.2.2.1
theorem yI.hE {v : YV} (h : yI v) : xE v.fRe := h.2.2.2.2.2.2.2.2.2.1
theorem yI.tape {v : YV} (h : yI v) : v.g 1 = v.lfi := h.2.2.2.2.2.2.2.2.2.2.1
theorem yI.low {v : YV} (h : yI v) : xLow (v.g 12) (v.g 13) (v.g 14) (v.g 15) (v.g 16) (v.g 58) v.f_landHas v.f_sky v.f_first v.f_last v.f_knot v.f_part v.f_other v.f_born v.f_deedOn v.f_deedHas v.f_noteHas := h.2.2.2.2.2.2.2.2.2.2.2.1
theorem yI.ku {v : YV} (h : yI v) : xKU v.f_knot v.f_part v.f_other := h.2.2.2.2.2.2.2.2.2.2.2.2.1
theorem yI.tc {v : YV} (h : yI v) : ∀ k : Nat, ¬ v.f_toldCount k < 0 ∧ v.f_toldCount k < 20000 := h.2.2.2.2.2.2.2.2.2.2.2.2.2.1
theorem yI.to0 {v : YV} (h : yI v) : ¬ v.g 67 < 0 := h.2.2.2.2.2.2.2.2.2.2.2.2.2.2.1
theorem yI.to2 {v : YV} (h : yI v) : v.g 67 ≤ 20 := h.2.2.2.2.2.2.2.2.2.2.2.2.2.2.2.1
theorem yI.w7 {v : YV} (h : yI v) : v.f_words 117 = 32 := h.2.2.2.2.2.2.2.2.2.2.2.2.2.2.2.2.1
theorem yI.un0 {v : YV} (h : yI v) : ¬ v.g 59 < 0 := h.2.2.2.2.2.2.2.2.2.2.2.2.2.2.2.2.2.1
theorem yI.unP {v : YV} (h : yI v) : yPu v.f_undo v.f_noteHas (v.g 59) (v.g 16) := h.2.2.2.2.2.2.2.2.2.2.2.2.2.2.2.2.2.2.1
theorem yI.im {v : YV} (h : yI v) : v.g 70 = 0 ∨ yIm (v.g 71) (v.g 72) (v.g 14) (v.g 13) v.f_keptHas v.f_keptCount := h.2.2.2.2.2.2.2.2.2.2.2.2.2.2.2.2.2.2.2
theorem yI.un8 {v : YV} (h : yI v) : v.g 59 ≤ 108 := yPu_le h.low.2.2.2.2.1.1 h.low.2.2.2.2.1.2 h.un0 h.unP
theorem yI.un1 {v : YV} (h : yI v) : v.g 59 = 0 ∨ ¬ v.g 16 < 1 := yPu_1 h.low.2.2.2.2.1.1 h.un0 h.unP
theorem yI_mk {v : YV} (k_iz0 : ¬ v.iz < 0) (k_iz2 : v.iz ≤ 20) (k_fi0 : ¬ v.lfi < 0) (k_fi9 : v.lfi ≤ 900) (k_lz0 : ¬ v.lz < 0) (k_lz2 : v.lz ≤ 20) (k_sc0 : ¬ v.xsc < 0) (k_sc8 : v.xsc ≤ 108) (k_hT : xT v.fTo) (k_hE : xE v.fRe) (k_tape : v.g 1 = v.lfi) (k_low : xLow (v.g 12) (v.g 13) (v.g 14) (v.g 15) (v.g 16) (v.g 58) v.f_landHas v.f_sky v.f_first v.f_last v.f_knot v.f_part v.f_other v.f_born v.f_deedOn v.f_deedHas v.f_noteHas) (k_ku : xKU v.f_knot v.f_part v.f_other) (k_tc : ∀ k : Nat, ¬ v.f_toldCount k < 0 ∧ v.f_toldCount k < 20000) (k_to0 : ¬ v.g 67 < 0) (k_to2 : v.g 67 ≤ 20) (k_w7 : v.f_words 117 = 32) (k_un0 : ¬ v.g 59 < 0) (k_unP : yPu v.f_undo v.f_noteHas (v.g 59) (v.g 16)) (k_im : v.g 70 = 0 ∨ yIm (v.g 71) (v.g 72) (v.g 14) (v.g 13) v.f_keptHas v.f_keptCount) : yI v := ⟨k_iz0, k_iz2, k_fi0, k_fi9, k_lz0, k_lz2, k_sc0, k_sc8, k_hT, k_hE, k_tape, k_low, k_ku, k_tc, k_to0, k_to2, k_w7, k_un0, k_unP, k_im⟩
theorem yh_h0_lfi {v : YV} (h : yI v) : ¬ v.lfi < 0 := h.fi0
theorem yh_hts0 {v : YV} (h : yI v) : ¬ (v.g 1) < 0 := by rw [h.tape]; exact h.fi0
theorem yh_hts9 {v : YV} (h : yI v) : (v.g 1) ≤ 900 := by rw [h.tape]; exact h.fi9
theorem yh_h9_fi {v : YV} (h : yI v) : v.lfi ≤ 900 := h.fi9
theorem yh_h0_sc {v : YV} (h : yI v) : ¬ v.xsc < 0 := h.sc0
theorem yh_h8_sc {v : YV} (h : yI v) : v.xsc ≤ 108 := h.sc8
theorem yh_h0_lz {v : YV} (h : yI v) : ¬ v.lz < 0 := h.lz0
theorem yh_h2_lz {v : YV} (h : yI v) : v.lz ≤ 20 := h.lz2
theorem yh_hw7 {v : YV} (h : yI v) : (v.f_words 117) = 32 := h.w7
theorem yh_hKu {v : YV} (h : yI v) : xKU v.f_knot v.f_part v.f_other := h.ku
theorem yh_hLow {v : YV} (h : yI v) : xLow (v.g 12) (v.g 13) (v.g 14) (v.g 15) (v.g 16) (v.g 58) v.f_landHas v.f_sky v.f_first v.f_last v.f_knot v.f_part v.f_other v.f_born v.f_deedOn v.f_deedHas v.f_noteHas := h.low
theorem yh_hln0 {v : YV} (h : yI v) : ¬ (v.g 12) < 0 := h.low.1.1
theorem yh_hln4 {v : YV} (h : yI v) : (v.g 12) ≤ 4 := h.low.1.2
theorem yh_hfe0 {v : YV} (h : yI v) : ¬ (v.g 13) < 0 := h.low.2.1.1
theorem yh_hfe4 {v : YV} (h : yI v) : (v.g 13) ≤ 4 := h.low.2.1.2
theorem yh_hp0 {v : YV} (h : yI v) : ¬ (v.g 14) < 0 := h.low.2.2.1.1
theorem yh_hp6 {v : YV} (h : yI v) : (v.g 14) ≤ 6 := h.low.2.2.1.2
theorem yh_hde0 {v : YV} (h : yI v) : ¬ (v.g 15) < 0 := h.low.2.2.2.1.1
theorem yh_hde4 {v : YV} (h : yI v) : (v.g 15) ≤ 4 := h.low.2.2.2.1.2
theorem yh_hn10 {v : YV} (h : yI v) : ¬ (v.g 58) < 0 := h.low.2.2.2.2.2.1.1
theorem yh_hn16 {v : YV} (h : yI v) : (v.g 58) ≤ 6 := h.low.2.2.2.2.2.1.2
theorem yh_hLZ {v : YV} (h : yI v) : ∀ k : Int32, ¬ k < 0 → k < (v.g 12) → ¬ (v.f_landHas ((3 * k).toNatClampNeg)) = 0 := fun k h0 h1 e => h.low.2.2.2.2.2.2.1 k h0 h1 (by rw [e]; decide)
theorem yh_hs0 {v : YV} (h : yI v) : ¬ (v.f_sky 0) < 1 := h.low.2.2.2.2.2.2.2.1.1
theorem yh_hs2 {v : YV} (h : yI v) : ¬ (v.f_sky 2) < 1 := h.low.2.2.2.2.2.2.2.1.2.1
theorem yh_hs5 {v : YV} (h : yI v) : ¬ (v.f_sky 5) < 1 := h.low.2.2.2.2.2.2.2.1.2.2
theorem yh_hE {v : YV} (h : yI v) : ∀ k, ¬ v.fRe k < 0 := h.hE
theorem yh_hFA {v : YV} (h : yI v) : ∀ k : Int32, ¬ k < 0 → k < (v.g 13) → ¬ (v.f_first k.toNatClampNeg) < 0 ∧ (v.f_last k.toNatClampNeg) ≤ 64 ∧ ¬ (v.f_last k.toNatClampNeg) < 1 := h.low.2.2.2.2.2.2.2.2.1
theorem yh_hKA {v : YV} (h : yI v) : ∀ k : Nat, k < 64 → xKV v.f_knot v.f_part v.f_other k := h.low.2.2.2.2.2.2.2.2.2.1
theorem yh_ht2 {v : YV} (h : yI v) : (v.fTo 2) ≤ 6 := h.hT.2.2.1.2
theorem yh_hLZ1 {v : YV} (h : yI v) : ∀ k : Int32, ¬ k < 0 → k < (v.g 12) → ¬ (v.f_landHas ((3 * k).toNatClampNeg)) < 1 := h.low.2.2.2.2.2.2.1
theorem yh_hBO {v : YV} (h : yI v) : ∀ k : Int32, ¬ k < 0 → k < (v.g 14) → ¬ (v.f_born k.toNatClampNeg) < 0 ∧ (v.f_born k.toNatClampNeg) ≤ 1000000000000 := h.low.2.2.2.2.2.2.2.2.2.2.1
theorem yh_ht3 {v : YV} (h : yI v) : (v.fTo 3) ≤ 4 := h.hT.2.2.2.1.2
theorem yh_hDE {v : YV} (h : yI v) : ∀ k : Int32, ¬ k < 0 → k < (v.g 15) → ¬ (v.f_deedOn k.toNatClampNeg) < 0 ∧ (v.f_deedOn k.toNatClampNeg) ≤ 1000000000000 ∧ ((v.f_deedHas ((3 * k).toNatClampNeg)) = 2 → ¬ (v.f_deedHas (((3 * k) + 1).toNatClampNeg)) < 0 ∧ (v.f_deedHas (((3 * k) + 1).toNatClampNeg)) < (v.g 13)) := h.low.2.2.2.2.2.2.2.2.2.2.2.1
theorem yh_hnt0 {v : YV} (h : yI v) : ¬ (v.g 16) < 0 := h.low.2.2.2.2.1.1
theorem yh_hnt2 {v : YV} (h : yI v) : (v.g 16) ≤ 12 := h.low.2.2.2.2.1.2
theorem yh_hun0 {v : YV} (h : yI v) : ¬ (v.g 59) < 0 := h.un0
theorem yh_hun8 {v : YV} (h : yI v) : (v.g 59) < 128 := by have := h.un8; lia
theorem yh_hun128 {v : YV} (h : yI v) : (v.g 59) ≤ 128 := by have := h.un8; lia
theorem yh_hnu {v : YV} (h : yI v) : (v.g 59) = 0 ∨ ¬ (v.g 16) < 1 := h.un1
theorem yh_hNA {v : YV} (h : yI v) : ∀ k : Int32, ¬ k < 0 → k < (v.g 16) → (¬ fq_isOf (v.f_noteHas ((11 * k).toNatClampNeg)) 5 = 0 → ¬ (v.f_noteHas (((11 * k) + 7).toNatClampNeg)) < 0 ∧ (v.f_noteHas (((11 * k) + 7).toNatClampNeg)) < (v.g 14)) ∧ (¬ fq_isOf (v.f_noteHas ((11 * k).toNatClampNeg)) 6 = 0 → ¬ (v.f_noteHas (((11 * k) + 8).toNatClampNeg)) < 0 ∧ (v.f_noteHas (((11 * k) + 8).toNatClampNeg)) < (v.g 13)) ∧ (¬ fq_isOf (v.f_noteHas ((11 * k).toNatClampNeg)) 7 = 0 → ¬ (v.f_noteHas (((11 * k) + 9).toNatClampNeg)) < 0 ∧ (v.f_noteHas (((11 * k) + 9).toNatClampNeg)) < k) := h.low.2.2.2.2.2.2.2.2.2.2.2.2
theorem yh_hto0 {v : YV} (h : yI v) : ¬ (v.g 67) < 0 := h.to0
theorem yh_hto2 {v : YV} (h : yI v) : (v.g 67) ≤ 20 := h.to2
theorem yh_hTC {v : YV} (h : yI v) : ∀ k : Nat, ¬ v.f_toldCount k < 0 ∧ v.f_toldCount k < 20000 := h.tc
theorem yh_h0_iz {v : YV} (h : yI v) : ¬ v.iz < 0 := h.iz0
theorem yh_h2_iz {v : YV} (h : yI v) : v.iz ≤ 20 := h.iz2
/-- the loop's head, with n turns left at most -/
def yLP (l : Launch) (p : Program) (e : Env) (s : State) (m : MethodId) (below : List Frame) (meth : Method) (c : Code) (bs L : Nat) (dC : Nat → ClassId) (dI : Nat → Nat → Nat) (A : Nat → Prop) (n : Nat) : Prop :=
  ∀ (a : YA) (v : YV) (i : Int32) (ce sl : Nat) (H : Heap) (locs : List Loc) (ls : Array Slot), yI v → 0 ≤ i.toInt → i.toInt ≤ 3072 → (L : Int) < i.toInt + 6 + 6 * n → ce + n ≤ 601024 → sl + 6 * n ≤ 7293034 → va_K (dC, dI) vwCl (yK a) s → va_P (dC, dI) vwCl (yW a v) H → va_D A (yW a v) → va_S A s.heap H locs → lv_has ls 7 [(4, .int i), (3, .ref a.o3), (2, .ref a.mq), (1, .ref a.x), (0, .ref bs)] → W p l e room_1 s m #[Value.ref bs] below meth c H locs ce sl (lw_Z below #[Value.ref bs] s) (F0 m 23 ls [])
theorem y_six {i : Int32} (h0 : 0 ≤ i.toInt) (h6 : i.toInt + 6 ≤ 3072) : (i + 6).toInt = i.toInt + 6 := by
  have e6 : (6 : Int32).toInt = 6 := rfl
  rw [Int32.toInt_add, e6]
  exact Int.bmod_eq_of_le (by omega) (by omega)
theorem dL_law_2012 : decode cL_law 2012 = .ok (.iinc 4 6, 3) := by decide +kernel
theorem dL_law_2015 : decode cL_law 2015 = .ok (.goto (-1992), 3) := by decide +kernel
theorem y_inc (l : Launch) {p : Program} {e : Env} {s : State} {m : MethodId} {below : List Frame} {meth : Method} {c : Code} {bs L : Nat} {xs : Nat → Int32} (C0 : lw_At p s m meth c bs L xs) {o3 mq x : Nat} {i : Int32} {H : Heap} {locs : List Loc} {ls : Array Slot} {ce sl : Nat} (hl : lv_has ls 7 [(4, .int i), (3, .ref o3), (2, .ref mq), (1, .ref x), (0, .ref bs)]) (kk : ∀ ls : Array Slot, lv_has ls 7 [(4, .int (i + 6)), (3, .ref o3), (2, .ref mq), (1, .ref x), (0, .ref bs)] → W p l e room_1 s m #[Value.ref bs] below meth c H locs ce sl (lw_Z below #[Value.ref bs] s) (F0 m 23 ls [])) : W p l e room_1 s m #[Value.ref bs] below meth c H locs ce sl (lw_Z below #[Value.ref bs] s) (F0 m 2012 ls []) := by
  obtain ⟨hx, hb, hr, hml, hown, hts, hX, hbl, hlocks, hgv⟩ := id C0
  refine lv_iinc (v := (i + 6)) (lv' := [(4, .int (i + 6)), (3, .ref o3), (2, .ref mq), (1, .ref x), (0, .ref bs)]) hx hb dL_law_2012 hl (k := 0) rfl (rfl) (by decide) rfl (fun ls hl => ?_)
  refine lv_goto (tgt := 23) hx hb dL_law_2015 (by decide) ?_
  exact kk ls hl
