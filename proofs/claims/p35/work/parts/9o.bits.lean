/-- bit n of a number -/
def xb (x : Int32) (n : Nat) : Bool := x.toBitVec.getLsbD n
theorem xb_shr (x k : Int32) (n : Nat) (hs : ((k &&& 31).toBitVec.smod 32).toNat = n) (hn : n < 32) : (((x >>> (k &&& 31)) &&& 1) = 1) ↔ xb x n = true := by
  have e : ((x >>> (k &&& 31)) &&& 1).toBitVec = (x.toBitVec.sshiftRight n) &&& 1#32 := by
    show (x.toBitVec.sshiftRight ((k &&& 31).toBitVec.smod 32).toNat) &&& 1#32 = _
    rw [hs]
  have hg : (x.toBitVec.sshiftRight n).getLsbD 0 = xb x n := by
    rw [BitVec.getLsbD_sshiftRight]
    simp [xb, hn]
  rw [← Int32.toBitVec_inj, e]
  show _ = 1#32 ↔ _
  rw [BitVec.and_one_eq_setWidth_ofBool_getLsbD, hg]
  cases xb x n <;> decide
theorem xb_or (x w : Int32) (n m : Nat) (hs : ((w &&& 31).toBitVec.smod 32).toNat = n) (hm : m < 32) : xb (x ||| ((1 : Int32) <<< (w &&& 31))) m = (xb x m || decide (m = n)) := by
  show (x.toBitVec ||| (1#32 <<< ((w &&& 31).toBitVec.smod 32).toNat)).getLsbD m = _
  rw [hs, BitVec.getLsbD_or, BitVec.getLsbD_shiftLeft, BitVec.getLsbD_one]
  show (xb x m || _) = _
  congr 1
  by_cases h1 : m = n
  · subst h1; simp [hm]
  · by_cases h2 : m < n
    · simp [h1, h2]
    · have h3 : ¬ m - n = 0 := by omega
      simp [h1, h3]
theorem xb_sm {w : Int32} (h0 : ¬ w < 0) (h8 : w < 8) : ((w &&& 31).toBitVec.smod 32).toNat = w.toNatClampNeg ∧ w.toNatClampNeg < 8 := by
  rcases (show w = 0 ∨ w = 1 ∨ w = 2 ∨ w = 3 ∨ w = 4 ∨ w = 5 ∨ w = 6 ∨ w = 7 by lia) with rfl | rfl | rfl | rfl | rfl | rfl | rfl | rfl <;> decide
theorem xb_isOf {x w : Int32} (h0 : ¬ w < 0) (h8 : w < 8) : fq_isOf x w = 0 ↔ xb x w.toNatClampNeg = false := by
  have h := xb_sm h0 h8
  have hq := xb_shr x w _ h.1 (by omega)
  unfold fq_isOf
  by_cases e : ((x >>> (w &&& 31)) &&& 1) = 1
  · rw [if_pos e, hq.mp e]; decide
  · rw [if_neg e]
    cases hb : xb x w.toNatClampNeg with
    | false => decide
    | true => exact absurd (hq.mpr hb) e
/-- how many of the words of a note are said -/
def xc8 (x : Int32) : Nat := (if xb x 0 then 1 else 0) + (if xb x 1 then 1 else 0) + (if xb x 2 then 1 else 0) + (if xb x 3 then 1 else 0) + (if xb x 4 then 1 else 0) + (if xb x 5 then 1 else 0) + (if xb x 6 then 1 else 0) + (if xb x 7 then 1 else 0)
theorem xc8_le (x : Int32) : xc8 x ≤ 8 := by
  unfold xc8
  repeat' split
  all_goals omega
theorem xc8_z : xc8 0 = 0 := by decide
theorem xc8_full {x : Int32} {n : Nat} (h : 8 ≤ xc8 x) (hn : n < 8) : xb x n = true := by
  cases hb : xb x n with
  | true => rfl
  | false =>
    exfalso
    unfold xc8 at h
    rcases (show n = 0 ∨ n = 1 ∨ n = 2 ∨ n = 3 ∨ n = 4 ∨ n = 5 ∨ n = 6 ∨ n = 7 by omega) with rfl | rfl | rfl | rfl | rfl | rfl | rfl | rfl <;> rw [hb] at h <;> revert h <;> simp only [Bool.false_eq_true, if_false] <;> (repeat' split) <;> omega
theorem xc8_or {x w : Int32} (h0 : ¬ w < 0) (h8 : w < 8) (hb : fq_isOf x w = 0) : xc8 (x ||| ((1 : Int32) <<< (w &&& 31))) = xc8 x + 1 := by
  have h := xb_sm h0 h8
  have hb := (xb_isOf h0 h8).mp hb
  unfold xc8
  rw [xb_or x w _ 0 h.1 (by omega), xb_or x w _ 1 h.1 (by omega), xb_or x w _ 2 h.1 (by omega), xb_or x w _ 3 h.1 (by omega), xb_or x w _ 4 h.1 (by omega), xb_or x w _ 5 h.1 (by omega), xb_or x w _ 6 h.1 (by omega), xb_or x w _ 7 h.1 (by omega)]
  generalize w.toNatClampNeg = n at hb h
  rcases (show n = 0 ∨ n = 1 ∨ n = 2 ∨ n = 3 ∨ n = 4 ∨ n = 5 ∨ n = 6 ∨ n = 7 by omega) with rfl | rfl | rfl | rfl | rfl | rfl | rfl | rfl <;> simp [hb] <;> omega
theorem xb_orf {x w k : Int32} (h0 : ¬ w < 0) (h8 : w < 8) (k0 : ¬ k < 0) (k8 : k < 8) (hne : ¬ w = k) : fq_isOf (x ||| ((1 : Int32) <<< (w &&& 31))) k = 0 ↔ fq_isOf x k = 0 := by
  have h := xb_sm h0 h8
  have hk := xb_sm k0 k8
  rw [xb_isOf k0 k8, xb_isOf k0 k8, xb_or x w _ _ h.1 (by omega)]
  have hn : ¬ k.toNatClampNeg = w.toNatClampNeg := fun e => hne (by
    have a := xi_nat h0
    have b := xi_nat k0
    exact Int32.toInt_inj.mp (by omega))
  simp [hn]
/-- what a word read leaves: the fields of its note alone -/
def xSw (w g np nf nn : Int32) : Prop := (w = 5 → ¬ g < 0 ∧ g < np) ∧ (w = 6 → ¬ g < 0 ∧ g < nf) ∧ (w = 7 → ¬ g < 0 ∧ g < nn)
def xSy (f g : Nat → Int32) (b w np nf nn : Int32) : Prop := (∀ i : Nat, i ≤ b.toNatClampNeg → g i = f i) ∧ (w = 5 → ¬ g (b.toNatClampNeg + 7) < 0 ∧ g (b.toNatClampNeg + 7) < np) ∧ (¬ w = 5 → g (b.toNatClampNeg + 7) = f (b.toNatClampNeg + 7)) ∧ (w = 6 → ¬ g (b.toNatClampNeg + 8) < 0 ∧ g (b.toNatClampNeg + 8) < nf) ∧ (¬ w = 6 → g (b.toNatClampNeg + 8) = f (b.toNatClampNeg + 8)) ∧ (w = 7 → ¬ g (b.toNatClampNeg + 9) < 0 ∧ g (b.toNatClampNeg + 9) < nn) ∧ (¬ w = 7 → g (b.toNatClampNeg + 9) = f (b.toNatClampNeg + 9))
theorem xb_ad {b j : Int32} (b0 : ¬ b < 0) (b9 : b ≤ 250) (j0 : ¬ j < 0) (j9 : j ≤ 12) : (b + j).toNatClampNeg = b.toNatClampNeg + j.toNatClampNeg := by
  have a0 := xi_nn b0
  have a9 := xi_le b9
  have c0 := xi_nn j0
  have c9 := xi_le j9
  have e12 : (12 : Int32).toInt = 12 := rfl
  have e250 : (250 : Int32).toInt = 250 := rfl
  have e : (b + j).toInt = b.toInt + j.toInt := by
    rw [Int32.toInt_add]
    exact Int.bmod_eq_of_le (by omega) (by omega)
  have r1 := xi_nat b0
  have r2 := xi_nat j0
  have r3 : ((b + j).toNatClampNeg : Int) = (b + j).toInt := by
    show (((b + j).toInt.toNat : Nat) : Int) = _
    exact Int.toNat_of_nonneg (by omega)
  omega
section XSY
variable {f : Nat → Int32} {b w np nf nn x y : Int32}
theorem xSy_0 (b0 : ¬ b < 0) (b9 : b ≤ 250) (hw : w = 0) : xSy f (upd (upd f ((b + 1).toNatClampNeg) x) ((b + 2).toNatClampNeg) y) b w np nf nn := by
  subst hw
  rw [xb_ad b0 b9 (j := 1) (by decide) (by decide), xb_ad b0 b9 (j := 2) (by decide) (by decide), show (1 : Int32).toNatClampNeg = 1 from rfl, show (2 : Int32).toNatClampNeg = 2 from rfl]
  unfold xSy upd
  refine ⟨fun i hi => by rw [if_neg (by omega), if_neg (by omega)], fun e => absurd e (by decide), fun _ => by rw [if_neg (by omega), if_neg (by omega)], fun e => absurd e (by decide), fun _ => by rw [if_neg (by omega), if_neg (by omega)], fun e => absurd e (by decide), fun _ => by rw [if_neg (by omega), if_neg (by omega)]⟩
theorem xSy_1 (b0 : ¬ b < 0) (b9 : b ≤ 250) (w1 : ¬ w < 1) (w8 : w < 8) (hs : xSw w x np nf nn) : xSy f (upd f (((b + 2) + w).toNatClampNeg) x) b w np nf nn := by
  have e : ((b + 2) + w).toNatClampNeg = b.toNatClampNeg + 2 + w.toNatClampNeg := by
    have h1 := xb_ad b0 b9 (j := 2 + w) (by lia) (by lia)
    have h2 := xl_ad (n := w) 2 (by decide) (by decide) (by lia) (by lia)
    rw [show b + 2 + w = b + (2 + w) by lia, h1, h2, show (2 : Int32).toNatClampNeg = 2 from rfl]
    omega
  rw [e]
  have hn := xi_nat (w := w) (by lia)
  have n5 : w = 5 ↔ w.toNatClampNeg = 5 := by
    constructor
    · intro q; subst q; rfl
    · intro q; exact Int32.toInt_inj.mp (by rw [← hn, q]; rfl)
  have n6 : w = 6 ↔ w.toNatClampNeg = 6 := by
    constructor
    · intro q; subst q; rfl
    · intro q; exact Int32.toInt_inj.mp (by rw [← hn, q]; rfl)
  have n7 : w = 7 ↔ w.toNatClampNeg = 7 := by
    constructor
    · intro q; subst q; rfl
    · intro q; exact Int32.toInt_inj.mp (by rw [← hn, q]; rfl)
  have n1 : 1 ≤ w.toNatClampNeg := by
    have := xi_le (Int32.not_lt.mp w1)
    have e1 : (1 : Int32).toInt = 1 := rfl
    omega
  unfold xSy upd
  refine ⟨fun i hi => by rw [if_neg (by omega)], fun q => ?_, fun q => ?_, fun q => ?_, fun q => ?_, fun q => ?_, fun q => ?_⟩
  · rw [if_pos (by have := n5.mp q; omega)]; exact hs.1 q
  · rw [if_neg (by have := mt n5.mpr q; omega)]
  · rw [if_pos (by have := n6.mp q; omega)]; exact hs.2.1 q
  · rw [if_neg (by have := mt n6.mpr q; omega)]
  · rw [if_pos (by have := n7.mp q; omega)]; exact hs.2.2 q
  · rw [if_neg (by have := mt n7.mpr q; omega)]
theorem xSy_7 {g : Nat → Int32} (b0 : ¬ b < 0) (b9 : b ≤ 250) (q : xSy f g b w np nf nn) : xSy f (upd g ((b + 10).toNatClampNeg) y) b w np nf nn := by
  rw [xb_ad b0 b9 (j := 10) (by decide) (by decide), show (10 : Int32).toNatClampNeg = 10 from rfl]
  have u7 : upd g (b.toNatClampNeg + 10) y (b.toNatClampNeg + 7) = g (b.toNatClampNeg + 7) := if_neg (by omega)
  have u8 : upd g (b.toNatClampNeg + 10) y (b.toNatClampNeg + 8) = g (b.toNatClampNeg + 8) := if_neg (by omega)
  have u9 : upd g (b.toNatClampNeg + 10) y (b.toNatClampNeg + 9) = g (b.toNatClampNeg + 9) := if_neg (by omega)
  unfold xSy
  rw [u7, u8, u9]
  exact ⟨fun i hi => by rw [show upd g (b.toNatClampNeg + 10) y i = g i from if_neg (by omega)]; exact q.1 i hi, q.2⟩
theorem xSw_n (h5 : ¬ w = 5) (h6 : ¬ w = 6) (h7 : ¬ w = 7) : xSw w x np nf nn := ⟨fun e => absurd e h5, fun e => absurd e h6, fun e => absurd e h7⟩
theorem xSw_5 {r : Int32} (h1 : r = 0 ∨ ¬ x < 0) (h2 : r = 0 ∨ x < np) (hw : w = 5) : r = 0 ∨ xSw w x np nf nn := by
  by_cases e : r = 0
  · exact Or.inl e
  · exact Or.inr ⟨fun _ => ⟨h1.resolve_left e, h2.resolve_left e⟩, fun q => absurd (hw.symm.trans q) (by decide), fun q => absurd (hw.symm.trans q) (by decide)⟩
theorem xSw_6 {r : Int32} (h1 : r = 0 ∨ ¬ x < 0) (h2 : r = 0 ∨ x < nf) (hw : w = 6) : r = 0 ∨ xSw w x np nf nn := by
  by_cases e : r = 0
  · exact Or.inl e
  · exact Or.inr ⟨fun q => absurd (hw.symm.trans q) (by decide), fun _ => ⟨h1.resolve_left e, h2.resolve_left e⟩, fun q => absurd (hw.symm.trans q) (by decide)⟩
theorem xSw_7 {r : Int32} (h1 : r = 0 ∨ ¬ x < 0) (h2 : r = 0 ∨ x < nn) (hw : w = 7) : r = 0 ∨ xSw w x np nf nn := by
  by_cases e : r = 0
  · exact Or.inl e
  · exact Or.inr ⟨fun q => absurd (hw.symm.trans q) (by decide), fun q => absurd (hw.symm.trans q) (by decide), fun _ => ⟨h1.resolve_left e, h2.resolve_left e⟩⟩
end XSY

section XNT
variable {f g : Nat → Int32} {n np nf w : Int32}
theorem xn_ub {j : Int32} (n0 : ¬ n < 0) (n5 : n ≤ 5) : (132 + (11 * n)).toNatClampNeg = 132 + 11 * n.toNatClampNeg := by
  rw [xl_ix0 132 11 (by decide) (by decide) (by decide) (by decide) n0 (by lia)]
  rfl
theorem xn_uj {j : Int32} (n0 : ¬ n < 0) (n5 : n ≤ 5) (j0 : ¬ j < 0) (j9 : j ≤ 12) : ((132 + (11 * n)) + j).toNatClampNeg = 132 + 11 * n.toNatClampNeg + j.toNatClampNeg := by
  rw [xl_ix 132 11 (by decide) (by decide) (by decide) (by decide) n0 (by lia) j0 j9]
  rfl
theorem xn_n5 (n0 : ¬ n < 0) (n5 : n ≤ 5) : n.toNatClampNeg ≤ 5 := by
  have := xi_nat n0
  have := xi_le n5
  have e : (5 : Int32).toInt = 5 := rfl
  omega
theorem xn_u0 (n0 : ¬ n < 0) (n5 : n ≤ 5) : vp_in (132 + (11 * n)) 264 := by
  have h1 := xn_ub (j := 0) n0 n5
  have h2 := xn_n5 n0 n5
  exact fun q => q.elim (fun h => absurd h (by lia)) (fun h => by omega)
theorem xn_uk {j : Int32} (n0 : ¬ n < 0) (n5 : n ≤ 5) (j0 : ¬ j < 0) (j9 : j ≤ 10) : vp_in ((132 + (11 * n)) + j) 264 := by
  have h1 := xn_uj n0 n5 j0 (by lia)
  have h2 := xn_n5 n0 n5
  have h3 := xi_nat j0
  have h4 := xi_le j9
  have e : (10 : Int32).toInt = 10 := rfl
  exact fun q => q.elim (fun h => absurd h (by lia)) (fun h => by omega)
theorem xNb_c {b k : Nat} (h : ∀ i, b ≤ i → i ≤ b + 9 → g i = f i) (q : xNb f b np nf k) : xNb g b np nf k := by
  unfold xNb at *
  rw [h b (by omega) (by omega), h (b + 7) (by omega) (by omega), h (b + 8) (by omega) (by omega), h (b + 9) (by omega) (by omega)]
  exact q
theorem xNA_c (h : ∀ i, i < 132 + 11 * n.toNatClampNeg → g i = f i) (q : xNA f n np nf) : xNA g n np nf := fun k hk => xNb_c (fun i _ hi => h i (by omega)) (q k hk)
theorem xNA_w {j x : Int32} (q : xNA f n np nf) (n0 : ¬ n < 0) (n5 : n ≤ 5) (j0 : ¬ j < 0) (j9 : j ≤ 12) : xNA (upd f (((132 + (11 * n)) + j).toNatClampNeg) x) n np nf := by
  rw [xn_uj n0 n5 j0 j9]
  exact xNA_c (fun i hi => if_neg (by omega)) q
theorem xNZ {L : Int32} (n0 : ¬ n < 0) (n5 : n ≤ 5) (j0 : ¬ L < 0) (j9 : L ≤ 12) (h : L = 0 ∨ f ((132 + (11 * n)).toNatClampNeg) = 0) : (L + 1) = 0 ∨ upd f (((132 + (11 * n)) + L).toNatClampNeg) 0 ((132 + (11 * n)).toNatClampNeg) = 0 := by
  refine Or.inr ?_
  rw [xn_uj n0 n5 j0 j9]
  rw [xn_ub (j := 0) n0 n5] at h ⊢
  unfold upd
  by_cases e : 132 + 11 * n.toNatClampNeg = 132 + 11 * n.toNatClampNeg + L.toNatClampNeg
  · rw [if_pos e]
  · rw [if_neg e]
    exact h.resolve_left (fun q => e (by subst q; rfl))
def xNq (f : Nat → Int32) (b np nf nn : Int32) : Prop := xNb f b.toNatClampNeg np nf nn.toNatClampNeg
theorem xb_0 {k : Int32} : fq_isOf 0 k = 0 := by
  unfold fq_isOf
  rw [if_neg]
  have e : ((0 : Int32) >>> (k &&& 31)) = 0 := by
    rw [← Int32.toBitVec_inj]
    show (0#32).sshiftRight _ = 0#32
    rw [BitVec.zero_sshiftRight]
  rw [e]
  decide
theorem xNq_z {b nn : Int32} (h : f b.toNatClampNeg = 0) : xNq f b np nf nn := by
  unfold xNq xNb
  rw [h]
  exact ⟨fun q => absurd xb_0 q, fun q => absurd xb_0 q, fun q => absurd xb_0 q⟩
def xcL (x : Int32) (n : Nat) : Prop := 8 ≤ xc8 x + n
theorem xcL_z {x : Int32} (h : x = 0) : xcL x 8 := by
  subst h
  unfold xcL
  rw [xc8_z]
  decide
theorem xcL_full {x r : Int32} (h : xcL x 0) (hr : r = fq_isOf x w) (w0 : ¬ w < 0) (w8 : w < 8) : ¬ r = 0 := fun e => by
  have h1 := (xb_isOf (x := x) w0 w8).mp (hr.symm.trans e)
  have h2 := xc8_full (x := x) (n := w.toNatClampNeg) h (xb_sm w0 w8).2
  rw [h2] at h1
  cases h1
/-- a word more of the note that is read -/
theorem xN_step {m : Nat} (n0 : ¬ n < 0) (n5 : n ≤ 5) (w0 : ¬ w < 0) (w8 : w < 8) (hA : xNA f n np nf) (hB : xNq f (132 + (11 * n)) np nf n) (hf : xcL (f ((132 + (11 * n)).toNatClampNeg)) (m + 1)) (hu : fq_isOf (f ((132 + (11 * n)).toNatClampNeg)) w = 0)
    (hS : xSy (upd f ((132 + (11 * n)).toNatClampNeg) ((f ((132 + (11 * n)).toNatClampNeg)) ||| ((1 : Int32) <<< (w &&& 31)))) g (132 + (11 * n)) w np nf n) : xNA g n np nf ∧ xNq g (132 + (11 * n)) np nf n ∧ xcL (g ((132 + (11 * n)).toNatClampNeg)) m := by
  have hb := xn_ub (j := 0) n0 n5
  unfold xNq at hB ⊢
  obtain ⟨s0, s5, s5', s6, s6', s7, s7'⟩ := hS
  simp only [hb] at hB hf hu s0 s5 s5' s6 s6' s7 s7' ⊢
  have hg : g (132 + 11 * n.toNatClampNeg) = f (132 + 11 * n.toNatClampNeg) ||| ((1 : Int32) <<< (w &&& 31)) := by
    rw [s0 _ (Nat.le_refl _)]
    exact if_pos rfl
  have hlow : ∀ i, i < 132 + 11 * n.toNatClampNeg → g i = f i := fun i hi => by
    rw [s0 i (by omega)]
    exact if_neg (by omega)
  have up : ∀ j, 0 < j → upd f (132 + 11 * n.toNatClampNeg) (f (132 + 11 * n.toNatClampNeg) ||| ((1 : Int32) <<< (w &&& 31))) (132 + 11 * n.toNatClampNeg + j) = f (132 + 11 * n.toNatClampNeg + j) := fun j hj => if_neg (by omega)
  refine ⟨xNA_c hlow hA, ⟨fun q => ?_, fun q => ?_, fun q => ?_⟩, ?_⟩
  · rw [hg] at q
    by_cases e : w = 5
    · exact s5 e
    · rw [s5' e, up 7 (by decide)]
      exact hB.1 (fun z => q ((xb_orf w0 w8 (by decide) (by decide) e).mpr z))
  · rw [hg] at q
    by_cases e : w = 6
    · exact s6 e
    · rw [s6' e, up 8 (by decide)]
      exact hB.2.1 (fun z => q ((xb_orf w0 w8 (by decide) (by decide) e).mpr z))
  · rw [hg] at q
    by_cases e : w = 7
    · have h := s7 e
      refine ⟨h.1, ?_⟩
      have h2 := Int32.lt_iff_toInt_lt.mp h.2
      rw [xi_nat n0]
      exact h2
    · rw [s7' e, up 9 (by decide)]
      exact hB.2.2 (fun z => q ((xb_orf w0 w8 (by decide) (by decide) e).mpr z))
  · rw [hg]
    unfold xcL at *
    rw [xc8_or w0 w8 hu]
    omega
theorem xNA_1 (q : xNA f n np nf) (hB : xNq f (132 + (11 * n)) np nf n) (n0 : ¬ n < 0) (n5 : n ≤ 5) : xNA f (n + 1) np nf := by
  intro k hk
  rw [xi_natS n0 (by lia)] at hk
  by_cases e : k = n.toNatClampNeg
  · subst e
    unfold xNq at hB
    rw [xn_ub (j := 0) n0 n5] at hB
    exact hB
  · exact q k (by omega)
end XNT
