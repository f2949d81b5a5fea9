theorem zite {α : Type} {p q : Prop} [Decidable p] [Decidable q] (h : p = q) {a b : α} : (if p then a else b) = (if q then a else b) := by
  by_cases c : p
  · rw [if_pos c, if_pos (h ▸ c)]
  · rw [if_neg c, if_neg (h ▸ c)]
theorem zn1 {α : Type} {a b : α} : (if (1 : Int32) = 0 then a else b) = b := if_neg (by decide)
theorem zn0 {α : Type} {a b : α} : (if (0 : Int32) = 0 then a else b) = a := if_pos rfl
def zB (b t : Int32) : Prop := (¬ b < 0 ∧ t = b) ∨ (b < 0 ∧ 127 < t)
def zBy (fBy ft : Nat → Int32) (st : Int32) : Prop := ∀ k : Int32, ¬ k < 0 → k < st → zB (fBy k.toNatClampNeg) (ft k.toNatClampNeg)
theorem zB_eq {b t c : Int32} (h : zB b t) (c0 : ¬ c < 0) (c1 : c ≤ 127) : (b = c) = (t = c) := by
  rcases h with ⟨h1, h2⟩ | ⟨h1, h2⟩
  · rw [h2]
  · exact propext ⟨fun e => absurd h1 (by lia), fun e => absurd h2 (by lia)⟩
theorem zB_in {b t lo hi : Int32} (h : zB b t) (c0 : ¬ lo < 0) (c1 : hi ≤ 127) : (b < lo ∨ hi < b) ↔ (t < lo ∨ hi < t) := by
  rcases h with ⟨h1, h2⟩ | ⟨h1, h2⟩
  · rw [h2]
  · exact ⟨fun _ => Or.inr (by lia), fun _ => Or.inl (by lia)⟩
theorem zB_same {b t lo hi : Int32} (h : zB b t) (c0 : ¬ lo < 0) (c1 : ¬ b < lo) : t = b := by
  rcases h with ⟨h1, h2⟩ | ⟨h1, h2⟩
  · exact h2
  · exact absurd h1 (by lia)
theorem zws {fBy ft : Nat → Int32} {st : Int32} (hB : zBy fBy ft st) (s9 : st ≤ 900) : ∀ (n : Nat) (a : Int32), ¬ a < 0 → a ≤ st →
    fe_advance_c st fBy n a = fq_token_a ft st n a ∧ ¬ fq_token_a ft st n a < a ∧ fq_token_a ft st n a ≤ st := by
  intro n
  induction n with
  | zero => intro a a0 a1; exact ⟨rfl, by rw [fq_token_a]; lia, a1⟩
  | succ n ih =>
    intro a a0 a1
    rw [fe_advance_c, fq_token_a]
    by_cases c : st ≤ a
    · rw [if_pos c, if_pos c]; exact ⟨rfl, by lia, a1⟩
    · rw [if_neg c, if_neg c]
      have hb := hB a a0 (by lia)
      rw [zite (zB_eq hb (c := 10) (by decide) (by decide)), zite (zB_eq hb (c := 32) (by decide) (by decide))]
      by_cases d : ft a.toNatClampNeg = 10
      · rw [if_pos d, if_pos d]
        obtain ⟨i1, i2, i3⟩ := ih (a + 1) (by lia) (by lia)
        exact ⟨i1, by lia, i3⟩
      · rw [if_neg d, if_neg d]
        by_cases e : ft a.toNatClampNeg = 32
        · rw [if_pos e, if_pos e]
          obtain ⟨i1, i2, i3⟩ := ih (a + 1) (by lia) (by lia)
          exact ⟨i1, by lia, i3⟩
        · rw [if_neg e, if_neg e]; exact ⟨rfl, by lia, a1⟩
theorem zsm {fBy ft : Nat → Int32} {st a : Int32} (hB : zBy fBy ft st) (a0 : ¬ a < 0) (a1 : a < st) :
    (fq_isSmall ft a st = 0 ∧ (fBy a.toNatClampNeg < 97 ∨ 122 < fBy a.toNatClampNeg)) ∨ (fq_isSmall ft a st = 1 ∧ ¬ fBy a.toNatClampNeg < 97 ∧ ¬ 122 < fBy a.toNatClampNeg ∧ ft a.toNatClampNeg = fBy a.toNatClampNeg) := by
  have hb := hB a a0 a1
  have hi := zB_in hb (lo := 97) (hi := 122) (by decide) (by decide)
  rw [fq_isSmall, if_neg (by lia)]
  by_cases c : ft a.toNatClampNeg < 97
  · rw [if_pos c]; exact Or.inl ⟨rfl, hi.mpr (Or.inl c)⟩
  · rw [if_neg c]
    by_cases d : 122 < ft a.toNatClampNeg
    · rw [if_pos d]; exact Or.inl ⟨rfl, hi.mpr (Or.inr d)⟩
    · rw [if_neg d]
      have q : ¬ (fBy a.toNatClampNeg < 97 ∨ 122 < fBy a.toNatClampNeg) := fun q => (hi.mp q).elim c d
      have q1 : ¬ fBy a.toNatClampNeg < 97 := fun z => q (Or.inl z)
      exact Or.inr ⟨rfl, q1, fun z => q (Or.inr z), zB_same (lo := 97) (hi := 122) hb (by decide) q1⟩
theorem zdg {fBy ft : Nat → Int32} {st a : Int32} (hB : zBy fBy ft st) (a0 : ¬ a < 0) (a1 : a < st) :
    (fq_isDigit ft a st = 0 ∧ (fBy a.toNatClampNeg < 48 ∨ 57 < fBy a.toNatClampNeg)) ∨ (fq_isDigit ft a st = 1 ∧ ¬ fBy a.toNatClampNeg < 48 ∧ ¬ 57 < fBy a.toNatClampNeg ∧ ft a.toNatClampNeg = fBy a.toNatClampNeg) := by
  have hb := hB a a0 a1
  have hi := zB_in hb (lo := 48) (hi := 57) (by decide) (by decide)
  rw [fq_isDigit, if_neg (by lia)]
  by_cases c : ft a.toNatClampNeg < 48
  · rw [if_pos c]; exact Or.inl ⟨rfl, hi.mpr (Or.inl c)⟩
  · rw [if_neg c]
    by_cases d : 57 < ft a.toNatClampNeg
    · rw [if_pos d]; exact Or.inl ⟨rfl, hi.mpr (Or.inr d)⟩
    · rw [if_neg d]
      have q : ¬ (fBy a.toNatClampNeg < 48 ∨ 57 < fBy a.toNatClampNeg) := fun q => (hi.mp q).elim c d
      have q1 : ¬ fBy a.toNatClampNeg < 48 := fun z => q (Or.inl z)
      exact Or.inr ⟨rfl, q1, fun z => q (Or.inr z), zB_same (lo := 48) (hi := 57) hb (by decide) q1⟩
theorem zwb {fBy ft : Nat → Int32} {st p : Int32} (hB : zBy fBy ft st) (s9 : st ≤ 900) : ∀ (n : Nat) (L a : Int32), ¬ a < 0 → a ≤ st →
    (fe_readWord_c st p fBy n L a).2 = fq_token_b ft st n a ∧ ¬ fq_token_b ft st n a < a ∧ fq_token_b ft st n a ≤ st ∧
    (∀ k : Int32, ¬ k < a → k < fq_token_b ft st n a → ¬ ft k.toNatClampNeg < 97 ∧ ft k.toNatClampNeg ≤ 122) := by
  intro n
  induction n with
  | zero => intro L a a0 a1; rw [fe_readWord_c, fq_token_b, xL_eq]; exact ⟨rfl, by lia, a1, fun k k0 k1 => absurd k1 k0⟩
  | succ n ih =>
    intro L a a0 a1
    rw [fe_readWord_c, fq_token_b, xL_eq]
    by_cases c : st ≤ a
    · rw [if_pos c, fq_isSmall, if_pos c, if_pos rfl]; exact ⟨rfl, by lia, a1, fun k k0 k1 => absurd k1 k0⟩
    · rw [if_neg c]
      rcases zsm hB a0 (by lia) with ⟨e, h⟩ | ⟨e, h1, h2, h3⟩
      · rw [e, if_pos rfl]
        refine ⟨?_, by lia, a1, fun k k0 k1 => absurd k1 k0⟩
        by_cases d : fBy a.toNatClampNeg < 97
        · rw [if_pos d]
        · rw [if_neg d, if_pos (h.resolve_left d)]
      · rw [e, if_neg h1, if_neg h2, zn1]
        have hz : ∀ L2 : Int32, (fe_readWord_c st p fBy n L2 (a + 1)).2 = fq_token_b ft st n (a + 1) ∧ ¬ fq_token_b ft st n (a + 1) < a ∧ fq_token_b ft st n (a + 1) ≤ st ∧ (∀ k : Int32, ¬ k < a → k < fq_token_b ft st n (a + 1) → ¬ ft k.toNatClampNeg < 97 ∧ ft k.toNatClampNeg ≤ 122) := by
          intro L2
          obtain ⟨g1, g2, g3, g4⟩ := ih L2 (a + 1) (by lia) (by lia)
          refine ⟨g1, by lia, g3, fun k k0 k1 => ?_⟩
          by_cases q : k = a
          · rw [q, h3]; exact ⟨h1, by lia⟩
          · exact g4 k (by lia) k1
        by_cases d : 6 ≤ a - p
        · rw [if_pos d]; exact hz L
        · rw [if_neg d]; exact hz _
theorem zsh (L : Int32) (x y z : Int32) (h : (L.toBitVec <<< x.toBitVec.smod 32) <<< y.toBitVec.smod 32 = L.toBitVec <<< z.toBitVec.smod 32) : (L <<< x) <<< y = L <<< z := Int32.toBitVec_inj.mp h
theorem zsh2 (L : Int32) : (L <<< (5 : Int32)) <<< (5 : Int32) = L <<< (10 : Int32) := by
  apply Int32.toBitVec_inj.mp
  have h : (L.toBitVec <<< 5) <<< 5 = L.toBitVec <<< 10 := (BitVec.shiftLeft_add L.toBitVec 5 5).symm
  exact h
theorem zsh3 (L : Int32) : (L <<< (10 : Int32)) <<< (5 : Int32) = L <<< (15 : Int32) := by
  apply Int32.toBitVec_inj.mp
  have h : (L.toBitVec <<< 10) <<< 5 = L.toBitVec <<< 15 := (BitVec.shiftLeft_add L.toBitVec 10 5).symm
  exact h
theorem zsh4 (L : Int32) : (L <<< (15 : Int32)) <<< (5 : Int32) = L <<< (20 : Int32) := by
  apply Int32.toBitVec_inj.mp
  have h : (L.toBitVec <<< 15) <<< 5 = L.toBitVec <<< 20 := (BitVec.shiftLeft_add L.toBitVec 15 5).symm
  exact h
theorem zsh5 (L : Int32) : (L <<< (20 : Int32)) <<< (5 : Int32) = L <<< (25 : Int32) := by
  apply Int32.toBitVec_inj.mp
  have h : (L.toBitVec <<< 20) <<< 5 = L.toBitVec <<< 25 := (BitVec.shiftLeft_add L.toBitVec 20 5).symm
  exact h
theorem zsh6 (L : Int32) : (L <<< (25 : Int32)) <<< (5 : Int32) = L <<< (30 : Int32) := by
  apply Int32.toBitVec_inj.mp
  have h : (L.toBitVec <<< 25) <<< 5 = L.toBitVec <<< 30 := (BitVec.shiftLeft_add L.toBitVec 25 5).symm
  exact h
theorem zA0 {ft : Nat → Int32} {p L : Int32} (p0 : ¬ p < 0) (p9 : p ≤ 900) : L <<< ((5 * (6 - ((p + 6) - p))) &&& 31) = fq_packed_d ft p (p + 6) 0 L (p + 6) := by
  have e : (5 * (6 - ((p + 6) - p))) &&& 31 = (0 : Int32) := by
    rw [show (p + 6) - p = (6 : Int32) from by lia]; decide
  have e5 : (5 : Int32) &&& 31 = 5 := by decide
  rw [e]
  rw [fq_packed_d]
  exact Int32.toBitVec_inj.mp (BitVec.shiftLeft_zero L.toBitVec)
theorem zA1 {ft : Nat → Int32} {p L : Int32} (p0 : ¬ p < 0) (p9 : p ≤ 900) : L <<< ((5 * (6 - ((p + 5) - p))) &&& 31) = fq_packed_d ft p (p + 5) 1 L (p + 5) := by
  have e : (5 * (6 - ((p + 5) - p))) &&& 31 = (5 : Int32) := by
    rw [show (p + 5) - p = (5 : Int32) from by lia]; decide
  have e5 : (5 : Int32) &&& 31 = 5 := by decide
  rw [e]
  rw [fq_packed_d, if_neg (by lia), if_pos (by lia)]
  rw [fq_packed_d]
  simp only [e5, Int32.or_zero]
theorem zA2 {ft : Nat → Int32} {p L : Int32} (p0 : ¬ p < 0) (p9 : p ≤ 900) : L <<< ((5 * (6 - ((p + 4) - p))) &&& 31) = fq_packed_d ft p (p + 4) 2 L (p + 4) := by
  have e : (5 * (6 - ((p + 4) - p))) &&& 31 = (10 : Int32) := by
    rw [show (p + 4) - p = (4 : Int32) from by lia]; decide
  have e5 : (5 : Int32) &&& 31 = 5 := by decide
  rw [e]
  rw [fq_packed_d, if_neg (by lia), if_pos (by lia)]
  rw [fq_packed_d, if_neg (by lia), if_pos (by lia)]
  rw [fq_packed_d]
  simp only [e5, Int32.or_zero]
  rw [zsh2 L]
theorem zA3 {ft : Nat → Int32} {p L : Int32} (p0 : ¬ p < 0) (p9 : p ≤ 900) : L <<< ((5 * (6 - ((p + 3) - p))) &&& 31) = fq_packed_d ft p (p + 3) 3 L (p + 3) := by
  have e : (5 * (6 - ((p + 3) - p))) &&& 31 = (15 : Int32) := by
    rw [show (p + 3) - p = (3 : Int32) from by lia]; decide
  have e5 : (5 : Int32) &&& 31 = 5 := by decide
  rw [e]
  rw [fq_packed_d, if_neg (by lia), if_pos (by lia)]
  rw [fq_packed_d, if_neg (by lia), if_pos (by lia)]
  rw [fq_packed_d, if_neg (by lia), if_pos (by lia)]
  rw [fq_packed_d]
  simp only [e5, Int32.or_zero]
  rw [zsh2 L, zsh3 L]
theorem zA4 {ft : Nat → Int32} {p L : Int32} (p0 : ¬ p < 0) (p9 : p ≤ 900) : L <<< ((5 * (6 - ((p + 2) - p))) &&& 31) = fq_packed_d ft p (p + 2) 4 L (p + 2) := by
  have e : (5 * (6 - ((p + 2) - p))) &&& 31 = (20 : Int32) := by
    rw [show (p + 2) - p = (2 : Int32) from by lia]; decide
  have e5 : (5 : Int32) &&& 31 = 5 := by decide
  rw [e]
  rw [fq_packed_d, if_neg (by lia), if_pos (by lia)]
  rw [fq_packed_d, if_neg (by lia), if_pos (by lia)]
  rw [fq_packed_d, if_neg (by lia), if_pos (by lia)]
  rw [fq_packed_d, if_neg (by lia), if_pos (by lia)]
  rw [fq_packed_d]
  simp only [e5, Int32.or_zero]
  rw [zsh2 L, zsh3 L, zsh4 L]
theorem zA5 {ft : Nat → Int32} {p L : Int32} (p0 : ¬ p < 0) (p9 : p ≤ 900) : L <<< ((5 * (6 - ((p + 1) - p))) &&& 31) = fq_packed_d ft p (p + 1) 5 L (p + 1) := by
  have e : (5 * (6 - ((p + 1) - p))) &&& 31 = (25 : Int32) := by
    rw [show (p + 1) - p = (1 : Int32) from by lia]; decide
  have e5 : (5 : Int32) &&& 31 = 5 := by decide
  rw [e]
  rw [fq_packed_d, if_neg (by lia), if_pos (by lia)]
  rw [fq_packed_d, if_neg (by lia), if_pos (by lia)]
  rw [fq_packed_d, if_neg (by lia), if_pos (by lia)]
  rw [fq_packed_d, if_neg (by lia), if_pos (by lia)]
  rw [fq_packed_d, if_neg (by lia), if_pos (by lia)]
  rw [fq_packed_d]
  simp only [e5, Int32.or_zero]
  rw [zsh2 L, zsh3 L, zsh4 L, zsh5 L]
theorem zA6 {ft : Nat → Int32} {p L : Int32} (p0 : ¬ p < 0) (p9 : p ≤ 900) : L <<< ((5 * (6 - ((p + 0) - p))) &&& 31) = fq_packed_d ft p (p + 0) 6 L (p + 0) := by
  have e : (5 * (6 - ((p + 0) - p))) &&& 31 = (30 : Int32) := by
    rw [show (p + 0) - p = (0 : Int32) from by lia]; decide
  have e5 : (5 : Int32) &&& 31 = 5 := by decide
  rw [e]
  rw [fq_packed_d, if_neg (by lia), if_pos (by lia)]
  rw [fq_packed_d, if_neg (by lia), if_pos (by lia)]
  rw [fq_packed_d, if_neg (by lia), if_pos (by lia)]
  rw [fq_packed_d, if_neg (by lia), if_pos (by lia)]
  rw [fq_packed_d, if_neg (by lia), if_pos (by lia)]
  rw [fq_packed_d, if_neg (by lia), if_pos (by lia)]
  rw [fq_packed_d]
  simp only [e5, Int32.or_zero]
  rw [zsh2 L, zsh3 L, zsh4 L, zsh5 L, zsh6 L]
def zP (fBy ft : Nat → Int32) (st p : Int32) (j : Nat) (a : Int32) : Prop := ∀ (n : Nat) (L : Int32), (fe_readWord_c st p fBy n L a).2 - p ≤ 6 → (fe_readWord_c st p fBy n L a).1 <<< ((5 * (6 - ((fe_readWord_c st p fBy n L a).2 - p))) &&& 31) = fq_packed_d ft p (fe_readWord_c st p fBy n L a).2 j L a
theorem zP_0 {fBy ft : Nat → Int32} {st p : Int32} (hB : zBy fBy ft st) (s9 : st ≤ 900) (p0 : ¬ p < 0) (p9 : p ≤ 900) (ha : p + 6 ≤ st) : zP fBy ft st p 0 (p + 6) := by
  intro n L h
  have hw := zwb (p := p) hB s9 n L (p + 6) (by lia) ha
  have hz : (fe_readWord_c st p fBy n L (p + 6)) = (L, p + 6) := by
    cases n with
    | zero => rw [fe_readWord_c]
    | succ n =>
      rw [fe_readWord_c] at h ⊢
      by_cases c : st ≤ p + 6
      · rw [if_pos c]
      · rw [if_neg c] at h ⊢
        by_cases d : fBy (p + 6).toNatClampNeg < 97
        · rw [if_pos d]
        · rw [if_neg d] at h ⊢
          by_cases e : 122 < fBy (p + 6).toNatClampNeg
          · rw [if_pos e]
          · rw [if_neg e, if_pos (by lia)] at h
            exfalso
            have g := zwb (p := p) hB s9 n L (p + 6 + 1) (by lia) (by lia)
            have g1 := g.1
            have g2 := g.2.1
            have g3 := g.2.2.1
            rw [← g1] at g2 g3
            lia
  rw [hz] at h ⊢
  exact zA0 p0 p9
theorem zP_s {fBy ft : Nat → Int32} {st p a : Int32} {j : Nat} (hB : zBy fBy ft st) (s9 : st ≤ 900) (p0 : ¬ p < 0) (p9 : p ≤ 900) (a0 : ¬ a < p) (a6 : a < p + 6) (ha : a ≤ st)
    (hA : ∀ L : Int32, L <<< ((5 * (6 - (a - p))) &&& 31) = fq_packed_d ft p a (j + 1) L a) (ih : a < st → zP fBy ft st p j (a + 1)) : zP fBy ft st p (j + 1) a := by
  intro n L
  cases n with
  | zero => rw [fe_readWord_c]; intro h; exact hA L
  | succ n =>
    rw [fe_readWord_c]
    by_cases c : st ≤ a
    · rw [if_pos c]; intro h; exact hA L
    · rw [if_neg c]
      by_cases d : fBy a.toNatClampNeg < 97
      · rw [if_pos d]; intro h; exact hA L
      · rw [if_neg d]
        by_cases e : 122 < fBy a.toNatClampNeg
        · rw [if_pos e]; intro h; exact hA L
        · rw [if_neg e, if_neg (by lia)]
          intro h
          have g := ih (by lia) n _ h
          rw [g]
          have w := zwb (p := p) hB s9 n ((L <<< (5 &&& 31)) ||| (((fBy a.toNatClampNeg) - 97) + 1)) (a + 1) (by lia) (by lia)
          have w1 := w.1
          have w2 := w.2.1
          have w3 := w.2.2.1
          rw [← w1] at w2 w3
          have hs : ft a.toNatClampNeg = fBy a.toNatClampNeg := zB_same (lo := 97) (hi := 122) (hB a (by lia) (by lia)) (by decide) d
          rw [fq_packed_d, if_neg (by lia), if_neg (by lia), hs, show (fBy a.toNatClampNeg) - 96 = (fBy a.toNatClampNeg) - 97 + 1 from by lia]
theorem zpk {fBy ft : Nat → Int32} {st p : Int32} (hB : zBy fBy ft st) (s9 : st ≤ 900) (p0 : ¬ p < 0) (p1 : p ≤ st) (n : Nat) (h : (fe_readWord_c st p fBy n 0 p).2 - p ≤ 6) :
    (fe_readWord_c st p fBy n 0 p).1 <<< ((5 * (6 - ((fe_readWord_c st p fBy n 0 p).2 - p))) &&& 31) = fq_packed ft p (fe_readWord_c st p fBy n 0 p).2 := by
  have p9 : p ≤ 900 := by lia
  have q0 : p + 6 ≤ st → zP fBy ft st p 0 (p + 6) := fun q => zP_0 hB s9 p0 p9 q
  have q1 : p + 5 ≤ st → zP fBy ft st p 1 (p + 5) := fun q => zP_s hB s9 p0 p9 (by lia) (by lia) q (fun L => zA1 p0 p9) (fun z => by
    rw [show p + 5 + 1 = p + 6 from by lia]; exact q0 (by lia))
  have q2 : p + 4 ≤ st → zP fBy ft st p 2 (p + 4) := fun q => zP_s hB s9 p0 p9 (by lia) (by lia) q (fun L => zA2 p0 p9) (fun z => by
    rw [show p + 4 + 1 = p + 5 from by lia]; exact q1 (by lia))
  have q3 : p + 3 ≤ st → zP fBy ft st p 3 (p + 3) := fun q => zP_s hB s9 p0 p9 (by lia) (by lia) q (fun L => zA3 p0 p9) (fun z => by
    rw [show p + 3 + 1 = p + 4 from by lia]; exact q2 (by lia))
  have q4 : p + 2 ≤ st → zP fBy ft st p 4 (p + 2) := fun q => zP_s hB s9 p0 p9 (by lia) (by lia) q (fun L => zA4 p0 p9) (fun z => by
    rw [show p + 2 + 1 = p + 3 from by lia]; exact q3 (by lia))
  have q5 : p + 1 ≤ st → zP fBy ft st p 5 (p + 1) := fun q => zP_s hB s9 p0 p9 (by lia) (by lia) q (fun L => zA5 p0 p9) (fun z => by
    rw [show p + 1 + 1 = p + 2 from by lia]; exact q4 (by lia))
  have q6 : p + 0 ≤ st → zP fBy ft st p 6 (p + 0) := fun q => zP_s hB s9 p0 p9 (by lia) (by lia) q (fun L => zA6 p0 p9) (fun z => by
    rw [show p + 0 + 1 = p + 1 from by lia]; exact q5 (by lia))
  have q7 : zP fBy ft st p 6 p := by
    have z := q6 (by lia)
    rw [show p + 0 = p from by lia] at z
    exact z
  exact q7 n 0 h
theorem zor {x e : Int32} {X E : Nat} (hx : x.toBitVec.toNat = X) (he : e.toBitVec.toNat = E) (hX : X < 33554432) (hE : E < 32) : ((x <<< (5 &&& 31)) ||| e).toBitVec.toNat = X * 32 + E := by
  have h1 : ((x <<< (5 &&& 31)) ||| e).toBitVec = (x.toBitVec <<< 5) ||| e.toBitVec := rfl
  rw [h1, BitVec.toNat_or, BitVec.toNat_shiftLeft, hx, he]
  rw [Nat.mod_eq_of_lt (by rw [Nat.shiftLeft_eq]; omega), ← Nat.shiftLeft_add_eq_or_of_lt (by omega : E < 2 ^ 5), Nat.shiftLeft_eq]
def zE (ft : Nat → Int32) (a b : Int32) (i : Int32) : Int32 := if b ≤ a + i then 0 else ft ((a + i).toNatClampNeg) - 96
theorem zpd {ft : Nat → Int32} {a b : Int32} (a0 : ¬ a < 0) (a9 : a ≤ 900) : fq_packed ft a b = ((((((((((((0 : Int32) <<< (5 &&& 31)) ||| zE ft a b 0) <<< (5 &&& 31)) ||| zE ft a b 1) <<< (5 &&& 31)) ||| zE ft a b 2) <<< (5 &&& 31)) ||| zE ft a b 3) <<< (5 &&& 31)) ||| zE ft a b 4) <<< (5 &&& 31)) ||| zE ft a b 5 := by
  have st : ∀ (n : Nat) (L k i : Int32), k = a + i → ¬ i < 0 → i < 6 → fq_packed_d ft a b (n + 1) L k = fq_packed_d ft a b n ((L <<< (5 &&& 31)) ||| zE ft a b i) (a + (i + 1)) := by
    intro n L k i hk i0 i6
    rw [fq_packed_d, if_neg (by lia), zE, hk, show a + i + 1 = a + (i + 1) from by lia]
    by_cases c : b ≤ a + i
    · rw [if_pos c, if_pos c]
    · rw [if_neg c, if_neg c]
  rw [fq_packed, st 5 _ _ 0 (by lia) (by decide) (by decide), st 4 _ _ (0 + 1) rfl (by decide) (by decide), st 3 _ _ (0 + 1 + 1) rfl (by decide) (by decide), st 2 _ _ (0 + 1 + 1 + 1) rfl (by decide) (by decide), st 1 _ _ (0 + 1 + 1 + 1 + 1) rfl (by decide) (by decide), st 0 _ _ (0 + 1 + 1 + 1 + 1 + 1) rfl (by decide) (by decide), fq_packed_d]
  rfl
theorem zEr {ft : Nat → Int32} {a b : Int32} (hs : ∀ k : Int32, ¬ k < a → k < b → ¬ ft k.toNatClampNeg < 97 ∧ ft k.toNatClampNeg ≤ 122) (a0 : ¬ a < 0) (a9 : a ≤ 900) (i : Int32) (i0 : ¬ i < 0) (i6 : i < 6) :
    (b ≤ a + i ∧ zE ft a b i = 0) ∨ (¬ b ≤ a + i ∧ zE ft a b i = ft ((a + i).toNatClampNeg) - 96 ∧ ¬ zE ft a b i < 1 ∧ zE ft a b i ≤ 26) := by
  rw [zE]
  by_cases c : b ≤ a + i
  · rw [if_pos c]; exact Or.inl ⟨c, rfl⟩
  · rw [if_neg c]
    have h := hs (a + i) (by lia) (by lia)
    exact Or.inr ⟨c, rfl, by lia, by lia⟩
theorem zEn {e : Int32} (h : e = 0 ∨ (¬ e < 1 ∧ e ≤ 26)) : e.toBitVec.toNat < 32 := by
  have h0 : ¬ e < 0 := by rcases h with h | h <;> lia
  have h1 : e < 32 := by rcases h with h | h <;> lia
  rw [Int32.lt_iff_toInt_lt] at h0 h1
  have z0 : (0 : Int32).toInt = 0 := rfl
  have z1 : (32 : Int32).toInt = 32 := rfl
  have q : e.toInt = e.toBitVec.toInt := rfl
  rw [q, BitVec.toInt_eq_toNat_cond] at h0 h1
  have := e.toBitVec.isLt
  split at h0 <;> omega
theorem zEq {e : Int32} {n : Nat} (h : e.toBitVec.toNat = n) (hn : n < 2 ^ 32) : e = Int32.ofBitVec (BitVec.ofNat 32 n) := by
  apply Int32.toBitVec_inj.mp
  apply BitVec.eq_of_toNat_eq
  rw [h]
  show n = (BitVec.ofNat 32 n).toNat
  rw [BitVec.toNat_ofNat, Nat.mod_eq_of_lt hn]
theorem zpn {ft : Nat → Int32} {a b : Int32} (a0 : ¬ a < 0) (a9 : a ≤ 900) (hs : ∀ k : Int32, ¬ k < a → k < b → ¬ ft k.toNatClampNeg < 97 ∧ ft k.toNatClampNeg ≤ 122) :
    ∃ E0 E1 E2 E3 E4 E5 : Nat, E0 < 32 ∧ E1 < 32 ∧ E2 < 32 ∧ E3 < 32 ∧ E4 < 32 ∧ E5 < 32 ∧ (zE ft a b 0).toBitVec.toNat = E0 ∧ (zE ft a b 1).toBitVec.toNat = E1 ∧ (zE ft a b 2).toBitVec.toNat = E2 ∧ (zE ft a b 3).toBitVec.toNat = E3 ∧ (zE ft a b 4).toBitVec.toNat = E4 ∧ (zE ft a b 5).toBitVec.toNat = E5 ∧
    (fq_packed ft a b).toBitVec.toNat = ((((E0 * 32 + E1) * 32 + E2) * 32 + E3) * 32 + E4) * 32 + E5 := by
  have hr : ∀ i : Int32, ¬ i < 0 → i < 6 → (zE ft a b i).toBitVec.toNat < 32 := fun i i0 i6 => zEn (by
    rcases zEr hs a0 a9 i i0 i6 with h | h
    · exact Or.inl h.2
    · exact Or.inr h.2.2)
  have r0 := hr 0 (by decide) (by decide)
  have r1 := hr 1 (by decide) (by decide)
  have r2 := hr 2 (by decide) (by decide)
  have r3 := hr 3 (by decide) (by decide)
  have r4 := hr 4 (by decide) (by decide)
  have r5 := hr 5 (by decide) (by decide)
  refine ⟨_, _, _, _, _, _, r0, r1, r2, r3, r4, r5, rfl, rfl, rfl, rfl, rfl, rfl, ?_⟩
  rw [zpd a0 a9]
  have s0 := zor (x := 0) (X := 0) rfl rfl (by omega) r0
  have s1 := zor s0 rfl (by omega) r1
  have s2 := zor s1 rfl (by omega) r2
  have s3 := zor s2 rfl (by omega) r3
  have s4 := zor s3 rfl (by omega) r4
  have s5 := zor s4 rfl (by omega) r5
  rw [s5]; omega
