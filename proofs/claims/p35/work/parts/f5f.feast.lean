def zKn (n : Int32) (fRc kn pa : Nat → Int32) : Prop := ∀ i : Nat, i < n.toNatClampNeg → zCd (fRc i) (kn (64 + i)) (pa (64 + i))
def zOk (k : Int32) : Prop := k = 0 ∨ (¬ k < 2 ∧ k ≤ 15)
def zWt (n : Int32) (fHe fHr fWa : Nat → Int32) : Prop := ∀ i : Nat, i < n.toNatClampNeg → fHe i = zop (fWa i) ∧ fHr i = fq_rank (fWa i) ∧ zOk (fWa i)
def zcz (f : Nat → Int32) : Nat → Nat
  | 0 => 0
  | n + 1 => zcz f n + (if f n = 0 then 1 else 0)
theorem zcz_le (f : Nat → Int32) : ∀ n, zcz f n ≤ n := by
  intro n
  induction n with
  | zero => exact Nat.le_refl _
  | succ n ih => rw [zcz]; split <;> omega
theorem zcz_c {f g : Nat → Int32} : ∀ n, (∀ i, i < n → g i = f i) → zcz g n = zcz f n := by
  intro n
  induction n with
  | zero => intro _; rfl
  | succ n ih => intro h; rw [zcz, zcz, ih (fun i hi => h i (by omega)), h n (by omega)]
def zH (phs pop rsz rkn : Int32) (fHe fHr fRc : Nat → Int32) (kn wt br ct : Int32) (fWa fKn fPa : Nat → Int32) : Prop :=
  phs = wt ∧ pop = br ∧ rsz = kn ∧ rkn = ct ∧ (¬ wt < 0 ∧ wt ≤ 72 ∧ ¬ br < 0 ∧ br ≤ 8 ∧ ¬ kn < 0 ∧ kn ≤ 64 ∧ ¬ ct < 0 ∧ ct ≤ 64 ∧ kn + wt = ct + br) ∧ zcz fWa wt.toNatClampNeg = br.toNatClampNeg ∧ zWt wt fHe fHr fWa ∧ zKn kn fRc fKn fPa
theorem z_nle {a b : Int32} (a0 : ¬ a < 0) (b0 : ¬ b < 0) (h : a.toNatClampNeg ≤ b.toNatClampNeg) : a ≤ b := by
  have h1 := xi_nat a0
  have h2 := xi_nat b0
  exact Int32.le_iff_toInt_le.mpr (by omega)
theorem z_rk {k : Int32} (h : zOk k) : fr_rankOf (zop k) = fq_rank k ∧ (¬ fq_rank k < 1 → ¬ k < 2 ∧ k ≤ 15) ∧ (fq_rank k < 1 → k = 0) := by
  rcases h with h | ⟨h1, h2⟩
  · rw [h]; exact ⟨by decide, fun z => absurd (by decide) z, fun _ => rfl⟩
  by_cases c2 : k = 2
  · rw [c2]; exact ⟨by decide, fun _ => by decide, fun z => absurd z (by decide)⟩
  have h1 : ¬ k < 3 := by lia
  clear c2
  by_cases c3 : k = 3
  · rw [c3]; exact ⟨by decide, fun _ => by decide, fun z => absurd z (by decide)⟩
  have h1 : ¬ k < 4 := by lia
  clear c3
  by_cases c4 : k = 4
  · rw [c4]; exact ⟨by decide, fun _ => by decide, fun z => absurd z (by decide)⟩
  have h1 : ¬ k < 5 := by lia
  clear c4
  by_cases c5 : k = 5
  · rw [c5]; exact ⟨by decide, fun _ => by decide, fun z => absurd z (by decide)⟩
  have h1 : ¬ k < 6 := by lia
  clear c5
  by_cases c6 : k = 6
  · rw [c6]; exact ⟨by decide, fun _ => by decide, fun z => absurd z (by decide)⟩
  have h1 : ¬ k < 7 := by lia
  clear c6
  by_cases c7 : k = 7
  · rw [c7]; exact ⟨by decide, fun _ => by decide, fun z => absurd z (by decide)⟩
  have h1 : ¬ k < 8 := by lia
  clear c7
  by_cases c8 : k = 8
  · rw [c8]; exact ⟨by decide, fun _ => by decide, fun z => absurd z (by decide)⟩
  have h1 : ¬ k < 9 := by lia
  clear c8
  by_cases c9 : k = 9
  · rw [c9]; exact ⟨by decide, fun _ => by decide, fun z => absurd z (by decide)⟩
  have h1 : ¬ k < 10 := by lia
  clear c9
  by_cases c10 : k = 10
  · rw [c10]; exact ⟨by decide, fun _ => by decide, fun z => absurd z (by decide)⟩
  have h1 : ¬ k < 11 := by lia
  clear c10
  by_cases c11 : k = 11
  · rw [c11]; exact ⟨by decide, fun _ => by decide, fun z => absurd z (by decide)⟩
  have h1 : ¬ k < 12 := by lia
  clear c11
  by_cases c12 : k = 12
  · rw [c12]; exact ⟨by decide, fun _ => by decide, fun z => absurd z (by decide)⟩
  have h1 : ¬ k < 13 := by lia
  clear c12
  by_cases c13 : k = 13
  · rw [c13]; exact ⟨by decide, fun _ => by decide, fun z => absurd z (by decide)⟩
  have h1 : ¬ k < 14 := by lia
  clear c13
  by_cases c14 : k = 14
  · rw [c14]; exact ⟨by decide, fun _ => by decide, fun z => absurd z (by decide)⟩
  have h1 : ¬ k < 15 := by lia
  clear c14
  by_cases c15 : k = 15
  · rw [c15]; exact ⟨by decide, fun _ => by decide, fun z => absurd z (by decide)⟩
  exact absurd h2 (by lia)
theorem zKn_s {n x a b : Int32} {fRc fKn fPa : Nat → Int32} (n0 : ¬ n < 0) (n9 : n < 64) (h : zKn n fRc fKn fPa) (hx : zCd x a b) : zKn (n + 1) (upd fRc n.toNatClampNeg x) (upd fKn ((64 + n).toNatClampNeg) a) (upd fPa ((64 + n).toNatClampNeg) b) := by
  intro i hi
  rw [xi_natS n0 (by lia)] at hi
  rw [zia (by decide) (by decide) n0 (by lia), show (64 : Int32).toNatClampNeg = 64 from rfl]
  unfold upd
  by_cases c : i = n.toNatClampNeg
  · rw [if_pos c, if_pos (by omega), if_pos (by omega)]; exact hx
  · rw [if_neg c, if_neg (by omega), if_neg (by omega)]; exact h i (by omega)
theorem zWt_s {n k : Int32} {fHe fHr fWa : Nat → Int32} (n0 : ¬ n < 0) (n9 : n < 72) (h : zWt n fHe fHr fWa) (hk : zOk k) : zWt (n + 1) (upd fHe n.toNatClampNeg (zop k)) (upd fHr n.toNatClampNeg (fr_rankOf (zop k))) (upd fWa n.toNatClampNeg k) := by
  intro i hi
  rw [xi_natS n0 (by lia)] at hi
  unfold upd
  by_cases c : i = n.toNatClampNeg
  · rw [if_pos c, if_pos c, if_pos c]; exact ⟨rfl, (z_rk hk).1, hk⟩
  · rw [if_neg c, if_neg c, if_neg c]; exact h i (by omega)
theorem zcz_s {n k : Int32} {fWa : Nat → Int32} (n0 : ¬ n < 0) (n9 : n < 72) : zcz (upd fWa n.toNatClampNeg k) (n + 1).toNatClampNeg = zcz fWa n.toNatClampNeg + (if k = 0 then 1 else 0) := by
  rw [xi_natS n0 (by lia), zcz, zcz_c (f := fWa) (g := upd fWa n.toNatClampNeg k) _ (fun i hi => by unfold upd; exact if_neg (by omega)), show upd fWa n.toNatClampNeg k n.toNatClampNeg = k from if_pos rfl]
theorem z_hr {phs pop rsz rkn kn wt br ct : Int32} {fHe fHr fRc fWa fKn fPa : Nat → Int32} (h : zH phs pop rsz rkn fHe fHr fRc kn wt br ct fWa fKn fPa) : fp_heldRank phs fHr = (if wt ≤ 0 then 0 else fq_rank (fWa ((wt - 1).toNatClampNeg))) := by
  obtain ⟨h1, h2, h3, h4, ⟨b1, b2, b3, b4, b5, b6, b7, b8, b9⟩, h5, h6, h7⟩ := h
  rw [fp_heldRank, h1]
  by_cases c : wt ≤ 0
  · rw [if_pos c, if_pos c]
  · rw [if_neg c, if_neg c, if_neg (by lia)]
    have hp := xi_natP (w := wt) (by lia)
    exact (h6 _ (by omega)).2.1
theorem z_hold {phs pop rsz rkn kn wt br ct k pop2 rkn2 br2 ct2 : Int32} {fHe fHr fRc fWa fKn fPa : Nat → Int32} (h : zH phs pop rsz rkn fHe fHr fRc kn wt br ct fWa fKn fPa) (hk : zOk k) (e1 : pop2 = br2) (e2 : rkn2 = ct2) (e3 : (k = 0 ∧ br2 = br + 1 ∧ ct2 = ct ∧ br < 8) ∨ (¬ k = 0 ∧ br2 = br ∧ ct2 = ct + 1 ∧ ct < 64)) :
    zH (fp_hold phs fHe fHr (zop k)).1 pop2 rsz rkn2 (fp_hold phs fHe fHr (zop k)).2.1 (fp_hold phs fHe fHr (zop k)).2.2 fRc kn (fq_waitsFor fWa k wt).1 br2 ct2 (fq_waitsFor fWa k wt).2 fKn fPa := by
  obtain ⟨h1, h2, h3, h4, ⟨b1, b2, b3, b4, b5, b6, b7, b8, b9⟩, h5, h6, h7⟩ := h
  have w9 : wt < 72 := by rcases e3 with e | e <;> lia
  rw [fp_hold, h1, if_neg (by lia), xL_eq, fq_waitsFor]
  refine ⟨rfl, e1, h3, e2, ⟨by lia, by lia, by rcases e3 with e | e <;> lia, by rcases e3 with e | e <;> lia, b5, b6, by rcases e3 with e | e <;> lia, by rcases e3 with e | e <;> lia, by rcases e3 with e | e <;> lia⟩, ?_, zWt_s b1 w9 h6 hk, h7⟩
  show zcz (upd fWa wt.toNatClampNeg k) (wt + 1).toNatClampNeg = _
  rw [zcz_s b1 w9, h5]
  rcases e3 with ⟨e, f, _⟩ | ⟨e, f, _⟩
  · rw [if_pos e, f, xi_natS b3 (by lia)]
  · rw [if_neg e, f, Nat.add_zero]
theorem z_leaf {phs pop rsz rkn kn wt br ct x a b c rkn2 ct2 he : Int32} {fHe fHr fRc fWa fKn fPa fOt fHd : Nat → Int32} (h : zH phs pop rsz rkn fHe fHr fRc kn wt br ct fWa fKn fPa) (hx : zCd x a b) (e2 : rkn2 = ct2) (e3 : ct2 = ct + 1) (e4 : ct < 64) :
    zH phs pop (fp_put rsz fRc x).1 rkn2 fHe fHr (fp_put rsz fRc x).2 (fq_grown fKn fPa fOt fHd a b c kn he).1 wt br ct2 fWa (fq_grown fKn fPa fOt fHd a b c kn he).2.2.1 (fq_grown fKn fPa fOt fHd a b c kn he).2.2.2.1 := by
  obtain ⟨h1, h2, h3, h4, ⟨b1, b2, b3, b4, b5, b6, b7, b8, b9⟩, h5, h6, h7⟩ := h
  have hbw : br ≤ wt := z_nle b3 b1 (by have := zcz_le fWa wt.toNatClampNeg; omega)
  have k9 : kn < 64 := by lia
  rw [fp_put, h3, if_neg (by lia), fq_grown]
  exact ⟨h1, h2, rfl, e2, ⟨b1, b2, b3, b4, by lia, by lia, by lia, by lia, by lia⟩, h5, h6, zKn_s b5 k9 h7 hx⟩
theorem z_pop {phs pop rsz rkn kn wt br ct p : Int32} {fHe fHr fRc fWa fKn fPa : Nat → Int32} (h : zH phs pop rsz rkn fHe fHr fRc kn wt br ct fWa fKn fPa) (w1 : ¬ wt ≤ 0) (hr : ¬ fq_rank (fWa ((wt - 1).toNatClampNeg)) < 1) :
    zH (phs - 1) pop (fp_put rsz fRc (fr_knotOf (fHe ((phs - 1).toNatClampNeg)))).1 rkn fHe fHr (fp_put rsz fRc (fr_knotOf (fHe ((phs - 1).toNatClampNeg)))).2 (kn + 1) (wt - 1) br ct fWa (upd fKn ((64 + kn).toNatClampNeg) (fWa ((wt - 1).toNatClampNeg))) (upd fPa ((64 + kn).toNatClampNeg) p) := by
  obtain ⟨h1, h2, h3, h4, ⟨b1, b2, b3, b4, b5, b6, b7, b8, b9⟩, h5, h6, h7⟩ := h
  have hp := xi_natP (w := wt) (by lia)
  have q := h6 _ (show (wt - 1).toNatClampNeg < wt.toNatClampNeg by omega)
  have q2 := (z_rk q.2.2).2.1 hr
  have hz : zcz fWa wt.toNatClampNeg = zcz fWa (wt - 1).toNatClampNeg := by
    rw [hp, zcz, if_neg (fun z => q2.1 (by rw [z]; decide)), Nat.add_zero]
  have hbw : br ≤ wt - 1 := z_nle b3 (by lia) (by have := zcz_le fWa (wt - 1).toNatClampNeg; omega)
  have k9 : kn < 64 := by lia
  rw [fp_put, h1, h3, if_neg (by lia), q.1]
  exact ⟨rfl, h2, rfl, h4, ⟨by lia, by lia, b3, b4, by lia, by lia, b7, b8, by lia⟩, by rw [← hz]; exact h5, fun i hi => h6 i (by omega), zKn_s b5 k9 h7 (Or.inr (Or.inr ⟨q2.1, q2.2, rfl⟩))⟩
def zRg (a0 pop rkn br ct : Int32) (fHe fHr fWa : Nat → Int32) (X : Int32 × Int32 × (Nat → Int32)) (Y : Int32 × Int32 × Int32 × (Nat → Int32) × (Nat → Int32) × (Nat → Int32) × (Nat → Int32)) : Prop :=
  zH X.1 pop X.2.1 rkn fHe fHr X.2.2 Y.1 Y.2.1 br ct fWa Y.2.2.2.1 Y.2.2.2.2.1 ∧ (Y.2.1 ≤ 0 ∨ fq_rank (fWa ((Y.2.1 - 1).toNatClampNeg)) < a0)
theorem z_bindd {a0 pop rkn br ct : Int32} {fHe fHr fWa : Nat → Int32} (a1 : ¬ a0 < 1) : ∀ (W n m : Nat) (i phs rsz kn wt he : Int32) (fRc fKn fPa fOt fHd : Nat → Int32), wt.toNatClampNeg = W → W ≤ n → W ≤ m → i.toInt + n = 72 → ¬ i < 0 → zH phs pop rsz rkn fHe fHr fRc kn wt br ct fWa fKn fPa →
    zRg a0 pop rkn br ct fHe fHr fWa (fp_release_d fHe fHr a0 n i phs rsz fRc) (fq_bind_d fWa a0 m kn wt he fKn fPa fOt fHd) := by
  intro W
  induction W with
  | zero =>
    intro n m i phs rsz kn wt he fRc fKn fPa fOt fHd hW hn hm hi i0 h
    have w0 : wt ≤ 0 := z_nle h.2.2.2.2.1.1 (by decide) (by rw [hW]; exact Nat.zero_le _)
    have e1 : fp_release_d fHe fHr a0 n i phs rsz fRc = (phs, rsz, fRc) := by
      cases n with
      | zero => rw [fp_release_d]
      | succ n =>
        have i9 : ¬ 72 ≤ i := fun z => by
          have := xi_le z
          have e : (72 : Int32).toInt = 72 := rfl
          omega
        rw [fp_release_d, if_neg i9, xL_eq, z_hr h, if_pos w0, if_pos (by lia)]
    have e2 : fq_bind_d fWa a0 m kn wt he fKn fPa fOt fHd = (kn, wt, he, fKn, fPa, fOt, fHd) := by
      cases m with
      | zero => rw [fq_bind_d]
      | succ m => rw [fq_bind_d, if_pos w0]
    rw [e1, e2]
    exact ⟨h, Or.inl w0⟩
  | succ W ih =>
    intro n m i phs rsz kn wt he fRc fKn fPa fOt fHd hW hn hm hi i0 h
    obtain ⟨n, rfl⟩ : ∃ n', n = n' + 1 := ⟨n - 1, by omega⟩
    obtain ⟨m, rfl⟩ : ∃ m', m = m' + 1 := ⟨m - 1, by omega⟩
    have b1 := h.2.2.2.2.1.1
    have w0 : ¬ wt ≤ 0 := fun z => by
      have h1 := xi_nat b1
      have h2 := xi_le z
      have e : (0 : Int32).toInt = 0 := rfl
      omega
    have hp := xi_natP (w := wt) (by lia)
    have i9 : ¬ 72 ≤ i := fun z => by
      have := xi_le z
      have e : (72 : Int32).toInt = 72 := rfl
      omega
    have i1 : (i + 1).toInt = i.toInt + 1 := by
      have b0 := xi_nn i0
      have e1 : (1 : Int32).toInt = 1 := rfl
      rw [Int32.toInt_add, e1]; exact Int.bmod_eq_of_le (by omega) (by omega)
    rw [fp_release_d, if_neg i9, xL_eq, z_hr h, if_neg w0, fq_bind_d, if_neg w0, xL_eq (fq_rank (fWa ((wt - 1).toNatClampNeg)))]
    by_cases c : fq_rank (fWa ((wt - 1).toNatClampNeg)) < a0
    · rw [if_pos c, if_pos c]; exact ⟨h, Or.inr c⟩
    · rw [if_neg c, if_neg c, xL_eq, xL_eq]
      have hw : (wt - 1).toNatClampNeg = W := by omega
      by_cases d : fWa ((wt - 1).toNatClampNeg) = 2
      · rw [if_pos d, xL_eq, xL_eq]
        exact ih n m (i + 1) _ _ _ _ _ _ _ _ _ _ hw (by omega) (by omega) (by omega) (by lia) (z_pop h w0 (by lia))
      · rw [if_neg d, xL_eq, xL_eq, xL_eq]
        exact ih n m (i + 1) _ _ _ _ _ _ _ _ _ _ hw (by omega) (by omega) (by omega) (by lia) (z_pop h w0 (by lia))
theorem z_bind {a0 pop rkn br ct phs rsz kn wt he : Int32} {fHe fHr fWa fRc fKn fPa fOt fHd : Nat → Int32} (a1 : ¬ a0 < 1) (h : zH phs pop rsz rkn fHe fHr fRc kn wt br ct fWa fKn fPa) :
    ∀ X, X = fp_release phs fHe fHr rsz fRc a0 → ∀ Y, Y = fq_bind fKn fPa fOt fWa fHd a0 kn wt he → zRg a0 pop rkn br ct fHe fHr fWa X Y := by
  intro X hX Y hY
  rw [hX, hY, fp_release, fq_bind]
  have w9 : wt.toNatClampNeg ≤ 72 := by
    have h1 := xi_nat h.2.2.2.2.1.1
    have h2 := xi_le h.2.2.2.2.1.2.1
    have e : (72 : Int32).toInt = 72 := rfl
    omega
  exact z_bindd a1 _ 72 96 0 _ _ _ _ _ _ _ _ _ _ rfl w9 (by omega) (by decide) (by decide) h
theorem z_nm {kd wh lxt : Int32} (hl : lxt = ztk kd wh) (hv : zV kd wh) : (fr_isName lxt = 0 ∧ fq_nameMet kd wh = -1) ∨ (fr_isName lxt = 1 ∧ ¬ fq_nameMet kd wh < 0 ∧ fq_nameMet kd wh ≤ 5 ∧ lxt = znmt (fq_nameMet kd wh)) := by
  rw [hl]
  rcases hv with h | ⟨h, w0, w2⟩ | h | h | ⟨h, hw⟩ | ⟨h, w0, w5⟩ | h <;> rw [h]
  · exact Or.inl ⟨by rfl, by rfl⟩
  · by_cases c0 : wh = 0
    · rw [c0]; exact Or.inl ⟨by decide, by decide⟩
    have k1 : ¬ wh < 1 := by lia
    clear c0
    by_cases c1 : wh = 1
    · rw [c1]; exact Or.inl ⟨by decide, by decide⟩
    have k2 : ¬ wh < 2 := by lia
    clear c1
    by_cases c2 : wh = 2
    · rw [c2]; exact Or.inl ⟨by decide, by decide⟩
    have k3 : ¬ wh < 3 := by lia
    clear c2
    by_cases c3 : wh = 3
    · rw [c3]; exact Or.inl ⟨by decide, by decide⟩
    have k4 : ¬ wh < 4 := by lia
    clear c3
    by_cases c4 : wh = 4
    · rw [c4]; exact Or.inl ⟨by decide, by decide⟩
    have k5 : ¬ wh < 5 := by lia
    clear c4
    by_cases c5 : wh = 5
    · rw [c5]; exact Or.inl ⟨by decide, by decide⟩
    have k6 : ¬ wh < 6 := by lia
    clear c5
    by_cases c6 : wh = 6
    · rw [c6]; exact Or.inr ⟨by decide, by decide, by decide, by decide⟩
    have k7 : ¬ wh < 7 := by lia
    clear c6
    by_cases c7 : wh = 7
    · rw [c7]; exact Or.inr ⟨by decide, by decide, by decide, by decide⟩
    have k8 : ¬ wh < 8 := by lia
    clear c7
    by_cases c8 : wh = 8
    · rw [c8]; exact Or.inl ⟨by decide, by decide⟩
    have k9 : ¬ wh < 9 := by lia
    clear c8
    by_cases c9 : wh = 9
    · rw [c9]; exact Or.inl ⟨by decide, by decide⟩
    have k10 : ¬ wh < 10 := by lia
    clear c9
    by_cases c10 : wh = 10
    · rw [c10]; exact Or.inl ⟨by decide, by decide⟩
    have k11 : ¬ wh < 11 := by lia
    clear c10
    by_cases c11 : wh = 11
    · rw [c11]; exact Or.inl ⟨by decide, by decide⟩
    have k12 : ¬ wh < 12 := by lia
    clear c11
    by_cases c12 : wh = 12
    · rw [c12]; exact Or.inl ⟨by decide, by decide⟩
    have k13 : ¬ wh < 13 := by lia
    clear c12
    by_cases c13 : wh = 13
    · rw [c13]; exact Or.inl ⟨by decide, by decide⟩
    have k14 : ¬ wh < 14 := by lia
    clear c13
    by_cases c14 : wh = 14
    · rw [c14]; exact Or.inl ⟨by decide, by decide⟩
    have k15 : ¬ wh < 15 := by lia
    clear c14
    by_cases c15 : wh = 15
    · rw [c15]; exact Or.inl ⟨by decide, by decide⟩
    have k16 : ¬ wh < 16 := by lia
    clear c15
    by_cases c16 : wh = 16
    · rw [c16]; exact Or.inl ⟨by decide, by decide⟩
    have k17 : ¬ wh < 17 := by lia
    clear c16
    by_cases c17 : wh = 17
    · rw [c17]; exact Or.inl ⟨by decide, by decide⟩
    have k18 : ¬ wh < 18 := by lia
    clear c17
    by_cases c18 : wh = 18
    · rw [c18]; exact Or.inl ⟨by decide, by decide⟩
    have k19 : ¬ wh < 19 := by lia
    clear c18
    by_cases c19 : wh = 19
    · rw [c19]; exact Or.inr ⟨by decide, by decide, by decide, by decide⟩
    have k20 : ¬ wh < 20 := by lia
    clear c19
    by_cases c20 : wh = 20
    · rw [c20]; exact Or.inr ⟨by decide, by decide, by decide, by decide⟩
    have k21 : ¬ wh < 21 := by lia
    clear c20
    by_cases c21 : wh = 21
    · rw [c21]; exact Or.inr ⟨by decide, by decide, by decide, by decide⟩
    have k22 : ¬ wh < 22 := by lia
    clear c21
    by_cases c22 : wh = 22
    · rw [c22]; exact Or.inr ⟨by decide, by decide, by decide, by decide⟩
    exact absurd w2 (by lia)
  · exact Or.inl ⟨by rfl, by rfl⟩
  · exact Or.inl ⟨by rfl, by rfl⟩
  · rcases hw with w | w | w | w | w | w | w | w <;> rw [w] <;> exact Or.inl ⟨by rfl, by rfl⟩
  · by_cases c0 : wh = 0
    · rw [c0]; exact Or.inl ⟨by rfl, by rfl⟩
    have k1 : ¬ wh < 1 := by lia
    clear c0
    by_cases c1 : wh = 1
    · rw [c1]; exact Or.inl ⟨by rfl, by rfl⟩
    have k2 : ¬ wh < 2 := by lia
    clear c1
    by_cases c2 : wh = 2
    · rw [c2]; exact Or.inl ⟨by rfl, by rfl⟩
    have k3 : ¬ wh < 3 := by lia
    clear c2
    by_cases c3 : wh = 3
    · rw [c3]; exact Or.inl ⟨by rfl, by rfl⟩
    have k4 : ¬ wh < 4 := by lia
    clear c3
    by_cases c4 : wh = 4
    · rw [c4]; exact Or.inl ⟨by rfl, by rfl⟩
    have k5 : ¬ wh < 5 := by lia
    clear c4
    by_cases c5 : wh = 5
    · rw [c5]; exact Or.inl ⟨by rfl, by rfl⟩
    exact absurd w5 (by lia)
  · exact Or.inl ⟨by rfl, by rfl⟩
theorem z_sk {kd wh lxt : Int32} (hl : lxt = ztk kd wh) (hv : zV kd wh) : (fq_signs_k kd wh = 0 ∧ (lxt = 21 ∨ fr_rankOf lxt = 0)) ∨ (¬ fq_signs_k kd wh = 0 ∧ ¬ fq_signs_k kd wh < 2 ∧ fq_signs_k kd wh ≤ 15 ∧ lxt = zop (fq_signs_k kd wh) ∧ ¬ lxt = 21 ∧ ¬ lxt = 27 ∧ ¬ lxt = 25 ∧ fr_rankOf lxt = fq_rank (fq_signs_k kd wh) ∧ ¬ fr_rankOf lxt < 1 ∧ ¬ fr_rankOf lxt = 3) := by
  rw [hl]
  rcases hv with h | ⟨h, w0, w2⟩ | h | h | ⟨h, hw⟩ | ⟨h, w0, w5⟩ | h <;> rw [h]
  · exact Or.inl ⟨by rfl, Or.inr (by rfl)⟩
  · by_cases c0 : wh = 0
    · rw [c0]; exact Or.inl ⟨by decide, Or.inr (by decide)⟩
    have k1 : ¬ wh < 1 := by lia
    clear c0
    by_cases c1 : wh = 1
    · rw [c1]; exact Or.inl ⟨by decide, Or.inr (by decide)⟩
    have k2 : ¬ wh < 2 := by lia
    clear c1
    by_cases c2 : wh = 2
    · rw [c2]; exact Or.inl ⟨by decide, Or.inr (by decide)⟩
    have k3 : ¬ wh < 3 := by lia
    clear c2
    by_cases c3 : wh = 3
    · rw [c3]; exact Or.inl ⟨by decide, Or.inr (by decide)⟩
    have k4 : ¬ wh < 4 := by lia
    clear c3
    by_cases c4 : wh = 4
    · rw [c4]; exact Or.inl ⟨by decide, Or.inr (by decide)⟩
    have k5 : ¬ wh < 5 := by lia
    clear c4
    by_cases c5 : wh = 5
    · rw [c5]; exact Or.inl ⟨by decide, Or.inr (by decide)⟩
    have k6 : ¬ wh < 6 := by lia
    clear c5
    by_cases c6 : wh = 6
    · rw [c6]; exact Or.inl ⟨by decide, Or.inr (by decide)⟩
    have k7 : ¬ wh < 7 := by lia
    clear c6
    by_cases c7 : wh = 7
    · rw [c7]; exact Or.inl ⟨by decide, Or.inr (by decide)⟩
    have k8 : ¬ wh < 8 := by lia
    clear c7
    by_cases c8 : wh = 8
    · rw [c8]; exact Or.inl ⟨by decide, Or.inr (by decide)⟩
    have k9 : ¬ wh < 9 := by lia
    clear c8
    by_cases c9 : wh = 9
    · rw [c9]; exact Or.inl ⟨by decide, Or.inr (by decide)⟩
    have k10 : ¬ wh < 10 := by lia
    clear c9
    by_cases c10 : wh = 10
    · rw [c10]; exact Or.inl ⟨by decide, Or.inr (by decide)⟩
    have k11 : ¬ wh < 11 := by lia
    clear c10
    by_cases c11 : wh = 11
    · rw [c11]; exact Or.inl ⟨by decide, Or.inr (by decide)⟩
    have k12 : ¬ wh < 12 := by lia
    clear c11
    by_cases c12 : wh = 12
    · rw [c12]; exact Or.inl ⟨by decide, Or.inr (by decide)⟩
    have k13 : ¬ wh < 13 := by lia
    clear c12
    by_cases c13 : wh = 13
    · rw [c13]; exact Or.inl ⟨by decide, Or.inr (by decide)⟩
    have k14 : ¬ wh < 14 := by lia
    clear c13
    by_cases c14 : wh = 14
    · rw [c14]; exact Or.inl ⟨by decide, Or.inr (by decide)⟩
    have k15 : ¬ wh < 15 := by lia
    clear c14
    by_cases c15 : wh = 15
    · rw [c15]; exact Or.inl ⟨by decide, Or.inr (by decide)⟩
    have k16 : ¬ wh < 16 := by lia
    clear c15
    by_cases c16 : wh = 16
    · rw [c16]; exact Or.inr ⟨by decide, by decide, by decide, by decide, by decide, by decide, by decide, by decide, by decide, by decide⟩
    have k17 : ¬ wh < 17 := by lia
    clear c16
    by_cases c17 : wh = 17
    · rw [c17]; exact Or.inr ⟨by decide, by decide, by decide, by decide, by decide, by decide, by decide, by decide, by decide, by decide⟩
    have k18 : ¬ wh < 18 := by lia
    clear c17
    by_cases c18 : wh = 18
    · rw [c18]; exact Or.inl ⟨by decide, Or.inl (by decide)⟩
    have k19 : ¬ wh < 19 := by lia
    clear c18
    by_cases c19 : wh = 19
    · rw [c19]; exact Or.inl ⟨by decide, Or.inr (by decide)⟩
    have k20 : ¬ wh < 20 := by lia
    clear c19
    by_cases c20 : wh = 20
    · rw [c20]; exact Or.inl ⟨by decide, Or.inr (by decide)⟩
    have k21 : ¬ wh < 21 := by lia
    clear c20
    by_cases c21 : wh = 21
    · rw [c21]; exact Or.inl ⟨by decide, Or.inr (by decide)⟩
    have k22 : ¬ wh < 22 := by lia
    clear c21
    by_cases c22 : wh = 22
    · rw [c22]; exact Or.inl ⟨by decide, Or.inr (by decide)⟩
    exact absurd w2 (by lia)
  · exact Or.inl ⟨by rfl, Or.inr (by rfl)⟩
  · exact Or.inl ⟨by rfl, Or.inr (by rfl)⟩
  · rcases hw with w | w | w | w | w | w | w | w <;> rw [w]
    · exact Or.inl ⟨by rfl, Or.inr (by rfl)⟩
    · exact Or.inl ⟨by rfl, Or.inr (by rfl)⟩
    · exact Or.inl ⟨by rfl, Or.inr (by rfl)⟩
    · exact Or.inr ⟨by decide, by decide, by decide, by decide, by decide, by decide, by decide, by decide, by decide, by decide⟩
    · exact Or.inr ⟨by decide, by decide, by decide, by decide, by decide, by decide, by decide, by decide, by decide, by decide⟩
    · exact Or.inr ⟨by decide, by decide, by decide, by decide, by decide, by decide, by decide, by decide, by decide, by decide⟩
    · exact Or.inr ⟨by decide, by decide, by decide, by decide, by decide, by decide, by decide, by decide, by decide, by decide⟩
    · exact Or.inr ⟨by decide, by decide, by decide, by decide, by decide, by decide, by decide, by decide, by decide, by decide⟩
  · by_cases c0 : wh = 0
    · rw [c0]; exact Or.inr ⟨by decide, by decide, by decide, by decide, by decide, by decide, by decide, by decide, by decide, by decide⟩
    have k1 : ¬ wh < 1 := by lia
    clear c0
    by_cases c1 : wh = 1
    · rw [c1]; exact Or.inr ⟨by decide, by decide, by decide, by decide, by decide, by decide, by decide, by decide, by decide, by decide⟩
    have k2 : ¬ wh < 2 := by lia
    clear c1
    by_cases c2 : wh = 2
    · rw [c2]; exact Or.inr ⟨by decide, by decide, by decide, by decide, by decide, by decide, by decide, by decide, by decide, by decide⟩
    have k3 : ¬ wh < 3 := by lia
    clear c2
    by_cases c3 : wh = 3
    · rw [c3]; exact Or.inr ⟨by decide, by decide, by decide, by decide, by decide, by decide, by decide, by decide, by decide, by decide⟩
    have k4 : ¬ wh < 4 := by lia
    clear c3
    by_cases c4 : wh = 4
    · rw [c4]; exact Or.inr ⟨by decide, by decide, by decide, by decide, by decide, by decide, by decide, by decide, by decide, by decide⟩
    have k5 : ¬ wh < 5 := by lia
    clear c4
    by_cases c5 : wh = 5
    · rw [c5]; exact Or.inr ⟨by decide, by decide, by decide, by decide, by decide, by decide, by decide, by decide, by decide, by decide⟩
    exact absurd w5 (by lia)
  · exact Or.inl ⟨by rfl, Or.inr (by rfl)⟩
theorem z_cnt {pfa pfp fa fp lxp ap rkn ct : Int32} (q1 : pfa = fa) (q2 : pfp = fp) (hp : lxp = ap) (hc : rkn = ct) (c9 : ct ≤ 64) : (fp_countKnot pfa pfp lxp rkn = (1, 2, lxp, rkn) ∧ fq_isCounted fa fp ap ct = (0, ct, 2, ap)) ∨ (fp_countKnot pfa pfp lxp rkn = (0, pfa, pfp, rkn + 1) ∧ fq_isCounted fa fp ap ct = (1, ct + 1, fa, fp) ∧ ct < 64) := by
  rw [fp_countKnot, fq_isCounted, hc]
  by_cases c : ct = 64
  · rw [if_pos c, if_neg (by lia), xL_eq, fq_wrong]; exact Or.inl ⟨rfl, rfl⟩
  · rw [if_neg c, if_pos (by lia)]; exact Or.inr ⟨rfl, rfl, by lia⟩
/-- may 'not' come: the reference's flag, the class's rank -/
def zMy (mn wt : Int32) (fWa : Nat → Int32) : Prop := (mn = 0) = (¬ (if wt ≤ 0 then 0 else fq_rank (fWa ((wt - 1).toNatClampNeg))) ≤ 3)
def zRq (st nx : Int32) (X : Int32 × Int32 × Int32 × Int32 × Int32 × Int32 × Int32 × Int32 × Int32 × Int32 × Int32 × (Nat → Int32) × (Nat → Int32) × Int32 × Int32 × (Nat → Int32)) (Y : Int32 × (Nat → Int32) × (Nat → Int32) × (Nat → Int32) × (Nat → Int32) × Int32 × Int32 × Int32 × Int32 × Int32 × Int32 × Int32 × Int32 × Int32 × Int32 × (Nat → Int32) × Int32 × Int32 × Int32) : Prop :=
  X.2.2.1 = Y.2.2.2.2.2.1 ∧ X.2.2.2.1 = Y.2.2.2.2.2.2.1 ∧ ((X.1 = 1 ∧ Y.1 = 0) ∨ (X.1 = 0 ∧ Y.1 = 1 ∧ zT st X.2.2.2.2.2.2.1 X.2.2.2.2.2.2.2.1 X.2.2.2.2.2.2.2.2.1 X.2.2.2.2.2.2.2.2.2.1 X.2.2.2.2.2.2.2.2.2.2.1 Y.2.2.2.2.2.2.2.1 Y.2.2.2.2.2.2.2.2.1 Y.2.2.2.2.2.2.2.2.2.1 Y.2.2.2.2.2.2.2.2.2.2.1 ∧ ¬ Y.2.2.2.2.2.2.2.2.2.2.1 < nx ∧ X.2.1 = Y.2.2.2.2.2.2.2.2.2.2.2.2.2.2.1 ∧ (X.2.1 = 0 ∨ X.2.1 = 1) ∧ zH X.2.2.2.2.1 X.2.2.2.2.2.1 X.2.2.2.2.2.2.2.2.2.2.2.2.2.1 X.2.2.2.2.2.2.2.2.2.2.2.2.2.2.1 X.2.2.2.2.2.2.2.2.2.2.2.1 X.2.2.2.2.2.2.2.2.2.2.2.2.1 X.2.2.2.2.2.2.2.2.2.2.2.2.2.2.2 Y.2.2.2.2.2.2.2.2.2.2.2.1 Y.2.2.2.2.2.2.2.2.2.2.2.2.2.2.2.2.1 Y.2.2.2.2.2.2.2.2.2.2.2.2.2.2.2.2.2.1 Y.2.2.2.2.2.2.2.2.2.2.2.2.2.1 Y.2.2.2.2.2.2.2.2.2.2.2.2.2.2.2.1 Y.2.1 Y.2.2.1 ∧ (X.2.1 = 1 → zMy Y.2.2.2.2.2.2.2.2.2.2.2.2.2.2.2.2.2.2 Y.2.2.2.2.2.2.2.2.2.2.2.2.2.2.2.2.1 Y.2.2.2.2.2.2.2.2.2.2.2.2.2.2.2.1)))
theorem z_part {fBy ft fw fCo fHe fHr fRc fWa fKn fPa fOt fHd : Nat → Int32} {st lxa lxt lxp lxn lxl nx kd wh ap pfa pfp fa fp phs pop rsz rkn kn wt br ct he wn mn : Int32} (g : zG fBy ft fw fCo st) (h : zT st lxa lxt lxp lxn lxl nx kd wh ap) (q1 : pfa = fa) (q2 : pfp = fp) (hH : zH phs pop rsz rkn fHe fHr fRc kn wt br ct fWa fKn fPa) (hw : wn = 1) (hM : zMy mn wt fWa) :
    ∀ X, X = fp_readPart pfa pfp phs pop st lxa lxt lxp lxn lxl fBy fCo fHe fHr rsz rkn fRc → ∀ Y, Y = fq_leafRead ft fw fKn fPa fOt fWa fHd fa fp st nx kd wh ap kn wt he br ct wn mn → zRq st nx X Y := by
  intro X hX Y hY
  have hB := hH.2.2.2.2.1
  have c9 := hB.2.2.2.2.2.2.2.1
  have n01 : ¬ (0 : Int32) = 1 := by decide
  have n10 : ¬ (1 : Int32) = 0 := by decide
  have nm0 : ¬ (0 : Int32) ≤ -1 := by decide
  have pb := hH.2.1
  rw [fp_readPart, zite (zq26 h.2.2.2.2.1 h.2.2.2.2.2.1), zite (zq24 h.2.2.2.2.1 h.2.2.2.2.2.1)] at hX
  rw [fq_leafRead, zisSign, zisKey] at hY
  by_cases c : kd = 4 ∧ wh = 40
  · have el : lxt = 26 := by rw [zq26 h.2.2.2.2.1 h.2.2.2.2.2.1]; exact c
    have n21 : ¬ lxt = 21 := by rw [el]; decide
    rw [if_pos c, if_neg n21] at hX
    rw [if_pos c, xL_eq, if_neg n10] at hY
    by_cases d : br = 8
    · rw [if_neg (show ¬ pop < 8 by rw [pb, d]; decide)] at hX
      rw [if_pos d] at hY
      rw [hX, hY]; exact ⟨rfl, h.2.1, Or.inl ⟨rfl, rfl⟩⟩
    · have b8 : br < 8 := by have := hB.2.2.2.1; lia
      rw [if_pos (show pop < 8 by rw [pb]; exact b8), xL_eq, xL_eq, el] at hX
      rw [if_neg d, xL_eq, xL_eq] at hY
      have hz := z_hold (k := 0) (pop2 := pop + 1) (rkn2 := rkn) (br2 := br + 1) (ct2 := ct) hH (Or.inl rfl) (by rw [pb]) hH.2.2.2.1 (Or.inl ⟨rfl, rfl, rfl, b8⟩)
      rw [hX, hY]
      refine ⟨q1, q2, Or.inr ⟨rfl, rfl, g.tok h _ rfl _ rfl, g.adv h _ rfl, hw.symm, Or.inr rfl, hz, fun _ => ?_⟩⟩
      show ((1 : Int32) = 0) = _
      rw [fq_waitsFor]
      show _ = (¬ (if wt + 1 ≤ 0 then 0 else fq_rank (upd fWa wt.toNatClampNeg 0 ((wt + 1 - 1).toNatClampNeg))) ≤ 3)
      rw [if_neg (by lia), show wt + 1 - 1 = wt from by lia, show upd fWa wt.toNatClampNeg 0 wt.toNatClampNeg = 0 from if_pos rfl]
      decide
  by_cases c2 : kd = 1 ∧ wh = 18
  · have el : lxt = 21 := by rw [zq21 h.2.2.2.2.1 h.2.2.2.2.2.1]; exact c2
    rw [if_neg c, if_pos el, xL_eq, z_hr hH] at hX
    rw [if_neg c, xL_eq, zn0, if_pos c2, xL_eq, zn1] at hY
    by_cases d : mn = 0
    · have d2 : ¬ (if wt ≤ 0 then 0 else fq_rank (fWa ((wt - 1).toNatClampNeg))) ≤ 3 := by rw [zMy] at hM; rw [← hM]; exact d
      have nm : fq_nameMet kd wh = -1 := by rw [c2.1, c2.2]; rfl
      rw [if_neg d2] at hX
      rw [if_pos d, nm, xL_eq, if_neg nm0, if_neg (show ¬ kd = 3 by rw [c2.1]; decide)] at hY
      rw [hX, hY]
      exact ⟨rfl, h.2.1, Or.inl ⟨rfl, rfl⟩⟩
    · have d2 : (if wt ≤ 0 then 0 else fq_rank (fWa ((wt - 1).toNatClampNeg))) ≤ 3 := by
        rw [zMy] at hM
        exact Decidable.not_not.mp (fun z => d (by rw [hM]; exact z))
      rw [if_pos d2] at hX
      rw [if_neg d] at hY
      rcases z_cnt q1 q2 h.2.1 hH.2.2.2.1 c9 with ⟨e1, e2⟩ | ⟨e1, e2, e3⟩
      · rw [e1, xL_eq, if_pos rfl] at hX
        rw [e2, xL_eq, if_pos rfl] at hY
        rw [hX, hY]; exact ⟨rfl, h.2.1, Or.inl ⟨rfl, rfl⟩⟩
      · rw [e1, xL_eq] at hX
        rw [e2, xL_eq] at hY
        dsimp only at hX hY
        rw [if_neg n01, xL_eq, xL_eq, el] at hX
        rw [if_neg n10, xL_eq, xL_eq] at hY
        have hz := z_hold (k := 2) (pop2 := pop) (rkn2 := rkn + 1) (br2 := br) (ct2 := ct + 1) hH (Or.inr ⟨by decide, by decide⟩) hH.2.1 (by rw [hH.2.2.2.1]) (Or.inr ⟨by decide, rfl, rfl, e3⟩)
        rw [hX, hY]
        refine ⟨q1, q2, Or.inr ⟨rfl, rfl, g.tok h _ rfl _ rfl, g.adv h _ rfl, hw.symm, Or.inr rfl, hz, fun _ => ?_⟩⟩
        show (mn = 0) = _
        rw [fq_waitsFor]
        show _ = (¬ (if wt + 1 ≤ 0 then 0 else fq_rank (upd fWa wt.toNatClampNeg 2 ((wt + 1 - 1).toNatClampNeg))) ≤ 3)
        rw [if_neg (by lia), show wt + 1 - 1 = wt from by lia, show upd fWa wt.toNatClampNeg 2 wt.toNatClampNeg = 2 from if_pos rfl]
        exact propext ⟨fun z => absurd z d, fun z => absurd (by decide) z⟩
  have el2 : ¬ lxt = 21 := by rw [zq21 h.2.2.2.2.1 h.2.2.2.2.2.1]; exact c2
  rw [if_neg c, if_neg el2] at hX
  rw [if_neg c, xL_eq, zn0, if_neg c2, xL_eq, zn0, xL_eq] at hY
  have hnm := z_nm h.2.2.2.2.1 h.2.2.2.2.2.1
  by_cases c3 : kd = 3
  · have hn := h.2.2.2.2.2.2.2 c3
    have hn2 := hn.2.2
    have em : fq_nameMet kd wh = -1 := by rw [c3]; rfl
    rw [if_pos c3] at hX
    rw [em, if_neg nm0, if_pos c3] at hY
    by_cases d : lxn ≤ 9999
    · have hx : lxn = wh := by lia
      rw [if_pos d] at hX
      rw [if_pos (show wh ≤ 9999 by lia)] at hY
      rcases z_cnt q1 q2 h.2.1 hH.2.2.2.1 c9 with ⟨e1, e2⟩ | ⟨e1, e2, e3⟩
      · rw [e1, xL_eq, if_pos rfl] at hX
        rw [e2, xL_eq, if_pos rfl] at hY
        rw [hX, hY]; exact ⟨rfl, h.2.1, Or.inl ⟨rfl, rfl⟩⟩
      · rw [e1, xL_eq] at hX
        rw [e2, xL_eq] at hY
        dsimp only at hX hY
        rw [if_neg n01, xL_eq, xL_eq] at hX
        rw [if_neg n10, if_pos (show (-1 : Int32) < 0 by decide), xL_eq, xL_eq] at hY
        have hz := z_leaf (x := lxn) (a := 0) (b := wh) (c := 0) (rkn2 := rkn + 1) (ct2 := ct + 1) (he := he) (fOt := fOt) (fHd := fHd) hH (Or.inl ⟨rfl, hx, hn.1, by lia⟩) (by rw [hH.2.2.2.1]) rfl e3
        rw [hX, hY]
        exact ⟨q1, q2, Or.inr ⟨rfl, rfl, g.tok h _ rfl _ rfl, g.adv h _ rfl, rfl, Or.inl rfl, hz, fun z => absurd (show (0 : Int32) = 1 from z) (by decide)⟩⟩
    · rw [if_neg d] at hX
      rw [if_neg (show ¬ wh ≤ 9999 by lia)] at hY
      rw [hX, hY]
      exact ⟨rfl, h.2.1, Or.inl ⟨rfl, rfl⟩⟩
  rw [if_neg c3, xL_eq] at hX
  rcases hnm with ⟨m1, m2⟩ | ⟨m1, m2, m3, m4⟩
  · rw [m1, zn0] at hX
    rw [m2, if_neg nm0, if_neg c3] at hY
    rw [hX, hY]; exact ⟨rfl, h.2.1, Or.inl ⟨rfl, rfl⟩⟩
  · rw [m1, zn1] at hX
    rw [if_pos (show 0 ≤ fq_nameMet kd wh by lia)] at hY
    rcases z_cnt q1 q2 h.2.1 hH.2.2.2.1 c9 with ⟨e1, e2⟩ | ⟨e1, e2, e3⟩
    · rw [e1, xL_eq, if_pos rfl] at hX
      rw [e2, xL_eq, if_pos rfl] at hY
      rw [hX, hY]; exact ⟨rfl, h.2.1, Or.inl ⟨rfl, rfl⟩⟩
    · rw [e1, xL_eq] at hX
      rw [e2, xL_eq] at hY
      dsimp only at hX hY
      rw [if_neg n01, xL_eq, xL_eq, xL_eq] at hX
      rw [if_neg n10, if_neg m2, xL_eq, xL_eq] at hY
      have hz := z_leaf (x := fr_knotOf lxt) (a := 1) (b := fq_nameMet kd wh) (c := 0) (rkn2 := rkn + 1) (ct2 := ct + 1) (he := he) (fOt := fOt) (fHd := fHd) hH (Or.inr (Or.inl ⟨rfl, by rw [← m4], m2, m3⟩)) (by rw [hH.2.2.2.1]) rfl e3
      rw [hX, hY]
      exact ⟨q1, q2, Or.inr ⟨rfl, rfl, g.tok h _ rfl _ rfl, g.adv h _ rfl, rfl, Or.inl rfl, hz, fun z => absurd (show (0 : Int32) = 1 from z) (by decide)⟩⟩
