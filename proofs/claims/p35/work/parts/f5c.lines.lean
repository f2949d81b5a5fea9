theorem z10 {x : Int32} (h : x = 0) : ¬ x = 1 := by rw [h]; decide
theorem z01 {x : Int32} (h : x = 1) : ¬ x = 0 := by rw [h]; decide
theorem zia {c n : Int32} (c0 : ¬ c < 0) (c9 : c ≤ 1000) (n0 : ¬ n < 0) (n9 : n ≤ 1000) : (c + n).toNatClampNeg = c.toNatClampNeg + n.toNatClampNeg := by
  have h1 := xi_nat c0
  have h2 := xi_nat n0
  have h3 := xi_nat (w := c + n) (by lia)
  have h4 := xi_le c9
  have h5 := xi_le n9
  have h6 := xi_nn c0
  have h7 := xi_nn n0
  have e : (1000 : Int32).toInt = 1000 := rfl
  have h8 : (c + n).toInt = c.toInt + n.toInt := by
    rw [Int32.toInt_add]; exact Int.bmod_eq_of_le (by omega) (by omega)
  omega
theorem zi3 {n : Int32} (n0 : ¬ n < 0) (n9 : n ≤ 12) : (12 + (3 * n)).toNatClampNeg = 12 + 3 * n.toNatClampNeg := by
  rw [zia (by decide) (by decide) (by lia) (by lia), xl_m0 3 (by decide) (by decide) n0 n9]; rfl
theorem zi3j {n j : Int32} (n0 : ¬ n < 0) (n9 : n ≤ 12) (j0 : ¬ j < 0) (j9 : j ≤ 12) : ((12 + (3 * n)) + j).toNatClampNeg = 12 + 3 * n.toNatClampNeg + j.toNatClampNeg := by
  rw [zia (by lia) (by lia) j0 (by lia), zi3 n0 n9]
def zNA (f fa : Nat → Int32) (off : Nat) (n : Int32) : Prop := ∀ k : Nat, k < n.toNatClampNeg → f k = fa (off + k)
theorem zNA_s {f fa : Nat → Int32} {off : Nat} {n x N : Int32} (hN : N.toNatClampNeg = off + n.toNatClampNeg) (n0 : ¬ n < 0) (n9 : n ≤ 12) (h : zNA f fa off n) : zNA (upd f n.toNatClampNeg x) (upd fa N.toNatClampNeg x) off (n + 1) := by
  intro k hk
  rw [xi_natS n0 (by lia)] at hk
  rw [hN]
  unfold upd
  by_cases c : k = n.toNatClampNeg
  · rw [if_pos c, if_pos (by omega)]
  · rw [if_neg c, if_neg (by omega)]; exact h k (by omega)
def zLd (FI GR FR lh : Nat → Int32) (n : Int32) : Prop := ∀ k : Nat, k < n.toNatClampNeg → FI k = lh (12 + 3 * k) ∧ GR k = lh (12 + 3 * k + 1) ∧ FR k = lh (12 + 3 * k + 2) ∧ ¬ FI k < 1 ∧ FI k ≤ 9999 ∧ ¬ GR k < -99 ∧ GR k ≤ 99 ∧ ¬ FR k < 0 ∧ FR k ≤ 99999
theorem zLd_s {FI GR FR lh lh' : Nat → Int32} {n a b c : Int32} (n0 : ¬ n < 0) (n9 : n ≤ 12) (h : zLd FI GR FR lh n)
    (hl : ∀ k, lh' k = if k = 12 + 3 * n.toNatClampNeg then a else if k = 12 + 3 * n.toNatClampNeg + 1 then b else if k = 12 + 3 * n.toNatClampNeg + 2 then c else lh k)
    (a0 : ¬ a < 1) (a9 : a ≤ 9999) (b0 : ¬ b < -99) (b9 : b ≤ 99) (c0 : ¬ c < 0) (c9 : c ≤ 99999) : zLd (va_up FI n.toNatClampNeg a) (va_up GR n.toNatClampNeg b) (va_up FR n.toNatClampNeg c) lh' (n + 1) := by
  intro k hk
  rw [xi_natS n0 (by lia)] at hk
  rw [hl, hl, hl]
  unfold va_up
  by_cases q : k = n.toNatClampNeg
  · rw [if_pos q, if_pos q, if_pos q, if_pos (by omega), if_neg (by omega), if_pos (by omega), if_neg (by omega), if_neg (by omega), if_pos (by omega)]
    exact ⟨rfl, rfl, rfl, a0, a9, b0, b9, c0, c9⟩
  · rw [if_neg q, if_neg q, if_neg q, if_neg (by omega), if_neg (by omega), if_neg (by omega), if_neg (by omega), if_neg (by omega), if_neg (by omega), if_neg (by omega), if_neg (by omega), if_neg (by omega)]
    exact h k (by omega)
theorem zup3 {f : Nat → Int32} {i j l : Nat} {a b c : Int32} (h1 : j = i + 1) (h2 : l = i + 2) : ∀ k, upd (upd (upd f i a) j b) l c k = if k = i then a else if k = i + 1 then b else if k = i + 2 then c else f k := by
  intro k
  rw [h1, h2]
  unfold upd
  by_cases q2 : k = i + 2
  · rw [if_pos q2, if_neg (by omega), if_neg (by omega), if_pos q2]
  · rw [if_neg q2]
    by_cases q1 : k = i + 1
    · rw [if_pos q1, if_neg (by omega), if_pos q1]
    · rw [if_neg q1]
      by_cases q0 : k = i
      · rw [if_pos q0, if_pos q0]
      · rw [if_neg q0, if_neg q0, if_neg q1, if_neg q2]
theorem zup4 {f : Nat → Int32} {i j l : Nat} {a b c d : Int32} (h1 : j = i + 1) (h2 : l = i + 2) : ∀ k, upd (upd (upd (upd f i a) j b) l d) l c k = if k = i then a else if k = i + 1 then b else if k = i + 2 then c else f k := by
  intro k
  rw [← zup3 (f := f) (a := a) (b := b) (c := c) h1 h2 k]
  unfold upd
  by_cases q2 : k = l
  · rw [if_pos q2, if_pos q2]
  · rw [if_neg q2, if_neg q2, if_neg q2]
def zRl (st n : Int32) (fTo : Nat → Int32) (fNm : Nat → Nat → Int32) (X : Int32 × Int32 × Int32 × Int32 × Int32 × Int32 × Int32 × Int32 × (Nat → Int32) × (Nat → Nat → Int32) × (Nat → Int32) × (Nat → Int32) × (Nat → Int32)) (Y : Int32 × (Nat → Int32) × (Nat → Int32) × Int32 × Int32 × Int32 × Int32 × Int32 × Int32 × Int32 × Int32) : Prop :=
  X.2.1 = Y.2.2.2.1 ∧ X.2.2.1 = Y.2.2.2.2.1 ∧ ((X.1 = 1 ∧ Y.1 = 0) ∨ (X.1 = 0 ∧ Y.1 = 1 ∧ zT st X.2.2.2.1 X.2.2.2.2.1 X.2.2.2.2.2.1 X.2.2.2.2.2.2.1 X.2.2.2.2.2.2.2.1 Y.2.2.2.2.2.1 Y.2.2.2.2.2.2.1 Y.2.2.2.2.2.2.2.1 Y.2.2.2.2.2.2.2.2.1 ∧ X.2.2.2.2.2.2.2.2.1 = upd fTo 0 (n + 1) ∧ Y.2.2.2.2.2.2.2.2.2.2 = n + 1 ∧ (∀ j, ¬ j = 0 → X.2.2.2.2.2.2.2.2.2.1 j = fNm j) ∧ zNA (X.2.2.2.2.2.2.2.2.2.1 0) Y.2.2.1 4 (n + 1) ∧ zLd X.2.2.2.2.2.2.2.2.2.2.1 X.2.2.2.2.2.2.2.2.2.2.2.1 X.2.2.2.2.2.2.2.2.2.2.2.2 Y.2.1 (n + 1)))
theorem z_land {fBy ft fw fCo fTo : Nat → Int32} {fNm : Nat → Nat → Int32} {st lxa lxt lxp lxn lxl nx kd wh ap pfa pfp fa fp got : Int32} (g : zG fBy ft fw fCo st) (h : zT st lxa lxt lxp lxn lxl nx kd wh ap) (q1 : pfa = fa) (q2 : pfp = fp) {FI GR FR lna lh : Nat → Int32} {n : Int32} (hn : fTo 0 = n) (n0 : ¬ n < 0) (n9 : n ≤ 4) (hN : zNA (fNm 0) lna 4 n) (hL : zLd FI GR FR lh n) :
    ∀ X, X = fp_readLand pfa pfp st lxa lxt lxp lxn lxl fBy fCo fTo fNm FI GR FR → ∀ Y, Y = fq_landLine ft fw lna lh fa fp st nx kd wh ap got n → zRl st n fTo fNm X Y := by
  intro X hX Y hY
  rw [hX, hY, fp_readLand, fq_landLine]
  by_cases c4 : n = 4
  · rw [if_pos c4, z_full0 (hn.trans c4), xL_eq, xL_eq, if_pos rfl]
    exact ⟨rfl, h.2.1, Or.inl ⟨rfl, rfl⟩⟩
  rw [if_neg c4]
  apply zLl; intro X1 hX1; apply zLr; intro V1 hV1; apply zLr; intro Y1 hY1
  obtain ⟨q1, q2, q3⟩ := z_begin0 g h q1 q2 hn n0 (by lia) hN X1 hX1 V1 hV1 Y1 hY1
  rcases q3 with ⟨r1, r2⟩ | ⟨r1, r2, r3, ⟨x, r4, r5⟩, h1⟩
  · rw [if_pos r1, if_pos r2]; exact ⟨q1, q2, Or.inl ⟨rfl, rfl⟩⟩
  rw [if_neg (z10 r1), if_neg (z01 r2)]
  have w1 : ∀ j, ¬ j = 0 → X1.2.2.2.2.2.2.2.2.2 j = fNm j := fun j hj => by rw [r4]; exact va_up_ne _ _ hj
  have w2 : zNA (X1.2.2.2.2.2.2.2.2.2 0) Y1.2.1 4 (n + 1) := by
    rw [r4, r5, va_up_self]
    exact zNA_s (zia (by decide) (by decide) n0 (by lia)) n0 (by lia) hN
  apply zLx; intro X2 hX2 Y2 hY2
  obtain ⟨q1, q2, q3⟩ := z_number g h1 q1 q2 (by decide) X2 hX2 Y2 hY2
  rcases q3 with ⟨r1, r2⟩ | ⟨r1, r2, a1, a2, a3, h2⟩
  · rw [if_pos r1, if_pos r2]; exact ⟨q1, q2, Or.inl ⟨rfl, rfl⟩⟩
  rw [if_neg (z10 r1), if_neg (z01 r2)]
  apply zLx; intro X3 hX3 Y3 hY3
  obtain ⟨q1, q2, q3⟩ := z_signed g h2 q1 q2 (by decide) (by decide) X3 hX3 Y3 hY3
  rcases q3 with ⟨r1, r2⟩ | ⟨r1, r2, b1, b2, b3, h3⟩
  · rw [if_pos r1, if_pos r2]; exact ⟨q1, q2, Or.inl ⟨rfl, rfl⟩⟩
  rw [if_neg (z10 r1), if_neg (z01 r2)]
  rw [zite (zq1 h3.2.2.2.2.1 h3.2.2.2.2.2.1), zisKey]
  have ie := zi3 n0 (n9 := by lia)
  have i1 : ((12 + (3 * n)) + 1).toNatClampNeg = (12 + (3 * n)).toNatClampNeg + 1 := by rw [zi3j n0 (by lia) (by decide) (by decide), ie]; rfl
  have i2 : ((12 + (3 * n)) + 2).toNatClampNeg = (12 + (3 * n)).toNatClampNeg + 2 := by rw [zi3j n0 (by lia) (by decide) (by decide), ie]; rfl
  have ht : upd fTo ((0 : Int32).toNatClampNeg) ((fTo ((0 : Int32).toNatClampNeg)) + 1) = upd fTo 0 (n + 1) := by
    show upd fTo 0 (fTo 0 + 1) = _
    rw [hn]
  by_cases c : Y3.2.2.2.2.1 = 1 ∧ Y3.2.2.2.2.2.1 = 8
  · rw [if_pos c, if_pos c, xL_eq (1 : Int32), zn1]
    apply zLx; intro U4 hU4 V4 hV4
    have h4 := g.tok h3 U4 hU4 V4 hV4
    apply zLx; intro X5 hX5 Y5 hY5
    obtain ⟨q1, q2, q3⟩ := z_number g h4 q1 q2 (by decide) X5 hX5 Y5 hY5
    rcases q3 with ⟨r1, r2⟩ | ⟨r1, r2, c1, c2, c3, h5⟩
    · rw [if_pos r1, if_pos r2]; exact ⟨q1, q2, Or.inl ⟨rfl, rfl⟩⟩
    rw [if_neg (z10 r1), if_neg (z01 r2)]
    rw [fq_landLine_t]
    refine ⟨q1, q2, Or.inr ⟨rfl, rfl, h5, ht, rfl, w1, w2, ?_⟩⟩
    rw [r3]
    refine zLd_s n0 (by lia) hL (fun k => ?_) a2 a3 b2 b3 c2 c3
    show upd (upd (upd (upd lh _ _) _ _) _ _) _ _ k = _
    rw [zup4 i1 i2, ie, ← a1, ← b1, ← c1]
  · rw [if_neg c, if_neg c, xL_eq (0 : Int32), zn0, fq_landLine_t]
    refine ⟨q1, q2, Or.inr ⟨rfl, rfl, h3, ht, rfl, w1, w2, ?_⟩⟩
    rw [r3]
    refine zLd_s n0 (by lia) hL (fun k => ?_) a2 a3 b2 b3 (by decide) (by decide)
    show upd (upd (upd lh _ _) _ _) _ _ k = _
    rw [zup3 i1 i2, ie, ← a1, ← b1]
def zSk (psk w m s : Int32) : Prop := (w = 0 ∨ w = 1) ∧ (m = 0 ∨ m = 1) ∧ (s = 0 ∨ s = 1) ∧ psk = w + 2 * m + 4 * s
theorem zSk_t {psk w m s : Int32} (h : zSk psk w m s) : ((psk &&& 1) = 0) = (w = 0) ∧ ((psk &&& 2) = 0) = (m = 0) ∧ ((psk &&& 4) = 0) = (s = 0) ∧ (w = 0 → zSk (psk ||| 1) 1 m s) ∧ (m = 0 → zSk (psk ||| 2) w 1 s) ∧ (s = 0 → zSk (psk ||| 4) w m 1) := by
  obtain ⟨h1, h2, h3, h4⟩ := h
  rcases h1 with h1 | h1 <;> rcases h2 with h2 | h2 <;> rcases h3 with h3 | h3 <;> rw [h4, h1, h2, h3] <;> exact ⟨by decide, by decide, by decide, fun _ => ⟨by decide, by decide, by decide, by decide⟩, fun _ => ⟨by decide, by decide, by decide, by decide⟩, fun _ => ⟨by decide, by decide, by decide, by decide⟩⟩
def zRk (st b psk : Int32) (X : Int32 × Int32 × Int32 × Int32 × Int32 × Int32 × Int32 × Int32 × Int32) (V : Int32 × Int32 × Int32 × Int32) (pfa pfp : Int32) : Prop := X = ((0 : Int32), pfa, pfp, (psk ||| b), X.2.2.2.2.1, X.2.2.2.2.2.1, X.2.2.2.2.2.2.1, X.2.2.2.2.2.2.2.1, X.2.2.2.2.2.2.2.2) ∧ zT st X.2.2.2.2.1 X.2.2.2.2.2.1 X.2.2.2.2.2.2.1 X.2.2.2.2.2.2.2.1 X.2.2.2.2.2.2.2.2 V.1 V.2.1 V.2.2.1 V.2.2.2
theorem z_sky {fBy ft fw fCo : Nat → Int32} {st lxa lxt lxp lxn lxl nx kd wh ap pfa pfp psk b : Int32} (g : zG fBy ft fw fCo st) (h : zT st lxa lxt lxp lxn lxl nx kd wh ap) (hb : (psk &&& b) = 0) :
    ∀ X, X = fp_beginSky pfa pfp psk st lxa lxt lxp lxn lxl fBy fCo b → ∀ V, V = fq_token ft fw st nx wh → zRk st b psk X V pfa pfp := by
  intro X hX V hV
  rw [fp_beginSky, if_pos hb, xL_eq] at hX
  rw [hX]
  exact ⟨rfl, g.tok h _ rfl V hV⟩
theorem z_sky1 {fBy fCo : Nat → Int32} {st lxa lxt lxp lxn lxl pfa pfp psk b : Int32} (hb : ¬ (psk &&& b) = 0) : fp_beginSky pfa pfp psk st lxa lxt lxp lxn lxl fBy fCo b = ((1 : Int32), (3 : Int32), lxp, psk, lxa, lxt, lxp, lxn, lxl) := by
  rw [fp_beginSky, if_neg hb]
def zRw (st tw tm ts : Int32) (sk : Nat → Int32) (X : Int32 × Int32 × Int32 × Int32 × Int32 × Int32 × Int32 × Int32 × Int32 × Int32 × Int32) (Y : Int32 × (Nat → Int32) × Int32 × Int32 × Int32 × Int32 × Int32 × Int32 × Int32 × Int32) : Prop :=
  X.2.1 = Y.2.2.1 ∧ X.2.2.1 = Y.2.2.2.1 ∧ ((X.1 = 1 ∧ Y.1 = 0) ∨ (X.1 = 0 ∧ Y.1 = 1 ∧ zT st X.2.2.2.2.1 X.2.2.2.2.2.1 X.2.2.2.2.2.2.1 X.2.2.2.2.2.2.2.1 X.2.2.2.2.2.2.2.2.1 Y.2.2.2.2.1 Y.2.2.2.2.2.1 Y.2.2.2.2.2.2.1 Y.2.2.2.2.2.2.2.1 ∧ zSk X.2.2.2.1 Y.2.2.2.2.2.2.2.2.2 tm ts ∧ Y.2.1 = upd (upd sk 7 X.2.2.2.2.2.2.2.2.2.1) 8 X.2.2.2.2.2.2.2.2.2.2 ∧ ¬ X.2.2.2.2.2.2.2.2.2.1 < 2 ∧ X.2.2.2.2.2.2.2.2.2.1 ≤ 30 ∧ ¬ X.2.2.2.2.2.2.2.2.2.2 < 0 ∧ X.2.2.2.2.2.2.2.2.2.2 < X.2.2.2.2.2.2.2.2.2.1 ∧ tw = 0 ∧ Y.2.2.2.2.2.2.2.2.2 = 1))
theorem z_week {fBy ft fw fCo : Nat → Int32} {st lxa lxt lxp lxn lxl nx kd wh ap pfa pfp fa fp got : Int32} (g : zG fBy ft fw fCo st) (h : zT st lxa lxt lxp lxn lxl nx kd wh ap) (q1 : pfa = fa) (q2 : pfp = fp) {sk : Nat → Int32} {psk tw tm ts wd wf : Int32} (hk : zSk psk tw tm ts) :
    ∀ X, X = fp_readWeek pfa pfp psk st lxa lxt lxp lxn lxl fBy fCo wd wf → ∀ Y, Y = fq_weekLine ft fw sk fa fp st nx kd wh ap got tw → zRw st tw tm ts sk X Y := by
  intro X hX Y hY
  have k9 := zSk_t hk
  rw [hX, hY, fp_readWeek, fq_weekLine]
  by_cases c : tw = 0
  case neg =>
    rw [if_neg c, z_sky1 (by rw [k9.1]; exact c), xL_eq, xL_eq, if_pos rfl]
    exact ⟨rfl, h.2.1, Or.inl ⟨rfl, rfl⟩⟩
  rw [if_pos c]
  apply zLl; intro X1 hX1; apply zLr; intro V1 hV1
  obtain ⟨e1, h1⟩ := z_sky g h (by rw [k9.1]; exact c) X1 hX1 V1 hV1
  have f0 : X1.1 = 0 := by rw [e1]
  have f1 : X1.2.1 = fa := by rw [e1]; exact q1
  have f2 : X1.2.2.1 = fp := by rw [e1]; exact q2
  have f3 : X1.2.2.2.1 = (psk ||| 1) := by rw [e1]
  rw [if_neg (z10 f0)]
  apply zLx; intro X2 hX2 Y2 hY2
  obtain ⟨q1, q2, q3⟩ := z_number g h1 f1 f2 (by decide) X2 hX2 Y2 hY2
  rcases q3 with ⟨r1, r2⟩ | ⟨r1, r2, a1, a2, a3, h2⟩
  · rw [if_pos r1, if_pos r2]; exact ⟨q1, q2, Or.inl ⟨rfl, rfl⟩⟩
  rw [if_neg (z10 r1), if_neg (z01 r2)]
  have e7 : (upd sk ((7 : Int32).toNatClampNeg) Y2.2.2.2.2.2.1) ((7 : Int32).toNatClampNeg) = Y2.2.2.2.2.2.1 := if_pos rfl
  rw [e7, ← a1]
  apply zLx; intro X3 hX3 Y3 hY3
  obtain ⟨q1, q2, q3⟩ := z_number g h2 q1 q2 (by lia) X3 hX3 Y3 hY3
  rcases q3 with ⟨r1, r2⟩ | ⟨r1, r2, b1, b2, b3, h3⟩
  · rw [if_pos r1, if_pos r2]; exact ⟨q1, q2, Or.inl ⟨rfl, rfl⟩⟩
  rw [if_neg (z10 r1), if_neg (z01 r2)]
  exact ⟨q1, q2, Or.inr ⟨rfl, rfl, h3, (by show zSk X1.2.2.2.1 _ _ _; rw [f3]; exact k9.2.2.2.1 c), by rw [b1]; rfl, a2, a3, b2, by lia, c, rfl⟩⟩
theorem zdiv8 {A : Int32} (A1 : ¬ A < 1) (A9 : A ≤ 9999) : A / 8 * 8 ≤ A ∧ A < A / 8 * 8 + 8 ∧ ¬ A / 8 < 0 ∧ A / 8 ≤ 1249 := by
  have a1 := Int32.le_iff_toInt_le.mp (Int32.not_lt.mp A1)
  have a9 := Int32.le_iff_toInt_le.mp A9
  have e1 : (1 : Int32).toInt = 1 := rfl
  have e9 : (9999 : Int32).toInt = 9999 := rfl
  have e8 : (8 : Int32).toInt = 8 := rfl
  rw [e1] at a1
  rw [e9] at a9
  have hq : (A / 8).toInt = A.toInt / 8 := by
    rw [Int32.toInt_div, e8, Int.tdiv_eq_ediv_of_nonneg (by omega)]
    exact Int.bmod_eq_of_le (by omega) (by omega)
  have hq0 : ¬ A / 8 < 0 := Int32.not_lt.mpr (Int32.le_iff_toInt_le.mpr (by rw [hq]; show (0 : Int) ≤ _; omega))
  have hq9 : A / 8 ≤ 1249 := Int32.le_iff_toInt_le.mpr (by rw [hq]; show _ ≤ (1249 : Int); omega)
  generalize A / 8 = Q at *
  have hm : (Q * 8).toInt = Q.toInt * 8 := by rw [Int32.toInt_mul, e8]; exact Int.bmod_eq_of_le (by omega) (by omega)
  have hp : (Q * 8 + 8).toInt = Q.toInt * 8 + 8 := by rw [Int32.toInt_add, hm, e8]; exact Int.bmod_eq_of_le (by omega) (by omega)
  exact ⟨Int32.le_iff_toInt_le.mpr (by rw [hm]; omega), Int32.lt_iff_toInt_lt.mpr (by rw [hp]; omega), hq0, hq9⟩
theorem z_latter {fBy ft fw fCo : Nat → Int32} {st lxa lxt lxp lxn lxl nx kd wh ap pfa pfp fa fp got A : Int32} (g : zG fBy ft fw fCo st) (h : zT st lxa lxt lxp lxn lxl nx kd wh ap) (q1 : pfa = fa) (q2 : pfp = fp) (A1 : ¬ A < 1) (A9 : A ≤ 9999) :
    ∀ X, X = fp_latterParts pfa pfp st lxa lxt lxp lxn lxl fBy fCo A → ∀ B, B = (if 99 ≤ A / 8 then 99 else A / 8) → ∀ Y, Y = fq_number ft fw 1 B fa fp st nx kd wh ap got →
    X.2.2.1 = Y.2.2.2.2.2.2.1 ∧ X.2.2.2.1 = Y.2.2.2.2.2.2.2 ∧ ((X.1 = 1 ∧ Y.1 = 0) ∨ (X.1 = 0 ∧ Y.1 = 1 ∧ X.2.1 = Y.2.2.2.2.2.1 ∧ ¬ X.2.1 < 1 ∧ X.2.1 ≤ 99 ∧ 8 * X.2.1 ≤ A ∧ zT st X.2.2.2.2.1 X.2.2.2.2.2.1 X.2.2.2.2.2.2.1 X.2.2.2.2.2.2.2.1 X.2.2.2.2.2.2.2.2 Y.2.1 Y.2.2.1 Y.2.2.2.1 Y.2.2.2.2.1)) := by
  intro X hX B hB Y hY
  have d0 := zdiv8 A1 A9
  have B9 : B ≤ 99 ∧ B ≤ A / 8 ∧ (B = 99 ∨ B = A / 8) := by
    rw [hB]
    by_cases c : 99 ≤ A / 8
    · rw [if_pos c]; exact ⟨by decide, c, Or.inl rfl⟩
    · rw [if_neg c]; exact ⟨by lia, by lia, Or.inr rfl⟩
  have ey0 : (wh < 1 ∨ B < wh) → fq_isIn wh 1 B = 0 := by
    intro z
    rw [fq_isIn]
    by_cases z1 : wh < 1
    · rw [if_pos z1]
    · rw [if_neg z1, if_pos (z.resolve_left z1)]
  have ey1 : ¬ wh < 1 → ¬ B < wh → fq_isIn wh 1 B = 1 := by
    intro z1 z2
    rw [fq_isIn, if_neg z1, if_neg z2]
  rw [fp_latterParts, xL_eq, fp_numberIn, zite (zq24 h.2.2.2.2.1 h.2.2.2.2.2.1)] at hX
  rw [fq_number] at hY
  have n01 : ¬ (0 : Int32) = 1 := by decide
  have n10 : ¬ (1 : Int32) = 0 := by decide
  generalize A / 8 = Q at d0 B9
  by_cases c : kd = 3
  · have hn := h.2.2.2.2.2.2.2 c
    have hn2 := hn.2.2
    rw [if_pos c] at hX hY
    by_cases d : lxn < 1
    · rw [if_pos d, if_pos rfl] at hX
      rw [ey0 (by lia), xL_eq, if_pos rfl] at hY
      rw [hX, hY]
      exact ⟨rfl, h.2.1, Or.inl ⟨rfl, rfl⟩⟩
    · rw [if_neg d] at hX
      by_cases e : lxn ≤ 99
      · have hw : lxn = wh := by lia
        rw [if_pos e, xL_eq] at hX
        dsimp only at hX
        rw [if_neg n01] at hX
        by_cases f : 8 * lxn ≤ A
        · rw [if_pos f] at hX
          rw [ey1 (by lia) (by lia), xL_eq, if_neg n10, xL_eq] at hY
          rw [hX, hY]
          exact ⟨q1, q2, Or.inr ⟨rfl, rfl, hw, d, e, f, g.tok h _ rfl _ rfl⟩⟩
        · rw [if_neg f] at hX
          rw [ey0 (by lia), xL_eq, if_pos rfl] at hY
          rw [hX, hY]
          exact ⟨rfl, h.2.1, Or.inl ⟨rfl, rfl⟩⟩
      · rw [if_neg e, if_pos rfl] at hX
        rw [ey0 (by lia), xL_eq, if_pos rfl] at hY
        rw [hX, hY]
        exact ⟨rfl, h.2.1, Or.inl ⟨rfl, rfl⟩⟩
  · rw [if_neg c, if_pos rfl] at hX
    rw [if_neg c] at hY
    rw [hX, hY]
    exact ⟨rfl, h.2.1, Or.inl ⟨rfl, rfl⟩⟩
theorem z_rj9 {sk : Nat → Int32} {u : Int32 × Int32 × Int32 × Int32 × Int32 × Int32 × Int32} : fq_roundRead9_j sk u = ((if 99 ≤ u.2.2.2.2.1 / 8 then (99 : Int32) else u.2.2.2.2.1 / 8), u.2.2.2.2.2.1, u.2.2.2.2.2.2, u.1, u.2.1, u.2.2.1, u.2.2.2.1, u.2.2.2.2.1, upd sk 9 u.2.2.2.2.1) := by
  have e : (upd sk ((9 : Int32).toNatClampNeg) u.2.2.2.2.1) ((9 : Int32).toNatClampNeg) = u.2.2.2.2.1 := if_pos rfl
  rw [fq_roundRead9_j, e]
  by_cases c : 99 ≤ u.2.2.2.2.1 / 8
  · rw [if_pos c, if_pos c]; rfl
  · rw [if_neg c, if_neg c]; rfl
theorem z_rj12 {sk : Nat → Int32} {u : Int32 × Int32 × Int32 × Int32 × Int32 × Int32 × Int32} : fq_roundRead12_j sk u = ((if 99 ≤ u.2.2.2.2.1 / 8 then (99 : Int32) else u.2.2.2.2.1 / 8), u.2.2.2.2.2.1, u.2.2.2.2.2.2, u.1, u.2.1, u.2.2.1, u.2.2.2.1, u.2.2.2.2.1, upd sk 12 u.2.2.2.2.1) := by
  have e : (upd sk ((12 : Int32).toNatClampNeg) u.2.2.2.2.1) ((12 : Int32).toNatClampNeg) = u.2.2.2.2.1 := if_pos rfl
  rw [fq_roundRead12_j, e]
  by_cases c : 99 ≤ u.2.2.2.2.1 / 8
  · rw [if_pos c, if_pos c]; rfl
  · rw [if_neg c, if_neg c]; rfl
def zRm (st tw tm ts : Int32) (sk : Nat → Int32) (X : Int32 × Int32 × Int32 × Int32 × Int32 × Int32 × Int32 × Int32 × Int32 × Int32 × Int32 × Int32) (Y : Int32 × Int32 × Int32 × Int32 × Int32 × Int32 × Int32 × Int32 × Int32 × (Nat → Int32)) : Prop :=
  X.2.1 = Y.2.1 ∧ X.2.2.1 = Y.2.2.1 ∧ ((X.1 = 1 ∧ Y.1 = 0) ∨ (X.1 = 0 ∧ Y.1 = 1 ∧ zT st X.2.2.2.2.1 X.2.2.2.2.2.1 X.2.2.2.2.2.2.1 X.2.2.2.2.2.2.2.1 X.2.2.2.2.2.2.2.2.1 Y.2.2.2.1 Y.2.2.2.2.1 Y.2.2.2.2.2.1 Y.2.2.2.2.2.2.1 ∧ zSk X.2.2.2.1 tw Y.2.2.2.2.2.2.2.2.1 ts ∧ Y.2.2.2.2.2.2.2.2.2 = upd (upd (upd sk 9 X.2.2.2.2.2.2.2.2.2.1) 10 X.2.2.2.2.2.2.2.2.2.2.1) 11 X.2.2.2.2.2.2.2.2.2.2.2 ∧ ¬ X.2.2.2.2.2.2.2.2.2.1 < 1 ∧ X.2.2.2.2.2.2.2.2.2.1 ≤ 9999 ∧ ¬ X.2.2.2.2.2.2.2.2.2.2.1 < 1 ∧ X.2.2.2.2.2.2.2.2.2.2.1 ≤ 99 ∧ 8 * X.2.2.2.2.2.2.2.2.2.2.1 ≤ X.2.2.2.2.2.2.2.2.2.1 ∧ ¬ X.2.2.2.2.2.2.2.2.2.2.2 < 0 ∧ X.2.2.2.2.2.2.2.2.2.2.2 < X.2.2.2.2.2.2.2.2.2.1 ∧ tm = 0 ∧ Y.2.2.2.2.2.2.2.2.1 = 1))
theorem z_moon {fBy ft fw fCo : Nat → Int32} {st lxa lxt lxp lxn lxl nx kd wh ap pfa pfp fa fp got : Int32} (g : zG fBy ft fw fCo st) (h : zT st lxa lxt lxp lxn lxl nx kd wh ap) (q1 : pfa = fa) (q2 : pfp = fp) {sk : Nat → Int32} {psk tw tm ts mp mb mo : Int32} (hk : zSk psk tw tm ts) :
    ∀ X, X = fp_readMoon pfa pfp psk st lxa lxt lxp lxn lxl fBy fCo mp mb mo → ∀ Y, Y = fq_moonLine ft fw sk fa fp st nx kd wh ap got tm → zRm st tw tm ts sk X Y := by
  intro X hX Y hY
  have k9 := zSk_t hk
  rw [hX, hY, fp_readMoon, fq_moonLine]
  by_cases c : tm = 0
  case neg =>
    rw [if_neg c, z_sky1 (by rw [k9.2.1]; exact c), xL_eq, xL_eq, if_pos rfl]
    exact ⟨rfl, h.2.1, Or.inl ⟨rfl, rfl⟩⟩
  rw [if_pos c]
  apply zLl; intro X1 hX1; apply zLr; intro V1 hV1
  obtain ⟨e1, h1⟩ := z_sky g h (by rw [k9.2.1]; exact c) X1 hX1 V1 hV1
  have f0 : X1.1 = 0 := by rw [e1]
  have f1 : X1.2.1 = fa := by rw [e1]; exact q1
  have f2 : X1.2.2.1 = fp := by rw [e1]; exact q2
  have f3 : X1.2.2.2.1 = (psk ||| 2) := by rw [e1]
  rw [if_neg (z10 f0)]
  apply zLr; intro R hR; apply zLl; intro X2 hX2
  rw [fq_roundRead9, xL_eq] at hR
  generalize hY2 : fq_number ft fw (1 : Int32) (9999 : Int32) fa fp st V1.1 V1.2.1 V1.2.2.1 V1.2.2.2 got = Y2 at hR
  obtain ⟨q1, q2, q3⟩ := z_number g h1 f1 f2 (by decide) X2 hX2 Y2 hY2.symm
  rcases q3 with ⟨r1, r2⟩ | ⟨r1, r2, a1, a2, a3, h2⟩
  · rw [if_pos r2] at hR; subst hR; dsimp only; rw [if_pos r1, zn0]; exact ⟨q1, q2, Or.inl ⟨rfl, rfl⟩⟩
  rw [if_neg (z01 r2), z_rj9, xL_eq, xL_eq] at hR; dsimp only at hR
  rw [if_neg (z10 r1)]
  apply zLl; intro X3 hX3
  generalize hB : (if 99 ≤ Y2.2.2.2.2.2.1 / 8 then (99 : Int32) else Y2.2.2.2.2.2.1 / 8) = B at hR
  generalize hY3 : fq_number ft fw (1 : Int32) B Y2.2.2.2.2.2.2.1 Y2.2.2.2.2.2.2.2 st Y2.2.1 Y2.2.2.1 Y2.2.2.2.1 Y2.2.2.2.2.1 Y2.2.2.2.2.2.1 = Y3 at hR
  obtain ⟨q1, q2, q3⟩ := z_latter g h2 q1 q2 a2 a3 X3 hX3 B (by rw [a1]; exact hB.symm) Y3 hY3.symm
  rcases q3 with ⟨r1, r2⟩ | ⟨r1, r2, b1, b2, b3, b4, h3⟩
  · rw [if_pos r2] at hR; subst hR; dsimp only; rw [if_pos r1, zn0]; exact ⟨q1, q2, Or.inl ⟨rfl, rfl⟩⟩
  rw [if_neg (z01 r2)] at hR; subst hR; dsimp only
  rw [if_neg (z10 r1), zn1]
  have e9 : (upd (upd sk 9 Y2.2.2.2.2.2.1) ((10 : Int32).toNatClampNeg) Y3.2.2.2.2.2.1) ((9 : Int32).toNatClampNeg) = X2.2.1 := by
    rw [a1]; rfl
  rw [e9]
  apply zLx; intro X4 hX4 Y4 hY4
  obtain ⟨q1, q2, q3⟩ := z_number g h3 q1 q2 (by lia) X4 hX4 Y4 hY4
  rcases q3 with ⟨r1, r2⟩ | ⟨r1, r2, c1, c2, c3, h4⟩
  · rw [if_pos r1, if_pos r2]; exact ⟨q1, q2, Or.inl ⟨rfl, rfl⟩⟩
  rw [if_neg (z10 r1), if_neg (z01 r2)]
  exact ⟨q1, q2, Or.inr ⟨rfl, rfl, h4, (by show zSk X1.2.2.2.1 _ _ _; rw [f3]; exact k9.2.2.2.2.1 c), by rw [a1, b1, c1]; rfl, a2, a3, b2, b3, b4, c2, by lia, c, rfl⟩⟩
def zRu (st tw tm ts : Int32) (sk : Nat → Int32) (X : Int32 × Int32 × Int32 × Int32 × Int32 × Int32 × Int32 × Int32 × Int32 × Int32 × Int32) (Y : Int32 × Int32 × Int32 × Int32 × Int32 × Int32 × Int32 × Int32 × Int32 × (Nat → Int32)) : Prop :=
  X.2.1 = Y.2.1 ∧ X.2.2.1 = Y.2.2.1 ∧ ((X.1 = 1 ∧ Y.1 = 0) ∨ (X.1 = 0 ∧ Y.1 = 1 ∧ zT st X.2.2.2.2.1 X.2.2.2.2.2.1 X.2.2.2.2.2.2.1 X.2.2.2.2.2.2.2.1 X.2.2.2.2.2.2.2.2.1 Y.2.2.2.1 Y.2.2.2.2.1 Y.2.2.2.2.2.1 Y.2.2.2.2.2.2.1 ∧ zSk X.2.2.2.1 tw tm Y.2.2.2.2.2.2.2.2.1 ∧ Y.2.2.2.2.2.2.2.2.2 = upd (upd sk 12 X.2.2.2.2.2.2.2.2.2.1) 13 X.2.2.2.2.2.2.2.2.2.2 ∧ ¬ X.2.2.2.2.2.2.2.2.2.1 < 1 ∧ X.2.2.2.2.2.2.2.2.2.1 ≤ 9999 ∧ ¬ X.2.2.2.2.2.2.2.2.2.2 < 1 ∧ X.2.2.2.2.2.2.2.2.2.2 ≤ 99 ∧ 8 * X.2.2.2.2.2.2.2.2.2.2 ≤ X.2.2.2.2.2.2.2.2.2.1 ∧ ts = 0 ∧ Y.2.2.2.2.2.2.2.2.1 = 1))
theorem z_sun {fBy ft fw fCo : Nat → Int32} {st lxa lxt lxp lxn lxl nx kd wh ap pfa pfp fa fp got : Int32} (g : zG fBy ft fw fCo st) (h : zT st lxa lxt lxp lxn lxl nx kd wh ap) (q1 : pfa = fa) (q2 : pfp = fp) {sk : Nat → Int32} {psk tw tm ts sp sb : Int32} (hk : zSk psk tw tm ts) :
    ∀ X, X = fp_readSun pfa pfp psk st lxa lxt lxp lxn lxl fBy fCo sp sb → ∀ Y, Y = fq_sunLine ft fw sk fa fp st nx kd wh ap got ts → zRu st tw tm ts sk X Y := by
  intro X hX Y hY
  have k9 := zSk_t hk
  rw [hX, hY, fp_readSun, fq_sunLine]
  by_cases c : ts = 0
  case neg =>
    rw [if_neg c, z_sky1 (by rw [k9.2.2.1]; exact c), xL_eq, xL_eq, if_pos rfl]
    exact ⟨rfl, h.2.1, Or.inl ⟨rfl, rfl⟩⟩
  rw [if_pos c]
  apply zLl; intro X1 hX1; apply zLr; intro V1 hV1
  obtain ⟨e1, h1⟩ := z_sky g h (by rw [k9.2.2.1]; exact c) X1 hX1 V1 hV1
  have f0 : X1.1 = 0 := by rw [e1]
  have f1 : X1.2.1 = fa := by rw [e1]; exact q1
  have f2 : X1.2.2.1 = fp := by rw [e1]; exact q2
  have f3 : X1.2.2.2.1 = (psk ||| 4) := by rw [e1]
  rw [if_neg (z10 f0)]
  apply zLr; intro R hR; apply zLl; intro X2 hX2
  rw [fq_roundRead12, xL_eq] at hR
  generalize hY2 : fq_number ft fw (1 : Int32) (9999 : Int32) fa fp st V1.1 V1.2.1 V1.2.2.1 V1.2.2.2 got = Y2 at hR
  obtain ⟨q1, q2, q3⟩ := z_number g h1 f1 f2 (by decide) X2 hX2 Y2 hY2.symm
  rcases q3 with ⟨r1, r2⟩ | ⟨r1, r2, a1, a2, a3, h2⟩
  · rw [if_pos r2] at hR; subst hR; dsimp only; rw [if_pos r1]; exact ⟨q1, q2, Or.inl ⟨rfl, rfl⟩⟩
  rw [if_neg (z01 r2), z_rj12, xL_eq, xL_eq] at hR; dsimp only at hR
  rw [if_neg (z10 r1)]
  apply zLl; intro X3 hX3
  generalize hB : (if 99 ≤ Y2.2.2.2.2.2.1 / 8 then (99 : Int32) else Y2.2.2.2.2.2.1 / 8) = B at hR
  generalize hY3 : fq_number ft fw (1 : Int32) B Y2.2.2.2.2.2.2.1 Y2.2.2.2.2.2.2.2 st Y2.2.1 Y2.2.2.1 Y2.2.2.2.1 Y2.2.2.2.2.1 Y2.2.2.2.2.2.1 = Y3 at hR
  obtain ⟨q1, q2, q3⟩ := z_latter g h2 q1 q2 a2 a3 X3 hX3 B (by rw [a1]; exact hB.symm) Y3 hY3.symm
  rcases q3 with ⟨r1, r2⟩ | ⟨r1, r2, b1, b2, b3, b4, h3⟩
  · rw [if_pos r2] at hR; subst hR; dsimp only; rw [if_pos r1]; exact ⟨q1, q2, Or.inl ⟨rfl, rfl⟩⟩
  rw [if_neg (z01 r2)] at hR; subst hR; dsimp only
  rw [if_neg (z10 r1)]
  exact ⟨q1, q2, Or.inr ⟨rfl, rfl, h3, (by show zSk X1.2.2.2.1 _ _ _; rw [f3]; exact k9.2.2.2.2.2 c), by rw [a1, b1]; rfl, a2, a3, b2, b3, b4, c, rfl⟩⟩
