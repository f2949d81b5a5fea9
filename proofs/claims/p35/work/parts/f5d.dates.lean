theorem z64 {a b : Int32} (h : a ≤ b) : a.toInt64 ≤ b.toInt64 := by
  rw [Int64.le_iff_toInt_le, Int32.toInt_toInt64, Int32.toInt_toInt64]; exact xi_le h
theorem z_begOf {lh : Nat → Int32} {y : Int64} (y9 : y ≤ 1500001) (y0 : ¬ y < 0) : fq_beginOf lh 4 y = fl_beginOf (lh 12) (lh 13) (lh 14) y := by
  have e2 : y - 1 - 1 = y - 2 := by lia
  rw [fl_beginOf]
  have hF : fq_beginOf lh 4 y = (lh 14).toInt64 + (y - 1) * (lh 12).toInt64 + (lh 13).toInt64 * ((y - 1) * (y - 2) / 2) := by
    rw [fq_beginOf]
    by_cases c : lg_cmp ((lh (((3 * (4 : Int32)) + 1).toNatClampNeg)).toInt64) 0 ≤ 0
    · rw [if_pos c]; rfl
    · rw [if_neg c, if_pos ((lg_cmp_le _ _).mpr (by lia))]; rfl
  rw [hF]
  by_cases c : lh 13 = 0
  · rw [if_pos c, c, show (0 : Int32).toInt64 = 0 from rfl, Int64.zero_mul, Int64.add_zero]
  · rw [if_neg c, if_pos ((lg_cmp_le _ _).mpr (by lia)), e2]
theorem z_lenOf {lh : Nat → Int32} {y : Int64} : fq_lengthOf lh 4 y = fl_lengthOf (lh 12) (lh 13) (lh 14) y := rfl
theorem z_cntOf {lh : Nat → Int32} {y d : Int64} (y9 : y ≤ 1500001) (y0 : ¬ y < 0) : fq_countOf lh 4 y d = (if fl_isThere (lh 12) (lh 13) (lh 14) y = 0 then (-1 : Int64) else fl_countOf (lh 12) (lh 13) (lh 14) y d) := by
  have hy : fq_isYear lh 4 y = fl_isThere (lh 12) (lh 13) (lh 14) y := by
    rw [fq_isYear, fl_isThere, xL_eq, z_lenOf]
  rw [fq_countOf, xL_eq, hy, fl_countOf, xL_eq, xL_eq, z_lenOf, z_begOf y9 y0]
def zRd (st : Int32) (X : Int32 × Int64 × Int32 × Int32 × Int32 × Int32 × Int32 × Int32 × Int32) (Y : Int32 × Int32 × Int32 × Int32 × Int32 × Int32 × Int32 × Int32 × Int64) : Prop :=
  X.2.2.1 = Y.2.1 ∧ X.2.2.2.1 = Y.2.2.1 ∧ ((X.1 = 1 ∧ Y.1 = 0) ∨ (X.1 = 0 ∧ Y.1 = 1 ∧ X.2.1 = Y.2.2.2.2.2.2.2.2 ∧ ¬ X.2.1 < 0 ∧ zT st X.2.2.2.2.1 X.2.2.2.2.2.1 X.2.2.2.2.2.2.1 X.2.2.2.2.2.2.2.1 X.2.2.2.2.2.2.2.2 Y.2.2.2.1 Y.2.2.2.2.1 Y.2.2.2.2.2.1 Y.2.2.2.2.2.2.1))
theorem z_date {fBy ft fw fCo fTo : Nat → Int32} {st lxa lxt lxp lxn lxl nx kd wh ap pfa pfp fa fp got : Int32} (g : zG fBy ft fw fCo st) (h : zT st lxa lxt lxp lxn lxl nx kd wh ap) (q1 : pfa = fa) (q2 : pfp = fp) {FI GR FR lh : Nat → Int32} {ln : Int32} {least gc : Int64} (hn : fTo 0 = ln) (l0 : ¬ ln < 0) (hL : zLd FI GR FR lh ln) (b0 : ¬ least < 0) :
    ∀ X, X = fp_readDate pfa pfp st lxa lxt lxp lxn lxl fBy fCo fTo FI GR FR least → ∀ Y, Y = fq_dateRead ft fw lh least fa fp st nx kd wh ap got ln gc → zRd st X Y := by
  intro X hX Y hY
  rw [hX, hY, fp_readDate, fq_dateRead]
  apply zLx; intro X1 hX1 Y1 hY1
  obtain ⟨q1, q2, q3⟩ := z_number g h q1 q2 (by decide) X1 hX1 Y1 hY1
  rcases q3 with ⟨r1, r2⟩ | ⟨r1, r2, a1, a2, a3, h1⟩
  · rw [if_pos r1, if_pos r2]; exact ⟨q1, q2, Or.inl ⟨rfl, rfl⟩⟩
  rw [if_neg (z10 r1), if_neg (z01 r2)]
  apply zLx; intro X2 hX2 Y2 hY2
  obtain ⟨q1, q2, q3⟩ := z_number g h1 q1 q2 (by decide) X2 hX2 Y2 hY2
  rcases q3 with ⟨r1, r2⟩ | ⟨r1, r2, c1, c2, c3, h2⟩
  · rw [if_pos r1, if_pos r2]; exact ⟨q1, q2, Or.inl ⟨rfl, rfl⟩⟩
  rw [if_neg (z10 r1), if_neg (z01 r2)]
  rw [fq_dateRead_j]
  have hb : fb_landIs fTo 0 = (if ln = 0 then 0 else 1) := by
    have n50 : ¬ (5 : Int32) ≤ 0 := by decide
    have n40 : ¬ (4 : Int32) ≤ 0 := by decide
    have n00 : ¬ (0 : Int32) < 0 := by decide
    have hh : fb_has fTo 0 0 = (if ln ≤ 0 then 0 else 1) := by
      rw [fb_has, if_neg n00, if_neg n50, if_neg n00, show fTo ((0 : Int32).toNatClampNeg) = ln from hn]
    rw [fb_landIs, hh]
    by_cases c : ln = 0
    · rw [if_pos (show ln ≤ 0 by lia), zn0, if_pos c]
    · rw [if_neg (show ¬ ln ≤ 0 by lia), zn1, if_neg n40, if_neg c]
  rw [hb]
  by_cases c : ln = 0
  · rw [if_pos c, zn0, if_pos c, xL_eq]
    dsimp only
    rw [if_pos (by decide)]
    exact ⟨rfl, h1.2.1, Or.inl ⟨rfl, rfl⟩⟩
  rw [if_neg c, zn1, if_neg c]
  have hl := hL 0 (zltn (I := 0) rfl (by decide) (by lia))
  have l1 : FI 0 = lh 12 := hl.1
  have l2 : GR 0 = lh 13 := hl.2.1
  have l3 : FR 0 = lh 14 := hl.2.2.1
  have y9 : X1.2.1.toInt64 ≤ 1500001 := by
    have := z64 a3
    rw [show (99999 : Int32).toInt64 = 99999 from rfl] at this
    lia
  have y0 : ¬ X1.2.1.toInt64 < 0 := by
    have := z64 (Int32.not_lt.mp a2)
    rw [show (0 : Int32).toInt64 = 0 from rfl] at this
    lia
  rw [l1, l2, l3, ← a1, ← c1, z_cntOf y9 y0]
  show zRd st (xL (fl_isThere (lh 12) (lh 13) (lh 14) X1.2.1.toInt64) _) _
  apply zLl; intro r hr
  rw [← hr]
  by_cases d : r = 0
  · rw [if_pos d, if_pos d, xL_eq, xL_eq]
    dsimp only
    rw [if_pos (by decide)]
    exact ⟨rfl, h1.2.1, Or.inl ⟨rfl, rfl⟩⟩
  rw [if_neg d, if_neg d]
  apply zLl; intro R hR
  rw [← hR, xL_eq, xL_eq]
  dsimp only
  by_cases e : 0 ≤ lg_cmp R least
  · have e1 := (lg_cmp_ge _ _).mp e
    rw [if_pos e, if_neg (fun z => by have := (lg_cmp_lt _ _).mp z; lia), if_pos e]
    exact ⟨q1, q2, Or.inr ⟨rfl, rfl, rfl, by lia, h2⟩⟩
  rw [if_neg e]
  by_cases f : lg_cmp R 0 < 0
  · rw [if_pos f]; exact ⟨rfl, h1.2.1, Or.inl ⟨rfl, rfl⟩⟩
  rw [if_neg f, if_neg e]
  exact ⟨rfl, h1.2.1, Or.inl ⟨rfl, rfl⟩⟩
def zAL (f fa : Nat → Int64) (off : Nat) (n : Int32) : Prop := ∀ k : Nat, k < n.toNatClampNeg → f k = fa (off + k)
theorem zAL_s {f fa f' fa' : Nat → Int64} {off : Nat} {n N : Int32} {x : Int64} (hN : N.toNatClampNeg = off + n.toNatClampNeg) (n0 : ¬ n < 0) (n9 : n ≤ 12) (h : zAL f fa off n) (h1 : ∀ k, f' k = if k = n.toNatClampNeg then x else f k) (h2 : ∀ k, fa' k = if k = N.toNatClampNeg then x else fa k) : zAL f' fa' off (n + 1) := by
  intro k hk
  rw [xi_natS n0 (by lia)] at hk
  rw [h1, h2, hN]
  by_cases c : k = n.toNatClampNeg
  · rw [if_pos c, if_pos (by omega)]
  · rw [if_neg c, if_neg (by omega)]; exact h k (by omega)
def zAD (f fa : Nat → Int64) (off : Nat) (n : Int32) : Prop := zAL f fa off n ∧ ∀ k : Nat, k < n.toNatClampNeg → f k = -1 ∨ ¬ f k < 0
theorem zAD_s {f fa f' fa' : Nat → Int64} {off : Nat} {n N : Int32} {x : Int64} (hN : N.toNatClampNeg = off + n.toNatClampNeg) (n0 : ¬ n < 0) (n9 : n ≤ 12) (h : zAD f fa off n) (h1 : ∀ k, f' k = if k = n.toNatClampNeg then x else f k) (h2 : ∀ k, fa' k = if k = N.toNatClampNeg then x else fa k) (hx : x = -1 ∨ ¬ x < 0) : zAD f' fa' off (n + 1) := by
  refine ⟨zAL_s hN n0 n9 h.1 h1 h2, fun k hk => ?_⟩
  rw [xi_natS n0 (by lia)] at hk
  rw [h1]
  by_cases c : k = n.toNatClampNeg
  · rw [if_pos c]; exact hx
  · rw [if_neg c]; exact h.2 k (by omega)
theorem zuL1 {f : Nat → Int64} {i : Nat} {x : Int64} : ∀ k, vp_updL f i x k = if k = i then x else f k := fun k => rfl
theorem zuL2 {f : Nat → Int64} {i : Nat} {x y : Int64} : ∀ k, vp_updL (vp_updL f i y) i x k = if k = i then x else f k := by
  intro k
  rw [zuL1, zuL1]
  by_cases c : k = i
  · rw [if_pos c, if_pos c]
  · rw [if_neg c, if_neg c, if_neg c]
def zBn (f : Nat → Int64) (n : Int32) : Prop := ∀ k : Nat, k < n.toNatClampNeg → ¬ f k < 0
theorem zBn_s {f f' : Nat → Int64} {n : Int32} {x : Int64} (n0 : ¬ n < 0) (n9 : n ≤ 12) (h : zBn f n) (h1 : ∀ k, f' k = if k = n.toNatClampNeg then x else f k) (x0 : ¬ x < 0) : zBn f' (n + 1) := by
  intro k hk
  rw [xi_natS n0 (by lia)] at hk
  rw [h1]
  by_cases c : k = n.toNatClampNeg
  · rw [if_pos c]; exact x0
  · rw [if_neg c]; exact h k (by omega)
def zRp (st n : Int32) (fTo : Nat → Int32) (fNm : Nat → Nat → Int32) (X : Int32 × Int32 × Int32 × Int32 × Int32 × Int32 × Int32 × Int32 × (Nat → Int32) × (Nat → Nat → Int32) × (Nat → Int64) × (Nat → Int64)) (Y : Int32 × Int32 × Int32 × Int32 × Int32 × Int32 × Int32 × (Nat → Int32) × (Nat → Int64) × (Nat → Int64) × Int32 × Int32 × Int64) : Prop :=
  X.2.1 = Y.2.1 ∧ X.2.2.1 = Y.2.2.1 ∧ ((X.1 = 1 ∧ Y.1 = 0) ∨ (X.1 = 0 ∧ Y.1 = 1 ∧ zT st X.2.2.2.1 X.2.2.2.2.1 X.2.2.2.2.2.1 X.2.2.2.2.2.2.1 X.2.2.2.2.2.2.2.1 Y.2.2.2.1 Y.2.2.2.2.1 Y.2.2.2.2.2.1 Y.2.2.2.2.2.2.1 ∧ X.2.2.2.2.2.2.2.2.1 = upd fTo 2 (n + 1) ∧ Y.2.2.2.2.2.2.2.2.2.2.2.1 = n + 1 ∧ (∀ j, ¬ j = 2 → X.2.2.2.2.2.2.2.2.2.1 j = fNm j) ∧ zNA (X.2.2.2.2.2.2.2.2.2.1 2) Y.2.2.2.2.2.2.2.1 6 (n + 1) ∧ zAL X.2.2.2.2.2.2.2.2.2.2.1 Y.2.2.2.2.2.2.2.2.1 6 (n + 1) ∧ zAD X.2.2.2.2.2.2.2.2.2.2.2 Y.2.2.2.2.2.2.2.2.2.1 6 (n + 1)))
theorem z_person {fBy ft fw fCo fTo : Nat → Int32} {fNm : Nat → Nat → Int32} {st lxa lxt lxp lxn lxl nx kd wh ap pfa pfp fa fp got : Int32} (g : zG fBy ft fw fCo st) (h : zT st lxa lxt lxp lxn lxl nx kd wh ap) (q1 : pfa = fa) (q2 : pfp = fp) {FI GR FR lh pna : Nat → Int32} {fBo fDi bo di : Nat → Int64} {ln n : Int32} {gc : Int64} (hl : fTo 0 = ln) (l0 : ¬ ln < 0) (hL : zLd FI GR FR lh ln) (hn : fTo 2 = n) (n0 : ¬ n < 0) (n9 : n ≤ 6) (hN : zNA (fNm 2) pna 6 n) (hb : zAL fBo bo 6 n) (hd : zAD fDi di 6 n) :
    ∀ X, X = fp_readPerson pfa pfp st lxa lxt lxp lxn lxl fBy fCo fTo fNm FI GR FR fBo fDi → ∀ Y, Y = fq_personLine ft fw lh pna bo di fa fp st nx kd wh ap got ln n gc → zRp st n fTo fNm X Y := by
  intro X hX Y hY
  rw [hX, hY, fp_readPerson, fq_personLine]
  by_cases c4 : n = 6
  · rw [if_pos c4, z_full2 (hn.trans c4), xL_eq, xL_eq, if_pos rfl]
    exact ⟨rfl, h.2.1, Or.inl ⟨rfl, rfl⟩⟩
  rw [if_neg c4]
  apply zLl; intro X1 hX1; apply zLr; intro V1 hV1; apply zLr; intro Y1 hY1
  obtain ⟨q1, q2, q3⟩ := z_begin2 g h q1 q2 hn n0 (by lia) hN X1 hX1 V1 hV1 Y1 hY1
  rcases q3 with ⟨r1, r2⟩ | ⟨r1, r2, r3, ⟨x, r4, r5⟩, h1⟩
  · rw [if_pos r1, if_pos r2]; exact ⟨q1, q2, Or.inl ⟨rfl, rfl⟩⟩
  rw [if_neg (z10 r1), if_neg (z01 r2)]
  have w1 : ∀ j, ¬ j = 2 → X1.2.2.2.2.2.2.2.2.2 j = fNm j := fun j hj => by rw [r4]; exact va_up_ne _ _ hj
  have w2 : zNA (X1.2.2.2.2.2.2.2.2.2 2) Y1.2.1 6 (n + 1) := by
    rw [r4, r5, va_up_self]
    exact zNA_s (zia (by decide) (by decide) n0 (by lia)) n0 (by lia) hN
  have ht : upd fTo ((2 : Int32).toNatClampNeg) ((fTo ((2 : Int32).toNatClampNeg)) + 1) = upd fTo 2 (n + 1) := by
    show upd fTo 2 (fTo 2 + 1) = _
    rw [hn]
  have iN : (6 + n).toNatClampNeg = 6 + n.toNatClampNeg := zia (by decide) (by decide) n0 (by lia)
  apply zLx; intro X2 hX2 Y2 hY2
  obtain ⟨q1, q2, q3⟩ := z_date g h1 q1 q2 hl l0 hL (by decide) X2 hX2 Y2 hY2
  rcases q3 with ⟨r1, r2⟩ | ⟨r1, r2, a1, a2, h2⟩
  · rw [if_pos r1, if_pos r2]; exact ⟨q1, q2, Or.inl ⟨rfl, rfl⟩⟩
  rw [if_neg (z10 r1), if_neg (z01 r2)]
  rw [zite (zq7 h2.2.2.2.2.1 h2.2.2.2.2.2.1), zisKey, r3]
  by_cases c : Y2.2.2.2.2.1 = 1 ∧ Y2.2.2.2.2.2.1 = 9
  · rw [if_pos c, if_pos c, xL_eq (1 : Int32), zn1]
    apply zLx; intro U3 hU3 V3 hV3
    have h3 := g.tok h2 U3 hU3 V3 hV3
    rw [show (vp_updL fBo n.toNatClampNeg X2.2.1) n.toNatClampNeg = X2.2.1 from if_pos rfl, a1]
    apply zLx; intro X4 hX4 Y4 hY4
    obtain ⟨q1, q2, q3⟩ := z_date g h3 q1 q2 hl l0 hL (by rw [← a1]; exact a2) X4 hX4 Y4 hY4
    rcases q3 with ⟨r1, r2⟩ | ⟨r1, r2, d1, d2, h4⟩
    · rw [if_pos r1, if_pos r2]; exact ⟨q1, q2, Or.inl ⟨rfl, rfl⟩⟩
    rw [if_neg (z10 r1), if_neg (z01 r2)]
    exact ⟨q1, q2, Or.inr ⟨rfl, rfl, h4, ht, rfl, w1, w2, zAL_s iN n0 (by lia) hb zuL1 zuL1, zAD_s iN n0 (by lia) hd (x := X4.2.1) zuL2 (by rw [d1]; exact zuL2) (Or.inr d2)⟩⟩
  · rw [if_neg c, if_neg c, xL_eq (0 : Int32), zn0, a1]
    exact ⟨q1, q2, Or.inr ⟨rfl, rfl, h2, ht, rfl, w1, w2, zAL_s iN n0 (by lia) hb zuL1 zuL1, zAD_s iN n0 (by lia) hd zuL1 zuL1 (Or.inl rfl)⟩⟩
def zRt (st : Int32) (X : Int32 × Int32 × Int32 × Int32 × Int32 × Int32 × Int32 × Int32) (Y : Int32 × Int32 × Int32 × Int32 × Int32 × Int32 × Int32) : Prop :=
  X.2.1 = Y.2.2.2.2.2.1 ∧ X.2.2.1 = Y.2.2.2.2.2.2 ∧ ((X.1 = 1 ∧ Y.1 = 0) ∨ (X.1 = 0 ∧ Y.1 = 1 ∧ zT st X.2.2.2.1 X.2.2.2.2.1 X.2.2.2.2.2.1 X.2.2.2.2.2.2.1 X.2.2.2.2.2.2.2 Y.2.1 Y.2.2.1 Y.2.2.2.1 Y.2.2.2.2.1))
theorem z_pay {fBy ft fw fCo : Nat → Int32} {st lxa lxt lxp lxn lxl nx kd wh ap pfa pfp fa fp : Int32} (g : zG fBy ft fw fCo st) (h : zT st lxa lxt lxp lxn lxl nx kd wh ap) (q1 : pfa = fa) (q2 : pfp = fp) : ∀ X, X = fp_take pfa pfp st lxa lxt lxp lxn lxl fBy fCo 12 → ∀ Y, Y = fq_keyRead ft fw 13 fa fp st nx kd wh ap → zRt st X Y := by
  intro X hX Y hY
  rw [hX, hY, fp_take, fq_keyRead, zite (zq12 h.2.2.2.2.1 h.2.2.2.2.2.1), zisKey]
  by_cases c : kd = 1 ∧ wh = 13
  · rw [if_pos c, if_pos c, xL_eq (1 : Int32), zn1]
    apply zLx; intro U hU V hV
    exact ⟨q1, q2, Or.inr ⟨rfl, rfl, g.tok h U hU V hV⟩⟩
  · rw [if_neg c, if_neg c, xL_eq (0 : Int32), zn0]
    exact ⟨rfl, h.2.1, Or.inl ⟨rfl, rfl⟩⟩
def zDd (fDk fDt fDp dh : Nat → Int32) (nf n : Int32) : Prop := ∀ k : Nat, k < n.toNatClampNeg → fDk k = dh (12 + 3 * k) ∧ fDt k = dh (12 + 3 * k + 1) ∧ fDp k = dh (12 + 3 * k + 2) ∧ ¬ fDk k < 0 ∧ fDk k ≤ 2 ∧ ¬ fDt k < 0 ∧ (fDk k = 2 → fDt k < nf) ∧ ¬ fDp k < 0 ∧ fDp k ≤ 999
theorem zDd_s {fDk fDt fDp dh dh' : Nat → Int32} {nf n a b c : Int32} (n0 : ¬ n < 0) (n9 : n ≤ 12) (h : zDd fDk fDt fDp dh nf n)
    (hl : ∀ k, dh' k = if k = 12 + 3 * n.toNatClampNeg then a else if k = 12 + 3 * n.toNatClampNeg + 1 then b else if k = 12 + 3 * n.toNatClampNeg + 2 then c else dh k)
    (a0 : ¬ a < 0) (a9 : a ≤ 2) (b0 : ¬ b < 0) (b9 : a = 2 → b < nf) (c0 : ¬ c < 0) (c9 : c ≤ 999) : zDd (upd fDk n.toNatClampNeg a) (upd fDt n.toNatClampNeg b) (upd fDp n.toNatClampNeg c) dh' nf (n + 1) := by
  intro k hk
  rw [xi_natS n0 (by lia)] at hk
  rw [hl, hl, hl]
  unfold upd
  by_cases q : k = n.toNatClampNeg
  · rw [if_pos q, if_pos q, if_pos q, if_pos (by omega), if_neg (by omega), if_pos (by omega), if_neg (by omega), if_neg (by omega), if_pos (by omega)]
    exact ⟨rfl, rfl, rfl, a0, a9, b0, b9, c0, c9⟩
  · rw [if_neg q, if_neg q, if_neg q, if_neg (by omega), if_neg (by omega), if_neg (by omega), if_neg (by omega), if_neg (by omega), if_neg (by omega), if_neg (by omega), if_neg (by omega), if_neg (by omega)]
    exact h k (by omega)
def zRe (st n nf : Int32) (fTo : Nat → Int32) (fNm : Nat → Nat → Int32) (X : Int32 × Int32 × Int32 × Int32 × Int32 × Int32 × Int32 × Int32 × (Nat → Int32) × (Nat → Nat → Int32) × (Nat → Int64) × (Nat → Int32) × (Nat → Int32) × (Nat → Int32)) (Y : Int32 × Int32 × Int32 × Int32 × Int32 × Int32 × Int32 × (Nat → Int32) × (Nat → Int64) × Int32 × Int64 × (Nat → Int32) × Int32) : Prop :=
  X.2.1 = Y.2.1 ∧ X.2.2.1 = Y.2.2.1 ∧ ((X.1 = 1 ∧ Y.1 = 0) ∨ (X.1 = 0 ∧ Y.1 = 1 ∧ zT st X.2.2.2.1 X.2.2.2.2.1 X.2.2.2.2.2.1 X.2.2.2.2.2.2.1 X.2.2.2.2.2.2.2.1 Y.2.2.2.1 Y.2.2.2.2.1 Y.2.2.2.2.2.1 Y.2.2.2.2.2.2.1 ∧ X.2.2.2.2.2.2.2.2.1 = upd fTo 3 (n + 1) ∧ Y.2.2.2.2.2.2.2.2.2.2.2.2 = n + 1 ∧ (∀ j, ¬ j = 3 → X.2.2.2.2.2.2.2.2.2.1 j = fNm j) ∧ zNA (X.2.2.2.2.2.2.2.2.2.1 3) Y.2.2.2.2.2.2.2.1 4 (n + 1) ∧ zAL X.2.2.2.2.2.2.2.2.2.2.1 Y.2.2.2.2.2.2.2.2.1 4 (n + 1) ∧ zDd X.2.2.2.2.2.2.2.2.2.2.2.1 X.2.2.2.2.2.2.2.2.2.2.2.2.1 X.2.2.2.2.2.2.2.2.2.2.2.2.2 Y.2.2.2.2.2.2.2.2.2.2.2.1 nf (n + 1)))
theorem z_deed_t {fBy ft fw fCo fTo : Nat → Int32} {fNm : Nat → Nat → Int32} {st lxa lxt lxp lxn lxl nx kd wh ap pfa pfp fa fp gt kk : Int32} (g : zG fBy ft fw fCo st) (h : zT st lxa lxt lxp lxn lxl nx kd wh ap) (q1 : pfa = fa) (q2 : pfp = fp) {fDk fDt fDp fDk0 fDt0 dna2 dh : Nat → Int32} {fDa2 don2 : Nat → Int64} {fNm0 : Nat → Nat → Int32} {n nf : Int32} {gc : Int64} (hn : fTo 3 = n) (n0 : ¬ n < 0) (n9 : n < 4) (w1 : ∀ j, ¬ j = 3 → fNm j = fNm0 j) (w2 : zNA (fNm 3) dna2 4 (n + 1)) (w3 : zAL fDa2 don2 4 (n + 1)) (hD : zDd fDk0 fDt0 fDp dh nf n)
    (ek : fDk = upd fDk0 n.toNatClampNeg kk) (et : fDt = upd fDt0 n.toNatClampNeg gt) (a0 : ¬ kk < 0) (a9 : kk ≤ 2) (b0 : ¬ gt < 0) (b9 : kk = 2 → gt < nf) :
    zRe st n nf fTo fNm0 (fp_readDeed_t st fBy fCo fTo fDp n fNm fDa2 lxa lxt lxp lxn lxl pfa pfp fDk fDt) (fq_deedLine_t ft fw dh st n kk fa fp nx kd wh ap gt gc dna2 don2) := by
  rw [fp_readDeed_t, fq_deedLine_t]
  apply zLx; intro X1 hX1 Y1 hY1
  obtain ⟨q1, q2, q3⟩ := z_pay g h q1 q2  X1 hX1 Y1 hY1
  rcases q3 with ⟨r1, r2⟩ | ⟨r1, r2, h1⟩
  · rw [if_pos r1, if_pos r2]; exact ⟨q1, q2, Or.inl ⟨rfl, rfl⟩⟩
  rw [if_neg (z10 r1), if_neg (z01 r2)]
  apply zLx; intro X2 hX2 Y2 hY2
  obtain ⟨q1, q2, q3⟩ := z_number g h1 q1 q2 (by decide) X2 hX2 Y2 hY2
  rcases q3 with ⟨r1, r2⟩ | ⟨r1, r2, c1, c2, c3, h2⟩
  · rw [if_pos r1, if_pos r2]; exact ⟨q1, q2, Or.inl ⟨rfl, rfl⟩⟩
  rw [if_neg (z10 r1), if_neg (z01 r2)]
  have ie := zi3 n0 (n9 := by lia)
  have i1 : ((12 + (3 * n)) + 1).toNatClampNeg = (12 + (3 * n)).toNatClampNeg + 1 := by rw [zi3j n0 (by lia) (by decide) (by decide), ie]; rfl
  have i2 : ((12 + (3 * n)) + 2).toNatClampNeg = (12 + (3 * n)).toNatClampNeg + 2 := by rw [zi3j n0 (by lia) (by decide) (by decide), ie]; rfl
  have ht : upd fTo ((3 : Int32).toNatClampNeg) ((fTo ((3 : Int32).toNatClampNeg)) + 1) = upd fTo 3 (n + 1) := by
    show upd fTo 3 (fTo 3 + 1) = _
    rw [hn]
  refine ⟨q1, q2, Or.inr ⟨rfl, rfl, h2, ht, rfl, w1, w2, w3, ?_⟩⟩
  rw [ek, et]
  refine zDd_s n0 (by lia) hD (fun k => ?_) a0 a9 b0 b9 c2 c3
  show upd (upd (upd dh _ _) _ _) _ _ k = _
  rw [zup3 i1 i2, ie, ← c1]
theorem z_deed {fBy ft fw fCo fTo : Nat → Int32} {fNm : Nat → Nat → Int32} {st lxa lxt lxp lxn lxl nx kd wh ap pfa pfp fa fp got : Int32} (g : zG fBy ft fw fCo st) (h : zT st lxa lxt lxp lxn lxl nx kd wh ap) (q1 : pfa = fa) (q2 : pfp = fp) {FI GR FR lh dna fna dh fDk fDt fDp : Nat → Int32} {fDa don : Nat → Int64} {ln nf n : Int32} {gc : Int64} (hl : fTo 0 = ln) (l0 : ¬ ln < 0) (hL : zLd FI GR FR lh ln) (hf : fTo 1 = nf) (f0 : ¬ nf < 0) (f4 : nf ≤ 4) (hF : zNA (fNm 1) fna 4 nf) (hn : fTo 3 = n) (n0 : ¬ n < 0) (n9 : n ≤ 4) (hN : zNA (fNm 3) dna 4 n) (ha : zAL fDa don 4 n) (hD : zDd fDk fDt fDp dh nf n) :
    ∀ X, X = fp_readDeed pfa pfp st lxa lxt lxp lxn lxl fBy fCo fTo fNm FI GR FR fDa fDk fDt fDp → ∀ Y, Y = fq_deedLine ft fw lh fna dna don dh fa fp st nx kd wh ap got ln nf n gc → zRe st n nf fTo fNm X Y := by
  intro X hX Y hY
  rw [hX, hY, fp_readDeed, fq_deedLine]
  by_cases c4 : n = 4
  · rw [if_pos c4, z_full3 (hn.trans c4), xL_eq, xL_eq, if_pos rfl]
    exact ⟨rfl, h.2.1, Or.inl ⟨rfl, rfl⟩⟩
  rw [if_neg c4]
  apply zLl; intro X1 hX1; apply zLr; intro V1 hV1; apply zLr; intro Y1 hY1
  obtain ⟨q1, q2, q3⟩ := z_begin3 g h q1 q2 hn n0 (by lia) hN X1 hX1 V1 hV1 Y1 hY1
  rcases q3 with ⟨r1, r2⟩ | ⟨r1, r2, r3, ⟨x, r4, r5⟩, h1⟩
  · rw [if_pos r1, if_pos r2]; exact ⟨q1, q2, Or.inl ⟨rfl, rfl⟩⟩
  rw [if_neg (z10 r1), if_neg (z01 r2)]
  have wm : va_up X1.2.2.2.2.2.2.2.2.2 1 (fNm 1) = X1.2.2.2.2.2.2.2.2.2 := by
    funext j
    unfold va_up
    by_cases c : j = 1
    · rw [if_pos c, c, r4]; exact (va_up_ne _ _ (by decide)).symm
    · rw [if_neg c]
  rw [wm]
  have w1 : ∀ j, ¬ j = 3 → X1.2.2.2.2.2.2.2.2.2 j = fNm j := fun j hj => by rw [r4]; exact va_up_ne _ _ hj
  have w2 : zNA (X1.2.2.2.2.2.2.2.2.2 3) Y1.2.1 4 (n + 1) := by
    rw [r4, r5, va_up_self]
    exact zNA_s (zia (by decide) (by decide) n0 (by lia)) n0 (by lia) hN
  have ht : upd fTo ((3 : Int32).toNatClampNeg) ((fTo ((3 : Int32).toNatClampNeg)) + 1) = upd fTo 3 (n + 1) := by
    show upd fTo 3 (fTo 3 + 1) = _
    rw [hn]
  have iN : (4 + n).toNatClampNeg = 4 + n.toNatClampNeg := zia (by decide) (by decide) n0 (by lia)
  apply zLx; intro X2 hX2 Y2 hY2
  obtain ⟨q1, q2, q3⟩ := z_date g h1 q1 q2 hl l0 hL (by decide) X2 hX2 Y2 hY2
  rcases q3 with ⟨r1, r2⟩ | ⟨r1, r2, a1, a2, h2⟩
  · rw [if_pos r1, if_pos r2]; exact ⟨q1, q2, Or.inl ⟨rfl, rfl⟩⟩
  rw [if_neg (z10 r1), if_neg (z01 r2)]
  rw [zite (zq9 h2.2.2.2.2.1 h2.2.2.2.2.2.1), zite (zq10 h2.2.2.2.2.1 h2.2.2.2.2.2.1), zite (zq11 h2.2.2.2.2.1 h2.2.2.2.2.2.1), r3]
  have wa : zAL (vp_updL fDa n.toNatClampNeg X2.2.1) (vp_updL don ((4 + n).toNatClampNeg) Y2.2.2.2.2.2.2.2.2) 4 (n + 1) := by
    rw [a1]; exact zAL_s iN n0 (by lia) ha zuL1 zuL1
  have hF2 : zNA (X1.2.2.2.2.2.2.2.2.2 1) fna 4 nf := by rw [w1 1 (by decide)]; exact hF
  by_cases c9 : Y2.2.2.2.2.1 = 1 ∧ Y2.2.2.2.2.2.1 = 10
  · have e9 : X2.2.2.2.2.2.1 = 9 := by rw [zq9 h2.2.2.2.2.1 h2.2.2.2.2.2.1]; exact c9
    have v9 : Y2.2.2.2.2.2.1 - 10 = 0 := by rw [c9.2]; rfl
    rw [if_pos c9, e9, fp_readDeed_s, if_pos c9.1, if_neg (show ¬ Y2.2.2.2.2.2.1 < 10 by rw [c9.2]; decide), if_pos (show Y2.2.2.2.2.2.1 ≤ 12 by rw [c9.2]; decide)]
    apply zLx; intro U3 hU3 V3 hV3
    have h3 := g.tok h2 U3 hU3 V3 hV3
    rw [v9, if_neg (show ¬ (9 : Int32) = 11 by decide), if_pos (show (9 : Int32) = 9 from rfl), if_neg (show ¬ (0 : Int32) = 2 by decide), zn0]
    apply zLx; intro X4 hX4 Y4 hY4
    obtain ⟨q1, q2, q3⟩ := z_number g h3 q1 q2 (by decide) X4 hX4 Y4 hY4
    rcases q3 with ⟨r1, r2⟩ | ⟨r1, r2, b1, b2, b3, h4⟩
    · rw [if_pos r1, if_pos r2]; exact ⟨q1, q2, Or.inl ⟨rfl, rfl⟩⟩
    rw [if_neg (z10 r1), if_neg (z01 r2)]
    rw [b1]
    exact z_deed_t g h4 q1 q2 hn n0 (by lia) w1 w2 wa hD rfl rfl (by decide) (by decide) (by rw [← b1]; exact b2) (fun z => absurd z (by decide))
  by_cases c10 : Y2.2.2.2.2.1 = 1 ∧ Y2.2.2.2.2.2.1 = 11
  · have e10 : X2.2.2.2.2.2.1 = 10 := by rw [zq10 h2.2.2.2.2.1 h2.2.2.2.2.2.1]; exact c10
    have v10 : Y2.2.2.2.2.2.1 - 10 = 1 := by rw [c10.2]; rfl
    rw [if_neg c9, if_pos c10, e10, fp_readDeed_s, if_pos c10.1, if_neg (show ¬ Y2.2.2.2.2.2.1 < 10 by rw [c10.2]; decide), if_pos (show Y2.2.2.2.2.2.1 ≤ 12 by rw [c10.2]; decide)]
    apply zLx; intro U5 hU5 V5 hV5
    have h3 := g.tok h2 U5 hU5 V5 hV5
    rw [v10, if_neg (show ¬ (10 : Int32) = 11 by decide), if_neg (show ¬ (10 : Int32) = 9 by decide), if_neg (show ¬ (1 : Int32) = 2 by decide), zn1]
    apply zLx; intro X6 hX6 Y6 hY6
    obtain ⟨q1, q2, q3⟩ := z_number g h3 q1 q2 (by decide) X6 hX6 Y6 hY6
    rcases q3 with ⟨r1, r2⟩ | ⟨r1, r2, b1, b2, b3, h4⟩
    · rw [if_pos r1, if_pos r2]; exact ⟨q1, q2, Or.inl ⟨rfl, rfl⟩⟩
    rw [if_neg (z10 r1), if_neg (z01 r2)]
    rw [b1]
    exact z_deed_t g h4 q1 q2 hn n0 (by lia) w1 w2 wa hD rfl rfl (by decide) (by decide) (by rw [← b1]; exact b2) (fun z => absurd z (by decide))
  by_cases c11 : Y2.2.2.2.2.1 = 1 ∧ Y2.2.2.2.2.2.1 = 12
  · have e11 : X2.2.2.2.2.2.1 = 11 := by rw [zq11 h2.2.2.2.2.1 h2.2.2.2.2.2.1]; exact c11
    have v11 : Y2.2.2.2.2.2.1 - 10 = 2 := by rw [c11.2]; rfl
    rw [if_neg c9, if_neg c10, if_pos c11, e11, fp_readDeed_s, if_pos c11.1, if_neg (show ¬ Y2.2.2.2.2.2.1 < 10 by rw [c11.2]; decide), if_pos (show Y2.2.2.2.2.2.1 ≤ 12 by rw [c11.2]; decide)]
    apply zLx; intro U7 hU7 V7 hV7
    have h3 := g.tok h2 U7 hU7 V7 hV7
    rw [v11, if_pos (show (11 : Int32) = 11 from rfl), if_pos (show (2 : Int32) = 2 from rfl)]
    apply zLx; intro X8 hX8 Y8 hY8
    obtain ⟨q1, q2, q3⟩ := z_known1 g h3 q1 q2 hf f0 f4 hF2 X8 hX8 Y8 hY8
    rcases q3 with ⟨r1, r2⟩ | ⟨r1, r2, b1, b2, b3, h4⟩
    · rw [if_pos r1, if_pos r2]; exact ⟨q1, q2, Or.inl ⟨rfl, rfl⟩⟩
    rw [if_neg (z10 r1), if_neg (z01 r2)]
    rw [b1]
    exact z_deed_t g h4 q1 q2 hn n0 (by lia) w1 w2 wa hD rfl rfl (by decide) (by decide) (by rw [← b1]; exact b2) (fun _ => by rw [← b1]; lia)
  rw [if_neg c9, if_neg c10, if_neg c11]
  by_cases d : Y2.2.2.2.2.1 = 1
  · rw [if_pos d]
    by_cases e : Y2.2.2.2.2.2.1 < 10
    · rw [if_pos e]; exact ⟨rfl, h2.2.1, Or.inl ⟨rfl, rfl⟩⟩
    · have e2 : ¬ Y2.2.2.2.2.2.1 ≤ 12 := fun z => by
        have u9 : ¬ Y2.2.2.2.2.2.1 = 10 := fun y => c9 ⟨d, y⟩
        have u10 : ¬ Y2.2.2.2.2.2.1 = 11 := fun y => c10 ⟨d, y⟩
        have u11 : ¬ Y2.2.2.2.2.2.1 = 12 := fun y => c11 ⟨d, y⟩
        lia
      rw [if_neg e, if_neg e2]; exact ⟨rfl, h2.2.1, Or.inl ⟨rfl, rfl⟩⟩
  · rw [if_neg d]; exact ⟨rfl, h2.2.1, Or.inl ⟨rfl, rfl⟩⟩
