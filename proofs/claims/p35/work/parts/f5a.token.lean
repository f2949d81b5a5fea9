def ztk (kd wh : Int32) : Int32 := (if kd = 0 then 40 else (if kd = 1 then zkey wh else (if kd = 2 then 23 else (if kd = 3 then 24 else (if kd = 4 then (if wh = 59 then 25 else (if wh = 40 then 26 else (if wh = 41 then 27 else (if wh = 43 then 28 else (if wh = 45 then 29 else (if wh = 42 then 30 else (if wh = 47 then 31 else (if wh = 37 then 32 else 39)))))))) else (if kd = 5 then 33 + wh else 39))))))
def zV (kd wh : Int32) : Prop := kd = 0 ∨ (kd = 1 ∧ ¬ wh < 0 ∧ wh ≤ 22) ∨ kd = 2 ∨ kd = 3 ∨ (kd = 4 ∧ (wh = 59 ∨ wh = 40 ∨ wh = 41 ∨ wh = 43 ∨ wh = 45 ∨ wh = 42 ∨ wh = 47 ∨ wh = 37)) ∨ (kd = 5 ∧ ¬ wh < 0 ∧ wh ≤ 5) ∨ kd = 6
def zN (x w : Int32) : Prop := ¬ w < 0 ∧ ¬ x < 0 ∧ (x = w ∨ (99999 < x ∧ 99999 < w))
def zT (st lxa lxt lxp lxn lxl nx kd wh ap : Int32) : Prop := lxa = nx ∧ lxp = ap ∧ (¬ nx < 0 ∧ ¬ ap < 0 ∧ (kd = 0 ∨ ap < nx)) ∧ nx ≤ st ∧ lxt = ztk kd wh ∧ zV kd wh ∧ (kd = 2 → lxl = wh) ∧ (kd = 3 → zN lxn wh)
theorem znm {fBy ft : Nat → Int32} {st ap : Int32} (hB : zBy fBy ft st) (s9 : st ≤ 900) : ∀ (n : Nat) (a x w : Int32), ¬ a < 0 → a ≤ st → ¬ w < 0 → ¬ x < 0 → x ≤ 9999999 → w ≤ 999999 → (x = w ∨ (99999 < x ∧ 99999 < w)) →
    (fe_readNumber_c st fBy n a x).1 = (fq_token_d ft st n a w ap).1 ∧ ¬ (fq_token_d ft st n a w ap).1 < a ∧ (fq_token_d ft st n a w ap).1 ≤ st ∧ (fq_token_d ft st n a w ap).2.1 = 3 ∧ (fq_token_d ft st n a w ap).2.2.2 = ap ∧ zN (fe_readNumber_c st fBy n a x).2 (fq_token_d ft st n a w ap).2.2.1 := by
  intro n
  induction n with
  | zero => intro a x w a0 a1 w0 x0 x9 w9 h; rw [fe_readNumber_c, fq_token_d, xL_eq]; exact ⟨rfl, by lia, a1, rfl, rfl, w0, x0, h⟩
  | succ n ih =>
    intro a x w a0 a1 w0 x0 x9 w9 h
    rw [fe_readNumber_c, fq_token_d, xL_eq]
    by_cases c : st ≤ a
    · rw [if_pos c, fq_isDigit, if_pos c, if_pos rfl]; exact ⟨rfl, by lia, a1, rfl, rfl, w0, x0, h⟩
    · rw [if_neg c]
      rcases zdg hB a0 (by lia) with ⟨e, hd⟩ | ⟨e, h1, h2, h3⟩
      · rw [e, if_pos rfl]
        have hz : (if fBy a.toNatClampNeg < 48 then (a, x) else (if 57 < fBy a.toNatClampNeg then (a, x) else (if 1000000 ≤ x then fe_readNumber_c st fBy n (a + 1) x else fe_readNumber_c st fBy n (a + 1) (((x * 10) + (fBy a.toNatClampNeg)) - 48)))) = (a, x) := by
          by_cases d : fBy a.toNatClampNeg < 48
          · rw [if_pos d]
          · rw [if_neg d, if_pos (hd.resolve_left d)]
        rw [hz]
        exact ⟨rfl, by lia, a1, rfl, rfl, w0, x0, h⟩
      · rw [e, zn1, xL_eq, if_neg h1, if_neg h2, fq_token_f, h3]
        by_cases d : w ≤ 99999
        · have hx : x = w := by rcases h with h | h <;> lia
          rw [if_pos d, if_neg (by lia), hx]
          obtain ⟨i1, i2, i3, i4, i5, i6⟩ := ih (a + 1) (((w * 10) + (fBy a.toNatClampNeg)) - 48) (((10 * w) + (fBy a.toNatClampNeg)) - 48) (by lia) (by lia) (by lia) (by lia) (by lia) (by lia) (Or.inl (by lia))
          exact ⟨i1, by lia, i3, i4, i5, i6⟩
        · rw [if_neg d]
          by_cases q : 1000000 ≤ x
          · rw [if_pos q]
            obtain ⟨i1, i2, i3, i4, i5, i6⟩ := ih (a + 1) x w (by lia) (by lia) (by lia) (by lia) (by lia) (by lia) (Or.inr ⟨by lia, by lia⟩)
            exact ⟨i1, by lia, i3, i4, i5, i6⟩
          · rw [if_neg q]
            have hx : 99999 < x := by rcases h with h | h <;> lia
            obtain ⟨i1, i2, i3, i4, i5, i6⟩ := ih (a + 1) (((x * 10) + (fBy a.toNatClampNeg)) - 48) w (by lia) (by lia) (by lia) (by lia) (by lia) (by lia) (Or.inr ⟨by lia, by lia⟩)
            exact ⟨i1, by lia, i3, i4, i5, i6⟩
theorem zsk {c S : Int32} (n37 : ¬ c = 37) (n40 : ¬ c = 40) (n41 : ¬ c = 41) (n42 : ¬ c = 42) (n43 : ¬ c = 43) (n45 : ¬ c = 45) (n47 : ¬ c = 47) (n59 : ¬ c = 59) (n60 : ¬ c = 60) (n61 : ¬ c = 61) (n62 : ¬ c = 62) : (fe_readSign_k c S).2 = 39 := by
  rw [fe_readSign_k]
  rw [if_neg n37]
  by_cases n38 : c = 38
  · rw [if_pos n38]
  rw [if_neg n38]
  by_cases n39 : c = 39
  · rw [if_pos n39]
  rw [if_neg n39]
  rw [if_neg n40]
  rw [if_neg n41]
  rw [if_neg n42]
  rw [if_neg n43]
  by_cases n44 : c = 44
  · rw [if_pos n44]
  rw [if_neg n44]
  rw [if_neg n45]
  by_cases n46 : c = 46
  · rw [if_pos n46]
  rw [if_neg n46]
  rw [if_neg n47]
  by_cases n48 : c = 48
  · rw [if_pos n48]
  rw [if_neg n48]
  by_cases n49 : c = 49
  · rw [if_pos n49]
  rw [if_neg n49]
  by_cases n50 : c = 50
  · rw [if_pos n50]
  rw [if_neg n50]
  by_cases n51 : c = 51
  · rw [if_pos n51]
  rw [if_neg n51]
  by_cases n52 : c = 52
  · rw [if_pos n52]
  rw [if_neg n52]
  by_cases n53 : c = 53
  · rw [if_pos n53]
  rw [if_neg n53]
  by_cases n54 : c = 54
  · rw [if_pos n54]
  rw [if_neg n54]
  by_cases n55 : c = 55
  · rw [if_pos n55]
  rw [if_neg n55]
  by_cases n56 : c = 56
  · rw [if_pos n56]
  rw [if_neg n56]
  by_cases n57 : c = 57
  · rw [if_pos n57]
  rw [if_neg n57]
  by_cases n58 : c = 58
  · rw [if_pos n58]
  rw [if_neg n58]
  rw [if_neg n59]
  rw [if_neg n60]
  rw [if_neg n61]
  rw [if_neg n62]
theorem zS0 {fBy ft : Nat → Int32} {st X : Int32} (hB : zBy fBy ft st) (s9 : st ≤ 900) (x0 : ¬ X < 0) (x1 : X < st) : zB (fe_readSign_j st X fBy) (fq_signToken_a ft st X) ∧ (st ≤ X + 1 → fq_signToken_a ft st X = 0) := by
  rw [fe_readSign_j, fq_signToken_a]
  by_cases c : st ≤ X + 1
  · rw [if_pos c, if_pos c]; exact ⟨Or.inl ⟨by decide, rfl⟩, fun _ => rfl⟩
  · rw [if_neg c, if_neg c]; exact ⟨hB (X + 1) (by lia) (by lia), fun z => absurd z c⟩
theorem zfin {st X lxn lxl nx kd wh t : Int32} (x0 : ¬ X < 0) (hx : X < nx) (hn : nx ≤ st) (ht : t = ztk kd wh) (hv : zV kd wh) (h2 : ¬ kd = 2) (h3 : ¬ kd = 3) : zT st nx t X lxn lxl nx kd wh X := ⟨rfl, rfl, ⟨by lia, x0, Or.inr hx⟩, hn, ht, hv, fun z => absurd z h2, fun z => absurd z h3⟩
theorem zrs {fBy : Nat → Int32} {st X c S t : Int32} (h1 : fe_readSign_j st X fBy = S) (h2 : fBy X.toNatClampNeg = c) (h3 : (fe_readSign_k c S).2 = t) : fe_readSign st X fBy (fBy X.toNatClampNeg) = ((if t = 34 then X + 1 + 1 else if t = 36 then X + 1 + 1 else if t = 37 then X + 1 + 1 else X + 1), t) := by
  rw [fe_readSign, xL_eq, xL_eq, h1, h2, h3]
  by_cases a1 : t = 34
  · rw [if_pos a1, if_pos a1]
  rw [if_neg a1, if_neg a1]
  by_cases a2 : t = 36
  · rw [if_pos a2, if_pos a2]
  rw [if_neg a2, if_neg a2]
  by_cases a3 : t = 37
  · rw [if_pos a3, if_pos a3]
  rw [if_neg a3, if_neg a3]
theorem zsg {fBy ft : Nat → Int32} {st X lxn lxl : Int32} (hB : zBy fBy ft st) (s9 : st ≤ 900) (x0 : ¬ X < 0) (x1 : X < st) :
    zT st (fe_readSign st X fBy (fBy X.toNatClampNeg)).1 (fe_readSign st X fBy (fBy X.toNatClampNeg)).2 X lxn lxl (fq_signToken ft st X).1 (fq_signToken ft st X).2.1 (fq_signToken ft st X).2.2 X := by
  have hb := hB X x0 x1
  obtain ⟨hs, hs2⟩ := zS0 hB s9 x0 x1
  by_cases c60 : ft X.toNatClampNeg = 60
  · have b : fBy X.toNatClampNeg = 60 := (zB_eq hb (c := 60) (by decide) (by decide)).mpr c60
    by_cases d61 : fq_signToken_a ft st X = 61
    · have e : fe_readSign_j st X fBy = 61 := (zB_eq hs (c := 61) (by decide) (by decide)).mpr d61
      have hx : ¬ st ≤ X + 1 := fun z => by have := hs2 z; rw [d61] at this; exact absurd this (by decide)
      have hQ : (fq_signToken ft st X) = (X + 1 + 1, 5, 1) := by
        rw [fq_signToken, if_pos c60, xL_eq, xL_eq, xL_eq, xL_eq, xL_eq, d61, fq_signToken_b, fq_signToken_f, c60]; rfl
      rw [zrs e b (t := 34) rfl, hQ]
      exact zfin (kd := 5) (wh := 1) x0 (by lia) (by lia) rfl (by unfold zV; decide) (by decide) (by decide)
    have e : ¬ fe_readSign_j st X fBy = 61 := fun z => d61 ((zB_eq hs (c := 61) (by decide) (by decide)).mp z)
    by_cases d62 : fq_signToken_a ft st X = 62
    · have e2 : fe_readSign_j st X fBy = 62 := (zB_eq hs (c := 62) (by decide) (by decide)).mpr d62
      have hx : ¬ st ≤ X + 1 := fun z => by have := hs2 z; rw [d62] at this; exact absurd this (by decide)
      have hQ : (fq_signToken ft st X) = (X + 1 + 1, 5, 3) := by
        rw [fq_signToken, if_pos c60, xL_eq, xL_eq, xL_eq, xL_eq, xL_eq, d62, fq_signToken_b, fq_signToken_f, c60]; rfl
      rw [zrs e2 b (t := 36) rfl, hQ]
      exact zfin (kd := 5) (wh := 3) x0 (by lia) (by lia) rfl (by unfold zV; decide) (by decide) (by decide)
    have e2 : ¬ fe_readSign_j st X fBy = 62 := fun z => d62 ((zB_eq hs (c := 62) (by decide) (by decide)).mp z)
    have hQ : (fq_signToken ft st X) = (X + 1, 5, 0) := by
      rw [fq_signToken, if_pos c60, xL_eq, xL_eq, xL_eq, xL_eq, xL_eq, fq_signToken_b, fq_signToken_d, fq_signToken_f, c60, if_neg d61, if_neg d62]; rfl
    have hk : (fe_readSign_k 60 (fe_readSign_j st X fBy)).2 = 33 := by
      generalize fe_readSign_j st X fBy = S at e e2
      show (if S = 61 then ((60 : Int32), (34 : Int32)) else (if S = 62 then ((60 : Int32), (36 : Int32)) else ((60 : Int32), (33 : Int32)))).2 = 33
      rw [if_neg e, if_neg e2]
    rw [zrs rfl b hk, hQ]
    exact zfin (kd := 5) (wh := 0) x0 (by lia) (by lia) rfl (by unfold zV; decide) (by decide) (by decide)
  by_cases c62 : ft X.toNatClampNeg = 62
  · have b : fBy X.toNatClampNeg = 62 := (zB_eq hb (c := 62) (by decide) (by decide)).mpr c62
    by_cases d61 : fq_signToken_a ft st X = 61
    · have e : fe_readSign_j st X fBy = 61 := (zB_eq hs (c := 61) (by decide) (by decide)).mpr d61
      have hx : ¬ st ≤ X + 1 := fun z => by have := hs2 z; rw [d61] at this; exact absurd this (by decide)
      have d61' : fq_signToken_a2 ft st X = 61 := d61
      have hQ : (fq_signToken ft st X) = (X + 1 + 1, 5, 4) := by
        rw [fq_signToken, if_neg c60, if_pos c62, xL_eq, xL_eq, xL_eq, xL_eq, xL_eq, d61', fq_signToken_b2, fq_signToken_f2, c62]; rfl
      rw [zrs e b (t := 37) rfl, hQ]
      exact zfin (kd := 5) (wh := 4) x0 (by lia) (by lia) rfl (by unfold zV; decide) (by decide) (by decide)
    have e : ¬ fe_readSign_j st X fBy = 61 := fun z => d61 ((zB_eq hs (c := 61) (by decide) (by decide)).mp z)
    have d61' : ¬ fq_signToken_a2 ft st X = 61 := d61
    have hQ : (fq_signToken ft st X) = (X + 1, 5, 5) := by
      rw [fq_signToken, if_neg c60, if_pos c62, xL_eq, xL_eq, xL_eq, xL_eq, xL_eq, fq_signToken_b2, fq_signToken_f2, c62, if_neg d61']; rfl
    have hk : (fe_readSign_k 62 (fe_readSign_j st X fBy)).2 = 38 := by
      generalize fe_readSign_j st X fBy = S at e
      show (if S = 61 then ((62 : Int32), (37 : Int32)) else ((62 : Int32), (38 : Int32))).2 = 38
      rw [if_neg e]
    rw [zrs rfl b hk, hQ]
    exact zfin (kd := 5) (wh := 5) x0 (by lia) (by lia) rfl (by unfold zV; decide) (by decide) (by decide)
  by_cases c61 : ft X.toNatClampNeg = 61
  · have b : fBy X.toNatClampNeg = 61 := (zB_eq hb (c := 61) (by decide) (by decide)).mpr c61
    have hQ : (fq_signToken ft st X) = (X + 1, 5, 2) := by
      rw [fq_signToken, if_neg c60, if_neg c62, if_pos c61, xL_eq, xL_eq, xL_eq, xL_eq, xL_eq]; rfl
    rw [zrs rfl b (t := 35) rfl, hQ]
    exact zfin (kd := 5) (wh := 2) x0 (by lia) (by lia) rfl (by unfold zV; decide) (by decide) (by decide)
  by_cases c59 : ft X.toNatClampNeg = 59
  · have b : fBy X.toNatClampNeg = 59 := (zB_eq hb (c := 59) (by decide) (by decide)).mpr c59
    have hQ : (fq_signToken ft st X) = (X + 1, 4, 59) := by
      rw [fq_signToken, if_neg c60, if_neg c62, if_neg c61, xL_eq, fq_signToken_h, if_pos c59, zn1, c59]
    rw [zrs rfl b (t := 25) rfl, hQ]
    exact zfin (kd := 4) (wh := 59) x0 (by lia) (by lia) rfl (by unfold zV; decide) (by decide) (by decide)
  by_cases c40 : ft X.toNatClampNeg = 40
  · have b : fBy X.toNatClampNeg = 40 := (zB_eq hb (c := 40) (by decide) (by decide)).mpr c40
    have hQ : (fq_signToken ft st X) = (X + 1, 4, 40) := by
      rw [fq_signToken, if_neg c60, if_neg c62, if_neg c61, xL_eq, fq_signToken_h, if_neg c59, if_pos c40, zn1, c40]
    rw [zrs rfl b (t := 26) rfl, hQ]
    exact zfin (kd := 4) (wh := 40) x0 (by lia) (by lia) rfl (by unfold zV; decide) (by decide) (by decide)
  by_cases c41 : ft X.toNatClampNeg = 41
  · have b : fBy X.toNatClampNeg = 41 := (zB_eq hb (c := 41) (by decide) (by decide)).mpr c41
    have hQ : (fq_signToken ft st X) = (X + 1, 4, 41) := by
      rw [fq_signToken, if_neg c60, if_neg c62, if_neg c61, xL_eq, fq_signToken_h, if_neg c59, if_neg c40, if_pos c41, zn1, c41]
    rw [zrs rfl b (t := 27) rfl, hQ]
    exact zfin (kd := 4) (wh := 41) x0 (by lia) (by lia) rfl (by unfold zV; decide) (by decide) (by decide)
  by_cases c43 : ft X.toNatClampNeg = 43
  · have b : fBy X.toNatClampNeg = 43 := (zB_eq hb (c := 43) (by decide) (by decide)).mpr c43
    have hQ : (fq_signToken ft st X) = (X + 1, 4, 43) := by
      rw [fq_signToken, if_neg c60, if_neg c62, if_neg c61, xL_eq, fq_signToken_h, if_neg c59, if_neg c40, if_neg c41, if_pos c43, zn1, c43]
    rw [zrs rfl b (t := 28) rfl, hQ]
    exact zfin (kd := 4) (wh := 43) x0 (by lia) (by lia) rfl (by unfold zV; decide) (by decide) (by decide)
  by_cases c45 : ft X.toNatClampNeg = 45
  · have b : fBy X.toNatClampNeg = 45 := (zB_eq hb (c := 45) (by decide) (by decide)).mpr c45
    have hQ : (fq_signToken ft st X) = (X + 1, 4, 45) := by
      rw [fq_signToken, if_neg c60, if_neg c62, if_neg c61, xL_eq, fq_signToken_h, if_neg c59, if_neg c40, if_neg c41, if_neg c43, if_pos c45, zn1, c45]
    rw [zrs rfl b (t := 29) rfl, hQ]
    exact zfin (kd := 4) (wh := 45) x0 (by lia) (by lia) rfl (by unfold zV; decide) (by decide) (by decide)
  by_cases c42 : ft X.toNatClampNeg = 42
  · have b : fBy X.toNatClampNeg = 42 := (zB_eq hb (c := 42) (by decide) (by decide)).mpr c42
    have hQ : (fq_signToken ft st X) = (X + 1, 4, 42) := by
      rw [fq_signToken, if_neg c60, if_neg c62, if_neg c61, xL_eq, fq_signToken_h, if_neg c59, if_neg c40, if_neg c41, if_neg c43, if_neg c45, if_pos c42, zn1, c42]
    rw [zrs rfl b (t := 30) rfl, hQ]
    exact zfin (kd := 4) (wh := 42) x0 (by lia) (by lia) rfl (by unfold zV; decide) (by decide) (by decide)
  by_cases c47 : ft X.toNatClampNeg = 47
  · have b : fBy X.toNatClampNeg = 47 := (zB_eq hb (c := 47) (by decide) (by decide)).mpr c47
    have hQ : (fq_signToken ft st X) = (X + 1, 4, 47) := by
      rw [fq_signToken, if_neg c60, if_neg c62, if_neg c61, xL_eq, fq_signToken_h, if_neg c59, if_neg c40, if_neg c41, if_neg c43, if_neg c45, if_neg c42, if_pos c47, zn1, c47]
    rw [zrs rfl b (t := 31) rfl, hQ]
    exact zfin (kd := 4) (wh := 47) x0 (by lia) (by lia) rfl (by unfold zV; decide) (by decide) (by decide)
  by_cases c37 : ft X.toNatClampNeg = 37
  · have b : fBy X.toNatClampNeg = 37 := (zB_eq hb (c := 37) (by decide) (by decide)).mpr c37
    have hQ : (fq_signToken ft st X) = (X + 1, 4, 37) := by
      rw [fq_signToken, if_neg c60, if_neg c62, if_neg c61, xL_eq, fq_signToken_h, if_neg c59, if_neg c40, if_neg c41, if_neg c43, if_neg c45, if_neg c42, if_neg c47, if_pos c37, zn1, c37]
    rw [zrs rfl b (t := 32) rfl, hQ]
    exact zfin (kd := 4) (wh := 37) x0 (by lia) (by lia) rfl (by unfold zV; decide) (by decide) (by decide)
  have hQ : (fq_signToken ft st X) = (X + 1, 6, ft X.toNatClampNeg) := by
    rw [fq_signToken, if_neg c60, if_neg c62, if_neg c61, xL_eq, fq_signToken_h, if_neg c59, if_neg c40, if_neg c41, if_neg c43, if_neg c45, if_neg c42, if_neg c47, if_neg c37, zn0]
  have hk := zsk (c := fBy X.toNatClampNeg) (S := fe_readSign_j st X fBy) (fun z => c37 ((zB_eq hb (c := 37) (by decide) (by decide)).mp z)) (fun z => c40 ((zB_eq hb (c := 40) (by decide) (by decide)).mp z)) (fun z => c41 ((zB_eq hb (c := 41) (by decide) (by decide)).mp z)) (fun z => c42 ((zB_eq hb (c := 42) (by decide) (by decide)).mp z)) (fun z => c43 ((zB_eq hb (c := 43) (by decide) (by decide)).mp z)) (fun z => c45 ((zB_eq hb (c := 45) (by decide) (by decide)).mp z)) (fun z => c47 ((zB_eq hb (c := 47) (by decide) (by decide)).mp z)) (fun z => c59 ((zB_eq hb (c := 59) (by decide) (by decide)).mp z)) (fun z => c60 ((zB_eq hb (c := 60) (by decide) (by decide)).mp z)) (fun z => c61 ((zB_eq hb (c := 61) (by decide) (by decide)).mp z)) (fun z => c62 ((zB_eq hb (c := 62) (by decide) (by decide)).mp z))
  rw [zrs rfl rfl hk, hQ]
  exact zfin (kd := 6) (wh := ft X.toNatClampNeg) x0 (by lia) (by lia) rfl (Or.inr (Or.inr (Or.inr (Or.inr (Or.inr (Or.inr rfl)))))) (by decide) (by decide)
theorem zTm {st A t X n l kd wh : Int32} (x0 : ¬ X < 0) (hx : kd = 0 ∨ X < A) (a0 : ¬ A < 0) (hn : A ≤ st) (ht : t = ztk kd wh) (hv : zV kd wh) (h2 : kd = 2 → l = wh) (h3 : kd = 3 → zN n wh) : zT st A t X n l A kd wh X := ⟨rfl, rfl, ⟨a0, x0, hx⟩, hn, ht, hv, h2, h3⟩
theorem z_token {fBy ft fw fCo : Nat → Int32} {st a lxn lxl wh : Int32} (hB : zBy fBy ft st) (hW : zWd fw) (hC : zCo fCo) (s9 : st ≤ 900) (a0 : ¬ a < 0) (a1 : a ≤ st) :
    zT st (fe_advance st a lxn lxl fBy fCo).1 (fe_advance st a lxn lxl fBy fCo).2.1 (fe_advance st a lxn lxl fBy fCo).2.2.1 (fe_advance st a lxn lxl fBy fCo).2.2.2.1 (fe_advance st a lxn lxl fBy fCo).2.2.2.2 (fq_token ft fw st a wh).1 (fq_token ft fw st a wh).2.1 (fq_token ft fw st a wh).2.2.1 (fq_token ft fw st a wh).2.2.2 ∧ ¬ (fq_token ft fw st a wh).2.2.2 < a := by
  obtain ⟨e, xa, x1⟩ := zws hB s9 900 a a0 a1
  generalize hT : fq_token_a ft st 900 a = X at e xa x1
  have x0 : ¬ X < 0 := by lia
  by_cases c : X = st
  · have hU : (fe_advance st a lxn lxl fBy fCo) = (X, 40, X, lxn, lxl) := by rw [fe_advance, xL_eq, e, if_neg (by lia)]
    have hV : (fq_token ft fw st a wh) = (X, 0, wh, X) := by rw [fq_token, xL_eq, hT, if_pos c]
    rw [hU, hV]
    exact ⟨zTm (kd := 0) (wh := wh) x0 (Or.inl rfl) x0 x1 rfl (Or.inl rfl) (fun z => absurd z (by decide)) (fun z => absurd z (by decide)), xa⟩
  have x2 : X < st := by lia
  rcases zsm hB x0 x2 with ⟨r, h⟩ | ⟨r, h1, h2, h3⟩
  · rcases zdg hB x0 x2 with ⟨q, hd⟩ | ⟨q, g1, g2, g3⟩
    · have hg := zsg (lxn := lxn) (lxl := lxl) hB s9 x0 x2
      have hV : (fq_token ft fw st a wh) = ((fq_signToken ft st X).1, (fq_signToken ft st X).2.1, (fq_signToken ft st X).2.2, X) := by rw [fq_token, xL_eq, hT, if_neg c, xL_eq, r, zn0, xL_eq, q, zn0, xL_eq]
      have hU : (fe_advance st a lxn lxl fBy fCo) = ((fe_readSign st X fBy (fBy X.toNatClampNeg)).1, (fe_readSign st X fBy (fBy X.toNatClampNeg)).2, X, lxn, lxl) := by
        rw [fe_advance, xL_eq, e, if_pos x2]
        by_cases d : fBy X.toNatClampNeg < 97
        · rw [if_pos d]
          by_cases d2 : fBy X.toNatClampNeg < 48
          · rw [if_pos d2, xL_eq]
          · rw [if_neg d2, if_pos (hd.resolve_left d2), xL_eq]
        · rw [if_neg d, if_pos (h.resolve_left d)]
          by_cases d2 : fBy X.toNatClampNeg < 48
          · rw [if_pos d2, xL_eq]
          · rw [if_neg d2, if_pos (hd.resolve_left d2), xL_eq]
      rw [hU, hV]
      exact ⟨hg, xa⟩
    · have hV : (fq_token ft fw st a wh) = fq_token_d ft st 900 X 0 X := by rw [fq_token, xL_eq, hT, if_neg c, xL_eq, r, zn0, xL_eq, q, zn1]
      have hU : (fe_advance st a lxn lxl fBy fCo) = ((fe_readNumber_c st fBy 900 X 0).1, 24, X, (fe_readNumber_c st fBy 900 X 0).2, lxl) := by rw [fe_advance, xL_eq, e, if_pos x2, if_pos (show fBy X.toNatClampNeg < 97 by lia), if_neg g1, if_neg g2, xL_eq, fe_readNumber, xL_eq]
      obtain ⟨n1, n2, n3, n4, n5, n6⟩ := znm (ap := X) hB s9 900 X 0 0 x0 x1 (by decide) (by decide) (by decide) (by decide) (Or.inl rfl)
      have n7 : X < (fq_token_d ft st 900 X 0 X).1 := by
        have e9 : fq_token_d ft st 900 X 0 X = fq_token_d ft st 899 (X + 1) (fq_token_f ft X 0) X := by
          rw [fq_token_d, xL_eq, q, zn1, xL_eq]
        have w9 : ¬ fq_token_f ft X 0 < 0 ∧ fq_token_f ft X 0 ≤ 9 := by
          rw [fq_token_f, if_pos (by decide), g3]; exact ⟨by lia, by lia⟩
        have y := (znm (ap := X) hB s9 899 (X + 1) (fq_token_f ft X 0) (fq_token_f ft X 0) (by lia) (by lia) w9.1 w9.1 (by lia) (by lia) (Or.inl rfl)).2.1
        rw [e9]; lia
      rw [hU, hV]
      refine ⟨⟨n1, n5.symm, ⟨by lia, by rw [n5]; exact x0, Or.inr (by rw [n5]; exact n7)⟩, n3, ?_, ?_, fun z => absurd (n4.symm.trans z) (by decide), fun _ => n6⟩, by rw [n5]; exact xa⟩
      · rw [n4]; rfl
      · rw [n4]; exact Or.inr (Or.inr (Or.inr (Or.inl rfl)))
  · obtain ⟨w1, w2, w3, w4⟩ := zwb (p := X) hB s9 900 0 X x0 x1
    have w5 : X < fq_token_b ft st 900 X := by
      have e9 : fq_token_b ft st 900 X = fq_token_b ft st 899 (X + 1) := by
        rw [fq_token_b, xL_eq, r, zn1]
      have y := (zwb (p := X) hB s9 899 0 (X + 1) (by lia) (by lia)).2.1
      rw [e9]; lia
    have hp := zpk hB s9 x0 x1 900
    have hl := zwl (ft := ft) (fw := fw) (a := X) (b := fq_token_b ft st 900 X) hW
    have hwa := zwa (ft := ft) (fw := fw) (a := X) (b := fq_token_b ft st 900 X) hW x0 (by lia) (by lia) w2
    rw [w1] at hp
    have hU0 : (fe_advance st a lxn lxl fBy fCo) = ((fe_readWord st X X lxl fBy fCo).2.1, (fe_readWord st X X lxl fBy fCo).1, X, lxn, (fe_readWord st X X lxl fBy fCo).2.2) := by rw [fe_advance, xL_eq, e, if_pos x2, if_neg h1, if_neg h2, xL_eq]
    have hW0 : fe_readWord st X X lxl fBy fCo = (if fq_token_b ft st 900 X - X ≤ 6 then fe_readWord_d X fCo (fe_readWord_c st X fBy 900 0 X).1 (fq_token_b ft st 900 X) 23 0 23 else (39, fq_token_b ft st 900 X, lxl)) := by rw [fe_readWord, xL_eq, w1]
    have hV0 : ∀ (kd wh2 : Int32), ¬ kd = 2 → fq_token_e X (fq_token_b ft st 900 X) (fq_wordAt ft fw X (fq_token_b ft st 900 X)) = (kd, wh2) → (fq_token ft fw st a wh) = (fq_token_b ft st 900 X, kd, wh2, X) := by
      intro kd wh2 hk h
      rw [fq_token, xL_eq, hT, if_neg c, xL_eq, r, zn1, xL_eq, xL_eq, xL_eq, h, if_neg hk]
    have hV2 : ∀ (wh2 : Int32), fq_token_e X (fq_token_b ft st 900 X) (fq_wordAt ft fw X (fq_token_b ft st 900 X)) = (2, wh2) → (fq_token ft fw st a wh) = (fq_token_b ft st 900 X, 2, fq_packed ft X (fq_token_b ft st 900 X), X) := by
      intro wh2 h
      rw [fq_token, xL_eq, hT, if_neg c, xL_eq, r, zn1, xL_eq, xL_eq, xL_eq, h, if_pos rfl, xL_eq]
    generalize hb : fq_token_b ft st 900 X = b at w1 w2 w3 w4 w5 hp hl hwa hW0 hV0 hV2
    by_cases d : b - X ≤ 6
    · rw [if_pos d, zdt hC, hp d] at hW0
      rw [hW0] at hU0
      rcases hwa d w4 with ⟨y1, y2, y3⟩ | ⟨y1, y3⟩
      · have hV := hV0 1 (fq_wordAt ft fw X b) (by decide) (by rw [fq_token_e, if_neg y1])
        rw [hU0, hV]
        exact ⟨zTm (kd := 1) (wh := fq_wordAt ft fw X b) x0 (Or.inr w5) (by lia) w3 y3 (Or.inr (Or.inl ⟨rfl, y1, y2⟩)) (fun z => absurd z (by decide)) (fun z => absurd z (by decide)), xa⟩
      · have hV := hV2 (-1) (by rw [y1, fq_token_e, if_pos (by decide), if_pos d])
        rw [hU0, hV]
        exact ⟨zTm (kd := 2) (wh := fq_packed ft X b) x0 (Or.inr w5) (by lia) w3 y3 (Or.inr (Or.inr (Or.inl rfl))) (fun _ => rfl) (fun z => absurd z (by decide)), xa⟩
    · rw [if_neg d] at hW0
      rw [hW0] at hU0
      have hV := hV0 6 (-1) (by decide) (by rw [hl d, fq_token_e, if_pos (by decide), if_neg d])
      rw [hU0, hV]
      exact ⟨zTm (kd := 6) (wh := -1) x0 (Or.inr w5) (by lia) w3 rfl (Or.inr (Or.inr (Or.inr (Or.inr (Or.inr (Or.inr rfl)))))) (fun z => absurd z (by decide)) (fun z => absurd z (by decide)), xa⟩
