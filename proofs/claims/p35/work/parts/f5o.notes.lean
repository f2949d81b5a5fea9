theorem zN1_far {fNs fNf fNz nh fNs' fNf' fNz' nh' : Nat → Int32} {k : Nat} (h : zN1 fNs fNf fNz nh k) (h1 : fNs' k = fNs k) (h2 : ∀ j, j < 8 → fNf' (8 * k + j) = fNf (8 * k + j)) (h3 : ∀ j, j < 8 → fNz' (8 * k + j) = fNz (8 * k + j)) (h4 : ∀ j, j < 11 → nh' (11 * k + j) = nh (11 * k + j)) : zN1 fNs' fNf' fNz' nh' k := by
  have e0 := h4 0 (by omega)
  refine ⟨by rw [h1]; exact h.1.trans e0.symm, fun w w0 w8 hb => ?_⟩
  rw [h1] at hb
  have q := h.2 w w0 w8 hb
  have w7 := z_w8 w0 w8
  rw [h2 _ w7, h3 _ w7, h4 1 (by omega), h4 2 (by omega), h4 9 (by omega), h4 10 (by omega)]
  refine ⟨q.1, q.2.1, fun y1 y2 => ?_, q.2.2.2⟩
  have y3 : ¬ w.toNatClampNeg = 0 := fun z => y1 (z_wi w0 (by decide) z)
  have y4 : ¬ w.toNatClampNeg = 7 := fun z => y2 (z_wi w0 (by decide) z)
  have e5 := h4 (2 + w.toNatClampNeg) (by omega)
  rw [show 11 * k + 2 + w.toNatClampNeg = 11 * k + (2 + w.toNatClampNeg) from by omega, e5, show 11 * k + (2 + w.toNatClampNeg) = 11 * k + 2 + w.toNatClampNeg from by omega]
  exact q.2.2.1 y1 y2
theorem zN1_add {fNs fNf fNz nh : Nat → Int32} {n w a c : Int32} (w0 : ¬ w < 0) (w8 : w < 8) (hw : zBw w a c) (h : zN1 fNs fNf fNz nh n.toNatClampNeg) :
    zN1 (upd fNs n.toNatClampNeg ((fNs n.toNatClampNeg) ||| (1 <<< (w &&& 31)))) (upd fNf (8 * n.toNatClampNeg + w.toNatClampNeg) a) (upd fNz (8 * n.toNatClampNeg + w.toNatClampNeg) c) (zYn w (11 * n.toNatClampNeg) (upd nh (11 * n.toNatClampNeg) ((nh (11 * n.toNatClampNeg)) ||| (1 <<< (w &&& 31)))) a c) n.toNatClampNeg := by
  have e1 : upd fNs n.toNatClampNeg ((fNs n.toNatClampNeg) ||| (1 <<< (w &&& 31))) n.toNatClampNeg = (fNs n.toNatClampNeg) ||| (1 <<< (w &&& 31)) := if_pos rfl
  refine ⟨?_, fun v v0 v8 hb => ?_⟩
  · rw [e1, zYn_v w0 w8 (Or.inl (Nat.le_refl _)), h.1]; exact (if_pos rfl).symm
  · rw [e1] at hb
    have w7 := z_w8 w0 w8
    have v7 := z_w8 v0 v8
    by_cases c1 : v = w
    · subst c1
      rw [show upd fNf (8 * n.toNatClampNeg + v.toNatClampNeg) a (8 * n.toNatClampNeg + v.toNatClampNeg) = a from if_pos rfl, show upd fNz (8 * n.toNatClampNeg + v.toNatClampNeg) c (8 * n.toNatClampNeg + v.toNatClampNeg) = c from if_pos rfl]
      refine ⟨fun z => ?_, fun z => ?_, fun z y => ?_, hw⟩
      · rw [zYn, if_pos z]
        exact ⟨((if_neg (by omega)).trans (if_pos rfl)).symm, (if_pos rfl).symm⟩
      · rw [zYn, if_neg (by rw [z]; decide), if_pos z]
        exact ⟨((if_neg (by omega)).trans (if_pos rfl)).symm, (if_pos rfl).symm⟩
      · rw [zYn, if_neg z, if_neg y]
        exact (if_pos rfl).symm
    · have c2 : ¬ w = v := fun z => c1 z.symm
      have c3 : ¬ v.toNatClampNeg = w.toNatClampNeg := fun z => c1 (z_wi v0 w0 z)
      have hb2 : ¬ fq_isOf (fNs n.toNatClampNeg) v = 0 := fun z => hb ((xb_orf w0 w8 v0 v8 c2).mpr z)
      have q := h.2 v v0 v8 hb2
      have u1 : upd fNf (8 * n.toNatClampNeg + w.toNatClampNeg) a (8 * n.toNatClampNeg + v.toNatClampNeg) = fNf (8 * n.toNatClampNeg + v.toNatClampNeg) := if_neg (by omega)
      have u2 : upd fNz (8 * n.toNatClampNeg + w.toNatClampNeg) c (8 * n.toNatClampNeg + v.toNatClampNeg) = fNz (8 * n.toNatClampNeg + v.toNatClampNeg) := if_neg (by omega)
      have u3 : ∀ k, ¬ k = 11 * n.toNatClampNeg → upd nh (11 * n.toNatClampNeg) ((nh (11 * n.toNatClampNeg)) ||| (1 <<< (w &&& 31))) k = nh k := fun k hk => if_neg hk
      rw [u1, u2]
      refine ⟨fun z => ?_, fun z => ?_, fun z y => ?_, q.2.2.2⟩
      · have wz : ¬ w = 0 := fun y => c1 (z.trans y.symm)
        rw [zYn_v w0 w8 (Or.inr (Or.inr (Or.inl ⟨wz, Or.inl rfl⟩))), zYn_v w0 w8 (Or.inr (Or.inr (Or.inl ⟨wz, Or.inr rfl⟩))), u3 _ (by omega), u3 _ (by omega)]
        exact q.1 z
      · have wz : ¬ w = 7 := fun y => c1 (z.trans y.symm)
        rw [zYn_v w0 w8 (Or.inr (Or.inr (Or.inr (Or.inl ⟨wz, Or.inl rfl⟩)))), zYn_v w0 w8 (Or.inr (Or.inr (Or.inr (Or.inl ⟨wz, Or.inr rfl⟩)))), u3 _ (by omega), u3 _ (by omega)]
        exact q.2.1 z
      · rw [zYn_v w0 w8 (Or.inr (Or.inr (Or.inr (Or.inr ⟨v, v0, v8, z, y, c2, rfl⟩)))), u3 _ (by omega)]
        exact q.2.2.1 z y
theorem zN1_0 {fNs fNf fNz nh : Nat → Int32} {k : Nat} (h1 : fNs k = 0) (h2 : nh (11 * k) = 0) : zN1 fNs fNf fNz nh k := ⟨h1.trans h2.symm, fun w _ _ h => absurd (by rw [h1]; exact xb_0) h⟩
theorem zSt_0 {fSt fu : Nat → Int32} : zSt 0 fSt 0 fu := ⟨rfl, fun k h => absurd h (Nat.not_lt_zero k)⟩
theorem zLg_0 {a b c d : Nat → Int32} : zLg 0 a b 0 c d := ⟨rfl, fun k h => absurd h (Nat.not_lt_zero k)⟩
theorem zSt_s {un v w : Int32} {fSt fu : Nat → Int32} (u0 : ¬ un < 0) (u8 : un ≤ 108) (h : zSt un fSt un fu) (hv : (w = -1 ∧ v = 8) ∨ (¬ w < 0 ∧ w < 8 ∧ v = w)) : zSt (un + 1) (upd fSt un.toNatClampNeg v) (un + 1) (upd fu un.toNatClampNeg w) := by
  refine ⟨rfl, fun k hk => ?_⟩
  rw [xi_natS u0 (by lia)] at hk
  unfold upd
  by_cases c : k = un.toNatClampNeg
  · rw [if_pos c, if_pos c]; exact hv
  · rw [if_neg c, if_neg c]; exact h.2 k (by omega)
theorem zSt_p {un : Int32} {fSt fu : Nat → Int32} (u1 : ¬ un < 1) (h : zSt un fSt un fu) : zSt (un - 1) fSt (un - 1) fu := ⟨rfl, fun k hk => h.2 k (by have := xi_natP u1; omega)⟩
theorem zN1_c {fNs fNf fNz nh nh' : Nat → Int32} {k : Nat} (h : zN1 fNs fNf fNz nh k) (e : ∀ i, i < 11 * k + 11 → nh' i = nh i) : zN1 fNs fNf fNz nh' k := zN1_far h rfl (fun _ _ => rfl) (fun _ _ => rfl) (fun j hj => e _ (by omega))
theorem zk_note {xsc dfr ns no un : Int32} {fSt fNs fNf fNz nh fu : Nat → Int32} (nt : zNt ns fNs fNf fNz no nh) (st : zSt xsc fSt un fu) (n0 : ¬ no < 0) (n2 : no ≤ 12) (u0 : ¬ un < 0) (u8 : un ≤ 108) (uP : yPu fu nh un no) :
    ∀ X, X = fx_note xsc fSt dfr ns fNs → ∀ Y, Y = fq_note nh fu no un → X.1 = Y.1 ∧ zNt X.2.2.2.1 X.2.2.2.2.1 fNf fNz Y.2.2.1 Y.2.2.2.2.1 ∧ zSt X.2.1 X.2.2.1 Y.2.2.2.1 Y.2.2.2.2.2 := by
  intro X hX Y hY
  obtain ⟨e, hN⟩ := nt; subst e
  obtain ⟨e, hS⟩ := st; subst e
  have y := yS_note hY n0 n2
  rw [fx_note] at hX; rw [fq_note] at hY
  by_cases c : ns = 12
  · rw [if_pos (by lia)] at hX; rw [if_pos c] at hY; subst hX; subst hY; exact ⟨rfl, ⟨rfl, hN⟩, ⟨rfl, hS⟩⟩
  rw [if_neg c, xL_eq] at hY
  rcases y with ⟨e1, _⟩ | ⟨a1, a2, a3, a4, a5, a6⟩
  · subst hY
    have e2 : ns + 1 = ns := e1
    exact absurd e2 (by lia)
  have hu : xsc + 1 ≤ 108 := yPu_le (n := ns + 1) (u := xsc + 1) (by lia) (by lia) (by lia) (yPu_note u0 u8 n0 n2 uP a4)
  rw [if_neg (by lia), if_pos (by lia), xL_eq, xL_eq] at hX
  subst hX
  subst hY
  refine ⟨by show ns = ns + 1 - 1; lia, ⟨rfl, fun k hk => ?_⟩, zSt_s u0 u8 ⟨rfl, hS⟩ (Or.inl ⟨rfl, rfl⟩)⟩
  have hk : k < (ns + 1).toNatClampNeg := hk
  rw [xi_natS n0 (by lia)] at hk
  show zN1 (fn_begin fNs ns) fNf fNz _ k
  rw [fn_begin, if_neg n0, if_neg (by lia)]
  by_cases z : k = ns.toNatClampNeg
  · subst z
    exact zN1_0 (if_pos rfl) a5
  · exact zN1_far (hN k (by omega)) (if_neg z) (fun _ _ => rfl) (fun _ _ => rfl) (fun j hj => a4 _ (by omega))
theorem z_has {fTo : Nat → Int32} {a n : Int32} (i : Int32) (i0 : ¬ i < 0) (i5 : ¬ 5 ≤ i) (h : fTo i.toNatClampNeg = n) : fb_has fTo i a = (if a < 0 then 0 else (if n ≤ a then 0 else 1)) := by
  rw [fb_has, if_neg i0, if_neg i5, h]
theorem z_cs0 {a c n fe pe : Int32} : fq_canSay n 0 a c fe pe = (if a < 1 then 0 else if 9999 < a then 0 else if c < a then 0 else if 9999 < c then 0 else 1) := by
  rw [fq_canSay, if_pos (rfl : (0 : Int32) = 0), xL_eq]
  rw [fq_isIn]
  by_cases d0 : a < 1
  · rw [if_pos d0, if_pos d0, if_pos rfl]
  rw [if_neg d0, if_neg d0]
  by_cases d1 : 9999 < a
  · rw [if_pos d1, if_pos d1, if_pos rfl]
  rw [if_neg d1, if_neg d1, if_neg (by decide : ¬ (1 : Int32) = 0), xL_eq, fq_isIn]
  by_cases d2 : c < a
  · rw [if_pos d2, if_pos rfl]
  rw [if_neg d2]
  by_cases d3 : 9999 < c
  · rw [if_pos d3, if_pos rfl]
  · rw [if_neg d3, if_neg (by decide : ¬ (1 : Int32) = 0)]
theorem z_cs1 {a c n fe pe : Int32} : fq_canSay n 1 a c fe pe = (if a < 1 then 0 else if 99999 < a then 0 else 1) := by
  rw [fq_canSay, if_neg (by decide : ¬ (1 : Int32) = 0), if_pos (rfl : (1 : Int32) = 1), xL_eq]
  rfl
theorem z_cs2 {a c n fe pe : Int32} : fq_canSay n 2 a c fe pe = (if a < 0 then 0 else if 99999 < a then 0 else 1) := by
  rw [fq_canSay, if_neg (by decide : ¬ (2 : Int32) = 0), if_neg (by decide : ¬ (2 : Int32) = 1), if_pos (rfl : (2 : Int32) = 2), xL_eq]
  rfl
theorem z_cs3 {a c n fe pe : Int32} : fq_canSay n 3 a c fe pe = (if a < 0 then 0 else if 7 < a then 0 else 1) := by
  rw [fq_canSay, if_neg (by decide : ¬ (3 : Int32) = 0), if_neg (by decide : ¬ (3 : Int32) = 1), if_neg (by decide : ¬ (3 : Int32) = 2), if_pos (rfl : (3 : Int32) = 3), xL_eq]
  rfl
theorem z_cs4 {a c n fe pe : Int32} : fq_canSay n 4 a c fe pe = (if a < 0 then 0 else if 3 < a then 0 else 1) := by
  rw [fq_canSay, if_neg (by decide : ¬ (4 : Int32) = 0), if_neg (by decide : ¬ (4 : Int32) = 1), if_neg (by decide : ¬ (4 : Int32) = 2), if_neg (by decide : ¬ (4 : Int32) = 3), if_pos (rfl : (4 : Int32) = 4), xL_eq]
  rfl
theorem z_cs5 {a c n fe pe : Int32} : fq_canSay n 5 a c fe pe = fq_isPerson a pe := by
  rw [fq_canSay, if_neg (by decide : ¬ (5 : Int32) = 0), if_neg (by decide : ¬ (5 : Int32) = 1), if_neg (by decide : ¬ (5 : Int32) = 2), if_neg (by decide : ¬ (5 : Int32) = 3), if_neg (by decide : ¬ (5 : Int32) = 4), if_pos (rfl : (5 : Int32) = 5), xL_eq]
theorem z_cs6 {a c n fe pe : Int32} : fq_canSay n 6 a c fe pe = fq_isFeast a fe := by
  rw [fq_canSay, if_neg (by decide : ¬ (6 : Int32) = 0), if_neg (by decide : ¬ (6 : Int32) = 1), if_neg (by decide : ¬ (6 : Int32) = 2), if_neg (by decide : ¬ (6 : Int32) = 3), if_neg (by decide : ¬ (6 : Int32) = 4), if_neg (by decide : ¬ (6 : Int32) = 5), if_pos (rfl : (6 : Int32) = 6), xL_eq]
theorem z_cs7 {a c n fe pe : Int32} : fq_canSay n 7 a c fe pe = (if a < 0 then 0 else if n - 1 < a then 0 else if c < -9999 then 0 else if 9999 < c then 0 else 1) := by
  rw [fq_canSay, if_neg (by decide : ¬ (7 : Int32) = 0), if_neg (by decide : ¬ (7 : Int32) = 1), if_neg (by decide : ¬ (7 : Int32) = 2), if_neg (by decide : ¬ (7 : Int32) = 3), if_neg (by decide : ¬ (7 : Int32) = 4), if_neg (by decide : ¬ (7 : Int32) = 5), if_neg (by decide : ¬ (7 : Int32) = 6), if_pos (rfl : (7 : Int32) = 7), xL_eq]
  rw [fq_isIn]
  by_cases d0 : a < 0
  · rw [if_pos d0, if_pos d0, if_pos rfl]
  rw [if_neg d0, if_neg d0]
  by_cases d1 : n - 1 < a
  · rw [if_pos d1, if_pos d1, if_pos rfl]
  rw [if_neg d1, if_neg d1, if_neg (by decide : ¬ (1 : Int32) = 0), xL_eq, fq_isIn]
  by_cases d2 : c < -9999
  · rw [if_pos d2, if_pos rfl]
  rw [if_neg d2]
  by_cases d3 : 9999 < c
  · rw [if_pos d3, if_pos rfl]
  · rw [if_neg d3, if_neg (by decide : ¬ (1 : Int32) = 0)]
theorem z_can {fTo : Nat → Int32} {a0 a1 a2 n fe pe : Int32} (h1 : fTo 1 = fe) (h2 : fTo 2 = pe) (a00 : ¬ a0 < 0) (a08 : a0 < 8) (n0 : ¬ n < 0) : fx_canBeSaid fTo a0 a1 a2 n = fq_canSay n a0 a1 a2 fe pe := by
  by_cases c0 : a0 = 0
  · subst c0
    rw [z_cs0, fx_canBeSaid, if_neg (by decide : ¬ (0 : Int32) = 5), if_neg (by decide : ¬ (0 : Int32) = 6), if_neg (by decide : ¬ (0 : Int32) = 7), if_neg (by decide : ¬ (0 : Int32) < 0), if_neg (by decide : ¬ (5 : Int32) ≤ 0), show xk_least ((0 : Int32).toNatClampNeg) = 1 from rfl, show xk_mosts ((0 : Int32).toNatClampNeg) = 9999 from rfl, if_pos (rfl : (0 : Int32) = 0)]
    by_cases d0 : a1 < 1
    · rw [if_pos d0, if_pos d0]
    by_cases d1 : 9999 < a1
    · rw [if_neg d0, if_neg d0, if_pos d1, if_neg (show ¬ a1 ≤ 9999 by lia)]
    · rw [if_neg d0, if_neg d0, if_neg d1, if_pos (show a1 ≤ 9999 by lia)]
  by_cases c1 : a0 = 1
  · subst c1
    rw [z_cs1, fx_canBeSaid, if_neg (by decide : ¬ (1 : Int32) = 5), if_neg (by decide : ¬ (1 : Int32) = 6), if_neg (by decide : ¬ (1 : Int32) = 7), if_neg (by decide : ¬ (1 : Int32) < 0), if_neg (by decide : ¬ (5 : Int32) ≤ 1), show xk_least ((1 : Int32).toNatClampNeg) = 1 from rfl, show xk_mosts ((1 : Int32).toNatClampNeg) = 99999 from rfl, if_neg (by decide : ¬ (1 : Int32) = 0)]
    by_cases d0 : a1 < 1
    · rw [if_pos d0, if_pos d0]
    by_cases d1 : 99999 < a1
    · rw [if_neg d0, if_neg d0, if_pos d1, if_neg (show ¬ a1 ≤ 99999 by lia)]
    · rw [if_neg d0, if_neg d0, if_neg d1, if_pos (show a1 ≤ 99999 by lia)]
  by_cases c2 : a0 = 2
  · subst c2
    rw [z_cs2, fx_canBeSaid, if_neg (by decide : ¬ (2 : Int32) = 5), if_neg (by decide : ¬ (2 : Int32) = 6), if_neg (by decide : ¬ (2 : Int32) = 7), if_neg (by decide : ¬ (2 : Int32) < 0), if_neg (by decide : ¬ (5 : Int32) ≤ 2), show xk_least ((2 : Int32).toNatClampNeg) = 0 from rfl, show xk_mosts ((2 : Int32).toNatClampNeg) = 99999 from rfl, if_neg (by decide : ¬ (2 : Int32) = 0)]
    by_cases d0 : a1 < 0
    · rw [if_pos d0, if_pos d0]
    by_cases d1 : 99999 < a1
    · rw [if_neg d0, if_neg d0, if_pos d1, if_neg (show ¬ a1 ≤ 99999 by lia)]
    · rw [if_neg d0, if_neg d0, if_neg d1, if_pos (show a1 ≤ 99999 by lia)]
  by_cases c3 : a0 = 3
  · subst c3
    rw [z_cs3, fx_canBeSaid, if_neg (by decide : ¬ (3 : Int32) = 5), if_neg (by decide : ¬ (3 : Int32) = 6), if_neg (by decide : ¬ (3 : Int32) = 7), if_neg (by decide : ¬ (3 : Int32) < 0), if_neg (by decide : ¬ (5 : Int32) ≤ 3), show xk_least ((3 : Int32).toNatClampNeg) = 0 from rfl, show xk_mosts ((3 : Int32).toNatClampNeg) = 7 from rfl, if_neg (by decide : ¬ (3 : Int32) = 0)]
    by_cases d0 : a1 < 0
    · rw [if_pos d0, if_pos d0]
    by_cases d1 : 7 < a1
    · rw [if_neg d0, if_neg d0, if_pos d1, if_neg (show ¬ a1 ≤ 7 by lia)]
    · rw [if_neg d0, if_neg d0, if_neg d1, if_pos (show a1 ≤ 7 by lia)]
  by_cases c4 : a0 = 4
  · subst c4
    rw [z_cs4, fx_canBeSaid, if_neg (by decide : ¬ (4 : Int32) = 5), if_neg (by decide : ¬ (4 : Int32) = 6), if_neg (by decide : ¬ (4 : Int32) = 7), if_neg (by decide : ¬ (4 : Int32) < 0), if_neg (by decide : ¬ (5 : Int32) ≤ 4), show xk_least ((4 : Int32).toNatClampNeg) = 0 from rfl, show xk_mosts ((4 : Int32).toNatClampNeg) = 3 from rfl, if_neg (by decide : ¬ (4 : Int32) = 0)]
    by_cases d0 : a1 < 0
    · rw [if_pos d0, if_pos d0]
    by_cases d1 : 3 < a1
    · rw [if_neg d0, if_neg d0, if_pos d1, if_neg (show ¬ a1 ≤ 3 by lia)]
    · rw [if_neg d0, if_neg d0, if_neg d1, if_pos (show a1 ≤ 3 by lia)]
  by_cases c5 : a0 = 5
  · subst c5
    rw [z_cs5, fx_canBeSaid, if_pos (rfl : (5 : Int32) = 5), xL_eq, z_has 2 (by decide) (by decide) h2, fq_isPerson]
  by_cases c6 : a0 = 6
  · subst c6
    rw [z_cs6, fx_canBeSaid, if_neg (by decide : ¬ (6 : Int32) = 5), if_pos (rfl : (6 : Int32) = 6), xL_eq, z_has 1 (by decide) (by decide) h1, fq_isFeast]
  · have c7 : a0 = 7 := by lia
    subst c7
    rw [z_cs7, fx_canBeSaid, if_neg (by decide : ¬ (7 : Int32) = 5), if_neg (by decide : ¬ (7 : Int32) = 6), if_pos (rfl : (7 : Int32) = 7)]
    by_cases d0 : a1 < 0
    · rw [if_pos d0, if_pos d0]
    by_cases d1 : n ≤ a1
    · rw [if_neg d0, if_neg d0, if_pos d1, if_pos (show n - 1 < a1 by lia)]
    · rw [if_neg d0, if_neg d0, if_neg d1, if_neg (show ¬ n - 1 < a1 by lia)]
theorem z_canB {w a c n fe pe : Int32} (w0 : ¬ w < 0) (w8 : w < 8) (h : ¬ fq_canSay n w a c fe pe = 0) : zBw w a c := by
  by_cases c0 : w = 0
  · subst c0
    rw [z_cs0] at h
    have d0 : ¬ a < 1 := fun z => h (if_pos z)
    have d1 : ¬ 9999 < a := fun z => h (by rw [if_neg d0, if_pos z])
    have d2 : ¬ c < a := fun z => h (by rw [if_neg d0, if_neg d1, if_pos z])
    have d3 : ¬ 9999 < c := fun z => h (by rw [if_neg d0, if_neg d1, if_neg d2, if_pos z])
    exact ⟨by lia, fun _ => ⟨d0, d2, by lia⟩, fun z => absurd z (by decide), fun z => absurd z (by decide)⟩
  by_cases c1 : w = 1
  · subst c1
    rw [z_cs1] at h
    have d0 : ¬ a < 1 := fun z => h (if_pos z)
    exact ⟨by lia, fun z => absurd z (by decide), fun _ => d0, fun z => absurd z (by decide)⟩
  by_cases c2 : w = 2
  · subst c2
    rw [z_cs2] at h
    have d0 : ¬ a < 0 := fun z => h (if_pos z)
    exact ⟨d0, fun z => absurd z (by decide), fun z => absurd z (by decide), fun z => absurd z (by decide)⟩
  by_cases c3 : w = 3
  · subst c3
    rw [z_cs3] at h
    have d0 : ¬ a < 0 := fun z => h (if_pos z)
    exact ⟨d0, fun z => absurd z (by decide), fun z => absurd z (by decide), fun z => absurd z (by decide)⟩
  by_cases c4 : w = 4
  · subst c4
    rw [z_cs4] at h
    have d0 : ¬ a < 0 := fun z => h (if_pos z)
    exact ⟨d0, fun z => absurd z (by decide), fun z => absurd z (by decide), fun z => absurd z (by decide)⟩
  by_cases c5 : w = 5
  · subst c5
    rw [z_cs5, fq_isPerson] at h
    have d0 : ¬ a < 0 := fun z => h (if_pos z)
    exact ⟨d0, fun z => absurd z (by decide), fun z => absurd z (by decide), fun z => absurd z (by decide)⟩
  by_cases c6 : w = 6
  · subst c6
    rw [z_cs6, fq_isFeast] at h
    have d0 : ¬ a < 0 := fun z => h (if_pos z)
    exact ⟨d0, fun z => absurd z (by decide), fun z => absurd z (by decide), fun z => absurd z (by decide)⟩
  · have c7 : w = 7 := by lia
    subst c7
    rw [z_cs7] at h
    have d0 : ¬ a < 0 := fun z => h (if_pos z)
    have d1 : ¬ n - 1 < a := fun z => h (by rw [if_neg d0, if_pos z])
    have d2 : ¬ c < -9999 := fun z => h (by rw [if_neg d0, if_neg d1, if_pos z])
    have d3 : ¬ 9999 < c := fun z => h (by rw [if_neg d0, if_neg d1, if_neg d2, if_pos z])
    exact ⟨d0, fun z => absurd z (by decide), fun z => absurd z (by decide), fun _ => ⟨d2, by lia⟩⟩
theorem z_canN {a0 a1 a2 n fe pe : Int32} (h : a0 < 0 ∨ 8 ≤ a0) : fq_canSay n a0 a1 a2 fe pe = 0 := by
  rw [fq_canSay, if_neg (by rcases h with h | h <;> lia), if_neg (by rcases h with h | h <;> lia), if_neg (by rcases h with h | h <;> lia), if_neg (by rcases h with h | h <;> lia), if_neg (by rcases h with h | h <;> lia), if_neg (by rcases h with h | h <;> lia), if_neg (by rcases h with h | h <;> lia), if_neg (by rcases h with h | h <;> lia)]
theorem zk_says {xsc dfr ns no un fe pe : Int32} {fSt fNs fNf fNz nh fu fTo : Nat → Int32} {a0 a1 a2 : Int32} (nt : zNt ns fNs fNf fNz no nh) (st : zSt xsc fSt un fu) (n0 : ¬ no < 0) (n2 : no ≤ 12) (u0 : ¬ un < 0) (u8 : un ≤ 108) (uP : yPu fu nh un no) (h1 : fTo 1 = fe) (h2 : fTo 2 = pe) (hN : yNN nh no pe fe) :
    ∀ X, X = fx_says xsc fSt dfr fTo ns fNs fNf fNz a0 a1 a2 → ∀ Y, Y = fq_says nh fu a0 a1 a2 fe pe no un → X.1 = Y.1 ∧ zNt ns X.2.2.2.2.1 X.2.2.2.2.2.1 X.2.2.2.2.2.2 no Y.2.2.2.1 ∧ zSt X.2.1 X.2.2.1 Y.2.2.1 Y.2.2.2.2 := by
  intro X hX Y hY
  obtain ⟨e, hn⟩ := nt; subst e
  obtain ⟨e, hS⟩ := st; subst e
  have y := yS_says hY n0 n2
  rw [fx_says] at hX
  rw [fq_says] at hY
  have same : zNt ns fNs fNf fNz ns nh ∧ zSt xsc fSt xsc fu := ⟨⟨rfl, hn⟩, ⟨rfl, hS⟩⟩
  by_cases c0 : a0 < 0
  · rw [if_pos c0] at hX
    by_cases d : (ns - 1) < 0
    · rw [if_pos d] at hY; subst hX; subst hY; exact ⟨rfl, same⟩
    · rw [if_neg d, z_canN (Or.inl c0), xL_eq, if_pos rfl] at hY; subst hX; subst hY; exact ⟨rfl, same⟩
  rw [if_neg c0] at hX
  by_cases c8 : 8 ≤ a0
  · rw [if_pos c8] at hX
    by_cases d : (ns - 1) < 0
    · rw [if_pos d] at hY; subst hX; subst hY; exact ⟨rfl, same⟩
    · rw [if_neg d, z_canN (Or.inr c8), xL_eq, if_pos rfl] at hY; subst hX; subst hY; exact ⟨rfl, same⟩
  rw [if_neg c8] at hX
  have a08 : a0 < 8 := by lia
  by_cases d : (ns - 1) < 0
  · rw [if_pos d] at hX hY; subst hX; subst hY; exact ⟨rfl, same⟩
  rw [if_neg d] at hX hY
  have hcan : fx_canBeSaid fTo a0 a1 a2 (ns - 1) = fq_canSay (ns - 1) a0 a1 a2 fe pe := z_can h1 h2 c0 a08 d
  have hix : (11 * (ns - 1)).toNatClampNeg = 11 * (ns - 1).toNatClampNeg := by
    rw [xl_m0 11 (by decide) (by decide) (by lia) (by lia)]
    rfl
  have hm : (ns - 1).toNatClampNeg < ns.toNatClampNeg := by
    have := xi_natP (w := ns) (by lia)
    omega
  have hdo : fn_does fNs (ns - 1) a0 = fq_isOf (nh ((11 * (ns - 1)).toNatClampNeg)) a0 := by
    rw [fn_does, if_neg d, if_neg (by lia), fq_isOf, hix, (hn _ hm).1]
  rw [xL_eq] at hY
  by_cases e1 : fq_canSay (ns - 1) a0 a1 a2 fe pe = 0
  · rw [if_pos e1] at hY; subst hY
    by_cases x1 : xsc < 108
    · rw [if_pos x1, xL_eq] at hX
      by_cases x2 : fn_does fNs (ns - 1) a0 = 0
      · rw [if_pos x2, xL_eq, hcan, if_pos e1] at hX; subst hX; exact ⟨rfl, same⟩
      · rw [if_neg x2] at hX; subst hX; exact ⟨rfl, same⟩
    · rw [if_neg x1] at hX; subst hX; exact ⟨rfl, same⟩
  rw [if_neg e1, xL_eq] at hY
  by_cases e2 : fq_isOf (nh ((11 * (ns - 1)).toNatClampNeg)) a0 = 0
  case neg =>
    rw [if_neg e2] at hY; subst hY
    by_cases x1 : xsc < 108
    · rw [if_pos x1, xL_eq, hdo, if_neg e2] at hX; subst hX; exact ⟨rfl, same⟩
    · rw [if_neg x1] at hX; subst hX; exact ⟨rfl, same⟩
  have hY' := hY
  rw [if_pos e2, xL_eq] at hY
  rcases y with ⟨b1, b2, b3⟩ | ⟨b0, w0, w8, b1, b2, b3, b4⟩
  · exfalso
    have z : Y.2.2.1 = xsc + 1 := by
      rw [hY]
      by_cases q0 : a0 = 0
      · rw [if_pos q0, if_neg (by lia)]
      · rw [if_neg q0]
        by_cases q7 : a0 = 7
        · rw [if_pos q7]
        · rw [if_neg q7]
    rw [z] at b1
    lia
  have hq := yNN_says b0 n2 w0 w8 hN b4
  rw [hix] at b3
  have hu : xsc + 1 ≤ 108 := yPu_le (n := ns) (u := xsc + 1) n0 n2 (by lia) (yPu_says u0 u8 b0 n2 w0 w8 uP b3 hq.2.2 hq.2.1)
  rw [if_pos (by lia), xL_eq, hdo, if_pos e2, xL_eq, hcan, if_neg e1, xL_eq, xL_eq, z_add d (by lia) c0 a08] at hX
  subst hX
  have hz : Y.1 = 1 ∧ Y.2.2.1 = xsc + 1 ∧ Y.2.2.2.2 = upd fu xsc.toNatClampNeg a0 ∧ Y.2.2.2.1 = zYn a0 (11 * (ns - 1).toNatClampNeg) (upd nh (11 * (ns - 1).toNatClampNeg) ((nh (11 * (ns - 1).toNatClampNeg)) ||| (1 <<< (a0 &&& 31)))) a1 a2 := by
    have i1 : ∀ j : Int32, ¬ j < 0 → j ≤ 10 → ((11 * (ns - 1)) + j).toNatClampNeg = 11 * (ns - 1).toNatClampNeg + j.toNatClampNeg := fun j j0 j9 => by
      rw [xl_mj 11 (by decide) (by decide) (by lia) (by lia) j0 (by lia)]
      rfl
    rw [hY, fq_says_a, zYn, hix, i1 2 (by decide) (by decide), i1 10 (by decide) (by decide)]
    by_cases q0 : a0 = 0
    · rw [if_pos q0, if_neg (by lia), if_pos q0, if_pos q0, i1 1 (by decide) (by decide)]
      exact ⟨rfl, rfl, rfl, rfl⟩
    · rw [if_neg q0, if_neg q0, if_neg q0, i1 (2 + a0) (by lia) (by lia)]
      by_cases q7 : a0 = 7
      · subst q7
        rw [if_pos rfl, if_pos rfl]
        exact ⟨rfl, rfl, rfl, rfl⟩
      · rw [if_neg q7, if_neg q7]
        refine ⟨rfl, rfl, rfl, ?_⟩
        have e9 : (2 + a0).toNatClampNeg = 2 + a0.toNatClampNeg := zia (by decide) (by decide) c0 (by lia)
        show upd (upd nh _ _) (11 * (ns - 1).toNatClampNeg + (2 + a0).toNatClampNeg) a1 = upd (upd nh _ _) (11 * (ns - 1).toNatClampNeg + 2 + a0.toNatClampNeg) a1
        rw [e9, Nat.add_assoc]
  obtain ⟨z1, z2, z3, z4⟩ := hz
  rw [z1, z2, z3, z4]
  refine ⟨rfl, ⟨rfl, fun k hk => ?_⟩, zSt_s u0 u8 ⟨rfl, hS⟩ (Or.inr ⟨w0, w8, rfl⟩)⟩
  by_cases z : k = (ns - 1).toNatClampNeg
  · subst z
    exact zN1_add c0 a08 (z_canB c0 a08 e1) (hn _ hm)
  · have a7 := z_w8 c0 a08
    exact zN1_far (hn k hk) (if_neg z) (fun j hj => if_neg (by omega)) (fun j hj => if_neg (by omega)) (fun j hj => by
      rw [zYn_v c0 a08 (by omega)]
      exact if_neg (by omega))
theorem zk_undo {xsc dfr ns no un : Int32} {fSt fNs fNf fNz nh fu : Nat → Int32} (nt : zNt ns fNs fNf fNz no nh) (st : zSt xsc fSt un fu) (n0 : ¬ no < 0) (n2 : no ≤ 12) (u0 : ¬ un < 0) (u8 : un ≤ 108) (uP : yPu fu nh un no) :
    ∀ X, X = fx_undo xsc fSt dfr ns fNs → ∀ Y, Y = fq_undo nh fu no un → X.1 = Y.1 ∧ zNt X.2.2.1 X.2.2.2.1 fNf fNz Y.2.2.2.2 Y.2.2.2.1 ∧ zSt X.2.1 fSt Y.2.2.1 fu := by
  intro X hX Y hY
  obtain ⟨e, hn⟩ := nt; subst e
  obtain ⟨e, hS⟩ := st; subst e
  rw [fx_undo] at hX
  rw [fq_undo] at hY
  by_cases c : xsc = 0
  · rw [if_pos (by lia)] at hX; rw [if_pos c] at hY; subst hX; subst hY; exact ⟨rfl, ⟨rfl, hn⟩, ⟨rfl, hS⟩⟩
  have n1 : ¬ ns < 1 := (yPu_1 n0 u0 uP).resolve_left c
  rw [if_neg (by lia), if_pos (by lia), xL_eq, xL_eq, fx_undo_j] at hX
  rw [if_neg c] at hY
  have hk : (xsc - 1).toNatClampNeg < xsc.toNatClampNeg := by
    have := xi_natP (w := xsc) (by lia)
    omega
  have hm := xi_natP (w := ns) n1
  rcases hS _ hk with ⟨e1, e2⟩ | ⟨e0, e1, e2⟩
  · rw [if_pos e2] at hX
    rw [e1, if_neg (by decide)] at hY
    subst hX; subst hY
    exact ⟨rfl, ⟨rfl, fun k hk => hn k (by have hk : k < (ns - 1).toNatClampNeg := hk; omega)⟩, zSt_p (by lia) ⟨rfl, hS⟩⟩
  · have f0 : ¬ fSt ((xsc - 1).toNatClampNeg) < 0 := by rw [e2]; exact e0
    have f8 : fSt ((xsc - 1).toNatClampNeg) < 8 := by rw [e2]; exact e1
    have hsl : fn_slotOf (ns - 1) (fSt ((xsc - 1).toNatClampNeg)) = (ns - 1) * 8 + fSt ((xsc - 1).toNatClampNeg) := by rw [fn_slotOf, if_neg (show ¬ ns - 1 < 0 by lia), if_neg (show ¬ 12 ≤ ns - 1 by lia), if_neg f0, if_neg (show ¬ 8 ≤ fSt ((xsc - 1).toNatClampNeg) by lia)]
    rw [if_neg (show ¬ fSt ((xsc - 1).toNatClampNeg) = 8 by lia), xL_eq, fn_drop, hsl, if_neg (show ¬ (ns - 1) * 8 + fSt ((xsc - 1).toNatClampNeg) = -1 by lia), e2] at hX
    rw [if_pos (Int32.not_lt.mp e0)] at hY
    generalize fu ((xsc - 1).toNatClampNeg) = w at *
    have hix : (11 * ns - 11).toNatClampNeg = 11 * (ns - 1).toNatClampNeg := by
      rw [show 11 * ns - 11 = 11 * (ns - 1) from by lia, xl_m0 11 (by decide) (by decide) (by lia) (by lia)]
      rfl
    rw [hix] at hY
    subst hX; subst hY
    refine ⟨rfl, ⟨rfl, fun k hk => ?_⟩, zSt_p (by lia) ⟨rfl, hS⟩⟩
    have h := hn k hk
    show zN1 (upd fNs (ns - 1).toNatClampNeg ((fNs (ns - 1).toNatClampNeg) &&& ((1 <<< (w &&& 31)) ^^^ (-1)))) fNf fNz (upd nh (11 * (ns - 1).toNatClampNeg) ((nh (11 * (ns - 1).toNatClampNeg)) &&& ((1 <<< (w &&& 31)) ^^^ (-1)))) k
    by_cases z : k = (ns - 1).toNatClampNeg
    · subst z
      refine ⟨?_, fun v v0 v8 hb => ?_⟩
      · unfold upd; rw [if_pos rfl, if_pos rfl, h.1]
      · rw [show upd fNs (ns - 1).toNatClampNeg ((fNs (ns - 1).toNatClampNeg) &&& ((1 <<< (w &&& 31)) ^^^ (-1))) (ns - 1).toNatClampNeg = (fNs (ns - 1).toNatClampNeg) &&& ((1 <<< (w &&& 31)) ^^^ (-1)) from if_pos rfl] at hb
        have q := h.2 v v0 v8 (xb_clf e0 e1 v0 v8 hb)
        have m8 := z_w8 v0 v8
        have u : ∀ j, ¬ j = 0 → upd nh (11 * (ns - 1).toNatClampNeg) ((nh (11 * (ns - 1).toNatClampNeg)) &&& ((1 <<< (w &&& 31)) ^^^ (-1))) (11 * (ns - 1).toNatClampNeg + j) = nh (11 * (ns - 1).toNatClampNeg + j) := fun j hj => if_neg (by omega)
        rw [u 1 (by decide), u 2 (by decide), u 9 (by decide), u 10 (by decide), Nat.add_assoc, u (2 + v.toNatClampNeg) (by omega), ← Nat.add_assoc]
        exact q
    · exact zN1_far h (if_neg z) (fun _ _ => rfl) (fun _ _ => rfl) (fun j hj => if_neg (by omega))
theorem zk_told {ns no to lz : Int32} {fLn fLc ftn ftc : Nat → Int32} {a0 a1 : Int32} (lg : zLg lz fLn fLc to ftn ftc) (t0 : ¬ to < 0) (t2 : to ≤ 20) (hn : ns = no) :
    ∀ X, X = fx_told lz fLn fLc ns a0 a1 → ∀ Y, Y = fq_told ftn ftc a0 a1 no to → X.1 = Y.1 ∧ zLg X.2.1 X.2.2.1 X.2.2.2 Y.2.2.1 Y.2.2.2.1 Y.2.2.2.2 := by
  intro X hX Y hY
  obtain ⟨e, hL⟩ := lg; subst e; subst hn
  rw [fx_told] at hX
  rw [fq_told] at hY
  have same : zLg lz fLn fLc lz ftn ftc := ⟨rfl, hL⟩
  by_cases c : lz = 20
  · rw [if_pos c] at hY; subst hY
    have : X.1 = -1 ∧ X.2.1 = lz ∧ X.2.2.1 = fLn ∧ X.2.2.2 = fLc := by
      by_cases d0 : a0 < 0
      · rw [if_pos d0] at hX; rw [hX]; exact ⟨rfl, rfl, rfl, rfl⟩
      rw [if_neg d0] at hX
      by_cases d1 : ns ≤ a0
      · rw [if_pos d1] at hX; rw [hX]; exact ⟨rfl, rfl, rfl, rfl⟩
      rw [if_neg d1] at hX
      by_cases d2 : a1 < 0
      · rw [if_pos d2] at hX; rw [hX]; exact ⟨rfl, rfl, rfl, rfl⟩
      rw [if_neg d2] at hX
      by_cases d3 : 20000 ≤ a1
      · rw [if_pos d3] at hX; rw [hX]; exact ⟨rfl, rfl, rfl, rfl⟩
      rw [if_neg d3, if_neg (by lia)] at hX; rw [hX]; exact ⟨rfl, rfl, rfl, rfl⟩
    obtain ⟨y1, y2, y3, y4⟩ := this
    rw [y1, y2, y3, y4]; exact ⟨rfl, same⟩
  rw [if_neg c, xL_eq, fq_isNote] at hY
  by_cases d0 : a0 < 0
  · rw [if_pos d0] at hX; rw [if_pos d0, if_pos rfl] at hY; subst hX; subst hY; exact ⟨rfl, same⟩
  rw [if_neg d0] at hX hY
  by_cases d1 : ns ≤ a0
  · rw [if_pos d1] at hX; rw [if_pos d1, if_pos rfl] at hY; subst hX; subst hY; exact ⟨rfl, same⟩
  rw [if_neg d1] at hX
  rw [if_neg d1, if_neg (by decide), xL_eq, fq_isIn] at hY
  by_cases d2 : a1 < 0
  · rw [if_pos d2] at hX; rw [if_pos d2, if_pos rfl] at hY; subst hX; subst hY; exact ⟨rfl, same⟩
  rw [if_neg d2] at hX hY
  by_cases d3 : 20000 ≤ a1
  · rw [if_pos d3] at hX; rw [if_pos (show 19999 < a1 by lia), if_pos rfl] at hY; subst hX; subst hY; exact ⟨rfl, same⟩
  rw [if_neg d3, if_pos (by lia), xL_eq, fd_add, if_neg (by lia)] at hX
  rw [if_neg (show ¬ 19999 < a1 by lia), if_neg (by decide : ¬ (1 : Int32) = 0)] at hY
  subst hX; subst hY
  refine ⟨rfl, rfl, fun k hk => ?_⟩
  have hk : k < (lz + 1).toNatClampNeg := hk
  rw [xi_natS t0 (by lia)] at hk
  show upd fLn lz.toNatClampNeg a0 k = upd ftn lz.toNatClampNeg a0 k ∧ upd fLc lz.toNatClampNeg a1 k = upd ftc lz.toNatClampNeg a1 k
  unfold upd
  by_cases z : k = lz.toNatClampNeg
  · rw [if_pos z, if_pos z, if_pos z, if_pos z]; exact ⟨rfl, rfl⟩
  · rw [if_neg z, if_neg z, if_neg z, if_neg z]; exact hL k (by omega)
theorem zc_keep_e {s0 s : Nat → Int32} : ∀ (n : Nat) (L : Int32) (f0 f : Nat → Int32), ¬ L < 0 → L ≤ 20 → 20 ≤ L.toNatClampNeg + n → ∀ k : Nat, (fq_keep_e s0 s n L f0 f).2.1 k = if L.toNatClampNeg ≤ k ∧ k < 20 then s0 k else f0 k := by
  intro n
  induction n with
  | zero =>
    intro L f0 f h0 h9 hn k
    rw [fq_keep_e, if_neg (by omega)]
  | succ n ih =>
    intro L f0 f h0 h9 hn k
    rw [fq_keep_e]
    by_cases h : 20 ≤ L
    · have hL := xi_nle (a := 20) (by decide) h
      rw [show (20 : Int32).toNatClampNeg = 20 from rfl] at hL
      rw [if_pos h, if_neg (by omega)]
    · have hs := xi_natS (w := L) h0 (by lia)
      have hlt := xi_nlt (b := 20) h0 (by lia)
      rw [show (20 : Int32).toNatClampNeg = 20 from rfl] at hlt
      rw [if_neg h, ih (L + 1) _ _ (by lia) (by lia) (by omega) k, hs]
      unfold upd
      by_cases e : k = L.toNatClampNeg
      · subst e
        rw [if_neg (by omega), if_pos rfl, if_pos ⟨Nat.le_refl _, hlt⟩]
      · by_cases c : L.toNatClampNeg + 1 ≤ k ∧ k < 20
        · rw [if_pos c, if_pos ⟨by omega, c.2⟩]
        · rw [if_neg c, if_neg e, if_neg (by omega)]
theorem zc_back_e {s0 s : Nat → Int32} : ∀ (n : Nat) (L : Int32) (f0 f : Nat → Int32), ¬ L < 0 → L ≤ 20 → 20 ≤ L.toNatClampNeg + n → ∀ k : Nat, (fq_back_e s0 s n L f0 f).2.1 k = if L.toNatClampNeg ≤ k ∧ k < 20 then s0 k else f0 k := by
  intro n
  induction n with
  | zero =>
    intro L f0 f h0 h9 hn k
    rw [fq_back_e, if_neg (by omega)]
  | succ n ih =>
    intro L f0 f h0 h9 hn k
    rw [fq_back_e]
    by_cases h : 20 ≤ L
    · have hL := xi_nle (a := 20) (by decide) h
      rw [show (20 : Int32).toNatClampNeg = 20 from rfl] at hL
      rw [if_pos h, if_neg (by omega)]
    · have hs := xi_natS (w := L) h0 (by lia)
      have hlt := xi_nlt (b := 20) h0 (by lia)
      rw [show (20 : Int32).toNatClampNeg = 20 from rfl] at hlt
      rw [if_neg h, ih (L + 1) _ _ (by lia) (by lia) (by omega) k, hs]
      unfold upd
      by_cases e : k = L.toNatClampNeg
      · subst e
        rw [if_neg (by omega), if_pos rfl, if_pos ⟨Nat.le_refl _, hlt⟩]
      · by_cases c : L.toNatClampNeg + 1 ≤ k ∧ k < 20
        · rw [if_pos c, if_pos ⟨by omega, c.2⟩]
        · rw [if_neg c, if_neg e, if_neg (by omega)]
theorem zcp {f g : Nat → Int32} {n k : Nat} (h : k < n) : va_cpy f g 0 0 n k = f k := by
  unfold va_cpy
  rw [if_pos ⟨Nat.zero_le _, by omega⟩, Nat.zero_add, Nat.sub_zero]
theorem zNt_cp {ns no : Int32} {fNs fNf fNz nh fNs' fNf' fNz' nh' : Nat → Int32} (h : zNt ns fNs fNf fNz no nh) (n0 : ¬ no < 0) (n2 : no ≤ 12) (e1 : ∀ k, k < 12 → fNs' k = fNs k) (e2 : ∀ k, k < 96 → fNf' k = fNf k) (e3 : ∀ k, k < 96 → fNz' k = fNz k) (e4 : ∀ k, k < 132 → nh' k = nh k) : zNt ns fNs' fNf' fNz' no nh' := by
  have m : no.toNatClampNeg ≤ 12 := xi_nle (b := 12) n0 n2
  exact ⟨h.1, fun k hk => zN1_far (h.2 k hk) (e1 k (by omega)) (fun j hj => e2 _ (by omega)) (fun j hj => e3 _ (by omega)) (fun j hj => e4 _ (by omega))⟩
theorem zLg_cp {lz to : Int32} {a b c d a' b' c' d' : Nat → Int32} (h : zLg lz a b to c d) (t0 : ¬ to < 0) (t2 : to ≤ 20) (e1 : ∀ k, k < 20 → a' k = a k) (e2 : ∀ k, k < 20 → b' k = b k) (e3 : ∀ k, k < 20 → c' k = c k) (e4 : ∀ k, k < 20 → d' k = d k) : zLg lz a' b' to c' d' := by
  have m : to.toNatClampNeg ≤ 20 := xi_nle (b := 20) t0 t2
  exact ⟨h.1, fun k hk => by rw [e1 k (by omega), e2 k (by omega), e3 k (by omega), e4 k (by omega)]; exact h.2 k hk⟩
theorem zk_forget {lz to : Int32} {fLn fLc ftn ftc : Nat → Int32} (lg : zLg lz fLn fLc to ftn ftc) :
    ∀ X, X = fx_forget lz → ∀ Y, Y = fq_forget to → X.1 = Y.1 ∧ zLg X.2 fLn fLc Y.2.2 ftn ftc := by
  intro X hX Y hY
  subst hX; subst hY
  exact ⟨lg.1, zLg_0⟩
theorem zk_keep {ns no to lz : Int32} {fNs fNf fNz nh fLn fLc ftn ftc fIs fIf fIz fIn fIc kh kcn kcc : Nat → Int32} (nt : zNt ns fNs fNf fNz no nh) (n0 : ¬ no < 0) (n2 : no ≤ 12) (lg : zLg lz fLn fLc to ftn ftc) (t0 : ¬ to < 0) (t2 : to ≤ 20) :
    ∀ X, X = fx_keep lz fLn fLc fIs fIf fIz fIn fIc ns fNs fNf fNz → ∀ Y, Y = fq_keep nh ftn ftc kh kcn kcc no to → X.1 = Y.1 ∧ zIg X.2.1 X.2.2.1 X.2.2.2.1 X.2.2.2.2.1 X.2.2.2.2.2.1 X.2.2.2.2.2.2.1 X.2.2.2.2.2.2.2.1 X.2.2.2.2.2.2.2.2 Y.2.2.1 Y.2.2.2.1 Y.2.2.2.2.1 Y.2.2.2.2.2.1 Y.2.2.2.2.2.2.1 Y.2.2.2.2.2.2.2 := by
  intro X hX Y hY
  rw [fx_keep, fn_copy, fd_copy, xL_eq, xL_eq] at hX
  rw [fq_keep, xL_eq, xL_eq] at hY
  subst hX; subst hY
  refine ⟨nt.1, Or.inr ⟨(by decide : ¬ (1 : Int32) = 0), (by decide : ¬ (1 : Int32) = 0), zNt_cp nt n0 n2 (fun k hk => zcp (n := 12) hk) (fun k hk => zcp (n := 96) hk) (fun k hk => zcp (n := 96) hk) (fun k hk => ?_), zLg_cp lg t0 t2 (fun k hk => zcp (n := 20) hk) (fun k hk => zcp (n := 20) hk) (fun k hk => ?_) (fun k hk => ?_)⟩⟩
  · show (fq_keep_d nh 132 0 kh).2 k = nh k
    rw [yc_keep_d 132 0 kh (by decide) (by decide) (by decide), if_pos ⟨Nat.zero_le _, hk⟩]
  · show (fq_keep_e ftn ftc 20 0 kcn kcc).2.1 k = ftn k
    rw [zc_keep_e 20 0 kcn kcc (by decide) (by decide) (by decide), if_pos ⟨Nat.zero_le _, hk⟩]
  · show (fq_keep_e ftn ftc 20 0 kcn kcc).2.2 k = ftc k
    rw [yc_keep_e 20 0 kcn kcc (by decide) (by decide) (by decide), if_pos ⟨Nat.zero_le _, hk⟩]
theorem zk_back {ns no to lz xsc un dfr xik is iz hi kn kt np nf : Int32} {fSt fu fNs fNf fNz nh fLn fLc ftn ftc fIs fIf fIz fIn fIc kh kcn kcc : Nat → Int32} (nt : zNt ns fNs fNf fNz no nh) (st : zSt xsc fSt un fu) (lg : zLg lz fLn fLc to ftn ftc) (ig : zIg xik is fIs fIf fIz iz fIn fIc hi kn kt kh kcn kcc) (im : hi = 0 ∨ yIm kn kt np nf kh kcc) :
    ∀ X, X = fx_back xsc xik lz fLn fLc is fIs fIf fIz iz fIn fIc dfr ns fNs fNf fNz → ∀ Y, Y = fq_back nh ftn ftc kh kcn kcc no un to hi kn kt → X.1 = Y.1 ∧ zNt X.2.2.1 X.2.2.2.1 X.2.2.2.2.1 X.2.2.2.2.2.1 Y.2.2.1 Y.2.2.2.2.2.1 ∧ zSt X.2.1 fSt Y.2.2.2.1 fu ∧ zLg X.2.2.2.2.2.2.1 X.2.2.2.2.2.2.2.1 X.2.2.2.2.2.2.2.2.1 Y.2.2.2.2.1 Y.2.2.2.2.2.2.1 Y.2.2.2.2.2.2.2 := by
  intro X hX Y hY
  rw [fx_back] at hX
  rw [fq_back] at hY
  rcases ig with ⟨x0, h0⟩ | ⟨x0, h0, gn, gl⟩
  · rw [if_pos x0] at hX; rw [if_pos h0] at hY; subst hX; subst hY; exact ⟨rfl, nt, st, lg⟩
  obtain ⟨⟨k0, k2⟩, ⟨t0, t2⟩, _, _⟩ := im.resolve_left h0
  rw [if_neg x0, fn_copy, fd_copy, xL_eq, xL_eq, xL_eq] at hX
  rw [if_neg h0, xL_eq, xL_eq] at hY
  subst hX; subst hY
  refine ⟨gn.1, zNt_cp gn k0 k2 (fun k hk => zcp (n := 12) hk) (fun k hk => zcp (n := 96) hk) (fun k hk => zcp (n := 96) hk) (fun k hk => ?_), zSt_0, zLg_cp gl t0 t2 (fun k hk => zcp (n := 20) hk) (fun k hk => zcp (n := 20) hk) (fun k hk => ?_) (fun k hk => ?_)⟩
  · show (fq_back_d kh 132 0 nh).2 k = kh k
    rw [yc_back_d 132 0 nh (by decide) (by decide) (by decide), if_pos ⟨Nat.zero_le _, hk⟩]
  · show (fq_back_e kcn kcc 20 0 ftn ftc).2.1 k = kcn k
    rw [zc_back_e 20 0 ftn ftc (by decide) (by decide) (by decide), if_pos ⟨Nat.zero_le _, hk⟩]
  · show (fq_back_e kcn kcc 20 0 ftn ftc).2.2 k = kcc k
    rw [yc_back_e 20 0 ftn ftc (by decide) (by decide) (by decide), if_pos ⟨Nat.zero_le _, hk⟩]
