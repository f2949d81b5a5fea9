def zRs2 (st nx pop : Int32) (X : Int32 × Int32 × Int32 × Int32 × Int32 × Int32 × Int32 × Int32 × Int32 × (Nat → Int32) × (Nat → Int32) × Int32 × Int32 × (Nat → Int32)) (Y : Int32 × (Nat → Int32) × (Nat → Int32) × (Nat → Int32) × (Nat → Int32) × Int32 × Int32 × Int32 × Int32 × Int32 × Int32 × Int32 × Int32 × Int32 × Int32 × (Nat → Int32) × Int32 × Int32 × Int32) : Prop :=
  X.2.1 = Y.2.2.2.2.2.2.2.2.2.2.2.2.2.1 ∧ X.2.2.1 = Y.2.2.2.2.2.2.2.2.2.2.2.2.2.2.1 ∧ ((X.1 = 1 ∧ Y.1 = 0) ∨ (X.1 = 0 ∧ Y.1 = 1 ∧ zT st X.2.2.2.2.1 X.2.2.2.2.2.1 X.2.2.2.2.2.2.1 X.2.2.2.2.2.2.2.1 X.2.2.2.2.2.2.2.2.1 Y.2.2.2.2.2.1 Y.2.2.2.2.2.2.1 Y.2.2.2.2.2.2.2.1 Y.2.2.2.2.2.2.2.2.1 ∧ ¬ Y.2.2.2.2.2.2.2.2.1 < nx ∧ Y.2.2.2.2.2.2.2.2.2.2.2.2.2.2.2.2.2.1 = 1 ∧ zH X.2.2.2.1 pop X.2.2.2.2.2.2.2.2.2.2.2.1 X.2.2.2.2.2.2.2.2.2.2.2.2.1 X.2.2.2.2.2.2.2.2.2.1 X.2.2.2.2.2.2.2.2.2.2.1 X.2.2.2.2.2.2.2.2.2.2.2.2.2 Y.2.2.2.2.2.2.2.2.2.1 Y.2.2.2.2.2.2.2.2.2.2.1 Y.2.2.2.2.2.2.2.2.2.2.2.2.1 Y.2.2.2.2.2.2.2.2.2.2.2.2.2.2.2.2.1 Y.2.2.2.2.2.2.2.2.2.2.2.2.2.2.2.1 Y.2.1 Y.2.2.1 ∧ zMy Y.2.2.2.2.2.2.2.2.2.2.2.2.2.2.2.2.2.2 Y.2.2.2.2.2.2.2.2.2.2.1 Y.2.2.2.2.2.2.2.2.2.2.2.2.2.2.2.1))
theorem z_sc {fBy ft fw fCo fHe fHr fRc fWa fKn fPa fOt fHd : Nat → Int32} {st lxa lxt lxp lxn lxl nx kd wh ap pfa pfp fa fp phs pop rsz rkn kn wt br ct he wn mn k : Int32} (g : zG fBy ft fw fCo st) (h : zT st lxa lxt lxp lxn lxl nx kd wh ap) (q1 : pfa = fa) (q2 : pfp = fp) (hH : zH phs pop rsz rkn fHe fHr fRc kn wt br ct fWa fKn fPa) (hk : ¬ k < 2 ∧ k ≤ 15) (hz : lxt = zop k) (hr : ¬ fq_rank k < 1) (h3 : ¬ fq_rank k = 3) :
    zRs2 st nx pop (xL ((fp_countKnot pfa pfp lxp rkn)) (fun X_13 => (if X_13.1 = 1 then ((1 : Int32), X_13.2.1, X_13.2.2.1, phs, lxa, lxt, lxp, lxn, lxl, fHe, fHr, rsz, X_13.2.2.2, fRc) else (xL ((fp_hold phs fHe fHr lxt)) (fun u_24 => (xL ((fe_advance st lxa lxn lxl fBy fCo)) (fun u_31 => ((0 : Int32), X_13.2.1, X_13.2.2.1, u_24.1, u_31.1, u_31.2.1, u_31.2.2.1, u_31.2.2.2.1, u_31.2.2.2.2, u_24.2.1, u_24.2.2, rsz, X_13.2.2.2, fRc)))))))) (fq_signs_c ft fw fWa fa fp st nx kd wh ap br ct wn mn k kn wt he fKn fPa fOt fHd) := by
  have c9 := hH.2.2.2.2.1.2.2.2.2.2.2.2.1
  have wB := hH.2.2.2.2.1
  have n01 : ¬ (0 : Int32) = 1 := by decide
  rw [fq_signs_c]
  apply zLx; intro C hC D hD
  rcases z_cnt q1 q2 h.2.1 hH.2.2.2.1 c9 with ⟨e1, e2⟩ | ⟨e1, e2, e3⟩
  · rw [hC, hD, e1, e2, if_pos rfl, if_pos rfl]; exact ⟨rfl, h.2.1, Or.inl ⟨rfl, rfl⟩⟩
  · rw [hC, hD, e1, e2]
    dsimp only
    rw [if_neg n01, zn1, xL_eq, xL_eq (fq_waitsFor fWa k wt), xL_eq (fq_rank k)]
    have hz2 := z_hold (k := k) (pop2 := pop) (rkn2 := rkn + 1) (br2 := br) (ct2 := ct + 1) hH (Or.inr hk) hH.2.1 (by rw [hH.2.2.2.1]) (Or.inr ⟨fun z => hk.1 (by rw [z]; decide), rfl, rfl, e3⟩)
    rw [← hz] at hz2
    have hm : ∀ m : Int32, (m = 0) = (3 ≤ fq_rank k) → zMy m (fq_waitsFor fWa k wt).1 (fq_waitsFor fWa k wt).2 := by
      intro m e
      rw [zMy, e, fq_waitsFor]
      show _ = (¬ (if wt + 1 ≤ 0 then 0 else fq_rank (upd fWa wt.toNatClampNeg k ((wt + 1 - 1).toNatClampNeg))) ≤ 3)
      rw [if_neg (by lia), show wt + 1 - 1 = wt from by lia, show upd fWa wt.toNatClampNeg k wt.toNatClampNeg = k from if_pos rfl]
      exact propext ⟨fun z y => by lia, fun z => by lia⟩
    by_cases d : 3 ≤ fq_rank k
    · rw [if_pos d]
      apply zLx; intro U hU V hV
      exact ⟨q1, q2, Or.inr ⟨rfl, rfl, g.tok h U hU V hV, g.adv h V hV, rfl, hz2, hm 0 (propext ⟨fun _ => d, fun _ => rfl⟩)⟩⟩
    · rw [if_neg d]
      apply zLx; intro U hU V hV
      exact ⟨q1, q2, Or.inr ⟨rfl, rfl, g.tok h U hU V hV, g.adv h V hV, rfl, hz2, hm 1 (propext ⟨fun z => absurd z (by decide), fun z => absurd z d⟩)⟩⟩
theorem z_sign {fBy ft fw fCo fHe fHr fRc fWa fKn fPa fOt fHd : Nat → Int32} {st lxa lxt lxp lxn lxl nx kd wh ap pfa pfp fa fp phs pop rsz rkn kn wt br ct he wn mn k : Int32} (g : zG fBy ft fw fCo st) (h : zT st lxa lxt lxp lxn lxl nx kd wh ap) (q1 : pfa = fa) (q2 : pfp = fp) (hH : zH phs pop rsz rkn fHe fHr fRc kn wt br ct fWa fKn fPa) (hk : ¬ k < 2 ∧ k ≤ 15) (hz : lxt = zop k) (hrk : fr_rankOf lxt = fq_rank k) (hr : ¬ fr_rankOf lxt < 1) (h3 : ¬ fr_rankOf lxt = 3) :
    ∀ X, X = fp_readSign pfa pfp phs st lxa lxt lxp lxn lxl fBy fCo fHe fHr rsz rkn fRc →
    zRs2 st nx pop X (xL ((fq_rank k)) (fun r_53 => (if r_53 = 4 then (xL ((fq_bind fKn fPa fOt fWa fHd (5 : Int32) kn wt he)) (fun u_75 => fq_signs_b ft fw fWa fa fp st nx kd wh ap br ct wn mn k u_75.1 u_75.2.1 u_75.2.2.1 u_75.2.2.2.1 u_75.2.2.2.2.1 u_75.2.2.2.2.2.1 u_75.2.2.2.2.2.2)) else (xL ((fq_rank k)) (fun r_55 => (xL ((fq_bind fKn fPa fOt fWa fHd r_55 kn wt he)) (fun u_57 => fq_signs_b ft fw fWa fa fp st nx kd wh ap br ct wn mn k u_57.1 u_57.2.1 u_57.2.2.1 u_57.2.2.2.1 u_57.2.2.2.2.1 u_57.2.2.2.2.2.1 u_57.2.2.2.2.2.2))))))) := by
  intro X hX
  rw [hX, fp_readSign, xL_eq (fr_rankOf lxt), xL_eq (fq_rank k), hrk]
  rw [hrk] at hr h3
  by_cases c : fq_rank k = 4
  · rw [if_pos c, if_pos c, c, show (4 : Int32) + 1 = 5 from rfl]
    apply zLx; intro U hU V hV
    have hb := z_bind (by decide) hH U hU V hV
    rw [xL_eq, z_hr hb.1, fq_signs_b, xL_eq (fq_rank k), if_pos c]
    by_cases d : V.2.1 ≤ 0
    · rw [if_pos d, if_pos d, if_neg (show ¬ (0 : Int32) = 4 by decide)]
      exact z_sc g h q1 q2 hb.1 hk hz hr h3
    · rw [if_neg d, if_neg d, xL_eq (fq_rank (fWa ((V.2.1 - 1).toNatClampNeg)))]
      by_cases e : fq_rank (fWa ((V.2.1 - 1).toNatClampNeg)) = 4
      · rw [if_pos e, if_pos e]; exact ⟨rfl, h.2.1, Or.inl ⟨rfl, rfl⟩⟩
      · rw [if_neg e, if_neg e]; exact z_sc g h q1 q2 hb.1 hk hz hr h3
  · rw [if_neg c, if_neg c, xL_eq (fq_rank k)]
    apply zLx; intro U hU V hV
    have hb := z_bind hr hH U hU V hV
    rw [fq_signs_b, xL_eq (fq_rank k), if_neg c]
    exact z_sc g h q1 q2 hb.1 hk hz hr h3
theorem z_close {fBy ft fw fCo fHe fHr fRc fWa fKn fPa fOt fHd : Nat → Int32} {st lxa lxt lxp lxn lxl nx kd wh ap phs pop rsz rkn kn wt br ct he : Int32} (g : zG fBy ft fw fCo st) (h : zT st lxa lxt lxp lxn lxl nx kd wh ap) (hH : zH phs pop rsz rkn fHe fHr fRc kn wt br ct fWa fKn fPa) (hb0 : ¬ br ≤ 0) :
    ∀ X, X = fp_close phs pop st lxa lxn lxl fBy fCo fHe fHr rsz fRc → ∀ Z, Z = fq_bind fKn fPa fOt fWa fHd 1 kn wt he → ∀ V, V = fq_token ft fw st nx wh →
    zT st X.2.2.2.2.1 X.2.2.2.2.2.1 X.2.2.2.2.2.2.1 X.2.2.2.2.2.2.2.1 X.2.2.2.2.2.2.2.2 V.1 V.2.1 V.2.2.1 V.2.2.2 ∧ zH X.1 X.2.1 X.2.2.1 rkn fHe fHr X.2.2.2.1 Z.1 (Z.2.1 - 1) (br - 1) ct fWa Z.2.2.2.1 Z.2.2.2.2.1 := by
  intro X hX Z hZ V hV
  have hb := z_bind (by decide) hH _ rfl Z hZ
  rw [fp_close, xL_eq] at hX
  generalize fp_release phs fHe fHr rsz fRc 1 = U at hX hb
  obtain ⟨⟨h1, h2, h3, h4, ⟨b1, b2, b3, b4, b5, b6, b7, b8, b9⟩, h5, h6, h7⟩, hr⟩ := hb
  have w0 : ¬ Z.2.1 ≤ 0 := fun z => by
    have e : Z.2.1 = 0 := by lia
    rw [e] at h5
    have e2 : zcz fWa (0 : Int32).toNatClampNeg = 0 := rfl
    rw [e2] at h5
    have n1 := xi_nat b3
    have n2 : ¬ br.toInt ≤ 0 := fun y => hb0 (Int32.le_iff_toInt_le.mpr y)
    omega
  have hr2 := hr.resolve_left w0
  have hp := xi_natP (w := Z.2.1) (by lia)
  have q := h6 _ (show (Z.2.1 - 1).toNatClampNeg < Z.2.1.toNatClampNeg by omega)
  have q0 := (z_rk q.2.2).2.2 hr2
  rw [h1, if_neg w0, xL_eq] at hX
  rw [hX]
  refine ⟨g.tok h _ rfl V hV, rfl, by show pop - 1 = br - 1; rw [h2], h3, h4, ⟨by lia, by lia, by lia, by lia, b5, b6, b7, b8, by lia⟩, ?_, fun i hi => h6 i (by omega), h7⟩
  rw [hp, zcz, if_pos q0] at h5
  have n3 := xi_natP (w := br) (by lia)
  omega
def zRz (st n : Int32) (fTo fRe : Nat → Int32) (fNm : Nat → Nat → Int32) (X : Int32 × Int32 × Int32 × Int32 × Int32 × Int32 × Int32 × Int32 × Int32 × Int32 × (Nat → Int32) × (Nat → Int32) × (Nat → Int32) × (Nat → Nat → Int32) × Int32 × Int32 × (Nat → Int32) × (Nat → Int32)) (Y : Int32 × Int32 × Int32 × Int32 × Int32 × Int32 × Int32 × Int32 × Int32 × Int32 × Int32 × Int32 × Int32 × Int32 × (Nat → Int32) × (Nat → Int32) × (Nat → Int32) × (Nat → Int32) × (Nat → Int32)) : Prop :=
  (X.1 = 1 ∧ Y.1 = 0 ∧ X.2.1 = Y.2.1 ∧ X.2.2.1 = Y.2.2.1) ∨
  (X.1 = 0 ∧ Y.1 = 0 ∧ ¬ X.2.2.2.2.2.2.1 = 25 ∧ Y.2.1 = 1 ∧ Y.2.2.1 = X.2.2.2.2.2.2.2.1) ∨
  (X.1 = 0 ∧ Y.1 = 1 ∧ X.2.1 = Y.2.1 ∧ X.2.2.1 = Y.2.2.1 ∧ zT st X.2.2.2.2.2.1 X.2.2.2.2.2.2.1 X.2.2.2.2.2.2.2.1 X.2.2.2.2.2.2.2.2.1 X.2.2.2.2.2.2.2.2.2.1 Y.2.2.2.1 Y.2.2.2.2.1 Y.2.2.2.2.2.1 Y.2.2.2.2.2.2.1 ∧ X.2.2.2.2.2.2.2.2.2.2.2.2.1 = upd fTo 1 (n + 1) ∧ X.2.2.2.2.2.2.2.2.2.2.2.2.2.1 = fNm ∧ X.2.2.2.2.2.2.2.2.2.2.2.2.2.2.2.2.2 = upd fRe n.toNatClampNeg X.2.2.2.2.2.2.2.2.2.2.2.2.2.2.1 ∧ X.2.2.2.2.2.2.2.2.2.2.2.2.2.2.1 = Y.2.2.2.2.2.2.2.1 ∧ X.2.2.2.2.2.2.2.2.2.2.2.2.2.2.2.1 = Y.2.2.2.2.2.2.2.2.2.2.2.1 ∧ ¬ Y.2.2.2.2.2.2.2.1 < 0 ∧ Y.2.2.2.2.2.2.2.1 ≤ 64 ∧ Y.2.2.2.2.2.2.2.2.2.2.2.1 ≤ 64 ∧ Y.2.2.2.2.2.2.2.1 = Y.2.2.2.2.2.2.2.2.2.2.2.1 ∧ zKn Y.2.2.2.2.2.2.2.1 X.2.2.2.2.2.2.2.2.2.2.2.2.2.2.2.2.1 Y.2.2.2.2.2.2.2.2.2.2.2.2.2.2.1 Y.2.2.2.2.2.2.2.2.2.2.2.2.2.2.2.1)
theorem z_ft {fTo fRe fHe fHr fRc fWa fKn fPa fOt fHd : Nat → Int32} {fNm : Nat → Nat → Int32} {st n j lxa lxt lxp lxn lxl nx kd wh ap pfa pfp fa fp phs pop rsz rkn kn wt br ct he mn : Int32} (h : zT st lxa lxt lxp lxn lxl nx kd wh ap) (q1 : pfa = fa) (q2 : pfp = fp) (hH : zH phs pop rsz rkn fHe fHr fRc kn wt br ct fWa fKn fPa) (hn : fTo 1 = n) (n0 : ¬ n < 0) (n4 : n < 4) (hb : br ≤ 0) :
    zRz st n fTo fRe fNm (fp_readFeast_t fTo fRe n 0 j lxa lxt lxp lxn lxl pfa pfp phs pop rsz rkn fNm fHe fHr fRc) (xL ((fq_bind fKn fPa fOt fWa fHd (1 : Int32) kn wt he)) (fun u_300 => ((1 : Int32), fa, fp, nx, kd, wh, ap, u_300.1, u_300.2.1, u_300.2.2.1, br, ct, (0 : Int32), mn, u_300.2.2.2.1, u_300.2.2.2.2.1, u_300.2.2.2.2.2.1, fWa, u_300.2.2.2.2.2.2))) := by
  have ht : upd fTo ((1 : Int32).toNatClampNeg) ((fTo ((1 : Int32).toNatClampNeg)) + 1) = upd fTo 1 (n + 1) := by
    show upd fTo 1 (fTo 1 + 1) = _
    rw [hn]
  rw [fp_readFeast_t, if_pos rfl, if_pos (by rw [hH.2.1]; exact hb)]
  apply zLx; intro U hU V hV
  have hb2 := z_bind (by decide) hH U hU V hV
  rw [xL_eq, fp_endRule, if_neg n0, if_neg (by lia)]
  obtain ⟨⟨h1, h2, h3, h4, ⟨b1, b2, b3, b4, b5, b6, b7, b8, b9⟩, h5, h6, h7⟩, hr⟩ := hb2
  have w0 : V.2.1 ≤ 0 := by
    rcases hr with hr | hr
    · exact hr
    · by_cases z : V.2.1 ≤ 0
      · exact z
      · have hp := xi_natP (w := V.2.1) (by lia)
        have q := h6 _ (show (V.2.1 - 1).toNatClampNeg < V.2.1.toNatClampNeg by omega)
        have q0 := (z_rk q.2.2).2.2 hr
        rw [hp, zcz, if_pos q0] at h5
        have e : br = 0 := by lia
        rw [e] at h5
        have e2 : (0 : Int32).toNatClampNeg = 0 := rfl
        omega
  exact Or.inr (Or.inr ⟨rfl, rfl, q1, q2, h, ht, rfl, rfl, h3, h4, b5, b6, b8, by show V.1 = ct; lia, h7⟩)
theorem z_ft0 {fTo fRe fHe fHr fRc : Nat → Int32} {fNm : Nat → Nat → Int32} {n j lxa lxt lxp lxn lxl pfa pfp phs pop rsz rkn : Int32} (hb : ¬ pop ≤ 0) :
    fp_readFeast_t fTo fRe n 0 j lxa lxt lxp lxn lxl pfa pfp phs pop rsz rkn fNm fHe fHr fRc = ((1 : Int32), (1 : Int32), lxp, phs, pop, lxa, lxt, lxp, lxn, lxl, fHe, fHr, fTo, fNm, rsz, rkn, fRc, fRe) := by
  rw [fp_readFeast_t, if_pos rfl, if_neg hb]
theorem z_ft1 {fTo fRe fHe fHr fRc : Nat → Int32} {fNm : Nat → Nat → Int32} {n j lxa lxt lxp lxn lxl pfa pfp phs pop rsz rkn : Int32} (hb : pop ≤ 0) :
    ∃ a b c d, fp_readFeast_t fTo fRe n 0 j lxa lxt lxp lxn lxl pfa pfp phs pop rsz rkn fNm fHe fHr fRc = ((0 : Int32), pfa, pfp, a, pop, lxa, lxt, lxp, lxn, lxl, fHe, fHr, (upd fTo ((1 : Int32).toNatClampNeg) ((fTo ((1 : Int32).toNatClampNeg)) + 1)), fNm, b, rkn, c, d) := by
  rw [fp_readFeast_t, if_pos rfl, if_pos hb, xL_eq, xL_eq]
  exact ⟨_, _, _, _, rfl⟩
/-- what the reference does with a turn where no part is due -/
def zTs (ft fw : Nat → Int32) (st : Int32) (n : Nat) (Y : Int32 × (Nat → Int32) × (Nat → Int32) × (Nat → Int32) × (Nat → Int32) × Int32 × Int32 × Int32 × Int32 × Int32 × Int32 × Int32 × Int32 × Int32 × Int32 × (Nat → Int32) × Int32 × Int32 × Int32) : Int32 × Int32 × Int32 × Int32 × Int32 × Int32 × Int32 × Int32 × Int32 × Int32 × Int32 × Int32 × Int32 × Int32 × (Nat → Int32) × (Nat → Int32) × (Nat → Int32) × (Nat → Int32) × (Nat → Int32) := (if Y.1 = 0 then ((0 : Int32), Y.2.2.2.2.2.2.2.2.2.2.2.2.2.1, Y.2.2.2.2.2.2.2.2.2.2.2.2.2.2.1, Y.2.2.2.2.2.1, Y.2.2.2.2.2.2.1, Y.2.2.2.2.2.2.2.1, Y.2.2.2.2.2.2.2.2.1, Y.2.2.2.2.2.2.2.2.2.1, Y.2.2.2.2.2.2.2.2.2.2.1, Y.2.2.2.2.2.2.2.2.2.2.2.1, Y.2.2.2.2.2.2.2.2.2.2.2.2.1, Y.2.2.2.2.2.2.2.2.2.2.2.2.2.2.2.2.1, Y.2.2.2.2.2.2.2.2.2.2.2.2.2.2.2.2.2.1, Y.2.2.2.2.2.2.2.2.2.2.2.2.2.2.2.2.2.2, Y.2.1, Y.2.2.1, Y.2.2.2.1, Y.2.2.2.2.2.2.2.2.2.2.2.2.2.2.2.1, Y.2.2.2.2.1) else fq_sumRead_d ft fw st n Y.2.2.2.2.2.2.2.2.2.2.2.2.2.1 Y.2.2.2.2.2.2.2.2.2.2.2.2.2.2.1 Y.2.2.2.2.2.1 Y.2.2.2.2.2.2.1 Y.2.2.2.2.2.2.2.1 Y.2.2.2.2.2.2.2.2.1 Y.2.2.2.2.2.2.2.2.2.1 Y.2.2.2.2.2.2.2.2.2.2.1 Y.2.2.2.2.2.2.2.2.2.2.2.1 Y.2.2.2.2.2.2.2.2.2.2.2.2.1 Y.2.2.2.2.2.2.2.2.2.2.2.2.2.2.2.2.1 Y.2.2.2.2.2.2.2.2.2.2.2.2.2.2.2.2.2.1 Y.2.2.2.2.2.2.2.2.2.2.2.2.2.2.2.2.2.2 Y.2.1 Y.2.2.1 Y.2.2.2.1 Y.2.2.2.2.2.2.2.2.2.2.2.2.2.2.2.1 Y.2.2.2.2.1)
def zTl (ft fw : Nat → Int32) (st : Int32) (n : Nat) (Y : Int32 × (Nat → Int32) × (Nat → Int32) × (Nat → Int32) × (Nat → Int32) × Int32 × Int32 × Int32 × Int32 × Int32 × Int32 × Int32 × Int32 × Int32 × Int32 × (Nat → Int32) × Int32 × Int32 × Int32) : Int32 × Int32 × Int32 × Int32 × Int32 × Int32 × Int32 × Int32 × Int32 × Int32 × Int32 × Int32 × Int32 × Int32 × (Nat → Int32) × (Nat → Int32) × (Nat → Int32) × (Nat → Int32) × (Nat → Int32) := (if Y.1 = 0 then ((0 : Int32), Y.2.2.2.2.2.1, Y.2.2.2.2.2.2.1, Y.2.2.2.2.2.2.2.1, Y.2.2.2.2.2.2.2.2.1, Y.2.2.2.2.2.2.2.2.2.1, Y.2.2.2.2.2.2.2.2.2.2.1, Y.2.2.2.2.2.2.2.2.2.2.2.1, Y.2.2.2.2.2.2.2.2.2.2.2.2.2.2.2.2.1, Y.2.2.2.2.2.2.2.2.2.2.2.2.1, Y.2.2.2.2.2.2.2.2.2.2.2.2.2.2.2.2.2.1, Y.2.2.2.2.2.2.2.2.2.2.2.2.2.1, Y.2.2.2.2.2.2.2.2.2.2.2.2.2.2.1, Y.2.2.2.2.2.2.2.2.2.2.2.2.2.2.2.2.2.2, Y.2.1, Y.2.2.1, Y.2.2.2.1, Y.2.2.2.2.2.2.2.2.2.2.2.2.2.2.2.1, Y.2.2.2.2.1) else fq_sumRead_d ft fw st n Y.2.2.2.2.2.1 Y.2.2.2.2.2.2.1 Y.2.2.2.2.2.2.2.1 Y.2.2.2.2.2.2.2.2.1 Y.2.2.2.2.2.2.2.2.2.1 Y.2.2.2.2.2.2.2.2.2.2.1 Y.2.2.2.2.2.2.2.2.2.2.2.1 Y.2.2.2.2.2.2.2.2.2.2.2.2.2.2.2.2.1 Y.2.2.2.2.2.2.2.2.2.2.2.2.1 Y.2.2.2.2.2.2.2.2.2.2.2.2.2.2.2.2.2.1 Y.2.2.2.2.2.2.2.2.2.2.2.2.2.1 Y.2.2.2.2.2.2.2.2.2.2.2.2.2.2.1 Y.2.2.2.2.2.2.2.2.2.2.2.2.2.2.2.2.2.2 Y.2.1 Y.2.2.1 Y.2.2.2.1 Y.2.2.2.2.2.2.2.2.2.2.2.2.2.2.2.1 Y.2.2.2.2.1)
theorem z_sr {ft fw fKn fPa fOt fWa fHd : Nat → Int32} {st fa fp nx kd wh ap kn wt he br ct wn mn : Int32} {n : Nat} : fq_sumRead_d ft fw st (n + 1) fa fp nx kd wh ap kn wt he br ct wn mn fKn fPa fOt fWa fHd =
    (if wn = 0 then (if (kd = 4 ∧ wh = 59) ∧ br ≤ 0 then (xL ((fq_bind fKn fPa fOt fWa fHd (1 : Int32) kn wt he)) (fun u_300 => ((1 : Int32), fa, fp, nx, kd, wh, ap, u_300.1, u_300.2.1, u_300.2.2.1, br, ct, wn, mn, u_300.2.2.2.1, u_300.2.2.2.2.1, u_300.2.2.2.2.2.1, fWa, u_300.2.2.2.2.2.2))) else zTs ft fw st n (fq_signs ft fw fKn fPa fOt fWa fHd fa fp st nx kd wh ap kn wt he br ct wn mn)) else zTl ft fw st n (fq_leafRead ft fw fKn fPa fOt fWa fHd fa fp st nx kd wh ap kn wt he br ct wn mn)) := by
  rw [fq_sumRead_d, xL_eq, zisSign]
  by_cases c : kd = 4 ∧ wh = 59
  · rw [if_pos c, if_neg (by decide)]
    by_cases d : wn = 0
    · rw [if_pos d, if_pos d]
      by_cases e : br ≤ 0
      · rw [if_pos e, if_pos ⟨c, e⟩]
      · rw [if_neg e, if_neg (fun z => e z.2), xL_eq]; rfl
    · rw [if_neg d, if_neg d, xL_eq]; rfl
  · rw [if_neg c, if_pos rfl]
    by_cases d : wn = 0
    · rw [if_pos d, if_pos d, if_neg (fun z => c z.1), xL_eq]; rfl
    · rw [if_neg d, if_neg d, xL_eq]; rfl
/-- the reference's signs where the bracket closes, and where not -/
theorem z_sg1 {ft fw fKn fPa fOt fWa fHd : Nat → Int32} {st fa fp nx kd wh ap kn wt he br ct wn mn : Int32} (c : kd = 4 ∧ wh = 41) (d : ¬ br ≤ 0) : (fq_signs ft fw fKn fPa fOt fWa fHd fa fp st nx kd wh ap kn wt he br ct wn mn) = (xL ((fq_bind fKn fPa fOt fWa fHd (1 : Int32) kn wt he)) (fun u_225 => (xL ((fq_token ft fw st nx wh)) (fun u_243 => ((1 : Int32), u_225.2.2.2.1, u_225.2.2.2.2.1, u_225.2.2.2.2.2.1, u_225.2.2.2.2.2.2, u_243.1, u_243.2.1, u_243.2.2.1, u_243.2.2.2, u_225.1, (u_225.2.1 - 1), u_225.2.2.1, (br - 1), fa, fp, fWa, ct, wn, mn))))) := by
  rw [fq_signs, xL_eq, zisSign, if_pos c, if_neg (by decide), if_neg d]
theorem z_sg2 {ft fw fKn fPa fOt fWa fHd : Nat → Int32} {st fa fp nx kd wh ap kn wt he br ct wn mn : Int32} (c : ¬ ((kd = 4 ∧ wh = 41) ∧ ¬ br ≤ 0)) : (fq_signs ft fw fKn fPa fOt fWa fHd fa fp st nx kd wh ap kn wt he br ct wn mn) = (if fq_signs_k kd wh = 0 then ((0 : Int32), fKn, fPa, fOt, fHd, nx, kd, wh, ap, kn, wt, he, br, (1 : Int32), ap, fWa, ct, wn, mn) else (xL ((fq_rank (fq_signs_k kd wh))) (fun r_53 => (if r_53 = 4 then (xL ((fq_bind fKn fPa fOt fWa fHd (5 : Int32) kn wt he)) (fun u_75 => fq_signs_b ft fw fWa fa fp st nx kd wh ap br ct wn mn (fq_signs_k kd wh) u_75.1 u_75.2.1 u_75.2.2.1 u_75.2.2.2.1 u_75.2.2.2.2.1 u_75.2.2.2.2.2.1 u_75.2.2.2.2.2.2)) else (xL ((fq_rank (fq_signs_k kd wh))) (fun r_55 => (xL ((fq_bind fKn fPa fOt fWa fHd r_55 kn wt he)) (fun u_57 => fq_signs_b ft fw fWa fa fp st nx kd wh ap br ct wn mn (fq_signs_k kd wh) u_57.1 u_57.2.1 u_57.2.2.1 u_57.2.2.2.1 u_57.2.2.2.2.1 u_57.2.2.2.2.2.1 u_57.2.2.2.2.2.2)))))))) := by
  rw [fq_signs, xL_eq, zisSign]
  by_cases e : kd = 4 ∧ wh = 41
  · have f : br ≤ 0 := Decidable.not_not.mp (fun z => c ⟨e, z⟩)
    rw [if_pos e, if_neg (by decide), if_pos f]
    rfl
  · rw [if_neg e, if_pos rfl]
    rfl
/-- the class's turn -/
theorem z_fd {fBy fCo fTo fRe fHe fHr fRc : Nat → Int32} {fNm : Nat → Nat → Int32} {st n j lxa lxt lxp lxn lxl pfa pfp phs pop rsz rkn : Int32} {m : Nat} (hj : ¬ 900 < j) : fp_readFeast_d st fBy fCo fTo fRe (m + 1) n 0 j lxa lxt lxp lxn lxl pfa pfp phs pop rsz rkn fNm fHe fHr fRc =
    (if lxt = 27 ∧ ¬ pop ≤ 0 then (xL ((fp_close phs pop st lxa lxn lxl fBy fCo fHe fHr rsz fRc)) (fun u_129 => fp_readFeast_d st fBy fCo fTo fRe m n 0 (j + 1) u_129.2.2.2.2.1 u_129.2.2.2.2.2.1 u_129.2.2.2.2.2.2.1 u_129.2.2.2.2.2.2.2.1 u_129.2.2.2.2.2.2.2.2 pfa pfp u_129.1 u_129.2.1 u_129.2.2.1 rkn fNm fHe fHr u_129.2.2.2.1)) else
     (if lxt = 21 ∨ fr_rankOf lxt ≤ 0 then fp_readFeast_t fTo fRe n 0 j lxa lxt lxp lxn lxl pfa pfp phs pop rsz rkn fNm fHe fHr fRc else (xL ((fp_readSign pfa pfp phs st lxa lxt lxp lxn lxl fBy fCo fHe fHr rsz rkn fRc)) (fun X_56 => (if X_56.1 = 1 then ((1 : Int32), X_56.2.1, X_56.2.2.1, X_56.2.2.2.1, pop, X_56.2.2.2.2.1, X_56.2.2.2.2.2.1, X_56.2.2.2.2.2.2.1, X_56.2.2.2.2.2.2.2.1, X_56.2.2.2.2.2.2.2.2.1, X_56.2.2.2.2.2.2.2.2.2.1, X_56.2.2.2.2.2.2.2.2.2.2.1, fTo, fNm, X_56.2.2.2.2.2.2.2.2.2.2.2.1, X_56.2.2.2.2.2.2.2.2.2.2.2.2.1, X_56.2.2.2.2.2.2.2.2.2.2.2.2.2, fRe) else fp_readFeast_d st fBy fCo fTo fRe m n (1 : Int32) (j + 1) X_56.2.2.2.2.1 X_56.2.2.2.2.2.1 X_56.2.2.2.2.2.2.1 X_56.2.2.2.2.2.2.2.1 X_56.2.2.2.2.2.2.2.2.1 X_56.2.1 X_56.2.2.1 X_56.2.2.2.1 pop X_56.2.2.2.2.2.2.2.2.2.2.2.1 X_56.2.2.2.2.2.2.2.2.2.2.2.2.1 fNm X_56.2.2.2.2.2.2.2.2.2.1 X_56.2.2.2.2.2.2.2.2.2.2.1 X_56.2.2.2.2.2.2.2.2.2.2.2.2.2))))) := by
  rw [fp_readFeast_d, if_neg hj, if_pos rfl]
  by_cases c : lxt = 27
  · rw [if_pos c]
    by_cases d : pop ≤ 0
    · rw [if_pos d, if_neg (show ¬ (lxt = 27 ∧ ¬ pop ≤ 0) from fun z => z.2 d)]
      by_cases e : lxt = 21
      · rw [if_pos e, if_pos (Or.inl e)]
      · rw [if_neg e, xL_eq]
        by_cases f : fr_rankOf lxt ≤ 0
        · rw [if_pos f, if_pos (Or.inr f)]
        · rw [if_neg f, if_neg (fun z => z.elim e f)]
    · rw [if_neg d, if_pos (show lxt = 27 ∧ ¬ pop ≤ 0 from ⟨c, d⟩)]
  · rw [if_neg c, if_neg (show ¬ (lxt = 27 ∧ ¬ pop ≤ 0) from fun z => c z.1)]
    by_cases e : lxt = 21
    · rw [if_pos e, if_pos (Or.inl e)]
    · rw [if_neg e, xL_eq]
      by_cases f : fr_rankOf lxt ≤ 0
      · rw [if_pos f, if_pos (Or.inr f)]
      · rw [if_neg f, if_neg (fun z => z.elim e f)]
theorem z_fl {fBy ft fw fCo fTo fRe : Nat → Int32} {fNm : Nat → Nat → Int32} {st n : Int32} (g : zG fBy ft fw fCo st) (hn : fTo 1 = n) (n0 : ¬ n < 0) (n4 : n < 4) :
    ∀ (m l : Nat) (j lxa lxt lxp lxn lxl pfa pfp phs pop rsz rkn nx kd wh ap fa fp kn wt he br ct wn mn : Int32) (fHe fHr fRc fWa fKn fPa fOt fHd : Nat → Int32), j.toInt + m = 901 → ¬ j < 0 → zT st lxa lxt lxp lxn lxl nx kd wh ap → pfa = fa → pfp = fp → zH phs pop rsz rkn fHe fHr fRc kn wt br ct fWa fKn fPa → (wn = 0 ∨ wn = 1) → (wn = 1 → zMy mn wt fWa) →
    ((kd = 0 ∧ 1 ≤ m ∧ 1 ≤ l) ∨ (st.toInt + 2 ≤ nx.toInt + m ∧ st.toInt + 2 ≤ nx.toInt + l)) →
    zRz st n fTo fRe fNm (fp_readFeast_d st fBy fCo fTo fRe m n wn j lxa lxt lxp lxn lxl pfa pfp phs pop rsz rkn fNm fHe fHr fRc) (fq_sumRead_d ft fw st l fa fp nx kd wh ap kn wt he br ct wn mn fKn fPa fOt fWa fHd) := by
  intro m
  induction m with
  | zero =>
    intro l j lxa lxt lxp lxn lxl pfa pfp phs pop rsz rkn nx kd wh ap fa fp kn wt he br ct wn mn fHe fHr fRc fWa fKn fPa fOt fHd hj j0 h q1 q2 hH hw hM hF
    have h9 := xi_le h.2.2.2.1
    exfalso
    omega
  | succ m ih =>
    intro l j lxa lxt lxp lxn lxl pfa pfp phs pop rsz rkn nx kd wh ap fa fp kn wt he br ct wn mn fHe fHr fRc fWa fKn fPa fOt fHd hj j0 h q1 q2 hH hw hM hF
    have h9 := xi_le h.2.2.2.1
    obtain ⟨l, rfl⟩ : ∃ l', l = l' + 1 := ⟨l - 1, by omega⟩
    have j9 : ¬ 900 < j := fun z => by
      have := Int32.lt_iff_toInt_lt.mp z
      have e : (900 : Int32).toInt = 900 := rfl
      omega
    have j1 : (j + 1).toInt = j.toInt + 1 := by
      have b0 := xi_nn j0
      have e1 : (1 : Int32).toInt = 1 := rfl
      rw [Int32.toInt_add, e1]; exact Int.bmod_eq_of_le (by omega) (by omega)
    -- fuel behind a token
    have fu : ¬ kd = 0 → ∀ nx2 kd2 wh2 ap2 a b c d e : Int32, zT st a b c d e nx2 kd2 wh2 ap2 → ¬ ap2 < nx → ((kd2 = 0 ∧ 1 ≤ m ∧ 1 ≤ l) ∨ (st.toInt + 2 ≤ nx2.toInt + m ∧ st.toInt + 2 ≤ nx2.toInt + l)) := by
      intro k0 nx2 kd2 wh2 ap2 a b c d e t2 m2
      have f2 := hF.resolve_left (fun z => k0 z.1)
      rcases t2.2.2.1.2.2 with z | z
      · exact Or.inl ⟨z, by omega, by omega⟩
      · have y1 := Int32.lt_iff_toInt_lt.mp z
        have y2 : nx.toInt ≤ ap2.toInt := Int32.le_iff_toInt_le.mp (Int32.not_lt.mp m2)
        exact Or.inr ⟨by omega, by omega⟩
    rw [z_sr]
    rcases hw with hw | hw
    · subst hw
      rw [if_pos rfl, z_fd j9]
      by_cases c : (kd = 4 ∧ wh = 41) ∧ ¬ br ≤ 0
      · have k0 : ¬ kd = 0 := by rw [c.1.1]; decide
        have el : lxt = 27 := by rw [zq27 h.2.2.2.2.1 h.2.2.2.2.2.1]; exact c.1
        rw [if_pos (show lxt = 27 ∧ ¬ pop ≤ 0 from ⟨el, by rw [hH.2.1]; exact c.2⟩), if_neg (show ¬ ((kd = 4 ∧ wh = 59) ∧ br ≤ 0) from fun z => c.2 z.2)]
        apply zLl; intro U hU
        rw [zTs, z_sg1 c.1 c.2, xL_eq, xL_eq]
        dsimp only
        rw [zn1]
        obtain ⟨t2, H2⟩ := z_close (he := he) (fOt := fOt) (fHd := fHd) g h hH c.2 U hU _ rfl _ rfl
        exact ih l (j + 1) _ _ _ _ _ _ _ _ _ _ _ _ _ _ _ _ _ _ _ _ _ _ _ _ _ _ _ _ _ _ _ _ (by omega) (by lia) t2 q1 q2 H2 (Or.inl rfl) (fun z => absurd z (by decide)) (fu k0 _ _ _ _ _ _ _ _ _ t2 (g.adv h _ rfl))
      · have c2 : ¬ (lxt = 27 ∧ ¬ pop ≤ 0) := fun z => c ⟨cast (zq27 h.2.2.2.2.1 h.2.2.2.2.2.1) z.1, by rw [← hH.2.1]; exact z.2⟩
        rw [if_neg c2]
        rcases z_sk h.2.2.2.2.1 h.2.2.2.2.2.1 with ⟨s1, s2⟩ | ⟨s1, s2, s3, s4, s5, s6, s7, s8, s9, s10⟩
        · rw [if_pos (s2.elim Or.inl (fun z => Or.inr (by rw [z]; decide)))]
          by_cases d : br ≤ 0
          · by_cases e : kd = 4 ∧ wh = 59
            · rw [if_pos ⟨e, d⟩]
              exact z_ft h q1 q2 hH hn n0 n4 d
            · rw [if_neg (fun z => e z.1), zTs, z_sg2 c, if_pos s1, if_pos rfl]
              obtain ⟨a1, a2, a3, a4, a5⟩ := z_ft1 (fTo := fTo) (fRe := fRe) (fHe := fHe) (fHr := fHr) (fRc := fRc) (fNm := fNm) (n := n) (j := j) (lxa := lxa) (lxt := lxt) (lxp := lxp) (lxn := lxn) (lxl := lxl) (pfa := pfa) (pfp := pfp) (phs := phs) (pop := pop) (rsz := rsz) (rkn := rkn) (by rw [hH.2.1]; exact d)
              rw [a5]
              exact Or.inr (Or.inl ⟨rfl, rfl, fun z => e (cast (zq25 h.2.2.2.2.1 h.2.2.2.2.2.1) z), rfl, h.2.1.symm⟩)
          · rw [if_neg (fun z => d z.2), zTs, z_sg2 c, if_pos s1, if_pos rfl, z_ft0 (by rw [hH.2.1]; exact d)]
            exact Or.inl ⟨rfl, rfl, rfl, h.2.1⟩
        · have k0 : ¬ kd = 0 := fun z => by
            have e : lxt = 40 := by rw [zq40 h.2.2.2.2.1 h.2.2.2.2.2.1]; exact z
            rw [e] at s9
            exact s9 (by decide)
          rw [if_neg (show ¬ (lxt = 21 ∨ fr_rankOf lxt ≤ 0) from fun z => z.elim s5 (fun y => s9 (by lia))), if_neg (show ¬ ((kd = 4 ∧ wh = 59) ∧ br ≤ 0) from fun z => s7 (cast (zq25 h.2.2.2.2.1 h.2.2.2.2.2.1).symm z.1)), zTs, z_sg2 c, if_neg s1]
          generalize hY : (xL ((fq_rank (fq_signs_k kd wh))) (fun r_53 => (if r_53 = 4 then (xL ((fq_bind fKn fPa fOt fWa fHd (5 : Int32) kn wt he)) (fun u_75 => fq_signs_b ft fw fWa fa fp st nx kd wh ap br ct 0 mn (fq_signs_k kd wh) u_75.1 u_75.2.1 u_75.2.2.1 u_75.2.2.2.1 u_75.2.2.2.2.1 u_75.2.2.2.2.2.1 u_75.2.2.2.2.2.2)) else (xL ((fq_rank (fq_signs_k kd wh))) (fun r_55 => (xL ((fq_bind fKn fPa fOt fWa fHd r_55 kn wt he)) (fun u_57 => fq_signs_b ft fw fWa fa fp st nx kd wh ap br ct 0 mn (fq_signs_k kd wh) u_57.1 u_57.2.1 u_57.2.2.1 u_57.2.2.2.1 u_57.2.2.2.2.1 u_57.2.2.2.2.2.1 u_57.2.2.2.2.2.2))))))) = Y
          apply zLl; intro X hX
          have hs := z_sign (wn := 0) (mn := mn) (he := he) (fOt := fOt) (fHd := fHd) g h q1 q2 hH ⟨s2, s3⟩ s4 s8 s9 s10 X hX
          rw [hY] at hs
          obtain ⟨p1, p2, p3⟩ := hs
          rcases p3 with ⟨r1, r2⟩ | ⟨r1, r2, t2, m2, u2, H2, M2⟩
          · rw [if_pos r1, if_pos r2]; exact Or.inl ⟨rfl, rfl, p1, p2⟩
          · rw [if_neg (z10 r1), if_neg (z01 r2), u2]
            exact ih l (j + 1) _ _ _ _ _ _ _ _ _ _ _ _ _ _ _ _ _ _ _ _ _ _ _ _ _ _ _ _ _ _ _ _ (by omega) (by lia) t2 p1 p2 H2 (Or.inr rfl) (fun _ => M2) (fu k0 _ _ _ _ _ _ _ _ _ t2 m2)
    · subst hw
      rw [if_neg (by decide), fp_readFeast_d, if_neg j9, if_neg (by decide), zTl]
      generalize hY : (fq_leafRead ft fw fKn fPa fOt fWa fHd fa fp st nx kd wh ap kn wt he br ct 1 mn) = Y
      apply zLl; intro X hX
      obtain ⟨p1, p2, p3⟩ := z_part (he := he) (fOt := fOt) (fHd := fHd) g h q1 q2 hH rfl (hM rfl) X hX Y hY.symm
      rcases p3 with ⟨r1, r2⟩ | ⟨r1, r2, t2, m2, u2, u3, H2, M2⟩
      · rw [if_pos r1, if_pos r2]; exact Or.inl ⟨rfl, rfl, p1, p2⟩
      · rw [if_neg (z10 r1), if_neg (z01 r2), ← u2]
        have k0 : ¬ kd = 0 := fun z => by
          have em : fq_leafRead ft fw fKn fPa fOt fWa fHd fa fp st nx kd wh ap kn wt he br ct 1 mn = (0, fKn, fPa, fOt, fHd, 1, ap, nx, kd, wh, ap, kn, he, ct, 1, fWa, wt, br, mn) := by
            rw [z]; rfl
          rw [em] at hY
          rw [← hY] at r2
          exact absurd (show (0 : Int32) = 1 from r2) (by decide)
        exact ih l (j + 1) _ _ _ _ _ _ _ _ _ _ _ _ _ _ _ _ _ _ _ _ _ _ _ _ _ _ _ _ _ _ _ _ (by omega) (by lia) t2 p1 p2 H2 u3 M2 (fu k0 _ _ _ _ _ _ _ _ _ t2 m2)
def zRx (st n k0 : Int32) (fTo fRe fst lst : Nat → Int32) (fNm : Nat → Nat → Int32) (X : Int32 × Int32 × Int32 × Int32 × Int32 × Int32 × Int32 × Int32 × Int32 × Int32 × (Nat → Int32) × (Nat → Int32) × (Nat → Int32) × (Nat → Nat → Int32) × Int32 × Int32 × (Nat → Int32) × (Nat → Int32)) (Y : Int32 × (Nat → Int32) × (Nat → Int32) × (Nat → Int32) × Int32 × Int32 × Int32 × Int32 × Int32 × Int32 × Int32 × Int32 × Int32 × Int32 × Int32 × Int32 × Int32 × Int32 × (Nat → Int32) × (Nat → Int32) × (Nat → Int32) × (Nat → Int32) × (Nat → Int32)) : Prop :=
  (X.1 = 1 ∧ Y.1 = 0 ∧ X.2.1 = Y.2.2.2.2.1 ∧ X.2.2.1 = Y.2.2.2.2.2.1) ∨
  (X.1 = 0 ∧ Y.1 = 0 ∧ ¬ X.2.2.2.2.2.2.1 = 25 ∧ Y.2.2.2.2.1 = 1 ∧ Y.2.2.2.2.2.1 = X.2.2.2.2.2.2.2.1) ∨
  (X.1 = 0 ∧ Y.1 = 1 ∧ X.2.1 = Y.2.2.2.2.1 ∧ X.2.2.1 = Y.2.2.2.2.2.1 ∧ zT st X.2.2.2.2.2.1 X.2.2.2.2.2.2.1 X.2.2.2.2.2.2.2.1 X.2.2.2.2.2.2.2.2.1 X.2.2.2.2.2.2.2.2.2.1 Y.2.2.2.2.2.2.1 Y.2.2.2.2.2.2.2.1 Y.2.2.2.2.2.2.2.2.1 Y.2.2.2.2.2.2.2.2.2.1 ∧ X.2.2.2.2.2.2.2.2.2.2.2.2.1 = upd fTo 1 (n + 1) ∧ Y.2.2.2.2.2.2.2.2.2.2.1 = n + 1 ∧ (∀ j, ¬ j = 1 → X.2.2.2.2.2.2.2.2.2.2.2.2.2.1 j = fNm j) ∧ zNA (X.2.2.2.2.2.2.2.2.2.2.2.2.2.1 1) Y.2.2.2.1 4 (n + 1) ∧ X.2.2.2.2.2.2.2.2.2.2.2.2.2.2.2.2.2 = upd fRe n.toNatClampNeg X.2.2.2.2.2.2.2.2.2.2.2.2.2.2.1 ∧ X.2.2.2.2.2.2.2.2.2.2.2.2.2.2.1 = Y.2.2.2.2.2.2.2.2.2.2.2.1 ∧ X.2.2.2.2.2.2.2.2.2.2.2.2.2.2.2.1 = Y.2.2.2.2.2.2.2.2.2.2.2.2.2.2.2.1 ∧ ¬ Y.2.2.2.2.2.2.2.2.2.2.2.1 < 0 ∧ Y.2.2.2.2.2.2.2.2.2.2.2.1 ≤ 64 ∧ Y.2.2.2.2.2.2.2.2.2.2.2.1 = Y.2.2.2.2.2.2.2.2.2.2.2.2.2.2.2.1 ∧ zKn Y.2.2.2.2.2.2.2.2.2.2.2.1 X.2.2.2.2.2.2.2.2.2.2.2.2.2.2.2.2.1 Y.2.2.2.2.2.2.2.2.2.2.2.2.2.2.2.2.2.2.1 Y.2.2.2.2.2.2.2.2.2.2.2.2.2.2.2.2.2.2.2.1 ∧ Y.2.1 = upd fst ((4 + n).toNatClampNeg) k0 ∧ Y.2.2.1 = upd lst ((4 + n).toNatClampNeg) Y.2.2.2.2.2.2.2.2.2.2.2.1)
theorem z_feast {fBy ft fw fCo fTo : Nat → Int32} {fNm : Nat → Nat → Int32} {st lxa lxt lxp lxn lxl nx kd wh ap pfa pfp fa fp : Int32} (g : zG fBy ft fw fCo st) (h : zT st lxa lxt lxp lxn lxl nx kd wh ap) (q1 : pfa = fa) (q2 : pfp = fp) {fHe fHr fRc fRe fna fst lst fWa fKn fPa fOt fHd : Nat → Int32} {n phs pop rsz rkn kn wt he br ct wn mn : Int32} (hn : fTo 1 = n) (n0 : ¬ n < 0) (n9 : n ≤ 4) (hN : zNA (fNm 1) fna 4 n) (k1 : rsz = kn) (k2 : rkn = ct) (k3 : kn = ct) (k0 : ¬ kn < 0) (k9 : kn ≤ 64) (hK : zKn kn fRc fKn fPa) :
    ∀ X, X = fp_readFeast pfa pfp phs pop st lxa lxt lxp lxn lxl fBy fCo fHe fHr fTo fNm rsz rkn fRc fRe → ∀ Y, Y = fq_feastLine ft fw fna fst lst fKn fPa fOt fWa fHd fa fp st nx kd wh ap n kn wt he br ct wn mn → zRx st n kn fTo fRe fst lst fNm X Y := by
  intro X hX Y hY
  rw [hX, hY, fp_readFeast, fq_feastLine]
  by_cases c4 : n = 4
  · rw [if_pos c4, z_full1 (hn.trans c4), xL_eq, xL_eq, if_pos rfl]
    exact Or.inl ⟨rfl, rfl, rfl, h.2.1⟩
  rw [if_neg c4]
  apply zLl; intro X1 hX1; apply zLr; intro V1 hV1; apply zLr; intro Y1 hY1
  obtain ⟨q1, q2, q3⟩ := z_begin1 g h q1 q2 hn n0 (by lia) hN X1 hX1 V1 hV1 Y1 hY1
  rcases q3 with ⟨r1, r2⟩ | ⟨r1, r2, r3, ⟨x, r4, r5⟩, h1⟩
  · rw [if_pos r1, if_pos r2]; exact Or.inl ⟨rfl, rfl, q1, q2⟩
  rw [if_neg (z10 r1), if_neg (z01 r2), r3]
  have w1 : ∀ j, ¬ j = 1 → X1.2.2.2.2.2.2.2.2.2 j = fNm j := fun j hj => by rw [r4]; exact va_up_ne _ _ hj
  have w2 : zNA (X1.2.2.2.2.2.2.2.2.2 1) Y1.2.1 4 (n + 1) := by
    rw [r4, r5, va_up_self]
    exact zNA_s (zia (by decide) (by decide) n0 (by lia)) n0 (by lia) hN
  have hH : zH 0 0 rsz rkn fHe fHr fRc kn 0 0 ct fWa fKn fPa := ⟨rfl, rfl, k1, k2, ⟨by decide, by decide, by decide, by decide, k0, k9, by lia, by lia, by lia⟩, rfl, fun i hi => absurd hi (Nat.not_lt_zero i), hK⟩
  have hmy : zMy 1 0 fWa := by rw [zMy, if_pos (show (0 : Int32) ≤ 0 by decide)]; exact propext ⟨fun z => absurd z (by decide), fun z => absurd (show (0 : Int32) ≤ 3 by decide) z⟩
  have s9 := xi_le g.2.2.2
  have e9 : (900 : Int32).toInt = 900 := rfl
  have nx0 := xi_nn h1.2.2.1.1
  have hfl : ((Y1.2.2.2.1 = 0 ∧ 1 ≤ 901 ∧ 1 ≤ 1300) ∨ (st.toInt + 2 ≤ Y1.2.2.1.toInt + (901 : Nat) ∧ st.toInt + 2 ≤ Y1.2.2.1.toInt + (1300 : Nat))) := by
    rcases h1.2.2.1.2.2 with z | z
    · exact Or.inl ⟨z, by decide, by decide⟩
    · have y1 := Int32.lt_iff_toInt_lt.mp z
      have y2 := xi_nn h1.2.2.1.2.1
      exact Or.inr ⟨by omega, by omega⟩
  have hz := z_fl (fRe := fRe) (fNm := X1.2.2.2.2.2.2.2.2.2) g hn n0 (by lia) 901 1300 0 _ _ _ _ _ _ _ 0 0 rsz rkn _ _ _ _ _ _ kn 0 0 0 ct 1 1 fHe fHr fRc fWa fKn fPa fOt fHd (by decide) (by decide) h1 q1 q2 hH (Or.inr rfl) (fun _ => hmy) hfl
  rw [fq_sumRead]
  apply zLr; intro S hS
  rw [← hS] at hz
  rcases hz with ⟨a1, a2, a3, a4⟩ | ⟨a1, a2, a3, a4, a5⟩ | ⟨a1, a2, a3, a4, a5, a6, a7, a8, a9, b1, b2, b3, b4, b5, b6⟩
  · rw [if_pos a2]; exact Or.inl ⟨a1, rfl, a3, a4⟩
  · rw [if_pos a2]; exact Or.inr (Or.inl ⟨a1, rfl, a3, a4, a5⟩)
  · rw [if_neg (z01 a2)]
    exact Or.inr (Or.inr ⟨a1, rfl, a3, a4, a5, a6, rfl, fun j hj => by rw [a7]; exact w1 j hj, by rw [a7]; exact w2, a8, a9, b1, b2, b3, b5, b6, rfl, rfl⟩)
