def zCn (fTo : Nat → Int32) (lr fr pr dr nr : Int32) : Prop := fTo 0 = lr ∧ fTo 1 = fr ∧ fTo 2 = pr ∧ fTo 3 = dr ∧ fTo 4 = nr ∧ (¬ lr < 0 ∧ lr ≤ 4) ∧ (¬ fr < 0 ∧ fr ≤ 4) ∧ (¬ pr < 0 ∧ pr ≤ 6) ∧ (¬ dr < 0 ∧ dr ≤ 4) ∧ (¬ nr < 0 ∧ nr ≤ 6)
def zNs (fNm : Nat → Nat → Int32) (lna fna pna dna nna : Nat → Int32) (lr fr pr dr nr : Int32) : Prop := zNA (fNm 0) lna 4 lr ∧ zNA (fNm 1) fna 4 fr ∧ zNA (fNm 2) pna 6 pr ∧ zNA (fNm 3) dna 4 dr ∧ zNA (fNm 4) nna 6 nr
def zSy (sky : Nat → Int32) (wd wf mp mb mo sp sb : Int32) : Prop := (sky 7 = wd ∧ sky 8 = wf ∧ sky 9 = mp ∧ sky 10 = mb ∧ sky 11 = mo ∧ sky 12 = sp ∧ sky 13 = sb) ∧ (¬ wd < 2 ∧ wd ≤ 30 ∧ ¬ wf < 0 ∧ wf < wd) ∧ (¬ mp < 1 ∧ mp ≤ 9999 ∧ ¬ mb < 1 ∧ mb ≤ 99 ∧ 8 * mb ≤ mp ∧ ¬ mo < 0 ∧ mo < mp) ∧ (¬ sp < 1 ∧ sp ≤ 9999 ∧ ¬ sb < 1 ∧ sb ≤ 99 ∧ 8 * sb ≤ sp)
def zEnd (fRe fst lst : Nat → Int32) (fr kr : Int32) : Prop := (∀ k : Nat, k < fr.toNatClampNeg → fRe k = lst (4 + k) ∧ fst (4 + k) = (if k = 0 then 0 else lst (3 + k))) ∧ kr = (if fr.toNatClampNeg = 0 then 0 else lst (3 + fr.toNatClampNeg))
def zBk (psk : Int32) (fTo : Nat → Int32) (fNm : Nat → Nat → Int32) (FI : Nat → Int32) (GR : Nat → Int32) (FR : Nat → Int32) (wd : Int32) (wf : Int32) (mp : Int32) (mb : Int32) (mo : Int32) (sp : Int32) (sb : Int32) (rsz : Int32) (rkn : Int32) (fRc : Nat → Int32) (fRe : Nat → Int32) (fBo : Nat → Int64) (fDi : Nat → Int64) (fDa : Nat → Int64) (fDk : Nat → Int32) (fDt : Nat → Int32) (fDp : Nat → Int32) (ns : Int32) (fNs : Nat → Int32) (fNf : Nat → Int32) (fNz : Nat → Int32) (sky : Nat → Int32) (lna : Nat → Int32) (lh : Nat → Int32) (fna : Nat → Int32) (fst : Nat → Int32) (lst : Nat → Int32) (pna : Nat → Int32) (bo : Nat → Int64) (di : Nat → Int64) (dna : Nat → Int32) (don : Nat → Int64) (dh : Nat → Int32) (nna : Nat → Int32) (nh : Nat → Int32) (knt : Nat → Int32) (prt : Nat → Int32) (lr : Int32) (fr : Int32) (pr : Int32) (dr : Int32) (nr : Int32) (kr : Int32) (tw : Int32) (tm : Int32) (ts : Int32) (ct : Int32) : Prop :=
  zCn fTo lr fr pr dr nr ∧ zNs fNm lna fna pna dna nna lr fr pr dr nr ∧ zLd FI GR FR lh lr ∧ zSy sky wd wf mp mb mo sp sb ∧ zSk psk tw tm ts ∧ (zAL fBo bo 6 pr ∧ zAD fDi di 6 pr) ∧ (zAL fDa don 4 dr ∧ zDd fDk fDt fDp dh fr dr) ∧ (ns = nr ∧ ∀ k : Nat, k < nr.toNatClampNeg → zNb fNs fNf fNz nh k) ∧ (rsz = kr ∧ rkn = ct ∧ kr = ct ∧ ¬ kr < 0 ∧ kr ≤ 64 ∧ zKn kr fRc knt prt) ∧ zEnd fRe fst lst fr kr
theorem zDd_m {fDk fDt fDp dh : Nat → Int32} {nf nf2 n : Int32} (h : zDd fDk fDt fDp dh nf n) (e : nf ≤ nf2) : zDd fDk fDt fDp dh nf2 n := fun k hk => by
  obtain ⟨h1, h2, h3, h4, h5, h6, h7, h8, h9⟩ := h k hk
  exact ⟨h1, h2, h3, h4, h5, h6, fun z => by have := h7 z; lia, h8, h9⟩
theorem zEnd_s {fRe fst lst : Nat → Int32} {fr kr k2 : Int32} (f0 : ¬ fr < 0) (f9 : fr < 4) (h : zEnd fRe fst lst fr kr) : zEnd (upd fRe fr.toNatClampNeg k2) (upd fst ((4 + fr).toNatClampNeg) kr) (upd lst ((4 + fr).toNatClampNeg) k2) (fr + 1) k2 := by
  rw [zEnd, xi_natS f0 (by lia), zia (by decide) (by decide) f0 (by lia), show (4 : Int32).toNatClampNeg = 4 from rfl]
  unfold upd
  refine ⟨fun k hk => ?_, ?_⟩
  · by_cases c : k = fr.toNatClampNeg
    · rw [if_pos c, if_pos (by omega), if_pos (by omega), h.2, ← c]
      refine ⟨rfl, ?_⟩
      by_cases d : k = 0
      · rw [if_pos d, if_pos d]
      · rw [if_neg d, if_neg d, if_neg (by omega)]
    · rw [if_neg c, if_neg (by omega), if_neg (by omega)]
      refine ⟨(h.1 k (by omega)).1, ?_⟩
      rw [(h.1 k (by omega)).2]
      by_cases d : k = 0
      · rw [if_pos d, if_pos d]
      · rw [if_neg d, if_neg d, if_neg (by omega)]
  · rw [if_neg (by omega), if_pos (by omega)]
def zRL (st S : Int32) (X : Int32 × Int32 × Int32 × Int32 × Int32 × Int32 × Int32 × Int32 × Int32 × Int32 × Int32 × (Nat → Int32) × (Nat → Int32) × (Nat → Int32) × (Nat → Nat → Int32) × (Nat → Int32) × (Nat → Int32) × (Nat → Int32) × Int32 × Int32 × Int32 × Int32 × Int32 × Int32 × Int32 × Int32 × Int32 × (Nat → Int32) × (Nat → Int32) × (Nat → Int64) × (Nat → Int64) × (Nat → Int64) × (Nat → Int32) × (Nat → Int32) × (Nat → Int32) × Int32 × (Nat → Int32) × (Nat → Int32) × (Nat → Int32)) (Y : Int32 × Int32 × Int32 × (Nat → Int32) × (Nat → Int32) × (Nat → Int32) × (Nat → Int32) × (Nat → Int32) × (Nat → Int32) × (Nat → Int32) × (Nat → Int64) × (Nat → Int64) × (Nat → Int32) × (Nat → Int64) × (Nat → Int32) × (Nat → Int32) × (Nat → Int32) × (Nat → Int32) × (Nat → Int32) × (Nat → Int32) × (Nat → Int32) × (Nat → Int32) × Int32 × Int32 × Int32 × Int32 × Int32 × Int32 × Int32 × Int32 × Int32 × Int32 × Int32 × Int32 × Int32 × Int32 × Int64 × Int32 × Int32 × Int32 × Int32 × Int32 × Int32) : Prop :=
  X.2.1 = Y.2.1 ∧ X.2.2.1 = Y.2.2.1 ∧ ((X.1 = 1 ∧ Y.1 = 0) ∨ (X.1 = 0 ∧ Y.1 = 1 ∧ zT st X.2.2.2.2.2.2.1 X.2.2.2.2.2.2.2.1 X.2.2.2.2.2.2.2.2.1 X.2.2.2.2.2.2.2.2.2.1 X.2.2.2.2.2.2.2.2.2.2.1 Y.2.2.2.2.2.2.2.2.2.2.2.2.2.2.2.2.2.2.2.2.2.2.1 Y.2.2.2.2.2.2.2.2.2.2.2.2.2.2.2.2.2.2.2.2.2.2.2.1 Y.2.2.2.2.2.2.2.2.2.2.2.2.2.2.2.2.2.2.2.2.2.2.2.2.1 Y.2.2.2.2.2.2.2.2.2.2.2.2.2.2.2.2.2.2.2.2.2.2.2.2.2.1 ∧ zBk X.2.2.2.1 X.2.2.2.2.2.2.2.2.2.2.2.2.2.1 X.2.2.2.2.2.2.2.2.2.2.2.2.2.2.1 X.2.2.2.2.2.2.2.2.2.2.2.2.2.2.2.1 X.2.2.2.2.2.2.2.2.2.2.2.2.2.2.2.2.1 X.2.2.2.2.2.2.2.2.2.2.2.2.2.2.2.2.2.1 X.2.2.2.2.2.2.2.2.2.2.2.2.2.2.2.2.2.2.1 X.2.2.2.2.2.2.2.2.2.2.2.2.2.2.2.2.2.2.2.1 X.2.2.2.2.2.2.2.2.2.2.2.2.2.2.2.2.2.2.2.2.1 X.2.2.2.2.2.2.2.2.2.2.2.2.2.2.2.2.2.2.2.2.2.1 X.2.2.2.2.2.2.2.2.2.2.2.2.2.2.2.2.2.2.2.2.2.2.1 X.2.2.2.2.2.2.2.2.2.2.2.2.2.2.2.2.2.2.2.2.2.2.2.1 X.2.2.2.2.2.2.2.2.2.2.2.2.2.2.2.2.2.2.2.2.2.2.2.2.1 X.2.2.2.2.2.2.2.2.2.2.2.2.2.2.2.2.2.2.2.2.2.2.2.2.2.1 X.2.2.2.2.2.2.2.2.2.2.2.2.2.2.2.2.2.2.2.2.2.2.2.2.2.2.1 X.2.2.2.2.2.2.2.2.2.2.2.2.2.2.2.2.2.2.2.2.2.2.2.2.2.2.2.1 X.2.2.2.2.2.2.2.2.2.2.2.2.2.2.2.2.2.2.2.2.2.2.2.2.2.2.2.2.1 X.2.2.2.2.2.2.2.2.2.2.2.2.2.2.2.2.2.2.2.2.2.2.2.2.2.2.2.2.2.1 X.2.2.2.2.2.2.2.2.2.2.2.2.2.2.2.2.2.2.2.2.2.2.2.2.2.2.2.2.2.2.1 X.2.2.2.2.2.2.2.2.2.2.2.2.2.2.2.2.2.2.2.2.2.2.2.2.2.2.2.2.2.2.2.1 X.2.2.2.2.2.2.2.2.2.2.2.2.2.2.2.2.2.2.2.2.2.2.2.2.2.2.2.2.2.2.2.2.1 X.2.2.2.2.2.2.2.2.2.2.2.2.2.2.2.2.2.2.2.2.2.2.2.2.2.2.2.2.2.2.2.2.2.1 X.2.2.2.2.2.2.2.2.2.2.2.2.2.2.2.2.2.2.2.2.2.2.2.2.2.2.2.2.2.2.2.2.2.2.1 X.2.2.2.2.2.2.2.2.2.2.2.2.2.2.2.2.2.2.2.2.2.2.2.2.2.2.2.2.2.2.2.2.2.2.2.1 X.2.2.2.2.2.2.2.2.2.2.2.2.2.2.2.2.2.2.2.2.2.2.2.2.2.2.2.2.2.2.2.2.2.2.2.2.1 X.2.2.2.2.2.2.2.2.2.2.2.2.2.2.2.2.2.2.2.2.2.2.2.2.2.2.2.2.2.2.2.2.2.2.2.2.2.1 X.2.2.2.2.2.2.2.2.2.2.2.2.2.2.2.2.2.2.2.2.2.2.2.2.2.2.2.2.2.2.2.2.2.2.2.2.2.2 Y.2.2.2.1 Y.2.2.2.2.1 Y.2.2.2.2.2.1 Y.2.2.2.2.2.2.1 Y.2.2.2.2.2.2.2.1 Y.2.2.2.2.2.2.2.2.1 Y.2.2.2.2.2.2.2.2.2.1 Y.2.2.2.2.2.2.2.2.2.2.1 Y.2.2.2.2.2.2.2.2.2.2.2.1 Y.2.2.2.2.2.2.2.2.2.2.2.2.1 Y.2.2.2.2.2.2.2.2.2.2.2.2.2.1 Y.2.2.2.2.2.2.2.2.2.2.2.2.2.2.1 Y.2.2.2.2.2.2.2.2.2.2.2.2.2.2.2.1 Y.2.2.2.2.2.2.2.2.2.2.2.2.2.2.2.2.1 Y.2.2.2.2.2.2.2.2.2.2.2.2.2.2.2.2.2.1 Y.2.2.2.2.2.2.2.2.2.2.2.2.2.2.2.2.2.2.1 Y.2.2.2.2.2.2.2.2.2.2.2.2.2.2.2.2.2.2.2.2.2.2.2.2.2.2.2.1 Y.2.2.2.2.2.2.2.2.2.2.2.2.2.2.2.2.2.2.2.2.2.2.2.2.2.2.2.2.1 Y.2.2.2.2.2.2.2.2.2.2.2.2.2.2.2.2.2.2.2.2.2.2.2.2.2.2.2.2.2.1 Y.2.2.2.2.2.2.2.2.2.2.2.2.2.2.2.2.2.2.2.2.2.2.2.2.2.2.2.2.2.2.1 Y.2.2.2.2.2.2.2.2.2.2.2.2.2.2.2.2.2.2.2.2.2.2.2.2.2.2.2.2.2.2.2.1 Y.2.2.2.2.2.2.2.2.2.2.2.2.2.2.2.2.2.2.2.2.2.2.2.2.2.2.2.2.2.2.2.2.1 Y.2.2.2.2.2.2.2.2.2.2.2.2.2.2.2.2.2.2.2.2.2.2.2.2.2.2.2.2.2.2.2.2.2.1 Y.2.2.2.2.2.2.2.2.2.2.2.2.2.2.2.2.2.2.2.2.2.2.2.2.2.2.2.2.2.2.2.2.2.2.1 Y.2.2.2.2.2.2.2.2.2.2.2.2.2.2.2.2.2.2.2.2.2.2.2.2.2.2.2.2.2.2.2.2.2.2.2.1 Y.2.2.2.2.2.2.2.2.2.2.2.2.2.2.2.2.2.2.2.2.2.2.2.2.2.2.2.2.2.2.2.2.2.2.2.2.2.2.2.2.1 ∧ Y.2.2.2.2.2.2.2.2.2.2.2.2.2.2.2.2.2.2.2.2.2.2.2.2.2.2.2.1 + Y.2.2.2.2.2.2.2.2.2.2.2.2.2.2.2.2.2.2.2.2.2.2.2.2.2.2.2.2.1 + Y.2.2.2.2.2.2.2.2.2.2.2.2.2.2.2.2.2.2.2.2.2.2.2.2.2.2.2.2.2.1 + Y.2.2.2.2.2.2.2.2.2.2.2.2.2.2.2.2.2.2.2.2.2.2.2.2.2.2.2.2.2.2.1 + Y.2.2.2.2.2.2.2.2.2.2.2.2.2.2.2.2.2.2.2.2.2.2.2.2.2.2.2.2.2.2.2.1 + Y.2.2.2.2.2.2.2.2.2.2.2.2.2.2.2.2.2.2.2.2.2.2.2.2.2.2.2.2.2.2.2.2.2.1 + Y.2.2.2.2.2.2.2.2.2.2.2.2.2.2.2.2.2.2.2.2.2.2.2.2.2.2.2.2.2.2.2.2.2.2.1 + Y.2.2.2.2.2.2.2.2.2.2.2.2.2.2.2.2.2.2.2.2.2.2.2.2.2.2.2.2.2.2.2.2.2.2.2.1 = S + 1))
theorem z_fin {fBy ft fw fCo : Nat → Int32} {st lxa lxt lxp lxn lxl nx kd wh ap pfa pfp fa fp got phs pop wt he br wn mn : Int32} {gc : Int64} {psk wd wf mp mb mo sp sb rsz rkn ns lr fr pr dr nr kr tw tm ts ct : Int32} {fTo FI GR FR fRc fRe fDk fDt fDp fNs fNf fNz sky lna lh fna fst lst pna dna dh nna nh knt prt fHe fHr fOt fWa fHd : Nat → Int32} {fBo fDi fDa bo di don : Nat → Int64} {fNm : Nat → Nat → Int32} (g : zG fBy ft fw fCo st) (h : zT st lxa lxt lxp lxn lxl nx kd wh ap) (q1 : pfa = fa) (q2 : pfp = fp) {S : Int32} (hb : zBk psk fTo fNm FI GR FR wd wf mp mb mo sp sb rsz rkn fRc fRe fBo fDi fDa fDk fDt fDp ns fNs fNf fNz sky lna lh fna fst lst pna bo di dna don dh nna nh knt prt lr fr pr dr nr kr tw tm ts ct) (hS : lr + fr + pr + dr + nr + tw + tm + ts = S + 1) :
    zRL st S (fp_readLine_t st fBy fCo FI GR FR lxa lxt lxp lxn lxl pfa pfp psk phs pop ns rsz rkn wd wf mp mb mo sp sb fNm fBo fDa fDi fDk fDp fDt fTo fNf fNs fNz fHe fHr fRc fRe) (fq_lineRead_t ft fw st 1 fa fp nx kd wh ap got lr fr pr dr nr kr tw tm ts gc wt he br ct wn mn sky lna lh fna fst lst pna bo di dna don dh nna nh knt prt fOt fWa fHd) := by
  rw [fp_readLine_t, fq_lineRead_t, if_neg (show ¬ (1 : Int32) = 0 by decide), fp_take, zite (zq25 h.2.2.2.2.1 h.2.2.2.2.2.1), zisSign]
  by_cases c : kd = 4 ∧ wh = 59
  · rw [if_pos c, if_pos c, xL_eq, xL_eq (fe_advance st lxa lxn lxl fBy fCo)]
    dsimp only
    rw [if_neg (show ¬ (0 : Int32) = 1 by decide), xL_eq (1 : Int32), zn1, xL_eq]
    exact ⟨q1, q2, Or.inr ⟨rfl, rfl, g.tok h _ rfl _ rfl, hb, hS⟩⟩
  · rw [if_neg c, if_neg c, xL_eq, if_pos rfl, xL_eq (0 : Int32), zn0]
    exact ⟨rfl, h.2.1, Or.inl ⟨rfl, rfl⟩⟩
theorem z_ln_land {fBy ft fw fCo : Nat → Int32} {st lxa lxt lxp lxn lxl nx kd wh ap pfa pfp fa fp got phs pop wt he br wn mn : Int32} {gc : Int64} {psk wd wf mp mb mo sp sb rsz rkn ns lr fr pr dr nr kr tw tm ts ct : Int32} {fTo FI GR FR fRc fRe fDk fDt fDp fNs fNf fNz sky lna lh fna fst lst pna dna dh nna nh knt prt fHe fHr fOt fWa fHd : Nat → Int32} {fBo fDi fDa bo di don : Nat → Int64} {fNm : Nat → Nat → Int32} (g : zG fBy ft fw fCo st) (h : zT st lxa lxt lxp lxn lxl nx kd wh ap) (q1 : pfa = fa) (q2 : pfp = fp) {S : Int32} (hb : zBk psk fTo fNm FI GR FR wd wf mp mb mo sp sb rsz rkn fRc fRe fBo fDi fDa fDk fDt fDp ns fNs fNf fNz sky lna lh fna fst lst pna bo di dna don dh nna nh knt prt lr fr pr dr nr kr tw tm ts ct) (hS : lr + fr + pr + dr + nr + tw + tm + ts = S) :
    zRL st S (fp_readLine_a76 pfa pfp psk phs pop st lxa lxt lxp lxn lxl fBy fCo fHe fHr fTo fNm FI GR FR wd wf mp mb mo sp sb rsz rkn fRc fRe fBo fDi fDa fDk fDt fDp ns fNs fNf fNz) (xL ((fq_landLine ft fw lna lh fa fp st nx kd wh ap got lr)) (fun X_48 => fq_lineRead_t ft fw st X_48.1 X_48.2.2.2.1 X_48.2.2.2.2.1 X_48.2.2.2.2.2.1 X_48.2.2.2.2.2.2.1 X_48.2.2.2.2.2.2.2.1 X_48.2.2.2.2.2.2.2.2.1 X_48.2.2.2.2.2.2.2.2.2.1 X_48.2.2.2.2.2.2.2.2.2.2 fr pr dr nr kr tw tm ts gc wt he br ct wn mn sky X_48.2.2.1 X_48.2.1 fna fst lst pna bo di dna don dh nna nh knt prt fOt fWa fHd)) := by
  obtain ⟨hCn, hNs, hLd, hSy, hSk, hPe, hDe, hNo, hKn, hEn⟩ := id hb
  obtain ⟨n1, n2, n3, n4, n5, ⟨l0, l4⟩, ⟨f0, f4⟩, ⟨p0, p6⟩, ⟨d0, d4⟩, ⟨o0, o6⟩⟩ := id hCn
  obtain ⟨m0, m1, m2, m3, m4⟩ := id hNs
  rw [fp_readLine_a76]
  apply zLx; intro X hX Y hY
  obtain ⟨p1, p2, p3⟩ := z_land g h q1 q2 n1 l0 l4 m0 hLd X hX Y hY
  rcases p3 with ⟨r1, r2⟩ | ⟨r1, r2, t2, e1, e2, w1, w2, e3⟩
  · rw [if_pos r1, fq_lineRead_t, if_pos r2]; exact ⟨p1, p2, Or.inl ⟨rfl, rfl⟩⟩
  rw [if_neg (z10 r1), r2]
  have l5 : lr < 4 := by
    by_cases c : lr = 4
    · exfalso
      rw [fq_landLine, if_pos c, xL_eq] at hY
      rw [hY] at r2; exact absurd (show (0 : Int32) = 1 from r2) (by decide)
    · lia
  rw [e1, e2]
  exact z_fin g t2 p1 p2 ⟨⟨(if_pos rfl), ((if_neg (by decide)).trans n2), ((if_neg (by decide)).trans n3), ((if_neg (by decide)).trans n4), ((if_neg (by decide)).trans n5), ⟨by lia, by lia⟩, ⟨f0, f4⟩, ⟨p0, p6⟩, ⟨d0, d4⟩, ⟨o0, o6⟩⟩, ⟨(by rw [va_up_self]; exact w2), (by rw [va_up_ne _ _ (by decide)]; exact m1), (by rw [va_up_ne _ _ (by decide)]; exact m2), (by rw [va_up_ne _ _ (by decide)]; exact m3), (by rw [va_up_ne _ _ (by decide)]; exact m4)⟩, e3, hSy, hSk, hPe, hDe, hNo, hKn, hEn⟩ (by rw [← hS]; lia)
theorem z_ln_person {fBy ft fw fCo : Nat → Int32} {st lxa lxt lxp lxn lxl nx kd wh ap pfa pfp fa fp got phs pop wt he br wn mn : Int32} {gc : Int64} {psk wd wf mp mb mo sp sb rsz rkn ns lr fr pr dr nr kr tw tm ts ct : Int32} {fTo FI GR FR fRc fRe fDk fDt fDp fNs fNf fNz sky lna lh fna fst lst pna dna dh nna nh knt prt fHe fHr fOt fWa fHd : Nat → Int32} {fBo fDi fDa bo di don : Nat → Int64} {fNm : Nat → Nat → Int32} (g : zG fBy ft fw fCo st) (h : zT st lxa lxt lxp lxn lxl nx kd wh ap) (q1 : pfa = fa) (q2 : pfp = fp) {S : Int32} (hb : zBk psk fTo fNm FI GR FR wd wf mp mb mo sp sb rsz rkn fRc fRe fBo fDi fDa fDk fDt fDp ns fNs fNf fNz sky lna lh fna fst lst pna bo di dna don dh nna nh knt prt lr fr pr dr nr kr tw tm ts ct) (hS : lr + fr + pr + dr + nr + tw + tm + ts = S) :
    zRL st S (fp_readLine_a111 pfa pfp psk phs pop st lxa lxt lxp lxn lxl fBy fCo fHe fHr fTo fNm FI GR FR wd wf mp mb mo sp sb rsz rkn fRc fRe fBo fDi fDa fDk fDt fDp ns fNs fNf fNz) (xL ((fq_personLine ft fw lh pna bo di fa fp st nx kd wh ap got lr pr gc)) (fun X_109 => fq_lineRead_t ft fw st X_109.1 X_109.2.1 X_109.2.2.1 X_109.2.2.2.1 X_109.2.2.2.2.1 X_109.2.2.2.2.2.1 X_109.2.2.2.2.2.2.1 X_109.2.2.2.2.2.2.2.2.2.2.1 lr fr X_109.2.2.2.2.2.2.2.2.2.2.2.1 dr nr kr tw tm ts X_109.2.2.2.2.2.2.2.2.2.2.2.2 wt he br ct wn mn sky lna lh fna fst lst X_109.2.2.2.2.2.2.2.1 X_109.2.2.2.2.2.2.2.2.1 X_109.2.2.2.2.2.2.2.2.2.1 dna don dh nna nh knt prt fOt fWa fHd)) := by
  obtain ⟨hCn, hNs, hLd, hSy, hSk, hPe, hDe, hNo, hKn, hEn⟩ := id hb
  obtain ⟨n1, n2, n3, n4, n5, ⟨l0, l4⟩, ⟨f0, f4⟩, ⟨p0, p6⟩, ⟨d0, d4⟩, ⟨o0, o6⟩⟩ := id hCn
  obtain ⟨m0, m1, m2, m3, m4⟩ := id hNs
  rw [fp_readLine_a111]
  apply zLx; intro X hX Y hY
  obtain ⟨p1, p2, p3⟩ := z_person g h q1 q2 n1 l0 hLd n3 p0 p6 m2 hPe.1 hPe.2 X hX Y hY
  rcases p3 with ⟨r1, r2⟩ | ⟨r1, r2, t2, e1, e2, w1, w2, e3, e4⟩
  · rw [if_pos r1, fq_lineRead_t, if_pos r2]; exact ⟨p1, p2, Or.inl ⟨rfl, rfl⟩⟩
  rw [if_neg (z10 r1), r2]
  have l5 : pr < 6 := by
    by_cases c : pr = 6
    · exfalso
      rw [fq_personLine, if_pos c, xL_eq] at hY
      rw [hY] at r2; exact absurd (show (0 : Int32) = 1 from r2) (by decide)
    · lia
  rw [e1, e2]
  exact z_fin g t2 p1 p2 ⟨⟨((if_neg (by decide)).trans n1), ((if_neg (by decide)).trans n2), (if_pos rfl), ((if_neg (by decide)).trans n4), ((if_neg (by decide)).trans n5), ⟨l0, l4⟩, ⟨f0, f4⟩, ⟨by lia, by lia⟩, ⟨d0, d4⟩, ⟨o0, o6⟩⟩, ⟨(by rw [va_up_ne _ _ (by decide)]; exact m0), (by rw [va_up_ne _ _ (by decide)]; exact m1), (by rw [va_up_self]; exact w2), (by rw [va_up_ne _ _ (by decide)]; exact m3), (by rw [va_up_ne _ _ (by decide)]; exact m4)⟩, hLd, hSy, hSk, ⟨e3, e4⟩, hDe, hNo, hKn, hEn⟩ (by rw [← hS]; lia)
theorem z_ln_deed {fBy ft fw fCo : Nat → Int32} {st lxa lxt lxp lxn lxl nx kd wh ap pfa pfp fa fp got phs pop wt he br wn mn : Int32} {gc : Int64} {psk wd wf mp mb mo sp sb rsz rkn ns lr fr pr dr nr kr tw tm ts ct : Int32} {fTo FI GR FR fRc fRe fDk fDt fDp fNs fNf fNz sky lna lh fna fst lst pna dna dh nna nh knt prt fHe fHr fOt fWa fHd : Nat → Int32} {fBo fDi fDa bo di don : Nat → Int64} {fNm : Nat → Nat → Int32} (g : zG fBy ft fw fCo st) (h : zT st lxa lxt lxp lxn lxl nx kd wh ap) (q1 : pfa = fa) (q2 : pfp = fp) {S : Int32} (hb : zBk psk fTo fNm FI GR FR wd wf mp mb mo sp sb rsz rkn fRc fRe fBo fDi fDa fDk fDt fDp ns fNs fNf fNz sky lna lh fna fst lst pna bo di dna don dh nna nh knt prt lr fr pr dr nr kr tw tm ts ct) (hS : lr + fr + pr + dr + nr + tw + tm + ts = S) :
    zRL st S (fp_readLine_a118 pfa pfp psk phs pop st lxa lxt lxp lxn lxl fBy fCo fHe fHr fTo fNm FI GR FR wd wf mp mb mo sp sb rsz rkn fRc fRe fBo fDi fDa fDk fDt fDp ns fNs fNf fNz) (xL ((fq_deedLine ft fw lh fna dna don dh fa fp st nx kd wh ap got lr fr dr gc)) (fun X_133 => fq_lineRead_t ft fw st X_133.1 X_133.2.1 X_133.2.2.1 X_133.2.2.2.1 X_133.2.2.2.2.1 X_133.2.2.2.2.2.1 X_133.2.2.2.2.2.2.1 X_133.2.2.2.2.2.2.2.2.2.1 lr fr pr X_133.2.2.2.2.2.2.2.2.2.2.2.2 nr kr tw tm ts X_133.2.2.2.2.2.2.2.2.2.2.1 wt he br ct wn mn sky lna lh fna fst lst pna bo di X_133.2.2.2.2.2.2.2.1 X_133.2.2.2.2.2.2.2.2.1 X_133.2.2.2.2.2.2.2.2.2.2.2.1 nna nh knt prt fOt fWa fHd)) := by
  obtain ⟨hCn, hNs, hLd, hSy, hSk, hPe, hDe, hNo, hKn, hEn⟩ := id hb
  obtain ⟨n1, n2, n3, n4, n5, ⟨l0, l4⟩, ⟨f0, f4⟩, ⟨p0, p6⟩, ⟨d0, d4⟩, ⟨o0, o6⟩⟩ := id hCn
  obtain ⟨m0, m1, m2, m3, m4⟩ := id hNs
  rw [fp_readLine_a118]
  apply zLx; intro X hX Y hY
  obtain ⟨p1, p2, p3⟩ := z_deed g h q1 q2 n1 l0 hLd n2 f0 f4 m1 n4 d0 d4 m3 hDe.1 hDe.2 X hX Y hY
  rcases p3 with ⟨r1, r2⟩ | ⟨r1, r2, t2, e1, e2, w1, w2, e3, e4⟩
  · rw [if_pos r1, fq_lineRead_t, if_pos r2]; exact ⟨p1, p2, Or.inl ⟨rfl, rfl⟩⟩
  rw [if_neg (z10 r1), r2]
  have l5 : dr < 4 := by
    by_cases c : dr = 4
    · exfalso
      rw [fq_deedLine, if_pos c, xL_eq] at hY
      rw [hY] at r2; exact absurd (show (0 : Int32) = 1 from r2) (by decide)
    · lia
  rw [e1, e2]
  exact z_fin g t2 p1 p2 ⟨⟨((if_neg (by decide)).trans n1), ((if_neg (by decide)).trans n2), ((if_neg (by decide)).trans n3), (if_pos rfl), ((if_neg (by decide)).trans n5), ⟨l0, l4⟩, ⟨f0, f4⟩, ⟨p0, p6⟩, ⟨by lia, by lia⟩, ⟨o0, o6⟩⟩, ⟨(by rw [va_up_ne _ _ (by decide)]; exact m0), (by rw [va_up_ne _ _ (by decide), va_up_self, w1 1 (by decide)]; exact m1), (by rw [va_up_ne _ _ (by decide)]; exact m2), (by rw [va_up_self]; exact w2), (by rw [va_up_ne _ _ (by decide)]; exact m4)⟩, hLd, hSy, hSk, hPe, ⟨e3, e4⟩, hNo, hKn, hEn⟩ (by rw [← hS]; lia)
theorem z_ln_note {fBy ft fw fCo : Nat → Int32} {st lxa lxt lxp lxn lxl nx kd wh ap pfa pfp fa fp got phs pop wt he br wn mn : Int32} {gc : Int64} {psk wd wf mp mb mo sp sb rsz rkn ns lr fr pr dr nr kr tw tm ts ct : Int32} {fTo FI GR FR fRc fRe fDk fDt fDp fNs fNf fNz sky lna lh fna fst lst pna dna dh nna nh knt prt fHe fHr fOt fWa fHd : Nat → Int32} {fBo fDi fDa bo di don : Nat → Int64} {fNm : Nat → Nat → Int32} (g : zG fBy ft fw fCo st) (h : zT st lxa lxt lxp lxn lxl nx kd wh ap) (q1 : pfa = fa) (q2 : pfp = fp) {S : Int32} (hb : zBk psk fTo fNm FI GR FR wd wf mp mb mo sp sb rsz rkn fRc fRe fBo fDi fDa fDk fDt fDp ns fNs fNf fNz sky lna lh fna fst lst pna bo di dna don dh nna nh knt prt lr fr pr dr nr kr tw tm ts ct) (hS : lr + fr + pr + dr + nr + tw + tm + ts = S) :
    zRL st S (fp_readLine_a125 pfa pfp psk phs pop st lxa lxt lxp lxn lxl fBy fCo fHe fHr fTo fNm FI GR FR wd wf mp mb mo sp sb rsz rkn fRc fRe fBo fDi fDa fDk fDt fDp ns fNs fNf fNz) (xL ((fq_noteLine ft fw fna pna nna nh fa fp st nx kd wh ap got fr pr nr)) (fun X_154 => fq_lineRead_t ft fw st X_154.1 X_154.2.1 X_154.2.2.1 X_154.2.2.2.1 X_154.2.2.2.2.1 X_154.2.2.2.2.2.1 X_154.2.2.2.2.2.2.1 X_154.2.2.2.2.2.2.2.2.2.2 lr fr pr dr X_154.2.2.2.2.2.2.2.2.2.1 kr tw tm ts gc wt he br ct wn mn sky lna lh fna fst lst pna bo di dna don dh X_154.2.2.2.2.2.2.2.1 X_154.2.2.2.2.2.2.2.2.1 knt prt fOt fWa fHd)) := by
  obtain ⟨hCn, hNs, hLd, hSy, hSk, hPe, hDe, hNo, hKn, hEn⟩ := id hb
  obtain ⟨n1, n2, n3, n4, n5, ⟨l0, l4⟩, ⟨f0, f4⟩, ⟨p0, p6⟩, ⟨d0, d4⟩, ⟨o0, o6⟩⟩ := id hCn
  obtain ⟨m0, m1, m2, m3, m4⟩ := id hNs
  rw [fp_readLine_a125]
  apply zLx; intro X hX Y hY
  obtain ⟨p1, p2, p3⟩ := z_note g h q1 q2 n2 f0 f4 m1 n3 p0 p6 m2 n5 o0 o6 m4 hNo.2 X hX Y hY
  rcases p3 with ⟨r1, r2⟩ | ⟨r1, r2, t2, e1, e2, e3, w1, w2, e4⟩
  · rw [if_pos r1, fq_lineRead_t, if_pos r2]; exact ⟨p1, p2, Or.inl ⟨rfl, rfl⟩⟩
  rw [if_neg (z10 r1), r2]
  have l5 : nr < 6 := by
    by_cases c : nr = 6
    · exfalso
      rw [fq_noteLine, if_pos c, xL_eq] at hY
      rw [hY] at r2; exact absurd (show (0 : Int32) = 1 from r2) (by decide)
    · lia
  rw [e1, e2, e3]
  exact z_fin g t2 p1 p2 ⟨⟨((if_neg (by decide)).trans n1), ((if_neg (by decide)).trans n2), ((if_neg (by decide)).trans n3), ((if_neg (by decide)).trans n4), (if_pos rfl), ⟨l0, l4⟩, ⟨f0, f4⟩, ⟨p0, p6⟩, ⟨d0, d4⟩, ⟨by lia, by lia⟩⟩, ⟨(by rw [va_up_ne _ _ (by decide), va_up_self]; exact m0), (by rw [va_up_ne _ _ (by decide), va_up_ne _ _ (by decide), w1 1 (by decide)]; exact m1), (by rw [va_up_ne _ _ (by decide), va_up_ne _ _ (by decide), w1 2 (by decide)]; exact m2), (by rw [va_up_self]; exact m3), (by rw [va_up_ne _ _ (by decide), va_up_ne _ _ (by decide)]; exact w2)⟩, hLd, hSy, hSk, hPe, hDe, ⟨rfl, e4⟩, hKn, hEn⟩ (by rw [← hS]; lia)
theorem z_ln_week {fBy ft fw fCo : Nat → Int32} {st lxa lxt lxp lxn lxl nx kd wh ap pfa pfp fa fp got phs pop wt he br wn mn : Int32} {gc : Int64} {psk wd wf mp mb mo sp sb rsz rkn ns lr fr pr dr nr kr tw tm ts ct : Int32} {fTo FI GR FR fRc fRe fDk fDt fDp fNs fNf fNz sky lna lh fna fst lst pna dna dh nna nh knt prt fHe fHr fOt fWa fHd : Nat → Int32} {fBo fDi fDa bo di don : Nat → Int64} {fNm : Nat → Nat → Int32} (g : zG fBy ft fw fCo st) (h : zT st lxa lxt lxp lxn lxl nx kd wh ap) (q1 : pfa = fa) (q2 : pfp = fp) {S : Int32} (hb : zBk psk fTo fNm FI GR FR wd wf mp mb mo sp sb rsz rkn fRc fRe fBo fDi fDa fDk fDt fDp ns fNs fNf fNz sky lna lh fna fst lst pna bo di dna don dh nna nh knt prt lr fr pr dr nr kr tw tm ts ct) (hS : lr + fr + pr + dr + nr + tw + tm + ts = S) :
    zRL st S (fp_readLine_a83 pfa pfp psk phs pop st lxa lxt lxp lxn lxl fBy fCo fHe fHr fTo fNm FI GR FR wd wf mp mb mo sp sb rsz rkn fRc fRe fBo fDi fDa fDk fDt fDp ns fNs fNf fNz) (xL ((fq_weekLine ft fw sky fa fp st nx kd wh ap got tw)) (fun X_194 => fq_lineRead_t ft fw st X_194.1 X_194.2.2.1 X_194.2.2.2.1 X_194.2.2.2.2.1 X_194.2.2.2.2.2.1 X_194.2.2.2.2.2.2.1 X_194.2.2.2.2.2.2.2.1 X_194.2.2.2.2.2.2.2.2.1 lr fr pr dr nr kr X_194.2.2.2.2.2.2.2.2.2 tm ts gc wt he br ct wn mn X_194.2.1 lna lh fna fst lst pna bo di dna don dh nna nh knt prt fOt fWa fHd)) := by
  obtain ⟨hCn, hNs, hLd, hSy, hSk, hPe, hDe, hNo, hKn, hEn⟩ := id hb
  obtain ⟨n1, n2, n3, n4, n5, ⟨l0, l4⟩, ⟨f0, f4⟩, ⟨p0, p6⟩, ⟨d0, d4⟩, ⟨o0, o6⟩⟩ := id hCn
  obtain ⟨m0, m1, m2, m3, m4⟩ := id hNs
  rw [fp_readLine_a83]
  apply zLx; intro X hX Y hY
  obtain ⟨p1, p2, p3⟩ := z_week g h q1 q2 hSk X hX Y hY
  rcases p3 with ⟨r1, r2⟩ | ⟨r1, r2, t2, e1, e2, a1, a2, a3, a4, u0, u1⟩
  · rw [if_pos r1, fq_lineRead_t, if_pos r2]; exact ⟨p1, p2, Or.inl ⟨rfl, rfl⟩⟩
  rw [if_neg (z10 r1), r2]
  exact z_fin g t2 p1 p2 ⟨hCn, hNs, hLd, ⟨⟨by rw [e2]; rfl, by rw [e2]; rfl, by rw [e2]; exact hSy.1.2.2.1, by rw [e2]; exact hSy.1.2.2.2.1, by rw [e2]; exact hSy.1.2.2.2.2.1, by rw [e2]; exact hSy.1.2.2.2.2.2.1, by rw [e2]; exact hSy.1.2.2.2.2.2.2⟩, ⟨a1, a2, a3, a4⟩, hSy.2.2⟩, e1, hPe, hDe, hNo, hKn, hEn⟩ (by rw [← hS, u1, u0]; lia)
theorem z_ln_moon {fBy ft fw fCo : Nat → Int32} {st lxa lxt lxp lxn lxl nx kd wh ap pfa pfp fa fp got phs pop wt he br wn mn : Int32} {gc : Int64} {psk wd wf mp mb mo sp sb rsz rkn ns lr fr pr dr nr kr tw tm ts ct : Int32} {fTo FI GR FR fRc fRe fDk fDt fDp fNs fNf fNz sky lna lh fna fst lst pna dna dh nna nh knt prt fHe fHr fOt fWa fHd : Nat → Int32} {fBo fDi fDa bo di don : Nat → Int64} {fNm : Nat → Nat → Int32} (g : zG fBy ft fw fCo st) (h : zT st lxa lxt lxp lxn lxl nx kd wh ap) (q1 : pfa = fa) (q2 : pfp = fp) {S : Int32} (hb : zBk psk fTo fNm FI GR FR wd wf mp mb mo sp sb rsz rkn fRc fRe fBo fDi fDa fDk fDt fDp ns fNs fNf fNz sky lna lh fna fst lst pna bo di dna don dh nna nh knt prt lr fr pr dr nr kr tw tm ts ct) (hS : lr + fr + pr + dr + nr + tw + tm + ts = S) :
    zRL st S (fp_readLine_a90 pfa pfp psk phs pop st lxa lxt lxp lxn lxl fBy fCo fHe fHr fTo fNm FI GR FR wd wf mp mb mo sp sb rsz rkn fRc fRe fBo fDi fDa fDk fDt fDp ns fNs fNf fNz) (xL ((fq_moonLine ft fw sky fa fp st nx kd wh ap got tm)) (fun X_213 => fq_lineRead_t ft fw st X_213.1 X_213.2.1 X_213.2.2.1 X_213.2.2.2.1 X_213.2.2.2.2.1 X_213.2.2.2.2.2.1 X_213.2.2.2.2.2.2.1 X_213.2.2.2.2.2.2.2.1 lr fr pr dr nr kr tw X_213.2.2.2.2.2.2.2.2.1 ts gc wt he br ct wn mn X_213.2.2.2.2.2.2.2.2.2 lna lh fna fst lst pna bo di dna don dh nna nh knt prt fOt fWa fHd)) := by
  obtain ⟨hCn, hNs, hLd, hSy, hSk, hPe, hDe, hNo, hKn, hEn⟩ := id hb
  obtain ⟨n1, n2, n3, n4, n5, ⟨l0, l4⟩, ⟨f0, f4⟩, ⟨p0, p6⟩, ⟨d0, d4⟩, ⟨o0, o6⟩⟩ := id hCn
  obtain ⟨m0, m1, m2, m3, m4⟩ := id hNs
  rw [fp_readLine_a90]
  apply zLx; intro X hX Y hY
  obtain ⟨p1, p2, p3⟩ := z_moon g h q1 q2 hSk X hX Y hY
  rcases p3 with ⟨r1, r2⟩ | ⟨r1, r2, t2, e1, e2, a1, a2, a3, a4, a5, a6, a7, u0, u1⟩
  · rw [if_pos r1, fq_lineRead_t, if_pos r2]; exact ⟨p1, p2, Or.inl ⟨rfl, rfl⟩⟩
  rw [if_neg (z10 r1), r2]
  exact z_fin g t2 p1 p2 ⟨hCn, hNs, hLd, ⟨⟨by rw [e2]; exact hSy.1.1, by rw [e2]; exact hSy.1.2.1, by rw [e2]; rfl, by rw [e2]; rfl, by rw [e2]; rfl, by rw [e2]; exact hSy.1.2.2.2.2.2.1, by rw [e2]; exact hSy.1.2.2.2.2.2.2⟩, hSy.2.1, ⟨a1, a2, a3, a4, a5, a6, a7⟩, hSy.2.2.2⟩, e1, hPe, hDe, hNo, hKn, hEn⟩ (by rw [← hS, u1, u0]; lia)
theorem z_ln_sun {fBy ft fw fCo : Nat → Int32} {st lxa lxt lxp lxn lxl nx kd wh ap pfa pfp fa fp got phs pop wt he br wn mn : Int32} {gc : Int64} {psk wd wf mp mb mo sp sb rsz rkn ns lr fr pr dr nr kr tw tm ts ct : Int32} {fTo FI GR FR fRc fRe fDk fDt fDp fNs fNf fNz sky lna lh fna fst lst pna dna dh nna nh knt prt fHe fHr fOt fWa fHd : Nat → Int32} {fBo fDi fDa bo di don : Nat → Int64} {fNm : Nat → Nat → Int32} (g : zG fBy ft fw fCo st) (h : zT st lxa lxt lxp lxn lxl nx kd wh ap) (q1 : pfa = fa) (q2 : pfp = fp) {S : Int32} (hb : zBk psk fTo fNm FI GR FR wd wf mp mb mo sp sb rsz rkn fRc fRe fBo fDi fDa fDk fDt fDp ns fNs fNf fNz sky lna lh fna fst lst pna bo di dna don dh nna nh knt prt lr fr pr dr nr kr tw tm ts ct) (hS : lr + fr + pr + dr + nr + tw + tm + ts = S) :
    zRL st S (fp_readLine_a97 pfa pfp psk phs pop st lxa lxt lxp lxn lxl fBy fCo fHe fHr fTo fNm FI GR FR wd wf mp mb mo sp sb rsz rkn fRc fRe fBo fDi fDa fDk fDt fDp ns fNs fNf fNz) (xL ((fq_sunLine ft fw sky fa fp st nx kd wh ap got ts)) (fun X_174 => fq_lineRead_t ft fw st X_174.1 X_174.2.1 X_174.2.2.1 X_174.2.2.2.1 X_174.2.2.2.2.1 X_174.2.2.2.2.2.1 X_174.2.2.2.2.2.2.1 X_174.2.2.2.2.2.2.2.1 lr fr pr dr nr kr tw tm X_174.2.2.2.2.2.2.2.2.1 gc wt he br ct wn mn X_174.2.2.2.2.2.2.2.2.2 lna lh fna fst lst pna bo di dna don dh nna nh knt prt fOt fWa fHd)) := by
  obtain ⟨hCn, hNs, hLd, hSy, hSk, hPe, hDe, hNo, hKn, hEn⟩ := id hb
  obtain ⟨n1, n2, n3, n4, n5, ⟨l0, l4⟩, ⟨f0, f4⟩, ⟨p0, p6⟩, ⟨d0, d4⟩, ⟨o0, o6⟩⟩ := id hCn
  obtain ⟨m0, m1, m2, m3, m4⟩ := id hNs
  rw [fp_readLine_a97]
  apply zLx; intro X hX Y hY
  obtain ⟨p1, p2, p3⟩ := z_sun g h q1 q2 hSk X hX Y hY
  rcases p3 with ⟨r1, r2⟩ | ⟨r1, r2, t2, e1, e2, a1, a2, a3, a4, a5, u0, u1⟩
  · rw [if_pos r1, fq_lineRead_t, if_pos r2]; exact ⟨p1, p2, Or.inl ⟨rfl, rfl⟩⟩
  rw [if_neg (z10 r1), r2]
  exact z_fin g t2 p1 p2 ⟨hCn, hNs, hLd, ⟨⟨by rw [e2]; exact hSy.1.1, by rw [e2]; exact hSy.1.2.1, by rw [e2]; exact hSy.1.2.2.1, by rw [e2]; exact hSy.1.2.2.2.1, by rw [e2]; exact hSy.1.2.2.2.2.1, by rw [e2]; rfl, by rw [e2]; rfl⟩, hSy.2.1, hSy.2.2.1, ⟨a1, a2, a3, a4, a5⟩⟩, e1, hPe, hDe, hNo, hKn, hEn⟩ (by rw [← hS, u1, u0]; lia)
theorem z_ln_feast {fBy ft fw fCo : Nat → Int32} {st lxa lxt lxp lxn lxl nx kd wh ap pfa pfp fa fp got phs pop wt he br wn mn : Int32} {gc : Int64} {psk wd wf mp mb mo sp sb rsz rkn ns lr fr pr dr nr kr tw tm ts ct : Int32} {fTo FI GR FR fRc fRe fDk fDt fDp fNs fNf fNz sky lna lh fna fst lst pna dna dh nna nh knt prt fHe fHr fOt fWa fHd : Nat → Int32} {fBo fDi fDa bo di don : Nat → Int64} {fNm : Nat → Nat → Int32} (g : zG fBy ft fw fCo st) (h : zT st lxa lxt lxp lxn lxl nx kd wh ap) (q1 : pfa = fa) (q2 : pfp = fp) {S : Int32} (hb : zBk psk fTo fNm FI GR FR wd wf mp mb mo sp sb rsz rkn fRc fRe fBo fDi fDa fDk fDt fDp ns fNs fNf fNz sky lna lh fna fst lst pna bo di dna don dh nna nh knt prt lr fr pr dr nr kr tw tm ts ct) (hS : lr + fr + pr + dr + nr + tw + tm + ts = S) :
    zRL st S (fp_readLine_a104 pfa pfp psk phs pop st lxa lxt lxp lxn lxl fBy fCo fHe fHr fTo fNm FI GR FR wd wf mp mb mo sp sb rsz rkn fRc fRe fBo fDi fDa fDk fDt fDp ns fNs fNf fNz) (xL ((fq_feastLine ft fw fna fst lst knt prt fOt fWa fHd fa fp st nx kd wh ap fr kr wt he br ct wn mn)) (fun X_86 => fq_lineRead_t ft fw st X_86.1 X_86.2.2.2.2.1 X_86.2.2.2.2.2.1 X_86.2.2.2.2.2.2.1 X_86.2.2.2.2.2.2.2.1 X_86.2.2.2.2.2.2.2.2.1 X_86.2.2.2.2.2.2.2.2.2.1 got lr X_86.2.2.2.2.2.2.2.2.2.2.1 pr dr nr X_86.2.2.2.2.2.2.2.2.2.2.2.1 tw tm ts gc X_86.2.2.2.2.2.2.2.2.2.2.2.2.1 X_86.2.2.2.2.2.2.2.2.2.2.2.2.2.1 X_86.2.2.2.2.2.2.2.2.2.2.2.2.2.2.1 X_86.2.2.2.2.2.2.2.2.2.2.2.2.2.2.2.1 X_86.2.2.2.2.2.2.2.2.2.2.2.2.2.2.2.2.1 X_86.2.2.2.2.2.2.2.2.2.2.2.2.2.2.2.2.2.1 sky lna lh X_86.2.2.2.1 X_86.2.1 X_86.2.2.1 pna bo di dna don dh nna nh X_86.2.2.2.2.2.2.2.2.2.2.2.2.2.2.2.2.2.2.1 X_86.2.2.2.2.2.2.2.2.2.2.2.2.2.2.2.2.2.2.2.1 X_86.2.2.2.2.2.2.2.2.2.2.2.2.2.2.2.2.2.2.2.2.1 X_86.2.2.2.2.2.2.2.2.2.2.2.2.2.2.2.2.2.2.2.2.2.1 X_86.2.2.2.2.2.2.2.2.2.2.2.2.2.2.2.2.2.2.2.2.2.2)) := by
  obtain ⟨hCn, hNs, hLd, hSy, hSk, hPe, hDe, hNo, hKn, hEn⟩ := id hb
  obtain ⟨n1, n2, n3, n4, n5, ⟨l0, l4⟩, ⟨f0, f4⟩, ⟨p0, p6⟩, ⟨d0, d4⟩, ⟨o0, o6⟩⟩ := id hCn
  obtain ⟨m0, m1, m2, m3, m4⟩ := id hNs
  rw [fp_readLine_a104]
  apply zLx; intro X hX Y hY
  have f5 : ∀ Z, Y = Z → Y.1 = 1 → fr < 4 := fun Z hZ r2 => by
    by_cases c : fr = 4
    · exfalso
      rw [fq_feastLine, if_pos c, xL_eq] at hY
      rw [hY] at r2; exact absurd (show (0 : Int32) = 1 from r2) (by decide)
    · lia
  rcases z_feast (wt := wt) (he := he) (br := br) (wn := wn) (mn := mn) (fOt := fOt) (fWa := fWa) (fHd := fHd) g h q1 q2 n2 f0 f4 m1 hKn.1 hKn.2.1 hKn.2.2.1 hKn.2.2.2.1 hKn.2.2.2.2.1 hKn.2.2.2.2.2 X hX Y hY with ⟨a1, a2, a3, a4⟩ | ⟨a1, a2, a3, a4, a5⟩ | ⟨a1, a2, a3, a4, a5, a6, a7, a8, a9, b1, b2, b3, b4, b5, b6, b7, b8, b9⟩
  · rw [if_pos a1, fq_lineRead_t, if_pos a2]; exact ⟨a3, a4, Or.inl ⟨rfl, rfl⟩⟩
  · rw [if_neg (z10 a1), fq_lineRead_t, if_pos a2, fp_readLine_t, fp_take, if_neg a3, xL_eq, if_pos rfl]
    exact ⟨a4.symm, a5.symm, Or.inl ⟨rfl, rfl⟩⟩
  · rw [if_neg (z10 a1), a2]
    have l5 := f5 Y rfl a2
    rw [a6, a7, b1, b2, b8, b9]
    exact z_fin g a5 a3 a4 ⟨⟨((if_neg (by decide)).trans n1), (if_pos rfl), ((if_neg (by decide)).trans n3), ((if_neg (by decide)).trans n4), ((if_neg (by decide)).trans n5), ⟨l0, l4⟩, ⟨by lia, by lia⟩, ⟨p0, p6⟩, ⟨d0, d4⟩, ⟨o0, o6⟩⟩, ⟨(by rw [va_up_ne _ _ (by decide)]; exact m0), (by rw [va_up_self]; exact a9), (by rw [va_up_ne _ _ (by decide)]; exact m2), (by rw [va_up_ne _ _ (by decide)]; exact m3), (by rw [va_up_ne _ _ (by decide)]; exact m4)⟩, hLd, hSy, hSk, hPe, ⟨hDe.1, zDd_m hDe.2 (by lia)⟩, hNo, ⟨rfl, b3, b6, b4, b5, b7⟩, zEnd_s f0 l5 hEn⟩ (by rw [← hS]; lia)
theorem z_line {fBy ft fw fCo : Nat → Int32} {st lxa lxt lxp lxn lxl nx kd wh ap pfa pfp fa fp got phs pop wt he br wn mn : Int32} {gc : Int64} {psk wd wf mp mb mo sp sb rsz rkn ns lr fr pr dr nr kr tw tm ts ct : Int32} {fTo FI GR FR fRc fRe fDk fDt fDp fNs fNf fNz sky lna lh fna fst lst pna dna dh nna nh knt prt fHe fHr fOt fWa fHd : Nat → Int32} {fBo fDi fDa bo di don : Nat → Int64} {fNm : Nat → Nat → Int32} (g : zG fBy ft fw fCo st) (h : zT st lxa lxt lxp lxn lxl nx kd wh ap) (q1 : pfa = fa) (q2 : pfp = fp) {S : Int32} (hb : zBk psk fTo fNm FI GR FR wd wf mp mb mo sp sb rsz rkn fRc fRe fBo fDi fDa fDk fDt fDp ns fNs fNf fNz sky lna lh fna fst lst pna bo di dna don dh nna nh knt prt lr fr pr dr nr kr tw tm ts ct) (hS : lr + fr + pr + dr + nr + tw + tm + ts = S) :
    ∀ X, X = fp_readLine pfa pfp psk phs pop st lxa lxt lxp lxn lxl fBy fCo fHe fHr fTo fNm FI GR FR wd wf mp mb mo sp sb rsz rkn fRc fRe fBo fDi fDa fDk fDt fDp ns fNs fNf fNz → ∀ Y, Y = fq_lineRead ft fw sky lna lh fna fst lst pna bo di dna don dh nna nh knt prt fOt fWa fHd fa fp st nx kd wh ap got lr fr pr dr nr kr tw tm ts gc wt he br ct wn mn → zRL st S X Y := by
  intro X hX Y hY
  rw [hX, hY, fp_readLine, fq_lineRead]
  have hl := h.2.2.2.2.1
  have hv := h.2.2.2.2.2.1
  have hbad : ∀ Z, Z = fp_readLine_a132 psk phs pop lxa lxt lxp lxn lxl fHe fHr fTo fNm FI GR FR wd wf mp mb mo sp sb rsz rkn fRc fRe fBo fDi fDa fDk fDt fDp ns fNs fNf fNz → Z.2.1 = 1 ∧ Z.2.2.1 = lxp ∧ Z.1 = 1 := by
    intro Z hZ
    rw [hZ, fp_readLine_a132]
    exact ⟨rfl, rfl, rfl⟩
  by_cases c : kd = 1 ∧ wh ≤ 7
  · rw [if_pos c.1, if_pos c.2]
    have w0 : ¬ wh < 0 := by
      rcases hv with z | ⟨z, y, _⟩ | z | z | ⟨z, _⟩ | ⟨z, _⟩ | z
      · rw [c.1] at z; exact absurd z (by decide)
      · exact y
      all_goals (rw [c.1] at z; exact absurd z (by decide))
    by_cases c0 : wh = 0
    · have e0 : lxt = 0 := by rw [zq0 hl hv]; exact ⟨c.1, c0⟩
      rw [if_pos e0, if_pos c0]
      exact z_ln_land g h q1 q2 hb hS
    have w1 : ¬ wh < 1 := by lia
    by_cases c1 : wh = 1
    · have e1 : lxt = 5 := by rw [zq5 hl hv]; exact ⟨c.1, c1⟩
      rw [if_neg (by rw [e1]; decide), if_neg (by rw [e1]; decide), if_neg (by rw [e1]; decide), if_neg (by rw [e1]; decide), if_neg (by rw [e1]; decide), if_pos e1, if_neg (by rw [c1]; decide), if_pos c1]
      exact z_ln_feast g h q1 q2 hb hS
    have w2 : ¬ wh < 2 := by lia
    by_cases c2 : wh = 2
    · have e2 : lxt = 6 := by rw [zq6 hl hv]; exact ⟨c.1, c2⟩
      rw [if_neg (by rw [e2]; decide), if_neg (by rw [e2]; decide), if_neg (by rw [e2]; decide), if_neg (by rw [e2]; decide), if_neg (by rw [e2]; decide), if_neg (by rw [e2]; decide), if_pos e2, if_neg (by rw [c2]; decide), if_neg (by rw [c2]; decide), if_pos c2]
      exact z_ln_person g h q1 q2 hb hS
    have w3 : ¬ wh < 3 := by lia
    by_cases c3 : wh = 3
    · have e3 : lxt = 8 := by rw [zq8 hl hv]; exact ⟨c.1, c3⟩
      rw [if_neg (by rw [e3]; decide), if_neg (by rw [e3]; decide), if_neg (by rw [e3]; decide), if_neg (by rw [e3]; decide), if_neg (by rw [e3]; decide), if_neg (by rw [e3]; decide), if_neg (by rw [e3]; decide), if_neg (by rw [e3]; decide), if_pos e3, if_neg (by rw [c3]; decide), if_neg (by rw [c3]; decide), if_neg (by rw [c3]; decide), if_pos c3]
      exact z_ln_deed g h q1 q2 hb hS
    have w4 : ¬ wh < 4 := by lia
    by_cases c4 : wh = 4
    · have e4 : lxt = 13 := by rw [zq13 hl hv]; exact ⟨c.1, c4⟩
      rw [if_neg (by rw [e4]; decide), if_neg (by rw [e4]; decide), if_neg (by rw [e4]; decide), if_neg (by rw [e4]; decide), if_neg (by rw [e4]; decide), if_neg (by rw [e4]; decide), if_neg (by rw [e4]; decide), if_neg (by rw [e4]; decide), if_neg (by rw [e4]; decide), if_neg (by rw [e4]; decide), if_neg (by rw [e4]; decide), if_neg (by rw [e4]; decide), if_neg (by rw [e4]; decide), if_pos e4, if_neg (by rw [c4]; decide), if_neg (by rw [c4]; decide), if_neg (by rw [c4]; decide), if_neg (by rw [c4]; decide), if_pos c4]
      exact z_ln_note g h q1 q2 hb hS
    have w5 : ¬ wh < 5 := by lia
    by_cases c5 : wh = 5
    · have e5 : lxt = 4 := by rw [zq4 hl hv]; exact ⟨c.1, c5⟩
      rw [if_neg (by rw [e5]; decide), if_neg (by rw [e5]; decide), if_neg (by rw [e5]; decide), if_neg (by rw [e5]; decide), if_pos e5, if_neg (by rw [c5]; decide), if_neg (by rw [c5]; decide), if_neg (by rw [c5]; decide), if_neg (by rw [c5]; decide), if_neg (by rw [c5]; decide), if_pos c5]
      exact z_ln_sun g h q1 q2 hb hS
    have w6 : ¬ wh < 6 := by lia
    by_cases c6 : wh = 6
    · have e6 : lxt = 2 := by rw [zq2 hl hv]; exact ⟨c.1, c6⟩
      rw [if_neg (by rw [e6]; decide), if_neg (by rw [e6]; decide), if_pos e6, if_neg (by rw [c6]; decide), if_neg (by rw [c6]; decide), if_neg (by rw [c6]; decide), if_neg (by rw [c6]; decide), if_neg (by rw [c6]; decide), if_neg (by rw [c6]; decide), if_pos c6]
      exact z_ln_week g h q1 q2 hb hS
    have w7 : ¬ wh < 7 := by lia
    by_cases c7 : wh = 7
    · have e7 : lxt = 3 := by rw [zq3 hl hv]; exact ⟨c.1, c7⟩
      rw [if_neg (by rw [e7]; decide), if_neg (by rw [e7]; decide), if_neg (by rw [e7]; decide), if_pos e7, if_neg (by rw [c7]; decide), if_neg (by rw [c7]; decide), if_neg (by rw [c7]; decide), if_neg (by rw [c7]; decide), if_neg (by rw [c7]; decide), if_neg (by rw [c7]; decide), if_neg (by rw [c7]; decide)]
      exact z_ln_moon g h q1 q2 hb hS
    exact absurd c.2 (by lia)
  have hz : ∀ Y2 : Int32 × Int32 × Int32 × (Nat → Int32) × (Nat → Int32) × (Nat → Int32) × (Nat → Int32) × (Nat → Int32) × (Nat → Int32) × (Nat → Int32) × (Nat → Int64) × (Nat → Int64) × (Nat → Int32) × (Nat → Int64) × (Nat → Int32) × (Nat → Int32) × (Nat → Int32) × (Nat → Int32) × (Nat → Int32) × (Nat → Int32) × (Nat → Int32) × (Nat → Int32) × Int32 × Int32 × Int32 × Int32 × Int32 × Int32 × Int32 × Int32 × Int32 × Int32 × Int32 × Int32 × Int32 × Int32 × Int64 × Int32 × Int32 × Int32 × Int32 × Int32 × Int32, Y2 = (if kd = 1 then (if wh ≤ 7 then Y2 else Y2) else Y2) := fun Y2 => by
    by_cases z : kd = 1
    · rw [if_pos z]
      by_cases y : wh ≤ 7
      · rw [if_pos y]
      · rw [if_neg y]
    · rw [if_neg z]
  have nt : ¬ lxt = 0 ∧ ¬ lxt = 5 ∧ ¬ lxt = 6 ∧ ¬ lxt = 8 ∧ ¬ lxt = 13 ∧ ¬ lxt = 4 ∧ ¬ lxt = 2 ∧ ¬ lxt = 3 := by
    refine ⟨fun z => c (by have z2 := cast (zq0 hl hv) z; exact ⟨z2.1, by rw [z2.2]; decide⟩), fun z => c (by have z2 := cast (zq5 hl hv) z; exact ⟨z2.1, by rw [z2.2]; decide⟩), fun z => c (by have z2 := cast (zq6 hl hv) z; exact ⟨z2.1, by rw [z2.2]; decide⟩), fun z => c (by have z2 := cast (zq8 hl hv) z; exact ⟨z2.1, by rw [z2.2]; decide⟩), fun z => c (by have z2 := cast (zq13 hl hv) z; exact ⟨z2.1, by rw [z2.2]; decide⟩), fun z => c (by have z2 := cast (zq4 hl hv) z; exact ⟨z2.1, by rw [z2.2]; decide⟩), fun z => c (by have z2 := cast (zq2 hl hv) z; exact ⟨z2.1, by rw [z2.2]; decide⟩), fun z => c (by have z2 := cast (zq3 hl hv) z; exact ⟨z2.1, by rw [z2.2]; decide⟩)⟩
  obtain ⟨t0, t5, t6, t8, t13, t4, t2, t3⟩ := nt
  have hc : fp_readLine pfa pfp psk phs pop st lxa lxt lxp lxn lxl fBy fCo fHe fHr fTo fNm FI GR FR wd wf mp mb mo sp sb rsz rkn fRc fRe fBo fDi fDa fDk fDt fDp ns fNs fNf fNz = fp_readLine_a132 psk phs pop lxa lxt lxp lxn lxl fHe fHr fTo fNm FI GR FR wd wf mp mb mo sp sb rsz rkn fRc fRe fBo fDi fDa fDk fDt fDp ns fNs fNf fNz := by
    rw [fp_readLine]
    rw [if_neg t0]
    by_cases v1 : lxt = 1
    · rw [if_pos v1]
    rw [if_neg v1]
    rw [if_neg t2]
    rw [if_neg t3]
    rw [if_neg t4]
    rw [if_neg t5]
    rw [if_neg t6]
    by_cases v7 : lxt = 7
    · rw [if_pos v7]
    rw [if_neg v7]
    rw [if_neg t8]
    by_cases v9 : lxt = 9
    · rw [if_pos v9]
    rw [if_neg v9]
    by_cases v10 : lxt = 10
    · rw [if_pos v10]
    rw [if_neg v10]
    by_cases v11 : lxt = 11
    · rw [if_pos v11]
    rw [if_neg v11]
    by_cases v12 : lxt = 12
    · rw [if_pos v12]
    rw [if_neg v12]
    rw [if_neg t13]
  rw [fp_readLine] at hc
  rw [hc]
  obtain ⟨y1, y2, y3⟩ := hbad _ rfl
  by_cases d : kd = 1
  · rw [if_pos d, if_neg (fun z => c ⟨d, z⟩), xL_eq]
    exact ⟨y1, y2.trans h.2.1, Or.inl ⟨y3, rfl⟩⟩
  · rw [if_neg d, xL_eq]
    exact ⟨y1, y2.trans h.2.1, Or.inl ⟨y3, rfl⟩⟩
