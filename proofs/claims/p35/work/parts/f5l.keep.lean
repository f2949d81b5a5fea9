theorem xk_copies6_d : ∀ (n : Nat) (L : Int32) (f : Nat → Int32), ¬ L < 0 → L ≤ 6 → 6 ≤ L.toNatClampNeg + n → ∀ k : Nat, fq_copies6_d n L f k = if L.toNatClampNeg ≤ k ∧ k < 6 then f (6 + k) else f k := by
  intro n
  induction n with
  | zero =>
    intro L f h0 h9 hn k
    rw [fq_copies6_d, if_neg (by omega)]
  | succ n ih =>
    intro L f h0 h9 hn k
    rw [fq_copies6_d]
    by_cases h : 6 ≤ L
    · have hL := xi_nle (a := 6) (by decide) h
      rw [show (6 : Int32).toNatClampNeg = 6 from rfl] at hL
      rw [if_pos h, if_neg (by omega)]
    · have hs := xi_natS (w := L) h0 (by lia)
      have hlt := xi_nlt (b := 6) h0 (by lia)
      rw [show (6 : Int32).toNatClampNeg = 6 from rfl] at hlt
      rw [if_neg h, ih (L + 1) _ (by lia) (by lia) (by omega) k, hs, xl_ad2 6 (by decide) (by decide) h0 (by lia), show (6 : Int32).toNatClampNeg = 6 from rfl]
      unfold upd
      by_cases e : k = L.toNatClampNeg
      · subst e
        rw [if_neg (by omega), if_pos rfl, if_pos ⟨Nat.le_refl _, hlt⟩]
      · by_cases c : L.toNatClampNeg + 1 ≤ k ∧ k < 6
        · rw [if_pos c, if_neg (by omega), if_pos ⟨by omega, c.2⟩]
        · rw [if_neg c, if_neg e, if_neg (by omega)]
theorem xk_copies6 (f : Nat → Int32) {k : Nat} (hk : k < 6) : fq_copies6 f k = f (6 + k) := by
  rw [fq_copies6, xk_copies6_d 6 0 f (by decide) (by decide) (by decide) k, if_pos ⟨Nat.zero_le _, hk⟩]
theorem z_keep {psk : Int32} {fTo : Nat → Int32} {fNm : Nat → Nat → Int32} {FI : Nat → Int32} {GR : Nat → Int32} {FR : Nat → Int32} {wd : Int32} {wf : Int32} {mp : Int32} {mb : Int32} {mo : Int32} {sp : Int32} {sb : Int32} {rsz : Int32} {rkn : Int32} {fRc : Nat → Int32} {fRe : Nat → Int32} {fBo : Nat → Int64} {fDi : Nat → Int64} {fDa : Nat → Int64} {fDk : Nat → Int32} {fDt : Nat → Int32} {fDp : Nat → Int32} {ns : Int32} {fNs : Nat → Int32} {fNf : Nat → Int32} {fNz : Nat → Int32} {sky : Nat → Int32} {lna : Nat → Int32} {lh : Nat → Int32} {fna : Nat → Int32} {fst : Nat → Int32} {lst : Nat → Int32} {pna : Nat → Int32} {bo : Nat → Int64} {di : Nat → Int64} {dna : Nat → Int32} {don : Nat → Int64} {dh : Nat → Int32} {nna : Nat → Int32} {nh : Nat → Int32} {knt : Nat → Int32} {prt : Nat → Int32} {lr : Int32} {fr : Int32} {pr : Int32} {dr : Int32} {nr : Int32} {kr : Int32} {tw : Int32} {tm : Int32} {ts : Int32} {ct : Int32} {oth : Nat → Int32} (h : zBk psk fTo fNm FI GR FR wd wf mp mb mo sp sb rsz rkn fRc fRe fBo fDi fDa fDk fDt fDp ns fNs fNf fNz sky lna lh fna fst lst pna bo di dna don dh nna nh knt prt lr fr pr dr nr kr tw tm ts ct) {u : (Int32) × (Int32) × (Int32) × (Int32) × (Int32) × (Int32) × (Int32) × (Int32) × (Int32) × (Int32) × (Nat → Int32) × (Nat → Int32) × (Nat → Int32) × (Nat → Int32) × (Nat → Int32) × (Nat → Int32) × (Nat → Int32) × (Nat → Int64) × (Nat → Int64) × (Nat → Int32) × (Nat → Int64) × (Nat → Int32) × (Nat → Int32) × (Nat → Int32) × (Nat → Int32) × (Nat → Int32) × (Nat → Int32)} (hu : u = fq_keepText sky lna lh fna fst lst pna bo di dna don dh nna nh knt prt oth lr fr pr dr nr kr) : zLw fTo fNm FI GR FR wd wf mp mb mo sp sb rkn fRe fBo fDi fDa fDk fDt fDp ns fNs fNf fNz u.2.2.2.2.2.2.2.2.2.2.1 u.2.2.2.2.2.2.2.2.2.2.2.1 u.2.2.2.2.2.2.2.2.2.2.2.2.1 u.2.2.2.2.2.2.2.2.2.2.2.2.2.1 u.2.2.2.2.2.2.2.2.2.2.2.2.2.2.1 u.2.2.2.2.2.2.2.2.2.2.2.2.2.2.2.1 u.2.2.2.2.2.2.2.2.2.2.2.2.2.2.2.2.1 u.2.2.2.2.2.2.2.2.2.2.2.2.2.2.2.2.2.1 u.2.2.2.2.2.2.2.2.2.2.2.2.2.2.2.2.2.2.1 u.2.2.2.2.2.2.2.2.2.2.2.2.2.2.2.2.2.2.2.1 u.2.2.2.2.2.2.2.2.2.2.2.2.2.2.2.2.2.2.2.2.1 u.2.2.2.2.2.2.2.2.2.2.2.2.2.2.2.2.2.2.2.2.2.1 u.2.2.2.2.2.2.2.2.2.2.2.2.2.2.2.2.2.2.2.2.2.2.1 u.2.2.2.2.2.2.2.2.2.2.2.2.2.2.2.2.2.2.2.2.2.2.2.1 u.1 u.2.1 u.2.2.1 u.2.2.2.1 u.2.2.2.2.1 u.2.2.2.2.2.1 u.2.2.2.2.2.2.1 := by
  obtain ⟨hCn, hNs, hLd, hSy, hSk, ⟨hB, hD, hDi⟩, ⟨hDa, hDd⟩, ⟨hns, hNb⟩, ⟨k1, k2, k3, k4, k5, hKn⟩, hEn⟩ := h
  obtain ⟨t0, t1, t2, t3, t4, ⟨l0, l4⟩, ⟨f0, f4⟩, ⟨p0, p6⟩, ⟨d0, d4⟩, ⟨n0, n6⟩⟩ := hCn
  have ml : lr.toNatClampNeg ≤ 4 := xi_nle (b := 4) l0 l4
  have mf : fr.toNatClampNeg ≤ 4 := xi_nle (b := 4) f0 f4
  have mp9 : pr.toNatClampNeg ≤ 6 := xi_nle (b := 6) p0 p6
  have md : dr.toNatClampNeg ≤ 4 := xi_nle (b := 4) d0 d4
  have mn9 : nr.toNatClampNeg ≤ 6 := xi_nle (b := 6) n0 n6
  have mk : kr.toNatClampNeg ≤ 64 := xi_nle (b := 64) k4 k5
  rw [fq_keepText, xL_eq, xL_eq, xL_eq, xL_eq, xL_eq, xL_eq, xL_eq, xL_eq, xL_eq, xL_eq, xL_eq, xL_eq, xL_eq, xL_eq, xL_eq, xL_eq, xL_eq] at hu
  subst hu
  refine ⟨⟨t0, t1, t2, t3, t4, k2.trans k3.symm, ⟨l0, l4⟩, ⟨f0, f4⟩, ⟨p0, p6⟩, ⟨d0, d4⟩, ⟨n0, n6⟩⟩, ⟨?_, ?_, ?_, ?_, ?_⟩, ?_, ⟨⟨?_, ?_, ?_, ?_, ?_, ?_, ?_⟩, hSy.2⟩, ⟨?_, ?_, hDi⟩, ⟨?_, ?_⟩, ⟨?_, ?_, k4, k5⟩, ⟨hns, ?_⟩⟩
  · intro k hk
    have hk2 : k < lr.toNatClampNeg := hk
    show fNm 0 k = fq_copies4 lna k
    rw [xk_copies4 lna (by omega)]
    exact hNs.1 k hk
  · intro k hk
    have hk2 : k < fr.toNatClampNeg := hk
    show fNm 1 k = fq_copies4 fna k
    rw [xk_copies4 fna (by omega)]
    exact hNs.2.1 k hk
  · intro k hk
    have hk2 : k < pr.toNatClampNeg := hk
    show fNm 2 k = fq_copies6 pna k
    rw [xk_copies6 pna (by omega)]
    exact hNs.2.2.1 k hk
  · intro k hk
    have hk2 : k < dr.toNatClampNeg := hk
    show fNm 3 k = fq_copies4 dna k
    rw [xk_copies4 dna (by omega)]
    exact hNs.2.2.2.1 k hk
  · intro k hk
    have hk2 : k < nr.toNatClampNeg := hk
    show fNm 4 k = fq_copies6 nna k
    rw [xk_copies6 nna (by omega)]
    exact hNs.2.2.2.2 k hk
  · intro k hk
    have hk2 : k < lr.toNatClampNeg := hk
    obtain ⟨e1, e2, e3, er⟩ := hLd k hk
    refine ⟨?_, ?_, ?_, er⟩
    · show FI k = fq_copies12 lh (3 * k)
      rw [xk_copies12 lh (by omega)]; exact e1
    · show GR k = fq_copies12 lh (3 * k + 1)
      rw [xk_copies12 lh (by omega), ← Nat.add_assoc]; exact e2
    · show FR k = fq_copies12 lh (3 * k + 2)
      rw [xk_copies12 lh (by omega), ← Nat.add_assoc]; exact e3
  · show fq_copies7 sky 0 = _
    rw [xk_copies7 sky (by decide)]; exact hSy.1.1
  · show fq_copies7 sky 1 = _
    rw [xk_copies7 sky (by decide)]; exact hSy.1.2.1
  · show fq_copies7 sky 2 = _
    rw [xk_copies7 sky (by decide)]; exact hSy.1.2.2.1
  · show fq_copies7 sky 3 = _
    rw [xk_copies7 sky (by decide)]; exact hSy.1.2.2.2.1
  · show fq_copies7 sky 4 = _
    rw [xk_copies7 sky (by decide)]; exact hSy.1.2.2.2.2.1
  · show fq_copies7 sky 5 = _
    rw [xk_copies7 sky (by decide)]; exact hSy.1.2.2.2.2.2.1
  · show fq_copies7 sky 6 = _
    rw [xk_copies7 sky (by decide)]; exact hSy.1.2.2.2.2.2.2
  · intro k hk
    have hk2 : k < pr.toNatClampNeg := hk
    show fBo k = fq_copiesLong6 bo k
    rw [xk_copiesLong6 bo (by omega)]
    exact hB k hk
  · intro k hk
    have hk2 : k < pr.toNatClampNeg := hk
    show fDi k = fq_copiesLong6 di k
    rw [xk_copiesLong6 di (by omega)]
    exact hD k hk
  · intro k hk
    have hk2 : k < dr.toNatClampNeg := hk
    show fDa k = fq_copiesLong4 don k
    rw [xk_copiesLong4 don (by omega)]
    exact hDa k hk
  · intro k hk
    have hk2 : k < dr.toNatClampNeg := hk
    obtain ⟨e1, e2, e3, er⟩ := hDd k hk
    refine ⟨?_, ?_, ?_, er⟩
    · show fDk k = fq_copies12 dh (3 * k)
      rw [xk_copies12 dh (by omega)]; exact e1
    · show fDt k = fq_copies12 dh (3 * k + 1)
      rw [xk_copies12 dh (by omega), ← Nat.add_assoc]; exact e2
    · show fDp k = fq_copies12 dh (3 * k + 2)
      rw [xk_copies12 dh (by omega), ← Nat.add_assoc]; exact e3
  · intro k hk
    have hk2 : k < fr.toNatClampNeg := hk
    obtain ⟨e1, e2⟩ := hEn.1 k hk
    refine ⟨?_, ?_⟩
    · show fRe k = fq_copies4 lst k
      rw [xk_copies4 lst (by omega)]; exact e1
    · show fq_copies4 fst k = (if k = 0 then 0 else fq_copies4 lst (k - 1))
      rw [xk_copies4 fst (by omega), e2]
      by_cases c : k = 0
      · rw [if_pos c, if_pos c]
      · rw [if_neg c, if_neg c, xk_copies4 lst (by omega), show 4 + (k - 1) = 3 + k from by omega]
  · show kr = (if fr.toNatClampNeg = 0 then 0 else fq_copies4 lst (fr.toNatClampNeg - 1))
    rw [hEn.2]
    by_cases c : fr.toNatClampNeg = 0
    · rw [if_pos c, if_pos c]
    · rw [if_neg c, if_neg c, xk_copies4 lst (by omega), show 4 + (fr.toNatClampNeg - 1) = 3 + fr.toNatClampNeg from by omega]
  · intro k hk
    have hk2 : k < nr.toNatClampNeg := hk
    obtain ⟨e1, e2⟩ := hNb k hk
    dsimp only
    have c : ∀ j, j < 11 → fq_copies132 nh (11 * k + j) = nh (132 + 11 * k + j) := fun j hj => by
      rw [xk_copies132 nh (by omega), ← Nat.add_assoc]
    refine ⟨?_, fun w w0 w8 hw => ?_⟩
    · rw [xk_copies132 nh (by omega)]; exact e1
    · obtain ⟨a1, a2, a3, a4⟩ := e2 w w0 w8 hw
      have m8 := z_w8 w0 w8
      refine ⟨fun z => ?_, fun z => ?_, fun z1 z2 => ?_, a4⟩
      · rw [c 1 (by omega), c 2 (by omega)]; exact a1 z
      · rw [c 9 (by omega), c 10 (by omega)]; exact a2 z
      · rw [Nat.add_assoc, c (2 + w.toNatClampNeg) (by omega), ← Nat.add_assoc]; exact (a3 z1 z2).1
