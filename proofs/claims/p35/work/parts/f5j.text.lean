theorem z_fill5 {f : Nat → Int32} : ∀ k : Nat, k < 5 → fj_fill5 f 0 k = 0 := by
  intro k hk
  rw [fj_fill5]
  rw [fj_fill5_d, if_neg (by decide), show (0 : Int32) + 1 = 1 from rfl, show (0 : Int32).toNatClampNeg = 0 from rfl]
  rw [fj_fill5_d, if_neg (by decide), show (1 : Int32) + 1 = 2 from rfl, show (1 : Int32).toNatClampNeg = 1 from rfl]
  rw [fj_fill5_d, if_neg (by decide), show (2 : Int32) + 1 = 3 from rfl, show (2 : Int32).toNatClampNeg = 2 from rfl]
  rw [fj_fill5_d, if_neg (by decide), show (3 : Int32) + 1 = 4 from rfl, show (3 : Int32).toNatClampNeg = 3 from rfl]
  rw [fj_fill5_d, if_neg (by decide), show (4 : Int32) + 1 = 5 from rfl, show (4 : Int32).toNatClampNeg = 4 from rfl]
  rw [fj_fill5_d]
  unfold upd
  by_cases c4 : k = 4
  · rw [if_pos c4]
  rw [if_neg c4]
  by_cases c3 : k = 3
  · rw [if_pos c3]
  rw [if_neg c3]
  by_cases c2 : k = 2
  · rw [if_pos c2]
  rw [if_neg c2]
  by_cases c1 : k = 1
  · rw [if_pos c1]
  rw [if_neg c1]
  by_cases c0 : k = 0
  · rw [if_pos c0]
  rw [if_neg c0]
  omega
theorem z_fill4 {f : Nat → Int32} : ∀ k : Nat, k < 4 → fj_fill4 f 0 k = 0 := by
  intro k hk
  rw [fj_fill4]
  rw [fj_fill4_d, if_neg (by decide), show (0 : Int32) + 1 = 1 from rfl, show (0 : Int32).toNatClampNeg = 0 from rfl]
  rw [fj_fill4_d, if_neg (by decide), show (1 : Int32) + 1 = 2 from rfl, show (1 : Int32).toNatClampNeg = 1 from rfl]
  rw [fj_fill4_d, if_neg (by decide), show (2 : Int32) + 1 = 3 from rfl, show (2 : Int32).toNatClampNeg = 2 from rfl]
  rw [fj_fill4_d, if_neg (by decide), show (3 : Int32) + 1 = 4 from rfl, show (3 : Int32).toNatClampNeg = 3 from rfl]
  rw [fj_fill4_d]
  unfold upd
  by_cases c3 : k = 3
  · rw [if_pos c3]
  rw [if_neg c3]
  by_cases c2 : k = 2
  · rw [if_pos c2]
  rw [if_neg c2]
  by_cases c1 : k = 1
  · rw [if_pos c1]
  rw [if_neg c1]
  by_cases c0 : k = 0
  · rw [if_pos c0]
  rw [if_neg c0]
  omega
theorem z_bk0 {fTo : Nat → Int32} {fNm : Nat → Nat → Int32} {FI : Nat → Int32} {GR : Nat → Int32} {FR : Nat → Int32} {fRc : Nat → Int32} {fRe : Nat → Int32} {fBo : Nat → Int64} {fDi : Nat → Int64} {fDa : Nat → Int64} {fDk : Nat → Int32} {fDt : Nat → Int32} {fDp : Nat → Int32} {fNs : Nat → Int32} {fNf : Nat → Int32} {fNz : Nat → Int32} {sky : Nat → Int32} {lna : Nat → Int32} {lh : Nat → Int32} {fna : Nat → Int32} {fst : Nat → Int32} {lst : Nat → Int32} {pna : Nat → Int32} {bo : Nat → Int64} {di : Nat → Int64} {dna : Nat → Int32} {don : Nat → Int64} {dh : Nat → Int32} {nna : Nat → Int32} {nh : Nat → Int32} {knt : Nat → Int32} {prt : Nat → Int32} (h5 : ∀ k : Nat, k < 5 → fTo k = 0) (s0 : sky 7 = 7) (s1 : sky 8 = 0) (s2 : sky 9 = 59) (s3 : sky 10 = 2) (s4 : sky 11 = 0) (s5 : sky 12 = 1461) (s6 : sky 13 = 4) : zBk 0 fTo fNm FI GR FR 7 0 59 2 0 1461 4 0 0 fRc fRe fBo fDi fDa fDk fDt fDp 0 fNs fNf fNz sky lna lh fna fst lst pna bo di dna don dh nna nh knt prt 0 0 0 0 0 0 0 0 0 0 :=
  ⟨⟨h5 0 (by omega), h5 1 (by omega), h5 2 (by omega), h5 3 (by omega), h5 4 (by omega), ⟨by decide, by decide⟩, ⟨by decide, by decide⟩, ⟨by decide, by decide⟩, ⟨by decide, by decide⟩, ⟨by decide, by decide⟩⟩, ⟨fun k h => absurd h (Nat.not_lt_zero k), fun k h => absurd h (Nat.not_lt_zero k), fun k h => absurd h (Nat.not_lt_zero k), fun k h => absurd h (Nat.not_lt_zero k), fun k h => absurd h (Nat.not_lt_zero k)⟩, fun k h => absurd h (Nat.not_lt_zero k), ⟨⟨s0, s1, s2, s3, s4, s5, s6⟩, by decide, by decide, by decide⟩, ⟨Or.inl rfl, Or.inl rfl, Or.inl rfl, rfl⟩, ⟨fun k h => absurd h (Nat.not_lt_zero k), fun k h => absurd h (Nat.not_lt_zero k), fun k h => absurd h (Nat.not_lt_zero k)⟩, ⟨fun k h => absurd h (Nat.not_lt_zero k), fun k h => absurd h (Nat.not_lt_zero k)⟩, ⟨rfl, fun k h => absurd h (Nat.not_lt_zero k)⟩, ⟨rfl, rfl, rfl, by decide, by decide, fun k h => absurd h (Nat.not_lt_zero k)⟩, ⟨fun k h => absurd h (Nat.not_lt_zero k), (if_pos rfl).symm⟩⟩
set_option maxHeartbeats 4000000 in
theorem z_text {bk : Nat} {xsp : Nat} {xsc : Int32} {xik : Int32} {lz : Int32} {dfr : Int32} {pbk : Value} {pfa : Int32} {pfp : Int32} {psk : Int32} {phs : Int32} {pop : Int32} {lfi : Int32} {lxe : Int32} {lxa : Int32} {lxt : Int32} {lxp : Int32} {lxn : Int32} {lxl : Int32} {fBy : Nat → Int32} {fCo : Nat → Int32} {fHe : Nat → Int32} {fHr : Nat → Int32} {fTo2 : Nat → Int32} {fNm2 : Nat → Nat → Int32} {FI2 : Nat → Int32} {GR2 : Nat → Int32} {FR2 : Nat → Int32} {wd2 : Int32} {wf2 : Int32} {mp2 : Int32} {mb2 : Int32} {mo2 : Int32} {sp2 : Int32} {sb2 : Int32} {rsz2 : Int32} {rkn2 : Int32} {fRc2 : Nat → Int32} {fRe2 : Nat → Int32} {fBo2 : Nat → Int64} {fDi2 : Nat → Int64} {fDa2 : Nat → Int64} {fDk2 : Nat → Int32} {fDt2 : Nat → Int32} {fDp2 : Nat → Int32} {ns2 : Int32} {fNs2 : Nat → Int32} {fNf2 : Nat → Int32} {fNz2 : Nat → Int32} {a0 : Int32} {f_tape : Nat → Int32} {f_words : Nat → Int32} {f_sky : Nat → Int32} {f_landName : Nat → Int32} {f_landHas : Nat → Int32} {f_feastName : Nat → Int32} {f_first : Nat → Int32} {f_last : Nat → Int32} {f_personName : Nat → Int32} {f_born : Nat → Int64} {f_died : Nat → Int64} {f_deedName : Nat → Int32} {f_deedOn : Nat → Int64} {f_deedHas : Nat → Int32} {f_noteName : Nat → Int32} {f_noteHas : Nat → Int32} {f_knot : Nat → Int32} {f_part : Nat → Int32} {f_other : Nat → Int32} {f_wait : Nat → Int32} {f_held : Nat → Int32} {m_tapeSize : Int32} {m_fault : Int32} {m_faultPlace : Int32} {m_stop : Int32} {m_next : Int32} {m_kind : Int32} {m_which : Int32} {m_at : Int32} {m_got : Int32} {m_lands : Int32} {m_feasts : Int32} {m_people : Int32} {m_deeds : Int32} {m_notes : Int32} {m_knots : Int32} {m_landsRead : Int32} {m_feastsRead : Int32} {m_peopleRead : Int32} {m_deedsRead : Int32} {m_notesRead : Int32} {m_knotsRead : Int32} {m_weekTold : Int32} {m_moonTold : Int32} {m_sunTold : Int32} {m_gotCount : Int64} {m_waits : Int32} {m_helds : Int32} {m_brackets : Int32} {m_counted : Int32} {m_wants : Int32} {m_mayNot : Int32} {m_named1 : Int32} {m_undos : Int32} {m_tolds : Int32} {m_hasImage : Int32} (hl : lfi = m_tapeSize) (l0 : ¬ lfi < 0) (l9 : lfi ≤ 900) (hB : zBy fBy f_tape lfi) (hW : zWd f_words) (hC : zCo fCo) (hf : pfa = m_fault) (hp : pfp = m_faultPlace) :
    ∀ X, X = fx_text bk xsp xsc xik lz dfr pbk pfa pfp psk phs pop lfi lxe lxa lxt lxp lxn lxl fBy fCo fHe fHr fTo2 fNm2 FI2 GR2 FR2 wd2 wf2 mp2 mb2 mo2 sp2 sb2 rsz2 rkn2 fRc2 fRe2 fBo2 fDi2 fDa2 fDk2 fDt2 fDp2 ns2 fNs2 fNf2 fNz2 a0 → ∀ Y, Y = fq_text f_tape f_words f_sky f_landName f_landHas f_feastName f_first f_last f_personName f_born f_died f_deedName f_deedOn f_deedHas f_noteName f_noteHas f_knot f_part f_other f_wait f_held a0 m_tapeSize m_fault m_faultPlace m_stop m_next m_kind m_which m_at m_got m_lands m_feasts m_people m_deeds m_notes m_knots m_landsRead m_feastsRead m_peopleRead m_deedsRead m_notesRead m_knotsRead m_weekTold m_moonTold m_sunTold m_gotCount m_waits m_helds m_brackets m_counted m_wants m_mayNot m_named1 m_undos m_tolds m_hasImage → X.1 = Y.1 ∧ X.2.2.2.2.2.2.2.2.1 = Y.2.2.2.1 ∧ X.2.2.2.2.2.2.2.2.2.1 = Y.2.2.2.2.1 := by
  intro X hX Y hY
  rw [hX, hY, fx_text, fq_text, ← hl]
  by_cases c : a0 < 0
  · rw [if_pos c, if_pos c]; exact ⟨rfl, hf, hp⟩
  rw [if_neg c, if_neg c]
  by_cases d : a0 ≤ lfi
  case neg => rw [if_neg d, if_neg d]; exact ⟨rfl, hf, hp⟩
  rw [if_pos d, if_pos d]
  have g : zG fBy f_tape f_words fCo a0 := ⟨fun k k0 k1 => hB k k0 (by lia), hW, hC, by lia⟩
  have ht := (z_token (lxn := lxn) (lxl := lxl) (wh := m_which) g.1 g.2.1 g.2.2.1 g.2.2.2 (a := 0) (by decide) (by lia)).1
  have ee : (if lfi < a0 then lfi else a0) = a0 := if_neg (by lia)
  have hq : zRt9 (fp_read phs pop lfi lxn lxl fBy fCo fHe fHr fTo2 fNm2 FI2 GR2 FR2 fRc2 fRe2 fBo2 fDi2 fDa2 fDk2 fDt2 fDp2 fNs2 fNf2 fNz2 a0) (fq_text_d f_tape f_words a0 m_lands m_feasts m_people m_deeds m_notes m_knots m_named1 m_undos m_tolds m_hasImage 27 (0 : Int32) (0 : Int32) (-1 : Int32) (fq_token f_tape f_words a0 (0 : Int32) m_which).1 (fq_token f_tape f_words a0 (0 : Int32) m_which).2.1 (fq_token f_tape f_words a0 (0 : Int32) m_which).2.2.1 (fq_token f_tape f_words a0 (0 : Int32) m_which).2.2.2 m_got (fq_plain f_sky).1 (fq_plain f_sky).2.1 (fq_plain f_sky).2.2.1 (fq_plain f_sky).2.2.2.1 (fq_plain f_sky).2.2.2.2.1 (fq_plain f_sky).2.2.2.2.2.1 (fq_plain f_sky).2.2.2.2.2.2.1 (fq_plain f_sky).2.2.2.2.2.2.2.1 (fq_plain f_sky).2.2.2.2.2.2.2.2.1 m_gotCount m_waits m_helds m_brackets (fq_plain f_sky).2.2.2.2.2.2.2.2.2.1 m_wants m_mayNot (fq_plain f_sky).2.2.2.2.2.2.2.2.2.2 f_landName f_landHas f_feastName f_first f_last f_personName f_born f_died f_deedName f_deedOn f_deedHas f_noteName f_noteHas f_knot f_part f_other f_wait f_held) := by
    rw [fp_read, xL_eq, xL_eq, fe_start, ee, xL_eq, fb_clear, xL_eq, xL_eq, xL_eq, fr_clear, xL_eq]
    refine z_rd g 27 900 0 _ _ _ _ _ _ _ _ _ _ _ _ _ _ _ _ _ _ _ _ _ _ _ _ _ _ _ _ _ _ _ _ _ _ _ _ _ _ _ _ _ _ _ _ _ _ _ _ _ _ _ _ _ _ _ _ _ _ _ _ _ _ _ _ _ _ _ _ _ _ _ _ _ _ _ _ _ _ _ fNm2 m_gotCount (by decide) (by decide) (by decide) ht rfl rfl ?_ rfl
    exact z_bk0 (z_fill5 (f := fTo2)) rfl rfl rfl rfl rfl rfl rfl
  rw [xL_eq (fq_plain f_sky), xL_eq (fq_token f_tape f_words a0 (0 : Int32) m_which), xL_eq (fp_read phs pop lfi lxn lxl fBy fCo fHe fHr fTo2 fNm2 FI2 GR2 FR2 fRc2 fRe2 fBo2 fDi2 fDa2 fDk2 fDt2 fDp2 fNs2 fNf2 fNz2 a0)]
  generalize fp_read phs pop lfi lxn lxl fBy fCo fHe fHr fTo2 fNm2 FI2 GR2 FR2 fRc2 fRe2 fBo2 fDi2 fDa2 fDk2 fDt2 fDp2 fNs2 fNf2 fNz2 a0 = X9 at hq ⊢
  generalize fq_text_d f_tape f_words a0 m_lands m_feasts m_people m_deeds m_notes m_knots m_named1 m_undos m_tolds m_hasImage 27 (0 : Int32) (0 : Int32) (-1 : Int32) (fq_token f_tape f_words a0 (0 : Int32) m_which).1 (fq_token f_tape f_words a0 (0 : Int32) m_which).2.1 (fq_token f_tape f_words a0 (0 : Int32) m_which).2.2.1 (fq_token f_tape f_words a0 (0 : Int32) m_which).2.2.2 m_got (fq_plain f_sky).1 (fq_plain f_sky).2.1 (fq_plain f_sky).2.2.1 (fq_plain f_sky).2.2.2.1 (fq_plain f_sky).2.2.2.2.1 (fq_plain f_sky).2.2.2.2.2.1 (fq_plain f_sky).2.2.2.2.2.2.1 (fq_plain f_sky).2.2.2.2.2.2.2.1 (fq_plain f_sky).2.2.2.2.2.2.2.2.1 m_gotCount m_waits m_helds m_brackets (fq_plain f_sky).2.2.2.2.2.2.2.2.2.1 m_wants m_mayNot (fq_plain f_sky).2.2.2.2.2.2.2.2.2.2 f_landName f_landHas f_feastName f_first f_last f_personName f_born f_died f_deedName f_deedOn f_deedHas f_noteName f_noteHas f_knot f_part f_other f_wait f_held = Y9 at hq ⊢
  obtain ⟨q1, q2, q3, q4⟩ := hq
  by_cases e : X9.1 = -1
  · rw [if_pos e]; exact ⟨e.symm.trans q1, q2, q3⟩
  · rw [if_neg e, xL_eq]; exact ⟨q1, q2, q3⟩
