/-- the cells at the places `is` are new -/
def yset : va_W → List Nat → va_W → va_W
  | ws, i :: is, c :: cs => yset (ws.set i c) is cs
  | ws, _, _ => ws
theorem yset_P {D : va_G} {cl : List vw_C} {H : Heap} : ∀ (is : List Nat) (w1 ws : va_W), is.length = w1.length → (∀ (k : Nat) (q : Nat × va_E), w1[k]? = some q → va_at D cl q H) → (∀ (k : Nat) (q : Nat × va_E), ws[k]? = some q → k ∈ is ∨ va_at D cl q H) → va_P D cl (yset ws is w1) H
  | [], [], _, _, _, h => fun k q hk => (h k q hk).resolve_left List.not_mem_nil
  | [], _ :: _, _, hl, _, _ => absurd hl (by simp)
  | _ :: _, [], _, hl, _, _ => absurd hl (by simp)
  | i :: is, c :: cs, ws, hl, h1, h2 => by
    refine yset_P is cs (ws.set i c) (Nat.succ.inj hl) (fun k q hk => h1 (k + 1) q hk) (fun k q hk => ?_)
    by_cases e : k = i
    · subst e
      have hlt : k < (ws.set k c).length := (List.getElem?_eq_some_iff.mp hk).1
      rw [List.length_set] at hlt
      rw [List.getElem?_set_self hlt] at hk
      cases hk
      exact Or.inr (h1 0 _ rfl)
    · rw [List.getElem?_set_ne (Ne.symm e)] at hk
      rcases h2 k q hk with h | h
      · exact Or.inl ((List.mem_cons.mp h).resolve_left e)
      · exact Or.inr h
/-- the addresses of some cells -/
def yAd (wc : va_W) : Nat → Prop := fun q => ∃ (k : Nat) (e : va_E), wc[k]? = some (q, e)
theorem yAd_B (wc : va_W) : yB (yAd wc) wc := fun k q h => ⟨k, q.2, h⟩
/-- behind a case: its cells as it left them, all others as they were -/
theorem yJ {D : va_G} {cl : List vw_C} {A : Nat → Prop} {ws wc w1 : va_W} {H0 H : Heap} (hP : va_P D cl ws H0) (hD : va_D A ws) (is : List Nat) (hC : is.map (fun i => ws[i]?) = wc.map some) (hl : is.length = w1.length) (hfr : ∀ q : Nat, q < H0.size → ¬ yAd wc q → H[q]? = H0[q]?) (hP1 : va_P D cl w1 H) : va_P D cl (yset ws is w1) H := by
  refine yset_P is w1 ws hl hP1 (fun k q hk => ?_)
  by_cases hb : yAd wc q.1
  · obtain ⟨j, e, hj⟩ := hb
    have h1 : (wc.map some)[j]? = some (some (q.1, e)) := by rw [List.getElem?_map, hj]; rfl
    rw [← hC, List.getElem?_map] at h1
    cases hi : is[j]? with
    | none => rw [hi] at h1; cases h1
    | some i =>
      rw [hi] at h1
      have h2 : ws[i]? = some (q.1, e) := Option.some.inj h1
      have h3 : k = i := hD.1 k i q (q.1, e) hk h2 rfl
      exact Or.inl (h3 ▸ List.mem_of_getElem? hi)
  · exact Or.inr ((hP k q hk).kept (hfr q.1 (hP k q hk).lt hb))
/-- apart are addresses alone -/
theorem yD {A : Nat → Prop} {ws ws' : va_W} (hD : va_D A ws) (h : ws.map Prod.fst = ws'.map Prod.fst) : va_D A ws' := by
  have key : ∀ (k : Nat) (q : Nat × va_E), ws'[k]? = some q → ∃ q0, ws[k]? = some q0 ∧ q0.1 = q.1 := by
    intro k q hk
    have h1 : (ws'.map Prod.fst)[k]? = some q.1 := by rw [List.getElem?_map, hk]; rfl
    rw [← h, List.getElem?_map] at h1
    cases hw : ws[k]? with
    | none => rw [hw] at h1; cases h1
    | some z =>
      rw [hw] at h1
      exact ⟨z, rfl, Option.some.inj h1⟩
  refine ⟨fun i j x y hi hj hxy => ?_, fun k q hk => ?_⟩
  · obtain ⟨x0, h1, h2⟩ := key i x hi
    obtain ⟨y0, h3, h4⟩ := key j y hj
    exact hD.1 i j x0 y0 h1 h3 (h2.trans (hxy.trans h4.symm))
  · obtain ⟨q0, h1, h2⟩ := key k q hk
    exact h2 ▸ hD.2 k q0 h1
/-- all addresses and array classes -/
structure YA where
  x : Nat
  pa : Nat
  bk : Nat
  xsp : Nat
  xdy : Nat
  le : Nat
  xst : Nat
  xim : Nat
  xil : Nat
  xmo : Nat
  xom : Nat
  wi : Nat
  lna : Nat
  lca : Nat
  cLn : ClassId
  cLc : ClassId
  isa : Nat
  ifa : Nat
  iza : Nat
  cIs : ClassId
  cIf : ClassId
  cIz : ClassId
  ina : Nat
  ica : Nat
  cIn : ClassId
  cIc : ClassId
  cSt : ClassId
  drw : Nat
  dsh : Nat
  dto : Nat
  dmo : Nat
  dwi : Nat
  cDr : ClassId
  Rw : Nat → Nat
  cRr : ClassId
  cSh : ClassId
  cTp : ClassId
  lx : Nat
  phe : Nat
  phr : Nat
  lby : Nat
  lco : Nat
  cBy : ClassId
  cCo : ClassId
  bto : Nat
  bnm : Nat
  bla : Nat
  bsk : Nat
  bru : Nat
  bbo : Nat
  bdi : Nat
  bda : Nat
  bdk : Nat
  bdt : Nat
  bdp : Nat
  bno : Nat
  cTo : ClassId
  cNm : ClassId
  Nm : Nat → Nat
  cNr : ClassId
  cLa : ClassId
  La : Nat → Nat
  rco : Nat
  ren : Nat
  rst : Nat
  cRc : ClassId
  cRe : ClassId
  cRs : ClassId
  cBb : ClassId
  cBi : ClassId
  cDa : ClassId
  cDk : ClassId
  cDt : ClassId
  cDp : ClassId
  nsa : Nat
  nfa : Nat
  nza : Nat
  cNs : ClassId
  cNf : ClassId
  cNz : ClassId
  cHe : ClassId
  cHr : ClassId
  bto2 : Nat
  bnm2 : Nat
  bla2 : Nat
  bsk2 : Nat
  bru2 : Nat
  bbo2 : Nat
  bdi2 : Nat
  bda2 : Nat
  bdk2 : Nat
  bdt2 : Nat
  bdp2 : Nat
  bno2 : Nat
  cTo2 : ClassId
  cNm2 : ClassId
  Nm2 : Nat → Nat
  cNr2 : ClassId
  cLa2 : ClassId
  Lb : Nat → Nat
  rco2 : Nat
  ren2 : Nat
  rst2 : Nat
  cRc2 : ClassId
  cRe2 : ClassId
  cRs2 : ClassId
  cBb2 : ClassId
  cBi2 : ClassId
  cDa2 : ClassId
  cDk2 : ClassId
  cDt2 : ClassId
  cDp2 : ClassId
  nsa2 : Nat
  nfa2 : Nat
  nza2 : Nat
  cNs2 : ClassId
  cNf2 : ClassId
  cNz2 : ClassId
  mq : Nat
  rf : Nat → Nat
  ck : Nat → ClassId
  o3 : Nat
  c3 : ClassId
/-- all values -/
structure YV where
  xsc : Int32
  xik : Int32
  mla : Value
  mct : Int64
  myr : Int64
  mdy : Int64
  mlg : Int64
  ola : Value
  oct : Int64
  oyr : Int64
  ody : Int64
  olg : Int64
  w0 : Int32
  w1 : Int32
  w2 : Int32
  w3 : Int32
  w4 : Int32
  lz : Int32
  fLn : Nat → Int32
  fLc : Nat → Int32
  is : Int32
  fIs : Nat → Int32
  fIf : Nat → Int32
  fIz : Nat → Int32
  iz : Int32
  fIn : Nat → Int32
  fIc : Nat → Int32
  fSt : Nat → Int32
  dfr : Int32
  fRw : Nat → Nat → Int64
  fSh : Nat → Int32
  fTp : Nat → Int32
  dla : Value
  dct : Int64
  dyr : Int64
  ddy : Int64
  dlg : Int64
  v0 : Int32
  v1 : Int32
  v2 : Int32
  v3 : Int32
  v4 : Int32
  pbk : Value
  pfa : Int32
  pfp : Int32
  psk : Int32
  phs : Int32
  pop : Int32
  lfi : Int32
  lxe : Int32
  lxa : Int32
  lxt : Int32
  lxp : Int32
  lxn : Int32
  lxl : Int32
  fBy : Nat → Int32
  fCo : Nat → Int32
  fTo : Nat → Int32
  fNm : Nat → Nat → Int32
  FI : Nat → Int32
  GR : Nat → Int32
  FR : Nat → Int32
  wd : Int32
  wf : Int32
  mp : Int32
  mb : Int32
  mo : Int32
  sp : Int32
  sb : Int32
  rsz : Int32
  rkn : Int32
  fRc : Nat → Int32
  fRe : Nat → Int32
  fRs : Nat → Int64
  fBo : Nat → Int64
  fDi : Nat → Int64
  fDa : Nat → Int64
  fDk : Nat → Int32
  fDt : Nat → Int32
  fDp : Nat → Int32
  ns : Int32
  fNs : Nat → Int32
  fNf : Nat → Int32
  fNz : Nat → Int32
  fHe : Nat → Int32
  fHr : Nat → Int32
  fTo2 : Nat → Int32
  fNm2 : Nat → Nat → Int32
  FI2 : Nat → Int32
  GR2 : Nat → Int32
  FR2 : Nat → Int32
  wd2 : Int32
  wf2 : Int32
  mp2 : Int32
  mb2 : Int32
  mo2 : Int32
  sp2 : Int32
  sb2 : Int32
  rsz2 : Int32
  rkn2 : Int32
  fRc2 : Nat → Int32
  fRe2 : Nat → Int32
  fRs2 : Nat → Int64
  fBo2 : Nat → Int64
  fDi2 : Nat → Int64
  fDa2 : Nat → Int64
  fDk2 : Nat → Int32
  fDt2 : Nat → Int32
  fDp2 : Nat → Int32
  ns2 : Int32
  fNs2 : Nat → Int32
  fNf2 : Nat → Int32
  fNz2 : Nat → Int32
  g : Nat → Int32
  gl : Nat → Int64
  f_tape : Nat → Int32
  f_words : Nat → Int32
  f_sky : Nat → Int32
  f_landName : Nat → Int32
  f_landHas : Nat → Int32
  f_feastName : Nat → Int32
  f_first : Nat → Int32
  f_last : Nat → Int32
  f_personName : Nat → Int32
  f_born : Nat → Int64
  f_died : Nat → Int64
  f_deedName : Nat → Int32
  f_deedOn : Nat → Int64
  f_deedHas : Nat → Int32
  f_noteName : Nat → Int32
  f_noteHas : Nat → Int32
  f_knot : Nat → Int32
  f_part : Nat → Int32
  f_other : Nat → Int32
  f_wait : Nat → Int32
  f_held : Nat → Int32
  f_names : Nat → Int64
  f_value : Nat → Int64
  f_undo : Nat → Int32
  f_can : Nat → Int32
  f_root : Nat → Int32
  f_off : Nat → Int32
  f_toldNote : Nat → Int32
  f_toldCount : Nat → Int32
  f_keptHas : Nat → Int32
  f_keptNote : Nat → Int32
  f_keptCount : Nat → Int32
  f3 : Nat → Int64
/-- all cells -/
def yW (a : YA) (v : YV) : va_W := [(a.x, .inr (11, [.ref a.pa, .ref a.bk, .ref a.xsp, .ref a.xdy, .ref a.le, .ref a.xst, .int v.xsc, .ref a.xim, .ref a.xil, .int v.xik, .ref a.xmo, .ref a.xom, .ref a.wi])),
  (a.xmo, .inr (4, [v.mla, .long v.mct, .long v.myr, .long v.mdy, .long v.mlg])),
  (a.xom, .inr (4, [v.ola, .long v.oct, .long v.oyr, .long v.ody, .long v.olg])),
  (a.wi, .inr (10, [.int v.w0, .int v.w1, .int v.w2, .int v.w3, .int v.w4])),
  (a.le, .inr (2, [.int v.lz, .ref a.lna, .ref a.lca])),
  (a.lna, .inl (a.cLn, 20, .inl v.fLn)),
  (a.lca, .inl (a.cLc, 20, .inl v.fLc)),
  (a.xim, .inr (6, [.int v.is, .ref a.isa, .ref a.ifa, .ref a.iza])),
  (a.isa, .inl (a.cIs, 12, .inl v.fIs)),
  (a.ifa, .inl (a.cIf, 96, .inl v.fIf)),
  (a.iza, .inl (a.cIz, 96, .inl v.fIz)),
  (a.xil, .inr (2, [.int v.iz, .ref a.ina, .ref a.ica])),
  (a.ina, .inl (a.cIn, 20, .inl v.fIn)),
  (a.ica, .inl (a.cIc, 20, .inl v.fIc)),
  (a.xst, .inl (a.cSt, 108, .inl v.fSt)),
  (a.xdy, .inr (5, [.ref a.drw, .int v.dfr, .ref a.dsh, .ref a.dto, .ref a.dmo, .ref a.dwi])),
  (a.drw, .inl (a.cDr, 12, .inr (.inr (.inr (.inr (fun k => some (a.Rw k))))))),
  ((a.Rw 0), .inl (a.cRr, 313, .inr (.inl (v.fRw 0)))),
  ((a.Rw 1), .inl (a.cRr, 313, .inr (.inl (v.fRw 1)))),
  ((a.Rw 2), .inl (a.cRr, 313, .inr (.inl (v.fRw 2)))),
  ((a.Rw 3), .inl (a.cRr, 313, .inr (.inl (v.fRw 3)))),
  ((a.Rw 4), .inl (a.cRr, 313, .inr (.inl (v.fRw 4)))),
  ((a.Rw 5), .inl (a.cRr, 313, .inr (.inl (v.fRw 5)))),
  ((a.Rw 6), .inl (a.cRr, 313, .inr (.inl (v.fRw 6)))),
  ((a.Rw 7), .inl (a.cRr, 313, .inr (.inl (v.fRw 7)))),
  ((a.Rw 8), .inl (a.cRr, 313, .inr (.inl (v.fRw 8)))),
  ((a.Rw 9), .inl (a.cRr, 313, .inr (.inl (v.fRw 9)))),
  ((a.Rw 10), .inl (a.cRr, 313, .inr (.inl (v.fRw 10)))),
  ((a.Rw 11), .inl (a.cRr, 313, .inr (.inl (v.fRw 11)))),
  (a.dsh, .inl (a.cSh, 12, .inl v.fSh)),
  (a.dto, .inl (a.cTp, 12, .inl v.fTp)),
  (a.dmo, .inr (4, [v.dla, .long v.dct, .long v.dyr, .long v.ddy, .long v.dlg])),
  (a.dwi, .inr (10, [.int v.v0, .int v.v1, .int v.v2, .int v.v3, .int v.v4])),
  (a.pa, .inr (7, [.ref a.lx, v.pbk, .int v.pfa, .int v.pfp, .int v.psk, .ref a.phe, .ref a.phr, .int v.phs, .int v.pop])),
  (a.lx, .inr (3, [.ref a.lby, .int v.lfi, .ref a.lco, .int v.lxe, .int v.lxa, .int v.lxt, .int v.lxp, .int v.lxn, .int v.lxl])),
  (a.lby, .inl (a.cBy, 900, .inl v.fBy)),
  (a.lco, .inl (a.cCo, 23, .inl v.fCo)),
  (a.bk, .inr (0, [.ref a.bto, .ref a.bnm, .ref a.bla, .ref a.bsk, .ref a.bru, .ref a.bbo, .ref a.bdi, .ref a.bda, .ref a.bdk, .ref a.bdt, .ref a.bdp, .ref a.bno])),
  (a.bto, .inl (a.cTo, 5, .inl v.fTo)),
  (a.bnm, .inl (a.cNm, 5, .inr (.inr (.inr (.inr (fun k => some (a.Nm k))))))),
  ((a.Nm 0), .inl (a.cNr, 12, .inl (v.fNm 0))),
  ((a.Nm 1), .inl (a.cNr, 12, .inl (v.fNm 1))),
  ((a.Nm 2), .inl (a.cNr, 12, .inl (v.fNm 2))),
  ((a.Nm 3), .inl (a.cNr, 12, .inl (v.fNm 3))),
  ((a.Nm 4), .inl (a.cNr, 12, .inl (v.fNm 4))),
  (a.bla, .inl (a.cLa, 4, .inr (.inr (.inr (.inr (fun k => some (a.La k))))))),
  ((a.La 0), .inr (1, [.int (v.FI 0), .int (v.GR 0), .int (v.FR 0)])),
  ((a.La 1), .inr (1, [.int (v.FI 1), .int (v.GR 1), .int (v.FR 1)])),
  ((a.La 2), .inr (1, [.int (v.FI 2), .int (v.GR 2), .int (v.FR 2)])),
  ((a.La 3), .inr (1, [.int (v.FI 3), .int (v.GR 3), .int (v.FR 3)])),
  (a.bsk, .inr (9, [.int v.wd, .int v.wf, .int v.mp, .int v.mb, .int v.mo, .int v.sp, .int v.sb])),
  (a.bru, .inr (8, [.ref a.rco, .int v.rsz, .ref a.ren, .ref a.rst, .int v.rkn])),
  (a.rco, .inl (a.cRc, 64, .inl v.fRc)),
  (a.ren, .inl (a.cRe, 4, .inl v.fRe)),
  (a.rst, .inl (a.cRs, 64, .inr (.inl v.fRs))),
  (a.bbo, .inl (a.cBb, 6, .inr (.inl v.fBo))),
  (a.bdi, .inl (a.cBi, 6, .inr (.inl v.fDi))),
  (a.bda, .inl (a.cDa, 4, .inr (.inl v.fDa))),
  (a.bdk, .inl (a.cDk, 4, .inl v.fDk)),
  (a.bdt, .inl (a.cDt, 4, .inl v.fDt)),
  (a.bdp, .inl (a.cDp, 4, .inl v.fDp)),
  (a.bno, .inr (6, [.int v.ns, .ref a.nsa, .ref a.nfa, .ref a.nza])),
  (a.nsa, .inl (a.cNs, 12, .inl v.fNs)),
  (a.nfa, .inl (a.cNf, 96, .inl v.fNf)),
  (a.nza, .inl (a.cNz, 96, .inl v.fNz)),
  (a.phe, .inl (a.cHe, 72, .inl v.fHe)),
  (a.phr, .inl (a.cHr, 72, .inl v.fHr)),
  (a.xsp, .inr (0, [.ref a.bto2, .ref a.bnm2, .ref a.bla2, .ref a.bsk2, .ref a.bru2, .ref a.bbo2, .ref a.bdi2, .ref a.bda2, .ref a.bdk2, .ref a.bdt2, .ref a.bdp2, .ref a.bno2])),
  (a.bto2, .inl (a.cTo2, 5, .inl v.fTo2)),
  (a.bnm2, .inl (a.cNm2, 5, .inr (.inr (.inr (.inr (fun k => some (a.Nm2 k))))))),
  ((a.Nm2 0), .inl (a.cNr2, 12, .inl (v.fNm2 0))),
  ((a.Nm2 1), .inl (a.cNr2, 12, .inl (v.fNm2 1))),
  ((a.Nm2 2), .inl (a.cNr2, 12, .inl (v.fNm2 2))),
  ((a.Nm2 3), .inl (a.cNr2, 12, .inl (v.fNm2 3))),
  ((a.Nm2 4), .inl (a.cNr2, 12, .inl (v.fNm2 4))),
  (a.bla2, .inl (a.cLa2, 4, .inr (.inr (.inr (.inr (fun k => some (a.Lb k))))))),
  ((a.Lb 0), .inr (1, [.int (v.FI2 0), .int (v.GR2 0), .int (v.FR2 0)])),
  ((a.Lb 1), .inr (1, [.int (v.FI2 1), .int (v.GR2 1), .int (v.FR2 1)])),
  ((a.Lb 2), .inr (1, [.int (v.FI2 2), .int (v.GR2 2), .int (v.FR2 2)])),
  ((a.Lb 3), .inr (1, [.int (v.FI2 3), .int (v.GR2 3), .int (v.FR2 3)])),
  (a.bsk2, .inr (9, [.int v.wd2, .int v.wf2, .int v.mp2, .int v.mb2, .int v.mo2, .int v.sp2, .int v.sb2])),
  (a.bru2, .inr (8, [.ref a.rco2, .int v.rsz2, .ref a.ren2, .ref a.rst2, .int v.rkn2])),
  (a.rco2, .inl (a.cRc2, 64, .inl v.fRc2)),
  (a.ren2, .inl (a.cRe2, 4, .inl v.fRe2)),
  (a.rst2, .inl (a.cRs2, 64, .inr (.inl v.fRs2))),
  (a.bbo2, .inl (a.cBb2, 6, .inr (.inl v.fBo2))),
  (a.bdi2, .inl (a.cBi2, 6, .inr (.inl v.fDi2))),
  (a.bda2, .inl (a.cDa2, 4, .inr (.inl v.fDa2))),
  (a.bdk2, .inl (a.cDk2, 4, .inl v.fDk2)),
  (a.bdt2, .inl (a.cDt2, 4, .inl v.fDt2)),
  (a.bdp2, .inl (a.cDp2, 4, .inl v.fDp2)),
  (a.bno2, .inr (6, [.int v.ns2, .ref a.nsa2, .ref a.nfa2, .ref a.nza2])),
  (a.nsa2, .inl (a.cNs2, 12, .inl v.fNs2)),
  (a.nfa2, .inl (a.cNf2, 96, .inl v.fNf2)),
  (a.nza2, .inl (a.cNz2, 96, .inl v.fNz2)),
  (a.mq, .inr (12, mF v.g v.gl a.rf)),
  ((a.rf 0), .inl ((a.ck 0), 900, .inl v.f_tape)),
  ((a.rf 3), .inl ((a.ck 3), 118, .inl v.f_words)),
  ((a.rf 24), .inl ((a.ck 24), 14, .inl v.f_sky)),
  ((a.rf 28), .inl ((a.ck 28), 8, .inl v.f_landName)),
  ((a.rf 29), .inl ((a.ck 29), 24, .inl v.f_landHas)),
  ((a.rf 30), .inl ((a.ck 30), 8, .inl v.f_feastName)),
  ((a.rf 31), .inl ((a.ck 31), 8, .inl v.f_first)),
  ((a.rf 32), .inl ((a.ck 32), 8, .inl v.f_last)),
  ((a.rf 33), .inl ((a.ck 33), 12, .inl v.f_personName)),
  ((a.rf 34), .inl ((a.ck 34), 12, .inr (.inl v.f_born))),
  ((a.rf 35), .inl ((a.ck 35), 12, .inr (.inl v.f_died))),
  ((a.rf 36), .inl ((a.ck 36), 8, .inl v.f_deedName)),
  ((a.rf 37), .inl ((a.ck 37), 8, .inr (.inl v.f_deedOn))),
  ((a.rf 38), .inl ((a.ck 38), 24, .inl v.f_deedHas)),
  ((a.rf 39), .inl ((a.ck 39), 12, .inl v.f_noteName)),
  ((a.rf 40), .inl ((a.ck 40), 264, .inl v.f_noteHas)),
  ((a.rf 41), .inl ((a.ck 41), 128, .inl v.f_knot)),
  ((a.rf 42), .inl ((a.ck 42), 128, .inl v.f_part)),
  ((a.rf 43), .inl ((a.ck 43), 128, .inl v.f_other)),
  ((a.rf 45), .inl ((a.ck 45), 96, .inl v.f_wait)),
  ((a.rf 46), .inl ((a.ck 46), 96, .inl v.f_held)),
  ((a.rf 55), .inl ((a.ck 55), 6, .inr (.inl v.f_names))),
  ((a.rf 56), .inl ((a.ck 56), 64, .inr (.inl v.f_value))),
  ((a.rf 60), .inl ((a.ck 60), 128, .inl v.f_undo)),
  ((a.rf 61), .inl ((a.ck 61), 240000, .inl v.f_can)),
  ((a.rf 65), .inl ((a.ck 65), 12, .inl v.f_root)),
  ((a.rf 66), .inl ((a.ck 66), 12, .inl v.f_off)),
  ((a.rf 68), .inl ((a.ck 68), 20, .inl v.f_toldNote)),
  ((a.rf 69), .inl ((a.ck 69), 20, .inl v.f_toldCount)),
  ((a.rf 73), .inl ((a.ck 73), 132, .inl v.f_keptHas)),
  ((a.rf 74), .inl ((a.ck 74), 20, .inl v.f_keptNote)),
  ((a.rf 75), .inl ((a.ck 75), 20, .inl v.f_keptCount)),
  (a.o3, .inl (a.c3, 1, .inr (.inl v.f3)))]
def yK (a : YA) : List (ClassId × FieldType) := [(a.cLn, .int), (a.cLc, .int), (a.cIs, .int), (a.cIf, .int), (a.cIz, .int), (a.cIn, .int), (a.cIc, .int), (a.cSt, .int), (a.cDr, .array .long), (a.cRr, .long), (a.cSh, .int), (a.cTp, .int), (a.cBy, .byte), (a.cCo, .int), (a.cTo, .int), (a.cNm, .array .int), (a.cNr, .int), (a.cLa, .object RX1), (a.cRc, .int), (a.cRe, .int), (a.cRs, .long), (a.cBb, .long), (a.cBi, .long), (a.cDa, .long), (a.cDk, .int), (a.cDt, .int), (a.cDp, .int), (a.cNs, .int), (a.cNf, .int), (a.cNz, .int), (a.cHe, .int), (a.cHr, .int), (a.cTo2, .int), (a.cNm2, .array .int), (a.cNr2, .int), (a.cLa2, .object RX1), (a.cRc2, .int), (a.cRe2, .int), (a.cRs2, .long), (a.cBb2, .long), (a.cBi2, .long), (a.cDa2, .long), (a.cDk2, .int), (a.cDt2, .int), (a.cDp2, .int), (a.cNs2, .int), (a.cNf2, .int), (a.cNz2, .int), ((a.ck 0), .int), ((a.ck 3), .int), ((a.ck 24), .int), ((a.ck 28), .int), ((a.ck 29), .int), ((a.ck 30), .int), ((a.ck 31), .int), ((a.ck 32), .int), ((a.ck 33), .int), ((a.ck 34), .long), ((a.ck 35), .long), ((a.ck 36), .int), ((a.ck 37), .long), ((a.ck 38), .int), ((a.ck 39), .int), ((a.ck 40), .int), ((a.ck 41), .int), ((a.ck 42), .int), ((a.ck 43), .int), ((a.ck 45), .int), ((a.ck 46), .int), ((a.ck 55), .long), ((a.ck 56), .long), ((a.ck 60), .int), ((a.ck 61), .boolean), ((a.ck 65), .int), ((a.ck 66), .int), ((a.ck 68), .int), ((a.ck 69), .int), ((a.ck 73), .int), ((a.ck 74), .int), ((a.ck 75), .int), (a.c3, .long)]
