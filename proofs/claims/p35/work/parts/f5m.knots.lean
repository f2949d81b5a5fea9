def zhl (L : List Nat) (f : Nat → Int32) (h : Int32) : Prop := ¬ h < 0 ∧ L.length = h.toNatClampNeg ∧ ∀ i, i < L.length → L[i]? = some (f (L.length - 1 - i)).toNatClampNeg
theorem zsk_c {K K' : Nat → Int32} {s : Nat} : ∀ j, (∀ i, i < j → K' (s + i) = K (s + i)) → zks K' s j = zks K s j := by
  intro j
  induction j with
  | zero => intro _; rfl
  | succ j ih => intro h; rw [zks, zks, ih (fun i hi => h i (by omega)), h j (by omega)]
theorem zog_c {K P O K' P' O' : Nat → Int32} {s j : Nat} (h : ∀ i, i < j → K' (s + i) = K (s + i) ∧ P' (s + i) = P (s + i) ∧ O' (s + i) = O (s + i)) (q : zog K P O s j) : zog K' P' O' s j := by
  intro i hi
  obtain ⟨e1, e2, e3⟩ := h i hi
  have hz := zsk_c (K := K) (K' := K') (s := s) i (fun m hm => (h m (by omega)).1)
  rw [zpt, e1, e2, e3, hz]
  exact q i hi
theorem zFd_c {K P O K' P' O' : Nat → Int32} {s e : Nat} (h : ∀ i, i < e → K' i = K i ∧ P' i = P i ∧ O' i = O i) (q : zFd K P O s e) : zFd K' P' O' s e := by
  refine ⟨zog_c (fun i hi => h (s + i) (by omega)) q.1, ?_⟩
  rw [zsk_c (K := K) (K' := K') _ (fun i hi => (h (s + i) (by omega)).1)]
  exact q.2
theorem zhl_1 {L : List Nat} {f : Nat → Int32} {h : Int32} (q : zhl L f h) (h1 : ¬ h < 1) : L[0]? = some (f (h - 1).toNatClampNeg).toNatClampNeg ∧ zhl (L.drop 1) f (h - 1) := by
  have hn := xi_natP h1
  obtain ⟨q0, q1, q2⟩ := q
  refine ⟨?_, by lia, ?_, fun i hi => ?_⟩
  · rw [q2 0 (by omega), show L.length - 1 - 0 = (h - 1).toNatClampNeg by omega]
  · rw [List.length_drop, q1]; omega
  · have e : L.length - 1 - (1 + i) = (L.drop 1).length - 1 - i := by rw [List.length_drop]; omega
    rw [List.length_drop] at hi
    rw [List.getElem?_drop, q2 (1 + i) (by omega), e]
theorem zhl_p {L : List Nat} {f : Nat → Int32} {h k : Int32} (q : zhl L f h) (h9 : h ≤ 1000) : zhl (k.toNatClampNeg :: L) (upd f h.toNatClampNeg k) (h + 1) := by
  obtain ⟨q0, q1, q2⟩ := q
  have hn := xi_natS q0 h9
  refine ⟨by lia, ?_, fun i hi => ?_⟩
  · rw [List.length_cons, q1, hn]
  · have hl : (k.toNatClampNeg :: L).length = L.length + 1 := List.length_cons
    rw [hl] at hi ⊢
    cases i with
    | zero =>
      unfold upd
      rw [if_pos (by omega)]
      rfl
    | succ i =>
      unfold upd
      rw [if_neg (by omega), List.getElem?_cons_succ, q2 i (by omega), show L.length + 1 - 1 - (i + 1) = L.length - 1 - i by omega]
theorem zsk_0 {K : Nat → Int32} {s : Nat} : zks K s 0 = [] := rfl
section ZK
variable {fWa fKn fPa fOt fHd K0 P0 O0 : Nat → Int32} {s : Nat} {kn wt he br ct t a b c k : Int32}
/-- the reference in the midst of a rule that begins at knot s -/
def zQ (K0 P0 O0 : Nat → Int32) (s : Nat) (kn wt he br ct t : Int32) (fWa fKn fPa fOt fHd : Nat → Int32) : Prop :=
  (wt ≤ 72 ∧ br ≤ 8 ∧ ¬ kn < 0 ∧ kn ≤ 64 ∧ ¬ ct < 0 ∧ ct ≤ 64 ∧ kn + wt = ct + br) ∧ xW fWa wt br he t ∧ s ≤ kn.toNatClampNeg ∧ zhl (zks (fun i => fKn (64 + i)) s (kn.toNatClampNeg - s)) fHd he ∧ zog (fun i => fKn (64 + i)) (fun i => fPa (64 + i)) (fun i => fOt (64 + i)) s (kn.toNatClampNeg - s) ∧ ∀ i, i < 64 + s → fKn i = K0 i ∧ fPa i = P0 i ∧ fOt i = O0 i
theorem zQ_grow (k0 : ¬ kn < 0) (k9 : kn < 64) (hs : s ≤ kn.toNatClampNeg) (hL : zhl ((zks (fun i => fKn (64 + i)) s (kn.toNatClampNeg - s)).drop (zar a)) fHd he) (h9 : he ≤ 1000) (hg : zog (fun i => fKn (64 + i)) (fun i => fPa (64 + i)) (fun i => fOt (64 + i)) s (kn.toNatClampNeg - s)) (h2 : a = 2 → (zks (fun i => fKn (64 + i)) s (kn.toNatClampNeg - s))[0]? = some b.toNatClampNeg) (h3 : ¬ a < 3 → (zks (fun i => fKn (64 + i)) s (kn.toNatClampNeg - s))[0]? = some c.toNatClampNeg ∧ (zks (fun i => fKn (64 + i)) s (kn.toNatClampNeg - s))[1]? = some b.toNatClampNeg) (hu : ∀ i, i < 64 + s → fKn i = K0 i ∧ fPa i = P0 i ∧ fOt i = O0 i) :
    s ≤ (kn + 1).toNatClampNeg ∧ zhl (zks (fun i => upd fKn ((64 + kn).toNatClampNeg) a (64 + i)) s ((kn + 1).toNatClampNeg - s)) (upd fHd he.toNatClampNeg kn) (he + 1) ∧ zog (fun i => upd fKn ((64 + kn).toNatClampNeg) a (64 + i)) (fun i => upd fPa ((64 + kn).toNatClampNeg) b (64 + i)) (fun i => upd fOt ((64 + kn).toNatClampNeg) c (64 + i)) s ((kn + 1).toNatClampNeg - s) ∧ ∀ i, i < 64 + s → upd fKn ((64 + kn).toNatClampNeg) a i = K0 i ∧ upd fPa ((64 + kn).toNatClampNeg) b i = P0 i ∧ upd fOt ((64 + kn).toNatClampNeg) c i = O0 i := by
  have e64 : (64 + kn).toNatClampNeg = 64 + kn.toNatClampNeg := zia (by decide) (by decide) k0 (by lia)
  have hn := xi_natS k0 (by lia)
  have lo : ∀ (f : Nat → Int32) (x : Int32) (i : Nat), i < kn.toNatClampNeg → upd f ((64 + kn).toNatClampNeg) x (64 + i) = f (64 + i) := fun f x i hi => by
    unfold upd
    exact if_neg (by omega)
  have at9 : ∀ (f : Nat → Int32) (x : Int32), upd f ((64 + kn).toNatClampNeg) x (64 + kn.toNatClampNeg) = x := fun f x => by
    unfold upd
    exact if_pos e64.symm
  have hj : s + (kn.toNatClampNeg - s) = kn.toNatClampNeg := by omega
  have hc := zsk_c (K := fun i => fKn (64 + i)) (K' := fun i => upd fKn ((64 + kn).toNatClampNeg) a (64 + i)) (s := s) (kn.toNatClampNeg - s) (fun i hi => lo fKn a (s + i) (by omega))
  have hS : zks (fun i => upd fKn ((64 + kn).toNatClampNeg) a (64 + i)) s ((kn + 1).toNatClampNeg - s) = kn.toNatClampNeg :: (zks (fun i => fKn (64 + i)) s (kn.toNatClampNeg - s)).drop (zar a) := by
    rw [hn, show kn.toNatClampNeg + 1 - s = (kn.toNatClampNeg - s) + 1 by omega, zks, hc, hj]
    show kn.toNatClampNeg :: List.drop (zar (upd fKn ((64 + kn).toNatClampNeg) a (64 + kn.toNatClampNeg))) _ = _
    rw [at9]
  refine ⟨by omega, ?_, ?_, fun i hi => ?_⟩
  · rw [hS]; exact zhl_p hL h9
  · intro i hi
    by_cases z : i < kn.toNatClampNeg - s
    · have w : zog (fun i => upd fKn ((64 + kn).toNatClampNeg) a (64 + i)) (fun i => upd fPa ((64 + kn).toNatClampNeg) b (64 + i)) (fun i => upd fOt ((64 + kn).toNatClampNeg) c (64 + i)) s (kn.toNatClampNeg - s) := zog_c (fun m hm => ⟨lo fKn a (s + m) (by omega), lo fPa b (s + m) (by omega), lo fOt c (s + m) (by omega)⟩) hg
      exact w i z
    · have ei : i = kn.toNatClampNeg - s := by omega
      subst ei
      rw [zpt, hc, hj]
      show (upd fKn ((64 + kn).toNatClampNeg) a (64 + kn.toNatClampNeg) = 2 → _ = some (upd fPa ((64 + kn).toNatClampNeg) b (64 + kn.toNatClampNeg)).toNatClampNeg) ∧ (¬ upd fKn ((64 + kn).toNatClampNeg) a (64 + kn.toNatClampNeg) < 3 → _ = some (upd fOt ((64 + kn).toNatClampNeg) c (64 + kn.toNatClampNeg)).toNatClampNeg ∧ _ = some (upd fPa ((64 + kn).toNatClampNeg) b (64 + kn.toNatClampNeg)).toNatClampNeg)
      rw [at9, at9, at9]
      exact ⟨h2, h3⟩
  · unfold upd
    rw [if_neg (by omega), if_neg (by omega), if_neg (by omega)]
    exact hu i hi
theorem zar_0 (h : a < 2) : zar a = 0 := if_pos h
theorem zar_2 (h : a = 2) : zar a = 1 := by rw [h]; rfl
theorem zar_3 (h : ¬ a < 3) : zar a = 2 := by
  unfold zar
  rw [if_neg (by lia), if_neg (by lia)]
theorem zQ_lf (q : zQ K0 P0 O0 s kn wt he br ct 1 fWa fKn fPa fOt fHd) (c6 : ¬ ct = 64) (ha : a < 2) : zQ K0 P0 O0 s (kn + 1) wt (he + 1) br (ct + 1) 0 fWa (upd fKn ((64 + kn).toNatClampNeg) a) (upd fPa ((64 + kn).toNatClampNeg) b) (upd fOt ((64 + kn).toNatClampNeg) c) (upd fHd he.toNatClampNeg kn) := by
  obtain ⟨⟨b1, b2, b3, b4, b5, b6, b7⟩, hW, hs, hL, hg, hu⟩ := q
  have l1 := xW_lin hW
  have l2 := xW_h hW (by lia) (by decide) (by decide)
  have w0 := hW.1
  have g := zQ_grow (a := a) (b := b) (c := c) (he := he) b3 (by lia) hs (by rw [zar_0 ha, List.drop_zero]; exact hL) (by lia) hg (fun z => absurd ha (by rw [z]; decide)) (fun z => absurd ha (by lia)) hu
  exact ⟨⟨b1, b2, by lia, by lia, by lia, by lia, by lia⟩, xW_leaf hW (by lia) l2.1, g⟩
theorem zQ_op (q : zQ K0 P0 O0 s kn wt he br ct 1 fWa fKn fPa fOt fHd) (b8 : br < 8) : zQ K0 P0 O0 s kn (wt + 1) he (br + 1) ct 1 (upd fWa wt.toNatClampNeg 0) fKn fPa fOt fHd := by
  obtain ⟨⟨b1, b2, b3, b4, b5, b6, b7⟩, hW, hr⟩ := q
  have l1 := xW_lin hW
  have w0 := hW.1
  exact ⟨⟨by lia, by lia, b3, b4, b5, b6, by lia⟩, xW_push0 hW (by lia), hr⟩
theorem zQ_not (q : zQ K0 P0 O0 s kn wt he br ct 1 fWa fKn fPa fOt fHd) (c6 : ¬ ct = 64) : zQ K0 P0 O0 s kn (wt + 1) he br (ct + 1) 1 (upd fWa wt.toNatClampNeg 2) fKn fPa fOt fHd := by
  obtain ⟨⟨b1, b2, b3, b4, b5, b6, b7⟩, hW, hr⟩ := q
  have l1 := xW_lin hW
  have w0 := hW.1
  exact ⟨⟨by lia, by lia, b3, b4, by lia, by lia, by lia⟩, xW_push2 hW (by lia), hr⟩
theorem zQ_bin (q : zQ K0 P0 O0 s kn wt he br ct 0 fWa fKn fPa fOt fHd) (c6 : ¬ ct = 64) (hk : ¬ k < 3) : zQ K0 P0 O0 s kn (wt + 1) he br (ct + 1) 1 (upd fWa wt.toNatClampNeg k) fKn fPa fOt fHd := by
  obtain ⟨⟨b1, b2, b3, b4, b5, b6, b7⟩, hW, hr⟩ := q
  have l1 := xW_lin hW
  have w0 := hW.1
  exact ⟨⟨by lia, by lia, b3, b4, by lia, by lia, by lia⟩, xW_pushk hW (by lia) hk, hr⟩
theorem zQ_close (q : zQ K0 P0 O0 s kn wt he br ct 0 fWa fKn fPa fOt fHd) (ht : wt ≤ 0 ∨ fq_rank (fWa ((wt - 1).toNatClampNeg)) < 1) (b0 : ¬ br ≤ 0) : zQ K0 P0 O0 s kn (wt - 1) he (br - 1) ct 0 fWa fKn fPa fOt fHd := by
  obtain ⟨⟨b1, b2, b3, b4, b5, b6, b7⟩, hW, hr⟩ := q
  have l1 := xW_lin hW
  have w1 : ¬ wt < 1 := by lia
  have hk := xr_zero rfl (ht.resolve_left (by lia)) (xW_top hW w1)
  exact ⟨⟨by lia, by lia, b3, b4, b5, b6, by lia⟩, xW_pop0 hW w1 hk, hr⟩
theorem zQ_bindd {a0 : Int32} (a1 : ¬ a0 < 1) : ∀ (n : Nat) (kn wt he : Int32) (fKn fPa fOt fHd : Nat → Int32), wt.toNatClampNeg ≤ n → zQ K0 P0 O0 s kn wt he br ct 0 fWa fKn fPa fOt fHd → ∀ Y, Y = fq_bind_d fWa a0 n kn wt he fKn fPa fOt fHd → zQ K0 P0 O0 s Y.1 Y.2.1 Y.2.2.1 br ct 0 fWa Y.2.2.2.1 Y.2.2.2.2.1 Y.2.2.2.2.2.1 Y.2.2.2.2.2.2 ∧ (Y.2.1 ≤ 0 ∨ fq_rank (fWa ((Y.2.1 - 1).toNatClampNeg)) < a0) := by
  intro n
  induction n with
  | zero =>
    intro kn wt he fKn fPa fOt fHd hw q Y hY
    rw [fq_bind_d] at hY
    subst hY
    refine ⟨q, Or.inl ?_⟩
    have w0 := q.2.1.1
    have := xi_nat w0
    show wt ≤ 0
    exact Int32.le_iff_toInt_le.mpr (by have e : (0 : Int32).toInt = 0 := rfl; omega)
  | succ n ih =>
    intro kn wt he fKn fPa fOt fHd hw q Y hY
    rw [fq_bind_d] at hY
    by_cases w0 : wt ≤ 0
    · rw [if_pos w0] at hY; subst hY; exact ⟨q, Or.inl w0⟩
    rw [if_neg w0, xL_eq] at hY
    by_cases r : fq_rank (fWa ((wt - 1).toNatClampNeg)) < a0
    · rw [if_pos r] at hY; subst hY; exact ⟨q, Or.inr r⟩
    rw [if_neg r] at hY
    have w1 : ¬ wt < 1 := by lia
    have hwp := xi_natP w1
    obtain ⟨⟨b1, b2, b3, b4, b5, b6, b7⟩, hW, hs, hL, hg, hu⟩ := q
    have h1 := xW_h1 hW
    have hh := xW_h hW (by lia) (by decide) (by decide)
    obtain ⟨d0, dL⟩ := zhl_1 hL h1
    have hk := xr_pos (k := fWa ((wt - 1).toNatClampNeg)) rfl (by lia)
    by_cases k2 : fWa ((wt - 1).toNatClampNeg) = 2
    · rw [if_pos k2, xL_eq, xL_eq] at hY
      have hW2 := xW_pop2 hW w1 k2
      have l2 := xW_lin hW2
      have g := zQ_grow (a := fWa ((wt - 1).toNatClampNeg)) (b := fHd ((he - 1).toNatClampNeg)) (c := -1) (he := he - 1) b3 (by lia) hs (by rw [zar_2 k2]; exact dL) (by lia) hg (fun _ => d0) (fun z => absurd k2 (by lia)) hu
      rw [show he - 1 + 1 = he from by lia] at g
      refine ih _ _ _ _ _ _ _ (by omega) ?_ Y hY
      show zQ K0 P0 O0 s (kn + 1) (wt - 1) (he - 1 + 1) br ct 0 fWa _ _ _ _
      rw [show he - 1 + 1 = he from by lia]
      exact ⟨⟨by lia, b2, by lia, by lia, b5, b6, by lia⟩, hW2, g⟩
    · rw [if_neg k2, xL_eq, xL_eq, xL_eq] at hY
      have k3 := hk.resolve_left k2
      obtain ⟨h2, hW2⟩ := xW_popk hW w1 k3
      have l2 := xW_lin hW2
      obtain ⟨e0, eL⟩ := zhl_1 dL (by lia)
      rw [List.getElem?_drop] at e0
      rw [List.drop_drop] at eL
      have g := zQ_grow (a := fWa ((wt - 1).toNatClampNeg)) (b := fHd ((he - 1 - 1).toNatClampNeg)) (c := fHd ((he - 1).toNatClampNeg)) (he := he - 1 - 1) b3 (by lia) hs (by rw [zar_3 k3]; exact eL) (by lia) hg (fun z => absurd z k2) (fun _ => ⟨d0, e0⟩) hu
      rw [show he - 1 - 1 + 1 = he - 1 from by lia] at g
      refine ih _ _ _ _ _ _ _ (by omega) ?_ Y hY
      show zQ K0 P0 O0 s (kn + 1) (wt - 1) (he - 1 - 1 + 1) br ct 0 fWa _ _ _ _
      rw [show he - 1 - 1 + 1 = he - 1 from by lia]
      exact ⟨⟨by lia, b2, by lia, by lia, b5, b6, by lia⟩, hW2, g⟩
theorem zQ_bind {a0 : Int32} (a1 : ¬ a0 < 1) (q : zQ K0 P0 O0 s kn wt he br ct 0 fWa fKn fPa fOt fHd) {Y : Int32 × Int32 × Int32 × (Nat → Int32) × (Nat → Int32) × (Nat → Int32) × (Nat → Int32)} (hY : Y = fq_bind fKn fPa fOt fWa fHd a0 kn wt he) : zQ K0 P0 O0 s Y.1 Y.2.1 Y.2.2.1 br ct 0 fWa Y.2.2.2.1 Y.2.2.2.2.1 Y.2.2.2.2.2.1 Y.2.2.2.2.2.2 ∧ (Y.2.1 ≤ 0 ∨ fq_rank (fWa ((Y.2.1 - 1).toNatClampNeg)) < a0) := by
  refine zQ_bindd a1 96 kn wt he fKn fPa fOt fHd ?_ q Y hY
  have h1 := xi_nat q.2.1.1
  have h2 := xi_le q.1.1
  have e : (72 : Int32).toInt = 72 := rfl
  omega
theorem zQ_cnt {fa fp ap : Int32} {X : Int32 × Int32 × Int32 × Int32} (hX : X = fq_isCounted fa fp ap ct) : X.1 = 0 ∨ (¬ ct = 64 ∧ X.2.1 = ct + 1) := by
  rw [fq_isCounted] at hX
  by_cases c : ct = 64
  · rw [if_pos c, xL_eq, fq_wrong] at hX; subst hX; exact Or.inl rfl
  · rw [if_neg c] at hX; subst hX; exact Or.inr ⟨c, rfl⟩
theorem zQ_wr {w ap : Int32} {X : Int32 × Int32 × Int32} (hX : X = fq_wrong w ap) : X.1 = 0 := by
  rw [hX, fq_wrong]
theorem zQ_end (q : zQ K0 P0 O0 s kn wt he br ct 0 fWa fKn fPa fOt fHd) (ht : wt ≤ 0 ∨ fq_rank (fWa ((wt - 1).toNatClampNeg)) < 1) (b0 : br ≤ 0) : kn = ct ∧ ¬ kn < 0 ∧ kn ≤ 64 ∧ s ≤ kn.toNatClampNeg ∧ zFd (fun i => fKn (64 + i)) (fun i => fPa (64 + i)) (fun i => fOt (64 + i)) s kn.toNatClampNeg ∧ ∀ i, i < 64 + s → fKn i = K0 i ∧ fPa i = P0 i ∧ fOt i = O0 i := by
  obtain ⟨⟨b1, b2, b3, b4, b5, b6, b7⟩, hW, hs, hL, hg, hu⟩ := q
  have l1 := xW_lin hW
  have w0 := hW.1
  have hw : wt = 0 := xW_end' hW (by lia) (ht.imp (fun z => by lia) (fun z => z))
  subst hw
  have h4 := hW.2.2.2
  have e0 : (0 : Int32).toInt = 0 := rfl
  have e1 : xBn fWa (0 : Int32).toNatClampNeg = 0 := rfl
  rw [e1, e0] at h4
  have hn := xi_nat hL.1
  exact ⟨by lia, b3, b4, hs, ⟨hg, by rw [hL.2.1]; omega⟩, hu⟩
end ZK
/-- all rules that are told, in the midst of a text -/
def zFs (fr kn ct : Int32) (fst lst fKn fPa fOt : Nat → Int32) : Prop := kn = ct ∧ ¬ kn < 0 ∧ kn ≤ 64 ∧ ¬ fr < 0 ∧ fr ≤ 4 ∧ ∀ f : Nat, f < fr.toNatClampNeg → (lst (4 + f)).toNatClampNeg ≤ kn.toNatClampNeg ∧ zFd (fun i => fKn (64 + i)) (fun i => fPa (64 + i)) (fun i => fOt (64 + i)) (fst (4 + f)).toNatClampNeg (lst (4 + f)).toNatClampNeg
theorem zFs_add {fr kn ct k2 c2 : Int32} {fst lst fKn fPa fOt fKn' fPa' fOt' : Nat → Int32} (q : zFs fr kn ct fst lst fKn fPa fOt) (f4 : ¬ fr = 4) (h : k2 = c2 ∧ ¬ k2 < 0 ∧ k2 ≤ 64 ∧ kn.toNatClampNeg ≤ k2.toNatClampNeg ∧ zFd (fun i => fKn' (64 + i)) (fun i => fPa' (64 + i)) (fun i => fOt' (64 + i)) kn.toNatClampNeg k2.toNatClampNeg ∧ ∀ i, i < 64 + kn.toNatClampNeg → fKn' i = fKn i ∧ fPa' i = fPa i ∧ fOt' i = fOt i) : zFs (fr + 1) k2 c2 (upd fst ((4 + fr).toNatClampNeg) kn) (upd lst ((4 + fr).toNatClampNeg) k2) fKn' fPa' fOt' := by
  obtain ⟨q1, q2, q3, q4, q5, q6⟩ := q
  obtain ⟨h1, h2, h3, h4, h5, h6⟩ := h
  refine ⟨h1, h2, h3, by lia, by lia, fun f hf => ?_⟩
  rw [xi_natS q4 (by lia)] at hf
  have e4 : (4 + fr).toNatClampNeg = 4 + fr.toNatClampNeg := zia (by decide) (by decide) q4 (by lia)
  unfold upd
  by_cases z : f = fr.toNatClampNeg
  · rw [if_pos (by omega), if_pos (by omega)]
    exact ⟨Nat.le_refl _, h5⟩
  · rw [if_neg (by omega), if_neg (by omega)]
    obtain ⟨a1, a2⟩ := q6 f (by omega)
    exact ⟨by omega, zFd_c (fun i hi => h6 (64 + i) (by omega)) a2⟩
theorem zxC_d {ft : Nat → Int32} {st : Int32} : ∀ (n : Nat) (a b c : Int32), (fq_token_d ft st n a b c).2.1 = 3 := by
  intro n
  induction n with
  | zero => intro a b c; rw [fq_token_d, xL_eq]
  | succ n ih =>
    intro a b c
    rw [fq_token_d, xL_eq]
    by_cases k : fq_isDigit ft a st = 0
    · rw [if_pos k]
    · rw [if_neg k, xL_eq]; exact ih _ _ _
theorem zxC_0 {k w : Int32} (h : ¬ k = 5) : xC k w := fun z => absurd z h
theorem zxC_s {ft : Nat → Int32} {st nx : Int32} : xC (fq_signToken ft st nx).2.1 (fq_signToken ft st nx).2.2 := by
  rw [fq_signToken]
  by_cases a : ft nx.toNatClampNeg = 60
  · rw [if_pos a, xL_eq, xL_eq, xL_eq, xL_eq, xL_eq]
    intro _
    show ¬ fq_signToken_f ft nx _ _ < 0 ∧ fq_signToken_f ft nx _ _ ≤ 5
    generalize fq_signToken_b ft nx (fq_signToken_a ft st nx) = x
    generalize fq_signToken_d (fq_signToken_a ft st nx) = y
    rw [fq_signToken_f]
    by_cases b : ft nx.toNatClampNeg = 61
    · rw [if_pos b]; decide
    rw [if_neg b]
    by_cases c : x = 0
    · rw [if_pos c]
      by_cases d : y = 0
      · rw [if_pos d]; decide
      · rw [if_neg d]; decide
    · rw [if_neg c]; decide
  rw [if_neg a]
  by_cases a2 : ft nx.toNatClampNeg = 62
  · rw [if_pos a2, xL_eq, xL_eq, xL_eq, xL_eq, xL_eq]
    intro _
    show ¬ fq_signToken_f2 ft nx _ < 0 ∧ fq_signToken_f2 ft nx _ ≤ 5
    generalize fq_signToken_b2 ft nx (fq_signToken_a2 ft st nx) = x
    rw [fq_signToken_f2]
    by_cases b : ft nx.toNatClampNeg = 61
    · rw [if_pos b]; decide
    rw [if_neg b]
    by_cases c : x = 0
    · rw [if_pos c]; decide
    · rw [if_neg c]; decide
  rw [if_neg a2]
  by_cases a3 : ft nx.toNatClampNeg = 61
  · rw [if_pos a3, xL_eq, xL_eq, xL_eq, xL_eq, xL_eq]
    intro _
    show ¬ fq_signToken_f3 < 0 ∧ fq_signToken_f3 ≤ 5
    decide
  rw [if_neg a3, xL_eq]
  by_cases b : fq_signToken_h ft nx = 0
  · rw [if_pos b]; exact zxC_0 (show ¬ (6 : Int32) = 5 by decide)
  · rw [if_neg b]; exact zxC_0 (show ¬ (4 : Int32) = 5 by decide)
theorem zxC_e {a b r : Int32} : ¬ (fq_token_e a b r).1 = 5 := by
  rw [fq_token_e]
  by_cases c : r < 0
  · rw [if_pos c]
    by_cases d : b - a ≤ 6
    · rw [if_pos d]; show ¬ (2 : Int32) = 5; decide
    · rw [if_neg d]; show ¬ (6 : Int32) = 5; decide
  · rw [if_neg c]; show ¬ (1 : Int32) = 5; decide
theorem zxC {ft fw : Nat → Int32} {st nx wh : Int32} : xC (fq_token ft fw st nx wh).2.1 (fq_token ft fw st nx wh).2.2.1 := by
  rw [fq_token, xL_eq]
  generalize fq_token_a ft st 900 nx = X
  by_cases a : X = st
  · rw [if_pos a]; exact zxC_0 (show ¬ (0 : Int32) = 5 by decide)
  rw [if_neg a, xL_eq]
  by_cases b : fq_isSmall ft X st = 0
  · rw [if_pos b, xL_eq]
    by_cases c : fq_isDigit ft X st = 0
    · rw [if_pos c, xL_eq]; exact zxC_s
    · rw [if_neg c]; exact zxC_0 (by rw [zxC_d]; decide)
  · rw [if_neg b, xL_eq, xL_eq, xL_eq]
    have h := zxC_e (a := X) (b := fq_token_b ft st 900 X) (r := fq_wordAt ft fw X (fq_token_b ft st 900 X))
    generalize fq_token_e X (fq_token_b ft st 900 X) (fq_wordAt ft fw X (fq_token_b ft st 900 X)) = E at *
    by_cases c : E.1 = 2
    · rw [if_pos c, xL_eq]; exact zxC_0 h
    · rw [if_neg c]; exact zxC_0 h
theorem zxC_n {ft fw fna : Nat → Int32} {a0 fa fp st nx kd wh ap : Int32} {X : Int32 × (Nat → Int32) × Int32 × Int32 × Int32 × Int32 × Int32 × Int32} (hX : X = fq_newName8 ft fw fna a0 fa fp st nx kd wh ap) : X.1 = 0 ∨ xC X.2.2.2.1 X.2.2.2.2.1 := by
  rw [fq_newName8] at hX
  by_cases a : kd = 2
  · rw [if_pos a, xL_eq] at hX
    by_cases b : fq_find8_4 fna a0 wh < 0
    · rw [if_pos b, xL_eq] at hX; subst hX; exact Or.inr zxC
    · rw [if_neg b, xL_eq, fq_wrong] at hX; subst hX; exact Or.inl rfl
  · rw [if_neg a, xL_eq, fq_wrong] at hX; subst hX; exact Or.inl rfl
theorem zxC_k {kd wh : Int32} (h : xC kd wh) : fq_signs_k kd wh = 0 ∨ ¬ fq_signs_k kd wh < 3 := by
  generalize hY : fq_signs_k kd wh = Y
  have hY := hY.symm
  rw [fq_signs_k] at hY
  refine zl_xL hY (fun r_98 hr_98 hY => ?_)
  refine zl_if hY (fun c1 hY => ?_) (fun c1 hY => ?_)
  · refine zl_xL hY (fun r_100 hr_100 hY => ?_)
    refine zl_if hY (fun c2 hY => ?_) (fun c2 hY => ?_)
    · refine zl_if hY (fun c3 hY => ?_) (fun c3 hY => ?_)
      · subst hY
        exact Or.inr (by have h9 := h c3; lia)
      · refine zl_xL hY (fun r_103 hr_103 hY => ?_)
        refine zl_if hY (fun c4 hY => ?_) (fun c4 hY => ?_)
        · refine zl_xL hY (fun r_105 hr_105 hY => ?_)
          refine zl_if hY (fun c5 hY => ?_) (fun c5 hY => ?_)
          · refine zl_xL hY (fun r_107 hr_107 hY => ?_)
            refine zl_if hY (fun c6 hY => ?_) (fun c6 hY => ?_)
            · refine zl_xL hY (fun r_109 hr_109 hY => ?_)
              refine zl_if hY (fun c7 hY => ?_) (fun c7 hY => ?_)
              · refine zl_xL hY (fun r_111 hr_111 hY => ?_)
                refine zl_if hY (fun c8 hY => ?_) (fun c8 hY => ?_)
                · subst hY
                  exact Or.inl rfl
                · subst hY
                  exact Or.inr (by decide)
              · subst hY
                exact Or.inr (by decide)
            · subst hY
              exact Or.inr (by decide)
          · subst hY
            exact Or.inr (by decide)
        · subst hY
          exact Or.inr (by decide)
    · subst hY
      exact Or.inr (by decide)
  · subst hY
    exact Or.inr (by decide)
theorem zxC_k2 {kd wh : Int32} (h : xC kd wh) : fq_signs_k2 kd wh = 0 ∨ ¬ fq_signs_k2 kd wh < 3 := zxC_k h
theorem zQ_leafRead {ft fw fKn fPa fOt fWa fHd K0 P0 O0 : Nat → Int32} {s : Nat} {fa fp st nx kd wh ap kn wt he br ct mn : Int32} (q : zQ K0 P0 O0 s kn wt he br ct 1 fWa fKn fPa fOt fHd) {Y : Int32 × (Nat → Int32) × (Nat → Int32) × (Nat → Int32) × (Nat → Int32) × Int32 × Int32 × Int32 × Int32 × Int32 × Int32 × Int32 × Int32 × Int32 × Int32 × (Nat → Int32) × Int32 × Int32 × Int32} (hY : Y = fq_leafRead ft fw fKn fPa fOt fWa fHd fa fp st nx kd wh ap kn wt he br ct 1 mn) : (∀ i, i < 64 + s → Y.2.1 i = K0 i ∧ Y.2.2.1 i = P0 i ∧ Y.2.2.2.1 i = O0 i) ∧ (Y.1 = 0 ∨ (zQ K0 P0 O0 s Y.2.2.2.2.2.2.2.2.2.2.2.1 Y.2.2.2.2.2.2.2.2.2.2.2.2.2.2.2.2.1 Y.2.2.2.2.2.2.2.2.2.2.2.2.1 Y.2.2.2.2.2.2.2.2.2.2.2.2.2.2.2.2.2.1 Y.2.2.2.2.2.2.2.2.2.2.2.2.2.1 Y.2.2.2.2.2.2.2.2.2.2.2.2.2.2.1 Y.2.2.2.2.2.2.2.2.2.2.2.2.2.2.2.1 Y.2.1 Y.2.2.1 Y.2.2.2.1 Y.2.2.2.2.1 ∧ (Y.2.2.2.2.2.2.2.2.2.2.2.2.2.2.1 = 0 ∨ Y.2.2.2.2.2.2.2.2.2.2.2.2.2.2.1 = 1) ∧ xC Y.2.2.2.2.2.2.2.2.1 Y.2.2.2.2.2.2.2.2.2.1)) := by
  rw [fq_leafRead] at hY
  refine zl_xL hY (fun r_1 hr_1 hY => ?_)
  refine zl_if hY (fun c1 hY => ?_) (fun c1 hY => ?_)
  · refine zl_xL hY (fun r_3 hr_3 hY => ?_)
    refine zl_if hY (fun c2 hY => ?_) (fun c2 hY => ?_)
    · refine zl_xL hY (fun r_5 hr_5 hY => ?_)
      refine zl_if hY (fun c3 hY => ?_) (fun c3 hY => ?_)
      · refine zl_xL hY (fun X_18 hX_18 hY => ?_)
        refine zl_if hY (fun c4 hY => ?_) (fun c4 hY => ?_)
        · subst hY
          exact ⟨q.2.2.2.2.2, Or.inl rfl⟩
        · refine zl_if hY (fun c5 hY => ?_) (fun c5 hY => ?_)
          · refine zl_xL hY (fun u_23 hu_23 hY => ?_)
            refine zl_xL hY (fun u_31 hu_31 hY => ?_)
            have hx := zxC (ft := ft) (fw := fw) (st := st) (nx := nx) (wh := wh)
            rw [← hu_31] at hx
            obtain ⟨k1, k2⟩ := (zQ_cnt hX_18).resolve_left c4
            have q2 := zQ_lf (a := (0 : Int32)) (b := wh) (c := (0 : Int32)) q k1 (by decide)
            rw [fq_grown] at hu_23
            subst hu_23
            rw [← k2] at q2
            subst hY
            exact ⟨q2.2.2.2.2.2, Or.inr ⟨q2, Or.inl rfl, hx⟩⟩
          · refine zl_xL hY (fun u_41 hu_41 hY => ?_)
            refine zl_xL hY (fun u_49 hu_49 hY => ?_)
            have hx := zxC (ft := ft) (fw := fw) (st := st) (nx := nx) (wh := wh)
            rw [← hu_49] at hx
            obtain ⟨k1, k2⟩ := (zQ_cnt hX_18).resolve_left c4
            have q2 := zQ_lf (a := (1 : Int32)) (b := r_5) (c := (0 : Int32)) q k1 (by decide)
            rw [fq_grown] at hu_41
            subst hu_41
            rw [← k2] at q2
            subst hY
            exact ⟨q2.2.2.2.2.2, Or.inr ⟨q2, Or.inl rfl, hx⟩⟩
      · refine zl_if hY (fun c6 hY => ?_) (fun c6 hY => ?_)
        · refine zl_if hY (fun c7 hY => ?_) (fun c7 hY => ?_)
          · refine zl_xL hY (fun X_68 hX_68 hY => ?_)
            refine zl_if hY (fun c8 hY => ?_) (fun c8 hY => ?_)
            · subst hY
              exact ⟨q.2.2.2.2.2, Or.inl rfl⟩
            · refine zl_if hY (fun c9 hY => ?_) (fun c9 hY => ?_)
              · refine zl_xL hY (fun u_73 hu_73 hY => ?_)
                refine zl_xL hY (fun u_81 hu_81 hY => ?_)
                have hx := zxC (ft := ft) (fw := fw) (st := st) (nx := nx) (wh := wh)
                rw [← hu_81] at hx
                obtain ⟨k1, k2⟩ := (zQ_cnt hX_68).resolve_left c8
                have q2 := zQ_lf (a := (0 : Int32)) (b := wh) (c := (0 : Int32)) q k1 (by decide)
                rw [fq_grown] at hu_73
                subst hu_73
                rw [← k2] at q2
                subst hY
                exact ⟨q2.2.2.2.2.2, Or.inr ⟨q2, Or.inl rfl, hx⟩⟩
              · refine zl_xL hY (fun u_91 hu_91 hY => ?_)
                refine zl_xL hY (fun u_99 hu_99 hY => ?_)
                have hx := zxC (ft := ft) (fw := fw) (st := st) (nx := nx) (wh := wh)
                rw [← hu_99] at hx
                obtain ⟨k1, k2⟩ := (zQ_cnt hX_68).resolve_left c8
                have q2 := zQ_lf (a := (1 : Int32)) (b := r_5) (c := (0 : Int32)) q k1 (by decide)
                rw [fq_grown] at hu_91
                subst hu_91
                rw [← k2] at q2
                subst hY
                exact ⟨q2.2.2.2.2.2, Or.inr ⟨q2, Or.inl rfl, hx⟩⟩
          · refine zl_xL hY (fun X_112 hX_112 hY => ?_)
            subst hY
            exact ⟨q.2.2.2.2.2, Or.inl (zQ_wr hX_112)⟩
        · refine zl_xL hY (fun X_118 hX_118 hY => ?_)
          subst hY
          exact ⟨q.2.2.2.2.2, Or.inl (zQ_wr hX_118)⟩
    · refine zl_if hY (fun c10 hY => ?_) (fun c10 hY => ?_)
      · refine zl_xL hY (fun r_120 hr_120 hY => ?_)
        refine zl_if hY (fun c11 hY => ?_) (fun c11 hY => ?_)
        · refine zl_xL hY (fun X_133 hX_133 hY => ?_)
          refine zl_if hY (fun c12 hY => ?_) (fun c12 hY => ?_)
          · subst hY
            exact ⟨q.2.2.2.2.2, Or.inl rfl⟩
          · refine zl_if hY (fun c13 hY => ?_) (fun c13 hY => ?_)
            · refine zl_xL hY (fun u_138 hu_138 hY => ?_)
              refine zl_xL hY (fun u_146 hu_146 hY => ?_)
              have hx := zxC (ft := ft) (fw := fw) (st := st) (nx := nx) (wh := wh)
              rw [← hu_146] at hx
              obtain ⟨k1, k2⟩ := (zQ_cnt hX_133).resolve_left c12
              have q2 := zQ_lf (a := (0 : Int32)) (b := wh) (c := (0 : Int32)) q k1 (by decide)
              rw [fq_grown] at hu_138
              subst hu_138
              rw [← k2] at q2
              subst hY
              exact ⟨q2.2.2.2.2.2, Or.inr ⟨q2, Or.inl rfl, hx⟩⟩
            · refine zl_xL hY (fun u_156 hu_156 hY => ?_)
              refine zl_xL hY (fun u_164 hu_164 hY => ?_)
              have hx := zxC (ft := ft) (fw := fw) (st := st) (nx := nx) (wh := wh)
              rw [← hu_164] at hx
              obtain ⟨k1, k2⟩ := (zQ_cnt hX_133).resolve_left c12
              have q2 := zQ_lf (a := (1 : Int32)) (b := r_120) (c := (0 : Int32)) q k1 (by decide)
              rw [fq_grown] at hu_156
              subst hu_156
              rw [← k2] at q2
              subst hY
              exact ⟨q2.2.2.2.2.2, Or.inr ⟨q2, Or.inl rfl, hx⟩⟩
        · refine zl_if hY (fun c14 hY => ?_) (fun c14 hY => ?_)
          · refine zl_if hY (fun c15 hY => ?_) (fun c15 hY => ?_)
            · refine zl_xL hY (fun X_183 hX_183 hY => ?_)
              refine zl_if hY (fun c16 hY => ?_) (fun c16 hY => ?_)
              · subst hY
                exact ⟨q.2.2.2.2.2, Or.inl rfl⟩
              · refine zl_if hY (fun c17 hY => ?_) (fun c17 hY => ?_)
                · refine zl_xL hY (fun u_188 hu_188 hY => ?_)
                  refine zl_xL hY (fun u_196 hu_196 hY => ?_)
                  have hx := zxC (ft := ft) (fw := fw) (st := st) (nx := nx) (wh := wh)
                  rw [← hu_196] at hx
                  obtain ⟨k1, k2⟩ := (zQ_cnt hX_183).resolve_left c16
                  have q2 := zQ_lf (a := (0 : Int32)) (b := wh) (c := (0 : Int32)) q k1 (by decide)
                  rw [fq_grown] at hu_188
                  subst hu_188
                  rw [← k2] at q2
                  subst hY
                  exact ⟨q2.2.2.2.2.2, Or.inr ⟨q2, Or.inl rfl, hx⟩⟩
                · refine zl_xL hY (fun u_206 hu_206 hY => ?_)
                  refine zl_xL hY (fun u_214 hu_214 hY => ?_)
                  have hx := zxC (ft := ft) (fw := fw) (st := st) (nx := nx) (wh := wh)
                  rw [← hu_214] at hx
                  obtain ⟨k1, k2⟩ := (zQ_cnt hX_183).resolve_left c16
                  have q2 := zQ_lf (a := (1 : Int32)) (b := r_120) (c := (0 : Int32)) q k1 (by decide)
                  rw [fq_grown] at hu_206
                  subst hu_206
                  rw [← k2] at q2
                  subst hY
                  exact ⟨q2.2.2.2.2.2, Or.inr ⟨q2, Or.inl rfl, hx⟩⟩
            · refine zl_xL hY (fun X_227 hX_227 hY => ?_)
              subst hY
              exact ⟨q.2.2.2.2.2, Or.inl (zQ_wr hX_227)⟩
          · refine zl_xL hY (fun X_233 hX_233 hY => ?_)
            subst hY
            exact ⟨q.2.2.2.2.2, Or.inl (zQ_wr hX_233)⟩
      · refine zl_xL hY (fun X_242 hX_242 hY => ?_)
        refine zl_if hY (fun c18 hY => ?_) (fun c18 hY => ?_)
        · subst hY
          exact ⟨q.2.2.2.2.2, Or.inl rfl⟩
        · refine zl_xL hY (fun u_245 hu_245 hY => ?_)
          refine zl_xL hY (fun u_249 hu_249 hY => ?_)
          have hx := zxC (ft := ft) (fw := fw) (st := st) (nx := nx) (wh := wh)
          rw [← hu_249] at hx
          obtain ⟨k1, k2⟩ := (zQ_cnt hX_242).resolve_left c18
          have q2 := zQ_not q k1
          rw [← k2] at q2
          rw [fq_waitsFor] at hu_245
          subst hu_245
          subst hY
          exact ⟨q2.2.2.2.2.2, Or.inr ⟨q2, Or.inr rfl, hx⟩⟩
  · refine zl_if hY (fun c19 hY => ?_) (fun c19 hY => ?_)
    · refine zl_xL hY (fun X_276 hX_276 hY => ?_)
      subst hY
      exact ⟨q.2.2.2.2.2, Or.inl (zQ_wr hX_276)⟩
    · refine zl_xL hY (fun u_259 hu_259 hY => ?_)
      refine zl_xL hY (fun u_263 hu_263 hY => ?_)
      have hx := zxC (ft := ft) (fw := fw) (st := st) (nx := nx) (wh := wh)
      rw [← hu_263] at hx
      have q2 := zQ_op q (by have b9 := q.1.2.1; lia)
      rw [fq_waitsFor] at hu_259
      subst hu_259
      subst hY
      exact ⟨q2.2.2.2.2.2, Or.inr ⟨q2, Or.inr rfl, hx⟩⟩
theorem zQ_sgc {ft fw fWa fKn fPa fOt fHd K0 P0 O0 : Nat → Int32} {s : Nat} {fa fp st nx kd wh ap br ct wn mn k kn wt he : Int32} (q : zQ K0 P0 O0 s kn wt he br ct 0 fWa fKn fPa fOt fHd) (hk : ¬ k < 3) {Y : Int32 × (Nat → Int32) × (Nat → Int32) × (Nat → Int32) × (Nat → Int32) × Int32 × Int32 × Int32 × Int32 × Int32 × Int32 × Int32 × Int32 × Int32 × Int32 × (Nat → Int32) × Int32 × Int32 × Int32} (hY : Y = fq_signs_c ft fw fWa fa fp st nx kd wh ap br ct wn mn k kn wt he fKn fPa fOt fHd) : (∀ i, i < 64 + s → Y.2.1 i = K0 i ∧ Y.2.2.1 i = P0 i ∧ Y.2.2.2.1 i = O0 i) ∧ (Y.1 = 0 ∨ (zQ K0 P0 O0 s Y.2.2.2.2.2.2.2.2.2.1 Y.2.2.2.2.2.2.2.2.2.2.1 Y.2.2.2.2.2.2.2.2.2.2.2.1 Y.2.2.2.2.2.2.2.2.2.2.2.2.1 Y.2.2.2.2.2.2.2.2.2.2.2.2.2.2.2.2.1 Y.2.2.2.2.2.2.2.2.2.2.2.2.2.2.2.2.2.1 Y.2.2.2.2.2.2.2.2.2.2.2.2.2.2.2.1 Y.2.1 Y.2.2.1 Y.2.2.2.1 Y.2.2.2.2.1 ∧ (Y.2.2.2.2.2.2.2.2.2.2.2.2.2.2.2.2.2.1 = 0 ∨ Y.2.2.2.2.2.2.2.2.2.2.2.2.2.2.2.2.2.1 = 1) ∧ xC Y.2.2.2.2.2.2.1 Y.2.2.2.2.2.2.2.1)) := by
  rw [fq_signs_c] at hY
  refine zl_xL hY (fun X_17 hX_17 hY => ?_)
  refine zl_if hY (fun c1 hY => ?_) (fun c1 hY => ?_)
  · subst hY
    exact ⟨q.2.2.2.2.2, Or.inl rfl⟩
  · refine zl_xL hY (fun u_20 hu_20 hY => ?_)
    refine zl_xL hY (fun r_23 hr_23 hY => ?_)
    refine zl_if hY (fun c2 hY => ?_) (fun c2 hY => ?_)
    · refine zl_xL hY (fun u_26 hu_26 hY => ?_)
      have hx := zxC (ft := ft) (fw := fw) (st := st) (nx := nx) (wh := wh)
      rw [← hu_26] at hx
      obtain ⟨k1, k2⟩ := (zQ_cnt hX_17).resolve_left c1
      have q2 := zQ_bin q k1 hk
      rw [← k2] at q2
      rw [fq_waitsFor] at hu_20
      subst hu_20
      subst hY
      exact ⟨q2.2.2.2.2.2, Or.inr ⟨q2, Or.inr rfl, hx⟩⟩
    · refine zl_xL hY (fun u_35 hu_35 hY => ?_)
      have hx := zxC (ft := ft) (fw := fw) (st := st) (nx := nx) (wh := wh)
      rw [← hu_35] at hx
      obtain ⟨k1, k2⟩ := (zQ_cnt hX_17).resolve_left c1
      have q2 := zQ_bin q k1 hk
      rw [← k2] at q2
      rw [fq_waitsFor] at hu_20
      subst hu_20
      subst hY
      exact ⟨q2.2.2.2.2.2, Or.inr ⟨q2, Or.inr rfl, hx⟩⟩
theorem zQ_sgb {ft fw fWa fKn fPa fOt fHd K0 P0 O0 : Nat → Int32} {s : Nat} {fa fp st nx kd wh ap br ct wn mn k kn wt he : Int32} (q : zQ K0 P0 O0 s kn wt he br ct 0 fWa fKn fPa fOt fHd) (hk : ¬ k < 3) {Y : Int32 × (Nat → Int32) × (Nat → Int32) × (Nat → Int32) × (Nat → Int32) × Int32 × Int32 × Int32 × Int32 × Int32 × Int32 × Int32 × Int32 × Int32 × Int32 × (Nat → Int32) × Int32 × Int32 × Int32} (hY : Y = fq_signs_b ft fw fWa fa fp st nx kd wh ap br ct wn mn k kn wt he fKn fPa fOt fHd) : (∀ i, i < 64 + s → Y.2.1 i = K0 i ∧ Y.2.2.1 i = P0 i ∧ Y.2.2.2.1 i = O0 i) ∧ (Y.1 = 0 ∨ (zQ K0 P0 O0 s Y.2.2.2.2.2.2.2.2.2.1 Y.2.2.2.2.2.2.2.2.2.2.1 Y.2.2.2.2.2.2.2.2.2.2.2.1 Y.2.2.2.2.2.2.2.2.2.2.2.2.1 Y.2.2.2.2.2.2.2.2.2.2.2.2.2.2.2.2.1 Y.2.2.2.2.2.2.2.2.2.2.2.2.2.2.2.2.2.1 Y.2.2.2.2.2.2.2.2.2.2.2.2.2.2.2.1 Y.2.1 Y.2.2.1 Y.2.2.2.1 Y.2.2.2.2.1 ∧ (Y.2.2.2.2.2.2.2.2.2.2.2.2.2.2.2.2.2.1 = 0 ∨ Y.2.2.2.2.2.2.2.2.2.2.2.2.2.2.2.2.2.1 = 1) ∧ xC Y.2.2.2.2.2.2.1 Y.2.2.2.2.2.2.2.1)) := by
  rw [fq_signs_b] at hY
  refine zl_xL hY (fun r_7 hr_7 hY => ?_)
  refine zl_if hY (fun c1 hY => ?_) (fun c1 hY => ?_)
  · refine zl_if hY (fun c2 hY => ?_) (fun c2 hY => ?_)
    · exact zQ_sgc q hk hY
    · refine zl_xL hY (fun r_45 hr_45 hY => ?_)
      refine zl_if hY (fun c3 hY => ?_) (fun c3 hY => ?_)
      · refine zl_xL hY (fun X_52 hX_52 hY => ?_)
        subst hY
        exact ⟨q.2.2.2.2.2, Or.inl (zQ_wr hX_52)⟩
      · exact zQ_sgc q hk hY
  · exact zQ_sgc q hk hY
theorem zQ_sgc2 {ft fw fWa fKn fPa fOt fHd K0 P0 O0 : Nat → Int32} {s : Nat} {fa fp st nx kd wh ap br ct wn mn k kn wt he : Int32} (q : zQ K0 P0 O0 s kn wt he br ct 0 fWa fKn fPa fOt fHd) (hk : ¬ k < 3) {Y : Int32 × (Nat → Int32) × (Nat → Int32) × (Nat → Int32) × (Nat → Int32) × Int32 × Int32 × Int32 × Int32 × Int32 × Int32 × Int32 × Int32 × Int32 × Int32 × (Nat → Int32) × Int32 × Int32 × Int32} (hY : Y = fq_signs_c2 ft fw fWa fa fp st nx kd wh ap br ct wn mn k kn wt he fKn fPa fOt fHd) : (∀ i, i < 64 + s → Y.2.1 i = K0 i ∧ Y.2.2.1 i = P0 i ∧ Y.2.2.2.1 i = O0 i) ∧ (Y.1 = 0 ∨ (zQ K0 P0 O0 s Y.2.2.2.2.2.2.2.2.2.1 Y.2.2.2.2.2.2.2.2.2.2.1 Y.2.2.2.2.2.2.2.2.2.2.2.1 Y.2.2.2.2.2.2.2.2.2.2.2.2.1 Y.2.2.2.2.2.2.2.2.2.2.2.2.2.2.2.2.1 Y.2.2.2.2.2.2.2.2.2.2.2.2.2.2.2.2.2.1 Y.2.2.2.2.2.2.2.2.2.2.2.2.2.2.2.1 Y.2.1 Y.2.2.1 Y.2.2.2.1 Y.2.2.2.2.1 ∧ (Y.2.2.2.2.2.2.2.2.2.2.2.2.2.2.2.2.2.1 = 0 ∨ Y.2.2.2.2.2.2.2.2.2.2.2.2.2.2.2.2.2.1 = 1) ∧ xC Y.2.2.2.2.2.2.1 Y.2.2.2.2.2.2.2.1)) := zQ_sgc q hk hY
theorem zQ_sgb2 {ft fw fWa fKn fPa fOt fHd K0 P0 O0 : Nat → Int32} {s : Nat} {fa fp st nx kd wh ap br ct wn mn k kn wt he : Int32} (q : zQ K0 P0 O0 s kn wt he br ct 0 fWa fKn fPa fOt fHd) (hk : ¬ k < 3) {Y : Int32 × (Nat → Int32) × (Nat → Int32) × (Nat → Int32) × (Nat → Int32) × Int32 × Int32 × Int32 × Int32 × Int32 × Int32 × Int32 × Int32 × Int32 × Int32 × (Nat → Int32) × Int32 × Int32 × Int32} (hY : Y = fq_signs_b2 ft fw fWa fa fp st nx kd wh ap br ct wn mn k kn wt he fKn fPa fOt fHd) : (∀ i, i < 64 + s → Y.2.1 i = K0 i ∧ Y.2.2.1 i = P0 i ∧ Y.2.2.2.1 i = O0 i) ∧ (Y.1 = 0 ∨ (zQ K0 P0 O0 s Y.2.2.2.2.2.2.2.2.2.1 Y.2.2.2.2.2.2.2.2.2.2.1 Y.2.2.2.2.2.2.2.2.2.2.2.1 Y.2.2.2.2.2.2.2.2.2.2.2.2.1 Y.2.2.2.2.2.2.2.2.2.2.2.2.2.2.2.2.1 Y.2.2.2.2.2.2.2.2.2.2.2.2.2.2.2.2.2.1 Y.2.2.2.2.2.2.2.2.2.2.2.2.2.2.2.1 Y.2.1 Y.2.2.1 Y.2.2.2.1 Y.2.2.2.2.1 ∧ (Y.2.2.2.2.2.2.2.2.2.2.2.2.2.2.2.2.2.1 = 0 ∨ Y.2.2.2.2.2.2.2.2.2.2.2.2.2.2.2.2.2.1 = 1) ∧ xC Y.2.2.2.2.2.2.1 Y.2.2.2.2.2.2.2.1)) := by
  rw [fq_signs_b2] at hY
  refine zl_xL hY (fun r_118 hr_118 hY => ?_)
  refine zl_if hY (fun c1 hY => ?_) (fun c1 hY => ?_)
  · refine zl_if hY (fun c2 hY => ?_) (fun c2 hY => ?_)
    · exact zQ_sgc2 q hk hY
    · refine zl_xL hY (fun r_156 hr_156 hY => ?_)
      refine zl_if hY (fun c3 hY => ?_) (fun c3 hY => ?_)
      · refine zl_xL hY (fun X_163 hX_163 hY => ?_)
        subst hY
        exact ⟨q.2.2.2.2.2, Or.inl (zQ_wr hX_163)⟩
      · exact zQ_sgc2 q hk hY
  · exact zQ_sgc2 q hk hY
theorem zQ_signs {ft fw fKn fPa fOt fWa fHd K0 P0 O0 : Nat → Int32} {s : Nat} {fa fp st nx kd wh ap kn wt he br ct mn : Int32} (q : zQ K0 P0 O0 s kn wt he br ct 0 fWa fKn fPa fOt fHd) (hx : xC kd wh) {Y : Int32 × (Nat → Int32) × (Nat → Int32) × (Nat → Int32) × (Nat → Int32) × Int32 × Int32 × Int32 × Int32 × Int32 × Int32 × Int32 × Int32 × Int32 × Int32 × (Nat → Int32) × Int32 × Int32 × Int32} (hY : Y = fq_signs ft fw fKn fPa fOt fWa fHd fa fp st nx kd wh ap kn wt he br ct 0 mn) : (∀ i, i < 64 + s → Y.2.1 i = K0 i ∧ Y.2.2.1 i = P0 i ∧ Y.2.2.2.1 i = O0 i) ∧ (Y.1 = 0 ∨ (zQ K0 P0 O0 s Y.2.2.2.2.2.2.2.2.2.1 Y.2.2.2.2.2.2.2.2.2.2.1 Y.2.2.2.2.2.2.2.2.2.2.2.1 Y.2.2.2.2.2.2.2.2.2.2.2.2.1 Y.2.2.2.2.2.2.2.2.2.2.2.2.2.2.2.2.1 Y.2.2.2.2.2.2.2.2.2.2.2.2.2.2.2.2.2.1 Y.2.2.2.2.2.2.2.2.2.2.2.2.2.2.2.1 Y.2.1 Y.2.2.1 Y.2.2.2.1 Y.2.2.2.2.1 ∧ (Y.2.2.2.2.2.2.2.2.2.2.2.2.2.2.2.2.2.1 = 0 ∨ Y.2.2.2.2.2.2.2.2.2.2.2.2.2.2.2.2.2.1 = 1) ∧ xC Y.2.2.2.2.2.2.1 Y.2.2.2.2.2.2.2.1)) := by
  rw [fq_signs] at hY
  refine zl_xL hY (fun r_1 hr_1 hY => ?_)
  refine zl_if hY (fun c1 hY => ?_) (fun c1 hY => ?_)
  · refine zl_xL hY (fun X_3 hX_3 hY => ?_)
    refine zl_if hY (fun c2 hY => ?_) (fun c2 hY => ?_)
    · refine zl_xL hY (fun X_97 hX_97 hY => ?_)
      subst hY
      exact ⟨q.2.2.2.2.2, Or.inl (zQ_wr hX_97)⟩
    · refine zl_xL hY (fun r_53 hr_53 hY => ?_)
      refine zl_if hY (fun c3 hY => ?_) (fun c3 hY => ?_)
      · refine zl_xL hY (fun u_75 hu_75 hY => ?_)
        have hk := zxC_k hx
        rw [← hX_3] at hk
        have hk := hk.resolve_left c2
        have hr : ¬ (5 : Int32) < 1 := by decide
        have q2 := (zQ_bind hr q hu_75).1
        exact zQ_sgb q2 hk hY
      · refine zl_xL hY (fun r_55 hr_55 hY => ?_)
        refine zl_xL hY (fun u_57 hu_57 hY => ?_)
        have hk := zxC_k hx
        rw [← hX_3] at hk
        have hk := hk.resolve_left c2
        have hr : ¬ r_55 < 1 := fun z => by
          have h9 := xr_zero hr_55 z (Or.inr (by lia))
          rw [h9] at hk
          exact hk (by decide)
        have q2 := (zQ_bind hr q hu_57).1
        exact zQ_sgb q2 hk hY
  · refine zl_if hY (fun c4 hY => ?_) (fun c4 hY => ?_)
    · refine zl_xL hY (fun X_114 hX_114 hY => ?_)
      refine zl_if hY (fun c5 hY => ?_) (fun c5 hY => ?_)
      · refine zl_xL hY (fun X_208 hX_208 hY => ?_)
        subst hY
        exact ⟨q.2.2.2.2.2, Or.inl (zQ_wr hX_208)⟩
      · refine zl_xL hY (fun r_164 hr_164 hY => ?_)
        refine zl_if hY (fun c6 hY => ?_) (fun c6 hY => ?_)
        · refine zl_xL hY (fun u_186 hu_186 hY => ?_)
          have hk := zxC_k2 hx
          rw [← hX_114] at hk
          have hk := hk.resolve_left c5
          have hr : ¬ (5 : Int32) < 1 := by decide
          have q2 := (zQ_bind hr q hu_186).1
          exact zQ_sgb2 q2 hk hY
        · refine zl_xL hY (fun r_166 hr_166 hY => ?_)
          refine zl_xL hY (fun u_168 hu_168 hY => ?_)
          have hk := zxC_k2 hx
          rw [← hX_114] at hk
          have hk := hk.resolve_left c5
          have hr : ¬ r_166 < 1 := fun z => by
            have h9 := xr_zero hr_166 z (Or.inr (by lia))
            rw [h9] at hk
            exact hk (by decide)
          have q2 := (zQ_bind hr q hu_168).1
          exact zQ_sgb2 q2 hk hY
    · refine zl_xL hY (fun u_225 hu_225 hY => ?_)
      refine zl_xL hY (fun u_243 hu_243 hY => ?_)
      have hx2 := zxC (ft := ft) (fw := fw) (st := st) (nx := nx) (wh := wh)
      rw [← hu_243] at hx2
      obtain ⟨q2, q3⟩ := zQ_bind (by decide) q hu_225
      have q4 := zQ_close q2 q3 c4
      subst hY
      exact ⟨q4.2.2.2.2.2, Or.inr ⟨q4, Or.inl rfl, hx2⟩⟩
set_option maxHeartbeats 4000000 in
theorem zQ_sumd {ft fw K0 P0 O0 : Nat → Int32} {s : Nat} {st : Int32} : ∀ (n : Nat) (m_fault_d m_faultPlace_d m_next_d m_kind_d m_which_d m_at_d m_knotsRead_d m_waits_d m_helds_d m_brackets_d m_counted_d m_wants_d m_mayNot_d : Int32) (f_knot_d f_part_d f_other_d f_wait_d f_held_d : Nat → Int32), zQ K0 P0 O0 s m_knotsRead_d m_waits_d m_helds_d m_brackets_d m_counted_d m_wants_d f_wait_d f_knot_d f_part_d f_other_d f_held_d → (m_wants_d = 0 ∨ m_wants_d = 1) → xC m_kind_d m_which_d → ∀ Y : Int32 × Int32 × Int32 × Int32 × Int32 × Int32 × Int32 × Int32 × Int32 × Int32 × Int32 × Int32 × Int32 × Int32 × (Nat → Int32) × (Nat → Int32) × (Nat → Int32) × (Nat → Int32) × (Nat → Int32), Y = fq_sumRead_d ft fw st n m_fault_d m_faultPlace_d m_next_d m_kind_d m_which_d m_at_d m_knotsRead_d m_waits_d m_helds_d m_brackets_d m_counted_d m_wants_d m_mayNot_d f_knot_d f_part_d f_other_d f_wait_d f_held_d → (∀ i, i < 64 + s → Y.2.2.2.2.2.2.2.2.2.2.2.2.2.2.1 i = K0 i ∧ Y.2.2.2.2.2.2.2.2.2.2.2.2.2.2.2.1 i = P0 i ∧ Y.2.2.2.2.2.2.2.2.2.2.2.2.2.2.2.2.1 i = O0 i) ∧ (Y.1 = 0 ∨ (Y.2.2.2.2.2.2.2.1 = Y.2.2.2.2.2.2.2.2.2.2.2.1 ∧ ¬ Y.2.2.2.2.2.2.2.1 < 0 ∧ Y.2.2.2.2.2.2.2.1 ≤ 64 ∧ s ≤ Y.2.2.2.2.2.2.2.1.toNatClampNeg ∧ zFd (fun i => Y.2.2.2.2.2.2.2.2.2.2.2.2.2.2.1 (64 + i)) (fun i => Y.2.2.2.2.2.2.2.2.2.2.2.2.2.2.2.1 (64 + i)) (fun i => Y.2.2.2.2.2.2.2.2.2.2.2.2.2.2.2.2.1 (64 + i)) s Y.2.2.2.2.2.2.2.1.toNatClampNeg)) := by
  intro n
  induction n with
  | zero =>
    intro m_fault_d m_faultPlace_d m_next_d m_kind_d m_which_d m_at_d m_knotsRead_d m_waits_d m_helds_d m_brackets_d m_counted_d m_wants_d m_mayNot_d f_knot_d f_part_d f_other_d f_wait_d f_held_d q hw hx Y hY
    rw [fq_sumRead_d] at hY
    refine zl_xL hY (fun r_2 hr_2 hY => ?_)
    refine zl_if hY (fun c1 hY => ?_) (fun c1 hY => ?_)
    · refine zl_if hY (fun c2 hY => ?_) (fun c2 hY => ?_)
      · subst c2
        refine zl_xL hY (fun X_41 hX_41 hY => ?_)
        obtain ⟨u1, u2⟩ := zQ_signs q hx hX_41
        subst hY
        exact ⟨u1, Or.inl rfl⟩
      · have w1 := hw.resolve_left c2
        subst w1
        refine zl_xL hY (fun X_79 hX_79 hY => ?_)
        obtain ⟨u1, u2⟩ := zQ_leafRead q hX_79
        subst hY
        exact ⟨u1, Or.inl rfl⟩
    · refine zl_if hY (fun c3 hY => ?_) (fun c3 hY => ?_)
      · subst c3
        refine zl_if hY (fun c4 hY => ?_) (fun c4 hY => ?_)
        · refine zl_xL hY (fun u_123 hu_123 hY => ?_)
          obtain ⟨q2, q3⟩ := zQ_bind (by decide) q hu_123
          obtain ⟨e1, e2, e3, e4, e5, e6⟩ := zQ_end q2 q3 c4
          subst hY
          exact ⟨e6, Or.inr ⟨e1, e2, e3, e4, e5⟩⟩
        · refine zl_xL hY (fun X_177 hX_177 hY => ?_)
          obtain ⟨u1, u2⟩ := zQ_signs q hx hX_177
          subst hY
          exact ⟨u1, Or.inl rfl⟩
      · have w1 := hw.resolve_left c3
        subst w1
        refine zl_xL hY (fun X_119 hX_119 hY => ?_)
        obtain ⟨u1, u2⟩ := zQ_leafRead q hX_119
        subst hY
        exact ⟨u1, Or.inl rfl⟩
  | succ n ih =>
    intro m_fault_d m_faultPlace_d m_next_d m_kind_d m_which_d m_at_d m_knotsRead_d m_waits_d m_helds_d m_brackets_d m_counted_d m_wants_d m_mayNot_d f_knot_d f_part_d f_other_d f_wait_d f_held_d q hw hx Y hY
    rw [fq_sumRead_d] at hY
    refine zl_xL hY (fun r_179 hr_179 hY => ?_)
    refine zl_if hY (fun c1 hY => ?_) (fun c1 hY => ?_)
    · refine zl_if hY (fun c2 hY => ?_) (fun c2 hY => ?_)
      · subst c2
        refine zl_xL hY (fun X_218 hX_218 hY => ?_)
        obtain ⟨u1, u2⟩ := zQ_signs q hx hX_218
        refine zl_if hY (fun c3 hY => ?_) (fun c3 hY => ?_)
        · subst hY
          exact ⟨u1, Or.inl rfl⟩
        · obtain ⟨q2, w2, x2⟩ := u2.resolve_left c3
          exact ih _ _ _ _ _ _ _ _ _ _ _ _ _ _ _ _ _ _ q2 w2 x2 _ hY
      · have w1 := hw.resolve_left c2
        subst w1
        refine zl_xL hY (fun X_256 hX_256 hY => ?_)
        obtain ⟨u1, u2⟩ := zQ_leafRead q hX_256
        refine zl_if hY (fun c4 hY => ?_) (fun c4 hY => ?_)
        · subst hY
          exact ⟨u1, Or.inl rfl⟩
        · obtain ⟨q2, w2, x2⟩ := u2.resolve_left c4
          exact ih _ _ _ _ _ _ _ _ _ _ _ _ _ _ _ _ _ _ q2 w2 x2 _ hY
    · refine zl_if hY (fun c5 hY => ?_) (fun c5 hY => ?_)
      · subst c5
        refine zl_if hY (fun c6 hY => ?_) (fun c6 hY => ?_)
        · refine zl_xL hY (fun u_300 hu_300 hY => ?_)
          obtain ⟨q2, q3⟩ := zQ_bind (by decide) q hu_300
          obtain ⟨e1, e2, e3, e4, e5, e6⟩ := zQ_end q2 q3 c6
          subst hY
          exact ⟨e6, Or.inr ⟨e1, e2, e3, e4, e5⟩⟩
        · refine zl_xL hY (fun X_354 hX_354 hY => ?_)
          obtain ⟨u1, u2⟩ := zQ_signs q hx hX_354
          refine zl_if hY (fun c7 hY => ?_) (fun c7 hY => ?_)
          · subst hY
            exact ⟨u1, Or.inl rfl⟩
          · obtain ⟨q2, w2, x2⟩ := u2.resolve_left c7
            exact ih _ _ _ _ _ _ _ _ _ _ _ _ _ _ _ _ _ _ q2 w2 x2 _ hY
      · have w1 := hw.resolve_left c5
        subst w1
        refine zl_xL hY (fun X_296 hX_296 hY => ?_)
        obtain ⟨u1, u2⟩ := zQ_leafRead q hX_296
        refine zl_if hY (fun c8 hY => ?_) (fun c8 hY => ?_)
        · subst hY
          exact ⟨u1, Or.inl rfl⟩
        · obtain ⟨q2, w2, x2⟩ := u2.resolve_left c8
          exact ih _ _ _ _ _ _ _ _ _ _ _ _ _ _ _ _ _ _ q2 w2 x2 _ hY
theorem zQ_0 {fWa fKn fPa fOt fHd : Nat → Int32} {kn ct : Int32} (k1 : kn = ct) (k2 : ¬ kn < 0) (k3 : kn ≤ 64) : zQ fKn fPa fOt kn.toNatClampNeg kn 0 0 0 ct 1 fWa fKn fPa fOt fHd := by
  refine ⟨⟨by decide, by decide, k2, k3, by lia, by lia, by lia⟩, xW_start, Nat.le_refl _, ?_, ?_, fun i hi => ⟨rfl, rfl, rfl⟩⟩
  · rw [Nat.sub_self, zsk_0]; exact ⟨by decide, rfl, fun i hi => absurd hi (Nat.not_lt_zero i)⟩
  · rw [Nat.sub_self]; exact fun i hi => absurd hi (Nat.not_lt_zero i)
theorem zQ_feast {ft fw fna fst lst fKn fPa fOt fWa fHd : Nat → Int32} {fa fp st nx kd wh ap fr kn wt he br ct wn mn : Int32} (q : zFs fr kn ct fst lst fKn fPa fOt) {Y : Int32 × (Nat → Int32) × (Nat → Int32) × (Nat → Int32) × Int32 × Int32 × Int32 × Int32 × Int32 × Int32 × Int32 × Int32 × Int32 × Int32 × Int32 × Int32 × Int32 × Int32 × (Nat → Int32) × (Nat → Int32) × (Nat → Int32) × (Nat → Int32) × (Nat → Int32)} (hY : Y = fq_feastLine ft fw fna fst lst fKn fPa fOt fWa fHd fa fp st nx kd wh ap fr kn wt he br ct wn mn) : (∀ i, i < 64 → Y.2.2.2.2.2.2.2.2.2.2.2.2.2.2.2.2.2.2.1 i = fKn i ∧ Y.2.2.2.2.2.2.2.2.2.2.2.2.2.2.2.2.2.2.2.1 i = fPa i ∧ Y.2.2.2.2.2.2.2.2.2.2.2.2.2.2.2.2.2.2.2.2.1 i = fOt i) ∧ (Y.1 = 0 ∨ zFs Y.2.2.2.2.2.2.2.2.2.2.1 Y.2.2.2.2.2.2.2.2.2.2.2.1 Y.2.2.2.2.2.2.2.2.2.2.2.2.2.2.2.1 Y.2.1 Y.2.2.1 Y.2.2.2.2.2.2.2.2.2.2.2.2.2.2.2.2.2.2.1 Y.2.2.2.2.2.2.2.2.2.2.2.2.2.2.2.2.2.2.2.1 Y.2.2.2.2.2.2.2.2.2.2.2.2.2.2.2.2.2.2.2.2.1) := by
  have same : ∀ i, i < 64 → fKn i = fKn i ∧ fPa i = fPa i ∧ fOt i = fOt i := fun i _ => ⟨rfl, rfl, rfl⟩
  rw [fq_feastLine] at hY
  refine zl_if hY (fun c1 hY => ?_) (fun c1 hY => ?_)
  · refine zl_xL hY (fun X hX hY => ?_)
    subst hY
    exact ⟨same, Or.inl (zQ_wr hX)⟩
  refine zl_xL hY (fun u hu hY => ?_)
  refine zl_xL hY (fun N hN hY => ?_)
  refine zl_if hY (fun c2 hY => ?_) (fun c2 hY => ?_)
  · subst hY
    exact ⟨same, Or.inl rfl⟩
  refine zl_xL hY (fun S hS hY => ?_)
  rw [fq_sumRead] at hS
  obtain ⟨z1, z2⟩ := zQ_sumd 1300 _ _ _ _ _ _ _ _ _ _ _ _ _ _ _ _ _ _ (zQ_0 q.1 q.2.1 q.2.2.1) (Or.inr rfl) ((zxC_n hN).resolve_left c2) S hS
  refine zl_if hY (fun c3 hY => ?_) (fun c3 hY => ?_)
  · subst hY
    exact ⟨fun i hi => z1 i (by omega), Or.inl rfl⟩
  · have z3 := z2.resolve_left c3
    subst hY
    exact ⟨fun i hi => z1 i (by omega), Or.inr (zFs_add q c1 ⟨z3.1, z3.2.1, z3.2.2.1, z3.2.2.2.1, z3.2.2.2.2, z1⟩)⟩
theorem zQ_linet {f_tape : Nat → Int32} {f_words : Nat → Int32} {m_stop : Int32} {L1t : Int32} {m_fault_t : Int32} {m_faultPlace_t : Int32} {m_next_t : Int32} {m_kind_t : Int32} {m_which_t : Int32} {m_at_t : Int32} {m_got_t : Int32} {m_landsRead_t : Int32} {m_feastsRead_t : Int32} {m_peopleRead_t : Int32} {m_deedsRead_t : Int32} {m_notesRead_t : Int32} {m_knotsRead_t : Int32} {m_weekTold_t : Int32} {m_moonTold_t : Int32} {m_sunTold_t : Int32} {m_gotCount_t : Int64} {m_waits_t : Int32} {m_helds_t : Int32} {m_brackets_t : Int32} {m_counted_t : Int32} {m_wants_t : Int32} {m_mayNot_t : Int32} {f_sky_t : Nat → Int32} {f_landName_t : Nat → Int32} {f_landHas_t : Nat → Int32} {f_feastName_t : Nat → Int32} {f_first_t : Nat → Int32} {f_last_t : Nat → Int32} {f_personName_t : Nat → Int32} {f_born_t : Nat → Int64} {f_died_t : Nat → Int64} {f_deedName_t : Nat → Int32} {f_deedOn_t : Nat → Int64} {f_deedHas_t : Nat → Int32} {f_noteName_t : Nat → Int32} {f_noteHas_t : Nat → Int32} {f_knot_t : Nat → Int32} {f_part_t : Nat → Int32} {f_other_t : Nat → Int32} {f_wait_t : Nat → Int32} {f_held_t : Nat → Int32} {K0 P0 O0 : Nat → Int32} (low : ∀ i, i < 64 → f_knot_t i = K0 i ∧ f_part_t i = P0 i ∧ f_other_t i = O0 i) (q : L1t = 0 ∨ zFs m_feastsRead_t m_knotsRead_t m_counted_t f_first_t f_last_t f_knot_t f_part_t f_other_t) {Y : Int32 × (Int32) × (Int32) × (Nat → Int32) × (Nat → Int32) × (Nat → Int32) × (Nat → Int32) × (Nat → Int32) × (Nat → Int32) × (Nat → Int32) × (Nat → Int64) × (Nat → Int64) × (Nat → Int32) × (Nat → Int64) × (Nat → Int32) × (Nat → Int32) × (Nat → Int32) × (Nat → Int32) × (Nat → Int32) × (Nat → Int32) × (Nat → Int32) × (Nat → Int32) × (Int32) × (Int32) × (Int32) × (Int32) × (Int32) × (Int32) × (Int32) × (Int32) × (Int32) × (Int32) × (Int32) × (Int32) × (Int32) × (Int32) × (Int64) × (Int32) × (Int32) × (Int32) × (Int32) × (Int32) × (Int32)} (hY : Y = fq_lineRead_t f_tape f_words m_stop L1t m_fault_t m_faultPlace_t m_next_t m_kind_t m_which_t m_at_t m_got_t m_landsRead_t m_feastsRead_t m_peopleRead_t m_deedsRead_t m_notesRead_t m_knotsRead_t m_weekTold_t m_moonTold_t m_sunTold_t m_gotCount_t m_waits_t m_helds_t m_brackets_t m_counted_t m_wants_t m_mayNot_t f_sky_t f_landName_t f_landHas_t f_feastName_t f_first_t f_last_t f_personName_t f_born_t f_died_t f_deedName_t f_deedOn_t f_deedHas_t f_noteName_t f_noteHas_t f_knot_t f_part_t f_other_t f_wait_t f_held_t) : (∀ i, i < 64 → Y.2.2.2.2.2.2.2.2.2.2.2.2.2.2.2.2.2.1 i = K0 i ∧ Y.2.2.2.2.2.2.2.2.2.2.2.2.2.2.2.2.2.2.1 i = P0 i ∧ Y.2.2.2.2.2.2.2.2.2.2.2.2.2.2.2.2.2.2.2.1 i = O0 i) ∧ (Y.1 = 0 ∨ zFs Y.2.2.2.2.2.2.2.2.2.2.2.2.2.2.2.2.2.2.2.2.2.2.2.2.2.2.2.2.1 Y.2.2.2.2.2.2.2.2.2.2.2.2.2.2.2.2.2.2.2.2.2.2.2.2.2.2.2.2.2.2.2.2.1 Y.2.2.2.2.2.2.2.2.2.2.2.2.2.2.2.2.2.2.2.2.2.2.2.2.2.2.2.2.2.2.2.2.2.2.2.2.2.2.2.2.1 Y.2.2.2.2.2.2.2.1 Y.2.2.2.2.2.2.2.2.1 Y.2.2.2.2.2.2.2.2.2.2.2.2.2.2.2.2.2.1 Y.2.2.2.2.2.2.2.2.2.2.2.2.2.2.2.2.2.2.1 Y.2.2.2.2.2.2.2.2.2.2.2.2.2.2.2.2.2.2.2.1) := by
  rw [fq_lineRead_t] at hY
  refine zl_if hY (fun c1 hY => ?_) (fun c1 hY => ?_)
  · subst hY
    exact ⟨low, Or.inl rfl⟩
  · refine zl_xL hY (fun r_11 hr_11 hY => ?_)
    refine zl_if hY (fun c2 hY => ?_) (fun c2 hY => ?_)
    · refine zl_xL hY (fun X_27 hX_27 hY => ?_)
      subst hY
      exact ⟨low, Or.inl (zQ_wr hX_27)⟩
    · refine zl_xL hY (fun u_14 hu_14 hY => ?_)
      subst hY
      exact ⟨low, Or.inr (q.resolve_left c1)⟩
theorem zQ_line {f_tape : Nat → Int32} {f_words : Nat → Int32} {f_sky : Nat → Int32} {f_landName : Nat → Int32} {f_landHas : Nat → Int32} {f_feastName : Nat → Int32} {f_first : Nat → Int32} {f_last : Nat → Int32} {f_personName : Nat → Int32} {f_born : Nat → Int64} {f_died : Nat → Int64} {f_deedName : Nat → Int32} {f_deedOn : Nat → Int64} {f_deedHas : Nat → Int32} {f_noteName : Nat → Int32} {f_noteHas : Nat → Int32} {f_knot : Nat → Int32} {f_part : Nat → Int32} {f_other : Nat → Int32} {f_wait : Nat → Int32} {f_held : Nat → Int32} {m_fault : Int32} {m_faultPlace : Int32} {m_stop : Int32} {m_next : Int32} {m_kind : Int32} {m_which : Int32} {m_at : Int32} {m_got : Int32} {m_landsRead : Int32} {m_feastsRead : Int32} {m_peopleRead : Int32} {m_deedsRead : Int32} {m_notesRead : Int32} {m_knotsRead : Int32} {m_weekTold : Int32} {m_moonTold : Int32} {m_sunTold : Int32} {m_gotCount : Int64} {m_waits : Int32} {m_helds : Int32} {m_brackets : Int32} {m_counted : Int32} {m_wants : Int32} {m_mayNot : Int32} (q : zFs m_feastsRead m_knotsRead m_counted f_first f_last f_knot f_part f_other) {Y : Int32 × (Int32) × (Int32) × (Nat → Int32) × (Nat → Int32) × (Nat → Int32) × (Nat → Int32) × (Nat → Int32) × (Nat → Int32) × (Nat → Int32) × (Nat → Int64) × (Nat → Int64) × (Nat → Int32) × (Nat → Int64) × (Nat → Int32) × (Nat → Int32) × (Nat → Int32) × (Nat → Int32) × (Nat → Int32) × (Nat → Int32) × (Nat → Int32) × (Nat → Int32) × (Int32) × (Int32) × (Int32) × (Int32) × (Int32) × (Int32) × (Int32) × (Int32) × (Int32) × (Int32) × (Int32) × (Int32) × (Int32) × (Int32) × (Int64) × (Int32) × (Int32) × (Int32) × (Int32) × (Int32) × (Int32)} (hY : Y = fq_lineRead f_tape f_words f_sky f_landName f_landHas f_feastName f_first f_last f_personName f_born f_died f_deedName f_deedOn f_deedHas f_noteName f_noteHas f_knot f_part f_other f_wait f_held m_fault m_faultPlace m_stop m_next m_kind m_which m_at m_got m_landsRead m_feastsRead m_peopleRead m_deedsRead m_notesRead m_knotsRead m_weekTold m_moonTold m_sunTold m_gotCount m_waits m_helds m_brackets m_counted m_wants m_mayNot) : (∀ i, i < 64 → Y.2.2.2.2.2.2.2.2.2.2.2.2.2.2.2.2.2.1 i = f_knot i ∧ Y.2.2.2.2.2.2.2.2.2.2.2.2.2.2.2.2.2.2.1 i = f_part i ∧ Y.2.2.2.2.2.2.2.2.2.2.2.2.2.2.2.2.2.2.2.1 i = f_other i) ∧ (Y.1 = 0 ∨ zFs Y.2.2.2.2.2.2.2.2.2.2.2.2.2.2.2.2.2.2.2.2.2.2.2.2.2.2.2.2.1 Y.2.2.2.2.2.2.2.2.2.2.2.2.2.2.2.2.2.2.2.2.2.2.2.2.2.2.2.2.2.2.2.2.1 Y.2.2.2.2.2.2.2.2.2.2.2.2.2.2.2.2.2.2.2.2.2.2.2.2.2.2.2.2.2.2.2.2.2.2.2.2.2.2.2.2.1 Y.2.2.2.2.2.2.2.1 Y.2.2.2.2.2.2.2.2.1 Y.2.2.2.2.2.2.2.2.2.2.2.2.2.2.2.2.2.1 Y.2.2.2.2.2.2.2.2.2.2.2.2.2.2.2.2.2.2.1 Y.2.2.2.2.2.2.2.2.2.2.2.2.2.2.2.2.2.2.2.1) := by
  have low : ∀ i, i < 64 → f_knot i = f_knot i ∧ f_part i = f_part i ∧ f_other i = f_other i := fun i _ => ⟨rfl, rfl, rfl⟩
  rw [fq_lineRead] at hY
  refine zl_if hY (fun c1 hY => ?_) (fun c1 hY => ?_)
  · refine zl_if hY (fun c2 hY => ?_) (fun c2 hY => ?_)
    · refine zl_if hY (fun c3 hY => ?_) (fun c3 hY => ?_)
      · refine zl_xL hY (fun X_48 hX_48 hY => ?_)
        exact zQ_linet low (Or.inr q) hY
      · refine zl_if hY (fun c4 hY => ?_) (fun c4 hY => ?_)
        · refine zl_xL hY (fun X_86 hX_86 hY => ?_)
          obtain ⟨l1, l2⟩ := zQ_feast q hX_86
          exact zQ_linet l1 l2 hY
        · refine zl_if hY (fun c5 hY => ?_) (fun c5 hY => ?_)
          · refine zl_xL hY (fun X_109 hX_109 hY => ?_)
            exact zQ_linet low (Or.inr q) hY
          · refine zl_if hY (fun c6 hY => ?_) (fun c6 hY => ?_)
            · refine zl_xL hY (fun X_133 hX_133 hY => ?_)
              exact zQ_linet low (Or.inr q) hY
            · refine zl_if hY (fun c7 hY => ?_) (fun c7 hY => ?_)
              · refine zl_xL hY (fun X_154 hX_154 hY => ?_)
                exact zQ_linet low (Or.inr q) hY
              · refine zl_if hY (fun c8 hY => ?_) (fun c8 hY => ?_)
                · refine zl_xL hY (fun X_174 hX_174 hY => ?_)
                  exact zQ_linet low (Or.inr q) hY
                · refine zl_if hY (fun c9 hY => ?_) (fun c9 hY => ?_)
                  · refine zl_xL hY (fun X_194 hX_194 hY => ?_)
                    exact zQ_linet low (Or.inr q) hY
                  · refine zl_xL hY (fun X_213 hX_213 hY => ?_)
                    exact zQ_linet low (Or.inr q) hY
    · refine zl_xL hY (fun X_219 hX_219 hY => ?_)
      subst hY
      exact ⟨low, Or.inl (zQ_wr hX_219)⟩
  · refine zl_xL hY (fun X_7 hX_7 hY => ?_)
    subst hY
    exact ⟨low, Or.inl (zQ_wr hX_7)⟩
set_option maxRecDepth 100000 in
theorem z_keepK2 {fRc : Nat → Int32} {sky : Nat → Int32} {lna : Nat → Int32} {lh : Nat → Int32} {fna : Nat → Int32} {fst : Nat → Int32} {lst : Nat → Int32} {pna : Nat → Int32} {bo : Nat → Int64} {di : Nat → Int64} {dna : Nat → Int32} {don : Nat → Int64} {dh : Nat → Int32} {nna : Nat → Int32} {nh : Nat → Int32} {knt : Nat → Int32} {prt : Nat → Int32} {lr : Int32} {fr : Int32} {pr : Int32} {dr : Int32} {nr : Int32} {kr : Int32} {ct : Int32} {oth : Nat → Int32} (hKn : ∀ i : Nat, i < kr.toNatClampNeg → zCd (fRc i) (knt (64 + i)) (prt (64 + i))) (q : zFs fr kr ct fst lst knt prt oth) {u : (Int32) × (Int32) × (Int32) × (Int32) × (Int32) × (Int32) × (Int32) × (Int32) × (Int32) × (Int32) × (Nat → Int32) × (Nat → Int32) × (Nat → Int32) × (Nat → Int32) × (Nat → Int32) × (Nat → Int32) × (Nat → Int32) × (Nat → Int64) × (Nat → Int64) × (Nat → Int32) × (Nat → Int64) × (Nat → Int32) × (Nat → Int32) × (Nat → Int32) × (Nat → Int32) × (Nat → Int32) × (Nat → Int32)} (hu : u = fq_keepText sky lna lh fna fst lst pna bo di dna don dh nna nh knt prt oth lr fr pr dr nr kr) : zFw u.2.1 u.2.2.2.2.2.1 fRc u.2.2.2.2.2.2.2.2.2.2.2.2.2.2.1 u.2.2.2.2.2.2.2.2.2.2.2.2.2.2.2.1 u.2.2.2.2.2.2.2.2.2.2.2.2.2.2.2.2.2.2.2.2.2.2.2.2.1 u.2.2.2.2.2.2.2.2.2.2.2.2.2.2.2.2.2.2.2.2.2.2.2.2.2.1 u.2.2.2.2.2.2.2.2.2.2.2.2.2.2.2.2.2.2.2.2.2.2.2.2.2.2 := by
  obtain ⟨q1, q2, q3, q4, q5, q6⟩ := q
  have mf : fr.toNatClampNeg ≤ 4 := xi_nle (b := 4) q4 q5
  have mk : kr.toNatClampNeg ≤ 64 := xi_nle (b := 64) q2 q3
  rw [fq_keepText, xL_eq, xL_eq, xL_eq, xL_eq, xL_eq, xL_eq, xL_eq, xL_eq, xL_eq, xL_eq, xL_eq, xL_eq, xL_eq, xL_eq, xL_eq, xL_eq, xL_eq] at hu
  subst hu
  refine ⟨fun f hf => ?_, fun i hi => ?_⟩
  · have hf2 : f < fr.toNatClampNeg := hf
    obtain ⟨a1, a2⟩ := q6 f hf2
    show (fq_copies4 lst f).toNatClampNeg ≤ kr.toNatClampNeg ∧ zFd (fq_copies64 knt) (fq_copies64 prt) (fq_copies64 oth) (fq_copies4 fst f).toNatClampNeg (fq_copies4 lst f).toNatClampNeg
    rw [xk_copies4 lst (by omega), xk_copies4 fst (by omega)]
    exact ⟨a1, zFd_c (fun i hi => ⟨xk_copies64 knt (by omega), xk_copies64 prt (by omega), xk_copies64 oth (by omega)⟩) a2⟩
  · have hi2 : i < kr.toNatClampNeg := hi
    show zCd (fRc i) (fq_copies64 knt i) (fq_copies64 prt i)
    rw [xk_copies64 knt (by omega), xk_copies64 prt (by omega)]
    exact hKn i hi2
theorem z_keepK {psk : Int32} {fTo : Nat → Int32} {fNm : Nat → Nat → Int32} {FI : Nat → Int32} {GR : Nat → Int32} {FR : Nat → Int32} {wd : Int32} {wf : Int32} {mp : Int32} {mb : Int32} {mo : Int32} {sp : Int32} {sb : Int32} {rsz : Int32} {rkn : Int32} {fRc : Nat → Int32} {fRe : Nat → Int32} {fBo : Nat → Int64} {fDi : Nat → Int64} {fDa : Nat → Int64} {fDk : Nat → Int32} {fDt : Nat → Int32} {fDp : Nat → Int32} {ns : Int32} {fNs : Nat → Int32} {fNf : Nat → Int32} {fNz : Nat → Int32} {sky : Nat → Int32} {lna : Nat → Int32} {lh : Nat → Int32} {fna : Nat → Int32} {fst : Nat → Int32} {lst : Nat → Int32} {pna : Nat → Int32} {bo : Nat → Int64} {di : Nat → Int64} {dna : Nat → Int32} {don : Nat → Int64} {dh : Nat → Int32} {nna : Nat → Int32} {nh : Nat → Int32} {knt : Nat → Int32} {prt : Nat → Int32} {lr : Int32} {fr : Int32} {pr : Int32} {dr : Int32} {nr : Int32} {kr : Int32} {tw : Int32} {tm : Int32} {ts : Int32} {ct : Int32} {oth : Nat → Int32} (h : zBk psk fTo fNm FI GR FR wd wf mp mb mo sp sb rsz rkn fRc fRe fBo fDi fDa fDk fDt fDp ns fNs fNf fNz sky lna lh fna fst lst pna bo di dna don dh nna nh knt prt lr fr pr dr nr kr tw tm ts ct) (q : zFs fr kr ct fst lst knt prt oth) {u : (Int32) × (Int32) × (Int32) × (Int32) × (Int32) × (Int32) × (Int32) × (Int32) × (Int32) × (Int32) × (Nat → Int32) × (Nat → Int32) × (Nat → Int32) × (Nat → Int32) × (Nat → Int32) × (Nat → Int32) × (Nat → Int32) × (Nat → Int64) × (Nat → Int64) × (Nat → Int32) × (Nat → Int64) × (Nat → Int32) × (Nat → Int32) × (Nat → Int32) × (Nat → Int32) × (Nat → Int32) × (Nat → Int32)} (hu : u = fq_keepText sky lna lh fna fst lst pna bo di dna don dh nna nh knt prt oth lr fr pr dr nr kr) : zFw u.2.1 u.2.2.2.2.2.1 fRc u.2.2.2.2.2.2.2.2.2.2.2.2.2.2.1 u.2.2.2.2.2.2.2.2.2.2.2.2.2.2.2.1 u.2.2.2.2.2.2.2.2.2.2.2.2.2.2.2.2.2.2.2.2.2.2.2.2.1 u.2.2.2.2.2.2.2.2.2.2.2.2.2.2.2.2.2.2.2.2.2.2.2.2.2.1 u.2.2.2.2.2.2.2.2.2.2.2.2.2.2.2.2.2.2.2.2.2.2.2.2.2.2 := by
  obtain ⟨_, _, _, _, _, _, _, _, ⟨k1, k2, k3, k4, k5, hKn⟩, _⟩ := h
  exact z_keepK2 hKn q hu
theorem zFw_c {fe kn : Int32} {fRc fst lst knt prt oth fst1 lst1 knt1 prt1 oth1 : Nat → Int32} (h : zFw fe kn fRc fst lst knt prt oth) (f0 : ¬ fe < 0) (f4 : fe ≤ 4) (k0 : ¬ kn < 0) (k6 : kn ≤ 64) (e1 : ∀ k : Nat, k < 4 → fst1 k = fst k) (e2 : ∀ k : Nat, k < 4 → lst1 k = lst k) (e3 : ∀ i : Nat, i < 64 → knt1 i = knt i ∧ prt1 i = prt i ∧ oth1 i = oth i) : zFw fe kn fRc fst1 lst1 knt1 prt1 oth1 := by
  have mf : fe.toNatClampNeg ≤ 4 := xi_nle (b := 4) f0 f4
  have mk : kn.toNatClampNeg ≤ 64 := xi_nle (b := 64) k0 k6
  refine ⟨fun f hf => ?_, fun i hi => ?_⟩
  · obtain ⟨a1, a2⟩ := h.1 f hf
    rw [e1 f (by omega), e2 f (by omega)]
    exact ⟨a1, zFd_c (fun i hi => e3 i (by omega)) a2⟩
  · rw [(e3 i (by omega)).1, (e3 i (by omega)).2.1]
    exact h.2 i hi
