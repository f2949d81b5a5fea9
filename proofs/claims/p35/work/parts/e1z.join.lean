/-- the cells at the places `is` are new -/
def yset : va_W → List Nat → va_W → va_W
  | ws, i :: is, c :: cs => yset (ws.set i c) is cs
  | ws, _, _ => ws
theorem yset_P {D : va_G} {cl : List vw_C} {H : Heap} : ∀ (is : List Nat) (w1 ws : va_W), is.length = w1.length → (∀ (k : Nat) (q : Nat × va_E), w1[k]? = some q → va_at D cl q H) → (∀ (k : Nat) (q : Nat × va_E), ws[k]? = some q → k ∈ is ∨ va_at D cl q H) → va_P D cl (yset ws is w1) H
  | [], [], _, _, _, h => fun k q hk => (h k q hk).resolve_left List.not_mem_nil
  | [], _ :: _, _, hl, _, _ => absurd hl (by simp)
  | _ :: _, [], _, hl, _, _ => absurd hl (by simp)
  | i :: is, c :: cs, ws, hl, h1, h2 => by
    refine yset_P is cs (ws.set i c) (Nat.succ.inj hl) (fun k q hk => h1 (k + 1) q hk) (fun k q hk => ?_)
    by_cases e : k = i
    · subst e
      have hlt : k < (ws.set k c).length := (List.getElem?_eq_some_iff.mp hk).1
      rw [List.length_set] at hlt
      rw [List.getElem?_set_self hlt] at hk
      cases hk
      exact Or.inr (h1 0 _ rfl)
    · rw [List.getElem?_set_ne (Ne.symm e)] at hk
      rcases h2 k q hk with h | h
      · exact Or.inl ((List.mem_cons.mp h).resolve_left e)
      · exact Or.inr h
/-- the addresses of some cells -/
def yAd (wc : va_W) : Nat → Prop := fun q => ∃ (k : Nat) (e : va_E), wc[k]? = some (q, e)
theorem yAd_B (wc : va_W) : yB (yAd wc) wc := fun k q h => ⟨k, q.2, h⟩
/-- behind a case: its cells as it left them, all others as they were -/
theorem yJ {D : va_G} {cl : List vw_C} {A : Nat → Prop} {ws wc w1 : va_W} {H0 H : Heap} (hP : va_P D cl ws H0) (hD : va_D A ws) (is : List Nat) (hC : is.map (fun i => ws[i]?) = wc.map some) (hl : is.length = w1.length) (hfr : ∀ q : Nat, q < H0.size → ¬ yAd wc q → H[q]? = H0[q]?) (hP1 : va_P D cl w1 H) : va_P D cl (yset ws is w1) H := by
  refine yset_P is w1 ws hl hP1 (fun k q hk => ?_)
  by_cases hb : yAd wc q.1
  · obtain ⟨j, e, hj⟩ := hb
    have h1 : (wc.map some)[j]? = some (some (q.1, e)) := by rw [List.getElem?_map, hj]; rfl
    rw [← hC, List.getElem?_map] at h1
    cases hi : is[j]? with
    | none => rw [hi] at h1; cases h1
    | some i =>
      rw [hi] at h1
      have h2 : ws[i]? = some (q.1, e) := Option.some.inj h1
      have h3 : k = i := hD.1 k i q (q.1, e) hk h2 rfl
      exact Or.inl (h3 ▸ List.mem_of_getElem? hi)
  · exact Or.inr ((hP k q hk).kept (hfr q.1 (hP k q hk).lt hb))
/-- apart are addresses alone -/
theorem yD {A : Nat → Prop} {ws ws' : va_W} (hD : va_D A ws) (h : ws.map Prod.fst = ws'.map Prod.fst) : va_D A ws' := by
  have key : ∀ (k : Nat) (q : Nat × va_E), ws'[k]? = some q → ∃ q0, ws[k]? = some q0 ∧ q0.1 = q.1 := by
    intro k q hk
    have h1 : (ws'.map Prod.fst)[k]? = some q.1 := by rw [List.getElem?_map, hk]; rfl
    rw [← h, List.getElem?_map] at h1
    cases hw : ws[k]? with
    | none => rw [hw] at h1; cases h1
    | some z =>
      rw [hw] at h1
      exact ⟨z, rfl, Option.some.inj h1⟩
  refine ⟨fun i j x y hi hj hxy => ?_, fun k q hk => ?_⟩
  · obtain ⟨x0, h1, h2⟩ := key i x hi
    obtain ⟨y0, h3, h4⟩ := key j y hj
    exact hD.1 i j x0 y0 h1 h3 (h2.trans (hxy.trans h4.symm))
  · obtain ⟨q0, h1, h2⟩ := key k q hk
    exact h2 ▸ hD.2 k q0 h1
/-- all addresses and classes of arrays -/
abbrev YA : Type := (Nat → Nat) × (Nat → ClassId) × (Nat → Nat → Nat) × (Nat → Nat → ClassId)
def YA.x (v : YA) : Nat := v.1 0
def YA.s_x (v : YA) (x : Nat) : YA := (va_up v.1 0 x, v.2.1, v.2.2.1, v.2.2.2)
def YA.pa (v : YA) : Nat := v.1 1
def YA.s_pa (v : YA) (x : Nat) : YA := (va_up v.1 1 x, v.2.1, v.2.2.1, v.2.2.2)
def YA.bk (v : YA) : Nat := v.1 2
def YA.s_bk (v : YA) (x : Nat) : YA := (va_up v.1 2 x, v.2.1, v.2.2.1, v.2.2.2)
def YA.xsp (v : YA) : Nat := v.1 3
def YA.s_xsp (v : YA) (x : Nat) : YA := (va_up v.1 3 x, v.2.1, v.2.2.1, v.2.2.2)
def YA.xdy (v : YA) : Nat := v.1 4
def YA.s_xdy (v : YA) (x : Nat) : YA := (va_up v.1 4 x, v.2.1, v.2.2.1, v.2.2.2)
def YA.le (v : YA) : Nat := v.1 5
def YA.s_le (v : YA) (x : Nat) : YA := (va_up v.1 5 x, v.2.1, v.2.2.1, v.2.2.2)
def YA.xst (v : YA) : Nat := v.1 6
def YA.s_xst (v : YA) (x : Nat) : YA := (va_up v.1 6 x, v.2.1, v.2.2.1, v.2.2.2)
def YA.xim (v : YA) : Nat := v.1 7
def YA.s_xim (v : YA) (x : Nat) : YA := (va_up v.1 7 x, v.2.1, v.2.2.1, v.2.2.2)
def YA.xil (v : YA) : Nat := v.1 8
def YA.s_xil (v : YA) (x : Nat) : YA := (va_up v.1 8 x, v.2.1, v.2.2.1, v.2.2.2)
def YA.xmo (v : YA) : Nat := v.1 9
def YA.s_xmo (v : YA) (x : Nat) : YA := (va_up v.1 9 x, v.2.1, v.2.2.1, v.2.2.2)
def YA.xom (v : YA) : Nat := v.1 10
def YA.s_xom (v : YA) (x : Nat) : YA := (va_up v.1 10 x, v.2.1, v.2.2.1, v.2.2.2)
def YA.wi (v : YA) : Nat := v.1 11
def YA.s_wi (v : YA) (x : Nat) : YA := (va_up v.1 11 x, v.2.1, v.2.2.1, v.2.2.2)
def YA.lna (v : YA) : Nat := v.1 12
def YA.s_lna (v : YA) (x : Nat) : YA := (va_up v.1 12 x, v.2.1, v.2.2.1, v.2.2.2)
def YA.lca (v : YA) : Nat := v.1 13
def YA.s_lca (v : YA) (x : Nat) : YA := (va_up v.1 13 x, v.2.1, v.2.2.1, v.2.2.2)
def YA.isa (v : YA) : Nat := v.1 14
def YA.s_isa (v : YA) (x : Nat) : YA := (va_up v.1 14 x, v.2.1, v.2.2.1, v.2.2.2)
def YA.ifa (v : YA) : Nat := v.1 15
def YA.s_ifa (v : YA) (x : Nat) : YA := (va_up v.1 15 x, v.2.1, v.2.2.1, v.2.2.2)
def YA.iza (v : YA) : Nat := v.1 16
def YA.s_iza (v : YA) (x : Nat) : YA := (va_up v.1 16 x, v.2.1, v.2.2.1, v.2.2.2)
def YA.ina (v : YA) : Nat := v.1 17
def YA.s_ina (v : YA) (x : Nat) : YA := (va_up v.1 17 x, v.2.1, v.2.2.1, v.2.2.2)
def YA.ica (v : YA) : Nat := v.1 18
def YA.s_ica (v : YA) (x : Nat) : YA := (va_up v.1 18 x, v.2.1, v.2.2.1, v.2.2.2)
def YA.drw (v : YA) : Nat := v.1 19
def YA.s_drw (v : YA) (x : Nat) : YA := (va_up v.1 19 x, v.2.1, v.2.2.1, v.2.2.2)
def YA.dsh (v : YA) : Nat := v.1 20
def YA.s_dsh (v : YA) (x : Nat) : YA := (va_up v.1 20 x, v.2.1, v.2.2.1, v.2.2.2)
def YA.dto (v : YA) : Nat := v.1 21
def YA.s_dto (v : YA) (x : Nat) : YA := (va_up v.1 21 x, v.2.1, v.2.2.1, v.2.2.2)
def YA.dmo (v : YA) : Nat := v.1 22
def YA.s_dmo (v : YA) (x : Nat) : YA := (va_up v.1 22 x, v.2.1, v.2.2.1, v.2.2.2)
def YA.dwi (v : YA) : Nat := v.1 23
def YA.s_dwi (v : YA) (x : Nat) : YA := (va_up v.1 23 x, v.2.1, v.2.2.1, v.2.2.2)
def YA.lx (v : YA) : Nat := v.1 24
def YA.s_lx (v : YA) (x : Nat) : YA := (va_up v.1 24 x, v.2.1, v.2.2.1, v.2.2.2)
def YA.phe (v : YA) : Nat := v.1 25
def YA.s_phe (v : YA) (x : Nat) : YA := (va_up v.1 25 x, v.2.1, v.2.2.1, v.2.2.2)
def YA.phr (v : YA) : Nat := v.1 26
def YA.s_phr (v : YA) (x : Nat) : YA := (va_up v.1 26 x, v.2.1, v.2.2.1, v.2.2.2)
def YA.lby (v : YA) : Nat := v.1 27
def YA.s_lby (v : YA) (x : Nat) : YA := (va_up v.1 27 x, v.2.1, v.2.2.1, v.2.2.2)
def YA.lco (v : YA) : Nat := v.1 28
def YA.s_lco (v : YA) (x : Nat) : YA := (va_up v.1 28 x, v.2.1, v.2.2.1, v.2.2.2)
def YA.bto (v : YA) : Nat := v.1 29
def YA.s_bto (v : YA) (x : Nat) : YA := (va_up v.1 29 x, v.2.1, v.2.2.1, v.2.2.2)
def YA.bnm (v : YA) : Nat := v.1 30
def YA.s_bnm (v : YA) (x : Nat) : YA := (va_up v.1 30 x, v.2.1, v.2.2.1, v.2.2.2)
def YA.bla (v : YA) : Nat := v.1 31
def YA.s_bla (v : YA) (x : Nat) : YA := (va_up v.1 31 x, v.2.1, v.2.2.1, v.2.2.2)
def YA.bsk (v : YA) : Nat := v.1 32
def YA.s_bsk (v : YA) (x : Nat) : YA := (va_up v.1 32 x, v.2.1, v.2.2.1, v.2.2.2)
def YA.bru (v : YA) : Nat := v.1 33
def YA.s_bru (v : YA) (x : Nat) : YA := (va_up v.1 33 x, v.2.1, v.2.2.1, v.2.2.2)
def YA.bbo (v : YA) : Nat := v.1 34
def YA.s_bbo (v : YA) (x : Nat) : YA := (va_up v.1 34 x, v.2.1, v.2.2.1, v.2.2.2)
def YA.bdi (v : YA) : Nat := v.1 35
def YA.s_bdi (v : YA) (x : Nat) : YA := (va_up v.1 35 x, v.2.1, v.2.2.1, v.2.2.2)
def YA.bda (v : YA) : Nat := v.1 36
def YA.s_bda (v : YA) (x : Nat) : YA := (va_up v.1 36 x, v.2.1, v.2.2.1, v.2.2.2)
def YA.bdk (v : YA) : Nat := v.1 37
def YA.s_bdk (v : YA) (x : Nat) : YA := (va_up v.1 37 x, v.2.1, v.2.2.1, v.2.2.2)
def YA.bdt (v : YA) : Nat := v.1 38
def YA.s_bdt (v : YA) (x : Nat) : YA := (va_up v.1 38 x, v.2.1, v.2.2.1, v.2.2.2)
def YA.bdp (v : YA) : Nat := v.1 39
def YA.s_bdp (v : YA) (x : Nat) : YA := (va_up v.1 39 x, v.2.1, v.2.2.1, v.2.2.2)
def YA.bno (v : YA) : Nat := v.1 40
def YA.s_bno (v : YA) (x : Nat) : YA := (va_up v.1 40 x, v.2.1, v.2.2.1, v.2.2.2)
def YA.rco (v : YA) : Nat := v.1 41
def YA.s_rco (v : YA) (x : Nat) : YA := (va_up v.1 41 x, v.2.1, v.2.2.1, v.2.2.2)
def YA.ren (v : YA) : Nat := v.1 42
def YA.s_ren (v : YA) (x : Nat) : YA := (va_up v.1 42 x, v.2.1, v.2.2.1, v.2.2.2)
def YA.rst (v : YA) : Nat := v.1 43
def YA.s_rst (v : YA) (x : Nat) : YA := (va_up v.1 43 x, v.2.1, v.2.2.1, v.2.2.2)
def YA.nsa (v : YA) : Nat := v.1 44
def YA.s_nsa (v : YA) (x : Nat) : YA := (va_up v.1 44 x, v.2.1, v.2.2.1, v.2.2.2)
def YA.nfa (v : YA) : Nat := v.1 45
def YA.s_nfa (v : YA) (x : Nat) : YA := (va_up v.1 45 x, v.2.1, v.2.2.1, v.2.2.2)
def YA.nza (v : YA) : Nat := v.1 46
def YA.s_nza (v : YA) (x : Nat) : YA := (va_up v.1 46 x, v.2.1, v.2.2.1, v.2.2.2)
def YA.bto2 (v : YA) : Nat := v.1 47
def YA.s_bto2 (v : YA) (x : Nat) : YA := (va_up v.1 47 x, v.2.1, v.2.2.1, v.2.2.2)
def YA.bnm2 (v : YA) : Nat := v.1 48
def YA.s_bnm2 (v : YA) (x : Nat) : YA := (va_up v.1 48 x, v.2.1, v.2.2.1, v.2.2.2)
def YA.bla2 (v : YA) : Nat := v.1 49
def YA.s_bla2 (v : YA) (x : Nat) : YA := (va_up v.1 49 x, v.2.1, v.2.2.1, v.2.2.2)
def YA.bsk2 (v : YA) : Nat := v.1 50
def YA.s_bsk2 (v : YA) (x : Nat) : YA := (va_up v.1 50 x, v.2.1, v.2.2.1, v.2.2.2)
def YA.bru2 (v : YA) : Nat := v.1 51
def YA.s_bru2 (v : YA) (x : Nat) : YA := (va_up v.1 51 x, v.2.1, v.2.2.1, v.2.2.2)
def YA.bbo2 (v : YA) : Nat := v.1 52
def YA.s_bbo2 (v : YA) (x : Nat) : YA := (va_up v.1 52 x, v.2.1, v.2.2.1, v.2.2.2)
def YA.bdi2 (v : YA) : Nat := v.1 53
def YA.s_bdi2 (v : YA) (x : Nat) : YA := (va_up v.1 53 x, v.2.1, v.2.2.1, v.2.2.2)
def YA.bda2 (v : YA) : Nat := v.1 54
def YA.s_bda2 (v : YA) (x : Nat) : YA := (va_up v.1 54 x, v.2.1, v.2.2.1, v.2.2.2)
def YA.bdk2 (v : YA) : Nat := v.1 55
def YA.s_bdk2 (v : YA) (x : Nat) : YA := (va_up v.1 55 x, v.2.1, v.2.2.1, v.2.2.2)
def YA.bdt2 (v : YA) : Nat := v.1 56
def YA.s_bdt2 (v : YA) (x : Nat) : YA := (va_up v.1 56 x, v.2.1, v.2.2.1, v.2.2.2)
def YA.bdp2 (v : YA) : Nat := v.1 57
def YA.s_bdp2 (v : YA) (x : Nat) : YA := (va_up v.1 57 x, v.2.1, v.2.2.1, v.2.2.2)
def YA.bno2 (v : YA) : Nat := v.1 58
def YA.s_bno2 (v : YA) (x : Nat) : YA := (va_up v.1 58 x, v.2.1, v.2.2.1, v.2.2.2)
def YA.rco2 (v : YA) : Nat := v.1 59
def YA.s_rco2 (v : YA) (x : Nat) : YA := (va_up v.1 59 x, v.2.1, v.2.2.1, v.2.2.2)
def YA.ren2 (v : YA) : Nat := v.1 60
def YA.s_ren2 (v : YA) (x : Nat) : YA := (va_up v.1 60 x, v.2.1, v.2.2.1, v.2.2.2)
def YA.rst2 (v : YA) : Nat := v.1 61
def YA.s_rst2 (v : YA) (x : Nat) : YA := (va_up v.1 61 x, v.2.1, v.2.2.1, v.2.2.2)
def YA.nsa2 (v : YA) : Nat := v.1 62
def YA.s_nsa2 (v : YA) (x : Nat) : YA := (va_up v.1 62 x, v.2.1, v.2.2.1, v.2.2.2)
def YA.nfa2 (v : YA) : Nat := v.1 63
def YA.s_nfa2 (v : YA) (x : Nat) : YA := (va_up v.1 63 x, v.2.1, v.2.2.1, v.2.2.2)
def YA.nza2 (v : YA) : Nat := v.1 64
def YA.s_nza2 (v : YA) (x : Nat) : YA := (va_up v.1 64 x, v.2.1, v.2.2.1, v.2.2.2)
def YA.mq (v : YA) : Nat := v.1 65
def YA.s_mq (v : YA) (x : Nat) : YA := (va_up v.1 65 x, v.2.1, v.2.2.1, v.2.2.2)
def YA.o3 (v : YA) : Nat := v.1 66
def YA.s_o3 (v : YA) (x : Nat) : YA := (va_up v.1 66 x, v.2.1, v.2.2.1, v.2.2.2)
def YA.cLn (v : YA) : ClassId := v.2.1 0
def YA.s_cLn (v : YA) (x : ClassId) : YA := (v.1, va_up v.2.1 0 x, v.2.2.1, v.2.2.2)
def YA.cLc (v : YA) : ClassId := v.2.1 1
def YA.s_cLc (v : YA) (x : ClassId) : YA := (v.1, va_up v.2.1 1 x, v.2.2.1, v.2.2.2)
def YA.cIs (v : YA) : ClassId := v.2.1 2
def YA.s_cIs (v : YA) (x : ClassId) : YA := (v.1, va_up v.2.1 2 x, v.2.2.1, v.2.2.2)
def YA.cIf (v : YA) : ClassId := v.2.1 3
def YA.s_cIf (v : YA) (x : ClassId) : YA := (v.1, va_up v.2.1 3 x, v.2.2.1, v.2.2.2)
def YA.cIz (v : YA) : ClassId := v.2.1 4
def YA.s_cIz (v : YA) (x : ClassId) : YA := (v.1, va_up v.2.1 4 x, v.2.2.1, v.2.2.2)
def YA.cIn (v : YA) : ClassId := v.2.1 5
def YA.s_cIn (v : YA) (x : ClassId) : YA := (v.1, va_up v.2.1 5 x, v.2.2.1, v.2.2.2)
def YA.cIc (v : YA) : ClassId := v.2.1 6
def YA.s_cIc (v : YA) (x : ClassId) : YA := (v.1, va_up v.2.1 6 x, v.2.2.1, v.2.2.2)
def YA.cSt (v : YA) : ClassId := v.2.1 7
def YA.s_cSt (v : YA) (x : ClassId) : YA := (v.1, va_up v.2.1 7 x, v.2.2.1, v.2.2.2)
def YA.cDr (v : YA) : ClassId := v.2.1 8
def YA.s_cDr (v : YA) (x : ClassId) : YA := (v.1, va_up v.2.1 8 x, v.2.2.1, v.2.2.2)
def YA.cRr (v : YA) : ClassId := v.2.1 9
def YA.s_cRr (v : YA) (x : ClassId) : YA := (v.1, va_up v.2.1 9 x, v.2.2.1, v.2.2.2)
def YA.cSh (v : YA) : ClassId := v.2.1 10
def YA.s_cSh (v : YA) (x : ClassId) : YA := (v.1, va_up v.2.1 10 x, v.2.2.1, v.2.2.2)
def YA.cTp (v : YA) : ClassId := v.2.1 11
def YA.s_cTp (v : YA) (x : ClassId) : YA := (v.1, va_up v.2.1 11 x, v.2.2.1, v.2.2.2)
def YA.cBy (v : YA) : ClassId := v.2.1 12
def YA.s_cBy (v : YA) (x : ClassId) : YA := (v.1, va_up v.2.1 12 x, v.2.2.1, v.2.2.2)
def YA.cCo (v : YA) : ClassId := v.2.1 13
def YA.s_cCo (v : YA) (x : ClassId) : YA := (v.1, va_up v.2.1 13 x, v.2.2.1, v.2.2.2)
def YA.cTo (v : YA) : ClassId := v.2.1 14
def YA.s_cTo (v : YA) (x : ClassId) : YA := (v.1, va_up v.2.1 14 x, v.2.2.1, v.2.2.2)
def YA.cNm (v : YA) : ClassId := v.2.1 15
def YA.s_cNm (v : YA) (x : ClassId) : YA := (v.1, va_up v.2.1 15 x, v.2.2.1, v.2.2.2)
def YA.cNr (v : YA) : ClassId := v.2.1 16
def YA.s_cNr (v : YA) (x : ClassId) : YA := (v.1, va_up v.2.1 16 x, v.2.2.1, v.2.2.2)
def YA.cLa (v : YA) : ClassId := v.2.1 17
def YA.s_cLa (v : YA) (x : ClassId) : YA := (v.1, va_up v.2.1 17 x, v.2.2.1, v.2.2.2)
def YA.cRc (v : YA) : ClassId := v.2.1 18
def YA.s_cRc (v : YA) (x : ClassId) : YA := (v.1, va_up v.2.1 18 x, v.2.2.1, v.2.2.2)
def YA.cRe (v : YA) : ClassId := v.2.1 19
def YA.s_cRe (v : YA) (x : ClassId) : YA := (v.1, va_up v.2.1 19 x, v.2.2.1, v.2.2.2)
def YA.cRs (v : YA) : ClassId := v.2.1 20
def YA.s_cRs (v : YA) (x : ClassId) : YA := (v.1, va_up v.2.1 20 x, v.2.2.1, v.2.2.2)
def YA.cBb (v : YA) : ClassId := v.2.1 21
def YA.s_cBb (v : YA) (x : ClassId) : YA := (v.1, va_up v.2.1 21 x, v.2.2.1, v.2.2.2)
def YA.cBi (v : YA) : ClassId := v.2.1 22
def YA.s_cBi (v : YA) (x : ClassId) : YA := (v.1, va_up v.2.1 22 x, v.2.2.1, v.2.2.2)
def YA.cDa (v : YA) : ClassId := v.2.1 23
def YA.s_cDa (v : YA) (x : ClassId) : YA := (v.1, va_up v.2.1 23 x, v.2.2.1, v.2.2.2)
def YA.cDk (v : YA) : ClassId := v.2.1 24
def YA.s_cDk (v : YA) (x : ClassId) : YA := (v.1, va_up v.2.1 24 x, v.2.2.1, v.2.2.2)
def YA.cDt (v : YA) : ClassId := v.2.1 25
def YA.s_cDt (v : YA) (x : ClassId) : YA := (v.1, va_up v.2.1 25 x, v.2.2.1, v.2.2.2)
def YA.cDp (v : YA) : ClassId := v.2.1 26
def YA.s_cDp (v : YA) (x : ClassId) : YA := (v.1, va_up v.2.1 26 x, v.2.2.1, v.2.2.2)
def YA.cNs (v : YA) : ClassId := v.2.1 27
def YA.s_cNs (v : YA) (x : ClassId) : YA := (v.1, va_up v.2.1 27 x, v.2.2.1, v.2.2.2)
def YA.cNf (v : YA) : ClassId := v.2.1 28
def YA.s_cNf (v : YA) (x : ClassId) : YA := (v.1, va_up v.2.1 28 x, v.2.2.1, v.2.2.2)
def YA.cNz (v : YA) : ClassId := v.2.1 29
def YA.s_cNz (v : YA) (x : ClassId) : YA := (v.1, va_up v.2.1 29 x, v.2.2.1, v.2.2.2)
def YA.cHe (v : YA) : ClassId := v.2.1 30
def YA.s_cHe (v : YA) (x : ClassId) : YA := (v.1, va_up v.2.1 30 x, v.2.2.1, v.2.2.2)
def YA.cHr (v : YA) : ClassId := v.2.1 31
def YA.s_cHr (v : YA) (x : ClassId) : YA := (v.1, va_up v.2.1 31 x, v.2.2.1, v.2.2.2)
def YA.cTo2 (v : YA) : ClassId := v.2.1 32
def YA.s_cTo2 (v : YA) (x : ClassId) : YA := (v.1, va_up v.2.1 32 x, v.2.2.1, v.2.2.2)
def YA.cNm2 (v : YA) : ClassId := v.2.1 33
def YA.s_cNm2 (v : YA) (x : ClassId) : YA := (v.1, va_up v.2.1 33 x, v.2.2.1, v.2.2.2)
def YA.cNr2 (v : YA) : ClassId := v.2.1 34
def YA.s_cNr2 (v : YA) (x : ClassId) : YA := (v.1, va_up v.2.1 34 x, v.2.2.1, v.2.2.2)
def YA.cLa2 (v : YA) : ClassId := v.2.1 35
def YA.s_cLa2 (v : YA) (x : ClassId) : YA := (v.1, va_up v.2.1 35 x, v.2.2.1, v.2.2.2)
def YA.cRc2 (v : YA) : ClassId := v.2.1 36
def YA.s_cRc2 (v : YA) (x : ClassId) : YA := (v.1, va_up v.2.1 36 x, v.2.2.1, v.2.2.2)
def YA.cRe2 (v : YA) : ClassId := v.2.1 37
def YA.s_cRe2 (v : YA) (x : ClassId) : YA := (v.1, va_up v.2.1 37 x, v.2.2.1, v.2.2.2)
def YA.cRs2 (v : YA) : ClassId := v.2.1 38
def YA.s_cRs2 (v : YA) (x : ClassId) : YA := (v.1, va_up v.2.1 38 x, v.2.2.1, v.2.2.2)
def YA.cBb2 (v : YA) : ClassId := v.2.1 39
def YA.s_cBb2 (v : YA) (x : ClassId) : YA := (v.1, va_up v.2.1 39 x, v.2.2.1, v.2.2.2)
def YA.cBi2 (v : YA) : ClassId := v.2.1 40
def YA.s_cBi2 (v : YA) (x : ClassId) : YA := (v.1, va_up v.2.1 40 x, v.2.2.1, v.2.2.2)
def YA.cDa2 (v : YA) : ClassId := v.2.1 41
def YA.s_cDa2 (v : YA) (x : ClassId) : YA := (v.1, va_up v.2.1 41 x, v.2.2.1, v.2.2.2)
def YA.cDk2 (v : YA) : ClassId := v.2.1 42
def YA.s_cDk2 (v : YA) (x : ClassId) : YA := (v.1, va_up v.2.1 42 x, v.2.2.1, v.2.2.2)
def YA.cDt2 (v : YA) : ClassId := v.2.1 43
def YA.s_cDt2 (v : YA) (x : ClassId) : YA := (v.1, va_up v.2.1 43 x, v.2.2.1, v.2.2.2)
def YA.cDp2 (v : YA) : ClassId := v.2.1 44
def YA.s_cDp2 (v : YA) (x : ClassId) : YA := (v.1, va_up v.2.1 44 x, v.2.2.1, v.2.2.2)
def YA.cNs2 (v : YA) : ClassId := v.2.1 45
def YA.s_cNs2 (v : YA) (x : ClassId) : YA := (v.1, va_up v.2.1 45 x, v.2.2.1, v.2.2.2)
def YA.cNf2 (v : YA) : ClassId := v.2.1 46
def YA.s_cNf2 (v : YA) (x : ClassId) : YA := (v.1, va_up v.2.1 46 x, v.2.2.1, v.2.2.2)
def YA.cNz2 (v : YA) : ClassId := v.2.1 47
def YA.s_cNz2 (v : YA) (x : ClassId) : YA := (v.1, va_up v.2.1 47 x, v.2.2.1, v.2.2.2)
def YA.c3 (v : YA) : ClassId := v.2.1 48
def YA.s_c3 (v : YA) (x : ClassId) : YA := (v.1, va_up v.2.1 48 x, v.2.2.1, v.2.2.2)
def YA.Rw (v : YA) : Nat → Nat := v.2.2.1 0
def YA.s_Rw (v : YA) (x : Nat → Nat) : YA := (v.1, v.2.1, va_up v.2.2.1 0 x, v.2.2.2)
def YA.Nm (v : YA) : Nat → Nat := v.2.2.1 1
def YA.s_Nm (v : YA) (x : Nat → Nat) : YA := (v.1, v.2.1, va_up v.2.2.1 1 x, v.2.2.2)
def YA.La (v : YA) : Nat → Nat := v.2.2.1 2
def YA.s_La (v : YA) (x : Nat → Nat) : YA := (v.1, v.2.1, va_up v.2.2.1 2 x, v.2.2.2)
def YA.Nm2 (v : YA) : Nat → Nat := v.2.2.1 3
def YA.s_Nm2 (v : YA) (x : Nat → Nat) : YA := (v.1, v.2.1, va_up v.2.2.1 3 x, v.2.2.2)
def YA.Lb (v : YA) : Nat → Nat := v.2.2.1 4
def YA.s_Lb (v : YA) (x : Nat → Nat) : YA := (v.1, v.2.1, va_up v.2.2.1 4 x, v.2.2.2)
def YA.rf (v : YA) : Nat → Nat := v.2.2.1 5
def YA.s_rf (v : YA) (x : Nat → Nat) : YA := (v.1, v.2.1, va_up v.2.2.1 5 x, v.2.2.2)
def YA.ck (v : YA) : Nat → ClassId := v.2.2.2 0
def YA.s_ck (v : YA) (x : Nat → ClassId) : YA := (v.1, v.2.1, v.2.2.1, va_up v.2.2.2 0 x)
/-- all values -/
abbrev YV : Type := (Nat → Int32) × (Nat → Int64) × (Nat → Nat → Int32) × (Nat → Nat → Int64) × (Nat → Nat → Nat → Int32) × (Nat → Nat → Nat → Int64) × (Nat → Value)
def YV.xsc (v : YV) : Int32 := v.1 0
def YV.s_xsc (v : YV) (x : Int32) : YV := (va_up v.1 0 x, v.2.1, v.2.2.1, v.2.2.2.1, v.2.2.2.2.1, v.2.2.2.2.2.1, v.2.2.2.2.2.2)
def YV.xik (v : YV) : Int32 := v.1 1
def YV.s_xik (v : YV) (x : Int32) : YV := (va_up v.1 1 x, v.2.1, v.2.2.1, v.2.2.2.1, v.2.2.2.2.1, v.2.2.2.2.2.1, v.2.2.2.2.2.2)
def YV.w0 (v : YV) : Int32 := v.1 2
def YV.s_w0 (v : YV) (x : Int32) : YV := (va_up v.1 2 x, v.2.1, v.2.2.1, v.2.2.2.1, v.2.2.2.2.1, v.2.2.2.2.2.1, v.2.2.2.2.2.2)
def YV.w1 (v : YV) : Int32 := v.1 3
def YV.s_w1 (v : YV) (x : Int32) : YV := (va_up v.1 3 x, v.2.1, v.2.2.1, v.2.2.2.1, v.2.2.2.2.1, v.2.2.2.2.2.1, v.2.2.2.2.2.2)
def YV.w2 (v : YV) : Int32 := v.1 4
def YV.s_w2 (v : YV) (x : Int32) : YV := (va_up v.1 4 x, v.2.1, v.2.2.1, v.2.2.2.1, v.2.2.2.2.1, v.2.2.2.2.2.1, v.2.2.2.2.2.2)
def YV.w3 (v : YV) : Int32 := v.1 5
def YV.s_w3 (v : YV) (x : Int32) : YV := (va_up v.1 5 x, v.2.1, v.2.2.1, v.2.2.2.1, v.2.2.2.2.1, v.2.2.2.2.2.1, v.2.2.2.2.2.2)
def YV.w4 (v : YV) : Int32 := v.1 6
def YV.s_w4 (v : YV) (x : Int32) : YV := (va_up v.1 6 x, v.2.1, v.2.2.1, v.2.2.2.1, v.2.2.2.2.1, v.2.2.2.2.2.1, v.2.2.2.2.2.2)
def YV.lz (v : YV) : Int32 := v.1 7
def YV.s_lz (v : YV) (x : Int32) : YV := (va_up v.1 7 x, v.2.1, v.2.2.1, v.2.2.2.1, v.2.2.2.2.1, v.2.2.2.2.2.1, v.2.2.2.2.2.2)
def YV.is (v : YV) : Int32 := v.1 8
def YV.s_is (v : YV) (x : Int32) : YV := (va_up v.1 8 x, v.2.1, v.2.2.1, v.2.2.2.1, v.2.2.2.2.1, v.2.2.2.2.2.1, v.2.2.2.2.2.2)
def YV.iz (v : YV) : Int32 := v.1 9
def YV.s_iz (v : YV) (x : Int32) : YV := (va_up v.1 9 x, v.2.1, v.2.2.1, v.2.2.2.1, v.2.2.2.2.1, v.2.2.2.2.2.1, v.2.2.2.2.2.2)
def YV.dfr (v : YV) : Int32 := v.1 10
def YV.s_dfr (v : YV) (x : Int32) : YV := (va_up v.1 10 x, v.2.1, v.2.2.1, v.2.2.2.1, v.2.2.2.2.1, v.2.2.2.2.2.1, v.2.2.2.2.2.2)
def YV.v0 (v : YV) : Int32 := v.1 11
def YV.s_v0 (v : YV) (x : Int32) : YV := (va_up v.1 11 x, v.2.1, v.2.2.1, v.2.2.2.1, v.2.2.2.2.1, v.2.2.2.2.2.1, v.2.2.2.2.2.2)
def YV.v1 (v : YV) : Int32 := v.1 12
def YV.s_v1 (v : YV) (x : Int32) : YV := (va_up v.1 12 x, v.2.1, v.2.2.1, v.2.2.2.1, v.2.2.2.2.1, v.2.2.2.2.2.1, v.2.2.2.2.2.2)
def YV.v2 (v : YV) : Int32 := v.1 13
def YV.s_v2 (v : YV) (x : Int32) : YV := (va_up v.1 13 x, v.2.1, v.2.2.1, v.2.2.2.1, v.2.2.2.2.1, v.2.2.2.2.2.1, v.2.2.2.2.2.2)
def YV.v3 (v : YV) : Int32 := v.1 14
def YV.s_v3 (v : YV) (x : Int32) : YV := (va_up v.1 14 x, v.2.1, v.2.2.1, v.2.2.2.1, v.2.2.2.2.1, v.2.2.2.2.2.1, v.2.2.2.2.2.2)
def YV.v4 (v : YV) : Int32 := v.1 15
def YV.s_v4 (v : YV) (x : Int32) : YV := (va_up v.1 15 x, v.2.1, v.2.2.1, v.2.2.2.1, v.2.2.2.2.1, v.2.2.2.2.2.1, v.2.2.2.2.2.2)
def YV.pfa (v : YV) : Int32 := v.1 16
def YV.s_pfa (v : YV) (x : Int32) : YV := (va_up v.1 16 x, v.2.1, v.2.2.1, v.2.2.2.1, v.2.2.2.2.1, v.2.2.2.2.2.1, v.2.2.2.2.2.2)
def YV.pfp (v : YV) : Int32 := v.1 17
def YV.s_pfp (v : YV) (x : Int32) : YV := (va_up v.1 17 x, v.2.1, v.2.2.1, v.2.2.2.1, v.2.2.2.2.1, v.2.2.2.2.2.1, v.2.2.2.2.2.2)
def YV.psk (v : YV) : Int32 := v.1 18
def YV.s_psk (v : YV) (x : Int32) : YV := (va_up v.1 18 x, v.2.1, v.2.2.1, v.2.2.2.1, v.2.2.2.2.1, v.2.2.2.2.2.1, v.2.2.2.2.2.2)
def YV.phs (v : YV) : Int32 := v.1 19
def YV.s_phs (v : YV) (x : Int32) : YV := (va_up v.1 19 x, v.2.1, v.2.2.1, v.2.2.2.1, v.2.2.2.2.1, v.2.2.2.2.2.1, v.2.2.2.2.2.2)
def YV.pop (v : YV) : Int32 := v.1 20
def YV.s_pop (v : YV) (x : Int32) : YV := (va_up v.1 20 x, v.2.1, v.2.2.1, v.2.2.2.1, v.2.2.2.2.1, v.2.2.2.2.2.1, v.2.2.2.2.2.2)
def YV.lfi (v : YV) : Int32 := v.1 21
def YV.s_lfi (v : YV) (x : Int32) : YV := (va_up v.1 21 x, v.2.1, v.2.2.1, v.2.2.2.1, v.2.2.2.2.1, v.2.2.2.2.2.1, v.2.2.2.2.2.2)
def YV.lxe (v : YV) : Int32 := v.1 22
def YV.s_lxe (v : YV) (x : Int32) : YV := (va_up v.1 22 x, v.2.1, v.2.2.1, v.2.2.2.1, v.2.2.2.2.1, v.2.2.2.2.2.1, v.2.2.2.2.2.2)
def YV.lxa (v : YV) : Int32 := v.1 23
def YV.s_lxa (v : YV) (x : Int32) : YV := (va_up v.1 23 x, v.2.1, v.2.2.1, v.2.2.2.1, v.2.2.2.2.1, v.2.2.2.2.2.1, v.2.2.2.2.2.2)
def YV.lxt (v : YV) : Int32 := v.1 24
def YV.s_lxt (v : YV) (x : Int32) : YV := (va_up v.1 24 x, v.2.1, v.2.2.1, v.2.2.2.1, v.2.2.2.2.1, v.2.2.2.2.2.1, v.2.2.2.2.2.2)
def YV.lxp (v : YV) : Int32 := v.1 25
def YV.s_lxp (v : YV) (x : Int32) : YV := (va_up v.1 25 x, v.2.1, v.2.2.1, v.2.2.2.1, v.2.2.2.2.1, v.2.2.2.2.2.1, v.2.2.2.2.2.2)
def YV.lxn (v : YV) : Int32 := v.1 26
def YV.s_lxn (v : YV) (x : Int32) : YV := (va_up v.1 26 x, v.2.1, v.2.2.1, v.2.2.2.1, v.2.2.2.2.1, v.2.2.2.2.2.1, v.2.2.2.2.2.2)
def YV.lxl (v : YV) : Int32 := v.1 27
def YV.s_lxl (v : YV) (x : Int32) : YV := (va_up v.1 27 x, v.2.1, v.2.2.1, v.2.2.2.1, v.2.2.2.2.1, v.2.2.2.2.2.1, v.2.2.2.2.2.2)
def YV.wd (v : YV) : Int32 := v.1 28
def YV.s_wd (v : YV) (x : Int32) : YV := (va_up v.1 28 x, v.2.1, v.2.2.1, v.2.2.2.1, v.2.2.2.2.1, v.2.2.2.2.2.1, v.2.2.2.2.2.2)
def YV.wf (v : YV) : Int32 := v.1 29
def YV.s_wf (v : YV) (x : Int32) : YV := (va_up v.1 29 x, v.2.1, v.2.2.1, v.2.2.2.1, v.2.2.2.2.1, v.2.2.2.2.2.1, v.2.2.2.2.2.2)
def YV.mp (v : YV) : Int32 := v.1 30
def YV.s_mp (v : YV) (x : Int32) : YV := (va_up v.1 30 x, v.2.1, v.2.2.1, v.2.2.2.1, v.2.2.2.2.1, v.2.2.2.2.2.1, v.2.2.2.2.2.2)
def YV.mb (v : YV) : Int32 := v.1 31
def YV.s_mb (v : YV) (x : Int32) : YV := (va_up v.1 31 x, v.2.1, v.2.2.1, v.2.2.2.1, v.2.2.2.2.1, v.2.2.2.2.2.1, v.2.2.2.2.2.2)
def YV.mo (v : YV) : Int32 := v.1 32
def YV.s_mo (v : YV) (x : Int32) : YV := (va_up v.1 32 x, v.2.1, v.2.2.1, v.2.2.2.1, v.2.2.2.2.1, v.2.2.2.2.2.1, v.2.2.2.2.2.2)
def YV.sp (v : YV) : Int32 := v.1 33
def YV.s_sp (v : YV) (x : Int32) : YV := (va_up v.1 33 x, v.2.1, v.2.2.1, v.2.2.2.1, v.2.2.2.2.1, v.2.2.2.2.2.1, v.2.2.2.2.2.2)
def YV.sb (v : YV) : Int32 := v.1 34
def YV.s_sb (v : YV) (x : Int32) : YV := (va_up v.1 34 x, v.2.1, v.2.2.1, v.2.2.2.1, v.2.2.2.2.1, v.2.2.2.2.2.1, v.2.2.2.2.2.2)
def YV.rsz (v : YV) : Int32 := v.1 35
def YV.s_rsz (v : YV) (x : Int32) : YV := (va_up v.1 35 x, v.2.1, v.2.2.1, v.2.2.2.1, v.2.2.2.2.1, v.2.2.2.2.2.1, v.2.2.2.2.2.2)
def YV.rkn (v : YV) : Int32 := v.1 36
def YV.s_rkn (v : YV) (x : Int32) : YV := (va_up v.1 36 x, v.2.1, v.2.2.1, v.2.2.2.1, v.2.2.2.2.1, v.2.2.2.2.2.1, v.2.2.2.2.2.2)
def YV.ns (v : YV) : Int32 := v.1 37
def YV.s_ns (v : YV) (x : Int32) : YV := (va_up v.1 37 x, v.2.1, v.2.2.1, v.2.2.2.1, v.2.2.2.2.1, v.2.2.2.2.2.1, v.2.2.2.2.2.2)
def YV.wd2 (v : YV) : Int32 := v.1 38
def YV.s_wd2 (v : YV) (x : Int32) : YV := (va_up v.1 38 x, v.2.1, v.2.2.1, v.2.2.2.1, v.2.2.2.2.1, v.2.2.2.2.2.1, v.2.2.2.2.2.2)
def YV.wf2 (v : YV) : Int32 := v.1 39
def YV.s_wf2 (v : YV) (x : Int32) : YV := (va_up v.1 39 x, v.2.1, v.2.2.1, v.2.2.2.1, v.2.2.2.2.1, v.2.2.2.2.2.1, v.2.2.2.2.2.2)
def YV.mp2 (v : YV) : Int32 := v.1 40
def YV.s_mp2 (v : YV) (x : Int32) : YV := (va_up v.1 40 x, v.2.1, v.2.2.1, v.2.2.2.1, v.2.2.2.2.1, v.2.2.2.2.2.1, v.2.2.2.2.2.2)
def YV.mb2 (v : YV) : Int32 := v.1 41
def YV.s_mb2 (v : YV) (x : Int32) : YV := (va_up v.1 41 x, v.2.1, v.2.2.1, v.2.2.2.1, v.2.2.2.2.1, v.2.2.2.2.2.1, v.2.2.2.2.2.2)
def YV.mo2 (v : YV) : Int32 := v.1 42
def YV.s_mo2 (v : YV) (x : Int32) : YV := (va_up v.1 42 x, v.2.1, v.2.2.1, v.2.2.2.1, v.2.2.2.2.1, v.2.2.2.2.2.1, v.2.2.2.2.2.2)
def YV.sp2 (v : YV) : Int32 := v.1 43
def YV.s_sp2 (v : YV) (x : Int32) : YV := (va_up v.1 43 x, v.2.1, v.2.2.1, v.2.2.2.1, v.2.2.2.2.1, v.2.2.2.2.2.1, v.2.2.2.2.2.2)
def YV.sb2 (v : YV) : Int32 := v.1 44
def YV.s_sb2 (v : YV) (x : Int32) : YV := (va_up v.1 44 x, v.2.1, v.2.2.1, v.2.2.2.1, v.2.2.2.2.1, v.2.2.2.2.2.1, v.2.2.2.2.2.2)
def YV.rsz2 (v : YV) : Int32 := v.1 45
def YV.s_rsz2 (v : YV) (x : Int32) : YV := (va_up v.1 45 x, v.2.1, v.2.2.1, v.2.2.2.1, v.2.2.2.2.1, v.2.2.2.2.2.1, v.2.2.2.2.2.2)
def YV.rkn2 (v : YV) : Int32 := v.1 46
def YV.s_rkn2 (v : YV) (x : Int32) : YV := (va_up v.1 46 x, v.2.1, v.2.2.1, v.2.2.2.1, v.2.2.2.2.1, v.2.2.2.2.2.1, v.2.2.2.2.2.2)
def YV.ns2 (v : YV) : Int32 := v.1 47
def YV.s_ns2 (v : YV) (x : Int32) : YV := (va_up v.1 47 x, v.2.1, v.2.2.1, v.2.2.2.1, v.2.2.2.2.1, v.2.2.2.2.2.1, v.2.2.2.2.2.2)
def YV.mct (v : YV) : Int64 := v.2.1 0
def YV.s_mct (v : YV) (x : Int64) : YV := (v.1, va_up v.2.1 0 x, v.2.2.1, v.2.2.2.1, v.2.2.2.2.1, v.2.2.2.2.2.1, v.2.2.2.2.2.2)
def YV.myr (v : YV) : Int64 := v.2.1 1
def YV.s_myr (v : YV) (x : Int64) : YV := (v.1, va_up v.2.1 1 x, v.2.2.1, v.2.2.2.1, v.2.2.2.2.1, v.2.2.2.2.2.1, v.2.2.2.2.2.2)
def YV.mdy (v : YV) : Int64 := v.2.1 2
def YV.s_mdy (v : YV) (x : Int64) : YV := (v.1, va_up v.2.1 2 x, v.2.2.1, v.2.2.2.1, v.2.2.2.2.1, v.2.2.2.2.2.1, v.2.2.2.2.2.2)
def YV.mlg (v : YV) : Int64 := v.2.1 3
def YV.s_mlg (v : YV) (x : Int64) : YV := (v.1, va_up v.2.1 3 x, v.2.2.1, v.2.2.2.1, v.2.2.2.2.1, v.2.2.2.2.2.1, v.2.2.2.2.2.2)
def YV.oct (v : YV) : Int64 := v.2.1 4
def YV.s_oct (v : YV) (x : Int64) : YV := (v.1, va_up v.2.1 4 x, v.2.2.1, v.2.2.2.1, v.2.2.2.2.1, v.2.2.2.2.2.1, v.2.2.2.2.2.2)
def YV.oyr (v : YV) : Int64 := v.2.1 5
def YV.s_oyr (v : YV) (x : Int64) : YV := (v.1, va_up v.2.1 5 x, v.2.2.1, v.2.2.2.1, v.2.2.2.2.1, v.2.2.2.2.2.1, v.2.2.2.2.2.2)
def YV.ody (v : YV) : Int64 := v.2.1 6
def YV.s_ody (v : YV) (x : Int64) : YV := (v.1, va_up v.2.1 6 x, v.2.2.1, v.2.2.2.1, v.2.2.2.2.1, v.2.2.2.2.2.1, v.2.2.2.2.2.2)
def YV.olg (v : YV) : Int64 := v.2.1 7
def YV.s_olg (v : YV) (x : Int64) : YV := (v.1, va_up v.2.1 7 x, v.2.2.1, v.2.2.2.1, v.2.2.2.2.1, v.2.2.2.2.2.1, v.2.2.2.2.2.2)
def YV.dct (v : YV) : Int64 := v.2.1 8
def YV.s_dct (v : YV) (x : Int64) : YV := (v.1, va_up v.2.1 8 x, v.2.2.1, v.2.2.2.1, v.2.2.2.2.1, v.2.2.2.2.2.1, v.2.2.2.2.2.2)
def YV.dyr (v : YV) : Int64 := v.2.1 9
def YV.s_dyr (v : YV) (x : Int64) : YV := (v.1, va_up v.2.1 9 x, v.2.2.1, v.2.2.2.1, v.2.2.2.2.1, v.2.2.2.2.2.1, v.2.2.2.2.2.2)
def YV.ddy (v : YV) : Int64 := v.2.1 10
def YV.s_ddy (v : YV) (x : Int64) : YV := (v.1, va_up v.2.1 10 x, v.2.2.1, v.2.2.2.1, v.2.2.2.2.1, v.2.2.2.2.2.1, v.2.2.2.2.2.2)
def YV.dlg (v : YV) : Int64 := v.2.1 11
def YV.s_dlg (v : YV) (x : Int64) : YV := (v.1, va_up v.2.1 11 x, v.2.2.1, v.2.2.2.1, v.2.2.2.2.1, v.2.2.2.2.2.1, v.2.2.2.2.2.2)
def YV.fLn (v : YV) : Nat → Int32 := v.2.2.1 0
def YV.s_fLn (v : YV) (x : Nat → Int32) : YV := (v.1, v.2.1, va_up v.2.2.1 0 x, v.2.2.2.1, v.2.2.2.2.1, v.2.2.2.2.2.1, v.2.2.2.2.2.2)
def YV.fLc (v : YV) : Nat → Int32 := v.2.2.1 1
def YV.s_fLc (v : YV) (x : Nat → Int32) : YV := (v.1, v.2.1, va_up v.2.2.1 1 x, v.2.2.2.1, v.2.2.2.2.1, v.2.2.2.2.2.1, v.2.2.2.2.2.2)
def YV.fIs (v : YV) : Nat → Int32 := v.2.2.1 2
def YV.s_fIs (v : YV) (x : Nat → Int32) : YV := (v.1, v.2.1, va_up v.2.2.1 2 x, v.2.2.2.1, v.2.2.2.2.1, v.2.2.2.2.2.1, v.2.2.2.2.2.2)
def YV.fIf (v : YV) : Nat → Int32 := v.2.2.1 3
def YV.s_fIf (v : YV) (x : Nat → Int32) : YV := (v.1, v.2.1, va_up v.2.2.1 3 x, v.2.2.2.1, v.2.2.2.2.1, v.2.2.2.2.2.1, v.2.2.2.2.2.2)
def YV.fIz (v : YV) : Nat → Int32 := v.2.2.1 4
def YV.s_fIz (v : YV) (x : Nat → Int32) : YV := (v.1, v.2.1, va_up v.2.2.1 4 x, v.2.2.2.1, v.2.2.2.2.1, v.2.2.2.2.2.1, v.2.2.2.2.2.2)
def YV.fIn (v : YV) : Nat → Int32 := v.2.2.1 5
def YV.s_fIn (v : YV) (x : Nat → Int32) : YV := (v.1, v.2.1, va_up v.2.2.1 5 x, v.2.2.2.1, v.2.2.2.2.1, v.2.2.2.2.2.1, v.2.2.2.2.2.2)
def YV.fIc (v : YV) : Nat → Int32 := v.2.2.1 6
def YV.s_fIc (v : YV) (x : Nat → Int32) : YV := (v.1, v.2.1, va_up v.2.2.1 6 x, v.2.2.2.1, v.2.2.2.2.1, v.2.2.2.2.2.1, v.2.2.2.2.2.2)
def YV.fSt (v : YV) : Nat → Int32 := v.2.2.1 7
def YV.s_fSt (v : YV) (x : Nat → Int32) : YV := (v.1, v.2.1, va_up v.2.2.1 7 x, v.2.2.2.1, v.2.2.2.2.1, v.2.2.2.2.2.1, v.2.2.2.2.2.2)
def YV.fSh (v : YV) : Nat → Int32 := v.2.2.1 8
def YV.s_fSh (v : YV) (x : Nat → Int32) : YV := (v.1, v.2.1, va_up v.2.2.1 8 x, v.2.2.2.1, v.2.2.2.2.1, v.2.2.2.2.2.1, v.2.2.2.2.2.2)
def YV.fTp (v : YV) : Nat → Int32 := v.2.2.1 9
def YV.s_fTp (v : YV) (x : Nat → Int32) : YV := (v.1, v.2.1, va_up v.2.2.1 9 x, v.2.2.2.1, v.2.2.2.2.1, v.2.2.2.2.2.1, v.2.2.2.2.2.2)
def YV.fBy (v : YV) : Nat → Int32 := v.2.2.1 10
def YV.s_fBy (v : YV) (x : Nat → Int32) : YV := (v.1, v.2.1, va_up v.2.2.1 10 x, v.2.2.2.1, v.2.2.2.2.1, v.2.2.2.2.2.1, v.2.2.2.2.2.2)
def YV.fCo (v : YV) : Nat → Int32 := v.2.2.1 11
def YV.s_fCo (v : YV) (x : Nat → Int32) : YV := (v.1, v.2.1, va_up v.2.2.1 11 x, v.2.2.2.1, v.2.2.2.2.1, v.2.2.2.2.2.1, v.2.2.2.2.2.2)
def YV.fTo (v : YV) : Nat → Int32 := v.2.2.1 12
def YV.s_fTo (v : YV) (x : Nat → Int32) : YV := (v.1, v.2.1, va_up v.2.2.1 12 x, v.2.2.2.1, v.2.2.2.2.1, v.2.2.2.2.2.1, v.2.2.2.2.2.2)
def YV.FI (v : YV) : Nat → Int32 := v.2.2.1 13
def YV.s_FI (v : YV) (x : Nat → Int32) : YV := (v.1, v.2.1, va_up v.2.2.1 13 x, v.2.2.2.1, v.2.2.2.2.1, v.2.2.2.2.2.1, v.2.2.2.2.2.2)
def YV.GR (v : YV) : Nat → Int32 := v.2.2.1 14
def YV.s_GR (v : YV) (x : Nat → Int32) : YV := (v.1, v.2.1, va_up v.2.2.1 14 x, v.2.2.2.1, v.2.2.2.2.1, v.2.2.2.2.2.1, v.2.2.2.2.2.2)
def YV.FR (v : YV) : Nat → Int32 := v.2.2.1 15
def YV.s_FR (v : YV) (x : Nat → Int32) : YV := (v.1, v.2.1, va_up v.2.2.1 15 x, v.2.2.2.1, v.2.2.2.2.1, v.2.2.2.2.2.1, v.2.2.2.2.2.2)
def YV.fRc (v : YV) : Nat → Int32 := v.2.2.1 16
def YV.s_fRc (v : YV) (x : Nat → Int32) : YV := (v.1, v.2.1, va_up v.2.2.1 16 x, v.2.2.2.1, v.2.2.2.2.1, v.2.2.2.2.2.1, v.2.2.2.2.2.2)
def YV.fRe (v : YV) : Nat → Int32 := v.2.2.1 17
def YV.s_fRe (v : YV) (x : Nat → Int32) : YV := (v.1, v.2.1, va_up v.2.2.1 17 x, v.2.2.2.1, v.2.2.2.2.1, v.2.2.2.2.2.1, v.2.2.2.2.2.2)
def YV.fDk (v : YV) : Nat → Int32 := v.2.2.1 18
def YV.s_fDk (v : YV) (x : Nat → Int32) : YV := (v.1, v.2.1, va_up v.2.2.1 18 x, v.2.2.2.1, v.2.2.2.2.1, v.2.2.2.2.2.1, v.2.2.2.2.2.2)
def YV.fDt (v : YV) : Nat → Int32 := v.2.2.1 19
def YV.s_fDt (v : YV) (x : Nat → Int32) : YV := (v.1, v.2.1, va_up v.2.2.1 19 x, v.2.2.2.1, v.2.2.2.2.1, v.2.2.2.2.2.1, v.2.2.2.2.2.2)
def YV.fDp (v : YV) : Nat → Int32 := v.2.2.1 20
def YV.s_fDp (v : YV) (x : Nat → Int32) : YV := (v.1, v.2.1, va_up v.2.2.1 20 x, v.2.2.2.1, v.2.2.2.2.1, v.2.2.2.2.2.1, v.2.2.2.2.2.2)
def YV.fNs (v : YV) : Nat → Int32 := v.2.2.1 21
def YV.s_fNs (v : YV) (x : Nat → Int32) : YV := (v.1, v.2.1, va_up v.2.2.1 21 x, v.2.2.2.1, v.2.2.2.2.1, v.2.2.2.2.2.1, v.2.2.2.2.2.2)
def YV.fNf (v : YV) : Nat → Int32 := v.2.2.1 22
def YV.s_fNf (v : YV) (x : Nat → Int32) : YV := (v.1, v.2.1, va_up v.2.2.1 22 x, v.2.2.2.1, v.2.2.2.2.1, v.2.2.2.2.2.1, v.2.2.2.2.2.2)
def YV.fNz (v : YV) : Nat → Int32 := v.2.2.1 23
def YV.s_fNz (v : YV) (x : Nat → Int32) : YV := (v.1, v.2.1, va_up v.2.2.1 23 x, v.2.2.2.1, v.2.2.2.2.1, v.2.2.2.2.2.1, v.2.2.2.2.2.2)
def YV.fHe (v : YV) : Nat → Int32 := v.2.2.1 24
def YV.s_fHe (v : YV) (x : Nat → Int32) : YV := (v.1, v.2.1, va_up v.2.2.1 24 x, v.2.2.2.1, v.2.2.2.2.1, v.2.2.2.2.2.1, v.2.2.2.2.2.2)
def YV.fHr (v : YV) : Nat → Int32 := v.2.2.1 25
def YV.s_fHr (v : YV) (x : Nat → Int32) : YV := (v.1, v.2.1, va_up v.2.2.1 25 x, v.2.2.2.1, v.2.2.2.2.1, v.2.2.2.2.2.1, v.2.2.2.2.2.2)
def YV.fTo2 (v : YV) : Nat → Int32 := v.2.2.1 26
def YV.s_fTo2 (v : YV) (x : Nat → Int32) : YV := (v.1, v.2.1, va_up v.2.2.1 26 x, v.2.2.2.1, v.2.2.2.2.1, v.2.2.2.2.2.1, v.2.2.2.2.2.2)
def YV.FI2 (v : YV) : Nat → Int32 := v.2.2.1 27
def YV.s_FI2 (v : YV) (x : Nat → Int32) : YV := (v.1, v.2.1, va_up v.2.2.1 27 x, v.2.2.2.1, v.2.2.2.2.1, v.2.2.2.2.2.1, v.2.2.2.2.2.2)
def YV.GR2 (v : YV) : Nat → Int32 := v.2.2.1 28
def YV.s_GR2 (v : YV) (x : Nat → Int32) : YV := (v.1, v.2.1, va_up v.2.2.1 28 x, v.2.2.2.1, v.2.2.2.2.1, v.2.2.2.2.2.1, v.2.2.2.2.2.2)
def YV.FR2 (v : YV) : Nat → Int32 := v.2.2.1 29
def YV.s_FR2 (v : YV) (x : Nat → Int32) : YV := (v.1, v.2.1, va_up v.2.2.1 29 x, v.2.2.2.1, v.2.2.2.2.1, v.2.2.2.2.2.1, v.2.2.2.2.2.2)
def YV.fRc2 (v : YV) : Nat → Int32 := v.2.2.1 30
def YV.s_fRc2 (v : YV) (x : Nat → Int32) : YV := (v.1, v.2.1, va_up v.2.2.1 30 x, v.2.2.2.1, v.2.2.2.2.1, v.2.2.2.2.2.1, v.2.2.2.2.2.2)
def YV.fRe2 (v : YV) : Nat → Int32 := v.2.2.1 31
def YV.s_fRe2 (v : YV) (x : Nat → Int32) : YV := (v.1, v.2.1, va_up v.2.2.1 31 x, v.2.2.2.1, v.2.2.2.2.1, v.2.2.2.2.2.1, v.2.2.2.2.2.2)
def YV.fDk2 (v : YV) : Nat → Int32 := v.2.2.1 32
def YV.s_fDk2 (v : YV) (x : Nat → Int32) : YV := (v.1, v.2.1, va_up v.2.2.1 32 x, v.2.2.2.1, v.2.2.2.2.1, v.2.2.2.2.2.1, v.2.2.2.2.2.2)
def YV.fDt2 (v : YV) : Nat → Int32 := v.2.2.1 33
def YV.s_fDt2 (v : YV) (x : Nat → Int32) : YV := (v.1, v.2.1, va_up v.2.2.1 33 x, v.2.2.2.1, v.2.2.2.2.1, v.2.2.2.2.2.1, v.2.2.2.2.2.2)
def YV.fDp2 (v : YV) : Nat → Int32 := v.2.2.1 34
def YV.s_fDp2 (v : YV) (x : Nat → Int32) : YV := (v.1, v.2.1, va_up v.2.2.1 34 x, v.2.2.2.1, v.2.2.2.2.1, v.2.2.2.2.2.1, v.2.2.2.2.2.2)
def YV.fNs2 (v : YV) : Nat → Int32 := v.2.2.1 35
def YV.s_fNs2 (v : YV) (x : Nat → Int32) : YV := (v.1, v.2.1, va_up v.2.2.1 35 x, v.2.2.2.1, v.2.2.2.2.1, v.2.2.2.2.2.1, v.2.2.2.2.2.2)
def YV.fNf2 (v : YV) : Nat → Int32 := v.2.2.1 36
def YV.s_fNf2 (v : YV) (x : Nat → Int32) : YV := (v.1, v.2.1, va_up v.2.2.1 36 x, v.2.2.2.1, v.2.2.2.2.1, v.2.2.2.2.2.1, v.2.2.2.2.2.2)
def YV.fNz2 (v : YV) : Nat → Int32 := v.2.2.1 37
def YV.s_fNz2 (v : YV) (x : Nat → Int32) : YV := (v.1, v.2.1, va_up v.2.2.1 37 x, v.2.2.2.1, v.2.2.2.2.1, v.2.2.2.2.2.1, v.2.2.2.2.2.2)
def YV.g (v : YV) : Nat → Int32 := v.2.2.1 38
def YV.s_g (v : YV) (x : Nat → Int32) : YV := (v.1, v.2.1, va_up v.2.2.1 38 x, v.2.2.2.1, v.2.2.2.2.1, v.2.2.2.2.2.1, v.2.2.2.2.2.2)
def YV.f_tape (v : YV) : Nat → Int32 := v.2.2.1 39
def YV.s_f_tape (v : YV) (x : Nat → Int32) : YV := (v.1, v.2.1, va_up v.2.2.1 39 x, v.2.2.2.1, v.2.2.2.2.1, v.2.2.2.2.2.1, v.2.2.2.2.2.2)
def YV.f_words (v : YV) : Nat → Int32 := v.2.2.1 40
def YV.s_f_words (v : YV) (x : Nat → Int32) : YV := (v.1, v.2.1, va_up v.2.2.1 40 x, v.2.2.2.1, v.2.2.2.2.1, v.2.2.2.2.2.1, v.2.2.2.2.2.2)
def YV.f_sky (v : YV) : Nat → Int32 := v.2.2.1 41
def YV.s_f_sky (v : YV) (x : Nat → Int32) : YV := (v.1, v.2.1, va_up v.2.2.1 41 x, v.2.2.2.1, v.2.2.2.2.1, v.2.2.2.2.2.1, v.2.2.2.2.2.2)
def YV.f_landName (v : YV) : Nat → Int32 := v.2.2.1 42
def YV.s_f_landName (v : YV) (x : Nat → Int32) : YV := (v.1, v.2.1, va_up v.2.2.1 42 x, v.2.2.2.1, v.2.2.2.2.1, v.2.2.2.2.2.1, v.2.2.2.2.2.2)
def YV.f_landHas (v : YV) : Nat → Int32 := v.2.2.1 43
def YV.s_f_landHas (v : YV) (x : Nat → Int32) : YV := (v.1, v.2.1, va_up v.2.2.1 43 x, v.2.2.2.1, v.2.2.2.2.1, v.2.2.2.2.2.1, v.2.2.2.2.2.2)
def YV.f_feastName (v : YV) : Nat → Int32 := v.2.2.1 44
def YV.s_f_feastName (v : YV) (x : Nat → Int32) : YV := (v.1, v.2.1, va_up v.2.2.1 44 x, v.2.2.2.1, v.2.2.2.2.1, v.2.2.2.2.2.1, v.2.2.2.2.2.2)
def YV.f_first (v : YV) : Nat → Int32 := v.2.2.1 45
def YV.s_f_first (v : YV) (x : Nat → Int32) : YV := (v.1, v.2.1, va_up v.2.2.1 45 x, v.2.2.2.1, v.2.2.2.2.1, v.2.2.2.2.2.1, v.2.2.2.2.2.2)
def YV.f_last (v : YV) : Nat → Int32 := v.2.2.1 46
def YV.s_f_last (v : YV) (x : Nat → Int32) : YV := (v.1, v.2.1, va_up v.2.2.1 46 x, v.2.2.2.1, v.2.2.2.2.1, v.2.2.2.2.2.1, v.2.2.2.2.2.2)
def YV.f_personName (v : YV) : Nat → Int32 := v.2.2.1 47
def YV.s_f_personName (v : YV) (x : Nat → Int32) : YV := (v.1, v.2.1, va_up v.2.2.1 47 x, v.2.2.2.1, v.2.2.2.2.1, v.2.2.2.2.2.1, v.2.2.2.2.2.2)
def YV.f_deedName (v : YV) : Nat → Int32 := v.2.2.1 48
def YV.s_f_deedName (v : YV) (x : Nat → Int32) : YV := (v.1, v.2.1, va_up v.2.2.1 48 x, v.2.2.2.1, v.2.2.2.2.1, v.2.2.2.2.2.1, v.2.2.2.2.2.2)
def YV.f_deedHas (v : YV) : Nat → Int32 := v.2.2.1 49
def YV.s_f_deedHas (v : YV) (x : Nat → Int32) : YV := (v.1, v.2.1, va_up v.2.2.1 49 x, v.2.2.2.1, v.2.2.2.2.1, v.2.2.2.2.2.1, v.2.2.2.2.2.2)
def YV.f_noteName (v : YV) : Nat → Int32 := v.2.2.1 50
def YV.s_f_noteName (v : YV) (x : Nat → Int32) : YV := (v.1, v.2.1, va_up v.2.2.1 50 x, v.2.2.2.1, v.2.2.2.2.1, v.2.2.2.2.2.1, v.2.2.2.2.2.2)
def YV.f_noteHas (v : YV) : Nat → Int32 := v.2.2.1 51
def YV.s_f_noteHas (v : YV) (x : Nat → Int32) : YV := (v.1, v.2.1, va_up v.2.2.1 51 x, v.2.2.2.1, v.2.2.2.2.1, v.2.2.2.2.2.1, v.2.2.2.2.2.2)
def YV.f_knot (v : YV) : Nat → Int32 := v.2.2.1 52
def YV.s_f_knot (v : YV) (x : Nat → Int32) : YV := (v.1, v.2.1, va_up v.2.2.1 52 x, v.2.2.2.1, v.2.2.2.2.1, v.2.2.2.2.2.1, v.2.2.2.2.2.2)
def YV.f_part (v : YV) : Nat → Int32 := v.2.2.1 53
def YV.s_f_part (v : YV) (x : Nat → Int32) : YV := (v.1, v.2.1, va_up v.2.2.1 53 x, v.2.2.2.1, v.2.2.2.2.1, v.2.2.2.2.2.1, v.2.2.2.2.2.2)
def YV.f_other (v : YV) : Nat → Int32 := v.2.2.1 54
def YV.s_f_other (v : YV) (x : Nat → Int32) : YV := (v.1, v.2.1, va_up v.2.2.1 54 x, v.2.2.2.1, v.2.2.2.2.1, v.2.2.2.2.2.1, v.2.2.2.2.2.2)
def YV.f_wait (v : YV) : Nat → Int32 := v.2.2.1 55
def YV.s_f_wait (v : YV) (x : Nat → Int32) : YV := (v.1, v.2.1, va_up v.2.2.1 55 x, v.2.2.2.1, v.2.2.2.2.1, v.2.2.2.2.2.1, v.2.2.2.2.2.2)
def YV.f_held (v : YV) : Nat → Int32 := v.2.2.1 56
def YV.s_f_held (v : YV) (x : Nat → Int32) : YV := (v.1, v.2.1, va_up v.2.2.1 56 x, v.2.2.2.1, v.2.2.2.2.1, v.2.2.2.2.2.1, v.2.2.2.2.2.2)
def YV.f_undo (v : YV) : Nat → Int32 := v.2.2.1 57
def YV.s_f_undo (v : YV) (x : Nat → Int32) : YV := (v.1, v.2.1, va_up v.2.2.1 57 x, v.2.2.2.1, v.2.2.2.2.1, v.2.2.2.2.2.1, v.2.2.2.2.2.2)
def YV.f_can (v : YV) : Nat → Int32 := v.2.2.1 58
def YV.s_f_can (v : YV) (x : Nat → Int32) : YV := (v.1, v.2.1, va_up v.2.2.1 58 x, v.2.2.2.1, v.2.2.2.2.1, v.2.2.2.2.2.1, v.2.2.2.2.2.2)
def YV.f_root (v : YV) : Nat → Int32 := v.2.2.1 59
def YV.s_f_root (v : YV) (x : Nat → Int32) : YV := (v.1, v.2.1, va_up v.2.2.1 59 x, v.2.2.2.1, v.2.2.2.2.1, v.2.2.2.2.2.1, v.2.2.2.2.2.2)
def YV.f_off (v : YV) : Nat → Int32 := v.2.2.1 60
def YV.s_f_off (v : YV) (x : Nat → Int32) : YV := (v.1, v.2.1, va_up v.2.2.1 60 x, v.2.2.2.1, v.2.2.2.2.1, v.2.2.2.2.2.1, v.2.2.2.2.2.2)
def YV.f_toldNote (v : YV) : Nat → Int32 := v.2.2.1 61
def YV.s_f_toldNote (v : YV) (x : Nat → Int32) : YV := (v.1, v.2.1, va_up v.2.2.1 61 x, v.2.2.2.1, v.2.2.2.2.1, v.2.2.2.2.2.1, v.2.2.2.2.2.2)
def YV.f_toldCount (v : YV) : Nat → Int32 := v.2.2.1 62
def YV.s_f_toldCount (v : YV) (x : Nat → Int32) : YV := (v.1, v.2.1, va_up v.2.2.1 62 x, v.2.2.2.1, v.2.2.2.2.1, v.2.2.2.2.2.1, v.2.2.2.2.2.2)
def YV.f_keptHas (v : YV) : Nat → Int32 := v.2.2.1 63
def YV.s_f_keptHas (v : YV) (x : Nat → Int32) : YV := (v.1, v.2.1, va_up v.2.2.1 63 x, v.2.2.2.1, v.2.2.2.2.1, v.2.2.2.2.2.1, v.2.2.2.2.2.2)
def YV.f_keptNote (v : YV) : Nat → Int32 := v.2.2.1 64
def YV.s_f_keptNote (v : YV) (x : Nat → Int32) : YV := (v.1, v.2.1, va_up v.2.2.1 64 x, v.2.2.2.1, v.2.2.2.2.1, v.2.2.2.2.2.1, v.2.2.2.2.2.2)
def YV.f_keptCount (v : YV) : Nat → Int32 := v.2.2.1 65
def YV.s_f_keptCount (v : YV) (x : Nat → Int32) : YV := (v.1, v.2.1, va_up v.2.2.1 65 x, v.2.2.2.1, v.2.2.2.2.1, v.2.2.2.2.2.1, v.2.2.2.2.2.2)
def YV.fRs (v : YV) : Nat → Int64 := v.2.2.2.1 0
def YV.s_fRs (v : YV) (x : Nat → Int64) : YV := (v.1, v.2.1, v.2.2.1, va_up v.2.2.2.1 0 x, v.2.2.2.2.1, v.2.2.2.2.2.1, v.2.2.2.2.2.2)
def YV.fBo (v : YV) : Nat → Int64 := v.2.2.2.1 1
def YV.s_fBo (v : YV) (x : Nat → Int64) : YV := (v.1, v.2.1, v.2.2.1, va_up v.2.2.2.1 1 x, v.2.2.2.2.1, v.2.2.2.2.2.1, v.2.2.2.2.2.2)
def YV.fDi (v : YV) : Nat → Int64 := v.2.2.2.1 2
def YV.s_fDi (v : YV) (x : Nat → Int64) : YV := (v.1, v.2.1, v.2.2.1, va_up v.2.2.2.1 2 x, v.2.2.2.2.1, v.2.2.2.2.2.1, v.2.2.2.2.2.2)
def YV.fDa (v : YV) : Nat → Int64 := v.2.2.2.1 3
def YV.s_fDa (v : YV) (x : Nat → Int64) : YV := (v.1, v.2.1, v.2.2.1, va_up v.2.2.2.1 3 x, v.2.2.2.2.1, v.2.2.2.2.2.1, v.2.2.2.2.2.2)
def YV.fRs2 (v : YV) : Nat → Int64 := v.2.2.2.1 4
def YV.s_fRs2 (v : YV) (x : Nat → Int64) : YV := (v.1, v.2.1, v.2.2.1, va_up v.2.2.2.1 4 x, v.2.2.2.2.1, v.2.2.2.2.2.1, v.2.2.2.2.2.2)
def YV.fBo2 (v : YV) : Nat → Int64 := v.2.2.2.1 5
def YV.s_fBo2 (v : YV) (x : Nat → Int64) : YV := (v.1, v.2.1, v.2.2.1, va_up v.2.2.2.1 5 x, v.2.2.2.2.1, v.2.2.2.2.2.1, v.2.2.2.2.2.2)
def YV.fDi2 (v : YV) : Nat → Int64 := v.2.2.2.1 6
def YV.s_fDi2 (v : YV) (x : Nat → Int64) : YV := (v.1, v.2.1, v.2.2.1, va_up v.2.2.2.1 6 x, v.2.2.2.2.1, v.2.2.2.2.2.1, v.2.2.2.2.2.2)
def YV.fDa2 (v : YV) : Nat → Int64 := v.2.2.2.1 7
def YV.s_fDa2 (v : YV) (x : Nat → Int64) : YV := (v.1, v.2.1, v.2.2.1, va_up v.2.2.2.1 7 x, v.2.2.2.2.1, v.2.2.2.2.2.1, v.2.2.2.2.2.2)
def YV.gl (v : YV) : Nat → Int64 := v.2.2.2.1 8
def YV.s_gl (v : YV) (x : Nat → Int64) : YV := (v.1, v.2.1, v.2.2.1, va_up v.2.2.2.1 8 x, v.2.2.2.2.1, v.2.2.2.2.2.1, v.2.2.2.2.2.2)
def YV.f_born (v : YV) : Nat → Int64 := v.2.2.2.1 9
def YV.s_f_born (v : YV) (x : Nat → Int64) : YV := (v.1, v.2.1, v.2.2.1, va_up v.2.2.2.1 9 x, v.2.2.2.2.1, v.2.2.2.2.2.1, v.2.2.2.2.2.2)
def YV.f_died (v : YV) : Nat → Int64 := v.2.2.2.1 10
def YV.s_f_died (v : YV) (x : Nat → Int64) : YV := (v.1, v.2.1, v.2.2.1, va_up v.2.2.2.1 10 x, v.2.2.2.2.1, v.2.2.2.2.2.1, v.2.2.2.2.2.2)
def YV.f_deedOn (v : YV) : Nat → Int64 := v.2.2.2.1 11
def YV.s_f_deedOn (v : YV) (x : Nat → Int64) : YV := (v.1, v.2.1, v.2.2.1, va_up v.2.2.2.1 11 x, v.2.2.2.2.1, v.2.2.2.2.2.1, v.2.2.2.2.2.2)
def YV.f_names (v : YV) : Nat → Int64 := v.2.2.2.1 12
def YV.s_f_names (v : YV) (x : Nat → Int64) : YV := (v.1, v.2.1, v.2.2.1, va_up v.2.2.2.1 12 x, v.2.2.2.2.1, v.2.2.2.2.2.1, v.2.2.2.2.2.2)
def YV.f_value (v : YV) : Nat → Int64 := v.2.2.2.1 13
def YV.s_f_value (v : YV) (x : Nat → Int64) : YV := (v.1, v.2.1, v.2.2.1, va_up v.2.2.2.1 13 x, v.2.2.2.2.1, v.2.2.2.2.2.1, v.2.2.2.2.2.2)
def YV.f3 (v : YV) : Nat → Int64 := v.2.2.2.1 14
def YV.s_f3 (v : YV) (x : Nat → Int64) : YV := (v.1, v.2.1, v.2.2.1, va_up v.2.2.2.1 14 x, v.2.2.2.2.1, v.2.2.2.2.2.1, v.2.2.2.2.2.2)
def YV.fNm (v : YV) : Nat → Nat → Int32 := v.2.2.2.2.1 0
def YV.s_fNm (v : YV) (x : Nat → Nat → Int32) : YV := (v.1, v.2.1, v.2.2.1, v.2.2.2.1, va_up v.2.2.2.2.1 0 x, v.2.2.2.2.2.1, v.2.2.2.2.2.2)
def YV.fNm2 (v : YV) : Nat → Nat → Int32 := v.2.2.2.2.1 1
def YV.s_fNm2 (v : YV) (x : Nat → Nat → Int32) : YV := (v.1, v.2.1, v.2.2.1, v.2.2.2.1, va_up v.2.2.2.2.1 1 x, v.2.2.2.2.2.1, v.2.2.2.2.2.2)
def YV.fRw (v : YV) : Nat → Nat → Int64 := v.2.2.2.2.2.1 0
def YV.s_fRw (v : YV) (x : Nat → Nat → Int64) : YV := (v.1, v.2.1, v.2.2.1, v.2.2.2.1, v.2.2.2.2.1, va_up v.2.2.2.2.2.1 0 x, v.2.2.2.2.2.2)
def YV.mla (v : YV) : Value := v.2.2.2.2.2.2 0
def YV.s_mla (v : YV) (x : Value) : YV := (v.1, v.2.1, v.2.2.1, v.2.2.2.1, v.2.2.2.2.1, v.2.2.2.2.2.1, va_up v.2.2.2.2.2.2 0 x)
def YV.ola (v : YV) : Value := v.2.2.2.2.2.2 1
def YV.s_ola (v : YV) (x : Value) : YV := (v.1, v.2.1, v.2.2.1, v.2.2.2.1, v.2.2.2.2.1, v.2.2.2.2.2.1, va_up v.2.2.2.2.2.2 1 x)
def YV.dla (v : YV) : Value := v.2.2.2.2.2.2 2
def YV.s_dla (v : YV) (x : Value) : YV := (v.1, v.2.1, v.2.2.1, v.2.2.2.1, v.2.2.2.2.1, v.2.2.2.2.2.1, va_up v.2.2.2.2.2.2 2 x)
def YV.pbk (v : YV) : Value := v.2.2.2.2.2.2 3
def YV.s_pbk (v : YV) (x : Value) : YV := (v.1, v.2.1, v.2.2.1, v.2.2.2.1, v.2.2.2.2.1, v.2.2.2.2.2.1, va_up v.2.2.2.2.2.2 3 x)
/-- all cells -/
def yW (a : YA) (v : YV) : va_W := [(a.x, .inr (11, [.ref a.pa, .ref a.bk, .ref a.xsp, .ref a.xdy, .ref a.le, .ref a.xst, .int v.xsc, .ref a.xim, .ref a.xil, .int v.xik, .ref a.xmo, .ref a.xom, .ref a.wi])),
  (a.xmo, .inr (4, [v.mla, .long v.mct, .long v.myr, .long v.mdy, .long v.mlg])),
  (a.xom, .inr (4, [v.ola, .long v.oct, .long v.oyr, .long v.ody, .long v.olg])),
  (a.wi, .inr (10, [.int v.w0, .int v.w1, .int v.w2, .int v.w3, .int v.w4])),
  (a.le, .inr (2, [.int v.lz, .ref a.lna, .ref a.lca])),
  (a.lna, .inl (a.cLn, 20, .inl v.fLn)),
  (a.lca, .inl (a.cLc, 20, .inl v.fLc)),
  (a.xim, .inr (6, [.int v.is, .ref a.isa, .ref a.ifa, .ref a.iza])),
  (a.isa, .inl (a.cIs, 12, .inl v.fIs)),
  (a.ifa, .inl (a.cIf, 96, .inl v.fIf)),
  (a.iza, .inl (a.cIz, 96, .inl v.fIz)),
  (a.xil, .inr (2, [.int v.iz, .ref a.ina, .ref a.ica])),
  (a.ina, .inl (a.cIn, 20, .inl v.fIn)),
  (a.ica, .inl (a.cIc, 20, .inl v.fIc)),
  (a.xst, .inl (a.cSt, 108, .inl v.fSt)),
  (a.xdy, .inr (5, [.ref a.drw, .int v.dfr, .ref a.dsh, .ref a.dto, .ref a.dmo, .ref a.dwi])),
  (a.drw, .inl (a.cDr, 12, .inr (.inr (.inr (.inr (fun k => some (a.Rw k))))))),
  ((a.Rw 0), .inl (a.cRr, 313, .inr (.inl (v.fRw 0)))),
  ((a.Rw 1), .inl (a.cRr, 313, .inr (.inl (v.fRw 1)))),
  ((a.Rw 2), .inl (a.cRr, 313, .inr (.inl (v.fRw 2)))),
  ((a.Rw 3), .inl (a.cRr, 313, .inr (.inl (v.fRw 3)))),
  ((a.Rw 4), .inl (a.cRr, 313, .inr (.inl (v.fRw 4)))),
  ((a.Rw 5), .inl (a.cRr, 313, .inr (.inl (v.fRw 5)))),
  ((a.Rw 6), .inl (a.cRr, 313, .inr (.inl (v.fRw 6)))),
  ((a.Rw 7), .inl (a.cRr, 313, .inr (.inl (v.fRw 7)))),
  ((a.Rw 8), .inl (a.cRr, 313, .inr (.inl (v.fRw 8)))),
  ((a.Rw 9), .inl (a.cRr, 313, .inr (.inl (v.fRw 9)))),
  ((a.Rw 10), .inl (a.cRr, 313, .inr (.inl (v.fRw 10)))),
  ((a.Rw 11), .inl (a.cRr, 313, .inr (.inl (v.fRw 11)))),
  (a.dsh, .inl (a.cSh, 12, .inl v.fSh)),
  (a.dto, .inl (a.cTp, 12, .inl v.fTp)),
  (a.dmo, .inr (4, [v.dla, .long v.dct, .long v.dyr, .long v.ddy, .long v.dlg])),
  (a.dwi, .inr (10, [.int v.v0, .int v.v1, .int v.v2, .int v.v3, .int v.v4])),
  (a.pa, .inr (7, [.ref a.lx, v.pbk, .int v.pfa, .int v.pfp, .int v.psk, .ref a.phe, .ref a.phr, .int v.phs, .int v.pop])),
  (a.lx, .inr (3, [.ref a.lby, .int v.lfi, .ref a.lco, .int v.lxe, .int v.lxa, .int v.lxt, .int v.lxp, .int v.lxn, .int v.lxl])),
  (a.lby, .inl (a.cBy, 900, .inl v.fBy)),
  (a.lco, .inl (a.cCo, 23, .inl v.fCo)),
  (a.bk, .inr (0, [.ref a.bto, .ref a.bnm, .ref a.bla, .ref a.bsk, .ref a.bru, .ref a.bbo, .ref a.bdi, .ref a.bda, .ref a.bdk, .ref a.bdt, .ref a.bdp, .ref a.bno])),
  (a.bto, .inl (a.cTo, 5, .inl v.fTo)),
  (a.bnm, .inl (a.cNm, 5, .inr (.inr (.inr (.inr (fun k => some (a.Nm k))))))),
  ((a.Nm 0), .inl (a.cNr, 12, .inl (v.fNm 0))),
  ((a.Nm 1), .inl (a.cNr, 12, .inl (v.fNm 1))),
  ((a.Nm 2), .inl (a.cNr, 12, .inl (v.fNm 2))),
  ((a.Nm 3), .inl (a.cNr, 12, .inl (v.fNm 3))),
  ((a.Nm 4), .inl (a.cNr, 12, .inl (v.fNm 4))),
  (a.bla, .inl (a.cLa, 4, .inr (.inr (.inr (.inr (fun k => some (a.La k))))))),
  ((a.La 0), .inr (1, [.int (v.FI 0), .int (v.GR 0), .int (v.FR 0)])),
  ((a.La 1), .inr (1, [.int (v.FI 1), .int (v.GR 1), .int (v.FR 1)])),
  ((a.La 2), .inr (1, [.int (v.FI 2), .int (v.GR 2), .int (v.FR 2)])),
  ((a.La 3), .inr (1, [.int (v.FI 3), .int (v.GR 3), .int (v.FR 3)])),
  (a.bsk, .inr (9, [.int v.wd, .int v.wf, .int v.mp, .int v.mb, .int v.mo, .int v.sp, .int v.sb])),
  (a.bru, .inr (8, [.ref a.rco, .int v.rsz, .ref a.ren, .ref a.rst, .int v.rkn])),
  (a.rco, .inl (a.cRc, 64, .inl v.fRc)),
  (a.ren, .inl (a.cRe, 4, .inl v.fRe)),
  (a.rst, .inl (a.cRs, 64, .inr (.inl v.fRs))),
  (a.bbo, .inl (a.cBb, 6, .inr (.inl v.fBo))),
  (a.bdi, .inl (a.cBi, 6, .inr (.inl v.fDi))),
  (a.bda, .inl (a.cDa, 4, .inr (.inl v.fDa))),
  (a.bdk, .inl (a.cDk, 4, .inl v.fDk)),
  (a.bdt, .inl (a.cDt, 4, .inl v.fDt)),
  (a.bdp, .inl (a.cDp, 4, .inl v.fDp)),
  (a.bno, .inr (6, [.int v.ns, .ref a.nsa, .ref a.nfa, .ref a.nza])),
  (a.nsa, .inl (a.cNs, 12, .inl v.fNs)),
  (a.nfa, .inl (a.cNf, 96, .inl v.fNf)),
  (a.nza, .inl (a.cNz, 96, .inl v.fNz)),
  (a.phe, .inl (a.cHe, 72, .inl v.fHe)),
  (a.phr, .inl (a.cHr, 72, .inl v.fHr)),
  (a.xsp, .inr (0, [.ref a.bto2, .ref a.bnm2, .ref a.bla2, .ref a.bsk2, .ref a.bru2, .ref a.bbo2, .ref a.bdi2, .ref a.bda2, .ref a.bdk2, .ref a.bdt2, .ref a.bdp2, .ref a.bno2])),
  (a.bto2, .inl (a.cTo2, 5, .inl v.fTo2)),
  (a.bnm2, .inl (a.cNm2, 5, .inr (.inr (.inr (.inr (fun k => some (a.Nm2 k))))))),
  ((a.Nm2 0), .inl (a.cNr2, 12, .inl (v.fNm2 0))),
  ((a.Nm2 1), .inl (a.cNr2, 12, .inl (v.fNm2 1))),
  ((a.Nm2 2), .inl (a.cNr2, 12, .inl (v.fNm2 2))),
  ((a.Nm2 3), .inl (a.cNr2, 12, .inl (v.fNm2 3))),
  ((a.Nm2 4), .inl (a.cNr2, 12, .inl (v.fNm2 4))),
  (a.bla2, .inl (a.cLa2, 4, .inr (.inr (.inr (.inr (fun k => some (a.Lb k))))))),
  ((a.Lb 0), .inr (1, [.int (v.FI2 0), .int (v.GR2 0), .int (v.FR2 0)])),
  ((a.Lb 1), .inr (1, [.int (v.FI2 1), .int (v.GR2 1), .int (v.FR2 1)])),
  ((a.Lb 2), .inr (1, [.int (v.FI2 2), .int (v.GR2 2), .int (v.FR2 2)])),
  ((a.Lb 3), .inr (1, [.int (v.FI2 3), .int (v.GR2 3), .int (v.FR2 3)])),
  (a.bsk2, .inr (9, [.int v.wd2, .int v.wf2, .int v.mp2, .int v.mb2, .int v.mo2, .int v.sp2, .int v.sb2])),
  (a.bru2, .inr (8, [.ref a.rco2, .int v.rsz2, .ref a.ren2, .ref a.rst2, .int v.rkn2])),
  (a.rco2, .inl (a.cRc2, 64, .inl v.fRc2)),
  (a.ren2, .inl (a.cRe2, 4, .inl v.fRe2)),
  (a.rst2, .inl (a.cRs2, 64, .inr (.inl v.fRs2))),
  (a.bbo2, .inl (a.cBb2, 6, .inr (.inl v.fBo2))),
  (a.bdi2, .inl (a.cBi2, 6, .inr (.inl v.fDi2))),
  (a.bda2, .inl (a.cDa2, 4, .inr (.inl v.fDa2))),
  (a.bdk2, .inl (a.cDk2, 4, .inl v.fDk2)),
  (a.bdt2, .inl (a.cDt2, 4, .inl v.fDt2)),
  (a.bdp2, .inl (a.cDp2, 4, .inl v.fDp2)),
  (a.bno2, .inr (6, [.int v.ns2, .ref a.nsa2, .ref a.nfa2, .ref a.nza2])),
  (a.nsa2, .inl (a.cNs2, 12, .inl v.fNs2)),
  (a.nfa2, .inl (a.cNf2, 96, .inl v.fNf2)),
  (a.nza2, .inl (a.cNz2, 96, .inl v.fNz2)),
  (a.mq, .inr (12, mF v.g v.gl a.rf)),
  ((a.rf 0), .inl ((a.ck 0), 900, .inl v.f_tape)),
  ((a.rf 3), .inl ((a.ck 3), 118, .inl v.f_words)),
  ((a.rf 24), .inl ((a.ck 24), 14, .inl v.f_sky)),
  ((a.rf 28), .inl ((a.ck 28), 8, .inl v.f_landName)),
  ((a.rf 29), .inl ((a.ck 29), 24, .inl v.f_landHas)),
  ((a.rf 30), .inl ((a.ck 30), 8, .inl v.f_feastName)),
  ((a.rf 31), .inl ((a.ck 31), 8, .inl v.f_first)),
  ((a.rf 32), .inl ((a.ck 32), 8, .inl v.f_last)),
  ((a.rf 33), .inl ((a.ck 33), 12, .inl v.f_personName)),
  ((a.rf 34), .inl ((a.ck 34), 12, .inr (.inl v.f_born))),
  ((a.rf 35), .inl ((a.ck 35), 12, .inr (.inl v.f_died))),
  ((a.rf 36), .inl ((a.ck 36), 8, .inl v.f_deedName)),
  ((a.rf 37), .inl ((a.ck 37), 8, .inr (.inl v.f_deedOn))),
  ((a.rf 38), .inl ((a.ck 38), 24, .inl v.f_deedHas)),
  ((a.rf 39), .inl ((a.ck 39), 12, .inl v.f_noteName)),
  ((a.rf 40), .inl ((a.ck 40), 264, .inl v.f_noteHas)),
  ((a.rf 41), .inl ((a.ck 41), 128, .inl v.f_knot)),
  ((a.rf 42), .inl ((a.ck 42), 128, .inl v.f_part)),
  ((a.rf 43), .inl ((a.ck 43), 128, .inl v.f_other)),
  ((a.rf 45), .inl ((a.ck 45), 96, .inl v.f_wait)),
  ((a.rf 46), .inl ((a.ck 46), 96, .inl v.f_held)),
  ((a.rf 55), .inl ((a.ck 55), 6, .inr (.inl v.f_names))),
  ((a.rf 56), .inl ((a.ck 56), 64, .inr (.inl v.f_value))),
  ((a.rf 60), .inl ((a.ck 60), 128, .inl v.f_undo)),
  ((a.rf 61), .inl ((a.ck 61), 240000, .inl v.f_can)),
  ((a.rf 65), .inl ((a.ck 65), 12, .inl v.f_root)),
  ((a.rf 66), .inl ((a.ck 66), 12, .inl v.f_off)),
  ((a.rf 68), .inl ((a.ck 68), 20, .inl v.f_toldNote)),
  ((a.rf 69), .inl ((a.ck 69), 20, .inl v.f_toldCount)),
  ((a.rf 73), .inl ((a.ck 73), 132, .inl v.f_keptHas)),
  ((a.rf 74), .inl ((a.ck 74), 20, .inl v.f_keptNote)),
  ((a.rf 75), .inl ((a.ck 75), 20, .inl v.f_keptCount)),
  (a.o3, .inl (a.c3, 1, .inr (.inl v.f3)))]
def yK (a : YA) : List (ClassId × FieldType) := [(a.cLn, .int), (a.cLc, .int), (a.cIs, .int), (a.cIf, .int), (a.cIz, .int), (a.cIn, .int), (a.cIc, .int), (a.cSt, .int), (a.cDr, .array .long), (a.cRr, .long), (a.cSh, .int), (a.cTp, .int), (a.cBy, .byte), (a.cCo, .int), (a.cTo, .int), (a.cNm, .array .int), (a.cNr, .int), (a.cLa, .object RX1), (a.cRc, .int), (a.cRe, .int), (a.cRs, .long), (a.cBb, .long), (a.cBi, .long), (a.cDa, .long), (a.cDk, .int), (a.cDt, .int), (a.cDp, .int), (a.cNs, .int), (a.cNf, .int), (a.cNz, .int), (a.cHe, .int), (a.cHr, .int), (a.cTo2, .int), (a.cNm2, .array .int), (a.cNr2, .int), (a.cLa2, .object RX1), (a.cRc2, .int), (a.cRe2, .int), (a.cRs2, .long), (a.cBb2, .long), (a.cBi2, .long), (a.cDa2, .long), (a.cDk2, .int), (a.cDt2, .int), (a.cDp2, .int), (a.cNs2, .int), (a.cNf2, .int), (a.cNz2, .int), ((a.ck 0), .int), ((a.ck 3), .int), ((a.ck 24), .int), ((a.ck 28), .int), ((a.ck 29), .int), ((a.ck 30), .int), ((a.ck 31), .int), ((a.ck 32), .int), ((a.ck 33), .int), ((a.ck 34), .long), ((a.ck 35), .long), ((a.ck 36), .int), ((a.ck 37), .long), ((a.ck 38), .int), ((a.ck 39), .int), ((a.ck 40), .int), ((a.ck 41), .int), ((a.ck 42), .int), ((a.ck 43), .int), ((a.ck 45), .int), ((a.ck 46), .int), ((a.ck 55), .long), ((a.ck 56), .long), ((a.ck 60), .int), ((a.ck 61), .boolean), ((a.ck 65), .int), ((a.ck 66), .int), ((a.ck 68), .int), ((a.ck 69), .int), ((a.ck 73), .int), ((a.ck 74), .int), ((a.ck 75), .int), (a.c3, .long)]
/-- book and spare change places -/
def YA.swap (v : YA) : YA := ((((((((((((((((((((((((((((((((((((((((((((((((((((((((((((((((((((((((((v.s_bk v.xsp).s_xsp v.bk).s_bto v.bto2).s_bto2 v.bto).s_bnm v.bnm2).s_bnm2 v.bnm).s_bla v.bla2).s_bla2 v.bla).s_bsk v.bsk2).s_bsk2 v.bsk).s_bru v.bru2).s_bru2 v.bru).s_bbo v.bbo2).s_bbo2 v.bbo).s_bdi v.bdi2).s_bdi2 v.bdi).s_bda v.bda2).s_bda2 v.bda).s_bdk v.bdk2).s_bdk2 v.bdk).s_bdt v.bdt2).s_bdt2 v.bdt).s_bdp v.bdp2).s_bdp2 v.bdp).s_bno v.bno2).s_bno2 v.bno).s_cTo v.cTo2).s_cTo2 v.cTo).s_cNm v.cNm2).s_cNm2 v.cNm).s_Nm v.Nm2).s_Nm2 v.Nm).s_cNr v.cNr2).s_cNr2 v.cNr).s_cLa v.cLa2).s_cLa2 v.cLa).s_La v.Lb).s_Lb v.La).s_rco v.rco2).s_rco2 v.rco).s_ren v.ren2).s_ren2 v.ren).s_rst v.rst2).s_rst2 v.rst).s_cRc v.cRc2).s_cRc2 v.cRc).s_cRe v.cRe2).s_cRe2 v.cRe).s_cRs v.cRs2).s_cRs2 v.cRs).s_cBb v.cBb2).s_cBb2 v.cBb).s_cBi v.cBi2).s_cBi2 v.cBi).s_cDa v.cDa2).s_cDa2 v.cDa).s_cDk v.cDk2).s_cDk2 v.cDk).s_cDt v.cDt2).s_cDt2 v.cDt).s_cDp v.cDp2).s_cDp2 v.cDp).s_nsa v.nsa2).s_nsa2 v.nsa).s_nfa v.nfa2).s_nfa2 v.nfa).s_nza v.nza2).s_nza2 v.nza).s_cNs v.cNs2).s_cNs2 v.cNs).s_cNf v.cNf2).s_cNf2 v.cNf).s_cNz v.cNz2).s_cNz2 v.cNz)
/-- book and spare change places -/
def YV.swap (v : YV) : YV := ((((((((((((((((((((((((((((((((((((((((((((((((((((((v.s_fTo v.fTo2).s_fTo2 v.fTo).s_fNm v.fNm2).s_fNm2 v.fNm).s_FI v.FI2).s_FI2 v.FI).s_GR v.GR2).s_GR2 v.GR).s_FR v.FR2).s_FR2 v.FR).s_wd v.wd2).s_wd2 v.wd).s_wf v.wf2).s_wf2 v.wf).s_mp v.mp2).s_mp2 v.mp).s_mb v.mb2).s_mb2 v.mb).s_mo v.mo2).s_mo2 v.mo).s_sp v.sp2).s_sp2 v.sp).s_sb v.sb2).s_sb2 v.sb).s_rsz v.rsz2).s_rsz2 v.rsz).s_rkn v.rkn2).s_rkn2 v.rkn).s_fRc v.fRc2).s_fRc2 v.fRc).s_fRe v.fRe2).s_fRe2 v.fRe).s_fRs v.fRs2).s_fRs2 v.fRs).s_fBo v.fBo2).s_fBo2 v.fBo).s_fDi v.fDi2).s_fDi2 v.fDi).s_fDa v.fDa2).s_fDa2 v.fDa).s_fDk v.fDk2).s_fDk2 v.fDk).s_fDt v.fDt2).s_fDt2 v.fDt).s_fDp v.fDp2).s_fDp2 v.fDp).s_ns v.ns2).s_ns2 v.ns).s_fNs v.fNs2).s_fNs2 v.fNs).s_fNf v.fNf2).s_fNf2 v.fNf).s_fNz v.fNz2).s_fNz2 v.fNz)
