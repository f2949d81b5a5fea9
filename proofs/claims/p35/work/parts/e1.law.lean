/-- every cell of it lies in Bp -/
def yB (Bp : Nat → Prop) (ws : va_W) : Prop := ∀ (k : Nat) (q : Nat × va_E), ws[k]? = some q → Bp q.1
/-- what a call leaves, seen from the case's start -/
theorem yF {Bp : Nat → Prop} {W0 wc : va_W} {H0 H H1 : Heap} (hBs : yB Bp W0) (is : List Nat) (hi : is.map (fun i => (W0[i]?).map Prod.fst) = wc.map (fun c => some c.1)) (hz : H0.size ≤ H.size) (hfr : ∀ q : Nat, q < H0.size → ¬ Bp q → H[q]? = H0[q]?) (hk : ∀ q : Nat, q < H.size → ¬ va_A wc H.size q → H1[q]? = H[q]?) : ∀ q : Nat, q < H0.size → ¬ Bp q → H1[q]? = H0[q]? := by
  intro q h0 hb
  rw [← hfr q h0 hb]
  refine hk q (Nat.lt_of_lt_of_le h0 hz) (fun h => ?_)
  rcases h with ⟨k, e, h⟩ | h
  · have h1 : (wc.map (fun c => some c.1))[k]? = some (some q) := by rw [List.getElem?_map, h]; rfl
    rw [← hi, List.getElem?_map] at h1
    cases hj : is[k]? with
    | none => rw [hj] at h1; cases h1
    | some i =>
      rw [hj] at h1
      have h2 : (W0[i]?).map Prod.fst = some q := Option.some.inj h1
      cases hw : W0[i]? with
      | none => rw [hw] at h2; cases h2
      | some z =>
        rw [hw] at h2
        have h3 : z.1 = q := Option.some.inj h2
        exact hb (h3 ▸ hBs i z hw)
  · exact absurd h0 (Nat.not_lt.mpr (Nat.le_trans hz h))
theorem yR {a n : Nat} {r : Room} (h : a ≤ 601024) (hr : r = room_1) : a ≤ r.cells := by rw [hr]; exact h
theorem yR2 {a n : Nat} {r : Room} (h : a ≤ 7293034) (hr : r = room_1) : a ≤ r.slots := by rw [hr]; exact h
