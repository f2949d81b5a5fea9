theorem xm_cp {g f f0 : Nat → Int32} {z : Int32} {N k : Nat} (hN : N + N < 2 ^ 31) (hk : k < N) (hg : ∀ j, g j = if j < k then f0 (N + j) else f0 j) (ez : z = g (nI N + nI k).toNatClampNeg) (ef : f = upd g (nI k).toNatClampNeg z) : ∀ j, f j = if j < k + 1 then f0 (N + j) else f0 j := by
  intro j
  rw [nI_add, nI_clamp (by omega)] at ez
  rw [nI_clamp (by omega)] at ef
  have hz : z = f0 (N + k) := by
    rw [ez, hg, if_neg (by omega)]
  rcases Nat.lt_trichotomy j k with q | q | q
  · rw [ef, pk_un (by omega), hg, if_pos q, if_pos (by omega)]
  · rw [q, ef, pk_us, if_pos (by omega), hz]
  · rw [ef, pk_un (by omega), hg, if_neg (by omega), if_neg (by omega)]
