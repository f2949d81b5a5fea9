theorem zLx {α β γ δ : Type} {v : α} {f : α → β} {w : γ} {g : γ → δ} {R : β → δ → Prop} (h : ∀ x, x = v → ∀ y, y = w → R (f x) (g y)) : R (xL v f) (xL w g) := h v rfl w rfl
theorem zLl {α β δ : Type} {v : α} {f : α → β} {z : δ} {R : β → δ → Prop} (h : ∀ x, x = v → R (f x) z) : R (xL v f) z := h v rfl
theorem zLr {β γ δ : Type} {z : β} {w : γ} {g : γ → δ} {R : β → δ → Prop} (h : ∀ y, y = w → R z (g y)) : R z (xL w g) := h w rfl
def zun (t : Int32) : Int32 := (if t = 0 then (0 : Int32) else (if t = 5 then (1 : Int32) else (if t = 6 then (2 : Int32) else (if t = 8 then (3 : Int32) else (if t = 13 then (4 : Int32) else (if t = 4 then (5 : Int32) else (if t = 2 then (6 : Int32) else (if t = 3 then (7 : Int32) else (if t = 1 then (8 : Int32) else (if t = 7 then (9 : Int32) else (if t = 9 then (10 : Int32) else (if t = 10 then (11 : Int32) else (if t = 11 then (12 : Int32) else (if t = 12 then (13 : Int32) else (if t = 17 then (14 : Int32) else (if t = 18 then (15 : Int32) else (if t = 20 then (16 : Int32) else (if t = 19 then (17 : Int32) else (if t = 21 then (18 : Int32) else (if t = 15 then (19 : Int32) else (if t = 14 then (20 : Int32) else (if t = 16 then (21 : Int32) else (if t = 22 then (22 : Int32) else (-1))))))))))))))))))))))))
theorem zkz {wh : Int32} (k0 : ¬ wh < 0) (kz : wh ≤ 22) : ¬ zkey wh < 0 ∧ zkey wh ≤ 22 ∧ zun (zkey wh) = wh := by
  by_cases c0 : wh = 0
  · rw [c0]; decide
  have k1 : ¬ wh < 1 := by lia
  clear c0 k0
  by_cases c1 : wh = 1
  · rw [c1]; decide
  have k2 : ¬ wh < 2 := by lia
  clear c1 k1
  by_cases c2 : wh = 2
  · rw [c2]; decide
  have k3 : ¬ wh < 3 := by lia
  clear c2 k2
  by_cases c3 : wh = 3
  · rw [c3]; decide
  have k4 : ¬ wh < 4 := by lia
  clear c3 k3
  by_cases c4 : wh = 4
  · rw [c4]; decide
  have k5 : ¬ wh < 5 := by lia
  clear c4 k4
  by_cases c5 : wh = 5
  · rw [c5]; decide
  have k6 : ¬ wh < 6 := by lia
  clear c5 k5
  by_cases c6 : wh = 6
  · rw [c6]; decide
  have k7 : ¬ wh < 7 := by lia
  clear c6 k6
  by_cases c7 : wh = 7
  · rw [c7]; decide
  have k8 : ¬ wh < 8 := by lia
  clear c7 k7
  by_cases c8 : wh = 8
  · rw [c8]; decide
  have k9 : ¬ wh < 9 := by lia
  clear c8 k8
  by_cases c9 : wh = 9
  · rw [c9]; decide
  have k10 : ¬ wh < 10 := by lia
  clear c9 k9
  by_cases c10 : wh = 10
  · rw [c10]; decide
  have k11 : ¬ wh < 11 := by lia
  clear c10 k10
  by_cases c11 : wh = 11
  · rw [c11]; decide
  have k12 : ¬ wh < 12 := by lia
  clear c11 k11
  by_cases c12 : wh = 12
  · rw [c12]; decide
  have k13 : ¬ wh < 13 := by lia
  clear c12 k12
  by_cases c13 : wh = 13
  · rw [c13]; decide
  have k14 : ¬ wh < 14 := by lia
  clear c13 k13
  by_cases c14 : wh = 14
  · rw [c14]; decide
  have k15 : ¬ wh < 15 := by lia
  clear c14 k14
  by_cases c15 : wh = 15
  · rw [c15]; decide
  have k16 : ¬ wh < 16 := by lia
  clear c15 k15
  by_cases c16 : wh = 16
  · rw [c16]; decide
  have k17 : ¬ wh < 17 := by lia
  clear c16 k16
  by_cases c17 : wh = 17
  · rw [c17]; decide
  have k18 : ¬ wh < 18 := by lia
  clear c17 k17
  by_cases c18 : wh = 18
  · rw [c18]; decide
  have k19 : ¬ wh < 19 := by lia
  clear c18 k18
  by_cases c19 : wh = 19
  · rw [c19]; decide
  have k20 : ¬ wh < 20 := by lia
  clear c19 k19
  by_cases c20 : wh = 20
  · rw [c20]; decide
  have k21 : ¬ wh < 21 := by lia
  clear c20 k20
  by_cases c21 : wh = 21
  · rw [c21]; decide
  have k22 : ¬ wh < 22 := by lia
  clear c21 k21
  by_cases c22 : wh = 22
  · rw [c22]; decide
  exact absurd kz (by lia)
theorem zq40 {kd wh lxt : Int32} (hl : lxt = ztk kd wh) (hv : zV kd wh) : (lxt = 40) = (kd = 0) := by
  apply propext
  rw [hl]
  rcases hv with h | ⟨h, w0, w2⟩ | h | h | ⟨h, hw⟩ | ⟨h, w0, w5⟩ | h <;> rw [h]
  · exact ⟨fun _ => rfl, fun _ => rfl⟩
  · have z3 := zkz w0 w2
    exact ⟨fun z => absurd (show zkey wh = 40 from z) (by have z4 := z3.2.1; lia), fun z => absurd z (by decide)⟩
  · exact ⟨fun z => absurd z (by decide : ¬ (23 : Int32) = 40), fun z => absurd z (by decide)⟩
  · exact ⟨fun z => absurd z (by decide : ¬ (24 : Int32) = 40), fun z => absurd z (by decide)⟩
  · rcases hw with w | w | w | w | w | w | w | w <;> rw [w]
    · exact ⟨fun z => absurd z (by decide : ¬ (25 : Int32) = 40), fun z => absurd z (by decide)⟩
    · exact ⟨fun z => absurd z (by decide : ¬ (26 : Int32) = 40), fun z => absurd z (by decide)⟩
    · exact ⟨fun z => absurd z (by decide : ¬ (27 : Int32) = 40), fun z => absurd z (by decide)⟩
    · exact ⟨fun z => absurd z (by decide : ¬ (28 : Int32) = 40), fun z => absurd z (by decide)⟩
    · exact ⟨fun z => absurd z (by decide : ¬ (29 : Int32) = 40), fun z => absurd z (by decide)⟩
    · exact ⟨fun z => absurd z (by decide : ¬ (30 : Int32) = 40), fun z => absurd z (by decide)⟩
    · exact ⟨fun z => absurd z (by decide : ¬ (31 : Int32) = 40), fun z => absurd z (by decide)⟩
    · exact ⟨fun z => absurd z (by decide : ¬ (32 : Int32) = 40), fun z => absurd z (by decide)⟩
  · exact ⟨fun z => absurd (show 33 + wh = 40 from z) (by lia), fun z => absurd z (by decide)⟩
  · exact ⟨fun z => absurd z (by decide : ¬ (39 : Int32) = 40), fun z => absurd z (by decide)⟩
theorem zq23 {kd wh lxt : Int32} (hl : lxt = ztk kd wh) (hv : zV kd wh) : (lxt = 23) = (kd = 2) := by
  apply propext
  rw [hl]
  rcases hv with h | ⟨h, w0, w2⟩ | h | h | ⟨h, hw⟩ | ⟨h, w0, w5⟩ | h <;> rw [h]
  · exact ⟨fun z => absurd z (by decide : ¬ (40 : Int32) = 23), fun z => absurd z (by decide)⟩
  · have z3 := zkz w0 w2
    exact ⟨fun z => absurd (show zkey wh = 23 from z) (by have z4 := z3.2.1; lia), fun z => absurd z (by decide)⟩
  · exact ⟨fun _ => rfl, fun _ => rfl⟩
  · exact ⟨fun z => absurd z (by decide : ¬ (24 : Int32) = 23), fun z => absurd z (by decide)⟩
  · rcases hw with w | w | w | w | w | w | w | w <;> rw [w]
    · exact ⟨fun z => absurd z (by decide : ¬ (25 : Int32) = 23), fun z => absurd z (by decide)⟩
    · exact ⟨fun z => absurd z (by decide : ¬ (26 : Int32) = 23), fun z => absurd z (by decide)⟩
    · exact ⟨fun z => absurd z (by decide : ¬ (27 : Int32) = 23), fun z => absurd z (by decide)⟩
    · exact ⟨fun z => absurd z (by decide : ¬ (28 : Int32) = 23), fun z => absurd z (by decide)⟩
    · exact ⟨fun z => absurd z (by decide : ¬ (29 : Int32) = 23), fun z => absurd z (by decide)⟩
    · exact ⟨fun z => absurd z (by decide : ¬ (30 : Int32) = 23), fun z => absurd z (by decide)⟩
    · exact ⟨fun z => absurd z (by decide : ¬ (31 : Int32) = 23), fun z => absurd z (by decide)⟩
    · exact ⟨fun z => absurd z (by decide : ¬ (32 : Int32) = 23), fun z => absurd z (by decide)⟩
  · exact ⟨fun z => absurd (show 33 + wh = 23 from z) (by lia), fun z => absurd z (by decide)⟩
  · exact ⟨fun z => absurd z (by decide : ¬ (39 : Int32) = 23), fun z => absurd z (by decide)⟩
theorem zq24 {kd wh lxt : Int32} (hl : lxt = ztk kd wh) (hv : zV kd wh) : (lxt = 24) = (kd = 3) := by
  apply propext
  rw [hl]
  rcases hv with h | ⟨h, w0, w2⟩ | h | h | ⟨h, hw⟩ | ⟨h, w0, w5⟩ | h <;> rw [h]
  · exact ⟨fun z => absurd z (by decide : ¬ (40 : Int32) = 24), fun z => absurd z (by decide)⟩
  · have z3 := zkz w0 w2
    exact ⟨fun z => absurd (show zkey wh = 24 from z) (by have z4 := z3.2.1; lia), fun z => absurd z (by decide)⟩
  · exact ⟨fun z => absurd z (by decide : ¬ (23 : Int32) = 24), fun z => absurd z (by decide)⟩
  · exact ⟨fun _ => rfl, fun _ => rfl⟩
  · rcases hw with w | w | w | w | w | w | w | w <;> rw [w]
    · exact ⟨fun z => absurd z (by decide : ¬ (25 : Int32) = 24), fun z => absurd z (by decide)⟩
    · exact ⟨fun z => absurd z (by decide : ¬ (26 : Int32) = 24), fun z => absurd z (by decide)⟩
    · exact ⟨fun z => absurd z (by decide : ¬ (27 : Int32) = 24), fun z => absurd z (by decide)⟩
    · exact ⟨fun z => absurd z (by decide : ¬ (28 : Int32) = 24), fun z => absurd z (by decide)⟩
    · exact ⟨fun z => absurd z (by decide : ¬ (29 : Int32) = 24), fun z => absurd z (by decide)⟩
    · exact ⟨fun z => absurd z (by decide : ¬ (30 : Int32) = 24), fun z => absurd z (by decide)⟩
    · exact ⟨fun z => absurd z (by decide : ¬ (31 : Int32) = 24), fun z => absurd z (by decide)⟩
    · exact ⟨fun z => absurd z (by decide : ¬ (32 : Int32) = 24), fun z => absurd z (by decide)⟩
  · exact ⟨fun z => absurd (show 33 + wh = 24 from z) (by lia), fun z => absurd z (by decide)⟩
  · exact ⟨fun z => absurd z (by decide : ¬ (39 : Int32) = 24), fun z => absurd z (by decide)⟩
theorem zq0 {kd wh lxt : Int32} (hl : lxt = ztk kd wh) (hv : zV kd wh) : (lxt = 0) = (kd = 1 ∧ wh = 0) := by
  apply propext
  rw [hl]
  rcases hv with h | ⟨h, w0, w2⟩ | h | h | ⟨h, hw⟩ | ⟨h, w0, w5⟩ | h <;> rw [h]
  · exact ⟨fun z => absurd z (by decide : ¬ (40 : Int32) = 0), fun z => absurd z.1 (by decide)⟩
  · constructor
    · intro z
      have z1 : zkey wh = 0 := z
      have z2 := (zkz w0 w2).2.2
      rw [z1] at z2
      exact ⟨rfl, z2.symm⟩
    · intro z
      rw [z.2]; rfl
  · exact ⟨fun z => absurd z (by decide : ¬ (23 : Int32) = 0), fun z => absurd z.1 (by decide)⟩
  · exact ⟨fun z => absurd z (by decide : ¬ (24 : Int32) = 0), fun z => absurd z.1 (by decide)⟩
  · rcases hw with w | w | w | w | w | w | w | w <;> rw [w]
    · exact ⟨fun z => absurd z (by decide : ¬ (25 : Int32) = 0), fun z => absurd z.1 (by decide)⟩
    · exact ⟨fun z => absurd z (by decide : ¬ (26 : Int32) = 0), fun z => absurd z.1 (by decide)⟩
    · exact ⟨fun z => absurd z (by decide : ¬ (27 : Int32) = 0), fun z => absurd z.1 (by decide)⟩
    · exact ⟨fun z => absurd z (by decide : ¬ (28 : Int32) = 0), fun z => absurd z.1 (by decide)⟩
    · exact ⟨fun z => absurd z (by decide : ¬ (29 : Int32) = 0), fun z => absurd z.1 (by decide)⟩
    · exact ⟨fun z => absurd z (by decide : ¬ (30 : Int32) = 0), fun z => absurd z.1 (by decide)⟩
    · exact ⟨fun z => absurd z (by decide : ¬ (31 : Int32) = 0), fun z => absurd z.1 (by decide)⟩
    · exact ⟨fun z => absurd z (by decide : ¬ (32 : Int32) = 0), fun z => absurd z.1 (by decide)⟩
  · exact ⟨fun z => absurd (show 33 + wh = 0 from z) (by lia), fun z => absurd z.1 (by decide)⟩
  · exact ⟨fun z => absurd z (by decide : ¬ (39 : Int32) = 0), fun z => absurd z.1 (by decide)⟩
theorem zq5 {kd wh lxt : Int32} (hl : lxt = ztk kd wh) (hv : zV kd wh) : (lxt = 5) = (kd = 1 ∧ wh = 1) := by
  apply propext
  rw [hl]
  rcases hv with h | ⟨h, w0, w2⟩ | h | h | ⟨h, hw⟩ | ⟨h, w0, w5⟩ | h <;> rw [h]
  · exact ⟨fun z => absurd z (by decide : ¬ (40 : Int32) = 5), fun z => absurd z.1 (by decide)⟩
  · constructor
    · intro z
      have z1 : zkey wh = 5 := z
      have z2 := (zkz w0 w2).2.2
      rw [z1] at z2
      exact ⟨rfl, z2.symm⟩
    · intro z
      rw [z.2]; rfl
  · exact ⟨fun z => absurd z (by decide : ¬ (23 : Int32) = 5), fun z => absurd z.1 (by decide)⟩
  · exact ⟨fun z => absurd z (by decide : ¬ (24 : Int32) = 5), fun z => absurd z.1 (by decide)⟩
  · rcases hw with w | w | w | w | w | w | w | w <;> rw [w]
    · exact ⟨fun z => absurd z (by decide : ¬ (25 : Int32) = 5), fun z => absurd z.1 (by decide)⟩
    · exact ⟨fun z => absurd z (by decide : ¬ (26 : Int32) = 5), fun z => absurd z.1 (by decide)⟩
    · exact ⟨fun z => absurd z (by decide : ¬ (27 : Int32) = 5), fun z => absurd z.1 (by decide)⟩
    · exact ⟨fun z => absurd z (by decide : ¬ (28 : Int32) = 5), fun z => absurd z.1 (by decide)⟩
    · exact ⟨fun z => absurd z (by decide : ¬ (29 : Int32) = 5), fun z => absurd z.1 (by decide)⟩
    · exact ⟨fun z => absurd z (by decide : ¬ (30 : Int32) = 5), fun z => absurd z.1 (by decide)⟩
    · exact ⟨fun z => absurd z (by decide : ¬ (31 : Int32) = 5), fun z => absurd z.1 (by decide)⟩
    · exact ⟨fun z => absurd z (by decide : ¬ (32 : Int32) = 5), fun z => absurd z.1 (by decide)⟩
  · exact ⟨fun z => absurd (show 33 + wh = 5 from z) (by lia), fun z => absurd z.1 (by decide)⟩
  · exact ⟨fun z => absurd z (by decide : ¬ (39 : Int32) = 5), fun z => absurd z.1 (by decide)⟩
theorem zq6 {kd wh lxt : Int32} (hl : lxt = ztk kd wh) (hv : zV kd wh) : (lxt = 6) = (kd = 1 ∧ wh = 2) := by
  apply propext
  rw [hl]
  rcases hv with h | ⟨h, w0, w2⟩ | h | h | ⟨h, hw⟩ | ⟨h, w0, w5⟩ | h <;> rw [h]
  · exact ⟨fun z => absurd z (by decide : ¬ (40 : Int32) = 6), fun z => absurd z.1 (by decide)⟩
  · constructor
    · intro z
      have z1 : zkey wh = 6 := z
      have z2 := (zkz w0 w2).2.2
      rw [z1] at z2
      exact ⟨rfl, z2.symm⟩
    · intro z
      rw [z.2]; rfl
  · exact ⟨fun z => absurd z (by decide : ¬ (23 : Int32) = 6), fun z => absurd z.1 (by decide)⟩
  · exact ⟨fun z => absurd z (by decide : ¬ (24 : Int32) = 6), fun z => absurd z.1 (by decide)⟩
  · rcases hw with w | w | w | w | w | w | w | w <;> rw [w]
    · exact ⟨fun z => absurd z (by decide : ¬ (25 : Int32) = 6), fun z => absurd z.1 (by decide)⟩
    · exact ⟨fun z => absurd z (by decide : ¬ (26 : Int32) = 6), fun z => absurd z.1 (by decide)⟩
    · exact ⟨fun z => absurd z (by decide : ¬ (27 : Int32) = 6), fun z => absurd z.1 (by decide)⟩
    · exact ⟨fun z => absurd z (by decide : ¬ (28 : Int32) = 6), fun z => absurd z.1 (by decide)⟩
    · exact ⟨fun z => absurd z (by decide : ¬ (29 : Int32) = 6), fun z => absurd z.1 (by decide)⟩
    · exact ⟨fun z => absurd z (by decide : ¬ (30 : Int32) = 6), fun z => absurd z.1 (by decide)⟩
    · exact ⟨fun z => absurd z (by decide : ¬ (31 : Int32) = 6), fun z => absurd z.1 (by decide)⟩
    · exact ⟨fun z => absurd z (by decide : ¬ (32 : Int32) = 6), fun z => absurd z.1 (by decide)⟩
  · exact ⟨fun z => absurd (show 33 + wh = 6 from z) (by lia), fun z => absurd z.1 (by decide)⟩
  · exact ⟨fun z => absurd z (by decide : ¬ (39 : Int32) = 6), fun z => absurd z.1 (by decide)⟩
theorem zq8 {kd wh lxt : Int32} (hl : lxt = ztk kd wh) (hv : zV kd wh) : (lxt = 8) = (kd = 1 ∧ wh = 3) := by
  apply propext
  rw [hl]
  rcases hv with h | ⟨h, w0, w2⟩ | h | h | ⟨h, hw⟩ | ⟨h, w0, w5⟩ | h <;> rw [h]
  · exact ⟨fun z => absurd z (by decide : ¬ (40 : Int32) = 8), fun z => absurd z.1 (by decide)⟩
  · constructor
    · intro z
      have z1 : zkey wh = 8 := z
      have z2 := (zkz w0 w2).2.2
      rw [z1] at z2
      exact ⟨rfl, z2.symm⟩
    · intro z
      rw [z.2]; rfl
  · exact ⟨fun z => absurd z (by decide : ¬ (23 : Int32) = 8), fun z => absurd z.1 (by decide)⟩
  · exact ⟨fun z => absurd z (by decide : ¬ (24 : Int32) = 8), fun z => absurd z.1 (by decide)⟩
  · rcases hw with w | w | w | w | w | w | w | w <;> rw [w]
    · exact ⟨fun z => absurd z (by decide : ¬ (25 : Int32) = 8), fun z => absurd z.1 (by decide)⟩
    · exact ⟨fun z => absurd z (by decide : ¬ (26 : Int32) = 8), fun z => absurd z.1 (by decide)⟩
    · exact ⟨fun z => absurd z (by decide : ¬ (27 : Int32) = 8), fun z => absurd z.1 (by decide)⟩
    · exact ⟨fun z => absurd z (by decide : ¬ (28 : Int32) = 8), fun z => absurd z.1 (by decide)⟩
    · exact ⟨fun z => absurd z (by decide : ¬ (29 : Int32) = 8), fun z => absurd z.1 (by decide)⟩
    · exact ⟨fun z => absurd z (by decide : ¬ (30 : Int32) = 8), fun z => absurd z.1 (by decide)⟩
    · exact ⟨fun z => absurd z (by decide : ¬ (31 : Int32) = 8), fun z => absurd z.1 (by decide)⟩
    · exact ⟨fun z => absurd z (by decide : ¬ (32 : Int32) = 8), fun z => absurd z.1 (by decide)⟩
  · exact ⟨fun z => absurd (show 33 + wh = 8 from z) (by lia), fun z => absurd z.1 (by decide)⟩
  · exact ⟨fun z => absurd z (by decide : ¬ (39 : Int32) = 8), fun z => absurd z.1 (by decide)⟩
theorem zq13 {kd wh lxt : Int32} (hl : lxt = ztk kd wh) (hv : zV kd wh) : (lxt = 13) = (kd = 1 ∧ wh = 4) := by
  apply propext
  rw [hl]
  rcases hv with h | ⟨h, w0, w2⟩ | h | h | ⟨h, hw⟩ | ⟨h, w0, w5⟩ | h <;> rw [h]
  · exact ⟨fun z => absurd z (by decide : ¬ (40 : Int32) = 13), fun z => absurd z.1 (by decide)⟩
  · constructor
    · intro z
      have z1 : zkey wh = 13 := z
      have z2 := (zkz w0 w2).2.2
      rw [z1] at z2
      exact ⟨rfl, z2.symm⟩
    · intro z
      rw [z.2]; rfl
  · exact ⟨fun z => absurd z (by decide : ¬ (23 : Int32) = 13), fun z => absurd z.1 (by decide)⟩
  · exact ⟨fun z => absurd z (by decide : ¬ (24 : Int32) = 13), fun z => absurd z.1 (by decide)⟩
  · rcases hw with w | w | w | w | w | w | w | w <;> rw [w]
    · exact ⟨fun z => absurd z (by decide : ¬ (25 : Int32) = 13), fun z => absurd z.1 (by decide)⟩
    · exact ⟨fun z => absurd z (by decide : ¬ (26 : Int32) = 13), fun z => absurd z.1 (by decide)⟩
    · exact ⟨fun z => absurd z (by decide : ¬ (27 : Int32) = 13), fun z => absurd z.1 (by decide)⟩
    · exact ⟨fun z => absurd z (by decide : ¬ (28 : Int32) = 13), fun z => absurd z.1 (by decide)⟩
    · exact ⟨fun z => absurd z (by decide : ¬ (29 : Int32) = 13), fun z => absurd z.1 (by decide)⟩
    · exact ⟨fun z => absurd z (by decide : ¬ (30 : Int32) = 13), fun z => absurd z.1 (by decide)⟩
    · exact ⟨fun z => absurd z (by decide : ¬ (31 : Int32) = 13), fun z => absurd z.1 (by decide)⟩
    · exact ⟨fun z => absurd z (by decide : ¬ (32 : Int32) = 13), fun z => absurd z.1 (by decide)⟩
  · exact ⟨fun z => absurd (show 33 + wh = 13 from z) (by lia), fun z => absurd z.1 (by decide)⟩
  · exact ⟨fun z => absurd z (by decide : ¬ (39 : Int32) = 13), fun z => absurd z.1 (by decide)⟩
theorem zq4 {kd wh lxt : Int32} (hl : lxt = ztk kd wh) (hv : zV kd wh) : (lxt = 4) = (kd = 1 ∧ wh = 5) := by
  apply propext
  rw [hl]
  rcases hv with h | ⟨h, w0, w2⟩ | h | h | ⟨h, hw⟩ | ⟨h, w0, w5⟩ | h <;> rw [h]
  · exact ⟨fun z => absurd z (by decide : ¬ (40 : Int32) = 4), fun z => absurd z.1 (by decide)⟩
  · constructor
    · intro z
      have z1 : zkey wh = 4 := z
      have z2 := (zkz w0 w2).2.2
      rw [z1] at z2
      exact ⟨rfl, z2.symm⟩
    · intro z
      rw [z.2]; rfl
  · exact ⟨fun z => absurd z (by decide : ¬ (23 : Int32) = 4), fun z => absurd z.1 (by decide)⟩
  · exact ⟨fun z => absurd z (by decide : ¬ (24 : Int32) = 4), fun z => absurd z.1 (by decide)⟩
  · rcases hw with w | w | w | w | w | w | w | w <;> rw [w]
    · exact ⟨fun z => absurd z (by decide : ¬ (25 : Int32) = 4), fun z => absurd z.1 (by decide)⟩
    · exact ⟨fun z => absurd z (by decide : ¬ (26 : Int32) = 4), fun z => absurd z.1 (by decide)⟩
    · exact ⟨fun z => absurd z (by decide : ¬ (27 : Int32) = 4), fun z => absurd z.1 (by decide)⟩
    · exact ⟨fun z => absurd z (by decide : ¬ (28 : Int32) = 4), fun z => absurd z.1 (by decide)⟩
    · exact ⟨fun z => absurd z (by decide : ¬ (29 : Int32) = 4), fun z => absurd z.1 (by decide)⟩
    · exact ⟨fun z => absurd z (by decide : ¬ (30 : Int32) = 4), fun z => absurd z.1 (by decide)⟩
    · exact ⟨fun z => absurd z (by decide : ¬ (31 : Int32) = 4), fun z => absurd z.1 (by decide)⟩
    · exact ⟨fun z => absurd z (by decide : ¬ (32 : Int32) = 4), fun z => absurd z.1 (by decide)⟩
  · exact ⟨fun z => absurd (show 33 + wh = 4 from z) (by lia), fun z => absurd z.1 (by decide)⟩
  · exact ⟨fun z => absurd z (by decide : ¬ (39 : Int32) = 4), fun z => absurd z.1 (by decide)⟩
theorem zq2 {kd wh lxt : Int32} (hl : lxt = ztk kd wh) (hv : zV kd wh) : (lxt = 2) = (kd = 1 ∧ wh = 6) := by
  apply propext
  rw [hl]
  rcases hv with h | ⟨h, w0, w2⟩ | h | h | ⟨h, hw⟩ | ⟨h, w0, w5⟩ | h <;> rw [h]
  · exact ⟨fun z => absurd z (by decide : ¬ (40 : Int32) = 2), fun z => absurd z.1 (by decide)⟩
  · constructor
    · intro z
      have z1 : zkey wh = 2 := z
      have z2 := (zkz w0 w2).2.2
      rw [z1] at z2
      exact ⟨rfl, z2.symm⟩
    · intro z
      rw [z.2]; rfl
  · exact ⟨fun z => absurd z (by decide : ¬ (23 : Int32) = 2), fun z => absurd z.1 (by decide)⟩
  · exact ⟨fun z => absurd z (by decide : ¬ (24 : Int32) = 2), fun z => absurd z.1 (by decide)⟩
  · rcases hw with w | w | w | w | w | w | w | w <;> rw [w]
    · exact ⟨fun z => absurd z (by decide : ¬ (25 : Int32) = 2), fun z => absurd z.1 (by decide)⟩
    · exact ⟨fun z => absurd z (by decide : ¬ (26 : Int32) = 2), fun z => absurd z.1 (by decide)⟩
    · exact ⟨fun z => absurd z (by decide : ¬ (27 : Int32) = 2), fun z => absurd z.1 (by decide)⟩
    · exact ⟨fun z => absurd z (by decide : ¬ (28 : Int32) = 2), fun z => absurd z.1 (by decide)⟩
    · exact ⟨fun z => absurd z (by decide : ¬ (29 : Int32) = 2), fun z => absurd z.1 (by decide)⟩
    · exact ⟨fun z => absurd z (by decide : ¬ (30 : Int32) = 2), fun z => absurd z.1 (by decide)⟩
    · exact ⟨fun z => absurd z (by decide : ¬ (31 : Int32) = 2), fun z => absurd z.1 (by decide)⟩
    · exact ⟨fun z => absurd z (by decide : ¬ (32 : Int32) = 2), fun z => absurd z.1 (by decide)⟩
  · exact ⟨fun z => absurd (show 33 + wh = 2 from z) (by lia), fun z => absurd z.1 (by decide)⟩
  · exact ⟨fun z => absurd z (by decide : ¬ (39 : Int32) = 2), fun z => absurd z.1 (by decide)⟩
theorem zq3 {kd wh lxt : Int32} (hl : lxt = ztk kd wh) (hv : zV kd wh) : (lxt = 3) = (kd = 1 ∧ wh = 7) := by
  apply propext
  rw [hl]
  rcases hv with h | ⟨h, w0, w2⟩ | h | h | ⟨h, hw⟩ | ⟨h, w0, w5⟩ | h <;> rw [h]
  · exact ⟨fun z => absurd z (by decide : ¬ (40 : Int32) = 3), fun z => absurd z.1 (by decide)⟩
  · constructor
    · intro z
      have z1 : zkey wh = 3 := z
      have z2 := (zkz w0 w2).2.2
      rw [z1] at z2
      exact ⟨rfl, z2.symm⟩
    · intro z
      rw [z.2]; rfl
  · exact ⟨fun z => absurd z (by decide : ¬ (23 : Int32) = 3), fun z => absurd z.1 (by decide)⟩
  · exact ⟨fun z => absurd z (by decide : ¬ (24 : Int32) = 3), fun z => absurd z.1 (by decide)⟩
  · rcases hw with w | w | w | w | w | w | w | w <;> rw [w]
    · exact ⟨fun z => absurd z (by decide : ¬ (25 : Int32) = 3), fun z => absurd z.1 (by decide)⟩
    · exact ⟨fun z => absurd z (by decide : ¬ (26 : Int32) = 3), fun z => absurd z.1 (by decide)⟩
    · exact ⟨fun z => absurd z (by decide : ¬ (27 : Int32) = 3), fun z => absurd z.1 (by decide)⟩
    · exact ⟨fun z => absurd z (by decide : ¬ (28 : Int32) = 3), fun z => absurd z.1 (by decide)⟩
    · exact ⟨fun z => absurd z (by decide : ¬ (29 : Int32) = 3), fun z => absurd z.1 (by decide)⟩
    · exact ⟨fun z => absurd z (by decide : ¬ (30 : Int32) = 3), fun z => absurd z.1 (by decide)⟩
    · exact ⟨fun z => absurd z (by decide : ¬ (31 : Int32) = 3), fun z => absurd z.1 (by decide)⟩
    · exact ⟨fun z => absurd z (by decide : ¬ (32 : Int32) = 3), fun z => absurd z.1 (by decide)⟩
  · exact ⟨fun z => absurd (show 33 + wh = 3 from z) (by lia), fun z => absurd z.1 (by decide)⟩
  · exact ⟨fun z => absurd z (by decide : ¬ (39 : Int32) = 3), fun z => absurd z.1 (by decide)⟩
theorem zq1 {kd wh lxt : Int32} (hl : lxt = ztk kd wh) (hv : zV kd wh) : (lxt = 1) = (kd = 1 ∧ wh = 8) := by
  apply propext
  rw [hl]
  rcases hv with h | ⟨h, w0, w2⟩ | h | h | ⟨h, hw⟩ | ⟨h, w0, w5⟩ | h <;> rw [h]
  · exact ⟨fun z => absurd z (by decide : ¬ (40 : Int32) = 1), fun z => absurd z.1 (by decide)⟩
  · constructor
    · intro z
      have z1 : zkey wh = 1 := z
      have z2 := (zkz w0 w2).2.2
      rw [z1] at z2
      exact ⟨rfl, z2.symm⟩
    · intro z
      rw [z.2]; rfl
  · exact ⟨fun z => absurd z (by decide : ¬ (23 : Int32) = 1), fun z => absurd z.1 (by decide)⟩
  · exact ⟨fun z => absurd z (by decide : ¬ (24 : Int32) = 1), fun z => absurd z.1 (by decide)⟩
  · rcases hw with w | w | w | w | w | w | w | w <;> rw [w]
    · exact ⟨fun z => absurd z (by decide : ¬ (25 : Int32) = 1), fun z => absurd z.1 (by decide)⟩
    · exact ⟨fun z => absurd z (by decide : ¬ (26 : Int32) = 1), fun z => absurd z.1 (by decide)⟩
    · exact ⟨fun z => absurd z (by decide : ¬ (27 : Int32) = 1), fun z => absurd z.1 (by decide)⟩
    · exact ⟨fun z => absurd z (by decide : ¬ (28 : Int32) = 1), fun z => absurd z.1 (by decide)⟩
    · exact ⟨fun z => absurd z (by decide : ¬ (29 : Int32) = 1), fun z => absurd z.1 (by decide)⟩
    · exact ⟨fun z => absurd z (by decide : ¬ (30 : Int32) = 1), fun z => absurd z.1 (by decide)⟩
    · exact ⟨fun z => absurd z (by decide : ¬ (31 : Int32) = 1), fun z => absurd z.1 (by decide)⟩
    · exact ⟨fun z => absurd z (by decide : ¬ (32 : Int32) = 1), fun z => absurd z.1 (by decide)⟩
  · exact ⟨fun z => absurd (show 33 + wh = 1 from z) (by lia), fun z => absurd z.1 (by decide)⟩
  · exact ⟨fun z => absurd z (by decide : ¬ (39 : Int32) = 1), fun z => absurd z.1 (by decide)⟩
theorem zq7 {kd wh lxt : Int32} (hl : lxt = ztk kd wh) (hv : zV kd wh) : (lxt = 7) = (kd = 1 ∧ wh = 9) := by
  apply propext
  rw [hl]
  rcases hv with h | ⟨h, w0, w2⟩ | h | h | ⟨h, hw⟩ | ⟨h, w0, w5⟩ | h <;> rw [h]
  · exact ⟨fun z => absurd z (by decide : ¬ (40 : Int32) = 7), fun z => absurd z.1 (by decide)⟩
  · constructor
    · intro z
      have z1 : zkey wh = 7 := z
      have z2 := (zkz w0 w2).2.2
      rw [z1] at z2
      exact ⟨rfl, z2.symm⟩
    · intro z
      rw [z.2]; rfl
  · exact ⟨fun z => absurd z (by decide : ¬ (23 : Int32) = 7), fun z => absurd z.1 (by decide)⟩
  · exact ⟨fun z => absurd z (by decide : ¬ (24 : Int32) = 7), fun z => absurd z.1 (by decide)⟩
  · rcases hw with w | w | w | w | w | w | w | w <;> rw [w]
    · exact ⟨fun z => absurd z (by decide : ¬ (25 : Int32) = 7), fun z => absurd z.1 (by decide)⟩
    · exact ⟨fun z => absurd z (by decide : ¬ (26 : Int32) = 7), fun z => absurd z.1 (by decide)⟩
    · exact ⟨fun z => absurd z (by decide : ¬ (27 : Int32) = 7), fun z => absurd z.1 (by decide)⟩
    · exact ⟨fun z => absurd z (by decide : ¬ (28 : Int32) = 7), fun z => absurd z.1 (by decide)⟩
    · exact ⟨fun z => absurd z (by decide : ¬ (29 : Int32) = 7), fun z => absurd z.1 (by decide)⟩
    · exact ⟨fun z => absurd z (by decide : ¬ (30 : Int32) = 7), fun z => absurd z.1 (by decide)⟩
    · exact ⟨fun z => absurd z (by decide : ¬ (31 : Int32) = 7), fun z => absurd z.1 (by decide)⟩
    · exact ⟨fun z => absurd z (by decide : ¬ (32 : Int32) = 7), fun z => absurd z.1 (by decide)⟩
  · exact ⟨fun z => absurd (show 33 + wh = 7 from z) (by lia), fun z => absurd z.1 (by decide)⟩
  · exact ⟨fun z => absurd z (by decide : ¬ (39 : Int32) = 7), fun z => absurd z.1 (by decide)⟩
theorem zq9 {kd wh lxt : Int32} (hl : lxt = ztk kd wh) (hv : zV kd wh) : (lxt = 9) = (kd = 1 ∧ wh = 10) := by
  apply propext
  rw [hl]
  rcases hv with h | ⟨h, w0, w2⟩ | h | h | ⟨h, hw⟩ | ⟨h, w0, w5⟩ | h <;> rw [h]
  · exact ⟨fun z => absurd z (by decide : ¬ (40 : Int32) = 9), fun z => absurd z.1 (by decide)⟩
  · constructor
    · intro z
      have z1 : zkey wh = 9 := z
      have z2 := (zkz w0 w2).2.2
      rw [z1] at z2
      exact ⟨rfl, z2.symm⟩
    · intro z
      rw [z.2]; rfl
  · exact ⟨fun z => absurd z (by decide : ¬ (23 : Int32) = 9), fun z => absurd z.1 (by decide)⟩
  · exact ⟨fun z => absurd z (by decide : ¬ (24 : Int32) = 9), fun z => absurd z.1 (by decide)⟩
  · rcases hw with w | w | w | w | w | w | w | w <;> rw [w]
    · exact ⟨fun z => absurd z (by decide : ¬ (25 : Int32) = 9), fun z => absurd z.1 (by decide)⟩
    · exact ⟨fun z => absurd z (by decide : ¬ (26 : Int32) = 9), fun z => absurd z.1 (by decide)⟩
    · exact ⟨fun z => absurd z (by decide : ¬ (27 : Int32) = 9), fun z => absurd z.1 (by decide)⟩
    · exact ⟨fun z => absurd z (by decide : ¬ (28 : Int32) = 9), fun z => absurd z.1 (by decide)⟩
    · exact ⟨fun z => absurd z (by decide : ¬ (29 : Int32) = 9), fun z => absurd z.1 (by decide)⟩
    · exact ⟨fun z => absurd z (by decide : ¬ (30 : Int32) = 9), fun z => absurd z.1 (by decide)⟩
    · exact ⟨fun z => absurd z (by decide : ¬ (31 : Int32) = 9), fun z => absurd z.1 (by decide)⟩
    · exact ⟨fun z => absurd z (by decide : ¬ (32 : Int32) = 9), fun z => absurd z.1 (by decide)⟩
  · exact ⟨fun z => absurd (show 33 + wh = 9 from z) (by lia), fun z => absurd z.1 (by decide)⟩
  · exact ⟨fun z => absurd z (by decide : ¬ (39 : Int32) = 9), fun z => absurd z.1 (by decide)⟩
theorem zq10 {kd wh lxt : Int32} (hl : lxt = ztk kd wh) (hv : zV kd wh) : (lxt = 10) = (kd = 1 ∧ wh = 11) := by
  apply propext
  rw [hl]
  rcases hv with h | ⟨h, w0, w2⟩ | h | h | ⟨h, hw⟩ | ⟨h, w0, w5⟩ | h <;> rw [h]
  · exact ⟨fun z => absurd z (by decide : ¬ (40 : Int32) = 10), fun z => absurd z.1 (by decide)⟩
  · constructor
    · intro z
      have z1 : zkey wh = 10 := z
      have z2 := (zkz w0 w2).2.2
      rw [z1] at z2
      exact ⟨rfl, z2.symm⟩
    · intro z
      rw [z.2]; rfl
  · exact ⟨fun z => absurd z (by decide : ¬ (23 : Int32) = 10), fun z => absurd z.1 (by decide)⟩
  · exact ⟨fun z => absurd z (by decide : ¬ (24 : Int32) = 10), fun z => absurd z.1 (by decide)⟩
  · rcases hw with w | w | w | w | w | w | w | w <;> rw [w]
    · exact ⟨fun z => absurd z (by decide : ¬ (25 : Int32) = 10), fun z => absurd z.1 (by decide)⟩
    · exact ⟨fun z => absurd z (by decide : ¬ (26 : Int32) = 10), fun z => absurd z.1 (by decide)⟩
    · exact ⟨fun z => absurd z (by decide : ¬ (27 : Int32) = 10), fun z => absurd z.1 (by decide)⟩
    · exact ⟨fun z => absurd z (by decide : ¬ (28 : Int32) = 10), fun z => absurd z.1 (by decide)⟩
    · exact ⟨fun z => absurd z (by decide : ¬ (29 : Int32) = 10), fun z => absurd z.1 (by decide)⟩
    · exact ⟨fun z => absurd z (by decide : ¬ (30 : Int32) = 10), fun z => absurd z.1 (by decide)⟩
    · exact ⟨fun z => absurd z (by decide : ¬ (31 : Int32) = 10), fun z => absurd z.1 (by decide)⟩
    · exact ⟨fun z => absurd z (by decide : ¬ (32 : Int32) = 10), fun z => absurd z.1 (by decide)⟩
  · exact ⟨fun z => absurd (show 33 + wh = 10 from z) (by lia), fun z => absurd z.1 (by decide)⟩
  · exact ⟨fun z => absurd z (by decide : ¬ (39 : Int32) = 10), fun z => absurd z.1 (by decide)⟩
theorem zq11 {kd wh lxt : Int32} (hl : lxt = ztk kd wh) (hv : zV kd wh) : (lxt = 11) = (kd = 1 ∧ wh = 12) := by
  apply propext
  rw [hl]
  rcases hv with h | ⟨h, w0, w2⟩ | h | h | ⟨h, hw⟩ | ⟨h, w0, w5⟩ | h <;> rw [h]
  · exact ⟨fun z => absurd z (by decide : ¬ (40 : Int32) = 11), fun z => absurd z.1 (by decide)⟩
  · constructor
    · intro z
      have z1 : zkey wh = 11 := z
      have z2 := (zkz w0 w2).2.2
      rw [z1] at z2
      exact ⟨rfl, z2.symm⟩
    · intro z
      rw [z.2]; rfl
  · exact ⟨fun z => absurd z (by decide : ¬ (23 : Int32) = 11), fun z => absurd z.1 (by decide)⟩
  · exact ⟨fun z => absurd z (by decide : ¬ (24 : Int32) = 11), fun z => absurd z.1 (by decide)⟩
  · rcases hw with w | w | w | w | w | w | w | w <;> rw [w]
    · exact ⟨fun z => absurd z (by decide : ¬ (25 : Int32) = 11), fun z => absurd z.1 (by decide)⟩
    · exact ⟨fun z => absurd z (by decide : ¬ (26 : Int32) = 11), fun z => absurd z.1 (by decide)⟩
    · exact ⟨fun z => absurd z (by decide : ¬ (27 : Int32) = 11), fun z => absurd z.1 (by decide)⟩
    · exact ⟨fun z => absurd z (by decide : ¬ (28 : Int32) = 11), fun z => absurd z.1 (by decide)⟩
    · exact ⟨fun z => absurd z (by decide : ¬ (29 : Int32) = 11), fun z => absurd z.1 (by decide)⟩
    · exact ⟨fun z => absurd z (by decide : ¬ (30 : Int32) = 11), fun z => absurd z.1 (by decide)⟩
    · exact ⟨fun z => absurd z (by decide : ¬ (31 : Int32) = 11), fun z => absurd z.1 (by decide)⟩
    · exact ⟨fun z => absurd z (by decide : ¬ (32 : Int32) = 11), fun z => absurd z.1 (by decide)⟩
  · exact ⟨fun z => absurd (show 33 + wh = 11 from z) (by lia), fun z => absurd z.1 (by decide)⟩
  · exact ⟨fun z => absurd z (by decide : ¬ (39 : Int32) = 11), fun z => absurd z.1 (by decide)⟩
theorem zq12 {kd wh lxt : Int32} (hl : lxt = ztk kd wh) (hv : zV kd wh) : (lxt = 12) = (kd = 1 ∧ wh = 13) := by
  apply propext
  rw [hl]
  rcases hv with h | ⟨h, w0, w2⟩ | h | h | ⟨h, hw⟩ | ⟨h, w0, w5⟩ | h <;> rw [h]
  · exact ⟨fun z => absurd z (by decide : ¬ (40 : Int32) = 12), fun z => absurd z.1 (by decide)⟩
  · constructor
    · intro z
      have z1 : zkey wh = 12 := z
      have z2 := (zkz w0 w2).2.2
      rw [z1] at z2
      exact ⟨rfl, z2.symm⟩
    · intro z
      rw [z.2]; rfl
  · exact ⟨fun z => absurd z (by decide : ¬ (23 : Int32) = 12), fun z => absurd z.1 (by decide)⟩
  · exact ⟨fun z => absurd z (by decide : ¬ (24 : Int32) = 12), fun z => absurd z.1 (by decide)⟩
  · rcases hw with w | w | w | w | w | w | w | w <;> rw [w]
    · exact ⟨fun z => absurd z (by decide : ¬ (25 : Int32) = 12), fun z => absurd z.1 (by decide)⟩
    · exact ⟨fun z => absurd z (by decide : ¬ (26 : Int32) = 12), fun z => absurd z.1 (by decide)⟩
    · exact ⟨fun z => absurd z (by decide : ¬ (27 : Int32) = 12), fun z => absurd z.1 (by decide)⟩
    · exact ⟨fun z => absurd z (by decide : ¬ (28 : Int32) = 12), fun z => absurd z.1 (by decide)⟩
    · exact ⟨fun z => absurd z (by decide : ¬ (29 : Int32) = 12), fun z => absurd z.1 (by decide)⟩
    · exact ⟨fun z => absurd z (by decide : ¬ (30 : Int32) = 12), fun z => absurd z.1 (by decide)⟩
    · exact ⟨fun z => absurd z (by decide : ¬ (31 : Int32) = 12), fun z => absurd z.1 (by decide)⟩
    · exact ⟨fun z => absurd z (by decide : ¬ (32 : Int32) = 12), fun z => absurd z.1 (by decide)⟩
  · exact ⟨fun z => absurd (show 33 + wh = 12 from z) (by lia), fun z => absurd z.1 (by decide)⟩
  · exact ⟨fun z => absurd z (by decide : ¬ (39 : Int32) = 12), fun z => absurd z.1 (by decide)⟩
theorem zq17 {kd wh lxt : Int32} (hl : lxt = ztk kd wh) (hv : zV kd wh) : (lxt = 17) = (kd = 1 ∧ wh = 14) := by
  apply propext
  rw [hl]
  rcases hv with h | ⟨h, w0, w2⟩ | h | h | ⟨h, hw⟩ | ⟨h, w0, w5⟩ | h <;> rw [h]
  · exact ⟨fun z => absurd z (by decide : ¬ (40 : Int32) = 17), fun z => absurd z.1 (by decide)⟩
  · constructor
    · intro z
      have z1 : zkey wh = 17 := z
      have z2 := (zkz w0 w2).2.2
      rw [z1] at z2
      exact ⟨rfl, z2.symm⟩
    · intro z
      rw [z.2]; rfl
  · exact ⟨fun z => absurd z (by decide : ¬ (23 : Int32) = 17), fun z => absurd z.1 (by decide)⟩
  · exact ⟨fun z => absurd z (by decide : ¬ (24 : Int32) = 17), fun z => absurd z.1 (by decide)⟩
  · rcases hw with w | w | w | w | w | w | w | w <;> rw [w]
    · exact ⟨fun z => absurd z (by decide : ¬ (25 : Int32) = 17), fun z => absurd z.1 (by decide)⟩
    · exact ⟨fun z => absurd z (by decide : ¬ (26 : Int32) = 17), fun z => absurd z.1 (by decide)⟩
    · exact ⟨fun z => absurd z (by decide : ¬ (27 : Int32) = 17), fun z => absurd z.1 (by decide)⟩
    · exact ⟨fun z => absurd z (by decide : ¬ (28 : Int32) = 17), fun z => absurd z.1 (by decide)⟩
    · exact ⟨fun z => absurd z (by decide : ¬ (29 : Int32) = 17), fun z => absurd z.1 (by decide)⟩
    · exact ⟨fun z => absurd z (by decide : ¬ (30 : Int32) = 17), fun z => absurd z.1 (by decide)⟩
    · exact ⟨fun z => absurd z (by decide : ¬ (31 : Int32) = 17), fun z => absurd z.1 (by decide)⟩
    · exact ⟨fun z => absurd z (by decide : ¬ (32 : Int32) = 17), fun z => absurd z.1 (by decide)⟩
  · exact ⟨fun z => absurd (show 33 + wh = 17 from z) (by lia), fun z => absurd z.1 (by decide)⟩
  · exact ⟨fun z => absurd z (by decide : ¬ (39 : Int32) = 17), fun z => absurd z.1 (by decide)⟩
theorem zq18 {kd wh lxt : Int32} (hl : lxt = ztk kd wh) (hv : zV kd wh) : (lxt = 18) = (kd = 1 ∧ wh = 15) := by
  apply propext
  rw [hl]
  rcases hv with h | ⟨h, w0, w2⟩ | h | h | ⟨h, hw⟩ | ⟨h, w0, w5⟩ | h <;> rw [h]
  · exact ⟨fun z => absurd z (by decide : ¬ (40 : Int32) = 18), fun z => absurd z.1 (by decide)⟩
  · constructor
    · intro z
      have z1 : zkey wh = 18 := z
      have z2 := (zkz w0 w2).2.2
      rw [z1] at z2
      exact ⟨rfl, z2.symm⟩
    · intro z
      rw [z.2]; rfl
  · exact ⟨fun z => absurd z (by decide : ¬ (23 : Int32) = 18), fun z => absurd z.1 (by decide)⟩
  · exact ⟨fun z => absurd z (by decide : ¬ (24 : Int32) = 18), fun z => absurd z.1 (by decide)⟩
  · rcases hw with w | w | w | w | w | w | w | w <;> rw [w]
    · exact ⟨fun z => absurd z (by decide : ¬ (25 : Int32) = 18), fun z => absurd z.1 (by decide)⟩
    · exact ⟨fun z => absurd z (by decide : ¬ (26 : Int32) = 18), fun z => absurd z.1 (by decide)⟩
    · exact ⟨fun z => absurd z (by decide : ¬ (27 : Int32) = 18), fun z => absurd z.1 (by decide)⟩
    · exact ⟨fun z => absurd z (by decide : ¬ (28 : Int32) = 18), fun z => absurd z.1 (by decide)⟩
    · exact ⟨fun z => absurd z (by decide : ¬ (29 : Int32) = 18), fun z => absurd z.1 (by decide)⟩
    · exact ⟨fun z => absurd z (by decide : ¬ (30 : Int32) = 18), fun z => absurd z.1 (by decide)⟩
    · exact ⟨fun z => absurd z (by decide : ¬ (31 : Int32) = 18), fun z => absurd z.1 (by decide)⟩
    · exact ⟨fun z => absurd z (by decide : ¬ (32 : Int32) = 18), fun z => absurd z.1 (by decide)⟩
  · exact ⟨fun z => absurd (show 33 + wh = 18 from z) (by lia), fun z => absurd z.1 (by decide)⟩
  · exact ⟨fun z => absurd z (by decide : ¬ (39 : Int32) = 18), fun z => absurd z.1 (by decide)⟩
theorem zq20 {kd wh lxt : Int32} (hl : lxt = ztk kd wh) (hv : zV kd wh) : (lxt = 20) = (kd = 1 ∧ wh = 16) := by
  apply propext
  rw [hl]
  rcases hv with h | ⟨h, w0, w2⟩ | h | h | ⟨h, hw⟩ | ⟨h, w0, w5⟩ | h <;> rw [h]
  · exact ⟨fun z => absurd z (by decide : ¬ (40 : Int32) = 20), fun z => absurd z.1 (by decide)⟩
  · constructor
    · intro z
      have z1 : zkey wh = 20 := z
      have z2 := (zkz w0 w2).2.2
      rw [z1] at z2
      exact ⟨rfl, z2.symm⟩
    · intro z
      rw [z.2]; rfl
  · exact ⟨fun z => absurd z (by decide : ¬ (23 : Int32) = 20), fun z => absurd z.1 (by decide)⟩
  · exact ⟨fun z => absurd z (by decide : ¬ (24 : Int32) = 20), fun z => absurd z.1 (by decide)⟩
  · rcases hw with w | w | w | w | w | w | w | w <;> rw [w]
    · exact ⟨fun z => absurd z (by decide : ¬ (25 : Int32) = 20), fun z => absurd z.1 (by decide)⟩
    · exact ⟨fun z => absurd z (by decide : ¬ (26 : Int32) = 20), fun z => absurd z.1 (by decide)⟩
    · exact ⟨fun z => absurd z (by decide : ¬ (27 : Int32) = 20), fun z => absurd z.1 (by decide)⟩
    · exact ⟨fun z => absurd z (by decide : ¬ (28 : Int32) = 20), fun z => absurd z.1 (by decide)⟩
    · exact ⟨fun z => absurd z (by decide : ¬ (29 : Int32) = 20), fun z => absurd z.1 (by decide)⟩
    · exact ⟨fun z => absurd z (by decide : ¬ (30 : Int32) = 20), fun z => absurd z.1 (by decide)⟩
    · exact ⟨fun z => absurd z (by decide : ¬ (31 : Int32) = 20), fun z => absurd z.1 (by decide)⟩
    · exact ⟨fun z => absurd z (by decide : ¬ (32 : Int32) = 20), fun z => absurd z.1 (by decide)⟩
  · exact ⟨fun z => absurd (show 33 + wh = 20 from z) (by lia), fun z => absurd z.1 (by decide)⟩
  · exact ⟨fun z => absurd z (by decide : ¬ (39 : Int32) = 20), fun z => absurd z.1 (by decide)⟩
theorem zq19 {kd wh lxt : Int32} (hl : lxt = ztk kd wh) (hv : zV kd wh) : (lxt = 19) = (kd = 1 ∧ wh = 17) := by
  apply propext
  rw [hl]
  rcases hv with h | ⟨h, w0, w2⟩ | h | h | ⟨h, hw⟩ | ⟨h, w0, w5⟩ | h <;> rw [h]
  · exact ⟨fun z => absurd z (by decide : ¬ (40 : Int32) = 19), fun z => absurd z.1 (by decide)⟩
  · constructor
    · intro z
      have z1 : zkey wh = 19 := z
      have z2 := (zkz w0 w2).2.2
      rw [z1] at z2
      exact ⟨rfl, z2.symm⟩
    · intro z
      rw [z.2]; rfl
  · exact ⟨fun z => absurd z (by decide : ¬ (23 : Int32) = 19), fun z => absurd z.1 (by decide)⟩
  · exact ⟨fun z => absurd z (by decide : ¬ (24 : Int32) = 19), fun z => absurd z.1 (by decide)⟩
  · rcases hw with w | w | w | w | w | w | w | w <;> rw [w]
    · exact ⟨fun z => absurd z (by decide : ¬ (25 : Int32) = 19), fun z => absurd z.1 (by decide)⟩
    · exact ⟨fun z => absurd z (by decide : ¬ (26 : Int32) = 19), fun z => absurd z.1 (by decide)⟩
    · exact ⟨fun z => absurd z (by decide : ¬ (27 : Int32) = 19), fun z => absurd z.1 (by decide)⟩
    · exact ⟨fun z => absurd z (by decide : ¬ (28 : Int32) = 19), fun z => absurd z.1 (by decide)⟩
    · exact ⟨fun z => absurd z (by decide : ¬ (29 : Int32) = 19), fun z => absurd z.1 (by decide)⟩
    · exact ⟨fun z => absurd z (by decide : ¬ (30 : Int32) = 19), fun z => absurd z.1 (by decide)⟩
    · exact ⟨fun z => absurd z (by decide : ¬ (31 : Int32) = 19), fun z => absurd z.1 (by decide)⟩
    · exact ⟨fun z => absurd z (by decide : ¬ (32 : Int32) = 19), fun z => absurd z.1 (by decide)⟩
  · exact ⟨fun z => absurd (show 33 + wh = 19 from z) (by lia), fun z => absurd z.1 (by decide)⟩
  · exact ⟨fun z => absurd z (by decide : ¬ (39 : Int32) = 19), fun z => absurd z.1 (by decide)⟩
theorem zq21 {kd wh lxt : Int32} (hl : lxt = ztk kd wh) (hv : zV kd wh) : (lxt = 21) = (kd = 1 ∧ wh = 18) := by
  apply propext
  rw [hl]
  rcases hv with h | ⟨h, w0, w2⟩ | h | h | ⟨h, hw⟩ | ⟨h, w0, w5⟩ | h <;> rw [h]
  · exact ⟨fun z => absurd z (by decide : ¬ (40 : Int32) = 21), fun z => absurd z.1 (by decide)⟩
  · constructor
    · intro z
      have z1 : zkey wh = 21 := z
      have z2 := (zkz w0 w2).2.2
      rw [z1] at z2
      exact ⟨rfl, z2.symm⟩
    · intro z
      rw [z.2]; rfl
  · exact ⟨fun z => absurd z (by decide : ¬ (23 : Int32) = 21), fun z => absurd z.1 (by decide)⟩
  · exact ⟨fun z => absurd z (by decide : ¬ (24 : Int32) = 21), fun z => absurd z.1 (by decide)⟩
  · rcases hw with w | w | w | w | w | w | w | w <;> rw [w]
    · exact ⟨fun z => absurd z (by decide : ¬ (25 : Int32) = 21), fun z => absurd z.1 (by decide)⟩
    · exact ⟨fun z => absurd z (by decide : ¬ (26 : Int32) = 21), fun z => absurd z.1 (by decide)⟩
    · exact ⟨fun z => absurd z (by decide : ¬ (27 : Int32) = 21), fun z => absurd z.1 (by decide)⟩
    · exact ⟨fun z => absurd z (by decide : ¬ (28 : Int32) = 21), fun z => absurd z.1 (by decide)⟩
    · exact ⟨fun z => absurd z (by decide : ¬ (29 : Int32) = 21), fun z => absurd z.1 (by decide)⟩
    · exact ⟨fun z => absurd z (by decide : ¬ (30 : Int32) = 21), fun z => absurd z.1 (by decide)⟩
    · exact ⟨fun z => absurd z (by decide : ¬ (31 : Int32) = 21), fun z => absurd z.1 (by decide)⟩
    · exact ⟨fun z => absurd z (by decide : ¬ (32 : Int32) = 21), fun z => absurd z.1 (by decide)⟩
  · exact ⟨fun z => absurd (show 33 + wh = 21 from z) (by lia), fun z => absurd z.1 (by decide)⟩
  · exact ⟨fun z => absurd z (by decide : ¬ (39 : Int32) = 21), fun z => absurd z.1 (by decide)⟩
theorem zq15 {kd wh lxt : Int32} (hl : lxt = ztk kd wh) (hv : zV kd wh) : (lxt = 15) = (kd = 1 ∧ wh = 19) := by
  apply propext
  rw [hl]
  rcases hv with h | ⟨h, w0, w2⟩ | h | h | ⟨h, hw⟩ | ⟨h, w0, w5⟩ | h <;> rw [h]
  · exact ⟨fun z => absurd z (by decide : ¬ (40 : Int32) = 15), fun z => absurd z.1 (by decide)⟩
  · constructor
    · intro z
      have z1 : zkey wh = 15 := z
      have z2 := (zkz w0 w2).2.2
      rw [z1] at z2
      exact ⟨rfl, z2.symm⟩
    · intro z
      rw [z.2]; rfl
  · exact ⟨fun z => absurd z (by decide : ¬ (23 : Int32) = 15), fun z => absurd z.1 (by decide)⟩
  · exact ⟨fun z => absurd z (by decide : ¬ (24 : Int32) = 15), fun z => absurd z.1 (by decide)⟩
  · rcases hw with w | w | w | w | w | w | w | w <;> rw [w]
    · exact ⟨fun z => absurd z (by decide : ¬ (25 : Int32) = 15), fun z => absurd z.1 (by decide)⟩
    · exact ⟨fun z => absurd z (by decide : ¬ (26 : Int32) = 15), fun z => absurd z.1 (by decide)⟩
    · exact ⟨fun z => absurd z (by decide : ¬ (27 : Int32) = 15), fun z => absurd z.1 (by decide)⟩
    · exact ⟨fun z => absurd z (by decide : ¬ (28 : Int32) = 15), fun z => absurd z.1 (by decide)⟩
    · exact ⟨fun z => absurd z (by decide : ¬ (29 : Int32) = 15), fun z => absurd z.1 (by decide)⟩
    · exact ⟨fun z => absurd z (by decide : ¬ (30 : Int32) = 15), fun z => absurd z.1 (by decide)⟩
    · exact ⟨fun z => absurd z (by decide : ¬ (31 : Int32) = 15), fun z => absurd z.1 (by decide)⟩
    · exact ⟨fun z => absurd z (by decide : ¬ (32 : Int32) = 15), fun z => absurd z.1 (by decide)⟩
  · exact ⟨fun z => absurd (show 33 + wh = 15 from z) (by lia), fun z => absurd z.1 (by decide)⟩
  · exact ⟨fun z => absurd z (by decide : ¬ (39 : Int32) = 15), fun z => absurd z.1 (by decide)⟩
theorem zq14 {kd wh lxt : Int32} (hl : lxt = ztk kd wh) (hv : zV kd wh) : (lxt = 14) = (kd = 1 ∧ wh = 20) := by
  apply propext
  rw [hl]
  rcases hv with h | ⟨h, w0, w2⟩ | h | h | ⟨h, hw⟩ | ⟨h, w0, w5⟩ | h <;> rw [h]
  · exact ⟨fun z => absurd z (by decide : ¬ (40 : Int32) = 14), fun z => absurd z.1 (by decide)⟩
  · constructor
    · intro z
      have z1 : zkey wh = 14 := z
      have z2 := (zkz w0 w2).2.2
      rw [z1] at z2
      exact ⟨rfl, z2.symm⟩
    · intro z
      rw [z.2]; rfl
  · exact ⟨fun z => absurd z (by decide : ¬ (23 : Int32) = 14), fun z => absurd z.1 (by decide)⟩
  · exact ⟨fun z => absurd z (by decide : ¬ (24 : Int32) = 14), fun z => absurd z.1 (by decide)⟩
  · rcases hw with w | w | w | w | w | w | w | w <;> rw [w]
    · exact ⟨fun z => absurd z (by decide : ¬ (25 : Int32) = 14), fun z => absurd z.1 (by decide)⟩
    · exact ⟨fun z => absurd z (by decide : ¬ (26 : Int32) = 14), fun z => absurd z.1 (by decide)⟩
    · exact ⟨fun z => absurd z (by decide : ¬ (27 : Int32) = 14), fun z => absurd z.1 (by decide)⟩
    · exact ⟨fun z => absurd z (by decide : ¬ (28 : Int32) = 14), fun z => absurd z.1 (by decide)⟩
    · exact ⟨fun z => absurd z (by decide : ¬ (29 : Int32) = 14), fun z => absurd z.1 (by decide)⟩
    · exact ⟨fun z => absurd z (by decide : ¬ (30 : Int32) = 14), fun z => absurd z.1 (by decide)⟩
    · exact ⟨fun z => absurd z (by decide : ¬ (31 : Int32) = 14), fun z => absurd z.1 (by decide)⟩
    · exact ⟨fun z => absurd z (by decide : ¬ (32 : Int32) = 14), fun z => absurd z.1 (by decide)⟩
  · exact ⟨fun z => absurd (show 33 + wh = 14 from z) (by lia), fun z => absurd z.1 (by decide)⟩
  · exact ⟨fun z => absurd z (by decide : ¬ (39 : Int32) = 14), fun z => absurd z.1 (by decide)⟩
theorem zq16 {kd wh lxt : Int32} (hl : lxt = ztk kd wh) (hv : zV kd wh) : (lxt = 16) = (kd = 1 ∧ wh = 21) := by
  apply propext
  rw [hl]
  rcases hv with h | ⟨h, w0, w2⟩ | h | h | ⟨h, hw⟩ | ⟨h, w0, w5⟩ | h <;> rw [h]
  · exact ⟨fun z => absurd z (by decide : ¬ (40 : Int32) = 16), fun z => absurd z.1 (by decide)⟩
  · constructor
    · intro z
      have z1 : zkey wh = 16 := z
      have z2 := (zkz w0 w2).2.2
      rw [z1] at z2
      exact ⟨rfl, z2.symm⟩
    · intro z
      rw [z.2]; rfl
  · exact ⟨fun z => absurd z (by decide : ¬ (23 : Int32) = 16), fun z => absurd z.1 (by decide)⟩
  · exact ⟨fun z => absurd z (by decide : ¬ (24 : Int32) = 16), fun z => absurd z.1 (by decide)⟩
  · rcases hw with w | w | w | w | w | w | w | w <;> rw [w]
    · exact ⟨fun z => absurd z (by decide : ¬ (25 : Int32) = 16), fun z => absurd z.1 (by decide)⟩
    · exact ⟨fun z => absurd z (by decide : ¬ (26 : Int32) = 16), fun z => absurd z.1 (by decide)⟩
    · exact ⟨fun z => absurd z (by decide : ¬ (27 : Int32) = 16), fun z => absurd z.1 (by decide)⟩
    · exact ⟨fun z => absurd z (by decide : ¬ (28 : Int32) = 16), fun z => absurd z.1 (by decide)⟩
    · exact ⟨fun z => absurd z (by decide : ¬ (29 : Int32) = 16), fun z => absurd z.1 (by decide)⟩
    · exact ⟨fun z => absurd z (by decide : ¬ (30 : Int32) = 16), fun z => absurd z.1 (by decide)⟩
    · exact ⟨fun z => absurd z (by decide : ¬ (31 : Int32) = 16), fun z => absurd z.1 (by decide)⟩
    · exact ⟨fun z => absurd z (by decide : ¬ (32 : Int32) = 16), fun z => absurd z.1 (by decide)⟩
  · exact ⟨fun z => absurd (show 33 + wh = 16 from z) (by lia), fun z => absurd z.1 (by decide)⟩
  · exact ⟨fun z => absurd z (by decide : ¬ (39 : Int32) = 16), fun z => absurd z.1 (by decide)⟩
theorem zq22 {kd wh lxt : Int32} (hl : lxt = ztk kd wh) (hv : zV kd wh) : (lxt = 22) = (kd = 1 ∧ wh = 22) := by
  apply propext
  rw [hl]
  rcases hv with h | ⟨h, w0, w2⟩ | h | h | ⟨h, hw⟩ | ⟨h, w0, w5⟩ | h <;> rw [h]
  · exact ⟨fun z => absurd z (by decide : ¬ (40 : Int32) = 22), fun z => absurd z.1 (by decide)⟩
  · constructor
    · intro z
      have z1 : zkey wh = 22 := z
      have z2 := (zkz w0 w2).2.2
      rw [z1] at z2
      exact ⟨rfl, z2.symm⟩
    · intro z
      rw [z.2]; rfl
  · exact ⟨fun z => absurd z (by decide : ¬ (23 : Int32) = 22), fun z => absurd z.1 (by decide)⟩
  · exact ⟨fun z => absurd z (by decide : ¬ (24 : Int32) = 22), fun z => absurd z.1 (by decide)⟩
  · rcases hw with w | w | w | w | w | w | w | w <;> rw [w]
    · exact ⟨fun z => absurd z (by decide : ¬ (25 : Int32) = 22), fun z => absurd z.1 (by decide)⟩
    · exact ⟨fun z => absurd z (by decide : ¬ (26 : Int32) = 22), fun z => absurd z.1 (by decide)⟩
    · exact ⟨fun z => absurd z (by decide : ¬ (27 : Int32) = 22), fun z => absurd z.1 (by decide)⟩
    · exact ⟨fun z => absurd z (by decide : ¬ (28 : Int32) = 22), fun z => absurd z.1 (by decide)⟩
    · exact ⟨fun z => absurd z (by decide : ¬ (29 : Int32) = 22), fun z => absurd z.1 (by decide)⟩
    · exact ⟨fun z => absurd z (by decide : ¬ (30 : Int32) = 22), fun z => absurd z.1 (by decide)⟩
    · exact ⟨fun z => absurd z (by decide : ¬ (31 : Int32) = 22), fun z => absurd z.1 (by decide)⟩
    · exact ⟨fun z => absurd z (by decide : ¬ (32 : Int32) = 22), fun z => absurd z.1 (by decide)⟩
  · exact ⟨fun z => absurd (show 33 + wh = 22 from z) (by lia), fun z => absurd z.1 (by decide)⟩
  · exact ⟨fun z => absurd z (by decide : ¬ (39 : Int32) = 22), fun z => absurd z.1 (by decide)⟩
theorem zq25 {kd wh lxt : Int32} (hl : lxt = ztk kd wh) (hv : zV kd wh) : (lxt = 25) = (kd = 4 ∧ wh = 59) := by
  apply propext
  rw [hl]
  rcases hv with h | ⟨h, w0, w2⟩ | h | h | ⟨h, hw⟩ | ⟨h, w0, w5⟩ | h <;> rw [h]
  · exact ⟨fun z => absurd z (by decide : ¬ (40 : Int32) = 25), fun z => absurd z.1 (by decide)⟩
  · have z3 := zkz w0 w2
    exact ⟨fun z => absurd (show zkey wh = 25 from z) (by have z4 := z3.2.1; lia), fun z => absurd z.1 (by decide)⟩
  · exact ⟨fun z => absurd z (by decide : ¬ (23 : Int32) = 25), fun z => absurd z.1 (by decide)⟩
  · exact ⟨fun z => absurd z (by decide : ¬ (24 : Int32) = 25), fun z => absurd z.1 (by decide)⟩
  · rcases hw with w | w | w | w | w | w | w | w <;> rw [w]
    · exact ⟨fun _ => ⟨rfl, rfl⟩, fun _ => rfl⟩
    · exact ⟨fun z => absurd z (by decide : ¬ (26 : Int32) = 25), fun z => absurd z.2 (by decide)⟩
    · exact ⟨fun z => absurd z (by decide : ¬ (27 : Int32) = 25), fun z => absurd z.2 (by decide)⟩
    · exact ⟨fun z => absurd z (by decide : ¬ (28 : Int32) = 25), fun z => absurd z.2 (by decide)⟩
    · exact ⟨fun z => absurd z (by decide : ¬ (29 : Int32) = 25), fun z => absurd z.2 (by decide)⟩
    · exact ⟨fun z => absurd z (by decide : ¬ (30 : Int32) = 25), fun z => absurd z.2 (by decide)⟩
    · exact ⟨fun z => absurd z (by decide : ¬ (31 : Int32) = 25), fun z => absurd z.2 (by decide)⟩
    · exact ⟨fun z => absurd z (by decide : ¬ (32 : Int32) = 25), fun z => absurd z.2 (by decide)⟩
  · exact ⟨fun z => absurd (show 33 + wh = 25 from z) (by lia), fun z => absurd z.1 (by decide)⟩
  · exact ⟨fun z => absurd z (by decide : ¬ (39 : Int32) = 25), fun z => absurd z.1 (by decide)⟩
theorem zq26 {kd wh lxt : Int32} (hl : lxt = ztk kd wh) (hv : zV kd wh) : (lxt = 26) = (kd = 4 ∧ wh = 40) := by
  apply propext
  rw [hl]
  rcases hv with h | ⟨h, w0, w2⟩ | h | h | ⟨h, hw⟩ | ⟨h, w0, w5⟩ | h <;> rw [h]
  · exact ⟨fun z => absurd z (by decide : ¬ (40 : Int32) = 26), fun z => absurd z.1 (by decide)⟩
  · have z3 := zkz w0 w2
    exact ⟨fun z => absurd (show zkey wh = 26 from z) (by have z4 := z3.2.1; lia), fun z => absurd z.1 (by decide)⟩
  · exact ⟨fun z => absurd z (by decide : ¬ (23 : Int32) = 26), fun z => absurd z.1 (by decide)⟩
  · exact ⟨fun z => absurd z (by decide : ¬ (24 : Int32) = 26), fun z => absurd z.1 (by decide)⟩
  · rcases hw with w | w | w | w | w | w | w | w <;> rw [w]
    · exact ⟨fun z => absurd z (by decide : ¬ (25 : Int32) = 26), fun z => absurd z.2 (by decide)⟩
    · exact ⟨fun _ => ⟨rfl, rfl⟩, fun _ => rfl⟩
    · exact ⟨fun z => absurd z (by decide : ¬ (27 : Int32) = 26), fun z => absurd z.2 (by decide)⟩
    · exact ⟨fun z => absurd z (by decide : ¬ (28 : Int32) = 26), fun z => absurd z.2 (by decide)⟩
    · exact ⟨fun z => absurd z (by decide : ¬ (29 : Int32) = 26), fun z => absurd z.2 (by decide)⟩
    · exact ⟨fun z => absurd z (by decide : ¬ (30 : Int32) = 26), fun z => absurd z.2 (by decide)⟩
    · exact ⟨fun z => absurd z (by decide : ¬ (31 : Int32) = 26), fun z => absurd z.2 (by decide)⟩
    · exact ⟨fun z => absurd z (by decide : ¬ (32 : Int32) = 26), fun z => absurd z.2 (by decide)⟩
  · exact ⟨fun z => absurd (show 33 + wh = 26 from z) (by lia), fun z => absurd z.1 (by decide)⟩
  · exact ⟨fun z => absurd z (by decide : ¬ (39 : Int32) = 26), fun z => absurd z.1 (by decide)⟩
theorem zq27 {kd wh lxt : Int32} (hl : lxt = ztk kd wh) (hv : zV kd wh) : (lxt = 27) = (kd = 4 ∧ wh = 41) := by
  apply propext
  rw [hl]
  rcases hv with h | ⟨h, w0, w2⟩ | h | h | ⟨h, hw⟩ | ⟨h, w0, w5⟩ | h <;> rw [h]
  · exact ⟨fun z => absurd z (by decide : ¬ (40 : Int32) = 27), fun z => absurd z.1 (by decide)⟩
  · have z3 := zkz w0 w2
    exact ⟨fun z => absurd (show zkey wh = 27 from z) (by have z4 := z3.2.1; lia), fun z => absurd z.1 (by decide)⟩
  · exact ⟨fun z => absurd z (by decide : ¬ (23 : Int32) = 27), fun z => absurd z.1 (by decide)⟩
  · exact ⟨fun z => absurd z (by decide : ¬ (24 : Int32) = 27), fun z => absurd z.1 (by decide)⟩
  · rcases hw with w | w | w | w | w | w | w | w <;> rw [w]
    · exact ⟨fun z => absurd z (by decide : ¬ (25 : Int32) = 27), fun z => absurd z.2 (by decide)⟩
    · exact ⟨fun z => absurd z (by decide : ¬ (26 : Int32) = 27), fun z => absurd z.2 (by decide)⟩
    · exact ⟨fun _ => ⟨rfl, rfl⟩, fun _ => rfl⟩
    · exact ⟨fun z => absurd z (by decide : ¬ (28 : Int32) = 27), fun z => absurd z.2 (by decide)⟩
    · exact ⟨fun z => absurd z (by decide : ¬ (29 : Int32) = 27), fun z => absurd z.2 (by decide)⟩
    · exact ⟨fun z => absurd z (by decide : ¬ (30 : Int32) = 27), fun z => absurd z.2 (by decide)⟩
    · exact ⟨fun z => absurd z (by decide : ¬ (31 : Int32) = 27), fun z => absurd z.2 (by decide)⟩
    · exact ⟨fun z => absurd z (by decide : ¬ (32 : Int32) = 27), fun z => absurd z.2 (by decide)⟩
  · exact ⟨fun z => absurd (show 33 + wh = 27 from z) (by lia), fun z => absurd z.1 (by decide)⟩
  · exact ⟨fun z => absurd z (by decide : ¬ (39 : Int32) = 27), fun z => absurd z.1 (by decide)⟩
theorem zq28 {kd wh lxt : Int32} (hl : lxt = ztk kd wh) (hv : zV kd wh) : (lxt = 28) = (kd = 4 ∧ wh = 43) := by
  apply propext
  rw [hl]
  rcases hv with h | ⟨h, w0, w2⟩ | h | h | ⟨h, hw⟩ | ⟨h, w0, w5⟩ | h <;> rw [h]
  · exact ⟨fun z => absurd z (by decide : ¬ (40 : Int32) = 28), fun z => absurd z.1 (by decide)⟩
  · have z3 := zkz w0 w2
    exact ⟨fun z => absurd (show zkey wh = 28 from z) (by have z4 := z3.2.1; lia), fun z => absurd z.1 (by decide)⟩
  · exact ⟨fun z => absurd z (by decide : ¬ (23 : Int32) = 28), fun z => absurd z.1 (by decide)⟩
  · exact ⟨fun z => absurd z (by decide : ¬ (24 : Int32) = 28), fun z => absurd z.1 (by decide)⟩
  · rcases hw with w | w | w | w | w | w | w | w <;> rw [w]
    · exact ⟨fun z => absurd z (by decide : ¬ (25 : Int32) = 28), fun z => absurd z.2 (by decide)⟩
    · exact ⟨fun z => absurd z (by decide : ¬ (26 : Int32) = 28), fun z => absurd z.2 (by decide)⟩
    · exact ⟨fun z => absurd z (by decide : ¬ (27 : Int32) = 28), fun z => absurd z.2 (by decide)⟩
    · exact ⟨fun _ => ⟨rfl, rfl⟩, fun _ => rfl⟩
    · exact ⟨fun z => absurd z (by decide : ¬ (29 : Int32) = 28), fun z => absurd z.2 (by decide)⟩
    · exact ⟨fun z => absurd z (by decide : ¬ (30 : Int32) = 28), fun z => absurd z.2 (by decide)⟩
    · exact ⟨fun z => absurd z (by decide : ¬ (31 : Int32) = 28), fun z => absurd z.2 (by decide)⟩
    · exact ⟨fun z => absurd z (by decide : ¬ (32 : Int32) = 28), fun z => absurd z.2 (by decide)⟩
  · exact ⟨fun z => absurd (show 33 + wh = 28 from z) (by lia), fun z => absurd z.1 (by decide)⟩
  · exact ⟨fun z => absurd z (by decide : ¬ (39 : Int32) = 28), fun z => absurd z.1 (by decide)⟩
theorem zq29 {kd wh lxt : Int32} (hl : lxt = ztk kd wh) (hv : zV kd wh) : (lxt = 29) = (kd = 4 ∧ wh = 45) := by
  apply propext
  rw [hl]
  rcases hv with h | ⟨h, w0, w2⟩ | h | h | ⟨h, hw⟩ | ⟨h, w0, w5⟩ | h <;> rw [h]
  · exact ⟨fun z => absurd z (by decide : ¬ (40 : Int32) = 29), fun z => absurd z.1 (by decide)⟩
  · have z3 := zkz w0 w2
    exact ⟨fun z => absurd (show zkey wh = 29 from z) (by have z4 := z3.2.1; lia), fun z => absurd z.1 (by decide)⟩
  · exact ⟨fun z => absurd z (by decide : ¬ (23 : Int32) = 29), fun z => absurd z.1 (by decide)⟩
  · exact ⟨fun z => absurd z (by decide : ¬ (24 : Int32) = 29), fun z => absurd z.1 (by decide)⟩
  · rcases hw with w | w | w | w | w | w | w | w <;> rw [w]
    · exact ⟨fun z => absurd z (by decide : ¬ (25 : Int32) = 29), fun z => absurd z.2 (by decide)⟩
    · exact ⟨fun z => absurd z (by decide : ¬ (26 : Int32) = 29), fun z => absurd z.2 (by decide)⟩
    · exact ⟨fun z => absurd z (by decide : ¬ (27 : Int32) = 29), fun z => absurd z.2 (by decide)⟩
    · exact ⟨fun z => absurd z (by decide : ¬ (28 : Int32) = 29), fun z => absurd z.2 (by decide)⟩
    · exact ⟨fun _ => ⟨rfl, rfl⟩, fun _ => rfl⟩
    · exact ⟨fun z => absurd z (by decide : ¬ (30 : Int32) = 29), fun z => absurd z.2 (by decide)⟩
    · exact ⟨fun z => absurd z (by decide : ¬ (31 : Int32) = 29), fun z => absurd z.2 (by decide)⟩
    · exact ⟨fun z => absurd z (by decide : ¬ (32 : Int32) = 29), fun z => absurd z.2 (by decide)⟩
  · exact ⟨fun z => absurd (show 33 + wh = 29 from z) (by lia), fun z => absurd z.1 (by decide)⟩
  · exact ⟨fun z => absurd z (by decide : ¬ (39 : Int32) = 29), fun z => absurd z.1 (by decide)⟩
theorem zq30 {kd wh lxt : Int32} (hl : lxt = ztk kd wh) (hv : zV kd wh) : (lxt = 30) = (kd = 4 ∧ wh = 42) := by
  apply propext
  rw [hl]
  rcases hv with h | ⟨h, w0, w2⟩ | h | h | ⟨h, hw⟩ | ⟨h, w0, w5⟩ | h <;> rw [h]
  · exact ⟨fun z => absurd z (by decide : ¬ (40 : Int32) = 30), fun z => absurd z.1 (by decide)⟩
  · have z3 := zkz w0 w2
    exact ⟨fun z => absurd (show zkey wh = 30 from z) (by have z4 := z3.2.1; lia), fun z => absurd z.1 (by decide)⟩
  · exact ⟨fun z => absurd z (by decide : ¬ (23 : Int32) = 30), fun z => absurd z.1 (by decide)⟩
  · exact ⟨fun z => absurd z (by decide : ¬ (24 : Int32) = 30), fun z => absurd z.1 (by decide)⟩
  · rcases hw with w | w | w | w | w | w | w | w <;> rw [w]
    · exact ⟨fun z => absurd z (by decide : ¬ (25 : Int32) = 30), fun z => absurd z.2 (by decide)⟩
    · exact ⟨fun z => absurd z (by decide : ¬ (26 : Int32) = 30), fun z => absurd z.2 (by decide)⟩
    · exact ⟨fun z => absurd z (by decide : ¬ (27 : Int32) = 30), fun z => absurd z.2 (by decide)⟩
    · exact ⟨fun z => absurd z (by decide : ¬ (28 : Int32) = 30), fun z => absurd z.2 (by decide)⟩
    · exact ⟨fun z => absurd z (by decide : ¬ (29 : Int32) = 30), fun z => absurd z.2 (by decide)⟩
    · exact ⟨fun _ => ⟨rfl, rfl⟩, fun _ => rfl⟩
    · exact ⟨fun z => absurd z (by decide : ¬ (31 : Int32) = 30), fun z => absurd z.2 (by decide)⟩
    · exact ⟨fun z => absurd z (by decide : ¬ (32 : Int32) = 30), fun z => absurd z.2 (by decide)⟩
  · exact ⟨fun z => absurd (show 33 + wh = 30 from z) (by lia), fun z => absurd z.1 (by decide)⟩
  · exact ⟨fun z => absurd z (by decide : ¬ (39 : Int32) = 30), fun z => absurd z.1 (by decide)⟩
theorem zq31 {kd wh lxt : Int32} (hl : lxt = ztk kd wh) (hv : zV kd wh) : (lxt = 31) = (kd = 4 ∧ wh = 47) := by
  apply propext
  rw [hl]
  rcases hv with h | ⟨h, w0, w2⟩ | h | h | ⟨h, hw⟩ | ⟨h, w0, w5⟩ | h <;> rw [h]
  · exact ⟨fun z => absurd z (by decide : ¬ (40 : Int32) = 31), fun z => absurd z.1 (by decide)⟩
  · have z3 := zkz w0 w2
    exact ⟨fun z => absurd (show zkey wh = 31 from z) (by have z4 := z3.2.1; lia), fun z => absurd z.1 (by decide)⟩
  · exact ⟨fun z => absurd z (by decide : ¬ (23 : Int32) = 31), fun z => absurd z.1 (by decide)⟩
  · exact ⟨fun z => absurd z (by decide : ¬ (24 : Int32) = 31), fun z => absurd z.1 (by decide)⟩
  · rcases hw with w | w | w | w | w | w | w | w <;> rw [w]
    · exact ⟨fun z => absurd z (by decide : ¬ (25 : Int32) = 31), fun z => absurd z.2 (by decide)⟩
    · exact ⟨fun z => absurd z (by decide : ¬ (26 : Int32) = 31), fun z => absurd z.2 (by decide)⟩
    · exact ⟨fun z => absurd z (by decide : ¬ (27 : Int32) = 31), fun z => absurd z.2 (by decide)⟩
    · exact ⟨fun z => absurd z (by decide : ¬ (28 : Int32) = 31), fun z => absurd z.2 (by decide)⟩
    · exact ⟨fun z => absurd z (by decide : ¬ (29 : Int32) = 31), fun z => absurd z.2 (by decide)⟩
    · exact ⟨fun z => absurd z (by decide : ¬ (30 : Int32) = 31), fun z => absurd z.2 (by decide)⟩
    · exact ⟨fun _ => ⟨rfl, rfl⟩, fun _ => rfl⟩
    · exact ⟨fun z => absurd z (by decide : ¬ (32 : Int32) = 31), fun z => absurd z.2 (by decide)⟩
  · exact ⟨fun z => absurd (show 33 + wh = 31 from z) (by lia), fun z => absurd z.1 (by decide)⟩
  · exact ⟨fun z => absurd z (by decide : ¬ (39 : Int32) = 31), fun z => absurd z.1 (by decide)⟩
theorem zq32 {kd wh lxt : Int32} (hl : lxt = ztk kd wh) (hv : zV kd wh) : (lxt = 32) = (kd = 4 ∧ wh = 37) := by
  apply propext
  rw [hl]
  rcases hv with h | ⟨h, w0, w2⟩ | h | h | ⟨h, hw⟩ | ⟨h, w0, w5⟩ | h <;> rw [h]
  · exact ⟨fun z => absurd z (by decide : ¬ (40 : Int32) = 32), fun z => absurd z.1 (by decide)⟩
  · have z3 := zkz w0 w2
    exact ⟨fun z => absurd (show zkey wh = 32 from z) (by have z4 := z3.2.1; lia), fun z => absurd z.1 (by decide)⟩
  · exact ⟨fun z => absurd z (by decide : ¬ (23 : Int32) = 32), fun z => absurd z.1 (by decide)⟩
  · exact ⟨fun z => absurd z (by decide : ¬ (24 : Int32) = 32), fun z => absurd z.1 (by decide)⟩
  · rcases hw with w | w | w | w | w | w | w | w <;> rw [w]
    · exact ⟨fun z => absurd z (by decide : ¬ (25 : Int32) = 32), fun z => absurd z.2 (by decide)⟩
    · exact ⟨fun z => absurd z (by decide : ¬ (26 : Int32) = 32), fun z => absurd z.2 (by decide)⟩
    · exact ⟨fun z => absurd z (by decide : ¬ (27 : Int32) = 32), fun z => absurd z.2 (by decide)⟩
    · exact ⟨fun z => absurd z (by decide : ¬ (28 : Int32) = 32), fun z => absurd z.2 (by decide)⟩
    · exact ⟨fun z => absurd z (by decide : ¬ (29 : Int32) = 32), fun z => absurd z.2 (by decide)⟩
    · exact ⟨fun z => absurd z (by decide : ¬ (30 : Int32) = 32), fun z => absurd z.2 (by decide)⟩
    · exact ⟨fun z => absurd z (by decide : ¬ (31 : Int32) = 32), fun z => absurd z.2 (by decide)⟩
    · exact ⟨fun _ => ⟨rfl, rfl⟩, fun _ => rfl⟩
  · exact ⟨fun z => absurd (show 33 + wh = 32 from z) (by lia), fun z => absurd z.1 (by decide)⟩
  · exact ⟨fun z => absurd z (by decide : ¬ (39 : Int32) = 32), fun z => absurd z.1 (by decide)⟩
theorem zq33 {kd wh lxt : Int32} (hl : lxt = ztk kd wh) (hv : zV kd wh) : (lxt = 33) = (kd = 5 ∧ wh = 0) := by
  apply propext
  rw [hl]
  rcases hv with h | ⟨h, w0, w2⟩ | h | h | ⟨h, hw⟩ | ⟨h, w0, w5⟩ | h <;> rw [h]
  · exact ⟨fun z => absurd z (by decide : ¬ (40 : Int32) = 33), fun z => absurd z.1 (by decide)⟩
  · have z3 := zkz w0 w2
    exact ⟨fun z => absurd (show zkey wh = 33 from z) (by have z4 := z3.2.1; lia), fun z => absurd z.1 (by decide)⟩
  · exact ⟨fun z => absurd z (by decide : ¬ (23 : Int32) = 33), fun z => absurd z.1 (by decide)⟩
  · exact ⟨fun z => absurd z (by decide : ¬ (24 : Int32) = 33), fun z => absurd z.1 (by decide)⟩
  · rcases hw with w | w | w | w | w | w | w | w <;> rw [w]
    · exact ⟨fun z => absurd z (by decide : ¬ (25 : Int32) = 33), fun z => absurd z.1 (by decide)⟩
    · exact ⟨fun z => absurd z (by decide : ¬ (26 : Int32) = 33), fun z => absurd z.1 (by decide)⟩
    · exact ⟨fun z => absurd z (by decide : ¬ (27 : Int32) = 33), fun z => absurd z.1 (by decide)⟩
    · exact ⟨fun z => absurd z (by decide : ¬ (28 : Int32) = 33), fun z => absurd z.1 (by decide)⟩
    · exact ⟨fun z => absurd z (by decide : ¬ (29 : Int32) = 33), fun z => absurd z.1 (by decide)⟩
    · exact ⟨fun z => absurd z (by decide : ¬ (30 : Int32) = 33), fun z => absurd z.1 (by decide)⟩
    · exact ⟨fun z => absurd z (by decide : ¬ (31 : Int32) = 33), fun z => absurd z.1 (by decide)⟩
    · exact ⟨fun z => absurd z (by decide : ¬ (32 : Int32) = 33), fun z => absurd z.1 (by decide)⟩
  · exact ⟨fun z => ⟨rfl, by have z1 : 33 + wh = 33 := z; lia⟩, fun z => by rw [z.2]; rfl⟩
  · exact ⟨fun z => absurd z (by decide : ¬ (39 : Int32) = 33), fun z => absurd z.1 (by decide)⟩
theorem zq34 {kd wh lxt : Int32} (hl : lxt = ztk kd wh) (hv : zV kd wh) : (lxt = 34) = (kd = 5 ∧ wh = 1) := by
  apply propext
  rw [hl]
  rcases hv with h | ⟨h, w0, w2⟩ | h | h | ⟨h, hw⟩ | ⟨h, w0, w5⟩ | h <;> rw [h]
  · exact ⟨fun z => absurd z (by decide : ¬ (40 : Int32) = 34), fun z => absurd z.1 (by decide)⟩
  · have z3 := zkz w0 w2
    exact ⟨fun z => absurd (show zkey wh = 34 from z) (by have z4 := z3.2.1; lia), fun z => absurd z.1 (by decide)⟩
  · exact ⟨fun z => absurd z (by decide : ¬ (23 : Int32) = 34), fun z => absurd z.1 (by decide)⟩
  · exact ⟨fun z => absurd z (by decide : ¬ (24 : Int32) = 34), fun z => absurd z.1 (by decide)⟩
  · rcases hw with w | w | w | w | w | w | w | w <;> rw [w]
    · exact ⟨fun z => absurd z (by decide : ¬ (25 : Int32) = 34), fun z => absurd z.1 (by decide)⟩
    · exact ⟨fun z => absurd z (by decide : ¬ (26 : Int32) = 34), fun z => absurd z.1 (by decide)⟩
    · exact ⟨fun z => absurd z (by decide : ¬ (27 : Int32) = 34), fun z => absurd z.1 (by decide)⟩
    · exact ⟨fun z => absurd z (by decide : ¬ (28 : Int32) = 34), fun z => absurd z.1 (by decide)⟩
    · exact ⟨fun z => absurd z (by decide : ¬ (29 : Int32) = 34), fun z => absurd z.1 (by decide)⟩
    · exact ⟨fun z => absurd z (by decide : ¬ (30 : Int32) = 34), fun z => absurd z.1 (by decide)⟩
    · exact ⟨fun z => absurd z (by decide : ¬ (31 : Int32) = 34), fun z => absurd z.1 (by decide)⟩
    · exact ⟨fun z => absurd z (by decide : ¬ (32 : Int32) = 34), fun z => absurd z.1 (by decide)⟩
  · exact ⟨fun z => ⟨rfl, by have z1 : 33 + wh = 34 := z; lia⟩, fun z => by rw [z.2]; rfl⟩
  · exact ⟨fun z => absurd z (by decide : ¬ (39 : Int32) = 34), fun z => absurd z.1 (by decide)⟩
theorem zq35 {kd wh lxt : Int32} (hl : lxt = ztk kd wh) (hv : zV kd wh) : (lxt = 35) = (kd = 5 ∧ wh = 2) := by
  apply propext
  rw [hl]
  rcases hv with h | ⟨h, w0, w2⟩ | h | h | ⟨h, hw⟩ | ⟨h, w0, w5⟩ | h <;> rw [h]
  · exact ⟨fun z => absurd z (by decide : ¬ (40 : Int32) = 35), fun z => absurd z.1 (by decide)⟩
  · have z3 := zkz w0 w2
    exact ⟨fun z => absurd (show zkey wh = 35 from z) (by have z4 := z3.2.1; lia), fun z => absurd z.1 (by decide)⟩
  · exact ⟨fun z => absurd z (by decide : ¬ (23 : Int32) = 35), fun z => absurd z.1 (by decide)⟩
  · exact ⟨fun z => absurd z (by decide : ¬ (24 : Int32) = 35), fun z => absurd z.1 (by decide)⟩
  · rcases hw with w | w | w | w | w | w | w | w <;> rw [w]
    · exact ⟨fun z => absurd z (by decide : ¬ (25 : Int32) = 35), fun z => absurd z.1 (by decide)⟩
    · exact ⟨fun z => absurd z (by decide : ¬ (26 : Int32) = 35), fun z => absurd z.1 (by decide)⟩
    · exact ⟨fun z => absurd z (by decide : ¬ (27 : Int32) = 35), fun z => absurd z.1 (by decide)⟩
    · exact ⟨fun z => absurd z (by decide : ¬ (28 : Int32) = 35), fun z => absurd z.1 (by decide)⟩
    · exact ⟨fun z => absurd z (by decide : ¬ (29 : Int32) = 35), fun z => absurd z.1 (by decide)⟩
    · exact ⟨fun z => absurd z (by decide : ¬ (30 : Int32) = 35), fun z => absurd z.1 (by decide)⟩
    · exact ⟨fun z => absurd z (by decide : ¬ (31 : Int32) = 35), fun z => absurd z.1 (by decide)⟩
    · exact ⟨fun z => absurd z (by decide : ¬ (32 : Int32) = 35), fun z => absurd z.1 (by decide)⟩
  · exact ⟨fun z => ⟨rfl, by have z1 : 33 + wh = 35 := z; lia⟩, fun z => by rw [z.2]; rfl⟩
  · exact ⟨fun z => absurd z (by decide : ¬ (39 : Int32) = 35), fun z => absurd z.1 (by decide)⟩
theorem zq36 {kd wh lxt : Int32} (hl : lxt = ztk kd wh) (hv : zV kd wh) : (lxt = 36) = (kd = 5 ∧ wh = 3) := by
  apply propext
  rw [hl]
  rcases hv with h | ⟨h, w0, w2⟩ | h | h | ⟨h, hw⟩ | ⟨h, w0, w5⟩ | h <;> rw [h]
  · exact ⟨fun z => absurd z (by decide : ¬ (40 : Int32) = 36), fun z => absurd z.1 (by decide)⟩
  · have z3 := zkz w0 w2
    exact ⟨fun z => absurd (show zkey wh = 36 from z) (by have z4 := z3.2.1; lia), fun z => absurd z.1 (by decide)⟩
  · exact ⟨fun z => absurd z (by decide : ¬ (23 : Int32) = 36), fun z => absurd z.1 (by decide)⟩
  · exact ⟨fun z => absurd z (by decide : ¬ (24 : Int32) = 36), fun z => absurd z.1 (by decide)⟩
  · rcases hw with w | w | w | w | w | w | w | w <;> rw [w]
    · exact ⟨fun z => absurd z (by decide : ¬ (25 : Int32) = 36), fun z => absurd z.1 (by decide)⟩
    · exact ⟨fun z => absurd z (by decide : ¬ (26 : Int32) = 36), fun z => absurd z.1 (by decide)⟩
    · exact ⟨fun z => absurd z (by decide : ¬ (27 : Int32) = 36), fun z => absurd z.1 (by decide)⟩
    · exact ⟨fun z => absurd z (by decide : ¬ (28 : Int32) = 36), fun z => absurd z.1 (by decide)⟩
    · exact ⟨fun z => absurd z (by decide : ¬ (29 : Int32) = 36), fun z => absurd z.1 (by decide)⟩
    · exact ⟨fun z => absurd z (by decide : ¬ (30 : Int32) = 36), fun z => absurd z.1 (by decide)⟩
    · exact ⟨fun z => absurd z (by decide : ¬ (31 : Int32) = 36), fun z => absurd z.1 (by decide)⟩
    · exact ⟨fun z => absurd z (by decide : ¬ (32 : Int32) = 36), fun z => absurd z.1 (by decide)⟩
  · exact ⟨fun z => ⟨rfl, by have z1 : 33 + wh = 36 := z; lia⟩, fun z => by rw [z.2]; rfl⟩
  · exact ⟨fun z => absurd z (by decide : ¬ (39 : Int32) = 36), fun z => absurd z.1 (by decide)⟩
theorem zq37 {kd wh lxt : Int32} (hl : lxt = ztk kd wh) (hv : zV kd wh) : (lxt = 37) = (kd = 5 ∧ wh = 4) := by
  apply propext
  rw [hl]
  rcases hv with h | ⟨h, w0, w2⟩ | h | h | ⟨h, hw⟩ | ⟨h, w0, w5⟩ | h <;> rw [h]
  · exact ⟨fun z => absurd z (by decide : ¬ (40 : Int32) = 37), fun z => absurd z.1 (by decide)⟩
  · have z3 := zkz w0 w2
    exact ⟨fun z => absurd (show zkey wh = 37 from z) (by have z4 := z3.2.1; lia), fun z => absurd z.1 (by decide)⟩
  · exact ⟨fun z => absurd z (by decide : ¬ (23 : Int32) = 37), fun z => absurd z.1 (by decide)⟩
  · exact ⟨fun z => absurd z (by decide : ¬ (24 : Int32) = 37), fun z => absurd z.1 (by decide)⟩
  · rcases hw with w | w | w | w | w | w | w | w <;> rw [w]
    · exact ⟨fun z => absurd z (by decide : ¬ (25 : Int32) = 37), fun z => absurd z.1 (by decide)⟩
    · exact ⟨fun z => absurd z (by decide : ¬ (26 : Int32) = 37), fun z => absurd z.1 (by decide)⟩
    · exact ⟨fun z => absurd z (by decide : ¬ (27 : Int32) = 37), fun z => absurd z.1 (by decide)⟩
    · exact ⟨fun z => absurd z (by decide : ¬ (28 : Int32) = 37), fun z => absurd z.1 (by decide)⟩
    · exact ⟨fun z => absurd z (by decide : ¬ (29 : Int32) = 37), fun z => absurd z.1 (by decide)⟩
    · exact ⟨fun z => absurd z (by decide : ¬ (30 : Int32) = 37), fun z => absurd z.1 (by decide)⟩
    · exact ⟨fun z => absurd z (by decide : ¬ (31 : Int32) = 37), fun z => absurd z.1 (by decide)⟩
    · exact ⟨fun z => absurd z (by decide : ¬ (32 : Int32) = 37), fun z => absurd z.1 (by decide)⟩
  · exact ⟨fun z => ⟨rfl, by have z1 : 33 + wh = 37 := z; lia⟩, fun z => by rw [z.2]; rfl⟩
  · exact ⟨fun z => absurd z (by decide : ¬ (39 : Int32) = 37), fun z => absurd z.1 (by decide)⟩
theorem zq38 {kd wh lxt : Int32} (hl : lxt = ztk kd wh) (hv : zV kd wh) : (lxt = 38) = (kd = 5 ∧ wh = 5) := by
  apply propext
  rw [hl]
  rcases hv with h | ⟨h, w0, w2⟩ | h | h | ⟨h, hw⟩ | ⟨h, w0, w5⟩ | h <;> rw [h]
  · exact ⟨fun z => absurd z (by decide : ¬ (40 : Int32) = 38), fun z => absurd z.1 (by decide)⟩
  · have z3 := zkz w0 w2
    exact ⟨fun z => absurd (show zkey wh = 38 from z) (by have z4 := z3.2.1; lia), fun z => absurd z.1 (by decide)⟩
  · exact ⟨fun z => absurd z (by decide : ¬ (23 : Int32) = 38), fun z => absurd z.1 (by decide)⟩
  · exact ⟨fun z => absurd z (by decide : ¬ (24 : Int32) = 38), fun z => absurd z.1 (by decide)⟩
  · rcases hw with w | w | w | w | w | w | w | w <;> rw [w]
    · exact ⟨fun z => absurd z (by decide : ¬ (25 : Int32) = 38), fun z => absurd z.1 (by decide)⟩
    · exact ⟨fun z => absurd z (by decide : ¬ (26 : Int32) = 38), fun z => absurd z.1 (by decide)⟩
    · exact ⟨fun z => absurd z (by decide : ¬ (27 : Int32) = 38), fun z => absurd z.1 (by decide)⟩
    · exact ⟨fun z => absurd z (by decide : ¬ (28 : Int32) = 38), fun z => absurd z.1 (by decide)⟩
    · exact ⟨fun z => absurd z (by decide : ¬ (29 : Int32) = 38), fun z => absurd z.1 (by decide)⟩
    · exact ⟨fun z => absurd z (by decide : ¬ (30 : Int32) = 38), fun z => absurd z.1 (by decide)⟩
    · exact ⟨fun z => absurd z (by decide : ¬ (31 : Int32) = 38), fun z => absurd z.1 (by decide)⟩
    · exact ⟨fun z => absurd z (by decide : ¬ (32 : Int32) = 38), fun z => absurd z.1 (by decide)⟩
  · exact ⟨fun z => ⟨rfl, by have z1 : 33 + wh = 38 := z; lia⟩, fun z => by rw [z.2]; rfl⟩
  · exact ⟨fun z => absurd z (by decide : ¬ (39 : Int32) = 38), fun z => absurd z.1 (by decide)⟩
theorem zisKey {k kd wh : Int32} : fq_isKey k kd wh = (if kd = 1 ∧ wh = k then 1 else 0) := by
  rw [fq_isKey]
  by_cases c : kd = 1
  · rw [if_pos c]
    by_cases d : wh = k
    · rw [if_pos d, if_pos ⟨c, d⟩]
    · rw [if_neg d, if_neg (fun z => d z.2)]
  · rw [if_neg c, if_neg (fun z => c z.1)]
theorem zisSign {k kd wh : Int32} : fq_isSign k kd wh = (if kd = 4 ∧ wh = k then 1 else 0) := by
  rw [fq_isSign]
  by_cases c : kd = 4
  · rw [if_pos c]
    by_cases d : wh = k
    · rw [if_pos d, if_pos ⟨c, d⟩]
    · rw [if_neg d, if_neg (fun z => d z.2)]
  · rw [if_neg c, if_neg (fun z => c z.1)]
def zG (fBy ft fw fCo : Nat → Int32) (st : Int32) : Prop := zBy fBy ft st ∧ zWd fw ∧ zCo fCo ∧ st ≤ 900
theorem zG.tok {fBy ft fw fCo : Nat → Int32} {st lxa lxt lxp lxn lxl nx kd wh ap : Int32} (g : zG fBy ft fw fCo st) (h : zT st lxa lxt lxp lxn lxl nx kd wh ap) :
    ∀ U, U = fe_advance st lxa lxn lxl fBy fCo → ∀ V, V = fq_token ft fw st nx wh → zT st U.1 U.2.1 U.2.2.1 U.2.2.2.1 U.2.2.2.2 V.1 V.2.1 V.2.2.1 V.2.2.2 := by
  intro U hU V hV
  rw [hU, hV, h.1]
  exact (z_token g.1 g.2.1 g.2.2.1 g.2.2.2 h.2.2.1.1 h.2.2.2.1).1
theorem zG.adv {fBy ft fw fCo : Nat → Int32} {st lxa lxt lxp lxn lxl nx kd wh ap : Int32} (g : zG fBy ft fw fCo st) (h : zT st lxa lxt lxp lxn lxl nx kd wh ap) :
    ∀ V, V = fq_token ft fw st nx wh → ¬ V.2.2.2 < nx := by
  intro V hV
  rw [hV]
  exact (z_token (lxn := lxn) (lxl := lxl) g.1 g.2.1 g.2.2.1 g.2.2.2 h.2.2.1.1 h.2.2.2.1).2
def zRn (st lo hi : Int32) (X : Int32 × Int32 × Int32 × Int32 × Int32 × Int32 × Int32 × Int32 × Int32) (Y : Int32 × Int32 × Int32 × Int32 × Int32 × Int32 × Int32 × Int32) : Prop :=
  X.2.2.1 = Y.2.2.2.2.2.2.1 ∧ X.2.2.2.1 = Y.2.2.2.2.2.2.2 ∧ ((X.1 = 1 ∧ Y.1 = 0) ∨ (X.1 = 0 ∧ Y.1 = 1 ∧ X.2.1 = Y.2.2.2.2.2.1 ∧ ¬ X.2.1 < lo ∧ X.2.1 ≤ hi ∧ zT st X.2.2.2.2.1 X.2.2.2.2.2.1 X.2.2.2.2.2.2.1 X.2.2.2.2.2.2.2.1 X.2.2.2.2.2.2.2.2 Y.2.1 Y.2.2.1 Y.2.2.2.1 Y.2.2.2.2.1))
theorem z_number {fBy ft fw fCo : Nat → Int32} {st lxa lxt lxp lxn lxl nx kd wh ap pfa pfp fa fp got lo hi : Int32} (g : zG fBy ft fw fCo st) (h : zT st lxa lxt lxp lxn lxl nx kd wh ap) (hf : pfa = fa) (hp : pfp = fp) (h9 : hi ≤ 99999) :
    ∀ X, X = fp_numberIn pfa pfp st lxa lxt lxp lxn lxl fBy fCo lo hi → ∀ Y, Y = fq_number ft fw lo hi fa fp st nx kd wh ap got → zRn st lo hi X Y := by
  intro X hX Y hY
  rw [hX, hY, fp_numberIn, fq_number, zite (zq24 h.2.2.2.2.1 h.2.2.2.2.2.1)]
  by_cases c : kd = 3
  · have hn := h.2.2.2.2.2.2.2 c
    rw [if_pos c, if_pos c]
    apply zLr; intro r hr
    rw [fq_isIn] at hr
    by_cases d : lxn < lo
    · rw [if_pos d]
      by_cases d2 : wh < lo
      · rw [if_pos d2] at hr
        rw [hr, if_pos rfl]
        exact ⟨rfl, h.2.1, Or.inl ⟨rfl, rfl⟩⟩
      · rw [if_neg d2, if_pos (by have := hn.2.2; lia)] at hr
        rw [hr, if_pos rfl]
        exact ⟨rfl, h.2.1, Or.inl ⟨rfl, rfl⟩⟩
    · rw [if_neg d]
      by_cases e : lxn ≤ hi
      · have hw : lxn = wh := by have := hn.2.2; lia
        rw [if_pos e]
        rw [← hw, if_neg d, if_neg (by lia)] at hr
        rw [hr, if_neg (by decide)]
        apply zLx; intro U hU V hV
        exact ⟨hf, hp, Or.inr ⟨rfl, rfl, hw, d, e, g.tok h U hU V hV⟩⟩
      · rw [if_neg e]
        by_cases d2 : wh < lo
        · rw [if_pos d2] at hr
          rw [hr, if_pos rfl]
          exact ⟨rfl, h.2.1, Or.inl ⟨rfl, rfl⟩⟩
        · rw [if_neg d2, if_pos (by have := hn.2.2; lia)] at hr
          rw [hr, if_pos rfl]
          exact ⟨rfl, h.2.1, Or.inl ⟨rfl, rfl⟩⟩
  · rw [if_neg c, if_neg c]
    exact ⟨rfl, h.2.1, Or.inl ⟨rfl, rfl⟩⟩
def zRs (st hi : Int32) (X : Int32 × Int32 × Int32 × Int32 × Int32 × Int32 × Int32 × Int32 × Int32) (Y : Int32 × Int32 × Int32 × Int32 × Int32 × Int32 × Int32 × Int32) : Prop :=
  X.2.2.1 = Y.2.1 ∧ X.2.2.2.1 = Y.2.2.1 ∧ ((X.1 = 1 ∧ Y.1 = 0) ∨ (X.1 = 0 ∧ Y.1 = 1 ∧ X.2.1 = Y.2.2.2.2.2.2.2 ∧ ¬ X.2.1 < - hi ∧ X.2.1 ≤ hi ∧ zT st X.2.2.2.2.1 X.2.2.2.2.2.1 X.2.2.2.2.2.2.1 X.2.2.2.2.2.2.2.1 X.2.2.2.2.2.2.2.2 Y.2.2.2.1 Y.2.2.2.2.1 Y.2.2.2.2.2.1 Y.2.2.2.2.2.2.1))
theorem z_signed0 {fBy ft fw fCo : Nat → Int32} {st lxa lxt lxp lxn lxl nx kd wh ap pfa pfp fa fp got hi : Int32} (g : zG fBy ft fw fCo st) (h : zT st lxa lxt lxp lxn lxl nx kd wh ap) (hf : pfa = fa) (hp : pfp = fp) (h9 : hi ≤ 99999) (s : Bool)
    (X : Int32 × Int32 × Int32 × Int32 × Int32 × Int32 × Int32 × Int32 × Int32) (hX : X = (if lxt = 24 then (if lxn ≤ hi then (xL ((fe_advance st lxa lxn lxl fBy fCo)) (fun u => ((0 : Int32), (if s then -lxn else lxn), pfa, pfp, u.1, u.2.1, u.2.2.1, u.2.2.2.1, u.2.2.2.2))) else ((1 : Int32), (0 : Int32), (2 : Int32), lxp, lxa, lxt, lxp, lxn, lxl)) else ((1 : Int32), (0 : Int32), (1 : Int32), lxp, lxa, lxt, lxp, lxn, lxl))) :
    ∀ Y, Y = fq_number ft fw 0 hi fa fp st nx kd wh ap got → X.2.2.1 = Y.2.2.2.2.2.2.1 ∧ X.2.2.2.1 = Y.2.2.2.2.2.2.2 ∧ ((X.1 = 1 ∧ Y.1 = 0) ∨ (X.1 = 0 ∧ Y.1 = 1 ∧ X.2.1 = (if s then - Y.2.2.2.2.2.1 else Y.2.2.2.2.2.1) ∧ ¬ Y.2.2.2.2.2.1 < 0 ∧ Y.2.2.2.2.2.1 ≤ hi ∧ zT st X.2.2.2.2.1 X.2.2.2.2.2.1 X.2.2.2.2.2.2.1 X.2.2.2.2.2.2.2.1 X.2.2.2.2.2.2.2.2 Y.2.1 Y.2.2.1 Y.2.2.2.1 Y.2.2.2.2.1)) := by
  intro Y hY
  rw [hX, hY, fq_number, zite (zq24 h.2.2.2.2.1 h.2.2.2.2.2.1)]
  by_cases c : kd = 3
  · have hn := h.2.2.2.2.2.2.2 c
    rw [if_pos c, if_pos c, xL_eq (fq_isIn wh 0 hi)]
    by_cases e : lxn ≤ hi
    · have hw : lxn = wh := by have := hn.2.2; lia
      have hin : fq_isIn wh 0 hi = 1 := by rw [fq_isIn, if_neg hn.1, if_neg (by lia)]
      rw [if_pos e, hin, zn1, xL_eq (fe_advance st lxa lxn lxl fBy fCo), xL_eq (fq_token ft fw st nx wh)]
      refine ⟨hf, hp, Or.inr ⟨rfl, rfl, ?_, hn.1, ?_, g.tok h _ rfl _ rfl⟩⟩
      · show (if s then -lxn else lxn) = (if s then -wh else wh)
        rw [hw]
      · show wh ≤ hi
        lia
    · have hin : fq_isIn wh 0 hi = 0 := by rw [fq_isIn, if_neg hn.1, if_pos (by have := hn.2.2; lia)]
      rw [if_neg e, hin, zn0, xL_eq (fq_wrong 2 ap)]
      exact ⟨rfl, h.2.1, Or.inl ⟨rfl, rfl⟩⟩
  · rw [if_neg c, if_neg c, xL_eq]
    exact ⟨rfl, h.2.1, Or.inl ⟨rfl, rfl⟩⟩
theorem z_signed {fBy ft fw fCo : Nat → Int32} {st lxa lxt lxp lxn lxl nx kd wh ap pfa pfp fa fp got hi : Int32} (g : zG fBy ft fw fCo st) (h : zT st lxa lxt lxp lxn lxl nx kd wh ap) (hf : pfa = fa) (hp : pfp = fp) (h9 : hi ≤ 99999) (h0 : ¬ hi < 0) :
    ∀ X, X = fp_signedUpTo pfa pfp st lxa lxt lxp lxn lxl fBy fCo hi → ∀ Y, Y = fq_signed ft fw hi fa fp st nx kd wh ap got → zRs st hi X Y := by
  intro X hX Y hY
  rw [fp_signedUpTo] at hX
  rw [fq_signed, xL_eq, xL_eq, zisSign, fq_signed_a] at hY
  by_cases c : lxt = 29
  · have c2 := c
    rw [zq29 h.2.2.2.2.1 h.2.2.2.2.2.1] at c2
    rw [if_pos c, xL_eq] at hX
    rw [if_pos c2, if_neg (by decide), xL_eq, xL_eq] at hY
    have h2 := g.tok h _ rfl _ rfl
    obtain ⟨q1, q2, q3⟩ := z_signed0 (fa := fa) (fp := fp) (got := got) g h2 hf hp h9 true X hX _ rfl
    generalize fq_number ft fw 0 hi fa fp st (fq_token ft fw st nx wh).1 (fq_token ft fw st nx wh).2.1 (fq_token ft fw st nx wh).2.2.1 (fq_token ft fw st nx wh).2.2.2 got = Z at hY q1 q2 q3
    rcases q3 with ⟨r1, r2⟩ | ⟨r1, r2, r3, r4, r5, r6⟩
    · rw [r2, if_pos rfl] at hY
      rw [hY]
      exact ⟨q1, q2, Or.inl ⟨r1, rfl⟩⟩
    · rw [r2, zn1] at hY
      dsimp only at hY
      rw [zn1] at hY
      rw [hY]
      have r7 : X.2.1 = - Z.2.2.2.2.2.1 := r3
      exact ⟨q1, q2, Or.inr ⟨r1, rfl, r7, by rw [r7]; lia, by rw [r7]; lia, r6⟩⟩
  · have c2 := c
    rw [zq29 h.2.2.2.2.1 h.2.2.2.2.2.1] at c2
    rw [if_neg c] at hX
    rw [if_neg c2, if_pos rfl, xL_eq] at hY
    obtain ⟨q1, q2, q3⟩ := z_signed0 (fa := fa) (fp := fp) (got := got) g h hf hp h9 false X hX _ rfl
    generalize fq_number ft fw 0 hi fa fp st nx kd wh ap got = Z at hY q1 q2 q3
    rcases q3 with ⟨r1, r2⟩ | ⟨r1, r2, r3, r4, r5, r6⟩
    · rw [r2, if_pos rfl] at hY
      rw [hY]
      exact ⟨q1, q2, Or.inl ⟨r1, rfl⟩⟩
    · rw [r2, if_neg (by decide), if_pos rfl] at hY
      rw [hY]
      have r7 : X.2.1 = Z.2.2.2.2.2.1 := r3
      exact ⟨q1, q2, Or.inr ⟨r1, rfl, r7, by rw [r7]; lia, by rw [r7]; lia, r6⟩⟩
theorem zltn {n I : Int32} {i : Nat} (hI : I.toNatClampNeg = i) (I0 : ¬ I < 0) (h : ¬ n ≤ I) : i < n.toNatClampNeg := by
  rw [Int32.le_iff_toInt_le] at h
  have h0 := xi_nn I0
  have h2 : n.toNatClampNeg = n.toInt.toNat := rfl
  have h3 : I.toNatClampNeg = I.toInt.toNat := rfl
  omega
theorem z_find0 {fTo f_na : Nat → Int32} {fNm : Nat → Nat → Int32} {n x : Int32} (hn : fTo 0 = n) (n0 : ¬ n < 0) (n9 : n ≤ 4) (hN : ∀ k : Nat, k < n.toNatClampNeg → fNm 0 k = f_na (4 + k)) :
    fb_find0 fTo fNm x = fq_find8_4 f_na n x ∧ (fq_find8_4 f_na n x = -1 ∨ (¬ fq_find8_4 f_na n x < 0 ∧ fq_find8_4 f_na n x < n)) := by
  have e : fTo ((0 : Int32).toNatClampNeg) = n := hn
  rw [fb_find0, fq_find8_4]
  rw [fb_find0_d, fq_find8_4_d, e]
  by_cases c0 : n ≤ 0
  · rw [if_pos c0, if_pos c0]; exact ⟨rfl, Or.inl rfl⟩
  rw [if_neg c0, if_neg c0, if_neg (by decide), show fNm 0 ((0 : Int32).toNatClampNeg) = f_na ((4 + 0 : Int32).toNatClampNeg) from hN 0 (zltn (I := 0) rfl (by decide) c0)]
  by_cases d0 : f_na ((4 + 0 : Int32).toNatClampNeg) = x
  · rw [if_pos d0, if_pos d0]; exact ⟨rfl, Or.inr ⟨by decide, by lia⟩⟩
  rw [if_neg d0, if_neg d0, show (0 : Int32) + 1 = 1 from rfl]
  rw [fb_find0_d, fq_find8_4_d, e]
  by_cases c1 : n ≤ 1
  · rw [if_pos c1, if_pos c1]; exact ⟨rfl, Or.inl rfl⟩
  rw [if_neg c1, if_neg c1, if_neg (by decide), show fNm 0 ((1 : Int32).toNatClampNeg) = f_na ((4 + 1 : Int32).toNatClampNeg) from hN 1 (zltn (I := 1) rfl (by decide) c1)]
  by_cases d1 : f_na ((4 + 1 : Int32).toNatClampNeg) = x
  · rw [if_pos d1, if_pos d1]; exact ⟨rfl, Or.inr ⟨by decide, by lia⟩⟩
  rw [if_neg d1, if_neg d1, show (1 : Int32) + 1 = 2 from rfl]
  rw [fb_find0_d, fq_find8_4_d, e]
  by_cases c2 : n ≤ 2
  · rw [if_pos c2, if_pos c2]; exact ⟨rfl, Or.inl rfl⟩
  rw [if_neg c2, if_neg c2, if_neg (by decide), show fNm 0 ((2 : Int32).toNatClampNeg) = f_na ((4 + 2 : Int32).toNatClampNeg) from hN 2 (zltn (I := 2) rfl (by decide) c2)]
  by_cases d2 : f_na ((4 + 2 : Int32).toNatClampNeg) = x
  · rw [if_pos d2, if_pos d2]; exact ⟨rfl, Or.inr ⟨by decide, by lia⟩⟩
  rw [if_neg d2, if_neg d2, show (2 : Int32) + 1 = 3 from rfl]
  rw [fb_find0_d, fq_find8_4_d, e]
  by_cases c3 : n ≤ 3
  · rw [if_pos c3, if_pos c3]; exact ⟨rfl, Or.inl rfl⟩
  rw [if_neg c3, if_neg c3, if_neg (by decide), show fNm 0 ((3 : Int32).toNatClampNeg) = f_na ((4 + 3 : Int32).toNatClampNeg) from hN 3 (zltn (I := 3) rfl (by decide) c3)]
  by_cases d3 : f_na ((4 + 3 : Int32).toNatClampNeg) = x
  · rw [if_pos d3, if_pos d3]; exact ⟨rfl, Or.inr ⟨by decide, by lia⟩⟩
  rw [if_neg d3, if_neg d3, show (3 : Int32) + 1 = 4 from rfl]
  rw [fb_find0_d, fq_find8_4_d, e, if_pos n9]
  exact ⟨rfl, Or.inl rfl⟩
theorem z_find1 {fTo f_na : Nat → Int32} {fNm : Nat → Nat → Int32} {n x : Int32} (hn : fTo 1 = n) (n0 : ¬ n < 0) (n9 : n ≤ 4) (hN : ∀ k : Nat, k < n.toNatClampNeg → fNm 1 k = f_na (4 + k)) :
    fb_find1 fTo fNm x = fq_find8_4 f_na n x ∧ (fq_find8_4 f_na n x = -1 ∨ (¬ fq_find8_4 f_na n x < 0 ∧ fq_find8_4 f_na n x < n)) := by
  have e : fTo ((1 : Int32).toNatClampNeg) = n := hn
  rw [fb_find1, fq_find8_4]
  rw [fb_find1_d, fq_find8_4_d, e]
  by_cases c0 : n ≤ 0
  · rw [if_pos c0, if_pos c0]; exact ⟨rfl, Or.inl rfl⟩
  rw [if_neg c0, if_neg c0, if_neg (by decide), show fNm 1 ((0 : Int32).toNatClampNeg) = f_na ((4 + 0 : Int32).toNatClampNeg) from hN 0 (zltn (I := 0) rfl (by decide) c0)]
  by_cases d0 : f_na ((4 + 0 : Int32).toNatClampNeg) = x
  · rw [if_pos d0, if_pos d0]; exact ⟨rfl, Or.inr ⟨by decide, by lia⟩⟩
  rw [if_neg d0, if_neg d0, show (0 : Int32) + 1 = 1 from rfl]
  rw [fb_find1_d, fq_find8_4_d, e]
  by_cases c1 : n ≤ 1
  · rw [if_pos c1, if_pos c1]; exact ⟨rfl, Or.inl rfl⟩
  rw [if_neg c1, if_neg c1, if_neg (by decide), show fNm 1 ((1 : Int32).toNatClampNeg) = f_na ((4 + 1 : Int32).toNatClampNeg) from hN 1 (zltn (I := 1) rfl (by decide) c1)]
  by_cases d1 : f_na ((4 + 1 : Int32).toNatClampNeg) = x
  · rw [if_pos d1, if_pos d1]; exact ⟨rfl, Or.inr ⟨by decide, by lia⟩⟩
  rw [if_neg d1, if_neg d1, show (1 : Int32) + 1 = 2 from rfl]
  rw [fb_find1_d, fq_find8_4_d, e]
  by_cases c2 : n ≤ 2
  · rw [if_pos c2, if_pos c2]; exact ⟨rfl, Or.inl rfl⟩
  rw [if_neg c2, if_neg c2, if_neg (by decide), show fNm 1 ((2 : Int32).toNatClampNeg) = f_na ((4 + 2 : Int32).toNatClampNeg) from hN 2 (zltn (I := 2) rfl (by decide) c2)]
  by_cases d2 : f_na ((4 + 2 : Int32).toNatClampNeg) = x
  · rw [if_pos d2, if_pos d2]; exact ⟨rfl, Or.inr ⟨by decide, by lia⟩⟩
  rw [if_neg d2, if_neg d2, show (2 : Int32) + 1 = 3 from rfl]
  rw [fb_find1_d, fq_find8_4_d, e]
  by_cases c3 : n ≤ 3
  · rw [if_pos c3, if_pos c3]; exact ⟨rfl, Or.inl rfl⟩
  rw [if_neg c3, if_neg c3, if_neg (by decide), show fNm 1 ((3 : Int32).toNatClampNeg) = f_na ((4 + 3 : Int32).toNatClampNeg) from hN 3 (zltn (I := 3) rfl (by decide) c3)]
  by_cases d3 : f_na ((4 + 3 : Int32).toNatClampNeg) = x
  · rw [if_pos d3, if_pos d3]; exact ⟨rfl, Or.inr ⟨by decide, by lia⟩⟩
  rw [if_neg d3, if_neg d3, show (3 : Int32) + 1 = 4 from rfl]
  rw [fb_find1_d, fq_find8_4_d, e, if_pos n9]
  exact ⟨rfl, Or.inl rfl⟩
theorem z_find2 {fTo f_na : Nat → Int32} {fNm : Nat → Nat → Int32} {n x : Int32} (hn : fTo 2 = n) (n0 : ¬ n < 0) (n9 : n ≤ 6) (hN : ∀ k : Nat, k < n.toNatClampNeg → fNm 2 k = f_na (6 + k)) :
    fb_find2 fTo fNm x = fq_find12_6 f_na n x ∧ (fq_find12_6 f_na n x = -1 ∨ (¬ fq_find12_6 f_na n x < 0 ∧ fq_find12_6 f_na n x < n)) := by
  have e : fTo ((2 : Int32).toNatClampNeg) = n := hn
  rw [fb_find2, fq_find12_6]
  rw [fb_find2_d, fq_find12_6_d, e]
  by_cases c0 : n ≤ 0
  · rw [if_pos c0, if_pos c0]; exact ⟨rfl, Or.inl rfl⟩
  rw [if_neg c0, if_neg c0, if_neg (by decide), show fNm 2 ((0 : Int32).toNatClampNeg) = f_na ((6 + 0 : Int32).toNatClampNeg) from hN 0 (zltn (I := 0) rfl (by decide) c0)]
  by_cases d0 : f_na ((6 + 0 : Int32).toNatClampNeg) = x
  · rw [if_pos d0, if_pos d0]; exact ⟨rfl, Or.inr ⟨by decide, by lia⟩⟩
  rw [if_neg d0, if_neg d0, show (0 : Int32) + 1 = 1 from rfl]
  rw [fb_find2_d, fq_find12_6_d, e]
  by_cases c1 : n ≤ 1
  · rw [if_pos c1, if_pos c1]; exact ⟨rfl, Or.inl rfl⟩
  rw [if_neg c1, if_neg c1, if_neg (by decide), show fNm 2 ((1 : Int32).toNatClampNeg) = f_na ((6 + 1 : Int32).toNatClampNeg) from hN 1 (zltn (I := 1) rfl (by decide) c1)]
  by_cases d1 : f_na ((6 + 1 : Int32).toNatClampNeg) = x
  · rw [if_pos d1, if_pos d1]; exact ⟨rfl, Or.inr ⟨by decide, by lia⟩⟩
  rw [if_neg d1, if_neg d1, show (1 : Int32) + 1 = 2 from rfl]
  rw [fb_find2_d, fq_find12_6_d, e]
  by_cases c2 : n ≤ 2
  · rw [if_pos c2, if_pos c2]; exact ⟨rfl, Or.inl rfl⟩
  rw [if_neg c2, if_neg c2, if_neg (by decide), show fNm 2 ((2 : Int32).toNatClampNeg) = f_na ((6 + 2 : Int32).toNatClampNeg) from hN 2 (zltn (I := 2) rfl (by decide) c2)]
  by_cases d2 : f_na ((6 + 2 : Int32).toNatClampNeg) = x
  · rw [if_pos d2, if_pos d2]; exact ⟨rfl, Or.inr ⟨by decide, by lia⟩⟩
  rw [if_neg d2, if_neg d2, show (2 : Int32) + 1 = 3 from rfl]
  rw [fb_find2_d, fq_find12_6_d, e]
  by_cases c3 : n ≤ 3
  · rw [if_pos c3, if_pos c3]; exact ⟨rfl, Or.inl rfl⟩
  rw [if_neg c3, if_neg c3, if_neg (by decide), show fNm 2 ((3 : Int32).toNatClampNeg) = f_na ((6 + 3 : Int32).toNatClampNeg) from hN 3 (zltn (I := 3) rfl (by decide) c3)]
  by_cases d3 : f_na ((6 + 3 : Int32).toNatClampNeg) = x
  · rw [if_pos d3, if_pos d3]; exact ⟨rfl, Or.inr ⟨by decide, by lia⟩⟩
  rw [if_neg d3, if_neg d3, show (3 : Int32) + 1 = 4 from rfl]
  rw [fb_find2_d, fq_find12_6_d, e]
  by_cases c4 : n ≤ 4
  · rw [if_pos c4, if_pos c4]; exact ⟨rfl, Or.inl rfl⟩
  rw [if_neg c4, if_neg c4, if_neg (by decide), show fNm 2 ((4 : Int32).toNatClampNeg) = f_na ((6 + 4 : Int32).toNatClampNeg) from hN 4 (zltn (I := 4) rfl (by decide) c4)]
  by_cases d4 : f_na ((6 + 4 : Int32).toNatClampNeg) = x
  · rw [if_pos d4, if_pos d4]; exact ⟨rfl, Or.inr ⟨by decide, by lia⟩⟩
  rw [if_neg d4, if_neg d4, show (4 : Int32) + 1 = 5 from rfl]
  rw [fb_find2_d, fq_find12_6_d, e]
  by_cases c5 : n ≤ 5
  · rw [if_pos c5, if_pos c5]; exact ⟨rfl, Or.inl rfl⟩
  rw [if_neg c5, if_neg c5, if_neg (by decide), show fNm 2 ((5 : Int32).toNatClampNeg) = f_na ((6 + 5 : Int32).toNatClampNeg) from hN 5 (zltn (I := 5) rfl (by decide) c5)]
  by_cases d5 : f_na ((6 + 5 : Int32).toNatClampNeg) = x
  · rw [if_pos d5, if_pos d5]; exact ⟨rfl, Or.inr ⟨by decide, by lia⟩⟩
  rw [if_neg d5, if_neg d5, show (5 : Int32) + 1 = 6 from rfl]
  rw [fb_find2_d, fq_find12_6_d, e, if_pos n9]
  exact ⟨rfl, Or.inl rfl⟩
theorem z_find3 {fTo f_na : Nat → Int32} {fNm : Nat → Nat → Int32} {n x : Int32} (hn : fTo 3 = n) (n0 : ¬ n < 0) (n9 : n ≤ 4) (hN : ∀ k : Nat, k < n.toNatClampNeg → fNm 3 k = f_na (4 + k)) :
    fb_find3 fTo fNm x = fq_find8_4 f_na n x ∧ (fq_find8_4 f_na n x = -1 ∨ (¬ fq_find8_4 f_na n x < 0 ∧ fq_find8_4 f_na n x < n)) := by
  have e : fTo ((3 : Int32).toNatClampNeg) = n := hn
  rw [fb_find3, fq_find8_4]
  rw [fb_find3_d, fq_find8_4_d, e]
  by_cases c0 : n ≤ 0
  · rw [if_pos c0, if_pos c0]; exact ⟨rfl, Or.inl rfl⟩
  rw [if_neg c0, if_neg c0, if_neg (by decide), show fNm 3 ((0 : Int32).toNatClampNeg) = f_na ((4 + 0 : Int32).toNatClampNeg) from hN 0 (zltn (I := 0) rfl (by decide) c0)]
  by_cases d0 : f_na ((4 + 0 : Int32).toNatClampNeg) = x
  · rw [if_pos d0, if_pos d0]; exact ⟨rfl, Or.inr ⟨by decide, by lia⟩⟩
  rw [if_neg d0, if_neg d0, show (0 : Int32) + 1 = 1 from rfl]
  rw [fb_find3_d, fq_find8_4_d, e]
  by_cases c1 : n ≤ 1
  · rw [if_pos c1, if_pos c1]; exact ⟨rfl, Or.inl rfl⟩
  rw [if_neg c1, if_neg c1, if_neg (by decide), show fNm 3 ((1 : Int32).toNatClampNeg) = f_na ((4 + 1 : Int32).toNatClampNeg) from hN 1 (zltn (I := 1) rfl (by decide) c1)]
  by_cases d1 : f_na ((4 + 1 : Int32).toNatClampNeg) = x
  · rw [if_pos d1, if_pos d1]; exact ⟨rfl, Or.inr ⟨by decide, by lia⟩⟩
  rw [if_neg d1, if_neg d1, show (1 : Int32) + 1 = 2 from rfl]
  rw [fb_find3_d, fq_find8_4_d, e]
  by_cases c2 : n ≤ 2
  · rw [if_pos c2, if_pos c2]; exact ⟨rfl, Or.inl rfl⟩
  rw [if_neg c2, if_neg c2, if_neg (by decide), show fNm 3 ((2 : Int32).toNatClampNeg) = f_na ((4 + 2 : Int32).toNatClampNeg) from hN 2 (zltn (I := 2) rfl (by decide) c2)]
  by_cases d2 : f_na ((4 + 2 : Int32).toNatClampNeg) = x
  · rw [if_pos d2, if_pos d2]; exact ⟨rfl, Or.inr ⟨by decide, by lia⟩⟩
  rw [if_neg d2, if_neg d2, show (2 : Int32) + 1 = 3 from rfl]
  rw [fb_find3_d, fq_find8_4_d, e]
  by_cases c3 : n ≤ 3
  · rw [if_pos c3, if_pos c3]; exact ⟨rfl, Or.inl rfl⟩
  rw [if_neg c3, if_neg c3, if_neg (by decide), show fNm 3 ((3 : Int32).toNatClampNeg) = f_na ((4 + 3 : Int32).toNatClampNeg) from hN 3 (zltn (I := 3) rfl (by decide) c3)]
  by_cases d3 : f_na ((4 + 3 : Int32).toNatClampNeg) = x
  · rw [if_pos d3, if_pos d3]; exact ⟨rfl, Or.inr ⟨by decide, by lia⟩⟩
  rw [if_neg d3, if_neg d3, show (3 : Int32) + 1 = 4 from rfl]
  rw [fb_find3_d, fq_find8_4_d, e, if_pos n9]
  exact ⟨rfl, Or.inl rfl⟩
theorem z_find4 {fTo f_na : Nat → Int32} {fNm : Nat → Nat → Int32} {n x : Int32} (hn : fTo 4 = n) (n0 : ¬ n < 0) (n9 : n ≤ 6) (hN : ∀ k : Nat, k < n.toNatClampNeg → fNm 4 k = f_na (6 + k)) :
    fb_find4 fTo fNm x = fq_find12_6 f_na n x ∧ (fq_find12_6 f_na n x = -1 ∨ (¬ fq_find12_6 f_na n x < 0 ∧ fq_find12_6 f_na n x < n)) := by
  have e : fTo ((4 : Int32).toNatClampNeg) = n := hn
  rw [fb_find4, fq_find12_6]
  rw [fb_find4_d, fq_find12_6_d, e]
  by_cases c0 : n ≤ 0
  · rw [if_pos c0, if_pos c0]; exact ⟨rfl, Or.inl rfl⟩
  rw [if_neg c0, if_neg c0, if_neg (by decide), show fNm 4 ((0 : Int32).toNatClampNeg) = f_na ((6 + 0 : Int32).toNatClampNeg) from hN 0 (zltn (I := 0) rfl (by decide) c0)]
  by_cases d0 : f_na ((6 + 0 : Int32).toNatClampNeg) = x
  · rw [if_pos d0, if_pos d0]; exact ⟨rfl, Or.inr ⟨by decide, by lia⟩⟩
  rw [if_neg d0, if_neg d0, show (0 : Int32) + 1 = 1 from rfl]
  rw [fb_find4_d, fq_find12_6_d, e]
  by_cases c1 : n ≤ 1
  · rw [if_pos c1, if_pos c1]; exact ⟨rfl, Or.inl rfl⟩
  rw [if_neg c1, if_neg c1, if_neg (by decide), show fNm 4 ((1 : Int32).toNatClampNeg) = f_na ((6 + 1 : Int32).toNatClampNeg) from hN 1 (zltn (I := 1) rfl (by decide) c1)]
  by_cases d1 : f_na ((6 + 1 : Int32).toNatClampNeg) = x
  · rw [if_pos d1, if_pos d1]; exact ⟨rfl, Or.inr ⟨by decide, by lia⟩⟩
  rw [if_neg d1, if_neg d1, show (1 : Int32) + 1 = 2 from rfl]
  rw [fb_find4_d, fq_find12_6_d, e]
  by_cases c2 : n ≤ 2
  · rw [if_pos c2, if_pos c2]; exact ⟨rfl, Or.inl rfl⟩
  rw [if_neg c2, if_neg c2, if_neg (by decide), show fNm 4 ((2 : Int32).toNatClampNeg) = f_na ((6 + 2 : Int32).toNatClampNeg) from hN 2 (zltn (I := 2) rfl (by decide) c2)]
  by_cases d2 : f_na ((6 + 2 : Int32).toNatClampNeg) = x
  · rw [if_pos d2, if_pos d2]; exact ⟨rfl, Or.inr ⟨by decide, by lia⟩⟩
  rw [if_neg d2, if_neg d2, show (2 : Int32) + 1 = 3 from rfl]
  rw [fb_find4_d, fq_find12_6_d, e]
  by_cases c3 : n ≤ 3
  · rw [if_pos c3, if_pos c3]; exact ⟨rfl, Or.inl rfl⟩
  rw [if_neg c3, if_neg c3, if_neg (by decide), show fNm 4 ((3 : Int32).toNatClampNeg) = f_na ((6 + 3 : Int32).toNatClampNeg) from hN 3 (zltn (I := 3) rfl (by decide) c3)]
  by_cases d3 : f_na ((6 + 3 : Int32).toNatClampNeg) = x
  · rw [if_pos d3, if_pos d3]; exact ⟨rfl, Or.inr ⟨by decide, by lia⟩⟩
  rw [if_neg d3, if_neg d3, show (3 : Int32) + 1 = 4 from rfl]
  rw [fb_find4_d, fq_find12_6_d, e]
  by_cases c4 : n ≤ 4
  · rw [if_pos c4, if_pos c4]; exact ⟨rfl, Or.inl rfl⟩
  rw [if_neg c4, if_neg c4, if_neg (by decide), show fNm 4 ((4 : Int32).toNatClampNeg) = f_na ((6 + 4 : Int32).toNatClampNeg) from hN 4 (zltn (I := 4) rfl (by decide) c4)]
  by_cases d4 : f_na ((6 + 4 : Int32).toNatClampNeg) = x
  · rw [if_pos d4, if_pos d4]; exact ⟨rfl, Or.inr ⟨by decide, by lia⟩⟩
  rw [if_neg d4, if_neg d4, show (4 : Int32) + 1 = 5 from rfl]
  rw [fb_find4_d, fq_find12_6_d, e]
  by_cases c5 : n ≤ 5
  · rw [if_pos c5, if_pos c5]; exact ⟨rfl, Or.inl rfl⟩
  rw [if_neg c5, if_neg c5, if_neg (by decide), show fNm 4 ((5 : Int32).toNatClampNeg) = f_na ((6 + 5 : Int32).toNatClampNeg) from hN 5 (zltn (I := 5) rfl (by decide) c5)]
  by_cases d5 : f_na ((6 + 5 : Int32).toNatClampNeg) = x
  · rw [if_pos d5, if_pos d5]; exact ⟨rfl, Or.inr ⟨by decide, by lia⟩⟩
  rw [if_neg d5, if_neg d5, show (5 : Int32) + 1 = 6 from rfl]
  rw [fb_find4_d, fq_find12_6_d, e, if_pos n9]
  exact ⟨rfl, Or.inl rfl⟩
def zRb0 (st n : Int32) (fNm : Nat → Nat → Int32) (f_na : Nat → Int32) (X : Int32 × Int32 × Int32 × Int32 × Int32 × Int32 × Int32 × Int32 × Int32 × (Nat → Nat → Int32)) (Y : Int32 × (Nat → Int32) × Int32 × Int32 × Int32 × Int32 × Int32 × Int32) : Prop :=
  X.2.2.1 = Y.2.2.2.2.2.2.1 ∧ X.2.2.2.1 = Y.2.2.2.2.2.2.2 ∧ ((X.1 = 1 ∧ Y.1 = 0) ∨ (X.1 = 0 ∧ Y.1 = 1 ∧ X.2.1 = n ∧ (∃ x : Int32, X.2.2.2.2.2.2.2.2.2 = va_up fNm 0 (upd (fNm 0) n.toNatClampNeg x) ∧ Y.2.1 = upd f_na ((4 + n).toNatClampNeg) x) ∧ zT st X.2.2.2.2.1 X.2.2.2.2.2.1 X.2.2.2.2.2.2.1 X.2.2.2.2.2.2.2.1 X.2.2.2.2.2.2.2.2.1 Y.2.2.1 Y.2.2.2.1 Y.2.2.2.2.1 Y.2.2.2.2.2.1))
theorem z_begin0 {fBy ft fw fCo fTo f_na : Nat → Int32} {fNm : Nat → Nat → Int32} {st lxa lxt lxp lxn lxl nx kd wh ap pfa pfp fa fp n : Int32} (g : zG fBy ft fw fCo st) (h : zT st lxa lxt lxp lxn lxl nx kd wh ap) (hf : pfa = fa) (hp : pfp = fp)
    (hn : fTo 0 = n) (n0 : ¬ n < 0) (n9 : n < 4) (hN : ∀ k : Nat, k < n.toNatClampNeg → fNm 0 k = f_na (4 + k)) :
    ∀ X, X = fp_beginNamed0 pfa pfp st lxa lxt lxp lxn lxl fBy fCo fTo fNm → ∀ V, V = fq_token ft fw st nx wh → ∀ Y, Y = fq_newName8 ft fw f_na n fa fp st V.1 V.2.1 V.2.2.1 V.2.2.2 → zRb0 st n fNm f_na X Y := by
  intro X hX V hV Y hY
  have e : fTo ((0 : Int32).toNatClampNeg) = n := hn
  rw [hX, fp_beginNamed0, e, if_pos n9]
  apply zLl; intro U hU
  have h2 := g.tok h U hU V hV
  rw [hY, fq_newName8, zite (zq23 h2.2.2.2.2.1 h2.2.2.2.2.2.1)]
  by_cases c : V.2.1 = 2
  · have hl := h2.2.2.2.2.2.2.1 c
    rw [if_pos c, if_pos c]
    apply zLx; intro r hr y hy
    obtain ⟨f1, f2⟩ := z_find0 (x := U.2.2.2.2) hn n0 (by lia) hN
    rw [hl] at f1 f2 hr
    rw [f1, ← hy] at hr
    rw [← hy] at f2
    rw [hr]
    rcases f2 with f2 | ⟨f2, f3⟩
    · rw [f2, if_pos rfl, if_pos (by decide)]
      apply zLx; intro U2 hU2 V2 hV2
      exact ⟨hf, hp, Or.inr ⟨rfl, rfl, rfl, ⟨_, by rw [hl], rfl⟩, g.tok h2 U2 hU2 V2 hV2⟩⟩
    · rw [if_neg (by lia), if_neg f2]
      exact ⟨rfl, h2.2.1, Or.inl ⟨rfl, rfl⟩⟩
  · rw [if_neg c, if_neg c]
    exact ⟨rfl, h2.2.1, Or.inl ⟨rfl, rfl⟩⟩
theorem z_full0 {fBy fCo fTo : Nat → Int32} {fNm : Nat → Nat → Int32} {st lxa lxt lxp lxn lxl pfa pfp : Int32} (hn : fTo 0 = 4) :
    fp_beginNamed0 pfa pfp st lxa lxt lxp lxn lxl fBy fCo fTo fNm = ((1 : Int32), (0 : Int32), (2 : Int32), lxp, lxa, lxt, lxp, lxn, lxl, fNm) := by
  have e : fTo ((0 : Int32).toNatClampNeg) = 4 := hn
  rw [fp_beginNamed0, e, if_neg (by decide)]
def zRb1 (st n : Int32) (fNm : Nat → Nat → Int32) (f_na : Nat → Int32) (X : Int32 × Int32 × Int32 × Int32 × Int32 × Int32 × Int32 × Int32 × Int32 × (Nat → Nat → Int32)) (Y : Int32 × (Nat → Int32) × Int32 × Int32 × Int32 × Int32 × Int32 × Int32) : Prop :=
  X.2.2.1 = Y.2.2.2.2.2.2.1 ∧ X.2.2.2.1 = Y.2.2.2.2.2.2.2 ∧ ((X.1 = 1 ∧ Y.1 = 0) ∨ (X.1 = 0 ∧ Y.1 = 1 ∧ X.2.1 = n ∧ (∃ x : Int32, X.2.2.2.2.2.2.2.2.2 = va_up fNm 1 (upd (fNm 1) n.toNatClampNeg x) ∧ Y.2.1 = upd f_na ((4 + n).toNatClampNeg) x) ∧ zT st X.2.2.2.2.1 X.2.2.2.2.2.1 X.2.2.2.2.2.2.1 X.2.2.2.2.2.2.2.1 X.2.2.2.2.2.2.2.2.1 Y.2.2.1 Y.2.2.2.1 Y.2.2.2.2.1 Y.2.2.2.2.2.1))
theorem z_begin1 {fBy ft fw fCo fTo f_na : Nat → Int32} {fNm : Nat → Nat → Int32} {st lxa lxt lxp lxn lxl nx kd wh ap pfa pfp fa fp n : Int32} (g : zG fBy ft fw fCo st) (h : zT st lxa lxt lxp lxn lxl nx kd wh ap) (hf : pfa = fa) (hp : pfp = fp)
    (hn : fTo 1 = n) (n0 : ¬ n < 0) (n9 : n < 4) (hN : ∀ k : Nat, k < n.toNatClampNeg → fNm 1 k = f_na (4 + k)) :
    ∀ X, X = fp_beginNamed1 pfa pfp st lxa lxt lxp lxn lxl fBy fCo fTo fNm → ∀ V, V = fq_token ft fw st nx wh → ∀ Y, Y = fq_newName8 ft fw f_na n fa fp st V.1 V.2.1 V.2.2.1 V.2.2.2 → zRb1 st n fNm f_na X Y := by
  intro X hX V hV Y hY
  have e : fTo ((1 : Int32).toNatClampNeg) = n := hn
  rw [hX, fp_beginNamed1, e, if_pos n9]
  apply zLl; intro U hU
  have h2 := g.tok h U hU V hV
  rw [hY, fq_newName8, zite (zq23 h2.2.2.2.2.1 h2.2.2.2.2.2.1)]
  by_cases c : V.2.1 = 2
  · have hl := h2.2.2.2.2.2.2.1 c
    rw [if_pos c, if_pos c]
    apply zLx; intro r hr y hy
    obtain ⟨f1, f2⟩ := z_find1 (x := U.2.2.2.2) hn n0 (by lia) hN
    rw [hl] at f1 f2 hr
    rw [f1, ← hy] at hr
    rw [← hy] at f2
    rw [hr]
    rcases f2 with f2 | ⟨f2, f3⟩
    · rw [f2, if_pos rfl, if_pos (by decide)]
      apply zLx; intro U2 hU2 V2 hV2
      exact ⟨hf, hp, Or.inr ⟨rfl, rfl, rfl, ⟨_, by rw [hl], rfl⟩, g.tok h2 U2 hU2 V2 hV2⟩⟩
    · rw [if_neg (by lia), if_neg f2]
      exact ⟨rfl, h2.2.1, Or.inl ⟨rfl, rfl⟩⟩
  · rw [if_neg c, if_neg c]
    exact ⟨rfl, h2.2.1, Or.inl ⟨rfl, rfl⟩⟩
theorem z_full1 {fBy fCo fTo : Nat → Int32} {fNm : Nat → Nat → Int32} {st lxa lxt lxp lxn lxl pfa pfp : Int32} (hn : fTo 1 = 4) :
    fp_beginNamed1 pfa pfp st lxa lxt lxp lxn lxl fBy fCo fTo fNm = ((1 : Int32), (0 : Int32), (2 : Int32), lxp, lxa, lxt, lxp, lxn, lxl, fNm) := by
  have e : fTo ((1 : Int32).toNatClampNeg) = 4 := hn
  rw [fp_beginNamed1, e, if_neg (by decide)]
def zRb2 (st n : Int32) (fNm : Nat → Nat → Int32) (f_na : Nat → Int32) (X : Int32 × Int32 × Int32 × Int32 × Int32 × Int32 × Int32 × Int32 × Int32 × (Nat → Nat → Int32)) (Y : Int32 × (Nat → Int32) × Int32 × Int32 × Int32 × Int32 × Int32 × Int32) : Prop :=
  X.2.2.1 = Y.2.2.2.2.2.2.1 ∧ X.2.2.2.1 = Y.2.2.2.2.2.2.2 ∧ ((X.1 = 1 ∧ Y.1 = 0) ∨ (X.1 = 0 ∧ Y.1 = 1 ∧ X.2.1 = n ∧ (∃ x : Int32, X.2.2.2.2.2.2.2.2.2 = va_up fNm 2 (upd (fNm 2) n.toNatClampNeg x) ∧ Y.2.1 = upd f_na ((6 + n).toNatClampNeg) x) ∧ zT st X.2.2.2.2.1 X.2.2.2.2.2.1 X.2.2.2.2.2.2.1 X.2.2.2.2.2.2.2.1 X.2.2.2.2.2.2.2.2.1 Y.2.2.1 Y.2.2.2.1 Y.2.2.2.2.1 Y.2.2.2.2.2.1))
theorem z_begin2 {fBy ft fw fCo fTo f_na : Nat → Int32} {fNm : Nat → Nat → Int32} {st lxa lxt lxp lxn lxl nx kd wh ap pfa pfp fa fp n : Int32} (g : zG fBy ft fw fCo st) (h : zT st lxa lxt lxp lxn lxl nx kd wh ap) (hf : pfa = fa) (hp : pfp = fp)
    (hn : fTo 2 = n) (n0 : ¬ n < 0) (n9 : n < 6) (hN : ∀ k : Nat, k < n.toNatClampNeg → fNm 2 k = f_na (6 + k)) :
    ∀ X, X = fp_beginNamed2 pfa pfp st lxa lxt lxp lxn lxl fBy fCo fTo fNm → ∀ V, V = fq_token ft fw st nx wh → ∀ Y, Y = fq_newName12 ft fw f_na n fa fp st V.1 V.2.1 V.2.2.1 V.2.2.2 → zRb2 st n fNm f_na X Y := by
  intro X hX V hV Y hY
  have e : fTo ((2 : Int32).toNatClampNeg) = n := hn
  rw [hX, fp_beginNamed2, e, if_pos n9]
  apply zLl; intro U hU
  have h2 := g.tok h U hU V hV
  rw [hY, fq_newName12, zite (zq23 h2.2.2.2.2.1 h2.2.2.2.2.2.1)]
  by_cases c : V.2.1 = 2
  · have hl := h2.2.2.2.2.2.2.1 c
    rw [if_pos c, if_pos c]
    apply zLx; intro r hr y hy
    obtain ⟨f1, f2⟩ := z_find2 (x := U.2.2.2.2) hn n0 (by lia) hN
    rw [hl] at f1 f2 hr
    rw [f1, ← hy] at hr
    rw [← hy] at f2
    rw [hr]
    rcases f2 with f2 | ⟨f2, f3⟩
    · rw [f2, if_pos rfl, if_pos (by decide)]
      apply zLx; intro U2 hU2 V2 hV2
      exact ⟨hf, hp, Or.inr ⟨rfl, rfl, rfl, ⟨_, by rw [hl], rfl⟩, g.tok h2 U2 hU2 V2 hV2⟩⟩
    · rw [if_neg (by lia), if_neg f2]
      exact ⟨rfl, h2.2.1, Or.inl ⟨rfl, rfl⟩⟩
  · rw [if_neg c, if_neg c]
    exact ⟨rfl, h2.2.1, Or.inl ⟨rfl, rfl⟩⟩
theorem z_full2 {fBy fCo fTo : Nat → Int32} {fNm : Nat → Nat → Int32} {st lxa lxt lxp lxn lxl pfa pfp : Int32} (hn : fTo 2 = 6) :
    fp_beginNamed2 pfa pfp st lxa lxt lxp lxn lxl fBy fCo fTo fNm = ((1 : Int32), (0 : Int32), (2 : Int32), lxp, lxa, lxt, lxp, lxn, lxl, fNm) := by
  have e : fTo ((2 : Int32).toNatClampNeg) = 6 := hn
  rw [fp_beginNamed2, e, if_neg (by decide)]
def zRb3 (st n : Int32) (fNm : Nat → Nat → Int32) (f_na : Nat → Int32) (X : Int32 × Int32 × Int32 × Int32 × Int32 × Int32 × Int32 × Int32 × Int32 × (Nat → Nat → Int32)) (Y : Int32 × (Nat → Int32) × Int32 × Int32 × Int32 × Int32 × Int32 × Int32) : Prop :=
  X.2.2.1 = Y.2.2.2.2.2.2.1 ∧ X.2.2.2.1 = Y.2.2.2.2.2.2.2 ∧ ((X.1 = 1 ∧ Y.1 = 0) ∨ (X.1 = 0 ∧ Y.1 = 1 ∧ X.2.1 = n ∧ (∃ x : Int32, X.2.2.2.2.2.2.2.2.2 = va_up fNm 3 (upd (fNm 3) n.toNatClampNeg x) ∧ Y.2.1 = upd f_na ((4 + n).toNatClampNeg) x) ∧ zT st X.2.2.2.2.1 X.2.2.2.2.2.1 X.2.2.2.2.2.2.1 X.2.2.2.2.2.2.2.1 X.2.2.2.2.2.2.2.2.1 Y.2.2.1 Y.2.2.2.1 Y.2.2.2.2.1 Y.2.2.2.2.2.1))
theorem z_begin3 {fBy ft fw fCo fTo f_na : Nat → Int32} {fNm : Nat → Nat → Int32} {st lxa lxt lxp lxn lxl nx kd wh ap pfa pfp fa fp n : Int32} (g : zG fBy ft fw fCo st) (h : zT st lxa lxt lxp lxn lxl nx kd wh ap) (hf : pfa = fa) (hp : pfp = fp)
    (hn : fTo 3 = n) (n0 : ¬ n < 0) (n9 : n < 4) (hN : ∀ k : Nat, k < n.toNatClampNeg → fNm 3 k = f_na (4 + k)) :
    ∀ X, X = fp_beginNamed3 pfa pfp st lxa lxt lxp lxn lxl fBy fCo fTo fNm → ∀ V, V = fq_token ft fw st nx wh → ∀ Y, Y = fq_newName8 ft fw f_na n fa fp st V.1 V.2.1 V.2.2.1 V.2.2.2 → zRb3 st n fNm f_na X Y := by
  intro X hX V hV Y hY
  have e : fTo ((3 : Int32).toNatClampNeg) = n := hn
  rw [hX, fp_beginNamed3, e, if_pos n9]
  apply zLl; intro U hU
  have h2 := g.tok h U hU V hV
  rw [hY, fq_newName8, zite (zq23 h2.2.2.2.2.1 h2.2.2.2.2.2.1)]
  by_cases c : V.2.1 = 2
  · have hl := h2.2.2.2.2.2.2.1 c
    rw [if_pos c, if_pos c]
    apply zLx; intro r hr y hy
    obtain ⟨f1, f2⟩ := z_find3 (x := U.2.2.2.2) hn n0 (by lia) hN
    rw [hl] at f1 f2 hr
    rw [f1, ← hy] at hr
    rw [← hy] at f2
    rw [hr]
    rcases f2 with f2 | ⟨f2, f3⟩
    · rw [f2, if_pos rfl, if_pos (by decide)]
      apply zLx; intro U2 hU2 V2 hV2
      exact ⟨hf, hp, Or.inr ⟨rfl, rfl, rfl, ⟨_, by rw [hl], rfl⟩, g.tok h2 U2 hU2 V2 hV2⟩⟩
    · rw [if_neg (by lia), if_neg f2]
      exact ⟨rfl, h2.2.1, Or.inl ⟨rfl, rfl⟩⟩
  · rw [if_neg c, if_neg c]
    exact ⟨rfl, h2.2.1, Or.inl ⟨rfl, rfl⟩⟩
theorem z_full3 {fBy fCo fTo : Nat → Int32} {fNm : Nat → Nat → Int32} {st lxa lxt lxp lxn lxl pfa pfp : Int32} (hn : fTo 3 = 4) :
    fp_beginNamed3 pfa pfp st lxa lxt lxp lxn lxl fBy fCo fTo fNm = ((1 : Int32), (0 : Int32), (2 : Int32), lxp, lxa, lxt, lxp, lxn, lxl, fNm) := by
  have e : fTo ((3 : Int32).toNatClampNeg) = 4 := hn
  rw [fp_beginNamed3, e, if_neg (by decide)]
def zRb4 (st n : Int32) (fNm : Nat → Nat → Int32) (f_na : Nat → Int32) (X : Int32 × Int32 × Int32 × Int32 × Int32 × Int32 × Int32 × Int32 × Int32 × (Nat → Nat → Int32)) (Y : Int32 × (Nat → Int32) × Int32 × Int32 × Int32 × Int32 × Int32 × Int32) : Prop :=
  X.2.2.1 = Y.2.2.2.2.2.2.1 ∧ X.2.2.2.1 = Y.2.2.2.2.2.2.2 ∧ ((X.1 = 1 ∧ Y.1 = 0) ∨ (X.1 = 0 ∧ Y.1 = 1 ∧ X.2.1 = n ∧ (∃ x : Int32, X.2.2.2.2.2.2.2.2.2 = va_up fNm 4 (upd (fNm 4) n.toNatClampNeg x) ∧ Y.2.1 = upd f_na ((6 + n).toNatClampNeg) x) ∧ zT st X.2.2.2.2.1 X.2.2.2.2.2.1 X.2.2.2.2.2.2.1 X.2.2.2.2.2.2.2.1 X.2.2.2.2.2.2.2.2.1 Y.2.2.1 Y.2.2.2.1 Y.2.2.2.2.1 Y.2.2.2.2.2.1))
theorem z_begin4 {fBy ft fw fCo fTo f_na : Nat → Int32} {fNm : Nat → Nat → Int32} {st lxa lxt lxp lxn lxl nx kd wh ap pfa pfp fa fp n : Int32} (g : zG fBy ft fw fCo st) (h : zT st lxa lxt lxp lxn lxl nx kd wh ap) (hf : pfa = fa) (hp : pfp = fp)
    (hn : fTo 4 = n) (n0 : ¬ n < 0) (n9 : n < 6) (hN : ∀ k : Nat, k < n.toNatClampNeg → fNm 4 k = f_na (6 + k)) :
    ∀ X, X = fp_beginNamed4 pfa pfp st lxa lxt lxp lxn lxl fBy fCo fTo fNm → ∀ V, V = fq_token ft fw st nx wh → ∀ Y, Y = fq_newName12 ft fw f_na n fa fp st V.1 V.2.1 V.2.2.1 V.2.2.2 → zRb4 st n fNm f_na X Y := by
  intro X hX V hV Y hY
  have e : fTo ((4 : Int32).toNatClampNeg) = n := hn
  rw [hX, fp_beginNamed4, e, if_pos n9]
  apply zLl; intro U hU
  have h2 := g.tok h U hU V hV
  rw [hY, fq_newName12, zite (zq23 h2.2.2.2.2.1 h2.2.2.2.2.2.1)]
  by_cases c : V.2.1 = 2
  · have hl := h2.2.2.2.2.2.2.1 c
    rw [if_pos c, if_pos c]
    apply zLx; intro r hr y hy
    obtain ⟨f1, f2⟩ := z_find4 (x := U.2.2.2.2) hn n0 (by lia) hN
    rw [hl] at f1 f2 hr
    rw [f1, ← hy] at hr
    rw [← hy] at f2
    rw [hr]
    rcases f2 with f2 | ⟨f2, f3⟩
    · rw [f2, if_pos rfl, if_pos (by decide)]
      apply zLx; intro U2 hU2 V2 hV2
      exact ⟨hf, hp, Or.inr ⟨rfl, rfl, rfl, ⟨_, by rw [hl], rfl⟩, g.tok h2 U2 hU2 V2 hV2⟩⟩
    · rw [if_neg (by lia), if_neg f2]
      exact ⟨rfl, h2.2.1, Or.inl ⟨rfl, rfl⟩⟩
  · rw [if_neg c, if_neg c]
    exact ⟨rfl, h2.2.1, Or.inl ⟨rfl, rfl⟩⟩
theorem z_full4 {fBy fCo fTo : Nat → Int32} {fNm : Nat → Nat → Int32} {st lxa lxt lxp lxn lxl pfa pfp : Int32} (hn : fTo 4 = 6) :
    fp_beginNamed4 pfa pfp st lxa lxt lxp lxn lxl fBy fCo fTo fNm = ((1 : Int32), (0 : Int32), (2 : Int32), lxp, lxa, lxt, lxp, lxn, lxl, fNm) := by
  have e : fTo ((4 : Int32).toNatClampNeg) = 6 := hn
  rw [fp_beginNamed4, e, if_neg (by decide)]
theorem z_known1 {fBy ft fw fCo fTo f_na : Nat → Int32} {fNm : Nat → Nat → Int32} {st lxa lxt lxp lxn lxl nx kd wh ap pfa pfp fa fp got n : Int32} (g : zG fBy ft fw fCo st) (h : zT st lxa lxt lxp lxn lxl nx kd wh ap) (hf : pfa = fa) (hp : pfp = fp)
    (hn : fTo 1 = n) (n0 : ¬ n < 0) (n9 : n ≤ 4) (hN : ∀ k : Nat, k < n.toNatClampNeg → fNm 1 k = f_na (4 + k)) :
    ∀ X, X = fp_known1 pfa pfp st lxa lxt lxp lxn lxl fBy fCo fTo fNm → ∀ Y, Y = fq_oldName8 ft fw f_na n fa fp st nx kd wh ap got → zRn st 0 (n - 1) X Y := by
  intro X hX Y hY
  rw [hX, hY, fp_known1, fq_oldName8, zite (zq23 h.2.2.2.2.1 h.2.2.2.2.2.1)]
  by_cases c : kd = 2
  · have hl := h.2.2.2.2.2.2.1 c
    rw [if_pos c, if_pos c]
    apply zLx; intro r hr y hy
    obtain ⟨f1, f2⟩ := z_find1 (x := lxl) hn n0 n9 hN
    rw [hl] at f1 f2 hr
    rw [f1, ← hy] at hr
    rw [← hy] at f2
    rw [hr]
    rcases f2 with f2 | ⟨f2, f3⟩
    · rw [f2, if_pos rfl, if_neg (by decide)]
      exact ⟨rfl, h.2.1, Or.inl ⟨rfl, rfl⟩⟩
    · rw [if_neg (by lia), if_pos (by lia)]
      apply zLx; intro U2 hU2 V2 hV2
      rw [hl] at hU2
      exact ⟨hf, hp, Or.inr ⟨rfl, rfl, rfl, f2, by lia, g.tok h U2 (by rw [hU2, hl]) V2 hV2⟩⟩
  · rw [if_neg c, if_neg c]
    exact ⟨rfl, h.2.1, Or.inl ⟨rfl, rfl⟩⟩
theorem z_known2 {fBy ft fw fCo fTo f_na : Nat → Int32} {fNm : Nat → Nat → Int32} {st lxa lxt lxp lxn lxl nx kd wh ap pfa pfp fa fp got n : Int32} (g : zG fBy ft fw fCo st) (h : zT st lxa lxt lxp lxn lxl nx kd wh ap) (hf : pfa = fa) (hp : pfp = fp)
    (hn : fTo 2 = n) (n0 : ¬ n < 0) (n9 : n ≤ 6) (hN : ∀ k : Nat, k < n.toNatClampNeg → fNm 2 k = f_na (6 + k)) :
    ∀ X, X = fp_known2 pfa pfp st lxa lxt lxp lxn lxl fBy fCo fTo fNm → ∀ Y, Y = fq_oldName12 ft fw f_na n fa fp st nx kd wh ap got → zRn st 0 (n - 1) X Y := by
  intro X hX Y hY
  rw [hX, hY, fp_known2, fq_oldName12, zite (zq23 h.2.2.2.2.1 h.2.2.2.2.2.1)]
  by_cases c : kd = 2
  · have hl := h.2.2.2.2.2.2.1 c
    rw [if_pos c, if_pos c]
    apply zLx; intro r hr y hy
    obtain ⟨f1, f2⟩ := z_find2 (x := lxl) hn n0 n9 hN
    rw [hl] at f1 f2 hr
    rw [f1, ← hy] at hr
    rw [← hy] at f2
    rw [hr]
    rcases f2 with f2 | ⟨f2, f3⟩
    · rw [f2, if_pos rfl, if_neg (by decide)]
      exact ⟨rfl, h.2.1, Or.inl ⟨rfl, rfl⟩⟩
    · rw [if_neg (by lia), if_pos (by lia)]
      apply zLx; intro U2 hU2 V2 hV2
      rw [hl] at hU2
      exact ⟨hf, hp, Or.inr ⟨rfl, rfl, rfl, f2, by lia, g.tok h U2 (by rw [hU2, hl]) V2 hV2⟩⟩
  · rw [if_neg c, if_neg c]
    exact ⟨rfl, h.2.1, Or.inl ⟨rfl, rfl⟩⟩
theorem z_known4 {fBy ft fw fCo fTo f_na : Nat → Int32} {fNm : Nat → Nat → Int32} {st lxa lxt lxp lxn lxl nx kd wh ap pfa pfp fa fp got n : Int32} (g : zG fBy ft fw fCo st) (h : zT st lxa lxt lxp lxn lxl nx kd wh ap) (hf : pfa = fa) (hp : pfp = fp)
    (hn : fTo 4 = n) (n0 : ¬ n < 0) (n9 : n ≤ 6) (hN : ∀ k : Nat, k < n.toNatClampNeg → fNm 4 k = f_na (6 + k)) :
    ∀ X, X = fp_known4 pfa pfp st lxa lxt lxp lxn lxl fBy fCo fTo fNm → ∀ Y, Y = fq_oldName12 ft fw f_na n fa fp st nx kd wh ap got → zRn st 0 (n - 1) X Y := by
  intro X hX Y hY
  rw [hX, hY, fp_known4, fq_oldName12, zite (zq23 h.2.2.2.2.1 h.2.2.2.2.2.1)]
  by_cases c : kd = 2
  · have hl := h.2.2.2.2.2.2.1 c
    rw [if_pos c, if_pos c]
    apply zLx; intro r hr y hy
    obtain ⟨f1, f2⟩ := z_find4 (x := lxl) hn n0 n9 hN
    rw [hl] at f1 f2 hr
    rw [f1, ← hy] at hr
    rw [← hy] at f2
    rw [hr]
    rcases f2 with f2 | ⟨f2, f3⟩
    · rw [f2, if_pos rfl, if_neg (by decide)]
      exact ⟨rfl, h.2.1, Or.inl ⟨rfl, rfl⟩⟩
    · rw [if_neg (by lia), if_pos (by lia)]
      apply zLx; intro U2 hU2 V2 hV2
      rw [hl] at hU2
      exact ⟨hf, hp, Or.inr ⟨rfl, rfl, rfl, f2, by lia, g.tok h U2 (by rw [hU2, hl]) V2 hV2⟩⟩
  · rw [if_neg c, if_neg c]
    exact ⟨rfl, h.2.1, Or.inl ⟨rfl, rfl⟩⟩
