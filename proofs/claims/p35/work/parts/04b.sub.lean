theorem zfm {ws ws' : va_W} {is : List Nat} (hs : is.map (fun i => ws[i]?) = ws'.map some) : is.filterMap (fun i => ws[i]?) = ws' := by
  induction is generalizing ws' with
  | nil =>
    cases ws' with
    | nil => rfl
    | cons a r => cases hs
  | cons i r ih =>
    cases ws' with
    | nil => cases hs
    | cons a t =>
      injection hs with h1 h2
      rw [List.filterMap_cons_some h1, ih h2]
theorem zsub2 {A : Nat → Prop} {D : va_G} {cl : List vw_C} {ws ws' : va_W} {H : Heap} (hP : va_P D cl ws H) (hD : va_D A ws) (is : List Nat) (hn : va_nd is = true) (hs : is.map (fun i => ws[i]?) = ws'.map some) : va_P D cl ws' H ∧ va_D A ws' := ⟨hP.sub is (zfm hs), hD.sub is hn hs⟩
theorem zre {A : Nat → Prop} {D : va_G} {cl : List vw_C} {ws : va_W} {H : Heap} (w : va_W) (hP : va_P D cl ws H) (hD : va_D A ws) (e : ws = w) : va_P D cl w H ∧ va_D A w := by
  subst e
  exact ⟨hP, hD⟩
theorem zsub3 {A : Nat → Prop} {D : va_G} {cl : List vw_C} {ws ws' : va_W} {H0 H : Heap} {locs : List Loc} (hP : va_P D cl ws H) (hD : va_D A ws) (hS : va_S A H0 H locs) (hA : ∀ q, H0.size ≤ q → A q) (is : List Nat) (hn : va_nd is = true) (hs : is.map (fun i => ws[i]?) = ws'.map some) : va_P D cl ws' H ∧ va_D A ws' ∧ (∀ q, va_A ws' H.size q → A q) ∧ is.map (fun i => ws[i]?) = ws'.map some := ⟨hP.sub is (zfm hs), hD.sub is hn hs, va_free hD hS hA is hs, hs⟩
