def xL {α β : Type} (v : α) (f : α → β) : β := f v
theorem xL_eq {α β : Type} (v : α) (f : α → β) : xL v f = f v := rfl
theorem xi_s {i b : Int32} (h : i < b) : (i + 1).toInt = i.toInt + 1 := by
  rw [Int32.lt_iff_toInt_lt] at h
  have := Int32.toInt_lt b
  have := Int32.le_toInt i
  have e1 : (1 : Int32).toInt = 1 := rfl
  have q1 : (i.toInt + 1).bmod (2 ^ 32) = i.toInt + 1 := Int.bmod_eq_of_le (by omega) (by omega)
  rw [Int32.toInt_add, e1, q1]
theorem xi_s' {i b : Int32} (h : ¬ b ≤ i) : (i + 1).toInt = i.toInt + 1 := xi_s (Int32.not_le.mp h)
theorem xi_z {a b : Int32} (h : b.toInt ≤ a.toInt + ((0 : Nat) : Int)) : b ≤ a := by
  rw [Int32.le_iff_toInt_le]
  omega
theorem xi_z' {a b : Int32} (h : b.toInt ≤ a.toInt + ((0 : Nat) : Int)) : ¬ a < b := Int32.not_lt.mpr (xi_z h)
theorem xi_le {a b : Int32} (h : a ≤ b) : a.toInt ≤ b.toInt := Int32.le_iff_toInt_le.mp h
theorem xg_nz64 {x : Int32} (h : ¬ x = 0) : ¬ x.toInt64 = 0 := fun e => h (by
  rw [← Int64.toInt_inj, Int32.toInt_toInt64] at e
  exact Int32.toInt_inj.mp e)
theorem xg_nz64n {x : Int32} (h : ¬ x = 0) : ¬ -x.toInt64 = 0 := fun e => xg_nz64 h (by
  generalize x.toInt64 = y at e ⊢
  lia)
section XQ
variable {p : Program} {l : Launch} {e : Env} {R : Room} {s : State} {m : MethodId} {args : Array Value} {below : List Frame} {meth : Method} {c : Code} {H : Heap} {locs : List Loc} {cells slots : Nat} {Q : State → Prop} {cc : ByteArray} {pc : Nat} {ls : Array Slot} {rest : List Value} {D : va_G} {cl : List vw_C} {a : Nat} {tys : List (ClassId × FieldType)} {ws : va_W}
theorem xg_aldq (hexec : p.tables.exec = Jvm.exec) (hb : c.code = cc) (hK : va_K D cl tys s) (hP : va_P D cl ws H) (q0 t0 : Nat) {cA : ClassId} {ty : FieldType} {n : Nat} {f : Nat → Option Nat} (ha : ws[q0]? = some (a, .inl (cA, n, .inr (.inr (.inr (.inr f)))))) (ht : tys[t0]? = some (cA, ty)) (hr : ty.isReference = true) {i : Int32} (hin : vp_in i n) (hdg : decode cc pc = .ok (.aaload, 1))
    (kk : W p l e R s m args below meth c H locs cells slots Q (F0 m (pc + 1) ls (va_rf (f i.toNatClampNeg) :: rest))) : W p l e R s m args below meth c H locs cells slots Q (F0 m pc ls (.int i :: .ref a :: rest)) := by
  have hlt : i.toNatClampNeg < n := Nat.not_le.mp fun q => hin (Or.inr q)
  exact W.aald (v := va_rf (f i.toNatClampNeg)) (ty := ty) hexec hb (hP q0 _ ha) ((hK.2 t0 _ ht).1 n (fun j => va_rf (f j))) hr (fun q => by cases q) (by show ¬ (i < 0 ∨ (arrV _ _ _).slots.size ≤ _); rw [arrV_size]; exact hin) (by show (arrV _ _ _).slots[_]? = _; rw [arrV_read _ _ hlt]) rfl rfl hdg kk
theorem xb_P1 (hP : va_P D cl ws H) {q : Nat} {x : Nat × va_E} (h : ws[q]? = some x) : va_P D cl (ws ++ [x]) H := by
  intro k y hy
  rw [List.getElem?_append] at hy
  split at hy
  · exact hP k y hy
  · have : k - ws.length = 0 := by
      rcases Nat.eq_zero_or_pos (k - ws.length) with h0 | h0
      · exact h0
      · rw [List.getElem?_eq_none (by simp; omega)] at hy
        cases hy
    rw [this] at hy
    cases hy
    exact hP q x h
theorem xb_P4 (hP : va_P D cl ws H) (f : Nat → Nat × va_E) (q : Nat) (h0 : ws[q]? = some (f 0)) (h1 : ws[q + 1]? = some (f 1)) (h2 : ws[q + 2]? = some (f 2)) (h3 : ws[q + 3]? = some (f 3)) {i : Int32} (hi : vp_in i 4) : va_P D cl (ws ++ [f i.toNatClampNeg]) H := by
  have hk : i.toNatClampNeg < 4 := Nat.not_le.mp fun q => hi (Or.inr q)
  generalize i.toNatClampNeg = k at hk ⊢
  rcases (show k = 0 ∨ k = 1 ∨ k = 2 ∨ k = 3 by omega) with rfl | rfl | rfl | rfl
  · exact xb_P1 hP h0
  · exact xb_P1 hP h1
  · exact xb_P1 hP h2
  · exact xb_P1 hP h3
theorem xb_PN (hP : va_P D cl ws H) (f : Nat → Nat × va_E) (q N : Nat) (h : ∀ j, j < N → ws[q + j]? = some (f j)) {i : Int32} (hi : vp_in i N) : va_P D cl (ws ++ [f i.toNatClampNeg]) H := by
  have hk : i.toNatClampNeg < N := Nat.not_le.mp fun q => hi (Or.inr q)
  exact xb_P1 hP (h _ hk)
end XQ
theorem xi_nn {a : Int32} (h : ¬ a < 0) : 0 ≤ a.toInt := xi_le (Int32.not_lt.mp h)
