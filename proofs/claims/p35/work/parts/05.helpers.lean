abbrev eA0 (q : Nat) (c : ClassId) (n : Nat) (f : Nat → Int32) : Nat × va_E := (q, .inl (c, n, .inl f))
abbrev eA1 (q : Nat) (c : ClassId) (n : Nat) (f : Nat → Int64) : Nat × va_E := (q, .inl (c, n, .inr (.inl f)))
abbrev eA4 (q : Nat) (c : ClassId) (n : Nat) (f : Nat → Option Nat) : Nat × va_E := (q, .inl (c, n, .inr (.inr (.inr (.inr f)))))
abbrev eO1a (q : Nat) (a0 : Int32) (a1 : Int32) (a2 : Int32) : Nat × va_E := (q, .inr (1, [.int a0, .int a1, .int a2]))
abbrev eO0a (q : Nat) (a0 : Nat) (a1 : Nat) (a2 : Nat) (a3 : Nat) (a4 : Nat) (a5 : Nat) (a6 : Nat) (a7 : Nat) (a8 : Nat) (a9 : Nat) (a10 : Nat) (a11 : Nat) : Nat × va_E := (q, .inr (0, [.ref a0, .ref a1, .ref a2, .ref a3, .ref a4, .ref a5, .ref a6, .ref a7, .ref a8, .ref a9, .ref a10, .ref a11]))
abbrev eO3a (q : Nat) (a0 : Nat) (a1 : Int32) (a2 : Nat) (a3 : Int32) (a4 : Int32) (a5 : Int32) (a6 : Int32) (a7 : Int32) (a8 : Int32) : Nat × va_E := (q, .inr (3, [.ref a0, .int a1, .ref a2, .int a3, .int a4, .int a5, .int a6, .int a7, .int a8]))
abbrev eO7a (q : Nat) (a0 : Nat) (a1 : Nat) (a2 : Int32) (a3 : Int32) (a4 : Int32) (a5 : Nat) (a6 : Nat) (a7 : Int32) (a8 : Int32) : Nat × va_E := (q, .inr (7, [.ref a0, .ref a1, .int a2, .int a3, .int a4, .ref a5, .ref a6, .int a7, .int a8]))
abbrev eO8a (q : Nat) (a0 : Nat) (a1 : Int32) (a2 : Nat) (a3 : Nat) (a4 : Int32) : Nat × va_E := (q, .inr (8, [.ref a0, .int a1, .ref a2, .ref a3, .int a4]))
abbrev eO9a (q : Nat) (a0 : Int32) (a1 : Int32) (a2 : Int32) (a3 : Int32) (a4 : Int32) (a5 : Int32) (a6 : Int32) : Nat × va_E := (q, .inr (9, [.int a0, .int a1, .int a2, .int a3, .int a4, .int a5, .int a6]))
abbrev eO6a (q : Nat) (a0 : Int32) (a1 : Nat) (a2 : Nat) (a3 : Nat) : Nat × va_E := (q, .inr (6, [.int a0, .ref a1, .ref a2, .ref a3]))
abbrev eO11a (q : Nat) (a0 : Nat) (a1 : Nat) (a2 : Nat) (a3 : Nat) (a4 : Nat) (a5 : Nat) (a6 : Int32) (a7 : Nat) (a8 : Nat) (a9 : Int32) (a10 : Nat) (a11 : Nat) (a12 : Nat) : Nat × va_E := (q, .inr (11, [.ref a0, .ref a1, .ref a2, .ref a3, .ref a4, .ref a5, .int a6, .ref a7, .ref a8, .int a9, .ref a10, .ref a11, .ref a12]))
abbrev eO10a (q : Nat) (a0 : Int32) (a1 : Int32) (a2 : Int32) (a3 : Int32) (a4 : Int32) : Nat × va_E := (q, .inr (10, [.int a0, .int a1, .int a2, .int a3, .int a4]))
abbrev eO5a (q : Nat) (a0 : Nat) (a1 : Int32) (a2 : Nat) (a3 : Nat) (a4 : Nat) (a5 : Nat) : Nat × va_E := (q, .inr (5, [.ref a0, .int a1, .ref a2, .ref a3, .ref a4, .ref a5]))
abbrev eO2a (q : Nat) (a0 : Int32) (a1 : Nat) (a2 : Nat) : Nat × va_E := (q, .inr (2, [.int a0, .ref a1, .ref a2]))
abbrev eO4a (q : Nat) (a1 : Int64) (a2 : Int64) (a3 : Int64) (a4 : Int64) : Nat × va_E := (q, .inr (4, [.null, .long a1, .long a2, .long a3, .long a4]))
abbrev eO7b (q : Nat) (a0 : Nat) (a2 : Int32) (a3 : Int32) (a4 : Int32) (a5 : Nat) (a6 : Nat) (a7 : Int32) (a8 : Int32) : Nat × va_E := (q, .inr (7, [.ref a0, .null, .int a2, .int a3, .int a4, .ref a5, .ref a6, .int a7, .int a8]))
abbrev eO4b (q : Nat) (a0 : Nat) (a1 : Int64) (a2 : Int64) (a3 : Int64) (a4 : Int64) : Nat × va_E := (q, .inr (4, [.ref a0, .long a1, .long a2, .long a3, .long a4]))
abbrev eO0b (q : Nat)  : Nat × va_E := (q, .inr (0, [.null, .null, .null, .null, .null, .null, .null, .null, .null, .null, .null, .null]))
abbrev eO2b (q : Nat) (a0 : Int32) : Nat × va_E := (q, .inr (2, [.int a0, .null, .null]))
abbrev eO6b (q : Nat) (a0 : Int32) : Nat × va_E := (q, .inr (6, [.int a0, .null, .null, .null]))
abbrev eO5b (q : Nat) (a1 : Int32) : Nat × va_E := (q, .inr (5, [.null, .int a1, .null, .null, .null, .null]))
abbrev eO7c (q : Nat) (a2 : Int32) (a3 : Int32) (a4 : Int32) (a7 : Int32) (a8 : Int32) : Nat × va_E := (q, .inr (7, [.null, .null, .int a2, .int a3, .int a4, .null, .null, .int a7, .int a8]))
abbrev eO11b (q : Nat) (a6 : Int32) (a9 : Int32) : Nat × va_E := (q, .inr (11, [.null, .null, .null, .null, .null, .null, .int a6, .null, .null, .int a9, .null, .null, .null]))
abbrev eO8b (q : Nat) (a1 : Int32) (a4 : Int32) : Nat × va_E := (q, .inr (8, [.null, .int a1, .null, .null, .int a4]))
abbrev eO3b (q : Nat) (a1 : Int32) (a3 : Int32) (a4 : Int32) (a5 : Int32) (a6 : Int32) (a7 : Int32) (a8 : Int32) : Nat × va_E := (q, .inr (3, [.null, .int a1, .null, .int a3, .int a4, .int a5, .int a6, .int a7, .int a8]))
abbrev eO0c (q : Nat) (a0 : Nat) : Nat × va_E := (q, .inr (0, [.ref a0, .null, .null, .null, .null, .null, .null, .null, .null, .null, .null, .null]))
section XG
variable {p : Program} {l : Launch} {e : Env} {R : Room} {s : State} {m : MethodId} {args : Array Value} {below : List Frame} {meth : Method} {c : Code} {H : Heap} {locs : List Loc} {cells slots : Nat} {Q : State → Prop}
variable {cc : ByteArray} {pc : Nat} {ls : Array Slot} {rest : List Value} {D : va_G} {cl : List vw_C} {A : Nat → Prop} {a : Nat} {tys : List (ClassId × FieldType)} {ws : va_W} {H0 : Heap}
theorem xg_iast (hexec : p.tables.exec = Jvm.exec) (hb : c.code = cc) (hK : va_K D cl tys s) (hP : va_P D cl ws H) (hD : va_D A ws) (hS : va_S A H0 H locs) (q0 t0 : Nat) {cA : ClassId} {n : Nat} {f : Nat → Int32} (ha : ws[q0]? = some (eA0 a cA n f)) (ht : tys[t0]? = some (cA, .int)) {i : Int32} {x : Int32} (hin : vp_in i n) (hdg : decode cc pc = .ok (.iastore, 1))
    (kk : ∀ (g : Nat → Int32) (H1 : Heap) (locs1 : List Loc), va_P D cl (ws.set q0 (eA0 a cA n g)) H1 → va_D A (ws.set q0 (eA0 a cA n g)) → va_S A H0 H1 locs1 → W p l e R s m args below meth c H1 locs1 cells slots Q (F0 m (pc + 1) ls rest)) : W p l e R s m args below meth c H locs cells slots Q (F0 m pc ls (.int x :: .int i :: .ref a :: rest)) :=
  va_iast hexec hb hK hP hD hS q0 t0 ha ht hin hdg (fun H1 locs1 => kk _ H1 locs1)
theorem xg_bast (hexec : p.tables.exec = Jvm.exec) (hb : c.code = cc) (hK : va_K D cl tys s) (hP : va_P D cl ws H) (hD : va_D A ws) (hS : va_S A H0 H locs) (q0 t0 : Nat) {cA : ClassId} {n : Nat} {f : Nat → Int32} (ha : ws[q0]? = some (eA0 a cA n f)) (ht : tys[t0]? = some (cA, .byte)) {i : Int32} {x : Int32} (hin : vp_in i n) (hdg : decode cc pc = .ok (.bastore, 1))
    (kk : ∀ (g : Nat → Int32) (H1 : Heap) (locs1 : List Loc), va_P D cl (ws.set q0 (eA0 a cA n g)) H1 → va_D A (ws.set q0 (eA0 a cA n g)) → va_S A H0 H1 locs1 → W p l e R s m args below meth c H1 locs1 cells slots Q (F0 m (pc + 1) ls rest)) : W p l e R s m args below meth c H locs cells slots Q (F0 m pc ls (.int x :: .int i :: .ref a :: rest)) :=
  va_bast hexec hb hK hP hD hS q0 t0 ha ht hin hdg (fun H1 locs1 => kk _ H1 locs1)
theorem xg_last (hexec : p.tables.exec = Jvm.exec) (hb : c.code = cc) (hK : va_K D cl tys s) (hP : va_P D cl ws H) (hD : va_D A ws) (hS : va_S A H0 H locs) (q0 t0 : Nat) {cA : ClassId} {n : Nat} {f : Nat → Int64} (ha : ws[q0]? = some (eA1 a cA n f)) (ht : tys[t0]? = some (cA, .long)) {i : Int32} {x : Int64} (hin : vp_in i n) (hdg : decode cc pc = .ok (.lastore, 1))
    (kk : ∀ (g : Nat → Int64) (H1 : Heap) (locs1 : List Loc), va_P D cl (ws.set q0 (eA1 a cA n g)) H1 → va_D A (ws.set q0 (eA1 a cA n g)) → va_S A H0 H1 locs1 → W p l e R s m args below meth c H1 locs1 cells slots Q (F0 m (pc + 1) ls rest)) : W p l e R s m args below meth c H locs cells slots Q (F0 m pc ls (.long x :: .int i :: .ref a :: rest)) :=
  va_last hexec hb hK hP hD hS q0 t0 ha ht hin hdg (fun H1 locs1 => kk _ H1 locs1)
theorem xg_copyi (hexec : p.tables.exec = Jvm.exec) (hb : c.code = cc) (hml : c.maxLocals = ls.size) {own : String} {index : Nat} (hown : s.vm.findClass own = some m.cls) (hlink : (Cond.methodLink own index arraycopyName).before args s = true) (hnat : (Cond.native arraycopyName).before args s = true) (hstat : (Cond.static arraycopyName).before args s = true) (hini : (Cond.initialized "java/lang/System").before args s = true)
    (hK : va_K D cl tys s) (hP : va_P D cl ws H) (hD : va_D A ws) (hS : va_S A H0 H locs) (q0 q1 t0 t1 : Nat) {a0 : Nat} {c0 c1 : ClassId} {n0 n1 : Nat} {f g : Nat → Int32} {ty : FieldType} (ha0 : ws[q0]? = some (eA0 a0 c0 n0 f)) (ha1 : ws[q1]? = some (eA0 a c1 n1 g)) (ht0 : tys[t0]? = some (c0, ty)) (ht1 : tys[t1]? = some (c1, ty)) (hprim : refKind ty = false)
    {sp dp n : Int32} (h1 : ¬ sp < 0) (h2 : ¬ dp < 0) (h3 : ¬ n < 0) (h4 : sp.toNatClampNeg + n.toNatClampNeg ≤ n0) (h5 : dp.toNatClampNeg + n.toNatClampNeg ≤ n1) (hfit : ∀ i, i < n.toNatClampNeg → fits ty (.int (f (sp.toNatClampNeg + i))) = true)
    (hframes : 1 ≤ R.frames) (hlocals : (rest.map fun v => v.category).sum + (nativeFrameWords "java/lang/System" "arraycopy" 5 + 11) ≤ R.locals) (hdg : decode cc pc = .ok (.invokestatic index, 3))
    (kk : ∀ (g2 : Nat → Int32) (H1 : Heap) (locs1 : List Loc), va_P D cl (ws.set q1 (eA0 a c1 n1 g2)) H1 → va_D A (ws.set q1 (eA0 a c1 n1 g2)) → va_S A H0 H1 locs1 → W p l e R s m args below meth c H1 locs1 cells slots Q (F0 m (pc + 3) ls rest)) : W p l e R s m args below meth c H locs cells slots Q (F0 m pc ls (.int n :: .int dp :: .ref a :: .int sp :: .ref a0 :: rest)) :=
  va_copyi hexec hb hml hown hlink hnat hstat hini hK hP hD hS q0 q1 t0 t1 ha0 ha1 ht0 ht1 hprim h1 h2 h3 h4 h5 hfit hframes hlocals hdg (fun H1 locs1 => kk _ H1 locs1)
end XG
theorem xg_inr {x N : Int32} {n : Nat} (hN : N.toInt = (n : Int)) (h1 : ¬ x < 0) (h2 : ¬ N ≤ x) : vp_in x n := by
  rw [vp_in_iff]
  rw [Int32.lt_iff_toInt_lt] at h1
  rw [Int32.le_iff_toInt_le] at h2
  have h0 : (0 : Int32).toInt = 0 := rfl
  omega
theorem xg_nlt {x : Int32} (h : ¬ x < 0) : 0 ≤ x := Int32.not_lt.mp h
theorem xg_ne {x y : Int32} (h : ¬ x = y) : x.toInt ≠ y.toInt := fun e => h (Int32.toInt_inj.mp e)
def xg_cnt (c : Int64) : Int32 := if 0 ≤ c ∧ c ≤ 1000000000000 then 1 else 0
theorem xg_cnt0 {c : Int64} (h : c < 0) : xg_cnt c = 0 := if_neg (fun q => absurd h (Int64.not_lt.mpr q.1))
theorem xg_cnt1 {c : Int64} (h : 1000000000000 < c) : xg_cnt c = 0 := if_neg (fun q => absurd h (Int64.not_lt.mpr q.2))
theorem xg_cnt2 {c : Int64} (h : ¬ c < 0) (h2 : ¬ 1000000000000 < c) : xg_cnt c = 1 := if_pos ⟨Int64.not_lt.mp h, Int64.not_lt.mp h2⟩
theorem xg_cnt01 (c : Int64) : xg_cnt c = 0 ∨ xg_cnt c = 1 := by
  unfold xg_cnt
  split
  · exact Or.inr rfl
  · exact Or.inl rfl
def xr_week (c : Int64) : Int32 := (c + 0 - (c + 0) / 7 * 7).toInt32
def xr_moon (c : Int64) : Int32 := ((c * 2 + 0 - (c * 2 + 0) / 59 * 59) * 8 / 59).toInt32
def xr_season (c : Int64) : Int32 := ((c * 4 - c * 4 / 1461 * 1461) * 4 / 1461).toInt32
def xr_round (c : Int64) (w : Int32) : Int32 := if xg_cnt c = 0 then -1 else if w = 0 then xr_week c else if w = 1 then xr_moon c else if w = 2 then xr_season c else -1
def xr_size (w : Int32) : Int32 := if w = 0 then 0 else if w = 1 then 0 else if w = 2 then 0 else if w = 3 then 0 else if w = 4 then 0 else if w = 5 then 0 else if w = 6 then 7 else if w = 7 then 0 else if w = 8 then 0 else -1
def xr_fault (w : Int32) : Int32 := if w = 0 then 0 else -1
def xn_P (d w m : Int32) (c : Int64) : Prop := d < 0 ∧ (w < 0 ∨ xr_week c = w) ∧ (m < 0 ∨ xr_moon c = m)
theorem xn_dec (d w m : Int32) (c : Int64) : xn_P d w m c ∨ ¬ xn_P d w m c := Classical.em _
noncomputable def xn_go (d w m : Int32) : Nat → Int64 → Int64
  | 0, _ => -2
  | n + 1, c => if 1000000000000 < c then -2 else (@ite _ (xn_P d w m c) (Classical.propDecidable _) c (xn_go d w m n (c + 1)))
theorem xn_0 (d w m : Int32) (c : Int64) : xn_go d w m 0 c = -2 := rfl
theorem xn_last {d w m : Int32} {n : Nat} {c : Int64} (h : 1000000000000 < c) : xn_go d w m (n + 1) c = -2 := by rw [xn_go, if_pos h]
theorem xn_met {d w m : Int32} {n : Nat} {c : Int64} (h : ¬ 1000000000000 < c) (h2 : xn_P d w m c) : xn_go d w m (n + 1) c = c := by rw [xn_go, if_neg h, if_pos h2]
theorem xn_on {d w m : Int32} {n : Nat} {c : Int64} (h : ¬ 1000000000000 < c) (h2 : ¬ xn_P d w m c) : xn_go d w m (n + 1) c = xn_go d w m n (c + 1) := by rw [xn_go, if_neg h, if_neg h2]
noncomputable def xn_is (d w m : Int32) (c : Int64) : Int32 := @ite _ (xn_P d w m c) (Classical.propDecidable _) 1 0
theorem xn_is1 {d w m : Int32} {c : Int64} (h : xn_P d w m c) : xn_is d w m c = 1 := if_pos h
theorem xn_is0 {d w m : Int32} {c : Int64} (h : ¬ xn_P d w m c) : xn_is d w m c = 0 := if_neg h
theorem xn_isE {d w m : Int32} {c : Int64} (h : xn_is d w m c = 0) : ¬ xn_P d w m c := fun q => by rw [xn_is1 q] at h; exact absurd h (by decide)
theorem xn_isN {d w m : Int32} {c : Int64} (h : ¬ xn_is d w m c = 0) : xn_P d w m c := Classical.byContradiction (fun q => h (xn_is0 q))
theorem xn_d0 {d : Int32} (h : 0 < d) : ¬ lg_cmp 0 d.toInt64 = 0 := fun q => by
  have q1 := (lg_cmp_eq _ _).mp q
  rw [← Int64.toInt_inj] at q1
  rw [Int32.lt_iff_toInt_lt] at h
  have h0 : (0 : Int32).toInt = 0 := rfl
  have h1 : (0 : Int64).toInt = 0 := rfl
  rw [Int32.toInt_toInt64] at q1
  omega
theorem xn_pos {d : Int32} (h : 0 < d) : ¬ d < 0 := Int32.not_lt.mpr (Int32.le_of_lt h)
def xn_ok (d w m : Int32) : Prop := (d = -1 ∨ 0 < d) ∧ (w = -1 ∨ 0 ≤ w) ∧ (m = -1 ∨ 0 ≤ m)
theorem xn_m1 : (-1 : Int32) < 0 := by decide
def xr_ask (d w m : Int32) : Prop := (d = -1 ∨ 1 ≤ d ∧ d ≤ 99999) ∧ (w = -1 ∨ 0 ≤ w ∧ w < 7) ∧ (m = -1 ∨ 0 ≤ m ∧ m ≤ 7)
noncomputable def xr_next (c : Int64) (d w m : Int32) : Int64 := @ite _ (xg_cnt c = 0) (Classical.propDecidable _) (-1) (@ite _ (xr_ask d w m) (Classical.propDecidable _) (xn_go d w m 20000 c) (-1))
theorem xr_next0 {c : Int64} {d w m : Int32} (h : xg_cnt c = 0) : xr_next c d w m = -1 := by rw [xr_next, if_pos h]
theorem xr_next1 {c : Int64} {d w m : Int32} (h : ¬ xr_ask d w m) : xr_next c d w m = -1 := by
  rw [xr_next, if_neg h]
  split <;> rfl
theorem xr_next2 {c : Int64} {d w m : Int32} (h0 : ¬ xg_cnt c = 0) (h : xr_ask d w m) : xr_next c d w m = xn_go d w m 20000 c := by rw [xr_next, if_neg h0, if_pos h]
theorem xn_1 {d : Int32} (h : 1 ≤ d) : 0 < d := by
  rw [Int32.le_iff_toInt_le] at h
  rw [Int32.lt_iff_toInt_lt]
  have h0 : (0 : Int32).toInt = 0 := rfl
  have h1 : (1 : Int32).toInt = 1 := rfl
  omega
theorem xr_ask_ok {d w m : Int32} (h : xr_ask d w m) : xn_ok d w m := ⟨h.1.imp_right (fun q => xn_1 q.1), h.2.1.imp_right (fun q => q.1), h.2.2.imp_right (fun q => q.1)⟩
