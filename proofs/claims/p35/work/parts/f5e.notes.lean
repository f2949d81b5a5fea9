theorem z_add {fNs fNf fNz : Nat → Int32} {n w a c : Int32} (n0 : ¬ n < 0) (n9 : n < 12) (w0 : ¬ w < 0) (w8 : w < 8) : fn_add fNs fNf fNz n w a c = (upd fNs n.toNatClampNeg ((fNs n.toNatClampNeg) ||| (1 <<< (w &&& 31))), upd fNf (8 * n.toNatClampNeg + w.toNatClampNeg) a, upd fNz (8 * n.toNatClampNeg + w.toNatClampNeg) c) := by
  have e : fn_slotOf n w = n * 8 + w := by rw [fn_slotOf, if_neg n0, if_neg (by lia), if_neg w0, if_neg (by lia)]
  have i : (n * 8 + w).toNatClampNeg = 8 * n.toNatClampNeg + w.toNatClampNeg := by
    rw [Int32.mul_comm n 8]; exact xl_mj 8 (by decide) (by decide) n0 (by lia) w0 (by lia)
  rw [fn_add, e, if_neg (by lia), i]
theorem zi11 {n : Int32} (n0 : ¬ n < 0) (n9 : n ≤ 6) : (132 + (11 * n)).toNatClampNeg = 132 + 11 * n.toNatClampNeg := by
  rw [zia (by decide) (by decide) (by lia) (by lia), xl_m0 11 (by decide) (by decide) n0 (by lia)]; rfl
/-- what a saying lays into the row of the reference -/
def zYn (w : Int32) (B : Nat) (f : Nat → Int32) (a c : Int32) : Nat → Int32 := if w = 0 then upd (upd f (B + 1) a) (B + 2) c else if w = 7 then upd (upd f (B + 9) a) (B + 10) c else upd f (B + 2 + w.toNatClampNeg) a
def zRy (st n w : Int32) (fNs fNf fNz nh : Nat → Int32) (X : Int32 × Int32 × Int32 × Int32 × Int32 × Int32 × Int32 × Int32 × (Nat → Int32) × (Nat → Int32) × (Nat → Int32)) (Y : Int32 × (Nat → Int32) × Int32 × Int32 × Int32 × Int32 × Int32 × Int32 × Int32) : Prop :=
  X.2.1 = Y.2.2.1 ∧ X.2.2.1 = Y.2.2.2.1 ∧ ((X.1 = 1 ∧ Y.1 = 0) ∨ (X.1 = 0 ∧ Y.1 = 1 ∧ zT st X.2.2.2.1 X.2.2.2.2.1 X.2.2.2.2.2.1 X.2.2.2.2.2.2.1 X.2.2.2.2.2.2.2.1 Y.2.2.2.2.1 Y.2.2.2.2.2.1 Y.2.2.2.2.2.2.1 Y.2.2.2.2.2.2.2.1 ∧ ∃ a c : Int32, X.2.2.2.2.2.2.2.2.1 = upd fNs n.toNatClampNeg ((fNs n.toNatClampNeg) ||| (1 <<< (w &&& 31))) ∧ X.2.2.2.2.2.2.2.2.2.1 = upd fNf (8 * n.toNatClampNeg + w.toNatClampNeg) a ∧ X.2.2.2.2.2.2.2.2.2.2 = upd fNz (8 * n.toNatClampNeg + w.toNatClampNeg) c ∧ Y.2.1 = zYn w (132 + 11 * n.toNatClampNeg) nh a c ∧ (¬ w = 0 → ¬ w = 7 → c = 0) ∧ zBw w a c))
theorem z_say0 {fBy ft fw fCo fTo : Nat → Int32} {fNm : Nat → Nat → Int32} {st lxa lxt lxp lxn lxl nx kd wh ap pfa pfp fa fp got : Int32} (g : zG fBy ft fw fCo st) (h : zT st lxa lxt lxp lxn lxl nx kd wh ap) (q1 : pfa = fa) (q2 : pfp = fp) {fna pna nna fNs fNf fNz nh : Nat → Int32} {n nf np : Int32} (hf : fTo 1 = nf) (f0 : ¬ nf < 0) (f4 : nf ≤ 4) (hF : zNA (fNm 1) fna 4 nf) (hp : fTo 2 = np) (p0 : ¬ np < 0) (p6 : np ≤ 6) (hP : zNA (fNm 2) pna 6 np) (hn : fTo 4 = n) (n0 : ¬ n < 0) (n9 : n < 6) (hN : zNA (fNm 4) nna 6 n) :
    ∀ X, X = fp_readSaying pfa pfp st lxa lxt lxp lxn lxl fBy fCo fTo fNm fNs fNf fNz n 0 → ∀ Y, Y = fq_saysRead ft fw fna pna nna nh (132 + (11 * n)) 0 fa fp st nx kd wh ap got nf np n → zRy st n 0 fNs fNf fNz nh X Y := by
  intro X hX Y hY
  have ib := zi11 n0 (by lia)
  have ii : ∀ j : Int32, ¬ j < 0 → j ≤ 12 → ((132 + (11 * n)) + j).toNatClampNeg = 132 + 11 * n.toNatClampNeg + j.toNatClampNeg := fun j j0 j9 => by rw [xb_ad (by lia) (by lia) j0 j9, ib]
  rw [hX, hY, fp_readSaying, fq_saysRead]
  rw [if_neg (by decide), if_neg (by decide), if_neg (by decide), show xk_least ((0 : Int32).toNatClampNeg) = 1 from rfl, show xk_mosts ((0 : Int32).toNatClampNeg) = 9999 from rfl]
  rw [if_pos rfl]
  apply zLx; intro X1 hX1 Y1 hY1
  obtain ⟨q1, q2, q3⟩ := z_number g h q1 q2 (by decide) X1 hX1 Y1 hY1
  rcases q3 with ⟨r1, r2⟩ | ⟨r1, r2, a1, a2, a3, h1⟩
  · rw [if_pos r1, if_pos r2]; exact ⟨q1, q2, Or.inl ⟨rfl, rfl⟩⟩
  rw [if_neg (z10 r1), if_neg (z01 r2)]
  rw [if_pos rfl, ← a1]
  apply zLx; intro X2 hX2 Y2 hY2
  obtain ⟨q1, q2, q3⟩ := z_number g h1 q1 q2 (by decide) X2 hX2 Y2 hY2
  rcases q3 with ⟨r1, r2⟩ | ⟨r1, r2, b1, b2, b3, h2⟩
  · rw [if_pos r1, if_pos r2]; exact ⟨q1, q2, Or.inl ⟨rfl, rfl⟩⟩
  rw [if_neg (z10 r1), if_neg (z01 r2)]
  rw [z_add n0 (by lia) (by decide) (by decide), xL_eq]
  refine ⟨q1, q2, Or.inr ⟨rfl, rfl, h2, _, _, rfl, rfl, rfl, ?_, fun z => absurd rfl z, ⟨by lia, fun _ => ⟨by lia, by lia, by lia⟩, fun z => absurd z (by decide), fun z => absurd z (by decide)⟩⟩⟩
  show upd (upd nh _ _) _ _ = _
  rw [ii 1 (by decide) (by decide), ii 2 (by decide) (by decide), ← b1, zYn, if_pos rfl]
  rfl
theorem z_say1 {fBy ft fw fCo fTo : Nat → Int32} {fNm : Nat → Nat → Int32} {st lxa lxt lxp lxn lxl nx kd wh ap pfa pfp fa fp got : Int32} (g : zG fBy ft fw fCo st) (h : zT st lxa lxt lxp lxn lxl nx kd wh ap) (q1 : pfa = fa) (q2 : pfp = fp) {fna pna nna fNs fNf fNz nh : Nat → Int32} {n nf np : Int32} (hf : fTo 1 = nf) (f0 : ¬ nf < 0) (f4 : nf ≤ 4) (hF : zNA (fNm 1) fna 4 nf) (hp : fTo 2 = np) (p0 : ¬ np < 0) (p6 : np ≤ 6) (hP : zNA (fNm 2) pna 6 np) (hn : fTo 4 = n) (n0 : ¬ n < 0) (n9 : n < 6) (hN : zNA (fNm 4) nna 6 n) :
    ∀ X, X = fp_readSaying pfa pfp st lxa lxt lxp lxn lxl fBy fCo fTo fNm fNs fNf fNz n 1 → ∀ Y, Y = fq_saysRead ft fw fna pna nna nh (132 + (11 * n)) 1 fa fp st nx kd wh ap got nf np n → zRy st n 1 fNs fNf fNz nh X Y := by
  intro X hX Y hY
  have ib := zi11 n0 (by lia)
  have ii : ∀ j : Int32, ¬ j < 0 → j ≤ 12 → ((132 + (11 * n)) + j).toNatClampNeg = 132 + 11 * n.toNatClampNeg + j.toNatClampNeg := fun j j0 j9 => by rw [xb_ad (by lia) (by lia) j0 j9, ib]
  rw [hX, hY, fp_readSaying, fq_saysRead]
  rw [if_neg (by decide), if_neg (by decide), if_neg (by decide), show xk_least ((1 : Int32).toNatClampNeg) = 1 from rfl, show xk_mosts ((1 : Int32).toNatClampNeg) = 99999 from rfl]
  rw [if_neg (show ¬ (1 : Int32) = 0 by decide)]
  apply zLr; intro R hR; apply zLl; intro X1 hX1
  rw [fq_saysRead_j, if_pos rfl, xL_eq] at hR
  generalize hY1 : fq_number ft fw (1 : Int32) (99999 : Int32) fa fp st nx kd wh ap got = Y1 at hR
  subst hR; dsimp only
  obtain ⟨q1, q2, q3⟩ := z_number g h q1 q2 (by decide) X1 hX1 Y1 hY1.symm
  rcases q3 with ⟨r1, r2⟩ | ⟨r1, r2, a1, a2, a3, h1⟩
  · rw [if_pos r1, if_pos r2]; exact ⟨q1, q2, Or.inl ⟨rfl, rfl⟩⟩
  rw [if_neg (z10 r1), if_neg (z01 r2), if_neg (show ¬ (1 : Int32) = 0 by decide), if_neg (show ¬ (7 : Int32) ≤ 1 by decide)]
  rw [z_add n0 (by lia) (by decide) (by decide), xL_eq]
  refine ⟨q1, q2, Or.inr ⟨rfl, rfl, h1, _, 0, rfl, rfl, rfl, ?_, fun _ _ => rfl, ⟨by lia, fun z => absurd z (by decide), fun _ => by lia, fun z => absurd z (by decide)⟩⟩⟩
  show upd nh _ _ = _
  rw [show (132 + (11 * n)) + 2 + 1 = (132 + (11 * n)) + 3 from by lia, ii 3 (by decide) (by decide), ← a1, zYn, if_neg (by decide), if_neg (by decide)]
  rfl
theorem z_say2 {fBy ft fw fCo fTo : Nat → Int32} {fNm : Nat → Nat → Int32} {st lxa lxt lxp lxn lxl nx kd wh ap pfa pfp fa fp got : Int32} (g : zG fBy ft fw fCo st) (h : zT st lxa lxt lxp lxn lxl nx kd wh ap) (q1 : pfa = fa) (q2 : pfp = fp) {fna pna nna fNs fNf fNz nh : Nat → Int32} {n nf np : Int32} (hf : fTo 1 = nf) (f0 : ¬ nf < 0) (f4 : nf ≤ 4) (hF : zNA (fNm 1) fna 4 nf) (hp : fTo 2 = np) (p0 : ¬ np < 0) (p6 : np ≤ 6) (hP : zNA (fNm 2) pna 6 np) (hn : fTo 4 = n) (n0 : ¬ n < 0) (n9 : n < 6) (hN : zNA (fNm 4) nna 6 n) :
    ∀ X, X = fp_readSaying pfa pfp st lxa lxt lxp lxn lxl fBy fCo fTo fNm fNs fNf fNz n 2 → ∀ Y, Y = fq_saysRead ft fw fna pna nna nh (132 + (11 * n)) 2 fa fp st nx kd wh ap got nf np n → zRy st n 2 fNs fNf fNz nh X Y := by
  intro X hX Y hY
  have ib := zi11 n0 (by lia)
  have ii : ∀ j : Int32, ¬ j < 0 → j ≤ 12 → ((132 + (11 * n)) + j).toNatClampNeg = 132 + 11 * n.toNatClampNeg + j.toNatClampNeg := fun j j0 j9 => by rw [xb_ad (by lia) (by lia) j0 j9, ib]
  rw [hX, hY, fp_readSaying, fq_saysRead]
  rw [if_neg (by decide), if_neg (by decide), if_neg (by decide), show xk_least ((2 : Int32).toNatClampNeg) = 0 from rfl, show xk_mosts ((2 : Int32).toNatClampNeg) = 99999 from rfl]
  rw [if_neg (show ¬ (2 : Int32) = 0 by decide)]
  apply zLr; intro R hR; apply zLl; intro X1 hX1
  rw [fq_saysRead_j, if_neg (by decide), if_pos rfl, xL_eq] at hR
  generalize hY1 : fq_number ft fw (0 : Int32) (99999 : Int32) fa fp st nx kd wh ap got = Y1 at hR
  subst hR; dsimp only
  obtain ⟨q1, q2, q3⟩ := z_number g h q1 q2 (by decide) X1 hX1 Y1 hY1.symm
  rcases q3 with ⟨r1, r2⟩ | ⟨r1, r2, a1, a2, a3, h1⟩
  · rw [if_pos r1, if_pos r2]; exact ⟨q1, q2, Or.inl ⟨rfl, rfl⟩⟩
  rw [if_neg (z10 r1), if_neg (z01 r2), if_neg (show ¬ (2 : Int32) = 0 by decide), if_neg (show ¬ (7 : Int32) ≤ 2 by decide)]
  rw [z_add n0 (by lia) (by decide) (by decide), xL_eq]
  refine ⟨q1, q2, Or.inr ⟨rfl, rfl, h1, _, 0, rfl, rfl, rfl, ?_, fun _ _ => rfl, ⟨by lia, fun z => absurd z (by decide), fun z => absurd z (by decide), fun z => absurd z (by decide)⟩⟩⟩
  show upd nh _ _ = _
  rw [show (132 + (11 * n)) + 2 + 2 = (132 + (11 * n)) + 4 from by lia, ii 4 (by decide) (by decide), ← a1, zYn, if_neg (by decide), if_neg (by decide)]
  rfl
theorem z_say3 {fBy ft fw fCo fTo : Nat → Int32} {fNm : Nat → Nat → Int32} {st lxa lxt lxp lxn lxl nx kd wh ap pfa pfp fa fp got : Int32} (g : zG fBy ft fw fCo st) (h : zT st lxa lxt lxp lxn lxl nx kd wh ap) (q1 : pfa = fa) (q2 : pfp = fp) {fna pna nna fNs fNf fNz nh : Nat → Int32} {n nf np : Int32} (hf : fTo 1 = nf) (f0 : ¬ nf < 0) (f4 : nf ≤ 4) (hF : zNA (fNm 1) fna 4 nf) (hp : fTo 2 = np) (p0 : ¬ np < 0) (p6 : np ≤ 6) (hP : zNA (fNm 2) pna 6 np) (hn : fTo 4 = n) (n0 : ¬ n < 0) (n9 : n < 6) (hN : zNA (fNm 4) nna 6 n) :
    ∀ X, X = fp_readSaying pfa pfp st lxa lxt lxp lxn lxl fBy fCo fTo fNm fNs fNf fNz n 3 → ∀ Y, Y = fq_saysRead ft fw fna pna nna nh (132 + (11 * n)) 3 fa fp st nx kd wh ap got nf np n → zRy st n 3 fNs fNf fNz nh X Y := by
  intro X hX Y hY
  have ib := zi11 n0 (by lia)
  have ii : ∀ j : Int32, ¬ j < 0 → j ≤ 12 → ((132 + (11 * n)) + j).toNatClampNeg = 132 + 11 * n.toNatClampNeg + j.toNatClampNeg := fun j j0 j9 => by rw [xb_ad (by lia) (by lia) j0 j9, ib]
  rw [hX, hY, fp_readSaying, fq_saysRead]
  rw [if_neg (by decide), if_neg (by decide), if_neg (by decide), show xk_least ((3 : Int32).toNatClampNeg) = 0 from rfl, show xk_mosts ((3 : Int32).toNatClampNeg) = 7 from rfl]
  rw [if_neg (show ¬ (3 : Int32) = 0 by decide)]
  apply zLr; intro R hR; apply zLl; intro X1 hX1
  rw [fq_saysRead_j, if_neg (by decide), if_neg (by decide), if_pos rfl, xL_eq] at hR
  generalize hY1 : fq_number ft fw (0 : Int32) (7 : Int32) fa fp st nx kd wh ap got = Y1 at hR
  subst hR; dsimp only
  obtain ⟨q1, q2, q3⟩ := z_number g h q1 q2 (by decide) X1 hX1 Y1 hY1.symm
  rcases q3 with ⟨r1, r2⟩ | ⟨r1, r2, a1, a2, a3, h1⟩
  · rw [if_pos r1, if_pos r2]; exact ⟨q1, q2, Or.inl ⟨rfl, rfl⟩⟩
  rw [if_neg (z10 r1), if_neg (z01 r2), if_neg (show ¬ (3 : Int32) = 0 by decide), if_neg (show ¬ (7 : Int32) ≤ 3 by decide)]
  rw [z_add n0 (by lia) (by decide) (by decide), xL_eq]
  refine ⟨q1, q2, Or.inr ⟨rfl, rfl, h1, _, 0, rfl, rfl, rfl, ?_, fun _ _ => rfl, ⟨by lia, fun z => absurd z (by decide), fun z => absurd z (by decide), fun z => absurd z (by decide)⟩⟩⟩
  show upd nh _ _ = _
  rw [show (132 + (11 * n)) + 2 + 3 = (132 + (11 * n)) + 5 from by lia, ii 5 (by decide) (by decide), ← a1, zYn, if_neg (by decide), if_neg (by decide)]
  rfl
theorem z_say4 {fBy ft fw fCo fTo : Nat → Int32} {fNm : Nat → Nat → Int32} {st lxa lxt lxp lxn lxl nx kd wh ap pfa pfp fa fp got : Int32} (g : zG fBy ft fw fCo st) (h : zT st lxa lxt lxp lxn lxl nx kd wh ap) (q1 : pfa = fa) (q2 : pfp = fp) {fna pna nna fNs fNf fNz nh : Nat → Int32} {n nf np : Int32} (hf : fTo 1 = nf) (f0 : ¬ nf < 0) (f4 : nf ≤ 4) (hF : zNA (fNm 1) fna 4 nf) (hp : fTo 2 = np) (p0 : ¬ np < 0) (p6 : np ≤ 6) (hP : zNA (fNm 2) pna 6 np) (hn : fTo 4 = n) (n0 : ¬ n < 0) (n9 : n < 6) (hN : zNA (fNm 4) nna 6 n) :
    ∀ X, X = fp_readSaying pfa pfp st lxa lxt lxp lxn lxl fBy fCo fTo fNm fNs fNf fNz n 4 → ∀ Y, Y = fq_saysRead ft fw fna pna nna nh (132 + (11 * n)) 4 fa fp st nx kd wh ap got nf np n → zRy st n 4 fNs fNf fNz nh X Y := by
  intro X hX Y hY
  have ib := zi11 n0 (by lia)
  have ii : ∀ j : Int32, ¬ j < 0 → j ≤ 12 → ((132 + (11 * n)) + j).toNatClampNeg = 132 + 11 * n.toNatClampNeg + j.toNatClampNeg := fun j j0 j9 => by rw [xb_ad (by lia) (by lia) j0 j9, ib]
  rw [hX, hY, fp_readSaying, fq_saysRead]
  rw [if_neg (by decide), if_neg (by decide), if_neg (by decide), show xk_least ((4 : Int32).toNatClampNeg) = 0 from rfl, show xk_mosts ((4 : Int32).toNatClampNeg) = 3 from rfl]
  rw [if_neg (show ¬ (4 : Int32) = 0 by decide)]
  apply zLr; intro R hR; apply zLl; intro X1 hX1
  rw [fq_saysRead_j, if_neg (by decide), if_neg (by decide), if_neg (by decide), if_pos rfl, xL_eq] at hR
  generalize hY1 : fq_number ft fw (0 : Int32) (3 : Int32) fa fp st nx kd wh ap got = Y1 at hR
  subst hR; dsimp only
  obtain ⟨q1, q2, q3⟩ := z_number g h q1 q2 (by decide) X1 hX1 Y1 hY1.symm
  rcases q3 with ⟨r1, r2⟩ | ⟨r1, r2, a1, a2, a3, h1⟩
  · rw [if_pos r1, if_pos r2]; exact ⟨q1, q2, Or.inl ⟨rfl, rfl⟩⟩
  rw [if_neg (z10 r1), if_neg (z01 r2), if_neg (show ¬ (4 : Int32) = 0 by decide), if_neg (show ¬ (7 : Int32) ≤ 4 by decide)]
  rw [z_add n0 (by lia) (by decide) (by decide), xL_eq]
  refine ⟨q1, q2, Or.inr ⟨rfl, rfl, h1, _, 0, rfl, rfl, rfl, ?_, fun _ _ => rfl, ⟨by lia, fun z => absurd z (by decide), fun z => absurd z (by decide), fun z => absurd z (by decide)⟩⟩⟩
  show upd nh _ _ = _
  rw [show (132 + (11 * n)) + 2 + 4 = (132 + (11 * n)) + 6 from by lia, ii 6 (by decide) (by decide), ← a1, zYn, if_neg (by decide), if_neg (by decide)]
  rfl
theorem z_say5 {fBy ft fw fCo fTo : Nat → Int32} {fNm : Nat → Nat → Int32} {st lxa lxt lxp lxn lxl nx kd wh ap pfa pfp fa fp got : Int32} (g : zG fBy ft fw fCo st) (h : zT st lxa lxt lxp lxn lxl nx kd wh ap) (q1 : pfa = fa) (q2 : pfp = fp) {fna pna nna fNs fNf fNz nh : Nat → Int32} {n nf np : Int32} (hf : fTo 1 = nf) (f0 : ¬ nf < 0) (f4 : nf ≤ 4) (hF : zNA (fNm 1) fna 4 nf) (hp : fTo 2 = np) (p0 : ¬ np < 0) (p6 : np ≤ 6) (hP : zNA (fNm 2) pna 6 np) (hn : fTo 4 = n) (n0 : ¬ n < 0) (n9 : n < 6) (hN : zNA (fNm 4) nna 6 n) :
    ∀ X, X = fp_readSaying pfa pfp st lxa lxt lxp lxn lxl fBy fCo fTo fNm fNs fNf fNz n 5 → ∀ Y, Y = fq_saysRead ft fw fna pna nna nh (132 + (11 * n)) 5 fa fp st nx kd wh ap got nf np n → zRy st n 5 fNs fNf fNz nh X Y := by
  intro X hX Y hY
  have ib := zi11 n0 (by lia)
  have ii : ∀ j : Int32, ¬ j < 0 → j ≤ 12 → ((132 + (11 * n)) + j).toNatClampNeg = 132 + 11 * n.toNatClampNeg + j.toNatClampNeg := fun j j0 j9 => by rw [xb_ad (by lia) (by lia) j0 j9, ib]
  rw [hX, hY, fp_readSaying, fq_saysRead]
  rw [if_pos rfl, if_neg (show ¬ (5 : Int32) = 0 by decide)]
  apply zLr; intro R hR; apply zLl; intro X1 hX1
  rw [fq_saysRead_j, if_neg (by decide), if_neg (by decide), if_neg (by decide), if_neg (by decide), if_pos rfl, xL_eq] at hR
  generalize hY1 : fq_oldName12 ft fw pna np fa fp st nx kd wh ap got = Y1 at hR
  subst hR; dsimp only
  obtain ⟨q1, q2, q3⟩ := z_known2 g h q1 q2 hp p0 p6 hP X1 hX1 Y1 hY1.symm
  rcases q3 with ⟨r1, r2⟩ | ⟨r1, r2, a1, a2, a3, h1⟩
  · rw [if_pos r1, if_pos r2]; exact ⟨q1, q2, Or.inl ⟨rfl, rfl⟩⟩
  rw [if_neg (z10 r1), if_neg (z01 r2)]
  rw [if_neg (show ¬ (7 : Int32) ≤ 5 by decide), z_add n0 (by lia) (by decide) (by decide), xL_eq]
  refine ⟨q1, q2, Or.inr ⟨rfl, rfl, h1, _, 0, rfl, rfl, rfl, ?_, fun _ _ => rfl, ⟨by lia, fun z => absurd z (by decide), fun z => absurd z (by decide), fun z => absurd z (by decide)⟩⟩⟩
  show upd nh _ _ = _
  rw [show (132 + (11 * n)) + 2 + 5 = (132 + (11 * n)) + 7 from by lia, ii 7 (by decide) (by decide), ← a1, zYn, if_neg (by decide), if_neg (by decide)]
  rfl
theorem z_say6 {fBy ft fw fCo fTo : Nat → Int32} {fNm : Nat → Nat → Int32} {st lxa lxt lxp lxn lxl nx kd wh ap pfa pfp fa fp got : Int32} (g : zG fBy ft fw fCo st) (h : zT st lxa lxt lxp lxn lxl nx kd wh ap) (q1 : pfa = fa) (q2 : pfp = fp) {fna pna nna fNs fNf fNz nh : Nat → Int32} {n nf np : Int32} (hf : fTo 1 = nf) (f0 : ¬ nf < 0) (f4 : nf ≤ 4) (hF : zNA (fNm 1) fna 4 nf) (hp : fTo 2 = np) (p0 : ¬ np < 0) (p6 : np ≤ 6) (hP : zNA (fNm 2) pna 6 np) (hn : fTo 4 = n) (n0 : ¬ n < 0) (n9 : n < 6) (hN : zNA (fNm 4) nna 6 n) :
    ∀ X, X = fp_readSaying pfa pfp st lxa lxt lxp lxn lxl fBy fCo fTo fNm fNs fNf fNz n 6 → ∀ Y, Y = fq_saysRead ft fw fna pna nna nh (132 + (11 * n)) 6 fa fp st nx kd wh ap got nf np n → zRy st n 6 fNs fNf fNz nh X Y := by
  intro X hX Y hY
  have ib := zi11 n0 (by lia)
  have ii : ∀ j : Int32, ¬ j < 0 → j ≤ 12 → ((132 + (11 * n)) + j).toNatClampNeg = 132 + 11 * n.toNatClampNeg + j.toNatClampNeg := fun j j0 j9 => by rw [xb_ad (by lia) (by lia) j0 j9, ib]
  rw [hX, hY, fp_readSaying, fq_saysRead]
  rw [if_neg (by decide), if_pos rfl, if_neg (show ¬ (6 : Int32) = 0 by decide)]
  apply zLr; intro R hR; apply zLl; intro X1 hX1
  rw [fq_saysRead_j, if_neg (by decide), if_neg (by decide), if_neg (by decide), if_neg (by decide), if_neg (by decide), if_pos rfl, xL_eq] at hR
  generalize hY1 : fq_oldName8 ft fw fna nf fa fp st nx kd wh ap got = Y1 at hR
  subst hR; dsimp only
  obtain ⟨q1, q2, q3⟩ := z_known1 g h q1 q2 hf f0 f4 hF X1 hX1 Y1 hY1.symm
  rcases q3 with ⟨r1, r2⟩ | ⟨r1, r2, a1, a2, a3, h1⟩
  · rw [if_pos r1, if_pos r2]; exact ⟨q1, q2, Or.inl ⟨rfl, rfl⟩⟩
  rw [if_neg (z10 r1), if_neg (z01 r2)]
  rw [if_neg (show ¬ (7 : Int32) ≤ 6 by decide), z_add n0 (by lia) (by decide) (by decide), xL_eq]
  refine ⟨q1, q2, Or.inr ⟨rfl, rfl, h1, _, 0, rfl, rfl, rfl, ?_, fun _ _ => rfl, ⟨by lia, fun z => absurd z (by decide), fun z => absurd z (by decide), fun z => absurd z (by decide)⟩⟩⟩
  show upd nh _ _ = _
  rw [show (132 + (11 * n)) + 2 + 6 = (132 + (11 * n)) + 8 from by lia, ii 8 (by decide) (by decide), ← a1, zYn, if_neg (by decide), if_neg (by decide)]
  rfl
theorem z_say7 {fBy ft fw fCo fTo : Nat → Int32} {fNm : Nat → Nat → Int32} {st lxa lxt lxp lxn lxl nx kd wh ap pfa pfp fa fp got : Int32} (g : zG fBy ft fw fCo st) (h : zT st lxa lxt lxp lxn lxl nx kd wh ap) (q1 : pfa = fa) (q2 : pfp = fp) {fna pna nna fNs fNf fNz nh : Nat → Int32} {n nf np : Int32} (hf : fTo 1 = nf) (f0 : ¬ nf < 0) (f4 : nf ≤ 4) (hF : zNA (fNm 1) fna 4 nf) (hp : fTo 2 = np) (p0 : ¬ np < 0) (p6 : np ≤ 6) (hP : zNA (fNm 2) pna 6 np) (hn : fTo 4 = n) (n0 : ¬ n < 0) (n9 : n < 6) (hN : zNA (fNm 4) nna 6 n) :
    ∀ X, X = fp_readSaying pfa pfp st lxa lxt lxp lxn lxl fBy fCo fTo fNm fNs fNf fNz n 7 → ∀ Y, Y = fq_saysRead ft fw fna pna nna nh (132 + (11 * n)) 7 fa fp st nx kd wh ap got nf np n → zRy st n 7 fNs fNf fNz nh X Y := by
  intro X hX Y hY
  have ib := zi11 n0 (by lia)
  have ii : ∀ j : Int32, ¬ j < 0 → j ≤ 12 → ((132 + (11 * n)) + j).toNatClampNeg = 132 + 11 * n.toNatClampNeg + j.toNatClampNeg := fun j j0 j9 => by rw [xb_ad (by lia) (by lia) j0 j9, ib]
  rw [hX, hY, fp_readSaying, fq_saysRead]
  rw [if_neg (by decide), if_neg (by decide), if_pos rfl, if_neg (show ¬ (7 : Int32) = 0 by decide)]
  apply zLr; intro R hR; apply zLl; intro X1 hX1
  rw [fq_saysRead_j, if_neg (by decide), if_neg (by decide), if_neg (by decide), if_neg (by decide), if_neg (by decide), if_neg (by decide), xL_eq] at hR
  generalize hY1 : fq_oldName12 ft fw nna n fa fp st nx kd wh ap got = Y1 at hR
  subst hR; dsimp only
  obtain ⟨q1, q2, q3⟩ := z_known4 g h q1 q2 hn n0 (by lia) hN X1 hX1 Y1 hY1.symm
  rcases q3 with ⟨r1, r2⟩ | ⟨r1, r2, a1, a2, a3, h1⟩
  · rw [if_pos r1, if_pos r2]; exact ⟨q1, q2, Or.inl ⟨rfl, rfl⟩⟩
  rw [if_neg (z10 r1), if_neg (z01 r2)]
  rw [if_pos (show (7 : Int32) ≤ 7 by decide)]
  apply zLx; intro X2 hX2 Y2 hY2
  obtain ⟨q1, q2, q3⟩ := z_signed g h1 q1 q2 (by decide) (by decide) X2 hX2 Y2 hY2
  rcases q3 with ⟨r1, r2⟩ | ⟨r1, r2, b1, b2, b3, h2⟩
  · rw [if_pos r1, if_pos r2]; exact ⟨q1, q2, Or.inl ⟨rfl, rfl⟩⟩
  rw [if_neg (z10 r1), if_neg (z01 r2)]
  rw [z_add n0 (by lia) (by decide) (by decide), xL_eq]
  refine ⟨q1, q2, Or.inr ⟨rfl, rfl, h2, _, _, rfl, rfl, rfl, ?_, fun _ z => absurd rfl z, ⟨by lia, fun z => absurd z (by decide), fun z => absurd z (by decide), fun _ => ⟨by lia, by lia⟩⟩⟩⟩
  show upd (upd nh _ _) _ _ = _
  rw [show (132 + (11 * n)) + 2 + 7 = (132 + (11 * n)) + 9 from by lia, ii 9 (by decide) (by decide), ii 10 (by decide) (by decide), ← a1, ← b1, zYn, if_neg (by decide), if_pos rfl]
  rfl
theorem z_say {fBy ft fw fCo fTo : Nat → Int32} {fNm : Nat → Nat → Int32} {st lxa lxt lxp lxn lxl nx kd wh ap pfa pfp fa fp got : Int32} (g : zG fBy ft fw fCo st) (h : zT st lxa lxt lxp lxn lxl nx kd wh ap) (q1 : pfa = fa) (q2 : pfp = fp) {fna pna nna fNs fNf fNz nh : Nat → Int32} {n nf np : Int32} (hf : fTo 1 = nf) (f0 : ¬ nf < 0) (f4 : nf ≤ 4) (hF : zNA (fNm 1) fna 4 nf) (hp : fTo 2 = np) (p0 : ¬ np < 0) (p6 : np ≤ 6) (hP : zNA (fNm 2) pna 6 np) (hn : fTo 4 = n) (n0 : ¬ n < 0) (n9 : n < 6) (hN : zNA (fNm 4) nna 6 n) {w : Int32} (w0 : ¬ w < 0) (w8 : w < 8) :
    ∀ X, X = fp_readSaying pfa pfp st lxa lxt lxp lxn lxl fBy fCo fTo fNm fNs fNf fNz n w → ∀ Y, Y = fq_saysRead ft fw fna pna nna nh (132 + (11 * n)) w fa fp st nx kd wh ap got nf np n → zRy st n w fNs fNf fNz nh X Y := by
  by_cases e0 : w = 0
  · rw [e0]; exact z_say0 g h q1 q2 hf f0 f4 hF hp p0 p6 hP hn n0 n9 hN
  by_cases e1 : w = 1
  · rw [e1]; exact z_say1 g h q1 q2 hf f0 f4 hF hp p0 p6 hP hn n0 n9 hN
  by_cases e2 : w = 2
  · rw [e2]; exact z_say2 g h q1 q2 hf f0 f4 hF hp p0 p6 hP hn n0 n9 hN
  by_cases e3 : w = 3
  · rw [e3]; exact z_say3 g h q1 q2 hf f0 f4 hF hp p0 p6 hP hn n0 n9 hN
  by_cases e4 : w = 4
  · rw [e4]; exact z_say4 g h q1 q2 hf f0 f4 hF hp p0 p6 hP hn n0 n9 hN
  by_cases e5 : w = 5
  · rw [e5]; exact z_say5 g h q1 q2 hf f0 f4 hF hp p0 p6 hP hn n0 n9 hN
  by_cases e6 : w = 6
  · rw [e6]; exact z_say6 g h q1 q2 hf f0 f4 hF hp p0 p6 hP hn n0 n9 hN
  rw [show w = 7 from by lia]; exact z_say7 g h q1 q2 hf f0 f4 hF hp p0 p6 hP hn n0 n9 hN
theorem z_nw {kd wh lxt : Int32} (hl : lxt = ztk kd wh) (hv : zV kd wh) : fp_sayingOf lxt = fq_noteWord kd wh ∧ (fq_noteWord kd wh = -1 ∨ (¬ fq_noteWord kd wh < 0 ∧ fq_noteWord kd wh < 8)) := by
  rw [hl]
  rcases hv with h | ⟨h, w0, w2⟩ | h | h | ⟨h, hw⟩ | ⟨h, w0, w5⟩ | h <;> rw [h]
  · exact ⟨by rfl, Or.inl (by rfl)⟩
  · by_cases c0 : wh = 0
    · rw [c0]; exact ⟨by decide, Or.inl (by decide)⟩
    have k1 : ¬ wh < 1 := by lia
    clear c0
    by_cases c1 : wh = 1
    · rw [c1]; exact ⟨by decide, Or.inr ⟨by decide, by decide⟩⟩
    have k2 : ¬ wh < 2 := by lia
    clear c1
    by_cases c2 : wh = 2
    · rw [c2]; exact ⟨by decide, Or.inl (by decide)⟩
    have k3 : ¬ wh < 3 := by lia
    clear c2
    by_cases c3 : wh = 3
    · rw [c3]; exact ⟨by decide, Or.inl (by decide)⟩
    have k4 : ¬ wh < 4 := by lia
    clear c3
    by_cases c4 : wh = 4
    · rw [c4]; exact ⟨by decide, Or.inl (by decide)⟩
    have k5 : ¬ wh < 5 := by lia
    clear c4
    by_cases c5 : wh = 5
    · rw [c5]; exact ⟨by decide, Or.inl (by decide)⟩
    have k6 : ¬ wh < 6 := by lia
    clear c5
    by_cases c6 : wh = 6
    · rw [c6]; exact ⟨by decide, Or.inr ⟨by decide, by decide⟩⟩
    have k7 : ¬ wh < 7 := by lia
    clear c6
    by_cases c7 : wh = 7
    · rw [c7]; exact ⟨by decide, Or.inr ⟨by decide, by decide⟩⟩
    have k8 : ¬ wh < 8 := by lia
    clear c7
    by_cases c8 : wh = 8
    · rw [c8]; exact ⟨by decide, Or.inl (by decide)⟩
    have k9 : ¬ wh < 9 := by lia
    clear c8
    by_cases c9 : wh = 9
    · rw [c9]; exact ⟨by decide, Or.inl (by decide)⟩
    have k10 : ¬ wh < 10 := by lia
    clear c9
    by_cases c10 : wh = 10
    · rw [c10]; exact ⟨by decide, Or.inl (by decide)⟩
    have k11 : ¬ wh < 11 := by lia
    clear c10
    by_cases c11 : wh = 11
    · rw [c11]; exact ⟨by decide, Or.inl (by decide)⟩
    have k12 : ¬ wh < 12 := by lia
    clear c11
    by_cases c12 : wh = 12
    · rw [c12]; exact ⟨by decide, Or.inl (by decide)⟩
    have k13 : ¬ wh < 13 := by lia
    clear c12
    by_cases c13 : wh = 13
    · rw [c13]; exact ⟨by decide, Or.inl (by decide)⟩
    have k14 : ¬ wh < 14 := by lia
    clear c13
    by_cases c14 : wh = 14
    · rw [c14]; exact ⟨by decide, Or.inr ⟨by decide, by decide⟩⟩
    have k15 : ¬ wh < 15 := by lia
    clear c14
    by_cases c15 : wh = 15
    · rw [c15]; exact ⟨by decide, Or.inr ⟨by decide, by decide⟩⟩
    have k16 : ¬ wh < 16 := by lia
    clear c15
    by_cases c16 : wh = 16
    · rw [c16]; exact ⟨by decide, Or.inl (by decide)⟩
    have k17 : ¬ wh < 17 := by lia
    clear c16
    by_cases c17 : wh = 17
    · rw [c17]; exact ⟨by decide, Or.inl (by decide)⟩
    have k18 : ¬ wh < 18 := by lia
    clear c17
    by_cases c18 : wh = 18
    · rw [c18]; exact ⟨by decide, Or.inl (by decide)⟩
    have k19 : ¬ wh < 19 := by lia
    clear c18
    by_cases c19 : wh = 19
    · rw [c19]; exact ⟨by decide, Or.inr ⟨by decide, by decide⟩⟩
    have k20 : ¬ wh < 20 := by lia
    clear c19
    by_cases c20 : wh = 20
    · rw [c20]; exact ⟨by decide, Or.inr ⟨by decide, by decide⟩⟩
    have k21 : ¬ wh < 21 := by lia
    clear c20
    by_cases c21 : wh = 21
    · rw [c21]; exact ⟨by decide, Or.inr ⟨by decide, by decide⟩⟩
    have k22 : ¬ wh < 22 := by lia
    clear c21
    by_cases c22 : wh = 22
    · rw [c22]; exact ⟨by decide, Or.inl (by decide)⟩
    exact absurd w2 (by lia)
  · exact ⟨by rfl, Or.inl (by rfl)⟩
  · exact ⟨by rfl, Or.inl (by rfl)⟩
  · rcases hw with w | w | w | w | w | w | w | w <;> rw [w] <;> exact ⟨by rfl, Or.inl (by rfl)⟩
  · by_cases c0 : wh = 0
    · rw [c0]; exact ⟨by rfl, Or.inl (by rfl)⟩
    have k1 : ¬ wh < 1 := by lia
    clear c0
    by_cases c1 : wh = 1
    · rw [c1]; exact ⟨by rfl, Or.inl (by rfl)⟩
    have k2 : ¬ wh < 2 := by lia
    clear c1
    by_cases c2 : wh = 2
    · rw [c2]; exact ⟨by rfl, Or.inl (by rfl)⟩
    have k3 : ¬ wh < 3 := by lia
    clear c2
    by_cases c3 : wh = 3
    · rw [c3]; exact ⟨by rfl, Or.inl (by rfl)⟩
    have k4 : ¬ wh < 4 := by lia
    clear c3
    by_cases c4 : wh = 4
    · rw [c4]; exact ⟨by rfl, Or.inl (by rfl)⟩
    have k5 : ¬ wh < 5 := by lia
    clear c4
    by_cases c5 : wh = 5
    · rw [c5]; exact ⟨by rfl, Or.inl (by rfl)⟩
    exact absurd w5 (by lia)
  · exact ⟨by rfl, Or.inl (by rfl)⟩
/-- note k says the same in both -/
def zNb (fNs fNf fNz nh : Nat → Int32) (k : Nat) : Prop := fNs k = nh (132 + 11 * k) ∧ ∀ w : Int32, ¬ w < 0 → w < 8 → ¬ fq_isOf (fNs k) w = 0 →
  (w = 0 → fNf (8 * k + w.toNatClampNeg) = nh (132 + 11 * k + 1) ∧ fNz (8 * k + w.toNatClampNeg) = nh (132 + 11 * k + 2)) ∧ (w = 7 → fNf (8 * k + w.toNatClampNeg) = nh (132 + 11 * k + 9) ∧ fNz (8 * k + w.toNatClampNeg) = nh (132 + 11 * k + 10)) ∧
  (¬ w = 0 → ¬ w = 7 → fNf (8 * k + w.toNatClampNeg) = nh (132 + 11 * k + 2 + w.toNatClampNeg) ∧ fNz (8 * k + w.toNatClampNeg) = 0) ∧ zBw w (fNf (8 * k + w.toNatClampNeg)) (fNz (8 * k + w.toNatClampNeg))
theorem z_w8 {w : Int32} (w0 : ¬ w < 0) (w8 : w < 8) : w.toNatClampNeg < 8 := by
  have h1 := xi_nat w0
  have h2 := Int32.lt_iff_toInt_lt.mp w8
  have e : (8 : Int32).toInt = 8 := rfl
  omega
theorem z_wi {v w : Int32} (v0 : ¬ v < 0) (w0 : ¬ w < 0) (h : v.toNatClampNeg = w.toNatClampNeg) : v = w := by
  have h1 := xi_nat v0
  have h2 := xi_nat w0
  exact Int32.toInt_inj.mp (by omega)
theorem zNb_far {fNs fNf fNz nh fNs' fNf' fNz' nh' : Nat → Int32} {k : Nat} (h : zNb fNs fNf fNz nh k) (h1 : fNs' k = fNs k) (h2 : ∀ j, j < 8 → fNf' (8 * k + j) = fNf (8 * k + j)) (h3 : ∀ j, j < 8 → fNz' (8 * k + j) = fNz (8 * k + j)) (h4 : ∀ j, j < 11 → nh' (132 + 11 * k + j) = nh (132 + 11 * k + j)) : zNb fNs' fNf' fNz' nh' k := by
  have e0 := h4 0 (by omega)
  refine ⟨by rw [h1]; exact h.1.trans e0.symm, fun w w0 w8 hb => ?_⟩
  rw [h1] at hb
  have q := h.2 w w0 w8 hb
  have w7 := z_w8 w0 w8
  rw [h2 _ w7, h3 _ w7, h4 1 (by omega), h4 2 (by omega), h4 9 (by omega), h4 10 (by omega)]
  refine ⟨q.1, q.2.1, fun y1 y2 => ?_, q.2.2.2⟩
  have y3 : ¬ w.toNatClampNeg = 0 := fun z => y1 (z_wi w0 (by decide) z)
  have y4 : ¬ w.toNatClampNeg = 7 := fun z => y2 (z_wi w0 (by decide) z)
  have e5 := h4 (2 + w.toNatClampNeg) (by omega)
  rw [show 132 + 11 * k + 2 + w.toNatClampNeg = 132 + 11 * k + (2 + w.toNatClampNeg) from by omega, e5, show 132 + 11 * k + (2 + w.toNatClampNeg) = 132 + 11 * k + 2 + w.toNatClampNeg from by omega]
  exact q.2.2.1 y1 y2
theorem zYn_v {w : Int32} (w0 : ¬ w < 0) (w8 : w < 8) {B : Nat} {f : Nat → Int32} {a c : Int32} {k : Nat} (hk : k ≤ B ∨ B + 11 ≤ k ∨ (¬ w = 0 ∧ (k = B + 1 ∨ k = B + 2)) ∨ (¬ w = 7 ∧ (k = B + 9 ∨ k = B + 10)) ∨ (∃ v : Int32, ¬ v < 0 ∧ v < 8 ∧ ¬ v = 0 ∧ ¬ v = 7 ∧ ¬ w = v ∧ k = B + 2 + v.toNatClampNeg)) : zYn w B f a c k = f k := by
  have w7 := z_w8 w0 w8
  have z0 : w.toNatClampNeg = 0 → w = 0 := fun z => z_wi w0 (by decide) z
  have z7 : w.toNatClampNeg = 7 → w = 7 := fun z => z_wi w0 (by decide) z
  unfold zYn
  by_cases c0 : w = 0
  · rw [if_pos c0]
    unfold upd
    have m : ¬ k = B + 2 ∧ ¬ k = B + 1 := by
      rcases hk with q | q | q | q | ⟨v, v0, v8, q1, q2, q3, q4⟩
      · omega
      · omega
      · exact absurd c0 q.1
      · omega
      · have := z_w8 v0 v8
        have y : ¬ v.toNatClampNeg = 0 := fun z => q1 (z_wi v0 (by decide) z)
        omega
    rw [if_neg m.1, if_neg m.2]
  · rw [if_neg c0]
    by_cases c7 : w = 7
    · rw [if_pos c7]
      unfold upd
      have m : ¬ k = B + 10 ∧ ¬ k = B + 9 := by
        rcases hk with q | q | q | q | ⟨v, v0, v8, q1, q2, q3, q4⟩
        · omega
        · omega
        · omega
        · exact absurd c7 q.1
        · have := z_w8 v0 v8
          have y : ¬ v.toNatClampNeg = 7 := fun z => q2 (z_wi v0 (by decide) z)
          omega
      rw [if_neg m.1, if_neg m.2]
    · rw [if_neg c7]
      have y1 : ¬ w.toNatClampNeg = 0 := fun z => c0 (z0 z)
      have y2 : ¬ w.toNatClampNeg = 7 := fun z => c7 (z7 z)
      have m : ¬ k = B + 2 + w.toNatClampNeg := by
        rcases hk with q | q | q | q | ⟨v, v0, v8, q1, q2, q3, q4⟩
        · omega
        · omega
        · omega
        · omega
        · intro z
          exact q3 (z_wi w0 v0 (by omega))
      exact if_neg m
theorem zNb_add {fNs fNf fNz nh : Nat → Int32} {n w a c : Int32} (w0 : ¬ w < 0) (w8 : w < 8) (hc : ¬ w = 0 → ¬ w = 7 → c = 0) (hw : zBw w a c) (h : zNb fNs fNf fNz nh n.toNatClampNeg) :
    zNb (upd fNs n.toNatClampNeg ((fNs n.toNatClampNeg) ||| (1 <<< (w &&& 31)))) (upd fNf (8 * n.toNatClampNeg + w.toNatClampNeg) a) (upd fNz (8 * n.toNatClampNeg + w.toNatClampNeg) c) (zYn w (132 + 11 * n.toNatClampNeg) (upd nh (132 + 11 * n.toNatClampNeg) ((nh (132 + 11 * n.toNatClampNeg)) ||| (1 <<< (w &&& 31)))) a c) n.toNatClampNeg := by
  have e1 : upd fNs n.toNatClampNeg ((fNs n.toNatClampNeg) ||| (1 <<< (w &&& 31))) n.toNatClampNeg = (fNs n.toNatClampNeg) ||| (1 <<< (w &&& 31)) := if_pos rfl
  refine ⟨?_, fun v v0 v8 hb => ?_⟩
  · rw [e1, zYn_v w0 w8 (Or.inl (Nat.le_refl _)), h.1]; exact (if_pos rfl).symm
  · rw [e1] at hb
    have w7 := z_w8 w0 w8
    have v7 := z_w8 v0 v8
    by_cases c1 : v = w
    · subst c1
      rw [show upd fNf (8 * n.toNatClampNeg + v.toNatClampNeg) a (8 * n.toNatClampNeg + v.toNatClampNeg) = a from if_pos rfl, show upd fNz (8 * n.toNatClampNeg + v.toNatClampNeg) c (8 * n.toNatClampNeg + v.toNatClampNeg) = c from if_pos rfl]
      refine ⟨fun z => ?_, fun z => ?_, fun z y => ?_, hw⟩
      · rw [zYn, if_pos z]
        exact ⟨((if_neg (by omega)).trans (if_pos rfl)).symm, (if_pos rfl).symm⟩
      · rw [zYn, if_neg (by rw [z]; decide), if_pos z]
        exact ⟨((if_neg (by omega)).trans (if_pos rfl)).symm, (if_pos rfl).symm⟩
      · rw [zYn, if_neg z, if_neg y]
        exact ⟨(if_pos rfl).symm, hc z y⟩
    · have c2 : ¬ w = v := fun z => c1 z.symm
      have c3 : ¬ v.toNatClampNeg = w.toNatClampNeg := fun z => c1 (z_wi v0 w0 z)
      have hb2 : ¬ fq_isOf (fNs n.toNatClampNeg) v = 0 := fun z => hb ((xb_orf w0 w8 v0 v8 c2).mpr z)
      have q := h.2 v v0 v8 hb2
      have u1 : upd fNf (8 * n.toNatClampNeg + w.toNatClampNeg) a (8 * n.toNatClampNeg + v.toNatClampNeg) = fNf (8 * n.toNatClampNeg + v.toNatClampNeg) := if_neg (by omega)
      have u2 : upd fNz (8 * n.toNatClampNeg + w.toNatClampNeg) c (8 * n.toNatClampNeg + v.toNatClampNeg) = fNz (8 * n.toNatClampNeg + v.toNatClampNeg) := if_neg (by omega)
      have u3 : ∀ k, ¬ k = 132 + 11 * n.toNatClampNeg → upd nh (132 + 11 * n.toNatClampNeg) ((nh (132 + 11 * n.toNatClampNeg)) ||| (1 <<< (w &&& 31))) k = nh k := fun k hk => if_neg hk
      rw [u1, u2]
      refine ⟨fun z => ?_, fun z => ?_, fun z y => ?_, q.2.2.2⟩
      · have wz : ¬ w = 0 := fun y => c1 (z.trans y.symm)
        rw [zYn_v w0 w8 (Or.inr (Or.inr (Or.inl ⟨wz, Or.inl rfl⟩))), zYn_v w0 w8 (Or.inr (Or.inr (Or.inl ⟨wz, Or.inr rfl⟩))), u3 _ (by omega), u3 _ (by omega)]
        exact q.1 z
      · have wz : ¬ w = 7 := fun y => c1 (z.trans y.symm)
        rw [zYn_v w0 w8 (Or.inr (Or.inr (Or.inr (Or.inl ⟨wz, Or.inl rfl⟩)))), zYn_v w0 w8 (Or.inr (Or.inr (Or.inr (Or.inl ⟨wz, Or.inr rfl⟩)))), u3 _ (by omega), u3 _ (by omega)]
        exact q.2.1 z
      · rw [zYn_v w0 w8 (Or.inr (Or.inr (Or.inr (Or.inr ⟨v, v0, v8, z, y, c2, rfl⟩)))), u3 _ (by omega)]
        exact q.2.2.1 z y
def zRo (st n : Int32) (fTo : Nat → Int32) (fNm : Nat → Nat → Int32) (nna2 : Nat → Int32) (X : Int32 × Int32 × Int32 × Int32 × Int32 × Int32 × Int32 × Int32 × (Nat → Int32) × (Nat → Nat → Int32) × Int32 × (Nat → Int32) × (Nat → Int32) × (Nat → Int32)) (Y : Int32 × Int32 × Int32 × Int32 × Int32 × Int32 × Int32 × (Nat → Int32) × (Nat → Int32) × Int32 × Int32) : Prop :=
  X.2.1 = Y.2.1 ∧ X.2.2.1 = Y.2.2.1 ∧ ((X.1 = 1 ∧ Y.1 = 0) ∨ (X.1 = 0 ∧ Y.1 = 1 ∧ zT st X.2.2.2.1 X.2.2.2.2.1 X.2.2.2.2.2.1 X.2.2.2.2.2.2.1 X.2.2.2.2.2.2.2.1 Y.2.2.2.1 Y.2.2.2.2.1 Y.2.2.2.2.2.1 Y.2.2.2.2.2.2.1 ∧ X.2.2.2.2.2.2.2.2.1 = upd fTo 4 (n + 1) ∧ Y.2.2.2.2.2.2.2.2.2.1 = n + 1 ∧ X.2.2.2.2.2.2.2.2.2.2.1 = n + 1 ∧ X.2.2.2.2.2.2.2.2.2.1 = fNm ∧ Y.2.2.2.2.2.2.2.1 = nna2 ∧ (∀ k : Nat, k < (n + 1).toNatClampNeg → zNb X.2.2.2.2.2.2.2.2.2.2.2.1 X.2.2.2.2.2.2.2.2.2.2.2.2.1 X.2.2.2.2.2.2.2.2.2.2.2.2.2 Y.2.2.2.2.2.2.2.2.1 k)))
theorem z_noteE {fBy ft fw fCo fTo fna pna nna : Nat → Int32} {fNm : Nat → Nat → Int32} {st n nf np ns : Int32} (g : zG fBy ft fw fCo st) (hf : fTo 1 = nf) (f0 : ¬ nf < 0) (f4 : nf ≤ 4) (hF : zNA (fNm 1) fna 4 nf) (hp : fTo 2 = np) (p0 : ¬ np < 0) (p6 : np ≤ 6) (hP : zNA (fNm 2) pna 6 np) (hn : fTo 4 = n) (n0 : ¬ n < 0) (n9 : n < 6) (hN : zNA (fNm 4) nna 6 n) :
    ∀ (m : Nat) (i lxa lxt lxp lxn lxl pfa pfp nx kd wh ap fa fp got : Int32) (fNs fNf fNz nh : Nat → Int32), i.toInt + m = 8 → ¬ i < 0 → zT st lxa lxt lxp lxn lxl nx kd wh ap → pfa = fa → pfp = fp → xcL (fNs n.toNatClampNeg) m → (∀ k : Nat, k < (n + 1).toNatClampNeg → zNb fNs fNf fNz nh k) →
    zRo st n fTo fNm nna (fp_readNote_d st fBy fCo fTo ns (m + 1) n i lxa lxt lxp lxn lxl pfa pfp fNm fNf fNs fNz) (fq_noteLine_e ft fw fna pna st nf np n nna m (fq_noteWord kd wh) fa fp nx kd wh ap got nh) := by
  have ht : upd fTo ((4 : Int32).toNatClampNeg) ((fTo ((4 : Int32).toNatClampNeg)) + 1) = upd fTo 4 (n + 1) := by
    show upd fTo 4 (fTo 4 + 1) = _
    rw [hn]
  have hN1 : (n + 1).toNatClampNeg = n.toNatClampNeg + 1 := xi_natS n0 (by lia)
  have ib := zi11 n0 (by lia)
  intro m
  induction m with
  | zero =>
    intro i lxa lxt lxp lxn lxl pfa pfp nx kd wh ap fa fp got fNs fNf fNz nh hi i0 h q1 q2 hc hb
    have hi8 : ¬ 8 < i := fun z => by
      have := Int32.lt_iff_toInt_lt.mp z
      have e : (8 : Int32).toInt = 8 := rfl
      omega
    obtain ⟨s1, s2⟩ := z_nw h.2.2.2.2.1 h.2.2.2.2.2.1
    rw [fp_readNote_d, if_neg hi8, xL_eq, s1, fq_noteLine_e]
    rcases s2 with s2 | ⟨s2, s3⟩
    · rw [s2, if_pos rfl, if_pos (by decide), fp_readNote_t]
      exact ⟨q1, q2, Or.inr ⟨rfl, rfl, h, ht, rfl, by rw [ht]; show (if (4 : Nat) = 4 then n + 1 else fTo 4) = n + 1; exact if_pos rfl, rfl, rfl, hb⟩⟩
    · have hd := xcL_full hc rfl s2 s3
      rw [fq_isOf] at hd
      have hdo : fn_does fNs n (fq_noteWord kd wh) = 1 := by
        rw [fn_does, if_neg n0, if_neg (show ¬ 12 ≤ n by lia)]
        by_cases z : (((fNs n.toNatClampNeg) >>> (fq_noteWord kd wh &&& 31)) &&& 1) = (1 : Int32)
        · rw [if_pos z]
        · rw [if_neg z] at hd
          exact absurd rfl hd
      rw [if_neg (show ¬ fq_noteWord kd wh = -1 by lia), if_neg s2, hdo, xL_eq (1 : Int32), zn1]
      exact ⟨rfl, h.2.1, Or.inl ⟨rfl, rfl⟩⟩
  | succ m ih =>
    intro i lxa lxt lxp lxn lxl pfa pfp nx kd wh ap fa fp got fNs fNf fNz nh hi i0 h q1 q2 hc hb
    have hi8 : ¬ 8 < i := fun z => by
      have := Int32.lt_iff_toInt_lt.mp z
      have e : (8 : Int32).toInt = 8 := rfl
      omega
    obtain ⟨s1, s2⟩ := z_nw h.2.2.2.2.1 h.2.2.2.2.2.1
    rw [fp_readNote_d, if_neg hi8, xL_eq, s1, fq_noteLine_e]
    rcases s2 with s2 | ⟨s2, s3⟩
    · rw [s2, if_pos rfl, if_pos (by decide), fp_readNote_t]
      exact ⟨q1, q2, Or.inr ⟨rfl, rfl, h, ht, rfl, by rw [ht]; show (if (4 : Nat) = 4 then n + 1 else fTo 4) = n + 1; exact if_pos rfl, rfl, rfl, hb⟩⟩
    · have hbn := hb n.toNatClampNeg (by omega)
      have hw : fn_does fNs n (fq_noteWord kd wh) = fq_isOf (nh ((132 + (11 * n)).toNatClampNeg)) (fq_noteWord kd wh) := by
        rw [fn_does, if_neg n0, if_neg (by lia), fq_isOf, ib, ← hbn.1]
      rw [if_neg (show ¬ fq_noteWord kd wh = -1 by lia), if_neg s2, hw, xL_eq (fq_isOf (nh ((132 + (11 * n)).toNatClampNeg)) (fq_noteWord kd wh)), xL_eq (fq_isOf (nh ((132 + (11 * n)).toNatClampNeg)) (fq_noteWord kd wh))]
      by_cases z : fq_isOf (nh ((132 + (11 * n)).toNatClampNeg)) (fq_noteWord kd wh) = 0
      · rw [if_pos z, if_pos z]
        apply zLx; intro U hU V hV
        have h1 := g.tok h U hU V hV
        apply zLx; intro X hX Y hY
        obtain ⟨q1, q2, q3⟩ := z_say g h1 q1 q2 hf f0 f4 hF hp p0 p6 hP hn n0 n9 hN s2 s3 X hX Y hY
        rcases q3 with ⟨r1, r2⟩ | ⟨r1, r2, h2, a, c, y1, y2, y3, y4, y5, y6⟩
        · rw [if_pos r1, if_pos r2]; exact ⟨q1, q2, Or.inl ⟨rfl, rfl⟩⟩
        rw [if_neg (z10 r1), if_neg (z01 r2), xL_eq]
        have i1 : (i + 1).toInt = i.toInt + 1 := by
          have b0 := xi_nn i0
          have e1 : (1 : Int32).toInt = 1 := rfl
          rw [Int32.toInt_add, e1]; exact Int.bmod_eq_of_le (by omega) (by omega)
        refine ih (i + 1) _ _ _ _ _ _ _ _ _ _ _ _ _ _ _ _ _ _ (by omega) (by lia) h2 q1 q2 ?_ ?_
        · rw [y1, show upd fNs n.toNatClampNeg ((fNs n.toNatClampNeg) ||| (1 <<< (fq_noteWord kd wh &&& 31))) n.toNatClampNeg = (fNs n.toNatClampNeg) ||| (1 <<< (fq_noteWord kd wh &&& 31)) from if_pos rfl]
          have zz : fq_isOf (fNs n.toNatClampNeg) (fq_noteWord kd wh) = 0 := by rw [hbn.1, ← ib]; exact z
          have x8 := xc8_or s2 s3 zz
          unfold xcL at hc ⊢
          omega
        · intro k hk
          rw [y1, y2, y3, y4, ib]
          by_cases kn : k = n.toNatClampNeg
          · rw [kn]; exact zNb_add s2 s3 y5 y6 hbn
          · have w7 := z_w8 s2 s3
            refine zNb_far (hb k hk) (if_neg kn) (fun j hj => if_neg (by omega)) (fun j hj => if_neg (by omega)) (fun j hj => ?_)
            rw [zYn_v s2 s3 (Or.inl (by omega))]
            exact if_neg (by omega)
      · rw [if_neg z, if_neg z]
        exact ⟨rfl, h.2.1, Or.inl ⟨rfl, rfl⟩⟩
theorem z_zero {nh nm : Nat → Int32} {n a b c d e f : Int32} (n0 : ¬ n < 0) (n9 : n < 6) : ∃ nh2 : Nat → Int32, fq_noteLine_d n 11 0 a b c d e f nm nh = (11, a, b, c, d, e, f, nm, nh2) ∧ nh2 (132 + 11 * n.toNatClampNeg) = 0 ∧ ∀ k, k < 132 + 11 * n.toNatClampNeg → nh2 k = nh k := by
  have ib := zi11 n0 (by lia)
  have ii : ∀ j : Int32, ¬ j < 0 → j ≤ 12 → ((132 + (11 * n)) + j).toNatClampNeg = 132 + 11 * n.toNatClampNeg + j.toNatClampNeg := fun j j0 j9 => by rw [xb_ad (by lia) (by lia) j0 j9, ib]
  refine ⟨(upd (upd (upd (upd (upd (upd (upd (upd (upd (upd (upd nh (132 + 11 * n.toNatClampNeg + 0) 0) (132 + 11 * n.toNatClampNeg + 1) 0) (132 + 11 * n.toNatClampNeg + 2) 0) (132 + 11 * n.toNatClampNeg + 3) 0) (132 + 11 * n.toNatClampNeg + 4) 0) (132 + 11 * n.toNatClampNeg + 5) 0) (132 + 11 * n.toNatClampNeg + 6) 0) (132 + 11 * n.toNatClampNeg + 7) 0) (132 + 11 * n.toNatClampNeg + 8) 0) (132 + 11 * n.toNatClampNeg + 9) 0) (132 + 11 * n.toNatClampNeg + 10) 0), ?_, ?_, fun k hk => ?_⟩
  · rw [fq_noteLine_d, if_neg (by decide), ii 0 (by decide) (by decide), show (0 : Int32) + 1 = 1 from rfl, show (0 : Int32).toNatClampNeg = 0 from rfl]
    rw [fq_noteLine_d, if_neg (by decide), ii 1 (by decide) (by decide), show (1 : Int32) + 1 = 2 from rfl, show (1 : Int32).toNatClampNeg = 1 from rfl]
    rw [fq_noteLine_d, if_neg (by decide), ii 2 (by decide) (by decide), show (2 : Int32) + 1 = 3 from rfl, show (2 : Int32).toNatClampNeg = 2 from rfl]
    rw [fq_noteLine_d, if_neg (by decide), ii 3 (by decide) (by decide), show (3 : Int32) + 1 = 4 from rfl, show (3 : Int32).toNatClampNeg = 3 from rfl]
    rw [fq_noteLine_d, if_neg (by decide), ii 4 (by decide) (by decide), show (4 : Int32) + 1 = 5 from rfl, show (4 : Int32).toNatClampNeg = 4 from rfl]
    rw [fq_noteLine_d, if_neg (by decide), ii 5 (by decide) (by decide), show (5 : Int32) + 1 = 6 from rfl, show (5 : Int32).toNatClampNeg = 5 from rfl]
    rw [fq_noteLine_d, if_neg (by decide), ii 6 (by decide) (by decide), show (6 : Int32) + 1 = 7 from rfl, show (6 : Int32).toNatClampNeg = 6 from rfl]
    rw [fq_noteLine_d, if_neg (by decide), ii 7 (by decide) (by decide), show (7 : Int32) + 1 = 8 from rfl, show (7 : Int32).toNatClampNeg = 7 from rfl]
    rw [fq_noteLine_d, if_neg (by decide), ii 8 (by decide) (by decide), show (8 : Int32) + 1 = 9 from rfl, show (8 : Int32).toNatClampNeg = 8 from rfl]
    rw [fq_noteLine_d, if_neg (by decide), ii 9 (by decide) (by decide), show (9 : Int32) + 1 = 10 from rfl, show (9 : Int32).toNatClampNeg = 9 from rfl]
    rw [fq_noteLine_d, if_neg (by decide), ii 10 (by decide) (by decide), show (10 : Int32) + 1 = 11 from rfl, show (10 : Int32).toNatClampNeg = 10 from rfl]
    rw [fq_noteLine_d]
  · unfold upd
    rw [if_neg (by omega), if_neg (by omega), if_neg (by omega), if_neg (by omega), if_neg (by omega), if_neg (by omega), if_neg (by omega), if_neg (by omega), if_neg (by omega), if_neg (by omega), if_pos (by omega)]
  · unfold upd
    rw [if_neg (by omega), if_neg (by omega), if_neg (by omega), if_neg (by omega), if_neg (by omega), if_neg (by omega), if_neg (by omega), if_neg (by omega), if_neg (by omega), if_neg (by omega), if_neg (by omega)]
def zRv (st n : Int32) (fTo : Nat → Int32) (fNm : Nat → Nat → Int32) (X : Int32 × Int32 × Int32 × Int32 × Int32 × Int32 × Int32 × Int32 × (Nat → Int32) × (Nat → Nat → Int32) × Int32 × (Nat → Int32) × (Nat → Int32) × (Nat → Int32)) (Y : Int32 × Int32 × Int32 × Int32 × Int32 × Int32 × Int32 × (Nat → Int32) × (Nat → Int32) × Int32 × Int32) : Prop :=
  X.2.1 = Y.2.1 ∧ X.2.2.1 = Y.2.2.1 ∧ ((X.1 = 1 ∧ Y.1 = 0) ∨ (X.1 = 0 ∧ Y.1 = 1 ∧ zT st X.2.2.2.1 X.2.2.2.2.1 X.2.2.2.2.2.1 X.2.2.2.2.2.2.1 X.2.2.2.2.2.2.2.1 Y.2.2.2.1 Y.2.2.2.2.1 Y.2.2.2.2.2.1 Y.2.2.2.2.2.2.1 ∧ X.2.2.2.2.2.2.2.2.1 = upd fTo 4 (n + 1) ∧ Y.2.2.2.2.2.2.2.2.2.1 = n + 1 ∧ X.2.2.2.2.2.2.2.2.2.2.1 = n + 1 ∧ (∀ j, ¬ j = 4 → X.2.2.2.2.2.2.2.2.2.1 j = fNm j) ∧ zNA (X.2.2.2.2.2.2.2.2.2.1 4) Y.2.2.2.2.2.2.2.1 6 (n + 1) ∧ (∀ k : Nat, k < (n + 1).toNatClampNeg → zNb X.2.2.2.2.2.2.2.2.2.2.2.1 X.2.2.2.2.2.2.2.2.2.2.2.2.1 X.2.2.2.2.2.2.2.2.2.2.2.2.2 Y.2.2.2.2.2.2.2.2.1 k)))
theorem z_note {fBy ft fw fCo fTo : Nat → Int32} {fNm : Nat → Nat → Int32} {st lxa lxt lxp lxn lxl nx kd wh ap pfa pfp fa fp got : Int32} (g : zG fBy ft fw fCo st) (h : zT st lxa lxt lxp lxn lxl nx kd wh ap) (q1 : pfa = fa) (q2 : pfp = fp) {fna pna nna fNs fNf fNz nh : Nat → Int32} {n nf np ns : Int32} (hf : fTo 1 = nf) (f0 : ¬ nf < 0) (f4 : nf ≤ 4) (hF : zNA (fNm 1) fna 4 nf) (hp : fTo 2 = np) (p0 : ¬ np < 0) (p6 : np ≤ 6) (hP : zNA (fNm 2) pna 6 np) (hn : fTo 4 = n) (n0 : ¬ n < 0) (n9 : n ≤ 6) (hN : zNA (fNm 4) nna 6 n) (hb : ∀ k : Nat, k < n.toNatClampNeg → zNb fNs fNf fNz nh k) :
    ∀ X, X = fp_readNote pfa pfp st lxa lxt lxp lxn lxl fBy fCo fTo fNm ns fNs fNf fNz → ∀ Y, Y = fq_noteLine ft fw fna pna nna nh fa fp st nx kd wh ap got nf np n → zRv st n fTo fNm X Y := by
  intro X hX Y hY
  rw [hX, hY, fp_readNote, fq_noteLine]
  by_cases c4 : n = 6
  · rw [if_pos c4, z_full4 (hn.trans c4), xL_eq, xL_eq, if_pos rfl]
    exact ⟨rfl, h.2.1, Or.inl ⟨rfl, rfl⟩⟩
  rw [if_neg c4]
  apply zLl; intro X1 hX1; apply zLr; intro V1 hV1; apply zLr; intro Y1 hY1
  obtain ⟨q1, q2, q3⟩ := z_begin4 g h q1 q2 hn n0 (by lia) hN X1 hX1 V1 hV1 Y1 hY1
  rcases q3 with ⟨r1, r2⟩ | ⟨r1, r2, r3, ⟨x, r4, r5⟩, h1⟩
  · rw [if_pos r1, if_pos r2]; exact ⟨q1, q2, Or.inl ⟨rfl, rfl⟩⟩
  rw [if_neg (z10 r1), if_neg (z01 r2)]
  have w1 : ∀ j, ¬ j = 4 → X1.2.2.2.2.2.2.2.2.2 j = fNm j := fun j hj => by rw [r4]; exact va_up_ne _ _ hj
  have w2 : zNA (X1.2.2.2.2.2.2.2.2.2 4) Y1.2.1 6 (n + 1) := by
    rw [r4, r5, va_up_self]
    exact zNA_s (zia (by decide) (by decide) n0 (by lia)) n0 (by lia) hN
  have ht : upd fTo ((4 : Int32).toNatClampNeg) ((fTo ((4 : Int32).toNatClampNeg)) + 1) = upd fTo 4 (n + 1) := by
    show upd fTo 4 (fTo 4 + 1) = _
    rw [hn]
  have iN : (6 + n).toNatClampNeg = 6 + n.toNatClampNeg := zia (by decide) (by decide) n0 (by lia)
  have wm : va_up fNm 4 (X1.2.2.2.2.2.2.2.2.2 4) = X1.2.2.2.2.2.2.2.2.2 := by
    funext j
    unfold va_up
    by_cases c : j = 4
    · rw [if_pos c, c]
    · rw [if_neg c]; exact (w1 j c).symm
  rw [wm, r3, xL_eq]
  obtain ⟨nh2, z1, z2, z3⟩ := z_zero (nh := nh) (nm := Y1.2.1) (a := Y1.2.2.2.2.2.2.1) (b := Y1.2.2.2.2.2.2.2) (c := Y1.2.2.1) (d := Y1.2.2.2.1) (e := Y1.2.2.2.2.1) (f := Y1.2.2.2.2.2.1) n0 (by lia)
  rw [z1, xL_eq, xL_eq, fn_begin, if_neg n0, if_neg (by lia)]
  have hN1 : (n + 1).toNatClampNeg = n.toNatClampNeg + 1 := xi_natS n0 (by lia)
  have wN : zNA (X1.2.2.2.2.2.2.2.2.2 4) Y1.2.1 6 n := fun k hk => w2 k (by omega)
  have hF2 : zNA (X1.2.2.2.2.2.2.2.2.2 1) fna 4 nf := by rw [w1 1 (by decide)]; exact hF
  have hP2 : zNA (X1.2.2.2.2.2.2.2.2.2 2) pna 6 np := by rw [w1 2 (by decide)]; exact hP
  have hz : upd fNs n.toNatClampNeg 0 n.toNatClampNeg = 0 := if_pos rfl
  have hq := z_noteE (ns := ns) g hf f0 f4 hF2 hp p0 p6 hP2 hn n0 (by lia) wN 8 0 _ _ _ _ _ _ _ _ _ _ _ _ _ got (upd fNs n.toNatClampNeg 0) fNf fNz nh2 (by decide) (by decide) h1 q1 q2 (xcL_z hz) (fun k hk => by
    by_cases kn : k = n.toNatClampNeg
    · rw [kn]
      exact ⟨hz.trans z2.symm, fun w w0 w8 h9 => absurd (by rw [hz]; exact xb_0) h9⟩
    · exact zNb_far (hb k (by omega)) (if_neg kn) (fun j hj => rfl) (fun j hj => rfl) (fun j hj => z3 _ (by omega)))
  obtain ⟨p1, p2, p3⟩ := hq
  refine ⟨p1, p2, ?_⟩
  rcases p3 with p3 | ⟨u1, u2, u3, u4, u5, u6, u7, u8, u9⟩
  · exact Or.inl p3
  · exact Or.inr ⟨u1, u2, u3, u4, u5, u6, fun j hj => by rw [u7]; exact w1 j hj, by rw [u7, u8]; exact w2, u9⟩
