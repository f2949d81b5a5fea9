section XDG
variable {f : Nat → Int32} {a0 : Int32} {c y : Int64}
theorem xD_beg0 (hG : f (((3 * a0) + 1).toNatClampNeg) = 0) (y1 : 1 ≤ y.toInt) (yb : (y.toInt - 1) * (f ((3 * a0).toNatClampNeg)).toInt ≤ 3000000000000) (hA : 0 ≤ (f ((3 * a0).toNatClampNeg)).toInt) (y9 : y.toInt ≤ 10000000000000) : (fq_beginOf f a0 y).toInt = (f (((3 * a0) + 2).toNatClampNeg)).toInt + (y.toInt - 1) * (f ((3 * a0).toNatClampNeg)).toInt := by
  unfold fq_beginOf
  rw [hG, if_pos (by decide), show (0 : Int32).toInt64 = 0 from rfl]
  generalize f ((3 * a0).toNatClampNeg) = A at *
  generalize f (((3 * a0) + 2).toNatClampNeg) = B
  generalize (((y - 1) * (y - 2)) / 2) = Z
  rw [show (B.toInt64 + (y - 1) * A.toInt64) + (0 * Z) = B.toInt64 + (y - 1) * A.toInt64 by lia]
  have e1 : (1 : Int64).toInt = 1 := rfl
  have hb := Int32.toInt_lt B
  have hb2 := Int32.le_toInt B
  have q1 : (y.toInt - 1).bmod (2 ^ 64) = y.toInt - 1 := Int.bmod_eq_of_le (by omega) (by omega)
  have p0 : 0 ≤ (y.toInt - 1) * A.toInt := Int.mul_nonneg (by omega) hA
  have q2 : ((y.toInt - 1) * A.toInt).bmod (2 ^ 64) = (y.toInt - 1) * A.toInt := Int.bmod_eq_of_le (by omega) (by omega)
  rw [Int64.toInt_add, Int64.toInt_mul, Int64.toInt_sub, e1, q1, Int32.toInt_toInt64, Int32.toInt_toInt64, q2]
  exact Int.bmod_eq_of_le (by omega) (by omega)
theorem xD_len0 (hG : f (((3 * a0) + 1).toNatClampNeg) = 0) : fq_lengthOf f a0 y = (f ((3 * a0).toNatClampNeg)).toInt64 := by
  unfold fq_lengthOf
  rw [hG, show (0 : Int32).toInt64 = 0 from rfl]
  lia
/-- where the years stay alike, each count from the first one on has a date -/
theorem xD_loop (hG : f (((3 * a0) + 1).toNatClampNeg) = 0) (hA : 1 ≤ (f ((3 * a0).toNatClampNeg)).toInt) (hc : (f (((3 * a0) + 2).toNatClampNeg)).toInt ≤ c.toInt) (c9 : c.toInt ≤ 2000000000000) {q : Int64} (hq : q.toInt = (c.toInt - (f (((3 * a0) + 2).toNatClampNeg)).toInt) / (f ((3 * a0).toNatClampNeg)).toInt + 1) :
    ∀ (n : Nat) (L : Int64), 1 ≤ L.toInt → L.toInt ≤ q.toInt → q.toInt - L.toInt < (2 : Int) ^ n → (fq_date1_d f a0 c n L q).1 = 1 := by
  have hb := Int32.toInt_lt (f (((3 * a0) + 2).toNatClampNeg))
  have hb2 := Int32.le_toInt (f (((3 * a0) + 2).toNatClampNeg))
  have hm : ((c.toInt - (f (((3 * a0) + 2).toNatClampNeg)).toInt) / (f ((3 * a0).toNatClampNeg)).toInt) * (f ((3 * a0).toNatClampNeg)).toInt ≤ c.toInt - (f (((3 * a0) + 2).toNatClampNeg)).toInt := Int.ediv_mul_le _ (by omega)
  have hm2 : c.toInt - (f (((3 * a0) + 2).toNatClampNeg)).toInt < ((c.toInt - (f (((3 * a0) + 2).toNatClampNeg)).toInt) / (f ((3 * a0).toNatClampNeg)).toInt + 1) * (f ((3 * a0).toNatClampNeg)).toInt := Int.lt_ediv_add_one_mul_self _ (by omega)
  have hq0 : 0 ≤ (c.toInt - (f (((3 * a0) + 2).toNatClampNeg)).toInt) / (f ((3 * a0).toNatClampNeg)).toInt := Int.ediv_nonneg (by omega) (by omega)
  have hq9 : (c.toInt - (f (((3 * a0) + 2).toNatClampNeg)).toInt) / (f ((3 * a0).toNatClampNeg)).toInt ≤ c.toInt - (f (((3 * a0) + 2).toNatClampNeg)).toInt := Int.ediv_le_self _ (by omega)
  have mono : ∀ y : Int64, 1 ≤ y.toInt → y.toInt ≤ q.toInt → (y.toInt - 1) * (f ((3 * a0).toNatClampNeg)).toInt ≤ c.toInt - (f (((3 * a0) + 2).toNatClampNeg)).toInt := fun y h1 h2 => Int.le_trans (Int.mul_le_mul_of_nonneg_right (show y.toInt - 1 ≤ (c.toInt - (f (((3 * a0) + 2).toNatClampNeg)).toInt) / (f ((3 * a0).toNatClampNeg)).toInt by omega) (by omega)) hm
  have beg : ∀ y : Int64, 1 ≤ y.toInt → y.toInt ≤ q.toInt → (fq_beginOf f a0 y).toInt = (f (((3 * a0) + 2).toNatClampNeg)).toInt + (y.toInt - 1) * (f ((3 * a0).toNatClampNeg)).toInt := fun y h1 h2 => xD_beg0 hG h1 (by have := mono y h1 h2; omega) (by omega) (by omega)
  have fin : ∀ L : Int64, L.toInt = q.toInt → ¬ 0 < lg_cmp ((c - fq_beginOf f a0 L) + 1) (fq_lengthOf f a0 L) := by
    intro L hL h
    have h := (lg_cmp_gt _ _).mp h
    rw [xD_len0 hG, Int64.lt_iff_toInt_lt, Int32.toInt_toInt64] at h
    have hbq := beg L (by omega) (by omega)
    have hmq := mono L (by omega) (by omega)
    have p0 : 0 ≤ (L.toInt - 1) * (f ((3 * a0).toNatClampNeg)).toInt := Int.mul_nonneg (by omega) (by omega)
    have e1 : (1 : Int64).toInt = 1 := rfl
    have q1 : (c.toInt - (fq_beginOf f a0 L).toInt).bmod (2 ^ 64) = c.toInt - (fq_beginOf f a0 L).toInt := Int.bmod_eq_of_le (by omega) (by omega)
    have q2 : (c.toInt - (fq_beginOf f a0 L).toInt + 1).bmod (2 ^ 64) = c.toInt - (fq_beginOf f a0 L).toInt + 1 := Int.bmod_eq_of_le (by omega) (by omega)
    rw [Int64.toInt_add, Int64.toInt_sub, e1, q1, q2, hbq] at h
    have hLq : L.toInt - 1 = (c.toInt - (f (((3 * a0) + 2).toNatClampNeg)).toInt) / (f ((3 * a0).toNatClampNeg)).toInt := by omega
    rw [hLq] at h
    rw [Int.add_mul, Int.one_mul] at hm2
    omega
  intro n
  induction n with
  | zero =>
    intro L h1 h2 h3
    rw [fq_date1_d, xL_eq, xL_eq, if_neg (fin L (by have : (2 : Int) ^ 0 = 1 := rfl; omega))]
  | succ n ih =>
    intro L h1 h2 h3
    rw [fq_date1_d]
    by_cases h : 0 ≤ lg_cmp L q
    · have h := (lg_cmp_ge _ _).mp h
      rw [Int64.le_iff_toInt_le] at h
      rw [if_pos ((lg_cmp_ge _ _).mpr (Int64.le_iff_toInt_le.mpr h)), xL_eq, xL_eq, if_neg (fin L (by omega))]
    · have hlt : L < q := Int64.not_le.mp (fun z => h ((lg_cmp_ge _ _).mpr z))
      have hL1 : ¬ L < 1 := by
        rw [Int64.lt_iff_toInt_lt]
        have e1 : (1 : Int64).toInt = 1 := rfl
        omega
      have hq2 : q ≤ 10000000000000 := by
        rw [Int64.le_iff_toInt_le]
        have e9 : (10000000000000 : Int64).toInt = 10000000000000 := rfl
        omega
      have hmid := xd_mid hL1 hlt hq2
      have hltI := Int64.lt_iff_toInt_lt.mp hlt
      rw [if_neg h, xL_eq]
      have hbm := beg (((L + q) + 1) / 2) (by omega) (by omega)
      have hmm := mono (((L + q) + 1) / 2) (by omega) (by omega)
      have hnot : ¬ 0 < lg_cmp (fq_beginOf f a0 (((L + q) + 1) / 2)) c := fun z => by
        have z := (lg_cmp_gt _ _).mp z
        rw [Int64.lt_iff_toInt_lt, hbm] at z
        omega
      rw [if_neg hnot]
      have hp := xd_g1 (n := n) hL1 hlt hq2 h3
      exact ih _ (by omega) (by omega) hp
theorem xD_from {yy dd : Int64} {X : Int32 × (Int64) × (Int64)} (hX : X = fq_date1 f a0 c yy dd) (hr : ¬ X.1 = 0) : 0 ≤ lg_cmp c ((f (((3 * a0) + 2).toNatClampNeg)).toInt64) := by
  by_cases h : 0 ≤ lg_cmp c ((f (((3 * a0) + 2).toNatClampNeg)).toInt64)
  · exact h
  · exact absurd (by rw [hX, fq_date1, if_neg h]) hr
theorem xD_g0 {yy dd : Int64} {X : Int32 × (Int64) × (Int64)} (hX : X = fq_date1 f a0 c yy dd) (hr : X.1 = 0) (hcmp : 0 ≤ lg_cmp c ((f (((3 * a0) + 2).toNatClampNeg)).toInt64)) (hA : ¬ (f ((3 * a0).toNatClampNeg)) < 1) (c0 : ¬ c < 0) (c9 : c ≤ 2000000000000) : ¬ (f (((3 * a0) + 1).toNatClampNeg)) = 0 := by
  intro hG
  have hA1 := xi_le (Int32.not_lt.mp hA)
  have e1 : (1 : Int32).toInt = 1 := rfl
  have hA9 := Int32.toInt_lt (f ((3 * a0).toNatClampNeg))
  have hc := (lg_cmp_ge _ _).mp hcmp
  rw [Int64.le_iff_toInt_le, Int32.toInt_toInt64] at hc
  have c9' := Int64.le_iff_toInt_le.mp c9
  have e9 : (2000000000000 : Int64).toInt = 2000000000000 := rfl
  have hb := Int32.toInt_lt (f (((3 * a0) + 2).toNatClampNeg))
  have hb2 := Int32.le_toInt (f (((3 * a0) + 2).toNatClampNeg))
  have ej : fq_date1_j f a0 c = (((c - ((f (((3 * a0) + 2).toNatClampNeg)).toInt64)) / ((f ((3 * a0).toNatClampNeg)).toInt64)) + 1) := by
    unfold fq_date1_j
    rw [hG, if_pos (by decide), if_pos (by decide)]
  have eq1 : (c.toInt - (f (((3 * a0) + 2).toNatClampNeg)).toInt).bmod (2 ^ 64) = c.toInt - (f (((3 * a0) + 2).toNatClampNeg)).toInt := Int.bmod_eq_of_le (by omega) (by omega)
  have hq0 : 0 ≤ (c.toInt - (f (((3 * a0) + 2).toNatClampNeg)).toInt) / (f ((3 * a0).toNatClampNeg)).toInt := Int.ediv_nonneg (by omega) (by omega)
  have hq9 : (c.toInt - (f (((3 * a0) + 2).toNatClampNeg)).toInt) / (f ((3 * a0).toNatClampNeg)).toInt ≤ c.toInt - (f (((3 * a0) + 2).toNatClampNeg)).toInt := Int.ediv_le_self _ (by omega)
  have hq : (fq_date1_j f a0 c).toInt = (c.toInt - (f (((3 * a0) + 2).toNatClampNeg)).toInt) / (f ((3 * a0).toNatClampNeg)).toInt + 1 := by
    have e1' : (1 : Int64).toInt = 1 := rfl
    rw [ej, Int64.toInt_add, Int64.toInt_div, Int64.toInt_sub, Int32.toInt_toInt64, Int32.toInt_toInt64, eq1, Int.tdiv_eq_ediv_of_nonneg (by omega), e1', Int.bmod_eq_of_le (n := (c.toInt - (f (((3 * a0) + 2).toNatClampNeg)).toInt) / (f ((3 * a0).toNatClampNeg)).toInt) (m := 2 ^ 64) (by omega) (by omega)]
    exact Int.bmod_eq_of_le (by omega) (by omega)
  have hl := xD_loop hG (by omega) hc (by omega) hq 64 1 (by decide) (by rw [hq]; have : (1 : Int64).toInt = 1 := rfl; omega) (by
    have e1' : (1 : Int64).toInt = 1 := rfl
    have e64 : (2 : Int) ^ 64 = 18446744073709551616 := by decide
    omega)
  rw [hX, fq_date1, if_pos hcmp, xL_eq, hl] at hr
  exact absurd hr (by decide)
end XDG
