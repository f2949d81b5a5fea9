theorem zand (x : Int32) : (x &&& 255).toInt = x.toInt % 256 := by
  have h1 : (x &&& 255).toBitVec.toNat = x.toBitVec.toNat % 256 := by
    show (x.toBitVec &&& (255 : Int32).toBitVec).toNat = _
    rw [BitVec.toNat_and, show (255 : Int32).toBitVec.toNat = 2 ^ 8 - 1 from rfl, Nat.and_two_pow_sub_one_eq_mod]
  have q : ∀ y : Int32, y.toInt = y.toBitVec.toInt := fun _ => rfl
  rw [q, q, BitVec.toInt_eq_toNat_cond, BitVec.toInt_eq_toNat_cond, h1]
  have := x.toBitVec.isLt
  split <;> split <;> omega
theorem zbt (x : Int32) : zB (vp_nar .byte (x.toInt8.toInt32)) (x &&& 255) := by
  have hb : (vp_nar .byte (x.toInt8.toInt32)).toInt = x.toInt.bmod 256 := by
    rw [vp_nar_byte, Int8.toInt_toInt32, Int32.toInt_toInt8, Int8.toInt_toInt32, Int32.toInt_toInt8]
    exact Int.bmod_bmod
  have ha := zand x
  have z0 : (0 : Int32).toInt = 0 := rfl
  have z1 : (127 : Int32).toInt = 127 := rfl
  have hm := Int.bmod_def x.toInt 256
  unfold zB
  rw [Int32.lt_iff_toInt_lt, Int32.lt_iff_toInt_lt, z0, z1, hb, ha]
  by_cases c : x.toInt.bmod 256 < 0
  · refine Or.inr ⟨c, ?_⟩
    split at hm <;> omega
  · refine Or.inl ⟨c, Int32.toInt_inj.mp ?_⟩
    rw [hb, ha]
    split at hm <;> omega
theorem znj {a b : Int32} (a0 : ¬ a < 0) (b0 : ¬ b < 0) (h : a.toNatClampNeg = b.toNatClampNeg) : a = b := by
  have h1 := xi_nat a0
  have h2 := xi_nat b0
  exact Int32.toInt_inj.mp (by omega)
theorem zBu {f ft : Nat → Int32} {n b t : Int32} (h : zBy f ft n) (n0 : ¬ n < 0) (n9 : n ≤ 1000) (hb : zB b t) : zBy (upd f n.toNatClampNeg b) (upd ft n.toNatClampNeg t) (n + 1) := fun k k0 k1 => by
  unfold upd
  by_cases c : k = n
  · rw [if_pos (by rw [c]), if_pos (by rw [c])]; exact hb
  · have e : ¬ k.toNatClampNeg = n.toNatClampNeg := fun z => c (znj k0 n0 z)
    rw [if_neg e, if_neg e]; exact h k k0 (by lia)
def zu4 (ft : Nat → Int32) (x w : Int32) : Nat → Int32 := upd (upd (upd (upd ft x.toNatClampNeg ((w >>> (24 &&& 31)) &&& 255)) ((x + 1).toNatClampNeg) ((w >>> (16 &&& 31)) &&& 255)) ((x + 2).toNatClampNeg) ((w >>> (8 &&& 31)) &&& 255)) ((x + 3).toNatClampNeg) ((w >>> (0 &&& 31)) &&& 255)
theorem zp4 {f ft : Nat → Int32} {x w : Int32} (h : zBy f ft x) (x0 : ¬ x < 0) (x9 : x ≤ 896) : (fx_putFour x f w).1 = x + 4 ∧ zBy (fx_putFour x f w).2 (zu4 ft x w) (x + 4) := by
  have e2 : x + 1 + 1 = x + 2 := by lia
  have e3 : x + 2 + 1 = x + 3 := by lia
  have e4 : x + 3 + 1 = x + 4 := by lia
  rw [fx_putFour, if_neg (by lia), if_neg (by lia), if_neg (by lia), if_neg (by lia), zu4, e2, e3, e4]
  refine ⟨rfl, ?_⟩
  have s0 := zBu h x0 (by lia) (zbt (w >>> (24 &&& 31)))
  have s1 := zBu s0 (by lia) (by lia) (zbt (w >>> (16 &&& 31)))
  rw [e2] at s1
  have s2 := zBu s1 (by lia) (by lia) (zbt (w >>> (8 &&& 31)))
  rw [e3] at s2
  have s3 := zBu s2 (by lia) (by lia) (zbt (w >>> (0 &&& 31)))
  rw [e4] at s3
  exact s3
theorem zfq {ft : Nat → Int32} {x a0 a1 a2 a3 a4 : Int32} : (fq_feed_d a0 a1 a2 a3 a4 x 20 0 ft).2 = zu4 (zu4 (zu4 (zu4 (zu4 ft x a0) (x + 4) a1) (x + 8) a2) (x + 12) a3) (x + 16) a4 := by
  rw [fq_feed_d, if_neg (by decide), xL_eq, show fq_feed_j a0 a1 a2 a3 a4 (0 : Int32) = a0 from rfl, show (24 - (8 * ((0 : Int32) - 0 / 4 * 4))) &&& 31 = 24 &&& 31 from by decide, show (0 : Int32) + 1 = 1 from rfl]
  rw [fq_feed_d, if_neg (by decide), xL_eq, show fq_feed_j a0 a1 a2 a3 a4 (1 : Int32) = a0 from rfl, show (24 - (8 * ((1 : Int32) - 1 / 4 * 4))) &&& 31 = 16 &&& 31 from by decide, show (1 : Int32) + 1 = 2 from rfl]
  rw [fq_feed_d, if_neg (by decide), xL_eq, show fq_feed_j a0 a1 a2 a3 a4 (2 : Int32) = a0 from rfl, show (24 - (8 * ((2 : Int32) - 2 / 4 * 4))) &&& 31 = 8 &&& 31 from by decide, show (2 : Int32) + 1 = 3 from rfl]
  rw [fq_feed_d, if_neg (by decide), xL_eq, show fq_feed_j a0 a1 a2 a3 a4 (3 : Int32) = a0 from rfl, show (24 - (8 * ((3 : Int32) - 3 / 4 * 4))) &&& 31 = 0 &&& 31 from by decide, show (3 : Int32) + 1 = 4 from rfl]
  rw [fq_feed_d, if_neg (by decide), xL_eq, show fq_feed_j a0 a1 a2 a3 a4 (4 : Int32) = a1 from rfl, show (24 - (8 * ((4 : Int32) - 4 / 4 * 4))) &&& 31 = 24 &&& 31 from by decide, show (4 : Int32) + 1 = 5 from rfl]
  rw [fq_feed_d, if_neg (by decide), xL_eq, show fq_feed_j a0 a1 a2 a3 a4 (5 : Int32) = a1 from rfl, show (24 - (8 * ((5 : Int32) - 5 / 4 * 4))) &&& 31 = 16 &&& 31 from by decide, show (5 : Int32) + 1 = 6 from rfl]
  rw [fq_feed_d, if_neg (by decide), xL_eq, show fq_feed_j a0 a1 a2 a3 a4 (6 : Int32) = a1 from rfl, show (24 - (8 * ((6 : Int32) - 6 / 4 * 4))) &&& 31 = 8 &&& 31 from by decide, show (6 : Int32) + 1 = 7 from rfl]
  rw [fq_feed_d, if_neg (by decide), xL_eq, show fq_feed_j a0 a1 a2 a3 a4 (7 : Int32) = a1 from rfl, show (24 - (8 * ((7 : Int32) - 7 / 4 * 4))) &&& 31 = 0 &&& 31 from by decide, show (7 : Int32) + 1 = 8 from rfl]
  rw [fq_feed_d, if_neg (by decide), xL_eq, show fq_feed_j a0 a1 a2 a3 a4 (8 : Int32) = a2 from rfl, show (24 - (8 * ((8 : Int32) - 8 / 4 * 4))) &&& 31 = 24 &&& 31 from by decide, show (8 : Int32) + 1 = 9 from rfl]
  rw [fq_feed_d, if_neg (by decide), xL_eq, show fq_feed_j a0 a1 a2 a3 a4 (9 : Int32) = a2 from rfl, show (24 - (8 * ((9 : Int32) - 9 / 4 * 4))) &&& 31 = 16 &&& 31 from by decide, show (9 : Int32) + 1 = 10 from rfl]
  rw [fq_feed_d, if_neg (by decide), xL_eq, show fq_feed_j a0 a1 a2 a3 a4 (10 : Int32) = a2 from rfl, show (24 - (8 * ((10 : Int32) - 10 / 4 * 4))) &&& 31 = 8 &&& 31 from by decide, show (10 : Int32) + 1 = 11 from rfl]
  rw [fq_feed_d, if_neg (by decide), xL_eq, show fq_feed_j a0 a1 a2 a3 a4 (11 : Int32) = a2 from rfl, show (24 - (8 * ((11 : Int32) - 11 / 4 * 4))) &&& 31 = 0 &&& 31 from by decide, show (11 : Int32) + 1 = 12 from rfl]
  rw [fq_feed_d, if_neg (by decide), xL_eq, show fq_feed_j a0 a1 a2 a3 a4 (12 : Int32) = a3 from rfl, show (24 - (8 * ((12 : Int32) - 12 / 4 * 4))) &&& 31 = 24 &&& 31 from by decide, show (12 : Int32) + 1 = 13 from rfl]
  rw [fq_feed_d, if_neg (by decide), xL_eq, show fq_feed_j a0 a1 a2 a3 a4 (13 : Int32) = a3 from rfl, show (24 - (8 * ((13 : Int32) - 13 / 4 * 4))) &&& 31 = 16 &&& 31 from by decide, show (13 : Int32) + 1 = 14 from rfl]
  rw [fq_feed_d, if_neg (by decide), xL_eq, show fq_feed_j a0 a1 a2 a3 a4 (14 : Int32) = a3 from rfl, show (24 - (8 * ((14 : Int32) - 14 / 4 * 4))) &&& 31 = 8 &&& 31 from by decide, show (14 : Int32) + 1 = 15 from rfl]
  rw [fq_feed_d, if_neg (by decide), xL_eq, show fq_feed_j a0 a1 a2 a3 a4 (15 : Int32) = a3 from rfl, show (24 - (8 * ((15 : Int32) - 15 / 4 * 4))) &&& 31 = 0 &&& 31 from by decide, show (15 : Int32) + 1 = 16 from rfl]
  rw [fq_feed_d, if_neg (by decide), xL_eq, show fq_feed_j a0 a1 a2 a3 a4 (16 : Int32) = a4 from rfl, show (24 - (8 * ((16 : Int32) - 16 / 4 * 4))) &&& 31 = 24 &&& 31 from by decide, show (16 : Int32) + 1 = 17 from rfl]
  rw [fq_feed_d, if_neg (by decide), xL_eq, show fq_feed_j a0 a1 a2 a3 a4 (17 : Int32) = a4 from rfl, show (24 - (8 * ((17 : Int32) - 17 / 4 * 4))) &&& 31 = 16 &&& 31 from by decide, show (17 : Int32) + 1 = 18 from rfl]
  rw [fq_feed_d, if_neg (by decide), xL_eq, show fq_feed_j a0 a1 a2 a3 a4 (18 : Int32) = a4 from rfl, show (24 - (8 * ((18 : Int32) - 18 / 4 * 4))) &&& 31 = 8 &&& 31 from by decide, show (18 : Int32) + 1 = 19 from rfl]
  rw [fq_feed_d, if_neg (by decide), xL_eq, show fq_feed_j a0 a1 a2 a3 a4 (19 : Int32) = a4 from rfl, show (24 - (8 * ((19 : Int32) - 19 / 4 * 4))) &&& 31 = 0 &&& 31 from by decide, show (19 : Int32) + 1 = 20 from rfl]
  rw [fq_feed_d]
  unfold zu4
  rw [show x + 0 = x from by lia, show x + 4 + 1 = x + 5 from by lia, show x + 4 + 2 = x + 6 from by lia, show x + 4 + 3 = x + 7 from by lia, show x + 8 + 1 = x + 9 from by lia, show x + 8 + 2 = x + 10 from by lia, show x + 8 + 3 = x + 11 from by lia, show x + 12 + 1 = x + 13 from by lia, show x + 12 + 2 = x + 14 from by lia, show x + 12 + 3 = x + 15 from by lia, show x + 16 + 1 = x + 17 from by lia, show x + 16 + 2 = x + 18 from by lia, show x + 16 + 3 = x + 19 from by lia]
theorem zfeed {x y1 y2 y3 y4 y5 : Int32} {f ft : Nat → Int32} (x0 : ¬ x < 0) (x9 : x ≤ 900) (h : zBy f ft x) : zBy (fx_feed x f y1 y2 y3 y4 y5).2.2 (fq_feed ft y1 y2 y3 y4 y5 x).2.2.2 (fx_feed x f y1 y2 y3 y4 y5).2.1 := by
  rw [fx_feed, fq_feed]
  by_cases c : (x + 20) ≤ 900
  · rw [if_pos c, if_pos c, xL_eq]
    have g1 : x ≤ 880 := by lia
    obtain ⟨a1, b1⟩ := zp4 (w := y1) h x0 (by lia)
    generalize fx_putFour x f y1 = p1 at a1 b1 ⊢
    rw [← a1] at b1
    obtain ⟨a2, b2⟩ := zp4 (w := y2) b1 (by rw [a1]; lia) (by rw [a1]; lia)
    generalize fx_putFour p1.1 p1.2 y2 = p2 at a2 b2 ⊢
    rw [← a2] at b2
    rw [a1, show x + 4 + 4 = x + 8 from by lia] at a2
    obtain ⟨a3, b3⟩ := zp4 (w := y3) b2 (by rw [a2]; lia) (by rw [a2]; lia)
    generalize fx_putFour p2.1 p2.2 y3 = p3 at a3 b3 ⊢
    rw [← a3] at b3
    rw [a2, show x + 8 + 4 = x + 12 from by lia] at a3
    obtain ⟨a4, b4⟩ := zp4 (w := y4) b3 (by rw [a3]; lia) (by rw [a3]; lia)
    generalize fx_putFour p3.1 p3.2 y4 = p4 at a4 b4 ⊢
    rw [← a4] at b4
    rw [a3, show x + 12 + 4 = x + 16 from by lia] at a4
    obtain ⟨a5, b5⟩ := zp4 (w := y5) b4 (by rw [a4]; lia) (by rw [a4]; lia)
    generalize fx_putFour p4.1 p4.2 y5 = p5 at a5 b5 ⊢
    rw [← a5] at b5
    rw [a1, a2, a3, a4] at b5
    show zBy p5.2 (fq_feed_d y1 y2 y3 y4 y5 x 20 0 ft).2 p5.1
    rw [zfq]
    exact b5
  · rw [if_neg c, if_neg c]
    exact h
theorem zBy_0 {f ft : Nat → Int32} : zBy f ft 0 := fun k k0 k1 => absurd k1 k0
theorem zTp {y x x' : Int32} {f ft : Nat → Int32} (F : (y < 0 → x' = x) ∧ (x < y → x' = x) ∧ (¬ y < 0 → y ≤ x → x' = 0)) (h : zBy f ft x) : zBy f ft x' := by
  by_cases c : y < 0
  · rw [F.1 c]; exact h
  · by_cases d : x < y
    · rw [F.2.1 d]; exact h
    · rw [F.2.2 c (Int32.not_lt.mp d)]; exact zBy_0
set_option maxRecDepth 100000 in
theorem zCo_G : zCo xk_G := by
  unfold zCo
  decide +kernel
