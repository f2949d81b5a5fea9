theorem xb_cl (x w : Int32) (n m : Nat) (hs : ((w &&& 31).toBitVec.smod 32).toNat = n) (hm : m < 32) : xb (x &&& (((1 : Int32) <<< (w &&& 31)) ^^^ (-1))) m = (xb x m && !decide (m = n)) := by
  have e : (-1 : Int32).toBitVec = BitVec.allOnes 32 := by decide
  show (x.toBitVec &&& ((1#32 <<< ((w &&& 31).toBitVec.smod 32).toNat) ^^^ (-1 : Int32).toBitVec)).getLsbD m = _
  rw [hs, e, BitVec.getLsbD_and, BitVec.getLsbD_xor, BitVec.getLsbD_shiftLeft, BitVec.getLsbD_one, BitVec.getLsbD_allOnes]
  show (xb x m && _) = _
  congr 1
  by_cases h1 : m = n
  · subst h1; simp [hm]
  · by_cases h2 : m < n
    · simp [h1, h2, hm]
    · have h3 : ¬ m - n = 0 := by omega
      simp [h1, h3, hm]
theorem xb_t {x w : Int32} (h0 : ¬ w < 0) (h8 : w < 8) (hb : ¬ fq_isOf x w = 0) : xb x w.toNatClampNeg = true := by
  cases hq : xb x w.toNatClampNeg with
  | true => rfl
  | false => exact absurd ((xb_isOf h0 h8).mpr hq) hb
theorem xc8_cl {x w : Int32} (h0 : ¬ w < 0) (h8 : w < 8) (hb : ¬ fq_isOf x w = 0) : xc8 (x &&& (((1 : Int32) <<< (w &&& 31)) ^^^ (-1))) + 1 = xc8 x := by
  have h := xb_sm h0 h8
  have hb := xb_t h0 h8 hb
  unfold xc8
  rw [xb_cl x w _ 0 h.1 (by omega), xb_cl x w _ 1 h.1 (by omega), xb_cl x w _ 2 h.1 (by omega), xb_cl x w _ 3 h.1 (by omega), xb_cl x w _ 4 h.1 (by omega), xb_cl x w _ 5 h.1 (by omega), xb_cl x w _ 6 h.1 (by omega), xb_cl x w _ 7 h.1 (by omega)]
  generalize w.toNatClampNeg = n at hb h
  rcases (show n = 0 ∨ n = 1 ∨ n = 2 ∨ n = 3 ∨ n = 4 ∨ n = 5 ∨ n = 6 ∨ n = 7 by omega) with rfl | rfl | rfl | rfl | rfl | rfl | rfl | rfl <;> simp [hb] <;> omega
theorem xb_clf {x w k : Int32} (h0 : ¬ w < 0) (h8 : w < 8) (k0 : ¬ k < 0) (k8 : k < 8) (h : ¬ fq_isOf (x &&& (((1 : Int32) <<< (w &&& 31)) ^^^ (-1))) k = 0) : ¬ fq_isOf x k = 0 := fun hz => h (by
  have hs := xb_sm h0 h8
  have hk := xb_sm k0 k8
  rw [xb_isOf k0 k8] at hz ⊢
  rw [xb_cl x w _ _ hs.1 (by omega), hz]
  rfl)
theorem xb_orcl {x w : Int32} (h0 : ¬ w < 0) (h8 : w < 8) (hb : fq_isOf x w = 0) : (x ||| ((1 : Int32) <<< (w &&& 31))) &&& (((1 : Int32) <<< (w &&& 31)) ^^^ (-1)) = x := by
  have h := xb_sm h0 h8
  have hb := (xb_isOf h0 h8).mp hb
  rw [← Int32.toBitVec_inj]
  refine BitVec.eq_of_getLsbD_eq (fun m hm => ?_)
  show xb _ m = xb x m
  rw [xb_cl _ w _ m h.1 hm, xb_or x w _ m h.1 hm]
  by_cases e : m = w.toNatClampNeg
  · rw [e, hb]
    simp
  · simp [e]
theorem xb_orb {x w : Int32} (h0 : ¬ w < 0) (h8 : w < 8) : ¬ fq_isOf (x ||| ((1 : Int32) <<< (w &&& 31))) w = 0 := fun hz => by
  have h := xb_sm h0 h8
  rw [xb_isOf h0 h8, xb_or x w _ _ h.1 (by omega)] at hz
  simp at hz
/-- what can be undone was done: u steps, n notes, h their words -/
def yP (fu : Nat → Int32) : Nat → Nat → (Nat → Int32) → Prop
  | 0, _, _ => True
  | u + 1, n, h => 1 ≤ n ∧ ((fu u < 0 ∧ yP fu u (n - 1) h) ∨ (¬ fu u < 0 ∧ fu u < 8 ∧ ¬ fq_isOf (h (n - 1)) (fu u) = 0 ∧ yP fu u n (upd h (n - 1) ((h (n - 1)) &&& (((1 : Int32) <<< ((fu u) &&& 31)) ^^^ (-1))))))
theorem yP_h {fu : Nat → Int32} : ∀ (u n : Nat) (h h' : Nat → Int32), (∀ k, k < n → h' k = h k) → yP fu u n h → yP fu u n h'
  | 0, _, _, _, _, _ => trivial
  | u + 1, n, h, h', e, q => by
    rw [yP] at q ⊢
    obtain ⟨h1, q⟩ := q
    refine ⟨h1, ?_⟩
    rcases q with ⟨a, b⟩ | ⟨a, b, c, d⟩
    · exact Or.inl ⟨a, yP_h u (n - 1) h h' (fun k hk => e k (by omega)) b⟩
    · have e1 := e (n - 1) (by omega)
      refine Or.inr ⟨a, b, by rw [e1]; exact c, ?_⟩
      refine yP_h u n _ _ (fun k hk => ?_) d
      rw [e1]
      unfold upd
      by_cases z : k = n - 1
      · rw [if_pos z, if_pos z]
      · rw [if_neg z, if_neg z]
        exact e k hk
theorem yP_f {fu fu' : Nat → Int32} : ∀ (u n : Nat) (h : Nat → Int32), (∀ k, k < u → fu' k = fu k) → yP fu u n h → yP fu' u n h
  | 0, _, _, _, _ => trivial
  | u + 1, n, h, e, q => by
    rw [yP] at q ⊢
    obtain ⟨h1, q⟩ := q
    refine ⟨h1, ?_⟩
    rw [e u (Nat.lt_succ_self u)]
    rcases q with ⟨a, b⟩ | ⟨a, b, c, d⟩
    · exact Or.inl ⟨a, yP_f u _ _ (fun k hk => e k (by omega)) b⟩
    · exact Or.inr ⟨a, b, c, yP_f u _ _ (fun k hk => e k (by omega)) d⟩
def yF8 (h : Nat → Int32) : Nat → Nat
  | 0 => 0
  | n + 1 => yF8 h n + 1 + xc8 (h n)
theorem yF8_le (h : Nat → Int32) : ∀ n, yF8 h n ≤ 9 * n
  | 0 => Nat.le_refl 0
  | n + 1 => by
    have h1 := yF8_le h n
    have h2 := xc8_le (h n)
    rw [yF8]
    omega
theorem yF8_c {h h' : Nat → Int32} : ∀ n, (∀ k, k < n → h' k = h k) → yF8 h' n = yF8 h n
  | 0, _ => rfl
  | n + 1, e => by rw [yF8, yF8, yF8_c n (fun k hk => e k (by omega)), e n (Nat.lt_succ_self n)]
theorem yP_le {fu : Nat → Int32} : ∀ (u n : Nat) (h : Nat → Int32), yP fu u n h → u ≤ yF8 h n
  | 0, _, _, _ => Nat.zero_le _
  | u + 1, n, h, q => by
    rw [yP] at q
    obtain ⟨h1, q⟩ := q
    obtain ⟨m, rfl⟩ : ∃ m, n = m + 1 := ⟨n - 1, by omega⟩
    rw [Nat.add_sub_cancel] at q
    rcases q with ⟨a, b⟩ | ⟨a, b, c, d⟩
    · have h2 := yP_le u _ _ b
      rw [yF8]
      omega
    · have h2 := yP_le u _ _ d
      rw [yF8, yF8_c (h := h) (h' := upd h m ((h m) &&& (((1 : Int32) <<< ((fu u) &&& 31)) ^^^ (-1)))) m (fun k hk => if_neg (by omega)), show upd h m ((h m) &&& (((1 : Int32) <<< ((fu u) &&& 31)) ^^^ (-1))) m = (h m) &&& (((1 : Int32) <<< ((fu u) &&& 31)) ^^^ (-1)) from if_pos rfl] at h2
      have h3 := xc8_cl a b c
      rw [yF8]
      omega
/-- of the rows: what can be undone -/
def yPu (fu fh : Nat → Int32) (u n : Int32) : Prop := yP fu u.toNatClampNeg n.toNatClampNeg (fun k => fh (11 * k))
section YPU
variable {fu fh fh' : Nat → Int32} {u n np nf : Int32}
theorem yi_nz {a : Int32} (h0 : ¬ a < 0) (h : ¬ a = 0) : a.toNatClampNeg = (a - 1).toNatClampNeg + 1 := by
  have r2 := xi_nat h0
  have r3 := xi_nat (w := a - 1) (by lia)
  have e1 : (1 : Int32).toInt = 1 := rfl
  have r4 : (a - 1).toInt = a.toInt - 1 := by
    have b0 := xi_nn h0
    have b9 := Int32.toInt_lt a
    rw [Int32.toInt_sub, e1]
    exact Int.bmod_eq_of_le (by omega) (by omega)
  have r5 : ¬ a.toInt = 0 := fun q => h (Int32.toInt_inj.mp q)
  omega
theorem yPu_le (n0 : ¬ n < 0) (n2 : n ≤ 12) (u0 : ¬ u < 0) (q : yPu fu fh u n) : u ≤ 108 := by
  have h1 := yP_le _ _ _ q
  have h2 := yF8_le (fun k => fh (11 * k)) n.toNatClampNeg
  have h3 := xi_nat n0
  have h4 := xi_nat u0
  have h5 := xi_le n2
  have e12 : (12 : Int32).toInt = 12 := rfl
  have e108 : (108 : Int32).toInt = 108 := rfl
  exact Int32.le_iff_toInt_le.mpr (by omega)
theorem yPu_1 (n0 : ¬ n < 0) (u0 : ¬ u < 0) (q : yPu fu fh u n) : u = 0 ∨ ¬ n < 1 := by
  by_cases e : u = 0
  · exact Or.inl e
  · refine Or.inr (fun h => ?_)
    unfold yPu at q
    rw [yi_nz u0 e, yP] at q
    have h3 := xi_nat n0
    have h4 := Int32.lt_iff_toInt_lt.mp h
    have e1 : (1 : Int32).toInt = 1 := rfl
    have := q.1
    omega
theorem yPu_c (e : ∀ i, i < 132 → fh' i = fh i) (n0 : ¬ n < 0) (n2 : n ≤ 12) (q : yPu fu fh u n) : yPu fu fh' u n := by
  have h2 := xi_nle n0 n2
  rw [show (12 : Int32).toNatClampNeg = 12 from rfl] at h2
  exact yP_h _ _ _ _ (fun k hk => e (11 * k) (by omega)) q
theorem yPu_0 : yPu fu fh 0 n := trivial
theorem yPu_note (u0 : ¬ u < 0) (u9 : u ≤ 108) (n0 : ¬ n < 0) (n2 : n ≤ 12) (q : yPu fu fh u n) (e : ∀ i, i < 11 * n.toNatClampNeg → fh' i = fh i) : yPu (upd fu u.toNatClampNeg (-1)) fh' (u + 1) (n + 1) := by
  unfold yPu at *
  rw [xi_natS u0 (by lia), xi_natS n0 (by lia), yP]
  refine ⟨by omega, Or.inl ⟨?_, ?_⟩⟩
  · rw [show upd fu u.toNatClampNeg (-1) u.toNatClampNeg = -1 from if_pos rfl]
    decide
  · rw [Nat.add_sub_cancel]
    exact yP_f _ _ _ (fun k hk => if_neg (by omega)) (yP_h _ _ _ _ (fun k hk => e (11 * k) (by omega)) q)
theorem yPu_says {w : Int32} (u0 : ¬ u < 0) (u9 : u ≤ 108) (n1 : ¬ n < 1) (n2 : n ≤ 12) (w0 : ¬ w < 0) (w8 : w < 8) (q : yPu fu fh u n) (hb : fq_isOf (fh (11 * (n - 1).toNatClampNeg)) w = 0) (e : ∀ k, k < (n - 1).toNatClampNeg → fh' (11 * k) = fh (11 * k)) (e2 : fh' (11 * (n - 1).toNatClampNeg) = (fh (11 * (n - 1).toNatClampNeg)) ||| ((1 : Int32) <<< (w &&& 31))) : yPu (upd fu u.toNatClampNeg w) fh' (u + 1) n := by
  unfold yPu at *
  have hn := yi_nz (a := n) (by lia) (by lia)
  generalize (n - 1).toNatClampNeg = m at hn hb e e2 ⊢
  rw [xi_natS u0 (by lia), yP]
  have ew : upd fu u.toNatClampNeg w u.toNatClampNeg = w := if_pos rfl
  rw [ew, hn, Nat.add_sub_cancel]
  rw [hn] at q
  refine ⟨by omega, Or.inr ⟨w0, w8, ?_, ?_⟩⟩
  · show ¬ fq_isOf (fh' (11 * m)) w = 0
    rw [e2]
    exact xb_orb w0 w8
  · refine yP_f _ _ _ (fun k hk => if_neg (by omega)) (yP_h _ _ _ _ (fun k hk => ?_) q)
    show upd (fun k => fh' (11 * k)) m ((fh' (11 * m)) &&& (((1 : Int32) <<< (w &&& 31)) ^^^ (-1))) k = fh (11 * k)
    rw [e2, xb_orcl w0 w8 hb]
    unfold upd
    by_cases z : k = m
    · rw [if_pos z, z]
    · rw [if_neg z]
      exact e k (by omega)
end YPU
/-- what the notes say of people, feasts and notes is there: by a machine number, by a count -/
def yNA (f : Nat → Int32) (n np nf : Int32) : Prop := ∀ k : Int32, ¬ k < 0 → k < n → (¬ fq_isOf (f ((11 * k).toNatClampNeg)) 5 = 0 → ¬ (f (((11 * k) + 7).toNatClampNeg)) < 0 ∧ (f (((11 * k) + 7).toNatClampNeg)) < np) ∧ (¬ fq_isOf (f ((11 * k).toNatClampNeg)) 6 = 0 → ¬ (f (((11 * k) + 8).toNatClampNeg)) < 0 ∧ (f (((11 * k) + 8).toNatClampNeg)) < nf) ∧ (¬ fq_isOf (f ((11 * k).toNatClampNeg)) 7 = 0 → ¬ (f (((11 * k) + 9).toNatClampNeg)) < 0 ∧ (f (((11 * k) + 9).toNatClampNeg)) < k)
def yNN (f : Nat → Int32) (n np nf : Int32) : Prop := ∀ k : Nat, k < n.toNatClampNeg → xNb f (11 * k) np nf k
theorem yK12 {k : Nat} (h : k < 12) : ∃ z : Int32, ¬ z < 0 ∧ z ≤ 11 ∧ z.toNatClampNeg = k := by
  rcases (show k = 0 ∨ k = 1 ∨ k = 2 ∨ k = 3 ∨ k = 4 ∨ k = 5 ∨ k = 6 ∨ k = 7 ∨ k = 8 ∨ k = 9 ∨ k = 10 ∨ k = 11 by omega) with rfl | rfl | rfl | rfl | rfl | rfl | rfl | rfl | rfl | rfl | rfl | rfl
  · exact ⟨0, by decide, by decide, rfl⟩
  · exact ⟨1, by decide, by decide, rfl⟩
  · exact ⟨2, by decide, by decide, rfl⟩
  · exact ⟨3, by decide, by decide, rfl⟩
  · exact ⟨4, by decide, by decide, rfl⟩
  · exact ⟨5, by decide, by decide, rfl⟩
  · exact ⟨6, by decide, by decide, rfl⟩
  · exact ⟨7, by decide, by decide, rfl⟩
  · exact ⟨8, by decide, by decide, rfl⟩
  · exact ⟨9, by decide, by decide, rfl⟩
  · exact ⟨10, by decide, by decide, rfl⟩
  · exact ⟨11, by decide, by decide, rfl⟩
section YNN
variable {f g : Nat → Int32} {n np nf w : Int32}
theorem yNA_of (l0 : ¬ n < 0) (l4 : n ≤ 12) (q : yNN f n np nf) : yNA f n np nf := by
  intro k k0 k4
  have h1 := xi_nlt k0 k4
  rw [xl_m0 11 (by decide) (by decide) k0 (by lia), xl_mj 11 (by decide) (by decide) k0 (by lia) (j := 7) (by decide) (by decide), xl_mj 11 (by decide) (by decide) k0 (by lia) (j := 8) (by decide) (by decide), xl_mj 11 (by decide) (by decide) k0 (by lia) (j := 9) (by decide) (by decide), show (11 : Int32).toNatClampNeg = 11 from rfl, show (7 : Int32).toNatClampNeg = 7 from rfl, show (8 : Int32).toNatClampNeg = 8 from rfl, show (9 : Int32).toNatClampNeg = 9 from rfl]
  obtain ⟨a, b, c⟩ := q _ h1
  refine ⟨a, b, fun e => ⟨(c e).1, ?_⟩⟩
  have := (c e).2
  rw [xi_nat k0] at this
  exact Int32.lt_iff_toInt_lt.mpr this
theorem yNN_of (l0 : ¬ n < 0) (l4 : n ≤ 12) (q : yNA f n np nf) : yNN f n np nf := by
  intro k hk
  have hn := xi_nle l0 l4
  rw [show (12 : Int32).toNatClampNeg = 12 from rfl] at hn
  obtain ⟨z, z0, z9, rfl⟩ := yK12 (k := k) (by omega)
  have r1 := xi_nat z0
  have r2 := xi_nat l0
  have h := q z z0 (Int32.lt_iff_toInt_lt.mpr (by omega))
  rw [xl_m0 11 (by decide) (by decide) z0 (by lia), xl_mj 11 (by decide) (by decide) z0 (by lia) (j := 7) (by decide) (by decide), xl_mj 11 (by decide) (by decide) z0 (by lia) (j := 8) (by decide) (by decide), xl_mj 11 (by decide) (by decide) z0 (by lia) (j := 9) (by decide) (by decide), show (11 : Int32).toNatClampNeg = 11 from rfl, show (7 : Int32).toNatClampNeg = 7 from rfl, show (8 : Int32).toNatClampNeg = 8 from rfl, show (9 : Int32).toNatClampNeg = 9 from rfl] at h
  obtain ⟨a, b, c⟩ := h
  refine ⟨a, b, fun e => ⟨(c e).1, ?_⟩⟩
  rw [xi_nat z0]
  exact Int32.lt_iff_toInt_lt.mp (c e).2
theorem yNN_c (n0 : ¬ n < 0) (n2 : n ≤ 12) (e : ∀ i, i < 132 → g i = f i) (q : yNN f n np nf) : yNN g n np nf := by
  intro k hk
  have h2 := xi_nle n0 n2
  rw [show (12 : Int32).toNatClampNeg = 12 from rfl] at h2
  exact xNb_c (fun i _ hi => e i (by omega)) (q k hk)
theorem yNN_note (n0 : ¬ n < 0) (n2 : n ≤ 12) (q : yNN f n np nf) (e : ∀ i, i < 11 * n.toNatClampNeg → g i = f i) (ez : g (11 * n.toNatClampNeg) = 0) : yNN g (n + 1) np nf := by
  intro k hk
  rw [xi_natS n0 (by lia)] at hk
  by_cases z : k = n.toNatClampNeg
  · subst z
    unfold xNb
    rw [ez]
    exact ⟨fun q => absurd xb_0 q, fun q => absurd xb_0 q, fun q => absurd xb_0 q⟩
  · exact xNb_c (fun i _ hi => e i (by omega)) (q k (by omega))
theorem yNN_less (n1 : ¬ n < 1) (q : yNN f n np nf) : yNN f (n - 1) np nf := fun k hk => q k (by
  have := yi_nz (a := n) (by lia) (by lia)
  omega)
theorem yNN_clear {m : Nat} (w0 : ¬ w < 0) (w8 : w < 8) (q : yNN f n np nf) : yNN (upd f (11 * m) ((f (11 * m)) &&& (((1 : Int32) <<< (w &&& 31)) ^^^ (-1)))) n np nf := by
  intro k hk
  obtain ⟨a, b, c⟩ := q k hk
  have e : ∀ j, 0 < j → j < 11 → upd f (11 * m) ((f (11 * m)) &&& (((1 : Int32) <<< (w &&& 31)) ^^^ (-1))) (11 * k + j) = f (11 * k + j) := fun j h1 h2 => if_neg (by omega)
  have hh : ∀ z : Int32, ¬ z < 0 → z < 8 → ¬ fq_isOf (upd f (11 * m) ((f (11 * m)) &&& (((1 : Int32) <<< (w &&& 31)) ^^^ (-1))) (11 * k)) z = 0 → ¬ fq_isOf (f (11 * k)) z = 0 := by
    intro z z0 z8 h
    unfold upd at h
    by_cases y : 11 * k = 11 * m
    · rw [if_pos y] at h
      rw [y]
      exact xb_clf w0 w8 z0 z8 h
    · rw [if_neg y] at h
      exact h
  unfold xNb
  rw [e 7 (by decide) (by decide), e 8 (by decide) (by decide), e 9 (by decide) (by decide)]
  exact ⟨fun h => a (hh 5 (by decide) (by decide) h), fun h => b (hh 6 (by decide) (by decide) h), fun h => c (hh 7 (by decide) (by decide) h)⟩
theorem yNN_says (n1 : ¬ n < 1) (n2 : n ≤ 12) (w0 : ¬ w < 0) (w8 : w < 8) (q : yNN f n np nf)
    (hS : xSy (upd f ((11 * (n - 1)).toNatClampNeg) ((f ((11 * (n - 1)).toNatClampNeg)) ||| ((1 : Int32) <<< (w &&& 31)))) g (11 * (n - 1)) w np nf (n - 1)) : yNN g n np nf ∧ g (11 * (n - 1).toNatClampNeg) = (f (11 * (n - 1).toNatClampNeg)) ||| ((1 : Int32) <<< (w &&& 31)) ∧ ∀ k, k < (n - 1).toNatClampNeg → g (11 * k) = f (11 * k) := by
  have hb : (11 * (n - 1)).toNatClampNeg = 11 * (n - 1).toNatClampNeg := by
    rw [xl_m0 11 (by decide) (by decide) (by lia) (by lia)]
    rfl
  have hn := yi_nz (a := n) (by lia) (by lia)
  have hm := xi_nat (w := n - 1) (by lia)
  obtain ⟨s0, s5, s5', s6, s6', s7, s7'⟩ := hS
  simp only [hb] at s0 s5 s5' s6 s6' s7 s7'
  have q9 := q (n - 1).toNatClampNeg (by omega)
  generalize (n - 1).toNatClampNeg = m at hn hm s0 s5 s5' s6 s6' s7 s7' q9 ⊢
  have hg : g (11 * m) = f (11 * m) ||| ((1 : Int32) <<< (w &&& 31)) := by
    rw [s0 _ (Nat.le_refl _)]
    exact if_pos rfl
  have hlow : ∀ i, i < 11 * m → g i = f i := fun i hi => by
    rw [s0 i (by omega)]
    exact if_neg (by omega)
  have up : ∀ j, 0 < j → upd f (11 * m) (f (11 * m) ||| ((1 : Int32) <<< (w &&& 31))) (11 * m + j) = f (11 * m + j) := fun j hj => if_neg (by omega)
  refine ⟨fun k hk => ?_, hg, fun k hk => hlow _ (by omega)⟩
  by_cases z : k = m
  · subst z
    obtain ⟨a, b, c⟩ := q9
    refine ⟨fun h => ?_, fun h => ?_, fun h => ?_⟩
    · rw [hg] at h
      by_cases e : w = 5
      · exact s5 e
      · rw [s5' e, up 7 (by decide)]
        exact a (fun y => h ((xb_orf w0 w8 (by decide) (by decide) e).mpr y))
    · rw [hg] at h
      by_cases e : w = 6
      · exact s6 e
      · rw [s6' e, up 8 (by decide)]
        exact b (fun y => h ((xb_orf w0 w8 (by decide) (by decide) e).mpr y))
    · rw [hg] at h
      by_cases e : w = 7
      · refine ⟨(s7 e).1, ?_⟩
        have h2 := Int32.lt_iff_toInt_lt.mp (s7 e).2
        omega
      · rw [s7' e, up 9 (by decide)]
        exact c (fun y => h ((xb_orf w0 w8 (by decide) (by decide) e).mpr y))
  · exact xNb_c (fun i _ hi => hlow i (by omega)) (q k (by omega))
end YNN
/-- the image that is kept -/
def yIm (n t np nf : Int32) (fh fc : Nat → Int32) : Prop := (¬ n < 0 ∧ n ≤ 12) ∧ (¬ t < 0 ∧ t ≤ 20) ∧ (∀ k : Nat, k < 20 → ¬ fc k < 0 ∧ fc k < 20000) ∧ yNN fh n np nf
/-- the rows of xLow but those of the notes -/
theorem xLow_n {la fe pe de no na : Int32} {flh fsk ff fl fk fp fo : Nat → Int32} {fb fdo : Nat → Int64} {fdh fnh : Nat → Int32} {no2 : Int32} {fnh2 : Nat → Int32} (q : xLow la fe pe de no na flh fsk ff fl fk fp fo fb fdo fdh fnh) (n0 : ¬ no2 < 0) (n2 : no2 ≤ 12) (h : yNN fnh2 no2 pe fe) : xLow la fe pe de no2 na flh fsk ff fl fk fp fo fb fdo fdh fnh2 := by
  obtain ⟨a1, a2, a3, a4, a5, a6, b1, b2, b3, b4, b5, b6, b7⟩ := q
  exact ⟨a1, a2, a3, a4, ⟨n0, n2⟩, a6, b1, b2, b3, b4, b5, b6, yNA_of n0 n2 h⟩
theorem xLow_N {la fe pe de no na : Int32} {flh fsk ff fl fk fp fo : Nat → Int32} {fb fdo : Nat → Int64} {fdh fnh : Nat → Int32} (q : xLow la fe pe de no na flh fsk ff fl fk fp fo fb fdo fdh fnh) : yNN fnh no pe fe := by
  obtain ⟨a1, a2, a3, a4, a5, a6, b1, b2, b3, b4, b5, b6, b7⟩ := q
  exact yNN_of a5.1 a5.2 b7
theorem yc_keep_d {s : Nat → Int32} : ∀ (n : Nat) (L : Int32) (f : Nat → Int32), ¬ L < 0 → L ≤ 132 → 132 ≤ L.toNatClampNeg + n → ∀ k : Nat, (fq_keep_d s n L f).2 k = if L.toNatClampNeg ≤ k ∧ k < 132 then s k else f k := by
  intro n
  induction n with
  | zero =>
    intro L f h0 h9 hn k
    rw [fq_keep_d, if_neg (by omega)]
  | succ n ih =>
    intro L f h0 h9 hn k
    rw [fq_keep_d]
    by_cases h : 132 ≤ L
    · have hL := xi_nle (a := 132) (by decide) h
      rw [show (132 : Int32).toNatClampNeg = 132 from rfl] at hL
      rw [if_pos h, if_neg (by omega)]
    · have hs := xi_natS (w := L) h0 (by lia)
      have hlt := xi_nlt (b := 132) h0 (by lia)
      rw [show (132 : Int32).toNatClampNeg = 132 from rfl] at hlt
      rw [if_neg h, ih (L + 1) _ (by lia) (by lia) (by omega) k, hs]
      unfold upd
      by_cases e : k = L.toNatClampNeg
      · subst e
        rw [if_neg (by omega), if_pos rfl, if_pos ⟨Nat.le_refl _, hlt⟩]
      · by_cases c : L.toNatClampNeg + 1 ≤ k ∧ k < 132
        · rw [if_pos c, if_pos ⟨by omega, c.2⟩]
        · rw [if_neg c, if_neg e, if_neg (by omega)]
theorem yc_back_d {s : Nat → Int32} : ∀ (n : Nat) (L : Int32) (f : Nat → Int32), ¬ L < 0 → L ≤ 132 → 132 ≤ L.toNatClampNeg + n → ∀ k : Nat, (fq_back_d s n L f).2 k = if L.toNatClampNeg ≤ k ∧ k < 132 then s k else f k := by
  intro n
  induction n with
  | zero =>
    intro L f h0 h9 hn k
    rw [fq_back_d, if_neg (by omega)]
  | succ n ih =>
    intro L f h0 h9 hn k
    rw [fq_back_d]
    by_cases h : 132 ≤ L
    · have hL := xi_nle (a := 132) (by decide) h
      rw [show (132 : Int32).toNatClampNeg = 132 from rfl] at hL
      rw [if_pos h, if_neg (by omega)]
    · have hs := xi_natS (w := L) h0 (by lia)
      have hlt := xi_nlt (b := 132) h0 (by lia)
      rw [show (132 : Int32).toNatClampNeg = 132 from rfl] at hlt
      rw [if_neg h, ih (L + 1) _ (by lia) (by lia) (by omega) k, hs]
      unfold upd
      by_cases e : k = L.toNatClampNeg
      · subst e
        rw [if_neg (by omega), if_pos rfl, if_pos ⟨Nat.le_refl _, hlt⟩]
      · by_cases c : L.toNatClampNeg + 1 ≤ k ∧ k < 132
        · rw [if_pos c, if_pos ⟨by omega, c.2⟩]
        · rw [if_neg c, if_neg e, if_neg (by omega)]
theorem yc_keep_e {s0 s : Nat → Int32} : ∀ (n : Nat) (L : Int32) (f0 f : Nat → Int32), ¬ L < 0 → L ≤ 20 → 20 ≤ L.toNatClampNeg + n → ∀ k : Nat, (fq_keep_e s0 s n L f0 f).2.2 k = if L.toNatClampNeg ≤ k ∧ k < 20 then s k else f k := by
  intro n
  induction n with
  | zero =>
    intro L f0 f h0 h9 hn k
    rw [fq_keep_e, if_neg (by omega)]
  | succ n ih =>
    intro L f0 f h0 h9 hn k
    rw [fq_keep_e]
    by_cases h : 20 ≤ L
    · have hL := xi_nle (a := 20) (by decide) h
      rw [show (20 : Int32).toNatClampNeg = 20 from rfl] at hL
      rw [if_pos h, if_neg (by omega)]
    · have hs := xi_natS (w := L) h0 (by lia)
      have hlt := xi_nlt (b := 20) h0 (by lia)
      rw [show (20 : Int32).toNatClampNeg = 20 from rfl] at hlt
      rw [if_neg h, ih (L + 1) _ _ (by lia) (by lia) (by omega) k, hs]
      unfold upd
      by_cases e : k = L.toNatClampNeg
      · subst e
        rw [if_neg (by omega), if_pos rfl, if_pos ⟨Nat.le_refl _, hlt⟩]
      · by_cases c : L.toNatClampNeg + 1 ≤ k ∧ k < 20
        · rw [if_pos c, if_pos ⟨by omega, c.2⟩]
        · rw [if_neg c, if_neg e, if_neg (by omega)]
theorem yc_back_e {s0 s : Nat → Int32} : ∀ (n : Nat) (L : Int32) (f0 f : Nat → Int32), ¬ L < 0 → L ≤ 20 → 20 ≤ L.toNatClampNeg + n → ∀ k : Nat, (fq_back_e s0 s n L f0 f).2.2 k = if L.toNatClampNeg ≤ k ∧ k < 20 then s k else f k := by
  intro n
  induction n with
  | zero =>
    intro L f0 f h0 h9 hn k
    rw [fq_back_e, if_neg (by omega)]
  | succ n ih =>
    intro L f0 f h0 h9 hn k
    rw [fq_back_e]
    by_cases h : 20 ≤ L
    · have hL := xi_nle (a := 20) (by decide) h
      rw [show (20 : Int32).toNatClampNeg = 20 from rfl] at hL
      rw [if_pos h, if_neg (by omega)]
    · have hs := xi_natS (w := L) h0 (by lia)
      have hlt := xi_nlt (b := 20) h0 (by lia)
      rw [show (20 : Int32).toNatClampNeg = 20 from rfl] at hlt
      rw [if_neg h, ih (L + 1) _ _ (by lia) (by lia) (by omega) k, hs]
      unfold upd
      by_cases e : k = L.toNatClampNeg
      · subst e
        rw [if_neg (by omega), if_pos rfl, if_pos ⟨Nat.le_refl _, hlt⟩]
      · by_cases c : L.toNatClampNeg + 1 ≤ k ∧ k < 20
        · rw [if_pos c, if_pos ⟨by omega, c.2⟩]
        · rw [if_neg c, if_neg e, if_neg (by omega)]
theorem yc_note {n : Int32} (n0 : ¬ n < 0) (n1 : n ≤ 11) : ∀ (m : Nat) (L : Int32) (f : Nat → Int32), ¬ L < 0 → L ≤ 11 → 11 ≤ L.toNatClampNeg + m → ∀ k : Nat, (fq_note_d n m L f).2 k = if 11 * n.toNatClampNeg + L.toNatClampNeg ≤ k ∧ k < 11 * n.toNatClampNeg + 11 then 0 else f k := by
  intro m
  induction m with
  | zero =>
    intro L f h0 h9 hn k
    rw [fq_note_d, if_neg (by omega)]
  | succ m ih =>
    intro L f h0 h9 hn k
    rw [fq_note_d]
    by_cases h : 11 ≤ L
    · have hL := xi_nle (a := 11) (by decide) h
      rw [show (11 : Int32).toNatClampNeg = 11 from rfl] at hL
      rw [if_pos h, if_neg (by omega)]
    · have hs := xi_natS (w := L) h0 (by lia)
      have hlt := xi_nlt (b := 11) h0 (by lia)
      rw [show (11 : Int32).toNatClampNeg = 11 from rfl] at hlt
      have hx : ((11 * n) + L).toNatClampNeg = 11 * n.toNatClampNeg + L.toNatClampNeg := by
        rw [xl_mj 11 (by decide) (by decide) n0 (by lia) h0 (by lia)]
        rfl
      rw [if_neg h, ih (L + 1) _ (by lia) (by lia) (by omega) k, hs, hx]
      unfold upd
      by_cases e : k = 11 * n.toNatClampNeg + L.toNatClampNeg
      · rw [if_neg (by omega), if_pos e, if_pos ⟨by omega, by omega⟩]
      · by_cases c : 11 * n.toNatClampNeg + (L.toNatClampNeg + 1) ≤ k ∧ k < 11 * n.toNatClampNeg + 11
        · rw [if_pos c, if_pos ⟨by omega, c.2⟩]
        · rw [if_neg c, if_neg e, if_neg (by omega)]
theorem yS_note {fh fu : Nat → Int32} {n u : Int32} {X : Int32 × (Int32) × (Int32) × (Int32) × (Nat → Int32) × (Nat → Int32)} (hX : X = fq_note fh fu n u) (n0 : ¬ n < 0) (n2 : n ≤ 12) : (X.2.2.1 = n ∧ X.2.2.2.1 = u ∧ X.2.2.2.2.1 = fh ∧ X.2.2.2.2.2 = fu) ∨ (n ≤ 11 ∧ X.2.2.1 = n + 1 ∧ X.2.2.2.1 = u + 1 ∧ (∀ i, i < 11 * n.toNatClampNeg → X.2.2.2.2.1 i = fh i) ∧ X.2.2.2.2.1 (11 * n.toNatClampNeg) = 0 ∧ X.2.2.2.2.2 = upd fu u.toNatClampNeg (-1)) := by
  rw [fq_note] at hX
  by_cases c : n = 12
  · rw [if_pos c] at hX
    subst hX
    exact Or.inl ⟨rfl, rfl, rfl, rfl⟩
  · rw [if_neg c, xL_eq] at hX
    subst hX
    have h1 : n ≤ 11 := by lia
    refine Or.inr ⟨h1, rfl, rfl, fun i hi => ?_, ?_, rfl⟩
    · show (fq_note_d n 11 0 fh).2 i = fh i
      rw [yc_note n0 h1 11 0 fh (by decide) (by decide) (by decide), show (0 : Int32).toNatClampNeg = 0 from rfl, if_neg (by omega)]
    · show (fq_note_d n 11 0 fh).2 (11 * n.toNatClampNeg) = 0
      rw [yc_note n0 h1 11 0 fh (by decide) (by decide) (by decide), show (0 : Int32).toNatClampNeg = 0 from rfl, if_pos ⟨by omega, by omega⟩]
theorem yS_undo {fh fu : Nat → Int32} {n u np nf : Int32} {X : Int32 × (Int32) × (Int32) × (Nat → Int32) × (Int32)} (hX : X = fq_undo fh fu n u) (n0 : ¬ n < 0) (n2 : n ≤ 12) (u0 : ¬ u < 0) (q : yPu fu fh u n) (hN : yNN fh n np nf) : ¬ X.2.2.1 < 0 ∧ ¬ X.2.2.2.2 < 0 ∧ X.2.2.2.2 ≤ 12 ∧ yPu fu X.2.2.2.1 X.2.2.1 X.2.2.2.2 ∧ yNN X.2.2.2.1 X.2.2.2.2 np nf := by
  rw [fq_undo] at hX
  by_cases c : u = 0
  · rw [if_pos c] at hX
    subst hX
    exact ⟨u0, n0, n2, q, hN⟩
  · rw [if_neg c] at hX
    have hn1 := (yPu_1 n0 u0 q).resolve_left c
    have hm := yi_nz (a := n) n0 (by lia)
    have q9 : yP fu ((u - 1).toNatClampNeg + 1) n.toNatClampNeg (fun k => fh (11 * k)) := by
      rw [← yi_nz u0 c]
      exact q
    rw [yP] at q9
    by_cases d : 0 ≤ fu ((u - 1).toNatClampNeg)
    · rw [if_pos d] at hX
      have hi : ((11 * n) - 11).toNatClampNeg = 11 * (n - 1).toNatClampNeg := by
        rw [show (11 * n) - 11 = 11 * (n - 1) by lia, xl_m0 11 (by decide) (by decide) (by lia) (by lia)]
        rfl
      rw [hi] at hX
      subst hX
      rcases q9.2 with ⟨a, _⟩ | ⟨a, b, _, e⟩
      · exact absurd a (Int32.not_lt.mpr d)
      · refine ⟨(by lia : ¬ (u - 1) < 0), n0, n2, ?_, yNN_clear a b hN⟩
        refine yP_h _ _ _ _ (fun k hk => ?_) e
        rw [hm, Nat.add_sub_cancel]
        show upd fh (11 * (n - 1).toNatClampNeg) _ (11 * k) = upd (fun k => fh (11 * k)) (n - 1).toNatClampNeg _ k
        unfold upd
        by_cases z : k = (n - 1).toNatClampNeg
        · rw [if_pos z, if_pos (show 11 * k = 11 * (n - 1).toNatClampNeg by omega)]
        · rw [if_neg z, if_neg (show ¬ 11 * k = 11 * (n - 1).toNatClampNeg by omega)]
    · rw [if_neg d] at hX
      subst hX
      rcases q9.2 with ⟨_, b⟩ | ⟨a, _⟩
      · refine ⟨(by lia : ¬ (u - 1) < 0), (by lia : ¬ (n - 1) < 0), (by lia : (n - 1) ≤ 12), ?_, yNN_less hn1 hN⟩
        rw [hm, Nat.add_sub_cancel] at b
        exact b
      · exact absurd (Int32.not_lt.mp a) d
theorem yIn {a b c : Int32} (h : ¬ fq_isIn a b c = 0) : ¬ a < b ∧ ¬ c < a := by
  rw [fq_isIn] at h
  by_cases h1 : a < b
  · rw [if_pos h1] at h
    exact absurd rfl h
  · rw [if_neg h1] at h
    by_cases h2 : c < a
    · rw [if_pos h2] at h
      exact absurd rfl h
    · exact ⟨h1, h2⟩
theorem yS_told {fn fc : Nat → Int32} {a0 a1 n t : Int32} {X : Int32 × (Int32) × (Int32) × (Nat → Int32) × (Nat → Int32)} (hX : X = fq_told fn fc a0 a1 n t) (t0 : ¬ t < 0) (t2 : t ≤ 20) (hc : ∀ k : Nat, ¬ fc k < 0 ∧ fc k < 20000) : ¬ X.2.2.1 < 0 ∧ X.2.2.1 ≤ 20 ∧ ∀ k : Nat, ¬ X.2.2.2.2 k < 0 ∧ X.2.2.2.2 k < 20000 := by
  rw [fq_told] at hX
  by_cases c : t = 20
  · rw [if_pos c] at hX
    subst hX
    exact ⟨t0, t2, hc⟩
  · rw [if_neg c, xL_eq] at hX
    by_cases d : fq_isNote a0 n = 0
    · rw [if_pos d] at hX
      subst hX
      exact ⟨t0, t2, hc⟩
    · rw [if_neg d, xL_eq] at hX
      by_cases e : fq_isIn a1 0 19999 = 0
      · rw [if_pos e] at hX
        subst hX
        exact ⟨t0, t2, hc⟩
      · rw [if_neg e] at hX
        subst hX
        have h := yIn e
        refine ⟨(by lia : ¬ (t + 1) < 0), (by lia : (t + 1) ≤ 20), fun k => ?_⟩
        show ¬ upd fc t.toNatClampNeg a1 k < 0 ∧ upd fc t.toNatClampNeg a1 k < 20000
        unfold upd
        by_cases z : k = t.toNatClampNeg
        · rw [if_pos z]
          exact ⟨h.1, by lia⟩
        · rw [if_neg z]
          exact hc k
theorem yS_keep {fh fn fc kh kn kc : Nat → Int32} {n t : Int32} {X : Int32 × (Int32) × (Int32) × (Int32) × (Int32) × (Nat → Int32) × (Nat → Int32) × (Nat → Int32)} (hX : X = fq_keep fh fn fc kh kn kc n t) : X.2.2.2.1 = n ∧ X.2.2.2.2.1 = t ∧ (∀ i, i < 132 → X.2.2.2.2.2.1 i = fh i) ∧ ∀ i, i < 20 → X.2.2.2.2.2.2.2 i = fc i := by
  rw [fq_keep, xL_eq, xL_eq] at hX
  subst hX
  refine ⟨rfl, rfl, fun i hi => ?_, fun i hi => ?_⟩
  · show (fq_keep_d fh 132 0 kh).2 i = fh i
    rw [yc_keep_d 132 0 kh (by decide) (by decide) (by decide), if_pos ⟨Nat.zero_le _, hi⟩]
  · show (fq_keep_e fn fc 20 0 kn kc).2.2 i = fc i
    rw [yc_keep_e 20 0 kn kc (by decide) (by decide) (by decide), if_pos ⟨Nat.zero_le _, hi⟩]
theorem yS_back {fh fn fc kh kn kc : Nat → Int32} {n u t hi k9 t9 : Int32} {X : Int32 × (Int32) × (Int32) × (Int32) × (Int32) × (Nat → Int32) × (Nat → Int32) × (Nat → Int32)} (hX : X = fq_back fh fn fc kh kn kc n u t hi k9 t9) : (X.2.2.1 = n ∧ X.2.2.2.1 = u ∧ X.2.2.2.2.1 = t ∧ X.2.2.2.2.2.1 = fh ∧ X.2.2.2.2.2.2.2 = fc) ∨ (¬ hi = 0 ∧ X.2.2.1 = k9 ∧ X.2.2.2.1 = 0 ∧ X.2.2.2.2.1 = t9 ∧ (∀ i, i < 132 → X.2.2.2.2.2.1 i = kh i) ∧ ∀ i, X.2.2.2.2.2.2.2 i = if i < 20 then kc i else fc i) := by
  rw [fq_back] at hX
  by_cases c : hi = 0
  · rw [if_pos c] at hX
    subst hX
    exact Or.inl ⟨rfl, rfl, rfl, rfl, rfl⟩
  · rw [if_neg c, xL_eq, xL_eq] at hX
    subst hX
    refine Or.inr ⟨c, rfl, rfl, rfl, fun i hi => ?_, fun i => ?_⟩
    · show (fq_back_d kh 132 0 fh).2 i = kh i
      rw [yc_back_d 132 0 fh (by decide) (by decide) (by decide), if_pos ⟨Nat.zero_le _, hi⟩]
    · show (fq_back_e kn kc 20 0 fn fc).2.2 i = _
      rw [yc_back_e 20 0 fn fc (by decide) (by decide) (by decide), show (0 : Int32).toNatClampNeg = 0 from rfl]
      by_cases z : i < 20
      · rw [if_pos z, if_pos ⟨Nat.zero_le _, z⟩]
      · rw [if_neg z, if_neg (by omega)]
theorem yp4 {x a : Int32} {f : Nat → Int32} (x0 : ¬ x < 0) (h : x ≤ 896) : (fx_putFour x f a).1 = x + 4 := by
  have h1 : ¬ 900 ≤ x := by lia
  have h2 : ¬ 900 ≤ (x + 1) := by lia
  have h3 : ¬ 900 ≤ ((x + 1) + 1) := by lia
  have h4 : ¬ 900 ≤ (((x + 1) + 1) + 1) := by lia
  rw [fx_putFour, if_neg h1, if_neg h2, if_neg h3, if_neg h4]
  show (((x + 1) + 1) + 1) + 1 = x + 4
  lia
theorem yS_feed {x y1 y2 y3 y4 y5 : Int32} {f ft : Nat → Int32} (x0 : ¬ x < 0) (x9 : x ≤ 900) : (fx_feed x f y1 y2 y3 y4 y5).1 = (fq_feed ft y1 y2 y3 y4 y5 x).1 ∧ (fx_feed x f y1 y2 y3 y4 y5).2.1 = (fq_feed ft y1 y2 y3 y4 y5 x).2.2.1 ∧ ¬ (fx_feed x f y1 y2 y3 y4 y5).2.1 < 0 ∧ (fx_feed x f y1 y2 y3 y4 y5).2.1 ≤ 900 := by
  rw [fx_feed, fq_feed]
  by_cases c : (x + 20) ≤ 900
  · rw [if_pos c, if_pos c, xL_eq]
    have g1 : x ≤ 880 := by lia
    have e1 := yp4 (f := f) (a := y1) x0 (by lia)
    generalize fx_putFour x f y1 = p1 at e1 ⊢
    have e2 := yp4 (x := p1.1) (f := p1.2) (a := y2) (by rw [e1]; lia) (by rw [e1]; lia)
    generalize fx_putFour p1.1 p1.2 y2 = p2 at e2 ⊢
    have e3 := yp4 (x := p2.1) (f := p2.2) (a := y3) (by rw [e2, e1]; lia) (by rw [e2, e1]; lia)
    generalize fx_putFour p2.1 p2.2 y3 = p3 at e3 ⊢
    have e4 := yp4 (x := p3.1) (f := p3.2) (a := y4) (by rw [e3, e2, e1]; lia) (by rw [e3, e2, e1]; lia)
    generalize fx_putFour p3.1 p3.2 y4 = p4 at e4 ⊢
    have e5 := yp4 (x := p4.1) (f := p4.2) (a := y5) (by rw [e4, e3, e2, e1]; lia) (by rw [e4, e3, e2, e1]; lia)
    generalize fx_putFour p4.1 p4.2 y5 = p5 at e5 ⊢
    rw [e4, e3, e2, e1] at e5
    have e6 : p5.1 = x + 20 := by rw [e5]; lia
    refine ⟨e6, e6, ?_, ?_⟩
    · show ¬ p5.1 < 0
      rw [e6]
      lia
    · show p5.1 ≤ 900
      rw [e6]
      exact c
  · rw [if_neg c, if_neg c]
    exact ⟨rfl, rfl, x0, x9⟩
theorem yS_can {k a0 a1 a2 nf np : Int32} (k0 : ¬ k < 0) (h : ¬ fq_canSay k a0 a1 a2 nf np = 0) : ¬ a0 < 0 ∧ a0 < 8 ∧ xSw a0 a1 np nf k := by
  rw [fq_canSay] at h
  by_cases e0 : a0 = 0
  · subst e0; exact ⟨by decide, by decide, xSw_n (by decide) (by decide) (by decide)⟩
  rw [if_neg e0] at h
  by_cases e1 : a0 = 1
  · subst e1; exact ⟨by decide, by decide, xSw_n (by decide) (by decide) (by decide)⟩
  rw [if_neg e1] at h
  by_cases e2 : a0 = 2
  · subst e2; exact ⟨by decide, by decide, xSw_n (by decide) (by decide) (by decide)⟩
  rw [if_neg e2] at h
  by_cases e3 : a0 = 3
  · subst e3; exact ⟨by decide, by decide, xSw_n (by decide) (by decide) (by decide)⟩
  rw [if_neg e3] at h
  by_cases e4 : a0 = 4
  · subst e4; exact ⟨by decide, by decide, xSw_n (by decide) (by decide) (by decide)⟩
  rw [if_neg e4] at h
  by_cases e5 : a0 = 5
  · rw [if_pos e5, xL_eq, fq_isPerson] at h
    subst e5
    refine ⟨by decide, by decide, fun _ => ?_, fun e => absurd e (by decide), fun e => absurd e (by decide)⟩
    by_cases c : a1 < 0
    · rw [if_pos c] at h; exact absurd rfl h
    · rw [if_neg c] at h
      by_cases d : np ≤ a1
      · rw [if_pos d] at h; exact absurd rfl h
      · exact ⟨c, Int32.not_le.mp d⟩
  rw [if_neg e5] at h
  by_cases e6 : a0 = 6
  · rw [if_pos e6, xL_eq, fq_isFeast] at h
    subst e6
    refine ⟨by decide, by decide, fun e => absurd e (by decide), fun _ => ?_, fun e => absurd e (by decide)⟩
    by_cases c : a1 < 0
    · rw [if_pos c] at h; exact absurd rfl h
    · rw [if_neg c] at h
      by_cases d : nf ≤ a1
      · rw [if_pos d] at h; exact absurd rfl h
      · exact ⟨c, Int32.not_le.mp d⟩
  rw [if_neg e6] at h
  by_cases e7 : a0 = 7
  · rw [if_pos e7, xL_eq] at h
    subst e7
    refine ⟨by decide, by decide, fun e => absurd e (by decide), fun e => absurd e (by decide), fun _ => ?_⟩
    by_cases c : fq_isIn a1 0 (k - 1) = 0
    · rw [if_pos c] at h; exact absurd rfl h
    · have h9 := yIn c
      exact ⟨h9.1, by lia⟩
  · rw [if_neg e7] at h
    exact absurd rfl h
theorem yS_says {fh fu : Nat → Int32} {a0 a1 a2 nf np n u : Int32} {X : Int32 × (Int32) × (Int32) × (Nat → Int32) × (Nat → Int32)} (hX : X = fq_says fh fu a0 a1 a2 nf np n u) (n0 : ¬ n < 0) (n2 : n ≤ 12) : (X.2.2.1 = u ∧ X.2.2.2.1 = fh ∧ X.2.2.2.2 = fu) ∨ (¬ n < 1 ∧ ¬ a0 < 0 ∧ a0 < 8 ∧ X.2.2.1 = u + 1 ∧ X.2.2.2.2 = upd fu u.toNatClampNeg a0 ∧ fq_isOf (fh ((11 * (n - 1)).toNatClampNeg)) a0 = 0 ∧ xSy (upd fh ((11 * (n - 1)).toNatClampNeg) ((fh ((11 * (n - 1)).toNatClampNeg)) ||| ((1 : Int32) <<< (a0 &&& 31)))) X.2.2.2.1 (11 * (n - 1)) a0 np nf (n - 1)) := by
  rw [fq_says] at hX
  by_cases c1 : (n - 1) < 0
  · rw [if_pos c1] at hX
    subst hX
    exact Or.inl ⟨rfl, rfl, rfl⟩
  rw [if_neg c1, xL_eq] at hX
  by_cases c2 : fq_canSay (n - 1) a0 a1 a2 nf np = 0
  · rw [if_pos c2] at hX
    subst hX
    exact Or.inl ⟨rfl, rfl, rfl⟩
  rw [if_neg c2, xL_eq] at hX
  by_cases c3 : fq_isOf (fh ((11 * (n - 1)).toNatClampNeg)) a0 = 0
  · rw [if_pos c3, xL_eq, fq_says_a] at hX
    obtain ⟨w0, w8, hs⟩ := yS_can c1 c2
    have b0 : ¬ (11 * (n - 1)) < 0 := by lia
    have b9 : (11 * (n - 1)) ≤ 250 := by lia
    refine Or.inr ⟨by lia, w0, w8, ?_⟩
    by_cases e0 : a0 = 0
    · rw [if_pos e0, if_pos e0, if_neg (by lia)] at hX
      subst hX
      exact ⟨rfl, rfl, c3, xSy_0 b0 b9 e0⟩
    · have e2 : (11 * (n - 1)) + (2 + a0) = ((11 * (n - 1)) + 2) + a0 := by lia
      rw [if_neg e0, if_neg e0, e2] at hX
      have hy := xSy_1 (f := upd fh ((11 * (n - 1)).toNatClampNeg) ((fh ((11 * (n - 1)).toNatClampNeg)) ||| ((1 : Int32) <<< (a0 &&& 31)))) (x := a1) b0 b9 (by lia) w8 hs
      by_cases e7 : a0 = 7
      · rw [if_pos e7] at hX
        subst hX
        exact ⟨rfl, rfl, c3, xSy_7 b0 b9 hy⟩
      · rw [if_neg e7] at hX
        subst hX
        exact ⟨rfl, rfl, c3, hy⟩
  · rw [if_neg c3] at hX
    subst hX
    exact Or.inl ⟨rfl, rfl, rfl⟩
theorem yTape {y x x' z z' : Int32} (hz : z = x) (F : (y < 0 → x' = x) ∧ (x < y → x' = x) ∧ (¬ y < 0 → y ≤ x → x' = 0)) (G : (y < 0 → z' = z) ∧ (z < y → z' = z) ∧ (¬ y < 0 → y ≤ z → z' = 0)) (x0 : ¬ x < 0) (x9 : x ≤ 900) : z' = x' ∧ ¬ x' < 0 ∧ x' ≤ 900 := by
  subst hz
  by_cases c : y < 0
  · rw [F.1 c, G.1 c]
    exact ⟨rfl, x0, x9⟩
  · by_cases d : z < y
    · rw [F.2.1 d, G.2.1 d]
      exact ⟨rfl, x0, x9⟩
    · rw [F.2.2 c (Int32.not_lt.mp d), G.2.2 c (Int32.not_lt.mp d)]
      exact ⟨rfl, by decide, by decide⟩
theorem yS_ite {k : Nat} {x y : Int32} (h : k < 20 → ¬ x < 0 ∧ x < 20000) (h' : ¬ y < 0 ∧ y < 20000) : ¬ (if k < 20 then x else y) < 0 ∧ (if k < 20 then x else y) < 20000 := by
  by_cases z : k < 20
  · rw [if_pos z]
    exact h z
  · rw [if_neg z]
    exact h'
/-- the cells at the places `is`, which ascend, are new: in one walk -/
def yset2 : Nat → va_W → List Nat → va_W → va_W
  | _, [], _, _ => []
  | k, w :: ws, i :: is, c :: cs => if k = i then c :: yset2 (k + 1) ws is cs else w :: yset2 (k + 1) ws (i :: is) (c :: cs)
  | _, w :: ws, [], _ => w :: ws
  | _, w :: ws, _ :: _, [] => w :: ws
def yasc : Nat → List Nat → Bool
  | _, [] => true
  | k, i :: is => Nat.ble k i && yasc (i + 1) is
theorem yasc_le : ∀ (is : List Nat) (m : Nat), yasc m is = true → ∀ x ∈ is, m ≤ x
  | [], _, _, x, hx => absurd hx List.not_mem_nil
  | i :: is, m, h, x, hx => by
    rw [yasc, Bool.and_eq_true] at h
    have h1 := Nat.le_of_ble_eq_true h.1
    rcases List.mem_cons.mp hx with e | e
    · omega
    · have := yasc_le is (i + 1) h.2 x e
      omega
theorem yset2_P {D : va_G} {cl : List vw_C} {H : Heap} : ∀ (ws : va_W) (k0 : Nat) (is : List Nat) (w1 : va_W), is.length = w1.length → yasc k0 is = true → (∀ (k : Nat) (q : Nat × va_E), w1[k]? = some q → va_at D cl q H) → (∀ (k : Nat) (q : Nat × va_E), ws[k]? = some q → (k0 + k) ∈ is ∨ va_at D cl q H) → va_P D cl (yset2 k0 ws is w1) H
  | [], _, _, _, _, _, _, _ => fun k q hk => by
    rw [yset2] at hk
    simp at hk
  | w :: ws, k0, [], w1, _, _, _, h2 => fun k q hk => by
    rw [yset2] at hk
    exact (h2 k q hk).resolve_left List.not_mem_nil
  | w :: ws, k0, i :: is, [], hl, _, _, _ => absurd hl (by simp)
  | w :: ws, k0, i :: is, c :: cs, hl, ha, h1, h2 => fun k q hk => by
    have ha' := ha
    rw [yasc, Bool.and_eq_true] at ha'
    have hle := Nat.le_of_ble_eq_true ha'.1
    rw [yset2] at hk
    by_cases e : k0 = i
    · rw [if_pos e] at hk
      cases k with
      | zero => exact h1 0 q hk
      | succ k =>
        refine yset2_P ws (k0 + 1) is cs (Nat.succ.inj hl) (by rw [e]; exact ha'.2) (fun k q hk => h1 (k + 1) q hk) (fun k q hk => ?_) k q hk
        rcases h2 (k + 1) q hk with h | h
        · rcases List.mem_cons.mp h with z | z
          · omega
          · exact Or.inl (by rw [show k0 + 1 + k = k0 + (k + 1) by omega]; exact z)
        · exact Or.inr h
    · rw [if_neg e] at hk
      cases k with
      | zero =>
        rcases h2 0 q hk with h | h
        · rcases List.mem_cons.mp h with z | z
          · omega
          · have := yasc_le is (i + 1) ha'.2 _ z
            omega
        · exact h
      | succ k =>
        refine yset2_P ws (k0 + 1) (i :: is) (c :: cs) hl ?_ h1 (fun k q hk => ?_) k q hk
        · rw [yasc, Bool.and_eq_true]
          exact ⟨Nat.ble_eq_true_of_le (by omega), ha'.2⟩
        · rcases h2 (k + 1) q hk with h | h
          · exact Or.inl (by rw [show k0 + 1 + k = k0 + (k + 1) by omega]; exact h)
          · exact Or.inr h
/-- behind a case: its cells as it left them, all others as they were -/
theorem yJ2 {D : va_G} {cl : List vw_C} {A : Nat → Prop} {ws wc w1 : va_W} {H0 H : Heap} (hP : va_P D cl ws H0) (hD : va_D A ws) (is : List Nat) (ha : yasc 0 is = true) (hC : is.map (fun i => ws[i]?) = wc.map some) (hl : is.length = w1.length) (hfr : ∀ q : Nat, q < H0.size → ¬ yAd wc q → H[q]? = H0[q]?) (hP1 : va_P D cl w1 H) : va_P D cl (yset2 0 ws is w1) H := by
  refine yset2_P ws 0 is w1 hl ha hP1 (fun k q hk => ?_)
  by_cases hb : yAd wc q.1
  · obtain ⟨j, e, hj⟩ := hb
    have h1 : (wc.map some)[j]? = some (some (q.1, e)) := by rw [List.getElem?_map, hj]; rfl
    rw [← hC, List.getElem?_map] at h1
    cases hi : is[j]? with
    | none => rw [hi] at h1; cases h1
    | some i =>
      rw [hi] at h1
      have h2 : ws[i]? = some (q.1, e) := Option.some.inj h1
      have h3 : k = i := hD.1 k i q (q.1, e) hk h2 rfl
      exact Or.inl (by rw [Nat.zero_add, h3]; exact List.mem_of_getElem? hi)
  · exact Or.inr ((hP k q hk).kept (hfr q.1 (hP k q hk).lt hb))
def yAdr (a : YA) : List Nat := [a.x, a.xmo, a.xom, a.wi, a.le, a.lna, a.lca, a.xim, a.isa, a.ifa, a.iza, a.xil, a.ina, a.ica, a.xst, a.xdy, a.drw, (a.Rw 0), (a.Rw 1), (a.Rw 2), (a.Rw 3), (a.Rw 4), (a.Rw 5), (a.Rw 6), (a.Rw 7), (a.Rw 8), (a.Rw 9), (a.Rw 10), (a.Rw 11), a.dsh, a.dto, a.dmo, a.dwi, a.pa, a.lx, a.lby, a.lco, a.bk, a.bto, a.bnm, (a.Nm 0), (a.Nm 1), (a.Nm 2), (a.Nm 3), (a.Nm 4), a.bla, (a.La 0), (a.La 1), (a.La 2), (a.La 3), a.bsk, a.bru, a.rco, a.ren, a.rst, a.bbo, a.bdi, a.bda, a.bdk, a.bdt, a.bdp, a.bno, a.nsa, a.nfa, a.nza, a.phe, a.phr, a.xsp, a.bto2, a.bnm2, (a.Nm2 0), (a.Nm2 1), (a.Nm2 2), (a.Nm2 3), (a.Nm2 4), a.bla2, (a.Lb 0), (a.Lb 1), (a.Lb 2), (a.Lb 3), a.bsk2, a.bru2, a.rco2, a.ren2, a.rst2, a.bbo2, a.bdi2, a.bda2, a.bdk2, a.bdt2, a.bdp2, a.bno2, a.nsa2, a.nfa2, a.nza2, a.mq, (a.rf 0), (a.rf 3), (a.rf 24), (a.rf 28), (a.rf 29), (a.rf 30), (a.rf 31), (a.rf 32), (a.rf 33), (a.rf 34), (a.rf 35), (a.rf 36), (a.rf 37), (a.rf 38), (a.rf 39), (a.rf 40), (a.rf 41), (a.rf 42), (a.rf 43), (a.rf 45), (a.rf 46), (a.rf 55), (a.rf 56), (a.rf 60), (a.rf 61), (a.rf 65), (a.rf 66), (a.rf 68), (a.rf 69), (a.rf 73), (a.rf 74), (a.rf 75), a.o3]
set_option maxRecDepth 100000 in
theorem yW_adr (a : YA) (v : YV) : (yW a v).map Prod.fst = yAdr a := rfl
theorem yDv {A : Nat → Prop} {a : YA} {v v2 : YV} (h : va_D A (yW a v)) : va_D A (yW a v2) := yD h ((yW_adr a v).trans (yW_adr a v2).symm)
/-- what holds at the head of the loop -/
def yI (v : YV) : Prop := (¬ v.iz < 0) ∧ (v.iz ≤ 20) ∧ (¬ v.lfi < 0) ∧ (v.lfi ≤ 900) ∧ (¬ v.lz < 0) ∧ (v.lz ≤ 20) ∧ (¬ v.xsc < 0) ∧ (v.xsc ≤ 108) ∧ (xT v.fTo) ∧ (xE v.fRe) ∧ (v.g 1 = v.lfi) ∧ (xLow (v.g 12) (v.g 13) (v.g 14) (v.g 15) (v.g 16) (v.g 58) v.f_landHas v.f_sky v.f_first v.f_last v.f_knot v.f_part v.f_other v.f_born v.f_deedOn v.f_deedHas v.f_noteHas) ∧ (xKU v.f_knot v.f_part v.f_other) ∧ (∀ k : Nat, ¬ v.f_toldCount k < 0 ∧ v.f_toldCount k < 20000) ∧ (¬ v.g 67 < 0) ∧ (v.g 67 ≤ 20) ∧ (v.f_words 117 = 32) ∧ (¬ v.g 59 < 0) ∧ (yPu v.f_undo v.f_noteHas (v.g 59) (v.g 16)) ∧ (v.g 70 = 0 ∨ yIm (v.g 71) (v.g 72) (v.g 14) (v.g 13) v.f_keptHas v.f_keptCount) ∧ (zBy v.fBy v.f_tape v.lfi) ∧ (zCo v.fCo) ∧ (zWd v.f_words) ∧ (v.pfa = v.g 4) ∧ (v.pfp = v.g 5) ∧ (zLw v.fTo v.fNm v.FI v.GR v.FR v.wd v.wf v.mp v.mb v.mo v.sp v.sb v.rkn v.fRe v.fBo v.fDi v.fDa v.fDk v.fDt v.fDp v.ns v.fNs v.fNf v.fNz v.f_sky v.f_landName v.f_landHas v.f_feastName v.f_first v.f_last v.f_personName v.f_born v.f_died v.f_deedName v.f_deedOn v.f_deedHas v.f_noteName v.f_noteHas (v.g 12) (v.g 13) (v.g 14) (v.g 15) (v.g 16) (v.g 17) (v.g 58)) ∧ (zFw (v.g 13) (v.g 17) v.fRc v.f_first v.f_last v.f_knot v.f_part v.f_other) ∧ (zSt v.xsc v.fSt (v.g 59) v.f_undo) ∧ (zLg v.lz v.fLn v.fLc (v.g 67) v.f_toldNote v.f_toldCount) ∧ (zIg v.xik v.is v.fIs v.fIf v.fIz v.iz v.fIn v.fIc (v.g 70) (v.g 71) (v.g 72) v.f_keptHas v.f_keptNote v.f_keptCount)
theorem yI.iz0 {v : YV} (h : yI v) : ¬ v.iz < 0 := h.1
theorem yI.iz2 {v : YV} (h : yI v) : v.iz ≤ 20 := h.2.1
theorem yI.fi0 {v : YV} (h : yI v) : ¬ v.lfi < 0 := h.2.2.1
theorem yI.fi9 {v : YV} (h : yI v) : v.lfi ≤ 900 := h.2.2.2.1
theorem yI.lz0 {v : YV} (h : yI v) : ¬ v.lz < 0 := h.2.2.2.2.1
theorem yI.lz2 {v : YV} (h : yI v) : v.lz ≤ 20 := h.2.2.2.2.2.1
theorem yI.sc0 {v : YV} (h : yI v) : ¬ v.xsc < 0 := h.2.2.2.2.2.2.1
theorem yI.sc8 {v : YV} (h : yI v) : v.xsc ≤ 108 := h.2.2.2.2.2.2.2.1
theorem yI.hT {v : YV} (h : yI v) : xT v.fTo := h.2.2.2.2.2.2.2.2.1
theorem yI.hE {v : YV} (h : yI v) : xE v.fRe := h.2.2.2.2.2.2.2.2.2.1
theorem yI.tape {v : YV} (h : yI v) : v.g 1 = v.lfi := h.2.2.2.2.2.2.2.2.2.2.1
theorem yI.low {v : YV} (h : yI v) : xLow (v.g 12) (v.g 13) (v.g 14) (v.g 15) (v.g 16) (v.g 58) v.f_landHas v.f_sky v.f_first v.f_last v.f_knot v.f_part v.f_other v.f_born v.f_deedOn v.f_deedHas v.f_noteHas := h.2.2.2.2.2.2.2.2.2.2.2.1
theorem yI.ku {v : YV} (h : yI v) : xKU v.f_knot v.f_part v.f_other := h.2.2.2.2.2.2.2.2.2.2.2.2.1
theorem yI.tc {v : YV} (h : yI v) : ∀ k : Nat, ¬ v.f_toldCount k < 0 ∧ v.f_toldCount k < 20000 := h.2.2.2.2.2.2.2.2.2.2.2.2.2.1
theorem yI.to0 {v : YV} (h : yI v) : ¬ v.g 67 < 0 := h.2.2.2.2.2.2.2.2.2.2.2.2.2.2.1
theorem yI.to2 {v : YV} (h : yI v) : v.g 67 ≤ 20 := h.2.2.2.2.2.2.2.2.2.2.2.2.2.2.2.1
theorem yI.w7 {v : YV} (h : yI v) : v.f_words 117 = 32 := h.2.2.2.2.2.2.2.2.2.2.2.2.2.2.2.2.1
theorem yI.un0 {v : YV} (h : yI v) : ¬ v.g 59 < 0 := h.2.2.2.2.2.2.2.2.2.2.2.2.2.2.2.2.2.1
theorem yI.unP {v : YV} (h : yI v) : yPu v.f_undo v.f_noteHas (v.g 59) (v.g 16) := h.2.2.2.2.2.2.2.2.2.2.2.2.2.2.2.2.2.2.1
theorem yI.im {v : YV} (h : yI v) : v.g 70 = 0 ∨ yIm (v.g 71) (v.g 72) (v.g 14) (v.g 13) v.f_keptHas v.f_keptCount := h.2.2.2.2.2.2.2.2.2.2.2.2.2.2.2.2.2.2.2.1
theorem yI.tb {v : YV} (h : yI v) : zBy v.fBy v.f_tape v.lfi := h.2.2.2.2.2.2.2.2.2.2.2.2.2.2.2.2.2.2.2.2.1
theorem yI.co {v : YV} (h : yI v) : zCo v.fCo := h.2.2.2.2.2.2.2.2.2.2.2.2.2.2.2.2.2.2.2.2.2.1
theorem yI.wd {v : YV} (h : yI v) : zWd v.f_words := h.2.2.2.2.2.2.2.2.2.2.2.2.2.2.2.2.2.2.2.2.2.2.1
theorem yI.fa {v : YV} (h : yI v) : v.pfa = v.g 4 := h.2.2.2.2.2.2.2.2.2.2.2.2.2.2.2.2.2.2.2.2.2.2.2.1
theorem yI.fp {v : YV} (h : yI v) : v.pfp = v.g 5 := h.2.2.2.2.2.2.2.2.2.2.2.2.2.2.2.2.2.2.2.2.2.2.2.2.1
theorem yI.lw {v : YV} (h : yI v) : zLw v.fTo v.fNm v.FI v.GR v.FR v.wd v.wf v.mp v.mb v.mo v.sp v.sb v.rkn v.fRe v.fBo v.fDi v.fDa v.fDk v.fDt v.fDp v.ns v.fNs v.fNf v.fNz v.f_sky v.f_landName v.f_landHas v.f_feastName v.f_first v.f_last v.f_personName v.f_born v.f_died v.f_deedName v.f_deedOn v.f_deedHas v.f_noteName v.f_noteHas (v.g 12) (v.g 13) (v.g 14) (v.g 15) (v.g 16) (v.g 17) (v.g 58) := h.2.2.2.2.2.2.2.2.2.2.2.2.2.2.2.2.2.2.2.2.2.2.2.2.2.1
theorem yI.fw {v : YV} (h : yI v) : zFw (v.g 13) (v.g 17) v.fRc v.f_first v.f_last v.f_knot v.f_part v.f_other := h.2.2.2.2.2.2.2.2.2.2.2.2.2.2.2.2.2.2.2.2.2.2.2.2.2.2.1
theorem yI.st {v : YV} (h : yI v) : zSt v.xsc v.fSt (v.g 59) v.f_undo := h.2.2.2.2.2.2.2.2.2.2.2.2.2.2.2.2.2.2.2.2.2.2.2.2.2.2.2.1
theorem yI.lg {v : YV} (h : yI v) : zLg v.lz v.fLn v.fLc (v.g 67) v.f_toldNote v.f_toldCount := h.2.2.2.2.2.2.2.2.2.2.2.2.2.2.2.2.2.2.2.2.2.2.2.2.2.2.2.2.1
theorem yI.ig {v : YV} (h : yI v) : zIg v.xik v.is v.fIs v.fIf v.fIz v.iz v.fIn v.fIc (v.g 70) (v.g 71) (v.g 72) v.f_keptHas v.f_keptNote v.f_keptCount := h.2.2.2.2.2.2.2.2.2.2.2.2.2.2.2.2.2.2.2.2.2.2.2.2.2.2.2.2.2
theorem yI.un8 {v : YV} (h : yI v) : v.g 59 ≤ 108 := yPu_le h.low.2.2.2.2.1.1 h.low.2.2.2.2.1.2 h.un0 h.unP
theorem yI.un1 {v : YV} (h : yI v) : v.g 59 = 0 ∨ ¬ v.g 16 < 1 := yPu_1 h.low.2.2.2.2.1.1 h.un0 h.unP
theorem yI_mk {v : YV} (k_iz0 : ¬ v.iz < 0) (k_iz2 : v.iz ≤ 20) (k_fi0 : ¬ v.lfi < 0) (k_fi9 : v.lfi ≤ 900) (k_lz0 : ¬ v.lz < 0) (k_lz2 : v.lz ≤ 20) (k_sc0 : ¬ v.xsc < 0) (k_sc8 : v.xsc ≤ 108) (k_hT : xT v.fTo) (k_hE : xE v.fRe) (k_tape : v.g 1 = v.lfi) (k_low : xLow (v.g 12) (v.g 13) (v.g 14) (v.g 15) (v.g 16) (v.g 58) v.f_landHas v.f_sky v.f_first v.f_last v.f_knot v.f_part v.f_other v.f_born v.f_deedOn v.f_deedHas v.f_noteHas) (k_ku : xKU v.f_knot v.f_part v.f_other) (k_tc : ∀ k : Nat, ¬ v.f_toldCount k < 0 ∧ v.f_toldCount k < 20000) (k_to0 : ¬ v.g 67 < 0) (k_to2 : v.g 67 ≤ 20) (k_w7 : v.f_words 117 = 32) (k_un0 : ¬ v.g 59 < 0) (k_unP : yPu v.f_undo v.f_noteHas (v.g 59) (v.g 16)) (k_im : v.g 70 = 0 ∨ yIm (v.g 71) (v.g 72) (v.g 14) (v.g 13) v.f_keptHas v.f_keptCount) (k_tb : zBy v.fBy v.f_tape v.lfi) (k_co : zCo v.fCo) (k_wd : zWd v.f_words) (k_fa : v.pfa = v.g 4) (k_fp : v.pfp = v.g 5) (k_lw : zLw v.fTo v.fNm v.FI v.GR v.FR v.wd v.wf v.mp v.mb v.mo v.sp v.sb v.rkn v.fRe v.fBo v.fDi v.fDa v.fDk v.fDt v.fDp v.ns v.fNs v.fNf v.fNz v.f_sky v.f_landName v.f_landHas v.f_feastName v.f_first v.f_last v.f_personName v.f_born v.f_died v.f_deedName v.f_deedOn v.f_deedHas v.f_noteName v.f_noteHas (v.g 12) (v.g 13) (v.g 14) (v.g 15) (v.g 16) (v.g 17) (v.g 58)) (k_fw : zFw (v.g 13) (v.g 17) v.fRc v.f_first v.f_last v.f_knot v.f_part v.f_other) (k_st : zSt v.xsc v.fSt (v.g 59) v.f_undo) (k_lg : zLg v.lz v.fLn v.fLc (v.g 67) v.f_toldNote v.f_toldCount) (k_ig : zIg v.xik v.is v.fIs v.fIf v.fIz v.iz v.fIn v.fIc (v.g 70) (v.g 71) (v.g 72) v.f_keptHas v.f_keptNote v.f_keptCount) : yI v := ⟨k_iz0, k_iz2, k_fi0, k_fi9, k_lz0, k_lz2, k_sc0, k_sc8, k_hT, k_hE, k_tape, k_low, k_ku, k_tc, k_to0, k_to2, k_w7, k_un0, k_unP, k_im, k_tb, k_co, k_wd, k_fa, k_fp, k_lw, k_fw, k_st, k_lg, k_ig⟩
theorem yh_h0_lfi {v : YV} (h : yI v) : ¬ v.lfi < 0 := h.fi0
theorem yh_hts0 {v : YV} (h : yI v) : ¬ (v.g 1) < 0 := by rw [h.tape]; exact h.fi0
theorem yh_hts9 {v : YV} (h : yI v) : (v.g 1) ≤ 900 := by rw [h.tape]; exact h.fi9
theorem yh_h9_fi {v : YV} (h : yI v) : v.lfi ≤ 900 := h.fi9
theorem yh_h0_sc {v : YV} (h : yI v) : ¬ v.xsc < 0 := h.sc0
theorem yh_h8_sc {v : YV} (h : yI v) : v.xsc ≤ 108 := h.sc8
theorem yh_h0_lz {v : YV} (h : yI v) : ¬ v.lz < 0 := h.lz0
theorem yh_h2_lz {v : YV} (h : yI v) : v.lz ≤ 20 := h.lz2
theorem yh_hw7 {v : YV} (h : yI v) : (v.f_words 117) = 32 := h.w7
theorem yh_hKu {v : YV} (h : yI v) : xKU v.f_knot v.f_part v.f_other := h.ku
theorem yh_hLow {v : YV} (h : yI v) : xLow (v.g 12) (v.g 13) (v.g 14) (v.g 15) (v.g 16) (v.g 58) v.f_landHas v.f_sky v.f_first v.f_last v.f_knot v.f_part v.f_other v.f_born v.f_deedOn v.f_deedHas v.f_noteHas := h.low
theorem yh_hln0 {v : YV} (h : yI v) : ¬ (v.g 12) < 0 := h.low.1.1
theorem yh_hln4 {v : YV} (h : yI v) : (v.g 12) ≤ 4 := h.low.1.2
theorem yh_hfe0 {v : YV} (h : yI v) : ¬ (v.g 13) < 0 := h.low.2.1.1
theorem yh_hfe4 {v : YV} (h : yI v) : (v.g 13) ≤ 4 := h.low.2.1.2
theorem yh_hp0 {v : YV} (h : yI v) : ¬ (v.g 14) < 0 := h.low.2.2.1.1
theorem yh_hp6 {v : YV} (h : yI v) : (v.g 14) ≤ 6 := h.low.2.2.1.2
theorem yh_hde0 {v : YV} (h : yI v) : ¬ (v.g 15) < 0 := h.low.2.2.2.1.1
theorem yh_hde4 {v : YV} (h : yI v) : (v.g 15) ≤ 4 := h.low.2.2.2.1.2
theorem yh_hn10 {v : YV} (h : yI v) : ¬ (v.g 58) < 0 := h.low.2.2.2.2.2.1.1
theorem yh_hn16 {v : YV} (h : yI v) : (v.g 58) ≤ 6 := h.low.2.2.2.2.2.1.2
theorem yh_hLZ {v : YV} (h : yI v) : ∀ k : Int32, ¬ k < 0 → k < (v.g 12) → ¬ (v.f_landHas ((3 * k).toNatClampNeg)) = 0 := fun k h0 h1 e => h.low.2.2.2.2.2.2.1 k h0 h1 (by rw [e]; decide)
theorem yh_hs0 {v : YV} (h : yI v) : ¬ (v.f_sky 0) < 1 := h.low.2.2.2.2.2.2.2.1.1
theorem yh_hs2 {v : YV} (h : yI v) : ¬ (v.f_sky 2) < 1 := h.low.2.2.2.2.2.2.2.1.2.1
theorem yh_hs5 {v : YV} (h : yI v) : ¬ (v.f_sky 5) < 1 := h.low.2.2.2.2.2.2.2.1.2.2
theorem yh_hE {v : YV} (h : yI v) : ∀ k, ¬ v.fRe k < 0 := h.hE
theorem yh_hFA {v : YV} (h : yI v) : ∀ k : Int32, ¬ k < 0 → k < (v.g 13) → ¬ (v.f_first k.toNatClampNeg) < 0 ∧ (v.f_last k.toNatClampNeg) ≤ 64 ∧ ¬ (v.f_last k.toNatClampNeg) < 1 := h.low.2.2.2.2.2.2.2.2.1
theorem yh_hKA {v : YV} (h : yI v) : ∀ k : Nat, k < 64 → xKV v.f_knot v.f_part v.f_other k := h.low.2.2.2.2.2.2.2.2.2.1
theorem yh_ht2 {v : YV} (h : yI v) : (v.fTo 2) ≤ 6 := h.hT.2.2.1.2
theorem yh_hLZ1 {v : YV} (h : yI v) : ∀ k : Int32, ¬ k < 0 → k < (v.g 12) → ¬ (v.f_landHas ((3 * k).toNatClampNeg)) < 1 := h.low.2.2.2.2.2.2.1
theorem yh_hBO {v : YV} (h : yI v) : ∀ k : Int32, ¬ k < 0 → k < (v.g 14) → ¬ (v.f_born k.toNatClampNeg) < 0 ∧ (v.f_born k.toNatClampNeg) ≤ 1000000000000 := h.low.2.2.2.2.2.2.2.2.2.2.1
theorem yh_ht3 {v : YV} (h : yI v) : (v.fTo 3) ≤ 4 := h.hT.2.2.2.1.2
theorem yh_hDE {v : YV} (h : yI v) : ∀ k : Int32, ¬ k < 0 → k < (v.g 15) → ¬ (v.f_deedOn k.toNatClampNeg) < 0 ∧ (v.f_deedOn k.toNatClampNeg) ≤ 1000000000000 ∧ ((v.f_deedHas ((3 * k).toNatClampNeg)) = 2 → ¬ (v.f_deedHas (((3 * k) + 1).toNatClampNeg)) < 0 ∧ (v.f_deedHas (((3 * k) + 1).toNatClampNeg)) < (v.g 13)) := h.low.2.2.2.2.2.2.2.2.2.2.2.1
theorem yh_hnt0 {v : YV} (h : yI v) : ¬ (v.g 16) < 0 := h.low.2.2.2.2.1.1
theorem yh_hnt2 {v : YV} (h : yI v) : (v.g 16) ≤ 12 := h.low.2.2.2.2.1.2
theorem yh_hun0 {v : YV} (h : yI v) : ¬ (v.g 59) < 0 := h.un0
theorem yh_hun8 {v : YV} (h : yI v) : (v.g 59) < 128 := by have := h.un8; lia
theorem yh_hun128 {v : YV} (h : yI v) : (v.g 59) ≤ 128 := by have := h.un8; lia
theorem yh_hnu {v : YV} (h : yI v) : (v.g 59) = 0 ∨ ¬ (v.g 16) < 1 := h.un1
theorem yh_hNA {v : YV} (h : yI v) : ∀ k : Int32, ¬ k < 0 → k < (v.g 16) → (¬ fq_isOf (v.f_noteHas ((11 * k).toNatClampNeg)) 5 = 0 → ¬ (v.f_noteHas (((11 * k) + 7).toNatClampNeg)) < 0 ∧ (v.f_noteHas (((11 * k) + 7).toNatClampNeg)) < (v.g 14)) ∧ (¬ fq_isOf (v.f_noteHas ((11 * k).toNatClampNeg)) 6 = 0 → ¬ (v.f_noteHas (((11 * k) + 8).toNatClampNeg)) < 0 ∧ (v.f_noteHas (((11 * k) + 8).toNatClampNeg)) < (v.g 13)) ∧ (¬ fq_isOf (v.f_noteHas ((11 * k).toNatClampNeg)) 7 = 0 → ¬ (v.f_noteHas (((11 * k) + 9).toNatClampNeg)) < 0 ∧ (v.f_noteHas (((11 * k) + 9).toNatClampNeg)) < k) := h.low.2.2.2.2.2.2.2.2.2.2.2.2
theorem yh_hto0 {v : YV} (h : yI v) : ¬ (v.g 67) < 0 := h.to0
theorem yh_hto2 {v : YV} (h : yI v) : (v.g 67) ≤ 20 := h.to2
theorem yh_hTC {v : YV} (h : yI v) : ∀ k : Nat, ¬ v.f_toldCount k < 0 ∧ v.f_toldCount k < 20000 := h.tc
theorem yh_h0_iz {v : YV} (h : yI v) : ¬ v.iz < 0 := h.iz0
theorem yh_h2_iz {v : YV} (h : yI v) : v.iz ≤ 20 := h.iz2
/-- the loop's head, with n turns left at most -/
def yLP (l : Launch) (p : Program) (e : Env) (s : State) (m : MethodId) (below : List Frame) (meth : Method) (c : Code) (bs L : Nat) (dC : Nat → ClassId) (dI : Nat → Nat → Nat) (A : Nat → Prop) (n : Nat) : Prop :=
  ∀ (a : YA) (v : YV) (i : Int32) (ce sl : Nat) (H : Heap) (locs : List Loc) (ls : Array Slot), yI v → 0 ≤ i.toInt → i.toInt ≤ 3072 → (L : Int) < i.toInt + 6 + 6 * n → ce + n ≤ 601024 → sl + 6 * n ≤ 7293034 → va_K (dC, dI) vwCl (yK a) s → va_P (dC, dI) vwCl (yW a v) H → va_D A (yW a v) → va_S A s.heap H locs → lv_has ls 7 [(4, .int i), (3, .ref a.o3), (2, .ref a.mq), (1, .ref a.x), (0, .ref bs)] → W p l e room_1 s m #[Value.ref bs] below meth c H locs ce sl (lw_Z below #[Value.ref bs] s) (F0 m 23 ls [])
theorem y_six {i : Int32} (h0 : 0 ≤ i.toInt) (h6 : i.toInt + 6 ≤ 3072) : (i + 6).toInt = i.toInt + 6 := by
  have e6 : (6 : Int32).toInt = 6 := rfl
  rw [Int32.toInt_add, e6]
  exact Int.bmod_eq_of_le (by omega) (by omega)
theorem dL_law_2012 : decode cL_law 2012 = .ok (.iinc 4 6, 3) := zk_132 (by decide +kernel)
theorem dL_law_2015 : decode cL_law 2015 = .ok (.goto (-1992), 3) := zk_167 (by decide +kernel)
theorem y_inc (l : Launch) {p : Program} {e : Env} {s : State} {m : MethodId} {below : List Frame} {meth : Method} {c : Code} {bs L : Nat} {xs : Nat → Int32} (C0 : lw_At p s m meth c bs L xs) {o3 mq x : Nat} {i : Int32} {H : Heap} {locs : List Loc} {ls : Array Slot} {ce sl : Nat} (hl : lv_has ls 7 [(4, .int i), (3, .ref o3), (2, .ref mq), (1, .ref x), (0, .ref bs)]) (kk : ∀ ls : Array Slot, lv_has ls 7 [(4, .int (i + 6)), (3, .ref o3), (2, .ref mq), (1, .ref x), (0, .ref bs)] → W p l e room_1 s m #[Value.ref bs] below meth c H locs ce sl (lw_Z below #[Value.ref bs] s) (F0 m 23 ls [])) : W p l e room_1 s m #[Value.ref bs] below meth c H locs ce sl (lw_Z below #[Value.ref bs] s) (F0 m 2012 ls []) := by
  obtain ⟨hx, hb, hr, hml, hown, hts, hX, hbl, hlocks, hgv⟩ := id C0
  refine lv_iinc (v := (i + 6)) (lv' := [(4, .int (i + 6)), (3, .ref o3), (2, .ref mq), (1, .ref x), (0, .ref bs)]) hx hb dL_law_2012 hl (k := 0) rfl (rfl) (by decide) rfl (fun ls hl => ?_)
  refine lv_goto (tgt := 23) hx hb dL_law_2015 (by decide) ?_
  exact kk ls hl
