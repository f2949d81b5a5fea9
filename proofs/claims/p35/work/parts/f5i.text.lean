theorem z_27 {lr fr pr dr nr tw tm ts : Int32} (a1 : ¬ lr < 0) (a2 : lr ≤ 4) (a3 : ¬ fr < 0) (a4 : fr ≤ 4) (a5 : ¬ pr < 0) (a6 : pr ≤ 6) (a7 : ¬ dr < 0) (a8 : dr ≤ 4) (a9 : ¬ nr < 0) (b1 : nr ≤ 6) (d1 : tw = 0 ∨ tw = 1) (d2 : tm = 0 ∨ tm = 1) (d3 : ts = 0 ∨ ts = 1) (s : lr + fr + pr + dr + nr + tw + tm + ts = 27 + 1) : False := by
  rcases d1 with d1 | d1 <;> rcases d2 with d2 | d2 <;> rcases d3 with d3 | d3 <;> rw [d1, d2, d3] at s <;> lia
def zRt9 (X : Int32 × Int32 × Int32 × Int32 × Int32 × Int32 × Int32 × Int32 × Int32 × Int32 × Int32 × Int32 × Int32 × (Nat → Int32) × (Nat → Int32) × (Nat → Int32) × (Nat → Nat → Int32) × (Nat → Int32) × (Nat → Int32) × (Nat → Int32) × Int32 × Int32 × Int32 × Int32 × Int32 × Int32 × Int32 × Int32 × Int32 × (Nat → Int32) × (Nat → Int32) × (Nat → Int64) × (Nat → Int64) × (Nat → Int64) × (Nat → Int32) × (Nat → Int32) × (Nat → Int32) × Int32 × (Nat → Int32) × (Nat → Int32) × (Nat → Int32)) (Y : Int32 × (Int32) × (Int32) × (Int32) × (Int32) × (Int32) × (Int32) × (Int32) × (Int32) × (Int32) × (Int32) × (Int32) × (Int32) × (Int32) × (Int32) × (Int32) × (Int32) × (Int32) × (Int32) × (Int32) × (Int32) × (Int32) × (Int32) × (Int32) × (Int32) × (Int32) × (Int32) × (Int32) × (Int32) × (Int32) × (Nat → Int32) × (Nat → Int32) × (Nat → Int32) × (Nat → Int32) × (Nat → Int32) × (Nat → Int32) × (Nat → Int32) × (Nat → Int64) × (Nat → Int64) × (Nat → Int32) × (Nat → Int64) × (Nat → Int32) × (Nat → Int32) × (Nat → Int32) × (Nat → Int32) × (Nat → Int32) × (Nat → Int32) × (Int32) × (Int64) × (Int32) × (Int32) × (Int32) × (Int32) × (Int32) × (Nat → Int32) × (Nat → Int32)) : Prop := X.1 = Y.1 ∧ X.2.1 = Y.2.2.2.1 ∧ X.2.2.1 = Y.2.2.2.2.1 ∧ ¬ X.1 < -1
theorem z_rd {fBy ft fw fCo : Nat → Int32} {st kl kf kp kd0 kn0 kk0 k1 k2 k3 k4 : Int32} (g : zG fBy ft fw fCo st) :
    ∀ (m n : Nat) (S lfi lxa lxt lxp lxn lxl pfa pfp psk phs pop ns rsz rkn wd wf mp mb mo sp sb fa fp nx kd wh ap got lr fr pr dr nr kr tw tm ts wt he br ct wn mn : Int32) (FI GR FR fDk fDp fDt fTo fNf fNs fNz fHe fHr fRc fRe sky lna lh fna fst lst pna dna dh nna nh knt prt fOt fWa fHd : Nat → Int32) (fBo fDa fDi bo di don : Nat → Int64) (fNm : Nat → Nat → Int32) (gc : Int64), m + 1 ≤ n → S.toInt + m = 27 → ¬ S < 0 → zT st lxa lxt lxp lxn lxl nx kd wh ap → pfa = fa → pfp = fp → zBk psk fTo fNm FI GR FR wd wf mp mb mo sp sb rsz rkn fRc fRe fBo fDi fDa fDk fDt fDp ns fNs fNf fNz sky lna lh fna fst lst pna bo di dna don dh nna nh knt prt lr fr pr dr nr kr tw tm ts ct → lr + fr + pr + dr + nr + tw + tm + ts = S →
    zRt9 (fp_read_d fBy fCo n S S FI GR FR lfi st lxa lxt lxp lxn lxl pfa pfp psk phs pop ns rsz rkn wd wf mp mb mo sp sb fNm fBo fDa fDi fDk fDp fDt fTo fNf fNs fNz fHe fHr fRc fRe) (fq_text_d ft fw st kl kf kp kd0 kn0 kk0 k1 k2 k3 k4 m S fa fp nx kd wh ap got lr fr pr dr nr kr tw tm ts gc wt he br ct wn mn sky lna lh fna fst lst pna bo di dna don dh nna nh knt prt fOt fWa fHd) := by
  intro m
  induction m with
  | zero =>
    intro n S lfi lxa lxt lxp lxn lxl pfa pfp psk phs pop ns rsz rkn wd wf mp mb mo sp sb fa fp nx kd wh ap got lr fr pr dr nr kr tw tm ts wt he br ct wn mn FI GR FR fDk fDp fDt fTo fNf fNs fNz fHe fHr fRc fRe sky lna lh fna fst lst pna dna dh nna nh knt prt fOt fWa fHd fBo fDa fDi bo di don fNm gc hn hS S0 h q1 q2 hb hs
    obtain ⟨n, rfl⟩ : ∃ n', n = n' + 1 := ⟨n - 1, by omega⟩
    have S9 : ¬ 900 ≤ S := fun z => by
      have := xi_le z
      have e : (900 : Int32).toInt = 900 := rfl
      omega
    rw [fp_read_d, if_neg S9, fq_text_d, zite (zq40 h.2.2.2.2.1 h.2.2.2.2.2.1)]
    by_cases c : kd = 0
    · rw [if_pos c, if_pos c, xL_eq]; exact ⟨rfl, q1, q2, by clear hb hs; lia⟩
    rw [if_neg c, if_neg c]
    apply zLx; intro X hX Y hY
    obtain ⟨p1, p2, p3⟩ := z_line g h q1 q2 hb hs X hX Y hY
    rcases p3 with ⟨r1, r2⟩ | ⟨r1, r2, t2, b2, s2⟩
    · rw [if_pos r1]; exact ⟨rfl, p1, p2, show ¬ (-1 : Int32) < -1 by decide⟩
    · exfalso
      obtain ⟨_, _, _, _, _, ⟨a1, a2⟩, ⟨a3, a4⟩, ⟨a5, a6⟩, ⟨a7, a8⟩, ⟨a9, b1⟩⟩ := b2.1
      obtain ⟨d1, d2, d3, _⟩ := b2.2.2.2.2.1
      have S27 : S = 27 := Int32.toInt_inj.mp (by have e : (27 : Int32).toInt = 27 := rfl; omega)
      exact z_27 a1 a2 a3 a4 a5 a6 a7 a8 a9 b1 d1 d2 d3 (by rw [S27] at s2; exact s2)
  | succ m ih =>
    intro n S lfi lxa lxt lxp lxn lxl pfa pfp psk phs pop ns rsz rkn wd wf mp mb mo sp sb fa fp nx kd wh ap got lr fr pr dr nr kr tw tm ts wt he br ct wn mn FI GR FR fDk fDp fDt fTo fNf fNs fNz fHe fHr fRc fRe sky lna lh fna fst lst pna dna dh nna nh knt prt fOt fWa fHd fBo fDa fDi bo di don fNm gc hn hS S0 h q1 q2 hb hs
    obtain ⟨n, rfl⟩ : ∃ n', n = n' + 1 := ⟨n - 1, by omega⟩
    have S9 : ¬ 900 ≤ S := fun z => by
      have := xi_le z
      have e : (900 : Int32).toInt = 900 := rfl
      omega
    have S1 : (S + 1).toInt = S.toInt + 1 := by
      have b0 := xi_nn S0
      have e1 : (1 : Int32).toInt = 1 := rfl
      rw [Int32.toInt_add, e1]; exact Int.bmod_eq_of_le (by omega) (by omega)
    rw [fp_read_d, if_neg S9, fq_text_d, zite (zq40 h.2.2.2.2.1 h.2.2.2.2.2.1)]
    by_cases c : kd = 0
    · rw [if_pos c, if_pos c, xL_eq]; exact ⟨rfl, q1, q2, by clear ih hb hs; lia⟩
    rw [if_neg c, if_neg c]
    apply zLx; intro X hX Y hY
    obtain ⟨p1, p2, p3⟩ := z_line g h q1 q2 hb hs X hX Y hY
    rcases p3 with ⟨r1, r2⟩ | ⟨r1, r2, t2, b2, s2⟩
    · rw [if_pos r1, if_pos r2]; exact ⟨rfl, p1, p2, show ¬ (-1 : Int32) < -1 by decide⟩
    rw [if_neg (z10 r1), if_neg (z01 r2)]
    have n1 : m + 1 ≤ n := by omega
    have S2 : (S + 1).toInt + m = 27 := by omega
    have S3 : ¬ S + 1 < 0 := fun z => by
      have z1 := Int32.lt_iff_toInt_lt.mp z
      have z2 := xi_nn S0
      have z3 : (0 : Int32).toInt = 0 := rfl
      omega
    clear hX hY
    exact ih n (S + 1) _ _ _ _ _ _ _ _ _ _ _ _ _ _ _ _ _ _ _ _ _ _ _ _ _ _ _ _ _ _ _ _ _ _ _ _ _ _ _ _ _ _ _ _ _ _ _ _ _ _ _ _ _ _ _ _ _ _ _ _ _ _ _ _ _ _ _ _ _ _ _ _ _ _ _ _ _ _ _ _ _ n1 S2 S3 t2 p1 p2 b2 s2
