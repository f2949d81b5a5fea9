def zop (k : Int32) : Int32 := if k = 0 then 26 else if k = 2 then 21 else if k = 3 then 20 else if k = 4 then 19 else if k < 11 then 28 + k else 17 + k
def znmt (p : Int32) : Int32 := if p = 0 then 15 else if p = 1 then 14 else if p = 2 then 2 else if p = 3 then 3 else if p = 4 then 16 else 22
def zCd (c k p : Int32) : Prop := (k = 0 ∧ c = p ∧ ¬ p < 0 ∧ p ≤ 9999) ∨ (k = 1 ∧ c = fr_knotOf (znmt p) ∧ ¬ p < 0 ∧ p ≤ 5) ∨ (¬ k < 2 ∧ k ≤ 15 ∧ c = fr_knotOf (zop k))
/-- what a saying's numbers are -/
def zBw (w a c : Int32) : Prop := ¬ a < 0 ∧ (w = 0 → ¬ a < 1 ∧ ¬ c < a ∧ c ≤ 9999) ∧ (w = 1 → ¬ a < 1) ∧ (w = 7 → ¬ c < -9999 ∧ c ≤ 9999)
/-- note k says the same in both (the reference's low half) -/
def zN1 (fNs fNf fNz nh : Nat → Int32) (k : Nat) : Prop := fNs k = nh (11 * k) ∧ ∀ w : Int32, ¬ w < 0 → w < 8 → ¬ fq_isOf (fNs k) w = 0 →
  (w = 0 → fNf (8 * k + w.toNatClampNeg) = nh (11 * k + 1) ∧ fNz (8 * k + w.toNatClampNeg) = nh (11 * k + 2)) ∧ (w = 7 → fNf (8 * k + w.toNatClampNeg) = nh (11 * k + 9) ∧ fNz (8 * k + w.toNatClampNeg) = nh (11 * k + 10)) ∧
  (¬ w = 0 → ¬ w = 7 → fNf (8 * k + w.toNatClampNeg) = nh (11 * k + 2 + w.toNatClampNeg)) ∧ zBw w (fNf (8 * k + w.toNatClampNeg)) (fNz (8 * k + w.toNatClampNeg))
def zNt (ns : Int32) (fNs fNf fNz : Nat → Int32) (no : Int32) (nh : Nat → Int32) : Prop := ns = no ∧ ∀ k : Nat, k < no.toNatClampNeg → zN1 fNs fNf fNz nh k
def zLC (fTo : Nat → Int32) (rkn la fe pe de n1 kn : Int32) : Prop := fTo 0 = la ∧ fTo 1 = fe ∧ fTo 2 = pe ∧ fTo 3 = de ∧ fTo 4 = n1 ∧ rkn = kn ∧ (¬ la < 0 ∧ la ≤ 4) ∧ (¬ fe < 0 ∧ fe ≤ 4) ∧ (¬ pe < 0 ∧ pe ≤ 6) ∧ (¬ de < 0 ∧ de ≤ 4) ∧ (¬ n1 < 0 ∧ n1 ≤ 6)
def zLN (fNm : Nat → Nat → Int32) (lna fna pna dna nna : Nat → Int32) (la fe pe de n1 : Int32) : Prop := (∀ k : Nat, k < la.toNatClampNeg → fNm 0 k = lna k) ∧ (∀ k : Nat, k < fe.toNatClampNeg → fNm 1 k = fna k) ∧ (∀ k : Nat, k < pe.toNatClampNeg → fNm 2 k = pna k) ∧ (∀ k : Nat, k < de.toNatClampNeg → fNm 3 k = dna k) ∧ (∀ k : Nat, k < n1.toNatClampNeg → fNm 4 k = nna k)
def zLL (FI GR FR lh : Nat → Int32) (n : Int32) : Prop := ∀ k : Nat, k < n.toNatClampNeg → FI k = lh (3 * k) ∧ GR k = lh (3 * k + 1) ∧ FR k = lh (3 * k + 2) ∧ ¬ FI k < 1 ∧ FI k ≤ 9999 ∧ ¬ GR k < -99 ∧ GR k ≤ 99 ∧ ¬ FR k < 0 ∧ FR k ≤ 99999
def zLS (sky : Nat → Int32) (wd wf mp mb mo sp sb : Int32) : Prop := (sky 0 = wd ∧ sky 1 = wf ∧ sky 2 = mp ∧ sky 3 = mb ∧ sky 4 = mo ∧ sky 5 = sp ∧ sky 6 = sb) ∧ (¬ wd < 2 ∧ wd ≤ 30 ∧ ¬ wf < 0 ∧ wf < wd) ∧ (¬ mp < 1 ∧ mp ≤ 9999 ∧ ¬ mb < 1 ∧ mb ≤ 99 ∧ 8 * mb ≤ mp ∧ ¬ mo < 0 ∧ mo < mp) ∧ (¬ sp < 1 ∧ sp ≤ 9999 ∧ ¬ sb < 1 ∧ sb ≤ 99 ∧ 8 * sb ≤ sp)
def zLP (fBo fDi bo di : Nat → Int64) (n : Int32) : Prop := (∀ k : Nat, k < n.toNatClampNeg → fBo k = bo k) ∧ (∀ k : Nat, k < n.toNatClampNeg → fDi k = di k) ∧ ∀ k : Nat, k < n.toNatClampNeg → fDi k = -1 ∨ ¬ fDi k < 0
def zLD (fDa don : Nat → Int64) (fDk fDt fDp dh : Nat → Int32) (nf n : Int32) : Prop := (∀ k : Nat, k < n.toNatClampNeg → fDa k = don k) ∧ ∀ k : Nat, k < n.toNatClampNeg → fDk k = dh (3 * k) ∧ fDt k = dh (3 * k + 1) ∧ fDp k = dh (3 * k + 2) ∧ ¬ fDk k < 0 ∧ fDk k ≤ 2 ∧ ¬ fDt k < 0 ∧ (fDk k = 2 → fDt k < nf) ∧ ¬ fDp k < 0 ∧ fDp k ≤ 999
def zLE (fRe fst lst : Nat → Int32) (fe kn : Int32) : Prop := (∀ k : Nat, k < fe.toNatClampNeg → fRe k = lst k ∧ fst k = (if k = 0 then 0 else lst (k - 1))) ∧ kn = (if fe.toNatClampNeg = 0 then 0 else lst (fe.toNatClampNeg - 1)) ∧ ¬ kn < 0 ∧ kn ≤ 64
/-- the class's book against the reference's low halves -/
def zLw (fTo : Nat → Int32) (fNm : Nat → Nat → Int32) (FI : Nat → Int32) (GR : Nat → Int32) (FR : Nat → Int32) (wd : Int32) (wf : Int32) (mp : Int32) (mb : Int32) (mo : Int32) (sp : Int32) (sb : Int32) (rkn : Int32) (fRe : Nat → Int32) (fBo : Nat → Int64) (fDi : Nat → Int64) (fDa : Nat → Int64) (fDk : Nat → Int32) (fDt : Nat → Int32) (fDp : Nat → Int32) (ns : Int32) (fNs : Nat → Int32) (fNf : Nat → Int32) (fNz : Nat → Int32) (sky : Nat → Int32) (lna : Nat → Int32) (lh : Nat → Int32) (fna : Nat → Int32) (fst : Nat → Int32) (lst : Nat → Int32) (pna : Nat → Int32) (bo : Nat → Int64) (di : Nat → Int64) (dna : Nat → Int32) (don : Nat → Int64) (dh : Nat → Int32) (nna : Nat → Int32) (nh : Nat → Int32) (la : Int32) (fe : Int32) (pe : Int32) (de : Int32) (no : Int32) (kn : Int32) (n1 : Int32) : Prop :=
  zLC fTo rkn la fe pe de n1 kn ∧ zLN fNm lna fna pna dna nna la fe pe de n1 ∧ zLL FI GR FR lh la ∧ zLS sky wd wf mp mb mo sp sb ∧ zLP fBo fDi bo di pe ∧ zLD fDa don fDk fDt fDp dh fe de ∧ zLE fRe fst lst fe kn ∧ zNt ns fNs fNf fNz no nh
def zSt (xsc : Int32) (fSt : Nat → Int32) (un : Int32) (fu : Nat → Int32) : Prop := xsc = un ∧ ∀ k : Nat, k < un.toNatClampNeg → (fu k = -1 ∧ fSt k = 8) ∨ (¬ fu k < 0 ∧ fu k < 8 ∧ fSt k = fu k)
def zLg (lz : Int32) (fLn fLc : Nat → Int32) (to : Int32) (ftn ftc : Nat → Int32) : Prop := lz = to ∧ ∀ k : Nat, k < to.toNatClampNeg → fLn k = ftn k ∧ fLc k = ftc k
def zIg (xik is : Int32) (fIs fIf fIz : Nat → Int32) (iz : Int32) (fIn fIc : Nat → Int32) (hi kn kt : Int32) (kh kcn kcc : Nat → Int32) : Prop := (xik = 0 ∧ hi = 0) ∨ (¬ xik = 0 ∧ ¬ hi = 0 ∧ zNt is fIs fIf fIz kn kh ∧ zLg iz fIn fIc kt kcn kcc)
/-- how many values a knot takes -/
def zar (k : Int32) : Nat := if k < 2 then 0 else if k = 2 then 1 else 2
/-- the knots that wait behind j knots from s on, the latest first -/
def zks (K : Nat → Int32) (s : Nat) : Nat → List Nat
  | 0 => []
  | j + 1 => (s + j) :: (zks K s j).drop (zar (K (s + j)))
def zpt (K P O : Nat → Int32) (s i : Nat) : Prop := (K (s + i) = 2 → (zks K s i)[0]? = some (P (s + i)).toNatClampNeg) ∧ (¬ K (s + i) < 3 → (zks K s i)[0]? = some (O (s + i)).toNatClampNeg ∧ (zks K s i)[1]? = some (P (s + i)).toNatClampNeg)
def zog (K P O : Nat → Int32) (s j : Nat) : Prop := ∀ i, i < j → zpt K P O s i
/-- a rule whose knots stand from s to e -/
def zFd (K P O : Nat → Int32) (s e : Nat) : Prop := zog K P O s (e - s) ∧ (zks K s (e - s)).length = 1
/-- the rules that are told, in both -/
def zFw (fe kn : Int32) (fRc fst lst knt prt oth : Nat → Int32) : Prop := (∀ f : Nat, f < fe.toNatClampNeg → (lst f).toNatClampNeg ≤ kn.toNatClampNeg ∧ zFd knt prt oth (fst f).toNatClampNeg (lst f).toNatClampNeg) ∧ ∀ i : Nat, i < kn.toNatClampNeg → zCd (fRc i) (knt i) (prt i)
