/-- an instruction from its bytes -/
theorem qzdu1q {l : List UInt8} {p : Nat} {a : UInt8} {r : List UInt8} (h : l.drop p = a :: r) : (Reader.u1 : Decoder Nat) (ByteArray.mk (Array.mk l)) p = .ok (a.toNat, p + 1) := by
  have hl : p < l.length := by
    apply Nat.lt_of_not_le
    intro hc
    rw [List.drop_eq_nil_of_le hc] at h
    cases h
  rw [List.drop_eq_getElem_cons hl] at h
  injection h with h1 h2
  show (do if h : p < (ByteArray.mk (Array.mk l)).size then do set (p + 1); Pure.pure (ByteArray.mk (Array.mk l))[p].toNat else MonadExcept.throw (HasTruncated.truncated p) : Decoder Nat) (ByteArray.mk (Array.mk l)) p = _
  rw [dif_pos (show p < (ByteArray.mk (Array.mk l)).size from hl)]
  show Except.ok (l[p].toNat, p + 1) = _
  rw [h1]
theorem qzdnq {l : List UInt8} {p : Nat} {a : UInt8} {r : List UInt8} (h : l.drop p = a :: r) : l.drop (p + 1) = r := by
  rw [← List.tail_drop, h]
  rfl
theorem qzdBq {c : ByteArray} {p s : Nat} {α : Type} {f : Decoder α} {x : α} (h : f c p = .ok (x, s)) {G : α → Decoder Instr} {R : Except DecodeError (Instr × Nat)} (hG : G x c s = R) : (f >>= G : Decoder Instr) c p = R := by
  show (do let (y, t) ← f c p; G y c t : Except DecodeError (Instr × Nat)) = _
  rw [h]
  exact hG
theorem qzds1q {l : List UInt8} {p : Nat} {a : UInt8} {r : List UInt8} (h : l.drop p = a :: r) : (Reader.s1 : Decoder Int) (ByteArray.mk (Array.mk l)) p = .ok (Reader.signed 8 a.toNat, p + 1) := by
  show (do let (x, s) ← (Reader.u1 : Decoder Nat) (ByteArray.mk (Array.mk l)) p; Pure.pure (Reader.signed 8 x, s) : Except DecodeError (Int × Nat)) = _
  rw [qzdu1q h]
  rfl
theorem qzdu2q {l : List UInt8} {p : Nat} {a b : UInt8} {r : List UInt8} (h : l.drop p = a :: b :: r) : (Reader.u2 : Decoder Nat) (ByteArray.mk (Array.mk l)) p = .ok (a.toNat * 256 + b.toNat, p + 1 + 1) := by
  show (do let (x, s) ← (Reader.u1 : Decoder Nat) (ByteArray.mk (Array.mk l)) p; let (y, t) ← (Reader.u1 : Decoder Nat) (ByteArray.mk (Array.mk l)) s; Pure.pure (x * 256 + y, t) : Except DecodeError (Nat × Nat)) = _
  rw [qzdu1q h]
  show (do let (y, t) ← (Reader.u1 : Decoder Nat) (ByteArray.mk (Array.mk l)) (p + 1); Pure.pure (a.toNat * 256 + y, t) : Except DecodeError (Nat × Nat)) = _
  rw [qzdu1q (qzdnq h)]
  rfl
theorem qzds2q {l : List UInt8} {p : Nat} {a b : UInt8} {r : List UInt8} (h : l.drop p = a :: b :: r) : (Reader.s2 : Decoder Int) (ByteArray.mk (Array.mk l)) p = .ok (Reader.signed 16 (a.toNat * 256 + b.toNat), p + 1 + 1) := by
  show (do let (x, s) ← (Reader.u2 : Decoder Nat) (ByteArray.mk (Array.mk l)) p; Pure.pure (Reader.signed 16 x, s) : Except DecodeError (Int × Nat)) = _
  rw [qzdu2q h]
  rfl
theorem qzdKq {l : List UInt8} {p q n : Nat} {a : UInt8} {r : List UInt8} {K : Nat → Decoder Instr} {I : Instr} (e : Decoder.instr p = (Reader.u1 >>= K)) (h : l.drop p = a :: r) (hk : K a.toNat (ByteArray.mk (Array.mk l)) (p + 1) = .ok (I, q)) (hn : q - p = n) : decode (ByteArray.mk (Array.mk l)) p = .ok (I, n) := by
  have h1 : (Reader.u1 >>= K : Decoder Instr) (ByteArray.mk (Array.mk l)) p = .ok (I, q) := qzdBq (qzdu1q h) hk
  rw [← e] at h1
  show (do let (i, t) ← (Decoder.instr p) (ByteArray.mk (Array.mk l)) p; Pure.pure (i, t - p) : Except DecodeError (Instr × Nat)) = _
  rw [h1, ← hn]
  rfl
def qzc0q (c : ByteArray) (p k : Nat) : Bool := match c.data.toList.drop p with
  | a :: _ => Nat.beq a.toNat k
  | _ => false
def qzcu1q (c : ByteArray) (p k v : Nat) : Bool := match c.data.toList.drop p with
  | a :: b :: _ => Nat.beq a.toNat k && Nat.beq b.toNat v
  | _ => false
def qzcs1q (c : ByteArray) (p k : Nat) (v : Int) : Bool := match c.data.toList.drop p with
  | a :: b :: _ => Nat.beq a.toNat k && decide (Reader.signed 8 b.toNat = v)
  | _ => false
def qzcu2q (c : ByteArray) (p k v : Nat) : Bool := match c.data.toList.drop p with
  | a :: b :: d :: _ => Nat.beq a.toNat k && Nat.beq (b.toNat * 256 + d.toNat) v
  | _ => false
def qzcs2q (c : ByteArray) (p k : Nat) (v : Int) : Bool := match c.data.toList.drop p with
  | a :: b :: d :: _ => Nat.beq a.toNat k && decide (Reader.signed 16 (b.toNat * 256 + d.toNat) = v)
  | _ => false
def qzciq (c : ByteArray) (p k v : Nat) (w : Int) : Bool := match c.data.toList.drop p with
  | a :: b :: d :: _ => Nat.beq a.toNat k && (Nat.beq b.toNat v && decide (Reader.signed 8 d.toNat = w))
  | _ => false
theorem qzb2q {x y : Bool} (h : (x && y) = true) : x = true ∧ y = true := by
  cases x
  · exact absurd h Bool.false_ne_true
  · exact ⟨rfl, h⟩
theorem qzk0q {c : ByteArray} {p k : Nat} {K : Nat → Decoder Instr} {I : Instr} (e : Decoder.instr p = (Reader.u1 >>= K)) (hK : K k = Pure.pure I) (h : qzc0q c p k = true) : decode c p = .ok (I, 1) := by
  obtain ⟨⟨l⟩⟩ := c
  unfold qzc0q at h
  change (match l.drop p with
    | a :: _ => Nat.beq a.toNat k
    | _ => false) = true at h
  cases hd : l.drop p with
  | nil => rw [hd] at h; exact absurd h Bool.false_ne_true
  | cons a r =>
    rw [hd] at h
    have ha : a.toNat = k := Nat.eq_of_beq_eq_true h
    exact qzdKq e hd (q := p + 1) (by rw [ha, hK]; rfl) (Nat.add_sub_cancel_left p 1)
theorem qzkxq {β : Type} {c : ByteArray} {p k s n : Nat} {K : Nat → Decoder Instr} {f : Decoder β} {F : β → Instr} {v : β} (e : Decoder.instr p = (Reader.u1 >>= K)) (hK : K k = (f >>= fun x => Pure.pure (F x))) {l : List UInt8} (hc : c = ByteArray.mk (Array.mk l)) {a : UInt8} {r : List UInt8} (hd : l.drop p = a :: r) (ha : a.toNat = k) (hf : f c (p + 1) = .ok (v, s)) (hn : s - p = n) : decode c p = .ok (F v, n) := by
  subst hc
  refine qzdKq e hd (q := s) ?_ hn
  rw [ha, hK]
  exact qzdBq hf rfl
theorem qzku1q {c : ByteArray} {p k : Nat} {v : Nat} {K : Nat → Decoder Instr} {F : Nat → Instr} (e : Decoder.instr p = (Reader.u1 >>= K)) (hK : K k = (Reader.u1 >>= fun x => Pure.pure (F x))) (h : qzcu1q c p k v = true) : decode c p = .ok (F v, 2) := by
  obtain ⟨⟨l⟩⟩ := c
  unfold qzcu1q at h
  change (match l.drop p with
    | a :: b :: _ => Nat.beq a.toNat k && Nat.beq b.toNat v
    | _ => false) = true at h
  cases hd : l.drop p with
  | nil => rw [hd] at h; exact absurd h Bool.false_ne_true
  | cons a r =>
    cases r with
    | nil => rw [hd] at h; exact absurd h Bool.false_ne_true
    | cons b r =>
      rw [hd] at h
      obtain ⟨h1, h2⟩ := qzb2q h
      have ha : a.toNat = k := Nat.eq_of_beq_eq_true h1
      have hv := Nat.eq_of_beq_eq_true h2
      subst hv
      exact qzkxq e hK rfl hd ha (qzdu1q (qzdnq hd)) (by omega)
theorem qzks1q {c : ByteArray} {p k : Nat} {v : Int} {K : Nat → Decoder Instr} {F : Int → Instr} (e : Decoder.instr p = (Reader.u1 >>= K)) (hK : K k = (Reader.s1 >>= fun x => Pure.pure (F x))) (h : qzcs1q c p k v = true) : decode c p = .ok (F v, 2) := by
  obtain ⟨⟨l⟩⟩ := c
  unfold qzcs1q at h
  change (match l.drop p with
    | a :: b :: _ => Nat.beq a.toNat k && decide (Reader.signed 8 b.toNat = v)
    | _ => false) = true at h
  cases hd : l.drop p with
  | nil => rw [hd] at h; exact absurd h Bool.false_ne_true
  | cons a r =>
    cases r with
    | nil => rw [hd] at h; exact absurd h Bool.false_ne_true
    | cons b r =>
      rw [hd] at h
      obtain ⟨h1, h2⟩ := qzb2q h
      have ha : a.toNat = k := Nat.eq_of_beq_eq_true h1
      have hv := of_decide_eq_true h2
      subst hv
      exact qzkxq e hK rfl hd ha (qzds1q (qzdnq hd)) (by omega)
theorem qzku2q {c : ByteArray} {p k : Nat} {v : Nat} {K : Nat → Decoder Instr} {F : Nat → Instr} (e : Decoder.instr p = (Reader.u1 >>= K)) (hK : K k = (Reader.u2 >>= fun x => Pure.pure (F x))) (h : qzcu2q c p k v = true) : decode c p = .ok (F v, 3) := by
  obtain ⟨⟨l⟩⟩ := c
  unfold qzcu2q at h
  change (match l.drop p with
    | a :: b :: d :: _ => Nat.beq a.toNat k && Nat.beq (b.toNat * 256 + d.toNat) v
    | _ => false) = true at h
  cases hd : l.drop p with
  | nil => rw [hd] at h; exact absurd h Bool.false_ne_true
  | cons a r =>
    cases r with
    | nil => rw [hd] at h; exact absurd h Bool.false_ne_true
    | cons b r =>
      cases r with
      | nil => rw [hd] at h; exact absurd h Bool.false_ne_true
      | cons d r =>
        rw [hd] at h
        obtain ⟨h1, h2⟩ := qzb2q h
        have ha : a.toNat = k := Nat.eq_of_beq_eq_true h1
        have hv := Nat.eq_of_beq_eq_true h2
        subst hv
        exact qzkxq e hK rfl hd ha (qzdu2q (qzdnq hd)) (by omega)
theorem qzks2q {c : ByteArray} {p k : Nat} {v : Int} {K : Nat → Decoder Instr} {F : Int → Instr} (e : Decoder.instr p = (Reader.u1 >>= K)) (hK : K k = (Reader.s2 >>= fun x => Pure.pure (F x))) (h : qzcs2q c p k v = true) : decode c p = .ok (F v, 3) := by
  obtain ⟨⟨l⟩⟩ := c
  unfold qzcs2q at h
  change (match l.drop p with
    | a :: b :: d :: _ => Nat.beq a.toNat k && decide (Reader.signed 16 (b.toNat * 256 + d.toNat) = v)
    | _ => false) = true at h
  cases hd : l.drop p with
  | nil => rw [hd] at h; exact absurd h Bool.false_ne_true
  | cons a r =>
    cases r with
    | nil => rw [hd] at h; exact absurd h Bool.false_ne_true
    | cons b r =>
      cases r with
      | nil => rw [hd] at h; exact absurd h Bool.false_ne_true
      | cons d r =>
        rw [hd] at h
        obtain ⟨h1, h2⟩ := qzb2q h
        have ha : a.toNat = k := Nat.eq_of_beq_eq_true h1
        have hv := of_decide_eq_true h2
        subst hv
        exact qzkxq e hK rfl hd ha (qzds2q (qzdnq hd)) (by omega)
theorem qzkiq {c : ByteArray} {p k v : Nat} {w : Int} {K : Nat → Decoder Instr} {F : Nat → Int → Instr} (e : Decoder.instr p = (Reader.u1 >>= K)) (hK : K k = (Reader.u1 >>= fun x => Reader.s1 >>= fun y => Pure.pure (F x y))) (h : qzciq c p k v w = true) : decode c p = .ok (F v w, 3) := by
  obtain ⟨⟨l⟩⟩ := c
  unfold qzciq at h
  change (match l.drop p with
    | a :: b :: d :: _ => Nat.beq a.toNat k && (Nat.beq b.toNat v && decide (Reader.signed 8 d.toNat = w))
    | _ => false) = true at h
  cases hd : l.drop p with
  | nil => rw [hd] at h; exact absurd h Bool.false_ne_true
  | cons a r =>
    cases r with
    | nil => rw [hd] at h; exact absurd h Bool.false_ne_true
    | cons b r =>
      cases r with
      | nil => rw [hd] at h; exact absurd h Bool.false_ne_true
      | cons d r =>
        rw [hd] at h
        obtain ⟨h1, h2⟩ := qzb2q h
        obtain ⟨h3, h4⟩ := qzb2q h2
        have ha : a.toNat = k := Nat.eq_of_beq_eq_true h1
        have hv := Nat.eq_of_beq_eq_true h3
        have hw := of_decide_eq_true h4
        subst hv
        subst hw
        refine qzdKq e hd (q := p + 1 + 1 + 1) ?_ (by omega)
        rw [ha, hK]
        exact qzdBq (qzdu1q (qzdnq hd)) (qzdBq (qzds1q (qzdnq (qzdnq hd))) rfl)
set_option maxRecDepth 100000 in
theorem zk_1 {c : ByteArray} {p : Nat} (h : qzc0q c p 1 = true) : decode c p = .ok (.aconst_null, 1) := qzk0q rfl rfl h
set_option maxRecDepth 100000 in
theorem zk_2 {c : ByteArray} {p : Nat} (h : qzc0q c p 2 = true) : decode c p = .ok (.iconst (-1), 1) := qzk0q rfl rfl h
set_option maxRecDepth 100000 in
theorem zk_3 {c : ByteArray} {p : Nat} (h : qzc0q c p 3 = true) : decode c p = .ok (.iconst 0, 1) := qzk0q rfl rfl h
set_option maxRecDepth 100000 in
theorem zk_4 {c : ByteArray} {p : Nat} (h : qzc0q c p 4 = true) : decode c p = .ok (.iconst 1, 1) := qzk0q rfl rfl h
set_option maxRecDepth 100000 in
theorem zk_5 {c : ByteArray} {p : Nat} (h : qzc0q c p 5 = true) : decode c p = .ok (.iconst 2, 1) := qzk0q rfl rfl h
set_option maxRecDepth 100000 in
theorem zk_6 {c : ByteArray} {p : Nat} (h : qzc0q c p 6 = true) : decode c p = .ok (.iconst 3, 1) := qzk0q rfl rfl h
set_option maxRecDepth 100000 in
theorem zk_7 {c : ByteArray} {p : Nat} (h : qzc0q c p 7 = true) : decode c p = .ok (.iconst 4, 1) := qzk0q rfl rfl h
set_option maxRecDepth 100000 in
theorem zk_8 {c : ByteArray} {p : Nat} (h : qzc0q c p 8 = true) : decode c p = .ok (.iconst 5, 1) := qzk0q rfl rfl h
set_option maxRecDepth 100000 in
theorem zk_9 {c : ByteArray} {p : Nat} (h : qzc0q c p 9 = true) : decode c p = .ok (.lconst 0, 1) := qzk0q rfl rfl h
set_option maxRecDepth 100000 in
theorem zk_10 {c : ByteArray} {p : Nat} (h : qzc0q c p 10 = true) : decode c p = .ok (.lconst 1, 1) := qzk0q rfl rfl h
set_option maxRecDepth 100000 in
theorem zk_16 {c : ByteArray} {p : Nat} {v : Int} (h : qzcs1q c p 16 v = true) : decode c p = .ok (.bipush v, 2) := qzks1q (F := fun v => .bipush v) rfl rfl h
set_option maxRecDepth 100000 in
theorem zk_17 {c : ByteArray} {p : Nat} {v : Int} (h : qzcs2q c p 17 v = true) : decode c p = .ok (.sipush v, 3) := qzks2q (F := fun v => .sipush v) rfl rfl h
set_option maxRecDepth 100000 in
theorem zk_18 {c : ByteArray} {p : Nat} {v : Nat} (h : qzcu1q c p 18 v = true) : decode c p = .ok (.ldc v, 2) := qzku1q (F := fun v => .ldc v) rfl rfl h
set_option maxRecDepth 100000 in
theorem zk_19 {c : ByteArray} {p : Nat} {v : Nat} (h : qzcu2q c p 19 v = true) : decode c p = .ok (.ldc_w v, 3) := qzku2q (F := fun v => .ldc_w v) rfl rfl h
set_option maxRecDepth 100000 in
theorem zk_20 {c : ByteArray} {p : Nat} {v : Nat} (h : qzcu2q c p 20 v = true) : decode c p = .ok (.ldc2_w v, 3) := qzku2q (F := fun v => .ldc2_w v) rfl rfl h
set_option maxRecDepth 100000 in
theorem zk_21 {c : ByteArray} {p : Nat} {v : Nat} (h : qzcu1q c p 21 v = true) : decode c p = .ok (.iload v, 2) := qzku1q (F := fun v => .iload v) rfl rfl h
set_option maxRecDepth 100000 in
theorem zk_22 {c : ByteArray} {p : Nat} {v : Nat} (h : qzcu1q c p 22 v = true) : decode c p = .ok (.lload v, 2) := qzku1q (F := fun v => .lload v) rfl rfl h
set_option maxRecDepth 100000 in
theorem zk_25 {c : ByteArray} {p : Nat} {v : Nat} (h : qzcu1q c p 25 v = true) : decode c p = .ok (.aload v, 2) := qzku1q (F := fun v => .aload v) rfl rfl h
set_option maxRecDepth 100000 in
theorem zk_26 {c : ByteArray} {p : Nat} (h : qzc0q c p 26 = true) : decode c p = .ok (.iload_n 0, 1) := qzk0q rfl rfl h
set_option maxRecDepth 100000 in
theorem zk_27 {c : ByteArray} {p : Nat} (h : qzc0q c p 27 = true) : decode c p = .ok (.iload_n 1, 1) := qzk0q rfl rfl h
set_option maxRecDepth 100000 in
theorem zk_28 {c : ByteArray} {p : Nat} (h : qzc0q c p 28 = true) : decode c p = .ok (.iload_n 2, 1) := qzk0q rfl rfl h
set_option maxRecDepth 100000 in
theorem zk_29 {c : ByteArray} {p : Nat} (h : qzc0q c p 29 = true) : decode c p = .ok (.iload_n 3, 1) := qzk0q rfl rfl h
set_option maxRecDepth 100000 in
theorem zk_30 {c : ByteArray} {p : Nat} (h : qzc0q c p 30 = true) : decode c p = .ok (.lload_n 0, 1) := qzk0q rfl rfl h
set_option maxRecDepth 100000 in
theorem zk_31 {c : ByteArray} {p : Nat} (h : qzc0q c p 31 = true) : decode c p = .ok (.lload_n 1, 1) := qzk0q rfl rfl h
set_option maxRecDepth 100000 in
theorem zk_32 {c : ByteArray} {p : Nat} (h : qzc0q c p 32 = true) : decode c p = .ok (.lload_n 2, 1) := qzk0q rfl rfl h
set_option maxRecDepth 100000 in
theorem zk_33 {c : ByteArray} {p : Nat} (h : qzc0q c p 33 = true) : decode c p = .ok (.lload_n 3, 1) := qzk0q rfl rfl h
set_option maxRecDepth 100000 in
theorem zk_42 {c : ByteArray} {p : Nat} (h : qzc0q c p 42 = true) : decode c p = .ok (.aload_n 0, 1) := qzk0q rfl rfl h
set_option maxRecDepth 100000 in
theorem zk_43 {c : ByteArray} {p : Nat} (h : qzc0q c p 43 = true) : decode c p = .ok (.aload_n 1, 1) := qzk0q rfl rfl h
set_option maxRecDepth 100000 in
theorem zk_44 {c : ByteArray} {p : Nat} (h : qzc0q c p 44 = true) : decode c p = .ok (.aload_n 2, 1) := qzk0q rfl rfl h
set_option maxRecDepth 100000 in
theorem zk_45 {c : ByteArray} {p : Nat} (h : qzc0q c p 45 = true) : decode c p = .ok (.aload_n 3, 1) := qzk0q rfl rfl h
set_option maxRecDepth 100000 in
theorem zk_46 {c : ByteArray} {p : Nat} (h : qzc0q c p 46 = true) : decode c p = .ok (.iaload, 1) := qzk0q rfl rfl h
set_option maxRecDepth 100000 in
theorem zk_47 {c : ByteArray} {p : Nat} (h : qzc0q c p 47 = true) : decode c p = .ok (.laload, 1) := qzk0q rfl rfl h
set_option maxRecDepth 100000 in
theorem zk_50 {c : ByteArray} {p : Nat} (h : qzc0q c p 50 = true) : decode c p = .ok (.aaload, 1) := qzk0q rfl rfl h
set_option maxRecDepth 100000 in
theorem zk_51 {c : ByteArray} {p : Nat} (h : qzc0q c p 51 = true) : decode c p = .ok (.baload, 1) := qzk0q rfl rfl h
set_option maxRecDepth 100000 in
theorem zk_54 {c : ByteArray} {p : Nat} {v : Nat} (h : qzcu1q c p 54 v = true) : decode c p = .ok (.istore v, 2) := qzku1q (F := fun v => .istore v) rfl rfl h
set_option maxRecDepth 100000 in
theorem zk_55 {c : ByteArray} {p : Nat} {v : Nat} (h : qzcu1q c p 55 v = true) : decode c p = .ok (.lstore v, 2) := qzku1q (F := fun v => .lstore v) rfl rfl h
set_option maxRecDepth 100000 in
theorem zk_58 {c : ByteArray} {p : Nat} {v : Nat} (h : qzcu1q c p 58 v = true) : decode c p = .ok (.astore v, 2) := qzku1q (F := fun v => .astore v) rfl rfl h
set_option maxRecDepth 100000 in
theorem zk_59 {c : ByteArray} {p : Nat} (h : qzc0q c p 59 = true) : decode c p = .ok (.istore_n 0, 1) := qzk0q rfl rfl h
set_option maxRecDepth 100000 in
theorem zk_60 {c : ByteArray} {p : Nat} (h : qzc0q c p 60 = true) : decode c p = .ok (.istore_n 1, 1) := qzk0q rfl rfl h
set_option maxRecDepth 100000 in
theorem zk_61 {c : ByteArray} {p : Nat} (h : qzc0q c p 61 = true) : decode c p = .ok (.istore_n 2, 1) := qzk0q rfl rfl h
set_option maxRecDepth 100000 in
theorem zk_62 {c : ByteArray} {p : Nat} (h : qzc0q c p 62 = true) : decode c p = .ok (.istore_n 3, 1) := qzk0q rfl rfl h
set_option maxRecDepth 100000 in
theorem zk_63 {c : ByteArray} {p : Nat} (h : qzc0q c p 63 = true) : decode c p = .ok (.lstore_n 0, 1) := qzk0q rfl rfl h
set_option maxRecDepth 100000 in
theorem zk_65 {c : ByteArray} {p : Nat} (h : qzc0q c p 65 = true) : decode c p = .ok (.lstore_n 2, 1) := qzk0q rfl rfl h
set_option maxRecDepth 100000 in
theorem zk_66 {c : ByteArray} {p : Nat} (h : qzc0q c p 66 = true) : decode c p = .ok (.lstore_n 3, 1) := qzk0q rfl rfl h
set_option maxRecDepth 100000 in
theorem zk_76 {c : ByteArray} {p : Nat} (h : qzc0q c p 76 = true) : decode c p = .ok (.astore_n 1, 1) := qzk0q rfl rfl h
set_option maxRecDepth 100000 in
theorem zk_77 {c : ByteArray} {p : Nat} (h : qzc0q c p 77 = true) : decode c p = .ok (.astore_n 2, 1) := qzk0q rfl rfl h
set_option maxRecDepth 100000 in
theorem zk_78 {c : ByteArray} {p : Nat} (h : qzc0q c p 78 = true) : decode c p = .ok (.astore_n 3, 1) := qzk0q rfl rfl h
set_option maxRecDepth 100000 in
theorem zk_79 {c : ByteArray} {p : Nat} (h : qzc0q c p 79 = true) : decode c p = .ok (.iastore, 1) := qzk0q rfl rfl h
set_option maxRecDepth 100000 in
theorem zk_80 {c : ByteArray} {p : Nat} (h : qzc0q c p 80 = true) : decode c p = .ok (.lastore, 1) := qzk0q rfl rfl h
set_option maxRecDepth 100000 in
theorem zk_83 {c : ByteArray} {p : Nat} (h : qzc0q c p 83 = true) : decode c p = .ok (.aastore, 1) := qzk0q rfl rfl h
set_option maxRecDepth 100000 in
theorem zk_84 {c : ByteArray} {p : Nat} (h : qzc0q c p 84 = true) : decode c p = .ok (.bastore, 1) := qzk0q rfl rfl h
set_option maxRecDepth 100000 in
theorem zk_87 {c : ByteArray} {p : Nat} (h : qzc0q c p 87 = true) : decode c p = .ok (.pop, 1) := qzk0q rfl rfl h
set_option maxRecDepth 100000 in
theorem zk_88 {c : ByteArray} {p : Nat} (h : qzc0q c p 88 = true) : decode c p = .ok (.pop2, 1) := qzk0q rfl rfl h
set_option maxRecDepth 100000 in
theorem zk_89 {c : ByteArray} {p : Nat} (h : qzc0q c p 89 = true) : decode c p = .ok (.dup, 1) := qzk0q rfl rfl h
set_option maxRecDepth 100000 in
theorem zk_92 {c : ByteArray} {p : Nat} (h : qzc0q c p 92 = true) : decode c p = .ok (.dup2, 1) := qzk0q rfl rfl h
set_option maxRecDepth 100000 in
theorem zk_96 {c : ByteArray} {p : Nat} (h : qzc0q c p 96 = true) : decode c p = .ok (.iadd, 1) := qzk0q rfl rfl h
set_option maxRecDepth 100000 in
theorem zk_97 {c : ByteArray} {p : Nat} (h : qzc0q c p 97 = true) : decode c p = .ok (.ladd, 1) := qzk0q rfl rfl h
set_option maxRecDepth 100000 in
theorem zk_100 {c : ByteArray} {p : Nat} (h : qzc0q c p 100 = true) : decode c p = .ok (.isub, 1) := qzk0q rfl rfl h
set_option maxRecDepth 100000 in
theorem zk_101 {c : ByteArray} {p : Nat} (h : qzc0q c p 101 = true) : decode c p = .ok (.lsub, 1) := qzk0q rfl rfl h
set_option maxRecDepth 100000 in
theorem zk_104 {c : ByteArray} {p : Nat} (h : qzc0q c p 104 = true) : decode c p = .ok (.imul, 1) := qzk0q rfl rfl h
set_option maxRecDepth 100000 in
theorem zk_105 {c : ByteArray} {p : Nat} (h : qzc0q c p 105 = true) : decode c p = .ok (.lmul, 1) := qzk0q rfl rfl h
set_option maxRecDepth 100000 in
theorem zk_108 {c : ByteArray} {p : Nat} (h : qzc0q c p 108 = true) : decode c p = .ok (.idiv, 1) := qzk0q rfl rfl h
set_option maxRecDepth 100000 in
theorem zk_109 {c : ByteArray} {p : Nat} (h : qzc0q c p 109 = true) : decode c p = .ok (.ldiv, 1) := qzk0q rfl rfl h
set_option maxRecDepth 100000 in
theorem zk_112 {c : ByteArray} {p : Nat} (h : qzc0q c p 112 = true) : decode c p = .ok (.irem, 1) := qzk0q rfl rfl h
set_option maxRecDepth 100000 in
theorem zk_113 {c : ByteArray} {p : Nat} (h : qzc0q c p 113 = true) : decode c p = .ok (.lrem, 1) := qzk0q rfl rfl h
set_option maxRecDepth 100000 in
theorem zk_116 {c : ByteArray} {p : Nat} (h : qzc0q c p 116 = true) : decode c p = .ok (.ineg, 1) := qzk0q rfl rfl h
set_option maxRecDepth 100000 in
theorem zk_117 {c : ByteArray} {p : Nat} (h : qzc0q c p 117 = true) : decode c p = .ok (.lneg, 1) := qzk0q rfl rfl h
set_option maxRecDepth 100000 in
theorem zk_120 {c : ByteArray} {p : Nat} (h : qzc0q c p 120 = true) : decode c p = .ok (.ishl, 1) := qzk0q rfl rfl h
set_option maxRecDepth 100000 in
theorem zk_121 {c : ByteArray} {p : Nat} (h : qzc0q c p 121 = true) : decode c p = .ok (.lshl, 1) := qzk0q rfl rfl h
set_option maxRecDepth 100000 in
theorem zk_122 {c : ByteArray} {p : Nat} (h : qzc0q c p 122 = true) : decode c p = .ok (.ishr, 1) := qzk0q rfl rfl h
set_option maxRecDepth 100000 in
theorem zk_123 {c : ByteArray} {p : Nat} (h : qzc0q c p 123 = true) : decode c p = .ok (.lshr, 1) := qzk0q rfl rfl h
set_option maxRecDepth 100000 in
theorem zk_124 {c : ByteArray} {p : Nat} (h : qzc0q c p 124 = true) : decode c p = .ok (.iushr, 1) := qzk0q rfl rfl h
set_option maxRecDepth 100000 in
theorem zk_125 {c : ByteArray} {p : Nat} (h : qzc0q c p 125 = true) : decode c p = .ok (.lushr, 1) := qzk0q rfl rfl h
set_option maxRecDepth 100000 in
theorem zk_126 {c : ByteArray} {p : Nat} (h : qzc0q c p 126 = true) : decode c p = .ok (.iand, 1) := qzk0q rfl rfl h
set_option maxRecDepth 100000 in
theorem zk_127 {c : ByteArray} {p : Nat} (h : qzc0q c p 127 = true) : decode c p = .ok (.land, 1) := qzk0q rfl rfl h
set_option maxRecDepth 100000 in
theorem zk_128 {c : ByteArray} {p : Nat} (h : qzc0q c p 128 = true) : decode c p = .ok (.ior, 1) := qzk0q rfl rfl h
set_option maxRecDepth 100000 in
theorem zk_129 {c : ByteArray} {p : Nat} (h : qzc0q c p 129 = true) : decode c p = .ok (.lor, 1) := qzk0q rfl rfl h
set_option maxRecDepth 100000 in
theorem zk_130 {c : ByteArray} {p : Nat} (h : qzc0q c p 130 = true) : decode c p = .ok (.ixor, 1) := qzk0q rfl rfl h
set_option maxRecDepth 100000 in
theorem zk_132 {c : ByteArray} {p : Nat} {v : Nat} {w : Int} (h : qzciq c p 132 v w = true) : decode c p = .ok (.iinc v w, 3) := qzkiq (F := fun v w => .iinc v w) rfl rfl h
set_option maxRecDepth 100000 in
theorem zk_133 {c : ByteArray} {p : Nat} (h : qzc0q c p 133 = true) : decode c p = .ok (.i2l, 1) := qzk0q rfl rfl h
set_option maxRecDepth 100000 in
theorem zk_136 {c : ByteArray} {p : Nat} (h : qzc0q c p 136 = true) : decode c p = .ok (.l2i, 1) := qzk0q rfl rfl h
set_option maxRecDepth 100000 in
theorem zk_145 {c : ByteArray} {p : Nat} (h : qzc0q c p 145 = true) : decode c p = .ok (.i2b, 1) := qzk0q rfl rfl h
set_option maxRecDepth 100000 in
theorem zk_146 {c : ByteArray} {p : Nat} (h : qzc0q c p 146 = true) : decode c p = .ok (.i2c, 1) := qzk0q rfl rfl h
set_option maxRecDepth 100000 in
theorem zk_148 {c : ByteArray} {p : Nat} (h : qzc0q c p 148 = true) : decode c p = .ok (.lcmp, 1) := qzk0q rfl rfl h
set_option maxRecDepth 100000 in
theorem zk_153 {c : ByteArray} {p : Nat} {v : Int} (h : qzcs2q c p 153 v = true) : decode c p = .ok (.ifCond .eq v, 3) := qzks2q (F := fun v => .ifCond .eq v) rfl rfl h
set_option maxRecDepth 100000 in
theorem zk_154 {c : ByteArray} {p : Nat} {v : Int} (h : qzcs2q c p 154 v = true) : decode c p = .ok (.ifCond .ne v, 3) := qzks2q (F := fun v => .ifCond .ne v) rfl rfl h
set_option maxRecDepth 100000 in
theorem zk_155 {c : ByteArray} {p : Nat} {v : Int} (h : qzcs2q c p 155 v = true) : decode c p = .ok (.ifCond .lt v, 3) := qzks2q (F := fun v => .ifCond .lt v) rfl rfl h
set_option maxRecDepth 100000 in
theorem zk_156 {c : ByteArray} {p : Nat} {v : Int} (h : qzcs2q c p 156 v = true) : decode c p = .ok (.ifCond .ge v, 3) := qzks2q (F := fun v => .ifCond .ge v) rfl rfl h
set_option maxRecDepth 100000 in
theorem zk_157 {c : ByteArray} {p : Nat} {v : Int} (h : qzcs2q c p 157 v = true) : decode c p = .ok (.ifCond .gt v, 3) := qzks2q (F := fun v => .ifCond .gt v) rfl rfl h
set_option maxRecDepth 100000 in
theorem zk_158 {c : ByteArray} {p : Nat} {v : Int} (h : qzcs2q c p 158 v = true) : decode c p = .ok (.ifCond .le v, 3) := qzks2q (F := fun v => .ifCond .le v) rfl rfl h
set_option maxRecDepth 100000 in
theorem zk_159 {c : ByteArray} {p : Nat} {v : Int} (h : qzcs2q c p 159 v = true) : decode c p = .ok (.if_icmp .eq v, 3) := qzks2q (F := fun v => .if_icmp .eq v) rfl rfl h
set_option maxRecDepth 100000 in
theorem zk_160 {c : ByteArray} {p : Nat} {v : Int} (h : qzcs2q c p 160 v = true) : decode c p = .ok (.if_icmp .ne v, 3) := qzks2q (F := fun v => .if_icmp .ne v) rfl rfl h
set_option maxRecDepth 100000 in
theorem zk_161 {c : ByteArray} {p : Nat} {v : Int} (h : qzcs2q c p 161 v = true) : decode c p = .ok (.if_icmp .lt v, 3) := qzks2q (F := fun v => .if_icmp .lt v) rfl rfl h
set_option maxRecDepth 100000 in
theorem zk_162 {c : ByteArray} {p : Nat} {v : Int} (h : qzcs2q c p 162 v = true) : decode c p = .ok (.if_icmp .ge v, 3) := qzks2q (F := fun v => .if_icmp .ge v) rfl rfl h
set_option maxRecDepth 100000 in
theorem zk_163 {c : ByteArray} {p : Nat} {v : Int} (h : qzcs2q c p 163 v = true) : decode c p = .ok (.if_icmp .gt v, 3) := qzks2q (F := fun v => .if_icmp .gt v) rfl rfl h
set_option maxRecDepth 100000 in
theorem zk_164 {c : ByteArray} {p : Nat} {v : Int} (h : qzcs2q c p 164 v = true) : decode c p = .ok (.if_icmp .le v, 3) := qzks2q (F := fun v => .if_icmp .le v) rfl rfl h
set_option maxRecDepth 100000 in
theorem zk_167 {c : ByteArray} {p : Nat} {v : Int} (h : qzcs2q c p 167 v = true) : decode c p = .ok (.goto v, 3) := qzks2q (F := fun v => .goto v) rfl rfl h
set_option maxRecDepth 100000 in
theorem zk_172 {c : ByteArray} {p : Nat} (h : qzc0q c p 172 = true) : decode c p = .ok (.ireturn, 1) := qzk0q rfl rfl h
set_option maxRecDepth 100000 in
theorem zk_173 {c : ByteArray} {p : Nat} (h : qzc0q c p 173 = true) : decode c p = .ok (.lreturn, 1) := qzk0q rfl rfl h
set_option maxRecDepth 100000 in
theorem zk_176 {c : ByteArray} {p : Nat} (h : qzc0q c p 176 = true) : decode c p = .ok (.areturn, 1) := qzk0q rfl rfl h
set_option maxRecDepth 100000 in
theorem zk_177 {c : ByteArray} {p : Nat} (h : qzc0q c p 177 = true) : decode c p = .ok (.return_, 1) := qzk0q rfl rfl h
set_option maxRecDepth 100000 in
theorem zk_178 {c : ByteArray} {p : Nat} {v : Nat} (h : qzcu2q c p 178 v = true) : decode c p = .ok (.getstatic v, 3) := qzku2q (F := fun v => .getstatic v) rfl rfl h
set_option maxRecDepth 100000 in
theorem zk_180 {c : ByteArray} {p : Nat} {v : Nat} (h : qzcu2q c p 180 v = true) : decode c p = .ok (.getfield v, 3) := qzku2q (F := fun v => .getfield v) rfl rfl h
set_option maxRecDepth 100000 in
theorem zk_181 {c : ByteArray} {p : Nat} {v : Nat} (h : qzcu2q c p 181 v = true) : decode c p = .ok (.putfield v, 3) := qzku2q (F := fun v => .putfield v) rfl rfl h
set_option maxRecDepth 100000 in
theorem zk_182 {c : ByteArray} {p : Nat} {v : Nat} (h : qzcu2q c p 182 v = true) : decode c p = .ok (.invokevirtual v, 3) := qzku2q (F := fun v => .invokevirtual v) rfl rfl h
set_option maxRecDepth 100000 in
theorem zk_183 {c : ByteArray} {p : Nat} {v : Nat} (h : qzcu2q c p 183 v = true) : decode c p = .ok (.invokespecial v, 3) := qzku2q (F := fun v => .invokespecial v) rfl rfl h
set_option maxRecDepth 100000 in
theorem zk_184 {c : ByteArray} {p : Nat} {v : Nat} (h : qzcu2q c p 184 v = true) : decode c p = .ok (.invokestatic v, 3) := qzku2q (F := fun v => .invokestatic v) rfl rfl h
set_option maxRecDepth 100000 in
theorem zk_187 {c : ByteArray} {p : Nat} {v : Nat} (h : qzcu2q c p 187 v = true) : decode c p = .ok (.new v, 3) := qzku2q (F := fun v => .new v) rfl rfl h
set_option maxRecDepth 100000 in
theorem zk_189 {c : ByteArray} {p : Nat} {v : Nat} (h : qzcu2q c p 189 v = true) : decode c p = .ok (.anewarray v, 3) := qzku2q (F := fun v => .anewarray v) rfl rfl h
set_option maxRecDepth 100000 in
theorem zk_190 {c : ByteArray} {p : Nat} (h : qzc0q c p 190 = true) : decode c p = .ok (.arraylength, 1) := qzk0q rfl rfl h
set_option maxRecDepth 100000 in
theorem zk_191 {c : ByteArray} {p : Nat} (h : qzc0q c p 191 = true) : decode c p = .ok (.athrow, 1) := qzk0q rfl rfl h
set_option maxRecDepth 100000 in
theorem zk_198 {c : ByteArray} {p : Nat} {v : Int} (h : qzcs2q c p 198 v = true) : decode c p = .ok (.ifnull v, 3) := qzks2q (F := fun v => .ifnull v) rfl rfl h
set_option maxRecDepth 100000 in
theorem zk_199 {c : ByteArray} {p : Nat} {v : Int} (h : qzcs2q c p 199 v = true) : decode c p = .ok (.ifnonnull v, 3) := qzks2q (F := fun v => .ifnonnull v) rfl rfl h
