theorem xg_PL {D : va_G} {cl : List vw_C} {X Y : va_W} {H : Heap} (h : va_P D cl (X ++ Y) H) : va_P D cl X H := fun k q hk => h k q (by
  have hlt : k < X.length := by
    rcases Nat.lt_or_ge k X.length with a | a
    · exact a
    · rw [List.getElem?_eq_none a] at hk; cases hk
  rw [List.getElem?_append_left hlt]; exact hk)
theorem xg_AL {X Y : va_W} {k : Nat} {q : Nat × va_E} (hk : X[k]? = some q) : (X ++ Y)[k]? = some q := by
  have hlt : k < X.length := by
    rcases Nat.lt_or_ge k X.length with a | a
    · exact a
    · rw [List.getElem?_eq_none a] at hk; cases hk
  rw [List.getElem?_append_left hlt]; exact hk
theorem xg_DL {A : Nat → Prop} {X Y : va_W} (h : va_D A (X ++ Y)) : va_D A X := ⟨fun i j p q h1 h2 h3 => h.1 i j p q (xg_AL h1) (xg_AL h2) h3, fun k q hk => h.2 k q (xg_AL hk)⟩
def va_AOA (ty : FieldType) (U : State) : Prop := (Cond.arrayOver (.array ty)).before #[] U = true
theorem va_AOA.use {ty : FieldType} {A : Array Value} {U : State} (h : va_AOA ty U) : (Cond.arrayOver (.array ty)).before A U = true := h
theorem va_AOA.moved {ty : FieldType} {u U : State} (hvm : u.vm.Alike U.vm) (h : va_AOA ty u) : va_AOA ty U := by
  have e := Cond.arrayOver_setVmC (args := #[]) (s := u) hvm (.array ty)
  have h1 : (Cond.arrayOver (.array ty)).before #[] (u.setVm U.vm) = true := e.trans h
  unfold Cond.before Cond.holds at h1
  unfold va_AOA Cond.before Cond.holds
  exact h1
def xk_words : String := "land from week moon sun feast person died deed years days till pay note year day season alive after or and not length "
def xk_byte (j : Nat) : Int32 := ([108, 97, 110, 100, 32, 102, 114, 111, 109, 32, 119, 101, 101, 107, 32, 109, 111, 111, 110, 32, 115, 117, 110, 32, 102, 101, 97, 115, 116, 32, 112, 101, 114, 115, 111, 110, 32, 100, 105, 101, 100, 32, 100, 101, 101, 100, 32, 121, 101, 97, 114, 115, 32, 100, 97, 121, 115, 32, 116, 105, 108, 108, 32, 112, 97, 121, 32, 110, 111, 116, 101, 32, 121, 101, 97, 114, 32, 100, 97, 121, 32, 115, 101, 97, 115, 111, 110, 32, 97, 108, 105, 118, 101, 32, 97, 102, 116, 101, 114, 32, 111, 114, 32, 97, 110, 100, 32, 110, 111, 116, 32, 108, 101, 110, 103, 116, 104, 32] : List Int32).getD j 0
/-- what stands fixed of the machine's start, for the constructors: a static row, two JDK statics, a text -/
def xc (tK sK sV : Nat) (A : Nat → Prop) (U : State) (H : Heap) : Prop :=
  va_Z "LongYears" "MOST_OF_KIND" "[I" (.ref tK) A U H ∧ va_T .int tK 5 (fun j => .int (xk_most j)) A U H ∧ va_Z "java/lang/String" "COMPACT_STRINGS" "Z" (.int 1) A U H ∧ va_Zq "jdk/internal/util/Preconditions" "SIOOBE_FORMATTER" "Ljava/util/function/BiFunction;" A U H ∧ va_O "java/lang/String" sK A U H ∧ va_OF "java/lang/String" "coder" "B" (.int 0) sK A U H ∧ va_OF "java/lang/String" "value" "[B" (.ref sV) sK A U H ∧ va_T .byte sV 118 (fun j => .int (xk_byte j)) A U H
theorem xc.moved {tK sK sV : Nat} {A : Nat → Prop} {u U : State} {H : Heap} (h : xc tK sK sV A u H) (hvm : u.vm.Alike U.vm) : xc tK sK sV A U H := ⟨h.1.moved hvm, h.2.1.moved hvm, h.2.2.1.moved hvm, h.2.2.2.1.moved hvm, h.2.2.2.2.1.moved hvm, h.2.2.2.2.2.1.moved hvm, h.2.2.2.2.2.2.1.moved hvm, h.2.2.2.2.2.2.2.moved hvm⟩
theorem xc.kept {tK sK sV : Nat} {A : Nat → Prop} {U : State} {H H1 : Heap} (h : xc tK sK sV A U H) (hq : ∀ a : Nat, a < H.size → ¬ A a → H1[a]? = H[a]?) : xc tK sK sV A U H1 := ⟨h.1.kept hq, h.2.1.kept hq, h.2.2.1.kept hq, h.2.2.2.1.kept hq, h.2.2.2.2.1.kept hq, h.2.2.2.2.2.1.kept hq, h.2.2.2.2.2.2.1.kept hq, h.2.2.2.2.2.2.2.kept hq⟩
theorem xc.narrow {tK sK sV : Nat} {A B : Nat → Prop} {U : State} {H : Heap} (h : xc tK sK sV A U H) (hq : ∀ q, B q → A q) : xc tK sK sV B U H := ⟨h.1.narrow hq, h.2.1.narrow hq, h.2.2.1.narrow hq, h.2.2.2.1.narrow hq, h.2.2.2.2.1.narrow hq, h.2.2.2.2.2.1.narrow hq, h.2.2.2.2.2.2.1.narrow hq, h.2.2.2.2.2.2.2.narrow hq⟩
theorem xc.calling {tK sK sV : Nat} {A : Nat → Prop} {U : State} {H : Heap} {g : JFrame} {mk : MethodId} {a : Array Value} (h : xc tK sK sV A U H) : xc tK sK sV A (U.calling g mk a) H := h.moved (Vm.Alike.refl U.vm)
def xcN (sK : Nat) (U : State) : Prop := va_Nw (Cond.methodLinkNest RX11 11 yX7_init "LongYears") U ∧ va_Nw (Cond.methodLinkNest RX0 31 yX9_init "LongYears") U ∧ va_Nw (Cond.methodLinkNest RX0 38 yX8_init "LongYears") U ∧ va_Nw (Cond.methodLinkNest RX0 64 yX6_init "LongYears") U ∧ va_Nw (Cond.methodLinkNest RX0 69 yX1_init "LongYears") U ∧ va_Nw (Cond.methodLinkNest RX11 28 yX5_init "LongYears") U ∧ va_Nw (Cond.methodLinkNest RX5 25 yX4_init "LongYears") U ∧ va_Nw (Cond.methodLinkNest RX5 32 yX10_init "LongYears") U ∧ va_Nw (Cond.methodLinkNest RX11 35 yX2_init "LongYears") U ∧ va_Nw (Cond.methodLinkNest RX11 46 yX6_init "LongYears") U ∧ va_Nw (Cond.methodLinkNest RX11 56 yX4_init "LongYears") U ∧ va_Nw (Cond.methodLinkNest RX11 66 yX10_init "LongYears") U ∧ va_Nw (Cond.fieldLinkNest RX0 20 "LongYears" "MOST_OF_KIND" "[I" "LongYears") U ∧ va_Nw (Cond.fieldLinkNest RX8 17 "LongYears" "MOST_OF_KIND" "[I" "LongYears") U ∧ va_AO RX1 U ∧ va_AOA .int U ∧ va_AOA .long U ∧ vk_R RX3 19 xk_words sK U
theorem xcN.warm {sK : Nat} {s U : State} (h : xcN sK s) (hW : s.WarmedH U.vm) : xcN sK U := ⟨va_Nw.warmM hW (h.1), va_Nw.warmM hW (h.2.1), va_Nw.warmM hW (h.2.2.1), va_Nw.warmM hW (h.2.2.2.1), va_Nw.warmM hW (h.2.2.2.2.1), va_Nw.warmM hW (h.2.2.2.2.2.1), va_Nw.warmM hW (h.2.2.2.2.2.2.1), va_Nw.warmM hW (h.2.2.2.2.2.2.2.1), va_Nw.warmM hW (h.2.2.2.2.2.2.2.2.1), va_Nw.warmM hW (h.2.2.2.2.2.2.2.2.2.1), va_Nw.warmM hW (h.2.2.2.2.2.2.2.2.2.2.1), va_Nw.warmM hW (h.2.2.2.2.2.2.2.2.2.2.2.1), va_Nw.warmF hW (h.2.2.2.2.2.2.2.2.2.2.2.2.1), va_Nw.warmF hW (h.2.2.2.2.2.2.2.2.2.2.2.2.2.1), va_AO.moved hW.alike (h.2.2.2.2.2.2.2.2.2.2.2.2.2.2.1), va_AOA.moved hW.alike (h.2.2.2.2.2.2.2.2.2.2.2.2.2.2.2.1), va_AOA.moved hW.alike (h.2.2.2.2.2.2.2.2.2.2.2.2.2.2.2.2.1), vk_R.warm hW (h.2.2.2.2.2.2.2.2.2.2.2.2.2.2.2.2.2)⟩
theorem xcN.calling {sK : Nat} {U : State} {g : JFrame} {mk : MethodId} {a : Array Value} (h : xcN sK U) : xcN sK (U.calling g mk a) := ⟨va_Nw.same rfl (rfl : U.vm = (U.calling g mk a).vm) (h.1), va_Nw.same rfl (rfl : U.vm = (U.calling g mk a).vm) (h.2.1), va_Nw.same rfl (rfl : U.vm = (U.calling g mk a).vm) (h.2.2.1), va_Nw.same rfl (rfl : U.vm = (U.calling g mk a).vm) (h.2.2.2.1), va_Nw.same rfl (rfl : U.vm = (U.calling g mk a).vm) (h.2.2.2.2.1), va_Nw.same rfl (rfl : U.vm = (U.calling g mk a).vm) (h.2.2.2.2.2.1), va_Nw.same rfl (rfl : U.vm = (U.calling g mk a).vm) (h.2.2.2.2.2.2.1), va_Nw.same rfl (rfl : U.vm = (U.calling g mk a).vm) (h.2.2.2.2.2.2.2.1), va_Nw.same rfl (rfl : U.vm = (U.calling g mk a).vm) (h.2.2.2.2.2.2.2.2.1), va_Nw.same rfl (rfl : U.vm = (U.calling g mk a).vm) (h.2.2.2.2.2.2.2.2.2.1), va_Nw.same rfl (rfl : U.vm = (U.calling g mk a).vm) (h.2.2.2.2.2.2.2.2.2.2.1), va_Nw.same rfl (rfl : U.vm = (U.calling g mk a).vm) (h.2.2.2.2.2.2.2.2.2.2.2.1), va_Nw.same rfl (rfl : U.vm = (U.calling g mk a).vm) (h.2.2.2.2.2.2.2.2.2.2.2.2.1), va_Nw.same rfl (rfl : U.vm = (U.calling g mk a).vm) (h.2.2.2.2.2.2.2.2.2.2.2.2.2.1), va_AO.moved (Vm.Alike.refl U.vm) (h.2.2.2.2.2.2.2.2.2.2.2.2.2.2.1), va_AOA.moved (Vm.Alike.refl U.vm) (h.2.2.2.2.2.2.2.2.2.2.2.2.2.2.2.1), va_AOA.moved (Vm.Alike.refl U.vm) (h.2.2.2.2.2.2.2.2.2.2.2.2.2.2.2.2.1), vk_R.same rfl (h.2.2.2.2.2.2.2.2.2.2.2.2.2.2.2.2.2)⟩

def xk_ch (k : Int32) : Int32 := ((xk_byte k.toNatClampNeg &&& 255).toUInt32 % 65536).toInt32
def xk_run : Nat → Nat → Nat → Int32 → Int32 → (Nat → Int32) → (Nat → Int32)
  | 0, _, _, _, _, g => g
  | n + 1, i, wd, ln, cd, g => if 23 ≤ nI wd then g else if xk_ch (nI i) = 32 then xk_run n (i + 1) (wd + 1) 0 0 (upd g (nI wd).toNatClampNeg (cd <<< ((5 * (6 - ln)) &&& 31))) else xk_run n (i + 1) wd (ln + 1) ((cd <<< (5 &&& 31)) ||| ((xk_ch (nI i) - 97) + 1)) g
def xk_G : Nat → Int32 := xk_run 118 0 0 0 0 (fun _ => 0)
