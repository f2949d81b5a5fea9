abbrev xk_at : List Cond := vx_atS RX7 60 "java/lang/IllegalStateException" ["java/lang/RuntimeException", "java/lang/Exception"]
theorem xk_on : ∀ w ∈ xk_at, w.onTables = true := by decide +kernel
theorem xk_bad : ∀ w ∈ xk_at.filter (fun w => !goodWord w), w ∈ ([.declares ⟨"java/lang/RuntimeException", "<init>", "(Ljava/lang/String;)V"⟩, .declares ⟨"java/lang/Exception", "<init>", "(Ljava/lang/String;)V"⟩, .declares ⟨"java/lang/Throwable", "<init>", "(Ljava/lang/String;)V"⟩, .castable "java/lang/IllegalStateException" "java/lang/IllegalStateException"] : List Cond) := by decide +kernel
theorem xk_ot : ∀ w ∈ Cond.classLink RX7 56 "java/lang/IllegalStateException" :: Cond.initialized "java/lang/IllegalStateException" :: xk_at, vx_ot w = true := by decide +kernel
def xk_most (j : Nat) : Int32 := ([4, 4, 6, 4, 6] : List Int32).getD j 0
def xk_least (j : Nat) : Int32 := ([1, 1, 0, 0, 0] : List Int32).getD j 0
def xk_mosts (j : Nat) : Int32 := ([9999, 99999, 99999, 7, 3] : List Int32).getD j 0
/-- what a throw of the parser takes as given -/
def xlA (sF : Nat) (A : Nat → Prop) (U : State) (H : Heap) : Prop := vk_R RX7 58 "a fault" sF U ∧ vx_Zq Jvm.Bundle.tN "UNASSIGNED_STACK" Jvm.Bundle.steD A U H ∧ vx_Zq Jvm.Bundle.tN "SUPPRESSED_SENTINEL" Jvm.Bundle.listD A U H ∧ (∀ w ∈ xk_at.filter goodWord, w.before #[] U = true) ∧ va_Nw (.declares ⟨"java/lang/RuntimeException", "<init>", "(Ljava/lang/String;)V"⟩) U ∧ va_Nw (.declares ⟨"java/lang/Exception", "<init>", "(Ljava/lang/String;)V"⟩) U ∧ va_Nw (.declares ⟨"java/lang/Throwable", "<init>", "(Ljava/lang/String;)V"⟩) U ∧ va_Nw (.castable "java/lang/IllegalStateException" "java/lang/IllegalStateException") U
theorem xlA.warm {sL : Nat} {A : Nat → Prop} {s U : State} {H : Heap} (hW : s.WarmedH U.vm) (h : xlA sL A s H) : xlA sL A U H := ⟨vk_R.warm hW h.1, vx_Zq.moved hW.alike h.2.1, vx_Zq.moved hW.alike h.2.2.1, fun w hw => word_at hW (good_of_word (List.mem_filter.mp hw).2) (h.2.2.2.1 w hw), va_Nw.warmD hW h.2.2.2.2.1, va_Nw.warmD hW h.2.2.2.2.2.1, va_Nw.warmD hW h.2.2.2.2.2.2.1, va_Nw.warmC hW h.2.2.2.2.2.2.2⟩
theorem xlA.kept {sL : Nat} {A : Nat → Prop} {U : State} {H H1 : Heap} (h : xlA sL A U H) (hq : ∀ a : Nat, a < H.size → ¬ A a → H1[a]? = H[a]?) : xlA sL A U H1 := ⟨h.1, h.2.1.kept hq, h.2.2.1.kept hq, h.2.2.2.1, h.2.2.2.2⟩
theorem xlA.narrow {sL : Nat} {A B : Nat → Prop} {U : State} {H : Heap} (h : xlA sL A U H) (hq : ∀ q, B q → A q) : xlA sL B U H := ⟨h.1, h.2.1.narrow hq, h.2.2.1.narrow hq, h.2.2.2.1, h.2.2.2.2⟩
theorem xlA.calling {sL : Nat} {A : Nat → Prop} {U : State} {H : Heap} {g : JFrame} {mk : MethodId} {a : Array Value} (h : xlA sL A U H) : xlA sL A (U.calling g mk a) H := ⟨vk_R.same rfl h.1, vx_Zq.moved (Vm.Alike.refl U.vm) h.2.1, vx_Zq.moved (Vm.Alike.refl U.vm) h.2.2.1, fun w hw => va_tabs (xk_on w (List.mem_filter.mp hw).1) (rfl : U.vm = (U.calling g mk a).vm) (h.2.2.2.1 w hw), va_Nw.same rfl (rfl : U.vm = (U.calling g mk a).vm) h.2.2.2.2.1, va_Nw.same rfl (rfl : U.vm = (U.calling g mk a).vm) h.2.2.2.2.2.1, va_Nw.same rfl (rfl : U.vm = (U.calling g mk a).vm) h.2.2.2.2.2.2.1, va_Nw.same rfl (rfl : U.vm = (U.calling g mk a).vm) h.2.2.2.2.2.2.2⟩
theorem xlA.hat {sL : Nat} {A : Nat → Prop} {s : State} {args : Array Value} (h : xlA sL A s s.heap) : ∀ w ∈ xk_at, w.before args s = true := fun w hw => va_tabs (xk_on w hw) rfl (vx_hat (args := #[]) h.2.2.2.1 xk_bad (vx_c h.2.2.2.2.1 (vx_c h.2.2.2.2.2.1 (vx_c h.2.2.2.2.2.2.1 (vx_c h.2.2.2.2.2.2.2 vx_n)))) w hw)
/-- the static rows -/
def xlS (sL : Nat → Nat) (A : Nat → Prop) (U : State) (H : Heap) : Prop := va_Z "LongYears" "MOST_OF_KIND" "[I" (.ref (sL 1)) A U H ∧ va_T .int (sL 1) 5 (fun j => .int (xk_most j)) A U H ∧ va_Z "LongYears" "LEAST_SAID" "[I" (.ref (sL 2)) A U H ∧ va_T .int (sL 2) 5 (fun j => .int (xk_least j)) A U H ∧ va_Z "LongYears" "MOST_SAID" "[I" (.ref (sL 3)) A U H ∧ va_T .int (sL 3) 5 (fun j => .int (xk_mosts j)) A U H ∧ va_Nw (.fieldLinkNest RX7 291 "LongYears" "MOST_OF_KIND" "[I" "LongYears") U ∧ va_Nw (.fieldLinkNest RX7 226 "LongYears" "LEAST_SAID" "[I" "LongYears") U ∧ va_Nw (.fieldLinkNest RX7 229 "LongYears" "MOST_SAID" "[I" "LongYears") U
theorem xlS.warm {sL : Nat → Nat} {A : Nat → Prop} {s U : State} {H : Heap} (hW : s.WarmedH U.vm) (h : xlS sL A s H) : xlS sL A U H := ⟨h.1.moved hW.alike, h.2.1.moved hW.alike, h.2.2.1.moved hW.alike, h.2.2.2.1.moved hW.alike, h.2.2.2.2.1.moved hW.alike, h.2.2.2.2.2.1.moved hW.alike, va_Nw.warmF hW h.2.2.2.2.2.2.1, va_Nw.warmF hW h.2.2.2.2.2.2.2.1, va_Nw.warmF hW h.2.2.2.2.2.2.2.2⟩
theorem xlS.kept {sL : Nat → Nat} {A : Nat → Prop} {U : State} {H H1 : Heap} (h : xlS sL A U H) (hq : ∀ a : Nat, a < H.size → ¬ A a → H1[a]? = H[a]?) : xlS sL A U H1 := ⟨h.1.kept hq, h.2.1.kept hq, h.2.2.1.kept hq, h.2.2.2.1.kept hq, h.2.2.2.2.1.kept hq, h.2.2.2.2.2.1.kept hq, h.2.2.2.2.2.2⟩
theorem xlS.narrow {sL : Nat → Nat} {A B : Nat → Prop} {U : State} {H : Heap} (h : xlS sL A U H) (hq : ∀ q, B q → A q) : xlS sL B U H := ⟨h.1.narrow hq, h.2.1.narrow hq, h.2.2.1.narrow hq, h.2.2.2.1.narrow hq, h.2.2.2.2.1.narrow hq, h.2.2.2.2.2.1.narrow hq, h.2.2.2.2.2.2⟩
theorem xlS.calling {sL : Nat → Nat} {A : Nat → Prop} {U : State} {H : Heap} {g : JFrame} {mk : MethodId} {a : Array Value} (h : xlS sL A U H) : xlS sL A (U.calling g mk a) H := ⟨h.1.moved (Vm.Alike.refl U.vm), h.2.1.moved (Vm.Alike.refl U.vm), h.2.2.1.moved (Vm.Alike.refl U.vm), h.2.2.2.1.moved (Vm.Alike.refl U.vm), h.2.2.2.2.1.moved (Vm.Alike.refl U.vm), h.2.2.2.2.2.1.moved (Vm.Alike.refl U.vm), va_Nw.same rfl (rfl : U.vm = (U.calling g mk a).vm) h.2.2.2.2.2.2.1, va_Nw.same rfl (rfl : U.vm = (U.calling g mk a).vm) h.2.2.2.2.2.2.2.1, va_Nw.same rfl (rfl : U.vm = (U.calling g mk a).vm) h.2.2.2.2.2.2.2.2⟩
def xl (sL : Nat → Nat) (A : Nat → Prop) (U : State) (H : Heap) : Prop := xlA (sL 0) A U H ∧ xlS sL A U H
theorem xl.warm {sL : Nat → Nat} {A : Nat → Prop} {s U : State} {H : Heap} (hW : s.WarmedH U.vm) (h : xl sL A s H) : xl sL A U H := ⟨h.1.warm hW, h.2.warm hW⟩
theorem xl.kept {sL : Nat → Nat} {A : Nat → Prop} {U : State} {H H1 : Heap} (h : xl sL A U H) (hq : ∀ a : Nat, a < H.size → ¬ A a → H1[a]? = H[a]?) : xl sL A U H1 := ⟨h.1.kept hq, h.2.kept hq⟩
theorem xl.narrow {sL : Nat → Nat} {A B : Nat → Prop} {U : State} {H : Heap} (h : xl sL A U H) (hq : ∀ q, B q → A q) : xl sL B U H := ⟨h.1.narrow hq, h.2.narrow hq⟩
theorem xl.calling {sL : Nat → Nat} {A : Nat → Prop} {U : State} {H : Heap} {g : JFrame} {mk : MethodId} {a : Array Value} (h : xl sL A U H) : xl sL A (U.calling g mk a) H := ⟨h.1.calling, h.2.calling⟩
section XSZ
variable {p : Program} {l : Launch} {e : Env} {R : Room} {s : State} {m : MethodId} {args : Array Value} {below : List Frame} {meth : Method} {c : Code} {H : Heap} {locs : List Loc} {cells slots : Nat} {Q : State → Prop} {g : JFrame}
/-- where no cell is new, the heap is as large as it was -/
theorem xs_size (kk : H.size = s.heap.size → W p l e R s m args below meth c H locs 0 0 Q g) : W p l e R s m args below meth c H locs 0 0 Q g := by
  intro T hT X
  have h1 : s.heap.size ≤ T.heap.size := X.same.2.1
  have h2 : T.heap.size ≤ s.heap.size + 0 := X.same.2.2.1
  rw [hT] at h1 h2
  exact kk (by omega) T hT X
theorem xs_tight {k n : Nat} (hz : H.size = s.heap.size) (kk : W p l e R s m args below meth c H locs 0 0 Q g) : W p l e R s m args below meth c H locs k n Q g := by
  intro T hT X
  have hq : T.heap.size = s.heap.size := by rw [hT]; exact hz
  have hd : T.heap.toList.drop s.heap.size = [] := List.drop_eq_nil_of_le (by rw [Array.length_toList]; omega)
  obtain ⟨h1, h2, h3, h4, h5, h6⟩ := X.same
  refine kk T hT { X with same := ⟨h1, h2, ?_, h4, ?_, h6⟩ }
  · show T.heap.size ≤ s.heap.size + 0
    omega
  · show ((T.heap.toList.drop s.heap.size).map (·.slots.size)).sum ≤ 0
    rw [hd]
    exact Nat.le_refl 0
end XSZ
theorem xs_ext {D : va_G} {cl : List vw_C} {ws : va_W} {H H1 : Heap} (h : va_P D cl ws H) (hk : ∀ q : Nat, q < H.size → H1[q]? = H[q]?) : va_P D cl ws H1 := h.kept (fun k q hq => hk q.1 (vx_lt h hq))
