abbrev xkI_at : List Cond := vx_atS RX11 120 "java/lang/IndexOutOfBoundsException" ["java/lang/RuntimeException", "java/lang/Exception"]
theorem xkI_on : ∀ w ∈ xkI_at, w.onTables = true := by decide +kernel
theorem xkI_bad : ∀ w ∈ xkI_at.filter (fun w => !goodWord w), w ∈ ([.declares ⟨"java/lang/RuntimeException", "<init>", "(Ljava/lang/String;)V"⟩, .declares ⟨"java/lang/Exception", "<init>", "(Ljava/lang/String;)V"⟩, .declares ⟨"java/lang/Throwable", "<init>", "(Ljava/lang/String;)V"⟩, .castable "java/lang/IndexOutOfBoundsException" "java/lang/IndexOutOfBoundsException"] : List Cond) := by decide +kernel
theorem xkI_ot : ∀ w ∈ Cond.classLink RX11 116 "java/lang/IndexOutOfBoundsException" :: Cond.initialized "java/lang/IndexOutOfBoundsException" :: xkI_at, vx_ot w = true := by decide +kernel
/-- what a throw of look() takes as given -/
def xoI (sF : Nat) (A : Nat → Prop) (U : State) (H : Heap) : Prop := vk_R RX11 118 "no such land" sF U ∧ vx_Zq Jvm.Bundle.tN "UNASSIGNED_STACK" Jvm.Bundle.steD A U H ∧ vx_Zq Jvm.Bundle.tN "SUPPRESSED_SENTINEL" Jvm.Bundle.listD A U H ∧ (∀ w ∈ xkI_at.filter goodWord, w.before #[] U = true) ∧ va_Nw (.declares ⟨"java/lang/RuntimeException", "<init>", "(Ljava/lang/String;)V"⟩) U ∧ va_Nw (.declares ⟨"java/lang/Exception", "<init>", "(Ljava/lang/String;)V"⟩) U ∧ va_Nw (.declares ⟨"java/lang/Throwable", "<init>", "(Ljava/lang/String;)V"⟩) U ∧ va_Nw (.castable "java/lang/IndexOutOfBoundsException" "java/lang/IndexOutOfBoundsException") U
theorem xoI.warm {sL : Nat} {A : Nat → Prop} {s U : State} {H : Heap} (hW : s.WarmedH U.vm) (h : xoI sL A s H) : xoI sL A U H := ⟨vk_R.warm hW h.1, vx_Zq.moved hW.alike h.2.1, vx_Zq.moved hW.alike h.2.2.1, fun w hw => word_at hW (good_of_word (List.mem_filter.mp hw).2) (h.2.2.2.1 w hw), va_Nw.warmD hW h.2.2.2.2.1, va_Nw.warmD hW h.2.2.2.2.2.1, va_Nw.warmD hW h.2.2.2.2.2.2.1, va_Nw.warmC hW h.2.2.2.2.2.2.2⟩
theorem xoI.kept {sL : Nat} {A : Nat → Prop} {U : State} {H H1 : Heap} (h : xoI sL A U H) (hq : ∀ a : Nat, a < H.size → ¬ A a → H1[a]? = H[a]?) : xoI sL A U H1 := ⟨h.1, h.2.1.kept hq, h.2.2.1.kept hq, h.2.2.2.1, h.2.2.2.2⟩
theorem xoI.narrow {sL : Nat} {A B : Nat → Prop} {U : State} {H : Heap} (h : xoI sL A U H) (hq : ∀ q, B q → A q) : xoI sL B U H := ⟨h.1, h.2.1.narrow hq, h.2.2.1.narrow hq, h.2.2.2.1, h.2.2.2.2⟩
theorem xoI.calling {sL : Nat} {A : Nat → Prop} {U : State} {H : Heap} {g : JFrame} {mk : MethodId} {a : Array Value} (h : xoI sL A U H) : xoI sL A (U.calling g mk a) H := ⟨vk_R.same rfl h.1, vx_Zq.moved (Vm.Alike.refl U.vm) h.2.1, vx_Zq.moved (Vm.Alike.refl U.vm) h.2.2.1, fun w hw => va_tabs (xkI_on w (List.mem_filter.mp hw).1) (rfl : U.vm = (U.calling g mk a).vm) (h.2.2.2.1 w hw), va_Nw.same rfl (rfl : U.vm = (U.calling g mk a).vm) h.2.2.2.2.1, va_Nw.same rfl (rfl : U.vm = (U.calling g mk a).vm) h.2.2.2.2.2.1, va_Nw.same rfl (rfl : U.vm = (U.calling g mk a).vm) h.2.2.2.2.2.2.1, va_Nw.same rfl (rfl : U.vm = (U.calling g mk a).vm) h.2.2.2.2.2.2.2⟩
theorem xoI.hat {sL : Nat} {A : Nat → Prop} {s : State} {args : Array Value} (h : xoI sL A s s.heap) : ∀ w ∈ xkI_at, w.before args s = true := fun w hw => va_tabs (xkI_on w hw) rfl (vx_hat (args := #[]) h.2.2.2.1 xkI_bad (vx_c h.2.2.2.2.1 (vx_c h.2.2.2.2.2.1 (vx_c h.2.2.2.2.2.2.1 (vx_c h.2.2.2.2.2.2.2 vx_n)))) w hw)
abbrev xkN_at : List Cond := vxN_all.filter vx_no
theorem xkN_on : ∀ w ∈ xkN_at, w.onTables = true := by decide +kernel
theorem xkN_bad : ∀ w ∈ xkN_at.filter (fun w => !goodWord w), w ∈ ([.declares ⟨"java/lang/RuntimeException", "<init>", "(Ljava/lang/String;)V"⟩, .declares ⟨"java/lang/Exception", "<init>", "(Ljava/lang/String;)V"⟩, .declares ⟨"java/lang/Throwable", "<init>", "(Ljava/lang/String;)V"⟩, .castable "java/util/NoSuchElementException" "java/util/NoSuchElementException"] : List Cond) := by decide +kernel
theorem xkN_ot : ∀ w ∈ Cond.classLink RX11 134 "java/util/NoSuchElementException" :: Cond.initialized "java/util/NoSuchElementException" :: xkN_at, vx_ot w = true := by decide +kernel
/-- what a throw of look() takes as given -/
def xoN (sF : Nat) (A : Nat → Prop) (U : State) (H : Heap) : Prop := vk_R RX11 136 "no such what" sF U ∧ vx_Zq Jvm.Bundle.tN "UNASSIGNED_STACK" Jvm.Bundle.steD A U H ∧ vx_Zq Jvm.Bundle.tN "SUPPRESSED_SENTINEL" Jvm.Bundle.listD A U H ∧ (∀ w ∈ xkN_at.filter goodWord, w.before #[] U = true) ∧ va_Nw (.declares ⟨"java/lang/RuntimeException", "<init>", "(Ljava/lang/String;)V"⟩) U ∧ va_Nw (.declares ⟨"java/lang/Exception", "<init>", "(Ljava/lang/String;)V"⟩) U ∧ va_Nw (.declares ⟨"java/lang/Throwable", "<init>", "(Ljava/lang/String;)V"⟩) U ∧ va_Nw (.castable "java/util/NoSuchElementException" "java/util/NoSuchElementException") U
theorem xoN.warm {sL : Nat} {A : Nat → Prop} {s U : State} {H : Heap} (hW : s.WarmedH U.vm) (h : xoN sL A s H) : xoN sL A U H := ⟨vk_R.warm hW h.1, vx_Zq.moved hW.alike h.2.1, vx_Zq.moved hW.alike h.2.2.1, fun w hw => word_at hW (good_of_word (List.mem_filter.mp hw).2) (h.2.2.2.1 w hw), va_Nw.warmD hW h.2.2.2.2.1, va_Nw.warmD hW h.2.2.2.2.2.1, va_Nw.warmD hW h.2.2.2.2.2.2.1, va_Nw.warmC hW h.2.2.2.2.2.2.2⟩
theorem xoN.kept {sL : Nat} {A : Nat → Prop} {U : State} {H H1 : Heap} (h : xoN sL A U H) (hq : ∀ a : Nat, a < H.size → ¬ A a → H1[a]? = H[a]?) : xoN sL A U H1 := ⟨h.1, h.2.1.kept hq, h.2.2.1.kept hq, h.2.2.2.1, h.2.2.2.2⟩
theorem xoN.narrow {sL : Nat} {A B : Nat → Prop} {U : State} {H : Heap} (h : xoN sL A U H) (hq : ∀ q, B q → A q) : xoN sL B U H := ⟨h.1, h.2.1.narrow hq, h.2.2.1.narrow hq, h.2.2.2.1, h.2.2.2.2⟩
theorem xoN.calling {sL : Nat} {A : Nat → Prop} {U : State} {H : Heap} {g : JFrame} {mk : MethodId} {a : Array Value} (h : xoN sL A U H) : xoN sL A (U.calling g mk a) H := ⟨vk_R.same rfl h.1, vx_Zq.moved (Vm.Alike.refl U.vm) h.2.1, vx_Zq.moved (Vm.Alike.refl U.vm) h.2.2.1, fun w hw => va_tabs (xkN_on w (List.mem_filter.mp hw).1) (rfl : U.vm = (U.calling g mk a).vm) (h.2.2.2.1 w hw), va_Nw.same rfl (rfl : U.vm = (U.calling g mk a).vm) h.2.2.2.2.1, va_Nw.same rfl (rfl : U.vm = (U.calling g mk a).vm) h.2.2.2.2.2.1, va_Nw.same rfl (rfl : U.vm = (U.calling g mk a).vm) h.2.2.2.2.2.2.1, va_Nw.same rfl (rfl : U.vm = (U.calling g mk a).vm) h.2.2.2.2.2.2.2⟩
theorem xoN.hat {sL : Nat} {A : Nat → Prop} {s : State} {args : Array Value} (h : xoN sL A s s.heap) : ∀ w ∈ xkN_at, w.before args s = true := fun w hw => va_tabs (xkN_on w hw) rfl (vx_hat (args := #[]) h.2.2.2.1 xkN_bad (vx_c h.2.2.2.2.1 (vx_c h.2.2.2.2.2.1 (vx_c h.2.2.2.2.2.2.1 (vx_c h.2.2.2.2.2.2.2 vx_n)))) w hw)
def xo (sL : Nat → Nat) (A : Nat → Prop) (U : State) (H : Heap) : Prop := xoI (sL 0) A U H ∧ xoN (sL 1) A U H
theorem xo.warm {sL : Nat → Nat} {A : Nat → Prop} {s U : State} {H : Heap} (hW : s.WarmedH U.vm) (h : xo sL A s H) : xo sL A U H := ⟨h.1.warm hW, h.2.warm hW⟩
theorem xo.kept {sL : Nat → Nat} {A : Nat → Prop} {U : State} {H H1 : Heap} (h : xo sL A U H) (hq : ∀ a : Nat, a < H.size → ¬ A a → H1[a]? = H[a]?) : xo sL A U H1 := ⟨h.1.kept hq, h.2.kept hq⟩
theorem xo.narrow {sL : Nat → Nat} {A B : Nat → Prop} {U : State} {H : Heap} (h : xo sL A U H) (hq : ∀ q, B q → A q) : xo sL B U H := ⟨h.1.narrow hq, h.2.narrow hq⟩
theorem xo.calling {sL : Nat → Nat} {A : Nat → Prop} {U : State} {H : Heap} {g : JFrame} {mk : MethodId} {a : Array Value} (h : xo sL A U H) : xo sL A (U.calling g mk a) H := ⟨h.1.calling, h.2.calling⟩

def fx_look (fTo : Nat → Int32) (FI : Nat → Int32) (GR : Nat → Int32) (FR : Nat → Int32) (a0 : Int32) (a1 : Int32) : Int32 × Int32 := (if fb_landIs fTo a0 = 0 then ((1 : Int32), (0 : Int32)) else (if a1 = 0 then ((0 : Int32), (FI a0.toNatClampNeg)) else (if a1 = 1 then ((0 : Int32), (GR a0.toNatClampNeg)) else (if a1 = 2 then ((0 : Int32), (FR a0.toNatClampNeg)) else ((2 : Int32), (0 : Int32))))))
theorem dX11_look_0 : decode cX11_look 0 = .ok (.aload_n 0, 1) := zk_42 (by decide +kernel)
theorem dX11_look_1 : decode cX11_look 1 = .ok (.getfield 19, 3) := zk_180 (by decide +kernel)
theorem dX11_look_4 : decode cX11_look 4 = .ok (.iload_n 1, 1) := zk_27 (by decide +kernel)
theorem dX11_look_5 : decode cX11_look 5 = .ok (.invokevirtual 112, 3) := zk_182 (by decide +kernel)
theorem dX11_look_8 : decode cX11_look 8 = .ok (.astore_n 3, 1) := zk_78 (by decide +kernel)
theorem dX11_look_9 : decode cX11_look 9 = .ok (.aload_n 3, 1) := zk_45 (by decide +kernel)
theorem dX11_look_10 : decode cX11_look 10 = .ok (.ifnonnull 13, 3) := zk_199 (by decide +kernel)
theorem dX11_look_13 : decode cX11_look 13 = .ok (.new 116, 3) := zk_187 (by decide +kernel)
theorem dX11_look_16 : decode cX11_look 16 = .ok (.dup, 1) := zk_89 (by decide +kernel)
theorem dX11_look_17 : decode cX11_look 17 = .ok (.ldc 118, 2) := zk_18 (by decide +kernel)
theorem dX11_look_19 : decode cX11_look 19 = .ok (.invokespecial 120, 3) := zk_183 (by decide +kernel)
theorem dX11_look_22 : decode cX11_look 22 = .ok (.athrow, 1) := zk_191 (by decide +kernel)
theorem dX11_look_23 : decode cX11_look 23 = .ok (.iload_n 2, 1) := zk_28 (by decide +kernel)
theorem dX11_look_24 : decode cX11_look 24 = .ok (.tableswitch 43 0 2 #[28, 33, 38], 28) := by decide +kernel
theorem dX11_look_52 : decode cX11_look 52 = .ok (.aload_n 3, 1) := zk_45 (by decide +kernel)
theorem dX11_look_53 : decode cX11_look 53 = .ok (.getfield 123, 3) := zk_180 (by decide +kernel)
theorem dX11_look_56 : decode cX11_look 56 = .ok (.ireturn, 1) := zk_172 (by decide +kernel)
theorem dX11_look_57 : decode cX11_look 57 = .ok (.aload_n 3, 1) := zk_45 (by decide +kernel)
theorem dX11_look_58 : decode cX11_look 58 = .ok (.getfield 128, 3) := zk_180 (by decide +kernel)
theorem dX11_look_61 : decode cX11_look 61 = .ok (.ireturn, 1) := zk_172 (by decide +kernel)
theorem dX11_look_62 : decode cX11_look 62 = .ok (.aload_n 3, 1) := zk_45 (by decide +kernel)
theorem dX11_look_63 : decode cX11_look 63 = .ok (.getfield 131, 3) := zk_180 (by decide +kernel)
theorem dX11_look_66 : decode cX11_look 66 = .ok (.ireturn, 1) := zk_172 (by decide +kernel)
theorem dX11_look_67 : decode cX11_look 67 = .ok (.new 134, 3) := zk_187 (by decide +kernel)
theorem dX11_look_70 : decode cX11_look 70 = .ok (.dup, 1) := zk_89 (by decide +kernel)
theorem dX11_look_71 : decode cX11_look 71 = .ok (.ldc 136, 2) := zk_18 (by decide +kernel)
theorem dX11_look_73 : decode cX11_look 73 = .ok (.invokespecial 138, 3) := zk_183 (by decide +kernel)
theorem dX11_look_76 : decode cX11_look 76 = .ok (.athrow, 1) := zk_191 (by decide +kernel)
set_option maxHeartbeats 4000000 in
set_option maxRecDepth 100000 in
theorem gx_look (l : Launch) (hst : l.stackTraces = false) (dC : Nat → ClassId) (dI : Nat → Nat → Nat) (x : Nat) (pa : Nat) (bk : Nat) (xsp : Nat) (xdy : Nat) (le : Nat) (xst : Nat) (xsc : Int32) (xim : Nat) (xil : Nat) (xik : Int32) (xmo : Nat) (xom : Nat) (wi : Nat) (bto : Nat) (bnm : Nat) (bla : Nat) (bsk : Nat) (bru : Nat) (bbo : Nat) (bdi : Nat) (bda : Nat) (bdk : Nat) (bdt : Nat) (bdp : Nat) (bno : Nat) (cTo : ClassId) (fTo : Nat → Int32) (cLa : ClassId) (La : Nat → Nat) (FI : Nat → Int32) (GR : Nat → Int32) (FR : Nat → Int32) (a0 : Int32) (a1 : Int32) (sL : Nat → Nat) (sz : Nat) : vx_Met l yX11_look (Cond.code yX11_look cX11_look 4 (some .int) :: wsL_law) ({ frames := 6, cells := 1, slots := 6, locals := 82 }) (va_Pc [.ref x, .int a0, .int a1] (fun U => U.heap.size = sz ∧ va_P (dC, dI) vwCl [(eO11a x pa bk xsp xdy le xst xsc xim xil xik xmo xom wi), (eO0a bk bto bnm bla bsk bru bbo bdi bda bdk bdt bdp bno), (eA0 bto cTo 5 fTo), (eA4 bla cLa 4 (fun k => some (La k))), (eO1a (La 0) (FI 0) (GR 0) (FR 0)), (eO1a (La 1) (FI 1) (GR 1) (FR 1)), (eO1a (La 2) (FI 2) (GR 2) (FR 2)), (eO1a (La 3) (FI 3) (GR 3) (FR 3))] U.heap ∧ va_K (dC, dI) vwCl [(cTo, .int), (cLa, .object RX1)] U ∧ va_D (fun _ => True) [(eO11a x pa bk xsp xdy le xst xsc xim xil xik xmo xom wi), (eO0a bk bto bnm bla bsk bru bbo bdi bda bdk bdt bdp bno), (eA0 bto cTo 5 fTo), (eA4 bla cLa 4 (fun k => some (La k))), (eO1a (La 0) (FI 0) (GR 0) (FR 0)), (eO1a (La 1) (FI 1) (GR 1) (FR 1)), (eO1a (La 2) (FI 2) (GR 2) (FR 2)), (eO1a (La 3) (FI 3) (GR 3) (FR 3))] ∧ xo sL (va_A [(eO11a x pa bk xsp xdy le xst xsc xim xil xik xmo xom wi), (eO0a bk bto bnm bla bsk bru bbo bdi bda bdk bdt bdp bno), (eA0 bto cTo 5 fTo), (eA4 bla cLa 4 (fun k => some (La k))), (eO1a (La 0) (FI 0) (GR 0) (FR 0)), (eO1a (La 1) (FI 1) (GR 1) (FR 1)), (eO1a (La 2) (FI 2) (GR 2) (FR 2)), (eO1a (La 3) (FI 3) (GR 3) (FR 3))] sz) U U.heap)) (va_Qi (fun (r : Int32) (u : Unit) => (fx_look fTo FI GR FR a0 a1).1 = 0 ∧ r = (fx_look fTo FI GR FR a0 a1).2) (fun (u : Unit) t => (va_P (dC, dI) vwCl [(eO11a x pa bk xsp xdy le xst xsc xim xil xik xmo xom wi), (eO0a bk bto bnm bla bsk bru bbo bdi bda bdk bdt bdp bno), (eA0 bto cTo 5 fTo), (eA4 bla cLa 4 (fun k => some (La k))), (eO1a (La 0) (FI 0) (GR 0) (FR 0)), (eO1a (La 1) (FI 1) (GR 1) (FR 1)), (eO1a (La 2) (FI 2) (GR 2) (FR 2)), (eO1a (La 3) (FI 3) (GR 3) (FR 3))] t.heap ∧ va_K (dC, dI) vwCl [] t ∧ va_D (va_A [(eO11a x pa bk xsp xdy le xst xsc xim xil xik xmo xom wi), (eO0a bk bto bnm bla bsk bru bbo bdi bda bdk bdt bdp bno), (eA0 bto cTo 5 fTo), (eA4 bla cLa 4 (fun k => some (La k))), (eO1a (La 0) (FI 0) (GR 0) (FR 0)), (eO1a (La 1) (FI 1) (GR 1) (FR 1)), (eO1a (La 2) (FI 2) (GR 2) (FR 2)), (eO1a (La 3) (FI 3) (GR 3) (FR 3))] sz) [(eO11a x pa bk xsp xdy le xst xsc xim xil xik xmo xom wi), (eO0a bk bto bnm bla bsk bru bbo bdi bda bdk bdt bdp bno), (eA0 bto cTo 5 fTo), (eA4 bla cLa 4 (fun k => some (La k))), (eO1a (La 0) (FI 0) (GR 0) (FR 0)), (eO1a (La 1) (FI 1) (GR 1) (FR 1)), (eO1a (La 2) (FI 2) (GR 2) (FR 2)), (eO1a (La 3) (FI 3) (GR 3) (FR 3))]) ∧ t.heap.size = sz) (va_A [(eO11a x pa bk xsp xdy le xst xsc xim xil xik xmo xom wi), (eO0a bk bto bnm bla bsk bru bbo bdi bda bdk bdt bdp bno), (eA0 bto cTo 5 fTo), (eA4 bla cLa 4 (fun k => some (La k))), (eO1a (La 0) (FI 0) (GR 0) (FR 0)), (eO1a (La 1) (FI 1) (GR 1) (FR 1)), (eO1a (La 2) (FI 2) (GR 2) (FR 2)), (eO1a (La 3) (FI 3) (GR 3) (FR 3))] sz)) (vx_X (fun (u : Unit) => True) (fun (E : String) (u : Unit) (t : State) => ((((fx_look fTo FI GR FR a0 a1).1 = 1 ∧ E = "java/lang/IndexOutOfBoundsException") ∨ ((fx_look fTo FI GR FR a0 a1).1 = 2 ∧ E = "java/util/NoSuchElementException"))) ∧ va_P (dC, dI) vwCl [(eO11a x pa bk xsp xdy le xst xsc xim xil xik xmo xom wi), (eO0a bk bto bnm bla bsk bru bbo bdi bda bdk bdt bdp bno), (eA0 bto cTo 5 fTo), (eA4 bla cLa 4 (fun k => some (La k))), (eO1a (La 0) (FI 0) (GR 0) (FR 0)), (eO1a (La 1) (FI 1) (GR 1) (FR 1)), (eO1a (La 2) (FI 2) (GR 2) (FR 2)), (eO1a (La 3) (FI 3) (GR 3) (FR 3))] t.heap ∧ va_K (dC, dI) vwCl [] t ∧ va_D (va_A [(eO11a x pa bk xsp xdy le xst xsc xim xil xik xmo xom wi), (eO0a bk bto bnm bla bsk bru bbo bdi bda bdk bdt bdp bno), (eA0 bto cTo 5 fTo), (eA4 bla cLa 4 (fun k => some (La k))), (eO1a (La 0) (FI 0) (GR 0) (FR 0)), (eO1a (La 1) (FI 1) (GR 1) (FR 1)), (eO1a (La 2) (FI 2) (GR 2) (FR 2)), (eO1a (La 3) (FI 3) (GR 3) (FR 3))] sz) [(eO11a x pa bk xsp xdy le xst xsc xim xil xik xmo xom wi), (eO0a bk bto bnm bla bsk bru bbo bdi bda bdk bdt bdp bno), (eA0 bto cTo 5 fTo), (eA4 bla cLa 4 (fun k => some (La k))), (eO1a (La 0) (FI 0) (GR 0) (FR 0)), (eO1a (La 1) (FI 1) (GR 1) (FR 1)), (eO1a (La 2) (FI 2) (GR 2) (FR 2)), (eO1a (La 3) (FI 3) (GR 3) (FR 3))]) (va_A [(eO11a x pa bk xsp xdy le xst xsc xim xil xik xmo xom wi), (eO0a bk bto bnm bla bsk bru bbo bdi bda bdk bdt bdp bno), (eA0 bto cTo 5 fTo), (eA4 bla cLa 4 (fun k => some (La k))), (eO1a (La 0) (FI 0) (GR 0) (FR 0)), (eO1a (La 1) (FI 1) (GR 1) (FR 1)), (eO1a (La 2) (FI 2) (GR 2) (FR 2)), (eO1a (La 3) (FI 3) (GR 3) (FR 3))] sz)) 1 6 (va_A [(eO11a x pa bk xsp xdy le xst xsc xim xil xik xmo xom wi), (eO0a bk bto bnm bla bsk bru bbo bdi bda bdk bdt bdp bno), (eA0 bto cTo 5 fTo), (eA4 bla cLa 4 (fun k => some (La k))), (eO1a (La 0) (FI 0) (GR 0) (FR 0)), (eO1a (La 1) (FI 1) (GR 1) (FR 1)), (eO1a (La 2) (FI 2) (GR 2) (FR 2)), (eO1a (La 3) (FI 3) (GR 3) (FR 3))] sz) := by
  refine vx_ofW (cc := cX11_look) (maxL := 4) (ret := (some .int)) (by decide) rfl ?_
  intro p e s m args below meth c s₁ B hml hex hv
  obtain ⟨rfl, hsz, hP, hK, hD0, hXL⟩ := hv
  have hx := B.exec
  have hb := B.bytes
  have hr := B.returns
  have hts := atoms_spec (ws := Cond.code yX11_look cX11_look 4 (some .int) :: wsL_law) B.pre
  have htw : ∀ w ∈ wsL_law, w.before _ s = true := fun w h => hts w (List.mem_cons_of_mem _ h)
  have hown : s.vm.findClass RX11 = some m.cls := findClass_of_methodNamed B.named
  have hlocks := B.notSynchronized
  subst hsz
  have hD := hD0.self (sz := s.heap.size)
  generalize hAe : va_A [(eO11a x pa bk xsp xdy le xst xsc xim xil xik xmo xom wi), (eO0a bk bto bnm bla bsk bru bbo bdi bda bdk bdt bdp bno), (eA0 bto cTo 5 fTo), (eA4 bla cLa 4 (fun k => some (La k))), (eO1a (La 0) (FI 0) (GR 0) (FR 0)), (eO1a (La 1) (FI 1) (GR 1) (FR 1)), (eO1a (La 2) (FI 2) (GR 2) (FR 2)), (eO1a (La 3) (FI 3) (GR 3) (FR 3))] s.heap.size = A at hD hXL ⊢
  have hA : ∀ q : Nat, s.heap.size ≤ q → A q := fun q h => by rw [← hAe]; exact Or.inr h
  obtain ⟨H, rH⟩ : ∃ z : Heap, z = s.heap := ⟨_, rfl⟩
  have hS : va_S A s.heap H [] := by rw [rH]; exact va_S.rf
  have hP : va_P (dC, dI) vwCl [(eO11a x pa bk xsp xdy le xst xsc xim xil xik xmo xom wi), (eO0a bk bto bnm bla bsk bru bbo bdi bda bdk bdt bdp bno), (eA0 bto cTo 5 fTo), (eA4 bla cLa 4 (fun k => some (La k))), (eO1a (La 0) (FI 0) (GR 0) (FR 0)), (eO1a (La 1) (FI 1) (GR 1) (FR 1)), (eO1a (La 2) (FI 2) (GR 2) (FR 2)), (eO1a (La 3) (FI 3) (GR 3) (FR 3))] H := by rw [rH]; exact hP
  rw [← rH]
  have hl := lv_entry ([.ref x, .int a0, .int a1]) (n := 4) (Nat.le_of_ble_eq_true rfl)
  rw [lg_entry_eq]
  generalize (lg_sl ([.ref x, .int a0, .int a1]) ++ List.replicate (4 - (lg_sl ([.ref x, .int a0, .int a1])).length) Slot.unset).toArray = ls at hl ⊢
  have hl : lv_has ls 4 [(0, .ref x), (1, .int a0), (2, .int a1)] := hl
  refine lv_aload_n hx hb dX11_look_0 rfl (lv_at hl 0 rfl) ?_
  refine va_get (D := (dC, dI)) (ci := 11) (v := .ref bk) (C := RX11) (T := TX11) (N := 13) hx hb htw inlX11 hown hK hP 0 rfl rfl 1 (by decide) (htw _ (ck_1 _ (List.mem_of_getElem? (i := 21) rfl))) (fun _ h9 => h9) rfl dX11_look_1 ?_
  refine lv_iload_n hx hb dX11_look_4 rfl (lv_at hl 1 rfl) ?_
  have hPc := hP.sub (ws' := [(eO0a bk bto bnm bla bsk bru bbo bdi bda bdk bdt bdp bno), (eA0 bto cTo 5 fTo), (eA4 bla cLa 4 (fun k => some (La k)))]) [1, 2, 3] rfl
  have hKc := hK.sub (tys' := [(cTo, .int), (cLa, .object RX1)]) [0, 1] rfl
  refine va_csq (W.runV (As := [.int a0]) (rest := []) ⟨hx, hb, hml, hown, htw⟩ (gb_landAt l dC dI bk bto bnm bla bsk bru bbo bdi bda bdk bdt bdp bno cTo fTo cLa La a0) (cwV 1 htw (xg_V (ck_33 _ (List.mem_of_getElem? (i := 21) rfl)) (ck_20 _ (List.mem_of_getElem? (i := 22) rfl)) (ck_20 _ (List.mem_of_getElem? (i := 23) rfl)) (ck_1 _ (List.mem_of_getElem? (i := 20) rfl)) (ck_21 _ (List.mem_of_getElem? (i := 0) rfl))) rfl rfl rfl (by exact ⟨rfl, hdc_6.1, hdc_6.2, hdd_15⟩) ⟨Nat.le_of_ble_eq_true rfl, Nat.le_of_ble_eq_true rfl⟩) ⟨fun a U g mk q => by obtain ⟨q0, qP, qK⟩ := q; exact ⟨q0, qP, va_K.moved (u := U) (U := U.calling g mk a) (Vm.Alike.refl U.vm) qK⟩, va_recv hKc hPc (ci := 0) (q0 := 0) rfl rfl, fun U hU hW => ⟨rfl, by rw [hU]; exact hPc, va_K.moved hW.alike hKc⟩⟩ rfl rfl hl.1 rfl (lv_room (Nat.le_of_ble_eq_true rfl)) dX11_look_5 ⟨Nat.le_of_ble_eq_true rfl, Nat.le_of_ble_eq_true rfl⟩) (fun r_1 hw => ?_)
  try dsimp only at hw
  by_cases hz_2 : fb_landIs fTo a0 = 0
  · obtain rfl : r_1 = none := by rw [hw, if_pos hz_2]
    refine W.eq (g2 := F0 m 8 ls [.null]) rfl ?_
    refine lv_astore_nN (lv' := [(3, .null), (0, .ref x), (1, .int a0), (2, .int a1)]) hx hb dX11_look_8 rfl hl (by decide) rfl (fun ls hl => ?_)
    refine lv_aload_nN hx hb dX11_look_9 rfl (lv_at hl 0 rfl) ?_
    refine lv_ifnonnullN hx hb dX11_look_10 ?_
    have hP9 := hP
    have hD9 := hD
    have hK9 := hK.sub (tys' := []) [] rfl
    exact vx_throwS (sa := sL 0) (text := "no such land") (names := ["java/lang/RuntimeException", "java/lang/Exception"]) (ik := 116) (is := 118) (ic := 120) (A := A) hx hb hst hown (by decide +kernel) (by decide +kernel) (htw _ (ck_33 _ (List.mem_of_getElem? (i := 14) rfl))) (htw _ (ck_33 _ (List.mem_of_getElem? (i := 15) rfl))) hXL.1.1 hXL.1.hat xkI_ot hXL.1.2.1 hXL.1.2.2.1 hS (by rw [hml]; exact hl.1) dX11_look_13 dX11_look_16 dX11_look_17 dX11_look_19 dX11_look_22 (fun x hx9 => (hex x hx9).elim) (Nat.le_of_ble_eq_true rfl) (Nat.le_of_ble_eq_true rfl) (Nat.le_of_ble_eq_true rfl) (Nat.le_of_ble_eq_true rfl) hlocks (fun t hal hsz9 hk9 => ⟨(), trivial, ⟨((fun e9 => Or.inl ⟨by rw [e9], rfl⟩ : fx_look fTo FI GR FR a0 a1 = ((1 : Int32), (0 : Int32)) → _) ((by rw [fx_look]; (try rw [if_pos hz_2]); try rfl))), xs_ext hP9 hk9, va_K.moved hal hK9, hD9⟩, Nat.le_trans hS.1 hsz9, fun q h1 h2 => (hk9 q (Nat.lt_of_lt_of_le h1 hS.1)).trans (hS.2.1 q h1 h2)⟩) hS.2.2 (Nat.le_of_ble_eq_true rfl) (Nat.le_of_ble_eq_true rfl)
  · obtain rfl : r_1 = some (La a0.toNatClampNeg) := by rw [hw, if_neg hz_2]
    refine W.eq (g2 := F0 m 8 ls [.ref (La a0.toNatClampNeg)]) rfl ?_
    refine lv_astore_n (lv' := [(3, .ref (La a0.toNatClampNeg)), (0, .ref x), (1, .int a0), (2, .int a1)]) hx hb dX11_look_8 rfl hl (by decide) rfl (fun ls hl => ?_)
    refine lv_aload_n hx hb dX11_look_9 rfl (lv_at hl 0 rfl) ?_
    refine lv_ifnonnull (tgt := 23) hx hb dX11_look_10 (by decide) ?_
    rcases xi_c4 (fb_landIn hz_2).1 (Int32.not_le.mp (fb_landIn hz_2).2) with hk | hk | hk | hk
    · have hP : va_P (dC, dI) vwCl [(eO11a x pa bk xsp xdy le xst xsc xim xil xik xmo xom wi), (eO0a bk bto bnm bla bsk bru bbo bdi bda bdk bdt bdp bno), (eA0 bto cTo 5 fTo), (eA4 bla cLa 4 (fun k => some (La k))), ((La a0.toNatClampNeg), .inr (1, [.int (FI a0.toNatClampNeg), .int (GR a0.toNatClampNeg), .int (FR a0.toNatClampNeg)])), (eO1a (La 1) (FI 1) (GR 1) (FR 1)), (eO1a (La 2) (FI 2) (GR 2) (FR 2)), (eO1a (La 3) (FI 3) (GR 3) (FR 3))] H := by rw [hk]; exact hP
      have hD : va_D A [(eO11a x pa bk xsp xdy le xst xsc xim xil xik xmo xom wi), (eO0a bk bto bnm bla bsk bru bbo bdi bda bdk bdt bdp bno), (eA0 bto cTo 5 fTo), (eA4 bla cLa 4 (fun k => some (La k))), ((La a0.toNatClampNeg), .inr (1, [.int (FI a0.toNatClampNeg), .int (GR a0.toNatClampNeg), .int (FR a0.toNatClampNeg)])), (eO1a (La 1) (FI 1) (GR 1) (FR 1)), (eO1a (La 2) (FI 2) (GR 2) (FR 2)), (eO1a (La 3) (FI 3) (GR 3) (FR 3))] := by rw [hk]; exact hD
      refine lv_iload_n hx hb dX11_look_23 rfl (lv_at hl 3 rfl) ?_
      by_cases h_3 : a1 = 0
      · refine lv_tableIn (off := 28) (tgt := 52) hx hb dX11_look_24 (by rw [h_3]; decide) (by rw [h_3]; decide) (by rw [h_3]; decide) (by decide) ?_
        refine lv_aload_n hx hb dX11_look_52 rfl (lv_at hl 0 rfl) ?_
        refine va_get (D := (dC, dI)) (ci := 1) (v := .int (FI a0.toNatClampNeg)) (C := RX1) (T := TX1) (N := 3) hx hb htw inlX1 hown hK hP 4 rfl rfl 0 (by decide) (htw _ (ck_33 _ (List.mem_of_getElem? (i := 18) rfl))) (fun _ h9 => h9) rfl dX11_look_53 ?_
        have hP : va_P (dC, dI) vwCl [(eO11a x pa bk xsp xdy le xst xsc xim xil xik xmo xom wi), (eO0a bk bto bnm bla bsk bru bbo bdi bda bdk bdt bdp bno), (eA0 bto cTo 5 fTo), (eA4 bla cLa 4 (fun k => some (La k))), (eO1a (La 0) (FI 0) (GR 0) (FR 0)), (eO1a (La 1) (FI 1) (GR 1) (FR 1)), (eO1a (La 2) (FI 2) (GR 2) (FR 2)), (eO1a (La 3) (FI 3) (GR 3) (FR 3))] H := by subst hk; exact hP
        have hD : va_D A [(eO11a x pa bk xsp xdy le xst xsc xim xil xik xmo xom wi), (eO0a bk bto bnm bla bsk bru bbo bdi bda bdk bdt bdp bno), (eA0 bto cTo 5 fTo), (eA4 bla cLa 4 (fun k => some (La k))), (eO1a (La 0) (FI 0) (GR 0) (FR 0)), (eO1a (La 1) (FI 1) (GR 1) (FR 1)), (eO1a (La 2) (FI 2) (GR 2) (FR 2)), (eO1a (La 3) (FI 3) (GR 3) (FR 3))] := by subst hk; exact hD
        refine xs_size (fun hHz => ?_)
        refine vx_ret ?_
        refine W.widen (k := 1) (n := 6) (by omega) (by omega) ?_
        have hP9 := hP
        have hD9 := hD
        have hK9 := hK.sub (tys' := []) [] rfl
        exact W.iret (v := (FI a0.toNatClampNeg)) hx hb hr (fun t ht hW => ⟨⟨(FI a0.toNatClampNeg), (), rfl, ((fun e9 => ⟨by rw [e9], by rw [e9]⟩ : fx_look fTo FI GR FR a0 a1 = ((0 : Int32), (FI a0.toNatClampNeg)) → _) ((by rw [fx_look]; (try rw [if_neg hz_2]); (try rw [if_pos h_3]); try rfl))), ⟨by rw [ht]; exact hP9, va_K.moved hW.alike hK9, hD9⟩, by rw [ht] <;> first | exact hHz | exact hHz.trans (by rw [rH])⟩, hS.F ht⟩) hS.2.2 dX11_look_56
      by_cases h_4 : a1 = 1
      · refine lv_tableIn (off := 33) (tgt := 57) hx hb dX11_look_24 (by rw [h_4]; decide) (by rw [h_4]; decide) (by rw [h_4]; decide) (by decide) ?_
        refine lv_aload_n hx hb dX11_look_57 rfl (lv_at hl 0 rfl) ?_
        refine va_get (D := (dC, dI)) (ci := 1) (v := .int (GR a0.toNatClampNeg)) (C := RX1) (T := TX1) (N := 3) hx hb htw inlX1 hown hK hP 4 rfl rfl 1 (by decide) (htw _ (ck_33 _ (List.mem_of_getElem? (i := 19) rfl))) (fun _ h9 => h9) rfl dX11_look_58 ?_
        have hP : va_P (dC, dI) vwCl [(eO11a x pa bk xsp xdy le xst xsc xim xil xik xmo xom wi), (eO0a bk bto bnm bla bsk bru bbo bdi bda bdk bdt bdp bno), (eA0 bto cTo 5 fTo), (eA4 bla cLa 4 (fun k => some (La k))), (eO1a (La 0) (FI 0) (GR 0) (FR 0)), (eO1a (La 1) (FI 1) (GR 1) (FR 1)), (eO1a (La 2) (FI 2) (GR 2) (FR 2)), (eO1a (La 3) (FI 3) (GR 3) (FR 3))] H := by subst hk; exact hP
        have hD : va_D A [(eO11a x pa bk xsp xdy le xst xsc xim xil xik xmo xom wi), (eO0a bk bto bnm bla bsk bru bbo bdi bda bdk bdt bdp bno), (eA0 bto cTo 5 fTo), (eA4 bla cLa 4 (fun k => some (La k))), (eO1a (La 0) (FI 0) (GR 0) (FR 0)), (eO1a (La 1) (FI 1) (GR 1) (FR 1)), (eO1a (La 2) (FI 2) (GR 2) (FR 2)), (eO1a (La 3) (FI 3) (GR 3) (FR 3))] := by subst hk; exact hD
        refine xs_size (fun hHz => ?_)
        refine vx_ret ?_
        refine W.widen (k := 1) (n := 6) (by omega) (by omega) ?_
        have hP9 := hP
        have hD9 := hD
        have hK9 := hK.sub (tys' := []) [] rfl
        exact W.iret (v := (GR a0.toNatClampNeg)) hx hb hr (fun t ht hW => ⟨⟨(GR a0.toNatClampNeg), (), rfl, ((fun e9 => ⟨by rw [e9], by rw [e9]⟩ : fx_look fTo FI GR FR a0 a1 = ((0 : Int32), (GR a0.toNatClampNeg)) → _) ((by rw [fx_look]; (try rw [if_neg hz_2]); (try rw [if_neg h_3]); (try rw [if_pos h_4]); try rfl))), ⟨by rw [ht]; exact hP9, va_K.moved hW.alike hK9, hD9⟩, by rw [ht] <;> first | exact hHz | exact hHz.trans (by rw [rH])⟩, hS.F ht⟩) hS.2.2 dX11_look_61
      by_cases h_5 : a1 = 2
      · refine lv_tableIn (off := 38) (tgt := 62) hx hb dX11_look_24 (by rw [h_5]; decide) (by rw [h_5]; decide) (by rw [h_5]; decide) (by decide) ?_
        refine lv_aload_n hx hb dX11_look_62 rfl (lv_at hl 0 rfl) ?_
        refine va_get (D := (dC, dI)) (ci := 1) (v := .int (FR a0.toNatClampNeg)) (C := RX1) (T := TX1) (N := 3) hx hb htw inlX1 hown hK hP 4 rfl rfl 2 (by decide) (htw _ (ck_33 _ (List.mem_of_getElem? (i := 20) rfl))) (fun _ h9 => h9) rfl dX11_look_63 ?_
        have hP : va_P (dC, dI) vwCl [(eO11a x pa bk xsp xdy le xst xsc xim xil xik xmo xom wi), (eO0a bk bto bnm bla bsk bru bbo bdi bda bdk bdt bdp bno), (eA0 bto cTo 5 fTo), (eA4 bla cLa 4 (fun k => some (La k))), (eO1a (La 0) (FI 0) (GR 0) (FR 0)), (eO1a (La 1) (FI 1) (GR 1) (FR 1)), (eO1a (La 2) (FI 2) (GR 2) (FR 2)), (eO1a (La 3) (FI 3) (GR 3) (FR 3))] H := by subst hk; exact hP
        have hD : va_D A [(eO11a x pa bk xsp xdy le xst xsc xim xil xik xmo xom wi), (eO0a bk bto bnm bla bsk bru bbo bdi bda bdk bdt bdp bno), (eA0 bto cTo 5 fTo), (eA4 bla cLa 4 (fun k => some (La k))), (eO1a (La 0) (FI 0) (GR 0) (FR 0)), (eO1a (La 1) (FI 1) (GR 1) (FR 1)), (eO1a (La 2) (FI 2) (GR 2) (FR 2)), (eO1a (La 3) (FI 3) (GR 3) (FR 3))] := by subst hk; exact hD
        refine xs_size (fun hHz => ?_)
        refine vx_ret ?_
        refine W.widen (k := 1) (n := 6) (by omega) (by omega) ?_
        have hP9 := hP
        have hD9 := hD
        have hK9 := hK.sub (tys' := []) [] rfl
        exact W.iret (v := (FR a0.toNatClampNeg)) hx hb hr (fun t ht hW => ⟨⟨(FR a0.toNatClampNeg), (), rfl, ((fun e9 => ⟨by rw [e9], by rw [e9]⟩ : fx_look fTo FI GR FR a0 a1 = ((0 : Int32), (FR a0.toNatClampNeg)) → _) ((by rw [fx_look]; (try rw [if_neg hz_2]); (try rw [if_neg h_3]); (try rw [if_neg h_4]); (try rw [if_pos h_5]); try rfl))), ⟨by rw [ht]; exact hP9, va_K.moved hW.alike hK9, hD9⟩, by rw [ht] <;> first | exact hHz | exact hHz.trans (by rw [rH])⟩, hS.F ht⟩) hS.2.2 dX11_look_66
      refine lv_tableOut (tgt := 67) hx hb dX11_look_24 (by have a0 := xg_ne h_3; have a1 := xg_ne h_4; have a2 := xg_ne h_5; have b0 : (0 : Int32).toInt = 0 := rfl; have b1 : (1 : Int32).toInt = 1 := rfl; have b2 : (2 : Int32).toInt = 2 := rfl; omega) (by decide) ?_
      have hP : va_P (dC, dI) vwCl [(eO11a x pa bk xsp xdy le xst xsc xim xil xik xmo xom wi), (eO0a bk bto bnm bla bsk bru bbo bdi bda bdk bdt bdp bno), (eA0 bto cTo 5 fTo), (eA4 bla cLa 4 (fun k => some (La k))), (eO1a (La 0) (FI 0) (GR 0) (FR 0)), (eO1a (La 1) (FI 1) (GR 1) (FR 1)), (eO1a (La 2) (FI 2) (GR 2) (FR 2)), (eO1a (La 3) (FI 3) (GR 3) (FR 3))] H := by subst hk; exact hP
      have hD : va_D A [(eO11a x pa bk xsp xdy le xst xsc xim xil xik xmo xom wi), (eO0a bk bto bnm bla bsk bru bbo bdi bda bdk bdt bdp bno), (eA0 bto cTo 5 fTo), (eA4 bla cLa 4 (fun k => some (La k))), (eO1a (La 0) (FI 0) (GR 0) (FR 0)), (eO1a (La 1) (FI 1) (GR 1) (FR 1)), (eO1a (La 2) (FI 2) (GR 2) (FR 2)), (eO1a (La 3) (FI 3) (GR 3) (FR 3))] := by subst hk; exact hD
      have hP9 := hP
      have hD9 := hD
      have hK9 := hK.sub (tys' := []) [] rfl
      exact vx_throwN (sa := sL 1) (text := "no such what") (ik := 134) (is := 136) (A := A) hx hb hst hown (htw _ (ck_33 _ (List.mem_of_getElem? (i := 16) rfl))) (htw _ (ck_33 _ (List.mem_of_getElem? (i := 17) rfl))) hXL.2.1 hXL.2.hat xkN_ot hXL.2.2.1 hXL.2.2.2.1 hS (by rw [hml]; exact hl.1) dX11_look_67 dX11_look_70 dX11_look_71 dX11_look_73 dX11_look_76 (fun x hx9 => (hex x hx9).elim) (Nat.le_of_ble_eq_true rfl) (Nat.le_of_ble_eq_true rfl) (Nat.le_of_ble_eq_true rfl) (Nat.le_of_ble_eq_true rfl) hlocks (fun t hal hsz9 hk9 => ⟨(), trivial, ⟨((fun e9 => Or.inr ⟨by rw [e9], rfl⟩ : fx_look fTo FI GR FR a0 a1 = ((2 : Int32), (0 : Int32)) → _) ((by rw [fx_look]; (try rw [if_neg hz_2]); (try rw [if_neg h_3]); (try rw [if_neg h_4]); (try rw [if_neg h_5]); try rfl))), xs_ext hP9 hk9, va_K.moved hal hK9, hD9⟩, Nat.le_trans hS.1 hsz9, fun q h1 h2 => (hk9 q (Nat.lt_of_lt_of_le h1 hS.1)).trans (hS.2.1 q h1 h2)⟩) hS.2.2 (Nat.le_of_ble_eq_true rfl) (Nat.le_of_ble_eq_true rfl)
    · have hP : va_P (dC, dI) vwCl [(eO11a x pa bk xsp xdy le xst xsc xim xil xik xmo xom wi), (eO0a bk bto bnm bla bsk bru bbo bdi bda bdk bdt bdp bno), (eA0 bto cTo 5 fTo), (eA4 bla cLa 4 (fun k => some (La k))), (eO1a (La 0) (FI 0) (GR 0) (FR 0)), ((La a0.toNatClampNeg), .inr (1, [.int (FI a0.toNatClampNeg), .int (GR a0.toNatClampNeg), .int (FR a0.toNatClampNeg)])), (eO1a (La 2) (FI 2) (GR 2) (FR 2)), (eO1a (La 3) (FI 3) (GR 3) (FR 3))] H := by rw [hk]; exact hP
      have hD : va_D A [(eO11a x pa bk xsp xdy le xst xsc xim xil xik xmo xom wi), (eO0a bk bto bnm bla bsk bru bbo bdi bda bdk bdt bdp bno), (eA0 bto cTo 5 fTo), (eA4 bla cLa 4 (fun k => some (La k))), (eO1a (La 0) (FI 0) (GR 0) (FR 0)), ((La a0.toNatClampNeg), .inr (1, [.int (FI a0.toNatClampNeg), .int (GR a0.toNatClampNeg), .int (FR a0.toNatClampNeg)])), (eO1a (La 2) (FI 2) (GR 2) (FR 2)), (eO1a (La 3) (FI 3) (GR 3) (FR 3))] := by rw [hk]; exact hD
      refine lv_iload_n hx hb dX11_look_23 rfl (lv_at hl 3 rfl) ?_
      by_cases h_6 : a1 = 0
      · refine lv_tableIn (off := 28) (tgt := 52) hx hb dX11_look_24 (by rw [h_6]; decide) (by rw [h_6]; decide) (by rw [h_6]; decide) (by decide) ?_
        refine lv_aload_n hx hb dX11_look_52 rfl (lv_at hl 0 rfl) ?_
        refine va_get (D := (dC, dI)) (ci := 1) (v := .int (FI a0.toNatClampNeg)) (C := RX1) (T := TX1) (N := 3) hx hb htw inlX1 hown hK hP 5 rfl rfl 0 (by decide) (htw _ (ck_33 _ (List.mem_of_getElem? (i := 18) rfl))) (fun _ h9 => h9) rfl dX11_look_53 ?_
        have hP : va_P (dC, dI) vwCl [(eO11a x pa bk xsp xdy le xst xsc xim xil xik xmo xom wi), (eO0a bk bto bnm bla bsk bru bbo bdi bda bdk bdt bdp bno), (eA0 bto cTo 5 fTo), (eA4 bla cLa 4 (fun k => some (La k))), (eO1a (La 0) (FI 0) (GR 0) (FR 0)), (eO1a (La 1) (FI 1) (GR 1) (FR 1)), (eO1a (La 2) (FI 2) (GR 2) (FR 2)), (eO1a (La 3) (FI 3) (GR 3) (FR 3))] H := by subst hk; exact hP
        have hD : va_D A [(eO11a x pa bk xsp xdy le xst xsc xim xil xik xmo xom wi), (eO0a bk bto bnm bla bsk bru bbo bdi bda bdk bdt bdp bno), (eA0 bto cTo 5 fTo), (eA4 bla cLa 4 (fun k => some (La k))), (eO1a (La 0) (FI 0) (GR 0) (FR 0)), (eO1a (La 1) (FI 1) (GR 1) (FR 1)), (eO1a (La 2) (FI 2) (GR 2) (FR 2)), (eO1a (La 3) (FI 3) (GR 3) (FR 3))] := by subst hk; exact hD
        refine xs_size (fun hHz => ?_)
        refine vx_ret ?_
        refine W.widen (k := 1) (n := 6) (by omega) (by omega) ?_
        have hP9 := hP
        have hD9 := hD
        have hK9 := hK.sub (tys' := []) [] rfl
        exact W.iret (v := (FI a0.toNatClampNeg)) hx hb hr (fun t ht hW => ⟨⟨(FI a0.toNatClampNeg), (), rfl, ((fun e9 => ⟨by rw [e9], by rw [e9]⟩ : fx_look fTo FI GR FR a0 a1 = ((0 : Int32), (FI a0.toNatClampNeg)) → _) ((by rw [fx_look]; (try rw [if_neg hz_2]); (try rw [if_pos h_6]); try rfl))), ⟨by rw [ht]; exact hP9, va_K.moved hW.alike hK9, hD9⟩, by rw [ht] <;> first | exact hHz | exact hHz.trans (by rw [rH])⟩, hS.F ht⟩) hS.2.2 dX11_look_56
      by_cases h_7 : a1 = 1
      · refine lv_tableIn (off := 33) (tgt := 57) hx hb dX11_look_24 (by rw [h_7]; decide) (by rw [h_7]; decide) (by rw [h_7]; decide) (by decide) ?_
        refine lv_aload_n hx hb dX11_look_57 rfl (lv_at hl 0 rfl) ?_
        refine va_get (D := (dC, dI)) (ci := 1) (v := .int (GR a0.toNatClampNeg)) (C := RX1) (T := TX1) (N := 3) hx hb htw inlX1 hown hK hP 5 rfl rfl 1 (by decide) (htw _ (ck_33 _ (List.mem_of_getElem? (i := 19) rfl))) (fun _ h9 => h9) rfl dX11_look_58 ?_
        have hP : va_P (dC, dI) vwCl [(eO11a x pa bk xsp xdy le xst xsc xim xil xik xmo xom wi), (eO0a bk bto bnm bla bsk bru bbo bdi bda bdk bdt bdp bno), (eA0 bto cTo 5 fTo), (eA4 bla cLa 4 (fun k => some (La k))), (eO1a (La 0) (FI 0) (GR 0) (FR 0)), (eO1a (La 1) (FI 1) (GR 1) (FR 1)), (eO1a (La 2) (FI 2) (GR 2) (FR 2)), (eO1a (La 3) (FI 3) (GR 3) (FR 3))] H := by subst hk; exact hP
        have hD : va_D A [(eO11a x pa bk xsp xdy le xst xsc xim xil xik xmo xom wi), (eO0a bk bto bnm bla bsk bru bbo bdi bda bdk bdt bdp bno), (eA0 bto cTo 5 fTo), (eA4 bla cLa 4 (fun k => some (La k))), (eO1a (La 0) (FI 0) (GR 0) (FR 0)), (eO1a (La 1) (FI 1) (GR 1) (FR 1)), (eO1a (La 2) (FI 2) (GR 2) (FR 2)), (eO1a (La 3) (FI 3) (GR 3) (FR 3))] := by subst hk; exact hD
        refine xs_size (fun hHz => ?_)
        refine vx_ret ?_
        refine W.widen (k := 1) (n := 6) (by omega) (by omega) ?_
        have hP9 := hP
        have hD9 := hD
        have hK9 := hK.sub (tys' := []) [] rfl
        exact W.iret (v := (GR a0.toNatClampNeg)) hx hb hr (fun t ht hW => ⟨⟨(GR a0.toNatClampNeg), (), rfl, ((fun e9 => ⟨by rw [e9], by rw [e9]⟩ : fx_look fTo FI GR FR a0 a1 = ((0 : Int32), (GR a0.toNatClampNeg)) → _) ((by rw [fx_look]; (try rw [if_neg hz_2]); (try rw [if_neg h_6]); (try rw [if_pos h_7]); try rfl))), ⟨by rw [ht]; exact hP9, va_K.moved hW.alike hK9, hD9⟩, by rw [ht] <;> first | exact hHz | exact hHz.trans (by rw [rH])⟩, hS.F ht⟩) hS.2.2 dX11_look_61
      by_cases h_8 : a1 = 2
      · refine lv_tableIn (off := 38) (tgt := 62) hx hb dX11_look_24 (by rw [h_8]; decide) (by rw [h_8]; decide) (by rw [h_8]; decide) (by decide) ?_
        refine lv_aload_n hx hb dX11_look_62 rfl (lv_at hl 0 rfl) ?_
        refine va_get (D := (dC, dI)) (ci := 1) (v := .int (FR a0.toNatClampNeg)) (C := RX1) (T := TX1) (N := 3) hx hb htw inlX1 hown hK hP 5 rfl rfl 2 (by decide) (htw _ (ck_33 _ (List.mem_of_getElem? (i := 20) rfl))) (fun _ h9 => h9) rfl dX11_look_63 ?_
        have hP : va_P (dC, dI) vwCl [(eO11a x pa bk xsp xdy le xst xsc xim xil xik xmo xom wi), (eO0a bk bto bnm bla bsk bru bbo bdi bda bdk bdt bdp bno), (eA0 bto cTo 5 fTo), (eA4 bla cLa 4 (fun k => some (La k))), (eO1a (La 0) (FI 0) (GR 0) (FR 0)), (eO1a (La 1) (FI 1) (GR 1) (FR 1)), (eO1a (La 2) (FI 2) (GR 2) (FR 2)), (eO1a (La 3) (FI 3) (GR 3) (FR 3))] H := by subst hk; exact hP
        have hD : va_D A [(eO11a x pa bk xsp xdy le xst xsc xim xil xik xmo xom wi), (eO0a bk bto bnm bla bsk bru bbo bdi bda bdk bdt bdp bno), (eA0 bto cTo 5 fTo), (eA4 bla cLa 4 (fun k => some (La k))), (eO1a (La 0) (FI 0) (GR 0) (FR 0)), (eO1a (La 1) (FI 1) (GR 1) (FR 1)), (eO1a (La 2) (FI 2) (GR 2) (FR 2)), (eO1a (La 3) (FI 3) (GR 3) (FR 3))] := by subst hk; exact hD
        refine xs_size (fun hHz => ?_)
        refine vx_ret ?_
        refine W.widen (k := 1) (n := 6) (by omega) (by omega) ?_
        have hP9 := hP
        have hD9 := hD
        have hK9 := hK.sub (tys' := []) [] rfl
        exact W.iret (v := (FR a0.toNatClampNeg)) hx hb hr (fun t ht hW => ⟨⟨(FR a0.toNatClampNeg), (), rfl, ((fun e9 => ⟨by rw [e9], by rw [e9]⟩ : fx_look fTo FI GR FR a0 a1 = ((0 : Int32), (FR a0.toNatClampNeg)) → _) ((by rw [fx_look]; (try rw [if_neg hz_2]); (try rw [if_neg h_6]); (try rw [if_neg h_7]); (try rw [if_pos h_8]); try rfl))), ⟨by rw [ht]; exact hP9, va_K.moved hW.alike hK9, hD9⟩, by rw [ht] <;> first | exact hHz | exact hHz.trans (by rw [rH])⟩, hS.F ht⟩) hS.2.2 dX11_look_66
      refine lv_tableOut (tgt := 67) hx hb dX11_look_24 (by have a0 := xg_ne h_6; have a1 := xg_ne h_7; have a2 := xg_ne h_8; have b0 : (0 : Int32).toInt = 0 := rfl; have b1 : (1 : Int32).toInt = 1 := rfl; have b2 : (2 : Int32).toInt = 2 := rfl; omega) (by decide) ?_
      have hP : va_P (dC, dI) vwCl [(eO11a x pa bk xsp xdy le xst xsc xim xil xik xmo xom wi), (eO0a bk bto bnm bla bsk bru bbo bdi bda bdk bdt bdp bno), (eA0 bto cTo 5 fTo), (eA4 bla cLa 4 (fun k => some (La k))), (eO1a (La 0) (FI 0) (GR 0) (FR 0)), (eO1a (La 1) (FI 1) (GR 1) (FR 1)), (eO1a (La 2) (FI 2) (GR 2) (FR 2)), (eO1a (La 3) (FI 3) (GR 3) (FR 3))] H := by subst hk; exact hP
      have hD : va_D A [(eO11a x pa bk xsp xdy le xst xsc xim xil xik xmo xom wi), (eO0a bk bto bnm bla bsk bru bbo bdi bda bdk bdt bdp bno), (eA0 bto cTo 5 fTo), (eA4 bla cLa 4 (fun k => some (La k))), (eO1a (La 0) (FI 0) (GR 0) (FR 0)), (eO1a (La 1) (FI 1) (GR 1) (FR 1)), (eO1a (La 2) (FI 2) (GR 2) (FR 2)), (eO1a (La 3) (FI 3) (GR 3) (FR 3))] := by subst hk; exact hD
      have hP9 := hP
      have hD9 := hD
      have hK9 := hK.sub (tys' := []) [] rfl
      exact vx_throwN (sa := sL 1) (text := "no such what") (ik := 134) (is := 136) (A := A) hx hb hst hown (htw _ (ck_33 _ (List.mem_of_getElem? (i := 16) rfl))) (htw _ (ck_33 _ (List.mem_of_getElem? (i := 17) rfl))) hXL.2.1 hXL.2.hat xkN_ot hXL.2.2.1 hXL.2.2.2.1 hS (by rw [hml]; exact hl.1) dX11_look_67 dX11_look_70 dX11_look_71 dX11_look_73 dX11_look_76 (fun x hx9 => (hex x hx9).elim) (Nat.le_of_ble_eq_true rfl) (Nat.le_of_ble_eq_true rfl) (Nat.le_of_ble_eq_true rfl) (Nat.le_of_ble_eq_true rfl) hlocks (fun t hal hsz9 hk9 => ⟨(), trivial, ⟨((fun e9 => Or.inr ⟨by rw [e9], rfl⟩ : fx_look fTo FI GR FR a0 a1 = ((2 : Int32), (0 : Int32)) → _) ((by rw [fx_look]; (try rw [if_neg hz_2]); (try rw [if_neg h_6]); (try rw [if_neg h_7]); (try rw [if_neg h_8]); try rfl))), xs_ext hP9 hk9, va_K.moved hal hK9, hD9⟩, Nat.le_trans hS.1 hsz9, fun q h1 h2 => (hk9 q (Nat.lt_of_lt_of_le h1 hS.1)).trans (hS.2.1 q h1 h2)⟩) hS.2.2 (Nat.le_of_ble_eq_true rfl) (Nat.le_of_ble_eq_true rfl)
    · have hP : va_P (dC, dI) vwCl [(eO11a x pa bk xsp xdy le xst xsc xim xil xik xmo xom wi), (eO0a bk bto bnm bla bsk bru bbo bdi bda bdk bdt bdp bno), (eA0 bto cTo 5 fTo), (eA4 bla cLa 4 (fun k => some (La k))), (eO1a (La 0) (FI 0) (GR 0) (FR 0)), (eO1a (La 1) (FI 1) (GR 1) (FR 1)), ((La a0.toNatClampNeg), .inr (1, [.int (FI a0.toNatClampNeg), .int (GR a0.toNatClampNeg), .int (FR a0.toNatClampNeg)])), (eO1a (La 3) (FI 3) (GR 3) (FR 3))] H := by rw [hk]; exact hP
      have hD : va_D A [(eO11a x pa bk xsp xdy le xst xsc xim xil xik xmo xom wi), (eO0a bk bto bnm bla bsk bru bbo bdi bda bdk bdt bdp bno), (eA0 bto cTo 5 fTo), (eA4 bla cLa 4 (fun k => some (La k))), (eO1a (La 0) (FI 0) (GR 0) (FR 0)), (eO1a (La 1) (FI 1) (GR 1) (FR 1)), ((La a0.toNatClampNeg), .inr (1, [.int (FI a0.toNatClampNeg), .int (GR a0.toNatClampNeg), .int (FR a0.toNatClampNeg)])), (eO1a (La 3) (FI 3) (GR 3) (FR 3))] := by rw [hk]; exact hD
      refine lv_iload_n hx hb dX11_look_23 rfl (lv_at hl 3 rfl) ?_
      by_cases h_9 : a1 = 0
      · refine lv_tableIn (off := 28) (tgt := 52) hx hb dX11_look_24 (by rw [h_9]; decide) (by rw [h_9]; decide) (by rw [h_9]; decide) (by decide) ?_
        refine lv_aload_n hx hb dX11_look_52 rfl (lv_at hl 0 rfl) ?_
        refine va_get (D := (dC, dI)) (ci := 1) (v := .int (FI a0.toNatClampNeg)) (C := RX1) (T := TX1) (N := 3) hx hb htw inlX1 hown hK hP 6 rfl rfl 0 (by decide) (htw _ (ck_33 _ (List.mem_of_getElem? (i := 18) rfl))) (fun _ h9 => h9) rfl dX11_look_53 ?_
        have hP : va_P (dC, dI) vwCl [(eO11a x pa bk xsp xdy le xst xsc xim xil xik xmo xom wi), (eO0a bk bto bnm bla bsk bru bbo bdi bda bdk bdt bdp bno), (eA0 bto cTo 5 fTo), (eA4 bla cLa 4 (fun k => some (La k))), (eO1a (La 0) (FI 0) (GR 0) (FR 0)), (eO1a (La 1) (FI 1) (GR 1) (FR 1)), (eO1a (La 2) (FI 2) (GR 2) (FR 2)), (eO1a (La 3) (FI 3) (GR 3) (FR 3))] H := by subst hk; exact hP
        have hD : va_D A [(eO11a x pa bk xsp xdy le xst xsc xim xil xik xmo xom wi), (eO0a bk bto bnm bla bsk bru bbo bdi bda bdk bdt bdp bno), (eA0 bto cTo 5 fTo), (eA4 bla cLa 4 (fun k => some (La k))), (eO1a (La 0) (FI 0) (GR 0) (FR 0)), (eO1a (La 1) (FI 1) (GR 1) (FR 1)), (eO1a (La 2) (FI 2) (GR 2) (FR 2)), (eO1a (La 3) (FI 3) (GR 3) (FR 3))] := by subst hk; exact hD
        refine xs_size (fun hHz => ?_)
        refine vx_ret ?_
        refine W.widen (k := 1) (n := 6) (by omega) (by omega) ?_
        have hP9 := hP
        have hD9 := hD
        have hK9 := hK.sub (tys' := []) [] rfl
        exact W.iret (v := (FI a0.toNatClampNeg)) hx hb hr (fun t ht hW => ⟨⟨(FI a0.toNatClampNeg), (), rfl, ((fun e9 => ⟨by rw [e9], by rw [e9]⟩ : fx_look fTo FI GR FR a0 a1 = ((0 : Int32), (FI a0.toNatClampNeg)) → _) ((by rw [fx_look]; (try rw [if_neg hz_2]); (try rw [if_pos h_9]); try rfl))), ⟨by rw [ht]; exact hP9, va_K.moved hW.alike hK9, hD9⟩, by rw [ht] <;> first | exact hHz | exact hHz.trans (by rw [rH])⟩, hS.F ht⟩) hS.2.2 dX11_look_56
      by_cases h_10 : a1 = 1
      · refine lv_tableIn (off := 33) (tgt := 57) hx hb dX11_look_24 (by rw [h_10]; decide) (by rw [h_10]; decide) (by rw [h_10]; decide) (by decide) ?_
        refine lv_aload_n hx hb dX11_look_57 rfl (lv_at hl 0 rfl) ?_
        refine va_get (D := (dC, dI)) (ci := 1) (v := .int (GR a0.toNatClampNeg)) (C := RX1) (T := TX1) (N := 3) hx hb htw inlX1 hown hK hP 6 rfl rfl 1 (by decide) (htw _ (ck_33 _ (List.mem_of_getElem? (i := 19) rfl))) (fun _ h9 => h9) rfl dX11_look_58 ?_
        have hP : va_P (dC, dI) vwCl [(eO11a x pa bk xsp xdy le xst xsc xim xil xik xmo xom wi), (eO0a bk bto bnm bla bsk bru bbo bdi bda bdk bdt bdp bno), (eA0 bto cTo 5 fTo), (eA4 bla cLa 4 (fun k => some (La k))), (eO1a (La 0) (FI 0) (GR 0) (FR 0)), (eO1a (La 1) (FI 1) (GR 1) (FR 1)), (eO1a (La 2) (FI 2) (GR 2) (FR 2)), (eO1a (La 3) (FI 3) (GR 3) (FR 3))] H := by subst hk; exact hP
        have hD : va_D A [(eO11a x pa bk xsp xdy le xst xsc xim xil xik xmo xom wi), (eO0a bk bto bnm bla bsk bru bbo bdi bda bdk bdt bdp bno), (eA0 bto cTo 5 fTo), (eA4 bla cLa 4 (fun k => some (La k))), (eO1a (La 0) (FI 0) (GR 0) (FR 0)), (eO1a (La 1) (FI 1) (GR 1) (FR 1)), (eO1a (La 2) (FI 2) (GR 2) (FR 2)), (eO1a (La 3) (FI 3) (GR 3) (FR 3))] := by subst hk; exact hD
        refine xs_size (fun hHz => ?_)
        refine vx_ret ?_
        refine W.widen (k := 1) (n := 6) (by omega) (by omega) ?_
        have hP9 := hP
        have hD9 := hD
        have hK9 := hK.sub (tys' := []) [] rfl
        exact W.iret (v := (GR a0.toNatClampNeg)) hx hb hr (fun t ht hW => ⟨⟨(GR a0.toNatClampNeg), (), rfl, ((fun e9 => ⟨by rw [e9], by rw [e9]⟩ : fx_look fTo FI GR FR a0 a1 = ((0 : Int32), (GR a0.toNatClampNeg)) → _) ((by rw [fx_look]; (try rw [if_neg hz_2]); (try rw [if_neg h_9]); (try rw [if_pos h_10]); try rfl))), ⟨by rw [ht]; exact hP9, va_K.moved hW.alike hK9, hD9⟩, by rw [ht] <;> first | exact hHz | exact hHz.trans (by rw [rH])⟩, hS.F ht⟩) hS.2.2 dX11_look_61
      by_cases h_11 : a1 = 2
      · refine lv_tableIn (off := 38) (tgt := 62) hx hb dX11_look_24 (by rw [h_11]; decide) (by rw [h_11]; decide) (by rw [h_11]; decide) (by decide) ?_
        refine lv_aload_n hx hb dX11_look_62 rfl (lv_at hl 0 rfl) ?_
        refine va_get (D := (dC, dI)) (ci := 1) (v := .int (FR a0.toNatClampNeg)) (C := RX1) (T := TX1) (N := 3) hx hb htw inlX1 hown hK hP 6 rfl rfl 2 (by decide) (htw _ (ck_33 _ (List.mem_of_getElem? (i := 20) rfl))) (fun _ h9 => h9) rfl dX11_look_63 ?_
        have hP : va_P (dC, dI) vwCl [(eO11a x pa bk xsp xdy le xst xsc xim xil xik xmo xom wi), (eO0a bk bto bnm bla bsk bru bbo bdi bda bdk bdt bdp bno), (eA0 bto cTo 5 fTo), (eA4 bla cLa 4 (fun k => some (La k))), (eO1a (La 0) (FI 0) (GR 0) (FR 0)), (eO1a (La 1) (FI 1) (GR 1) (FR 1)), (eO1a (La 2) (FI 2) (GR 2) (FR 2)), (eO1a (La 3) (FI 3) (GR 3) (FR 3))] H := by subst hk; exact hP
        have hD : va_D A [(eO11a x pa bk xsp xdy le xst xsc xim xil xik xmo xom wi), (eO0a bk bto bnm bla bsk bru bbo bdi bda bdk bdt bdp bno), (eA0 bto cTo 5 fTo), (eA4 bla cLa 4 (fun k => some (La k))), (eO1a (La 0) (FI 0) (GR 0) (FR 0)), (eO1a (La 1) (FI 1) (GR 1) (FR 1)), (eO1a (La 2) (FI 2) (GR 2) (FR 2)), (eO1a (La 3) (FI 3) (GR 3) (FR 3))] := by subst hk; exact hD
        refine xs_size (fun hHz => ?_)
        refine vx_ret ?_
        refine W.widen (k := 1) (n := 6) (by omega) (by omega) ?_
        have hP9 := hP
        have hD9 := hD
        have hK9 := hK.sub (tys' := []) [] rfl
        exact W.iret (v := (FR a0.toNatClampNeg)) hx hb hr (fun t ht hW => ⟨⟨(FR a0.toNatClampNeg), (), rfl, ((fun e9 => ⟨by rw [e9], by rw [e9]⟩ : fx_look fTo FI GR FR a0 a1 = ((0 : Int32), (FR a0.toNatClampNeg)) → _) ((by rw [fx_look]; (try rw [if_neg hz_2]); (try rw [if_neg h_9]); (try rw [if_neg h_10]); (try rw [if_pos h_11]); try rfl))), ⟨by rw [ht]; exact hP9, va_K.moved hW.alike hK9, hD9⟩, by rw [ht] <;> first | exact hHz | exact hHz.trans (by rw [rH])⟩, hS.F ht⟩) hS.2.2 dX11_look_66
      refine lv_tableOut (tgt := 67) hx hb dX11_look_24 (by have a0 := xg_ne h_9; have a1 := xg_ne h_10; have a2 := xg_ne h_11; have b0 : (0 : Int32).toInt = 0 := rfl; have b1 : (1 : Int32).toInt = 1 := rfl; have b2 : (2 : Int32).toInt = 2 := rfl; omega) (by decide) ?_
      have hP : va_P (dC, dI) vwCl [(eO11a x pa bk xsp xdy le xst xsc xim xil xik xmo xom wi), (eO0a bk bto bnm bla bsk bru bbo bdi bda bdk bdt bdp bno), (eA0 bto cTo 5 fTo), (eA4 bla cLa 4 (fun k => some (La k))), (eO1a (La 0) (FI 0) (GR 0) (FR 0)), (eO1a (La 1) (FI 1) (GR 1) (FR 1)), (eO1a (La 2) (FI 2) (GR 2) (FR 2)), (eO1a (La 3) (FI 3) (GR 3) (FR 3))] H := by subst hk; exact hP
      have hD : va_D A [(eO11a x pa bk xsp xdy le xst xsc xim xil xik xmo xom wi), (eO0a bk bto bnm bla bsk bru bbo bdi bda bdk bdt bdp bno), (eA0 bto cTo 5 fTo), (eA4 bla cLa 4 (fun k => some (La k))), (eO1a (La 0) (FI 0) (GR 0) (FR 0)), (eO1a (La 1) (FI 1) (GR 1) (FR 1)), (eO1a (La 2) (FI 2) (GR 2) (FR 2)), (eO1a (La 3) (FI 3) (GR 3) (FR 3))] := by subst hk; exact hD
      have hP9 := hP
      have hD9 := hD
      have hK9 := hK.sub (tys' := []) [] rfl
      exact vx_throwN (sa := sL 1) (text := "no such what") (ik := 134) (is := 136) (A := A) hx hb hst hown (htw _ (ck_33 _ (List.mem_of_getElem? (i := 16) rfl))) (htw _ (ck_33 _ (List.mem_of_getElem? (i := 17) rfl))) hXL.2.1 hXL.2.hat xkN_ot hXL.2.2.1 hXL.2.2.2.1 hS (by rw [hml]; exact hl.1) dX11_look_67 dX11_look_70 dX11_look_71 dX11_look_73 dX11_look_76 (fun x hx9 => (hex x hx9).elim) (Nat.le_of_ble_eq_true rfl) (Nat.le_of_ble_eq_true rfl) (Nat.le_of_ble_eq_true rfl) (Nat.le_of_ble_eq_true rfl) hlocks (fun t hal hsz9 hk9 => ⟨(), trivial, ⟨((fun e9 => Or.inr ⟨by rw [e9], rfl⟩ : fx_look fTo FI GR FR a0 a1 = ((2 : Int32), (0 : Int32)) → _) ((by rw [fx_look]; (try rw [if_neg hz_2]); (try rw [if_neg h_9]); (try rw [if_neg h_10]); (try rw [if_neg h_11]); try rfl))), xs_ext hP9 hk9, va_K.moved hal hK9, hD9⟩, Nat.le_trans hS.1 hsz9, fun q h1 h2 => (hk9 q (Nat.lt_of_lt_of_le h1 hS.1)).trans (hS.2.1 q h1 h2)⟩) hS.2.2 (Nat.le_of_ble_eq_true rfl) (Nat.le_of_ble_eq_true rfl)
    · have hP : va_P (dC, dI) vwCl [(eO11a x pa bk xsp xdy le xst xsc xim xil xik xmo xom wi), (eO0a bk bto bnm bla bsk bru bbo bdi bda bdk bdt bdp bno), (eA0 bto cTo 5 fTo), (eA4 bla cLa 4 (fun k => some (La k))), (eO1a (La 0) (FI 0) (GR 0) (FR 0)), (eO1a (La 1) (FI 1) (GR 1) (FR 1)), (eO1a (La 2) (FI 2) (GR 2) (FR 2)), ((La a0.toNatClampNeg), .inr (1, [.int (FI a0.toNatClampNeg), .int (GR a0.toNatClampNeg), .int (FR a0.toNatClampNeg)]))] H := by rw [hk]; exact hP
      have hD : va_D A [(eO11a x pa bk xsp xdy le xst xsc xim xil xik xmo xom wi), (eO0a bk bto bnm bla bsk bru bbo bdi bda bdk bdt bdp bno), (eA0 bto cTo 5 fTo), (eA4 bla cLa 4 (fun k => some (La k))), (eO1a (La 0) (FI 0) (GR 0) (FR 0)), (eO1a (La 1) (FI 1) (GR 1) (FR 1)), (eO1a (La 2) (FI 2) (GR 2) (FR 2)), ((La a0.toNatClampNeg), .inr (1, [.int (FI a0.toNatClampNeg), .int (GR a0.toNatClampNeg), .int (FR a0.toNatClampNeg)]))] := by rw [hk]; exact hD
      refine lv_iload_n hx hb dX11_look_23 rfl (lv_at hl 3 rfl) ?_
      by_cases h_12 : a1 = 0
      · refine lv_tableIn (off := 28) (tgt := 52) hx hb dX11_look_24 (by rw [h_12]; decide) (by rw [h_12]; decide) (by rw [h_12]; decide) (by decide) ?_
        refine lv_aload_n hx hb dX11_look_52 rfl (lv_at hl 0 rfl) ?_
        refine va_get (D := (dC, dI)) (ci := 1) (v := .int (FI a0.toNatClampNeg)) (C := RX1) (T := TX1) (N := 3) hx hb htw inlX1 hown hK hP 7 rfl rfl 0 (by decide) (htw _ (ck_33 _ (List.mem_of_getElem? (i := 18) rfl))) (fun _ h9 => h9) rfl dX11_look_53 ?_
        have hP : va_P (dC, dI) vwCl [(eO11a x pa bk xsp xdy le xst xsc xim xil xik xmo xom wi), (eO0a bk bto bnm bla bsk bru bbo bdi bda bdk bdt bdp bno), (eA0 bto cTo 5 fTo), (eA4 bla cLa 4 (fun k => some (La k))), (eO1a (La 0) (FI 0) (GR 0) (FR 0)), (eO1a (La 1) (FI 1) (GR 1) (FR 1)), (eO1a (La 2) (FI 2) (GR 2) (FR 2)), (eO1a (La 3) (FI 3) (GR 3) (FR 3))] H := by subst hk; exact hP
        have hD : va_D A [(eO11a x pa bk xsp xdy le xst xsc xim xil xik xmo xom wi), (eO0a bk bto bnm bla bsk bru bbo bdi bda bdk bdt bdp bno), (eA0 bto cTo 5 fTo), (eA4 bla cLa 4 (fun k => some (La k))), (eO1a (La 0) (FI 0) (GR 0) (FR 0)), (eO1a (La 1) (FI 1) (GR 1) (FR 1)), (eO1a (La 2) (FI 2) (GR 2) (FR 2)), (eO1a (La 3) (FI 3) (GR 3) (FR 3))] := by subst hk; exact hD
        refine xs_size (fun hHz => ?_)
        refine vx_ret ?_
        refine W.widen (k := 1) (n := 6) (by omega) (by omega) ?_
        have hP9 := hP
        have hD9 := hD
        have hK9 := hK.sub (tys' := []) [] rfl
        exact W.iret (v := (FI a0.toNatClampNeg)) hx hb hr (fun t ht hW => ⟨⟨(FI a0.toNatClampNeg), (), rfl, ((fun e9 => ⟨by rw [e9], by rw [e9]⟩ : fx_look fTo FI GR FR a0 a1 = ((0 : Int32), (FI a0.toNatClampNeg)) → _) ((by rw [fx_look]; (try rw [if_neg hz_2]); (try rw [if_pos h_12]); try rfl))), ⟨by rw [ht]; exact hP9, va_K.moved hW.alike hK9, hD9⟩, by rw [ht] <;> first | exact hHz | exact hHz.trans (by rw [rH])⟩, hS.F ht⟩) hS.2.2 dX11_look_56
      by_cases h_13 : a1 = 1
      · refine lv_tableIn (off := 33) (tgt := 57) hx hb dX11_look_24 (by rw [h_13]; decide) (by rw [h_13]; decide) (by rw [h_13]; decide) (by decide) ?_
        refine lv_aload_n hx hb dX11_look_57 rfl (lv_at hl 0 rfl) ?_
        refine va_get (D := (dC, dI)) (ci := 1) (v := .int (GR a0.toNatClampNeg)) (C := RX1) (T := TX1) (N := 3) hx hb htw inlX1 hown hK hP 7 rfl rfl 1 (by decide) (htw _ (ck_33 _ (List.mem_of_getElem? (i := 19) rfl))) (fun _ h9 => h9) rfl dX11_look_58 ?_
        have hP : va_P (dC, dI) vwCl [(eO11a x pa bk xsp xdy le xst xsc xim xil xik xmo xom wi), (eO0a bk bto bnm bla bsk bru bbo bdi bda bdk bdt bdp bno), (eA0 bto cTo 5 fTo), (eA4 bla cLa 4 (fun k => some (La k))), (eO1a (La 0) (FI 0) (GR 0) (FR 0)), (eO1a (La 1) (FI 1) (GR 1) (FR 1)), (eO1a (La 2) (FI 2) (GR 2) (FR 2)), (eO1a (La 3) (FI 3) (GR 3) (FR 3))] H := by subst hk; exact hP
        have hD : va_D A [(eO11a x pa bk xsp xdy le xst xsc xim xil xik xmo xom wi), (eO0a bk bto bnm bla bsk bru bbo bdi bda bdk bdt bdp bno), (eA0 bto cTo 5 fTo), (eA4 bla cLa 4 (fun k => some (La k))), (eO1a (La 0) (FI 0) (GR 0) (FR 0)), (eO1a (La 1) (FI 1) (GR 1) (FR 1)), (eO1a (La 2) (FI 2) (GR 2) (FR 2)), (eO1a (La 3) (FI 3) (GR 3) (FR 3))] := by subst hk; exact hD
        refine xs_size (fun hHz => ?_)
        refine vx_ret ?_
        refine W.widen (k := 1) (n := 6) (by omega) (by omega) ?_
        have hP9 := hP
        have hD9 := hD
        have hK9 := hK.sub (tys' := []) [] rfl
        exact W.iret (v := (GR a0.toNatClampNeg)) hx hb hr (fun t ht hW => ⟨⟨(GR a0.toNatClampNeg), (), rfl, ((fun e9 => ⟨by rw [e9], by rw [e9]⟩ : fx_look fTo FI GR FR a0 a1 = ((0 : Int32), (GR a0.toNatClampNeg)) → _) ((by rw [fx_look]; (try rw [if_neg hz_2]); (try rw [if_neg h_12]); (try rw [if_pos h_13]); try rfl))), ⟨by rw [ht]; exact hP9, va_K.moved hW.alike hK9, hD9⟩, by rw [ht] <;> first | exact hHz | exact hHz.trans (by rw [rH])⟩, hS.F ht⟩) hS.2.2 dX11_look_61
      by_cases h_14 : a1 = 2
      · refine lv_tableIn (off := 38) (tgt := 62) hx hb dX11_look_24 (by rw [h_14]; decide) (by rw [h_14]; decide) (by rw [h_14]; decide) (by decide) ?_
        refine lv_aload_n hx hb dX11_look_62 rfl (lv_at hl 0 rfl) ?_
        refine va_get (D := (dC, dI)) (ci := 1) (v := .int (FR a0.toNatClampNeg)) (C := RX1) (T := TX1) (N := 3) hx hb htw inlX1 hown hK hP 7 rfl rfl 2 (by decide) (htw _ (ck_33 _ (List.mem_of_getElem? (i := 20) rfl))) (fun _ h9 => h9) rfl dX11_look_63 ?_
        have hP : va_P (dC, dI) vwCl [(eO11a x pa bk xsp xdy le xst xsc xim xil xik xmo xom wi), (eO0a bk bto bnm bla bsk bru bbo bdi bda bdk bdt bdp bno), (eA0 bto cTo 5 fTo), (eA4 bla cLa 4 (fun k => some (La k))), (eO1a (La 0) (FI 0) (GR 0) (FR 0)), (eO1a (La 1) (FI 1) (GR 1) (FR 1)), (eO1a (La 2) (FI 2) (GR 2) (FR 2)), (eO1a (La 3) (FI 3) (GR 3) (FR 3))] H := by subst hk; exact hP
        have hD : va_D A [(eO11a x pa bk xsp xdy le xst xsc xim xil xik xmo xom wi), (eO0a bk bto bnm bla bsk bru bbo bdi bda bdk bdt bdp bno), (eA0 bto cTo 5 fTo), (eA4 bla cLa 4 (fun k => some (La k))), (eO1a (La 0) (FI 0) (GR 0) (FR 0)), (eO1a (La 1) (FI 1) (GR 1) (FR 1)), (eO1a (La 2) (FI 2) (GR 2) (FR 2)), (eO1a (La 3) (FI 3) (GR 3) (FR 3))] := by subst hk; exact hD
        refine xs_size (fun hHz => ?_)
        refine vx_ret ?_
        refine W.widen (k := 1) (n := 6) (by omega) (by omega) ?_
        have hP9 := hP
        have hD9 := hD
        have hK9 := hK.sub (tys' := []) [] rfl
        exact W.iret (v := (FR a0.toNatClampNeg)) hx hb hr (fun t ht hW => ⟨⟨(FR a0.toNatClampNeg), (), rfl, ((fun e9 => ⟨by rw [e9], by rw [e9]⟩ : fx_look fTo FI GR FR a0 a1 = ((0 : Int32), (FR a0.toNatClampNeg)) → _) ((by rw [fx_look]; (try rw [if_neg hz_2]); (try rw [if_neg h_12]); (try rw [if_neg h_13]); (try rw [if_pos h_14]); try rfl))), ⟨by rw [ht]; exact hP9, va_K.moved hW.alike hK9, hD9⟩, by rw [ht] <;> first | exact hHz | exact hHz.trans (by rw [rH])⟩, hS.F ht⟩) hS.2.2 dX11_look_66
      refine lv_tableOut (tgt := 67) hx hb dX11_look_24 (by have a0 := xg_ne h_12; have a1 := xg_ne h_13; have a2 := xg_ne h_14; have b0 : (0 : Int32).toInt = 0 := rfl; have b1 : (1 : Int32).toInt = 1 := rfl; have b2 : (2 : Int32).toInt = 2 := rfl; omega) (by decide) ?_
      have hP : va_P (dC, dI) vwCl [(eO11a x pa bk xsp xdy le xst xsc xim xil xik xmo xom wi), (eO0a bk bto bnm bla bsk bru bbo bdi bda bdk bdt bdp bno), (eA0 bto cTo 5 fTo), (eA4 bla cLa 4 (fun k => some (La k))), (eO1a (La 0) (FI 0) (GR 0) (FR 0)), (eO1a (La 1) (FI 1) (GR 1) (FR 1)), (eO1a (La 2) (FI 2) (GR 2) (FR 2)), (eO1a (La 3) (FI 3) (GR 3) (FR 3))] H := by subst hk; exact hP
      have hD : va_D A [(eO11a x pa bk xsp xdy le xst xsc xim xil xik xmo xom wi), (eO0a bk bto bnm bla bsk bru bbo bdi bda bdk bdt bdp bno), (eA0 bto cTo 5 fTo), (eA4 bla cLa 4 (fun k => some (La k))), (eO1a (La 0) (FI 0) (GR 0) (FR 0)), (eO1a (La 1) (FI 1) (GR 1) (FR 1)), (eO1a (La 2) (FI 2) (GR 2) (FR 2)), (eO1a (La 3) (FI 3) (GR 3) (FR 3))] := by subst hk; exact hD
      have hP9 := hP
      have hD9 := hD
      have hK9 := hK.sub (tys' := []) [] rfl
      exact vx_throwN (sa := sL 1) (text := "no such what") (ik := 134) (is := 136) (A := A) hx hb hst hown (htw _ (ck_33 _ (List.mem_of_getElem? (i := 16) rfl))) (htw _ (ck_33 _ (List.mem_of_getElem? (i := 17) rfl))) hXL.2.1 hXL.2.hat xkN_ot hXL.2.2.1 hXL.2.2.2.1 hS (by rw [hml]; exact hl.1) dX11_look_67 dX11_look_70 dX11_look_71 dX11_look_73 dX11_look_76 (fun x hx9 => (hex x hx9).elim) (Nat.le_of_ble_eq_true rfl) (Nat.le_of_ble_eq_true rfl) (Nat.le_of_ble_eq_true rfl) (Nat.le_of_ble_eq_true rfl) hlocks (fun t hal hsz9 hk9 => ⟨(), trivial, ⟨((fun e9 => Or.inr ⟨by rw [e9], rfl⟩ : fx_look fTo FI GR FR a0 a1 = ((2 : Int32), (0 : Int32)) → _) ((by rw [fx_look]; (try rw [if_neg hz_2]); (try rw [if_neg h_12]); (try rw [if_neg h_13]); (try rw [if_neg h_14]); try rfl))), xs_ext hP9 hk9, va_K.moved hal hK9, hD9⟩, Nat.le_trans hS.1 hsz9, fun q h1 h2 => (hk9 q (Nat.lt_of_lt_of_le h1 hS.1)).trans (hS.2.1 q h1 h2)⟩) hS.2.2 (Nat.le_of_ble_eq_true rfl) (Nat.le_of_ble_eq_true rfl)
