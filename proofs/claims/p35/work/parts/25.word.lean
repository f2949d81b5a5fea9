def fe_readWord_c (lxe : Int32) (lxp : Int32) (fBy : Nat → Int32) : Nat → (Int32) → (Int32) → (Int32) × (Int32)
  | 0, L1c, lxa_c => (L1c, lxa_c)
  | n + 1, L1c, lxa_c => (if lxe ≤ lxa_c then (L1c, lxa_c) else (if fBy lxa_c.toNatClampNeg < 97 then (L1c, lxa_c) else (if 122 < fBy lxa_c.toNatClampNeg then (L1c, lxa_c) else (if 6 ≤ (lxa_c - lxp) then fe_readWord_c lxe lxp fBy n L1c (lxa_c + 1) else fe_readWord_c lxe lxp fBy n ((L1c <<< (5 &&& 31)) ||| (((fBy lxa_c.toNatClampNeg) - 97) + 1)) (lxa_c + 1)))))
def fe_readWord_d (lxp : Int32) (fCo : Nat → Int32) (L1cx : Int32) (lxa_cx : Int32) : Nat → (Int32) → (Int32) → (Int32) × (Int32) × (Int32)
  | 0, L2d, lxt_d => (lxt_d, lxa_cx, (L1cx <<< ((5 * (6 - (lxa_cx - lxp))) &&& 31)))
  | n + 1, L2d, lxt_d => (if 23 ≤ L2d then (lxt_d, lxa_cx, (L1cx <<< ((5 * (6 - (lxa_cx - lxp))) &&& 31))) else (if fCo L2d.toNatClampNeg = (L1cx <<< ((5 * (6 - (lxa_cx - lxp))) &&& 31)) then fe_readWord_d lxp fCo L1cx lxa_cx n (L2d + 1) L2d else fe_readWord_d lxp fCo L1cx lxa_cx n (L2d + 1) lxt_d))
def fe_readWord (lxe : Int32) (lxa : Int32) (lxp : Int32) (lxl : Int32) (fBy : Nat → Int32) (fCo : Nat → Int32) : (Int32) × (Int32) × (Int32) := (xL (fe_readWord_c lxe lxp fBy 900 (0 : Int32) lxa) (fun X_1 => (if (X_1.2 - lxp) ≤ 6 then fe_readWord_d lxp fCo X_1.1 X_1.2 23 (0 : Int32) (23 : Int32) else ((39 : Int32), X_1.2, lxl))))
theorem ge_readWord_s0 {y0 : Int32} (h0 : ¬ (23 ≤ y0)) (h1 : ¬ (y0 < 0)) : ¬ (y0 < 0) ∧ ¬ (23 ≤ y0) := ⟨h1, h0⟩
theorem ge_readWord_s1 {y0 : Int32} (h0 : ¬ (23 ≤ y0)) (h1 : ¬ (y0 < 0)) : ¬ ((y0 + 1) < 0) := by lia
theorem ge_readWord_s2 {y0 : Int32} (h0 : ¬ (23 ≤ y0)) (h1 : ¬ (y0 < 0)) : ¬ ((y0 + 1) < 0) := by lia
theorem ge_readWord_s3  : ¬ ((0 : Int32) < 0) := (by decide)
theorem ge_readWord_s4 {y0 : Int32} {y1 : Int32} (h0 : y1 ≤ y0) (h1 : ¬ (y0 < 0)) (h2 : y1 ≤ 900) : ¬ (y0 < 0) := h1
theorem ge_readWord_s5 {y0 : Int32} {y1 : Int32} (h0 : y1 ≤ y0) (h1 : ¬ (y0 < 0)) (h2 : y1 ≤ 900) : ¬ (y0 < 0) := h1
theorem ge_readWord_s6 {y0 : Int32} {y1 : Int32} (h0 : ¬ (y1 ≤ y0)) (h1 : ¬ (y0 < 0)) (h2 : y1 ≤ 900) : ¬ (y0 < 0) ∧ ¬ (900 ≤ y0) := by lia
theorem ge_readWord_s7 {y0 : Int32} {y1 : Int32} (h0 : ¬ (y1 ≤ y0)) (h1 : ¬ (y0 < 0)) (h2 : y1 ≤ 900) : ¬ (y0 < 0) := h1
theorem ge_readWord_s8 {y0 : Int32} {y1 : Int32} (h0 : ¬ (y1 ≤ y0)) (h1 : ¬ (y0 < 0)) (h2 : y1 ≤ 900) : ¬ (y0 < 0) ∧ ¬ (900 ≤ y0) := by lia
theorem ge_readWord_s9 {y0 : Int32} {y1 : Int32} (h0 : ¬ (y1 ≤ y0)) (h1 : ¬ (y0 < 0)) (h2 : y1 ≤ 900) : ¬ (y0 < 0) := h1
theorem ge_readWord_s10 {y0 : Int32} {y1 : Int32} {y2 : Int32} (h0 : ¬ (y1 ≤ y0)) (h1 : 6 ≤ (y0 - y2)) (h2 : ¬ (y0 < 0)) (h3 : y1 ≤ 900) : ¬ ((y0 + 1) < 0) := by lia
theorem ge_readWord_s11 {y0 : Int32} {y1 : Int32} {y2 : Int32} (h0 : ¬ (y1 ≤ y0)) (h1 : ¬ (6 ≤ (y0 - y2))) (h2 : ¬ (y0 < 0)) (h3 : y1 ≤ 900) : ¬ (y0 < 0) ∧ ¬ (900 ≤ y0) := by lia
theorem ge_readWord_s12 {y0 : Int32} {y1 : Int32} {y2 : Int32} (h0 : ¬ (y1 ≤ y0)) (h1 : ¬ (6 ≤ (y0 - y2))) (h2 : ¬ (y0 < 0)) (h3 : y1 ≤ 900) : ¬ ((y0 + 1) < 0) := by lia
theorem ge_readWord_s13 {y0 : Int32} (h0 : ¬ (y0 < 0)) : ¬ (y0 < 0) := h0
theorem dX3_readWord_0 : decode cX3_readWord 0 = .ok (.iconst 0, 1) := zk_3 (by decide +kernel)
theorem dX3_readWord_1 : decode cX3_readWord 1 = .ok (.istore_n 1, 1) := zk_60 (by decide +kernel)
theorem dX3_readWord_87 : decode cX3_readWord 87 = .ok (.aload_n 0, 1) := zk_42 (by decide +kernel)
theorem dX3_readWord_88 : decode cX3_readWord 88 = .ok (.getfield 44, 3) := zk_180 (by decide +kernel)
theorem dX3_readWord_91 : decode cX3_readWord 91 = .ok (.aload_n 0, 1) := zk_42 (by decide +kernel)
theorem dX3_readWord_92 : decode cX3_readWord 92 = .ok (.getfield 50, 3) := zk_180 (by decide +kernel)
theorem dX3_readWord_95 : decode cX3_readWord 95 = .ok (.isub, 1) := zk_100 (by decide +kernel)
theorem dX3_readWord_96 : decode cX3_readWord 96 = .ok (.bipush 6, 2) := zk_16 (by decide +kernel)
theorem dX3_readWord_98 : decode cX3_readWord 98 = .ok (.if_icmp .le 10, 3) := zk_164 (by decide +kernel)
theorem dX3_readWord_108 : decode cX3_readWord 108 = .ok (.aload_n 0, 1) := zk_42 (by decide +kernel)
theorem dX3_readWord_109 : decode cX3_readWord 109 = .ok (.iload_n 1, 1) := zk_27 (by decide +kernel)
theorem dX3_readWord_110 : decode cX3_readWord 110 = .ok (.iconst 5, 1) := zk_8 (by decide +kernel)
theorem dX3_readWord_111 : decode cX3_readWord 111 = .ok (.bipush 6, 2) := zk_16 (by decide +kernel)
theorem dX3_readWord_113 : decode cX3_readWord 113 = .ok (.aload_n 0, 1) := zk_42 (by decide +kernel)
theorem dX3_readWord_114 : decode cX3_readWord 114 = .ok (.getfield 44, 3) := zk_180 (by decide +kernel)
theorem dX3_readWord_117 : decode cX3_readWord 117 = .ok (.aload_n 0, 1) := zk_42 (by decide +kernel)
theorem dX3_readWord_118 : decode cX3_readWord 118 = .ok (.getfield 50, 3) := zk_180 (by decide +kernel)
theorem dX3_readWord_121 : decode cX3_readWord 121 = .ok (.isub, 1) := zk_100 (by decide +kernel)
theorem dX3_readWord_122 : decode cX3_readWord 122 = .ok (.isub, 1) := zk_100 (by decide +kernel)
theorem dX3_readWord_123 : decode cX3_readWord 123 = .ok (.imul, 1) := zk_104 (by decide +kernel)
theorem dX3_readWord_124 : decode cX3_readWord 124 = .ok (.ishl, 1) := zk_120 (by decide +kernel)
theorem dX3_readWord_125 : decode cX3_readWord 125 = .ok (.putfield 66, 3) := zk_181 (by decide +kernel)
theorem dX3_readWord_128 : decode cX3_readWord 128 = .ok (.aload_n 0, 1) := zk_42 (by decide +kernel)
theorem dX3_readWord_129 : decode cX3_readWord 129 = .ok (.bipush 23, 2) := zk_16 (by decide +kernel)
theorem dX3_readWord_131 : decode cX3_readWord 131 = .ok (.putfield 53, 3) := zk_181 (by decide +kernel)
theorem dX3_readWord_134 : decode cX3_readWord 134 = .ok (.iconst 0, 1) := zk_3 (by decide +kernel)
theorem dX3_readWord_135 : decode cX3_readWord 135 = .ok (.istore_n 2, 1) := zk_61 (by decide +kernel)
theorem dX3_readWord_136 : decode cX3_readWord 136 = .ok (.iload_n 2, 1) := zk_28 (by decide +kernel)
theorem dX3_readWord_137 : decode cX3_readWord 137 = .ok (.aload_n 0, 1) := zk_42 (by decide +kernel)
theorem dX3_readWord_138 : decode cX3_readWord 138 = .ok (.getfield 15, 3) := zk_180 (by decide +kernel)
theorem dX3_readWord_141 : decode cX3_readWord 141 = .ok (.arraylength, 1) := zk_190 (by decide +kernel)
theorem dX3_readWord_142 : decode cX3_readWord 142 = .ok (.if_icmp .ge 27, 3) := zk_162 (by decide +kernel)
theorem dX3_readWord_169 : decode cX3_readWord 169 = .ok (.return_, 1) := zk_177 (by decide +kernel)
theorem dX3_readWord_145 : decode cX3_readWord 145 = .ok (.aload_n 0, 1) := zk_42 (by decide +kernel)
theorem dX3_readWord_146 : decode cX3_readWord 146 = .ok (.getfield 15, 3) := zk_180 (by decide +kernel)
theorem dX3_readWord_149 : decode cX3_readWord 149 = .ok (.iload_n 2, 1) := zk_28 (by decide +kernel)
theorem dX3_readWord_150 : decode cX3_readWord 150 = .ok (.iaload, 1) := zk_46 (by decide +kernel)
theorem dX3_readWord_151 : decode cX3_readWord 151 = .ok (.aload_n 0, 1) := zk_42 (by decide +kernel)
theorem dX3_readWord_152 : decode cX3_readWord 152 = .ok (.getfield 66, 3) := zk_180 (by decide +kernel)
theorem dX3_readWord_155 : decode cX3_readWord 155 = .ok (.if_icmp .ne 8, 3) := zk_160 (by decide +kernel)
theorem dX3_readWord_163 : decode cX3_readWord 163 = .ok (.iinc 2 1, 3) := zk_132 (by decide +kernel)
theorem dX3_readWord_166 : decode cX3_readWord 166 = .ok (.goto (-30), 3) := zk_167 (by decide +kernel)
theorem dX3_readWord_158 : decode cX3_readWord 158 = .ok (.aload_n 0, 1) := zk_42 (by decide +kernel)
theorem dX3_readWord_159 : decode cX3_readWord 159 = .ok (.iload_n 2, 1) := zk_28 (by decide +kernel)
theorem dX3_readWord_160 : decode cX3_readWord 160 = .ok (.putfield 53, 3) := zk_181 (by decide +kernel)
theorem dX3_readWord_101 : decode cX3_readWord 101 = .ok (.aload_n 0, 1) := zk_42 (by decide +kernel)
theorem dX3_readWord_102 : decode cX3_readWord 102 = .ok (.bipush 39, 2) := zk_16 (by decide +kernel)
theorem dX3_readWord_104 : decode cX3_readWord 104 = .ok (.putfield 53, 3) := zk_181 (by decide +kernel)
theorem dX3_readWord_107 : decode cX3_readWord 107 = .ok (.return_, 1) := zk_177 (by decide +kernel)
theorem dX3_readWord_2 : decode cX3_readWord 2 = .ok (.aload_n 0, 1) := zk_42 (by decide +kernel)
theorem dX3_readWord_3 : decode cX3_readWord 3 = .ok (.getfield 44, 3) := zk_180 (by decide +kernel)
theorem dX3_readWord_6 : decode cX3_readWord 6 = .ok (.aload_n 0, 1) := zk_42 (by decide +kernel)
theorem dX3_readWord_7 : decode cX3_readWord 7 = .ok (.getfield 41, 3) := zk_180 (by decide +kernel)
theorem dX3_readWord_10 : decode cX3_readWord 10 = .ok (.if_icmp .ge 77, 3) := zk_162 (by decide +kernel)
theorem dX3_readWord_13 : decode cX3_readWord 13 = .ok (.aload_n 0, 1) := zk_42 (by decide +kernel)
theorem dX3_readWord_14 : decode cX3_readWord 14 = .ok (.getfield 9, 3) := zk_180 (by decide +kernel)
theorem dX3_readWord_17 : decode cX3_readWord 17 = .ok (.aload_n 0, 1) := zk_42 (by decide +kernel)
theorem dX3_readWord_18 : decode cX3_readWord 18 = .ok (.getfield 44, 3) := zk_180 (by decide +kernel)
theorem dX3_readWord_21 : decode cX3_readWord 21 = .ok (.baload, 1) := zk_51 (by decide +kernel)
theorem dX3_readWord_22 : decode cX3_readWord 22 = .ok (.bipush 97, 2) := zk_16 (by decide +kernel)
theorem dX3_readWord_24 : decode cX3_readWord 24 = .ok (.if_icmp .lt 63, 3) := zk_161 (by decide +kernel)
theorem dX3_readWord_27 : decode cX3_readWord 27 = .ok (.aload_n 0, 1) := zk_42 (by decide +kernel)
theorem dX3_readWord_28 : decode cX3_readWord 28 = .ok (.getfield 9, 3) := zk_180 (by decide +kernel)
theorem dX3_readWord_31 : decode cX3_readWord 31 = .ok (.aload_n 0, 1) := zk_42 (by decide +kernel)
theorem dX3_readWord_32 : decode cX3_readWord 32 = .ok (.getfield 44, 3) := zk_180 (by decide +kernel)
theorem dX3_readWord_35 : decode cX3_readWord 35 = .ok (.baload, 1) := zk_51 (by decide +kernel)
theorem dX3_readWord_36 : decode cX3_readWord 36 = .ok (.bipush 122, 2) := zk_16 (by decide +kernel)
theorem dX3_readWord_38 : decode cX3_readWord 38 = .ok (.if_icmp .gt 49, 3) := zk_163 (by decide +kernel)
theorem dX3_readWord_41 : decode cX3_readWord 41 = .ok (.aload_n 0, 1) := zk_42 (by decide +kernel)
theorem dX3_readWord_42 : decode cX3_readWord 42 = .ok (.getfield 44, 3) := zk_180 (by decide +kernel)
theorem dX3_readWord_45 : decode cX3_readWord 45 = .ok (.aload_n 0, 1) := zk_42 (by decide +kernel)
theorem dX3_readWord_46 : decode cX3_readWord 46 = .ok (.getfield 50, 3) := zk_180 (by decide +kernel)
theorem dX3_readWord_49 : decode cX3_readWord 49 = .ok (.isub, 1) := zk_100 (by decide +kernel)
theorem dX3_readWord_50 : decode cX3_readWord 50 = .ok (.bipush 6, 2) := zk_16 (by decide +kernel)
theorem dX3_readWord_52 : decode cX3_readWord 52 = .ok (.if_icmp .ge 22, 3) := zk_162 (by decide +kernel)
theorem dX3_readWord_74 : decode cX3_readWord 74 = .ok (.aload_n 0, 1) := zk_42 (by decide +kernel)
theorem dX3_readWord_75 : decode cX3_readWord 75 = .ok (.dup, 1) := zk_89 (by decide +kernel)
theorem dX3_readWord_76 : decode cX3_readWord 76 = .ok (.getfield 44, 3) := zk_180 (by decide +kernel)
theorem dX3_readWord_79 : decode cX3_readWord 79 = .ok (.iconst 1, 1) := zk_4 (by decide +kernel)
theorem dX3_readWord_80 : decode cX3_readWord 80 = .ok (.iadd, 1) := zk_96 (by decide +kernel)
theorem dX3_readWord_81 : decode cX3_readWord 81 = .ok (.putfield 44, 3) := zk_181 (by decide +kernel)
theorem dX3_readWord_84 : decode cX3_readWord 84 = .ok (.goto (-82), 3) := zk_167 (by decide +kernel)
theorem dX3_readWord_55 : decode cX3_readWord 55 = .ok (.iload_n 1, 1) := zk_27 (by decide +kernel)
theorem dX3_readWord_56 : decode cX3_readWord 56 = .ok (.iconst 5, 1) := zk_8 (by decide +kernel)
theorem dX3_readWord_57 : decode cX3_readWord 57 = .ok (.ishl, 1) := zk_120 (by decide +kernel)
theorem dX3_readWord_58 : decode cX3_readWord 58 = .ok (.aload_n 0, 1) := zk_42 (by decide +kernel)
theorem dX3_readWord_59 : decode cX3_readWord 59 = .ok (.getfield 9, 3) := zk_180 (by decide +kernel)
theorem dX3_readWord_62 : decode cX3_readWord 62 = .ok (.aload_n 0, 1) := zk_42 (by decide +kernel)
theorem dX3_readWord_63 : decode cX3_readWord 63 = .ok (.getfield 44, 3) := zk_180 (by decide +kernel)
theorem dX3_readWord_66 : decode cX3_readWord 66 = .ok (.baload, 1) := zk_51 (by decide +kernel)
theorem dX3_readWord_67 : decode cX3_readWord 67 = .ok (.bipush 97, 2) := zk_16 (by decide +kernel)
theorem dX3_readWord_69 : decode cX3_readWord 69 = .ok (.isub, 1) := zk_100 (by decide +kernel)
theorem dX3_readWord_70 : decode cX3_readWord 70 = .ok (.iconst 1, 1) := zk_4 (by decide +kernel)
theorem dX3_readWord_71 : decode cX3_readWord 71 = .ok (.iadd, 1) := zk_96 (by decide +kernel)
theorem dX3_readWord_72 : decode cX3_readWord 72 = .ok (.ior, 1) := zk_128 (by decide +kernel)
theorem dX3_readWord_73 : decode cX3_readWord 73 = .ok (.istore_n 1, 1) := zk_60 (by decide +kernel)
set_option maxHeartbeats 4000000 in
set_option maxRecDepth 100000 in
theorem ge_readWord (l : Launch) (dC : Nat → ClassId) (dI : Nat → Nat → Nat) (lx : Nat) (lby : Nat) (lfi : Int32) (lco : Nat) (lxe : Int32) (lxa : Int32) (lxt : Int32) (lxp : Int32) (lxn : Int32) (lxl : Int32) (cBy : ClassId) (fBy : Nat → Int32) (cCo : ClassId) (fCo : Nat → Int32) (sz : Nat) (h0_lxa : ¬ lxa < 0) (h9_lxe : lxe ≤ 900) : Met l yX3_readWord (Cond.code yX3_readWord cX3_readWord 3 none :: wsL_law) ({ frames := 0, cells := 0, slots := 0, locals := 0 }) (va_Pc [.ref lx] (fun U => U.heap.size = sz ∧ va_P (dC, dI) vwCl [(eO3a lx lby lfi lco lxe lxa lxt lxp lxn lxl), (eA0 lby cBy 900 fBy), (eA0 lco cCo 23 fCo)] U.heap ∧ va_K (dC, dI) vwCl [(cBy, .byte), (cCo, .int)] U ∧ va_D (fun _ => True) [(eO3a lx lby lfi lco lxe lxa lxt lxp lxn lxl), (eA0 lby cBy 900 fBy), (eA0 lco cCo 23 fCo)])) (va_Qv (fun (u : (Int32) × (Int32) × (Int32)) => u = fe_readWord lxe lxa lxp lxl fBy fCo) (fun (u : (Int32) × (Int32) × (Int32)) t => va_P (dC, dI) vwCl [(eO3a lx lby lfi lco lxe u.2.1 u.1 lxp lxn u.2.2), (eA0 lby cBy 900 fBy), (eA0 lco cCo 23 fCo)] t.heap ∧ va_K (dC, dI) vwCl [] t ∧ va_D (va_A [(eO3a lx lby lfi lco lxe lxa lxt lxp lxn lxl), (eA0 lby cBy 900 fBy), (eA0 lco cCo 23 fCo)] sz) [(eO3a lx lby lfi lco lxe u.2.1 u.1 lxp lxn u.2.2), (eA0 lby cBy 900 fBy), (eA0 lco cCo 23 fCo)]) (va_A [(eO3a lx lby lfi lco lxe lxa lxt lxp lxn lxl), (eA0 lby cBy 900 fBy), (eA0 lco cCo 23 fCo)] sz)) 0 0 (va_A [(eO3a lx lby lfi lco lxe lxa lxt lxp lxn lxl), (eA0 lby cBy 900 fBy), (eA0 lco cCo 23 fCo)] sz) := by
  refine Met.ofW (cc := cX3_readWord) (maxL := 3) (ret := none) (by decide) rfl ?_
  intro p e s m args below meth c s₁ B hml hv
  obtain ⟨rfl, hsz, hP, hK, hD0⟩ := hv
  have hx := B.exec
  have hb := B.bytes
  have hr := B.returns
  have hts := atoms_spec (ws := Cond.code yX3_readWord cX3_readWord 3 none :: wsL_law) B.pre
  have htw : ∀ w ∈ wsL_law, w.before _ s = true := fun w h => hts w (List.mem_cons_of_mem _ h)
  have hown : s.vm.findClass RX3 = some m.cls := findClass_of_methodNamed B.named
  have hlocks := B.notSynchronized
  subst hsz
  have hD := hD0.self (sz := s.heap.size)
  generalize hAe : va_A [(eO3a lx lby lfi lco lxe lxa lxt lxp lxn lxl), (eA0 lby cBy 900 fBy), (eA0 lco cCo 23 fCo)] s.heap.size = A at hD ⊢
  have hA : ∀ q : Nat, s.heap.size ≤ q → A q := fun q h => by rw [← hAe]; exact Or.inr h
  obtain ⟨H, rH⟩ : ∃ z : Heap, z = s.heap := ⟨_, rfl⟩
  have hS : va_S A s.heap H [] := by rw [rH]; exact va_S.rf
  have hP : va_P (dC, dI) vwCl [(eO3a lx lby lfi lco lxe lxa lxt lxp lxn lxl), (eA0 lby cBy 900 fBy), (eA0 lco cCo 23 fCo)] H := by rw [rH]; exact hP
  rw [← rH]
  have hl := lv_entry ([.ref lx]) (n := 3) (Nat.le_of_ble_eq_true rfl)
  rw [lg_entry_eq]
  generalize (lg_sl ([.ref lx]) ++ List.replicate (3 - (lg_sl ([.ref lx])).length) Slot.unset).toArray = ls at hl ⊢
  have hl : lv_has ls 3 [(0, .ref lx)] := hl
  refine lv_iconst (v := 0) hx hb dX3_readWord_0 (by decide) ?_
  refine lv_istore_n (lv' := [(1, .int 0), (0, .ref lx)]) hx hb dX3_readWord_1 rfl hl (by decide) rfl (fun ls hl => ?_)
  obtain ⟨X_1, hX_1⟩ : ∃ X9 : (Int32) × (Int32), X9 = fe_readWord_c lxe lxp fBy 900 (0 : Int32) lxa := ⟨_, rfl⟩
  have hexit_2 : ∀ (L1cx : Int32) (lxa_cx : Int32) (hx0 : ¬ lxa_cx < 0) (hE9 : X_1 = (L1cx, lxa_cx)) (H : Heap) (locs : List Loc) (ls : Array Slot) (hP : va_P (dC, dI) vwCl [(eO3a lx lby lfi lco lxe lxa_cx lxt lxp lxn lxl), (eA0 lby cBy 900 fBy), (eA0 lco cCo 23 fCo)] H) (hD : va_D A [(eO3a lx lby lfi lco lxe lxa_cx lxt lxp lxn lxl), (eA0 lby cBy 900 fBy), (eA0 lco cCo 23 fCo)]) (hS : va_S A s.heap H locs) (hl : lv_has ls 3 [(1, .int L1cx), (0, .ref lx)]), W p l e (headSpec (Cond.code yX3_readWord cX3_readWord 3 none :: wsL_law) ({ frames := 0, cells := 0, slots := 0, locals := 0 })).room s m ([.ref lx] : List Value).toArray below meth c H locs 0 0 (MQ below (va_Qv (fun (u : (Int32) × (Int32) × (Int32)) => u = fe_readWord lxe lxa lxp lxl fBy fCo) (fun (u : (Int32) × (Int32) × (Int32)) t => va_P (dC, dI) vwCl [(eO3a lx lby lfi lco lxe u.2.1 u.1 lxp lxn u.2.2), (eA0 lby cBy 900 fBy), (eA0 lco cCo 23 fCo)] t.heap ∧ va_K (dC, dI) vwCl [] t ∧ va_D A [(eO3a lx lby lfi lco lxe u.2.1 u.1 lxp lxn u.2.2), (eA0 lby cBy 900 fBy), (eA0 lco cCo 23 fCo)]) A) ([.ref lx] : List Value).toArray s 0 0 A) (F0 m 87 ls []) := by
    intro L1cx lxa_cx hx0 hE9 H locs ls hP hD hS hl
    have hq_L1cx : L1cx = X_1.1 := by rw [hE9]
    have hq_lxa_cx : lxa_cx = X_1.2 := by rw [hE9]
    refine lv_aload_n hx hb dX3_readWord_87 rfl (lv_at hl 1 rfl) ?_
    refine va_get (D := (dC, dI)) (ci := 3) (v := .int lxa_cx) (C := RX3) (T := TX3) (N := 9) hx hb htw inlX3 hown hK hP 0 rfl rfl 4 (by decide) (htw _ (ck_14 _ (List.mem_of_getElem? (i := 11) rfl))) (fun _ h9 => h9) rfl dX3_readWord_88 ?_
    refine lv_aload_n hx hb dX3_readWord_91 rfl (lv_at hl 1 rfl) ?_
    refine va_get (D := (dC, dI)) (ci := 3) (v := .int lxp) (C := RX3) (T := TX3) (N := 9) hx hb htw inlX3 hown hK hP 0 rfl rfl 6 (by decide) (htw _ (ck_14 _ (List.mem_of_getElem? (i := 16) rfl))) (fun _ h9 => h9) rfl dX3_readWord_92 ?_
    refine lv_isub hx hb dX3_readWord_95 ?_
    refine lv_bipush (v := 6) hx hb dX3_readWord_96 (by decide) ?_
    refine lv_icmp_le (tgt := 108) hx hb dX3_readWord_98 (by decide) (fun c_3 => ?_) (fun c_3 => ?_)
    · refine lv_aload_n hx hb dX3_readWord_108 rfl (lv_at hl 1 rfl) ?_
      refine lv_iload_n hx hb dX3_readWord_109 rfl (lv_at hl 0 rfl) ?_
      refine lv_iconst (v := 5) hx hb dX3_readWord_110 (by decide) ?_
      refine lv_bipush (v := 6) hx hb dX3_readWord_111 (by decide) ?_
      refine lv_aload_n hx hb dX3_readWord_113 rfl (lv_at hl 1 rfl) ?_
      refine va_get (D := (dC, dI)) (ci := 3) (v := .int lxa_cx) (C := RX3) (T := TX3) (N := 9) hx hb htw inlX3 hown hK hP 0 rfl rfl 4 (by decide) (htw _ (ck_14 _ (List.mem_of_getElem? (i := 11) rfl))) (fun _ h9 => h9) rfl dX3_readWord_114 ?_
      refine lv_aload_n hx hb dX3_readWord_117 rfl (lv_at hl 1 rfl) ?_
      refine va_get (D := (dC, dI)) (ci := 3) (v := .int lxp) (C := RX3) (T := TX3) (N := 9) hx hb htw inlX3 hown hK hP 0 rfl rfl 6 (by decide) (htw _ (ck_14 _ (List.mem_of_getElem? (i := 16) rfl))) (fun _ h9 => h9) rfl dX3_readWord_118 ?_
      refine lv_isub hx hb dX3_readWord_121 ?_
      refine lv_isub hx hb dX3_readWord_122 ?_
      refine lv_imul hx hb dX3_readWord_123 ?_
      refine lv_ishl hx hb dX3_readWord_124 ?_
      refine va_put (D := (dC, dI)) (ci := 3) (v := .int (L1cx <<< ((5 * (6 - (lxa_cx - lxp))) &&& 31))) (ty := tyX3 8) (C := RX3) (T := TX3) (N := 9) hx hb htw inlX3 tyX3 tyX3_ok nmX3 hown hK hP hD hS 0 rfl rfl 8 (by decide) (htw _ (ck_14 _ (List.mem_of_getElem? (i := 22) rfl))) (fun _ h9 => h9) rfl (tyX3_ok 8 (by decide)) rfl rfl (Nat.le_of_ble_eq_true rfl) dX3_readWord_125 (fun H locs hP hD hS => ?_)
      obtain ⟨hP, hD⟩ := zre [(eO3a lx lby lfi lco lxe lxa_cx lxt lxp lxn (L1cx <<< ((5 * (6 - (lxa_cx - lxp))) &&& 31))), (eA0 lby cBy 900 fBy), (eA0 lco cCo 23 fCo)] hP hD rfl
      refine lv_aload_n hx hb dX3_readWord_128 rfl (lv_at hl 1 rfl) ?_
      refine lv_bipush (v := 23) hx hb dX3_readWord_129 (by decide) ?_
      refine va_put (D := (dC, dI)) (ci := 3) (v := .int 23) (ty := tyX3 5) (C := RX3) (T := TX3) (N := 9) hx hb htw inlX3 tyX3 tyX3_ok nmX3 hown hK hP hD hS 0 rfl rfl 5 (by decide) (htw _ (ck_14 _ (List.mem_of_getElem? (i := 17) rfl))) (fun _ h9 => h9) rfl (tyX3_ok 5 (by decide)) rfl rfl (Nat.le_of_ble_eq_true rfl) dX3_readWord_131 (fun H locs hP hD hS => ?_)
      obtain ⟨hP, hD⟩ := zre [(eO3a lx lby lfi lco lxe lxa_cx 23 lxp lxn (L1cx <<< ((5 * (6 - (lxa_cx - lxp))) &&& 31))), (eA0 lby cBy 900 fBy), (eA0 lco cCo 23 fCo)] hP hD rfl
      refine lv_iconst (v := 0) hx hb dX3_readWord_134 (by decide) ?_
      refine lv_istore_n (lv' := [(2, .int 0), (1, .int L1cx), (0, .ref lx)]) hx hb dX3_readWord_135 rfl hl (by decide) rfl (fun ls hl => ?_)
      have hloop_4 : ∀ (n : Nat) (L2d : Int32) (lxt_d : Int32) (h0_d : ¬ L2d < 0) (hf_d : (23 : Int32).toInt ≤ L2d.toInt + (n : Int)) (hI_d : fe_readWord lxe lxa lxp lxl fBy fCo = fe_readWord_d lxp fCo L1cx lxa_cx n L2d lxt_d) (H : Heap) (locs : List Loc) (ls : Array Slot) (hP : va_P (dC, dI) vwCl [(eO3a lx lby lfi lco lxe lxa_cx lxt_d lxp lxn (L1cx <<< ((5 * (6 - (lxa_cx - lxp))) &&& 31))), (eA0 lby cBy 900 fBy), (eA0 lco cCo 23 fCo)] H) (hD : va_D A [(eO3a lx lby lfi lco lxe lxa_cx lxt_d lxp lxn (L1cx <<< ((5 * (6 - (lxa_cx - lxp))) &&& 31))), (eA0 lby cBy 900 fBy), (eA0 lco cCo 23 fCo)]) (hS : va_S A s.heap H locs) (hl : lv_has ls 3 [(2, .int L2d), (1, .int L1cx), (0, .ref lx)]), W p l e (headSpec (Cond.code yX3_readWord cX3_readWord 3 none :: wsL_law) ({ frames := 0, cells := 0, slots := 0, locals := 0 })).room s m ([.ref lx] : List Value).toArray below meth c H locs 0 0 (MQ below (va_Qv (fun (u : (Int32) × (Int32) × (Int32)) => u = fe_readWord lxe lxa lxp lxl fBy fCo) (fun (u : (Int32) × (Int32) × (Int32)) t => va_P (dC, dI) vwCl [(eO3a lx lby lfi lco lxe u.2.1 u.1 lxp lxn u.2.2), (eA0 lby cBy 900 fBy), (eA0 lco cCo 23 fCo)] t.heap ∧ va_K (dC, dI) vwCl [] t ∧ va_D A [(eO3a lx lby lfi lco lxe u.2.1 u.1 lxp lxn u.2.2), (eA0 lby cBy 900 fBy), (eA0 lco cCo 23 fCo)]) A) ([.ref lx] : List Value).toArray s 0 0 A) (F0 m 136 ls []) := by
        intro n
        induction n with
        | zero =>
          intro L2d lxt_d h0_d hf_d hI_d H locs ls hP hD hS hl
          refine lv_iload_n hx hb dX3_readWord_136 rfl (lv_at hl 0 rfl) ?_
          refine lv_aload_n hx hb dX3_readWord_137 rfl (lv_at hl 2 rfl) ?_
          refine va_get (D := (dC, dI)) (ci := 3) (v := .ref lco) (C := RX3) (T := TX3) (N := 9) hx hb htw inlX3 hown hK hP 0 rfl rfl 2 (by decide) (htw _ (ck_3 _ (List.mem_of_getElem? (i := 15) rfl))) (fun _ h9 => h9) rfl dX3_readWord_138 ?_
          refine va_alen hx hb hK hP 2 1 rfl rfl (v := 23) rfl dX3_readWord_141 ?_
          refine lv_icmp_ge (tgt := 169) hx hb dX3_readWord_142 (by decide) (fun c_5 => ?_) (fun c_5 => absurd c_5 (fun h => h (xi_z hf_d)))
          refine W.widen (k := 0) (n := 0) (by omega) (by omega) ?_
          obtain ⟨hP9, hD9⟩ := zsub2 (ws' := [(eO3a lx lby lfi lco lxe lxa_cx lxt_d lxp lxn (L1cx <<< ((5 * (6 - (lxa_cx - lxp))) &&& 31))), (eA0 lby cBy 900 fBy), (eA0 lco cCo 23 fCo)]) hP hD [0, 1, 2] (by decide) rfl
          have hK9 := hK.sub (tys' := []) [] rfl
          exact W.vret hx hb hr (fun t ht hW => ⟨⟨(lxt_d, lxa_cx, (L1cx <<< ((5 * (6 - (lxa_cx - lxp))) &&& 31))), rfl, (Eq.symm (hI_d.trans (by rw [fe_readWord_d]; try rfl))), by rw [ht]; exact hP9, va_K.moved hW.alike hK9, hD9⟩, hS.F ht⟩) hS.2.2 dX3_readWord_169
        | succ n ih =>
          intro L2d lxt_d h0_d hf_d hI_d H locs ls hP hD hS hl
          refine lv_iload_n hx hb dX3_readWord_136 rfl (lv_at hl 0 rfl) ?_
          refine lv_aload_n hx hb dX3_readWord_137 rfl (lv_at hl 2 rfl) ?_
          refine va_get (D := (dC, dI)) (ci := 3) (v := .ref lco) (C := RX3) (T := TX3) (N := 9) hx hb htw inlX3 hown hK hP 0 rfl rfl 2 (by decide) (htw _ (ck_3 _ (List.mem_of_getElem? (i := 15) rfl))) (fun _ h9 => h9) rfl dX3_readWord_138 ?_
          refine va_alen hx hb hK hP 2 1 rfl rfl (v := 23) rfl dX3_readWord_141 ?_
          refine lv_icmp_ge (tgt := 169) hx hb dX3_readWord_142 (by decide) (fun c_6 => ?_) (fun c_6 => ?_)
          · refine W.widen (k := 0) (n := 0) (by omega) (by omega) ?_
            obtain ⟨hP9, hD9⟩ := zsub2 (ws' := [(eO3a lx lby lfi lco lxe lxa_cx lxt_d lxp lxn (L1cx <<< ((5 * (6 - (lxa_cx - lxp))) &&& 31))), (eA0 lby cBy 900 fBy), (eA0 lco cCo 23 fCo)]) hP hD [0, 1, 2] (by decide) rfl
            have hK9 := hK.sub (tys' := []) [] rfl
            exact W.vret hx hb hr (fun t ht hW => ⟨⟨(lxt_d, lxa_cx, (L1cx <<< ((5 * (6 - (lxa_cx - lxp))) &&& 31))), rfl, (Eq.symm (hI_d.trans (by rw [fe_readWord_d]; (try rw [if_pos c_6]); try rfl))), by rw [ht]; exact hP9, va_K.moved hW.alike hK9, hD9⟩, hS.F ht⟩) hS.2.2 dX3_readWord_169
          · refine lv_aload_n hx hb dX3_readWord_145 rfl (lv_at hl 2 rfl) ?_
            refine va_get (D := (dC, dI)) (ci := 3) (v := .ref lco) (C := RX3) (T := TX3) (N := 9) hx hb htw inlX3 hown hK hP 0 rfl rfl 2 (by decide) (htw _ (ck_3 _ (List.mem_of_getElem? (i := 15) rfl))) (fun _ h9 => h9) rfl dX3_readWord_146 ?_
            refine lv_iload_n hx hb dX3_readWord_149 rfl (lv_at hl 0 rfl) ?_
            refine va_iald hx hb hK hP 2 1 rfl rfl (xg_inr (N := 23) rfl (ge_readWord_s0 (y0 := L2d) c_6 h0_d).1 (ge_readWord_s0 (y0 := L2d) c_6 h0_d).2) dX3_readWord_150 ?_
            refine lv_aload_n hx hb dX3_readWord_151 rfl (lv_at hl 2 rfl) ?_
            refine va_get (D := (dC, dI)) (ci := 3) (v := .int (L1cx <<< ((5 * (6 - (lxa_cx - lxp))) &&& 31))) (C := RX3) (T := TX3) (N := 9) hx hb htw inlX3 hown hK hP 0 rfl rfl 8 (by decide) (htw _ (ck_14 _ (List.mem_of_getElem? (i := 22) rfl))) (fun _ h9 => h9) rfl dX3_readWord_152 ?_
            refine lv_icmp_ne (tgt := 163) hx hb dX3_readWord_155 (by decide) (fun c_7 => ?_) (fun c_7 => ?_)
            · refine lv_iinc (v := (L2d + 1)) (lv' := [(2, .int (L2d + 1)), (1, .int L1cx), (0, .ref lx)]) hx hb dX3_readWord_163 hl (k := 0) rfl (rfl) (by decide) rfl (fun ls hl => ?_)
              refine lv_goto (tgt := 136) hx hb dX3_readWord_166 (by decide) ?_
              exact ih (L2d + 1) lxt_d (ge_readWord_s1 (y0 := L2d) c_6 h0_d) (by rw [xi_s' c_6]; omega) (hI_d.trans (by rw [fe_readWord_d]; (try rw [if_neg c_6]); (try rw [if_neg c_7]); try rfl)) H locs ls hP hD hS (lv_sub hl [0, 1, 2] rfl)
            · refine lv_aload_n hx hb dX3_readWord_158 rfl (lv_at hl 2 rfl) ?_
              refine lv_iload_n hx hb dX3_readWord_159 rfl (lv_at hl 0 rfl) ?_
              refine va_put (D := (dC, dI)) (ci := 3) (v := .int L2d) (ty := tyX3 5) (C := RX3) (T := TX3) (N := 9) hx hb htw inlX3 tyX3 tyX3_ok nmX3 hown hK hP hD hS 0 rfl rfl 5 (by decide) (htw _ (ck_14 _ (List.mem_of_getElem? (i := 17) rfl))) (fun _ h9 => h9) rfl (tyX3_ok 5 (by decide)) rfl rfl (Nat.le_of_ble_eq_true rfl) dX3_readWord_160 (fun H locs hP hD hS => ?_)
              obtain ⟨hP, hD⟩ := zre [(eO3a lx lby lfi lco lxe lxa_cx L2d lxp lxn (L1cx <<< ((5 * (6 - (lxa_cx - lxp))) &&& 31))), (eA0 lby cBy 900 fBy), (eA0 lco cCo 23 fCo)] hP hD rfl
              refine lv_iinc (v := (L2d + 1)) (lv' := [(2, .int (L2d + 1)), (1, .int L1cx), (0, .ref lx)]) hx hb dX3_readWord_163 hl (k := 0) rfl (rfl) (by decide) rfl (fun ls hl => ?_)
              refine lv_goto (tgt := 136) hx hb dX3_readWord_166 (by decide) ?_
              exact ih (L2d + 1) L2d (ge_readWord_s2 (y0 := L2d) c_6 h0_d) (by rw [xi_s' c_6]; omega) (hI_d.trans (by rw [fe_readWord_d]; (try rw [if_neg c_6]); (try rw [if_pos c_7]); try rfl)) H locs ls hP hD hS (lv_sub hl [0, 1, 2] rfl)
      exact hloop_4 23 (0 : Int32) (23 : Int32) (ge_readWord_s3 ) (by decide) ((by rw [fe_readWord]; (try rw [← hX_1]); (try rw [xL_eq]); (try rw [← hq_L1cx]); (try rw [← hq_lxa_cx]); (try rw [if_pos c_3]); try rfl)) _ _ ls hP hD hS (lv_sub hl [0, 1, 2] rfl)
    · refine lv_aload_n hx hb dX3_readWord_101 rfl (lv_at hl 1 rfl) ?_
      refine lv_bipush (v := 39) hx hb dX3_readWord_102 (by decide) ?_
      refine va_put (D := (dC, dI)) (ci := 3) (v := .int 39) (ty := tyX3 5) (C := RX3) (T := TX3) (N := 9) hx hb htw inlX3 tyX3 tyX3_ok nmX3 hown hK hP hD hS 0 rfl rfl 5 (by decide) (htw _ (ck_14 _ (List.mem_of_getElem? (i := 17) rfl))) (fun _ h9 => h9) rfl (tyX3_ok 5 (by decide)) rfl rfl (Nat.le_of_ble_eq_true rfl) dX3_readWord_104 (fun H locs hP hD hS => ?_)
      obtain ⟨hP, hD⟩ := zre [(eO3a lx lby lfi lco lxe lxa_cx 39 lxp lxn lxl), (eA0 lby cBy 900 fBy), (eA0 lco cCo 23 fCo)] hP hD rfl
      refine W.widen (k := 0) (n := 0) (by omega) (by omega) ?_
      have hP9 := hP
      have hD9 := hD
      have hK9 := hK.sub (tys' := []) [] rfl
      exact W.vret hx hb hr (fun t ht hW => ⟨⟨(39, lxa_cx, lxl), rfl, (Eq.symm ((by rw [fe_readWord]; (try rw [← hX_1]); (try rw [xL_eq]); (try rw [← hq_L1cx]); (try rw [← hq_lxa_cx]); (try rw [if_neg c_3]); try rfl))), by rw [ht]; exact hP9, va_K.moved hW.alike hK9, hD9⟩, hS.F ht⟩) hS.2.2 dX3_readWord_107
  have hloop_8 : ∀ (n : Nat) (L1c : Int32) (lxa_c : Int32) (ha0 : ¬ lxa_c < 0) (hfu : lxe.toInt ≤ lxa_c.toInt + (n : Int)) (hI_c : X_1 = fe_readWord_c lxe lxp fBy n L1c lxa_c) (H : Heap) (locs : List Loc) (ls : Array Slot) (hP : va_P (dC, dI) vwCl [(eO3a lx lby lfi lco lxe lxa_c lxt lxp lxn lxl), (eA0 lby cBy 900 fBy), (eA0 lco cCo 23 fCo)] H) (hD : va_D A [(eO3a lx lby lfi lco lxe lxa_c lxt lxp lxn lxl), (eA0 lby cBy 900 fBy), (eA0 lco cCo 23 fCo)]) (hS : va_S A s.heap H locs) (hl : lv_has ls 3 [(1, .int L1c), (0, .ref lx)]), W p l e (headSpec (Cond.code yX3_readWord cX3_readWord 3 none :: wsL_law) ({ frames := 0, cells := 0, slots := 0, locals := 0 })).room s m ([.ref lx] : List Value).toArray below meth c H locs 0 0 (MQ below (va_Qv (fun (u : (Int32) × (Int32) × (Int32)) => u = fe_readWord lxe lxa lxp lxl fBy fCo) (fun (u : (Int32) × (Int32) × (Int32)) t => va_P (dC, dI) vwCl [(eO3a lx lby lfi lco lxe u.2.1 u.1 lxp lxn u.2.2), (eA0 lby cBy 900 fBy), (eA0 lco cCo 23 fCo)] t.heap ∧ va_K (dC, dI) vwCl [] t ∧ va_D A [(eO3a lx lby lfi lco lxe u.2.1 u.1 lxp lxn u.2.2), (eA0 lby cBy 900 fBy), (eA0 lco cCo 23 fCo)]) A) ([.ref lx] : List Value).toArray s 0 0 A) (F0 m 2 ls []) := by
    intro n
    induction n with
    | zero =>
      intro L1c lxa_c ha0 hfu hI_c H locs ls hP hD hS hl
      refine lv_aload_n hx hb dX3_readWord_2 rfl (lv_at hl 1 rfl) ?_
      refine va_get (D := (dC, dI)) (ci := 3) (v := .int lxa_c) (C := RX3) (T := TX3) (N := 9) hx hb htw inlX3 hown hK hP 0 rfl rfl 4 (by decide) (htw _ (ck_14 _ (List.mem_of_getElem? (i := 11) rfl))) (fun _ h9 => h9) rfl dX3_readWord_3 ?_
      refine lv_aload_n hx hb dX3_readWord_6 rfl (lv_at hl 1 rfl) ?_
      refine va_get (D := (dC, dI)) (ci := 3) (v := .int lxe) (C := RX3) (T := TX3) (N := 9) hx hb htw inlX3 hown hK hP 0 rfl rfl 3 (by decide) (htw _ (ck_14 _ (List.mem_of_getElem? (i := 10) rfl))) (fun _ h9 => h9) rfl dX3_readWord_7 ?_
      refine lv_icmp_ge (tgt := 87) hx hb dX3_readWord_10 (by decide) (fun c_9 => ?_) (fun c_9 => absurd c_9 (fun h => h (xi_z hfu)))
      exact hexit_2 L1c lxa_c (ge_readWord_s4 (y0 := lxa_c) (y1 := lxe) c_9 ha0 h9_lxe) (hI_c.trans (by rw [fe_readWord_c]; try rfl)) _ _ ls hP hD hS (lv_sub hl [0, 1] rfl)
    | succ n ih =>
      intro L1c lxa_c ha0 hfu hI_c H locs ls hP hD hS hl
      refine lv_aload_n hx hb dX3_readWord_2 rfl (lv_at hl 1 rfl) ?_
      refine va_get (D := (dC, dI)) (ci := 3) (v := .int lxa_c) (C := RX3) (T := TX3) (N := 9) hx hb htw inlX3 hown hK hP 0 rfl rfl 4 (by decide) (htw _ (ck_14 _ (List.mem_of_getElem? (i := 11) rfl))) (fun _ h9 => h9) rfl dX3_readWord_3 ?_
      refine lv_aload_n hx hb dX3_readWord_6 rfl (lv_at hl 1 rfl) ?_
      refine va_get (D := (dC, dI)) (ci := 3) (v := .int lxe) (C := RX3) (T := TX3) (N := 9) hx hb htw inlX3 hown hK hP 0 rfl rfl 3 (by decide) (htw _ (ck_14 _ (List.mem_of_getElem? (i := 10) rfl))) (fun _ h9 => h9) rfl dX3_readWord_7 ?_
      refine lv_icmp_ge (tgt := 87) hx hb dX3_readWord_10 (by decide) (fun c_10 => ?_) (fun c_10 => ?_)
      · exact hexit_2 L1c lxa_c (ge_readWord_s5 (y0 := lxa_c) (y1 := lxe) c_10 ha0 h9_lxe) (hI_c.trans (by rw [fe_readWord_c]; (try rw [if_pos c_10]); try rfl)) _ _ ls hP hD hS (lv_sub hl [0, 1] rfl)
      · refine lv_aload_n hx hb dX3_readWord_13 rfl (lv_at hl 1 rfl) ?_
        refine va_get (D := (dC, dI)) (ci := 3) (v := .ref lby) (C := RX3) (T := TX3) (N := 9) hx hb htw inlX3 hown hK hP 0 rfl rfl 0 (by decide) (htw _ (ck_3 _ (List.mem_of_getElem? (i := 14) rfl))) (fun _ h9 => h9) rfl dX3_readWord_14 ?_
        refine lv_aload_n hx hb dX3_readWord_17 rfl (lv_at hl 1 rfl) ?_
        refine va_get (D := (dC, dI)) (ci := 3) (v := .int lxa_c) (C := RX3) (T := TX3) (N := 9) hx hb htw inlX3 hown hK hP 0 rfl rfl 4 (by decide) (htw _ (ck_14 _ (List.mem_of_getElem? (i := 11) rfl))) (fun _ h9 => h9) rfl dX3_readWord_18 ?_
        refine va_bald hx hb hK hP 1 0 rfl rfl (xg_inr (N := 900) rfl (ge_readWord_s6 (y0 := lxa_c) (y1 := lxe) c_10 ha0 h9_lxe).1 (ge_readWord_s6 (y0 := lxa_c) (y1 := lxe) c_10 ha0 h9_lxe).2) dX3_readWord_21 ?_
        refine lv_bipush (v := 97) hx hb dX3_readWord_22 (by decide) ?_
        refine lv_icmp_lt (tgt := 87) hx hb dX3_readWord_24 (by decide) (fun c_11 => ?_) (fun c_11 => ?_)
        · exact hexit_2 L1c lxa_c (ge_readWord_s7 (y0 := lxa_c) (y1 := lxe) c_10 ha0 h9_lxe) (hI_c.trans (by rw [fe_readWord_c]; (try rw [if_neg c_10]); (try rw [if_pos c_11]); try rfl)) _ _ ls hP hD hS (lv_sub hl [0, 1] rfl)
        · refine lv_aload_n hx hb dX3_readWord_27 rfl (lv_at hl 1 rfl) ?_
          refine va_get (D := (dC, dI)) (ci := 3) (v := .ref lby) (C := RX3) (T := TX3) (N := 9) hx hb htw inlX3 hown hK hP 0 rfl rfl 0 (by decide) (htw _ (ck_3 _ (List.mem_of_getElem? (i := 14) rfl))) (fun _ h9 => h9) rfl dX3_readWord_28 ?_
          refine lv_aload_n hx hb dX3_readWord_31 rfl (lv_at hl 1 rfl) ?_
          refine va_get (D := (dC, dI)) (ci := 3) (v := .int lxa_c) (C := RX3) (T := TX3) (N := 9) hx hb htw inlX3 hown hK hP 0 rfl rfl 4 (by decide) (htw _ (ck_14 _ (List.mem_of_getElem? (i := 11) rfl))) (fun _ h9 => h9) rfl dX3_readWord_32 ?_
          refine va_bald hx hb hK hP 1 0 rfl rfl (xg_inr (N := 900) rfl (ge_readWord_s8 (y0 := lxa_c) (y1 := lxe) c_10 ha0 h9_lxe).1 (ge_readWord_s8 (y0 := lxa_c) (y1 := lxe) c_10 ha0 h9_lxe).2) dX3_readWord_35 ?_
          refine lv_bipush (v := 122) hx hb dX3_readWord_36 (by decide) ?_
          refine lv_icmp_gt (tgt := 87) hx hb dX3_readWord_38 (by decide) (fun c_12 => ?_) (fun c_12 => ?_)
          · exact hexit_2 L1c lxa_c (ge_readWord_s9 (y0 := lxa_c) (y1 := lxe) c_10 ha0 h9_lxe) (hI_c.trans (by rw [fe_readWord_c]; (try rw [if_neg c_10]); (try rw [if_neg c_11]); (try rw [if_pos c_12]); try rfl)) _ _ ls hP hD hS (lv_sub hl [0, 1] rfl)
          · refine lv_aload_n hx hb dX3_readWord_41 rfl (lv_at hl 1 rfl) ?_
            refine va_get (D := (dC, dI)) (ci := 3) (v := .int lxa_c) (C := RX3) (T := TX3) (N := 9) hx hb htw inlX3 hown hK hP 0 rfl rfl 4 (by decide) (htw _ (ck_14 _ (List.mem_of_getElem? (i := 11) rfl))) (fun _ h9 => h9) rfl dX3_readWord_42 ?_
            refine lv_aload_n hx hb dX3_readWord_45 rfl (lv_at hl 1 rfl) ?_
            refine va_get (D := (dC, dI)) (ci := 3) (v := .int lxp) (C := RX3) (T := TX3) (N := 9) hx hb htw inlX3 hown hK hP 0 rfl rfl 6 (by decide) (htw _ (ck_14 _ (List.mem_of_getElem? (i := 16) rfl))) (fun _ h9 => h9) rfl dX3_readWord_46 ?_
            refine lv_isub hx hb dX3_readWord_49 ?_
            refine lv_bipush (v := 6) hx hb dX3_readWord_50 (by decide) ?_
            refine lv_icmp_ge (tgt := 74) hx hb dX3_readWord_52 (by decide) (fun c_13 => ?_) (fun c_13 => ?_)
            · refine lv_aload_n hx hb dX3_readWord_74 rfl (lv_at hl 1 rfl) ?_
              refine lv_dup hx hb dX3_readWord_75 rfl ?_
              refine va_get (D := (dC, dI)) (ci := 3) (v := .int lxa_c) (C := RX3) (T := TX3) (N := 9) hx hb htw inlX3 hown hK hP 0 rfl rfl 4 (by decide) (htw _ (ck_14 _ (List.mem_of_getElem? (i := 11) rfl))) (fun _ h9 => h9) rfl dX3_readWord_76 ?_
              refine lv_iconst (v := 1) hx hb dX3_readWord_79 (by decide) ?_
              refine lv_iadd hx hb dX3_readWord_80 ?_
              refine va_put (D := (dC, dI)) (ci := 3) (v := .int (lxa_c + 1)) (ty := tyX3 4) (C := RX3) (T := TX3) (N := 9) hx hb htw inlX3 tyX3 tyX3_ok nmX3 hown hK hP hD hS 0 rfl rfl 4 (by decide) (htw _ (ck_14 _ (List.mem_of_getElem? (i := 11) rfl))) (fun _ h9 => h9) rfl (tyX3_ok 4 (by decide)) rfl rfl (Nat.le_of_ble_eq_true rfl) dX3_readWord_81 (fun H locs hP hD hS => ?_)
              obtain ⟨hP, hD⟩ := zre [(eO3a lx lby lfi lco lxe (lxa_c + 1) lxt lxp lxn lxl), (eA0 lby cBy 900 fBy), (eA0 lco cCo 23 fCo)] hP hD rfl
              refine lv_goto (tgt := 2) hx hb dX3_readWord_84 (by decide) ?_
              exact ih L1c (lxa_c + 1) (ge_readWord_s10 (y0 := lxa_c) (y1 := lxe) (y2 := lxp) c_10 c_13 ha0 h9_lxe) (by rw [xi_s' c_10]; omega) (hI_c.trans (by rw [fe_readWord_c]; (try rw [if_neg c_10]); (try rw [if_neg c_11]); (try rw [if_neg c_12]); (try rw [if_pos c_13]); try rfl)) H locs ls hP hD hS (lv_sub hl [0, 1] rfl)
            · refine lv_iload_n hx hb dX3_readWord_55 rfl (lv_at hl 0 rfl) ?_
              refine lv_iconst (v := 5) hx hb dX3_readWord_56 (by decide) ?_
              refine lv_ishl hx hb dX3_readWord_57 ?_
              refine lv_aload_n hx hb dX3_readWord_58 rfl (lv_at hl 1 rfl) ?_
              refine va_get (D := (dC, dI)) (ci := 3) (v := .ref lby) (C := RX3) (T := TX3) (N := 9) hx hb htw inlX3 hown hK hP 0 rfl rfl 0 (by decide) (htw _ (ck_3 _ (List.mem_of_getElem? (i := 14) rfl))) (fun _ h9 => h9) rfl dX3_readWord_59 ?_
              refine lv_aload_n hx hb dX3_readWord_62 rfl (lv_at hl 1 rfl) ?_
              refine va_get (D := (dC, dI)) (ci := 3) (v := .int lxa_c) (C := RX3) (T := TX3) (N := 9) hx hb htw inlX3 hown hK hP 0 rfl rfl 4 (by decide) (htw _ (ck_14 _ (List.mem_of_getElem? (i := 11) rfl))) (fun _ h9 => h9) rfl dX3_readWord_63 ?_
              refine va_bald hx hb hK hP 1 0 rfl rfl (xg_inr (N := 900) rfl (ge_readWord_s11 (y0 := lxa_c) (y1 := lxe) (y2 := lxp) c_10 c_13 ha0 h9_lxe).1 (ge_readWord_s11 (y0 := lxa_c) (y1 := lxe) (y2 := lxp) c_10 c_13 ha0 h9_lxe).2) dX3_readWord_66 ?_
              refine lv_bipush (v := 97) hx hb dX3_readWord_67 (by decide) ?_
              refine lv_isub hx hb dX3_readWord_69 ?_
              refine lv_iconst (v := 1) hx hb dX3_readWord_70 (by decide) ?_
              refine lv_iadd hx hb dX3_readWord_71 ?_
              refine lv_ior hx hb dX3_readWord_72 ?_
              refine lv_istore_n (lv' := [(1, .int ((L1c <<< (5 &&& 31)) ||| (((fBy lxa_c.toNatClampNeg) - 97) + 1))), (0, .ref lx)]) hx hb dX3_readWord_73 rfl hl (by decide) rfl (fun ls hl => ?_)
              refine lv_aload_n hx hb dX3_readWord_74 rfl (lv_at hl 1 rfl) ?_
              refine lv_dup hx hb dX3_readWord_75 rfl ?_
              refine va_get (D := (dC, dI)) (ci := 3) (v := .int lxa_c) (C := RX3) (T := TX3) (N := 9) hx hb htw inlX3 hown hK hP 0 rfl rfl 4 (by decide) (htw _ (ck_14 _ (List.mem_of_getElem? (i := 11) rfl))) (fun _ h9 => h9) rfl dX3_readWord_76 ?_
              refine lv_iconst (v := 1) hx hb dX3_readWord_79 (by decide) ?_
              refine lv_iadd hx hb dX3_readWord_80 ?_
              refine va_put (D := (dC, dI)) (ci := 3) (v := .int (lxa_c + 1)) (ty := tyX3 4) (C := RX3) (T := TX3) (N := 9) hx hb htw inlX3 tyX3 tyX3_ok nmX3 hown hK hP hD hS 0 rfl rfl 4 (by decide) (htw _ (ck_14 _ (List.mem_of_getElem? (i := 11) rfl))) (fun _ h9 => h9) rfl (tyX3_ok 4 (by decide)) rfl rfl (Nat.le_of_ble_eq_true rfl) dX3_readWord_81 (fun H locs hP hD hS => ?_)
              obtain ⟨hP, hD⟩ := zre [(eO3a lx lby lfi lco lxe (lxa_c + 1) lxt lxp lxn lxl), (eA0 lby cBy 900 fBy), (eA0 lco cCo 23 fCo)] hP hD rfl
              refine lv_goto (tgt := 2) hx hb dX3_readWord_84 (by decide) ?_
              exact ih ((L1c <<< (5 &&& 31)) ||| (((fBy lxa_c.toNatClampNeg) - 97) + 1)) (lxa_c + 1) (ge_readWord_s12 (y0 := lxa_c) (y1 := lxe) (y2 := lxp) c_10 c_13 ha0 h9_lxe) (by rw [xi_s' c_10]; omega) (hI_c.trans (by rw [fe_readWord_c]; (try rw [if_neg c_10]); (try rw [if_neg c_11]); (try rw [if_neg c_12]); (try rw [if_neg c_13]); try rfl)) H locs ls hP hD hS (lv_sub hl [0, 1] rfl)
  exact hloop_8 900 (0 : Int32) lxa (ge_readWord_s13 (y0 := lxa) h0_lxa) (by have := xi_le h9_lxe; have := xi_nn h0_lxa; have e9 : (900 : Int32).toInt = 900 := rfl; omega) (hX_1) _ _ ls hP hD hS (lv_sub hl [0, 1] rfl)
